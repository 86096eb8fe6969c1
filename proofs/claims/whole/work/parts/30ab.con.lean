set_option maxHeartbeats 40000000 in
set_option maxRecDepth 100000 in
theorem dm_X17_byteAt (l : Launch) (hlt : l.stackTraces = false) (dC : Nat → ClassId) (dI : Nat → Nat → Nat) (a : Nat → Nat) (ac : Nat → ClassId) (n : Nat) (v0 : Int32) (v1 : Int32) (s0 : St) {r : Int32 × (St)} (h : df_X17_byteAt n v0 v1 s0 = some r) (sz : Nat) : Met l yX17_byteAt ow_dm_X17_byteAt ({ frames := 0, cells := 0, slots := 0, locals := 0 }) (va_Pc [.ref (a 0), .int v0, .int v1] (fun U => U.heap.size = sz ∧ va_P (dC, dI) vwCl (dw_X17 a ac s0) U.heap ∧ va_K (dC, dI) vwCl (dk_X17 ac) U ∧ va_D (fun _ => True) (dw_X17 a ac s0) ∧ nv_E dI (va_A (dw_X17 a ac s0) sz) U)) (va_Qi (fun x _ => x = r.1) (fun (_ : Unit) t => va_P (dC, dI) vwCl (dw_X17 a ac r.2) t.heap ∧ va_K (dC, dI) vwCl (dk_X17 ac) t ∧ va_D (va_A (dw_X17 a ac s0) sz) (dw_X17 a ac r.2)) (va_A (dw_X17 a ac s0) sz)) 0 0 (va_A (dw_X17 a ac s0) sz) := by
  refine Met.ofW (cc := cX17_byteAt) (maxL := 3) (ret := (some .int)) (by decide) rfl ?_
  intro p e s m args below meth c s₁ B hml hv
  obtain ⟨rfl, hsz, hP, hK, hD0, hN⟩ := hv
  have hx := B.exec
  have hb := B.bytes
  have hr := B.returns
  have hts := atoms_spec (ws := ow_dm_X17_byteAt) B.pre
  have hown : s.vm.findClass RX17 = some m.cls := findClass_of_methodNamed B.named
  have hlocks := B.notSynchronized
  subst hsz
  have hD := hD0.self (sz := s.heap.size)
  generalize hAe : va_A (dw_X17 a ac s0) s.heap.size = A at hD hN ⊢
  have hA : ∀ q : Nat, s.heap.size ≤ q → A q := fun q h => by rw [← hAe]; exact Or.inr h
  have hl := lv_entry ([.ref (a 0), .int v0, .int v1]) (n := 3) (Nat.le_of_ble_eq_true rfl)
  rw [lg_entry_eq]
  generalize (lg_sl ([.ref (a 0), .int v0, .int v1]) ++ List.replicate (3 - (lg_sl ([.ref (a 0), .int v0, .int v1])).length) Slot.unset).toArray = ls at hl ⊢
  have hl : lv_has ls 3 [(0, .ref (a 0)), (1, .int v0), (2, .int v1)] := hl
  exact db_X17_byteAt_0 (dC := dC) (dI := dI) (a := a) (ac := ac) (n := n) (r := r) ⟨hlt, hx, hb, hml, hown, hts, hN, hA, hK⟩ (fun pc v τ H locs ls d z er hP hD hS => by subst er; exact W.zret (v := v) hx hb hr z (fun t ht hW => ⟨⟨v, (), rfl, rfl, by rw [ht]; exact hP, va_K.moved hW.alike hK, hD⟩, hS.F ht⟩) hS.2.2 d) v0 v1 s0 _ _ _ h hP hD va_S.rf (lv_sub hl [0, 1, 2] rfl)
def ow_dm_X17_dataSize : List Cond := Cond.code yX17_dataSize cX17_dataSize 2 (some .int) :: ([Cond.fieldLink RX17 20 "TimeMachineModel$Programs" "size" "[I", Cond.fieldLink RX17 17 "TimeMachineModel$Programs" "dataBegin" "[I"] ++ (u_ws RX17 TX17 5 ++ []))
theorem gd_dm_X17_dataSize : ∀ w ∈ ow_dm_X17_dataSize, (w.onTables && w.keeps) = true ∨ ∃ ty, w = Cond.arrayClass ty := List.forall_mem_cons.mpr ⟨good_of_word rfl, List.forall_mem_append.mpr ⟨fun w h => good_of_word (List.all_eq_true.mp (by decide +kernel) w h), List.forall_mem_append.mpr ⟨gu_X17, fun _ h => nomatch h⟩⟩⟩
theorem hi_dm_X17_dataSize_X17 : ∀ w ∈ u_ws RX17 TX17 5, w ∈ ow_dm_X17_dataSize := fun w h => List.mem_cons_of_mem _ (List.mem_append_right _ (List.mem_append_left _ h))
def dj_X17_dataSize_32 (p : Program) (l : Launch) (e : Env) (s : State) (m : MethodId) (args : Array Value) (below : List Frame) (meth : Method) (c : Code) (Q : State → Prop) (A : Nat → Prop) (dC : Nat → ClassId) (dI : Nat → Nat → Nat) (a : Nat → Nat) (ac : Nat → ClassId) (g : Int32 → (St) → Option (Int32 × (St))) (r : Int32 × (St)) : Prop := ∀ (y0 : Int32) (s0 : St) (H : Heap) (locs : List Loc) (ls : Array Slot), g y0 s0 = some r → va_P (dC, dI) vwCl (dw_X17 a ac s0) H → va_D A (dw_X17 a ac s0) → va_S A s.heap H locs → lv_has ls 2 [] → W p l e (headSpec ow_dm_X17_dataSize ({ frames := 0, cells := 0, slots := 0, locals := 0 })).room s m args below meth c H locs 0 0 Q (F0 m 32 ls [.int y0])
def dj_X17_dataSize_0 (p : Program) (l : Launch) (e : Env) (s : State) (m : MethodId) (args : Array Value) (below : List Frame) (meth : Method) (c : Code) (Q : State → Prop) (A : Nat → Prop) (dC : Nat → ClassId) (dI : Nat → Nat → Nat) (a : Nat → Nat) (ac : Nat → ClassId) (g : Int32 → (St) → Option (Int32 × (St))) (r : Int32 × (St)) : Prop := ∀ (v0 : Int32) (s0 : St) (H : Heap) (locs : List Loc) (ls : Array Slot), g v0 s0 = some r → va_P (dC, dI) vwCl (dw_X17 a ac s0) H → va_D A (dw_X17 a ac s0) → va_S A s.heap H locs → lv_has ls 2 [(0, .ref (a 0)), (1, .int v0)] → W p l e (headSpec ow_dm_X17_dataSize ({ frames := 0, cells := 0, slots := 0, locals := 0 })).room s m args below meth c H locs 0 0 Q (F0 m 0 ls [])
set_option maxHeartbeats 40000000 in
set_option maxRecDepth 100000 in
theorem db_X17_dataSize_32 {p : Program} {l : Launch} {e : Env} {s : State} {m : MethodId} {args : Array Value} {below : List Frame} {meth : Method} {c : Code} {Q : State → Prop} {A : Nat → Prop} {dC : Nat → ClassId} {dI : Nat → Nat → Nat} {a : Nat → Nat} {ac : Nat → ClassId} {n : Nat} {r : Int32 × (St)} (C : nd_C p l s m args c A (dC, dI) cX17_dataSize 2 RX17 ow_dm_X17_dataSize (dk_X17 ac)) (K : nd_Ki p l e (headSpec ow_dm_X17_dataSize ({ frames := 0, cells := 0, slots := 0, locals := 0 })).room s m args below meth c Q A (dC, dI) cX17_dataSize .int (St) (dw_X17 a ac) r) : dj_X17_dataSize_32 p l e s m args below meth c Q A dC dI a ac (df_X17_dataSize_32 n) r := by
  obtain ⟨hlt, hx, hb, hml, hown, hts, hN, hA, hK⟩ := id C
  intro y0 s0 H locs ls h hP hD hS hl
  unfold df_X17_dataSize_32 at h
  exact K _ _ _ _ _ _ dX17_dataSize_32 rfl (Option.some.inj h).symm hP hD hS
set_option maxHeartbeats 40000000 in
set_option maxRecDepth 100000 in
theorem db_X17_dataSize_0 {p : Program} {l : Launch} {e : Env} {s : State} {m : MethodId} {args : Array Value} {below : List Frame} {meth : Method} {c : Code} {Q : State → Prop} {A : Nat → Prop} {dC : Nat → ClassId} {dI : Nat → Nat → Nat} {a : Nat → Nat} {ac : Nat → ClassId} {n : Nat} {r : Int32 × (St)} (C : nd_C p l s m args c A (dC, dI) cX17_dataSize 2 RX17 ow_dm_X17_dataSize (dk_X17 ac)) (K : nd_Ki p l e (headSpec ow_dm_X17_dataSize ({ frames := 0, cells := 0, slots := 0, locals := 0 })).room s m args below meth c Q A (dC, dI) cX17_dataSize .int (St) (dw_X17 a ac) r) : dj_X17_dataSize_0 p l e s m args below meth c Q A dC dI a ac (df_X17_dataSize_0 n) r := by
  obtain ⟨hlt, hx, hb, hml, hown, hts, hN, hA, hK⟩ := id C
  intro v0 s0 H locs ls h hP hD hS hl
  unfold df_X17_dataSize_0 at h
  refine lv_aload_n hx hb dX17_dataSize_0 rfl (lv_at hl 0 rfl) ?_
  refine va_get (D := (dC, dI)) (ci := 18) (v := .ref (a 4)) (C := RX17) (T := TX17) (N := 5) hx hb hts hi_dm_X17_dataSize_X17 hown hK hP 0 rfl rfl 3 (by decide) (hts (.fieldLink RX17 20 "TimeMachineModel$Programs" "size" "[I") (List.mem_of_getElem? (i := 1) rfl)) (fun _ h9 => h9) rfl dX17_dataSize_1 ?_
  refine lv_iload_n hx hb dX17_dataSize_4 rfl (lv_at hl 1 rfl) ?_
  obtain ⟨i1, h⟩ := nd_ck_e h
  refine va_iald (i := v0) hx hb hK hP 4 3 rfl rfl i1 dX17_dataSize_5 ?_
  refine lv_aload_n hx hb dX17_dataSize_6 rfl (lv_at hl 0 rfl) ?_
  refine va_get (D := (dC, dI)) (ci := 18) (v := .ref (a 3)) (C := RX17) (T := TX17) (N := 5) hx hb hts hi_dm_X17_dataSize_X17 hown hK hP 0 rfl rfl 2 (by decide) (hts (.fieldLink RX17 17 "TimeMachineModel$Programs" "dataBegin" "[I") (List.mem_of_getElem? (i := 2) rfl)) (fun _ h9 => h9) rfl dX17_dataSize_7 ?_
  refine lv_iload_n hx hb dX17_dataSize_10 rfl (lv_at hl 1 rfl) ?_
  obtain ⟨i2, h⟩ := nd_ck_e h
  refine va_iald (i := v0) hx hb hK hP 3 2 rfl rfl i2 dX17_dataSize_11 ?_
  refine lv_icmp_le (tgt := 31) hx hb dX17_dataSize_12 (by decide) (fun c3 => ?_) (fun c3 => ?_)
  · have h := nd_pos h c3
    refine lv_iconst (v := 0) hx hb dX17_dataSize_31 (by decide) ?_
    exact (db_X17_dataSize_32 C K) (0) s0 _ _ _ h hP hD hS (lv_sub hl [] rfl)
  · have h := nd_neg h c3
    refine lv_aload_n hx hb dX17_dataSize_15 rfl (lv_at hl 0 rfl) ?_
    refine va_get (D := (dC, dI)) (ci := 18) (v := .ref (a 4)) (C := RX17) (T := TX17) (N := 5) hx hb hts hi_dm_X17_dataSize_X17 hown hK hP 0 rfl rfl 3 (by decide) (hts (.fieldLink RX17 20 "TimeMachineModel$Programs" "size" "[I") (List.mem_of_getElem? (i := 1) rfl)) (fun _ h9 => h9) rfl dX17_dataSize_16 ?_
    refine lv_iload_n hx hb dX17_dataSize_19 rfl (lv_at hl 1 rfl) ?_
    obtain ⟨i4, h⟩ := nd_ck_e h
    refine va_iald (i := v0) hx hb hK hP 4 3 rfl rfl i4 dX17_dataSize_20 ?_
    refine lv_aload_n hx hb dX17_dataSize_21 rfl (lv_at hl 0 rfl) ?_
    refine va_get (D := (dC, dI)) (ci := 18) (v := .ref (a 3)) (C := RX17) (T := TX17) (N := 5) hx hb hts hi_dm_X17_dataSize_X17 hown hK hP 0 rfl rfl 2 (by decide) (hts (.fieldLink RX17 17 "TimeMachineModel$Programs" "dataBegin" "[I") (List.mem_of_getElem? (i := 2) rfl)) (fun _ h9 => h9) rfl dX17_dataSize_22 ?_
    refine lv_iload_n hx hb dX17_dataSize_25 rfl (lv_at hl 1 rfl) ?_
    obtain ⟨i5, h⟩ := nd_ck_e h
    refine va_iald (i := v0) hx hb hK hP 3 2 rfl rfl i5 dX17_dataSize_26 ?_
    refine lv_isub hx hb dX17_dataSize_27 ?_
    refine lv_goto (tgt := 32) hx hb dX17_dataSize_28 (by decide) ?_
    exact (db_X17_dataSize_32 C K) (((sR s0 3 (Int32.toNatClampNeg v0)) - (sR s0 2 (Int32.toNatClampNeg v0)))) s0 _ _ _ h hP hD hS (lv_sub hl [] rfl)
set_option maxHeartbeats 40000000 in
set_option maxRecDepth 100000 in
theorem dm_X17_dataSize (l : Launch) (hlt : l.stackTraces = false) (dC : Nat → ClassId) (dI : Nat → Nat → Nat) (a : Nat → Nat) (ac : Nat → ClassId) (n : Nat) (v0 : Int32) (s0 : St) {r : Int32 × (St)} (h : df_X17_dataSize n v0 s0 = some r) (sz : Nat) : Met l yX17_dataSize ow_dm_X17_dataSize ({ frames := 0, cells := 0, slots := 0, locals := 0 }) (va_Pc [.ref (a 0), .int v0] (fun U => U.heap.size = sz ∧ va_P (dC, dI) vwCl (dw_X17 a ac s0) U.heap ∧ va_K (dC, dI) vwCl (dk_X17 ac) U ∧ va_D (fun _ => True) (dw_X17 a ac s0) ∧ nv_E dI (va_A (dw_X17 a ac s0) sz) U)) (va_Qi (fun x _ => x = r.1) (fun (_ : Unit) t => va_P (dC, dI) vwCl (dw_X17 a ac r.2) t.heap ∧ va_K (dC, dI) vwCl (dk_X17 ac) t ∧ va_D (va_A (dw_X17 a ac s0) sz) (dw_X17 a ac r.2)) (va_A (dw_X17 a ac s0) sz)) 0 0 (va_A (dw_X17 a ac s0) sz) := by
  refine Met.ofW (cc := cX17_dataSize) (maxL := 2) (ret := (some .int)) (by decide) rfl ?_
  intro p e s m args below meth c s₁ B hml hv
  obtain ⟨rfl, hsz, hP, hK, hD0, hN⟩ := hv
  have hx := B.exec
  have hb := B.bytes
  have hr := B.returns
  have hts := atoms_spec (ws := ow_dm_X17_dataSize) B.pre
  have hown : s.vm.findClass RX17 = some m.cls := findClass_of_methodNamed B.named
  have hlocks := B.notSynchronized
  subst hsz
  have hD := hD0.self (sz := s.heap.size)
  generalize hAe : va_A (dw_X17 a ac s0) s.heap.size = A at hD hN ⊢
  have hA : ∀ q : Nat, s.heap.size ≤ q → A q := fun q h => by rw [← hAe]; exact Or.inr h
  have hl := lv_entry ([.ref (a 0), .int v0]) (n := 2) (Nat.le_of_ble_eq_true rfl)
  rw [lg_entry_eq]
  generalize (lg_sl ([.ref (a 0), .int v0]) ++ List.replicate (2 - (lg_sl ([.ref (a 0), .int v0])).length) Slot.unset).toArray = ls at hl ⊢
  have hl : lv_has ls 2 [(0, .ref (a 0)), (1, .int v0)] := hl
  exact db_X17_dataSize_0 (dC := dC) (dI := dI) (a := a) (ac := ac) (n := n) (r := r) ⟨hlt, hx, hb, hml, hown, hts, hN, hA, hK⟩ (fun pc v τ H locs ls d z er hP hD hS => by subst er; exact W.zret (v := v) hx hb hr z (fun t ht hW => ⟨⟨v, (), rfl, rfl, by rw [ht]; exact hP, va_K.moved hW.alike hK, hD⟩, hS.F ht⟩) hS.2.2 d) v0 s0 _ _ _ h hP hD va_S.rf (lv_sub hl [0, 1] rfl)
def ow_dm_X18_part : List Cond := Cond.code yX18_part cX18_part 3 (some .int) :: ([Cond.fieldLink RX18 20 "TimeMachineModel$Reader" "bits" "I"] ++ (u_ws RX18 TX18 10 ++ []))
theorem gd_dm_X18_part : ∀ w ∈ ow_dm_X18_part, (w.onTables && w.keeps) = true ∨ ∃ ty, w = Cond.arrayClass ty := List.forall_mem_cons.mpr ⟨good_of_word rfl, List.forall_mem_append.mpr ⟨fun w h => good_of_word (List.all_eq_true.mp (by decide +kernel) w h), List.forall_mem_append.mpr ⟨gu_X18, fun _ h => nomatch h⟩⟩⟩
theorem hi_dm_X18_part_X18 : ∀ w ∈ u_ws RX18 TX18 10, w ∈ ow_dm_X18_part := fun w h => List.mem_cons_of_mem _ (List.mem_append_right _ (List.mem_append_left _ h))
def dj_X18_part_0 (p : Program) (l : Launch) (e : Env) (s : State) (m : MethodId) (args : Array Value) (below : List Frame) (meth : Method) (c : Code) (Q : State → Prop) (A : Nat → Prop) (dC : Nat → ClassId) (dI : Nat → Nat → Nat) (a : Nat → Nat) (ac : Nat → ClassId) (g : Int32 → Int32 → (St) → Option (Int32 × (St))) (r : Int32 × (St)) : Prop := ∀ (v0 : Int32) (v1 : Int32) (s0 : St) (H : Heap) (locs : List Loc) (ls : Array Slot), g v0 v1 s0 = some r → va_P (dC, dI) vwCl (dw_X18 a ac s0) H → va_D A (dw_X18 a ac s0) → va_S A s.heap H locs → lv_has ls 3 [(0, .ref (a 0)), (1, .int v0), (2, .int v1)] → W p l e (headSpec ow_dm_X18_part ({ frames := 0, cells := 0, slots := 0, locals := 0 })).room s m args below meth c H locs 0 0 Q (F0 m 0 ls [])
set_option maxHeartbeats 40000000 in
set_option maxRecDepth 100000 in
theorem db_X18_part_0 {p : Program} {l : Launch} {e : Env} {s : State} {m : MethodId} {args : Array Value} {below : List Frame} {meth : Method} {c : Code} {Q : State → Prop} {A : Nat → Prop} {dC : Nat → ClassId} {dI : Nat → Nat → Nat} {a : Nat → Nat} {ac : Nat → ClassId} {n : Nat} {r : Int32 × (St)} (C : nd_C p l s m args c A (dC, dI) cX18_part 3 RX18 ow_dm_X18_part (dk_X18 ac)) (K : nd_Ki p l e (headSpec ow_dm_X18_part ({ frames := 0, cells := 0, slots := 0, locals := 0 })).room s m args below meth c Q A (dC, dI) cX18_part .int (St) (dw_X18 a ac) r) : dj_X18_part_0 p l e s m args below meth c Q A dC dI a ac (df_X18_part_0 n) r := by
  obtain ⟨hlt, hx, hb, hml, hown, hts, hN, hA, hK⟩ := id C
  intro v0 v1 s0 H locs ls h hP hD hS hl
  unfold df_X18_part_0 at h
  refine lv_aload_n hx hb dX18_part_0 rfl (lv_at hl 0 rfl) ?_
  refine va_get (D := (dC, dI)) (ci := 19) (v := .int (sI s0 3)) (C := RX18) (T := TX18) (N := 10) hx hb hts hi_dm_X18_part_X18 hown hK hP 0 rfl rfl 4 (by decide) (hts (.fieldLink RX18 20 "TimeMachineModel$Reader" "bits" "I") (List.mem_of_getElem? (i := 1) rfl)) (fun _ h9 => h9) rfl dX18_part_1 ?_
  refine lv_iload_n hx hb dX18_part_4 rfl (lv_at hl 1 rfl) ?_
  refine lv_iushr hx hb dX18_part_5 rfl ?_
  refine lv_iconst (v := 1) hx hb dX18_part_6 (by decide) ?_
  refine lv_iload_n hx hb dX18_part_7 rfl (lv_at hl 2 rfl) ?_
  refine lv_ishl hx hb dX18_part_8 ?_
  refine lv_iconst (v := 1) hx hb dX18_part_9 (by decide) ?_
  refine lv_isub hx hb dX18_part_10 ?_
  refine lv_iand hx hb dX18_part_11 ?_
  exact K _ _ _ _ _ _ dX18_part_12 rfl (Option.some.inj h).symm hP hD hS
set_option maxHeartbeats 40000000 in
set_option maxRecDepth 100000 in
theorem dm_X18_part (l : Launch) (hlt : l.stackTraces = false) (dC : Nat → ClassId) (dI : Nat → Nat → Nat) (a : Nat → Nat) (ac : Nat → ClassId) (n : Nat) (v0 : Int32) (v1 : Int32) (s0 : St) {r : Int32 × (St)} (h : df_X18_part n v0 v1 s0 = some r) (sz : Nat) : Met l yX18_part ow_dm_X18_part ({ frames := 0, cells := 0, slots := 0, locals := 0 }) (va_Pc [.ref (a 0), .int v0, .int v1] (fun U => U.heap.size = sz ∧ va_P (dC, dI) vwCl (dw_X18 a ac s0) U.heap ∧ va_K (dC, dI) vwCl (dk_X18 ac) U ∧ va_D (fun _ => True) (dw_X18 a ac s0) ∧ nv_E dI (va_A (dw_X18 a ac s0) sz) U)) (va_Qi (fun x _ => x = r.1) (fun (_ : Unit) t => va_P (dC, dI) vwCl (dw_X18 a ac r.2) t.heap ∧ va_K (dC, dI) vwCl (dk_X18 ac) t ∧ va_D (va_A (dw_X18 a ac s0) sz) (dw_X18 a ac r.2)) (va_A (dw_X18 a ac s0) sz)) 0 0 (va_A (dw_X18 a ac s0) sz) := by
  refine Met.ofW (cc := cX18_part) (maxL := 3) (ret := (some .int)) (by decide) rfl ?_
  intro p e s m args below meth c s₁ B hml hv
  obtain ⟨rfl, hsz, hP, hK, hD0, hN⟩ := hv
  have hx := B.exec
  have hb := B.bytes
  have hr := B.returns
  have hts := atoms_spec (ws := ow_dm_X18_part) B.pre
  have hown : s.vm.findClass RX18 = some m.cls := findClass_of_methodNamed B.named
  have hlocks := B.notSynchronized
  subst hsz
  have hD := hD0.self (sz := s.heap.size)
  generalize hAe : va_A (dw_X18 a ac s0) s.heap.size = A at hD hN ⊢
  have hA : ∀ q : Nat, s.heap.size ≤ q → A q := fun q h => by rw [← hAe]; exact Or.inr h
  have hl := lv_entry ([.ref (a 0), .int v0, .int v1]) (n := 3) (Nat.le_of_ble_eq_true rfl)
  rw [lg_entry_eq]
  generalize (lg_sl ([.ref (a 0), .int v0, .int v1]) ++ List.replicate (3 - (lg_sl ([.ref (a 0), .int v0, .int v1])).length) Slot.unset).toArray = ls at hl ⊢
  have hl : lv_has ls 3 [(0, .ref (a 0)), (1, .int v0), (2, .int v1)] := hl
  exact db_X18_part_0 (dC := dC) (dI := dI) (a := a) (ac := ac) (n := n) (r := r) ⟨hlt, hx, hb, hml, hown, hts, hN, hA, hK⟩ (fun pc v τ H locs ls d z er hP hD hS => by subst er; exact W.zret (v := v) hx hb hr z (fun t ht hW => ⟨⟨v, (), rfl, rfl, by rw [ht]; exact hP, va_K.moved hW.alike hK, hD⟩, hS.F ht⟩) hS.2.2 d) v0 v1 s0 _ _ _ h hP hD va_S.rf (lv_sub hl [0, 1, 2] rfl)
def ow_dm_X18_put : List Cond := Cond.code yX18_put cX18_put 2 none :: ([Cond.fieldLink RX18 7 "TimeMachineModel$Reader" "text" "[C", Cond.fieldLink RX18 24 "TimeMachineModel$Reader" "size" "I"] ++ (u_ws RX18 TX18 10 ++ []))
theorem gd_dm_X18_put : ∀ w ∈ ow_dm_X18_put, (w.onTables && w.keeps) = true ∨ ∃ ty, w = Cond.arrayClass ty := List.forall_mem_cons.mpr ⟨good_of_word rfl, List.forall_mem_append.mpr ⟨fun w h => good_of_word (List.all_eq_true.mp (by decide +kernel) w h), List.forall_mem_append.mpr ⟨gu_X18, fun _ h => nomatch h⟩⟩⟩
theorem hi_dm_X18_put_X18 : ∀ w ∈ u_ws RX18 TX18 10, w ∈ ow_dm_X18_put := fun w h => List.mem_cons_of_mem _ (List.mem_append_right _ (List.mem_append_left _ h))
def dj_X18_put_0 (p : Program) (l : Launch) (e : Env) (s : State) (m : MethodId) (args : Array Value) (below : List Frame) (meth : Method) (c : Code) (Q : State → Prop) (A : Nat → Prop) (dC : Nat → ClassId) (dI : Nat → Nat → Nat) (a : Nat → Nat) (ac : Nat → ClassId) (g : Int32 → (St) → Option (St)) (r : St) : Prop := ∀ (v0 : Int32) (s0 : St) (H : Heap) (locs : List Loc) (ls : Array Slot), g v0 s0 = some r → va_P (dC, dI) vwCl (dw_X18 a ac s0) H → va_D A (dw_X18 a ac s0) → va_S A s.heap H locs → lv_has ls 2 [(0, .ref (a 0)), (1, .int v0)] → W p l e (headSpec ow_dm_X18_put ({ frames := 0, cells := 0, slots := 0, locals := 0 })).room s m args below meth c H locs 0 0 Q (F0 m 0 ls [])
set_option maxHeartbeats 40000000 in
set_option maxRecDepth 100000 in
theorem db_X18_put_0 {p : Program} {l : Launch} {e : Env} {s : State} {m : MethodId} {args : Array Value} {below : List Frame} {meth : Method} {c : Code} {Q : State → Prop} {A : Nat → Prop} {dC : Nat → ClassId} {dI : Nat → Nat → Nat} {a : Nat → Nat} {ac : Nat → ClassId} {n : Nat} {r : St} (C : nd_C p l s m args c A (dC, dI) cX18_put 2 RX18 ow_dm_X18_put (dk_X18 ac)) (K : nd_Kv p l e (headSpec ow_dm_X18_put ({ frames := 0, cells := 0, slots := 0, locals := 0 })).room s m args below meth c Q A (dC, dI) cX18_put (St) (dw_X18 a ac) r) : dj_X18_put_0 p l e s m args below meth c Q A dC dI a ac (df_X18_put_0 n) r := by
  obtain ⟨hlt, hx, hb, hml, hown, hts, hN, hA, hK⟩ := id C
  intro v0 s0 H locs ls h hP hD hS hl
  unfold df_X18_put_0 at h
  refine lv_aload_n hx hb dX18_put_0 rfl (lv_at hl 0 rfl) ?_
  refine va_get (D := (dC, dI)) (ci := 19) (v := .ref (a 1)) (C := RX18) (T := TX18) (N := 10) hx hb hts hi_dm_X18_put_X18 hown hK hP 0 rfl rfl 0 (by decide) (hts (.fieldLink RX18 7 "TimeMachineModel$Reader" "text" "[C") (List.mem_of_getElem? (i := 1) rfl)) (fun _ h9 => h9) rfl dX18_put_1 ?_
  refine lv_aload_n hx hb dX18_put_4 rfl (lv_at hl 0 rfl) ?_
  refine va_get (D := (dC, dI)) (ci := 19) (v := .int (sI s0 0)) (C := RX18) (T := TX18) (N := 10) hx hb hts hi_dm_X18_put_X18 hown hK hP 0 rfl rfl 1 (by decide) (hts (.fieldLink RX18 24 "TimeMachineModel$Reader" "size" "I") (List.mem_of_getElem? (i := 2) rfl)) (fun _ h9 => h9) rfl dX18_put_5 ?_
  refine lv_iload_n hx hb dX18_put_8 rfl (lv_at hl 1 rfl) ?_
  refine lv_i2c hx hb dX18_put_9 rfl ?_
  obtain ⟨i1, h⟩ := nd_ck_e h
  refine va_cast (i := (sI s0 0)) (x := (v0.toUInt32.toUInt16.toUInt32.toInt32)) hx hb hK hP hD hS 1 0 rfl rfl i1 dX18_put_10 (fun H locs hP hD hS => ?_)
  obtain ⟨s2, es2, h⟩ := nd_let_e h
  have hP : va_P (dC, dI) vwCl (dw_X18 a ac s2) H := by rw [es2]; exact hP
  have hD : va_D A (dw_X18 a ac s2) := by rw [es2]; exact hD
  refine lv_aload_n hx hb dX18_put_11 rfl (lv_at hl 0 rfl) ?_
  refine lv_dup hx hb dX18_put_12 rfl ?_
  refine va_get (D := (dC, dI)) (ci := 19) (v := .int (sI s2 0)) (C := RX18) (T := TX18) (N := 10) hx hb hts hi_dm_X18_put_X18 hown hK hP 0 rfl rfl 1 (by decide) (hts (.fieldLink RX18 24 "TimeMachineModel$Reader" "size" "I") (List.mem_of_getElem? (i := 2) rfl)) (fun _ h9 => h9) rfl dX18_put_13 ?_
  refine lv_iconst (v := 1) hx hb dX18_put_16 (by decide) ?_
  refine lv_iadd hx hb dX18_put_17 ?_
  refine va_put (D := (dC, dI)) (ci := 19) (v := .int ((sI s2 0) + 1)) (ty := .int) (C := RX18) (T := TX18) (N := 10) hx hb hts hi_dm_X18_put_X18 tyX18 tyX18_ok nmX18 hown hK hP hD hS 0 rfl rfl 1 (by decide) (hts (.fieldLink RX18 24 "TimeMachineModel$Reader" "size" "I") (List.mem_of_getElem? (i := 2) rfl)) (fun _ h9 => h9) rfl (by decide +kernel) rfl rfl (Nat.le_of_ble_eq_true rfl) dX18_put_18 (fun H locs hP hD hS => ?_)
  obtain ⟨s3, es3, h⟩ := nd_let_e h
  have hP : va_P (dC, dI) vwCl (dw_X18 a ac s3) H := by rw [es3]; exact hP
  have hD : va_D A (dw_X18 a ac s3) := by rw [es3]; exact hD
  exact K _ _ _ _ _ dX18_put_21 (Option.some.inj h).symm hP hD hS
set_option maxHeartbeats 40000000 in
set_option maxRecDepth 100000 in
theorem dm_X18_put (l : Launch) (hlt : l.stackTraces = false) (dC : Nat → ClassId) (dI : Nat → Nat → Nat) (a : Nat → Nat) (ac : Nat → ClassId) (n : Nat) (v0 : Int32) (s0 : St) {r : St} (h : df_X18_put n v0 s0 = some r) (sz : Nat) : Met l yX18_put ow_dm_X18_put ({ frames := 0, cells := 0, slots := 0, locals := 0 }) (va_Pc [.ref (a 0), .int v0] (fun U => U.heap.size = sz ∧ va_P (dC, dI) vwCl (dw_X18 a ac s0) U.heap ∧ va_K (dC, dI) vwCl (dk_X18 ac) U ∧ va_D (fun _ => True) (dw_X18 a ac s0) ∧ nv_E dI (va_A (dw_X18 a ac s0) sz) U)) (va_Qv (fun _ => True) (fun (_ : Unit) t => va_P (dC, dI) vwCl (dw_X18 a ac r) t.heap ∧ va_K (dC, dI) vwCl (dk_X18 ac) t ∧ va_D (va_A (dw_X18 a ac s0) sz) (dw_X18 a ac r)) (va_A (dw_X18 a ac s0) sz)) 0 0 (va_A (dw_X18 a ac s0) sz) := by
  refine Met.ofW (cc := cX18_put) (maxL := 2) (ret := none) (by decide) rfl ?_
  intro p e s m args below meth c s₁ B hml hv
  obtain ⟨rfl, hsz, hP, hK, hD0, hN⟩ := hv
  have hx := B.exec
  have hb := B.bytes
  have hr := B.returns
  have hts := atoms_spec (ws := ow_dm_X18_put) B.pre
  have hown : s.vm.findClass RX18 = some m.cls := findClass_of_methodNamed B.named
  have hlocks := B.notSynchronized
  subst hsz
  have hD := hD0.self (sz := s.heap.size)
  generalize hAe : va_A (dw_X18 a ac s0) s.heap.size = A at hD hN ⊢
  have hA : ∀ q : Nat, s.heap.size ≤ q → A q := fun q h => by rw [← hAe]; exact Or.inr h
  have hl := lv_entry ([.ref (a 0), .int v0]) (n := 2) (Nat.le_of_ble_eq_true rfl)
  rw [lg_entry_eq]
  generalize (lg_sl ([.ref (a 0), .int v0]) ++ List.replicate (2 - (lg_sl ([.ref (a 0), .int v0])).length) Slot.unset).toArray = ls at hl ⊢
  have hl : lv_has ls 2 [(0, .ref (a 0)), (1, .int v0)] := hl
  exact db_X18_put_0 (dC := dC) (dI := dI) (a := a) (ac := ac) (n := n) (r := r) ⟨hlt, hx, hb, hml, hown, hts, hN, hA, hK⟩ (fun pc τ H locs ls d er hP hD hS => by subst er; exact W.vret hx hb hr (fun t ht hW => ⟨⟨(), rfl, trivial, by rw [ht]; exact hP, va_K.moved hW.alike hK, hD⟩, hS.F ht⟩) hS.2.2 d) v0 s0 _ _ _ h hP hD va_S.rf (lv_sub hl [0, 1] rfl)
def ow_dm_X18_say : List Cond := Cond.code yX18_say cX18_say 5 none :: ([Cond.constantLong RX18 27 (255), Cond.methodLink RX18 29 yX18_put, Cond.instanceMethod yX18_put, Cond.selects RX18 yX18_put yX18_put, Cond.initialized RX18] ++ (ow_dm_X18_put ++ []))
theorem gd_dm_X18_say : ∀ w ∈ ow_dm_X18_say, (w.onTables && w.keeps) = true ∨ ∃ ty, w = Cond.arrayClass ty := List.forall_mem_cons.mpr ⟨good_of_word rfl, List.forall_mem_append.mpr ⟨fun w h => good_of_word (List.all_eq_true.mp (by decide +kernel) w h), List.forall_mem_append.mpr ⟨gd_dm_X18_put, fun _ h => nomatch h⟩⟩⟩
theorem gi_dm_X18_say_0 : GoodIn ow_dm_X18_say (wsV RX18 29 RX18 yX18_put ow_dm_X18_put) := goodIn_app (goodIn_of _ (by decide +kernel)) (fun w h => ⟨List.mem_cons_of_mem _ (List.mem_append_right _ (List.mem_append_left _ h)), gd_dm_X18_put w h⟩)
def dj_X18_say_2 (p : Program) (l : Launch) (e : Env) (s : State) (m : MethodId) (args : Array Value) (below : List Frame) (meth : Method) (c : Code) (Q : State → Prop) (A : Nat → Prop) (dC : Nat → ClassId) (dI : Nat → Nat → Nat) (a : Nat → Nat) (ac : Nat → ClassId) (g : Int64 → (St) → Option (St)) (r : St) : Prop := ∀ (x3 : Int64) (s0 : St) (H : Heap) (locs : List Loc) (ls : Array Slot), g x3 s0 = some r → va_P (dC, dI) vwCl (dw_X18 a ac s0) H → va_D A (dw_X18 a ac s0) → va_S A s.heap H locs → lv_has ls 5 [(0, .ref (a 0)), (3, .long x3)] → W p l e (headSpec ow_dm_X18_say ({ frames := 1, cells := 0, slots := 0, locals := 21 })).room s m args below meth c H locs 0 0 Q (F0 m 2 ls [])
def dj_X18_say_0 (p : Program) (l : Launch) (e : Env) (s : State) (m : MethodId) (args : Array Value) (below : List Frame) (meth : Method) (c : Code) (Q : State → Prop) (A : Nat → Prop) (dC : Nat → ClassId) (dI : Nat → Nat → Nat) (a : Nat → Nat) (ac : Nat → ClassId) (g : Int64 → (St) → Option (St)) (r : St) : Prop := ∀ (v0 : Int64) (s0 : St) (H : Heap) (locs : List Loc) (ls : Array Slot), g v0 s0 = some r → va_P (dC, dI) vwCl (dw_X18 a ac s0) H → va_D A (dw_X18 a ac s0) → va_S A s.heap H locs → lv_has ls 5 [(0, .ref (a 0)), (1, .long v0)] → W p l e (headSpec ow_dm_X18_say ({ frames := 1, cells := 0, slots := 0, locals := 21 })).room s m args below meth c H locs 0 0 Q (F0 m 0 ls [])
set_option maxHeartbeats 40000000 in
set_option maxRecDepth 100000 in
theorem dB_X18_say_2 {p : Program} {l : Launch} {e : Env} {s : State} {m : MethodId} {args : Array Value} {below : List Frame} {meth : Method} {c : Code} {Q : State → Prop} {A : Nat → Prop} {dC : Nat → ClassId} {dI : Nat → Nat → Nat} {a : Nat → Nat} {ac : Nat → ClassId} {n : Nat} {r : St} (C : nd_C p l s m args c A (dC, dI) cX18_say 5 RX18 ow_dm_X18_say (dk_X18 ac)) (K : nd_Kv p l e (headSpec ow_dm_X18_say ({ frames := 1, cells := 0, slots := 0, locals := 21 })).room s m args below meth c Q A (dC, dI) cX18_say (St) (dw_X18 a ac) r) {g2 : Int64 → (St) → Option (St)} (J2 : dj_X18_say_2 p l e s m args below meth c Q A dC dI a ac g2 r) : dj_X18_say_2 p l e s m args below meth c Q A dC dI a ac (dF_X18_say_2 n g2) r := by
  obtain ⟨hlt, hx, hb, hml, hown, hts, hN, hA, hK⟩ := id C
  intro x3 s0 H locs ls h hP hD hS hl
  unfold dF_X18_say_2 at h
  refine lv_lload_n hx hb dX18_say_2 rfl (lv_at hl 1 rfl) ?_
  refine lv_lconst (v := 0) hx hb dX18_say_3 (by decide) ?_
  refine W.lcmp hx hb dX18_say_4 ?_
  refine lv_if_eq (tgt := 26) hx hb dX18_say_5 (by decide) (fun c1 => ?_) (fun c1 => ?_)
  · have h := nd_pos h c1
    exact K _ _ _ _ _ dX18_say_26 (Option.some.inj h).symm hP hD hS
  · have h := nd_neg h c1
    refine lv_aload_n hx hb dX18_say_8 rfl (lv_at hl 0 rfl) ?_
    refine lv_lload_n hx hb dX18_say_9 rfl (lv_at hl 1 rfl) ?_
    refine lv_ldc2 hx hb hown (hts (.constantLong RX18 27 (255)) (List.mem_of_getElem? (i := 1) rfl)) dX18_say_10 ?_
    refine lv_land hx hb dX18_say_13 ?_
    refine lv_l2i hx hb dX18_say_14 rfl ?_
    obtain ⟨s3, hq, h⟩ := nd_b1_e h
    have hPc := hP
    have hDc := hD
    have hKc := hK
    have hFc := nd_rs hD hS hA
    refine nd_cVv (As := [.int (((x3 : Int64) &&& 255).toInt32)]) (rest := []) (w' := dw_X18 a ac s3) ⟨hx, hb, hml, hown, hts⟩ (fun sz => dm_X18_put l hlt dC dI a ac n ((((x3 : Int64) &&& 255).toInt32)) s0 hq sz) (cwV 1 hts gi_dm_X18_say_0 rfl rfl rfl (by decide +kernel) ⟨Nat.le_of_ble_eq_true rfl, Nat.le_of_ble_eq_true rfl⟩) hPc hDc hKc hS hA hN (va_recv hKc hPc (ci := 19) (q0 := 0) rfl rfl) rfl hl.1 rfl (Nat.le_of_ble_eq_true rfl) dX18_say_15 (fun H locs hP1 hD1 hk1 hS => ?_)
    have hP := hP1
    have hD := hD1.weaken (fun k q _ h => hFc q.1 h)
    refine lv_lload_n hx hb dX18_say_18 rfl (lv_at hl 1 rfl) ?_
    refine lv_bipush (v := 8) hx hb dX18_say_19 (by decide) ?_
    refine lv_lushr hx hb dX18_say_21 rfl ?_
    refine lv_topl (fun z5 ez5 => ?_)
    have h := nd_at h ez5
    refine lv_lstore_n (lv' := [(3, .long z5), (0, .ref (a 0))]) hx hb dX18_say_22 rfl hl (by decide) rfl (fun ls hl => ?_)
    refine lv_goto (tgt := 2) hx hb dX18_say_23 (by decide) ?_
    exact (J2) (z5) s3 _ _ _ h hP hD hS (lv_sub hl [1, 0] rfl)
set_option maxHeartbeats 40000000 in
set_option maxRecDepth 100000 in
theorem db_X18_say_2 {p : Program} {l : Launch} {e : Env} {s : State} {m : MethodId} {args : Array Value} {below : List Frame} {meth : Method} {c : Code} {Q : State → Prop} {A : Nat → Prop} {dC : Nat → ClassId} {dI : Nat → Nat → Nat} {a : Nat → Nat} {ac : Nat → ClassId} {n : Nat} {r : St} (C : nd_C p l s m args c A (dC, dI) cX18_say 5 RX18 ow_dm_X18_say (dk_X18 ac)) (K : nd_Kv p l e (headSpec ow_dm_X18_say ({ frames := 1, cells := 0, slots := 0, locals := 21 })).room s m args below meth c Q A (dC, dI) cX18_say (St) (dw_X18 a ac) r) (k : Nat) : dj_X18_say_2 p l e s m args below meth c Q A dC dI a ac (df_X18_say_2 n k) r := by
  induction k with
  | zero => intro x3 s0 H locs ls h; exact nomatch (show (none : Option (St)) = some r from h)
  | succ k ih => exact dB_X18_say_2 C K ih
set_option maxHeartbeats 40000000 in
set_option maxRecDepth 100000 in
theorem db_X18_say_0 {p : Program} {l : Launch} {e : Env} {s : State} {m : MethodId} {args : Array Value} {below : List Frame} {meth : Method} {c : Code} {Q : State → Prop} {A : Nat → Prop} {dC : Nat → ClassId} {dI : Nat → Nat → Nat} {a : Nat → Nat} {ac : Nat → ClassId} {n : Nat} {r : St} (C : nd_C p l s m args c A (dC, dI) cX18_say 5 RX18 ow_dm_X18_say (dk_X18 ac)) (K : nd_Kv p l e (headSpec ow_dm_X18_say ({ frames := 1, cells := 0, slots := 0, locals := 21 })).room s m args below meth c Q A (dC, dI) cX18_say (St) (dw_X18 a ac) r) : dj_X18_say_0 p l e s m args below meth c Q A dC dI a ac (df_X18_say_0 n) r := by
  obtain ⟨hlt, hx, hb, hml, hown, hts, hN, hA, hK⟩ := id C
  intro v0 s0 H locs ls h hP hD hS hl
  unfold df_X18_say_0 at h
  refine lv_lload_n hx hb dX18_say_0 rfl (lv_at hl 1 rfl) ?_
  refine lv_lstore_n (lv' := [(3, .long v0), (0, .ref (a 0)), (1, .long v0)]) hx hb dX18_say_1 rfl hl (by decide) rfl (fun ls hl => ?_)
  exact (db_X18_say_2 C K n) (v0) s0 _ _ _ h hP hD hS (lv_sub hl [1, 0] rfl)
set_option maxHeartbeats 40000000 in
set_option maxRecDepth 100000 in
theorem dm_X18_say (l : Launch) (hlt : l.stackTraces = false) (dC : Nat → ClassId) (dI : Nat → Nat → Nat) (a : Nat → Nat) (ac : Nat → ClassId) (n : Nat) (v0 : Int64) (s0 : St) {r : St} (h : df_X18_say n v0 s0 = some r) (sz : Nat) : Met l yX18_say ow_dm_X18_say ({ frames := 1, cells := 0, slots := 0, locals := 21 }) (va_Pc [.ref (a 0), .long v0] (fun U => U.heap.size = sz ∧ va_P (dC, dI) vwCl (dw_X18 a ac s0) U.heap ∧ va_K (dC, dI) vwCl (dk_X18 ac) U ∧ va_D (fun _ => True) (dw_X18 a ac s0) ∧ nv_E dI (va_A (dw_X18 a ac s0) sz) U)) (va_Qv (fun _ => True) (fun (_ : Unit) t => va_P (dC, dI) vwCl (dw_X18 a ac r) t.heap ∧ va_K (dC, dI) vwCl (dk_X18 ac) t ∧ va_D (va_A (dw_X18 a ac s0) sz) (dw_X18 a ac r)) (va_A (dw_X18 a ac s0) sz)) 0 0 (va_A (dw_X18 a ac s0) sz) := by
  refine Met.ofW (cc := cX18_say) (maxL := 5) (ret := none) (by decide) rfl ?_
  intro p e s m args below meth c s₁ B hml hv
  obtain ⟨rfl, hsz, hP, hK, hD0, hN⟩ := hv
  have hx := B.exec
  have hb := B.bytes
  have hr := B.returns
  have hts := atoms_spec (ws := ow_dm_X18_say) B.pre
  have hown : s.vm.findClass RX18 = some m.cls := findClass_of_methodNamed B.named
  have hlocks := B.notSynchronized
  subst hsz
  have hD := hD0.self (sz := s.heap.size)
  generalize hAe : va_A (dw_X18 a ac s0) s.heap.size = A at hD hN ⊢
  have hA : ∀ q : Nat, s.heap.size ≤ q → A q := fun q h => by rw [← hAe]; exact Or.inr h
  have hl := lv_entry ([.ref (a 0), .long v0]) (n := 5) (Nat.le_of_ble_eq_true rfl)
  rw [lg_entry_eq]
  generalize (lg_sl ([.ref (a 0), .long v0]) ++ List.replicate (5 - (lg_sl ([.ref (a 0), .long v0])).length) Slot.unset).toArray = ls at hl ⊢
  have hl : lv_has ls 5 [(0, .ref (a 0)), (1, .long v0)] := hl
  exact db_X18_say_0 (dC := dC) (dI := dI) (a := a) (ac := ac) (n := n) (r := r) ⟨hlt, hx, hb, hml, hown, hts, hN, hA, hK⟩ (fun pc τ H locs ls d er hP hD hS => by subst er; exact W.vret hx hb hr (fun t ht hW => ⟨⟨(), rfl, trivial, by rw [ht]; exact hP, va_K.moved hW.alike hK, hD⟩, hS.F ht⟩) hS.2.2 d) v0 s0 _ _ _ h hP hD va_S.rf (lv_sub hl [0, 1] rfl)
def ow_dm_X18_digits : List Cond := Cond.code yX18_digits cX18_digits 7 none :: ([Cond.constantLong RX18 33 (9), Cond.constantLong RX18 37 (48), Cond.constantLong RX18 35 (10), Cond.methodLink RX18 29 yX18_put, Cond.instanceMethod yX18_put, Cond.selects RX18 yX18_put yX18_put, Cond.initialized RX18] ++ (ow_dm_X18_put ++ []))
theorem gd_dm_X18_digits : ∀ w ∈ ow_dm_X18_digits, (w.onTables && w.keeps) = true ∨ ∃ ty, w = Cond.arrayClass ty := List.forall_mem_cons.mpr ⟨good_of_word rfl, List.forall_mem_append.mpr ⟨fun w h => good_of_word (List.all_eq_true.mp (by decide +kernel) w h), List.forall_mem_append.mpr ⟨gd_dm_X18_put, fun _ h => nomatch h⟩⟩⟩
theorem gi_dm_X18_digits_0 : GoodIn ow_dm_X18_digits (wsV RX18 29 RX18 yX18_put ow_dm_X18_put) := goodIn_app (goodIn_of _ (by decide +kernel)) (fun w h => ⟨List.mem_cons_of_mem _ (List.mem_append_right _ (List.mem_append_left _ h)), gd_dm_X18_put w h⟩)
def dj_X18_digits_24 (p : Program) (l : Launch) (e : Env) (s : State) (m : MethodId) (args : Array Value) (below : List Frame) (meth : Method) (c : Code) (Q : State → Prop) (A : Nat → Prop) (dC : Nat → ClassId) (dI : Nat → Nat → Nat) (a : Nat → Nat) (ac : Nat → ClassId) (g : Int64 → Int64 → (St) → Option (St)) (r : St) : Prop := ∀ (x1 : Int64) (x5 : Int64) (s0 : St) (H : Heap) (locs : List Loc) (ls : Array Slot), g x1 x5 s0 = some r → va_P (dC, dI) vwCl (dw_X18 a ac s0) H → va_D A (dw_X18 a ac s0) → va_S A s.heap H locs → lv_has ls 7 [(0, .ref (a 0)), (1, .long x1), (5, .long x5)] → W p l e (headSpec ow_dm_X18_digits ({ frames := 1, cells := 0, slots := 0, locals := 21 })).room s m args below meth c H locs 0 0 Q (F0 m 24 ls [])
def dj_X18_digits_2 (p : Program) (l : Launch) (e : Env) (s : State) (m : MethodId) (args : Array Value) (below : List Frame) (meth : Method) (c : Code) (Q : State → Prop) (A : Nat → Prop) (dC : Nat → ClassId) (dI : Nat → Nat → Nat) (a : Nat → Nat) (ac : Nat → ClassId) (g : Int64 → Int64 → (St) → Option (St)) (r : St) : Prop := ∀ (x1 : Int64) (x3 : Int64) (s0 : St) (H : Heap) (locs : List Loc) (ls : Array Slot), g x1 x3 s0 = some r → va_P (dC, dI) vwCl (dw_X18 a ac s0) H → va_D A (dw_X18 a ac s0) → va_S A s.heap H locs → lv_has ls 7 [(0, .ref (a 0)), (1, .long x1), (3, .long x3)] → W p l e (headSpec ow_dm_X18_digits ({ frames := 1, cells := 0, slots := 0, locals := 21 })).room s m args below meth c H locs 0 0 Q (F0 m 2 ls [])
def dj_X18_digits_0 (p : Program) (l : Launch) (e : Env) (s : State) (m : MethodId) (args : Array Value) (below : List Frame) (meth : Method) (c : Code) (Q : State → Prop) (A : Nat → Prop) (dC : Nat → ClassId) (dI : Nat → Nat → Nat) (a : Nat → Nat) (ac : Nat → ClassId) (g : Int64 → (St) → Option (St)) (r : St) : Prop := ∀ (v0 : Int64) (s0 : St) (H : Heap) (locs : List Loc) (ls : Array Slot), g v0 s0 = some r → va_P (dC, dI) vwCl (dw_X18 a ac s0) H → va_D A (dw_X18 a ac s0) → va_S A s.heap H locs → lv_has ls 7 [(0, .ref (a 0)), (1, .long v0)] → W p l e (headSpec ow_dm_X18_digits ({ frames := 1, cells := 0, slots := 0, locals := 21 })).room s m args below meth c H locs 0 0 Q (F0 m 0 ls [])
set_option maxHeartbeats 40000000 in
set_option maxRecDepth 100000 in
theorem dB_X18_digits_24 {p : Program} {l : Launch} {e : Env} {s : State} {m : MethodId} {args : Array Value} {below : List Frame} {meth : Method} {c : Code} {Q : State → Prop} {A : Nat → Prop} {dC : Nat → ClassId} {dI : Nat → Nat → Nat} {a : Nat → Nat} {ac : Nat → ClassId} {n : Nat} {r : St} (C : nd_C p l s m args c A (dC, dI) cX18_digits 7 RX18 ow_dm_X18_digits (dk_X18 ac)) (K : nd_Kv p l e (headSpec ow_dm_X18_digits ({ frames := 1, cells := 0, slots := 0, locals := 21 })).room s m args below meth c Q A (dC, dI) cX18_digits (St) (dw_X18 a ac) r) {g24 : Int64 → Int64 → (St) → Option (St)} (J24 : dj_X18_digits_24 p l e s m args below meth c Q A dC dI a ac g24 r) : dj_X18_digits_24 p l e s m args below meth c Q A dC dI a ac (dF_X18_digits_24 n g24) r := by
  obtain ⟨hlt, hx, hb, hml, hown, hts, hN, hA, hK⟩ := id C
  intro x1 x5 s0 H locs ls h hP hD hS hl
  unfold dF_X18_digits_24 at h
  refine lv_lload hx hb dX18_digits_24 (lv_at hl 2 rfl) ?_
  refine lv_lconst (v := 0) hx hb dX18_digits_26 (by decide) ?_
  refine W.lcmp hx hb dX18_digits_27 ?_
  refine lv_if_le (tgt := 59) hx hb dX18_digits_28 (by decide) (fun c3 => ?_) (fun c3 => ?_)
  · have h := nd_pos h c3
    exact K _ _ _ _ _ dX18_digits_59 (Option.some.inj h).symm hP hD hS
  · have h := nd_neg h c3
    refine lv_aload_n hx hb dX18_digits_31 rfl (lv_at hl 0 rfl) ?_
    refine lv_ldc2 hx hb hown (hts (.constantLong RX18 37 (48)) (List.mem_of_getElem? (i := 2) rfl)) dX18_digits_32 ?_
    refine lv_lload_n hx hb dX18_digits_35 rfl (lv_at hl 1 rfl) ?_
    refine lv_lload hx hb dX18_digits_36 (lv_at hl 2 rfl) ?_
    obtain ⟨i4, h⟩ := nd_nz_e h
    refine lv_ldiv hx hb dX18_digits_38 i4 ?_
    refine lv_ldc2 hx hb hown (hts (.constantLong RX18 35 (10)) (List.mem_of_getElem? (i := 3) rfl)) dX18_digits_39 ?_
    refine lv_lrem hx hb dX18_digits_42 (by decide) ?_
    refine lv_ladd hx hb dX18_digits_43 ?_
    refine lv_l2i hx hb dX18_digits_44 rfl ?_
    obtain ⟨s6, hq, h⟩ := nd_b1_e h
    have hPc := hP
    have hDc := hD
    have hKc := hK
    have hFc := nd_rs hD hS hA
    refine nd_cVv (As := [.int (((48 : Int64) + ((((x1 : Int64) / x5) : Int64) - ((x1 : Int64) / x5) / 10 * 10)).toInt32)]) (rest := []) (w' := dw_X18 a ac s6) ⟨hx, hb, hml, hown, hts⟩ (fun sz => dm_X18_put l hlt dC dI a ac n ((((48 : Int64) + ((((x1 : Int64) / x5) : Int64) - ((x1 : Int64) / x5) / 10 * 10)).toInt32)) s0 hq sz) (cwV 1 hts gi_dm_X18_digits_0 rfl rfl rfl (by decide +kernel) ⟨Nat.le_of_ble_eq_true rfl, Nat.le_of_ble_eq_true rfl⟩) hPc hDc hKc hS hA hN (va_recv hKc hPc (ci := 19) (q0 := 0) rfl rfl) rfl hl.1 rfl (Nat.le_of_ble_eq_true rfl) dX18_digits_45 (fun H locs hP1 hD1 hk1 hS => ?_)
    have hP := hP1
    have hD := hD1.weaken (fun k q _ h => hFc q.1 h)
    refine lv_lload hx hb dX18_digits_48 (lv_at hl 2 rfl) ?_
    refine lv_ldc2 hx hb hown (hts (.constantLong RX18 35 (10)) (List.mem_of_getElem? (i := 3) rfl)) dX18_digits_50 ?_
    refine lv_ldiv hx hb dX18_digits_53 (by decide) ?_
    refine lv_topl (fun z8 ez8 => ?_)
    have h := nd_at h ez8
    refine lv_lstore (lv' := [(5, .long z8), (0, .ref (a 0)), (1, .long x1)]) hx hb dX18_digits_54 hl (by decide) rfl (fun ls hl => ?_)
    refine lv_goto (tgt := 24) hx hb dX18_digits_56 (by decide) ?_
    exact (J24) (x1) (z8) s6 _ _ _ h hP hD hS (lv_sub hl [1, 2, 0] rfl)
set_option maxHeartbeats 40000000 in
set_option maxRecDepth 100000 in
theorem db_X18_digits_24 {p : Program} {l : Launch} {e : Env} {s : State} {m : MethodId} {args : Array Value} {below : List Frame} {meth : Method} {c : Code} {Q : State → Prop} {A : Nat → Prop} {dC : Nat → ClassId} {dI : Nat → Nat → Nat} {a : Nat → Nat} {ac : Nat → ClassId} {n : Nat} {r : St} (C : nd_C p l s m args c A (dC, dI) cX18_digits 7 RX18 ow_dm_X18_digits (dk_X18 ac)) (K : nd_Kv p l e (headSpec ow_dm_X18_digits ({ frames := 1, cells := 0, slots := 0, locals := 21 })).room s m args below meth c Q A (dC, dI) cX18_digits (St) (dw_X18 a ac) r) (k : Nat) : dj_X18_digits_24 p l e s m args below meth c Q A dC dI a ac (df_X18_digits_24 n k) r := by
  induction k with
  | zero => intro x1 x5 s0 H locs ls h; exact nomatch (show (none : Option (St)) = some r from h)
  | succ k ih => exact dB_X18_digits_24 C K ih
set_option maxHeartbeats 40000000 in
set_option maxRecDepth 100000 in
theorem dB_X18_digits_2 {p : Program} {l : Launch} {e : Env} {s : State} {m : MethodId} {args : Array Value} {below : List Frame} {meth : Method} {c : Code} {Q : State → Prop} {A : Nat → Prop} {dC : Nat → ClassId} {dI : Nat → Nat → Nat} {a : Nat → Nat} {ac : Nat → ClassId} {n : Nat} {r : St} (C : nd_C p l s m args c A (dC, dI) cX18_digits 7 RX18 ow_dm_X18_digits (dk_X18 ac)) (K : nd_Kv p l e (headSpec ow_dm_X18_digits ({ frames := 1, cells := 0, slots := 0, locals := 21 })).room s m args below meth c Q A (dC, dI) cX18_digits (St) (dw_X18 a ac) r) {g2 : Int64 → Int64 → (St) → Option (St)} (J2 : dj_X18_digits_2 p l e s m args below meth c Q A dC dI a ac g2 r) : dj_X18_digits_2 p l e s m args below meth c Q A dC dI a ac (dF_X18_digits_2 n g2) r := by
  obtain ⟨hlt, hx, hb, hml, hown, hts, hN, hA, hK⟩ := id C
  intro x1 x3 s0 H locs ls h hP hD hS hl
  unfold dF_X18_digits_2 at h
  refine lv_lload_n hx hb dX18_digits_2 rfl (lv_at hl 1 rfl) ?_
  refine lv_lload_n hx hb dX18_digits_3 rfl (lv_at hl 2 rfl) ?_
  obtain ⟨i1, h⟩ := nd_nz_e h
  refine lv_ldiv hx hb dX18_digits_4 i1 ?_
  refine lv_ldc2 hx hb hown (hts (.constantLong RX18 33 (9)) (List.mem_of_getElem? (i := 1) rfl)) dX18_digits_5 ?_
  refine W.lcmp hx hb dX18_digits_8 ?_
  refine lv_if_le (tgt := 21) hx hb dX18_digits_9 (by decide) (fun c2 => ?_) (fun c2 => ?_)
  · have h := nd_pos h c2
    refine lv_lload_n hx hb dX18_digits_21 rfl (lv_at hl 2 rfl) ?_
    refine lv_lstore (lv' := [(5, .long x3), (0, .ref (a 0)), (1, .long x1), (3, .long x3)]) hx hb dX18_digits_22 hl (by decide) rfl (fun ls hl => ?_)
    exact (db_X18_digits_24 C K n) (x1) (x3) s0 _ _ _ h hP hD hS (lv_sub hl [1, 2, 0] rfl)
  · have h := nd_neg h c2
    refine lv_ldc2 hx hb hown (hts (.constantLong RX18 35 (10)) (List.mem_of_getElem? (i := 3) rfl)) dX18_digits_12 ?_
    refine lv_lload_n hx hb dX18_digits_15 rfl (lv_at hl 2 rfl) ?_
    refine lv_lmul hx hb dX18_digits_16 ?_
    refine lv_topl (fun z9 ez9 => ?_)
    have h := nd_at h ez9
    refine lv_lstore_n (lv' := [(3, .long z9), (0, .ref (a 0)), (1, .long x1)]) hx hb dX18_digits_17 rfl hl (by decide) rfl (fun ls hl => ?_)
    refine lv_goto (tgt := 2) hx hb dX18_digits_18 (by decide) ?_
    exact (J2) (x1) (z9) s0 _ _ _ h hP hD hS (lv_sub hl [1, 2, 0] rfl)
set_option maxHeartbeats 40000000 in
set_option maxRecDepth 100000 in
theorem db_X18_digits_2 {p : Program} {l : Launch} {e : Env} {s : State} {m : MethodId} {args : Array Value} {below : List Frame} {meth : Method} {c : Code} {Q : State → Prop} {A : Nat → Prop} {dC : Nat → ClassId} {dI : Nat → Nat → Nat} {a : Nat → Nat} {ac : Nat → ClassId} {n : Nat} {r : St} (C : nd_C p l s m args c A (dC, dI) cX18_digits 7 RX18 ow_dm_X18_digits (dk_X18 ac)) (K : nd_Kv p l e (headSpec ow_dm_X18_digits ({ frames := 1, cells := 0, slots := 0, locals := 21 })).room s m args below meth c Q A (dC, dI) cX18_digits (St) (dw_X18 a ac) r) (k : Nat) : dj_X18_digits_2 p l e s m args below meth c Q A dC dI a ac (df_X18_digits_2 n k) r := by
  induction k with
  | zero => intro x1 x3 s0 H locs ls h; exact nomatch (show (none : Option (St)) = some r from h)
  | succ k ih => exact dB_X18_digits_2 C K ih
set_option maxHeartbeats 40000000 in
set_option maxRecDepth 100000 in
theorem db_X18_digits_0 {p : Program} {l : Launch} {e : Env} {s : State} {m : MethodId} {args : Array Value} {below : List Frame} {meth : Method} {c : Code} {Q : State → Prop} {A : Nat → Prop} {dC : Nat → ClassId} {dI : Nat → Nat → Nat} {a : Nat → Nat} {ac : Nat → ClassId} {n : Nat} {r : St} (C : nd_C p l s m args c A (dC, dI) cX18_digits 7 RX18 ow_dm_X18_digits (dk_X18 ac)) (K : nd_Kv p l e (headSpec ow_dm_X18_digits ({ frames := 1, cells := 0, slots := 0, locals := 21 })).room s m args below meth c Q A (dC, dI) cX18_digits (St) (dw_X18 a ac) r) : dj_X18_digits_0 p l e s m args below meth c Q A dC dI a ac (df_X18_digits_0 n) r := by
  obtain ⟨hlt, hx, hb, hml, hown, hts, hN, hA, hK⟩ := id C
  intro v0 s0 H locs ls h hP hD hS hl
  unfold df_X18_digits_0 at h
  refine lv_lconst (v := 1) hx hb dX18_digits_0 (by decide) ?_
  refine lv_lstore_n (lv' := [(3, .long 1), (0, .ref (a 0)), (1, .long v0)]) hx hb dX18_digits_1 rfl hl (by decide) rfl (fun ls hl => ?_)
  exact (db_X18_digits_2 C K n) (v0) (1) s0 _ _ _ h hP hD hS (lv_sub hl [1, 2, 0] rfl)
set_option maxHeartbeats 40000000 in
set_option maxRecDepth 100000 in
theorem dm_X18_digits (l : Launch) (hlt : l.stackTraces = false) (dC : Nat → ClassId) (dI : Nat → Nat → Nat) (a : Nat → Nat) (ac : Nat → ClassId) (n : Nat) (v0 : Int64) (s0 : St) {r : St} (h : df_X18_digits n v0 s0 = some r) (sz : Nat) : Met l yX18_digits ow_dm_X18_digits ({ frames := 1, cells := 0, slots := 0, locals := 21 }) (va_Pc [.ref (a 0), .long v0] (fun U => U.heap.size = sz ∧ va_P (dC, dI) vwCl (dw_X18 a ac s0) U.heap ∧ va_K (dC, dI) vwCl (dk_X18 ac) U ∧ va_D (fun _ => True) (dw_X18 a ac s0) ∧ nv_E dI (va_A (dw_X18 a ac s0) sz) U)) (va_Qv (fun _ => True) (fun (_ : Unit) t => va_P (dC, dI) vwCl (dw_X18 a ac r) t.heap ∧ va_K (dC, dI) vwCl (dk_X18 ac) t ∧ va_D (va_A (dw_X18 a ac s0) sz) (dw_X18 a ac r)) (va_A (dw_X18 a ac s0) sz)) 0 0 (va_A (dw_X18 a ac s0) sz) := by
  refine Met.ofW (cc := cX18_digits) (maxL := 7) (ret := none) (by decide) rfl ?_
  intro p e s m args below meth c s₁ B hml hv
  obtain ⟨rfl, hsz, hP, hK, hD0, hN⟩ := hv
  have hx := B.exec
  have hb := B.bytes
  have hr := B.returns
  have hts := atoms_spec (ws := ow_dm_X18_digits) B.pre
  have hown : s.vm.findClass RX18 = some m.cls := findClass_of_methodNamed B.named
  have hlocks := B.notSynchronized
  subst hsz
  have hD := hD0.self (sz := s.heap.size)
  generalize hAe : va_A (dw_X18 a ac s0) s.heap.size = A at hD hN ⊢
  have hA : ∀ q : Nat, s.heap.size ≤ q → A q := fun q h => by rw [← hAe]; exact Or.inr h
  have hl := lv_entry ([.ref (a 0), .long v0]) (n := 7) (Nat.le_of_ble_eq_true rfl)
  rw [lg_entry_eq]
  generalize (lg_sl ([.ref (a 0), .long v0]) ++ List.replicate (7 - (lg_sl ([.ref (a 0), .long v0])).length) Slot.unset).toArray = ls at hl ⊢
  have hl : lv_has ls 7 [(0, .ref (a 0)), (1, .long v0)] := hl
  exact db_X18_digits_0 (dC := dC) (dI := dI) (a := a) (ac := ac) (n := n) (r := r) ⟨hlt, hx, hb, hml, hown, hts, hN, hA, hK⟩ (fun pc τ H locs ls d er hP hD hS => by subst er; exact W.vret hx hb hr (fun t ht hW => ⟨⟨(), rfl, trivial, by rw [ht]; exact hP, va_K.moved hW.alike hK, hD⟩, hS.F ht⟩) hS.2.2 d) v0 s0 _ _ _ h hP hD va_S.rf (lv_sub hl [0, 1] rfl)
def ow_dm_X18_number : List Cond := Cond.code yX18_number cX18_number 2 none :: ([Cond.methodLink RX18 39 yX18_digits, Cond.instanceMethod yX18_digits, Cond.selects RX18 yX18_digits yX18_digits, Cond.initialized RX18, Cond.methodLink RX18 29 yX18_put, Cond.instanceMethod yX18_put, Cond.selects RX18 yX18_put yX18_put] ++ (ow_dm_X18_digits ++ (ow_dm_X18_put ++ [])))
theorem gd_dm_X18_number : ∀ w ∈ ow_dm_X18_number, (w.onTables && w.keeps) = true ∨ ∃ ty, w = Cond.arrayClass ty := List.forall_mem_cons.mpr ⟨good_of_word rfl, List.forall_mem_append.mpr ⟨fun w h => good_of_word (List.all_eq_true.mp (by decide +kernel) w h), List.forall_mem_append.mpr ⟨gd_dm_X18_digits, List.forall_mem_append.mpr ⟨gd_dm_X18_put, fun _ h => nomatch h⟩⟩⟩⟩
theorem gi_dm_X18_number_0 : GoodIn ow_dm_X18_number (wsV RX18 39 RX18 yX18_digits ow_dm_X18_digits) := goodIn_app (goodIn_of _ (by decide +kernel)) (fun w h => ⟨List.mem_cons_of_mem _ (List.mem_append_right _ (List.mem_append_left _ h)), gd_dm_X18_digits w h⟩)
theorem gi_dm_X18_number_1 : GoodIn ow_dm_X18_number (wsV RX18 29 RX18 yX18_put ow_dm_X18_put) := goodIn_app (goodIn_of _ (by decide +kernel)) (fun w h => ⟨List.mem_cons_of_mem _ (List.mem_append_right _ (List.mem_append_right _ (List.mem_append_left _ h))), gd_dm_X18_put w h⟩)
def dj_X18_number_23 (p : Program) (l : Launch) (e : Env) (s : State) (m : MethodId) (args : Array Value) (below : List Frame) (meth : Method) (c : Code) (Q : State → Prop) (A : Nat → Prop) (dC : Nat → ClassId) (dI : Nat → Nat → Nat) (a : Nat → Nat) (ac : Nat → ClassId) (g : Int64 → (St) → Option (St)) (r : St) : Prop := ∀ (y1 : Int64) (s0 : St) (H : Heap) (locs : List Loc) (ls : Array Slot), g y1 s0 = some r → va_P (dC, dI) vwCl (dw_X18 a ac s0) H → va_D A (dw_X18 a ac s0) → va_S A s.heap H locs → lv_has ls 2 [] → W p l e (headSpec ow_dm_X18_number ({ frames := 2, cells := 0, slots := 0, locals := 47 })).room s m args below meth c H locs 0 0 Q (F0 m 23 ls [.long y1, .ref (a 0)])
def dj_X18_number_10 (p : Program) (l : Launch) (e : Env) (s : State) (m : MethodId) (args : Array Value) (below : List Frame) (meth : Method) (c : Code) (Q : State → Prop) (A : Nat → Prop) (dC : Nat → ClassId) (dI : Nat → Nat → Nat) (a : Nat → Nat) (ac : Nat → ClassId) (g : Int32 → (St) → Option (St)) (r : St) : Prop := ∀ (x1 : Int32) (s0 : St) (H : Heap) (locs : List Loc) (ls : Array Slot), g x1 s0 = some r → va_P (dC, dI) vwCl (dw_X18 a ac s0) H → va_D A (dw_X18 a ac s0) → va_S A s.heap H locs → lv_has ls 2 [(0, .ref (a 0)), (1, .int x1)] → W p l e (headSpec ow_dm_X18_number ({ frames := 2, cells := 0, slots := 0, locals := 47 })).room s m args below meth c H locs 0 0 Q (F0 m 10 ls [])
def dj_X18_number_0 (p : Program) (l : Launch) (e : Env) (s : State) (m : MethodId) (args : Array Value) (below : List Frame) (meth : Method) (c : Code) (Q : State → Prop) (A : Nat → Prop) (dC : Nat → ClassId) (dI : Nat → Nat → Nat) (a : Nat → Nat) (ac : Nat → ClassId) (g : Int32 → (St) → Option (St)) (r : St) : Prop := ∀ (v0 : Int32) (s0 : St) (H : Heap) (locs : List Loc) (ls : Array Slot), g v0 s0 = some r → va_P (dC, dI) vwCl (dw_X18 a ac s0) H → va_D A (dw_X18 a ac s0) → va_S A s.heap H locs → lv_has ls 2 [(0, .ref (a 0)), (1, .int v0)] → W p l e (headSpec ow_dm_X18_number ({ frames := 2, cells := 0, slots := 0, locals := 47 })).room s m args below meth c H locs 0 0 Q (F0 m 0 ls [])
set_option maxHeartbeats 40000000 in
set_option maxRecDepth 100000 in
theorem db_X18_number_23 {p : Program} {l : Launch} {e : Env} {s : State} {m : MethodId} {args : Array Value} {below : List Frame} {meth : Method} {c : Code} {Q : State → Prop} {A : Nat → Prop} {dC : Nat → ClassId} {dI : Nat → Nat → Nat} {a : Nat → Nat} {ac : Nat → ClassId} {n : Nat} {r : St} (C : nd_C p l s m args c A (dC, dI) cX18_number 2 RX18 ow_dm_X18_number (dk_X18 ac)) (K : nd_Kv p l e (headSpec ow_dm_X18_number ({ frames := 2, cells := 0, slots := 0, locals := 47 })).room s m args below meth c Q A (dC, dI) cX18_number (St) (dw_X18 a ac) r) : dj_X18_number_23 p l e s m args below meth c Q A dC dI a ac (df_X18_number_23 n) r := by
  obtain ⟨hlt, hx, hb, hml, hown, hts, hN, hA, hK⟩ := id C
  intro y1 s0 H locs ls h hP hD hS hl
  unfold df_X18_number_23 at h
  obtain ⟨s4, hq, h⟩ := nd_b1_e h
  have hPc := hP
  have hDc := hD
  have hKc := hK
  have hFc := nd_rs hD hS hA
  refine nd_cVv (As := [.long y1]) (rest := []) (w' := dw_X18 a ac s4) ⟨hx, hb, hml, hown, hts⟩ (fun sz => dm_X18_digits l hlt dC dI a ac n (y1) s0 hq sz) (cwV 1 hts gi_dm_X18_number_0 rfl rfl rfl (by decide +kernel) ⟨Nat.le_of_ble_eq_true rfl, Nat.le_of_ble_eq_true rfl⟩) hPc hDc hKc hS hA hN (va_recv hKc hPc (ci := 19) (q0 := 0) rfl rfl) rfl hl.1 rfl (Nat.le_of_ble_eq_true rfl) dX18_number_23 (fun H locs hP1 hD1 hk1 hS => ?_)
  have hP := hP1
  have hD := hD1.weaken (fun k q _ h => hFc q.1 h)
  exact K _ _ _ _ _ dX18_number_26 (Option.some.inj h).symm hP hD hS
set_option maxHeartbeats 40000000 in
set_option maxRecDepth 100000 in
theorem db_X18_number_10 {p : Program} {l : Launch} {e : Env} {s : State} {m : MethodId} {args : Array Value} {below : List Frame} {meth : Method} {c : Code} {Q : State → Prop} {A : Nat → Prop} {dC : Nat → ClassId} {dI : Nat → Nat → Nat} {a : Nat → Nat} {ac : Nat → ClassId} {n : Nat} {r : St} (C : nd_C p l s m args c A (dC, dI) cX18_number 2 RX18 ow_dm_X18_number (dk_X18 ac)) (K : nd_Kv p l e (headSpec ow_dm_X18_number ({ frames := 2, cells := 0, slots := 0, locals := 47 })).room s m args below meth c Q A (dC, dI) cX18_number (St) (dw_X18 a ac) r) : dj_X18_number_10 p l e s m args below meth c Q A dC dI a ac (df_X18_number_10 n) r := by
  obtain ⟨hlt, hx, hb, hml, hown, hts, hN, hA, hK⟩ := id C
  intro x1 s0 H locs ls h hP hD hS hl
  unfold df_X18_number_10 at h
  refine lv_aload_n hx hb dX18_number_10 rfl (lv_at hl 0 rfl) ?_
  refine lv_iload_n hx hb dX18_number_11 rfl (lv_at hl 1 rfl) ?_
  refine lv_if_ge (tgt := 21) hx hb dX18_number_12 (by decide) (fun c2 => ?_) (fun c2 => ?_)
  · have h := nd_pos h c2
    refine lv_iload_n hx hb dX18_number_21 rfl (lv_at hl 1 rfl) ?_
    refine lv_i2l hx hb dX18_number_22 rfl ?_
    exact (db_X18_number_23 C K) ((x1.toInt64)) s0 _ _ _ h hP hD hS (lv_sub hl [] rfl)
  · have h := nd_neg h c2
    refine lv_iload_n hx hb dX18_number_15 rfl (lv_at hl 1 rfl) ?_
    refine lv_i2l hx hb dX18_number_16 rfl ?_
    refine lv_lneg hx hb dX18_number_17 ?_
    refine lv_goto (tgt := 23) hx hb dX18_number_18 (by decide) ?_
    exact (db_X18_number_23 C K) ((-((x1.toInt64) : Int64))) s0 _ _ _ h hP hD hS (lv_sub hl [] rfl)
set_option maxHeartbeats 40000000 in
set_option maxRecDepth 100000 in
theorem db_X18_number_0 {p : Program} {l : Launch} {e : Env} {s : State} {m : MethodId} {args : Array Value} {below : List Frame} {meth : Method} {c : Code} {Q : State → Prop} {A : Nat → Prop} {dC : Nat → ClassId} {dI : Nat → Nat → Nat} {a : Nat → Nat} {ac : Nat → ClassId} {n : Nat} {r : St} (C : nd_C p l s m args c A (dC, dI) cX18_number 2 RX18 ow_dm_X18_number (dk_X18 ac)) (K : nd_Kv p l e (headSpec ow_dm_X18_number ({ frames := 2, cells := 0, slots := 0, locals := 47 })).room s m args below meth c Q A (dC, dI) cX18_number (St) (dw_X18 a ac) r) : dj_X18_number_0 p l e s m args below meth c Q A dC dI a ac (df_X18_number_0 n) r := by
  obtain ⟨hlt, hx, hb, hml, hown, hts, hN, hA, hK⟩ := id C
  intro v0 s0 H locs ls h hP hD hS hl
  unfold df_X18_number_0 at h
  refine lv_iload_n hx hb dX18_number_0 rfl (lv_at hl 1 rfl) ?_
  refine lv_if_ge (tgt := 10) hx hb dX18_number_1 (by decide) (fun c1 => ?_) (fun c1 => ?_)
  · have h := nd_pos h c1
    exact (db_X18_number_10 C K) (v0) s0 _ _ _ h hP hD hS (lv_sub hl [0, 1] rfl)
  · have h := nd_neg h c1
    refine lv_aload_n hx hb dX18_number_4 rfl (lv_at hl 0 rfl) ?_
    refine lv_bipush (v := 45) hx hb dX18_number_5 (by decide) ?_
    obtain ⟨s7, hq, h⟩ := nd_b1_e h
    have hPc := hP
    have hDc := hD
    have hKc := hK
    have hFc := nd_rs hD hS hA
    refine nd_cVv (As := [.int 45]) (rest := []) (w' := dw_X18 a ac s7) ⟨hx, hb, hml, hown, hts⟩ (fun sz => dm_X18_put l hlt dC dI a ac n (45) s0 hq sz) (cwV 1 hts gi_dm_X18_number_1 rfl rfl rfl (by decide +kernel) ⟨Nat.le_of_ble_eq_true rfl, Nat.le_of_ble_eq_true rfl⟩) hPc hDc hKc hS hA hN (va_recv hKc hPc (ci := 19) (q0 := 0) rfl rfl) rfl hl.1 rfl (Nat.le_of_ble_eq_true rfl) dX18_number_7 (fun H locs hP1 hD1 hk1 hS => ?_)
    have hP := hP1
    have hD := hD1.weaken (fun k q _ h => hFc q.1 h)
    exact (db_X18_number_10 C K) (v0) s7 _ _ _ h hP hD hS (lv_sub hl [0, 1] rfl)
set_option maxHeartbeats 40000000 in
set_option maxRecDepth 100000 in
theorem dm_X18_number (l : Launch) (hlt : l.stackTraces = false) (dC : Nat → ClassId) (dI : Nat → Nat → Nat) (a : Nat → Nat) (ac : Nat → ClassId) (n : Nat) (v0 : Int32) (s0 : St) {r : St} (h : df_X18_number n v0 s0 = some r) (sz : Nat) : Met l yX18_number ow_dm_X18_number ({ frames := 2, cells := 0, slots := 0, locals := 47 }) (va_Pc [.ref (a 0), .int v0] (fun U => U.heap.size = sz ∧ va_P (dC, dI) vwCl (dw_X18 a ac s0) U.heap ∧ va_K (dC, dI) vwCl (dk_X18 ac) U ∧ va_D (fun _ => True) (dw_X18 a ac s0) ∧ nv_E dI (va_A (dw_X18 a ac s0) sz) U)) (va_Qv (fun _ => True) (fun (_ : Unit) t => va_P (dC, dI) vwCl (dw_X18 a ac r) t.heap ∧ va_K (dC, dI) vwCl (dk_X18 ac) t ∧ va_D (va_A (dw_X18 a ac s0) sz) (dw_X18 a ac r)) (va_A (dw_X18 a ac s0) sz)) 0 0 (va_A (dw_X18 a ac s0) sz) := by
  refine Met.ofW (cc := cX18_number) (maxL := 2) (ret := none) (by decide) rfl ?_
  intro p e s m args below meth c s₁ B hml hv
  obtain ⟨rfl, hsz, hP, hK, hD0, hN⟩ := hv
  have hx := B.exec
  have hb := B.bytes
  have hr := B.returns
  have hts := atoms_spec (ws := ow_dm_X18_number) B.pre
  have hown : s.vm.findClass RX18 = some m.cls := findClass_of_methodNamed B.named
  have hlocks := B.notSynchronized
  subst hsz
  have hD := hD0.self (sz := s.heap.size)
  generalize hAe : va_A (dw_X18 a ac s0) s.heap.size = A at hD hN ⊢
  have hA : ∀ q : Nat, s.heap.size ≤ q → A q := fun q h => by rw [← hAe]; exact Or.inr h
  have hl := lv_entry ([.ref (a 0), .int v0]) (n := 2) (Nat.le_of_ble_eq_true rfl)
  rw [lg_entry_eq]
  generalize (lg_sl ([.ref (a 0), .int v0]) ++ List.replicate (2 - (lg_sl ([.ref (a 0), .int v0])).length) Slot.unset).toArray = ls at hl ⊢
  have hl : lv_has ls 2 [(0, .ref (a 0)), (1, .int v0)] := hl
  exact db_X18_number_0 (dC := dC) (dI := dI) (a := a) (ac := ac) (n := n) (r := r) ⟨hlt, hx, hb, hml, hown, hts, hN, hA, hK⟩ (fun pc τ H locs ls d er hP hD hS => by subst er; exact W.vret hx hb hr (fun t ht hW => ⟨⟨(), rfl, trivial, by rw [ht]; exact hP, va_K.moved hW.alike hK, hD⟩, hS.F ht⟩) hS.2.2 d) v0 s0 _ _ _ h hP hD va_S.rf (lv_sub hl [0, 1] rfl)
def ow_dm_X18_name : List Cond := Cond.code yX18_name cX18_name 3 none :: ([Cond.fieldLink RX18 43 "TimeMachineModel$Reader" "line" "Z", Cond.fieldLink RX18 47 "TimeMachineModel$Reader" "operands" "I", Cond.methodLink RX18 50 yX18_say, Cond.instanceMethod yX18_say, Cond.selects RX18 yX18_say yX18_say, Cond.initialized RX18] ++ (u_ws RX18 TX18 10 ++ (ow_dm_X18_say ++ [])))
theorem gd_dm_X18_name : ∀ w ∈ ow_dm_X18_name, (w.onTables && w.keeps) = true ∨ ∃ ty, w = Cond.arrayClass ty := List.forall_mem_cons.mpr ⟨good_of_word rfl, List.forall_mem_append.mpr ⟨fun w h => good_of_word (List.all_eq_true.mp (by decide +kernel) w h), List.forall_mem_append.mpr ⟨gu_X18, List.forall_mem_append.mpr ⟨gd_dm_X18_say, fun _ h => nomatch h⟩⟩⟩⟩
theorem hi_dm_X18_name_X18 : ∀ w ∈ u_ws RX18 TX18 10, w ∈ ow_dm_X18_name := fun w h => List.mem_cons_of_mem _ (List.mem_append_right _ (List.mem_append_left _ h))
theorem gi_dm_X18_name_0 : GoodIn ow_dm_X18_name (wsV RX18 50 RX18 yX18_say ow_dm_X18_say) := goodIn_app (goodIn_of _ (by decide +kernel)) (fun w h => ⟨List.mem_cons_of_mem _ (List.mem_append_right _ (List.mem_append_right _ (List.mem_append_left _ h))), gd_dm_X18_say w h⟩)
def dj_X18_name_0 (p : Program) (l : Launch) (e : Env) (s : State) (m : MethodId) (args : Array Value) (below : List Frame) (meth : Method) (c : Code) (Q : State → Prop) (A : Nat → Prop) (dC : Nat → ClassId) (dI : Nat → Nat → Nat) (a : Nat → Nat) (ac : Nat → ClassId) (g : Int64 → (St) → Option (St)) (r : St) : Prop := ∀ (v0 : Int64) (s0 : St) (H : Heap) (locs : List Loc) (ls : Array Slot), g v0 s0 = some r → va_P (dC, dI) vwCl (dw_X18 a ac s0) H → va_D A (dw_X18 a ac s0) → va_S A s.heap H locs → lv_has ls 3 [(0, .ref (a 0)), (1, .long v0)] → W p l e (headSpec ow_dm_X18_name ({ frames := 2, cells := 0, slots := 0, locals := 45 })).room s m args below meth c H locs 0 0 Q (F0 m 0 ls [])
set_option maxHeartbeats 40000000 in
set_option maxRecDepth 100000 in
theorem db_X18_name_0 {p : Program} {l : Launch} {e : Env} {s : State} {m : MethodId} {args : Array Value} {below : List Frame} {meth : Method} {c : Code} {Q : State → Prop} {A : Nat → Prop} {dC : Nat → ClassId} {dI : Nat → Nat → Nat} {a : Nat → Nat} {ac : Nat → ClassId} {n : Nat} {r : St} (C : nd_C p l s m args c A (dC, dI) cX18_name 3 RX18 ow_dm_X18_name (dk_X18 ac)) (K : nd_Kv p l e (headSpec ow_dm_X18_name ({ frames := 2, cells := 0, slots := 0, locals := 45 })).room s m args below meth c Q A (dC, dI) cX18_name (St) (dw_X18 a ac) r) : dj_X18_name_0 p l e s m args below meth c Q A dC dI a ac (df_X18_name_0 n) r := by
  obtain ⟨hlt, hx, hb, hml, hown, hts, hN, hA, hK⟩ := id C
  intro v0 s0 H locs ls h hP hD hS hl
  unfold df_X18_name_0 at h
  refine lv_aload_n hx hb dX18_name_0 rfl (lv_at hl 0 rfl) ?_
  refine lv_iconst (v := 1) hx hb dX18_name_1 (by decide) ?_
  refine va_put (D := (dC, dI)) (ci := 19) (v := .int 1) (ty := .boolean) (C := RX18) (T := TX18) (N := 10) hx hb hts hi_dm_X18_name_X18 tyX18 tyX18_ok nmX18 hown hK hP hD hS 0 rfl rfl 3 (by decide) (hts (.fieldLink RX18 43 "TimeMachineModel$Reader" "line" "Z") (List.mem_of_getElem? (i := 1) rfl)) (fun _ h9 => h9) rfl (by decide +kernel) (by first | rfl | decide) rfl (Nat.le_of_ble_eq_true rfl) dX18_name_2 (fun H locs hP hD hS => ?_)
  obtain ⟨s1, es1, h⟩ := nd_let_e h
  have hP : va_P (dC, dI) vwCl (dw_X18 a ac s1) H := by rw [es1]; exact hP
  have hD : va_D A (dw_X18 a ac s1) := by rw [es1]; exact hD
  refine lv_aload_n hx hb dX18_name_5 rfl (lv_at hl 0 rfl) ?_
  refine lv_iconst (v := 0) hx hb dX18_name_6 (by decide) ?_
  refine va_put (D := (dC, dI)) (ci := 19) (v := .int 0) (ty := .int) (C := RX18) (T := TX18) (N := 10) hx hb hts hi_dm_X18_name_X18 tyX18 tyX18_ok nmX18 hown hK hP hD hS 0 rfl rfl 2 (by decide) (hts (.fieldLink RX18 47 "TimeMachineModel$Reader" "operands" "I") (List.mem_of_getElem? (i := 2) rfl)) (fun _ h9 => h9) rfl (by decide +kernel) rfl rfl (Nat.le_of_ble_eq_true rfl) dX18_name_7 (fun H locs hP hD hS => ?_)
  obtain ⟨s2, es2, h⟩ := nd_let_e h
  have hP : va_P (dC, dI) vwCl (dw_X18 a ac s2) H := by rw [es2]; exact hP
  have hD : va_D A (dw_X18 a ac s2) := by rw [es2]; exact hD
  refine lv_aload_n hx hb dX18_name_10 rfl (lv_at hl 0 rfl) ?_
  refine lv_lload_n hx hb dX18_name_11 rfl (lv_at hl 1 rfl) ?_
  obtain ⟨s4, hq, h⟩ := nd_b1_e h
  have hPc := hP
  have hDc := hD
  have hKc := hK
  have hFc := nd_rs hD hS hA
  refine nd_cVv (As := [.long v0]) (rest := []) (w' := dw_X18 a ac s4) ⟨hx, hb, hml, hown, hts⟩ (fun sz => dm_X18_say l hlt dC dI a ac n (v0) s2 hq sz) (cwV 1 hts gi_dm_X18_name_0 rfl rfl rfl (by decide +kernel) ⟨Nat.le_of_ble_eq_true rfl, Nat.le_of_ble_eq_true rfl⟩) hPc hDc hKc hS hA hN (va_recv hKc hPc (ci := 19) (q0 := 0) rfl rfl) rfl hl.1 rfl (Nat.le_of_ble_eq_true rfl) dX18_name_12 (fun H locs hP1 hD1 hk1 hS => ?_)
  have hP := hP1
  have hD := hD1.weaken (fun k q _ h => hFc q.1 h)
  exact K _ _ _ _ _ dX18_name_15 (Option.some.inj h).symm hP hD hS
set_option maxHeartbeats 40000000 in
set_option maxRecDepth 100000 in
theorem dm_X18_name (l : Launch) (hlt : l.stackTraces = false) (dC : Nat → ClassId) (dI : Nat → Nat → Nat) (a : Nat → Nat) (ac : Nat → ClassId) (n : Nat) (v0 : Int64) (s0 : St) {r : St} (h : df_X18_name n v0 s0 = some r) (sz : Nat) : Met l yX18_name ow_dm_X18_name ({ frames := 2, cells := 0, slots := 0, locals := 45 }) (va_Pc [.ref (a 0), .long v0] (fun U => U.heap.size = sz ∧ va_P (dC, dI) vwCl (dw_X18 a ac s0) U.heap ∧ va_K (dC, dI) vwCl (dk_X18 ac) U ∧ va_D (fun _ => True) (dw_X18 a ac s0) ∧ nv_E dI (va_A (dw_X18 a ac s0) sz) U)) (va_Qv (fun _ => True) (fun (_ : Unit) t => va_P (dC, dI) vwCl (dw_X18 a ac r) t.heap ∧ va_K (dC, dI) vwCl (dk_X18 ac) t ∧ va_D (va_A (dw_X18 a ac s0) sz) (dw_X18 a ac r)) (va_A (dw_X18 a ac s0) sz)) 0 0 (va_A (dw_X18 a ac s0) sz) := by
  refine Met.ofW (cc := cX18_name) (maxL := 3) (ret := none) (by decide) rfl ?_
  intro p e s m args below meth c s₁ B hml hv
  obtain ⟨rfl, hsz, hP, hK, hD0, hN⟩ := hv
  have hx := B.exec
  have hb := B.bytes
  have hr := B.returns
  have hts := atoms_spec (ws := ow_dm_X18_name) B.pre
  have hown : s.vm.findClass RX18 = some m.cls := findClass_of_methodNamed B.named
  have hlocks := B.notSynchronized
  subst hsz
  have hD := hD0.self (sz := s.heap.size)
  generalize hAe : va_A (dw_X18 a ac s0) s.heap.size = A at hD hN ⊢
  have hA : ∀ q : Nat, s.heap.size ≤ q → A q := fun q h => by rw [← hAe]; exact Or.inr h
  have hl := lv_entry ([.ref (a 0), .long v0]) (n := 3) (Nat.le_of_ble_eq_true rfl)
  rw [lg_entry_eq]
  generalize (lg_sl ([.ref (a 0), .long v0]) ++ List.replicate (3 - (lg_sl ([.ref (a 0), .long v0])).length) Slot.unset).toArray = ls at hl ⊢
  have hl : lv_has ls 3 [(0, .ref (a 0)), (1, .long v0)] := hl
  exact db_X18_name_0 (dC := dC) (dI := dI) (a := a) (ac := ac) (n := n) (r := r) ⟨hlt, hx, hb, hml, hown, hts, hN, hA, hK⟩ (fun pc τ H locs ls d er hP hD hS => by subst er; exact W.vret hx hb hr (fun t ht hW => ⟨⟨(), rfl, trivial, by rw [ht]; exact hP, va_K.moved hW.alike hK, hD⟩, hS.F ht⟩) hS.2.2 d) v0 s0 _ _ _ h hP hD va_S.rf (lv_sub hl [0, 1] rfl)
def ow_dm_X18_next : List Cond := Cond.code yX18_next cX18_next 1 none :: ([Cond.fieldLink RX18 47 "TimeMachineModel$Reader" "operands" "I", Cond.methodLink RX18 29 yX18_put, Cond.instanceMethod yX18_put, Cond.selects RX18 yX18_put yX18_put, Cond.initialized RX18] ++ (u_ws RX18 TX18 10 ++ (ow_dm_X18_put ++ [])))
theorem gd_dm_X18_next : ∀ w ∈ ow_dm_X18_next, (w.onTables && w.keeps) = true ∨ ∃ ty, w = Cond.arrayClass ty := List.forall_mem_cons.mpr ⟨good_of_word rfl, List.forall_mem_append.mpr ⟨fun w h => good_of_word (List.all_eq_true.mp (by decide +kernel) w h), List.forall_mem_append.mpr ⟨gu_X18, List.forall_mem_append.mpr ⟨gd_dm_X18_put, fun _ h => nomatch h⟩⟩⟩⟩
theorem hi_dm_X18_next_X18 : ∀ w ∈ u_ws RX18 TX18 10, w ∈ ow_dm_X18_next := fun w h => List.mem_cons_of_mem _ (List.mem_append_right _ (List.mem_append_left _ h))
theorem gi_dm_X18_next_0 : GoodIn ow_dm_X18_next (wsV RX18 29 RX18 yX18_put ow_dm_X18_put) := goodIn_app (goodIn_of _ (by decide +kernel)) (fun w h => ⟨List.mem_cons_of_mem _ (List.mem_append_right _ (List.mem_append_right _ (List.mem_append_left _ h))), gd_dm_X18_put w h⟩)
def dj_X18_next_13 (p : Program) (l : Launch) (e : Env) (s : State) (m : MethodId) (args : Array Value) (below : List Frame) (meth : Method) (c : Code) (Q : State → Prop) (A : Nat → Prop) (dC : Nat → ClassId) (dI : Nat → Nat → Nat) (a : Nat → Nat) (ac : Nat → ClassId) (g : (St) → Option (St)) (r : St) : Prop := ∀ (s0 : St) (H : Heap) (locs : List Loc) (ls : Array Slot), g s0 = some r → va_P (dC, dI) vwCl (dw_X18 a ac s0) H → va_D A (dw_X18 a ac s0) → va_S A s.heap H locs → lv_has ls 1 [(0, .ref (a 0))] → W p l e (headSpec ow_dm_X18_next ({ frames := 1, cells := 0, slots := 0, locals := 21 })).room s m args below meth c H locs 0 0 Q (F0 m 13 ls [])
def dj_X18_next_0 (p : Program) (l : Launch) (e : Env) (s : State) (m : MethodId) (args : Array Value) (below : List Frame) (meth : Method) (c : Code) (Q : State → Prop) (A : Nat → Prop) (dC : Nat → ClassId) (dI : Nat → Nat → Nat) (a : Nat → Nat) (ac : Nat → ClassId) (g : (St) → Option (St)) (r : St) : Prop := ∀ (s0 : St) (H : Heap) (locs : List Loc) (ls : Array Slot), g s0 = some r → va_P (dC, dI) vwCl (dw_X18 a ac s0) H → va_D A (dw_X18 a ac s0) → va_S A s.heap H locs → lv_has ls 1 [(0, .ref (a 0))] → W p l e (headSpec ow_dm_X18_next ({ frames := 1, cells := 0, slots := 0, locals := 21 })).room s m args below meth c H locs 0 0 Q (F0 m 0 ls [])
set_option maxHeartbeats 40000000 in
set_option maxRecDepth 100000 in
theorem db_X18_next_13 {p : Program} {l : Launch} {e : Env} {s : State} {m : MethodId} {args : Array Value} {below : List Frame} {meth : Method} {c : Code} {Q : State → Prop} {A : Nat → Prop} {dC : Nat → ClassId} {dI : Nat → Nat → Nat} {a : Nat → Nat} {ac : Nat → ClassId} {n : Nat} {r : St} (C : nd_C p l s m args c A (dC, dI) cX18_next 1 RX18 ow_dm_X18_next (dk_X18 ac)) (K : nd_Kv p l e (headSpec ow_dm_X18_next ({ frames := 1, cells := 0, slots := 0, locals := 21 })).room s m args below meth c Q A (dC, dI) cX18_next (St) (dw_X18 a ac) r) : dj_X18_next_13 p l e s m args below meth c Q A dC dI a ac (df_X18_next_13 n) r := by
  obtain ⟨hlt, hx, hb, hml, hown, hts, hN, hA, hK⟩ := id C
  intro s0 H locs ls h hP hD hS hl
  unfold df_X18_next_13 at h
  refine lv_aload_n hx hb dX18_next_13 rfl (lv_at hl 0 rfl) ?_
  refine lv_bipush (v := 32) hx hb dX18_next_14 (by decide) ?_
  obtain ⟨s3, hq, h⟩ := nd_b1_e h
  have hPc := hP
  have hDc := hD
  have hKc := hK
  have hFc := nd_rs hD hS hA
  refine nd_cVv (As := [.int 32]) (rest := []) (w' := dw_X18 a ac s3) ⟨hx, hb, hml, hown, hts⟩ (fun sz => dm_X18_put l hlt dC dI a ac n (32) s0 hq sz) (cwV 1 hts gi_dm_X18_next_0 rfl rfl rfl (by decide +kernel) ⟨Nat.le_of_ble_eq_true rfl, Nat.le_of_ble_eq_true rfl⟩) hPc hDc hKc hS hA hN (va_recv hKc hPc (ci := 19) (q0 := 0) rfl rfl) rfl hl.1 rfl (Nat.le_of_ble_eq_true rfl) dX18_next_16 (fun H locs hP1 hD1 hk1 hS => ?_)
  have hP := hP1
  have hD := hD1.weaken (fun k q _ h => hFc q.1 h)
  refine lv_aload_n hx hb dX18_next_19 rfl (lv_at hl 0 rfl) ?_
  refine lv_dup hx hb dX18_next_20 rfl ?_
  refine va_get (D := (dC, dI)) (ci := 19) (v := .int (sI s3 1)) (C := RX18) (T := TX18) (N := 10) hx hb hts hi_dm_X18_next_X18 hown hK hP 0 rfl rfl 2 (by decide) (hts (.fieldLink RX18 47 "TimeMachineModel$Reader" "operands" "I") (List.mem_of_getElem? (i := 1) rfl)) (fun _ h9 => h9) rfl dX18_next_21 ?_
  refine lv_iconst (v := 1) hx hb dX18_next_24 (by decide) ?_
  refine lv_iadd hx hb dX18_next_25 ?_
  refine va_put (D := (dC, dI)) (ci := 19) (v := .int ((sI s3 1) + 1)) (ty := .int) (C := RX18) (T := TX18) (N := 10) hx hb hts hi_dm_X18_next_X18 tyX18 tyX18_ok nmX18 hown hK hP hD hS 0 rfl rfl 2 (by decide) (hts (.fieldLink RX18 47 "TimeMachineModel$Reader" "operands" "I") (List.mem_of_getElem? (i := 1) rfl)) (fun _ h9 => h9) rfl (by decide +kernel) rfl rfl (Nat.le_of_ble_eq_true rfl) dX18_next_26 (fun H locs hP hD hS => ?_)
  obtain ⟨s5, es5, h⟩ := nd_let_e h
  have hP : va_P (dC, dI) vwCl (dw_X18 a ac s5) H := by rw [es5]; exact hP
  have hD : va_D A (dw_X18 a ac s5) := by rw [es5]; exact hD
  exact K _ _ _ _ _ dX18_next_29 (Option.some.inj h).symm hP hD hS
set_option maxHeartbeats 40000000 in
set_option maxRecDepth 100000 in
theorem db_X18_next_0 {p : Program} {l : Launch} {e : Env} {s : State} {m : MethodId} {args : Array Value} {below : List Frame} {meth : Method} {c : Code} {Q : State → Prop} {A : Nat → Prop} {dC : Nat → ClassId} {dI : Nat → Nat → Nat} {a : Nat → Nat} {ac : Nat → ClassId} {n : Nat} {r : St} (C : nd_C p l s m args c A (dC, dI) cX18_next 1 RX18 ow_dm_X18_next (dk_X18 ac)) (K : nd_Kv p l e (headSpec ow_dm_X18_next ({ frames := 1, cells := 0, slots := 0, locals := 21 })).room s m args below meth c Q A (dC, dI) cX18_next (St) (dw_X18 a ac) r) : dj_X18_next_0 p l e s m args below meth c Q A dC dI a ac (df_X18_next_0 n) r := by
  obtain ⟨hlt, hx, hb, hml, hown, hts, hN, hA, hK⟩ := id C
  intro s0 H locs ls h hP hD hS hl
  unfold df_X18_next_0 at h
  refine lv_aload_n hx hb dX18_next_0 rfl (lv_at hl 0 rfl) ?_
  refine va_get (D := (dC, dI)) (ci := 19) (v := .int (sI s0 1)) (C := RX18) (T := TX18) (N := 10) hx hb hts hi_dm_X18_next_X18 hown hK hP 0 rfl rfl 2 (by decide) (hts (.fieldLink RX18 47 "TimeMachineModel$Reader" "operands" "I") (List.mem_of_getElem? (i := 1) rfl)) (fun _ h9 => h9) rfl dX18_next_1 ?_
  refine lv_if_le (tgt := 13) hx hb dX18_next_4 (by decide) (fun c1 => ?_) (fun c1 => ?_)
  · have h := nd_pos h c1
    exact (db_X18_next_13 C K)  s0 _ _ _ h hP hD hS (lv_sub hl [0] rfl)
  · have h := nd_neg h c1
    refine lv_aload_n hx hb dX18_next_7 rfl (lv_at hl 0 rfl) ?_
    refine lv_bipush (v := 44) hx hb dX18_next_8 (by decide) ?_
    obtain ⟨s7, hq, h⟩ := nd_b1_e h
    have hPc := hP
    have hDc := hD
    have hKc := hK
    have hFc := nd_rs hD hS hA
    refine nd_cVv (As := [.int 44]) (rest := []) (w' := dw_X18 a ac s7) ⟨hx, hb, hml, hown, hts⟩ (fun sz => dm_X18_put l hlt dC dI a ac n (44) s0 hq sz) (cwV 1 hts gi_dm_X18_next_0 rfl rfl rfl (by decide +kernel) ⟨Nat.le_of_ble_eq_true rfl, Nat.le_of_ble_eq_true rfl⟩) hPc hDc hKc hS hA hN (va_recv hKc hPc (ci := 19) (q0 := 0) rfl rfl) rfl hl.1 rfl (Nat.le_of_ble_eq_true rfl) dX18_next_10 (fun H locs hP1 hD1 hk1 hS => ?_)
    have hP := hP1
    have hD := hD1.weaken (fun k q _ h => hFc q.1 h)
    exact (db_X18_next_13 C K)  s7 _ _ _ h hP hD hS (lv_sub hl [0] rfl)
set_option maxHeartbeats 40000000 in
set_option maxRecDepth 100000 in
theorem dm_X18_next (l : Launch) (hlt : l.stackTraces = false) (dC : Nat → ClassId) (dI : Nat → Nat → Nat) (a : Nat → Nat) (ac : Nat → ClassId) (n : Nat) (s0 : St) {r : St} (h : df_X18_next n s0 = some r) (sz : Nat) : Met l yX18_next ow_dm_X18_next ({ frames := 1, cells := 0, slots := 0, locals := 21 }) (va_Pc [.ref (a 0)] (fun U => U.heap.size = sz ∧ va_P (dC, dI) vwCl (dw_X18 a ac s0) U.heap ∧ va_K (dC, dI) vwCl (dk_X18 ac) U ∧ va_D (fun _ => True) (dw_X18 a ac s0) ∧ nv_E dI (va_A (dw_X18 a ac s0) sz) U)) (va_Qv (fun _ => True) (fun (_ : Unit) t => va_P (dC, dI) vwCl (dw_X18 a ac r) t.heap ∧ va_K (dC, dI) vwCl (dk_X18 ac) t ∧ va_D (va_A (dw_X18 a ac s0) sz) (dw_X18 a ac r)) (va_A (dw_X18 a ac s0) sz)) 0 0 (va_A (dw_X18 a ac s0) sz) := by
  refine Met.ofW (cc := cX18_next) (maxL := 1) (ret := none) (by decide) rfl ?_
  intro p e s m args below meth c s₁ B hml hv
  obtain ⟨rfl, hsz, hP, hK, hD0, hN⟩ := hv
  have hx := B.exec
  have hb := B.bytes
  have hr := B.returns
  have hts := atoms_spec (ws := ow_dm_X18_next) B.pre
  have hown : s.vm.findClass RX18 = some m.cls := findClass_of_methodNamed B.named
  have hlocks := B.notSynchronized
  subst hsz
  have hD := hD0.self (sz := s.heap.size)
  generalize hAe : va_A (dw_X18 a ac s0) s.heap.size = A at hD hN ⊢
  have hA : ∀ q : Nat, s.heap.size ≤ q → A q := fun q h => by rw [← hAe]; exact Or.inr h
  have hl := lv_entry ([.ref (a 0)]) (n := 1) (Nat.le_of_ble_eq_true rfl)
  rw [lg_entry_eq]
  generalize (lg_sl ([.ref (a 0)]) ++ List.replicate (1 - (lg_sl ([.ref (a 0)])).length) Slot.unset).toArray = ls at hl ⊢
  have hl : lv_has ls 1 [(0, .ref (a 0))] := hl
  exact db_X18_next_0 (dC := dC) (dI := dI) (a := a) (ac := ac) (n := n) (r := r) ⟨hlt, hx, hb, hml, hown, hts, hN, hA, hK⟩ (fun pc τ H locs ls d er hP hD hS => by subst er; exact W.vret hx hb hr (fun t ht hW => ⟨⟨(), rfl, trivial, by rw [ht]; exact hP, va_K.moved hW.alike hK, hD⟩, hS.F ht⟩) hS.2.2 d) s0 _ _ _ h hP hD va_S.rf (lv_sub hl [0] rfl)
def ow_dm_X18_register : List Cond := Cond.code yX18_register cX18_register 2 none :: ([Cond.methodLink RX18 53 yX18_next, Cond.instanceMethod yX18_next, Cond.selects RX18 yX18_next yX18_next, Cond.initialized RX18, Cond.fieldLink RX18 16 "TimeMachineModel$Reader" "registers" "[I", Cond.methodLink RX18 50 yX18_say, Cond.instanceMethod yX18_say, Cond.selects RX18 yX18_say yX18_say] ++ (u_ws RX18 TX18 10 ++ (ow_dm_X18_next ++ (ow_dm_X18_say ++ []))))
theorem gd_dm_X18_register : ∀ w ∈ ow_dm_X18_register, (w.onTables && w.keeps) = true ∨ ∃ ty, w = Cond.arrayClass ty := List.forall_mem_cons.mpr ⟨good_of_word rfl, List.forall_mem_append.mpr ⟨fun w h => good_of_word (List.all_eq_true.mp (by decide +kernel) w h), List.forall_mem_append.mpr ⟨gu_X18, List.forall_mem_append.mpr ⟨gd_dm_X18_next, List.forall_mem_append.mpr ⟨gd_dm_X18_say, fun _ h => nomatch h⟩⟩⟩⟩⟩
theorem hi_dm_X18_register_X18 : ∀ w ∈ u_ws RX18 TX18 10, w ∈ ow_dm_X18_register := fun w h => List.mem_cons_of_mem _ (List.mem_append_right _ (List.mem_append_left _ h))
theorem gi_dm_X18_register_0 : GoodIn ow_dm_X18_register (wsV RX18 53 RX18 yX18_next ow_dm_X18_next) := goodIn_app (goodIn_of _ (by decide +kernel)) (fun w h => ⟨List.mem_cons_of_mem _ (List.mem_append_right _ (List.mem_append_right _ (List.mem_append_left _ h))), gd_dm_X18_next w h⟩)
theorem gi_dm_X18_register_1 : GoodIn ow_dm_X18_register (wsV RX18 50 RX18 yX18_say ow_dm_X18_say) := goodIn_app (goodIn_of _ (by decide +kernel)) (fun w h => ⟨List.mem_cons_of_mem _ (List.mem_append_right _ (List.mem_append_right _ (List.mem_append_right _ (List.mem_append_left _ h)))), gd_dm_X18_say w h⟩)
def dj_X18_register_0 (p : Program) (l : Launch) (e : Env) (s : State) (m : MethodId) (args : Array Value) (below : List Frame) (meth : Method) (c : Code) (Q : State → Prop) (A : Nat → Prop) (dC : Nat → ClassId) (dI : Nat → Nat → Nat) (a : Nat → Nat) (ac : Nat → ClassId) (g : Int32 → (St) → Option (St)) (r : St) : Prop := ∀ (v0 : Int32) (s0 : St) (H : Heap) (locs : List Loc) (ls : Array Slot), g v0 s0 = some r → va_P (dC, dI) vwCl (dw_X18 a ac s0) H → va_D A (dw_X18 a ac s0) → va_S A s.heap H locs → lv_has ls 2 [(0, .ref (a 0)), (1, .int v0)] → W p l e (headSpec ow_dm_X18_register ({ frames := 2, cells := 0, slots := 0, locals := 45 })).room s m args below meth c H locs 0 0 Q (F0 m 0 ls [])
set_option maxHeartbeats 40000000 in
set_option maxRecDepth 100000 in
theorem db_X18_register_0 {p : Program} {l : Launch} {e : Env} {s : State} {m : MethodId} {args : Array Value} {below : List Frame} {meth : Method} {c : Code} {Q : State → Prop} {A : Nat → Prop} {dC : Nat → ClassId} {dI : Nat → Nat → Nat} {a : Nat → Nat} {ac : Nat → ClassId} {n : Nat} {r : St} (C : nd_C p l s m args c A (dC, dI) cX18_register 2 RX18 ow_dm_X18_register (dk_X18 ac)) (K : nd_Kv p l e (headSpec ow_dm_X18_register ({ frames := 2, cells := 0, slots := 0, locals := 45 })).room s m args below meth c Q A (dC, dI) cX18_register (St) (dw_X18 a ac) r) : dj_X18_register_0 p l e s m args below meth c Q A dC dI a ac (df_X18_register_0 n) r := by
  obtain ⟨hlt, hx, hb, hml, hown, hts, hN, hA, hK⟩ := id C
  intro v0 s0 H locs ls h hP hD hS hl
  unfold df_X18_register_0 at h
  refine lv_aload_n hx hb dX18_register_0 rfl (lv_at hl 0 rfl) ?_
  obtain ⟨s2, hq, h⟩ := nd_b1_e h
  have hPc := hP
  have hDc := hD
  have hKc := hK
  have hFc := nd_rs hD hS hA
  refine nd_cVv (As := []) (rest := []) (w' := dw_X18 a ac s2) ⟨hx, hb, hml, hown, hts⟩ (fun sz => dm_X18_next l hlt dC dI a ac n  s0 hq sz) (cwV 0 hts gi_dm_X18_register_0 rfl rfl rfl (by decide +kernel) ⟨Nat.le_of_ble_eq_true rfl, Nat.le_of_ble_eq_true rfl⟩) hPc hDc hKc hS hA hN (va_recv hKc hPc (ci := 19) (q0 := 0) rfl rfl) rfl hl.1 rfl (Nat.le_of_ble_eq_true rfl) dX18_register_1 (fun H locs hP1 hD1 hk1 hS => ?_)
  have hP := hP1
  have hD := hD1.weaken (fun k q _ h => hFc q.1 h)
  refine lv_aload_n hx hb dX18_register_4 rfl (lv_at hl 0 rfl) ?_
  refine lv_aload_n hx hb dX18_register_5 rfl (lv_at hl 0 rfl) ?_
  refine va_get (D := (dC, dI)) (ci := 19) (v := .ref (a 2)) (C := RX18) (T := TX18) (N := 10) hx hb hts hi_dm_X18_register_X18 hown hK hP 0 rfl rfl 9 (by decide) (hts (.fieldLink RX18 16 "TimeMachineModel$Reader" "registers" "[I") (List.mem_of_getElem? (i := 5) rfl)) (fun _ h9 => h9) rfl dX18_register_6 ?_
  refine lv_iload_n hx hb dX18_register_9 rfl (lv_at hl 1 rfl) ?_
  obtain ⟨i4, h⟩ := nd_ck_e h
  refine va_iald (i := v0) hx hb hK hP 2 1 rfl rfl i4 dX18_register_10 ?_
  refine lv_i2l hx hb dX18_register_11 rfl ?_
  obtain ⟨s6, hq, h⟩ := nd_b1_e h
  have hPc := hP
  have hDc := hD
  have hKc := hK
  have hFc := nd_rs hD hS hA
  refine nd_cVv (As := [.long (((sR s2 1 (Int32.toNatClampNeg v0)) : Int32).toInt64)]) (rest := []) (w' := dw_X18 a ac s6) ⟨hx, hb, hml, hown, hts⟩ (fun sz => dm_X18_say l hlt dC dI a ac n ((((sR s2 1 (Int32.toNatClampNeg v0)) : Int32).toInt64)) s2 hq sz) (cwV 1 hts gi_dm_X18_register_1 rfl rfl rfl (by decide +kernel) ⟨Nat.le_of_ble_eq_true rfl, Nat.le_of_ble_eq_true rfl⟩) hPc hDc hKc hS hA hN (va_recv hKc hPc (ci := 19) (q0 := 0) rfl rfl) rfl hl.1 rfl (Nat.le_of_ble_eq_true rfl) dX18_register_12 (fun H locs hP1 hD1 hk1 hS => ?_)
  have hP := hP1
  have hD := hD1.weaken (fun k q _ h => hFc q.1 h)
  exact K _ _ _ _ _ dX18_register_15 (Option.some.inj h).symm hP hD hS
set_option maxHeartbeats 40000000 in
set_option maxRecDepth 100000 in
theorem dm_X18_register (l : Launch) (hlt : l.stackTraces = false) (dC : Nat → ClassId) (dI : Nat → Nat → Nat) (a : Nat → Nat) (ac : Nat → ClassId) (n : Nat) (v0 : Int32) (s0 : St) {r : St} (h : df_X18_register n v0 s0 = some r) (sz : Nat) : Met l yX18_register ow_dm_X18_register ({ frames := 2, cells := 0, slots := 0, locals := 45 }) (va_Pc [.ref (a 0), .int v0] (fun U => U.heap.size = sz ∧ va_P (dC, dI) vwCl (dw_X18 a ac s0) U.heap ∧ va_K (dC, dI) vwCl (dk_X18 ac) U ∧ va_D (fun _ => True) (dw_X18 a ac s0) ∧ nv_E dI (va_A (dw_X18 a ac s0) sz) U)) (va_Qv (fun _ => True) (fun (_ : Unit) t => va_P (dC, dI) vwCl (dw_X18 a ac r) t.heap ∧ va_K (dC, dI) vwCl (dk_X18 ac) t ∧ va_D (va_A (dw_X18 a ac s0) sz) (dw_X18 a ac r)) (va_A (dw_X18 a ac s0) sz)) 0 0 (va_A (dw_X18 a ac s0) sz) := by
  refine Met.ofW (cc := cX18_register) (maxL := 2) (ret := none) (by decide) rfl ?_
  intro p e s m args below meth c s₁ B hml hv
  obtain ⟨rfl, hsz, hP, hK, hD0, hN⟩ := hv
  have hx := B.exec
  have hb := B.bytes
  have hr := B.returns
  have hts := atoms_spec (ws := ow_dm_X18_register) B.pre
  have hown : s.vm.findClass RX18 = some m.cls := findClass_of_methodNamed B.named
  have hlocks := B.notSynchronized
  subst hsz
  have hD := hD0.self (sz := s.heap.size)
  generalize hAe : va_A (dw_X18 a ac s0) s.heap.size = A at hD hN ⊢
  have hA : ∀ q : Nat, s.heap.size ≤ q → A q := fun q h => by rw [← hAe]; exact Or.inr h
  have hl := lv_entry ([.ref (a 0), .int v0]) (n := 2) (Nat.le_of_ble_eq_true rfl)
  rw [lg_entry_eq]
  generalize (lg_sl ([.ref (a 0), .int v0]) ++ List.replicate (2 - (lg_sl ([.ref (a 0), .int v0])).length) Slot.unset).toArray = ls at hl ⊢
  have hl : lv_has ls 2 [(0, .ref (a 0)), (1, .int v0)] := hl
  exact db_X18_register_0 (dC := dC) (dI := dI) (a := a) (ac := ac) (n := n) (r := r) ⟨hlt, hx, hb, hml, hown, hts, hN, hA, hK⟩ (fun pc τ H locs ls d er hP hD hS => by subst er; exact W.vret hx hb hr (fun t ht hW => ⟨⟨(), rfl, trivial, by rw [ht]; exact hP, va_K.moved hW.alike hK, hD⟩, hS.F ht⟩) hS.2.2 d) v0 s0 _ _ _ h hP hD va_S.rf (lv_sub hl [0, 1] rfl)
def ow_dm_X18_immediate : List Cond := Cond.code yX18_immediate cX18_immediate 2 none :: ([Cond.methodLink RX18 53 yX18_next, Cond.instanceMethod yX18_next, Cond.selects RX18 yX18_next yX18_next, Cond.initialized RX18, Cond.methodLink RX18 56 yX18_number, Cond.instanceMethod yX18_number, Cond.selects RX18 yX18_number yX18_number] ++ (ow_dm_X18_next ++ (ow_dm_X18_number ++ [])))
theorem gd_dm_X18_immediate : ∀ w ∈ ow_dm_X18_immediate, (w.onTables && w.keeps) = true ∨ ∃ ty, w = Cond.arrayClass ty := List.forall_mem_cons.mpr ⟨good_of_word rfl, List.forall_mem_append.mpr ⟨fun w h => good_of_word (List.all_eq_true.mp (by decide +kernel) w h), List.forall_mem_append.mpr ⟨gd_dm_X18_next, List.forall_mem_append.mpr ⟨gd_dm_X18_number, fun _ h => nomatch h⟩⟩⟩⟩
theorem gi_dm_X18_immediate_0 : GoodIn ow_dm_X18_immediate (wsV RX18 53 RX18 yX18_next ow_dm_X18_next) := goodIn_app (goodIn_of _ (by decide +kernel)) (fun w h => ⟨List.mem_cons_of_mem _ (List.mem_append_right _ (List.mem_append_left _ h)), gd_dm_X18_next w h⟩)
theorem gi_dm_X18_immediate_1 : GoodIn ow_dm_X18_immediate (wsV RX18 56 RX18 yX18_number ow_dm_X18_number) := goodIn_app (goodIn_of _ (by decide +kernel)) (fun w h => ⟨List.mem_cons_of_mem _ (List.mem_append_right _ (List.mem_append_right _ (List.mem_append_left _ h))), gd_dm_X18_number w h⟩)
def dj_X18_immediate_0 (p : Program) (l : Launch) (e : Env) (s : State) (m : MethodId) (args : Array Value) (below : List Frame) (meth : Method) (c : Code) (Q : State → Prop) (A : Nat → Prop) (dC : Nat → ClassId) (dI : Nat → Nat → Nat) (a : Nat → Nat) (ac : Nat → ClassId) (g : Int32 → (St) → Option (St)) (r : St) : Prop := ∀ (v0 : Int32) (s0 : St) (H : Heap) (locs : List Loc) (ls : Array Slot), g v0 s0 = some r → va_P (dC, dI) vwCl (dw_X18 a ac s0) H → va_D A (dw_X18 a ac s0) → va_S A s.heap H locs → lv_has ls 2 [(0, .ref (a 0)), (1, .int v0)] → W p l e (headSpec ow_dm_X18_immediate ({ frames := 3, cells := 0, slots := 0, locals := 68 })).room s m args below meth c H locs 0 0 Q (F0 m 0 ls [])
set_option maxHeartbeats 40000000 in
set_option maxRecDepth 100000 in
theorem db_X18_immediate_0 {p : Program} {l : Launch} {e : Env} {s : State} {m : MethodId} {args : Array Value} {below : List Frame} {meth : Method} {c : Code} {Q : State → Prop} {A : Nat → Prop} {dC : Nat → ClassId} {dI : Nat → Nat → Nat} {a : Nat → Nat} {ac : Nat → ClassId} {n : Nat} {r : St} (C : nd_C p l s m args c A (dC, dI) cX18_immediate 2 RX18 ow_dm_X18_immediate (dk_X18 ac)) (K : nd_Kv p l e (headSpec ow_dm_X18_immediate ({ frames := 3, cells := 0, slots := 0, locals := 68 })).room s m args below meth c Q A (dC, dI) cX18_immediate (St) (dw_X18 a ac) r) : dj_X18_immediate_0 p l e s m args below meth c Q A dC dI a ac (df_X18_immediate_0 n) r := by
  obtain ⟨hlt, hx, hb, hml, hown, hts, hN, hA, hK⟩ := id C
  intro v0 s0 H locs ls h hP hD hS hl
  unfold df_X18_immediate_0 at h
  refine lv_aload_n hx hb dX18_immediate_0 rfl (lv_at hl 0 rfl) ?_
  obtain ⟨s2, hq, h⟩ := nd_b1_e h
  have hPc := hP
  have hDc := hD
  have hKc := hK
  have hFc := nd_rs hD hS hA
  refine nd_cVv (As := []) (rest := []) (w' := dw_X18 a ac s2) ⟨hx, hb, hml, hown, hts⟩ (fun sz => dm_X18_next l hlt dC dI a ac n  s0 hq sz) (cwV 0 hts gi_dm_X18_immediate_0 rfl rfl rfl (by decide +kernel) ⟨Nat.le_of_ble_eq_true rfl, Nat.le_of_ble_eq_true rfl⟩) hPc hDc hKc hS hA hN (va_recv hKc hPc (ci := 19) (q0 := 0) rfl rfl) rfl hl.1 rfl (Nat.le_of_ble_eq_true rfl) dX18_immediate_1 (fun H locs hP1 hD1 hk1 hS => ?_)
  have hP := hP1
  have hD := hD1.weaken (fun k q _ h => hFc q.1 h)
  refine lv_aload_n hx hb dX18_immediate_4 rfl (lv_at hl 0 rfl) ?_
  refine lv_iload_n hx hb dX18_immediate_5 rfl (lv_at hl 1 rfl) ?_
  obtain ⟨s5, hq, h⟩ := nd_b1_e h
  have hPc := hP
  have hDc := hD
  have hKc := hK
  have hFc := nd_rs hD hS hA
  refine nd_cVv (As := [.int v0]) (rest := []) (w' := dw_X18 a ac s5) ⟨hx, hb, hml, hown, hts⟩ (fun sz => dm_X18_number l hlt dC dI a ac n (v0) s2 hq sz) (cwV 1 hts gi_dm_X18_immediate_1 rfl rfl rfl (by decide +kernel) ⟨Nat.le_of_ble_eq_true rfl, Nat.le_of_ble_eq_true rfl⟩) hPc hDc hKc hS hA hN (va_recv hKc hPc (ci := 19) (q0 := 0) rfl rfl) rfl hl.1 rfl (Nat.le_of_ble_eq_true rfl) dX18_immediate_6 (fun H locs hP1 hD1 hk1 hS => ?_)
  have hP := hP1
  have hD := hD1.weaken (fun k q _ h => hFc q.1 h)
  exact K _ _ _ _ _ dX18_immediate_9 (Option.some.inj h).symm hP hD hS
set_option maxHeartbeats 40000000 in
set_option maxRecDepth 100000 in
theorem dm_X18_immediate (l : Launch) (hlt : l.stackTraces = false) (dC : Nat → ClassId) (dI : Nat → Nat → Nat) (a : Nat → Nat) (ac : Nat → ClassId) (n : Nat) (v0 : Int32) (s0 : St) {r : St} (h : df_X18_immediate n v0 s0 = some r) (sz : Nat) : Met l yX18_immediate ow_dm_X18_immediate ({ frames := 3, cells := 0, slots := 0, locals := 68 }) (va_Pc [.ref (a 0), .int v0] (fun U => U.heap.size = sz ∧ va_P (dC, dI) vwCl (dw_X18 a ac s0) U.heap ∧ va_K (dC, dI) vwCl (dk_X18 ac) U ∧ va_D (fun _ => True) (dw_X18 a ac s0) ∧ nv_E dI (va_A (dw_X18 a ac s0) sz) U)) (va_Qv (fun _ => True) (fun (_ : Unit) t => va_P (dC, dI) vwCl (dw_X18 a ac r) t.heap ∧ va_K (dC, dI) vwCl (dk_X18 ac) t ∧ va_D (va_A (dw_X18 a ac s0) sz) (dw_X18 a ac r)) (va_A (dw_X18 a ac s0) sz)) 0 0 (va_A (dw_X18 a ac s0) sz) := by
  refine Met.ofW (cc := cX18_immediate) (maxL := 2) (ret := none) (by decide) rfl ?_
  intro p e s m args below meth c s₁ B hml hv
  obtain ⟨rfl, hsz, hP, hK, hD0, hN⟩ := hv
  have hx := B.exec
  have hb := B.bytes
  have hr := B.returns
  have hts := atoms_spec (ws := ow_dm_X18_immediate) B.pre
  have hown : s.vm.findClass RX18 = some m.cls := findClass_of_methodNamed B.named
  have hlocks := B.notSynchronized
  subst hsz
  have hD := hD0.self (sz := s.heap.size)
  generalize hAe : va_A (dw_X18 a ac s0) s.heap.size = A at hD hN ⊢
  have hA : ∀ q : Nat, s.heap.size ≤ q → A q := fun q h => by rw [← hAe]; exact Or.inr h
  have hl := lv_entry ([.ref (a 0), .int v0]) (n := 2) (Nat.le_of_ble_eq_true rfl)
  rw [lg_entry_eq]
  generalize (lg_sl ([.ref (a 0), .int v0]) ++ List.replicate (2 - (lg_sl ([.ref (a 0), .int v0])).length) Slot.unset).toArray = ls at hl ⊢
  have hl : lv_has ls 2 [(0, .ref (a 0)), (1, .int v0)] := hl
  exact db_X18_immediate_0 (dC := dC) (dI := dI) (a := a) (ac := ac) (n := n) (r := r) ⟨hlt, hx, hb, hml, hown, hts, hN, hA, hK⟩ (fun pc τ H locs ls d er hP hD hS => by subst er; exact W.vret hx hb hr (fun t ht hW => ⟨⟨(), rfl, trivial, by rw [ht]; exact hP, va_K.moved hW.alike hK, hD⟩, hS.F ht⟩) hS.2.2 d) v0 s0 _ _ _ h hP hD va_S.rf (lv_sub hl [0, 1] rfl)
def ow_dm_X18_target : List Cond := Cond.code yX18_target cX18_target 2 none :: ([Cond.methodLink RX18 53 yX18_next, Cond.instanceMethod yX18_next, Cond.selects RX18 yX18_next yX18_next, Cond.initialized RX18, Cond.methodLink RX18 29 yX18_put, Cond.instanceMethod yX18_put, Cond.selects RX18 yX18_put yX18_put, Cond.methodLink RX18 56 yX18_number, Cond.instanceMethod yX18_number, Cond.selects RX18 yX18_number yX18_number] ++ (ow_dm_X18_next ++ (ow_dm_X18_put ++ (ow_dm_X18_number ++ []))))
theorem gd_dm_X18_target : ∀ w ∈ ow_dm_X18_target, (w.onTables && w.keeps) = true ∨ ∃ ty, w = Cond.arrayClass ty := List.forall_mem_cons.mpr ⟨good_of_word rfl, List.forall_mem_append.mpr ⟨fun w h => good_of_word (List.all_eq_true.mp (by decide +kernel) w h), List.forall_mem_append.mpr ⟨gd_dm_X18_next, List.forall_mem_append.mpr ⟨gd_dm_X18_put, List.forall_mem_append.mpr ⟨gd_dm_X18_number, fun _ h => nomatch h⟩⟩⟩⟩⟩
theorem gi_dm_X18_target_0 : GoodIn ow_dm_X18_target (wsV RX18 53 RX18 yX18_next ow_dm_X18_next) := goodIn_app (goodIn_of _ (by decide +kernel)) (fun w h => ⟨List.mem_cons_of_mem _ (List.mem_append_right _ (List.mem_append_left _ h)), gd_dm_X18_next w h⟩)
theorem gi_dm_X18_target_1 : GoodIn ow_dm_X18_target (wsV RX18 29 RX18 yX18_put ow_dm_X18_put) := goodIn_app (goodIn_of _ (by decide +kernel)) (fun w h => ⟨List.mem_cons_of_mem _ (List.mem_append_right _ (List.mem_append_right _ (List.mem_append_left _ h))), gd_dm_X18_put w h⟩)
theorem gi_dm_X18_target_2 : GoodIn ow_dm_X18_target (wsV RX18 56 RX18 yX18_number ow_dm_X18_number) := goodIn_app (goodIn_of _ (by decide +kernel)) (fun w h => ⟨List.mem_cons_of_mem _ (List.mem_append_right _ (List.mem_append_right _ (List.mem_append_right _ (List.mem_append_left _ h)))), gd_dm_X18_number w h⟩)
def dj_X18_target_20 (p : Program) (l : Launch) (e : Env) (s : State) (m : MethodId) (args : Array Value) (below : List Frame) (meth : Method) (c : Code) (Q : State → Prop) (A : Nat → Prop) (dC : Nat → ClassId) (dI : Nat → Nat → Nat) (a : Nat → Nat) (ac : Nat → ClassId) (g : Int32 → (St) → Option (St)) (r : St) : Prop := ∀ (x1 : Int32) (s0 : St) (H : Heap) (locs : List Loc) (ls : Array Slot), g x1 s0 = some r → va_P (dC, dI) vwCl (dw_X18 a ac s0) H → va_D A (dw_X18 a ac s0) → va_S A s.heap H locs → lv_has ls 2 [(0, .ref (a 0)), (1, .int x1)] → W p l e (headSpec ow_dm_X18_target ({ frames := 3, cells := 0, slots := 0, locals := 68 })).room s m args below meth c H locs 0 0 Q (F0 m 20 ls [])
def dj_X18_target_0 (p : Program) (l : Launch) (e : Env) (s : State) (m : MethodId) (args : Array Value) (below : List Frame) (meth : Method) (c : Code) (Q : State → Prop) (A : Nat → Prop) (dC : Nat → ClassId) (dI : Nat → Nat → Nat) (a : Nat → Nat) (ac : Nat → ClassId) (g : Int32 → (St) → Option (St)) (r : St) : Prop := ∀ (v0 : Int32) (s0 : St) (H : Heap) (locs : List Loc) (ls : Array Slot), g v0 s0 = some r → va_P (dC, dI) vwCl (dw_X18 a ac s0) H → va_D A (dw_X18 a ac s0) → va_S A s.heap H locs → lv_has ls 2 [(0, .ref (a 0)), (1, .int v0)] → W p l e (headSpec ow_dm_X18_target ({ frames := 3, cells := 0, slots := 0, locals := 68 })).room s m args below meth c H locs 0 0 Q (F0 m 0 ls [])
set_option maxHeartbeats 40000000 in
set_option maxRecDepth 100000 in
theorem db_X18_target_20 {p : Program} {l : Launch} {e : Env} {s : State} {m : MethodId} {args : Array Value} {below : List Frame} {meth : Method} {c : Code} {Q : State → Prop} {A : Nat → Prop} {dC : Nat → ClassId} {dI : Nat → Nat → Nat} {a : Nat → Nat} {ac : Nat → ClassId} {n : Nat} {r : St} (C : nd_C p l s m args c A (dC, dI) cX18_target 2 RX18 ow_dm_X18_target (dk_X18 ac)) (K : nd_Kv p l e (headSpec ow_dm_X18_target ({ frames := 3, cells := 0, slots := 0, locals := 68 })).room s m args below meth c Q A (dC, dI) cX18_target (St) (dw_X18 a ac) r) : dj_X18_target_20 p l e s m args below meth c Q A dC dI a ac (df_X18_target_20 n) r := by
  obtain ⟨hlt, hx, hb, hml, hown, hts, hN, hA, hK⟩ := id C
  intro x1 s0 H locs ls h hP hD hS hl
  unfold df_X18_target_20 at h
  refine lv_aload_n hx hb dX18_target_20 rfl (lv_at hl 0 rfl) ?_
  refine lv_iload_n hx hb dX18_target_21 rfl (lv_at hl 1 rfl) ?_
  obtain ⟨s9, hq, h⟩ := nd_b1_e h
  have hPc := hP
  have hDc := hD
  have hKc := hK
  have hFc := nd_rs hD hS hA
  refine nd_cVv (As := [.int x1]) (rest := []) (w' := dw_X18 a ac s9) ⟨hx, hb, hml, hown, hts⟩ (fun sz => dm_X18_number l hlt dC dI a ac n (x1) s0 hq sz) (cwV 1 hts gi_dm_X18_target_2 rfl rfl rfl (by decide +kernel) ⟨Nat.le_of_ble_eq_true rfl, Nat.le_of_ble_eq_true rfl⟩) hPc hDc hKc hS hA hN (va_recv hKc hPc (ci := 19) (q0 := 0) rfl rfl) rfl hl.1 rfl (Nat.le_of_ble_eq_true rfl) dX18_target_22 (fun H locs hP1 hD1 hk1 hS => ?_)
  have hP := hP1
  have hD := hD1.weaken (fun k q _ h => hFc q.1 h)
  exact K _ _ _ _ _ dX18_target_25 (Option.some.inj h).symm hP hD hS
set_option maxHeartbeats 40000000 in
set_option maxRecDepth 100000 in
theorem db_X18_target_0 {p : Program} {l : Launch} {e : Env} {s : State} {m : MethodId} {args : Array Value} {below : List Frame} {meth : Method} {c : Code} {Q : State → Prop} {A : Nat → Prop} {dC : Nat → ClassId} {dI : Nat → Nat → Nat} {a : Nat → Nat} {ac : Nat → ClassId} {n : Nat} {r : St} (C : nd_C p l s m args c A (dC, dI) cX18_target 2 RX18 ow_dm_X18_target (dk_X18 ac)) (K : nd_Kv p l e (headSpec ow_dm_X18_target ({ frames := 3, cells := 0, slots := 0, locals := 68 })).room s m args below meth c Q A (dC, dI) cX18_target (St) (dw_X18 a ac) r) : dj_X18_target_0 p l e s m args below meth c Q A dC dI a ac (df_X18_target_0 n) r := by
  obtain ⟨hlt, hx, hb, hml, hown, hts, hN, hA, hK⟩ := id C
  intro v0 s0 H locs ls h hP hD hS hl
  unfold df_X18_target_0 at h
  refine lv_aload_n hx hb dX18_target_0 rfl (lv_at hl 0 rfl) ?_
  obtain ⟨s2, hq, h⟩ := nd_b1_e h
  have hPc := hP
  have hDc := hD
  have hKc := hK
  have hFc := nd_rs hD hS hA
  refine nd_cVv (As := []) (rest := []) (w' := dw_X18 a ac s2) ⟨hx, hb, hml, hown, hts⟩ (fun sz => dm_X18_next l hlt dC dI a ac n  s0 hq sz) (cwV 0 hts gi_dm_X18_target_0 rfl rfl rfl (by decide +kernel) ⟨Nat.le_of_ble_eq_true rfl, Nat.le_of_ble_eq_true rfl⟩) hPc hDc hKc hS hA hN (va_recv hKc hPc (ci := 19) (q0 := 0) rfl rfl) rfl hl.1 rfl (Nat.le_of_ble_eq_true rfl) dX18_target_1 (fun H locs hP1 hD1 hk1 hS => ?_)
  have hP := hP1
  have hD := hD1.weaken (fun k q _ h => hFc q.1 h)
  refine lv_aload_n hx hb dX18_target_4 rfl (lv_at hl 0 rfl) ?_
  refine lv_bipush (v := 46) hx hb dX18_target_5 (by decide) ?_
  obtain ⟨s5, hq, h⟩ := nd_b1_e h
  have hPc := hP
  have hDc := hD
  have hKc := hK
  have hFc := nd_rs hD hS hA
  refine nd_cVv (As := [.int 46]) (rest := []) (w' := dw_X18 a ac s5) ⟨hx, hb, hml, hown, hts⟩ (fun sz => dm_X18_put l hlt dC dI a ac n (46) s2 hq sz) (cwV 1 hts gi_dm_X18_target_1 rfl rfl rfl (by decide +kernel) ⟨Nat.le_of_ble_eq_true rfl, Nat.le_of_ble_eq_true rfl⟩) hPc hDc hKc hS hA hN (va_recv hKc hPc (ci := 19) (q0 := 0) rfl rfl) rfl hl.1 rfl (Nat.le_of_ble_eq_true rfl) dX18_target_7 (fun H locs hP1 hD1 hk1 hS => ?_)
  have hP := hP1
  have hD := hD1.weaken (fun k q _ h => hFc q.1 h)
  refine lv_iload_n hx hb dX18_target_10 rfl (lv_at hl 1 rfl) ?_
  refine lv_if_lt (tgt := 20) hx hb dX18_target_11 (by decide) (fun c7 => ?_) (fun c7 => ?_)
  · have h := nd_pos h c7
    exact (db_X18_target_20 C K) (v0) s5 _ _ _ h hP hD hS (lv_sub hl [0, 1] rfl)
  · have h := nd_neg h c7
    refine lv_aload_n hx hb dX18_target_14 rfl (lv_at hl 0 rfl) ?_
    refine lv_bipush (v := 43) hx hb dX18_target_15 (by decide) ?_
    obtain ⟨s12, hq, h⟩ := nd_b1_e h
    have hPc := hP
    have hDc := hD
    have hKc := hK
    have hFc := nd_rs hD hS hA
    refine nd_cVv (As := [.int 43]) (rest := []) (w' := dw_X18 a ac s12) ⟨hx, hb, hml, hown, hts⟩ (fun sz => dm_X18_put l hlt dC dI a ac n (43) s5 hq sz) (cwV 1 hts gi_dm_X18_target_1 rfl rfl rfl (by decide +kernel) ⟨Nat.le_of_ble_eq_true rfl, Nat.le_of_ble_eq_true rfl⟩) hPc hDc hKc hS hA hN (va_recv hKc hPc (ci := 19) (q0 := 0) rfl rfl) rfl hl.1 rfl (Nat.le_of_ble_eq_true rfl) dX18_target_17 (fun H locs hP1 hD1 hk1 hS => ?_)
    have hP := hP1
    have hD := hD1.weaken (fun k q _ h => hFc q.1 h)
    exact (db_X18_target_20 C K) (v0) s12 _ _ _ h hP hD hS (lv_sub hl [0, 1] rfl)
set_option maxHeartbeats 40000000 in
set_option maxRecDepth 100000 in
theorem dm_X18_target (l : Launch) (hlt : l.stackTraces = false) (dC : Nat → ClassId) (dI : Nat → Nat → Nat) (a : Nat → Nat) (ac : Nat → ClassId) (n : Nat) (v0 : Int32) (s0 : St) {r : St} (h : df_X18_target n v0 s0 = some r) (sz : Nat) : Met l yX18_target ow_dm_X18_target ({ frames := 3, cells := 0, slots := 0, locals := 68 }) (va_Pc [.ref (a 0), .int v0] (fun U => U.heap.size = sz ∧ va_P (dC, dI) vwCl (dw_X18 a ac s0) U.heap ∧ va_K (dC, dI) vwCl (dk_X18 ac) U ∧ va_D (fun _ => True) (dw_X18 a ac s0) ∧ nv_E dI (va_A (dw_X18 a ac s0) sz) U)) (va_Qv (fun _ => True) (fun (_ : Unit) t => va_P (dC, dI) vwCl (dw_X18 a ac r) t.heap ∧ va_K (dC, dI) vwCl (dk_X18 ac) t ∧ va_D (va_A (dw_X18 a ac s0) sz) (dw_X18 a ac r)) (va_A (dw_X18 a ac s0) sz)) 0 0 (va_A (dw_X18 a ac s0) sz) := by
  refine Met.ofW (cc := cX18_target) (maxL := 2) (ret := none) (by decide) rfl ?_
  intro p e s m args below meth c s₁ B hml hv
  obtain ⟨rfl, hsz, hP, hK, hD0, hN⟩ := hv
  have hx := B.exec
  have hb := B.bytes
  have hr := B.returns
  have hts := atoms_spec (ws := ow_dm_X18_target) B.pre
  have hown : s.vm.findClass RX18 = some m.cls := findClass_of_methodNamed B.named
  have hlocks := B.notSynchronized
  subst hsz
  have hD := hD0.self (sz := s.heap.size)
  generalize hAe : va_A (dw_X18 a ac s0) s.heap.size = A at hD hN ⊢
  have hA : ∀ q : Nat, s.heap.size ≤ q → A q := fun q h => by rw [← hAe]; exact Or.inr h
  have hl := lv_entry ([.ref (a 0), .int v0]) (n := 2) (Nat.le_of_ble_eq_true rfl)
  rw [lg_entry_eq]
  generalize (lg_sl ([.ref (a 0), .int v0]) ++ List.replicate (2 - (lg_sl ([.ref (a 0), .int v0])).length) Slot.unset).toArray = ls at hl ⊢
  have hl : lv_has ls 2 [(0, .ref (a 0)), (1, .int v0)] := hl
  exact db_X18_target_0 (dC := dC) (dI := dI) (a := a) (ac := ac) (n := n) (r := r) ⟨hlt, hx, hb, hml, hown, hts, hN, hA, hK⟩ (fun pc τ H locs ls d er hP hD hS => by subst er; exact W.vret hx hb hr (fun t ht hW => ⟨⟨(), rfl, trivial, by rw [ht]; exact hP, va_K.moved hW.alike hK, hD⟩, hS.F ht⟩) hS.2.2 d) v0 s0 _ _ _ h hP hD va_S.rf (lv_sub hl [0, 1] rfl)
def ow_dm_X18_bracket : List Cond := Cond.code yX18_bracket cX18_bracket 2 none :: ([Cond.methodLink RX18 29 yX18_put, Cond.instanceMethod yX18_put, Cond.selects RX18 yX18_put yX18_put, Cond.initialized RX18, Cond.fieldLink RX18 16 "TimeMachineModel$Reader" "registers" "[I", Cond.methodLink RX18 50 yX18_say, Cond.instanceMethod yX18_say, Cond.selects RX18 yX18_say yX18_say] ++ (u_ws RX18 TX18 10 ++ (ow_dm_X18_put ++ (ow_dm_X18_say ++ []))))
theorem gd_dm_X18_bracket : ∀ w ∈ ow_dm_X18_bracket, (w.onTables && w.keeps) = true ∨ ∃ ty, w = Cond.arrayClass ty := List.forall_mem_cons.mpr ⟨good_of_word rfl, List.forall_mem_append.mpr ⟨fun w h => good_of_word (List.all_eq_true.mp (by decide +kernel) w h), List.forall_mem_append.mpr ⟨gu_X18, List.forall_mem_append.mpr ⟨gd_dm_X18_put, List.forall_mem_append.mpr ⟨gd_dm_X18_say, fun _ h => nomatch h⟩⟩⟩⟩⟩
theorem hi_dm_X18_bracket_X18 : ∀ w ∈ u_ws RX18 TX18 10, w ∈ ow_dm_X18_bracket := fun w h => List.mem_cons_of_mem _ (List.mem_append_right _ (List.mem_append_left _ h))
theorem gi_dm_X18_bracket_0 : GoodIn ow_dm_X18_bracket (wsV RX18 29 RX18 yX18_put ow_dm_X18_put) := goodIn_app (goodIn_of _ (by decide +kernel)) (fun w h => ⟨List.mem_cons_of_mem _ (List.mem_append_right _ (List.mem_append_right _ (List.mem_append_left _ h))), gd_dm_X18_put w h⟩)
theorem gi_dm_X18_bracket_1 : GoodIn ow_dm_X18_bracket (wsV RX18 50 RX18 yX18_say ow_dm_X18_say) := goodIn_app (goodIn_of _ (by decide +kernel)) (fun w h => ⟨List.mem_cons_of_mem _ (List.mem_append_right _ (List.mem_append_right _ (List.mem_append_right _ (List.mem_append_left _ h)))), gd_dm_X18_say w h⟩)
def dj_X18_bracket_0 (p : Program) (l : Launch) (e : Env) (s : State) (m : MethodId) (args : Array Value) (below : List Frame) (meth : Method) (c : Code) (Q : State → Prop) (A : Nat → Prop) (dC : Nat → ClassId) (dI : Nat → Nat → Nat) (a : Nat → Nat) (ac : Nat → ClassId) (g : Int32 → (St) → Option (St)) (r : St) : Prop := ∀ (v0 : Int32) (s0 : St) (H : Heap) (locs : List Loc) (ls : Array Slot), g v0 s0 = some r → va_P (dC, dI) vwCl (dw_X18 a ac s0) H → va_D A (dw_X18 a ac s0) → va_S A s.heap H locs → lv_has ls 2 [(0, .ref (a 0)), (1, .int v0)] → W p l e (headSpec ow_dm_X18_bracket ({ frames := 2, cells := 0, slots := 0, locals := 45 })).room s m args below meth c H locs 0 0 Q (F0 m 0 ls [])
set_option maxHeartbeats 40000000 in
set_option maxRecDepth 100000 in
theorem db_X18_bracket_0 {p : Program} {l : Launch} {e : Env} {s : State} {m : MethodId} {args : Array Value} {below : List Frame} {meth : Method} {c : Code} {Q : State → Prop} {A : Nat → Prop} {dC : Nat → ClassId} {dI : Nat → Nat → Nat} {a : Nat → Nat} {ac : Nat → ClassId} {n : Nat} {r : St} (C : nd_C p l s m args c A (dC, dI) cX18_bracket 2 RX18 ow_dm_X18_bracket (dk_X18 ac)) (K : nd_Kv p l e (headSpec ow_dm_X18_bracket ({ frames := 2, cells := 0, slots := 0, locals := 45 })).room s m args below meth c Q A (dC, dI) cX18_bracket (St) (dw_X18 a ac) r) : dj_X18_bracket_0 p l e s m args below meth c Q A dC dI a ac (df_X18_bracket_0 n) r := by
  obtain ⟨hlt, hx, hb, hml, hown, hts, hN, hA, hK⟩ := id C
  intro v0 s0 H locs ls h hP hD hS hl
  unfold df_X18_bracket_0 at h
  refine lv_aload_n hx hb dX18_bracket_0 rfl (lv_at hl 0 rfl) ?_
  refine lv_bipush (v := 40) hx hb dX18_bracket_1 (by decide) ?_
  obtain ⟨s2, hq, h⟩ := nd_b1_e h
  have hPc := hP
  have hDc := hD
  have hKc := hK
  have hFc := nd_rs hD hS hA
  refine nd_cVv (As := [.int 40]) (rest := []) (w' := dw_X18 a ac s2) ⟨hx, hb, hml, hown, hts⟩ (fun sz => dm_X18_put l hlt dC dI a ac n (40) s0 hq sz) (cwV 1 hts gi_dm_X18_bracket_0 rfl rfl rfl (by decide +kernel) ⟨Nat.le_of_ble_eq_true rfl, Nat.le_of_ble_eq_true rfl⟩) hPc hDc hKc hS hA hN (va_recv hKc hPc (ci := 19) (q0 := 0) rfl rfl) rfl hl.1 rfl (Nat.le_of_ble_eq_true rfl) dX18_bracket_3 (fun H locs hP1 hD1 hk1 hS => ?_)
  have hP := hP1
  have hD := hD1.weaken (fun k q _ h => hFc q.1 h)
  refine lv_aload_n hx hb dX18_bracket_6 rfl (lv_at hl 0 rfl) ?_
  refine lv_aload_n hx hb dX18_bracket_7 rfl (lv_at hl 0 rfl) ?_
  refine va_get (D := (dC, dI)) (ci := 19) (v := .ref (a 2)) (C := RX18) (T := TX18) (N := 10) hx hb hts hi_dm_X18_bracket_X18 hown hK hP 0 rfl rfl 9 (by decide) (hts (.fieldLink RX18 16 "TimeMachineModel$Reader" "registers" "[I") (List.mem_of_getElem? (i := 5) rfl)) (fun _ h9 => h9) rfl dX18_bracket_8 ?_
  refine lv_iload_n hx hb dX18_bracket_11 rfl (lv_at hl 1 rfl) ?_
  obtain ⟨i4, h⟩ := nd_ck_e h
  refine va_iald (i := v0) hx hb hK hP 2 1 rfl rfl i4 dX18_bracket_12 ?_
  refine lv_i2l hx hb dX18_bracket_13 rfl ?_
  obtain ⟨s6, hq, h⟩ := nd_b1_e h
  have hPc := hP
  have hDc := hD
  have hKc := hK
  have hFc := nd_rs hD hS hA
  refine nd_cVv (As := [.long (((sR s2 1 (Int32.toNatClampNeg v0)) : Int32).toInt64)]) (rest := []) (w' := dw_X18 a ac s6) ⟨hx, hb, hml, hown, hts⟩ (fun sz => dm_X18_say l hlt dC dI a ac n ((((sR s2 1 (Int32.toNatClampNeg v0)) : Int32).toInt64)) s2 hq sz) (cwV 1 hts gi_dm_X18_bracket_1 rfl rfl rfl (by decide +kernel) ⟨Nat.le_of_ble_eq_true rfl, Nat.le_of_ble_eq_true rfl⟩) hPc hDc hKc hS hA hN (va_recv hKc hPc (ci := 19) (q0 := 0) rfl rfl) rfl hl.1 rfl (Nat.le_of_ble_eq_true rfl) dX18_bracket_14 (fun H locs hP1 hD1 hk1 hS => ?_)
  have hP := hP1
  have hD := hD1.weaken (fun k q _ h => hFc q.1 h)
  refine lv_aload_n hx hb dX18_bracket_17 rfl (lv_at hl 0 rfl) ?_
  refine lv_bipush (v := 41) hx hb dX18_bracket_18 (by decide) ?_
  obtain ⟨s9, hq, h⟩ := nd_b1_e h
  have hPc := hP
  have hDc := hD
  have hKc := hK
  have hFc := nd_rs hD hS hA
  refine nd_cVv (As := [.int 41]) (rest := []) (w' := dw_X18 a ac s9) ⟨hx, hb, hml, hown, hts⟩ (fun sz => dm_X18_put l hlt dC dI a ac n (41) s6 hq sz) (cwV 1 hts gi_dm_X18_bracket_0 rfl rfl rfl (by decide +kernel) ⟨Nat.le_of_ble_eq_true rfl, Nat.le_of_ble_eq_true rfl⟩) hPc hDc hKc hS hA hN (va_recv hKc hPc (ci := 19) (q0 := 0) rfl rfl) rfl hl.1 rfl (Nat.le_of_ble_eq_true rfl) dX18_bracket_20 (fun H locs hP1 hD1 hk1 hS => ?_)
  have hP := hP1
  have hD := hD1.weaken (fun k q _ h => hFc q.1 h)
  exact K _ _ _ _ _ dX18_bracket_23 (Option.some.inj h).symm hP hD hS
set_option maxHeartbeats 40000000 in
set_option maxRecDepth 100000 in
theorem dm_X18_bracket (l : Launch) (hlt : l.stackTraces = false) (dC : Nat → ClassId) (dI : Nat → Nat → Nat) (a : Nat → Nat) (ac : Nat → ClassId) (n : Nat) (v0 : Int32) (s0 : St) {r : St} (h : df_X18_bracket n v0 s0 = some r) (sz : Nat) : Met l yX18_bracket ow_dm_X18_bracket ({ frames := 2, cells := 0, slots := 0, locals := 45 }) (va_Pc [.ref (a 0), .int v0] (fun U => U.heap.size = sz ∧ va_P (dC, dI) vwCl (dw_X18 a ac s0) U.heap ∧ va_K (dC, dI) vwCl (dk_X18 ac) U ∧ va_D (fun _ => True) (dw_X18 a ac s0) ∧ nv_E dI (va_A (dw_X18 a ac s0) sz) U)) (va_Qv (fun _ => True) (fun (_ : Unit) t => va_P (dC, dI) vwCl (dw_X18 a ac r) t.heap ∧ va_K (dC, dI) vwCl (dk_X18 ac) t ∧ va_D (va_A (dw_X18 a ac s0) sz) (dw_X18 a ac r)) (va_A (dw_X18 a ac s0) sz)) 0 0 (va_A (dw_X18 a ac s0) sz) := by
  refine Met.ofW (cc := cX18_bracket) (maxL := 2) (ret := none) (by decide) rfl ?_
  intro p e s m args below meth c s₁ B hml hv
  obtain ⟨rfl, hsz, hP, hK, hD0, hN⟩ := hv
  have hx := B.exec
  have hb := B.bytes
  have hr := B.returns
  have hts := atoms_spec (ws := ow_dm_X18_bracket) B.pre
  have hown : s.vm.findClass RX18 = some m.cls := findClass_of_methodNamed B.named
  have hlocks := B.notSynchronized
  subst hsz
  have hD := hD0.self (sz := s.heap.size)
  generalize hAe : va_A (dw_X18 a ac s0) s.heap.size = A at hD hN ⊢
  have hA : ∀ q : Nat, s.heap.size ≤ q → A q := fun q h => by rw [← hAe]; exact Or.inr h
  have hl := lv_entry ([.ref (a 0), .int v0]) (n := 2) (Nat.le_of_ble_eq_true rfl)
  rw [lg_entry_eq]
  generalize (lg_sl ([.ref (a 0), .int v0]) ++ List.replicate (2 - (lg_sl ([.ref (a 0), .int v0])).length) Slot.unset).toArray = ls at hl ⊢
  have hl : lv_has ls 2 [(0, .ref (a 0)), (1, .int v0)] := hl
  exact db_X18_bracket_0 (dC := dC) (dI := dI) (a := a) (ac := ac) (n := n) (r := r) ⟨hlt, hx, hb, hml, hown, hts, hN, hA, hK⟩ (fun pc τ H locs ls d er hP hD hS => by subst er; exact W.vret hx hb hr (fun t ht hW => ⟨⟨(), rfl, trivial, by rw [ht]; exact hP, va_K.moved hW.alike hK, hD⟩, hS.F ht⟩) hS.2.2 d) v0 s0 _ _ _ h hP hD va_S.rf (lv_sub hl [0, 1] rfl)
def ow_dm_X18_memory : List Cond := Cond.code yX18_memory cX18_memory 3 none :: ([Cond.methodLink RX18 59 yX18_immediate, Cond.instanceMethod yX18_immediate, Cond.selects RX18 yX18_immediate yX18_immediate, Cond.initialized RX18, Cond.methodLink RX18 62 yX18_bracket, Cond.instanceMethod yX18_bracket, Cond.selects RX18 yX18_bracket yX18_bracket] ++ (ow_dm_X18_immediate ++ (ow_dm_X18_bracket ++ [])))
theorem gd_dm_X18_memory : ∀ w ∈ ow_dm_X18_memory, (w.onTables && w.keeps) = true ∨ ∃ ty, w = Cond.arrayClass ty := List.forall_mem_cons.mpr ⟨good_of_word rfl, List.forall_mem_append.mpr ⟨fun w h => good_of_word (List.all_eq_true.mp (by decide +kernel) w h), List.forall_mem_append.mpr ⟨gd_dm_X18_immediate, List.forall_mem_append.mpr ⟨gd_dm_X18_bracket, fun _ h => nomatch h⟩⟩⟩⟩
theorem gi_dm_X18_memory_0 : GoodIn ow_dm_X18_memory (wsV RX18 59 RX18 yX18_immediate ow_dm_X18_immediate) := goodIn_app (goodIn_of _ (by decide +kernel)) (fun w h => ⟨List.mem_cons_of_mem _ (List.mem_append_right _ (List.mem_append_left _ h)), gd_dm_X18_immediate w h⟩)
theorem gi_dm_X18_memory_1 : GoodIn ow_dm_X18_memory (wsV RX18 62 RX18 yX18_bracket ow_dm_X18_bracket) := goodIn_app (goodIn_of _ (by decide +kernel)) (fun w h => ⟨List.mem_cons_of_mem _ (List.mem_append_right _ (List.mem_append_right _ (List.mem_append_left _ h))), gd_dm_X18_bracket w h⟩)
def dj_X18_memory_0 (p : Program) (l : Launch) (e : Env) (s : State) (m : MethodId) (args : Array Value) (below : List Frame) (meth : Method) (c : Code) (Q : State → Prop) (A : Nat → Prop) (dC : Nat → ClassId) (dI : Nat → Nat → Nat) (a : Nat → Nat) (ac : Nat → ClassId) (g : Int32 → Int32 → (St) → Option (St)) (r : St) : Prop := ∀ (v0 : Int32) (v1 : Int32) (s0 : St) (H : Heap) (locs : List Loc) (ls : Array Slot), g v0 v1 s0 = some r → va_P (dC, dI) vwCl (dw_X18 a ac s0) H → va_D A (dw_X18 a ac s0) → va_S A s.heap H locs → lv_has ls 3 [(0, .ref (a 0)), (1, .int v0), (2, .int v1)] → W p l e (headSpec ow_dm_X18_memory ({ frames := 4, cells := 0, slots := 0, locals := 89 })).room s m args below meth c H locs 0 0 Q (F0 m 0 ls [])
set_option maxHeartbeats 40000000 in
set_option maxRecDepth 100000 in
theorem db_X18_memory_0 {p : Program} {l : Launch} {e : Env} {s : State} {m : MethodId} {args : Array Value} {below : List Frame} {meth : Method} {c : Code} {Q : State → Prop} {A : Nat → Prop} {dC : Nat → ClassId} {dI : Nat → Nat → Nat} {a : Nat → Nat} {ac : Nat → ClassId} {n : Nat} {r : St} (C : nd_C p l s m args c A (dC, dI) cX18_memory 3 RX18 ow_dm_X18_memory (dk_X18 ac)) (K : nd_Kv p l e (headSpec ow_dm_X18_memory ({ frames := 4, cells := 0, slots := 0, locals := 89 })).room s m args below meth c Q A (dC, dI) cX18_memory (St) (dw_X18 a ac) r) : dj_X18_memory_0 p l e s m args below meth c Q A dC dI a ac (df_X18_memory_0 n) r := by
  obtain ⟨hlt, hx, hb, hml, hown, hts, hN, hA, hK⟩ := id C
  intro v0 v1 s0 H locs ls h hP hD hS hl
  unfold df_X18_memory_0 at h
  refine lv_aload_n hx hb dX18_memory_0 rfl (lv_at hl 0 rfl) ?_
  refine lv_iload_n hx hb dX18_memory_1 rfl (lv_at hl 1 rfl) ?_
  obtain ⟨s2, hq, h⟩ := nd_b1_e h
  have hPc := hP
  have hDc := hD
  have hKc := hK
  have hFc := nd_rs hD hS hA
  refine nd_cVv (As := [.int v0]) (rest := []) (w' := dw_X18 a ac s2) ⟨hx, hb, hml, hown, hts⟩ (fun sz => dm_X18_immediate l hlt dC dI a ac n (v0) s0 hq sz) (cwV 1 hts gi_dm_X18_memory_0 rfl rfl rfl (by decide +kernel) ⟨Nat.le_of_ble_eq_true rfl, Nat.le_of_ble_eq_true rfl⟩) hPc hDc hKc hS hA hN (va_recv hKc hPc (ci := 19) (q0 := 0) rfl rfl) rfl hl.1 rfl (Nat.le_of_ble_eq_true rfl) dX18_memory_2 (fun H locs hP1 hD1 hk1 hS => ?_)
  have hP := hP1
  have hD := hD1.weaken (fun k q _ h => hFc q.1 h)
  refine lv_aload_n hx hb dX18_memory_5 rfl (lv_at hl 0 rfl) ?_
  refine lv_iload_n hx hb dX18_memory_6 rfl (lv_at hl 2 rfl) ?_
  obtain ⟨s5, hq, h⟩ := nd_b1_e h
  have hPc := hP
  have hDc := hD
  have hKc := hK
  have hFc := nd_rs hD hS hA
  refine nd_cVv (As := [.int v1]) (rest := []) (w' := dw_X18 a ac s5) ⟨hx, hb, hml, hown, hts⟩ (fun sz => dm_X18_bracket l hlt dC dI a ac n (v1) s2 hq sz) (cwV 1 hts gi_dm_X18_memory_1 rfl rfl rfl (by decide +kernel) ⟨Nat.le_of_ble_eq_true rfl, Nat.le_of_ble_eq_true rfl⟩) hPc hDc hKc hS hA hN (va_recv hKc hPc (ci := 19) (q0 := 0) rfl rfl) rfl hl.1 rfl (Nat.le_of_ble_eq_true rfl) dX18_memory_7 (fun H locs hP1 hD1 hk1 hS => ?_)
  have hP := hP1
  have hD := hD1.weaken (fun k q _ h => hFc q.1 h)
  exact K _ _ _ _ _ dX18_memory_10 (Option.some.inj h).symm hP hD hS
set_option maxHeartbeats 40000000 in
set_option maxRecDepth 100000 in
theorem dm_X18_memory (l : Launch) (hlt : l.stackTraces = false) (dC : Nat → ClassId) (dI : Nat → Nat → Nat) (a : Nat → Nat) (ac : Nat → ClassId) (n : Nat) (v0 : Int32) (v1 : Int32) (s0 : St) {r : St} (h : df_X18_memory n v0 v1 s0 = some r) (sz : Nat) : Met l yX18_memory ow_dm_X18_memory ({ frames := 4, cells := 0, slots := 0, locals := 89 }) (va_Pc [.ref (a 0), .int v0, .int v1] (fun U => U.heap.size = sz ∧ va_P (dC, dI) vwCl (dw_X18 a ac s0) U.heap ∧ va_K (dC, dI) vwCl (dk_X18 ac) U ∧ va_D (fun _ => True) (dw_X18 a ac s0) ∧ nv_E dI (va_A (dw_X18 a ac s0) sz) U)) (va_Qv (fun _ => True) (fun (_ : Unit) t => va_P (dC, dI) vwCl (dw_X18 a ac r) t.heap ∧ va_K (dC, dI) vwCl (dk_X18 ac) t ∧ va_D (va_A (dw_X18 a ac s0) sz) (dw_X18 a ac r)) (va_A (dw_X18 a ac s0) sz)) 0 0 (va_A (dw_X18 a ac s0) sz) := by
  refine Met.ofW (cc := cX18_memory) (maxL := 3) (ret := none) (by decide) rfl ?_
  intro p e s m args below meth c s₁ B hml hv
  obtain ⟨rfl, hsz, hP, hK, hD0, hN⟩ := hv
  have hx := B.exec
  have hb := B.bytes
  have hr := B.returns
  have hts := atoms_spec (ws := ow_dm_X18_memory) B.pre
  have hown : s.vm.findClass RX18 = some m.cls := findClass_of_methodNamed B.named
  have hlocks := B.notSynchronized
  subst hsz
  have hD := hD0.self (sz := s.heap.size)
  generalize hAe : va_A (dw_X18 a ac s0) s.heap.size = A at hD hN ⊢
  have hA : ∀ q : Nat, s.heap.size ≤ q → A q := fun q h => by rw [← hAe]; exact Or.inr h
  have hl := lv_entry ([.ref (a 0), .int v0, .int v1]) (n := 3) (Nat.le_of_ble_eq_true rfl)
  rw [lg_entry_eq]
  generalize (lg_sl ([.ref (a 0), .int v0, .int v1]) ++ List.replicate (3 - (lg_sl ([.ref (a 0), .int v0, .int v1])).length) Slot.unset).toArray = ls at hl ⊢
  have hl : lv_has ls 3 [(0, .ref (a 0)), (1, .int v0), (2, .int v1)] := hl
  exact db_X18_memory_0 (dC := dC) (dI := dI) (a := a) (ac := ac) (n := n) (r := r) ⟨hlt, hx, hb, hml, hown, hts, hN, hA, hK⟩ (fun pc τ H locs ls d er hP hD hS => by subst er; exact W.vret hx hb hr (fun t ht hW => ⟨⟨(), rfl, trivial, by rw [ht]; exact hP, va_K.moved hW.alike hK, hD⟩, hS.F ht⟩) hS.2.2 d) v0 v1 s0 _ _ _ h hP hD va_S.rf (lv_sub hl [0, 1, 2] rfl)
def ow_dm_X18_threes : List Cond := Cond.code yX18_threes cX18_threes 3 none :: ([Cond.methodLink RX18 65 yX18_name, Cond.instanceMethod yX18_name, Cond.selects RX18 yX18_name yX18_name, Cond.initialized RX18, Cond.fieldLink RX18 68 "TimeMachineModel$Reader" "d" "I", Cond.methodLink RX18 71 yX18_register, Cond.instanceMethod yX18_register, Cond.selects RX18 yX18_register yX18_register, Cond.fieldLink RX18 74 "TimeMachineModel$Reader" "a" "I", Cond.fieldLink RX18 77 "TimeMachineModel$Reader" "b" "I"] ++ (u_ws RX18 TX18 10 ++ (ow_dm_X18_name ++ (ow_dm_X18_register ++ []))))
theorem gd_dm_X18_threes : ∀ w ∈ ow_dm_X18_threes, (w.onTables && w.keeps) = true ∨ ∃ ty, w = Cond.arrayClass ty := List.forall_mem_cons.mpr ⟨good_of_word rfl, List.forall_mem_append.mpr ⟨fun w h => good_of_word (List.all_eq_true.mp (by decide +kernel) w h), List.forall_mem_append.mpr ⟨gu_X18, List.forall_mem_append.mpr ⟨gd_dm_X18_name, List.forall_mem_append.mpr ⟨gd_dm_X18_register, fun _ h => nomatch h⟩⟩⟩⟩⟩
theorem hi_dm_X18_threes_X18 : ∀ w ∈ u_ws RX18 TX18 10, w ∈ ow_dm_X18_threes := fun w h => List.mem_cons_of_mem _ (List.mem_append_right _ (List.mem_append_left _ h))
theorem gi_dm_X18_threes_0 : GoodIn ow_dm_X18_threes (wsV RX18 65 RX18 yX18_name ow_dm_X18_name) := goodIn_app (goodIn_of _ (by decide +kernel)) (fun w h => ⟨List.mem_cons_of_mem _ (List.mem_append_right _ (List.mem_append_right _ (List.mem_append_left _ h))), gd_dm_X18_name w h⟩)
theorem gi_dm_X18_threes_1 : GoodIn ow_dm_X18_threes (wsV RX18 71 RX18 yX18_register ow_dm_X18_register) := goodIn_app (goodIn_of _ (by decide +kernel)) (fun w h => ⟨List.mem_cons_of_mem _ (List.mem_append_right _ (List.mem_append_right _ (List.mem_append_right _ (List.mem_append_left _ h)))), gd_dm_X18_register w h⟩)
def dj_X18_threes_0 (p : Program) (l : Launch) (e : Env) (s : State) (m : MethodId) (args : Array Value) (below : List Frame) (meth : Method) (c : Code) (Q : State → Prop) (A : Nat → Prop) (dC : Nat → ClassId) (dI : Nat → Nat → Nat) (a : Nat → Nat) (ac : Nat → ClassId) (g : Int64 → (St) → Option (St)) (r : St) : Prop := ∀ (v0 : Int64) (s0 : St) (H : Heap) (locs : List Loc) (ls : Array Slot), g v0 s0 = some r → va_P (dC, dI) vwCl (dw_X18 a ac s0) H → va_D A (dw_X18 a ac s0) → va_S A s.heap H locs → lv_has ls 3 [(0, .ref (a 0)), (1, .long v0)] → W p l e (headSpec ow_dm_X18_threes ({ frames := 3, cells := 0, slots := 0, locals := 67 })).room s m args below meth c H locs 0 0 Q (F0 m 0 ls [])
set_option maxHeartbeats 40000000 in
set_option maxRecDepth 100000 in
theorem db_X18_threes_0 {p : Program} {l : Launch} {e : Env} {s : State} {m : MethodId} {args : Array Value} {below : List Frame} {meth : Method} {c : Code} {Q : State → Prop} {A : Nat → Prop} {dC : Nat → ClassId} {dI : Nat → Nat → Nat} {a : Nat → Nat} {ac : Nat → ClassId} {n : Nat} {r : St} (C : nd_C p l s m args c A (dC, dI) cX18_threes 3 RX18 ow_dm_X18_threes (dk_X18 ac)) (K : nd_Kv p l e (headSpec ow_dm_X18_threes ({ frames := 3, cells := 0, slots := 0, locals := 67 })).room s m args below meth c Q A (dC, dI) cX18_threes (St) (dw_X18 a ac) r) : dj_X18_threes_0 p l e s m args below meth c Q A dC dI a ac (df_X18_threes_0 n) r := by
  obtain ⟨hlt, hx, hb, hml, hown, hts, hN, hA, hK⟩ := id C
  intro v0 s0 H locs ls h hP hD hS hl
  unfold df_X18_threes_0 at h
  refine lv_aload_n hx hb dX18_threes_0 rfl (lv_at hl 0 rfl) ?_
  refine lv_lload_n hx hb dX18_threes_1 rfl (lv_at hl 1 rfl) ?_
  obtain ⟨s2, hq, h⟩ := nd_b1_e h
  have hPc := hP
  have hDc := hD
  have hKc := hK
  have hFc := nd_rs hD hS hA
  refine nd_cVv (As := [.long v0]) (rest := []) (w' := dw_X18 a ac s2) ⟨hx, hb, hml, hown, hts⟩ (fun sz => dm_X18_name l hlt dC dI a ac n (v0) s0 hq sz) (cwV 1 hts gi_dm_X18_threes_0 rfl rfl rfl (by decide +kernel) ⟨Nat.le_of_ble_eq_true rfl, Nat.le_of_ble_eq_true rfl⟩) hPc hDc hKc hS hA hN (va_recv hKc hPc (ci := 19) (q0 := 0) rfl rfl) rfl hl.1 rfl (Nat.le_of_ble_eq_true rfl) dX18_threes_2 (fun H locs hP1 hD1 hk1 hS => ?_)
  have hP := hP1
  have hD := hD1.weaken (fun k q _ h => hFc q.1 h)
  refine lv_aload_n hx hb dX18_threes_5 rfl (lv_at hl 0 rfl) ?_
  refine lv_aload_n hx hb dX18_threes_6 rfl (lv_at hl 0 rfl) ?_
  refine va_get (D := (dC, dI)) (ci := 19) (v := .int (sI s2 4)) (C := RX18) (T := TX18) (N := 10) hx hb hts hi_dm_X18_threes_X18 hown hK hP 0 rfl rfl 5 (by decide) (hts (.fieldLink RX18 68 "TimeMachineModel$Reader" "d" "I") (List.mem_of_getElem? (i := 5) rfl)) (fun _ h9 => h9) rfl dX18_threes_7 ?_
  obtain ⟨s5, hq, h⟩ := nd_b1_e h
  have hPc := hP
  have hDc := hD
  have hKc := hK
  have hFc := nd_rs hD hS hA
  refine nd_cVv (As := [.int (sI s2 4)]) (rest := []) (w' := dw_X18 a ac s5) ⟨hx, hb, hml, hown, hts⟩ (fun sz => dm_X18_register l hlt dC dI a ac n ((sI s2 4)) s2 hq sz) (cwV 1 hts gi_dm_X18_threes_1 rfl rfl rfl (by decide +kernel) ⟨Nat.le_of_ble_eq_true rfl, Nat.le_of_ble_eq_true rfl⟩) hPc hDc hKc hS hA hN (va_recv hKc hPc (ci := 19) (q0 := 0) rfl rfl) rfl hl.1 rfl (Nat.le_of_ble_eq_true rfl) dX18_threes_10 (fun H locs hP1 hD1 hk1 hS => ?_)
  have hP := hP1
  have hD := hD1.weaken (fun k q _ h => hFc q.1 h)
  refine lv_aload_n hx hb dX18_threes_13 rfl (lv_at hl 0 rfl) ?_
  refine lv_aload_n hx hb dX18_threes_14 rfl (lv_at hl 0 rfl) ?_
  refine va_get (D := (dC, dI)) (ci := 19) (v := .int (sI s5 5)) (C := RX18) (T := TX18) (N := 10) hx hb hts hi_dm_X18_threes_X18 hown hK hP 0 rfl rfl 6 (by decide) (hts (.fieldLink RX18 74 "TimeMachineModel$Reader" "a" "I") (List.mem_of_getElem? (i := 9) rfl)) (fun _ h9 => h9) rfl dX18_threes_15 ?_
  obtain ⟨s8, hq, h⟩ := nd_b1_e h
  have hPc := hP
  have hDc := hD
  have hKc := hK
  have hFc := nd_rs hD hS hA
  refine nd_cVv (As := [.int (sI s5 5)]) (rest := []) (w' := dw_X18 a ac s8) ⟨hx, hb, hml, hown, hts⟩ (fun sz => dm_X18_register l hlt dC dI a ac n ((sI s5 5)) s5 hq sz) (cwV 1 hts gi_dm_X18_threes_1 rfl rfl rfl (by decide +kernel) ⟨Nat.le_of_ble_eq_true rfl, Nat.le_of_ble_eq_true rfl⟩) hPc hDc hKc hS hA hN (va_recv hKc hPc (ci := 19) (q0 := 0) rfl rfl) rfl hl.1 rfl (Nat.le_of_ble_eq_true rfl) dX18_threes_18 (fun H locs hP1 hD1 hk1 hS => ?_)
  have hP := hP1
  have hD := hD1.weaken (fun k q _ h => hFc q.1 h)
  refine lv_aload_n hx hb dX18_threes_21 rfl (lv_at hl 0 rfl) ?_
  refine lv_aload_n hx hb dX18_threes_22 rfl (lv_at hl 0 rfl) ?_
  refine va_get (D := (dC, dI)) (ci := 19) (v := .int (sI s8 6)) (C := RX18) (T := TX18) (N := 10) hx hb hts hi_dm_X18_threes_X18 hown hK hP 0 rfl rfl 7 (by decide) (hts (.fieldLink RX18 77 "TimeMachineModel$Reader" "b" "I") (List.mem_of_getElem? (i := 10) rfl)) (fun _ h9 => h9) rfl dX18_threes_23 ?_
  obtain ⟨s11, hq, h⟩ := nd_b1_e h
  have hPc := hP
  have hDc := hD
  have hKc := hK
  have hFc := nd_rs hD hS hA
  refine nd_cVv (As := [.int (sI s8 6)]) (rest := []) (w' := dw_X18 a ac s11) ⟨hx, hb, hml, hown, hts⟩ (fun sz => dm_X18_register l hlt dC dI a ac n ((sI s8 6)) s8 hq sz) (cwV 1 hts gi_dm_X18_threes_1 rfl rfl rfl (by decide +kernel) ⟨Nat.le_of_ble_eq_true rfl, Nat.le_of_ble_eq_true rfl⟩) hPc hDc hKc hS hA hN (va_recv hKc hPc (ci := 19) (q0 := 0) rfl rfl) rfl hl.1 rfl (Nat.le_of_ble_eq_true rfl) dX18_threes_26 (fun H locs hP1 hD1 hk1 hS => ?_)
  have hP := hP1
  have hD := hD1.weaken (fun k q _ h => hFc q.1 h)
  exact K _ _ _ _ _ dX18_threes_29 (Option.some.inj h).symm hP hD hS
set_option maxHeartbeats 40000000 in
set_option maxRecDepth 100000 in
theorem dm_X18_threes (l : Launch) (hlt : l.stackTraces = false) (dC : Nat → ClassId) (dI : Nat → Nat → Nat) (a : Nat → Nat) (ac : Nat → ClassId) (n : Nat) (v0 : Int64) (s0 : St) {r : St} (h : df_X18_threes n v0 s0 = some r) (sz : Nat) : Met l yX18_threes ow_dm_X18_threes ({ frames := 3, cells := 0, slots := 0, locals := 67 }) (va_Pc [.ref (a 0), .long v0] (fun U => U.heap.size = sz ∧ va_P (dC, dI) vwCl (dw_X18 a ac s0) U.heap ∧ va_K (dC, dI) vwCl (dk_X18 ac) U ∧ va_D (fun _ => True) (dw_X18 a ac s0) ∧ nv_E dI (va_A (dw_X18 a ac s0) sz) U)) (va_Qv (fun _ => True) (fun (_ : Unit) t => va_P (dC, dI) vwCl (dw_X18 a ac r) t.heap ∧ va_K (dC, dI) vwCl (dk_X18 ac) t ∧ va_D (va_A (dw_X18 a ac s0) sz) (dw_X18 a ac r)) (va_A (dw_X18 a ac s0) sz)) 0 0 (va_A (dw_X18 a ac s0) sz) := by
  refine Met.ofW (cc := cX18_threes) (maxL := 3) (ret := none) (by decide) rfl ?_
  intro p e s m args below meth c s₁ B hml hv
  obtain ⟨rfl, hsz, hP, hK, hD0, hN⟩ := hv
  have hx := B.exec
  have hb := B.bytes
  have hr := B.returns
  have hts := atoms_spec (ws := ow_dm_X18_threes) B.pre
  have hown : s.vm.findClass RX18 = some m.cls := findClass_of_methodNamed B.named
  have hlocks := B.notSynchronized
  subst hsz
  have hD := hD0.self (sz := s.heap.size)
  generalize hAe : va_A (dw_X18 a ac s0) s.heap.size = A at hD hN ⊢
  have hA : ∀ q : Nat, s.heap.size ≤ q → A q := fun q h => by rw [← hAe]; exact Or.inr h
  have hl := lv_entry ([.ref (a 0), .long v0]) (n := 3) (Nat.le_of_ble_eq_true rfl)
  rw [lg_entry_eq]
  generalize (lg_sl ([.ref (a 0), .long v0]) ++ List.replicate (3 - (lg_sl ([.ref (a 0), .long v0])).length) Slot.unset).toArray = ls at hl ⊢
  have hl : lv_has ls 3 [(0, .ref (a 0)), (1, .long v0)] := hl
  exact db_X18_threes_0 (dC := dC) (dI := dI) (a := a) (ac := ac) (n := n) (r := r) ⟨hlt, hx, hb, hml, hown, hts, hN, hA, hK⟩ (fun pc τ H locs ls d er hP hD hS => by subst er; exact W.vret hx hb hr (fun t ht hW => ⟨⟨(), rfl, trivial, by rw [ht]; exact hP, va_K.moved hW.alike hK, hD⟩, hS.F ht⟩) hS.2.2 d) v0 s0 _ _ _ h hP hD va_S.rf (lv_sub hl [0, 1] rfl)
def ow_dm_X18_plain : List Cond := Cond.code yX18_plain cX18_plain 2 none :: ([Cond.fieldLink RX18 80 "TimeMachineModel$Reader" "f" "I", Cond.constantLong RX18 120 (6386291), Cond.methodLink RX18 99 yX18_threes, Cond.instanceMethod yX18_threes, Cond.selects RX18 yX18_threes yX18_threes, Cond.initialized RX18, Cond.constantLong RX18 118 (6452595), Cond.constantLong RX18 116 (1970103666), Cond.constantLong RX18 114 (7169394), Cond.constantLong RX18 112 (1970694500), Cond.constantLong RX18 110 (7760228), Cond.constantLong RX18 108 (504263112045), Cond.constantLong RX18 106 (129138533627245), Cond.constantLong RX18 104 (1751938413), Cond.constantLong RX18 102 (7107949), Cond.constantLong RX18 97 (6581857), Cond.constantLong RX18 95 (29295), Cond.constantLong RX18 93 (7107187), Cond.constantLong RX18 91 (7499640), Cond.constantLong RX18 89 (1970564211), Cond.constantLong RX18 87 (7629939), Cond.constantLong RX18 85 (7105651), Cond.constantLong RX18 83 (6579297)] ++ (u_ws RX18 TX18 10 ++ (ow_dm_X18_threes ++ [])))
theorem gd_dm_X18_plain : ∀ w ∈ ow_dm_X18_plain, (w.onTables && w.keeps) = true ∨ ∃ ty, w = Cond.arrayClass ty := List.forall_mem_cons.mpr ⟨good_of_word rfl, List.forall_mem_append.mpr ⟨fun w h => good_of_word (List.all_eq_true.mp (by decide +kernel) w h), List.forall_mem_append.mpr ⟨gu_X18, List.forall_mem_append.mpr ⟨gd_dm_X18_threes, fun _ h => nomatch h⟩⟩⟩⟩
theorem hi_dm_X18_plain_X18 : ∀ w ∈ u_ws RX18 TX18 10, w ∈ ow_dm_X18_plain := fun w h => List.mem_cons_of_mem _ (List.mem_append_right _ (List.mem_append_left _ h))
theorem gi_dm_X18_plain_0 : GoodIn ow_dm_X18_plain (wsV RX18 99 RX18 yX18_threes ow_dm_X18_threes) := goodIn_app (goodIn_of _ (by decide +kernel)) (fun w h => ⟨List.mem_cons_of_mem _ (List.mem_append_right _ (List.mem_append_right _ (List.mem_append_left _ h))), gd_dm_X18_threes w h⟩)
def dj_X18_plain_266 (p : Program) (l : Launch) (e : Env) (s : State) (m : MethodId) (args : Array Value) (below : List Frame) (meth : Method) (c : Code) (Q : State → Prop) (A : Nat → Prop) (dC : Nat → ClassId) (dI : Nat → Nat → Nat) (a : Nat → Nat) (ac : Nat → ClassId) (g : (St) → Option (St)) (r : St) : Prop := ∀ (s0 : St) (H : Heap) (locs : List Loc) (ls : Array Slot), g s0 = some r → va_P (dC, dI) vwCl (dw_X18 a ac s0) H → va_D A (dw_X18 a ac s0) → va_S A s.heap H locs → lv_has ls 2 [] → W p l e (headSpec ow_dm_X18_plain ({ frames := 4, cells := 0, slots := 0, locals := 89 })).room s m args below meth c H locs 0 0 Q (F0 m 266 ls [])
def dj_X18_plain_263 (p : Program) (l : Launch) (e : Env) (s : State) (m : MethodId) (args : Array Value) (below : List Frame) (meth : Method) (c : Code) (Q : State → Prop) (A : Nat → Prop) (dC : Nat → ClassId) (dI : Nat → Nat → Nat) (a : Nat → Nat) (ac : Nat → ClassId) (g : Int64 → (St) → Option (St)) (r : St) : Prop := ∀ (y1 : Int64) (s0 : St) (H : Heap) (locs : List Loc) (ls : Array Slot), g y1 s0 = some r → va_P (dC, dI) vwCl (dw_X18 a ac s0) H → va_D A (dw_X18 a ac s0) → va_S A s.heap H locs → lv_has ls 2 [] → W p l e (headSpec ow_dm_X18_plain ({ frames := 4, cells := 0, slots := 0, locals := 89 })).room s m args below meth c H locs 0 0 Q (F0 m 263 ls [.long y1, .ref (a 0)])
def dj_X18_plain_246 (p : Program) (l : Launch) (e : Env) (s : State) (m : MethodId) (args : Array Value) (below : List Frame) (meth : Method) (c : Code) (Q : State → Prop) (A : Nat → Prop) (dC : Nat → ClassId) (dI : Nat → Nat → Nat) (a : Nat → Nat) (ac : Nat → ClassId) (g : (St) → Option (St)) (r : St) : Prop := ∀ (s0 : St) (H : Heap) (locs : List Loc) (ls : Array Slot), g s0 = some r → va_P (dC, dI) vwCl (dw_X18 a ac s0) H → va_D A (dw_X18 a ac s0) → va_S A s.heap H locs → lv_has ls 2 [(0, .ref (a 0))] → W p l e (headSpec ow_dm_X18_plain ({ frames := 4, cells := 0, slots := 0, locals := 89 })).room s m args below meth c H locs 0 0 Q (F0 m 246 ls [])
def dj_X18_plain_219 (p : Program) (l : Launch) (e : Env) (s : State) (m : MethodId) (args : Array Value) (below : List Frame) (meth : Method) (c : Code) (Q : State → Prop) (A : Nat → Prop) (dC : Nat → ClassId) (dI : Nat → Nat → Nat) (a : Nat → Nat) (ac : Nat → ClassId) (g : Int64 → (St) → Option (St)) (r : St) : Prop := ∀ (y1 : Int64) (s0 : St) (H : Heap) (locs : List Loc) (ls : Array Slot), g y1 s0 = some r → va_P (dC, dI) vwCl (dw_X18 a ac s0) H → va_D A (dw_X18 a ac s0) → va_S A s.heap H locs → lv_has ls 2 [] → W p l e (headSpec ow_dm_X18_plain ({ frames := 4, cells := 0, slots := 0, locals := 89 })).room s m args below meth c H locs 0 0 Q (F0 m 219 ls [.long y1, .ref (a 0)])
def dj_X18_plain_106 (p : Program) (l : Launch) (e : Env) (s : State) (m : MethodId) (args : Array Value) (below : List Frame) (meth : Method) (c : Code) (Q : State → Prop) (A : Nat → Prop) (dC : Nat → ClassId) (dI : Nat → Nat → Nat) (a : Nat → Nat) (ac : Nat → ClassId) (g : Int64 → (St) → Option (St)) (r : St) : Prop := ∀ (y1 : Int64) (s0 : St) (H : Heap) (locs : List Loc) (ls : Array Slot), g y1 s0 = some r → va_P (dC, dI) vwCl (dw_X18 a ac s0) H → va_D A (dw_X18 a ac s0) → va_S A s.heap H locs → lv_has ls 2 [] → W p l e (headSpec ow_dm_X18_plain ({ frames := 4, cells := 0, slots := 0, locals := 89 })).room s m args below meth c H locs 0 0 Q (F0 m 106 ls [.long y1, .ref (a 0)])
def dj_X18_plain_0 (p : Program) (l : Launch) (e : Env) (s : State) (m : MethodId) (args : Array Value) (below : List Frame) (meth : Method) (c : Code) (Q : State → Prop) (A : Nat → Prop) (dC : Nat → ClassId) (dI : Nat → Nat → Nat) (a : Nat → Nat) (ac : Nat → ClassId) (g : Int32 → (St) → Option (St)) (r : St) : Prop := ∀ (v0 : Int32) (s0 : St) (H : Heap) (locs : List Loc) (ls : Array Slot), g v0 s0 = some r → va_P (dC, dI) vwCl (dw_X18 a ac s0) H → va_D A (dw_X18 a ac s0) → va_S A s.heap H locs → lv_has ls 2 [(0, .ref (a 0)), (1, .int v0)] → W p l e (headSpec ow_dm_X18_plain ({ frames := 4, cells := 0, slots := 0, locals := 89 })).room s m args below meth c H locs 0 0 Q (F0 m 0 ls [])
set_option maxHeartbeats 40000000 in
set_option maxRecDepth 100000 in
theorem db_X18_plain_266 {p : Program} {l : Launch} {e : Env} {s : State} {m : MethodId} {args : Array Value} {below : List Frame} {meth : Method} {c : Code} {Q : State → Prop} {A : Nat → Prop} {dC : Nat → ClassId} {dI : Nat → Nat → Nat} {a : Nat → Nat} {ac : Nat → ClassId} {n : Nat} {r : St} (C : nd_C p l s m args c A (dC, dI) cX18_plain 2 RX18 ow_dm_X18_plain (dk_X18 ac)) (K : nd_Kv p l e (headSpec ow_dm_X18_plain ({ frames := 4, cells := 0, slots := 0, locals := 89 })).room s m args below meth c Q A (dC, dI) cX18_plain (St) (dw_X18 a ac) r) : dj_X18_plain_266 p l e s m args below meth c Q A dC dI a ac (df_X18_plain_266 n) r := by
  obtain ⟨hlt, hx, hb, hml, hown, hts, hN, hA, hK⟩ := id C
  intro s0 H locs ls h hP hD hS hl
  unfold df_X18_plain_266 at h
  exact K _ _ _ _ _ dX18_plain_266 (Option.some.inj h).symm hP hD hS
set_option maxHeartbeats 40000000 in
set_option maxRecDepth 100000 in
theorem db_X18_plain_263 {p : Program} {l : Launch} {e : Env} {s : State} {m : MethodId} {args : Array Value} {below : List Frame} {meth : Method} {c : Code} {Q : State → Prop} {A : Nat → Prop} {dC : Nat → ClassId} {dI : Nat → Nat → Nat} {a : Nat → Nat} {ac : Nat → ClassId} {n : Nat} {r : St} (C : nd_C p l s m args c A (dC, dI) cX18_plain 2 RX18 ow_dm_X18_plain (dk_X18 ac)) (K : nd_Kv p l e (headSpec ow_dm_X18_plain ({ frames := 4, cells := 0, slots := 0, locals := 89 })).room s m args below meth c Q A (dC, dI) cX18_plain (St) (dw_X18 a ac) r) : dj_X18_plain_263 p l e s m args below meth c Q A dC dI a ac (df_X18_plain_263 n) r := by
  obtain ⟨hlt, hx, hb, hml, hown, hts, hN, hA, hK⟩ := id C
  intro y1 s0 H locs ls h hP hD hS hl
  unfold df_X18_plain_263 at h
  obtain ⟨s7, hq, h⟩ := nd_b1_e h
  have hPc := hP
  have hDc := hD
  have hKc := hK
  have hFc := nd_rs hD hS hA
  refine nd_cVv (As := [.long y1]) (rest := []) (w' := dw_X18 a ac s7) ⟨hx, hb, hml, hown, hts⟩ (fun sz => dm_X18_threes l hlt dC dI a ac n (y1) s0 hq sz) (cwV 1 hts gi_dm_X18_plain_0 rfl rfl rfl (by decide +kernel) ⟨Nat.le_of_ble_eq_true rfl, Nat.le_of_ble_eq_true rfl⟩) hPc hDc hKc hS hA hN (va_recv hKc hPc (ci := 19) (q0 := 0) rfl rfl) rfl hl.1 rfl (Nat.le_of_ble_eq_true rfl) dX18_plain_263 (fun H locs hP1 hD1 hk1 hS => ?_)
  have hP := hP1
  have hD := hD1.weaken (fun k q _ h => hFc q.1 h)
  exact (db_X18_plain_266 C K)  s7 _ _ _ h hP hD hS (lv_sub hl [] rfl)
set_option maxHeartbeats 40000000 in
set_option maxRecDepth 100000 in
theorem db_X18_plain_246 {p : Program} {l : Launch} {e : Env} {s : State} {m : MethodId} {args : Array Value} {below : List Frame} {meth : Method} {c : Code} {Q : State → Prop} {A : Nat → Prop} {dC : Nat → ClassId} {dI : Nat → Nat → Nat} {a : Nat → Nat} {ac : Nat → ClassId} {n : Nat} {r : St} (C : nd_C p l s m args c A (dC, dI) cX18_plain 2 RX18 ow_dm_X18_plain (dk_X18 ac)) (K : nd_Kv p l e (headSpec ow_dm_X18_plain ({ frames := 4, cells := 0, slots := 0, locals := 89 })).room s m args below meth c Q A (dC, dI) cX18_plain (St) (dw_X18 a ac) r) : dj_X18_plain_246 p l e s m args below meth c Q A dC dI a ac (df_X18_plain_246 n) r := by
  obtain ⟨hlt, hx, hb, hml, hown, hts, hN, hA, hK⟩ := id C
  intro s0 H locs ls h hP hD hS hl
  unfold df_X18_plain_246 at h
  refine lv_aload_n hx hb dX18_plain_246 rfl (lv_at hl 0 rfl) ?_
  refine lv_aload_n hx hb dX18_plain_247 rfl (lv_at hl 0 rfl) ?_
  refine va_get (D := (dC, dI)) (ci := 19) (v := .int (sI s0 7)) (C := RX18) (T := TX18) (N := 10) hx hb hts hi_dm_X18_plain_X18 hown hK hP 0 rfl rfl 8 (by decide) (hts (.fieldLink RX18 80 "TimeMachineModel$Reader" "f" "I") (List.mem_of_getElem? (i := 1) rfl)) (fun _ h9 => h9) rfl dX18_plain_248 ?_
  refine lv_if_ne (tgt := 260) hx hb dX18_plain_251 (by decide) (fun c5 => ?_) (fun c5 => ?_)
  · have h := nd_neg h c5
    refine lv_ldc2 hx hb hown (hts (.constantLong RX18 120 (6386291)) (List.mem_of_getElem? (i := 2) rfl)) dX18_plain_260 ?_
    exact (db_X18_plain_263 C K) (6386291) s0 _ _ _ h hP hD hS (lv_sub hl [] rfl)
  · have h := nd_pos h c5
    refine lv_ldc2 hx hb hown (hts (.constantLong RX18 118 (6452595)) (List.mem_of_getElem? (i := 7) rfl)) dX18_plain_254 ?_
    refine lv_goto (tgt := 263) hx hb dX18_plain_257 (by decide) ?_
    exact (db_X18_plain_263 C K) (6452595) s0 _ _ _ h hP hD hS (lv_sub hl [] rfl)
set_option maxHeartbeats 40000000 in
set_option maxRecDepth 100000 in
theorem db_X18_plain_219 {p : Program} {l : Launch} {e : Env} {s : State} {m : MethodId} {args : Array Value} {below : List Frame} {meth : Method} {c : Code} {Q : State → Prop} {A : Nat → Prop} {dC : Nat → ClassId} {dI : Nat → Nat → Nat} {a : Nat → Nat} {ac : Nat → ClassId} {n : Nat} {r : St} (C : nd_C p l s m args c A (dC, dI) cX18_plain 2 RX18 ow_dm_X18_plain (dk_X18 ac)) (K : nd_Kv p l e (headSpec ow_dm_X18_plain ({ frames := 4, cells := 0, slots := 0, locals := 89 })).room s m args below meth c Q A (dC, dI) cX18_plain (St) (dw_X18 a ac) r) : dj_X18_plain_219 p l e s m args below meth c Q A dC dI a ac (df_X18_plain_219 n) r := by
  obtain ⟨hlt, hx, hb, hml, hown, hts, hN, hA, hK⟩ := id C
  intro y1 s0 H locs ls h hP hD hS hl
  unfold df_X18_plain_219 at h
  obtain ⟨s18, hq, h⟩ := nd_b1_e h
  have hPc := hP
  have hDc := hD
  have hKc := hK
  have hFc := nd_rs hD hS hA
  refine nd_cVv (As := [.long y1]) (rest := []) (w' := dw_X18 a ac s18) ⟨hx, hb, hml, hown, hts⟩ (fun sz => dm_X18_threes l hlt dC dI a ac n (y1) s0 hq sz) (cwV 1 hts gi_dm_X18_plain_0 rfl rfl rfl (by decide +kernel) ⟨Nat.le_of_ble_eq_true rfl, Nat.le_of_ble_eq_true rfl⟩) hPc hDc hKc hS hA hN (va_recv hKc hPc (ci := 19) (q0 := 0) rfl rfl) rfl hl.1 rfl (Nat.le_of_ble_eq_true rfl) dX18_plain_219 (fun H locs hP1 hD1 hk1 hS => ?_)
  have hP := hP1
  have hD := hD1.weaken (fun k q _ h => hFc q.1 h)
  refine lv_goto (tgt := 266) hx hb dX18_plain_222 (by decide) ?_
  exact (db_X18_plain_266 C K)  s18 _ _ _ h hP hD hS (lv_sub hl [] rfl)
set_option maxHeartbeats 40000000 in
set_option maxRecDepth 100000 in
theorem db_X18_plain_106 {p : Program} {l : Launch} {e : Env} {s : State} {m : MethodId} {args : Array Value} {below : List Frame} {meth : Method} {c : Code} {Q : State → Prop} {A : Nat → Prop} {dC : Nat → ClassId} {dI : Nat → Nat → Nat} {a : Nat → Nat} {ac : Nat → ClassId} {n : Nat} {r : St} (C : nd_C p l s m args c A (dC, dI) cX18_plain 2 RX18 ow_dm_X18_plain (dk_X18 ac)) (K : nd_Kv p l e (headSpec ow_dm_X18_plain ({ frames := 4, cells := 0, slots := 0, locals := 89 })).room s m args below meth c Q A (dC, dI) cX18_plain (St) (dw_X18 a ac) r) : dj_X18_plain_106 p l e s m args below meth c Q A dC dI a ac (df_X18_plain_106 n) r := by
  obtain ⟨hlt, hx, hb, hml, hown, hts, hN, hA, hK⟩ := id C
  intro y1 s0 H locs ls h hP hD hS hl
  unfold df_X18_plain_106 at h
  obtain ⟨s28, hq, h⟩ := nd_b1_e h
  have hPc := hP
  have hDc := hD
  have hKc := hK
  have hFc := nd_rs hD hS hA
  refine nd_cVv (As := [.long y1]) (rest := []) (w' := dw_X18 a ac s28) ⟨hx, hb, hml, hown, hts⟩ (fun sz => dm_X18_threes l hlt dC dI a ac n (y1) s0 hq sz) (cwV 1 hts gi_dm_X18_plain_0 rfl rfl rfl (by decide +kernel) ⟨Nat.le_of_ble_eq_true rfl, Nat.le_of_ble_eq_true rfl⟩) hPc hDc hKc hS hA hN (va_recv hKc hPc (ci := 19) (q0 := 0) rfl rfl) rfl hl.1 rfl (Nat.le_of_ble_eq_true rfl) dX18_plain_106 (fun H locs hP1 hD1 hk1 hS => ?_)
  have hP := hP1
  have hD := hD1.weaken (fun k q _ h => hFc q.1 h)
  refine lv_goto (tgt := 266) hx hb dX18_plain_109 (by decide) ?_
  exact (db_X18_plain_266 C K)  s28 _ _ _ h hP hD hS (lv_sub hl [] rfl)
set_option maxHeartbeats 40000000 in
set_option maxRecDepth 100000 in
theorem db_X18_plain_0 {p : Program} {l : Launch} {e : Env} {s : State} {m : MethodId} {args : Array Value} {below : List Frame} {meth : Method} {c : Code} {Q : State → Prop} {A : Nat → Prop} {dC : Nat → ClassId} {dI : Nat → Nat → Nat} {a : Nat → Nat} {ac : Nat → ClassId} {n : Nat} {r : St} (C : nd_C p l s m args c A (dC, dI) cX18_plain 2 RX18 ow_dm_X18_plain (dk_X18 ac)) (K : nd_Kv p l e (headSpec ow_dm_X18_plain ({ frames := 4, cells := 0, slots := 0, locals := 89 })).room s m args below meth c Q A (dC, dI) cX18_plain (St) (dw_X18 a ac) r) : dj_X18_plain_0 p l e s m args below meth c Q A dC dI a ac (df_X18_plain_0 n) r := by
  obtain ⟨hlt, hx, hb, hml, hown, hts, hN, hA, hK⟩ := id C
  intro v0 s0 H locs ls h hP hD hS hl
  unfold df_X18_plain_0 at h
  refine lv_iload_n hx hb dX18_plain_0 rfl (lv_at hl 1 rfl) ?_
  refine lv_if_ne (tgt := 112) hx hb dX18_plain_1 (by decide) (fun c1 => ?_) (fun c1 => ?_)
  · have h := nd_neg h c1
    refine lv_iload_n hx hb dX18_plain_112 rfl (lv_at hl 1 rfl) ?_
    refine lv_iconst (v := 1) hx hb dX18_plain_113 (by decide) ?_
    refine lv_icmp_ne (tgt := 225) hx hb dX18_plain_114 (by decide) (fun c2 => ?_) (fun c2 => ?_)
    · have h := nd_neg h c2
      refine lv_iload_n hx hb dX18_plain_225 rfl (lv_at hl 1 rfl) ?_
      refine lv_bipush (v := 32) hx hb dX18_plain_226 (by decide) ?_
      refine lv_icmp_ne (tgt := 266) hx hb dX18_plain_228 (by decide) (fun c3 => ?_) (fun c3 => ?_)
      · have h := nd_neg h c3
        exact (db_X18_plain_266 C K)  s0 _ _ _ h hP hD hS (lv_sub hl [] rfl)
      · have h := nd_pos h c3
        refine lv_aload_n hx hb dX18_plain_231 rfl (lv_at hl 0 rfl) ?_
        refine va_get (D := (dC, dI)) (ci := 19) (v := .int (sI s0 7)) (C := RX18) (T := TX18) (N := 10) hx hb hts hi_dm_X18_plain_X18 hown hK hP 0 rfl rfl 8 (by decide) (hts (.fieldLink RX18 80 "TimeMachineModel$Reader" "f" "I") (List.mem_of_getElem? (i := 1) rfl)) (fun _ h9 => h9) rfl dX18_plain_232 ?_
        refine lv_if_eq (tgt := 246) hx hb dX18_plain_235 (by decide) (fun c4 => ?_) (fun c4 => ?_)
        · have h := nd_pos h c4
          exact (db_X18_plain_246 C K)  s0 _ _ _ h hP hD hS (lv_sub hl [0] rfl)
        · have h := nd_neg h c4
          refine lv_aload_n hx hb dX18_plain_238 rfl (lv_at hl 0 rfl) ?_
          refine va_get (D := (dC, dI)) (ci := 19) (v := .int (sI s0 7)) (C := RX18) (T := TX18) (N := 10) hx hb hts hi_dm_X18_plain_X18 hown hK hP 0 rfl rfl 8 (by decide) (hts (.fieldLink RX18 80 "TimeMachineModel$Reader" "f" "I") (List.mem_of_getElem? (i := 1) rfl)) (fun _ h9 => h9) rfl dX18_plain_239 ?_
          refine lv_iconst (v := 5) hx hb dX18_plain_242 (by decide) ?_
          refine lv_icmp_ne (tgt := 266) hx hb dX18_plain_243 (by decide) (fun c9 => ?_) (fun c9 => ?_)
          · have h := nd_neg h c9
            exact (db_X18_plain_266 C K)  s0 _ _ _ h hP hD hS (lv_sub hl [] rfl)
          · have h := nd_pos h c9
            exact (db_X18_plain_246 C K)  s0 _ _ _ h hP hD hS (lv_sub hl [0] rfl)
    · have h := nd_pos h c2
      refine lv_aload_n hx hb dX18_plain_117 rfl (lv_at hl 0 rfl) ?_
      refine lv_aload_n hx hb dX18_plain_118 rfl (lv_at hl 0 rfl) ?_
      refine va_get (D := (dC, dI)) (ci := 19) (v := .int (sI s0 7)) (C := RX18) (T := TX18) (N := 10) hx hb hts hi_dm_X18_plain_X18 hown hK hP 0 rfl rfl 8 (by decide) (hts (.fieldLink RX18 80 "TimeMachineModel$Reader" "f" "I") (List.mem_of_getElem? (i := 1) rfl)) (fun _ h9 => h9) rfl dX18_plain_119 ?_
      refine lv_if_ne (tgt := 131) hx hb dX18_plain_122 (by decide) (fun c10 => ?_) (fun c10 => ?_)
      · have h := nd_neg h c10
        refine lv_aload_n hx hb dX18_plain_131 rfl (lv_at hl 0 rfl) ?_
        refine va_get (D := (dC, dI)) (ci := 19) (v := .int (sI s0 7)) (C := RX18) (T := TX18) (N := 10) hx hb hts hi_dm_X18_plain_X18 hown hK hP 0 rfl rfl 8 (by decide) (hts (.fieldLink RX18 80 "TimeMachineModel$Reader" "f" "I") (List.mem_of_getElem? (i := 1) rfl)) (fun _ h9 => h9) rfl dX18_plain_132 ?_
        refine lv_iconst (v := 1) hx hb dX18_plain_135 (by decide) ?_
        refine lv_icmp_ne (tgt := 145) hx hb dX18_plain_136 (by decide) (fun c11 => ?_) (fun c11 => ?_)
        · have h := nd_neg h c11
          refine lv_aload_n hx hb dX18_plain_145 rfl (lv_at hl 0 rfl) ?_
          refine va_get (D := (dC, dI)) (ci := 19) (v := .int (sI s0 7)) (C := RX18) (T := TX18) (N := 10) hx hb hts hi_dm_X18_plain_X18 hown hK hP 0 rfl rfl 8 (by decide) (hts (.fieldLink RX18 80 "TimeMachineModel$Reader" "f" "I") (List.mem_of_getElem? (i := 1) rfl)) (fun _ h9 => h9) rfl dX18_plain_146 ?_
          refine lv_iconst (v := 2) hx hb dX18_plain_149 (by decide) ?_
          refine lv_icmp_ne (tgt := 159) hx hb dX18_plain_150 (by decide) (fun c12 => ?_) (fun c12 => ?_)
          · have h := nd_neg h c12
            refine lv_aload_n hx hb dX18_plain_159 rfl (lv_at hl 0 rfl) ?_
            refine va_get (D := (dC, dI)) (ci := 19) (v := .int (sI s0 7)) (C := RX18) (T := TX18) (N := 10) hx hb hts hi_dm_X18_plain_X18 hown hK hP 0 rfl rfl 8 (by decide) (hts (.fieldLink RX18 80 "TimeMachineModel$Reader" "f" "I") (List.mem_of_getElem? (i := 1) rfl)) (fun _ h9 => h9) rfl dX18_plain_160 ?_
            refine lv_iconst (v := 3) hx hb dX18_plain_163 (by decide) ?_
            refine lv_icmp_ne (tgt := 173) hx hb dX18_plain_164 (by decide) (fun c13 => ?_) (fun c13 => ?_)
            · have h := nd_neg h c13
              refine lv_aload_n hx hb dX18_plain_173 rfl (lv_at hl 0 rfl) ?_
              refine va_get (D := (dC, dI)) (ci := 19) (v := .int (sI s0 7)) (C := RX18) (T := TX18) (N := 10) hx hb hts hi_dm_X18_plain_X18 hown hK hP 0 rfl rfl 8 (by decide) (hts (.fieldLink RX18 80 "TimeMachineModel$Reader" "f" "I") (List.mem_of_getElem? (i := 1) rfl)) (fun _ h9 => h9) rfl dX18_plain_174 ?_
              refine lv_iconst (v := 4) hx hb dX18_plain_177 (by decide) ?_
              refine lv_icmp_ne (tgt := 187) hx hb dX18_plain_178 (by decide) (fun c14 => ?_) (fun c14 => ?_)
              · have h := nd_neg h c14
                refine lv_aload_n hx hb dX18_plain_187 rfl (lv_at hl 0 rfl) ?_
                refine va_get (D := (dC, dI)) (ci := 19) (v := .int (sI s0 7)) (C := RX18) (T := TX18) (N := 10) hx hb hts hi_dm_X18_plain_X18 hown hK hP 0 rfl rfl 8 (by decide) (hts (.fieldLink RX18 80 "TimeMachineModel$Reader" "f" "I") (List.mem_of_getElem? (i := 1) rfl)) (fun _ h9 => h9) rfl dX18_plain_188 ?_
                refine lv_iconst (v := 5) hx hb dX18_plain_191 (by decide) ?_
                refine lv_icmp_ne (tgt := 201) hx hb dX18_plain_192 (by decide) (fun c15 => ?_) (fun c15 => ?_)
                · have h := nd_neg h c15
                  refine lv_aload_n hx hb dX18_plain_201 rfl (lv_at hl 0 rfl) ?_
                  refine va_get (D := (dC, dI)) (ci := 19) (v := .int (sI s0 7)) (C := RX18) (T := TX18) (N := 10) hx hb hts hi_dm_X18_plain_X18 hown hK hP 0 rfl rfl 8 (by decide) (hts (.fieldLink RX18 80 "TimeMachineModel$Reader" "f" "I") (List.mem_of_getElem? (i := 1) rfl)) (fun _ h9 => h9) rfl dX18_plain_202 ?_
                  refine lv_bipush (v := 6) hx hb dX18_plain_205 (by decide) ?_
                  refine lv_icmp_ne (tgt := 216) hx hb dX18_plain_207 (by decide) (fun c16 => ?_) (fun c16 => ?_)
                  · have h := nd_neg h c16
                    refine lv_ldc2 hx hb hown (hts (.constantLong RX18 116 (1970103666)) (List.mem_of_getElem? (i := 8) rfl)) dX18_plain_216 ?_
                    exact (db_X18_plain_219 C K) (1970103666) s0 _ _ _ h hP hD hS (lv_sub hl [] rfl)
                  · have h := nd_pos h c16
                    refine lv_ldc2 hx hb hown (hts (.constantLong RX18 114 (7169394)) (List.mem_of_getElem? (i := 9) rfl)) dX18_plain_210 ?_
                    refine lv_goto (tgt := 219) hx hb dX18_plain_213 (by decide) ?_
                    exact (db_X18_plain_219 C K) (7169394) s0 _ _ _ h hP hD hS (lv_sub hl [] rfl)
                · have h := nd_pos h c15
                  refine lv_ldc2 hx hb hown (hts (.constantLong RX18 112 (1970694500)) (List.mem_of_getElem? (i := 10) rfl)) dX18_plain_195 ?_
                  refine lv_goto (tgt := 219) hx hb dX18_plain_198 (by decide) ?_
                  exact (db_X18_plain_219 C K) (1970694500) s0 _ _ _ h hP hD hS (lv_sub hl [] rfl)
              · have h := nd_pos h c14
                refine lv_ldc2 hx hb hown (hts (.constantLong RX18 110 (7760228)) (List.mem_of_getElem? (i := 11) rfl)) dX18_plain_181 ?_
                refine lv_goto (tgt := 219) hx hb dX18_plain_184 (by decide) ?_
                exact (db_X18_plain_219 C K) (7760228) s0 _ _ _ h hP hD hS (lv_sub hl [] rfl)
            · have h := nd_pos h c13
              refine lv_ldc2 hx hb hown (hts (.constantLong RX18 108 (504263112045)) (List.mem_of_getElem? (i := 12) rfl)) dX18_plain_167 ?_
              refine lv_goto (tgt := 219) hx hb dX18_plain_170 (by decide) ?_
              exact (db_X18_plain_219 C K) (504263112045) s0 _ _ _ h hP hD hS (lv_sub hl [] rfl)
          · have h := nd_pos h c12
            refine lv_ldc2 hx hb hown (hts (.constantLong RX18 106 (129138533627245)) (List.mem_of_getElem? (i := 13) rfl)) dX18_plain_153 ?_
            refine lv_goto (tgt := 219) hx hb dX18_plain_156 (by decide) ?_
            exact (db_X18_plain_219 C K) (129138533627245) s0 _ _ _ h hP hD hS (lv_sub hl [] rfl)
        · have h := nd_pos h c11
          refine lv_ldc2 hx hb hown (hts (.constantLong RX18 104 (1751938413)) (List.mem_of_getElem? (i := 14) rfl)) dX18_plain_139 ?_
          refine lv_goto (tgt := 219) hx hb dX18_plain_142 (by decide) ?_
          exact (db_X18_plain_219 C K) (1751938413) s0 _ _ _ h hP hD hS (lv_sub hl [] rfl)
      · have h := nd_pos h c10
        refine lv_ldc2 hx hb hown (hts (.constantLong RX18 102 (7107949)) (List.mem_of_getElem? (i := 15) rfl)) dX18_plain_125 ?_
        refine lv_goto (tgt := 219) hx hb dX18_plain_128 (by decide) ?_
        exact (db_X18_plain_219 C K) (7107949) s0 _ _ _ h hP hD hS (lv_sub hl [] rfl)
  · have h := nd_pos h c1
    refine lv_aload_n hx hb dX18_plain_4 rfl (lv_at hl 0 rfl) ?_
    refine lv_aload_n hx hb dX18_plain_5 rfl (lv_at hl 0 rfl) ?_
    refine va_get (D := (dC, dI)) (ci := 19) (v := .int (sI s0 7)) (C := RX18) (T := TX18) (N := 10) hx hb hts hi_dm_X18_plain_X18 hown hK hP 0 rfl rfl 8 (by decide) (hts (.fieldLink RX18 80 "TimeMachineModel$Reader" "f" "I") (List.mem_of_getElem? (i := 1) rfl)) (fun _ h9 => h9) rfl dX18_plain_6 ?_
    refine lv_if_ne (tgt := 18) hx hb dX18_plain_9 (by decide) (fun c20 => ?_) (fun c20 => ?_)
    · have h := nd_neg h c20
      refine lv_aload_n hx hb dX18_plain_18 rfl (lv_at hl 0 rfl) ?_
      refine va_get (D := (dC, dI)) (ci := 19) (v := .int (sI s0 7)) (C := RX18) (T := TX18) (N := 10) hx hb hts hi_dm_X18_plain_X18 hown hK hP 0 rfl rfl 8 (by decide) (hts (.fieldLink RX18 80 "TimeMachineModel$Reader" "f" "I") (List.mem_of_getElem? (i := 1) rfl)) (fun _ h9 => h9) rfl dX18_plain_19 ?_
      refine lv_iconst (v := 1) hx hb dX18_plain_22 (by decide) ?_
      refine lv_icmp_ne (tgt := 32) hx hb dX18_plain_23 (by decide) (fun c21 => ?_) (fun c21 => ?_)
      · have h := nd_neg h c21
        refine lv_aload_n hx hb dX18_plain_32 rfl (lv_at hl 0 rfl) ?_
        refine va_get (D := (dC, dI)) (ci := 19) (v := .int (sI s0 7)) (C := RX18) (T := TX18) (N := 10) hx hb hts hi_dm_X18_plain_X18 hown hK hP 0 rfl rfl 8 (by decide) (hts (.fieldLink RX18 80 "TimeMachineModel$Reader" "f" "I") (List.mem_of_getElem? (i := 1) rfl)) (fun _ h9 => h9) rfl dX18_plain_33 ?_
        refine lv_iconst (v := 2) hx hb dX18_plain_36 (by decide) ?_
        refine lv_icmp_ne (tgt := 46) hx hb dX18_plain_37 (by decide) (fun c22 => ?_) (fun c22 => ?_)
        · have h := nd_neg h c22
          refine lv_aload_n hx hb dX18_plain_46 rfl (lv_at hl 0 rfl) ?_
          refine va_get (D := (dC, dI)) (ci := 19) (v := .int (sI s0 7)) (C := RX18) (T := TX18) (N := 10) hx hb hts hi_dm_X18_plain_X18 hown hK hP 0 rfl rfl 8 (by decide) (hts (.fieldLink RX18 80 "TimeMachineModel$Reader" "f" "I") (List.mem_of_getElem? (i := 1) rfl)) (fun _ h9 => h9) rfl dX18_plain_47 ?_
          refine lv_iconst (v := 3) hx hb dX18_plain_50 (by decide) ?_
          refine lv_icmp_ne (tgt := 60) hx hb dX18_plain_51 (by decide) (fun c23 => ?_) (fun c23 => ?_)
          · have h := nd_neg h c23
            refine lv_aload_n hx hb dX18_plain_60 rfl (lv_at hl 0 rfl) ?_
            refine va_get (D := (dC, dI)) (ci := 19) (v := .int (sI s0 7)) (C := RX18) (T := TX18) (N := 10) hx hb hts hi_dm_X18_plain_X18 hown hK hP 0 rfl rfl 8 (by decide) (hts (.fieldLink RX18 80 "TimeMachineModel$Reader" "f" "I") (List.mem_of_getElem? (i := 1) rfl)) (fun _ h9 => h9) rfl dX18_plain_61 ?_
            refine lv_iconst (v := 4) hx hb dX18_plain_64 (by decide) ?_
            refine lv_icmp_ne (tgt := 74) hx hb dX18_plain_65 (by decide) (fun c24 => ?_) (fun c24 => ?_)
            · have h := nd_neg h c24
              refine lv_aload_n hx hb dX18_plain_74 rfl (lv_at hl 0 rfl) ?_
              refine va_get (D := (dC, dI)) (ci := 19) (v := .int (sI s0 7)) (C := RX18) (T := TX18) (N := 10) hx hb hts hi_dm_X18_plain_X18 hown hK hP 0 rfl rfl 8 (by decide) (hts (.fieldLink RX18 80 "TimeMachineModel$Reader" "f" "I") (List.mem_of_getElem? (i := 1) rfl)) (fun _ h9 => h9) rfl dX18_plain_75 ?_
              refine lv_iconst (v := 5) hx hb dX18_plain_78 (by decide) ?_
              refine lv_icmp_ne (tgt := 88) hx hb dX18_plain_79 (by decide) (fun c25 => ?_) (fun c25 => ?_)
              · have h := nd_neg h c25
                refine lv_aload_n hx hb dX18_plain_88 rfl (lv_at hl 0 rfl) ?_
                refine va_get (D := (dC, dI)) (ci := 19) (v := .int (sI s0 7)) (C := RX18) (T := TX18) (N := 10) hx hb hts hi_dm_X18_plain_X18 hown hK hP 0 rfl rfl 8 (by decide) (hts (.fieldLink RX18 80 "TimeMachineModel$Reader" "f" "I") (List.mem_of_getElem? (i := 1) rfl)) (fun _ h9 => h9) rfl dX18_plain_89 ?_
                refine lv_bipush (v := 6) hx hb dX18_plain_92 (by decide) ?_
                refine lv_icmp_ne (tgt := 103) hx hb dX18_plain_94 (by decide) (fun c26 => ?_) (fun c26 => ?_)
                · have h := nd_neg h c26
                  refine lv_ldc2 hx hb hown (hts (.constantLong RX18 97 (6581857)) (List.mem_of_getElem? (i := 16) rfl)) dX18_plain_103 ?_
                  exact (db_X18_plain_106 C K) (6581857) s0 _ _ _ h hP hD hS (lv_sub hl [] rfl)
                · have h := nd_pos h c26
                  refine lv_ldc2 hx hb hown (hts (.constantLong RX18 95 (29295)) (List.mem_of_getElem? (i := 17) rfl)) dX18_plain_97 ?_
                  refine lv_goto (tgt := 106) hx hb dX18_plain_100 (by decide) ?_
                  exact (db_X18_plain_106 C K) (29295) s0 _ _ _ h hP hD hS (lv_sub hl [] rfl)
              · have h := nd_pos h c25
                refine lv_ldc2 hx hb hown (hts (.constantLong RX18 93 (7107187)) (List.mem_of_getElem? (i := 18) rfl)) dX18_plain_82 ?_
                refine lv_goto (tgt := 106) hx hb dX18_plain_85 (by decide) ?_
                exact (db_X18_plain_106 C K) (7107187) s0 _ _ _ h hP hD hS (lv_sub hl [] rfl)
            · have h := nd_pos h c24
              refine lv_ldc2 hx hb hown (hts (.constantLong RX18 91 (7499640)) (List.mem_of_getElem? (i := 19) rfl)) dX18_plain_68 ?_
              refine lv_goto (tgt := 106) hx hb dX18_plain_71 (by decide) ?_
              exact (db_X18_plain_106 C K) (7499640) s0 _ _ _ h hP hD hS (lv_sub hl [] rfl)
          · have h := nd_pos h c23
            refine lv_ldc2 hx hb hown (hts (.constantLong RX18 89 (1970564211)) (List.mem_of_getElem? (i := 20) rfl)) dX18_plain_54 ?_
            refine lv_goto (tgt := 106) hx hb dX18_plain_57 (by decide) ?_
            exact (db_X18_plain_106 C K) (1970564211) s0 _ _ _ h hP hD hS (lv_sub hl [] rfl)
        · have h := nd_pos h c22
          refine lv_ldc2 hx hb hown (hts (.constantLong RX18 87 (7629939)) (List.mem_of_getElem? (i := 21) rfl)) dX18_plain_40 ?_
          refine lv_goto (tgt := 106) hx hb dX18_plain_43 (by decide) ?_
          exact (db_X18_plain_106 C K) (7629939) s0 _ _ _ h hP hD hS (lv_sub hl [] rfl)
      · have h := nd_pos h c21
        refine lv_ldc2 hx hb hown (hts (.constantLong RX18 85 (7105651)) (List.mem_of_getElem? (i := 22) rfl)) dX18_plain_26 ?_
        refine lv_goto (tgt := 106) hx hb dX18_plain_29 (by decide) ?_
        exact (db_X18_plain_106 C K) (7105651) s0 _ _ _ h hP hD hS (lv_sub hl [] rfl)
    · have h := nd_pos h c20
      refine lv_ldc2 hx hb hown (hts (.constantLong RX18 83 (6579297)) (List.mem_of_getElem? (i := 23) rfl)) dX18_plain_12 ?_
      refine lv_goto (tgt := 106) hx hb dX18_plain_15 (by decide) ?_
      exact (db_X18_plain_106 C K) (6579297) s0 _ _ _ h hP hD hS (lv_sub hl [] rfl)
set_option maxHeartbeats 40000000 in
set_option maxRecDepth 100000 in
theorem dm_X18_plain (l : Launch) (hlt : l.stackTraces = false) (dC : Nat → ClassId) (dI : Nat → Nat → Nat) (a : Nat → Nat) (ac : Nat → ClassId) (n : Nat) (v0 : Int32) (s0 : St) {r : St} (h : df_X18_plain n v0 s0 = some r) (sz : Nat) : Met l yX18_plain ow_dm_X18_plain ({ frames := 4, cells := 0, slots := 0, locals := 89 }) (va_Pc [.ref (a 0), .int v0] (fun U => U.heap.size = sz ∧ va_P (dC, dI) vwCl (dw_X18 a ac s0) U.heap ∧ va_K (dC, dI) vwCl (dk_X18 ac) U ∧ va_D (fun _ => True) (dw_X18 a ac s0) ∧ nv_E dI (va_A (dw_X18 a ac s0) sz) U)) (va_Qv (fun _ => True) (fun (_ : Unit) t => va_P (dC, dI) vwCl (dw_X18 a ac r) t.heap ∧ va_K (dC, dI) vwCl (dk_X18 ac) t ∧ va_D (va_A (dw_X18 a ac s0) sz) (dw_X18 a ac r)) (va_A (dw_X18 a ac s0) sz)) 0 0 (va_A (dw_X18 a ac s0) sz) := by
  refine Met.ofW (cc := cX18_plain) (maxL := 2) (ret := none) (by decide) rfl ?_
  intro p e s m args below meth c s₁ B hml hv
  obtain ⟨rfl, hsz, hP, hK, hD0, hN⟩ := hv
  have hx := B.exec
  have hb := B.bytes
  have hr := B.returns
  have hts := atoms_spec (ws := ow_dm_X18_plain) B.pre
  have hown : s.vm.findClass RX18 = some m.cls := findClass_of_methodNamed B.named
  have hlocks := B.notSynchronized
  subst hsz
  have hD := hD0.self (sz := s.heap.size)
  generalize hAe : va_A (dw_X18 a ac s0) s.heap.size = A at hD hN ⊢
  have hA : ∀ q : Nat, s.heap.size ≤ q → A q := fun q h => by rw [← hAe]; exact Or.inr h
  have hl := lv_entry ([.ref (a 0), .int v0]) (n := 2) (Nat.le_of_ble_eq_true rfl)
  rw [lg_entry_eq]
  generalize (lg_sl ([.ref (a 0), .int v0]) ++ List.replicate (2 - (lg_sl ([.ref (a 0), .int v0])).length) Slot.unset).toArray = ls at hl ⊢
  have hl : lv_has ls 2 [(0, .ref (a 0)), (1, .int v0)] := hl
  exact db_X18_plain_0 (dC := dC) (dI := dI) (a := a) (ac := ac) (n := n) (r := r) ⟨hlt, hx, hb, hml, hown, hts, hN, hA, hK⟩ (fun pc τ H locs ls d er hP hD hS => by subst er; exact W.vret hx hb hr (fun t ht hW => ⟨⟨(), rfl, trivial, by rw [ht]; exact hP, va_K.moved hW.alike hK, hD⟩, hS.F ht⟩) hS.2.2 d) v0 s0 _ _ _ h hP hD va_S.rf (lv_sub hl [0, 1] rfl)
def ow_dm_X18_twos : List Cond := Cond.code yX18_twos cX18_twos 3 none :: ([Cond.fieldLink RX18 80 "TimeMachineModel$Reader" "f" "I", Cond.constantLong RX18 138 (1768189537), Cond.methodLink RX18 65 yX18_name, Cond.instanceMethod yX18_name, Cond.selects RX18 yX18_name yX18_name, Cond.initialized RX18, Cond.fieldLink RX18 68 "TimeMachineModel$Reader" "d" "I", Cond.methodLink RX18 71 yX18_register, Cond.instanceMethod yX18_register, Cond.selects RX18 yX18_register yX18_register, Cond.fieldLink RX18 74 "TimeMachineModel$Reader" "a" "I", Cond.fieldLink RX18 20 "TimeMachineModel$Reader" "bits" "I", Cond.methodLink RX18 59 yX18_immediate, Cond.instanceMethod yX18_immediate, Cond.selects RX18 yX18_immediate yX18_immediate, Cond.fieldLink RX18 77 "TimeMachineModel$Reader" "b" "I", Cond.constantLong RX18 136 (6910575), Cond.constantLong RX18 134 (1768714867), Cond.constantLong RX18 132 (1769107320), Cond.constantLong RX18 130 (504280411251), Cond.constantLong RX18 128 (1769237619), Cond.constantLong RX18 126 (1768713331), Cond.constantLong RX18 124 (1768186977), Cond.constantLong RX18 122 (1767993971)] ++ (u_ws RX18 TX18 10 ++ (ow_dm_X18_name ++ (ow_dm_X18_register ++ (ow_dm_X18_immediate ++ [])))))
theorem gd_dm_X18_twos : ∀ w ∈ ow_dm_X18_twos, (w.onTables && w.keeps) = true ∨ ∃ ty, w = Cond.arrayClass ty := List.forall_mem_cons.mpr ⟨good_of_word rfl, List.forall_mem_append.mpr ⟨fun w h => good_of_word (List.all_eq_true.mp (by decide +kernel) w h), List.forall_mem_append.mpr ⟨gu_X18, List.forall_mem_append.mpr ⟨gd_dm_X18_name, List.forall_mem_append.mpr ⟨gd_dm_X18_register, List.forall_mem_append.mpr ⟨gd_dm_X18_immediate, fun _ h => nomatch h⟩⟩⟩⟩⟩⟩
theorem hi_dm_X18_twos_X18 : ∀ w ∈ u_ws RX18 TX18 10, w ∈ ow_dm_X18_twos := fun w h => List.mem_cons_of_mem _ (List.mem_append_right _ (List.mem_append_left _ h))
theorem gi_dm_X18_twos_0 : GoodIn ow_dm_X18_twos (wsV RX18 65 RX18 yX18_name ow_dm_X18_name) := goodIn_app (goodIn_of _ (by decide +kernel)) (fun w h => ⟨List.mem_cons_of_mem _ (List.mem_append_right _ (List.mem_append_right _ (List.mem_append_left _ h))), gd_dm_X18_name w h⟩)
theorem gi_dm_X18_twos_1 : GoodIn ow_dm_X18_twos (wsV RX18 71 RX18 yX18_register ow_dm_X18_register) := goodIn_app (goodIn_of _ (by decide +kernel)) (fun w h => ⟨List.mem_cons_of_mem _ (List.mem_append_right _ (List.mem_append_right _ (List.mem_append_right _ (List.mem_append_left _ h)))), gd_dm_X18_register w h⟩)
theorem gi_dm_X18_twos_2 : GoodIn ow_dm_X18_twos (wsV RX18 59 RX18 yX18_immediate ow_dm_X18_immediate) := goodIn_app (goodIn_of _ (by decide +kernel)) (fun w h => ⟨List.mem_cons_of_mem _ (List.mem_append_right _ (List.mem_append_right _ (List.mem_append_right _ (List.mem_append_right _ (List.mem_append_left _ h))))), gd_dm_X18_immediate w h⟩)
def dj_X18_twos_201 (p : Program) (l : Launch) (e : Env) (s : State) (m : MethodId) (args : Array Value) (below : List Frame) (meth : Method) (c : Code) (Q : State → Prop) (A : Nat → Prop) (dC : Nat → ClassId) (dI : Nat → Nat → Nat) (a : Nat → Nat) (ac : Nat → ClassId) (g : Int32 → (St) → Option (St)) (r : St) : Prop := ∀ (y1 : Int32) (s0 : St) (H : Heap) (locs : List Loc) (ls : Array Slot), g y1 s0 = some r → va_P (dC, dI) vwCl (dw_X18 a ac s0) H → va_D A (dw_X18 a ac s0) → va_S A s.heap H locs → lv_has ls 3 [] → W p l e (headSpec ow_dm_X18_twos ({ frames := 4, cells := 0, slots := 0, locals := 89 })).room s m args below meth c H locs 0 0 Q (F0 m 201 ls [.int y1, .ref (a 0)])
def dj_X18_twos_163 (p : Program) (l : Launch) (e : Env) (s : State) (m : MethodId) (args : Array Value) (below : List Frame) (meth : Method) (c : Code) (Q : State → Prop) (A : Nat → Prop) (dC : Nat → ClassId) (dI : Nat → Nat → Nat) (a : Nat → Nat) (ac : Nat → ClassId) (g : Int32 → Int64 → (St) → Option (St)) (r : St) : Prop := ∀ (x2 : Int32) (y1 : Int64) (s0 : St) (H : Heap) (locs : List Loc) (ls : Array Slot), g x2 y1 s0 = some r → va_P (dC, dI) vwCl (dw_X18 a ac s0) H → va_D A (dw_X18 a ac s0) → va_S A s.heap H locs → lv_has ls 3 [(0, .ref (a 0)), (2, .int x2)] → W p l e (headSpec ow_dm_X18_twos ({ frames := 4, cells := 0, slots := 0, locals := 89 })).room s m args below meth c H locs 0 0 Q (F0 m 163 ls [.long y1, .ref (a 0)])
def dj_X18_twos_62 (p : Program) (l : Launch) (e : Env) (s : State) (m : MethodId) (args : Array Value) (below : List Frame) (meth : Method) (c : Code) (Q : State → Prop) (A : Nat → Prop) (dC : Nat → ClassId) (dI : Nat → Nat → Nat) (a : Nat → Nat) (ac : Nat → ClassId) (g : Int32 → (St) → Option (St)) (r : St) : Prop := ∀ (x2 : Int32) (s0 : St) (H : Heap) (locs : List Loc) (ls : Array Slot), g x2 s0 = some r → va_P (dC, dI) vwCl (dw_X18 a ac s0) H → va_D A (dw_X18 a ac s0) → va_S A s.heap H locs → lv_has ls 3 [(0, .ref (a 0)), (2, .int x2)] → W p l e (headSpec ow_dm_X18_twos ({ frames := 4, cells := 0, slots := 0, locals := 89 })).room s m args below meth c H locs 0 0 Q (F0 m 62 ls [.ref (a 0)])
def dj_X18_twos_45 (p : Program) (l : Launch) (e : Env) (s : State) (m : MethodId) (args : Array Value) (below : List Frame) (meth : Method) (c : Code) (Q : State → Prop) (A : Nat → Prop) (dC : Nat → ClassId) (dI : Nat → Nat → Nat) (a : Nat → Nat) (ac : Nat → ClassId) (g : Int32 → Int32 → (St) → Option (St)) (r : St) : Prop := ∀ (x1 : Int32) (x2 : Int32) (s0 : St) (H : Heap) (locs : List Loc) (ls : Array Slot), g x1 x2 s0 = some r → va_P (dC, dI) vwCl (dw_X18 a ac s0) H → va_D A (dw_X18 a ac s0) → va_S A s.heap H locs → lv_has ls 3 [(0, .ref (a 0)), (1, .int x1), (2, .int x2)] → W p l e (headSpec ow_dm_X18_twos ({ frames := 4, cells := 0, slots := 0, locals := 89 })).room s m args below meth c H locs 0 0 Q (F0 m 45 ls [])
def dj_X18_twos_44 (p : Program) (l : Launch) (e : Env) (s : State) (m : MethodId) (args : Array Value) (below : List Frame) (meth : Method) (c : Code) (Q : State → Prop) (A : Nat → Prop) (dC : Nat → ClassId) (dI : Nat → Nat → Nat) (a : Nat → Nat) (ac : Nat → ClassId) (g : (St) → Option (St)) (r : St) : Prop := ∀ (s0 : St) (H : Heap) (locs : List Loc) (ls : Array Slot), g s0 = some r → va_P (dC, dI) vwCl (dw_X18 a ac s0) H → va_D A (dw_X18 a ac s0) → va_S A s.heap H locs → lv_has ls 3 [] → W p l e (headSpec ow_dm_X18_twos ({ frames := 4, cells := 0, slots := 0, locals := 89 })).room s m args below meth c H locs 0 0 Q (F0 m 44 ls [])
def dj_X18_twos_21 (p : Program) (l : Launch) (e : Env) (s : State) (m : MethodId) (args : Array Value) (below : List Frame) (meth : Method) (c : Code) (Q : State → Prop) (A : Nat → Prop) (dC : Nat → ClassId) (dI : Nat → Nat → Nat) (a : Nat → Nat) (ac : Nat → ClassId) (g : Int32 → Int32 → (St) → Option (St)) (r : St) : Prop := ∀ (x1 : Int32) (y0 : Int32) (s0 : St) (H : Heap) (locs : List Loc) (ls : Array Slot), g x1 y0 s0 = some r → va_P (dC, dI) vwCl (dw_X18 a ac s0) H → va_D A (dw_X18 a ac s0) → va_S A s.heap H locs → lv_has ls 3 [(0, .ref (a 0)), (1, .int x1)] → W p l e (headSpec ow_dm_X18_twos ({ frames := 4, cells := 0, slots := 0, locals := 89 })).room s m args below meth c H locs 0 0 Q (F0 m 21 ls [.int y0])
def dj_X18_twos_16 (p : Program) (l : Launch) (e : Env) (s : State) (m : MethodId) (args : Array Value) (below : List Frame) (meth : Method) (c : Code) (Q : State → Prop) (A : Nat → Prop) (dC : Nat → ClassId) (dI : Nat → Nat → Nat) (a : Nat → Nat) (ac : Nat → ClassId) (g : Int32 → (St) → Option (St)) (r : St) : Prop := ∀ (x1 : Int32) (s0 : St) (H : Heap) (locs : List Loc) (ls : Array Slot), g x1 s0 = some r → va_P (dC, dI) vwCl (dw_X18 a ac s0) H → va_D A (dw_X18 a ac s0) → va_S A s.heap H locs → lv_has ls 3 [(0, .ref (a 0)), (1, .int x1)] → W p l e (headSpec ow_dm_X18_twos ({ frames := 4, cells := 0, slots := 0, locals := 89 })).room s m args below meth c H locs 0 0 Q (F0 m 16 ls [])
def dj_X18_twos_0 (p : Program) (l : Launch) (e : Env) (s : State) (m : MethodId) (args : Array Value) (below : List Frame) (meth : Method) (c : Code) (Q : State → Prop) (A : Nat → Prop) (dC : Nat → ClassId) (dI : Nat → Nat → Nat) (a : Nat → Nat) (ac : Nat → ClassId) (g : Int32 → (St) → Option (St)) (r : St) : Prop := ∀ (v0 : Int32) (s0 : St) (H : Heap) (locs : List Loc) (ls : Array Slot), g v0 s0 = some r → va_P (dC, dI) vwCl (dw_X18 a ac s0) H → va_D A (dw_X18 a ac s0) → va_S A s.heap H locs → lv_has ls 3 [(0, .ref (a 0)), (1, .int v0)] → W p l e (headSpec ow_dm_X18_twos ({ frames := 4, cells := 0, slots := 0, locals := 89 })).room s m args below meth c H locs 0 0 Q (F0 m 0 ls [])
set_option maxHeartbeats 40000000 in
set_option maxRecDepth 100000 in
theorem db_X18_twos_201 {p : Program} {l : Launch} {e : Env} {s : State} {m : MethodId} {args : Array Value} {below : List Frame} {meth : Method} {c : Code} {Q : State → Prop} {A : Nat → Prop} {dC : Nat → ClassId} {dI : Nat → Nat → Nat} {a : Nat → Nat} {ac : Nat → ClassId} {n : Nat} {r : St} (C : nd_C p l s m args c A (dC, dI) cX18_twos 3 RX18 ow_dm_X18_twos (dk_X18 ac)) (K : nd_Kv p l e (headSpec ow_dm_X18_twos ({ frames := 4, cells := 0, slots := 0, locals := 89 })).room s m args below meth c Q A (dC, dI) cX18_twos (St) (dw_X18 a ac) r) : dj_X18_twos_201 p l e s m args below meth c Q A dC dI a ac (df_X18_twos_201 n) r := by
  obtain ⟨hlt, hx, hb, hml, hown, hts, hN, hA, hK⟩ := id C
  intro y1 s0 H locs ls h hP hD hS hl
  unfold df_X18_twos_201 at h
  obtain ⟨s22, hq, h⟩ := nd_b1_e h
  have hPc := hP
  have hDc := hD
  have hKc := hK
  have hFc := nd_rs hD hS hA
  refine nd_cVv (As := [.int y1]) (rest := []) (w' := dw_X18 a ac s22) ⟨hx, hb, hml, hown, hts⟩ (fun sz => dm_X18_immediate l hlt dC dI a ac n (y1) s0 hq sz) (cwV 1 hts gi_dm_X18_twos_2 rfl rfl rfl (by decide +kernel) ⟨Nat.le_of_ble_eq_true rfl, Nat.le_of_ble_eq_true rfl⟩) hPc hDc hKc hS hA hN (va_recv hKc hPc (ci := 19) (q0 := 0) rfl rfl) rfl hl.1 rfl (Nat.le_of_ble_eq_true rfl) dX18_twos_201 (fun H locs hP1 hD1 hk1 hS => ?_)
  have hP := hP1
  have hD := hD1.weaken (fun k q _ h => hFc q.1 h)
  exact K _ _ _ _ _ dX18_twos_204 (Option.some.inj h).symm hP hD hS
set_option maxHeartbeats 40000000 in
set_option maxRecDepth 100000 in
theorem db_X18_twos_163 {p : Program} {l : Launch} {e : Env} {s : State} {m : MethodId} {args : Array Value} {below : List Frame} {meth : Method} {c : Code} {Q : State → Prop} {A : Nat → Prop} {dC : Nat → ClassId} {dI : Nat → Nat → Nat} {a : Nat → Nat} {ac : Nat → ClassId} {n : Nat} {r : St} (C : nd_C p l s m args c A (dC, dI) cX18_twos 3 RX18 ow_dm_X18_twos (dk_X18 ac)) (K : nd_Kv p l e (headSpec ow_dm_X18_twos ({ frames := 4, cells := 0, slots := 0, locals := 89 })).room s m args below meth c Q A (dC, dI) cX18_twos (St) (dw_X18 a ac) r) : dj_X18_twos_163 p l e s m args below meth c Q A dC dI a ac (df_X18_twos_163 n) r := by
  obtain ⟨hlt, hx, hb, hml, hown, hts, hN, hA, hK⟩ := id C
  intro x2 y1 s0 H locs ls h hP hD hS hl
  unfold df_X18_twos_163 at h
  obtain ⟨s12, hq, h⟩ := nd_b1_e h
  have hPc := hP
  have hDc := hD
  have hKc := hK
  have hFc := nd_rs hD hS hA
  refine nd_cVv (As := [.long y1]) (rest := []) (w' := dw_X18 a ac s12) ⟨hx, hb, hml, hown, hts⟩ (fun sz => dm_X18_name l hlt dC dI a ac n (y1) s0 hq sz) (cwV 1 hts gi_dm_X18_twos_0 rfl rfl rfl (by decide +kernel) ⟨Nat.le_of_ble_eq_true rfl, Nat.le_of_ble_eq_true rfl⟩) hPc hDc hKc hS hA hN (va_recv hKc hPc (ci := 19) (q0 := 0) rfl rfl) rfl hl.1 rfl (Nat.le_of_ble_eq_true rfl) dX18_twos_163 (fun H locs hP1 hD1 hk1 hS => ?_)
  have hP := hP1
  have hD := hD1.weaken (fun k q _ h => hFc q.1 h)
  refine lv_aload_n hx hb dX18_twos_166 rfl (lv_at hl 0 rfl) ?_
  refine lv_aload_n hx hb dX18_twos_167 rfl (lv_at hl 0 rfl) ?_
  refine va_get (D := (dC, dI)) (ci := 19) (v := .int (sI s12 4)) (C := RX18) (T := TX18) (N := 10) hx hb hts hi_dm_X18_twos_X18 hown hK hP 0 rfl rfl 5 (by decide) (hts (.fieldLink RX18 68 "TimeMachineModel$Reader" "d" "I") (List.mem_of_getElem? (i := 7) rfl)) (fun _ h9 => h9) rfl dX18_twos_168 ?_
  obtain ⟨s15, hq, h⟩ := nd_b1_e h
  have hPc := hP
  have hDc := hD
  have hKc := hK
  have hFc := nd_rs hD hS hA
  refine nd_cVv (As := [.int (sI s12 4)]) (rest := []) (w' := dw_X18 a ac s15) ⟨hx, hb, hml, hown, hts⟩ (fun sz => dm_X18_register l hlt dC dI a ac n ((sI s12 4)) s12 hq sz) (cwV 1 hts gi_dm_X18_twos_1 rfl rfl rfl (by decide +kernel) ⟨Nat.le_of_ble_eq_true rfl, Nat.le_of_ble_eq_true rfl⟩) hPc hDc hKc hS hA hN (va_recv hKc hPc (ci := 19) (q0 := 0) rfl rfl) rfl hl.1 rfl (Nat.le_of_ble_eq_true rfl) dX18_twos_171 (fun H locs hP1 hD1 hk1 hS => ?_)
  have hP := hP1
  have hD := hD1.weaken (fun k q _ h => hFc q.1 h)
  refine lv_aload_n hx hb dX18_twos_174 rfl (lv_at hl 0 rfl) ?_
  refine lv_aload_n hx hb dX18_twos_175 rfl (lv_at hl 0 rfl) ?_
  refine va_get (D := (dC, dI)) (ci := 19) (v := .int (sI s15 5)) (C := RX18) (T := TX18) (N := 10) hx hb hts hi_dm_X18_twos_X18 hown hK hP 0 rfl rfl 6 (by decide) (hts (.fieldLink RX18 74 "TimeMachineModel$Reader" "a" "I") (List.mem_of_getElem? (i := 11) rfl)) (fun _ h9 => h9) rfl dX18_twos_176 ?_
  obtain ⟨s18, hq, h⟩ := nd_b1_e h
  have hPc := hP
  have hDc := hD
  have hKc := hK
  have hFc := nd_rs hD hS hA
  refine nd_cVv (As := [.int (sI s15 5)]) (rest := []) (w' := dw_X18 a ac s18) ⟨hx, hb, hml, hown, hts⟩ (fun sz => dm_X18_register l hlt dC dI a ac n ((sI s15 5)) s15 hq sz) (cwV 1 hts gi_dm_X18_twos_1 rfl rfl rfl (by decide +kernel) ⟨Nat.le_of_ble_eq_true rfl, Nat.le_of_ble_eq_true rfl⟩) hPc hDc hKc hS hA hN (va_recv hKc hPc (ci := 19) (q0 := 0) rfl rfl) rfl hl.1 rfl (Nat.le_of_ble_eq_true rfl) dX18_twos_179 (fun H locs hP1 hD1 hk1 hS => ?_)
  have hP := hP1
  have hD := hD1.weaken (fun k q _ h => hFc q.1 h)
  refine lv_aload_n hx hb dX18_twos_182 rfl (lv_at hl 0 rfl) ?_
  refine lv_iload_n hx hb dX18_twos_183 rfl (lv_at hl 1 rfl) ?_
  refine lv_if_eq (tgt := 194) hx hb dX18_twos_184 (by decide) (fun c20 => ?_) (fun c20 => ?_)
  · have h := nd_pos h c20
    refine lv_aload_n hx hb dX18_twos_194 rfl (lv_at hl 0 rfl) ?_
    refine va_get (D := (dC, dI)) (ci := 19) (v := .int (sI s18 3)) (C := RX18) (T := TX18) (N := 10) hx hb hts hi_dm_X18_twos_X18 hown hK hP 0 rfl rfl 4 (by decide) (hts (.fieldLink RX18 20 "TimeMachineModel$Reader" "bits" "I") (List.mem_of_getElem? (i := 12) rfl)) (fun _ h9 => h9) rfl dX18_twos_195 ?_
    refine lv_bipush (v := 20) hx hb dX18_twos_198 (by decide) ?_
    refine lv_ishr hx hb dX18_twos_200 ?_
    exact (db_X18_twos_201 C K) ((((sI s18 3) : Int32) >>> ((20 : Int32) &&& 31))) s18 _ _ _ h hP hD hS (lv_sub hl [] rfl)
  · have h := nd_neg h c20
    refine lv_aload_n hx hb dX18_twos_187 rfl (lv_at hl 0 rfl) ?_
    refine va_get (D := (dC, dI)) (ci := 19) (v := .int (sI s18 6)) (C := RX18) (T := TX18) (N := 10) hx hb hts hi_dm_X18_twos_X18 hown hK hP 0 rfl rfl 7 (by decide) (hts (.fieldLink RX18 77 "TimeMachineModel$Reader" "b" "I") (List.mem_of_getElem? (i := 16) rfl)) (fun _ h9 => h9) rfl dX18_twos_188 ?_
    refine lv_goto (tgt := 201) hx hb dX18_twos_191 (by decide) ?_
    exact (db_X18_twos_201 C K) ((sI s18 6)) s18 _ _ _ h hP hD hS (lv_sub hl [] rfl)
set_option maxHeartbeats 40000000 in
set_option maxRecDepth 100000 in
theorem db_X18_twos_62 {p : Program} {l : Launch} {e : Env} {s : State} {m : MethodId} {args : Array Value} {below : List Frame} {meth : Method} {c : Code} {Q : State → Prop} {A : Nat → Prop} {dC : Nat → ClassId} {dI : Nat → Nat → Nat} {a : Nat → Nat} {ac : Nat → ClassId} {n : Nat} {r : St} (C : nd_C p l s m args c A (dC, dI) cX18_twos 3 RX18 ow_dm_X18_twos (dk_X18 ac)) (K : nd_Kv p l e (headSpec ow_dm_X18_twos ({ frames := 4, cells := 0, slots := 0, locals := 89 })).room s m args below meth c Q A (dC, dI) cX18_twos (St) (dw_X18 a ac) r) : dj_X18_twos_62 p l e s m args below meth c Q A dC dI a ac (df_X18_twos_62 n) r := by
  obtain ⟨hlt, hx, hb, hml, hown, hts, hN, hA, hK⟩ := id C
  intro x2 s0 H locs ls h hP hD hS hl
  unfold df_X18_twos_62 at h
  refine lv_aload_n hx hb dX18_twos_62 rfl (lv_at hl 0 rfl) ?_
  refine va_get (D := (dC, dI)) (ci := 19) (v := .int (sI s0 7)) (C := RX18) (T := TX18) (N := 10) hx hb hts hi_dm_X18_twos_X18 hown hK hP 0 rfl rfl 8 (by decide) (hts (.fieldLink RX18 80 "TimeMachineModel$Reader" "f" "I") (List.mem_of_getElem? (i := 1) rfl)) (fun _ h9 => h9) rfl dX18_twos_63 ?_
  refine lv_if_ne (tgt := 75) hx hb dX18_twos_66 (by decide) (fun c4 => ?_) (fun c4 => ?_)
  · have h := nd_neg h c4
    refine lv_aload_n hx hb dX18_twos_75 rfl (lv_at hl 0 rfl) ?_
    refine va_get (D := (dC, dI)) (ci := 19) (v := .int (sI s0 7)) (C := RX18) (T := TX18) (N := 10) hx hb hts hi_dm_X18_twos_X18 hown hK hP 0 rfl rfl 8 (by decide) (hts (.fieldLink RX18 80 "TimeMachineModel$Reader" "f" "I") (List.mem_of_getElem? (i := 1) rfl)) (fun _ h9 => h9) rfl dX18_twos_76 ?_
    refine lv_iconst (v := 1) hx hb dX18_twos_79 (by decide) ?_
    refine lv_icmp_ne (tgt := 89) hx hb dX18_twos_80 (by decide) (fun c5 => ?_) (fun c5 => ?_)
    · have h := nd_neg h c5
      refine lv_aload_n hx hb dX18_twos_89 rfl (lv_at hl 0 rfl) ?_
      refine va_get (D := (dC, dI)) (ci := 19) (v := .int (sI s0 7)) (C := RX18) (T := TX18) (N := 10) hx hb hts hi_dm_X18_twos_X18 hown hK hP 0 rfl rfl 8 (by decide) (hts (.fieldLink RX18 80 "TimeMachineModel$Reader" "f" "I") (List.mem_of_getElem? (i := 1) rfl)) (fun _ h9 => h9) rfl dX18_twos_90 ?_
      refine lv_iconst (v := 2) hx hb dX18_twos_93 (by decide) ?_
      refine lv_icmp_ne (tgt := 103) hx hb dX18_twos_94 (by decide) (fun c6 => ?_) (fun c6 => ?_)
      · have h := nd_neg h c6
        refine lv_aload_n hx hb dX18_twos_103 rfl (lv_at hl 0 rfl) ?_
        refine va_get (D := (dC, dI)) (ci := 19) (v := .int (sI s0 7)) (C := RX18) (T := TX18) (N := 10) hx hb hts hi_dm_X18_twos_X18 hown hK hP 0 rfl rfl 8 (by decide) (hts (.fieldLink RX18 80 "TimeMachineModel$Reader" "f" "I") (List.mem_of_getElem? (i := 1) rfl)) (fun _ h9 => h9) rfl dX18_twos_104 ?_
        refine lv_iconst (v := 3) hx hb dX18_twos_107 (by decide) ?_
        refine lv_icmp_ne (tgt := 117) hx hb dX18_twos_108 (by decide) (fun c7 => ?_) (fun c7 => ?_)
        · have h := nd_neg h c7
          refine lv_aload_n hx hb dX18_twos_117 rfl (lv_at hl 0 rfl) ?_
          refine va_get (D := (dC, dI)) (ci := 19) (v := .int (sI s0 7)) (C := RX18) (T := TX18) (N := 10) hx hb hts hi_dm_X18_twos_X18 hown hK hP 0 rfl rfl 8 (by decide) (hts (.fieldLink RX18 80 "TimeMachineModel$Reader" "f" "I") (List.mem_of_getElem? (i := 1) rfl)) (fun _ h9 => h9) rfl dX18_twos_118 ?_
          refine lv_iconst (v := 4) hx hb dX18_twos_121 (by decide) ?_
          refine lv_icmp_ne (tgt := 131) hx hb dX18_twos_122 (by decide) (fun c8 => ?_) (fun c8 => ?_)
          · have h := nd_neg h c8
            refine lv_aload_n hx hb dX18_twos_131 rfl (lv_at hl 0 rfl) ?_
            refine va_get (D := (dC, dI)) (ci := 19) (v := .int (sI s0 7)) (C := RX18) (T := TX18) (N := 10) hx hb hts hi_dm_X18_twos_X18 hown hK hP 0 rfl rfl 8 (by decide) (hts (.fieldLink RX18 80 "TimeMachineModel$Reader" "f" "I") (List.mem_of_getElem? (i := 1) rfl)) (fun _ h9 => h9) rfl dX18_twos_132 ?_
            refine lv_iconst (v := 5) hx hb dX18_twos_135 (by decide) ?_
            refine lv_icmp_ne (tgt := 145) hx hb dX18_twos_136 (by decide) (fun c9 => ?_) (fun c9 => ?_)
            · have h := nd_neg h c9
              refine lv_aload_n hx hb dX18_twos_145 rfl (lv_at hl 0 rfl) ?_
              refine va_get (D := (dC, dI)) (ci := 19) (v := .int (sI s0 7)) (C := RX18) (T := TX18) (N := 10) hx hb hts hi_dm_X18_twos_X18 hown hK hP 0 rfl rfl 8 (by decide) (hts (.fieldLink RX18 80 "TimeMachineModel$Reader" "f" "I") (List.mem_of_getElem? (i := 1) rfl)) (fun _ h9 => h9) rfl dX18_twos_146 ?_
              refine lv_bipush (v := 6) hx hb dX18_twos_149 (by decide) ?_
              refine lv_icmp_ne (tgt := 160) hx hb dX18_twos_151 (by decide) (fun c10 => ?_) (fun c10 => ?_)
              · have h := nd_neg h c10
                refine lv_ldc2 hx hb hown (hts (.constantLong RX18 138 (1768189537)) (List.mem_of_getElem? (i := 2) rfl)) dX18_twos_160 ?_
                exact (db_X18_twos_163 C K) (x2) (1768189537) s0 _ _ _ h hP hD hS (lv_sub hl [0, 1] rfl)
              · have h := nd_pos h c10
                refine lv_ldc2 hx hb hown (hts (.constantLong RX18 136 (6910575)) (List.mem_of_getElem? (i := 17) rfl)) dX18_twos_154 ?_
                refine lv_goto (tgt := 163) hx hb dX18_twos_157 (by decide) ?_
                exact (db_X18_twos_163 C K) (x2) (6910575) s0 _ _ _ h hP hD hS (lv_sub hl [0, 1] rfl)
            · have h := nd_pos h c9
              refine lv_ldc2 hx hb hown (hts (.constantLong RX18 134 (1768714867)) (List.mem_of_getElem? (i := 18) rfl)) dX18_twos_139 ?_
              refine lv_goto (tgt := 163) hx hb dX18_twos_142 (by decide) ?_
              exact (db_X18_twos_163 C K) (x2) (1768714867) s0 _ _ _ h hP hD hS (lv_sub hl [0, 1] rfl)
          · have h := nd_pos h c8
            refine lv_ldc2 hx hb hown (hts (.constantLong RX18 132 (1769107320)) (List.mem_of_getElem? (i := 19) rfl)) dX18_twos_125 ?_
            refine lv_goto (tgt := 163) hx hb dX18_twos_128 (by decide) ?_
            exact (db_X18_twos_163 C K) (x2) (1769107320) s0 _ _ _ h hP hD hS (lv_sub hl [0, 1] rfl)
        · have h := nd_pos h c7
          refine lv_ldc2 hx hb hown (hts (.constantLong RX18 130 (504280411251)) (List.mem_of_getElem? (i := 20) rfl)) dX18_twos_111 ?_
          refine lv_goto (tgt := 163) hx hb dX18_twos_114 (by decide) ?_
          exact (db_X18_twos_163 C K) (x2) (504280411251) s0 _ _ _ h hP hD hS (lv_sub hl [0, 1] rfl)
      · have h := nd_pos h c6
        refine lv_ldc2 hx hb hown (hts (.constantLong RX18 128 (1769237619)) (List.mem_of_getElem? (i := 21) rfl)) dX18_twos_97 ?_
        refine lv_goto (tgt := 163) hx hb dX18_twos_100 (by decide) ?_
        exact (db_X18_twos_163 C K) (x2) (1769237619) s0 _ _ _ h hP hD hS (lv_sub hl [0, 1] rfl)
    · have h := nd_pos h c5
      refine lv_ldc2 hx hb hown (hts (.constantLong RX18 126 (1768713331)) (List.mem_of_getElem? (i := 22) rfl)) dX18_twos_83 ?_
      refine lv_goto (tgt := 163) hx hb dX18_twos_86 (by decide) ?_
      exact (db_X18_twos_163 C K) (x2) (1768713331) s0 _ _ _ h hP hD hS (lv_sub hl [0, 1] rfl)
  · have h := nd_pos h c4
    refine lv_ldc2 hx hb hown (hts (.constantLong RX18 124 (1768186977)) (List.mem_of_getElem? (i := 23) rfl)) dX18_twos_69 ?_
    refine lv_goto (tgt := 163) hx hb dX18_twos_72 (by decide) ?_
    exact (db_X18_twos_163 C K) (x2) (1768186977) s0 _ _ _ h hP hD hS (lv_sub hl [0, 1] rfl)
set_option maxHeartbeats 40000000 in
set_option maxRecDepth 100000 in
theorem db_X18_twos_45 {p : Program} {l : Launch} {e : Env} {s : State} {m : MethodId} {args : Array Value} {below : List Frame} {meth : Method} {c : Code} {Q : State → Prop} {A : Nat → Prop} {dC : Nat → ClassId} {dI : Nat → Nat → Nat} {a : Nat → Nat} {ac : Nat → ClassId} {n : Nat} {r : St} (C : nd_C p l s m args c A (dC, dI) cX18_twos 3 RX18 ow_dm_X18_twos (dk_X18 ac)) (K : nd_Kv p l e (headSpec ow_dm_X18_twos ({ frames := 4, cells := 0, slots := 0, locals := 89 })).room s m args below meth c Q A (dC, dI) cX18_twos (St) (dw_X18 a ac) r) : dj_X18_twos_45 p l e s m args below meth c Q A dC dI a ac (df_X18_twos_45 n) r := by
  obtain ⟨hlt, hx, hb, hml, hown, hts, hN, hA, hK⟩ := id C
  intro x1 x2 s0 H locs ls h hP hD hS hl
  unfold df_X18_twos_45 at h
  refine lv_aload_n hx hb dX18_twos_45 rfl (lv_at hl 0 rfl) ?_
  refine lv_iload_n hx hb dX18_twos_46 rfl (lv_at hl 1 rfl) ?_
  refine lv_bipush (v := 32) hx hb dX18_twos_47 (by decide) ?_
  refine lv_icmp_ne (tgt := 62) hx hb dX18_twos_49 (by decide) (fun c3 => ?_) (fun c3 => ?_)
  · have h := nd_neg h c3
    exact (db_X18_twos_62 C K) (x2) s0 _ _ _ h hP hD hS (lv_sub hl [0, 2] rfl)
  · have h := nd_pos h c3
    refine lv_iload_n hx hb dX18_twos_52 rfl (lv_at hl 2 rfl) ?_
    refine lv_if_eq (tgt := 62) hx hb dX18_twos_53 (by decide) (fun c24 => ?_) (fun c24 => ?_)
    · have h := nd_pos h c24
      exact (db_X18_twos_62 C K) (x2) s0 _ _ _ h hP hD hS (lv_sub hl [0, 2] rfl)
    · have h := nd_neg h c24
      refine lv_ldc2 hx hb hown (hts (.constantLong RX18 122 (1767993971)) (List.mem_of_getElem? (i := 24) rfl)) dX18_twos_56 ?_
      refine lv_goto (tgt := 163) hx hb dX18_twos_59 (by decide) ?_
      exact (db_X18_twos_163 C K) (x2) (1767993971) s0 _ _ _ h hP hD hS (lv_sub hl [0, 2] rfl)
set_option maxHeartbeats 40000000 in
set_option maxRecDepth 100000 in
theorem db_X18_twos_44 {p : Program} {l : Launch} {e : Env} {s : State} {m : MethodId} {args : Array Value} {below : List Frame} {meth : Method} {c : Code} {Q : State → Prop} {A : Nat → Prop} {dC : Nat → ClassId} {dI : Nat → Nat → Nat} {a : Nat → Nat} {ac : Nat → ClassId} {n : Nat} {r : St} (C : nd_C p l s m args c A (dC, dI) cX18_twos 3 RX18 ow_dm_X18_twos (dk_X18 ac)) (K : nd_Kv p l e (headSpec ow_dm_X18_twos ({ frames := 4, cells := 0, slots := 0, locals := 89 })).room s m args below meth c Q A (dC, dI) cX18_twos (St) (dw_X18 a ac) r) : dj_X18_twos_44 p l e s m args below meth c Q A dC dI a ac (df_X18_twos_44 n) r := by
  obtain ⟨hlt, hx, hb, hml, hown, hts, hN, hA, hK⟩ := id C
  intro s0 H locs ls h hP hD hS hl
  unfold df_X18_twos_44 at h
  exact K _ _ _ _ _ dX18_twos_44 (Option.some.inj h).symm hP hD hS
set_option maxHeartbeats 40000000 in
set_option maxRecDepth 100000 in
theorem db_X18_twos_21 {p : Program} {l : Launch} {e : Env} {s : State} {m : MethodId} {args : Array Value} {below : List Frame} {meth : Method} {c : Code} {Q : State → Prop} {A : Nat → Prop} {dC : Nat → ClassId} {dI : Nat → Nat → Nat} {a : Nat → Nat} {ac : Nat → ClassId} {n : Nat} {r : St} (C : nd_C p l s m args c A (dC, dI) cX18_twos 3 RX18 ow_dm_X18_twos (dk_X18 ac)) (K : nd_Kv p l e (headSpec ow_dm_X18_twos ({ frames := 4, cells := 0, slots := 0, locals := 89 })).room s m args below meth c Q A (dC, dI) cX18_twos (St) (dw_X18 a ac) r) : dj_X18_twos_21 p l e s m args below meth c Q A dC dI a ac (df_X18_twos_21 n) r := by
  obtain ⟨hlt, hx, hb, hml, hown, hts, hN, hA, hK⟩ := id C
  intro x1 y0 s0 H locs ls h hP hD hS hl
  unfold df_X18_twos_21 at h
  refine lv_istore_n (lv' := [(2, .int y0), (0, .ref (a 0)), (1, .int x1)]) hx hb dX18_twos_21 rfl hl (by decide) rfl (fun ls hl => ?_)
  refine lv_iload_n hx hb dX18_twos_22 rfl (lv_at hl 0 rfl) ?_
  refine lv_if_eq (tgt := 45) hx hb dX18_twos_23 (by decide) (fun c2 => ?_) (fun c2 => ?_)
  · have h := nd_pos h c2
    exact (db_X18_twos_45 C K) (x1) (y0) s0 _ _ _ h hP hD hS (lv_sub hl [1, 2, 0] rfl)
  · have h := nd_neg h c2
    refine lv_iload_n hx hb dX18_twos_26 rfl (lv_at hl 2 rfl) ?_
    refine lv_if_eq (tgt := 45) hx hb dX18_twos_27 (by decide) (fun c25 => ?_) (fun c25 => ?_)
    · have h := nd_pos h c25
      exact (db_X18_twos_45 C K) (x1) (y0) s0 _ _ _ h hP hD hS (lv_sub hl [1, 2, 0] rfl)
    · have h := nd_neg h c25
      refine lv_iload_n hx hb dX18_twos_30 rfl (lv_at hl 2 rfl) ?_
      refine lv_bipush (v := 32) hx hb dX18_twos_31 (by decide) ?_
      refine lv_icmp_ne (tgt := 44) hx hb dX18_twos_33 (by decide) (fun c26 => ?_) (fun c26 => ?_)
      · have h := nd_neg h c26
        exact (db_X18_twos_44 C K)  s0 _ _ _ h hP hD hS (lv_sub hl [] rfl)
      · have h := nd_pos h c26
        refine lv_aload_n hx hb dX18_twos_36 rfl (lv_at hl 1 rfl) ?_
        refine va_get (D := (dC, dI)) (ci := 19) (v := .int (sI s0 7)) (C := RX18) (T := TX18) (N := 10) hx hb hts hi_dm_X18_twos_X18 hown hK hP 0 rfl rfl 8 (by decide) (hts (.fieldLink RX18 80 "TimeMachineModel$Reader" "f" "I") (List.mem_of_getElem? (i := 1) rfl)) (fun _ h9 => h9) rfl dX18_twos_37 ?_
        refine lv_iconst (v := 1) hx hb dX18_twos_40 (by decide) ?_
        refine lv_icmp_ne (tgt := 45) hx hb dX18_twos_41 (by decide) (fun c27 => ?_) (fun c27 => ?_)
        · have h := nd_neg h c27
          exact (db_X18_twos_45 C K) (x1) (y0) s0 _ _ _ h hP hD hS (lv_sub hl [1, 2, 0] rfl)
        · have h := nd_pos h c27
          exact (db_X18_twos_44 C K)  s0 _ _ _ h hP hD hS (lv_sub hl [] rfl)
set_option maxHeartbeats 40000000 in
set_option maxRecDepth 100000 in
theorem db_X18_twos_16 {p : Program} {l : Launch} {e : Env} {s : State} {m : MethodId} {args : Array Value} {below : List Frame} {meth : Method} {c : Code} {Q : State → Prop} {A : Nat → Prop} {dC : Nat → ClassId} {dI : Nat → Nat → Nat} {a : Nat → Nat} {ac : Nat → ClassId} {n : Nat} {r : St} (C : nd_C p l s m args c A (dC, dI) cX18_twos 3 RX18 ow_dm_X18_twos (dk_X18 ac)) (K : nd_Kv p l e (headSpec ow_dm_X18_twos ({ frames := 4, cells := 0, slots := 0, locals := 89 })).room s m args below meth c Q A (dC, dI) cX18_twos (St) (dw_X18 a ac) r) : dj_X18_twos_16 p l e s m args below meth c Q A dC dI a ac (df_X18_twos_16 n) r := by
  obtain ⟨hlt, hx, hb, hml, hown, hts, hN, hA, hK⟩ := id C
  intro x1 s0 H locs ls h hP hD hS hl
  unfold df_X18_twos_16 at h
  refine lv_iconst (v := 1) hx hb dX18_twos_16 (by decide) ?_
  refine lv_goto (tgt := 21) hx hb dX18_twos_17 (by decide) ?_
  exact (db_X18_twos_21 C K) (x1) (1) s0 _ _ _ h hP hD hS (lv_sub hl [0, 1] rfl)
set_option maxHeartbeats 40000000 in
set_option maxRecDepth 100000 in
theorem db_X18_twos_0 {p : Program} {l : Launch} {e : Env} {s : State} {m : MethodId} {args : Array Value} {below : List Frame} {meth : Method} {c : Code} {Q : State → Prop} {A : Nat → Prop} {dC : Nat → ClassId} {dI : Nat → Nat → Nat} {a : Nat → Nat} {ac : Nat → ClassId} {n : Nat} {r : St} (C : nd_C p l s m args c A (dC, dI) cX18_twos 3 RX18 ow_dm_X18_twos (dk_X18 ac)) (K : nd_Kv p l e (headSpec ow_dm_X18_twos ({ frames := 4, cells := 0, slots := 0, locals := 89 })).room s m args below meth c Q A (dC, dI) cX18_twos (St) (dw_X18 a ac) r) : dj_X18_twos_0 p l e s m args below meth c Q A dC dI a ac (df_X18_twos_0 n) r := by
  obtain ⟨hlt, hx, hb, hml, hown, hts, hN, hA, hK⟩ := id C
  intro v0 s0 H locs ls h hP hD hS hl
  unfold df_X18_twos_0 at h
  refine lv_aload_n hx hb dX18_twos_0 rfl (lv_at hl 0 rfl) ?_
  refine va_get (D := (dC, dI)) (ci := 19) (v := .int (sI s0 7)) (C := RX18) (T := TX18) (N := 10) hx hb hts hi_dm_X18_twos_X18 hown hK hP 0 rfl rfl 8 (by decide) (hts (.fieldLink RX18 80 "TimeMachineModel$Reader" "f" "I") (List.mem_of_getElem? (i := 1) rfl)) (fun _ h9 => h9) rfl dX18_twos_1 ?_
  refine lv_iconst (v := 1) hx hb dX18_twos_4 (by decide) ?_
  refine lv_icmp_eq (tgt := 16) hx hb dX18_twos_5 (by decide) (fun c1 => ?_) (fun c1 => ?_)
  · have h := nd_pos h c1
    exact (db_X18_twos_16 C K) (v0) s0 _ _ _ h hP hD hS (lv_sub hl [0, 1] rfl)
  · have h := nd_neg h c1
    refine lv_aload_n hx hb dX18_twos_8 rfl (lv_at hl 0 rfl) ?_
    refine va_get (D := (dC, dI)) (ci := 19) (v := .int (sI s0 7)) (C := RX18) (T := TX18) (N := 10) hx hb hts hi_dm_X18_twos_X18 hown hK hP 0 rfl rfl 8 (by decide) (hts (.fieldLink RX18 80 "TimeMachineModel$Reader" "f" "I") (List.mem_of_getElem? (i := 1) rfl)) (fun _ h9 => h9) rfl dX18_twos_9 ?_
    refine lv_iconst (v := 5) hx hb dX18_twos_12 (by decide) ?_
    refine lv_icmp_ne (tgt := 20) hx hb dX18_twos_13 (by decide) (fun c28 => ?_) (fun c28 => ?_)
    · have h := nd_neg h c28
      refine lv_iconst (v := 0) hx hb dX18_twos_20 (by decide) ?_
      exact (db_X18_twos_21 C K) (v0) (0) s0 _ _ _ h hP hD hS (lv_sub hl [0, 1] rfl)
    · have h := nd_pos h c28
      exact (db_X18_twos_16 C K) (v0) s0 _ _ _ h hP hD hS (lv_sub hl [0, 1] rfl)
set_option maxHeartbeats 40000000 in
set_option maxRecDepth 100000 in
theorem dm_X18_twos (l : Launch) (hlt : l.stackTraces = false) (dC : Nat → ClassId) (dI : Nat → Nat → Nat) (a : Nat → Nat) (ac : Nat → ClassId) (n : Nat) (v0 : Int32) (s0 : St) {r : St} (h : df_X18_twos n v0 s0 = some r) (sz : Nat) : Met l yX18_twos ow_dm_X18_twos ({ frames := 4, cells := 0, slots := 0, locals := 89 }) (va_Pc [.ref (a 0), .int v0] (fun U => U.heap.size = sz ∧ va_P (dC, dI) vwCl (dw_X18 a ac s0) U.heap ∧ va_K (dC, dI) vwCl (dk_X18 ac) U ∧ va_D (fun _ => True) (dw_X18 a ac s0) ∧ nv_E dI (va_A (dw_X18 a ac s0) sz) U)) (va_Qv (fun _ => True) (fun (_ : Unit) t => va_P (dC, dI) vwCl (dw_X18 a ac r) t.heap ∧ va_K (dC, dI) vwCl (dk_X18 ac) t ∧ va_D (va_A (dw_X18 a ac s0) sz) (dw_X18 a ac r)) (va_A (dw_X18 a ac s0) sz)) 0 0 (va_A (dw_X18 a ac s0) sz) := by
  refine Met.ofW (cc := cX18_twos) (maxL := 3) (ret := none) (by decide) rfl ?_
  intro p e s m args below meth c s₁ B hml hv
  obtain ⟨rfl, hsz, hP, hK, hD0, hN⟩ := hv
  have hx := B.exec
  have hb := B.bytes
  have hr := B.returns
  have hts := atoms_spec (ws := ow_dm_X18_twos) B.pre
  have hown : s.vm.findClass RX18 = some m.cls := findClass_of_methodNamed B.named
  have hlocks := B.notSynchronized
  subst hsz
  have hD := hD0.self (sz := s.heap.size)
  generalize hAe : va_A (dw_X18 a ac s0) s.heap.size = A at hD hN ⊢
  have hA : ∀ q : Nat, s.heap.size ≤ q → A q := fun q h => by rw [← hAe]; exact Or.inr h
  have hl := lv_entry ([.ref (a 0), .int v0]) (n := 3) (Nat.le_of_ble_eq_true rfl)
  rw [lg_entry_eq]
  generalize (lg_sl ([.ref (a 0), .int v0]) ++ List.replicate (3 - (lg_sl ([.ref (a 0), .int v0])).length) Slot.unset).toArray = ls at hl ⊢
  have hl : lv_has ls 3 [(0, .ref (a 0)), (1, .int v0)] := hl
  exact db_X18_twos_0 (dC := dC) (dI := dI) (a := a) (ac := ac) (n := n) (r := r) ⟨hlt, hx, hb, hml, hown, hts, hN, hA, hK⟩ (fun pc τ H locs ls d er hP hD hS => by subst er; exact W.vret hx hb hr (fun t ht hW => ⟨⟨(), rfl, trivial, by rw [ht]; exact hP, va_K.moved hW.alike hK, hD⟩, hS.F ht⟩) hS.2.2 d) v0 s0 _ _ _ h hP hD va_S.rf (lv_sub hl [0, 1] rfl)
def ow_dm_X18_loads : List Cond := Cond.code yX18_loads cX18_loads 1 none :: ([Cond.fieldLink RX18 80 "TimeMachineModel$Reader" "f" "I", Cond.constantLong RX18 148 (7694444), Cond.methodLink RX18 65 yX18_name, Cond.instanceMethod yX18_name, Cond.selects RX18 yX18_name yX18_name, Cond.initialized RX18, Cond.fieldLink RX18 68 "TimeMachineModel$Reader" "d" "I", Cond.methodLink RX18 71 yX18_register, Cond.instanceMethod yX18_register, Cond.selects RX18 yX18_register yX18_register, Cond.fieldLink RX18 20 "TimeMachineModel$Reader" "bits" "I", Cond.fieldLink RX18 74 "TimeMachineModel$Reader" "a" "I", Cond.methodLink RX18 150 yX18_memory, Cond.instanceMethod yX18_memory, Cond.selects RX18 yX18_memory yX18_memory, Cond.constantLong RX18 146 (7692908), Cond.constantLong RX18 144 (30572), Cond.constantLong RX18 142 (26732), Cond.constantLong RX18 140 (25196)] ++ (u_ws RX18 TX18 10 ++ (ow_dm_X18_name ++ (ow_dm_X18_register ++ (ow_dm_X18_memory ++ [])))))
theorem gd_dm_X18_loads : ∀ w ∈ ow_dm_X18_loads, (w.onTables && w.keeps) = true ∨ ∃ ty, w = Cond.arrayClass ty := List.forall_mem_cons.mpr ⟨good_of_word rfl, List.forall_mem_append.mpr ⟨fun w h => good_of_word (List.all_eq_true.mp (by decide +kernel) w h), List.forall_mem_append.mpr ⟨gu_X18, List.forall_mem_append.mpr ⟨gd_dm_X18_name, List.forall_mem_append.mpr ⟨gd_dm_X18_register, List.forall_mem_append.mpr ⟨gd_dm_X18_memory, fun _ h => nomatch h⟩⟩⟩⟩⟩⟩
theorem hi_dm_X18_loads_X18 : ∀ w ∈ u_ws RX18 TX18 10, w ∈ ow_dm_X18_loads := fun w h => List.mem_cons_of_mem _ (List.mem_append_right _ (List.mem_append_left _ h))
theorem gi_dm_X18_loads_0 : GoodIn ow_dm_X18_loads (wsV RX18 65 RX18 yX18_name ow_dm_X18_name) := goodIn_app (goodIn_of _ (by decide +kernel)) (fun w h => ⟨List.mem_cons_of_mem _ (List.mem_append_right _ (List.mem_append_right _ (List.mem_append_left _ h))), gd_dm_X18_name w h⟩)
theorem gi_dm_X18_loads_1 : GoodIn ow_dm_X18_loads (wsV RX18 71 RX18 yX18_register ow_dm_X18_register) := goodIn_app (goodIn_of _ (by decide +kernel)) (fun w h => ⟨List.mem_cons_of_mem _ (List.mem_append_right _ (List.mem_append_right _ (List.mem_append_right _ (List.mem_append_left _ h)))), gd_dm_X18_register w h⟩)
theorem gi_dm_X18_loads_2 : GoodIn ow_dm_X18_loads (wsV RX18 150 RX18 yX18_memory ow_dm_X18_memory) := goodIn_app (goodIn_of _ (by decide +kernel)) (fun w h => ⟨List.mem_cons_of_mem _ (List.mem_append_right _ (List.mem_append_right _ (List.mem_append_right _ (List.mem_append_right _ (List.mem_append_left _ h))))), gd_dm_X18_memory w h⟩)
def dj_X18_loads_16 (p : Program) (l : Launch) (e : Env) (s : State) (m : MethodId) (args : Array Value) (below : List Frame) (meth : Method) (c : Code) (Q : State → Prop) (A : Nat → Prop) (dC : Nat → ClassId) (dI : Nat → Nat → Nat) (a : Nat → Nat) (ac : Nat → ClassId) (g : (St) → Option (St)) (r : St) : Prop := ∀ (s0 : St) (H : Heap) (locs : List Loc) (ls : Array Slot), g s0 = some r → va_P (dC, dI) vwCl (dw_X18 a ac s0) H → va_D A (dw_X18 a ac s0) → va_S A s.heap H locs → lv_has ls 1 [] → W p l e (headSpec ow_dm_X18_loads ({ frames := 5, cells := 0, slots := 0, locals := 111 })).room s m args below meth c H locs 0 0 Q (F0 m 16 ls [])
def dj_X18_loads_76 (p : Program) (l : Launch) (e : Env) (s : State) (m : MethodId) (args : Array Value) (below : List Frame) (meth : Method) (c : Code) (Q : State → Prop) (A : Nat → Prop) (dC : Nat → ClassId) (dI : Nat → Nat → Nat) (a : Nat → Nat) (ac : Nat → ClassId) (g : Int64 → (St) → Option (St)) (r : St) : Prop := ∀ (y1 : Int64) (s0 : St) (H : Heap) (locs : List Loc) (ls : Array Slot), g y1 s0 = some r → va_P (dC, dI) vwCl (dw_X18 a ac s0) H → va_D A (dw_X18 a ac s0) → va_S A s.heap H locs → lv_has ls 1 [(0, .ref (a 0))] → W p l e (headSpec ow_dm_X18_loads ({ frames := 5, cells := 0, slots := 0, locals := 111 })).room s m args below meth c H locs 0 0 Q (F0 m 76 ls [.long y1, .ref (a 0)])
def dj_X18_loads_0 (p : Program) (l : Launch) (e : Env) (s : State) (m : MethodId) (args : Array Value) (below : List Frame) (meth : Method) (c : Code) (Q : State → Prop) (A : Nat → Prop) (dC : Nat → ClassId) (dI : Nat → Nat → Nat) (a : Nat → Nat) (ac : Nat → ClassId) (g : (St) → Option (St)) (r : St) : Prop := ∀ (s0 : St) (H : Heap) (locs : List Loc) (ls : Array Slot), g s0 = some r → va_P (dC, dI) vwCl (dw_X18 a ac s0) H → va_D A (dw_X18 a ac s0) → va_S A s.heap H locs → lv_has ls 1 [(0, .ref (a 0))] → W p l e (headSpec ow_dm_X18_loads ({ frames := 5, cells := 0, slots := 0, locals := 111 })).room s m args below meth c H locs 0 0 Q (F0 m 0 ls [])
set_option maxHeartbeats 40000000 in
set_option maxRecDepth 100000 in
theorem db_X18_loads_16 {p : Program} {l : Launch} {e : Env} {s : State} {m : MethodId} {args : Array Value} {below : List Frame} {meth : Method} {c : Code} {Q : State → Prop} {A : Nat → Prop} {dC : Nat → ClassId} {dI : Nat → Nat → Nat} {a : Nat → Nat} {ac : Nat → ClassId} {n : Nat} {r : St} (C : nd_C p l s m args c A (dC, dI) cX18_loads 1 RX18 ow_dm_X18_loads (dk_X18 ac)) (K : nd_Kv p l e (headSpec ow_dm_X18_loads ({ frames := 5, cells := 0, slots := 0, locals := 111 })).room s m args below meth c Q A (dC, dI) cX18_loads (St) (dw_X18 a ac) r) : dj_X18_loads_16 p l e s m args below meth c Q A dC dI a ac (df_X18_loads_16 n) r := by
  obtain ⟨hlt, hx, hb, hml, hown, hts, hN, hA, hK⟩ := id C
  intro s0 H locs ls h hP hD hS hl
  unfold df_X18_loads_16 at h
  exact K _ _ _ _ _ dX18_loads_16 (Option.some.inj h).symm hP hD hS
set_option maxHeartbeats 40000000 in
set_option maxRecDepth 100000 in
theorem db_X18_loads_76 {p : Program} {l : Launch} {e : Env} {s : State} {m : MethodId} {args : Array Value} {below : List Frame} {meth : Method} {c : Code} {Q : State → Prop} {A : Nat → Prop} {dC : Nat → ClassId} {dI : Nat → Nat → Nat} {a : Nat → Nat} {ac : Nat → ClassId} {n : Nat} {r : St} (C : nd_C p l s m args c A (dC, dI) cX18_loads 1 RX18 ow_dm_X18_loads (dk_X18 ac)) (K : nd_Kv p l e (headSpec ow_dm_X18_loads ({ frames := 5, cells := 0, slots := 0, locals := 111 })).room s m args below meth c Q A (dC, dI) cX18_loads (St) (dw_X18 a ac) r) : dj_X18_loads_76 p l e s m args below meth c Q A dC dI a ac (df_X18_loads_76 n) r := by
  obtain ⟨hlt, hx, hb, hml, hown, hts, hN, hA, hK⟩ := id C
  intro y1 s0 H locs ls h hP hD hS hl
  unfold df_X18_loads_76 at h
  obtain ⟨s8, hq, h⟩ := nd_b1_e h
  have hPc := hP
  have hDc := hD
  have hKc := hK
  have hFc := nd_rs hD hS hA
  refine nd_cVv (As := [.long y1]) (rest := []) (w' := dw_X18 a ac s8) ⟨hx, hb, hml, hown, hts⟩ (fun sz => dm_X18_name l hlt dC dI a ac n (y1) s0 hq sz) (cwV 1 hts gi_dm_X18_loads_0 rfl rfl rfl (by decide +kernel) ⟨Nat.le_of_ble_eq_true rfl, Nat.le_of_ble_eq_true rfl⟩) hPc hDc hKc hS hA hN (va_recv hKc hPc (ci := 19) (q0 := 0) rfl rfl) rfl hl.1 rfl (Nat.le_of_ble_eq_true rfl) dX18_loads_76 (fun H locs hP1 hD1 hk1 hS => ?_)
  have hP := hP1
  have hD := hD1.weaken (fun k q _ h => hFc q.1 h)
  refine lv_aload_n hx hb dX18_loads_79 rfl (lv_at hl 0 rfl) ?_
  refine lv_aload_n hx hb dX18_loads_80 rfl (lv_at hl 0 rfl) ?_
  refine va_get (D := (dC, dI)) (ci := 19) (v := .int (sI s8 4)) (C := RX18) (T := TX18) (N := 10) hx hb hts hi_dm_X18_loads_X18 hown hK hP 0 rfl rfl 5 (by decide) (hts (.fieldLink RX18 68 "TimeMachineModel$Reader" "d" "I") (List.mem_of_getElem? (i := 7) rfl)) (fun _ h9 => h9) rfl dX18_loads_81 ?_
  obtain ⟨s11, hq, h⟩ := nd_b1_e h
  have hPc := hP
  have hDc := hD
  have hKc := hK
  have hFc := nd_rs hD hS hA
  refine nd_cVv (As := [.int (sI s8 4)]) (rest := []) (w' := dw_X18 a ac s11) ⟨hx, hb, hml, hown, hts⟩ (fun sz => dm_X18_register l hlt dC dI a ac n ((sI s8 4)) s8 hq sz) (cwV 1 hts gi_dm_X18_loads_1 rfl rfl rfl (by decide +kernel) ⟨Nat.le_of_ble_eq_true rfl, Nat.le_of_ble_eq_true rfl⟩) hPc hDc hKc hS hA hN (va_recv hKc hPc (ci := 19) (q0 := 0) rfl rfl) rfl hl.1 rfl (Nat.le_of_ble_eq_true rfl) dX18_loads_84 (fun H locs hP1 hD1 hk1 hS => ?_)
  have hP := hP1
  have hD := hD1.weaken (fun k q _ h => hFc q.1 h)
  refine lv_aload_n hx hb dX18_loads_87 rfl (lv_at hl 0 rfl) ?_
  refine lv_aload_n hx hb dX18_loads_88 rfl (lv_at hl 0 rfl) ?_
  refine va_get (D := (dC, dI)) (ci := 19) (v := .int (sI s11 3)) (C := RX18) (T := TX18) (N := 10) hx hb hts hi_dm_X18_loads_X18 hown hK hP 0 rfl rfl 4 (by decide) (hts (.fieldLink RX18 20 "TimeMachineModel$Reader" "bits" "I") (List.mem_of_getElem? (i := 11) rfl)) (fun _ h9 => h9) rfl dX18_loads_89 ?_
  refine lv_bipush (v := 20) hx hb dX18_loads_92 (by decide) ?_
  refine lv_ishr hx hb dX18_loads_94 ?_
  refine lv_aload_n hx hb dX18_loads_95 rfl (lv_at hl 0 rfl) ?_
  refine va_get (D := (dC, dI)) (ci := 19) (v := .int (sI s11 5)) (C := RX18) (T := TX18) (N := 10) hx hb hts hi_dm_X18_loads_X18 hown hK hP 0 rfl rfl 6 (by decide) (hts (.fieldLink RX18 74 "TimeMachineModel$Reader" "a" "I") (List.mem_of_getElem? (i := 12) rfl)) (fun _ h9 => h9) rfl dX18_loads_96 ?_
  obtain ⟨s14, hq, h⟩ := nd_b1_e h
  have hPc := hP
  have hDc := hD
  have hKc := hK
  have hFc := nd_rs hD hS hA
  refine nd_cVv (As := [.int (((sI s11 3) : Int32) >>> ((20 : Int32) &&& 31)), .int (sI s11 5)]) (rest := []) (w' := dw_X18 a ac s14) ⟨hx, hb, hml, hown, hts⟩ (fun sz => dm_X18_memory l hlt dC dI a ac n ((((sI s11 3) : Int32) >>> ((20 : Int32) &&& 31))) ((sI s11 5)) s11 hq sz) (cwV 2 hts gi_dm_X18_loads_2 rfl rfl rfl (by decide +kernel) ⟨Nat.le_of_ble_eq_true rfl, Nat.le_of_ble_eq_true rfl⟩) hPc hDc hKc hS hA hN (va_recv hKc hPc (ci := 19) (q0 := 0) rfl rfl) rfl hl.1 rfl (Nat.le_of_ble_eq_true rfl) dX18_loads_99 (fun H locs hP1 hD1 hk1 hS => ?_)
  have hP := hP1
  have hD := hD1.weaken (fun k q _ h => hFc q.1 h)
  exact K _ _ _ _ _ dX18_loads_102 (Option.some.inj h).symm hP hD hS
set_option maxHeartbeats 40000000 in
set_option maxRecDepth 100000 in
theorem db_X18_loads_0 {p : Program} {l : Launch} {e : Env} {s : State} {m : MethodId} {args : Array Value} {below : List Frame} {meth : Method} {c : Code} {Q : State → Prop} {A : Nat → Prop} {dC : Nat → ClassId} {dI : Nat → Nat → Nat} {a : Nat → Nat} {ac : Nat → ClassId} {n : Nat} {r : St} (C : nd_C p l s m args c A (dC, dI) cX18_loads 1 RX18 ow_dm_X18_loads (dk_X18 ac)) (K : nd_Kv p l e (headSpec ow_dm_X18_loads ({ frames := 5, cells := 0, slots := 0, locals := 111 })).room s m args below meth c Q A (dC, dI) cX18_loads (St) (dw_X18 a ac) r) : dj_X18_loads_0 p l e s m args below meth c Q A dC dI a ac (df_X18_loads_0 n) r := by
  obtain ⟨hlt, hx, hb, hml, hown, hts, hN, hA, hK⟩ := id C
  intro s0 H locs ls h hP hD hS hl
  unfold df_X18_loads_0 at h
  refine lv_aload_n hx hb dX18_loads_0 rfl (lv_at hl 0 rfl) ?_
  refine va_get (D := (dC, dI)) (ci := 19) (v := .int (sI s0 7)) (C := RX18) (T := TX18) (N := 10) hx hb hts hi_dm_X18_loads_X18 hown hK hP 0 rfl rfl 8 (by decide) (hts (.fieldLink RX18 80 "TimeMachineModel$Reader" "f" "I") (List.mem_of_getElem? (i := 1) rfl)) (fun _ h9 => h9) rfl dX18_loads_1 ?_
  refine lv_iconst (v := 3) hx hb dX18_loads_4 (by decide) ?_
  refine lv_icmp_eq (tgt := 16) hx hb dX18_loads_5 (by decide) (fun c1 => ?_) (fun c1 => ?_)
  · have h := nd_pos h c1
    exact (db_X18_loads_16 C K)  s0 _ _ _ h hP hD hS (lv_sub hl [] rfl)
  · have h := nd_neg h c1
    refine lv_aload_n hx hb dX18_loads_8 rfl (lv_at hl 0 rfl) ?_
    refine va_get (D := (dC, dI)) (ci := 19) (v := .int (sI s0 7)) (C := RX18) (T := TX18) (N := 10) hx hb hts hi_dm_X18_loads_X18 hown hK hP 0 rfl rfl 8 (by decide) (hts (.fieldLink RX18 80 "TimeMachineModel$Reader" "f" "I") (List.mem_of_getElem? (i := 1) rfl)) (fun _ h9 => h9) rfl dX18_loads_9 ?_
    refine lv_iconst (v := 5) hx hb dX18_loads_12 (by decide) ?_
    refine lv_icmp_le (tgt := 17) hx hb dX18_loads_13 (by decide) (fun c2 => ?_) (fun c2 => ?_)
    · have h := nd_pos h c2
      refine lv_aload_n hx hb dX18_loads_17 rfl (lv_at hl 0 rfl) ?_
      refine lv_aload_n hx hb dX18_loads_18 rfl (lv_at hl 0 rfl) ?_
      refine va_get (D := (dC, dI)) (ci := 19) (v := .int (sI s0 7)) (C := RX18) (T := TX18) (N := 10) hx hb hts hi_dm_X18_loads_X18 hown hK hP 0 rfl rfl 8 (by decide) (hts (.fieldLink RX18 80 "TimeMachineModel$Reader" "f" "I") (List.mem_of_getElem? (i := 1) rfl)) (fun _ h9 => h9) rfl dX18_loads_19 ?_
      refine lv_if_ne (tgt := 31) hx hb dX18_loads_22 (by decide) (fun c3 => ?_) (fun c3 => ?_)
      · have h := nd_neg h c3
        refine lv_aload_n hx hb dX18_loads_31 rfl (lv_at hl 0 rfl) ?_
        refine va_get (D := (dC, dI)) (ci := 19) (v := .int (sI s0 7)) (C := RX18) (T := TX18) (N := 10) hx hb hts hi_dm_X18_loads_X18 hown hK hP 0 rfl rfl 8 (by decide) (hts (.fieldLink RX18 80 "TimeMachineModel$Reader" "f" "I") (List.mem_of_getElem? (i := 1) rfl)) (fun _ h9 => h9) rfl dX18_loads_32 ?_
        refine lv_iconst (v := 1) hx hb dX18_loads_35 (by decide) ?_
        refine lv_icmp_ne (tgt := 45) hx hb dX18_loads_36 (by decide) (fun c4 => ?_) (fun c4 => ?_)
        · have h := nd_neg h c4
          refine lv_aload_n hx hb dX18_loads_45 rfl (lv_at hl 0 rfl) ?_
          refine va_get (D := (dC, dI)) (ci := 19) (v := .int (sI s0 7)) (C := RX18) (T := TX18) (N := 10) hx hb hts hi_dm_X18_loads_X18 hown hK hP 0 rfl rfl 8 (by decide) (hts (.fieldLink RX18 80 "TimeMachineModel$Reader" "f" "I") (List.mem_of_getElem? (i := 1) rfl)) (fun _ h9 => h9) rfl dX18_loads_46 ?_
          refine lv_iconst (v := 2) hx hb dX18_loads_49 (by decide) ?_
          refine lv_icmp_ne (tgt := 59) hx hb dX18_loads_50 (by decide) (fun c5 => ?_) (fun c5 => ?_)
          · have h := nd_neg h c5
            refine lv_aload_n hx hb dX18_loads_59 rfl (lv_at hl 0 rfl) ?_
            refine va_get (D := (dC, dI)) (ci := 19) (v := .int (sI s0 7)) (C := RX18) (T := TX18) (N := 10) hx hb hts hi_dm_X18_loads_X18 hown hK hP 0 rfl rfl 8 (by decide) (hts (.fieldLink RX18 80 "TimeMachineModel$Reader" "f" "I") (List.mem_of_getElem? (i := 1) rfl)) (fun _ h9 => h9) rfl dX18_loads_60 ?_
            refine lv_iconst (v := 4) hx hb dX18_loads_63 (by decide) ?_
            refine lv_icmp_ne (tgt := 73) hx hb dX18_loads_64 (by decide) (fun c6 => ?_) (fun c6 => ?_)
            · have h := nd_neg h c6
              refine lv_ldc2 hx hb hown (hts (.constantLong RX18 148 (7694444)) (List.mem_of_getElem? (i := 2) rfl)) dX18_loads_73 ?_
              exact (db_X18_loads_76 C K) (7694444) s0 _ _ _ h hP hD hS (lv_sub hl [0] rfl)
            · have h := nd_pos h c6
              refine lv_ldc2 hx hb hown (hts (.constantLong RX18 146 (7692908)) (List.mem_of_getElem? (i := 16) rfl)) dX18_loads_67 ?_
              refine lv_goto (tgt := 76) hx hb dX18_loads_70 (by decide) ?_
              exact (db_X18_loads_76 C K) (7692908) s0 _ _ _ h hP hD hS (lv_sub hl [0] rfl)
          · have h := nd_pos h c5
            refine lv_ldc2 hx hb hown (hts (.constantLong RX18 144 (30572)) (List.mem_of_getElem? (i := 17) rfl)) dX18_loads_53 ?_
            refine lv_goto (tgt := 76) hx hb dX18_loads_56 (by decide) ?_
            exact (db_X18_loads_76 C K) (30572) s0 _ _ _ h hP hD hS (lv_sub hl [0] rfl)
        · have h := nd_pos h c4
          refine lv_ldc2 hx hb hown (hts (.constantLong RX18 142 (26732)) (List.mem_of_getElem? (i := 18) rfl)) dX18_loads_39 ?_
          refine lv_goto (tgt := 76) hx hb dX18_loads_42 (by decide) ?_
          exact (db_X18_loads_76 C K) (26732) s0 _ _ _ h hP hD hS (lv_sub hl [0] rfl)
      · have h := nd_pos h c3
        refine lv_ldc2 hx hb hown (hts (.constantLong RX18 140 (25196)) (List.mem_of_getElem? (i := 19) rfl)) dX18_loads_25 ?_
        refine lv_goto (tgt := 76) hx hb dX18_loads_28 (by decide) ?_
        exact (db_X18_loads_76 C K) (25196) s0 _ _ _ h hP hD hS (lv_sub hl [0] rfl)
    · have h := nd_neg h c2
      exact (db_X18_loads_16 C K)  s0 _ _ _ h hP hD hS (lv_sub hl [] rfl)
set_option maxHeartbeats 40000000 in
set_option maxRecDepth 100000 in
theorem dm_X18_loads (l : Launch) (hlt : l.stackTraces = false) (dC : Nat → ClassId) (dI : Nat → Nat → Nat) (a : Nat → Nat) (ac : Nat → ClassId) (n : Nat) (s0 : St) {r : St} (h : df_X18_loads n s0 = some r) (sz : Nat) : Met l yX18_loads ow_dm_X18_loads ({ frames := 5, cells := 0, slots := 0, locals := 111 }) (va_Pc [.ref (a 0)] (fun U => U.heap.size = sz ∧ va_P (dC, dI) vwCl (dw_X18 a ac s0) U.heap ∧ va_K (dC, dI) vwCl (dk_X18 ac) U ∧ va_D (fun _ => True) (dw_X18 a ac s0) ∧ nv_E dI (va_A (dw_X18 a ac s0) sz) U)) (va_Qv (fun _ => True) (fun (_ : Unit) t => va_P (dC, dI) vwCl (dw_X18 a ac r) t.heap ∧ va_K (dC, dI) vwCl (dk_X18 ac) t ∧ va_D (va_A (dw_X18 a ac s0) sz) (dw_X18 a ac r)) (va_A (dw_X18 a ac s0) sz)) 0 0 (va_A (dw_X18 a ac s0) sz) := by
  refine Met.ofW (cc := cX18_loads) (maxL := 1) (ret := none) (by decide) rfl ?_
  intro p e s m args below meth c s₁ B hml hv
  obtain ⟨rfl, hsz, hP, hK, hD0, hN⟩ := hv
  have hx := B.exec
  have hb := B.bytes
  have hr := B.returns
  have hts := atoms_spec (ws := ow_dm_X18_loads) B.pre
  have hown : s.vm.findClass RX18 = some m.cls := findClass_of_methodNamed B.named
  have hlocks := B.notSynchronized
  subst hsz
  have hD := hD0.self (sz := s.heap.size)
  generalize hAe : va_A (dw_X18 a ac s0) s.heap.size = A at hD hN ⊢
  have hA : ∀ q : Nat, s.heap.size ≤ q → A q := fun q h => by rw [← hAe]; exact Or.inr h
  have hl := lv_entry ([.ref (a 0)]) (n := 1) (Nat.le_of_ble_eq_true rfl)
  rw [lg_entry_eq]
  generalize (lg_sl ([.ref (a 0)]) ++ List.replicate (1 - (lg_sl ([.ref (a 0)])).length) Slot.unset).toArray = ls at hl ⊢
  have hl : lv_has ls 1 [(0, .ref (a 0))] := hl
  exact db_X18_loads_0 (dC := dC) (dI := dI) (a := a) (ac := ac) (n := n) (r := r) ⟨hlt, hx, hb, hml, hown, hts, hN, hA, hK⟩ (fun pc τ H locs ls d er hP hD hS => by subst er; exact W.vret hx hb hr (fun t ht hW => ⟨⟨(), rfl, trivial, by rw [ht]; exact hP, va_K.moved hW.alike hK, hD⟩, hS.F ht⟩) hS.2.2 d) s0 _ _ _ h hP hD va_S.rf (lv_sub hl [0] rfl)
def ow_dm_X18_stores : List Cond := Cond.code yX18_stores cX18_stores 1 none :: ([Cond.fieldLink RX18 80 "TimeMachineModel$Reader" "f" "I", Cond.constantLong RX18 158 (30579), Cond.methodLink RX18 65 yX18_name, Cond.instanceMethod yX18_name, Cond.selects RX18 yX18_name yX18_name, Cond.initialized RX18, Cond.fieldLink RX18 77 "TimeMachineModel$Reader" "b" "I", Cond.methodLink RX18 71 yX18_register, Cond.instanceMethod yX18_register, Cond.selects RX18 yX18_register yX18_register, Cond.fieldLink RX18 20 "TimeMachineModel$Reader" "bits" "I", Cond.fieldLink RX18 68 "TimeMachineModel$Reader" "d" "I", Cond.fieldLink RX18 74 "TimeMachineModel$Reader" "a" "I", Cond.methodLink RX18 150 yX18_memory, Cond.instanceMethod yX18_memory, Cond.selects RX18 yX18_memory yX18_memory, Cond.constantLong RX18 156 (26739), Cond.constantLong RX18 154 (25203)] ++ (u_ws RX18 TX18 10 ++ (ow_dm_X18_name ++ (ow_dm_X18_register ++ (ow_dm_X18_memory ++ [])))))
theorem gd_dm_X18_stores : ∀ w ∈ ow_dm_X18_stores, (w.onTables && w.keeps) = true ∨ ∃ ty, w = Cond.arrayClass ty := List.forall_mem_cons.mpr ⟨good_of_word rfl, List.forall_mem_append.mpr ⟨fun w h => good_of_word (List.all_eq_true.mp (by decide +kernel) w h), List.forall_mem_append.mpr ⟨gu_X18, List.forall_mem_append.mpr ⟨gd_dm_X18_name, List.forall_mem_append.mpr ⟨gd_dm_X18_register, List.forall_mem_append.mpr ⟨gd_dm_X18_memory, fun _ h => nomatch h⟩⟩⟩⟩⟩⟩
theorem hi_dm_X18_stores_X18 : ∀ w ∈ u_ws RX18 TX18 10, w ∈ ow_dm_X18_stores := fun w h => List.mem_cons_of_mem _ (List.mem_append_right _ (List.mem_append_left _ h))
theorem gi_dm_X18_stores_0 : GoodIn ow_dm_X18_stores (wsV RX18 65 RX18 yX18_name ow_dm_X18_name) := goodIn_app (goodIn_of _ (by decide +kernel)) (fun w h => ⟨List.mem_cons_of_mem _ (List.mem_append_right _ (List.mem_append_right _ (List.mem_append_left _ h))), gd_dm_X18_name w h⟩)
theorem gi_dm_X18_stores_1 : GoodIn ow_dm_X18_stores (wsV RX18 71 RX18 yX18_register ow_dm_X18_register) := goodIn_app (goodIn_of _ (by decide +kernel)) (fun w h => ⟨List.mem_cons_of_mem _ (List.mem_append_right _ (List.mem_append_right _ (List.mem_append_right _ (List.mem_append_left _ h)))), gd_dm_X18_register w h⟩)
theorem gi_dm_X18_stores_2 : GoodIn ow_dm_X18_stores (wsV RX18 150 RX18 yX18_memory ow_dm_X18_memory) := goodIn_app (goodIn_of _ (by decide +kernel)) (fun w h => ⟨List.mem_cons_of_mem _ (List.mem_append_right _ (List.mem_append_right _ (List.mem_append_right _ (List.mem_append_right _ (List.mem_append_left _ h))))), gd_dm_X18_memory w h⟩)
def dj_X18_stores_40 (p : Program) (l : Launch) (e : Env) (s : State) (m : MethodId) (args : Array Value) (below : List Frame) (meth : Method) (c : Code) (Q : State → Prop) (A : Nat → Prop) (dC : Nat → ClassId) (dI : Nat → Nat → Nat) (a : Nat → Nat) (ac : Nat → ClassId) (g : Int64 → (St) → Option (St)) (r : St) : Prop := ∀ (y1 : Int64) (s0 : St) (H : Heap) (locs : List Loc) (ls : Array Slot), g y1 s0 = some r → va_P (dC, dI) vwCl (dw_X18 a ac s0) H → va_D A (dw_X18 a ac s0) → va_S A s.heap H locs → lv_has ls 1 [(0, .ref (a 0))] → W p l e (headSpec ow_dm_X18_stores ({ frames := 5, cells := 0, slots := 0, locals := 111 })).room s m args below meth c H locs 0 0 Q (F0 m 40 ls [.long y1, .ref (a 0)])
def dj_X18_stores_0 (p : Program) (l : Launch) (e : Env) (s : State) (m : MethodId) (args : Array Value) (below : List Frame) (meth : Method) (c : Code) (Q : State → Prop) (A : Nat → Prop) (dC : Nat → ClassId) (dI : Nat → Nat → Nat) (a : Nat → Nat) (ac : Nat → ClassId) (g : (St) → Option (St)) (r : St) : Prop := ∀ (s0 : St) (H : Heap) (locs : List Loc) (ls : Array Slot), g s0 = some r → va_P (dC, dI) vwCl (dw_X18 a ac s0) H → va_D A (dw_X18 a ac s0) → va_S A s.heap H locs → lv_has ls 1 [(0, .ref (a 0))] → W p l e (headSpec ow_dm_X18_stores ({ frames := 5, cells := 0, slots := 0, locals := 111 })).room s m args below meth c H locs 0 0 Q (F0 m 0 ls [])
set_option maxHeartbeats 40000000 in
set_option maxRecDepth 100000 in
theorem db_X18_stores_40 {p : Program} {l : Launch} {e : Env} {s : State} {m : MethodId} {args : Array Value} {below : List Frame} {meth : Method} {c : Code} {Q : State → Prop} {A : Nat → Prop} {dC : Nat → ClassId} {dI : Nat → Nat → Nat} {a : Nat → Nat} {ac : Nat → ClassId} {n : Nat} {r : St} (C : nd_C p l s m args c A (dC, dI) cX18_stores 1 RX18 ow_dm_X18_stores (dk_X18 ac)) (K : nd_Kv p l e (headSpec ow_dm_X18_stores ({ frames := 5, cells := 0, slots := 0, locals := 111 })).room s m args below meth c Q A (dC, dI) cX18_stores (St) (dw_X18 a ac) r) : dj_X18_stores_40 p l e s m args below meth c Q A dC dI a ac (df_X18_stores_40 n) r := by
  obtain ⟨hlt, hx, hb, hml, hown, hts, hN, hA, hK⟩ := id C
  intro y1 s0 H locs ls h hP hD hS hl
  unfold df_X18_stores_40 at h
  obtain ⟨s5, hq, h⟩ := nd_b1_e h
  have hPc := hP
  have hDc := hD
  have hKc := hK
  have hFc := nd_rs hD hS hA
  refine nd_cVv (As := [.long y1]) (rest := []) (w' := dw_X18 a ac s5) ⟨hx, hb, hml, hown, hts⟩ (fun sz => dm_X18_name l hlt dC dI a ac n (y1) s0 hq sz) (cwV 1 hts gi_dm_X18_stores_0 rfl rfl rfl (by decide +kernel) ⟨Nat.le_of_ble_eq_true rfl, Nat.le_of_ble_eq_true rfl⟩) hPc hDc hKc hS hA hN (va_recv hKc hPc (ci := 19) (q0 := 0) rfl rfl) rfl hl.1 rfl (Nat.le_of_ble_eq_true rfl) dX18_stores_40 (fun H locs hP1 hD1 hk1 hS => ?_)
  have hP := hP1
  have hD := hD1.weaken (fun k q _ h => hFc q.1 h)
  refine lv_aload_n hx hb dX18_stores_43 rfl (lv_at hl 0 rfl) ?_
  refine lv_aload_n hx hb dX18_stores_44 rfl (lv_at hl 0 rfl) ?_
  refine va_get (D := (dC, dI)) (ci := 19) (v := .int (sI s5 6)) (C := RX18) (T := TX18) (N := 10) hx hb hts hi_dm_X18_stores_X18 hown hK hP 0 rfl rfl 7 (by decide) (hts (.fieldLink RX18 77 "TimeMachineModel$Reader" "b" "I") (List.mem_of_getElem? (i := 7) rfl)) (fun _ h9 => h9) rfl dX18_stores_45 ?_
  obtain ⟨s8, hq, h⟩ := nd_b1_e h
  have hPc := hP
  have hDc := hD
  have hKc := hK
  have hFc := nd_rs hD hS hA
  refine nd_cVv (As := [.int (sI s5 6)]) (rest := []) (w' := dw_X18 a ac s8) ⟨hx, hb, hml, hown, hts⟩ (fun sz => dm_X18_register l hlt dC dI a ac n ((sI s5 6)) s5 hq sz) (cwV 1 hts gi_dm_X18_stores_1 rfl rfl rfl (by decide +kernel) ⟨Nat.le_of_ble_eq_true rfl, Nat.le_of_ble_eq_true rfl⟩) hPc hDc hKc hS hA hN (va_recv hKc hPc (ci := 19) (q0 := 0) rfl rfl) rfl hl.1 rfl (Nat.le_of_ble_eq_true rfl) dX18_stores_48 (fun H locs hP1 hD1 hk1 hS => ?_)
  have hP := hP1
  have hD := hD1.weaken (fun k q _ h => hFc q.1 h)
  refine lv_aload_n hx hb dX18_stores_51 rfl (lv_at hl 0 rfl) ?_
  refine lv_aload_n hx hb dX18_stores_52 rfl (lv_at hl 0 rfl) ?_
  refine va_get (D := (dC, dI)) (ci := 19) (v := .int (sI s8 3)) (C := RX18) (T := TX18) (N := 10) hx hb hts hi_dm_X18_stores_X18 hown hK hP 0 rfl rfl 4 (by decide) (hts (.fieldLink RX18 20 "TimeMachineModel$Reader" "bits" "I") (List.mem_of_getElem? (i := 11) rfl)) (fun _ h9 => h9) rfl dX18_stores_53 ?_
  refine lv_bipush (v := 25) hx hb dX18_stores_56 (by decide) ?_
  refine lv_ishr hx hb dX18_stores_58 ?_
  refine lv_iconst (v := 5) hx hb dX18_stores_59 (by decide) ?_
  refine lv_ishl hx hb dX18_stores_60 ?_
  refine lv_aload_n hx hb dX18_stores_61 rfl (lv_at hl 0 rfl) ?_
  refine va_get (D := (dC, dI)) (ci := 19) (v := .int (sI s8 4)) (C := RX18) (T := TX18) (N := 10) hx hb hts hi_dm_X18_stores_X18 hown hK hP 0 rfl rfl 5 (by decide) (hts (.fieldLink RX18 68 "TimeMachineModel$Reader" "d" "I") (List.mem_of_getElem? (i := 12) rfl)) (fun _ h9 => h9) rfl dX18_stores_62 ?_
  refine lv_ior hx hb dX18_stores_65 ?_
  refine lv_aload_n hx hb dX18_stores_66 rfl (lv_at hl 0 rfl) ?_
  refine va_get (D := (dC, dI)) (ci := 19) (v := .int (sI s8 5)) (C := RX18) (T := TX18) (N := 10) hx hb hts hi_dm_X18_stores_X18 hown hK hP 0 rfl rfl 6 (by decide) (hts (.fieldLink RX18 74 "TimeMachineModel$Reader" "a" "I") (List.mem_of_getElem? (i := 13) rfl)) (fun _ h9 => h9) rfl dX18_stores_67 ?_
  obtain ⟨s11, hq, h⟩ := nd_b1_e h
  have hPc := hP
  have hDc := hD
  have hKc := hK
  have hFc := nd_rs hD hS hA
  refine nd_cVv (As := [.int ((((((sI s8 3) : Int32) >>> ((25 : Int32) &&& 31)) : Int32) <<< ((5 : Int32) &&& 31)) ||| (sI s8 4)), .int (sI s8 5)]) (rest := []) (w' := dw_X18 a ac s11) ⟨hx, hb, hml, hown, hts⟩ (fun sz => dm_X18_memory l hlt dC dI a ac n (((((((sI s8 3) : Int32) >>> ((25 : Int32) &&& 31)) : Int32) <<< ((5 : Int32) &&& 31)) ||| (sI s8 4))) ((sI s8 5)) s8 hq sz) (cwV 2 hts gi_dm_X18_stores_2 rfl rfl rfl (by decide +kernel) ⟨Nat.le_of_ble_eq_true rfl, Nat.le_of_ble_eq_true rfl⟩) hPc hDc hKc hS hA hN (va_recv hKc hPc (ci := 19) (q0 := 0) rfl rfl) rfl hl.1 rfl (Nat.le_of_ble_eq_true rfl) dX18_stores_70 (fun H locs hP1 hD1 hk1 hS => ?_)
  have hP := hP1
  have hD := hD1.weaken (fun k q _ h => hFc q.1 h)
  exact K _ _ _ _ _ dX18_stores_73 (Option.some.inj h).symm hP hD hS
set_option maxHeartbeats 40000000 in
set_option maxRecDepth 100000 in
theorem db_X18_stores_0 {p : Program} {l : Launch} {e : Env} {s : State} {m : MethodId} {args : Array Value} {below : List Frame} {meth : Method} {c : Code} {Q : State → Prop} {A : Nat → Prop} {dC : Nat → ClassId} {dI : Nat → Nat → Nat} {a : Nat → Nat} {ac : Nat → ClassId} {n : Nat} {r : St} (C : nd_C p l s m args c A (dC, dI) cX18_stores 1 RX18 ow_dm_X18_stores (dk_X18 ac)) (K : nd_Kv p l e (headSpec ow_dm_X18_stores ({ frames := 5, cells := 0, slots := 0, locals := 111 })).room s m args below meth c Q A (dC, dI) cX18_stores (St) (dw_X18 a ac) r) : dj_X18_stores_0 p l e s m args below meth c Q A dC dI a ac (df_X18_stores_0 n) r := by
  obtain ⟨hlt, hx, hb, hml, hown, hts, hN, hA, hK⟩ := id C
  intro s0 H locs ls h hP hD hS hl
  unfold df_X18_stores_0 at h
  refine lv_aload_n hx hb dX18_stores_0 rfl (lv_at hl 0 rfl) ?_
  refine va_get (D := (dC, dI)) (ci := 19) (v := .int (sI s0 7)) (C := RX18) (T := TX18) (N := 10) hx hb hts hi_dm_X18_stores_X18 hown hK hP 0 rfl rfl 8 (by decide) (hts (.fieldLink RX18 80 "TimeMachineModel$Reader" "f" "I") (List.mem_of_getElem? (i := 1) rfl)) (fun _ h9 => h9) rfl dX18_stores_1 ?_
  refine lv_iconst (v := 2) hx hb dX18_stores_4 (by decide) ?_
  refine lv_icmp_le (tgt := 9) hx hb dX18_stores_5 (by decide) (fun c1 => ?_) (fun c1 => ?_)
  · have h := nd_pos h c1
    refine lv_aload_n hx hb dX18_stores_9 rfl (lv_at hl 0 rfl) ?_
    refine lv_aload_n hx hb dX18_stores_10 rfl (lv_at hl 0 rfl) ?_
    refine va_get (D := (dC, dI)) (ci := 19) (v := .int (sI s0 7)) (C := RX18) (T := TX18) (N := 10) hx hb hts hi_dm_X18_stores_X18 hown hK hP 0 rfl rfl 8 (by decide) (hts (.fieldLink RX18 80 "TimeMachineModel$Reader" "f" "I") (List.mem_of_getElem? (i := 1) rfl)) (fun _ h9 => h9) rfl dX18_stores_11 ?_
    refine lv_if_ne (tgt := 23) hx hb dX18_stores_14 (by decide) (fun c2 => ?_) (fun c2 => ?_)
    · have h := nd_neg h c2
      refine lv_aload_n hx hb dX18_stores_23 rfl (lv_at hl 0 rfl) ?_
      refine va_get (D := (dC, dI)) (ci := 19) (v := .int (sI s0 7)) (C := RX18) (T := TX18) (N := 10) hx hb hts hi_dm_X18_stores_X18 hown hK hP 0 rfl rfl 8 (by decide) (hts (.fieldLink RX18 80 "TimeMachineModel$Reader" "f" "I") (List.mem_of_getElem? (i := 1) rfl)) (fun _ h9 => h9) rfl dX18_stores_24 ?_
      refine lv_iconst (v := 1) hx hb dX18_stores_27 (by decide) ?_
      refine lv_icmp_ne (tgt := 37) hx hb dX18_stores_28 (by decide) (fun c3 => ?_) (fun c3 => ?_)
      · have h := nd_neg h c3
        refine lv_ldc2 hx hb hown (hts (.constantLong RX18 158 (30579)) (List.mem_of_getElem? (i := 2) rfl)) dX18_stores_37 ?_
        exact (db_X18_stores_40 C K) (30579) s0 _ _ _ h hP hD hS (lv_sub hl [0] rfl)
      · have h := nd_pos h c3
        refine lv_ldc2 hx hb hown (hts (.constantLong RX18 156 (26739)) (List.mem_of_getElem? (i := 17) rfl)) dX18_stores_31 ?_
        refine lv_goto (tgt := 40) hx hb dX18_stores_34 (by decide) ?_
        exact (db_X18_stores_40 C K) (26739) s0 _ _ _ h hP hD hS (lv_sub hl [0] rfl)
    · have h := nd_pos h c2
      refine lv_ldc2 hx hb hown (hts (.constantLong RX18 154 (25203)) (List.mem_of_getElem? (i := 18) rfl)) dX18_stores_17 ?_
      refine lv_goto (tgt := 40) hx hb dX18_stores_20 (by decide) ?_
      exact (db_X18_stores_40 C K) (25203) s0 _ _ _ h hP hD hS (lv_sub hl [0] rfl)
  · have h := nd_neg h c1
    exact K _ _ _ _ _ dX18_stores_8 (Option.some.inj h).symm hP hD hS
set_option maxHeartbeats 40000000 in
set_option maxRecDepth 100000 in
theorem dm_X18_stores (l : Launch) (hlt : l.stackTraces = false) (dC : Nat → ClassId) (dI : Nat → Nat → Nat) (a : Nat → Nat) (ac : Nat → ClassId) (n : Nat) (s0 : St) {r : St} (h : df_X18_stores n s0 = some r) (sz : Nat) : Met l yX18_stores ow_dm_X18_stores ({ frames := 5, cells := 0, slots := 0, locals := 111 }) (va_Pc [.ref (a 0)] (fun U => U.heap.size = sz ∧ va_P (dC, dI) vwCl (dw_X18 a ac s0) U.heap ∧ va_K (dC, dI) vwCl (dk_X18 ac) U ∧ va_D (fun _ => True) (dw_X18 a ac s0) ∧ nv_E dI (va_A (dw_X18 a ac s0) sz) U)) (va_Qv (fun _ => True) (fun (_ : Unit) t => va_P (dC, dI) vwCl (dw_X18 a ac r) t.heap ∧ va_K (dC, dI) vwCl (dk_X18 ac) t ∧ va_D (va_A (dw_X18 a ac s0) sz) (dw_X18 a ac r)) (va_A (dw_X18 a ac s0) sz)) 0 0 (va_A (dw_X18 a ac s0) sz) := by
  refine Met.ofW (cc := cX18_stores) (maxL := 1) (ret := none) (by decide) rfl ?_
  intro p e s m args below meth c s₁ B hml hv
  obtain ⟨rfl, hsz, hP, hK, hD0, hN⟩ := hv
  have hx := B.exec
  have hb := B.bytes
  have hr := B.returns
  have hts := atoms_spec (ws := ow_dm_X18_stores) B.pre
  have hown : s.vm.findClass RX18 = some m.cls := findClass_of_methodNamed B.named
  have hlocks := B.notSynchronized
  subst hsz
  have hD := hD0.self (sz := s.heap.size)
  generalize hAe : va_A (dw_X18 a ac s0) s.heap.size = A at hD hN ⊢
  have hA : ∀ q : Nat, s.heap.size ≤ q → A q := fun q h => by rw [← hAe]; exact Or.inr h
  have hl := lv_entry ([.ref (a 0)]) (n := 1) (Nat.le_of_ble_eq_true rfl)
  rw [lg_entry_eq]
  generalize (lg_sl ([.ref (a 0)]) ++ List.replicate (1 - (lg_sl ([.ref (a 0)])).length) Slot.unset).toArray = ls at hl ⊢
  have hl : lv_has ls 1 [(0, .ref (a 0))] := hl
  exact db_X18_stores_0 (dC := dC) (dI := dI) (a := a) (ac := ac) (n := n) (r := r) ⟨hlt, hx, hb, hml, hown, hts, hN, hA, hK⟩ (fun pc τ H locs ls d er hP hD hS => by subst er; exact W.vret hx hb hr (fun t ht hW => ⟨⟨(), rfl, trivial, by rw [ht]; exact hP, va_K.moved hW.alike hK, hD⟩, hS.F ht⟩) hS.2.2 d) s0 _ _ _ h hP hD va_S.rf (lv_sub hl [0] rfl)
def ow_dm_X18_branches : List Cond := Cond.code yX18_branches cX18_branches 1 none :: ([Cond.fieldLink RX18 80 "TimeMachineModel$Reader" "f" "I", Cond.constantLong RX18 170 (1969579874), Cond.methodLink RX18 65 yX18_name, Cond.instanceMethod yX18_name, Cond.selects RX18 yX18_name yX18_name, Cond.initialized RX18, Cond.fieldLink RX18 74 "TimeMachineModel$Reader" "a" "I", Cond.methodLink RX18 71 yX18_register, Cond.instanceMethod yX18_register, Cond.selects RX18 yX18_register yX18_register, Cond.fieldLink RX18 77 "TimeMachineModel$Reader" "b" "I", Cond.fieldLink RX18 20 "TimeMachineModel$Reader" "bits" "I", Cond.methodLink RX18 172 yX18_part, Cond.instanceMethod yX18_part, Cond.selects RX18 yX18_part yX18_part, Cond.methodLink RX18 176 yX18_target, Cond.instanceMethod yX18_target, Cond.selects RX18 yX18_target yX18_target, Cond.constantLong RX18 168 (1970564194), Cond.constantLong RX18 166 (6645602), Cond.constantLong RX18 164 (7629922), Cond.constantLong RX18 162 (6647394), Cond.constantLong RX18 160 (7431522)] ++ (u_ws RX18 TX18 10 ++ (ow_dm_X18_name ++ (ow_dm_X18_register ++ (ow_dm_X18_part ++ (ow_dm_X18_target ++ []))))))
theorem gd_dm_X18_branches : ∀ w ∈ ow_dm_X18_branches, (w.onTables && w.keeps) = true ∨ ∃ ty, w = Cond.arrayClass ty := List.forall_mem_cons.mpr ⟨good_of_word rfl, List.forall_mem_append.mpr ⟨fun w h => good_of_word (List.all_eq_true.mp (by decide +kernel) w h), List.forall_mem_append.mpr ⟨gu_X18, List.forall_mem_append.mpr ⟨gd_dm_X18_name, List.forall_mem_append.mpr ⟨gd_dm_X18_register, List.forall_mem_append.mpr ⟨gd_dm_X18_part, List.forall_mem_append.mpr ⟨gd_dm_X18_target, fun _ h => nomatch h⟩⟩⟩⟩⟩⟩⟩
theorem hi_dm_X18_branches_X18 : ∀ w ∈ u_ws RX18 TX18 10, w ∈ ow_dm_X18_branches := fun w h => List.mem_cons_of_mem _ (List.mem_append_right _ (List.mem_append_left _ h))
theorem gi_dm_X18_branches_0 : GoodIn ow_dm_X18_branches (wsV RX18 65 RX18 yX18_name ow_dm_X18_name) := goodIn_app (goodIn_of _ (by decide +kernel)) (fun w h => ⟨List.mem_cons_of_mem _ (List.mem_append_right _ (List.mem_append_right _ (List.mem_append_left _ h))), gd_dm_X18_name w h⟩)
theorem gi_dm_X18_branches_1 : GoodIn ow_dm_X18_branches (wsV RX18 71 RX18 yX18_register ow_dm_X18_register) := goodIn_app (goodIn_of _ (by decide +kernel)) (fun w h => ⟨List.mem_cons_of_mem _ (List.mem_append_right _ (List.mem_append_right _ (List.mem_append_right _ (List.mem_append_left _ h)))), gd_dm_X18_register w h⟩)
theorem gi_dm_X18_branches_2 : GoodIn ow_dm_X18_branches (wsV RX18 172 RX18 yX18_part ow_dm_X18_part) := goodIn_app (goodIn_of _ (by decide +kernel)) (fun w h => ⟨List.mem_cons_of_mem _ (List.mem_append_right _ (List.mem_append_right _ (List.mem_append_right _ (List.mem_append_right _ (List.mem_append_left _ h))))), gd_dm_X18_part w h⟩)
theorem gi_dm_X18_branches_3 : GoodIn ow_dm_X18_branches (wsV RX18 176 RX18 yX18_target ow_dm_X18_target) := goodIn_app (goodIn_of _ (by decide +kernel)) (fun w h => ⟨List.mem_cons_of_mem _ (List.mem_append_right _ (List.mem_append_right _ (List.mem_append_right _ (List.mem_append_right _ (List.mem_append_right _ (List.mem_append_left _ h)))))), gd_dm_X18_target w h⟩)
def dj_X18_branches_16 (p : Program) (l : Launch) (e : Env) (s : State) (m : MethodId) (args : Array Value) (below : List Frame) (meth : Method) (c : Code) (Q : State → Prop) (A : Nat → Prop) (dC : Nat → ClassId) (dI : Nat → Nat → Nat) (a : Nat → Nat) (ac : Nat → ClassId) (g : (St) → Option (St)) (r : St) : Prop := ∀ (s0 : St) (H : Heap) (locs : List Loc) (ls : Array Slot), g s0 = some r → va_P (dC, dI) vwCl (dw_X18 a ac s0) H → va_D A (dw_X18 a ac s0) → va_S A s.heap H locs → lv_has ls 1 [] → W p l e (headSpec ow_dm_X18_branches ({ frames := 4, cells := 0, slots := 0, locals := 89 })).room s m args below meth c H locs 0 0 Q (F0 m 16 ls [])
def dj_X18_branches_91 (p : Program) (l : Launch) (e : Env) (s : State) (m : MethodId) (args : Array Value) (below : List Frame) (meth : Method) (c : Code) (Q : State → Prop) (A : Nat → Prop) (dC : Nat → ClassId) (dI : Nat → Nat → Nat) (a : Nat → Nat) (ac : Nat → ClassId) (g : Int64 → (St) → Option (St)) (r : St) : Prop := ∀ (y1 : Int64) (s0 : St) (H : Heap) (locs : List Loc) (ls : Array Slot), g y1 s0 = some r → va_P (dC, dI) vwCl (dw_X18 a ac s0) H → va_D A (dw_X18 a ac s0) → va_S A s.heap H locs → lv_has ls 1 [(0, .ref (a 0))] → W p l e (headSpec ow_dm_X18_branches ({ frames := 4, cells := 0, slots := 0, locals := 89 })).room s m args below meth c H locs 0 0 Q (F0 m 91 ls [.long y1, .ref (a 0)])
def dj_X18_branches_0 (p : Program) (l : Launch) (e : Env) (s : State) (m : MethodId) (args : Array Value) (below : List Frame) (meth : Method) (c : Code) (Q : State → Prop) (A : Nat → Prop) (dC : Nat → ClassId) (dI : Nat → Nat → Nat) (a : Nat → Nat) (ac : Nat → ClassId) (g : (St) → Option (St)) (r : St) : Prop := ∀ (s0 : St) (H : Heap) (locs : List Loc) (ls : Array Slot), g s0 = some r → va_P (dC, dI) vwCl (dw_X18 a ac s0) H → va_D A (dw_X18 a ac s0) → va_S A s.heap H locs → lv_has ls 1 [(0, .ref (a 0))] → W p l e (headSpec ow_dm_X18_branches ({ frames := 4, cells := 0, slots := 0, locals := 89 })).room s m args below meth c H locs 0 0 Q (F0 m 0 ls [])
set_option maxHeartbeats 40000000 in
set_option maxRecDepth 100000 in
theorem db_X18_branches_16 {p : Program} {l : Launch} {e : Env} {s : State} {m : MethodId} {args : Array Value} {below : List Frame} {meth : Method} {c : Code} {Q : State → Prop} {A : Nat → Prop} {dC : Nat → ClassId} {dI : Nat → Nat → Nat} {a : Nat → Nat} {ac : Nat → ClassId} {n : Nat} {r : St} (C : nd_C p l s m args c A (dC, dI) cX18_branches 1 RX18 ow_dm_X18_branches (dk_X18 ac)) (K : nd_Kv p l e (headSpec ow_dm_X18_branches ({ frames := 4, cells := 0, slots := 0, locals := 89 })).room s m args below meth c Q A (dC, dI) cX18_branches (St) (dw_X18 a ac) r) : dj_X18_branches_16 p l e s m args below meth c Q A dC dI a ac (df_X18_branches_16 n) r := by
  obtain ⟨hlt, hx, hb, hml, hown, hts, hN, hA, hK⟩ := id C
  intro s0 H locs ls h hP hD hS hl
  unfold df_X18_branches_16 at h
  exact K _ _ _ _ _ dX18_branches_16 (Option.some.inj h).symm hP hD hS
set_option maxHeartbeats 40000000 in
set_option maxRecDepth 100000 in
theorem db_X18_branches_91 {p : Program} {l : Launch} {e : Env} {s : State} {m : MethodId} {args : Array Value} {below : List Frame} {meth : Method} {c : Code} {Q : State → Prop} {A : Nat → Prop} {dC : Nat → ClassId} {dI : Nat → Nat → Nat} {a : Nat → Nat} {ac : Nat → ClassId} {n : Nat} {r : St} (C : nd_C p l s m args c A (dC, dI) cX18_branches 1 RX18 ow_dm_X18_branches (dk_X18 ac)) (K : nd_Kv p l e (headSpec ow_dm_X18_branches ({ frames := 4, cells := 0, slots := 0, locals := 89 })).room s m args below meth c Q A (dC, dI) cX18_branches (St) (dw_X18 a ac) r) : dj_X18_branches_91 p l e s m args below meth c Q A dC dI a ac (df_X18_branches_91 n) r := by
  obtain ⟨hlt, hx, hb, hml, hown, hts, hN, hA, hK⟩ := id C
  intro y1 s0 H locs ls h hP hD hS hl
  unfold df_X18_branches_91 at h
  obtain ⟨s9, hq, h⟩ := nd_b1_e h
  have hPc := hP
  have hDc := hD
  have hKc := hK
  have hFc := nd_rs hD hS hA
  refine nd_cVv (As := [.long y1]) (rest := []) (w' := dw_X18 a ac s9) ⟨hx, hb, hml, hown, hts⟩ (fun sz => dm_X18_name l hlt dC dI a ac n (y1) s0 hq sz) (cwV 1 hts gi_dm_X18_branches_0 rfl rfl rfl (by decide +kernel) ⟨Nat.le_of_ble_eq_true rfl, Nat.le_of_ble_eq_true rfl⟩) hPc hDc hKc hS hA hN (va_recv hKc hPc (ci := 19) (q0 := 0) rfl rfl) rfl hl.1 rfl (Nat.le_of_ble_eq_true rfl) dX18_branches_91 (fun H locs hP1 hD1 hk1 hS => ?_)
  have hP := hP1
  have hD := hD1.weaken (fun k q _ h => hFc q.1 h)
  refine lv_aload_n hx hb dX18_branches_94 rfl (lv_at hl 0 rfl) ?_
  refine lv_aload_n hx hb dX18_branches_95 rfl (lv_at hl 0 rfl) ?_
  refine va_get (D := (dC, dI)) (ci := 19) (v := .int (sI s9 5)) (C := RX18) (T := TX18) (N := 10) hx hb hts hi_dm_X18_branches_X18 hown hK hP 0 rfl rfl 6 (by decide) (hts (.fieldLink RX18 74 "TimeMachineModel$Reader" "a" "I") (List.mem_of_getElem? (i := 7) rfl)) (fun _ h9 => h9) rfl dX18_branches_96 ?_
  obtain ⟨s12, hq, h⟩ := nd_b1_e h
  have hPc := hP
  have hDc := hD
  have hKc := hK
  have hFc := nd_rs hD hS hA
  refine nd_cVv (As := [.int (sI s9 5)]) (rest := []) (w' := dw_X18 a ac s12) ⟨hx, hb, hml, hown, hts⟩ (fun sz => dm_X18_register l hlt dC dI a ac n ((sI s9 5)) s9 hq sz) (cwV 1 hts gi_dm_X18_branches_1 rfl rfl rfl (by decide +kernel) ⟨Nat.le_of_ble_eq_true rfl, Nat.le_of_ble_eq_true rfl⟩) hPc hDc hKc hS hA hN (va_recv hKc hPc (ci := 19) (q0 := 0) rfl rfl) rfl hl.1 rfl (Nat.le_of_ble_eq_true rfl) dX18_branches_99 (fun H locs hP1 hD1 hk1 hS => ?_)
  have hP := hP1
  have hD := hD1.weaken (fun k q _ h => hFc q.1 h)
  refine lv_aload_n hx hb dX18_branches_102 rfl (lv_at hl 0 rfl) ?_
  refine lv_aload_n hx hb dX18_branches_103 rfl (lv_at hl 0 rfl) ?_
  refine va_get (D := (dC, dI)) (ci := 19) (v := .int (sI s12 6)) (C := RX18) (T := TX18) (N := 10) hx hb hts hi_dm_X18_branches_X18 hown hK hP 0 rfl rfl 7 (by decide) (hts (.fieldLink RX18 77 "TimeMachineModel$Reader" "b" "I") (List.mem_of_getElem? (i := 11) rfl)) (fun _ h9 => h9) rfl dX18_branches_104 ?_
  obtain ⟨s15, hq, h⟩ := nd_b1_e h
  have hPc := hP
  have hDc := hD
  have hKc := hK
  have hFc := nd_rs hD hS hA
  refine nd_cVv (As := [.int (sI s12 6)]) (rest := []) (w' := dw_X18 a ac s15) ⟨hx, hb, hml, hown, hts⟩ (fun sz => dm_X18_register l hlt dC dI a ac n ((sI s12 6)) s12 hq sz) (cwV 1 hts gi_dm_X18_branches_1 rfl rfl rfl (by decide +kernel) ⟨Nat.le_of_ble_eq_true rfl, Nat.le_of_ble_eq_true rfl⟩) hPc hDc hKc hS hA hN (va_recv hKc hPc (ci := 19) (q0 := 0) rfl rfl) rfl hl.1 rfl (Nat.le_of_ble_eq_true rfl) dX18_branches_107 (fun H locs hP1 hD1 hk1 hS => ?_)
  have hP := hP1
  have hD := hD1.weaken (fun k q _ h => hFc q.1 h)
  refine lv_aload_n hx hb dX18_branches_110 rfl (lv_at hl 0 rfl) ?_
  refine lv_aload_n hx hb dX18_branches_111 rfl (lv_at hl 0 rfl) ?_
  refine va_get (D := (dC, dI)) (ci := 19) (v := .int (sI s15 3)) (C := RX18) (T := TX18) (N := 10) hx hb hts hi_dm_X18_branches_X18 hown hK hP 0 rfl rfl 4 (by decide) (hts (.fieldLink RX18 20 "TimeMachineModel$Reader" "bits" "I") (List.mem_of_getElem? (i := 12) rfl)) (fun _ h9 => h9) rfl dX18_branches_112 ?_
  refine lv_bipush (v := 31) hx hb dX18_branches_115 (by decide) ?_
  refine lv_ishr hx hb dX18_branches_117 ?_
  refine lv_bipush (v := 12) hx hb dX18_branches_118 (by decide) ?_
  refine lv_ishl hx hb dX18_branches_120 ?_
  refine lv_aload_n hx hb dX18_branches_121 rfl (lv_at hl 0 rfl) ?_
  refine lv_bipush (v := 7) hx hb dX18_branches_122 (by decide) ?_
  refine lv_iconst (v := 1) hx hb dX18_branches_124 (by decide) ?_
  obtain ⟨q17, s18, hq, h⟩ := nd_b2_e h
  have hPc := hP
  have hDc := hD
  have hKc := hK
  have hFc := nd_rs hD hS hA
  refine nd_cVi (As := [.int 7, .int 1]) (rest := [.int (((((sI s15 3) : Int32) >>> ((31 : Int32) &&& 31)) : Int32) <<< ((12 : Int32) &&& 31)), .ref (a 0)]) (q := q17) (w' := dw_X18 a ac s18) ⟨hx, hb, hml, hown, hts⟩ (fun sz => dm_X18_part l hlt dC dI a ac n (7) (1) s15 hq sz) (cwV 2 hts gi_dm_X18_branches_2 rfl rfl rfl (by decide +kernel) ⟨Nat.le_of_ble_eq_true rfl, Nat.le_of_ble_eq_true rfl⟩) hPc hDc hKc hS hA hN (va_recv hKc hPc (ci := 19) (q0 := 0) rfl rfl) rfl hl.1 rfl (Nat.le_of_ble_eq_true rfl) dX18_branches_125 (fun H locs hP1 hD1 hk1 hS => ?_)
  have hP := hP1
  have hD := hD1.weaken (fun k q _ h => hFc q.1 h)
  refine lv_bipush (v := 11) hx hb dX18_branches_128 (by decide) ?_
  refine lv_ishl hx hb dX18_branches_130 ?_
  refine lv_ior hx hb dX18_branches_131 ?_
  refine lv_aload_n hx hb dX18_branches_132 rfl (lv_at hl 0 rfl) ?_
  refine lv_bipush (v := 25) hx hb dX18_branches_133 (by decide) ?_
  refine lv_bipush (v := 6) hx hb dX18_branches_135 (by decide) ?_
  obtain ⟨q20, s21, hq, h⟩ := nd_b2_e h
  have hPc := hP
  have hDc := hD
  have hKc := hK
  have hFc := nd_rs hD hS hA
  refine nd_cVi (As := [.int 25, .int 6]) (rest := [.int ((((((sI s15 3) : Int32) >>> ((31 : Int32) &&& 31)) : Int32) <<< ((12 : Int32) &&& 31)) ||| ((q17 : Int32) <<< ((11 : Int32) &&& 31))), .ref (a 0)]) (q := q20) (w' := dw_X18 a ac s21) ⟨hx, hb, hml, hown, hts⟩ (fun sz => dm_X18_part l hlt dC dI a ac n (25) (6) s18 hq sz) (cwV 2 hts gi_dm_X18_branches_2 rfl rfl rfl (by decide +kernel) ⟨Nat.le_of_ble_eq_true rfl, Nat.le_of_ble_eq_true rfl⟩) hPc hDc hKc hS hA hN (va_recv hKc hPc (ci := 19) (q0 := 0) rfl rfl) rfl hl.1 rfl (Nat.le_of_ble_eq_true rfl) dX18_branches_137 (fun H locs hP1 hD1 hk1 hS => ?_)
  have hP := hP1
  have hD := hD1.weaken (fun k q _ h => hFc q.1 h)
  refine lv_iconst (v := 5) hx hb dX18_branches_140 (by decide) ?_
  refine lv_ishl hx hb dX18_branches_141 ?_
  refine lv_ior hx hb dX18_branches_142 ?_
  refine lv_aload_n hx hb dX18_branches_143 rfl (lv_at hl 0 rfl) ?_
  refine lv_bipush (v := 8) hx hb dX18_branches_144 (by decide) ?_
  refine lv_iconst (v := 4) hx hb dX18_branches_146 (by decide) ?_
  obtain ⟨q23, s24, hq, h⟩ := nd_b2_e h
  have hPc := hP
  have hDc := hD
  have hKc := hK
  have hFc := nd_rs hD hS hA
  refine nd_cVi (As := [.int 8, .int 4]) (rest := [.int (((((((sI s15 3) : Int32) >>> ((31 : Int32) &&& 31)) : Int32) <<< ((12 : Int32) &&& 31)) ||| ((q17 : Int32) <<< ((11 : Int32) &&& 31))) ||| ((q20 : Int32) <<< ((5 : Int32) &&& 31))), .ref (a 0)]) (q := q23) (w' := dw_X18 a ac s24) ⟨hx, hb, hml, hown, hts⟩ (fun sz => dm_X18_part l hlt dC dI a ac n (8) (4) s21 hq sz) (cwV 2 hts gi_dm_X18_branches_2 rfl rfl rfl (by decide +kernel) ⟨Nat.le_of_ble_eq_true rfl, Nat.le_of_ble_eq_true rfl⟩) hPc hDc hKc hS hA hN (va_recv hKc hPc (ci := 19) (q0 := 0) rfl rfl) rfl hl.1 rfl (Nat.le_of_ble_eq_true rfl) dX18_branches_147 (fun H locs hP1 hD1 hk1 hS => ?_)
  have hP := hP1
  have hD := hD1.weaken (fun k q _ h => hFc q.1 h)
  refine lv_iconst (v := 1) hx hb dX18_branches_150 (by decide) ?_
  refine lv_ishl hx hb dX18_branches_151 ?_
  refine lv_ior hx hb dX18_branches_152 ?_
  obtain ⟨s27, hq, h⟩ := nd_b1_e h
  have hPc := hP
  have hDc := hD
  have hKc := hK
  have hFc := nd_rs hD hS hA
  refine nd_cVv (As := [.int ((((((((sI s15 3) : Int32) >>> ((31 : Int32) &&& 31)) : Int32) <<< ((12 : Int32) &&& 31)) ||| ((q17 : Int32) <<< ((11 : Int32) &&& 31))) ||| ((q20 : Int32) <<< ((5 : Int32) &&& 31))) ||| ((q23 : Int32) <<< ((1 : Int32) &&& 31)))]) (rest := []) (w' := dw_X18 a ac s27) ⟨hx, hb, hml, hown, hts⟩ (fun sz => dm_X18_target l hlt dC dI a ac n (((((((((sI s15 3) : Int32) >>> ((31 : Int32) &&& 31)) : Int32) <<< ((12 : Int32) &&& 31)) ||| ((q17 : Int32) <<< ((11 : Int32) &&& 31))) ||| ((q20 : Int32) <<< ((5 : Int32) &&& 31))) ||| ((q23 : Int32) <<< ((1 : Int32) &&& 31)))) s24 hq sz) (cwV 1 hts gi_dm_X18_branches_3 rfl rfl rfl (by decide +kernel) ⟨Nat.le_of_ble_eq_true rfl, Nat.le_of_ble_eq_true rfl⟩) hPc hDc hKc hS hA hN (va_recv hKc hPc (ci := 19) (q0 := 0) rfl rfl) rfl hl.1 rfl (Nat.le_of_ble_eq_true rfl) dX18_branches_153 (fun H locs hP1 hD1 hk1 hS => ?_)
  have hP := hP1
  have hD := hD1.weaken (fun k q _ h => hFc q.1 h)
  exact K _ _ _ _ _ dX18_branches_156 (Option.some.inj h).symm hP hD hS
set_option maxHeartbeats 40000000 in
set_option maxRecDepth 100000 in
theorem db_X18_branches_0 {p : Program} {l : Launch} {e : Env} {s : State} {m : MethodId} {args : Array Value} {below : List Frame} {meth : Method} {c : Code} {Q : State → Prop} {A : Nat → Prop} {dC : Nat → ClassId} {dI : Nat → Nat → Nat} {a : Nat → Nat} {ac : Nat → ClassId} {n : Nat} {r : St} (C : nd_C p l s m args c A (dC, dI) cX18_branches 1 RX18 ow_dm_X18_branches (dk_X18 ac)) (K : nd_Kv p l e (headSpec ow_dm_X18_branches ({ frames := 4, cells := 0, slots := 0, locals := 89 })).room s m args below meth c Q A (dC, dI) cX18_branches (St) (dw_X18 a ac) r) : dj_X18_branches_0 p l e s m args below meth c Q A dC dI a ac (df_X18_branches_0 n) r := by
  obtain ⟨hlt, hx, hb, hml, hown, hts, hN, hA, hK⟩ := id C
  intro s0 H locs ls h hP hD hS hl
  unfold df_X18_branches_0 at h
  refine lv_aload_n hx hb dX18_branches_0 rfl (lv_at hl 0 rfl) ?_
  refine va_get (D := (dC, dI)) (ci := 19) (v := .int (sI s0 7)) (C := RX18) (T := TX18) (N := 10) hx hb hts hi_dm_X18_branches_X18 hown hK hP 0 rfl rfl 8 (by decide) (hts (.fieldLink RX18 80 "TimeMachineModel$Reader" "f" "I") (List.mem_of_getElem? (i := 1) rfl)) (fun _ h9 => h9) rfl dX18_branches_1 ?_
  refine lv_iconst (v := 2) hx hb dX18_branches_4 (by decide) ?_
  refine lv_icmp_eq (tgt := 16) hx hb dX18_branches_5 (by decide) (fun c1 => ?_) (fun c1 => ?_)
  · have h := nd_pos h c1
    exact (db_X18_branches_16 C K)  s0 _ _ _ h hP hD hS (lv_sub hl [] rfl)
  · have h := nd_neg h c1
    refine lv_aload_n hx hb dX18_branches_8 rfl (lv_at hl 0 rfl) ?_
    refine va_get (D := (dC, dI)) (ci := 19) (v := .int (sI s0 7)) (C := RX18) (T := TX18) (N := 10) hx hb hts hi_dm_X18_branches_X18 hown hK hP 0 rfl rfl 8 (by decide) (hts (.fieldLink RX18 80 "TimeMachineModel$Reader" "f" "I") (List.mem_of_getElem? (i := 1) rfl)) (fun _ h9 => h9) rfl dX18_branches_9 ?_
    refine lv_iconst (v := 3) hx hb dX18_branches_12 (by decide) ?_
    refine lv_icmp_ne (tgt := 17) hx hb dX18_branches_13 (by decide) (fun c2 => ?_) (fun c2 => ?_)
    · have h := nd_neg h c2
      refine lv_aload_n hx hb dX18_branches_17 rfl (lv_at hl 0 rfl) ?_
      refine lv_aload_n hx hb dX18_branches_18 rfl (lv_at hl 0 rfl) ?_
      refine va_get (D := (dC, dI)) (ci := 19) (v := .int (sI s0 7)) (C := RX18) (T := TX18) (N := 10) hx hb hts hi_dm_X18_branches_X18 hown hK hP 0 rfl rfl 8 (by decide) (hts (.fieldLink RX18 80 "TimeMachineModel$Reader" "f" "I") (List.mem_of_getElem? (i := 1) rfl)) (fun _ h9 => h9) rfl dX18_branches_19 ?_
      refine lv_if_ne (tgt := 31) hx hb dX18_branches_22 (by decide) (fun c3 => ?_) (fun c3 => ?_)
      · have h := nd_neg h c3
        refine lv_aload_n hx hb dX18_branches_31 rfl (lv_at hl 0 rfl) ?_
        refine va_get (D := (dC, dI)) (ci := 19) (v := .int (sI s0 7)) (C := RX18) (T := TX18) (N := 10) hx hb hts hi_dm_X18_branches_X18 hown hK hP 0 rfl rfl 8 (by decide) (hts (.fieldLink RX18 80 "TimeMachineModel$Reader" "f" "I") (List.mem_of_getElem? (i := 1) rfl)) (fun _ h9 => h9) rfl dX18_branches_32 ?_
        refine lv_iconst (v := 1) hx hb dX18_branches_35 (by decide) ?_
        refine lv_icmp_ne (tgt := 45) hx hb dX18_branches_36 (by decide) (fun c4 => ?_) (fun c4 => ?_)
        · have h := nd_neg h c4
          refine lv_aload_n hx hb dX18_branches_45 rfl (lv_at hl 0 rfl) ?_
          refine va_get (D := (dC, dI)) (ci := 19) (v := .int (sI s0 7)) (C := RX18) (T := TX18) (N := 10) hx hb hts hi_dm_X18_branches_X18 hown hK hP 0 rfl rfl 8 (by decide) (hts (.fieldLink RX18 80 "TimeMachineModel$Reader" "f" "I") (List.mem_of_getElem? (i := 1) rfl)) (fun _ h9 => h9) rfl dX18_branches_46 ?_
          refine lv_iconst (v := 4) hx hb dX18_branches_49 (by decide) ?_
          refine lv_icmp_ne (tgt := 59) hx hb dX18_branches_50 (by decide) (fun c5 => ?_) (fun c5 => ?_)
          · have h := nd_neg h c5
            refine lv_aload_n hx hb dX18_branches_59 rfl (lv_at hl 0 rfl) ?_
            refine va_get (D := (dC, dI)) (ci := 19) (v := .int (sI s0 7)) (C := RX18) (T := TX18) (N := 10) hx hb hts hi_dm_X18_branches_X18 hown hK hP 0 rfl rfl 8 (by decide) (hts (.fieldLink RX18 80 "TimeMachineModel$Reader" "f" "I") (List.mem_of_getElem? (i := 1) rfl)) (fun _ h9 => h9) rfl dX18_branches_60 ?_
            refine lv_iconst (v := 5) hx hb dX18_branches_63 (by decide) ?_
            refine lv_icmp_ne (tgt := 73) hx hb dX18_branches_64 (by decide) (fun c6 => ?_) (fun c6 => ?_)
            · have h := nd_neg h c6
              refine lv_aload_n hx hb dX18_branches_73 rfl (lv_at hl 0 rfl) ?_
              refine va_get (D := (dC, dI)) (ci := 19) (v := .int (sI s0 7)) (C := RX18) (T := TX18) (N := 10) hx hb hts hi_dm_X18_branches_X18 hown hK hP 0 rfl rfl 8 (by decide) (hts (.fieldLink RX18 80 "TimeMachineModel$Reader" "f" "I") (List.mem_of_getElem? (i := 1) rfl)) (fun _ h9 => h9) rfl dX18_branches_74 ?_
              refine lv_bipush (v := 6) hx hb dX18_branches_77 (by decide) ?_
              refine lv_icmp_ne (tgt := 88) hx hb dX18_branches_79 (by decide) (fun c7 => ?_) (fun c7 => ?_)
              · have h := nd_neg h c7
                refine lv_ldc2 hx hb hown (hts (.constantLong RX18 170 (1969579874)) (List.mem_of_getElem? (i := 2) rfl)) dX18_branches_88 ?_
                exact (db_X18_branches_91 C K) (1969579874) s0 _ _ _ h hP hD hS (lv_sub hl [0] rfl)
              · have h := nd_pos h c7
                refine lv_ldc2 hx hb hown (hts (.constantLong RX18 168 (1970564194)) (List.mem_of_getElem? (i := 19) rfl)) dX18_branches_82 ?_
                refine lv_goto (tgt := 91) hx hb dX18_branches_85 (by decide) ?_
                exact (db_X18_branches_91 C K) (1970564194) s0 _ _ _ h hP hD hS (lv_sub hl [0] rfl)
            · have h := nd_pos h c6
              refine lv_ldc2 hx hb hown (hts (.constantLong RX18 166 (6645602)) (List.mem_of_getElem? (i := 20) rfl)) dX18_branches_67 ?_
              refine lv_goto (tgt := 91) hx hb dX18_branches_70 (by decide) ?_
              exact (db_X18_branches_91 C K) (6645602) s0 _ _ _ h hP hD hS (lv_sub hl [0] rfl)
          · have h := nd_pos h c5
            refine lv_ldc2 hx hb hown (hts (.constantLong RX18 164 (7629922)) (List.mem_of_getElem? (i := 21) rfl)) dX18_branches_53 ?_
            refine lv_goto (tgt := 91) hx hb dX18_branches_56 (by decide) ?_
            exact (db_X18_branches_91 C K) (7629922) s0 _ _ _ h hP hD hS (lv_sub hl [0] rfl)
        · have h := nd_pos h c4
          refine lv_ldc2 hx hb hown (hts (.constantLong RX18 162 (6647394)) (List.mem_of_getElem? (i := 22) rfl)) dX18_branches_39 ?_
          refine lv_goto (tgt := 91) hx hb dX18_branches_42 (by decide) ?_
          exact (db_X18_branches_91 C K) (6647394) s0 _ _ _ h hP hD hS (lv_sub hl [0] rfl)
      · have h := nd_pos h c3
        refine lv_ldc2 hx hb hown (hts (.constantLong RX18 160 (7431522)) (List.mem_of_getElem? (i := 23) rfl)) dX18_branches_25 ?_
        refine lv_goto (tgt := 91) hx hb dX18_branches_28 (by decide) ?_
        exact (db_X18_branches_91 C K) (7431522) s0 _ _ _ h hP hD hS (lv_sub hl [0] rfl)
    · have h := nd_pos h c2
      exact (db_X18_branches_16 C K)  s0 _ _ _ h hP hD hS (lv_sub hl [] rfl)
set_option maxHeartbeats 40000000 in
set_option maxRecDepth 100000 in
theorem dm_X18_branches (l : Launch) (hlt : l.stackTraces = false) (dC : Nat → ClassId) (dI : Nat → Nat → Nat) (a : Nat → Nat) (ac : Nat → ClassId) (n : Nat) (s0 : St) {r : St} (h : df_X18_branches n s0 = some r) (sz : Nat) : Met l yX18_branches ow_dm_X18_branches ({ frames := 4, cells := 0, slots := 0, locals := 89 }) (va_Pc [.ref (a 0)] (fun U => U.heap.size = sz ∧ va_P (dC, dI) vwCl (dw_X18 a ac s0) U.heap ∧ va_K (dC, dI) vwCl (dk_X18 ac) U ∧ va_D (fun _ => True) (dw_X18 a ac s0) ∧ nv_E dI (va_A (dw_X18 a ac s0) sz) U)) (va_Qv (fun _ => True) (fun (_ : Unit) t => va_P (dC, dI) vwCl (dw_X18 a ac r) t.heap ∧ va_K (dC, dI) vwCl (dk_X18 ac) t ∧ va_D (va_A (dw_X18 a ac s0) sz) (dw_X18 a ac r)) (va_A (dw_X18 a ac s0) sz)) 0 0 (va_A (dw_X18 a ac s0) sz) := by
  refine Met.ofW (cc := cX18_branches) (maxL := 1) (ret := none) (by decide) rfl ?_
  intro p e s m args below meth c s₁ B hml hv
  obtain ⟨rfl, hsz, hP, hK, hD0, hN⟩ := hv
  have hx := B.exec
  have hb := B.bytes
  have hr := B.returns
  have hts := atoms_spec (ws := ow_dm_X18_branches) B.pre
  have hown : s.vm.findClass RX18 = some m.cls := findClass_of_methodNamed B.named
  have hlocks := B.notSynchronized
  subst hsz
  have hD := hD0.self (sz := s.heap.size)
  generalize hAe : va_A (dw_X18 a ac s0) s.heap.size = A at hD hN ⊢
  have hA : ∀ q : Nat, s.heap.size ≤ q → A q := fun q h => by rw [← hAe]; exact Or.inr h
  have hl := lv_entry ([.ref (a 0)]) (n := 1) (Nat.le_of_ble_eq_true rfl)
  rw [lg_entry_eq]
  generalize (lg_sl ([.ref (a 0)]) ++ List.replicate (1 - (lg_sl ([.ref (a 0)])).length) Slot.unset).toArray = ls at hl ⊢
  have hl : lv_has ls 1 [(0, .ref (a 0))] := hl
  exact db_X18_branches_0 (dC := dC) (dI := dI) (a := a) (ac := ac) (n := n) (r := r) ⟨hlt, hx, hb, hml, hown, hts, hN, hA, hK⟩ (fun pc τ H locs ls d er hP hD hS => by subst er; exact W.vret hx hb hr (fun t ht hW => ⟨⟨(), rfl, trivial, by rw [ht]; exact hP, va_K.moved hW.alike hK, hD⟩, hS.F ht⟩) hS.2.2 d) s0 _ _ _ h hP hD va_S.rf (lv_sub hl [0] rfl)
def ow_dm_X18_atomic : List Cond := Cond.code yX18_atomic cX18_atomic 5 none :: ([Cond.fieldLink RX18 80 "TimeMachineModel$Reader" "f" "I", Cond.constantLong RX18 183 (7302497), Cond.methodLink RX18 65 yX18_name, Cond.instanceMethod yX18_name, Cond.selects RX18 yX18_name yX18_name, Cond.initialized RX18, Cond.fieldLink RX18 47 "TimeMachineModel$Reader" "operands" "I", Cond.constantLong RX18 195 (30510), Cond.methodLink RX18 50 yX18_say, Cond.instanceMethod yX18_say, Cond.selects RX18 yX18_say yX18_say, Cond.methodLink RX18 172 yX18_part, Cond.instanceMethod yX18_part, Cond.selects RX18 yX18_part yX18_part, Cond.fieldLink RX18 68 "TimeMachineModel$Reader" "d" "I", Cond.methodLink RX18 71 yX18_register, Cond.instanceMethod yX18_register, Cond.selects RX18 yX18_register yX18_register, Cond.methodLink RX18 53 yX18_next, Cond.instanceMethod yX18_next, Cond.selects RX18 yX18_next yX18_next, Cond.fieldLink RX18 74 "TimeMachineModel$Reader" "a" "I", Cond.methodLink RX18 62 yX18_bracket, Cond.instanceMethod yX18_bracket, Cond.selects RX18 yX18_bracket yX18_bracket, Cond.fieldLink RX18 77 "TimeMachineModel$Reader" "b" "I", Cond.constantLong RX18 201 (465776501038), Cond.constantLong RX18 199 (7430446), Cond.constantLong RX18 197 (7107118), Cond.constantLong RX18 193 (1970823533), Cond.constantLong RX18 191 (1970170221), Cond.constantLong RX18 189 (7889261), Cond.constantLong RX18 187 (7235949), Cond.constantLong RX18 95 (29295), Cond.constantLong RX18 97 (6581857), Cond.constantLong RX18 91 (7499640), Cond.constantLong RX18 83 (6579297), Cond.constantLong RX18 185 (1885435763), Cond.constantLong RX18 181 (25459), Cond.constantLong RX18 179 (29292)] ++ (u_ws RX18 TX18 10 ++ (ow_dm_X18_name ++ (ow_dm_X18_say ++ (ow_dm_X18_part ++ (ow_dm_X18_register ++ (ow_dm_X18_next ++ (ow_dm_X18_bracket ++ []))))))))
theorem gd_dm_X18_atomic : ∀ w ∈ ow_dm_X18_atomic, (w.onTables && w.keeps) = true ∨ ∃ ty, w = Cond.arrayClass ty := List.forall_mem_cons.mpr ⟨good_of_word rfl, List.forall_mem_append.mpr ⟨fun w h => good_of_word (List.all_eq_true.mp (by decide +kernel) w h), List.forall_mem_append.mpr ⟨gu_X18, List.forall_mem_append.mpr ⟨gd_dm_X18_name, List.forall_mem_append.mpr ⟨gd_dm_X18_say, List.forall_mem_append.mpr ⟨gd_dm_X18_part, List.forall_mem_append.mpr ⟨gd_dm_X18_register, List.forall_mem_append.mpr ⟨gd_dm_X18_next, List.forall_mem_append.mpr ⟨gd_dm_X18_bracket, fun _ h => nomatch h⟩⟩⟩⟩⟩⟩⟩⟩⟩
theorem hi_dm_X18_atomic_X18 : ∀ w ∈ u_ws RX18 TX18 10, w ∈ ow_dm_X18_atomic := fun w h => List.mem_cons_of_mem _ (List.mem_append_right _ (List.mem_append_left _ h))
theorem gi_dm_X18_atomic_0 : GoodIn ow_dm_X18_atomic (wsV RX18 65 RX18 yX18_name ow_dm_X18_name) := goodIn_app (goodIn_of _ (by decide +kernel)) (fun w h => ⟨List.mem_cons_of_mem _ (List.mem_append_right _ (List.mem_append_right _ (List.mem_append_left _ h))), gd_dm_X18_name w h⟩)
theorem gi_dm_X18_atomic_1 : GoodIn ow_dm_X18_atomic (wsV RX18 50 RX18 yX18_say ow_dm_X18_say) := goodIn_app (goodIn_of _ (by decide +kernel)) (fun w h => ⟨List.mem_cons_of_mem _ (List.mem_append_right _ (List.mem_append_right _ (List.mem_append_right _ (List.mem_append_left _ h)))), gd_dm_X18_say w h⟩)
theorem gi_dm_X18_atomic_2 : GoodIn ow_dm_X18_atomic (wsV RX18 172 RX18 yX18_part ow_dm_X18_part) := goodIn_app (goodIn_of _ (by decide +kernel)) (fun w h => ⟨List.mem_cons_of_mem _ (List.mem_append_right _ (List.mem_append_right _ (List.mem_append_right _ (List.mem_append_right _ (List.mem_append_left _ h))))), gd_dm_X18_part w h⟩)
theorem gi_dm_X18_atomic_3 : GoodIn ow_dm_X18_atomic (wsV RX18 71 RX18 yX18_register ow_dm_X18_register) := goodIn_app (goodIn_of _ (by decide +kernel)) (fun w h => ⟨List.mem_cons_of_mem _ (List.mem_append_right _ (List.mem_append_right _ (List.mem_append_right _ (List.mem_append_right _ (List.mem_append_right _ (List.mem_append_left _ h)))))), gd_dm_X18_register w h⟩)
theorem gi_dm_X18_atomic_4 : GoodIn ow_dm_X18_atomic (wsV RX18 53 RX18 yX18_next ow_dm_X18_next) := goodIn_app (goodIn_of _ (by decide +kernel)) (fun w h => ⟨List.mem_cons_of_mem _ (List.mem_append_right _ (List.mem_append_right _ (List.mem_append_right _ (List.mem_append_right _ (List.mem_append_right _ (List.mem_append_right _ (List.mem_append_left _ h))))))), gd_dm_X18_next w h⟩)
theorem gi_dm_X18_atomic_5 : GoodIn ow_dm_X18_atomic (wsV RX18 62 RX18 yX18_bracket ow_dm_X18_bracket) := goodIn_app (goodIn_of _ (by decide +kernel)) (fun w h => ⟨List.mem_cons_of_mem _ (List.mem_append_right _ (List.mem_append_right _ (List.mem_append_right _ (List.mem_append_right _ (List.mem_append_right _ (List.mem_append_right _ (List.mem_append_right _ (List.mem_append_left _ h)))))))), gd_dm_X18_bracket w h⟩)
def dj_X18_atomic_20 (p : Program) (l : Launch) (e : Env) (s : State) (m : MethodId) (args : Array Value) (below : List Frame) (meth : Method) (c : Code) (Q : State → Prop) (A : Nat → Prop) (dC : Nat → ClassId) (dI : Nat → Nat → Nat) (a : Nat → Nat) (ac : Nat → ClassId) (g : (St) → Option (St)) (r : St) : Prop := ∀ (s0 : St) (H : Heap) (locs : List Loc) (ls : Array Slot), g s0 = some r → va_P (dC, dI) vwCl (dw_X18 a ac s0) H → va_D A (dw_X18 a ac s0) → va_S A s.heap H locs → lv_has ls 5 [] → W p l e (headSpec ow_dm_X18_atomic ({ frames := 3, cells := 0, slots := 0, locals := 67 })).room s m args below meth c H locs 0 0 Q (F0 m 20 ls [])
def dj_X18_atomic_305 (p : Program) (l : Launch) (e : Env) (s : State) (m : MethodId) (args : Array Value) (below : List Frame) (meth : Method) (c : Code) (Q : State → Prop) (A : Nat → Prop) (dC : Nat → ClassId) (dI : Nat → Nat → Nat) (a : Nat → Nat) (ac : Nat → ClassId) (g : (St) → Option (St)) (r : St) : Prop := ∀ (s0 : St) (H : Heap) (locs : List Loc) (ls : Array Slot), g s0 = some r → va_P (dC, dI) vwCl (dw_X18 a ac s0) H → va_D A (dw_X18 a ac s0) → va_S A s.heap H locs → lv_has ls 5 [(0, .ref (a 0))] → W p l e (headSpec ow_dm_X18_atomic ({ frames := 3, cells := 0, slots := 0, locals := 67 })).room s m args below meth c H locs 0 0 Q (F0 m 305 ls [])
def dj_X18_atomic_284 (p : Program) (l : Launch) (e : Env) (s : State) (m : MethodId) (args : Array Value) (below : List Frame) (meth : Method) (c : Code) (Q : State → Prop) (A : Nat → Prop) (dC : Nat → ClassId) (dI : Nat → Nat → Nat) (a : Nat → Nat) (ac : Nat → ClassId) (g : Int32 → (St) → Option (St)) (r : St) : Prop := ∀ (x1 : Int32) (s0 : St) (H : Heap) (locs : List Loc) (ls : Array Slot), g x1 s0 = some r → va_P (dC, dI) vwCl (dw_X18 a ac s0) H → va_D A (dw_X18 a ac s0) → va_S A s.heap H locs → lv_has ls 5 [(0, .ref (a 0)), (1, .int x1)] → W p l e (headSpec ow_dm_X18_atomic ({ frames := 3, cells := 0, slots := 0, locals := 67 })).room s m args below meth c H locs 0 0 Q (F0 m 284 ls [])
def dj_X18_atomic_281 (p : Program) (l : Launch) (e : Env) (s : State) (m : MethodId) (args : Array Value) (below : List Frame) (meth : Method) (c : Code) (Q : State → Prop) (A : Nat → Prop) (dC : Nat → ClassId) (dI : Nat → Nat → Nat) (a : Nat → Nat) (ac : Nat → ClassId) (g : Int32 → Int64 → (St) → Option (St)) (r : St) : Prop := ∀ (x1 : Int32) (y1 : Int64) (s0 : St) (H : Heap) (locs : List Loc) (ls : Array Slot), g x1 y1 s0 = some r → va_P (dC, dI) vwCl (dw_X18 a ac s0) H → va_D A (dw_X18 a ac s0) → va_S A s.heap H locs → lv_has ls 5 [(0, .ref (a 0)), (1, .int x1)] → W p l e (headSpec ow_dm_X18_atomic ({ frames := 3, cells := 0, slots := 0, locals := 67 })).room s m args below meth c H locs 0 0 Q (F0 m 281 ls [.long y1, .ref (a 0)])
def dj_X18_atomic_226 (p : Program) (l : Launch) (e : Env) (s : State) (m : MethodId) (args : Array Value) (below : List Frame) (meth : Method) (c : Code) (Q : State → Prop) (A : Nat → Prop) (dC : Nat → ClassId) (dI : Nat → Nat → Nat) (a : Nat → Nat) (ac : Nat → ClassId) (g : Int32 → (St) → Option (St)) (r : St) : Prop := ∀ (x1 : Int32) (s0 : St) (H : Heap) (locs : List Loc) (ls : Array Slot), g x1 s0 = some r → va_P (dC, dI) vwCl (dw_X18 a ac s0) H → va_D A (dw_X18 a ac s0) → va_S A s.heap H locs → lv_has ls 5 [(0, .ref (a 0)), (1, .int x1)] → W p l e (headSpec ow_dm_X18_atomic ({ frames := 3, cells := 0, slots := 0, locals := 67 })).room s m args below meth c H locs 0 0 Q (F0 m 226 ls [])
def dj_X18_atomic_223 (p : Program) (l : Launch) (e : Env) (s : State) (m : MethodId) (args : Array Value) (below : List Frame) (meth : Method) (c : Code) (Q : State → Prop) (A : Nat → Prop) (dC : Nat → ClassId) (dI : Nat → Nat → Nat) (a : Nat → Nat) (ac : Nat → ClassId) (g : Int32 → Int64 → (St) → Option (St)) (r : St) : Prop := ∀ (x1 : Int32) (y1 : Int64) (s0 : St) (H : Heap) (locs : List Loc) (ls : Array Slot), g x1 y1 s0 = some r → va_P (dC, dI) vwCl (dw_X18 a ac s0) H → va_D A (dw_X18 a ac s0) → va_S A s.heap H locs → lv_has ls 5 [(0, .ref (a 0)), (1, .int x1)] → W p l e (headSpec ow_dm_X18_atomic ({ frames := 3, cells := 0, slots := 0, locals := 67 })).room s m args below meth c H locs 0 0 Q (F0 m 223 ls [.long y1, .ref (a 0)])
def dj_X18_atomic_110 (p : Program) (l : Launch) (e : Env) (s : State) (m : MethodId) (args : Array Value) (below : List Frame) (meth : Method) (c : Code) (Q : State → Prop) (A : Nat → Prop) (dC : Nat → ClassId) (dI : Nat → Nat → Nat) (a : Nat → Nat) (ac : Nat → ClassId) (g : Int32 → Int32 → Int64 → (St) → Option (St)) (r : St) : Prop := ∀ (x1 : Int32) (x2 : Int32) (y1 : Int64) (s0 : St) (H : Heap) (locs : List Loc) (ls : Array Slot), g x1 x2 y1 s0 = some r → va_P (dC, dI) vwCl (dw_X18 a ac s0) H → va_D A (dw_X18 a ac s0) → va_S A s.heap H locs → lv_has ls 5 [(0, .ref (a 0)), (1, .int x1), (2, .int x2)] → W p l e (headSpec ow_dm_X18_atomic ({ frames := 3, cells := 0, slots := 0, locals := 67 })).room s m args below meth c H locs 0 0 Q (F0 m 110 ls [.long y1, .ref (a 0)])
def dj_X18_atomic_76 (p : Program) (l : Launch) (e : Env) (s : State) (m : MethodId) (args : Array Value) (below : List Frame) (meth : Method) (c : Code) (Q : State → Prop) (A : Nat → Prop) (dC : Nat → ClassId) (dI : Nat → Nat → Nat) (a : Nat → Nat) (ac : Nat → ClassId) (g : Int32 → Int32 → Int32 → (St) → Option (St)) (r : St) : Prop := ∀ (x1 : Int32) (x2 : Int32) (y0 : Int32) (s0 : St) (H : Heap) (locs : List Loc) (ls : Array Slot), g x1 x2 y0 s0 = some r → va_P (dC, dI) vwCl (dw_X18 a ac s0) H → va_D A (dw_X18 a ac s0) → va_S A s.heap H locs → lv_has ls 5 [(0, .ref (a 0)), (1, .int x1), (2, .int x2)] → W p l e (headSpec ow_dm_X18_atomic ({ frames := 3, cells := 0, slots := 0, locals := 67 })).room s m args below meth c H locs 0 0 Q (F0 m 76 ls [.int y0])
def dj_X18_atomic_71 (p : Program) (l : Launch) (e : Env) (s : State) (m : MethodId) (args : Array Value) (below : List Frame) (meth : Method) (c : Code) (Q : State → Prop) (A : Nat → Prop) (dC : Nat → ClassId) (dI : Nat → Nat → Nat) (a : Nat → Nat) (ac : Nat → ClassId) (g : Int32 → Int32 → (St) → Option (St)) (r : St) : Prop := ∀ (x1 : Int32) (x2 : Int32) (s0 : St) (H : Heap) (locs : List Loc) (ls : Array Slot), g x1 x2 s0 = some r → va_P (dC, dI) vwCl (dw_X18 a ac s0) H → va_D A (dw_X18 a ac s0) → va_S A s.heap H locs → lv_has ls 5 [(0, .ref (a 0)), (1, .int x1), (2, .int x2)] → W p l e (headSpec ow_dm_X18_atomic ({ frames := 3, cells := 0, slots := 0, locals := 67 })).room s m args below meth c H locs 0 0 Q (F0 m 71 ls [])
def dj_X18_atomic_49 (p : Program) (l : Launch) (e : Env) (s : State) (m : MethodId) (args : Array Value) (below : List Frame) (meth : Method) (c : Code) (Q : State → Prop) (A : Nat → Prop) (dC : Nat → ClassId) (dI : Nat → Nat → Nat) (a : Nat → Nat) (ac : Nat → ClassId) (g : Int32 → Int32 → Int32 → (St) → Option (St)) (r : St) : Prop := ∀ (x1 : Int32) (x2 : Int32) (y0 : Int32) (s0 : St) (H : Heap) (locs : List Loc) (ls : Array Slot), g x1 x2 y0 s0 = some r → va_P (dC, dI) vwCl (dw_X18 a ac s0) H → va_D A (dw_X18 a ac s0) → va_S A s.heap H locs → lv_has ls 5 [(0, .ref (a 0)), (1, .int x1), (2, .int x2)] → W p l e (headSpec ow_dm_X18_atomic ({ frames := 3, cells := 0, slots := 0, locals := 67 })).room s m args below meth c H locs 0 0 Q (F0 m 49 ls [.int y0])
def dj_X18_atomic_48 (p : Program) (l : Launch) (e : Env) (s : State) (m : MethodId) (args : Array Value) (below : List Frame) (meth : Method) (c : Code) (Q : State → Prop) (A : Nat → Prop) (dC : Nat → ClassId) (dI : Nat → Nat → Nat) (a : Nat → Nat) (ac : Nat → ClassId) (g : Int32 → Int32 → (St) → Option (St)) (r : St) : Prop := ∀ (x1 : Int32) (x2 : Int32) (s0 : St) (H : Heap) (locs : List Loc) (ls : Array Slot), g x1 x2 s0 = some r → va_P (dC, dI) vwCl (dw_X18 a ac s0) H → va_D A (dw_X18 a ac s0) → va_S A s.heap H locs → lv_has ls 5 [(0, .ref (a 0)), (1, .int x1), (2, .int x2)] → W p l e (headSpec ow_dm_X18_atomic ({ frames := 3, cells := 0, slots := 0, locals := 67 })).room s m args below meth c H locs 0 0 Q (F0 m 48 ls [])
def dj_X18_atomic_31 (p : Program) (l : Launch) (e : Env) (s : State) (m : MethodId) (args : Array Value) (below : List Frame) (meth : Method) (c : Code) (Q : State → Prop) (A : Nat → Prop) (dC : Nat → ClassId) (dI : Nat → Nat → Nat) (a : Nat → Nat) (ac : Nat → ClassId) (g : Int32 → Int32 → (St) → Option (St)) (r : St) : Prop := ∀ (x1 : Int32) (y0 : Int32) (s0 : St) (H : Heap) (locs : List Loc) (ls : Array Slot), g x1 y0 s0 = some r → va_P (dC, dI) vwCl (dw_X18 a ac s0) H → va_D A (dw_X18 a ac s0) → va_S A s.heap H locs → lv_has ls 5 [(0, .ref (a 0)), (1, .int x1)] → W p l e (headSpec ow_dm_X18_atomic ({ frames := 3, cells := 0, slots := 0, locals := 67 })).room s m args below meth c H locs 0 0 Q (F0 m 31 ls [.int y0])
def dj_X18_atomic_21 (p : Program) (l : Launch) (e : Env) (s : State) (m : MethodId) (args : Array Value) (below : List Frame) (meth : Method) (c : Code) (Q : State → Prop) (A : Nat → Prop) (dC : Nat → ClassId) (dI : Nat → Nat → Nat) (a : Nat → Nat) (ac : Nat → ClassId) (g : Int32 → (St) → Option (St)) (r : St) : Prop := ∀ (x1 : Int32) (s0 : St) (H : Heap) (locs : List Loc) (ls : Array Slot), g x1 s0 = some r → va_P (dC, dI) vwCl (dw_X18 a ac s0) H → va_D A (dw_X18 a ac s0) → va_S A s.heap H locs → lv_has ls 5 [(0, .ref (a 0)), (1, .int x1)] → W p l e (headSpec ow_dm_X18_atomic ({ frames := 3, cells := 0, slots := 0, locals := 67 })).room s m args below meth c H locs 0 0 Q (F0 m 21 ls [])
def dj_X18_atomic_0 (p : Program) (l : Launch) (e : Env) (s : State) (m : MethodId) (args : Array Value) (below : List Frame) (meth : Method) (c : Code) (Q : State → Prop) (A : Nat → Prop) (dC : Nat → ClassId) (dI : Nat → Nat → Nat) (a : Nat → Nat) (ac : Nat → ClassId) (g : Int32 → (St) → Option (St)) (r : St) : Prop := ∀ (v0 : Int32) (s0 : St) (H : Heap) (locs : List Loc) (ls : Array Slot), g v0 s0 = some r → va_P (dC, dI) vwCl (dw_X18 a ac s0) H → va_D A (dw_X18 a ac s0) → va_S A s.heap H locs → lv_has ls 5 [(0, .ref (a 0)), (1, .int v0)] → W p l e (headSpec ow_dm_X18_atomic ({ frames := 3, cells := 0, slots := 0, locals := 67 })).room s m args below meth c H locs 0 0 Q (F0 m 0 ls [])
set_option maxHeartbeats 40000000 in
set_option maxRecDepth 100000 in
theorem db_X18_atomic_20 {p : Program} {l : Launch} {e : Env} {s : State} {m : MethodId} {args : Array Value} {below : List Frame} {meth : Method} {c : Code} {Q : State → Prop} {A : Nat → Prop} {dC : Nat → ClassId} {dI : Nat → Nat → Nat} {a : Nat → Nat} {ac : Nat → ClassId} {n : Nat} {r : St} (C : nd_C p l s m args c A (dC, dI) cX18_atomic 5 RX18 ow_dm_X18_atomic (dk_X18 ac)) (K : nd_Kv p l e (headSpec ow_dm_X18_atomic ({ frames := 3, cells := 0, slots := 0, locals := 67 })).room s m args below meth c Q A (dC, dI) cX18_atomic (St) (dw_X18 a ac) r) : dj_X18_atomic_20 p l e s m args below meth c Q A dC dI a ac (df_X18_atomic_20 n) r := by
  obtain ⟨hlt, hx, hb, hml, hown, hts, hN, hA, hK⟩ := id C
  intro s0 H locs ls h hP hD hS hl
  unfold df_X18_atomic_20 at h
  exact K _ _ _ _ _ dX18_atomic_20 (Option.some.inj h).symm hP hD hS
set_option maxHeartbeats 40000000 in
set_option maxRecDepth 100000 in
theorem db_X18_atomic_305 {p : Program} {l : Launch} {e : Env} {s : State} {m : MethodId} {args : Array Value} {below : List Frame} {meth : Method} {c : Code} {Q : State → Prop} {A : Nat → Prop} {dC : Nat → ClassId} {dI : Nat → Nat → Nat} {a : Nat → Nat} {ac : Nat → ClassId} {n : Nat} {r : St} (C : nd_C p l s m args c A (dC, dI) cX18_atomic 5 RX18 ow_dm_X18_atomic (dk_X18 ac)) (K : nd_Kv p l e (headSpec ow_dm_X18_atomic ({ frames := 3, cells := 0, slots := 0, locals := 67 })).room s m args below meth c Q A (dC, dI) cX18_atomic (St) (dw_X18 a ac) r) : dj_X18_atomic_305 p l e s m args below meth c Q A dC dI a ac (df_X18_atomic_305 n) r := by
  obtain ⟨hlt, hx, hb, hml, hown, hts, hN, hA, hK⟩ := id C
  intro s0 H locs ls h hP hD hS hl
  unfold df_X18_atomic_305 at h
  refine lv_aload_n hx hb dX18_atomic_305 rfl (lv_at hl 0 rfl) ?_
  obtain ⟨s26, hq, h⟩ := nd_b1_e h
  have hPc := hP
  have hDc := hD
  have hKc := hK
  have hFc := nd_rs hD hS hA
  refine nd_cVv (As := []) (rest := []) (w' := dw_X18 a ac s26) ⟨hx, hb, hml, hown, hts⟩ (fun sz => dm_X18_next l hlt dC dI a ac n  s0 hq sz) (cwV 0 hts gi_dm_X18_atomic_4 rfl rfl rfl (by decide +kernel) ⟨Nat.le_of_ble_eq_true rfl, Nat.le_of_ble_eq_true rfl⟩) hPc hDc hKc hS hA hN (va_recv hKc hPc (ci := 19) (q0 := 0) rfl rfl) rfl hl.1 rfl (Nat.le_of_ble_eq_true rfl) dX18_atomic_306 (fun H locs hP1 hD1 hk1 hS => ?_)
  have hP := hP1
  have hD := hD1.weaken (fun k q _ h => hFc q.1 h)
  refine lv_aload_n hx hb dX18_atomic_309 rfl (lv_at hl 0 rfl) ?_
  refine lv_aload_n hx hb dX18_atomic_310 rfl (lv_at hl 0 rfl) ?_
  refine va_get (D := (dC, dI)) (ci := 19) (v := .int (sI s26 5)) (C := RX18) (T := TX18) (N := 10) hx hb hts hi_dm_X18_atomic_X18 hown hK hP 0 rfl rfl 6 (by decide) (hts (.fieldLink RX18 74 "TimeMachineModel$Reader" "a" "I") (List.mem_of_getElem? (i := 22) rfl)) (fun _ h9 => h9) rfl dX18_atomic_311 ?_
  obtain ⟨s29, hq, h⟩ := nd_b1_e h
  have hPc := hP
  have hDc := hD
  have hKc := hK
  have hFc := nd_rs hD hS hA
  refine nd_cVv (As := [.int (sI s26 5)]) (rest := []) (w' := dw_X18 a ac s29) ⟨hx, hb, hml, hown, hts⟩ (fun sz => dm_X18_bracket l hlt dC dI a ac n ((sI s26 5)) s26 hq sz) (cwV 1 hts gi_dm_X18_atomic_5 rfl rfl rfl (by decide +kernel) ⟨Nat.le_of_ble_eq_true rfl, Nat.le_of_ble_eq_true rfl⟩) hPc hDc hKc hS hA hN (va_recv hKc hPc (ci := 19) (q0 := 0) rfl rfl) rfl hl.1 rfl (Nat.le_of_ble_eq_true rfl) dX18_atomic_314 (fun H locs hP1 hD1 hk1 hS => ?_)
  have hP := hP1
  have hD := hD1.weaken (fun k q _ h => hFc q.1 h)
  exact K _ _ _ _ _ dX18_atomic_317 (Option.some.inj h).symm hP hD hS
set_option maxHeartbeats 40000000 in
set_option maxRecDepth 100000 in
theorem db_X18_atomic_284 {p : Program} {l : Launch} {e : Env} {s : State} {m : MethodId} {args : Array Value} {below : List Frame} {meth : Method} {c : Code} {Q : State → Prop} {A : Nat → Prop} {dC : Nat → ClassId} {dI : Nat → Nat → Nat} {a : Nat → Nat} {ac : Nat → ClassId} {n : Nat} {r : St} (C : nd_C p l s m args c A (dC, dI) cX18_atomic 5 RX18 ow_dm_X18_atomic (dk_X18 ac)) (K : nd_Kv p l e (headSpec ow_dm_X18_atomic ({ frames := 3, cells := 0, slots := 0, locals := 67 })).room s m args below meth c Q A (dC, dI) cX18_atomic (St) (dw_X18 a ac) r) : dj_X18_atomic_284 p l e s m args below meth c Q A dC dI a ac (df_X18_atomic_284 n) r := by
  obtain ⟨hlt, hx, hb, hml, hown, hts, hN, hA, hK⟩ := id C
  intro x1 s0 H locs ls h hP hD hS hl
  unfold df_X18_atomic_284 at h
  refine lv_aload_n hx hb dX18_atomic_284 rfl (lv_at hl 0 rfl) ?_
  refine lv_aload_n hx hb dX18_atomic_285 rfl (lv_at hl 0 rfl) ?_
  refine va_get (D := (dC, dI)) (ci := 19) (v := .int (sI s0 4)) (C := RX18) (T := TX18) (N := 10) hx hb hts hi_dm_X18_atomic_X18 hown hK hP 0 rfl rfl 5 (by decide) (hts (.fieldLink RX18 68 "TimeMachineModel$Reader" "d" "I") (List.mem_of_getElem? (i := 15) rfl)) (fun _ h9 => h9) rfl dX18_atomic_286 ?_
  obtain ⟨s22, hq, h⟩ := nd_b1_e h
  have hPc := hP
  have hDc := hD
  have hKc := hK
  have hFc := nd_rs hD hS hA
  refine nd_cVv (As := [.int (sI s0 4)]) (rest := []) (w' := dw_X18 a ac s22) ⟨hx, hb, hml, hown, hts⟩ (fun sz => dm_X18_register l hlt dC dI a ac n ((sI s0 4)) s0 hq sz) (cwV 1 hts gi_dm_X18_atomic_3 rfl rfl rfl (by decide +kernel) ⟨Nat.le_of_ble_eq_true rfl, Nat.le_of_ble_eq_true rfl⟩) hPc hDc hKc hS hA hN (va_recv hKc hPc (ci := 19) (q0 := 0) rfl rfl) rfl hl.1 rfl (Nat.le_of_ble_eq_true rfl) dX18_atomic_289 (fun H locs hP1 hD1 hk1 hS => ?_)
  have hP := hP1
  have hD := hD1.weaken (fun k q _ h => hFc q.1 h)
  refine lv_iload_n hx hb dX18_atomic_292 rfl (lv_at hl 1 rfl) ?_
  refine lv_iconst (v := 2) hx hb dX18_atomic_293 (by decide) ?_
  refine lv_icmp_eq (tgt := 305) hx hb dX18_atomic_294 (by decide) (fun c24 => ?_) (fun c24 => ?_)
  · have h := nd_pos h c24
    exact (db_X18_atomic_305 C K)  s22 _ _ _ h hP hD hS (lv_sub hl [0] rfl)
  · have h := nd_neg h c24
    refine lv_aload_n hx hb dX18_atomic_297 rfl (lv_at hl 0 rfl) ?_
    refine lv_aload_n hx hb dX18_atomic_298 rfl (lv_at hl 0 rfl) ?_
    refine va_get (D := (dC, dI)) (ci := 19) (v := .int (sI s22 6)) (C := RX18) (T := TX18) (N := 10) hx hb hts hi_dm_X18_atomic_X18 hown hK hP 0 rfl rfl 7 (by decide) (hts (.fieldLink RX18 77 "TimeMachineModel$Reader" "b" "I") (List.mem_of_getElem? (i := 26) rfl)) (fun _ h9 => h9) rfl dX18_atomic_299 ?_
    obtain ⟨s32, hq, h⟩ := nd_b1_e h
    have hPc := hP
    have hDc := hD
    have hKc := hK
    have hFc := nd_rs hD hS hA
    refine nd_cVv (As := [.int (sI s22 6)]) (rest := []) (w' := dw_X18 a ac s32) ⟨hx, hb, hml, hown, hts⟩ (fun sz => dm_X18_register l hlt dC dI a ac n ((sI s22 6)) s22 hq sz) (cwV 1 hts gi_dm_X18_atomic_3 rfl rfl rfl (by decide +kernel) ⟨Nat.le_of_ble_eq_true rfl, Nat.le_of_ble_eq_true rfl⟩) hPc hDc hKc hS hA hN (va_recv hKc hPc (ci := 19) (q0 := 0) rfl rfl) rfl hl.1 rfl (Nat.le_of_ble_eq_true rfl) dX18_atomic_302 (fun H locs hP1 hD1 hk1 hS => ?_)
    have hP := hP1
    have hD := hD1.weaken (fun k q _ h => hFc q.1 h)
    exact (db_X18_atomic_305 C K)  s32 _ _ _ h hP hD hS (lv_sub hl [0] rfl)
set_option maxHeartbeats 40000000 in
set_option maxRecDepth 100000 in
theorem db_X18_atomic_281 {p : Program} {l : Launch} {e : Env} {s : State} {m : MethodId} {args : Array Value} {below : List Frame} {meth : Method} {c : Code} {Q : State → Prop} {A : Nat → Prop} {dC : Nat → ClassId} {dI : Nat → Nat → Nat} {a : Nat → Nat} {ac : Nat → ClassId} {n : Nat} {r : St} (C : nd_C p l s m args c A (dC, dI) cX18_atomic 5 RX18 ow_dm_X18_atomic (dk_X18 ac)) (K : nd_Kv p l e (headSpec ow_dm_X18_atomic ({ frames := 3, cells := 0, slots := 0, locals := 67 })).room s m args below meth c Q A (dC, dI) cX18_atomic (St) (dw_X18 a ac) r) : dj_X18_atomic_281 p l e s m args below meth c Q A dC dI a ac (df_X18_atomic_281 n) r := by
  obtain ⟨hlt, hx, hb, hml, hown, hts, hN, hA, hK⟩ := id C
  intro x1 y1 s0 H locs ls h hP hD hS hl
  unfold df_X18_atomic_281 at h
  obtain ⟨s43, hq, h⟩ := nd_b1_e h
  have hPc := hP
  have hDc := hD
  have hKc := hK
  have hFc := nd_rs hD hS hA
  refine nd_cVv (As := [.long y1]) (rest := []) (w' := dw_X18 a ac s43) ⟨hx, hb, hml, hown, hts⟩ (fun sz => dm_X18_say l hlt dC dI a ac n (y1) s0 hq sz) (cwV 1 hts gi_dm_X18_atomic_1 rfl rfl rfl (by decide +kernel) ⟨Nat.le_of_ble_eq_true rfl, Nat.le_of_ble_eq_true rfl⟩) hPc hDc hKc hS hA hN (va_recv hKc hPc (ci := 19) (q0 := 0) rfl rfl) rfl hl.1 rfl (Nat.le_of_ble_eq_true rfl) dX18_atomic_281 (fun H locs hP1 hD1 hk1 hS => ?_)
  have hP := hP1
  have hD := hD1.weaken (fun k q _ h => hFc q.1 h)
  exact (db_X18_atomic_284 C K) (x1) s43 _ _ _ h hP hD hS (lv_sub hl [0, 1] rfl)
set_option maxHeartbeats 40000000 in
set_option maxRecDepth 100000 in
theorem db_X18_atomic_226 {p : Program} {l : Launch} {e : Env} {s : State} {m : MethodId} {args : Array Value} {below : List Frame} {meth : Method} {c : Code} {Q : State → Prop} {A : Nat → Prop} {dC : Nat → ClassId} {dI : Nat → Nat → Nat} {a : Nat → Nat} {ac : Nat → ClassId} {n : Nat} {r : St} (C : nd_C p l s m args c A (dC, dI) cX18_atomic 5 RX18 ow_dm_X18_atomic (dk_X18 ac)) (K : nd_Kv p l e (headSpec ow_dm_X18_atomic ({ frames := 3, cells := 0, slots := 0, locals := 67 })).room s m args below meth c Q A (dC, dI) cX18_atomic (St) (dw_X18 a ac) r) : dj_X18_atomic_226 p l e s m args below meth c Q A dC dI a ac (df_X18_atomic_226 n) r := by
  obtain ⟨hlt, hx, hb, hml, hown, hts, hN, hA, hK⟩ := id C
  intro x1 s0 H locs ls h hP hD hS hl
  unfold df_X18_atomic_226 at h
  refine lv_aload_n hx hb dX18_atomic_226 rfl (lv_at hl 0 rfl) ?_
  refine lv_ldc2 hx hb hown (hts (.constantLong RX18 195 (30510)) (List.mem_of_getElem? (i := 8) rfl)) dX18_atomic_227 ?_
  obtain ⟨s15, hq, h⟩ := nd_b1_e h
  have hPc := hP
  have hDc := hD
  have hKc := hK
  have hFc := nd_rs hD hS hA
  refine nd_cVv (As := [.long 30510]) (rest := []) (w' := dw_X18 a ac s15) ⟨hx, hb, hml, hown, hts⟩ (fun sz => dm_X18_say l hlt dC dI a ac n (30510) s0 hq sz) (cwV 1 hts gi_dm_X18_atomic_1 rfl rfl rfl (by decide +kernel) ⟨Nat.le_of_ble_eq_true rfl, Nat.le_of_ble_eq_true rfl⟩) hPc hDc hKc hS hA hN (va_recv hKc hPc (ci := 19) (q0 := 0) rfl rfl) rfl hl.1 rfl (Nat.le_of_ble_eq_true rfl) dX18_atomic_230 (fun H locs hP1 hD1 hk1 hS => ?_)
  have hP := hP1
  have hD := hD1.weaken (fun k q _ h => hFc q.1 h)
  refine lv_aload_n hx hb dX18_atomic_233 rfl (lv_at hl 0 rfl) ?_
  refine lv_bipush (v := 25) hx hb dX18_atomic_234 (by decide) ?_
  refine lv_iconst (v := 2) hx hb dX18_atomic_236 (by decide) ?_
  obtain ⟨q17, s18, hq, h⟩ := nd_b2_e h
  have hPc := hP
  have hDc := hD
  have hKc := hK
  have hFc := nd_rs hD hS hA
  refine nd_cVi (As := [.int 25, .int 2]) (rest := []) (q := q17) (w' := dw_X18 a ac s18) ⟨hx, hb, hml, hown, hts⟩ (fun sz => dm_X18_part l hlt dC dI a ac n (25) (2) s15 hq sz) (cwV 2 hts gi_dm_X18_atomic_2 rfl rfl rfl (by decide +kernel) ⟨Nat.le_of_ble_eq_true rfl, Nat.le_of_ble_eq_true rfl⟩) hPc hDc hKc hS hA hN (va_recv hKc hPc (ci := 19) (q0 := 0) rfl rfl) rfl hl.1 rfl (Nat.le_of_ble_eq_true rfl) dX18_atomic_237 (fun H locs hP1 hD1 hk1 hS => ?_)
  have hP := hP1
  have hD := hD1.weaken (fun k q _ h => hFc q.1 h)
  refine lv_if_eq (tgt := 284) hx hb dX18_atomic_240 (by decide) (fun c20 => ?_) (fun c20 => ?_)
  · have h := nd_pos h c20
    exact (db_X18_atomic_284 C K) (x1) s18 _ _ _ h hP hD hS (lv_sub hl [0, 1] rfl)
  · have h := nd_neg h c20
    refine lv_aload_n hx hb dX18_atomic_243 rfl (lv_at hl 0 rfl) ?_
    refine lv_aload_n hx hb dX18_atomic_244 rfl (lv_at hl 0 rfl) ?_
    refine lv_bipush (v := 25) hx hb dX18_atomic_245 (by decide) ?_
    refine lv_iconst (v := 2) hx hb dX18_atomic_247 (by decide) ?_
    obtain ⟨q34, s35, hq, h⟩ := nd_b2_e h
    have hPc := hP
    have hDc := hD
    have hKc := hK
    have hFc := nd_rs hD hS hA
    refine nd_cVi (As := [.int 25, .int 2]) (rest := [.ref (a 0)]) (q := q34) (w' := dw_X18 a ac s35) ⟨hx, hb, hml, hown, hts⟩ (fun sz => dm_X18_part l hlt dC dI a ac n (25) (2) s18 hq sz) (cwV 2 hts gi_dm_X18_atomic_2 rfl rfl rfl (by decide +kernel) ⟨Nat.le_of_ble_eq_true rfl, Nat.le_of_ble_eq_true rfl⟩) hPc hDc hKc hS hA hN (va_recv hKc hPc (ci := 19) (q0 := 0) rfl rfl) rfl hl.1 rfl (Nat.le_of_ble_eq_true rfl) dX18_atomic_248 (fun H locs hP1 hD1 hk1 hS => ?_)
    have hP := hP1
    have hD := hD1.weaken (fun k q _ h => hFc q.1 h)
    refine lv_iconst (v := 1) hx hb dX18_atomic_251 (by decide) ?_
    refine lv_icmp_ne (tgt := 261) hx hb dX18_atomic_252 (by decide) (fun c37 => ?_) (fun c37 => ?_)
    · have h := nd_neg h c37
      refine lv_aload_n hx hb dX18_atomic_261 rfl (lv_at hl 0 rfl) ?_
      refine lv_bipush (v := 25) hx hb dX18_atomic_262 (by decide) ?_
      refine lv_iconst (v := 2) hx hb dX18_atomic_264 (by decide) ?_
      obtain ⟨q38, s39, hq, h⟩ := nd_b2_e h
      have hPc := hP
      have hDc := hD
      have hKc := hK
      have hFc := nd_rs hD hS hA
      refine nd_cVi (As := [.int 25, .int 2]) (rest := [.ref (a 0)]) (q := q38) (w' := dw_X18 a ac s39) ⟨hx, hb, hml, hown, hts⟩ (fun sz => dm_X18_part l hlt dC dI a ac n (25) (2) s35 hq sz) (cwV 2 hts gi_dm_X18_atomic_2 rfl rfl rfl (by decide +kernel) ⟨Nat.le_of_ble_eq_true rfl, Nat.le_of_ble_eq_true rfl⟩) hPc hDc hKc hS hA hN (va_recv hKc hPc (ci := 19) (q0 := 0) rfl rfl) rfl hl.1 rfl (Nat.le_of_ble_eq_true rfl) dX18_atomic_265 (fun H locs hP1 hD1 hk1 hS => ?_)
      have hP := hP1
      have hD := hD1.weaken (fun k q _ h => hFc q.1 h)
      refine lv_iconst (v := 2) hx hb dX18_atomic_268 (by decide) ?_
      refine lv_icmp_ne (tgt := 278) hx hb dX18_atomic_269 (by decide) (fun c41 => ?_) (fun c41 => ?_)
      · have h := nd_neg h c41
        refine lv_ldc2 hx hb hown (hts (.constantLong RX18 201 (465776501038)) (List.mem_of_getElem? (i := 27) rfl)) dX18_atomic_278 ?_
        exact (db_X18_atomic_281 C K) (x1) (465776501038) s39 _ _ _ h hP hD hS (lv_sub hl [0, 1] rfl)
      · have h := nd_pos h c41
        refine lv_ldc2 hx hb hown (hts (.constantLong RX18 199 (7430446)) (List.mem_of_getElem? (i := 28) rfl)) dX18_atomic_272 ?_
        refine lv_goto (tgt := 281) hx hb dX18_atomic_275 (by decide) ?_
        exact (db_X18_atomic_281 C K) (x1) (7430446) s39 _ _ _ h hP hD hS (lv_sub hl [0, 1] rfl)
    · have h := nd_pos h c37
      refine lv_ldc2 hx hb hown (hts (.constantLong RX18 197 (7107118)) (List.mem_of_getElem? (i := 29) rfl)) dX18_atomic_255 ?_
      refine lv_goto (tgt := 281) hx hb dX18_atomic_258 (by decide) ?_
      exact (db_X18_atomic_281 C K) (x1) (7107118) s35 _ _ _ h hP hD hS (lv_sub hl [0, 1] rfl)
set_option maxHeartbeats 40000000 in
set_option maxRecDepth 100000 in
theorem db_X18_atomic_223 {p : Program} {l : Launch} {e : Env} {s : State} {m : MethodId} {args : Array Value} {below : List Frame} {meth : Method} {c : Code} {Q : State → Prop} {A : Nat → Prop} {dC : Nat → ClassId} {dI : Nat → Nat → Nat} {a : Nat → Nat} {ac : Nat → ClassId} {n : Nat} {r : St} (C : nd_C p l s m args c A (dC, dI) cX18_atomic 5 RX18 ow_dm_X18_atomic (dk_X18 ac)) (K : nd_Kv p l e (headSpec ow_dm_X18_atomic ({ frames := 3, cells := 0, slots := 0, locals := 67 })).room s m args below meth c Q A (dC, dI) cX18_atomic (St) (dw_X18 a ac) r) : dj_X18_atomic_223 p l e s m args below meth c Q A dC dI a ac (df_X18_atomic_223 n) r := by
  obtain ⟨hlt, hx, hb, hml, hown, hts, hN, hA, hK⟩ := id C
  intro x1 y1 s0 H locs ls h hP hD hS hl
  unfold df_X18_atomic_223 at h
  obtain ⟨s55, hq, h⟩ := nd_b1_e h
  have hPc := hP
  have hDc := hD
  have hKc := hK
  have hFc := nd_rs hD hS hA
  refine nd_cVv (As := [.long y1]) (rest := []) (w' := dw_X18 a ac s55) ⟨hx, hb, hml, hown, hts⟩ (fun sz => dm_X18_say l hlt dC dI a ac n (y1) s0 hq sz) (cwV 1 hts gi_dm_X18_atomic_1 rfl rfl rfl (by decide +kernel) ⟨Nat.le_of_ble_eq_true rfl, Nat.le_of_ble_eq_true rfl⟩) hPc hDc hKc hS hA hN (va_recv hKc hPc (ci := 19) (q0 := 0) rfl rfl) rfl hl.1 rfl (Nat.le_of_ble_eq_true rfl) dX18_atomic_223 (fun H locs hP1 hD1 hk1 hS => ?_)
  have hP := hP1
  have hD := hD1.weaken (fun k q _ h => hFc q.1 h)
  exact (db_X18_atomic_226 C K) (x1) s55 _ _ _ h hP hD hS (lv_sub hl [0, 1] rfl)
set_option maxHeartbeats 40000000 in
set_option maxRecDepth 100000 in
theorem db_X18_atomic_110 {p : Program} {l : Launch} {e : Env} {s : State} {m : MethodId} {args : Array Value} {below : List Frame} {meth : Method} {c : Code} {Q : State → Prop} {A : Nat → Prop} {dC : Nat → ClassId} {dI : Nat → Nat → Nat} {a : Nat → Nat} {ac : Nat → ClassId} {n : Nat} {r : St} (C : nd_C p l s m args c A (dC, dI) cX18_atomic 5 RX18 ow_dm_X18_atomic (dk_X18 ac)) (K : nd_Kv p l e (headSpec ow_dm_X18_atomic ({ frames := 3, cells := 0, slots := 0, locals := 67 })).room s m args below meth c Q A (dC, dI) cX18_atomic (St) (dw_X18 a ac) r) : dj_X18_atomic_110 p l e s m args below meth c Q A dC dI a ac (df_X18_atomic_110 n) r := by
  obtain ⟨hlt, hx, hb, hml, hown, hts, hN, hA, hK⟩ := id C
  intro x1 x2 y1 s0 H locs ls h hP hD hS hl
  unfold df_X18_atomic_110 at h
  obtain ⟨s10, hq, h⟩ := nd_b1_e h
  have hPc := hP
  have hDc := hD
  have hKc := hK
  have hFc := nd_rs hD hS hA
  refine nd_cVv (As := [.long y1]) (rest := []) (w' := dw_X18 a ac s10) ⟨hx, hb, hml, hown, hts⟩ (fun sz => dm_X18_name l hlt dC dI a ac n (y1) s0 hq sz) (cwV 1 hts gi_dm_X18_atomic_0 rfl rfl rfl (by decide +kernel) ⟨Nat.le_of_ble_eq_true rfl, Nat.le_of_ble_eq_true rfl⟩) hPc hDc hKc hS hA hN (va_recv hKc hPc (ci := 19) (q0 := 0) rfl rfl) rfl hl.1 rfl (Nat.le_of_ble_eq_true rfl) dX18_atomic_110 (fun H locs hP1 hD1 hk1 hS => ?_)
  have hP := hP1
  have hD := hD1.weaken (fun k q _ h => hFc q.1 h)
  refine lv_aload_n hx hb dX18_atomic_113 rfl (lv_at hl 0 rfl) ?_
  refine lv_iconst (v := 0) hx hb dX18_atomic_114 (by decide) ?_
  refine va_put (D := (dC, dI)) (ci := 19) (v := .int 0) (ty := .int) (C := RX18) (T := TX18) (N := 10) hx hb hts hi_dm_X18_atomic_X18 tyX18 tyX18_ok nmX18 hown hK hP hD hS 0 rfl rfl 2 (by decide) (hts (.fieldLink RX18 47 "TimeMachineModel$Reader" "operands" "I") (List.mem_of_getElem? (i := 7) rfl)) (fun _ h9 => h9) rfl (by decide +kernel) rfl rfl (Nat.le_of_ble_eq_true rfl) dX18_atomic_115 (fun H locs hP hD hS => ?_)
  obtain ⟨s12, es12, h⟩ := nd_let_e h
  have hP : va_P (dC, dI) vwCl (dw_X18 a ac s12) H := by rw [es12]; exact hP
  have hD : va_D A (dw_X18 a ac s12) := by rw [es12]; exact hD
  refine lv_iload_n hx hb dX18_atomic_118 rfl (lv_at hl 1 rfl) ?_
  refine lv_iconst (v := 2) hx hb dX18_atomic_119 (by decide) ?_
  refine lv_icmp_eq (tgt := 226) hx hb dX18_atomic_120 (by decide) (fun c13 => ?_) (fun c13 => ?_)
  · have h := nd_pos h c13
    exact (db_X18_atomic_226 C K) (x1) s12 _ _ _ h hP hD hS (lv_sub hl [0, 1] rfl)
  · have h := nd_neg h c13
    refine lv_iload_n hx hb dX18_atomic_123 rfl (lv_at hl 1 rfl) ?_
    refine lv_iconst (v := 3) hx hb dX18_atomic_124 (by decide) ?_
    refine lv_icmp_eq (tgt := 226) hx hb dX18_atomic_125 (by decide) (fun c45 => ?_) (fun c45 => ?_)
    · have h := nd_pos h c45
      exact (db_X18_atomic_226 C K) (x1) s12 _ _ _ h hP hD hS (lv_sub hl [0, 1] rfl)
    · have h := nd_neg h c45
      refine lv_aload_n hx hb dX18_atomic_128 rfl (lv_at hl 0 rfl) ?_
      refine lv_iload_n hx hb dX18_atomic_129 rfl (lv_at hl 2 rfl) ?_
      refine lv_if_eq (tgt := 139) hx hb dX18_atomic_130 (by decide) (fun c46 => ?_) (fun c46 => ?_)
      · have h := nd_pos h c46
        refine lv_iload_n hx hb dX18_atomic_139 rfl (lv_at hl 1 rfl) ?_
        refine lv_if_ne (tgt := 149) hx hb dX18_atomic_140 (by decide) (fun c47 => ?_) (fun c47 => ?_)
        · have h := nd_neg h c47
          refine lv_iload_n hx hb dX18_atomic_149 rfl (lv_at hl 1 rfl) ?_
          refine lv_iconst (v := 4) hx hb dX18_atomic_150 (by decide) ?_
          refine lv_icmp_ne (tgt := 160) hx hb dX18_atomic_151 (by decide) (fun c48 => ?_) (fun c48 => ?_)
          · have h := nd_neg h c48
            refine lv_iload_n hx hb dX18_atomic_160 rfl (lv_at hl 1 rfl) ?_
            refine lv_bipush (v := 12) hx hb dX18_atomic_161 (by decide) ?_
            refine lv_icmp_ne (tgt := 172) hx hb dX18_atomic_163 (by decide) (fun c49 => ?_) (fun c49 => ?_)
            · have h := nd_neg h c49
              refine lv_iload_n hx hb dX18_atomic_172 rfl (lv_at hl 1 rfl) ?_
              refine lv_bipush (v := 8) hx hb dX18_atomic_173 (by decide) ?_
              refine lv_icmp_ne (tgt := 184) hx hb dX18_atomic_175 (by decide) (fun c50 => ?_) (fun c50 => ?_)
              · have h := nd_neg h c50
                refine lv_iload_n hx hb dX18_atomic_184 rfl (lv_at hl 1 rfl) ?_
                refine lv_bipush (v := 16) hx hb dX18_atomic_185 (by decide) ?_
                refine lv_icmp_ne (tgt := 196) hx hb dX18_atomic_187 (by decide) (fun c51 => ?_) (fun c51 => ?_)
                · have h := nd_neg h c51
                  refine lv_iload_n hx hb dX18_atomic_196 rfl (lv_at hl 1 rfl) ?_
                  refine lv_bipush (v := 20) hx hb dX18_atomic_197 (by decide) ?_
                  refine lv_icmp_ne (tgt := 208) hx hb dX18_atomic_199 (by decide) (fun c52 => ?_) (fun c52 => ?_)
                  · have h := nd_neg h c52
                    refine lv_iload_n hx hb dX18_atomic_208 rfl (lv_at hl 1 rfl) ?_
                    refine lv_bipush (v := 24) hx hb dX18_atomic_209 (by decide) ?_
                    refine lv_icmp_ne (tgt := 220) hx hb dX18_atomic_211 (by decide) (fun c53 => ?_) (fun c53 => ?_)
                    · have h := nd_neg h c53
                      refine lv_ldc2 hx hb hown (hts (.constantLong RX18 193 (1970823533)) (List.mem_of_getElem? (i := 30) rfl)) dX18_atomic_220 ?_
                      exact (db_X18_atomic_223 C K) (x1) (1970823533) s12 _ _ _ h hP hD hS (lv_sub hl [0, 1] rfl)
                    · have h := nd_pos h c53
                      refine lv_ldc2 hx hb hown (hts (.constantLong RX18 191 (1970170221)) (List.mem_of_getElem? (i := 31) rfl)) dX18_atomic_214 ?_
                      refine lv_goto (tgt := 223) hx hb dX18_atomic_217 (by decide) ?_
                      exact (db_X18_atomic_223 C K) (x1) (1970170221) s12 _ _ _ h hP hD hS (lv_sub hl [0, 1] rfl)
                  · have h := nd_pos h c52
                    refine lv_ldc2 hx hb hown (hts (.constantLong RX18 189 (7889261)) (List.mem_of_getElem? (i := 32) rfl)) dX18_atomic_202 ?_
                    refine lv_goto (tgt := 223) hx hb dX18_atomic_205 (by decide) ?_
                    exact (db_X18_atomic_223 C K) (x1) (7889261) s12 _ _ _ h hP hD hS (lv_sub hl [0, 1] rfl)
                · have h := nd_pos h c51
                  refine lv_ldc2 hx hb hown (hts (.constantLong RX18 187 (7235949)) (List.mem_of_getElem? (i := 33) rfl)) dX18_atomic_190 ?_
                  refine lv_goto (tgt := 223) hx hb dX18_atomic_193 (by decide) ?_
                  exact (db_X18_atomic_223 C K) (x1) (7235949) s12 _ _ _ h hP hD hS (lv_sub hl [0, 1] rfl)
              · have h := nd_pos h c50
                refine lv_ldc2 hx hb hown (hts (.constantLong RX18 95 (29295)) (List.mem_of_getElem? (i := 34) rfl)) dX18_atomic_178 ?_
                refine lv_goto (tgt := 223) hx hb dX18_atomic_181 (by decide) ?_
                exact (db_X18_atomic_223 C K) (x1) (29295) s12 _ _ _ h hP hD hS (lv_sub hl [0, 1] rfl)
            · have h := nd_pos h c49
              refine lv_ldc2 hx hb hown (hts (.constantLong RX18 97 (6581857)) (List.mem_of_getElem? (i := 35) rfl)) dX18_atomic_166 ?_
              refine lv_goto (tgt := 223) hx hb dX18_atomic_169 (by decide) ?_
              exact (db_X18_atomic_223 C K) (x1) (6581857) s12 _ _ _ h hP hD hS (lv_sub hl [0, 1] rfl)
          · have h := nd_pos h c48
            refine lv_ldc2 hx hb hown (hts (.constantLong RX18 91 (7499640)) (List.mem_of_getElem? (i := 36) rfl)) dX18_atomic_154 ?_
            refine lv_goto (tgt := 223) hx hb dX18_atomic_157 (by decide) ?_
            exact (db_X18_atomic_223 C K) (x1) (7499640) s12 _ _ _ h hP hD hS (lv_sub hl [0, 1] rfl)
        · have h := nd_pos h c47
          refine lv_ldc2 hx hb hown (hts (.constantLong RX18 83 (6579297)) (List.mem_of_getElem? (i := 37) rfl)) dX18_atomic_143 ?_
          refine lv_goto (tgt := 223) hx hb dX18_atomic_146 (by decide) ?_
          exact (db_X18_atomic_223 C K) (x1) (6579297) s12 _ _ _ h hP hD hS (lv_sub hl [0, 1] rfl)
      · have h := nd_neg h c46
        refine lv_ldc2 hx hb hown (hts (.constantLong RX18 185 (1885435763)) (List.mem_of_getElem? (i := 38) rfl)) dX18_atomic_133 ?_
        refine lv_goto (tgt := 223) hx hb dX18_atomic_136 (by decide) ?_
        exact (db_X18_atomic_223 C K) (x1) (1885435763) s12 _ _ _ h hP hD hS (lv_sub hl [0, 1] rfl)
set_option maxHeartbeats 40000000 in
set_option maxRecDepth 100000 in
theorem db_X18_atomic_76 {p : Program} {l : Launch} {e : Env} {s : State} {m : MethodId} {args : Array Value} {below : List Frame} {meth : Method} {c : Code} {Q : State → Prop} {A : Nat → Prop} {dC : Nat → ClassId} {dI : Nat → Nat → Nat} {a : Nat → Nat} {ac : Nat → ClassId} {n : Nat} {r : St} (C : nd_C p l s m args c A (dC, dI) cX18_atomic 5 RX18 ow_dm_X18_atomic (dk_X18 ac)) (K : nd_Kv p l e (headSpec ow_dm_X18_atomic ({ frames := 3, cells := 0, slots := 0, locals := 67 })).room s m args below meth c Q A (dC, dI) cX18_atomic (St) (dw_X18 a ac) r) : dj_X18_atomic_76 p l e s m args below meth c Q A dC dI a ac (df_X18_atomic_76 n) r := by
  obtain ⟨hlt, hx, hb, hml, hown, hts, hN, hA, hK⟩ := id C
  intro x1 x2 y0 s0 H locs ls h hP hD hS hl
  unfold df_X18_atomic_76 at h
  refine lv_istore (lv' := [(4, .int y0), (0, .ref (a 0)), (1, .int x1), (2, .int x2)]) hx hb dX18_atomic_76 hl (by decide) rfl (fun ls hl => ?_)
  refine lv_iload hx hb dX18_atomic_78 (lv_at hl 0 rfl) ?_
  refine lv_if_ne (tgt := 84) hx hb dX18_atomic_80 (by decide) (fun c6 => ?_) (fun c6 => ?_)
  · have h := nd_neg h c6
    refine lv_aload_n hx hb dX18_atomic_84 rfl (lv_at hl 1 rfl) ?_
    refine lv_iload_n hx hb dX18_atomic_85 rfl (lv_at hl 2 rfl) ?_
    refine lv_iconst (v := 2) hx hb dX18_atomic_86 (by decide) ?_
    refine lv_icmp_ne (tgt := 96) hx hb dX18_atomic_87 (by decide) (fun c7 => ?_) (fun c7 => ?_)
    · have h := nd_neg h c7
      refine lv_iload_n hx hb dX18_atomic_96 rfl (lv_at hl 2 rfl) ?_
      refine lv_iconst (v := 3) hx hb dX18_atomic_97 (by decide) ?_
      refine lv_icmp_ne (tgt := 107) hx hb dX18_atomic_98 (by decide) (fun c8 => ?_) (fun c8 => ?_)
      · have h := nd_neg h c8
        refine lv_ldc2 hx hb hown (hts (.constantLong RX18 183 (7302497)) (List.mem_of_getElem? (i := 2) rfl)) dX18_atomic_107 ?_
        exact (db_X18_atomic_110 C K) (x1) (x2) (7302497) s0 _ _ _ h hP hD hS (lv_sub hl [1, 2, 3] rfl)
      · have h := nd_pos h c8
        refine lv_ldc2 hx hb hown (hts (.constantLong RX18 181 (25459)) (List.mem_of_getElem? (i := 39) rfl)) dX18_atomic_101 ?_
        refine lv_goto (tgt := 110) hx hb dX18_atomic_104 (by decide) ?_
        exact (db_X18_atomic_110 C K) (x1) (x2) (25459) s0 _ _ _ h hP hD hS (lv_sub hl [1, 2, 3] rfl)
    · have h := nd_pos h c7
      refine lv_ldc2 hx hb hown (hts (.constantLong RX18 179 (29292)) (List.mem_of_getElem? (i := 40) rfl)) dX18_atomic_90 ?_
      refine lv_goto (tgt := 110) hx hb dX18_atomic_93 (by decide) ?_
      exact (db_X18_atomic_110 C K) (x1) (x2) (29292) s0 _ _ _ h hP hD hS (lv_sub hl [1, 2, 3] rfl)
  · have h := nd_pos h c6
    exact K _ _ _ _ _ dX18_atomic_83 (Option.some.inj h).symm hP hD hS
set_option maxHeartbeats 40000000 in
set_option maxRecDepth 100000 in
theorem db_X18_atomic_71 {p : Program} {l : Launch} {e : Env} {s : State} {m : MethodId} {args : Array Value} {below : List Frame} {meth : Method} {c : Code} {Q : State → Prop} {A : Nat → Prop} {dC : Nat → ClassId} {dI : Nat → Nat → Nat} {a : Nat → Nat} {ac : Nat → ClassId} {n : Nat} {r : St} (C : nd_C p l s m args c A (dC, dI) cX18_atomic 5 RX18 ow_dm_X18_atomic (dk_X18 ac)) (K : nd_Kv p l e (headSpec ow_dm_X18_atomic ({ frames := 3, cells := 0, slots := 0, locals := 67 })).room s m args below meth c Q A (dC, dI) cX18_atomic (St) (dw_X18 a ac) r) : dj_X18_atomic_71 p l e s m args below meth c Q A dC dI a ac (df_X18_atomic_71 n) r := by
  obtain ⟨hlt, hx, hb, hml, hown, hts, hN, hA, hK⟩ := id C
  intro x1 x2 s0 H locs ls h hP hD hS hl
  unfold df_X18_atomic_71 at h
  refine lv_iconst (v := 1) hx hb dX18_atomic_71 (by decide) ?_
  refine lv_goto (tgt := 76) hx hb dX18_atomic_72 (by decide) ?_
  exact (db_X18_atomic_76 C K) (x1) (x2) (1) s0 _ _ _ h hP hD hS (lv_sub hl [0, 1, 2] rfl)
set_option maxHeartbeats 40000000 in
set_option maxRecDepth 100000 in
theorem db_X18_atomic_49 {p : Program} {l : Launch} {e : Env} {s : State} {m : MethodId} {args : Array Value} {below : List Frame} {meth : Method} {c : Code} {Q : State → Prop} {A : Nat → Prop} {dC : Nat → ClassId} {dI : Nat → Nat → Nat} {a : Nat → Nat} {ac : Nat → ClassId} {n : Nat} {r : St} (C : nd_C p l s m args c A (dC, dI) cX18_atomic 5 RX18 ow_dm_X18_atomic (dk_X18 ac)) (K : nd_Kv p l e (headSpec ow_dm_X18_atomic ({ frames := 3, cells := 0, slots := 0, locals := 67 })).room s m args below meth c Q A (dC, dI) cX18_atomic (St) (dw_X18 a ac) r) : dj_X18_atomic_49 p l e s m args below meth c Q A dC dI a ac (df_X18_atomic_49 n) r := by
  obtain ⟨hlt, hx, hb, hml, hown, hts, hN, hA, hK⟩ := id C
  intro x1 x2 y0 s0 H locs ls h hP hD hS hl
  unfold df_X18_atomic_49 at h
  refine lv_istore_n (lv' := [(3, .int y0), (0, .ref (a 0)), (1, .int x1), (2, .int x2)]) hx hb dX18_atomic_49 rfl hl (by decide) rfl (fun ls hl => ?_)
  refine lv_iload_n hx hb dX18_atomic_50 rfl (lv_at hl 2 rfl) ?_
  refine lv_iconst (v := 5) hx hb dX18_atomic_51 (by decide) ?_
  refine lv_icmp_lt (tgt := 71) hx hb dX18_atomic_52 (by decide) (fun c5 => ?_) (fun c5 => ?_)
  · have h := nd_pos h c5
    exact (db_X18_atomic_71 C K) (x1) (x2) s0 _ _ _ h hP hD hS (lv_sub hl [1, 2, 3] rfl)
  · have h := nd_neg h c5
    refine lv_iload_n hx hb dX18_atomic_55 rfl (lv_at hl 2 rfl) ?_
    refine lv_bipush (v := 8) hx hb dX18_atomic_56 (by decide) ?_
    refine lv_icmp_eq (tgt := 71) hx hb dX18_atomic_58 (by decide) (fun c57 => ?_) (fun c57 => ?_)
    · have h := nd_pos h c57
      exact (db_X18_atomic_71 C K) (x1) (x2) s0 _ _ _ h hP hD hS (lv_sub hl [1, 2, 3] rfl)
    · have h := nd_neg h c57
      refine lv_iload_n hx hb dX18_atomic_61 rfl (lv_at hl 2 rfl) ?_
      refine lv_bipush (v := 12) hx hb dX18_atomic_62 (by decide) ?_
      refine lv_icmp_eq (tgt := 71) hx hb dX18_atomic_64 (by decide) (fun c58 => ?_) (fun c58 => ?_)
      · have h := nd_pos h c58
        exact (db_X18_atomic_71 C K) (x1) (x2) s0 _ _ _ h hP hD hS (lv_sub hl [1, 2, 3] rfl)
      · have h := nd_neg h c58
        refine lv_iload_n hx hb dX18_atomic_67 rfl (lv_at hl 0 rfl) ?_
        refine lv_if_eq (tgt := 75) hx hb dX18_atomic_68 (by decide) (fun c59 => ?_) (fun c59 => ?_)
        · have h := nd_pos h c59
          refine lv_iconst (v := 0) hx hb dX18_atomic_75 (by decide) ?_
          exact (db_X18_atomic_76 C K) (x1) (x2) (0) s0 _ _ _ h hP hD hS (lv_sub hl [1, 2, 3] rfl)
        · have h := nd_neg h c59
          exact (db_X18_atomic_71 C K) (x1) (x2) s0 _ _ _ h hP hD hS (lv_sub hl [1, 2, 3] rfl)
set_option maxHeartbeats 40000000 in
set_option maxRecDepth 100000 in
theorem db_X18_atomic_48 {p : Program} {l : Launch} {e : Env} {s : State} {m : MethodId} {args : Array Value} {below : List Frame} {meth : Method} {c : Code} {Q : State → Prop} {A : Nat → Prop} {dC : Nat → ClassId} {dI : Nat → Nat → Nat} {a : Nat → Nat} {ac : Nat → ClassId} {n : Nat} {r : St} (C : nd_C p l s m args c A (dC, dI) cX18_atomic 5 RX18 ow_dm_X18_atomic (dk_X18 ac)) (K : nd_Kv p l e (headSpec ow_dm_X18_atomic ({ frames := 3, cells := 0, slots := 0, locals := 67 })).room s m args below meth c Q A (dC, dI) cX18_atomic (St) (dw_X18 a ac) r) : dj_X18_atomic_48 p l e s m args below meth c Q A dC dI a ac (df_X18_atomic_48 n) r := by
  obtain ⟨hlt, hx, hb, hml, hown, hts, hN, hA, hK⟩ := id C
  intro x1 x2 s0 H locs ls h hP hD hS hl
  unfold df_X18_atomic_48 at h
  refine lv_iconst (v := 0) hx hb dX18_atomic_48 (by decide) ?_
  exact (db_X18_atomic_49 C K) (x1) (x2) (0) s0 _ _ _ h hP hD hS (lv_sub hl [0, 1, 2] rfl)
set_option maxHeartbeats 40000000 in
set_option maxRecDepth 100000 in
theorem db_X18_atomic_31 {p : Program} {l : Launch} {e : Env} {s : State} {m : MethodId} {args : Array Value} {below : List Frame} {meth : Method} {c : Code} {Q : State → Prop} {A : Nat → Prop} {dC : Nat → ClassId} {dI : Nat → Nat → Nat} {a : Nat → Nat} {ac : Nat → ClassId} {n : Nat} {r : St} (C : nd_C p l s m args c A (dC, dI) cX18_atomic 5 RX18 ow_dm_X18_atomic (dk_X18 ac)) (K : nd_Kv p l e (headSpec ow_dm_X18_atomic ({ frames := 3, cells := 0, slots := 0, locals := 67 })).room s m args below meth c Q A (dC, dI) cX18_atomic (St) (dw_X18 a ac) r) : dj_X18_atomic_31 p l e s m args below meth c Q A dC dI a ac (df_X18_atomic_31 n) r := by
  obtain ⟨hlt, hx, hb, hml, hown, hts, hN, hA, hK⟩ := id C
  intro x1 y0 s0 H locs ls h hP hD hS hl
  unfold df_X18_atomic_31 at h
  refine lv_istore_n (lv' := [(2, .int y0), (0, .ref (a 0)), (1, .int x1)]) hx hb dX18_atomic_31 rfl hl (by decide) rfl (fun ls hl => ?_)
  refine lv_iload_n hx hb dX18_atomic_32 rfl (lv_at hl 2 rfl) ?_
  refine lv_bipush (v := 16) hx hb dX18_atomic_33 (by decide) ?_
  refine lv_icmp_lt (tgt := 48) hx hb dX18_atomic_35 (by decide) (fun c4 => ?_) (fun c4 => ?_)
  · have h := nd_pos h c4
    exact (db_X18_atomic_48 C K) (x1) (y0) s0 _ _ _ h hP hD hS (lv_sub hl [1, 2, 0] rfl)
  · have h := nd_neg h c4
    refine lv_iload_n hx hb dX18_atomic_38 rfl (lv_at hl 2 rfl) ?_
    refine lv_iconst (v := 4) hx hb dX18_atomic_39 (by decide) ?_
    refine lv_irem hx hb dX18_atomic_40 (by decide) ?_
    refine lv_if_ne (tgt := 48) hx hb dX18_atomic_41 (by decide) (fun c60 => ?_) (fun c60 => ?_)
    · have h := nd_neg h c60
      exact (db_X18_atomic_48 C K) (x1) (y0) s0 _ _ _ h hP hD hS (lv_sub hl [1, 2, 0] rfl)
    · have h := nd_pos h c60
      refine lv_iconst (v := 1) hx hb dX18_atomic_44 (by decide) ?_
      refine lv_goto (tgt := 49) hx hb dX18_atomic_45 (by decide) ?_
      exact (db_X18_atomic_49 C K) (x1) (y0) (1) s0 _ _ _ h hP hD hS (lv_sub hl [1, 2, 0] rfl)
set_option maxHeartbeats 40000000 in
set_option maxRecDepth 100000 in
theorem db_X18_atomic_21 {p : Program} {l : Launch} {e : Env} {s : State} {m : MethodId} {args : Array Value} {below : List Frame} {meth : Method} {c : Code} {Q : State → Prop} {A : Nat → Prop} {dC : Nat → ClassId} {dI : Nat → Nat → Nat} {a : Nat → Nat} {ac : Nat → ClassId} {n : Nat} {r : St} (C : nd_C p l s m args c A (dC, dI) cX18_atomic 5 RX18 ow_dm_X18_atomic (dk_X18 ac)) (K : nd_Kv p l e (headSpec ow_dm_X18_atomic ({ frames := 3, cells := 0, slots := 0, locals := 67 })).room s m args below meth c Q A (dC, dI) cX18_atomic (St) (dw_X18 a ac) r) : dj_X18_atomic_21 p l e s m args below meth c Q A dC dI a ac (df_X18_atomic_21 n) r := by
  obtain ⟨hlt, hx, hb, hml, hown, hts, hN, hA, hK⟩ := id C
  intro x1 s0 H locs ls h hP hD hS hl
  unfold df_X18_atomic_21 at h
  refine lv_iload_n hx hb dX18_atomic_21 rfl (lv_at hl 1 rfl) ?_
  refine lv_iconst (v := 1) hx hb dX18_atomic_22 (by decide) ?_
  refine lv_icmp_ne (tgt := 30) hx hb dX18_atomic_23 (by decide) (fun c3 => ?_) (fun c3 => ?_)
  · have h := nd_neg h c3
    refine lv_iconst (v := 0) hx hb dX18_atomic_30 (by decide) ?_
    exact (db_X18_atomic_31 C K) (x1) (0) s0 _ _ _ h hP hD hS (lv_sub hl [0, 1] rfl)
  · have h := nd_pos h c3
    refine lv_iconst (v := 1) hx hb dX18_atomic_26 (by decide) ?_
    refine lv_goto (tgt := 31) hx hb dX18_atomic_27 (by decide) ?_
    exact (db_X18_atomic_31 C K) (x1) (1) s0 _ _ _ h hP hD hS (lv_sub hl [0, 1] rfl)
set_option maxHeartbeats 40000000 in
set_option maxRecDepth 100000 in
theorem db_X18_atomic_0 {p : Program} {l : Launch} {e : Env} {s : State} {m : MethodId} {args : Array Value} {below : List Frame} {meth : Method} {c : Code} {Q : State → Prop} {A : Nat → Prop} {dC : Nat → ClassId} {dI : Nat → Nat → Nat} {a : Nat → Nat} {ac : Nat → ClassId} {n : Nat} {r : St} (C : nd_C p l s m args c A (dC, dI) cX18_atomic 5 RX18 ow_dm_X18_atomic (dk_X18 ac)) (K : nd_Kv p l e (headSpec ow_dm_X18_atomic ({ frames := 3, cells := 0, slots := 0, locals := 67 })).room s m args below meth c Q A (dC, dI) cX18_atomic (St) (dw_X18 a ac) r) : dj_X18_atomic_0 p l e s m args below meth c Q A dC dI a ac (df_X18_atomic_0 n) r := by
  obtain ⟨hlt, hx, hb, hml, hown, hts, hN, hA, hK⟩ := id C
  intro v0 s0 H locs ls h hP hD hS hl
  unfold df_X18_atomic_0 at h
  refine lv_aload_n hx hb dX18_atomic_0 rfl (lv_at hl 0 rfl) ?_
  refine va_get (D := (dC, dI)) (ci := 19) (v := .int (sI s0 7)) (C := RX18) (T := TX18) (N := 10) hx hb hts hi_dm_X18_atomic_X18 hown hK hP 0 rfl rfl 8 (by decide) (hts (.fieldLink RX18 80 "TimeMachineModel$Reader" "f" "I") (List.mem_of_getElem? (i := 1) rfl)) (fun _ h9 => h9) rfl dX18_atomic_1 ?_
  refine lv_iconst (v := 2) hx hb dX18_atomic_4 (by decide) ?_
  refine lv_icmp_ne (tgt := 20) hx hb dX18_atomic_5 (by decide) (fun c1 => ?_) (fun c1 => ?_)
  · have h := nd_neg h c1
    exact (db_X18_atomic_20 C K)  s0 _ _ _ h hP hD hS (lv_sub hl [] rfl)
  · have h := nd_pos h c1
    refine lv_iload_n hx hb dX18_atomic_8 rfl (lv_at hl 1 rfl) ?_
    refine lv_iconst (v := 2) hx hb dX18_atomic_9 (by decide) ?_
    refine lv_icmp_ne (tgt := 21) hx hb dX18_atomic_10 (by decide) (fun c2 => ?_) (fun c2 => ?_)
    · have h := nd_neg h c2
      exact (db_X18_atomic_21 C K) (v0) s0 _ _ _ h hP hD hS (lv_sub hl [0, 1] rfl)
    · have h := nd_pos h c2
      refine lv_aload_n hx hb dX18_atomic_13 rfl (lv_at hl 0 rfl) ?_
      refine va_get (D := (dC, dI)) (ci := 19) (v := .int (sI s0 6)) (C := RX18) (T := TX18) (N := 10) hx hb hts hi_dm_X18_atomic_X18 hown hK hP 0 rfl rfl 7 (by decide) (hts (.fieldLink RX18 77 "TimeMachineModel$Reader" "b" "I") (List.mem_of_getElem? (i := 26) rfl)) (fun _ h9 => h9) rfl dX18_atomic_14 ?_
      refine lv_if_eq (tgt := 21) hx hb dX18_atomic_17 (by decide) (fun c61 => ?_) (fun c61 => ?_)
      · have h := nd_pos h c61
        exact (db_X18_atomic_21 C K) (v0) s0 _ _ _ h hP hD hS (lv_sub hl [0, 1] rfl)
      · have h := nd_neg h c61
        exact (db_X18_atomic_20 C K)  s0 _ _ _ h hP hD hS (lv_sub hl [] rfl)
set_option maxHeartbeats 40000000 in
set_option maxRecDepth 100000 in
theorem dm_X18_atomic (l : Launch) (hlt : l.stackTraces = false) (dC : Nat → ClassId) (dI : Nat → Nat → Nat) (a : Nat → Nat) (ac : Nat → ClassId) (n : Nat) (v0 : Int32) (s0 : St) {r : St} (h : df_X18_atomic n v0 s0 = some r) (sz : Nat) : Met l yX18_atomic ow_dm_X18_atomic ({ frames := 3, cells := 0, slots := 0, locals := 67 }) (va_Pc [.ref (a 0), .int v0] (fun U => U.heap.size = sz ∧ va_P (dC, dI) vwCl (dw_X18 a ac s0) U.heap ∧ va_K (dC, dI) vwCl (dk_X18 ac) U ∧ va_D (fun _ => True) (dw_X18 a ac s0) ∧ nv_E dI (va_A (dw_X18 a ac s0) sz) U)) (va_Qv (fun _ => True) (fun (_ : Unit) t => va_P (dC, dI) vwCl (dw_X18 a ac r) t.heap ∧ va_K (dC, dI) vwCl (dk_X18 ac) t ∧ va_D (va_A (dw_X18 a ac s0) sz) (dw_X18 a ac r)) (va_A (dw_X18 a ac s0) sz)) 0 0 (va_A (dw_X18 a ac s0) sz) := by
  refine Met.ofW (cc := cX18_atomic) (maxL := 5) (ret := none) (by decide) rfl ?_
  intro p e s m args below meth c s₁ B hml hv
  obtain ⟨rfl, hsz, hP, hK, hD0, hN⟩ := hv
  have hx := B.exec
  have hb := B.bytes
  have hr := B.returns
  have hts := atoms_spec (ws := ow_dm_X18_atomic) B.pre
  have hown : s.vm.findClass RX18 = some m.cls := findClass_of_methodNamed B.named
  have hlocks := B.notSynchronized
  subst hsz
  have hD := hD0.self (sz := s.heap.size)
  generalize hAe : va_A (dw_X18 a ac s0) s.heap.size = A at hD hN ⊢
  have hA : ∀ q : Nat, s.heap.size ≤ q → A q := fun q h => by rw [← hAe]; exact Or.inr h
  have hl := lv_entry ([.ref (a 0), .int v0]) (n := 5) (Nat.le_of_ble_eq_true rfl)
  rw [lg_entry_eq]
  generalize (lg_sl ([.ref (a 0), .int v0]) ++ List.replicate (5 - (lg_sl ([.ref (a 0), .int v0])).length) Slot.unset).toArray = ls at hl ⊢
  have hl : lv_has ls 5 [(0, .ref (a 0)), (1, .int v0)] := hl
  exact db_X18_atomic_0 (dC := dC) (dI := dI) (a := a) (ac := ac) (n := n) (r := r) ⟨hlt, hx, hb, hml, hown, hts, hN, hA, hK⟩ (fun pc τ H locs ls d er hP hD hS => by subst er; exact W.vret hx hb hr (fun t ht hW => ⟨⟨(), rfl, trivial, by rw [ht]; exact hP, va_K.moved hW.alike hK, hD⟩, hS.F ht⟩) hS.2.2 d) v0 s0 _ _ _ h hP hD va_S.rf (lv_sub hl [0, 1] rfl)
def ow_dm_X18_system : List Cond := Cond.code yX18_system cX18_system 3 none :: ([Cond.fieldLink RX18 20 "TimeMachineModel$Reader" "bits" "I", Cond.constantLong RX18 206 (118066057994853), Cond.methodLink RX18 65 yX18_name, Cond.instanceMethod yX18_name, Cond.selects RX18 yX18_name yX18_name, Cond.initialized RX18, Cond.methodLink RX18 172 yX18_part, Cond.instanceMethod yX18_part, Cond.selects RX18 yX18_part yX18_part, Cond.fieldLink RX18 80 "TimeMachineModel$Reader" "f" "I", Cond.fieldLink RX18 74 "TimeMachineModel$Reader" "a" "I", Cond.constantLong RX18 208 (25714), Cond.constantLong RX18 214 (32762639552835177), Cond.methodLink RX18 50 yX18_say, Cond.instanceMethod yX18_say, Cond.selects RX18 yX18_say yX18_say, Cond.fieldLink RX18 68 "TimeMachineModel$Reader" "d" "I", Cond.methodLink RX18 71 yX18_register, Cond.instanceMethod yX18_register, Cond.selects RX18 yX18_register yX18_register, Cond.methodLink RX18 29 yX18_put, Cond.instanceMethod yX18_put, Cond.selects RX18 yX18_put yX18_put, Cond.constantLong RX18 212 (1701669236), Cond.constantLong RX18 210 (435610155363), Cond.constantLong RX18 204 (465674789733), Cond.constant RX18 203 (1048691)] ++ (u_ws RX18 TX18 10 ++ (ow_dm_X18_name ++ (ow_dm_X18_part ++ (ow_dm_X18_say ++ (ow_dm_X18_register ++ (ow_dm_X18_put ++ [])))))))
theorem gd_dm_X18_system : ∀ w ∈ ow_dm_X18_system, (w.onTables && w.keeps) = true ∨ ∃ ty, w = Cond.arrayClass ty := List.forall_mem_cons.mpr ⟨good_of_word rfl, List.forall_mem_append.mpr ⟨fun w h => good_of_word (List.all_eq_true.mp (by decide +kernel) w h), List.forall_mem_append.mpr ⟨gu_X18, List.forall_mem_append.mpr ⟨gd_dm_X18_name, List.forall_mem_append.mpr ⟨gd_dm_X18_part, List.forall_mem_append.mpr ⟨gd_dm_X18_say, List.forall_mem_append.mpr ⟨gd_dm_X18_register, List.forall_mem_append.mpr ⟨gd_dm_X18_put, fun _ h => nomatch h⟩⟩⟩⟩⟩⟩⟩⟩
theorem hi_dm_X18_system_X18 : ∀ w ∈ u_ws RX18 TX18 10, w ∈ ow_dm_X18_system := fun w h => List.mem_cons_of_mem _ (List.mem_append_right _ (List.mem_append_left _ h))
theorem gi_dm_X18_system_0 : GoodIn ow_dm_X18_system (wsV RX18 65 RX18 yX18_name ow_dm_X18_name) := goodIn_app (goodIn_of _ (by decide +kernel)) (fun w h => ⟨List.mem_cons_of_mem _ (List.mem_append_right _ (List.mem_append_right _ (List.mem_append_left _ h))), gd_dm_X18_name w h⟩)
theorem gi_dm_X18_system_1 : GoodIn ow_dm_X18_system (wsV RX18 172 RX18 yX18_part ow_dm_X18_part) := goodIn_app (goodIn_of _ (by decide +kernel)) (fun w h => ⟨List.mem_cons_of_mem _ (List.mem_append_right _ (List.mem_append_right _ (List.mem_append_right _ (List.mem_append_left _ h)))), gd_dm_X18_part w h⟩)
theorem gi_dm_X18_system_2 : GoodIn ow_dm_X18_system (wsV RX18 50 RX18 yX18_say ow_dm_X18_say) := goodIn_app (goodIn_of _ (by decide +kernel)) (fun w h => ⟨List.mem_cons_of_mem _ (List.mem_append_right _ (List.mem_append_right _ (List.mem_append_right _ (List.mem_append_right _ (List.mem_append_left _ h))))), gd_dm_X18_say w h⟩)
theorem gi_dm_X18_system_3 : GoodIn ow_dm_X18_system (wsV RX18 71 RX18 yX18_register ow_dm_X18_register) := goodIn_app (goodIn_of _ (by decide +kernel)) (fun w h => ⟨List.mem_cons_of_mem _ (List.mem_append_right _ (List.mem_append_right _ (List.mem_append_right _ (List.mem_append_right _ (List.mem_append_right _ (List.mem_append_left _ h)))))), gd_dm_X18_register w h⟩)
theorem gi_dm_X18_system_4 : GoodIn ow_dm_X18_system (wsV RX18 29 RX18 yX18_put ow_dm_X18_put) := goodIn_app (goodIn_of _ (by decide +kernel)) (fun w h => ⟨List.mem_cons_of_mem _ (List.mem_append_right _ (List.mem_append_right _ (List.mem_append_right _ (List.mem_append_right _ (List.mem_append_right _ (List.mem_append_right _ (List.mem_append_left _ h))))))), gd_dm_X18_put w h⟩)
def dj_X18_system_92 (p : Program) (l : Launch) (e : Env) (s : State) (m : MethodId) (args : Array Value) (below : List Frame) (meth : Method) (c : Code) (Q : State → Prop) (A : Nat → Prop) (dC : Nat → ClassId) (dI : Nat → Nat → Nat) (a : Nat → Nat) (ac : Nat → ClassId) (g : (St) → Option (St)) (r : St) : Prop := ∀ (s0 : St) (H : Heap) (locs : List Loc) (ls : Array Slot), g s0 = some r → va_P (dC, dI) vwCl (dw_X18 a ac s0) H → va_D A (dw_X18 a ac s0) → va_S A s.heap H locs → lv_has ls 3 [] → W p l e (headSpec ow_dm_X18_system ({ frames := 3, cells := 0, slots := 0, locals := 67 })).room s m args below meth c H locs 0 0 Q (F0 m 92 ls [])
def dj_X18_system_141 (p : Program) (l : Launch) (e : Env) (s : State) (m : MethodId) (args : Array Value) (below : List Frame) (meth : Method) (c : Code) (Q : State → Prop) (A : Nat → Prop) (dC : Nat → ClassId) (dI : Nat → Nat → Nat) (a : Nat → Nat) (ac : Nat → ClassId) (g : (St) → Option (St)) (r : St) : Prop := ∀ (s0 : St) (H : Heap) (locs : List Loc) (ls : Array Slot), g s0 = some r → va_P (dC, dI) vwCl (dw_X18 a ac s0) H → va_D A (dw_X18 a ac s0) → va_S A s.heap H locs → lv_has ls 3 [(0, .ref (a 0))] → W p l e (headSpec ow_dm_X18_system ({ frames := 3, cells := 0, slots := 0, locals := 67 })).room s m args below meth c H locs 0 0 Q (F0 m 141 ls [])
def dj_X18_system_125 (p : Program) (l : Launch) (e : Env) (s : State) (m : MethodId) (args : Array Value) (below : List Frame) (meth : Method) (c : Code) (Q : State → Prop) (A : Nat → Prop) (dC : Nat → ClassId) (dI : Nat → Nat → Nat) (a : Nat → Nat) (ac : Nat → ClassId) (g : Int32 → Int64 → (St) → Option (St)) (r : St) : Prop := ∀ (x1 : Int32) (y1 : Int64) (s0 : St) (H : Heap) (locs : List Loc) (ls : Array Slot), g x1 y1 s0 = some r → va_P (dC, dI) vwCl (dw_X18 a ac s0) H → va_D A (dw_X18 a ac s0) → va_S A s.heap H locs → lv_has ls 3 [(0, .ref (a 0)), (1, .int x1)] → W p l e (headSpec ow_dm_X18_system ({ frames := 3, cells := 0, slots := 0, locals := 67 })).room s m args below meth c H locs 0 0 Q (F0 m 125 ls [.long y1, .ref (a 0)])
def dj_X18_system_87 (p : Program) (l : Launch) (e : Env) (s : State) (m : MethodId) (args : Array Value) (below : List Frame) (meth : Method) (c : Code) (Q : State → Prop) (A : Nat → Prop) (dC : Nat → ClassId) (dI : Nat → Nat → Nat) (a : Nat → Nat) (ac : Nat → ClassId) (g : Int32 → Int32 → (St) → Option (St)) (r : St) : Prop := ∀ (x1 : Int32) (x2 : Int32) (s0 : St) (H : Heap) (locs : List Loc) (ls : Array Slot), g x1 x2 s0 = some r → va_P (dC, dI) vwCl (dw_X18 a ac s0) H → va_D A (dw_X18 a ac s0) → va_S A s.heap H locs → lv_has ls 3 [(0, .ref (a 0)), (1, .int x1), (2, .int x2)] → W p l e (headSpec ow_dm_X18_system ({ frames := 3, cells := 0, slots := 0, locals := 67 })).room s m args below meth c H locs 0 0 Q (F0 m 87 ls [])
def dj_X18_system_40 (p : Program) (l : Launch) (e : Env) (s : State) (m : MethodId) (args : Array Value) (below : List Frame) (meth : Method) (c : Code) (Q : State → Prop) (A : Nat → Prop) (dC : Nat → ClassId) (dI : Nat → Nat → Nat) (a : Nat → Nat) (ac : Nat → ClassId) (g : (St) → Option (St)) (r : St) : Prop := ∀ (s0 : St) (H : Heap) (locs : List Loc) (ls : Array Slot), g s0 = some r → va_P (dC, dI) vwCl (dw_X18 a ac s0) H → va_D A (dw_X18 a ac s0) → va_S A s.heap H locs → lv_has ls 3 [(0, .ref (a 0))] → W p l e (headSpec ow_dm_X18_system ({ frames := 3, cells := 0, slots := 0, locals := 67 })).room s m args below meth c H locs 0 0 Q (F0 m 40 ls [])
def dj_X18_system_37 (p : Program) (l : Launch) (e : Env) (s : State) (m : MethodId) (args : Array Value) (below : List Frame) (meth : Method) (c : Code) (Q : State → Prop) (A : Nat → Prop) (dC : Nat → ClassId) (dI : Nat → Nat → Nat) (a : Nat → Nat) (ac : Nat → ClassId) (g : Int64 → (St) → Option (St)) (r : St) : Prop := ∀ (y1 : Int64) (s0 : St) (H : Heap) (locs : List Loc) (ls : Array Slot), g y1 s0 = some r → va_P (dC, dI) vwCl (dw_X18 a ac s0) H → va_D A (dw_X18 a ac s0) → va_S A s.heap H locs → lv_has ls 3 [(0, .ref (a 0))] → W p l e (headSpec ow_dm_X18_system ({ frames := 3, cells := 0, slots := 0, locals := 67 })).room s m args below meth c H locs 0 0 Q (F0 m 37 ls [.long y1, .ref (a 0)])
def dj_X18_system_18 (p : Program) (l : Launch) (e : Env) (s : State) (m : MethodId) (args : Array Value) (below : List Frame) (meth : Method) (c : Code) (Q : State → Prop) (A : Nat → Prop) (dC : Nat → ClassId) (dI : Nat → Nat → Nat) (a : Nat → Nat) (ac : Nat → ClassId) (g : (St) → Option (St)) (r : St) : Prop := ∀ (s0 : St) (H : Heap) (locs : List Loc) (ls : Array Slot), g s0 = some r → va_P (dC, dI) vwCl (dw_X18 a ac s0) H → va_D A (dw_X18 a ac s0) → va_S A s.heap H locs → lv_has ls 3 [(0, .ref (a 0))] → W p l e (headSpec ow_dm_X18_system ({ frames := 3, cells := 0, slots := 0, locals := 67 })).room s m args below meth c H locs 0 0 Q (F0 m 18 ls [])
def dj_X18_system_0 (p : Program) (l : Launch) (e : Env) (s : State) (m : MethodId) (args : Array Value) (below : List Frame) (meth : Method) (c : Code) (Q : State → Prop) (A : Nat → Prop) (dC : Nat → ClassId) (dI : Nat → Nat → Nat) (a : Nat → Nat) (ac : Nat → ClassId) (g : (St) → Option (St)) (r : St) : Prop := ∀ (s0 : St) (H : Heap) (locs : List Loc) (ls : Array Slot), g s0 = some r → va_P (dC, dI) vwCl (dw_X18 a ac s0) H → va_D A (dw_X18 a ac s0) → va_S A s.heap H locs → lv_has ls 3 [(0, .ref (a 0))] → W p l e (headSpec ow_dm_X18_system ({ frames := 3, cells := 0, slots := 0, locals := 67 })).room s m args below meth c H locs 0 0 Q (F0 m 0 ls [])
set_option maxHeartbeats 40000000 in
set_option maxRecDepth 100000 in
theorem db_X18_system_92 {p : Program} {l : Launch} {e : Env} {s : State} {m : MethodId} {args : Array Value} {below : List Frame} {meth : Method} {c : Code} {Q : State → Prop} {A : Nat → Prop} {dC : Nat → ClassId} {dI : Nat → Nat → Nat} {a : Nat → Nat} {ac : Nat → ClassId} {n : Nat} {r : St} (C : nd_C p l s m args c A (dC, dI) cX18_system 3 RX18 ow_dm_X18_system (dk_X18 ac)) (K : nd_Kv p l e (headSpec ow_dm_X18_system ({ frames := 3, cells := 0, slots := 0, locals := 67 })).room s m args below meth c Q A (dC, dI) cX18_system (St) (dw_X18 a ac) r) : dj_X18_system_92 p l e s m args below meth c Q A dC dI a ac (df_X18_system_92 n) r := by
  obtain ⟨hlt, hx, hb, hml, hown, hts, hN, hA, hK⟩ := id C
  intro s0 H locs ls h hP hD hS hl
  unfold df_X18_system_92 at h
  exact K _ _ _ _ _ dX18_system_92 (Option.some.inj h).symm hP hD hS
set_option maxHeartbeats 40000000 in
set_option maxRecDepth 100000 in
theorem db_X18_system_141 {p : Program} {l : Launch} {e : Env} {s : State} {m : MethodId} {args : Array Value} {below : List Frame} {meth : Method} {c : Code} {Q : State → Prop} {A : Nat → Prop} {dC : Nat → ClassId} {dI : Nat → Nat → Nat} {a : Nat → Nat} {ac : Nat → ClassId} {n : Nat} {r : St} (C : nd_C p l s m args c A (dC, dI) cX18_system 3 RX18 ow_dm_X18_system (dk_X18 ac)) (K : nd_Kv p l e (headSpec ow_dm_X18_system ({ frames := 3, cells := 0, slots := 0, locals := 67 })).room s m args below meth c Q A (dC, dI) cX18_system (St) (dw_X18 a ac) r) : dj_X18_system_141 p l e s m args below meth c Q A dC dI a ac (df_X18_system_141 n) r := by
  obtain ⟨hlt, hx, hb, hml, hown, hts, hN, hA, hK⟩ := id C
  intro s0 H locs ls h hP hD hS hl
  unfold df_X18_system_141 at h
  refine lv_aload_n hx hb dX18_system_141 rfl (lv_at hl 0 rfl) ?_
  refine lv_aload_n hx hb dX18_system_142 rfl (lv_at hl 0 rfl) ?_
  refine va_get (D := (dC, dI)) (ci := 19) (v := .int (sI s0 4)) (C := RX18) (T := TX18) (N := 10) hx hb hts hi_dm_X18_system_X18 hown hK hP 0 rfl rfl 5 (by decide) (hts (.fieldLink RX18 68 "TimeMachineModel$Reader" "d" "I") (List.mem_of_getElem? (i := 17) rfl)) (fun _ h9 => h9) rfl dX18_system_143 ?_
  obtain ⟨s24, hq, h⟩ := nd_b1_e h
  have hPc := hP
  have hDc := hD
  have hKc := hK
  have hFc := nd_rs hD hS hA
  refine nd_cVv (As := [.int (sI s0 4)]) (rest := []) (w' := dw_X18 a ac s24) ⟨hx, hb, hml, hown, hts⟩ (fun sz => dm_X18_register l hlt dC dI a ac n ((sI s0 4)) s0 hq sz) (cwV 1 hts gi_dm_X18_system_3 rfl rfl rfl (by decide +kernel) ⟨Nat.le_of_ble_eq_true rfl, Nat.le_of_ble_eq_true rfl⟩) hPc hDc hKc hS hA hN (va_recv hKc hPc (ci := 19) (q0 := 0) rfl rfl) rfl hl.1 rfl (Nat.le_of_ble_eq_true rfl) dX18_system_146 (fun H locs hP1 hD1 hk1 hS => ?_)
  have hP := hP1
  have hD := hD1.weaken (fun k q _ h => hFc q.1 h)
  exact K _ _ _ _ _ dX18_system_149 (Option.some.inj h).symm hP hD hS
set_option maxHeartbeats 40000000 in
set_option maxRecDepth 100000 in
theorem db_X18_system_125 {p : Program} {l : Launch} {e : Env} {s : State} {m : MethodId} {args : Array Value} {below : List Frame} {meth : Method} {c : Code} {Q : State → Prop} {A : Nat → Prop} {dC : Nat → ClassId} {dI : Nat → Nat → Nat} {a : Nat → Nat} {ac : Nat → ClassId} {n : Nat} {r : St} (C : nd_C p l s m args c A (dC, dI) cX18_system 3 RX18 ow_dm_X18_system (dk_X18 ac)) (K : nd_Kv p l e (headSpec ow_dm_X18_system ({ frames := 3, cells := 0, slots := 0, locals := 67 })).room s m args below meth c Q A (dC, dI) cX18_system (St) (dw_X18 a ac) r) : dj_X18_system_125 p l e s m args below meth c Q A dC dI a ac (df_X18_system_125 n) r := by
  obtain ⟨hlt, hx, hb, hml, hown, hts, hN, hA, hK⟩ := id C
  intro x1 y1 s0 H locs ls h hP hD hS hl
  unfold df_X18_system_125 at h
  obtain ⟨s20, hq, h⟩ := nd_b1_e h
  have hPc := hP
  have hDc := hD
  have hKc := hK
  have hFc := nd_rs hD hS hA
  refine nd_cVv (As := [.long y1]) (rest := []) (w' := dw_X18 a ac s20) ⟨hx, hb, hml, hown, hts⟩ (fun sz => dm_X18_say l hlt dC dI a ac n (y1) s0 hq sz) (cwV 1 hts gi_dm_X18_system_2 rfl rfl rfl (by decide +kernel) ⟨Nat.le_of_ble_eq_true rfl, Nat.le_of_ble_eq_true rfl⟩) hPc hDc hKc hS hA hN (va_recv hKc hPc (ci := 19) (q0 := 0) rfl rfl) rfl hl.1 rfl (Nat.le_of_ble_eq_true rfl) dX18_system_125 (fun H locs hP1 hD1 hk1 hS => ?_)
  have hP := hP1
  have hD := hD1.weaken (fun k q _ h => hFc q.1 h)
  refine lv_iload_n hx hb dX18_system_128 rfl (lv_at hl 1 rfl) ?_
  refine lv_sipush (v := 3200) hx hb dX18_system_129 (by decide) ?_
  refine lv_icmp_lt (tgt := 141) hx hb dX18_system_132 (by decide) (fun c22 => ?_) (fun c22 => ?_)
  · have h := nd_pos h c22
    exact (db_X18_system_141 C K)  s20 _ _ _ h hP hD hS (lv_sub hl [0] rfl)
  · have h := nd_neg h c22
    refine lv_aload_n hx hb dX18_system_135 rfl (lv_at hl 0 rfl) ?_
    refine lv_bipush (v := 104) hx hb dX18_system_136 (by decide) ?_
    obtain ⟨s27, hq, h⟩ := nd_b1_e h
    have hPc := hP
    have hDc := hD
    have hKc := hK
    have hFc := nd_rs hD hS hA
    refine nd_cVv (As := [.int 104]) (rest := []) (w' := dw_X18 a ac s27) ⟨hx, hb, hml, hown, hts⟩ (fun sz => dm_X18_put l hlt dC dI a ac n (104) s20 hq sz) (cwV 1 hts gi_dm_X18_system_4 rfl rfl rfl (by decide +kernel) ⟨Nat.le_of_ble_eq_true rfl, Nat.le_of_ble_eq_true rfl⟩) hPc hDc hKc hS hA hN (va_recv hKc hPc (ci := 19) (q0 := 0) rfl rfl) rfl hl.1 rfl (Nat.le_of_ble_eq_true rfl) dX18_system_138 (fun H locs hP1 hD1 hk1 hS => ?_)
    have hP := hP1
    have hD := hD1.weaken (fun k q _ h => hFc q.1 h)
    exact (db_X18_system_141 C K)  s27 _ _ _ h hP hD hS (lv_sub hl [0] rfl)
set_option maxHeartbeats 40000000 in
set_option maxRecDepth 100000 in
theorem db_X18_system_87 {p : Program} {l : Launch} {e : Env} {s : State} {m : MethodId} {args : Array Value} {below : List Frame} {meth : Method} {c : Code} {Q : State → Prop} {A : Nat → Prop} {dC : Nat → ClassId} {dI : Nat → Nat → Nat} {a : Nat → Nat} {ac : Nat → ClassId} {n : Nat} {r : St} (C : nd_C p l s m args c A (dC, dI) cX18_system 3 RX18 ow_dm_X18_system (dk_X18 ac)) (K : nd_Kv p l e (headSpec ow_dm_X18_system ({ frames := 3, cells := 0, slots := 0, locals := 67 })).room s m args below meth c Q A (dC, dI) cX18_system (St) (dw_X18 a ac) r) : dj_X18_system_87 p l e s m args below meth c Q A dC dI a ac (df_X18_system_87 n) r := by
  obtain ⟨hlt, hx, hb, hml, hown, hts, hN, hA, hK⟩ := id C
  intro x1 x2 s0 H locs ls h hP hD hS hl
  unfold df_X18_system_87 at h
  refine lv_iload_n hx hb dX18_system_87 rfl (lv_at hl 2 rfl) ?_
  refine lv_iconst (v := 2) hx hb dX18_system_88 (by decide) ?_
  refine lv_icmp_le (tgt := 93) hx hb dX18_system_89 (by decide) (fun c13 => ?_) (fun c13 => ?_)
  · have h := nd_pos h c13
    refine lv_aload_n hx hb dX18_system_93 rfl (lv_at hl 0 rfl) ?_
    refine lv_ldc2 hx hb hown (hts (.constantLong RX18 208 (25714)) (List.mem_of_getElem? (i := 12) rfl)) dX18_system_94 ?_
    obtain ⟨s15, hq, h⟩ := nd_b1_e h
    have hPc := hP
    have hDc := hD
    have hKc := hK
    have hFc := nd_rs hD hS hA
    refine nd_cVv (As := [.long 25714]) (rest := []) (w' := dw_X18 a ac s15) ⟨hx, hb, hml, hown, hts⟩ (fun sz => dm_X18_name l hlt dC dI a ac n (25714) s0 hq sz) (cwV 1 hts gi_dm_X18_system_0 rfl rfl rfl (by decide +kernel) ⟨Nat.le_of_ble_eq_true rfl, Nat.le_of_ble_eq_true rfl⟩) hPc hDc hKc hS hA hN (va_recv hKc hPc (ci := 19) (q0 := 0) rfl rfl) rfl hl.1 rfl (Nat.le_of_ble_eq_true rfl) dX18_system_97 (fun H locs hP1 hD1 hk1 hS => ?_)
    have hP := hP1
    have hD := hD1.weaken (fun k q _ h => hFc q.1 h)
    refine lv_aload_n hx hb dX18_system_100 rfl (lv_at hl 0 rfl) ?_
    refine lv_iload_n hx hb dX18_system_101 rfl (lv_at hl 2 rfl) ?_
    refine lv_if_ne (tgt := 111) hx hb dX18_system_102 (by decide) (fun c17 => ?_) (fun c17 => ?_)
    · have h := nd_neg h c17
      refine lv_iload_n hx hb dX18_system_111 rfl (lv_at hl 2 rfl) ?_
      refine lv_iconst (v := 1) hx hb dX18_system_112 (by decide) ?_
      refine lv_icmp_ne (tgt := 122) hx hb dX18_system_113 (by decide) (fun c18 => ?_) (fun c18 => ?_)
      · have h := nd_neg h c18
        refine lv_ldc2 hx hb hown (hts (.constantLong RX18 214 (32762639552835177)) (List.mem_of_getElem? (i := 13) rfl)) dX18_system_122 ?_
        exact (db_X18_system_125 C K) (x1) (32762639552835177) s15 _ _ _ h hP hD hS (lv_sub hl [0, 1] rfl)
      · have h := nd_pos h c18
        refine lv_ldc2 hx hb hown (hts (.constantLong RX18 212 (1701669236)) (List.mem_of_getElem? (i := 24) rfl)) dX18_system_116 ?_
        refine lv_goto (tgt := 125) hx hb dX18_system_119 (by decide) ?_
        exact (db_X18_system_125 C K) (x1) (1701669236) s15 _ _ _ h hP hD hS (lv_sub hl [0, 1] rfl)
    · have h := nd_pos h c17
      refine lv_ldc2 hx hb hown (hts (.constantLong RX18 210 (435610155363)) (List.mem_of_getElem? (i := 25) rfl)) dX18_system_105 ?_
      refine lv_goto (tgt := 125) hx hb dX18_system_108 (by decide) ?_
      exact (db_X18_system_125 C K) (x1) (435610155363) s15 _ _ _ h hP hD hS (lv_sub hl [0, 1] rfl)
  · have h := nd_neg h c13
    exact (db_X18_system_92 C K)  s0 _ _ _ h hP hD hS (lv_sub hl [] rfl)
set_option maxHeartbeats 40000000 in
set_option maxRecDepth 100000 in
theorem db_X18_system_40 {p : Program} {l : Launch} {e : Env} {s : State} {m : MethodId} {args : Array Value} {below : List Frame} {meth : Method} {c : Code} {Q : State → Prop} {A : Nat → Prop} {dC : Nat → ClassId} {dI : Nat → Nat → Nat} {a : Nat → Nat} {ac : Nat → ClassId} {n : Nat} {r : St} (C : nd_C p l s m args c A (dC, dI) cX18_system 3 RX18 ow_dm_X18_system (dk_X18 ac)) (K : nd_Kv p l e (headSpec ow_dm_X18_system ({ frames := 3, cells := 0, slots := 0, locals := 67 })).room s m args below meth c Q A (dC, dI) cX18_system (St) (dw_X18 a ac) r) : dj_X18_system_40 p l e s m args below meth c Q A dC dI a ac (df_X18_system_40 n) r := by
  obtain ⟨hlt, hx, hb, hml, hown, hts, hN, hA, hK⟩ := id C
  intro s0 H locs ls h hP hD hS hl
  unfold df_X18_system_40 at h
  refine lv_aload_n hx hb dX18_system_40 rfl (lv_at hl 0 rfl) ?_
  refine lv_bipush (v := 20) hx hb dX18_system_41 (by decide) ?_
  refine lv_bipush (v := 12) hx hb dX18_system_43 (by decide) ?_
  obtain ⟨q6, s7, hq, h⟩ := nd_b2_e h
  have hPc := hP
  have hDc := hD
  have hKc := hK
  have hFc := nd_rs hD hS hA
  refine nd_cVi (As := [.int 20, .int 12]) (rest := []) (q := q6) (w' := dw_X18 a ac s7) ⟨hx, hb, hml, hown, hts⟩ (fun sz => dm_X18_part l hlt dC dI a ac n (20) (12) s0 hq sz) (cwV 2 hts gi_dm_X18_system_1 rfl rfl rfl (by decide +kernel) ⟨Nat.le_of_ble_eq_true rfl, Nat.le_of_ble_eq_true rfl⟩) hPc hDc hKc hS hA hN (va_recv hKc hPc (ci := 19) (q0 := 0) rfl rfl) rfl hl.1 rfl (Nat.le_of_ble_eq_true rfl) dX18_system_45 (fun H locs hP1 hD1 hk1 hS => ?_)
  have hP := hP1
  have hD := hD1.weaken (fun k q _ h => hFc q.1 h)
  refine lv_istore_n (lv' := [(1, .int q6), (0, .ref (a 0))]) hx hb dX18_system_48 rfl hl (by decide) rfl (fun ls hl => ?_)
  refine lv_iload_n hx hb dX18_system_49 rfl (lv_at hl 0 rfl) ?_
  refine lv_bipush (v := 127) hx hb dX18_system_50 (by decide) ?_
  refine lv_iand hx hb dX18_system_52 ?_
  refine lv_topi (fun z9 ez9 => ?_)
  have h := nd_at h ez9
  refine lv_istore_n (lv' := [(2, .int z9), (1, .int q6), (0, .ref (a 0))]) hx hb dX18_system_53 rfl hl (by decide) rfl (fun ls hl => ?_)
  refine lv_aload_n hx hb dX18_system_54 rfl (lv_at hl 2 rfl) ?_
  refine va_get (D := (dC, dI)) (ci := 19) (v := .int (sI s7 7)) (C := RX18) (T := TX18) (N := 10) hx hb hts hi_dm_X18_system_X18 hown hK hP 0 rfl rfl 8 (by decide) (hts (.fieldLink RX18 80 "TimeMachineModel$Reader" "f" "I") (List.mem_of_getElem? (i := 10) rfl)) (fun _ h9 => h9) rfl dX18_system_55 ?_
  refine lv_iconst (v := 2) hx hb dX18_system_58 (by decide) ?_
  refine lv_icmp_ne (tgt := 92) hx hb dX18_system_59 (by decide) (fun c10 => ?_) (fun c10 => ?_)
  · have h := nd_neg h c10
    exact (db_X18_system_92 C K)  s7 _ _ _ h hP hD hS (lv_sub hl [] rfl)
  · have h := nd_pos h c10
    refine lv_aload_n hx hb dX18_system_62 rfl (lv_at hl 2 rfl) ?_
    refine va_get (D := (dC, dI)) (ci := 19) (v := .int (sI s7 5)) (C := RX18) (T := TX18) (N := 10) hx hb hts hi_dm_X18_system_X18 hown hK hP 0 rfl rfl 6 (by decide) (hts (.fieldLink RX18 74 "TimeMachineModel$Reader" "a" "I") (List.mem_of_getElem? (i := 11) rfl)) (fun _ h9 => h9) rfl dX18_system_63 ?_
    refine lv_if_ne (tgt := 92) hx hb dX18_system_66 (by decide) (fun c11 => ?_) (fun c11 => ?_)
    · have h := nd_neg h c11
      exact (db_X18_system_92 C K)  s7 _ _ _ h hP hD hS (lv_sub hl [] rfl)
    · have h := nd_pos h c11
      refine lv_iload_n hx hb dX18_system_69 rfl (lv_at hl 1 rfl) ?_
      refine lv_iload_n hx hb dX18_system_70 rfl (lv_at hl 0 rfl) ?_
      refine lv_isub hx hb dX18_system_71 ?_
      refine lv_sipush (v := 3072) hx hb dX18_system_72 (by decide) ?_
      refine lv_icmp_eq (tgt := 87) hx hb dX18_system_75 (by decide) (fun c12 => ?_) (fun c12 => ?_)
      · have h := nd_pos h c12
        exact (db_X18_system_87 C K) (q6) (z9) s7 _ _ _ h hP hD hS (lv_sub hl [2, 1, 0] rfl)
      · have h := nd_neg h c12
        refine lv_iload_n hx hb dX18_system_78 rfl (lv_at hl 1 rfl) ?_
        refine lv_iload_n hx hb dX18_system_79 rfl (lv_at hl 0 rfl) ?_
        refine lv_isub hx hb dX18_system_80 ?_
        refine lv_sipush (v := 3200) hx hb dX18_system_81 (by decide) ?_
        refine lv_icmp_ne (tgt := 92) hx hb dX18_system_84 (by decide) (fun c29 => ?_) (fun c29 => ?_)
        · have h := nd_neg h c29
          exact (db_X18_system_92 C K)  s7 _ _ _ h hP hD hS (lv_sub hl [] rfl)
        · have h := nd_pos h c29
          exact (db_X18_system_87 C K) (q6) (z9) s7 _ _ _ h hP hD hS (lv_sub hl [2, 1, 0] rfl)
set_option maxHeartbeats 40000000 in
set_option maxRecDepth 100000 in
theorem db_X18_system_37 {p : Program} {l : Launch} {e : Env} {s : State} {m : MethodId} {args : Array Value} {below : List Frame} {meth : Method} {c : Code} {Q : State → Prop} {A : Nat → Prop} {dC : Nat → ClassId} {dI : Nat → Nat → Nat} {a : Nat → Nat} {ac : Nat → ClassId} {n : Nat} {r : St} (C : nd_C p l s m args c A (dC, dI) cX18_system 3 RX18 ow_dm_X18_system (dk_X18 ac)) (K : nd_Kv p l e (headSpec ow_dm_X18_system ({ frames := 3, cells := 0, slots := 0, locals := 67 })).room s m args below meth c Q A (dC, dI) cX18_system (St) (dw_X18 a ac) r) : dj_X18_system_37 p l e s m args below meth c Q A dC dI a ac (df_X18_system_37 n) r := by
  obtain ⟨hlt, hx, hb, hml, hown, hts, hN, hA, hK⟩ := id C
  intro y1 s0 H locs ls h hP hD hS hl
  unfold df_X18_system_37 at h
  obtain ⟨s4, hq, h⟩ := nd_b1_e h
  have hPc := hP
  have hDc := hD
  have hKc := hK
  have hFc := nd_rs hD hS hA
  refine nd_cVv (As := [.long y1]) (rest := []) (w' := dw_X18 a ac s4) ⟨hx, hb, hml, hown, hts⟩ (fun sz => dm_X18_name l hlt dC dI a ac n (y1) s0 hq sz) (cwV 1 hts gi_dm_X18_system_0 rfl rfl rfl (by decide +kernel) ⟨Nat.le_of_ble_eq_true rfl, Nat.le_of_ble_eq_true rfl⟩) hPc hDc hKc hS hA hN (va_recv hKc hPc (ci := 19) (q0 := 0) rfl rfl) rfl hl.1 rfl (Nat.le_of_ble_eq_true rfl) dX18_system_37 (fun H locs hP1 hD1 hk1 hS => ?_)
  have hP := hP1
  have hD := hD1.weaken (fun k q _ h => hFc q.1 h)
  exact (db_X18_system_40 C K)  s4 _ _ _ h hP hD hS (lv_sub hl [0] rfl)
set_option maxHeartbeats 40000000 in
set_option maxRecDepth 100000 in
theorem db_X18_system_18 {p : Program} {l : Launch} {e : Env} {s : State} {m : MethodId} {args : Array Value} {below : List Frame} {meth : Method} {c : Code} {Q : State → Prop} {A : Nat → Prop} {dC : Nat → ClassId} {dI : Nat → Nat → Nat} {a : Nat → Nat} {ac : Nat → ClassId} {n : Nat} {r : St} (C : nd_C p l s m args c A (dC, dI) cX18_system 3 RX18 ow_dm_X18_system (dk_X18 ac)) (K : nd_Kv p l e (headSpec ow_dm_X18_system ({ frames := 3, cells := 0, slots := 0, locals := 67 })).room s m args below meth c Q A (dC, dI) cX18_system (St) (dw_X18 a ac) r) : dj_X18_system_18 p l e s m args below meth c Q A dC dI a ac (df_X18_system_18 n) r := by
  obtain ⟨hlt, hx, hb, hml, hown, hts, hN, hA, hK⟩ := id C
  intro s0 H locs ls h hP hD hS hl
  unfold df_X18_system_18 at h
  refine lv_aload_n hx hb dX18_system_18 rfl (lv_at hl 0 rfl) ?_
  refine lv_aload_n hx hb dX18_system_19 rfl (lv_at hl 0 rfl) ?_
  refine va_get (D := (dC, dI)) (ci := 19) (v := .int (sI s0 3)) (C := RX18) (T := TX18) (N := 10) hx hb hts hi_dm_X18_system_X18 hown hK hP 0 rfl rfl 4 (by decide) (hts (.fieldLink RX18 20 "TimeMachineModel$Reader" "bits" "I") (List.mem_of_getElem? (i := 1) rfl)) (fun _ h9 => h9) rfl dX18_system_20 ?_
  refine lv_bipush (v := 115) hx hb dX18_system_23 (by decide) ?_
  refine lv_icmp_ne (tgt := 34) hx hb dX18_system_25 (by decide) (fun c2 => ?_) (fun c2 => ?_)
  · have h := nd_neg h c2
    refine lv_ldc2 hx hb hown (hts (.constantLong RX18 206 (118066057994853)) (List.mem_of_getElem? (i := 2) rfl)) dX18_system_34 ?_
    exact (db_X18_system_37 C K) (118066057994853) s0 _ _ _ h hP hD hS (lv_sub hl [0] rfl)
  · have h := nd_pos h c2
    refine lv_ldc2 hx hb hown (hts (.constantLong RX18 204 (465674789733)) (List.mem_of_getElem? (i := 26) rfl)) dX18_system_28 ?_
    refine lv_goto (tgt := 37) hx hb dX18_system_31 (by decide) ?_
    exact (db_X18_system_37 C K) (465674789733) s0 _ _ _ h hP hD hS (lv_sub hl [0] rfl)
set_option maxHeartbeats 40000000 in
set_option maxRecDepth 100000 in
theorem db_X18_system_0 {p : Program} {l : Launch} {e : Env} {s : State} {m : MethodId} {args : Array Value} {below : List Frame} {meth : Method} {c : Code} {Q : State → Prop} {A : Nat → Prop} {dC : Nat → ClassId} {dI : Nat → Nat → Nat} {a : Nat → Nat} {ac : Nat → ClassId} {n : Nat} {r : St} (C : nd_C p l s m args c A (dC, dI) cX18_system 3 RX18 ow_dm_X18_system (dk_X18 ac)) (K : nd_Kv p l e (headSpec ow_dm_X18_system ({ frames := 3, cells := 0, slots := 0, locals := 67 })).room s m args below meth c Q A (dC, dI) cX18_system (St) (dw_X18 a ac) r) : dj_X18_system_0 p l e s m args below meth c Q A dC dI a ac (df_X18_system_0 n) r := by
  obtain ⟨hlt, hx, hb, hml, hown, hts, hN, hA, hK⟩ := id C
  intro s0 H locs ls h hP hD hS hl
  unfold df_X18_system_0 at h
  refine lv_aload_n hx hb dX18_system_0 rfl (lv_at hl 0 rfl) ?_
  refine va_get (D := (dC, dI)) (ci := 19) (v := .int (sI s0 3)) (C := RX18) (T := TX18) (N := 10) hx hb hts hi_dm_X18_system_X18 hown hK hP 0 rfl rfl 4 (by decide) (hts (.fieldLink RX18 20 "TimeMachineModel$Reader" "bits" "I") (List.mem_of_getElem? (i := 1) rfl)) (fun _ h9 => h9) rfl dX18_system_1 ?_
  refine lv_bipush (v := 115) hx hb dX18_system_4 (by decide) ?_
  refine lv_icmp_eq (tgt := 18) hx hb dX18_system_6 (by decide) (fun c1 => ?_) (fun c1 => ?_)
  · have h := nd_pos h c1
    exact (db_X18_system_18 C K)  s0 _ _ _ h hP hD hS (lv_sub hl [0] rfl)
  · have h := nd_neg h c1
    refine lv_aload_n hx hb dX18_system_9 rfl (lv_at hl 0 rfl) ?_
    refine va_get (D := (dC, dI)) (ci := 19) (v := .int (sI s0 3)) (C := RX18) (T := TX18) (N := 10) hx hb hts hi_dm_X18_system_X18 hown hK hP 0 rfl rfl 4 (by decide) (hts (.fieldLink RX18 20 "TimeMachineModel$Reader" "bits" "I") (List.mem_of_getElem? (i := 1) rfl)) (fun _ h9 => h9) rfl dX18_system_10 ?_
    refine lv_ldc hx hb hown (hts (.constant RX18 203 (1048691)) (List.mem_of_getElem? (i := 27) rfl)) dX18_system_13 ?_
    refine lv_icmp_ne (tgt := 40) hx hb dX18_system_15 (by decide) (fun c30 => ?_) (fun c30 => ?_)
    · have h := nd_neg h c30
      exact (db_X18_system_40 C K)  s0 _ _ _ h hP hD hS (lv_sub hl [0] rfl)
    · have h := nd_pos h c30
      exact (db_X18_system_18 C K)  s0 _ _ _ h hP hD hS (lv_sub hl [0] rfl)
set_option maxHeartbeats 40000000 in
set_option maxRecDepth 100000 in
theorem dm_X18_system (l : Launch) (hlt : l.stackTraces = false) (dC : Nat → ClassId) (dI : Nat → Nat → Nat) (a : Nat → Nat) (ac : Nat → ClassId) (n : Nat) (s0 : St) {r : St} (h : df_X18_system n s0 = some r) (sz : Nat) : Met l yX18_system ow_dm_X18_system ({ frames := 3, cells := 0, slots := 0, locals := 67 }) (va_Pc [.ref (a 0)] (fun U => U.heap.size = sz ∧ va_P (dC, dI) vwCl (dw_X18 a ac s0) U.heap ∧ va_K (dC, dI) vwCl (dk_X18 ac) U ∧ va_D (fun _ => True) (dw_X18 a ac s0) ∧ nv_E dI (va_A (dw_X18 a ac s0) sz) U)) (va_Qv (fun _ => True) (fun (_ : Unit) t => va_P (dC, dI) vwCl (dw_X18 a ac r) t.heap ∧ va_K (dC, dI) vwCl (dk_X18 ac) t ∧ va_D (va_A (dw_X18 a ac s0) sz) (dw_X18 a ac r)) (va_A (dw_X18 a ac s0) sz)) 0 0 (va_A (dw_X18 a ac s0) sz) := by
  refine Met.ofW (cc := cX18_system) (maxL := 3) (ret := none) (by decide) rfl ?_
  intro p e s m args below meth c s₁ B hml hv
  obtain ⟨rfl, hsz, hP, hK, hD0, hN⟩ := hv
  have hx := B.exec
  have hb := B.bytes
  have hr := B.returns
  have hts := atoms_spec (ws := ow_dm_X18_system) B.pre
  have hown : s.vm.findClass RX18 = some m.cls := findClass_of_methodNamed B.named
  have hlocks := B.notSynchronized
  subst hsz
  have hD := hD0.self (sz := s.heap.size)
  generalize hAe : va_A (dw_X18 a ac s0) s.heap.size = A at hD hN ⊢
  have hA : ∀ q : Nat, s.heap.size ≤ q → A q := fun q h => by rw [← hAe]; exact Or.inr h
  have hl := lv_entry ([.ref (a 0)]) (n := 3) (Nat.le_of_ble_eq_true rfl)
  rw [lg_entry_eq]
  generalize (lg_sl ([.ref (a 0)]) ++ List.replicate (3 - (lg_sl ([.ref (a 0)])).length) Slot.unset).toArray = ls at hl ⊢
  have hl : lv_has ls 3 [(0, .ref (a 0))] := hl
  exact db_X18_system_0 (dC := dC) (dI := dI) (a := a) (ac := ac) (n := n) (r := r) ⟨hlt, hx, hb, hml, hown, hts, hN, hA, hK⟩ (fun pc τ H locs ls d er hP hD hS => by subst er; exact W.vret hx hb hr (fun t ht hW => ⟨⟨(), rfl, trivial, by rw [ht]; exact hP, va_K.moved hW.alike hK, hD⟩, hS.F ht⟩) hS.2.2 d) s0 _ _ _ h hP hD va_S.rf (lv_sub hl [0] rfl)
def ow_dm_X18_others : List Cond := Cond.code yX18_others cX18_others 2 none :: ([Cond.fieldLink RX18 20 "TimeMachineModel$Reader" "bits" "I", Cond.constantLong RX18 242 (427087721825), Cond.methodLink RX18 65 yX18_name, Cond.instanceMethod yX18_name, Cond.selects RX18 yX18_name yX18_name, Cond.initialized RX18, Cond.fieldLink RX18 68 "TimeMachineModel$Reader" "d" "I", Cond.methodLink RX18 71 yX18_register, Cond.instanceMethod yX18_register, Cond.selects RX18 yX18_register yX18_register, Cond.methodLink RX18 59 yX18_immediate, Cond.instanceMethod yX18_immediate, Cond.selects RX18 yX18_immediate yX18_immediate, Cond.constantLong RX18 240 (6911340), Cond.constant RX18 248 (267386895), Cond.constantLong RX18 251 (29605885549372774), Cond.constantLong RX18 249 (435459876198), Cond.constantLong RX18 246 (7102826), Cond.methodLink RX18 172 yX18_part, Cond.instanceMethod yX18_part, Cond.selects RX18 yX18_part yX18_part, Cond.methodLink RX18 176 yX18_target, Cond.instanceMethod yX18_target, Cond.selects RX18 yX18_target yX18_target, Cond.fieldLink RX18 80 "TimeMachineModel$Reader" "f" "I", Cond.constantLong RX18 244 (1919705450), Cond.fieldLink RX18 74 "TimeMachineModel$Reader" "a" "I", Cond.methodLink RX18 150 yX18_memory, Cond.instanceMethod yX18_memory, Cond.selects RX18 yX18_memory yX18_memory] ++ (u_ws RX18 TX18 10 ++ (ow_dm_X18_name ++ (ow_dm_X18_register ++ (ow_dm_X18_immediate ++ (ow_dm_X18_part ++ (ow_dm_X18_target ++ (ow_dm_X18_memory ++ []))))))))
theorem gd_dm_X18_others : ∀ w ∈ ow_dm_X18_others, (w.onTables && w.keeps) = true ∨ ∃ ty, w = Cond.arrayClass ty := List.forall_mem_cons.mpr ⟨good_of_word rfl, List.forall_mem_append.mpr ⟨fun w h => good_of_word (List.all_eq_true.mp (by decide +kernel) w h), List.forall_mem_append.mpr ⟨gu_X18, List.forall_mem_append.mpr ⟨gd_dm_X18_name, List.forall_mem_append.mpr ⟨gd_dm_X18_register, List.forall_mem_append.mpr ⟨gd_dm_X18_immediate, List.forall_mem_append.mpr ⟨gd_dm_X18_part, List.forall_mem_append.mpr ⟨gd_dm_X18_target, List.forall_mem_append.mpr ⟨gd_dm_X18_memory, fun _ h => nomatch h⟩⟩⟩⟩⟩⟩⟩⟩⟩
theorem hi_dm_X18_others_X18 : ∀ w ∈ u_ws RX18 TX18 10, w ∈ ow_dm_X18_others := fun w h => List.mem_cons_of_mem _ (List.mem_append_right _ (List.mem_append_left _ h))
theorem gi_dm_X18_others_0 : GoodIn ow_dm_X18_others (wsV RX18 65 RX18 yX18_name ow_dm_X18_name) := goodIn_app (goodIn_of _ (by decide +kernel)) (fun w h => ⟨List.mem_cons_of_mem _ (List.mem_append_right _ (List.mem_append_right _ (List.mem_append_left _ h))), gd_dm_X18_name w h⟩)
theorem gi_dm_X18_others_1 : GoodIn ow_dm_X18_others (wsV RX18 71 RX18 yX18_register ow_dm_X18_register) := goodIn_app (goodIn_of _ (by decide +kernel)) (fun w h => ⟨List.mem_cons_of_mem _ (List.mem_append_right _ (List.mem_append_right _ (List.mem_append_right _ (List.mem_append_left _ h)))), gd_dm_X18_register w h⟩)
theorem gi_dm_X18_others_2 : GoodIn ow_dm_X18_others (wsV RX18 59 RX18 yX18_immediate ow_dm_X18_immediate) := goodIn_app (goodIn_of _ (by decide +kernel)) (fun w h => ⟨List.mem_cons_of_mem _ (List.mem_append_right _ (List.mem_append_right _ (List.mem_append_right _ (List.mem_append_right _ (List.mem_append_left _ h))))), gd_dm_X18_immediate w h⟩)
theorem gi_dm_X18_others_3 : GoodIn ow_dm_X18_others (wsV RX18 172 RX18 yX18_part ow_dm_X18_part) := goodIn_app (goodIn_of _ (by decide +kernel)) (fun w h => ⟨List.mem_cons_of_mem _ (List.mem_append_right _ (List.mem_append_right _ (List.mem_append_right _ (List.mem_append_right _ (List.mem_append_right _ (List.mem_append_left _ h)))))), gd_dm_X18_part w h⟩)
theorem gi_dm_X18_others_4 : GoodIn ow_dm_X18_others (wsV RX18 176 RX18 yX18_target ow_dm_X18_target) := goodIn_app (goodIn_of _ (by decide +kernel)) (fun w h => ⟨List.mem_cons_of_mem _ (List.mem_append_right _ (List.mem_append_right _ (List.mem_append_right _ (List.mem_append_right _ (List.mem_append_right _ (List.mem_append_right _ (List.mem_append_left _ h))))))), gd_dm_X18_target w h⟩)
theorem gi_dm_X18_others_5 : GoodIn ow_dm_X18_others (wsV RX18 150 RX18 yX18_memory ow_dm_X18_memory) := goodIn_app (goodIn_of _ (by decide +kernel)) (fun w h => ⟨List.mem_cons_of_mem _ (List.mem_append_right _ (List.mem_append_right _ (List.mem_append_right _ (List.mem_append_right _ (List.mem_append_right _ (List.mem_append_right _ (List.mem_append_right _ (List.mem_append_left _ h)))))))), gd_dm_X18_memory w h⟩)
def dj_X18_others_215 (p : Program) (l : Launch) (e : Env) (s : State) (m : MethodId) (args : Array Value) (below : List Frame) (meth : Method) (c : Code) (Q : State → Prop) (A : Nat → Prop) (dC : Nat → ClassId) (dI : Nat → Nat → Nat) (a : Nat → Nat) (ac : Nat → ClassId) (g : (St) → Option (St)) (r : St) : Prop := ∀ (s0 : St) (H : Heap) (locs : List Loc) (ls : Array Slot), g s0 = some r → va_P (dC, dI) vwCl (dw_X18 a ac s0) H → va_D A (dw_X18 a ac s0) → va_S A s.heap H locs → lv_has ls 2 [] → W p l e (headSpec ow_dm_X18_others ({ frames := 5, cells := 0, slots := 0, locals := 111 })).room s m args below meth c H locs 0 0 Q (F0 m 215 ls [])
def dj_X18_others_36 (p : Program) (l : Launch) (e : Env) (s : State) (m : MethodId) (args : Array Value) (below : List Frame) (meth : Method) (c : Code) (Q : State → Prop) (A : Nat → Prop) (dC : Nat → ClassId) (dI : Nat → Nat → Nat) (a : Nat → Nat) (ac : Nat → ClassId) (g : Int64 → (St) → Option (St)) (r : St) : Prop := ∀ (y1 : Int64) (s0 : St) (H : Heap) (locs : List Loc) (ls : Array Slot), g y1 s0 = some r → va_P (dC, dI) vwCl (dw_X18 a ac s0) H → va_D A (dw_X18 a ac s0) → va_S A s.heap H locs → lv_has ls 2 [(0, .ref (a 0))] → W p l e (headSpec ow_dm_X18_others ({ frames := 5, cells := 0, slots := 0, locals := 111 })).room s m args below meth c H locs 0 0 Q (F0 m 36 ls [.long y1, .ref (a 0)])
def dj_X18_others_20 (p : Program) (l : Launch) (e : Env) (s : State) (m : MethodId) (args : Array Value) (below : List Frame) (meth : Method) (c : Code) (Q : State → Prop) (A : Nat → Prop) (dC : Nat → ClassId) (dI : Nat → Nat → Nat) (a : Nat → Nat) (ac : Nat → ClassId) (g : Int32 → (St) → Option (St)) (r : St) : Prop := ∀ (x1 : Int32) (s0 : St) (H : Heap) (locs : List Loc) (ls : Array Slot), g x1 s0 = some r → va_P (dC, dI) vwCl (dw_X18 a ac s0) H → va_D A (dw_X18 a ac s0) → va_S A s.heap H locs → lv_has ls 2 [(0, .ref (a 0)), (1, .int x1)] → W p l e (headSpec ow_dm_X18_others ({ frames := 5, cells := 0, slots := 0, locals := 111 })).room s m args below meth c H locs 0 0 Q (F0 m 20 ls [])
def dj_X18_others_107 (p : Program) (l : Launch) (e : Env) (s : State) (m : MethodId) (args : Array Value) (below : List Frame) (meth : Method) (c : Code) (Q : State → Prop) (A : Nat → Prop) (dC : Nat → ClassId) (dI : Nat → Nat → Nat) (a : Nat → Nat) (ac : Nat → ClassId) (g : Int32 → (St) → Option (St)) (r : St) : Prop := ∀ (x1 : Int32) (s0 : St) (H : Heap) (locs : List Loc) (ls : Array Slot), g x1 s0 = some r → va_P (dC, dI) vwCl (dw_X18 a ac s0) H → va_D A (dw_X18 a ac s0) → va_S A s.heap H locs → lv_has ls 2 [(0, .ref (a 0)), (1, .int x1)] → W p l e (headSpec ow_dm_X18_others ({ frames := 5, cells := 0, slots := 0, locals := 111 })).room s m args below meth c H locs 0 0 Q (F0 m 107 ls [])
def dj_X18_others_0 (p : Program) (l : Launch) (e : Env) (s : State) (m : MethodId) (args : Array Value) (below : List Frame) (meth : Method) (c : Code) (Q : State → Prop) (A : Nat → Prop) (dC : Nat → ClassId) (dI : Nat → Nat → Nat) (a : Nat → Nat) (ac : Nat → ClassId) (g : (St) → Option (St)) (r : St) : Prop := ∀ (s0 : St) (H : Heap) (locs : List Loc) (ls : Array Slot), g s0 = some r → va_P (dC, dI) vwCl (dw_X18 a ac s0) H → va_D A (dw_X18 a ac s0) → va_S A s.heap H locs → lv_has ls 2 [(0, .ref (a 0))] → W p l e (headSpec ow_dm_X18_others ({ frames := 5, cells := 0, slots := 0, locals := 111 })).room s m args below meth c H locs 0 0 Q (F0 m 0 ls [])
set_option maxHeartbeats 40000000 in
set_option maxRecDepth 100000 in
theorem db_X18_others_215 {p : Program} {l : Launch} {e : Env} {s : State} {m : MethodId} {args : Array Value} {below : List Frame} {meth : Method} {c : Code} {Q : State → Prop} {A : Nat → Prop} {dC : Nat → ClassId} {dI : Nat → Nat → Nat} {a : Nat → Nat} {ac : Nat → ClassId} {n : Nat} {r : St} (C : nd_C p l s m args c A (dC, dI) cX18_others 2 RX18 ow_dm_X18_others (dk_X18 ac)) (K : nd_Kv p l e (headSpec ow_dm_X18_others ({ frames := 5, cells := 0, slots := 0, locals := 111 })).room s m args below meth c Q A (dC, dI) cX18_others (St) (dw_X18 a ac) r) : dj_X18_others_215 p l e s m args below meth c Q A dC dI a ac (df_X18_others_215 n) r := by
  obtain ⟨hlt, hx, hb, hml, hown, hts, hN, hA, hK⟩ := id C
  intro s0 H locs ls h hP hD hS hl
  unfold df_X18_others_215 at h
  exact K _ _ _ _ _ dX18_others_215 (Option.some.inj h).symm hP hD hS
set_option maxHeartbeats 40000000 in
set_option maxRecDepth 100000 in
theorem db_X18_others_36 {p : Program} {l : Launch} {e : Env} {s : State} {m : MethodId} {args : Array Value} {below : List Frame} {meth : Method} {c : Code} {Q : State → Prop} {A : Nat → Prop} {dC : Nat → ClassId} {dI : Nat → Nat → Nat} {a : Nat → Nat} {ac : Nat → ClassId} {n : Nat} {r : St} (C : nd_C p l s m args c A (dC, dI) cX18_others 2 RX18 ow_dm_X18_others (dk_X18 ac)) (K : nd_Kv p l e (headSpec ow_dm_X18_others ({ frames := 5, cells := 0, slots := 0, locals := 111 })).room s m args below meth c Q A (dC, dI) cX18_others (St) (dw_X18 a ac) r) : dj_X18_others_36 p l e s m args below meth c Q A dC dI a ac (df_X18_others_36 n) r := by
  obtain ⟨hlt, hx, hb, hml, hown, hts, hN, hA, hK⟩ := id C
  intro y1 s0 H locs ls h hP hD hS hl
  unfold df_X18_others_36 at h
  obtain ⟨s5, hq, h⟩ := nd_b1_e h
  have hPc := hP
  have hDc := hD
  have hKc := hK
  have hFc := nd_rs hD hS hA
  refine nd_cVv (As := [.long y1]) (rest := []) (w' := dw_X18 a ac s5) ⟨hx, hb, hml, hown, hts⟩ (fun sz => dm_X18_name l hlt dC dI a ac n (y1) s0 hq sz) (cwV 1 hts gi_dm_X18_others_0 rfl rfl rfl (by decide +kernel) ⟨Nat.le_of_ble_eq_true rfl, Nat.le_of_ble_eq_true rfl⟩) hPc hDc hKc hS hA hN (va_recv hKc hPc (ci := 19) (q0 := 0) rfl rfl) rfl hl.1 rfl (Nat.le_of_ble_eq_true rfl) dX18_others_36 (fun H locs hP1 hD1 hk1 hS => ?_)
  have hP := hP1
  have hD := hD1.weaken (fun k q _ h => hFc q.1 h)
  refine lv_aload_n hx hb dX18_others_39 rfl (lv_at hl 0 rfl) ?_
  refine lv_aload_n hx hb dX18_others_40 rfl (lv_at hl 0 rfl) ?_
  refine va_get (D := (dC, dI)) (ci := 19) (v := .int (sI s5 4)) (C := RX18) (T := TX18) (N := 10) hx hb hts hi_dm_X18_others_X18 hown hK hP 0 rfl rfl 5 (by decide) (hts (.fieldLink RX18 68 "TimeMachineModel$Reader" "d" "I") (List.mem_of_getElem? (i := 7) rfl)) (fun _ h9 => h9) rfl dX18_others_41 ?_
  obtain ⟨s8, hq, h⟩ := nd_b1_e h
  have hPc := hP
  have hDc := hD
  have hKc := hK
  have hFc := nd_rs hD hS hA
  refine nd_cVv (As := [.int (sI s5 4)]) (rest := []) (w' := dw_X18 a ac s8) ⟨hx, hb, hml, hown, hts⟩ (fun sz => dm_X18_register l hlt dC dI a ac n ((sI s5 4)) s5 hq sz) (cwV 1 hts gi_dm_X18_others_1 rfl rfl rfl (by decide +kernel) ⟨Nat.le_of_ble_eq_true rfl, Nat.le_of_ble_eq_true rfl⟩) hPc hDc hKc hS hA hN (va_recv hKc hPc (ci := 19) (q0 := 0) rfl rfl) rfl hl.1 rfl (Nat.le_of_ble_eq_true rfl) dX18_others_44 (fun H locs hP1 hD1 hk1 hS => ?_)
  have hP := hP1
  have hD := hD1.weaken (fun k q _ h => hFc q.1 h)
  refine lv_aload_n hx hb dX18_others_47 rfl (lv_at hl 0 rfl) ?_
  refine lv_aload_n hx hb dX18_others_48 rfl (lv_at hl 0 rfl) ?_
  refine va_get (D := (dC, dI)) (ci := 19) (v := .int (sI s8 3)) (C := RX18) (T := TX18) (N := 10) hx hb hts hi_dm_X18_others_X18 hown hK hP 0 rfl rfl 4 (by decide) (hts (.fieldLink RX18 20 "TimeMachineModel$Reader" "bits" "I") (List.mem_of_getElem? (i := 1) rfl)) (fun _ h9 => h9) rfl dX18_others_49 ?_
  refine lv_bipush (v := 12) hx hb dX18_others_52 (by decide) ?_
  refine lv_iushr hx hb dX18_others_54 rfl ?_
  obtain ⟨s11, hq, h⟩ := nd_b1_e h
  have hPc := hP
  have hDc := hD
  have hKc := hK
  have hFc := nd_rs hD hS hA
  refine nd_cVv (As := [.int ((((sI s8 3) : Int32).toUInt32 >>> ((12 : Int32).toUInt32 &&& Int32.toUInt32 31)).toInt32)]) (rest := []) (w' := dw_X18 a ac s11) ⟨hx, hb, hml, hown, hts⟩ (fun sz => dm_X18_immediate l hlt dC dI a ac n (((((sI s8 3) : Int32).toUInt32 >>> ((12 : Int32).toUInt32 &&& Int32.toUInt32 31)).toInt32)) s8 hq sz) (cwV 1 hts gi_dm_X18_others_2 rfl rfl rfl (by decide +kernel) ⟨Nat.le_of_ble_eq_true rfl, Nat.le_of_ble_eq_true rfl⟩) hPc hDc hKc hS hA hN (va_recv hKc hPc (ci := 19) (q0 := 0) rfl rfl) rfl hl.1 rfl (Nat.le_of_ble_eq_true rfl) dX18_others_55 (fun H locs hP1 hD1 hk1 hS => ?_)
  have hP := hP1
  have hD := hD1.weaken (fun k q _ h => hFc q.1 h)
  refine lv_goto (tgt := 215) hx hb dX18_others_58 (by decide) ?_
  exact (db_X18_others_215 C K)  s11 _ _ _ h hP hD hS (lv_sub hl [] rfl)
set_option maxHeartbeats 40000000 in
set_option maxRecDepth 100000 in
theorem db_X18_others_20 {p : Program} {l : Launch} {e : Env} {s : State} {m : MethodId} {args : Array Value} {below : List Frame} {meth : Method} {c : Code} {Q : State → Prop} {A : Nat → Prop} {dC : Nat → ClassId} {dI : Nat → Nat → Nat} {a : Nat → Nat} {ac : Nat → ClassId} {n : Nat} {r : St} (C : nd_C p l s m args c A (dC, dI) cX18_others 2 RX18 ow_dm_X18_others (dk_X18 ac)) (K : nd_Kv p l e (headSpec ow_dm_X18_others ({ frames := 5, cells := 0, slots := 0, locals := 111 })).room s m args below meth c Q A (dC, dI) cX18_others (St) (dw_X18 a ac) r) : dj_X18_others_20 p l e s m args below meth c Q A dC dI a ac (df_X18_others_20 n) r := by
  obtain ⟨hlt, hx, hb, hml, hown, hts, hN, hA, hK⟩ := id C
  intro x1 s0 H locs ls h hP hD hS hl
  unfold df_X18_others_20 at h
  refine lv_aload_n hx hb dX18_others_20 rfl (lv_at hl 0 rfl) ?_
  refine lv_iload_n hx hb dX18_others_21 rfl (lv_at hl 1 rfl) ?_
  refine lv_bipush (v := 55) hx hb dX18_others_22 (by decide) ?_
  refine lv_icmp_ne (tgt := 33) hx hb dX18_others_24 (by decide) (fun c3 => ?_) (fun c3 => ?_)
  · have h := nd_neg h c3
    refine lv_ldc2 hx hb hown (hts (.constantLong RX18 242 (427087721825)) (List.mem_of_getElem? (i := 2) rfl)) dX18_others_33 ?_
    exact (db_X18_others_36 C K) (427087721825) s0 _ _ _ h hP hD hS (lv_sub hl [0] rfl)
  · have h := nd_pos h c3
    refine lv_ldc2 hx hb hown (hts (.constantLong RX18 240 (6911340)) (List.mem_of_getElem? (i := 14) rfl)) dX18_others_27 ?_
    refine lv_goto (tgt := 36) hx hb dX18_others_30 (by decide) ?_
    exact (db_X18_others_36 C K) (6911340) s0 _ _ _ h hP hD hS (lv_sub hl [0] rfl)
set_option maxHeartbeats 40000000 in
set_option maxRecDepth 100000 in
theorem db_X18_others_107 {p : Program} {l : Launch} {e : Env} {s : State} {m : MethodId} {args : Array Value} {below : List Frame} {meth : Method} {c : Code} {Q : State → Prop} {A : Nat → Prop} {dC : Nat → ClassId} {dI : Nat → Nat → Nat} {a : Nat → Nat} {ac : Nat → ClassId} {n : Nat} {r : St} (C : nd_C p l s m args c A (dC, dI) cX18_others 2 RX18 ow_dm_X18_others (dk_X18 ac)) (K : nd_Kv p l e (headSpec ow_dm_X18_others ({ frames := 5, cells := 0, slots := 0, locals := 111 })).room s m args below meth c Q A (dC, dI) cX18_others (St) (dw_X18 a ac) r) : dj_X18_others_107 p l e s m args below meth c Q A dC dI a ac (df_X18_others_107 n) r := by
  obtain ⟨hlt, hx, hb, hml, hown, hts, hN, hA, hK⟩ := id C
  intro x1 s0 H locs ls h hP hD hS hl
  unfold df_X18_others_107 at h
  refine lv_iload_n hx hb dX18_others_107 rfl (lv_at hl 1 rfl) ?_
  refine lv_bipush (v := 111) hx hb dX18_others_108 (by decide) ?_
  refine lv_icmp_ne (tgt := 179) hx hb dX18_others_110 (by decide) (fun c15 => ?_) (fun c15 => ?_)
  · have h := nd_neg h c15
    refine lv_aload_n hx hb dX18_others_179 rfl (lv_at hl 0 rfl) ?_
    refine va_get (D := (dC, dI)) (ci := 19) (v := .int (sI s0 3)) (C := RX18) (T := TX18) (N := 10) hx hb hts hi_dm_X18_others_X18 hown hK hP 0 rfl rfl 4 (by decide) (hts (.fieldLink RX18 20 "TimeMachineModel$Reader" "bits" "I") (List.mem_of_getElem? (i := 1) rfl)) (fun _ h9 => h9) rfl dX18_others_180 ?_
    refine lv_ldc hx hb hown (hts (.constant RX18 248 (267386895)) (List.mem_of_getElem? (i := 15) rfl)) dX18_others_183 ?_
    refine lv_icmp_ne (tgt := 198) hx hb dX18_others_185 (by decide) (fun c16 => ?_) (fun c16 => ?_)
    · have h := nd_neg h c16
      refine lv_aload_n hx hb dX18_others_198 rfl (lv_at hl 0 rfl) ?_
      refine va_get (D := (dC, dI)) (ci := 19) (v := .int (sI s0 3)) (C := RX18) (T := TX18) (N := 10) hx hb hts hi_dm_X18_others_X18 hown hK hP 0 rfl rfl 4 (by decide) (hts (.fieldLink RX18 20 "TimeMachineModel$Reader" "bits" "I") (List.mem_of_getElem? (i := 1) rfl)) (fun _ h9 => h9) rfl dX18_others_199 ?_
      refine lv_sipush (v := 4111) hx hb dX18_others_202 (by decide) ?_
      refine lv_icmp_ne (tgt := 215) hx hb dX18_others_205 (by decide) (fun c17 => ?_) (fun c17 => ?_)
      · have h := nd_neg h c17
        exact (db_X18_others_215 C K)  s0 _ _ _ h hP hD hS (lv_sub hl [] rfl)
      · have h := nd_pos h c17
        refine lv_aload_n hx hb dX18_others_208 rfl (lv_at hl 0 rfl) ?_
        refine lv_ldc2 hx hb hown (hts (.constantLong RX18 251 (29605885549372774)) (List.mem_of_getElem? (i := 16) rfl)) dX18_others_209 ?_
        obtain ⟨s19, hq, h⟩ := nd_b1_e h
        have hPc := hP
        have hDc := hD
        have hKc := hK
        have hFc := nd_rs hD hS hA
        refine nd_cVv (As := [.long 29605885549372774]) (rest := []) (w' := dw_X18 a ac s19) ⟨hx, hb, hml, hown, hts⟩ (fun sz => dm_X18_name l hlt dC dI a ac n (29605885549372774) s0 hq sz) (cwV 1 hts gi_dm_X18_others_0 rfl rfl rfl (by decide +kernel) ⟨Nat.le_of_ble_eq_true rfl, Nat.le_of_ble_eq_true rfl⟩) hPc hDc hKc hS hA hN (va_recv hKc hPc (ci := 19) (q0 := 0) rfl rfl) rfl hl.1 rfl (Nat.le_of_ble_eq_true rfl) dX18_others_212 (fun H locs hP1 hD1 hk1 hS => ?_)
        have hP := hP1
        have hD := hD1.weaken (fun k q _ h => hFc q.1 h)
        exact (db_X18_others_215 C K)  s19 _ _ _ h hP hD hS (lv_sub hl [] rfl)
    · have h := nd_pos h c16
      refine lv_aload_n hx hb dX18_others_188 rfl (lv_at hl 0 rfl) ?_
      refine lv_ldc2 hx hb hown (hts (.constantLong RX18 249 (435459876198)) (List.mem_of_getElem? (i := 17) rfl)) dX18_others_189 ?_
      obtain ⟨s22, hq, h⟩ := nd_b1_e h
      have hPc := hP
      have hDc := hD
      have hKc := hK
      have hFc := nd_rs hD hS hA
      refine nd_cVv (As := [.long 435459876198]) (rest := []) (w' := dw_X18 a ac s22) ⟨hx, hb, hml, hown, hts⟩ (fun sz => dm_X18_name l hlt dC dI a ac n (435459876198) s0 hq sz) (cwV 1 hts gi_dm_X18_others_0 rfl rfl rfl (by decide +kernel) ⟨Nat.le_of_ble_eq_true rfl, Nat.le_of_ble_eq_true rfl⟩) hPc hDc hKc hS hA hN (va_recv hKc hPc (ci := 19) (q0 := 0) rfl rfl) rfl hl.1 rfl (Nat.le_of_ble_eq_true rfl) dX18_others_192 (fun H locs hP1 hD1 hk1 hS => ?_)
      have hP := hP1
      have hD := hD1.weaken (fun k q _ h => hFc q.1 h)
      refine lv_goto (tgt := 215) hx hb dX18_others_195 (by decide) ?_
      exact (db_X18_others_215 C K)  s22 _ _ _ h hP hD hS (lv_sub hl [] rfl)
  · have h := nd_pos h c15
    refine lv_aload_n hx hb dX18_others_113 rfl (lv_at hl 0 rfl) ?_
    refine lv_ldc2 hx hb hown (hts (.constantLong RX18 246 (7102826)) (List.mem_of_getElem? (i := 18) rfl)) dX18_others_114 ?_
    obtain ⟨s25, hq, h⟩ := nd_b1_e h
    have hPc := hP
    have hDc := hD
    have hKc := hK
    have hFc := nd_rs hD hS hA
    refine nd_cVv (As := [.long 7102826]) (rest := []) (w' := dw_X18 a ac s25) ⟨hx, hb, hml, hown, hts⟩ (fun sz => dm_X18_name l hlt dC dI a ac n (7102826) s0 hq sz) (cwV 1 hts gi_dm_X18_others_0 rfl rfl rfl (by decide +kernel) ⟨Nat.le_of_ble_eq_true rfl, Nat.le_of_ble_eq_true rfl⟩) hPc hDc hKc hS hA hN (va_recv hKc hPc (ci := 19) (q0 := 0) rfl rfl) rfl hl.1 rfl (Nat.le_of_ble_eq_true rfl) dX18_others_117 (fun H locs hP1 hD1 hk1 hS => ?_)
    have hP := hP1
    have hD := hD1.weaken (fun k q _ h => hFc q.1 h)
    refine lv_aload_n hx hb dX18_others_120 rfl (lv_at hl 0 rfl) ?_
    refine lv_aload_n hx hb dX18_others_121 rfl (lv_at hl 0 rfl) ?_
    refine va_get (D := (dC, dI)) (ci := 19) (v := .int (sI s25 4)) (C := RX18) (T := TX18) (N := 10) hx hb hts hi_dm_X18_others_X18 hown hK hP 0 rfl rfl 5 (by decide) (hts (.fieldLink RX18 68 "TimeMachineModel$Reader" "d" "I") (List.mem_of_getElem? (i := 7) rfl)) (fun _ h9 => h9) rfl dX18_others_122 ?_
    obtain ⟨s28, hq, h⟩ := nd_b1_e h
    have hPc := hP
    have hDc := hD
    have hKc := hK
    have hFc := nd_rs hD hS hA
    refine nd_cVv (As := [.int (sI s25 4)]) (rest := []) (w' := dw_X18 a ac s28) ⟨hx, hb, hml, hown, hts⟩ (fun sz => dm_X18_register l hlt dC dI a ac n ((sI s25 4)) s25 hq sz) (cwV 1 hts gi_dm_X18_others_1 rfl rfl rfl (by decide +kernel) ⟨Nat.le_of_ble_eq_true rfl, Nat.le_of_ble_eq_true rfl⟩) hPc hDc hKc hS hA hN (va_recv hKc hPc (ci := 19) (q0 := 0) rfl rfl) rfl hl.1 rfl (Nat.le_of_ble_eq_true rfl) dX18_others_125 (fun H locs hP1 hD1 hk1 hS => ?_)
    have hP := hP1
    have hD := hD1.weaken (fun k q _ h => hFc q.1 h)
    refine lv_aload_n hx hb dX18_others_128 rfl (lv_at hl 0 rfl) ?_
    refine lv_aload_n hx hb dX18_others_129 rfl (lv_at hl 0 rfl) ?_
    refine va_get (D := (dC, dI)) (ci := 19) (v := .int (sI s28 3)) (C := RX18) (T := TX18) (N := 10) hx hb hts hi_dm_X18_others_X18 hown hK hP 0 rfl rfl 4 (by decide) (hts (.fieldLink RX18 20 "TimeMachineModel$Reader" "bits" "I") (List.mem_of_getElem? (i := 1) rfl)) (fun _ h9 => h9) rfl dX18_others_130 ?_
    refine lv_bipush (v := 31) hx hb dX18_others_133 (by decide) ?_
    refine lv_ishr hx hb dX18_others_135 ?_
    refine lv_bipush (v := 20) hx hb dX18_others_136 (by decide) ?_
    refine lv_ishl hx hb dX18_others_138 ?_
    refine lv_aload_n hx hb dX18_others_139 rfl (lv_at hl 0 rfl) ?_
    refine lv_bipush (v := 12) hx hb dX18_others_140 (by decide) ?_
    refine lv_bipush (v := 8) hx hb dX18_others_142 (by decide) ?_
    obtain ⟨q30, s31, hq, h⟩ := nd_b2_e h
    have hPc := hP
    have hDc := hD
    have hKc := hK
    have hFc := nd_rs hD hS hA
    refine nd_cVi (As := [.int 12, .int 8]) (rest := [.int (((((sI s28 3) : Int32) >>> ((31 : Int32) &&& 31)) : Int32) <<< ((20 : Int32) &&& 31)), .ref (a 0)]) (q := q30) (w' := dw_X18 a ac s31) ⟨hx, hb, hml, hown, hts⟩ (fun sz => dm_X18_part l hlt dC dI a ac n (12) (8) s28 hq sz) (cwV 2 hts gi_dm_X18_others_3 rfl rfl rfl (by decide +kernel) ⟨Nat.le_of_ble_eq_true rfl, Nat.le_of_ble_eq_true rfl⟩) hPc hDc hKc hS hA hN (va_recv hKc hPc (ci := 19) (q0 := 0) rfl rfl) rfl hl.1 rfl (Nat.le_of_ble_eq_true rfl) dX18_others_144 (fun H locs hP1 hD1 hk1 hS => ?_)
    have hP := hP1
    have hD := hD1.weaken (fun k q _ h => hFc q.1 h)
    refine lv_bipush (v := 12) hx hb dX18_others_147 (by decide) ?_
    refine lv_ishl hx hb dX18_others_149 ?_
    refine lv_ior hx hb dX18_others_150 ?_
    refine lv_aload_n hx hb dX18_others_151 rfl (lv_at hl 0 rfl) ?_
    refine lv_bipush (v := 20) hx hb dX18_others_152 (by decide) ?_
    refine lv_iconst (v := 1) hx hb dX18_others_154 (by decide) ?_
    obtain ⟨q33, s34, hq, h⟩ := nd_b2_e h
    have hPc := hP
    have hDc := hD
    have hKc := hK
    have hFc := nd_rs hD hS hA
    refine nd_cVi (As := [.int 20, .int 1]) (rest := [.int ((((((sI s28 3) : Int32) >>> ((31 : Int32) &&& 31)) : Int32) <<< ((20 : Int32) &&& 31)) ||| ((q30 : Int32) <<< ((12 : Int32) &&& 31))), .ref (a 0)]) (q := q33) (w' := dw_X18 a ac s34) ⟨hx, hb, hml, hown, hts⟩ (fun sz => dm_X18_part l hlt dC dI a ac n (20) (1) s31 hq sz) (cwV 2 hts gi_dm_X18_others_3 rfl rfl rfl (by decide +kernel) ⟨Nat.le_of_ble_eq_true rfl, Nat.le_of_ble_eq_true rfl⟩) hPc hDc hKc hS hA hN (va_recv hKc hPc (ci := 19) (q0 := 0) rfl rfl) rfl hl.1 rfl (Nat.le_of_ble_eq_true rfl) dX18_others_155 (fun H locs hP1 hD1 hk1 hS => ?_)
    have hP := hP1
    have hD := hD1.weaken (fun k q _ h => hFc q.1 h)
    refine lv_bipush (v := 11) hx hb dX18_others_158 (by decide) ?_
    refine lv_ishl hx hb dX18_others_160 ?_
    refine lv_ior hx hb dX18_others_161 ?_
    refine lv_aload_n hx hb dX18_others_162 rfl (lv_at hl 0 rfl) ?_
    refine lv_bipush (v := 21) hx hb dX18_others_163 (by decide) ?_
    refine lv_bipush (v := 10) hx hb dX18_others_165 (by decide) ?_
    obtain ⟨q36, s37, hq, h⟩ := nd_b2_e h
    have hPc := hP
    have hDc := hD
    have hKc := hK
    have hFc := nd_rs hD hS hA
    refine nd_cVi (As := [.int 21, .int 10]) (rest := [.int (((((((sI s28 3) : Int32) >>> ((31 : Int32) &&& 31)) : Int32) <<< ((20 : Int32) &&& 31)) ||| ((q30 : Int32) <<< ((12 : Int32) &&& 31))) ||| ((q33 : Int32) <<< ((11 : Int32) &&& 31))), .ref (a 0)]) (q := q36) (w' := dw_X18 a ac s37) ⟨hx, hb, hml, hown, hts⟩ (fun sz => dm_X18_part l hlt dC dI a ac n (21) (10) s34 hq sz) (cwV 2 hts gi_dm_X18_others_3 rfl rfl rfl (by decide +kernel) ⟨Nat.le_of_ble_eq_true rfl, Nat.le_of_ble_eq_true rfl⟩) hPc hDc hKc hS hA hN (va_recv hKc hPc (ci := 19) (q0 := 0) rfl rfl) rfl hl.1 rfl (Nat.le_of_ble_eq_true rfl) dX18_others_167 (fun H locs hP1 hD1 hk1 hS => ?_)
    have hP := hP1
    have hD := hD1.weaken (fun k q _ h => hFc q.1 h)
    refine lv_iconst (v := 1) hx hb dX18_others_170 (by decide) ?_
    refine lv_ishl hx hb dX18_others_171 ?_
    refine lv_ior hx hb dX18_others_172 ?_
    obtain ⟨s40, hq, h⟩ := nd_b1_e h
    have hPc := hP
    have hDc := hD
    have hKc := hK
    have hFc := nd_rs hD hS hA
    refine nd_cVv (As := [.int ((((((((sI s28 3) : Int32) >>> ((31 : Int32) &&& 31)) : Int32) <<< ((20 : Int32) &&& 31)) ||| ((q30 : Int32) <<< ((12 : Int32) &&& 31))) ||| ((q33 : Int32) <<< ((11 : Int32) &&& 31))) ||| ((q36 : Int32) <<< ((1 : Int32) &&& 31)))]) (rest := []) (w' := dw_X18 a ac s40) ⟨hx, hb, hml, hown, hts⟩ (fun sz => dm_X18_target l hlt dC dI a ac n (((((((((sI s28 3) : Int32) >>> ((31 : Int32) &&& 31)) : Int32) <<< ((20 : Int32) &&& 31)) ||| ((q30 : Int32) <<< ((12 : Int32) &&& 31))) ||| ((q33 : Int32) <<< ((11 : Int32) &&& 31))) ||| ((q36 : Int32) <<< ((1 : Int32) &&& 31)))) s37 hq sz) (cwV 1 hts gi_dm_X18_others_4 rfl rfl rfl (by decide +kernel) ⟨Nat.le_of_ble_eq_true rfl, Nat.le_of_ble_eq_true rfl⟩) hPc hDc hKc hS hA hN (va_recv hKc hPc (ci := 19) (q0 := 0) rfl rfl) rfl hl.1 rfl (Nat.le_of_ble_eq_true rfl) dX18_others_173 (fun H locs hP1 hD1 hk1 hS => ?_)
    have hP := hP1
    have hD := hD1.weaken (fun k q _ h => hFc q.1 h)
    refine lv_goto (tgt := 215) hx hb dX18_others_176 (by decide) ?_
    exact (db_X18_others_215 C K)  s40 _ _ _ h hP hD hS (lv_sub hl [] rfl)
set_option maxHeartbeats 40000000 in
set_option maxRecDepth 100000 in
theorem db_X18_others_0 {p : Program} {l : Launch} {e : Env} {s : State} {m : MethodId} {args : Array Value} {below : List Frame} {meth : Method} {c : Code} {Q : State → Prop} {A : Nat → Prop} {dC : Nat → ClassId} {dI : Nat → Nat → Nat} {a : Nat → Nat} {ac : Nat → ClassId} {n : Nat} {r : St} (C : nd_C p l s m args c A (dC, dI) cX18_others 2 RX18 ow_dm_X18_others (dk_X18 ac)) (K : nd_Kv p l e (headSpec ow_dm_X18_others ({ frames := 5, cells := 0, slots := 0, locals := 111 })).room s m args below meth c Q A (dC, dI) cX18_others (St) (dw_X18 a ac) r) : dj_X18_others_0 p l e s m args below meth c Q A dC dI a ac (df_X18_others_0 n) r := by
  obtain ⟨hlt, hx, hb, hml, hown, hts, hN, hA, hK⟩ := id C
  intro s0 H locs ls h hP hD hS hl
  unfold df_X18_others_0 at h
  refine lv_aload_n hx hb dX18_others_0 rfl (lv_at hl 0 rfl) ?_
  refine va_get (D := (dC, dI)) (ci := 19) (v := .int (sI s0 3)) (C := RX18) (T := TX18) (N := 10) hx hb hts hi_dm_X18_others_X18 hown hK hP 0 rfl rfl 4 (by decide) (hts (.fieldLink RX18 20 "TimeMachineModel$Reader" "bits" "I") (List.mem_of_getElem? (i := 1) rfl)) (fun _ h9 => h9) rfl dX18_others_1 ?_
  refine lv_bipush (v := 127) hx hb dX18_others_4 (by decide) ?_
  refine lv_iand hx hb dX18_others_6 ?_
  refine lv_topi (fun z1 ez1 => ?_)
  have h := nd_at h ez1
  refine lv_istore_n (lv' := [(1, .int z1), (0, .ref (a 0))]) hx hb dX18_others_7 rfl hl (by decide) rfl (fun ls hl => ?_)
  refine lv_iload_n hx hb dX18_others_8 rfl (lv_at hl 0 rfl) ?_
  refine lv_bipush (v := 55) hx hb dX18_others_9 (by decide) ?_
  refine lv_icmp_eq (tgt := 20) hx hb dX18_others_11 (by decide) (fun c2 => ?_) (fun c2 => ?_)
  · have h := nd_pos h c2
    exact (db_X18_others_20 C K) (z1) s0 _ _ _ h hP hD hS (lv_sub hl [1, 0] rfl)
  · have h := nd_neg h c2
    refine lv_iload_n hx hb dX18_others_14 rfl (lv_at hl 0 rfl) ?_
    refine lv_bipush (v := 23) hx hb dX18_others_15 (by decide) ?_
    refine lv_icmp_ne (tgt := 61) hx hb dX18_others_17 (by decide) (fun c13 => ?_) (fun c13 => ?_)
    · have h := nd_neg h c13
      refine lv_iload_n hx hb dX18_others_61 rfl (lv_at hl 0 rfl) ?_
      refine lv_bipush (v := 103) hx hb dX18_others_62 (by decide) ?_
      refine lv_icmp_ne (tgt := 107) hx hb dX18_others_64 (by decide) (fun c14 => ?_) (fun c14 => ?_)
      · have h := nd_neg h c14
        exact (db_X18_others_107 C K) (z1) s0 _ _ _ h hP hD hS (lv_sub hl [1, 0] rfl)
      · have h := nd_pos h c14
        refine lv_aload_n hx hb dX18_others_67 rfl (lv_at hl 1 rfl) ?_
        refine va_get (D := (dC, dI)) (ci := 19) (v := .int (sI s0 7)) (C := RX18) (T := TX18) (N := 10) hx hb hts hi_dm_X18_others_X18 hown hK hP 0 rfl rfl 8 (by decide) (hts (.fieldLink RX18 80 "TimeMachineModel$Reader" "f" "I") (List.mem_of_getElem? (i := 25) rfl)) (fun _ h9 => h9) rfl dX18_others_68 ?_
        refine lv_if_ne (tgt := 107) hx hb dX18_others_71 (by decide) (fun c42 => ?_) (fun c42 => ?_)
        · have h := nd_neg h c42
          exact (db_X18_others_107 C K) (z1) s0 _ _ _ h hP hD hS (lv_sub hl [1, 0] rfl)
        · have h := nd_pos h c42
          refine lv_aload_n hx hb dX18_others_74 rfl (lv_at hl 1 rfl) ?_
          refine lv_ldc2 hx hb hown (hts (.constantLong RX18 244 (1919705450)) (List.mem_of_getElem? (i := 26) rfl)) dX18_others_75 ?_
          obtain ⟨s44, hq, h⟩ := nd_b1_e h
          have hPc := hP
          have hDc := hD
          have hKc := hK
          have hFc := nd_rs hD hS hA
          refine nd_cVv (As := [.long 1919705450]) (rest := []) (w' := dw_X18 a ac s44) ⟨hx, hb, hml, hown, hts⟩ (fun sz => dm_X18_name l hlt dC dI a ac n (1919705450) s0 hq sz) (cwV 1 hts gi_dm_X18_others_0 rfl rfl rfl (by decide +kernel) ⟨Nat.le_of_ble_eq_true rfl, Nat.le_of_ble_eq_true rfl⟩) hPc hDc hKc hS hA hN (va_recv hKc hPc (ci := 19) (q0 := 0) rfl rfl) rfl hl.1 rfl (Nat.le_of_ble_eq_true rfl) dX18_others_78 (fun H locs hP1 hD1 hk1 hS => ?_)
          have hP := hP1
          have hD := hD1.weaken (fun k q _ h => hFc q.1 h)
          refine lv_aload_n hx hb dX18_others_81 rfl (lv_at hl 1 rfl) ?_
          refine lv_aload_n hx hb dX18_others_82 rfl (lv_at hl 1 rfl) ?_
          refine va_get (D := (dC, dI)) (ci := 19) (v := .int (sI s44 4)) (C := RX18) (T := TX18) (N := 10) hx hb hts hi_dm_X18_others_X18 hown hK hP 0 rfl rfl 5 (by decide) (hts (.fieldLink RX18 68 "TimeMachineModel$Reader" "d" "I") (List.mem_of_getElem? (i := 7) rfl)) (fun _ h9 => h9) rfl dX18_others_83 ?_
          obtain ⟨s47, hq, h⟩ := nd_b1_e h
          have hPc := hP
          have hDc := hD
          have hKc := hK
          have hFc := nd_rs hD hS hA
          refine nd_cVv (As := [.int (sI s44 4)]) (rest := []) (w' := dw_X18 a ac s47) ⟨hx, hb, hml, hown, hts⟩ (fun sz => dm_X18_register l hlt dC dI a ac n ((sI s44 4)) s44 hq sz) (cwV 1 hts gi_dm_X18_others_1 rfl rfl rfl (by decide +kernel) ⟨Nat.le_of_ble_eq_true rfl, Nat.le_of_ble_eq_true rfl⟩) hPc hDc hKc hS hA hN (va_recv hKc hPc (ci := 19) (q0 := 0) rfl rfl) rfl hl.1 rfl (Nat.le_of_ble_eq_true rfl) dX18_others_86 (fun H locs hP1 hD1 hk1 hS => ?_)
          have hP := hP1
          have hD := hD1.weaken (fun k q _ h => hFc q.1 h)
          refine lv_aload_n hx hb dX18_others_89 rfl (lv_at hl 1 rfl) ?_
          refine lv_aload_n hx hb dX18_others_90 rfl (lv_at hl 1 rfl) ?_
          refine va_get (D := (dC, dI)) (ci := 19) (v := .int (sI s47 3)) (C := RX18) (T := TX18) (N := 10) hx hb hts hi_dm_X18_others_X18 hown hK hP 0 rfl rfl 4 (by decide) (hts (.fieldLink RX18 20 "TimeMachineModel$Reader" "bits" "I") (List.mem_of_getElem? (i := 1) rfl)) (fun _ h9 => h9) rfl dX18_others_91 ?_
          refine lv_bipush (v := 20) hx hb dX18_others_94 (by decide) ?_
          refine lv_ishr hx hb dX18_others_96 ?_
          refine lv_aload_n hx hb dX18_others_97 rfl (lv_at hl 1 rfl) ?_
          refine va_get (D := (dC, dI)) (ci := 19) (v := .int (sI s47 5)) (C := RX18) (T := TX18) (N := 10) hx hb hts hi_dm_X18_others_X18 hown hK hP 0 rfl rfl 6 (by decide) (hts (.fieldLink RX18 74 "TimeMachineModel$Reader" "a" "I") (List.mem_of_getElem? (i := 27) rfl)) (fun _ h9 => h9) rfl dX18_others_98 ?_
          obtain ⟨s50, hq, h⟩ := nd_b1_e h
          have hPc := hP
          have hDc := hD
          have hKc := hK
          have hFc := nd_rs hD hS hA
          refine nd_cVv (As := [.int (((sI s47 3) : Int32) >>> ((20 : Int32) &&& 31)), .int (sI s47 5)]) (rest := []) (w' := dw_X18 a ac s50) ⟨hx, hb, hml, hown, hts⟩ (fun sz => dm_X18_memory l hlt dC dI a ac n ((((sI s47 3) : Int32) >>> ((20 : Int32) &&& 31))) ((sI s47 5)) s47 hq sz) (cwV 2 hts gi_dm_X18_others_5 rfl rfl rfl (by decide +kernel) ⟨Nat.le_of_ble_eq_true rfl, Nat.le_of_ble_eq_true rfl⟩) hPc hDc hKc hS hA hN (va_recv hKc hPc (ci := 19) (q0 := 0) rfl rfl) rfl hl.1 rfl (Nat.le_of_ble_eq_true rfl) dX18_others_101 (fun H locs hP1 hD1 hk1 hS => ?_)
          have hP := hP1
          have hD := hD1.weaken (fun k q _ h => hFc q.1 h)
          refine lv_goto (tgt := 215) hx hb dX18_others_104 (by decide) ?_
          exact (db_X18_others_215 C K)  s50 _ _ _ h hP hD hS (lv_sub hl [] rfl)
    · have h := nd_pos h c13
      exact (db_X18_others_20 C K) (z1) s0 _ _ _ h hP hD hS (lv_sub hl [1, 0] rfl)
set_option maxHeartbeats 40000000 in
set_option maxRecDepth 100000 in
theorem dm_X18_others (l : Launch) (hlt : l.stackTraces = false) (dC : Nat → ClassId) (dI : Nat → Nat → Nat) (a : Nat → Nat) (ac : Nat → ClassId) (n : Nat) (s0 : St) {r : St} (h : df_X18_others n s0 = some r) (sz : Nat) : Met l yX18_others ow_dm_X18_others ({ frames := 5, cells := 0, slots := 0, locals := 111 }) (va_Pc [.ref (a 0)] (fun U => U.heap.size = sz ∧ va_P (dC, dI) vwCl (dw_X18 a ac s0) U.heap ∧ va_K (dC, dI) vwCl (dk_X18 ac) U ∧ va_D (fun _ => True) (dw_X18 a ac s0) ∧ nv_E dI (va_A (dw_X18 a ac s0) sz) U)) (va_Qv (fun _ => True) (fun (_ : Unit) t => va_P (dC, dI) vwCl (dw_X18 a ac r) t.heap ∧ va_K (dC, dI) vwCl (dk_X18 ac) t ∧ va_D (va_A (dw_X18 a ac s0) sz) (dw_X18 a ac r)) (va_A (dw_X18 a ac s0) sz)) 0 0 (va_A (dw_X18 a ac s0) sz) := by
  refine Met.ofW (cc := cX18_others) (maxL := 2) (ret := none) (by decide) rfl ?_
  intro p e s m args below meth c s₁ B hml hv
  obtain ⟨rfl, hsz, hP, hK, hD0, hN⟩ := hv
  have hx := B.exec
  have hb := B.bytes
  have hr := B.returns
  have hts := atoms_spec (ws := ow_dm_X18_others) B.pre
  have hown : s.vm.findClass RX18 = some m.cls := findClass_of_methodNamed B.named
  have hlocks := B.notSynchronized
  subst hsz
  have hD := hD0.self (sz := s.heap.size)
  generalize hAe : va_A (dw_X18 a ac s0) s.heap.size = A at hD hN ⊢
  have hA : ∀ q : Nat, s.heap.size ≤ q → A q := fun q h => by rw [← hAe]; exact Or.inr h
  have hl := lv_entry ([.ref (a 0)]) (n := 2) (Nat.le_of_ble_eq_true rfl)
  rw [lg_entry_eq]
  generalize (lg_sl ([.ref (a 0)]) ++ List.replicate (2 - (lg_sl ([.ref (a 0)])).length) Slot.unset).toArray = ls at hl ⊢
  have hl : lv_has ls 2 [(0, .ref (a 0))] := hl
  exact db_X18_others_0 (dC := dC) (dI := dI) (a := a) (ac := ac) (n := n) (r := r) ⟨hlt, hx, hb, hml, hown, hts, hN, hA, hK⟩ (fun pc τ H locs ls d er hP hD hS => by subst er; exact W.vret hx hb hr (fun t ht hW => ⟨⟨(), rfl, trivial, by rw [ht]; exact hP, va_K.moved hW.alike hK, hD⟩, hS.F ht⟩) hS.2.2 d) s0 _ _ _ h hP hD va_S.rf (lv_sub hl [0] rfl)
def ow_dm_X18_longOne : List Cond := Cond.code yX18_longOne cX18_longOne 2 none :: ([Cond.methodLink RX18 172 yX18_part, Cond.instanceMethod yX18_part, Cond.selects RX18 yX18_part yX18_part, Cond.initialized RX18, Cond.fieldLink RX18 68 "TimeMachineModel$Reader" "d" "I", Cond.fieldLink RX18 80 "TimeMachineModel$Reader" "f" "I", Cond.fieldLink RX18 74 "TimeMachineModel$Reader" "a" "I", Cond.fieldLink RX18 77 "TimeMachineModel$Reader" "b" "I", Cond.fieldLink RX18 20 "TimeMachineModel$Reader" "bits" "I", Cond.methodLink RX18 222 yX18_loads, Cond.instanceMethod yX18_loads, Cond.selects RX18 yX18_loads yX18_loads, Cond.methodLink RX18 219 yX18_twos, Cond.instanceMethod yX18_twos, Cond.selects RX18 yX18_twos yX18_twos, Cond.methodLink RX18 225 yX18_stores, Cond.instanceMethod yX18_stores, Cond.selects RX18 yX18_stores yX18_stores, Cond.methodLink RX18 231 yX18_atomic, Cond.instanceMethod yX18_atomic, Cond.selects RX18 yX18_atomic yX18_atomic, Cond.methodLink RX18 216 yX18_plain, Cond.instanceMethod yX18_plain, Cond.selects RX18 yX18_plain yX18_plain, Cond.methodLink RX18 228 yX18_branches, Cond.instanceMethod yX18_branches, Cond.selects RX18 yX18_branches yX18_branches, Cond.methodLink RX18 234 yX18_system, Cond.instanceMethod yX18_system, Cond.selects RX18 yX18_system yX18_system, Cond.methodLink RX18 237 yX18_others, Cond.instanceMethod yX18_others, Cond.selects RX18 yX18_others yX18_others] ++ (u_ws RX18 TX18 10 ++ (ow_dm_X18_part ++ (ow_dm_X18_loads ++ (ow_dm_X18_twos ++ (ow_dm_X18_stores ++ (ow_dm_X18_atomic ++ (ow_dm_X18_plain ++ (ow_dm_X18_branches ++ (ow_dm_X18_system ++ (ow_dm_X18_others ++ [])))))))))))
theorem gd_dm_X18_longOne : ∀ w ∈ ow_dm_X18_longOne, (w.onTables && w.keeps) = true ∨ ∃ ty, w = Cond.arrayClass ty := List.forall_mem_cons.mpr ⟨good_of_word rfl, List.forall_mem_append.mpr ⟨fun w h => good_of_word (List.all_eq_true.mp (by decide +kernel) w h), List.forall_mem_append.mpr ⟨gu_X18, List.forall_mem_append.mpr ⟨gd_dm_X18_part, List.forall_mem_append.mpr ⟨gd_dm_X18_loads, List.forall_mem_append.mpr ⟨gd_dm_X18_twos, List.forall_mem_append.mpr ⟨gd_dm_X18_stores, List.forall_mem_append.mpr ⟨gd_dm_X18_atomic, List.forall_mem_append.mpr ⟨gd_dm_X18_plain, List.forall_mem_append.mpr ⟨gd_dm_X18_branches, List.forall_mem_append.mpr ⟨gd_dm_X18_system, List.forall_mem_append.mpr ⟨gd_dm_X18_others, fun _ h => nomatch h⟩⟩⟩⟩⟩⟩⟩⟩⟩⟩⟩⟩
theorem hi_dm_X18_longOne_X18 : ∀ w ∈ u_ws RX18 TX18 10, w ∈ ow_dm_X18_longOne := fun w h => List.mem_cons_of_mem _ (List.mem_append_right _ (List.mem_append_left _ h))
theorem gi_dm_X18_longOne_0 : GoodIn ow_dm_X18_longOne (wsV RX18 172 RX18 yX18_part ow_dm_X18_part) := goodIn_app (goodIn_of _ (by decide +kernel)) (fun w h => ⟨List.mem_cons_of_mem _ (List.mem_append_right _ (List.mem_append_right _ (List.mem_append_left _ h))), gd_dm_X18_part w h⟩)
theorem gi_dm_X18_longOne_1 : GoodIn ow_dm_X18_longOne (wsV RX18 222 RX18 yX18_loads ow_dm_X18_loads) := goodIn_app (goodIn_of _ (by decide +kernel)) (fun w h => ⟨List.mem_cons_of_mem _ (List.mem_append_right _ (List.mem_append_right _ (List.mem_append_right _ (List.mem_append_left _ h)))), gd_dm_X18_loads w h⟩)
theorem gi_dm_X18_longOne_2 : GoodIn ow_dm_X18_longOne (wsV RX18 219 RX18 yX18_twos ow_dm_X18_twos) := goodIn_app (goodIn_of _ (by decide +kernel)) (fun w h => ⟨List.mem_cons_of_mem _ (List.mem_append_right _ (List.mem_append_right _ (List.mem_append_right _ (List.mem_append_right _ (List.mem_append_left _ h))))), gd_dm_X18_twos w h⟩)
theorem gi_dm_X18_longOne_3 : GoodIn ow_dm_X18_longOne (wsV RX18 225 RX18 yX18_stores ow_dm_X18_stores) := goodIn_app (goodIn_of _ (by decide +kernel)) (fun w h => ⟨List.mem_cons_of_mem _ (List.mem_append_right _ (List.mem_append_right _ (List.mem_append_right _ (List.mem_append_right _ (List.mem_append_right _ (List.mem_append_left _ h)))))), gd_dm_X18_stores w h⟩)
theorem gi_dm_X18_longOne_4 : GoodIn ow_dm_X18_longOne (wsV RX18 231 RX18 yX18_atomic ow_dm_X18_atomic) := goodIn_app (goodIn_of _ (by decide +kernel)) (fun w h => ⟨List.mem_cons_of_mem _ (List.mem_append_right _ (List.mem_append_right _ (List.mem_append_right _ (List.mem_append_right _ (List.mem_append_right _ (List.mem_append_right _ (List.mem_append_left _ h))))))), gd_dm_X18_atomic w h⟩)
theorem gi_dm_X18_longOne_5 : GoodIn ow_dm_X18_longOne (wsV RX18 216 RX18 yX18_plain ow_dm_X18_plain) := goodIn_app (goodIn_of _ (by decide +kernel)) (fun w h => ⟨List.mem_cons_of_mem _ (List.mem_append_right _ (List.mem_append_right _ (List.mem_append_right _ (List.mem_append_right _ (List.mem_append_right _ (List.mem_append_right _ (List.mem_append_right _ (List.mem_append_left _ h)))))))), gd_dm_X18_plain w h⟩)
theorem gi_dm_X18_longOne_6 : GoodIn ow_dm_X18_longOne (wsV RX18 228 RX18 yX18_branches ow_dm_X18_branches) := goodIn_app (goodIn_of _ (by decide +kernel)) (fun w h => ⟨List.mem_cons_of_mem _ (List.mem_append_right _ (List.mem_append_right _ (List.mem_append_right _ (List.mem_append_right _ (List.mem_append_right _ (List.mem_append_right _ (List.mem_append_right _ (List.mem_append_right _ (List.mem_append_left _ h))))))))), gd_dm_X18_branches w h⟩)
theorem gi_dm_X18_longOne_7 : GoodIn ow_dm_X18_longOne (wsV RX18 234 RX18 yX18_system ow_dm_X18_system) := goodIn_app (goodIn_of _ (by decide +kernel)) (fun w h => ⟨List.mem_cons_of_mem _ (List.mem_append_right _ (List.mem_append_right _ (List.mem_append_right _ (List.mem_append_right _ (List.mem_append_right _ (List.mem_append_right _ (List.mem_append_right _ (List.mem_append_right _ (List.mem_append_right _ (List.mem_append_left _ h)))))))))), gd_dm_X18_system w h⟩)
theorem gi_dm_X18_longOne_8 : GoodIn ow_dm_X18_longOne (wsV RX18 237 RX18 yX18_others ow_dm_X18_others) := goodIn_app (goodIn_of _ (by decide +kernel)) (fun w h => ⟨List.mem_cons_of_mem _ (List.mem_append_right _ (List.mem_append_right _ (List.mem_append_right _ (List.mem_append_right _ (List.mem_append_right _ (List.mem_append_right _ (List.mem_append_right _ (List.mem_append_right _ (List.mem_append_right _ (List.mem_append_right _ (List.mem_append_left _ h))))))))))), gd_dm_X18_others w h⟩)
def dj_X18_longOne_190 (p : Program) (l : Launch) (e : Env) (s : State) (m : MethodId) (args : Array Value) (below : List Frame) (meth : Method) (c : Code) (Q : State → Prop) (A : Nat → Prop) (dC : Nat → ClassId) (dI : Nat → Nat → Nat) (a : Nat → Nat) (ac : Nat → ClassId) (g : (St) → Option (St)) (r : St) : Prop := ∀ (s0 : St) (H : Heap) (locs : List Loc) (ls : Array Slot), g s0 = some r → va_P (dC, dI) vwCl (dw_X18 a ac s0) H → va_D A (dw_X18 a ac s0) → va_S A s.heap H locs → lv_has ls 2 [] → W p l e (headSpec ow_dm_X18_longOne ({ frames := 6, cells := 0, slots := 0, locals := 132 })).room s m args below meth c H locs 0 0 Q (F0 m 190 ls [])
def dj_X18_longOne_0 (p : Program) (l : Launch) (e : Env) (s : State) (m : MethodId) (args : Array Value) (below : List Frame) (meth : Method) (c : Code) (Q : State → Prop) (A : Nat → Prop) (dC : Nat → ClassId) (dI : Nat → Nat → Nat) (a : Nat → Nat) (ac : Nat → ClassId) (g : (St) → Option (St)) (r : St) : Prop := ∀ (s0 : St) (H : Heap) (locs : List Loc) (ls : Array Slot), g s0 = some r → va_P (dC, dI) vwCl (dw_X18 a ac s0) H → va_D A (dw_X18 a ac s0) → va_S A s.heap H locs → lv_has ls 2 [(0, .ref (a 0))] → W p l e (headSpec ow_dm_X18_longOne ({ frames := 6, cells := 0, slots := 0, locals := 132 })).room s m args below meth c H locs 0 0 Q (F0 m 0 ls [])
set_option maxHeartbeats 40000000 in
set_option maxRecDepth 100000 in
theorem db_X18_longOne_190 {p : Program} {l : Launch} {e : Env} {s : State} {m : MethodId} {args : Array Value} {below : List Frame} {meth : Method} {c : Code} {Q : State → Prop} {A : Nat → Prop} {dC : Nat → ClassId} {dI : Nat → Nat → Nat} {a : Nat → Nat} {ac : Nat → ClassId} {n : Nat} {r : St} (C : nd_C p l s m args c A (dC, dI) cX18_longOne 2 RX18 ow_dm_X18_longOne (dk_X18 ac)) (K : nd_Kv p l e (headSpec ow_dm_X18_longOne ({ frames := 6, cells := 0, slots := 0, locals := 132 })).room s m args below meth c Q A (dC, dI) cX18_longOne (St) (dw_X18 a ac) r) : dj_X18_longOne_190 p l e s m args below meth c Q A dC dI a ac (df_X18_longOne_190 n) r := by
  obtain ⟨hlt, hx, hb, hml, hown, hts, hN, hA, hK⟩ := id C
  intro s0 H locs ls h hP hD hS hl
  unfold df_X18_longOne_190 at h
  exact K _ _ _ _ _ dX18_longOne_190 (Option.some.inj h).symm hP hD hS
set_option maxHeartbeats 40000000 in
set_option maxRecDepth 100000 in
theorem db_X18_longOne_0 {p : Program} {l : Launch} {e : Env} {s : State} {m : MethodId} {args : Array Value} {below : List Frame} {meth : Method} {c : Code} {Q : State → Prop} {A : Nat → Prop} {dC : Nat → ClassId} {dI : Nat → Nat → Nat} {a : Nat → Nat} {ac : Nat → ClassId} {n : Nat} {r : St} (C : nd_C p l s m args c A (dC, dI) cX18_longOne 2 RX18 ow_dm_X18_longOne (dk_X18 ac)) (K : nd_Kv p l e (headSpec ow_dm_X18_longOne ({ frames := 6, cells := 0, slots := 0, locals := 132 })).room s m args below meth c Q A (dC, dI) cX18_longOne (St) (dw_X18 a ac) r) : dj_X18_longOne_0 p l e s m args below meth c Q A dC dI a ac (df_X18_longOne_0 n) r := by
  obtain ⟨hlt, hx, hb, hml, hown, hts, hN, hA, hK⟩ := id C
  intro s0 H locs ls h hP hD hS hl
  unfold df_X18_longOne_0 at h
  refine lv_aload_n hx hb dX18_longOne_0 rfl (lv_at hl 0 rfl) ?_
  refine lv_aload_n hx hb dX18_longOne_1 rfl (lv_at hl 0 rfl) ?_
  refine lv_bipush (v := 7) hx hb dX18_longOne_2 (by decide) ?_
  refine lv_iconst (v := 5) hx hb dX18_longOne_4 (by decide) ?_
  obtain ⟨q1, s2, hq, h⟩ := nd_b2_e h
  have hPc := hP
  have hDc := hD
  have hKc := hK
  have hFc := nd_rs hD hS hA
  refine nd_cVi (As := [.int 7, .int 5]) (rest := [.ref (a 0)]) (q := q1) (w' := dw_X18 a ac s2) ⟨hx, hb, hml, hown, hts⟩ (fun sz => dm_X18_part l hlt dC dI a ac n (7) (5) s0 hq sz) (cwV 2 hts gi_dm_X18_longOne_0 rfl rfl rfl (by decide +kernel) ⟨Nat.le_of_ble_eq_true rfl, Nat.le_of_ble_eq_true rfl⟩) hPc hDc hKc hS hA hN (va_recv hKc hPc (ci := 19) (q0 := 0) rfl rfl) rfl hl.1 rfl (Nat.le_of_ble_eq_true rfl) dX18_longOne_5 (fun H locs hP1 hD1 hk1 hS => ?_)
  have hP := hP1
  have hD := hD1.weaken (fun k q _ h => hFc q.1 h)
  refine va_put (D := (dC, dI)) (ci := 19) (v := .int q1) (ty := .int) (C := RX18) (T := TX18) (N := 10) hx hb hts hi_dm_X18_longOne_X18 tyX18 tyX18_ok nmX18 hown hK hP hD hS 0 rfl rfl 5 (by decide) (hts (.fieldLink RX18 68 "TimeMachineModel$Reader" "d" "I") (List.mem_of_getElem? (i := 5) rfl)) (fun _ h9 => h9) rfl (by decide +kernel) rfl rfl (Nat.le_of_ble_eq_true rfl) dX18_longOne_8 (fun H locs hP hD hS => ?_)
  obtain ⟨s4, es4, h⟩ := nd_let_e h
  have hP : va_P (dC, dI) vwCl (dw_X18 a ac s4) H := by rw [es4]; exact hP
  have hD : va_D A (dw_X18 a ac s4) := by rw [es4]; exact hD
  refine lv_aload_n hx hb dX18_longOne_11 rfl (lv_at hl 0 rfl) ?_
  refine lv_aload_n hx hb dX18_longOne_12 rfl (lv_at hl 0 rfl) ?_
  refine lv_bipush (v := 12) hx hb dX18_longOne_13 (by decide) ?_
  refine lv_iconst (v := 3) hx hb dX18_longOne_15 (by decide) ?_
  obtain ⟨q5, s6, hq, h⟩ := nd_b2_e h
  have hPc := hP
  have hDc := hD
  have hKc := hK
  have hFc := nd_rs hD hS hA
  refine nd_cVi (As := [.int 12, .int 3]) (rest := [.ref (a 0)]) (q := q5) (w' := dw_X18 a ac s6) ⟨hx, hb, hml, hown, hts⟩ (fun sz => dm_X18_part l hlt dC dI a ac n (12) (3) s4 hq sz) (cwV 2 hts gi_dm_X18_longOne_0 rfl rfl rfl (by decide +kernel) ⟨Nat.le_of_ble_eq_true rfl, Nat.le_of_ble_eq_true rfl⟩) hPc hDc hKc hS hA hN (va_recv hKc hPc (ci := 19) (q0 := 0) rfl rfl) rfl hl.1 rfl (Nat.le_of_ble_eq_true rfl) dX18_longOne_16 (fun H locs hP1 hD1 hk1 hS => ?_)
  have hP := hP1
  have hD := hD1.weaken (fun k q _ h => hFc q.1 h)
  refine va_put (D := (dC, dI)) (ci := 19) (v := .int q5) (ty := .int) (C := RX18) (T := TX18) (N := 10) hx hb hts hi_dm_X18_longOne_X18 tyX18 tyX18_ok nmX18 hown hK hP hD hS 0 rfl rfl 8 (by decide) (hts (.fieldLink RX18 80 "TimeMachineModel$Reader" "f" "I") (List.mem_of_getElem? (i := 6) rfl)) (fun _ h9 => h9) rfl (by decide +kernel) rfl rfl (Nat.le_of_ble_eq_true rfl) dX18_longOne_19 (fun H locs hP hD hS => ?_)
  obtain ⟨s8, es8, h⟩ := nd_let_e h
  have hP : va_P (dC, dI) vwCl (dw_X18 a ac s8) H := by rw [es8]; exact hP
  have hD : va_D A (dw_X18 a ac s8) := by rw [es8]; exact hD
  refine lv_aload_n hx hb dX18_longOne_22 rfl (lv_at hl 0 rfl) ?_
  refine lv_aload_n hx hb dX18_longOne_23 rfl (lv_at hl 0 rfl) ?_
  refine lv_bipush (v := 15) hx hb dX18_longOne_24 (by decide) ?_
  refine lv_iconst (v := 5) hx hb dX18_longOne_26 (by decide) ?_
  obtain ⟨q9, s10, hq, h⟩ := nd_b2_e h
  have hPc := hP
  have hDc := hD
  have hKc := hK
  have hFc := nd_rs hD hS hA
  refine nd_cVi (As := [.int 15, .int 5]) (rest := [.ref (a 0)]) (q := q9) (w' := dw_X18 a ac s10) ⟨hx, hb, hml, hown, hts⟩ (fun sz => dm_X18_part l hlt dC dI a ac n (15) (5) s8 hq sz) (cwV 2 hts gi_dm_X18_longOne_0 rfl rfl rfl (by decide +kernel) ⟨Nat.le_of_ble_eq_true rfl, Nat.le_of_ble_eq_true rfl⟩) hPc hDc hKc hS hA hN (va_recv hKc hPc (ci := 19) (q0 := 0) rfl rfl) rfl hl.1 rfl (Nat.le_of_ble_eq_true rfl) dX18_longOne_27 (fun H locs hP1 hD1 hk1 hS => ?_)
  have hP := hP1
  have hD := hD1.weaken (fun k q _ h => hFc q.1 h)
  refine va_put (D := (dC, dI)) (ci := 19) (v := .int q9) (ty := .int) (C := RX18) (T := TX18) (N := 10) hx hb hts hi_dm_X18_longOne_X18 tyX18 tyX18_ok nmX18 hown hK hP hD hS 0 rfl rfl 6 (by decide) (hts (.fieldLink RX18 74 "TimeMachineModel$Reader" "a" "I") (List.mem_of_getElem? (i := 7) rfl)) (fun _ h9 => h9) rfl (by decide +kernel) rfl rfl (Nat.le_of_ble_eq_true rfl) dX18_longOne_30 (fun H locs hP hD hS => ?_)
  obtain ⟨s12, es12, h⟩ := nd_let_e h
  have hP : va_P (dC, dI) vwCl (dw_X18 a ac s12) H := by rw [es12]; exact hP
  have hD : va_D A (dw_X18 a ac s12) := by rw [es12]; exact hD
  refine lv_aload_n hx hb dX18_longOne_33 rfl (lv_at hl 0 rfl) ?_
  refine lv_aload_n hx hb dX18_longOne_34 rfl (lv_at hl 0 rfl) ?_
  refine lv_bipush (v := 20) hx hb dX18_longOne_35 (by decide) ?_
  refine lv_iconst (v := 5) hx hb dX18_longOne_37 (by decide) ?_
  obtain ⟨q13, s14, hq, h⟩ := nd_b2_e h
  have hPc := hP
  have hDc := hD
  have hKc := hK
  have hFc := nd_rs hD hS hA
  refine nd_cVi (As := [.int 20, .int 5]) (rest := [.ref (a 0)]) (q := q13) (w' := dw_X18 a ac s14) ⟨hx, hb, hml, hown, hts⟩ (fun sz => dm_X18_part l hlt dC dI a ac n (20) (5) s12 hq sz) (cwV 2 hts gi_dm_X18_longOne_0 rfl rfl rfl (by decide +kernel) ⟨Nat.le_of_ble_eq_true rfl, Nat.le_of_ble_eq_true rfl⟩) hPc hDc hKc hS hA hN (va_recv hKc hPc (ci := 19) (q0 := 0) rfl rfl) rfl hl.1 rfl (Nat.le_of_ble_eq_true rfl) dX18_longOne_38 (fun H locs hP1 hD1 hk1 hS => ?_)
  have hP := hP1
  have hD := hD1.weaken (fun k q _ h => hFc q.1 h)
  refine va_put (D := (dC, dI)) (ci := 19) (v := .int q13) (ty := .int) (C := RX18) (T := TX18) (N := 10) hx hb hts hi_dm_X18_longOne_X18 tyX18 tyX18_ok nmX18 hown hK hP hD hS 0 rfl rfl 7 (by decide) (hts (.fieldLink RX18 77 "TimeMachineModel$Reader" "b" "I") (List.mem_of_getElem? (i := 8) rfl)) (fun _ h9 => h9) rfl (by decide +kernel) rfl rfl (Nat.le_of_ble_eq_true rfl) dX18_longOne_41 (fun H locs hP hD hS => ?_)
  obtain ⟨s16, es16, h⟩ := nd_let_e h
  have hP : va_P (dC, dI) vwCl (dw_X18 a ac s16) H := by rw [es16]; exact hP
  have hD : va_D A (dw_X18 a ac s16) := by rw [es16]; exact hD
  refine lv_aload_n hx hb dX18_longOne_44 rfl (lv_at hl 0 rfl) ?_
  refine lv_bipush (v := 25) hx hb dX18_longOne_45 (by decide) ?_
  refine lv_bipush (v := 7) hx hb dX18_longOne_47 (by decide) ?_
  obtain ⟨q17, s18, hq, h⟩ := nd_b2_e h
  have hPc := hP
  have hDc := hD
  have hKc := hK
  have hFc := nd_rs hD hS hA
  refine nd_cVi (As := [.int 25, .int 7]) (rest := []) (q := q17) (w' := dw_X18 a ac s18) ⟨hx, hb, hml, hown, hts⟩ (fun sz => dm_X18_part l hlt dC dI a ac n (25) (7) s16 hq sz) (cwV 2 hts gi_dm_X18_longOne_0 rfl rfl rfl (by decide +kernel) ⟨Nat.le_of_ble_eq_true rfl, Nat.le_of_ble_eq_true rfl⟩) hPc hDc hKc hS hA hN (va_recv hKc hPc (ci := 19) (q0 := 0) rfl rfl) rfl hl.1 rfl (Nat.le_of_ble_eq_true rfl) dX18_longOne_49 (fun H locs hP1 hD1 hk1 hS => ?_)
  have hP := hP1
  have hD := hD1.weaken (fun k q _ h => hFc q.1 h)
  refine lv_istore_n (lv' := [(1, .int q17), (0, .ref (a 0))]) hx hb dX18_longOne_52 rfl hl (by decide) rfl (fun ls hl => ?_)
  refine lv_aload_n hx hb dX18_longOne_53 rfl (lv_at hl 1 rfl) ?_
  refine va_get (D := (dC, dI)) (ci := 19) (v := .int (sI s18 3)) (C := RX18) (T := TX18) (N := 10) hx hb hts hi_dm_X18_longOne_X18 hown hK hP 0 rfl rfl 4 (by decide) (hts (.fieldLink RX18 20 "TimeMachineModel$Reader" "bits" "I") (List.mem_of_getElem? (i := 9) rfl)) (fun _ h9 => h9) rfl dX18_longOne_54 ?_
  refine lv_bipush (v := 127) hx hb dX18_longOne_57 (by decide) ?_
  refine lv_iand hx hb dX18_longOne_59 ?_
  by_cases c20 : ((sI s18 3) &&& 127) = 3
  · have h := nd_pos h c20
    refine lv_lookup (off := 84) (tgt := 144) hx hb dX18_longOne_60 (by decide) (by rw [c20]; decide) (by decide) ?_
    refine lv_aload_n hx hb dX18_longOne_144 rfl (lv_at hl 1 rfl) ?_
    obtain ⟨s22, hq, h⟩ := nd_b1_e h
    have hPc := hP
    have hDc := hD
    have hKc := hK
    have hFc := nd_rs hD hS hA
    refine nd_cVv (As := []) (rest := []) (w' := dw_X18 a ac s22) ⟨hx, hb, hml, hown, hts⟩ (fun sz => dm_X18_loads l hlt dC dI a ac n  s18 hq sz) (cwV 0 hts gi_dm_X18_longOne_1 rfl rfl rfl (by decide +kernel) ⟨Nat.le_of_ble_eq_true rfl, Nat.le_of_ble_eq_true rfl⟩) hPc hDc hKc hS hA hN (va_recv hKc hPc (ci := 19) (q0 := 0) rfl rfl) rfl hl.1 rfl (Nat.le_of_ble_eq_true rfl) dX18_longOne_145 (fun H locs hP1 hD1 hk1 hS => ?_)
    have hP := hP1
    have hD := hD1.weaken (fun k q _ h => hFc q.1 h)
    refine lv_goto (tgt := 190) hx hb dX18_longOne_148 (by decide) ?_
    exact (db_X18_longOne_190 C K)  s22 _ _ _ h hP hD hS (lv_sub hl [] rfl)
  have h := nd_neg h c20
  by_cases c24 : ((sI s18 3) &&& 127) = 19
  · have h := nd_pos h c24
    refine lv_lookup (off := 76) (tgt := 136) hx hb dX18_longOne_60 (by decide) (by rw [c24]; decide) (by decide) ?_
    refine lv_aload_n hx hb dX18_longOne_136 rfl (lv_at hl 1 rfl) ?_
    refine lv_iload_n hx hb dX18_longOne_137 rfl (lv_at hl 0 rfl) ?_
    obtain ⟨s26, hq, h⟩ := nd_b1_e h
    have hPc := hP
    have hDc := hD
    have hKc := hK
    have hFc := nd_rs hD hS hA
    refine nd_cVv (As := [.int q17]) (rest := []) (w' := dw_X18 a ac s26) ⟨hx, hb, hml, hown, hts⟩ (fun sz => dm_X18_twos l hlt dC dI a ac n (q17) s18 hq sz) (cwV 1 hts gi_dm_X18_longOne_2 rfl rfl rfl (by decide +kernel) ⟨Nat.le_of_ble_eq_true rfl, Nat.le_of_ble_eq_true rfl⟩) hPc hDc hKc hS hA hN (va_recv hKc hPc (ci := 19) (q0 := 0) rfl rfl) rfl hl.1 rfl (Nat.le_of_ble_eq_true rfl) dX18_longOne_138 (fun H locs hP1 hD1 hk1 hS => ?_)
    have hP := hP1
    have hD := hD1.weaken (fun k q _ h => hFc q.1 h)
    refine lv_goto (tgt := 190) hx hb dX18_longOne_141 (by decide) ?_
    exact (db_X18_longOne_190 C K)  s26 _ _ _ h hP hD hS (lv_sub hl [] rfl)
  have h := nd_neg h c24
  by_cases c28 : ((sI s18 3) &&& 127) = 35
  · have h := nd_pos h c28
    refine lv_lookup (off := 91) (tgt := 151) hx hb dX18_longOne_60 (by decide) (by rw [c28]; decide) (by decide) ?_
    refine lv_aload_n hx hb dX18_longOne_151 rfl (lv_at hl 1 rfl) ?_
    obtain ⟨s30, hq, h⟩ := nd_b1_e h
    have hPc := hP
    have hDc := hD
    have hKc := hK
    have hFc := nd_rs hD hS hA
    refine nd_cVv (As := []) (rest := []) (w' := dw_X18 a ac s30) ⟨hx, hb, hml, hown, hts⟩ (fun sz => dm_X18_stores l hlt dC dI a ac n  s18 hq sz) (cwV 0 hts gi_dm_X18_longOne_3 rfl rfl rfl (by decide +kernel) ⟨Nat.le_of_ble_eq_true rfl, Nat.le_of_ble_eq_true rfl⟩) hPc hDc hKc hS hA hN (va_recv hKc hPc (ci := 19) (q0 := 0) rfl rfl) rfl hl.1 rfl (Nat.le_of_ble_eq_true rfl) dX18_longOne_152 (fun H locs hP1 hD1 hk1 hS => ?_)
    have hP := hP1
    have hD := hD1.weaken (fun k q _ h => hFc q.1 h)
    refine lv_goto (tgt := 190) hx hb dX18_longOne_155 (by decide) ?_
    exact (db_X18_longOne_190 C K)  s30 _ _ _ h hP hD hS (lv_sub hl [] rfl)
  have h := nd_neg h c28
  by_cases c32 : ((sI s18 3) &&& 127) = 47
  · have h := nd_pos h c32
    refine lv_lookup (off := 105) (tgt := 165) hx hb dX18_longOne_60 (by decide) (by rw [c32]; decide) (by decide) ?_
    refine lv_aload_n hx hb dX18_longOne_165 rfl (lv_at hl 1 rfl) ?_
    refine lv_aload_n hx hb dX18_longOne_166 rfl (lv_at hl 1 rfl) ?_
    refine lv_bipush (v := 27) hx hb dX18_longOne_167 (by decide) ?_
    refine lv_iconst (v := 5) hx hb dX18_longOne_169 (by decide) ?_
    obtain ⟨q33, s34, hq, h⟩ := nd_b2_e h
    have hPc := hP
    have hDc := hD
    have hKc := hK
    have hFc := nd_rs hD hS hA
    refine nd_cVi (As := [.int 27, .int 5]) (rest := [.ref (a 0)]) (q := q33) (w' := dw_X18 a ac s34) ⟨hx, hb, hml, hown, hts⟩ (fun sz => dm_X18_part l hlt dC dI a ac n (27) (5) s18 hq sz) (cwV 2 hts gi_dm_X18_longOne_0 rfl rfl rfl (by decide +kernel) ⟨Nat.le_of_ble_eq_true rfl, Nat.le_of_ble_eq_true rfl⟩) hPc hDc hKc hS hA hN (va_recv hKc hPc (ci := 19) (q0 := 0) rfl rfl) rfl hl.1 rfl (Nat.le_of_ble_eq_true rfl) dX18_longOne_170 (fun H locs hP1 hD1 hk1 hS => ?_)
    have hP := hP1
    have hD := hD1.weaken (fun k q _ h => hFc q.1 h)
    obtain ⟨s37, hq, h⟩ := nd_b1_e h
    have hPc := hP
    have hDc := hD
    have hKc := hK
    have hFc := nd_rs hD hS hA
    refine nd_cVv (As := [.int q33]) (rest := []) (w' := dw_X18 a ac s37) ⟨hx, hb, hml, hown, hts⟩ (fun sz => dm_X18_atomic l hlt dC dI a ac n (q33) s34 hq sz) (cwV 1 hts gi_dm_X18_longOne_4 rfl rfl rfl (by decide +kernel) ⟨Nat.le_of_ble_eq_true rfl, Nat.le_of_ble_eq_true rfl⟩) hPc hDc hKc hS hA hN (va_recv hKc hPc (ci := 19) (q0 := 0) rfl rfl) rfl hl.1 rfl (Nat.le_of_ble_eq_true rfl) dX18_longOne_173 (fun H locs hP1 hD1 hk1 hS => ?_)
    have hP := hP1
    have hD := hD1.weaken (fun k q _ h => hFc q.1 h)
    refine lv_goto (tgt := 190) hx hb dX18_longOne_176 (by decide) ?_
    exact (db_X18_longOne_190 C K)  s37 _ _ _ h hP hD hS (lv_sub hl [] rfl)
  have h := nd_neg h c32
  by_cases c39 : ((sI s18 3) &&& 127) = 51
  · have h := nd_pos h c39
    refine lv_lookup (off := 68) (tgt := 128) hx hb dX18_longOne_60 (by decide) (by rw [c39]; decide) (by decide) ?_
    refine lv_aload_n hx hb dX18_longOne_128 rfl (lv_at hl 1 rfl) ?_
    refine lv_iload_n hx hb dX18_longOne_129 rfl (lv_at hl 0 rfl) ?_
    obtain ⟨s41, hq, h⟩ := nd_b1_e h
    have hPc := hP
    have hDc := hD
    have hKc := hK
    have hFc := nd_rs hD hS hA
    refine nd_cVv (As := [.int q17]) (rest := []) (w' := dw_X18 a ac s41) ⟨hx, hb, hml, hown, hts⟩ (fun sz => dm_X18_plain l hlt dC dI a ac n (q17) s18 hq sz) (cwV 1 hts gi_dm_X18_longOne_5 rfl rfl rfl (by decide +kernel) ⟨Nat.le_of_ble_eq_true rfl, Nat.le_of_ble_eq_true rfl⟩) hPc hDc hKc hS hA hN (va_recv hKc hPc (ci := 19) (q0 := 0) rfl rfl) rfl hl.1 rfl (Nat.le_of_ble_eq_true rfl) dX18_longOne_130 (fun H locs hP1 hD1 hk1 hS => ?_)
    have hP := hP1
    have hD := hD1.weaken (fun k q _ h => hFc q.1 h)
    refine lv_goto (tgt := 190) hx hb dX18_longOne_133 (by decide) ?_
    exact (db_X18_longOne_190 C K)  s41 _ _ _ h hP hD hS (lv_sub hl [] rfl)
  have h := nd_neg h c39
  by_cases c43 : ((sI s18 3) &&& 127) = 99
  · have h := nd_pos h c43
    refine lv_lookup (off := 98) (tgt := 158) hx hb dX18_longOne_60 (by decide) (by rw [c43]; decide) (by decide) ?_
    refine lv_aload_n hx hb dX18_longOne_158 rfl (lv_at hl 1 rfl) ?_
    obtain ⟨s45, hq, h⟩ := nd_b1_e h
    have hPc := hP
    have hDc := hD
    have hKc := hK
    have hFc := nd_rs hD hS hA
    refine nd_cVv (As := []) (rest := []) (w' := dw_X18 a ac s45) ⟨hx, hb, hml, hown, hts⟩ (fun sz => dm_X18_branches l hlt dC dI a ac n  s18 hq sz) (cwV 0 hts gi_dm_X18_longOne_6 rfl rfl rfl (by decide +kernel) ⟨Nat.le_of_ble_eq_true rfl, Nat.le_of_ble_eq_true rfl⟩) hPc hDc hKc hS hA hN (va_recv hKc hPc (ci := 19) (q0 := 0) rfl rfl) rfl hl.1 rfl (Nat.le_of_ble_eq_true rfl) dX18_longOne_159 (fun H locs hP1 hD1 hk1 hS => ?_)
    have hP := hP1
    have hD := hD1.weaken (fun k q _ h => hFc q.1 h)
    refine lv_goto (tgt := 190) hx hb dX18_longOne_162 (by decide) ?_
    exact (db_X18_longOne_190 C K)  s45 _ _ _ h hP hD hS (lv_sub hl [] rfl)
  have h := nd_neg h c43
  by_cases c47 : ((sI s18 3) &&& 127) = 115
  · have h := nd_pos h c47
    refine lv_lookup (off := 119) (tgt := 179) hx hb dX18_longOne_60 (by decide) (by rw [c47]; decide) (by decide) ?_
    refine lv_aload_n hx hb dX18_longOne_179 rfl (lv_at hl 1 rfl) ?_
    obtain ⟨s49, hq, h⟩ := nd_b1_e h
    have hPc := hP
    have hDc := hD
    have hKc := hK
    have hFc := nd_rs hD hS hA
    refine nd_cVv (As := []) (rest := []) (w' := dw_X18 a ac s49) ⟨hx, hb, hml, hown, hts⟩ (fun sz => dm_X18_system l hlt dC dI a ac n  s18 hq sz) (cwV 0 hts gi_dm_X18_longOne_7 rfl rfl rfl (by decide +kernel) ⟨Nat.le_of_ble_eq_true rfl, Nat.le_of_ble_eq_true rfl⟩) hPc hDc hKc hS hA hN (va_recv hKc hPc (ci := 19) (q0 := 0) rfl rfl) rfl hl.1 rfl (Nat.le_of_ble_eq_true rfl) dX18_longOne_180 (fun H locs hP1 hD1 hk1 hS => ?_)
    have hP := hP1
    have hD := hD1.weaken (fun k q _ h => hFc q.1 h)
    refine lv_goto (tgt := 190) hx hb dX18_longOne_183 (by decide) ?_
    exact (db_X18_longOne_190 C K)  s49 _ _ _ h hP hD hS (lv_sub hl [] rfl)
  have h := nd_neg h c47
  refine lv_lookup (off := 126) (tgt := 186) hx hb dX18_longOne_60 (by decide) (show Op.lookupswitch.offset [(3, 84), (19, 76), (35, 91), (47, 105), (51, 68), (99, 98), (115, 119)] 126 (((sI s18 3) &&& 127) : Int32).toInt = 126 by rw [lv_osw c20 (by decide), lv_osw c24 (by decide), lv_osw c28 (by decide), lv_osw c32 (by decide), lv_osw c39 (by decide), lv_osw c43 (by decide), lv_osw c47 (by decide)] <;> rfl) (by decide) ?_
  refine lv_aload_n hx hb dX18_longOne_186 rfl (lv_at hl 1 rfl) ?_
  obtain ⟨s52, hq, h⟩ := nd_b1_e h
  have hPc := hP
  have hDc := hD
  have hKc := hK
  have hFc := nd_rs hD hS hA
  refine nd_cVv (As := []) (rest := []) (w' := dw_X18 a ac s52) ⟨hx, hb, hml, hown, hts⟩ (fun sz => dm_X18_others l hlt dC dI a ac n  s18 hq sz) (cwV 0 hts gi_dm_X18_longOne_8 rfl rfl rfl (by decide +kernel) ⟨Nat.le_of_ble_eq_true rfl, Nat.le_of_ble_eq_true rfl⟩) hPc hDc hKc hS hA hN (va_recv hKc hPc (ci := 19) (q0 := 0) rfl rfl) rfl hl.1 rfl (Nat.le_of_ble_eq_true rfl) dX18_longOne_187 (fun H locs hP1 hD1 hk1 hS => ?_)
  have hP := hP1
  have hD := hD1.weaken (fun k q _ h => hFc q.1 h)
  exact (db_X18_longOne_190 C K)  s52 _ _ _ h hP hD hS (lv_sub hl [] rfl)
set_option maxHeartbeats 40000000 in
set_option maxRecDepth 100000 in
theorem dm_X18_longOne (l : Launch) (hlt : l.stackTraces = false) (dC : Nat → ClassId) (dI : Nat → Nat → Nat) (a : Nat → Nat) (ac : Nat → ClassId) (n : Nat) (s0 : St) {r : St} (h : df_X18_longOne n s0 = some r) (sz : Nat) : Met l yX18_longOne ow_dm_X18_longOne ({ frames := 6, cells := 0, slots := 0, locals := 132 }) (va_Pc [.ref (a 0)] (fun U => U.heap.size = sz ∧ va_P (dC, dI) vwCl (dw_X18 a ac s0) U.heap ∧ va_K (dC, dI) vwCl (dk_X18 ac) U ∧ va_D (fun _ => True) (dw_X18 a ac s0) ∧ nv_E dI (va_A (dw_X18 a ac s0) sz) U)) (va_Qv (fun _ => True) (fun (_ : Unit) t => va_P (dC, dI) vwCl (dw_X18 a ac r) t.heap ∧ va_K (dC, dI) vwCl (dk_X18 ac) t ∧ va_D (va_A (dw_X18 a ac s0) sz) (dw_X18 a ac r)) (va_A (dw_X18 a ac s0) sz)) 0 0 (va_A (dw_X18 a ac s0) sz) := by
  refine Met.ofW (cc := cX18_longOne) (maxL := 2) (ret := none) (by decide) rfl ?_
  intro p e s m args below meth c s₁ B hml hv
  obtain ⟨rfl, hsz, hP, hK, hD0, hN⟩ := hv
  have hx := B.exec
  have hb := B.bytes
  have hr := B.returns
  have hts := atoms_spec (ws := ow_dm_X18_longOne) B.pre
  have hown : s.vm.findClass RX18 = some m.cls := findClass_of_methodNamed B.named
  have hlocks := B.notSynchronized
  subst hsz
  have hD := hD0.self (sz := s.heap.size)
  generalize hAe : va_A (dw_X18 a ac s0) s.heap.size = A at hD hN ⊢
  have hA : ∀ q : Nat, s.heap.size ≤ q → A q := fun q h => by rw [← hAe]; exact Or.inr h
  have hl := lv_entry ([.ref (a 0)]) (n := 2) (Nat.le_of_ble_eq_true rfl)
  rw [lg_entry_eq]
  generalize (lg_sl ([.ref (a 0)]) ++ List.replicate (2 - (lg_sl ([.ref (a 0)])).length) Slot.unset).toArray = ls at hl ⊢
  have hl : lv_has ls 2 [(0, .ref (a 0))] := hl
  exact db_X18_longOne_0 (dC := dC) (dI := dI) (a := a) (ac := ac) (n := n) (r := r) ⟨hlt, hx, hb, hml, hown, hts, hN, hA, hK⟩ (fun pc τ H locs ls d er hP hD hS => by subst er; exact W.vret hx hb hr (fun t ht hW => ⟨⟨(), rfl, trivial, by rw [ht]; exact hP, va_K.moved hW.alike hK, hD⟩, hS.F ht⟩) hS.2.2 d) s0 _ _ _ h hP hD va_S.rf (lv_sub hl [0] rfl)
def ow_dm_X18_six : List Cond := Cond.code yX18_six cX18_six 1 (some .int) :: ([Cond.methodLink RX18 172 yX18_part, Cond.instanceMethod yX18_part, Cond.selects RX18 yX18_part yX18_part, Cond.initialized RX18] ++ (ow_dm_X18_part ++ []))
theorem gd_dm_X18_six : ∀ w ∈ ow_dm_X18_six, (w.onTables && w.keeps) = true ∨ ∃ ty, w = Cond.arrayClass ty := List.forall_mem_cons.mpr ⟨good_of_word rfl, List.forall_mem_append.mpr ⟨fun w h => good_of_word (List.all_eq_true.mp (by decide +kernel) w h), List.forall_mem_append.mpr ⟨gd_dm_X18_part, fun _ h => nomatch h⟩⟩⟩
theorem gi_dm_X18_six_0 : GoodIn ow_dm_X18_six (wsV RX18 172 RX18 yX18_part ow_dm_X18_part) := goodIn_app (goodIn_of _ (by decide +kernel)) (fun w h => ⟨List.mem_cons_of_mem _ (List.mem_append_right _ (List.mem_append_left _ h)), gd_dm_X18_part w h⟩)
def dj_X18_six_0 (p : Program) (l : Launch) (e : Env) (s : State) (m : MethodId) (args : Array Value) (below : List Frame) (meth : Method) (c : Code) (Q : State → Prop) (A : Nat → Prop) (dC : Nat → ClassId) (dI : Nat → Nat → Nat) (a : Nat → Nat) (ac : Nat → ClassId) (g : (St) → Option (Int32 × (St))) (r : Int32 × (St)) : Prop := ∀ (s0 : St) (H : Heap) (locs : List Loc) (ls : Array Slot), g s0 = some r → va_P (dC, dI) vwCl (dw_X18 a ac s0) H → va_D A (dw_X18 a ac s0) → va_S A s.heap H locs → lv_has ls 1 [(0, .ref (a 0))] → W p l e (headSpec ow_dm_X18_six ({ frames := 1, cells := 0, slots := 0, locals := 22 })).room s m args below meth c H locs 0 0 Q (F0 m 0 ls [])
set_option maxHeartbeats 40000000 in
set_option maxRecDepth 100000 in
theorem db_X18_six_0 {p : Program} {l : Launch} {e : Env} {s : State} {m : MethodId} {args : Array Value} {below : List Frame} {meth : Method} {c : Code} {Q : State → Prop} {A : Nat → Prop} {dC : Nat → ClassId} {dI : Nat → Nat → Nat} {a : Nat → Nat} {ac : Nat → ClassId} {n : Nat} {r : Int32 × (St)} (C : nd_C p l s m args c A (dC, dI) cX18_six 1 RX18 ow_dm_X18_six (dk_X18 ac)) (K : nd_Ki p l e (headSpec ow_dm_X18_six ({ frames := 1, cells := 0, slots := 0, locals := 22 })).room s m args below meth c Q A (dC, dI) cX18_six .int (St) (dw_X18 a ac) r) : dj_X18_six_0 p l e s m args below meth c Q A dC dI a ac (df_X18_six_0 n) r := by
  obtain ⟨hlt, hx, hb, hml, hown, hts, hN, hA, hK⟩ := id C
  intro s0 H locs ls h hP hD hS hl
  unfold df_X18_six_0 at h
  refine lv_aload_n hx hb dX18_six_0 rfl (lv_at hl 0 rfl) ?_
  refine lv_iconst (v := 2) hx hb dX18_six_1 (by decide) ?_
  refine lv_iconst (v := 5) hx hb dX18_six_2 (by decide) ?_
  obtain ⟨q1, s2, hq, h⟩ := nd_b2_e h
  have hPc := hP
  have hDc := hD
  have hKc := hK
  have hFc := nd_rs hD hS hA
  refine nd_cVi (As := [.int 2, .int 5]) (rest := []) (q := q1) (w' := dw_X18 a ac s2) ⟨hx, hb, hml, hown, hts⟩ (fun sz => dm_X18_part l hlt dC dI a ac n (2) (5) s0 hq sz) (cwV 2 hts gi_dm_X18_six_0 rfl rfl rfl (by decide +kernel) ⟨Nat.le_of_ble_eq_true rfl, Nat.le_of_ble_eq_true rfl⟩) hPc hDc hKc hS hA hN (va_recv hKc hPc (ci := 19) (q0 := 0) rfl rfl) rfl hl.1 rfl (Nat.le_of_ble_eq_true rfl) dX18_six_3 (fun H locs hP1 hD1 hk1 hS => ?_)
  have hP := hP1
  have hD := hD1.weaken (fun k q _ h => hFc q.1 h)
  refine lv_bipush (v := 32) hx hb dX18_six_6 (by decide) ?_
  refine lv_aload_n hx hb dX18_six_8 rfl (lv_at hl 0 rfl) ?_
  refine lv_bipush (v := 12) hx hb dX18_six_9 (by decide) ?_
  refine lv_iconst (v := 1) hx hb dX18_six_11 (by decide) ?_
  obtain ⟨q4, s5, hq, h⟩ := nd_b2_e h
  have hPc := hP
  have hDc := hD
  have hKc := hK
  have hFc := nd_rs hD hS hA
  refine nd_cVi (As := [.int 12, .int 1]) (rest := [.int 32, .int q1]) (q := q4) (w' := dw_X18 a ac s5) ⟨hx, hb, hml, hown, hts⟩ (fun sz => dm_X18_part l hlt dC dI a ac n (12) (1) s2 hq sz) (cwV 2 hts gi_dm_X18_six_0 rfl rfl rfl (by decide +kernel) ⟨Nat.le_of_ble_eq_true rfl, Nat.le_of_ble_eq_true rfl⟩) hPc hDc hKc hS hA hN (va_recv hKc hPc (ci := 19) (q0 := 0) rfl rfl) rfl hl.1 rfl (Nat.le_of_ble_eq_true rfl) dX18_six_12 (fun H locs hP1 hD1 hk1 hS => ?_)
  have hP := hP1
  have hD := hD1.weaken (fun k q _ h => hFc q.1 h)
  refine lv_imul hx hb dX18_six_15 ?_
  refine lv_isub hx hb dX18_six_16 ?_
  exact K _ _ _ _ _ _ dX18_six_17 rfl (Option.some.inj h).symm hP hD hS
set_option maxHeartbeats 40000000 in
set_option maxRecDepth 100000 in
theorem dm_X18_six (l : Launch) (hlt : l.stackTraces = false) (dC : Nat → ClassId) (dI : Nat → Nat → Nat) (a : Nat → Nat) (ac : Nat → ClassId) (n : Nat) (s0 : St) {r : Int32 × (St)} (h : df_X18_six n s0 = some r) (sz : Nat) : Met l yX18_six ow_dm_X18_six ({ frames := 1, cells := 0, slots := 0, locals := 22 }) (va_Pc [.ref (a 0)] (fun U => U.heap.size = sz ∧ va_P (dC, dI) vwCl (dw_X18 a ac s0) U.heap ∧ va_K (dC, dI) vwCl (dk_X18 ac) U ∧ va_D (fun _ => True) (dw_X18 a ac s0) ∧ nv_E dI (va_A (dw_X18 a ac s0) sz) U)) (va_Qi (fun x _ => x = r.1) (fun (_ : Unit) t => va_P (dC, dI) vwCl (dw_X18 a ac r.2) t.heap ∧ va_K (dC, dI) vwCl (dk_X18 ac) t ∧ va_D (va_A (dw_X18 a ac s0) sz) (dw_X18 a ac r.2)) (va_A (dw_X18 a ac s0) sz)) 0 0 (va_A (dw_X18 a ac s0) sz) := by
  refine Met.ofW (cc := cX18_six) (maxL := 1) (ret := (some .int)) (by decide) rfl ?_
  intro p e s m args below meth c s₁ B hml hv
  obtain ⟨rfl, hsz, hP, hK, hD0, hN⟩ := hv
  have hx := B.exec
  have hb := B.bytes
  have hr := B.returns
  have hts := atoms_spec (ws := ow_dm_X18_six) B.pre
  have hown : s.vm.findClass RX18 = some m.cls := findClass_of_methodNamed B.named
  have hlocks := B.notSynchronized
  subst hsz
  have hD := hD0.self (sz := s.heap.size)
  generalize hAe : va_A (dw_X18 a ac s0) s.heap.size = A at hD hN ⊢
  have hA : ∀ q : Nat, s.heap.size ≤ q → A q := fun q h => by rw [← hAe]; exact Or.inr h
  have hl := lv_entry ([.ref (a 0)]) (n := 1) (Nat.le_of_ble_eq_true rfl)
  rw [lg_entry_eq]
  generalize (lg_sl ([.ref (a 0)]) ++ List.replicate (1 - (lg_sl ([.ref (a 0)])).length) Slot.unset).toArray = ls at hl ⊢
  have hl : lv_has ls 1 [(0, .ref (a 0))] := hl
  exact db_X18_six_0 (dC := dC) (dI := dI) (a := a) (ac := ac) (n := n) (r := r) ⟨hlt, hx, hb, hml, hown, hts, hN, hA, hK⟩ (fun pc v τ H locs ls d z er hP hD hS => by subst er; exact W.zret (v := v) hx hb hr z (fun t ht hW => ⟨⟨v, (), rfl, rfl, by rw [ht]; exact hP, va_K.moved hW.alike hK, hD⟩, hS.F ht⟩) hS.2.2 d) s0 _ _ _ h hP hD va_S.rf (lv_sub hl [0] rfl)

