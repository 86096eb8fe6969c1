def ow_dm_X8_textPages : List Cond := .code yX8_textPages cX8_textPages 1 (some .int) :: ([.fieldLink RX8 28 "TimeMachine$Program" "textSize" "I"] ++ (u_ws RX8 TX8 10 ++ []))
theorem gd_dm_X8_textPages : ∀ w ∈ ow_dm_X8_textPages, (w.onTables && w.keeps) = true ∨ ∃ ty, w = Cond.arrayClass ty := List.forall_mem_cons.mpr ⟨good_of_word rfl, List.forall_mem_append.mpr ⟨fun w h => good_of_word (List.all_eq_true.mp (by decide +kernel) w h), List.forall_mem_append.mpr ⟨gu_X8, fun _ h => nomatch h⟩⟩⟩
theorem hi_dm_X8_textPages_X8 : ∀ w ∈ u_ws RX8 TX8 10, w ∈ ow_dm_X8_textPages := fun w h => List.mem_cons_of_mem _ (List.mem_append_right _ (List.mem_append_left _ h))
def dj_X8_textPages_0 (p : Program) (l : Launch) (e : Env) (s : State) (m : MethodId) (args : Array Value) (below : List Frame) (meth : Method) (c : Code) (Q : State → Prop) (A : Nat → Prop) (dC : Nat → ClassId) (dI : Nat → Nat → Nat) (a : Nat → Nat) (ac : Nat → ClassId) (g : (St) → Option (Int32 × (St))) (r : Int32 × (St)) : Prop := ∀ (s0 : St) (H : Heap) (locs : List Loc) (ls : Array Slot), g s0 = some r → va_P (dC, dI) vwCl (dw_X8 a ac s0) H → va_D A (dw_X8 a ac s0) → va_S A s.heap H locs → lv_has ls 1 [(0, .ref (a 0))] → W p l e (headSpec ow_dm_X8_textPages ({ frames := 0, cells := 0, slots := 0, locals := 0 })).room s m args below meth c H locs 0 0 Q (F0 m 0 ls [])
set_option maxHeartbeats 40000000 in
set_option maxRecDepth 100000 in
theorem db_X8_textPages_0 {p : Program} {l : Launch} {e : Env} {s : State} {m : MethodId} {args : Array Value} {below : List Frame} {meth : Method} {c : Code} {Q : State → Prop} {A : Nat → Prop} {dC : Nat → ClassId} {dI : Nat → Nat → Nat} {a : Nat → Nat} {ac : Nat → ClassId} {n : Nat} {r : Int32 × (St)} (C : nd_C p l s m args c A (dC, dI) cX8_textPages 1 RX8 ow_dm_X8_textPages (dk_X8 ac)) (K : nd_Ki p l e (headSpec ow_dm_X8_textPages ({ frames := 0, cells := 0, slots := 0, locals := 0 })).room s m args below meth c Q A (dC, dI) cX8_textPages .int (St) (dw_X8 a ac) r) : dj_X8_textPages_0 p l e s m args below meth c Q A dC dI a ac (df_X8_textPages_0 n) r := by
  obtain ⟨hlt, hx, hb, hml, hown, hts, hN, hA, hK⟩ := id C
  intro s0 H locs ls h hP hD hS hl
  unfold df_X8_textPages_0 at h
  refine lv_aload_n hx hb dX8_textPages_0 rfl (lv_at hl 0 rfl) ?_
  refine va_get (D := (dC, dI)) (ci := 9) (v := .int (sI s0 0)) (C := RX8) (T := TX8) (N := 10) hx hb hts hi_dm_X8_textPages_X8 hown hK hP 0 rfl rfl 1 (by decide) (hts (.fieldLink RX8 28 "TimeMachine$Program" "textSize" "I") (List.mem_of_getElem? (i := 1) rfl)) (fun _ h9 => h9) rfl dX8_textPages_1 ?_
  refine lv_sipush (v := 1024) hx hb dX8_textPages_4 (by decide) ?_
  refine lv_iadd hx hb dX8_textPages_7 ?_
  refine lv_iconst (v := 1) hx hb dX8_textPages_8 (by decide) ?_
  refine lv_isub hx hb dX8_textPages_9 ?_
  refine lv_sipush (v := 1024) hx hb dX8_textPages_10 (by decide) ?_
  refine lv_idiv hx hb dX8_textPages_13 (by decide) ?_
  exact K _ _ _ _ _ _ dX8_textPages_14 rfl (Option.some.inj h).symm hP hD hS
set_option maxHeartbeats 40000000 in
set_option maxRecDepth 100000 in
theorem dm_X8_textPages (l : Launch) (hlt : l.stackTraces = false) (dC : Nat → ClassId) (dI : Nat → Nat → Nat) (a : Nat → Nat) (ac : Nat → ClassId) (n : Nat) (s0 : St) {r : Int32 × (St)} (h : df_X8_textPages n s0 = some r) (sz : Nat) : Met l yX8_textPages ow_dm_X8_textPages ({ frames := 0, cells := 0, slots := 0, locals := 0 }) (va_Pc [.ref (a 0)] (fun U => U.heap.size = sz ∧ va_P (dC, dI) vwCl (dw_X8 a ac s0) U.heap ∧ va_K (dC, dI) vwCl (dk_X8 ac) U ∧ va_D (fun _ => True) (dw_X8 a ac s0) ∧ nv_E (va_A (dw_X8 a ac s0) sz) U)) (va_Qi (fun x _ => x = r.1) (fun (_ : Unit) t => va_P (dC, dI) vwCl (dw_X8 a ac r.2) t.heap ∧ va_K (dC, dI) vwCl (dk_X8 ac) t ∧ va_D (va_A (dw_X8 a ac s0) sz) (dw_X8 a ac r.2)) (va_A (dw_X8 a ac s0) sz)) 0 0 (va_A (dw_X8 a ac s0) sz) := by
  refine Met.ofW (cc := cX8_textPages) (maxL := 1) (ret := (some .int)) (by decide) rfl ?_
  intro p e s m args below meth c s₁ B hml hv
  obtain ⟨rfl, hsz, hP, hK, hD0, hN⟩ := hv
  have hx := B.exec
  have hb := B.bytes
  have hr := B.returns
  have hts := atoms_spec (ws := ow_dm_X8_textPages) B.pre
  have hown : s.vm.findClass RX8 = some m.cls := findClass_of_methodNamed B.named
  have hlocks := B.notSynchronized
  subst hsz
  have hD := hD0.self (sz := s.heap.size)
  generalize hAe : va_A (dw_X8 a ac s0) s.heap.size = A at hD hN ⊢
  have hA : ∀ q : Nat, s.heap.size ≤ q → A q := fun q h => by rw [← hAe]; exact Or.inr h
  have hl := lv_entry ([.ref (a 0)]) (n := 1) (Nat.le_of_ble_eq_true rfl)
  rw [lg_entry_eq]
  generalize (lg_sl ([.ref (a 0)]) ++ List.replicate (1 - (lg_sl ([.ref (a 0)])).length) Slot.unset).toArray = ls at hl ⊢
  have hl : lv_has ls 1 [(0, .ref (a 0))] := hl
  exact db_X8_textPages_0 (dC := dC) (dI := dI) (a := a) (ac := ac) (n := n) (r := r) ⟨hlt, hx, hb, hml, hown, hts, hN, hA, hK⟩ (fun pc v τ H locs ls d z er hP hD hS => by subst er; exact W.zret (v := v) hx hb hr z (fun t ht hW => ⟨⟨v, (), rfl, rfl, by rw [ht]; exact hP, va_K.moved hW.alike hK, hD⟩, hS.F ht⟩) hS.2.2 d) s0 _ _ _ h hP hD va_S.rf (lv_sub hl [0] rfl)
def ow_dm_X8_dataPages : List Cond := .code yX8_dataPages cX8_dataPages 1 (some .int) :: ([.fieldLink RX8 35 "TimeMachine$Program" "size" "I", .fieldLink RX8 32 "TimeMachine$Program" "dataStart" "I"] ++ (u_ws RX8 TX8 10 ++ []))
theorem gd_dm_X8_dataPages : ∀ w ∈ ow_dm_X8_dataPages, (w.onTables && w.keeps) = true ∨ ∃ ty, w = Cond.arrayClass ty := List.forall_mem_cons.mpr ⟨good_of_word rfl, List.forall_mem_append.mpr ⟨fun w h => good_of_word (List.all_eq_true.mp (by decide +kernel) w h), List.forall_mem_append.mpr ⟨gu_X8, fun _ h => nomatch h⟩⟩⟩
theorem hi_dm_X8_dataPages_X8 : ∀ w ∈ u_ws RX8 TX8 10, w ∈ ow_dm_X8_dataPages := fun w h => List.mem_cons_of_mem _ (List.mem_append_right _ (List.mem_append_left _ h))
def dj_X8_dataPages_34 (p : Program) (l : Launch) (e : Env) (s : State) (m : MethodId) (args : Array Value) (below : List Frame) (meth : Method) (c : Code) (Q : State → Prop) (A : Nat → Prop) (dC : Nat → ClassId) (dI : Nat → Nat → Nat) (a : Nat → Nat) (ac : Nat → ClassId) (g : Int32 → (St) → Option (Int32 × (St))) (r : Int32 × (St)) : Prop := ∀ (y0 : Int32) (s0 : St) (H : Heap) (locs : List Loc) (ls : Array Slot), g y0 s0 = some r → va_P (dC, dI) vwCl (dw_X8 a ac s0) H → va_D A (dw_X8 a ac s0) → va_S A s.heap H locs → lv_has ls 1 [] → W p l e (headSpec ow_dm_X8_dataPages ({ frames := 0, cells := 0, slots := 0, locals := 0 })).room s m args below meth c H locs 0 0 Q (F0 m 34 ls [.int y0])
def dj_X8_dataPages_0 (p : Program) (l : Launch) (e : Env) (s : State) (m : MethodId) (args : Array Value) (below : List Frame) (meth : Method) (c : Code) (Q : State → Prop) (A : Nat → Prop) (dC : Nat → ClassId) (dI : Nat → Nat → Nat) (a : Nat → Nat) (ac : Nat → ClassId) (g : (St) → Option (Int32 × (St))) (r : Int32 × (St)) : Prop := ∀ (s0 : St) (H : Heap) (locs : List Loc) (ls : Array Slot), g s0 = some r → va_P (dC, dI) vwCl (dw_X8 a ac s0) H → va_D A (dw_X8 a ac s0) → va_S A s.heap H locs → lv_has ls 1 [(0, .ref (a 0))] → W p l e (headSpec ow_dm_X8_dataPages ({ frames := 0, cells := 0, slots := 0, locals := 0 })).room s m args below meth c H locs 0 0 Q (F0 m 0 ls [])
set_option maxHeartbeats 40000000 in
set_option maxRecDepth 100000 in
theorem db_X8_dataPages_34 {p : Program} {l : Launch} {e : Env} {s : State} {m : MethodId} {args : Array Value} {below : List Frame} {meth : Method} {c : Code} {Q : State → Prop} {A : Nat → Prop} {dC : Nat → ClassId} {dI : Nat → Nat → Nat} {a : Nat → Nat} {ac : Nat → ClassId} {n : Nat} {r : Int32 × (St)} (C : nd_C p l s m args c A (dC, dI) cX8_dataPages 1 RX8 ow_dm_X8_dataPages (dk_X8 ac)) (K : nd_Ki p l e (headSpec ow_dm_X8_dataPages ({ frames := 0, cells := 0, slots := 0, locals := 0 })).room s m args below meth c Q A (dC, dI) cX8_dataPages .int (St) (dw_X8 a ac) r) : dj_X8_dataPages_34 p l e s m args below meth c Q A dC dI a ac (df_X8_dataPages_34 n) r := by
  obtain ⟨hlt, hx, hb, hml, hown, hts, hN, hA, hK⟩ := id C
  intro y0 s0 H locs ls h hP hD hS hl
  unfold df_X8_dataPages_34 at h
  exact K _ _ _ _ _ _ dX8_dataPages_34 rfl (Option.some.inj h).symm hP hD hS
set_option maxHeartbeats 40000000 in
set_option maxRecDepth 100000 in
theorem db_X8_dataPages_0 {p : Program} {l : Launch} {e : Env} {s : State} {m : MethodId} {args : Array Value} {below : List Frame} {meth : Method} {c : Code} {Q : State → Prop} {A : Nat → Prop} {dC : Nat → ClassId} {dI : Nat → Nat → Nat} {a : Nat → Nat} {ac : Nat → ClassId} {n : Nat} {r : Int32 × (St)} (C : nd_C p l s m args c A (dC, dI) cX8_dataPages 1 RX8 ow_dm_X8_dataPages (dk_X8 ac)) (K : nd_Ki p l e (headSpec ow_dm_X8_dataPages ({ frames := 0, cells := 0, slots := 0, locals := 0 })).room s m args below meth c Q A (dC, dI) cX8_dataPages .int (St) (dw_X8 a ac) r) : dj_X8_dataPages_0 p l e s m args below meth c Q A dC dI a ac (df_X8_dataPages_0 n) r := by
  obtain ⟨hlt, hx, hb, hml, hown, hts, hN, hA, hK⟩ := id C
  intro s0 H locs ls h hP hD hS hl
  unfold df_X8_dataPages_0 at h
  refine lv_aload_n hx hb dX8_dataPages_0 rfl (lv_at hl 0 rfl) ?_
  refine va_get (D := (dC, dI)) (ci := 9) (v := .int (sI s0 2)) (C := RX8) (T := TX8) (N := 10) hx hb hts hi_dm_X8_dataPages_X8 hown hK hP 0 rfl rfl 3 (by decide) (hts (.fieldLink RX8 35 "TimeMachine$Program" "size" "I") (List.mem_of_getElem? (i := 1) rfl)) (fun _ h9 => h9) rfl dX8_dataPages_1 ?_
  refine lv_aload_n hx hb dX8_dataPages_4 rfl (lv_at hl 0 rfl) ?_
  refine va_get (D := (dC, dI)) (ci := 9) (v := .int (sI s0 1)) (C := RX8) (T := TX8) (N := 10) hx hb hts hi_dm_X8_dataPages_X8 hown hK hP 0 rfl rfl 2 (by decide) (hts (.fieldLink RX8 32 "TimeMachine$Program" "dataStart" "I") (List.mem_of_getElem? (i := 2) rfl)) (fun _ h9 => h9) rfl dX8_dataPages_5 ?_
  refine lv_icmp_le (tgt := 33) hx hb dX8_dataPages_8 (by decide) (fun c1 => ?_) (fun c1 => ?_)
  · have h := nd_pos h c1
    refine lv_iconst (v := 0) hx hb dX8_dataPages_33 (by decide) ?_
    exact (db_X8_dataPages_34 C K) (0) s0 _ _ _ h hP hD hS (lv_sub hl [] rfl)
  · have h := nd_neg h c1
    refine lv_aload_n hx hb dX8_dataPages_11 rfl (lv_at hl 0 rfl) ?_
    refine va_get (D := (dC, dI)) (ci := 9) (v := .int (sI s0 2)) (C := RX8) (T := TX8) (N := 10) hx hb hts hi_dm_X8_dataPages_X8 hown hK hP 0 rfl rfl 3 (by decide) (hts (.fieldLink RX8 35 "TimeMachine$Program" "size" "I") (List.mem_of_getElem? (i := 1) rfl)) (fun _ h9 => h9) rfl dX8_dataPages_12 ?_
    refine lv_aload_n hx hb dX8_dataPages_15 rfl (lv_at hl 0 rfl) ?_
    refine va_get (D := (dC, dI)) (ci := 9) (v := .int (sI s0 1)) (C := RX8) (T := TX8) (N := 10) hx hb hts hi_dm_X8_dataPages_X8 hown hK hP 0 rfl rfl 2 (by decide) (hts (.fieldLink RX8 32 "TimeMachine$Program" "dataStart" "I") (List.mem_of_getElem? (i := 2) rfl)) (fun _ h9 => h9) rfl dX8_dataPages_16 ?_
    refine lv_isub hx hb dX8_dataPages_19 ?_
    refine lv_sipush (v := 1024) hx hb dX8_dataPages_20 (by decide) ?_
    refine lv_iadd hx hb dX8_dataPages_23 ?_
    refine lv_iconst (v := 1) hx hb dX8_dataPages_24 (by decide) ?_
    refine lv_isub hx hb dX8_dataPages_25 ?_
    refine lv_sipush (v := 1024) hx hb dX8_dataPages_26 (by decide) ?_
    refine lv_idiv hx hb dX8_dataPages_29 (by decide) ?_
    refine lv_goto (tgt := 34) hx hb dX8_dataPages_30 (by decide) ?_
    exact (db_X8_dataPages_34 C K) (((((((sI s0 2) - (sI s0 1)) + 1024) - 1) : Int32) / 1024)) s0 _ _ _ h hP hD hS (lv_sub hl [] rfl)
set_option maxHeartbeats 40000000 in
set_option maxRecDepth 100000 in
theorem dm_X8_dataPages (l : Launch) (hlt : l.stackTraces = false) (dC : Nat → ClassId) (dI : Nat → Nat → Nat) (a : Nat → Nat) (ac : Nat → ClassId) (n : Nat) (s0 : St) {r : Int32 × (St)} (h : df_X8_dataPages n s0 = some r) (sz : Nat) : Met l yX8_dataPages ow_dm_X8_dataPages ({ frames := 0, cells := 0, slots := 0, locals := 0 }) (va_Pc [.ref (a 0)] (fun U => U.heap.size = sz ∧ va_P (dC, dI) vwCl (dw_X8 a ac s0) U.heap ∧ va_K (dC, dI) vwCl (dk_X8 ac) U ∧ va_D (fun _ => True) (dw_X8 a ac s0) ∧ nv_E (va_A (dw_X8 a ac s0) sz) U)) (va_Qi (fun x _ => x = r.1) (fun (_ : Unit) t => va_P (dC, dI) vwCl (dw_X8 a ac r.2) t.heap ∧ va_K (dC, dI) vwCl (dk_X8 ac) t ∧ va_D (va_A (dw_X8 a ac s0) sz) (dw_X8 a ac r.2)) (va_A (dw_X8 a ac s0) sz)) 0 0 (va_A (dw_X8 a ac s0) sz) := by
  refine Met.ofW (cc := cX8_dataPages) (maxL := 1) (ret := (some .int)) (by decide) rfl ?_
  intro p e s m args below meth c s₁ B hml hv
  obtain ⟨rfl, hsz, hP, hK, hD0, hN⟩ := hv
  have hx := B.exec
  have hb := B.bytes
  have hr := B.returns
  have hts := atoms_spec (ws := ow_dm_X8_dataPages) B.pre
  have hown : s.vm.findClass RX8 = some m.cls := findClass_of_methodNamed B.named
  have hlocks := B.notSynchronized
  subst hsz
  have hD := hD0.self (sz := s.heap.size)
  generalize hAe : va_A (dw_X8 a ac s0) s.heap.size = A at hD hN ⊢
  have hA : ∀ q : Nat, s.heap.size ≤ q → A q := fun q h => by rw [← hAe]; exact Or.inr h
  have hl := lv_entry ([.ref (a 0)]) (n := 1) (Nat.le_of_ble_eq_true rfl)
  rw [lg_entry_eq]
  generalize (lg_sl ([.ref (a 0)]) ++ List.replicate (1 - (lg_sl ([.ref (a 0)])).length) Slot.unset).toArray = ls at hl ⊢
  have hl : lv_has ls 1 [(0, .ref (a 0))] := hl
  exact db_X8_dataPages_0 (dC := dC) (dI := dI) (a := a) (ac := ac) (n := n) (r := r) ⟨hlt, hx, hb, hml, hown, hts, hN, hA, hK⟩ (fun pc v τ H locs ls d z er hP hD hS => by subst er; exact W.zret (v := v) hx hb hr z (fun t ht hW => ⟨⟨v, (), rfl, rfl, by rw [ht]; exact hP, va_K.moved hW.alike hK, hD⟩, hS.F ht⟩) hS.2.2 d) s0 _ _ _ h hP hD va_S.rf (lv_sub hl [0] rfl)
def ow_dm_X8_heapStart : List Cond := .code yX8_heapStart cX8_heapStart 1 (some .int) :: ([.fieldLink RX8 35 "TimeMachine$Program" "size" "I"] ++ (u_ws RX8 TX8 10 ++ []))
theorem gd_dm_X8_heapStart : ∀ w ∈ ow_dm_X8_heapStart, (w.onTables && w.keeps) = true ∨ ∃ ty, w = Cond.arrayClass ty := List.forall_mem_cons.mpr ⟨good_of_word rfl, List.forall_mem_append.mpr ⟨fun w h => good_of_word (List.all_eq_true.mp (by decide +kernel) w h), List.forall_mem_append.mpr ⟨gu_X8, fun _ h => nomatch h⟩⟩⟩
theorem hi_dm_X8_heapStart_X8 : ∀ w ∈ u_ws RX8 TX8 10, w ∈ ow_dm_X8_heapStart := fun w h => List.mem_cons_of_mem _ (List.mem_append_right _ (List.mem_append_left _ h))
def dj_X8_heapStart_0 (p : Program) (l : Launch) (e : Env) (s : State) (m : MethodId) (args : Array Value) (below : List Frame) (meth : Method) (c : Code) (Q : State → Prop) (A : Nat → Prop) (dC : Nat → ClassId) (dI : Nat → Nat → Nat) (a : Nat → Nat) (ac : Nat → ClassId) (g : (St) → Option (Int32 × (St))) (r : Int32 × (St)) : Prop := ∀ (s0 : St) (H : Heap) (locs : List Loc) (ls : Array Slot), g s0 = some r → va_P (dC, dI) vwCl (dw_X8 a ac s0) H → va_D A (dw_X8 a ac s0) → va_S A s.heap H locs → lv_has ls 1 [(0, .ref (a 0))] → W p l e (headSpec ow_dm_X8_heapStart ({ frames := 0, cells := 0, slots := 0, locals := 0 })).room s m args below meth c H locs 0 0 Q (F0 m 0 ls [])
set_option maxHeartbeats 40000000 in
set_option maxRecDepth 100000 in
theorem db_X8_heapStart_0 {p : Program} {l : Launch} {e : Env} {s : State} {m : MethodId} {args : Array Value} {below : List Frame} {meth : Method} {c : Code} {Q : State → Prop} {A : Nat → Prop} {dC : Nat → ClassId} {dI : Nat → Nat → Nat} {a : Nat → Nat} {ac : Nat → ClassId} {n : Nat} {r : Int32 × (St)} (C : nd_C p l s m args c A (dC, dI) cX8_heapStart 1 RX8 ow_dm_X8_heapStart (dk_X8 ac)) (K : nd_Ki p l e (headSpec ow_dm_X8_heapStart ({ frames := 0, cells := 0, slots := 0, locals := 0 })).room s m args below meth c Q A (dC, dI) cX8_heapStart .int (St) (dw_X8 a ac) r) : dj_X8_heapStart_0 p l e s m args below meth c Q A dC dI a ac (df_X8_heapStart_0 n) r := by
  obtain ⟨hlt, hx, hb, hml, hown, hts, hN, hA, hK⟩ := id C
  intro s0 H locs ls h hP hD hS hl
  unfold df_X8_heapStart_0 at h
  refine lv_aload_n hx hb dX8_heapStart_0 rfl (lv_at hl 0 rfl) ?_
  refine va_get (D := (dC, dI)) (ci := 9) (v := .int (sI s0 2)) (C := RX8) (T := TX8) (N := 10) hx hb hts hi_dm_X8_heapStart_X8 hown hK hP 0 rfl rfl 3 (by decide) (hts (.fieldLink RX8 35 "TimeMachine$Program" "size" "I") (List.mem_of_getElem? (i := 1) rfl)) (fun _ h9 => h9) rfl dX8_heapStart_1 ?_
  refine lv_sipush (v := 1024) hx hb dX8_heapStart_4 (by decide) ?_
  refine lv_iadd hx hb dX8_heapStart_7 ?_
  refine lv_iconst (v := 1) hx hb dX8_heapStart_8 (by decide) ?_
  refine lv_isub hx hb dX8_heapStart_9 ?_
  refine lv_sipush (v := 1024) hx hb dX8_heapStart_10 (by decide) ?_
  refine lv_idiv hx hb dX8_heapStart_13 (by decide) ?_
  refine lv_sipush (v := 1024) hx hb dX8_heapStart_14 (by decide) ?_
  refine lv_imul hx hb dX8_heapStart_17 ?_
  exact K _ _ _ _ _ _ dX8_heapStart_18 rfl (Option.some.inj h).symm hP hD hS
set_option maxHeartbeats 40000000 in
set_option maxRecDepth 100000 in
theorem dm_X8_heapStart (l : Launch) (hlt : l.stackTraces = false) (dC : Nat → ClassId) (dI : Nat → Nat → Nat) (a : Nat → Nat) (ac : Nat → ClassId) (n : Nat) (s0 : St) {r : Int32 × (St)} (h : df_X8_heapStart n s0 = some r) (sz : Nat) : Met l yX8_heapStart ow_dm_X8_heapStart ({ frames := 0, cells := 0, slots := 0, locals := 0 }) (va_Pc [.ref (a 0)] (fun U => U.heap.size = sz ∧ va_P (dC, dI) vwCl (dw_X8 a ac s0) U.heap ∧ va_K (dC, dI) vwCl (dk_X8 ac) U ∧ va_D (fun _ => True) (dw_X8 a ac s0) ∧ nv_E (va_A (dw_X8 a ac s0) sz) U)) (va_Qi (fun x _ => x = r.1) (fun (_ : Unit) t => va_P (dC, dI) vwCl (dw_X8 a ac r.2) t.heap ∧ va_K (dC, dI) vwCl (dk_X8 ac) t ∧ va_D (va_A (dw_X8 a ac s0) sz) (dw_X8 a ac r.2)) (va_A (dw_X8 a ac s0) sz)) 0 0 (va_A (dw_X8 a ac s0) sz) := by
  refine Met.ofW (cc := cX8_heapStart) (maxL := 1) (ret := (some .int)) (by decide) rfl ?_
  intro p e s m args below meth c s₁ B hml hv
  obtain ⟨rfl, hsz, hP, hK, hD0, hN⟩ := hv
  have hx := B.exec
  have hb := B.bytes
  have hr := B.returns
  have hts := atoms_spec (ws := ow_dm_X8_heapStart) B.pre
  have hown : s.vm.findClass RX8 = some m.cls := findClass_of_methodNamed B.named
  have hlocks := B.notSynchronized
  subst hsz
  have hD := hD0.self (sz := s.heap.size)
  generalize hAe : va_A (dw_X8 a ac s0) s.heap.size = A at hD hN ⊢
  have hA : ∀ q : Nat, s.heap.size ≤ q → A q := fun q h => by rw [← hAe]; exact Or.inr h
  have hl := lv_entry ([.ref (a 0)]) (n := 1) (Nat.le_of_ble_eq_true rfl)
  rw [lg_entry_eq]
  generalize (lg_sl ([.ref (a 0)]) ++ List.replicate (1 - (lg_sl ([.ref (a 0)])).length) Slot.unset).toArray = ls at hl ⊢
  have hl : lv_has ls 1 [(0, .ref (a 0))] := hl
  exact db_X8_heapStart_0 (dC := dC) (dI := dI) (a := a) (ac := ac) (n := n) (r := r) ⟨hlt, hx, hb, hml, hown, hts, hN, hA, hK⟩ (fun pc v τ H locs ls d z er hP hD hS => by subst er; exact W.zret (v := v) hx hb hr z (fun t ht hW => ⟨⟨v, (), rfl, rfl, by rw [ht]; exact hP, va_K.moved hW.alike hK, hD⟩, hS.F ht⟩) hS.2.2 d) s0 _ _ _ h hP hD va_S.rf (lv_sub hl [0] rfl)
def ow_dm_X8_labelUpTo : List Cond := .code yX8_labelUpTo cX8_labelUpTo 4 (some .int) :: ([.fieldLink RX8 38 "TimeMachine$Program" "labels" "I", .fieldLink RX8 16 "TimeMachine$Program" "label" "[I"] ++ (u_ws RX8 TX8 10 ++ []))
theorem gd_dm_X8_labelUpTo : ∀ w ∈ ow_dm_X8_labelUpTo, (w.onTables && w.keeps) = true ∨ ∃ ty, w = Cond.arrayClass ty := List.forall_mem_cons.mpr ⟨good_of_word rfl, List.forall_mem_append.mpr ⟨fun w h => good_of_word (List.all_eq_true.mp (by decide +kernel) w h), List.forall_mem_append.mpr ⟨gu_X8, fun _ h => nomatch h⟩⟩⟩
theorem hi_dm_X8_labelUpTo_X8 : ∀ w ∈ u_ws RX8 TX8 10, w ∈ ow_dm_X8_labelUpTo := fun w h => List.mem_cons_of_mem _ (List.mem_append_right _ (List.mem_append_left _ h))
def dj_X8_labelUpTo_43 (p : Program) (l : Launch) (e : Env) (s : State) (m : MethodId) (args : Array Value) (below : List Frame) (meth : Method) (c : Code) (Q : State → Prop) (A : Nat → Prop) (dC : Nat → ClassId) (dI : Nat → Nat → Nat) (a : Nat → Nat) (ac : Nat → ClassId) (g : Int32 → Int32 → Int32 → (St) → Option (Int32 × (St))) (r : Int32 × (St)) : Prop := ∀ (x1 : Int32) (x2 : Int32) (x3 : Int32) (s0 : St) (H : Heap) (locs : List Loc) (ls : Array Slot), g x1 x2 x3 s0 = some r → va_P (dC, dI) vwCl (dw_X8 a ac s0) H → va_D A (dw_X8 a ac s0) → va_S A s.heap H locs → lv_has ls 4 [(0, .ref (a 0)), (1, .int x1), (2, .int x2), (3, .int x3)] → W p l e (headSpec ow_dm_X8_labelUpTo ({ frames := 0, cells := 0, slots := 0, locals := 0 })).room s m args below meth c H locs 0 0 Q (F0 m 43 ls [])
def dj_X8_labelUpTo_41 (p : Program) (l : Launch) (e : Env) (s : State) (m : MethodId) (args : Array Value) (below : List Frame) (meth : Method) (c : Code) (Q : State → Prop) (A : Nat → Prop) (dC : Nat → ClassId) (dI : Nat → Nat → Nat) (a : Nat → Nat) (ac : Nat → ClassId) (g : Int32 → Int32 → (St) → Option (Int32 × (St))) (r : Int32 × (St)) : Prop := ∀ (x1 : Int32) (x3 : Int32) (s0 : St) (H : Heap) (locs : List Loc) (ls : Array Slot), g x1 x3 s0 = some r → va_P (dC, dI) vwCl (dw_X8 a ac s0) H → va_D A (dw_X8 a ac s0) → va_S A s.heap H locs → lv_has ls 4 [(0, .ref (a 0)), (1, .int x1), (3, .int x3)] → W p l e (headSpec ow_dm_X8_labelUpTo ({ frames := 0, cells := 0, slots := 0, locals := 0 })).room s m args below meth c H locs 0 0 Q (F0 m 41 ls [])
def dj_X8_labelUpTo_4 (p : Program) (l : Launch) (e : Env) (s : State) (m : MethodId) (args : Array Value) (below : List Frame) (meth : Method) (c : Code) (Q : State → Prop) (A : Nat → Prop) (dC : Nat → ClassId) (dI : Nat → Nat → Nat) (a : Nat → Nat) (ac : Nat → ClassId) (g : Int32 → Int32 → Int32 → (St) → Option (Int32 × (St))) (r : Int32 × (St)) : Prop := ∀ (x1 : Int32) (x2 : Int32) (x3 : Int32) (s0 : St) (H : Heap) (locs : List Loc) (ls : Array Slot), g x1 x2 x3 s0 = some r → va_P (dC, dI) vwCl (dw_X8 a ac s0) H → va_D A (dw_X8 a ac s0) → va_S A s.heap H locs → lv_has ls 4 [(0, .ref (a 0)), (1, .int x1), (2, .int x2), (3, .int x3)] → W p l e (headSpec ow_dm_X8_labelUpTo ({ frames := 0, cells := 0, slots := 0, locals := 0 })).room s m args below meth c H locs 0 0 Q (F0 m 4 ls [])
def dj_X8_labelUpTo_0 (p : Program) (l : Launch) (e : Env) (s : State) (m : MethodId) (args : Array Value) (below : List Frame) (meth : Method) (c : Code) (Q : State → Prop) (A : Nat → Prop) (dC : Nat → ClassId) (dI : Nat → Nat → Nat) (a : Nat → Nat) (ac : Nat → ClassId) (g : Int32 → (St) → Option (Int32 × (St))) (r : Int32 × (St)) : Prop := ∀ (v0 : Int32) (s0 : St) (H : Heap) (locs : List Loc) (ls : Array Slot), g v0 s0 = some r → va_P (dC, dI) vwCl (dw_X8 a ac s0) H → va_D A (dw_X8 a ac s0) → va_S A s.heap H locs → lv_has ls 4 [(0, .ref (a 0)), (1, .int v0)] → W p l e (headSpec ow_dm_X8_labelUpTo ({ frames := 0, cells := 0, slots := 0, locals := 0 })).room s m args below meth c H locs 0 0 Q (F0 m 0 ls [])
set_option maxHeartbeats 40000000 in
set_option maxRecDepth 100000 in
theorem db_X8_labelUpTo_43 {p : Program} {l : Launch} {e : Env} {s : State} {m : MethodId} {args : Array Value} {below : List Frame} {meth : Method} {c : Code} {Q : State → Prop} {A : Nat → Prop} {dC : Nat → ClassId} {dI : Nat → Nat → Nat} {a : Nat → Nat} {ac : Nat → ClassId} {n : Nat} {r : Int32 × (St)} (C : nd_C p l s m args c A (dC, dI) cX8_labelUpTo 4 RX8 ow_dm_X8_labelUpTo (dk_X8 ac)) (K : nd_Ki p l e (headSpec ow_dm_X8_labelUpTo ({ frames := 0, cells := 0, slots := 0, locals := 0 })).room s m args below meth c Q A (dC, dI) cX8_labelUpTo .int (St) (dw_X8 a ac) r) {g4 : Int32 → Int32 → Int32 → (St) → Option (Int32 × (St))} (J4 : dj_X8_labelUpTo_4 p l e s m args below meth c Q A dC dI a ac g4 r) : dj_X8_labelUpTo_43 p l e s m args below meth c Q A dC dI a ac (df_X8_labelUpTo_43 n g4) r := by
  obtain ⟨hlt, hx, hb, hml, hown, hts, hN, hA, hK⟩ := id C
  intro x1 x2 x3 s0 H locs ls h hP hD hS hl
  unfold df_X8_labelUpTo_43 at h
  obtain ⟨z4, ez4, h⟩ := nd_let_e h
  refine lv_iinc (v := z4) (lv' := [(3, .int z4), (0, .ref (a 0)), (1, .int x1), (2, .int x2)]) hx hb dX8_labelUpTo_43 hl (k := 3) rfl (by rw [ez4]) (by decide) rfl (fun ls hl => ?_)
  refine lv_goto (tgt := 4) hx hb dX8_labelUpTo_46 (by decide) ?_
  exact (J4) (x1) (x2) (z4) s0 _ _ _ h hP hD hS (lv_sub hl [1, 2, 3, 0] rfl)
set_option maxHeartbeats 40000000 in
set_option maxRecDepth 100000 in
theorem db_X8_labelUpTo_41 {p : Program} {l : Launch} {e : Env} {s : State} {m : MethodId} {args : Array Value} {below : List Frame} {meth : Method} {c : Code} {Q : State → Prop} {A : Nat → Prop} {dC : Nat → ClassId} {dI : Nat → Nat → Nat} {a : Nat → Nat} {ac : Nat → ClassId} {n : Nat} {r : Int32 × (St)} (C : nd_C p l s m args c A (dC, dI) cX8_labelUpTo 4 RX8 ow_dm_X8_labelUpTo (dk_X8 ac)) (K : nd_Ki p l e (headSpec ow_dm_X8_labelUpTo ({ frames := 0, cells := 0, slots := 0, locals := 0 })).room s m args below meth c Q A (dC, dI) cX8_labelUpTo .int (St) (dw_X8 a ac) r) {g4 : Int32 → Int32 → Int32 → (St) → Option (Int32 × (St))} (J4 : dj_X8_labelUpTo_4 p l e s m args below meth c Q A dC dI a ac g4 r) : dj_X8_labelUpTo_41 p l e s m args below meth c Q A dC dI a ac (df_X8_labelUpTo_41 n g4) r := by
  obtain ⟨hlt, hx, hb, hml, hown, hts, hN, hA, hK⟩ := id C
  intro x1 x3 s0 H locs ls h hP hD hS hl
  unfold df_X8_labelUpTo_41 at h
  refine lv_iload_n hx hb dX8_labelUpTo_41 rfl (lv_at hl 2 rfl) ?_
  refine lv_istore_n (lv' := [(2, .int x3), (0, .ref (a 0)), (1, .int x1), (3, .int x3)]) hx hb dX8_labelUpTo_42 rfl hl (by decide) rfl (fun ls hl => ?_)
  exact (db_X8_labelUpTo_43 C K J4) (x1) (x3) (x3) s0 _ _ _ h hP hD hS (lv_sub hl [1, 2, 0, 3] rfl)
set_option maxHeartbeats 40000000 in
set_option maxRecDepth 100000 in
theorem dB_X8_labelUpTo_4 {p : Program} {l : Launch} {e : Env} {s : State} {m : MethodId} {args : Array Value} {below : List Frame} {meth : Method} {c : Code} {Q : State → Prop} {A : Nat → Prop} {dC : Nat → ClassId} {dI : Nat → Nat → Nat} {a : Nat → Nat} {ac : Nat → ClassId} {n : Nat} {r : Int32 × (St)} (C : nd_C p l s m args c A (dC, dI) cX8_labelUpTo 4 RX8 ow_dm_X8_labelUpTo (dk_X8 ac)) (K : nd_Ki p l e (headSpec ow_dm_X8_labelUpTo ({ frames := 0, cells := 0, slots := 0, locals := 0 })).room s m args below meth c Q A (dC, dI) cX8_labelUpTo .int (St) (dw_X8 a ac) r) {g4 : Int32 → Int32 → Int32 → (St) → Option (Int32 × (St))} (J4 : dj_X8_labelUpTo_4 p l e s m args below meth c Q A dC dI a ac g4 r) : dj_X8_labelUpTo_4 p l e s m args below meth c Q A dC dI a ac (dF_X8_labelUpTo_4 n g4) r := by
  obtain ⟨hlt, hx, hb, hml, hown, hts, hN, hA, hK⟩ := id C
  intro x1 x2 x3 s0 H locs ls h hP hD hS hl
  unfold dF_X8_labelUpTo_4 at h
  refine lv_iload_n hx hb dX8_labelUpTo_4 rfl (lv_at hl 3 rfl) ?_
  refine lv_aload_n hx hb dX8_labelUpTo_5 rfl (lv_at hl 0 rfl) ?_
  refine va_get (D := (dC, dI)) (ci := 9) (v := .int (sI s0 4)) (C := RX8) (T := TX8) (N := 10) hx hb hts hi_dm_X8_labelUpTo_X8 hown hK hP 0 rfl rfl 6 (by decide) (hts (.fieldLink RX8 38 "TimeMachine$Program" "labels" "I") (List.mem_of_getElem? (i := 1) rfl)) (fun _ h9 => h9) rfl dX8_labelUpTo_6 ?_
  refine lv_icmp_ge (tgt := 49) hx hb dX8_labelUpTo_9 (by decide) (fun c1 => ?_) (fun c1 => ?_)
  · have h := nd_pos h c1
    refine lv_iload_n hx hb dX8_labelUpTo_49 rfl (lv_at hl 2 rfl) ?_
    exact K _ _ _ _ _ _ dX8_labelUpTo_50 rfl (Option.some.inj h).symm hP hD hS
  · have h := nd_neg h c1
    refine lv_aload_n hx hb dX8_labelUpTo_12 rfl (lv_at hl 0 rfl) ?_
    refine va_get (D := (dC, dI)) (ci := 9) (v := .ref (a 2)) (C := RX8) (T := TX8) (N := 10) hx hb hts hi_dm_X8_labelUpTo_X8 hown hK hP 0 rfl rfl 5 (by decide) (hts (.fieldLink RX8 16 "TimeMachine$Program" "label" "[I") (List.mem_of_getElem? (i := 2) rfl)) (fun _ h9 => h9) rfl dX8_labelUpTo_13 ?_
    refine lv_iload_n hx hb dX8_labelUpTo_16 rfl (lv_at hl 3 rfl) ?_
    obtain ⟨i2, h⟩ := nd_ck_e h
    refine va_iald (i := x3) hx hb hK hP 2 1 rfl rfl i2 dX8_labelUpTo_17 ?_
    refine lv_iload_n hx hb dX8_labelUpTo_18 rfl (lv_at hl 1 rfl) ?_
    refine lv_icmp_gt (tgt := 43) hx hb dX8_labelUpTo_19 (by decide) (fun c3 => ?_) (fun c3 => ?_)
    · have h := nd_pos h c3
      exact (db_X8_labelUpTo_43 C K J4) (x1) (x2) (x3) s0 _ _ _ h hP hD hS (lv_sub hl [0, 1, 2, 3] rfl)
    · have h := nd_neg h c3
      refine lv_iload_n hx hb dX8_labelUpTo_22 rfl (lv_at hl 2 rfl) ?_
      refine lv_if_lt (tgt := 41) hx hb dX8_labelUpTo_23 (by decide) (fun c5 => ?_) (fun c5 => ?_)
      · have h := nd_pos h c5
        exact (db_X8_labelUpTo_41 C K J4) (x1) (x3) s0 _ _ _ h hP hD hS (lv_sub hl [0, 1, 3] rfl)
      · have h := nd_neg h c5
        refine lv_aload_n hx hb dX8_labelUpTo_26 rfl (lv_at hl 0 rfl) ?_
        refine va_get (D := (dC, dI)) (ci := 9) (v := .ref (a 2)) (C := RX8) (T := TX8) (N := 10) hx hb hts hi_dm_X8_labelUpTo_X8 hown hK hP 0 rfl rfl 5 (by decide) (hts (.fieldLink RX8 16 "TimeMachine$Program" "label" "[I") (List.mem_of_getElem? (i := 2) rfl)) (fun _ h9 => h9) rfl dX8_labelUpTo_27 ?_
        refine lv_iload_n hx hb dX8_labelUpTo_30 rfl (lv_at hl 3 rfl) ?_
        obtain ⟨i6, h⟩ := nd_ck_e h
        refine va_iald (i := x3) hx hb hK hP 2 1 rfl rfl i6 dX8_labelUpTo_31 ?_
        refine lv_aload_n hx hb dX8_labelUpTo_32 rfl (lv_at hl 0 rfl) ?_
        refine va_get (D := (dC, dI)) (ci := 9) (v := .ref (a 2)) (C := RX8) (T := TX8) (N := 10) hx hb hts hi_dm_X8_labelUpTo_X8 hown hK hP 0 rfl rfl 5 (by decide) (hts (.fieldLink RX8 16 "TimeMachine$Program" "label" "[I") (List.mem_of_getElem? (i := 2) rfl)) (fun _ h9 => h9) rfl dX8_labelUpTo_33 ?_
        refine lv_iload_n hx hb dX8_labelUpTo_36 rfl (lv_at hl 2 rfl) ?_
        obtain ⟨i7, h⟩ := nd_ck_e h
        refine va_iald (i := x2) hx hb hK hP 2 1 rfl rfl i7 dX8_labelUpTo_37 ?_
        refine lv_icmp_lt (tgt := 43) hx hb dX8_labelUpTo_38 (by decide) (fun c8 => ?_) (fun c8 => ?_)
        · have h := nd_pos h c8
          exact (db_X8_labelUpTo_43 C K J4) (x1) (x2) (x3) s0 _ _ _ h hP hD hS (lv_sub hl [0, 1, 2, 3] rfl)
        · have h := nd_neg h c8
          exact (db_X8_labelUpTo_41 C K J4) (x1) (x3) s0 _ _ _ h hP hD hS (lv_sub hl [0, 1, 3] rfl)
set_option maxHeartbeats 40000000 in
set_option maxRecDepth 100000 in
theorem db_X8_labelUpTo_4 {p : Program} {l : Launch} {e : Env} {s : State} {m : MethodId} {args : Array Value} {below : List Frame} {meth : Method} {c : Code} {Q : State → Prop} {A : Nat → Prop} {dC : Nat → ClassId} {dI : Nat → Nat → Nat} {a : Nat → Nat} {ac : Nat → ClassId} {n : Nat} {r : Int32 × (St)} (C : nd_C p l s m args c A (dC, dI) cX8_labelUpTo 4 RX8 ow_dm_X8_labelUpTo (dk_X8 ac)) (K : nd_Ki p l e (headSpec ow_dm_X8_labelUpTo ({ frames := 0, cells := 0, slots := 0, locals := 0 })).room s m args below meth c Q A (dC, dI) cX8_labelUpTo .int (St) (dw_X8 a ac) r) (k : Nat) : dj_X8_labelUpTo_4 p l e s m args below meth c Q A dC dI a ac (df_X8_labelUpTo_4 n k) r := by
  induction k with
  | zero => intro x1 x2 x3 s0 H locs ls h; exact nomatch (show (none : Option (Int32 × (St))) = some r from h)
  | succ k ih => exact dB_X8_labelUpTo_4 C K ih
set_option maxHeartbeats 40000000 in
set_option maxRecDepth 100000 in
theorem db_X8_labelUpTo_0 {p : Program} {l : Launch} {e : Env} {s : State} {m : MethodId} {args : Array Value} {below : List Frame} {meth : Method} {c : Code} {Q : State → Prop} {A : Nat → Prop} {dC : Nat → ClassId} {dI : Nat → Nat → Nat} {a : Nat → Nat} {ac : Nat → ClassId} {n : Nat} {r : Int32 × (St)} (C : nd_C p l s m args c A (dC, dI) cX8_labelUpTo 4 RX8 ow_dm_X8_labelUpTo (dk_X8 ac)) (K : nd_Ki p l e (headSpec ow_dm_X8_labelUpTo ({ frames := 0, cells := 0, slots := 0, locals := 0 })).room s m args below meth c Q A (dC, dI) cX8_labelUpTo .int (St) (dw_X8 a ac) r) : dj_X8_labelUpTo_0 p l e s m args below meth c Q A dC dI a ac (df_X8_labelUpTo_0 n) r := by
  obtain ⟨hlt, hx, hb, hml, hown, hts, hN, hA, hK⟩ := id C
  intro v0 s0 H locs ls h hP hD hS hl
  unfold df_X8_labelUpTo_0 at h
  refine lv_iconst (v := (-1)) hx hb dX8_labelUpTo_0 (by decide) ?_
  refine lv_istore_n (lv' := [(2, .int (-1)), (0, .ref (a 0)), (1, .int v0)]) hx hb dX8_labelUpTo_1 rfl hl (by decide) rfl (fun ls hl => ?_)
  refine lv_iconst (v := 0) hx hb dX8_labelUpTo_2 (by decide) ?_
  refine lv_istore_n (lv' := [(3, .int 0), (2, .int (-1)), (0, .ref (a 0)), (1, .int v0)]) hx hb dX8_labelUpTo_3 rfl hl (by decide) rfl (fun ls hl => ?_)
  exact (db_X8_labelUpTo_4 C K n) (v0) ((-1)) (0) s0 _ _ _ h hP hD hS (lv_sub hl [2, 3, 1, 0] rfl)
set_option maxHeartbeats 40000000 in
set_option maxRecDepth 100000 in
theorem dm_X8_labelUpTo (l : Launch) (hlt : l.stackTraces = false) (dC : Nat → ClassId) (dI : Nat → Nat → Nat) (a : Nat → Nat) (ac : Nat → ClassId) (n : Nat) (v0 : Int32) (s0 : St) {r : Int32 × (St)} (h : df_X8_labelUpTo n v0 s0 = some r) (sz : Nat) : Met l yX8_labelUpTo ow_dm_X8_labelUpTo ({ frames := 0, cells := 0, slots := 0, locals := 0 }) (va_Pc [.ref (a 0), .int v0] (fun U => U.heap.size = sz ∧ va_P (dC, dI) vwCl (dw_X8 a ac s0) U.heap ∧ va_K (dC, dI) vwCl (dk_X8 ac) U ∧ va_D (fun _ => True) (dw_X8 a ac s0) ∧ nv_E (va_A (dw_X8 a ac s0) sz) U)) (va_Qi (fun x _ => x = r.1) (fun (_ : Unit) t => va_P (dC, dI) vwCl (dw_X8 a ac r.2) t.heap ∧ va_K (dC, dI) vwCl (dk_X8 ac) t ∧ va_D (va_A (dw_X8 a ac s0) sz) (dw_X8 a ac r.2)) (va_A (dw_X8 a ac s0) sz)) 0 0 (va_A (dw_X8 a ac s0) sz) := by
  refine Met.ofW (cc := cX8_labelUpTo) (maxL := 4) (ret := (some .int)) (by decide) rfl ?_
  intro p e s m args below meth c s₁ B hml hv
  obtain ⟨rfl, hsz, hP, hK, hD0, hN⟩ := hv
  have hx := B.exec
  have hb := B.bytes
  have hr := B.returns
  have hts := atoms_spec (ws := ow_dm_X8_labelUpTo) B.pre
  have hown : s.vm.findClass RX8 = some m.cls := findClass_of_methodNamed B.named
  have hlocks := B.notSynchronized
  subst hsz
  have hD := hD0.self (sz := s.heap.size)
  generalize hAe : va_A (dw_X8 a ac s0) s.heap.size = A at hD hN ⊢
  have hA : ∀ q : Nat, s.heap.size ≤ q → A q := fun q h => by rw [← hAe]; exact Or.inr h
  have hl := lv_entry ([.ref (a 0), .int v0]) (n := 4) (Nat.le_of_ble_eq_true rfl)
  rw [lg_entry_eq]
  generalize (lg_sl ([.ref (a 0), .int v0]) ++ List.replicate (4 - (lg_sl ([.ref (a 0), .int v0])).length) Slot.unset).toArray = ls at hl ⊢
  have hl : lv_has ls 4 [(0, .ref (a 0)), (1, .int v0)] := hl
  exact db_X8_labelUpTo_0 (dC := dC) (dI := dI) (a := a) (ac := ac) (n := n) (r := r) ⟨hlt, hx, hb, hml, hown, hts, hN, hA, hK⟩ (fun pc v τ H locs ls d z er hP hD hS => by subst er; exact W.zret (v := v) hx hb hr z (fun t ht hW => ⟨⟨v, (), rfl, rfl, by rw [ht]; exact hP, va_K.moved hW.alike hK, hD⟩, hS.F ht⟩) hS.2.2 d) v0 s0 _ _ _ h hP hD va_S.rf (lv_sub hl [0, 1] rfl)
def ow_dm_X8_lineOf : List Cond := .code yX8_lineOf cX8_lineOf 4 (some .int) :: ([.fieldLink RX8 35 "TimeMachine$Program" "size" "I", .fieldLink RX8 28 "TimeMachine$Program" "textSize" "I", .fieldLink RX8 41 "TimeMachine$Program" "statements" "I", .fieldLink RX8 25 "TimeMachine$Program" "line" "[I", .fieldLink RX8 22 "TimeMachine$Program" "start" "[I", .fieldLink RX8 32 "TimeMachine$Program" "dataStart" "I"] ++ (u_ws RX8 TX8 10 ++ []))
theorem gd_dm_X8_lineOf : ∀ w ∈ ow_dm_X8_lineOf, (w.onTables && w.keeps) = true ∨ ∃ ty, w = Cond.arrayClass ty := List.forall_mem_cons.mpr ⟨good_of_word rfl, List.forall_mem_append.mpr ⟨fun w h => good_of_word (List.all_eq_true.mp (by decide +kernel) w h), List.forall_mem_append.mpr ⟨gu_X8, fun _ h => nomatch h⟩⟩⟩
theorem hi_dm_X8_lineOf_X8 : ∀ w ∈ u_ws RX8 TX8 10, w ∈ ow_dm_X8_lineOf := fun w h => List.mem_cons_of_mem _ (List.mem_append_right _ (List.mem_append_left _ h))
def dj_X8_lineOf_28 (p : Program) (l : Launch) (e : Env) (s : State) (m : MethodId) (args : Array Value) (below : List Frame) (meth : Method) (c : Code) (Q : State → Prop) (A : Nat → Prop) (dC : Nat → ClassId) (dI : Nat → Nat → Nat) (a : Nat → Nat) (ac : Nat → ClassId) (g : (St) → Option (Int32 × (St))) (r : Int32 × (St)) : Prop := ∀ (s0 : St) (H : Heap) (locs : List Loc) (ls : Array Slot), g s0 = some r → va_P (dC, dI) vwCl (dw_X8 a ac s0) H → va_D A (dw_X8 a ac s0) → va_S A s.heap H locs → lv_has ls 4 [] → W p l e (headSpec ow_dm_X8_lineOf ({ frames := 0, cells := 0, slots := 0, locals := 0 })).room s m args below meth c H locs 0 0 Q (F0 m 28 ls [])
def dj_X8_lineOf_93 (p : Program) (l : Launch) (e : Env) (s : State) (m : MethodId) (args : Array Value) (below : List Frame) (meth : Method) (c : Code) (Q : State → Prop) (A : Nat → Prop) (dC : Nat → ClassId) (dI : Nat → Nat → Nat) (a : Nat → Nat) (ac : Nat → ClassId) (g : Int32 → (St) → Option (Int32 × (St))) (r : Int32 × (St)) : Prop := ∀ (y0 : Int32) (s0 : St) (H : Heap) (locs : List Loc) (ls : Array Slot), g y0 s0 = some r → va_P (dC, dI) vwCl (dw_X8 a ac s0) H → va_D A (dw_X8 a ac s0) → va_S A s.heap H locs → lv_has ls 4 [] → W p l e (headSpec ow_dm_X8_lineOf ({ frames := 0, cells := 0, slots := 0, locals := 0 })).room s m args below meth c H locs 0 0 Q (F0 m 93 ls [.int y0])
def dj_X8_lineOf_73 (p : Program) (l : Launch) (e : Env) (s : State) (m : MethodId) (args : Array Value) (below : List Frame) (meth : Method) (c : Code) (Q : State → Prop) (A : Nat → Prop) (dC : Nat → ClassId) (dI : Nat → Nat → Nat) (a : Nat → Nat) (ac : Nat → ClassId) (g : Int32 → Int32 → Int32 → (St) → Option (Int32 × (St))) (r : Int32 × (St)) : Prop := ∀ (x1 : Int32) (x2 : Int32) (x3 : Int32) (s0 : St) (H : Heap) (locs : List Loc) (ls : Array Slot), g x1 x2 x3 s0 = some r → va_P (dC, dI) vwCl (dw_X8 a ac s0) H → va_D A (dw_X8 a ac s0) → va_S A s.heap H locs → lv_has ls 4 [(0, .ref (a 0)), (1, .int x1), (2, .int x2), (3, .int x3)] → W p l e (headSpec ow_dm_X8_lineOf ({ frames := 0, cells := 0, slots := 0, locals := 0 })).room s m args below meth c H locs 0 0 Q (F0 m 73 ls [])
def dj_X8_lineOf_71 (p : Program) (l : Launch) (e : Env) (s : State) (m : MethodId) (args : Array Value) (below : List Frame) (meth : Method) (c : Code) (Q : State → Prop) (A : Nat → Prop) (dC : Nat → ClassId) (dI : Nat → Nat → Nat) (a : Nat → Nat) (ac : Nat → ClassId) (g : Int32 → Int32 → (St) → Option (Int32 × (St))) (r : Int32 × (St)) : Prop := ∀ (x1 : Int32) (x3 : Int32) (s0 : St) (H : Heap) (locs : List Loc) (ls : Array Slot), g x1 x3 s0 = some r → va_P (dC, dI) vwCl (dw_X8 a ac s0) H → va_D A (dw_X8 a ac s0) → va_S A s.heap H locs → lv_has ls 4 [(0, .ref (a 0)), (1, .int x1), (3, .int x3)] → W p l e (headSpec ow_dm_X8_lineOf ({ frames := 0, cells := 0, slots := 0, locals := 0 })).room s m args below meth c H locs 0 0 Q (F0 m 71 ls [])
def dj_X8_lineOf_34 (p : Program) (l : Launch) (e : Env) (s : State) (m : MethodId) (args : Array Value) (below : List Frame) (meth : Method) (c : Code) (Q : State → Prop) (A : Nat → Prop) (dC : Nat → ClassId) (dI : Nat → Nat → Nat) (a : Nat → Nat) (ac : Nat → ClassId) (g : Int32 → Int32 → Int32 → (St) → Option (Int32 × (St))) (r : Int32 × (St)) : Prop := ∀ (x1 : Int32) (x2 : Int32) (x3 : Int32) (s0 : St) (H : Heap) (locs : List Loc) (ls : Array Slot), g x1 x2 x3 s0 = some r → va_P (dC, dI) vwCl (dw_X8 a ac s0) H → va_D A (dw_X8 a ac s0) → va_S A s.heap H locs → lv_has ls 4 [(0, .ref (a 0)), (1, .int x1), (2, .int x2), (3, .int x3)] → W p l e (headSpec ow_dm_X8_lineOf ({ frames := 0, cells := 0, slots := 0, locals := 0 })).room s m args below meth c H locs 0 0 Q (F0 m 34 ls [])
def dj_X8_lineOf_30 (p : Program) (l : Launch) (e : Env) (s : State) (m : MethodId) (args : Array Value) (below : List Frame) (meth : Method) (c : Code) (Q : State → Prop) (A : Nat → Prop) (dC : Nat → ClassId) (dI : Nat → Nat → Nat) (a : Nat → Nat) (ac : Nat → ClassId) (g : Int32 → (St) → Option (Int32 × (St))) (r : Int32 × (St)) : Prop := ∀ (x1 : Int32) (s0 : St) (H : Heap) (locs : List Loc) (ls : Array Slot), g x1 s0 = some r → va_P (dC, dI) vwCl (dw_X8 a ac s0) H → va_D A (dw_X8 a ac s0) → va_S A s.heap H locs → lv_has ls 4 [(0, .ref (a 0)), (1, .int x1)] → W p l e (headSpec ow_dm_X8_lineOf ({ frames := 0, cells := 0, slots := 0, locals := 0 })).room s m args below meth c H locs 0 0 Q (F0 m 30 ls [])
def dj_X8_lineOf_0 (p : Program) (l : Launch) (e : Env) (s : State) (m : MethodId) (args : Array Value) (below : List Frame) (meth : Method) (c : Code) (Q : State → Prop) (A : Nat → Prop) (dC : Nat → ClassId) (dI : Nat → Nat → Nat) (a : Nat → Nat) (ac : Nat → ClassId) (g : Int32 → (St) → Option (Int32 × (St))) (r : Int32 × (St)) : Prop := ∀ (v0 : Int32) (s0 : St) (H : Heap) (locs : List Loc) (ls : Array Slot), g v0 s0 = some r → va_P (dC, dI) vwCl (dw_X8 a ac s0) H → va_D A (dw_X8 a ac s0) → va_S A s.heap H locs → lv_has ls 4 [(0, .ref (a 0)), (1, .int v0)] → W p l e (headSpec ow_dm_X8_lineOf ({ frames := 0, cells := 0, slots := 0, locals := 0 })).room s m args below meth c H locs 0 0 Q (F0 m 0 ls [])
set_option maxHeartbeats 40000000 in
set_option maxRecDepth 100000 in
theorem db_X8_lineOf_28 {p : Program} {l : Launch} {e : Env} {s : State} {m : MethodId} {args : Array Value} {below : List Frame} {meth : Method} {c : Code} {Q : State → Prop} {A : Nat → Prop} {dC : Nat → ClassId} {dI : Nat → Nat → Nat} {a : Nat → Nat} {ac : Nat → ClassId} {n : Nat} {r : Int32 × (St)} (C : nd_C p l s m args c A (dC, dI) cX8_lineOf 4 RX8 ow_dm_X8_lineOf (dk_X8 ac)) (K : nd_Ki p l e (headSpec ow_dm_X8_lineOf ({ frames := 0, cells := 0, slots := 0, locals := 0 })).room s m args below meth c Q A (dC, dI) cX8_lineOf .int (St) (dw_X8 a ac) r) : dj_X8_lineOf_28 p l e s m args below meth c Q A dC dI a ac (df_X8_lineOf_28 n) r := by
  obtain ⟨hlt, hx, hb, hml, hown, hts, hN, hA, hK⟩ := id C
  intro s0 H locs ls h hP hD hS hl
  unfold df_X8_lineOf_28 at h
  refine lv_iconst (v := 0) hx hb dX8_lineOf_28 (by decide) ?_
  exact K _ _ _ _ _ _ dX8_lineOf_29 rfl (Option.some.inj h).symm hP hD hS
set_option maxHeartbeats 40000000 in
set_option maxRecDepth 100000 in
theorem db_X8_lineOf_93 {p : Program} {l : Launch} {e : Env} {s : State} {m : MethodId} {args : Array Value} {below : List Frame} {meth : Method} {c : Code} {Q : State → Prop} {A : Nat → Prop} {dC : Nat → ClassId} {dI : Nat → Nat → Nat} {a : Nat → Nat} {ac : Nat → ClassId} {n : Nat} {r : Int32 × (St)} (C : nd_C p l s m args c A (dC, dI) cX8_lineOf 4 RX8 ow_dm_X8_lineOf (dk_X8 ac)) (K : nd_Ki p l e (headSpec ow_dm_X8_lineOf ({ frames := 0, cells := 0, slots := 0, locals := 0 })).room s m args below meth c Q A (dC, dI) cX8_lineOf .int (St) (dw_X8 a ac) r) : dj_X8_lineOf_93 p l e s m args below meth c Q A dC dI a ac (df_X8_lineOf_93 n) r := by
  obtain ⟨hlt, hx, hb, hml, hown, hts, hN, hA, hK⟩ := id C
  intro y0 s0 H locs ls h hP hD hS hl
  unfold df_X8_lineOf_93 at h
  exact K _ _ _ _ _ _ dX8_lineOf_93 rfl (Option.some.inj h).symm hP hD hS
set_option maxHeartbeats 40000000 in
set_option maxRecDepth 100000 in
theorem db_X8_lineOf_73 {p : Program} {l : Launch} {e : Env} {s : State} {m : MethodId} {args : Array Value} {below : List Frame} {meth : Method} {c : Code} {Q : State → Prop} {A : Nat → Prop} {dC : Nat → ClassId} {dI : Nat → Nat → Nat} {a : Nat → Nat} {ac : Nat → ClassId} {n : Nat} {r : Int32 × (St)} (C : nd_C p l s m args c A (dC, dI) cX8_lineOf 4 RX8 ow_dm_X8_lineOf (dk_X8 ac)) (K : nd_Ki p l e (headSpec ow_dm_X8_lineOf ({ frames := 0, cells := 0, slots := 0, locals := 0 })).room s m args below meth c Q A (dC, dI) cX8_lineOf .int (St) (dw_X8 a ac) r) {g34 : Int32 → Int32 → Int32 → (St) → Option (Int32 × (St))} (J34 : dj_X8_lineOf_34 p l e s m args below meth c Q A dC dI a ac g34 r) : dj_X8_lineOf_73 p l e s m args below meth c Q A dC dI a ac (df_X8_lineOf_73 n g34) r := by
  obtain ⟨hlt, hx, hb, hml, hown, hts, hN, hA, hK⟩ := id C
  intro x1 x2 x3 s0 H locs ls h hP hD hS hl
  unfold df_X8_lineOf_73 at h
  obtain ⟨z9, ez9, h⟩ := nd_let_e h
  refine lv_iinc (v := z9) (lv' := [(3, .int z9), (0, .ref (a 0)), (1, .int x1), (2, .int x2)]) hx hb dX8_lineOf_73 hl (k := 3) rfl (by rw [ez9]) (by decide) rfl (fun ls hl => ?_)
  refine lv_goto (tgt := 34) hx hb dX8_lineOf_76 (by decide) ?_
  exact (J34) (x1) (x2) (z9) s0 _ _ _ h hP hD hS (lv_sub hl [1, 2, 3, 0] rfl)
set_option maxHeartbeats 40000000 in
set_option maxRecDepth 100000 in
theorem db_X8_lineOf_71 {p : Program} {l : Launch} {e : Env} {s : State} {m : MethodId} {args : Array Value} {below : List Frame} {meth : Method} {c : Code} {Q : State → Prop} {A : Nat → Prop} {dC : Nat → ClassId} {dI : Nat → Nat → Nat} {a : Nat → Nat} {ac : Nat → ClassId} {n : Nat} {r : Int32 × (St)} (C : nd_C p l s m args c A (dC, dI) cX8_lineOf 4 RX8 ow_dm_X8_lineOf (dk_X8 ac)) (K : nd_Ki p l e (headSpec ow_dm_X8_lineOf ({ frames := 0, cells := 0, slots := 0, locals := 0 })).room s m args below meth c Q A (dC, dI) cX8_lineOf .int (St) (dw_X8 a ac) r) {g34 : Int32 → Int32 → Int32 → (St) → Option (Int32 × (St))} (J34 : dj_X8_lineOf_34 p l e s m args below meth c Q A dC dI a ac g34 r) : dj_X8_lineOf_71 p l e s m args below meth c Q A dC dI a ac (df_X8_lineOf_71 n g34) r := by
  obtain ⟨hlt, hx, hb, hml, hown, hts, hN, hA, hK⟩ := id C
  intro x1 x3 s0 H locs ls h hP hD hS hl
  unfold df_X8_lineOf_71 at h
  refine lv_iload_n hx hb dX8_lineOf_71 rfl (lv_at hl 2 rfl) ?_
  refine lv_istore_n (lv' := [(2, .int x3), (0, .ref (a 0)), (1, .int x1), (3, .int x3)]) hx hb dX8_lineOf_72 rfl hl (by decide) rfl (fun ls hl => ?_)
  exact (db_X8_lineOf_73 C K J34) (x1) (x3) (x3) s0 _ _ _ h hP hD hS (lv_sub hl [1, 2, 0, 3] rfl)
set_option maxHeartbeats 40000000 in
set_option maxRecDepth 100000 in
theorem dB_X8_lineOf_34 {p : Program} {l : Launch} {e : Env} {s : State} {m : MethodId} {args : Array Value} {below : List Frame} {meth : Method} {c : Code} {Q : State → Prop} {A : Nat → Prop} {dC : Nat → ClassId} {dI : Nat → Nat → Nat} {a : Nat → Nat} {ac : Nat → ClassId} {n : Nat} {r : Int32 × (St)} (C : nd_C p l s m args c A (dC, dI) cX8_lineOf 4 RX8 ow_dm_X8_lineOf (dk_X8 ac)) (K : nd_Ki p l e (headSpec ow_dm_X8_lineOf ({ frames := 0, cells := 0, slots := 0, locals := 0 })).room s m args below meth c Q A (dC, dI) cX8_lineOf .int (St) (dw_X8 a ac) r) {g34 : Int32 → Int32 → Int32 → (St) → Option (Int32 × (St))} (J34 : dj_X8_lineOf_34 p l e s m args below meth c Q A dC dI a ac g34 r) : dj_X8_lineOf_34 p l e s m args below meth c Q A dC dI a ac (dF_X8_lineOf_34 n g34) r := by
  obtain ⟨hlt, hx, hb, hml, hown, hts, hN, hA, hK⟩ := id C
  intro x1 x2 x3 s0 H locs ls h hP hD hS hl
  unfold dF_X8_lineOf_34 at h
  refine lv_iload_n hx hb dX8_lineOf_34 rfl (lv_at hl 3 rfl) ?_
  refine lv_aload_n hx hb dX8_lineOf_35 rfl (lv_at hl 0 rfl) ?_
  refine va_get (D := (dC, dI)) (ci := 9) (v := .int (sI s0 5)) (C := RX8) (T := TX8) (N := 10) hx hb hts hi_dm_X8_lineOf_X8 hown hK hP 0 rfl rfl 9 (by decide) (hts (.fieldLink RX8 41 "TimeMachine$Program" "statements" "I") (List.mem_of_getElem? (i := 3) rfl)) (fun _ h9 => h9) rfl dX8_lineOf_36 ?_
  refine lv_icmp_ge (tgt := 79) hx hb dX8_lineOf_39 (by decide) (fun c4 => ?_) (fun c4 => ?_)
  · have h := nd_pos h c4
    refine lv_iload_n hx hb dX8_lineOf_79 rfl (lv_at hl 2 rfl) ?_
    refine lv_if_ge (tgt := 87) hx hb dX8_lineOf_80 (by decide) (fun c5 => ?_) (fun c5 => ?_)
    · have h := nd_pos h c5
      refine lv_aload_n hx hb dX8_lineOf_87 rfl (lv_at hl 0 rfl) ?_
      refine va_get (D := (dC, dI)) (ci := 9) (v := .ref (a 4)) (C := RX8) (T := TX8) (N := 10) hx hb hts hi_dm_X8_lineOf_X8 hown hK hP 0 rfl rfl 8 (by decide) (hts (.fieldLink RX8 25 "TimeMachine$Program" "line" "[I") (List.mem_of_getElem? (i := 4) rfl)) (fun _ h9 => h9) rfl dX8_lineOf_88 ?_
      refine lv_iload_n hx hb dX8_lineOf_91 rfl (lv_at hl 2 rfl) ?_
      obtain ⟨i6, h⟩ := nd_ck_e h
      refine va_iald (i := x2) hx hb hK hP 4 3 rfl rfl i6 dX8_lineOf_92 ?_
      exact (db_X8_lineOf_93 C K) ((sR s0 3 (Int32.toNatClampNeg x2))) s0 _ _ _ h hP hD hS (lv_sub hl [] rfl)
    · have h := nd_neg h c5
      refine lv_iconst (v := 0) hx hb dX8_lineOf_83 (by decide) ?_
      refine lv_goto (tgt := 93) hx hb dX8_lineOf_84 (by decide) ?_
      exact (db_X8_lineOf_93 C K) (0) s0 _ _ _ h hP hD hS (lv_sub hl [] rfl)
  · have h := nd_neg h c4
    refine lv_aload_n hx hb dX8_lineOf_42 rfl (lv_at hl 0 rfl) ?_
    refine va_get (D := (dC, dI)) (ci := 9) (v := .ref (a 3)) (C := RX8) (T := TX8) (N := 10) hx hb hts hi_dm_X8_lineOf_X8 hown hK hP 0 rfl rfl 7 (by decide) (hts (.fieldLink RX8 22 "TimeMachine$Program" "start" "[I") (List.mem_of_getElem? (i := 5) rfl)) (fun _ h9 => h9) rfl dX8_lineOf_43 ?_
    refine lv_iload_n hx hb dX8_lineOf_46 rfl (lv_at hl 3 rfl) ?_
    obtain ⟨i7, h⟩ := nd_ck_e h
    refine va_iald (i := x3) hx hb hK hP 3 2 rfl rfl i7 dX8_lineOf_47 ?_
    refine lv_iload_n hx hb dX8_lineOf_48 rfl (lv_at hl 1 rfl) ?_
    refine lv_icmp_gt (tgt := 73) hx hb dX8_lineOf_49 (by decide) (fun c8 => ?_) (fun c8 => ?_)
    · have h := nd_pos h c8
      exact (db_X8_lineOf_73 C K J34) (x1) (x2) (x3) s0 _ _ _ h hP hD hS (lv_sub hl [0, 1, 2, 3] rfl)
    · have h := nd_neg h c8
      refine lv_iload_n hx hb dX8_lineOf_52 rfl (lv_at hl 2 rfl) ?_
      refine lv_if_lt (tgt := 71) hx hb dX8_lineOf_53 (by decide) (fun c10 => ?_) (fun c10 => ?_)
      · have h := nd_pos h c10
        exact (db_X8_lineOf_71 C K J34) (x1) (x3) s0 _ _ _ h hP hD hS (lv_sub hl [0, 1, 3] rfl)
      · have h := nd_neg h c10
        refine lv_aload_n hx hb dX8_lineOf_56 rfl (lv_at hl 0 rfl) ?_
        refine va_get (D := (dC, dI)) (ci := 9) (v := .ref (a 3)) (C := RX8) (T := TX8) (N := 10) hx hb hts hi_dm_X8_lineOf_X8 hown hK hP 0 rfl rfl 7 (by decide) (hts (.fieldLink RX8 22 "TimeMachine$Program" "start" "[I") (List.mem_of_getElem? (i := 5) rfl)) (fun _ h9 => h9) rfl dX8_lineOf_57 ?_
        refine lv_iload_n hx hb dX8_lineOf_60 rfl (lv_at hl 3 rfl) ?_
        obtain ⟨i11, h⟩ := nd_ck_e h
        refine va_iald (i := x3) hx hb hK hP 3 2 rfl rfl i11 dX8_lineOf_61 ?_
        refine lv_aload_n hx hb dX8_lineOf_62 rfl (lv_at hl 0 rfl) ?_
        refine va_get (D := (dC, dI)) (ci := 9) (v := .ref (a 3)) (C := RX8) (T := TX8) (N := 10) hx hb hts hi_dm_X8_lineOf_X8 hown hK hP 0 rfl rfl 7 (by decide) (hts (.fieldLink RX8 22 "TimeMachine$Program" "start" "[I") (List.mem_of_getElem? (i := 5) rfl)) (fun _ h9 => h9) rfl dX8_lineOf_63 ?_
        refine lv_iload_n hx hb dX8_lineOf_66 rfl (lv_at hl 2 rfl) ?_
        obtain ⟨i12, h⟩ := nd_ck_e h
        refine va_iald (i := x2) hx hb hK hP 3 2 rfl rfl i12 dX8_lineOf_67 ?_
        refine lv_icmp_le (tgt := 73) hx hb dX8_lineOf_68 (by decide) (fun c13 => ?_) (fun c13 => ?_)
        · have h := nd_pos h c13
          exact (db_X8_lineOf_73 C K J34) (x1) (x2) (x3) s0 _ _ _ h hP hD hS (lv_sub hl [0, 1, 2, 3] rfl)
        · have h := nd_neg h c13
          exact (db_X8_lineOf_71 C K J34) (x1) (x3) s0 _ _ _ h hP hD hS (lv_sub hl [0, 1, 3] rfl)
set_option maxHeartbeats 40000000 in
set_option maxRecDepth 100000 in
theorem db_X8_lineOf_34 {p : Program} {l : Launch} {e : Env} {s : State} {m : MethodId} {args : Array Value} {below : List Frame} {meth : Method} {c : Code} {Q : State → Prop} {A : Nat → Prop} {dC : Nat → ClassId} {dI : Nat → Nat → Nat} {a : Nat → Nat} {ac : Nat → ClassId} {n : Nat} {r : Int32 × (St)} (C : nd_C p l s m args c A (dC, dI) cX8_lineOf 4 RX8 ow_dm_X8_lineOf (dk_X8 ac)) (K : nd_Ki p l e (headSpec ow_dm_X8_lineOf ({ frames := 0, cells := 0, slots := 0, locals := 0 })).room s m args below meth c Q A (dC, dI) cX8_lineOf .int (St) (dw_X8 a ac) r) (k : Nat) : dj_X8_lineOf_34 p l e s m args below meth c Q A dC dI a ac (df_X8_lineOf_34 n k) r := by
  induction k with
  | zero => intro x1 x2 x3 s0 H locs ls h; exact nomatch (show (none : Option (Int32 × (St))) = some r from h)
  | succ k ih => exact dB_X8_lineOf_34 C K ih
set_option maxHeartbeats 40000000 in
set_option maxRecDepth 100000 in
theorem db_X8_lineOf_30 {p : Program} {l : Launch} {e : Env} {s : State} {m : MethodId} {args : Array Value} {below : List Frame} {meth : Method} {c : Code} {Q : State → Prop} {A : Nat → Prop} {dC : Nat → ClassId} {dI : Nat → Nat → Nat} {a : Nat → Nat} {ac : Nat → ClassId} {n : Nat} {r : Int32 × (St)} (C : nd_C p l s m args c A (dC, dI) cX8_lineOf 4 RX8 ow_dm_X8_lineOf (dk_X8 ac)) (K : nd_Ki p l e (headSpec ow_dm_X8_lineOf ({ frames := 0, cells := 0, slots := 0, locals := 0 })).room s m args below meth c Q A (dC, dI) cX8_lineOf .int (St) (dw_X8 a ac) r) : dj_X8_lineOf_30 p l e s m args below meth c Q A dC dI a ac (df_X8_lineOf_30 n) r := by
  obtain ⟨hlt, hx, hb, hml, hown, hts, hN, hA, hK⟩ := id C
  intro x1 s0 H locs ls h hP hD hS hl
  unfold df_X8_lineOf_30 at h
  refine lv_iconst (v := (-1)) hx hb dX8_lineOf_30 (by decide) ?_
  refine lv_istore_n (lv' := [(2, .int (-1)), (0, .ref (a 0)), (1, .int x1)]) hx hb dX8_lineOf_31 rfl hl (by decide) rfl (fun ls hl => ?_)
  refine lv_iconst (v := 0) hx hb dX8_lineOf_32 (by decide) ?_
  refine lv_istore_n (lv' := [(3, .int 0), (2, .int (-1)), (0, .ref (a 0)), (1, .int x1)]) hx hb dX8_lineOf_33 rfl hl (by decide) rfl (fun ls hl => ?_)
  exact (db_X8_lineOf_34 C K n) (x1) ((-1)) (0) s0 _ _ _ h hP hD hS (lv_sub hl [2, 3, 1, 0] rfl)
set_option maxHeartbeats 40000000 in
set_option maxRecDepth 100000 in
theorem db_X8_lineOf_0 {p : Program} {l : Launch} {e : Env} {s : State} {m : MethodId} {args : Array Value} {below : List Frame} {meth : Method} {c : Code} {Q : State → Prop} {A : Nat → Prop} {dC : Nat → ClassId} {dI : Nat → Nat → Nat} {a : Nat → Nat} {ac : Nat → ClassId} {n : Nat} {r : Int32 × (St)} (C : nd_C p l s m args c A (dC, dI) cX8_lineOf 4 RX8 ow_dm_X8_lineOf (dk_X8 ac)) (K : nd_Ki p l e (headSpec ow_dm_X8_lineOf ({ frames := 0, cells := 0, slots := 0, locals := 0 })).room s m args below meth c Q A (dC, dI) cX8_lineOf .int (St) (dw_X8 a ac) r) : dj_X8_lineOf_0 p l e s m args below meth c Q A dC dI a ac (df_X8_lineOf_0 n) r := by
  obtain ⟨hlt, hx, hb, hml, hown, hts, hN, hA, hK⟩ := id C
  intro v0 s0 H locs ls h hP hD hS hl
  unfold df_X8_lineOf_0 at h
  refine lv_iload_n hx hb dX8_lineOf_0 rfl (lv_at hl 1 rfl) ?_
  refine lv_if_lt (tgt := 28) hx hb dX8_lineOf_1 (by decide) (fun c1 => ?_) (fun c1 => ?_)
  · have h := nd_pos h c1
    exact (db_X8_lineOf_28 C K)  s0 _ _ _ h hP hD hS (lv_sub hl [] rfl)
  · have h := nd_neg h c1
    refine lv_iload_n hx hb dX8_lineOf_4 rfl (lv_at hl 1 rfl) ?_
    refine lv_aload_n hx hb dX8_lineOf_5 rfl (lv_at hl 0 rfl) ?_
    refine va_get (D := (dC, dI)) (ci := 9) (v := .int (sI s0 2)) (C := RX8) (T := TX8) (N := 10) hx hb hts hi_dm_X8_lineOf_X8 hown hK hP 0 rfl rfl 3 (by decide) (hts (.fieldLink RX8 35 "TimeMachine$Program" "size" "I") (List.mem_of_getElem? (i := 1) rfl)) (fun _ h9 => h9) rfl dX8_lineOf_6 ?_
    refine lv_icmp_ge (tgt := 28) hx hb dX8_lineOf_9 (by decide) (fun c2 => ?_) (fun c2 => ?_)
    · have h := nd_pos h c2
      exact (db_X8_lineOf_28 C K)  s0 _ _ _ h hP hD hS (lv_sub hl [] rfl)
    · have h := nd_neg h c2
      refine lv_iload_n hx hb dX8_lineOf_12 rfl (lv_at hl 1 rfl) ?_
      refine lv_aload_n hx hb dX8_lineOf_13 rfl (lv_at hl 0 rfl) ?_
      refine va_get (D := (dC, dI)) (ci := 9) (v := .int (sI s0 0)) (C := RX8) (T := TX8) (N := 10) hx hb hts hi_dm_X8_lineOf_X8 hown hK hP 0 rfl rfl 1 (by decide) (hts (.fieldLink RX8 28 "TimeMachine$Program" "textSize" "I") (List.mem_of_getElem? (i := 2) rfl)) (fun _ h9 => h9) rfl dX8_lineOf_14 ?_
      refine lv_icmp_lt (tgt := 30) hx hb dX8_lineOf_17 (by decide) (fun c3 => ?_) (fun c3 => ?_)
      · have h := nd_pos h c3
        exact (db_X8_lineOf_30 C K) (v0) s0 _ _ _ h hP hD hS (lv_sub hl [0, 1] rfl)
      · have h := nd_neg h c3
        refine lv_iload_n hx hb dX8_lineOf_20 rfl (lv_at hl 1 rfl) ?_
        refine lv_aload_n hx hb dX8_lineOf_21 rfl (lv_at hl 0 rfl) ?_
        refine va_get (D := (dC, dI)) (ci := 9) (v := .int (sI s0 1)) (C := RX8) (T := TX8) (N := 10) hx hb hts hi_dm_X8_lineOf_X8 hown hK hP 0 rfl rfl 2 (by decide) (hts (.fieldLink RX8 32 "TimeMachine$Program" "dataStart" "I") (List.mem_of_getElem? (i := 6) rfl)) (fun _ h9 => h9) rfl dX8_lineOf_22 ?_
        refine lv_icmp_ge (tgt := 30) hx hb dX8_lineOf_25 (by decide) (fun c14 => ?_) (fun c14 => ?_)
        · have h := nd_pos h c14
          exact (db_X8_lineOf_30 C K) (v0) s0 _ _ _ h hP hD hS (lv_sub hl [0, 1] rfl)
        · have h := nd_neg h c14
          exact (db_X8_lineOf_28 C K)  s0 _ _ _ h hP hD hS (lv_sub hl [] rfl)
set_option maxHeartbeats 40000000 in
set_option maxRecDepth 100000 in
theorem dm_X8_lineOf (l : Launch) (hlt : l.stackTraces = false) (dC : Nat → ClassId) (dI : Nat → Nat → Nat) (a : Nat → Nat) (ac : Nat → ClassId) (n : Nat) (v0 : Int32) (s0 : St) {r : Int32 × (St)} (h : df_X8_lineOf n v0 s0 = some r) (sz : Nat) : Met l yX8_lineOf ow_dm_X8_lineOf ({ frames := 0, cells := 0, slots := 0, locals := 0 }) (va_Pc [.ref (a 0), .int v0] (fun U => U.heap.size = sz ∧ va_P (dC, dI) vwCl (dw_X8 a ac s0) U.heap ∧ va_K (dC, dI) vwCl (dk_X8 ac) U ∧ va_D (fun _ => True) (dw_X8 a ac s0) ∧ nv_E (va_A (dw_X8 a ac s0) sz) U)) (va_Qi (fun x _ => x = r.1) (fun (_ : Unit) t => va_P (dC, dI) vwCl (dw_X8 a ac r.2) t.heap ∧ va_K (dC, dI) vwCl (dk_X8 ac) t ∧ va_D (va_A (dw_X8 a ac s0) sz) (dw_X8 a ac r.2)) (va_A (dw_X8 a ac s0) sz)) 0 0 (va_A (dw_X8 a ac s0) sz) := by
  refine Met.ofW (cc := cX8_lineOf) (maxL := 4) (ret := (some .int)) (by decide) rfl ?_
  intro p e s m args below meth c s₁ B hml hv
  obtain ⟨rfl, hsz, hP, hK, hD0, hN⟩ := hv
  have hx := B.exec
  have hb := B.bytes
  have hr := B.returns
  have hts := atoms_spec (ws := ow_dm_X8_lineOf) B.pre
  have hown : s.vm.findClass RX8 = some m.cls := findClass_of_methodNamed B.named
  have hlocks := B.notSynchronized
  subst hsz
  have hD := hD0.self (sz := s.heap.size)
  generalize hAe : va_A (dw_X8 a ac s0) s.heap.size = A at hD hN ⊢
  have hA : ∀ q : Nat, s.heap.size ≤ q → A q := fun q h => by rw [← hAe]; exact Or.inr h
  have hl := lv_entry ([.ref (a 0), .int v0]) (n := 4) (Nat.le_of_ble_eq_true rfl)
  rw [lg_entry_eq]
  generalize (lg_sl ([.ref (a 0), .int v0]) ++ List.replicate (4 - (lg_sl ([.ref (a 0), .int v0])).length) Slot.unset).toArray = ls at hl ⊢
  have hl : lv_has ls 4 [(0, .ref (a 0)), (1, .int v0)] := hl
  exact db_X8_lineOf_0 (dC := dC) (dI := dI) (a := a) (ac := ac) (n := n) (r := r) ⟨hlt, hx, hb, hml, hown, hts, hN, hA, hK⟩ (fun pc v τ H locs ls d z er hP hD hS => by subst er; exact W.zret (v := v) hx hb hr z (fun t ht hW => ⟨⟨v, (), rfl, rfl, by rw [ht]; exact hP, va_K.moved hW.alike hK, hD⟩, hS.F ht⟩) hS.2.2 d) v0 s0 _ _ _ h hP hD va_S.rf (lv_sub hl [0, 1] rfl)
def ow_dm_J7_fill_53178 : List Cond := .code yJ7_fill_53178 cJ7_fill_53178 4 none :: ([] ++ [])
theorem gd_dm_J7_fill_53178 : ∀ w ∈ ow_dm_J7_fill_53178, (w.onTables && w.keeps) = true ∨ ∃ ty, w = Cond.arrayClass ty := List.forall_mem_cons.mpr ⟨good_of_word rfl, List.forall_mem_append.mpr ⟨fun w h => good_of_word (List.all_eq_true.mp (by decide +kernel) w h), fun _ h => nomatch h⟩⟩
set_option maxHeartbeats 40000000 in
set_option maxRecDepth 100000 in
theorem dl_J7_fill_53178 {p : Program} {l : Launch} {e : Env} {s : State} {m : MethodId} {args : Array Value} {below : List Frame} {meth : Method} {c : Code} {Q : State → Prop} {A : Nat → Prop} (dC : Nat → ClassId) (dI : Nat → Nat → Nat) (b : Nat) (cb : ClassId) (N : Nat) (hNN : (Int32.ofNat N).toInt = N) (hN31 : N < 2147483648) (f : Nat → Int32) (v : Int32) (hx : p.tables.exec = Jvm.exec) (hb : c.code = cJ7_fill_53178) (hK : va_K (dC, dI) vwCl [(cb, .int)] s)
    (kk : ∀ (H : Heap) (locs : List Loc) (ls : Array Slot), va_P (dC, dI) vwCl [(b, .inl (cb, N, .inl (nd_fl N v f)))] H → va_D A [(b, .inl (cb, N, .inl (nd_fl N v f)))] → va_S A s.heap H locs → W p l e (headSpec ow_dm_J7_fill_53178 ({ frames := 0, cells := 0, slots := 0, locals := 0 })).room s m args below meth c H locs 0 0 Q (F0 m 20 ls [])) :
    ∀ (k : Nat) (i : Int32) (H : Heap) (locs : List Loc) (ls : Array Slot), 0 ≤ i.toInt → i.toInt + k = N → va_P (dC, dI) vwCl [(b, .inl (cb, N, .inl (nd_fl i.toNatClampNeg v f)))] H → va_D A [(b, .inl (cb, N, .inl (nd_fl i.toNatClampNeg v f)))] → va_S A s.heap H locs → lv_has ls 4 [(2, .int i), (3, .int (Int32.ofNat N)), (0, .ref b), (1, .int v)] → W p l e (headSpec ow_dm_J7_fill_53178 ({ frames := 0, cells := 0, slots := 0, locals := 0 })).room s m args below meth c H locs 0 0 Q (F0 m 5 ls []) := by
  intro k
  induction k with
  | zero =>
    intro i H locs ls h0 hk hP hD hS hl
    refine lv_iload_n hx hb dJ7_fill_53178_5 rfl (lv_at hl 0 rfl) ?_
    refine lv_iload_n hx hb dJ7_fill_53178_6 rfl (lv_at hl 1 rfl) ?_
    refine lv_icmp_ge (tgt := 20) hx hb dJ7_fill_53178_7 (by decide) (fun _ => ?_) (fun h9 => absurd (Int32.le_iff_toInt_le.mpr (by rw [hNN]; omega)) h9)
    have hi : i.toNatClampNeg = N := by show i.toInt.toNat = N; omega
    rw [hi] at hP hD
    exact kk H locs ls hP hD hS
  | succ k ih =>
    intro i H locs ls h0 hk hP hD hS hl
    refine lv_iload_n hx hb dJ7_fill_53178_5 rfl (lv_at hl 0 rfl) ?_
    refine lv_iload_n hx hb dJ7_fill_53178_6 rfl (lv_at hl 1 rfl) ?_
    refine lv_icmp_ge (tgt := 20) hx hb dJ7_fill_53178_7 (by decide) (fun h9 => absurd (Int32.le_iff_toInt_le.mp h9) (by rw [hNN]; omega)) (fun _ => ?_)
    refine lv_aload_n hx hb dJ7_fill_53178_10 rfl (lv_at hl 2 rfl) ?_
    refine lv_iload_n hx hb dJ7_fill_53178_11 rfl (lv_at hl 0 rfl) ?_
    refine lv_iload_n hx hb dJ7_fill_53178_12 rfl (lv_at hl 3 rfl) ?_
    refine va_iast (i := i) (x := v) hx hb hK hP hD hS 0 0 rfl rfl (by rw [vp_in_iff]; omega) dJ7_fill_53178_13 (fun H locs hP hD hS => ?_)
    obtain ⟨z, ez⟩ : ∃ y : Int32, y = i + Int32.ofInt 1 := ⟨_, rfl⟩
    refine lv_iinc (v := z) (lv' := [(2, .int z), (3, .int (Int32.ofNat N)), (0, .ref b), (1, .int v)]) hx hb dJ7_fill_53178_14 hl (k := 0) rfl (by rw [ez]) (by decide) rfl (fun ls hl => ?_)
    refine lv_goto (tgt := 5) hx hb dJ7_fill_53178_17 (by decide) ?_
    have hz : z.toInt = i.toInt + 1 := by rw [ez]; exact nv_inc h0 (by omega)
    have hn : z.toNatClampNeg = i.toNatClampNeg + 1 := by show z.toInt.toNat = i.toInt.toNat + 1; omega
    have hP : va_P (dC, dI) vwCl [(b, .inl (cb, N, .inl (upd (nd_fl i.toNatClampNeg v f) i.toNatClampNeg v)))] H := hP
    have hD : va_D A [(b, .inl (cb, N, .inl (upd (nd_fl i.toNatClampNeg v f) i.toNatClampNeg v)))] := hD
    rw [nd_fl1, ← hn] at hP hD
    exact ih z H locs ls (by omega) (by omega) hP hD hS hl
set_option maxHeartbeats 40000000 in
set_option maxRecDepth 100000 in
theorem dm_J7_fill_53178 (l : Launch) (hlt : l.stackTraces = false) (dC : Nat → ClassId) (dI : Nat → Nat → Nat) (b : Nat) (cb : ClassId) (N : Nat) (hN31 : N < 2147483648) (f : Nat → Int32) (v : Int32) (sz : Nat) : Met l yJ7_fill_53178 ow_dm_J7_fill_53178 ({ frames := 0, cells := 0, slots := 0, locals := 0 }) (va_Pc [.ref b, .int v] (fun U => U.heap.size = sz ∧ va_P (dC, dI) vwCl [(b, .inl (cb, N, .inl f))] U.heap ∧ va_K (dC, dI) vwCl [(cb, .int)] U ∧ va_D (fun _ => True) [(b, .inl (cb, N, .inl f))] ∧ nv_E (va_A [(b, .inl (cb, N, .inl f))] sz) U)) (va_Qv (fun _ => True) (fun (_ : Unit) t => va_P (dC, dI) vwCl [(b, .inl (cb, N, .inl (nd_fl N v f)))] t.heap ∧ va_K (dC, dI) vwCl [(cb, .int)] t ∧ va_D (va_A [(b, .inl (cb, N, .inl f))] sz) [(b, .inl (cb, N, .inl (nd_fl N v f)))]) (va_A [(b, .inl (cb, N, .inl f))] sz)) 0 0 (va_A [(b, .inl (cb, N, .inl f))] sz) := by
  have hNN : (Int32.ofNat N).toInt = N := Int32.toInt_ofNat_of_lt hN31
  refine Met.ofW (cc := cJ7_fill_53178) (maxL := 4) (ret := none) (by decide) rfl ?_
  intro p e s m args below meth c s₁ B hml hv
  obtain ⟨rfl, hsz, hP, hK, hD0, hN⟩ := hv
  have hx := B.exec
  have hb := B.bytes
  have hr := B.returns
  have hlocks := B.notSynchronized
  subst hsz
  have hD := hD0.self (sz := s.heap.size)
  generalize hAe : va_A [(b, .inl (cb, N, .inl f))] s.heap.size = A at hD hN ⊢
  have hl := lv_entry ([.ref b, .int v]) (n := 4) (Nat.le_of_ble_eq_true rfl)
  rw [lg_entry_eq]
  generalize (lg_sl ([.ref b, .int v]) ++ List.replicate (4 - (lg_sl ([.ref b, .int v])).length) Slot.unset).toArray = ls at hl ⊢
  have hl : lv_has ls 4 [(0, .ref b), (1, .int v)] := hl
  refine lv_iconst (v := 0) hx hb dJ7_fill_53178_0 (by decide) ?_
  refine lv_istore_n (lv' := [(2, .int 0), (0, .ref b), (1, .int v)]) hx hb dJ7_fill_53178_1 rfl hl (by decide) rfl (fun ls hl => ?_)
  refine lv_aload_n hx hb dJ7_fill_53178_2 rfl (lv_at hl 1 rfl) ?_
  refine va_alen (v := Int32.ofNat N) hx hb hK hP 0 0 rfl rfl rfl dJ7_fill_53178_3 ?_
  refine lv_istore_n (lv' := [(3, .int (Int32.ofNat N)), (2, .int 0), (0, .ref b), (1, .int v)]) hx hb dJ7_fill_53178_4 rfl hl (by decide) rfl (fun ls hl => ?_)
  refine dl_J7_fill_53178 dC dI b cb N hNN hN31 f v hx hb hK (fun H locs ls hP hD hS => ?_) N 0 s.heap [] ls (by decide) (by show (0 : Int) + N = N; omega) (by rw [show (0 : Int32).toNatClampNeg = 0 from rfl, nd_fl0]; exact hP) (by rw [show (0 : Int32).toNatClampNeg = 0 from rfl, nd_fl0]; exact hD) va_S.rf (lv_sub hl [1, 0, 2, 3] rfl)
  exact W.vret hx hb hr (fun t ht hW => ⟨⟨(), rfl, trivial, by rw [ht]; exact hP, va_K.moved hW.alike hK, hD⟩, hS.F ht⟩) hS.2.2 dJ7_fill_53178_20
def ow_dm_X10_hold : List Cond := .code yX10_hold cX10_hold 4 none :: ([.fieldLink RX10 18 "TimeMachine$Things" "pipe" "[I", .fieldLink RX10 25 "TimeMachine$Things" "file" "[I"] ++ (u_ws RX10 TX10 11 ++ []))
theorem gd_dm_X10_hold : ∀ w ∈ ow_dm_X10_hold, (w.onTables && w.keeps) = true ∨ ∃ ty, w = Cond.arrayClass ty := List.forall_mem_cons.mpr ⟨good_of_word rfl, List.forall_mem_append.mpr ⟨fun w h => good_of_word (List.all_eq_true.mp (by decide +kernel) w h), List.forall_mem_append.mpr ⟨gu_X10, fun _ h => nomatch h⟩⟩⟩
theorem hi_dm_X10_hold_X10 : ∀ w ∈ u_ws RX10 TX10 11, w ∈ ow_dm_X10_hold := fun w h => List.mem_cons_of_mem _ (List.mem_append_right _ (List.mem_append_left _ h))
def dj_X10_hold_41 (p : Program) (l : Launch) (e : Env) (s : State) (m : MethodId) (args : Array Value) (below : List Frame) (meth : Method) (c : Code) (Q : State → Prop) (A : Nat → Prop) (dC : Nat → ClassId) (dI : Nat → Nat → Nat) (a : Nat → Nat) (ac : Nat → ClassId) (g : (St) → Option (St)) (r : St) : Prop := ∀ (s0 : St) (H : Heap) (locs : List Loc) (ls : Array Slot), g s0 = some r → va_P (dC, dI) vwCl (dw_X10 a ac s0) H → va_D A (dw_X10 a ac s0) → va_S A s.heap H locs → lv_has ls 4 [] → W p l e (headSpec ow_dm_X10_hold ({ frames := 0, cells := 0, slots := 0, locals := 0 })).room s m args below meth c H locs 0 0 Q (F0 m 41 ls [])
def dj_X10_hold_0 (p : Program) (l : Launch) (e : Env) (s : State) (m : MethodId) (args : Array Value) (below : List Frame) (meth : Method) (c : Code) (Q : State → Prop) (A : Nat → Prop) (dC : Nat → ClassId) (dI : Nat → Nat → Nat) (a : Nat → Nat) (ac : Nat → ClassId) (g : Int32 → Int32 → Int32 → (St) → Option (St)) (r : St) : Prop := ∀ (v0 : Int32) (v1 : Int32) (v2 : Int32) (s0 : St) (H : Heap) (locs : List Loc) (ls : Array Slot), g v0 v1 v2 s0 = some r → va_P (dC, dI) vwCl (dw_X10 a ac s0) H → va_D A (dw_X10 a ac s0) → va_S A s.heap H locs → lv_has ls 4 [(0, .ref (a 0)), (1, .int v0), (2, .int v1), (3, .int v2)] → W p l e (headSpec ow_dm_X10_hold ({ frames := 0, cells := 0, slots := 0, locals := 0 })).room s m args below meth c H locs 0 0 Q (F0 m 0 ls [])
set_option maxHeartbeats 40000000 in
set_option maxRecDepth 100000 in
theorem db_X10_hold_41 {p : Program} {l : Launch} {e : Env} {s : State} {m : MethodId} {args : Array Value} {below : List Frame} {meth : Method} {c : Code} {Q : State → Prop} {A : Nat → Prop} {dC : Nat → ClassId} {dI : Nat → Nat → Nat} {a : Nat → Nat} {ac : Nat → ClassId} {n : Nat} {r : St} (C : nd_C p l s m args c A (dC, dI) cX10_hold 4 RX10 ow_dm_X10_hold (dk_X10 ac)) (K : nd_Kv p l e (headSpec ow_dm_X10_hold ({ frames := 0, cells := 0, slots := 0, locals := 0 })).room s m args below meth c Q A (dC, dI) cX10_hold (St) (dw_X10 a ac) r) : dj_X10_hold_41 p l e s m args below meth c Q A dC dI a ac (df_X10_hold_41 n) r := by
  obtain ⟨hlt, hx, hb, hml, hown, hts, hN, hA, hK⟩ := id C
  intro s0 H locs ls h hP hD hS hl
  unfold df_X10_hold_41 at h
  exact K _ _ _ _ _ dX10_hold_41 (Option.some.inj h).symm hP hD hS
set_option maxHeartbeats 40000000 in
set_option maxRecDepth 100000 in
theorem db_X10_hold_0 {p : Program} {l : Launch} {e : Env} {s : State} {m : MethodId} {args : Array Value} {below : List Frame} {meth : Method} {c : Code} {Q : State → Prop} {A : Nat → Prop} {dC : Nat → ClassId} {dI : Nat → Nat → Nat} {a : Nat → Nat} {ac : Nat → ClassId} {n : Nat} {r : St} (C : nd_C p l s m args c A (dC, dI) cX10_hold 4 RX10 ow_dm_X10_hold (dk_X10 ac)) (K : nd_Kv p l e (headSpec ow_dm_X10_hold ({ frames := 0, cells := 0, slots := 0, locals := 0 })).room s m args below meth c Q A (dC, dI) cX10_hold (St) (dw_X10 a ac) r) : dj_X10_hold_0 p l e s m args below meth c Q A dC dI a ac (df_X10_hold_0 n) r := by
  obtain ⟨hlt, hx, hb, hml, hown, hts, hN, hA, hK⟩ := id C
  intro v0 v1 v2 s0 H locs ls h hP hD hS hl
  unfold df_X10_hold_0 at h
  refine lv_iload_n hx hb dX10_hold_0 rfl (lv_at hl 1 rfl) ?_
  refine lv_iconst (v := 3) hx hb dX10_hold_1 (by decide) ?_
  refine lv_icmp_ne (tgt := 22) hx hb dX10_hold_2 (by decide) (fun c1 => ?_) (fun c1 => ?_)
  · have h := nd_neg h c1
    refine lv_iload_n hx hb dX10_hold_22 rfl (lv_at hl 1 rfl) ?_
    refine lv_iconst (v := 4) hx hb dX10_hold_23 (by decide) ?_
    refine lv_icmp_eq (tgt := 41) hx hb dX10_hold_24 (by decide) (fun c2 => ?_) (fun c2 => ?_)
    · have h := nd_pos h c2
      exact (db_X10_hold_41 C K)  s0 _ _ _ h hP hD hS (lv_sub hl [] rfl)
    · have h := nd_neg h c2
      refine lv_aload_n hx hb dX10_hold_27 rfl (lv_at hl 0 rfl) ?_
      refine va_get (D := (dC, dI)) (ci := 11) (v := .ref (a 3)) (C := RX10) (T := TX10) (N := 11) hx hb hts hi_dm_X10_hold_X10 hown hK hP 0 rfl rfl 2 (by decide) (hts (.fieldLink RX10 18 "TimeMachine$Things" "pipe" "[I") (List.mem_of_getElem? (i := 1) rfl)) (fun _ h9 => h9) rfl dX10_hold_28 ?_
      refine lv_iload_n hx hb dX10_hold_31 rfl (lv_at hl 2 rfl) ?_
      refine lv_iconst (v := 4) hx hb dX10_hold_32 (by decide) ?_
      refine lv_imul hx hb dX10_hold_33 ?_
      refine lv_iload_n hx hb dX10_hold_34 rfl (lv_at hl 1 rfl) ?_
      refine lv_iadd hx hb dX10_hold_35 ?_
      refine lv_dup2_11 hx hb dX10_hold_36 rfl rfl ?_
      obtain ⟨i3, h⟩ := nd_ck_e h
      refine va_iald (i := ((v1 * 4) + v0)) hx hb hK hP 3 2 rfl rfl i3 dX10_hold_37 ?_
      refine lv_iload_n hx hb dX10_hold_38 rfl (lv_at hl 3 rfl) ?_
      refine lv_iadd hx hb dX10_hold_39 ?_
      obtain ⟨i4, h⟩ := nd_ck_e h
      refine va_iast (i := ((v1 * 4) + v0)) (x := ((sR s0 2 (Int32.toNatClampNeg ((v1 * 4) + v0))) + v2)) hx hb hK hP hD hS 3 2 rfl rfl i4 dX10_hold_40 (fun H locs hP hD hS => ?_)
      obtain ⟨s5, es5, h⟩ := nd_let_e h
      have hP : va_P (dC, dI) vwCl (dw_X10 a ac s5) H := by rw [es5]; exact hP
      have hD : va_D A (dw_X10 a ac s5) := by rw [es5]; exact hD
      exact (db_X10_hold_41 C K)  s5 _ _ _ h hP hD hS (lv_sub hl [] rfl)
  · have h := nd_pos h c1
    refine lv_aload_n hx hb dX10_hold_5 rfl (lv_at hl 0 rfl) ?_
    refine va_get (D := (dC, dI)) (ci := 11) (v := .ref (a 5)) (C := RX10) (T := TX10) (N := 11) hx hb hts hi_dm_X10_hold_X10 hown hK hP 0 rfl rfl 4 (by decide) (hts (.fieldLink RX10 25 "TimeMachine$Things" "file" "[I") (List.mem_of_getElem? (i := 2) rfl)) (fun _ h9 => h9) rfl dX10_hold_6 ?_
    refine lv_iload_n hx hb dX10_hold_9 rfl (lv_at hl 2 rfl) ?_
    refine lv_iconst (v := 3) hx hb dX10_hold_10 (by decide) ?_
    refine lv_imul hx hb dX10_hold_11 ?_
    refine lv_iconst (v := 1) hx hb dX10_hold_12 (by decide) ?_
    refine lv_iadd hx hb dX10_hold_13 ?_
    refine lv_dup2_11 hx hb dX10_hold_14 rfl rfl ?_
    obtain ⟨i6, h⟩ := nd_ck_e h
    refine va_iald (i := ((v1 * 3) + 1)) hx hb hK hP 5 4 rfl rfl i6 dX10_hold_15 ?_
    refine lv_iload_n hx hb dX10_hold_16 rfl (lv_at hl 3 rfl) ?_
    refine lv_iadd hx hb dX10_hold_17 ?_
    obtain ⟨i7, h⟩ := nd_ck_e h
    refine va_iast (i := ((v1 * 3) + 1)) (x := ((sR s0 4 (Int32.toNatClampNeg ((v1 * 3) + 1))) + v2)) hx hb hK hP hD hS 5 4 rfl rfl i7 dX10_hold_18 (fun H locs hP hD hS => ?_)
    obtain ⟨s8, es8, h⟩ := nd_let_e h
    have hP : va_P (dC, dI) vwCl (dw_X10 a ac s8) H := by rw [es8]; exact hP
    have hD : va_D A (dw_X10 a ac s8) := by rw [es8]; exact hD
    refine lv_goto (tgt := 41) hx hb dX10_hold_19 (by decide) ?_
    exact (db_X10_hold_41 C K)  s8 _ _ _ h hP hD hS (lv_sub hl [] rfl)
set_option maxHeartbeats 40000000 in
set_option maxRecDepth 100000 in
theorem dm_X10_hold (l : Launch) (hlt : l.stackTraces = false) (dC : Nat → ClassId) (dI : Nat → Nat → Nat) (a : Nat → Nat) (ac : Nat → ClassId) (n : Nat) (v0 : Int32) (v1 : Int32) (v2 : Int32) (s0 : St) {r : St} (h : df_X10_hold n v0 v1 v2 s0 = some r) (sz : Nat) : Met l yX10_hold ow_dm_X10_hold ({ frames := 0, cells := 0, slots := 0, locals := 0 }) (va_Pc [.ref (a 0), .int v0, .int v1, .int v2] (fun U => U.heap.size = sz ∧ va_P (dC, dI) vwCl (dw_X10 a ac s0) U.heap ∧ va_K (dC, dI) vwCl (dk_X10 ac) U ∧ va_D (fun _ => True) (dw_X10 a ac s0) ∧ nv_E (va_A (dw_X10 a ac s0) sz) U)) (va_Qv (fun _ => True) (fun (_ : Unit) t => va_P (dC, dI) vwCl (dw_X10 a ac r) t.heap ∧ va_K (dC, dI) vwCl (dk_X10 ac) t ∧ va_D (va_A (dw_X10 a ac s0) sz) (dw_X10 a ac r)) (va_A (dw_X10 a ac s0) sz)) 0 0 (va_A (dw_X10 a ac s0) sz) := by
  refine Met.ofW (cc := cX10_hold) (maxL := 4) (ret := none) (by decide) rfl ?_
  intro p e s m args below meth c s₁ B hml hv
  obtain ⟨rfl, hsz, hP, hK, hD0, hN⟩ := hv
  have hx := B.exec
  have hb := B.bytes
  have hr := B.returns
  have hts := atoms_spec (ws := ow_dm_X10_hold) B.pre
  have hown : s.vm.findClass RX10 = some m.cls := findClass_of_methodNamed B.named
  have hlocks := B.notSynchronized
  subst hsz
  have hD := hD0.self (sz := s.heap.size)
  generalize hAe : va_A (dw_X10 a ac s0) s.heap.size = A at hD hN ⊢
  have hA : ∀ q : Nat, s.heap.size ≤ q → A q := fun q h => by rw [← hAe]; exact Or.inr h
  have hl := lv_entry ([.ref (a 0), .int v0, .int v1, .int v2]) (n := 4) (Nat.le_of_ble_eq_true rfl)
  rw [lg_entry_eq]
  generalize (lg_sl ([.ref (a 0), .int v0, .int v1, .int v2]) ++ List.replicate (4 - (lg_sl ([.ref (a 0), .int v0, .int v1, .int v2])).length) Slot.unset).toArray = ls at hl ⊢
  have hl : lv_has ls 4 [(0, .ref (a 0)), (1, .int v0), (2, .int v1), (3, .int v2)] := hl
  exact db_X10_hold_0 (dC := dC) (dI := dI) (a := a) (ac := ac) (n := n) (r := r) ⟨hlt, hx, hb, hml, hown, hts, hN, hA, hK⟩ (fun pc τ H locs ls d er hP hD hS => by subst er; exact W.vret hx hb hr (fun t ht hW => ⟨⟨(), rfl, trivial, by rw [ht]; exact hP, va_K.moved hW.alike hK, hD⟩, hS.F ht⟩) hS.2.2 d) v0 v1 v2 s0 _ _ _ h hP hD va_S.rf (lv_sub hl [0, 1, 2, 3] rfl)
def ow_dm_X10_open : List Cond := .code yX10_open cX10_open 6 (some .int) :: ([.fieldLink RX10 15 "TimeMachine$Things" "opening" "[I", .methodLink RX10 77 yX10_hold, .instanceMethod yX10_hold, .selects RX10 yX10_hold yX10_hold, .initialized RX10] ++ (u_ws RX10 TX10 11 ++ (ow_dm_X10_hold ++ [])))
theorem gd_dm_X10_open : ∀ w ∈ ow_dm_X10_open, (w.onTables && w.keeps) = true ∨ ∃ ty, w = Cond.arrayClass ty := List.forall_mem_cons.mpr ⟨good_of_word rfl, List.forall_mem_append.mpr ⟨fun w h => good_of_word (List.all_eq_true.mp (by decide +kernel) w h), List.forall_mem_append.mpr ⟨gu_X10, List.forall_mem_append.mpr ⟨gd_dm_X10_hold, fun _ h => nomatch h⟩⟩⟩⟩
theorem hi_dm_X10_open_X10 : ∀ w ∈ u_ws RX10 TX10 11, w ∈ ow_dm_X10_open := fun w h => List.mem_cons_of_mem _ (List.mem_append_right _ (List.mem_append_left _ h))
theorem gi_dm_X10_open_0 : GoodIn ow_dm_X10_open (wsV RX10 77 RX10 yX10_hold ow_dm_X10_hold) := goodIn_app (goodIn_of _ (by decide +kernel)) (fun w h => ⟨List.mem_cons_of_mem _ (List.mem_append_right _ (List.mem_append_right _ (List.mem_append_left _ h))), gd_dm_X10_hold w h⟩)
def dj_X10_open_3 (p : Program) (l : Launch) (e : Env) (s : State) (m : MethodId) (args : Array Value) (below : List Frame) (meth : Method) (c : Code) (Q : State → Prop) (A : Nat → Prop) (dC : Nat → ClassId) (dI : Nat → Nat → Nat) (a : Nat → Nat) (ac : Nat → ClassId) (g : Int32 → Int32 → Int32 → Int32 → (St) → Option (Int32 × (St))) (r : Int32 × (St)) : Prop := ∀ (x1 : Int32) (x2 : Int32) (x3 : Int32) (x4 : Int32) (s0 : St) (H : Heap) (locs : List Loc) (ls : Array Slot), g x1 x2 x3 x4 s0 = some r → va_P (dC, dI) vwCl (dw_X10 a ac s0) H → va_D A (dw_X10 a ac s0) → va_S A s.heap H locs → lv_has ls 6 [(0, .ref (a 0)), (1, .int x1), (2, .int x2), (3, .int x3), (4, .int x4)] → W p l e (headSpec ow_dm_X10_open ({ frames := 1, cells := 0, slots := 0, locals := 23 })).room s m args below meth c H locs 0 0 Q (F0 m 3 ls [])
def dj_X10_open_0 (p : Program) (l : Launch) (e : Env) (s : State) (m : MethodId) (args : Array Value) (below : List Frame) (meth : Method) (c : Code) (Q : State → Prop) (A : Nat → Prop) (dC : Nat → ClassId) (dI : Nat → Nat → Nat) (a : Nat → Nat) (ac : Nat → ClassId) (g : Int32 → Int32 → Int32 → (St) → Option (Int32 × (St))) (r : Int32 × (St)) : Prop := ∀ (v0 : Int32) (v1 : Int32) (v2 : Int32) (s0 : St) (H : Heap) (locs : List Loc) (ls : Array Slot), g v0 v1 v2 s0 = some r → va_P (dC, dI) vwCl (dw_X10 a ac s0) H → va_D A (dw_X10 a ac s0) → va_S A s.heap H locs → lv_has ls 6 [(0, .ref (a 0)), (1, .int v0), (2, .int v1), (3, .int v2)] → W p l e (headSpec ow_dm_X10_open ({ frames := 1, cells := 0, slots := 0, locals := 23 })).room s m args below meth c H locs 0 0 Q (F0 m 0 ls [])
set_option maxHeartbeats 40000000 in
set_option maxRecDepth 100000 in
theorem dB_X10_open_3 {p : Program} {l : Launch} {e : Env} {s : State} {m : MethodId} {args : Array Value} {below : List Frame} {meth : Method} {c : Code} {Q : State → Prop} {A : Nat → Prop} {dC : Nat → ClassId} {dI : Nat → Nat → Nat} {a : Nat → Nat} {ac : Nat → ClassId} {n : Nat} {r : Int32 × (St)} (C : nd_C p l s m args c A (dC, dI) cX10_open 6 RX10 ow_dm_X10_open (dk_X10 ac)) (K : nd_Ki p l e (headSpec ow_dm_X10_open ({ frames := 1, cells := 0, slots := 0, locals := 23 })).room s m args below meth c Q A (dC, dI) cX10_open .int (St) (dw_X10 a ac) r) {g3 : Int32 → Int32 → Int32 → Int32 → (St) → Option (Int32 × (St))} (J3 : dj_X10_open_3 p l e s m args below meth c Q A dC dI a ac g3 r) : dj_X10_open_3 p l e s m args below meth c Q A dC dI a ac (dF_X10_open_3 n g3) r := by
  obtain ⟨hlt, hx, hb, hml, hown, hts, hN, hA, hK⟩ := id C
  intro x1 x2 x3 x4 s0 H locs ls h hP hD hS hl
  unfold dF_X10_open_3 at h
  refine lv_iload hx hb dX10_open_3 (lv_at hl 4 rfl) ?_
  refine lv_bipush (v := 48) hx hb dX10_open_5 (by decide) ?_
  refine lv_icmp_ge (tgt := 94) hx hb dX10_open_7 (by decide) (fun c1 => ?_) (fun c1 => ?_)
  · have h := nd_pos h c1
    refine lv_iconst (v := (-1)) hx hb dX10_open_94 (by decide) ?_
    exact K _ _ _ _ _ _ dX10_open_95 rfl (Option.some.inj h).symm hP hD hS
  · have h := nd_neg h c1
    refine lv_iload hx hb dX10_open_10 (lv_at hl 4 rfl) ?_
    refine lv_iconst (v := 5) hx hb dX10_open_12 (by decide) ?_
    refine lv_imul hx hb dX10_open_13 ?_
    refine lv_topi (fun z2 ez2 => ?_)
    have h := nd_at h ez2
    refine lv_istore (lv' := [(5, .int z2), (0, .ref (a 0)), (1, .int x1), (2, .int x2), (3, .int x3), (4, .int x4)]) hx hb dX10_open_14 hl (by decide) rfl (fun ls hl => ?_)
    refine lv_aload_n hx hb dX10_open_16 rfl (lv_at hl 1 rfl) ?_
    refine va_get (D := (dC, dI)) (ci := 11) (v := .ref (a 2)) (C := RX10) (T := TX10) (N := 11) hx hb hts hi_dm_X10_open_X10 hown hK hP 0 rfl rfl 1 (by decide) (hts (.fieldLink RX10 15 "TimeMachine$Things" "opening" "[I") (List.mem_of_getElem? (i := 1) rfl)) (fun _ h9 => h9) rfl dX10_open_17 ?_
    refine lv_iload hx hb dX10_open_20 (lv_at hl 0 rfl) ?_
    refine lv_iconst (v := 0) hx hb dX10_open_22 (by decide) ?_
    refine lv_iadd hx hb dX10_open_23 ?_
    obtain ⟨i3, h⟩ := nd_ck_e h
    refine va_iald (i := (z2 + 0)) hx hb hK hP 2 1 rfl rfl i3 dX10_open_24 ?_
    refine lv_if_ne (tgt := 88) hx hb dX10_open_25 (by decide) (fun c4 => ?_) (fun c4 => ?_)
    · have h := nd_neg h c4
      obtain ⟨z5, ez5, h⟩ := nd_let_e h
      refine lv_iinc (v := z5) (lv' := [(4, .int z5), (5, .int z2), (0, .ref (a 0)), (1, .int x1), (2, .int x2), (3, .int x3)]) hx hb dX10_open_88 hl (k := 5) rfl (by rw [ez5]) (by decide) rfl (fun ls hl => ?_)
      refine lv_goto (tgt := 3) hx hb dX10_open_91 (by decide) ?_
      exact (J3) (x1) (x2) (x3) (z5) s0 _ _ _ h hP hD hS (lv_sub hl [2, 3, 4, 5, 0] rfl)
    · have h := nd_pos h c4
      refine lv_aload_n hx hb dX10_open_28 rfl (lv_at hl 1 rfl) ?_
      refine va_get (D := (dC, dI)) (ci := 11) (v := .ref (a 2)) (C := RX10) (T := TX10) (N := 11) hx hb hts hi_dm_X10_open_X10 hown hK hP 0 rfl rfl 1 (by decide) (hts (.fieldLink RX10 15 "TimeMachine$Things" "opening" "[I") (List.mem_of_getElem? (i := 1) rfl)) (fun _ h9 => h9) rfl dX10_open_29 ?_
      refine lv_iload hx hb dX10_open_32 (lv_at hl 0 rfl) ?_
      refine lv_iconst (v := 0) hx hb dX10_open_34 (by decide) ?_
      refine lv_iadd hx hb dX10_open_35 ?_
      refine lv_iload_n hx hb dX10_open_36 rfl (lv_at hl 2 rfl) ?_
      obtain ⟨i6, h⟩ := nd_ck_e h
      refine va_iast (i := (z2 + 0)) (x := x1) hx hb hK hP hD hS 2 1 rfl rfl i6 dX10_open_37 (fun H locs hP hD hS => ?_)
      obtain ⟨s7, es7, h⟩ := nd_let_e h
      have hP : va_P (dC, dI) vwCl (dw_X10 a ac s7) H := by rw [es7]; exact hP
      have hD : va_D A (dw_X10 a ac s7) := by rw [es7]; exact hD
      refine lv_aload_n hx hb dX10_open_38 rfl (lv_at hl 1 rfl) ?_
      refine va_get (D := (dC, dI)) (ci := 11) (v := .ref (a 2)) (C := RX10) (T := TX10) (N := 11) hx hb hts hi_dm_X10_open_X10 hown hK hP 0 rfl rfl 1 (by decide) (hts (.fieldLink RX10 15 "TimeMachine$Things" "opening" "[I") (List.mem_of_getElem? (i := 1) rfl)) (fun _ h9 => h9) rfl dX10_open_39 ?_
      refine lv_iload hx hb dX10_open_42 (lv_at hl 0 rfl) ?_
      refine lv_iconst (v := 1) hx hb dX10_open_44 (by decide) ?_
      refine lv_iadd hx hb dX10_open_45 ?_
      refine lv_iconst (v := 0) hx hb dX10_open_46 (by decide) ?_
      obtain ⟨i8, h⟩ := nd_ck_e h
      refine va_iast (i := (z2 + 1)) (x := 0) hx hb hK hP hD hS 2 1 rfl rfl i8 dX10_open_47 (fun H locs hP hD hS => ?_)
      obtain ⟨s9, es9, h⟩ := nd_let_e h
      have hP : va_P (dC, dI) vwCl (dw_X10 a ac s9) H := by rw [es9]; exact hP
      have hD : va_D A (dw_X10 a ac s9) := by rw [es9]; exact hD
      refine lv_aload_n hx hb dX10_open_48 rfl (lv_at hl 1 rfl) ?_
      refine va_get (D := (dC, dI)) (ci := 11) (v := .ref (a 2)) (C := RX10) (T := TX10) (N := 11) hx hb hts hi_dm_X10_open_X10 hown hK hP 0 rfl rfl 1 (by decide) (hts (.fieldLink RX10 15 "TimeMachine$Things" "opening" "[I") (List.mem_of_getElem? (i := 1) rfl)) (fun _ h9 => h9) rfl dX10_open_49 ?_
      refine lv_iload hx hb dX10_open_52 (lv_at hl 0 rfl) ?_
      refine lv_iconst (v := 2) hx hb dX10_open_54 (by decide) ?_
      refine lv_iadd hx hb dX10_open_55 ?_
      refine lv_iload_n hx hb dX10_open_56 rfl (lv_at hl 3 rfl) ?_
      obtain ⟨i10, h⟩ := nd_ck_e h
      refine va_iast (i := (z2 + 2)) (x := x2) hx hb hK hP hD hS 2 1 rfl rfl i10 dX10_open_57 (fun H locs hP hD hS => ?_)
      obtain ⟨s11, es11, h⟩ := nd_let_e h
      have hP : va_P (dC, dI) vwCl (dw_X10 a ac s11) H := by rw [es11]; exact hP
      have hD : va_D A (dw_X10 a ac s11) := by rw [es11]; exact hD
      refine lv_aload_n hx hb dX10_open_58 rfl (lv_at hl 1 rfl) ?_
      refine va_get (D := (dC, dI)) (ci := 11) (v := .ref (a 2)) (C := RX10) (T := TX10) (N := 11) hx hb hts hi_dm_X10_open_X10 hown hK hP 0 rfl rfl 1 (by decide) (hts (.fieldLink RX10 15 "TimeMachine$Things" "opening" "[I") (List.mem_of_getElem? (i := 1) rfl)) (fun _ h9 => h9) rfl dX10_open_59 ?_
      refine lv_iload hx hb dX10_open_62 (lv_at hl 0 rfl) ?_
      refine lv_iconst (v := 3) hx hb dX10_open_64 (by decide) ?_
      refine lv_iadd hx hb dX10_open_65 ?_
      refine lv_iconst (v := 0) hx hb dX10_open_66 (by decide) ?_
      obtain ⟨i12, h⟩ := nd_ck_e h
      refine va_iast (i := (z2 + 3)) (x := 0) hx hb hK hP hD hS 2 1 rfl rfl i12 dX10_open_67 (fun H locs hP hD hS => ?_)
      obtain ⟨s13, es13, h⟩ := nd_let_e h
      have hP : va_P (dC, dI) vwCl (dw_X10 a ac s13) H := by rw [es13]; exact hP
      have hD : va_D A (dw_X10 a ac s13) := by rw [es13]; exact hD
      refine lv_aload_n hx hb dX10_open_68 rfl (lv_at hl 1 rfl) ?_
      refine va_get (D := (dC, dI)) (ci := 11) (v := .ref (a 2)) (C := RX10) (T := TX10) (N := 11) hx hb hts hi_dm_X10_open_X10 hown hK hP 0 rfl rfl 1 (by decide) (hts (.fieldLink RX10 15 "TimeMachine$Things" "opening" "[I") (List.mem_of_getElem? (i := 1) rfl)) (fun _ h9 => h9) rfl dX10_open_69 ?_
      refine lv_iload hx hb dX10_open_72 (lv_at hl 0 rfl) ?_
      refine lv_iconst (v := 4) hx hb dX10_open_74 (by decide) ?_
      refine lv_iadd hx hb dX10_open_75 ?_
      refine lv_iload_n hx hb dX10_open_76 rfl (lv_at hl 4 rfl) ?_
      obtain ⟨i14, h⟩ := nd_ck_e h
      refine va_iast (i := (z2 + 4)) (x := x3) hx hb hK hP hD hS 2 1 rfl rfl i14 dX10_open_77 (fun H locs hP hD hS => ?_)
      obtain ⟨s15, es15, h⟩ := nd_let_e h
      have hP : va_P (dC, dI) vwCl (dw_X10 a ac s15) H := by rw [es15]; exact hP
      have hD : va_D A (dw_X10 a ac s15) := by rw [es15]; exact hD
      refine lv_aload_n hx hb dX10_open_78 rfl (lv_at hl 1 rfl) ?_
      refine lv_iload_n hx hb dX10_open_79 rfl (lv_at hl 2 rfl) ?_
      refine lv_iload_n hx hb dX10_open_80 rfl (lv_at hl 3 rfl) ?_
      refine lv_iconst (v := 1) hx hb dX10_open_81 (by decide) ?_
      obtain ⟨s17, hq, h⟩ := nd_b1_e h
      have hPc := hP
      have hDc := hD
      have hKc := hK
      have hFc := nd_rs hD hS hA
      refine nd_cVv (As := [.int x1, .int x2, .int 1]) (rest := []) (w' := dw_X10 a ac s17) ⟨hx, hb, hml, hown, hts⟩ (fun sz => dm_X10_hold l hlt dC dI a ac n (x1) (x2) (1) s15 hq sz) (cwV 3 hts gi_dm_X10_open_0 rfl rfl rfl (by decide +kernel) ⟨Nat.le_of_ble_eq_true rfl, Nat.le_of_ble_eq_true rfl⟩) hPc hDc hKc hS hA hN (va_recv hKc hPc (ci := 11) (q0 := 0) rfl rfl) rfl hl.1 rfl (Nat.le_of_ble_eq_true rfl) dX10_open_82 (fun H locs hP1 hD1 hk1 hS => ?_)
      have hP := hP1
      have hD := hD1.weaken (fun k q _ h => hFc q.1 h)
      refine lv_iload hx hb dX10_open_85 (lv_at hl 5 rfl) ?_
      exact K _ _ _ _ _ _ dX10_open_87 rfl (Option.some.inj h).symm hP hD hS
set_option maxHeartbeats 40000000 in
set_option maxRecDepth 100000 in
theorem db_X10_open_3 {p : Program} {l : Launch} {e : Env} {s : State} {m : MethodId} {args : Array Value} {below : List Frame} {meth : Method} {c : Code} {Q : State → Prop} {A : Nat → Prop} {dC : Nat → ClassId} {dI : Nat → Nat → Nat} {a : Nat → Nat} {ac : Nat → ClassId} {n : Nat} {r : Int32 × (St)} (C : nd_C p l s m args c A (dC, dI) cX10_open 6 RX10 ow_dm_X10_open (dk_X10 ac)) (K : nd_Ki p l e (headSpec ow_dm_X10_open ({ frames := 1, cells := 0, slots := 0, locals := 23 })).room s m args below meth c Q A (dC, dI) cX10_open .int (St) (dw_X10 a ac) r) (k : Nat) : dj_X10_open_3 p l e s m args below meth c Q A dC dI a ac (df_X10_open_3 n k) r := by
  induction k with
  | zero => intro x1 x2 x3 x4 s0 H locs ls h; exact nomatch (show (none : Option (Int32 × (St))) = some r from h)
  | succ k ih => exact dB_X10_open_3 C K ih
set_option maxHeartbeats 40000000 in
set_option maxRecDepth 100000 in
theorem db_X10_open_0 {p : Program} {l : Launch} {e : Env} {s : State} {m : MethodId} {args : Array Value} {below : List Frame} {meth : Method} {c : Code} {Q : State → Prop} {A : Nat → Prop} {dC : Nat → ClassId} {dI : Nat → Nat → Nat} {a : Nat → Nat} {ac : Nat → ClassId} {n : Nat} {r : Int32 × (St)} (C : nd_C p l s m args c A (dC, dI) cX10_open 6 RX10 ow_dm_X10_open (dk_X10 ac)) (K : nd_Ki p l e (headSpec ow_dm_X10_open ({ frames := 1, cells := 0, slots := 0, locals := 23 })).room s m args below meth c Q A (dC, dI) cX10_open .int (St) (dw_X10 a ac) r) : dj_X10_open_0 p l e s m args below meth c Q A dC dI a ac (df_X10_open_0 n) r := by
  obtain ⟨hlt, hx, hb, hml, hown, hts, hN, hA, hK⟩ := id C
  intro v0 v1 v2 s0 H locs ls h hP hD hS hl
  unfold df_X10_open_0 at h
  refine lv_iconst (v := 0) hx hb dX10_open_0 (by decide) ?_
  refine lv_istore (lv' := [(4, .int 0), (0, .ref (a 0)), (1, .int v0), (2, .int v1), (3, .int v2)]) hx hb dX10_open_1 hl (by decide) rfl (fun ls hl => ?_)
  exact (db_X10_open_3 C K n) (v0) (v1) (v2) (0) s0 _ _ _ h hP hD hS (lv_sub hl [1, 2, 3, 4, 0] rfl)
set_option maxHeartbeats 40000000 in
set_option maxRecDepth 100000 in
theorem dm_X10_open (l : Launch) (hlt : l.stackTraces = false) (dC : Nat → ClassId) (dI : Nat → Nat → Nat) (a : Nat → Nat) (ac : Nat → ClassId) (n : Nat) (v0 : Int32) (v1 : Int32) (v2 : Int32) (s0 : St) {r : Int32 × (St)} (h : df_X10_open n v0 v1 v2 s0 = some r) (sz : Nat) : Met l yX10_open ow_dm_X10_open ({ frames := 1, cells := 0, slots := 0, locals := 23 }) (va_Pc [.ref (a 0), .int v0, .int v1, .int v2] (fun U => U.heap.size = sz ∧ va_P (dC, dI) vwCl (dw_X10 a ac s0) U.heap ∧ va_K (dC, dI) vwCl (dk_X10 ac) U ∧ va_D (fun _ => True) (dw_X10 a ac s0) ∧ nv_E (va_A (dw_X10 a ac s0) sz) U)) (va_Qi (fun x _ => x = r.1) (fun (_ : Unit) t => va_P (dC, dI) vwCl (dw_X10 a ac r.2) t.heap ∧ va_K (dC, dI) vwCl (dk_X10 ac) t ∧ va_D (va_A (dw_X10 a ac s0) sz) (dw_X10 a ac r.2)) (va_A (dw_X10 a ac s0) sz)) 0 0 (va_A (dw_X10 a ac s0) sz) := by
  refine Met.ofW (cc := cX10_open) (maxL := 6) (ret := (some .int)) (by decide) rfl ?_
  intro p e s m args below meth c s₁ B hml hv
  obtain ⟨rfl, hsz, hP, hK, hD0, hN⟩ := hv
  have hx := B.exec
  have hb := B.bytes
  have hr := B.returns
  have hts := atoms_spec (ws := ow_dm_X10_open) B.pre
  have hown : s.vm.findClass RX10 = some m.cls := findClass_of_methodNamed B.named
  have hlocks := B.notSynchronized
  subst hsz
  have hD := hD0.self (sz := s.heap.size)
  generalize hAe : va_A (dw_X10 a ac s0) s.heap.size = A at hD hN ⊢
  have hA : ∀ q : Nat, s.heap.size ≤ q → A q := fun q h => by rw [← hAe]; exact Or.inr h
  have hl := lv_entry ([.ref (a 0), .int v0, .int v1, .int v2]) (n := 6) (Nat.le_of_ble_eq_true rfl)
  rw [lg_entry_eq]
  generalize (lg_sl ([.ref (a 0), .int v0, .int v1, .int v2]) ++ List.replicate (6 - (lg_sl ([.ref (a 0), .int v0, .int v1, .int v2])).length) Slot.unset).toArray = ls at hl ⊢
  have hl : lv_has ls 6 [(0, .ref (a 0)), (1, .int v0), (2, .int v1), (3, .int v2)] := hl
  exact db_X10_open_0 (dC := dC) (dI := dI) (a := a) (ac := ac) (n := n) (r := r) ⟨hlt, hx, hb, hml, hown, hts, hN, hA, hK⟩ (fun pc v τ H locs ls d z er hP hD hS => by subst er; exact W.zret (v := v) hx hb hr z (fun t ht hW => ⟨⟨v, (), rfl, rfl, by rw [ht]; exact hP, va_K.moved hW.alike hK, hD⟩, hS.F ht⟩) hS.2.2 d) v0 v1 v2 s0 _ _ _ h hP hD va_S.rf (lv_sub hl [0, 1, 2, 3] rfl)
def ow_dm_X10_linkTo : List Cond := .code yX10_linkTo cX10_linkTo 4 none :: ([.fieldLink RX10 11 "TimeMachine$Things" "link" "[I", .fieldLink RX10 15 "TimeMachine$Things" "opening" "[I"] ++ (u_ws RX10 TX10 11 ++ []))
theorem gd_dm_X10_linkTo : ∀ w ∈ ow_dm_X10_linkTo, (w.onTables && w.keeps) = true ∨ ∃ ty, w = Cond.arrayClass ty := List.forall_mem_cons.mpr ⟨good_of_word rfl, List.forall_mem_append.mpr ⟨fun w h => good_of_word (List.all_eq_true.mp (by decide +kernel) w h), List.forall_mem_append.mpr ⟨gu_X10, fun _ h => nomatch h⟩⟩⟩
theorem hi_dm_X10_linkTo_X10 : ∀ w ∈ u_ws RX10 TX10 11, w ∈ ow_dm_X10_linkTo := fun w h => List.mem_cons_of_mem _ (List.mem_append_right _ (List.mem_append_left _ h))
def dj_X10_linkTo_0 (p : Program) (l : Launch) (e : Env) (s : State) (m : MethodId) (args : Array Value) (below : List Frame) (meth : Method) (c : Code) (Q : State → Prop) (A : Nat → Prop) (dC : Nat → ClassId) (dI : Nat → Nat → Nat) (a : Nat → Nat) (ac : Nat → ClassId) (g : Int32 → Int32 → Int32 → (St) → Option (St)) (r : St) : Prop := ∀ (v0 : Int32) (v1 : Int32) (v2 : Int32) (s0 : St) (H : Heap) (locs : List Loc) (ls : Array Slot), g v0 v1 v2 s0 = some r → va_P (dC, dI) vwCl (dw_X10 a ac s0) H → va_D A (dw_X10 a ac s0) → va_S A s.heap H locs → lv_has ls 4 [(0, .ref (a 0)), (1, .int v0), (2, .int v1), (3, .int v2)] → W p l e (headSpec ow_dm_X10_linkTo ({ frames := 0, cells := 0, slots := 0, locals := 0 })).room s m args below meth c H locs 0 0 Q (F0 m 0 ls [])
set_option maxHeartbeats 40000000 in
set_option maxRecDepth 100000 in
theorem db_X10_linkTo_0 {p : Program} {l : Launch} {e : Env} {s : State} {m : MethodId} {args : Array Value} {below : List Frame} {meth : Method} {c : Code} {Q : State → Prop} {A : Nat → Prop} {dC : Nat → ClassId} {dI : Nat → Nat → Nat} {a : Nat → Nat} {ac : Nat → ClassId} {n : Nat} {r : St} (C : nd_C p l s m args c A (dC, dI) cX10_linkTo 4 RX10 ow_dm_X10_linkTo (dk_X10 ac)) (K : nd_Kv p l e (headSpec ow_dm_X10_linkTo ({ frames := 0, cells := 0, slots := 0, locals := 0 })).room s m args below meth c Q A (dC, dI) cX10_linkTo (St) (dw_X10 a ac) r) : dj_X10_linkTo_0 p l e s m args below meth c Q A dC dI a ac (df_X10_linkTo_0 n) r := by
  obtain ⟨hlt, hx, hb, hml, hown, hts, hN, hA, hK⟩ := id C
  intro v0 v1 v2 s0 H locs ls h hP hD hS hl
  unfold df_X10_linkTo_0 at h
  refine lv_aload_n hx hb dX10_linkTo_0 rfl (lv_at hl 0 rfl) ?_
  refine va_get (D := (dC, dI)) (ci := 11) (v := .ref (a 1)) (C := RX10) (T := TX10) (N := 11) hx hb hts hi_dm_X10_linkTo_X10 hown hK hP 0 rfl rfl 0 (by decide) (hts (.fieldLink RX10 11 "TimeMachine$Things" "link" "[I") (List.mem_of_getElem? (i := 1) rfl)) (fun _ h9 => h9) rfl dX10_linkTo_1 ?_
  refine lv_iload_n hx hb dX10_linkTo_4 rfl (lv_at hl 1 rfl) ?_
  refine lv_bipush (v := 16) hx hb dX10_linkTo_5 (by decide) ?_
  refine lv_imul hx hb dX10_linkTo_7 ?_
  refine lv_iload_n hx hb dX10_linkTo_8 rfl (lv_at hl 2 rfl) ?_
  refine lv_iadd hx hb dX10_linkTo_9 ?_
  refine lv_iload_n hx hb dX10_linkTo_10 rfl (lv_at hl 3 rfl) ?_
  refine lv_iconst (v := 1) hx hb dX10_linkTo_11 (by decide) ?_
  refine lv_iadd hx hb dX10_linkTo_12 ?_
  obtain ⟨i1, h⟩ := nd_ck_e h
  refine va_iast (i := ((v0 * 16) + v1)) (x := (v2 + 1)) hx hb hK hP hD hS 1 0 rfl rfl i1 dX10_linkTo_13 (fun H locs hP hD hS => ?_)
  obtain ⟨s2, es2, h⟩ := nd_let_e h
  have hP : va_P (dC, dI) vwCl (dw_X10 a ac s2) H := by rw [es2]; exact hP
  have hD : va_D A (dw_X10 a ac s2) := by rw [es2]; exact hD
  refine lv_aload_n hx hb dX10_linkTo_14 rfl (lv_at hl 0 rfl) ?_
  refine va_get (D := (dC, dI)) (ci := 11) (v := .ref (a 2)) (C := RX10) (T := TX10) (N := 11) hx hb hts hi_dm_X10_linkTo_X10 hown hK hP 0 rfl rfl 1 (by decide) (hts (.fieldLink RX10 15 "TimeMachine$Things" "opening" "[I") (List.mem_of_getElem? (i := 2) rfl)) (fun _ h9 => h9) rfl dX10_linkTo_15 ?_
  refine lv_iload_n hx hb dX10_linkTo_18 rfl (lv_at hl 3 rfl) ?_
  refine lv_iconst (v := 5) hx hb dX10_linkTo_19 (by decide) ?_
  refine lv_imul hx hb dX10_linkTo_20 ?_
  refine lv_iconst (v := 1) hx hb dX10_linkTo_21 (by decide) ?_
  refine lv_iadd hx hb dX10_linkTo_22 ?_
  refine lv_dup2_11 hx hb dX10_linkTo_23 rfl rfl ?_
  obtain ⟨i3, h⟩ := nd_ck_e h
  refine va_iald (i := ((v2 * 5) + 1)) hx hb hK hP 2 1 rfl rfl i3 dX10_linkTo_24 ?_
  refine lv_iconst (v := 1) hx hb dX10_linkTo_25 (by decide) ?_
  refine lv_iadd hx hb dX10_linkTo_26 ?_
  obtain ⟨i4, h⟩ := nd_ck_e h
  refine va_iast (i := ((v2 * 5) + 1)) (x := ((sR s2 1 (Int32.toNatClampNeg ((v2 * 5) + 1))) + 1)) hx hb hK hP hD hS 2 1 rfl rfl i4 dX10_linkTo_27 (fun H locs hP hD hS => ?_)
  obtain ⟨s5, es5, h⟩ := nd_let_e h
  have hP : va_P (dC, dI) vwCl (dw_X10 a ac s5) H := by rw [es5]; exact hP
  have hD : va_D A (dw_X10 a ac s5) := by rw [es5]; exact hD
  exact K _ _ _ _ _ dX10_linkTo_28 (Option.some.inj h).symm hP hD hS
set_option maxHeartbeats 40000000 in
set_option maxRecDepth 100000 in
theorem dm_X10_linkTo (l : Launch) (hlt : l.stackTraces = false) (dC : Nat → ClassId) (dI : Nat → Nat → Nat) (a : Nat → Nat) (ac : Nat → ClassId) (n : Nat) (v0 : Int32) (v1 : Int32) (v2 : Int32) (s0 : St) {r : St} (h : df_X10_linkTo n v0 v1 v2 s0 = some r) (sz : Nat) : Met l yX10_linkTo ow_dm_X10_linkTo ({ frames := 0, cells := 0, slots := 0, locals := 0 }) (va_Pc [.ref (a 0), .int v0, .int v1, .int v2] (fun U => U.heap.size = sz ∧ va_P (dC, dI) vwCl (dw_X10 a ac s0) U.heap ∧ va_K (dC, dI) vwCl (dk_X10 ac) U ∧ va_D (fun _ => True) (dw_X10 a ac s0) ∧ nv_E (va_A (dw_X10 a ac s0) sz) U)) (va_Qv (fun _ => True) (fun (_ : Unit) t => va_P (dC, dI) vwCl (dw_X10 a ac r) t.heap ∧ va_K (dC, dI) vwCl (dk_X10 ac) t ∧ va_D (va_A (dw_X10 a ac s0) sz) (dw_X10 a ac r)) (va_A (dw_X10 a ac s0) sz)) 0 0 (va_A (dw_X10 a ac s0) sz) := by
  refine Met.ofW (cc := cX10_linkTo) (maxL := 4) (ret := none) (by decide) rfl ?_
  intro p e s m args below meth c s₁ B hml hv
  obtain ⟨rfl, hsz, hP, hK, hD0, hN⟩ := hv
  have hx := B.exec
  have hb := B.bytes
  have hr := B.returns
  have hts := atoms_spec (ws := ow_dm_X10_linkTo) B.pre
  have hown : s.vm.findClass RX10 = some m.cls := findClass_of_methodNamed B.named
  have hlocks := B.notSynchronized
  subst hsz
  have hD := hD0.self (sz := s.heap.size)
  generalize hAe : va_A (dw_X10 a ac s0) s.heap.size = A at hD hN ⊢
  have hA : ∀ q : Nat, s.heap.size ≤ q → A q := fun q h => by rw [← hAe]; exact Or.inr h
  have hl := lv_entry ([.ref (a 0), .int v0, .int v1, .int v2]) (n := 4) (Nat.le_of_ble_eq_true rfl)
  rw [lg_entry_eq]
  generalize (lg_sl ([.ref (a 0), .int v0, .int v1, .int v2]) ++ List.replicate (4 - (lg_sl ([.ref (a 0), .int v0, .int v1, .int v2])).length) Slot.unset).toArray = ls at hl ⊢
  have hl : lv_has ls 4 [(0, .ref (a 0)), (1, .int v0), (2, .int v1), (3, .int v2)] := hl
  exact db_X10_linkTo_0 (dC := dC) (dI := dI) (a := a) (ac := ac) (n := n) (r := r) ⟨hlt, hx, hb, hml, hown, hts, hN, hA, hK⟩ (fun pc τ H locs ls d er hP hD hS => by subst er; exact W.vret hx hb hr (fun t ht hW => ⟨⟨(), rfl, trivial, by rw [ht]; exact hP, va_K.moved hW.alike hK, hD⟩, hS.F ht⟩) hS.2.2 d) v0 v1 v2 s0 _ _ _ h hP hD va_S.rf (lv_sub hl [0, 1, 2, 3] rfl)
def ow_dm_X10_start : List Cond := .code yX10_start cX10_start 2 none :: ([.fieldLink RX10 11 "TimeMachine$Things" "link" "[I", .methodLink RX10 40 yJ7_fill_53178, .static yJ7_fill_53178, .initialized RJ7, .fieldLink RX10 15 "TimeMachine$Things" "opening" "[I", .fieldLink RX10 18 "TimeMachine$Things" "pipe" "[I", .fieldLink RX10 25 "TimeMachine$Things" "file" "[I", .fieldLink RX10 46 "TimeMachine$Things" "typedBytes" "I", .fieldLink RX10 50 "TimeMachine$Things" "shownInAll" "J", .methodLink RX10 54 yX10_open, .instanceMethod yX10_open, .selects RX10 yX10_open yX10_open, .initialized RX10, .methodLink RX10 58 yX10_linkTo, .instanceMethod yX10_linkTo, .selects RX10 yX10_linkTo yX10_linkTo] ++ (u_ws RX10 TX10 11 ++ (ow_dm_J7_fill_53178 ++ (ow_dm_X10_open ++ (ow_dm_X10_linkTo ++ [])))))
theorem gd_dm_X10_start : ∀ w ∈ ow_dm_X10_start, (w.onTables && w.keeps) = true ∨ ∃ ty, w = Cond.arrayClass ty := List.forall_mem_cons.mpr ⟨good_of_word rfl, List.forall_mem_append.mpr ⟨fun w h => good_of_word (List.all_eq_true.mp (by decide +kernel) w h), List.forall_mem_append.mpr ⟨gu_X10, List.forall_mem_append.mpr ⟨gd_dm_J7_fill_53178, List.forall_mem_append.mpr ⟨gd_dm_X10_open, List.forall_mem_append.mpr ⟨gd_dm_X10_linkTo, fun _ h => nomatch h⟩⟩⟩⟩⟩⟩
theorem hi_dm_X10_start_X10 : ∀ w ∈ u_ws RX10 TX10 11, w ∈ ow_dm_X10_start := fun w h => List.mem_cons_of_mem _ (List.mem_append_right _ (List.mem_append_left _ h))
theorem gi_dm_X10_start_0 : GoodIn ow_dm_X10_start (va_wsS RX10 40 yJ7_fill_53178 ow_dm_J7_fill_53178) := goodIn_app (goodIn_of _ (by decide +kernel)) (fun w h => ⟨List.mem_cons_of_mem _ (List.mem_append_right _ (List.mem_append_right _ (List.mem_append_left _ h))), gd_dm_J7_fill_53178 w h⟩)
theorem gi_dm_X10_start_1 : GoodIn ow_dm_X10_start (wsV RX10 54 RX10 yX10_open ow_dm_X10_open) := goodIn_app (goodIn_of _ (by decide +kernel)) (fun w h => ⟨List.mem_cons_of_mem _ (List.mem_append_right _ (List.mem_append_right _ (List.mem_append_right _ (List.mem_append_left _ h)))), gd_dm_X10_open w h⟩)
theorem gi_dm_X10_start_2 : GoodIn ow_dm_X10_start (wsV RX10 58 RX10 yX10_linkTo ow_dm_X10_linkTo) := goodIn_app (goodIn_of _ (by decide +kernel)) (fun w h => ⟨List.mem_cons_of_mem _ (List.mem_append_right _ (List.mem_append_right _ (List.mem_append_right _ (List.mem_append_right _ (List.mem_append_left _ h))))), gd_dm_X10_linkTo w h⟩)
def dj_X10_start_0 (p : Program) (l : Launch) (e : Env) (s : State) (m : MethodId) (args : Array Value) (below : List Frame) (meth : Method) (c : Code) (Q : State → Prop) (A : Nat → Prop) (dC : Nat → ClassId) (dI : Nat → Nat → Nat) (a : Nat → Nat) (ac : Nat → ClassId) (g : (St) → Option (St)) (r : St) : Prop := ∀ (s0 : St) (H : Heap) (locs : List Loc) (ls : Array Slot), g s0 = some r → va_P (dC, dI) vwCl (dw_X10 a ac s0) H → va_D A (dw_X10 a ac s0) → va_S A s.heap H locs → lv_has ls 2 [(0, .ref (a 0))] → W p l e (headSpec ow_dm_X10_start ({ frames := 2, cells := 0, slots := 0, locals := 48 })).room s m args below meth c H locs 0 0 Q (F0 m 0 ls [])
set_option maxHeartbeats 40000000 in
set_option maxRecDepth 100000 in
theorem db_X10_start_0 {p : Program} {l : Launch} {e : Env} {s : State} {m : MethodId} {args : Array Value} {below : List Frame} {meth : Method} {c : Code} {Q : State → Prop} {A : Nat → Prop} {dC : Nat → ClassId} {dI : Nat → Nat → Nat} {a : Nat → Nat} {ac : Nat → ClassId} {n : Nat} {r : St} (C : nd_C p l s m args c A (dC, dI) cX10_start 2 RX10 ow_dm_X10_start (dk_X10 ac)) (K : nd_Kv p l e (headSpec ow_dm_X10_start ({ frames := 2, cells := 0, slots := 0, locals := 48 })).room s m args below meth c Q A (dC, dI) cX10_start (St) (dw_X10 a ac) r) : dj_X10_start_0 p l e s m args below meth c Q A dC dI a ac (df_X10_start_0 n) r := by
  obtain ⟨hlt, hx, hb, hml, hown, hts, hN, hA, hK⟩ := id C
  intro s0 H locs ls h hP hD hS hl
  unfold df_X10_start_0 at h
  refine lv_aload_n hx hb dX10_start_0 rfl (lv_at hl 0 rfl) ?_
  refine va_get (D := (dC, dI)) (ci := 11) (v := .ref (a 1)) (C := RX10) (T := TX10) (N := 11) hx hb hts hi_dm_X10_start_X10 hown hK hP 0 rfl rfl 0 (by decide) (hts (.fieldLink RX10 11 "TimeMachine$Things" "link" "[I") (List.mem_of_getElem? (i := 1) rfl)) (fun _ h9 => h9) rfl dX10_start_1 ?_
  refine lv_iconst (v := 0) hx hb dX10_start_4 (by decide) ?_
  have hcl : (dw_X10 a ac s0)[1]? = some ((a 1), .inl (ac 1, 256, .inl (sR s0 0))) := rfl
  have hPc := nd_c1 hP hcl
  have hDc := nd_cd hD hcl
  have hKc : va_K (dC, dI) vwCl [(ac 1, .int)] s := hK.sub [0] rfl
  have hFc := nd_rs hDc hS hA
  refine va_callv (va_runS (As := [.ref (a 1), .int 0]) (rest := []) ⟨hx, hb, hml, hown, hts⟩ (dm_J7_fill_53178 l hlt dC dI (a 1) (ac 1) 256 (by decide) (sR s0 0) 0 _) (va_cwS 2 hts gi_dm_X10_start_0 rfl rfl rfl (by decide +kernel) ⟨Nat.le_of_ble_eq_true rfl, Nat.le_of_ble_eq_true rfl⟩) ⟨fun a U g mk q => by obtain ⟨q0, q1, qP, qK, qD, qN⟩ := q; exact ⟨q0, q1, qP, va_K.moved (u := U) (U := U.calling g mk a) (Vm.Alike.refl U.vm) qK, qD, nv_same rfl rfl qN⟩, fun U hU hW => ⟨rfl, by rw [hU], by rw [hU]; exact hPc, va_K.moved hW.alike hKc, hDc.weaken (fun _ _ _ _ => trivial), nv_call hS hFc hU hW hN⟩⟩ rfl rfl hl.1 rfl (lv_room (Nat.le_of_ble_eq_true rfl)) dX10_start_5 ⟨by decide +kernel, by decide +kernel⟩) hS (fun q _ h => hFc q h) hFc (fun u t H locs ht hvm hw hB hz1 hk1 hS => ?_)
  obtain ⟨hP1, -, hD1⟩ := hB
  rw [ht] at hP1
  have hP := nd_cs hP hD hcl hk1 hP1
  have hD := hD.set (e := .inl (ac 1, 256, .inl (nd_fl 256 0 (sR s0 0)))) hcl
  refine W.widen (k := 0) (n := 0) (Nat.le_refl _) (Nat.le_refl _) ?_
  obtain ⟨s1, es1, h⟩ := nd_let_e h
  have hP : va_P (dC, dI) vwCl (dw_X10 a ac s1) H := by rw [es1]; exact hP
  have hD : va_D A (dw_X10 a ac s1) := by rw [es1]; exact hD
  refine lv_aload_n hx hb dX10_start_8 rfl (lv_at hl 0 rfl) ?_
  refine va_get (D := (dC, dI)) (ci := 11) (v := .ref (a 2)) (C := RX10) (T := TX10) (N := 11) hx hb hts hi_dm_X10_start_X10 hown hK hP 0 rfl rfl 1 (by decide) (hts (.fieldLink RX10 15 "TimeMachine$Things" "opening" "[I") (List.mem_of_getElem? (i := 5) rfl)) (fun _ h9 => h9) rfl dX10_start_9 ?_
  refine lv_iconst (v := 0) hx hb dX10_start_12 (by decide) ?_
  have hcl : (dw_X10 a ac s1)[2]? = some ((a 2), .inl (ac 2, 240, .inl (sR s1 1))) := rfl
  have hPc := nd_c1 hP hcl
  have hDc := nd_cd hD hcl
  have hKc : va_K (dC, dI) vwCl [(ac 2, .int)] s := hK.sub [1] rfl
  have hFc := nd_rs hDc hS hA
  refine va_callv (va_runS (As := [.ref (a 2), .int 0]) (rest := []) ⟨hx, hb, hml, hown, hts⟩ (dm_J7_fill_53178 l hlt dC dI (a 2) (ac 2) 240 (by decide) (sR s1 1) 0 _) (va_cwS 2 hts gi_dm_X10_start_0 rfl rfl rfl (by decide +kernel) ⟨Nat.le_of_ble_eq_true rfl, Nat.le_of_ble_eq_true rfl⟩) ⟨fun a U g mk q => by obtain ⟨q0, q1, qP, qK, qD, qN⟩ := q; exact ⟨q0, q1, qP, va_K.moved (u := U) (U := U.calling g mk a) (Vm.Alike.refl U.vm) qK, qD, nv_same rfl rfl qN⟩, fun U hU hW => ⟨rfl, by rw [hU], by rw [hU]; exact hPc, va_K.moved hW.alike hKc, hDc.weaken (fun _ _ _ _ => trivial), nv_call hS hFc hU hW hN⟩⟩ rfl rfl hl.1 rfl (lv_room (Nat.le_of_ble_eq_true rfl)) dX10_start_13 ⟨by decide +kernel, by decide +kernel⟩) hS (fun q _ h => hFc q h) hFc (fun u t H locs ht hvm hw hB hz1 hk1 hS => ?_)
  obtain ⟨hP1, -, hD1⟩ := hB
  rw [ht] at hP1
  have hP := nd_cs hP hD hcl hk1 hP1
  have hD := hD.set (e := .inl (ac 2, 240, .inl (nd_fl 240 0 (sR s1 1)))) hcl
  refine W.widen (k := 0) (n := 0) (Nat.le_refl _) (Nat.le_refl _) ?_
  obtain ⟨s2, es2, h⟩ := nd_let_e h
  have hP : va_P (dC, dI) vwCl (dw_X10 a ac s2) H := by rw [es2]; exact hP
  have hD : va_D A (dw_X10 a ac s2) := by rw [es2]; exact hD
  refine lv_aload_n hx hb dX10_start_16 rfl (lv_at hl 0 rfl) ?_
  refine va_get (D := (dC, dI)) (ci := 11) (v := .ref (a 3)) (C := RX10) (T := TX10) (N := 11) hx hb hts hi_dm_X10_start_X10 hown hK hP 0 rfl rfl 2 (by decide) (hts (.fieldLink RX10 18 "TimeMachine$Things" "pipe" "[I") (List.mem_of_getElem? (i := 6) rfl)) (fun _ h9 => h9) rfl dX10_start_17 ?_
  refine lv_iconst (v := 0) hx hb dX10_start_20 (by decide) ?_
  have hcl : (dw_X10 a ac s2)[3]? = some ((a 3), .inl (ac 3, 32, .inl (sR s2 2))) := rfl
  have hPc := nd_c1 hP hcl
  have hDc := nd_cd hD hcl
  have hKc : va_K (dC, dI) vwCl [(ac 3, .int)] s := hK.sub [2] rfl
  have hFc := nd_rs hDc hS hA
  refine va_callv (va_runS (As := [.ref (a 3), .int 0]) (rest := []) ⟨hx, hb, hml, hown, hts⟩ (dm_J7_fill_53178 l hlt dC dI (a 3) (ac 3) 32 (by decide) (sR s2 2) 0 _) (va_cwS 2 hts gi_dm_X10_start_0 rfl rfl rfl (by decide +kernel) ⟨Nat.le_of_ble_eq_true rfl, Nat.le_of_ble_eq_true rfl⟩) ⟨fun a U g mk q => by obtain ⟨q0, q1, qP, qK, qD, qN⟩ := q; exact ⟨q0, q1, qP, va_K.moved (u := U) (U := U.calling g mk a) (Vm.Alike.refl U.vm) qK, qD, nv_same rfl rfl qN⟩, fun U hU hW => ⟨rfl, by rw [hU], by rw [hU]; exact hPc, va_K.moved hW.alike hKc, hDc.weaken (fun _ _ _ _ => trivial), nv_call hS hFc hU hW hN⟩⟩ rfl rfl hl.1 rfl (lv_room (Nat.le_of_ble_eq_true rfl)) dX10_start_21 ⟨by decide +kernel, by decide +kernel⟩) hS (fun q _ h => hFc q h) hFc (fun u t H locs ht hvm hw hB hz1 hk1 hS => ?_)
  obtain ⟨hP1, -, hD1⟩ := hB
  rw [ht] at hP1
  have hP := nd_cs hP hD hcl hk1 hP1
  have hD := hD.set (e := .inl (ac 3, 32, .inl (nd_fl 32 0 (sR s2 2)))) hcl
  refine W.widen (k := 0) (n := 0) (Nat.le_refl _) (Nat.le_refl _) ?_
  obtain ⟨s3, es3, h⟩ := nd_let_e h
  have hP : va_P (dC, dI) vwCl (dw_X10 a ac s3) H := by rw [es3]; exact hP
  have hD : va_D A (dw_X10 a ac s3) := by rw [es3]; exact hD
  refine lv_aload_n hx hb dX10_start_24 rfl (lv_at hl 0 rfl) ?_
  refine va_get (D := (dC, dI)) (ci := 11) (v := .ref (a 5)) (C := RX10) (T := TX10) (N := 11) hx hb hts hi_dm_X10_start_X10 hown hK hP 0 rfl rfl 4 (by decide) (hts (.fieldLink RX10 25 "TimeMachine$Things" "file" "[I") (List.mem_of_getElem? (i := 7) rfl)) (fun _ h9 => h9) rfl dX10_start_25 ?_
  refine lv_iconst (v := 0) hx hb dX10_start_28 (by decide) ?_
  have hcl : (dw_X10 a ac s3)[5]? = some ((a 5), .inl (ac 5, 48, .inl (sR s3 4))) := rfl
  have hPc := nd_c1 hP hcl
  have hDc := nd_cd hD hcl
  have hKc : va_K (dC, dI) vwCl [(ac 5, .int)] s := hK.sub [4] rfl
  have hFc := nd_rs hDc hS hA
  refine va_callv (va_runS (As := [.ref (a 5), .int 0]) (rest := []) ⟨hx, hb, hml, hown, hts⟩ (dm_J7_fill_53178 l hlt dC dI (a 5) (ac 5) 48 (by decide) (sR s3 4) 0 _) (va_cwS 2 hts gi_dm_X10_start_0 rfl rfl rfl (by decide +kernel) ⟨Nat.le_of_ble_eq_true rfl, Nat.le_of_ble_eq_true rfl⟩) ⟨fun a U g mk q => by obtain ⟨q0, q1, qP, qK, qD, qN⟩ := q; exact ⟨q0, q1, qP, va_K.moved (u := U) (U := U.calling g mk a) (Vm.Alike.refl U.vm) qK, qD, nv_same rfl rfl qN⟩, fun U hU hW => ⟨rfl, by rw [hU], by rw [hU]; exact hPc, va_K.moved hW.alike hKc, hDc.weaken (fun _ _ _ _ => trivial), nv_call hS hFc hU hW hN⟩⟩ rfl rfl hl.1 rfl (lv_room (Nat.le_of_ble_eq_true rfl)) dX10_start_29 ⟨by decide +kernel, by decide +kernel⟩) hS (fun q _ h => hFc q h) hFc (fun u t H locs ht hvm hw hB hz1 hk1 hS => ?_)
  obtain ⟨hP1, -, hD1⟩ := hB
  rw [ht] at hP1
  have hP := nd_cs hP hD hcl hk1 hP1
  have hD := hD.set (e := .inl (ac 5, 48, .inl (nd_fl 48 0 (sR s3 4)))) hcl
  refine W.widen (k := 0) (n := 0) (Nat.le_refl _) (Nat.le_refl _) ?_
  obtain ⟨s4, es4, h⟩ := nd_let_e h
  have hP : va_P (dC, dI) vwCl (dw_X10 a ac s4) H := by rw [es4]; exact hP
  have hD : va_D A (dw_X10 a ac s4) := by rw [es4]; exact hD
  refine lv_aload_n hx hb dX10_start_32 rfl (lv_at hl 0 rfl) ?_
  refine lv_iconst (v := 0) hx hb dX10_start_33 (by decide) ?_
  refine va_put (D := (dC, dI)) (ci := 11) (v := .int 0) (ty := .int) (C := RX10) (T := TX10) (N := 11) hx hb hts hi_dm_X10_start_X10 tyX10 tyX10_ok nmX10 hown hK hP hD hS 0 rfl rfl 8 (by decide) (hts (.fieldLink RX10 46 "TimeMachine$Things" "typedBytes" "I") (List.mem_of_getElem? (i := 8) rfl)) (fun _ h9 => h9) rfl (by decide +kernel) rfl rfl (Nat.le_of_ble_eq_true rfl) dX10_start_34 (fun H locs hP hD hS => ?_)
  obtain ⟨s5, es5, h⟩ := nd_let_e h
  have hP : va_P (dC, dI) vwCl (dw_X10 a ac s5) H := by rw [es5]; exact hP
  have hD : va_D A (dw_X10 a ac s5) := by rw [es5]; exact hD
  refine lv_aload_n hx hb dX10_start_37 rfl (lv_at hl 0 rfl) ?_
  refine lv_lconst (v := 0) hx hb dX10_start_38 (by decide) ?_
  refine va_put (D := (dC, dI)) (ci := 11) (v := .long 0) (ty := .long) (C := RX10) (T := TX10) (N := 11) hx hb hts hi_dm_X10_start_X10 tyX10 tyX10_ok nmX10 hown hK hP hD hS 0 rfl rfl 10 (by decide) (hts (.fieldLink RX10 50 "TimeMachine$Things" "shownInAll" "J") (List.mem_of_getElem? (i := 9) rfl)) (fun _ h9 => h9) rfl (by decide +kernel) rfl rfl (Nat.le_of_ble_eq_true rfl) dX10_start_39 (fun H locs hP hD hS => ?_)
  obtain ⟨s6, es6, h⟩ := nd_let_e h
  have hP : va_P (dC, dI) vwCl (dw_X10 a ac s6) H := by rw [es6]; exact hP
  have hD : va_D A (dw_X10 a ac s6) := by rw [es6]; exact hD
  refine lv_aload_n hx hb dX10_start_42 rfl (lv_at hl 0 rfl) ?_
  refine lv_iconst (v := 4) hx hb dX10_start_43 (by decide) ?_
  refine lv_iconst (v := 0) hx hb dX10_start_44 (by decide) ?_
  refine lv_iconst (v := 3) hx hb dX10_start_45 (by decide) ?_
  obtain ⟨q7, s8, hq, h⟩ := nd_b2_e h
  have hPc := hP
  have hDc := hD
  have hKc := hK
  have hFc := nd_rs hD hS hA
  refine nd_cVi (As := [.int 4, .int 0, .int 3]) (rest := []) (q := q7) (w' := dw_X10 a ac s8) ⟨hx, hb, hml, hown, hts⟩ (fun sz => dm_X10_open l hlt dC dI a ac n (4) (0) (3) s6 hq sz) (cwV 3 hts gi_dm_X10_start_1 rfl rfl rfl (by decide +kernel) ⟨Nat.le_of_ble_eq_true rfl, Nat.le_of_ble_eq_true rfl⟩) hPc hDc hKc hS hA hN (va_recv hKc hPc (ci := 11) (q0 := 0) rfl rfl) rfl hl.1 rfl (Nat.le_of_ble_eq_true rfl) dX10_start_46 (fun H locs hP1 hD1 hk1 hS => ?_)
  have hP := hP1
  have hD := hD1.weaken (fun k q _ h => hFc q.1 h)
  refine lv_istore_n (lv' := [(1, .int q7), (0, .ref (a 0))]) hx hb dX10_start_49 rfl hl (by decide) rfl (fun ls hl => ?_)
  refine lv_aload_n hx hb dX10_start_50 rfl (lv_at hl 1 rfl) ?_
  refine lv_iconst (v := 0) hx hb dX10_start_51 (by decide) ?_
  refine lv_iconst (v := 0) hx hb dX10_start_52 (by decide) ?_
  refine lv_iload_n hx hb dX10_start_53 rfl (lv_at hl 0 rfl) ?_
  obtain ⟨s11, hq, h⟩ := nd_b1_e h
  have hPc := hP
  have hDc := hD
  have hKc := hK
  have hFc := nd_rs hD hS hA
  refine nd_cVv (As := [.int 0, .int 0, .int q7]) (rest := []) (w' := dw_X10 a ac s11) ⟨hx, hb, hml, hown, hts⟩ (fun sz => dm_X10_linkTo l hlt dC dI a ac n (0) (0) (q7) s8 hq sz) (cwV 3 hts gi_dm_X10_start_2 rfl rfl rfl (by decide +kernel) ⟨Nat.le_of_ble_eq_true rfl, Nat.le_of_ble_eq_true rfl⟩) hPc hDc hKc hS hA hN (va_recv hKc hPc (ci := 11) (q0 := 0) rfl rfl) rfl hl.1 rfl (Nat.le_of_ble_eq_true rfl) dX10_start_54 (fun H locs hP1 hD1 hk1 hS => ?_)
  have hP := hP1
  have hD := hD1.weaken (fun k q _ h => hFc q.1 h)
  refine lv_aload_n hx hb dX10_start_57 rfl (lv_at hl 1 rfl) ?_
  refine lv_iconst (v := 0) hx hb dX10_start_58 (by decide) ?_
  refine lv_iconst (v := 1) hx hb dX10_start_59 (by decide) ?_
  refine lv_iload_n hx hb dX10_start_60 rfl (lv_at hl 0 rfl) ?_
  obtain ⟨s14, hq, h⟩ := nd_b1_e h
  have hPc := hP
  have hDc := hD
  have hKc := hK
  have hFc := nd_rs hD hS hA
  refine nd_cVv (As := [.int 0, .int 1, .int q7]) (rest := []) (w' := dw_X10 a ac s14) ⟨hx, hb, hml, hown, hts⟩ (fun sz => dm_X10_linkTo l hlt dC dI a ac n (0) (1) (q7) s11 hq sz) (cwV 3 hts gi_dm_X10_start_2 rfl rfl rfl (by decide +kernel) ⟨Nat.le_of_ble_eq_true rfl, Nat.le_of_ble_eq_true rfl⟩) hPc hDc hKc hS hA hN (va_recv hKc hPc (ci := 11) (q0 := 0) rfl rfl) rfl hl.1 rfl (Nat.le_of_ble_eq_true rfl) dX10_start_61 (fun H locs hP1 hD1 hk1 hS => ?_)
  have hP := hP1
  have hD := hD1.weaken (fun k q _ h => hFc q.1 h)
  exact K _ _ _ _ _ dX10_start_64 (Option.some.inj h).symm hP hD hS
set_option maxHeartbeats 40000000 in
set_option maxRecDepth 100000 in
theorem dm_X10_start (l : Launch) (hlt : l.stackTraces = false) (dC : Nat → ClassId) (dI : Nat → Nat → Nat) (a : Nat → Nat) (ac : Nat → ClassId) (n : Nat) (s0 : St) {r : St} (h : df_X10_start n s0 = some r) (sz : Nat) : Met l yX10_start ow_dm_X10_start ({ frames := 2, cells := 0, slots := 0, locals := 48 }) (va_Pc [.ref (a 0)] (fun U => U.heap.size = sz ∧ va_P (dC, dI) vwCl (dw_X10 a ac s0) U.heap ∧ va_K (dC, dI) vwCl (dk_X10 ac) U ∧ va_D (fun _ => True) (dw_X10 a ac s0) ∧ nv_E (va_A (dw_X10 a ac s0) sz) U)) (va_Qv (fun _ => True) (fun (_ : Unit) t => va_P (dC, dI) vwCl (dw_X10 a ac r) t.heap ∧ va_K (dC, dI) vwCl (dk_X10 ac) t ∧ va_D (va_A (dw_X10 a ac s0) sz) (dw_X10 a ac r)) (va_A (dw_X10 a ac s0) sz)) 0 0 (va_A (dw_X10 a ac s0) sz) := by
  refine Met.ofW (cc := cX10_start) (maxL := 2) (ret := none) (by decide) rfl ?_
  intro p e s m args below meth c s₁ B hml hv
  obtain ⟨rfl, hsz, hP, hK, hD0, hN⟩ := hv
  have hx := B.exec
  have hb := B.bytes
  have hr := B.returns
  have hts := atoms_spec (ws := ow_dm_X10_start) B.pre
  have hown : s.vm.findClass RX10 = some m.cls := findClass_of_methodNamed B.named
  have hlocks := B.notSynchronized
  subst hsz
  have hD := hD0.self (sz := s.heap.size)
  generalize hAe : va_A (dw_X10 a ac s0) s.heap.size = A at hD hN ⊢
  have hA : ∀ q : Nat, s.heap.size ≤ q → A q := fun q h => by rw [← hAe]; exact Or.inr h
  have hl := lv_entry ([.ref (a 0)]) (n := 2) (Nat.le_of_ble_eq_true rfl)
  rw [lg_entry_eq]
  generalize (lg_sl ([.ref (a 0)]) ++ List.replicate (2 - (lg_sl ([.ref (a 0)])).length) Slot.unset).toArray = ls at hl ⊢
  have hl : lv_has ls 2 [(0, .ref (a 0))] := hl
  exact db_X10_start_0 (dC := dC) (dI := dI) (a := a) (ac := ac) (n := n) (r := r) ⟨hlt, hx, hb, hml, hown, hts, hN, hA, hK⟩ (fun pc τ H locs ls d er hP hD hS => by subst er; exact W.vret hx hb hr (fun t ht hW => ⟨⟨(), rfl, trivial, by rw [ht]; exact hP, va_K.moved hW.alike hK, hD⟩, hS.F ht⟩) hS.2.2 d) s0 _ _ _ h hP hD va_S.rf (lv_sub hl [0] rfl)
def ow_dm_X10_become : List Cond := .code yX10_become cX10_become 2 none :: ([.fieldLink RX10 11 "TimeMachine$Things" "link" "[I", .methodLink RX10 62 arraycopyName, .native arraycopyName, .static arraycopyName, .initialized "java/lang/System", .fieldLink RX10 15 "TimeMachine$Things" "opening" "[I", .fieldLink RX10 18 "TimeMachine$Things" "pipe" "[I", .fieldLink RX10 21 "TimeMachine$Things" "piped" "[B", .fieldLink RX10 25 "TimeMachine$Things" "file" "[I", .fieldLink RX10 28 "TimeMachine$Things" "filed" "[B", .fieldLink RX10 31 "TimeMachine$Things" "names" "[B", .fieldLink RX10 34 "TimeMachine$Things" "typed" "[B", .fieldLink RX10 46 "TimeMachine$Things" "typedBytes" "I", .fieldLink RX10 37 "TimeMachine$Things" "shownBytes" "[B", .fieldLink RX10 50 "TimeMachine$Things" "shownInAll" "J"] ++ (u_ws RX10 TX10 11 ++ []))
theorem gd_dm_X10_become : ∀ w ∈ ow_dm_X10_become, (w.onTables && w.keeps) = true ∨ ∃ ty, w = Cond.arrayClass ty := List.forall_mem_cons.mpr ⟨good_of_word rfl, List.forall_mem_append.mpr ⟨fun w h => good_of_word (List.all_eq_true.mp (by decide +kernel) w h), List.forall_mem_append.mpr ⟨gu_X10, fun _ h => nomatch h⟩⟩⟩
theorem hi_dm_X10_become_X10 : ∀ w ∈ u_ws RX10 TX10 11, w ∈ ow_dm_X10_become := fun w h => List.mem_cons_of_mem _ (List.mem_append_right _ (List.mem_append_left _ h))
def dj_X10_become_0 (p : Program) (l : Launch) (e : Env) (s : State) (m : MethodId) (args : Array Value) (below : List Frame) (meth : Method) (c : Code) (Q : State → Prop) (A : Nat → Prop) (dC : Nat → ClassId) (dI : Nat → Nat → Nat) (a : Nat → Nat) (ac : Nat → ClassId) (g : (St × (St) × (St)) → Option (St × (St) × (St))) (r : St × (St) × (St)) : Prop := ∀ (s0 : St × (St) × (St)) (H : Heap) (locs : List Loc) (ls : Array Slot), g s0 = some r → va_P (dC, dI) vwCl (dw_X10m a ac s0) H → va_D A (dw_X10m a ac s0) → va_S A s.heap H locs → lv_has ls 2 [(0, .ref (a 0)), (1, .ref (a 10))] → W p l e (headSpec ow_dm_X10_become ({ frames := 1, cells := 0, slots := 0, locals := 40 })).room s m args below meth c H locs 0 0 Q (F0 m 0 ls [])
set_option maxHeartbeats 40000000 in
set_option maxRecDepth 100000 in
theorem db_X10_become_0 {p : Program} {l : Launch} {e : Env} {s : State} {m : MethodId} {args : Array Value} {below : List Frame} {meth : Method} {c : Code} {Q : State → Prop} {A : Nat → Prop} {dC : Nat → ClassId} {dI : Nat → Nat → Nat} {a : Nat → Nat} {ac : Nat → ClassId} {n : Nat} {r : St × (St) × (St)} (C : nd_C p l s m args c A (dC, dI) cX10_become 2 RX10 ow_dm_X10_become (dk_X10m ac)) (K : nd_Kv p l e (headSpec ow_dm_X10_become ({ frames := 1, cells := 0, slots := 0, locals := 40 })).room s m args below meth c Q A (dC, dI) cX10_become (St × (St) × (St)) (dw_X10m a ac) r) : dj_X10_become_0 p l e s m args below meth c Q A dC dI a ac (df_X10_become_0 n) r := by
  obtain ⟨hlt, hx, hb, hml, hown, hts, hN, hA, hK⟩ := id C
  intro s0 H locs ls h hP hD hS hl
  unfold df_X10_become_0 at h
  refine lv_aload_n hx hb dX10_become_0 rfl (lv_at hl 1 rfl) ?_
  refine va_get (D := (dC, dI)) (ci := 11) (v := .ref (a 11)) (C := RX10) (T := TX10) (N := 11) hx hb hts hi_dm_X10_become_X10 hown hK hP 10 rfl rfl 0 (by decide) (hts (.fieldLink RX10 11 "TimeMachine$Things" "link" "[I") (List.mem_of_getElem? (i := 1) rfl)) (fun _ h9 => h9) rfl dX10_become_1 ?_
  refine lv_iconst (v := 0) hx hb dX10_become_4 (by decide) ?_
  refine lv_aload_n hx hb dX10_become_5 rfl (lv_at hl 0 rfl) ?_
  refine va_get (D := (dC, dI)) (ci := 11) (v := .ref (a 1)) (C := RX10) (T := TX10) (N := 11) hx hb hts hi_dm_X10_become_X10 hown hK hP 0 rfl rfl 0 (by decide) (hts (.fieldLink RX10 11 "TimeMachine$Things" "link" "[I") (List.mem_of_getElem? (i := 1) rfl)) (fun _ h9 => h9) rfl dX10_become_6 ?_
  refine lv_iconst (v := 0) hx hb dX10_become_9 (by decide) ?_
  refine lv_aload_n hx hb dX10_become_10 rfl (lv_at hl 0 rfl) ?_
  refine va_get (D := (dC, dI)) (ci := 11) (v := .ref (a 1)) (C := RX10) (T := TX10) (N := 11) hx hb hts hi_dm_X10_become_X10 hown hK hP 0 rfl rfl 0 (by decide) (hts (.fieldLink RX10 11 "TimeMachine$Things" "link" "[I") (List.mem_of_getElem? (i := 1) rfl)) (fun _ h9 => h9) rfl dX10_become_11 ?_
  refine va_alen (v := 256) hx hb hK hP 1 0 rfl rfl (show Int32.ofNat 256 = 256 by decide) dX10_become_14 ?_
  obtain ⟨k1, h⟩ := nd_cp_e h
  refine va_copyi (sp := 0) (dp := 0) (n := 256) hx hb (by rw [hml]; exact hl.1.symm) hown (hts (.methodLink RX10 62 arraycopyName) (List.mem_of_getElem? (i := 2) rfl)) (hts (.native arraycopyName) (List.mem_of_getElem? (i := 3) rfl)) (hts (.static arraycopyName) (List.mem_of_getElem? (i := 4) rfl)) (hts (.initialized "java/lang/System") (List.mem_of_getElem? (i := 5) rfl)) hK hP hD hS 11 1 9 0 rfl rfl rfl rfl rfl k1.1 k1.2.1 k1.2.2.1 k1.2.2.2.1 k1.2.2.2.2 (fun _ _ => rfl) (Nat.le_of_ble_eq_true rfl) (by decide +kernel) dX10_become_15 (fun H locs hP hD hS => ?_)
  obtain ⟨s2, es2, h⟩ := nd_let_e h
  have hP : va_P (dC, dI) vwCl (dw_X10m a ac s2) H := by rw [es2]; exact hP
  have hD : va_D A (dw_X10m a ac s2) := by rw [es2]; exact hD
  refine lv_aload_n hx hb dX10_become_18 rfl (lv_at hl 1 rfl) ?_
  refine va_get (D := (dC, dI)) (ci := 11) (v := .ref (a 12)) (C := RX10) (T := TX10) (N := 11) hx hb hts hi_dm_X10_become_X10 hown hK hP 10 rfl rfl 1 (by decide) (hts (.fieldLink RX10 15 "TimeMachine$Things" "opening" "[I") (List.mem_of_getElem? (i := 6) rfl)) (fun _ h9 => h9) rfl dX10_become_19 ?_
  refine lv_iconst (v := 0) hx hb dX10_become_22 (by decide) ?_
  refine lv_aload_n hx hb dX10_become_23 rfl (lv_at hl 0 rfl) ?_
  refine va_get (D := (dC, dI)) (ci := 11) (v := .ref (a 2)) (C := RX10) (T := TX10) (N := 11) hx hb hts hi_dm_X10_become_X10 hown hK hP 0 rfl rfl 1 (by decide) (hts (.fieldLink RX10 15 "TimeMachine$Things" "opening" "[I") (List.mem_of_getElem? (i := 6) rfl)) (fun _ h9 => h9) rfl dX10_become_24 ?_
  refine lv_iconst (v := 0) hx hb dX10_become_27 (by decide) ?_
  refine lv_aload_n hx hb dX10_become_28 rfl (lv_at hl 0 rfl) ?_
  refine va_get (D := (dC, dI)) (ci := 11) (v := .ref (a 2)) (C := RX10) (T := TX10) (N := 11) hx hb hts hi_dm_X10_become_X10 hown hK hP 0 rfl rfl 1 (by decide) (hts (.fieldLink RX10 15 "TimeMachine$Things" "opening" "[I") (List.mem_of_getElem? (i := 6) rfl)) (fun _ h9 => h9) rfl dX10_become_29 ?_
  refine va_alen (v := 240) hx hb hK hP 2 1 rfl rfl (show Int32.ofNat 240 = 240 by decide) dX10_become_32 ?_
  obtain ⟨k3, h⟩ := nd_cp_e h
  refine va_copyi (sp := 0) (dp := 0) (n := 240) hx hb (by rw [hml]; exact hl.1.symm) hown (hts (.methodLink RX10 62 arraycopyName) (List.mem_of_getElem? (i := 2) rfl)) (hts (.native arraycopyName) (List.mem_of_getElem? (i := 3) rfl)) (hts (.static arraycopyName) (List.mem_of_getElem? (i := 4) rfl)) (hts (.initialized "java/lang/System") (List.mem_of_getElem? (i := 5) rfl)) hK hP hD hS 12 2 10 1 rfl rfl rfl rfl rfl k3.1 k3.2.1 k3.2.2.1 k3.2.2.2.1 k3.2.2.2.2 (fun _ _ => rfl) (Nat.le_of_ble_eq_true rfl) (by decide +kernel) dX10_become_33 (fun H locs hP hD hS => ?_)
  obtain ⟨s4, es4, h⟩ := nd_let_e h
  have hP : va_P (dC, dI) vwCl (dw_X10m a ac s4) H := by rw [es4]; exact hP
  have hD : va_D A (dw_X10m a ac s4) := by rw [es4]; exact hD
  refine lv_aload_n hx hb dX10_become_36 rfl (lv_at hl 1 rfl) ?_
  refine va_get (D := (dC, dI)) (ci := 11) (v := .ref (a 13)) (C := RX10) (T := TX10) (N := 11) hx hb hts hi_dm_X10_become_X10 hown hK hP 10 rfl rfl 2 (by decide) (hts (.fieldLink RX10 18 "TimeMachine$Things" "pipe" "[I") (List.mem_of_getElem? (i := 7) rfl)) (fun _ h9 => h9) rfl dX10_become_37 ?_
  refine lv_iconst (v := 0) hx hb dX10_become_40 (by decide) ?_
  refine lv_aload_n hx hb dX10_become_41 rfl (lv_at hl 0 rfl) ?_
  refine va_get (D := (dC, dI)) (ci := 11) (v := .ref (a 3)) (C := RX10) (T := TX10) (N := 11) hx hb hts hi_dm_X10_become_X10 hown hK hP 0 rfl rfl 2 (by decide) (hts (.fieldLink RX10 18 "TimeMachine$Things" "pipe" "[I") (List.mem_of_getElem? (i := 7) rfl)) (fun _ h9 => h9) rfl dX10_become_42 ?_
  refine lv_iconst (v := 0) hx hb dX10_become_45 (by decide) ?_
  refine lv_aload_n hx hb dX10_become_46 rfl (lv_at hl 0 rfl) ?_
  refine va_get (D := (dC, dI)) (ci := 11) (v := .ref (a 3)) (C := RX10) (T := TX10) (N := 11) hx hb hts hi_dm_X10_become_X10 hown hK hP 0 rfl rfl 2 (by decide) (hts (.fieldLink RX10 18 "TimeMachine$Things" "pipe" "[I") (List.mem_of_getElem? (i := 7) rfl)) (fun _ h9 => h9) rfl dX10_become_47 ?_
  refine va_alen (v := 32) hx hb hK hP 3 2 rfl rfl (show Int32.ofNat 32 = 32 by decide) dX10_become_50 ?_
  obtain ⟨k5, h⟩ := nd_cp_e h
  refine va_copyi (sp := 0) (dp := 0) (n := 32) hx hb (by rw [hml]; exact hl.1.symm) hown (hts (.methodLink RX10 62 arraycopyName) (List.mem_of_getElem? (i := 2) rfl)) (hts (.native arraycopyName) (List.mem_of_getElem? (i := 3) rfl)) (hts (.static arraycopyName) (List.mem_of_getElem? (i := 4) rfl)) (hts (.initialized "java/lang/System") (List.mem_of_getElem? (i := 5) rfl)) hK hP hD hS 13 3 11 2 rfl rfl rfl rfl rfl k5.1 k5.2.1 k5.2.2.1 k5.2.2.2.1 k5.2.2.2.2 (fun _ _ => rfl) (Nat.le_of_ble_eq_true rfl) (by decide +kernel) dX10_become_51 (fun H locs hP hD hS => ?_)
  obtain ⟨s6, es6, h⟩ := nd_let_e h
  have hP : va_P (dC, dI) vwCl (dw_X10m a ac s6) H := by rw [es6]; exact hP
  have hD : va_D A (dw_X10m a ac s6) := by rw [es6]; exact hD
  refine lv_aload_n hx hb dX10_become_54 rfl (lv_at hl 1 rfl) ?_
  refine va_get (D := (dC, dI)) (ci := 11) (v := .ref (a 14)) (C := RX10) (T := TX10) (N := 11) hx hb hts hi_dm_X10_become_X10 hown hK hP 10 rfl rfl 3 (by decide) (hts (.fieldLink RX10 21 "TimeMachine$Things" "piped" "[B") (List.mem_of_getElem? (i := 8) rfl)) (fun _ h9 => h9) rfl dX10_become_55 ?_
  refine lv_iconst (v := 0) hx hb dX10_become_58 (by decide) ?_
  refine lv_aload_n hx hb dX10_become_59 rfl (lv_at hl 0 rfl) ?_
  refine va_get (D := (dC, dI)) (ci := 11) (v := .ref (a 4)) (C := RX10) (T := TX10) (N := 11) hx hb hts hi_dm_X10_become_X10 hown hK hP 0 rfl rfl 3 (by decide) (hts (.fieldLink RX10 21 "TimeMachine$Things" "piped" "[B") (List.mem_of_getElem? (i := 8) rfl)) (fun _ h9 => h9) rfl dX10_become_60 ?_
  refine lv_iconst (v := 0) hx hb dX10_become_63 (by decide) ?_
  refine lv_aload_n hx hb dX10_become_64 rfl (lv_at hl 0 rfl) ?_
  refine va_get (D := (dC, dI)) (ci := 11) (v := .ref (a 4)) (C := RX10) (T := TX10) (N := 11) hx hb hts hi_dm_X10_become_X10 hown hK hP 0 rfl rfl 3 (by decide) (hts (.fieldLink RX10 21 "TimeMachine$Things" "piped" "[B") (List.mem_of_getElem? (i := 8) rfl)) (fun _ h9 => h9) rfl dX10_become_65 ?_
  refine va_alen (v := 4096) hx hb hK hP 4 3 rfl rfl (show Int32.ofNat 4096 = 4096 by decide) dX10_become_68 ?_
  obtain ⟨k7, h⟩ := nd_cp_e h
  obtain ⟨k8, h⟩ := nd_fa_e h
  refine va_copyi (sp := 0) (dp := 0) (n := 4096) hx hb (by rw [hml]; exact hl.1.symm) hown (hts (.methodLink RX10 62 arraycopyName) (List.mem_of_getElem? (i := 2) rfl)) (hts (.native arraycopyName) (List.mem_of_getElem? (i := 3) rfl)) (hts (.static arraycopyName) (List.mem_of_getElem? (i := 4) rfl)) (hts (.initialized "java/lang/System") (List.mem_of_getElem? (i := 5) rfl)) hK hP hD hS 14 4 12 3 rfl rfl rfl rfl rfl k7.1 k7.2.1 k7.2.2.1 k7.2.2.2.1 k7.2.2.2.2 k8 (Nat.le_of_ble_eq_true rfl) (by decide +kernel) dX10_become_69 (fun H locs hP hD hS => ?_)
  obtain ⟨s9, es9, h⟩ := nd_let_e h
  have hP : va_P (dC, dI) vwCl (dw_X10m a ac s9) H := by rw [es9]; exact hP
  have hD : va_D A (dw_X10m a ac s9) := by rw [es9]; exact hD
  refine lv_aload_n hx hb dX10_become_72 rfl (lv_at hl 1 rfl) ?_
  refine va_get (D := (dC, dI)) (ci := 11) (v := .ref (a 15)) (C := RX10) (T := TX10) (N := 11) hx hb hts hi_dm_X10_become_X10 hown hK hP 10 rfl rfl 4 (by decide) (hts (.fieldLink RX10 25 "TimeMachine$Things" "file" "[I") (List.mem_of_getElem? (i := 9) rfl)) (fun _ h9 => h9) rfl dX10_become_73 ?_
  refine lv_iconst (v := 0) hx hb dX10_become_76 (by decide) ?_
  refine lv_aload_n hx hb dX10_become_77 rfl (lv_at hl 0 rfl) ?_
  refine va_get (D := (dC, dI)) (ci := 11) (v := .ref (a 5)) (C := RX10) (T := TX10) (N := 11) hx hb hts hi_dm_X10_become_X10 hown hK hP 0 rfl rfl 4 (by decide) (hts (.fieldLink RX10 25 "TimeMachine$Things" "file" "[I") (List.mem_of_getElem? (i := 9) rfl)) (fun _ h9 => h9) rfl dX10_become_78 ?_
  refine lv_iconst (v := 0) hx hb dX10_become_81 (by decide) ?_
  refine lv_aload_n hx hb dX10_become_82 rfl (lv_at hl 0 rfl) ?_
  refine va_get (D := (dC, dI)) (ci := 11) (v := .ref (a 5)) (C := RX10) (T := TX10) (N := 11) hx hb hts hi_dm_X10_become_X10 hown hK hP 0 rfl rfl 4 (by decide) (hts (.fieldLink RX10 25 "TimeMachine$Things" "file" "[I") (List.mem_of_getElem? (i := 9) rfl)) (fun _ h9 => h9) rfl dX10_become_83 ?_
  refine va_alen (v := 48) hx hb hK hP 5 4 rfl rfl (show Int32.ofNat 48 = 48 by decide) dX10_become_86 ?_
  obtain ⟨k10, h⟩ := nd_cp_e h
  refine va_copyi (sp := 0) (dp := 0) (n := 48) hx hb (by rw [hml]; exact hl.1.symm) hown (hts (.methodLink RX10 62 arraycopyName) (List.mem_of_getElem? (i := 2) rfl)) (hts (.native arraycopyName) (List.mem_of_getElem? (i := 3) rfl)) (hts (.static arraycopyName) (List.mem_of_getElem? (i := 4) rfl)) (hts (.initialized "java/lang/System") (List.mem_of_getElem? (i := 5) rfl)) hK hP hD hS 15 5 13 4 rfl rfl rfl rfl rfl k10.1 k10.2.1 k10.2.2.1 k10.2.2.2.1 k10.2.2.2.2 (fun _ _ => rfl) (Nat.le_of_ble_eq_true rfl) (by decide +kernel) dX10_become_87 (fun H locs hP hD hS => ?_)
  obtain ⟨s11, es11, h⟩ := nd_let_e h
  have hP : va_P (dC, dI) vwCl (dw_X10m a ac s11) H := by rw [es11]; exact hP
  have hD : va_D A (dw_X10m a ac s11) := by rw [es11]; exact hD
  refine lv_aload_n hx hb dX10_become_90 rfl (lv_at hl 1 rfl) ?_
  refine va_get (D := (dC, dI)) (ci := 11) (v := .ref (a 16)) (C := RX10) (T := TX10) (N := 11) hx hb hts hi_dm_X10_become_X10 hown hK hP 10 rfl rfl 5 (by decide) (hts (.fieldLink RX10 28 "TimeMachine$Things" "filed" "[B") (List.mem_of_getElem? (i := 10) rfl)) (fun _ h9 => h9) rfl dX10_become_91 ?_
  refine lv_iconst (v := 0) hx hb dX10_become_94 (by decide) ?_
  refine lv_aload_n hx hb dX10_become_95 rfl (lv_at hl 0 rfl) ?_
  refine va_get (D := (dC, dI)) (ci := 11) (v := .ref (a 6)) (C := RX10) (T := TX10) (N := 11) hx hb hts hi_dm_X10_become_X10 hown hK hP 0 rfl rfl 5 (by decide) (hts (.fieldLink RX10 28 "TimeMachine$Things" "filed" "[B") (List.mem_of_getElem? (i := 10) rfl)) (fun _ h9 => h9) rfl dX10_become_96 ?_
  refine lv_iconst (v := 0) hx hb dX10_become_99 (by decide) ?_
  refine lv_aload_n hx hb dX10_become_100 rfl (lv_at hl 0 rfl) ?_
  refine va_get (D := (dC, dI)) (ci := 11) (v := .ref (a 6)) (C := RX10) (T := TX10) (N := 11) hx hb hts hi_dm_X10_become_X10 hown hK hP 0 rfl rfl 5 (by decide) (hts (.fieldLink RX10 28 "TimeMachine$Things" "filed" "[B") (List.mem_of_getElem? (i := 10) rfl)) (fun _ h9 => h9) rfl dX10_become_101 ?_
  refine va_alen (v := 8192) hx hb hK hP 6 5 rfl rfl (show Int32.ofNat 8192 = 8192 by decide) dX10_become_104 ?_
  obtain ⟨k12, h⟩ := nd_cp_e h
  obtain ⟨k13, h⟩ := nd_fa_e h
  refine va_copyi (sp := 0) (dp := 0) (n := 8192) hx hb (by rw [hml]; exact hl.1.symm) hown (hts (.methodLink RX10 62 arraycopyName) (List.mem_of_getElem? (i := 2) rfl)) (hts (.native arraycopyName) (List.mem_of_getElem? (i := 3) rfl)) (hts (.static arraycopyName) (List.mem_of_getElem? (i := 4) rfl)) (hts (.initialized "java/lang/System") (List.mem_of_getElem? (i := 5) rfl)) hK hP hD hS 16 6 14 5 rfl rfl rfl rfl rfl k12.1 k12.2.1 k12.2.2.1 k12.2.2.2.1 k12.2.2.2.2 k13 (Nat.le_of_ble_eq_true rfl) (by decide +kernel) dX10_become_105 (fun H locs hP hD hS => ?_)
  obtain ⟨s14, es14, h⟩ := nd_let_e h
  have hP : va_P (dC, dI) vwCl (dw_X10m a ac s14) H := by rw [es14]; exact hP
  have hD : va_D A (dw_X10m a ac s14) := by rw [es14]; exact hD
  refine lv_aload_n hx hb dX10_become_108 rfl (lv_at hl 1 rfl) ?_
  refine va_get (D := (dC, dI)) (ci := 11) (v := .ref (a 17)) (C := RX10) (T := TX10) (N := 11) hx hb hts hi_dm_X10_become_X10 hown hK hP 10 rfl rfl 6 (by decide) (hts (.fieldLink RX10 31 "TimeMachine$Things" "names" "[B") (List.mem_of_getElem? (i := 11) rfl)) (fun _ h9 => h9) rfl dX10_become_109 ?_
  refine lv_iconst (v := 0) hx hb dX10_become_112 (by decide) ?_
  refine lv_aload_n hx hb dX10_become_113 rfl (lv_at hl 0 rfl) ?_
  refine va_get (D := (dC, dI)) (ci := 11) (v := .ref (a 7)) (C := RX10) (T := TX10) (N := 11) hx hb hts hi_dm_X10_become_X10 hown hK hP 0 rfl rfl 6 (by decide) (hts (.fieldLink RX10 31 "TimeMachine$Things" "names" "[B") (List.mem_of_getElem? (i := 11) rfl)) (fun _ h9 => h9) rfl dX10_become_114 ?_
  refine lv_iconst (v := 0) hx hb dX10_become_117 (by decide) ?_
  refine lv_aload_n hx hb dX10_become_118 rfl (lv_at hl 0 rfl) ?_
  refine va_get (D := (dC, dI)) (ci := 11) (v := .ref (a 7)) (C := RX10) (T := TX10) (N := 11) hx hb hts hi_dm_X10_become_X10 hown hK hP 0 rfl rfl 6 (by decide) (hts (.fieldLink RX10 31 "TimeMachine$Things" "names" "[B") (List.mem_of_getElem? (i := 11) rfl)) (fun _ h9 => h9) rfl dX10_become_119 ?_
  refine va_alen (v := 256) hx hb hK hP 7 6 rfl rfl (show Int32.ofNat 256 = 256 by decide) dX10_become_122 ?_
  obtain ⟨k15, h⟩ := nd_cp_e h
  obtain ⟨k16, h⟩ := nd_fa_e h
  refine va_copyi (sp := 0) (dp := 0) (n := 256) hx hb (by rw [hml]; exact hl.1.symm) hown (hts (.methodLink RX10 62 arraycopyName) (List.mem_of_getElem? (i := 2) rfl)) (hts (.native arraycopyName) (List.mem_of_getElem? (i := 3) rfl)) (hts (.static arraycopyName) (List.mem_of_getElem? (i := 4) rfl)) (hts (.initialized "java/lang/System") (List.mem_of_getElem? (i := 5) rfl)) hK hP hD hS 17 7 15 6 rfl rfl rfl rfl rfl k15.1 k15.2.1 k15.2.2.1 k15.2.2.2.1 k15.2.2.2.2 k16 (Nat.le_of_ble_eq_true rfl) (by decide +kernel) dX10_become_123 (fun H locs hP hD hS => ?_)
  obtain ⟨s17, es17, h⟩ := nd_let_e h
  have hP : va_P (dC, dI) vwCl (dw_X10m a ac s17) H := by rw [es17]; exact hP
  have hD : va_D A (dw_X10m a ac s17) := by rw [es17]; exact hD
  refine lv_aload_n hx hb dX10_become_126 rfl (lv_at hl 1 rfl) ?_
  refine va_get (D := (dC, dI)) (ci := 11) (v := .ref (a 18)) (C := RX10) (T := TX10) (N := 11) hx hb hts hi_dm_X10_become_X10 hown hK hP 10 rfl rfl 7 (by decide) (hts (.fieldLink RX10 34 "TimeMachine$Things" "typed" "[B") (List.mem_of_getElem? (i := 12) rfl)) (fun _ h9 => h9) rfl dX10_become_127 ?_
  refine lv_iconst (v := 0) hx hb dX10_become_130 (by decide) ?_
  refine lv_aload_n hx hb dX10_become_131 rfl (lv_at hl 0 rfl) ?_
  refine va_get (D := (dC, dI)) (ci := 11) (v := .ref (a 8)) (C := RX10) (T := TX10) (N := 11) hx hb hts hi_dm_X10_become_X10 hown hK hP 0 rfl rfl 7 (by decide) (hts (.fieldLink RX10 34 "TimeMachine$Things" "typed" "[B") (List.mem_of_getElem? (i := 12) rfl)) (fun _ h9 => h9) rfl dX10_become_132 ?_
  refine lv_iconst (v := 0) hx hb dX10_become_135 (by decide) ?_
  refine lv_aload_n hx hb dX10_become_136 rfl (lv_at hl 0 rfl) ?_
  refine va_get (D := (dC, dI)) (ci := 11) (v := .ref (a 8)) (C := RX10) (T := TX10) (N := 11) hx hb hts hi_dm_X10_become_X10 hown hK hP 0 rfl rfl 7 (by decide) (hts (.fieldLink RX10 34 "TimeMachine$Things" "typed" "[B") (List.mem_of_getElem? (i := 12) rfl)) (fun _ h9 => h9) rfl dX10_become_137 ?_
  refine va_alen (v := 512) hx hb hK hP 8 7 rfl rfl (show Int32.ofNat 512 = 512 by decide) dX10_become_140 ?_
  obtain ⟨k18, h⟩ := nd_cp_e h
  obtain ⟨k19, h⟩ := nd_fa_e h
  refine va_copyi (sp := 0) (dp := 0) (n := 512) hx hb (by rw [hml]; exact hl.1.symm) hown (hts (.methodLink RX10 62 arraycopyName) (List.mem_of_getElem? (i := 2) rfl)) (hts (.native arraycopyName) (List.mem_of_getElem? (i := 3) rfl)) (hts (.static arraycopyName) (List.mem_of_getElem? (i := 4) rfl)) (hts (.initialized "java/lang/System") (List.mem_of_getElem? (i := 5) rfl)) hK hP hD hS 18 8 16 7 rfl rfl rfl rfl rfl k18.1 k18.2.1 k18.2.2.1 k18.2.2.2.1 k18.2.2.2.2 k19 (Nat.le_of_ble_eq_true rfl) (by decide +kernel) dX10_become_141 (fun H locs hP hD hS => ?_)
  obtain ⟨s20, es20, h⟩ := nd_let_e h
  have hP : va_P (dC, dI) vwCl (dw_X10m a ac s20) H := by rw [es20]; exact hP
  have hD : va_D A (dw_X10m a ac s20) := by rw [es20]; exact hD
  refine lv_aload_n hx hb dX10_become_144 rfl (lv_at hl 0 rfl) ?_
  refine lv_aload_n hx hb dX10_become_145 rfl (lv_at hl 1 rfl) ?_
  refine va_get (D := (dC, dI)) (ci := 11) (v := .int (sI s20.2.2 0)) (C := RX10) (T := TX10) (N := 11) hx hb hts hi_dm_X10_become_X10 hown hK hP 10 rfl rfl 8 (by decide) (hts (.fieldLink RX10 46 "TimeMachine$Things" "typedBytes" "I") (List.mem_of_getElem? (i := 13) rfl)) (fun _ h9 => h9) rfl dX10_become_146 ?_
  refine va_put (D := (dC, dI)) (ci := 11) (v := .int (sI s20.2.2 0)) (ty := .int) (C := RX10) (T := TX10) (N := 11) hx hb hts hi_dm_X10_become_X10 tyX10 tyX10_ok nmX10 hown hK hP hD hS 0 rfl rfl 8 (by decide) (hts (.fieldLink RX10 46 "TimeMachine$Things" "typedBytes" "I") (List.mem_of_getElem? (i := 13) rfl)) (fun _ h9 => h9) rfl (by decide +kernel) rfl rfl (Nat.le_of_ble_eq_true rfl) dX10_become_149 (fun H locs hP hD hS => ?_)
  obtain ⟨s21, es21, h⟩ := nd_let_e h
  have hP : va_P (dC, dI) vwCl (dw_X10m a ac s21) H := by rw [es21]; exact hP
  have hD : va_D A (dw_X10m a ac s21) := by rw [es21]; exact hD
  refine lv_aload_n hx hb dX10_become_152 rfl (lv_at hl 1 rfl) ?_
  refine va_get (D := (dC, dI)) (ci := 11) (v := .ref (a 19)) (C := RX10) (T := TX10) (N := 11) hx hb hts hi_dm_X10_become_X10 hown hK hP 10 rfl rfl 9 (by decide) (hts (.fieldLink RX10 37 "TimeMachine$Things" "shownBytes" "[B") (List.mem_of_getElem? (i := 14) rfl)) (fun _ h9 => h9) rfl dX10_become_153 ?_
  refine lv_iconst (v := 0) hx hb dX10_become_156 (by decide) ?_
  refine lv_aload_n hx hb dX10_become_157 rfl (lv_at hl 0 rfl) ?_
  refine va_get (D := (dC, dI)) (ci := 11) (v := .ref (a 9)) (C := RX10) (T := TX10) (N := 11) hx hb hts hi_dm_X10_become_X10 hown hK hP 0 rfl rfl 9 (by decide) (hts (.fieldLink RX10 37 "TimeMachine$Things" "shownBytes" "[B") (List.mem_of_getElem? (i := 14) rfl)) (fun _ h9 => h9) rfl dX10_become_158 ?_
  refine lv_iconst (v := 0) hx hb dX10_become_161 (by decide) ?_
  refine lv_aload_n hx hb dX10_become_162 rfl (lv_at hl 0 rfl) ?_
  refine va_get (D := (dC, dI)) (ci := 11) (v := .ref (a 9)) (C := RX10) (T := TX10) (N := 11) hx hb hts hi_dm_X10_become_X10 hown hK hP 0 rfl rfl 9 (by decide) (hts (.fieldLink RX10 37 "TimeMachine$Things" "shownBytes" "[B") (List.mem_of_getElem? (i := 14) rfl)) (fun _ h9 => h9) rfl dX10_become_163 ?_
  refine va_alen (v := 2048) hx hb hK hP 9 8 rfl rfl (show Int32.ofNat 2048 = 2048 by decide) dX10_become_166 ?_
  obtain ⟨k22, h⟩ := nd_cp_e h
  obtain ⟨k23, h⟩ := nd_fa_e h
  refine va_copyi (sp := 0) (dp := 0) (n := 2048) hx hb (by rw [hml]; exact hl.1.symm) hown (hts (.methodLink RX10 62 arraycopyName) (List.mem_of_getElem? (i := 2) rfl)) (hts (.native arraycopyName) (List.mem_of_getElem? (i := 3) rfl)) (hts (.static arraycopyName) (List.mem_of_getElem? (i := 4) rfl)) (hts (.initialized "java/lang/System") (List.mem_of_getElem? (i := 5) rfl)) hK hP hD hS 19 9 17 8 rfl rfl rfl rfl rfl k22.1 k22.2.1 k22.2.2.1 k22.2.2.2.1 k22.2.2.2.2 k23 (Nat.le_of_ble_eq_true rfl) (by decide +kernel) dX10_become_167 (fun H locs hP hD hS => ?_)
  obtain ⟨s24, es24, h⟩ := nd_let_e h
  have hP : va_P (dC, dI) vwCl (dw_X10m a ac s24) H := by rw [es24]; exact hP
  have hD : va_D A (dw_X10m a ac s24) := by rw [es24]; exact hD
  refine lv_aload_n hx hb dX10_become_170 rfl (lv_at hl 0 rfl) ?_
  refine lv_aload_n hx hb dX10_become_171 rfl (lv_at hl 1 rfl) ?_
  refine va_get (D := (dC, dI)) (ci := 11) (v := .long (sL s24.2.2 0)) (C := RX10) (T := TX10) (N := 11) hx hb hts hi_dm_X10_become_X10 hown hK hP 10 rfl rfl 10 (by decide) (hts (.fieldLink RX10 50 "TimeMachine$Things" "shownInAll" "J") (List.mem_of_getElem? (i := 15) rfl)) (fun _ h9 => h9) rfl dX10_become_172 ?_
  refine va_put (D := (dC, dI)) (ci := 11) (v := .long (sL s24.2.2 0)) (ty := .long) (C := RX10) (T := TX10) (N := 11) hx hb hts hi_dm_X10_become_X10 tyX10 tyX10_ok nmX10 hown hK hP hD hS 0 rfl rfl 10 (by decide) (hts (.fieldLink RX10 50 "TimeMachine$Things" "shownInAll" "J") (List.mem_of_getElem? (i := 15) rfl)) (fun _ h9 => h9) rfl (by decide +kernel) rfl rfl (Nat.le_of_ble_eq_true rfl) dX10_become_175 (fun H locs hP hD hS => ?_)
  obtain ⟨s25, es25, h⟩ := nd_let_e h
  have hP : va_P (dC, dI) vwCl (dw_X10m a ac s25) H := by rw [es25]; exact hP
  have hD : va_D A (dw_X10m a ac s25) := by rw [es25]; exact hD
  exact K _ _ _ _ _ dX10_become_178 (Option.some.inj h).symm hP hD hS
set_option maxHeartbeats 40000000 in
set_option maxRecDepth 100000 in
theorem dm_X10_become (l : Launch) (hlt : l.stackTraces = false) (dC : Nat → ClassId) (dI : Nat → Nat → Nat) (a : Nat → Nat) (ac : Nat → ClassId) (n : Nat) (s0 : St × (St) × (St)) {r : St × (St) × (St)} (h : df_X10_become n s0 = some r) (sz : Nat) : Met l yX10_become ow_dm_X10_become ({ frames := 1, cells := 0, slots := 0, locals := 40 }) (va_Pc [.ref (a 0), .ref (a 10)] (fun U => U.heap.size = sz ∧ va_P (dC, dI) vwCl (dw_X10m a ac s0) U.heap ∧ va_K (dC, dI) vwCl (dk_X10m ac) U ∧ va_D (fun _ => True) (dw_X10m a ac s0) ∧ nv_E (va_A (dw_X10m a ac s0) sz) U)) (va_Qv (fun _ => True) (fun (_ : Unit) t => va_P (dC, dI) vwCl (dw_X10m a ac r) t.heap ∧ va_K (dC, dI) vwCl (dk_X10m ac) t ∧ va_D (va_A (dw_X10m a ac s0) sz) (dw_X10m a ac r)) (va_A (dw_X10m a ac s0) sz)) 0 0 (va_A (dw_X10m a ac s0) sz) := by
  refine Met.ofW (cc := cX10_become) (maxL := 2) (ret := none) (by decide) rfl ?_
  intro p e s m args below meth c s₁ B hml hv
  obtain ⟨rfl, hsz, hP, hK, hD0, hN⟩ := hv
  have hx := B.exec
  have hb := B.bytes
  have hr := B.returns
  have hts := atoms_spec (ws := ow_dm_X10_become) B.pre
  have hown : s.vm.findClass RX10 = some m.cls := findClass_of_methodNamed B.named
  have hlocks := B.notSynchronized
  subst hsz
  have hD := hD0.self (sz := s.heap.size)
  generalize hAe : va_A (dw_X10m a ac s0) s.heap.size = A at hD hN ⊢
  have hA : ∀ q : Nat, s.heap.size ≤ q → A q := fun q h => by rw [← hAe]; exact Or.inr h
  have hl := lv_entry ([.ref (a 0), .ref (a 10)]) (n := 2) (Nat.le_of_ble_eq_true rfl)
  rw [lg_entry_eq]
  generalize (lg_sl ([.ref (a 0), .ref (a 10)]) ++ List.replicate (2 - (lg_sl ([.ref (a 0), .ref (a 10)])).length) Slot.unset).toArray = ls at hl ⊢
  have hl : lv_has ls 2 [(0, .ref (a 0)), (1, .ref (a 10))] := hl
  exact db_X10_become_0 (dC := dC) (dI := dI) (a := a) (ac := ac) (n := n) (r := r) ⟨hlt, hx, hb, hml, hown, hts, hN, hA, hK⟩ (fun pc τ H locs ls d er hP hD hS => by subst er; exact W.vret hx hb hr (fun t ht hW => ⟨⟨(), rfl, trivial, by rw [ht]; exact hP, va_K.moved hW.alike hK, hD⟩, hS.F ht⟩) hS.2.2 d) s0 _ _ _ h hP hD va_S.rf (lv_sub hl [0, 1] rfl)
def ow_dm_X10_openingOf : List Cond := .code yX10_openingOf cX10_openingOf 3 (some .int) :: ([.fieldLink RX10 11 "TimeMachine$Things" "link" "[I"] ++ (u_ws RX10 TX10 11 ++ []))
theorem gd_dm_X10_openingOf : ∀ w ∈ ow_dm_X10_openingOf, (w.onTables && w.keeps) = true ∨ ∃ ty, w = Cond.arrayClass ty := List.forall_mem_cons.mpr ⟨good_of_word rfl, List.forall_mem_append.mpr ⟨fun w h => good_of_word (List.all_eq_true.mp (by decide +kernel) w h), List.forall_mem_append.mpr ⟨gu_X10, fun _ h => nomatch h⟩⟩⟩
theorem hi_dm_X10_openingOf_X10 : ∀ w ∈ u_ws RX10 TX10 11, w ∈ ow_dm_X10_openingOf := fun w h => List.mem_cons_of_mem _ (List.mem_append_right _ (List.mem_append_left _ h))
def dj_X10_openingOf_27 (p : Program) (l : Launch) (e : Env) (s : State) (m : MethodId) (args : Array Value) (below : List Frame) (meth : Method) (c : Code) (Q : State → Prop) (A : Nat → Prop) (dC : Nat → ClassId) (dI : Nat → Nat → Nat) (a : Nat → Nat) (ac : Nat → ClassId) (g : Int32 → (St) → Option (Int32 × (St))) (r : Int32 × (St)) : Prop := ∀ (y0 : Int32) (s0 : St) (H : Heap) (locs : List Loc) (ls : Array Slot), g y0 s0 = some r → va_P (dC, dI) vwCl (dw_X10 a ac s0) H → va_D A (dw_X10 a ac s0) → va_S A s.heap H locs → lv_has ls 3 [] → W p l e (headSpec ow_dm_X10_openingOf ({ frames := 0, cells := 0, slots := 0, locals := 0 })).room s m args below meth c H locs 0 0 Q (F0 m 27 ls [.int y0])
def dj_X10_openingOf_10 (p : Program) (l : Launch) (e : Env) (s : State) (m : MethodId) (args : Array Value) (below : List Frame) (meth : Method) (c : Code) (Q : State → Prop) (A : Nat → Prop) (dC : Nat → ClassId) (dI : Nat → Nat → Nat) (a : Nat → Nat) (ac : Nat → ClassId) (g : (St) → Option (Int32 × (St))) (r : Int32 × (St)) : Prop := ∀ (s0 : St) (H : Heap) (locs : List Loc) (ls : Array Slot), g s0 = some r → va_P (dC, dI) vwCl (dw_X10 a ac s0) H → va_D A (dw_X10 a ac s0) → va_S A s.heap H locs → lv_has ls 3 [] → W p l e (headSpec ow_dm_X10_openingOf ({ frames := 0, cells := 0, slots := 0, locals := 0 })).room s m args below meth c H locs 0 0 Q (F0 m 10 ls [])
def dj_X10_openingOf_0 (p : Program) (l : Launch) (e : Env) (s : State) (m : MethodId) (args : Array Value) (below : List Frame) (meth : Method) (c : Code) (Q : State → Prop) (A : Nat → Prop) (dC : Nat → ClassId) (dI : Nat → Nat → Nat) (a : Nat → Nat) (ac : Nat → ClassId) (g : Int32 → Int32 → (St) → Option (Int32 × (St))) (r : Int32 × (St)) : Prop := ∀ (v0 : Int32) (v1 : Int32) (s0 : St) (H : Heap) (locs : List Loc) (ls : Array Slot), g v0 v1 s0 = some r → va_P (dC, dI) vwCl (dw_X10 a ac s0) H → va_D A (dw_X10 a ac s0) → va_S A s.heap H locs → lv_has ls 3 [(0, .ref (a 0)), (1, .int v0), (2, .int v1)] → W p l e (headSpec ow_dm_X10_openingOf ({ frames := 0, cells := 0, slots := 0, locals := 0 })).room s m args below meth c H locs 0 0 Q (F0 m 0 ls [])
set_option maxHeartbeats 40000000 in
set_option maxRecDepth 100000 in
theorem db_X10_openingOf_27 {p : Program} {l : Launch} {e : Env} {s : State} {m : MethodId} {args : Array Value} {below : List Frame} {meth : Method} {c : Code} {Q : State → Prop} {A : Nat → Prop} {dC : Nat → ClassId} {dI : Nat → Nat → Nat} {a : Nat → Nat} {ac : Nat → ClassId} {n : Nat} {r : Int32 × (St)} (C : nd_C p l s m args c A (dC, dI) cX10_openingOf 3 RX10 ow_dm_X10_openingOf (dk_X10 ac)) (K : nd_Ki p l e (headSpec ow_dm_X10_openingOf ({ frames := 0, cells := 0, slots := 0, locals := 0 })).room s m args below meth c Q A (dC, dI) cX10_openingOf .int (St) (dw_X10 a ac) r) : dj_X10_openingOf_27 p l e s m args below meth c Q A dC dI a ac (df_X10_openingOf_27 n) r := by
  obtain ⟨hlt, hx, hb, hml, hown, hts, hN, hA, hK⟩ := id C
  intro y0 s0 H locs ls h hP hD hS hl
  unfold df_X10_openingOf_27 at h
  exact K _ _ _ _ _ _ dX10_openingOf_27 rfl (Option.some.inj h).symm hP hD hS
set_option maxHeartbeats 40000000 in
set_option maxRecDepth 100000 in
theorem db_X10_openingOf_10 {p : Program} {l : Launch} {e : Env} {s : State} {m : MethodId} {args : Array Value} {below : List Frame} {meth : Method} {c : Code} {Q : State → Prop} {A : Nat → Prop} {dC : Nat → ClassId} {dI : Nat → Nat → Nat} {a : Nat → Nat} {ac : Nat → ClassId} {n : Nat} {r : Int32 × (St)} (C : nd_C p l s m args c A (dC, dI) cX10_openingOf 3 RX10 ow_dm_X10_openingOf (dk_X10 ac)) (K : nd_Ki p l e (headSpec ow_dm_X10_openingOf ({ frames := 0, cells := 0, slots := 0, locals := 0 })).room s m args below meth c Q A (dC, dI) cX10_openingOf .int (St) (dw_X10 a ac) r) : dj_X10_openingOf_10 p l e s m args below meth c Q A dC dI a ac (df_X10_openingOf_10 n) r := by
  obtain ⟨hlt, hx, hb, hml, hown, hts, hN, hA, hK⟩ := id C
  intro s0 H locs ls h hP hD hS hl
  unfold df_X10_openingOf_10 at h
  refine lv_iconst (v := (-1)) hx hb dX10_openingOf_10 (by decide) ?_
  refine lv_goto (tgt := 27) hx hb dX10_openingOf_11 (by decide) ?_
  exact (db_X10_openingOf_27 C K) ((-1)) s0 _ _ _ h hP hD hS (lv_sub hl [] rfl)
set_option maxHeartbeats 40000000 in
set_option maxRecDepth 100000 in
theorem db_X10_openingOf_0 {p : Program} {l : Launch} {e : Env} {s : State} {m : MethodId} {args : Array Value} {below : List Frame} {meth : Method} {c : Code} {Q : State → Prop} {A : Nat → Prop} {dC : Nat → ClassId} {dI : Nat → Nat → Nat} {a : Nat → Nat} {ac : Nat → ClassId} {n : Nat} {r : Int32 × (St)} (C : nd_C p l s m args c A (dC, dI) cX10_openingOf 3 RX10 ow_dm_X10_openingOf (dk_X10 ac)) (K : nd_Ki p l e (headSpec ow_dm_X10_openingOf ({ frames := 0, cells := 0, slots := 0, locals := 0 })).room s m args below meth c Q A (dC, dI) cX10_openingOf .int (St) (dw_X10 a ac) r) : dj_X10_openingOf_0 p l e s m args below meth c Q A dC dI a ac (df_X10_openingOf_0 n) r := by
  obtain ⟨hlt, hx, hb, hml, hown, hts, hN, hA, hK⟩ := id C
  intro v0 v1 s0 H locs ls h hP hD hS hl
  unfold df_X10_openingOf_0 at h
  refine lv_iload_n hx hb dX10_openingOf_0 rfl (lv_at hl 2 rfl) ?_
  refine lv_if_lt (tgt := 10) hx hb dX10_openingOf_1 (by decide) (fun c1 => ?_) (fun c1 => ?_)
  · have h := nd_pos h c1
    exact (db_X10_openingOf_10 C K)  s0 _ _ _ h hP hD hS (lv_sub hl [] rfl)
  · have h := nd_neg h c1
    refine lv_iload_n hx hb dX10_openingOf_4 rfl (lv_at hl 2 rfl) ?_
    refine lv_bipush (v := 16) hx hb dX10_openingOf_5 (by decide) ?_
    refine lv_icmp_lt (tgt := 14) hx hb dX10_openingOf_7 (by decide) (fun c2 => ?_) (fun c2 => ?_)
    · have h := nd_pos h c2
      refine lv_aload_n hx hb dX10_openingOf_14 rfl (lv_at hl 0 rfl) ?_
      refine va_get (D := (dC, dI)) (ci := 11) (v := .ref (a 1)) (C := RX10) (T := TX10) (N := 11) hx hb hts hi_dm_X10_openingOf_X10 hown hK hP 0 rfl rfl 0 (by decide) (hts (.fieldLink RX10 11 "TimeMachine$Things" "link" "[I") (List.mem_of_getElem? (i := 1) rfl)) (fun _ h9 => h9) rfl dX10_openingOf_15 ?_
      refine lv_iload_n hx hb dX10_openingOf_18 rfl (lv_at hl 1 rfl) ?_
      refine lv_bipush (v := 16) hx hb dX10_openingOf_19 (by decide) ?_
      refine lv_imul hx hb dX10_openingOf_21 ?_
      refine lv_iload_n hx hb dX10_openingOf_22 rfl (lv_at hl 2 rfl) ?_
      refine lv_iadd hx hb dX10_openingOf_23 ?_
      obtain ⟨i3, h⟩ := nd_ck_e h
      refine va_iald (i := ((v0 * 16) + v1)) hx hb hK hP 1 0 rfl rfl i3 dX10_openingOf_24 ?_
      refine lv_iconst (v := 1) hx hb dX10_openingOf_25 (by decide) ?_
      refine lv_isub hx hb dX10_openingOf_26 ?_
      exact (db_X10_openingOf_27 C K) (((sR s0 0 (Int32.toNatClampNeg ((v0 * 16) + v1))) - 1)) s0 _ _ _ h hP hD hS (lv_sub hl [] rfl)
    · have h := nd_neg h c2
      exact (db_X10_openingOf_10 C K)  s0 _ _ _ h hP hD hS (lv_sub hl [] rfl)
set_option maxHeartbeats 40000000 in
set_option maxRecDepth 100000 in
theorem dm_X10_openingOf (l : Launch) (hlt : l.stackTraces = false) (dC : Nat → ClassId) (dI : Nat → Nat → Nat) (a : Nat → Nat) (ac : Nat → ClassId) (n : Nat) (v0 : Int32) (v1 : Int32) (s0 : St) {r : Int32 × (St)} (h : df_X10_openingOf n v0 v1 s0 = some r) (sz : Nat) : Met l yX10_openingOf ow_dm_X10_openingOf ({ frames := 0, cells := 0, slots := 0, locals := 0 }) (va_Pc [.ref (a 0), .int v0, .int v1] (fun U => U.heap.size = sz ∧ va_P (dC, dI) vwCl (dw_X10 a ac s0) U.heap ∧ va_K (dC, dI) vwCl (dk_X10 ac) U ∧ va_D (fun _ => True) (dw_X10 a ac s0) ∧ nv_E (va_A (dw_X10 a ac s0) sz) U)) (va_Qi (fun x _ => x = r.1) (fun (_ : Unit) t => va_P (dC, dI) vwCl (dw_X10 a ac r.2) t.heap ∧ va_K (dC, dI) vwCl (dk_X10 ac) t ∧ va_D (va_A (dw_X10 a ac s0) sz) (dw_X10 a ac r.2)) (va_A (dw_X10 a ac s0) sz)) 0 0 (va_A (dw_X10 a ac s0) sz) := by
  refine Met.ofW (cc := cX10_openingOf) (maxL := 3) (ret := (some .int)) (by decide) rfl ?_
  intro p e s m args below meth c s₁ B hml hv
  obtain ⟨rfl, hsz, hP, hK, hD0, hN⟩ := hv
  have hx := B.exec
  have hb := B.bytes
  have hr := B.returns
  have hts := atoms_spec (ws := ow_dm_X10_openingOf) B.pre
  have hown : s.vm.findClass RX10 = some m.cls := findClass_of_methodNamed B.named
  have hlocks := B.notSynchronized
  subst hsz
  have hD := hD0.self (sz := s.heap.size)
  generalize hAe : va_A (dw_X10 a ac s0) s.heap.size = A at hD hN ⊢
  have hA : ∀ q : Nat, s.heap.size ≤ q → A q := fun q h => by rw [← hAe]; exact Or.inr h
  have hl := lv_entry ([.ref (a 0), .int v0, .int v1]) (n := 3) (Nat.le_of_ble_eq_true rfl)
  rw [lg_entry_eq]
  generalize (lg_sl ([.ref (a 0), .int v0, .int v1]) ++ List.replicate (3 - (lg_sl ([.ref (a 0), .int v0, .int v1])).length) Slot.unset).toArray = ls at hl ⊢
  have hl : lv_has ls 3 [(0, .ref (a 0)), (1, .int v0), (2, .int v1)] := hl
  exact db_X10_openingOf_0 (dC := dC) (dI := dI) (a := a) (ac := ac) (n := n) (r := r) ⟨hlt, hx, hb, hml, hown, hts, hN, hA, hK⟩ (fun pc v τ H locs ls d z er hP hD hS => by subst er; exact W.zret (v := v) hx hb hr z (fun t ht hW => ⟨⟨v, (), rfl, rfl, by rw [ht]; exact hP, va_K.moved hW.alike hK, hD⟩, hS.F ht⟩) hS.2.2 d) v0 v1 s0 _ _ _ h hP hD va_S.rf (lv_sub hl [0, 1, 2] rfl)
def ow_dm_X10_of : List Cond := .code yX10_of cX10_of 3 (some .int) :: ([.fieldLink RX10 15 "TimeMachine$Things" "opening" "[I"] ++ (u_ws RX10 TX10 11 ++ []))
theorem gd_dm_X10_of : ∀ w ∈ ow_dm_X10_of, (w.onTables && w.keeps) = true ∨ ∃ ty, w = Cond.arrayClass ty := List.forall_mem_cons.mpr ⟨good_of_word rfl, List.forall_mem_append.mpr ⟨fun w h => good_of_word (List.all_eq_true.mp (by decide +kernel) w h), List.forall_mem_append.mpr ⟨gu_X10, fun _ h => nomatch h⟩⟩⟩
theorem hi_dm_X10_of_X10 : ∀ w ∈ u_ws RX10 TX10 11, w ∈ ow_dm_X10_of := fun w h => List.mem_cons_of_mem _ (List.mem_append_right _ (List.mem_append_left _ h))
def dj_X10_of_0 (p : Program) (l : Launch) (e : Env) (s : State) (m : MethodId) (args : Array Value) (below : List Frame) (meth : Method) (c : Code) (Q : State → Prop) (A : Nat → Prop) (dC : Nat → ClassId) (dI : Nat → Nat → Nat) (a : Nat → Nat) (ac : Nat → ClassId) (g : Int32 → Int32 → (St) → Option (Int32 × (St))) (r : Int32 × (St)) : Prop := ∀ (v0 : Int32) (v1 : Int32) (s0 : St) (H : Heap) (locs : List Loc) (ls : Array Slot), g v0 v1 s0 = some r → va_P (dC, dI) vwCl (dw_X10 a ac s0) H → va_D A (dw_X10 a ac s0) → va_S A s.heap H locs → lv_has ls 3 [(0, .ref (a 0)), (1, .int v0), (2, .int v1)] → W p l e (headSpec ow_dm_X10_of ({ frames := 0, cells := 0, slots := 0, locals := 0 })).room s m args below meth c H locs 0 0 Q (F0 m 0 ls [])
set_option maxHeartbeats 40000000 in
set_option maxRecDepth 100000 in
theorem db_X10_of_0 {p : Program} {l : Launch} {e : Env} {s : State} {m : MethodId} {args : Array Value} {below : List Frame} {meth : Method} {c : Code} {Q : State → Prop} {A : Nat → Prop} {dC : Nat → ClassId} {dI : Nat → Nat → Nat} {a : Nat → Nat} {ac : Nat → ClassId} {n : Nat} {r : Int32 × (St)} (C : nd_C p l s m args c A (dC, dI) cX10_of 3 RX10 ow_dm_X10_of (dk_X10 ac)) (K : nd_Ki p l e (headSpec ow_dm_X10_of ({ frames := 0, cells := 0, slots := 0, locals := 0 })).room s m args below meth c Q A (dC, dI) cX10_of .int (St) (dw_X10 a ac) r) : dj_X10_of_0 p l e s m args below meth c Q A dC dI a ac (df_X10_of_0 n) r := by
  obtain ⟨hlt, hx, hb, hml, hown, hts, hN, hA, hK⟩ := id C
  intro v0 v1 s0 H locs ls h hP hD hS hl
  unfold df_X10_of_0 at h
  refine lv_aload_n hx hb dX10_of_0 rfl (lv_at hl 0 rfl) ?_
  refine va_get (D := (dC, dI)) (ci := 11) (v := .ref (a 2)) (C := RX10) (T := TX10) (N := 11) hx hb hts hi_dm_X10_of_X10 hown hK hP 0 rfl rfl 1 (by decide) (hts (.fieldLink RX10 15 "TimeMachine$Things" "opening" "[I") (List.mem_of_getElem? (i := 1) rfl)) (fun _ h9 => h9) rfl dX10_of_1 ?_
  refine lv_iload_n hx hb dX10_of_4 rfl (lv_at hl 1 rfl) ?_
  refine lv_iconst (v := 5) hx hb dX10_of_5 (by decide) ?_
  refine lv_imul hx hb dX10_of_6 ?_
  refine lv_iload_n hx hb dX10_of_7 rfl (lv_at hl 2 rfl) ?_
  refine lv_iadd hx hb dX10_of_8 ?_
  obtain ⟨i1, h⟩ := nd_ck_e h
  refine va_iald (i := ((v0 * 5) + v1)) hx hb hK hP 2 1 rfl rfl i1 dX10_of_9 ?_
  exact K _ _ _ _ _ _ dX10_of_10 rfl (Option.some.inj h).symm hP hD hS
set_option maxHeartbeats 40000000 in
set_option maxRecDepth 100000 in
theorem dm_X10_of (l : Launch) (hlt : l.stackTraces = false) (dC : Nat → ClassId) (dI : Nat → Nat → Nat) (a : Nat → Nat) (ac : Nat → ClassId) (n : Nat) (v0 : Int32) (v1 : Int32) (s0 : St) {r : Int32 × (St)} (h : df_X10_of n v0 v1 s0 = some r) (sz : Nat) : Met l yX10_of ow_dm_X10_of ({ frames := 0, cells := 0, slots := 0, locals := 0 }) (va_Pc [.ref (a 0), .int v0, .int v1] (fun U => U.heap.size = sz ∧ va_P (dC, dI) vwCl (dw_X10 a ac s0) U.heap ∧ va_K (dC, dI) vwCl (dk_X10 ac) U ∧ va_D (fun _ => True) (dw_X10 a ac s0) ∧ nv_E (va_A (dw_X10 a ac s0) sz) U)) (va_Qi (fun x _ => x = r.1) (fun (_ : Unit) t => va_P (dC, dI) vwCl (dw_X10 a ac r.2) t.heap ∧ va_K (dC, dI) vwCl (dk_X10 ac) t ∧ va_D (va_A (dw_X10 a ac s0) sz) (dw_X10 a ac r.2)) (va_A (dw_X10 a ac s0) sz)) 0 0 (va_A (dw_X10 a ac s0) sz) := by
  refine Met.ofW (cc := cX10_of) (maxL := 3) (ret := (some .int)) (by decide) rfl ?_
  intro p e s m args below meth c s₁ B hml hv
  obtain ⟨rfl, hsz, hP, hK, hD0, hN⟩ := hv
  have hx := B.exec
  have hb := B.bytes
  have hr := B.returns
  have hts := atoms_spec (ws := ow_dm_X10_of) B.pre
  have hown : s.vm.findClass RX10 = some m.cls := findClass_of_methodNamed B.named
  have hlocks := B.notSynchronized
  subst hsz
  have hD := hD0.self (sz := s.heap.size)
  generalize hAe : va_A (dw_X10 a ac s0) s.heap.size = A at hD hN ⊢
  have hA : ∀ q : Nat, s.heap.size ≤ q → A q := fun q h => by rw [← hAe]; exact Or.inr h
  have hl := lv_entry ([.ref (a 0), .int v0, .int v1]) (n := 3) (Nat.le_of_ble_eq_true rfl)
  rw [lg_entry_eq]
  generalize (lg_sl ([.ref (a 0), .int v0, .int v1]) ++ List.replicate (3 - (lg_sl ([.ref (a 0), .int v0, .int v1])).length) Slot.unset).toArray = ls at hl ⊢
  have hl : lv_has ls 3 [(0, .ref (a 0)), (1, .int v0), (2, .int v1)] := hl
  exact db_X10_of_0 (dC := dC) (dI := dI) (a := a) (ac := ac) (n := n) (r := r) ⟨hlt, hx, hb, hml, hown, hts, hN, hA, hK⟩ (fun pc v τ H locs ls d z er hP hD hS => by subst er; exact W.zret (v := v) hx hb hr z (fun t ht hW => ⟨⟨v, (), rfl, rfl, by rw [ht]; exact hP, va_K.moved hW.alike hK, hD⟩, hS.F ht⟩) hS.2.2 d) v0 v1 s0 _ _ _ h hP hD va_S.rf (lv_sub hl [0, 1, 2] rfl)
def ow_dm_X10_freeLink : List Cond := .code yX10_freeLink cX10_freeLink 4 (some .int) :: ([.methodLink RX10 68 Lib.Math.max.name, .static Lib.Math.max.name, .initialized "java/lang/Math", .code Lib.Math.max.name Lib.Math.max.code 2 (some .int), .fieldLink RX10 11 "TimeMachine$Things" "link" "[I"] ++ (u_ws RX10 TX10 11 ++ []))
theorem gd_dm_X10_freeLink : ∀ w ∈ ow_dm_X10_freeLink, (w.onTables && w.keeps) = true ∨ ∃ ty, w = Cond.arrayClass ty := List.forall_mem_cons.mpr ⟨good_of_word rfl, List.forall_mem_append.mpr ⟨fun w h => good_of_word (List.all_eq_true.mp (by decide +kernel) w h), List.forall_mem_append.mpr ⟨gu_X10, fun _ h => nomatch h⟩⟩⟩
theorem hi_dm_X10_freeLink_X10 : ∀ w ∈ u_ws RX10 TX10 11, w ∈ ow_dm_X10_freeLink := fun w h => List.mem_cons_of_mem _ (List.mem_append_right _ (List.mem_append_left _ h))
def dj_X10_freeLink_6 (p : Program) (l : Launch) (e : Env) (s : State) (m : MethodId) (args : Array Value) (below : List Frame) (meth : Method) (c : Code) (Q : State → Prop) (A : Nat → Prop) (dC : Nat → ClassId) (dI : Nat → Nat → Nat) (a : Nat → Nat) (ac : Nat → ClassId) (g : Int32 → Int32 → (St) → Option (Int32 × (St))) (r : Int32 × (St)) : Prop := ∀ (x1 : Int32) (x3 : Int32) (s0 : St) (H : Heap) (locs : List Loc) (ls : Array Slot), g x1 x3 s0 = some r → va_P (dC, dI) vwCl (dw_X10 a ac s0) H → va_D A (dw_X10 a ac s0) → va_S A s.heap H locs → lv_has ls 4 [(0, .ref (a 0)), (1, .int x1), (3, .int x3)] → W p l e (headSpec ow_dm_X10_freeLink ({ frames := 1, cells := 0, slots := 0, locals := 13 })).room s m args below meth c H locs 0 0 Q (F0 m 6 ls [])
def dj_X10_freeLink_0 (p : Program) (l : Launch) (e : Env) (s : State) (m : MethodId) (args : Array Value) (below : List Frame) (meth : Method) (c : Code) (Q : State → Prop) (A : Nat → Prop) (dC : Nat → ClassId) (dI : Nat → Nat → Nat) (a : Nat → Nat) (ac : Nat → ClassId) (g : Int32 → Int32 → (St) → Option (Int32 × (St))) (r : Int32 × (St)) : Prop := ∀ (v0 : Int32) (v1 : Int32) (s0 : St) (H : Heap) (locs : List Loc) (ls : Array Slot), g v0 v1 s0 = some r → va_P (dC, dI) vwCl (dw_X10 a ac s0) H → va_D A (dw_X10 a ac s0) → va_S A s.heap H locs → lv_has ls 4 [(0, .ref (a 0)), (1, .int v0), (2, .int v1)] → W p l e (headSpec ow_dm_X10_freeLink ({ frames := 1, cells := 0, slots := 0, locals := 13 })).room s m args below meth c H locs 0 0 Q (F0 m 0 ls [])
set_option maxHeartbeats 40000000 in
set_option maxRecDepth 100000 in
theorem dB_X10_freeLink_6 {p : Program} {l : Launch} {e : Env} {s : State} {m : MethodId} {args : Array Value} {below : List Frame} {meth : Method} {c : Code} {Q : State → Prop} {A : Nat → Prop} {dC : Nat → ClassId} {dI : Nat → Nat → Nat} {a : Nat → Nat} {ac : Nat → ClassId} {n : Nat} {r : Int32 × (St)} (C : nd_C p l s m args c A (dC, dI) cX10_freeLink 4 RX10 ow_dm_X10_freeLink (dk_X10 ac)) (K : nd_Ki p l e (headSpec ow_dm_X10_freeLink ({ frames := 1, cells := 0, slots := 0, locals := 13 })).room s m args below meth c Q A (dC, dI) cX10_freeLink .int (St) (dw_X10 a ac) r) {g6 : Int32 → Int32 → (St) → Option (Int32 × (St))} (J6 : dj_X10_freeLink_6 p l e s m args below meth c Q A dC dI a ac g6 r) : dj_X10_freeLink_6 p l e s m args below meth c Q A dC dI a ac (dF_X10_freeLink_6 n g6) r := by
  obtain ⟨hlt, hx, hb, hml, hown, hts, hN, hA, hK⟩ := id C
  intro x1 x3 s0 H locs ls h hP hD hS hl
  unfold dF_X10_freeLink_6 at h
  refine lv_iload_n hx hb dX10_freeLink_6 rfl (lv_at hl 2 rfl) ?_
  refine lv_bipush (v := 16) hx hb dX10_freeLink_7 (by decide) ?_
  refine lv_icmp_ge (tgt := 34) hx hb dX10_freeLink_9 (by decide) (fun c2 => ?_) (fun c2 => ?_)
  · have h := nd_pos h c2
    refine lv_iconst (v := (-1)) hx hb dX10_freeLink_34 (by decide) ?_
    exact K _ _ _ _ _ _ dX10_freeLink_35 rfl (Option.some.inj h).symm hP hD hS
  · have h := nd_neg h c2
    refine lv_aload_n hx hb dX10_freeLink_12 rfl (lv_at hl 0 rfl) ?_
    refine va_get (D := (dC, dI)) (ci := 11) (v := .ref (a 1)) (C := RX10) (T := TX10) (N := 11) hx hb hts hi_dm_X10_freeLink_X10 hown hK hP 0 rfl rfl 0 (by decide) (hts (.fieldLink RX10 11 "TimeMachine$Things" "link" "[I") (List.mem_of_getElem? (i := 5) rfl)) (fun _ h9 => h9) rfl dX10_freeLink_13 ?_
    refine lv_iload_n hx hb dX10_freeLink_16 rfl (lv_at hl 1 rfl) ?_
    refine lv_bipush (v := 16) hx hb dX10_freeLink_17 (by decide) ?_
    refine lv_imul hx hb dX10_freeLink_19 ?_
    refine lv_iload_n hx hb dX10_freeLink_20 rfl (lv_at hl 2 rfl) ?_
    refine lv_iadd hx hb dX10_freeLink_21 ?_
    obtain ⟨i3, h⟩ := nd_ck_e h
    refine va_iald (i := ((x1 * 16) + x3)) hx hb hK hP 1 0 rfl rfl i3 dX10_freeLink_22 ?_
    refine lv_if_ne (tgt := 28) hx hb dX10_freeLink_23 (by decide) (fun c4 => ?_) (fun c4 => ?_)
    · have h := nd_neg h c4
      obtain ⟨z5, ez5, h⟩ := nd_let_e h
      refine lv_iinc (v := z5) (lv' := [(3, .int z5), (0, .ref (a 0)), (1, .int x1)]) hx hb dX10_freeLink_28 hl (k := 2) rfl (by rw [ez5]) (by decide) rfl (fun ls hl => ?_)
      refine lv_goto (tgt := 6) hx hb dX10_freeLink_31 (by decide) ?_
      exact (J6) (x1) (z5) s0 _ _ _ h hP hD hS (lv_sub hl [1, 2, 0] rfl)
    · have h := nd_pos h c4
      refine lv_iload_n hx hb dX10_freeLink_26 rfl (lv_at hl 2 rfl) ?_
      exact K _ _ _ _ _ _ dX10_freeLink_27 rfl (Option.some.inj h).symm hP hD hS
set_option maxHeartbeats 40000000 in
set_option maxRecDepth 100000 in
theorem db_X10_freeLink_6 {p : Program} {l : Launch} {e : Env} {s : State} {m : MethodId} {args : Array Value} {below : List Frame} {meth : Method} {c : Code} {Q : State → Prop} {A : Nat → Prop} {dC : Nat → ClassId} {dI : Nat → Nat → Nat} {a : Nat → Nat} {ac : Nat → ClassId} {n : Nat} {r : Int32 × (St)} (C : nd_C p l s m args c A (dC, dI) cX10_freeLink 4 RX10 ow_dm_X10_freeLink (dk_X10 ac)) (K : nd_Ki p l e (headSpec ow_dm_X10_freeLink ({ frames := 1, cells := 0, slots := 0, locals := 13 })).room s m args below meth c Q A (dC, dI) cX10_freeLink .int (St) (dw_X10 a ac) r) (k : Nat) : dj_X10_freeLink_6 p l e s m args below meth c Q A dC dI a ac (df_X10_freeLink_6 n k) r := by
  induction k with
  | zero => intro x1 x3 s0 H locs ls h; exact nomatch (show (none : Option (Int32 × (St))) = some r from h)
  | succ k ih => exact dB_X10_freeLink_6 C K ih
set_option maxHeartbeats 40000000 in
set_option maxRecDepth 100000 in
theorem db_X10_freeLink_0 {p : Program} {l : Launch} {e : Env} {s : State} {m : MethodId} {args : Array Value} {below : List Frame} {meth : Method} {c : Code} {Q : State → Prop} {A : Nat → Prop} {dC : Nat → ClassId} {dI : Nat → Nat → Nat} {a : Nat → Nat} {ac : Nat → ClassId} {n : Nat} {r : Int32 × (St)} (C : nd_C p l s m args c A (dC, dI) cX10_freeLink 4 RX10 ow_dm_X10_freeLink (dk_X10 ac)) (K : nd_Ki p l e (headSpec ow_dm_X10_freeLink ({ frames := 1, cells := 0, slots := 0, locals := 13 })).room s m args below meth c Q A (dC, dI) cX10_freeLink .int (St) (dw_X10 a ac) r) : dj_X10_freeLink_0 p l e s m args below meth c Q A dC dI a ac (df_X10_freeLink_0 n) r := by
  obtain ⟨hlt, hx, hb, hml, hown, hts, hN, hA, hK⟩ := id C
  intro v0 v1 s0 H locs ls h hP hD hS hl
  unfold df_X10_freeLink_0 at h
  refine lv_iconst (v := 0) hx hb dX10_freeLink_0 (by decide) ?_
  refine lv_iload_n hx hb dX10_freeLink_1 rfl (lv_at hl 2 rfl) ?_
  refine va_mmax hx hb (by rw [hml]; exact hl.1.symm) hown (hts (.methodLink RX10 68 Lib.Math.max.name) (List.mem_of_getElem? (i := 1) rfl)) (hts (.static Lib.Math.max.name) (List.mem_of_getElem? (i := 2) rfl)) (hts (.initialized "java/lang/Math") (List.mem_of_getElem? (i := 3) rfl)) (hts (.code Lib.Math.max.name Lib.Math.max.code 2 (some .int)) (List.mem_of_getElem? (i := 4) rfl)) (Nat.le_of_ble_eq_true rfl) (Nat.le_of_ble_eq_true rfl) (by decide +kernel) (by decide +kernel) dX10_freeLink_2 ?_
  refine lv_topi (fun z1 ez1 => ?_)
  have h := nd_at h ez1
  refine lv_istore_n (lv' := [(3, .int z1), (0, .ref (a 0)), (1, .int v0), (2, .int v1)]) hx hb dX10_freeLink_5 rfl hl (by decide) rfl (fun ls hl => ?_)
  exact (db_X10_freeLink_6 C K n) (v0) (z1) s0 _ _ _ h hP hD hS (lv_sub hl [1, 2, 0] rfl)
set_option maxHeartbeats 40000000 in
set_option maxRecDepth 100000 in
theorem dm_X10_freeLink (l : Launch) (hlt : l.stackTraces = false) (dC : Nat → ClassId) (dI : Nat → Nat → Nat) (a : Nat → Nat) (ac : Nat → ClassId) (n : Nat) (v0 : Int32) (v1 : Int32) (s0 : St) {r : Int32 × (St)} (h : df_X10_freeLink n v0 v1 s0 = some r) (sz : Nat) : Met l yX10_freeLink ow_dm_X10_freeLink ({ frames := 1, cells := 0, slots := 0, locals := 13 }) (va_Pc [.ref (a 0), .int v0, .int v1] (fun U => U.heap.size = sz ∧ va_P (dC, dI) vwCl (dw_X10 a ac s0) U.heap ∧ va_K (dC, dI) vwCl (dk_X10 ac) U ∧ va_D (fun _ => True) (dw_X10 a ac s0) ∧ nv_E (va_A (dw_X10 a ac s0) sz) U)) (va_Qi (fun x _ => x = r.1) (fun (_ : Unit) t => va_P (dC, dI) vwCl (dw_X10 a ac r.2) t.heap ∧ va_K (dC, dI) vwCl (dk_X10 ac) t ∧ va_D (va_A (dw_X10 a ac s0) sz) (dw_X10 a ac r.2)) (va_A (dw_X10 a ac s0) sz)) 0 0 (va_A (dw_X10 a ac s0) sz) := by
  refine Met.ofW (cc := cX10_freeLink) (maxL := 4) (ret := (some .int)) (by decide) rfl ?_
  intro p e s m args below meth c s₁ B hml hv
  obtain ⟨rfl, hsz, hP, hK, hD0, hN⟩ := hv
  have hx := B.exec
  have hb := B.bytes
  have hr := B.returns
  have hts := atoms_spec (ws := ow_dm_X10_freeLink) B.pre
  have hown : s.vm.findClass RX10 = some m.cls := findClass_of_methodNamed B.named
  have hlocks := B.notSynchronized
  subst hsz
  have hD := hD0.self (sz := s.heap.size)
  generalize hAe : va_A (dw_X10 a ac s0) s.heap.size = A at hD hN ⊢
  have hA : ∀ q : Nat, s.heap.size ≤ q → A q := fun q h => by rw [← hAe]; exact Or.inr h
  have hl := lv_entry ([.ref (a 0), .int v0, .int v1]) (n := 4) (Nat.le_of_ble_eq_true rfl)
  rw [lg_entry_eq]
  generalize (lg_sl ([.ref (a 0), .int v0, .int v1]) ++ List.replicate (4 - (lg_sl ([.ref (a 0), .int v0, .int v1])).length) Slot.unset).toArray = ls at hl ⊢
  have hl : lv_has ls 4 [(0, .ref (a 0)), (1, .int v0), (2, .int v1)] := hl
  exact db_X10_freeLink_0 (dC := dC) (dI := dI) (a := a) (ac := ac) (n := n) (r := r) ⟨hlt, hx, hb, hml, hown, hts, hN, hA, hK⟩ (fun pc v τ H locs ls d z er hP hD hS => by subst er; exact W.zret (v := v) hx hb hr z (fun t ht hW => ⟨⟨v, (), rfl, rfl, by rw [ht]; exact hP, va_K.moved hW.alike hK, hD⟩, hS.F ht⟩) hS.2.2 d) v0 v1 s0 _ _ _ h hP hD va_S.rf (lv_sub hl [0, 1, 2] rfl)
def ow_dm_X10_openingsFree : List Cond := .code yX10_openingsFree cX10_openingsFree 3 (some .int) :: ([.methodLink RX10 74 yX10_of, .instanceMethod yX10_of, .selects RX10 yX10_of yX10_of, .initialized RX10] ++ (ow_dm_X10_of ++ []))
theorem gd_dm_X10_openingsFree : ∀ w ∈ ow_dm_X10_openingsFree, (w.onTables && w.keeps) = true ∨ ∃ ty, w = Cond.arrayClass ty := List.forall_mem_cons.mpr ⟨good_of_word rfl, List.forall_mem_append.mpr ⟨fun w h => good_of_word (List.all_eq_true.mp (by decide +kernel) w h), List.forall_mem_append.mpr ⟨gd_dm_X10_of, fun _ h => nomatch h⟩⟩⟩
theorem gi_dm_X10_openingsFree_0 : GoodIn ow_dm_X10_openingsFree (wsV RX10 74 RX10 yX10_of ow_dm_X10_of) := goodIn_app (goodIn_of _ (by decide +kernel)) (fun w h => ⟨List.mem_cons_of_mem _ (List.mem_append_right _ (List.mem_append_left _ h)), gd_dm_X10_of w h⟩)
def dj_X10_openingsFree_22 (p : Program) (l : Launch) (e : Env) (s : State) (m : MethodId) (args : Array Value) (below : List Frame) (meth : Method) (c : Code) (Q : State → Prop) (A : Nat → Prop) (dC : Nat → ClassId) (dI : Nat → Nat → Nat) (a : Nat → Nat) (ac : Nat → ClassId) (g : Int32 → Int32 → (St) → Option (Int32 × (St))) (r : Int32 × (St)) : Prop := ∀ (x1 : Int32) (x2 : Int32) (s0 : St) (H : Heap) (locs : List Loc) (ls : Array Slot), g x1 x2 s0 = some r → va_P (dC, dI) vwCl (dw_X10 a ac s0) H → va_D A (dw_X10 a ac s0) → va_S A s.heap H locs → lv_has ls 3 [(0, .ref (a 0)), (1, .int x1), (2, .int x2)] → W p l e (headSpec ow_dm_X10_openingsFree ({ frames := 1, cells := 0, slots := 0, locals := 22 })).room s m args below meth c H locs 0 0 Q (F0 m 22 ls [])
def dj_X10_openingsFree_4 (p : Program) (l : Launch) (e : Env) (s : State) (m : MethodId) (args : Array Value) (below : List Frame) (meth : Method) (c : Code) (Q : State → Prop) (A : Nat → Prop) (dC : Nat → ClassId) (dI : Nat → Nat → Nat) (a : Nat → Nat) (ac : Nat → ClassId) (g : Int32 → Int32 → (St) → Option (Int32 × (St))) (r : Int32 × (St)) : Prop := ∀ (x1 : Int32) (x2 : Int32) (s0 : St) (H : Heap) (locs : List Loc) (ls : Array Slot), g x1 x2 s0 = some r → va_P (dC, dI) vwCl (dw_X10 a ac s0) H → va_D A (dw_X10 a ac s0) → va_S A s.heap H locs → lv_has ls 3 [(0, .ref (a 0)), (1, .int x1), (2, .int x2)] → W p l e (headSpec ow_dm_X10_openingsFree ({ frames := 1, cells := 0, slots := 0, locals := 22 })).room s m args below meth c H locs 0 0 Q (F0 m 4 ls [])
def dj_X10_openingsFree_0 (p : Program) (l : Launch) (e : Env) (s : State) (m : MethodId) (args : Array Value) (below : List Frame) (meth : Method) (c : Code) (Q : State → Prop) (A : Nat → Prop) (dC : Nat → ClassId) (dI : Nat → Nat → Nat) (a : Nat → Nat) (ac : Nat → ClassId) (g : (St) → Option (Int32 × (St))) (r : Int32 × (St)) : Prop := ∀ (s0 : St) (H : Heap) (locs : List Loc) (ls : Array Slot), g s0 = some r → va_P (dC, dI) vwCl (dw_X10 a ac s0) H → va_D A (dw_X10 a ac s0) → va_S A s.heap H locs → lv_has ls 3 [(0, .ref (a 0))] → W p l e (headSpec ow_dm_X10_openingsFree ({ frames := 1, cells := 0, slots := 0, locals := 22 })).room s m args below meth c H locs 0 0 Q (F0 m 0 ls [])
