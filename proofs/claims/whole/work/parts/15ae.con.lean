set_option maxHeartbeats 40000000 in
set_option maxRecDepth 100000 in
theorem db_X16_fetches_0 {p : Program} {l : Launch} {e : Env} {s : State} {m : MethodId} {args : Array Value} {below : List Frame} {meth : Method} {c : Code} {Q : State → Prop} {A : Nat → Prop} {dC : Nat → ClassId} {dI : Nat → Nat → Nat} {a : Nat → Nat} {ac : Nat → ClassId} {n : Nat} {r : Int32 × (St × (St))} (C : nd_C p l s m args c A (dC, dI) cX16_fetches 2 RX16 ow_dm_X16_fetches (dk_X16 ac)) (K : nd_Ki p l e (headSpec ow_dm_X16_fetches ({ frames := 2, cells := 0, slots := 0, locals := 45 })).room s m args below meth c Q A (dC, dI) cX16_fetches .boolean (St × (St)) (dw_X16 a ac) r) : dj_X16_fetches_0 p l e s m args below meth c Q A dC dI a ac (df_X16_fetches_0 n) r := by
  obtain ⟨hlt, hx, hb, hml, hown, hts, hN, hA, hK⟩ := id C
  intro v0 s0 H locs ls h hP hD hS hl
  unfold df_X16_fetches_0 at h
  refine lv_aload_n hx hb dX16_fetches_0 rfl (lv_at hl 0 rfl) ?_
  refine lv_aload_n hx hb dX16_fetches_1 rfl (lv_at hl 0 rfl) ?_
  refine va_get (D := (dC, dI)) (ci := 17) (v := .int (sI s0.1 12)) (C := RX16) (T := TX16) (N := 56) hx hb hts hi_dm_X16_fetches_X16 hown hK hP 0 rfl rfl 51 (by decide) (hts (.fieldLink RX16 232 "TimeMachineModel$Machine" "p" "I") (List.mem_of_getElem? (i := 1) rfl)) (fun _ h9 => h9) rfl dX16_fetches_2 ?_
  refine lv_iload_n hx hb dX16_fetches_5 rfl (lv_at hl 1 rfl) ?_
  refine lv_iconst (v := 4) hx hb dX16_fetches_6 (by decide) ?_
  obtain ⟨q1, s2, hq, h⟩ := nd_b2_e h
  have hPc := hP
  have hDc := hD
  have hKc := hK
  have hFc := nd_rs hD hS hA
  refine nd_cVi (As := [.int (sI s0.1 12), .int v0, .int 4]) (rest := []) (q := q1) (w' := dw_X16 a ac s2) ⟨hx, hb, hml, hown, hts⟩ (fun sz => dm_X16_may l hlt dC dI a ac n ((sI s0.1 12)) (v0) (4) s0 hq sz) (cwV 3 hts gi_dm_X16_fetches_0 rfl rfl rfl (by decide +kernel) ⟨Nat.le_of_ble_eq_true rfl, Nat.le_of_ble_eq_true rfl⟩) hPc hDc hKc hS hA hN (va_recv hKc hPc (ci := 17) (q0 := 0) rfl rfl) rfl hl.1 rfl (Nat.le_of_ble_eq_true rfl) dX16_fetches_7 (fun H locs hP1 hD1 hk1 hS => ?_)
  have hP := hP1
  have hD := hD1.weaken (fun k q _ h => hFc q.1 h)
  refine lv_if_eq (tgt := 32) hx hb dX16_fetches_10 (by decide) (fun c4 => ?_) (fun c4 => ?_)
  · have h := nd_pos h c4
    exact (db_X16_fetches_32 C K)  s2 _ _ _ h hP hD hS (lv_sub hl [] rfl)
  · have h := nd_neg h c4
    refine lv_aload_n hx hb dX16_fetches_13 rfl (lv_at hl 0 rfl) ?_
    refine lv_aload_n hx hb dX16_fetches_14 rfl (lv_at hl 0 rfl) ?_
    refine va_get (D := (dC, dI)) (ci := 17) (v := .int (sI s2.1 12)) (C := RX16) (T := TX16) (N := 56) hx hb hts hi_dm_X16_fetches_X16 hown hK hP 0 rfl rfl 51 (by decide) (hts (.fieldLink RX16 232 "TimeMachineModel$Machine" "p" "I") (List.mem_of_getElem? (i := 1) rfl)) (fun _ h9 => h9) rfl dX16_fetches_15 ?_
    refine lv_iload_n hx hb dX16_fetches_18 rfl (lv_at hl 1 rfl) ?_
    refine lv_iconst (v := 1) hx hb dX16_fetches_19 (by decide) ?_
    refine lv_iadd hx hb dX16_fetches_20 ?_
    refine lv_iconst (v := 4) hx hb dX16_fetches_21 (by decide) ?_
    obtain ⟨q6, s7, hq, h⟩ := nd_b2_e h
    have hPc := hP
    have hDc := hD
    have hKc := hK
    have hFc := nd_rs hD hS hA
    refine nd_cVi (As := [.int (sI s2.1 12), .int (v0 + 1), .int 4]) (rest := []) (q := q6) (w' := dw_X16 a ac s7) ⟨hx, hb, hml, hown, hts⟩ (fun sz => dm_X16_may l hlt dC dI a ac n ((sI s2.1 12)) ((v0 + 1)) (4) s2 hq sz) (cwV 3 hts gi_dm_X16_fetches_0 rfl rfl rfl (by decide +kernel) ⟨Nat.le_of_ble_eq_true rfl, Nat.le_of_ble_eq_true rfl⟩) hPc hDc hKc hS hA hN (va_recv hKc hPc (ci := 17) (q0 := 0) rfl rfl) rfl hl.1 rfl (Nat.le_of_ble_eq_true rfl) dX16_fetches_22 (fun H locs hP1 hD1 hk1 hS => ?_)
    have hP := hP1
    have hD := hD1.weaken (fun k q _ h => hFc q.1 h)
    refine lv_if_eq (tgt := 32) hx hb dX16_fetches_25 (by decide) (fun c9 => ?_) (fun c9 => ?_)
    · have h := nd_pos h c9
      exact (db_X16_fetches_32 C K)  s7 _ _ _ h hP hD hS (lv_sub hl [] rfl)
    · have h := nd_neg h c9
      refine lv_iconst (v := 1) hx hb dX16_fetches_28 (by decide) ?_
      refine lv_goto (tgt := 33) hx hb dX16_fetches_29 (by decide) ?_
      exact (db_X16_fetches_33 C K) (1) s7 _ _ _ h hP hD hS (lv_sub hl [] rfl)
set_option maxHeartbeats 40000000 in
set_option maxRecDepth 100000 in
theorem dm_X16_fetches (l : Launch) (hlt : l.stackTraces = false) (dC : Nat → ClassId) (dI : Nat → Nat → Nat) (a : Nat → Nat) (ac : Nat → ClassId) (n : Nat) (v0 : Int32) (s0 : St × (St)) {r : Int32 × (St × (St))} (h : df_X16_fetches n v0 s0 = some r) (sz : Nat) : Met l yX16_fetches ow_dm_X16_fetches ({ frames := 2, cells := 0, slots := 0, locals := 45 }) (va_Pc [.ref (a 0), .int v0] (fun U => U.heap.size = sz ∧ va_P (dC, dI) vwCl (dw_X16 a ac s0) U.heap ∧ va_K (dC, dI) vwCl (dk_X16 ac) U ∧ va_D (fun _ => True) (dw_X16 a ac s0) ∧ nv_E (va_A (dw_X16 a ac s0) sz) U)) (va_Qi (fun x _ => x = r.1) (fun (_ : Unit) t => va_P (dC, dI) vwCl (dw_X16 a ac r.2) t.heap ∧ va_K (dC, dI) vwCl (dk_X16 ac) t ∧ va_D (va_A (dw_X16 a ac s0) sz) (dw_X16 a ac r.2)) (va_A (dw_X16 a ac s0) sz)) 0 0 (va_A (dw_X16 a ac s0) sz) := by
  refine Met.ofW (cc := cX16_fetches) (maxL := 2) (ret := (some .boolean)) (by decide) rfl ?_
  intro p e s m args below meth c s₁ B hml hv
  obtain ⟨rfl, hsz, hP, hK, hD0, hN⟩ := hv
  have hx := B.exec
  have hb := B.bytes
  have hr := B.returns
  have hts := atoms_spec (ws := ow_dm_X16_fetches) B.pre
  have hown : s.vm.findClass RX16 = some m.cls := findClass_of_methodNamed B.named
  have hlocks := B.notSynchronized
  subst hsz
  have hD := hD0.self (sz := s.heap.size)
  generalize hAe : va_A (dw_X16 a ac s0) s.heap.size = A at hD hN ⊢
  have hA : ∀ q : Nat, s.heap.size ≤ q → A q := fun q h => by rw [← hAe]; exact Or.inr h
  have hl := lv_entry ([.ref (a 0), .int v0]) (n := 2) (Nat.le_of_ble_eq_true rfl)
  rw [lg_entry_eq]
  generalize (lg_sl ([.ref (a 0), .int v0]) ++ List.replicate (2 - (lg_sl ([.ref (a 0), .int v0])).length) Slot.unset).toArray = ls at hl ⊢
  have hl : lv_has ls 2 [(0, .ref (a 0)), (1, .int v0)] := hl
  exact db_X16_fetches_0 (dC := dC) (dI := dI) (a := a) (ac := ac) (n := n) (r := r) ⟨hlt, hx, hb, hml, hown, hts, hN, hA, hK⟩ (fun pc v τ H locs ls d z er hP hD hS => by subst er; exact W.zret (v := v) hx hb hr z (fun t ht hW => ⟨⟨v, (), rfl, rfl, by rw [ht]; exact hP, va_K.moved hW.alike hK, hD⟩, hS.F ht⟩) hS.2.2 d) v0 s0 _ _ _ h hP hD va_S.rf (lv_sub hl [0, 1] rfl)
def ow_dm_X16_part : List Cond := .code yX16_part cX16_part 3 (some .int) :: ([] ++ [])
theorem gd_dm_X16_part : ∀ w ∈ ow_dm_X16_part, (w.onTables && w.keeps) = true ∨ ∃ ty, w = Cond.arrayClass ty := List.forall_mem_cons.mpr ⟨good_of_word rfl, List.forall_mem_append.mpr ⟨fun w h => good_of_word (List.all_eq_true.mp (by decide +kernel) w h), fun _ h => nomatch h⟩⟩
def dj_X16_part_0 (p : Program) (l : Launch) (e : Env) (s : State) (m : MethodId) (args : Array Value) (below : List Frame) (meth : Method) (c : Code) (Q : State → Prop) (A : Nat → Prop) (dC : Nat → ClassId) (dI : Nat → Nat → Nat) (a : Nat → Nat) (ac : Nat → ClassId) (g : Int32 → Int32 → Int32 → (Unit) → Option (Int32 × (Unit))) (r : Int32 × (Unit)) : Prop := ∀ (v0 : Int32) (v1 : Int32) (v2 : Int32) (s0 : Unit) (H : Heap) (locs : List Loc) (ls : Array Slot), g v0 v1 v2 s0 = some r → va_P (dC, dI) vwCl (dw_P a ac s0) H → va_D A (dw_P a ac s0) → va_S A s.heap H locs → lv_has ls 3 [(0, .int v0), (1, .int v1), (2, .int v2)] → W p l e (headSpec ow_dm_X16_part ({ frames := 0, cells := 0, slots := 0, locals := 0 })).room s m args below meth c H locs 0 0 Q (F0 m 0 ls [])
set_option maxHeartbeats 40000000 in
set_option maxRecDepth 100000 in
theorem db_X16_part_0 {p : Program} {l : Launch} {e : Env} {s : State} {m : MethodId} {args : Array Value} {below : List Frame} {meth : Method} {c : Code} {Q : State → Prop} {A : Nat → Prop} {dC : Nat → ClassId} {dI : Nat → Nat → Nat} {a : Nat → Nat} {ac : Nat → ClassId} {n : Nat} {r : Int32 × (Unit)} (C : nd_C p l s m args c A (dC, dI) cX16_part 3 RX16 ow_dm_X16_part (dk_P ac)) (K : nd_Ki p l e (headSpec ow_dm_X16_part ({ frames := 0, cells := 0, slots := 0, locals := 0 })).room s m args below meth c Q A (dC, dI) cX16_part .int (Unit) (dw_P a ac) r) : dj_X16_part_0 p l e s m args below meth c Q A dC dI a ac (df_X16_part_0 n) r := by
  obtain ⟨hlt, hx, hb, hml, hown, hts, hN, hA, hK⟩ := id C
  intro v0 v1 v2 s0 H locs ls h hP hD hS hl
  unfold df_X16_part_0 at h
  refine lv_iload_n hx hb dX16_part_0 rfl (lv_at hl 0 rfl) ?_
  refine lv_iload_n hx hb dX16_part_1 rfl (lv_at hl 1 rfl) ?_
  refine lv_iushr hx hb dX16_part_2 rfl ?_
  refine lv_iconst (v := 1) hx hb dX16_part_3 (by decide) ?_
  refine lv_iload_n hx hb dX16_part_4 rfl (lv_at hl 2 rfl) ?_
  refine lv_ishl hx hb dX16_part_5 ?_
  refine lv_iconst (v := 1) hx hb dX16_part_6 (by decide) ?_
  refine lv_isub hx hb dX16_part_7 ?_
  refine lv_iand hx hb dX16_part_8 ?_
  exact K _ _ _ _ _ _ dX16_part_9 rfl (Option.some.inj h).symm hP hD hS
set_option maxHeartbeats 40000000 in
set_option maxRecDepth 100000 in
theorem dm_X16_part (l : Launch) (hlt : l.stackTraces = false) (dC : Nat → ClassId) (dI : Nat → Nat → Nat) (a : Nat → Nat) (ac : Nat → ClassId) (n : Nat) (v0 : Int32) (v1 : Int32) (v2 : Int32) (s0 : Unit) {r : Int32 × (Unit)} (h : df_X16_part n v0 v1 v2 s0 = some r) (sz : Nat) : Met l yX16_part ow_dm_X16_part ({ frames := 0, cells := 0, slots := 0, locals := 0 }) (va_Pc [.int v0, .int v1, .int v2] (fun U => U.heap.size = sz ∧ va_P (dC, dI) vwCl (dw_P a ac s0) U.heap ∧ va_K (dC, dI) vwCl (dk_P ac) U ∧ va_D (fun _ => True) (dw_P a ac s0) ∧ nv_E (va_A (dw_P a ac s0) sz) U)) (va_Qi (fun x _ => x = r.1) (fun (_ : Unit) t => va_P (dC, dI) vwCl (dw_P a ac r.2) t.heap ∧ va_K (dC, dI) vwCl (dk_P ac) t ∧ va_D (va_A (dw_P a ac s0) sz) (dw_P a ac r.2)) (va_A (dw_P a ac s0) sz)) 0 0 (va_A (dw_P a ac s0) sz) := by
  refine Met.ofW (cc := cX16_part) (maxL := 3) (ret := (some .int)) (by decide) rfl ?_
  intro p e s m args below meth c s₁ B hml hv
  obtain ⟨rfl, hsz, hP, hK, hD0, hN⟩ := hv
  have hx := B.exec
  have hb := B.bytes
  have hr := B.returns
  have hts := atoms_spec (ws := ow_dm_X16_part) B.pre
  have hown : s.vm.findClass RX16 = some m.cls := findClass_of_methodNamed B.named
  have hlocks := B.notSynchronized
  subst hsz
  have hD := hD0.self (sz := s.heap.size)
  generalize hAe : va_A (dw_P a ac s0) s.heap.size = A at hD hN ⊢
  have hA : ∀ q : Nat, s.heap.size ≤ q → A q := fun q h => by rw [← hAe]; exact Or.inr h
  have hl := lv_entry ([.int v0, .int v1, .int v2]) (n := 3) (Nat.le_of_ble_eq_true rfl)
  rw [lg_entry_eq]
  generalize (lg_sl ([.int v0, .int v1, .int v2]) ++ List.replicate (3 - (lg_sl ([.int v0, .int v1, .int v2])).length) Slot.unset).toArray = ls at hl ⊢
  have hl : lv_has ls 3 [(0, .int v0), (1, .int v1), (2, .int v2)] := hl
  exact db_X16_part_0 (dC := dC) (dI := dI) (a := a) (ac := ac) (n := n) (r := r) ⟨hlt, hx, hb, hml, hown, hts, hN, hA, hK⟩ (fun pc v τ H locs ls d z er hP hD hS => by subst er; exact W.zret (v := v) hx hb hr z (fun t ht hW => ⟨⟨v, (), rfl, rfl, by rw [ht]; exact hP, va_K.moved hW.alike hK, hD⟩, hS.F ht⟩) hS.2.2 d) v0 v1 v2 s0 _ _ _ h hP hD va_S.rf (lv_sub hl [0, 1, 2] rfl)
def ow_dm_X16_bit : List Cond := .code yX16_bit cX16_bit 4 (some .int) :: ([.methodLink RX16 297 yX16_part, .static yX16_part, .initialized RX16] ++ (ow_dm_X16_part ++ []))
theorem gd_dm_X16_bit : ∀ w ∈ ow_dm_X16_bit, (w.onTables && w.keeps) = true ∨ ∃ ty, w = Cond.arrayClass ty := List.forall_mem_cons.mpr ⟨good_of_word rfl, List.forall_mem_append.mpr ⟨fun w h => good_of_word (List.all_eq_true.mp (by decide +kernel) w h), List.forall_mem_append.mpr ⟨gd_dm_X16_part, fun _ h => nomatch h⟩⟩⟩
theorem gi_dm_X16_bit_0 : GoodIn ow_dm_X16_bit (wsS RX16 297 yX16_part ow_dm_X16_part) := goodIn_app (goodIn_of _ (by decide +kernel)) (fun w h => ⟨List.mem_cons_of_mem _ (List.mem_append_right _ (List.mem_append_left _ h)), gd_dm_X16_part w h⟩)
def dj_X16_bit_0 (p : Program) (l : Launch) (e : Env) (s : State) (m : MethodId) (args : Array Value) (below : List Frame) (meth : Method) (c : Code) (Q : State → Prop) (A : Nat → Prop) (dC : Nat → ClassId) (dI : Nat → Nat → Nat) (a : Nat → Nat) (ac : Nat → ClassId) (g : Int32 → Int32 → Int32 → Int32 → (Unit) → Option (Int32 × (Unit))) (r : Int32 × (Unit)) : Prop := ∀ (v0 : Int32) (v1 : Int32) (v2 : Int32) (v3 : Int32) (s0 : Unit) (H : Heap) (locs : List Loc) (ls : Array Slot), g v0 v1 v2 v3 s0 = some r → va_P (dC, dI) vwCl (dw_P a ac s0) H → va_D A (dw_P a ac s0) → va_S A s.heap H locs → lv_has ls 4 [(0, .int v0), (1, .int v1), (2, .int v2), (3, .int v3)] → W p l e (headSpec ow_dm_X16_bit ({ frames := 1, cells := 0, slots := 0, locals := 22 })).room s m args below meth c H locs 0 0 Q (F0 m 0 ls [])
set_option maxHeartbeats 40000000 in
set_option maxRecDepth 100000 in
theorem db_X16_bit_0 {p : Program} {l : Launch} {e : Env} {s : State} {m : MethodId} {args : Array Value} {below : List Frame} {meth : Method} {c : Code} {Q : State → Prop} {A : Nat → Prop} {dC : Nat → ClassId} {dI : Nat → Nat → Nat} {a : Nat → Nat} {ac : Nat → ClassId} {n : Nat} {r : Int32 × (Unit)} (C : nd_C p l s m args c A (dC, dI) cX16_bit 4 RX16 ow_dm_X16_bit (dk_P ac)) (K : nd_Ki p l e (headSpec ow_dm_X16_bit ({ frames := 1, cells := 0, slots := 0, locals := 22 })).room s m args below meth c Q A (dC, dI) cX16_bit .int (Unit) (dw_P a ac) r) : dj_X16_bit_0 p l e s m args below meth c Q A dC dI a ac (df_X16_bit_0 n) r := by
  obtain ⟨hlt, hx, hb, hml, hown, hts, hN, hA, hK⟩ := id C
  intro v0 v1 v2 v3 s0 H locs ls h hP hD hS hl
  unfold df_X16_bit_0 at h
  refine lv_iload_n hx hb dX16_bit_0 rfl (lv_at hl 0 rfl) ?_
  refine lv_iload_n hx hb dX16_bit_1 rfl (lv_at hl 1 rfl) ?_
  refine lv_iload_n hx hb dX16_bit_2 rfl (lv_at hl 2 rfl) ?_
  obtain ⟨q1, s2, hq, h⟩ := nd_b2_e h
  have hPc : va_P (dC, dI) vwCl (dw_P a ac ()) H := nd_p0
  have hDc : va_D A (dw_P a ac ()) := nd_d0
  have hKc : va_K (dC, dI) vwCl (dk_P ac) s := nd_y0 hK
  have hFc : ∀ q, va_A (dw_P a ac ()) H.size q → A q := nd_r0 hS hA
  refine nd_cSi (As := [.int v0, .int v1, .int v2]) (rest := []) (q := q1) (w' := dw_P a ac s2) ⟨hx, hb, hml, hown, hts⟩ (fun sz => dm_X16_part l hlt dC dI a ac n (v0) (v1) (v2) () hq sz) (cwS 3 hts gi_dm_X16_bit_0 rfl rfl rfl (by decide +kernel) ⟨Nat.le_of_ble_eq_true rfl, Nat.le_of_ble_eq_true rfl⟩) hPc hDc hKc hS hA hN rfl hl.1 rfl (Nat.le_of_ble_eq_true rfl) dX16_bit_3 (fun H locs hP1 hD1 hk1 hS => ?_)
  have hP := nd_n0 hP hk1
  refine lv_iload_n hx hb dX16_bit_6 rfl (lv_at hl 3 rfl) ?_
  refine lv_ishl hx hb dX16_bit_7 ?_
  exact K _ _ _ _ _ _ dX16_bit_8 rfl (Option.some.inj h).symm hP hD hS
set_option maxHeartbeats 40000000 in
set_option maxRecDepth 100000 in
theorem dm_X16_bit (l : Launch) (hlt : l.stackTraces = false) (dC : Nat → ClassId) (dI : Nat → Nat → Nat) (a : Nat → Nat) (ac : Nat → ClassId) (n : Nat) (v0 : Int32) (v1 : Int32) (v2 : Int32) (v3 : Int32) (s0 : Unit) {r : Int32 × (Unit)} (h : df_X16_bit n v0 v1 v2 v3 s0 = some r) (sz : Nat) : Met l yX16_bit ow_dm_X16_bit ({ frames := 1, cells := 0, slots := 0, locals := 22 }) (va_Pc [.int v0, .int v1, .int v2, .int v3] (fun U => U.heap.size = sz ∧ va_P (dC, dI) vwCl (dw_P a ac s0) U.heap ∧ va_K (dC, dI) vwCl (dk_P ac) U ∧ va_D (fun _ => True) (dw_P a ac s0) ∧ nv_E (va_A (dw_P a ac s0) sz) U)) (va_Qi (fun x _ => x = r.1) (fun (_ : Unit) t => va_P (dC, dI) vwCl (dw_P a ac r.2) t.heap ∧ va_K (dC, dI) vwCl (dk_P ac) t ∧ va_D (va_A (dw_P a ac s0) sz) (dw_P a ac r.2)) (va_A (dw_P a ac s0) sz)) 0 0 (va_A (dw_P a ac s0) sz) := by
  refine Met.ofW (cc := cX16_bit) (maxL := 4) (ret := (some .int)) (by decide) rfl ?_
  intro p e s m args below meth c s₁ B hml hv
  obtain ⟨rfl, hsz, hP, hK, hD0, hN⟩ := hv
  have hx := B.exec
  have hb := B.bytes
  have hr := B.returns
  have hts := atoms_spec (ws := ow_dm_X16_bit) B.pre
  have hown : s.vm.findClass RX16 = some m.cls := findClass_of_methodNamed B.named
  have hlocks := B.notSynchronized
  subst hsz
  have hD := hD0.self (sz := s.heap.size)
  generalize hAe : va_A (dw_P a ac s0) s.heap.size = A at hD hN ⊢
  have hA : ∀ q : Nat, s.heap.size ≤ q → A q := fun q h => by rw [← hAe]; exact Or.inr h
  have hl := lv_entry ([.int v0, .int v1, .int v2, .int v3]) (n := 4) (Nat.le_of_ble_eq_true rfl)
  rw [lg_entry_eq]
  generalize (lg_sl ([.int v0, .int v1, .int v2, .int v3]) ++ List.replicate (4 - (lg_sl ([.int v0, .int v1, .int v2, .int v3])).length) Slot.unset).toArray = ls at hl ⊢
  have hl : lv_has ls 4 [(0, .int v0), (1, .int v1), (2, .int v2), (3, .int v3)] := hl
  exact db_X16_bit_0 (dC := dC) (dI := dI) (a := a) (ac := ac) (n := n) (r := r) ⟨hlt, hx, hb, hml, hown, hts, hN, hA, hK⟩ (fun pc v τ H locs ls d z er hP hD hS => by subst er; exact W.zret (v := v) hx hb hr z (fun t ht hW => ⟨⟨v, (), rfl, rfl, by rw [ht]; exact hP, va_K.moved hW.alike hK, hD⟩, hS.F ht⟩) hS.2.2 d) v0 v1 v2 v3 s0 _ _ _ h hP hD va_S.rf (lv_sub hl [0, 1, 2, 3] rfl)
def ow_dm_X16_immediate : List Cond := .code yX16_immediate cX16_immediate 5 (some .int) :: ([] ++ [])
theorem gd_dm_X16_immediate : ∀ w ∈ ow_dm_X16_immediate, (w.onTables && w.keeps) = true ∨ ∃ ty, w = Cond.arrayClass ty := List.forall_mem_cons.mpr ⟨good_of_word rfl, List.forall_mem_append.mpr ⟨fun w h => good_of_word (List.all_eq_true.mp (by decide +kernel) w h), fun _ h => nomatch h⟩⟩
def dj_X16_immediate_0 (p : Program) (l : Launch) (e : Env) (s : State) (m : MethodId) (args : Array Value) (below : List Frame) (meth : Method) (c : Code) (Q : State → Prop) (A : Nat → Prop) (dC : Nat → ClassId) (dI : Nat → Nat → Nat) (a : Nat → Nat) (ac : Nat → ClassId) (g : Int32 → Int32 → Int32 → Int32 → Int32 → (Unit) → Option (Int32 × (Unit))) (r : Int32 × (Unit)) : Prop := ∀ (v0 : Int32) (v1 : Int32) (v2 : Int32) (v3 : Int32) (v4 : Int32) (s0 : Unit) (H : Heap) (locs : List Loc) (ls : Array Slot), g v0 v1 v2 v3 v4 s0 = some r → va_P (dC, dI) vwCl (dw_P a ac s0) H → va_D A (dw_P a ac s0) → va_S A s.heap H locs → lv_has ls 5 [(0, .int v0), (1, .int v1), (2, .int v2), (3, .int v3), (4, .int v4)] → W p l e (headSpec ow_dm_X16_immediate ({ frames := 0, cells := 0, slots := 0, locals := 0 })).room s m args below meth c H locs 0 0 Q (F0 m 0 ls [])
set_option maxHeartbeats 40000000 in
set_option maxRecDepth 100000 in
theorem db_X16_immediate_0 {p : Program} {l : Launch} {e : Env} {s : State} {m : MethodId} {args : Array Value} {below : List Frame} {meth : Method} {c : Code} {Q : State → Prop} {A : Nat → Prop} {dC : Nat → ClassId} {dI : Nat → Nat → Nat} {a : Nat → Nat} {ac : Nat → ClassId} {n : Nat} {r : Int32 × (Unit)} (C : nd_C p l s m args c A (dC, dI) cX16_immediate 5 RX16 ow_dm_X16_immediate (dk_P ac)) (K : nd_Ki p l e (headSpec ow_dm_X16_immediate ({ frames := 0, cells := 0, slots := 0, locals := 0 })).room s m args below meth c Q A (dC, dI) cX16_immediate .int (Unit) (dw_P a ac) r) : dj_X16_immediate_0 p l e s m args below meth c Q A dC dI a ac (df_X16_immediate_0 n) r := by
  obtain ⟨hlt, hx, hb, hml, hown, hts, hN, hA, hK⟩ := id C
  intro v0 v1 v2 v3 v4 s0 H locs ls h hP hD hS hl
  unfold df_X16_immediate_0 at h
  refine lv_iload_n hx hb dX16_immediate_0 rfl (lv_at hl 0 rfl) ?_
  refine lv_iload_n hx hb dX16_immediate_1 rfl (lv_at hl 2 rfl) ?_
  refine lv_bipush (v := 7) hx hb dX16_immediate_2 (by decide) ?_
  refine lv_ishl hx hb dX16_immediate_4 ?_
  refine lv_ior hx hb dX16_immediate_5 ?_
  refine lv_iload_n hx hb dX16_immediate_6 rfl (lv_at hl 1 rfl) ?_
  refine lv_bipush (v := 12) hx hb dX16_immediate_7 (by decide) ?_
  refine lv_ishl hx hb dX16_immediate_9 ?_
  refine lv_ior hx hb dX16_immediate_10 ?_
  refine lv_iload_n hx hb dX16_immediate_11 rfl (lv_at hl 3 rfl) ?_
  refine lv_bipush (v := 15) hx hb dX16_immediate_12 (by decide) ?_
  refine lv_ishl hx hb dX16_immediate_14 ?_
  refine lv_ior hx hb dX16_immediate_15 ?_
  refine lv_iload hx hb dX16_immediate_16 (lv_at hl 4 rfl) ?_
  refine lv_bipush (v := 20) hx hb dX16_immediate_18 (by decide) ?_
  refine lv_ishl hx hb dX16_immediate_20 ?_
  refine lv_ior hx hb dX16_immediate_21 ?_
  exact K _ _ _ _ _ _ dX16_immediate_22 rfl (Option.some.inj h).symm hP hD hS
set_option maxHeartbeats 40000000 in
set_option maxRecDepth 100000 in
theorem dm_X16_immediate (l : Launch) (hlt : l.stackTraces = false) (dC : Nat → ClassId) (dI : Nat → Nat → Nat) (a : Nat → Nat) (ac : Nat → ClassId) (n : Nat) (v0 : Int32) (v1 : Int32) (v2 : Int32) (v3 : Int32) (v4 : Int32) (s0 : Unit) {r : Int32 × (Unit)} (h : df_X16_immediate n v0 v1 v2 v3 v4 s0 = some r) (sz : Nat) : Met l yX16_immediate ow_dm_X16_immediate ({ frames := 0, cells := 0, slots := 0, locals := 0 }) (va_Pc [.int v0, .int v1, .int v2, .int v3, .int v4] (fun U => U.heap.size = sz ∧ va_P (dC, dI) vwCl (dw_P a ac s0) U.heap ∧ va_K (dC, dI) vwCl (dk_P ac) U ∧ va_D (fun _ => True) (dw_P a ac s0) ∧ nv_E (va_A (dw_P a ac s0) sz) U)) (va_Qi (fun x _ => x = r.1) (fun (_ : Unit) t => va_P (dC, dI) vwCl (dw_P a ac r.2) t.heap ∧ va_K (dC, dI) vwCl (dk_P ac) t ∧ va_D (va_A (dw_P a ac s0) sz) (dw_P a ac r.2)) (va_A (dw_P a ac s0) sz)) 0 0 (va_A (dw_P a ac s0) sz) := by
  refine Met.ofW (cc := cX16_immediate) (maxL := 5) (ret := (some .int)) (by decide) rfl ?_
  intro p e s m args below meth c s₁ B hml hv
  obtain ⟨rfl, hsz, hP, hK, hD0, hN⟩ := hv
  have hx := B.exec
  have hb := B.bytes
  have hr := B.returns
  have hts := atoms_spec (ws := ow_dm_X16_immediate) B.pre
  have hown : s.vm.findClass RX16 = some m.cls := findClass_of_methodNamed B.named
  have hlocks := B.notSynchronized
  subst hsz
  have hD := hD0.self (sz := s.heap.size)
  generalize hAe : va_A (dw_P a ac s0) s.heap.size = A at hD hN ⊢
  have hA : ∀ q : Nat, s.heap.size ≤ q → A q := fun q h => by rw [← hAe]; exact Or.inr h
  have hl := lv_entry ([.int v0, .int v1, .int v2, .int v3, .int v4]) (n := 5) (Nat.le_of_ble_eq_true rfl)
  rw [lg_entry_eq]
  generalize (lg_sl ([.int v0, .int v1, .int v2, .int v3, .int v4]) ++ List.replicate (5 - (lg_sl ([.int v0, .int v1, .int v2, .int v3, .int v4])).length) Slot.unset).toArray = ls at hl ⊢
  have hl : lv_has ls 5 [(0, .int v0), (1, .int v1), (2, .int v2), (3, .int v3), (4, .int v4)] := hl
  exact db_X16_immediate_0 (dC := dC) (dI := dI) (a := a) (ac := ac) (n := n) (r := r) ⟨hlt, hx, hb, hml, hown, hts, hN, hA, hK⟩ (fun pc v τ H locs ls d z er hP hD hS => by subst er; exact W.zret (v := v) hx hb hr z (fun t ht hW => ⟨⟨v, (), rfl, rfl, by rw [ht]; exact hP, va_K.moved hW.alike hK, hD⟩, hS.F ht⟩) hS.2.2 d) v0 v1 v2 v3 v4 s0 _ _ _ h hP hD va_S.rf (lv_sub hl [0, 1, 2, 3, 4] rfl)
def ow_dm_X16_threes : List Cond := .code yX16_threes cX16_threes 5 (some .int) :: ([] ++ [])
theorem gd_dm_X16_threes : ∀ w ∈ ow_dm_X16_threes, (w.onTables && w.keeps) = true ∨ ∃ ty, w = Cond.arrayClass ty := List.forall_mem_cons.mpr ⟨good_of_word rfl, List.forall_mem_append.mpr ⟨fun w h => good_of_word (List.all_eq_true.mp (by decide +kernel) w h), fun _ h => nomatch h⟩⟩
def dj_X16_threes_0 (p : Program) (l : Launch) (e : Env) (s : State) (m : MethodId) (args : Array Value) (below : List Frame) (meth : Method) (c : Code) (Q : State → Prop) (A : Nat → Prop) (dC : Nat → ClassId) (dI : Nat → Nat → Nat) (a : Nat → Nat) (ac : Nat → ClassId) (g : Int32 → Int32 → Int32 → Int32 → Int32 → (Unit) → Option (Int32 × (Unit))) (r : Int32 × (Unit)) : Prop := ∀ (v0 : Int32) (v1 : Int32) (v2 : Int32) (v3 : Int32) (v4 : Int32) (s0 : Unit) (H : Heap) (locs : List Loc) (ls : Array Slot), g v0 v1 v2 v3 v4 s0 = some r → va_P (dC, dI) vwCl (dw_P a ac s0) H → va_D A (dw_P a ac s0) → va_S A s.heap H locs → lv_has ls 5 [(0, .int v0), (1, .int v1), (2, .int v2), (3, .int v3), (4, .int v4)] → W p l e (headSpec ow_dm_X16_threes ({ frames := 0, cells := 0, slots := 0, locals := 0 })).room s m args below meth c H locs 0 0 Q (F0 m 0 ls [])
set_option maxHeartbeats 40000000 in
set_option maxRecDepth 100000 in
theorem db_X16_threes_0 {p : Program} {l : Launch} {e : Env} {s : State} {m : MethodId} {args : Array Value} {below : List Frame} {meth : Method} {c : Code} {Q : State → Prop} {A : Nat → Prop} {dC : Nat → ClassId} {dI : Nat → Nat → Nat} {a : Nat → Nat} {ac : Nat → ClassId} {n : Nat} {r : Int32 × (Unit)} (C : nd_C p l s m args c A (dC, dI) cX16_threes 5 RX16 ow_dm_X16_threes (dk_P ac)) (K : nd_Ki p l e (headSpec ow_dm_X16_threes ({ frames := 0, cells := 0, slots := 0, locals := 0 })).room s m args below meth c Q A (dC, dI) cX16_threes .int (Unit) (dw_P a ac) r) : dj_X16_threes_0 p l e s m args below meth c Q A dC dI a ac (df_X16_threes_0 n) r := by
  obtain ⟨hlt, hx, hb, hml, hown, hts, hN, hA, hK⟩ := id C
  intro v0 v1 v2 v3 v4 s0 H locs ls h hP hD hS hl
  unfold df_X16_threes_0 at h
  refine lv_bipush (v := 51) hx hb dX16_threes_0 (by decide) ?_
  refine lv_iload_n hx hb dX16_threes_2 rfl (lv_at hl 2 rfl) ?_
  refine lv_bipush (v := 7) hx hb dX16_threes_3 (by decide) ?_
  refine lv_ishl hx hb dX16_threes_5 ?_
  refine lv_ior hx hb dX16_threes_6 ?_
  refine lv_iload_n hx hb dX16_threes_7 rfl (lv_at hl 0 rfl) ?_
  refine lv_bipush (v := 12) hx hb dX16_threes_8 (by decide) ?_
  refine lv_ishl hx hb dX16_threes_10 ?_
  refine lv_ior hx hb dX16_threes_11 ?_
  refine lv_iload_n hx hb dX16_threes_12 rfl (lv_at hl 3 rfl) ?_
  refine lv_bipush (v := 15) hx hb dX16_threes_13 (by decide) ?_
  refine lv_ishl hx hb dX16_threes_15 ?_
  refine lv_ior hx hb dX16_threes_16 ?_
  refine lv_iload hx hb dX16_threes_17 (lv_at hl 4 rfl) ?_
  refine lv_bipush (v := 20) hx hb dX16_threes_19 (by decide) ?_
  refine lv_ishl hx hb dX16_threes_21 ?_
  refine lv_ior hx hb dX16_threes_22 ?_
  refine lv_iload_n hx hb dX16_threes_23 rfl (lv_at hl 1 rfl) ?_
  refine lv_bipush (v := 25) hx hb dX16_threes_24 (by decide) ?_
  refine lv_ishl hx hb dX16_threes_26 ?_
  refine lv_ior hx hb dX16_threes_27 ?_
  exact K _ _ _ _ _ _ dX16_threes_28 rfl (Option.some.inj h).symm hP hD hS
set_option maxHeartbeats 40000000 in
set_option maxRecDepth 100000 in
theorem dm_X16_threes (l : Launch) (hlt : l.stackTraces = false) (dC : Nat → ClassId) (dI : Nat → Nat → Nat) (a : Nat → Nat) (ac : Nat → ClassId) (n : Nat) (v0 : Int32) (v1 : Int32) (v2 : Int32) (v3 : Int32) (v4 : Int32) (s0 : Unit) {r : Int32 × (Unit)} (h : df_X16_threes n v0 v1 v2 v3 v4 s0 = some r) (sz : Nat) : Met l yX16_threes ow_dm_X16_threes ({ frames := 0, cells := 0, slots := 0, locals := 0 }) (va_Pc [.int v0, .int v1, .int v2, .int v3, .int v4] (fun U => U.heap.size = sz ∧ va_P (dC, dI) vwCl (dw_P a ac s0) U.heap ∧ va_K (dC, dI) vwCl (dk_P ac) U ∧ va_D (fun _ => True) (dw_P a ac s0) ∧ nv_E (va_A (dw_P a ac s0) sz) U)) (va_Qi (fun x _ => x = r.1) (fun (_ : Unit) t => va_P (dC, dI) vwCl (dw_P a ac r.2) t.heap ∧ va_K (dC, dI) vwCl (dk_P ac) t ∧ va_D (va_A (dw_P a ac s0) sz) (dw_P a ac r.2)) (va_A (dw_P a ac s0) sz)) 0 0 (va_A (dw_P a ac s0) sz) := by
  refine Met.ofW (cc := cX16_threes) (maxL := 5) (ret := (some .int)) (by decide) rfl ?_
  intro p e s m args below meth c s₁ B hml hv
  obtain ⟨rfl, hsz, hP, hK, hD0, hN⟩ := hv
  have hx := B.exec
  have hb := B.bytes
  have hr := B.returns
  have hts := atoms_spec (ws := ow_dm_X16_threes) B.pre
  have hown : s.vm.findClass RX16 = some m.cls := findClass_of_methodNamed B.named
  have hlocks := B.notSynchronized
  subst hsz
  have hD := hD0.self (sz := s.heap.size)
  generalize hAe : va_A (dw_P a ac s0) s.heap.size = A at hD hN ⊢
  have hA : ∀ q : Nat, s.heap.size ≤ q → A q := fun q h => by rw [← hAe]; exact Or.inr h
  have hl := lv_entry ([.int v0, .int v1, .int v2, .int v3, .int v4]) (n := 5) (Nat.le_of_ble_eq_true rfl)
  rw [lg_entry_eq]
  generalize (lg_sl ([.int v0, .int v1, .int v2, .int v3, .int v4]) ++ List.replicate (5 - (lg_sl ([.int v0, .int v1, .int v2, .int v3, .int v4])).length) Slot.unset).toArray = ls at hl ⊢
  have hl : lv_has ls 5 [(0, .int v0), (1, .int v1), (2, .int v2), (3, .int v3), (4, .int v4)] := hl
  exact db_X16_threes_0 (dC := dC) (dI := dI) (a := a) (ac := ac) (n := n) (r := r) ⟨hlt, hx, hb, hml, hown, hts, hN, hA, hK⟩ (fun pc v τ H locs ls d z er hP hD hS => by subst er; exact W.zret (v := v) hx hb hr z (fun t ht hW => ⟨⟨v, (), rfl, rfl, by rw [ht]; exact hP, va_K.moved hW.alike hK, hD⟩, hS.F ht⟩) hS.2.2 d) v0 v1 v2 v3 v4 s0 _ _ _ h hP hD va_S.rf (lv_sub hl [0, 1, 2, 3, 4] rfl)
def ow_dm_X16_storing : List Cond := .code yX16_storing cX16_storing 3 (some .int) :: ([.methodLink RX16 300 yX16_bit, .static yX16_bit, .initialized RX16] ++ (ow_dm_X16_bit ++ []))
theorem gd_dm_X16_storing : ∀ w ∈ ow_dm_X16_storing, (w.onTables && w.keeps) = true ∨ ∃ ty, w = Cond.arrayClass ty := List.forall_mem_cons.mpr ⟨good_of_word rfl, List.forall_mem_append.mpr ⟨fun w h => good_of_word (List.all_eq_true.mp (by decide +kernel) w h), List.forall_mem_append.mpr ⟨gd_dm_X16_bit, fun _ h => nomatch h⟩⟩⟩
theorem gi_dm_X16_storing_0 : GoodIn ow_dm_X16_storing (wsS RX16 300 yX16_bit ow_dm_X16_bit) := goodIn_app (goodIn_of _ (by decide +kernel)) (fun w h => ⟨List.mem_cons_of_mem _ (List.mem_append_right _ (List.mem_append_left _ h)), gd_dm_X16_bit w h⟩)
def dj_X16_storing_0 (p : Program) (l : Launch) (e : Env) (s : State) (m : MethodId) (args : Array Value) (below : List Frame) (meth : Method) (c : Code) (Q : State → Prop) (A : Nat → Prop) (dC : Nat → ClassId) (dI : Nat → Nat → Nat) (a : Nat → Nat) (ac : Nat → ClassId) (g : Int32 → Int32 → Int32 → (Unit) → Option (Int32 × (Unit))) (r : Int32 × (Unit)) : Prop := ∀ (v0 : Int32) (v1 : Int32) (v2 : Int32) (s0 : Unit) (H : Heap) (locs : List Loc) (ls : Array Slot), g v0 v1 v2 s0 = some r → va_P (dC, dI) vwCl (dw_P a ac s0) H → va_D A (dw_P a ac s0) → va_S A s.heap H locs → lv_has ls 3 [(0, .int v0), (1, .int v1), (2, .int v2)] → W p l e (headSpec ow_dm_X16_storing ({ frames := 2, cells := 0, slots := 0, locals := 45 })).room s m args below meth c H locs 0 0 Q (F0 m 0 ls [])
set_option maxHeartbeats 40000000 in
set_option maxRecDepth 100000 in
theorem db_X16_storing_0 {p : Program} {l : Launch} {e : Env} {s : State} {m : MethodId} {args : Array Value} {below : List Frame} {meth : Method} {c : Code} {Q : State → Prop} {A : Nat → Prop} {dC : Nat → ClassId} {dI : Nat → Nat → Nat} {a : Nat → Nat} {ac : Nat → ClassId} {n : Nat} {r : Int32 × (Unit)} (C : nd_C p l s m args c A (dC, dI) cX16_storing 3 RX16 ow_dm_X16_storing (dk_P ac)) (K : nd_Ki p l e (headSpec ow_dm_X16_storing ({ frames := 2, cells := 0, slots := 0, locals := 45 })).room s m args below meth c Q A (dC, dI) cX16_storing .int (Unit) (dw_P a ac) r) : dj_X16_storing_0 p l e s m args below meth c Q A dC dI a ac (df_X16_storing_0 n) r := by
  obtain ⟨hlt, hx, hb, hml, hown, hts, hN, hA, hK⟩ := id C
  intro v0 v1 v2 s0 H locs ls h hP hD hS hl
  unfold df_X16_storing_0 at h
  refine lv_bipush (v := 35) hx hb dX16_storing_0 (by decide) ?_
  refine lv_iload_n hx hb dX16_storing_2 rfl (lv_at hl 2 rfl) ?_
  refine lv_iconst (v := 0) hx hb dX16_storing_3 (by decide) ?_
  refine lv_iconst (v := 5) hx hb dX16_storing_4 (by decide) ?_
  refine lv_bipush (v := 7) hx hb dX16_storing_5 (by decide) ?_
  obtain ⟨q1, s2, hq, h⟩ := nd_b2_e h
  have hPc : va_P (dC, dI) vwCl (dw_P a ac ()) H := nd_p0
  have hDc : va_D A (dw_P a ac ()) := nd_d0
  have hKc : va_K (dC, dI) vwCl (dk_P ac) s := nd_y0 hK
  have hFc : ∀ q, va_A (dw_P a ac ()) H.size q → A q := nd_r0 hS hA
  refine nd_cSi (As := [.int v2, .int 0, .int 5, .int 7]) (rest := [.int 35]) (q := q1) (w' := dw_P a ac s2) ⟨hx, hb, hml, hown, hts⟩ (fun sz => dm_X16_bit l hlt dC dI a ac n (v2) (0) (5) (7) () hq sz) (cwS 4 hts gi_dm_X16_storing_0 rfl rfl rfl (by decide +kernel) ⟨Nat.le_of_ble_eq_true rfl, Nat.le_of_ble_eq_true rfl⟩) hPc hDc hKc hS hA hN rfl hl.1 rfl (Nat.le_of_ble_eq_true rfl) dX16_storing_7 (fun H locs hP1 hD1 hk1 hS => ?_)
  have hP := nd_n0 hP hk1
  refine lv_ior hx hb dX16_storing_10 ?_
  refine lv_sipush (v := 8192) hx hb dX16_storing_11 (by decide) ?_
  refine lv_ior hx hb dX16_storing_14 ?_
  refine lv_iload_n hx hb dX16_storing_15 rfl (lv_at hl 0 rfl) ?_
  refine lv_bipush (v := 15) hx hb dX16_storing_16 (by decide) ?_
  refine lv_ishl hx hb dX16_storing_18 ?_
  refine lv_ior hx hb dX16_storing_19 ?_
  refine lv_iload_n hx hb dX16_storing_20 rfl (lv_at hl 1 rfl) ?_
  refine lv_bipush (v := 20) hx hb dX16_storing_21 (by decide) ?_
  refine lv_ishl hx hb dX16_storing_23 ?_
  refine lv_ior hx hb dX16_storing_24 ?_
  refine lv_iload_n hx hb dX16_storing_25 rfl (lv_at hl 2 rfl) ?_
  refine lv_iconst (v := 5) hx hb dX16_storing_26 (by decide) ?_
  refine lv_bipush (v := 7) hx hb dX16_storing_27 (by decide) ?_
  refine lv_bipush (v := 25) hx hb dX16_storing_29 (by decide) ?_
  obtain ⟨q4, s5, hq, h⟩ := nd_b2_e h
  have hPc : va_P (dC, dI) vwCl (dw_P a ac ()) H := nd_p0
  have hDc : va_D A (dw_P a ac ()) := nd_d0
  have hKc : va_K (dC, dI) vwCl (dk_P ac) s := nd_y0 hK
  have hFc : ∀ q, va_A (dw_P a ac ()) H.size q → A q := nd_r0 hS hA
  refine nd_cSi (As := [.int v2, .int 5, .int 7, .int 25]) (rest := [.int ((((35 ||| q1) ||| 8192) ||| ((v0 : Int32) <<< ((15 : Int32) &&& 31))) ||| ((v1 : Int32) <<< ((20 : Int32) &&& 31)))]) (q := q4) (w' := dw_P a ac s5) ⟨hx, hb, hml, hown, hts⟩ (fun sz => dm_X16_bit l hlt dC dI a ac n (v2) (5) (7) (25) () hq sz) (cwS 4 hts gi_dm_X16_storing_0 rfl rfl rfl (by decide +kernel) ⟨Nat.le_of_ble_eq_true rfl, Nat.le_of_ble_eq_true rfl⟩) hPc hDc hKc hS hA hN rfl hl.1 rfl (Nat.le_of_ble_eq_true rfl) dX16_storing_31 (fun H locs hP1 hD1 hk1 hS => ?_)
  have hP := nd_n0 hP hk1
  refine lv_ior hx hb dX16_storing_34 ?_
  exact K _ _ _ _ _ _ dX16_storing_35 rfl (Option.some.inj h).symm hP hD hS
set_option maxHeartbeats 40000000 in
set_option maxRecDepth 100000 in
theorem dm_X16_storing (l : Launch) (hlt : l.stackTraces = false) (dC : Nat → ClassId) (dI : Nat → Nat → Nat) (a : Nat → Nat) (ac : Nat → ClassId) (n : Nat) (v0 : Int32) (v1 : Int32) (v2 : Int32) (s0 : Unit) {r : Int32 × (Unit)} (h : df_X16_storing n v0 v1 v2 s0 = some r) (sz : Nat) : Met l yX16_storing ow_dm_X16_storing ({ frames := 2, cells := 0, slots := 0, locals := 45 }) (va_Pc [.int v0, .int v1, .int v2] (fun U => U.heap.size = sz ∧ va_P (dC, dI) vwCl (dw_P a ac s0) U.heap ∧ va_K (dC, dI) vwCl (dk_P ac) U ∧ va_D (fun _ => True) (dw_P a ac s0) ∧ nv_E (va_A (dw_P a ac s0) sz) U)) (va_Qi (fun x _ => x = r.1) (fun (_ : Unit) t => va_P (dC, dI) vwCl (dw_P a ac r.2) t.heap ∧ va_K (dC, dI) vwCl (dk_P ac) t ∧ va_D (va_A (dw_P a ac s0) sz) (dw_P a ac r.2)) (va_A (dw_P a ac s0) sz)) 0 0 (va_A (dw_P a ac s0) sz) := by
  refine Met.ofW (cc := cX16_storing) (maxL := 3) (ret := (some .int)) (by decide) rfl ?_
  intro p e s m args below meth c s₁ B hml hv
  obtain ⟨rfl, hsz, hP, hK, hD0, hN⟩ := hv
  have hx := B.exec
  have hb := B.bytes
  have hr := B.returns
  have hts := atoms_spec (ws := ow_dm_X16_storing) B.pre
  have hown : s.vm.findClass RX16 = some m.cls := findClass_of_methodNamed B.named
  have hlocks := B.notSynchronized
  subst hsz
  have hD := hD0.self (sz := s.heap.size)
  generalize hAe : va_A (dw_P a ac s0) s.heap.size = A at hD hN ⊢
  have hA : ∀ q : Nat, s.heap.size ≤ q → A q := fun q h => by rw [← hAe]; exact Or.inr h
  have hl := lv_entry ([.int v0, .int v1, .int v2]) (n := 3) (Nat.le_of_ble_eq_true rfl)
  rw [lg_entry_eq]
  generalize (lg_sl ([.int v0, .int v1, .int v2]) ++ List.replicate (3 - (lg_sl ([.int v0, .int v1, .int v2])).length) Slot.unset).toArray = ls at hl ⊢
  have hl : lv_has ls 3 [(0, .int v0), (1, .int v1), (2, .int v2)] := hl
  exact db_X16_storing_0 (dC := dC) (dI := dI) (a := a) (ac := ac) (n := n) (r := r) ⟨hlt, hx, hb, hml, hown, hts, hN, hA, hK⟩ (fun pc v τ H locs ls d z er hP hD hS => by subst er; exact W.zret (v := v) hx hb hr z (fun t ht hW => ⟨⟨v, (), rfl, rfl, by rw [ht]; exact hP, va_K.moved hW.alike hK, hD⟩, hS.F ht⟩) hS.2.2 d) v0 v1 v2 s0 _ _ _ h hP hD va_S.rf (lv_sub hl [0, 1, 2] rfl)
def ow_dm_X16_two : List Cond := .code yX16_two cX16_two 7 (some .int) :: ([.methodLink RX16 297 yX16_part, .static yX16_part, .initialized RX16, .methodLink RX16 300 yX16_bit, .static yX16_bit, .methodLink RX16 313 yX16_immediate, .static yX16_immediate, .constant RX16 335 (1048691), .methodLink RX16 332 yX16_threes, .static yX16_threes, .methodLink RX16 317 yX16_storing, .static yX16_storing] ++ (ow_dm_X16_part ++ (ow_dm_X16_bit ++ (ow_dm_X16_immediate ++ (ow_dm_X16_threes ++ (ow_dm_X16_storing ++ []))))))
theorem gd_dm_X16_two : ∀ w ∈ ow_dm_X16_two, (w.onTables && w.keeps) = true ∨ ∃ ty, w = Cond.arrayClass ty := List.forall_mem_cons.mpr ⟨good_of_word rfl, List.forall_mem_append.mpr ⟨fun w h => good_of_word (List.all_eq_true.mp (by decide +kernel) w h), List.forall_mem_append.mpr ⟨gd_dm_X16_part, List.forall_mem_append.mpr ⟨gd_dm_X16_bit, List.forall_mem_append.mpr ⟨gd_dm_X16_immediate, List.forall_mem_append.mpr ⟨gd_dm_X16_threes, List.forall_mem_append.mpr ⟨gd_dm_X16_storing, fun _ h => nomatch h⟩⟩⟩⟩⟩⟩⟩
theorem gi_dm_X16_two_0 : GoodIn ow_dm_X16_two (wsS RX16 297 yX16_part ow_dm_X16_part) := goodIn_app (goodIn_of _ (by decide +kernel)) (fun w h => ⟨List.mem_cons_of_mem _ (List.mem_append_right _ (List.mem_append_left _ h)), gd_dm_X16_part w h⟩)
theorem gi_dm_X16_two_1 : GoodIn ow_dm_X16_two (wsS RX16 300 yX16_bit ow_dm_X16_bit) := goodIn_app (goodIn_of _ (by decide +kernel)) (fun w h => ⟨List.mem_cons_of_mem _ (List.mem_append_right _ (List.mem_append_right _ (List.mem_append_left _ h))), gd_dm_X16_bit w h⟩)
theorem gi_dm_X16_two_2 : GoodIn ow_dm_X16_two (wsS RX16 313 yX16_immediate ow_dm_X16_immediate) := goodIn_app (goodIn_of _ (by decide +kernel)) (fun w h => ⟨List.mem_cons_of_mem _ (List.mem_append_right _ (List.mem_append_right _ (List.mem_append_right _ (List.mem_append_left _ h)))), gd_dm_X16_immediate w h⟩)
theorem gi_dm_X16_two_3 : GoodIn ow_dm_X16_two (wsS RX16 332 yX16_threes ow_dm_X16_threes) := goodIn_app (goodIn_of _ (by decide +kernel)) (fun w h => ⟨List.mem_cons_of_mem _ (List.mem_append_right _ (List.mem_append_right _ (List.mem_append_right _ (List.mem_append_right _ (List.mem_append_left _ h))))), gd_dm_X16_threes w h⟩)
theorem gi_dm_X16_two_4 : GoodIn ow_dm_X16_two (wsS RX16 317 yX16_storing ow_dm_X16_storing) := goodIn_app (goodIn_of _ (by decide +kernel)) (fun w h => ⟨List.mem_cons_of_mem _ (List.mem_append_right _ (List.mem_append_right _ (List.mem_append_right _ (List.mem_append_right _ (List.mem_append_right _ (List.mem_append_left _ h)))))), gd_dm_X16_storing w h⟩)
def dj_X16_two_199 (p : Program) (l : Launch) (e : Env) (s : State) (m : MethodId) (args : Array Value) (below : List Frame) (meth : Method) (c : Code) (Q : State → Prop) (A : Nat → Prop) (dC : Nat → ClassId) (dI : Nat → Nat → Nat) (a : Nat → Nat) (ac : Nat → ClassId) (g : Int32 → Int32 → Int32 → Int32 → (Unit) → Option (Int32 × (Unit))) (r : Int32 × (Unit)) : Prop := ∀ (x2 : Int32) (y0 : Int32) (y1 : Int32) (y2 : Int32) (s0 : Unit) (H : Heap) (locs : List Loc) (ls : Array Slot), g x2 y0 y1 y2 s0 = some r → va_P (dC, dI) vwCl (dw_P a ac s0) H → va_D A (dw_P a ac s0) → va_S A s.heap H locs → lv_has ls 7 [(2, .int x2)] → W p l e (headSpec ow_dm_X16_two ({ frames := 3, cells := 0, slots := 0, locals := 67 })).room s m args below meth c H locs 0 0 Q (F0 m 199 ls [.int y2, .int y1, .int y0])
def dj_X16_two_185 (p : Program) (l : Launch) (e : Env) (s : State) (m : MethodId) (args : Array Value) (below : List Frame) (meth : Method) (c : Code) (Q : State → Prop) (A : Nat → Prop) (dC : Nat → ClassId) (dI : Nat → Nat → Nat) (a : Nat → Nat) (ac : Nat → ClassId) (g : Int32 → (Unit) → Option (Int32 × (Unit))) (r : Int32 × (Unit)) : Prop := ∀ (y0 : Int32) (s0 : Unit) (H : Heap) (locs : List Loc) (ls : Array Slot), g y0 s0 = some r → va_P (dC, dI) vwCl (dw_P a ac s0) H → va_D A (dw_P a ac s0) → va_S A s.heap H locs → lv_has ls 7 [] → W p l e (headSpec ow_dm_X16_two ({ frames := 3, cells := 0, slots := 0, locals := 67 })).room s m args below meth c H locs 0 0 Q (F0 m 185 ls [.int y0])
def dj_X16_two_164 (p : Program) (l : Launch) (e : Env) (s : State) (m : MethodId) (args : Array Value) (below : List Frame) (meth : Method) (c : Code) (Q : State → Prop) (A : Nat → Prop) (dC : Nat → ClassId) (dI : Nat → Nat → Nat) (a : Nat → Nat) (ac : Nat → ClassId) (g : Int32 → Int32 → Int32 → Int32 → Int32 → (Unit) → Option (Int32 × (Unit))) (r : Int32 × (Unit)) : Prop := ∀ (x3 : Int32) (y0 : Int32) (y1 : Int32) (y2 : Int32) (y3 : Int32) (s0 : Unit) (H : Heap) (locs : List Loc) (ls : Array Slot), g x3 y0 y1 y2 y3 s0 = some r → va_P (dC, dI) vwCl (dw_P a ac s0) H → va_D A (dw_P a ac s0) → va_S A s.heap H locs → lv_has ls 7 [(3, .int x3)] → W p l e (headSpec ow_dm_X16_two ({ frames := 3, cells := 0, slots := 0, locals := 67 })).room s m args below meth c H locs 0 0 Q (F0 m 164 ls [.int y3, .int y2, .int y1, .int y0])
def dj_X16_two_125 (p : Program) (l : Launch) (e : Env) (s : State) (m : MethodId) (args : Array Value) (below : List Frame) (meth : Method) (c : Code) (Q : State → Prop) (A : Nat → Prop) (dC : Nat → ClassId) (dI : Nat → Nat → Nat) (a : Nat → Nat) (ac : Nat → ClassId) (g : Int32 → (Unit) → Option (Int32 × (Unit))) (r : Int32 × (Unit)) : Prop := ∀ (y0 : Int32) (s0 : Unit) (H : Heap) (locs : List Loc) (ls : Array Slot), g y0 s0 = some r → va_P (dC, dI) vwCl (dw_P a ac s0) H → va_D A (dw_P a ac s0) → va_S A s.heap H locs → lv_has ls 7 [] → W p l e (headSpec ow_dm_X16_two ({ frames := 3, cells := 0, slots := 0, locals := 67 })).room s m args below meth c H locs 0 0 Q (F0 m 125 ls [.int y0])
def dj_X16_two_102 (p : Program) (l : Launch) (e : Env) (s : State) (m : MethodId) (args : Array Value) (below : List Frame) (meth : Method) (c : Code) (Q : State → Prop) (A : Nat → Prop) (dC : Nat → ClassId) (dI : Nat → Nat → Nat) (a : Nat → Nat) (ac : Nat → ClassId) (g : Int32 → (Unit) → Option (Int32 × (Unit))) (r : Int32 × (Unit)) : Prop := ∀ (y0 : Int32) (s0 : Unit) (H : Heap) (locs : List Loc) (ls : Array Slot), g y0 s0 = some r → va_P (dC, dI) vwCl (dw_P a ac s0) H → va_D A (dw_P a ac s0) → va_S A s.heap H locs → lv_has ls 7 [] → W p l e (headSpec ow_dm_X16_two ({ frames := 3, cells := 0, slots := 0, locals := 67 })).room s m args below meth c H locs 0 0 Q (F0 m 102 ls [.int y0])
def dj_X16_two_31 (p : Program) (l : Launch) (e : Env) (s : State) (m : MethodId) (args : Array Value) (below : List Frame) (meth : Method) (c : Code) (Q : State → Prop) (A : Nat → Prop) (dC : Nat → ClassId) (dI : Nat → Nat → Nat) (a : Nat → Nat) (ac : Nat → ClassId) (g : Int32 → Int32 → Int32 → Int32 → Int32 → (Unit) → Option (Int32 × (Unit))) (r : Int32 × (Unit)) : Prop := ∀ (x0 : Int32) (x1 : Int32) (x2 : Int32) (x3 : Int32) (y0 : Int32) (s0 : Unit) (H : Heap) (locs : List Loc) (ls : Array Slot), g x0 x1 x2 x3 y0 s0 = some r → va_P (dC, dI) vwCl (dw_P a ac s0) H → va_D A (dw_P a ac s0) → va_S A s.heap H locs → lv_has ls 7 [(0, .int x0), (1, .int x1), (2, .int x2), (3, .int x3)] → W p l e (headSpec ow_dm_X16_two ({ frames := 3, cells := 0, slots := 0, locals := 67 })).room s m args below meth c H locs 0 0 Q (F0 m 31 ls [.int y0])
def dj_X16_two_0 (p : Program) (l : Launch) (e : Env) (s : State) (m : MethodId) (args : Array Value) (below : List Frame) (meth : Method) (c : Code) (Q : State → Prop) (A : Nat → Prop) (dC : Nat → ClassId) (dI : Nat → Nat → Nat) (a : Nat → Nat) (ac : Nat → ClassId) (g : Int32 → Int32 → (Unit) → Option (Int32 × (Unit))) (r : Int32 × (Unit)) : Prop := ∀ (v0 : Int32) (v1 : Int32) (s0 : Unit) (H : Heap) (locs : List Loc) (ls : Array Slot), g v0 v1 s0 = some r → va_P (dC, dI) vwCl (dw_P a ac s0) H → va_D A (dw_P a ac s0) → va_S A s.heap H locs → lv_has ls 7 [(0, .int v0), (1, .int v1)] → W p l e (headSpec ow_dm_X16_two ({ frames := 3, cells := 0, slots := 0, locals := 67 })).room s m args below meth c H locs 0 0 Q (F0 m 0 ls [])
set_option maxHeartbeats 40000000 in
set_option maxRecDepth 100000 in
theorem db_X16_two_199 {p : Program} {l : Launch} {e : Env} {s : State} {m : MethodId} {args : Array Value} {below : List Frame} {meth : Method} {c : Code} {Q : State → Prop} {A : Nat → Prop} {dC : Nat → ClassId} {dI : Nat → Nat → Nat} {a : Nat → Nat} {ac : Nat → ClassId} {n : Nat} {r : Int32 × (Unit)} (C : nd_C p l s m args c A (dC, dI) cX16_two 7 RX16 ow_dm_X16_two (dk_P ac)) (K : nd_Ki p l e (headSpec ow_dm_X16_two ({ frames := 3, cells := 0, slots := 0, locals := 67 })).room s m args below meth c Q A (dC, dI) cX16_two .int (Unit) (dw_P a ac) r) : dj_X16_two_199 p l e s m args below meth c Q A dC dI a ac (df_X16_two_199 n) r := by
  obtain ⟨hlt, hx, hb, hml, hown, hts, hN, hA, hK⟩ := id C
  intro x2 y0 y1 y2 s0 H locs ls h hP hD hS hl
  unfold df_X16_two_199 at h
  refine lv_iload_n hx hb dX16_two_199 rfl (lv_at hl 0 rfl) ?_
  refine lv_iconst (v := 0) hx hb dX16_two_200 (by decide) ?_
  obtain ⟨q35, s36, hq, h⟩ := nd_b2_e h
  have hPc : va_P (dC, dI) vwCl (dw_P a ac ()) H := nd_p0
  have hDc : va_D A (dw_P a ac ()) := nd_d0
  have hKc : va_K (dC, dI) vwCl (dk_P ac) s := nd_y0 hK
  have hFc : ∀ q, va_A (dw_P a ac ()) H.size q → A q := nd_r0 hS hA
  refine nd_cSi (As := [.int y0, .int y1, .int y2, .int x2, .int 0]) (rest := []) (q := q35) (w' := dw_P a ac s36) ⟨hx, hb, hml, hown, hts⟩ (fun sz => dm_X16_immediate l hlt dC dI a ac n (y0) (y1) (y2) (x2) (0) () hq sz) (cwS 5 hts gi_dm_X16_two_2 rfl rfl rfl (by decide +kernel) ⟨Nat.le_of_ble_eq_true rfl, Nat.le_of_ble_eq_true rfl⟩) hPc hDc hKc hS hA hN rfl hl.1 rfl (Nat.le_of_ble_eq_true rfl) dX16_two_201 (fun H locs hP1 hD1 hk1 hS => ?_)
  have hP := nd_n0 hP hk1
  exact K _ _ _ _ _ _ dX16_two_204 rfl (Option.some.inj h).symm hP hD hS
set_option maxHeartbeats 40000000 in
set_option maxRecDepth 100000 in
theorem db_X16_two_185 {p : Program} {l : Launch} {e : Env} {s : State} {m : MethodId} {args : Array Value} {below : List Frame} {meth : Method} {c : Code} {Q : State → Prop} {A : Nat → Prop} {dC : Nat → ClassId} {dI : Nat → Nat → Nat} {a : Nat → Nat} {ac : Nat → ClassId} {n : Nat} {r : Int32 × (Unit)} (C : nd_C p l s m args c A (dC, dI) cX16_two 7 RX16 ow_dm_X16_two (dk_P ac)) (K : nd_Ki p l e (headSpec ow_dm_X16_two ({ frames := 3, cells := 0, slots := 0, locals := 67 })).room s m args below meth c Q A (dC, dI) cX16_two .int (Unit) (dw_P a ac) r) : dj_X16_two_185 p l e s m args below meth c Q A dC dI a ac (df_X16_two_185 n) r := by
  obtain ⟨hlt, hx, hb, hml, hown, hts, hN, hA, hK⟩ := id C
  intro y0 s0 H locs ls h hP hD hS hl
  unfold df_X16_two_185 at h
  exact K _ _ _ _ _ _ dX16_two_185 rfl (Option.some.inj h).symm hP hD hS
set_option maxHeartbeats 40000000 in
set_option maxRecDepth 100000 in
theorem db_X16_two_164 {p : Program} {l : Launch} {e : Env} {s : State} {m : MethodId} {args : Array Value} {below : List Frame} {meth : Method} {c : Code} {Q : State → Prop} {A : Nat → Prop} {dC : Nat → ClassId} {dI : Nat → Nat → Nat} {a : Nat → Nat} {ac : Nat → ClassId} {n : Nat} {r : Int32 × (Unit)} (C : nd_C p l s m args c A (dC, dI) cX16_two 7 RX16 ow_dm_X16_two (dk_P ac)) (K : nd_Ki p l e (headSpec ow_dm_X16_two ({ frames := 3, cells := 0, slots := 0, locals := 67 })).room s m args below meth c Q A (dC, dI) cX16_two .int (Unit) (dw_P a ac) r) : dj_X16_two_164 p l e s m args below meth c Q A dC dI a ac (df_X16_two_164 n) r := by
  obtain ⟨hlt, hx, hb, hml, hown, hts, hN, hA, hK⟩ := id C
  intro x3 y0 y1 y2 y3 s0 H locs ls h hP hD hS hl
  unfold df_X16_two_164 at h
  refine lv_iload_n hx hb dX16_two_164 rfl (lv_at hl 0 rfl) ?_
  obtain ⟨q40, s41, hq, h⟩ := nd_b2_e h
  have hPc : va_P (dC, dI) vwCl (dw_P a ac ()) H := nd_p0
  have hDc : va_D A (dw_P a ac ()) := nd_d0
  have hKc : va_K (dC, dI) vwCl (dk_P ac) s := nd_y0 hK
  have hFc : ∀ q, va_A (dw_P a ac ()) H.size q → A q := nd_r0 hS hA
  refine nd_cSi (As := [.int y0, .int y1, .int y2, .int y3, .int x3]) (rest := []) (q := q40) (w' := dw_P a ac s41) ⟨hx, hb, hml, hown, hts⟩ (fun sz => dm_X16_threes l hlt dC dI a ac n (y0) (y1) (y2) (y3) (x3) () hq sz) (cwS 5 hts gi_dm_X16_two_3 rfl rfl rfl (by decide +kernel) ⟨Nat.le_of_ble_eq_true rfl, Nat.le_of_ble_eq_true rfl⟩) hPc hDc hKc hS hA hN rfl hl.1 rfl (Nat.le_of_ble_eq_true rfl) dX16_two_165 (fun H locs hP1 hD1 hk1 hS => ?_)
  have hP := nd_n0 hP hk1
  exact K _ _ _ _ _ _ dX16_two_168 rfl (Option.some.inj h).symm hP hD hS
set_option maxHeartbeats 40000000 in
set_option maxRecDepth 100000 in
theorem db_X16_two_125 {p : Program} {l : Launch} {e : Env} {s : State} {m : MethodId} {args : Array Value} {below : List Frame} {meth : Method} {c : Code} {Q : State → Prop} {A : Nat → Prop} {dC : Nat → ClassId} {dI : Nat → Nat → Nat} {a : Nat → Nat} {ac : Nat → ClassId} {n : Nat} {r : Int32 × (Unit)} (C : nd_C p l s m args c A (dC, dI) cX16_two 7 RX16 ow_dm_X16_two (dk_P ac)) (K : nd_Ki p l e (headSpec ow_dm_X16_two ({ frames := 3, cells := 0, slots := 0, locals := 67 })).room s m args below meth c Q A (dC, dI) cX16_two .int (Unit) (dw_P a ac) r) : dj_X16_two_125 p l e s m args below meth c Q A dC dI a ac (df_X16_two_125 n) r := by
  obtain ⟨hlt, hx, hb, hml, hown, hts, hN, hA, hK⟩ := id C
  intro y0 s0 H locs ls h hP hD hS hl
  unfold df_X16_two_125 at h
  exact K _ _ _ _ _ _ dX16_two_125 rfl (Option.some.inj h).symm hP hD hS
set_option maxHeartbeats 40000000 in
set_option maxRecDepth 100000 in
theorem db_X16_two_102 {p : Program} {l : Launch} {e : Env} {s : State} {m : MethodId} {args : Array Value} {below : List Frame} {meth : Method} {c : Code} {Q : State → Prop} {A : Nat → Prop} {dC : Nat → ClassId} {dI : Nat → Nat → Nat} {a : Nat → Nat} {ac : Nat → ClassId} {n : Nat} {r : Int32 × (Unit)} (C : nd_C p l s m args c A (dC, dI) cX16_two 7 RX16 ow_dm_X16_two (dk_P ac)) (K : nd_Ki p l e (headSpec ow_dm_X16_two ({ frames := 3, cells := 0, slots := 0, locals := 67 })).room s m args below meth c Q A (dC, dI) cX16_two .int (Unit) (dw_P a ac) r) : dj_X16_two_102 p l e s m args below meth c Q A dC dI a ac (df_X16_two_102 n) r := by
  obtain ⟨hlt, hx, hb, hml, hown, hts, hN, hA, hK⟩ := id C
  intro y0 s0 H locs ls h hP hD hS hl
  unfold df_X16_two_102 at h
  exact K _ _ _ _ _ _ dX16_two_102 rfl (Option.some.inj h).symm hP hD hS
set_option maxHeartbeats 40000000 in
set_option maxRecDepth 100000 in
theorem db_X16_two_31 {p : Program} {l : Launch} {e : Env} {s : State} {m : MethodId} {args : Array Value} {below : List Frame} {meth : Method} {c : Code} {Q : State → Prop} {A : Nat → Prop} {dC : Nat → ClassId} {dI : Nat → Nat → Nat} {a : Nat → Nat} {ac : Nat → ClassId} {n : Nat} {r : Int32 × (Unit)} (C : nd_C p l s m args c A (dC, dI) cX16_two 7 RX16 ow_dm_X16_two (dk_P ac)) (K : nd_Ki p l e (headSpec ow_dm_X16_two ({ frames := 3, cells := 0, slots := 0, locals := 67 })).room s m args below meth c Q A (dC, dI) cX16_two .int (Unit) (dw_P a ac) r) : dj_X16_two_31 p l e s m args below meth c Q A dC dI a ac (df_X16_two_31 n) r := by
  obtain ⟨hlt, hx, hb, hml, hown, hts, hN, hA, hK⟩ := id C
  intro x0 x1 x2 x3 y0 s0 H locs ls h hP hD hS hl
  unfold df_X16_two_31 at h
  refine lv_istore (lv' := [(4, .int y0), (0, .int x0), (1, .int x1), (2, .int x2), (3, .int x3)]) hx hb dX16_two_31 hl (by decide) rfl (fun ls hl => ?_)
  refine lv_iload_n hx hb dX16_two_33 rfl (lv_at hl 1 rfl) ?_
  refine lv_bipush (v := 12) hx hb dX16_two_34 (by decide) ?_
  refine lv_iconst (v := 1) hx hb dX16_two_36 (by decide) ?_
  refine lv_iconst (v := 5) hx hb dX16_two_37 (by decide) ?_
  obtain ⟨q11, s12, hq, h⟩ := nd_b2_e h
  have hPc : va_P (dC, dI) vwCl (dw_P a ac ()) H := nd_p0
  have hDc : va_D A (dw_P a ac ()) := nd_d0
  have hKc : va_K (dC, dI) vwCl (dk_P ac) s := nd_y0 hK
  have hFc : ∀ q, va_A (dw_P a ac ()) H.size q → A q := nd_r0 hS hA
  refine nd_cSi (As := [.int x0, .int 12, .int 1, .int 5]) (rest := []) (q := q11) (w' := dw_P a ac s12) ⟨hx, hb, hml, hown, hts⟩ (fun sz => dm_X16_bit l hlt dC dI a ac n (x0) (12) (1) (5) () hq sz) (cwS 4 hts gi_dm_X16_two_1 rfl rfl rfl (by decide +kernel) ⟨Nat.le_of_ble_eq_true rfl, Nat.le_of_ble_eq_true rfl⟩) hPc hDc hKc hS hA hN rfl hl.1 rfl (Nat.le_of_ble_eq_true rfl) dX16_two_38 (fun H locs hP1 hD1 hk1 hS => ?_)
  have hP := nd_n0 hP hk1
  refine lv_iload_n hx hb dX16_two_41 rfl (lv_at hl 1 rfl) ?_
  refine lv_iconst (v := 4) hx hb dX16_two_42 (by decide) ?_
  refine lv_iconst (v := 3) hx hb dX16_two_43 (by decide) ?_
  refine lv_iconst (v := 2) hx hb dX16_two_44 (by decide) ?_
  obtain ⟨q14, s15, hq, h⟩ := nd_b2_e h
  have hPc : va_P (dC, dI) vwCl (dw_P a ac ()) H := nd_p0
  have hDc : va_D A (dw_P a ac ()) := nd_d0
  have hKc : va_K (dC, dI) vwCl (dk_P ac) s := nd_y0 hK
  have hFc : ∀ q, va_A (dw_P a ac ()) H.size q → A q := nd_r0 hS hA
  refine nd_cSi (As := [.int x0, .int 4, .int 3, .int 2]) (rest := [.int q11]) (q := q14) (w' := dw_P a ac s15) ⟨hx, hb, hml, hown, hts⟩ (fun sz => dm_X16_bit l hlt dC dI a ac n (x0) (4) (3) (2) () hq sz) (cwS 4 hts gi_dm_X16_two_1 rfl rfl rfl (by decide +kernel) ⟨Nat.le_of_ble_eq_true rfl, Nat.le_of_ble_eq_true rfl⟩) hPc hDc hKc hS hA hN rfl hl.1 rfl (Nat.le_of_ble_eq_true rfl) dX16_two_45 (fun H locs hP1 hD1 hk1 hS => ?_)
  have hP := nd_n0 hP hk1
  refine lv_ior hx hb dX16_two_48 ?_
  refine lv_iload_n hx hb dX16_two_49 rfl (lv_at hl 1 rfl) ?_
  refine lv_iconst (v := 2) hx hb dX16_two_50 (by decide) ?_
  refine lv_iconst (v := 2) hx hb dX16_two_51 (by decide) ?_
  refine lv_bipush (v := 6) hx hb dX16_two_52 (by decide) ?_
  obtain ⟨q17, s18, hq, h⟩ := nd_b2_e h
  have hPc : va_P (dC, dI) vwCl (dw_P a ac ()) H := nd_p0
  have hDc : va_D A (dw_P a ac ()) := nd_d0
  have hKc : va_K (dC, dI) vwCl (dk_P ac) s := nd_y0 hK
  have hFc : ∀ q, va_A (dw_P a ac ()) H.size q → A q := nd_r0 hS hA
  refine nd_cSi (As := [.int x0, .int 2, .int 2, .int 6]) (rest := [.int (q11 ||| q14)]) (q := q17) (w' := dw_P a ac s18) ⟨hx, hb, hml, hown, hts⟩ (fun sz => dm_X16_bit l hlt dC dI a ac n (x0) (2) (2) (6) () hq sz) (cwS 4 hts gi_dm_X16_two_1 rfl rfl rfl (by decide +kernel) ⟨Nat.le_of_ble_eq_true rfl, Nat.le_of_ble_eq_true rfl⟩) hPc hDc hKc hS hA hN rfl hl.1 rfl (Nat.le_of_ble_eq_true rfl) dX16_two_54 (fun H locs hP1 hD1 hk1 hS => ?_)
  have hP := nd_n0 hP hk1
  refine lv_ior hx hb dX16_two_57 ?_
  refine lv_topi (fun z20 ez20 => ?_)
  have h := nd_at h ez20
  refine lv_istore (lv' := [(5, .int z20), (4, .int y0), (0, .int x0), (1, .int x1), (2, .int x2), (3, .int x3)]) hx hb dX16_two_58 hl (by decide) rfl (fun ls hl => ?_)
  refine lv_iload_n hx hb dX16_two_60 rfl (lv_at hl 2 rfl) ?_
  refine lv_bipush (v := 9) hx hb dX16_two_61 (by decide) ?_
  refine lv_iconst (v := 4) hx hb dX16_two_63 (by decide) ?_
  refine lv_iconst (v := 2) hx hb dX16_two_64 (by decide) ?_
  obtain ⟨q21, s22, hq, h⟩ := nd_b2_e h
  have hPc : va_P (dC, dI) vwCl (dw_P a ac ()) H := nd_p0
  have hDc : va_D A (dw_P a ac ()) := nd_d0
  have hKc : va_K (dC, dI) vwCl (dk_P ac) s := nd_y0 hK
  have hFc : ∀ q, va_A (dw_P a ac ()) H.size q → A q := nd_r0 hS hA
  refine nd_cSi (As := [.int x0, .int 9, .int 4, .int 2]) (rest := []) (q := q21) (w' := dw_P a ac s22) ⟨hx, hb, hml, hown, hts⟩ (fun sz => dm_X16_bit l hlt dC dI a ac n (x0) (9) (4) (2) () hq sz) (cwS 4 hts gi_dm_X16_two_1 rfl rfl rfl (by decide +kernel) ⟨Nat.le_of_ble_eq_true rfl, Nat.le_of_ble_eq_true rfl⟩) hPc hDc hKc hS hA hN rfl hl.1 rfl (Nat.le_of_ble_eq_true rfl) dX16_two_65 (fun H locs hP1 hD1 hk1 hS => ?_)
  have hP := nd_n0 hP hk1
  refine lv_iload_n hx hb dX16_two_68 rfl (lv_at hl 2 rfl) ?_
  refine lv_bipush (v := 7) hx hb dX16_two_69 (by decide) ?_
  refine lv_iconst (v := 2) hx hb dX16_two_71 (by decide) ?_
  refine lv_bipush (v := 6) hx hb dX16_two_72 (by decide) ?_
  obtain ⟨q24, s25, hq, h⟩ := nd_b2_e h
  have hPc : va_P (dC, dI) vwCl (dw_P a ac ()) H := nd_p0
  have hDc : va_D A (dw_P a ac ()) := nd_d0
  have hKc : va_K (dC, dI) vwCl (dk_P ac) s := nd_y0 hK
  have hFc : ∀ q, va_A (dw_P a ac ()) H.size q → A q := nd_r0 hS hA
  refine nd_cSi (As := [.int x0, .int 7, .int 2, .int 6]) (rest := [.int q21]) (q := q24) (w' := dw_P a ac s25) ⟨hx, hb, hml, hown, hts⟩ (fun sz => dm_X16_bit l hlt dC dI a ac n (x0) (7) (2) (6) () hq sz) (cwS 4 hts gi_dm_X16_two_1 rfl rfl rfl (by decide +kernel) ⟨Nat.le_of_ble_eq_true rfl, Nat.le_of_ble_eq_true rfl⟩) hPc hDc hKc hS hA hN rfl hl.1 rfl (Nat.le_of_ble_eq_true rfl) dX16_two_74 (fun H locs hP1 hD1 hk1 hS => ?_)
  have hP := nd_n0 hP hk1
  refine lv_ior hx hb dX16_two_77 ?_
  refine lv_topi (fun z27 ez27 => ?_)
  have h := nd_at h ez27
  refine lv_istore (lv' := [(6, .int z27), (5, .int z20), (4, .int y0), (0, .int x0), (1, .int x1), (2, .int x2), (3, .int x3)]) hx hb dX16_two_78 hl (by decide) rfl (fun ls hl => ?_)
  refine lv_iload_n hx hb dX16_two_80 rfl (lv_at hl 4 rfl) ?_
  refine lv_if_ne (tgt := 103) hx hb dX16_two_81 (by decide) (fun c28 => ?_) (fun c28 => ?_)
  · have h := nd_neg h c28
    refine lv_iload_n hx hb dX16_two_103 rfl (lv_at hl 4 rfl) ?_
    refine lv_iconst (v := 2) hx hb dX16_two_104 (by decide) ?_
    refine lv_icmp_ne (tgt := 126) hx hb dX16_two_105 (by decide) (fun c29 => ?_) (fun c29 => ?_)
    · have h := nd_neg h c29
      refine lv_iload_n hx hb dX16_two_126 rfl (lv_at hl 4 rfl) ?_
      refine lv_bipush (v := 6) hx hb dX16_two_127 (by decide) ?_
      refine lv_icmp_ne (tgt := 140) hx hb dX16_two_129 (by decide) (fun c30 => ?_) (fun c30 => ?_)
      · have h := nd_neg h c30
        refine lv_iload_n hx hb dX16_two_140 rfl (lv_at hl 4 rfl) ?_
        refine lv_iconst (v := 4) hx hb dX16_two_141 (by decide) ?_
        refine lv_icmp_eq (tgt := 147) hx hb dX16_two_142 (by decide) (fun c31 => ?_) (fun c31 => ?_)
        · have h := nd_pos h c31
          refine lv_iload_n hx hb dX16_two_147 rfl (lv_at hl 6 rfl) ?_
          refine lv_if_le (tgt := 169) hx hb dX16_two_148 (by decide) (fun c32 => ?_) (fun c32 => ?_)
          · have h := nd_pos h c32
            refine lv_iload_n hx hb dX16_two_169 rfl (lv_at hl 5 rfl) ?_
            refine lv_if_ne (tgt := 186) hx hb dX16_two_170 (by decide) (fun c33 => ?_) (fun c33 => ?_)
            · have h := nd_neg h c33
              refine lv_bipush (v := 103) hx hb dX16_two_186 (by decide) ?_
              refine lv_iconst (v := 0) hx hb dX16_two_188 (by decide) ?_
              refine lv_iload hx hb dX16_two_189 (lv_at hl 2 rfl) ?_
              refine lv_if_eq (tgt := 198) hx hb dX16_two_191 (by decide) (fun c34 => ?_) (fun c34 => ?_)
              · have h := nd_pos h c34
                refine lv_iconst (v := 0) hx hb dX16_two_198 (by decide) ?_
                exact (db_X16_two_199 C K) (x2) (103) (0) (0) s0 _ _ _ h hP hD hS (lv_sub hl [5] rfl)
              · have h := nd_neg h c34
                refine lv_iconst (v := 1) hx hb dX16_two_194 (by decide) ?_
                refine lv_goto (tgt := 199) hx hb dX16_two_195 (by decide) ?_
                exact (db_X16_two_199 C K) (x2) (103) (0) (1) s0 _ _ _ h hP hD hS (lv_sub hl [5] rfl)
            · have h := nd_pos h c33
              refine lv_iload hx hb dX16_two_173 (lv_at hl 2 rfl) ?_
              refine lv_if_eq (tgt := 184) hx hb dX16_two_175 (by decide) (fun c38 => ?_) (fun c38 => ?_)
              · have h := nd_pos h c38
                refine lv_iconst (v := 0) hx hb dX16_two_184 (by decide) ?_
                exact (db_X16_two_185 C K) (0) s0 _ _ _ h hP hD hS (lv_sub hl [] rfl)
              · have h := nd_neg h c38
                refine lv_ldcw hx hb hown (hts (.constant RX16 335 (1048691)) (List.mem_of_getElem? (i := 8) rfl)) dX16_two_178 ?_
                refine lv_goto (tgt := 185) hx hb dX16_two_181 (by decide) ?_
                exact (db_X16_two_185 C K) (1048691) s0 _ _ _ h hP hD hS (lv_sub hl [] rfl)
          · have h := nd_neg h c32
            refine lv_iconst (v := 0) hx hb dX16_two_151 (by decide) ?_
            refine lv_iconst (v := 0) hx hb dX16_two_152 (by decide) ?_
            refine lv_iload_n hx hb dX16_two_153 rfl (lv_at hl 5 rfl) ?_
            refine lv_iload hx hb dX16_two_154 (lv_at hl 2 rfl) ?_
            refine lv_if_eq (tgt := 163) hx hb dX16_two_156 (by decide) (fun c39 => ?_) (fun c39 => ?_)
            · have h := nd_pos h c39
              refine lv_iconst (v := 0) hx hb dX16_two_163 (by decide) ?_
              exact (db_X16_two_164 C K) (x3) (0) (0) (x2) (0) s0 _ _ _ h hP hD hS (lv_sub hl [6] rfl)
            · have h := nd_neg h c39
              refine lv_iload_n hx hb dX16_two_159 rfl (lv_at hl 5 rfl) ?_
              refine lv_goto (tgt := 164) hx hb dX16_two_160 (by decide) ?_
              exact (db_X16_two_164 C K) (x3) (0) (0) (x2) (x2) s0 _ _ _ h hP hD hS (lv_sub hl [6] rfl)
        · have h := nd_neg h c31
          refine lv_iconst (v := 0) hx hb dX16_two_145 (by decide) ?_
          exact K _ _ _ _ _ _ dX16_two_146 rfl (Option.some.inj h).symm hP hD hS
      · have h := nd_pos h c30
        refine lv_iconst (v := 2) hx hb dX16_two_132 (by decide) ?_
        refine lv_iload_n hx hb dX16_two_133 rfl (lv_at hl 6 rfl) ?_
        refine lv_iload hx hb dX16_two_134 (lv_at hl 0 rfl) ?_
        obtain ⟨q43, s44, hq, h⟩ := nd_b2_e h
        have hPc : va_P (dC, dI) vwCl (dw_P a ac ()) H := nd_p0
        have hDc : va_D A (dw_P a ac ()) := nd_d0
        have hKc : va_K (dC, dI) vwCl (dk_P ac) s := nd_y0 hK
        have hFc : ∀ q, va_A (dw_P a ac ()) H.size q → A q := nd_r0 hS hA
        refine nd_cSi (As := [.int 2, .int x3, .int z27]) (rest := []) (q := q43) (w' := dw_P a ac s44) ⟨hx, hb, hml, hown, hts⟩ (fun sz => dm_X16_storing l hlt dC dI a ac n (2) (x3) (z27) () hq sz) (cwS 3 hts gi_dm_X16_two_4 rfl rfl rfl (by decide +kernel) ⟨Nat.le_of_ble_eq_true rfl, Nat.le_of_ble_eq_true rfl⟩) hPc hDc hKc hS hA hN rfl hl.1 rfl (Nat.le_of_ble_eq_true rfl) dX16_two_136 (fun H locs hP1 hD1 hk1 hS => ?_)
        have hP := nd_n0 hP hk1
        exact K _ _ _ _ _ _ dX16_two_139 rfl (Option.some.inj h).symm hP hD hS
    · have h := nd_pos h c29
      refine lv_iload_n hx hb dX16_two_108 rfl (lv_at hl 5 rfl) ?_
      refine lv_if_ne (tgt := 116) hx hb dX16_two_109 (by decide) (fun c46 => ?_) (fun c46 => ?_)
      · have h := nd_neg h c46
        refine lv_iconst (v := 3) hx hb dX16_two_116 (by decide) ?_
        refine lv_iconst (v := 2) hx hb dX16_two_117 (by decide) ?_
        refine lv_iload_n hx hb dX16_two_118 rfl (lv_at hl 5 rfl) ?_
        refine lv_iconst (v := 2) hx hb dX16_two_119 (by decide) ?_
        refine lv_iload hx hb dX16_two_120 (lv_at hl 1 rfl) ?_
        obtain ⟨q47, s48, hq, h⟩ := nd_b2_e h
        have hPc : va_P (dC, dI) vwCl (dw_P a ac ()) H := nd_p0
        have hDc : va_D A (dw_P a ac ()) := nd_d0
        have hKc : va_K (dC, dI) vwCl (dk_P ac) s := nd_y0 hK
        have hFc : ∀ q, va_A (dw_P a ac ()) H.size q → A q := nd_r0 hS hA
        refine nd_cSi (As := [.int 3, .int 2, .int x2, .int 2, .int z20]) (rest := []) (q := q47) (w' := dw_P a ac s48) ⟨hx, hb, hml, hown, hts⟩ (fun sz => dm_X16_immediate l hlt dC dI a ac n (3) (2) (x2) (2) (z20) () hq sz) (cwS 5 hts gi_dm_X16_two_2 rfl rfl rfl (by decide +kernel) ⟨Nat.le_of_ble_eq_true rfl, Nat.le_of_ble_eq_true rfl⟩) hPc hDc hKc hS hA hN rfl hl.1 rfl (Nat.le_of_ble_eq_true rfl) dX16_two_122 (fun H locs hP1 hD1 hk1 hS => ?_)
        have hP := nd_n0 hP hk1
        exact (db_X16_two_125 C K) (q47) s0 _ _ _ h hP hD hS (lv_sub hl [] rfl)
      · have h := nd_pos h c46
        refine lv_iconst (v := 0) hx hb dX16_two_112 (by decide) ?_
        refine lv_goto (tgt := 125) hx hb dX16_two_113 (by decide) ?_
        exact (db_X16_two_125 C K) (0) s0 _ _ _ h hP hD hS (lv_sub hl [] rfl)
  · have h := nd_pos h c28
    refine lv_iload hx hb dX16_two_84 (lv_at hl 2 rfl) ?_
    refine lv_if_eq (tgt := 93) hx hb dX16_two_86 (by decide) (fun c50 => ?_) (fun c50 => ?_)
    · have h := nd_pos h c50
      refine lv_bipush (v := 19) hx hb dX16_two_93 (by decide) ?_
      refine lv_iconst (v := 1) hx hb dX16_two_95 (by decide) ?_
      refine lv_iload_n hx hb dX16_two_96 rfl (lv_at hl 5 rfl) ?_
      refine lv_iload_n hx hb dX16_two_97 rfl (lv_at hl 5 rfl) ?_
      refine lv_iload_n hx hb dX16_two_98 rfl (lv_at hl 6 rfl) ?_
      obtain ⟨q51, s52, hq, h⟩ := nd_b2_e h
      have hPc : va_P (dC, dI) vwCl (dw_P a ac ()) H := nd_p0
      have hDc : va_D A (dw_P a ac ()) := nd_d0
      have hKc : va_K (dC, dI) vwCl (dk_P ac) s := nd_y0 hK
      have hFc : ∀ q, va_A (dw_P a ac ()) H.size q → A q := nd_r0 hS hA
      refine nd_cSi (As := [.int 19, .int 1, .int x2, .int x2, .int x3]) (rest := []) (q := q51) (w' := dw_P a ac s52) ⟨hx, hb, hml, hown, hts⟩ (fun sz => dm_X16_immediate l hlt dC dI a ac n (19) (1) (x2) (x2) (x3) () hq sz) (cwS 5 hts gi_dm_X16_two_2 rfl rfl rfl (by decide +kernel) ⟨Nat.le_of_ble_eq_true rfl, Nat.le_of_ble_eq_true rfl⟩) hPc hDc hKc hS hA hN rfl hl.1 rfl (Nat.le_of_ble_eq_true rfl) dX16_two_99 (fun H locs hP1 hD1 hk1 hS => ?_)
      have hP := nd_n0 hP hk1
      exact (db_X16_two_102 C K) (q51) s0 _ _ _ h hP hD hS (lv_sub hl [] rfl)
    · have h := nd_neg h c50
      refine lv_iconst (v := 0) hx hb dX16_two_89 (by decide) ?_
      refine lv_goto (tgt := 102) hx hb dX16_two_90 (by decide) ?_
      exact (db_X16_two_102 C K) (0) s0 _ _ _ h hP hD hS (lv_sub hl [] rfl)
set_option maxHeartbeats 40000000 in
set_option maxRecDepth 100000 in
theorem db_X16_two_0 {p : Program} {l : Launch} {e : Env} {s : State} {m : MethodId} {args : Array Value} {below : List Frame} {meth : Method} {c : Code} {Q : State → Prop} {A : Nat → Prop} {dC : Nat → ClassId} {dI : Nat → Nat → Nat} {a : Nat → Nat} {ac : Nat → ClassId} {n : Nat} {r : Int32 × (Unit)} (C : nd_C p l s m args c A (dC, dI) cX16_two 7 RX16 ow_dm_X16_two (dk_P ac)) (K : nd_Ki p l e (headSpec ow_dm_X16_two ({ frames := 3, cells := 0, slots := 0, locals := 67 })).room s m args below meth c Q A (dC, dI) cX16_two .int (Unit) (dw_P a ac) r) : dj_X16_two_0 p l e s m args below meth c Q A dC dI a ac (df_X16_two_0 n) r := by
  obtain ⟨hlt, hx, hb, hml, hown, hts, hN, hA, hK⟩ := id C
  intro v0 v1 s0 H locs ls h hP hD hS hl
  unfold df_X16_two_0 at h
  refine lv_iload_n hx hb dX16_two_0 rfl (lv_at hl 0 rfl) ?_
  refine lv_bipush (v := 7) hx hb dX16_two_1 (by decide) ?_
  refine lv_iconst (v := 5) hx hb dX16_two_3 (by decide) ?_
  obtain ⟨q1, s2, hq, h⟩ := nd_b2_e h
  have hPc : va_P (dC, dI) vwCl (dw_P a ac ()) H := nd_p0
  have hDc : va_D A (dw_P a ac ()) := nd_d0
  have hKc : va_K (dC, dI) vwCl (dk_P ac) s := nd_y0 hK
  have hFc : ∀ q, va_A (dw_P a ac ()) H.size q → A q := nd_r0 hS hA
  refine nd_cSi (As := [.int v0, .int 7, .int 5]) (rest := []) (q := q1) (w' := dw_P a ac s2) ⟨hx, hb, hml, hown, hts⟩ (fun sz => dm_X16_part l hlt dC dI a ac n (v0) (7) (5) () hq sz) (cwS 3 hts gi_dm_X16_two_0 rfl rfl rfl (by decide +kernel) ⟨Nat.le_of_ble_eq_true rfl, Nat.le_of_ble_eq_true rfl⟩) hPc hDc hKc hS hA hN rfl hl.1 rfl (Nat.le_of_ble_eq_true rfl) dX16_two_4 (fun H locs hP1 hD1 hk1 hS => ?_)
  have hP := nd_n0 hP hk1
  refine lv_istore_n (lv' := [(2, .int q1), (0, .int v0), (1, .int v1)]) hx hb dX16_two_7 rfl hl (by decide) rfl (fun ls hl => ?_)
  refine lv_iload_n hx hb dX16_two_8 rfl (lv_at hl 1 rfl) ?_
  refine lv_iconst (v := 2) hx hb dX16_two_9 (by decide) ?_
  refine lv_iconst (v := 5) hx hb dX16_two_10 (by decide) ?_
  obtain ⟨q4, s5, hq, h⟩ := nd_b2_e h
  have hPc : va_P (dC, dI) vwCl (dw_P a ac ()) H := nd_p0
  have hDc : va_D A (dw_P a ac ()) := nd_d0
  have hKc : va_K (dC, dI) vwCl (dk_P ac) s := nd_y0 hK
  have hFc : ∀ q, va_A (dw_P a ac ()) H.size q → A q := nd_r0 hS hA
  refine nd_cSi (As := [.int v0, .int 2, .int 5]) (rest := []) (q := q4) (w' := dw_P a ac s5) ⟨hx, hb, hml, hown, hts⟩ (fun sz => dm_X16_part l hlt dC dI a ac n (v0) (2) (5) () hq sz) (cwS 3 hts gi_dm_X16_two_0 rfl rfl rfl (by decide +kernel) ⟨Nat.le_of_ble_eq_true rfl, Nat.le_of_ble_eq_true rfl⟩) hPc hDc hKc hS hA hN rfl hl.1 rfl (Nat.le_of_ble_eq_true rfl) dX16_two_11 (fun H locs hP1 hD1 hk1 hS => ?_)
  have hP := nd_n0 hP hk1
  refine lv_istore_n (lv' := [(3, .int q4), (2, .int q1), (0, .int v0), (1, .int v1)]) hx hb dX16_two_14 rfl hl (by decide) rfl (fun ls hl => ?_)
  refine lv_iload_n hx hb dX16_two_15 rfl (lv_at hl 2 rfl) ?_
  refine lv_bipush (v := 12) hx hb dX16_two_16 (by decide) ?_
  refine lv_iconst (v := 1) hx hb dX16_two_18 (by decide) ?_
  obtain ⟨q7, s8, hq, h⟩ := nd_b2_e h
  have hPc : va_P (dC, dI) vwCl (dw_P a ac ()) H := nd_p0
  have hDc : va_D A (dw_P a ac ()) := nd_d0
  have hKc : va_K (dC, dI) vwCl (dk_P ac) s := nd_y0 hK
  have hFc : ∀ q, va_A (dw_P a ac ()) H.size q → A q := nd_r0 hS hA
  refine nd_cSi (As := [.int v0, .int 12, .int 1]) (rest := []) (q := q7) (w' := dw_P a ac s8) ⟨hx, hb, hml, hown, hts⟩ (fun sz => dm_X16_part l hlt dC dI a ac n (v0) (12) (1) () hq sz) (cwS 3 hts gi_dm_X16_two_0 rfl rfl rfl (by decide +kernel) ⟨Nat.le_of_ble_eq_true rfl, Nat.le_of_ble_eq_true rfl⟩) hPc hDc hKc hS hA hN rfl hl.1 rfl (Nat.le_of_ble_eq_true rfl) dX16_two_19 (fun H locs hP1 hD1 hk1 hS => ?_)
  have hP := nd_n0 hP hk1
  refine lv_iconst (v := 1) hx hb dX16_two_22 (by decide) ?_
  refine lv_icmp_ne (tgt := 30) hx hb dX16_two_23 (by decide) (fun c10 => ?_) (fun c10 => ?_)
  · have h := nd_neg h c10
    refine lv_iconst (v := 0) hx hb dX16_two_30 (by decide) ?_
    exact (db_X16_two_31 C K) (v0) (v1) (q1) (q4) (0) s0 _ _ _ h hP hD hS (lv_sub hl [2, 3, 1, 0] rfl)
  · have h := nd_pos h c10
    refine lv_iconst (v := 1) hx hb dX16_two_26 (by decide) ?_
    refine lv_goto (tgt := 31) hx hb dX16_two_27 (by decide) ?_
    exact (db_X16_two_31 C K) (v0) (v1) (q1) (q4) (1) s0 _ _ _ h hP hD hS (lv_sub hl [2, 3, 1, 0] rfl)
set_option maxHeartbeats 40000000 in
set_option maxRecDepth 100000 in
theorem dm_X16_two (l : Launch) (hlt : l.stackTraces = false) (dC : Nat → ClassId) (dI : Nat → Nat → Nat) (a : Nat → Nat) (ac : Nat → ClassId) (n : Nat) (v0 : Int32) (v1 : Int32) (s0 : Unit) {r : Int32 × (Unit)} (h : df_X16_two n v0 v1 s0 = some r) (sz : Nat) : Met l yX16_two ow_dm_X16_two ({ frames := 3, cells := 0, slots := 0, locals := 67 }) (va_Pc [.int v0, .int v1] (fun U => U.heap.size = sz ∧ va_P (dC, dI) vwCl (dw_P a ac s0) U.heap ∧ va_K (dC, dI) vwCl (dk_P ac) U ∧ va_D (fun _ => True) (dw_P a ac s0) ∧ nv_E (va_A (dw_P a ac s0) sz) U)) (va_Qi (fun x _ => x = r.1) (fun (_ : Unit) t => va_P (dC, dI) vwCl (dw_P a ac r.2) t.heap ∧ va_K (dC, dI) vwCl (dk_P ac) t ∧ va_D (va_A (dw_P a ac s0) sz) (dw_P a ac r.2)) (va_A (dw_P a ac s0) sz)) 0 0 (va_A (dw_P a ac s0) sz) := by
  refine Met.ofW (cc := cX16_two) (maxL := 7) (ret := (some .int)) (by decide) rfl ?_
  intro p e s m args below meth c s₁ B hml hv
  obtain ⟨rfl, hsz, hP, hK, hD0, hN⟩ := hv
  have hx := B.exec
  have hb := B.bytes
  have hr := B.returns
  have hts := atoms_spec (ws := ow_dm_X16_two) B.pre
  have hown : s.vm.findClass RX16 = some m.cls := findClass_of_methodNamed B.named
  have hlocks := B.notSynchronized
  subst hsz
  have hD := hD0.self (sz := s.heap.size)
  generalize hAe : va_A (dw_P a ac s0) s.heap.size = A at hD hN ⊢
  have hA : ∀ q : Nat, s.heap.size ≤ q → A q := fun q h => by rw [← hAe]; exact Or.inr h
  have hl := lv_entry ([.int v0, .int v1]) (n := 7) (Nat.le_of_ble_eq_true rfl)
  rw [lg_entry_eq]
  generalize (lg_sl ([.int v0, .int v1]) ++ List.replicate (7 - (lg_sl ([.int v0, .int v1])).length) Slot.unset).toArray = ls at hl ⊢
  have hl : lv_has ls 7 [(0, .int v0), (1, .int v1)] := hl
  exact db_X16_two_0 (dC := dC) (dI := dI) (a := a) (ac := ac) (n := n) (r := r) ⟨hlt, hx, hb, hml, hown, hts, hN, hA, hK⟩ (fun pc v τ H locs ls d z er hP hD hS => by subst er; exact W.zret (v := v) hx hb hr z (fun t ht hW => ⟨⟨v, (), rfl, rfl, by rw [ht]; exact hP, va_K.moved hW.alike hK, hD⟩, hS.F ht⟩) hS.2.2 d) v0 v1 s0 _ _ _ h hP hD va_S.rf (lv_sub hl [0, 1] rfl)
def ow_dm_X16_signed : List Cond := .code yX16_signed cX16_signed 2 (some .int) :: ([] ++ [])
theorem gd_dm_X16_signed : ∀ w ∈ ow_dm_X16_signed, (w.onTables && w.keeps) = true ∨ ∃ ty, w = Cond.arrayClass ty := List.forall_mem_cons.mpr ⟨good_of_word rfl, List.forall_mem_append.mpr ⟨fun w h => good_of_word (List.all_eq_true.mp (by decide +kernel) w h), fun _ h => nomatch h⟩⟩
def dj_X16_signed_0 (p : Program) (l : Launch) (e : Env) (s : State) (m : MethodId) (args : Array Value) (below : List Frame) (meth : Method) (c : Code) (Q : State → Prop) (A : Nat → Prop) (dC : Nat → ClassId) (dI : Nat → Nat → Nat) (a : Nat → Nat) (ac : Nat → ClassId) (g : Int32 → Int32 → (Unit) → Option (Int32 × (Unit))) (r : Int32 × (Unit)) : Prop := ∀ (v0 : Int32) (v1 : Int32) (s0 : Unit) (H : Heap) (locs : List Loc) (ls : Array Slot), g v0 v1 s0 = some r → va_P (dC, dI) vwCl (dw_P a ac s0) H → va_D A (dw_P a ac s0) → va_S A s.heap H locs → lv_has ls 2 [(0, .int v0), (1, .int v1)] → W p l e (headSpec ow_dm_X16_signed ({ frames := 0, cells := 0, slots := 0, locals := 0 })).room s m args below meth c H locs 0 0 Q (F0 m 0 ls [])
set_option maxHeartbeats 40000000 in
set_option maxRecDepth 100000 in
theorem db_X16_signed_0 {p : Program} {l : Launch} {e : Env} {s : State} {m : MethodId} {args : Array Value} {below : List Frame} {meth : Method} {c : Code} {Q : State → Prop} {A : Nat → Prop} {dC : Nat → ClassId} {dI : Nat → Nat → Nat} {a : Nat → Nat} {ac : Nat → ClassId} {n : Nat} {r : Int32 × (Unit)} (C : nd_C p l s m args c A (dC, dI) cX16_signed 2 RX16 ow_dm_X16_signed (dk_P ac)) (K : nd_Ki p l e (headSpec ow_dm_X16_signed ({ frames := 0, cells := 0, slots := 0, locals := 0 })).room s m args below meth c Q A (dC, dI) cX16_signed .int (Unit) (dw_P a ac) r) : dj_X16_signed_0 p l e s m args below meth c Q A dC dI a ac (df_X16_signed_0 n) r := by
  obtain ⟨hlt, hx, hb, hml, hown, hts, hN, hA, hK⟩ := id C
  intro v0 v1 s0 H locs ls h hP hD hS hl
  unfold df_X16_signed_0 at h
  refine lv_iload_n hx hb dX16_signed_0 rfl (lv_at hl 0 rfl) ?_
  refine lv_bipush (v := 32) hx hb dX16_signed_1 (by decide) ?_
  refine lv_iload_n hx hb dX16_signed_3 rfl (lv_at hl 1 rfl) ?_
  refine lv_isub hx hb dX16_signed_4 ?_
  refine lv_ishl hx hb dX16_signed_5 ?_
  refine lv_bipush (v := 32) hx hb dX16_signed_6 (by decide) ?_
  refine lv_iload_n hx hb dX16_signed_8 rfl (lv_at hl 1 rfl) ?_
  refine lv_isub hx hb dX16_signed_9 ?_
  refine lv_ishr hx hb dX16_signed_10 ?_
  exact K _ _ _ _ _ _ dX16_signed_11 rfl (Option.some.inj h).symm hP hD hS
set_option maxHeartbeats 40000000 in
set_option maxRecDepth 100000 in
theorem dm_X16_signed (l : Launch) (hlt : l.stackTraces = false) (dC : Nat → ClassId) (dI : Nat → Nat → Nat) (a : Nat → Nat) (ac : Nat → ClassId) (n : Nat) (v0 : Int32) (v1 : Int32) (s0 : Unit) {r : Int32 × (Unit)} (h : df_X16_signed n v0 v1 s0 = some r) (sz : Nat) : Met l yX16_signed ow_dm_X16_signed ({ frames := 0, cells := 0, slots := 0, locals := 0 }) (va_Pc [.int v0, .int v1] (fun U => U.heap.size = sz ∧ va_P (dC, dI) vwCl (dw_P a ac s0) U.heap ∧ va_K (dC, dI) vwCl (dk_P ac) U ∧ va_D (fun _ => True) (dw_P a ac s0) ∧ nv_E (va_A (dw_P a ac s0) sz) U)) (va_Qi (fun x _ => x = r.1) (fun (_ : Unit) t => va_P (dC, dI) vwCl (dw_P a ac r.2) t.heap ∧ va_K (dC, dI) vwCl (dk_P ac) t ∧ va_D (va_A (dw_P a ac s0) sz) (dw_P a ac r.2)) (va_A (dw_P a ac s0) sz)) 0 0 (va_A (dw_P a ac s0) sz) := by
  refine Met.ofW (cc := cX16_signed) (maxL := 2) (ret := (some .int)) (by decide) rfl ?_
  intro p e s m args below meth c s₁ B hml hv
  obtain ⟨rfl, hsz, hP, hK, hD0, hN⟩ := hv
  have hx := B.exec
  have hb := B.bytes
  have hr := B.returns
  have hts := atoms_spec (ws := ow_dm_X16_signed) B.pre
  have hown : s.vm.findClass RX16 = some m.cls := findClass_of_methodNamed B.named
  have hlocks := B.notSynchronized
  subst hsz
  have hD := hD0.self (sz := s.heap.size)
  generalize hAe : va_A (dw_P a ac s0) s.heap.size = A at hD hN ⊢
  have hA : ∀ q : Nat, s.heap.size ≤ q → A q := fun q h => by rw [← hAe]; exact Or.inr h
  have hl := lv_entry ([.int v0, .int v1]) (n := 2) (Nat.le_of_ble_eq_true rfl)
  rw [lg_entry_eq]
  generalize (lg_sl ([.int v0, .int v1]) ++ List.replicate (2 - (lg_sl ([.int v0, .int v1])).length) Slot.unset).toArray = ls at hl ⊢
  have hl : lv_has ls 2 [(0, .int v0), (1, .int v1)] := hl
  exact db_X16_signed_0 (dC := dC) (dI := dI) (a := a) (ac := ac) (n := n) (r := r) ⟨hlt, hx, hb, hml, hown, hts, hN, hA, hK⟩ (fun pc v τ H locs ls d z er hP hD hS => by subst er; exact W.zret (v := v) hx hb hr z (fun t ht hW => ⟨⟨v, (), rfl, rfl, by rw [ht]; exact hP, va_K.moved hW.alike hK, hD⟩, hS.F ht⟩) hS.2.2 d) v0 v1 s0 _ _ _ h hP hD va_S.rf (lv_sub hl [0, 1] rfl)
def ow_dm_X16_link : List Cond := .code yX16_link cX16_link 2 (some .int) :: ([.methodLink RX16 300 yX16_bit, .static yX16_bit, .initialized RX16] ++ (ow_dm_X16_bit ++ []))
theorem gd_dm_X16_link : ∀ w ∈ ow_dm_X16_link, (w.onTables && w.keeps) = true ∨ ∃ ty, w = Cond.arrayClass ty := List.forall_mem_cons.mpr ⟨good_of_word rfl, List.forall_mem_append.mpr ⟨fun w h => good_of_word (List.all_eq_true.mp (by decide +kernel) w h), List.forall_mem_append.mpr ⟨gd_dm_X16_bit, fun _ h => nomatch h⟩⟩⟩
theorem gi_dm_X16_link_0 : GoodIn ow_dm_X16_link (wsS RX16 300 yX16_bit ow_dm_X16_bit) := goodIn_app (goodIn_of _ (by decide +kernel)) (fun w h => ⟨List.mem_cons_of_mem _ (List.mem_append_right _ (List.mem_append_left _ h)), gd_dm_X16_bit w h⟩)
def dj_X16_link_0 (p : Program) (l : Launch) (e : Env) (s : State) (m : MethodId) (args : Array Value) (below : List Frame) (meth : Method) (c : Code) (Q : State → Prop) (A : Nat → Prop) (dC : Nat → ClassId) (dI : Nat → Nat → Nat) (a : Nat → Nat) (ac : Nat → ClassId) (g : Int32 → Int32 → (Unit) → Option (Int32 × (Unit))) (r : Int32 × (Unit)) : Prop := ∀ (v0 : Int32) (v1 : Int32) (s0 : Unit) (H : Heap) (locs : List Loc) (ls : Array Slot), g v0 v1 s0 = some r → va_P (dC, dI) vwCl (dw_P a ac s0) H → va_D A (dw_P a ac s0) → va_S A s.heap H locs → lv_has ls 2 [(0, .int v0), (1, .int v1)] → W p l e (headSpec ow_dm_X16_link ({ frames := 2, cells := 0, slots := 0, locals := 45 })).room s m args below meth c H locs 0 0 Q (F0 m 0 ls [])
set_option maxHeartbeats 40000000 in
set_option maxRecDepth 100000 in
theorem db_X16_link_0 {p : Program} {l : Launch} {e : Env} {s : State} {m : MethodId} {args : Array Value} {below : List Frame} {meth : Method} {c : Code} {Q : State → Prop} {A : Nat → Prop} {dC : Nat → ClassId} {dI : Nat → Nat → Nat} {a : Nat → Nat} {ac : Nat → ClassId} {n : Nat} {r : Int32 × (Unit)} (C : nd_C p l s m args c A (dC, dI) cX16_link 2 RX16 ow_dm_X16_link (dk_P ac)) (K : nd_Ki p l e (headSpec ow_dm_X16_link ({ frames := 2, cells := 0, slots := 0, locals := 45 })).room s m args below meth c Q A (dC, dI) cX16_link .int (Unit) (dw_P a ac) r) : dj_X16_link_0 p l e s m args below meth c Q A dC dI a ac (df_X16_link_0 n) r := by
  obtain ⟨hlt, hx, hb, hml, hown, hts, hN, hA, hK⟩ := id C
  intro v0 v1 s0 H locs ls h hP hD hS hl
  unfold df_X16_link_0 at h
  refine lv_bipush (v := 111) hx hb dX16_link_0 (by decide) ?_
  refine lv_iload_n hx hb dX16_link_2 rfl (lv_at hl 0 rfl) ?_
  refine lv_bipush (v := 7) hx hb dX16_link_3 (by decide) ?_
  refine lv_ishl hx hb dX16_link_5 ?_
  refine lv_ior hx hb dX16_link_6 ?_
  refine lv_iload_n hx hb dX16_link_7 rfl (lv_at hl 1 rfl) ?_
  refine lv_bipush (v := 12) hx hb dX16_link_8 (by decide) ?_
  refine lv_bipush (v := 8) hx hb dX16_link_10 (by decide) ?_
  refine lv_bipush (v := 12) hx hb dX16_link_12 (by decide) ?_
  obtain ⟨q1, s2, hq, h⟩ := nd_b2_e h
  have hPc : va_P (dC, dI) vwCl (dw_P a ac ()) H := nd_p0
  have hDc : va_D A (dw_P a ac ()) := nd_d0
  have hKc : va_K (dC, dI) vwCl (dk_P ac) s := nd_y0 hK
  have hFc : ∀ q, va_A (dw_P a ac ()) H.size q → A q := nd_r0 hS hA
  refine nd_cSi (As := [.int v1, .int 12, .int 8, .int 12]) (rest := [.int (111 ||| ((v0 : Int32) <<< ((7 : Int32) &&& 31)))]) (q := q1) (w' := dw_P a ac s2) ⟨hx, hb, hml, hown, hts⟩ (fun sz => dm_X16_bit l hlt dC dI a ac n (v1) (12) (8) (12) () hq sz) (cwS 4 hts gi_dm_X16_link_0 rfl rfl rfl (by decide +kernel) ⟨Nat.le_of_ble_eq_true rfl, Nat.le_of_ble_eq_true rfl⟩) hPc hDc hKc hS hA hN rfl hl.1 rfl (Nat.le_of_ble_eq_true rfl) dX16_link_14 (fun H locs hP1 hD1 hk1 hS => ?_)
  have hP := nd_n0 hP hk1
  refine lv_ior hx hb dX16_link_17 ?_
  refine lv_iload_n hx hb dX16_link_18 rfl (lv_at hl 1 rfl) ?_
  refine lv_bipush (v := 11) hx hb dX16_link_19 (by decide) ?_
  refine lv_iconst (v := 1) hx hb dX16_link_21 (by decide) ?_
  refine lv_bipush (v := 20) hx hb dX16_link_22 (by decide) ?_
  obtain ⟨q4, s5, hq, h⟩ := nd_b2_e h
  have hPc : va_P (dC, dI) vwCl (dw_P a ac ()) H := nd_p0
  have hDc : va_D A (dw_P a ac ()) := nd_d0
  have hKc : va_K (dC, dI) vwCl (dk_P ac) s := nd_y0 hK
  have hFc : ∀ q, va_A (dw_P a ac ()) H.size q → A q := nd_r0 hS hA
  refine nd_cSi (As := [.int v1, .int 11, .int 1, .int 20]) (rest := [.int ((111 ||| ((v0 : Int32) <<< ((7 : Int32) &&& 31))) ||| q1)]) (q := q4) (w' := dw_P a ac s5) ⟨hx, hb, hml, hown, hts⟩ (fun sz => dm_X16_bit l hlt dC dI a ac n (v1) (11) (1) (20) () hq sz) (cwS 4 hts gi_dm_X16_link_0 rfl rfl rfl (by decide +kernel) ⟨Nat.le_of_ble_eq_true rfl, Nat.le_of_ble_eq_true rfl⟩) hPc hDc hKc hS hA hN rfl hl.1 rfl (Nat.le_of_ble_eq_true rfl) dX16_link_24 (fun H locs hP1 hD1 hk1 hS => ?_)
  have hP := nd_n0 hP hk1
  refine lv_ior hx hb dX16_link_27 ?_
  refine lv_iload_n hx hb dX16_link_28 rfl (lv_at hl 1 rfl) ?_
  refine lv_iconst (v := 1) hx hb dX16_link_29 (by decide) ?_
  refine lv_bipush (v := 10) hx hb dX16_link_30 (by decide) ?_
  refine lv_bipush (v := 21) hx hb dX16_link_32 (by decide) ?_
  obtain ⟨q7, s8, hq, h⟩ := nd_b2_e h
  have hPc : va_P (dC, dI) vwCl (dw_P a ac ()) H := nd_p0
  have hDc : va_D A (dw_P a ac ()) := nd_d0
  have hKc : va_K (dC, dI) vwCl (dk_P ac) s := nd_y0 hK
  have hFc : ∀ q, va_A (dw_P a ac ()) H.size q → A q := nd_r0 hS hA
  refine nd_cSi (As := [.int v1, .int 1, .int 10, .int 21]) (rest := [.int (((111 ||| ((v0 : Int32) <<< ((7 : Int32) &&& 31))) ||| q1) ||| q4)]) (q := q7) (w' := dw_P a ac s8) ⟨hx, hb, hml, hown, hts⟩ (fun sz => dm_X16_bit l hlt dC dI a ac n (v1) (1) (10) (21) () hq sz) (cwS 4 hts gi_dm_X16_link_0 rfl rfl rfl (by decide +kernel) ⟨Nat.le_of_ble_eq_true rfl, Nat.le_of_ble_eq_true rfl⟩) hPc hDc hKc hS hA hN rfl hl.1 rfl (Nat.le_of_ble_eq_true rfl) dX16_link_34 (fun H locs hP1 hD1 hk1 hS => ?_)
  have hP := nd_n0 hP hk1
  refine lv_ior hx hb dX16_link_37 ?_
  refine lv_iload_n hx hb dX16_link_38 rfl (lv_at hl 1 rfl) ?_
  refine lv_bipush (v := 20) hx hb dX16_link_39 (by decide) ?_
  refine lv_iconst (v := 1) hx hb dX16_link_41 (by decide) ?_
  refine lv_bipush (v := 31) hx hb dX16_link_42 (by decide) ?_
  obtain ⟨q10, s11, hq, h⟩ := nd_b2_e h
  have hPc : va_P (dC, dI) vwCl (dw_P a ac ()) H := nd_p0
  have hDc : va_D A (dw_P a ac ()) := nd_d0
  have hKc : va_K (dC, dI) vwCl (dk_P ac) s := nd_y0 hK
  have hFc : ∀ q, va_A (dw_P a ac ()) H.size q → A q := nd_r0 hS hA
  refine nd_cSi (As := [.int v1, .int 20, .int 1, .int 31]) (rest := [.int ((((111 ||| ((v0 : Int32) <<< ((7 : Int32) &&& 31))) ||| q1) ||| q4) ||| q7)]) (q := q10) (w' := dw_P a ac s11) ⟨hx, hb, hml, hown, hts⟩ (fun sz => dm_X16_bit l hlt dC dI a ac n (v1) (20) (1) (31) () hq sz) (cwS 4 hts gi_dm_X16_link_0 rfl rfl rfl (by decide +kernel) ⟨Nat.le_of_ble_eq_true rfl, Nat.le_of_ble_eq_true rfl⟩) hPc hDc hKc hS hA hN rfl hl.1 rfl (Nat.le_of_ble_eq_true rfl) dX16_link_44 (fun H locs hP1 hD1 hk1 hS => ?_)
  have hP := nd_n0 hP hk1
  refine lv_ior hx hb dX16_link_47 ?_
  exact K _ _ _ _ _ _ dX16_link_48 rfl (Option.some.inj h).symm hP hD hS
set_option maxHeartbeats 40000000 in
set_option maxRecDepth 100000 in
theorem dm_X16_link (l : Launch) (hlt : l.stackTraces = false) (dC : Nat → ClassId) (dI : Nat → Nat → Nat) (a : Nat → Nat) (ac : Nat → ClassId) (n : Nat) (v0 : Int32) (v1 : Int32) (s0 : Unit) {r : Int32 × (Unit)} (h : df_X16_link n v0 v1 s0 = some r) (sz : Nat) : Met l yX16_link ow_dm_X16_link ({ frames := 2, cells := 0, slots := 0, locals := 45 }) (va_Pc [.int v0, .int v1] (fun U => U.heap.size = sz ∧ va_P (dC, dI) vwCl (dw_P a ac s0) U.heap ∧ va_K (dC, dI) vwCl (dk_P ac) U ∧ va_D (fun _ => True) (dw_P a ac s0) ∧ nv_E (va_A (dw_P a ac s0) sz) U)) (va_Qi (fun x _ => x = r.1) (fun (_ : Unit) t => va_P (dC, dI) vwCl (dw_P a ac r.2) t.heap ∧ va_K (dC, dI) vwCl (dk_P ac) t ∧ va_D (va_A (dw_P a ac s0) sz) (dw_P a ac r.2)) (va_A (dw_P a ac s0) sz)) 0 0 (va_A (dw_P a ac s0) sz) := by
  refine Met.ofW (cc := cX16_link) (maxL := 2) (ret := (some .int)) (by decide) rfl ?_
  intro p e s m args below meth c s₁ B hml hv
  obtain ⟨rfl, hsz, hP, hK, hD0, hN⟩ := hv
  have hx := B.exec
  have hb := B.bytes
  have hr := B.returns
  have hts := atoms_spec (ws := ow_dm_X16_link) B.pre
  have hown : s.vm.findClass RX16 = some m.cls := findClass_of_methodNamed B.named
  have hlocks := B.notSynchronized
  subst hsz
  have hD := hD0.self (sz := s.heap.size)
  generalize hAe : va_A (dw_P a ac s0) s.heap.size = A at hD hN ⊢
  have hA : ∀ q : Nat, s.heap.size ≤ q → A q := fun q h => by rw [← hAe]; exact Or.inr h
  have hl := lv_entry ([.int v0, .int v1]) (n := 2) (Nat.le_of_ble_eq_true rfl)
  rw [lg_entry_eq]
  generalize (lg_sl ([.int v0, .int v1]) ++ List.replicate (2 - (lg_sl ([.int v0, .int v1])).length) Slot.unset).toArray = ls at hl ⊢
  have hl : lv_has ls 2 [(0, .int v0), (1, .int v1)] := hl
  exact db_X16_link_0 (dC := dC) (dI := dI) (a := a) (ac := ac) (n := n) (r := r) ⟨hlt, hx, hb, hml, hown, hts, hN, hA, hK⟩ (fun pc v τ H locs ls d z er hP hD hS => by subst er; exact W.zret (v := v) hx hb hr z (fun t ht hW => ⟨⟨v, (), rfl, rfl, by rw [ht]; exact hP, va_K.moved hW.alike hK, hD⟩, hS.F ht⟩) hS.2.2 d) v0 v1 s0 _ _ _ h hP hD va_S.rf (lv_sub hl [0, 1] rfl)
def ow_dm_X16_four : List Cond := .code yX16_four cX16_four 6 (some .int) :: ([.methodLink RX16 297 yX16_part, .static yX16_part, .initialized RX16, .methodLink RX16 332 yX16_threes, .static yX16_threes, .methodLink RX16 313 yX16_immediate, .static yX16_immediate] ++ (ow_dm_X16_part ++ (ow_dm_X16_threes ++ (ow_dm_X16_immediate ++ []))))
theorem gd_dm_X16_four : ∀ w ∈ ow_dm_X16_four, (w.onTables && w.keeps) = true ∨ ∃ ty, w = Cond.arrayClass ty := List.forall_mem_cons.mpr ⟨good_of_word rfl, List.forall_mem_append.mpr ⟨fun w h => good_of_word (List.all_eq_true.mp (by decide +kernel) w h), List.forall_mem_append.mpr ⟨gd_dm_X16_part, List.forall_mem_append.mpr ⟨gd_dm_X16_threes, List.forall_mem_append.mpr ⟨gd_dm_X16_immediate, fun _ h => nomatch h⟩⟩⟩⟩⟩
theorem gi_dm_X16_four_0 : GoodIn ow_dm_X16_four (wsS RX16 297 yX16_part ow_dm_X16_part) := goodIn_app (goodIn_of _ (by decide +kernel)) (fun w h => ⟨List.mem_cons_of_mem _ (List.mem_append_right _ (List.mem_append_left _ h)), gd_dm_X16_part w h⟩)
theorem gi_dm_X16_four_1 : GoodIn ow_dm_X16_four (wsS RX16 332 yX16_threes ow_dm_X16_threes) := goodIn_app (goodIn_of _ (by decide +kernel)) (fun w h => ⟨List.mem_cons_of_mem _ (List.mem_append_right _ (List.mem_append_right _ (List.mem_append_left _ h))), gd_dm_X16_threes w h⟩)
theorem gi_dm_X16_four_2 : GoodIn ow_dm_X16_four (wsS RX16 313 yX16_immediate ow_dm_X16_immediate) := goodIn_app (goodIn_of _ (by decide +kernel)) (fun w h => ⟨List.mem_cons_of_mem _ (List.mem_append_right _ (List.mem_append_right _ (List.mem_append_right _ (List.mem_append_left _ h)))), gd_dm_X16_immediate w h⟩)
def dj_X16_four_133 (p : Program) (l : Launch) (e : Env) (s : State) (m : MethodId) (args : Array Value) (below : List Frame) (meth : Method) (c : Code) (Q : State → Prop) (A : Nat → Prop) (dC : Nat → ClassId) (dI : Nat → Nat → Nat) (a : Nat → Nat) (ac : Nat → ClassId) (g : Int32 → (Unit) → Option (Int32 × (Unit))) (r : Int32 × (Unit)) : Prop := ∀ (y0 : Int32) (s0 : Unit) (H : Heap) (locs : List Loc) (ls : Array Slot), g y0 s0 = some r → va_P (dC, dI) vwCl (dw_P a ac s0) H → va_D A (dw_P a ac s0) → va_S A s.heap H locs → lv_has ls 6 [] → W p l e (headSpec ow_dm_X16_four ({ frames := 1, cells := 0, slots := 0, locals := 24 })).room s m args below meth c H locs 0 0 Q (F0 m 133 ls [.int y0])
def dj_X16_four_126 (p : Program) (l : Launch) (e : Env) (s : State) (m : MethodId) (args : Array Value) (below : List Frame) (meth : Method) (c : Code) (Q : State → Prop) (A : Nat → Prop) (dC : Nat → ClassId) (dI : Nat → Nat → Nat) (a : Nat → Nat) (ac : Nat → ClassId) (g : Int32 → Int32 → Int32 → (Unit) → Option (Int32 × (Unit))) (r : Int32 × (Unit)) : Prop := ∀ (x2 : Int32) (x3 : Int32) (y0 : Int32) (s0 : Unit) (H : Heap) (locs : List Loc) (ls : Array Slot), g x2 x3 y0 s0 = some r → va_P (dC, dI) vwCl (dw_P a ac s0) H → va_D A (dw_P a ac s0) → va_S A s.heap H locs → lv_has ls 6 [(2, .int x2), (3, .int x3)] → W p l e (headSpec ow_dm_X16_four ({ frames := 1, cells := 0, slots := 0, locals := 24 })).room s m args below meth c H locs 0 0 Q (F0 m 126 ls [.int y0])
def dj_X16_four_0 (p : Program) (l : Launch) (e : Env) (s : State) (m : MethodId) (args : Array Value) (below : List Frame) (meth : Method) (c : Code) (Q : State → Prop) (A : Nat → Prop) (dC : Nat → ClassId) (dI : Nat → Nat → Nat) (a : Nat → Nat) (ac : Nat → ClassId) (g : Int32 → Int32 → (Unit) → Option (Int32 × (Unit))) (r : Int32 × (Unit)) : Prop := ∀ (v0 : Int32) (v1 : Int32) (s0 : Unit) (H : Heap) (locs : List Loc) (ls : Array Slot), g v0 v1 s0 = some r → va_P (dC, dI) vwCl (dw_P a ac s0) H → va_D A (dw_P a ac s0) → va_S A s.heap H locs → lv_has ls 6 [(0, .int v0), (1, .int v1)] → W p l e (headSpec ow_dm_X16_four ({ frames := 1, cells := 0, slots := 0, locals := 24 })).room s m args below meth c H locs 0 0 Q (F0 m 0 ls [])
set_option maxHeartbeats 40000000 in
set_option maxRecDepth 100000 in
theorem db_X16_four_133 {p : Program} {l : Launch} {e : Env} {s : State} {m : MethodId} {args : Array Value} {below : List Frame} {meth : Method} {c : Code} {Q : State → Prop} {A : Nat → Prop} {dC : Nat → ClassId} {dI : Nat → Nat → Nat} {a : Nat → Nat} {ac : Nat → ClassId} {n : Nat} {r : Int32 × (Unit)} (C : nd_C p l s m args c A (dC, dI) cX16_four 6 RX16 ow_dm_X16_four (dk_P ac)) (K : nd_Ki p l e (headSpec ow_dm_X16_four ({ frames := 1, cells := 0, slots := 0, locals := 24 })).room s m args below meth c Q A (dC, dI) cX16_four .int (Unit) (dw_P a ac) r) : dj_X16_four_133 p l e s m args below meth c Q A dC dI a ac (df_X16_four_133 n) r := by
  obtain ⟨hlt, hx, hb, hml, hown, hts, hN, hA, hK⟩ := id C
  intro y0 s0 H locs ls h hP hD hS hl
  unfold df_X16_four_133 at h
  exact K _ _ _ _ _ _ dX16_four_133 rfl (Option.some.inj h).symm hP hD hS
set_option maxHeartbeats 40000000 in
set_option maxRecDepth 100000 in
theorem db_X16_four_126 {p : Program} {l : Launch} {e : Env} {s : State} {m : MethodId} {args : Array Value} {below : List Frame} {meth : Method} {c : Code} {Q : State → Prop} {A : Nat → Prop} {dC : Nat → ClassId} {dI : Nat → Nat → Nat} {a : Nat → Nat} {ac : Nat → ClassId} {n : Nat} {r : Int32 × (Unit)} (C : nd_C p l s m args c A (dC, dI) cX16_four 6 RX16 ow_dm_X16_four (dk_P ac)) (K : nd_Ki p l e (headSpec ow_dm_X16_four ({ frames := 1, cells := 0, slots := 0, locals := 24 })).room s m args below meth c Q A (dC, dI) cX16_four .int (Unit) (dw_P a ac) r) : dj_X16_four_126 p l e s m args below meth c Q A dC dI a ac (df_X16_four_126 n) r := by
  obtain ⟨hlt, hx, hb, hml, hown, hts, hN, hA, hK⟩ := id C
  intro x2 x3 y0 s0 H locs ls h hP hD hS hl
  unfold df_X16_four_126 at h
  refine lv_iconst (v := 0) hx hb dX16_four_126 (by decide) ?_
  refine lv_iload_n hx hb dX16_four_127 rfl (lv_at hl 0 rfl) ?_
  refine lv_iload_n hx hb dX16_four_128 rfl (lv_at hl 0 rfl) ?_
  refine lv_iload_n hx hb dX16_four_129 rfl (lv_at hl 1 rfl) ?_
  obtain ⟨q23, s24, hq, h⟩ := nd_b2_e h
  have hPc : va_P (dC, dI) vwCl (dw_P a ac ()) H := nd_p0
  have hDc : va_D A (dw_P a ac ()) := nd_d0
  have hKc : va_K (dC, dI) vwCl (dk_P ac) s := nd_y0 hK
  have hFc : ∀ q, va_A (dw_P a ac ()) H.size q → A q := nd_r0 hS hA
  refine nd_cSi (As := [.int y0, .int 0, .int x2, .int x2, .int x3]) (rest := []) (q := q23) (w' := dw_P a ac s24) ⟨hx, hb, hml, hown, hts⟩ (fun sz => dm_X16_threes l hlt dC dI a ac n (y0) (0) (x2) (x2) (x3) () hq sz) (cwS 5 hts gi_dm_X16_four_1 rfl rfl rfl (by decide +kernel) ⟨Nat.le_of_ble_eq_true rfl, Nat.le_of_ble_eq_true rfl⟩) hPc hDc hKc hS hA hN rfl hl.1 rfl (Nat.le_of_ble_eq_true rfl) dX16_four_130 (fun H locs hP1 hD1 hk1 hS => ?_)
  have hP := nd_n0 hP hk1
  exact (db_X16_four_133 C K) (q23) s0 _ _ _ h hP hD hS (lv_sub hl [] rfl)
set_option maxHeartbeats 40000000 in
set_option maxRecDepth 100000 in
theorem db_X16_four_0 {p : Program} {l : Launch} {e : Env} {s : State} {m : MethodId} {args : Array Value} {below : List Frame} {meth : Method} {c : Code} {Q : State → Prop} {A : Nat → Prop} {dC : Nat → ClassId} {dI : Nat → Nat → Nat} {a : Nat → Nat} {ac : Nat → ClassId} {n : Nat} {r : Int32 × (Unit)} (C : nd_C p l s m args c A (dC, dI) cX16_four 6 RX16 ow_dm_X16_four (dk_P ac)) (K : nd_Ki p l e (headSpec ow_dm_X16_four ({ frames := 1, cells := 0, slots := 0, locals := 24 })).room s m args below meth c Q A (dC, dI) cX16_four .int (Unit) (dw_P a ac) r) : dj_X16_four_0 p l e s m args below meth c Q A dC dI a ac (df_X16_four_0 n) r := by
  obtain ⟨hlt, hx, hb, hml, hown, hts, hN, hA, hK⟩ := id C
  intro v0 v1 s0 H locs ls h hP hD hS hl
  unfold df_X16_four_0 at h
  refine lv_bipush (v := 8) hx hb dX16_four_0 (by decide) ?_
  refine lv_iload_n hx hb dX16_four_2 rfl (lv_at hl 0 rfl) ?_
  refine lv_bipush (v := 7) hx hb dX16_four_3 (by decide) ?_
  refine lv_iconst (v := 3) hx hb dX16_four_5 (by decide) ?_
  obtain ⟨q1, s2, hq, h⟩ := nd_b2_e h
  have hPc : va_P (dC, dI) vwCl (dw_P a ac ()) H := nd_p0
  have hDc : va_D A (dw_P a ac ()) := nd_d0
  have hKc : va_K (dC, dI) vwCl (dk_P ac) s := nd_y0 hK
  have hFc : ∀ q, va_A (dw_P a ac ()) H.size q → A q := nd_r0 hS hA
  refine nd_cSi (As := [.int v0, .int 7, .int 3]) (rest := [.int 8]) (q := q1) (w' := dw_P a ac s2) ⟨hx, hb, hml, hown, hts⟩ (fun sz => dm_X16_part l hlt dC dI a ac n (v0) (7) (3) () hq sz) (cwS 3 hts gi_dm_X16_four_0 rfl rfl rfl (by decide +kernel) ⟨Nat.le_of_ble_eq_true rfl, Nat.le_of_ble_eq_true rfl⟩) hPc hDc hKc hS hA hN rfl hl.1 rfl (Nat.le_of_ble_eq_true rfl) dX16_four_6 (fun H locs hP1 hD1 hk1 hS => ?_)
  have hP := nd_n0 hP hk1
  refine lv_iadd hx hb dX16_four_9 ?_
  refine lv_topi (fun z4 ez4 => ?_)
  have h := nd_at h ez4
  refine lv_istore_n (lv' := [(2, .int z4), (0, .int v0), (1, .int v1)]) hx hb dX16_four_10 rfl hl (by decide) rfl (fun ls hl => ?_)
  refine lv_bipush (v := 8) hx hb dX16_four_11 (by decide) ?_
  refine lv_iload_n hx hb dX16_four_13 rfl (lv_at hl 1 rfl) ?_
  refine lv_iconst (v := 2) hx hb dX16_four_14 (by decide) ?_
  refine lv_iconst (v := 3) hx hb dX16_four_15 (by decide) ?_
  obtain ⟨q5, s6, hq, h⟩ := nd_b2_e h
  have hPc : va_P (dC, dI) vwCl (dw_P a ac ()) H := nd_p0
  have hDc : va_D A (dw_P a ac ()) := nd_d0
  have hKc : va_K (dC, dI) vwCl (dk_P ac) s := nd_y0 hK
  have hFc : ∀ q, va_A (dw_P a ac ()) H.size q → A q := nd_r0 hS hA
  refine nd_cSi (As := [.int v0, .int 2, .int 3]) (rest := [.int 8]) (q := q5) (w' := dw_P a ac s6) ⟨hx, hb, hml, hown, hts⟩ (fun sz => dm_X16_part l hlt dC dI a ac n (v0) (2) (3) () hq sz) (cwS 3 hts gi_dm_X16_four_0 rfl rfl rfl (by decide +kernel) ⟨Nat.le_of_ble_eq_true rfl, Nat.le_of_ble_eq_true rfl⟩) hPc hDc hKc hS hA hN rfl hl.1 rfl (Nat.le_of_ble_eq_true rfl) dX16_four_16 (fun H locs hP1 hD1 hk1 hS => ?_)
  have hP := nd_n0 hP hk1
  refine lv_iadd hx hb dX16_four_19 ?_
  refine lv_topi (fun z8 ez8 => ?_)
  have h := nd_at h ez8
  refine lv_istore_n (lv' := [(3, .int z8), (2, .int z4), (0, .int v0), (1, .int v1)]) hx hb dX16_four_20 rfl hl (by decide) rfl (fun ls hl => ?_)
  refine lv_iload_n hx hb dX16_four_21 rfl (lv_at hl 2 rfl) ?_
  refine lv_bipush (v := 10) hx hb dX16_four_22 (by decide) ?_
  refine lv_iconst (v := 2) hx hb dX16_four_24 (by decide) ?_
  obtain ⟨q9, s10, hq, h⟩ := nd_b2_e h
  have hPc : va_P (dC, dI) vwCl (dw_P a ac ()) H := nd_p0
  have hDc : va_D A (dw_P a ac ()) := nd_d0
  have hKc : va_K (dC, dI) vwCl (dk_P ac) s := nd_y0 hK
  have hFc : ∀ q, va_A (dw_P a ac ()) H.size q → A q := nd_r0 hS hA
  refine nd_cSi (As := [.int v0, .int 10, .int 2]) (rest := []) (q := q9) (w' := dw_P a ac s10) ⟨hx, hb, hml, hown, hts⟩ (fun sz => dm_X16_part l hlt dC dI a ac n (v0) (10) (2) () hq sz) (cwS 3 hts gi_dm_X16_four_0 rfl rfl rfl (by decide +kernel) ⟨Nat.le_of_ble_eq_true rfl, Nat.le_of_ble_eq_true rfl⟩) hPc hDc hKc hS hA hN rfl hl.1 rfl (Nat.le_of_ble_eq_true rfl) dX16_four_25 (fun H locs hP1 hD1 hk1 hS => ?_)
  have hP := nd_n0 hP hk1
  refine lv_istore (lv' := [(4, .int q9), (3, .int z8), (2, .int z4), (0, .int v0), (1, .int v1)]) hx hb dX16_four_28 hl (by decide) rfl (fun ls hl => ?_)
  refine lv_iload_n hx hb dX16_four_30 rfl (lv_at hl 3 rfl) ?_
  refine lv_iconst (v := 5) hx hb dX16_four_31 (by decide) ?_
  refine lv_iconst (v := 2) hx hb dX16_four_32 (by decide) ?_
  obtain ⟨q12, s13, hq, h⟩ := nd_b2_e h
  have hPc : va_P (dC, dI) vwCl (dw_P a ac ()) H := nd_p0
  have hDc : va_D A (dw_P a ac ()) := nd_d0
  have hKc : va_K (dC, dI) vwCl (dk_P ac) s := nd_y0 hK
  have hFc : ∀ q, va_A (dw_P a ac ()) H.size q → A q := nd_r0 hS hA
  refine nd_cSi (As := [.int v0, .int 5, .int 2]) (rest := []) (q := q12) (w' := dw_P a ac s13) ⟨hx, hb, hml, hown, hts⟩ (fun sz => dm_X16_part l hlt dC dI a ac n (v0) (5) (2) () hq sz) (cwS 3 hts gi_dm_X16_four_0 rfl rfl rfl (by decide +kernel) ⟨Nat.le_of_ble_eq_true rfl, Nat.le_of_ble_eq_true rfl⟩) hPc hDc hKc hS hA hN rfl hl.1 rfl (Nat.le_of_ble_eq_true rfl) dX16_four_33 (fun H locs hP1 hD1 hk1 hS => ?_)
  have hP := nd_n0 hP hk1
  refine lv_istore (lv' := [(5, .int q12), (4, .int q9), (3, .int z8), (2, .int z4), (0, .int v0), (1, .int v1)]) hx hb dX16_four_36 hl (by decide) rfl (fun ls hl => ?_)
  refine lv_iload hx hb dX16_four_38 (lv_at hl 1 rfl) ?_
  refine lv_iconst (v := 2) hx hb dX16_four_40 (by decide) ?_
  refine lv_icmp_ne (tgt := 55) hx hb dX16_four_41 (by decide) (fun c15 => ?_) (fun c15 => ?_)
  · have h := nd_neg h c15
    refine lv_iload_n hx hb dX16_four_55 rfl (lv_at hl 4 rfl) ?_
    refine lv_bipush (v := 12) hx hb dX16_four_56 (by decide) ?_
    refine lv_iconst (v := 1) hx hb dX16_four_58 (by decide) ?_
    obtain ⟨q16, s17, hq, h⟩ := nd_b2_e h
    have hPc : va_P (dC, dI) vwCl (dw_P a ac ()) H := nd_p0
    have hDc : va_D A (dw_P a ac ()) := nd_d0
    have hKc : va_K (dC, dI) vwCl (dk_P ac) s := nd_y0 hK
    have hFc : ∀ q, va_A (dw_P a ac ()) H.size q → A q := nd_r0 hS hA
    refine nd_cSi (As := [.int v0, .int 12, .int 1]) (rest := []) (q := q16) (w' := dw_P a ac s17) ⟨hx, hb, hml, hown, hts⟩ (fun sz => dm_X16_part l hlt dC dI a ac n (v0) (12) (1) () hq sz) (cwS 3 hts gi_dm_X16_four_0 rfl rfl rfl (by decide +kernel) ⟨Nat.le_of_ble_eq_true rfl, Nat.le_of_ble_eq_true rfl⟩) hPc hDc hKc hS hA hN rfl hl.1 rfl (Nat.le_of_ble_eq_true rfl) dX16_four_59 (fun H locs hP1 hD1 hk1 hS => ?_)
    have hP := nd_n0 hP hk1
    refine lv_iconst (v := 1) hx hb dX16_four_62 (by decide) ?_
    refine lv_icmp_ne (tgt := 68) hx hb dX16_four_63 (by decide) (fun c19 => ?_) (fun c19 => ?_)
    · have h := nd_neg h c19
      refine lv_iload hx hb dX16_four_68 (lv_at hl 1 rfl) ?_
      refine lv_iconst (v := 2) hx hb dX16_four_70 (by decide) ?_
      refine lv_icmp_ge (tgt := 95) hx hb dX16_four_71 (by decide) (fun c20 => ?_) (fun c20 => ?_)
      · have h := nd_pos h c20
        refine lv_iload hx hb dX16_four_95 (lv_at hl 0 rfl) ?_
        refine lv_if_ne (tgt := 112) hx hb dX16_four_97 (by decide) (fun c21 => ?_) (fun c21 => ?_)
        · have h := nd_neg h c21
          refine lv_iload hx hb dX16_four_112 (lv_at hl 0 rfl) ?_
          refine lv_iconst (v := 1) hx hb dX16_four_114 (by decide) ?_
          refine lv_icmp_ne (tgt := 122) hx hb dX16_four_115 (by decide) (fun c22 => ?_) (fun c22 => ?_)
          · have h := nd_neg h c22
            refine lv_iload hx hb dX16_four_122 (lv_at hl 0 rfl) ?_
            refine lv_iconst (v := 4) hx hb dX16_four_124 (by decide) ?_
            refine lv_iadd hx hb dX16_four_125 ?_
            exact (db_X16_four_126 C K) (z4) (z8) ((q12 + 4)) s0 _ _ _ h hP hD hS (lv_sub hl [3, 2] rfl)
          · have h := nd_pos h c22
            refine lv_iconst (v := 4) hx hb dX16_four_118 (by decide) ?_
            refine lv_goto (tgt := 126) hx hb dX16_four_119 (by decide) ?_
            exact (db_X16_four_126 C K) (z4) (z8) (4) s0 _ _ _ h hP hD hS (lv_sub hl [3, 2] rfl)
        · have h := nd_pos h c21
          refine lv_iconst (v := 0) hx hb dX16_four_100 (by decide) ?_
          refine lv_bipush (v := 32) hx hb dX16_four_101 (by decide) ?_
          refine lv_iload_n hx hb dX16_four_103 rfl (lv_at hl 3 rfl) ?_
          refine lv_iload_n hx hb dX16_four_104 rfl (lv_at hl 3 rfl) ?_
          refine lv_iload_n hx hb dX16_four_105 rfl (lv_at hl 2 rfl) ?_
          obtain ⟨q26, s27, hq, h⟩ := nd_b2_e h
          have hPc : va_P (dC, dI) vwCl (dw_P a ac ()) H := nd_p0
          have hDc : va_D A (dw_P a ac ()) := nd_d0
          have hKc : va_K (dC, dI) vwCl (dk_P ac) s := nd_y0 hK
          have hFc : ∀ q, va_A (dw_P a ac ()) H.size q → A q := nd_r0 hS hA
          refine nd_cSi (As := [.int 0, .int 32, .int z4, .int z4, .int z8]) (rest := []) (q := q26) (w' := dw_P a ac s27) ⟨hx, hb, hml, hown, hts⟩ (fun sz => dm_X16_threes l hlt dC dI a ac n (0) (32) (z4) (z4) (z8) () hq sz) (cwS 5 hts gi_dm_X16_four_1 rfl rfl rfl (by decide +kernel) ⟨Nat.le_of_ble_eq_true rfl, Nat.le_of_ble_eq_true rfl⟩) hPc hDc hKc hS hA hN rfl hl.1 rfl (Nat.le_of_ble_eq_true rfl) dX16_four_106 (fun H locs hP1 hD1 hk1 hS => ?_)
          have hP := nd_n0 hP hk1
          refine lv_goto (tgt := 133) hx hb dX16_four_109 (by decide) ?_
          exact (db_X16_four_133 C K) (q26) s0 _ _ _ h hP hD hS (lv_sub hl [] rfl)
      · have h := nd_neg h c20
        refine lv_bipush (v := 19) hx hb dX16_four_74 (by decide) ?_
        refine lv_iconst (v := 5) hx hb dX16_four_76 (by decide) ?_
        refine lv_iload_n hx hb dX16_four_77 rfl (lv_at hl 3 rfl) ?_
        refine lv_iload_n hx hb dX16_four_78 rfl (lv_at hl 3 rfl) ?_
        refine lv_iload_n hx hb dX16_four_79 rfl (lv_at hl 4 rfl) ?_
        refine lv_iconst (v := 2) hx hb dX16_four_80 (by decide) ?_
        refine lv_iconst (v := 5) hx hb dX16_four_81 (by decide) ?_
        obtain ⟨q29, s30, hq, h⟩ := nd_b2_e h
        have hPc : va_P (dC, dI) vwCl (dw_P a ac ()) H := nd_p0
        have hDc : va_D A (dw_P a ac ()) := nd_d0
        have hKc : va_K (dC, dI) vwCl (dk_P ac) s := nd_y0 hK
        have hFc : ∀ q, va_A (dw_P a ac ()) H.size q → A q := nd_r0 hS hA
        refine nd_cSi (As := [.int v0, .int 2, .int 5]) (rest := [.int z4, .int z4, .int 5, .int 19]) (q := q29) (w' := dw_P a ac s30) ⟨hx, hb, hml, hown, hts⟩ (fun sz => dm_X16_part l hlt dC dI a ac n (v0) (2) (5) () hq sz) (cwS 3 hts gi_dm_X16_four_0 rfl rfl rfl (by decide +kernel) ⟨Nat.le_of_ble_eq_true rfl, Nat.le_of_ble_eq_true rfl⟩) hPc hDc hKc hS hA hN rfl hl.1 rfl (Nat.le_of_ble_eq_true rfl) dX16_four_82 (fun H locs hP1 hD1 hk1 hS => ?_)
        have hP := nd_n0 hP hk1
        refine lv_iload hx hb dX16_four_85 (lv_at hl 1 rfl) ?_
        refine lv_bipush (v := 10) hx hb dX16_four_87 (by decide) ?_
        refine lv_ishl hx hb dX16_four_89 ?_
        refine lv_ior hx hb dX16_four_90 ?_
        obtain ⟨q32, s33, hq, h⟩ := nd_b2_e h
        have hPc : va_P (dC, dI) vwCl (dw_P a ac ()) H := nd_p0
        have hDc : va_D A (dw_P a ac ()) := nd_d0
        have hKc : va_K (dC, dI) vwCl (dk_P ac) s := nd_y0 hK
        have hFc : ∀ q, va_A (dw_P a ac ()) H.size q → A q := nd_r0 hS hA
        refine nd_cSi (As := [.int 19, .int 5, .int z4, .int z4, .int (q29 ||| ((q9 : Int32) <<< ((10 : Int32) &&& 31)))]) (rest := []) (q := q32) (w' := dw_P a ac s33) ⟨hx, hb, hml, hown, hts⟩ (fun sz => dm_X16_immediate l hlt dC dI a ac n (19) (5) (z4) (z4) ((q29 ||| ((q9 : Int32) <<< ((10 : Int32) &&& 31)))) () hq sz) (cwS 5 hts gi_dm_X16_four_2 rfl rfl rfl (by decide +kernel) ⟨Nat.le_of_ble_eq_true rfl, Nat.le_of_ble_eq_true rfl⟩) hPc hDc hKc hS hA hN rfl hl.1 rfl (Nat.le_of_ble_eq_true rfl) dX16_four_91 (fun H locs hP1 hD1 hk1 hS => ?_)
        have hP := nd_n0 hP hk1
        exact K _ _ _ _ _ _ dX16_four_94 rfl (Option.some.inj h).symm hP hD hS
    · have h := nd_pos h c19
      refine lv_iconst (v := 0) hx hb dX16_four_66 (by decide) ?_
      exact K _ _ _ _ _ _ dX16_four_67 rfl (Option.some.inj h).symm hP hD hS
  · have h := nd_pos h c15
    refine lv_bipush (v := 19) hx hb dX16_four_44 (by decide) ?_
    refine lv_bipush (v := 7) hx hb dX16_four_46 (by decide) ?_
    refine lv_iload_n hx hb dX16_four_48 rfl (lv_at hl 3 rfl) ?_
    refine lv_iload_n hx hb dX16_four_49 rfl (lv_at hl 3 rfl) ?_
    refine lv_iload_n hx hb dX16_four_50 rfl (lv_at hl 5 rfl) ?_
    obtain ⟨q35, s36, hq, h⟩ := nd_b2_e h
    have hPc : va_P (dC, dI) vwCl (dw_P a ac ()) H := nd_p0
    have hDc : va_D A (dw_P a ac ()) := nd_d0
    have hKc : va_K (dC, dI) vwCl (dk_P ac) s := nd_y0 hK
    have hFc : ∀ q, va_A (dw_P a ac ()) H.size q → A q := nd_r0 hS hA
    refine nd_cSi (As := [.int 19, .int 7, .int z4, .int z4, .int v1]) (rest := []) (q := q35) (w' := dw_P a ac s36) ⟨hx, hb, hml, hown, hts⟩ (fun sz => dm_X16_immediate l hlt dC dI a ac n (19) (7) (z4) (z4) (v1) () hq sz) (cwS 5 hts gi_dm_X16_four_2 rfl rfl rfl (by decide +kernel) ⟨Nat.le_of_ble_eq_true rfl, Nat.le_of_ble_eq_true rfl⟩) hPc hDc hKc hS hA hN rfl hl.1 rfl (Nat.le_of_ble_eq_true rfl) dX16_four_51 (fun H locs hP1 hD1 hk1 hS => ?_)
    have hP := nd_n0 hP hk1
    exact K _ _ _ _ _ _ dX16_four_54 rfl (Option.some.inj h).symm hP hD hS
set_option maxHeartbeats 40000000 in
set_option maxRecDepth 100000 in
theorem dm_X16_four (l : Launch) (hlt : l.stackTraces = false) (dC : Nat → ClassId) (dI : Nat → Nat → Nat) (a : Nat → Nat) (ac : Nat → ClassId) (n : Nat) (v0 : Int32) (v1 : Int32) (s0 : Unit) {r : Int32 × (Unit)} (h : df_X16_four n v0 v1 s0 = some r) (sz : Nat) : Met l yX16_four ow_dm_X16_four ({ frames := 1, cells := 0, slots := 0, locals := 24 }) (va_Pc [.int v0, .int v1] (fun U => U.heap.size = sz ∧ va_P (dC, dI) vwCl (dw_P a ac s0) U.heap ∧ va_K (dC, dI) vwCl (dk_P ac) U ∧ va_D (fun _ => True) (dw_P a ac s0) ∧ nv_E (va_A (dw_P a ac s0) sz) U)) (va_Qi (fun x _ => x = r.1) (fun (_ : Unit) t => va_P (dC, dI) vwCl (dw_P a ac r.2) t.heap ∧ va_K (dC, dI) vwCl (dk_P ac) t ∧ va_D (va_A (dw_P a ac s0) sz) (dw_P a ac r.2)) (va_A (dw_P a ac s0) sz)) 0 0 (va_A (dw_P a ac s0) sz) := by
  refine Met.ofW (cc := cX16_four) (maxL := 6) (ret := (some .int)) (by decide) rfl ?_
  intro p e s m args below meth c s₁ B hml hv
  obtain ⟨rfl, hsz, hP, hK, hD0, hN⟩ := hv
  have hx := B.exec
  have hb := B.bytes
  have hr := B.returns
  have hts := atoms_spec (ws := ow_dm_X16_four) B.pre
  have hown : s.vm.findClass RX16 = some m.cls := findClass_of_methodNamed B.named
  have hlocks := B.notSynchronized
  subst hsz
  have hD := hD0.self (sz := s.heap.size)
  generalize hAe : va_A (dw_P a ac s0) s.heap.size = A at hD hN ⊢
  have hA : ∀ q : Nat, s.heap.size ≤ q → A q := fun q h => by rw [← hAe]; exact Or.inr h
  have hl := lv_entry ([.int v0, .int v1]) (n := 6) (Nat.le_of_ble_eq_true rfl)
  rw [lg_entry_eq]
  generalize (lg_sl ([.int v0, .int v1]) ++ List.replicate (6 - (lg_sl ([.int v0, .int v1])).length) Slot.unset).toArray = ls at hl ⊢
  have hl : lv_has ls 6 [(0, .int v0), (1, .int v1)] := hl
  exact db_X16_four_0 (dC := dC) (dI := dI) (a := a) (ac := ac) (n := n) (r := r) ⟨hlt, hx, hb, hml, hown, hts, hN, hA, hK⟩ (fun pc v τ H locs ls d z er hP hD hS => by subst er; exact W.zret (v := v) hx hb hr z (fun t ht hW => ⟨⟨v, (), rfl, rfl, by rw [ht]; exact hP, va_K.moved hW.alike hK, hD⟩, hS.F ht⟩) hS.2.2 d) v0 v1 s0 _ _ _ h hP hD va_S.rf (lv_sub hl [0, 1] rfl)
def ow_dm_X16_branch : List Cond := .code yX16_branch cX16_branch 3 (some .int) :: ([.methodLink RX16 300 yX16_bit, .static yX16_bit, .initialized RX16] ++ (ow_dm_X16_bit ++ []))
theorem gd_dm_X16_branch : ∀ w ∈ ow_dm_X16_branch, (w.onTables && w.keeps) = true ∨ ∃ ty, w = Cond.arrayClass ty := List.forall_mem_cons.mpr ⟨good_of_word rfl, List.forall_mem_append.mpr ⟨fun w h => good_of_word (List.all_eq_true.mp (by decide +kernel) w h), List.forall_mem_append.mpr ⟨gd_dm_X16_bit, fun _ h => nomatch h⟩⟩⟩
theorem gi_dm_X16_branch_0 : GoodIn ow_dm_X16_branch (wsS RX16 300 yX16_bit ow_dm_X16_bit) := goodIn_app (goodIn_of _ (by decide +kernel)) (fun w h => ⟨List.mem_cons_of_mem _ (List.mem_append_right _ (List.mem_append_left _ h)), gd_dm_X16_bit w h⟩)
def dj_X16_branch_0 (p : Program) (l : Launch) (e : Env) (s : State) (m : MethodId) (args : Array Value) (below : List Frame) (meth : Method) (c : Code) (Q : State → Prop) (A : Nat → Prop) (dC : Nat → ClassId) (dI : Nat → Nat → Nat) (a : Nat → Nat) (ac : Nat → ClassId) (g : Int32 → Int32 → Int32 → (Unit) → Option (Int32 × (Unit))) (r : Int32 × (Unit)) : Prop := ∀ (v0 : Int32) (v1 : Int32) (v2 : Int32) (s0 : Unit) (H : Heap) (locs : List Loc) (ls : Array Slot), g v0 v1 v2 s0 = some r → va_P (dC, dI) vwCl (dw_P a ac s0) H → va_D A (dw_P a ac s0) → va_S A s.heap H locs → lv_has ls 3 [(0, .int v0), (1, .int v1), (2, .int v2)] → W p l e (headSpec ow_dm_X16_branch ({ frames := 2, cells := 0, slots := 0, locals := 45 })).room s m args below meth c H locs 0 0 Q (F0 m 0 ls [])
set_option maxHeartbeats 40000000 in
set_option maxRecDepth 100000 in
theorem db_X16_branch_0 {p : Program} {l : Launch} {e : Env} {s : State} {m : MethodId} {args : Array Value} {below : List Frame} {meth : Method} {c : Code} {Q : State → Prop} {A : Nat → Prop} {dC : Nat → ClassId} {dI : Nat → Nat → Nat} {a : Nat → Nat} {ac : Nat → ClassId} {n : Nat} {r : Int32 × (Unit)} (C : nd_C p l s m args c A (dC, dI) cX16_branch 3 RX16 ow_dm_X16_branch (dk_P ac)) (K : nd_Ki p l e (headSpec ow_dm_X16_branch ({ frames := 2, cells := 0, slots := 0, locals := 45 })).room s m args below meth c Q A (dC, dI) cX16_branch .int (Unit) (dw_P a ac) r) : dj_X16_branch_0 p l e s m args below meth c Q A dC dI a ac (df_X16_branch_0 n) r := by
  obtain ⟨hlt, hx, hb, hml, hown, hts, hN, hA, hK⟩ := id C
  intro v0 v1 v2 s0 H locs ls h hP hD hS hl
  unfold df_X16_branch_0 at h
  refine lv_bipush (v := 99) hx hb dX16_branch_0 (by decide) ?_
  refine lv_iload_n hx hb dX16_branch_2 rfl (lv_at hl 2 rfl) ?_
  refine lv_bipush (v := 11) hx hb dX16_branch_3 (by decide) ?_
  refine lv_iconst (v := 1) hx hb dX16_branch_5 (by decide) ?_
  refine lv_bipush (v := 7) hx hb dX16_branch_6 (by decide) ?_
  obtain ⟨q1, s2, hq, h⟩ := nd_b2_e h
  have hPc : va_P (dC, dI) vwCl (dw_P a ac ()) H := nd_p0
  have hDc : va_D A (dw_P a ac ()) := nd_d0
  have hKc : va_K (dC, dI) vwCl (dk_P ac) s := nd_y0 hK
  have hFc : ∀ q, va_A (dw_P a ac ()) H.size q → A q := nd_r0 hS hA
  refine nd_cSi (As := [.int v2, .int 11, .int 1, .int 7]) (rest := [.int 99]) (q := q1) (w' := dw_P a ac s2) ⟨hx, hb, hml, hown, hts⟩ (fun sz => dm_X16_bit l hlt dC dI a ac n (v2) (11) (1) (7) () hq sz) (cwS 4 hts gi_dm_X16_branch_0 rfl rfl rfl (by decide +kernel) ⟨Nat.le_of_ble_eq_true rfl, Nat.le_of_ble_eq_true rfl⟩) hPc hDc hKc hS hA hN rfl hl.1 rfl (Nat.le_of_ble_eq_true rfl) dX16_branch_8 (fun H locs hP1 hD1 hk1 hS => ?_)
  have hP := nd_n0 hP hk1
  refine lv_ior hx hb dX16_branch_11 ?_
  refine lv_iload_n hx hb dX16_branch_12 rfl (lv_at hl 2 rfl) ?_
  refine lv_iconst (v := 1) hx hb dX16_branch_13 (by decide) ?_
  refine lv_iconst (v := 4) hx hb dX16_branch_14 (by decide) ?_
  refine lv_bipush (v := 8) hx hb dX16_branch_15 (by decide) ?_
  obtain ⟨q4, s5, hq, h⟩ := nd_b2_e h
  have hPc : va_P (dC, dI) vwCl (dw_P a ac ()) H := nd_p0
  have hDc : va_D A (dw_P a ac ()) := nd_d0
  have hKc : va_K (dC, dI) vwCl (dk_P ac) s := nd_y0 hK
  have hFc : ∀ q, va_A (dw_P a ac ()) H.size q → A q := nd_r0 hS hA
  refine nd_cSi (As := [.int v2, .int 1, .int 4, .int 8]) (rest := [.int (99 ||| q1)]) (q := q4) (w' := dw_P a ac s5) ⟨hx, hb, hml, hown, hts⟩ (fun sz => dm_X16_bit l hlt dC dI a ac n (v2) (1) (4) (8) () hq sz) (cwS 4 hts gi_dm_X16_branch_0 rfl rfl rfl (by decide +kernel) ⟨Nat.le_of_ble_eq_true rfl, Nat.le_of_ble_eq_true rfl⟩) hPc hDc hKc hS hA hN rfl hl.1 rfl (Nat.le_of_ble_eq_true rfl) dX16_branch_17 (fun H locs hP1 hD1 hk1 hS => ?_)
  have hP := nd_n0 hP hk1
  refine lv_ior hx hb dX16_branch_20 ?_
  refine lv_iload_n hx hb dX16_branch_21 rfl (lv_at hl 0 rfl) ?_
  refine lv_bipush (v := 12) hx hb dX16_branch_22 (by decide) ?_
  refine lv_ishl hx hb dX16_branch_24 ?_
  refine lv_ior hx hb dX16_branch_25 ?_
  refine lv_iload_n hx hb dX16_branch_26 rfl (lv_at hl 1 rfl) ?_
  refine lv_bipush (v := 15) hx hb dX16_branch_27 (by decide) ?_
  refine lv_ishl hx hb dX16_branch_29 ?_
  refine lv_ior hx hb dX16_branch_30 ?_
  refine lv_iload_n hx hb dX16_branch_31 rfl (lv_at hl 2 rfl) ?_
  refine lv_iconst (v := 5) hx hb dX16_branch_32 (by decide) ?_
  refine lv_bipush (v := 6) hx hb dX16_branch_33 (by decide) ?_
  refine lv_bipush (v := 25) hx hb dX16_branch_35 (by decide) ?_
  obtain ⟨q7, s8, hq, h⟩ := nd_b2_e h
  have hPc : va_P (dC, dI) vwCl (dw_P a ac ()) H := nd_p0
  have hDc : va_D A (dw_P a ac ()) := nd_d0
  have hKc : va_K (dC, dI) vwCl (dk_P ac) s := nd_y0 hK
  have hFc : ∀ q, va_A (dw_P a ac ()) H.size q → A q := nd_r0 hS hA
  refine nd_cSi (As := [.int v2, .int 5, .int 6, .int 25]) (rest := [.int ((((99 ||| q1) ||| q4) ||| ((v0 : Int32) <<< ((12 : Int32) &&& 31))) ||| ((v1 : Int32) <<< ((15 : Int32) &&& 31)))]) (q := q7) (w' := dw_P a ac s8) ⟨hx, hb, hml, hown, hts⟩ (fun sz => dm_X16_bit l hlt dC dI a ac n (v2) (5) (6) (25) () hq sz) (cwS 4 hts gi_dm_X16_branch_0 rfl rfl rfl (by decide +kernel) ⟨Nat.le_of_ble_eq_true rfl, Nat.le_of_ble_eq_true rfl⟩) hPc hDc hKc hS hA hN rfl hl.1 rfl (Nat.le_of_ble_eq_true rfl) dX16_branch_37 (fun H locs hP1 hD1 hk1 hS => ?_)
  have hP := nd_n0 hP hk1
  refine lv_ior hx hb dX16_branch_40 ?_
  refine lv_iload_n hx hb dX16_branch_41 rfl (lv_at hl 2 rfl) ?_
  refine lv_bipush (v := 12) hx hb dX16_branch_42 (by decide) ?_
  refine lv_iconst (v := 1) hx hb dX16_branch_44 (by decide) ?_
  refine lv_bipush (v := 31) hx hb dX16_branch_45 (by decide) ?_
  obtain ⟨q10, s11, hq, h⟩ := nd_b2_e h
  have hPc : va_P (dC, dI) vwCl (dw_P a ac ()) H := nd_p0
  have hDc : va_D A (dw_P a ac ()) := nd_d0
  have hKc : va_K (dC, dI) vwCl (dk_P ac) s := nd_y0 hK
  have hFc : ∀ q, va_A (dw_P a ac ()) H.size q → A q := nd_r0 hS hA
  refine nd_cSi (As := [.int v2, .int 12, .int 1, .int 31]) (rest := [.int (((((99 ||| q1) ||| q4) ||| ((v0 : Int32) <<< ((12 : Int32) &&& 31))) ||| ((v1 : Int32) <<< ((15 : Int32) &&& 31))) ||| q7)]) (q := q10) (w' := dw_P a ac s11) ⟨hx, hb, hml, hown, hts⟩ (fun sz => dm_X16_bit l hlt dC dI a ac n (v2) (12) (1) (31) () hq sz) (cwS 4 hts gi_dm_X16_branch_0 rfl rfl rfl (by decide +kernel) ⟨Nat.le_of_ble_eq_true rfl, Nat.le_of_ble_eq_true rfl⟩) hPc hDc hKc hS hA hN rfl hl.1 rfl (Nat.le_of_ble_eq_true rfl) dX16_branch_47 (fun H locs hP1 hD1 hk1 hS => ?_)
  have hP := nd_n0 hP hk1
  refine lv_ior hx hb dX16_branch_50 ?_
  exact K _ _ _ _ _ _ dX16_branch_51 rfl (Option.some.inj h).symm hP hD hS
set_option maxHeartbeats 40000000 in
set_option maxRecDepth 100000 in
theorem dm_X16_branch (l : Launch) (hlt : l.stackTraces = false) (dC : Nat → ClassId) (dI : Nat → Nat → Nat) (a : Nat → Nat) (ac : Nat → ClassId) (n : Nat) (v0 : Int32) (v1 : Int32) (v2 : Int32) (s0 : Unit) {r : Int32 × (Unit)} (h : df_X16_branch n v0 v1 v2 s0 = some r) (sz : Nat) : Met l yX16_branch ow_dm_X16_branch ({ frames := 2, cells := 0, slots := 0, locals := 45 }) (va_Pc [.int v0, .int v1, .int v2] (fun U => U.heap.size = sz ∧ va_P (dC, dI) vwCl (dw_P a ac s0) U.heap ∧ va_K (dC, dI) vwCl (dk_P ac) U ∧ va_D (fun _ => True) (dw_P a ac s0) ∧ nv_E (va_A (dw_P a ac s0) sz) U)) (va_Qi (fun x _ => x = r.1) (fun (_ : Unit) t => va_P (dC, dI) vwCl (dw_P a ac r.2) t.heap ∧ va_K (dC, dI) vwCl (dk_P ac) t ∧ va_D (va_A (dw_P a ac s0) sz) (dw_P a ac r.2)) (va_A (dw_P a ac s0) sz)) 0 0 (va_A (dw_P a ac s0) sz) := by
  refine Met.ofW (cc := cX16_branch) (maxL := 3) (ret := (some .int)) (by decide) rfl ?_
  intro p e s m args below meth c s₁ B hml hv
  obtain ⟨rfl, hsz, hP, hK, hD0, hN⟩ := hv
  have hx := B.exec
  have hb := B.bytes
  have hr := B.returns
  have hts := atoms_spec (ws := ow_dm_X16_branch) B.pre
  have hown : s.vm.findClass RX16 = some m.cls := findClass_of_methodNamed B.named
  have hlocks := B.notSynchronized
  subst hsz
  have hD := hD0.self (sz := s.heap.size)
  generalize hAe : va_A (dw_P a ac s0) s.heap.size = A at hD hN ⊢
  have hA : ∀ q : Nat, s.heap.size ≤ q → A q := fun q h => by rw [← hAe]; exact Or.inr h
  have hl := lv_entry ([.int v0, .int v1, .int v2]) (n := 3) (Nat.le_of_ble_eq_true rfl)
  rw [lg_entry_eq]
  generalize (lg_sl ([.int v0, .int v1, .int v2]) ++ List.replicate (3 - (lg_sl ([.int v0, .int v1, .int v2])).length) Slot.unset).toArray = ls at hl ⊢
  have hl : lv_has ls 3 [(0, .int v0), (1, .int v1), (2, .int v2)] := hl
  exact db_X16_branch_0 (dC := dC) (dI := dI) (a := a) (ac := ac) (n := n) (r := r) ⟨hlt, hx, hb, hml, hown, hts, hN, hA, hK⟩ (fun pc v τ H locs ls d z er hP hD hS => by subst er; exact W.zret (v := v) hx hb hr z (fun t ht hW => ⟨⟨v, (), rfl, rfl, by rw [ht]; exact hP, va_K.moved hW.alike hK, hD⟩, hS.F ht⟩) hS.2.2 d) v0 v1 v2 s0 _ _ _ h hP hD va_S.rf (lv_sub hl [0, 1, 2] rfl)
def ow_dm_X16_one : List Cond := .code yX16_one cX16_one 7 (some .int) :: ([.methodLink RX16 297 yX16_part, .static yX16_part, .initialized RX16, .methodLink RX16 300 yX16_bit, .static yX16_bit, .methodLink RX16 320 yX16_signed, .static yX16_signed, .methodLink RX16 313 yX16_immediate, .static yX16_immediate, .methodLink RX16 323 yX16_link, .static yX16_link, .methodLink RX16 326 yX16_four, .static yX16_four, .methodLink RX16 329 yX16_branch, .static yX16_branch] ++ (ow_dm_X16_part ++ (ow_dm_X16_bit ++ (ow_dm_X16_signed ++ (ow_dm_X16_immediate ++ (ow_dm_X16_link ++ (ow_dm_X16_four ++ (ow_dm_X16_branch ++ []))))))))
theorem gd_dm_X16_one : ∀ w ∈ ow_dm_X16_one, (w.onTables && w.keeps) = true ∨ ∃ ty, w = Cond.arrayClass ty := List.forall_mem_cons.mpr ⟨good_of_word rfl, List.forall_mem_append.mpr ⟨fun w h => good_of_word (List.all_eq_true.mp (by decide +kernel) w h), List.forall_mem_append.mpr ⟨gd_dm_X16_part, List.forall_mem_append.mpr ⟨gd_dm_X16_bit, List.forall_mem_append.mpr ⟨gd_dm_X16_signed, List.forall_mem_append.mpr ⟨gd_dm_X16_immediate, List.forall_mem_append.mpr ⟨gd_dm_X16_link, List.forall_mem_append.mpr ⟨gd_dm_X16_four, List.forall_mem_append.mpr ⟨gd_dm_X16_branch, fun _ h => nomatch h⟩⟩⟩⟩⟩⟩⟩⟩⟩
theorem gi_dm_X16_one_0 : GoodIn ow_dm_X16_one (wsS RX16 297 yX16_part ow_dm_X16_part) := goodIn_app (goodIn_of _ (by decide +kernel)) (fun w h => ⟨List.mem_cons_of_mem _ (List.mem_append_right _ (List.mem_append_left _ h)), gd_dm_X16_part w h⟩)
theorem gi_dm_X16_one_1 : GoodIn ow_dm_X16_one (wsS RX16 300 yX16_bit ow_dm_X16_bit) := goodIn_app (goodIn_of _ (by decide +kernel)) (fun w h => ⟨List.mem_cons_of_mem _ (List.mem_append_right _ (List.mem_append_right _ (List.mem_append_left _ h))), gd_dm_X16_bit w h⟩)
theorem gi_dm_X16_one_2 : GoodIn ow_dm_X16_one (wsS RX16 320 yX16_signed ow_dm_X16_signed) := goodIn_app (goodIn_of _ (by decide +kernel)) (fun w h => ⟨List.mem_cons_of_mem _ (List.mem_append_right _ (List.mem_append_right _ (List.mem_append_right _ (List.mem_append_left _ h)))), gd_dm_X16_signed w h⟩)
theorem gi_dm_X16_one_3 : GoodIn ow_dm_X16_one (wsS RX16 313 yX16_immediate ow_dm_X16_immediate) := goodIn_app (goodIn_of _ (by decide +kernel)) (fun w h => ⟨List.mem_cons_of_mem _ (List.mem_append_right _ (List.mem_append_right _ (List.mem_append_right _ (List.mem_append_right _ (List.mem_append_left _ h))))), gd_dm_X16_immediate w h⟩)
theorem gi_dm_X16_one_4 : GoodIn ow_dm_X16_one (wsS RX16 323 yX16_link ow_dm_X16_link) := goodIn_app (goodIn_of _ (by decide +kernel)) (fun w h => ⟨List.mem_cons_of_mem _ (List.mem_append_right _ (List.mem_append_right _ (List.mem_append_right _ (List.mem_append_right _ (List.mem_append_right _ (List.mem_append_left _ h)))))), gd_dm_X16_link w h⟩)
theorem gi_dm_X16_one_5 : GoodIn ow_dm_X16_one (wsS RX16 326 yX16_four ow_dm_X16_four) := goodIn_app (goodIn_of _ (by decide +kernel)) (fun w h => ⟨List.mem_cons_of_mem _ (List.mem_append_right _ (List.mem_append_right _ (List.mem_append_right _ (List.mem_append_right _ (List.mem_append_right _ (List.mem_append_right _ (List.mem_append_left _ h))))))), gd_dm_X16_four w h⟩)
theorem gi_dm_X16_one_6 : GoodIn ow_dm_X16_one (wsS RX16 329 yX16_branch ow_dm_X16_branch) := goodIn_app (goodIn_of _ (by decide +kernel)) (fun w h => ⟨List.mem_cons_of_mem _ (List.mem_append_right _ (List.mem_append_right _ (List.mem_append_right _ (List.mem_append_right _ (List.mem_append_right _ (List.mem_append_right _ (List.mem_append_right _ (List.mem_append_left _ h)))))))), gd_dm_X16_branch w h⟩)
def dj_X16_one_326 (p : Program) (l : Launch) (e : Env) (s : State) (m : MethodId) (args : Array Value) (below : List Frame) (meth : Method) (c : Code) (Q : State → Prop) (A : Nat → Prop) (dC : Nat → ClassId) (dI : Nat → Nat → Nat) (a : Nat → Nat) (ac : Nat → ClassId) (g : Int32 → (Unit) → Option (Int32 × (Unit))) (r : Int32 × (Unit)) : Prop := ∀ (y0 : Int32) (s0 : Unit) (H : Heap) (locs : List Loc) (ls : Array Slot), g y0 s0 = some r → va_P (dC, dI) vwCl (dw_P a ac s0) H → va_D A (dw_P a ac s0) → va_S A s.heap H locs → lv_has ls 7 [] → W p l e (headSpec ow_dm_X16_one ({ frames := 3, cells := 0, slots := 0, locals := 67 })).room s m args below meth c H locs 0 0 Q (F0 m 326 ls [.int y0])
def dj_X16_one_0 (p : Program) (l : Launch) (e : Env) (s : State) (m : MethodId) (args : Array Value) (below : List Frame) (meth : Method) (c : Code) (Q : State → Prop) (A : Nat → Prop) (dC : Nat → ClassId) (dI : Nat → Nat → Nat) (a : Nat → Nat) (ac : Nat → ClassId) (g : Int32 → Int32 → (Unit) → Option (Int32 × (Unit))) (r : Int32 × (Unit)) : Prop := ∀ (v0 : Int32) (v1 : Int32) (s0 : Unit) (H : Heap) (locs : List Loc) (ls : Array Slot), g v0 v1 s0 = some r → va_P (dC, dI) vwCl (dw_P a ac s0) H → va_D A (dw_P a ac s0) → va_S A s.heap H locs → lv_has ls 7 [(0, .int v0), (1, .int v1)] → W p l e (headSpec ow_dm_X16_one ({ frames := 3, cells := 0, slots := 0, locals := 67 })).room s m args below meth c H locs 0 0 Q (F0 m 0 ls [])
set_option maxHeartbeats 40000000 in
set_option maxRecDepth 100000 in
theorem db_X16_one_326 {p : Program} {l : Launch} {e : Env} {s : State} {m : MethodId} {args : Array Value} {below : List Frame} {meth : Method} {c : Code} {Q : State → Prop} {A : Nat → Prop} {dC : Nat → ClassId} {dI : Nat → Nat → Nat} {a : Nat → Nat} {ac : Nat → ClassId} {n : Nat} {r : Int32 × (Unit)} (C : nd_C p l s m args c A (dC, dI) cX16_one 7 RX16 ow_dm_X16_one (dk_P ac)) (K : nd_Ki p l e (headSpec ow_dm_X16_one ({ frames := 3, cells := 0, slots := 0, locals := 67 })).room s m args below meth c Q A (dC, dI) cX16_one .int (Unit) (dw_P a ac) r) : dj_X16_one_326 p l e s m args below meth c Q A dC dI a ac (df_X16_one_326 n) r := by
  obtain ⟨hlt, hx, hb, hml, hown, hts, hN, hA, hK⟩ := id C
  intro y0 s0 H locs ls h hP hD hS hl
  unfold df_X16_one_326 at h
  exact K _ _ _ _ _ _ dX16_one_326 rfl (Option.some.inj h).symm hP hD hS
set_option maxHeartbeats 40000000 in
set_option maxRecDepth 100000 in
theorem db_X16_one_0 {p : Program} {l : Launch} {e : Env} {s : State} {m : MethodId} {args : Array Value} {below : List Frame} {meth : Method} {c : Code} {Q : State → Prop} {A : Nat → Prop} {dC : Nat → ClassId} {dI : Nat → Nat → Nat} {a : Nat → Nat} {ac : Nat → ClassId} {n : Nat} {r : Int32 × (Unit)} (C : nd_C p l s m args c A (dC, dI) cX16_one 7 RX16 ow_dm_X16_one (dk_P ac)) (K : nd_Ki p l e (headSpec ow_dm_X16_one ({ frames := 3, cells := 0, slots := 0, locals := 67 })).room s m args below meth c Q A (dC, dI) cX16_one .int (Unit) (dw_P a ac) r) : dj_X16_one_0 p l e s m args below meth c Q A dC dI a ac (df_X16_one_0 n) r := by
  obtain ⟨hlt, hx, hb, hml, hown, hts, hN, hA, hK⟩ := id C
  intro v0 v1 s0 H locs ls h hP hD hS hl
  unfold df_X16_one_0 at h
  refine lv_iload_n hx hb dX16_one_0 rfl (lv_at hl 0 rfl) ?_
  refine lv_bipush (v := 7) hx hb dX16_one_1 (by decide) ?_
  refine lv_iconst (v := 5) hx hb dX16_one_3 (by decide) ?_
  obtain ⟨q1, s2, hq, h⟩ := nd_b2_e h
  have hPc : va_P (dC, dI) vwCl (dw_P a ac ()) H := nd_p0
  have hDc : va_D A (dw_P a ac ()) := nd_d0
  have hKc : va_K (dC, dI) vwCl (dk_P ac) s := nd_y0 hK
  have hFc : ∀ q, va_A (dw_P a ac ()) H.size q → A q := nd_r0 hS hA
  refine nd_cSi (As := [.int v0, .int 7, .int 5]) (rest := []) (q := q1) (w' := dw_P a ac s2) ⟨hx, hb, hml, hown, hts⟩ (fun sz => dm_X16_part l hlt dC dI a ac n (v0) (7) (5) () hq sz) (cwS 3 hts gi_dm_X16_one_0 rfl rfl rfl (by decide +kernel) ⟨Nat.le_of_ble_eq_true rfl, Nat.le_of_ble_eq_true rfl⟩) hPc hDc hKc hS hA hN rfl hl.1 rfl (Nat.le_of_ble_eq_true rfl) dX16_one_4 (fun H locs hP1 hD1 hk1 hS => ?_)
  have hP := nd_n0 hP hk1
  refine lv_istore_n (lv' := [(2, .int q1), (0, .int v0), (1, .int v1)]) hx hb dX16_one_7 rfl hl (by decide) rfl (fun ls hl => ?_)
  refine lv_iload_n hx hb dX16_one_8 rfl (lv_at hl 1 rfl) ?_
  refine lv_bipush (v := 12) hx hb dX16_one_9 (by decide) ?_
  refine lv_iconst (v := 1) hx hb dX16_one_11 (by decide) ?_
  refine lv_iconst (v := 5) hx hb dX16_one_12 (by decide) ?_
  obtain ⟨q4, s5, hq, h⟩ := nd_b2_e h
  have hPc : va_P (dC, dI) vwCl (dw_P a ac ()) H := nd_p0
  have hDc : va_D A (dw_P a ac ()) := nd_d0
  have hKc : va_K (dC, dI) vwCl (dk_P ac) s := nd_y0 hK
  have hFc : ∀ q, va_A (dw_P a ac ()) H.size q → A q := nd_r0 hS hA
  refine nd_cSi (As := [.int v0, .int 12, .int 1, .int 5]) (rest := []) (q := q4) (w' := dw_P a ac s5) ⟨hx, hb, hml, hown, hts⟩ (fun sz => dm_X16_bit l hlt dC dI a ac n (v0) (12) (1) (5) () hq sz) (cwS 4 hts gi_dm_X16_one_1 rfl rfl rfl (by decide +kernel) ⟨Nat.le_of_ble_eq_true rfl, Nat.le_of_ble_eq_true rfl⟩) hPc hDc hKc hS hA hN rfl hl.1 rfl (Nat.le_of_ble_eq_true rfl) dX16_one_13 (fun H locs hP1 hD1 hk1 hS => ?_)
  have hP := nd_n0 hP hk1
  refine lv_iload_n hx hb dX16_one_16 rfl (lv_at hl 1 rfl) ?_
  refine lv_iconst (v := 2) hx hb dX16_one_17 (by decide) ?_
  refine lv_iconst (v := 5) hx hb dX16_one_18 (by decide) ?_
  obtain ⟨q7, s8, hq, h⟩ := nd_b2_e h
  have hPc : va_P (dC, dI) vwCl (dw_P a ac ()) H := nd_p0
  have hDc : va_D A (dw_P a ac ()) := nd_d0
  have hKc : va_K (dC, dI) vwCl (dk_P ac) s := nd_y0 hK
  have hFc : ∀ q, va_A (dw_P a ac ()) H.size q → A q := nd_r0 hS hA
  refine nd_cSi (As := [.int v0, .int 2, .int 5]) (rest := [.int q4]) (q := q7) (w' := dw_P a ac s8) ⟨hx, hb, hml, hown, hts⟩ (fun sz => dm_X16_part l hlt dC dI a ac n (v0) (2) (5) () hq sz) (cwS 3 hts gi_dm_X16_one_0 rfl rfl rfl (by decide +kernel) ⟨Nat.le_of_ble_eq_true rfl, Nat.le_of_ble_eq_true rfl⟩) hPc hDc hKc hS hA hN rfl hl.1 rfl (Nat.le_of_ble_eq_true rfl) dX16_one_19 (fun H locs hP1 hD1 hk1 hS => ?_)
  have hP := nd_n0 hP hk1
  refine lv_ior hx hb dX16_one_22 ?_
  refine lv_bipush (v := 6) hx hb dX16_one_23 (by decide) ?_
  obtain ⟨q10, s11, hq, h⟩ := nd_b2_e h
  have hPc : va_P (dC, dI) vwCl (dw_P a ac ()) H := nd_p0
  have hDc : va_D A (dw_P a ac ()) := nd_d0
  have hKc : va_K (dC, dI) vwCl (dk_P ac) s := nd_y0 hK
  have hFc : ∀ q, va_A (dw_P a ac ()) H.size q → A q := nd_r0 hS hA
  refine nd_cSi (As := [.int (q4 ||| q7), .int 6]) (rest := []) (q := q10) (w' := dw_P a ac s11) ⟨hx, hb, hml, hown, hts⟩ (fun sz => dm_X16_signed l hlt dC dI a ac n ((q4 ||| q7)) (6) () hq sz) (cwS 2 hts gi_dm_X16_one_2 rfl rfl rfl (by decide +kernel) ⟨Nat.le_of_ble_eq_true rfl, Nat.le_of_ble_eq_true rfl⟩) hPc hDc hKc hS hA hN rfl hl.1 rfl (Nat.le_of_ble_eq_true rfl) dX16_one_25 (fun H locs hP1 hD1 hk1 hS => ?_)
  have hP := nd_n0 hP hk1
  refine lv_istore_n (lv' := [(3, .int q10), (2, .int q1), (0, .int v0), (1, .int v1)]) hx hb dX16_one_28 rfl hl (by decide) rfl (fun ls hl => ?_)
  refine lv_iload_n hx hb dX16_one_29 rfl (lv_at hl 2 rfl) ?_
  refine lv_bipush (v := 12) hx hb dX16_one_30 (by decide) ?_
  refine lv_iconst (v := 1) hx hb dX16_one_32 (by decide) ?_
  refine lv_bipush (v := 11) hx hb dX16_one_33 (by decide) ?_
  obtain ⟨q13, s14, hq, h⟩ := nd_b2_e h
  have hPc : va_P (dC, dI) vwCl (dw_P a ac ()) H := nd_p0
  have hDc : va_D A (dw_P a ac ()) := nd_d0
  have hKc : va_K (dC, dI) vwCl (dk_P ac) s := nd_y0 hK
  have hFc : ∀ q, va_A (dw_P a ac ()) H.size q → A q := nd_r0 hS hA
  refine nd_cSi (As := [.int v0, .int 12, .int 1, .int 11]) (rest := []) (q := q13) (w' := dw_P a ac s14) ⟨hx, hb, hml, hown, hts⟩ (fun sz => dm_X16_bit l hlt dC dI a ac n (v0) (12) (1) (11) () hq sz) (cwS 4 hts gi_dm_X16_one_1 rfl rfl rfl (by decide +kernel) ⟨Nat.le_of_ble_eq_true rfl, Nat.le_of_ble_eq_true rfl⟩) hPc hDc hKc hS hA hN rfl hl.1 rfl (Nat.le_of_ble_eq_true rfl) dX16_one_35 (fun H locs hP1 hD1 hk1 hS => ?_)
  have hP := nd_n0 hP hk1
  refine lv_iload_n hx hb dX16_one_38 rfl (lv_at hl 2 rfl) ?_
  refine lv_bipush (v := 11) hx hb dX16_one_39 (by decide) ?_
  refine lv_iconst (v := 1) hx hb dX16_one_41 (by decide) ?_
  refine lv_iconst (v := 4) hx hb dX16_one_42 (by decide) ?_
  obtain ⟨q16, s17, hq, h⟩ := nd_b2_e h
  have hPc : va_P (dC, dI) vwCl (dw_P a ac ()) H := nd_p0
  have hDc : va_D A (dw_P a ac ()) := nd_d0
  have hKc : va_K (dC, dI) vwCl (dk_P ac) s := nd_y0 hK
  have hFc : ∀ q, va_A (dw_P a ac ()) H.size q → A q := nd_r0 hS hA
  refine nd_cSi (As := [.int v0, .int 11, .int 1, .int 4]) (rest := [.int q13]) (q := q16) (w' := dw_P a ac s17) ⟨hx, hb, hml, hown, hts⟩ (fun sz => dm_X16_bit l hlt dC dI a ac n (v0) (11) (1) (4) () hq sz) (cwS 4 hts gi_dm_X16_one_1 rfl rfl rfl (by decide +kernel) ⟨Nat.le_of_ble_eq_true rfl, Nat.le_of_ble_eq_true rfl⟩) hPc hDc hKc hS hA hN rfl hl.1 rfl (Nat.le_of_ble_eq_true rfl) dX16_one_43 (fun H locs hP1 hD1 hk1 hS => ?_)
  have hP := nd_n0 hP hk1
  refine lv_ior hx hb dX16_one_46 ?_
  refine lv_iload_n hx hb dX16_one_47 rfl (lv_at hl 2 rfl) ?_
  refine lv_bipush (v := 9) hx hb dX16_one_48 (by decide) ?_
  refine lv_iconst (v := 2) hx hb dX16_one_50 (by decide) ?_
  refine lv_bipush (v := 8) hx hb dX16_one_51 (by decide) ?_
  obtain ⟨q19, s20, hq, h⟩ := nd_b2_e h
  have hPc : va_P (dC, dI) vwCl (dw_P a ac ()) H := nd_p0
  have hDc : va_D A (dw_P a ac ()) := nd_d0
  have hKc : va_K (dC, dI) vwCl (dk_P ac) s := nd_y0 hK
  have hFc : ∀ q, va_A (dw_P a ac ()) H.size q → A q := nd_r0 hS hA
  refine nd_cSi (As := [.int v0, .int 9, .int 2, .int 8]) (rest := [.int (q13 ||| q16)]) (q := q19) (w' := dw_P a ac s20) ⟨hx, hb, hml, hown, hts⟩ (fun sz => dm_X16_bit l hlt dC dI a ac n (v0) (9) (2) (8) () hq sz) (cwS 4 hts gi_dm_X16_one_1 rfl rfl rfl (by decide +kernel) ⟨Nat.le_of_ble_eq_true rfl, Nat.le_of_ble_eq_true rfl⟩) hPc hDc hKc hS hA hN rfl hl.1 rfl (Nat.le_of_ble_eq_true rfl) dX16_one_53 (fun H locs hP1 hD1 hk1 hS => ?_)
  have hP := nd_n0 hP hk1
  refine lv_ior hx hb dX16_one_56 ?_
  refine lv_iload_n hx hb dX16_one_57 rfl (lv_at hl 2 rfl) ?_
  refine lv_bipush (v := 8) hx hb dX16_one_58 (by decide) ?_
  refine lv_iconst (v := 1) hx hb dX16_one_60 (by decide) ?_
  refine lv_bipush (v := 10) hx hb dX16_one_61 (by decide) ?_
  obtain ⟨q22, s23, hq, h⟩ := nd_b2_e h
  have hPc : va_P (dC, dI) vwCl (dw_P a ac ()) H := nd_p0
  have hDc : va_D A (dw_P a ac ()) := nd_d0
  have hKc : va_K (dC, dI) vwCl (dk_P ac) s := nd_y0 hK
  have hFc : ∀ q, va_A (dw_P a ac ()) H.size q → A q := nd_r0 hS hA
  refine nd_cSi (As := [.int v0, .int 8, .int 1, .int 10]) (rest := [.int ((q13 ||| q16) ||| q19)]) (q := q22) (w' := dw_P a ac s23) ⟨hx, hb, hml, hown, hts⟩ (fun sz => dm_X16_bit l hlt dC dI a ac n (v0) (8) (1) (10) () hq sz) (cwS 4 hts gi_dm_X16_one_1 rfl rfl rfl (by decide +kernel) ⟨Nat.le_of_ble_eq_true rfl, Nat.le_of_ble_eq_true rfl⟩) hPc hDc hKc hS hA hN rfl hl.1 rfl (Nat.le_of_ble_eq_true rfl) dX16_one_63 (fun H locs hP1 hD1 hk1 hS => ?_)
  have hP := nd_n0 hP hk1
  refine lv_ior hx hb dX16_one_66 ?_
  refine lv_iload_n hx hb dX16_one_67 rfl (lv_at hl 2 rfl) ?_
  refine lv_bipush (v := 7) hx hb dX16_one_68 (by decide) ?_
  refine lv_iconst (v := 1) hx hb dX16_one_70 (by decide) ?_
  refine lv_bipush (v := 6) hx hb dX16_one_71 (by decide) ?_
  obtain ⟨q25, s26, hq, h⟩ := nd_b2_e h
  have hPc : va_P (dC, dI) vwCl (dw_P a ac ()) H := nd_p0
  have hDc : va_D A (dw_P a ac ()) := nd_d0
  have hKc : va_K (dC, dI) vwCl (dk_P ac) s := nd_y0 hK
  have hFc : ∀ q, va_A (dw_P a ac ()) H.size q → A q := nd_r0 hS hA
  refine nd_cSi (As := [.int v0, .int 7, .int 1, .int 6]) (rest := [.int (((q13 ||| q16) ||| q19) ||| q22)]) (q := q25) (w' := dw_P a ac s26) ⟨hx, hb, hml, hown, hts⟩ (fun sz => dm_X16_bit l hlt dC dI a ac n (v0) (7) (1) (6) () hq sz) (cwS 4 hts gi_dm_X16_one_1 rfl rfl rfl (by decide +kernel) ⟨Nat.le_of_ble_eq_true rfl, Nat.le_of_ble_eq_true rfl⟩) hPc hDc hKc hS hA hN rfl hl.1 rfl (Nat.le_of_ble_eq_true rfl) dX16_one_73 (fun H locs hP1 hD1 hk1 hS => ?_)
  have hP := nd_n0 hP hk1
  refine lv_ior hx hb dX16_one_76 ?_
  refine lv_iload_n hx hb dX16_one_77 rfl (lv_at hl 2 rfl) ?_
  refine lv_bipush (v := 6) hx hb dX16_one_78 (by decide) ?_
  refine lv_iconst (v := 1) hx hb dX16_one_80 (by decide) ?_
  refine lv_bipush (v := 7) hx hb dX16_one_81 (by decide) ?_
  obtain ⟨q28, s29, hq, h⟩ := nd_b2_e h
  have hPc : va_P (dC, dI) vwCl (dw_P a ac ()) H := nd_p0
  have hDc : va_D A (dw_P a ac ()) := nd_d0
  have hKc : va_K (dC, dI) vwCl (dk_P ac) s := nd_y0 hK
  have hFc : ∀ q, va_A (dw_P a ac ()) H.size q → A q := nd_r0 hS hA
  refine nd_cSi (As := [.int v0, .int 6, .int 1, .int 7]) (rest := [.int ((((q13 ||| q16) ||| q19) ||| q22) ||| q25)]) (q := q28) (w' := dw_P a ac s29) ⟨hx, hb, hml, hown, hts⟩ (fun sz => dm_X16_bit l hlt dC dI a ac n (v0) (6) (1) (7) () hq sz) (cwS 4 hts gi_dm_X16_one_1 rfl rfl rfl (by decide +kernel) ⟨Nat.le_of_ble_eq_true rfl, Nat.le_of_ble_eq_true rfl⟩) hPc hDc hKc hS hA hN rfl hl.1 rfl (Nat.le_of_ble_eq_true rfl) dX16_one_83 (fun H locs hP1 hD1 hk1 hS => ?_)
  have hP := nd_n0 hP hk1
  refine lv_ior hx hb dX16_one_86 ?_
  refine lv_iload_n hx hb dX16_one_87 rfl (lv_at hl 2 rfl) ?_
  refine lv_iconst (v := 3) hx hb dX16_one_88 (by decide) ?_
  refine lv_iconst (v := 3) hx hb dX16_one_89 (by decide) ?_
  refine lv_iconst (v := 1) hx hb dX16_one_90 (by decide) ?_
  obtain ⟨q31, s32, hq, h⟩ := nd_b2_e h
  have hPc : va_P (dC, dI) vwCl (dw_P a ac ()) H := nd_p0
  have hDc : va_D A (dw_P a ac ()) := nd_d0
  have hKc : va_K (dC, dI) vwCl (dk_P ac) s := nd_y0 hK
  have hFc : ∀ q, va_A (dw_P a ac ()) H.size q → A q := nd_r0 hS hA
  refine nd_cSi (As := [.int v0, .int 3, .int 3, .int 1]) (rest := [.int (((((q13 ||| q16) ||| q19) ||| q22) ||| q25) ||| q28)]) (q := q31) (w' := dw_P a ac s32) ⟨hx, hb, hml, hown, hts⟩ (fun sz => dm_X16_bit l hlt dC dI a ac n (v0) (3) (3) (1) () hq sz) (cwS 4 hts gi_dm_X16_one_1 rfl rfl rfl (by decide +kernel) ⟨Nat.le_of_ble_eq_true rfl, Nat.le_of_ble_eq_true rfl⟩) hPc hDc hKc hS hA hN rfl hl.1 rfl (Nat.le_of_ble_eq_true rfl) dX16_one_91 (fun H locs hP1 hD1 hk1 hS => ?_)
  have hP := nd_n0 hP hk1
  refine lv_ior hx hb dX16_one_94 ?_
  refine lv_iload_n hx hb dX16_one_95 rfl (lv_at hl 2 rfl) ?_
  refine lv_iconst (v := 2) hx hb dX16_one_96 (by decide) ?_
  refine lv_iconst (v := 1) hx hb dX16_one_97 (by decide) ?_
  refine lv_iconst (v := 5) hx hb dX16_one_98 (by decide) ?_
  obtain ⟨q34, s35, hq, h⟩ := nd_b2_e h
  have hPc : va_P (dC, dI) vwCl (dw_P a ac ()) H := nd_p0
  have hDc : va_D A (dw_P a ac ()) := nd_d0
  have hKc : va_K (dC, dI) vwCl (dk_P ac) s := nd_y0 hK
  have hFc : ∀ q, va_A (dw_P a ac ()) H.size q → A q := nd_r0 hS hA
  refine nd_cSi (As := [.int v0, .int 2, .int 1, .int 5]) (rest := [.int ((((((q13 ||| q16) ||| q19) ||| q22) ||| q25) ||| q28) ||| q31)]) (q := q34) (w' := dw_P a ac s35) ⟨hx, hb, hml, hown, hts⟩ (fun sz => dm_X16_bit l hlt dC dI a ac n (v0) (2) (1) (5) () hq sz) (cwS 4 hts gi_dm_X16_one_1 rfl rfl rfl (by decide +kernel) ⟨Nat.le_of_ble_eq_true rfl, Nat.le_of_ble_eq_true rfl⟩) hPc hDc hKc hS hA hN rfl hl.1 rfl (Nat.le_of_ble_eq_true rfl) dX16_one_99 (fun H locs hP1 hD1 hk1 hS => ?_)
  have hP := nd_n0 hP hk1
  refine lv_ior hx hb dX16_one_102 ?_
  refine lv_bipush (v := 12) hx hb dX16_one_103 (by decide) ?_
  obtain ⟨q37, s38, hq, h⟩ := nd_b2_e h
  have hPc : va_P (dC, dI) vwCl (dw_P a ac ()) H := nd_p0
  have hDc : va_D A (dw_P a ac ()) := nd_d0
  have hKc : va_K (dC, dI) vwCl (dk_P ac) s := nd_y0 hK
  have hFc : ∀ q, va_A (dw_P a ac ()) H.size q → A q := nd_r0 hS hA
  refine nd_cSi (As := [.int (((((((q13 ||| q16) ||| q19) ||| q22) ||| q25) ||| q28) ||| q31) ||| q34), .int 12]) (rest := []) (q := q37) (w' := dw_P a ac s38) ⟨hx, hb, hml, hown, hts⟩ (fun sz => dm_X16_signed l hlt dC dI a ac n ((((((((q13 ||| q16) ||| q19) ||| q22) ||| q25) ||| q28) ||| q31) ||| q34)) (12) () hq sz) (cwS 2 hts gi_dm_X16_one_2 rfl rfl rfl (by decide +kernel) ⟨Nat.le_of_ble_eq_true rfl, Nat.le_of_ble_eq_true rfl⟩) hPc hDc hKc hS hA hN rfl hl.1 rfl (Nat.le_of_ble_eq_true rfl) dX16_one_105 (fun H locs hP1 hD1 hk1 hS => ?_)
  have hP := nd_n0 hP hk1
  refine lv_istore (lv' := [(4, .int q37), (3, .int q10), (2, .int q1), (0, .int v0), (1, .int v1)]) hx hb dX16_one_108 hl (by decide) rfl (fun ls hl => ?_)
  refine lv_iload_n hx hb dX16_one_110 rfl (lv_at hl 3 rfl) ?_
  refine lv_bipush (v := 12) hx hb dX16_one_111 (by decide) ?_
  refine lv_iconst (v := 1) hx hb dX16_one_113 (by decide) ?_
  refine lv_bipush (v := 8) hx hb dX16_one_114 (by decide) ?_
  obtain ⟨q40, s41, hq, h⟩ := nd_b2_e h
  have hPc : va_P (dC, dI) vwCl (dw_P a ac ()) H := nd_p0
  have hDc : va_D A (dw_P a ac ()) := nd_d0
  have hKc : va_K (dC, dI) vwCl (dk_P ac) s := nd_y0 hK
  have hFc : ∀ q, va_A (dw_P a ac ()) H.size q → A q := nd_r0 hS hA
  refine nd_cSi (As := [.int v0, .int 12, .int 1, .int 8]) (rest := []) (q := q40) (w' := dw_P a ac s41) ⟨hx, hb, hml, hown, hts⟩ (fun sz => dm_X16_bit l hlt dC dI a ac n (v0) (12) (1) (8) () hq sz) (cwS 4 hts gi_dm_X16_one_1 rfl rfl rfl (by decide +kernel) ⟨Nat.le_of_ble_eq_true rfl, Nat.le_of_ble_eq_true rfl⟩) hPc hDc hKc hS hA hN rfl hl.1 rfl (Nat.le_of_ble_eq_true rfl) dX16_one_116 (fun H locs hP1 hD1 hk1 hS => ?_)
  have hP := nd_n0 hP hk1
  refine lv_iload_n hx hb dX16_one_119 rfl (lv_at hl 3 rfl) ?_
  refine lv_bipush (v := 10) hx hb dX16_one_120 (by decide) ?_
  refine lv_iconst (v := 2) hx hb dX16_one_122 (by decide) ?_
  refine lv_iconst (v := 3) hx hb dX16_one_123 (by decide) ?_
  obtain ⟨q43, s44, hq, h⟩ := nd_b2_e h
  have hPc : va_P (dC, dI) vwCl (dw_P a ac ()) H := nd_p0
  have hDc : va_D A (dw_P a ac ()) := nd_d0
  have hKc : va_K (dC, dI) vwCl (dk_P ac) s := nd_y0 hK
  have hFc : ∀ q, va_A (dw_P a ac ()) H.size q → A q := nd_r0 hS hA
  refine nd_cSi (As := [.int v0, .int 10, .int 2, .int 3]) (rest := [.int q40]) (q := q43) (w' := dw_P a ac s44) ⟨hx, hb, hml, hown, hts⟩ (fun sz => dm_X16_bit l hlt dC dI a ac n (v0) (10) (2) (3) () hq sz) (cwS 4 hts gi_dm_X16_one_1 rfl rfl rfl (by decide +kernel) ⟨Nat.le_of_ble_eq_true rfl, Nat.le_of_ble_eq_true rfl⟩) hPc hDc hKc hS hA hN rfl hl.1 rfl (Nat.le_of_ble_eq_true rfl) dX16_one_124 (fun H locs hP1 hD1 hk1 hS => ?_)
  have hP := nd_n0 hP hk1
  refine lv_ior hx hb dX16_one_127 ?_
  refine lv_iload_n hx hb dX16_one_128 rfl (lv_at hl 3 rfl) ?_
  refine lv_iconst (v := 5) hx hb dX16_one_129 (by decide) ?_
  refine lv_iconst (v := 2) hx hb dX16_one_130 (by decide) ?_
  refine lv_bipush (v := 6) hx hb dX16_one_131 (by decide) ?_
  obtain ⟨q46, s47, hq, h⟩ := nd_b2_e h
  have hPc : va_P (dC, dI) vwCl (dw_P a ac ()) H := nd_p0
  have hDc : va_D A (dw_P a ac ()) := nd_d0
  have hKc : va_K (dC, dI) vwCl (dk_P ac) s := nd_y0 hK
  have hFc : ∀ q, va_A (dw_P a ac ()) H.size q → A q := nd_r0 hS hA
  refine nd_cSi (As := [.int v0, .int 5, .int 2, .int 6]) (rest := [.int (q40 ||| q43)]) (q := q46) (w' := dw_P a ac s47) ⟨hx, hb, hml, hown, hts⟩ (fun sz => dm_X16_bit l hlt dC dI a ac n (v0) (5) (2) (6) () hq sz) (cwS 4 hts gi_dm_X16_one_1 rfl rfl rfl (by decide +kernel) ⟨Nat.le_of_ble_eq_true rfl, Nat.le_of_ble_eq_true rfl⟩) hPc hDc hKc hS hA hN rfl hl.1 rfl (Nat.le_of_ble_eq_true rfl) dX16_one_133 (fun H locs hP1 hD1 hk1 hS => ?_)
  have hP := nd_n0 hP hk1
  refine lv_ior hx hb dX16_one_136 ?_
  refine lv_iload_n hx hb dX16_one_137 rfl (lv_at hl 3 rfl) ?_
  refine lv_iconst (v := 3) hx hb dX16_one_138 (by decide) ?_
  refine lv_iconst (v := 2) hx hb dX16_one_139 (by decide) ?_
  refine lv_iconst (v := 1) hx hb dX16_one_140 (by decide) ?_
  obtain ⟨q49, s50, hq, h⟩ := nd_b2_e h
  have hPc : va_P (dC, dI) vwCl (dw_P a ac ()) H := nd_p0
  have hDc : va_D A (dw_P a ac ()) := nd_d0
  have hKc : va_K (dC, dI) vwCl (dk_P ac) s := nd_y0 hK
  have hFc : ∀ q, va_A (dw_P a ac ()) H.size q → A q := nd_r0 hS hA
  refine nd_cSi (As := [.int v0, .int 3, .int 2, .int 1]) (rest := [.int ((q40 ||| q43) ||| q46)]) (q := q49) (w' := dw_P a ac s50) ⟨hx, hb, hml, hown, hts⟩ (fun sz => dm_X16_bit l hlt dC dI a ac n (v0) (3) (2) (1) () hq sz) (cwS 4 hts gi_dm_X16_one_1 rfl rfl rfl (by decide +kernel) ⟨Nat.le_of_ble_eq_true rfl, Nat.le_of_ble_eq_true rfl⟩) hPc hDc hKc hS hA hN rfl hl.1 rfl (Nat.le_of_ble_eq_true rfl) dX16_one_141 (fun H locs hP1 hD1 hk1 hS => ?_)
  have hP := nd_n0 hP hk1
  refine lv_ior hx hb dX16_one_144 ?_
  refine lv_iload_n hx hb dX16_one_145 rfl (lv_at hl 3 rfl) ?_
  refine lv_iconst (v := 2) hx hb dX16_one_146 (by decide) ?_
  refine lv_iconst (v := 1) hx hb dX16_one_147 (by decide) ?_
  refine lv_iconst (v := 5) hx hb dX16_one_148 (by decide) ?_
  obtain ⟨q52, s53, hq, h⟩ := nd_b2_e h
  have hPc : va_P (dC, dI) vwCl (dw_P a ac ()) H := nd_p0
  have hDc : va_D A (dw_P a ac ()) := nd_d0
  have hKc : va_K (dC, dI) vwCl (dk_P ac) s := nd_y0 hK
  have hFc : ∀ q, va_A (dw_P a ac ()) H.size q → A q := nd_r0 hS hA
  refine nd_cSi (As := [.int v0, .int 2, .int 1, .int 5]) (rest := [.int (((q40 ||| q43) ||| q46) ||| q49)]) (q := q52) (w' := dw_P a ac s53) ⟨hx, hb, hml, hown, hts⟩ (fun sz => dm_X16_bit l hlt dC dI a ac n (v0) (2) (1) (5) () hq sz) (cwS 4 hts gi_dm_X16_one_1 rfl rfl rfl (by decide +kernel) ⟨Nat.le_of_ble_eq_true rfl, Nat.le_of_ble_eq_true rfl⟩) hPc hDc hKc hS hA hN rfl hl.1 rfl (Nat.le_of_ble_eq_true rfl) dX16_one_149 (fun H locs hP1 hD1 hk1 hS => ?_)
  have hP := nd_n0 hP hk1
  refine lv_ior hx hb dX16_one_152 ?_
  refine lv_bipush (v := 9) hx hb dX16_one_153 (by decide) ?_
  obtain ⟨q55, s56, hq, h⟩ := nd_b2_e h
  have hPc : va_P (dC, dI) vwCl (dw_P a ac ()) H := nd_p0
  have hDc : va_D A (dw_P a ac ()) := nd_d0
  have hKc : va_K (dC, dI) vwCl (dk_P ac) s := nd_y0 hK
  have hFc : ∀ q, va_A (dw_P a ac ()) H.size q → A q := nd_r0 hS hA
  refine nd_cSi (As := [.int ((((q40 ||| q43) ||| q46) ||| q49) ||| q52), .int 9]) (rest := []) (q := q55) (w' := dw_P a ac s56) ⟨hx, hb, hml, hown, hts⟩ (fun sz => dm_X16_signed l hlt dC dI a ac n (((((q40 ||| q43) ||| q46) ||| q49) ||| q52)) (9) () hq sz) (cwS 2 hts gi_dm_X16_one_2 rfl rfl rfl (by decide +kernel) ⟨Nat.le_of_ble_eq_true rfl, Nat.le_of_ble_eq_true rfl⟩) hPc hDc hKc hS hA hN rfl hl.1 rfl (Nat.le_of_ble_eq_true rfl) dX16_one_155 (fun H locs hP1 hD1 hk1 hS => ?_)
  have hP := nd_n0 hP hk1
  refine lv_istore (lv' := [(5, .int q55), (4, .int q37), (3, .int q10), (2, .int q1), (0, .int v0), (1, .int v1)]) hx hb dX16_one_158 hl (by decide) rfl (fun ls hl => ?_)
  refine lv_iload_n hx hb dX16_one_160 rfl (lv_at hl 4 rfl) ?_
  refine lv_bipush (v := 12) hx hb dX16_one_161 (by decide) ?_
  refine lv_iconst (v := 1) hx hb dX16_one_163 (by decide) ?_
  refine lv_bipush (v := 9) hx hb dX16_one_164 (by decide) ?_
  obtain ⟨q58, s59, hq, h⟩ := nd_b2_e h
  have hPc : va_P (dC, dI) vwCl (dw_P a ac ()) H := nd_p0
  have hDc : va_D A (dw_P a ac ()) := nd_d0
  have hKc : va_K (dC, dI) vwCl (dk_P ac) s := nd_y0 hK
  have hFc : ∀ q, va_A (dw_P a ac ()) H.size q → A q := nd_r0 hS hA
  refine nd_cSi (As := [.int v0, .int 12, .int 1, .int 9]) (rest := []) (q := q58) (w' := dw_P a ac s59) ⟨hx, hb, hml, hown, hts⟩ (fun sz => dm_X16_bit l hlt dC dI a ac n (v0) (12) (1) (9) () hq sz) (cwS 4 hts gi_dm_X16_one_1 rfl rfl rfl (by decide +kernel) ⟨Nat.le_of_ble_eq_true rfl, Nat.le_of_ble_eq_true rfl⟩) hPc hDc hKc hS hA hN rfl hl.1 rfl (Nat.le_of_ble_eq_true rfl) dX16_one_166 (fun H locs hP1 hD1 hk1 hS => ?_)
  have hP := nd_n0 hP hk1
  refine lv_iload_n hx hb dX16_one_169 rfl (lv_at hl 4 rfl) ?_
  refine lv_bipush (v := 6) hx hb dX16_one_170 (by decide) ?_
  refine lv_iconst (v := 1) hx hb dX16_one_172 (by decide) ?_
  refine lv_iconst (v := 4) hx hb dX16_one_173 (by decide) ?_
  obtain ⟨q61, s62, hq, h⟩ := nd_b2_e h
  have hPc : va_P (dC, dI) vwCl (dw_P a ac ()) H := nd_p0
  have hDc : va_D A (dw_P a ac ()) := nd_d0
  have hKc : va_K (dC, dI) vwCl (dk_P ac) s := nd_y0 hK
  have hFc : ∀ q, va_A (dw_P a ac ()) H.size q → A q := nd_r0 hS hA
  refine nd_cSi (As := [.int v0, .int 6, .int 1, .int 4]) (rest := [.int q58]) (q := q61) (w' := dw_P a ac s62) ⟨hx, hb, hml, hown, hts⟩ (fun sz => dm_X16_bit l hlt dC dI a ac n (v0) (6) (1) (4) () hq sz) (cwS 4 hts gi_dm_X16_one_1 rfl rfl rfl (by decide +kernel) ⟨Nat.le_of_ble_eq_true rfl, Nat.le_of_ble_eq_true rfl⟩) hPc hDc hKc hS hA hN rfl hl.1 rfl (Nat.le_of_ble_eq_true rfl) dX16_one_174 (fun H locs hP1 hD1 hk1 hS => ?_)
  have hP := nd_n0 hP hk1
  refine lv_ior hx hb dX16_one_177 ?_
  refine lv_iload_n hx hb dX16_one_178 rfl (lv_at hl 4 rfl) ?_
  refine lv_iconst (v := 5) hx hb dX16_one_179 (by decide) ?_
  refine lv_iconst (v := 1) hx hb dX16_one_180 (by decide) ?_
  refine lv_bipush (v := 6) hx hb dX16_one_181 (by decide) ?_
  obtain ⟨q64, s65, hq, h⟩ := nd_b2_e h
  have hPc : va_P (dC, dI) vwCl (dw_P a ac ()) H := nd_p0
  have hDc : va_D A (dw_P a ac ()) := nd_d0
  have hKc : va_K (dC, dI) vwCl (dk_P ac) s := nd_y0 hK
  have hFc : ∀ q, va_A (dw_P a ac ()) H.size q → A q := nd_r0 hS hA
  refine nd_cSi (As := [.int v0, .int 5, .int 1, .int 6]) (rest := [.int (q58 ||| q61)]) (q := q64) (w' := dw_P a ac s65) ⟨hx, hb, hml, hown, hts⟩ (fun sz => dm_X16_bit l hlt dC dI a ac n (v0) (5) (1) (6) () hq sz) (cwS 4 hts gi_dm_X16_one_1 rfl rfl rfl (by decide +kernel) ⟨Nat.le_of_ble_eq_true rfl, Nat.le_of_ble_eq_true rfl⟩) hPc hDc hKc hS hA hN rfl hl.1 rfl (Nat.le_of_ble_eq_true rfl) dX16_one_183 (fun H locs hP1 hD1 hk1 hS => ?_)
  have hP := nd_n0 hP hk1
  refine lv_ior hx hb dX16_one_186 ?_
  refine lv_iload_n hx hb dX16_one_187 rfl (lv_at hl 4 rfl) ?_
  refine lv_iconst (v := 3) hx hb dX16_one_188 (by decide) ?_
  refine lv_iconst (v := 2) hx hb dX16_one_189 (by decide) ?_
  refine lv_bipush (v := 7) hx hb dX16_one_190 (by decide) ?_
  obtain ⟨q67, s68, hq, h⟩ := nd_b2_e h
  have hPc : va_P (dC, dI) vwCl (dw_P a ac ()) H := nd_p0
  have hDc : va_D A (dw_P a ac ()) := nd_d0
  have hKc : va_K (dC, dI) vwCl (dk_P ac) s := nd_y0 hK
  have hFc : ∀ q, va_A (dw_P a ac ()) H.size q → A q := nd_r0 hS hA
  refine nd_cSi (As := [.int v0, .int 3, .int 2, .int 7]) (rest := [.int ((q58 ||| q61) ||| q64)]) (q := q67) (w' := dw_P a ac s68) ⟨hx, hb, hml, hown, hts⟩ (fun sz => dm_X16_bit l hlt dC dI a ac n (v0) (3) (2) (7) () hq sz) (cwS 4 hts gi_dm_X16_one_1 rfl rfl rfl (by decide +kernel) ⟨Nat.le_of_ble_eq_true rfl, Nat.le_of_ble_eq_true rfl⟩) hPc hDc hKc hS hA hN rfl hl.1 rfl (Nat.le_of_ble_eq_true rfl) dX16_one_192 (fun H locs hP1 hD1 hk1 hS => ?_)
  have hP := nd_n0 hP hk1
  refine lv_ior hx hb dX16_one_195 ?_
  refine lv_iload_n hx hb dX16_one_196 rfl (lv_at hl 4 rfl) ?_
  refine lv_iconst (v := 2) hx hb dX16_one_197 (by decide) ?_
  refine lv_iconst (v := 1) hx hb dX16_one_198 (by decide) ?_
  refine lv_iconst (v := 5) hx hb dX16_one_199 (by decide) ?_
  obtain ⟨q70, s71, hq, h⟩ := nd_b2_e h
  have hPc : va_P (dC, dI) vwCl (dw_P a ac ()) H := nd_p0
  have hDc : va_D A (dw_P a ac ()) := nd_d0
  have hKc : va_K (dC, dI) vwCl (dk_P ac) s := nd_y0 hK
  have hFc : ∀ q, va_A (dw_P a ac ()) H.size q → A q := nd_r0 hS hA
  refine nd_cSi (As := [.int v0, .int 2, .int 1, .int 5]) (rest := [.int (((q58 ||| q61) ||| q64) ||| q67)]) (q := q70) (w' := dw_P a ac s71) ⟨hx, hb, hml, hown, hts⟩ (fun sz => dm_X16_bit l hlt dC dI a ac n (v0) (2) (1) (5) () hq sz) (cwS 4 hts gi_dm_X16_one_1 rfl rfl rfl (by decide +kernel) ⟨Nat.le_of_ble_eq_true rfl, Nat.le_of_ble_eq_true rfl⟩) hPc hDc hKc hS hA hN rfl hl.1 rfl (Nat.le_of_ble_eq_true rfl) dX16_one_200 (fun H locs hP1 hD1 hk1 hS => ?_)
  have hP := nd_n0 hP hk1
  refine lv_ior hx hb dX16_one_203 ?_
  refine lv_bipush (v := 10) hx hb dX16_one_204 (by decide) ?_
  obtain ⟨q73, s74, hq, h⟩ := nd_b2_e h
  have hPc : va_P (dC, dI) vwCl (dw_P a ac ()) H := nd_p0
  have hDc : va_D A (dw_P a ac ()) := nd_d0
  have hKc : va_K (dC, dI) vwCl (dk_P ac) s := nd_y0 hK
  have hFc : ∀ q, va_A (dw_P a ac ()) H.size q → A q := nd_r0 hS hA
  refine nd_cSi (As := [.int ((((q58 ||| q61) ||| q64) ||| q67) ||| q70), .int 10]) (rest := []) (q := q73) (w' := dw_P a ac s74) ⟨hx, hb, hml, hown, hts⟩ (fun sz => dm_X16_signed l hlt dC dI a ac n (((((q58 ||| q61) ||| q64) ||| q67) ||| q70)) (10) () hq sz) (cwS 2 hts gi_dm_X16_one_2 rfl rfl rfl (by decide +kernel) ⟨Nat.le_of_ble_eq_true rfl, Nat.le_of_ble_eq_true rfl⟩) hPc hDc hKc hS hA hN rfl hl.1 rfl (Nat.le_of_ble_eq_true rfl) dX16_one_206 (fun H locs hP1 hD1 hk1 hS => ?_)
  have hP := nd_n0 hP hk1
  refine lv_istore (lv' := [(6, .int q73), (5, .int q55), (4, .int q37), (3, .int q10), (2, .int q1), (0, .int v0), (1, .int v1)]) hx hb dX16_one_209 hl (by decide) rfl (fun ls hl => ?_)
  refine lv_iload_n hx hb dX16_one_211 rfl (lv_at hl 6 rfl) ?_
  by_cases c76 : v1 = 0
  · have h := nd_pos h c76
    refine lv_tableIn (off := 40) (tgt := 252) hx hb dX16_one_212 (by rw [c76]; decide) (by rw [c76]; decide) (by rw [c76]; decide) (by decide) ?_
    refine lv_bipush (v := 19) hx hb dX16_one_252 (by decide) ?_
    refine lv_iconst (v := 0) hx hb dX16_one_254 (by decide) ?_
    refine lv_iload_n hx hb dX16_one_255 rfl (lv_at hl 4 rfl) ?_
    refine lv_iload_n hx hb dX16_one_256 rfl (lv_at hl 4 rfl) ?_
    refine lv_iload_n hx hb dX16_one_257 rfl (lv_at hl 3 rfl) ?_
    obtain ⟨q77, s78, hq, h⟩ := nd_b2_e h
    have hPc : va_P (dC, dI) vwCl (dw_P a ac ()) H := nd_p0
    have hDc : va_D A (dw_P a ac ()) := nd_d0
    have hKc : va_K (dC, dI) vwCl (dk_P ac) s := nd_y0 hK
    have hFc : ∀ q, va_A (dw_P a ac ()) H.size q → A q := nd_r0 hS hA
    refine nd_cSi (As := [.int 19, .int 0, .int q1, .int q1, .int q10]) (rest := []) (q := q77) (w' := dw_P a ac s78) ⟨hx, hb, hml, hown, hts⟩ (fun sz => dm_X16_immediate l hlt dC dI a ac n (19) (0) (q1) (q1) (q10) () hq sz) (cwS 5 hts gi_dm_X16_one_3 rfl rfl rfl (by decide +kernel) ⟨Nat.le_of_ble_eq_true rfl, Nat.le_of_ble_eq_true rfl⟩) hPc hDc hKc hS hA hN rfl hl.1 rfl (Nat.le_of_ble_eq_true rfl) dX16_one_258 (fun H locs hP1 hD1 hk1 hS => ?_)
    have hP := nd_n0 hP hk1
    exact K _ _ _ _ _ _ dX16_one_261 rfl (Option.some.inj h).symm hP hD hS
  have h := nd_neg h c76
  by_cases c80 : v1 = 1
  · have h := nd_pos h c80
    refine lv_tableIn (off := 50) (tgt := 262) hx hb dX16_one_212 (by rw [c80]; decide) (by rw [c80]; decide) (by rw [c80]; decide) (by decide) ?_
    refine lv_iconst (v := 1) hx hb dX16_one_262 (by decide) ?_
    refine lv_iload hx hb dX16_one_263 (lv_at hl 2 rfl) ?_
    obtain ⟨q81, s82, hq, h⟩ := nd_b2_e h
    have hPc : va_P (dC, dI) vwCl (dw_P a ac ()) H := nd_p0
    have hDc : va_D A (dw_P a ac ()) := nd_d0
    have hKc : va_K (dC, dI) vwCl (dk_P ac) s := nd_y0 hK
    have hFc : ∀ q, va_A (dw_P a ac ()) H.size q → A q := nd_r0 hS hA
    refine nd_cSi (As := [.int 1, .int q37]) (rest := []) (q := q81) (w' := dw_P a ac s82) ⟨hx, hb, hml, hown, hts⟩ (fun sz => dm_X16_link l hlt dC dI a ac n (1) (q37) () hq sz) (cwS 2 hts gi_dm_X16_one_4 rfl rfl rfl (by decide +kernel) ⟨Nat.le_of_ble_eq_true rfl, Nat.le_of_ble_eq_true rfl⟩) hPc hDc hKc hS hA hN rfl hl.1 rfl (Nat.le_of_ble_eq_true rfl) dX16_one_265 (fun H locs hP1 hD1 hk1 hS => ?_)
    have hP := nd_n0 hP hk1
    exact K _ _ _ _ _ _ dX16_one_268 rfl (Option.some.inj h).symm hP hD hS
  have h := nd_neg h c80
  by_cases c84 : v1 = 2
  · have h := nd_pos h c84
    refine lv_tableIn (off := 57) (tgt := 269) hx hb dX16_one_212 (by rw [c84]; decide) (by rw [c84]; decide) (by rw [c84]; decide) (by decide) ?_
    refine lv_bipush (v := 19) hx hb dX16_one_269 (by decide) ?_
    refine lv_iconst (v := 0) hx hb dX16_one_271 (by decide) ?_
    refine lv_iload_n hx hb dX16_one_272 rfl (lv_at hl 4 rfl) ?_
    refine lv_iconst (v := 0) hx hb dX16_one_273 (by decide) ?_
    refine lv_iload_n hx hb dX16_one_274 rfl (lv_at hl 3 rfl) ?_
    obtain ⟨q85, s86, hq, h⟩ := nd_b2_e h
    have hPc : va_P (dC, dI) vwCl (dw_P a ac ()) H := nd_p0
    have hDc : va_D A (dw_P a ac ()) := nd_d0
    have hKc : va_K (dC, dI) vwCl (dk_P ac) s := nd_y0 hK
    have hFc : ∀ q, va_A (dw_P a ac ()) H.size q → A q := nd_r0 hS hA
    refine nd_cSi (As := [.int 19, .int 0, .int q1, .int 0, .int q10]) (rest := []) (q := q85) (w' := dw_P a ac s86) ⟨hx, hb, hml, hown, hts⟩ (fun sz => dm_X16_immediate l hlt dC dI a ac n (19) (0) (q1) (0) (q10) () hq sz) (cwS 5 hts gi_dm_X16_one_3 rfl rfl rfl (by decide +kernel) ⟨Nat.le_of_ble_eq_true rfl, Nat.le_of_ble_eq_true rfl⟩) hPc hDc hKc hS hA hN rfl hl.1 rfl (Nat.le_of_ble_eq_true rfl) dX16_one_275 (fun H locs hP1 hD1 hk1 hS => ?_)
    have hP := nd_n0 hP hk1
    exact K _ _ _ _ _ _ dX16_one_278 rfl (Option.some.inj h).symm hP hD hS
  have h := nd_neg h c84
  by_cases c88 : v1 = 3
  · have h := nd_pos h c88
    refine lv_tableIn (off := 67) (tgt := 279) hx hb dX16_one_212 (by rw [c88]; decide) (by rw [c88]; decide) (by rw [c88]; decide) (by decide) ?_
    refine lv_iload_n hx hb dX16_one_279 rfl (lv_at hl 4 rfl) ?_
    refine lv_iconst (v := 2) hx hb dX16_one_280 (by decide) ?_
    refine lv_icmp_ne (tgt := 306) hx hb dX16_one_281 (by decide) (fun c89 => ?_) (fun c89 => ?_)
    · have h := nd_neg h c89
      refine lv_iload_n hx hb dX16_one_306 rfl (lv_at hl 3 rfl) ?_
      refine lv_if_ne (tgt := 314) hx hb dX16_one_307 (by decide) (fun c90 => ?_) (fun c90 => ?_)
      · have h := nd_neg h c90
        refine lv_bipush (v := 55) hx hb dX16_one_314 (by decide) ?_
        refine lv_iload_n hx hb dX16_one_316 rfl (lv_at hl 4 rfl) ?_
        refine lv_bipush (v := 7) hx hb dX16_one_317 (by decide) ?_
        refine lv_ishl hx hb dX16_one_319 ?_
        refine lv_ior hx hb dX16_one_320 ?_
        refine lv_iload_n hx hb dX16_one_321 rfl (lv_at hl 3 rfl) ?_
        refine lv_bipush (v := 12) hx hb dX16_one_322 (by decide) ?_
        refine lv_ishl hx hb dX16_one_324 ?_
        refine lv_ior hx hb dX16_one_325 ?_
        exact (db_X16_one_326 C K) (((55 ||| ((q1 : Int32) <<< ((7 : Int32) &&& 31))) ||| ((q10 : Int32) <<< ((12 : Int32) &&& 31)))) s0 _ _ _ h hP hD hS (lv_sub hl [] rfl)
      · have h := nd_pos h c90
        refine lv_iconst (v := 0) hx hb dX16_one_310 (by decide) ?_
        refine lv_goto (tgt := 326) hx hb dX16_one_311 (by decide) ?_
        exact (db_X16_one_326 C K) (0) s0 _ _ _ h hP hD hS (lv_sub hl [] rfl)
    · have h := nd_pos h c89
      refine lv_iload hx hb dX16_one_284 (lv_at hl 0 rfl) ?_
      refine lv_if_ne (tgt := 293) hx hb dX16_one_286 (by decide) (fun c91 => ?_) (fun c91 => ?_)
      · have h := nd_neg h c91
        refine lv_bipush (v := 19) hx hb dX16_one_293 (by decide) ?_
        refine lv_iconst (v := 0) hx hb dX16_one_295 (by decide) ?_
        refine lv_iconst (v := 2) hx hb dX16_one_296 (by decide) ?_
        refine lv_iconst (v := 2) hx hb dX16_one_297 (by decide) ?_
        refine lv_iload hx hb dX16_one_298 (lv_at hl 0 rfl) ?_
        obtain ⟨q92, s93, hq, h⟩ := nd_b2_e h
        have hPc : va_P (dC, dI) vwCl (dw_P a ac ()) H := nd_p0
        have hDc : va_D A (dw_P a ac ()) := nd_d0
        have hKc : va_K (dC, dI) vwCl (dk_P ac) s := nd_y0 hK
        have hFc : ∀ q, va_A (dw_P a ac ()) H.size q → A q := nd_r0 hS hA
        refine nd_cSi (As := [.int 19, .int 0, .int 2, .int 2, .int q73]) (rest := []) (q := q92) (w' := dw_P a ac s93) ⟨hx, hb, hml, hown, hts⟩ (fun sz => dm_X16_immediate l hlt dC dI a ac n (19) (0) (2) (2) (q73) () hq sz) (cwS 5 hts gi_dm_X16_one_3 rfl rfl rfl (by decide +kernel) ⟨Nat.le_of_ble_eq_true rfl, Nat.le_of_ble_eq_true rfl⟩) hPc hDc hKc hS hA hN rfl hl.1 rfl (Nat.le_of_ble_eq_true rfl) dX16_one_300 (fun H locs hP1 hD1 hk1 hS => ?_)
        have hP := nd_n0 hP hk1
        refine lv_goto (tgt := 326) hx hb dX16_one_303 (by decide) ?_
        exact (db_X16_one_326 C K) (q92) s0 _ _ _ h hP hD hS (lv_sub hl [] rfl)
      · have h := nd_pos h c91
        refine lv_iconst (v := 0) hx hb dX16_one_289 (by decide) ?_
        refine lv_goto (tgt := 326) hx hb dX16_one_290 (by decide) ?_
        exact (db_X16_one_326 C K) (0) s0 _ _ _ h hP hD hS (lv_sub hl [] rfl)
  have h := nd_neg h c88
  by_cases c95 : v1 = 4
  · have h := nd_pos h c95
    refine lv_tableIn (off := 115) (tgt := 327) hx hb dX16_one_212 (by rw [c95]; decide) (by rw [c95]; decide) (by rw [c95]; decide) (by decide) ?_
    refine lv_iload_n hx hb dX16_one_327 rfl (lv_at hl 5 rfl) ?_
    refine lv_iload_n hx hb dX16_one_328 rfl (lv_at hl 3 rfl) ?_
    obtain ⟨q96, s97, hq, h⟩ := nd_b2_e h
    have hPc : va_P (dC, dI) vwCl (dw_P a ac ()) H := nd_p0
    have hDc : va_D A (dw_P a ac ()) := nd_d0
    have hKc : va_K (dC, dI) vwCl (dk_P ac) s := nd_y0 hK
    have hFc : ∀ q, va_A (dw_P a ac ()) H.size q → A q := nd_r0 hS hA
    refine nd_cSi (As := [.int v0, .int q10]) (rest := []) (q := q96) (w' := dw_P a ac s97) ⟨hx, hb, hml, hown, hts⟩ (fun sz => dm_X16_four l hlt dC dI a ac n (v0) (q10) () hq sz) (cwS 2 hts gi_dm_X16_one_5 rfl rfl rfl (by decide +kernel) ⟨Nat.le_of_ble_eq_true rfl, Nat.le_of_ble_eq_true rfl⟩) hPc hDc hKc hS hA hN rfl hl.1 rfl (Nat.le_of_ble_eq_true rfl) dX16_one_329 (fun H locs hP1 hD1 hk1 hS => ?_)
    have hP := nd_n0 hP hk1
    exact K _ _ _ _ _ _ dX16_one_332 rfl (Option.some.inj h).symm hP hD hS
  have h := nd_neg h c95
  by_cases c99 : v1 = 5
  · have h := nd_pos h c99
    refine lv_tableIn (off := 121) (tgt := 333) hx hb dX16_one_212 (by rw [c99]; decide) (by rw [c99]; decide) (by rw [c99]; decide) (by decide) ?_
    refine lv_iconst (v := 0) hx hb dX16_one_333 (by decide) ?_
    refine lv_iload hx hb dX16_one_334 (lv_at hl 2 rfl) ?_
    obtain ⟨q100, s101, hq, h⟩ := nd_b2_e h
    have hPc : va_P (dC, dI) vwCl (dw_P a ac ()) H := nd_p0
    have hDc : va_D A (dw_P a ac ()) := nd_d0
    have hKc : va_K (dC, dI) vwCl (dk_P ac) s := nd_y0 hK
    have hFc : ∀ q, va_A (dw_P a ac ()) H.size q → A q := nd_r0 hS hA
    refine nd_cSi (As := [.int 0, .int q37]) (rest := []) (q := q100) (w' := dw_P a ac s101) ⟨hx, hb, hml, hown, hts⟩ (fun sz => dm_X16_link l hlt dC dI a ac n (0) (q37) () hq sz) (cwS 2 hts gi_dm_X16_one_4 rfl rfl rfl (by decide +kernel) ⟨Nat.le_of_ble_eq_true rfl, Nat.le_of_ble_eq_true rfl⟩) hPc hDc hKc hS hA hN rfl hl.1 rfl (Nat.le_of_ble_eq_true rfl) dX16_one_336 (fun H locs hP1 hD1 hk1 hS => ?_)
    have hP := nd_n0 hP hk1
    exact K _ _ _ _ _ _ dX16_one_339 rfl (Option.some.inj h).symm hP hD hS
  have h := nd_neg h c99
  refine lv_tableOut (tgt := 340) hx hb dX16_one_212 (by have g0 := nv_nei c76 (k := 0) (by decide); have g1 := nv_nei c80 (k := 1) (by decide); have g2 := nv_nei c84 (k := 2) (by decide); have g3 := nv_nei c88 (k := 3) (by decide); have g4 := nv_nei c95 (k := 4) (by decide); have g5 := nv_nei c99 (k := 5) (by decide); omega) (by decide) ?_
  refine lv_iload_n hx hb dX16_one_340 rfl (lv_at hl 6 rfl) ?_
  refine lv_bipush (v := 6) hx hb dX16_one_341 (by decide) ?_
  refine lv_isub hx hb dX16_one_343 ?_
  refine lv_bipush (v := 8) hx hb dX16_one_344 (by decide) ?_
  refine lv_iload_n hx hb dX16_one_346 rfl (lv_at hl 5 rfl) ?_
  refine lv_bipush (v := 7) hx hb dX16_one_347 (by decide) ?_
  refine lv_iconst (v := 3) hx hb dX16_one_349 (by decide) ?_
  obtain ⟨q103, s104, hq, h⟩ := nd_b2_e h
  have hPc : va_P (dC, dI) vwCl (dw_P a ac ()) H := nd_p0
  have hDc : va_D A (dw_P a ac ()) := nd_d0
  have hKc : va_K (dC, dI) vwCl (dk_P ac) s := nd_y0 hK
  have hFc : ∀ q, va_A (dw_P a ac ()) H.size q → A q := nd_r0 hS hA
  refine nd_cSi (As := [.int v0, .int 7, .int 3]) (rest := [.int 8, .int (v1 - 6)]) (q := q103) (w' := dw_P a ac s104) ⟨hx, hb, hml, hown, hts⟩ (fun sz => dm_X16_part l hlt dC dI a ac n (v0) (7) (3) () hq sz) (cwS 3 hts gi_dm_X16_one_0 rfl rfl rfl (by decide +kernel) ⟨Nat.le_of_ble_eq_true rfl, Nat.le_of_ble_eq_true rfl⟩) hPc hDc hKc hS hA hN rfl hl.1 rfl (Nat.le_of_ble_eq_true rfl) dX16_one_350 (fun H locs hP1 hD1 hk1 hS => ?_)
  have hP := nd_n0 hP hk1
  refine lv_iadd hx hb dX16_one_353 ?_
  refine lv_iload hx hb dX16_one_354 (lv_at hl 1 rfl) ?_
  obtain ⟨q106, s107, hq, h⟩ := nd_b2_e h
  have hPc : va_P (dC, dI) vwCl (dw_P a ac ()) H := nd_p0
  have hDc : va_D A (dw_P a ac ()) := nd_d0
  have hKc : va_K (dC, dI) vwCl (dk_P ac) s := nd_y0 hK
  have hFc : ∀ q, va_A (dw_P a ac ()) H.size q → A q := nd_r0 hS hA
  refine nd_cSi (As := [.int (v1 - 6), .int (8 + q103), .int q55]) (rest := []) (q := q106) (w' := dw_P a ac s107) ⟨hx, hb, hml, hown, hts⟩ (fun sz => dm_X16_branch l hlt dC dI a ac n ((v1 - 6)) ((8 + q103)) (q55) () hq sz) (cwS 3 hts gi_dm_X16_one_6 rfl rfl rfl (by decide +kernel) ⟨Nat.le_of_ble_eq_true rfl, Nat.le_of_ble_eq_true rfl⟩) hPc hDc hKc hS hA hN rfl hl.1 rfl (Nat.le_of_ble_eq_true rfl) dX16_one_356 (fun H locs hP1 hD1 hk1 hS => ?_)
  have hP := nd_n0 hP hk1
  exact K _ _ _ _ _ _ dX16_one_359 rfl (Option.some.inj h).symm hP hD hS
set_option maxHeartbeats 40000000 in
set_option maxRecDepth 100000 in
theorem dm_X16_one (l : Launch) (hlt : l.stackTraces = false) (dC : Nat → ClassId) (dI : Nat → Nat → Nat) (a : Nat → Nat) (ac : Nat → ClassId) (n : Nat) (v0 : Int32) (v1 : Int32) (s0 : Unit) {r : Int32 × (Unit)} (h : df_X16_one n v0 v1 s0 = some r) (sz : Nat) : Met l yX16_one ow_dm_X16_one ({ frames := 3, cells := 0, slots := 0, locals := 67 }) (va_Pc [.int v0, .int v1] (fun U => U.heap.size = sz ∧ va_P (dC, dI) vwCl (dw_P a ac s0) U.heap ∧ va_K (dC, dI) vwCl (dk_P ac) U ∧ va_D (fun _ => True) (dw_P a ac s0) ∧ nv_E (va_A (dw_P a ac s0) sz) U)) (va_Qi (fun x _ => x = r.1) (fun (_ : Unit) t => va_P (dC, dI) vwCl (dw_P a ac r.2) t.heap ∧ va_K (dC, dI) vwCl (dk_P ac) t ∧ va_D (va_A (dw_P a ac s0) sz) (dw_P a ac r.2)) (va_A (dw_P a ac s0) sz)) 0 0 (va_A (dw_P a ac s0) sz) := by
  refine Met.ofW (cc := cX16_one) (maxL := 7) (ret := (some .int)) (by decide) rfl ?_
  intro p e s m args below meth c s₁ B hml hv
  obtain ⟨rfl, hsz, hP, hK, hD0, hN⟩ := hv
  have hx := B.exec
  have hb := B.bytes
  have hr := B.returns
  have hts := atoms_spec (ws := ow_dm_X16_one) B.pre
  have hown : s.vm.findClass RX16 = some m.cls := findClass_of_methodNamed B.named
  have hlocks := B.notSynchronized
  subst hsz
  have hD := hD0.self (sz := s.heap.size)
  generalize hAe : va_A (dw_P a ac s0) s.heap.size = A at hD hN ⊢
  have hA : ∀ q : Nat, s.heap.size ≤ q → A q := fun q h => by rw [← hAe]; exact Or.inr h
  have hl := lv_entry ([.int v0, .int v1]) (n := 7) (Nat.le_of_ble_eq_true rfl)
  rw [lg_entry_eq]
  generalize (lg_sl ([.int v0, .int v1]) ++ List.replicate (7 - (lg_sl ([.int v0, .int v1])).length) Slot.unset).toArray = ls at hl ⊢
  have hl : lv_has ls 7 [(0, .int v0), (1, .int v1)] := hl
  exact db_X16_one_0 (dC := dC) (dI := dI) (a := a) (ac := ac) (n := n) (r := r) ⟨hlt, hx, hb, hml, hown, hts, hN, hA, hK⟩ (fun pc v τ H locs ls d z er hP hD hS => by subst er; exact W.zret (v := v) hx hb hr z (fun t ht hW => ⟨⟨v, (), rfl, rfl, by rw [ht]; exact hP, va_K.moved hW.alike hK, hD⟩, hS.F ht⟩) hS.2.2 d) v0 v1 s0 _ _ _ h hP hD va_S.rf (lv_sub hl [0, 1] rfl)
def ow_dm_X16_zero : List Cond := .code yX16_zero cX16_zero 6 (some .int) :: ([.methodLink RX16 297 yX16_part, .static yX16_part, .initialized RX16, .methodLink RX16 300 yX16_bit, .static yX16_bit, .methodLink RX16 317 yX16_storing, .static yX16_storing, .methodLink RX16 313 yX16_immediate, .static yX16_immediate] ++ (ow_dm_X16_part ++ (ow_dm_X16_bit ++ (ow_dm_X16_storing ++ (ow_dm_X16_immediate ++ [])))))
theorem gd_dm_X16_zero : ∀ w ∈ ow_dm_X16_zero, (w.onTables && w.keeps) = true ∨ ∃ ty, w = Cond.arrayClass ty := List.forall_mem_cons.mpr ⟨good_of_word rfl, List.forall_mem_append.mpr ⟨fun w h => good_of_word (List.all_eq_true.mp (by decide +kernel) w h), List.forall_mem_append.mpr ⟨gd_dm_X16_part, List.forall_mem_append.mpr ⟨gd_dm_X16_bit, List.forall_mem_append.mpr ⟨gd_dm_X16_storing, List.forall_mem_append.mpr ⟨gd_dm_X16_immediate, fun _ h => nomatch h⟩⟩⟩⟩⟩⟩
theorem gi_dm_X16_zero_0 : GoodIn ow_dm_X16_zero (wsS RX16 297 yX16_part ow_dm_X16_part) := goodIn_app (goodIn_of _ (by decide +kernel)) (fun w h => ⟨List.mem_cons_of_mem _ (List.mem_append_right _ (List.mem_append_left _ h)), gd_dm_X16_part w h⟩)
theorem gi_dm_X16_zero_1 : GoodIn ow_dm_X16_zero (wsS RX16 300 yX16_bit ow_dm_X16_bit) := goodIn_app (goodIn_of _ (by decide +kernel)) (fun w h => ⟨List.mem_cons_of_mem _ (List.mem_append_right _ (List.mem_append_right _ (List.mem_append_left _ h))), gd_dm_X16_bit w h⟩)
theorem gi_dm_X16_zero_2 : GoodIn ow_dm_X16_zero (wsS RX16 317 yX16_storing ow_dm_X16_storing) := goodIn_app (goodIn_of _ (by decide +kernel)) (fun w h => ⟨List.mem_cons_of_mem _ (List.mem_append_right _ (List.mem_append_right _ (List.mem_append_right _ (List.mem_append_left _ h)))), gd_dm_X16_storing w h⟩)
theorem gi_dm_X16_zero_3 : GoodIn ow_dm_X16_zero (wsS RX16 313 yX16_immediate ow_dm_X16_immediate) := goodIn_app (goodIn_of _ (by decide +kernel)) (fun w h => ⟨List.mem_cons_of_mem _ (List.mem_append_right _ (List.mem_append_right _ (List.mem_append_right _ (List.mem_append_right _ (List.mem_append_left _ h))))), gd_dm_X16_immediate w h⟩)
def dj_X16_zero_144 (p : Program) (l : Launch) (e : Env) (s : State) (m : MethodId) (args : Array Value) (below : List Frame) (meth : Method) (c : Code) (Q : State → Prop) (A : Nat → Prop) (dC : Nat → ClassId) (dI : Nat → Nat → Nat) (a : Nat → Nat) (ac : Nat → ClassId) (g : Int32 → (Unit) → Option (Int32 × (Unit))) (r : Int32 × (Unit)) : Prop := ∀ (y0 : Int32) (s0 : Unit) (H : Heap) (locs : List Loc) (ls : Array Slot), g y0 s0 = some r → va_P (dC, dI) vwCl (dw_P a ac s0) H → va_D A (dw_P a ac s0) → va_S A s.heap H locs → lv_has ls 6 [] → W p l e (headSpec ow_dm_X16_zero ({ frames := 3, cells := 0, slots := 0, locals := 67 })).room s m args below meth c H locs 0 0 Q (F0 m 144 ls [.int y0])
def dj_X16_zero_109 (p : Program) (l : Launch) (e : Env) (s : State) (m : MethodId) (args : Array Value) (below : List Frame) (meth : Method) (c : Code) (Q : State → Prop) (A : Nat → Prop) (dC : Nat → ClassId) (dI : Nat → Nat → Nat) (a : Nat → Nat) (ac : Nat → ClassId) (g : Int32 → (Unit) → Option (Int32 × (Unit))) (r : Int32 × (Unit)) : Prop := ∀ (y0 : Int32) (s0 : Unit) (H : Heap) (locs : List Loc) (ls : Array Slot), g y0 s0 = some r → va_P (dC, dI) vwCl (dw_P a ac s0) H → va_D A (dw_P a ac s0) → va_S A s.heap H locs → lv_has ls 6 [] → W p l e (headSpec ow_dm_X16_zero ({ frames := 3, cells := 0, slots := 0, locals := 67 })).room s m args below meth c H locs 0 0 Q (F0 m 109 ls [.int y0])
def dj_X16_zero_0 (p : Program) (l : Launch) (e : Env) (s : State) (m : MethodId) (args : Array Value) (below : List Frame) (meth : Method) (c : Code) (Q : State → Prop) (A : Nat → Prop) (dC : Nat → ClassId) (dI : Nat → Nat → Nat) (a : Nat → Nat) (ac : Nat → ClassId) (g : Int32 → Int32 → (Unit) → Option (Int32 × (Unit))) (r : Int32 × (Unit)) : Prop := ∀ (v0 : Int32) (v1 : Int32) (s0 : Unit) (H : Heap) (locs : List Loc) (ls : Array Slot), g v0 v1 s0 = some r → va_P (dC, dI) vwCl (dw_P a ac s0) H → va_D A (dw_P a ac s0) → va_S A s.heap H locs → lv_has ls 6 [(0, .int v0), (1, .int v1)] → W p l e (headSpec ow_dm_X16_zero ({ frames := 3, cells := 0, slots := 0, locals := 67 })).room s m args below meth c H locs 0 0 Q (F0 m 0 ls [])
set_option maxHeartbeats 40000000 in
set_option maxRecDepth 100000 in
theorem db_X16_zero_144 {p : Program} {l : Launch} {e : Env} {s : State} {m : MethodId} {args : Array Value} {below : List Frame} {meth : Method} {c : Code} {Q : State → Prop} {A : Nat → Prop} {dC : Nat → ClassId} {dI : Nat → Nat → Nat} {a : Nat → Nat} {ac : Nat → ClassId} {n : Nat} {r : Int32 × (Unit)} (C : nd_C p l s m args c A (dC, dI) cX16_zero 6 RX16 ow_dm_X16_zero (dk_P ac)) (K : nd_Ki p l e (headSpec ow_dm_X16_zero ({ frames := 3, cells := 0, slots := 0, locals := 67 })).room s m args below meth c Q A (dC, dI) cX16_zero .int (Unit) (dw_P a ac) r) : dj_X16_zero_144 p l e s m args below meth c Q A dC dI a ac (df_X16_zero_144 n) r := by
  obtain ⟨hlt, hx, hb, hml, hown, hts, hN, hA, hK⟩ := id C
  intro y0 s0 H locs ls h hP hD hS hl
  unfold df_X16_zero_144 at h
  exact K _ _ _ _ _ _ dX16_zero_144 rfl (Option.some.inj h).symm hP hD hS
set_option maxHeartbeats 40000000 in
set_option maxRecDepth 100000 in
theorem db_X16_zero_109 {p : Program} {l : Launch} {e : Env} {s : State} {m : MethodId} {args : Array Value} {below : List Frame} {meth : Method} {c : Code} {Q : State → Prop} {A : Nat → Prop} {dC : Nat → ClassId} {dI : Nat → Nat → Nat} {a : Nat → Nat} {ac : Nat → ClassId} {n : Nat} {r : Int32 × (Unit)} (C : nd_C p l s m args c A (dC, dI) cX16_zero 6 RX16 ow_dm_X16_zero (dk_P ac)) (K : nd_Ki p l e (headSpec ow_dm_X16_zero ({ frames := 3, cells := 0, slots := 0, locals := 67 })).room s m args below meth c Q A (dC, dI) cX16_zero .int (Unit) (dw_P a ac) r) : dj_X16_zero_109 p l e s m args below meth c Q A dC dI a ac (df_X16_zero_109 n) r := by
  obtain ⟨hlt, hx, hb, hml, hown, hts, hN, hA, hK⟩ := id C
  intro y0 s0 H locs ls h hP hD hS hl
  unfold df_X16_zero_109 at h
  exact K _ _ _ _ _ _ dX16_zero_109 rfl (Option.some.inj h).symm hP hD hS
