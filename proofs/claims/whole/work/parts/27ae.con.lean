def ow_dm_X1_addNumber : List Cond := .code yX1_addNumber cX1_addNumber 4 none :: ([.methodLink RX1 257 yX7_fits, .static yX7_fits, .initialized RX7, .methodLink RX1 176 yX1_add, .instanceMethod yX1_add, .selects RX1 yX1_add yX1_add, .initialized RX1, .methodLink RX1 265 yX9_low, .static yX9_low, .initialized RX9] ++ (ow_dm_X7_fits ++ (ow_dm_X1_add ++ (ow_dm_X9_low ++ []))))
theorem gd_dm_X1_addNumber : ∀ w ∈ ow_dm_X1_addNumber, (w.onTables && w.keeps) = true ∨ ∃ ty, w = Cond.arrayClass ty := List.forall_mem_cons.mpr ⟨good_of_word rfl, List.forall_mem_append.mpr ⟨fun w h => good_of_word (List.all_eq_true.mp (by decide +kernel) w h), List.forall_mem_append.mpr ⟨gd_dm_X7_fits, List.forall_mem_append.mpr ⟨gd_dm_X1_add, List.forall_mem_append.mpr ⟨gd_dm_X9_low, fun _ h => nomatch h⟩⟩⟩⟩⟩
theorem gi_dm_X1_addNumber_0 : GoodIn ow_dm_X1_addNumber (va_wsS RX1 257 yX7_fits ow_dm_X7_fits) := goodIn_app (goodIn_of _ (by decide +kernel)) (fun w h => ⟨List.mem_cons_of_mem _ (List.mem_append_right _ (List.mem_append_left _ h)), gd_dm_X7_fits w h⟩)
theorem gi_dm_X1_addNumber_1 : GoodIn ow_dm_X1_addNumber (wsV RX1 176 RX1 yX1_add ow_dm_X1_add) := goodIn_app (goodIn_of _ (by decide +kernel)) (fun w h => ⟨List.mem_cons_of_mem _ (List.mem_append_right _ (List.mem_append_right _ (List.mem_append_left _ h))), gd_dm_X1_add w h⟩)
theorem gi_dm_X1_addNumber_2 : GoodIn ow_dm_X1_addNumber (va_wsS RX1 265 yX9_low ow_dm_X9_low) := goodIn_app (goodIn_of _ (by decide +kernel)) (fun w h => ⟨List.mem_cons_of_mem _ (List.mem_append_right _ (List.mem_append_right _ (List.mem_append_right _ (List.mem_append_left _ h)))), gd_dm_X9_low w h⟩)
def dj_X1_addNumber_39 (p : Program) (l : Launch) (e : Env) (s : State) (m : MethodId) (args : Array Value) (below : List Frame) (meth : Method) (c : Code) (Q : State → Prop) (A : Nat → Prop) (dC : Nat → ClassId) (dI : Nat → Nat → Nat) (a : Nat → Nat) (ac : Nat → ClassId) (g : Int32 → Int32 → Int32 → (St × (St)) → Option (St × (St))) (r : St × (St)) : Prop := ∀ (x1 : Int32) (x2 : Int32) (x3 : Int32) (s0 : St × (St)) (H : Heap) (locs : List Loc) (ls : Array Slot), g x1 x2 x3 s0 = some r → va_P (dC, dI) vwCl (dw_X1 a ac s0) H → va_D A (dw_X1 a ac s0) → va_S A s.heap H locs → lv_has ls 4 [(0, .ref (a 0)), (1, .int x1), (2, .int x2), (3, .int x3)] → W p l e (headSpec ow_dm_X1_addNumber ({ frames := 1, cells := 0, slots := 0, locals := 25 })).room s m args below meth c H locs 0 0 Q (F0 m 39 ls [])
def dj_X1_addNumber_37 (p : Program) (l : Launch) (e : Env) (s : State) (m : MethodId) (args : Array Value) (below : List Frame) (meth : Method) (c : Code) (Q : State → Prop) (A : Nat → Prop) (dC : Nat → ClassId) (dI : Nat → Nat → Nat) (a : Nat → Nat) (ac : Nat → ClassId) (g : Int32 → Int32 → (St × (St)) → Option (St × (St))) (r : St × (St)) : Prop := ∀ (x1 : Int32) (x2 : Int32) (s0 : St × (St)) (H : Heap) (locs : List Loc) (ls : Array Slot), g x1 x2 s0 = some r → va_P (dC, dI) vwCl (dw_X1 a ac s0) H → va_D A (dw_X1 a ac s0) → va_S A s.heap H locs → lv_has ls 4 [(0, .ref (a 0)), (1, .int x1), (2, .int x2)] → W p l e (headSpec ow_dm_X1_addNumber ({ frames := 1, cells := 0, slots := 0, locals := 25 })).room s m args below meth c H locs 0 0 Q (F0 m 37 ls [])
def dj_X1_addNumber_21 (p : Program) (l : Launch) (e : Env) (s : State) (m : MethodId) (args : Array Value) (below : List Frame) (meth : Method) (c : Code) (Q : State → Prop) (A : Nat → Prop) (dC : Nat → ClassId) (dI : Nat → Nat → Nat) (a : Nat → Nat) (ac : Nat → ClassId) (g : Int32 → Int32 → Int32 → (St × (St)) → Option (St × (St))) (r : St × (St)) : Prop := ∀ (x1 : Int32) (x2 : Int32) (x3 : Int32) (s0 : St × (St)) (H : Heap) (locs : List Loc) (ls : Array Slot), g x1 x2 x3 s0 = some r → va_P (dC, dI) vwCl (dw_X1 a ac s0) H → va_D A (dw_X1 a ac s0) → va_S A s.heap H locs → lv_has ls 4 [(0, .ref (a 0)), (1, .int x1), (2, .int x2), (3, .int x3)] → W p l e (headSpec ow_dm_X1_addNumber ({ frames := 1, cells := 0, slots := 0, locals := 25 })).room s m args below meth c H locs 0 0 Q (F0 m 21 ls [])
def dj_X1_addNumber_0 (p : Program) (l : Launch) (e : Env) (s : State) (m : MethodId) (args : Array Value) (below : List Frame) (meth : Method) (c : Code) (Q : State → Prop) (A : Nat → Prop) (dC : Nat → ClassId) (dI : Nat → Nat → Nat) (a : Nat → Nat) (ac : Nat → ClassId) (g : Int32 → Int32 → (St × (St)) → Option (St × (St))) (r : St × (St)) : Prop := ∀ (v0 : Int32) (v1 : Int32) (s0 : St × (St)) (H : Heap) (locs : List Loc) (ls : Array Slot), g v0 v1 s0 = some r → va_P (dC, dI) vwCl (dw_X1 a ac s0) H → va_D A (dw_X1 a ac s0) → va_S A s.heap H locs → lv_has ls 4 [(0, .ref (a 0)), (1, .int v0), (2, .int v1)] → W p l e (headSpec ow_dm_X1_addNumber ({ frames := 1, cells := 0, slots := 0, locals := 25 })).room s m args below meth c H locs 0 0 Q (F0 m 0 ls [])
set_option maxHeartbeats 40000000 in
set_option maxRecDepth 100000 in
theorem db_X1_addNumber_39 {p : Program} {l : Launch} {e : Env} {s : State} {m : MethodId} {args : Array Value} {below : List Frame} {meth : Method} {c : Code} {Q : State → Prop} {A : Nat → Prop} {dC : Nat → ClassId} {dI : Nat → Nat → Nat} {a : Nat → Nat} {ac : Nat → ClassId} {n : Nat} {r : St × (St)} (C : nd_C p l s m args c A (dC, dI) cX1_addNumber 4 RX1 ow_dm_X1_addNumber (dk_X1 ac)) (K : nd_Kv p l e (headSpec ow_dm_X1_addNumber ({ frames := 1, cells := 0, slots := 0, locals := 25 })).room s m args below meth c Q A (dC, dI) cX1_addNumber (St × (St)) (dw_X1 a ac) r) : dj_X1_addNumber_39 p l e s m args below meth c Q A dC dI a ac (df_X1_addNumber_39 n) r := by
  obtain ⟨hlt, hx, hb, hml, hown, hts, hN, hA, hK⟩ := id C
  intro x1 x2 x3 s0 H locs ls h hP hD hS hl
  unfold df_X1_addNumber_39 at h
  refine lv_aload_n hx hb dX1_addNumber_39 rfl (lv_at hl 0 rfl) ?_
  refine lv_iconst (v := 4) hx hb dX1_addNumber_40 (by decide) ?_
  refine lv_iload_n hx hb dX1_addNumber_41 rfl (lv_at hl 3 rfl) ?_
  refine lv_iload_n hx hb dX1_addNumber_42 rfl (lv_at hl 1 rfl) ?_
  refine lv_iload_n hx hb dX1_addNumber_43 rfl (lv_at hl 2 rfl) ?_
  obtain ⟨s10, hq, h⟩ := nd_b1_e h
  have hPc := hP
  have hDc := hD
  have hKc := hK
  have hFc := nd_rs hD hS hA
  refine nd_cVv (As := [.int 4, .int x3, .int x1, .int x2]) (rest := []) (w' := dw_X1 a ac s10) ⟨hx, hb, hml, hown, hts⟩ (fun sz => dm_X1_add l hlt dC dI a ac n (4) (x3) (x1) (x2) s0 hq sz) (cwV 4 hts gi_dm_X1_addNumber_1 rfl rfl rfl (by decide +kernel) ⟨Nat.le_of_ble_eq_true rfl, Nat.le_of_ble_eq_true rfl⟩) hPc hDc hKc hS hA hN (va_recv hKc hPc (ci := 2) (q0 := 0) rfl rfl) rfl hl.1 rfl (Nat.le_of_ble_eq_true rfl) dX1_addNumber_44 (fun H locs hP1 hD1 hk1 hS => ?_)
  have hP := hP1
  have hD := hD1.weaken (fun k q _ h => hFc q.1 h)
  exact K _ _ _ _ _ dX1_addNumber_47 (Option.some.inj h).symm hP hD hS
set_option maxHeartbeats 40000000 in
set_option maxRecDepth 100000 in
theorem db_X1_addNumber_37 {p : Program} {l : Launch} {e : Env} {s : State} {m : MethodId} {args : Array Value} {below : List Frame} {meth : Method} {c : Code} {Q : State → Prop} {A : Nat → Prop} {dC : Nat → ClassId} {dI : Nat → Nat → Nat} {a : Nat → Nat} {ac : Nat → ClassId} {n : Nat} {r : St × (St)} (C : nd_C p l s m args c A (dC, dI) cX1_addNumber 4 RX1 ow_dm_X1_addNumber (dk_X1 ac)) (K : nd_Kv p l e (headSpec ow_dm_X1_addNumber ({ frames := 1, cells := 0, slots := 0, locals := 25 })).room s m args below meth c Q A (dC, dI) cX1_addNumber (St × (St)) (dw_X1 a ac) r) : dj_X1_addNumber_37 p l e s m args below meth c Q A dC dI a ac (df_X1_addNumber_37 n) r := by
  obtain ⟨hlt, hx, hb, hml, hown, hts, hN, hA, hK⟩ := id C
  intro x1 x2 s0 H locs ls h hP hD hS hl
  unfold df_X1_addNumber_37 at h
  refine lv_iconst (v := 4) hx hb dX1_addNumber_37 (by decide) ?_
  refine lv_istore_n (lv' := [(3, .int 4), (0, .ref (a 0)), (1, .int x1), (2, .int x2)]) hx hb dX1_addNumber_38 rfl hl (by decide) rfl (fun ls hl => ?_)
  exact (db_X1_addNumber_39 C K) (x1) (x2) (4) s0 _ _ _ h hP hD hS (lv_sub hl [1, 2, 3, 0] rfl)
set_option maxHeartbeats 40000000 in
set_option maxRecDepth 100000 in
theorem db_X1_addNumber_21 {p : Program} {l : Launch} {e : Env} {s : State} {m : MethodId} {args : Array Value} {below : List Frame} {meth : Method} {c : Code} {Q : State → Prop} {A : Nat → Prop} {dC : Nat → ClassId} {dI : Nat → Nat → Nat} {a : Nat → Nat} {ac : Nat → ClassId} {n : Nat} {r : St × (St)} (C : nd_C p l s m args c A (dC, dI) cX1_addNumber 4 RX1 ow_dm_X1_addNumber (dk_X1 ac)) (K : nd_Kv p l e (headSpec ow_dm_X1_addNumber ({ frames := 1, cells := 0, slots := 0, locals := 25 })).room s m args below meth c Q A (dC, dI) cX1_addNumber (St × (St)) (dw_X1 a ac) r) : dj_X1_addNumber_21 p l e s m args below meth c Q A dC dI a ac (df_X1_addNumber_21 n) r := by
  obtain ⟨hlt, hx, hb, hml, hown, hts, hN, hA, hK⟩ := id C
  intro x1 x2 x3 s0 H locs ls h hP hD hS hl
  unfold df_X1_addNumber_21 at h
  refine lv_bipush (v := 73) hx hb dX1_addNumber_21 (by decide) ?_
  refine lv_iload_n hx hb dX1_addNumber_23 rfl (lv_at hl 2 rfl) ?_
  obtain ⟨q5, s6, hq, h⟩ := nd_b2_e h
  have hPc : va_P (dC, dI) vwCl (dw_P a ac ()) H := nd_p0
  have hDc : va_D A (dw_P a ac ()) := nd_d0
  have hKc : va_K (dC, dI) vwCl (dk_P ac) s := nd_y0 hK
  have hFc : ∀ q, va_A (dw_P a ac ()) H.size q → A q := nd_r0 hS hA
  refine nd_cSi (As := [.int 73, .int x2]) (rest := []) (q := q5) (w' := dw_P a ac s6) ⟨hx, hb, hml, hown, hts⟩ (fun sz => dm_X7_fits l hlt dC dI a ac n (73) (x2) () hq sz) (va_cwS 2 hts gi_dm_X1_addNumber_0 rfl rfl rfl (by decide +kernel) ⟨Nat.le_of_ble_eq_true rfl, Nat.le_of_ble_eq_true rfl⟩) hPc hDc hKc hS hA hN rfl hl.1 rfl (Nat.le_of_ble_eq_true rfl) dX1_addNumber_24 (fun H locs hP1 hD1 hk1 hS => ?_)
  have hP := nd_n0 hP hk1
  refine lv_if_ne (tgt := 37) hx hb dX1_addNumber_27 (by decide) (fun c8 => ?_) (fun c8 => ?_)
  · have h := nd_neg h c8
    exact (db_X1_addNumber_37 C K) (x1) (x2) s0 _ _ _ h hP hD hS (lv_sub hl [0, 1, 2] rfl)
  · have h := nd_pos h c8
    refine lv_iload_n hx hb dX1_addNumber_30 rfl (lv_at hl 2 rfl) ?_
    obtain ⟨q12, s13, hq, h⟩ := nd_b2_e h
    have hPc : va_P (dC, dI) vwCl (dw_P a ac ()) H := nd_p0
    have hDc : va_D A (dw_P a ac ()) := nd_d0
    have hKc : va_K (dC, dI) vwCl (dk_P ac) s := nd_y0 hK
    have hFc : ∀ q, va_A (dw_P a ac ()) H.size q → A q := nd_r0 hS hA
    refine nd_cSi (As := [.int x2]) (rest := []) (q := q12) (w' := dw_P a ac s13) ⟨hx, hb, hml, hown, hts⟩ (fun sz => dm_X9_low l hlt dC dI a ac n (x2) () hq sz) (va_cwS 1 hts gi_dm_X1_addNumber_2 rfl rfl rfl (by decide +kernel) ⟨Nat.le_of_ble_eq_true rfl, Nat.le_of_ble_eq_true rfl⟩) hPc hDc hKc hS hA hN rfl hl.1 rfl (Nat.le_of_ble_eq_true rfl) dX1_addNumber_31 (fun H locs hP1 hD1 hk1 hS => ?_)
    have hP := nd_n0 hP hk1
    refine lv_if_ne (tgt := 39) hx hb dX1_addNumber_34 (by decide) (fun c15 => ?_) (fun c15 => ?_)
    · have h := nd_neg h c15
      exact (db_X1_addNumber_39 C K) (x1) (x2) (x3) s0 _ _ _ h hP hD hS (lv_sub hl [0, 1, 2, 3] rfl)
    · have h := nd_pos h c15
      exact (db_X1_addNumber_37 C K) (x1) (x2) s0 _ _ _ h hP hD hS (lv_sub hl [0, 1, 2] rfl)
set_option maxHeartbeats 40000000 in
set_option maxRecDepth 100000 in
theorem db_X1_addNumber_0 {p : Program} {l : Launch} {e : Env} {s : State} {m : MethodId} {args : Array Value} {below : List Frame} {meth : Method} {c : Code} {Q : State → Prop} {A : Nat → Prop} {dC : Nat → ClassId} {dI : Nat → Nat → Nat} {a : Nat → Nat} {ac : Nat → ClassId} {n : Nat} {r : St × (St)} (C : nd_C p l s m args c A (dC, dI) cX1_addNumber 4 RX1 ow_dm_X1_addNumber (dk_X1 ac)) (K : nd_Kv p l e (headSpec ow_dm_X1_addNumber ({ frames := 1, cells := 0, slots := 0, locals := 25 })).room s m args below meth c Q A (dC, dI) cX1_addNumber (St × (St)) (dw_X1 a ac) r) : dj_X1_addNumber_0 p l e s m args below meth c Q A dC dI a ac (df_X1_addNumber_0 n) r := by
  obtain ⟨hlt, hx, hb, hml, hown, hts, hN, hA, hK⟩ := id C
  intro v0 v1 s0 H locs ls h hP hD hS hl
  unfold df_X1_addNumber_0 at h
  refine lv_bipush (v := 8) hx hb dX1_addNumber_0 (by decide) ?_
  refine lv_istore_n (lv' := [(3, .int 8), (0, .ref (a 0)), (1, .int v0), (2, .int v1)]) hx hb dX1_addNumber_2 rfl hl (by decide) rfl (fun ls hl => ?_)
  refine lv_bipush (v := 78) hx hb dX1_addNumber_3 (by decide) ?_
  refine lv_iload_n hx hb dX1_addNumber_5 rfl (lv_at hl 3 rfl) ?_
  obtain ⟨q1, s2, hq, h⟩ := nd_b2_e h
  have hPc : va_P (dC, dI) vwCl (dw_P a ac ()) H := nd_p0
  have hDc : va_D A (dw_P a ac ()) := nd_d0
  have hKc : va_K (dC, dI) vwCl (dk_P ac) s := nd_y0 hK
  have hFc : ∀ q, va_A (dw_P a ac ()) H.size q → A q := nd_r0 hS hA
  refine nd_cSi (As := [.int 78, .int v1]) (rest := []) (q := q1) (w' := dw_P a ac s2) ⟨hx, hb, hml, hown, hts⟩ (fun sz => dm_X7_fits l hlt dC dI a ac n (78) (v1) () hq sz) (va_cwS 2 hts gi_dm_X1_addNumber_0 rfl rfl rfl (by decide +kernel) ⟨Nat.le_of_ble_eq_true rfl, Nat.le_of_ble_eq_true rfl⟩) hPc hDc hKc hS hA hN rfl hl.1 rfl (Nat.le_of_ble_eq_true rfl) dX1_addNumber_6 (fun H locs hP1 hD1 hk1 hS => ?_)
  have hP := nd_n0 hP hk1
  refine lv_if_eq (tgt := 21) hx hb dX1_addNumber_9 (by decide) (fun c4 => ?_) (fun c4 => ?_)
  · have h := nd_pos h c4
    exact (db_X1_addNumber_21 C K) (v0) (v1) (8) s0 _ _ _ h hP hD hS (lv_sub hl [1, 2, 3, 0] rfl)
  · have h := nd_neg h c4
    refine lv_iload_n hx hb dX1_addNumber_12 rfl (lv_at hl 2 rfl) ?_
    refine lv_if_eq (tgt := 21) hx hb dX1_addNumber_13 (by decide) (fun c16 => ?_) (fun c16 => ?_)
    · have h := nd_pos h c16
      exact (db_X1_addNumber_21 C K) (v0) (v1) (8) s0 _ _ _ h hP hD hS (lv_sub hl [1, 2, 3, 0] rfl)
    · have h := nd_neg h c16
      refine lv_iconst (v := 2) hx hb dX1_addNumber_16 (by decide) ?_
      refine lv_istore_n (lv' := [(3, .int 2), (0, .ref (a 0)), (1, .int v0), (2, .int v1)]) hx hb dX1_addNumber_17 rfl hl (by decide) rfl (fun ls hl => ?_)
      refine lv_goto (tgt := 39) hx hb dX1_addNumber_18 (by decide) ?_
      exact (db_X1_addNumber_39 C K) (v0) (v1) (2) s0 _ _ _ h hP hD hS (lv_sub hl [1, 2, 3, 0] rfl)
set_option maxHeartbeats 40000000 in
set_option maxRecDepth 100000 in
theorem dm_X1_addNumber (l : Launch) (hlt : l.stackTraces = false) (dC : Nat → ClassId) (dI : Nat → Nat → Nat) (a : Nat → Nat) (ac : Nat → ClassId) (n : Nat) (v0 : Int32) (v1 : Int32) (s0 : St × (St)) {r : St × (St)} (h : df_X1_addNumber n v0 v1 s0 = some r) (sz : Nat) : Met l yX1_addNumber ow_dm_X1_addNumber ({ frames := 1, cells := 0, slots := 0, locals := 25 }) (va_Pc [.ref (a 0), .int v0, .int v1] (fun U => U.heap.size = sz ∧ va_P (dC, dI) vwCl (dw_X1 a ac s0) U.heap ∧ va_K (dC, dI) vwCl (dk_X1 ac) U ∧ va_D (fun _ => True) (dw_X1 a ac s0) ∧ nv_E (va_A (dw_X1 a ac s0) sz) U)) (va_Qv (fun _ => True) (fun (_ : Unit) t => va_P (dC, dI) vwCl (dw_X1 a ac r) t.heap ∧ va_K (dC, dI) vwCl (dk_X1 ac) t ∧ va_D (va_A (dw_X1 a ac s0) sz) (dw_X1 a ac r)) (va_A (dw_X1 a ac s0) sz)) 0 0 (va_A (dw_X1 a ac s0) sz) := by
  refine Met.ofW (cc := cX1_addNumber) (maxL := 4) (ret := none) (by decide) rfl ?_
  intro p e s m args below meth c s₁ B hml hv
  obtain ⟨rfl, hsz, hP, hK, hD0, hN⟩ := hv
  have hx := B.exec
  have hb := B.bytes
  have hr := B.returns
  have hts := atoms_spec (ws := ow_dm_X1_addNumber) B.pre
  have hown : s.vm.findClass RX1 = some m.cls := findClass_of_methodNamed B.named
  have hlocks := B.notSynchronized
  subst hsz
  have hD := hD0.self (sz := s.heap.size)
  generalize hAe : va_A (dw_X1 a ac s0) s.heap.size = A at hD hN ⊢
  have hA : ∀ q : Nat, s.heap.size ≤ q → A q := fun q h => by rw [← hAe]; exact Or.inr h
  have hl := lv_entry ([.ref (a 0), .int v0, .int v1]) (n := 4) (Nat.le_of_ble_eq_true rfl)
  rw [lg_entry_eq]
  generalize (lg_sl ([.ref (a 0), .int v0, .int v1]) ++ List.replicate (4 - (lg_sl ([.ref (a 0), .int v0, .int v1])).length) Slot.unset).toArray = ls at hl ⊢
  have hl : lv_has ls 4 [(0, .ref (a 0)), (1, .int v0), (2, .int v1)] := hl
  exact db_X1_addNumber_0 (dC := dC) (dI := dI) (a := a) (ac := ac) (n := n) (r := r) ⟨hlt, hx, hb, hml, hown, hts, hN, hA, hK⟩ (fun pc τ H locs ls d er hP hD hS => by subst er; exact W.vret hx hb hr (fun t ht hW => ⟨⟨(), rfl, trivial, by rw [ht]; exact hP, va_K.moved hW.alike hK, hD⟩, hS.F ht⟩) hS.2.2 d) v0 v1 s0 _ _ _ h hP hD va_S.rf (lv_sub hl [0, 1, 2] rfl)
def ow_dm_X1_setLetter : List Cond := .code yX1_setLetter cX1_setLetter 2 none :: ([.fieldLink RX1 32 "TimeMachine$Assembler" "fault" "I", .fieldLink RX1 65 "TimeMachine$Assembler" "statements" "I", .fieldLink RX1 19 "TimeMachine$Assembler" "statement" "[I"] ++ (u_ws RX1 TX1 13 ++ []))
theorem gd_dm_X1_setLetter : ∀ w ∈ ow_dm_X1_setLetter, (w.onTables && w.keeps) = true ∨ ∃ ty, w = Cond.arrayClass ty := List.forall_mem_cons.mpr ⟨good_of_word rfl, List.forall_mem_append.mpr ⟨fun w h => good_of_word (List.all_eq_true.mp (by decide +kernel) w h), List.forall_mem_append.mpr ⟨gu_X1, fun _ h => nomatch h⟩⟩⟩
theorem hi_dm_X1_setLetter_X1 : ∀ w ∈ u_ws RX1 TX1 13, w ∈ ow_dm_X1_setLetter := fun w h => List.mem_cons_of_mem _ (List.mem_append_right _ (List.mem_append_left _ h))
def dj_X1_setLetter_32 (p : Program) (l : Launch) (e : Env) (s : State) (m : MethodId) (args : Array Value) (below : List Frame) (meth : Method) (c : Code) (Q : State → Prop) (A : Nat → Prop) (dC : Nat → ClassId) (dI : Nat → Nat → Nat) (a : Nat → Nat) (ac : Nat → ClassId) (g : (St × (St)) → Option (St × (St))) (r : St × (St)) : Prop := ∀ (s0 : St × (St)) (H : Heap) (locs : List Loc) (ls : Array Slot), g s0 = some r → va_P (dC, dI) vwCl (dw_X1 a ac s0) H → va_D A (dw_X1 a ac s0) → va_S A s.heap H locs → lv_has ls 2 [] → W p l e (headSpec ow_dm_X1_setLetter ({ frames := 0, cells := 0, slots := 0, locals := 0 })).room s m args below meth c H locs 0 0 Q (F0 m 32 ls [])
def dj_X1_setLetter_0 (p : Program) (l : Launch) (e : Env) (s : State) (m : MethodId) (args : Array Value) (below : List Frame) (meth : Method) (c : Code) (Q : State → Prop) (A : Nat → Prop) (dC : Nat → ClassId) (dI : Nat → Nat → Nat) (a : Nat → Nat) (ac : Nat → ClassId) (g : Int32 → (St × (St)) → Option (St × (St))) (r : St × (St)) : Prop := ∀ (v0 : Int32) (s0 : St × (St)) (H : Heap) (locs : List Loc) (ls : Array Slot), g v0 s0 = some r → va_P (dC, dI) vwCl (dw_X1 a ac s0) H → va_D A (dw_X1 a ac s0) → va_S A s.heap H locs → lv_has ls 2 [(0, .ref (a 0)), (1, .int v0)] → W p l e (headSpec ow_dm_X1_setLetter ({ frames := 0, cells := 0, slots := 0, locals := 0 })).room s m args below meth c H locs 0 0 Q (F0 m 0 ls [])
set_option maxHeartbeats 40000000 in
set_option maxRecDepth 100000 in
theorem db_X1_setLetter_32 {p : Program} {l : Launch} {e : Env} {s : State} {m : MethodId} {args : Array Value} {below : List Frame} {meth : Method} {c : Code} {Q : State → Prop} {A : Nat → Prop} {dC : Nat → ClassId} {dI : Nat → Nat → Nat} {a : Nat → Nat} {ac : Nat → ClassId} {n : Nat} {r : St × (St)} (C : nd_C p l s m args c A (dC, dI) cX1_setLetter 2 RX1 ow_dm_X1_setLetter (dk_X1 ac)) (K : nd_Kv p l e (headSpec ow_dm_X1_setLetter ({ frames := 0, cells := 0, slots := 0, locals := 0 })).room s m args below meth c Q A (dC, dI) cX1_setLetter (St × (St)) (dw_X1 a ac) r) : dj_X1_setLetter_32 p l e s m args below meth c Q A dC dI a ac (df_X1_setLetter_32 n) r := by
  obtain ⟨hlt, hx, hb, hml, hown, hts, hN, hA, hK⟩ := id C
  intro s0 H locs ls h hP hD hS hl
  unfold df_X1_setLetter_32 at h
  exact K _ _ _ _ _ dX1_setLetter_32 (Option.some.inj h).symm hP hD hS
set_option maxHeartbeats 40000000 in
set_option maxRecDepth 100000 in
theorem db_X1_setLetter_0 {p : Program} {l : Launch} {e : Env} {s : State} {m : MethodId} {args : Array Value} {below : List Frame} {meth : Method} {c : Code} {Q : State → Prop} {A : Nat → Prop} {dC : Nat → ClassId} {dI : Nat → Nat → Nat} {a : Nat → Nat} {ac : Nat → ClassId} {n : Nat} {r : St × (St)} (C : nd_C p l s m args c A (dC, dI) cX1_setLetter 2 RX1 ow_dm_X1_setLetter (dk_X1 ac)) (K : nd_Kv p l e (headSpec ow_dm_X1_setLetter ({ frames := 0, cells := 0, slots := 0, locals := 0 })).room s m args below meth c Q A (dC, dI) cX1_setLetter (St × (St)) (dw_X1 a ac) r) : dj_X1_setLetter_0 p l e s m args below meth c Q A dC dI a ac (df_X1_setLetter_0 n) r := by
  obtain ⟨hlt, hx, hb, hml, hown, hts, hN, hA, hK⟩ := id C
  intro v0 s0 H locs ls h hP hD hS hl
  unfold df_X1_setLetter_0 at h
  refine lv_aload_n hx hb dX1_setLetter_0 rfl (lv_at hl 0 rfl) ?_
  refine va_get (D := (dC, dI)) (ci := 2) (v := .int (sI s0.1 2)) (C := RX1) (T := TX1) (N := 13) hx hb hts hi_dm_X1_setLetter_X1 hown hK hP 0 rfl rfl 5 (by decide) (hts (.fieldLink RX1 32 "TimeMachine$Assembler" "fault" "I") (List.mem_of_getElem? (i := 1) rfl)) (fun _ h9 => h9) rfl dX1_setLetter_1 ?_
  refine lv_if_ne (tgt := 32) hx hb dX1_setLetter_4 (by decide) (fun c1 => ?_) (fun c1 => ?_)
  · have h := nd_neg h c1
    exact (db_X1_setLetter_32 C K)  s0 _ _ _ h hP hD hS (lv_sub hl [] rfl)
  · have h := nd_pos h c1
    refine lv_aload_n hx hb dX1_setLetter_7 rfl (lv_at hl 0 rfl) ?_
    refine va_get (D := (dC, dI)) (ci := 2) (v := .int (sI s0.1 0)) (C := RX1) (T := TX1) (N := 13) hx hb hts hi_dm_X1_setLetter_X1 hown hK hP 0 rfl rfl 2 (by decide) (hts (.fieldLink RX1 65 "TimeMachine$Assembler" "statements" "I") (List.mem_of_getElem? (i := 2) rfl)) (fun _ h9 => h9) rfl dX1_setLetter_8 ?_
    refine lv_if_le (tgt := 32) hx hb dX1_setLetter_11 (by decide) (fun c2 => ?_) (fun c2 => ?_)
    · have h := nd_pos h c2
      exact (db_X1_setLetter_32 C K)  s0 _ _ _ h hP hD hS (lv_sub hl [] rfl)
    · have h := nd_neg h c2
      refine lv_aload_n hx hb dX1_setLetter_14 rfl (lv_at hl 0 rfl) ?_
      refine va_get (D := (dC, dI)) (ci := 2) (v := .ref (a 1)) (C := RX1) (T := TX1) (N := 13) hx hb hts hi_dm_X1_setLetter_X1 hown hK hP 0 rfl rfl 1 (by decide) (hts (.fieldLink RX1 19 "TimeMachine$Assembler" "statement" "[I") (List.mem_of_getElem? (i := 3) rfl)) (fun _ h9 => h9) rfl dX1_setLetter_15 ?_
      refine lv_aload_n hx hb dX1_setLetter_18 rfl (lv_at hl 0 rfl) ?_
      refine va_get (D := (dC, dI)) (ci := 2) (v := .int (sI s0.1 0)) (C := RX1) (T := TX1) (N := 13) hx hb hts hi_dm_X1_setLetter_X1 hown hK hP 0 rfl rfl 2 (by decide) (hts (.fieldLink RX1 65 "TimeMachine$Assembler" "statements" "I") (List.mem_of_getElem? (i := 2) rfl)) (fun _ h9 => h9) rfl dX1_setLetter_19 ?_
      refine lv_iconst (v := 1) hx hb dX1_setLetter_22 (by decide) ?_
      refine lv_isub hx hb dX1_setLetter_23 ?_
      refine lv_bipush (v := 8) hx hb dX1_setLetter_24 (by decide) ?_
      refine lv_imul hx hb dX1_setLetter_26 ?_
      refine lv_bipush (v := 7) hx hb dX1_setLetter_27 (by decide) ?_
      refine lv_iadd hx hb dX1_setLetter_29 ?_
      refine lv_iload_n hx hb dX1_setLetter_30 rfl (lv_at hl 1 rfl) ?_
      obtain ⟨i3, h⟩ := nd_ck_e h
      refine va_iast (i := ((((sI s0.1 0) - 1) * 8) + 7)) (x := v0) hx hb hK hP hD hS 1 0 rfl rfl i3 dX1_setLetter_31 (fun H locs hP hD hS => ?_)
      obtain ⟨s4, es4, h⟩ := nd_let_e h
      have hP : va_P (dC, dI) vwCl (dw_X1 a ac s4) H := by rw [es4]; exact hP
      have hD : va_D A (dw_X1 a ac s4) := by rw [es4]; exact hD
      exact (db_X1_setLetter_32 C K)  s4 _ _ _ h hP hD hS (lv_sub hl [] rfl)
set_option maxHeartbeats 40000000 in
set_option maxRecDepth 100000 in
theorem dm_X1_setLetter (l : Launch) (hlt : l.stackTraces = false) (dC : Nat → ClassId) (dI : Nat → Nat → Nat) (a : Nat → Nat) (ac : Nat → ClassId) (n : Nat) (v0 : Int32) (s0 : St × (St)) {r : St × (St)} (h : df_X1_setLetter n v0 s0 = some r) (sz : Nat) : Met l yX1_setLetter ow_dm_X1_setLetter ({ frames := 0, cells := 0, slots := 0, locals := 0 }) (va_Pc [.ref (a 0), .int v0] (fun U => U.heap.size = sz ∧ va_P (dC, dI) vwCl (dw_X1 a ac s0) U.heap ∧ va_K (dC, dI) vwCl (dk_X1 ac) U ∧ va_D (fun _ => True) (dw_X1 a ac s0) ∧ nv_E (va_A (dw_X1 a ac s0) sz) U)) (va_Qv (fun _ => True) (fun (_ : Unit) t => va_P (dC, dI) vwCl (dw_X1 a ac r) t.heap ∧ va_K (dC, dI) vwCl (dk_X1 ac) t ∧ va_D (va_A (dw_X1 a ac s0) sz) (dw_X1 a ac r)) (va_A (dw_X1 a ac s0) sz)) 0 0 (va_A (dw_X1 a ac s0) sz) := by
  refine Met.ofW (cc := cX1_setLetter) (maxL := 2) (ret := none) (by decide) rfl ?_
  intro p e s m args below meth c s₁ B hml hv
  obtain ⟨rfl, hsz, hP, hK, hD0, hN⟩ := hv
  have hx := B.exec
  have hb := B.bytes
  have hr := B.returns
  have hts := atoms_spec (ws := ow_dm_X1_setLetter) B.pre
  have hown : s.vm.findClass RX1 = some m.cls := findClass_of_methodNamed B.named
  have hlocks := B.notSynchronized
  subst hsz
  have hD := hD0.self (sz := s.heap.size)
  generalize hAe : va_A (dw_X1 a ac s0) s.heap.size = A at hD hN ⊢
  have hA : ∀ q : Nat, s.heap.size ≤ q → A q := fun q h => by rw [← hAe]; exact Or.inr h
  have hl := lv_entry ([.ref (a 0), .int v0]) (n := 2) (Nat.le_of_ble_eq_true rfl)
  rw [lg_entry_eq]
  generalize (lg_sl ([.ref (a 0), .int v0]) ++ List.replicate (2 - (lg_sl ([.ref (a 0), .int v0])).length) Slot.unset).toArray = ls at hl ⊢
  have hl : lv_has ls 2 [(0, .ref (a 0)), (1, .int v0)] := hl
  exact db_X1_setLetter_0 (dC := dC) (dI := dI) (a := a) (ac := ac) (n := n) (r := r) ⟨hlt, hx, hb, hml, hown, hts, hN, hA, hK⟩ (fun pc τ H locs ls d er hP hD hS => by subst er; exact W.vret hx hb hr (fun t ht hW => ⟨⟨(), rfl, trivial, by rw [ht]; exact hP, va_K.moved hW.alike hK, hD⟩, hS.F ht⟩) hS.2.2 d) v0 s0 _ _ _ h hP hD va_S.rf (lv_sub hl [0, 1] rfl)
def ow_dm_X9_isInName : List Cond := .code yX9_isInName cX9_isInName 1 (some .boolean) :: ([] ++ [])
theorem gd_dm_X9_isInName : ∀ w ∈ ow_dm_X9_isInName, (w.onTables && w.keeps) = true ∨ ∃ ty, w = Cond.arrayClass ty := List.forall_mem_cons.mpr ⟨good_of_word rfl, List.forall_mem_append.mpr ⟨fun w h => good_of_word (List.all_eq_true.mp (by decide +kernel) w h), fun _ h => nomatch h⟩⟩
def dj_X9_isInName_59 (p : Program) (l : Launch) (e : Env) (s : State) (m : MethodId) (args : Array Value) (below : List Frame) (meth : Method) (c : Code) (Q : State → Prop) (A : Nat → Prop) (dC : Nat → ClassId) (dI : Nat → Nat → Nat) (a : Nat → Nat) (ac : Nat → ClassId) (g : Int32 → (Unit) → Option (Int32 × (Unit))) (r : Int32 × (Unit)) : Prop := ∀ (y0 : Int32) (s0 : Unit) (H : Heap) (locs : List Loc) (ls : Array Slot), g y0 s0 = some r → va_P (dC, dI) vwCl (dw_P a ac s0) H → va_D A (dw_P a ac s0) → va_S A s.heap H locs → lv_has ls 1 [] → W p l e (headSpec ow_dm_X9_isInName ({ frames := 0, cells := 0, slots := 0, locals := 0 })).room s m args below meth c H locs 0 0 Q (F0 m 59 ls [.int y0])
def dj_X9_isInName_54 (p : Program) (l : Launch) (e : Env) (s : State) (m : MethodId) (args : Array Value) (below : List Frame) (meth : Method) (c : Code) (Q : State → Prop) (A : Nat → Prop) (dC : Nat → ClassId) (dI : Nat → Nat → Nat) (a : Nat → Nat) (ac : Nat → ClassId) (g : (Unit) → Option (Int32 × (Unit))) (r : Int32 × (Unit)) : Prop := ∀ (s0 : Unit) (H : Heap) (locs : List Loc) (ls : Array Slot), g s0 = some r → va_P (dC, dI) vwCl (dw_P a ac s0) H → va_D A (dw_P a ac s0) → va_S A s.heap H locs → lv_has ls 1 [] → W p l e (headSpec ow_dm_X9_isInName ({ frames := 0, cells := 0, slots := 0, locals := 0 })).room s m args below meth c H locs 0 0 Q (F0 m 54 ls [])
def dj_X9_isInName_36 (p : Program) (l : Launch) (e : Env) (s : State) (m : MethodId) (args : Array Value) (below : List Frame) (meth : Method) (c : Code) (Q : State → Prop) (A : Nat → Prop) (dC : Nat → ClassId) (dI : Nat → Nat → Nat) (a : Nat → Nat) (ac : Nat → ClassId) (g : Int32 → (Unit) → Option (Int32 × (Unit))) (r : Int32 × (Unit)) : Prop := ∀ (x0 : Int32) (s0 : Unit) (H : Heap) (locs : List Loc) (ls : Array Slot), g x0 s0 = some r → va_P (dC, dI) vwCl (dw_P a ac s0) H → va_D A (dw_P a ac s0) → va_S A s.heap H locs → lv_has ls 1 [(0, .int x0)] → W p l e (headSpec ow_dm_X9_isInName ({ frames := 0, cells := 0, slots := 0, locals := 0 })).room s m args below meth c H locs 0 0 Q (F0 m 36 ls [])
def dj_X9_isInName_24 (p : Program) (l : Launch) (e : Env) (s : State) (m : MethodId) (args : Array Value) (below : List Frame) (meth : Method) (c : Code) (Q : State → Prop) (A : Nat → Prop) (dC : Nat → ClassId) (dI : Nat → Nat → Nat) (a : Nat → Nat) (ac : Nat → ClassId) (g : Int32 → (Unit) → Option (Int32 × (Unit))) (r : Int32 × (Unit)) : Prop := ∀ (x0 : Int32) (s0 : Unit) (H : Heap) (locs : List Loc) (ls : Array Slot), g x0 s0 = some r → va_P (dC, dI) vwCl (dw_P a ac s0) H → va_D A (dw_P a ac s0) → va_S A s.heap H locs → lv_has ls 1 [(0, .int x0)] → W p l e (headSpec ow_dm_X9_isInName ({ frames := 0, cells := 0, slots := 0, locals := 0 })).room s m args below meth c H locs 0 0 Q (F0 m 24 ls [])
def dj_X9_isInName_12 (p : Program) (l : Launch) (e : Env) (s : State) (m : MethodId) (args : Array Value) (below : List Frame) (meth : Method) (c : Code) (Q : State → Prop) (A : Nat → Prop) (dC : Nat → ClassId) (dI : Nat → Nat → Nat) (a : Nat → Nat) (ac : Nat → ClassId) (g : Int32 → (Unit) → Option (Int32 × (Unit))) (r : Int32 × (Unit)) : Prop := ∀ (x0 : Int32) (s0 : Unit) (H : Heap) (locs : List Loc) (ls : Array Slot), g x0 s0 = some r → va_P (dC, dI) vwCl (dw_P a ac s0) H → va_D A (dw_P a ac s0) → va_S A s.heap H locs → lv_has ls 1 [(0, .int x0)] → W p l e (headSpec ow_dm_X9_isInName ({ frames := 0, cells := 0, slots := 0, locals := 0 })).room s m args below meth c H locs 0 0 Q (F0 m 12 ls [])
def dj_X9_isInName_0 (p : Program) (l : Launch) (e : Env) (s : State) (m : MethodId) (args : Array Value) (below : List Frame) (meth : Method) (c : Code) (Q : State → Prop) (A : Nat → Prop) (dC : Nat → ClassId) (dI : Nat → Nat → Nat) (a : Nat → Nat) (ac : Nat → ClassId) (g : Int32 → (Unit) → Option (Int32 × (Unit))) (r : Int32 × (Unit)) : Prop := ∀ (v0 : Int32) (s0 : Unit) (H : Heap) (locs : List Loc) (ls : Array Slot), g v0 s0 = some r → va_P (dC, dI) vwCl (dw_P a ac s0) H → va_D A (dw_P a ac s0) → va_S A s.heap H locs → lv_has ls 1 [(0, .int v0)] → W p l e (headSpec ow_dm_X9_isInName ({ frames := 0, cells := 0, slots := 0, locals := 0 })).room s m args below meth c H locs 0 0 Q (F0 m 0 ls [])
set_option maxHeartbeats 40000000 in
set_option maxRecDepth 100000 in
theorem db_X9_isInName_59 {p : Program} {l : Launch} {e : Env} {s : State} {m : MethodId} {args : Array Value} {below : List Frame} {meth : Method} {c : Code} {Q : State → Prop} {A : Nat → Prop} {dC : Nat → ClassId} {dI : Nat → Nat → Nat} {a : Nat → Nat} {ac : Nat → ClassId} {n : Nat} {r : Int32 × (Unit)} (C : nd_C p l s m args c A (dC, dI) cX9_isInName 1 RX9 ow_dm_X9_isInName (dk_P ac)) (K : nd_Ki p l e (headSpec ow_dm_X9_isInName ({ frames := 0, cells := 0, slots := 0, locals := 0 })).room s m args below meth c Q A (dC, dI) cX9_isInName .boolean (Unit) (dw_P a ac) r) : dj_X9_isInName_59 p l e s m args below meth c Q A dC dI a ac (df_X9_isInName_59 n) r := by
  obtain ⟨hlt, hx, hb, hml, hown, hts, hN, hA, hK⟩ := id C
  intro y0 s0 H locs ls h hP hD hS hl
  unfold df_X9_isInName_59 at h
  obtain ⟨n5, h⟩ := nd_z_e ⟨_, rfl⟩ h
  exact K _ _ _ _ _ _ dX9_isInName_59 n5 (Option.some.inj h).symm hP hD hS
set_option maxHeartbeats 40000000 in
set_option maxRecDepth 100000 in
theorem db_X9_isInName_54 {p : Program} {l : Launch} {e : Env} {s : State} {m : MethodId} {args : Array Value} {below : List Frame} {meth : Method} {c : Code} {Q : State → Prop} {A : Nat → Prop} {dC : Nat → ClassId} {dI : Nat → Nat → Nat} {a : Nat → Nat} {ac : Nat → ClassId} {n : Nat} {r : Int32 × (Unit)} (C : nd_C p l s m args c A (dC, dI) cX9_isInName 1 RX9 ow_dm_X9_isInName (dk_P ac)) (K : nd_Ki p l e (headSpec ow_dm_X9_isInName ({ frames := 0, cells := 0, slots := 0, locals := 0 })).room s m args below meth c Q A (dC, dI) cX9_isInName .boolean (Unit) (dw_P a ac) r) : dj_X9_isInName_54 p l e s m args below meth c Q A dC dI a ac (df_X9_isInName_54 n) r := by
  obtain ⟨hlt, hx, hb, hml, hown, hts, hN, hA, hK⟩ := id C
  intro s0 H locs ls h hP hD hS hl
  unfold df_X9_isInName_54 at h
  refine lv_iconst (v := 1) hx hb dX9_isInName_54 (by decide) ?_
  refine lv_goto (tgt := 59) hx hb dX9_isInName_55 (by decide) ?_
  exact (db_X9_isInName_59 C K) (1) s0 _ _ _ h hP hD hS (lv_sub hl [] rfl)
set_option maxHeartbeats 40000000 in
set_option maxRecDepth 100000 in
theorem db_X9_isInName_36 {p : Program} {l : Launch} {e : Env} {s : State} {m : MethodId} {args : Array Value} {below : List Frame} {meth : Method} {c : Code} {Q : State → Prop} {A : Nat → Prop} {dC : Nat → ClassId} {dI : Nat → Nat → Nat} {a : Nat → Nat} {ac : Nat → ClassId} {n : Nat} {r : Int32 × (Unit)} (C : nd_C p l s m args c A (dC, dI) cX9_isInName 1 RX9 ow_dm_X9_isInName (dk_P ac)) (K : nd_Ki p l e (headSpec ow_dm_X9_isInName ({ frames := 0, cells := 0, slots := 0, locals := 0 })).room s m args below meth c Q A (dC, dI) cX9_isInName .boolean (Unit) (dw_P a ac) r) : dj_X9_isInName_36 p l e s m args below meth c Q A dC dI a ac (df_X9_isInName_36 n) r := by
  obtain ⟨hlt, hx, hb, hml, hown, hts, hN, hA, hK⟩ := id C
  intro x0 s0 H locs ls h hP hD hS hl
  unfold df_X9_isInName_36 at h
  refine lv_iload_n hx hb dX9_isInName_36 rfl (lv_at hl 0 rfl) ?_
  refine lv_bipush (v := 95) hx hb dX9_isInName_37 (by decide) ?_
  refine lv_icmp_eq (tgt := 54) hx hb dX9_isInName_39 (by decide) (fun c4 => ?_) (fun c4 => ?_)
  · have h := nd_pos h c4
    exact (db_X9_isInName_54 C K)  s0 _ _ _ h hP hD hS (lv_sub hl [] rfl)
  · have h := nd_neg h c4
    refine lv_iload_n hx hb dX9_isInName_42 rfl (lv_at hl 0 rfl) ?_
    refine lv_bipush (v := 46) hx hb dX9_isInName_43 (by decide) ?_
    refine lv_icmp_eq (tgt := 54) hx hb dX9_isInName_45 (by decide) (fun c6 => ?_) (fun c6 => ?_)
    · have h := nd_pos h c6
      exact (db_X9_isInName_54 C K)  s0 _ _ _ h hP hD hS (lv_sub hl [] rfl)
    · have h := nd_neg h c6
      refine lv_iload_n hx hb dX9_isInName_48 rfl (lv_at hl 0 rfl) ?_
      refine lv_bipush (v := 36) hx hb dX9_isInName_49 (by decide) ?_
      refine lv_icmp_ne (tgt := 58) hx hb dX9_isInName_51 (by decide) (fun c7 => ?_) (fun c7 => ?_)
      · have h := nd_neg h c7
        refine lv_iconst (v := 0) hx hb dX9_isInName_58 (by decide) ?_
        exact (db_X9_isInName_59 C K) (0) s0 _ _ _ h hP hD hS (lv_sub hl [] rfl)
      · have h := nd_pos h c7
        exact (db_X9_isInName_54 C K)  s0 _ _ _ h hP hD hS (lv_sub hl [] rfl)
set_option maxHeartbeats 40000000 in
set_option maxRecDepth 100000 in
theorem db_X9_isInName_24 {p : Program} {l : Launch} {e : Env} {s : State} {m : MethodId} {args : Array Value} {below : List Frame} {meth : Method} {c : Code} {Q : State → Prop} {A : Nat → Prop} {dC : Nat → ClassId} {dI : Nat → Nat → Nat} {a : Nat → Nat} {ac : Nat → ClassId} {n : Nat} {r : Int32 × (Unit)} (C : nd_C p l s m args c A (dC, dI) cX9_isInName 1 RX9 ow_dm_X9_isInName (dk_P ac)) (K : nd_Ki p l e (headSpec ow_dm_X9_isInName ({ frames := 0, cells := 0, slots := 0, locals := 0 })).room s m args below meth c Q A (dC, dI) cX9_isInName .boolean (Unit) (dw_P a ac) r) : dj_X9_isInName_24 p l e s m args below meth c Q A dC dI a ac (df_X9_isInName_24 n) r := by
  obtain ⟨hlt, hx, hb, hml, hown, hts, hN, hA, hK⟩ := id C
  intro x0 s0 H locs ls h hP hD hS hl
  unfold df_X9_isInName_24 at h
  refine lv_iload_n hx hb dX9_isInName_24 rfl (lv_at hl 0 rfl) ?_
  refine lv_bipush (v := 48) hx hb dX9_isInName_25 (by decide) ?_
  refine lv_icmp_lt (tgt := 36) hx hb dX9_isInName_27 (by decide) (fun c3 => ?_) (fun c3 => ?_)
  · have h := nd_pos h c3
    exact (db_X9_isInName_36 C K) (x0) s0 _ _ _ h hP hD hS (lv_sub hl [0] rfl)
  · have h := nd_neg h c3
    refine lv_iload_n hx hb dX9_isInName_30 rfl (lv_at hl 0 rfl) ?_
    refine lv_bipush (v := 57) hx hb dX9_isInName_31 (by decide) ?_
    refine lv_icmp_le (tgt := 54) hx hb dX9_isInName_33 (by decide) (fun c8 => ?_) (fun c8 => ?_)
    · have h := nd_pos h c8
      exact (db_X9_isInName_54 C K)  s0 _ _ _ h hP hD hS (lv_sub hl [] rfl)
    · have h := nd_neg h c8
      exact (db_X9_isInName_36 C K) (x0) s0 _ _ _ h hP hD hS (lv_sub hl [0] rfl)
set_option maxHeartbeats 40000000 in
set_option maxRecDepth 100000 in
theorem db_X9_isInName_12 {p : Program} {l : Launch} {e : Env} {s : State} {m : MethodId} {args : Array Value} {below : List Frame} {meth : Method} {c : Code} {Q : State → Prop} {A : Nat → Prop} {dC : Nat → ClassId} {dI : Nat → Nat → Nat} {a : Nat → Nat} {ac : Nat → ClassId} {n : Nat} {r : Int32 × (Unit)} (C : nd_C p l s m args c A (dC, dI) cX9_isInName 1 RX9 ow_dm_X9_isInName (dk_P ac)) (K : nd_Ki p l e (headSpec ow_dm_X9_isInName ({ frames := 0, cells := 0, slots := 0, locals := 0 })).room s m args below meth c Q A (dC, dI) cX9_isInName .boolean (Unit) (dw_P a ac) r) : dj_X9_isInName_12 p l e s m args below meth c Q A dC dI a ac (df_X9_isInName_12 n) r := by
  obtain ⟨hlt, hx, hb, hml, hown, hts, hN, hA, hK⟩ := id C
  intro x0 s0 H locs ls h hP hD hS hl
  unfold df_X9_isInName_12 at h
  refine lv_iload_n hx hb dX9_isInName_12 rfl (lv_at hl 0 rfl) ?_
  refine lv_bipush (v := 65) hx hb dX9_isInName_13 (by decide) ?_
  refine lv_icmp_lt (tgt := 24) hx hb dX9_isInName_15 (by decide) (fun c2 => ?_) (fun c2 => ?_)
  · have h := nd_pos h c2
    exact (db_X9_isInName_24 C K) (x0) s0 _ _ _ h hP hD hS (lv_sub hl [0] rfl)
  · have h := nd_neg h c2
    refine lv_iload_n hx hb dX9_isInName_18 rfl (lv_at hl 0 rfl) ?_
    refine lv_bipush (v := 90) hx hb dX9_isInName_19 (by decide) ?_
    refine lv_icmp_le (tgt := 54) hx hb dX9_isInName_21 (by decide) (fun c9 => ?_) (fun c9 => ?_)
    · have h := nd_pos h c9
      exact (db_X9_isInName_54 C K)  s0 _ _ _ h hP hD hS (lv_sub hl [] rfl)
    · have h := nd_neg h c9
      exact (db_X9_isInName_24 C K) (x0) s0 _ _ _ h hP hD hS (lv_sub hl [0] rfl)
set_option maxHeartbeats 40000000 in
set_option maxRecDepth 100000 in
theorem db_X9_isInName_0 {p : Program} {l : Launch} {e : Env} {s : State} {m : MethodId} {args : Array Value} {below : List Frame} {meth : Method} {c : Code} {Q : State → Prop} {A : Nat → Prop} {dC : Nat → ClassId} {dI : Nat → Nat → Nat} {a : Nat → Nat} {ac : Nat → ClassId} {n : Nat} {r : Int32 × (Unit)} (C : nd_C p l s m args c A (dC, dI) cX9_isInName 1 RX9 ow_dm_X9_isInName (dk_P ac)) (K : nd_Ki p l e (headSpec ow_dm_X9_isInName ({ frames := 0, cells := 0, slots := 0, locals := 0 })).room s m args below meth c Q A (dC, dI) cX9_isInName .boolean (Unit) (dw_P a ac) r) : dj_X9_isInName_0 p l e s m args below meth c Q A dC dI a ac (df_X9_isInName_0 n) r := by
  obtain ⟨hlt, hx, hb, hml, hown, hts, hN, hA, hK⟩ := id C
  intro v0 s0 H locs ls h hP hD hS hl
  unfold df_X9_isInName_0 at h
  refine lv_iload_n hx hb dX9_isInName_0 rfl (lv_at hl 0 rfl) ?_
  refine lv_bipush (v := 97) hx hb dX9_isInName_1 (by decide) ?_
  refine lv_icmp_lt (tgt := 12) hx hb dX9_isInName_3 (by decide) (fun c1 => ?_) (fun c1 => ?_)
  · have h := nd_pos h c1
    exact (db_X9_isInName_12 C K) (v0) s0 _ _ _ h hP hD hS (lv_sub hl [0] rfl)
  · have h := nd_neg h c1
    refine lv_iload_n hx hb dX9_isInName_6 rfl (lv_at hl 0 rfl) ?_
    refine lv_bipush (v := 122) hx hb dX9_isInName_7 (by decide) ?_
    refine lv_icmp_le (tgt := 54) hx hb dX9_isInName_9 (by decide) (fun c10 => ?_) (fun c10 => ?_)
    · have h := nd_pos h c10
      exact (db_X9_isInName_54 C K)  s0 _ _ _ h hP hD hS (lv_sub hl [] rfl)
    · have h := nd_neg h c10
      exact (db_X9_isInName_12 C K) (v0) s0 _ _ _ h hP hD hS (lv_sub hl [0] rfl)
set_option maxHeartbeats 40000000 in
set_option maxRecDepth 100000 in
theorem dm_X9_isInName (l : Launch) (hlt : l.stackTraces = false) (dC : Nat → ClassId) (dI : Nat → Nat → Nat) (a : Nat → Nat) (ac : Nat → ClassId) (n : Nat) (v0 : Int32) (s0 : Unit) {r : Int32 × (Unit)} (h : df_X9_isInName n v0 s0 = some r) (sz : Nat) : Met l yX9_isInName ow_dm_X9_isInName ({ frames := 0, cells := 0, slots := 0, locals := 0 }) (va_Pc [.int v0] (fun U => U.heap.size = sz ∧ va_P (dC, dI) vwCl (dw_P a ac s0) U.heap ∧ va_K (dC, dI) vwCl (dk_P ac) U ∧ va_D (fun _ => True) (dw_P a ac s0) ∧ nv_E (va_A (dw_P a ac s0) sz) U)) (va_Qi (fun x _ => x = r.1) (fun (_ : Unit) t => va_P (dC, dI) vwCl (dw_P a ac r.2) t.heap ∧ va_K (dC, dI) vwCl (dk_P ac) t ∧ va_D (va_A (dw_P a ac s0) sz) (dw_P a ac r.2)) (va_A (dw_P a ac s0) sz)) 0 0 (va_A (dw_P a ac s0) sz) := by
  refine Met.ofW (cc := cX9_isInName) (maxL := 1) (ret := (some .boolean)) (by decide) rfl ?_
  intro p e s m args below meth c s₁ B hml hv
  obtain ⟨rfl, hsz, hP, hK, hD0, hN⟩ := hv
  have hx := B.exec
  have hb := B.bytes
  have hr := B.returns
  have hts := atoms_spec (ws := ow_dm_X9_isInName) B.pre
  have hown : s.vm.findClass RX9 = some m.cls := findClass_of_methodNamed B.named
  have hlocks := B.notSynchronized
  subst hsz
  have hD := hD0.self (sz := s.heap.size)
  generalize hAe : va_A (dw_P a ac s0) s.heap.size = A at hD hN ⊢
  have hA : ∀ q : Nat, s.heap.size ≤ q → A q := fun q h => by rw [← hAe]; exact Or.inr h
  have hl := lv_entry ([.int v0]) (n := 1) (Nat.le_of_ble_eq_true rfl)
  rw [lg_entry_eq]
  generalize (lg_sl ([.int v0]) ++ List.replicate (1 - (lg_sl ([.int v0])).length) Slot.unset).toArray = ls at hl ⊢
  have hl : lv_has ls 1 [(0, .int v0)] := hl
  exact db_X9_isInName_0 (dC := dC) (dI := dI) (a := a) (ac := ac) (n := n) (r := r) ⟨hlt, hx, hb, hml, hown, hts, hN, hA, hK⟩ (fun pc v τ H locs ls d z er hP hD hS => by subst er; exact W.zret (v := v) hx hb hr z (fun t ht hW => ⟨⟨v, (), rfl, rfl, by rw [ht]; exact hP, va_K.moved hW.alike hK, hD⟩, hS.F ht⟩) hS.2.2 d) v0 s0 _ _ _ h hP hD va_S.rf (lv_sub hl [0] rfl)
def ow_dm_X9_readNumber : List Cond := .code yX9_readNumber cX9_readNumber 12 none :: ([.fieldLink RX9 55 "TimeMachine$Reader" "at" "I", .fieldLink RX9 70 "TimeMachine$Reader" "from" "I", .fieldLink RX9 73 "TimeMachine$Reader" "kind" "I", .fieldLink RX9 93 "TimeMachine$Reader" "number" "I", .fieldLink RX9 9 "TimeMachine$Reader" "source" "[B", .constantLong RX9 96 (4294967295)] ++ (u_ws RX9 TX9 20 ++ []))
theorem gd_dm_X9_readNumber : ∀ w ∈ ow_dm_X9_readNumber, (w.onTables && w.keeps) = true ∨ ∃ ty, w = Cond.arrayClass ty := List.forall_mem_cons.mpr ⟨good_of_word rfl, List.forall_mem_append.mpr ⟨fun w h => good_of_word (List.all_eq_true.mp (by decide +kernel) w h), List.forall_mem_append.mpr ⟨gu_X9, fun _ h => nomatch h⟩⟩⟩
theorem hi_dm_X9_readNumber_X9 : ∀ w ∈ u_ws RX9 TX9 20, w ∈ ow_dm_X9_readNumber := fun w h => List.mem_cons_of_mem _ (List.mem_append_right _ (List.mem_append_left _ h))
def dj_X9_readNumber_288 (p : Program) (l : Launch) (e : Env) (s : State) (m : MethodId) (args : Array Value) (below : List Frame) (meth : Method) (c : Code) (Q : State → Prop) (A : Nat → Prop) (dC : Nat → ClassId) (dI : Nat → Nat → Nat) (a : Nat → Nat) (ac : Nat → ClassId) (g : (St) → Option (St)) (r : St) : Prop := ∀ (s0 : St) (H : Heap) (locs : List Loc) (ls : Array Slot), g s0 = some r → va_P (dC, dI) vwCl (dw_X9 a ac s0) H → va_D A (dw_X9 a ac s0) → va_S A s.heap H locs → lv_has ls 12 [(0, .ref (a 0))] → W p l e (headSpec ow_dm_X9_readNumber ({ frames := 0, cells := 0, slots := 0, locals := 0 })).room s m args below meth c H locs 0 0 Q (F0 m 288 ls [])
def dj_X9_readNumber_255 (p : Program) (l : Launch) (e : Env) (s : State) (m : MethodId) (args : Array Value) (below : List Frame) (meth : Method) (c : Code) (Q : State → Prop) (A : Nat → Prop) (dC : Nat → ClassId) (dI : Nat → Nat → Nat) (a : Nat → Nat) (ac : Nat → ClassId) (g : Int32 → Int64 → Int32 → Int32 → (St) → Option (St)) (r : St) : Prop := ∀ (x5 : Int32) (x6 : Int64) (x8 : Int32) (x10 : Int32) (s0 : St) (H : Heap) (locs : List Loc) (ls : Array Slot), g x5 x6 x8 x10 s0 = some r → va_P (dC, dI) vwCl (dw_X9 a ac s0) H → va_D A (dw_X9 a ac s0) → va_S A s.heap H locs → lv_has ls 12 [(0, .ref (a 0)), (5, .int x5), (6, .long x6), (8, .int x8), (10, .int x10)] → W p l e (headSpec ow_dm_X9_readNumber ({ frames := 0, cells := 0, slots := 0, locals := 0 })).room s m args below meth c H locs 0 0 Q (F0 m 255 ls [])
def dj_X9_readNumber_253 (p : Program) (l : Launch) (e : Env) (s : State) (m : MethodId) (args : Array Value) (below : List Frame) (meth : Method) (c : Code) (Q : State → Prop) (A : Nat → Prop) (dC : Nat → ClassId) (dI : Nat → Nat → Nat) (a : Nat → Nat) (ac : Nat → ClassId) (g : Int32 → Int64 → Int32 → Int32 → (St) → Option (St)) (r : St) : Prop := ∀ (x5 : Int32) (x6 : Int64) (x8 : Int32) (y0 : Int32) (s0 : St) (H : Heap) (locs : List Loc) (ls : Array Slot), g x5 x6 x8 y0 s0 = some r → va_P (dC, dI) vwCl (dw_X9 a ac s0) H → va_D A (dw_X9 a ac s0) → va_S A s.heap H locs → lv_has ls 12 [(0, .ref (a 0)), (5, .int x5), (6, .long x6), (8, .int x8)] → W p l e (headSpec ow_dm_X9_readNumber ({ frames := 0, cells := 0, slots := 0, locals := 0 })).room s m args below meth c H locs 0 0 Q (F0 m 253 ls [.int y0])
def dj_X9_readNumber_251 (p : Program) (l : Launch) (e : Env) (s : State) (m : MethodId) (args : Array Value) (below : List Frame) (meth : Method) (c : Code) (Q : State → Prop) (A : Nat → Prop) (dC : Nat → ClassId) (dI : Nat → Nat → Nat) (a : Nat → Nat) (ac : Nat → ClassId) (g : Int32 → Int64 → Int32 → (St) → Option (St)) (r : St) : Prop := ∀ (x5 : Int32) (x6 : Int64) (x8 : Int32) (s0 : St) (H : Heap) (locs : List Loc) (ls : Array Slot), g x5 x6 x8 s0 = some r → va_P (dC, dI) vwCl (dw_X9 a ac s0) H → va_D A (dw_X9 a ac s0) → va_S A s.heap H locs → lv_has ls 12 [(0, .ref (a 0)), (5, .int x5), (6, .long x6), (8, .int x8)] → W p l e (headSpec ow_dm_X9_readNumber ({ frames := 0, cells := 0, slots := 0, locals := 0 })).room s m args below meth c H locs 0 0 Q (F0 m 251 ls [])
def dj_X9_readNumber_187 (p : Program) (l : Launch) (e : Env) (s : State) (m : MethodId) (args : Array Value) (below : List Frame) (meth : Method) (c : Code) (Q : State → Prop) (A : Nat → Prop) (dC : Nat → ClassId) (dI : Nat → Nat → Nat) (a : Nat → Nat) (ac : Nat → ClassId) (g : Int32 → Int64 → Int32 → (St) → Option (St)) (r : St) : Prop := ∀ (x5 : Int32) (x6 : Int64) (x8 : Int32) (s0 : St) (H : Heap) (locs : List Loc) (ls : Array Slot), g x5 x6 x8 s0 = some r → va_P (dC, dI) vwCl (dw_X9 a ac s0) H → va_D A (dw_X9 a ac s0) → va_S A s.heap H locs → lv_has ls 12 [(0, .ref (a 0)), (5, .int x5), (6, .long x6), (8, .int x8)] → W p l e (headSpec ow_dm_X9_readNumber ({ frames := 0, cells := 0, slots := 0, locals := 0 })).room s m args below meth c H locs 0 0 Q (F0 m 187 ls [])
def dj_X9_readNumber_185 (p : Program) (l : Launch) (e : Env) (s : State) (m : MethodId) (args : Array Value) (below : List Frame) (meth : Method) (c : Code) (Q : State → Prop) (A : Nat → Prop) (dC : Nat → ClassId) (dI : Nat → Nat → Nat) (a : Nat → Nat) (ac : Nat → ClassId) (g : Int32 → Int64 → Int32 → (St) → Option (St)) (r : St) : Prop := ∀ (x5 : Int32) (x6 : Int64) (y0 : Int32) (s0 : St) (H : Heap) (locs : List Loc) (ls : Array Slot), g x5 x6 y0 s0 = some r → va_P (dC, dI) vwCl (dw_X9 a ac s0) H → va_D A (dw_X9 a ac s0) → va_S A s.heap H locs → lv_has ls 12 [(0, .ref (a 0)), (5, .int x5), (6, .long x6)] → W p l e (headSpec ow_dm_X9_readNumber ({ frames := 0, cells := 0, slots := 0, locals := 0 })).room s m args below meth c H locs 0 0 Q (F0 m 185 ls [.int y0])
def dj_X9_readNumber_172 (p : Program) (l : Launch) (e : Env) (s : State) (m : MethodId) (args : Array Value) (below : List Frame) (meth : Method) (c : Code) (Q : State → Prop) (A : Nat → Prop) (dC : Nat → ClassId) (dI : Nat → Nat → Nat) (a : Nat → Nat) (ac : Nat → ClassId) (g : Int32 → Int64 → (St) → Option (St)) (r : St) : Prop := ∀ (x5 : Int32) (x6 : Int64) (s0 : St) (H : Heap) (locs : List Loc) (ls : Array Slot), g x5 x6 s0 = some r → va_P (dC, dI) vwCl (dw_X9 a ac s0) H → va_D A (dw_X9 a ac s0) → va_S A s.heap H locs → lv_has ls 12 [(0, .ref (a 0)), (5, .int x5), (6, .long x6)] → W p l e (headSpec ow_dm_X9_readNumber ({ frames := 0, cells := 0, slots := 0, locals := 0 })).room s m args below meth c H locs 0 0 Q (F0 m 172 ls [])
def dj_X9_readNumber_153 (p : Program) (l : Launch) (e : Env) (s : State) (m : MethodId) (args : Array Value) (below : List Frame) (meth : Method) (c : Code) (Q : State → Prop) (A : Nat → Prop) (dC : Nat → ClassId) (dI : Nat → Nat → Nat) (a : Nat → Nat) (ac : Nat → ClassId) (g : Int32 → Int32 → Int32 → (St) → Option (St)) (r : St) : Prop := ∀ (x3 : Int32) (x4 : Int32) (y0 : Int32) (s0 : St) (H : Heap) (locs : List Loc) (ls : Array Slot), g x3 x4 y0 s0 = some r → va_P (dC, dI) vwCl (dw_X9 a ac s0) H → va_D A (dw_X9 a ac s0) → va_S A s.heap H locs → lv_has ls 12 [(0, .ref (a 0)), (3, .int x3), (4, .int x4)] → W p l e (headSpec ow_dm_X9_readNumber ({ frames := 0, cells := 0, slots := 0, locals := 0 })).room s m args below meth c H locs 0 0 Q (F0 m 153 ls [.int y0])
def dj_X9_readNumber_131 (p : Program) (l : Launch) (e : Env) (s : State) (m : MethodId) (args : Array Value) (below : List Frame) (meth : Method) (c : Code) (Q : State → Prop) (A : Nat → Prop) (dC : Nat → ClassId) (dI : Nat → Nat → Nat) (a : Nat → Nat) (ac : Nat → ClassId) (g : Int32 → Int32 → (St) → Option (St)) (r : St) : Prop := ∀ (x3 : Int32) (y0 : Int32) (s0 : St) (H : Heap) (locs : List Loc) (ls : Array Slot), g x3 y0 s0 = some r → va_P (dC, dI) vwCl (dw_X9 a ac s0) H → va_D A (dw_X9 a ac s0) → va_S A s.heap H locs → lv_has ls 12 [(0, .ref (a 0)), (3, .int x3)] → W p l e (headSpec ow_dm_X9_readNumber ({ frames := 0, cells := 0, slots := 0, locals := 0 })).room s m args below meth c H locs 0 0 Q (F0 m 131 ls [.int y0])
def dj_X9_readNumber_130 (p : Program) (l : Launch) (e : Env) (s : State) (m : MethodId) (args : Array Value) (below : List Frame) (meth : Method) (c : Code) (Q : State → Prop) (A : Nat → Prop) (dC : Nat → ClassId) (dI : Nat → Nat → Nat) (a : Nat → Nat) (ac : Nat → ClassId) (g : Int32 → (St) → Option (St)) (r : St) : Prop := ∀ (x3 : Int32) (s0 : St) (H : Heap) (locs : List Loc) (ls : Array Slot), g x3 s0 = some r → va_P (dC, dI) vwCl (dw_X9 a ac s0) H → va_D A (dw_X9 a ac s0) → va_S A s.heap H locs → lv_has ls 12 [(0, .ref (a 0)), (3, .int x3)] → W p l e (headSpec ow_dm_X9_readNumber ({ frames := 0, cells := 0, slots := 0, locals := 0 })).room s m args below meth c H locs 0 0 Q (F0 m 130 ls [])
def dj_X9_readNumber_100 (p : Program) (l : Launch) (e : Env) (s : State) (m : MethodId) (args : Array Value) (below : List Frame) (meth : Method) (c : Code) (Q : State → Prop) (A : Nat → Prop) (dC : Nat → ClassId) (dI : Nat → Nat → Nat) (a : Nat → Nat) (ac : Nat → ClassId) (g : Int32 → Int32 → Int32 → (St) → Option (St)) (r : St) : Prop := ∀ (x1 : Int32) (x2 : Int32) (y0 : Int32) (s0 : St) (H : Heap) (locs : List Loc) (ls : Array Slot), g x1 x2 y0 s0 = some r → va_P (dC, dI) vwCl (dw_X9 a ac s0) H → va_D A (dw_X9 a ac s0) → va_S A s.heap H locs → lv_has ls 12 [(0, .ref (a 0)), (1, .int x1), (2, .int x2)] → W p l e (headSpec ow_dm_X9_readNumber ({ frames := 0, cells := 0, slots := 0, locals := 0 })).room s m args below meth c H locs 0 0 Q (F0 m 100 ls [.int y0])
def dj_X9_readNumber_99 (p : Program) (l : Launch) (e : Env) (s : State) (m : MethodId) (args : Array Value) (below : List Frame) (meth : Method) (c : Code) (Q : State → Prop) (A : Nat → Prop) (dC : Nat → ClassId) (dI : Nat → Nat → Nat) (a : Nat → Nat) (ac : Nat → ClassId) (g : Int32 → Int32 → (St) → Option (St)) (r : St) : Prop := ∀ (x1 : Int32) (x2 : Int32) (s0 : St) (H : Heap) (locs : List Loc) (ls : Array Slot), g x1 x2 s0 = some r → va_P (dC, dI) vwCl (dw_X9 a ac s0) H → va_D A (dw_X9 a ac s0) → va_S A s.heap H locs → lv_has ls 12 [(0, .ref (a 0)), (1, .int x1), (2, .int x2)] → W p l e (headSpec ow_dm_X9_readNumber ({ frames := 0, cells := 0, slots := 0, locals := 0 })).room s m args below meth c H locs 0 0 Q (F0 m 99 ls [])
def dj_X9_readNumber_70 (p : Program) (l : Launch) (e : Env) (s : State) (m : MethodId) (args : Array Value) (below : List Frame) (meth : Method) (c : Code) (Q : State → Prop) (A : Nat → Prop) (dC : Nat → ClassId) (dI : Nat → Nat → Nat) (a : Nat → Nat) (ac : Nat → ClassId) (g : Int32 → Int32 → (St) → Option (St)) (r : St) : Prop := ∀ (x1 : Int32) (x2 : Int32) (s0 : St) (H : Heap) (locs : List Loc) (ls : Array Slot), g x1 x2 s0 = some r → va_P (dC, dI) vwCl (dw_X9 a ac s0) H → va_D A (dw_X9 a ac s0) → va_S A s.heap H locs → lv_has ls 12 [(0, .ref (a 0)), (1, .int x1), (2, .int x2)] → W p l e (headSpec ow_dm_X9_readNumber ({ frames := 0, cells := 0, slots := 0, locals := 0 })).room s m args below meth c H locs 0 0 Q (F0 m 70 ls [])
def dj_X9_readNumber_48 (p : Program) (l : Launch) (e : Env) (s : State) (m : MethodId) (args : Array Value) (below : List Frame) (meth : Method) (c : Code) (Q : State → Prop) (A : Nat → Prop) (dC : Nat → ClassId) (dI : Nat → Nat → Nat) (a : Nat → Nat) (ac : Nat → ClassId) (g : (St) → Option (St)) (r : St) : Prop := ∀ (s0 : St) (H : Heap) (locs : List Loc) (ls : Array Slot), g s0 = some r → va_P (dC, dI) vwCl (dw_X9 a ac s0) H → va_D A (dw_X9 a ac s0) → va_S A s.heap H locs → lv_has ls 12 [(0, .ref (a 0))] → W p l e (headSpec ow_dm_X9_readNumber ({ frames := 0, cells := 0, slots := 0, locals := 0 })).room s m args below meth c H locs 0 0 Q (F0 m 48 ls [])
def dj_X9_readNumber_30 (p : Program) (l : Launch) (e : Env) (s : State) (m : MethodId) (args : Array Value) (below : List Frame) (meth : Method) (c : Code) (Q : State → Prop) (A : Nat → Prop) (dC : Nat → ClassId) (dI : Nat → Nat → Nat) (a : Nat → Nat) (ac : Nat → ClassId) (g : Int32 → Int32 → (St) → Option (St)) (r : St) : Prop := ∀ (x1 : Int32) (y0 : Int32) (s0 : St) (H : Heap) (locs : List Loc) (ls : Array Slot), g x1 y0 s0 = some r → va_P (dC, dI) vwCl (dw_X9 a ac s0) H → va_D A (dw_X9 a ac s0) → va_S A s.heap H locs → lv_has ls 12 [(0, .ref (a 0)), (1, .int x1)] → W p l e (headSpec ow_dm_X9_readNumber ({ frames := 0, cells := 0, slots := 0, locals := 0 })).room s m args below meth c H locs 0 0 Q (F0 m 30 ls [.int y0])
def dj_X9_readNumber_0 (p : Program) (l : Launch) (e : Env) (s : State) (m : MethodId) (args : Array Value) (below : List Frame) (meth : Method) (c : Code) (Q : State → Prop) (A : Nat → Prop) (dC : Nat → ClassId) (dI : Nat → Nat → Nat) (a : Nat → Nat) (ac : Nat → ClassId) (g : (St) → Option (St)) (r : St) : Prop := ∀ (s0 : St) (H : Heap) (locs : List Loc) (ls : Array Slot), g s0 = some r → va_P (dC, dI) vwCl (dw_X9 a ac s0) H → va_D A (dw_X9 a ac s0) → va_S A s.heap H locs → lv_has ls 12 [(0, .ref (a 0))] → W p l e (headSpec ow_dm_X9_readNumber ({ frames := 0, cells := 0, slots := 0, locals := 0 })).room s m args below meth c H locs 0 0 Q (F0 m 0 ls [])
set_option maxHeartbeats 40000000 in
set_option maxRecDepth 100000 in
theorem db_X9_readNumber_288 {p : Program} {l : Launch} {e : Env} {s : State} {m : MethodId} {args : Array Value} {below : List Frame} {meth : Method} {c : Code} {Q : State → Prop} {A : Nat → Prop} {dC : Nat → ClassId} {dI : Nat → Nat → Nat} {a : Nat → Nat} {ac : Nat → ClassId} {n : Nat} {r : St} (C : nd_C p l s m args c A (dC, dI) cX9_readNumber 12 RX9 ow_dm_X9_readNumber (dk_X9 ac)) (K : nd_Kv p l e (headSpec ow_dm_X9_readNumber ({ frames := 0, cells := 0, slots := 0, locals := 0 })).room s m args below meth c Q A (dC, dI) cX9_readNumber (St) (dw_X9 a ac) r) : dj_X9_readNumber_288 p l e s m args below meth c Q A dC dI a ac (df_X9_readNumber_288 n) r := by
  obtain ⟨hlt, hx, hb, hml, hown, hts, hN, hA, hK⟩ := id C
  intro s0 H locs ls h hP hD hS hl
  unfold df_X9_readNumber_288 at h
  refine lv_aload_n hx hb dX9_readNumber_288 rfl (lv_at hl 0 rfl) ?_
  refine lv_bipush (v := 6) hx hb dX9_readNumber_289 (by decide) ?_
  refine va_put (D := (dC, dI)) (ci := 10) (v := .int 6) (ty := .int) (C := RX9) (T := TX9) (N := 20) hx hb hts hi_dm_X9_readNumber_X9 tyX9 tyX9_ok nmX9 hown hK hP hD hS 0 rfl rfl 3 (by decide) (hts (.fieldLink RX9 73 "TimeMachine$Reader" "kind" "I") (List.mem_of_getElem? (i := 3) rfl)) (fun _ h9 => h9) rfl (by decide +kernel) rfl rfl (Nat.le_of_ble_eq_true rfl) dX9_readNumber_291 (fun H locs hP hD hS => ?_)
  obtain ⟨s19, es19, h⟩ := nd_let_e h
  have hP : va_P (dC, dI) vwCl (dw_X9 a ac s19) H := by rw [es19]; exact hP
  have hD : va_D A (dw_X9 a ac s19) := by rw [es19]; exact hD
  exact K _ _ _ _ _ dX9_readNumber_294 (Option.some.inj h).symm hP hD hS
set_option maxHeartbeats 40000000 in
set_option maxRecDepth 100000 in
theorem db_X9_readNumber_255 {p : Program} {l : Launch} {e : Env} {s : State} {m : MethodId} {args : Array Value} {below : List Frame} {meth : Method} {c : Code} {Q : State → Prop} {A : Nat → Prop} {dC : Nat → ClassId} {dI : Nat → Nat → Nat} {a : Nat → Nat} {ac : Nat → ClassId} {n : Nat} {r : St} (C : nd_C p l s m args c A (dC, dI) cX9_readNumber 12 RX9 ow_dm_X9_readNumber (dk_X9 ac)) (K : nd_Kv p l e (headSpec ow_dm_X9_readNumber ({ frames := 0, cells := 0, slots := 0, locals := 0 })).room s m args below meth c Q A (dC, dI) cX9_readNumber (St) (dw_X9 a ac) r) {g187 : Int32 → Int64 → Int32 → (St) → Option (St)} (J187 : dj_X9_readNumber_187 p l e s m args below meth c Q A dC dI a ac g187 r) : dj_X9_readNumber_255 p l e s m args below meth c Q A dC dI a ac (df_X9_readNumber_255 n g187) r := by
  obtain ⟨hlt, hx, hb, hml, hown, hts, hN, hA, hK⟩ := id C
  intro x5 x6 x8 x10 s0 H locs ls h hP hD hS hl
  unfold df_X9_readNumber_255 at h
  refine lv_lload hx hb dX9_readNumber_255 (lv_at hl 2 rfl) ?_
  refine lv_iload hx hb dX9_readNumber_257 (lv_at hl 1 rfl) ?_
  refine lv_i2l hx hb dX9_readNumber_259 rfl ?_
  refine lv_lmul hx hb dX9_readNumber_260 ?_
  refine lv_iload hx hb dX9_readNumber_261 (lv_at hl 4 rfl) ?_
  refine lv_i2l hx hb dX9_readNumber_263 rfl ?_
  refine lv_ladd hx hb dX9_readNumber_264 ?_
  refine lv_topl (fun z17 ez17 => ?_)
  have h := nd_at h ez17
  refine lv_lstore (lv' := [(6, .long z17), (0, .ref (a 0)), (5, .int x5), (8, .int x8), (10, .int x10)]) hx hb dX9_readNumber_265 hl (by decide) rfl (fun ls hl => ?_)
  refine lv_iload hx hb dX9_readNumber_267 (lv_at hl 4 rfl) ?_
  refine lv_if_lt (tgt := 288) hx hb dX9_readNumber_269 (by decide) (fun c18 => ?_) (fun c18 => ?_)
  · have h := nd_pos h c18
    exact (db_X9_readNumber_288 C K)  s0 _ _ _ h hP hD hS (lv_sub hl [1] rfl)
  · have h := nd_neg h c18
    refine lv_iload hx hb dX9_readNumber_272 (lv_at hl 4 rfl) ?_
    refine lv_iload hx hb dX9_readNumber_274 (lv_at hl 2 rfl) ?_
    refine lv_icmp_ge (tgt := 288) hx hb dX9_readNumber_276 (by decide) (fun c20 => ?_) (fun c20 => ?_)
    · have h := nd_pos h c20
      exact (db_X9_readNumber_288 C K)  s0 _ _ _ h hP hD hS (lv_sub hl [1] rfl)
    · have h := nd_neg h c20
      refine lv_lload hx hb dX9_readNumber_279 (lv_at hl 0 rfl) ?_
      refine lv_ldc2 hx hb hown (hts (.constantLong RX9 96 (4294967295)) (List.mem_of_getElem? (i := 6) rfl)) dX9_readNumber_281 ?_
      refine W.lcmp hx hb dX9_readNumber_284 ?_
      refine lv_if_le (tgt := 295) hx hb dX9_readNumber_285 (by decide) (fun c21 => ?_) (fun c21 => ?_)
      · have h := nd_pos h c21
        obtain ⟨z22, ez22, h⟩ := nd_let_e h
        refine lv_iinc (v := z22) (lv' := [(8, .int z22), (6, .long z17), (0, .ref (a 0)), (5, .int x5), (10, .int x10)]) hx hb dX9_readNumber_295 hl (k := 3) rfl (by rw [ez22]) (by decide) rfl (fun ls hl => ?_)
        refine lv_goto (tgt := 187) hx hb dX9_readNumber_298 (by decide) ?_
        exact (J187) (x5) (z17) (z22) s0 _ _ _ h hP hD hS (lv_sub hl [2, 3, 1, 0] rfl)
      · have h := nd_neg h c21
        exact (db_X9_readNumber_288 C K)  s0 _ _ _ h hP hD hS (lv_sub hl [1] rfl)
set_option maxHeartbeats 40000000 in
set_option maxRecDepth 100000 in
theorem db_X9_readNumber_253 {p : Program} {l : Launch} {e : Env} {s : State} {m : MethodId} {args : Array Value} {below : List Frame} {meth : Method} {c : Code} {Q : State → Prop} {A : Nat → Prop} {dC : Nat → ClassId} {dI : Nat → Nat → Nat} {a : Nat → Nat} {ac : Nat → ClassId} {n : Nat} {r : St} (C : nd_C p l s m args c A (dC, dI) cX9_readNumber 12 RX9 ow_dm_X9_readNumber (dk_X9 ac)) (K : nd_Kv p l e (headSpec ow_dm_X9_readNumber ({ frames := 0, cells := 0, slots := 0, locals := 0 })).room s m args below meth c Q A (dC, dI) cX9_readNumber (St) (dw_X9 a ac) r) {g187 : Int32 → Int64 → Int32 → (St) → Option (St)} (J187 : dj_X9_readNumber_187 p l e s m args below meth c Q A dC dI a ac g187 r) : dj_X9_readNumber_253 p l e s m args below meth c Q A dC dI a ac (df_X9_readNumber_253 n g187) r := by
  obtain ⟨hlt, hx, hb, hml, hown, hts, hN, hA, hK⟩ := id C
  intro x5 x6 x8 y0 s0 H locs ls h hP hD hS hl
  unfold df_X9_readNumber_253 at h
  refine lv_istore (lv' := [(10, .int y0), (0, .ref (a 0)), (5, .int x5), (6, .long x6), (8, .int x8)]) hx hb dX9_readNumber_253 hl (by decide) rfl (fun ls hl => ?_)
  exact (db_X9_readNumber_255 C K J187) (x5) (x6) (x8) (y0) s0 _ _ _ h hP hD hS (lv_sub hl [1, 2, 3, 4, 0] rfl)
set_option maxHeartbeats 40000000 in
set_option maxRecDepth 100000 in
theorem db_X9_readNumber_251 {p : Program} {l : Launch} {e : Env} {s : State} {m : MethodId} {args : Array Value} {below : List Frame} {meth : Method} {c : Code} {Q : State → Prop} {A : Nat → Prop} {dC : Nat → ClassId} {dI : Nat → Nat → Nat} {a : Nat → Nat} {ac : Nat → ClassId} {n : Nat} {r : St} (C : nd_C p l s m args c A (dC, dI) cX9_readNumber 12 RX9 ow_dm_X9_readNumber (dk_X9 ac)) (K : nd_Kv p l e (headSpec ow_dm_X9_readNumber ({ frames := 0, cells := 0, slots := 0, locals := 0 })).room s m args below meth c Q A (dC, dI) cX9_readNumber (St) (dw_X9 a ac) r) {g187 : Int32 → Int64 → Int32 → (St) → Option (St)} (J187 : dj_X9_readNumber_187 p l e s m args below meth c Q A dC dI a ac g187 r) : dj_X9_readNumber_251 p l e s m args below meth c Q A dC dI a ac (df_X9_readNumber_251 n g187) r := by
  obtain ⟨hlt, hx, hb, hml, hown, hts, hN, hA, hK⟩ := id C
  intro x5 x6 x8 s0 H locs ls h hP hD hS hl
  unfold df_X9_readNumber_251 at h
  refine lv_iload hx hb dX9_readNumber_251 (lv_at hl 1 rfl) ?_
  exact (db_X9_readNumber_253 C K J187) (x5) (x6) (x8) (x5) s0 _ _ _ h hP hD hS (lv_sub hl [0, 1, 2, 3] rfl)
set_option maxHeartbeats 40000000 in
set_option maxRecDepth 100000 in
theorem dB_X9_readNumber_187 {p : Program} {l : Launch} {e : Env} {s : State} {m : MethodId} {args : Array Value} {below : List Frame} {meth : Method} {c : Code} {Q : State → Prop} {A : Nat → Prop} {dC : Nat → ClassId} {dI : Nat → Nat → Nat} {a : Nat → Nat} {ac : Nat → ClassId} {n : Nat} {r : St} (C : nd_C p l s m args c A (dC, dI) cX9_readNumber 12 RX9 ow_dm_X9_readNumber (dk_X9 ac)) (K : nd_Kv p l e (headSpec ow_dm_X9_readNumber ({ frames := 0, cells := 0, slots := 0, locals := 0 })).room s m args below meth c Q A (dC, dI) cX9_readNumber (St) (dw_X9 a ac) r) {g187 : Int32 → Int64 → Int32 → (St) → Option (St)} (J187 : dj_X9_readNumber_187 p l e s m args below meth c Q A dC dI a ac g187 r) : dj_X9_readNumber_187 p l e s m args below meth c Q A dC dI a ac (dF_X9_readNumber_187 n g187) r := by
  obtain ⟨hlt, hx, hb, hml, hown, hts, hN, hA, hK⟩ := id C
  intro x5 x6 x8 s0 H locs ls h hP hD hS hl
  unfold dF_X9_readNumber_187 at h
  refine lv_iload hx hb dX9_readNumber_187 (lv_at hl 3 rfl) ?_
  refine lv_aload_n hx hb dX9_readNumber_189 rfl (lv_at hl 0 rfl) ?_
  refine va_get (D := (dC, dI)) (ci := 10) (v := .int (sI s0 0)) (C := RX9) (T := TX9) (N := 20) hx hb hts hi_dm_X9_readNumber_X9 hown hK hP 0 rfl rfl 1 (by decide) (hts (.fieldLink RX9 55 "TimeMachine$Reader" "at" "I") (List.mem_of_getElem? (i := 1) rfl)) (fun _ h9 => h9) rfl dX9_readNumber_190 ?_
  refine lv_icmp_ge (tgt := 301) hx hb dX9_readNumber_193 (by decide) (fun c10 => ?_) (fun c10 => ?_)
  · have h := nd_pos h c10
    refine lv_aload_n hx hb dX9_readNumber_301 rfl (lv_at hl 0 rfl) ?_
    refine lv_lload hx hb dX9_readNumber_302 (lv_at hl 2 rfl) ?_
    refine lv_l2i hx hb dX9_readNumber_304 rfl ?_
    refine va_put (D := (dC, dI)) (ci := 10) (v := .int (x6.toInt32)) (ty := .int) (C := RX9) (T := TX9) (N := 20) hx hb hts hi_dm_X9_readNumber_X9 tyX9 tyX9_ok nmX9 hown hK hP hD hS 0 rfl rfl 5 (by decide) (hts (.fieldLink RX9 93 "TimeMachine$Reader" "number" "I") (List.mem_of_getElem? (i := 4) rfl)) (fun _ h9 => h9) rfl (by decide +kernel) rfl rfl (Nat.le_of_ble_eq_true rfl) dX9_readNumber_305 (fun H locs hP hD hS => ?_)
    obtain ⟨s11, es11, h⟩ := nd_let_e h
    have hP : va_P (dC, dI) vwCl (dw_X9 a ac s11) H := by rw [es11]; exact hP
    have hD : va_D A (dw_X9 a ac s11) := by rw [es11]; exact hD
    exact K _ _ _ _ _ dX9_readNumber_308 (Option.some.inj h).symm hP hD hS
  · have h := nd_neg h c10
    refine lv_aload_n hx hb dX9_readNumber_196 rfl (lv_at hl 0 rfl) ?_
    obtain ⟨o12, h⟩ := nd_o_e h
    refine va_get (D := (dC, dI)) (ci := 10) (v := .ref (a 8)) (C := RX9) (T := TX9) (N := 20) hx hb hts hi_dm_X9_readNumber_X9 hown hK hP 0 rfl rfl 0 (by decide) (hts (.fieldLink RX9 9 "TimeMachine$Reader" "source" "[B") (List.mem_of_getElem? (i := 5) rfl)) (fun _ h9 => h9) (congrArg (fun z => some (va_rf (Option.map a z))) o12) dX9_readNumber_197 ?_
    refine lv_iload hx hb dX9_readNumber_200 (lv_at hl 3 rfl) ?_
    obtain ⟨i13, h⟩ := nd_ck_e h
    refine va_bald (i := x8) hx hb hK hP 8 7 rfl rfl i13 dX9_readNumber_202 ?_
    refine lv_topi (fun z14 ez14 => ?_)
    have h := nd_at h ez14
    refine lv_istore (lv' := [(9, .int z14), (0, .ref (a 0)), (5, .int x5), (6, .long x6), (8, .int x8)]) hx hb dX9_readNumber_203 hl (by decide) rfl (fun ls hl => ?_)
    refine lv_iload hx hb dX9_readNumber_205 (lv_at hl 0 rfl) ?_
    refine lv_bipush (v := 48) hx hb dX9_readNumber_207 (by decide) ?_
    refine lv_isub hx hb dX9_readNumber_209 ?_
    refine lv_topi (fun z15 ez15 => ?_)
    have h := nd_at h ez15
    refine lv_istore (lv' := [(10, .int z15), (9, .int z14), (0, .ref (a 0)), (5, .int x5), (6, .long x6), (8, .int x8)]) hx hb dX9_readNumber_210 hl (by decide) rfl (fun ls hl => ?_)
    refine lv_iload hx hb dX9_readNumber_212 (lv_at hl 1 rfl) ?_
    refine lv_bipush (v := 57) hx hb dX9_readNumber_214 (by decide) ?_
    refine lv_icmp_le (tgt := 255) hx hb dX9_readNumber_216 (by decide) (fun c16 => ?_) (fun c16 => ?_)
    · have h := nd_pos h c16
      exact (db_X9_readNumber_255 C K J187) (x5) (x6) (x8) (z15) s0 _ _ _ h hP hD hS (lv_sub hl [2, 3, 4, 5, 0] rfl)
    · have h := nd_neg h c16
      refine lv_iload hx hb dX9_readNumber_219 (lv_at hl 1 rfl) ?_
      refine lv_bipush (v := 32) hx hb dX9_readNumber_221 (by decide) ?_
      refine lv_ior hx hb dX9_readNumber_223 ?_
      refine lv_topi (fun z23 ez23 => ?_)
      have h := nd_at h ez23
      refine lv_istore (lv' := [(11, .int z23), (10, .int z15), (9, .int z14), (0, .ref (a 0)), (5, .int x5), (6, .long x6), (8, .int x8)]) hx hb dX9_readNumber_224 hl (by decide) rfl (fun ls hl => ?_)
      refine lv_iload hx hb dX9_readNumber_226 (lv_at hl 0 rfl) ?_
      refine lv_bipush (v := 97) hx hb dX9_readNumber_228 (by decide) ?_
      refine lv_icmp_lt (tgt := 251) hx hb dX9_readNumber_230 (by decide) (fun c24 => ?_) (fun c24 => ?_)
      · have h := nd_pos h c24
        exact (db_X9_readNumber_251 C K J187) (x5) (x6) (x8) s0 _ _ _ h hP hD hS (lv_sub hl [3, 4, 5, 6] rfl)
      · have h := nd_neg h c24
        refine lv_iload hx hb dX9_readNumber_233 (lv_at hl 0 rfl) ?_
        refine lv_bipush (v := 102) hx hb dX9_readNumber_235 (by decide) ?_
        refine lv_icmp_gt (tgt := 251) hx hb dX9_readNumber_237 (by decide) (fun c25 => ?_) (fun c25 => ?_)
        · have h := nd_pos h c25
          exact (db_X9_readNumber_251 C K J187) (x5) (x6) (x8) s0 _ _ _ h hP hD hS (lv_sub hl [3, 4, 5, 6] rfl)
        · have h := nd_neg h c25
          refine lv_iload hx hb dX9_readNumber_240 (lv_at hl 0 rfl) ?_
          refine lv_bipush (v := 97) hx hb dX9_readNumber_242 (by decide) ?_
          refine lv_isub hx hb dX9_readNumber_244 ?_
          refine lv_bipush (v := 10) hx hb dX9_readNumber_245 (by decide) ?_
          refine lv_iadd hx hb dX9_readNumber_247 ?_
          refine lv_goto (tgt := 253) hx hb dX9_readNumber_248 (by decide) ?_
          exact (db_X9_readNumber_253 C K J187) (x5) (x6) (x8) (((z23 - 97) + 10)) s0 _ _ _ h hP hD hS (lv_sub hl [3, 4, 5, 6] rfl)
set_option maxHeartbeats 40000000 in
set_option maxRecDepth 100000 in
theorem db_X9_readNumber_187 {p : Program} {l : Launch} {e : Env} {s : State} {m : MethodId} {args : Array Value} {below : List Frame} {meth : Method} {c : Code} {Q : State → Prop} {A : Nat → Prop} {dC : Nat → ClassId} {dI : Nat → Nat → Nat} {a : Nat → Nat} {ac : Nat → ClassId} {n : Nat} {r : St} (C : nd_C p l s m args c A (dC, dI) cX9_readNumber 12 RX9 ow_dm_X9_readNumber (dk_X9 ac)) (K : nd_Kv p l e (headSpec ow_dm_X9_readNumber ({ frames := 0, cells := 0, slots := 0, locals := 0 })).room s m args below meth c Q A (dC, dI) cX9_readNumber (St) (dw_X9 a ac) r) (k : Nat) : dj_X9_readNumber_187 p l e s m args below meth c Q A dC dI a ac (df_X9_readNumber_187 n k) r := by
  induction k with
  | zero => intro x5 x6 x8 s0 H locs ls h; exact nomatch (show (none : Option (St)) = some r from h)
  | succ k ih => exact dB_X9_readNumber_187 C K ih
set_option maxHeartbeats 40000000 in
set_option maxRecDepth 100000 in
theorem db_X9_readNumber_185 {p : Program} {l : Launch} {e : Env} {s : State} {m : MethodId} {args : Array Value} {below : List Frame} {meth : Method} {c : Code} {Q : State → Prop} {A : Nat → Prop} {dC : Nat → ClassId} {dI : Nat → Nat → Nat} {a : Nat → Nat} {ac : Nat → ClassId} {n : Nat} {r : St} (C : nd_C p l s m args c A (dC, dI) cX9_readNumber 12 RX9 ow_dm_X9_readNumber (dk_X9 ac)) (K : nd_Kv p l e (headSpec ow_dm_X9_readNumber ({ frames := 0, cells := 0, slots := 0, locals := 0 })).room s m args below meth c Q A (dC, dI) cX9_readNumber (St) (dw_X9 a ac) r) : dj_X9_readNumber_185 p l e s m args below meth c Q A dC dI a ac (df_X9_readNumber_185 n) r := by
  obtain ⟨hlt, hx, hb, hml, hown, hts, hN, hA, hK⟩ := id C
  intro x5 x6 y0 s0 H locs ls h hP hD hS hl
  unfold df_X9_readNumber_185 at h
  refine lv_istore (lv' := [(8, .int y0), (0, .ref (a 0)), (5, .int x5), (6, .long x6)]) hx hb dX9_readNumber_185 hl (by decide) rfl (fun ls hl => ?_)
  exact (db_X9_readNumber_187 C K n) (x5) (x6) (y0) s0 _ _ _ h hP hD hS (lv_sub hl [1, 2, 3, 0] rfl)
set_option maxHeartbeats 40000000 in
set_option maxRecDepth 100000 in
theorem db_X9_readNumber_172 {p : Program} {l : Launch} {e : Env} {s : State} {m : MethodId} {args : Array Value} {below : List Frame} {meth : Method} {c : Code} {Q : State → Prop} {A : Nat → Prop} {dC : Nat → ClassId} {dI : Nat → Nat → Nat} {a : Nat → Nat} {ac : Nat → ClassId} {n : Nat} {r : St} (C : nd_C p l s m args c A (dC, dI) cX9_readNumber 12 RX9 ow_dm_X9_readNumber (dk_X9 ac)) (K : nd_Kv p l e (headSpec ow_dm_X9_readNumber ({ frames := 0, cells := 0, slots := 0, locals := 0 })).room s m args below meth c Q A (dC, dI) cX9_readNumber (St) (dw_X9 a ac) r) : dj_X9_readNumber_172 p l e s m args below meth c Q A dC dI a ac (df_X9_readNumber_172 n) r := by
  obtain ⟨hlt, hx, hb, hml, hown, hts, hN, hA, hK⟩ := id C
  intro x5 x6 s0 H locs ls h hP hD hS hl
  unfold df_X9_readNumber_172 at h
  refine lv_aload_n hx hb dX9_readNumber_172 rfl (lv_at hl 0 rfl) ?_
  refine va_get (D := (dC, dI)) (ci := 10) (v := .int (sI s0 3)) (C := RX9) (T := TX9) (N := 20) hx hb hts hi_dm_X9_readNumber_X9 hown hK hP 0 rfl rfl 4 (by decide) (hts (.fieldLink RX9 70 "TimeMachine$Reader" "from" "I") (List.mem_of_getElem? (i := 2) rfl)) (fun _ h9 => h9) rfl dX9_readNumber_173 ?_
  refine lv_iconst (v := 2) hx hb dX9_readNumber_176 (by decide) ?_
  refine lv_iadd hx hb dX9_readNumber_177 ?_
  refine lv_goto (tgt := 185) hx hb dX9_readNumber_178 (by decide) ?_
  exact (db_X9_readNumber_185 C K) (x5) (x6) (((sI s0 3) + 2)) s0 _ _ _ h hP hD hS (lv_sub hl [0, 1, 2] rfl)
set_option maxHeartbeats 40000000 in
set_option maxRecDepth 100000 in
theorem db_X9_readNumber_153 {p : Program} {l : Launch} {e : Env} {s : State} {m : MethodId} {args : Array Value} {below : List Frame} {meth : Method} {c : Code} {Q : State → Prop} {A : Nat → Prop} {dC : Nat → ClassId} {dI : Nat → Nat → Nat} {a : Nat → Nat} {ac : Nat → ClassId} {n : Nat} {r : St} (C : nd_C p l s m args c A (dC, dI) cX9_readNumber 12 RX9 ow_dm_X9_readNumber (dk_X9 ac)) (K : nd_Kv p l e (headSpec ow_dm_X9_readNumber ({ frames := 0, cells := 0, slots := 0, locals := 0 })).room s m args below meth c Q A (dC, dI) cX9_readNumber (St) (dw_X9 a ac) r) : dj_X9_readNumber_153 p l e s m args below meth c Q A dC dI a ac (df_X9_readNumber_153 n) r := by
  obtain ⟨hlt, hx, hb, hml, hown, hts, hN, hA, hK⟩ := id C
  intro x3 x4 y0 s0 H locs ls h hP hD hS hl
  unfold df_X9_readNumber_153 at h
  refine lv_istore (lv' := [(5, .int y0), (0, .ref (a 0)), (3, .int x3), (4, .int x4)]) hx hb dX9_readNumber_153 hl (by decide) rfl (fun ls hl => ?_)
  refine lv_lconst (v := 0) hx hb dX9_readNumber_155 (by decide) ?_
  refine lv_lstore (lv' := [(6, .long 0), (5, .int y0), (0, .ref (a 0)), (3, .int x3), (4, .int x4)]) hx hb dX9_readNumber_156 hl (by decide) rfl (fun ls hl => ?_)
  refine lv_aload_n hx hb dX9_readNumber_158 rfl (lv_at hl 2 rfl) ?_
  refine lv_iconst (v := 2) hx hb dX9_readNumber_159 (by decide) ?_
  refine va_put (D := (dC, dI)) (ci := 10) (v := .int 2) (ty := .int) (C := RX9) (T := TX9) (N := 20) hx hb hts hi_dm_X9_readNumber_X9 tyX9 tyX9_ok nmX9 hown hK hP hD hS 0 rfl rfl 3 (by decide) (hts (.fieldLink RX9 73 "TimeMachine$Reader" "kind" "I") (List.mem_of_getElem? (i := 3) rfl)) (fun _ h9 => h9) rfl (by decide +kernel) rfl rfl (Nat.le_of_ble_eq_true rfl) dX9_readNumber_160 (fun H locs hP hD hS => ?_)
  obtain ⟨s8, es8, h⟩ := nd_let_e h
  have hP : va_P (dC, dI) vwCl (dw_X9 a ac s8) H := by rw [es8]; exact hP
  have hD : va_D A (dw_X9 a ac s8) := by rw [es8]; exact hD
  refine lv_iload_n hx hb dX9_readNumber_163 rfl (lv_at hl 3 rfl) ?_
  refine lv_if_ne (tgt := 172) hx hb dX9_readNumber_164 (by decide) (fun c9 => ?_) (fun c9 => ?_)
  · have h := nd_neg h c9
    exact (db_X9_readNumber_172 C K) (y0) (0) s8 _ _ _ h hP hD hS (lv_sub hl [2, 1, 0] rfl)
  · have h := nd_pos h c9
    refine lv_iload hx hb dX9_readNumber_167 (lv_at hl 4 rfl) ?_
    refine lv_if_eq (tgt := 181) hx hb dX9_readNumber_169 (by decide) (fun c26 => ?_) (fun c26 => ?_)
    · have h := nd_pos h c26
      refine lv_aload_n hx hb dX9_readNumber_181 rfl (lv_at hl 2 rfl) ?_
      refine va_get (D := (dC, dI)) (ci := 10) (v := .int (sI s8 3)) (C := RX9) (T := TX9) (N := 20) hx hb hts hi_dm_X9_readNumber_X9 hown hK hP 0 rfl rfl 4 (by decide) (hts (.fieldLink RX9 70 "TimeMachine$Reader" "from" "I") (List.mem_of_getElem? (i := 2) rfl)) (fun _ h9 => h9) rfl dX9_readNumber_182 ?_
      exact (db_X9_readNumber_185 C K) (y0) (0) ((sI s8 3)) s8 _ _ _ h hP hD hS (lv_sub hl [2, 1, 0] rfl)
    · have h := nd_neg h c26
      exact (db_X9_readNumber_172 C K) (y0) (0) s8 _ _ _ h hP hD hS (lv_sub hl [2, 1, 0] rfl)
set_option maxHeartbeats 40000000 in
set_option maxRecDepth 100000 in
theorem db_X9_readNumber_131 {p : Program} {l : Launch} {e : Env} {s : State} {m : MethodId} {args : Array Value} {below : List Frame} {meth : Method} {c : Code} {Q : State → Prop} {A : Nat → Prop} {dC : Nat → ClassId} {dI : Nat → Nat → Nat} {a : Nat → Nat} {ac : Nat → ClassId} {n : Nat} {r : St} (C : nd_C p l s m args c A (dC, dI) cX9_readNumber 12 RX9 ow_dm_X9_readNumber (dk_X9 ac)) (K : nd_Kv p l e (headSpec ow_dm_X9_readNumber ({ frames := 0, cells := 0, slots := 0, locals := 0 })).room s m args below meth c Q A (dC, dI) cX9_readNumber (St) (dw_X9 a ac) r) : dj_X9_readNumber_131 p l e s m args below meth c Q A dC dI a ac (df_X9_readNumber_131 n) r := by
  obtain ⟨hlt, hx, hb, hml, hown, hts, hN, hA, hK⟩ := id C
  intro x3 y0 s0 H locs ls h hP hD hS hl
  unfold df_X9_readNumber_131 at h
  refine lv_istore (lv' := [(4, .int y0), (0, .ref (a 0)), (3, .int x3)]) hx hb dX9_readNumber_131 hl (by decide) rfl (fun ls hl => ?_)
  refine lv_iload_n hx hb dX9_readNumber_133 rfl (lv_at hl 2 rfl) ?_
  refine lv_if_eq (tgt := 142) hx hb dX9_readNumber_134 (by decide) (fun c6 => ?_) (fun c6 => ?_)
  · have h := nd_pos h c6
    refine lv_iload hx hb dX9_readNumber_142 (lv_at hl 0 rfl) ?_
    refine lv_if_eq (tgt := 151) hx hb dX9_readNumber_144 (by decide) (fun c7 => ?_) (fun c7 => ?_)
    · have h := nd_pos h c7
      refine lv_bipush (v := 10) hx hb dX9_readNumber_151 (by decide) ?_
      exact (db_X9_readNumber_153 C K) (x3) (y0) (10) s0 _ _ _ h hP hD hS (lv_sub hl [1, 2, 0] rfl)
    · have h := nd_neg h c7
      refine lv_iconst (v := 2) hx hb dX9_readNumber_147 (by decide) ?_
      refine lv_goto (tgt := 153) hx hb dX9_readNumber_148 (by decide) ?_
      exact (db_X9_readNumber_153 C K) (x3) (y0) (2) s0 _ _ _ h hP hD hS (lv_sub hl [1, 2, 0] rfl)
  · have h := nd_neg h c6
    refine lv_bipush (v := 16) hx hb dX9_readNumber_137 (by decide) ?_
    refine lv_goto (tgt := 153) hx hb dX9_readNumber_139 (by decide) ?_
    exact (db_X9_readNumber_153 C K) (x3) (y0) (16) s0 _ _ _ h hP hD hS (lv_sub hl [1, 2, 0] rfl)
set_option maxHeartbeats 40000000 in
set_option maxRecDepth 100000 in
theorem db_X9_readNumber_130 {p : Program} {l : Launch} {e : Env} {s : State} {m : MethodId} {args : Array Value} {below : List Frame} {meth : Method} {c : Code} {Q : State → Prop} {A : Nat → Prop} {dC : Nat → ClassId} {dI : Nat → Nat → Nat} {a : Nat → Nat} {ac : Nat → ClassId} {n : Nat} {r : St} (C : nd_C p l s m args c A (dC, dI) cX9_readNumber 12 RX9 ow_dm_X9_readNumber (dk_X9 ac)) (K : nd_Kv p l e (headSpec ow_dm_X9_readNumber ({ frames := 0, cells := 0, slots := 0, locals := 0 })).room s m args below meth c Q A (dC, dI) cX9_readNumber (St) (dw_X9 a ac) r) : dj_X9_readNumber_130 p l e s m args below meth c Q A dC dI a ac (df_X9_readNumber_130 n) r := by
  obtain ⟨hlt, hx, hb, hml, hown, hts, hN, hA, hK⟩ := id C
  intro x3 s0 H locs ls h hP hD hS hl
  unfold df_X9_readNumber_130 at h
  refine lv_iconst (v := 0) hx hb dX9_readNumber_130 (by decide) ?_
  exact (db_X9_readNumber_131 C K) (x3) (0) s0 _ _ _ h hP hD hS (lv_sub hl [0, 1] rfl)
set_option maxHeartbeats 40000000 in
set_option maxRecDepth 100000 in
theorem db_X9_readNumber_100 {p : Program} {l : Launch} {e : Env} {s : State} {m : MethodId} {args : Array Value} {below : List Frame} {meth : Method} {c : Code} {Q : State → Prop} {A : Nat → Prop} {dC : Nat → ClassId} {dI : Nat → Nat → Nat} {a : Nat → Nat} {ac : Nat → ClassId} {n : Nat} {r : St} (C : nd_C p l s m args c A (dC, dI) cX9_readNumber 12 RX9 ow_dm_X9_readNumber (dk_X9 ac)) (K : nd_Kv p l e (headSpec ow_dm_X9_readNumber ({ frames := 0, cells := 0, slots := 0, locals := 0 })).room s m args below meth c Q A (dC, dI) cX9_readNumber (St) (dw_X9 a ac) r) : dj_X9_readNumber_100 p l e s m args below meth c Q A dC dI a ac (df_X9_readNumber_100 n) r := by
  obtain ⟨hlt, hx, hb, hml, hown, hts, hN, hA, hK⟩ := id C
  intro x1 x2 y0 s0 H locs ls h hP hD hS hl
  unfold df_X9_readNumber_100 at h
  refine lv_istore_n (lv' := [(3, .int y0), (0, .ref (a 0)), (1, .int x1), (2, .int x2)]) hx hb dX9_readNumber_100 rfl hl (by decide) rfl (fun ls hl => ?_)
  refine lv_iload_n hx hb dX9_readNumber_101 rfl (lv_at hl 2 rfl) ?_
  refine lv_iconst (v := 2) hx hb dX9_readNumber_102 (by decide) ?_
  refine lv_icmp_le (tgt := 130) hx hb dX9_readNumber_103 (by decide) (fun c5 => ?_) (fun c5 => ?_)
  · have h := nd_pos h c5
    exact (db_X9_readNumber_130 C K) (y0) s0 _ _ _ h hP hD hS (lv_sub hl [1, 0] rfl)
  · have h := nd_neg h c5
    refine lv_aload_n hx hb dX9_readNumber_106 rfl (lv_at hl 1 rfl) ?_
    obtain ⟨o27, h⟩ := nd_o_e h
    refine va_get (D := (dC, dI)) (ci := 10) (v := .ref (a 8)) (C := RX9) (T := TX9) (N := 20) hx hb hts hi_dm_X9_readNumber_X9 hown hK hP 0 rfl rfl 0 (by decide) (hts (.fieldLink RX9 9 "TimeMachine$Reader" "source" "[B") (List.mem_of_getElem? (i := 5) rfl)) (fun _ h9 => h9) (congrArg (fun z => some (va_rf (Option.map a z))) o27) dX9_readNumber_107 ?_
    refine lv_aload_n hx hb dX9_readNumber_110 rfl (lv_at hl 1 rfl) ?_
    refine va_get (D := (dC, dI)) (ci := 10) (v := .int (sI s0 3)) (C := RX9) (T := TX9) (N := 20) hx hb hts hi_dm_X9_readNumber_X9 hown hK hP 0 rfl rfl 4 (by decide) (hts (.fieldLink RX9 70 "TimeMachine$Reader" "from" "I") (List.mem_of_getElem? (i := 2) rfl)) (fun _ h9 => h9) rfl dX9_readNumber_111 ?_
    obtain ⟨i28, h⟩ := nd_ck_e h
    refine va_bald (i := (sI s0 3)) hx hb hK hP 8 7 rfl rfl i28 dX9_readNumber_114 ?_
    refine lv_bipush (v := 48) hx hb dX9_readNumber_115 (by decide) ?_
    refine lv_icmp_ne (tgt := 130) hx hb dX9_readNumber_117 (by decide) (fun c29 => ?_) (fun c29 => ?_)
    · have h := nd_neg h c29
      exact (db_X9_readNumber_130 C K) (y0) s0 _ _ _ h hP hD hS (lv_sub hl [1, 0] rfl)
    · have h := nd_pos h c29
      refine lv_iload_n hx hb dX9_readNumber_120 rfl (lv_at hl 3 rfl) ?_
      refine lv_bipush (v := 98) hx hb dX9_readNumber_121 (by decide) ?_
      refine lv_icmp_ne (tgt := 130) hx hb dX9_readNumber_123 (by decide) (fun c30 => ?_) (fun c30 => ?_)
      · have h := nd_neg h c30
        exact (db_X9_readNumber_130 C K) (y0) s0 _ _ _ h hP hD hS (lv_sub hl [1, 0] rfl)
      · have h := nd_pos h c30
        refine lv_iconst (v := 1) hx hb dX9_readNumber_126 (by decide) ?_
        refine lv_goto (tgt := 131) hx hb dX9_readNumber_127 (by decide) ?_
        exact (db_X9_readNumber_131 C K) (y0) (1) s0 _ _ _ h hP hD hS (lv_sub hl [1, 0] rfl)
set_option maxHeartbeats 40000000 in
set_option maxRecDepth 100000 in
theorem db_X9_readNumber_99 {p : Program} {l : Launch} {e : Env} {s : State} {m : MethodId} {args : Array Value} {below : List Frame} {meth : Method} {c : Code} {Q : State → Prop} {A : Nat → Prop} {dC : Nat → ClassId} {dI : Nat → Nat → Nat} {a : Nat → Nat} {ac : Nat → ClassId} {n : Nat} {r : St} (C : nd_C p l s m args c A (dC, dI) cX9_readNumber 12 RX9 ow_dm_X9_readNumber (dk_X9 ac)) (K : nd_Kv p l e (headSpec ow_dm_X9_readNumber ({ frames := 0, cells := 0, slots := 0, locals := 0 })).room s m args below meth c Q A (dC, dI) cX9_readNumber (St) (dw_X9 a ac) r) : dj_X9_readNumber_99 p l e s m args below meth c Q A dC dI a ac (df_X9_readNumber_99 n) r := by
  obtain ⟨hlt, hx, hb, hml, hown, hts, hN, hA, hK⟩ := id C
  intro x1 x2 s0 H locs ls h hP hD hS hl
  unfold df_X9_readNumber_99 at h
  refine lv_iconst (v := 0) hx hb dX9_readNumber_99 (by decide) ?_
  exact (db_X9_readNumber_100 C K) (x1) (x2) (0) s0 _ _ _ h hP hD hS (lv_sub hl [0, 1, 2] rfl)
set_option maxHeartbeats 40000000 in
set_option maxRecDepth 100000 in
theorem db_X9_readNumber_70 {p : Program} {l : Launch} {e : Env} {s : State} {m : MethodId} {args : Array Value} {below : List Frame} {meth : Method} {c : Code} {Q : State → Prop} {A : Nat → Prop} {dC : Nat → ClassId} {dI : Nat → Nat → Nat} {a : Nat → Nat} {ac : Nat → ClassId} {n : Nat} {r : St} (C : nd_C p l s m args c A (dC, dI) cX9_readNumber 12 RX9 ow_dm_X9_readNumber (dk_X9 ac)) (K : nd_Kv p l e (headSpec ow_dm_X9_readNumber ({ frames := 0, cells := 0, slots := 0, locals := 0 })).room s m args below meth c Q A (dC, dI) cX9_readNumber (St) (dw_X9 a ac) r) : dj_X9_readNumber_70 p l e s m args below meth c Q A dC dI a ac (df_X9_readNumber_70 n) r := by
  obtain ⟨hlt, hx, hb, hml, hown, hts, hN, hA, hK⟩ := id C
  intro x1 x2 s0 H locs ls h hP hD hS hl
  unfold df_X9_readNumber_70 at h
  refine lv_iload_n hx hb dX9_readNumber_70 rfl (lv_at hl 1 rfl) ?_
  refine lv_iconst (v := 2) hx hb dX9_readNumber_71 (by decide) ?_
  refine lv_icmp_le (tgt := 99) hx hb dX9_readNumber_72 (by decide) (fun c4 => ?_) (fun c4 => ?_)
  · have h := nd_pos h c4
    exact (db_X9_readNumber_99 C K) (x1) (x2) s0 _ _ _ h hP hD hS (lv_sub hl [0, 1, 2] rfl)
  · have h := nd_neg h c4
    refine lv_aload_n hx hb dX9_readNumber_75 rfl (lv_at hl 0 rfl) ?_
    obtain ⟨o31, h⟩ := nd_o_e h
    refine va_get (D := (dC, dI)) (ci := 10) (v := .ref (a 8)) (C := RX9) (T := TX9) (N := 20) hx hb hts hi_dm_X9_readNumber_X9 hown hK hP 0 rfl rfl 0 (by decide) (hts (.fieldLink RX9 9 "TimeMachine$Reader" "source" "[B") (List.mem_of_getElem? (i := 5) rfl)) (fun _ h9 => h9) (congrArg (fun z => some (va_rf (Option.map a z))) o31) dX9_readNumber_76 ?_
    refine lv_aload_n hx hb dX9_readNumber_79 rfl (lv_at hl 0 rfl) ?_
    refine va_get (D := (dC, dI)) (ci := 10) (v := .int (sI s0 3)) (C := RX9) (T := TX9) (N := 20) hx hb hts hi_dm_X9_readNumber_X9 hown hK hP 0 rfl rfl 4 (by decide) (hts (.fieldLink RX9 70 "TimeMachine$Reader" "from" "I") (List.mem_of_getElem? (i := 2) rfl)) (fun _ h9 => h9) rfl dX9_readNumber_80 ?_
    obtain ⟨i32, h⟩ := nd_ck_e h
    refine va_bald (i := (sI s0 3)) hx hb hK hP 8 7 rfl rfl i32 dX9_readNumber_83 ?_
    refine lv_bipush (v := 48) hx hb dX9_readNumber_84 (by decide) ?_
    refine lv_icmp_ne (tgt := 99) hx hb dX9_readNumber_86 (by decide) (fun c33 => ?_) (fun c33 => ?_)
    · have h := nd_neg h c33
      exact (db_X9_readNumber_99 C K) (x1) (x2) s0 _ _ _ h hP hD hS (lv_sub hl [0, 1, 2] rfl)
    · have h := nd_pos h c33
      refine lv_iload_n hx hb dX9_readNumber_89 rfl (lv_at hl 2 rfl) ?_
      refine lv_bipush (v := 120) hx hb dX9_readNumber_90 (by decide) ?_
      refine lv_icmp_ne (tgt := 99) hx hb dX9_readNumber_92 (by decide) (fun c34 => ?_) (fun c34 => ?_)
      · have h := nd_neg h c34
        exact (db_X9_readNumber_99 C K) (x1) (x2) s0 _ _ _ h hP hD hS (lv_sub hl [0, 1, 2] rfl)
      · have h := nd_pos h c34
        refine lv_iconst (v := 1) hx hb dX9_readNumber_95 (by decide) ?_
        refine lv_goto (tgt := 100) hx hb dX9_readNumber_96 (by decide) ?_
        exact (db_X9_readNumber_100 C K) (x1) (x2) (1) s0 _ _ _ h hP hD hS (lv_sub hl [0, 1, 2] rfl)
set_option maxHeartbeats 40000000 in
set_option maxRecDepth 100000 in
theorem db_X9_readNumber_48 {p : Program} {l : Launch} {e : Env} {s : State} {m : MethodId} {args : Array Value} {below : List Frame} {meth : Method} {c : Code} {Q : State → Prop} {A : Nat → Prop} {dC : Nat → ClassId} {dI : Nat → Nat → Nat} {a : Nat → Nat} {ac : Nat → ClassId} {n : Nat} {r : St} (C : nd_C p l s m args c A (dC, dI) cX9_readNumber 12 RX9 ow_dm_X9_readNumber (dk_X9 ac)) (K : nd_Kv p l e (headSpec ow_dm_X9_readNumber ({ frames := 0, cells := 0, slots := 0, locals := 0 })).room s m args below meth c Q A (dC, dI) cX9_readNumber (St) (dw_X9 a ac) r) : dj_X9_readNumber_48 p l e s m args below meth c Q A dC dI a ac (df_X9_readNumber_48 n) r := by
  obtain ⟨hlt, hx, hb, hml, hown, hts, hN, hA, hK⟩ := id C
  intro s0 H locs ls h hP hD hS hl
  unfold df_X9_readNumber_48 at h
  refine lv_aload_n hx hb dX9_readNumber_48 rfl (lv_at hl 0 rfl) ?_
  refine lv_iconst (v := 3) hx hb dX9_readNumber_49 (by decide) ?_
  refine va_put (D := (dC, dI)) (ci := 10) (v := .int 3) (ty := .int) (C := RX9) (T := TX9) (N := 20) hx hb hts hi_dm_X9_readNumber_X9 tyX9 tyX9_ok nmX9 hown hK hP hD hS 0 rfl rfl 3 (by decide) (hts (.fieldLink RX9 73 "TimeMachine$Reader" "kind" "I") (List.mem_of_getElem? (i := 3) rfl)) (fun _ h9 => h9) rfl (by decide +kernel) rfl rfl (Nat.le_of_ble_eq_true rfl) dX9_readNumber_50 (fun H locs hP hD hS => ?_)
  obtain ⟨s36, es36, h⟩ := nd_let_e h
  have hP : va_P (dC, dI) vwCl (dw_X9 a ac s36) H := by rw [es36]; exact hP
  have hD : va_D A (dw_X9 a ac s36) := by rw [es36]; exact hD
  refine lv_aload_n hx hb dX9_readNumber_53 rfl (lv_at hl 0 rfl) ?_
  refine lv_aload_n hx hb dX9_readNumber_54 rfl (lv_at hl 0 rfl) ?_
  obtain ⟨o37, h⟩ := nd_o_e h
  refine va_get (D := (dC, dI)) (ci := 10) (v := .ref (a 8)) (C := RX9) (T := TX9) (N := 20) hx hb hts hi_dm_X9_readNumber_X9 hown hK hP 0 rfl rfl 0 (by decide) (hts (.fieldLink RX9 9 "TimeMachine$Reader" "source" "[B") (List.mem_of_getElem? (i := 5) rfl)) (fun _ h9 => h9) (congrArg (fun z => some (va_rf (Option.map a z))) o37) dX9_readNumber_55 ?_
  refine lv_aload_n hx hb dX9_readNumber_58 rfl (lv_at hl 0 rfl) ?_
  refine va_get (D := (dC, dI)) (ci := 10) (v := .int (sI s36 3)) (C := RX9) (T := TX9) (N := 20) hx hb hts hi_dm_X9_readNumber_X9 hown hK hP 0 rfl rfl 4 (by decide) (hts (.fieldLink RX9 70 "TimeMachine$Reader" "from" "I") (List.mem_of_getElem? (i := 2) rfl)) (fun _ h9 => h9) rfl dX9_readNumber_59 ?_
  obtain ⟨i38, h⟩ := nd_ck_e h
  refine va_bald (i := (sI s36 3)) hx hb hK hP 8 7 rfl rfl i38 dX9_readNumber_62 ?_
  refine lv_bipush (v := 48) hx hb dX9_readNumber_63 (by decide) ?_
  refine lv_isub hx hb dX9_readNumber_65 ?_
  refine va_put (D := (dC, dI)) (ci := 10) (v := .int ((sR s36 7 (Int32.toNatClampNeg (sI s36 3))) - 48)) (ty := .int) (C := RX9) (T := TX9) (N := 20) hx hb hts hi_dm_X9_readNumber_X9 tyX9 tyX9_ok nmX9 hown hK hP hD hS 0 rfl rfl 5 (by decide) (hts (.fieldLink RX9 93 "TimeMachine$Reader" "number" "I") (List.mem_of_getElem? (i := 4) rfl)) (fun _ h9 => h9) rfl (by decide +kernel) rfl rfl (Nat.le_of_ble_eq_true rfl) dX9_readNumber_66 (fun H locs hP hD hS => ?_)
  obtain ⟨s39, es39, h⟩ := nd_let_e h
  have hP : va_P (dC, dI) vwCl (dw_X9 a ac s39) H := by rw [es39]; exact hP
  have hD : va_D A (dw_X9 a ac s39) := by rw [es39]; exact hD
  exact K _ _ _ _ _ dX9_readNumber_69 (Option.some.inj h).symm hP hD hS
set_option maxHeartbeats 40000000 in
set_option maxRecDepth 100000 in
theorem db_X9_readNumber_30 {p : Program} {l : Launch} {e : Env} {s : State} {m : MethodId} {args : Array Value} {below : List Frame} {meth : Method} {c : Code} {Q : State → Prop} {A : Nat → Prop} {dC : Nat → ClassId} {dI : Nat → Nat → Nat} {a : Nat → Nat} {ac : Nat → ClassId} {n : Nat} {r : St} (C : nd_C p l s m args c A (dC, dI) cX9_readNumber 12 RX9 ow_dm_X9_readNumber (dk_X9 ac)) (K : nd_Kv p l e (headSpec ow_dm_X9_readNumber ({ frames := 0, cells := 0, slots := 0, locals := 0 })).room s m args below meth c Q A (dC, dI) cX9_readNumber (St) (dw_X9 a ac) r) : dj_X9_readNumber_30 p l e s m args below meth c Q A dC dI a ac (df_X9_readNumber_30 n) r := by
  obtain ⟨hlt, hx, hb, hml, hown, hts, hN, hA, hK⟩ := id C
  intro x1 y0 s0 H locs ls h hP hD hS hl
  unfold df_X9_readNumber_30 at h
  refine lv_istore_n (lv' := [(2, .int y0), (0, .ref (a 0)), (1, .int x1)]) hx hb dX9_readNumber_30 rfl hl (by decide) rfl (fun ls hl => ?_)
  refine lv_iload_n hx hb dX9_readNumber_31 rfl (lv_at hl 2 rfl) ?_
  refine lv_iconst (v := 2) hx hb dX9_readNumber_32 (by decide) ?_
  refine lv_icmp_ne (tgt := 70) hx hb dX9_readNumber_33 (by decide) (fun c3 => ?_) (fun c3 => ?_)
  · have h := nd_neg h c3
    exact (db_X9_readNumber_70 C K) (x1) (y0) s0 _ _ _ h hP hD hS (lv_sub hl [1, 2, 0] rfl)
  · have h := nd_pos h c3
    refine lv_iload_n hx hb dX9_readNumber_36 rfl (lv_at hl 0 rfl) ?_
    refine lv_bipush (v := 102) hx hb dX9_readNumber_37 (by decide) ?_
    refine lv_icmp_eq (tgt := 48) hx hb dX9_readNumber_39 (by decide) (fun c35 => ?_) (fun c35 => ?_)
    · have h := nd_pos h c35
      exact (db_X9_readNumber_48 C K)  s0 _ _ _ h hP hD hS (lv_sub hl [1] rfl)
    · have h := nd_neg h c35
      refine lv_iload_n hx hb dX9_readNumber_42 rfl (lv_at hl 0 rfl) ?_
      refine lv_bipush (v := 98) hx hb dX9_readNumber_43 (by decide) ?_
      refine lv_icmp_ne (tgt := 70) hx hb dX9_readNumber_45 (by decide) (fun c40 => ?_) (fun c40 => ?_)
      · have h := nd_neg h c40
        exact (db_X9_readNumber_70 C K) (x1) (y0) s0 _ _ _ h hP hD hS (lv_sub hl [1, 2, 0] rfl)
      · have h := nd_pos h c40
        exact (db_X9_readNumber_48 C K)  s0 _ _ _ h hP hD hS (lv_sub hl [1] rfl)
set_option maxHeartbeats 40000000 in
set_option maxRecDepth 100000 in
theorem db_X9_readNumber_0 {p : Program} {l : Launch} {e : Env} {s : State} {m : MethodId} {args : Array Value} {below : List Frame} {meth : Method} {c : Code} {Q : State → Prop} {A : Nat → Prop} {dC : Nat → ClassId} {dI : Nat → Nat → Nat} {a : Nat → Nat} {ac : Nat → ClassId} {n : Nat} {r : St} (C : nd_C p l s m args c A (dC, dI) cX9_readNumber 12 RX9 ow_dm_X9_readNumber (dk_X9 ac)) (K : nd_Kv p l e (headSpec ow_dm_X9_readNumber ({ frames := 0, cells := 0, slots := 0, locals := 0 })).room s m args below meth c Q A (dC, dI) cX9_readNumber (St) (dw_X9 a ac) r) : dj_X9_readNumber_0 p l e s m args below meth c Q A dC dI a ac (df_X9_readNumber_0 n) r := by
  obtain ⟨hlt, hx, hb, hml, hown, hts, hN, hA, hK⟩ := id C
  intro s0 H locs ls h hP hD hS hl
  unfold df_X9_readNumber_0 at h
  refine lv_aload_n hx hb dX9_readNumber_0 rfl (lv_at hl 0 rfl) ?_
  refine va_get (D := (dC, dI)) (ci := 10) (v := .int (sI s0 0)) (C := RX9) (T := TX9) (N := 20) hx hb hts hi_dm_X9_readNumber_X9 hown hK hP 0 rfl rfl 1 (by decide) (hts (.fieldLink RX9 55 "TimeMachine$Reader" "at" "I") (List.mem_of_getElem? (i := 1) rfl)) (fun _ h9 => h9) rfl dX9_readNumber_1 ?_
  refine lv_aload_n hx hb dX9_readNumber_4 rfl (lv_at hl 0 rfl) ?_
  refine va_get (D := (dC, dI)) (ci := 10) (v := .int (sI s0 3)) (C := RX9) (T := TX9) (N := 20) hx hb hts hi_dm_X9_readNumber_X9 hown hK hP 0 rfl rfl 4 (by decide) (hts (.fieldLink RX9 70 "TimeMachine$Reader" "from" "I") (List.mem_of_getElem? (i := 2) rfl)) (fun _ h9 => h9) rfl dX9_readNumber_5 ?_
  refine lv_isub hx hb dX9_readNumber_8 ?_
  refine lv_topi (fun z1 ez1 => ?_)
  have h := nd_at h ez1
  refine lv_istore_n (lv' := [(1, .int z1), (0, .ref (a 0))]) hx hb dX9_readNumber_9 rfl hl (by decide) rfl (fun ls hl => ?_)
  refine lv_iload_n hx hb dX9_readNumber_10 rfl (lv_at hl 0 rfl) ?_
  refine lv_iconst (v := 1) hx hb dX9_readNumber_11 (by decide) ?_
  refine lv_icmp_le (tgt := 29) hx hb dX9_readNumber_12 (by decide) (fun c2 => ?_) (fun c2 => ?_)
  · have h := nd_pos h c2
    refine lv_iconst (v := 0) hx hb dX9_readNumber_29 (by decide) ?_
    exact (db_X9_readNumber_30 C K) (z1) (0) s0 _ _ _ h hP hD hS (lv_sub hl [1, 0] rfl)
  · have h := nd_neg h c2
    refine lv_aload_n hx hb dX9_readNumber_15 rfl (lv_at hl 1 rfl) ?_
    obtain ⟨o41, h⟩ := nd_o_e h
    refine va_get (D := (dC, dI)) (ci := 10) (v := .ref (a 8)) (C := RX9) (T := TX9) (N := 20) hx hb hts hi_dm_X9_readNumber_X9 hown hK hP 0 rfl rfl 0 (by decide) (hts (.fieldLink RX9 9 "TimeMachine$Reader" "source" "[B") (List.mem_of_getElem? (i := 5) rfl)) (fun _ h9 => h9) (congrArg (fun z => some (va_rf (Option.map a z))) o41) dX9_readNumber_16 ?_
    refine lv_aload_n hx hb dX9_readNumber_19 rfl (lv_at hl 1 rfl) ?_
    refine va_get (D := (dC, dI)) (ci := 10) (v := .int (sI s0 3)) (C := RX9) (T := TX9) (N := 20) hx hb hts hi_dm_X9_readNumber_X9 hown hK hP 0 rfl rfl 4 (by decide) (hts (.fieldLink RX9 70 "TimeMachine$Reader" "from" "I") (List.mem_of_getElem? (i := 2) rfl)) (fun _ h9 => h9) rfl dX9_readNumber_20 ?_
    refine lv_iconst (v := 1) hx hb dX9_readNumber_23 (by decide) ?_
    refine lv_iadd hx hb dX9_readNumber_24 ?_
    obtain ⟨i42, h⟩ := nd_ck_e h
    refine va_bald (i := ((sI s0 3) + 1)) hx hb hK hP 8 7 rfl rfl i42 dX9_readNumber_25 ?_
    refine lv_goto (tgt := 30) hx hb dX9_readNumber_26 (by decide) ?_
    exact (db_X9_readNumber_30 C K) (z1) ((sR s0 7 (Int32.toNatClampNeg ((sI s0 3) + 1)))) s0 _ _ _ h hP hD hS (lv_sub hl [1, 0] rfl)
set_option maxHeartbeats 40000000 in
set_option maxRecDepth 100000 in
theorem dm_X9_readNumber (l : Launch) (hlt : l.stackTraces = false) (dC : Nat → ClassId) (dI : Nat → Nat → Nat) (a : Nat → Nat) (ac : Nat → ClassId) (n : Nat) (s0 : St) {r : St} (h : df_X9_readNumber n s0 = some r) (sz : Nat) : Met l yX9_readNumber ow_dm_X9_readNumber ({ frames := 0, cells := 0, slots := 0, locals := 0 }) (va_Pc [.ref (a 0)] (fun U => U.heap.size = sz ∧ va_P (dC, dI) vwCl (dw_X9 a ac s0) U.heap ∧ va_K (dC, dI) vwCl (dk_X9 ac) U ∧ va_D (fun _ => True) (dw_X9 a ac s0) ∧ nv_E (va_A (dw_X9 a ac s0) sz) U)) (va_Qv (fun _ => True) (fun (_ : Unit) t => va_P (dC, dI) vwCl (dw_X9 a ac r) t.heap ∧ va_K (dC, dI) vwCl (dk_X9 ac) t ∧ va_D (va_A (dw_X9 a ac s0) sz) (dw_X9 a ac r)) (va_A (dw_X9 a ac s0) sz)) 0 0 (va_A (dw_X9 a ac s0) sz) := by
  refine Met.ofW (cc := cX9_readNumber) (maxL := 12) (ret := none) (by decide) rfl ?_
  intro p e s m args below meth c s₁ B hml hv
  obtain ⟨rfl, hsz, hP, hK, hD0, hN⟩ := hv
  have hx := B.exec
  have hb := B.bytes
  have hr := B.returns
  have hts := atoms_spec (ws := ow_dm_X9_readNumber) B.pre
  have hown : s.vm.findClass RX9 = some m.cls := findClass_of_methodNamed B.named
  have hlocks := B.notSynchronized
  subst hsz
  have hD := hD0.self (sz := s.heap.size)
  generalize hAe : va_A (dw_X9 a ac s0) s.heap.size = A at hD hN ⊢
  have hA : ∀ q : Nat, s.heap.size ≤ q → A q := fun q h => by rw [← hAe]; exact Or.inr h
  have hl := lv_entry ([.ref (a 0)]) (n := 12) (Nat.le_of_ble_eq_true rfl)
  rw [lg_entry_eq]
  generalize (lg_sl ([.ref (a 0)]) ++ List.replicate (12 - (lg_sl ([.ref (a 0)])).length) Slot.unset).toArray = ls at hl ⊢
  have hl : lv_has ls 12 [(0, .ref (a 0))] := hl
  exact db_X9_readNumber_0 (dC := dC) (dI := dI) (a := a) (ac := ac) (n := n) (r := r) ⟨hlt, hx, hb, hml, hown, hts, hN, hA, hK⟩ (fun pc τ H locs ls d er hP hD hS => by subst er; exact W.vret hx hb hr (fun t ht hW => ⟨⟨(), rfl, trivial, by rw [ht]; exact hP, va_K.moved hW.alike hK, hD⟩, hS.F ht⟩) hS.2.2 d) s0 _ _ _ h hP hD va_S.rf (lv_sub hl [0] rfl)
def ow_dm_X9_readCharacter : List Cond := .code yX9_readCharacter cX9_readCharacter 5 none :: ([.fieldLink RX9 70 "TimeMachine$Reader" "from" "I", .methodLink RX9 98 yX9_character, .instanceMethod yX9_character, .selects RX9 yX9_character yX9_character, .initialized RX9, .methodLink RX9 101 yX9_width, .instanceMethod yX9_width, .selects RX9 yX9_width yX9_width, .fieldLink RX9 64 "TimeMachine$Reader" "stop" "I", .fieldLink RX9 73 "TimeMachine$Reader" "kind" "I", .fieldLink RX9 93 "TimeMachine$Reader" "number" "I", .methodLink RX9 58 Lib.Math.min.name, .static Lib.Math.min.name, .initialized "java/lang/Math", .code Lib.Math.min.name Lib.Math.min.code 2 (some .int), .fieldLink RX9 55 "TimeMachine$Reader" "at" "I", .fieldLink RX9 9 "TimeMachine$Reader" "source" "[B", .methodLink RX9 76 yX9_isInName, .static yX9_isInName] ++ (u_ws RX9 TX9 20 ++ (ow_dm_X9_character ++ (ow_dm_X9_width ++ (ow_dm_X9_isInName ++ [])))))
theorem gd_dm_X9_readCharacter : ∀ w ∈ ow_dm_X9_readCharacter, (w.onTables && w.keeps) = true ∨ ∃ ty, w = Cond.arrayClass ty := List.forall_mem_cons.mpr ⟨good_of_word rfl, List.forall_mem_append.mpr ⟨fun w h => good_of_word (List.all_eq_true.mp (by decide +kernel) w h), List.forall_mem_append.mpr ⟨gu_X9, List.forall_mem_append.mpr ⟨gd_dm_X9_character, List.forall_mem_append.mpr ⟨gd_dm_X9_width, List.forall_mem_append.mpr ⟨gd_dm_X9_isInName, fun _ h => nomatch h⟩⟩⟩⟩⟩⟩
theorem hi_dm_X9_readCharacter_X9 : ∀ w ∈ u_ws RX9 TX9 20, w ∈ ow_dm_X9_readCharacter := fun w h => List.mem_cons_of_mem _ (List.mem_append_right _ (List.mem_append_left _ h))
theorem gi_dm_X9_readCharacter_0 : GoodIn ow_dm_X9_readCharacter (wsV RX9 98 RX9 yX9_character ow_dm_X9_character) := goodIn_app (goodIn_of _ (by decide +kernel)) (fun w h => ⟨List.mem_cons_of_mem _ (List.mem_append_right _ (List.mem_append_right _ (List.mem_append_left _ h))), gd_dm_X9_character w h⟩)
theorem gi_dm_X9_readCharacter_1 : GoodIn ow_dm_X9_readCharacter (wsV RX9 101 RX9 yX9_width ow_dm_X9_width) := goodIn_app (goodIn_of _ (by decide +kernel)) (fun w h => ⟨List.mem_cons_of_mem _ (List.mem_append_right _ (List.mem_append_right _ (List.mem_append_right _ (List.mem_append_left _ h)))), gd_dm_X9_width w h⟩)
theorem gi_dm_X9_readCharacter_2 : GoodIn ow_dm_X9_readCharacter (wsS RX9 76 yX9_isInName ow_dm_X9_isInName) := goodIn_app (goodIn_of _ (by decide +kernel)) (fun w h => ⟨List.mem_cons_of_mem _ (List.mem_append_right _ (List.mem_append_right _ (List.mem_append_right _ (List.mem_append_right _ (List.mem_append_left _ h))))), gd_dm_X9_isInName w h⟩)
def dj_X9_readCharacter_107 (p : Program) (l : Launch) (e : Env) (s : State) (m : MethodId) (args : Array Value) (below : List Frame) (meth : Method) (c : Code) (Q : State → Prop) (A : Nat → Prop) (dC : Nat → ClassId) (dI : Nat → Nat → Nat) (a : Nat → Nat) (ac : Nat → ClassId) (g : Int32 → Int32 → Int32 → (St) → Option (St)) (r : St) : Prop := ∀ (x1 : Int32) (x2 : Int32) (y1 : Int32) (s0 : St) (H : Heap) (locs : List Loc) (ls : Array Slot), g x1 x2 y1 s0 = some r → va_P (dC, dI) vwCl (dw_X9 a ac s0) H → va_D A (dw_X9 a ac s0) → va_S A s.heap H locs → lv_has ls 5 [(0, .ref (a 0)), (1, .int x1), (2, .int x2)] → W p l e (headSpec ow_dm_X9_readCharacter ({ frames := 1, cells := 0, slots := 0, locals := 24 })).room s m args below meth c H locs 0 0 Q (F0 m 107 ls [.int y1, .ref (a 0)])
def dj_X9_readCharacter_105 (p : Program) (l : Launch) (e : Env) (s : State) (m : MethodId) (args : Array Value) (below : List Frame) (meth : Method) (c : Code) (Q : State → Prop) (A : Nat → Prop) (dC : Nat → ClassId) (dI : Nat → Nat → Nat) (a : Nat → Nat) (ac : Nat → ClassId) (g : Int32 → Int32 → (St) → Option (St)) (r : St) : Prop := ∀ (x1 : Int32) (x2 : Int32) (s0 : St) (H : Heap) (locs : List Loc) (ls : Array Slot), g x1 x2 s0 = some r → va_P (dC, dI) vwCl (dw_X9 a ac s0) H → va_D A (dw_X9 a ac s0) → va_S A s.heap H locs → lv_has ls 5 [(0, .ref (a 0)), (1, .int x1), (2, .int x2)] → W p l e (headSpec ow_dm_X9_readCharacter ({ frames := 1, cells := 0, slots := 0, locals := 24 })).room s m args below meth c H locs 0 0 Q (F0 m 105 ls [.ref (a 0)])
def dj_X9_readCharacter_85 (p : Program) (l : Launch) (e : Env) (s : State) (m : MethodId) (args : Array Value) (below : List Frame) (meth : Method) (c : Code) (Q : State → Prop) (A : Nat → Prop) (dC : Nat → ClassId) (dI : Nat → Nat → Nat) (a : Nat → Nat) (ac : Nat → ClassId) (g : Int32 → Int32 → Int32 → Int32 → (St) → Option (St)) (r : St) : Prop := ∀ (x1 : Int32) (x2 : Int32) (x3 : Int32) (y0 : Int32) (s0 : St) (H : Heap) (locs : List Loc) (ls : Array Slot), g x1 x2 x3 y0 s0 = some r → va_P (dC, dI) vwCl (dw_X9 a ac s0) H → va_D A (dw_X9 a ac s0) → va_S A s.heap H locs → lv_has ls 5 [(0, .ref (a 0)), (1, .int x1), (2, .int x2), (3, .int x3)] → W p l e (headSpec ow_dm_X9_readCharacter ({ frames := 1, cells := 0, slots := 0, locals := 24 })).room s m args below meth c H locs 0 0 Q (F0 m 85 ls [.int y0])
def dj_X9_readCharacter_80 (p : Program) (l : Launch) (e : Env) (s : State) (m : MethodId) (args : Array Value) (below : List Frame) (meth : Method) (c : Code) (Q : State → Prop) (A : Nat → Prop) (dC : Nat → ClassId) (dI : Nat → Nat → Nat) (a : Nat → Nat) (ac : Nat → ClassId) (g : Int32 → Int32 → Int32 → (St) → Option (St)) (r : St) : Prop := ∀ (x1 : Int32) (x2 : Int32) (x3 : Int32) (s0 : St) (H : Heap) (locs : List Loc) (ls : Array Slot), g x1 x2 x3 s0 = some r → va_P (dC, dI) vwCl (dw_X9 a ac s0) H → va_D A (dw_X9 a ac s0) → va_S A s.heap H locs → lv_has ls 5 [(0, .ref (a 0)), (1, .int x1), (2, .int x2), (3, .int x3)] → W p l e (headSpec ow_dm_X9_readCharacter ({ frames := 1, cells := 0, slots := 0, locals := 24 })).room s m args below meth c H locs 0 0 Q (F0 m 80 ls [])
def dj_X9_readCharacter_55 (p : Program) (l : Launch) (e : Env) (s : State) (m : MethodId) (args : Array Value) (below : List Frame) (meth : Method) (c : Code) (Q : State → Prop) (A : Nat → Prop) (dC : Nat → ClassId) (dI : Nat → Nat → Nat) (a : Nat → Nat) (ac : Nat → ClassId) (g : Int32 → Int32 → Int32 → (St) → Option (St)) (r : St) : Prop := ∀ (x1 : Int32) (x2 : Int32) (y0 : Int32) (s0 : St) (H : Heap) (locs : List Loc) (ls : Array Slot), g x1 x2 y0 s0 = some r → va_P (dC, dI) vwCl (dw_X9 a ac s0) H → va_D A (dw_X9 a ac s0) → va_S A s.heap H locs → lv_has ls 5 [(0, .ref (a 0)), (1, .int x1), (2, .int x2)] → W p l e (headSpec ow_dm_X9_readCharacter ({ frames := 1, cells := 0, slots := 0, locals := 24 })).room s m args below meth c H locs 0 0 Q (F0 m 55 ls [.int y0])
def dj_X9_readCharacter_54 (p : Program) (l : Launch) (e : Env) (s : State) (m : MethodId) (args : Array Value) (below : List Frame) (meth : Method) (c : Code) (Q : State → Prop) (A : Nat → Prop) (dC : Nat → ClassId) (dI : Nat → Nat → Nat) (a : Nat → Nat) (ac : Nat → ClassId) (g : Int32 → Int32 → (St) → Option (St)) (r : St) : Prop := ∀ (x1 : Int32) (x2 : Int32) (s0 : St) (H : Heap) (locs : List Loc) (ls : Array Slot), g x1 x2 s0 = some r → va_P (dC, dI) vwCl (dw_X9 a ac s0) H → va_D A (dw_X9 a ac s0) → va_S A s.heap H locs → lv_has ls 5 [(0, .ref (a 0)), (1, .int x1), (2, .int x2)] → W p l e (headSpec ow_dm_X9_readCharacter ({ frames := 1, cells := 0, slots := 0, locals := 24 })).room s m args below meth c H locs 0 0 Q (F0 m 54 ls [])
def dj_X9_readCharacter_0 (p : Program) (l : Launch) (e : Env) (s : State) (m : MethodId) (args : Array Value) (below : List Frame) (meth : Method) (c : Code) (Q : State → Prop) (A : Nat → Prop) (dC : Nat → ClassId) (dI : Nat → Nat → Nat) (a : Nat → Nat) (ac : Nat → ClassId) (g : (St) → Option (St)) (r : St) : Prop := ∀ (s0 : St) (H : Heap) (locs : List Loc) (ls : Array Slot), g s0 = some r → va_P (dC, dI) vwCl (dw_X9 a ac s0) H → va_D A (dw_X9 a ac s0) → va_S A s.heap H locs → lv_has ls 5 [(0, .ref (a 0))] → W p l e (headSpec ow_dm_X9_readCharacter ({ frames := 1, cells := 0, slots := 0, locals := 24 })).room s m args below meth c H locs 0 0 Q (F0 m 0 ls [])
set_option maxHeartbeats 40000000 in
set_option maxRecDepth 100000 in
theorem db_X9_readCharacter_107 {p : Program} {l : Launch} {e : Env} {s : State} {m : MethodId} {args : Array Value} {below : List Frame} {meth : Method} {c : Code} {Q : State → Prop} {A : Nat → Prop} {dC : Nat → ClassId} {dI : Nat → Nat → Nat} {a : Nat → Nat} {ac : Nat → ClassId} {n : Nat} {r : St} (C : nd_C p l s m args c A (dC, dI) cX9_readCharacter 5 RX9 ow_dm_X9_readCharacter (dk_X9 ac)) (K : nd_Kv p l e (headSpec ow_dm_X9_readCharacter ({ frames := 1, cells := 0, slots := 0, locals := 24 })).room s m args below meth c Q A (dC, dI) cX9_readCharacter (St) (dw_X9 a ac) r) : dj_X9_readCharacter_107 p l e s m args below meth c Q A dC dI a ac (df_X9_readCharacter_107 n) r := by
  obtain ⟨hlt, hx, hb, hml, hown, hts, hN, hA, hK⟩ := id C
  intro x1 x2 y1 s0 H locs ls h hP hD hS hl
  unfold df_X9_readCharacter_107 at h
  refine va_put (D := (dC, dI)) (ci := 10) (v := .int y1) (ty := .int) (C := RX9) (T := TX9) (N := 20) hx hb hts hi_dm_X9_readCharacter_X9 tyX9 tyX9_ok nmX9 hown hK hP hD hS 0 rfl rfl 3 (by decide) (hts (.fieldLink RX9 73 "TimeMachine$Reader" "kind" "I") (List.mem_of_getElem? (i := 10) rfl)) (fun _ h9 => h9) rfl (by decide +kernel) rfl rfl (Nat.le_of_ble_eq_true rfl) dX9_readCharacter_107 (fun H locs hP hD hS => ?_)
  obtain ⟨s11, es11, h⟩ := nd_let_e h
  have hP : va_P (dC, dI) vwCl (dw_X9 a ac s11) H := by rw [es11]; exact hP
  have hD : va_D A (dw_X9 a ac s11) := by rw [es11]; exact hD
  refine lv_aload_n hx hb dX9_readCharacter_110 rfl (lv_at hl 0 rfl) ?_
  refine lv_iload_n hx hb dX9_readCharacter_111 rfl (lv_at hl 1 rfl) ?_
  refine va_put (D := (dC, dI)) (ci := 10) (v := .int x1) (ty := .int) (C := RX9) (T := TX9) (N := 20) hx hb hts hi_dm_X9_readCharacter_X9 tyX9 tyX9_ok nmX9 hown hK hP hD hS 0 rfl rfl 5 (by decide) (hts (.fieldLink RX9 93 "TimeMachine$Reader" "number" "I") (List.mem_of_getElem? (i := 11) rfl)) (fun _ h9 => h9) rfl (by decide +kernel) rfl rfl (Nat.le_of_ble_eq_true rfl) dX9_readCharacter_112 (fun H locs hP hD hS => ?_)
  obtain ⟨s12, es12, h⟩ := nd_let_e h
  have hP : va_P (dC, dI) vwCl (dw_X9 a ac s12) H := by rw [es12]; exact hP
  have hD : va_D A (dw_X9 a ac s12) := by rw [es12]; exact hD
  refine lv_aload_n hx hb dX9_readCharacter_115 rfl (lv_at hl 0 rfl) ?_
  refine lv_iload_n hx hb dX9_readCharacter_116 rfl (lv_at hl 2 rfl) ?_
  refine lv_iconst (v := 1) hx hb dX9_readCharacter_117 (by decide) ?_
  refine lv_iadd hx hb dX9_readCharacter_118 ?_
  refine lv_aload_n hx hb dX9_readCharacter_119 rfl (lv_at hl 0 rfl) ?_
  refine va_get (D := (dC, dI)) (ci := 10) (v := .int (sI s12 1)) (C := RX9) (T := TX9) (N := 20) hx hb hts hi_dm_X9_readCharacter_X9 hown hK hP 0 rfl rfl 2 (by decide) (hts (.fieldLink RX9 64 "TimeMachine$Reader" "stop" "I") (List.mem_of_getElem? (i := 9) rfl)) (fun _ h9 => h9) rfl dX9_readCharacter_120 ?_
  refine va_mmin hx hb (by rw [hml]; exact hl.1.symm) hown (hts (.methodLink RX9 58 Lib.Math.min.name) (List.mem_of_getElem? (i := 12) rfl)) (hts (.static Lib.Math.min.name) (List.mem_of_getElem? (i := 13) rfl)) (hts (.initialized "java/lang/Math") (List.mem_of_getElem? (i := 14) rfl)) (hts (.code Lib.Math.min.name Lib.Math.min.code 2 (some .int)) (List.mem_of_getElem? (i := 15) rfl)) (Nat.le_of_ble_eq_true rfl) (Nat.le_of_ble_eq_true rfl) (by decide +kernel) (by decide +kernel) dX9_readCharacter_123 ?_
  refine va_put (D := (dC, dI)) (ci := 10) (v := .int (if ((sI s12 1) : Int32) < (x2 + 1) then (sI s12 1) else (x2 + 1))) (ty := .int) (C := RX9) (T := TX9) (N := 20) hx hb hts hi_dm_X9_readCharacter_X9 tyX9 tyX9_ok nmX9 hown hK hP hD hS 0 rfl rfl 1 (by decide) (hts (.fieldLink RX9 55 "TimeMachine$Reader" "at" "I") (List.mem_of_getElem? (i := 16) rfl)) (fun _ h9 => h9) rfl (by decide +kernel) rfl rfl (Nat.le_of_ble_eq_true rfl) dX9_readCharacter_126 (fun H locs hP hD hS => ?_)
  obtain ⟨s13, es13, h⟩ := nd_let_e h
  have hP : va_P (dC, dI) vwCl (dw_X9 a ac s13) H := by rw [es13]; exact hP
  have hD : va_D A (dw_X9 a ac s13) := by rw [es13]; exact hD
  exact K _ _ _ _ _ dX9_readCharacter_129 (Option.some.inj h).symm hP hD hS
set_option maxHeartbeats 40000000 in
set_option maxRecDepth 100000 in
theorem db_X9_readCharacter_105 {p : Program} {l : Launch} {e : Env} {s : State} {m : MethodId} {args : Array Value} {below : List Frame} {meth : Method} {c : Code} {Q : State → Prop} {A : Nat → Prop} {dC : Nat → ClassId} {dI : Nat → Nat → Nat} {a : Nat → Nat} {ac : Nat → ClassId} {n : Nat} {r : St} (C : nd_C p l s m args c A (dC, dI) cX9_readCharacter 5 RX9 ow_dm_X9_readCharacter (dk_X9 ac)) (K : nd_Kv p l e (headSpec ow_dm_X9_readCharacter ({ frames := 1, cells := 0, slots := 0, locals := 24 })).room s m args below meth c Q A (dC, dI) cX9_readCharacter (St) (dw_X9 a ac) r) : dj_X9_readCharacter_105 p l e s m args below meth c Q A dC dI a ac (df_X9_readCharacter_105 n) r := by
  obtain ⟨hlt, hx, hb, hml, hown, hts, hN, hA, hK⟩ := id C
  intro x1 x2 s0 H locs ls h hP hD hS hl
  unfold df_X9_readCharacter_105 at h
  refine lv_bipush (v := 6) hx hb dX9_readCharacter_105 (by decide) ?_
  exact (db_X9_readCharacter_107 C K) (x1) (x2) (6) s0 _ _ _ h hP hD hS (lv_sub hl [0, 1, 2] rfl)
set_option maxHeartbeats 40000000 in
set_option maxRecDepth 100000 in
theorem db_X9_readCharacter_85 {p : Program} {l : Launch} {e : Env} {s : State} {m : MethodId} {args : Array Value} {below : List Frame} {meth : Method} {c : Code} {Q : State → Prop} {A : Nat → Prop} {dC : Nat → ClassId} {dI : Nat → Nat → Nat} {a : Nat → Nat} {ac : Nat → ClassId} {n : Nat} {r : St} (C : nd_C p l s m args c A (dC, dI) cX9_readCharacter 5 RX9 ow_dm_X9_readCharacter (dk_X9 ac)) (K : nd_Kv p l e (headSpec ow_dm_X9_readCharacter ({ frames := 1, cells := 0, slots := 0, locals := 24 })).room s m args below meth c Q A (dC, dI) cX9_readCharacter (St) (dw_X9 a ac) r) : dj_X9_readCharacter_85 p l e s m args below meth c Q A dC dI a ac (df_X9_readCharacter_85 n) r := by
  obtain ⟨hlt, hx, hb, hml, hown, hts, hN, hA, hK⟩ := id C
  intro x1 x2 x3 y0 s0 H locs ls h hP hD hS hl
  unfold df_X9_readCharacter_85 at h
  refine lv_istore (lv' := [(4, .int y0), (0, .ref (a 0)), (1, .int x1), (2, .int x2), (3, .int x3)]) hx hb dX9_readCharacter_85 hl (by decide) rfl (fun ls hl => ?_)
  refine lv_aload_n hx hb dX9_readCharacter_87 rfl (lv_at hl 1 rfl) ?_
  refine lv_iload_n hx hb dX9_readCharacter_88 rfl (lv_at hl 2 rfl) ?_
  refine lv_if_lt (tgt := 105) hx hb dX9_readCharacter_89 (by decide) (fun c10 => ?_) (fun c10 => ?_)
  · have h := nd_pos h c10
    exact (db_X9_readCharacter_105 C K) (x1) (x2) s0 _ _ _ h hP hD hS (lv_sub hl [1, 2, 3] rfl)
  · have h := nd_neg h c10
    refine lv_iload_n hx hb dX9_readCharacter_92 rfl (lv_at hl 4 rfl) ?_
    refine lv_if_eq (tgt := 105) hx hb dX9_readCharacter_93 (by decide) (fun c14 => ?_) (fun c14 => ?_)
    · have h := nd_pos h c14
      exact (db_X9_readCharacter_105 C K) (x1) (x2) s0 _ _ _ h hP hD hS (lv_sub hl [1, 2, 3] rfl)
    · have h := nd_neg h c14
      refine lv_iload hx hb dX9_readCharacter_96 (lv_at hl 0 rfl) ?_
      refine lv_if_eq (tgt := 105) hx hb dX9_readCharacter_98 (by decide) (fun c15 => ?_) (fun c15 => ?_)
      · have h := nd_pos h c15
        exact (db_X9_readCharacter_105 C K) (x1) (x2) s0 _ _ _ h hP hD hS (lv_sub hl [1, 2, 3] rfl)
      · have h := nd_neg h c15
        refine lv_iconst (v := 2) hx hb dX9_readCharacter_101 (by decide) ?_
        refine lv_goto (tgt := 107) hx hb dX9_readCharacter_102 (by decide) ?_
        exact (db_X9_readCharacter_107 C K) (x1) (x2) (2) s0 _ _ _ h hP hD hS (lv_sub hl [1, 2, 3] rfl)
set_option maxHeartbeats 40000000 in
set_option maxRecDepth 100000 in
theorem db_X9_readCharacter_80 {p : Program} {l : Launch} {e : Env} {s : State} {m : MethodId} {args : Array Value} {below : List Frame} {meth : Method} {c : Code} {Q : State → Prop} {A : Nat → Prop} {dC : Nat → ClassId} {dI : Nat → Nat → Nat} {a : Nat → Nat} {ac : Nat → ClassId} {n : Nat} {r : St} (C : nd_C p l s m args c A (dC, dI) cX9_readCharacter 5 RX9 ow_dm_X9_readCharacter (dk_X9 ac)) (K : nd_Kv p l e (headSpec ow_dm_X9_readCharacter ({ frames := 1, cells := 0, slots := 0, locals := 24 })).room s m args below meth c Q A (dC, dI) cX9_readCharacter (St) (dw_X9 a ac) r) : dj_X9_readCharacter_80 p l e s m args below meth c Q A dC dI a ac (df_X9_readCharacter_80 n) r := by
  obtain ⟨hlt, hx, hb, hml, hown, hts, hN, hA, hK⟩ := id C
  intro x1 x2 x3 s0 H locs ls h hP hD hS hl
  unfold df_X9_readCharacter_80 at h
  refine lv_iconst (v := 1) hx hb dX9_readCharacter_80 (by decide) ?_
  refine lv_goto (tgt := 85) hx hb dX9_readCharacter_81 (by decide) ?_
  exact (db_X9_readCharacter_85 C K) (x1) (x2) (x3) (1) s0 _ _ _ h hP hD hS (lv_sub hl [0, 1, 2, 3] rfl)
set_option maxHeartbeats 40000000 in
set_option maxRecDepth 100000 in
theorem db_X9_readCharacter_55 {p : Program} {l : Launch} {e : Env} {s : State} {m : MethodId} {args : Array Value} {below : List Frame} {meth : Method} {c : Code} {Q : State → Prop} {A : Nat → Prop} {dC : Nat → ClassId} {dI : Nat → Nat → Nat} {a : Nat → Nat} {ac : Nat → ClassId} {n : Nat} {r : St} (C : nd_C p l s m args c A (dC, dI) cX9_readCharacter 5 RX9 ow_dm_X9_readCharacter (dk_X9 ac)) (K : nd_Kv p l e (headSpec ow_dm_X9_readCharacter ({ frames := 1, cells := 0, slots := 0, locals := 24 })).room s m args below meth c Q A (dC, dI) cX9_readCharacter (St) (dw_X9 a ac) r) : dj_X9_readCharacter_55 p l e s m args below meth c Q A dC dI a ac (df_X9_readCharacter_55 n) r := by
  obtain ⟨hlt, hx, hb, hml, hown, hts, hN, hA, hK⟩ := id C
  intro x1 x2 y0 s0 H locs ls h hP hD hS hl
  unfold df_X9_readCharacter_55 at h
  refine lv_istore_n (lv' := [(3, .int y0), (0, .ref (a 0)), (1, .int x1), (2, .int x2)]) hx hb dX9_readCharacter_55 rfl hl (by decide) rfl (fun ls hl => ?_)
  refine lv_iload_n hx hb dX9_readCharacter_56 rfl (lv_at hl 3 rfl) ?_
  refine lv_iconst (v := 1) hx hb dX9_readCharacter_57 (by decide) ?_
  refine lv_iadd hx hb dX9_readCharacter_58 ?_
  refine lv_aload_n hx hb dX9_readCharacter_59 rfl (lv_at hl 1 rfl) ?_
  refine va_get (D := (dC, dI)) (ci := 10) (v := .int (sI s0 1)) (C := RX9) (T := TX9) (N := 20) hx hb hts hi_dm_X9_readCharacter_X9 hown hK hP 0 rfl rfl 2 (by decide) (hts (.fieldLink RX9 64 "TimeMachine$Reader" "stop" "I") (List.mem_of_getElem? (i := 9) rfl)) (fun _ h9 => h9) rfl dX9_readCharacter_60 ?_
  refine lv_icmp_ge (tgt := 80) hx hb dX9_readCharacter_63 (by decide) (fun c9 => ?_) (fun c9 => ?_)
  · have h := nd_pos h c9
    exact (db_X9_readCharacter_80 C K) (x1) (x2) (y0) s0 _ _ _ h hP hD hS (lv_sub hl [1, 2, 3, 0] rfl)
  · have h := nd_neg h c9
    refine lv_aload_n hx hb dX9_readCharacter_66 rfl (lv_at hl 1 rfl) ?_
    obtain ⟨o16, h⟩ := nd_o_e h
    refine va_get (D := (dC, dI)) (ci := 10) (v := .ref (a 8)) (C := RX9) (T := TX9) (N := 20) hx hb hts hi_dm_X9_readCharacter_X9 hown hK hP 0 rfl rfl 0 (by decide) (hts (.fieldLink RX9 9 "TimeMachine$Reader" "source" "[B") (List.mem_of_getElem? (i := 17) rfl)) (fun _ h9 => h9) (congrArg (fun z => some (va_rf (Option.map a z))) o16) dX9_readCharacter_67 ?_
    refine lv_iload_n hx hb dX9_readCharacter_70 rfl (lv_at hl 3 rfl) ?_
    refine lv_iconst (v := 1) hx hb dX9_readCharacter_71 (by decide) ?_
    refine lv_iadd hx hb dX9_readCharacter_72 ?_
    obtain ⟨i17, h⟩ := nd_ck_e h
    refine va_bald (i := (x2 + 1)) hx hb hK hP 8 7 rfl rfl i17 dX9_readCharacter_73 ?_
    obtain ⟨q18, s19, hq, h⟩ := nd_b2_e h
    have hPc : va_P (dC, dI) vwCl (dw_P a ac ()) H := nd_p0
    have hDc : va_D A (dw_P a ac ()) := nd_d0
    have hKc : va_K (dC, dI) vwCl (dk_P ac) s := nd_y0 hK
    have hFc : ∀ q, va_A (dw_P a ac ()) H.size q → A q := nd_r0 hS hA
    refine nd_cSi (As := [.int (sR s0 7 (Int32.toNatClampNeg (x2 + 1)))]) (rest := []) (q := q18) (w' := dw_P a ac s19) ⟨hx, hb, hml, hown, hts⟩ (fun sz => dm_X9_isInName l hlt dC dI a ac n ((sR s0 7 (Int32.toNatClampNeg (x2 + 1)))) () hq sz) (cwS 1 hts gi_dm_X9_readCharacter_2 rfl rfl rfl (by decide +kernel) ⟨Nat.le_of_ble_eq_true rfl, Nat.le_of_ble_eq_true rfl⟩) hPc hDc hKc hS hA hN rfl hl.1 rfl (Nat.le_of_ble_eq_true rfl) dX9_readCharacter_74 (fun H locs hP1 hD1 hk1 hS => ?_)
    have hP := nd_n0 hP hk1
    refine lv_if_ne (tgt := 84) hx hb dX9_readCharacter_77 (by decide) (fun c21 => ?_) (fun c21 => ?_)
    · have h := nd_neg h c21
      refine lv_iconst (v := 0) hx hb dX9_readCharacter_84 (by decide) ?_
      exact (db_X9_readCharacter_85 C K) (x1) (x2) (y0) (0) s0 _ _ _ h hP hD hS (lv_sub hl [1, 2, 3, 0] rfl)
    · have h := nd_pos h c21
      exact (db_X9_readCharacter_80 C K) (x1) (x2) (y0) s0 _ _ _ h hP hD hS (lv_sub hl [1, 2, 3, 0] rfl)
set_option maxHeartbeats 40000000 in
set_option maxRecDepth 100000 in
theorem db_X9_readCharacter_54 {p : Program} {l : Launch} {e : Env} {s : State} {m : MethodId} {args : Array Value} {below : List Frame} {meth : Method} {c : Code} {Q : State → Prop} {A : Nat → Prop} {dC : Nat → ClassId} {dI : Nat → Nat → Nat} {a : Nat → Nat} {ac : Nat → ClassId} {n : Nat} {r : St} (C : nd_C p l s m args c A (dC, dI) cX9_readCharacter 5 RX9 ow_dm_X9_readCharacter (dk_X9 ac)) (K : nd_Kv p l e (headSpec ow_dm_X9_readCharacter ({ frames := 1, cells := 0, slots := 0, locals := 24 })).room s m args below meth c Q A (dC, dI) cX9_readCharacter (St) (dw_X9 a ac) r) : dj_X9_readCharacter_54 p l e s m args below meth c Q A dC dI a ac (df_X9_readCharacter_54 n) r := by
  obtain ⟨hlt, hx, hb, hml, hown, hts, hN, hA, hK⟩ := id C
  intro x1 x2 s0 H locs ls h hP hD hS hl
  unfold df_X9_readCharacter_54 at h
  refine lv_iconst (v := 0) hx hb dX9_readCharacter_54 (by decide) ?_
  exact (db_X9_readCharacter_55 C K) (x1) (x2) (0) s0 _ _ _ h hP hD hS (lv_sub hl [0, 1, 2] rfl)
set_option maxHeartbeats 40000000 in
set_option maxRecDepth 100000 in
theorem db_X9_readCharacter_0 {p : Program} {l : Launch} {e : Env} {s : State} {m : MethodId} {args : Array Value} {below : List Frame} {meth : Method} {c : Code} {Q : State → Prop} {A : Nat → Prop} {dC : Nat → ClassId} {dI : Nat → Nat → Nat} {a : Nat → Nat} {ac : Nat → ClassId} {n : Nat} {r : St} (C : nd_C p l s m args c A (dC, dI) cX9_readCharacter 5 RX9 ow_dm_X9_readCharacter (dk_X9 ac)) (K : nd_Kv p l e (headSpec ow_dm_X9_readCharacter ({ frames := 1, cells := 0, slots := 0, locals := 24 })).room s m args below meth c Q A (dC, dI) cX9_readCharacter (St) (dw_X9 a ac) r) : dj_X9_readCharacter_0 p l e s m args below meth c Q A dC dI a ac (df_X9_readCharacter_0 n) r := by
  obtain ⟨hlt, hx, hb, hml, hown, hts, hN, hA, hK⟩ := id C
  intro s0 H locs ls h hP hD hS hl
  unfold df_X9_readCharacter_0 at h
  refine lv_aload_n hx hb dX9_readCharacter_0 rfl (lv_at hl 0 rfl) ?_
  refine lv_aload_n hx hb dX9_readCharacter_1 rfl (lv_at hl 0 rfl) ?_
  refine va_get (D := (dC, dI)) (ci := 10) (v := .int (sI s0 3)) (C := RX9) (T := TX9) (N := 20) hx hb hts hi_dm_X9_readCharacter_X9 hown hK hP 0 rfl rfl 4 (by decide) (hts (.fieldLink RX9 70 "TimeMachine$Reader" "from" "I") (List.mem_of_getElem? (i := 1) rfl)) (fun _ h9 => h9) rfl dX9_readCharacter_2 ?_
  refine lv_iconst (v := 1) hx hb dX9_readCharacter_5 (by decide) ?_
  refine lv_iadd hx hb dX9_readCharacter_6 ?_
  refine lv_bipush (v := 39) hx hb dX9_readCharacter_7 (by decide) ?_
  obtain ⟨q1, s2, hq, h⟩ := nd_b2_e h
  have hPc := hP
  have hDc := hD
  have hKc := hK
  have hFc := nd_rs hD hS hA
  refine nd_cVi (As := [.int ((sI s0 3) + 1), .int 39]) (rest := []) (q := q1) (w' := dw_X9 a ac s2) ⟨hx, hb, hml, hown, hts⟩ (fun sz => dm_X9_character l hlt dC dI a ac n (((sI s0 3) + 1)) (39) s0 hq sz) (cwV 2 hts gi_dm_X9_readCharacter_0 rfl rfl rfl (by decide +kernel) ⟨Nat.le_of_ble_eq_true rfl, Nat.le_of_ble_eq_true rfl⟩) hPc hDc hKc hS hA hN (va_recv hKc hPc (ci := 10) (q0 := 0) rfl rfl) rfl hl.1 rfl (Nat.le_of_ble_eq_true rfl) dX9_readCharacter_9 (fun H locs hP1 hD1 hk1 hS => ?_)
  have hP := hP1
  have hD := hD1.weaken (fun k q _ h => hFc q.1 h)
  refine lv_istore_n (lv' := [(1, .int q1), (0, .ref (a 0))]) hx hb dX9_readCharacter_12 rfl hl (by decide) rfl (fun ls hl => ?_)
  refine lv_aload_n hx hb dX9_readCharacter_13 rfl (lv_at hl 1 rfl) ?_
  refine va_get (D := (dC, dI)) (ci := 10) (v := .int (sI s2 3)) (C := RX9) (T := TX9) (N := 20) hx hb hts hi_dm_X9_readCharacter_X9 hown hK hP 0 rfl rfl 4 (by decide) (hts (.fieldLink RX9 70 "TimeMachine$Reader" "from" "I") (List.mem_of_getElem? (i := 1) rfl)) (fun _ h9 => h9) rfl dX9_readCharacter_14 ?_
  refine lv_iconst (v := 1) hx hb dX9_readCharacter_17 (by decide) ?_
  refine lv_iadd hx hb dX9_readCharacter_18 ?_
  refine lv_aload_n hx hb dX9_readCharacter_19 rfl (lv_at hl 1 rfl) ?_
  refine lv_aload_n hx hb dX9_readCharacter_20 rfl (lv_at hl 1 rfl) ?_
  refine va_get (D := (dC, dI)) (ci := 10) (v := .int (sI s2 3)) (C := RX9) (T := TX9) (N := 20) hx hb hts hi_dm_X9_readCharacter_X9 hown hK hP 0 rfl rfl 4 (by decide) (hts (.fieldLink RX9 70 "TimeMachine$Reader" "from" "I") (List.mem_of_getElem? (i := 1) rfl)) (fun _ h9 => h9) rfl dX9_readCharacter_21 ?_
  refine lv_iconst (v := 1) hx hb dX9_readCharacter_24 (by decide) ?_
  refine lv_iadd hx hb dX9_readCharacter_25 ?_
  obtain ⟨q4, s5, hq, h⟩ := nd_b2_e h
  have hPc := hP
  have hDc := hD
  have hKc := hK
  have hFc := nd_rs hD hS hA
  refine nd_cVi (As := [.int ((sI s2 3) + 1)]) (rest := [.int ((sI s2 3) + 1)]) (q := q4) (w' := dw_X9 a ac s5) ⟨hx, hb, hml, hown, hts⟩ (fun sz => dm_X9_width l hlt dC dI a ac n (((sI s2 3) + 1)) s2 hq sz) (cwV 1 hts gi_dm_X9_readCharacter_1 rfl rfl rfl (by decide +kernel) ⟨Nat.le_of_ble_eq_true rfl, Nat.le_of_ble_eq_true rfl⟩) hPc hDc hKc hS hA hN (va_recv hKc hPc (ci := 10) (q0 := 0) rfl rfl) rfl hl.1 rfl (Nat.le_of_ble_eq_true rfl) dX9_readCharacter_26 (fun H locs hP1 hD1 hk1 hS => ?_)
  have hP := hP1
  have hD := hD1.weaken (fun k q _ h => hFc q.1 h)
  refine lv_iadd hx hb dX9_readCharacter_29 ?_
  refine lv_topi (fun z7 ez7 => ?_)
  have h := nd_at h ez7
  refine lv_istore_n (lv' := [(2, .int z7), (1, .int q1), (0, .ref (a 0))]) hx hb dX9_readCharacter_30 rfl hl (by decide) rfl (fun ls hl => ?_)
  refine lv_iload_n hx hb dX9_readCharacter_31 rfl (lv_at hl 0 rfl) ?_
  refine lv_aload_n hx hb dX9_readCharacter_32 rfl (lv_at hl 2 rfl) ?_
  refine va_get (D := (dC, dI)) (ci := 10) (v := .int (sI s5 1)) (C := RX9) (T := TX9) (N := 20) hx hb hts hi_dm_X9_readCharacter_X9 hown hK hP 0 rfl rfl 2 (by decide) (hts (.fieldLink RX9 64 "TimeMachine$Reader" "stop" "I") (List.mem_of_getElem? (i := 9) rfl)) (fun _ h9 => h9) rfl dX9_readCharacter_33 ?_
  refine lv_icmp_ge (tgt := 54) hx hb dX9_readCharacter_36 (by decide) (fun c8 => ?_) (fun c8 => ?_)
  · have h := nd_pos h c8
    exact (db_X9_readCharacter_54 C K) (q1) (z7) s5 _ _ _ h hP hD hS (lv_sub hl [2, 1, 0] rfl)
  · have h := nd_neg h c8
    refine lv_aload_n hx hb dX9_readCharacter_39 rfl (lv_at hl 2 rfl) ?_
    obtain ⟨o22, h⟩ := nd_o_e h
    refine va_get (D := (dC, dI)) (ci := 10) (v := .ref (a 8)) (C := RX9) (T := TX9) (N := 20) hx hb hts hi_dm_X9_readCharacter_X9 hown hK hP 0 rfl rfl 0 (by decide) (hts (.fieldLink RX9 9 "TimeMachine$Reader" "source" "[B") (List.mem_of_getElem? (i := 17) rfl)) (fun _ h9 => h9) (congrArg (fun z => some (va_rf (Option.map a z))) o22) dX9_readCharacter_40 ?_
    refine lv_iload_n hx hb dX9_readCharacter_43 rfl (lv_at hl 0 rfl) ?_
    obtain ⟨i23, h⟩ := nd_ck_e h
    refine va_bald (i := z7) hx hb hK hP 8 7 rfl rfl i23 dX9_readCharacter_44 ?_
    refine lv_bipush (v := 39) hx hb dX9_readCharacter_45 (by decide) ?_
    refine lv_icmp_ne (tgt := 54) hx hb dX9_readCharacter_47 (by decide) (fun c24 => ?_) (fun c24 => ?_)
    · have h := nd_neg h c24
      exact (db_X9_readCharacter_54 C K) (q1) (z7) s5 _ _ _ h hP hD hS (lv_sub hl [2, 1, 0] rfl)
    · have h := nd_pos h c24
      refine lv_iconst (v := 1) hx hb dX9_readCharacter_50 (by decide) ?_
      refine lv_goto (tgt := 55) hx hb dX9_readCharacter_51 (by decide) ?_
      exact (db_X9_readCharacter_55 C K) (q1) (z7) (1) s5 _ _ _ h hP hD hS (lv_sub hl [2, 1, 0] rfl)
set_option maxHeartbeats 40000000 in
set_option maxRecDepth 100000 in
theorem dm_X9_readCharacter (l : Launch) (hlt : l.stackTraces = false) (dC : Nat → ClassId) (dI : Nat → Nat → Nat) (a : Nat → Nat) (ac : Nat → ClassId) (n : Nat) (s0 : St) {r : St} (h : df_X9_readCharacter n s0 = some r) (sz : Nat) : Met l yX9_readCharacter ow_dm_X9_readCharacter ({ frames := 1, cells := 0, slots := 0, locals := 24 }) (va_Pc [.ref (a 0)] (fun U => U.heap.size = sz ∧ va_P (dC, dI) vwCl (dw_X9 a ac s0) U.heap ∧ va_K (dC, dI) vwCl (dk_X9 ac) U ∧ va_D (fun _ => True) (dw_X9 a ac s0) ∧ nv_E (va_A (dw_X9 a ac s0) sz) U)) (va_Qv (fun _ => True) (fun (_ : Unit) t => va_P (dC, dI) vwCl (dw_X9 a ac r) t.heap ∧ va_K (dC, dI) vwCl (dk_X9 ac) t ∧ va_D (va_A (dw_X9 a ac s0) sz) (dw_X9 a ac r)) (va_A (dw_X9 a ac s0) sz)) 0 0 (va_A (dw_X9 a ac s0) sz) := by
  refine Met.ofW (cc := cX9_readCharacter) (maxL := 5) (ret := none) (by decide) rfl ?_
  intro p e s m args below meth c s₁ B hml hv
  obtain ⟨rfl, hsz, hP, hK, hD0, hN⟩ := hv
  have hx := B.exec
  have hb := B.bytes
  have hr := B.returns
  have hts := atoms_spec (ws := ow_dm_X9_readCharacter) B.pre
  have hown : s.vm.findClass RX9 = some m.cls := findClass_of_methodNamed B.named
  have hlocks := B.notSynchronized
  subst hsz
  have hD := hD0.self (sz := s.heap.size)
  generalize hAe : va_A (dw_X9 a ac s0) s.heap.size = A at hD hN ⊢
  have hA : ∀ q : Nat, s.heap.size ≤ q → A q := fun q h => by rw [← hAe]; exact Or.inr h
  have hl := lv_entry ([.ref (a 0)]) (n := 5) (Nat.le_of_ble_eq_true rfl)
  rw [lg_entry_eq]
  generalize (lg_sl ([.ref (a 0)]) ++ List.replicate (5 - (lg_sl ([.ref (a 0)])).length) Slot.unset).toArray = ls at hl ⊢
  have hl : lv_has ls 5 [(0, .ref (a 0))] := hl
  exact db_X9_readCharacter_0 (dC := dC) (dI := dI) (a := a) (ac := ac) (n := n) (r := r) ⟨hlt, hx, hb, hml, hown, hts, hN, hA, hK⟩ (fun pc τ H locs ls d er hP hD hS => by subst er; exact W.vret hx hb hr (fun t ht hW => ⟨⟨(), rfl, trivial, by rw [ht]; exact hP, va_K.moved hW.alike hK, hD⟩, hS.F ht⟩) hS.2.2 d) s0 _ _ _ h hP hD va_S.rf (lv_sub hl [0] rfl)
def ow_dm_X9_readText : List Cond := .code yX9_readText cX9_readText 2 none :: ([.fieldLink RX9 70 "TimeMachine$Reader" "from" "I", .fieldLink RX9 64 "TimeMachine$Reader" "stop" "I", .fieldLink RX9 73 "TimeMachine$Reader" "kind" "I", .methodLink RX9 58 Lib.Math.min.name, .static Lib.Math.min.name, .initialized "java/lang/Math", .code Lib.Math.min.name Lib.Math.min.code 2 (some .int), .fieldLink RX9 55 "TimeMachine$Reader" "at" "I", .fieldLink RX9 9 "TimeMachine$Reader" "source" "[B", .methodLink RX9 98 yX9_character, .instanceMethod yX9_character, .selects RX9 yX9_character yX9_character, .initialized RX9, .methodLink RX9 101 yX9_width, .instanceMethod yX9_width, .selects RX9 yX9_width yX9_width] ++ (u_ws RX9 TX9 20 ++ (ow_dm_X9_character ++ (ow_dm_X9_width ++ []))))
theorem gd_dm_X9_readText : ∀ w ∈ ow_dm_X9_readText, (w.onTables && w.keeps) = true ∨ ∃ ty, w = Cond.arrayClass ty := List.forall_mem_cons.mpr ⟨good_of_word rfl, List.forall_mem_append.mpr ⟨fun w h => good_of_word (List.all_eq_true.mp (by decide +kernel) w h), List.forall_mem_append.mpr ⟨gu_X9, List.forall_mem_append.mpr ⟨gd_dm_X9_character, List.forall_mem_append.mpr ⟨gd_dm_X9_width, fun _ h => nomatch h⟩⟩⟩⟩⟩
theorem hi_dm_X9_readText_X9 : ∀ w ∈ u_ws RX9 TX9 20, w ∈ ow_dm_X9_readText := fun w h => List.mem_cons_of_mem _ (List.mem_append_right _ (List.mem_append_left _ h))
theorem gi_dm_X9_readText_0 : GoodIn ow_dm_X9_readText (wsV RX9 98 RX9 yX9_character ow_dm_X9_character) := goodIn_app (goodIn_of _ (by decide +kernel)) (fun w h => ⟨List.mem_cons_of_mem _ (List.mem_append_right _ (List.mem_append_right _ (List.mem_append_left _ h))), gd_dm_X9_character w h⟩)
theorem gi_dm_X9_readText_1 : GoodIn ow_dm_X9_readText (wsV RX9 101 RX9 yX9_width ow_dm_X9_width) := goodIn_app (goodIn_of _ (by decide +kernel)) (fun w h => ⟨List.mem_cons_of_mem _ (List.mem_append_right _ (List.mem_append_right _ (List.mem_append_right _ (List.mem_append_left _ h)))), gd_dm_X9_width w h⟩)
def dj_X9_readText_62 (p : Program) (l : Launch) (e : Env) (s : State) (m : MethodId) (args : Array Value) (below : List Frame) (meth : Method) (c : Code) (Q : State → Prop) (A : Nat → Prop) (dC : Nat → ClassId) (dI : Nat → Nat → Nat) (a : Nat → Nat) (ac : Nat → ClassId) (g : Int32 → Int32 → (St) → Option (St)) (r : St) : Prop := ∀ (x1 : Int32) (y1 : Int32) (s0 : St) (H : Heap) (locs : List Loc) (ls : Array Slot), g x1 y1 s0 = some r → va_P (dC, dI) vwCl (dw_X9 a ac s0) H → va_D A (dw_X9 a ac s0) → va_S A s.heap H locs → lv_has ls 2 [(0, .ref (a 0)), (1, .int x1)] → W p l e (headSpec ow_dm_X9_readText ({ frames := 1, cells := 0, slots := 0, locals := 24 })).room s m args below meth c H locs 0 0 Q (F0 m 62 ls [.int y1, .ref (a 0)])
def dj_X9_readText_60 (p : Program) (l : Launch) (e : Env) (s : State) (m : MethodId) (args : Array Value) (below : List Frame) (meth : Method) (c : Code) (Q : State → Prop) (A : Nat → Prop) (dC : Nat → ClassId) (dI : Nat → Nat → Nat) (a : Nat → Nat) (ac : Nat → ClassId) (g : Int32 → (St) → Option (St)) (r : St) : Prop := ∀ (x1 : Int32) (s0 : St) (H : Heap) (locs : List Loc) (ls : Array Slot), g x1 s0 = some r → va_P (dC, dI) vwCl (dw_X9 a ac s0) H → va_D A (dw_X9 a ac s0) → va_S A s.heap H locs → lv_has ls 2 [(0, .ref (a 0)), (1, .int x1)] → W p l e (headSpec ow_dm_X9_readText ({ frames := 1, cells := 0, slots := 0, locals := 24 })).room s m args below meth c H locs 0 0 Q (F0 m 60 ls [.ref (a 0)])
def dj_X9_readText_36 (p : Program) (l : Launch) (e : Env) (s : State) (m : MethodId) (args : Array Value) (below : List Frame) (meth : Method) (c : Code) (Q : State → Prop) (A : Nat → Prop) (dC : Nat → ClassId) (dI : Nat → Nat → Nat) (a : Nat → Nat) (ac : Nat → ClassId) (g : Int32 → (St) → Option (St)) (r : St) : Prop := ∀ (x1 : Int32) (s0 : St) (H : Heap) (locs : List Loc) (ls : Array Slot), g x1 s0 = some r → va_P (dC, dI) vwCl (dw_X9 a ac s0) H → va_D A (dw_X9 a ac s0) → va_S A s.heap H locs → lv_has ls 2 [(0, .ref (a 0)), (1, .int x1)] → W p l e (headSpec ow_dm_X9_readText ({ frames := 1, cells := 0, slots := 0, locals := 24 })).room s m args below meth c H locs 0 0 Q (F0 m 36 ls [])
def dj_X9_readText_7 (p : Program) (l : Launch) (e : Env) (s : State) (m : MethodId) (args : Array Value) (below : List Frame) (meth : Method) (c : Code) (Q : State → Prop) (A : Nat → Prop) (dC : Nat → ClassId) (dI : Nat → Nat → Nat) (a : Nat → Nat) (ac : Nat → ClassId) (g : Int32 → (St) → Option (St)) (r : St) : Prop := ∀ (x1 : Int32) (s0 : St) (H : Heap) (locs : List Loc) (ls : Array Slot), g x1 s0 = some r → va_P (dC, dI) vwCl (dw_X9 a ac s0) H → va_D A (dw_X9 a ac s0) → va_S A s.heap H locs → lv_has ls 2 [(0, .ref (a 0)), (1, .int x1)] → W p l e (headSpec ow_dm_X9_readText ({ frames := 1, cells := 0, slots := 0, locals := 24 })).room s m args below meth c H locs 0 0 Q (F0 m 7 ls [])
def dj_X9_readText_0 (p : Program) (l : Launch) (e : Env) (s : State) (m : MethodId) (args : Array Value) (below : List Frame) (meth : Method) (c : Code) (Q : State → Prop) (A : Nat → Prop) (dC : Nat → ClassId) (dI : Nat → Nat → Nat) (a : Nat → Nat) (ac : Nat → ClassId) (g : (St) → Option (St)) (r : St) : Prop := ∀ (s0 : St) (H : Heap) (locs : List Loc) (ls : Array Slot), g s0 = some r → va_P (dC, dI) vwCl (dw_X9 a ac s0) H → va_D A (dw_X9 a ac s0) → va_S A s.heap H locs → lv_has ls 2 [(0, .ref (a 0))] → W p l e (headSpec ow_dm_X9_readText ({ frames := 1, cells := 0, slots := 0, locals := 24 })).room s m args below meth c H locs 0 0 Q (F0 m 0 ls [])
set_option maxHeartbeats 40000000 in
set_option maxRecDepth 100000 in
theorem db_X9_readText_62 {p : Program} {l : Launch} {e : Env} {s : State} {m : MethodId} {args : Array Value} {below : List Frame} {meth : Method} {c : Code} {Q : State → Prop} {A : Nat → Prop} {dC : Nat → ClassId} {dI : Nat → Nat → Nat} {a : Nat → Nat} {ac : Nat → ClassId} {n : Nat} {r : St} (C : nd_C p l s m args c A (dC, dI) cX9_readText 2 RX9 ow_dm_X9_readText (dk_X9 ac)) (K : nd_Kv p l e (headSpec ow_dm_X9_readText ({ frames := 1, cells := 0, slots := 0, locals := 24 })).room s m args below meth c Q A (dC, dI) cX9_readText (St) (dw_X9 a ac) r) : dj_X9_readText_62 p l e s m args below meth c Q A dC dI a ac (df_X9_readText_62 n) r := by
  obtain ⟨hlt, hx, hb, hml, hown, hts, hN, hA, hK⟩ := id C
  intro x1 y1 s0 H locs ls h hP hD hS hl
  unfold df_X9_readText_62 at h
  refine va_put (D := (dC, dI)) (ci := 10) (v := .int y1) (ty := .int) (C := RX9) (T := TX9) (N := 20) hx hb hts hi_dm_X9_readText_X9 tyX9 tyX9_ok nmX9 hown hK hP hD hS 0 rfl rfl 3 (by decide) (hts (.fieldLink RX9 73 "TimeMachine$Reader" "kind" "I") (List.mem_of_getElem? (i := 3) rfl)) (fun _ h9 => h9) rfl (by decide +kernel) rfl rfl (Nat.le_of_ble_eq_true rfl) dX9_readText_62 (fun H locs hP hD hS => ?_)
  obtain ⟨s4, es4, h⟩ := nd_let_e h
  have hP : va_P (dC, dI) vwCl (dw_X9 a ac s4) H := by rw [es4]; exact hP
  have hD : va_D A (dw_X9 a ac s4) := by rw [es4]; exact hD
  refine lv_aload_n hx hb dX9_readText_65 rfl (lv_at hl 0 rfl) ?_
  refine lv_iload_n hx hb dX9_readText_66 rfl (lv_at hl 1 rfl) ?_
  refine lv_iconst (v := 1) hx hb dX9_readText_67 (by decide) ?_
  refine lv_iadd hx hb dX9_readText_68 ?_
  refine lv_aload_n hx hb dX9_readText_69 rfl (lv_at hl 0 rfl) ?_
  refine va_get (D := (dC, dI)) (ci := 10) (v := .int (sI s4 1)) (C := RX9) (T := TX9) (N := 20) hx hb hts hi_dm_X9_readText_X9 hown hK hP 0 rfl rfl 2 (by decide) (hts (.fieldLink RX9 64 "TimeMachine$Reader" "stop" "I") (List.mem_of_getElem? (i := 2) rfl)) (fun _ h9 => h9) rfl dX9_readText_70 ?_
  refine va_mmin hx hb (by rw [hml]; exact hl.1.symm) hown (hts (.methodLink RX9 58 Lib.Math.min.name) (List.mem_of_getElem? (i := 4) rfl)) (hts (.static Lib.Math.min.name) (List.mem_of_getElem? (i := 5) rfl)) (hts (.initialized "java/lang/Math") (List.mem_of_getElem? (i := 6) rfl)) (hts (.code Lib.Math.min.name Lib.Math.min.code 2 (some .int)) (List.mem_of_getElem? (i := 7) rfl)) (Nat.le_of_ble_eq_true rfl) (Nat.le_of_ble_eq_true rfl) (by decide +kernel) (by decide +kernel) dX9_readText_73 ?_
  refine va_put (D := (dC, dI)) (ci := 10) (v := .int (if ((sI s4 1) : Int32) < (x1 + 1) then (sI s4 1) else (x1 + 1))) (ty := .int) (C := RX9) (T := TX9) (N := 20) hx hb hts hi_dm_X9_readText_X9 tyX9 tyX9_ok nmX9 hown hK hP hD hS 0 rfl rfl 1 (by decide) (hts (.fieldLink RX9 55 "TimeMachine$Reader" "at" "I") (List.mem_of_getElem? (i := 8) rfl)) (fun _ h9 => h9) rfl (by decide +kernel) rfl rfl (Nat.le_of_ble_eq_true rfl) dX9_readText_76 (fun H locs hP hD hS => ?_)
  obtain ⟨s5, es5, h⟩ := nd_let_e h
  have hP : va_P (dC, dI) vwCl (dw_X9 a ac s5) H := by rw [es5]; exact hP
  have hD : va_D A (dw_X9 a ac s5) := by rw [es5]; exact hD
  exact K _ _ _ _ _ dX9_readText_79 (Option.some.inj h).symm hP hD hS
set_option maxHeartbeats 40000000 in
set_option maxRecDepth 100000 in
theorem db_X9_readText_60 {p : Program} {l : Launch} {e : Env} {s : State} {m : MethodId} {args : Array Value} {below : List Frame} {meth : Method} {c : Code} {Q : State → Prop} {A : Nat → Prop} {dC : Nat → ClassId} {dI : Nat → Nat → Nat} {a : Nat → Nat} {ac : Nat → ClassId} {n : Nat} {r : St} (C : nd_C p l s m args c A (dC, dI) cX9_readText 2 RX9 ow_dm_X9_readText (dk_X9 ac)) (K : nd_Kv p l e (headSpec ow_dm_X9_readText ({ frames := 1, cells := 0, slots := 0, locals := 24 })).room s m args below meth c Q A (dC, dI) cX9_readText (St) (dw_X9 a ac) r) : dj_X9_readText_60 p l e s m args below meth c Q A dC dI a ac (df_X9_readText_60 n) r := by
  obtain ⟨hlt, hx, hb, hml, hown, hts, hN, hA, hK⟩ := id C
  intro x1 s0 H locs ls h hP hD hS hl
  unfold df_X9_readText_60 at h
  refine lv_bipush (v := 6) hx hb dX9_readText_60 (by decide) ?_
  exact (db_X9_readText_62 C K) (x1) (6) s0 _ _ _ h hP hD hS (lv_sub hl [0, 1] rfl)
set_option maxHeartbeats 40000000 in
set_option maxRecDepth 100000 in
theorem db_X9_readText_36 {p : Program} {l : Launch} {e : Env} {s : State} {m : MethodId} {args : Array Value} {below : List Frame} {meth : Method} {c : Code} {Q : State → Prop} {A : Nat → Prop} {dC : Nat → ClassId} {dI : Nat → Nat → Nat} {a : Nat → Nat} {ac : Nat → ClassId} {n : Nat} {r : St} (C : nd_C p l s m args c A (dC, dI) cX9_readText 2 RX9 ow_dm_X9_readText (dk_X9 ac)) (K : nd_Kv p l e (headSpec ow_dm_X9_readText ({ frames := 1, cells := 0, slots := 0, locals := 24 })).room s m args below meth c Q A (dC, dI) cX9_readText (St) (dw_X9 a ac) r) : dj_X9_readText_36 p l e s m args below meth c Q A dC dI a ac (df_X9_readText_36 n) r := by
  obtain ⟨hlt, hx, hb, hml, hown, hts, hN, hA, hK⟩ := id C
  intro x1 s0 H locs ls h hP hD hS hl
  unfold df_X9_readText_36 at h
  refine lv_aload_n hx hb dX9_readText_36 rfl (lv_at hl 0 rfl) ?_
  refine lv_iload_n hx hb dX9_readText_37 rfl (lv_at hl 1 rfl) ?_
  refine lv_aload_n hx hb dX9_readText_38 rfl (lv_at hl 0 rfl) ?_
  refine va_get (D := (dC, dI)) (ci := 10) (v := .int (sI s0 1)) (C := RX9) (T := TX9) (N := 20) hx hb hts hi_dm_X9_readText_X9 hown hK hP 0 rfl rfl 2 (by decide) (hts (.fieldLink RX9 64 "TimeMachine$Reader" "stop" "I") (List.mem_of_getElem? (i := 2) rfl)) (fun _ h9 => h9) rfl dX9_readText_39 ?_
  refine lv_icmp_ge (tgt := 60) hx hb dX9_readText_42 (by decide) (fun c3 => ?_) (fun c3 => ?_)
  · have h := nd_pos h c3
    exact (db_X9_readText_60 C K) (x1) s0 _ _ _ h hP hD hS (lv_sub hl [0, 1] rfl)
  · have h := nd_neg h c3
    refine lv_aload_n hx hb dX9_readText_45 rfl (lv_at hl 0 rfl) ?_
    obtain ⟨o6, h⟩ := nd_o_e h
    refine va_get (D := (dC, dI)) (ci := 10) (v := .ref (a 8)) (C := RX9) (T := TX9) (N := 20) hx hb hts hi_dm_X9_readText_X9 hown hK hP 0 rfl rfl 0 (by decide) (hts (.fieldLink RX9 9 "TimeMachine$Reader" "source" "[B") (List.mem_of_getElem? (i := 9) rfl)) (fun _ h9 => h9) (congrArg (fun z => some (va_rf (Option.map a z))) o6) dX9_readText_46 ?_
    refine lv_iload_n hx hb dX9_readText_49 rfl (lv_at hl 1 rfl) ?_
    obtain ⟨i7, h⟩ := nd_ck_e h
    refine va_bald (i := x1) hx hb hK hP 8 7 rfl rfl i7 dX9_readText_50 ?_
    refine lv_bipush (v := 34) hx hb dX9_readText_51 (by decide) ?_
    refine lv_icmp_ne (tgt := 60) hx hb dX9_readText_53 (by decide) (fun c8 => ?_) (fun c8 => ?_)
    · have h := nd_neg h c8
      exact (db_X9_readText_60 C K) (x1) s0 _ _ _ h hP hD hS (lv_sub hl [0, 1] rfl)
    · have h := nd_pos h c8
      refine lv_iconst (v := 4) hx hb dX9_readText_56 (by decide) ?_
      refine lv_goto (tgt := 62) hx hb dX9_readText_57 (by decide) ?_
      exact (db_X9_readText_62 C K) (x1) (4) s0 _ _ _ h hP hD hS (lv_sub hl [0, 1] rfl)
set_option maxHeartbeats 40000000 in
set_option maxRecDepth 100000 in
theorem dB_X9_readText_7 {p : Program} {l : Launch} {e : Env} {s : State} {m : MethodId} {args : Array Value} {below : List Frame} {meth : Method} {c : Code} {Q : State → Prop} {A : Nat → Prop} {dC : Nat → ClassId} {dI : Nat → Nat → Nat} {a : Nat → Nat} {ac : Nat → ClassId} {n : Nat} {r : St} (C : nd_C p l s m args c A (dC, dI) cX9_readText 2 RX9 ow_dm_X9_readText (dk_X9 ac)) (K : nd_Kv p l e (headSpec ow_dm_X9_readText ({ frames := 1, cells := 0, slots := 0, locals := 24 })).room s m args below meth c Q A (dC, dI) cX9_readText (St) (dw_X9 a ac) r) {g7 : Int32 → (St) → Option (St)} (J7 : dj_X9_readText_7 p l e s m args below meth c Q A dC dI a ac g7 r) : dj_X9_readText_7 p l e s m args below meth c Q A dC dI a ac (dF_X9_readText_7 n g7) r := by
  obtain ⟨hlt, hx, hb, hml, hown, hts, hN, hA, hK⟩ := id C
  intro x1 s0 H locs ls h hP hD hS hl
  unfold dF_X9_readText_7 at h
  refine lv_iload_n hx hb dX9_readText_7 rfl (lv_at hl 1 rfl) ?_
  refine lv_aload_n hx hb dX9_readText_8 rfl (lv_at hl 0 rfl) ?_
  refine va_get (D := (dC, dI)) (ci := 10) (v := .int (sI s0 1)) (C := RX9) (T := TX9) (N := 20) hx hb hts hi_dm_X9_readText_X9 hown hK hP 0 rfl rfl 2 (by decide) (hts (.fieldLink RX9 64 "TimeMachine$Reader" "stop" "I") (List.mem_of_getElem? (i := 2) rfl)) (fun _ h9 => h9) rfl dX9_readText_9 ?_
  refine lv_icmp_ge (tgt := 36) hx hb dX9_readText_12 (by decide) (fun c2 => ?_) (fun c2 => ?_)
  · have h := nd_pos h c2
    exact (db_X9_readText_36 C K) (x1) s0 _ _ _ h hP hD hS (lv_sub hl [0, 1] rfl)
  · have h := nd_neg h c2
    refine lv_aload_n hx hb dX9_readText_15 rfl (lv_at hl 0 rfl) ?_
    refine lv_iload_n hx hb dX9_readText_16 rfl (lv_at hl 1 rfl) ?_
    refine lv_bipush (v := 34) hx hb dX9_readText_17 (by decide) ?_
    obtain ⟨q9, s10, hq, h⟩ := nd_b2_e h
    have hPc := hP
    have hDc := hD
    have hKc := hK
    have hFc := nd_rs hD hS hA
    refine nd_cVi (As := [.int x1, .int 34]) (rest := []) (q := q9) (w' := dw_X9 a ac s10) ⟨hx, hb, hml, hown, hts⟩ (fun sz => dm_X9_character l hlt dC dI a ac n (x1) (34) s0 hq sz) (cwV 2 hts gi_dm_X9_readText_0 rfl rfl rfl (by decide +kernel) ⟨Nat.le_of_ble_eq_true rfl, Nat.le_of_ble_eq_true rfl⟩) hPc hDc hKc hS hA hN (va_recv hKc hPc (ci := 10) (q0 := 0) rfl rfl) rfl hl.1 rfl (Nat.le_of_ble_eq_true rfl) dX9_readText_19 (fun H locs hP1 hD1 hk1 hS => ?_)
    have hP := hP1
    have hD := hD1.weaken (fun k q _ h => hFc q.1 h)
    refine lv_if_lt (tgt := 36) hx hb dX9_readText_22 (by decide) (fun c12 => ?_) (fun c12 => ?_)
    · have h := nd_pos h c12
      exact (db_X9_readText_36 C K) (x1) s10 _ _ _ h hP hD hS (lv_sub hl [0, 1] rfl)
    · have h := nd_neg h c12
      refine lv_iload_n hx hb dX9_readText_25 rfl (lv_at hl 1 rfl) ?_
      refine lv_aload_n hx hb dX9_readText_26 rfl (lv_at hl 0 rfl) ?_
      refine lv_iload_n hx hb dX9_readText_27 rfl (lv_at hl 1 rfl) ?_
      obtain ⟨q13, s14, hq, h⟩ := nd_b2_e h
      have hPc := hP
      have hDc := hD
      have hKc := hK
      have hFc := nd_rs hD hS hA
      refine nd_cVi (As := [.int x1]) (rest := [.int x1]) (q := q13) (w' := dw_X9 a ac s14) ⟨hx, hb, hml, hown, hts⟩ (fun sz => dm_X9_width l hlt dC dI a ac n (x1) s10 hq sz) (cwV 1 hts gi_dm_X9_readText_1 rfl rfl rfl (by decide +kernel) ⟨Nat.le_of_ble_eq_true rfl, Nat.le_of_ble_eq_true rfl⟩) hPc hDc hKc hS hA hN (va_recv hKc hPc (ci := 10) (q0 := 0) rfl rfl) rfl hl.1 rfl (Nat.le_of_ble_eq_true rfl) dX9_readText_28 (fun H locs hP1 hD1 hk1 hS => ?_)
      have hP := hP1
      have hD := hD1.weaken (fun k q _ h => hFc q.1 h)
      refine lv_iadd hx hb dX9_readText_31 ?_
      refine lv_topi (fun z16 ez16 => ?_)
      have h := nd_at h ez16
      refine lv_istore_n (lv' := [(1, .int z16), (0, .ref (a 0))]) hx hb dX9_readText_32 rfl hl (by decide) rfl (fun ls hl => ?_)
      refine lv_goto (tgt := 7) hx hb dX9_readText_33 (by decide) ?_
      exact (J7) (z16) s14 _ _ _ h hP hD hS (lv_sub hl [1, 0] rfl)
set_option maxHeartbeats 40000000 in
set_option maxRecDepth 100000 in
theorem db_X9_readText_7 {p : Program} {l : Launch} {e : Env} {s : State} {m : MethodId} {args : Array Value} {below : List Frame} {meth : Method} {c : Code} {Q : State → Prop} {A : Nat → Prop} {dC : Nat → ClassId} {dI : Nat → Nat → Nat} {a : Nat → Nat} {ac : Nat → ClassId} {n : Nat} {r : St} (C : nd_C p l s m args c A (dC, dI) cX9_readText 2 RX9 ow_dm_X9_readText (dk_X9 ac)) (K : nd_Kv p l e (headSpec ow_dm_X9_readText ({ frames := 1, cells := 0, slots := 0, locals := 24 })).room s m args below meth c Q A (dC, dI) cX9_readText (St) (dw_X9 a ac) r) (k : Nat) : dj_X9_readText_7 p l e s m args below meth c Q A dC dI a ac (df_X9_readText_7 n k) r := by
  induction k with
  | zero => intro x1 s0 H locs ls h; exact nomatch (show (none : Option (St)) = some r from h)
  | succ k ih => exact dB_X9_readText_7 C K ih
set_option maxHeartbeats 40000000 in
set_option maxRecDepth 100000 in
theorem db_X9_readText_0 {p : Program} {l : Launch} {e : Env} {s : State} {m : MethodId} {args : Array Value} {below : List Frame} {meth : Method} {c : Code} {Q : State → Prop} {A : Nat → Prop} {dC : Nat → ClassId} {dI : Nat → Nat → Nat} {a : Nat → Nat} {ac : Nat → ClassId} {n : Nat} {r : St} (C : nd_C p l s m args c A (dC, dI) cX9_readText 2 RX9 ow_dm_X9_readText (dk_X9 ac)) (K : nd_Kv p l e (headSpec ow_dm_X9_readText ({ frames := 1, cells := 0, slots := 0, locals := 24 })).room s m args below meth c Q A (dC, dI) cX9_readText (St) (dw_X9 a ac) r) : dj_X9_readText_0 p l e s m args below meth c Q A dC dI a ac (df_X9_readText_0 n) r := by
  obtain ⟨hlt, hx, hb, hml, hown, hts, hN, hA, hK⟩ := id C
  intro s0 H locs ls h hP hD hS hl
  unfold df_X9_readText_0 at h
  refine lv_aload_n hx hb dX9_readText_0 rfl (lv_at hl 0 rfl) ?_
  refine va_get (D := (dC, dI)) (ci := 10) (v := .int (sI s0 3)) (C := RX9) (T := TX9) (N := 20) hx hb hts hi_dm_X9_readText_X9 hown hK hP 0 rfl rfl 4 (by decide) (hts (.fieldLink RX9 70 "TimeMachine$Reader" "from" "I") (List.mem_of_getElem? (i := 1) rfl)) (fun _ h9 => h9) rfl dX9_readText_1 ?_
  refine lv_iconst (v := 1) hx hb dX9_readText_4 (by decide) ?_
  refine lv_iadd hx hb dX9_readText_5 ?_
  refine lv_topi (fun z1 ez1 => ?_)
  have h := nd_at h ez1
  refine lv_istore_n (lv' := [(1, .int z1), (0, .ref (a 0))]) hx hb dX9_readText_6 rfl hl (by decide) rfl (fun ls hl => ?_)
  exact (db_X9_readText_7 C K n) (z1) s0 _ _ _ h hP hD hS (lv_sub hl [1, 0] rfl)
set_option maxHeartbeats 40000000 in
set_option maxRecDepth 100000 in
theorem dm_X9_readText (l : Launch) (hlt : l.stackTraces = false) (dC : Nat → ClassId) (dI : Nat → Nat → Nat) (a : Nat → Nat) (ac : Nat → ClassId) (n : Nat) (s0 : St) {r : St} (h : df_X9_readText n s0 = some r) (sz : Nat) : Met l yX9_readText ow_dm_X9_readText ({ frames := 1, cells := 0, slots := 0, locals := 24 }) (va_Pc [.ref (a 0)] (fun U => U.heap.size = sz ∧ va_P (dC, dI) vwCl (dw_X9 a ac s0) U.heap ∧ va_K (dC, dI) vwCl (dk_X9 ac) U ∧ va_D (fun _ => True) (dw_X9 a ac s0) ∧ nv_E (va_A (dw_X9 a ac s0) sz) U)) (va_Qv (fun _ => True) (fun (_ : Unit) t => va_P (dC, dI) vwCl (dw_X9 a ac r) t.heap ∧ va_K (dC, dI) vwCl (dk_X9 ac) t ∧ va_D (va_A (dw_X9 a ac s0) sz) (dw_X9 a ac r)) (va_A (dw_X9 a ac s0) sz)) 0 0 (va_A (dw_X9 a ac s0) sz) := by
  refine Met.ofW (cc := cX9_readText) (maxL := 2) (ret := none) (by decide) rfl ?_
  intro p e s m args below meth c s₁ B hml hv
  obtain ⟨rfl, hsz, hP, hK, hD0, hN⟩ := hv
  have hx := B.exec
  have hb := B.bytes
  have hr := B.returns
  have hts := atoms_spec (ws := ow_dm_X9_readText) B.pre
  have hown : s.vm.findClass RX9 = some m.cls := findClass_of_methodNamed B.named
  have hlocks := B.notSynchronized
  subst hsz
  have hD := hD0.self (sz := s.heap.size)
  generalize hAe : va_A (dw_X9 a ac s0) s.heap.size = A at hD hN ⊢
  have hA : ∀ q : Nat, s.heap.size ≤ q → A q := fun q h => by rw [← hAe]; exact Or.inr h
  have hl := lv_entry ([.ref (a 0)]) (n := 2) (Nat.le_of_ble_eq_true rfl)
  rw [lg_entry_eq]
  generalize (lg_sl ([.ref (a 0)]) ++ List.replicate (2 - (lg_sl ([.ref (a 0)])).length) Slot.unset).toArray = ls at hl ⊢
  have hl : lv_has ls 2 [(0, .ref (a 0))] := hl
  exact db_X9_readText_0 (dC := dC) (dI := dI) (a := a) (ac := ac) (n := n) (r := r) ⟨hlt, hx, hb, hml, hown, hts, hN, hA, hK⟩ (fun pc τ H locs ls d er hP hD hS => by subst er; exact W.vret hx hb hr (fun t ht hW => ⟨⟨(), rfl, trivial, by rw [ht]; exact hP, va_K.moved hW.alike hK, hD⟩, hS.F ht⟩) hS.2.2 d) s0 _ _ _ h hP hD va_S.rf (lv_sub hl [0] rfl)
def ow_dm_X9_isSign : List Cond := .code yX9_isSign cX9_isSign 2 (some .boolean) :: ([.fieldLink RX9 73 "TimeMachine$Reader" "kind" "I", .fieldLink RX9 93 "TimeMachine$Reader" "number" "I"] ++ (u_ws RX9 TX9 20 ++ []))
theorem gd_dm_X9_isSign : ∀ w ∈ ow_dm_X9_isSign, (w.onTables && w.keeps) = true ∨ ∃ ty, w = Cond.arrayClass ty := List.forall_mem_cons.mpr ⟨good_of_word rfl, List.forall_mem_append.mpr ⟨fun w h => good_of_word (List.all_eq_true.mp (by decide +kernel) w h), List.forall_mem_append.mpr ⟨gu_X9, fun _ h => nomatch h⟩⟩⟩
theorem hi_dm_X9_isSign_X9 : ∀ w ∈ u_ws RX9 TX9 20, w ∈ ow_dm_X9_isSign := fun w h => List.mem_cons_of_mem _ (List.mem_append_right _ (List.mem_append_left _ h))
def dj_X9_isSign_21 (p : Program) (l : Launch) (e : Env) (s : State) (m : MethodId) (args : Array Value) (below : List Frame) (meth : Method) (c : Code) (Q : State → Prop) (A : Nat → Prop) (dC : Nat → ClassId) (dI : Nat → Nat → Nat) (a : Nat → Nat) (ac : Nat → ClassId) (g : Int32 → (St) → Option (Int32 × (St))) (r : Int32 × (St)) : Prop := ∀ (y0 : Int32) (s0 : St) (H : Heap) (locs : List Loc) (ls : Array Slot), g y0 s0 = some r → va_P (dC, dI) vwCl (dw_X9 a ac s0) H → va_D A (dw_X9 a ac s0) → va_S A s.heap H locs → lv_has ls 2 [] → W p l e (headSpec ow_dm_X9_isSign ({ frames := 0, cells := 0, slots := 0, locals := 0 })).room s m args below meth c H locs 0 0 Q (F0 m 21 ls [.int y0])
def dj_X9_isSign_20 (p : Program) (l : Launch) (e : Env) (s : State) (m : MethodId) (args : Array Value) (below : List Frame) (meth : Method) (c : Code) (Q : State → Prop) (A : Nat → Prop) (dC : Nat → ClassId) (dI : Nat → Nat → Nat) (a : Nat → Nat) (ac : Nat → ClassId) (g : (St) → Option (Int32 × (St))) (r : Int32 × (St)) : Prop := ∀ (s0 : St) (H : Heap) (locs : List Loc) (ls : Array Slot), g s0 = some r → va_P (dC, dI) vwCl (dw_X9 a ac s0) H → va_D A (dw_X9 a ac s0) → va_S A s.heap H locs → lv_has ls 2 [] → W p l e (headSpec ow_dm_X9_isSign ({ frames := 0, cells := 0, slots := 0, locals := 0 })).room s m args below meth c H locs 0 0 Q (F0 m 20 ls [])
def dj_X9_isSign_0 (p : Program) (l : Launch) (e : Env) (s : State) (m : MethodId) (args : Array Value) (below : List Frame) (meth : Method) (c : Code) (Q : State → Prop) (A : Nat → Prop) (dC : Nat → ClassId) (dI : Nat → Nat → Nat) (a : Nat → Nat) (ac : Nat → ClassId) (g : Int32 → (St) → Option (Int32 × (St))) (r : Int32 × (St)) : Prop := ∀ (v0 : Int32) (s0 : St) (H : Heap) (locs : List Loc) (ls : Array Slot), g v0 s0 = some r → va_P (dC, dI) vwCl (dw_X9 a ac s0) H → va_D A (dw_X9 a ac s0) → va_S A s.heap H locs → lv_has ls 2 [(0, .ref (a 0)), (1, .int v0)] → W p l e (headSpec ow_dm_X9_isSign ({ frames := 0, cells := 0, slots := 0, locals := 0 })).room s m args below meth c H locs 0 0 Q (F0 m 0 ls [])
set_option maxHeartbeats 40000000 in
set_option maxRecDepth 100000 in
theorem db_X9_isSign_21 {p : Program} {l : Launch} {e : Env} {s : State} {m : MethodId} {args : Array Value} {below : List Frame} {meth : Method} {c : Code} {Q : State → Prop} {A : Nat → Prop} {dC : Nat → ClassId} {dI : Nat → Nat → Nat} {a : Nat → Nat} {ac : Nat → ClassId} {n : Nat} {r : Int32 × (St)} (C : nd_C p l s m args c A (dC, dI) cX9_isSign 2 RX9 ow_dm_X9_isSign (dk_X9 ac)) (K : nd_Ki p l e (headSpec ow_dm_X9_isSign ({ frames := 0, cells := 0, slots := 0, locals := 0 })).room s m args below meth c Q A (dC, dI) cX9_isSign .boolean (St) (dw_X9 a ac) r) : dj_X9_isSign_21 p l e s m args below meth c Q A dC dI a ac (df_X9_isSign_21 n) r := by
  obtain ⟨hlt, hx, hb, hml, hown, hts, hN, hA, hK⟩ := id C
  intro y0 s0 H locs ls h hP hD hS hl
  unfold df_X9_isSign_21 at h
  obtain ⟨n2, h⟩ := nd_z_e ⟨_, rfl⟩ h
  exact K _ _ _ _ _ _ dX9_isSign_21 n2 (Option.some.inj h).symm hP hD hS
set_option maxHeartbeats 40000000 in
set_option maxRecDepth 100000 in
theorem db_X9_isSign_20 {p : Program} {l : Launch} {e : Env} {s : State} {m : MethodId} {args : Array Value} {below : List Frame} {meth : Method} {c : Code} {Q : State → Prop} {A : Nat → Prop} {dC : Nat → ClassId} {dI : Nat → Nat → Nat} {a : Nat → Nat} {ac : Nat → ClassId} {n : Nat} {r : Int32 × (St)} (C : nd_C p l s m args c A (dC, dI) cX9_isSign 2 RX9 ow_dm_X9_isSign (dk_X9 ac)) (K : nd_Ki p l e (headSpec ow_dm_X9_isSign ({ frames := 0, cells := 0, slots := 0, locals := 0 })).room s m args below meth c Q A (dC, dI) cX9_isSign .boolean (St) (dw_X9 a ac) r) : dj_X9_isSign_20 p l e s m args below meth c Q A dC dI a ac (df_X9_isSign_20 n) r := by
  obtain ⟨hlt, hx, hb, hml, hown, hts, hN, hA, hK⟩ := id C
  intro s0 H locs ls h hP hD hS hl
  unfold df_X9_isSign_20 at h
  refine lv_iconst (v := 0) hx hb dX9_isSign_20 (by decide) ?_
  exact (db_X9_isSign_21 C K) (0) s0 _ _ _ h hP hD hS (lv_sub hl [] rfl)
set_option maxHeartbeats 40000000 in
set_option maxRecDepth 100000 in
theorem db_X9_isSign_0 {p : Program} {l : Launch} {e : Env} {s : State} {m : MethodId} {args : Array Value} {below : List Frame} {meth : Method} {c : Code} {Q : State → Prop} {A : Nat → Prop} {dC : Nat → ClassId} {dI : Nat → Nat → Nat} {a : Nat → Nat} {ac : Nat → ClassId} {n : Nat} {r : Int32 × (St)} (C : nd_C p l s m args c A (dC, dI) cX9_isSign 2 RX9 ow_dm_X9_isSign (dk_X9 ac)) (K : nd_Ki p l e (headSpec ow_dm_X9_isSign ({ frames := 0, cells := 0, slots := 0, locals := 0 })).room s m args below meth c Q A (dC, dI) cX9_isSign .boolean (St) (dw_X9 a ac) r) : dj_X9_isSign_0 p l e s m args below meth c Q A dC dI a ac (df_X9_isSign_0 n) r := by
  obtain ⟨hlt, hx, hb, hml, hown, hts, hN, hA, hK⟩ := id C
  intro v0 s0 H locs ls h hP hD hS hl
  unfold df_X9_isSign_0 at h
  refine lv_aload_n hx hb dX9_isSign_0 rfl (lv_at hl 0 rfl) ?_
  refine va_get (D := (dC, dI)) (ci := 10) (v := .int (sI s0 2)) (C := RX9) (T := TX9) (N := 20) hx hb hts hi_dm_X9_isSign_X9 hown hK hP 0 rfl rfl 3 (by decide) (hts (.fieldLink RX9 73 "TimeMachine$Reader" "kind" "I") (List.mem_of_getElem? (i := 1) rfl)) (fun _ h9 => h9) rfl dX9_isSign_1 ?_
  refine lv_iconst (v := 5) hx hb dX9_isSign_4 (by decide) ?_
  refine lv_icmp_ne (tgt := 20) hx hb dX9_isSign_5 (by decide) (fun c1 => ?_) (fun c1 => ?_)
  · have h := nd_neg h c1
    exact (db_X9_isSign_20 C K)  s0 _ _ _ h hP hD hS (lv_sub hl [] rfl)
  · have h := nd_pos h c1
    refine lv_aload_n hx hb dX9_isSign_8 rfl (lv_at hl 0 rfl) ?_
    refine va_get (D := (dC, dI)) (ci := 10) (v := .int (sI s0 4)) (C := RX9) (T := TX9) (N := 20) hx hb hts hi_dm_X9_isSign_X9 hown hK hP 0 rfl rfl 5 (by decide) (hts (.fieldLink RX9 93 "TimeMachine$Reader" "number" "I") (List.mem_of_getElem? (i := 2) rfl)) (fun _ h9 => h9) rfl dX9_isSign_9 ?_
    refine lv_iload_n hx hb dX9_isSign_12 rfl (lv_at hl 1 rfl) ?_
    refine lv_icmp_ne (tgt := 20) hx hb dX9_isSign_13 (by decide) (fun c3 => ?_) (fun c3 => ?_)
    · have h := nd_neg h c3
      exact (db_X9_isSign_20 C K)  s0 _ _ _ h hP hD hS (lv_sub hl [] rfl)
    · have h := nd_pos h c3
      refine lv_iconst (v := 1) hx hb dX9_isSign_16 (by decide) ?_
      refine lv_goto (tgt := 21) hx hb dX9_isSign_17 (by decide) ?_
      exact (db_X9_isSign_21 C K) (1) s0 _ _ _ h hP hD hS (lv_sub hl [] rfl)
set_option maxHeartbeats 40000000 in
set_option maxRecDepth 100000 in
theorem dm_X9_isSign (l : Launch) (hlt : l.stackTraces = false) (dC : Nat → ClassId) (dI : Nat → Nat → Nat) (a : Nat → Nat) (ac : Nat → ClassId) (n : Nat) (v0 : Int32) (s0 : St) {r : Int32 × (St)} (h : df_X9_isSign n v0 s0 = some r) (sz : Nat) : Met l yX9_isSign ow_dm_X9_isSign ({ frames := 0, cells := 0, slots := 0, locals := 0 }) (va_Pc [.ref (a 0), .int v0] (fun U => U.heap.size = sz ∧ va_P (dC, dI) vwCl (dw_X9 a ac s0) U.heap ∧ va_K (dC, dI) vwCl (dk_X9 ac) U ∧ va_D (fun _ => True) (dw_X9 a ac s0) ∧ nv_E (va_A (dw_X9 a ac s0) sz) U)) (va_Qi (fun x _ => x = r.1) (fun (_ : Unit) t => va_P (dC, dI) vwCl (dw_X9 a ac r.2) t.heap ∧ va_K (dC, dI) vwCl (dk_X9 ac) t ∧ va_D (va_A (dw_X9 a ac s0) sz) (dw_X9 a ac r.2)) (va_A (dw_X9 a ac s0) sz)) 0 0 (va_A (dw_X9 a ac s0) sz) := by
  refine Met.ofW (cc := cX9_isSign) (maxL := 2) (ret := (some .boolean)) (by decide) rfl ?_
  intro p e s m args below meth c s₁ B hml hv
  obtain ⟨rfl, hsz, hP, hK, hD0, hN⟩ := hv
  have hx := B.exec
  have hb := B.bytes
  have hr := B.returns
  have hts := atoms_spec (ws := ow_dm_X9_isSign) B.pre
  have hown : s.vm.findClass RX9 = some m.cls := findClass_of_methodNamed B.named
  have hlocks := B.notSynchronized
  subst hsz
  have hD := hD0.self (sz := s.heap.size)
  generalize hAe : va_A (dw_X9 a ac s0) s.heap.size = A at hD hN ⊢
  have hA : ∀ q : Nat, s.heap.size ≤ q → A q := fun q h => by rw [← hAe]; exact Or.inr h
  have hl := lv_entry ([.ref (a 0), .int v0]) (n := 2) (Nat.le_of_ble_eq_true rfl)
  rw [lg_entry_eq]
  generalize (lg_sl ([.ref (a 0), .int v0]) ++ List.replicate (2 - (lg_sl ([.ref (a 0), .int v0])).length) Slot.unset).toArray = ls at hl ⊢
  have hl : lv_has ls 2 [(0, .ref (a 0)), (1, .int v0)] := hl
  exact db_X9_isSign_0 (dC := dC) (dI := dI) (a := a) (ac := ac) (n := n) (r := r) ⟨hlt, hx, hb, hml, hown, hts, hN, hA, hK⟩ (fun pc v τ H locs ls d z er hP hD hS => by subst er; exact W.zret (v := v) hx hb hr z (fun t ht hW => ⟨⟨v, (), rfl, rfl, by rw [ht]; exact hP, va_K.moved hW.alike hK, hD⟩, hS.F ht⟩) hS.2.2 d) v0 s0 _ _ _ h hP hD va_S.rf (lv_sub hl [0, 1] rfl)
def ow_dm_X9_isDefined : List Cond := .code yX9_isDefined cX9_isDefined 2 (some .boolean) :: ([.fieldLink RX9 27 "TimeMachine$Reader" "name" "[I"] ++ (u_ws RX9 TX9 20 ++ []))
theorem gd_dm_X9_isDefined : ∀ w ∈ ow_dm_X9_isDefined, (w.onTables && w.keeps) = true ∨ ∃ ty, w = Cond.arrayClass ty := List.forall_mem_cons.mpr ⟨good_of_word rfl, List.forall_mem_append.mpr ⟨fun w h => good_of_word (List.all_eq_true.mp (by decide +kernel) w h), List.forall_mem_append.mpr ⟨gu_X9, fun _ h => nomatch h⟩⟩⟩
theorem hi_dm_X9_isDefined_X9 : ∀ w ∈ u_ws RX9 TX9 20, w ∈ ow_dm_X9_isDefined := fun w h => List.mem_cons_of_mem _ (List.mem_append_right _ (List.mem_append_left _ h))
def dj_X9_isDefined_18 (p : Program) (l : Launch) (e : Env) (s : State) (m : MethodId) (args : Array Value) (below : List Frame) (meth : Method) (c : Code) (Q : State → Prop) (A : Nat → Prop) (dC : Nat → ClassId) (dI : Nat → Nat → Nat) (a : Nat → Nat) (ac : Nat → ClassId) (g : Int32 → (St) → Option (Int32 × (St))) (r : Int32 × (St)) : Prop := ∀ (y0 : Int32) (s0 : St) (H : Heap) (locs : List Loc) (ls : Array Slot), g y0 s0 = some r → va_P (dC, dI) vwCl (dw_X9 a ac s0) H → va_D A (dw_X9 a ac s0) → va_S A s.heap H locs → lv_has ls 2 [] → W p l e (headSpec ow_dm_X9_isDefined ({ frames := 0, cells := 0, slots := 0, locals := 0 })).room s m args below meth c H locs 0 0 Q (F0 m 18 ls [.int y0])
def dj_X9_isDefined_0 (p : Program) (l : Launch) (e : Env) (s : State) (m : MethodId) (args : Array Value) (below : List Frame) (meth : Method) (c : Code) (Q : State → Prop) (A : Nat → Prop) (dC : Nat → ClassId) (dI : Nat → Nat → Nat) (a : Nat → Nat) (ac : Nat → ClassId) (g : Int32 → (St) → Option (Int32 × (St))) (r : Int32 × (St)) : Prop := ∀ (v0 : Int32) (s0 : St) (H : Heap) (locs : List Loc) (ls : Array Slot), g v0 s0 = some r → va_P (dC, dI) vwCl (dw_X9 a ac s0) H → va_D A (dw_X9 a ac s0) → va_S A s.heap H locs → lv_has ls 2 [(0, .ref (a 0)), (1, .int v0)] → W p l e (headSpec ow_dm_X9_isDefined ({ frames := 0, cells := 0, slots := 0, locals := 0 })).room s m args below meth c H locs 0 0 Q (F0 m 0 ls [])
set_option maxHeartbeats 40000000 in
set_option maxRecDepth 100000 in
theorem db_X9_isDefined_18 {p : Program} {l : Launch} {e : Env} {s : State} {m : MethodId} {args : Array Value} {below : List Frame} {meth : Method} {c : Code} {Q : State → Prop} {A : Nat → Prop} {dC : Nat → ClassId} {dI : Nat → Nat → Nat} {a : Nat → Nat} {ac : Nat → ClassId} {n : Nat} {r : Int32 × (St)} (C : nd_C p l s m args c A (dC, dI) cX9_isDefined 2 RX9 ow_dm_X9_isDefined (dk_X9 ac)) (K : nd_Ki p l e (headSpec ow_dm_X9_isDefined ({ frames := 0, cells := 0, slots := 0, locals := 0 })).room s m args below meth c Q A (dC, dI) cX9_isDefined .boolean (St) (dw_X9 a ac) r) : dj_X9_isDefined_18 p l e s m args below meth c Q A dC dI a ac (df_X9_isDefined_18 n) r := by
  obtain ⟨hlt, hx, hb, hml, hown, hts, hN, hA, hK⟩ := id C
  intro y0 s0 H locs ls h hP hD hS hl
  unfold df_X9_isDefined_18 at h
  obtain ⟨n3, h⟩ := nd_z_e ⟨_, rfl⟩ h
  exact K _ _ _ _ _ _ dX9_isDefined_18 n3 (Option.some.inj h).symm hP hD hS
set_option maxHeartbeats 40000000 in
set_option maxRecDepth 100000 in
theorem db_X9_isDefined_0 {p : Program} {l : Launch} {e : Env} {s : State} {m : MethodId} {args : Array Value} {below : List Frame} {meth : Method} {c : Code} {Q : State → Prop} {A : Nat → Prop} {dC : Nat → ClassId} {dI : Nat → Nat → Nat} {a : Nat → Nat} {ac : Nat → ClassId} {n : Nat} {r : Int32 × (St)} (C : nd_C p l s m args c A (dC, dI) cX9_isDefined 2 RX9 ow_dm_X9_isDefined (dk_X9 ac)) (K : nd_Ki p l e (headSpec ow_dm_X9_isDefined ({ frames := 0, cells := 0, slots := 0, locals := 0 })).room s m args below meth c Q A (dC, dI) cX9_isDefined .boolean (St) (dw_X9 a ac) r) : dj_X9_isDefined_0 p l e s m args below meth c Q A dC dI a ac (df_X9_isDefined_0 n) r := by
  obtain ⟨hlt, hx, hb, hml, hown, hts, hN, hA, hK⟩ := id C
  intro v0 s0 H locs ls h hP hD hS hl
  unfold df_X9_isDefined_0 at h
  refine lv_aload_n hx hb dX9_isDefined_0 rfl (lv_at hl 0 rfl) ?_
  refine va_get (D := (dC, dI)) (ci := 10) (v := .ref (a 4)) (C := RX9) (T := TX9) (N := 20) hx hb hts hi_dm_X9_isDefined_X9 hown hK hP 0 rfl rfl 12 (by decide) (hts (.fieldLink RX9 27 "TimeMachine$Reader" "name" "[I") (List.mem_of_getElem? (i := 1) rfl)) (fun _ h9 => h9) rfl dX9_isDefined_1 ?_
  refine lv_iload_n hx hb dX9_isDefined_4 rfl (lv_at hl 1 rfl) ?_
  refine lv_iconst (v := 5) hx hb dX9_isDefined_5 (by decide) ?_
  refine lv_imul hx hb dX9_isDefined_6 ?_
  refine lv_iconst (v := 2) hx hb dX9_isDefined_7 (by decide) ?_
  refine lv_iadd hx hb dX9_isDefined_8 ?_
  obtain ⟨i1, h⟩ := nd_ck_e h
  refine va_iald (i := ((v0 * 5) + 2)) hx hb hK hP 4 3 rfl rfl i1 dX9_isDefined_9 ?_
  refine lv_if_eq (tgt := 17) hx hb dX9_isDefined_10 (by decide) (fun c2 => ?_) (fun c2 => ?_)
  · have h := nd_pos h c2
    refine lv_iconst (v := 0) hx hb dX9_isDefined_17 (by decide) ?_
    exact (db_X9_isDefined_18 C K) (0) s0 _ _ _ h hP hD hS (lv_sub hl [] rfl)
  · have h := nd_neg h c2
    refine lv_iconst (v := 1) hx hb dX9_isDefined_13 (by decide) ?_
    refine lv_goto (tgt := 18) hx hb dX9_isDefined_14 (by decide) ?_
    exact (db_X9_isDefined_18 C K) (1) s0 _ _ _ h hP hD hS (lv_sub hl [] rfl)
set_option maxHeartbeats 40000000 in
set_option maxRecDepth 100000 in
theorem dm_X9_isDefined (l : Launch) (hlt : l.stackTraces = false) (dC : Nat → ClassId) (dI : Nat → Nat → Nat) (a : Nat → Nat) (ac : Nat → ClassId) (n : Nat) (v0 : Int32) (s0 : St) {r : Int32 × (St)} (h : df_X9_isDefined n v0 s0 = some r) (sz : Nat) : Met l yX9_isDefined ow_dm_X9_isDefined ({ frames := 0, cells := 0, slots := 0, locals := 0 }) (va_Pc [.ref (a 0), .int v0] (fun U => U.heap.size = sz ∧ va_P (dC, dI) vwCl (dw_X9 a ac s0) U.heap ∧ va_K (dC, dI) vwCl (dk_X9 ac) U ∧ va_D (fun _ => True) (dw_X9 a ac s0) ∧ nv_E (va_A (dw_X9 a ac s0) sz) U)) (va_Qi (fun x _ => x = r.1) (fun (_ : Unit) t => va_P (dC, dI) vwCl (dw_X9 a ac r.2) t.heap ∧ va_K (dC, dI) vwCl (dk_X9 ac) t ∧ va_D (va_A (dw_X9 a ac s0) sz) (dw_X9 a ac r.2)) (va_A (dw_X9 a ac s0) sz)) 0 0 (va_A (dw_X9 a ac s0) sz) := by
  refine Met.ofW (cc := cX9_isDefined) (maxL := 2) (ret := (some .boolean)) (by decide) rfl ?_
  intro p e s m args below meth c s₁ B hml hv
  obtain ⟨rfl, hsz, hP, hK, hD0, hN⟩ := hv
  have hx := B.exec
  have hb := B.bytes
  have hr := B.returns
  have hts := atoms_spec (ws := ow_dm_X9_isDefined) B.pre
  have hown : s.vm.findClass RX9 = some m.cls := findClass_of_methodNamed B.named
  have hlocks := B.notSynchronized
  subst hsz
  have hD := hD0.self (sz := s.heap.size)
  generalize hAe : va_A (dw_X9 a ac s0) s.heap.size = A at hD hN ⊢
  have hA : ∀ q : Nat, s.heap.size ≤ q → A q := fun q h => by rw [← hAe]; exact Or.inr h
  have hl := lv_entry ([.ref (a 0), .int v0]) (n := 2) (Nat.le_of_ble_eq_true rfl)
  rw [lg_entry_eq]
  generalize (lg_sl ([.ref (a 0), .int v0]) ++ List.replicate (2 - (lg_sl ([.ref (a 0), .int v0])).length) Slot.unset).toArray = ls at hl ⊢
  have hl : lv_has ls 2 [(0, .ref (a 0)), (1, .int v0)] := hl
  exact db_X9_isDefined_0 (dC := dC) (dI := dI) (a := a) (ac := ac) (n := n) (r := r) ⟨hlt, hx, hb, hml, hown, hts, hN, hA, hK⟩ (fun pc v τ H locs ls d z er hP hD hS => by subst er; exact W.zret (v := v) hx hb hr z (fun t ht hW => ⟨⟨v, (), rfl, rfl, by rw [ht]; exact hP, va_K.moved hW.alike hK, hD⟩, hS.F ht⟩) hS.2.2 d) v0 s0 _ _ _ h hP hD va_S.rf (lv_sub hl [0, 1] rfl)
def ow_dm_X9_define : List Cond := .code yX9_define cX9_define 4 none :: ([.fieldLink RX9 27 "TimeMachine$Reader" "name" "[I"] ++ (u_ws RX9 TX9 20 ++ []))
theorem gd_dm_X9_define : ∀ w ∈ ow_dm_X9_define, (w.onTables && w.keeps) = true ∨ ∃ ty, w = Cond.arrayClass ty := List.forall_mem_cons.mpr ⟨good_of_word rfl, List.forall_mem_append.mpr ⟨fun w h => good_of_word (List.all_eq_true.mp (by decide +kernel) w h), List.forall_mem_append.mpr ⟨gu_X9, fun _ h => nomatch h⟩⟩⟩
theorem hi_dm_X9_define_X9 : ∀ w ∈ u_ws RX9 TX9 20, w ∈ ow_dm_X9_define := fun w h => List.mem_cons_of_mem _ (List.mem_append_right _ (List.mem_append_left _ h))
def dj_X9_define_0 (p : Program) (l : Launch) (e : Env) (s : State) (m : MethodId) (args : Array Value) (below : List Frame) (meth : Method) (c : Code) (Q : State → Prop) (A : Nat → Prop) (dC : Nat → ClassId) (dI : Nat → Nat → Nat) (a : Nat → Nat) (ac : Nat → ClassId) (g : Int32 → Int32 → Int32 → (St) → Option (St)) (r : St) : Prop := ∀ (v0 : Int32) (v1 : Int32) (v2 : Int32) (s0 : St) (H : Heap) (locs : List Loc) (ls : Array Slot), g v0 v1 v2 s0 = some r → va_P (dC, dI) vwCl (dw_X9 a ac s0) H → va_D A (dw_X9 a ac s0) → va_S A s.heap H locs → lv_has ls 4 [(0, .ref (a 0)), (1, .int v0), (2, .int v1), (3, .int v2)] → W p l e (headSpec ow_dm_X9_define ({ frames := 0, cells := 0, slots := 0, locals := 0 })).room s m args below meth c H locs 0 0 Q (F0 m 0 ls [])
set_option maxHeartbeats 40000000 in
set_option maxRecDepth 100000 in
theorem db_X9_define_0 {p : Program} {l : Launch} {e : Env} {s : State} {m : MethodId} {args : Array Value} {below : List Frame} {meth : Method} {c : Code} {Q : State → Prop} {A : Nat → Prop} {dC : Nat → ClassId} {dI : Nat → Nat → Nat} {a : Nat → Nat} {ac : Nat → ClassId} {n : Nat} {r : St} (C : nd_C p l s m args c A (dC, dI) cX9_define 4 RX9 ow_dm_X9_define (dk_X9 ac)) (K : nd_Kv p l e (headSpec ow_dm_X9_define ({ frames := 0, cells := 0, slots := 0, locals := 0 })).room s m args below meth c Q A (dC, dI) cX9_define (St) (dw_X9 a ac) r) : dj_X9_define_0 p l e s m args below meth c Q A dC dI a ac (df_X9_define_0 n) r := by
  obtain ⟨hlt, hx, hb, hml, hown, hts, hN, hA, hK⟩ := id C
  intro v0 v1 v2 s0 H locs ls h hP hD hS hl
  unfold df_X9_define_0 at h
  refine lv_aload_n hx hb dX9_define_0 rfl (lv_at hl 0 rfl) ?_
  refine va_get (D := (dC, dI)) (ci := 10) (v := .ref (a 4)) (C := RX9) (T := TX9) (N := 20) hx hb hts hi_dm_X9_define_X9 hown hK hP 0 rfl rfl 12 (by decide) (hts (.fieldLink RX9 27 "TimeMachine$Reader" "name" "[I") (List.mem_of_getElem? (i := 1) rfl)) (fun _ h9 => h9) rfl dX9_define_1 ?_
  refine lv_iload_n hx hb dX9_define_4 rfl (lv_at hl 1 rfl) ?_
  refine lv_iconst (v := 5) hx hb dX9_define_5 (by decide) ?_
  refine lv_imul hx hb dX9_define_6 ?_
  refine lv_iconst (v := 2) hx hb dX9_define_7 (by decide) ?_
  refine lv_iadd hx hb dX9_define_8 ?_
  refine lv_iload_n hx hb dX9_define_9 rfl (lv_at hl 2 rfl) ?_
  obtain ⟨i1, h⟩ := nd_ck_e h
  refine va_iast (i := ((v0 * 5) + 2)) (x := v1) hx hb hK hP hD hS 4 3 rfl rfl i1 dX9_define_10 (fun H locs hP hD hS => ?_)
  obtain ⟨s2, es2, h⟩ := nd_let_e h
  have hP : va_P (dC, dI) vwCl (dw_X9 a ac s2) H := by rw [es2]; exact hP
  have hD : va_D A (dw_X9 a ac s2) := by rw [es2]; exact hD
  refine lv_aload_n hx hb dX9_define_11 rfl (lv_at hl 0 rfl) ?_
  refine va_get (D := (dC, dI)) (ci := 10) (v := .ref (a 4)) (C := RX9) (T := TX9) (N := 20) hx hb hts hi_dm_X9_define_X9 hown hK hP 0 rfl rfl 12 (by decide) (hts (.fieldLink RX9 27 "TimeMachine$Reader" "name" "[I") (List.mem_of_getElem? (i := 1) rfl)) (fun _ h9 => h9) rfl dX9_define_12 ?_
  refine lv_iload_n hx hb dX9_define_15 rfl (lv_at hl 1 rfl) ?_
  refine lv_iconst (v := 5) hx hb dX9_define_16 (by decide) ?_
  refine lv_imul hx hb dX9_define_17 ?_
  refine lv_iconst (v := 3) hx hb dX9_define_18 (by decide) ?_
  refine lv_iadd hx hb dX9_define_19 ?_
  refine lv_iload_n hx hb dX9_define_20 rfl (lv_at hl 3 rfl) ?_
  obtain ⟨i3, h⟩ := nd_ck_e h
  refine va_iast (i := ((v0 * 5) + 3)) (x := v2) hx hb hK hP hD hS 4 3 rfl rfl i3 dX9_define_21 (fun H locs hP hD hS => ?_)
  obtain ⟨s4, es4, h⟩ := nd_let_e h
  have hP : va_P (dC, dI) vwCl (dw_X9 a ac s4) H := by rw [es4]; exact hP
  have hD : va_D A (dw_X9 a ac s4) := by rw [es4]; exact hD
  exact K _ _ _ _ _ dX9_define_22 (Option.some.inj h).symm hP hD hS
set_option maxHeartbeats 40000000 in
set_option maxRecDepth 100000 in
theorem dm_X9_define (l : Launch) (hlt : l.stackTraces = false) (dC : Nat → ClassId) (dI : Nat → Nat → Nat) (a : Nat → Nat) (ac : Nat → ClassId) (n : Nat) (v0 : Int32) (v1 : Int32) (v2 : Int32) (s0 : St) {r : St} (h : df_X9_define n v0 v1 v2 s0 = some r) (sz : Nat) : Met l yX9_define ow_dm_X9_define ({ frames := 0, cells := 0, slots := 0, locals := 0 }) (va_Pc [.ref (a 0), .int v0, .int v1, .int v2] (fun U => U.heap.size = sz ∧ va_P (dC, dI) vwCl (dw_X9 a ac s0) U.heap ∧ va_K (dC, dI) vwCl (dk_X9 ac) U ∧ va_D (fun _ => True) (dw_X9 a ac s0) ∧ nv_E (va_A (dw_X9 a ac s0) sz) U)) (va_Qv (fun _ => True) (fun (_ : Unit) t => va_P (dC, dI) vwCl (dw_X9 a ac r) t.heap ∧ va_K (dC, dI) vwCl (dk_X9 ac) t ∧ va_D (va_A (dw_X9 a ac s0) sz) (dw_X9 a ac r)) (va_A (dw_X9 a ac s0) sz)) 0 0 (va_A (dw_X9 a ac s0) sz) := by
  refine Met.ofW (cc := cX9_define) (maxL := 4) (ret := none) (by decide) rfl ?_
  intro p e s m args below meth c s₁ B hml hv
  obtain ⟨rfl, hsz, hP, hK, hD0, hN⟩ := hv
  have hx := B.exec
  have hb := B.bytes
  have hr := B.returns
  have hts := atoms_spec (ws := ow_dm_X9_define) B.pre
  have hown : s.vm.findClass RX9 = some m.cls := findClass_of_methodNamed B.named
  have hlocks := B.notSynchronized
  subst hsz
  have hD := hD0.self (sz := s.heap.size)
  generalize hAe : va_A (dw_X9 a ac s0) s.heap.size = A at hD hN ⊢
  have hA : ∀ q : Nat, s.heap.size ≤ q → A q := fun q h => by rw [← hAe]; exact Or.inr h
  have hl := lv_entry ([.ref (a 0), .int v0, .int v1, .int v2]) (n := 4) (Nat.le_of_ble_eq_true rfl)
  rw [lg_entry_eq]
  generalize (lg_sl ([.ref (a 0), .int v0, .int v1, .int v2]) ++ List.replicate (4 - (lg_sl ([.ref (a 0), .int v0, .int v1, .int v2])).length) Slot.unset).toArray = ls at hl ⊢
  have hl : lv_has ls 4 [(0, .ref (a 0)), (1, .int v0), (2, .int v1), (3, .int v2)] := hl
  exact db_X9_define_0 (dC := dC) (dI := dI) (a := a) (ac := ac) (n := n) (r := r) ⟨hlt, hx, hb, hml, hown, hts, hN, hA, hK⟩ (fun pc τ H locs ls d er hP hD hS => by subst er; exact W.vret hx hb hr (fun t ht hW => ⟨⟨(), rfl, trivial, by rw [ht]; exact hP, va_K.moved hW.alike hK, hD⟩, hS.F ht⟩) hS.2.2 d) v0 v1 v2 s0 _ _ _ h hP hD va_S.rf (lv_sub hl [0, 1, 2, 3] rfl)
