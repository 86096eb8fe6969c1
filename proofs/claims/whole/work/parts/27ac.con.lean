set_option maxHeartbeats 40000000 in
set_option maxRecDepth 100000 in
theorem db_X1_checked_14 {p : Program} {l : Launch} {e : Env} {s : State} {m : MethodId} {args : Array Value} {below : List Frame} {meth : Method} {c : Code} {Q : State → Prop} {A : Nat → Prop} {dC : Nat → ClassId} {dI : Nat → Nat → Nat} {a : Nat → Nat} {ac : Nat → ClassId} {n : Nat} {r : Int32 × (St × (St))} (C : nd_C p l s m args c A (dC, dI) cX1_checked 3 RX1 ow_dm_X1_checked (dk_X1 ac)) (K : nd_Ki p l e (headSpec ow_dm_X1_checked ({ frames := 3, cells := 0, slots := 0, locals := 65 })).room s m args below meth c Q A (dC, dI) cX1_checked .int (St × (St)) (dw_X1 a ac) r) : dj_X1_checked_14 p l e s m args below meth c Q A dC dI a ac (df_X1_checked_14 n) r := by
  obtain ⟨hlt, hx, hb, hml, hown, hts, hN, hA, hK⟩ := id C
  intro x1 x2 s0 H locs ls h hP hD hS hl
  unfold df_X1_checked_14 at h
  refine lv_iload_n hx hb dX1_checked_14 rfl (lv_at hl 0 rfl) ?_
  refine lv_iload_n hx hb dX1_checked_15 rfl (lv_at hl 1 rfl) ?_
  obtain ⟨q5, s6, hq, h⟩ := nd_b2_e h
  have hPc : va_P (dC, dI) vwCl (dw_P a ac ()) H := nd_p0
  have hDc : va_D A (dw_P a ac ()) := nd_d0
  have hKc : va_K (dC, dI) vwCl (dk_P ac) s := nd_y0 hK
  have hFc : ∀ q, va_A (dw_P a ac ()) H.size q → A q := nd_r0 hS hA
  refine nd_cSi (As := [.int x1, .int x2]) (rest := []) (q := q5) (w' := dw_P a ac s6) ⟨hx, hb, hml, hown, hts⟩ (fun sz => dm_X7_placed l hlt dC dI a ac n (x1) (x2) () hq sz) (va_cwS 2 hts gi_dm_X1_checked_1 rfl rfl rfl (by decide +kernel) ⟨Nat.le_of_ble_eq_true rfl, Nat.le_of_ble_eq_true rfl⟩) hPc hDc hKc hS hA hN rfl hl.1 rfl (Nat.le_of_ble_eq_true rfl) dX1_checked_16 (fun H locs hP1 hD1 hk1 hS => ?_)
  have hP := nd_n0 hP hk1
  exact K _ _ _ _ _ _ dX1_checked_19 rfl (Option.some.inj h).symm hP hD hS
set_option maxHeartbeats 40000000 in
set_option maxRecDepth 100000 in
theorem db_X1_checked_0 {p : Program} {l : Launch} {e : Env} {s : State} {m : MethodId} {args : Array Value} {below : List Frame} {meth : Method} {c : Code} {Q : State → Prop} {A : Nat → Prop} {dC : Nat → ClassId} {dI : Nat → Nat → Nat} {a : Nat → Nat} {ac : Nat → ClassId} {n : Nat} {r : Int32 × (St × (St))} (C : nd_C p l s m args c A (dC, dI) cX1_checked 3 RX1 ow_dm_X1_checked (dk_X1 ac)) (K : nd_Ki p l e (headSpec ow_dm_X1_checked ({ frames := 3, cells := 0, slots := 0, locals := 65 })).room s m args below meth c Q A (dC, dI) cX1_checked .int (St × (St)) (dw_X1 a ac) r) : dj_X1_checked_0 p l e s m args below meth c Q A dC dI a ac (df_X1_checked_0 n) r := by
  obtain ⟨hlt, hx, hb, hml, hown, hts, hN, hA, hK⟩ := id C
  intro v0 v1 s0 H locs ls h hP hD hS hl
  unfold df_X1_checked_0 at h
  refine lv_iload_n hx hb dX1_checked_0 rfl (lv_at hl 1 rfl) ?_
  refine lv_iload_n hx hb dX1_checked_1 rfl (lv_at hl 2 rfl) ?_
  obtain ⟨q1, s2, hq, h⟩ := nd_b2_e h
  have hPc : va_P (dC, dI) vwCl (dw_P a ac ()) H := nd_p0
  have hDc : va_D A (dw_P a ac ()) := nd_d0
  have hKc : va_K (dC, dI) vwCl (dk_P ac) s := nd_y0 hK
  have hFc : ∀ q, va_A (dw_P a ac ()) H.size q → A q := nd_r0 hS hA
  refine nd_cSi (As := [.int v0, .int v1]) (rest := []) (q := q1) (w' := dw_P a ac s2) ⟨hx, hb, hml, hown, hts⟩ (fun sz => dm_X7_fits l hlt dC dI a ac n (v0) (v1) () hq sz) (va_cwS 2 hts gi_dm_X1_checked_0 rfl rfl rfl (by decide +kernel) ⟨Nat.le_of_ble_eq_true rfl, Nat.le_of_ble_eq_true rfl⟩) hPc hDc hKc hS hA hN rfl hl.1 rfl (Nat.le_of_ble_eq_true rfl) dX1_checked_2 (fun H locs hP1 hD1 hk1 hS => ?_)
  have hP := nd_n0 hP hk1
  refine lv_if_ne (tgt := 14) hx hb dX1_checked_5 (by decide) (fun c4 => ?_) (fun c4 => ?_)
  · have h := nd_neg h c4
    exact (db_X1_checked_14 C K) (v0) (v1) s0 _ _ _ h hP hD hS (lv_sub hl [1, 2] rfl)
  · have h := nd_pos h c4
    refine lv_aload_n hx hb dX1_checked_8 rfl (lv_at hl 0 rfl) ?_
    refine lv_bipush (v := 10) hx hb dX1_checked_9 (by decide) ?_
    obtain ⟨s9, hq, h⟩ := nd_b1_e h
    have hPc := hP
    have hDc := hD
    have hKc := hK
    have hFc := nd_rs hD hS hA
    refine nd_cVv (As := [.int 10]) (rest := []) (w' := dw_X1 a ac s9) ⟨hx, hb, hml, hown, hts⟩ (fun sz => dm_X1_blame l hlt dC dI a ac n (10) s0 hq sz) (cwV 1 hts gi_dm_X1_checked_2 rfl rfl rfl (by decide +kernel) ⟨Nat.le_of_ble_eq_true rfl, Nat.le_of_ble_eq_true rfl⟩) hPc hDc hKc hS hA hN (va_recv hKc hPc (ci := 2) (q0 := 0) rfl rfl) rfl hl.1 rfl (Nat.le_of_ble_eq_true rfl) dX1_checked_11 (fun H locs hP1 hD1 hk1 hS => ?_)
    have hP := hP1
    have hD := hD1.weaken (fun k q _ h => hFc q.1 h)
    exact (db_X1_checked_14 C K) (v0) (v1) s9 _ _ _ h hP hD hS (lv_sub hl [1, 2] rfl)
set_option maxHeartbeats 40000000 in
set_option maxRecDepth 100000 in
theorem dm_X1_checked (l : Launch) (hlt : l.stackTraces = false) (dC : Nat → ClassId) (dI : Nat → Nat → Nat) (a : Nat → Nat) (ac : Nat → ClassId) (n : Nat) (v0 : Int32) (v1 : Int32) (s0 : St × (St)) {r : Int32 × (St × (St))} (h : df_X1_checked n v0 v1 s0 = some r) (sz : Nat) : Met l yX1_checked ow_dm_X1_checked ({ frames := 3, cells := 0, slots := 0, locals := 65 }) (va_Pc [.ref (a 0), .int v0, .int v1] (fun U => U.heap.size = sz ∧ va_P (dC, dI) vwCl (dw_X1 a ac s0) U.heap ∧ va_K (dC, dI) vwCl (dk_X1 ac) U ∧ va_D (fun _ => True) (dw_X1 a ac s0) ∧ nv_E (va_A (dw_X1 a ac s0) sz) U)) (va_Qi (fun x _ => x = r.1) (fun (_ : Unit) t => va_P (dC, dI) vwCl (dw_X1 a ac r.2) t.heap ∧ va_K (dC, dI) vwCl (dk_X1 ac) t ∧ va_D (va_A (dw_X1 a ac s0) sz) (dw_X1 a ac r.2)) (va_A (dw_X1 a ac s0) sz)) 0 0 (va_A (dw_X1 a ac s0) sz) := by
  refine Met.ofW (cc := cX1_checked) (maxL := 3) (ret := (some .int)) (by decide) rfl ?_
  intro p e s m args below meth c s₁ B hml hv
  obtain ⟨rfl, hsz, hP, hK, hD0, hN⟩ := hv
  have hx := B.exec
  have hb := B.bytes
  have hr := B.returns
  have hts := atoms_spec (ws := ow_dm_X1_checked) B.pre
  have hown : s.vm.findClass RX1 = some m.cls := findClass_of_methodNamed B.named
  have hlocks := B.notSynchronized
  subst hsz
  have hD := hD0.self (sz := s.heap.size)
  generalize hAe : va_A (dw_X1 a ac s0) s.heap.size = A at hD hN ⊢
  have hA : ∀ q : Nat, s.heap.size ≤ q → A q := fun q h => by rw [← hAe]; exact Or.inr h
  have hl := lv_entry ([.ref (a 0), .int v0, .int v1]) (n := 3) (Nat.le_of_ble_eq_true rfl)
  rw [lg_entry_eq]
  generalize (lg_sl ([.ref (a 0), .int v0, .int v1]) ++ List.replicate (3 - (lg_sl ([.ref (a 0), .int v0, .int v1])).length) Slot.unset).toArray = ls at hl ⊢
  have hl : lv_has ls 3 [(0, .ref (a 0)), (1, .int v0), (2, .int v1)] := hl
  exact db_X1_checked_0 (dC := dC) (dI := dI) (a := a) (ac := ac) (n := n) (r := r) ⟨hlt, hx, hb, hml, hown, hts, hN, hA, hK⟩ (fun pc v τ H locs ls d z er hP hD hS => by subst er; exact W.zret (v := v) hx hb hr z (fun t ht hW => ⟨⟨v, (), rfl, rfl, by rw [ht]; exact hP, va_K.moved hW.alike hK, hD⟩, hS.F ht⟩) hS.2.2 d) v0 v1 s0 _ _ _ h hP hD va_S.rf (lv_sub hl [0, 1, 2] rfl)
def ow_dm_X1_putPlain : List Cond := .code yX1_putPlain cX1_putPlain 7 none :: ([.fieldLink RX1 19 "TimeMachine$Assembler" "statement" "[I", .methodLink RX1 340 yX1_put, .instanceMethod yX1_put, .selects RX1 yX1_put yX1_put, .initialized RX1, .methodLink RX1 330 yX1_worked, .instanceMethod yX1_worked, .selects RX1 yX1_worked yX1_worked, .methodLink RX1 333 yX7_isTarget, .static yX7_isTarget, .initialized RX7, .methodLink RX1 337 yX1_checked, .instanceMethod yX1_checked, .selects RX1 yX1_checked yX1_checked] ++ (u_ws RX1 TX1 13 ++ (ow_dm_X1_put ++ (ow_dm_X1_worked ++ (ow_dm_X7_isTarget ++ (ow_dm_X1_checked ++ []))))))
theorem gd_dm_X1_putPlain : ∀ w ∈ ow_dm_X1_putPlain, (w.onTables && w.keeps) = true ∨ ∃ ty, w = Cond.arrayClass ty := List.forall_mem_cons.mpr ⟨good_of_word rfl, List.forall_mem_append.mpr ⟨fun w h => good_of_word (List.all_eq_true.mp (by decide +kernel) w h), List.forall_mem_append.mpr ⟨gu_X1, List.forall_mem_append.mpr ⟨gd_dm_X1_put, List.forall_mem_append.mpr ⟨gd_dm_X1_worked, List.forall_mem_append.mpr ⟨gd_dm_X7_isTarget, List.forall_mem_append.mpr ⟨gd_dm_X1_checked, fun _ h => nomatch h⟩⟩⟩⟩⟩⟩⟩
theorem hi_dm_X1_putPlain_X1 : ∀ w ∈ u_ws RX1 TX1 13, w ∈ ow_dm_X1_putPlain := fun w h => List.mem_cons_of_mem _ (List.mem_append_right _ (List.mem_append_left _ h))
theorem gi_dm_X1_putPlain_0 : GoodIn ow_dm_X1_putPlain (wsV RX1 340 RX1 yX1_put ow_dm_X1_put) := goodIn_app (goodIn_of _ (by decide +kernel)) (fun w h => ⟨List.mem_cons_of_mem _ (List.mem_append_right _ (List.mem_append_right _ (List.mem_append_left _ h))), gd_dm_X1_put w h⟩)
theorem gi_dm_X1_putPlain_1 : GoodIn ow_dm_X1_putPlain (wsV RX1 330 RX1 yX1_worked ow_dm_X1_worked) := goodIn_app (goodIn_of _ (by decide +kernel)) (fun w h => ⟨List.mem_cons_of_mem _ (List.mem_append_right _ (List.mem_append_right _ (List.mem_append_right _ (List.mem_append_left _ h)))), gd_dm_X1_worked w h⟩)
theorem gi_dm_X1_putPlain_2 : GoodIn ow_dm_X1_putPlain (va_wsS RX1 333 yX7_isTarget ow_dm_X7_isTarget) := goodIn_app (goodIn_of _ (by decide +kernel)) (fun w h => ⟨List.mem_cons_of_mem _ (List.mem_append_right _ (List.mem_append_right _ (List.mem_append_right _ (List.mem_append_right _ (List.mem_append_left _ h))))), gd_dm_X7_isTarget w h⟩)
theorem gi_dm_X1_putPlain_3 : GoodIn ow_dm_X1_putPlain (wsV RX1 337 RX1 yX1_checked ow_dm_X1_checked) := goodIn_app (goodIn_of _ (by decide +kernel)) (fun w h => ⟨List.mem_cons_of_mem _ (List.mem_append_right _ (List.mem_append_right _ (List.mem_append_right _ (List.mem_append_right _ (List.mem_append_right _ (List.mem_append_left _ h)))))), gd_dm_X1_checked w h⟩)
def dj_X1_putPlain_80 (p : Program) (l : Launch) (e : Env) (s : State) (m : MethodId) (args : Array Value) (below : List Frame) (meth : Method) (c : Code) (Q : State → Prop) (A : Nat → Prop) (dC : Nat → ClassId) (dI : Nat → Nat → Nat) (a : Nat → Nat) (ac : Nat → ClassId) (g : Int32 → Int32 → Int32 → (St × (St × (St)) × (St)) → Option (St × (St × (St)) × (St))) (r : St × (St × (St)) × (St)) : Prop := ∀ (x2 : Int32) (x3 : Int32) (x4 : Int32) (s0 : St × (St × (St)) × (St)) (H : Heap) (locs : List Loc) (ls : Array Slot), g x2 x3 x4 s0 = some r → va_P (dC, dI) vwCl (dw_X1p a ac s0) H → va_D A (dw_X1p a ac s0) → va_S A s.heap H locs → lv_has ls 7 [(0, .ref (a 0)), (1, .ref (a 12)), (2, .int x2), (3, .int x3), (4, .int x4)] → W p l e (headSpec ow_dm_X1_putPlain ({ frames := 4, cells := 0, slots := 0, locals := 87 })).room s m args below meth c H locs 0 0 Q (F0 m 80 ls [])
def dj_X1_putPlain_75 (p : Program) (l : Launch) (e : Env) (s : State) (m : MethodId) (args : Array Value) (below : List Frame) (meth : Method) (c : Code) (Q : State → Prop) (A : Nat → Prop) (dC : Nat → ClassId) (dI : Nat → Nat → Nat) (a : Nat → Nat) (ac : Nat → ClassId) (g : Int32 → Int32 → Int32 → Int32 → Int32 → (St × (St × (St)) × (St)) → Option (St × (St × (St)) × (St))) (r : St × (St × (St)) × (St)) : Prop := ∀ (x2 : Int32) (x4 : Int32) (y0 : Int32) (y2 : Int32) (y3 : Int32) (s0 : St × (St × (St)) × (St)) (H : Heap) (locs : List Loc) (ls : Array Slot), g x2 x4 y0 y2 y3 s0 = some r → va_P (dC, dI) vwCl (dw_X1p a ac s0) H → va_D A (dw_X1p a ac s0) → va_S A s.heap H locs → lv_has ls 7 [(0, .ref (a 0)), (1, .ref (a 12)), (2, .int x2), (4, .int x4)] → W p l e (headSpec ow_dm_X1_putPlain ({ frames := 4, cells := 0, slots := 0, locals := 87 })).room s m args below meth c H locs 0 0 Q (F0 m 75 ls [.int y3, .int y2, .ref (a 0), .int y0])
def dj_X1_putPlain_0 (p : Program) (l : Launch) (e : Env) (s : State) (m : MethodId) (args : Array Value) (below : List Frame) (meth : Method) (c : Code) (Q : State → Prop) (A : Nat → Prop) (dC : Nat → ClassId) (dI : Nat → Nat → Nat) (a : Nat → Nat) (ac : Nat → ClassId) (g : Int32 → (St × (St × (St)) × (St)) → Option (St × (St × (St)) × (St))) (r : St × (St × (St)) × (St)) : Prop := ∀ (v1 : Int32) (s0 : St × (St × (St)) × (St)) (H : Heap) (locs : List Loc) (ls : Array Slot), g v1 s0 = some r → va_P (dC, dI) vwCl (dw_X1p a ac s0) H → va_D A (dw_X1p a ac s0) → va_S A s.heap H locs → lv_has ls 7 [(0, .ref (a 0)), (1, .ref (a 12)), (2, .int v1)] → W p l e (headSpec ow_dm_X1_putPlain ({ frames := 4, cells := 0, slots := 0, locals := 87 })).room s m args below meth c H locs 0 0 Q (F0 m 0 ls [])
set_option maxHeartbeats 40000000 in
set_option maxRecDepth 100000 in
theorem db_X1_putPlain_80 {p : Program} {l : Launch} {e : Env} {s : State} {m : MethodId} {args : Array Value} {below : List Frame} {meth : Method} {c : Code} {Q : State → Prop} {A : Nat → Prop} {dC : Nat → ClassId} {dI : Nat → Nat → Nat} {a : Nat → Nat} {ac : Nat → ClassId} {n : Nat} {r : St × (St × (St)) × (St)} (C : nd_C p l s m args c A (dC, dI) cX1_putPlain 7 RX1 ow_dm_X1_putPlain (dk_X1p ac)) (K : nd_Kv p l e (headSpec ow_dm_X1_putPlain ({ frames := 4, cells := 0, slots := 0, locals := 87 })).room s m args below meth c Q A (dC, dI) cX1_putPlain (St × (St × (St)) × (St)) (dw_X1p a ac) r) : dj_X1_putPlain_80 p l e s m args below meth c Q A dC dI a ac (df_X1_putPlain_80 n) r := by
  obtain ⟨hlt, hx, hb, hml, hown, hts, hN, hA, hK⟩ := id C
  intro x2 x3 x4 s0 H locs ls h hP hD hS hl
  unfold df_X1_putPlain_80 at h
  refine lv_aload_n hx hb dX1_putPlain_80 rfl (lv_at hl 0 rfl) ?_
  refine lv_aload_n hx hb dX1_putPlain_81 rfl (lv_at hl 1 rfl) ?_
  refine lv_iload hx hb dX1_putPlain_82 (lv_at hl 4 rfl) ?_
  refine lv_aload_n hx hb dX1_putPlain_84 rfl (lv_at hl 0 rfl) ?_
  refine va_get (D := (dC, dI)) (ci := 2) (v := .ref (a 1)) (C := RX1) (T := TX1) (N := 13) hx hb hts hi_dm_X1_putPlain_X1 hown hK hP 0 rfl rfl 1 (by decide) (hts (.fieldLink RX1 19 "TimeMachine$Assembler" "statement" "[I") (List.mem_of_getElem? (i := 1) rfl)) (fun _ h9 => h9) rfl dX1_putPlain_85 ?_
  refine lv_iload_n hx hb dX1_putPlain_88 rfl (lv_at hl 2 rfl) ?_
  refine lv_iconst (v := 3) hx hb dX1_putPlain_89 (by decide) ?_
  refine lv_iadd hx hb dX1_putPlain_90 ?_
  obtain ⟨i8, h⟩ := nd_ck_e h
  refine va_iald (i := (x2 + 3)) hx hb hK hP 1 0 rfl rfl i8 dX1_putPlain_91 ?_
  refine lv_iload_n hx hb dX1_putPlain_92 rfl (lv_at hl 3 rfl) ?_
  obtain ⟨s10, hq, h⟩ := nd_b1_e h
  have hPc := hP
  have hDc := hD
  have hKc := hK
  have hFc := nd_rs hD hS hA
  refine nd_cVv (As := [.ref (a 12), .int x4, .int (sR s0.2.1.1 0 (Int32.toNatClampNeg (x2 + 3))), .int x3]) (rest := []) (w' := dw_X1p a ac s10) ⟨hx, hb, hml, hown, hts⟩ (fun sz => dm_X1_put l hlt dC dI a ac n (x4) ((sR s0.2.1.1 0 (Int32.toNatClampNeg (x2 + 3)))) (x3) s0 hq sz) (cwV 4 hts gi_dm_X1_putPlain_0 rfl rfl rfl (by decide +kernel) ⟨Nat.le_of_ble_eq_true rfl, Nat.le_of_ble_eq_true rfl⟩) hPc hDc hKc hS hA hN (va_recv hKc hPc (ci := 2) (q0 := 0) rfl rfl) rfl hl.1 rfl (Nat.le_of_ble_eq_true rfl) dX1_putPlain_93 (fun H locs hP1 hD1 hk1 hS => ?_)
  have hP := hP1
  have hD := hD1.weaken (fun k q _ h => hFc q.1 h)
  exact K _ _ _ _ _ dX1_putPlain_96 (Option.some.inj h).symm hP hD hS
set_option maxHeartbeats 40000000 in
set_option maxRecDepth 100000 in
theorem db_X1_putPlain_75 {p : Program} {l : Launch} {e : Env} {s : State} {m : MethodId} {args : Array Value} {below : List Frame} {meth : Method} {c : Code} {Q : State → Prop} {A : Nat → Prop} {dC : Nat → ClassId} {dI : Nat → Nat → Nat} {a : Nat → Nat} {ac : Nat → ClassId} {n : Nat} {r : St × (St × (St)) × (St)} (C : nd_C p l s m args c A (dC, dI) cX1_putPlain 7 RX1 ow_dm_X1_putPlain (dk_X1p ac)) (K : nd_Kv p l e (headSpec ow_dm_X1_putPlain ({ frames := 4, cells := 0, slots := 0, locals := 87 })).room s m args below meth c Q A (dC, dI) cX1_putPlain (St × (St × (St)) × (St)) (dw_X1p a ac) r) : dj_X1_putPlain_75 p l e s m args below meth c Q A dC dI a ac (df_X1_putPlain_75 n) r := by
  obtain ⟨hlt, hx, hb, hml, hown, hts, hN, hA, hK⟩ := id C
  intro x2 x4 y0 y2 y3 s0 H locs ls h hP hD hS hl
  unfold df_X1_putPlain_75 at h
  obtain ⟨q21, s22, hq, h⟩ := nd_b2_e h
  have hPc := dp_X1p_0 hP
  have hDc := dd_X1p_0 hD
  have hKc := dy_X1p_0 hK
  have hFc := nd_rs hDc hS hA
  have hzA : ∀ q : Nat, H.size ≤ q → A q := fun q h => hA q (Nat.le_trans hS.1 h)
  refine nd_cVi (As := [.int y2, .int y3]) (rest := [.int y0]) (q := q21) (w' := dw_X1 (fun k => a (k + 0)) (fun k => ac (k + 0)) s22) ⟨hx, hb, hml, hown, hts⟩ (fun sz => dm_X1_checked l hlt dC dI (fun k => a (k + 0)) (fun k => ac (k + 0)) n (y2) (y3) s0.2.1 hq sz) (cwV 2 hts gi_dm_X1_putPlain_3 rfl rfl rfl (by decide +kernel) ⟨Nat.le_of_ble_eq_true rfl, Nat.le_of_ble_eq_true rfl⟩) hPc hDc hKc hS hA hN (va_recv hKc hPc (ci := 2) (q0 := 0) rfl rfl) rfl hl.1 rfl (Nat.le_of_ble_eq_true rfl) dX1_putPlain_75 (fun H locs hP1 hD1 hk1 hS => ?_)
  obtain ⟨hP, hD⟩ := dn_X1p_0 hP hD hzA hk1 hP1 hD1
  obtain ⟨s24, es24, h⟩ := nd_let_e h
  have hP : va_P (dC, dI) vwCl (dw_X1p a ac s24) H := by rw [es24]; exact hP
  have hD : va_D A (dw_X1p a ac s24) := by rw [es24]; exact hD
  refine lv_ior hx hb dX1_putPlain_78 ?_
  refine lv_topi (fun z25 ez25 => ?_)
  have h := nd_at h ez25
  refine lv_istore_n (lv' := [(3, .int z25), (0, .ref (a 0)), (1, .ref (a 12)), (2, .int x2), (4, .int x4)]) hx hb dX1_putPlain_79 rfl hl (by decide) rfl (fun ls hl => ?_)
  exact (db_X1_putPlain_80 C K) (x2) (z25) (x4) s24 _ _ _ h hP hD hS (lv_sub hl [1, 2, 3, 0, 4] rfl)
set_option maxHeartbeats 40000000 in
set_option maxRecDepth 100000 in
theorem db_X1_putPlain_0 {p : Program} {l : Launch} {e : Env} {s : State} {m : MethodId} {args : Array Value} {below : List Frame} {meth : Method} {c : Code} {Q : State → Prop} {A : Nat → Prop} {dC : Nat → ClassId} {dI : Nat → Nat → Nat} {a : Nat → Nat} {ac : Nat → ClassId} {n : Nat} {r : St × (St × (St)) × (St)} (C : nd_C p l s m args c A (dC, dI) cX1_putPlain 7 RX1 ow_dm_X1_putPlain (dk_X1p ac)) (K : nd_Kv p l e (headSpec ow_dm_X1_putPlain ({ frames := 4, cells := 0, slots := 0, locals := 87 })).room s m args below meth c Q A (dC, dI) cX1_putPlain (St × (St × (St)) × (St)) (dw_X1p a ac) r) : dj_X1_putPlain_0 p l e s m args below meth c Q A dC dI a ac (df_X1_putPlain_0 n) r := by
  obtain ⟨hlt, hx, hb, hml, hown, hts, hN, hA, hK⟩ := id C
  intro v1 s0 H locs ls h hP hD hS hl
  unfold df_X1_putPlain_0 at h
  refine lv_aload_n hx hb dX1_putPlain_0 rfl (lv_at hl 0 rfl) ?_
  refine va_get (D := (dC, dI)) (ci := 2) (v := .ref (a 1)) (C := RX1) (T := TX1) (N := 13) hx hb hts hi_dm_X1_putPlain_X1 hown hK hP 0 rfl rfl 1 (by decide) (hts (.fieldLink RX1 19 "TimeMachine$Assembler" "statement" "[I") (List.mem_of_getElem? (i := 1) rfl)) (fun _ h9 => h9) rfl dX1_putPlain_1 ?_
  refine lv_iload_n hx hb dX1_putPlain_4 rfl (lv_at hl 2 rfl) ?_
  refine lv_iconst (v := 5) hx hb dX1_putPlain_5 (by decide) ?_
  refine lv_iadd hx hb dX1_putPlain_6 ?_
  obtain ⟨i1, h⟩ := nd_ck_e h
  refine va_iald (i := (v1 + 5)) hx hb hK hP 1 0 rfl rfl i1 dX1_putPlain_7 ?_
  refine lv_topi (fun z2 ez2 => ?_)
  have h := nd_at h ez2
  refine lv_istore_n (lv' := [(3, .int z2), (0, .ref (a 0)), (1, .ref (a 12)), (2, .int v1)]) hx hb dX1_putPlain_8 rfl hl (by decide) rfl (fun ls hl => ?_)
  refine lv_aload_n hx hb dX1_putPlain_9 rfl (lv_at hl 1 rfl) ?_
  refine va_get (D := (dC, dI)) (ci := 2) (v := .ref (a 1)) (C := RX1) (T := TX1) (N := 13) hx hb hts hi_dm_X1_putPlain_X1 hown hK hP 0 rfl rfl 1 (by decide) (hts (.fieldLink RX1 19 "TimeMachine$Assembler" "statement" "[I") (List.mem_of_getElem? (i := 1) rfl)) (fun _ h9 => h9) rfl dX1_putPlain_10 ?_
  refine lv_iload_n hx hb dX1_putPlain_13 rfl (lv_at hl 3 rfl) ?_
  refine lv_iconst (v := 2) hx hb dX1_putPlain_14 (by decide) ?_
  refine lv_iadd hx hb dX1_putPlain_15 ?_
  obtain ⟨i3, h⟩ := nd_ck_e h
  refine va_iald (i := (v1 + 2)) hx hb hK hP 1 0 rfl rfl i3 dX1_putPlain_16 ?_
  refine lv_topi (fun z4 ez4 => ?_)
  have h := nd_at h ez4
  refine lv_istore (lv' := [(4, .int z4), (3, .int z2), (0, .ref (a 0)), (1, .ref (a 12)), (2, .int v1)]) hx hb dX1_putPlain_17 hl (by decide) rfl (fun ls hl => ?_)
  refine lv_aload_n hx hb dX1_putPlain_19 rfl (lv_at hl 2 rfl) ?_
  refine va_get (D := (dC, dI)) (ci := 2) (v := .ref (a 1)) (C := RX1) (T := TX1) (N := 13) hx hb hts hi_dm_X1_putPlain_X1 hown hK hP 0 rfl rfl 1 (by decide) (hts (.fieldLink RX1 19 "TimeMachine$Assembler" "statement" "[I") (List.mem_of_getElem? (i := 1) rfl)) (fun _ h9 => h9) rfl dX1_putPlain_20 ?_
  refine lv_iload_n hx hb dX1_putPlain_23 rfl (lv_at hl 4 rfl) ?_
  refine lv_bipush (v := 7) hx hb dX1_putPlain_24 (by decide) ?_
  refine lv_iadd hx hb dX1_putPlain_26 ?_
  obtain ⟨i5, h⟩ := nd_ck_e h
  refine va_iald (i := (v1 + 7)) hx hb hK hP 1 0 rfl rfl i5 dX1_putPlain_27 ?_
  refine lv_i2c hx hb dX1_putPlain_28 rfl ?_
  refine lv_topi (fun z6 ez6 => ?_)
  have h := nd_at h ez6
  refine lv_istore (lv' := [(5, .int z6), (4, .int z4), (3, .int z2), (0, .ref (a 0)), (1, .ref (a 12)), (2, .int v1)]) hx hb dX1_putPlain_29 hl (by decide) rfl (fun ls hl => ?_)
  refine lv_iload hx hb dX1_putPlain_31 (lv_at hl 0 rfl) ?_
  refine lv_if_eq (tgt := 80) hx hb dX1_putPlain_33 (by decide) (fun c7 => ?_) (fun c7 => ?_)
  · have h := nd_pos h c7
    exact (db_X1_putPlain_80 C K) (v1) (z2) (z4) s0 _ _ _ h hP hD hS (lv_sub hl [3, 4, 5, 2, 1] rfl)
  · have h := nd_neg h c7
    refine lv_aload_n hx hb dX1_putPlain_36 rfl (lv_at hl 3 rfl) ?_
    refine lv_aload_n hx hb dX1_putPlain_37 rfl (lv_at hl 3 rfl) ?_
    refine va_get (D := (dC, dI)) (ci := 2) (v := .ref (a 1)) (C := RX1) (T := TX1) (N := 13) hx hb hts hi_dm_X1_putPlain_X1 hown hK hP 0 rfl rfl 1 (by decide) (hts (.fieldLink RX1 19 "TimeMachine$Assembler" "statement" "[I") (List.mem_of_getElem? (i := 1) rfl)) (fun _ h9 => h9) rfl dX1_putPlain_38 ?_
    refine lv_iload_n hx hb dX1_putPlain_41 rfl (lv_at hl 5 rfl) ?_
    refine lv_bipush (v := 6) hx hb dX1_putPlain_42 (by decide) ?_
    refine lv_iadd hx hb dX1_putPlain_44 ?_
    obtain ⟨i12, h⟩ := nd_ck_e h
    refine va_iald (i := (v1 + 6)) hx hb hK hP 1 0 rfl rfl i12 dX1_putPlain_45 ?_
    refine lv_iload hx hb dX1_putPlain_46 (lv_at hl 1 rfl) ?_
    obtain ⟨q13, s14, hq, h⟩ := nd_b2_e h
    have hPc := dp_X1p_0 hP
    have hDc := dd_X1p_0 hD
    have hKc := dy_X1p_0 hK
    have hFc := nd_rs hDc hS hA
    have hzA : ∀ q : Nat, H.size ≤ q → A q := fun q h => hA q (Nat.le_trans hS.1 h)
    refine nd_cVi (As := [.int (sR s0.2.1.1 0 (Int32.toNatClampNeg (v1 + 6))), .int z4]) (rest := []) (q := q13) (w' := dw_X1 (fun k => a (k + 0)) (fun k => ac (k + 0)) s14) ⟨hx, hb, hml, hown, hts⟩ (fun sz => dm_X1_worked l hlt dC dI (fun k => a (k + 0)) (fun k => ac (k + 0)) n ((sR s0.2.1.1 0 (Int32.toNatClampNeg (v1 + 6)))) (z4) s0.2.1 hq sz) (cwV 2 hts gi_dm_X1_putPlain_1 rfl rfl rfl (by decide +kernel) ⟨Nat.le_of_ble_eq_true rfl, Nat.le_of_ble_eq_true rfl⟩) hPc hDc hKc hS hA hN (va_recv hKc hPc (ci := 2) (q0 := 0) rfl rfl) rfl hl.1 rfl (Nat.le_of_ble_eq_true rfl) dX1_putPlain_48 (fun H locs hP1 hD1 hk1 hS => ?_)
    obtain ⟨hP, hD⟩ := dn_X1p_0 hP hD hzA hk1 hP1 hD1
    obtain ⟨s16, es16, h⟩ := nd_let_e h
    have hP : va_P (dC, dI) vwCl (dw_X1p a ac s16) H := by rw [es16]; exact hP
    have hD : va_D A (dw_X1p a ac s16) := by rw [es16]; exact hD
    refine lv_istore (lv' := [(6, .int q13), (5, .int z6), (4, .int z4), (3, .int z2), (0, .ref (a 0)), (1, .ref (a 12)), (2, .int v1)]) hx hb dX1_putPlain_51 hl (by decide) rfl (fun ls hl => ?_)
    refine lv_iload_n hx hb dX1_putPlain_53 rfl (lv_at hl 3 rfl) ?_
    refine lv_aload_n hx hb dX1_putPlain_54 rfl (lv_at hl 4 rfl) ?_
    refine lv_iload hx hb dX1_putPlain_55 (lv_at hl 1 rfl) ?_
    refine lv_iload hx hb dX1_putPlain_57 (lv_at hl 1 rfl) ?_
    obtain ⟨q17, s18, hq, h⟩ := nd_b2_e h
    have hPc : va_P (dC, dI) vwCl (dw_P a ac ()) H := nd_p0
    have hDc : va_D A (dw_P a ac ()) := nd_d0
    have hKc : va_K (dC, dI) vwCl (dk_P ac) s := nd_y0 hK
    have hFc : ∀ q, va_A (dw_P a ac ()) H.size q → A q := nd_r0 hS hA
    refine nd_cSi (As := [.int z6]) (rest := [.int z6, .ref (a 0), .int z2]) (q := q17) (w' := dw_P a ac s18) ⟨hx, hb, hml, hown, hts⟩ (fun sz => dm_X7_isTarget l hlt dC dI a ac n (z6) () hq sz) (va_cwS 1 hts gi_dm_X1_putPlain_2 rfl rfl rfl (by decide +kernel) ⟨Nat.le_of_ble_eq_true rfl, Nat.le_of_ble_eq_true rfl⟩) hPc hDc hKc hS hA hN rfl hl.1 rfl (Nat.le_of_ble_eq_true rfl) dX1_putPlain_59 (fun H locs hP1 hD1 hk1 hS => ?_)
    have hP := nd_n0 hP hk1
    refine lv_if_eq (tgt := 73) hx hb dX1_putPlain_62 (by decide) (fun c20 => ?_) (fun c20 => ?_)
    · have h := nd_pos h c20
      refine lv_iload hx hb dX1_putPlain_73 (lv_at hl 0 rfl) ?_
      exact (db_X1_putPlain_75 C K) (v1) (z4) (z2) (z6) (q13) s16 _ _ _ h hP hD hS (lv_sub hl [4, 5, 6, 2] rfl)
    · have h := nd_neg h c20
      refine lv_iload hx hb dX1_putPlain_65 (lv_at hl 0 rfl) ?_
      refine lv_iload hx hb dX1_putPlain_67 (lv_at hl 2 rfl) ?_
      refine lv_isub hx hb dX1_putPlain_69 ?_
      refine lv_goto (tgt := 75) hx hb dX1_putPlain_70 (by decide) ?_
      exact (db_X1_putPlain_75 C K) (v1) (z4) (z2) (z6) ((q13 - z4)) s16 _ _ _ h hP hD hS (lv_sub hl [4, 5, 6, 2] rfl)
set_option maxHeartbeats 40000000 in
set_option maxRecDepth 100000 in
theorem dm_X1_putPlain (l : Launch) (hlt : l.stackTraces = false) (dC : Nat → ClassId) (dI : Nat → Nat → Nat) (a : Nat → Nat) (ac : Nat → ClassId) (n : Nat) (v1 : Int32) (s0 : St × (St × (St)) × (St)) {r : St × (St × (St)) × (St)} (h : df_X1_putPlain n v1 s0 = some r) (sz : Nat) : Met l yX1_putPlain ow_dm_X1_putPlain ({ frames := 4, cells := 0, slots := 0, locals := 87 }) (va_Pc [.ref (a 0), .ref (a 12), .int v1] (fun U => U.heap.size = sz ∧ va_P (dC, dI) vwCl (dw_X1p a ac s0) U.heap ∧ va_K (dC, dI) vwCl (dk_X1p ac) U ∧ va_D (fun _ => True) (dw_X1p a ac s0) ∧ nv_E (va_A (dw_X1p a ac s0) sz) U)) (va_Qv (fun _ => True) (fun (_ : Unit) t => va_P (dC, dI) vwCl (dw_X1p a ac r) t.heap ∧ va_K (dC, dI) vwCl (dk_X1p ac) t ∧ va_D (va_A (dw_X1p a ac s0) sz) (dw_X1p a ac r)) (va_A (dw_X1p a ac s0) sz)) 0 0 (va_A (dw_X1p a ac s0) sz) := by
  refine Met.ofW (cc := cX1_putPlain) (maxL := 7) (ret := none) (by decide) rfl ?_
  intro p e s m args below meth c s₁ B hml hv
  obtain ⟨rfl, hsz, hP, hK, hD0, hN⟩ := hv
  have hx := B.exec
  have hb := B.bytes
  have hr := B.returns
  have hts := atoms_spec (ws := ow_dm_X1_putPlain) B.pre
  have hown : s.vm.findClass RX1 = some m.cls := findClass_of_methodNamed B.named
  have hlocks := B.notSynchronized
  subst hsz
  have hD := hD0.self (sz := s.heap.size)
  generalize hAe : va_A (dw_X1p a ac s0) s.heap.size = A at hD hN ⊢
  have hA : ∀ q : Nat, s.heap.size ≤ q → A q := fun q h => by rw [← hAe]; exact Or.inr h
  have hl := lv_entry ([.ref (a 0), .ref (a 12), .int v1]) (n := 7) (Nat.le_of_ble_eq_true rfl)
  rw [lg_entry_eq]
  generalize (lg_sl ([.ref (a 0), .ref (a 12), .int v1]) ++ List.replicate (7 - (lg_sl ([.ref (a 0), .ref (a 12), .int v1])).length) Slot.unset).toArray = ls at hl ⊢
  have hl : lv_has ls 7 [(0, .ref (a 0)), (1, .ref (a 12)), (2, .int v1)] := hl
  exact db_X1_putPlain_0 (dC := dC) (dI := dI) (a := a) (ac := ac) (n := n) (r := r) ⟨hlt, hx, hb, hml, hown, hts, hN, hA, hK⟩ (fun pc τ H locs ls d er hP hD hS => by subst er; exact W.vret hx hb hr (fun t ht hW => ⟨⟨(), rfl, trivial, by rw [ht]; exact hP, va_K.moved hW.alike hK, hD⟩, hS.F ht⟩) hS.2.2 d) v1 s0 _ _ _ h hP hD va_S.rf (lv_sub hl [0, 1, 2] rfl)
def ow_dm_X1_putGrown : List Cond := .code yX1_putGrown cX1_putGrown 8 none :: ([.fieldLink RX1 19 "TimeMachine$Assembler" "statement" "[I", .methodLink RX1 330 yX1_worked, .instanceMethod yX1_worked, .selects RX1 yX1_worked yX1_worked, .initialized RX1, .methodLink RX1 296 yX1_growingLetter, .static yX1_growingLetter, .methodLink RX1 337 yX1_checked, .instanceMethod yX1_checked, .selects RX1 yX1_checked yX1_checked, .methodLink RX1 340 yX1_put, .instanceMethod yX1_put, .selects RX1 yX1_put yX1_put, .constant RX1 345 (49153), .methodLink RX1 261 yX7_placed, .static yX7_placed, .initialized RX7, .constant RX1 344 (40961)] ++ (u_ws RX1 TX1 13 ++ (ow_dm_X1_worked ++ (ow_dm_X1_growingLetter ++ (ow_dm_X1_checked ++ (ow_dm_X1_put ++ (ow_dm_X7_placed ++ [])))))))
theorem gd_dm_X1_putGrown : ∀ w ∈ ow_dm_X1_putGrown, (w.onTables && w.keeps) = true ∨ ∃ ty, w = Cond.arrayClass ty := List.forall_mem_cons.mpr ⟨good_of_word rfl, List.forall_mem_append.mpr ⟨fun w h => good_of_word (List.all_eq_true.mp (by decide +kernel) w h), List.forall_mem_append.mpr ⟨gu_X1, List.forall_mem_append.mpr ⟨gd_dm_X1_worked, List.forall_mem_append.mpr ⟨gd_dm_X1_growingLetter, List.forall_mem_append.mpr ⟨gd_dm_X1_checked, List.forall_mem_append.mpr ⟨gd_dm_X1_put, List.forall_mem_append.mpr ⟨gd_dm_X7_placed, fun _ h => nomatch h⟩⟩⟩⟩⟩⟩⟩⟩
theorem hi_dm_X1_putGrown_X1 : ∀ w ∈ u_ws RX1 TX1 13, w ∈ ow_dm_X1_putGrown := fun w h => List.mem_cons_of_mem _ (List.mem_append_right _ (List.mem_append_left _ h))
theorem gi_dm_X1_putGrown_0 : GoodIn ow_dm_X1_putGrown (wsV RX1 330 RX1 yX1_worked ow_dm_X1_worked) := goodIn_app (goodIn_of _ (by decide +kernel)) (fun w h => ⟨List.mem_cons_of_mem _ (List.mem_append_right _ (List.mem_append_right _ (List.mem_append_left _ h))), gd_dm_X1_worked w h⟩)
theorem gi_dm_X1_putGrown_1 : GoodIn ow_dm_X1_putGrown (wsS RX1 296 yX1_growingLetter ow_dm_X1_growingLetter) := goodIn_app (goodIn_of _ (by decide +kernel)) (fun w h => ⟨List.mem_cons_of_mem _ (List.mem_append_right _ (List.mem_append_right _ (List.mem_append_right _ (List.mem_append_left _ h)))), gd_dm_X1_growingLetter w h⟩)
theorem gi_dm_X1_putGrown_2 : GoodIn ow_dm_X1_putGrown (wsV RX1 337 RX1 yX1_checked ow_dm_X1_checked) := goodIn_app (goodIn_of _ (by decide +kernel)) (fun w h => ⟨List.mem_cons_of_mem _ (List.mem_append_right _ (List.mem_append_right _ (List.mem_append_right _ (List.mem_append_right _ (List.mem_append_left _ h))))), gd_dm_X1_checked w h⟩)
theorem gi_dm_X1_putGrown_3 : GoodIn ow_dm_X1_putGrown (wsV RX1 340 RX1 yX1_put ow_dm_X1_put) := goodIn_app (goodIn_of _ (by decide +kernel)) (fun w h => ⟨List.mem_cons_of_mem _ (List.mem_append_right _ (List.mem_append_right _ (List.mem_append_right _ (List.mem_append_right _ (List.mem_append_right _ (List.mem_append_left _ h)))))), gd_dm_X1_put w h⟩)
theorem gi_dm_X1_putGrown_4 : GoodIn ow_dm_X1_putGrown (va_wsS RX1 261 yX7_placed ow_dm_X7_placed) := goodIn_app (goodIn_of _ (by decide +kernel)) (fun w h => ⟨List.mem_cons_of_mem _ (List.mem_append_right _ (List.mem_append_right _ (List.mem_append_right _ (List.mem_append_right _ (List.mem_append_right _ (List.mem_append_right _ (List.mem_append_left _ h))))))), gd_dm_X7_placed w h⟩)
def dj_X1_putGrown_171 (p : Program) (l : Launch) (e : Env) (s : State) (m : MethodId) (args : Array Value) (below : List Frame) (meth : Method) (c : Code) (Q : State → Prop) (A : Nat → Prop) (dC : Nat → ClassId) (dI : Nat → Nat → Nat) (a : Nat → Nat) (ac : Nat → ClassId) (g : Int32 → Int32 → Int32 → Int32 → Int32 → (St × (St × (St)) × (St)) → Option (St × (St × (St)) × (St))) (r : St × (St × (St)) × (St)) : Prop := ∀ (x3 : Int32) (x4 : Int32) (x5 : Int32) (x6 : Int32) (x7 : Int32) (s0 : St × (St × (St)) × (St)) (H : Heap) (locs : List Loc) (ls : Array Slot), g x3 x4 x5 x6 x7 s0 = some r → va_P (dC, dI) vwCl (dw_X1p a ac s0) H → va_D A (dw_X1p a ac s0) → va_S A s.heap H locs → lv_has ls 8 [(0, .ref (a 0)), (1, .ref (a 12)), (3, .int x3), (4, .int x4), (5, .int x5), (6, .int x6), (7, .int x7)] → W p l e (headSpec ow_dm_X1_putGrown ({ frames := 4, cells := 0, slots := 0, locals := 87 })).room s m args below meth c H locs 0 0 Q (F0 m 171 ls [])
def dj_X1_putGrown_142 (p : Program) (l : Launch) (e : Env) (s : State) (m : MethodId) (args : Array Value) (below : List Frame) (meth : Method) (c : Code) (Q : State → Prop) (A : Nat → Prop) (dC : Nat → ClassId) (dI : Nat → Nat → Nat) (a : Nat → Nat) (ac : Nat → ClassId) (g : Int32 → Int32 → Int32 → Int32 → Int32 → (St × (St × (St)) × (St)) → Option (St × (St × (St)) × (St))) (r : St × (St × (St)) × (St)) : Prop := ∀ (x4 : Int32) (x5 : Int32) (x6 : Int32) (x7 : Int32) (y0 : Int32) (s0 : St × (St × (St)) × (St)) (H : Heap) (locs : List Loc) (ls : Array Slot), g x4 x5 x6 x7 y0 s0 = some r → va_P (dC, dI) vwCl (dw_X1p a ac s0) H → va_D A (dw_X1p a ac s0) → va_S A s.heap H locs → lv_has ls 8 [(0, .ref (a 0)), (1, .ref (a 12)), (4, .int x4), (5, .int x5), (6, .int x6), (7, .int x7)] → W p l e (headSpec ow_dm_X1_putGrown ({ frames := 4, cells := 0, slots := 0, locals := 87 })).room s m args below meth c H locs 0 0 Q (F0 m 142 ls [.int y0])
def dj_X1_putGrown_0 (p : Program) (l : Launch) (e : Env) (s : State) (m : MethodId) (args : Array Value) (below : List Frame) (meth : Method) (c : Code) (Q : State → Prop) (A : Nat → Prop) (dC : Nat → ClassId) (dI : Nat → Nat → Nat) (a : Nat → Nat) (ac : Nat → ClassId) (g : Int32 → (St × (St × (St)) × (St)) → Option (St × (St × (St)) × (St))) (r : St × (St × (St)) × (St)) : Prop := ∀ (v1 : Int32) (s0 : St × (St × (St)) × (St)) (H : Heap) (locs : List Loc) (ls : Array Slot), g v1 s0 = some r → va_P (dC, dI) vwCl (dw_X1p a ac s0) H → va_D A (dw_X1p a ac s0) → va_S A s.heap H locs → lv_has ls 8 [(0, .ref (a 0)), (1, .ref (a 12)), (2, .int v1)] → W p l e (headSpec ow_dm_X1_putGrown ({ frames := 4, cells := 0, slots := 0, locals := 87 })).room s m args below meth c H locs 0 0 Q (F0 m 0 ls [])
set_option maxHeartbeats 40000000 in
set_option maxRecDepth 100000 in
theorem db_X1_putGrown_171 {p : Program} {l : Launch} {e : Env} {s : State} {m : MethodId} {args : Array Value} {below : List Frame} {meth : Method} {c : Code} {Q : State → Prop} {A : Nat → Prop} {dC : Nat → ClassId} {dI : Nat → Nat → Nat} {a : Nat → Nat} {ac : Nat → ClassId} {n : Nat} {r : St × (St × (St)) × (St)} (C : nd_C p l s m args c A (dC, dI) cX1_putGrown 8 RX1 ow_dm_X1_putGrown (dk_X1p ac)) (K : nd_Kv p l e (headSpec ow_dm_X1_putGrown ({ frames := 4, cells := 0, slots := 0, locals := 87 })).room s m args below meth c Q A (dC, dI) cX1_putGrown (St × (St × (St)) × (St)) (dw_X1p a ac) r) : dj_X1_putGrown_171 p l e s m args below meth c Q A dC dI a ac (df_X1_putGrown_171 n) r := by
  obtain ⟨hlt, hx, hb, hml, hown, hts, hN, hA, hK⟩ := id C
  intro x3 x4 x5 x6 x7 s0 H locs ls h hP hD hS hl
  unfold df_X1_putGrown_171 at h
  refine lv_aload_n hx hb dX1_putGrown_171 rfl (lv_at hl 0 rfl) ?_
  refine lv_aload_n hx hb dX1_putGrown_172 rfl (lv_at hl 1 rfl) ?_
  refine lv_iload hx hb dX1_putGrown_173 (lv_at hl 3 rfl) ?_
  refine lv_iload hx hb dX1_putGrown_175 (lv_at hl 4 rfl) ?_
  refine lv_iload_n hx hb dX1_putGrown_177 rfl (lv_at hl 2 rfl) ?_
  refine lv_aload_n hx hb dX1_putGrown_178 rfl (lv_at hl 0 rfl) ?_
  refine lv_iload hx hb dX1_putGrown_179 (lv_at hl 5 rfl) ?_
  refine lv_iload hx hb dX1_putGrown_181 (lv_at hl 4 rfl) ?_
  obtain ⟨q17, s18, hq, h⟩ := nd_b2_e h
  have hPc : va_P (dC, dI) vwCl (dw_P a ac ()) H := nd_p0
  have hDc : va_D A (dw_P a ac ()) := nd_d0
  have hKc : va_K (dC, dI) vwCl (dk_P ac) s := nd_y0 hK
  have hFc : ∀ q, va_A (dw_P a ac ()) H.size q → A q := nd_r0 hS hA
  refine nd_cSi (As := [.int x6, .int x5]) (rest := [.ref (a 0), .int x3, .int x5, .int x4, .ref (a 12), .ref (a 0)]) (q := q17) (w' := dw_P a ac s18) ⟨hx, hb, hml, hown, hts⟩ (fun sz => dm_X1_growingLetter l hlt dC dI a ac n (x6) (x5) () hq sz) (cwS 2 hts gi_dm_X1_putGrown_1 rfl rfl rfl (by decide +kernel) ⟨Nat.le_of_ble_eq_true rfl, Nat.le_of_ble_eq_true rfl⟩) hPc hDc hKc hS hA hN rfl hl.1 rfl (Nat.le_of_ble_eq_true rfl) dX1_putGrown_183 (fun H locs hP1 hD1 hk1 hS => ?_)
  have hP := nd_n0 hP hk1
  refine lv_iload hx hb dX1_putGrown_186 (lv_at hl 6 rfl) ?_
  obtain ⟨q20, s21, hq, h⟩ := nd_b2_e h
  have hPc := dp_X1p_0 hP
  have hDc := dd_X1p_0 hD
  have hKc := dy_X1p_0 hK
  have hFc := nd_rs hDc hS hA
  have hzA : ∀ q : Nat, H.size ≤ q → A q := fun q h => hA q (Nat.le_trans hS.1 h)
  refine nd_cVi (As := [.int q17, .int x7]) (rest := [.int x3, .int x5, .int x4, .ref (a 12), .ref (a 0)]) (q := q20) (w' := dw_X1 (fun k => a (k + 0)) (fun k => ac (k + 0)) s21) ⟨hx, hb, hml, hown, hts⟩ (fun sz => dm_X1_checked l hlt dC dI (fun k => a (k + 0)) (fun k => ac (k + 0)) n (q17) (x7) s0.2.1 hq sz) (cwV 2 hts gi_dm_X1_putGrown_2 rfl rfl rfl (by decide +kernel) ⟨Nat.le_of_ble_eq_true rfl, Nat.le_of_ble_eq_true rfl⟩) hPc hDc hKc hS hA hN (va_recv hKc hPc (ci := 2) (q0 := 0) rfl rfl) rfl hl.1 rfl (Nat.le_of_ble_eq_true rfl) dX1_putGrown_188 (fun H locs hP1 hD1 hk1 hS => ?_)
  obtain ⟨hP, hD⟩ := dn_X1p_0 hP hD hzA hk1 hP1 hD1
  obtain ⟨s23, es23, h⟩ := nd_let_e h
  have hP : va_P (dC, dI) vwCl (dw_X1p a ac s23) H := by rw [es23]; exact hP
  have hD : va_D A (dw_X1p a ac s23) := by rw [es23]; exact hD
  refine lv_ior hx hb dX1_putGrown_191 ?_
  obtain ⟨s25, hq, h⟩ := nd_b1_e h
  have hPc := hP
  have hDc := hD
  have hKc := hK
  have hFc := nd_rs hD hS hA
  refine nd_cVv (As := [.ref (a 12), .int x4, .int x5, .int (x3 ||| q20)]) (rest := []) (w' := dw_X1p a ac s25) ⟨hx, hb, hml, hown, hts⟩ (fun sz => dm_X1_put l hlt dC dI a ac n (x4) (x5) ((x3 ||| q20)) s23 hq sz) (cwV 4 hts gi_dm_X1_putGrown_3 rfl rfl rfl (by decide +kernel) ⟨Nat.le_of_ble_eq_true rfl, Nat.le_of_ble_eq_true rfl⟩) hPc hDc hKc hS hA hN (va_recv hKc hPc (ci := 2) (q0 := 0) rfl rfl) rfl hl.1 rfl (Nat.le_of_ble_eq_true rfl) dX1_putGrown_192 (fun H locs hP1 hD1 hk1 hS => ?_)
  have hP := hP1
  have hD := hD1.weaken (fun k q _ h => hFc q.1 h)
  exact K _ _ _ _ _ dX1_putGrown_195 (Option.some.inj h).symm hP hD hS
set_option maxHeartbeats 40000000 in
set_option maxRecDepth 100000 in
theorem db_X1_putGrown_142 {p : Program} {l : Launch} {e : Env} {s : State} {m : MethodId} {args : Array Value} {below : List Frame} {meth : Method} {c : Code} {Q : State → Prop} {A : Nat → Prop} {dC : Nat → ClassId} {dI : Nat → Nat → Nat} {a : Nat → Nat} {ac : Nat → ClassId} {n : Nat} {r : St × (St × (St)) × (St)} (C : nd_C p l s m args c A (dC, dI) cX1_putGrown 8 RX1 ow_dm_X1_putGrown (dk_X1p ac)) (K : nd_Kv p l e (headSpec ow_dm_X1_putGrown ({ frames := 4, cells := 0, slots := 0, locals := 87 })).room s m args below meth c Q A (dC, dI) cX1_putGrown (St × (St × (St)) × (St)) (dw_X1p a ac) r) : dj_X1_putGrown_142 p l e s m args below meth c Q A dC dI a ac (df_X1_putGrown_142 n) r := by
  obtain ⟨hlt, hx, hb, hml, hown, hts, hN, hA, hK⟩ := id C
  intro x4 x5 x6 x7 y0 s0 H locs ls h hP hD hS hl
  unfold df_X1_putGrown_142 at h
  refine lv_istore_n (lv' := [(3, .int y0), (0, .ref (a 0)), (1, .ref (a 12)), (4, .int x4), (5, .int x5), (6, .int x6), (7, .int x7)]) hx hb dX1_putGrown_142 rfl hl (by decide) rfl (fun ls hl => ?_)
  refine lv_goto (tgt := 171) hx hb dX1_putGrown_143 (by decide) ?_
  exact (db_X1_putGrown_171 C K) (y0) (x4) (x5) (x6) (x7) s0 _ _ _ h hP hD hS (lv_sub hl [1, 2, 0, 3, 4, 5, 6] rfl)
set_option maxHeartbeats 40000000 in
set_option maxRecDepth 100000 in
theorem db_X1_putGrown_0 {p : Program} {l : Launch} {e : Env} {s : State} {m : MethodId} {args : Array Value} {below : List Frame} {meth : Method} {c : Code} {Q : State → Prop} {A : Nat → Prop} {dC : Nat → ClassId} {dI : Nat → Nat → Nat} {a : Nat → Nat} {ac : Nat → ClassId} {n : Nat} {r : St × (St × (St)) × (St)} (C : nd_C p l s m args c A (dC, dI) cX1_putGrown 8 RX1 ow_dm_X1_putGrown (dk_X1p ac)) (K : nd_Kv p l e (headSpec ow_dm_X1_putGrown ({ frames := 4, cells := 0, slots := 0, locals := 87 })).room s m args below meth c Q A (dC, dI) cX1_putGrown (St × (St × (St)) × (St)) (dw_X1p a ac) r) : dj_X1_putGrown_0 p l e s m args below meth c Q A dC dI a ac (df_X1_putGrown_0 n) r := by
  obtain ⟨hlt, hx, hb, hml, hown, hts, hN, hA, hK⟩ := id C
  intro v1 s0 H locs ls h hP hD hS hl
  unfold df_X1_putGrown_0 at h
  refine lv_aload_n hx hb dX1_putGrown_0 rfl (lv_at hl 0 rfl) ?_
  refine va_get (D := (dC, dI)) (ci := 2) (v := .ref (a 1)) (C := RX1) (T := TX1) (N := 13) hx hb hts hi_dm_X1_putGrown_X1 hown hK hP 0 rfl rfl 1 (by decide) (hts (.fieldLink RX1 19 "TimeMachine$Assembler" "statement" "[I") (List.mem_of_getElem? (i := 1) rfl)) (fun _ h9 => h9) rfl dX1_putGrown_1 ?_
  refine lv_iload_n hx hb dX1_putGrown_4 rfl (lv_at hl 2 rfl) ?_
  refine lv_iconst (v := 5) hx hb dX1_putGrown_5 (by decide) ?_
  refine lv_iadd hx hb dX1_putGrown_6 ?_
  obtain ⟨i1, h⟩ := nd_ck_e h
  refine va_iald (i := (v1 + 5)) hx hb hK hP 1 0 rfl rfl i1 dX1_putGrown_7 ?_
  refine lv_topi (fun z2 ez2 => ?_)
  have h := nd_at h ez2
  refine lv_istore_n (lv' := [(3, .int z2), (0, .ref (a 0)), (1, .ref (a 12)), (2, .int v1)]) hx hb dX1_putGrown_8 rfl hl (by decide) rfl (fun ls hl => ?_)
  refine lv_aload_n hx hb dX1_putGrown_9 rfl (lv_at hl 1 rfl) ?_
  refine va_get (D := (dC, dI)) (ci := 2) (v := .ref (a 1)) (C := RX1) (T := TX1) (N := 13) hx hb hts hi_dm_X1_putGrown_X1 hown hK hP 0 rfl rfl 1 (by decide) (hts (.fieldLink RX1 19 "TimeMachine$Assembler" "statement" "[I") (List.mem_of_getElem? (i := 1) rfl)) (fun _ h9 => h9) rfl dX1_putGrown_10 ?_
  refine lv_iload_n hx hb dX1_putGrown_13 rfl (lv_at hl 3 rfl) ?_
  refine lv_iconst (v := 2) hx hb dX1_putGrown_14 (by decide) ?_
  refine lv_iadd hx hb dX1_putGrown_15 ?_
  obtain ⟨i3, h⟩ := nd_ck_e h
  refine va_iald (i := (v1 + 2)) hx hb hK hP 1 0 rfl rfl i3 dX1_putGrown_16 ?_
  refine lv_topi (fun z4 ez4 => ?_)
  have h := nd_at h ez4
  refine lv_istore (lv' := [(4, .int z4), (3, .int z2), (0, .ref (a 0)), (1, .ref (a 12)), (2, .int v1)]) hx hb dX1_putGrown_17 hl (by decide) rfl (fun ls hl => ?_)
  refine lv_aload_n hx hb dX1_putGrown_19 rfl (lv_at hl 2 rfl) ?_
  refine va_get (D := (dC, dI)) (ci := 2) (v := .ref (a 1)) (C := RX1) (T := TX1) (N := 13) hx hb hts hi_dm_X1_putGrown_X1 hown hK hP 0 rfl rfl 1 (by decide) (hts (.fieldLink RX1 19 "TimeMachine$Assembler" "statement" "[I") (List.mem_of_getElem? (i := 1) rfl)) (fun _ h9 => h9) rfl dX1_putGrown_20 ?_
  refine lv_iload_n hx hb dX1_putGrown_23 rfl (lv_at hl 4 rfl) ?_
  refine lv_iconst (v := 3) hx hb dX1_putGrown_24 (by decide) ?_
  refine lv_iadd hx hb dX1_putGrown_25 ?_
  obtain ⟨i5, h⟩ := nd_ck_e h
  refine va_iald (i := (v1 + 3)) hx hb hK hP 1 0 rfl rfl i5 dX1_putGrown_26 ?_
  refine lv_topi (fun z6 ez6 => ?_)
  have h := nd_at h ez6
  refine lv_istore (lv' := [(5, .int z6), (4, .int z4), (3, .int z2), (0, .ref (a 0)), (1, .ref (a 12)), (2, .int v1)]) hx hb dX1_putGrown_27 hl (by decide) rfl (fun ls hl => ?_)
  refine lv_aload_n hx hb dX1_putGrown_29 rfl (lv_at hl 3 rfl) ?_
  refine va_get (D := (dC, dI)) (ci := 2) (v := .ref (a 1)) (C := RX1) (T := TX1) (N := 13) hx hb hts hi_dm_X1_putGrown_X1 hown hK hP 0 rfl rfl 1 (by decide) (hts (.fieldLink RX1 19 "TimeMachine$Assembler" "statement" "[I") (List.mem_of_getElem? (i := 1) rfl)) (fun _ h9 => h9) rfl dX1_putGrown_30 ?_
  refine lv_iload_n hx hb dX1_putGrown_33 rfl (lv_at hl 5 rfl) ?_
  refine lv_iconst (v := 4) hx hb dX1_putGrown_34 (by decide) ?_
  refine lv_iadd hx hb dX1_putGrown_35 ?_
  obtain ⟨i7, h⟩ := nd_ck_e h
  refine va_iald (i := (v1 + 4)) hx hb hK hP 1 0 rfl rfl i7 dX1_putGrown_36 ?_
  refine lv_topi (fun z8 ez8 => ?_)
  have h := nd_at h ez8
  refine lv_istore (lv' := [(6, .int z8), (5, .int z6), (4, .int z4), (3, .int z2), (0, .ref (a 0)), (1, .ref (a 12)), (2, .int v1)]) hx hb dX1_putGrown_37 hl (by decide) rfl (fun ls hl => ?_)
  refine lv_aload_n hx hb dX1_putGrown_39 rfl (lv_at hl 4 rfl) ?_
  refine lv_aload_n hx hb dX1_putGrown_40 rfl (lv_at hl 4 rfl) ?_
  refine va_get (D := (dC, dI)) (ci := 2) (v := .ref (a 1)) (C := RX1) (T := TX1) (N := 13) hx hb hts hi_dm_X1_putGrown_X1 hown hK hP 0 rfl rfl 1 (by decide) (hts (.fieldLink RX1 19 "TimeMachine$Assembler" "statement" "[I") (List.mem_of_getElem? (i := 1) rfl)) (fun _ h9 => h9) rfl dX1_putGrown_41 ?_
  refine lv_iload_n hx hb dX1_putGrown_44 rfl (lv_at hl 6 rfl) ?_
  refine lv_bipush (v := 6) hx hb dX1_putGrown_45 (by decide) ?_
  refine lv_iadd hx hb dX1_putGrown_47 ?_
  obtain ⟨i9, h⟩ := nd_ck_e h
  refine va_iald (i := (v1 + 6)) hx hb hK hP 1 0 rfl rfl i9 dX1_putGrown_48 ?_
  refine lv_iload hx hb dX1_putGrown_49 (lv_at hl 2 rfl) ?_
  obtain ⟨q10, s11, hq, h⟩ := nd_b2_e h
  have hPc := dp_X1p_0 hP
  have hDc := dd_X1p_0 hD
  have hKc := dy_X1p_0 hK
  have hFc := nd_rs hDc hS hA
  have hzA : ∀ q : Nat, H.size ≤ q → A q := fun q h => hA q (Nat.le_trans hS.1 h)
  refine nd_cVi (As := [.int (sR s0.2.1.1 0 (Int32.toNatClampNeg (v1 + 6))), .int z4]) (rest := []) (q := q10) (w' := dw_X1 (fun k => a (k + 0)) (fun k => ac (k + 0)) s11) ⟨hx, hb, hml, hown, hts⟩ (fun sz => dm_X1_worked l hlt dC dI (fun k => a (k + 0)) (fun k => ac (k + 0)) n ((sR s0.2.1.1 0 (Int32.toNatClampNeg (v1 + 6)))) (z4) s0.2.1 hq sz) (cwV 2 hts gi_dm_X1_putGrown_0 rfl rfl rfl (by decide +kernel) ⟨Nat.le_of_ble_eq_true rfl, Nat.le_of_ble_eq_true rfl⟩) hPc hDc hKc hS hA hN (va_recv hKc hPc (ci := 2) (q0 := 0) rfl rfl) rfl hl.1 rfl (Nat.le_of_ble_eq_true rfl) dX1_putGrown_51 (fun H locs hP1 hD1 hk1 hS => ?_)
  obtain ⟨hP, hD⟩ := dn_X1p_0 hP hD hzA hk1 hP1 hD1
  obtain ⟨s13, es13, h⟩ := nd_let_e h
  have hP : va_P (dC, dI) vwCl (dw_X1p a ac s13) H := by rw [es13]; exact hP
  have hD : va_D A (dw_X1p a ac s13) := by rw [es13]; exact hD
  refine lv_iload hx hb dX1_putGrown_54 (lv_at hl 2 rfl) ?_
  refine lv_isub hx hb dX1_putGrown_56 ?_
  refine lv_topi (fun z14 ez14 => ?_)
  have h := nd_at h ez14
  refine lv_istore (lv' := [(7, .int z14), (6, .int z8), (5, .int z6), (4, .int z4), (3, .int z2), (0, .ref (a 0)), (1, .ref (a 12)), (2, .int v1)]) hx hb dX1_putGrown_57 hl (by decide) rfl (fun ls hl => ?_)
  refine lv_iload hx hb dX1_putGrown_59 (lv_at hl 2 rfl) ?_
  refine lv_bipush (v := 8) hx hb dX1_putGrown_61 (by decide) ?_
  refine lv_icmp_ne (tgt := 111) hx hb dX1_putGrown_63 (by decide) (fun c15 => ?_) (fun c15 => ?_)
  · have h := nd_neg h c15
    refine lv_iload hx hb dX1_putGrown_111 (lv_at hl 2 rfl) ?_
    refine lv_iconst (v := 2) hx hb dX1_putGrown_113 (by decide) ?_
    refine lv_icmp_ne (tgt := 171) hx hb dX1_putGrown_114 (by decide) (fun c16 => ?_) (fun c16 => ?_)
    · have h := nd_neg h c16
      exact (db_X1_putGrown_171 C K) (z2) (z4) (z6) (z8) (z14) s13 _ _ _ h hP hD hS (lv_sub hl [5, 6, 4, 3, 2, 1, 0] rfl)
    · have h := nd_pos h c16
      refine lv_iload hx hb dX1_putGrown_117 (lv_at hl 1 rfl) ?_
      refine lv_iconst (v := 1) hx hb dX1_putGrown_119 (by decide) ?_
      refine lv_icmp_ne (tgt := 146) hx hb dX1_putGrown_120 (by decide) (fun c27 => ?_) (fun c27 => ?_)
      · have h := nd_neg h c27
        refine lv_ldcw hx hb hown (hts (.constant RX1 345 (49153)) (List.mem_of_getElem? (i := 14) rfl)) dX1_putGrown_146 ?_
        refine lv_iload_n hx hb dX1_putGrown_149 rfl (lv_at hl 4 rfl) ?_
        refine lv_sipush (v := 4096) hx hb dX1_putGrown_150 (by decide) ?_
        refine lv_iand hx hb dX1_putGrown_153 ?_
        refine lv_iconst (v := 1) hx hb dX1_putGrown_154 (by decide) ?_
        refine lv_ishl hx hb dX1_putGrown_155 ?_
        refine lv_ior hx hb dX1_putGrown_156 ?_
        refine lv_bipush (v := 113) hx hb dX1_putGrown_157 (by decide) ?_
        refine lv_iload_n hx hb dX1_putGrown_159 rfl (lv_at hl 4 rfl) ?_
        refine lv_bipush (v := 15) hx hb dX1_putGrown_160 (by decide) ?_
        refine lv_ishr hx hb dX1_putGrown_162 ?_
        refine lv_bipush (v := 31) hx hb dX1_putGrown_163 (by decide) ?_
        refine lv_iand hx hb dX1_putGrown_165 ?_
        obtain ⟨q28, s29, hq, h⟩ := nd_b2_e h
        have hPc : va_P (dC, dI) vwCl (dw_P a ac ()) H := nd_p0
        have hDc : va_D A (dw_P a ac ()) := nd_d0
        have hKc : va_K (dC, dI) vwCl (dk_P ac) s := nd_y0 hK
        have hFc : ∀ q, va_A (dw_P a ac ()) H.size q → A q := nd_r0 hS hA
        refine nd_cSi (As := [.int 113, .int (((z2 : Int32) >>> ((15 : Int32) &&& 31)) &&& 31)]) (rest := [.int (49153 ||| (((z2 &&& 4096) : Int32) <<< ((1 : Int32) &&& 31)))]) (q := q28) (w' := dw_P a ac s29) ⟨hx, hb, hml, hown, hts⟩ (fun sz => dm_X7_placed l hlt dC dI a ac n (113) ((((z2 : Int32) >>> ((15 : Int32) &&& 31)) &&& 31)) () hq sz) (va_cwS 2 hts gi_dm_X1_putGrown_4 rfl rfl rfl (by decide +kernel) ⟨Nat.le_of_ble_eq_true rfl, Nat.le_of_ble_eq_true rfl⟩) hPc hDc hKc hS hA hN rfl hl.1 rfl (Nat.le_of_ble_eq_true rfl) dX1_putGrown_166 (fun H locs hP1 hD1 hk1 hS => ?_)
        have hP := nd_n0 hP hk1
        refine lv_ior hx hb dX1_putGrown_169 ?_
        refine lv_topi (fun z31 ez31 => ?_)
        have h := nd_at h ez31
        refine lv_istore_n (lv' := [(3, .int z31), (7, .int z14), (6, .int z8), (5, .int z6), (4, .int z4), (0, .ref (a 0)), (1, .ref (a 12)), (2, .int v1)]) hx hb dX1_putGrown_170 rfl hl (by decide) rfl (fun ls hl => ?_)
        exact (db_X1_putGrown_171 C K) (z31) (z4) (z6) (z8) (z14) s13 _ _ _ h hP hD hS (lv_sub hl [5, 6, 0, 4, 3, 2, 1] rfl)
      · have h := nd_pos h c27
        refine lv_iload_n hx hb dX1_putGrown_123 rfl (lv_at hl 4 rfl) ?_
        refine lv_bipush (v := 7) hx hb dX1_putGrown_124 (by decide) ?_
        refine lv_ishr hx hb dX1_putGrown_126 ?_
        refine lv_bipush (v := 31) hx hb dX1_putGrown_127 (by decide) ?_
        refine lv_iand hx hb dX1_putGrown_129 ?_
        refine lv_if_ne (tgt := 139) hx hb dX1_putGrown_130 (by decide) (fun c32 => ?_) (fun c32 => ?_)
        · have h := nd_neg h c32
          refine lv_sipush (v := 8193) hx hb dX1_putGrown_139 (by decide) ?_
          exact (db_X1_putGrown_142 C K) (z4) (z6) (z8) (z14) (8193) s13 _ _ _ h hP hD hS (lv_sub hl [5, 6, 3, 2, 1, 0] rfl)
        · have h := nd_pos h c32
          refine lv_ldcw hx hb hown (hts (.constant RX1 344 (40961)) (List.mem_of_getElem? (i := 18) rfl)) dX1_putGrown_133 ?_
          refine lv_goto (tgt := 142) hx hb dX1_putGrown_136 (by decide) ?_
          exact (db_X1_putGrown_142 C K) (z4) (z6) (z8) (z14) (40961) s13 _ _ _ h hP hD hS (lv_sub hl [5, 6, 3, 2, 1, 0] rfl)
  · have h := nd_pos h c15
    refine lv_aload_n hx hb dX1_putGrown_66 rfl (lv_at hl 5 rfl) ?_
    refine lv_aload_n hx hb dX1_putGrown_67 rfl (lv_at hl 6 rfl) ?_
    refine lv_iload hx hb dX1_putGrown_68 (lv_at hl 3 rfl) ?_
    refine lv_iconst (v := 4) hx hb dX1_putGrown_70 (by decide) ?_
    refine lv_iload_n hx hb dX1_putGrown_71 rfl (lv_at hl 4 rfl) ?_
    refine lv_sipush (v := 4096) hx hb dX1_putGrown_72 (by decide) ?_
    refine lv_ixor hx hb dX1_putGrown_75 ?_
    refine lv_bipush (v := 84) hx hb dX1_putGrown_76 (by decide) ?_
    refine lv_bipush (v := 8) hx hb dX1_putGrown_78 (by decide) ?_
    obtain ⟨q33, s34, hq, h⟩ := nd_b2_e h
    have hPc : va_P (dC, dI) vwCl (dw_P a ac ()) H := nd_p0
    have hDc : va_D A (dw_P a ac ()) := nd_d0
    have hKc : va_K (dC, dI) vwCl (dk_P ac) s := nd_y0 hK
    have hFc : ∀ q, va_A (dw_P a ac ()) H.size q → A q := nd_r0 hS hA
    refine nd_cSi (As := [.int 84, .int 8]) (rest := [.int (z2 ^^^ 4096), .int 4, .int z4, .ref (a 12), .ref (a 0)]) (q := q33) (w' := dw_P a ac s34) ⟨hx, hb, hml, hown, hts⟩ (fun sz => dm_X7_placed l hlt dC dI a ac n (84) (8) () hq sz) (va_cwS 2 hts gi_dm_X1_putGrown_4 rfl rfl rfl (by decide +kernel) ⟨Nat.le_of_ble_eq_true rfl, Nat.le_of_ble_eq_true rfl⟩) hPc hDc hKc hS hA hN rfl hl.1 rfl (Nat.le_of_ble_eq_true rfl) dX1_putGrown_80 (fun H locs hP1 hD1 hk1 hS => ?_)
    have hP := nd_n0 hP hk1
    refine lv_ior hx hb dX1_putGrown_83 ?_
    obtain ⟨s37, hq, h⟩ := nd_b1_e h
    have hPc := hP
    have hDc := hD
    have hKc := hK
    have hFc := nd_rs hD hS hA
    refine nd_cVv (As := [.ref (a 12), .int z4, .int 4, .int ((z2 ^^^ 4096) ||| q33)]) (rest := []) (w' := dw_X1p a ac s37) ⟨hx, hb, hml, hown, hts⟩ (fun sz => dm_X1_put l hlt dC dI a ac n (z4) (4) (((z2 ^^^ 4096) ||| q33)) s13 hq sz) (cwV 4 hts gi_dm_X1_putGrown_3 rfl rfl rfl (by decide +kernel) ⟨Nat.le_of_ble_eq_true rfl, Nat.le_of_ble_eq_true rfl⟩) hPc hDc hKc hS hA hN (va_recv hKc hPc (ci := 2) (q0 := 0) rfl rfl) rfl hl.1 rfl (Nat.le_of_ble_eq_true rfl) dX1_putGrown_84 (fun H locs hP1 hD1 hk1 hS => ?_)
    have hP := hP1
    have hD := hD1.weaken (fun k q _ h => hFc q.1 h)
    refine lv_aload_n hx hb dX1_putGrown_87 rfl (lv_at hl 5 rfl) ?_
    refine lv_aload_n hx hb dX1_putGrown_88 rfl (lv_at hl 6 rfl) ?_
    refine lv_iload hx hb dX1_putGrown_89 (lv_at hl 3 rfl) ?_
    refine lv_iconst (v := 4) hx hb dX1_putGrown_91 (by decide) ?_
    refine lv_iadd hx hb dX1_putGrown_92 ?_
    refine lv_iconst (v := 4) hx hb dX1_putGrown_93 (by decide) ?_
    refine lv_bipush (v := 111) hx hb dX1_putGrown_94 (by decide) ?_
    refine lv_aload_n hx hb dX1_putGrown_96 rfl (lv_at hl 5 rfl) ?_
    refine lv_bipush (v := 74) hx hb dX1_putGrown_97 (by decide) ?_
    refine lv_iload hx hb dX1_putGrown_99 (lv_at hl 0 rfl) ?_
    refine lv_iconst (v := 4) hx hb dX1_putGrown_101 (by decide) ?_
    refine lv_isub hx hb dX1_putGrown_102 ?_
    obtain ⟨q39, s40, hq, h⟩ := nd_b2_e h
    have hPc := dp_X1p_0 hP
    have hDc := dd_X1p_0 hD
    have hKc := dy_X1p_0 hK
    have hFc := nd_rs hDc hS hA
    have hzA : ∀ q : Nat, H.size ≤ q → A q := fun q h => hA q (Nat.le_trans hS.1 h)
    refine nd_cVi (As := [.int 74, .int (z14 - 4)]) (rest := [.int 111, .int 4, .int (z4 + 4), .ref (a 12), .ref (a 0)]) (q := q39) (w' := dw_X1 (fun k => a (k + 0)) (fun k => ac (k + 0)) s40) ⟨hx, hb, hml, hown, hts⟩ (fun sz => dm_X1_checked l hlt dC dI (fun k => a (k + 0)) (fun k => ac (k + 0)) n (74) ((z14 - 4)) s37.2.1 hq sz) (cwV 2 hts gi_dm_X1_putGrown_2 rfl rfl rfl (by decide +kernel) ⟨Nat.le_of_ble_eq_true rfl, Nat.le_of_ble_eq_true rfl⟩) hPc hDc hKc hS hA hN (va_recv hKc hPc (ci := 2) (q0 := 0) rfl rfl) rfl hl.1 rfl (Nat.le_of_ble_eq_true rfl) dX1_putGrown_103 (fun H locs hP1 hD1 hk1 hS => ?_)
    obtain ⟨hP, hD⟩ := dn_X1p_0 hP hD hzA hk1 hP1 hD1
    obtain ⟨s42, es42, h⟩ := nd_let_e h
    have hP : va_P (dC, dI) vwCl (dw_X1p a ac s42) H := by rw [es42]; exact hP
    have hD : va_D A (dw_X1p a ac s42) := by rw [es42]; exact hD
    refine lv_ior hx hb dX1_putGrown_106 ?_
    obtain ⟨s44, hq, h⟩ := nd_b1_e h
    have hPc := hP
    have hDc := hD
    have hKc := hK
    have hFc := nd_rs hD hS hA
    refine nd_cVv (As := [.ref (a 12), .int (z4 + 4), .int 4, .int (111 ||| q39)]) (rest := []) (w' := dw_X1p a ac s44) ⟨hx, hb, hml, hown, hts⟩ (fun sz => dm_X1_put l hlt dC dI a ac n ((z4 + 4)) (4) ((111 ||| q39)) s42 hq sz) (cwV 4 hts gi_dm_X1_putGrown_3 rfl rfl rfl (by decide +kernel) ⟨Nat.le_of_ble_eq_true rfl, Nat.le_of_ble_eq_true rfl⟩) hPc hDc hKc hS hA hN (va_recv hKc hPc (ci := 2) (q0 := 0) rfl rfl) rfl hl.1 rfl (Nat.le_of_ble_eq_true rfl) dX1_putGrown_107 (fun H locs hP1 hD1 hk1 hS => ?_)
    have hP := hP1
    have hD := hD1.weaken (fun k q _ h => hFc q.1 h)
    exact K _ _ _ _ _ dX1_putGrown_110 (Option.some.inj h).symm hP hD hS
set_option maxHeartbeats 40000000 in
set_option maxRecDepth 100000 in
theorem dm_X1_putGrown (l : Launch) (hlt : l.stackTraces = false) (dC : Nat → ClassId) (dI : Nat → Nat → Nat) (a : Nat → Nat) (ac : Nat → ClassId) (n : Nat) (v1 : Int32) (s0 : St × (St × (St)) × (St)) {r : St × (St × (St)) × (St)} (h : df_X1_putGrown n v1 s0 = some r) (sz : Nat) : Met l yX1_putGrown ow_dm_X1_putGrown ({ frames := 4, cells := 0, slots := 0, locals := 87 }) (va_Pc [.ref (a 0), .ref (a 12), .int v1] (fun U => U.heap.size = sz ∧ va_P (dC, dI) vwCl (dw_X1p a ac s0) U.heap ∧ va_K (dC, dI) vwCl (dk_X1p ac) U ∧ va_D (fun _ => True) (dw_X1p a ac s0) ∧ nv_E (va_A (dw_X1p a ac s0) sz) U)) (va_Qv (fun _ => True) (fun (_ : Unit) t => va_P (dC, dI) vwCl (dw_X1p a ac r) t.heap ∧ va_K (dC, dI) vwCl (dk_X1p ac) t ∧ va_D (va_A (dw_X1p a ac s0) sz) (dw_X1p a ac r)) (va_A (dw_X1p a ac s0) sz)) 0 0 (va_A (dw_X1p a ac s0) sz) := by
  refine Met.ofW (cc := cX1_putGrown) (maxL := 8) (ret := none) (by decide) rfl ?_
  intro p e s m args below meth c s₁ B hml hv
  obtain ⟨rfl, hsz, hP, hK, hD0, hN⟩ := hv
  have hx := B.exec
  have hb := B.bytes
  have hr := B.returns
  have hts := atoms_spec (ws := ow_dm_X1_putGrown) B.pre
  have hown : s.vm.findClass RX1 = some m.cls := findClass_of_methodNamed B.named
  have hlocks := B.notSynchronized
  subst hsz
  have hD := hD0.self (sz := s.heap.size)
  generalize hAe : va_A (dw_X1p a ac s0) s.heap.size = A at hD hN ⊢
  have hA : ∀ q : Nat, s.heap.size ≤ q → A q := fun q h => by rw [← hAe]; exact Or.inr h
  have hl := lv_entry ([.ref (a 0), .ref (a 12), .int v1]) (n := 8) (Nat.le_of_ble_eq_true rfl)
  rw [lg_entry_eq]
  generalize (lg_sl ([.ref (a 0), .ref (a 12), .int v1]) ++ List.replicate (8 - (lg_sl ([.ref (a 0), .ref (a 12), .int v1])).length) Slot.unset).toArray = ls at hl ⊢
  have hl : lv_has ls 8 [(0, .ref (a 0)), (1, .ref (a 12)), (2, .int v1)] := hl
  exact db_X1_putGrown_0 (dC := dC) (dI := dI) (a := a) (ac := ac) (n := n) (r := r) ⟨hlt, hx, hb, hml, hown, hts, hN, hA, hK⟩ (fun pc τ H locs ls d er hP hD hS => by subst er; exact W.vret hx hb hr (fun t ht hW => ⟨⟨(), rfl, trivial, by rw [ht]; exact hP, va_K.moved hW.alike hK, hD⟩, hS.F ht⟩) hS.2.2 d) v1 s0 _ _ _ h hP hD va_S.rf (lv_sub hl [0, 1, 2] rfl)
def ow_dm_X1_putAddress : List Cond := .code yX1_putAddress cX1_putAddress 6 none :: ([.fieldLink RX1 19 "TimeMachine$Assembler" "statement" "[I", .methodLink RX1 330 yX1_worked, .instanceMethod yX1_worked, .selects RX1 yX1_worked yX1_worked, .initialized RX1, .methodLink RX1 346 yX9_high, .static yX9_high, .initialized RX9, .methodLink RX1 261 yX7_placed, .static yX7_placed, .initialized RX7, .methodLink RX1 340 yX1_put, .instanceMethod yX1_put, .selects RX1 yX1_put yX1_put, .methodLink RX1 265 yX9_low, .static yX9_low] ++ (u_ws RX1 TX1 13 ++ (ow_dm_X1_worked ++ (ow_dm_X9_high ++ (ow_dm_X7_placed ++ (ow_dm_X1_put ++ (ow_dm_X9_low ++ [])))))))
theorem gd_dm_X1_putAddress : ∀ w ∈ ow_dm_X1_putAddress, (w.onTables && w.keeps) = true ∨ ∃ ty, w = Cond.arrayClass ty := List.forall_mem_cons.mpr ⟨good_of_word rfl, List.forall_mem_append.mpr ⟨fun w h => good_of_word (List.all_eq_true.mp (by decide +kernel) w h), List.forall_mem_append.mpr ⟨gu_X1, List.forall_mem_append.mpr ⟨gd_dm_X1_worked, List.forall_mem_append.mpr ⟨gd_dm_X9_high, List.forall_mem_append.mpr ⟨gd_dm_X7_placed, List.forall_mem_append.mpr ⟨gd_dm_X1_put, List.forall_mem_append.mpr ⟨gd_dm_X9_low, fun _ h => nomatch h⟩⟩⟩⟩⟩⟩⟩⟩
theorem hi_dm_X1_putAddress_X1 : ∀ w ∈ u_ws RX1 TX1 13, w ∈ ow_dm_X1_putAddress := fun w h => List.mem_cons_of_mem _ (List.mem_append_right _ (List.mem_append_left _ h))
theorem gi_dm_X1_putAddress_0 : GoodIn ow_dm_X1_putAddress (wsV RX1 330 RX1 yX1_worked ow_dm_X1_worked) := goodIn_app (goodIn_of _ (by decide +kernel)) (fun w h => ⟨List.mem_cons_of_mem _ (List.mem_append_right _ (List.mem_append_right _ (List.mem_append_left _ h))), gd_dm_X1_worked w h⟩)
theorem gi_dm_X1_putAddress_1 : GoodIn ow_dm_X1_putAddress (va_wsS RX1 346 yX9_high ow_dm_X9_high) := goodIn_app (goodIn_of _ (by decide +kernel)) (fun w h => ⟨List.mem_cons_of_mem _ (List.mem_append_right _ (List.mem_append_right _ (List.mem_append_right _ (List.mem_append_left _ h)))), gd_dm_X9_high w h⟩)
theorem gi_dm_X1_putAddress_2 : GoodIn ow_dm_X1_putAddress (va_wsS RX1 261 yX7_placed ow_dm_X7_placed) := goodIn_app (goodIn_of _ (by decide +kernel)) (fun w h => ⟨List.mem_cons_of_mem _ (List.mem_append_right _ (List.mem_append_right _ (List.mem_append_right _ (List.mem_append_right _ (List.mem_append_left _ h))))), gd_dm_X7_placed w h⟩)
theorem gi_dm_X1_putAddress_3 : GoodIn ow_dm_X1_putAddress (wsV RX1 340 RX1 yX1_put ow_dm_X1_put) := goodIn_app (goodIn_of _ (by decide +kernel)) (fun w h => ⟨List.mem_cons_of_mem _ (List.mem_append_right _ (List.mem_append_right _ (List.mem_append_right _ (List.mem_append_right _ (List.mem_append_right _ (List.mem_append_left _ h)))))), gd_dm_X1_put w h⟩)
theorem gi_dm_X1_putAddress_4 : GoodIn ow_dm_X1_putAddress (va_wsS RX1 265 yX9_low ow_dm_X9_low) := goodIn_app (goodIn_of _ (by decide +kernel)) (fun w h => ⟨List.mem_cons_of_mem _ (List.mem_append_right _ (List.mem_append_right _ (List.mem_append_right _ (List.mem_append_right _ (List.mem_append_right _ (List.mem_append_right _ (List.mem_append_left _ h))))))), gd_dm_X9_low w h⟩)
def dj_X1_putAddress_0 (p : Program) (l : Launch) (e : Env) (s : State) (m : MethodId) (args : Array Value) (below : List Frame) (meth : Method) (c : Code) (Q : State → Prop) (A : Nat → Prop) (dC : Nat → ClassId) (dI : Nat → Nat → Nat) (a : Nat → Nat) (ac : Nat → ClassId) (g : Int32 → (St × (St × (St)) × (St)) → Option (St × (St × (St)) × (St))) (r : St × (St × (St)) × (St)) : Prop := ∀ (v1 : Int32) (s0 : St × (St × (St)) × (St)) (H : Heap) (locs : List Loc) (ls : Array Slot), g v1 s0 = some r → va_P (dC, dI) vwCl (dw_X1p a ac s0) H → va_D A (dw_X1p a ac s0) → va_S A s.heap H locs → lv_has ls 6 [(0, .ref (a 0)), (1, .ref (a 12)), (2, .int v1)] → W p l e (headSpec ow_dm_X1_putAddress ({ frames := 4, cells := 0, slots := 0, locals := 87 })).room s m args below meth c H locs 0 0 Q (F0 m 0 ls [])
set_option maxHeartbeats 40000000 in
set_option maxRecDepth 100000 in
theorem db_X1_putAddress_0 {p : Program} {l : Launch} {e : Env} {s : State} {m : MethodId} {args : Array Value} {below : List Frame} {meth : Method} {c : Code} {Q : State → Prop} {A : Nat → Prop} {dC : Nat → ClassId} {dI : Nat → Nat → Nat} {a : Nat → Nat} {ac : Nat → ClassId} {n : Nat} {r : St × (St × (St)) × (St)} (C : nd_C p l s m args c A (dC, dI) cX1_putAddress 6 RX1 ow_dm_X1_putAddress (dk_X1p ac)) (K : nd_Kv p l e (headSpec ow_dm_X1_putAddress ({ frames := 4, cells := 0, slots := 0, locals := 87 })).room s m args below meth c Q A (dC, dI) cX1_putAddress (St × (St × (St)) × (St)) (dw_X1p a ac) r) : dj_X1_putAddress_0 p l e s m args below meth c Q A dC dI a ac (df_X1_putAddress_0 n) r := by
  obtain ⟨hlt, hx, hb, hml, hown, hts, hN, hA, hK⟩ := id C
  intro v1 s0 H locs ls h hP hD hS hl
  unfold df_X1_putAddress_0 at h
  refine lv_aload_n hx hb dX1_putAddress_0 rfl (lv_at hl 0 rfl) ?_
  refine va_get (D := (dC, dI)) (ci := 2) (v := .ref (a 1)) (C := RX1) (T := TX1) (N := 13) hx hb hts hi_dm_X1_putAddress_X1 hown hK hP 0 rfl rfl 1 (by decide) (hts (.fieldLink RX1 19 "TimeMachine$Assembler" "statement" "[I") (List.mem_of_getElem? (i := 1) rfl)) (fun _ h9 => h9) rfl dX1_putAddress_1 ?_
  refine lv_iload_n hx hb dX1_putAddress_4 rfl (lv_at hl 2 rfl) ?_
  refine lv_iconst (v := 2) hx hb dX1_putAddress_5 (by decide) ?_
  refine lv_iadd hx hb dX1_putAddress_6 ?_
  obtain ⟨i1, h⟩ := nd_ck_e h
  refine va_iald (i := (v1 + 2)) hx hb hK hP 1 0 rfl rfl i1 dX1_putAddress_7 ?_
  refine lv_topi (fun z2 ez2 => ?_)
  have h := nd_at h ez2
  refine lv_istore_n (lv' := [(3, .int z2), (0, .ref (a 0)), (1, .ref (a 12)), (2, .int v1)]) hx hb dX1_putAddress_8 rfl hl (by decide) rfl (fun ls hl => ?_)
  refine lv_aload_n hx hb dX1_putAddress_9 rfl (lv_at hl 1 rfl) ?_
  refine va_get (D := (dC, dI)) (ci := 2) (v := .ref (a 1)) (C := RX1) (T := TX1) (N := 13) hx hb hts hi_dm_X1_putAddress_X1 hown hK hP 0 rfl rfl 1 (by decide) (hts (.fieldLink RX1 19 "TimeMachine$Assembler" "statement" "[I") (List.mem_of_getElem? (i := 1) rfl)) (fun _ h9 => h9) rfl dX1_putAddress_10 ?_
  refine lv_iload_n hx hb dX1_putAddress_13 rfl (lv_at hl 3 rfl) ?_
  refine lv_iconst (v := 5) hx hb dX1_putAddress_14 (by decide) ?_
  refine lv_iadd hx hb dX1_putAddress_15 ?_
  obtain ⟨i3, h⟩ := nd_ck_e h
  refine va_iald (i := (v1 + 5)) hx hb hK hP 1 0 rfl rfl i3 dX1_putAddress_16 ?_
  refine lv_bipush (v := 7) hx hb dX1_putAddress_17 (by decide) ?_
  refine lv_ishr hx hb dX1_putAddress_19 ?_
  refine lv_bipush (v := 31) hx hb dX1_putAddress_20 (by decide) ?_
  refine lv_iand hx hb dX1_putAddress_22 ?_
  refine lv_topi (fun z4 ez4 => ?_)
  have h := nd_at h ez4
  refine lv_istore (lv' := [(4, .int z4), (3, .int z2), (0, .ref (a 0)), (1, .ref (a 12)), (2, .int v1)]) hx hb dX1_putAddress_23 hl (by decide) rfl (fun ls hl => ?_)
  refine lv_aload_n hx hb dX1_putAddress_25 rfl (lv_at hl 2 rfl) ?_
  refine lv_aload_n hx hb dX1_putAddress_26 rfl (lv_at hl 2 rfl) ?_
  refine va_get (D := (dC, dI)) (ci := 2) (v := .ref (a 1)) (C := RX1) (T := TX1) (N := 13) hx hb hts hi_dm_X1_putAddress_X1 hown hK hP 0 rfl rfl 1 (by decide) (hts (.fieldLink RX1 19 "TimeMachine$Assembler" "statement" "[I") (List.mem_of_getElem? (i := 1) rfl)) (fun _ h9 => h9) rfl dX1_putAddress_27 ?_
  refine lv_iload_n hx hb dX1_putAddress_30 rfl (lv_at hl 4 rfl) ?_
  refine lv_bipush (v := 6) hx hb dX1_putAddress_31 (by decide) ?_
  refine lv_iadd hx hb dX1_putAddress_33 ?_
  obtain ⟨i5, h⟩ := nd_ck_e h
  refine va_iald (i := (v1 + 6)) hx hb hK hP 1 0 rfl rfl i5 dX1_putAddress_34 ?_
  refine lv_iload_n hx hb dX1_putAddress_35 rfl (lv_at hl 1 rfl) ?_
  obtain ⟨q6, s7, hq, h⟩ := nd_b2_e h
  have hPc := dp_X1p_0 hP
  have hDc := dd_X1p_0 hD
  have hKc := dy_X1p_0 hK
  have hFc := nd_rs hDc hS hA
  have hzA : ∀ q : Nat, H.size ≤ q → A q := fun q h => hA q (Nat.le_trans hS.1 h)
  refine nd_cVi (As := [.int (sR s0.2.1.1 0 (Int32.toNatClampNeg (v1 + 6))), .int z2]) (rest := []) (q := q6) (w' := dw_X1 (fun k => a (k + 0)) (fun k => ac (k + 0)) s7) ⟨hx, hb, hml, hown, hts⟩ (fun sz => dm_X1_worked l hlt dC dI (fun k => a (k + 0)) (fun k => ac (k + 0)) n ((sR s0.2.1.1 0 (Int32.toNatClampNeg (v1 + 6)))) (z2) s0.2.1 hq sz) (cwV 2 hts gi_dm_X1_putAddress_0 rfl rfl rfl (by decide +kernel) ⟨Nat.le_of_ble_eq_true rfl, Nat.le_of_ble_eq_true rfl⟩) hPc hDc hKc hS hA hN (va_recv hKc hPc (ci := 2) (q0 := 0) rfl rfl) rfl hl.1 rfl (Nat.le_of_ble_eq_true rfl) dX1_putAddress_36 (fun H locs hP1 hD1 hk1 hS => ?_)
  obtain ⟨hP, hD⟩ := dn_X1p_0 hP hD hzA hk1 hP1 hD1
  obtain ⟨s9, es9, h⟩ := nd_let_e h
  have hP : va_P (dC, dI) vwCl (dw_X1p a ac s9) H := by rw [es9]; exact hP
  have hD : va_D A (dw_X1p a ac s9) := by rw [es9]; exact hD
  refine lv_iload_n hx hb dX1_putAddress_39 rfl (lv_at hl 1 rfl) ?_
  refine lv_isub hx hb dX1_putAddress_40 ?_
  refine lv_topi (fun z10 ez10 => ?_)
  have h := nd_at h ez10
  refine lv_istore (lv' := [(5, .int z10), (4, .int z4), (3, .int z2), (0, .ref (a 0)), (1, .ref (a 12)), (2, .int v1)]) hx hb dX1_putAddress_41 hl (by decide) rfl (fun ls hl => ?_)
  refine lv_aload_n hx hb dX1_putAddress_43 rfl (lv_at hl 3 rfl) ?_
  refine lv_aload_n hx hb dX1_putAddress_44 rfl (lv_at hl 4 rfl) ?_
  refine lv_iload_n hx hb dX1_putAddress_45 rfl (lv_at hl 2 rfl) ?_
  refine lv_iconst (v := 4) hx hb dX1_putAddress_46 (by decide) ?_
  refine lv_aload_n hx hb dX1_putAddress_47 rfl (lv_at hl 3 rfl) ?_
  refine va_get (D := (dC, dI)) (ci := 2) (v := .ref (a 1)) (C := RX1) (T := TX1) (N := 13) hx hb hts hi_dm_X1_putAddress_X1 hown hK hP 0 rfl rfl 1 (by decide) (hts (.fieldLink RX1 19 "TimeMachine$Assembler" "statement" "[I") (List.mem_of_getElem? (i := 1) rfl)) (fun _ h9 => h9) rfl dX1_putAddress_48 ?_
  refine lv_iload_n hx hb dX1_putAddress_51 rfl (lv_at hl 5 rfl) ?_
  refine lv_iconst (v := 5) hx hb dX1_putAddress_52 (by decide) ?_
  refine lv_iadd hx hb dX1_putAddress_53 ?_
  obtain ⟨i11, h⟩ := nd_ck_e h
  refine va_iald (i := (v1 + 5)) hx hb hK hP 1 0 rfl rfl i11 dX1_putAddress_54 ?_
  refine lv_bipush (v := 85) hx hb dX1_putAddress_55 (by decide) ?_
  refine lv_iload hx hb dX1_putAddress_57 (lv_at hl 0 rfl) ?_
  obtain ⟨q12, s13, hq, h⟩ := nd_b2_e h
  have hPc : va_P (dC, dI) vwCl (dw_P a ac ()) H := nd_p0
  have hDc : va_D A (dw_P a ac ()) := nd_d0
  have hKc : va_K (dC, dI) vwCl (dk_P ac) s := nd_y0 hK
  have hFc : ∀ q, va_A (dw_P a ac ()) H.size q → A q := nd_r0 hS hA
  refine nd_cSi (As := [.int z10]) (rest := [.int 85, .int (sR s9.2.1.1 0 (Int32.toNatClampNeg (v1 + 5))), .int 4, .int z2, .ref (a 12), .ref (a 0)]) (q := q12) (w' := dw_P a ac s13) ⟨hx, hb, hml, hown, hts⟩ (fun sz => dm_X9_high l hlt dC dI a ac n (z10) () hq sz) (va_cwS 1 hts gi_dm_X1_putAddress_1 rfl rfl rfl (by decide +kernel) ⟨Nat.le_of_ble_eq_true rfl, Nat.le_of_ble_eq_true rfl⟩) hPc hDc hKc hS hA hN rfl hl.1 rfl (Nat.le_of_ble_eq_true rfl) dX1_putAddress_59 (fun H locs hP1 hD1 hk1 hS => ?_)
  have hP := nd_n0 hP hk1
  obtain ⟨q15, s16, hq, h⟩ := nd_b2_e h
  have hPc : va_P (dC, dI) vwCl (dw_P a ac ()) H := nd_p0
  have hDc : va_D A (dw_P a ac ()) := nd_d0
  have hKc : va_K (dC, dI) vwCl (dk_P ac) s := nd_y0 hK
  have hFc : ∀ q, va_A (dw_P a ac ()) H.size q → A q := nd_r0 hS hA
  refine nd_cSi (As := [.int 85, .int q12]) (rest := [.int (sR s9.2.1.1 0 (Int32.toNatClampNeg (v1 + 5))), .int 4, .int z2, .ref (a 12), .ref (a 0)]) (q := q15) (w' := dw_P a ac s16) ⟨hx, hb, hml, hown, hts⟩ (fun sz => dm_X7_placed l hlt dC dI a ac n (85) (q12) () hq sz) (va_cwS 2 hts gi_dm_X1_putAddress_2 rfl rfl rfl (by decide +kernel) ⟨Nat.le_of_ble_eq_true rfl, Nat.le_of_ble_eq_true rfl⟩) hPc hDc hKc hS hA hN rfl hl.1 rfl (Nat.le_of_ble_eq_true rfl) dX1_putAddress_62 (fun H locs hP1 hD1 hk1 hS => ?_)
  have hP := nd_n0 hP hk1
  refine lv_ior hx hb dX1_putAddress_65 ?_
  obtain ⟨s19, hq, h⟩ := nd_b1_e h
  have hPc := hP
  have hDc := hD
  have hKc := hK
  have hFc := nd_rs hD hS hA
  refine nd_cVv (As := [.ref (a 12), .int z2, .int 4, .int ((sR s9.2.1.1 0 (Int32.toNatClampNeg (v1 + 5))) ||| q15)]) (rest := []) (w' := dw_X1p a ac s19) ⟨hx, hb, hml, hown, hts⟩ (fun sz => dm_X1_put l hlt dC dI a ac n (z2) (4) (((sR s9.2.1.1 0 (Int32.toNatClampNeg (v1 + 5))) ||| q15)) s9 hq sz) (cwV 4 hts gi_dm_X1_putAddress_3 rfl rfl rfl (by decide +kernel) ⟨Nat.le_of_ble_eq_true rfl, Nat.le_of_ble_eq_true rfl⟩) hPc hDc hKc hS hA hN (va_recv hKc hPc (ci := 2) (q0 := 0) rfl rfl) rfl hl.1 rfl (Nat.le_of_ble_eq_true rfl) dX1_putAddress_66 (fun H locs hP1 hD1 hk1 hS => ?_)
  have hP := hP1
  have hD := hD1.weaken (fun k q _ h => hFc q.1 h)
  refine lv_aload_n hx hb dX1_putAddress_69 rfl (lv_at hl 3 rfl) ?_
  refine lv_aload_n hx hb dX1_putAddress_70 rfl (lv_at hl 4 rfl) ?_
  refine lv_iload_n hx hb dX1_putAddress_71 rfl (lv_at hl 2 rfl) ?_
  refine lv_iconst (v := 4) hx hb dX1_putAddress_72 (by decide) ?_
  refine lv_iadd hx hb dX1_putAddress_73 ?_
  refine lv_iconst (v := 4) hx hb dX1_putAddress_74 (by decide) ?_
  refine lv_bipush (v := 19) hx hb dX1_putAddress_75 (by decide) ?_
  refine lv_iload hx hb dX1_putAddress_77 (lv_at hl 1 rfl) ?_
  refine lv_bipush (v := 7) hx hb dX1_putAddress_79 (by decide) ?_
  refine lv_ishl hx hb dX1_putAddress_81 ?_
  refine lv_ior hx hb dX1_putAddress_82 ?_
  refine lv_iload hx hb dX1_putAddress_83 (lv_at hl 1 rfl) ?_
  refine lv_bipush (v := 15) hx hb dX1_putAddress_85 (by decide) ?_
  refine lv_ishl hx hb dX1_putAddress_87 ?_
  refine lv_ior hx hb dX1_putAddress_88 ?_
  refine lv_bipush (v := 73) hx hb dX1_putAddress_89 (by decide) ?_
  refine lv_iload hx hb dX1_putAddress_91 (lv_at hl 0 rfl) ?_
  obtain ⟨q21, s22, hq, h⟩ := nd_b2_e h
  have hPc : va_P (dC, dI) vwCl (dw_P a ac ()) H := nd_p0
  have hDc : va_D A (dw_P a ac ()) := nd_d0
  have hKc : va_K (dC, dI) vwCl (dk_P ac) s := nd_y0 hK
  have hFc : ∀ q, va_A (dw_P a ac ()) H.size q → A q := nd_r0 hS hA
  refine nd_cSi (As := [.int z10]) (rest := [.int 73, .int ((19 ||| ((z4 : Int32) <<< ((7 : Int32) &&& 31))) ||| ((z4 : Int32) <<< ((15 : Int32) &&& 31))), .int 4, .int (z2 + 4), .ref (a 12), .ref (a 0)]) (q := q21) (w' := dw_P a ac s22) ⟨hx, hb, hml, hown, hts⟩ (fun sz => dm_X9_low l hlt dC dI a ac n (z10) () hq sz) (va_cwS 1 hts gi_dm_X1_putAddress_4 rfl rfl rfl (by decide +kernel) ⟨Nat.le_of_ble_eq_true rfl, Nat.le_of_ble_eq_true rfl⟩) hPc hDc hKc hS hA hN rfl hl.1 rfl (Nat.le_of_ble_eq_true rfl) dX1_putAddress_93 (fun H locs hP1 hD1 hk1 hS => ?_)
  have hP := nd_n0 hP hk1
  obtain ⟨q24, s25, hq, h⟩ := nd_b2_e h
  have hPc : va_P (dC, dI) vwCl (dw_P a ac ()) H := nd_p0
  have hDc : va_D A (dw_P a ac ()) := nd_d0
  have hKc : va_K (dC, dI) vwCl (dk_P ac) s := nd_y0 hK
  have hFc : ∀ q, va_A (dw_P a ac ()) H.size q → A q := nd_r0 hS hA
  refine nd_cSi (As := [.int 73, .int q21]) (rest := [.int ((19 ||| ((z4 : Int32) <<< ((7 : Int32) &&& 31))) ||| ((z4 : Int32) <<< ((15 : Int32) &&& 31))), .int 4, .int (z2 + 4), .ref (a 12), .ref (a 0)]) (q := q24) (w' := dw_P a ac s25) ⟨hx, hb, hml, hown, hts⟩ (fun sz => dm_X7_placed l hlt dC dI a ac n (73) (q21) () hq sz) (va_cwS 2 hts gi_dm_X1_putAddress_2 rfl rfl rfl (by decide +kernel) ⟨Nat.le_of_ble_eq_true rfl, Nat.le_of_ble_eq_true rfl⟩) hPc hDc hKc hS hA hN rfl hl.1 rfl (Nat.le_of_ble_eq_true rfl) dX1_putAddress_96 (fun H locs hP1 hD1 hk1 hS => ?_)
  have hP := nd_n0 hP hk1
  refine lv_ior hx hb dX1_putAddress_99 ?_
  obtain ⟨s28, hq, h⟩ := nd_b1_e h
  have hPc := hP
  have hDc := hD
  have hKc := hK
  have hFc := nd_rs hD hS hA
  refine nd_cVv (As := [.ref (a 12), .int (z2 + 4), .int 4, .int (((19 ||| ((z4 : Int32) <<< ((7 : Int32) &&& 31))) ||| ((z4 : Int32) <<< ((15 : Int32) &&& 31))) ||| q24)]) (rest := []) (w' := dw_X1p a ac s28) ⟨hx, hb, hml, hown, hts⟩ (fun sz => dm_X1_put l hlt dC dI a ac n ((z2 + 4)) (4) ((((19 ||| ((z4 : Int32) <<< ((7 : Int32) &&& 31))) ||| ((z4 : Int32) <<< ((15 : Int32) &&& 31))) ||| q24)) s19 hq sz) (cwV 4 hts gi_dm_X1_putAddress_3 rfl rfl rfl (by decide +kernel) ⟨Nat.le_of_ble_eq_true rfl, Nat.le_of_ble_eq_true rfl⟩) hPc hDc hKc hS hA hN (va_recv hKc hPc (ci := 2) (q0 := 0) rfl rfl) rfl hl.1 rfl (Nat.le_of_ble_eq_true rfl) dX1_putAddress_100 (fun H locs hP1 hD1 hk1 hS => ?_)
  have hP := hP1
  have hD := hD1.weaken (fun k q _ h => hFc q.1 h)
  exact K _ _ _ _ _ dX1_putAddress_103 (Option.some.inj h).symm hP hD hS
set_option maxHeartbeats 40000000 in
set_option maxRecDepth 100000 in
theorem dm_X1_putAddress (l : Launch) (hlt : l.stackTraces = false) (dC : Nat → ClassId) (dI : Nat → Nat → Nat) (a : Nat → Nat) (ac : Nat → ClassId) (n : Nat) (v1 : Int32) (s0 : St × (St × (St)) × (St)) {r : St × (St × (St)) × (St)} (h : df_X1_putAddress n v1 s0 = some r) (sz : Nat) : Met l yX1_putAddress ow_dm_X1_putAddress ({ frames := 4, cells := 0, slots := 0, locals := 87 }) (va_Pc [.ref (a 0), .ref (a 12), .int v1] (fun U => U.heap.size = sz ∧ va_P (dC, dI) vwCl (dw_X1p a ac s0) U.heap ∧ va_K (dC, dI) vwCl (dk_X1p ac) U ∧ va_D (fun _ => True) (dw_X1p a ac s0) ∧ nv_E (va_A (dw_X1p a ac s0) sz) U)) (va_Qv (fun _ => True) (fun (_ : Unit) t => va_P (dC, dI) vwCl (dw_X1p a ac r) t.heap ∧ va_K (dC, dI) vwCl (dk_X1p ac) t ∧ va_D (va_A (dw_X1p a ac s0) sz) (dw_X1p a ac r)) (va_A (dw_X1p a ac s0) sz)) 0 0 (va_A (dw_X1p a ac s0) sz) := by
  refine Met.ofW (cc := cX1_putAddress) (maxL := 6) (ret := none) (by decide) rfl ?_
  intro p e s m args below meth c s₁ B hml hv
  obtain ⟨rfl, hsz, hP, hK, hD0, hN⟩ := hv
  have hx := B.exec
  have hb := B.bytes
  have hr := B.returns
  have hts := atoms_spec (ws := ow_dm_X1_putAddress) B.pre
  have hown : s.vm.findClass RX1 = some m.cls := findClass_of_methodNamed B.named
  have hlocks := B.notSynchronized
  subst hsz
  have hD := hD0.self (sz := s.heap.size)
  generalize hAe : va_A (dw_X1p a ac s0) s.heap.size = A at hD hN ⊢
  have hA : ∀ q : Nat, s.heap.size ≤ q → A q := fun q h => by rw [← hAe]; exact Or.inr h
  have hl := lv_entry ([.ref (a 0), .ref (a 12), .int v1]) (n := 6) (Nat.le_of_ble_eq_true rfl)
  rw [lg_entry_eq]
  generalize (lg_sl ([.ref (a 0), .ref (a 12), .int v1]) ++ List.replicate (6 - (lg_sl ([.ref (a 0), .ref (a 12), .int v1])).length) Slot.unset).toArray = ls at hl ⊢
  have hl : lv_has ls 6 [(0, .ref (a 0)), (1, .ref (a 12)), (2, .int v1)] := hl
  exact db_X1_putAddress_0 (dC := dC) (dI := dI) (a := a) (ac := ac) (n := n) (r := r) ⟨hlt, hx, hb, hml, hown, hts, hN, hA, hK⟩ (fun pc τ H locs ls d er hP hD hS => by subst er; exact W.vret hx hb hr (fun t ht hW => ⟨⟨(), rfl, trivial, by rw [ht]; exact hP, va_K.moved hW.alike hK, hD⟩, hS.F ht⟩) hS.2.2 d) v1 s0 _ _ _ h hP hD va_S.rf (lv_sub hl [0, 1, 2] rfl)
def ow_dm_X1_putNumber : List Cond := .code yX1_putNumber cX1_putNumber 7 none :: ([.fieldLink RX1 19 "TimeMachine$Assembler" "statement" "[I", .methodLink RX1 257 yX7_fits, .static yX7_fits, .initialized RX7, .methodLink RX1 346 yX9_high, .static yX9_high, .initialized RX9, .methodLink RX1 261 yX7_placed, .static yX7_placed, .methodLink RX1 340 yX1_put, .instanceMethod yX1_put, .selects RX1 yX1_put yX1_put, .initialized RX1, .methodLink RX1 265 yX9_low, .static yX9_low] ++ (u_ws RX1 TX1 13 ++ (ow_dm_X7_fits ++ (ow_dm_X9_high ++ (ow_dm_X7_placed ++ (ow_dm_X1_put ++ (ow_dm_X9_low ++ [])))))))
theorem gd_dm_X1_putNumber : ∀ w ∈ ow_dm_X1_putNumber, (w.onTables && w.keeps) = true ∨ ∃ ty, w = Cond.arrayClass ty := List.forall_mem_cons.mpr ⟨good_of_word rfl, List.forall_mem_append.mpr ⟨fun w h => good_of_word (List.all_eq_true.mp (by decide +kernel) w h), List.forall_mem_append.mpr ⟨gu_X1, List.forall_mem_append.mpr ⟨gd_dm_X7_fits, List.forall_mem_append.mpr ⟨gd_dm_X9_high, List.forall_mem_append.mpr ⟨gd_dm_X7_placed, List.forall_mem_append.mpr ⟨gd_dm_X1_put, List.forall_mem_append.mpr ⟨gd_dm_X9_low, fun _ h => nomatch h⟩⟩⟩⟩⟩⟩⟩⟩
theorem hi_dm_X1_putNumber_X1 : ∀ w ∈ u_ws RX1 TX1 13, w ∈ ow_dm_X1_putNumber := fun w h => List.mem_cons_of_mem _ (List.mem_append_right _ (List.mem_append_left _ h))
theorem gi_dm_X1_putNumber_0 : GoodIn ow_dm_X1_putNumber (va_wsS RX1 257 yX7_fits ow_dm_X7_fits) := goodIn_app (goodIn_of _ (by decide +kernel)) (fun w h => ⟨List.mem_cons_of_mem _ (List.mem_append_right _ (List.mem_append_right _ (List.mem_append_left _ h))), gd_dm_X7_fits w h⟩)
theorem gi_dm_X1_putNumber_1 : GoodIn ow_dm_X1_putNumber (va_wsS RX1 346 yX9_high ow_dm_X9_high) := goodIn_app (goodIn_of _ (by decide +kernel)) (fun w h => ⟨List.mem_cons_of_mem _ (List.mem_append_right _ (List.mem_append_right _ (List.mem_append_right _ (List.mem_append_left _ h)))), gd_dm_X9_high w h⟩)
theorem gi_dm_X1_putNumber_2 : GoodIn ow_dm_X1_putNumber (va_wsS RX1 261 yX7_placed ow_dm_X7_placed) := goodIn_app (goodIn_of _ (by decide +kernel)) (fun w h => ⟨List.mem_cons_of_mem _ (List.mem_append_right _ (List.mem_append_right _ (List.mem_append_right _ (List.mem_append_right _ (List.mem_append_left _ h))))), gd_dm_X7_placed w h⟩)
theorem gi_dm_X1_putNumber_3 : GoodIn ow_dm_X1_putNumber (wsV RX1 340 RX1 yX1_put ow_dm_X1_put) := goodIn_app (goodIn_of _ (by decide +kernel)) (fun w h => ⟨List.mem_cons_of_mem _ (List.mem_append_right _ (List.mem_append_right _ (List.mem_append_right _ (List.mem_append_right _ (List.mem_append_right _ (List.mem_append_left _ h)))))), gd_dm_X1_put w h⟩)
theorem gi_dm_X1_putNumber_4 : GoodIn ow_dm_X1_putNumber (va_wsS RX1 265 yX9_low ow_dm_X9_low) := goodIn_app (goodIn_of _ (by decide +kernel)) (fun w h => ⟨List.mem_cons_of_mem _ (List.mem_append_right _ (List.mem_append_right _ (List.mem_append_right _ (List.mem_append_right _ (List.mem_append_right _ (List.mem_append_right _ (List.mem_append_left _ h))))))), gd_dm_X9_low w h⟩)
def dj_X1_putNumber_176 (p : Program) (l : Launch) (e : Env) (s : State) (m : MethodId) (args : Array Value) (below : List Frame) (meth : Method) (c : Code) (Q : State → Prop) (A : Nat → Prop) (dC : Nat → ClassId) (dI : Nat → Nat → Nat) (a : Nat → Nat) (ac : Nat → ClassId) (g : (St × (St × (St)) × (St)) → Option (St × (St × (St)) × (St))) (r : St × (St × (St)) × (St)) : Prop := ∀ (s0 : St × (St × (St)) × (St)) (H : Heap) (locs : List Loc) (ls : Array Slot), g s0 = some r → va_P (dC, dI) vwCl (dw_X1p a ac s0) H → va_D A (dw_X1p a ac s0) → va_S A s.heap H locs → lv_has ls 7 [] → W p l e (headSpec ow_dm_X1_putNumber ({ frames := 3, cells := 0, slots := 0, locals := 65 })).room s m args below meth c H locs 0 0 Q (F0 m 176 ls [])
def dj_X1_putNumber_0 (p : Program) (l : Launch) (e : Env) (s : State) (m : MethodId) (args : Array Value) (below : List Frame) (meth : Method) (c : Code) (Q : State → Prop) (A : Nat → Prop) (dC : Nat → ClassId) (dI : Nat → Nat → Nat) (a : Nat → Nat) (ac : Nat → ClassId) (g : Int32 → (St × (St × (St)) × (St)) → Option (St × (St × (St)) × (St))) (r : St × (St × (St)) × (St)) : Prop := ∀ (v1 : Int32) (s0 : St × (St × (St)) × (St)) (H : Heap) (locs : List Loc) (ls : Array Slot), g v1 s0 = some r → va_P (dC, dI) vwCl (dw_X1p a ac s0) H → va_D A (dw_X1p a ac s0) → va_S A s.heap H locs → lv_has ls 7 [(0, .ref (a 0)), (1, .ref (a 12)), (2, .int v1)] → W p l e (headSpec ow_dm_X1_putNumber ({ frames := 3, cells := 0, slots := 0, locals := 65 })).room s m args below meth c H locs 0 0 Q (F0 m 0 ls [])
set_option maxHeartbeats 40000000 in
set_option maxRecDepth 100000 in
theorem db_X1_putNumber_176 {p : Program} {l : Launch} {e : Env} {s : State} {m : MethodId} {args : Array Value} {below : List Frame} {meth : Method} {c : Code} {Q : State → Prop} {A : Nat → Prop} {dC : Nat → ClassId} {dI : Nat → Nat → Nat} {a : Nat → Nat} {ac : Nat → ClassId} {n : Nat} {r : St × (St × (St)) × (St)} (C : nd_C p l s m args c A (dC, dI) cX1_putNumber 7 RX1 ow_dm_X1_putNumber (dk_X1p ac)) (K : nd_Kv p l e (headSpec ow_dm_X1_putNumber ({ frames := 3, cells := 0, slots := 0, locals := 65 })).room s m args below meth c Q A (dC, dI) cX1_putNumber (St × (St × (St)) × (St)) (dw_X1p a ac) r) : dj_X1_putNumber_176 p l e s m args below meth c Q A dC dI a ac (df_X1_putNumber_176 n) r := by
  obtain ⟨hlt, hx, hb, hml, hown, hts, hN, hA, hK⟩ := id C
  intro s0 H locs ls h hP hD hS hl
  unfold df_X1_putNumber_176 at h
  exact K _ _ _ _ _ dX1_putNumber_176 (Option.some.inj h).symm hP hD hS
set_option maxHeartbeats 40000000 in
set_option maxRecDepth 100000 in
theorem db_X1_putNumber_0 {p : Program} {l : Launch} {e : Env} {s : State} {m : MethodId} {args : Array Value} {below : List Frame} {meth : Method} {c : Code} {Q : State → Prop} {A : Nat → Prop} {dC : Nat → ClassId} {dI : Nat → Nat → Nat} {a : Nat → Nat} {ac : Nat → ClassId} {n : Nat} {r : St × (St × (St)) × (St)} (C : nd_C p l s m args c A (dC, dI) cX1_putNumber 7 RX1 ow_dm_X1_putNumber (dk_X1p ac)) (K : nd_Kv p l e (headSpec ow_dm_X1_putNumber ({ frames := 3, cells := 0, slots := 0, locals := 65 })).room s m args below meth c Q A (dC, dI) cX1_putNumber (St × (St × (St)) × (St)) (dw_X1p a ac) r) : dj_X1_putNumber_0 p l e s m args below meth c Q A dC dI a ac (df_X1_putNumber_0 n) r := by
  obtain ⟨hlt, hx, hb, hml, hown, hts, hN, hA, hK⟩ := id C
  intro v1 s0 H locs ls h hP hD hS hl
  unfold df_X1_putNumber_0 at h
  refine lv_aload_n hx hb dX1_putNumber_0 rfl (lv_at hl 0 rfl) ?_
  refine va_get (D := (dC, dI)) (ci := 2) (v := .ref (a 1)) (C := RX1) (T := TX1) (N := 13) hx hb hts hi_dm_X1_putNumber_X1 hown hK hP 0 rfl rfl 1 (by decide) (hts (.fieldLink RX1 19 "TimeMachine$Assembler" "statement" "[I") (List.mem_of_getElem? (i := 1) rfl)) (fun _ h9 => h9) rfl dX1_putNumber_1 ?_
  refine lv_iload_n hx hb dX1_putNumber_4 rfl (lv_at hl 2 rfl) ?_
  refine lv_iconst (v := 2) hx hb dX1_putNumber_5 (by decide) ?_
  refine lv_iadd hx hb dX1_putNumber_6 ?_
  obtain ⟨i1, h⟩ := nd_ck_e h
  refine va_iald (i := (v1 + 2)) hx hb hK hP 1 0 rfl rfl i1 dX1_putNumber_7 ?_
  refine lv_topi (fun z2 ez2 => ?_)
  have h := nd_at h ez2
  refine lv_istore_n (lv' := [(3, .int z2), (0, .ref (a 0)), (1, .ref (a 12)), (2, .int v1)]) hx hb dX1_putNumber_8 rfl hl (by decide) rfl (fun ls hl => ?_)
  refine lv_aload_n hx hb dX1_putNumber_9 rfl (lv_at hl 1 rfl) ?_
  refine va_get (D := (dC, dI)) (ci := 2) (v := .ref (a 1)) (C := RX1) (T := TX1) (N := 13) hx hb hts hi_dm_X1_putNumber_X1 hown hK hP 0 rfl rfl 1 (by decide) (hts (.fieldLink RX1 19 "TimeMachine$Assembler" "statement" "[I") (List.mem_of_getElem? (i := 1) rfl)) (fun _ h9 => h9) rfl dX1_putNumber_10 ?_
  refine lv_iload_n hx hb dX1_putNumber_13 rfl (lv_at hl 3 rfl) ?_
  refine lv_iconst (v := 3) hx hb dX1_putNumber_14 (by decide) ?_
  refine lv_iadd hx hb dX1_putNumber_15 ?_
  obtain ⟨i3, h⟩ := nd_ck_e h
  refine va_iald (i := (v1 + 3)) hx hb hK hP 1 0 rfl rfl i3 dX1_putNumber_16 ?_
  refine lv_topi (fun z4 ez4 => ?_)
  have h := nd_at h ez4
  refine lv_istore (lv' := [(4, .int z4), (3, .int z2), (0, .ref (a 0)), (1, .ref (a 12)), (2, .int v1)]) hx hb dX1_putNumber_17 hl (by decide) rfl (fun ls hl => ?_)
  refine lv_aload_n hx hb dX1_putNumber_19 rfl (lv_at hl 2 rfl) ?_
  refine va_get (D := (dC, dI)) (ci := 2) (v := .ref (a 1)) (C := RX1) (T := TX1) (N := 13) hx hb hts hi_dm_X1_putNumber_X1 hown hK hP 0 rfl rfl 1 (by decide) (hts (.fieldLink RX1 19 "TimeMachine$Assembler" "statement" "[I") (List.mem_of_getElem? (i := 1) rfl)) (fun _ h9 => h9) rfl dX1_putNumber_20 ?_
  refine lv_iload_n hx hb dX1_putNumber_23 rfl (lv_at hl 4 rfl) ?_
  refine lv_iconst (v := 5) hx hb dX1_putNumber_24 (by decide) ?_
  refine lv_iadd hx hb dX1_putNumber_25 ?_
  obtain ⟨i5, h⟩ := nd_ck_e h
  refine va_iald (i := (v1 + 5)) hx hb hK hP 1 0 rfl rfl i5 dX1_putNumber_26 ?_
  refine lv_topi (fun z6 ez6 => ?_)
  have h := nd_at h ez6
  refine lv_istore (lv' := [(5, .int z6), (4, .int z4), (3, .int z2), (0, .ref (a 0)), (1, .ref (a 12)), (2, .int v1)]) hx hb dX1_putNumber_27 hl (by decide) rfl (fun ls hl => ?_)
  refine lv_aload_n hx hb dX1_putNumber_29 rfl (lv_at hl 3 rfl) ?_
  refine va_get (D := (dC, dI)) (ci := 2) (v := .ref (a 1)) (C := RX1) (T := TX1) (N := 13) hx hb hts hi_dm_X1_putNumber_X1 hown hK hP 0 rfl rfl 1 (by decide) (hts (.fieldLink RX1 19 "TimeMachine$Assembler" "statement" "[I") (List.mem_of_getElem? (i := 1) rfl)) (fun _ h9 => h9) rfl dX1_putNumber_30 ?_
  refine lv_iload_n hx hb dX1_putNumber_33 rfl (lv_at hl 5 rfl) ?_
  refine lv_bipush (v := 6) hx hb dX1_putNumber_34 (by decide) ?_
  refine lv_iadd hx hb dX1_putNumber_36 ?_
  obtain ⟨i7, h⟩ := nd_ck_e h
  refine va_iald (i := (v1 + 6)) hx hb hK hP 1 0 rfl rfl i7 dX1_putNumber_37 ?_
  refine lv_topi (fun z8 ez8 => ?_)
  have h := nd_at h ez8
  refine lv_istore (lv' := [(6, .int z8), (5, .int z6), (4, .int z4), (3, .int z2), (0, .ref (a 0)), (1, .ref (a 12)), (2, .int v1)]) hx hb dX1_putNumber_38 hl (by decide) rfl (fun ls hl => ?_)
  refine lv_iload hx hb dX1_putNumber_40 (lv_at hl 2 rfl) ?_
  refine lv_iconst (v := 2) hx hb dX1_putNumber_42 (by decide) ?_
  refine lv_icmp_ne (tgt := 73) hx hb dX1_putNumber_43 (by decide) (fun c9 => ?_) (fun c9 => ?_)
  · have h := nd_neg h c9
    refine lv_bipush (v := 73) hx hb dX1_putNumber_73 (by decide) ?_
    refine lv_iload hx hb dX1_putNumber_75 (lv_at hl 0 rfl) ?_
    obtain ⟨q10, s11, hq, h⟩ := nd_b2_e h
    have hPc : va_P (dC, dI) vwCl (dw_P a ac ()) H := nd_p0
    have hDc : va_D A (dw_P a ac ()) := nd_d0
    have hKc : va_K (dC, dI) vwCl (dk_P ac) s := nd_y0 hK
    have hFc : ∀ q, va_A (dw_P a ac ()) H.size q → A q := nd_r0 hS hA
    refine nd_cSi (As := [.int 73, .int z8]) (rest := []) (q := q10) (w' := dw_P a ac s11) ⟨hx, hb, hml, hown, hts⟩ (fun sz => dm_X7_fits l hlt dC dI a ac n (73) (z8) () hq sz) (va_cwS 2 hts gi_dm_X1_putNumber_0 rfl rfl rfl (by decide +kernel) ⟨Nat.le_of_ble_eq_true rfl, Nat.le_of_ble_eq_true rfl⟩) hPc hDc hKc hS hA hN rfl hl.1 rfl (Nat.le_of_ble_eq_true rfl) dX1_putNumber_77 (fun H locs hP1 hD1 hk1 hS => ?_)
    have hP := nd_n0 hP hk1
    refine lv_if_eq (tgt := 109) hx hb dX1_putNumber_80 (by decide) (fun c13 => ?_) (fun c13 => ?_)
    · have h := nd_pos h c13
      refine lv_aload_n hx hb dX1_putNumber_109 rfl (lv_at hl 4 rfl) ?_
      refine lv_aload_n hx hb dX1_putNumber_110 rfl (lv_at hl 5 rfl) ?_
      refine lv_iload_n hx hb dX1_putNumber_111 rfl (lv_at hl 3 rfl) ?_
      refine lv_iconst (v := 4) hx hb dX1_putNumber_112 (by decide) ?_
      refine lv_bipush (v := 55) hx hb dX1_putNumber_113 (by decide) ?_
      refine lv_iload hx hb dX1_putNumber_115 (lv_at hl 1 rfl) ?_
      refine lv_bipush (v := 7) hx hb dX1_putNumber_117 (by decide) ?_
      refine lv_ishl hx hb dX1_putNumber_119 ?_
      refine lv_ior hx hb dX1_putNumber_120 ?_
      refine lv_bipush (v := 85) hx hb dX1_putNumber_121 (by decide) ?_
      refine lv_iload hx hb dX1_putNumber_123 (lv_at hl 0 rfl) ?_
      obtain ⟨q14, s15, hq, h⟩ := nd_b2_e h
      have hPc : va_P (dC, dI) vwCl (dw_P a ac ()) H := nd_p0
      have hDc : va_D A (dw_P a ac ()) := nd_d0
      have hKc : va_K (dC, dI) vwCl (dk_P ac) s := nd_y0 hK
      have hFc : ∀ q, va_A (dw_P a ac ()) H.size q → A q := nd_r0 hS hA
      refine nd_cSi (As := [.int z8]) (rest := [.int 85, .int (55 ||| ((z6 : Int32) <<< ((7 : Int32) &&& 31))), .int 4, .int z2, .ref (a 12), .ref (a 0)]) (q := q14) (w' := dw_P a ac s15) ⟨hx, hb, hml, hown, hts⟩ (fun sz => dm_X9_high l hlt dC dI a ac n (z8) () hq sz) (va_cwS 1 hts gi_dm_X1_putNumber_1 rfl rfl rfl (by decide +kernel) ⟨Nat.le_of_ble_eq_true rfl, Nat.le_of_ble_eq_true rfl⟩) hPc hDc hKc hS hA hN rfl hl.1 rfl (Nat.le_of_ble_eq_true rfl) dX1_putNumber_125 (fun H locs hP1 hD1 hk1 hS => ?_)
      have hP := nd_n0 hP hk1
      obtain ⟨q17, s18, hq, h⟩ := nd_b2_e h
      have hPc : va_P (dC, dI) vwCl (dw_P a ac ()) H := nd_p0
      have hDc : va_D A (dw_P a ac ()) := nd_d0
      have hKc : va_K (dC, dI) vwCl (dk_P ac) s := nd_y0 hK
      have hFc : ∀ q, va_A (dw_P a ac ()) H.size q → A q := nd_r0 hS hA
      refine nd_cSi (As := [.int 85, .int q14]) (rest := [.int (55 ||| ((z6 : Int32) <<< ((7 : Int32) &&& 31))), .int 4, .int z2, .ref (a 12), .ref (a 0)]) (q := q17) (w' := dw_P a ac s18) ⟨hx, hb, hml, hown, hts⟩ (fun sz => dm_X7_placed l hlt dC dI a ac n (85) (q14) () hq sz) (va_cwS 2 hts gi_dm_X1_putNumber_2 rfl rfl rfl (by decide +kernel) ⟨Nat.le_of_ble_eq_true rfl, Nat.le_of_ble_eq_true rfl⟩) hPc hDc hKc hS hA hN rfl hl.1 rfl (Nat.le_of_ble_eq_true rfl) dX1_putNumber_128 (fun H locs hP1 hD1 hk1 hS => ?_)
      have hP := nd_n0 hP hk1
      refine lv_ior hx hb dX1_putNumber_131 ?_
      obtain ⟨s21, hq, h⟩ := nd_b1_e h
      have hPc := hP
      have hDc := hD
      have hKc := hK
      have hFc := nd_rs hD hS hA
      refine nd_cVv (As := [.ref (a 12), .int z2, .int 4, .int ((55 ||| ((z6 : Int32) <<< ((7 : Int32) &&& 31))) ||| q17)]) (rest := []) (w' := dw_X1p a ac s21) ⟨hx, hb, hml, hown, hts⟩ (fun sz => dm_X1_put l hlt dC dI a ac n (z2) (4) (((55 ||| ((z6 : Int32) <<< ((7 : Int32) &&& 31))) ||| q17)) s0 hq sz) (cwV 4 hts gi_dm_X1_putNumber_3 rfl rfl rfl (by decide +kernel) ⟨Nat.le_of_ble_eq_true rfl, Nat.le_of_ble_eq_true rfl⟩) hPc hDc hKc hS hA hN (va_recv hKc hPc (ci := 2) (q0 := 0) rfl rfl) rfl hl.1 rfl (Nat.le_of_ble_eq_true rfl) dX1_putNumber_132 (fun H locs hP1 hD1 hk1 hS => ?_)
      have hP := hP1
      have hD := hD1.weaken (fun k q _ h => hFc q.1 h)
      refine lv_iload hx hb dX1_putNumber_135 (lv_at hl 2 rfl) ?_
      refine lv_bipush (v := 8) hx hb dX1_putNumber_137 (by decide) ?_
      refine lv_icmp_ne (tgt := 176) hx hb dX1_putNumber_139 (by decide) (fun c23 => ?_) (fun c23 => ?_)
      · have h := nd_neg h c23
        exact (db_X1_putNumber_176 C K)  s21 _ _ _ h hP hD hS (lv_sub hl [] rfl)
      · have h := nd_pos h c23
        refine lv_aload_n hx hb dX1_putNumber_142 rfl (lv_at hl 4 rfl) ?_
        refine lv_aload_n hx hb dX1_putNumber_143 rfl (lv_at hl 5 rfl) ?_
        refine lv_iload_n hx hb dX1_putNumber_144 rfl (lv_at hl 3 rfl) ?_
        refine lv_iconst (v := 4) hx hb dX1_putNumber_145 (by decide) ?_
        refine lv_iadd hx hb dX1_putNumber_146 ?_
        refine lv_iconst (v := 4) hx hb dX1_putNumber_147 (by decide) ?_
        refine lv_bipush (v := 19) hx hb dX1_putNumber_148 (by decide) ?_
        refine lv_iload hx hb dX1_putNumber_150 (lv_at hl 1 rfl) ?_
        refine lv_bipush (v := 7) hx hb dX1_putNumber_152 (by decide) ?_
        refine lv_ishl hx hb dX1_putNumber_154 ?_
        refine lv_ior hx hb dX1_putNumber_155 ?_
        refine lv_iload hx hb dX1_putNumber_156 (lv_at hl 1 rfl) ?_
        refine lv_bipush (v := 15) hx hb dX1_putNumber_158 (by decide) ?_
        refine lv_ishl hx hb dX1_putNumber_160 ?_
        refine lv_ior hx hb dX1_putNumber_161 ?_
        refine lv_bipush (v := 73) hx hb dX1_putNumber_162 (by decide) ?_
        refine lv_iload hx hb dX1_putNumber_164 (lv_at hl 0 rfl) ?_
        obtain ⟨q24, s25, hq, h⟩ := nd_b2_e h
        have hPc : va_P (dC, dI) vwCl (dw_P a ac ()) H := nd_p0
        have hDc : va_D A (dw_P a ac ()) := nd_d0
        have hKc : va_K (dC, dI) vwCl (dk_P ac) s := nd_y0 hK
        have hFc : ∀ q, va_A (dw_P a ac ()) H.size q → A q := nd_r0 hS hA
        refine nd_cSi (As := [.int z8]) (rest := [.int 73, .int ((19 ||| ((z6 : Int32) <<< ((7 : Int32) &&& 31))) ||| ((z6 : Int32) <<< ((15 : Int32) &&& 31))), .int 4, .int (z2 + 4), .ref (a 12), .ref (a 0)]) (q := q24) (w' := dw_P a ac s25) ⟨hx, hb, hml, hown, hts⟩ (fun sz => dm_X9_low l hlt dC dI a ac n (z8) () hq sz) (va_cwS 1 hts gi_dm_X1_putNumber_4 rfl rfl rfl (by decide +kernel) ⟨Nat.le_of_ble_eq_true rfl, Nat.le_of_ble_eq_true rfl⟩) hPc hDc hKc hS hA hN rfl hl.1 rfl (Nat.le_of_ble_eq_true rfl) dX1_putNumber_166 (fun H locs hP1 hD1 hk1 hS => ?_)
        have hP := nd_n0 hP hk1
        obtain ⟨q27, s28, hq, h⟩ := nd_b2_e h
        have hPc : va_P (dC, dI) vwCl (dw_P a ac ()) H := nd_p0
        have hDc : va_D A (dw_P a ac ()) := nd_d0
        have hKc : va_K (dC, dI) vwCl (dk_P ac) s := nd_y0 hK
        have hFc : ∀ q, va_A (dw_P a ac ()) H.size q → A q := nd_r0 hS hA
        refine nd_cSi (As := [.int 73, .int q24]) (rest := [.int ((19 ||| ((z6 : Int32) <<< ((7 : Int32) &&& 31))) ||| ((z6 : Int32) <<< ((15 : Int32) &&& 31))), .int 4, .int (z2 + 4), .ref (a 12), .ref (a 0)]) (q := q27) (w' := dw_P a ac s28) ⟨hx, hb, hml, hown, hts⟩ (fun sz => dm_X7_placed l hlt dC dI a ac n (73) (q24) () hq sz) (va_cwS 2 hts gi_dm_X1_putNumber_2 rfl rfl rfl (by decide +kernel) ⟨Nat.le_of_ble_eq_true rfl, Nat.le_of_ble_eq_true rfl⟩) hPc hDc hKc hS hA hN rfl hl.1 rfl (Nat.le_of_ble_eq_true rfl) dX1_putNumber_169 (fun H locs hP1 hD1 hk1 hS => ?_)
        have hP := nd_n0 hP hk1
        refine lv_ior hx hb dX1_putNumber_172 ?_
        obtain ⟨s31, hq, h⟩ := nd_b1_e h
        have hPc := hP
        have hDc := hD
        have hKc := hK
        have hFc := nd_rs hD hS hA
        refine nd_cVv (As := [.ref (a 12), .int (z2 + 4), .int 4, .int (((19 ||| ((z6 : Int32) <<< ((7 : Int32) &&& 31))) ||| ((z6 : Int32) <<< ((15 : Int32) &&& 31))) ||| q27)]) (rest := []) (w' := dw_X1p a ac s31) ⟨hx, hb, hml, hown, hts⟩ (fun sz => dm_X1_put l hlt dC dI a ac n ((z2 + 4)) (4) ((((19 ||| ((z6 : Int32) <<< ((7 : Int32) &&& 31))) ||| ((z6 : Int32) <<< ((15 : Int32) &&& 31))) ||| q27)) s21 hq sz) (cwV 4 hts gi_dm_X1_putNumber_3 rfl rfl rfl (by decide +kernel) ⟨Nat.le_of_ble_eq_true rfl, Nat.le_of_ble_eq_true rfl⟩) hPc hDc hKc hS hA hN (va_recv hKc hPc (ci := 2) (q0 := 0) rfl rfl) rfl hl.1 rfl (Nat.le_of_ble_eq_true rfl) dX1_putNumber_173 (fun H locs hP1 hD1 hk1 hS => ?_)
        have hP := hP1
        have hD := hD1.weaken (fun k q _ h => hFc q.1 h)
        exact (db_X1_putNumber_176 C K)  s31 _ _ _ h hP hD hS (lv_sub hl [] rfl)
    · have h := nd_neg h c13
      refine lv_aload_n hx hb dX1_putNumber_83 rfl (lv_at hl 4 rfl) ?_
      refine lv_aload_n hx hb dX1_putNumber_84 rfl (lv_at hl 5 rfl) ?_
      refine lv_iload_n hx hb dX1_putNumber_85 rfl (lv_at hl 3 rfl) ?_
      refine lv_iconst (v := 4) hx hb dX1_putNumber_86 (by decide) ?_
      refine lv_bipush (v := 19) hx hb dX1_putNumber_87 (by decide) ?_
      refine lv_iload hx hb dX1_putNumber_89 (lv_at hl 1 rfl) ?_
      refine lv_bipush (v := 7) hx hb dX1_putNumber_91 (by decide) ?_
      refine lv_ishl hx hb dX1_putNumber_93 ?_
      refine lv_ior hx hb dX1_putNumber_94 ?_
      refine lv_bipush (v := 73) hx hb dX1_putNumber_95 (by decide) ?_
      refine lv_iload hx hb dX1_putNumber_97 (lv_at hl 0 rfl) ?_
      obtain ⟨q33, s34, hq, h⟩ := nd_b2_e h
      have hPc : va_P (dC, dI) vwCl (dw_P a ac ()) H := nd_p0
      have hDc : va_D A (dw_P a ac ()) := nd_d0
      have hKc : va_K (dC, dI) vwCl (dk_P ac) s := nd_y0 hK
      have hFc : ∀ q, va_A (dw_P a ac ()) H.size q → A q := nd_r0 hS hA
      refine nd_cSi (As := [.int 73, .int z8]) (rest := [.int (19 ||| ((z6 : Int32) <<< ((7 : Int32) &&& 31))), .int 4, .int z2, .ref (a 12), .ref (a 0)]) (q := q33) (w' := dw_P a ac s34) ⟨hx, hb, hml, hown, hts⟩ (fun sz => dm_X7_placed l hlt dC dI a ac n (73) (z8) () hq sz) (va_cwS 2 hts gi_dm_X1_putNumber_2 rfl rfl rfl (by decide +kernel) ⟨Nat.le_of_ble_eq_true rfl, Nat.le_of_ble_eq_true rfl⟩) hPc hDc hKc hS hA hN rfl hl.1 rfl (Nat.le_of_ble_eq_true rfl) dX1_putNumber_99 (fun H locs hP1 hD1 hk1 hS => ?_)
      have hP := nd_n0 hP hk1
      refine lv_ior hx hb dX1_putNumber_102 ?_
      obtain ⟨s37, hq, h⟩ := nd_b1_e h
      have hPc := hP
      have hDc := hD
      have hKc := hK
      have hFc := nd_rs hD hS hA
      refine nd_cVv (As := [.ref (a 12), .int z2, .int 4, .int ((19 ||| ((z6 : Int32) <<< ((7 : Int32) &&& 31))) ||| q33)]) (rest := []) (w' := dw_X1p a ac s37) ⟨hx, hb, hml, hown, hts⟩ (fun sz => dm_X1_put l hlt dC dI a ac n (z2) (4) (((19 ||| ((z6 : Int32) <<< ((7 : Int32) &&& 31))) ||| q33)) s0 hq sz) (cwV 4 hts gi_dm_X1_putNumber_3 rfl rfl rfl (by decide +kernel) ⟨Nat.le_of_ble_eq_true rfl, Nat.le_of_ble_eq_true rfl⟩) hPc hDc hKc hS hA hN (va_recv hKc hPc (ci := 2) (q0 := 0) rfl rfl) rfl hl.1 rfl (Nat.le_of_ble_eq_true rfl) dX1_putNumber_103 (fun H locs hP1 hD1 hk1 hS => ?_)
      have hP := hP1
      have hD := hD1.weaken (fun k q _ h => hFc q.1 h)
      refine lv_goto (tgt := 176) hx hb dX1_putNumber_106 (by decide) ?_
      exact (db_X1_putNumber_176 C K)  s37 _ _ _ h hP hD hS (lv_sub hl [] rfl)
  · have h := nd_pos h c9
    refine lv_aload_n hx hb dX1_putNumber_46 rfl (lv_at hl 4 rfl) ?_
    refine lv_aload_n hx hb dX1_putNumber_47 rfl (lv_at hl 5 rfl) ?_
    refine lv_iload_n hx hb dX1_putNumber_48 rfl (lv_at hl 3 rfl) ?_
    refine lv_iconst (v := 2) hx hb dX1_putNumber_49 (by decide) ?_
    refine lv_sipush (v := 16385) hx hb dX1_putNumber_50 (by decide) ?_
    refine lv_iload hx hb dX1_putNumber_53 (lv_at hl 1 rfl) ?_
    refine lv_bipush (v := 7) hx hb dX1_putNumber_55 (by decide) ?_
    refine lv_ishl hx hb dX1_putNumber_57 ?_
    refine lv_ior hx hb dX1_putNumber_58 ?_
    refine lv_bipush (v := 78) hx hb dX1_putNumber_59 (by decide) ?_
    refine lv_iload hx hb dX1_putNumber_61 (lv_at hl 0 rfl) ?_
    obtain ⟨q39, s40, hq, h⟩ := nd_b2_e h
    have hPc : va_P (dC, dI) vwCl (dw_P a ac ()) H := nd_p0
    have hDc : va_D A (dw_P a ac ()) := nd_d0
    have hKc : va_K (dC, dI) vwCl (dk_P ac) s := nd_y0 hK
    have hFc : ∀ q, va_A (dw_P a ac ()) H.size q → A q := nd_r0 hS hA
    refine nd_cSi (As := [.int 78, .int z8]) (rest := [.int (16385 ||| ((z6 : Int32) <<< ((7 : Int32) &&& 31))), .int 2, .int z2, .ref (a 12), .ref (a 0)]) (q := q39) (w' := dw_P a ac s40) ⟨hx, hb, hml, hown, hts⟩ (fun sz => dm_X7_placed l hlt dC dI a ac n (78) (z8) () hq sz) (va_cwS 2 hts gi_dm_X1_putNumber_2 rfl rfl rfl (by decide +kernel) ⟨Nat.le_of_ble_eq_true rfl, Nat.le_of_ble_eq_true rfl⟩) hPc hDc hKc hS hA hN rfl hl.1 rfl (Nat.le_of_ble_eq_true rfl) dX1_putNumber_63 (fun H locs hP1 hD1 hk1 hS => ?_)
    have hP := nd_n0 hP hk1
    refine lv_ior hx hb dX1_putNumber_66 ?_
    obtain ⟨s43, hq, h⟩ := nd_b1_e h
    have hPc := hP
    have hDc := hD
    have hKc := hK
    have hFc := nd_rs hD hS hA
    refine nd_cVv (As := [.ref (a 12), .int z2, .int 2, .int ((16385 ||| ((z6 : Int32) <<< ((7 : Int32) &&& 31))) ||| q39)]) (rest := []) (w' := dw_X1p a ac s43) ⟨hx, hb, hml, hown, hts⟩ (fun sz => dm_X1_put l hlt dC dI a ac n (z2) (2) (((16385 ||| ((z6 : Int32) <<< ((7 : Int32) &&& 31))) ||| q39)) s0 hq sz) (cwV 4 hts gi_dm_X1_putNumber_3 rfl rfl rfl (by decide +kernel) ⟨Nat.le_of_ble_eq_true rfl, Nat.le_of_ble_eq_true rfl⟩) hPc hDc hKc hS hA hN (va_recv hKc hPc (ci := 2) (q0 := 0) rfl rfl) rfl hl.1 rfl (Nat.le_of_ble_eq_true rfl) dX1_putNumber_67 (fun H locs hP1 hD1 hk1 hS => ?_)
    have hP := hP1
    have hD := hD1.weaken (fun k q _ h => hFc q.1 h)
    refine lv_goto (tgt := 176) hx hb dX1_putNumber_70 (by decide) ?_
    exact (db_X1_putNumber_176 C K)  s43 _ _ _ h hP hD hS (lv_sub hl [] rfl)
set_option maxHeartbeats 40000000 in
set_option maxRecDepth 100000 in
theorem dm_X1_putNumber (l : Launch) (hlt : l.stackTraces = false) (dC : Nat → ClassId) (dI : Nat → Nat → Nat) (a : Nat → Nat) (ac : Nat → ClassId) (n : Nat) (v1 : Int32) (s0 : St × (St × (St)) × (St)) {r : St × (St × (St)) × (St)} (h : df_X1_putNumber n v1 s0 = some r) (sz : Nat) : Met l yX1_putNumber ow_dm_X1_putNumber ({ frames := 3, cells := 0, slots := 0, locals := 65 }) (va_Pc [.ref (a 0), .ref (a 12), .int v1] (fun U => U.heap.size = sz ∧ va_P (dC, dI) vwCl (dw_X1p a ac s0) U.heap ∧ va_K (dC, dI) vwCl (dk_X1p ac) U ∧ va_D (fun _ => True) (dw_X1p a ac s0) ∧ nv_E (va_A (dw_X1p a ac s0) sz) U)) (va_Qv (fun _ => True) (fun (_ : Unit) t => va_P (dC, dI) vwCl (dw_X1p a ac r) t.heap ∧ va_K (dC, dI) vwCl (dk_X1p ac) t ∧ va_D (va_A (dw_X1p a ac s0) sz) (dw_X1p a ac r)) (va_A (dw_X1p a ac s0) sz)) 0 0 (va_A (dw_X1p a ac s0) sz) := by
  refine Met.ofW (cc := cX1_putNumber) (maxL := 7) (ret := none) (by decide) rfl ?_
  intro p e s m args below meth c s₁ B hml hv
  obtain ⟨rfl, hsz, hP, hK, hD0, hN⟩ := hv
  have hx := B.exec
  have hb := B.bytes
  have hr := B.returns
  have hts := atoms_spec (ws := ow_dm_X1_putNumber) B.pre
  have hown : s.vm.findClass RX1 = some m.cls := findClass_of_methodNamed B.named
  have hlocks := B.notSynchronized
  subst hsz
  have hD := hD0.self (sz := s.heap.size)
  generalize hAe : va_A (dw_X1p a ac s0) s.heap.size = A at hD hN ⊢
  have hA : ∀ q : Nat, s.heap.size ≤ q → A q := fun q h => by rw [← hAe]; exact Or.inr h
  have hl := lv_entry ([.ref (a 0), .ref (a 12), .int v1]) (n := 7) (Nat.le_of_ble_eq_true rfl)
  rw [lg_entry_eq]
  generalize (lg_sl ([.ref (a 0), .ref (a 12), .int v1]) ++ List.replicate (7 - (lg_sl ([.ref (a 0), .ref (a 12), .int v1])).length) Slot.unset).toArray = ls at hl ⊢
  have hl : lv_has ls 7 [(0, .ref (a 0)), (1, .ref (a 12)), (2, .int v1)] := hl
  exact db_X1_putNumber_0 (dC := dC) (dI := dI) (a := a) (ac := ac) (n := n) (r := r) ⟨hlt, hx, hb, hml, hown, hts, hN, hA, hK⟩ (fun pc τ H locs ls d er hP hD hS => by subst er; exact W.vret hx hb hr (fun t ht hW => ⟨⟨(), rfl, trivial, by rw [ht]; exact hP, va_K.moved hW.alike hK, hD⟩, hS.F ht⟩) hS.2.2 d) v1 s0 _ _ _ h hP hD va_S.rf (lv_sub hl [0, 1, 2] rfl)
def ow_dm_X9_behind : List Cond := .code yX9_behind cX9_behind 3 (some .int) :: ([.methodLink RX9 169 Lib.Math.max.name, .static Lib.Math.max.name, .initialized "java/lang/Math", .code Lib.Math.max.name Lib.Math.max.code 2 (some .int), .fieldLink RX9 39 "TimeMachine$Reader" "codes" "I", .fieldLink RX9 16 "TimeMachine$Reader" "code" "[I"] ++ (u_ws RX9 TX9 20 ++ []))
theorem gd_dm_X9_behind : ∀ w ∈ ow_dm_X9_behind, (w.onTables && w.keeps) = true ∨ ∃ ty, w = Cond.arrayClass ty := List.forall_mem_cons.mpr ⟨good_of_word rfl, List.forall_mem_append.mpr ⟨fun w h => good_of_word (List.all_eq_true.mp (by decide +kernel) w h), List.forall_mem_append.mpr ⟨gu_X9, fun _ h => nomatch h⟩⟩⟩
theorem hi_dm_X9_behind_X9 : ∀ w ∈ u_ws RX9 TX9 20, w ∈ ow_dm_X9_behind := fun w h => List.mem_cons_of_mem _ (List.mem_append_right _ (List.mem_append_left _ h))
def dj_X9_behind_31 (p : Program) (l : Launch) (e : Env) (s : State) (m : MethodId) (args : Array Value) (below : List Frame) (meth : Method) (c : Code) (Q : State → Prop) (A : Nat → Prop) (dC : Nat → ClassId) (dI : Nat → Nat → Nat) (a : Nat → Nat) (ac : Nat → ClassId) (g : Int32 → (St) → Option (Int32 × (St))) (r : Int32 × (St)) : Prop := ∀ (x2 : Int32) (s0 : St) (H : Heap) (locs : List Loc) (ls : Array Slot), g x2 s0 = some r → va_P (dC, dI) vwCl (dw_X9 a ac s0) H → va_D A (dw_X9 a ac s0) → va_S A s.heap H locs → lv_has ls 3 [(2, .int x2)] → W p l e (headSpec ow_dm_X9_behind ({ frames := 1, cells := 0, slots := 0, locals := 13 })).room s m args below meth c H locs 0 0 Q (F0 m 31 ls [])
def dj_X9_behind_6 (p : Program) (l : Launch) (e : Env) (s : State) (m : MethodId) (args : Array Value) (below : List Frame) (meth : Method) (c : Code) (Q : State → Prop) (A : Nat → Prop) (dC : Nat → ClassId) (dI : Nat → Nat → Nat) (a : Nat → Nat) (ac : Nat → ClassId) (g : Int32 → (St) → Option (Int32 × (St))) (r : Int32 × (St)) : Prop := ∀ (x2 : Int32) (s0 : St) (H : Heap) (locs : List Loc) (ls : Array Slot), g x2 s0 = some r → va_P (dC, dI) vwCl (dw_X9 a ac s0) H → va_D A (dw_X9 a ac s0) → va_S A s.heap H locs → lv_has ls 3 [(0, .ref (a 0)), (2, .int x2)] → W p l e (headSpec ow_dm_X9_behind ({ frames := 1, cells := 0, slots := 0, locals := 13 })).room s m args below meth c H locs 0 0 Q (F0 m 6 ls [])
def dj_X9_behind_0 (p : Program) (l : Launch) (e : Env) (s : State) (m : MethodId) (args : Array Value) (below : List Frame) (meth : Method) (c : Code) (Q : State → Prop) (A : Nat → Prop) (dC : Nat → ClassId) (dI : Nat → Nat → Nat) (a : Nat → Nat) (ac : Nat → ClassId) (g : Int32 → (St) → Option (Int32 × (St))) (r : Int32 × (St)) : Prop := ∀ (v0 : Int32) (s0 : St) (H : Heap) (locs : List Loc) (ls : Array Slot), g v0 s0 = some r → va_P (dC, dI) vwCl (dw_X9 a ac s0) H → va_D A (dw_X9 a ac s0) → va_S A s.heap H locs → lv_has ls 3 [(0, .ref (a 0)), (1, .int v0)] → W p l e (headSpec ow_dm_X9_behind ({ frames := 1, cells := 0, slots := 0, locals := 13 })).room s m args below meth c H locs 0 0 Q (F0 m 0 ls [])
set_option maxHeartbeats 40000000 in
set_option maxRecDepth 100000 in
theorem db_X9_behind_31 {p : Program} {l : Launch} {e : Env} {s : State} {m : MethodId} {args : Array Value} {below : List Frame} {meth : Method} {c : Code} {Q : State → Prop} {A : Nat → Prop} {dC : Nat → ClassId} {dI : Nat → Nat → Nat} {a : Nat → Nat} {ac : Nat → ClassId} {n : Nat} {r : Int32 × (St)} (C : nd_C p l s m args c A (dC, dI) cX9_behind 3 RX9 ow_dm_X9_behind (dk_X9 ac)) (K : nd_Ki p l e (headSpec ow_dm_X9_behind ({ frames := 1, cells := 0, slots := 0, locals := 13 })).room s m args below meth c Q A (dC, dI) cX9_behind .int (St) (dw_X9 a ac) r) : dj_X9_behind_31 p l e s m args below meth c Q A dC dI a ac (df_X9_behind_31 n) r := by
  obtain ⟨hlt, hx, hb, hml, hown, hts, hN, hA, hK⟩ := id C
  intro x2 s0 H locs ls h hP hD hS hl
  unfold df_X9_behind_31 at h
  refine lv_iload_n hx hb dX9_behind_31 rfl (lv_at hl 0 rfl) ?_
  refine lv_iconst (v := 1) hx hb dX9_behind_32 (by decide) ?_
  refine lv_iadd hx hb dX9_behind_33 ?_
  exact K _ _ _ _ _ _ dX9_behind_34 rfl (Option.some.inj h).symm hP hD hS
set_option maxHeartbeats 40000000 in
set_option maxRecDepth 100000 in
theorem dB_X9_behind_6 {p : Program} {l : Launch} {e : Env} {s : State} {m : MethodId} {args : Array Value} {below : List Frame} {meth : Method} {c : Code} {Q : State → Prop} {A : Nat → Prop} {dC : Nat → ClassId} {dI : Nat → Nat → Nat} {a : Nat → Nat} {ac : Nat → ClassId} {n : Nat} {r : Int32 × (St)} (C : nd_C p l s m args c A (dC, dI) cX9_behind 3 RX9 ow_dm_X9_behind (dk_X9 ac)) (K : nd_Ki p l e (headSpec ow_dm_X9_behind ({ frames := 1, cells := 0, slots := 0, locals := 13 })).room s m args below meth c Q A (dC, dI) cX9_behind .int (St) (dw_X9 a ac) r) {g6 : Int32 → (St) → Option (Int32 × (St))} (J6 : dj_X9_behind_6 p l e s m args below meth c Q A dC dI a ac g6 r) : dj_X9_behind_6 p l e s m args below meth c Q A dC dI a ac (dF_X9_behind_6 n g6) r := by
  obtain ⟨hlt, hx, hb, hml, hown, hts, hN, hA, hK⟩ := id C
  intro x2 s0 H locs ls h hP hD hS hl
  unfold dF_X9_behind_6 at h
  refine lv_iload_n hx hb dX9_behind_6 rfl (lv_at hl 1 rfl) ?_
  refine lv_aload_n hx hb dX9_behind_7 rfl (lv_at hl 0 rfl) ?_
  refine va_get (D := (dC, dI)) (ci := 10) (v := .int (sI s0 5)) (C := RX9) (T := TX9) (N := 20) hx hb hts hi_dm_X9_behind_X9 hown hK hP 0 rfl rfl 8 (by decide) (hts (.fieldLink RX9 39 "TimeMachine$Reader" "codes" "I") (List.mem_of_getElem? (i := 5) rfl)) (fun _ h9 => h9) rfl dX9_behind_8 ?_
  refine lv_icmp_ge (tgt := 31) hx hb dX9_behind_11 (by decide) (fun c2 => ?_) (fun c2 => ?_)
  · have h := nd_pos h c2
    exact (db_X9_behind_31 C K) (x2) s0 _ _ _ h hP hD hS (lv_sub hl [1] rfl)
  · have h := nd_neg h c2
    refine lv_aload_n hx hb dX9_behind_14 rfl (lv_at hl 0 rfl) ?_
    refine va_get (D := (dC, dI)) (ci := 10) (v := .ref (a 1)) (C := RX9) (T := TX9) (N := 20) hx hb hts hi_dm_X9_behind_X9 hown hK hP 0 rfl rfl 6 (by decide) (hts (.fieldLink RX9 16 "TimeMachine$Reader" "code" "[I") (List.mem_of_getElem? (i := 6) rfl)) (fun _ h9 => h9) rfl dX9_behind_15 ?_
    refine lv_iload_n hx hb dX9_behind_18 rfl (lv_at hl 1 rfl) ?_
    obtain ⟨i3, h⟩ := nd_ck_e h
    refine va_iald (i := x2) hx hb hK hP 1 0 rfl rfl i3 dX9_behind_19 ?_
    refine lv_bipush (v := 21) hx hb dX9_behind_20 (by decide) ?_
    refine lv_icmp_eq (tgt := 31) hx hb dX9_behind_22 (by decide) (fun c4 => ?_) (fun c4 => ?_)
    · have h := nd_pos h c4
      exact (db_X9_behind_31 C K) (x2) s0 _ _ _ h hP hD hS (lv_sub hl [1] rfl)
    · have h := nd_neg h c4
      obtain ⟨z5, ez5, h⟩ := nd_let_e h
      refine lv_iinc (v := z5) (lv' := [(2, .int z5), (0, .ref (a 0))]) hx hb dX9_behind_25 hl (k := 1) rfl (by rw [ez5]) (by decide) rfl (fun ls hl => ?_)
      refine lv_goto (tgt := 6) hx hb dX9_behind_28 (by decide) ?_
      exact (J6) (z5) s0 _ _ _ h hP hD hS (lv_sub hl [1, 0] rfl)
set_option maxHeartbeats 40000000 in
set_option maxRecDepth 100000 in
theorem db_X9_behind_6 {p : Program} {l : Launch} {e : Env} {s : State} {m : MethodId} {args : Array Value} {below : List Frame} {meth : Method} {c : Code} {Q : State → Prop} {A : Nat → Prop} {dC : Nat → ClassId} {dI : Nat → Nat → Nat} {a : Nat → Nat} {ac : Nat → ClassId} {n : Nat} {r : Int32 × (St)} (C : nd_C p l s m args c A (dC, dI) cX9_behind 3 RX9 ow_dm_X9_behind (dk_X9 ac)) (K : nd_Ki p l e (headSpec ow_dm_X9_behind ({ frames := 1, cells := 0, slots := 0, locals := 13 })).room s m args below meth c Q A (dC, dI) cX9_behind .int (St) (dw_X9 a ac) r) (k : Nat) : dj_X9_behind_6 p l e s m args below meth c Q A dC dI a ac (df_X9_behind_6 n k) r := by
  induction k with
  | zero => intro x2 s0 H locs ls h; exact nomatch (show (none : Option (Int32 × (St))) = some r from h)
  | succ k ih => exact dB_X9_behind_6 C K ih
set_option maxHeartbeats 40000000 in
set_option maxRecDepth 100000 in
theorem db_X9_behind_0 {p : Program} {l : Launch} {e : Env} {s : State} {m : MethodId} {args : Array Value} {below : List Frame} {meth : Method} {c : Code} {Q : State → Prop} {A : Nat → Prop} {dC : Nat → ClassId} {dI : Nat → Nat → Nat} {a : Nat → Nat} {ac : Nat → ClassId} {n : Nat} {r : Int32 × (St)} (C : nd_C p l s m args c A (dC, dI) cX9_behind 3 RX9 ow_dm_X9_behind (dk_X9 ac)) (K : nd_Ki p l e (headSpec ow_dm_X9_behind ({ frames := 1, cells := 0, slots := 0, locals := 13 })).room s m args below meth c Q A (dC, dI) cX9_behind .int (St) (dw_X9 a ac) r) : dj_X9_behind_0 p l e s m args below meth c Q A dC dI a ac (df_X9_behind_0 n) r := by
  obtain ⟨hlt, hx, hb, hml, hown, hts, hN, hA, hK⟩ := id C
  intro v0 s0 H locs ls h hP hD hS hl
  unfold df_X9_behind_0 at h
  refine lv_iconst (v := 0) hx hb dX9_behind_0 (by decide) ?_
  refine lv_iload_n hx hb dX9_behind_1 rfl (lv_at hl 1 rfl) ?_
  refine va_mmax hx hb (by rw [hml]; exact hl.1.symm) hown (hts (.methodLink RX9 169 Lib.Math.max.name) (List.mem_of_getElem? (i := 1) rfl)) (hts (.static Lib.Math.max.name) (List.mem_of_getElem? (i := 2) rfl)) (hts (.initialized "java/lang/Math") (List.mem_of_getElem? (i := 3) rfl)) (hts (.code Lib.Math.max.name Lib.Math.max.code 2 (some .int)) (List.mem_of_getElem? (i := 4) rfl)) (Nat.le_of_ble_eq_true rfl) (Nat.le_of_ble_eq_true rfl) (by decide +kernel) (by decide +kernel) dX9_behind_2 ?_
  refine lv_topi (fun z1 ez1 => ?_)
  have h := nd_at h ez1
  refine lv_istore_n (lv' := [(2, .int z1), (0, .ref (a 0)), (1, .int v0)]) hx hb dX9_behind_5 rfl hl (by decide) rfl (fun ls hl => ?_)
  exact (db_X9_behind_6 C K n) (z1) s0 _ _ _ h hP hD hS (lv_sub hl [1, 0] rfl)
set_option maxHeartbeats 40000000 in
set_option maxRecDepth 100000 in
theorem dm_X9_behind (l : Launch) (hlt : l.stackTraces = false) (dC : Nat → ClassId) (dI : Nat → Nat → Nat) (a : Nat → Nat) (ac : Nat → ClassId) (n : Nat) (v0 : Int32) (s0 : St) {r : Int32 × (St)} (h : df_X9_behind n v0 s0 = some r) (sz : Nat) : Met l yX9_behind ow_dm_X9_behind ({ frames := 1, cells := 0, slots := 0, locals := 13 }) (va_Pc [.ref (a 0), .int v0] (fun U => U.heap.size = sz ∧ va_P (dC, dI) vwCl (dw_X9 a ac s0) U.heap ∧ va_K (dC, dI) vwCl (dk_X9 ac) U ∧ va_D (fun _ => True) (dw_X9 a ac s0) ∧ nv_E (va_A (dw_X9 a ac s0) sz) U)) (va_Qi (fun x _ => x = r.1) (fun (_ : Unit) t => va_P (dC, dI) vwCl (dw_X9 a ac r.2) t.heap ∧ va_K (dC, dI) vwCl (dk_X9 ac) t ∧ va_D (va_A (dw_X9 a ac s0) sz) (dw_X9 a ac r.2)) (va_A (dw_X9 a ac s0) sz)) 0 0 (va_A (dw_X9 a ac s0) sz) := by
  refine Met.ofW (cc := cX9_behind) (maxL := 3) (ret := (some .int)) (by decide) rfl ?_
  intro p e s m args below meth c s₁ B hml hv
  obtain ⟨rfl, hsz, hP, hK, hD0, hN⟩ := hv
  have hx := B.exec
  have hb := B.bytes
  have hr := B.returns
  have hts := atoms_spec (ws := ow_dm_X9_behind) B.pre
  have hown : s.vm.findClass RX9 = some m.cls := findClass_of_methodNamed B.named
  have hlocks := B.notSynchronized
  subst hsz
  have hD := hD0.self (sz := s.heap.size)
  generalize hAe : va_A (dw_X9 a ac s0) s.heap.size = A at hD hN ⊢
  have hA : ∀ q : Nat, s.heap.size ≤ q → A q := fun q h => by rw [← hAe]; exact Or.inr h
  have hl := lv_entry ([.ref (a 0), .int v0]) (n := 3) (Nat.le_of_ble_eq_true rfl)
  rw [lg_entry_eq]
  generalize (lg_sl ([.ref (a 0), .int v0]) ++ List.replicate (3 - (lg_sl ([.ref (a 0), .int v0])).length) Slot.unset).toArray = ls at hl ⊢
  have hl : lv_has ls 3 [(0, .ref (a 0)), (1, .int v0)] := hl
  exact db_X9_behind_0 (dC := dC) (dI := dI) (a := a) (ac := ac) (n := n) (r := r) ⟨hlt, hx, hb, hml, hown, hts, hN, hA, hK⟩ (fun pc v τ H locs ls d z er hP hD hS => by subst er; exact W.zret (v := v) hx hb hr z (fun t ht hW => ⟨⟨v, (), rfl, rfl, by rw [ht]; exact hP, va_K.moved hW.alike hK, hD⟩, hS.F ht⟩) hS.2.2 d) v0 s0 _ _ _ h hP hD va_S.rf (lv_sub hl [0, 1] rfl)
def ow_dm_X1_putList : List Cond := .code yX1_putList cX1_putList 7 none :: ([.fieldLink RX1 19 "TimeMachine$Assembler" "statement" "[I", .fieldLink RX1 32 "TimeMachine$Assembler" "fault" "I", .methodLink RX1 330 yX1_worked, .instanceMethod yX1_worked, .selects RX1 yX1_worked yX1_worked, .initialized RX1, .methodLink RX1 340 yX1_put, .instanceMethod yX1_put, .selects RX1 yX1_put yX1_put, .fieldLink RX1 12 "TimeMachine$Assembler" "reader" "LTimeMachine$Reader;", .methodLink RX1 349 yX9_behind, .instanceMethod yX9_behind, .selects RX9 yX9_behind yX9_behind, .initialized RX9, .methodLink RX1 352 Lib.Math.max.name, .static Lib.Math.max.name, .initialized "java/lang/Math", .code Lib.Math.max.name Lib.Math.max.code 2 (some .int)] ++ (u_ws RX1 TX1 13 ++ (ow_dm_X1_worked ++ (ow_dm_X1_put ++ (ow_dm_X9_behind ++ [])))))
theorem gd_dm_X1_putList : ∀ w ∈ ow_dm_X1_putList, (w.onTables && w.keeps) = true ∨ ∃ ty, w = Cond.arrayClass ty := List.forall_mem_cons.mpr ⟨good_of_word rfl, List.forall_mem_append.mpr ⟨fun w h => good_of_word (List.all_eq_true.mp (by decide +kernel) w h), List.forall_mem_append.mpr ⟨gu_X1, List.forall_mem_append.mpr ⟨gd_dm_X1_worked, List.forall_mem_append.mpr ⟨gd_dm_X1_put, List.forall_mem_append.mpr ⟨gd_dm_X9_behind, fun _ h => nomatch h⟩⟩⟩⟩⟩⟩
theorem hi_dm_X1_putList_X1 : ∀ w ∈ u_ws RX1 TX1 13, w ∈ ow_dm_X1_putList := fun w h => List.mem_cons_of_mem _ (List.mem_append_right _ (List.mem_append_left _ h))
theorem gi_dm_X1_putList_0 : GoodIn ow_dm_X1_putList (wsV RX1 330 RX1 yX1_worked ow_dm_X1_worked) := goodIn_app (goodIn_of _ (by decide +kernel)) (fun w h => ⟨List.mem_cons_of_mem _ (List.mem_append_right _ (List.mem_append_right _ (List.mem_append_left _ h))), gd_dm_X1_worked w h⟩)
theorem gi_dm_X1_putList_1 : GoodIn ow_dm_X1_putList (wsV RX1 340 RX1 yX1_put ow_dm_X1_put) := goodIn_app (goodIn_of _ (by decide +kernel)) (fun w h => ⟨List.mem_cons_of_mem _ (List.mem_append_right _ (List.mem_append_right _ (List.mem_append_right _ (List.mem_append_left _ h)))), gd_dm_X1_put w h⟩)
theorem gi_dm_X1_putList_2 : GoodIn ow_dm_X1_putList (wsV RX1 349 RX9 yX9_behind ow_dm_X9_behind) := goodIn_app (goodIn_of _ (by decide +kernel)) (fun w h => ⟨List.mem_cons_of_mem _ (List.mem_append_right _ (List.mem_append_right _ (List.mem_append_right _ (List.mem_append_right _ (List.mem_append_left _ h))))), gd_dm_X9_behind w h⟩)
def dj_X1_putList_96 (p : Program) (l : Launch) (e : Env) (s : State) (m : MethodId) (args : Array Value) (below : List Frame) (meth : Method) (c : Code) (Q : State → Prop) (A : Nat → Prop) (dC : Nat → ClassId) (dI : Nat → Nat → Nat) (a : Nat → Nat) (ac : Nat → ClassId) (g : (St × (St × (St)) × (St)) → Option (St × (St × (St)) × (St))) (r : St × (St × (St)) × (St)) : Prop := ∀ (s0 : St × (St × (St)) × (St)) (H : Heap) (locs : List Loc) (ls : Array Slot), g s0 = some r → va_P (dC, dI) vwCl (dw_X1p a ac s0) H → va_D A (dw_X1p a ac s0) → va_S A s.heap H locs → lv_has ls 7 [] → W p l e (headSpec ow_dm_X1_putList ({ frames := 4, cells := 0, slots := 0, locals := 87 })).room s m args below meth c H locs 0 0 Q (F0 m 96 ls [])
def dj_X1_putList_33 (p : Program) (l : Launch) (e : Env) (s : State) (m : MethodId) (args : Array Value) (below : List Frame) (meth : Method) (c : Code) (Q : State → Prop) (A : Nat → Prop) (dC : Nat → ClassId) (dI : Nat → Nat → Nat) (a : Nat → Nat) (ac : Nat → ClassId) (g : Int32 → Int32 → Int32 → Int32 → Int32 → (St × (St × (St)) × (St)) → Option (St × (St × (St)) × (St))) (r : St × (St × (St)) × (St)) : Prop := ∀ (x2 : Int32) (x3 : Int32) (x4 : Int32) (x5 : Int32) (x6 : Int32) (s0 : St × (St × (St)) × (St)) (H : Heap) (locs : List Loc) (ls : Array Slot), g x2 x3 x4 x5 x6 s0 = some r → va_P (dC, dI) vwCl (dw_X1p a ac s0) H → va_D A (dw_X1p a ac s0) → va_S A s.heap H locs → lv_has ls 7 [(0, .ref (a 0)), (1, .ref (a 12)), (2, .int x2), (3, .int x3), (4, .int x4), (5, .int x5), (6, .int x6)] → W p l e (headSpec ow_dm_X1_putList ({ frames := 4, cells := 0, slots := 0, locals := 87 })).room s m args below meth c H locs 0 0 Q (F0 m 33 ls [])
def dj_X1_putList_0 (p : Program) (l : Launch) (e : Env) (s : State) (m : MethodId) (args : Array Value) (below : List Frame) (meth : Method) (c : Code) (Q : State → Prop) (A : Nat → Prop) (dC : Nat → ClassId) (dI : Nat → Nat → Nat) (a : Nat → Nat) (ac : Nat → ClassId) (g : Int32 → (St × (St × (St)) × (St)) → Option (St × (St × (St)) × (St))) (r : St × (St × (St)) × (St)) : Prop := ∀ (v1 : Int32) (s0 : St × (St × (St)) × (St)) (H : Heap) (locs : List Loc) (ls : Array Slot), g v1 s0 = some r → va_P (dC, dI) vwCl (dw_X1p a ac s0) H → va_D A (dw_X1p a ac s0) → va_S A s.heap H locs → lv_has ls 7 [(0, .ref (a 0)), (1, .ref (a 12)), (2, .int v1)] → W p l e (headSpec ow_dm_X1_putList ({ frames := 4, cells := 0, slots := 0, locals := 87 })).room s m args below meth c H locs 0 0 Q (F0 m 0 ls [])
set_option maxHeartbeats 40000000 in
set_option maxRecDepth 100000 in
theorem db_X1_putList_96 {p : Program} {l : Launch} {e : Env} {s : State} {m : MethodId} {args : Array Value} {below : List Frame} {meth : Method} {c : Code} {Q : State → Prop} {A : Nat → Prop} {dC : Nat → ClassId} {dI : Nat → Nat → Nat} {a : Nat → Nat} {ac : Nat → ClassId} {n : Nat} {r : St × (St × (St)) × (St)} (C : nd_C p l s m args c A (dC, dI) cX1_putList 7 RX1 ow_dm_X1_putList (dk_X1p ac)) (K : nd_Kv p l e (headSpec ow_dm_X1_putList ({ frames := 4, cells := 0, slots := 0, locals := 87 })).room s m args below meth c Q A (dC, dI) cX1_putList (St × (St × (St)) × (St)) (dw_X1p a ac) r) : dj_X1_putList_96 p l e s m args below meth c Q A dC dI a ac (df_X1_putList_96 n) r := by
  obtain ⟨hlt, hx, hb, hml, hown, hts, hN, hA, hK⟩ := id C
  intro s0 H locs ls h hP hD hS hl
  unfold df_X1_putList_96 at h
  exact K _ _ _ _ _ dX1_putList_96 (Option.some.inj h).symm hP hD hS
set_option maxHeartbeats 40000000 in
set_option maxRecDepth 100000 in
theorem dB_X1_putList_33 {p : Program} {l : Launch} {e : Env} {s : State} {m : MethodId} {args : Array Value} {below : List Frame} {meth : Method} {c : Code} {Q : State → Prop} {A : Nat → Prop} {dC : Nat → ClassId} {dI : Nat → Nat → Nat} {a : Nat → Nat} {ac : Nat → ClassId} {n : Nat} {r : St × (St × (St)) × (St)} (C : nd_C p l s m args c A (dC, dI) cX1_putList 7 RX1 ow_dm_X1_putList (dk_X1p ac)) (K : nd_Kv p l e (headSpec ow_dm_X1_putList ({ frames := 4, cells := 0, slots := 0, locals := 87 })).room s m args below meth c Q A (dC, dI) cX1_putList (St × (St × (St)) × (St)) (dw_X1p a ac) r) {g33 : Int32 → Int32 → Int32 → Int32 → Int32 → (St × (St × (St)) × (St)) → Option (St × (St × (St)) × (St))} (J33 : dj_X1_putList_33 p l e s m args below meth c Q A dC dI a ac g33 r) : dj_X1_putList_33 p l e s m args below meth c Q A dC dI a ac (dF_X1_putList_33 n g33) r := by
  obtain ⟨hlt, hx, hb, hml, hown, hts, hN, hA, hK⟩ := id C
  intro x2 x3 x4 x5 x6 s0 H locs ls h hP hD hS hl
  unfold dF_X1_putList_33 at h
  refine lv_iload hx hb dX1_putList_33 (lv_at hl 6 rfl) ?_
  refine lv_aload_n hx hb dX1_putList_35 rfl (lv_at hl 0 rfl) ?_
  refine va_get (D := (dC, dI)) (ci := 2) (v := .ref (a 1)) (C := RX1) (T := TX1) (N := 13) hx hb hts hi_dm_X1_putList_X1 hown hK hP 0 rfl rfl 1 (by decide) (hts (.fieldLink RX1 19 "TimeMachine$Assembler" "statement" "[I") (List.mem_of_getElem? (i := 1) rfl)) (fun _ h9 => h9) rfl dX1_putList_36 ?_
  refine lv_iload_n hx hb dX1_putList_39 rfl (lv_at hl 2 rfl) ?_
  refine lv_iconst (v := 3) hx hb dX1_putList_40 (by decide) ?_
  refine lv_iadd hx hb dX1_putList_41 ?_
  obtain ⟨i7, h⟩ := nd_ck_e h
  refine va_iald (i := (x2 + 3)) hx hb hK hP 1 0 rfl rfl i7 dX1_putList_42 ?_
  refine lv_icmp_ge (tgt := 96) hx hb dX1_putList_43 (by decide) (fun c8 => ?_) (fun c8 => ?_)
  · have h := nd_pos h c8
    exact (db_X1_putList_96 C K)  s0 _ _ _ h hP hD hS (lv_sub hl [] rfl)
  · have h := nd_neg h c8
    refine lv_aload_n hx hb dX1_putList_46 rfl (lv_at hl 0 rfl) ?_
    refine va_get (D := (dC, dI)) (ci := 2) (v := .int (sI s0.2.1.1 2)) (C := RX1) (T := TX1) (N := 13) hx hb hts hi_dm_X1_putList_X1 hown hK hP 0 rfl rfl 5 (by decide) (hts (.fieldLink RX1 32 "TimeMachine$Assembler" "fault" "I") (List.mem_of_getElem? (i := 2) rfl)) (fun _ h9 => h9) rfl dX1_putList_47 ?_
    refine lv_if_ne (tgt := 96) hx hb dX1_putList_50 (by decide) (fun c9 => ?_) (fun c9 => ?_)
    · have h := nd_neg h c9
      exact (db_X1_putList_96 C K)  s0 _ _ _ h hP hD hS (lv_sub hl [] rfl)
    · have h := nd_pos h c9
      refine lv_aload_n hx hb dX1_putList_53 rfl (lv_at hl 0 rfl) ?_
      refine lv_aload_n hx hb dX1_putList_54 rfl (lv_at hl 1 rfl) ?_
      refine lv_iload hx hb dX1_putList_55 (lv_at hl 5 rfl) ?_
      refine lv_iload hx hb dX1_putList_57 (lv_at hl 6 rfl) ?_
      refine lv_iadd hx hb dX1_putList_59 ?_
      refine lv_iload_n hx hb dX1_putList_60 rfl (lv_at hl 3 rfl) ?_
      refine lv_aload_n hx hb dX1_putList_61 rfl (lv_at hl 0 rfl) ?_
      refine lv_iload hx hb dX1_putList_62 (lv_at hl 4 rfl) ?_
      refine lv_iload hx hb dX1_putList_64 (lv_at hl 5 rfl) ?_
      obtain ⟨q10, s11, hq, h⟩ := nd_b2_e h
      have hPc := dp_X1p_0 hP
      have hDc := dd_X1p_0 hD
      have hKc := dy_X1p_0 hK
      have hFc := nd_rs hDc hS hA
      have hzA : ∀ q : Nat, H.size ≤ q → A q := fun q h => hA q (Nat.le_trans hS.1 h)
      refine nd_cVi (As := [.int x4, .int x5]) (rest := [.int x3, .int (x5 + x6), .ref (a 12), .ref (a 0)]) (q := q10) (w' := dw_X1 (fun k => a (k + 0)) (fun k => ac (k + 0)) s11) ⟨hx, hb, hml, hown, hts⟩ (fun sz => dm_X1_worked l hlt dC dI (fun k => a (k + 0)) (fun k => ac (k + 0)) n (x4) (x5) s0.2.1 hq sz) (cwV 2 hts gi_dm_X1_putList_0 rfl rfl rfl (by decide +kernel) ⟨Nat.le_of_ble_eq_true rfl, Nat.le_of_ble_eq_true rfl⟩) hPc hDc hKc hS hA hN (va_recv hKc hPc (ci := 2) (q0 := 0) rfl rfl) rfl hl.1 rfl (Nat.le_of_ble_eq_true rfl) dX1_putList_66 (fun H locs hP1 hD1 hk1 hS => ?_)
      obtain ⟨hP, hD⟩ := dn_X1p_0 hP hD hzA hk1 hP1 hD1
      obtain ⟨s13, es13, h⟩ := nd_let_e h
      have hP : va_P (dC, dI) vwCl (dw_X1p a ac s13) H := by rw [es13]; exact hP
      have hD : va_D A (dw_X1p a ac s13) := by rw [es13]; exact hD
      obtain ⟨s15, hq, h⟩ := nd_b1_e h
      have hPc := hP
      have hDc := hD
      have hKc := hK
      have hFc := nd_rs hD hS hA
      refine nd_cVv (As := [.ref (a 12), .int (x5 + x6), .int x3, .int q10]) (rest := []) (w' := dw_X1p a ac s15) ⟨hx, hb, hml, hown, hts⟩ (fun sz => dm_X1_put l hlt dC dI a ac n ((x5 + x6)) (x3) (q10) s13 hq sz) (cwV 4 hts gi_dm_X1_putList_1 rfl rfl rfl (by decide +kernel) ⟨Nat.le_of_ble_eq_true rfl, Nat.le_of_ble_eq_true rfl⟩) hPc hDc hKc hS hA hN (va_recv hKc hPc (ci := 2) (q0 := 0) rfl rfl) rfl hl.1 rfl (Nat.le_of_ble_eq_true rfl) dX1_putList_69 (fun H locs hP1 hD1 hk1 hS => ?_)
      have hP := hP1
      have hD := hD1.weaken (fun k q _ h => hFc q.1 h)
      refine lv_aload_n hx hb dX1_putList_72 rfl (lv_at hl 0 rfl) ?_
      refine va_get (D := (dC, dI)) (ci := 2) (v := .ref (a 3)) (C := RX1) (T := TX1) (N := 13) hx hb hts hi_dm_X1_putList_X1 hown hK hP 0 rfl rfl 0 (by decide) (hts (.fieldLink RX1 12 "TimeMachine$Assembler" "reader" "LTimeMachine$Reader;") (List.mem_of_getElem? (i := 10) rfl)) (fun _ h9 => h9) rfl dX1_putList_73 ?_
      refine lv_iload hx hb dX1_putList_76 (lv_at hl 4 rfl) ?_
      obtain ⟨q17, s18, hq, h⟩ := nd_b2_e h
      have hPc := dp_X1p_3 hP
      have hDc := dd_X1p_3 hD
      have hKc := dy_X1p_3 hK
      have hFc := nd_rs hDc hS hA
      have hzA : ∀ q : Nat, H.size ≤ q → A q := fun q h => hA q (Nat.le_trans hS.1 h)
      refine nd_cVi (As := [.int x4]) (rest := []) (q := q17) (w' := dw_X9 (fun k => a (k + 3)) (fun k => ac (k + 3)) s18) ⟨hx, hb, hml, hown, hts⟩ (fun sz => dm_X9_behind l hlt dC dI (fun k => a (k + 3)) (fun k => ac (k + 3)) n (x4) s15.2.1.2 hq sz) (cwV 1 hts gi_dm_X1_putList_2 rfl rfl rfl (by decide +kernel) ⟨Nat.le_of_ble_eq_true rfl, Nat.le_of_ble_eq_true rfl⟩) hPc hDc hKc hS hA hN (va_recv hKc hPc (ci := 10) (q0 := 0) rfl rfl) rfl hl.1 rfl (Nat.le_of_ble_eq_true rfl) dX1_putList_78 (fun H locs hP1 hD1 hk1 hS => ?_)
      obtain ⟨hP, hD⟩ := dn_X1p_3 hP hD hzA hk1 hP1 hD1
      obtain ⟨s20, es20, h⟩ := nd_let_e h
      have hP : va_P (dC, dI) vwCl (dw_X1p a ac s20) H := by rw [es20]; exact hP
      have hD : va_D A (dw_X1p a ac s20) := by rw [es20]; exact hD
      refine lv_istore (lv' := [(4, .int q17), (0, .ref (a 0)), (1, .ref (a 12)), (2, .int x2), (3, .int x3), (5, .int x5), (6, .int x6)]) hx hb dX1_putList_81 hl (by decide) rfl (fun ls hl => ?_)
      refine lv_iload hx hb dX1_putList_83 (lv_at hl 6 rfl) ?_
      refine lv_iconst (v := 1) hx hb dX1_putList_85 (by decide) ?_
      refine lv_iload_n hx hb dX1_putList_86 rfl (lv_at hl 4 rfl) ?_
      refine va_mmax hx hb (by rw [hml]; exact hl.1.symm) hown (hts (.methodLink RX1 352 Lib.Math.max.name) (List.mem_of_getElem? (i := 15) rfl)) (hts (.static Lib.Math.max.name) (List.mem_of_getElem? (i := 16) rfl)) (hts (.initialized "java/lang/Math") (List.mem_of_getElem? (i := 17) rfl)) (hts (.code Lib.Math.max.name Lib.Math.max.code 2 (some .int)) (List.mem_of_getElem? (i := 18) rfl)) (Nat.le_of_ble_eq_true rfl) (Nat.le_of_ble_eq_true rfl) (by decide +kernel) (by decide +kernel) dX1_putList_87 ?_
      refine lv_iadd hx hb dX1_putList_90 ?_
      refine lv_topi (fun z21 ez21 => ?_)
      have h := nd_at h ez21
      refine lv_istore (lv' := [(6, .int z21), (4, .int q17), (0, .ref (a 0)), (1, .ref (a 12)), (2, .int x2), (3, .int x3), (5, .int x5)]) hx hb dX1_putList_91 hl (by decide) rfl (fun ls hl => ?_)
      refine lv_goto (tgt := 33) hx hb dX1_putList_93 (by decide) ?_
      exact (J33) (x2) (x3) (q17) (x5) (z21) s20 _ _ _ h hP hD hS (lv_sub hl [2, 3, 4, 5, 1, 6, 0] rfl)
set_option maxHeartbeats 40000000 in
set_option maxRecDepth 100000 in
theorem db_X1_putList_33 {p : Program} {l : Launch} {e : Env} {s : State} {m : MethodId} {args : Array Value} {below : List Frame} {meth : Method} {c : Code} {Q : State → Prop} {A : Nat → Prop} {dC : Nat → ClassId} {dI : Nat → Nat → Nat} {a : Nat → Nat} {ac : Nat → ClassId} {n : Nat} {r : St × (St × (St)) × (St)} (C : nd_C p l s m args c A (dC, dI) cX1_putList 7 RX1 ow_dm_X1_putList (dk_X1p ac)) (K : nd_Kv p l e (headSpec ow_dm_X1_putList ({ frames := 4, cells := 0, slots := 0, locals := 87 })).room s m args below meth c Q A (dC, dI) cX1_putList (St × (St × (St)) × (St)) (dw_X1p a ac) r) (k : Nat) : dj_X1_putList_33 p l e s m args below meth c Q A dC dI a ac (df_X1_putList_33 n k) r := by
  induction k with
  | zero => intro x2 x3 x4 x5 x6 s0 H locs ls h; exact nomatch (show (none : Option (St × (St × (St)) × (St))) = some r from h)
  | succ k ih => exact dB_X1_putList_33 C K ih
set_option maxHeartbeats 40000000 in
set_option maxRecDepth 100000 in
theorem db_X1_putList_0 {p : Program} {l : Launch} {e : Env} {s : State} {m : MethodId} {args : Array Value} {below : List Frame} {meth : Method} {c : Code} {Q : State → Prop} {A : Nat → Prop} {dC : Nat → ClassId} {dI : Nat → Nat → Nat} {a : Nat → Nat} {ac : Nat → ClassId} {n : Nat} {r : St × (St × (St)) × (St)} (C : nd_C p l s m args c A (dC, dI) cX1_putList 7 RX1 ow_dm_X1_putList (dk_X1p ac)) (K : nd_Kv p l e (headSpec ow_dm_X1_putList ({ frames := 4, cells := 0, slots := 0, locals := 87 })).room s m args below meth c Q A (dC, dI) cX1_putList (St × (St × (St)) × (St)) (dw_X1p a ac) r) : dj_X1_putList_0 p l e s m args below meth c Q A dC dI a ac (df_X1_putList_0 n) r := by
  obtain ⟨hlt, hx, hb, hml, hown, hts, hN, hA, hK⟩ := id C
  intro v1 s0 H locs ls h hP hD hS hl
  unfold df_X1_putList_0 at h
  refine lv_aload_n hx hb dX1_putList_0 rfl (lv_at hl 0 rfl) ?_
  refine va_get (D := (dC, dI)) (ci := 2) (v := .ref (a 1)) (C := RX1) (T := TX1) (N := 13) hx hb hts hi_dm_X1_putList_X1 hown hK hP 0 rfl rfl 1 (by decide) (hts (.fieldLink RX1 19 "TimeMachine$Assembler" "statement" "[I") (List.mem_of_getElem? (i := 1) rfl)) (fun _ h9 => h9) rfl dX1_putList_1 ?_
  refine lv_iload_n hx hb dX1_putList_4 rfl (lv_at hl 2 rfl) ?_
  refine lv_iconst (v := 5) hx hb dX1_putList_5 (by decide) ?_
  refine lv_iadd hx hb dX1_putList_6 ?_
  obtain ⟨i1, h⟩ := nd_ck_e h
  refine va_iald (i := (v1 + 5)) hx hb hK hP 1 0 rfl rfl i1 dX1_putList_7 ?_
  refine lv_topi (fun z2 ez2 => ?_)
  have h := nd_at h ez2
  refine lv_istore_n (lv' := [(3, .int z2), (0, .ref (a 0)), (1, .ref (a 12)), (2, .int v1)]) hx hb dX1_putList_8 rfl hl (by decide) rfl (fun ls hl => ?_)
  refine lv_aload_n hx hb dX1_putList_9 rfl (lv_at hl 1 rfl) ?_
  refine va_get (D := (dC, dI)) (ci := 2) (v := .ref (a 1)) (C := RX1) (T := TX1) (N := 13) hx hb hts hi_dm_X1_putList_X1 hown hK hP 0 rfl rfl 1 (by decide) (hts (.fieldLink RX1 19 "TimeMachine$Assembler" "statement" "[I") (List.mem_of_getElem? (i := 1) rfl)) (fun _ h9 => h9) rfl dX1_putList_10 ?_
  refine lv_iload_n hx hb dX1_putList_13 rfl (lv_at hl 3 rfl) ?_
  refine lv_bipush (v := 6) hx hb dX1_putList_14 (by decide) ?_
  refine lv_iadd hx hb dX1_putList_16 ?_
  obtain ⟨i3, h⟩ := nd_ck_e h
  refine va_iald (i := (v1 + 6)) hx hb hK hP 1 0 rfl rfl i3 dX1_putList_17 ?_
  refine lv_topi (fun z4 ez4 => ?_)
  have h := nd_at h ez4
  refine lv_istore (lv' := [(4, .int z4), (3, .int z2), (0, .ref (a 0)), (1, .ref (a 12)), (2, .int v1)]) hx hb dX1_putList_18 hl (by decide) rfl (fun ls hl => ?_)
  refine lv_aload_n hx hb dX1_putList_20 rfl (lv_at hl 2 rfl) ?_
  refine va_get (D := (dC, dI)) (ci := 2) (v := .ref (a 1)) (C := RX1) (T := TX1) (N := 13) hx hb hts hi_dm_X1_putList_X1 hown hK hP 0 rfl rfl 1 (by decide) (hts (.fieldLink RX1 19 "TimeMachine$Assembler" "statement" "[I") (List.mem_of_getElem? (i := 1) rfl)) (fun _ h9 => h9) rfl dX1_putList_21 ?_
  refine lv_iload_n hx hb dX1_putList_24 rfl (lv_at hl 4 rfl) ?_
  refine lv_iconst (v := 2) hx hb dX1_putList_25 (by decide) ?_
  refine lv_iadd hx hb dX1_putList_26 ?_
  obtain ⟨i5, h⟩ := nd_ck_e h
  refine va_iald (i := (v1 + 2)) hx hb hK hP 1 0 rfl rfl i5 dX1_putList_27 ?_
  refine lv_topi (fun z6 ez6 => ?_)
  have h := nd_at h ez6
  refine lv_istore (lv' := [(5, .int z6), (4, .int z4), (3, .int z2), (0, .ref (a 0)), (1, .ref (a 12)), (2, .int v1)]) hx hb dX1_putList_28 hl (by decide) rfl (fun ls hl => ?_)
  refine lv_iconst (v := 0) hx hb dX1_putList_30 (by decide) ?_
  refine lv_istore (lv' := [(6, .int 0), (5, .int z6), (4, .int z4), (3, .int z2), (0, .ref (a 0)), (1, .ref (a 12)), (2, .int v1)]) hx hb dX1_putList_31 hl (by decide) rfl (fun ls hl => ?_)
  exact (db_X1_putList_33 C K n) (v1) (z2) (z4) (z6) (0) s0 _ _ _ h hP hD hS (lv_sub hl [4, 5, 6, 3, 2, 1, 0] rfl)
set_option maxHeartbeats 40000000 in
set_option maxRecDepth 100000 in
theorem dm_X1_putList (l : Launch) (hlt : l.stackTraces = false) (dC : Nat → ClassId) (dI : Nat → Nat → Nat) (a : Nat → Nat) (ac : Nat → ClassId) (n : Nat) (v1 : Int32) (s0 : St × (St × (St)) × (St)) {r : St × (St × (St)) × (St)} (h : df_X1_putList n v1 s0 = some r) (sz : Nat) : Met l yX1_putList ow_dm_X1_putList ({ frames := 4, cells := 0, slots := 0, locals := 87 }) (va_Pc [.ref (a 0), .ref (a 12), .int v1] (fun U => U.heap.size = sz ∧ va_P (dC, dI) vwCl (dw_X1p a ac s0) U.heap ∧ va_K (dC, dI) vwCl (dk_X1p ac) U ∧ va_D (fun _ => True) (dw_X1p a ac s0) ∧ nv_E (va_A (dw_X1p a ac s0) sz) U)) (va_Qv (fun _ => True) (fun (_ : Unit) t => va_P (dC, dI) vwCl (dw_X1p a ac r) t.heap ∧ va_K (dC, dI) vwCl (dk_X1p ac) t ∧ va_D (va_A (dw_X1p a ac s0) sz) (dw_X1p a ac r)) (va_A (dw_X1p a ac s0) sz)) 0 0 (va_A (dw_X1p a ac s0) sz) := by
  refine Met.ofW (cc := cX1_putList) (maxL := 7) (ret := none) (by decide) rfl ?_
  intro p e s m args below meth c s₁ B hml hv
  obtain ⟨rfl, hsz, hP, hK, hD0, hN⟩ := hv
  have hx := B.exec
  have hb := B.bytes
  have hr := B.returns
  have hts := atoms_spec (ws := ow_dm_X1_putList) B.pre
  have hown : s.vm.findClass RX1 = some m.cls := findClass_of_methodNamed B.named
  have hlocks := B.notSynchronized
  subst hsz
  have hD := hD0.self (sz := s.heap.size)
  generalize hAe : va_A (dw_X1p a ac s0) s.heap.size = A at hD hN ⊢
  have hA : ∀ q : Nat, s.heap.size ≤ q → A q := fun q h => by rw [← hAe]; exact Or.inr h
  have hl := lv_entry ([.ref (a 0), .ref (a 12), .int v1]) (n := 7) (Nat.le_of_ble_eq_true rfl)
  rw [lg_entry_eq]
  generalize (lg_sl ([.ref (a 0), .ref (a 12), .int v1]) ++ List.replicate (7 - (lg_sl ([.ref (a 0), .ref (a 12), .int v1])).length) Slot.unset).toArray = ls at hl ⊢
  have hl : lv_has ls 7 [(0, .ref (a 0)), (1, .ref (a 12)), (2, .int v1)] := hl
  exact db_X1_putList_0 (dC := dC) (dI := dI) (a := a) (ac := ac) (n := n) (r := r) ⟨hlt, hx, hb, hml, hown, hts, hN, hA, hK⟩ (fun pc τ H locs ls d er hP hD hS => by subst er; exact W.vret hx hb hr (fun t ht hW => ⟨⟨(), rfl, trivial, by rw [ht]; exact hP, va_K.moved hW.alike hK, hD⟩, hS.F ht⟩) hS.2.2 d) v1 s0 _ _ _ h hP hD va_S.rf (lv_sub hl [0, 1, 2] rfl)
def ow_dm_X1_putTexts : List Cond := .code yX1_putTexts cX1_putTexts 5 none :: ([.fieldLink RX1 19 "TimeMachine$Assembler" "statement" "[I", .fieldLink RX1 24 "TimeMachine$Assembler" "letters" "[B", .methodLink RX1 340 yX1_put, .instanceMethod yX1_put, .selects RX1 yX1_put yX1_put, .initialized RX1] ++ (u_ws RX1 TX1 13 ++ (ow_dm_X1_put ++ [])))
theorem gd_dm_X1_putTexts : ∀ w ∈ ow_dm_X1_putTexts, (w.onTables && w.keeps) = true ∨ ∃ ty, w = Cond.arrayClass ty := List.forall_mem_cons.mpr ⟨good_of_word rfl, List.forall_mem_append.mpr ⟨fun w h => good_of_word (List.all_eq_true.mp (by decide +kernel) w h), List.forall_mem_append.mpr ⟨gu_X1, List.forall_mem_append.mpr ⟨gd_dm_X1_put, fun _ h => nomatch h⟩⟩⟩⟩
theorem hi_dm_X1_putTexts_X1 : ∀ w ∈ u_ws RX1 TX1 13, w ∈ ow_dm_X1_putTexts := fun w h => List.mem_cons_of_mem _ (List.mem_append_right _ (List.mem_append_left _ h))
theorem gi_dm_X1_putTexts_0 : GoodIn ow_dm_X1_putTexts (wsV RX1 340 RX1 yX1_put ow_dm_X1_put) := goodIn_app (goodIn_of _ (by decide +kernel)) (fun w h => ⟨List.mem_cons_of_mem _ (List.mem_append_right _ (List.mem_append_right _ (List.mem_append_left _ h))), gd_dm_X1_put w h⟩)
def dj_X1_putTexts_65 (p : Program) (l : Launch) (e : Env) (s : State) (m : MethodId) (args : Array Value) (below : List Frame) (meth : Method) (c : Code) (Q : State → Prop) (A : Nat → Prop) (dC : Nat → ClassId) (dI : Nat → Nat → Nat) (a : Nat → Nat) (ac : Nat → ClassId) (g : Int32 → Int32 → (St × (St × (St)) × (St)) → Option (St × (St × (St)) × (St))) (r : St × (St × (St)) × (St)) : Prop := ∀ (x2 : Int32) (x3 : Int32) (s0 : St × (St × (St)) × (St)) (H : Heap) (locs : List Loc) (ls : Array Slot), g x2 x3 s0 = some r → va_P (dC, dI) vwCl (dw_X1p a ac s0) H → va_D A (dw_X1p a ac s0) → va_S A s.heap H locs → lv_has ls 5 [(0, .ref (a 0)), (1, .ref (a 12)), (2, .int x2), (3, .int x3)] → W p l e (headSpec ow_dm_X1_putTexts ({ frames := 1, cells := 0, slots := 0, locals := 25 })).room s m args below meth c H locs 0 0 Q (F0 m 65 ls [])
def dj_X1_putTexts_2 (p : Program) (l : Launch) (e : Env) (s : State) (m : MethodId) (args : Array Value) (below : List Frame) (meth : Method) (c : Code) (Q : State → Prop) (A : Nat → Prop) (dC : Nat → ClassId) (dI : Nat → Nat → Nat) (a : Nat → Nat) (ac : Nat → ClassId) (g : Int32 → Int32 → (St × (St × (St)) × (St)) → Option (St × (St × (St)) × (St))) (r : St × (St × (St)) × (St)) : Prop := ∀ (x2 : Int32) (x3 : Int32) (s0 : St × (St × (St)) × (St)) (H : Heap) (locs : List Loc) (ls : Array Slot), g x2 x3 s0 = some r → va_P (dC, dI) vwCl (dw_X1p a ac s0) H → va_D A (dw_X1p a ac s0) → va_S A s.heap H locs → lv_has ls 5 [(0, .ref (a 0)), (1, .ref (a 12)), (2, .int x2), (3, .int x3)] → W p l e (headSpec ow_dm_X1_putTexts ({ frames := 1, cells := 0, slots := 0, locals := 25 })).room s m args below meth c H locs 0 0 Q (F0 m 2 ls [])
def dj_X1_putTexts_0 (p : Program) (l : Launch) (e : Env) (s : State) (m : MethodId) (args : Array Value) (below : List Frame) (meth : Method) (c : Code) (Q : State → Prop) (A : Nat → Prop) (dC : Nat → ClassId) (dI : Nat → Nat → Nat) (a : Nat → Nat) (ac : Nat → ClassId) (g : Int32 → (St × (St × (St)) × (St)) → Option (St × (St × (St)) × (St))) (r : St × (St × (St)) × (St)) : Prop := ∀ (v1 : Int32) (s0 : St × (St × (St)) × (St)) (H : Heap) (locs : List Loc) (ls : Array Slot), g v1 s0 = some r → va_P (dC, dI) vwCl (dw_X1p a ac s0) H → va_D A (dw_X1p a ac s0) → va_S A s.heap H locs → lv_has ls 5 [(0, .ref (a 0)), (1, .ref (a 12)), (2, .int v1)] → W p l e (headSpec ow_dm_X1_putTexts ({ frames := 1, cells := 0, slots := 0, locals := 25 })).room s m args below meth c H locs 0 0 Q (F0 m 0 ls [])
set_option maxHeartbeats 40000000 in
set_option maxRecDepth 100000 in
theorem db_X1_putTexts_65 {p : Program} {l : Launch} {e : Env} {s : State} {m : MethodId} {args : Array Value} {below : List Frame} {meth : Method} {c : Code} {Q : State → Prop} {A : Nat → Prop} {dC : Nat → ClassId} {dI : Nat → Nat → Nat} {a : Nat → Nat} {ac : Nat → ClassId} {n : Nat} {r : St × (St × (St)) × (St)} (C : nd_C p l s m args c A (dC, dI) cX1_putTexts 5 RX1 ow_dm_X1_putTexts (dk_X1p ac)) (K : nd_Kv p l e (headSpec ow_dm_X1_putTexts ({ frames := 1, cells := 0, slots := 0, locals := 25 })).room s m args below meth c Q A (dC, dI) cX1_putTexts (St × (St × (St)) × (St)) (dw_X1p a ac) r) {g2 : Int32 → Int32 → (St × (St × (St)) × (St)) → Option (St × (St × (St)) × (St))} (J2 : dj_X1_putTexts_2 p l e s m args below meth c Q A dC dI a ac g2 r) : dj_X1_putTexts_65 p l e s m args below meth c Q A dC dI a ac (df_X1_putTexts_65 n g2) r := by
  obtain ⟨hlt, hx, hb, hml, hown, hts, hN, hA, hK⟩ := id C
  intro x2 x3 s0 H locs ls h hP hD hS hl
  unfold df_X1_putTexts_65 at h
  obtain ⟨z6, ez6, h⟩ := nd_let_e h
  refine lv_iinc (v := z6) (lv' := [(3, .int z6), (0, .ref (a 0)), (1, .ref (a 12)), (2, .int x2)]) hx hb dX1_putTexts_65 hl (k := 3) rfl (by rw [ez6]) (by decide) rfl (fun ls hl => ?_)
  refine lv_goto (tgt := 2) hx hb dX1_putTexts_68 (by decide) ?_
  exact (J2) (x2) (z6) s0 _ _ _ h hP hD hS (lv_sub hl [1, 2, 3, 0] rfl)
set_option maxHeartbeats 40000000 in
set_option maxRecDepth 100000 in
theorem dB_X1_putTexts_2 {p : Program} {l : Launch} {e : Env} {s : State} {m : MethodId} {args : Array Value} {below : List Frame} {meth : Method} {c : Code} {Q : State → Prop} {A : Nat → Prop} {dC : Nat → ClassId} {dI : Nat → Nat → Nat} {a : Nat → Nat} {ac : Nat → ClassId} {n : Nat} {r : St × (St × (St)) × (St)} (C : nd_C p l s m args c A (dC, dI) cX1_putTexts 5 RX1 ow_dm_X1_putTexts (dk_X1p ac)) (K : nd_Kv p l e (headSpec ow_dm_X1_putTexts ({ frames := 1, cells := 0, slots := 0, locals := 25 })).room s m args below meth c Q A (dC, dI) cX1_putTexts (St × (St × (St)) × (St)) (dw_X1p a ac) r) {g2 : Int32 → Int32 → (St × (St × (St)) × (St)) → Option (St × (St × (St)) × (St))} (J2 : dj_X1_putTexts_2 p l e s m args below meth c Q A dC dI a ac g2 r) : dj_X1_putTexts_2 p l e s m args below meth c Q A dC dI a ac (dF_X1_putTexts_2 n g2) r := by
  obtain ⟨hlt, hx, hb, hml, hown, hts, hN, hA, hK⟩ := id C
  intro x2 x3 s0 H locs ls h hP hD hS hl
  unfold dF_X1_putTexts_2 at h
  refine lv_iload_n hx hb dX1_putTexts_2 rfl (lv_at hl 3 rfl) ?_
  refine lv_aload_n hx hb dX1_putTexts_3 rfl (lv_at hl 0 rfl) ?_
  refine va_get (D := (dC, dI)) (ci := 2) (v := .ref (a 1)) (C := RX1) (T := TX1) (N := 13) hx hb hts hi_dm_X1_putTexts_X1 hown hK hP 0 rfl rfl 1 (by decide) (hts (.fieldLink RX1 19 "TimeMachine$Assembler" "statement" "[I") (List.mem_of_getElem? (i := 1) rfl)) (fun _ h9 => h9) rfl dX1_putTexts_4 ?_
  refine lv_iload_n hx hb dX1_putTexts_7 rfl (lv_at hl 2 rfl) ?_
  refine lv_iconst (v := 3) hx hb dX1_putTexts_8 (by decide) ?_
  refine lv_iadd hx hb dX1_putTexts_9 ?_
  obtain ⟨i1, h⟩ := nd_ck_e h
  refine va_iald (i := (x2 + 3)) hx hb hK hP 1 0 rfl rfl i1 dX1_putTexts_10 ?_
  refine lv_icmp_ge (tgt := 71) hx hb dX1_putTexts_11 (by decide) (fun c2 => ?_) (fun c2 => ?_)
  · have h := nd_pos h c2
    exact K _ _ _ _ _ dX1_putTexts_71 (Option.some.inj h).symm hP hD hS
  · have h := nd_neg h c2
    refine lv_aload_n hx hb dX1_putTexts_14 rfl (lv_at hl 0 rfl) ?_
    refine va_get (D := (dC, dI)) (ci := 2) (v := .ref (a 1)) (C := RX1) (T := TX1) (N := 13) hx hb hts hi_dm_X1_putTexts_X1 hown hK hP 0 rfl rfl 1 (by decide) (hts (.fieldLink RX1 19 "TimeMachine$Assembler" "statement" "[I") (List.mem_of_getElem? (i := 1) rfl)) (fun _ h9 => h9) rfl dX1_putTexts_15 ?_
    refine lv_iload_n hx hb dX1_putTexts_18 rfl (lv_at hl 2 rfl) ?_
    refine lv_bipush (v := 6) hx hb dX1_putTexts_19 (by decide) ?_
    refine lv_iadd hx hb dX1_putTexts_21 ?_
    obtain ⟨i3, h⟩ := nd_ck_e h
    refine va_iald (i := (x2 + 6)) hx hb hK hP 1 0 rfl rfl i3 dX1_putTexts_22 ?_
    refine lv_iload_n hx hb dX1_putTexts_23 rfl (lv_at hl 3 rfl) ?_
    refine lv_iadd hx hb dX1_putTexts_24 ?_
    refine lv_topi (fun z4 ez4 => ?_)
    have h := nd_at h ez4
    refine lv_istore (lv' := [(4, .int z4), (0, .ref (a 0)), (1, .ref (a 12)), (2, .int x2), (3, .int x3)]) hx hb dX1_putTexts_25 hl (by decide) rfl (fun ls hl => ?_)
    refine lv_iload hx hb dX1_putTexts_27 (lv_at hl 0 rfl) ?_
    refine lv_if_lt (tgt := 65) hx hb dX1_putTexts_29 (by decide) (fun c5 => ?_) (fun c5 => ?_)
    · have h := nd_pos h c5
      exact (db_X1_putTexts_65 C K J2) (x2) (x3) s0 _ _ _ h hP hD hS (lv_sub hl [1, 2, 3, 4] rfl)
    · have h := nd_neg h c5
      refine lv_iload hx hb dX1_putTexts_32 (lv_at hl 0 rfl) ?_
      refine lv_aload_n hx hb dX1_putTexts_34 rfl (lv_at hl 1 rfl) ?_
      refine va_get (D := (dC, dI)) (ci := 2) (v := .ref (a 2)) (C := RX1) (T := TX1) (N := 13) hx hb hts hi_dm_X1_putTexts_X1 hown hK hP 0 rfl rfl 3 (by decide) (hts (.fieldLink RX1 24 "TimeMachine$Assembler" "letters" "[B") (List.mem_of_getElem? (i := 2) rfl)) (fun _ h9 => h9) rfl dX1_putTexts_35 ?_
      refine va_alen (v := 32832) hx hb hK hP 2 1 rfl rfl (show Int32.ofNat 32832 = 32832 by decide) dX1_putTexts_38 ?_
      refine lv_icmp_ge (tgt := 65) hx hb dX1_putTexts_39 (by decide) (fun c7 => ?_) (fun c7 => ?_)
      · have h := nd_pos h c7
        exact (db_X1_putTexts_65 C K J2) (x2) (x3) s0 _ _ _ h hP hD hS (lv_sub hl [1, 2, 3, 4] rfl)
      · have h := nd_neg h c7
        refine lv_aload_n hx hb dX1_putTexts_42 rfl (lv_at hl 1 rfl) ?_
        refine lv_aload_n hx hb dX1_putTexts_43 rfl (lv_at hl 2 rfl) ?_
        refine lv_aload_n hx hb dX1_putTexts_44 rfl (lv_at hl 1 rfl) ?_
        refine va_get (D := (dC, dI)) (ci := 2) (v := .ref (a 1)) (C := RX1) (T := TX1) (N := 13) hx hb hts hi_dm_X1_putTexts_X1 hown hK hP 0 rfl rfl 1 (by decide) (hts (.fieldLink RX1 19 "TimeMachine$Assembler" "statement" "[I") (List.mem_of_getElem? (i := 1) rfl)) (fun _ h9 => h9) rfl dX1_putTexts_45 ?_
        refine lv_iload_n hx hb dX1_putTexts_48 rfl (lv_at hl 3 rfl) ?_
        refine lv_iconst (v := 2) hx hb dX1_putTexts_49 (by decide) ?_
        refine lv_iadd hx hb dX1_putTexts_50 ?_
        obtain ⟨i8, h⟩ := nd_ck_e h
        refine va_iald (i := (x2 + 2)) hx hb hK hP 1 0 rfl rfl i8 dX1_putTexts_51 ?_
        refine lv_iload_n hx hb dX1_putTexts_52 rfl (lv_at hl 4 rfl) ?_
        refine lv_iadd hx hb dX1_putTexts_53 ?_
        refine lv_iconst (v := 1) hx hb dX1_putTexts_54 (by decide) ?_
        refine lv_aload_n hx hb dX1_putTexts_55 rfl (lv_at hl 1 rfl) ?_
        refine va_get (D := (dC, dI)) (ci := 2) (v := .ref (a 2)) (C := RX1) (T := TX1) (N := 13) hx hb hts hi_dm_X1_putTexts_X1 hown hK hP 0 rfl rfl 3 (by decide) (hts (.fieldLink RX1 24 "TimeMachine$Assembler" "letters" "[B") (List.mem_of_getElem? (i := 2) rfl)) (fun _ h9 => h9) rfl dX1_putTexts_56 ?_
        refine lv_iload hx hb dX1_putTexts_59 (lv_at hl 0 rfl) ?_
        obtain ⟨i9, h⟩ := nd_ck_e h
        refine va_bald (i := z4) hx hb hK hP 2 1 rfl rfl i9 dX1_putTexts_61 ?_
        obtain ⟨s11, hq, h⟩ := nd_b1_e h
        have hPc := hP
        have hDc := hD
        have hKc := hK
        have hFc := nd_rs hD hS hA
        refine nd_cVv (As := [.ref (a 12), .int ((sR s0.2.1.1 0 (Int32.toNatClampNeg (x2 + 2))) + x3), .int 1, .int (sR s0.2.1.1 1 (Int32.toNatClampNeg z4))]) (rest := []) (w' := dw_X1p a ac s11) ⟨hx, hb, hml, hown, hts⟩ (fun sz => dm_X1_put l hlt dC dI a ac n (((sR s0.2.1.1 0 (Int32.toNatClampNeg (x2 + 2))) + x3)) (1) ((sR s0.2.1.1 1 (Int32.toNatClampNeg z4))) s0 hq sz) (cwV 4 hts gi_dm_X1_putTexts_0 rfl rfl rfl (by decide +kernel) ⟨Nat.le_of_ble_eq_true rfl, Nat.le_of_ble_eq_true rfl⟩) hPc hDc hKc hS hA hN (va_recv hKc hPc (ci := 2) (q0 := 0) rfl rfl) rfl hl.1 rfl (Nat.le_of_ble_eq_true rfl) dX1_putTexts_62 (fun H locs hP1 hD1 hk1 hS => ?_)
        have hP := hP1
        have hD := hD1.weaken (fun k q _ h => hFc q.1 h)
        exact (db_X1_putTexts_65 C K J2) (x2) (x3) s11 _ _ _ h hP hD hS (lv_sub hl [1, 2, 3, 4] rfl)
set_option maxHeartbeats 40000000 in
set_option maxRecDepth 100000 in
theorem db_X1_putTexts_2 {p : Program} {l : Launch} {e : Env} {s : State} {m : MethodId} {args : Array Value} {below : List Frame} {meth : Method} {c : Code} {Q : State → Prop} {A : Nat → Prop} {dC : Nat → ClassId} {dI : Nat → Nat → Nat} {a : Nat → Nat} {ac : Nat → ClassId} {n : Nat} {r : St × (St × (St)) × (St)} (C : nd_C p l s m args c A (dC, dI) cX1_putTexts 5 RX1 ow_dm_X1_putTexts (dk_X1p ac)) (K : nd_Kv p l e (headSpec ow_dm_X1_putTexts ({ frames := 1, cells := 0, slots := 0, locals := 25 })).room s m args below meth c Q A (dC, dI) cX1_putTexts (St × (St × (St)) × (St)) (dw_X1p a ac) r) (k : Nat) : dj_X1_putTexts_2 p l e s m args below meth c Q A dC dI a ac (df_X1_putTexts_2 n k) r := by
  induction k with
  | zero => intro x2 x3 s0 H locs ls h; exact nomatch (show (none : Option (St × (St × (St)) × (St))) = some r from h)
  | succ k ih => exact dB_X1_putTexts_2 C K ih
set_option maxHeartbeats 40000000 in
set_option maxRecDepth 100000 in
theorem db_X1_putTexts_0 {p : Program} {l : Launch} {e : Env} {s : State} {m : MethodId} {args : Array Value} {below : List Frame} {meth : Method} {c : Code} {Q : State → Prop} {A : Nat → Prop} {dC : Nat → ClassId} {dI : Nat → Nat → Nat} {a : Nat → Nat} {ac : Nat → ClassId} {n : Nat} {r : St × (St × (St)) × (St)} (C : nd_C p l s m args c A (dC, dI) cX1_putTexts 5 RX1 ow_dm_X1_putTexts (dk_X1p ac)) (K : nd_Kv p l e (headSpec ow_dm_X1_putTexts ({ frames := 1, cells := 0, slots := 0, locals := 25 })).room s m args below meth c Q A (dC, dI) cX1_putTexts (St × (St × (St)) × (St)) (dw_X1p a ac) r) : dj_X1_putTexts_0 p l e s m args below meth c Q A dC dI a ac (df_X1_putTexts_0 n) r := by
  obtain ⟨hlt, hx, hb, hml, hown, hts, hN, hA, hK⟩ := id C
  intro v1 s0 H locs ls h hP hD hS hl
  unfold df_X1_putTexts_0 at h
  refine lv_iconst (v := 0) hx hb dX1_putTexts_0 (by decide) ?_
  refine lv_istore_n (lv' := [(3, .int 0), (0, .ref (a 0)), (1, .ref (a 12)), (2, .int v1)]) hx hb dX1_putTexts_1 rfl hl (by decide) rfl (fun ls hl => ?_)
  exact (db_X1_putTexts_2 C K n) (v1) (0) s0 _ _ _ h hP hD hS (lv_sub hl [1, 2, 3, 0] rfl)
set_option maxHeartbeats 40000000 in
set_option maxRecDepth 100000 in
theorem dm_X1_putTexts (l : Launch) (hlt : l.stackTraces = false) (dC : Nat → ClassId) (dI : Nat → Nat → Nat) (a : Nat → Nat) (ac : Nat → ClassId) (n : Nat) (v1 : Int32) (s0 : St × (St × (St)) × (St)) {r : St × (St × (St)) × (St)} (h : df_X1_putTexts n v1 s0 = some r) (sz : Nat) : Met l yX1_putTexts ow_dm_X1_putTexts ({ frames := 1, cells := 0, slots := 0, locals := 25 }) (va_Pc [.ref (a 0), .ref (a 12), .int v1] (fun U => U.heap.size = sz ∧ va_P (dC, dI) vwCl (dw_X1p a ac s0) U.heap ∧ va_K (dC, dI) vwCl (dk_X1p ac) U ∧ va_D (fun _ => True) (dw_X1p a ac s0) ∧ nv_E (va_A (dw_X1p a ac s0) sz) U)) (va_Qv (fun _ => True) (fun (_ : Unit) t => va_P (dC, dI) vwCl (dw_X1p a ac r) t.heap ∧ va_K (dC, dI) vwCl (dk_X1p ac) t ∧ va_D (va_A (dw_X1p a ac s0) sz) (dw_X1p a ac r)) (va_A (dw_X1p a ac s0) sz)) 0 0 (va_A (dw_X1p a ac s0) sz) := by
  refine Met.ofW (cc := cX1_putTexts) (maxL := 5) (ret := none) (by decide) rfl ?_
  intro p e s m args below meth c s₁ B hml hv
  obtain ⟨rfl, hsz, hP, hK, hD0, hN⟩ := hv
  have hx := B.exec
  have hb := B.bytes
  have hr := B.returns
  have hts := atoms_spec (ws := ow_dm_X1_putTexts) B.pre
  have hown : s.vm.findClass RX1 = some m.cls := findClass_of_methodNamed B.named
  have hlocks := B.notSynchronized
  subst hsz
  have hD := hD0.self (sz := s.heap.size)
  generalize hAe : va_A (dw_X1p a ac s0) s.heap.size = A at hD hN ⊢
  have hA : ∀ q : Nat, s.heap.size ≤ q → A q := fun q h => by rw [← hAe]; exact Or.inr h
  have hl := lv_entry ([.ref (a 0), .ref (a 12), .int v1]) (n := 5) (Nat.le_of_ble_eq_true rfl)
  rw [lg_entry_eq]
  generalize (lg_sl ([.ref (a 0), .ref (a 12), .int v1]) ++ List.replicate (5 - (lg_sl ([.ref (a 0), .ref (a 12), .int v1])).length) Slot.unset).toArray = ls at hl ⊢
  have hl : lv_has ls 5 [(0, .ref (a 0)), (1, .ref (a 12)), (2, .int v1)] := hl
  exact db_X1_putTexts_0 (dC := dC) (dI := dI) (a := a) (ac := ac) (n := n) (r := r) ⟨hlt, hx, hb, hml, hown, hts, hN, hA, hK⟩ (fun pc τ H locs ls d er hP hD hS => by subst er; exact W.vret hx hb hr (fun t ht hW => ⟨⟨(), rfl, trivial, by rw [ht]; exact hP, va_K.moved hW.alike hK, hD⟩, hS.F ht⟩) hS.2.2 d) v1 s0 _ _ _ h hP hD va_S.rf (lv_sub hl [0, 1, 2] rfl)
def ow_dm_X1_putAll : List Cond := .code yX1_putAll cX1_putAll 4 none :: ([.fieldLink RX1 300 "TimeMachine$Program" "image" "[B", .methodLink RX1 305 yJ7_fill_031fb, .static yJ7_fill_031fb, .initialized RJ7, .fieldLink RX1 65 "TimeMachine$Assembler" "statements" "I", .fieldLink RX1 32 "TimeMachine$Assembler" "fault" "I", .fieldLink RX1 19 "TimeMachine$Assembler" "statement" "[I", .fieldLink RX1 36 "TimeMachine$Assembler" "line" "I", .methodLink RX1 311 yX1_putPlain, .instanceMethod yX1_putPlain, .selects RX1 yX1_putPlain yX1_putPlain, .initialized RX1, .methodLink RX1 315 yX1_putGrown, .instanceMethod yX1_putGrown, .selects RX1 yX1_putGrown yX1_putGrown, .methodLink RX1 318 yX1_putAddress, .instanceMethod yX1_putAddress, .selects RX1 yX1_putAddress yX1_putAddress, .methodLink RX1 321 yX1_putNumber, .instanceMethod yX1_putNumber, .selects RX1 yX1_putNumber yX1_putNumber, .methodLink RX1 324 yX1_putList, .instanceMethod yX1_putList, .selects RX1 yX1_putList yX1_putList, .methodLink RX1 327 yX1_putTexts, .instanceMethod yX1_putTexts, .selects RX1 yX1_putTexts yX1_putTexts] ++ (u_ws RX8 TX8 10 ++ (u_ws RX1 TX1 13 ++ (ow_dm_J7_fill_031fb ++ (ow_dm_X1_putPlain ++ (ow_dm_X1_putGrown ++ (ow_dm_X1_putAddress ++ (ow_dm_X1_putNumber ++ (ow_dm_X1_putList ++ (ow_dm_X1_putTexts ++ []))))))))))
theorem gd_dm_X1_putAll : ∀ w ∈ ow_dm_X1_putAll, (w.onTables && w.keeps) = true ∨ ∃ ty, w = Cond.arrayClass ty := List.forall_mem_cons.mpr ⟨good_of_word rfl, List.forall_mem_append.mpr ⟨fun w h => good_of_word (List.all_eq_true.mp (by decide +kernel) w h), List.forall_mem_append.mpr ⟨gu_X8, List.forall_mem_append.mpr ⟨gu_X1, List.forall_mem_append.mpr ⟨gd_dm_J7_fill_031fb, List.forall_mem_append.mpr ⟨gd_dm_X1_putPlain, List.forall_mem_append.mpr ⟨gd_dm_X1_putGrown, List.forall_mem_append.mpr ⟨gd_dm_X1_putAddress, List.forall_mem_append.mpr ⟨gd_dm_X1_putNumber, List.forall_mem_append.mpr ⟨gd_dm_X1_putList, List.forall_mem_append.mpr ⟨gd_dm_X1_putTexts, fun _ h => nomatch h⟩⟩⟩⟩⟩⟩⟩⟩⟩⟩⟩
theorem hi_dm_X1_putAll_X8 : ∀ w ∈ u_ws RX8 TX8 10, w ∈ ow_dm_X1_putAll := fun w h => List.mem_cons_of_mem _ (List.mem_append_right _ (List.mem_append_left _ h))
theorem hi_dm_X1_putAll_X1 : ∀ w ∈ u_ws RX1 TX1 13, w ∈ ow_dm_X1_putAll := fun w h => List.mem_cons_of_mem _ (List.mem_append_right _ (List.mem_append_right _ (List.mem_append_left _ h)))
theorem gi_dm_X1_putAll_0 : GoodIn ow_dm_X1_putAll (va_wsS RX1 305 yJ7_fill_031fb ow_dm_J7_fill_031fb) := goodIn_app (goodIn_of _ (by decide +kernel)) (fun w h => ⟨List.mem_cons_of_mem _ (List.mem_append_right _ (List.mem_append_right _ (List.mem_append_right _ (List.mem_append_left _ h)))), gd_dm_J7_fill_031fb w h⟩)
theorem gi_dm_X1_putAll_1 : GoodIn ow_dm_X1_putAll (wsV RX1 311 RX1 yX1_putPlain ow_dm_X1_putPlain) := goodIn_app (goodIn_of _ (by decide +kernel)) (fun w h => ⟨List.mem_cons_of_mem _ (List.mem_append_right _ (List.mem_append_right _ (List.mem_append_right _ (List.mem_append_right _ (List.mem_append_left _ h))))), gd_dm_X1_putPlain w h⟩)
theorem gi_dm_X1_putAll_2 : GoodIn ow_dm_X1_putAll (wsV RX1 315 RX1 yX1_putGrown ow_dm_X1_putGrown) := goodIn_app (goodIn_of _ (by decide +kernel)) (fun w h => ⟨List.mem_cons_of_mem _ (List.mem_append_right _ (List.mem_append_right _ (List.mem_append_right _ (List.mem_append_right _ (List.mem_append_right _ (List.mem_append_left _ h)))))), gd_dm_X1_putGrown w h⟩)
theorem gi_dm_X1_putAll_3 : GoodIn ow_dm_X1_putAll (wsV RX1 318 RX1 yX1_putAddress ow_dm_X1_putAddress) := goodIn_app (goodIn_of _ (by decide +kernel)) (fun w h => ⟨List.mem_cons_of_mem _ (List.mem_append_right _ (List.mem_append_right _ (List.mem_append_right _ (List.mem_append_right _ (List.mem_append_right _ (List.mem_append_right _ (List.mem_append_left _ h))))))), gd_dm_X1_putAddress w h⟩)
theorem gi_dm_X1_putAll_4 : GoodIn ow_dm_X1_putAll (wsV RX1 321 RX1 yX1_putNumber ow_dm_X1_putNumber) := goodIn_app (goodIn_of _ (by decide +kernel)) (fun w h => ⟨List.mem_cons_of_mem _ (List.mem_append_right _ (List.mem_append_right _ (List.mem_append_right _ (List.mem_append_right _ (List.mem_append_right _ (List.mem_append_right _ (List.mem_append_right _ (List.mem_append_left _ h)))))))), gd_dm_X1_putNumber w h⟩)
theorem gi_dm_X1_putAll_5 : GoodIn ow_dm_X1_putAll (wsV RX1 324 RX1 yX1_putList ow_dm_X1_putList) := goodIn_app (goodIn_of _ (by decide +kernel)) (fun w h => ⟨List.mem_cons_of_mem _ (List.mem_append_right _ (List.mem_append_right _ (List.mem_append_right _ (List.mem_append_right _ (List.mem_append_right _ (List.mem_append_right _ (List.mem_append_right _ (List.mem_append_right _ (List.mem_append_left _ h))))))))), gd_dm_X1_putList w h⟩)
theorem gi_dm_X1_putAll_6 : GoodIn ow_dm_X1_putAll (wsV RX1 327 RX1 yX1_putTexts ow_dm_X1_putTexts) := goodIn_app (goodIn_of _ (by decide +kernel)) (fun w h => ⟨List.mem_cons_of_mem _ (List.mem_append_right _ (List.mem_append_right _ (List.mem_append_right _ (List.mem_append_right _ (List.mem_append_right _ (List.mem_append_right _ (List.mem_append_right _ (List.mem_append_right _ (List.mem_append_right _ (List.mem_append_left _ h)))))))))), gd_dm_X1_putTexts w h⟩)
def dj_X1_putAll_152 (p : Program) (l : Launch) (e : Env) (s : State) (m : MethodId) (args : Array Value) (below : List Frame) (meth : Method) (c : Code) (Q : State → Prop) (A : Nat → Prop) (dC : Nat → ClassId) (dI : Nat → Nat → Nat) (a : Nat → Nat) (ac : Nat → ClassId) (g : (St × (St × (St)) × (St)) → Option (St × (St × (St)) × (St))) (r : St × (St × (St)) × (St)) : Prop := ∀ (s0 : St × (St × (St)) × (St)) (H : Heap) (locs : List Loc) (ls : Array Slot), g s0 = some r → va_P (dC, dI) vwCl (dw_X1p a ac s0) H → va_D A (dw_X1p a ac s0) → va_S A s.heap H locs → lv_has ls 4 [] → W p l e (headSpec ow_dm_X1_putAll ({ frames := 5, cells := 0, slots := 0, locals := 114 })).room s m args below meth c H locs 0 0 Q (F0 m 152 ls [])
def dj_X1_putAll_146 (p : Program) (l : Launch) (e : Env) (s : State) (m : MethodId) (args : Array Value) (below : List Frame) (meth : Method) (c : Code) (Q : State → Prop) (A : Nat → Prop) (dC : Nat → ClassId) (dI : Nat → Nat → Nat) (a : Nat → Nat) (ac : Nat → ClassId) (g : Int32 → (St × (St × (St)) × (St)) → Option (St × (St × (St)) × (St))) (r : St × (St × (St)) × (St)) : Prop := ∀ (x2 : Int32) (s0 : St × (St × (St)) × (St)) (H : Heap) (locs : List Loc) (ls : Array Slot), g x2 s0 = some r → va_P (dC, dI) vwCl (dw_X1p a ac s0) H → va_D A (dw_X1p a ac s0) → va_S A s.heap H locs → lv_has ls 4 [(0, .ref (a 0)), (1, .ref (a 12)), (2, .int x2)] → W p l e (headSpec ow_dm_X1_putAll ({ frames := 5, cells := 0, slots := 0, locals := 114 })).room s m args below meth c H locs 0 0 Q (F0 m 146 ls [])
def dj_X1_putAll_101 (p : Program) (l : Launch) (e : Env) (s : State) (m : MethodId) (args : Array Value) (below : List Frame) (meth : Method) (c : Code) (Q : State → Prop) (A : Nat → Prop) (dC : Nat → ClassId) (dI : Nat → Nat → Nat) (a : Nat → Nat) (ac : Nat → ClassId) (g : Int32 → Int32 → (St × (St × (St)) × (St)) → Option (St × (St × (St)) × (St))) (r : St × (St × (St)) × (St)) : Prop := ∀ (x2 : Int32) (x3 : Int32) (s0 : St × (St × (St)) × (St)) (H : Heap) (locs : List Loc) (ls : Array Slot), g x2 x3 s0 = some r → va_P (dC, dI) vwCl (dw_X1p a ac s0) H → va_D A (dw_X1p a ac s0) → va_S A s.heap H locs → lv_has ls 4 [(0, .ref (a 0)), (1, .ref (a 12)), (2, .int x2), (3, .int x3)] → W p l e (headSpec ow_dm_X1_putAll ({ frames := 5, cells := 0, slots := 0, locals := 114 })).room s m args below meth c H locs 0 0 Q (F0 m 101 ls [])
def dj_X1_putAll_10 (p : Program) (l : Launch) (e : Env) (s : State) (m : MethodId) (args : Array Value) (below : List Frame) (meth : Method) (c : Code) (Q : State → Prop) (A : Nat → Prop) (dC : Nat → ClassId) (dI : Nat → Nat → Nat) (a : Nat → Nat) (ac : Nat → ClassId) (g : Int32 → (St × (St × (St)) × (St)) → Option (St × (St × (St)) × (St))) (r : St × (St × (St)) × (St)) : Prop := ∀ (x2 : Int32) (s0 : St × (St × (St)) × (St)) (H : Heap) (locs : List Loc) (ls : Array Slot), g x2 s0 = some r → va_P (dC, dI) vwCl (dw_X1p a ac s0) H → va_D A (dw_X1p a ac s0) → va_S A s.heap H locs → lv_has ls 4 [(0, .ref (a 0)), (1, .ref (a 12)), (2, .int x2)] → W p l e (headSpec ow_dm_X1_putAll ({ frames := 5, cells := 0, slots := 0, locals := 114 })).room s m args below meth c H locs 0 0 Q (F0 m 10 ls [])
def dj_X1_putAll_0 (p : Program) (l : Launch) (e : Env) (s : State) (m : MethodId) (args : Array Value) (below : List Frame) (meth : Method) (c : Code) (Q : State → Prop) (A : Nat → Prop) (dC : Nat → ClassId) (dI : Nat → Nat → Nat) (a : Nat → Nat) (ac : Nat → ClassId) (g : (St × (St × (St)) × (St)) → Option (St × (St × (St)) × (St))) (r : St × (St × (St)) × (St)) : Prop := ∀ (s0 : St × (St × (St)) × (St)) (H : Heap) (locs : List Loc) (ls : Array Slot), g s0 = some r → va_P (dC, dI) vwCl (dw_X1p a ac s0) H → va_D A (dw_X1p a ac s0) → va_S A s.heap H locs → lv_has ls 4 [(0, .ref (a 0)), (1, .ref (a 12))] → W p l e (headSpec ow_dm_X1_putAll ({ frames := 5, cells := 0, slots := 0, locals := 114 })).room s m args below meth c H locs 0 0 Q (F0 m 0 ls [])
set_option maxHeartbeats 40000000 in
set_option maxRecDepth 100000 in
theorem db_X1_putAll_152 {p : Program} {l : Launch} {e : Env} {s : State} {m : MethodId} {args : Array Value} {below : List Frame} {meth : Method} {c : Code} {Q : State → Prop} {A : Nat → Prop} {dC : Nat → ClassId} {dI : Nat → Nat → Nat} {a : Nat → Nat} {ac : Nat → ClassId} {n : Nat} {r : St × (St × (St)) × (St)} (C : nd_C p l s m args c A (dC, dI) cX1_putAll 4 RX1 ow_dm_X1_putAll (dk_X1p ac)) (K : nd_Kv p l e (headSpec ow_dm_X1_putAll ({ frames := 5, cells := 0, slots := 0, locals := 114 })).room s m args below meth c Q A (dC, dI) cX1_putAll (St × (St × (St)) × (St)) (dw_X1p a ac) r) : dj_X1_putAll_152 p l e s m args below meth c Q A dC dI a ac (df_X1_putAll_152 n) r := by
  obtain ⟨hlt, hx, hb, hml, hown, hts, hN, hA, hK⟩ := id C
  intro s0 H locs ls h hP hD hS hl
  unfold df_X1_putAll_152 at h
  exact K _ _ _ _ _ dX1_putAll_152 (Option.some.inj h).symm hP hD hS
set_option maxHeartbeats 40000000 in
set_option maxRecDepth 100000 in
theorem db_X1_putAll_146 {p : Program} {l : Launch} {e : Env} {s : State} {m : MethodId} {args : Array Value} {below : List Frame} {meth : Method} {c : Code} {Q : State → Prop} {A : Nat → Prop} {dC : Nat → ClassId} {dI : Nat → Nat → Nat} {a : Nat → Nat} {ac : Nat → ClassId} {n : Nat} {r : St × (St × (St)) × (St)} (C : nd_C p l s m args c A (dC, dI) cX1_putAll 4 RX1 ow_dm_X1_putAll (dk_X1p ac)) (K : nd_Kv p l e (headSpec ow_dm_X1_putAll ({ frames := 5, cells := 0, slots := 0, locals := 114 })).room s m args below meth c Q A (dC, dI) cX1_putAll (St × (St × (St)) × (St)) (dw_X1p a ac) r) {g10 : Int32 → (St × (St × (St)) × (St)) → Option (St × (St × (St)) × (St))} (J10 : dj_X1_putAll_10 p l e s m args below meth c Q A dC dI a ac g10 r) : dj_X1_putAll_146 p l e s m args below meth c Q A dC dI a ac (df_X1_putAll_146 n g10) r := by
  obtain ⟨hlt, hx, hb, hml, hown, hts, hN, hA, hK⟩ := id C
  intro x2 s0 H locs ls h hP hD hS hl
  unfold df_X1_putAll_146 at h
  obtain ⟨z12, ez12, h⟩ := nd_let_e h
  refine lv_iinc (v := z12) (lv' := [(2, .int z12), (0, .ref (a 0)), (1, .ref (a 12))]) hx hb dX1_putAll_146 hl (k := 2) rfl (by rw [ez12]) (by decide) rfl (fun ls hl => ?_)
  refine lv_goto (tgt := 10) hx hb dX1_putAll_149 (by decide) ?_
  exact (J10) (z12) s0 _ _ _ h hP hD hS (lv_sub hl [1, 2, 0] rfl)
set_option maxHeartbeats 40000000 in
set_option maxRecDepth 100000 in
theorem db_X1_putAll_101 {p : Program} {l : Launch} {e : Env} {s : State} {m : MethodId} {args : Array Value} {below : List Frame} {meth : Method} {c : Code} {Q : State → Prop} {A : Nat → Prop} {dC : Nat → ClassId} {dI : Nat → Nat → Nat} {a : Nat → Nat} {ac : Nat → ClassId} {n : Nat} {r : St × (St × (St)) × (St)} (C : nd_C p l s m args c A (dC, dI) cX1_putAll 4 RX1 ow_dm_X1_putAll (dk_X1p ac)) (K : nd_Kv p l e (headSpec ow_dm_X1_putAll ({ frames := 5, cells := 0, slots := 0, locals := 114 })).room s m args below meth c Q A (dC, dI) cX1_putAll (St × (St × (St)) × (St)) (dw_X1p a ac) r) {g10 : Int32 → (St × (St × (St)) × (St)) → Option (St × (St × (St)) × (St))} (J10 : dj_X1_putAll_10 p l e s m args below meth c Q A dC dI a ac g10 r) : dj_X1_putAll_101 p l e s m args below meth c Q A dC dI a ac (df_X1_putAll_101 n g10) r := by
  obtain ⟨hlt, hx, hb, hml, hown, hts, hN, hA, hK⟩ := id C
  intro x2 x3 s0 H locs ls h hP hD hS hl
  unfold df_X1_putAll_101 at h
  refine lv_aload_n hx hb dX1_putAll_101 rfl (lv_at hl 0 rfl) ?_
  refine lv_aload_n hx hb dX1_putAll_102 rfl (lv_at hl 1 rfl) ?_
  refine lv_iload_n hx hb dX1_putAll_103 rfl (lv_at hl 3 rfl) ?_
  obtain ⟨s15, hq, h⟩ := nd_b1_e h
  have hPc := hP
  have hDc := hD
  have hKc := hK
  have hFc := nd_rs hD hS hA
  refine nd_cVv (As := [.ref (a 12), .int x3]) (rest := []) (w' := dw_X1p a ac s15) ⟨hx, hb, hml, hown, hts⟩ (fun sz => dm_X1_putGrown l hlt dC dI a ac n (x3) s0 hq sz) (cwV 2 hts gi_dm_X1_putAll_2 rfl rfl rfl (by decide +kernel) ⟨Nat.le_of_ble_eq_true rfl, Nat.le_of_ble_eq_true rfl⟩) hPc hDc hKc hS hA hN (va_recv hKc hPc (ci := 2) (q0 := 0) rfl rfl) rfl hl.1 rfl (Nat.le_of_ble_eq_true rfl) dX1_putAll_104 (fun H locs hP1 hD1 hk1 hS => ?_)
  have hP := hP1
  have hD := hD1.weaken (fun k q _ h => hFc q.1 h)
  refine lv_goto (tgt := 146) hx hb dX1_putAll_107 (by decide) ?_
  exact (db_X1_putAll_146 C K J10) (x2) s15 _ _ _ h hP hD hS (lv_sub hl [0, 1, 2] rfl)
