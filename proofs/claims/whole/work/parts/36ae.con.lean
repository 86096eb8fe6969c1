set_option maxHeartbeats 40000000 in
set_option maxRecDepth 100000 in
theorem db_X19_process_0 {p : Program} {l : Launch} {e : Env} {s : State} {m : MethodId} {args : Array Value} {below : List Frame} {meth : Method} {c : Code} {Q : State → Prop} {A : Nat → Prop} {dC : Nat → ClassId} {dI : Nat → Nat → Nat} {a : Nat → Nat} {ac : Nat → ClassId} {n : Nat} {r : Int32 × (St × (St) × (St × (St × (St))) × (St) × (St))} (C : nd_C p l s m args c A (dC, dI) cX19_process 3 RX19 ow_dm_X19_process (dk_X19 ac)) (K : nd_Ki p l e (headSpec ow_dm_X19_process ({ frames := 11, cells := 0, slots := 0, locals := 245 })).room s m args below meth c Q A (dC, dI) cX19_process .int (St × (St) × (St × (St × (St))) × (St) × (St)) (dw_X19 a ac) r) : dj_X19_process_0 p l e s m args below meth c Q A dC dI a ac (df_X19_process_0 n) r := by
  obtain ⟨hlt, hx, hb, hml, hown, hts, hN, hA, hK⟩ := id C
  intro v0 v1 s0 H locs ls h hP hD hS hl
  unfold df_X19_process_0 at h
  refine lv_aload_n hx hb dX19_process_0 rfl (lv_at hl 0 rfl) ?_
  obtain ⟨q1, s2, hq, h⟩ := nd_b2_e h
  have hPc := hP
  have hDc := hD
  have hKc := hK
  have hFc := nd_rs hD hS hA
  refine nd_cVi (As := []) (rest := []) (q := q1) (w' := dw_X19 a ac s2) ⟨hx, hb, hml, hown, hts⟩ (fun sz => dm_X19_shows l hlt dC dI a ac n  s0 hq sz) (cwV 0 hts gi_dm_X19_process_0 rfl rfl rfl (by decide +kernel) ⟨Nat.le_of_ble_eq_true rfl, Nat.le_of_ble_eq_true rfl⟩) hPc hDc hKc hS hA hN (va_recv hKc hPc (ci := 20) (q0 := 0) rfl rfl) rfl hl.1 rfl (Nat.le_of_ble_eq_true rfl) dX19_process_1 (fun H locs hP1 hD1 hk1 hS => ?_)
  have hP := hP1
  have hD := hD1.weaken (fun k q _ h => hFc q.1 h)
  refine lv_if_eq (tgt := 31) hx hb dX19_process_4 (by decide) (fun c4 => ?_) (fun c4 => ?_)
  · have h := nd_pos h c4
    exact (db_X19_process_31 C K) (v1) s2 _ _ _ h hP hD hS (lv_sub hl [2] rfl)
  · have h := nd_neg h c4
    refine lv_iload_n hx hb dX19_process_7 rfl (lv_at hl 1 rfl) ?_
    refine lv_i2l hx hb dX19_process_8 rfl ?_
    refine lv_lconst (v := 0) hx hb dX19_process_9 (by decide) ?_
    refine lv_ldc2 hx hb hown (hts (.constantLong RX19 255 (15)) (List.mem_of_getElem? (i := 8) rfl)) dX19_process_10 ?_
    obtain ⟨q10, s11, hq, h⟩ := nd_b2_e h
    have hPc : va_P (dC, dI) vwCl (dw_P a ac ()) H := nd_p0
    have hDc : va_D A (dw_P a ac ()) := nd_d0
    have hKc : va_K (dC, dI) vwCl (dk_P ac) s := nd_y0 hK
    have hFc : ∀ q, va_A (dw_P a ac ()) H.size q → A q := nd_r0 hS hA
    refine nd_cSi (As := [.long (v0.toInt64), .long 0, .long 15]) (rest := []) (q := q10) (w' := dw_P a ac s11) ⟨hx, hb, hml, hown, hts⟩ (fun sz => dm_X19_in l hlt dC dI a ac n ((v0.toInt64)) (0) (15) () hq sz) (cwS 3 hts gi_dm_X19_process_1 rfl rfl rfl (by decide +kernel) ⟨Nat.le_of_ble_eq_true rfl, Nat.le_of_ble_eq_true rfl⟩) hPc hDc hKc hS hA hN rfl hl.1 rfl (Nat.le_of_ble_eq_true rfl) dX19_process_13 (fun H locs hP1 hD1 hk1 hS => ?_)
    have hP := nd_n0 hP hk1
    refine lv_if_eq (tgt := 31) hx hb dX19_process_16 (by decide) (fun c13 => ?_) (fun c13 => ?_)
    · have h := nd_pos h c13
      exact (db_X19_process_31 C K) (v1) s2 _ _ _ h hP hD hS (lv_sub hl [2] rfl)
    · have h := nd_neg h c13
      refine lv_aload_n hx hb dX19_process_19 rfl (lv_at hl 0 rfl) ?_
      refine va_get (D := (dC, dI)) (ci := 20) (v := .ref (a 44)) (C := RX19) (T := TX19) (N := 36) hx hb hts hi_dm_X19_process_X19 hown hK hP 0 rfl rfl 13 (by decide) (hts (.fieldLink RX19 58 "TimeMachineModel" "m" "LTimeMachineModel$Machine;") (List.mem_of_getElem? (i := 9) rfl)) (fun _ h9 => h9) rfl dX19_process_20 ?_
      refine lv_iload_n hx hb dX19_process_23 rfl (lv_at hl 1 rfl) ?_
      refine lv_iload_n hx hb dX19_process_24 rfl (lv_at hl 2 rfl) ?_
      obtain ⟨q14, s15, hq, h⟩ := nd_b2_e h
      have hPc := dp_X19_44 hP
      have hDc := dd_X19_44 hD
      have hKc := dy_X19_44 hK
      have hFc := nd_rs hDc hS hA
      have hzA : ∀ q : Nat, H.size ≤ q → A q := fun q h => hA q (Nat.le_trans hS.1 h)
      refine nd_cVi (As := [.int v0, .int v1]) (rest := []) (q := q14) (w' := dw_X16 (fun k => a (k + 44)) (fun k => ac (k + 44)) s15) ⟨hx, hb, hml, hown, hts⟩ (fun sz => dm_X16_process l hlt dC dI (fun k => a (k + 44)) (fun k => ac (k + 44)) n (v0) (v1) s2.2.2.1.2 hq sz) (cwV 2 hts gi_dm_X19_process_2 rfl rfl rfl (by decide +kernel) ⟨Nat.le_of_ble_eq_true rfl, Nat.le_of_ble_eq_true rfl⟩) hPc hDc hKc hS hA hN (va_recv hKc hPc (ci := 17) (q0 := 0) rfl rfl) rfl hl.1 rfl (Nat.le_of_ble_eq_true rfl) dX19_process_25 (fun H locs hP1 hD1 hk1 hS => ?_)
      obtain ⟨hP, hD⟩ := dn_X19_44 hP hD hzA hk1 hP1 hD1
      obtain ⟨s17, es17, h⟩ := nd_let_e h
      have hP : va_P (dC, dI) vwCl (dw_X19 a ac s17) H := by rw [es17]; exact hP
      have hD : va_D A (dw_X19 a ac s17) := by rw [es17]; exact hD
      refine lv_goto (tgt := 53) hx hb dX19_process_28 (by decide) ?_
      exact (db_X19_process_53 C K) (q14) s17 _ _ _ h hP hD hS (lv_sub hl [] rfl)
set_option maxHeartbeats 40000000 in
set_option maxRecDepth 100000 in
theorem dm_X19_process (l : Launch) (hlt : l.stackTraces = false) (dC : Nat → ClassId) (dI : Nat → Nat → Nat) (a : Nat → Nat) (ac : Nat → ClassId) (n : Nat) (v0 : Int32) (v1 : Int32) (s0 : St × (St) × (St × (St × (St))) × (St) × (St)) {r : Int32 × (St × (St) × (St × (St × (St))) × (St) × (St))} (h : df_X19_process n v0 v1 s0 = some r) (sz : Nat) : Met l yX19_process ow_dm_X19_process ({ frames := 11, cells := 0, slots := 0, locals := 245 }) (va_Pc [.ref (a 0), .int v0, .int v1] (fun U => U.heap.size = sz ∧ va_P (dC, dI) vwCl (dw_X19 a ac s0) U.heap ∧ va_K (dC, dI) vwCl (dk_X19 ac) U ∧ va_D (fun _ => True) (dw_X19 a ac s0) ∧ nv_E (va_A (dw_X19 a ac s0) sz) U)) (va_Qi (fun x _ => x = r.1) (fun (_ : Unit) t => va_P (dC, dI) vwCl (dw_X19 a ac r.2) t.heap ∧ va_K (dC, dI) vwCl (dk_X19 ac) t ∧ va_D (va_A (dw_X19 a ac s0) sz) (dw_X19 a ac r.2)) (va_A (dw_X19 a ac s0) sz)) 0 0 (va_A (dw_X19 a ac s0) sz) := by
  refine Met.ofW (cc := cX19_process) (maxL := 3) (ret := (some .int)) (by decide) rfl ?_
  intro p e s m args below meth c s₁ B hml hv
  obtain ⟨rfl, hsz, hP, hK, hD0, hN⟩ := hv
  have hx := B.exec
  have hb := B.bytes
  have hr := B.returns
  have hts := atoms_spec (ws := ow_dm_X19_process) B.pre
  have hown : s.vm.findClass RX19 = some m.cls := findClass_of_methodNamed B.named
  have hlocks := B.notSynchronized
  subst hsz
  have hD := hD0.self (sz := s.heap.size)
  generalize hAe : va_A (dw_X19 a ac s0) s.heap.size = A at hD hN ⊢
  have hA : ∀ q : Nat, s.heap.size ≤ q → A q := fun q h => by rw [← hAe]; exact Or.inr h
  have hl := lv_entry ([.ref (a 0), .int v0, .int v1]) (n := 3) (Nat.le_of_ble_eq_true rfl)
  rw [lg_entry_eq]
  generalize (lg_sl ([.ref (a 0), .int v0, .int v1]) ++ List.replicate (3 - (lg_sl ([.ref (a 0), .int v0, .int v1])).length) Slot.unset).toArray = ls at hl ⊢
  have hl : lv_has ls 3 [(0, .ref (a 0)), (1, .int v0), (2, .int v1)] := hl
  exact db_X19_process_0 (dC := dC) (dI := dI) (a := a) (ac := ac) (n := n) (r := r) ⟨hlt, hx, hb, hml, hown, hts, hN, hA, hK⟩ (fun pc v τ H locs ls d z er hP hD hS => by subst er; exact W.zret (v := v) hx hb hr z (fun t ht hW => ⟨⟨v, (), rfl, rfl, by rw [ht]; exact hP, va_K.moved hW.alike hK, hD⟩, hS.F ht⟩) hS.2.2 d) v0 v1 s0 _ _ _ h hP hD va_S.rf (lv_sub hl [0, 1, 2] rfl)
def ow_dm_X19_peek : List Cond := .code yX19_peek cX19_peek 3 (some .int) :: ([.methodLink RX19 315 yX19_shows, .instanceMethod yX19_shows, .selects RX19 yX19_shows yX19_shows, .initialized RX19, .constantLong RX19 255 (15), .methodLink RX19 126 yX19_in, .static yX19_in, .fieldLink RX19 58 "TimeMachineModel" "m" "LTimeMachineModel$Machine;", .methodLink RX19 327 yX16_peek, .instanceMethod yX16_peek, .selects RX16 yX16_peek yX16_peek, .initialized RX16] ++ (u_ws RX19 TX19 36 ++ (ow_dm_X19_shows ++ (ow_dm_X19_in ++ (ow_dm_X16_peek ++ [])))))
theorem gd_dm_X19_peek : ∀ w ∈ ow_dm_X19_peek, (w.onTables && w.keeps) = true ∨ ∃ ty, w = Cond.arrayClass ty := List.forall_mem_cons.mpr ⟨good_of_word rfl, List.forall_mem_append.mpr ⟨fun w h => good_of_word (List.all_eq_true.mp (by decide +kernel) w h), List.forall_mem_append.mpr ⟨gu_X19, List.forall_mem_append.mpr ⟨gd_dm_X19_shows, List.forall_mem_append.mpr ⟨gd_dm_X19_in, List.forall_mem_append.mpr ⟨gd_dm_X16_peek, fun _ h => nomatch h⟩⟩⟩⟩⟩⟩
theorem hi_dm_X19_peek_X19 : ∀ w ∈ u_ws RX19 TX19 36, w ∈ ow_dm_X19_peek := fun w h => List.mem_cons_of_mem _ (List.mem_append_right _ (List.mem_append_left _ h))
theorem gi_dm_X19_peek_0 : GoodIn ow_dm_X19_peek (wsV RX19 315 RX19 yX19_shows ow_dm_X19_shows) := goodIn_app (goodIn_of _ (by decide +kernel)) (fun w h => ⟨List.mem_cons_of_mem _ (List.mem_append_right _ (List.mem_append_right _ (List.mem_append_left _ h))), gd_dm_X19_shows w h⟩)
theorem gi_dm_X19_peek_1 : GoodIn ow_dm_X19_peek (wsS RX19 126 yX19_in ow_dm_X19_in) := goodIn_app (goodIn_of _ (by decide +kernel)) (fun w h => ⟨List.mem_cons_of_mem _ (List.mem_append_right _ (List.mem_append_right _ (List.mem_append_right _ (List.mem_append_left _ h)))), gd_dm_X19_in w h⟩)
theorem gi_dm_X19_peek_2 : GoodIn ow_dm_X19_peek (wsV RX19 327 RX16 yX16_peek ow_dm_X16_peek) := goodIn_app (goodIn_of _ (by decide +kernel)) (fun w h => ⟨List.mem_cons_of_mem _ (List.mem_append_right _ (List.mem_append_right _ (List.mem_append_right _ (List.mem_append_right _ (List.mem_append_left _ h))))), gd_dm_X16_peek w h⟩)
def dj_X19_peek_32 (p : Program) (l : Launch) (e : Env) (s : State) (m : MethodId) (args : Array Value) (below : List Frame) (meth : Method) (c : Code) (Q : State → Prop) (A : Nat → Prop) (dC : Nat → ClassId) (dI : Nat → Nat → Nat) (a : Nat → Nat) (ac : Nat → ClassId) (g : Int32 → (St × (St) × (St × (St × (St))) × (St) × (St)) → Option (Int32 × (St × (St) × (St × (St × (St))) × (St) × (St)))) (r : Int32 × (St × (St) × (St × (St × (St))) × (St) × (St))) : Prop := ∀ (y0 : Int32) (s0 : St × (St) × (St × (St × (St))) × (St) × (St)) (H : Heap) (locs : List Loc) (ls : Array Slot), g y0 s0 = some r → va_P (dC, dI) vwCl (dw_X19 a ac s0) H → va_D A (dw_X19 a ac s0) → va_S A s.heap H locs → lv_has ls 3 [] → W p l e (headSpec ow_dm_X19_peek ({ frames := 11, cells := 0, slots := 0, locals := 245 })).room s m args below meth c H locs 0 0 Q (F0 m 32 ls [.int y0])
def dj_X19_peek_31 (p : Program) (l : Launch) (e : Env) (s : State) (m : MethodId) (args : Array Value) (below : List Frame) (meth : Method) (c : Code) (Q : State → Prop) (A : Nat → Prop) (dC : Nat → ClassId) (dI : Nat → Nat → Nat) (a : Nat → Nat) (ac : Nat → ClassId) (g : (St × (St) × (St × (St × (St))) × (St) × (St)) → Option (Int32 × (St × (St) × (St × (St × (St))) × (St) × (St)))) (r : Int32 × (St × (St) × (St × (St × (St))) × (St) × (St))) : Prop := ∀ (s0 : St × (St) × (St × (St × (St))) × (St) × (St)) (H : Heap) (locs : List Loc) (ls : Array Slot), g s0 = some r → va_P (dC, dI) vwCl (dw_X19 a ac s0) H → va_D A (dw_X19 a ac s0) → va_S A s.heap H locs → lv_has ls 3 [] → W p l e (headSpec ow_dm_X19_peek ({ frames := 11, cells := 0, slots := 0, locals := 245 })).room s m args below meth c H locs 0 0 Q (F0 m 31 ls [])
def dj_X19_peek_0 (p : Program) (l : Launch) (e : Env) (s : State) (m : MethodId) (args : Array Value) (below : List Frame) (meth : Method) (c : Code) (Q : State → Prop) (A : Nat → Prop) (dC : Nat → ClassId) (dI : Nat → Nat → Nat) (a : Nat → Nat) (ac : Nat → ClassId) (g : Int32 → Int32 → (St × (St) × (St × (St × (St))) × (St) × (St)) → Option (Int32 × (St × (St) × (St × (St × (St))) × (St) × (St)))) (r : Int32 × (St × (St) × (St × (St × (St))) × (St) × (St))) : Prop := ∀ (v0 : Int32) (v1 : Int32) (s0 : St × (St) × (St × (St × (St))) × (St) × (St)) (H : Heap) (locs : List Loc) (ls : Array Slot), g v0 v1 s0 = some r → va_P (dC, dI) vwCl (dw_X19 a ac s0) H → va_D A (dw_X19 a ac s0) → va_S A s.heap H locs → lv_has ls 3 [(0, .ref (a 0)), (1, .int v0), (2, .int v1)] → W p l e (headSpec ow_dm_X19_peek ({ frames := 11, cells := 0, slots := 0, locals := 245 })).room s m args below meth c H locs 0 0 Q (F0 m 0 ls [])
set_option maxHeartbeats 40000000 in
set_option maxRecDepth 100000 in
theorem db_X19_peek_32 {p : Program} {l : Launch} {e : Env} {s : State} {m : MethodId} {args : Array Value} {below : List Frame} {meth : Method} {c : Code} {Q : State → Prop} {A : Nat → Prop} {dC : Nat → ClassId} {dI : Nat → Nat → Nat} {a : Nat → Nat} {ac : Nat → ClassId} {n : Nat} {r : Int32 × (St × (St) × (St × (St × (St))) × (St) × (St))} (C : nd_C p l s m args c A (dC, dI) cX19_peek 3 RX19 ow_dm_X19_peek (dk_X19 ac)) (K : nd_Ki p l e (headSpec ow_dm_X19_peek ({ frames := 11, cells := 0, slots := 0, locals := 245 })).room s m args below meth c Q A (dC, dI) cX19_peek .int (St × (St) × (St × (St × (St))) × (St) × (St)) (dw_X19 a ac) r) : dj_X19_peek_32 p l e s m args below meth c Q A dC dI a ac (df_X19_peek_32 n) r := by
  obtain ⟨hlt, hx, hb, hml, hown, hts, hN, hA, hK⟩ := id C
  intro y0 s0 H locs ls h hP hD hS hl
  unfold df_X19_peek_32 at h
  exact K _ _ _ _ _ _ dX19_peek_32 rfl (Option.some.inj h).symm hP hD hS
set_option maxHeartbeats 40000000 in
set_option maxRecDepth 100000 in
theorem db_X19_peek_31 {p : Program} {l : Launch} {e : Env} {s : State} {m : MethodId} {args : Array Value} {below : List Frame} {meth : Method} {c : Code} {Q : State → Prop} {A : Nat → Prop} {dC : Nat → ClassId} {dI : Nat → Nat → Nat} {a : Nat → Nat} {ac : Nat → ClassId} {n : Nat} {r : Int32 × (St × (St) × (St × (St × (St))) × (St) × (St))} (C : nd_C p l s m args c A (dC, dI) cX19_peek 3 RX19 ow_dm_X19_peek (dk_X19 ac)) (K : nd_Ki p l e (headSpec ow_dm_X19_peek ({ frames := 11, cells := 0, slots := 0, locals := 245 })).room s m args below meth c Q A (dC, dI) cX19_peek .int (St × (St) × (St × (St × (St))) × (St) × (St)) (dw_X19 a ac) r) : dj_X19_peek_31 p l e s m args below meth c Q A dC dI a ac (df_X19_peek_31 n) r := by
  obtain ⟨hlt, hx, hb, hml, hown, hts, hN, hA, hK⟩ := id C
  intro s0 H locs ls h hP hD hS hl
  unfold df_X19_peek_31 at h
  refine lv_iconst (v := (-1)) hx hb dX19_peek_31 (by decide) ?_
  exact (db_X19_peek_32 C K) ((-1)) s0 _ _ _ h hP hD hS (lv_sub hl [] rfl)
set_option maxHeartbeats 40000000 in
set_option maxRecDepth 100000 in
theorem db_X19_peek_0 {p : Program} {l : Launch} {e : Env} {s : State} {m : MethodId} {args : Array Value} {below : List Frame} {meth : Method} {c : Code} {Q : State → Prop} {A : Nat → Prop} {dC : Nat → ClassId} {dI : Nat → Nat → Nat} {a : Nat → Nat} {ac : Nat → ClassId} {n : Nat} {r : Int32 × (St × (St) × (St × (St × (St))) × (St) × (St))} (C : nd_C p l s m args c A (dC, dI) cX19_peek 3 RX19 ow_dm_X19_peek (dk_X19 ac)) (K : nd_Ki p l e (headSpec ow_dm_X19_peek ({ frames := 11, cells := 0, slots := 0, locals := 245 })).room s m args below meth c Q A (dC, dI) cX19_peek .int (St × (St) × (St × (St × (St))) × (St) × (St)) (dw_X19 a ac) r) : dj_X19_peek_0 p l e s m args below meth c Q A dC dI a ac (df_X19_peek_0 n) r := by
  obtain ⟨hlt, hx, hb, hml, hown, hts, hN, hA, hK⟩ := id C
  intro v0 v1 s0 H locs ls h hP hD hS hl
  unfold df_X19_peek_0 at h
  refine lv_aload_n hx hb dX19_peek_0 rfl (lv_at hl 0 rfl) ?_
  obtain ⟨q1, s2, hq, h⟩ := nd_b2_e h
  have hPc := hP
  have hDc := hD
  have hKc := hK
  have hFc := nd_rs hD hS hA
  refine nd_cVi (As := []) (rest := []) (q := q1) (w' := dw_X19 a ac s2) ⟨hx, hb, hml, hown, hts⟩ (fun sz => dm_X19_shows l hlt dC dI a ac n  s0 hq sz) (cwV 0 hts gi_dm_X19_peek_0 rfl rfl rfl (by decide +kernel) ⟨Nat.le_of_ble_eq_true rfl, Nat.le_of_ble_eq_true rfl⟩) hPc hDc hKc hS hA hN (va_recv hKc hPc (ci := 20) (q0 := 0) rfl rfl) rfl hl.1 rfl (Nat.le_of_ble_eq_true rfl) dX19_peek_1 (fun H locs hP1 hD1 hk1 hS => ?_)
  have hP := hP1
  have hD := hD1.weaken (fun k q _ h => hFc q.1 h)
  refine lv_if_eq (tgt := 31) hx hb dX19_peek_4 (by decide) (fun c4 => ?_) (fun c4 => ?_)
  · have h := nd_pos h c4
    exact (db_X19_peek_31 C K)  s2 _ _ _ h hP hD hS (lv_sub hl [] rfl)
  · have h := nd_neg h c4
    refine lv_iload_n hx hb dX19_peek_7 rfl (lv_at hl 1 rfl) ?_
    refine lv_i2l hx hb dX19_peek_8 rfl ?_
    refine lv_lconst (v := 0) hx hb dX19_peek_9 (by decide) ?_
    refine lv_ldc2 hx hb hown (hts (.constantLong RX19 255 (15)) (List.mem_of_getElem? (i := 5) rfl)) dX19_peek_10 ?_
    obtain ⟨q5, s6, hq, h⟩ := nd_b2_e h
    have hPc : va_P (dC, dI) vwCl (dw_P a ac ()) H := nd_p0
    have hDc : va_D A (dw_P a ac ()) := nd_d0
    have hKc : va_K (dC, dI) vwCl (dk_P ac) s := nd_y0 hK
    have hFc : ∀ q, va_A (dw_P a ac ()) H.size q → A q := nd_r0 hS hA
    refine nd_cSi (As := [.long (v0.toInt64), .long 0, .long 15]) (rest := []) (q := q5) (w' := dw_P a ac s6) ⟨hx, hb, hml, hown, hts⟩ (fun sz => dm_X19_in l hlt dC dI a ac n ((v0.toInt64)) (0) (15) () hq sz) (cwS 3 hts gi_dm_X19_peek_1 rfl rfl rfl (by decide +kernel) ⟨Nat.le_of_ble_eq_true rfl, Nat.le_of_ble_eq_true rfl⟩) hPc hDc hKc hS hA hN rfl hl.1 rfl (Nat.le_of_ble_eq_true rfl) dX19_peek_13 (fun H locs hP1 hD1 hk1 hS => ?_)
    have hP := nd_n0 hP hk1
    refine lv_if_eq (tgt := 31) hx hb dX19_peek_16 (by decide) (fun c8 => ?_) (fun c8 => ?_)
    · have h := nd_pos h c8
      exact (db_X19_peek_31 C K)  s2 _ _ _ h hP hD hS (lv_sub hl [] rfl)
    · have h := nd_neg h c8
      refine lv_aload_n hx hb dX19_peek_19 rfl (lv_at hl 0 rfl) ?_
      refine va_get (D := (dC, dI)) (ci := 20) (v := .ref (a 44)) (C := RX19) (T := TX19) (N := 36) hx hb hts hi_dm_X19_peek_X19 hown hK hP 0 rfl rfl 13 (by decide) (hts (.fieldLink RX19 58 "TimeMachineModel" "m" "LTimeMachineModel$Machine;") (List.mem_of_getElem? (i := 8) rfl)) (fun _ h9 => h9) rfl dX19_peek_20 ?_
      refine lv_iload_n hx hb dX19_peek_23 rfl (lv_at hl 1 rfl) ?_
      refine lv_iload_n hx hb dX19_peek_24 rfl (lv_at hl 2 rfl) ?_
      obtain ⟨q9, s10, hq, h⟩ := nd_b2_e h
      have hPc := dp_X19_44 hP
      have hDc := dd_X19_44 hD
      have hKc := dy_X19_44 hK
      have hFc := nd_rs hDc hS hA
      have hzA : ∀ q : Nat, H.size ≤ q → A q := fun q h => hA q (Nat.le_trans hS.1 h)
      refine nd_cVi (As := [.int v0, .int v1]) (rest := []) (q := q9) (w' := dw_X16 (fun k => a (k + 44)) (fun k => ac (k + 44)) s10) ⟨hx, hb, hml, hown, hts⟩ (fun sz => dm_X16_peek l hlt dC dI (fun k => a (k + 44)) (fun k => ac (k + 44)) n (v0) (v1) s2.2.2.1.2 hq sz) (cwV 2 hts gi_dm_X19_peek_2 rfl rfl rfl (by decide +kernel) ⟨Nat.le_of_ble_eq_true rfl, Nat.le_of_ble_eq_true rfl⟩) hPc hDc hKc hS hA hN (va_recv hKc hPc (ci := 17) (q0 := 0) rfl rfl) rfl hl.1 rfl (Nat.le_of_ble_eq_true rfl) dX19_peek_25 (fun H locs hP1 hD1 hk1 hS => ?_)
      obtain ⟨hP, hD⟩ := dn_X19_44 hP hD hzA hk1 hP1 hD1
      obtain ⟨s12, es12, h⟩ := nd_let_e h
      have hP : va_P (dC, dI) vwCl (dw_X19 a ac s12) H := by rw [es12]; exact hP
      have hD : va_D A (dw_X19 a ac s12) := by rw [es12]; exact hD
      refine lv_goto (tgt := 32) hx hb dX19_peek_28 (by decide) ?_
      exact (db_X19_peek_32 C K) (q9) s12 _ _ _ h hP hD hS (lv_sub hl [] rfl)
set_option maxHeartbeats 40000000 in
set_option maxRecDepth 100000 in
theorem dm_X19_peek (l : Launch) (hlt : l.stackTraces = false) (dC : Nat → ClassId) (dI : Nat → Nat → Nat) (a : Nat → Nat) (ac : Nat → ClassId) (n : Nat) (v0 : Int32) (v1 : Int32) (s0 : St × (St) × (St × (St × (St))) × (St) × (St)) {r : Int32 × (St × (St) × (St × (St × (St))) × (St) × (St))} (h : df_X19_peek n v0 v1 s0 = some r) (sz : Nat) : Met l yX19_peek ow_dm_X19_peek ({ frames := 11, cells := 0, slots := 0, locals := 245 }) (va_Pc [.ref (a 0), .int v0, .int v1] (fun U => U.heap.size = sz ∧ va_P (dC, dI) vwCl (dw_X19 a ac s0) U.heap ∧ va_K (dC, dI) vwCl (dk_X19 ac) U ∧ va_D (fun _ => True) (dw_X19 a ac s0) ∧ nv_E (va_A (dw_X19 a ac s0) sz) U)) (va_Qi (fun x _ => x = r.1) (fun (_ : Unit) t => va_P (dC, dI) vwCl (dw_X19 a ac r.2) t.heap ∧ va_K (dC, dI) vwCl (dk_X19 ac) t ∧ va_D (va_A (dw_X19 a ac s0) sz) (dw_X19 a ac r.2)) (va_A (dw_X19 a ac s0) sz)) 0 0 (va_A (dw_X19 a ac s0) sz) := by
  refine Met.ofW (cc := cX19_peek) (maxL := 3) (ret := (some .int)) (by decide) rfl ?_
  intro p e s m args below meth c s₁ B hml hv
  obtain ⟨rfl, hsz, hP, hK, hD0, hN⟩ := hv
  have hx := B.exec
  have hb := B.bytes
  have hr := B.returns
  have hts := atoms_spec (ws := ow_dm_X19_peek) B.pre
  have hown : s.vm.findClass RX19 = some m.cls := findClass_of_methodNamed B.named
  have hlocks := B.notSynchronized
  subst hsz
  have hD := hD0.self (sz := s.heap.size)
  generalize hAe : va_A (dw_X19 a ac s0) s.heap.size = A at hD hN ⊢
  have hA : ∀ q : Nat, s.heap.size ≤ q → A q := fun q h => by rw [← hAe]; exact Or.inr h
  have hl := lv_entry ([.ref (a 0), .int v0, .int v1]) (n := 3) (Nat.le_of_ble_eq_true rfl)
  rw [lg_entry_eq]
  generalize (lg_sl ([.ref (a 0), .int v0, .int v1]) ++ List.replicate (3 - (lg_sl ([.ref (a 0), .int v0, .int v1])).length) Slot.unset).toArray = ls at hl ⊢
  have hl : lv_has ls 3 [(0, .ref (a 0)), (1, .int v0), (2, .int v1)] := hl
  exact db_X19_peek_0 (dC := dC) (dI := dI) (a := a) (ac := ac) (n := n) (r := r) ⟨hlt, hx, hb, hml, hown, hts, hN, hA, hK⟩ (fun pc v τ H locs ls d z er hP hD hS => by subst er; exact W.zret (v := v) hx hb hr z (fun t ht hW => ⟨⟨v, (), rfl, rfl, by rw [ht]; exact hP, va_K.moved hW.alike hK, hD⟩, hS.F ht⟩) hS.2.2 d) v0 v1 s0 _ _ _ h hP hD va_S.rf (lv_sub hl [0, 1, 2] rfl)
def ow_dm_X19_text : List Cond := .code yX19_text cX19_text 7 (some .int) :: ([.methodLink RX19 315 yX19_shows, .instanceMethod yX19_shows, .selects RX19 yX19_shows yX19_shows, .initialized RX19, .constantLong RX19 255 (15), .methodLink RX19 126 yX19_in, .static yX19_in, .fieldLink RX19 58 "TimeMachineModel" "m" "LTimeMachineModel$Machine;", .methodLink RX19 330 yX16_instruction, .instanceMethod yX16_instruction, .selects RX16 yX16_instruction yX16_instruction, .initialized RX16, .fieldLink RX19 81 "TimeMachineModel" "reader" "LTimeMachineModel$Reader;", .methodLink RX19 334 yX18_read, .instanceMethod yX18_read, .selects RX18 yX18_read yX18_read, .initialized RX18, .methodLink RX19 337 yX18_letter, .instanceMethod yX18_letter, .selects RX18 yX18_letter yX18_letter] ++ (u_ws RX19 TX19 36 ++ (ow_dm_X19_shows ++ (ow_dm_X19_in ++ (ow_dm_X16_instruction ++ (ow_dm_X18_read ++ (ow_dm_X18_letter ++ [])))))))
theorem gd_dm_X19_text : ∀ w ∈ ow_dm_X19_text, (w.onTables && w.keeps) = true ∨ ∃ ty, w = Cond.arrayClass ty := List.forall_mem_cons.mpr ⟨good_of_word rfl, List.forall_mem_append.mpr ⟨fun w h => good_of_word (List.all_eq_true.mp (by decide +kernel) w h), List.forall_mem_append.mpr ⟨gu_X19, List.forall_mem_append.mpr ⟨gd_dm_X19_shows, List.forall_mem_append.mpr ⟨gd_dm_X19_in, List.forall_mem_append.mpr ⟨gd_dm_X16_instruction, List.forall_mem_append.mpr ⟨gd_dm_X18_read, List.forall_mem_append.mpr ⟨gd_dm_X18_letter, fun _ h => nomatch h⟩⟩⟩⟩⟩⟩⟩⟩
theorem hi_dm_X19_text_X19 : ∀ w ∈ u_ws RX19 TX19 36, w ∈ ow_dm_X19_text := fun w h => List.mem_cons_of_mem _ (List.mem_append_right _ (List.mem_append_left _ h))
theorem gi_dm_X19_text_0 : GoodIn ow_dm_X19_text (wsV RX19 315 RX19 yX19_shows ow_dm_X19_shows) := goodIn_app (goodIn_of _ (by decide +kernel)) (fun w h => ⟨List.mem_cons_of_mem _ (List.mem_append_right _ (List.mem_append_right _ (List.mem_append_left _ h))), gd_dm_X19_shows w h⟩)
theorem gi_dm_X19_text_1 : GoodIn ow_dm_X19_text (wsS RX19 126 yX19_in ow_dm_X19_in) := goodIn_app (goodIn_of _ (by decide +kernel)) (fun w h => ⟨List.mem_cons_of_mem _ (List.mem_append_right _ (List.mem_append_right _ (List.mem_append_right _ (List.mem_append_left _ h)))), gd_dm_X19_in w h⟩)
theorem gi_dm_X19_text_2 : GoodIn ow_dm_X19_text (wsV RX19 330 RX16 yX16_instruction ow_dm_X16_instruction) := goodIn_app (goodIn_of _ (by decide +kernel)) (fun w h => ⟨List.mem_cons_of_mem _ (List.mem_append_right _ (List.mem_append_right _ (List.mem_append_right _ (List.mem_append_right _ (List.mem_append_left _ h))))), gd_dm_X16_instruction w h⟩)
theorem gi_dm_X19_text_3 : GoodIn ow_dm_X19_text (wsV RX19 334 RX18 yX18_read ow_dm_X18_read) := goodIn_app (goodIn_of _ (by decide +kernel)) (fun w h => ⟨List.mem_cons_of_mem _ (List.mem_append_right _ (List.mem_append_right _ (List.mem_append_right _ (List.mem_append_right _ (List.mem_append_right _ (List.mem_append_left _ h)))))), gd_dm_X18_read w h⟩)
theorem gi_dm_X19_text_4 : GoodIn ow_dm_X19_text (wsV RX19 337 RX18 yX18_letter ow_dm_X18_letter) := goodIn_app (goodIn_of _ (by decide +kernel)) (fun w h => ⟨List.mem_cons_of_mem _ (List.mem_append_right _ (List.mem_append_right _ (List.mem_append_right _ (List.mem_append_right _ (List.mem_append_right _ (List.mem_append_right _ (List.mem_append_left _ h))))))), gd_dm_X18_letter w h⟩)
def dj_X19_text_26 (p : Program) (l : Launch) (e : Env) (s : State) (m : MethodId) (args : Array Value) (below : List Frame) (meth : Method) (c : Code) (Q : State → Prop) (A : Nat → Prop) (dC : Nat → ClassId) (dI : Nat → Nat → Nat) (a : Nat → Nat) (ac : Nat → ClassId) (g : (St × (St) × (St × (St × (St))) × (St) × (St)) → Option (Int32 × (St × (St) × (St × (St × (St))) × (St) × (St)))) (r : Int32 × (St × (St) × (St × (St × (St))) × (St) × (St))) : Prop := ∀ (s0 : St × (St) × (St × (St × (St))) × (St) × (St)) (H : Heap) (locs : List Loc) (ls : Array Slot), g s0 = some r → va_P (dC, dI) vwCl (dw_X19 a ac s0) H → va_D A (dw_X19 a ac s0) → va_S A s.heap H locs → lv_has ls 7 [] → W p l e (headSpec ow_dm_X19_text ({ frames := 11, cells := 0, slots := 0, locals := 245 })).room s m args below meth c H locs 0 0 Q (F0 m 26 ls [])
def dj_X19_text_82 (p : Program) (l : Launch) (e : Env) (s : State) (m : MethodId) (args : Array Value) (below : List Frame) (meth : Method) (c : Code) (Q : State → Prop) (A : Nat → Prop) (dC : Nat → ClassId) (dI : Nat → Nat → Nat) (a : Nat → Nat) (ac : Nat → ClassId) (g : Int32 → (St × (St) × (St × (St × (St))) × (St) × (St)) → Option (Int32 × (St × (St) × (St × (St × (St))) × (St) × (St)))) (r : Int32 × (St × (St) × (St × (St × (St))) × (St) × (St))) : Prop := ∀ (y0 : Int32) (s0 : St × (St) × (St × (St × (St))) × (St) × (St)) (H : Heap) (locs : List Loc) (ls : Array Slot), g y0 s0 = some r → va_P (dC, dI) vwCl (dw_X19 a ac s0) H → va_D A (dw_X19 a ac s0) → va_S A s.heap H locs → lv_has ls 7 [] → W p l e (headSpec ow_dm_X19_text ({ frames := 11, cells := 0, slots := 0, locals := 245 })).room s m args below meth c H locs 0 0 Q (F0 m 82 ls [.int y0])
def dj_X19_text_70 (p : Program) (l : Launch) (e : Env) (s : State) (m : MethodId) (args : Array Value) (below : List Frame) (meth : Method) (c : Code) (Q : State → Prop) (A : Nat → Prop) (dC : Nat → ClassId) (dI : Nat → Nat → Nat) (a : Nat → Nat) (ac : Nat → ClassId) (g : (St × (St) × (St × (St × (St))) × (St) × (St)) → Option (Int32 × (St × (St) × (St × (St × (St))) × (St) × (St)))) (r : Int32 × (St × (St) × (St × (St × (St))) × (St) × (St))) : Prop := ∀ (s0 : St × (St) × (St × (St × (St))) × (St) × (St)) (H : Heap) (locs : List Loc) (ls : Array Slot), g s0 = some r → va_P (dC, dI) vwCl (dw_X19 a ac s0) H → va_D A (dw_X19 a ac s0) → va_S A s.heap H locs → lv_has ls 7 [] → W p l e (headSpec ow_dm_X19_text ({ frames := 11, cells := 0, slots := 0, locals := 245 })).room s m args below meth c H locs 0 0 Q (F0 m 70 ls [])
def dj_X19_text_0 (p : Program) (l : Launch) (e : Env) (s : State) (m : MethodId) (args : Array Value) (below : List Frame) (meth : Method) (c : Code) (Q : State → Prop) (A : Nat → Prop) (dC : Nat → ClassId) (dI : Nat → Nat → Nat) (a : Nat → Nat) (ac : Nat → ClassId) (g : Int32 → Int32 → Int32 → (St × (St) × (St × (St × (St))) × (St) × (St)) → Option (Int32 × (St × (St) × (St × (St × (St))) × (St) × (St)))) (r : Int32 × (St × (St) × (St × (St × (St))) × (St) × (St))) : Prop := ∀ (v0 : Int32) (v1 : Int32) (v2 : Int32) (s0 : St × (St) × (St × (St × (St))) × (St) × (St)) (H : Heap) (locs : List Loc) (ls : Array Slot), g v0 v1 v2 s0 = some r → va_P (dC, dI) vwCl (dw_X19 a ac s0) H → va_D A (dw_X19 a ac s0) → va_S A s.heap H locs → lv_has ls 7 [(0, .ref (a 0)), (1, .int v0), (2, .int v1), (3, .int v2)] → W p l e (headSpec ow_dm_X19_text ({ frames := 11, cells := 0, slots := 0, locals := 245 })).room s m args below meth c H locs 0 0 Q (F0 m 0 ls [])
set_option maxHeartbeats 40000000 in
set_option maxRecDepth 100000 in
theorem db_X19_text_26 {p : Program} {l : Launch} {e : Env} {s : State} {m : MethodId} {args : Array Value} {below : List Frame} {meth : Method} {c : Code} {Q : State → Prop} {A : Nat → Prop} {dC : Nat → ClassId} {dI : Nat → Nat → Nat} {a : Nat → Nat} {ac : Nat → ClassId} {n : Nat} {r : Int32 × (St × (St) × (St × (St × (St))) × (St) × (St))} (C : nd_C p l s m args c A (dC, dI) cX19_text 7 RX19 ow_dm_X19_text (dk_X19 ac)) (K : nd_Ki p l e (headSpec ow_dm_X19_text ({ frames := 11, cells := 0, slots := 0, locals := 245 })).room s m args below meth c Q A (dC, dI) cX19_text .int (St × (St) × (St × (St × (St))) × (St) × (St)) (dw_X19 a ac) r) : dj_X19_text_26 p l e s m args below meth c Q A dC dI a ac (df_X19_text_26 n) r := by
  obtain ⟨hlt, hx, hb, hml, hown, hts, hN, hA, hK⟩ := id C
  intro s0 H locs ls h hP hD hS hl
  unfold df_X19_text_26 at h
  refine lv_iconst (v := (-1)) hx hb dX19_text_26 (by decide) ?_
  exact K _ _ _ _ _ _ dX19_text_27 rfl (Option.some.inj h).symm hP hD hS
set_option maxHeartbeats 40000000 in
set_option maxRecDepth 100000 in
theorem db_X19_text_82 {p : Program} {l : Launch} {e : Env} {s : State} {m : MethodId} {args : Array Value} {below : List Frame} {meth : Method} {c : Code} {Q : State → Prop} {A : Nat → Prop} {dC : Nat → ClassId} {dI : Nat → Nat → Nat} {a : Nat → Nat} {ac : Nat → ClassId} {n : Nat} {r : Int32 × (St × (St) × (St × (St × (St))) × (St) × (St))} (C : nd_C p l s m args c A (dC, dI) cX19_text 7 RX19 ow_dm_X19_text (dk_X19 ac)) (K : nd_Ki p l e (headSpec ow_dm_X19_text ({ frames := 11, cells := 0, slots := 0, locals := 245 })).room s m args below meth c Q A (dC, dI) cX19_text .int (St × (St) × (St × (St × (St))) × (St) × (St)) (dw_X19 a ac) r) : dj_X19_text_82 p l e s m args below meth c Q A dC dI a ac (df_X19_text_82 n) r := by
  obtain ⟨hlt, hx, hb, hml, hown, hts, hN, hA, hK⟩ := id C
  intro y0 s0 H locs ls h hP hD hS hl
  unfold df_X19_text_82 at h
  exact K _ _ _ _ _ _ dX19_text_82 rfl (Option.some.inj h).symm hP hD hS
set_option maxHeartbeats 40000000 in
set_option maxRecDepth 100000 in
theorem db_X19_text_70 {p : Program} {l : Launch} {e : Env} {s : State} {m : MethodId} {args : Array Value} {below : List Frame} {meth : Method} {c : Code} {Q : State → Prop} {A : Nat → Prop} {dC : Nat → ClassId} {dI : Nat → Nat → Nat} {a : Nat → Nat} {ac : Nat → ClassId} {n : Nat} {r : Int32 × (St × (St) × (St × (St × (St))) × (St) × (St))} (C : nd_C p l s m args c A (dC, dI) cX19_text 7 RX19 ow_dm_X19_text (dk_X19 ac)) (K : nd_Ki p l e (headSpec ow_dm_X19_text ({ frames := 11, cells := 0, slots := 0, locals := 245 })).room s m args below meth c Q A (dC, dI) cX19_text .int (St × (St) × (St × (St × (St))) × (St) × (St)) (dw_X19 a ac) r) : dj_X19_text_70 p l e s m args below meth c Q A dC dI a ac (df_X19_text_70 n) r := by
  obtain ⟨hlt, hx, hb, hml, hown, hts, hN, hA, hK⟩ := id C
  intro s0 H locs ls h hP hD hS hl
  unfold df_X19_text_70 at h
  refine lv_iconst (v := (-1)) hx hb dX19_text_70 (by decide) ?_
  refine lv_goto (tgt := 82) hx hb dX19_text_71 (by decide) ?_
  exact (db_X19_text_82 C K) ((-1)) s0 _ _ _ h hP hD hS (lv_sub hl [] rfl)
set_option maxHeartbeats 40000000 in
set_option maxRecDepth 100000 in
theorem db_X19_text_0 {p : Program} {l : Launch} {e : Env} {s : State} {m : MethodId} {args : Array Value} {below : List Frame} {meth : Method} {c : Code} {Q : State → Prop} {A : Nat → Prop} {dC : Nat → ClassId} {dI : Nat → Nat → Nat} {a : Nat → Nat} {ac : Nat → ClassId} {n : Nat} {r : Int32 × (St × (St) × (St × (St × (St))) × (St) × (St))} (C : nd_C p l s m args c A (dC, dI) cX19_text 7 RX19 ow_dm_X19_text (dk_X19 ac)) (K : nd_Ki p l e (headSpec ow_dm_X19_text ({ frames := 11, cells := 0, slots := 0, locals := 245 })).room s m args below meth c Q A (dC, dI) cX19_text .int (St × (St) × (St × (St × (St))) × (St) × (St)) (dw_X19 a ac) r) : dj_X19_text_0 p l e s m args below meth c Q A dC dI a ac (df_X19_text_0 n) r := by
  obtain ⟨hlt, hx, hb, hml, hown, hts, hN, hA, hK⟩ := id C
  intro v0 v1 v2 s0 H locs ls h hP hD hS hl
  unfold df_X19_text_0 at h
  refine lv_aload_n hx hb dX19_text_0 rfl (lv_at hl 0 rfl) ?_
  obtain ⟨q1, s2, hq, h⟩ := nd_b2_e h
  have hPc := hP
  have hDc := hD
  have hKc := hK
  have hFc := nd_rs hD hS hA
  refine nd_cVi (As := []) (rest := []) (q := q1) (w' := dw_X19 a ac s2) ⟨hx, hb, hml, hown, hts⟩ (fun sz => dm_X19_shows l hlt dC dI a ac n  s0 hq sz) (cwV 0 hts gi_dm_X19_text_0 rfl rfl rfl (by decide +kernel) ⟨Nat.le_of_ble_eq_true rfl, Nat.le_of_ble_eq_true rfl⟩) hPc hDc hKc hS hA hN (va_recv hKc hPc (ci := 20) (q0 := 0) rfl rfl) rfl hl.1 rfl (Nat.le_of_ble_eq_true rfl) dX19_text_1 (fun H locs hP1 hD1 hk1 hS => ?_)
  have hP := hP1
  have hD := hD1.weaken (fun k q _ h => hFc q.1 h)
  refine lv_if_eq (tgt := 26) hx hb dX19_text_4 (by decide) (fun c4 => ?_) (fun c4 => ?_)
  · have h := nd_pos h c4
    exact (db_X19_text_26 C K)  s2 _ _ _ h hP hD hS (lv_sub hl [] rfl)
  · have h := nd_neg h c4
    refine lv_iload_n hx hb dX19_text_7 rfl (lv_at hl 1 rfl) ?_
    refine lv_i2l hx hb dX19_text_8 rfl ?_
    refine lv_lconst (v := 0) hx hb dX19_text_9 (by decide) ?_
    refine lv_ldc2 hx hb hown (hts (.constantLong RX19 255 (15)) (List.mem_of_getElem? (i := 5) rfl)) dX19_text_10 ?_
    obtain ⟨q5, s6, hq, h⟩ := nd_b2_e h
    have hPc : va_P (dC, dI) vwCl (dw_P a ac ()) H := nd_p0
    have hDc : va_D A (dw_P a ac ()) := nd_d0
    have hKc : va_K (dC, dI) vwCl (dk_P ac) s := nd_y0 hK
    have hFc : ∀ q, va_A (dw_P a ac ()) H.size q → A q := nd_r0 hS hA
    refine nd_cSi (As := [.long (v0.toInt64), .long 0, .long 15]) (rest := []) (q := q5) (w' := dw_P a ac s6) ⟨hx, hb, hml, hown, hts⟩ (fun sz => dm_X19_in l hlt dC dI a ac n ((v0.toInt64)) (0) (15) () hq sz) (cwS 3 hts gi_dm_X19_text_1 rfl rfl rfl (by decide +kernel) ⟨Nat.le_of_ble_eq_true rfl, Nat.le_of_ble_eq_true rfl⟩) hPc hDc hKc hS hA hN rfl hl.1 rfl (Nat.le_of_ble_eq_true rfl) dX19_text_13 (fun H locs hP1 hD1 hk1 hS => ?_)
    have hP := nd_n0 hP hk1
    refine lv_if_eq (tgt := 26) hx hb dX19_text_16 (by decide) (fun c8 => ?_) (fun c8 => ?_)
    · have h := nd_pos h c8
      exact (db_X19_text_26 C K)  s2 _ _ _ h hP hD hS (lv_sub hl [] rfl)
    · have h := nd_neg h c8
      refine lv_iload_n hx hb dX19_text_19 rfl (lv_at hl 2 rfl) ?_
      refine lv_iconst (v := 1) hx hb dX19_text_20 (by decide) ?_
      refine lv_iand hx hb dX19_text_21 ?_
      refine lv_iconst (v := 1) hx hb dX19_text_22 (by decide) ?_
      refine lv_icmp_ne (tgt := 28) hx hb dX19_text_23 (by decide) (fun c9 => ?_) (fun c9 => ?_)
      · have h := nd_neg h c9
        refine lv_aload_n hx hb dX19_text_28 rfl (lv_at hl 0 rfl) ?_
        refine va_get (D := (dC, dI)) (ci := 20) (v := .ref (a 44)) (C := RX19) (T := TX19) (N := 36) hx hb hts hi_dm_X19_text_X19 hown hK hP 0 rfl rfl 13 (by decide) (hts (.fieldLink RX19 58 "TimeMachineModel" "m" "LTimeMachineModel$Machine;") (List.mem_of_getElem? (i := 8) rfl)) (fun _ h9 => h9) rfl dX19_text_29 ?_
        refine lv_iload_n hx hb dX19_text_32 rfl (lv_at hl 1 rfl) ?_
        refine lv_iload_n hx hb dX19_text_33 rfl (lv_at hl 2 rfl) ?_
        obtain ⟨q10, s11, hq, h⟩ := nd_b2_e h
        have hPc := dp_X19_44 hP
        have hDc := dd_X19_44 hD
        have hKc := dy_X19_44 hK
        have hFc := nd_rs hDc hS hA
        have hzA : ∀ q : Nat, H.size ≤ q → A q := fun q h => hA q (Nat.le_trans hS.1 h)
        refine nd_cVl (As := [.int v0, .int v1]) (rest := []) (q := q10) (w' := dw_X16 (fun k => a (k + 44)) (fun k => ac (k + 44)) s11) ⟨hx, hb, hml, hown, hts⟩ (fun sz => dm_X16_instruction l hlt dC dI (fun k => a (k + 44)) (fun k => ac (k + 44)) n (v0) (v1) s2.2.2.1.2 hq sz) (cwV 2 hts gi_dm_X19_text_2 rfl rfl rfl (by decide +kernel) ⟨Nat.le_of_ble_eq_true rfl, Nat.le_of_ble_eq_true rfl⟩) hPc hDc hKc hS hA hN (va_recv hKc hPc (ci := 17) (q0 := 0) rfl rfl) rfl hl.1 rfl (Nat.le_of_ble_eq_true rfl) dX19_text_34 (fun H locs hP1 hD1 hk1 hS => ?_)
        obtain ⟨hP, hD⟩ := dn_X19_44 hP hD hzA hk1 hP1 hD1
        obtain ⟨s13, es13, h⟩ := nd_let_e h
        have hP : va_P (dC, dI) vwCl (dw_X19 a ac s13) H := by rw [es13]; exact hP
        have hD : va_D A (dw_X19 a ac s13) := by rw [es13]; exact hD
        refine lv_lstore (lv' := [(4, .long q10), (0, .ref (a 0)), (1, .int v0), (2, .int v1), (3, .int v2)]) hx hb dX19_text_37 hl (by decide) rfl (fun ls hl => ?_)
        refine lv_lload hx hb dX19_text_39 (lv_at hl 0 rfl) ?_
        refine lv_lconst (v := 0) hx hb dX19_text_41 (by decide) ?_
        refine W.lcmp hx hb dX19_text_42 ?_
        refine lv_if_ge (tgt := 48) hx hb dX19_text_43 (by decide) (fun c14 => ?_) (fun c14 => ?_)
        · have h := nd_pos h c14
          refine lv_aload_n hx hb dX19_text_48 rfl (lv_at hl 1 rfl) ?_
          refine va_get (D := (dC, dI)) (ci := 20) (v := .ref (a 93)) (C := RX19) (T := TX19) (N := 36) hx hb hts hi_dm_X19_text_X19 hown hK hP 0 rfl rfl 16 (by decide) (hts (.fieldLink RX19 81 "TimeMachineModel" "reader" "LTimeMachineModel$Reader;") (List.mem_of_getElem? (i := 13) rfl)) (fun _ h9 => h9) rfl dX19_text_49 ?_
          refine lv_lload hx hb dX19_text_52 (lv_at hl 0 rfl) ?_
          refine lv_l2i hx hb dX19_text_54 rfl ?_
          obtain ⟨q15, s16, hq, h⟩ := nd_b2_e h
          have hPc := dp_X19_93 hP
          have hDc := dd_X19_93 hD
          have hKc := dy_X19_93 hK
          have hFc := nd_rs hDc hS hA
          have hzA : ∀ q : Nat, H.size ≤ q → A q := fun q h => hA q (Nat.le_trans hS.1 h)
          refine nd_cVi (As := [.int (q10.toInt32)]) (rest := []) (q := q15) (w' := dw_X18 (fun k => a (k + 93)) (fun k => ac (k + 93)) s16) ⟨hx, hb, hml, hown, hts⟩ (fun sz => dm_X18_read l hlt dC dI (fun k => a (k + 93)) (fun k => ac (k + 93)) n ((q10.toInt32)) s13.2.2.2.2 hq sz) (cwV 1 hts gi_dm_X19_text_3 rfl rfl rfl (by decide +kernel) ⟨Nat.le_of_ble_eq_true rfl, Nat.le_of_ble_eq_true rfl⟩) hPc hDc hKc hS hA hN (va_recv hKc hPc (ci := 19) (q0 := 0) rfl rfl) rfl hl.1 rfl (Nat.le_of_ble_eq_true rfl) dX19_text_55 (fun H locs hP1 hD1 hk1 hS => ?_)
          obtain ⟨hP, hD⟩ := dn_X19_93 hP hD hzA hk1 hP1 hD1
          obtain ⟨s18, es18, h⟩ := nd_let_e h
          have hP : va_P (dC, dI) vwCl (dw_X19 a ac s18) H := by rw [es18]; exact hP
          have hD : va_D A (dw_X19 a ac s18) := by rw [es18]; exact hD
          refine lv_istore (lv' := [(6, .int q15), (4, .long q10), (0, .ref (a 0)), (1, .int v0), (2, .int v1), (3, .int v2)]) hx hb dX19_text_58 hl (by decide) rfl (fun ls hl => ?_)
          refine lv_iload_n hx hb dX19_text_60 rfl (lv_at hl 5 rfl) ?_
          refine lv_if_lt (tgt := 70) hx hb dX19_text_61 (by decide) (fun c19 => ?_) (fun c19 => ?_)
          · have h := nd_pos h c19
            exact (db_X19_text_70 C K)  s18 _ _ _ h hP hD hS (lv_sub hl [] rfl)
          · have h := nd_neg h c19
            refine lv_iload_n hx hb dX19_text_64 rfl (lv_at hl 5 rfl) ?_
            refine lv_iload hx hb dX19_text_65 (lv_at hl 0 rfl) ?_
            refine lv_icmp_lt (tgt := 74) hx hb dX19_text_67 (by decide) (fun c20 => ?_) (fun c20 => ?_)
            · have h := nd_pos h c20
              refine lv_aload_n hx hb dX19_text_74 rfl (lv_at hl 2 rfl) ?_
              refine va_get (D := (dC, dI)) (ci := 20) (v := .ref (a 93)) (C := RX19) (T := TX19) (N := 36) hx hb hts hi_dm_X19_text_X19 hown hK hP 0 rfl rfl 16 (by decide) (hts (.fieldLink RX19 81 "TimeMachineModel" "reader" "LTimeMachineModel$Reader;") (List.mem_of_getElem? (i := 13) rfl)) (fun _ h9 => h9) rfl dX19_text_75 ?_
              refine lv_iload_n hx hb dX19_text_78 rfl (lv_at hl 5 rfl) ?_
              obtain ⟨q21, s22, hq, h⟩ := nd_b2_e h
              have hPc := dp_X19_93 hP
              have hDc := dd_X19_93 hD
              have hKc := dy_X19_93 hK
              have hFc := nd_rs hDc hS hA
              have hzA : ∀ q : Nat, H.size ≤ q → A q := fun q h => hA q (Nat.le_trans hS.1 h)
              refine nd_cVi (As := [.int v2]) (rest := []) (q := q21) (w' := dw_X18 (fun k => a (k + 93)) (fun k => ac (k + 93)) s22) ⟨hx, hb, hml, hown, hts⟩ (fun sz => dm_X18_letter l hlt dC dI (fun k => a (k + 93)) (fun k => ac (k + 93)) n (v2) s18.2.2.2.2 hq sz) (cwV 1 hts gi_dm_X19_text_4 rfl rfl rfl (by decide +kernel) ⟨Nat.le_of_ble_eq_true rfl, Nat.le_of_ble_eq_true rfl⟩) hPc hDc hKc hS hA hN (va_recv hKc hPc (ci := 19) (q0 := 0) rfl rfl) rfl hl.1 rfl (Nat.le_of_ble_eq_true rfl) dX19_text_79 (fun H locs hP1 hD1 hk1 hS => ?_)
              obtain ⟨hP, hD⟩ := dn_X19_93 hP hD hzA hk1 hP1 hD1
              obtain ⟨s24, es24, h⟩ := nd_let_e h
              have hP : va_P (dC, dI) vwCl (dw_X19 a ac s24) H := by rw [es24]; exact hP
              have hD : va_D A (dw_X19 a ac s24) := by rw [es24]; exact hD
              exact (db_X19_text_82 C K) (q21) s24 _ _ _ h hP hD hS (lv_sub hl [] rfl)
            · have h := nd_neg h c20
              exact (db_X19_text_70 C K)  s18 _ _ _ h hP hD hS (lv_sub hl [] rfl)
        · have h := nd_neg h c14
          refine lv_iconst (v := (-1)) hx hb dX19_text_46 (by decide) ?_
          exact K _ _ _ _ _ _ dX19_text_47 rfl (Option.some.inj h).symm hP hD hS
      · have h := nd_pos h c9
        exact (db_X19_text_26 C K)  s2 _ _ _ h hP hD hS (lv_sub hl [] rfl)
set_option maxHeartbeats 40000000 in
set_option maxRecDepth 100000 in
theorem dm_X19_text (l : Launch) (hlt : l.stackTraces = false) (dC : Nat → ClassId) (dI : Nat → Nat → Nat) (a : Nat → Nat) (ac : Nat → ClassId) (n : Nat) (v0 : Int32) (v1 : Int32) (v2 : Int32) (s0 : St × (St) × (St × (St × (St))) × (St) × (St)) {r : Int32 × (St × (St) × (St × (St × (St))) × (St) × (St))} (h : df_X19_text n v0 v1 v2 s0 = some r) (sz : Nat) : Met l yX19_text ow_dm_X19_text ({ frames := 11, cells := 0, slots := 0, locals := 245 }) (va_Pc [.ref (a 0), .int v0, .int v1, .int v2] (fun U => U.heap.size = sz ∧ va_P (dC, dI) vwCl (dw_X19 a ac s0) U.heap ∧ va_K (dC, dI) vwCl (dk_X19 ac) U ∧ va_D (fun _ => True) (dw_X19 a ac s0) ∧ nv_E (va_A (dw_X19 a ac s0) sz) U)) (va_Qi (fun x _ => x = r.1) (fun (_ : Unit) t => va_P (dC, dI) vwCl (dw_X19 a ac r.2) t.heap ∧ va_K (dC, dI) vwCl (dk_X19 ac) t ∧ va_D (va_A (dw_X19 a ac s0) sz) (dw_X19 a ac r.2)) (va_A (dw_X19 a ac s0) sz)) 0 0 (va_A (dw_X19 a ac s0) sz) := by
  refine Met.ofW (cc := cX19_text) (maxL := 7) (ret := (some .int)) (by decide) rfl ?_
  intro p e s m args below meth c s₁ B hml hv
  obtain ⟨rfl, hsz, hP, hK, hD0, hN⟩ := hv
  have hx := B.exec
  have hb := B.bytes
  have hr := B.returns
  have hts := atoms_spec (ws := ow_dm_X19_text) B.pre
  have hown : s.vm.findClass RX19 = some m.cls := findClass_of_methodNamed B.named
  have hlocks := B.notSynchronized
  subst hsz
  have hD := hD0.self (sz := s.heap.size)
  generalize hAe : va_A (dw_X19 a ac s0) s.heap.size = A at hD hN ⊢
  have hA : ∀ q : Nat, s.heap.size ≤ q → A q := fun q h => by rw [← hAe]; exact Or.inr h
  have hl := lv_entry ([.ref (a 0), .int v0, .int v1, .int v2]) (n := 7) (Nat.le_of_ble_eq_true rfl)
  rw [lg_entry_eq]
  generalize (lg_sl ([.ref (a 0), .int v0, .int v1, .int v2]) ++ List.replicate (7 - (lg_sl ([.ref (a 0), .int v0, .int v1, .int v2])).length) Slot.unset).toArray = ls at hl ⊢
  have hl : lv_has ls 7 [(0, .ref (a 0)), (1, .int v0), (2, .int v1), (3, .int v2)] := hl
  exact db_X19_text_0 (dC := dC) (dI := dI) (a := a) (ac := ac) (n := n) (r := r) ⟨hlt, hx, hb, hml, hown, hts, hN, hA, hK⟩ (fun pc v τ H locs ls d z er hP hD hS => by subst er; exact W.zret (v := v) hx hb hr z (fun t ht hW => ⟨⟨v, (), rfl, rfl, by rw [ht]; exact hP, va_K.moved hW.alike hK, hD⟩, hS.F ht⟩) hS.2.2 d) v0 v1 v2 s0 _ _ _ h hP hD va_S.rf (lv_sub hl [0, 1, 2, 3] rfl)
def ow_dm_X19_descriptor : List Cond := .code yX19_descriptor cX19_descriptor 4 (some .int) :: ([.methodLink RX19 315 yX19_shows, .instanceMethod yX19_shows, .selects RX19 yX19_shows yX19_shows, .initialized RX19, .constantLong RX19 255 (15), .methodLink RX19 126 yX19_in, .static yX19_in, .fieldLink RX19 58 "TimeMachineModel" "m" "LTimeMachineModel$Machine;", .methodLink RX19 340 yX16_descriptor, .instanceMethod yX16_descriptor, .selects RX16 yX16_descriptor yX16_descriptor, .initialized RX16] ++ (u_ws RX19 TX19 36 ++ (ow_dm_X19_shows ++ (ow_dm_X19_in ++ (ow_dm_X16_descriptor ++ [])))))
theorem gd_dm_X19_descriptor : ∀ w ∈ ow_dm_X19_descriptor, (w.onTables && w.keeps) = true ∨ ∃ ty, w = Cond.arrayClass ty := List.forall_mem_cons.mpr ⟨good_of_word rfl, List.forall_mem_append.mpr ⟨fun w h => good_of_word (List.all_eq_true.mp (by decide +kernel) w h), List.forall_mem_append.mpr ⟨gu_X19, List.forall_mem_append.mpr ⟨gd_dm_X19_shows, List.forall_mem_append.mpr ⟨gd_dm_X19_in, List.forall_mem_append.mpr ⟨gd_dm_X16_descriptor, fun _ h => nomatch h⟩⟩⟩⟩⟩⟩
theorem hi_dm_X19_descriptor_X19 : ∀ w ∈ u_ws RX19 TX19 36, w ∈ ow_dm_X19_descriptor := fun w h => List.mem_cons_of_mem _ (List.mem_append_right _ (List.mem_append_left _ h))
theorem gi_dm_X19_descriptor_0 : GoodIn ow_dm_X19_descriptor (wsV RX19 315 RX19 yX19_shows ow_dm_X19_shows) := goodIn_app (goodIn_of _ (by decide +kernel)) (fun w h => ⟨List.mem_cons_of_mem _ (List.mem_append_right _ (List.mem_append_right _ (List.mem_append_left _ h))), gd_dm_X19_shows w h⟩)
theorem gi_dm_X19_descriptor_1 : GoodIn ow_dm_X19_descriptor (wsS RX19 126 yX19_in ow_dm_X19_in) := goodIn_app (goodIn_of _ (by decide +kernel)) (fun w h => ⟨List.mem_cons_of_mem _ (List.mem_append_right _ (List.mem_append_right _ (List.mem_append_right _ (List.mem_append_left _ h)))), gd_dm_X19_in w h⟩)
theorem gi_dm_X19_descriptor_2 : GoodIn ow_dm_X19_descriptor (wsV RX19 340 RX16 yX16_descriptor ow_dm_X16_descriptor) := goodIn_app (goodIn_of _ (by decide +kernel)) (fun w h => ⟨List.mem_cons_of_mem _ (List.mem_append_right _ (List.mem_append_right _ (List.mem_append_right _ (List.mem_append_right _ (List.mem_append_left _ h))))), gd_dm_X16_descriptor w h⟩)
def dj_X19_descriptor_53 (p : Program) (l : Launch) (e : Env) (s : State) (m : MethodId) (args : Array Value) (below : List Frame) (meth : Method) (c : Code) (Q : State → Prop) (A : Nat → Prop) (dC : Nat → ClassId) (dI : Nat → Nat → Nat) (a : Nat → Nat) (ac : Nat → ClassId) (g : Int32 → (St × (St) × (St × (St × (St))) × (St) × (St)) → Option (Int32 × (St × (St) × (St × (St × (St))) × (St) × (St)))) (r : Int32 × (St × (St) × (St × (St × (St))) × (St) × (St))) : Prop := ∀ (y0 : Int32) (s0 : St × (St) × (St × (St × (St))) × (St) × (St)) (H : Heap) (locs : List Loc) (ls : Array Slot), g y0 s0 = some r → va_P (dC, dI) vwCl (dw_X19 a ac s0) H → va_D A (dw_X19 a ac s0) → va_S A s.heap H locs → lv_has ls 4 [] → W p l e (headSpec ow_dm_X19_descriptor ({ frames := 11, cells := 0, slots := 0, locals := 245 })).room s m args below meth c H locs 0 0 Q (F0 m 53 ls [.int y0])
def dj_X19_descriptor_52 (p : Program) (l : Launch) (e : Env) (s : State) (m : MethodId) (args : Array Value) (below : List Frame) (meth : Method) (c : Code) (Q : State → Prop) (A : Nat → Prop) (dC : Nat → ClassId) (dI : Nat → Nat → Nat) (a : Nat → Nat) (ac : Nat → ClassId) (g : (St × (St) × (St × (St × (St))) × (St) × (St)) → Option (Int32 × (St × (St) × (St × (St × (St))) × (St) × (St)))) (r : Int32 × (St × (St) × (St × (St × (St))) × (St) × (St))) : Prop := ∀ (s0 : St × (St) × (St × (St × (St))) × (St) × (St)) (H : Heap) (locs : List Loc) (ls : Array Slot), g s0 = some r → va_P (dC, dI) vwCl (dw_X19 a ac s0) H → va_D A (dw_X19 a ac s0) → va_S A s.heap H locs → lv_has ls 4 [] → W p l e (headSpec ow_dm_X19_descriptor ({ frames := 11, cells := 0, slots := 0, locals := 245 })).room s m args below meth c H locs 0 0 Q (F0 m 52 ls [])
def dj_X19_descriptor_32 (p : Program) (l : Launch) (e : Env) (s : State) (m : MethodId) (args : Array Value) (below : List Frame) (meth : Method) (c : Code) (Q : State → Prop) (A : Nat → Prop) (dC : Nat → ClassId) (dI : Nat → Nat → Nat) (a : Nat → Nat) (ac : Nat → ClassId) (g : Int32 → Int32 → (St × (St) × (St × (St × (St))) × (St) × (St)) → Option (Int32 × (St × (St) × (St × (St × (St))) × (St) × (St)))) (r : Int32 × (St × (St) × (St × (St × (St))) × (St) × (St))) : Prop := ∀ (x2 : Int32) (x3 : Int32) (s0 : St × (St) × (St × (St × (St))) × (St) × (St)) (H : Heap) (locs : List Loc) (ls : Array Slot), g x2 x3 s0 = some r → va_P (dC, dI) vwCl (dw_X19 a ac s0) H → va_D A (dw_X19 a ac s0) → va_S A s.heap H locs → lv_has ls 4 [(2, .int x2), (3, .int x3)] → W p l e (headSpec ow_dm_X19_descriptor ({ frames := 11, cells := 0, slots := 0, locals := 245 })).room s m args below meth c H locs 0 0 Q (F0 m 32 ls [])
def dj_X19_descriptor_0 (p : Program) (l : Launch) (e : Env) (s : State) (m : MethodId) (args : Array Value) (below : List Frame) (meth : Method) (c : Code) (Q : State → Prop) (A : Nat → Prop) (dC : Nat → ClassId) (dI : Nat → Nat → Nat) (a : Nat → Nat) (ac : Nat → ClassId) (g : Int32 → Int32 → Int32 → (St × (St) × (St × (St × (St))) × (St) × (St)) → Option (Int32 × (St × (St) × (St × (St × (St))) × (St) × (St)))) (r : Int32 × (St × (St) × (St × (St × (St))) × (St) × (St))) : Prop := ∀ (v0 : Int32) (v1 : Int32) (v2 : Int32) (s0 : St × (St) × (St × (St × (St))) × (St) × (St)) (H : Heap) (locs : List Loc) (ls : Array Slot), g v0 v1 v2 s0 = some r → va_P (dC, dI) vwCl (dw_X19 a ac s0) H → va_D A (dw_X19 a ac s0) → va_S A s.heap H locs → lv_has ls 4 [(0, .ref (a 0)), (1, .int v0), (2, .int v1), (3, .int v2)] → W p l e (headSpec ow_dm_X19_descriptor ({ frames := 11, cells := 0, slots := 0, locals := 245 })).room s m args below meth c H locs 0 0 Q (F0 m 0 ls [])
set_option maxHeartbeats 40000000 in
set_option maxRecDepth 100000 in
theorem db_X19_descriptor_53 {p : Program} {l : Launch} {e : Env} {s : State} {m : MethodId} {args : Array Value} {below : List Frame} {meth : Method} {c : Code} {Q : State → Prop} {A : Nat → Prop} {dC : Nat → ClassId} {dI : Nat → Nat → Nat} {a : Nat → Nat} {ac : Nat → ClassId} {n : Nat} {r : Int32 × (St × (St) × (St × (St × (St))) × (St) × (St))} (C : nd_C p l s m args c A (dC, dI) cX19_descriptor 4 RX19 ow_dm_X19_descriptor (dk_X19 ac)) (K : nd_Ki p l e (headSpec ow_dm_X19_descriptor ({ frames := 11, cells := 0, slots := 0, locals := 245 })).room s m args below meth c Q A (dC, dI) cX19_descriptor .int (St × (St) × (St × (St × (St))) × (St) × (St)) (dw_X19 a ac) r) : dj_X19_descriptor_53 p l e s m args below meth c Q A dC dI a ac (df_X19_descriptor_53 n) r := by
  obtain ⟨hlt, hx, hb, hml, hown, hts, hN, hA, hK⟩ := id C
  intro y0 s0 H locs ls h hP hD hS hl
  unfold df_X19_descriptor_53 at h
  exact K _ _ _ _ _ _ dX19_descriptor_53 rfl (Option.some.inj h).symm hP hD hS
set_option maxHeartbeats 40000000 in
set_option maxRecDepth 100000 in
theorem db_X19_descriptor_52 {p : Program} {l : Launch} {e : Env} {s : State} {m : MethodId} {args : Array Value} {below : List Frame} {meth : Method} {c : Code} {Q : State → Prop} {A : Nat → Prop} {dC : Nat → ClassId} {dI : Nat → Nat → Nat} {a : Nat → Nat} {ac : Nat → ClassId} {n : Nat} {r : Int32 × (St × (St) × (St × (St × (St))) × (St) × (St))} (C : nd_C p l s m args c A (dC, dI) cX19_descriptor 4 RX19 ow_dm_X19_descriptor (dk_X19 ac)) (K : nd_Ki p l e (headSpec ow_dm_X19_descriptor ({ frames := 11, cells := 0, slots := 0, locals := 245 })).room s m args below meth c Q A (dC, dI) cX19_descriptor .int (St × (St) × (St × (St × (St))) × (St) × (St)) (dw_X19 a ac) r) : dj_X19_descriptor_52 p l e s m args below meth c Q A dC dI a ac (df_X19_descriptor_52 n) r := by
  obtain ⟨hlt, hx, hb, hml, hown, hts, hN, hA, hK⟩ := id C
  intro s0 H locs ls h hP hD hS hl
  unfold df_X19_descriptor_52 at h
  refine lv_iconst (v := (-1)) hx hb dX19_descriptor_52 (by decide) ?_
  exact (db_X19_descriptor_53 C K) ((-1)) s0 _ _ _ h hP hD hS (lv_sub hl [] rfl)
set_option maxHeartbeats 40000000 in
set_option maxRecDepth 100000 in
theorem db_X19_descriptor_32 {p : Program} {l : Launch} {e : Env} {s : State} {m : MethodId} {args : Array Value} {below : List Frame} {meth : Method} {c : Code} {Q : State → Prop} {A : Nat → Prop} {dC : Nat → ClassId} {dI : Nat → Nat → Nat} {a : Nat → Nat} {ac : Nat → ClassId} {n : Nat} {r : Int32 × (St × (St) × (St × (St × (St))) × (St) × (St))} (C : nd_C p l s m args c A (dC, dI) cX19_descriptor 4 RX19 ow_dm_X19_descriptor (dk_X19 ac)) (K : nd_Ki p l e (headSpec ow_dm_X19_descriptor ({ frames := 11, cells := 0, slots := 0, locals := 245 })).room s m args below meth c Q A (dC, dI) cX19_descriptor .int (St × (St) × (St × (St × (St))) × (St) × (St)) (dw_X19 a ac) r) : dj_X19_descriptor_32 p l e s m args below meth c Q A dC dI a ac (df_X19_descriptor_32 n) r := by
  obtain ⟨hlt, hx, hb, hml, hown, hts, hN, hA, hK⟩ := id C
  intro x2 x3 s0 H locs ls h hP hD hS hl
  unfold df_X19_descriptor_32 at h
  refine lv_iload_n hx hb dX19_descriptor_32 rfl (lv_at hl 1 rfl) ?_
  refine lv_if_ne (tgt := 52) hx hb dX19_descriptor_33 (by decide) (fun c5 => ?_) (fun c5 => ?_)
  · have h := nd_neg h c5
    exact (db_X19_descriptor_52 C K)  s0 _ _ _ h hP hD hS (lv_sub hl [] rfl)
  · have h := nd_pos h c5
    refine lv_iload_n hx hb dX19_descriptor_36 rfl (lv_at hl 0 rfl) ?_
    refine lv_i2l hx hb dX19_descriptor_37 rfl ?_
    refine lv_lconst (v := 0) hx hb dX19_descriptor_38 (by decide) ?_
    refine lv_ldc2 hx hb hown (hts (.constantLong RX19 255 (15)) (List.mem_of_getElem? (i := 5) rfl)) dX19_descriptor_39 ?_
    obtain ⟨q6, s7, hq, h⟩ := nd_b2_e h
    have hPc : va_P (dC, dI) vwCl (dw_P a ac ()) H := nd_p0
    have hDc : va_D A (dw_P a ac ()) := nd_d0
    have hKc : va_K (dC, dI) vwCl (dk_P ac) s := nd_y0 hK
    have hFc : ∀ q, va_A (dw_P a ac ()) H.size q → A q := nd_r0 hS hA
    refine nd_cSi (As := [.long (x2.toInt64), .long 0, .long 15]) (rest := []) (q := q6) (w' := dw_P a ac s7) ⟨hx, hb, hml, hown, hts⟩ (fun sz => dm_X19_in l hlt dC dI a ac n ((x2.toInt64)) (0) (15) () hq sz) (cwS 3 hts gi_dm_X19_descriptor_1 rfl rfl rfl (by decide +kernel) ⟨Nat.le_of_ble_eq_true rfl, Nat.le_of_ble_eq_true rfl⟩) hPc hDc hKc hS hA hN rfl hl.1 rfl (Nat.le_of_ble_eq_true rfl) dX19_descriptor_42 (fun H locs hP1 hD1 hk1 hS => ?_)
    have hP := nd_n0 hP hk1
    refine lv_if_eq (tgt := 52) hx hb dX19_descriptor_45 (by decide) (fun c9 => ?_) (fun c9 => ?_)
    · have h := nd_pos h c9
      exact (db_X19_descriptor_52 C K)  s0 _ _ _ h hP hD hS (lv_sub hl [] rfl)
    · have h := nd_neg h c9
      refine lv_iconst (v := 0) hx hb dX19_descriptor_48 (by decide) ?_
      refine lv_goto (tgt := 53) hx hb dX19_descriptor_49 (by decide) ?_
      exact (db_X19_descriptor_53 C K) (0) s0 _ _ _ h hP hD hS (lv_sub hl [] rfl)
set_option maxHeartbeats 40000000 in
set_option maxRecDepth 100000 in
theorem db_X19_descriptor_0 {p : Program} {l : Launch} {e : Env} {s : State} {m : MethodId} {args : Array Value} {below : List Frame} {meth : Method} {c : Code} {Q : State → Prop} {A : Nat → Prop} {dC : Nat → ClassId} {dI : Nat → Nat → Nat} {a : Nat → Nat} {ac : Nat → ClassId} {n : Nat} {r : Int32 × (St × (St) × (St × (St × (St))) × (St) × (St))} (C : nd_C p l s m args c A (dC, dI) cX19_descriptor 4 RX19 ow_dm_X19_descriptor (dk_X19 ac)) (K : nd_Ki p l e (headSpec ow_dm_X19_descriptor ({ frames := 11, cells := 0, slots := 0, locals := 245 })).room s m args below meth c Q A (dC, dI) cX19_descriptor .int (St × (St) × (St × (St × (St))) × (St) × (St)) (dw_X19 a ac) r) : dj_X19_descriptor_0 p l e s m args below meth c Q A dC dI a ac (df_X19_descriptor_0 n) r := by
  obtain ⟨hlt, hx, hb, hml, hown, hts, hN, hA, hK⟩ := id C
  intro v0 v1 v2 s0 H locs ls h hP hD hS hl
  unfold df_X19_descriptor_0 at h
  refine lv_aload_n hx hb dX19_descriptor_0 rfl (lv_at hl 0 rfl) ?_
  obtain ⟨q1, s2, hq, h⟩ := nd_b2_e h
  have hPc := hP
  have hDc := hD
  have hKc := hK
  have hFc := nd_rs hD hS hA
  refine nd_cVi (As := []) (rest := []) (q := q1) (w' := dw_X19 a ac s2) ⟨hx, hb, hml, hown, hts⟩ (fun sz => dm_X19_shows l hlt dC dI a ac n  s0 hq sz) (cwV 0 hts gi_dm_X19_descriptor_0 rfl rfl rfl (by decide +kernel) ⟨Nat.le_of_ble_eq_true rfl, Nat.le_of_ble_eq_true rfl⟩) hPc hDc hKc hS hA hN (va_recv hKc hPc (ci := 20) (q0 := 0) rfl rfl) rfl hl.1 rfl (Nat.le_of_ble_eq_true rfl) dX19_descriptor_1 (fun H locs hP1 hD1 hk1 hS => ?_)
  have hP := hP1
  have hD := hD1.weaken (fun k q _ h => hFc q.1 h)
  refine lv_if_eq (tgt := 32) hx hb dX19_descriptor_4 (by decide) (fun c4 => ?_) (fun c4 => ?_)
  · have h := nd_pos h c4
    exact (db_X19_descriptor_32 C K) (v1) (v2) s2 _ _ _ h hP hD hS (lv_sub hl [2, 3] rfl)
  · have h := nd_neg h c4
    refine lv_iload_n hx hb dX19_descriptor_7 rfl (lv_at hl 1 rfl) ?_
    refine lv_i2l hx hb dX19_descriptor_8 rfl ?_
    refine lv_lconst (v := 0) hx hb dX19_descriptor_9 (by decide) ?_
    refine lv_ldc2 hx hb hown (hts (.constantLong RX19 255 (15)) (List.mem_of_getElem? (i := 5) rfl)) dX19_descriptor_10 ?_
    obtain ⟨q10, s11, hq, h⟩ := nd_b2_e h
    have hPc : va_P (dC, dI) vwCl (dw_P a ac ()) H := nd_p0
    have hDc : va_D A (dw_P a ac ()) := nd_d0
    have hKc : va_K (dC, dI) vwCl (dk_P ac) s := nd_y0 hK
    have hFc : ∀ q, va_A (dw_P a ac ()) H.size q → A q := nd_r0 hS hA
    refine nd_cSi (As := [.long (v0.toInt64), .long 0, .long 15]) (rest := []) (q := q10) (w' := dw_P a ac s11) ⟨hx, hb, hml, hown, hts⟩ (fun sz => dm_X19_in l hlt dC dI a ac n ((v0.toInt64)) (0) (15) () hq sz) (cwS 3 hts gi_dm_X19_descriptor_1 rfl rfl rfl (by decide +kernel) ⟨Nat.le_of_ble_eq_true rfl, Nat.le_of_ble_eq_true rfl⟩) hPc hDc hKc hS hA hN rfl hl.1 rfl (Nat.le_of_ble_eq_true rfl) dX19_descriptor_13 (fun H locs hP1 hD1 hk1 hS => ?_)
    have hP := nd_n0 hP hk1
    refine lv_if_eq (tgt := 32) hx hb dX19_descriptor_16 (by decide) (fun c13 => ?_) (fun c13 => ?_)
    · have h := nd_pos h c13
      exact (db_X19_descriptor_32 C K) (v1) (v2) s2 _ _ _ h hP hD hS (lv_sub hl [2, 3] rfl)
    · have h := nd_neg h c13
      refine lv_aload_n hx hb dX19_descriptor_19 rfl (lv_at hl 0 rfl) ?_
      refine va_get (D := (dC, dI)) (ci := 20) (v := .ref (a 44)) (C := RX19) (T := TX19) (N := 36) hx hb hts hi_dm_X19_descriptor_X19 hown hK hP 0 rfl rfl 13 (by decide) (hts (.fieldLink RX19 58 "TimeMachineModel" "m" "LTimeMachineModel$Machine;") (List.mem_of_getElem? (i := 8) rfl)) (fun _ h9 => h9) rfl dX19_descriptor_20 ?_
      refine lv_iload_n hx hb dX19_descriptor_23 rfl (lv_at hl 1 rfl) ?_
      refine lv_iload_n hx hb dX19_descriptor_24 rfl (lv_at hl 2 rfl) ?_
      refine lv_iload_n hx hb dX19_descriptor_25 rfl (lv_at hl 3 rfl) ?_
      obtain ⟨q14, s15, hq, h⟩ := nd_b2_e h
      have hPc := dp_X19_44 hP
      have hDc := dd_X19_44 hD
      have hKc := dy_X19_44 hK
      have hFc := nd_rs hDc hS hA
      have hzA : ∀ q : Nat, H.size ≤ q → A q := fun q h => hA q (Nat.le_trans hS.1 h)
      refine nd_cVi (As := [.int v0, .int v1, .int v2]) (rest := []) (q := q14) (w' := dw_X16 (fun k => a (k + 44)) (fun k => ac (k + 44)) s15) ⟨hx, hb, hml, hown, hts⟩ (fun sz => dm_X16_descriptor l hlt dC dI (fun k => a (k + 44)) (fun k => ac (k + 44)) n (v0) (v1) (v2) s2.2.2.1.2 hq sz) (cwV 3 hts gi_dm_X19_descriptor_2 rfl rfl rfl (by decide +kernel) ⟨Nat.le_of_ble_eq_true rfl, Nat.le_of_ble_eq_true rfl⟩) hPc hDc hKc hS hA hN (va_recv hKc hPc (ci := 17) (q0 := 0) rfl rfl) rfl hl.1 rfl (Nat.le_of_ble_eq_true rfl) dX19_descriptor_26 (fun H locs hP1 hD1 hk1 hS => ?_)
      obtain ⟨hP, hD⟩ := dn_X19_44 hP hD hzA hk1 hP1 hD1
      obtain ⟨s17, es17, h⟩ := nd_let_e h
      have hP : va_P (dC, dI) vwCl (dw_X19 a ac s17) H := by rw [es17]; exact hP
      have hD : va_D A (dw_X19 a ac s17) := by rw [es17]; exact hD
      refine lv_goto (tgt := 53) hx hb dX19_descriptor_29 (by decide) ?_
      exact (db_X19_descriptor_53 C K) (q14) s17 _ _ _ h hP hD hS (lv_sub hl [] rfl)
set_option maxHeartbeats 40000000 in
set_option maxRecDepth 100000 in
theorem dm_X19_descriptor (l : Launch) (hlt : l.stackTraces = false) (dC : Nat → ClassId) (dI : Nat → Nat → Nat) (a : Nat → Nat) (ac : Nat → ClassId) (n : Nat) (v0 : Int32) (v1 : Int32) (v2 : Int32) (s0 : St × (St) × (St × (St × (St))) × (St) × (St)) {r : Int32 × (St × (St) × (St × (St × (St))) × (St) × (St))} (h : df_X19_descriptor n v0 v1 v2 s0 = some r) (sz : Nat) : Met l yX19_descriptor ow_dm_X19_descriptor ({ frames := 11, cells := 0, slots := 0, locals := 245 }) (va_Pc [.ref (a 0), .int v0, .int v1, .int v2] (fun U => U.heap.size = sz ∧ va_P (dC, dI) vwCl (dw_X19 a ac s0) U.heap ∧ va_K (dC, dI) vwCl (dk_X19 ac) U ∧ va_D (fun _ => True) (dw_X19 a ac s0) ∧ nv_E (va_A (dw_X19 a ac s0) sz) U)) (va_Qi (fun x _ => x = r.1) (fun (_ : Unit) t => va_P (dC, dI) vwCl (dw_X19 a ac r.2) t.heap ∧ va_K (dC, dI) vwCl (dk_X19 ac) t ∧ va_D (va_A (dw_X19 a ac s0) sz) (dw_X19 a ac r.2)) (va_A (dw_X19 a ac s0) sz)) 0 0 (va_A (dw_X19 a ac s0) sz) := by
  refine Met.ofW (cc := cX19_descriptor) (maxL := 4) (ret := (some .int)) (by decide) rfl ?_
  intro p e s m args below meth c s₁ B hml hv
  obtain ⟨rfl, hsz, hP, hK, hD0, hN⟩ := hv
  have hx := B.exec
  have hb := B.bytes
  have hr := B.returns
  have hts := atoms_spec (ws := ow_dm_X19_descriptor) B.pre
  have hown : s.vm.findClass RX19 = some m.cls := findClass_of_methodNamed B.named
  have hlocks := B.notSynchronized
  subst hsz
  have hD := hD0.self (sz := s.heap.size)
  generalize hAe : va_A (dw_X19 a ac s0) s.heap.size = A at hD hN ⊢
  have hA : ∀ q : Nat, s.heap.size ≤ q → A q := fun q h => by rw [← hAe]; exact Or.inr h
  have hl := lv_entry ([.ref (a 0), .int v0, .int v1, .int v2]) (n := 4) (Nat.le_of_ble_eq_true rfl)
  rw [lg_entry_eq]
  generalize (lg_sl ([.ref (a 0), .int v0, .int v1, .int v2]) ++ List.replicate (4 - (lg_sl ([.ref (a 0), .int v0, .int v1, .int v2])).length) Slot.unset).toArray = ls at hl ⊢
  have hl : lv_has ls 4 [(0, .ref (a 0)), (1, .int v0), (2, .int v1), (3, .int v2)] := hl
  exact db_X19_descriptor_0 (dC := dC) (dI := dI) (a := a) (ac := ac) (n := n) (r := r) ⟨hlt, hx, hb, hml, hown, hts, hN, hA, hK⟩ (fun pc v τ H locs ls d z er hP hD hS => by subst er; exact W.zret (v := v) hx hb hr z (fun t ht hW => ⟨⟨v, (), rfl, rfl, by rw [ht]; exact hP, va_K.moved hW.alike hK, hD⟩, hS.F ht⟩) hS.2.2 d) v0 v1 v2 s0 _ _ _ h hP hD va_S.rf (lv_sub hl [0, 1, 2, 3] rfl)
def ow_dm_X19_held : List Cond := .code yX19_held cX19_held 4 (some .int) :: ([.methodLink RX19 315 yX19_shows, .instanceMethod yX19_shows, .selects RX19 yX19_shows yX19_shows, .initialized RX19, .constantLong RX19 255 (15), .methodLink RX19 126 yX19_in, .static yX19_in, .fieldLink RX19 58 "TimeMachineModel" "m" "LTimeMachineModel$Machine;", .methodLink RX19 344 yX16_heldByte, .instanceMethod yX16_heldByte, .selects RX16 yX16_heldByte yX16_heldByte, .initialized RX16] ++ (u_ws RX19 TX19 36 ++ (ow_dm_X19_shows ++ (ow_dm_X19_in ++ (ow_dm_X16_heldByte ++ [])))))
theorem gd_dm_X19_held : ∀ w ∈ ow_dm_X19_held, (w.onTables && w.keeps) = true ∨ ∃ ty, w = Cond.arrayClass ty := List.forall_mem_cons.mpr ⟨good_of_word rfl, List.forall_mem_append.mpr ⟨fun w h => good_of_word (List.all_eq_true.mp (by decide +kernel) w h), List.forall_mem_append.mpr ⟨gu_X19, List.forall_mem_append.mpr ⟨gd_dm_X19_shows, List.forall_mem_append.mpr ⟨gd_dm_X19_in, List.forall_mem_append.mpr ⟨gd_dm_X16_heldByte, fun _ h => nomatch h⟩⟩⟩⟩⟩⟩
theorem hi_dm_X19_held_X19 : ∀ w ∈ u_ws RX19 TX19 36, w ∈ ow_dm_X19_held := fun w h => List.mem_cons_of_mem _ (List.mem_append_right _ (List.mem_append_left _ h))
theorem gi_dm_X19_held_0 : GoodIn ow_dm_X19_held (wsV RX19 315 RX19 yX19_shows ow_dm_X19_shows) := goodIn_app (goodIn_of _ (by decide +kernel)) (fun w h => ⟨List.mem_cons_of_mem _ (List.mem_append_right _ (List.mem_append_right _ (List.mem_append_left _ h))), gd_dm_X19_shows w h⟩)
theorem gi_dm_X19_held_1 : GoodIn ow_dm_X19_held (wsS RX19 126 yX19_in ow_dm_X19_in) := goodIn_app (goodIn_of _ (by decide +kernel)) (fun w h => ⟨List.mem_cons_of_mem _ (List.mem_append_right _ (List.mem_append_right _ (List.mem_append_right _ (List.mem_append_left _ h)))), gd_dm_X19_in w h⟩)
theorem gi_dm_X19_held_2 : GoodIn ow_dm_X19_held (wsV RX19 344 RX16 yX16_heldByte ow_dm_X16_heldByte) := goodIn_app (goodIn_of _ (by decide +kernel)) (fun w h => ⟨List.mem_cons_of_mem _ (List.mem_append_right _ (List.mem_append_right _ (List.mem_append_right _ (List.mem_append_right _ (List.mem_append_left _ h))))), gd_dm_X16_heldByte w h⟩)
def dj_X19_held_33 (p : Program) (l : Launch) (e : Env) (s : State) (m : MethodId) (args : Array Value) (below : List Frame) (meth : Method) (c : Code) (Q : State → Prop) (A : Nat → Prop) (dC : Nat → ClassId) (dI : Nat → Nat → Nat) (a : Nat → Nat) (ac : Nat → ClassId) (g : Int32 → (St × (St) × (St × (St × (St))) × (St) × (St)) → Option (Int32 × (St × (St) × (St × (St × (St))) × (St) × (St)))) (r : Int32 × (St × (St) × (St × (St × (St))) × (St) × (St))) : Prop := ∀ (y0 : Int32) (s0 : St × (St) × (St × (St × (St))) × (St) × (St)) (H : Heap) (locs : List Loc) (ls : Array Slot), g y0 s0 = some r → va_P (dC, dI) vwCl (dw_X19 a ac s0) H → va_D A (dw_X19 a ac s0) → va_S A s.heap H locs → lv_has ls 4 [] → W p l e (headSpec ow_dm_X19_held ({ frames := 11, cells := 0, slots := 0, locals := 245 })).room s m args below meth c H locs 0 0 Q (F0 m 33 ls [.int y0])
def dj_X19_held_32 (p : Program) (l : Launch) (e : Env) (s : State) (m : MethodId) (args : Array Value) (below : List Frame) (meth : Method) (c : Code) (Q : State → Prop) (A : Nat → Prop) (dC : Nat → ClassId) (dI : Nat → Nat → Nat) (a : Nat → Nat) (ac : Nat → ClassId) (g : (St × (St) × (St × (St × (St))) × (St) × (St)) → Option (Int32 × (St × (St) × (St × (St × (St))) × (St) × (St)))) (r : Int32 × (St × (St) × (St × (St × (St))) × (St) × (St))) : Prop := ∀ (s0 : St × (St) × (St × (St × (St))) × (St) × (St)) (H : Heap) (locs : List Loc) (ls : Array Slot), g s0 = some r → va_P (dC, dI) vwCl (dw_X19 a ac s0) H → va_D A (dw_X19 a ac s0) → va_S A s.heap H locs → lv_has ls 4 [] → W p l e (headSpec ow_dm_X19_held ({ frames := 11, cells := 0, slots := 0, locals := 245 })).room s m args below meth c H locs 0 0 Q (F0 m 32 ls [])
def dj_X19_held_0 (p : Program) (l : Launch) (e : Env) (s : State) (m : MethodId) (args : Array Value) (below : List Frame) (meth : Method) (c : Code) (Q : State → Prop) (A : Nat → Prop) (dC : Nat → ClassId) (dI : Nat → Nat → Nat) (a : Nat → Nat) (ac : Nat → ClassId) (g : Int32 → Int32 → Int32 → (St × (St) × (St × (St × (St))) × (St) × (St)) → Option (Int32 × (St × (St) × (St × (St × (St))) × (St) × (St)))) (r : Int32 × (St × (St) × (St × (St × (St))) × (St) × (St))) : Prop := ∀ (v0 : Int32) (v1 : Int32) (v2 : Int32) (s0 : St × (St) × (St × (St × (St))) × (St) × (St)) (H : Heap) (locs : List Loc) (ls : Array Slot), g v0 v1 v2 s0 = some r → va_P (dC, dI) vwCl (dw_X19 a ac s0) H → va_D A (dw_X19 a ac s0) → va_S A s.heap H locs → lv_has ls 4 [(0, .ref (a 0)), (1, .int v0), (2, .int v1), (3, .int v2)] → W p l e (headSpec ow_dm_X19_held ({ frames := 11, cells := 0, slots := 0, locals := 245 })).room s m args below meth c H locs 0 0 Q (F0 m 0 ls [])
set_option maxHeartbeats 40000000 in
set_option maxRecDepth 100000 in
theorem db_X19_held_33 {p : Program} {l : Launch} {e : Env} {s : State} {m : MethodId} {args : Array Value} {below : List Frame} {meth : Method} {c : Code} {Q : State → Prop} {A : Nat → Prop} {dC : Nat → ClassId} {dI : Nat → Nat → Nat} {a : Nat → Nat} {ac : Nat → ClassId} {n : Nat} {r : Int32 × (St × (St) × (St × (St × (St))) × (St) × (St))} (C : nd_C p l s m args c A (dC, dI) cX19_held 4 RX19 ow_dm_X19_held (dk_X19 ac)) (K : nd_Ki p l e (headSpec ow_dm_X19_held ({ frames := 11, cells := 0, slots := 0, locals := 245 })).room s m args below meth c Q A (dC, dI) cX19_held .int (St × (St) × (St × (St × (St))) × (St) × (St)) (dw_X19 a ac) r) : dj_X19_held_33 p l e s m args below meth c Q A dC dI a ac (df_X19_held_33 n) r := by
  obtain ⟨hlt, hx, hb, hml, hown, hts, hN, hA, hK⟩ := id C
  intro y0 s0 H locs ls h hP hD hS hl
  unfold df_X19_held_33 at h
  exact K _ _ _ _ _ _ dX19_held_33 rfl (Option.some.inj h).symm hP hD hS
set_option maxHeartbeats 40000000 in
set_option maxRecDepth 100000 in
theorem db_X19_held_32 {p : Program} {l : Launch} {e : Env} {s : State} {m : MethodId} {args : Array Value} {below : List Frame} {meth : Method} {c : Code} {Q : State → Prop} {A : Nat → Prop} {dC : Nat → ClassId} {dI : Nat → Nat → Nat} {a : Nat → Nat} {ac : Nat → ClassId} {n : Nat} {r : Int32 × (St × (St) × (St × (St × (St))) × (St) × (St))} (C : nd_C p l s m args c A (dC, dI) cX19_held 4 RX19 ow_dm_X19_held (dk_X19 ac)) (K : nd_Ki p l e (headSpec ow_dm_X19_held ({ frames := 11, cells := 0, slots := 0, locals := 245 })).room s m args below meth c Q A (dC, dI) cX19_held .int (St × (St) × (St × (St × (St))) × (St) × (St)) (dw_X19 a ac) r) : dj_X19_held_32 p l e s m args below meth c Q A dC dI a ac (df_X19_held_32 n) r := by
  obtain ⟨hlt, hx, hb, hml, hown, hts, hN, hA, hK⟩ := id C
  intro s0 H locs ls h hP hD hS hl
  unfold df_X19_held_32 at h
  refine lv_iconst (v := (-1)) hx hb dX19_held_32 (by decide) ?_
  exact (db_X19_held_33 C K) ((-1)) s0 _ _ _ h hP hD hS (lv_sub hl [] rfl)
set_option maxHeartbeats 40000000 in
set_option maxRecDepth 100000 in
theorem db_X19_held_0 {p : Program} {l : Launch} {e : Env} {s : State} {m : MethodId} {args : Array Value} {below : List Frame} {meth : Method} {c : Code} {Q : State → Prop} {A : Nat → Prop} {dC : Nat → ClassId} {dI : Nat → Nat → Nat} {a : Nat → Nat} {ac : Nat → ClassId} {n : Nat} {r : Int32 × (St × (St) × (St × (St × (St))) × (St) × (St))} (C : nd_C p l s m args c A (dC, dI) cX19_held 4 RX19 ow_dm_X19_held (dk_X19 ac)) (K : nd_Ki p l e (headSpec ow_dm_X19_held ({ frames := 11, cells := 0, slots := 0, locals := 245 })).room s m args below meth c Q A (dC, dI) cX19_held .int (St × (St) × (St × (St × (St))) × (St) × (St)) (dw_X19 a ac) r) : dj_X19_held_0 p l e s m args below meth c Q A dC dI a ac (df_X19_held_0 n) r := by
  obtain ⟨hlt, hx, hb, hml, hown, hts, hN, hA, hK⟩ := id C
  intro v0 v1 v2 s0 H locs ls h hP hD hS hl
  unfold df_X19_held_0 at h
  refine lv_aload_n hx hb dX19_held_0 rfl (lv_at hl 0 rfl) ?_
  obtain ⟨q1, s2, hq, h⟩ := nd_b2_e h
  have hPc := hP
  have hDc := hD
  have hKc := hK
  have hFc := nd_rs hD hS hA
  refine nd_cVi (As := []) (rest := []) (q := q1) (w' := dw_X19 a ac s2) ⟨hx, hb, hml, hown, hts⟩ (fun sz => dm_X19_shows l hlt dC dI a ac n  s0 hq sz) (cwV 0 hts gi_dm_X19_held_0 rfl rfl rfl (by decide +kernel) ⟨Nat.le_of_ble_eq_true rfl, Nat.le_of_ble_eq_true rfl⟩) hPc hDc hKc hS hA hN (va_recv hKc hPc (ci := 20) (q0 := 0) rfl rfl) rfl hl.1 rfl (Nat.le_of_ble_eq_true rfl) dX19_held_1 (fun H locs hP1 hD1 hk1 hS => ?_)
  have hP := hP1
  have hD := hD1.weaken (fun k q _ h => hFc q.1 h)
  refine lv_if_eq (tgt := 32) hx hb dX19_held_4 (by decide) (fun c4 => ?_) (fun c4 => ?_)
  · have h := nd_pos h c4
    exact (db_X19_held_32 C K)  s2 _ _ _ h hP hD hS (lv_sub hl [] rfl)
  · have h := nd_neg h c4
    refine lv_iload_n hx hb dX19_held_7 rfl (lv_at hl 1 rfl) ?_
    refine lv_i2l hx hb dX19_held_8 rfl ?_
    refine lv_lconst (v := 0) hx hb dX19_held_9 (by decide) ?_
    refine lv_ldc2 hx hb hown (hts (.constantLong RX19 255 (15)) (List.mem_of_getElem? (i := 5) rfl)) dX19_held_10 ?_
    obtain ⟨q5, s6, hq, h⟩ := nd_b2_e h
    have hPc : va_P (dC, dI) vwCl (dw_P a ac ()) H := nd_p0
    have hDc : va_D A (dw_P a ac ()) := nd_d0
    have hKc : va_K (dC, dI) vwCl (dk_P ac) s := nd_y0 hK
    have hFc : ∀ q, va_A (dw_P a ac ()) H.size q → A q := nd_r0 hS hA
    refine nd_cSi (As := [.long (v0.toInt64), .long 0, .long 15]) (rest := []) (q := q5) (w' := dw_P a ac s6) ⟨hx, hb, hml, hown, hts⟩ (fun sz => dm_X19_in l hlt dC dI a ac n ((v0.toInt64)) (0) (15) () hq sz) (cwS 3 hts gi_dm_X19_held_1 rfl rfl rfl (by decide +kernel) ⟨Nat.le_of_ble_eq_true rfl, Nat.le_of_ble_eq_true rfl⟩) hPc hDc hKc hS hA hN rfl hl.1 rfl (Nat.le_of_ble_eq_true rfl) dX19_held_13 (fun H locs hP1 hD1 hk1 hS => ?_)
    have hP := nd_n0 hP hk1
    refine lv_if_eq (tgt := 32) hx hb dX19_held_16 (by decide) (fun c8 => ?_) (fun c8 => ?_)
    · have h := nd_pos h c8
      exact (db_X19_held_32 C K)  s2 _ _ _ h hP hD hS (lv_sub hl [] rfl)
    · have h := nd_neg h c8
      refine lv_aload_n hx hb dX19_held_19 rfl (lv_at hl 0 rfl) ?_
      refine va_get (D := (dC, dI)) (ci := 20) (v := .ref (a 44)) (C := RX19) (T := TX19) (N := 36) hx hb hts hi_dm_X19_held_X19 hown hK hP 0 rfl rfl 13 (by decide) (hts (.fieldLink RX19 58 "TimeMachineModel" "m" "LTimeMachineModel$Machine;") (List.mem_of_getElem? (i := 8) rfl)) (fun _ h9 => h9) rfl dX19_held_20 ?_
      refine lv_iload_n hx hb dX19_held_23 rfl (lv_at hl 1 rfl) ?_
      refine lv_iload_n hx hb dX19_held_24 rfl (lv_at hl 2 rfl) ?_
      refine lv_iload_n hx hb dX19_held_25 rfl (lv_at hl 3 rfl) ?_
      obtain ⟨q9, s10, hq, h⟩ := nd_b2_e h
      have hPc := dp_X19_44 hP
      have hDc := dd_X19_44 hD
      have hKc := dy_X19_44 hK
      have hFc := nd_rs hDc hS hA
      have hzA : ∀ q : Nat, H.size ≤ q → A q := fun q h => hA q (Nat.le_trans hS.1 h)
      refine nd_cVi (As := [.int v0, .int v1, .int v2]) (rest := []) (q := q9) (w' := dw_X16 (fun k => a (k + 44)) (fun k => ac (k + 44)) s10) ⟨hx, hb, hml, hown, hts⟩ (fun sz => dm_X16_heldByte l hlt dC dI (fun k => a (k + 44)) (fun k => ac (k + 44)) n (v0) (v1) (v2) s2.2.2.1.2 hq sz) (cwV 3 hts gi_dm_X19_held_2 rfl rfl rfl (by decide +kernel) ⟨Nat.le_of_ble_eq_true rfl, Nat.le_of_ble_eq_true rfl⟩) hPc hDc hKc hS hA hN (va_recv hKc hPc (ci := 17) (q0 := 0) rfl rfl) rfl hl.1 rfl (Nat.le_of_ble_eq_true rfl) dX19_held_26 (fun H locs hP1 hD1 hk1 hS => ?_)
      obtain ⟨hP, hD⟩ := dn_X19_44 hP hD hzA hk1 hP1 hD1
      obtain ⟨s12, es12, h⟩ := nd_let_e h
      have hP : va_P (dC, dI) vwCl (dw_X19 a ac s12) H := by rw [es12]; exact hP
      have hD : va_D A (dw_X19 a ac s12) := by rw [es12]; exact hD
      refine lv_goto (tgt := 33) hx hb dX19_held_29 (by decide) ?_
      exact (db_X19_held_33 C K) (q9) s12 _ _ _ h hP hD hS (lv_sub hl [] rfl)
set_option maxHeartbeats 40000000 in
set_option maxRecDepth 100000 in
theorem dm_X19_held (l : Launch) (hlt : l.stackTraces = false) (dC : Nat → ClassId) (dI : Nat → Nat → Nat) (a : Nat → Nat) (ac : Nat → ClassId) (n : Nat) (v0 : Int32) (v1 : Int32) (v2 : Int32) (s0 : St × (St) × (St × (St × (St))) × (St) × (St)) {r : Int32 × (St × (St) × (St × (St × (St))) × (St) × (St))} (h : df_X19_held n v0 v1 v2 s0 = some r) (sz : Nat) : Met l yX19_held ow_dm_X19_held ({ frames := 11, cells := 0, slots := 0, locals := 245 }) (va_Pc [.ref (a 0), .int v0, .int v1, .int v2] (fun U => U.heap.size = sz ∧ va_P (dC, dI) vwCl (dw_X19 a ac s0) U.heap ∧ va_K (dC, dI) vwCl (dk_X19 ac) U ∧ va_D (fun _ => True) (dw_X19 a ac s0) ∧ nv_E (va_A (dw_X19 a ac s0) sz) U)) (va_Qi (fun x _ => x = r.1) (fun (_ : Unit) t => va_P (dC, dI) vwCl (dw_X19 a ac r.2) t.heap ∧ va_K (dC, dI) vwCl (dk_X19 ac) t ∧ va_D (va_A (dw_X19 a ac s0) sz) (dw_X19 a ac r.2)) (va_A (dw_X19 a ac s0) sz)) 0 0 (va_A (dw_X19 a ac s0) sz) := by
  refine Met.ofW (cc := cX19_held) (maxL := 4) (ret := (some .int)) (by decide) rfl ?_
  intro p e s m args below meth c s₁ B hml hv
  obtain ⟨rfl, hsz, hP, hK, hD0, hN⟩ := hv
  have hx := B.exec
  have hb := B.bytes
  have hr := B.returns
  have hts := atoms_spec (ws := ow_dm_X19_held) B.pre
  have hown : s.vm.findClass RX19 = some m.cls := findClass_of_methodNamed B.named
  have hlocks := B.notSynchronized
  subst hsz
  have hD := hD0.self (sz := s.heap.size)
  generalize hAe : va_A (dw_X19 a ac s0) s.heap.size = A at hD hN ⊢
  have hA : ∀ q : Nat, s.heap.size ≤ q → A q := fun q h => by rw [← hAe]; exact Or.inr h
  have hl := lv_entry ([.ref (a 0), .int v0, .int v1, .int v2]) (n := 4) (Nat.le_of_ble_eq_true rfl)
  rw [lg_entry_eq]
  generalize (lg_sl ([.ref (a 0), .int v0, .int v1, .int v2]) ++ List.replicate (4 - (lg_sl ([.ref (a 0), .int v0, .int v1, .int v2])).length) Slot.unset).toArray = ls at hl ⊢
  have hl : lv_has ls 4 [(0, .ref (a 0)), (1, .int v0), (2, .int v1), (3, .int v2)] := hl
  exact db_X19_held_0 (dC := dC) (dI := dI) (a := a) (ac := ac) (n := n) (r := r) ⟨hlt, hx, hb, hml, hown, hts, hN, hA, hK⟩ (fun pc v τ H locs ls d z er hP hD hS => by subst er; exact W.zret (v := v) hx hb hr z (fun t ht hW => ⟨⟨v, (), rfl, rfl, by rw [ht]; exact hP, va_K.moved hW.alike hK, hD⟩, hS.F ht⟩) hS.2.2 d) v0 v1 v2 s0 _ _ _ h hP hD va_S.rf (lv_sub hl [0, 1, 2, 3] rfl)
def ow_dm_X19_shown : List Cond := .code yX19_shown cX19_shown 2 (some .int) :: ([.methodLink RX19 315 yX19_shows, .instanceMethod yX19_shows, .selects RX19 yX19_shows yX19_shows, .initialized RX19, .fieldLink RX19 58 "TimeMachineModel" "m" "LTimeMachineModel$Machine;", .methodLink RX19 347 yX16_shownByte, .instanceMethod yX16_shownByte, .selects RX16 yX16_shownByte yX16_shownByte, .initialized RX16] ++ (u_ws RX19 TX19 36 ++ (ow_dm_X19_shows ++ (ow_dm_X16_shownByte ++ []))))
theorem gd_dm_X19_shown : ∀ w ∈ ow_dm_X19_shown, (w.onTables && w.keeps) = true ∨ ∃ ty, w = Cond.arrayClass ty := List.forall_mem_cons.mpr ⟨good_of_word rfl, List.forall_mem_append.mpr ⟨fun w h => good_of_word (List.all_eq_true.mp (by decide +kernel) w h), List.forall_mem_append.mpr ⟨gu_X19, List.forall_mem_append.mpr ⟨gd_dm_X19_shows, List.forall_mem_append.mpr ⟨gd_dm_X16_shownByte, fun _ h => nomatch h⟩⟩⟩⟩⟩
theorem hi_dm_X19_shown_X19 : ∀ w ∈ u_ws RX19 TX19 36, w ∈ ow_dm_X19_shown := fun w h => List.mem_cons_of_mem _ (List.mem_append_right _ (List.mem_append_left _ h))
theorem gi_dm_X19_shown_0 : GoodIn ow_dm_X19_shown (wsV RX19 315 RX19 yX19_shows ow_dm_X19_shows) := goodIn_app (goodIn_of _ (by decide +kernel)) (fun w h => ⟨List.mem_cons_of_mem _ (List.mem_append_right _ (List.mem_append_right _ (List.mem_append_left _ h))), gd_dm_X19_shows w h⟩)
theorem gi_dm_X19_shown_1 : GoodIn ow_dm_X19_shown (wsV RX19 347 RX16 yX16_shownByte ow_dm_X16_shownByte) := goodIn_app (goodIn_of _ (by decide +kernel)) (fun w h => ⟨List.mem_cons_of_mem _ (List.mem_append_right _ (List.mem_append_right _ (List.mem_append_right _ (List.mem_append_left _ h)))), gd_dm_X16_shownByte w h⟩)
def dj_X19_shown_19 (p : Program) (l : Launch) (e : Env) (s : State) (m : MethodId) (args : Array Value) (below : List Frame) (meth : Method) (c : Code) (Q : State → Prop) (A : Nat → Prop) (dC : Nat → ClassId) (dI : Nat → Nat → Nat) (a : Nat → Nat) (ac : Nat → ClassId) (g : Int32 → (St × (St) × (St × (St × (St))) × (St) × (St)) → Option (Int32 × (St × (St) × (St × (St × (St))) × (St) × (St)))) (r : Int32 × (St × (St) × (St × (St × (St))) × (St) × (St))) : Prop := ∀ (y0 : Int32) (s0 : St × (St) × (St × (St × (St))) × (St) × (St)) (H : Heap) (locs : List Loc) (ls : Array Slot), g y0 s0 = some r → va_P (dC, dI) vwCl (dw_X19 a ac s0) H → va_D A (dw_X19 a ac s0) → va_S A s.heap H locs → lv_has ls 2 [] → W p l e (headSpec ow_dm_X19_shown ({ frames := 11, cells := 0, slots := 0, locals := 245 })).room s m args below meth c H locs 0 0 Q (F0 m 19 ls [.int y0])
def dj_X19_shown_0 (p : Program) (l : Launch) (e : Env) (s : State) (m : MethodId) (args : Array Value) (below : List Frame) (meth : Method) (c : Code) (Q : State → Prop) (A : Nat → Prop) (dC : Nat → ClassId) (dI : Nat → Nat → Nat) (a : Nat → Nat) (ac : Nat → ClassId) (g : Int32 → (St × (St) × (St × (St × (St))) × (St) × (St)) → Option (Int32 × (St × (St) × (St × (St × (St))) × (St) × (St)))) (r : Int32 × (St × (St) × (St × (St × (St))) × (St) × (St))) : Prop := ∀ (v0 : Int32) (s0 : St × (St) × (St × (St × (St))) × (St) × (St)) (H : Heap) (locs : List Loc) (ls : Array Slot), g v0 s0 = some r → va_P (dC, dI) vwCl (dw_X19 a ac s0) H → va_D A (dw_X19 a ac s0) → va_S A s.heap H locs → lv_has ls 2 [(0, .ref (a 0)), (1, .int v0)] → W p l e (headSpec ow_dm_X19_shown ({ frames := 11, cells := 0, slots := 0, locals := 245 })).room s m args below meth c H locs 0 0 Q (F0 m 0 ls [])
set_option maxHeartbeats 40000000 in
set_option maxRecDepth 100000 in
theorem db_X19_shown_19 {p : Program} {l : Launch} {e : Env} {s : State} {m : MethodId} {args : Array Value} {below : List Frame} {meth : Method} {c : Code} {Q : State → Prop} {A : Nat → Prop} {dC : Nat → ClassId} {dI : Nat → Nat → Nat} {a : Nat → Nat} {ac : Nat → ClassId} {n : Nat} {r : Int32 × (St × (St) × (St × (St × (St))) × (St) × (St))} (C : nd_C p l s m args c A (dC, dI) cX19_shown 2 RX19 ow_dm_X19_shown (dk_X19 ac)) (K : nd_Ki p l e (headSpec ow_dm_X19_shown ({ frames := 11, cells := 0, slots := 0, locals := 245 })).room s m args below meth c Q A (dC, dI) cX19_shown .int (St × (St) × (St × (St × (St))) × (St) × (St)) (dw_X19 a ac) r) : dj_X19_shown_19 p l e s m args below meth c Q A dC dI a ac (df_X19_shown_19 n) r := by
  obtain ⟨hlt, hx, hb, hml, hown, hts, hN, hA, hK⟩ := id C
  intro y0 s0 H locs ls h hP hD hS hl
  unfold df_X19_shown_19 at h
  exact K _ _ _ _ _ _ dX19_shown_19 rfl (Option.some.inj h).symm hP hD hS
set_option maxHeartbeats 40000000 in
set_option maxRecDepth 100000 in
theorem db_X19_shown_0 {p : Program} {l : Launch} {e : Env} {s : State} {m : MethodId} {args : Array Value} {below : List Frame} {meth : Method} {c : Code} {Q : State → Prop} {A : Nat → Prop} {dC : Nat → ClassId} {dI : Nat → Nat → Nat} {a : Nat → Nat} {ac : Nat → ClassId} {n : Nat} {r : Int32 × (St × (St) × (St × (St × (St))) × (St) × (St))} (C : nd_C p l s m args c A (dC, dI) cX19_shown 2 RX19 ow_dm_X19_shown (dk_X19 ac)) (K : nd_Ki p l e (headSpec ow_dm_X19_shown ({ frames := 11, cells := 0, slots := 0, locals := 245 })).room s m args below meth c Q A (dC, dI) cX19_shown .int (St × (St) × (St × (St × (St))) × (St) × (St)) (dw_X19 a ac) r) : dj_X19_shown_0 p l e s m args below meth c Q A dC dI a ac (df_X19_shown_0 n) r := by
  obtain ⟨hlt, hx, hb, hml, hown, hts, hN, hA, hK⟩ := id C
  intro v0 s0 H locs ls h hP hD hS hl
  unfold df_X19_shown_0 at h
  refine lv_aload_n hx hb dX19_shown_0 rfl (lv_at hl 0 rfl) ?_
  obtain ⟨q1, s2, hq, h⟩ := nd_b2_e h
  have hPc := hP
  have hDc := hD
  have hKc := hK
  have hFc := nd_rs hD hS hA
  refine nd_cVi (As := []) (rest := []) (q := q1) (w' := dw_X19 a ac s2) ⟨hx, hb, hml, hown, hts⟩ (fun sz => dm_X19_shows l hlt dC dI a ac n  s0 hq sz) (cwV 0 hts gi_dm_X19_shown_0 rfl rfl rfl (by decide +kernel) ⟨Nat.le_of_ble_eq_true rfl, Nat.le_of_ble_eq_true rfl⟩) hPc hDc hKc hS hA hN (va_recv hKc hPc (ci := 20) (q0 := 0) rfl rfl) rfl hl.1 rfl (Nat.le_of_ble_eq_true rfl) dX19_shown_1 (fun H locs hP1 hD1 hk1 hS => ?_)
  have hP := hP1
  have hD := hD1.weaken (fun k q _ h => hFc q.1 h)
  refine lv_if_eq (tgt := 18) hx hb dX19_shown_4 (by decide) (fun c4 => ?_) (fun c4 => ?_)
  · have h := nd_pos h c4
    refine lv_iconst (v := (-1)) hx hb dX19_shown_18 (by decide) ?_
    exact (db_X19_shown_19 C K) ((-1)) s2 _ _ _ h hP hD hS (lv_sub hl [] rfl)
  · have h := nd_neg h c4
    refine lv_aload_n hx hb dX19_shown_7 rfl (lv_at hl 0 rfl) ?_
    refine va_get (D := (dC, dI)) (ci := 20) (v := .ref (a 44)) (C := RX19) (T := TX19) (N := 36) hx hb hts hi_dm_X19_shown_X19 hown hK hP 0 rfl rfl 13 (by decide) (hts (.fieldLink RX19 58 "TimeMachineModel" "m" "LTimeMachineModel$Machine;") (List.mem_of_getElem? (i := 5) rfl)) (fun _ h9 => h9) rfl dX19_shown_8 ?_
    refine lv_iload_n hx hb dX19_shown_11 rfl (lv_at hl 1 rfl) ?_
    obtain ⟨q5, s6, hq, h⟩ := nd_b2_e h
    have hPc := dp_X19_44 hP
    have hDc := dd_X19_44 hD
    have hKc := dy_X19_44 hK
    have hFc := nd_rs hDc hS hA
    have hzA : ∀ q : Nat, H.size ≤ q → A q := fun q h => hA q (Nat.le_trans hS.1 h)
    refine nd_cVi (As := [.int v0]) (rest := []) (q := q5) (w' := dw_X16 (fun k => a (k + 44)) (fun k => ac (k + 44)) s6) ⟨hx, hb, hml, hown, hts⟩ (fun sz => dm_X16_shownByte l hlt dC dI (fun k => a (k + 44)) (fun k => ac (k + 44)) n (v0) s2.2.2.1.2 hq sz) (cwV 1 hts gi_dm_X19_shown_1 rfl rfl rfl (by decide +kernel) ⟨Nat.le_of_ble_eq_true rfl, Nat.le_of_ble_eq_true rfl⟩) hPc hDc hKc hS hA hN (va_recv hKc hPc (ci := 17) (q0 := 0) rfl rfl) rfl hl.1 rfl (Nat.le_of_ble_eq_true rfl) dX19_shown_12 (fun H locs hP1 hD1 hk1 hS => ?_)
    obtain ⟨hP, hD⟩ := dn_X19_44 hP hD hzA hk1 hP1 hD1
    obtain ⟨s8, es8, h⟩ := nd_let_e h
    have hP : va_P (dC, dI) vwCl (dw_X19 a ac s8) H := by rw [es8]; exact hP
    have hD : va_D A (dw_X19 a ac s8) := by rw [es8]; exact hD
    refine lv_goto (tgt := 19) hx hb dX19_shown_15 (by decide) ?_
    exact (db_X19_shown_19 C K) (q5) s8 _ _ _ h hP hD hS (lv_sub hl [] rfl)
set_option maxHeartbeats 40000000 in
set_option maxRecDepth 100000 in
theorem dm_X19_shown (l : Launch) (hlt : l.stackTraces = false) (dC : Nat → ClassId) (dI : Nat → Nat → Nat) (a : Nat → Nat) (ac : Nat → ClassId) (n : Nat) (v0 : Int32) (s0 : St × (St) × (St × (St × (St))) × (St) × (St)) {r : Int32 × (St × (St) × (St × (St × (St))) × (St) × (St))} (h : df_X19_shown n v0 s0 = some r) (sz : Nat) : Met l yX19_shown ow_dm_X19_shown ({ frames := 11, cells := 0, slots := 0, locals := 245 }) (va_Pc [.ref (a 0), .int v0] (fun U => U.heap.size = sz ∧ va_P (dC, dI) vwCl (dw_X19 a ac s0) U.heap ∧ va_K (dC, dI) vwCl (dk_X19 ac) U ∧ va_D (fun _ => True) (dw_X19 a ac s0) ∧ nv_E (va_A (dw_X19 a ac s0) sz) U)) (va_Qi (fun x _ => x = r.1) (fun (_ : Unit) t => va_P (dC, dI) vwCl (dw_X19 a ac r.2) t.heap ∧ va_K (dC, dI) vwCl (dk_X19 ac) t ∧ va_D (va_A (dw_X19 a ac s0) sz) (dw_X19 a ac r.2)) (va_A (dw_X19 a ac s0) sz)) 0 0 (va_A (dw_X19 a ac s0) sz) := by
  refine Met.ofW (cc := cX19_shown) (maxL := 2) (ret := (some .int)) (by decide) rfl ?_
  intro p e s m args below meth c s₁ B hml hv
  obtain ⟨rfl, hsz, hP, hK, hD0, hN⟩ := hv
  have hx := B.exec
  have hb := B.bytes
  have hr := B.returns
  have hts := atoms_spec (ws := ow_dm_X19_shown) B.pre
  have hown : s.vm.findClass RX19 = some m.cls := findClass_of_methodNamed B.named
  have hlocks := B.notSynchronized
  subst hsz
  have hD := hD0.self (sz := s.heap.size)
  generalize hAe : va_A (dw_X19 a ac s0) s.heap.size = A at hD hN ⊢
  have hA : ∀ q : Nat, s.heap.size ≤ q → A q := fun q h => by rw [← hAe]; exact Or.inr h
  have hl := lv_entry ([.ref (a 0), .int v0]) (n := 2) (Nat.le_of_ble_eq_true rfl)
  rw [lg_entry_eq]
  generalize (lg_sl ([.ref (a 0), .int v0]) ++ List.replicate (2 - (lg_sl ([.ref (a 0), .int v0])).length) Slot.unset).toArray = ls at hl ⊢
  have hl : lv_has ls 2 [(0, .ref (a 0)), (1, .int v0)] := hl
  exact db_X19_shown_0 (dC := dC) (dI := dI) (a := a) (ac := ac) (n := n) (r := r) ⟨hlt, hx, hb, hml, hown, hts, hN, hA, hK⟩ (fun pc v τ H locs ls d z er hP hD hS => by subst er; exact W.zret (v := v) hx hb hr z (fun t ht hW => ⟨⟨v, (), rfl, rfl, by rw [ht]; exact hP, va_K.moved hW.alike hK, hD⟩, hS.F ht⟩) hS.2.2 d) v0 s0 _ _ _ h hP hD va_S.rf (lv_sub hl [0, 1] rfl)
def ow_dm_X19_count : List Cond := .code yX19_count cX19_count 3 (some .long) :: ([.fieldLink RX19 113 "TimeMachineModel" "code" "I", .fieldLink RX19 67 "TimeMachineModel" "conditions" "LTimeMachineModel$Conditions;", .methodLink RX19 350 yX15_size, .instanceMethod yX15_size, .selects RX15 yX15_size yX15_size, .initialized RX15, .fieldLink RX19 117 "TimeMachineModel" "taped" "I", .methodLink RX19 315 yX19_shows, .instanceMethod yX19_shows, .selects RX19 yX19_shows yX19_shows, .initialized RX19, .fieldLink RX19 234 "TimeMachineModel" "now" "I", .fieldLink RX19 210 "TimeMachineModel" "end" "I", .constantLong RX19 354 (2), .constantLong RX19 352 (14), .methodLink RX19 126 yX19_in, .static yX19_in, .constantLong RX19 292 (-1), .fieldLink RX19 58 "TimeMachineModel" "m" "LTimeMachineModel$Machine;", .methodLink RX19 289 yX16_count, .instanceMethod yX16_count, .selects RX16 yX16_count yX16_count, .initialized RX16, .fieldLink RX19 192 "TimeMachineModel" "events" "I", .fieldLink RX19 91 "TimeMachineModel" "when" "[I", .fieldLink RX19 212 "TimeMachineModel" "scheduled" "I"] ++ (u_ws RX19 TX19 36 ++ (ow_dm_X15_size ++ (ow_dm_X19_shows ++ (ow_dm_X19_in ++ (ow_dm_X16_count ++ []))))))
theorem gd_dm_X19_count : ∀ w ∈ ow_dm_X19_count, (w.onTables && w.keeps) = true ∨ ∃ ty, w = Cond.arrayClass ty := List.forall_mem_cons.mpr ⟨good_of_word rfl, List.forall_mem_append.mpr ⟨fun w h => good_of_word (List.all_eq_true.mp (by decide +kernel) w h), List.forall_mem_append.mpr ⟨gu_X19, List.forall_mem_append.mpr ⟨gd_dm_X15_size, List.forall_mem_append.mpr ⟨gd_dm_X19_shows, List.forall_mem_append.mpr ⟨gd_dm_X19_in, List.forall_mem_append.mpr ⟨gd_dm_X16_count, fun _ h => nomatch h⟩⟩⟩⟩⟩⟩⟩
theorem hi_dm_X19_count_X19 : ∀ w ∈ u_ws RX19 TX19 36, w ∈ ow_dm_X19_count := fun w h => List.mem_cons_of_mem _ (List.mem_append_right _ (List.mem_append_left _ h))
theorem gi_dm_X19_count_0 : GoodIn ow_dm_X19_count (wsV RX19 350 RX15 yX15_size ow_dm_X15_size) := goodIn_app (goodIn_of _ (by decide +kernel)) (fun w h => ⟨List.mem_cons_of_mem _ (List.mem_append_right _ (List.mem_append_right _ (List.mem_append_left _ h))), gd_dm_X15_size w h⟩)
theorem gi_dm_X19_count_1 : GoodIn ow_dm_X19_count (wsV RX19 315 RX19 yX19_shows ow_dm_X19_shows) := goodIn_app (goodIn_of _ (by decide +kernel)) (fun w h => ⟨List.mem_cons_of_mem _ (List.mem_append_right _ (List.mem_append_right _ (List.mem_append_right _ (List.mem_append_left _ h)))), gd_dm_X19_shows w h⟩)
theorem gi_dm_X19_count_2 : GoodIn ow_dm_X19_count (wsS RX19 126 yX19_in ow_dm_X19_in) := goodIn_app (goodIn_of _ (by decide +kernel)) (fun w h => ⟨List.mem_cons_of_mem _ (List.mem_append_right _ (List.mem_append_right _ (List.mem_append_right _ (List.mem_append_right _ (List.mem_append_left _ h))))), gd_dm_X19_in w h⟩)
theorem gi_dm_X19_count_3 : GoodIn ow_dm_X19_count (wsV RX19 289 RX16 yX16_count ow_dm_X16_count) := goodIn_app (goodIn_of _ (by decide +kernel)) (fun w h => ⟨List.mem_cons_of_mem _ (List.mem_append_right _ (List.mem_append_right _ (List.mem_append_right _ (List.mem_append_right _ (List.mem_append_right _ (List.mem_append_left _ h)))))), gd_dm_X16_count w h⟩)
def dj_X19_count_39 (p : Program) (l : Launch) (e : Env) (s : State) (m : MethodId) (args : Array Value) (below : List Frame) (meth : Method) (c : Code) (Q : State → Prop) (A : Nat → Prop) (dC : Nat → ClassId) (dI : Nat → Nat → Nat) (a : Nat → Nat) (ac : Nat → ClassId) (g : Int64 → (St × (St) × (St × (St × (St))) × (St) × (St)) → Option (Int64 × (St × (St) × (St × (St × (St))) × (St) × (St)))) (r : Int64 × (St × (St) × (St × (St × (St))) × (St) × (St))) : Prop := ∀ (y0 : Int64) (s0 : St × (St) × (St × (St × (St))) × (St) × (St)) (H : Heap) (locs : List Loc) (ls : Array Slot), g y0 s0 = some r → va_P (dC, dI) vwCl (dw_X19 a ac s0) H → va_D A (dw_X19 a ac s0) → va_S A s.heap H locs → lv_has ls 3 [] → W p l e (headSpec ow_dm_X19_count ({ frames := 11, cells := 0, slots := 0, locals := 245 })).room s m args below meth c H locs 0 0 Q (F0 m 39 ls [.long y0])
def dj_X19_count_12 (p : Program) (l : Launch) (e : Env) (s : State) (m : MethodId) (args : Array Value) (below : List Frame) (meth : Method) (c : Code) (Q : State → Prop) (A : Nat → Prop) (dC : Nat → ClassId) (dI : Nat → Nat → Nat) (a : Nat → Nat) (ac : Nat → ClassId) (g : Int32 → (St × (St) × (St × (St × (St))) × (St) × (St)) → Option (Int64 × (St × (St) × (St × (St × (St))) × (St) × (St)))) (r : Int64 × (St × (St) × (St × (St × (St))) × (St) × (St))) : Prop := ∀ (x1 : Int32) (s0 : St × (St) × (St × (St × (St))) × (St) × (St)) (H : Heap) (locs : List Loc) (ls : Array Slot), g x1 s0 = some r → va_P (dC, dI) vwCl (dw_X19 a ac s0) H → va_D A (dw_X19 a ac s0) → va_S A s.heap H locs → lv_has ls 3 [(0, .ref (a 0)), (1, .int x1)] → W p l e (headSpec ow_dm_X19_count ({ frames := 11, cells := 0, slots := 0, locals := 245 })).room s m args below meth c H locs 0 0 Q (F0 m 12 ls [])
def dj_X19_count_196 (p : Program) (l : Launch) (e : Env) (s : State) (m : MethodId) (args : Array Value) (below : List Frame) (meth : Method) (c : Code) (Q : State → Prop) (A : Nat → Prop) (dC : Nat → ClassId) (dI : Nat → Nat → Nat) (a : Nat → Nat) (ac : Nat → ClassId) (g : Int64 → (St × (St) × (St × (St × (St))) × (St) × (St)) → Option (Int64 × (St × (St) × (St × (St × (St))) × (St) × (St)))) (r : Int64 × (St × (St) × (St × (St × (St))) × (St) × (St))) : Prop := ∀ (y0 : Int64) (s0 : St × (St) × (St × (St × (St))) × (St) × (St)) (H : Heap) (locs : List Loc) (ls : Array Slot), g y0 s0 = some r → va_P (dC, dI) vwCl (dw_X19 a ac s0) H → va_D A (dw_X19 a ac s0) → va_S A s.heap H locs → lv_has ls 3 [] → W p l e (headSpec ow_dm_X19_count ({ frames := 11, cells := 0, slots := 0, locals := 245 })).room s m args below meth c H locs 0 0 Q (F0 m 196 ls [.long y0])
def dj_X19_count_168 (p : Program) (l : Launch) (e : Env) (s : State) (m : MethodId) (args : Array Value) (below : List Frame) (meth : Method) (c : Code) (Q : State → Prop) (A : Nat → Prop) (dC : Nat → ClassId) (dI : Nat → Nat → Nat) (a : Nat → Nat) (ac : Nat → ClassId) (g : Int32 → (St × (St) × (St × (St × (St))) × (St) × (St)) → Option (Int64 × (St × (St) × (St × (St × (St))) × (St) × (St)))) (r : Int64 × (St × (St) × (St × (St × (St))) × (St) × (St))) : Prop := ∀ (x1 : Int32) (s0 : St × (St) × (St × (St × (St))) × (St) × (St)) (H : Heap) (locs : List Loc) (ls : Array Slot), g x1 s0 = some r → va_P (dC, dI) vwCl (dw_X19 a ac s0) H → va_D A (dw_X19 a ac s0) → va_S A s.heap H locs → lv_has ls 3 [(0, .ref (a 0)), (1, .int x1)] → W p l e (headSpec ow_dm_X19_count ({ frames := 11, cells := 0, slots := 0, locals := 245 })).room s m args below meth c H locs 0 0 Q (F0 m 168 ls [])
def dj_X19_count_159 (p : Program) (l : Launch) (e : Env) (s : State) (m : MethodId) (args : Array Value) (below : List Frame) (meth : Method) (c : Code) (Q : State → Prop) (A : Nat → Prop) (dC : Nat → ClassId) (dI : Nat → Nat → Nat) (a : Nat → Nat) (ac : Nat → ClassId) (g : Int32 → (St × (St) × (St × (St × (St))) × (St) × (St)) → Option (Int64 × (St × (St) × (St × (St × (St))) × (St) × (St)))) (r : Int64 × (St × (St) × (St × (St × (St))) × (St) × (St))) : Prop := ∀ (x2 : Int32) (s0 : St × (St) × (St × (St × (St))) × (St) × (St)) (H : Heap) (locs : List Loc) (ls : Array Slot), g x2 s0 = some r → va_P (dC, dI) vwCl (dw_X19 a ac s0) H → va_D A (dw_X19 a ac s0) → va_S A s.heap H locs → lv_has ls 3 [(2, .int x2)] → W p l e (headSpec ow_dm_X19_count ({ frames := 11, cells := 0, slots := 0, locals := 245 })).room s m args below meth c H locs 0 0 Q (F0 m 159 ls [])
def dj_X19_count_132 (p : Program) (l : Launch) (e : Env) (s : State) (m : MethodId) (args : Array Value) (below : List Frame) (meth : Method) (c : Code) (Q : State → Prop) (A : Nat → Prop) (dC : Nat → ClassId) (dI : Nat → Nat → Nat) (a : Nat → Nat) (ac : Nat → ClassId) (g : Int32 → (St × (St) × (St × (St × (St))) × (St) × (St)) → Option (Int64 × (St × (St) × (St × (St × (St))) × (St) × (St)))) (r : Int64 × (St × (St) × (St × (St × (St))) × (St) × (St))) : Prop := ∀ (x2 : Int32) (s0 : St × (St) × (St × (St × (St))) × (St) × (St)) (H : Heap) (locs : List Loc) (ls : Array Slot), g x2 s0 = some r → va_P (dC, dI) vwCl (dw_X19 a ac s0) H → va_D A (dw_X19 a ac s0) → va_S A s.heap H locs → lv_has ls 3 [(0, .ref (a 0)), (2, .int x2)] → W p l e (headSpec ow_dm_X19_count ({ frames := 11, cells := 0, slots := 0, locals := 245 })).room s m args below meth c H locs 0 0 Q (F0 m 132 ls [])
def dj_X19_count_71 (p : Program) (l : Launch) (e : Env) (s : State) (m : MethodId) (args : Array Value) (below : List Frame) (meth : Method) (c : Code) (Q : State → Prop) (A : Nat → Prop) (dC : Nat → ClassId) (dI : Nat → Nat → Nat) (a : Nat → Nat) (ac : Nat → ClassId) (g : Int64 → (St × (St) × (St × (St × (St))) × (St) × (St)) → Option (Int64 × (St × (St) × (St × (St × (St))) × (St) × (St)))) (r : Int64 × (St × (St) × (St × (St × (St))) × (St) × (St))) : Prop := ∀ (y0 : Int64) (s0 : St × (St) × (St × (St × (St))) × (St) × (St)) (H : Heap) (locs : List Loc) (ls : Array Slot), g y0 s0 = some r → va_P (dC, dI) vwCl (dw_X19 a ac s0) H → va_D A (dw_X19 a ac s0) → va_S A s.heap H locs → lv_has ls 3 [] → W p l e (headSpec ow_dm_X19_count ({ frames := 11, cells := 0, slots := 0, locals := 245 })).room s m args below meth c H locs 0 0 Q (F0 m 71 ls [.long y0])
def dj_X19_count_64 (p : Program) (l : Launch) (e : Env) (s : State) (m : MethodId) (args : Array Value) (below : List Frame) (meth : Method) (c : Code) (Q : State → Prop) (A : Nat → Prop) (dC : Nat → ClassId) (dI : Nat → Nat → Nat) (a : Nat → Nat) (ac : Nat → ClassId) (g : (St × (St) × (St × (St × (St))) × (St) × (St)) → Option (Int64 × (St × (St) × (St × (St × (St))) × (St) × (St)))) (r : Int64 × (St × (St) × (St × (St × (St))) × (St) × (St))) : Prop := ∀ (s0 : St × (St) × (St × (St × (St))) × (St) × (St)) (H : Heap) (locs : List Loc) (ls : Array Slot), g s0 = some r → va_P (dC, dI) vwCl (dw_X19 a ac s0) H → va_D A (dw_X19 a ac s0) → va_S A s.heap H locs → lv_has ls 3 [] → W p l e (headSpec ow_dm_X19_count ({ frames := 11, cells := 0, slots := 0, locals := 245 })).room s m args below meth c H locs 0 0 Q (F0 m 64 ls [])
def dj_X19_count_0 (p : Program) (l : Launch) (e : Env) (s : State) (m : MethodId) (args : Array Value) (below : List Frame) (meth : Method) (c : Code) (Q : State → Prop) (A : Nat → Prop) (dC : Nat → ClassId) (dI : Nat → Nat → Nat) (a : Nat → Nat) (ac : Nat → ClassId) (g : Int32 → (St × (St) × (St × (St × (St))) × (St) × (St)) → Option (Int64 × (St × (St) × (St × (St × (St))) × (St) × (St)))) (r : Int64 × (St × (St) × (St × (St × (St))) × (St) × (St))) : Prop := ∀ (v0 : Int32) (s0 : St × (St) × (St × (St × (St))) × (St) × (St)) (H : Heap) (locs : List Loc) (ls : Array Slot), g v0 s0 = some r → va_P (dC, dI) vwCl (dw_X19 a ac s0) H → va_D A (dw_X19 a ac s0) → va_S A s.heap H locs → lv_has ls 3 [(0, .ref (a 0)), (1, .int v0)] → W p l e (headSpec ow_dm_X19_count ({ frames := 11, cells := 0, slots := 0, locals := 245 })).room s m args below meth c H locs 0 0 Q (F0 m 0 ls [])
set_option maxHeartbeats 40000000 in
set_option maxRecDepth 100000 in
theorem db_X19_count_39 {p : Program} {l : Launch} {e : Env} {s : State} {m : MethodId} {args : Array Value} {below : List Frame} {meth : Method} {c : Code} {Q : State → Prop} {A : Nat → Prop} {dC : Nat → ClassId} {dI : Nat → Nat → Nat} {a : Nat → Nat} {ac : Nat → ClassId} {n : Nat} {r : Int64 × (St × (St) × (St × (St × (St))) × (St) × (St))} (C : nd_C p l s m args c A (dC, dI) cX19_count 3 RX19 ow_dm_X19_count (dk_X19 ac)) (K : nd_Kl p l e (headSpec ow_dm_X19_count ({ frames := 11, cells := 0, slots := 0, locals := 245 })).room s m args below meth c Q A (dC, dI) cX19_count (St × (St) × (St × (St × (St))) × (St) × (St)) (dw_X19 a ac) r) : dj_X19_count_39 p l e s m args below meth c Q A dC dI a ac (df_X19_count_39 n) r := by
  obtain ⟨hlt, hx, hb, hml, hown, hts, hN, hA, hK⟩ := id C
  intro y0 s0 H locs ls h hP hD hS hl
  unfold df_X19_count_39 at h
  exact K _ _ _ _ _ _ dX19_count_39 (Option.some.inj h).symm hP hD hS
set_option maxHeartbeats 40000000 in
set_option maxRecDepth 100000 in
theorem db_X19_count_12 {p : Program} {l : Launch} {e : Env} {s : State} {m : MethodId} {args : Array Value} {below : List Frame} {meth : Method} {c : Code} {Q : State → Prop} {A : Nat → Prop} {dC : Nat → ClassId} {dI : Nat → Nat → Nat} {a : Nat → Nat} {ac : Nat → ClassId} {n : Nat} {r : Int64 × (St × (St) × (St × (St × (St))) × (St) × (St))} (C : nd_C p l s m args c A (dC, dI) cX19_count 3 RX19 ow_dm_X19_count (dk_X19 ac)) (K : nd_Kl p l e (headSpec ow_dm_X19_count ({ frames := 11, cells := 0, slots := 0, locals := 245 })).room s m args below meth c Q A (dC, dI) cX19_count (St × (St) × (St × (St × (St))) × (St) × (St)) (dw_X19 a ac) r) : dj_X19_count_12 p l e s m args below meth c Q A dC dI a ac (df_X19_count_12 n) r := by
  obtain ⟨hlt, hx, hb, hml, hown, hts, hN, hA, hK⟩ := id C
  intro x1 s0 H locs ls h hP hD hS hl
  unfold df_X19_count_12 at h
  refine lv_aload_n hx hb dX19_count_12 rfl (lv_at hl 0 rfl) ?_
  refine lv_iconst (v := 0) hx hb dX19_count_13 (by decide) ?_
  refine va_put (D := (dC, dI)) (ci := 20) (v := .int 0) (ty := .int) (C := RX19) (T := TX19) (N := 36) hx hb hts hi_dm_X19_count_X19 tyX19 tyX19_ok nmX19 hown hK hP hD hS 0 rfl rfl 0 (by decide) (hts (.fieldLink RX19 113 "TimeMachineModel" "code" "I") (List.mem_of_getElem? (i := 1) rfl)) (fun _ h9 => h9) rfl (by decide +kernel) rfl rfl (Nat.le_of_ble_eq_true rfl) dX19_count_14 (fun H locs hP hD hS => ?_)
  obtain ⟨s2, es2, h⟩ := nd_let_e h
  have hP : va_P (dC, dI) vwCl (dw_X19 a ac s2) H := by rw [es2]; exact hP
  have hD : va_D A (dw_X19 a ac s2) := by rw [es2]; exact hD
  refine lv_iload_n hx hb dX19_count_17 rfl (lv_at hl 1 rfl) ?_
  refine lv_bipush (v := 15) hx hb dX19_count_18 (by decide) ?_
  refine lv_icmp_ne (tgt := 31) hx hb dX19_count_20 (by decide) (fun c3 => ?_) (fun c3 => ?_)
  · have h := nd_neg h c3
    refine lv_aload_n hx hb dX19_count_31 rfl (lv_at hl 0 rfl) ?_
    refine va_get (D := (dC, dI)) (ci := 20) (v := .ref (a 27)) (C := RX19) (T := TX19) (N := 36) hx hb hts hi_dm_X19_count_X19 hown hK hP 0 rfl rfl 14 (by decide) (hts (.fieldLink RX19 67 "TimeMachineModel" "conditions" "LTimeMachineModel$Conditions;") (List.mem_of_getElem? (i := 2) rfl)) (fun _ h9 => h9) rfl dX19_count_32 ?_
    obtain ⟨q4, s5, hq, h⟩ := nd_b2_e h
    have hPc := dp_X19_27 hP
    have hDc := dd_X19_27 hD
    have hKc := dy_X19_27 hK
    have hFc := nd_rs hDc hS hA
    have hzA : ∀ q : Nat, H.size ≤ q → A q := fun q h => hA q (Nat.le_trans hS.1 h)
    refine nd_cVi (As := []) (rest := []) (q := q4) (w' := dw_X15 (fun k => a (k + 27)) (fun k => ac (k + 27)) s5) ⟨hx, hb, hml, hown, hts⟩ (fun sz => dm_X15_size l hlt dC dI (fun k => a (k + 27)) (fun k => ac (k + 27)) n  s2.2.2.1 hq sz) (cwV 0 hts gi_dm_X19_count_0 rfl rfl rfl (by decide +kernel) ⟨Nat.le_of_ble_eq_true rfl, Nat.le_of_ble_eq_true rfl⟩) hPc hDc hKc hS hA hN (va_recv hKc hPc (ci := 16) (q0 := 0) rfl rfl) rfl hl.1 rfl (Nat.le_of_ble_eq_true rfl) dX19_count_35 (fun H locs hP1 hD1 hk1 hS => ?_)
    obtain ⟨hP, hD⟩ := dn_X19_27 hP hD hzA hk1 hP1 hD1
    obtain ⟨s7, es7, h⟩ := nd_let_e h
    have hP : va_P (dC, dI) vwCl (dw_X19 a ac s7) H := by rw [es7]; exact hP
    have hD : va_D A (dw_X19 a ac s7) := by rw [es7]; exact hD
    refine lv_i2l hx hb dX19_count_38 rfl ?_
    exact (db_X19_count_39 C K) ((q4.toInt64)) s7 _ _ _ h hP hD hS (lv_sub hl [] rfl)
  · have h := nd_pos h c3
    refine lv_aload_n hx hb dX19_count_23 rfl (lv_at hl 0 rfl) ?_
    refine va_get (D := (dC, dI)) (ci := 20) (v := .int (sI s2.1 1)) (C := RX19) (T := TX19) (N := 36) hx hb hts hi_dm_X19_count_X19 hown hK hP 0 rfl rfl 2 (by decide) (hts (.fieldLink RX19 117 "TimeMachineModel" "taped" "I") (List.mem_of_getElem? (i := 7) rfl)) (fun _ h9 => h9) rfl dX19_count_24 ?_
    refine lv_i2l hx hb dX19_count_27 rfl ?_
    refine lv_goto (tgt := 39) hx hb dX19_count_28 (by decide) ?_
    exact (db_X19_count_39 C K) ((((sI s2.1 1) : Int32).toInt64)) s2 _ _ _ h hP hD hS (lv_sub hl [] rfl)
set_option maxHeartbeats 40000000 in
set_option maxRecDepth 100000 in
theorem db_X19_count_196 {p : Program} {l : Launch} {e : Env} {s : State} {m : MethodId} {args : Array Value} {below : List Frame} {meth : Method} {c : Code} {Q : State → Prop} {A : Nat → Prop} {dC : Nat → ClassId} {dI : Nat → Nat → Nat} {a : Nat → Nat} {ac : Nat → ClassId} {n : Nat} {r : Int64 × (St × (St) × (St × (St × (St))) × (St) × (St))} (C : nd_C p l s m args c A (dC, dI) cX19_count 3 RX19 ow_dm_X19_count (dk_X19 ac)) (K : nd_Kl p l e (headSpec ow_dm_X19_count ({ frames := 11, cells := 0, slots := 0, locals := 245 })).room s m args below meth c Q A (dC, dI) cX19_count (St × (St) × (St × (St × (St))) × (St) × (St)) (dw_X19 a ac) r) : dj_X19_count_196 p l e s m args below meth c Q A dC dI a ac (df_X19_count_196 n) r := by
  obtain ⟨hlt, hx, hb, hml, hown, hts, hN, hA, hK⟩ := id C
  intro y0 s0 H locs ls h hP hD hS hl
  unfold df_X19_count_196 at h
  exact K _ _ _ _ _ _ dX19_count_196 (Option.some.inj h).symm hP hD hS
set_option maxHeartbeats 40000000 in
set_option maxRecDepth 100000 in
theorem db_X19_count_168 {p : Program} {l : Launch} {e : Env} {s : State} {m : MethodId} {args : Array Value} {below : List Frame} {meth : Method} {c : Code} {Q : State → Prop} {A : Nat → Prop} {dC : Nat → ClassId} {dI : Nat → Nat → Nat} {a : Nat → Nat} {ac : Nat → ClassId} {n : Nat} {r : Int64 × (St × (St) × (St × (St × (St))) × (St) × (St))} (C : nd_C p l s m args c A (dC, dI) cX19_count 3 RX19 ow_dm_X19_count (dk_X19 ac)) (K : nd_Kl p l e (headSpec ow_dm_X19_count ({ frames := 11, cells := 0, slots := 0, locals := 245 })).room s m args below meth c Q A (dC, dI) cX19_count (St × (St) × (St × (St × (St))) × (St) × (St)) (dw_X19 a ac) r) : dj_X19_count_168 p l e s m args below meth c Q A dC dI a ac (df_X19_count_168 n) r := by
  obtain ⟨hlt, hx, hb, hml, hown, hts, hN, hA, hK⟩ := id C
  intro x1 s0 H locs ls h hP hD hS hl
  unfold df_X19_count_168 at h
  refine lv_iload_n hx hb dX19_count_168 rfl (lv_at hl 1 rfl) ?_
  refine lv_i2l hx hb dX19_count_169 rfl ?_
  refine lv_ldc2 hx hb hown (hts (.constantLong RX19 354 (2)) (List.mem_of_getElem? (i := 14) rfl)) dX19_count_170 ?_
  refine lv_ldc2 hx hb hown (hts (.constantLong RX19 352 (14)) (List.mem_of_getElem? (i := 15) rfl)) dX19_count_173 ?_
  obtain ⟨q16, s17, hq, h⟩ := nd_b2_e h
  have hPc : va_P (dC, dI) vwCl (dw_P a ac ()) H := nd_p0
  have hDc : va_D A (dw_P a ac ()) := nd_d0
  have hKc : va_K (dC, dI) vwCl (dk_P ac) s := nd_y0 hK
  have hFc : ∀ q, va_A (dw_P a ac ()) H.size q → A q := nd_r0 hS hA
  refine nd_cSi (As := [.long (x1.toInt64), .long 2, .long 14]) (rest := []) (q := q16) (w' := dw_P a ac s17) ⟨hx, hb, hml, hown, hts⟩ (fun sz => dm_X19_in l hlt dC dI a ac n ((x1.toInt64)) (2) (14) () hq sz) (cwS 3 hts gi_dm_X19_count_2 rfl rfl rfl (by decide +kernel) ⟨Nat.le_of_ble_eq_true rfl, Nat.le_of_ble_eq_true rfl⟩) hPc hDc hKc hS hA hN rfl hl.1 rfl (Nat.le_of_ble_eq_true rfl) dX19_count_176 (fun H locs hP1 hD1 hk1 hS => ?_)
  have hP := nd_n0 hP hk1
  refine lv_if_eq (tgt := 193) hx hb dX19_count_179 (by decide) (fun c19 => ?_) (fun c19 => ?_)
  · have h := nd_pos h c19
    refine lv_ldc2 hx hb hown (hts (.constantLong RX19 292 (-1)) (List.mem_of_getElem? (i := 18) rfl)) dX19_count_193 ?_
    exact (db_X19_count_196 C K) ((-1)) s0 _ _ _ h hP hD hS (lv_sub hl [] rfl)
  · have h := nd_neg h c19
    refine lv_aload_n hx hb dX19_count_182 rfl (lv_at hl 0 rfl) ?_
    refine va_get (D := (dC, dI)) (ci := 20) (v := .ref (a 44)) (C := RX19) (T := TX19) (N := 36) hx hb hts hi_dm_X19_count_X19 hown hK hP 0 rfl rfl 13 (by decide) (hts (.fieldLink RX19 58 "TimeMachineModel" "m" "LTimeMachineModel$Machine;") (List.mem_of_getElem? (i := 19) rfl)) (fun _ h9 => h9) rfl dX19_count_183 ?_
    refine lv_iload_n hx hb dX19_count_186 rfl (lv_at hl 1 rfl) ?_
    obtain ⟨q20, s21, hq, h⟩ := nd_b2_e h
    have hPc := dp_X19_44 hP
    have hDc := dd_X19_44 hD
    have hKc := dy_X19_44 hK
    have hFc := nd_rs hDc hS hA
    have hzA : ∀ q : Nat, H.size ≤ q → A q := fun q h => hA q (Nat.le_trans hS.1 h)
    refine nd_cVl (As := [.int x1]) (rest := []) (q := q20) (w' := dw_X16 (fun k => a (k + 44)) (fun k => ac (k + 44)) s21) ⟨hx, hb, hml, hown, hts⟩ (fun sz => dm_X16_count l hlt dC dI (fun k => a (k + 44)) (fun k => ac (k + 44)) n (x1) s0.2.2.1.2 hq sz) (cwV 1 hts gi_dm_X19_count_3 rfl rfl rfl (by decide +kernel) ⟨Nat.le_of_ble_eq_true rfl, Nat.le_of_ble_eq_true rfl⟩) hPc hDc hKc hS hA hN (va_recv hKc hPc (ci := 17) (q0 := 0) rfl rfl) rfl hl.1 rfl (Nat.le_of_ble_eq_true rfl) dX19_count_187 (fun H locs hP1 hD1 hk1 hS => ?_)
    obtain ⟨hP, hD⟩ := dn_X19_44 hP hD hzA hk1 hP1 hD1
    obtain ⟨s23, es23, h⟩ := nd_let_e h
    have hP : va_P (dC, dI) vwCl (dw_X19 a ac s23) H := by rw [es23]; exact hP
    have hD : va_D A (dw_X19 a ac s23) := by rw [es23]; exact hD
    refine lv_goto (tgt := 196) hx hb dX19_count_190 (by decide) ?_
    exact (db_X19_count_196 C K) (q20) s23 _ _ _ h hP hD hS (lv_sub hl [] rfl)
set_option maxHeartbeats 40000000 in
set_option maxRecDepth 100000 in
theorem db_X19_count_159 {p : Program} {l : Launch} {e : Env} {s : State} {m : MethodId} {args : Array Value} {below : List Frame} {meth : Method} {c : Code} {Q : State → Prop} {A : Nat → Prop} {dC : Nat → ClassId} {dI : Nat → Nat → Nat} {a : Nat → Nat} {ac : Nat → ClassId} {n : Nat} {r : Int64 × (St × (St) × (St × (St × (St))) × (St) × (St))} (C : nd_C p l s m args c A (dC, dI) cX19_count 3 RX19 ow_dm_X19_count (dk_X19 ac)) (K : nd_Kl p l e (headSpec ow_dm_X19_count ({ frames := 11, cells := 0, slots := 0, locals := 245 })).room s m args below meth c Q A (dC, dI) cX19_count (St × (St) × (St × (St × (St))) × (St) × (St)) (dw_X19 a ac) r) : dj_X19_count_159 p l e s m args below meth c Q A dC dI a ac (df_X19_count_159 n) r := by
  obtain ⟨hlt, hx, hb, hml, hown, hts, hN, hA, hK⟩ := id C
  intro x2 s0 H locs ls h hP hD hS hl
  unfold df_X19_count_159 at h
  refine lv_iload_n hx hb dX19_count_159 rfl (lv_at hl 0 rfl) ?_
  refine lv_i2l hx hb dX19_count_160 rfl ?_
  exact K _ _ _ _ _ _ dX19_count_161 (Option.some.inj h).symm hP hD hS
set_option maxHeartbeats 40000000 in
set_option maxRecDepth 100000 in
theorem dB_X19_count_132 {p : Program} {l : Launch} {e : Env} {s : State} {m : MethodId} {args : Array Value} {below : List Frame} {meth : Method} {c : Code} {Q : State → Prop} {A : Nat → Prop} {dC : Nat → ClassId} {dI : Nat → Nat → Nat} {a : Nat → Nat} {ac : Nat → ClassId} {n : Nat} {r : Int64 × (St × (St) × (St × (St × (St))) × (St) × (St))} (C : nd_C p l s m args c A (dC, dI) cX19_count 3 RX19 ow_dm_X19_count (dk_X19 ac)) (K : nd_Kl p l e (headSpec ow_dm_X19_count ({ frames := 11, cells := 0, slots := 0, locals := 245 })).room s m args below meth c Q A (dC, dI) cX19_count (St × (St) × (St × (St × (St))) × (St) × (St)) (dw_X19 a ac) r) {g132 : Int32 → (St × (St) × (St × (St × (St))) × (St) × (St)) → Option (Int64 × (St × (St) × (St × (St × (St))) × (St) × (St)))} (J132 : dj_X19_count_132 p l e s m args below meth c Q A dC dI a ac g132 r) : dj_X19_count_132 p l e s m args below meth c Q A dC dI a ac (dF_X19_count_132 n g132) r := by
  obtain ⟨hlt, hx, hb, hml, hown, hts, hN, hA, hK⟩ := id C
  intro x2 s0 H locs ls h hP hD hS hl
  unfold dF_X19_count_132 at h
  refine lv_iload_n hx hb dX19_count_132 rfl (lv_at hl 1 rfl) ?_
  refine lv_aload_n hx hb dX19_count_133 rfl (lv_at hl 0 rfl) ?_
  refine va_get (D := (dC, dI)) (ci := 20) (v := .int (sI s0.1 8)) (C := RX19) (T := TX19) (N := 36) hx hb hts hi_dm_X19_count_X19 hown hK hP 0 rfl rfl 22 (by decide) (hts (.fieldLink RX19 192 "TimeMachineModel" "events" "I") (List.mem_of_getElem? (i := 24) rfl)) (fun _ h9 => h9) rfl dX19_count_134 ?_
  refine lv_icmp_ge (tgt := 159) hx hb dX19_count_137 (by decide) (fun c26 => ?_) (fun c26 => ?_)
  · have h := nd_pos h c26
    exact (db_X19_count_159 C K) (x2) s0 _ _ _ h hP hD hS (lv_sub hl [1] rfl)
  · have h := nd_neg h c26
    refine lv_aload_n hx hb dX19_count_140 rfl (lv_at hl 0 rfl) ?_
    refine va_get (D := (dC, dI)) (ci := 20) (v := .ref (a 8)) (C := RX19) (T := TX19) (N := 36) hx hb hts hi_dm_X19_count_X19 hown hK hP 0 rfl rfl 28 (by decide) (hts (.fieldLink RX19 91 "TimeMachineModel" "when" "[I") (List.mem_of_getElem? (i := 25) rfl)) (fun _ h9 => h9) rfl dX19_count_141 ?_
    refine lv_iload_n hx hb dX19_count_144 rfl (lv_at hl 1 rfl) ?_
    obtain ⟨i27, h⟩ := nd_ck_e h
    refine va_iald (i := x2) hx hb hK hP 8 7 rfl rfl i27 dX19_count_145 ?_
    refine lv_aload_n hx hb dX19_count_146 rfl (lv_at hl 0 rfl) ?_
    refine va_get (D := (dC, dI)) (ci := 20) (v := .int (sI s0.1 5)) (C := RX19) (T := TX19) (N := 36) hx hb hts hi_dm_X19_count_X19 hown hK hP 0 rfl rfl 19 (by decide) (hts (.fieldLink RX19 234 "TimeMachineModel" "now" "I") (List.mem_of_getElem? (i := 12) rfl)) (fun _ h9 => h9) rfl dX19_count_147 ?_
    refine lv_icmp_gt (tgt := 159) hx hb dX19_count_150 (by decide) (fun c28 => ?_) (fun c28 => ?_)
    · have h := nd_pos h c28
      exact (db_X19_count_159 C K) (x2) s0 _ _ _ h hP hD hS (lv_sub hl [1] rfl)
    · have h := nd_neg h c28
      obtain ⟨z29, ez29, h⟩ := nd_let_e h
      refine lv_iinc (v := z29) (lv' := [(2, .int z29), (0, .ref (a 0))]) hx hb dX19_count_153 hl (k := 1) rfl (by rw [ez29]) (by decide) rfl (fun ls hl => ?_)
      refine lv_goto (tgt := 132) hx hb dX19_count_156 (by decide) ?_
      exact (J132) (z29) s0 _ _ _ h hP hD hS (lv_sub hl [1, 0] rfl)
set_option maxHeartbeats 40000000 in
set_option maxRecDepth 100000 in
theorem db_X19_count_132 {p : Program} {l : Launch} {e : Env} {s : State} {m : MethodId} {args : Array Value} {below : List Frame} {meth : Method} {c : Code} {Q : State → Prop} {A : Nat → Prop} {dC : Nat → ClassId} {dI : Nat → Nat → Nat} {a : Nat → Nat} {ac : Nat → ClassId} {n : Nat} {r : Int64 × (St × (St) × (St × (St × (St))) × (St) × (St))} (C : nd_C p l s m args c A (dC, dI) cX19_count 3 RX19 ow_dm_X19_count (dk_X19 ac)) (K : nd_Kl p l e (headSpec ow_dm_X19_count ({ frames := 11, cells := 0, slots := 0, locals := 245 })).room s m args below meth c Q A (dC, dI) cX19_count (St × (St) × (St × (St × (St))) × (St) × (St)) (dw_X19 a ac) r) (k : Nat) : dj_X19_count_132 p l e s m args below meth c Q A dC dI a ac (df_X19_count_132 n k) r := by
  induction k with
  | zero => intro x2 s0 H locs ls h; exact nomatch (show (none : Option (Int64 × (St × (St) × (St × (St × (St))) × (St) × (St)))) = some r from h)
  | succ k ih => exact dB_X19_count_132 C K ih
set_option maxHeartbeats 40000000 in
set_option maxRecDepth 100000 in
theorem db_X19_count_71 {p : Program} {l : Launch} {e : Env} {s : State} {m : MethodId} {args : Array Value} {below : List Frame} {meth : Method} {c : Code} {Q : State → Prop} {A : Nat → Prop} {dC : Nat → ClassId} {dI : Nat → Nat → Nat} {a : Nat → Nat} {ac : Nat → ClassId} {n : Nat} {r : Int64 × (St × (St) × (St × (St × (St))) × (St) × (St))} (C : nd_C p l s m args c A (dC, dI) cX19_count 3 RX19 ow_dm_X19_count (dk_X19 ac)) (K : nd_Kl p l e (headSpec ow_dm_X19_count ({ frames := 11, cells := 0, slots := 0, locals := 245 })).room s m args below meth c Q A (dC, dI) cX19_count (St × (St) × (St × (St × (St))) × (St) × (St)) (dw_X19 a ac) r) : dj_X19_count_71 p l e s m args below meth c Q A dC dI a ac (df_X19_count_71 n) r := by
  obtain ⟨hlt, hx, hb, hml, hown, hts, hN, hA, hK⟩ := id C
  intro y0 s0 H locs ls h hP hD hS hl
  unfold df_X19_count_71 at h
  exact K _ _ _ _ _ _ dX19_count_71 (Option.some.inj h).symm hP hD hS
set_option maxHeartbeats 40000000 in
set_option maxRecDepth 100000 in
theorem db_X19_count_64 {p : Program} {l : Launch} {e : Env} {s : State} {m : MethodId} {args : Array Value} {below : List Frame} {meth : Method} {c : Code} {Q : State → Prop} {A : Nat → Prop} {dC : Nat → ClassId} {dI : Nat → Nat → Nat} {a : Nat → Nat} {ac : Nat → ClassId} {n : Nat} {r : Int64 × (St × (St) × (St × (St × (St))) × (St) × (St))} (C : nd_C p l s m args c A (dC, dI) cX19_count 3 RX19 ow_dm_X19_count (dk_X19 ac)) (K : nd_Kl p l e (headSpec ow_dm_X19_count ({ frames := 11, cells := 0, slots := 0, locals := 245 })).room s m args below meth c Q A (dC, dI) cX19_count (St × (St) × (St × (St × (St))) × (St) × (St)) (dw_X19 a ac) r) : dj_X19_count_64 p l e s m args below meth c Q A dC dI a ac (df_X19_count_64 n) r := by
  obtain ⟨hlt, hx, hb, hml, hown, hts, hN, hA, hK⟩ := id C
  intro s0 H locs ls h hP hD hS hl
  unfold df_X19_count_64 at h
  refine lv_ldc2 hx hb hown (hts (.constantLong RX19 292 (-1)) (List.mem_of_getElem? (i := 18) rfl)) dX19_count_64 ?_
  refine lv_goto (tgt := 71) hx hb dX19_count_67 (by decide) ?_
  exact (db_X19_count_71 C K) ((-1)) s0 _ _ _ h hP hD hS (lv_sub hl [] rfl)
set_option maxHeartbeats 40000000 in
set_option maxRecDepth 100000 in
theorem db_X19_count_0 {p : Program} {l : Launch} {e : Env} {s : State} {m : MethodId} {args : Array Value} {below : List Frame} {meth : Method} {c : Code} {Q : State → Prop} {A : Nat → Prop} {dC : Nat → ClassId} {dI : Nat → Nat → Nat} {a : Nat → Nat} {ac : Nat → ClassId} {n : Nat} {r : Int64 × (St × (St) × (St × (St × (St))) × (St) × (St))} (C : nd_C p l s m args c A (dC, dI) cX19_count 3 RX19 ow_dm_X19_count (dk_X19 ac)) (K : nd_Kl p l e (headSpec ow_dm_X19_count ({ frames := 11, cells := 0, slots := 0, locals := 245 })).room s m args below meth c Q A (dC, dI) cX19_count (St × (St) × (St × (St × (St))) × (St) × (St)) (dw_X19 a ac) r) : dj_X19_count_0 p l e s m args below meth c Q A dC dI a ac (df_X19_count_0 n) r := by
  obtain ⟨hlt, hx, hb, hml, hown, hts, hN, hA, hK⟩ := id C
  intro v0 s0 H locs ls h hP hD hS hl
  unfold df_X19_count_0 at h
  refine lv_iload_n hx hb dX19_count_0 rfl (lv_at hl 1 rfl) ?_
  refine lv_bipush (v := 15) hx hb dX19_count_1 (by decide) ?_
  refine lv_icmp_eq (tgt := 12) hx hb dX19_count_3 (by decide) (fun c1 => ?_) (fun c1 => ?_)
  · have h := nd_pos h c1
    exact (db_X19_count_12 C K) (v0) s0 _ _ _ h hP hD hS (lv_sub hl [0, 1] rfl)
  · have h := nd_neg h c1
    refine lv_iload_n hx hb dX19_count_6 rfl (lv_at hl 1 rfl) ?_
    refine lv_bipush (v := 16) hx hb dX19_count_7 (by decide) ?_
    refine lv_icmp_ne (tgt := 40) hx hb dX19_count_9 (by decide) (fun c8 => ?_) (fun c8 => ?_)
    · have h := nd_neg h c8
      refine lv_aload_n hx hb dX19_count_40 rfl (lv_at hl 0 rfl) ?_
      obtain ⟨q9, s10, hq, h⟩ := nd_b2_e h
      have hPc := hP
      have hDc := hD
      have hKc := hK
      have hFc := nd_rs hD hS hA
      refine nd_cVi (As := []) (rest := []) (q := q9) (w' := dw_X19 a ac s10) ⟨hx, hb, hml, hown, hts⟩ (fun sz => dm_X19_shows l hlt dC dI a ac n  s0 hq sz) (cwV 0 hts gi_dm_X19_count_1 rfl rfl rfl (by decide +kernel) ⟨Nat.le_of_ble_eq_true rfl, Nat.le_of_ble_eq_true rfl⟩) hPc hDc hKc hS hA hN (va_recv hKc hPc (ci := 20) (q0 := 0) rfl rfl) rfl hl.1 rfl (Nat.le_of_ble_eq_true rfl) dX19_count_41 (fun H locs hP1 hD1 hk1 hS => ?_)
      have hP := hP1
      have hD := hD1.weaken (fun k q _ h => hFc q.1 h)
      refine lv_if_ne (tgt := 72) hx hb dX19_count_44 (by decide) (fun c12 => ?_) (fun c12 => ?_)
      · have h := nd_neg h c12
        refine lv_iload_n hx hb dX19_count_72 rfl (lv_at hl 1 rfl) ?_
        by_cases c13 : v0 = 0
        · have h := nd_pos h c13
          refine lv_tableIn (off := 39) (tgt := 112) hx hb dX19_count_73 (by rw [c13]; decide) (by rw [c13]; decide) (by rw [c13]; decide) (by decide) ?_
          refine lv_aload_n hx hb dX19_count_112 rfl (lv_at hl 0 rfl) ?_
          refine va_get (D := (dC, dI)) (ci := 20) (v := .int (sI s10.1 5)) (C := RX19) (T := TX19) (N := 36) hx hb hts hi_dm_X19_count_X19 hown hK hP 0 rfl rfl 19 (by decide) (hts (.fieldLink RX19 234 "TimeMachineModel" "now" "I") (List.mem_of_getElem? (i := 12) rfl)) (fun _ h9 => h9) rfl dX19_count_113 ?_
          refine lv_i2l hx hb dX19_count_116 rfl ?_
          exact K _ _ _ _ _ _ dX19_count_117 (Option.some.inj h).symm hP hD hS
        have h := nd_neg h c13
        by_cases c14 : v0 = 1
        · have h := nd_pos h c14
          refine lv_tableIn (off := 45) (tgt := 118) hx hb dX19_count_73 (by rw [c14]; decide) (by rw [c14]; decide) (by rw [c14]; decide) (by decide) ?_
          refine lv_aload_n hx hb dX19_count_118 rfl (lv_at hl 0 rfl) ?_
          refine va_get (D := (dC, dI)) (ci := 20) (v := .int (sI s10.1 6)) (C := RX19) (T := TX19) (N := 36) hx hb hts hi_dm_X19_count_X19 hown hK hP 0 rfl rfl 20 (by decide) (hts (.fieldLink RX19 210 "TimeMachineModel" "end" "I") (List.mem_of_getElem? (i := 13) rfl)) (fun _ h9 => h9) rfl dX19_count_119 ?_
          refine lv_i2l hx hb dX19_count_122 rfl ?_
          exact K _ _ _ _ _ _ dX19_count_123 (Option.some.inj h).symm hP hD hS
        have h := nd_neg h c14
        by_cases c15 : v0 = 2
        · have h := nd_pos h c15
          refine lv_tableIn (off := 95) (tgt := 168) hx hb dX19_count_73 (by rw [c15]; decide) (by rw [c15]; decide) (by rw [c15]; decide) (by decide) ?_
          exact (db_X19_count_168 C K) (v0) s10 _ _ _ h hP hD hS (lv_sub hl [0, 1] rfl)
        have h := nd_neg h c15
        by_cases c24 : v0 = 3
        · have h := nd_pos h c24
          refine lv_tableIn (off := 51) (tgt := 124) hx hb dX19_count_73 (by rw [c24]; decide) (by rw [c24]; decide) (by rw [c24]; decide) (by decide) ?_
          refine lv_aload_n hx hb dX19_count_124 rfl (lv_at hl 0 rfl) ?_
          refine va_get (D := (dC, dI)) (ci := 20) (v := .int (sI s10.1 8)) (C := RX19) (T := TX19) (N := 36) hx hb hts hi_dm_X19_count_X19 hown hK hP 0 rfl rfl 22 (by decide) (hts (.fieldLink RX19 192 "TimeMachineModel" "events" "I") (List.mem_of_getElem? (i := 24) rfl)) (fun _ h9 => h9) rfl dX19_count_125 ?_
          refine lv_i2l hx hb dX19_count_128 rfl ?_
          exact K _ _ _ _ _ _ dX19_count_129 (Option.some.inj h).symm hP hD hS
        have h := nd_neg h c24
        by_cases c25 : v0 = 4
        · have h := nd_pos h c25
          refine lv_tableIn (off := 57) (tgt := 130) hx hb dX19_count_73 (by rw [c25]; decide) (by rw [c25]; decide) (by rw [c25]; decide) (by decide) ?_
          refine lv_iconst (v := 0) hx hb dX19_count_130 (by decide) ?_
          refine lv_istore_n (lv' := [(2, .int 0), (0, .ref (a 0)), (1, .int v0)]) hx hb dX19_count_131 rfl hl (by decide) rfl (fun ls hl => ?_)
          exact (db_X19_count_132 C K n) (0) s10 _ _ _ h hP hD hS (lv_sub hl [1, 0] rfl)
        have h := nd_neg h c25
        by_cases c30 : v0 = 5
        · have h := nd_pos h c30
          refine lv_tableIn (off := 89) (tgt := 162) hx hb dX19_count_73 (by rw [c30]; decide) (by rw [c30]; decide) (by rw [c30]; decide) (by decide) ?_
          refine lv_aload_n hx hb dX19_count_162 rfl (lv_at hl 0 rfl) ?_
          refine va_get (D := (dC, dI)) (ci := 20) (v := .int (sI s10.1 9)) (C := RX19) (T := TX19) (N := 36) hx hb hts hi_dm_X19_count_X19 hown hK hP 0 rfl rfl 23 (by decide) (hts (.fieldLink RX19 212 "TimeMachineModel" "scheduled" "I") (List.mem_of_getElem? (i := 26) rfl)) (fun _ h9 => h9) rfl dX19_count_163 ?_
          refine lv_i2l hx hb dX19_count_166 rfl ?_
          exact K _ _ _ _ _ _ dX19_count_167 (Option.some.inj h).symm hP hD hS
        have h := nd_neg h c30
        refine lv_tableOut (tgt := 168) hx hb dX19_count_73 (by have g0 := nv_nei c13 (k := 0) (by decide); have g1 := nv_nei c14 (k := 1) (by decide); have g2 := nv_nei c15 (k := 2) (by decide); have g3 := nv_nei c24 (k := 3) (by decide); have g4 := nv_nei c25 (k := 4) (by decide); have g5 := nv_nei c30 (k := 5) (by decide); omega) (by decide) ?_
        exact (db_X19_count_168 C K) (v0) s10 _ _ _ h hP hD hS (lv_sub hl [0, 1] rfl)
      · have h := nd_pos h c12
        refine lv_iload_n hx hb dX19_count_47 rfl (lv_at hl 1 rfl) ?_
        refine lv_iconst (v := 2) hx hb dX19_count_48 (by decide) ?_
        refine lv_icmp_eq (tgt := 64) hx hb dX19_count_49 (by decide) (fun c31 => ?_) (fun c31 => ?_)
        · have h := nd_pos h c31
          exact (db_X19_count_64 C K)  s10 _ _ _ h hP hD hS (lv_sub hl [] rfl)
        · have h := nd_neg h c31
          refine lv_iload_n hx hb dX19_count_52 rfl (lv_at hl 1 rfl) ?_
          refine lv_i2l hx hb dX19_count_53 rfl ?_
          refine lv_lconst (v := 0) hx hb dX19_count_54 (by decide) ?_
          refine lv_ldc2 hx hb hown (hts (.constantLong RX19 352 (14)) (List.mem_of_getElem? (i := 15) rfl)) dX19_count_55 ?_
          obtain ⟨q32, s33, hq, h⟩ := nd_b2_e h
          have hPc : va_P (dC, dI) vwCl (dw_P a ac ()) H := nd_p0
          have hDc : va_D A (dw_P a ac ()) := nd_d0
          have hKc : va_K (dC, dI) vwCl (dk_P ac) s := nd_y0 hK
          have hFc : ∀ q, va_A (dw_P a ac ()) H.size q → A q := nd_r0 hS hA
          refine nd_cSi (As := [.long (v0.toInt64), .long 0, .long 14]) (rest := []) (q := q32) (w' := dw_P a ac s33) ⟨hx, hb, hml, hown, hts⟩ (fun sz => dm_X19_in l hlt dC dI a ac n ((v0.toInt64)) (0) (14) () hq sz) (cwS 3 hts gi_dm_X19_count_2 rfl rfl rfl (by decide +kernel) ⟨Nat.le_of_ble_eq_true rfl, Nat.le_of_ble_eq_true rfl⟩) hPc hDc hKc hS hA hN rfl hl.1 rfl (Nat.le_of_ble_eq_true rfl) dX19_count_58 (fun H locs hP1 hD1 hk1 hS => ?_)
          have hP := nd_n0 hP hk1
          refine lv_if_ne (tgt := 70) hx hb dX19_count_61 (by decide) (fun c35 => ?_) (fun c35 => ?_)
          · have h := nd_neg h c35
            refine lv_lconst (v := 0) hx hb dX19_count_70 (by decide) ?_
            exact (db_X19_count_71 C K) (0) s10 _ _ _ h hP hD hS (lv_sub hl [] rfl)
          · have h := nd_pos h c35
            exact (db_X19_count_64 C K)  s10 _ _ _ h hP hD hS (lv_sub hl [] rfl)
    · have h := nd_pos h c8
      exact (db_X19_count_12 C K) (v0) s0 _ _ _ h hP hD hS (lv_sub hl [0, 1] rfl)
set_option maxHeartbeats 40000000 in
set_option maxRecDepth 100000 in
theorem dm_X19_count (l : Launch) (hlt : l.stackTraces = false) (dC : Nat → ClassId) (dI : Nat → Nat → Nat) (a : Nat → Nat) (ac : Nat → ClassId) (n : Nat) (v0 : Int32) (s0 : St × (St) × (St × (St × (St))) × (St) × (St)) {r : Int64 × (St × (St) × (St × (St × (St))) × (St) × (St))} (h : df_X19_count n v0 s0 = some r) (sz : Nat) : Met l yX19_count ow_dm_X19_count ({ frames := 11, cells := 0, slots := 0, locals := 245 }) (va_Pc [.ref (a 0), .int v0] (fun U => U.heap.size = sz ∧ va_P (dC, dI) vwCl (dw_X19 a ac s0) U.heap ∧ va_K (dC, dI) vwCl (dk_X19 ac) U ∧ va_D (fun _ => True) (dw_X19 a ac s0) ∧ nv_E (va_A (dw_X19 a ac s0) sz) U)) (va_Ql (fun x _ => x = r.1) (fun (_ : Unit) t => va_P (dC, dI) vwCl (dw_X19 a ac r.2) t.heap ∧ va_K (dC, dI) vwCl (dk_X19 ac) t ∧ va_D (va_A (dw_X19 a ac s0) sz) (dw_X19 a ac r.2)) (va_A (dw_X19 a ac s0) sz)) 0 0 (va_A (dw_X19 a ac s0) sz) := by
  refine Met.ofW (cc := cX19_count) (maxL := 3) (ret := (some .long)) (by decide) rfl ?_
  intro p e s m args below meth c s₁ B hml hv
  obtain ⟨rfl, hsz, hP, hK, hD0, hN⟩ := hv
  have hx := B.exec
  have hb := B.bytes
  have hr := B.returns
  have hts := atoms_spec (ws := ow_dm_X19_count) B.pre
  have hown : s.vm.findClass RX19 = some m.cls := findClass_of_methodNamed B.named
  have hlocks := B.notSynchronized
  subst hsz
  have hD := hD0.self (sz := s.heap.size)
  generalize hAe : va_A (dw_X19 a ac s0) s.heap.size = A at hD hN ⊢
  have hA : ∀ q : Nat, s.heap.size ≤ q → A q := fun q h => by rw [← hAe]; exact Or.inr h
  have hl := lv_entry ([.ref (a 0), .int v0]) (n := 3) (Nat.le_of_ble_eq_true rfl)
  rw [lg_entry_eq]
  generalize (lg_sl ([.ref (a 0), .int v0]) ++ List.replicate (3 - (lg_sl ([.ref (a 0), .int v0])).length) Slot.unset).toArray = ls at hl ⊢
  have hl : lv_has ls 3 [(0, .ref (a 0)), (1, .int v0)] := hl
  exact db_X19_count_0 (dC := dC) (dI := dI) (a := a) (ac := ac) (n := n) (r := r) ⟨hlt, hx, hb, hml, hown, hts, hN, hA, hK⟩ (fun pc v τ H locs ls d er hP hD hS => by subst er; exact W.lret (v := v) hx hb hr (fun t ht hW => ⟨⟨v, (), rfl, rfl, by rw [ht]; exact hP, va_K.moved hW.alike hK, hD⟩, hS.F ht⟩) hS.2.2 d) v0 s0 _ _ _ h hP hD va_S.rf (lv_sub hl [0, 1] rfl)
def ow_dm_X19_pack : List Cond := .code yX19_pack cX19_pack 2 (some .int) :: ([.fieldLink RX19 113 "TimeMachineModel" "code" "I", .fieldLink RX19 74 "TimeMachineModel" "codec" "LTimeMachineModel$Codec;", .methodLink RX19 356 yX14_clear, .instanceMethod yX14_clear, .selects RX14 yX14_clear yX14_clear, .initialized RX14, .fieldLink RX19 192 "TimeMachineModel" "events" "I", .methodLink RX19 363 yX14_pack, .instanceMethod yX14_pack, .selects RX14 yX14_pack yX14_pack, .fieldLink RX19 366 "TimeMachineModel" "logged" "I", .fieldLink RX19 110 "TimeMachineModel" "log" "[I", .fieldLink RX19 85 "TimeMachineModel" "kind" "[I", .fieldLink RX19 91 "TimeMachineModel" "when" "[I", .fieldLink RX19 100 "TimeMachineModel" "a" "[J", .fieldLink RX19 88 "TimeMachineModel" "b" "[I", .methodLink RX19 359 yX14_take, .instanceMethod yX14_take, .selects RX14 yX14_take yX14_take] ++ (u_ws RX19 TX19 36 ++ (u_ws RX14 TX14 11 ++ (ow_dm_X14_clear ++ (ow_dm_X14_pack ++ (ow_dm_X14_take ++ []))))))
theorem gd_dm_X19_pack : ∀ w ∈ ow_dm_X19_pack, (w.onTables && w.keeps) = true ∨ ∃ ty, w = Cond.arrayClass ty := List.forall_mem_cons.mpr ⟨good_of_word rfl, List.forall_mem_append.mpr ⟨fun w h => good_of_word (List.all_eq_true.mp (by decide +kernel) w h), List.forall_mem_append.mpr ⟨gu_X19, List.forall_mem_append.mpr ⟨gu_X14, List.forall_mem_append.mpr ⟨gd_dm_X14_clear, List.forall_mem_append.mpr ⟨gd_dm_X14_pack, List.forall_mem_append.mpr ⟨gd_dm_X14_take, fun _ h => nomatch h⟩⟩⟩⟩⟩⟩⟩
theorem hi_dm_X19_pack_X19 : ∀ w ∈ u_ws RX19 TX19 36, w ∈ ow_dm_X19_pack := fun w h => List.mem_cons_of_mem _ (List.mem_append_right _ (List.mem_append_left _ h))
theorem hi_dm_X19_pack_X14 : ∀ w ∈ u_ws RX14 TX14 11, w ∈ ow_dm_X19_pack := fun w h => List.mem_cons_of_mem _ (List.mem_append_right _ (List.mem_append_right _ (List.mem_append_left _ h)))
theorem gi_dm_X19_pack_0 : GoodIn ow_dm_X19_pack (wsV RX19 356 RX14 yX14_clear ow_dm_X14_clear) := goodIn_app (goodIn_of _ (by decide +kernel)) (fun w h => ⟨List.mem_cons_of_mem _ (List.mem_append_right _ (List.mem_append_right _ (List.mem_append_right _ (List.mem_append_left _ h)))), gd_dm_X14_clear w h⟩)
theorem gi_dm_X19_pack_1 : GoodIn ow_dm_X19_pack (wsV RX19 363 RX14 yX14_pack ow_dm_X14_pack) := goodIn_app (goodIn_of _ (by decide +kernel)) (fun w h => ⟨List.mem_cons_of_mem _ (List.mem_append_right _ (List.mem_append_right _ (List.mem_append_right _ (List.mem_append_right _ (List.mem_append_left _ h))))), gd_dm_X14_pack w h⟩)
theorem gi_dm_X19_pack_2 : GoodIn ow_dm_X19_pack (wsV RX19 359 RX14 yX14_take ow_dm_X14_take) := goodIn_app (goodIn_of _ (by decide +kernel)) (fun w h => ⟨List.mem_cons_of_mem _ (List.mem_append_right _ (List.mem_append_right _ (List.mem_append_right _ (List.mem_append_right _ (List.mem_append_right _ (List.mem_append_left _ h)))))), gd_dm_X14_take w h⟩)
def dj_X19_pack_90 (p : Program) (l : Launch) (e : Env) (s : State) (m : MethodId) (args : Array Value) (below : List Frame) (meth : Method) (c : Code) (Q : State → Prop) (A : Nat → Prop) (dC : Nat → ClassId) (dI : Nat → Nat → Nat) (a : Nat → Nat) (ac : Nat → ClassId) (g : Int32 → (St × (St) × (St × (St × (St))) × (St) × (St)) → Option (Int32 × (St × (St) × (St × (St × (St))) × (St) × (St)))) (r : Int32 × (St × (St) × (St × (St × (St))) × (St) × (St))) : Prop := ∀ (x1 : Int32) (s0 : St × (St) × (St × (St × (St))) × (St) × (St)) (H : Heap) (locs : List Loc) (ls : Array Slot), g x1 s0 = some r → va_P (dC, dI) vwCl (dw_X19 a ac s0) H → va_D A (dw_X19 a ac s0) → va_S A s.heap H locs → lv_has ls 2 [(0, .ref (a 0)), (1, .int x1)] → W p l e (headSpec ow_dm_X19_pack ({ frames := 4, cells := 0, slots := 0, locals := 95 })).room s m args below meth c H locs 0 0 Q (F0 m 90 ls [])
def dj_X19_pack_54 (p : Program) (l : Launch) (e : Env) (s : State) (m : MethodId) (args : Array Value) (below : List Frame) (meth : Method) (c : Code) (Q : State → Prop) (A : Nat → Prop) (dC : Nat → ClassId) (dI : Nat → Nat → Nat) (a : Nat → Nat) (ac : Nat → ClassId) (g : Int32 → Int32 → Int32 → Int32 → (St × (St) × (St × (St × (St))) × (St) × (St)) → Option (Int32 × (St × (St) × (St × (St × (St))) × (St) × (St)))) (r : Int32 × (St × (St) × (St × (St × (St))) × (St) × (St))) : Prop := ∀ (x1 : Int32) (y1 : Int32) (y2 : Int32) (y3 : Int32) (s0 : St × (St) × (St × (St × (St))) × (St) × (St)) (H : Heap) (locs : List Loc) (ls : Array Slot), g x1 y1 y2 y3 s0 = some r → va_P (dC, dI) vwCl (dw_X19 a ac s0) H → va_D A (dw_X19 a ac s0) → va_S A s.heap H locs → lv_has ls 2 [(0, .ref (a 0)), (1, .int x1)] → W p l e (headSpec ow_dm_X19_pack ({ frames := 4, cells := 0, slots := 0, locals := 95 })).room s m args below meth c H locs 0 0 Q (F0 m 54 ls [.int y3, .int y2, .int y1, .ref (a 86)])
def dj_X19_pack_14 (p : Program) (l : Launch) (e : Env) (s : State) (m : MethodId) (args : Array Value) (below : List Frame) (meth : Method) (c : Code) (Q : State → Prop) (A : Nat → Prop) (dC : Nat → ClassId) (dI : Nat → Nat → Nat) (a : Nat → Nat) (ac : Nat → ClassId) (g : Int32 → (St × (St) × (St × (St × (St))) × (St) × (St)) → Option (Int32 × (St × (St) × (St × (St × (St))) × (St) × (St)))) (r : Int32 × (St × (St) × (St × (St × (St))) × (St) × (St))) : Prop := ∀ (x1 : Int32) (s0 : St × (St) × (St × (St × (St))) × (St) × (St)) (H : Heap) (locs : List Loc) (ls : Array Slot), g x1 s0 = some r → va_P (dC, dI) vwCl (dw_X19 a ac s0) H → va_D A (dw_X19 a ac s0) → va_S A s.heap H locs → lv_has ls 2 [(0, .ref (a 0)), (1, .int x1)] → W p l e (headSpec ow_dm_X19_pack ({ frames := 4, cells := 0, slots := 0, locals := 95 })).room s m args below meth c H locs 0 0 Q (F0 m 14 ls [])
def dj_X19_pack_0 (p : Program) (l : Launch) (e : Env) (s : State) (m : MethodId) (args : Array Value) (below : List Frame) (meth : Method) (c : Code) (Q : State → Prop) (A : Nat → Prop) (dC : Nat → ClassId) (dI : Nat → Nat → Nat) (a : Nat → Nat) (ac : Nat → ClassId) (g : (St × (St) × (St × (St × (St))) × (St) × (St)) → Option (Int32 × (St × (St) × (St × (St × (St))) × (St) × (St)))) (r : Int32 × (St × (St) × (St × (St × (St))) × (St) × (St))) : Prop := ∀ (s0 : St × (St) × (St × (St × (St))) × (St) × (St)) (H : Heap) (locs : List Loc) (ls : Array Slot), g s0 = some r → va_P (dC, dI) vwCl (dw_X19 a ac s0) H → va_D A (dw_X19 a ac s0) → va_S A s.heap H locs → lv_has ls 2 [(0, .ref (a 0))] → W p l e (headSpec ow_dm_X19_pack ({ frames := 4, cells := 0, slots := 0, locals := 95 })).room s m args below meth c H locs 0 0 Q (F0 m 0 ls [])
set_option maxHeartbeats 40000000 in
set_option maxRecDepth 100000 in
theorem dB_X19_pack_90 {p : Program} {l : Launch} {e : Env} {s : State} {m : MethodId} {args : Array Value} {below : List Frame} {meth : Method} {c : Code} {Q : State → Prop} {A : Nat → Prop} {dC : Nat → ClassId} {dI : Nat → Nat → Nat} {a : Nat → Nat} {ac : Nat → ClassId} {n : Nat} {r : Int32 × (St × (St) × (St × (St × (St))) × (St) × (St))} (C : nd_C p l s m args c A (dC, dI) cX19_pack 2 RX19 ow_dm_X19_pack (dk_X19 ac)) (K : nd_Ki p l e (headSpec ow_dm_X19_pack ({ frames := 4, cells := 0, slots := 0, locals := 95 })).room s m args below meth c Q A (dC, dI) cX19_pack .int (St × (St) × (St × (St × (St))) × (St) × (St)) (dw_X19 a ac) r) {g90 : Int32 → (St × (St) × (St × (St × (St))) × (St) × (St)) → Option (Int32 × (St × (St) × (St × (St × (St))) × (St) × (St)))} (J90 : dj_X19_pack_90 p l e s m args below meth c Q A dC dI a ac g90 r) : dj_X19_pack_90 p l e s m args below meth c Q A dC dI a ac (dF_X19_pack_90 n g90) r := by
  obtain ⟨hlt, hx, hb, hml, hown, hts, hN, hA, hK⟩ := id C
  intro x1 s0 H locs ls h hP hD hS hl
  unfold dF_X19_pack_90 at h
  refine lv_iload_n hx hb dX19_pack_90 rfl (lv_at hl 1 rfl) ?_
  refine lv_aload_n hx hb dX19_pack_91 rfl (lv_at hl 0 rfl) ?_
  refine va_get (D := (dC, dI)) (ci := 20) (v := .int (sI s0.1 12)) (C := RX19) (T := TX19) (N := 36) hx hb hts hi_dm_X19_pack_X19 hown hK hP 0 rfl rfl 35 (by decide) (hts (.fieldLink RX19 366 "TimeMachineModel" "logged" "I") (List.mem_of_getElem? (i := 11) rfl)) (fun _ h9 => h9) rfl dX19_pack_92 ?_
  refine lv_icmp_ge (tgt := 119) hx hb dX19_pack_95 (by decide) (fun c12 => ?_) (fun c12 => ?_)
  · have h := nd_pos h c12
    refine lv_aload_n hx hb dX19_pack_119 rfl (lv_at hl 0 rfl) ?_
    refine va_get (D := (dC, dI)) (ci := 20) (v := .int (sI s0.1 12)) (C := RX19) (T := TX19) (N := 36) hx hb hts hi_dm_X19_pack_X19 hown hK hP 0 rfl rfl 35 (by decide) (hts (.fieldLink RX19 366 "TimeMachineModel" "logged" "I") (List.mem_of_getElem? (i := 11) rfl)) (fun _ h9 => h9) rfl dX19_pack_120 ?_
    exact K _ _ _ _ _ _ dX19_pack_123 rfl (Option.some.inj h).symm hP hD hS
  · have h := nd_neg h c12
    refine lv_aload_n hx hb dX19_pack_98 rfl (lv_at hl 0 rfl) ?_
    refine va_get (D := (dC, dI)) (ci := 20) (v := .ref (a 14)) (C := RX19) (T := TX19) (N := 36) hx hb hts hi_dm_X19_pack_X19 hown hK hP 0 rfl rfl 34 (by decide) (hts (.fieldLink RX19 110 "TimeMachineModel" "log" "[I") (List.mem_of_getElem? (i := 12) rfl)) (fun _ h9 => h9) rfl dX19_pack_99 ?_
    refine lv_iload_n hx hb dX19_pack_102 rfl (lv_at hl 1 rfl) ?_
    refine lv_aload_n hx hb dX19_pack_103 rfl (lv_at hl 0 rfl) ?_
    refine va_get (D := (dC, dI)) (ci := 20) (v := .ref (a 86)) (C := RX19) (T := TX19) (N := 36) hx hb hts hi_dm_X19_pack_X19 hown hK hP 0 rfl rfl 15 (by decide) (hts (.fieldLink RX19 74 "TimeMachineModel" "codec" "LTimeMachineModel$Codec;") (List.mem_of_getElem? (i := 2) rfl)) (fun _ h9 => h9) rfl dX19_pack_104 ?_
    refine va_getN (D := (dC, dI)) (ci := 15) (v := .ref (a 91)) (C := RX14) (T := TX14) (N := 11) hx hb hts hi_dm_X19_pack_X14 hown hK hP 86 rfl rfl 5 (by decide) (va_Nw.use rfl (hN.1 ("TimeMachineModel", 369, "TimeMachineModel$Codec", "packed", "[I", "TimeMachineModel") (by decide))) (fun _ h9 => h9) rfl dX19_pack_107 ?_
    refine lv_iload_n hx hb dX19_pack_110 rfl (lv_at hl 1 rfl) ?_
    obtain ⟨i13, h⟩ := nd_ck_e h
    refine va_iald (i := x1) hx hb hK hP 91 85 rfl rfl i13 dX19_pack_111 ?_
    obtain ⟨i14, h⟩ := nd_ck_e h
    refine va_iast (i := x1) (x := (sR s0.2.2.2.1 2 (Int32.toNatClampNeg x1))) hx hb hK hP hD hS 14 13 rfl rfl i14 dX19_pack_112 (fun H locs hP hD hS => ?_)
    obtain ⟨s15, es15, h⟩ := nd_let_e h
    have hP : va_P (dC, dI) vwCl (dw_X19 a ac s15) H := by rw [es15]; exact hP
    have hD : va_D A (dw_X19 a ac s15) := by rw [es15]; exact hD
    obtain ⟨z16, ez16, h⟩ := nd_let_e h
    refine lv_iinc (v := z16) (lv' := [(1, .int z16), (0, .ref (a 0))]) hx hb dX19_pack_113 hl (k := 1) rfl (by rw [ez16]) (by decide) rfl (fun ls hl => ?_)
    refine lv_goto (tgt := 90) hx hb dX19_pack_116 (by decide) ?_
    exact (J90) (z16) s15 _ _ _ h hP hD hS (lv_sub hl [1, 0] rfl)
set_option maxHeartbeats 40000000 in
set_option maxRecDepth 100000 in
theorem db_X19_pack_90 {p : Program} {l : Launch} {e : Env} {s : State} {m : MethodId} {args : Array Value} {below : List Frame} {meth : Method} {c : Code} {Q : State → Prop} {A : Nat → Prop} {dC : Nat → ClassId} {dI : Nat → Nat → Nat} {a : Nat → Nat} {ac : Nat → ClassId} {n : Nat} {r : Int32 × (St × (St) × (St × (St × (St))) × (St) × (St))} (C : nd_C p l s m args c A (dC, dI) cX19_pack 2 RX19 ow_dm_X19_pack (dk_X19 ac)) (K : nd_Ki p l e (headSpec ow_dm_X19_pack ({ frames := 4, cells := 0, slots := 0, locals := 95 })).room s m args below meth c Q A (dC, dI) cX19_pack .int (St × (St) × (St × (St × (St))) × (St) × (St)) (dw_X19 a ac) r) (k : Nat) : dj_X19_pack_90 p l e s m args below meth c Q A dC dI a ac (df_X19_pack_90 n k) r := by
  induction k with
  | zero => intro x1 s0 H locs ls h; exact nomatch (show (none : Option (Int32 × (St × (St) × (St × (St × (St))) × (St) × (St)))) = some r from h)
  | succ k ih => exact dB_X19_pack_90 C K ih
set_option maxHeartbeats 40000000 in
set_option maxRecDepth 100000 in
theorem db_X19_pack_54 {p : Program} {l : Launch} {e : Env} {s : State} {m : MethodId} {args : Array Value} {below : List Frame} {meth : Method} {c : Code} {Q : State → Prop} {A : Nat → Prop} {dC : Nat → ClassId} {dI : Nat → Nat → Nat} {a : Nat → Nat} {ac : Nat → ClassId} {n : Nat} {r : Int32 × (St × (St) × (St × (St × (St))) × (St) × (St))} (C : nd_C p l s m args c A (dC, dI) cX19_pack 2 RX19 ow_dm_X19_pack (dk_X19 ac)) (K : nd_Ki p l e (headSpec ow_dm_X19_pack ({ frames := 4, cells := 0, slots := 0, locals := 95 })).room s m args below meth c Q A (dC, dI) cX19_pack .int (St × (St) × (St × (St × (St))) × (St) × (St)) (dw_X19 a ac) r) {g14 : Int32 → (St × (St) × (St × (St × (St))) × (St) × (St)) → Option (Int32 × (St × (St) × (St × (St × (St))) × (St) × (St)))} (J14 : dj_X19_pack_14 p l e s m args below meth c Q A dC dI a ac g14 r) : dj_X19_pack_54 p l e s m args below meth c Q A dC dI a ac (df_X19_pack_54 n g14) r := by
  obtain ⟨hlt, hx, hb, hml, hown, hts, hN, hA, hK⟩ := id C
  intro x1 y1 y2 y3 s0 H locs ls h hP hD hS hl
  unfold df_X19_pack_54 at h
  refine lv_isub hx hb dX19_pack_54 ?_
  refine lv_i2l hx hb dX19_pack_55 rfl ?_
  refine lv_aload_n hx hb dX19_pack_56 rfl (lv_at hl 0 rfl) ?_
  refine va_get (D := (dC, dI)) (ci := 20) (v := .ref (a 11)) (C := RX19) (T := TX19) (N := 36) hx hb hts hi_dm_X19_pack_X19 hown hK hP 0 rfl rfl 31 (by decide) (hts (.fieldLink RX19 100 "TimeMachineModel" "a" "[J") (List.mem_of_getElem? (i := 15) rfl)) (fun _ h9 => h9) rfl dX19_pack_57 ?_
  refine lv_iload_n hx hb dX19_pack_60 rfl (lv_at hl 1 rfl) ?_
  obtain ⟨i21, h⟩ := nd_ck_e h
  refine va_lald (i := x1) hx hb hK hP 11 10 rfl rfl i21 dX19_pack_61 ?_
  refine lv_aload_n hx hb dX19_pack_62 rfl (lv_at hl 0 rfl) ?_
  refine va_get (D := (dC, dI)) (ci := 20) (v := .ref (a 7)) (C := RX19) (T := TX19) (N := 36) hx hb hts hi_dm_X19_pack_X19 hown hK hP 0 rfl rfl 27 (by decide) (hts (.fieldLink RX19 88 "TimeMachineModel" "b" "[I") (List.mem_of_getElem? (i := 16) rfl)) (fun _ h9 => h9) rfl dX19_pack_63 ?_
  refine lv_iload_n hx hb dX19_pack_66 rfl (lv_at hl 1 rfl) ?_
  obtain ⟨i22, h⟩ := nd_ck_e h
  refine va_iald (i := x1) hx hb hK hP 7 6 rfl rfl i22 dX19_pack_67 ?_
  obtain ⟨s24, hq, h⟩ := nd_b1_e h
  have hPc := dp_X19_86 hP
  have hDc := dd_X19_86 hD
  have hKc := dy_X19_86 hK
  have hFc := nd_rs hDc hS hA
  have hzA : ∀ q : Nat, H.size ≤ q → A q := fun q h => hA q (Nat.le_trans hS.1 h)
  refine nd_cVv (As := [.int y1, .long (((y2 - y3) : Int32).toInt64), .long (sQ s0.1 0 (Int32.toNatClampNeg x1)), .int (sR s0.1 6 (Int32.toNatClampNeg x1))]) (rest := []) (w' := dw_X14 (fun k => a (k + 86)) (fun k => ac (k + 86)) s24) ⟨hx, hb, hml, hown, hts⟩ (fun sz => dm_X14_take l hlt dC dI (fun k => a (k + 86)) (fun k => ac (k + 86)) n (y1) ((((y2 - y3) : Int32).toInt64)) ((sQ s0.1 0 (Int32.toNatClampNeg x1))) ((sR s0.1 6 (Int32.toNatClampNeg x1))) s0.2.2.2.1 hq sz) (cwV 4 hts gi_dm_X19_pack_2 rfl rfl rfl (by decide +kernel) ⟨Nat.le_of_ble_eq_true rfl, Nat.le_of_ble_eq_true rfl⟩) hPc hDc hKc hS hA hN (va_recv hKc hPc (ci := 15) (q0 := 0) rfl rfl) rfl hl.1 rfl (Nat.le_of_ble_eq_true rfl) dX19_pack_68 (fun H locs hP1 hD1 hk1 hS => ?_)
  obtain ⟨hP, hD⟩ := dn_X19_86 hP hD hzA hk1 hP1 hD1
  obtain ⟨s26, es26, h⟩ := nd_let_e h
  have hP : va_P (dC, dI) vwCl (dw_X19 a ac s26) H := by rw [es26]; exact hP
  have hD : va_D A (dw_X19 a ac s26) := by rw [es26]; exact hD
  obtain ⟨z27, ez27, h⟩ := nd_let_e h
  refine lv_iinc (v := z27) (lv' := [(1, .int z27), (0, .ref (a 0))]) hx hb dX19_pack_71 hl (k := 1) rfl (by rw [ez27]) (by decide) rfl (fun ls hl => ?_)
  refine lv_goto (tgt := 14) hx hb dX19_pack_74 (by decide) ?_
  exact (J14) (z27) s26 _ _ _ h hP hD hS (lv_sub hl [1, 0] rfl)
set_option maxHeartbeats 40000000 in
set_option maxRecDepth 100000 in
theorem dB_X19_pack_14 {p : Program} {l : Launch} {e : Env} {s : State} {m : MethodId} {args : Array Value} {below : List Frame} {meth : Method} {c : Code} {Q : State → Prop} {A : Nat → Prop} {dC : Nat → ClassId} {dI : Nat → Nat → Nat} {a : Nat → Nat} {ac : Nat → ClassId} {n : Nat} {r : Int32 × (St × (St) × (St × (St × (St))) × (St) × (St))} (C : nd_C p l s m args c A (dC, dI) cX19_pack 2 RX19 ow_dm_X19_pack (dk_X19 ac)) (K : nd_Ki p l e (headSpec ow_dm_X19_pack ({ frames := 4, cells := 0, slots := 0, locals := 95 })).room s m args below meth c Q A (dC, dI) cX19_pack .int (St × (St) × (St × (St × (St))) × (St) × (St)) (dw_X19 a ac) r) {g14 : Int32 → (St × (St) × (St × (St × (St))) × (St) × (St)) → Option (Int32 × (St × (St) × (St × (St × (St))) × (St) × (St)))} (J14 : dj_X19_pack_14 p l e s m args below meth c Q A dC dI a ac g14 r) : dj_X19_pack_14 p l e s m args below meth c Q A dC dI a ac (dF_X19_pack_14 n g14) r := by
  obtain ⟨hlt, hx, hb, hml, hown, hts, hN, hA, hK⟩ := id C
  intro x1 s0 H locs ls h hP hD hS hl
  unfold dF_X19_pack_14 at h
  refine lv_iload_n hx hb dX19_pack_14 rfl (lv_at hl 1 rfl) ?_
  refine lv_aload_n hx hb dX19_pack_15 rfl (lv_at hl 0 rfl) ?_
  refine va_get (D := (dC, dI)) (ci := 20) (v := .int (sI s0.1 8)) (C := RX19) (T := TX19) (N := 36) hx hb hts hi_dm_X19_pack_X19 hown hK hP 0 rfl rfl 22 (by decide) (hts (.fieldLink RX19 192 "TimeMachineModel" "events" "I") (List.mem_of_getElem? (i := 7) rfl)) (fun _ h9 => h9) rfl dX19_pack_16 ?_
  refine lv_icmp_ge (tgt := 77) hx hb dX19_pack_19 (by decide) (fun c6 => ?_) (fun c6 => ?_)
  · have h := nd_pos h c6
    refine lv_aload_n hx hb dX19_pack_77 rfl (lv_at hl 0 rfl) ?_
    refine lv_aload_n hx hb dX19_pack_78 rfl (lv_at hl 0 rfl) ?_
    refine va_get (D := (dC, dI)) (ci := 20) (v := .ref (a 86)) (C := RX19) (T := TX19) (N := 36) hx hb hts hi_dm_X19_pack_X19 hown hK hP 0 rfl rfl 15 (by decide) (hts (.fieldLink RX19 74 "TimeMachineModel" "codec" "LTimeMachineModel$Codec;") (List.mem_of_getElem? (i := 2) rfl)) (fun _ h9 => h9) rfl dX19_pack_79 ?_
    obtain ⟨q7, s8, hq, h⟩ := nd_b2_e h
    have hPc := dp_X19_86 hP
    have hDc := dd_X19_86 hD
    have hKc := dy_X19_86 hK
    have hFc := nd_rs hDc hS hA
    have hzA : ∀ q : Nat, H.size ≤ q → A q := fun q h => hA q (Nat.le_trans hS.1 h)
    refine nd_cVi (As := []) (rest := [.ref (a 0)]) (q := q7) (w' := dw_X14 (fun k => a (k + 86)) (fun k => ac (k + 86)) s8) ⟨hx, hb, hml, hown, hts⟩ (fun sz => dm_X14_pack l hlt dC dI (fun k => a (k + 86)) (fun k => ac (k + 86)) n  s0.2.2.2.1 hq sz) (cwV 0 hts gi_dm_X19_pack_1 rfl rfl rfl (by decide +kernel) ⟨Nat.le_of_ble_eq_true rfl, Nat.le_of_ble_eq_true rfl⟩) hPc hDc hKc hS hA hN (va_recv hKc hPc (ci := 15) (q0 := 0) rfl rfl) rfl hl.1 rfl (Nat.le_of_ble_eq_true rfl) dX19_pack_82 (fun H locs hP1 hD1 hk1 hS => ?_)
    obtain ⟨hP, hD⟩ := dn_X19_86 hP hD hzA hk1 hP1 hD1
    obtain ⟨s10, es10, h⟩ := nd_let_e h
    have hP : va_P (dC, dI) vwCl (dw_X19 a ac s10) H := by rw [es10]; exact hP
    have hD : va_D A (dw_X19 a ac s10) := by rw [es10]; exact hD
    refine va_put (D := (dC, dI)) (ci := 20) (v := .int q7) (ty := .int) (C := RX19) (T := TX19) (N := 36) hx hb hts hi_dm_X19_pack_X19 tyX19 tyX19_ok nmX19 hown hK hP hD hS 0 rfl rfl 35 (by decide) (hts (.fieldLink RX19 366 "TimeMachineModel" "logged" "I") (List.mem_of_getElem? (i := 11) rfl)) (fun _ h9 => h9) rfl (by decide +kernel) rfl rfl (Nat.le_of_ble_eq_true rfl) dX19_pack_85 (fun H locs hP hD hS => ?_)
    obtain ⟨s11, es11, h⟩ := nd_let_e h
    have hP : va_P (dC, dI) vwCl (dw_X19 a ac s11) H := by rw [es11]; exact hP
    have hD : va_D A (dw_X19 a ac s11) := by rw [es11]; exact hD
    refine lv_iconst (v := 0) hx hb dX19_pack_88 (by decide) ?_
    refine lv_istore_n (lv' := [(1, .int 0), (0, .ref (a 0))]) hx hb dX19_pack_89 rfl hl (by decide) rfl (fun ls hl => ?_)
    exact (db_X19_pack_90 C K n) (0) s11 _ _ _ h hP hD hS (lv_sub hl [1, 0] rfl)
  · have h := nd_neg h c6
    refine lv_aload_n hx hb dX19_pack_22 rfl (lv_at hl 0 rfl) ?_
    refine va_get (D := (dC, dI)) (ci := 20) (v := .ref (a 86)) (C := RX19) (T := TX19) (N := 36) hx hb hts hi_dm_X19_pack_X19 hown hK hP 0 rfl rfl 15 (by decide) (hts (.fieldLink RX19 74 "TimeMachineModel" "codec" "LTimeMachineModel$Codec;") (List.mem_of_getElem? (i := 2) rfl)) (fun _ h9 => h9) rfl dX19_pack_23 ?_
    refine lv_aload_n hx hb dX19_pack_26 rfl (lv_at hl 0 rfl) ?_
    refine va_get (D := (dC, dI)) (ci := 20) (v := .ref (a 6)) (C := RX19) (T := TX19) (N := 36) hx hb hts hi_dm_X19_pack_X19 hown hK hP 0 rfl rfl 26 (by decide) (hts (.fieldLink RX19 85 "TimeMachineModel" "kind" "[I") (List.mem_of_getElem? (i := 13) rfl)) (fun _ h9 => h9) rfl dX19_pack_27 ?_
    refine lv_iload_n hx hb dX19_pack_30 rfl (lv_at hl 1 rfl) ?_
    obtain ⟨i17, h⟩ := nd_ck_e h
    refine va_iald (i := x1) hx hb hK hP 6 5 rfl rfl i17 dX19_pack_31 ?_
    refine lv_aload_n hx hb dX19_pack_32 rfl (lv_at hl 0 rfl) ?_
    refine va_get (D := (dC, dI)) (ci := 20) (v := .ref (a 8)) (C := RX19) (T := TX19) (N := 36) hx hb hts hi_dm_X19_pack_X19 hown hK hP 0 rfl rfl 28 (by decide) (hts (.fieldLink RX19 91 "TimeMachineModel" "when" "[I") (List.mem_of_getElem? (i := 14) rfl)) (fun _ h9 => h9) rfl dX19_pack_33 ?_
    refine lv_iload_n hx hb dX19_pack_36 rfl (lv_at hl 1 rfl) ?_
    obtain ⟨i18, h⟩ := nd_ck_e h
    refine va_iald (i := x1) hx hb hK hP 8 7 rfl rfl i18 dX19_pack_37 ?_
    refine lv_iload_n hx hb dX19_pack_38 rfl (lv_at hl 1 rfl) ?_
    refine lv_if_ne (tgt := 46) hx hb dX19_pack_39 (by decide) (fun c19 => ?_) (fun c19 => ?_)
    · have h := nd_neg h c19
      refine lv_aload_n hx hb dX19_pack_46 rfl (lv_at hl 0 rfl) ?_
      refine va_get (D := (dC, dI)) (ci := 20) (v := .ref (a 8)) (C := RX19) (T := TX19) (N := 36) hx hb hts hi_dm_X19_pack_X19 hown hK hP 0 rfl rfl 28 (by decide) (hts (.fieldLink RX19 91 "TimeMachineModel" "when" "[I") (List.mem_of_getElem? (i := 14) rfl)) (fun _ h9 => h9) rfl dX19_pack_47 ?_
      refine lv_iload_n hx hb dX19_pack_50 rfl (lv_at hl 1 rfl) ?_
      refine lv_iconst (v := 1) hx hb dX19_pack_51 (by decide) ?_
      refine lv_isub hx hb dX19_pack_52 ?_
      obtain ⟨i20, h⟩ := nd_ck_e h
      refine va_iald (i := (x1 - 1)) hx hb hK hP 8 7 rfl rfl i20 dX19_pack_53 ?_
      exact (db_X19_pack_54 C K J14) (x1) ((sR s0.1 5 (Int32.toNatClampNeg x1))) ((sR s0.1 7 (Int32.toNatClampNeg x1))) ((sR s0.1 7 (Int32.toNatClampNeg (x1 - 1)))) s0 _ _ _ h hP hD hS (lv_sub hl [0, 1] rfl)
    · have h := nd_pos h c19
      refine lv_iconst (v := 0) hx hb dX19_pack_42 (by decide) ?_
      refine lv_goto (tgt := 54) hx hb dX19_pack_43 (by decide) ?_
      exact (db_X19_pack_54 C K J14) (x1) ((sR s0.1 5 (Int32.toNatClampNeg x1))) ((sR s0.1 7 (Int32.toNatClampNeg x1))) (0) s0 _ _ _ h hP hD hS (lv_sub hl [0, 1] rfl)
set_option maxHeartbeats 40000000 in
set_option maxRecDepth 100000 in
theorem db_X19_pack_14 {p : Program} {l : Launch} {e : Env} {s : State} {m : MethodId} {args : Array Value} {below : List Frame} {meth : Method} {c : Code} {Q : State → Prop} {A : Nat → Prop} {dC : Nat → ClassId} {dI : Nat → Nat → Nat} {a : Nat → Nat} {ac : Nat → ClassId} {n : Nat} {r : Int32 × (St × (St) × (St × (St × (St))) × (St) × (St))} (C : nd_C p l s m args c A (dC, dI) cX19_pack 2 RX19 ow_dm_X19_pack (dk_X19 ac)) (K : nd_Ki p l e (headSpec ow_dm_X19_pack ({ frames := 4, cells := 0, slots := 0, locals := 95 })).room s m args below meth c Q A (dC, dI) cX19_pack .int (St × (St) × (St × (St × (St))) × (St) × (St)) (dw_X19 a ac) r) (k : Nat) : dj_X19_pack_14 p l e s m args below meth c Q A dC dI a ac (df_X19_pack_14 n k) r := by
  induction k with
  | zero => intro x1 s0 H locs ls h; exact nomatch (show (none : Option (Int32 × (St × (St) × (St × (St × (St))) × (St) × (St)))) = some r from h)
  | succ k ih => exact dB_X19_pack_14 C K ih
set_option maxHeartbeats 40000000 in
set_option maxRecDepth 100000 in
theorem db_X19_pack_0 {p : Program} {l : Launch} {e : Env} {s : State} {m : MethodId} {args : Array Value} {below : List Frame} {meth : Method} {c : Code} {Q : State → Prop} {A : Nat → Prop} {dC : Nat → ClassId} {dI : Nat → Nat → Nat} {a : Nat → Nat} {ac : Nat → ClassId} {n : Nat} {r : Int32 × (St × (St) × (St × (St × (St))) × (St) × (St))} (C : nd_C p l s m args c A (dC, dI) cX19_pack 2 RX19 ow_dm_X19_pack (dk_X19 ac)) (K : nd_Ki p l e (headSpec ow_dm_X19_pack ({ frames := 4, cells := 0, slots := 0, locals := 95 })).room s m args below meth c Q A (dC, dI) cX19_pack .int (St × (St) × (St × (St × (St))) × (St) × (St)) (dw_X19 a ac) r) : dj_X19_pack_0 p l e s m args below meth c Q A dC dI a ac (df_X19_pack_0 n) r := by
  obtain ⟨hlt, hx, hb, hml, hown, hts, hN, hA, hK⟩ := id C
  intro s0 H locs ls h hP hD hS hl
  unfold df_X19_pack_0 at h
  refine lv_aload_n hx hb dX19_pack_0 rfl (lv_at hl 0 rfl) ?_
  refine lv_iconst (v := 0) hx hb dX19_pack_1 (by decide) ?_
  refine va_put (D := (dC, dI)) (ci := 20) (v := .int 0) (ty := .int) (C := RX19) (T := TX19) (N := 36) hx hb hts hi_dm_X19_pack_X19 tyX19 tyX19_ok nmX19 hown hK hP hD hS 0 rfl rfl 0 (by decide) (hts (.fieldLink RX19 113 "TimeMachineModel" "code" "I") (List.mem_of_getElem? (i := 1) rfl)) (fun _ h9 => h9) rfl (by decide +kernel) rfl rfl (Nat.le_of_ble_eq_true rfl) dX19_pack_2 (fun H locs hP hD hS => ?_)
  obtain ⟨s1, es1, h⟩ := nd_let_e h
  have hP : va_P (dC, dI) vwCl (dw_X19 a ac s1) H := by rw [es1]; exact hP
  have hD : va_D A (dw_X19 a ac s1) := by rw [es1]; exact hD
  refine lv_aload_n hx hb dX19_pack_5 rfl (lv_at hl 0 rfl) ?_
  refine va_get (D := (dC, dI)) (ci := 20) (v := .ref (a 86)) (C := RX19) (T := TX19) (N := 36) hx hb hts hi_dm_X19_pack_X19 hown hK hP 0 rfl rfl 15 (by decide) (hts (.fieldLink RX19 74 "TimeMachineModel" "codec" "LTimeMachineModel$Codec;") (List.mem_of_getElem? (i := 2) rfl)) (fun _ h9 => h9) rfl dX19_pack_6 ?_
  obtain ⟨s3, hq, h⟩ := nd_b1_e h
  have hPc := dp_X19_86 hP
  have hDc := dd_X19_86 hD
  have hKc := dy_X19_86 hK
  have hFc := nd_rs hDc hS hA
  have hzA : ∀ q : Nat, H.size ≤ q → A q := fun q h => hA q (Nat.le_trans hS.1 h)
  refine nd_cVv (As := []) (rest := []) (w' := dw_X14 (fun k => a (k + 86)) (fun k => ac (k + 86)) s3) ⟨hx, hb, hml, hown, hts⟩ (fun sz => dm_X14_clear l hlt dC dI (fun k => a (k + 86)) (fun k => ac (k + 86)) n  s1.2.2.2.1 hq sz) (cwV 0 hts gi_dm_X19_pack_0 rfl rfl rfl (by decide +kernel) ⟨Nat.le_of_ble_eq_true rfl, Nat.le_of_ble_eq_true rfl⟩) hPc hDc hKc hS hA hN (va_recv hKc hPc (ci := 15) (q0 := 0) rfl rfl) rfl hl.1 rfl (Nat.le_of_ble_eq_true rfl) dX19_pack_9 (fun H locs hP1 hD1 hk1 hS => ?_)
  obtain ⟨hP, hD⟩ := dn_X19_86 hP hD hzA hk1 hP1 hD1
  obtain ⟨s5, es5, h⟩ := nd_let_e h
  have hP : va_P (dC, dI) vwCl (dw_X19 a ac s5) H := by rw [es5]; exact hP
  have hD : va_D A (dw_X19 a ac s5) := by rw [es5]; exact hD
  refine lv_iconst (v := 0) hx hb dX19_pack_12 (by decide) ?_
  refine lv_istore_n (lv' := [(1, .int 0), (0, .ref (a 0))]) hx hb dX19_pack_13 rfl hl (by decide) rfl (fun ls hl => ?_)
  exact (db_X19_pack_14 C K n) (0) s5 _ _ _ h hP hD hS (lv_sub hl [1, 0] rfl)
set_option maxHeartbeats 40000000 in
set_option maxRecDepth 100000 in
theorem dm_X19_pack (l : Launch) (hlt : l.stackTraces = false) (dC : Nat → ClassId) (dI : Nat → Nat → Nat) (a : Nat → Nat) (ac : Nat → ClassId) (n : Nat) (s0 : St × (St) × (St × (St × (St))) × (St) × (St)) {r : Int32 × (St × (St) × (St × (St × (St))) × (St) × (St))} (h : df_X19_pack n s0 = some r) (sz : Nat) : Met l yX19_pack ow_dm_X19_pack ({ frames := 4, cells := 0, slots := 0, locals := 95 }) (va_Pc [.ref (a 0)] (fun U => U.heap.size = sz ∧ va_P (dC, dI) vwCl (dw_X19 a ac s0) U.heap ∧ va_K (dC, dI) vwCl (dk_X19 ac) U ∧ va_D (fun _ => True) (dw_X19 a ac s0) ∧ nv_E (va_A (dw_X19 a ac s0) sz) U)) (va_Qi (fun x _ => x = r.1) (fun (_ : Unit) t => va_P (dC, dI) vwCl (dw_X19 a ac r.2) t.heap ∧ va_K (dC, dI) vwCl (dk_X19 ac) t ∧ va_D (va_A (dw_X19 a ac s0) sz) (dw_X19 a ac r.2)) (va_A (dw_X19 a ac s0) sz)) 0 0 (va_A (dw_X19 a ac s0) sz) := by
  refine Met.ofW (cc := cX19_pack) (maxL := 2) (ret := (some .int)) (by decide) rfl ?_
  intro p e s m args below meth c s₁ B hml hv
  obtain ⟨rfl, hsz, hP, hK, hD0, hN⟩ := hv
  have hx := B.exec
  have hb := B.bytes
  have hr := B.returns
  have hts := atoms_spec (ws := ow_dm_X19_pack) B.pre
  have hown : s.vm.findClass RX19 = some m.cls := findClass_of_methodNamed B.named
  have hlocks := B.notSynchronized
  subst hsz
  have hD := hD0.self (sz := s.heap.size)
  generalize hAe : va_A (dw_X19 a ac s0) s.heap.size = A at hD hN ⊢
  have hA : ∀ q : Nat, s.heap.size ≤ q → A q := fun q h => by rw [← hAe]; exact Or.inr h
  have hl := lv_entry ([.ref (a 0)]) (n := 2) (Nat.le_of_ble_eq_true rfl)
  rw [lg_entry_eq]
  generalize (lg_sl ([.ref (a 0)]) ++ List.replicate (2 - (lg_sl ([.ref (a 0)])).length) Slot.unset).toArray = ls at hl ⊢
  have hl : lv_has ls 2 [(0, .ref (a 0))] := hl
  exact db_X19_pack_0 (dC := dC) (dI := dI) (a := a) (ac := ac) (n := n) (r := r) ⟨hlt, hx, hb, hml, hown, hts, hN, hA, hK⟩ (fun pc v τ H locs ls d z er hP hD hS => by subst er; exact W.zret (v := v) hx hb hr z (fun t ht hW => ⟨⟨v, (), rfl, rfl, by rw [ht]; exact hP, va_K.moved hW.alike hK, hD⟩, hS.F ht⟩) hS.2.2 d) s0 _ _ _ h hP hD va_S.rf (lv_sub hl [0] rfl)
def ow_dm_X19_logByte : List Cond := .code yX19_logByte cX19_logByte 2 (some .int) :: ([.fieldLink RX19 113 "TimeMachineModel" "code" "I", .fieldLink RX19 366 "TimeMachineModel" "logged" "I", .fieldLink RX19 110 "TimeMachineModel" "log" "[I"] ++ (u_ws RX19 TX19 36 ++ []))
theorem gd_dm_X19_logByte : ∀ w ∈ ow_dm_X19_logByte, (w.onTables && w.keeps) = true ∨ ∃ ty, w = Cond.arrayClass ty := List.forall_mem_cons.mpr ⟨good_of_word rfl, List.forall_mem_append.mpr ⟨fun w h => good_of_word (List.all_eq_true.mp (by decide +kernel) w h), List.forall_mem_append.mpr ⟨gu_X19, fun _ h => nomatch h⟩⟩⟩
theorem hi_dm_X19_logByte_X19 : ∀ w ∈ u_ws RX19 TX19 36, w ∈ ow_dm_X19_logByte := fun w h => List.mem_cons_of_mem _ (List.mem_append_right _ (List.mem_append_left _ h))
def dj_X19_logByte_27 (p : Program) (l : Launch) (e : Env) (s : State) (m : MethodId) (args : Array Value) (below : List Frame) (meth : Method) (c : Code) (Q : State → Prop) (A : Nat → Prop) (dC : Nat → ClassId) (dI : Nat → Nat → Nat) (a : Nat → Nat) (ac : Nat → ClassId) (g : Int32 → (St × (St) × (St × (St × (St))) × (St) × (St)) → Option (Int32 × (St × (St) × (St × (St × (St))) × (St) × (St)))) (r : Int32 × (St × (St) × (St × (St × (St))) × (St) × (St))) : Prop := ∀ (y0 : Int32) (s0 : St × (St) × (St × (St × (St))) × (St) × (St)) (H : Heap) (locs : List Loc) (ls : Array Slot), g y0 s0 = some r → va_P (dC, dI) vwCl (dw_X19 a ac s0) H → va_D A (dw_X19 a ac s0) → va_S A s.heap H locs → lv_has ls 2 [] → W p l e (headSpec ow_dm_X19_logByte ({ frames := 0, cells := 0, slots := 0, locals := 0 })).room s m args below meth c H locs 0 0 Q (F0 m 27 ls [.int y0])
def dj_X19_logByte_17 (p : Program) (l : Launch) (e : Env) (s : State) (m : MethodId) (args : Array Value) (below : List Frame) (meth : Method) (c : Code) (Q : State → Prop) (A : Nat → Prop) (dC : Nat → ClassId) (dI : Nat → Nat → Nat) (a : Nat → Nat) (ac : Nat → ClassId) (g : (St × (St) × (St × (St × (St))) × (St) × (St)) → Option (Int32 × (St × (St) × (St × (St × (St))) × (St) × (St)))) (r : Int32 × (St × (St) × (St × (St × (St))) × (St) × (St))) : Prop := ∀ (s0 : St × (St) × (St × (St × (St))) × (St) × (St)) (H : Heap) (locs : List Loc) (ls : Array Slot), g s0 = some r → va_P (dC, dI) vwCl (dw_X19 a ac s0) H → va_D A (dw_X19 a ac s0) → va_S A s.heap H locs → lv_has ls 2 [] → W p l e (headSpec ow_dm_X19_logByte ({ frames := 0, cells := 0, slots := 0, locals := 0 })).room s m args below meth c H locs 0 0 Q (F0 m 17 ls [])
def dj_X19_logByte_0 (p : Program) (l : Launch) (e : Env) (s : State) (m : MethodId) (args : Array Value) (below : List Frame) (meth : Method) (c : Code) (Q : State → Prop) (A : Nat → Prop) (dC : Nat → ClassId) (dI : Nat → Nat → Nat) (a : Nat → Nat) (ac : Nat → ClassId) (g : Int32 → (St × (St) × (St × (St × (St))) × (St) × (St)) → Option (Int32 × (St × (St) × (St × (St × (St))) × (St) × (St)))) (r : Int32 × (St × (St) × (St × (St × (St))) × (St) × (St))) : Prop := ∀ (v0 : Int32) (s0 : St × (St) × (St × (St × (St))) × (St) × (St)) (H : Heap) (locs : List Loc) (ls : Array Slot), g v0 s0 = some r → va_P (dC, dI) vwCl (dw_X19 a ac s0) H → va_D A (dw_X19 a ac s0) → va_S A s.heap H locs → lv_has ls 2 [(0, .ref (a 0)), (1, .int v0)] → W p l e (headSpec ow_dm_X19_logByte ({ frames := 0, cells := 0, slots := 0, locals := 0 })).room s m args below meth c H locs 0 0 Q (F0 m 0 ls [])
set_option maxHeartbeats 40000000 in
set_option maxRecDepth 100000 in
theorem db_X19_logByte_27 {p : Program} {l : Launch} {e : Env} {s : State} {m : MethodId} {args : Array Value} {below : List Frame} {meth : Method} {c : Code} {Q : State → Prop} {A : Nat → Prop} {dC : Nat → ClassId} {dI : Nat → Nat → Nat} {a : Nat → Nat} {ac : Nat → ClassId} {n : Nat} {r : Int32 × (St × (St) × (St × (St × (St))) × (St) × (St))} (C : nd_C p l s m args c A (dC, dI) cX19_logByte 2 RX19 ow_dm_X19_logByte (dk_X19 ac)) (K : nd_Ki p l e (headSpec ow_dm_X19_logByte ({ frames := 0, cells := 0, slots := 0, locals := 0 })).room s m args below meth c Q A (dC, dI) cX19_logByte .int (St × (St) × (St × (St × (St))) × (St) × (St)) (dw_X19 a ac) r) : dj_X19_logByte_27 p l e s m args below meth c Q A dC dI a ac (df_X19_logByte_27 n) r := by
  obtain ⟨hlt, hx, hb, hml, hown, hts, hN, hA, hK⟩ := id C
  intro y0 s0 H locs ls h hP hD hS hl
  unfold df_X19_logByte_27 at h
  exact K _ _ _ _ _ _ dX19_logByte_27 rfl (Option.some.inj h).symm hP hD hS
set_option maxHeartbeats 40000000 in
set_option maxRecDepth 100000 in
theorem db_X19_logByte_17 {p : Program} {l : Launch} {e : Env} {s : State} {m : MethodId} {args : Array Value} {below : List Frame} {meth : Method} {c : Code} {Q : State → Prop} {A : Nat → Prop} {dC : Nat → ClassId} {dI : Nat → Nat → Nat} {a : Nat → Nat} {ac : Nat → ClassId} {n : Nat} {r : Int32 × (St × (St) × (St × (St × (St))) × (St) × (St))} (C : nd_C p l s m args c A (dC, dI) cX19_logByte 2 RX19 ow_dm_X19_logByte (dk_X19 ac)) (K : nd_Ki p l e (headSpec ow_dm_X19_logByte ({ frames := 0, cells := 0, slots := 0, locals := 0 })).room s m args below meth c Q A (dC, dI) cX19_logByte .int (St × (St) × (St × (St × (St))) × (St) × (St)) (dw_X19 a ac) r) : dj_X19_logByte_17 p l e s m args below meth c Q A dC dI a ac (df_X19_logByte_17 n) r := by
  obtain ⟨hlt, hx, hb, hml, hown, hts, hN, hA, hK⟩ := id C
  intro s0 H locs ls h hP hD hS hl
  unfold df_X19_logByte_17 at h
  refine lv_iconst (v := (-1)) hx hb dX19_logByte_17 (by decide) ?_
  refine lv_goto (tgt := 27) hx hb dX19_logByte_18 (by decide) ?_
  exact (db_X19_logByte_27 C K) ((-1)) s0 _ _ _ h hP hD hS (lv_sub hl [] rfl)
set_option maxHeartbeats 40000000 in
set_option maxRecDepth 100000 in
theorem db_X19_logByte_0 {p : Program} {l : Launch} {e : Env} {s : State} {m : MethodId} {args : Array Value} {below : List Frame} {meth : Method} {c : Code} {Q : State → Prop} {A : Nat → Prop} {dC : Nat → ClassId} {dI : Nat → Nat → Nat} {a : Nat → Nat} {ac : Nat → ClassId} {n : Nat} {r : Int32 × (St × (St) × (St × (St × (St))) × (St) × (St))} (C : nd_C p l s m args c A (dC, dI) cX19_logByte 2 RX19 ow_dm_X19_logByte (dk_X19 ac)) (K : nd_Ki p l e (headSpec ow_dm_X19_logByte ({ frames := 0, cells := 0, slots := 0, locals := 0 })).room s m args below meth c Q A (dC, dI) cX19_logByte .int (St × (St) × (St × (St × (St))) × (St) × (St)) (dw_X19 a ac) r) : dj_X19_logByte_0 p l e s m args below meth c Q A dC dI a ac (df_X19_logByte_0 n) r := by
  obtain ⟨hlt, hx, hb, hml, hown, hts, hN, hA, hK⟩ := id C
  intro v0 s0 H locs ls h hP hD hS hl
  unfold df_X19_logByte_0 at h
  refine lv_aload_n hx hb dX19_logByte_0 rfl (lv_at hl 0 rfl) ?_
  refine lv_iconst (v := 0) hx hb dX19_logByte_1 (by decide) ?_
  refine va_put (D := (dC, dI)) (ci := 20) (v := .int 0) (ty := .int) (C := RX19) (T := TX19) (N := 36) hx hb hts hi_dm_X19_logByte_X19 tyX19 tyX19_ok nmX19 hown hK hP hD hS 0 rfl rfl 0 (by decide) (hts (.fieldLink RX19 113 "TimeMachineModel" "code" "I") (List.mem_of_getElem? (i := 1) rfl)) (fun _ h9 => h9) rfl (by decide +kernel) rfl rfl (Nat.le_of_ble_eq_true rfl) dX19_logByte_2 (fun H locs hP hD hS => ?_)
  obtain ⟨s1, es1, h⟩ := nd_let_e h
  have hP : va_P (dC, dI) vwCl (dw_X19 a ac s1) H := by rw [es1]; exact hP
  have hD : va_D A (dw_X19 a ac s1) := by rw [es1]; exact hD
  refine lv_iload_n hx hb dX19_logByte_5 rfl (lv_at hl 1 rfl) ?_
  refine lv_if_lt (tgt := 17) hx hb dX19_logByte_6 (by decide) (fun c2 => ?_) (fun c2 => ?_)
  · have h := nd_pos h c2
    exact (db_X19_logByte_17 C K)  s1 _ _ _ h hP hD hS (lv_sub hl [] rfl)
  · have h := nd_neg h c2
    refine lv_iload_n hx hb dX19_logByte_9 rfl (lv_at hl 1 rfl) ?_
    refine lv_aload_n hx hb dX19_logByte_10 rfl (lv_at hl 0 rfl) ?_
    refine va_get (D := (dC, dI)) (ci := 20) (v := .int (sI s1.1 12)) (C := RX19) (T := TX19) (N := 36) hx hb hts hi_dm_X19_logByte_X19 hown hK hP 0 rfl rfl 35 (by decide) (hts (.fieldLink RX19 366 "TimeMachineModel" "logged" "I") (List.mem_of_getElem? (i := 2) rfl)) (fun _ h9 => h9) rfl dX19_logByte_11 ?_
    refine lv_icmp_lt (tgt := 21) hx hb dX19_logByte_14 (by decide) (fun c3 => ?_) (fun c3 => ?_)
    · have h := nd_pos h c3
      refine lv_aload_n hx hb dX19_logByte_21 rfl (lv_at hl 0 rfl) ?_
      refine va_get (D := (dC, dI)) (ci := 20) (v := .ref (a 14)) (C := RX19) (T := TX19) (N := 36) hx hb hts hi_dm_X19_logByte_X19 hown hK hP 0 rfl rfl 34 (by decide) (hts (.fieldLink RX19 110 "TimeMachineModel" "log" "[I") (List.mem_of_getElem? (i := 3) rfl)) (fun _ h9 => h9) rfl dX19_logByte_22 ?_
      refine lv_iload_n hx hb dX19_logByte_25 rfl (lv_at hl 1 rfl) ?_
      obtain ⟨i4, h⟩ := nd_ck_e h
      refine va_iald (i := v0) hx hb hK hP 14 13 rfl rfl i4 dX19_logByte_26 ?_
      exact (db_X19_logByte_27 C K) ((sR s1.1 10 (Int32.toNatClampNeg v0))) s1 _ _ _ h hP hD hS (lv_sub hl [] rfl)
    · have h := nd_neg h c3
      exact (db_X19_logByte_17 C K)  s1 _ _ _ h hP hD hS (lv_sub hl [] rfl)
set_option maxHeartbeats 40000000 in
set_option maxRecDepth 100000 in
theorem dm_X19_logByte (l : Launch) (hlt : l.stackTraces = false) (dC : Nat → ClassId) (dI : Nat → Nat → Nat) (a : Nat → Nat) (ac : Nat → ClassId) (n : Nat) (v0 : Int32) (s0 : St × (St) × (St × (St × (St))) × (St) × (St)) {r : Int32 × (St × (St) × (St × (St × (St))) × (St) × (St))} (h : df_X19_logByte n v0 s0 = some r) (sz : Nat) : Met l yX19_logByte ow_dm_X19_logByte ({ frames := 0, cells := 0, slots := 0, locals := 0 }) (va_Pc [.ref (a 0), .int v0] (fun U => U.heap.size = sz ∧ va_P (dC, dI) vwCl (dw_X19 a ac s0) U.heap ∧ va_K (dC, dI) vwCl (dk_X19 ac) U ∧ va_D (fun _ => True) (dw_X19 a ac s0) ∧ nv_E (va_A (dw_X19 a ac s0) sz) U)) (va_Qi (fun x _ => x = r.1) (fun (_ : Unit) t => va_P (dC, dI) vwCl (dw_X19 a ac r.2) t.heap ∧ va_K (dC, dI) vwCl (dk_X19 ac) t ∧ va_D (va_A (dw_X19 a ac s0) sz) (dw_X19 a ac r.2)) (va_A (dw_X19 a ac s0) sz)) 0 0 (va_A (dw_X19 a ac s0) sz) := by
  refine Met.ofW (cc := cX19_logByte) (maxL := 2) (ret := (some .int)) (by decide) rfl ?_
  intro p e s m args below meth c s₁ B hml hv
  obtain ⟨rfl, hsz, hP, hK, hD0, hN⟩ := hv
  have hx := B.exec
  have hb := B.bytes
  have hr := B.returns
  have hts := atoms_spec (ws := ow_dm_X19_logByte) B.pre
  have hown : s.vm.findClass RX19 = some m.cls := findClass_of_methodNamed B.named
  have hlocks := B.notSynchronized
  subst hsz
  have hD := hD0.self (sz := s.heap.size)
  generalize hAe : va_A (dw_X19 a ac s0) s.heap.size = A at hD hN ⊢
  have hA : ∀ q : Nat, s.heap.size ≤ q → A q := fun q h => by rw [← hAe]; exact Or.inr h
  have hl := lv_entry ([.ref (a 0), .int v0]) (n := 2) (Nat.le_of_ble_eq_true rfl)
  rw [lg_entry_eq]
  generalize (lg_sl ([.ref (a 0), .int v0]) ++ List.replicate (2 - (lg_sl ([.ref (a 0), .int v0])).length) Slot.unset).toArray = ls at hl ⊢
  have hl : lv_has ls 2 [(0, .ref (a 0)), (1, .int v0)] := hl
  exact db_X19_logByte_0 (dC := dC) (dI := dI) (a := a) (ac := ac) (n := n) (r := r) ⟨hlt, hx, hb, hml, hown, hts, hN, hA, hK⟩ (fun pc v τ H locs ls d z er hP hD hS => by subst er; exact W.zret (v := v) hx hb hr z (fun t ht hW => ⟨⟨v, (), rfl, rfl, by rw [ht]; exact hP, va_K.moved hW.alike hK, hD⟩, hS.F ht⟩) hS.2.2 d) v0 s0 _ _ _ h hP hD va_S.rf (lv_sub hl [0, 1] rfl)
def ow_dm_X19_event : List Cond := .code yX19_event cX19_event 3 (some .long) :: ([.fieldLink RX19 113 "TimeMachineModel" "code" "I", .constantLong RX19 292 (-1), .fieldLink RX19 192 "TimeMachineModel" "events" "I", .fieldLink RX19 88 "TimeMachineModel" "b" "[I", .fieldLink RX19 100 "TimeMachineModel" "a" "[J", .fieldLink RX19 91 "TimeMachineModel" "when" "[I", .fieldLink RX19 85 "TimeMachineModel" "kind" "[I"] ++ (u_ws RX19 TX19 36 ++ []))
theorem gd_dm_X19_event : ∀ w ∈ ow_dm_X19_event, (w.onTables && w.keeps) = true ∨ ∃ ty, w = Cond.arrayClass ty := List.forall_mem_cons.mpr ⟨good_of_word rfl, List.forall_mem_append.mpr ⟨fun w h => good_of_word (List.all_eq_true.mp (by decide +kernel) w h), List.forall_mem_append.mpr ⟨gu_X19, fun _ h => nomatch h⟩⟩⟩
theorem hi_dm_X19_event_X19 : ∀ w ∈ u_ws RX19 TX19 36, w ∈ ow_dm_X19_event := fun w h => List.mem_cons_of_mem _ (List.mem_append_right _ (List.mem_append_left _ h))
def dj_X19_event_17 (p : Program) (l : Launch) (e : Env) (s : State) (m : MethodId) (args : Array Value) (below : List Frame) (meth : Method) (c : Code) (Q : State → Prop) (A : Nat → Prop) (dC : Nat → ClassId) (dI : Nat → Nat → Nat) (a : Nat → Nat) (ac : Nat → ClassId) (g : (St × (St) × (St × (St × (St))) × (St) × (St)) → Option (Int64 × (St × (St) × (St × (St × (St))) × (St) × (St)))) (r : Int64 × (St × (St) × (St × (St × (St))) × (St) × (St))) : Prop := ∀ (s0 : St × (St) × (St × (St × (St))) × (St) × (St)) (H : Heap) (locs : List Loc) (ls : Array Slot), g s0 = some r → va_P (dC, dI) vwCl (dw_X19 a ac s0) H → va_D A (dw_X19 a ac s0) → va_S A s.heap H locs → lv_has ls 3 [] → W p l e (headSpec ow_dm_X19_event ({ frames := 0, cells := 0, slots := 0, locals := 0 })).room s m args below meth c H locs 0 0 Q (F0 m 17 ls [])
def dj_X19_event_82 (p : Program) (l : Launch) (e : Env) (s : State) (m : MethodId) (args : Array Value) (below : List Frame) (meth : Method) (c : Code) (Q : State → Prop) (A : Nat → Prop) (dC : Nat → ClassId) (dI : Nat → Nat → Nat) (a : Nat → Nat) (ac : Nat → ClassId) (g : Int64 → (St × (St) × (St × (St × (St))) × (St) × (St)) → Option (Int64 × (St × (St) × (St × (St × (St))) × (St) × (St)))) (r : Int64 × (St × (St) × (St × (St × (St))) × (St) × (St))) : Prop := ∀ (y0 : Int64) (s0 : St × (St) × (St × (St × (St))) × (St) × (St)) (H : Heap) (locs : List Loc) (ls : Array Slot), g y0 s0 = some r → va_P (dC, dI) vwCl (dw_X19 a ac s0) H → va_D A (dw_X19 a ac s0) → va_S A s.heap H locs → lv_has ls 3 [] → W p l e (headSpec ow_dm_X19_event ({ frames := 0, cells := 0, slots := 0, locals := 0 })).room s m args below meth c H locs 0 0 Q (F0 m 82 ls [.long y0])
def dj_X19_event_0 (p : Program) (l : Launch) (e : Env) (s : State) (m : MethodId) (args : Array Value) (below : List Frame) (meth : Method) (c : Code) (Q : State → Prop) (A : Nat → Prop) (dC : Nat → ClassId) (dI : Nat → Nat → Nat) (a : Nat → Nat) (ac : Nat → ClassId) (g : Int32 → Int32 → (St × (St) × (St × (St × (St))) × (St) × (St)) → Option (Int64 × (St × (St) × (St × (St × (St))) × (St) × (St)))) (r : Int64 × (St × (St) × (St × (St × (St))) × (St) × (St))) : Prop := ∀ (v0 : Int32) (v1 : Int32) (s0 : St × (St) × (St × (St × (St))) × (St) × (St)) (H : Heap) (locs : List Loc) (ls : Array Slot), g v0 v1 s0 = some r → va_P (dC, dI) vwCl (dw_X19 a ac s0) H → va_D A (dw_X19 a ac s0) → va_S A s.heap H locs → lv_has ls 3 [(0, .ref (a 0)), (1, .int v0), (2, .int v1)] → W p l e (headSpec ow_dm_X19_event ({ frames := 0, cells := 0, slots := 0, locals := 0 })).room s m args below meth c H locs 0 0 Q (F0 m 0 ls [])
set_option maxHeartbeats 40000000 in
set_option maxRecDepth 100000 in
theorem db_X19_event_17 {p : Program} {l : Launch} {e : Env} {s : State} {m : MethodId} {args : Array Value} {below : List Frame} {meth : Method} {c : Code} {Q : State → Prop} {A : Nat → Prop} {dC : Nat → ClassId} {dI : Nat → Nat → Nat} {a : Nat → Nat} {ac : Nat → ClassId} {n : Nat} {r : Int64 × (St × (St) × (St × (St × (St))) × (St) × (St))} (C : nd_C p l s m args c A (dC, dI) cX19_event 3 RX19 ow_dm_X19_event (dk_X19 ac)) (K : nd_Kl p l e (headSpec ow_dm_X19_event ({ frames := 0, cells := 0, slots := 0, locals := 0 })).room s m args below meth c Q A (dC, dI) cX19_event (St × (St) × (St × (St × (St))) × (St) × (St)) (dw_X19 a ac) r) : dj_X19_event_17 p l e s m args below meth c Q A dC dI a ac (df_X19_event_17 n) r := by
  obtain ⟨hlt, hx, hb, hml, hown, hts, hN, hA, hK⟩ := id C
  intro s0 H locs ls h hP hD hS hl
  unfold df_X19_event_17 at h
  refine lv_ldc2 hx hb hown (hts (.constantLong RX19 292 (-1)) (List.mem_of_getElem? (i := 2) rfl)) dX19_event_17 ?_
  exact K _ _ _ _ _ _ dX19_event_20 (Option.some.inj h).symm hP hD hS
