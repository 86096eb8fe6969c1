set_option maxHeartbeats 40000000 in
set_option maxRecDepth 100000 in
theorem db_X12_pack_0 {p : Program} {l : Launch} {e : Env} {s : State} {m : MethodId} {args : Array Value} {below : List Frame} {meth : Method} {c : Code} {Q : State → Prop} {A : Nat → Prop} {dC : Nat → ClassId} {dI : Nat → Nat → Nat} {a : Nat → Nat} {ac : Nat → ClassId} {n : Nat} {r : Int32 × (St × Rw × (St) × (St × (St)) × (St) × (St × (St × (St × (St)))) × (St) × (St) × (Nat → St) × (Nat → St) × (Nat → St × (St)))} (C : nd_C p l s m args c A (dC, dI) cX12_pack 1 RX12 ow_dm_X12_pack (dk_X12 ac)) (K : nd_Ki p l e (headSpec ow_dm_X12_pack ({ frames := 4, cells := 0, slots := 0, locals := 96 })).room s m args below meth c Q A (dC, dI) cX12_pack .int (St × Rw × (St) × (St × (St)) × (St) × (St × (St × (St × (St)))) × (St) × (St) × (Nat → St) × (Nat → St) × (Nat → St × (St))) (dw_X12 a ac) r) : dj_X12_pack_0 p l e s m args below meth c Q A dC dI a ac (df_X12_pack_0 n (a 15) (a 3)) r := by
  obtain ⟨hlt, hx, hb, hml, hown, hts, hN, hA, hK⟩ := id C
  intro s0 H locs ls h hP hD hS hl
  unfold df_X12_pack_0 at h
  refine lv_aload_n hx hb dX12_pack_0 rfl (lv_at hl 0 rfl) ?_
  refine lv_aload_n hx hb dX12_pack_1 rfl (lv_at hl 0 rfl) ?_
  refine va_get (D := (dC, dI)) (ci := 13) (v := .ref (a 16)) (C := RX12) (T := TX12) (N := 12) hx hb hts hi_dm_X12_pack_X12 hown hK hP 0 rfl rfl 6 (by decide) (hts (.fieldLink RX12 33 "TimeMachine" "timeline" "LTimeMachine$Timeline;") (List.mem_of_getElem? (i := 1) rfl)) (fun _ h9 => h9) rfl dX12_pack_2 ?_
  by_cases o1 : sO s0.2.2.2.2.1 0 = some 27
  · have h := nd_pos h o1
    refine va_get (D := (dC, dI)) (ci := 12) (v := .ref (a 43)) (C := RX11) (T := TX11) (N := 16) hx hb hts hi_dm_X12_pack_X11 hown hK hP 16 rfl rfl 1 (by decide) (hts (.fieldLink RX12 280 "TimeMachine$Timeline" "events" "LTimeMachine$Events;") (List.mem_of_getElem? (i := 2) rfl)) (fun _ h9 => h9) (congrArg (fun z => some (va_rf (Option.map (fun k => a (k + 16)) z))) o1) dX12_pack_5 ?_
    refine lv_aload_n hx hb dX12_pack_8 rfl (lv_at hl 0 rfl) ?_
    refine va_get (D := (dC, dI)) (ci := 13) (v := .ref (a 3)) (C := RX12) (T := TX12) (N := 12) hx hb hts hi_dm_X12_pack_X12 hown hK hP 0 rfl rfl 9 (by decide) (hts (.fieldLink RX12 46 "TimeMachine" "log" "[B") (List.mem_of_getElem? (i := 3) rfl)) (fun _ h9 => h9) rfl dX12_pack_9 ?_
    obtain ⟨q2, s3, hq, h⟩ := nd_b2_e h
    have hPc := dp_wX12_X3s_18 hP
    have hDc := dd_wX12_X3s_18 hD
    have hKc := dy_wX12_X3s_18 hK
    have hFc := nd_rs hDc hS hA
    have hzA : ∀ q : Nat, H.size ≤ q → A q := fun q h => hA q (Nat.le_trans hS.1 h)
    refine nd_cVi (As := [.ref (a 3)]) (rest := [.ref (a 0)]) (q := q2) (w' := dw_X3s (fun k => a (if k < 1 then k + 3 else k - 1 + 43)) (fun k => ac (if k < 1 then k + 3 else k - 1 + 43)) s3) ⟨hx, hb, hml, hown, hts⟩ (fun sz => dm_X3_writeLog l hlt dC dI (fun k => a (if k < 1 then k + 3 else k - 1 + 43)) (fun k => ac (if k < 1 then k + 3 else k - 1 + 43)) n  (s0.2.2.1, s0.2.2.2.2.2.2.1) hq sz) (cwV 1 hts gi_dm_X12_pack_0 rfl rfl rfl (by decide +kernel) ⟨Nat.le_of_ble_eq_true rfl, Nat.le_of_ble_eq_true rfl⟩) hPc hDc hKc hS hA hN (va_recv hKc hPc (ci := 4) (q0 := 1) rfl rfl) rfl hl.1 rfl (Nat.le_of_ble_eq_true rfl) dX12_pack_12 (fun H locs hP1 hD1 hk1 hS => ?_)
    obtain ⟨hP, hD⟩ := dn_wX12_X3s_18 hP hD hzA hk1 hP1 hD1
    obtain ⟨s5, es5, h⟩ := nd_let_e h
    have hP : va_P (dC, dI) vwCl (dw_X12 a ac s5) H := by rw [es5]; exact hP
    have hD : va_D A (dw_X12 a ac s5) := by rw [es5]; exact hD
    have o1 : sO s5.2.2.2.2.1 0 = some 27 := by rw [es5]; exact o1
    refine va_put (D := (dC, dI)) (ci := 13) (v := .int q2) (ty := .int) (C := RX12) (T := TX12) (N := 12) hx hb hts hi_dm_X12_pack_X12 tyX12 tyX12_ok nmX12 hown hK hP hD hS 0 rfl rfl 10 (by decide) (hts (.fieldLink RX12 287 "TimeMachine" "logged" "I") (List.mem_of_getElem? (i := 8) rfl)) (fun _ h9 => h9) rfl (by decide +kernel) rfl rfl (Nat.le_of_ble_eq_true rfl) dX12_pack_15 (fun H locs hP hD hS => ?_)
    obtain ⟨s6, es6, h⟩ := nd_let_e h
    have hP : va_P (dC, dI) vwCl (dw_X12 a ac s6) H := by rw [es6]; exact hP
    have hD : va_D A (dw_X12 a ac s6) := by rw [es6]; exact hD
    have o1 : sO s6.2.2.2.2.1 0 = some 27 := by rw [es6]; exact o1
    refine lv_aload_n hx hb dX12_pack_18 rfl (lv_at hl 0 rfl) ?_
    refine va_get (D := (dC, dI)) (ci := 13) (v := .int (sI s6.1 2)) (C := RX12) (T := TX12) (N := 12) hx hb hts hi_dm_X12_pack_X12 hown hK hP 0 rfl rfl 10 (by decide) (hts (.fieldLink RX12 287 "TimeMachine" "logged" "I") (List.mem_of_getElem? (i := 8) rfl)) (fun _ h9 => h9) rfl dX12_pack_19 ?_
    exact K _ _ _ _ _ _ dX12_pack_22 rfl (Option.some.inj h).symm hP hD hS
  have h := nd_neg h o1
  by_cases o7 : sO s0.2.2.2.2.1 0 = some 32
  · have h := nd_pos h o7
    refine va_get (D := (dC, dI)) (ci := 12) (v := .ref (a 48)) (C := RX11) (T := TX11) (N := 16) hx hb hts hi_dm_X12_pack_X11 hown hK hP 16 rfl rfl 1 (by decide) (hts (.fieldLink RX12 280 "TimeMachine$Timeline" "events" "LTimeMachine$Events;") (List.mem_of_getElem? (i := 2) rfl)) (fun _ h9 => h9) (congrArg (fun z => some (va_rf (Option.map (fun k => a (k + 16)) z))) o7) dX12_pack_5 ?_
    refine lv_aload_n hx hb dX12_pack_8 rfl (lv_at hl 0 rfl) ?_
    refine va_get (D := (dC, dI)) (ci := 13) (v := .ref (a 3)) (C := RX12) (T := TX12) (N := 12) hx hb hts hi_dm_X12_pack_X12 hown hK hP 0 rfl rfl 9 (by decide) (hts (.fieldLink RX12 46 "TimeMachine" "log" "[B") (List.mem_of_getElem? (i := 3) rfl)) (fun _ h9 => h9) rfl dX12_pack_9 ?_
    obtain ⟨q8, s9, hq, h⟩ := nd_b2_e h
    have hPc := dp_wX12_X3s_19 hP
    have hDc := dd_wX12_X3s_19 hD
    have hKc := dy_wX12_X3s_19 hK
    have hFc := nd_rs hDc hS hA
    have hzA : ∀ q : Nat, H.size ≤ q → A q := fun q h => hA q (Nat.le_trans hS.1 h)
    refine nd_cVi (As := [.ref (a 3)]) (rest := [.ref (a 0)]) (q := q8) (w' := dw_X3s (fun k => a (if k < 1 then k + 3 else k - 1 + 48)) (fun k => ac (if k < 1 then k + 3 else k - 1 + 48)) s9) ⟨hx, hb, hml, hown, hts⟩ (fun sz => dm_X3_writeLog l hlt dC dI (fun k => a (if k < 1 then k + 3 else k - 1 + 48)) (fun k => ac (if k < 1 then k + 3 else k - 1 + 48)) n  (s0.2.2.1, s0.2.2.2.2.2.2.2.1) hq sz) (cwV 1 hts gi_dm_X12_pack_0 rfl rfl rfl (by decide +kernel) ⟨Nat.le_of_ble_eq_true rfl, Nat.le_of_ble_eq_true rfl⟩) hPc hDc hKc hS hA hN (va_recv hKc hPc (ci := 4) (q0 := 1) rfl rfl) rfl hl.1 rfl (Nat.le_of_ble_eq_true rfl) dX12_pack_12 (fun H locs hP1 hD1 hk1 hS => ?_)
    obtain ⟨hP, hD⟩ := dn_wX12_X3s_19 hP hD hzA hk1 hP1 hD1
    obtain ⟨s11, es11, h⟩ := nd_let_e h
    have hP : va_P (dC, dI) vwCl (dw_X12 a ac s11) H := by rw [es11]; exact hP
    have hD : va_D A (dw_X12 a ac s11) := by rw [es11]; exact hD
    have o7 : sO s11.2.2.2.2.1 0 = some 32 := by rw [es11]; exact o7
    refine va_put (D := (dC, dI)) (ci := 13) (v := .int q8) (ty := .int) (C := RX12) (T := TX12) (N := 12) hx hb hts hi_dm_X12_pack_X12 tyX12 tyX12_ok nmX12 hown hK hP hD hS 0 rfl rfl 10 (by decide) (hts (.fieldLink RX12 287 "TimeMachine" "logged" "I") (List.mem_of_getElem? (i := 8) rfl)) (fun _ h9 => h9) rfl (by decide +kernel) rfl rfl (Nat.le_of_ble_eq_true rfl) dX12_pack_15 (fun H locs hP hD hS => ?_)
    obtain ⟨s12, es12, h⟩ := nd_let_e h
    have hP : va_P (dC, dI) vwCl (dw_X12 a ac s12) H := by rw [es12]; exact hP
    have hD : va_D A (dw_X12 a ac s12) := by rw [es12]; exact hD
    have o7 : sO s12.2.2.2.2.1 0 = some 32 := by rw [es12]; exact o7
    refine lv_aload_n hx hb dX12_pack_18 rfl (lv_at hl 0 rfl) ?_
    refine va_get (D := (dC, dI)) (ci := 13) (v := .int (sI s12.1 2)) (C := RX12) (T := TX12) (N := 12) hx hb hts hi_dm_X12_pack_X12 hown hK hP 0 rfl rfl 10 (by decide) (hts (.fieldLink RX12 287 "TimeMachine" "logged" "I") (List.mem_of_getElem? (i := 8) rfl)) (fun _ h9 => h9) rfl dX12_pack_19 ?_
    exact K _ _ _ _ _ _ dX12_pack_22 rfl (Option.some.inj h).symm hP hD hS
  have h := nd_neg h o7
  exact nomatch h
set_option maxHeartbeats 40000000 in
set_option maxRecDepth 100000 in
theorem dm_X12_pack (l : Launch) (hlt : l.stackTraces = false) (dC : Nat → ClassId) (dI : Nat → Nat → Nat) (a : Nat → Nat) (ac : Nat → ClassId) (n : Nat) (s0 : St × Rw × (St) × (St × (St)) × (St) × (St × (St × (St × (St)))) × (St) × (St) × (Nat → St) × (Nat → St) × (Nat → St × (St))) {r : Int32 × (St × Rw × (St) × (St × (St)) × (St) × (St × (St × (St × (St)))) × (St) × (St) × (Nat → St) × (Nat → St) × (Nat → St × (St)))} (h : df_X12_pack n (a 15) (a 3) s0 = some r) (sz : Nat) : Met l yX12_pack ow_dm_X12_pack ({ frames := 4, cells := 0, slots := 0, locals := 96 }) (va_Pc [.ref (a 0)] (fun U => U.heap.size = sz ∧ va_P (dC, dI) vwCl (dw_X12 a ac s0) U.heap ∧ va_K (dC, dI) vwCl (dk_X12 ac) U ∧ va_D (fun _ => True) (dw_X12 a ac s0) ∧ nv_E dI (va_A (dw_X12 a ac s0) sz) U)) (va_Qi (fun x _ => x = r.1) (fun (_ : Unit) t => va_P (dC, dI) vwCl (dw_X12 a ac r.2) t.heap ∧ va_K (dC, dI) vwCl (dk_X12 ac) t ∧ va_D (va_A (dw_X12 a ac s0) sz) (dw_X12 a ac r.2)) (va_A (dw_X12 a ac s0) sz)) 0 0 (va_A (dw_X12 a ac s0) sz) := by
  refine Met.ofW (cc := cX12_pack) (maxL := 1) (ret := (some .int)) (by decide) rfl ?_
  intro p e s m args below meth c s₁ B hml hv
  obtain ⟨rfl, hsz, hP, hK, hD0, hN⟩ := hv
  have hx := B.exec
  have hb := B.bytes
  have hr := B.returns
  have hts := atoms_spec (ws := ow_dm_X12_pack) B.pre
  have hown : s.vm.findClass RX12 = some m.cls := findClass_of_methodNamed B.named
  have hlocks := B.notSynchronized
  subst hsz
  have hD := hD0.self (sz := s.heap.size)
  generalize hAe : va_A (dw_X12 a ac s0) s.heap.size = A at hD hN ⊢
  have hA : ∀ q : Nat, s.heap.size ≤ q → A q := fun q h => by rw [← hAe]; exact Or.inr h
  have hl := lv_entry ([.ref (a 0)]) (n := 1) (Nat.le_of_ble_eq_true rfl)
  rw [lg_entry_eq]
  generalize (lg_sl ([.ref (a 0)]) ++ List.replicate (1 - (lg_sl ([.ref (a 0)])).length) Slot.unset).toArray = ls at hl ⊢
  have hl : lv_has ls 1 [(0, .ref (a 0))] := hl
  exact db_X12_pack_0 (dC := dC) (dI := dI) (a := a) (ac := ac) (n := n) (r := r) ⟨hlt, hx, hb, hml, hown, hts, hN, hA, hK⟩ (fun pc v τ H locs ls d z er hP hD hS => by subst er; exact W.zret (v := v) hx hb hr z (fun t ht hW => ⟨⟨v, (), rfl, rfl, by rw [ht]; exact hP, va_K.moved hW.alike hK, hD⟩, hS.F ht⟩) hS.2.2 d) s0 _ _ _ h hP hD va_S.rf (lv_sub hl [0] rfl)
def ow_dm_X12_logByte : List Cond := .code yX12_logByte cX12_logByte 2 (some .int) :: ([.fieldLink RX12 287 "TimeMachine" "logged" "I", .fieldLink RX12 46 "TimeMachine" "log" "[B"] ++ (u_ws RX12 TX12 12 ++ []))
theorem gd_dm_X12_logByte : ∀ w ∈ ow_dm_X12_logByte, (w.onTables && w.keeps) = true ∨ ∃ ty, w = Cond.arrayClass ty := List.forall_mem_cons.mpr ⟨good_of_word rfl, List.forall_mem_append.mpr ⟨fun w h => good_of_word (List.all_eq_true.mp (by decide +kernel) w h), List.forall_mem_append.mpr ⟨gu_X12, fun _ h => nomatch h⟩⟩⟩
theorem hi_dm_X12_logByte_X12 : ∀ w ∈ u_ws RX12 TX12 12, w ∈ ow_dm_X12_logByte := fun w h => List.mem_cons_of_mem _ (List.mem_append_right _ (List.mem_append_left _ h))
def dj_X12_logByte_26 (p : Program) (l : Launch) (e : Env) (s : State) (m : MethodId) (args : Array Value) (below : List Frame) (meth : Method) (c : Code) (Q : State → Prop) (A : Nat → Prop) (dC : Nat → ClassId) (dI : Nat → Nat → Nat) (a : Nat → Nat) (ac : Nat → ClassId) (g : Int32 → (St × Rw × (St) × (St × (St)) × (St) × (St × (St × (St × (St)))) × (St) × (St) × (Nat → St) × (Nat → St) × (Nat → St × (St))) → Option (Int32 × (St × Rw × (St) × (St × (St)) × (St) × (St × (St × (St × (St)))) × (St) × (St) × (Nat → St) × (Nat → St) × (Nat → St × (St))))) (r : Int32 × (St × Rw × (St) × (St × (St)) × (St) × (St × (St × (St × (St)))) × (St) × (St) × (Nat → St) × (Nat → St) × (Nat → St × (St)))) : Prop := ∀ (y0 : Int32) (s0 : St × Rw × (St) × (St × (St)) × (St) × (St × (St × (St × (St)))) × (St) × (St) × (Nat → St) × (Nat → St) × (Nat → St × (St))) (H : Heap) (locs : List Loc) (ls : Array Slot), g y0 s0 = some r → va_P (dC, dI) vwCl (dw_X12 a ac s0) H → va_D A (dw_X12 a ac s0) → va_S A s.heap H locs → lv_has ls 2 [] → W p l e (headSpec ow_dm_X12_logByte ({ frames := 0, cells := 0, slots := 0, locals := 0 })).room s m args below meth c H locs 0 0 Q (F0 m 26 ls [.int y0])
def dj_X12_logByte_12 (p : Program) (l : Launch) (e : Env) (s : State) (m : MethodId) (args : Array Value) (below : List Frame) (meth : Method) (c : Code) (Q : State → Prop) (A : Nat → Prop) (dC : Nat → ClassId) (dI : Nat → Nat → Nat) (a : Nat → Nat) (ac : Nat → ClassId) (g : (St × Rw × (St) × (St × (St)) × (St) × (St × (St × (St × (St)))) × (St) × (St) × (Nat → St) × (Nat → St) × (Nat → St × (St))) → Option (Int32 × (St × Rw × (St) × (St × (St)) × (St) × (St × (St × (St × (St)))) × (St) × (St) × (Nat → St) × (Nat → St) × (Nat → St × (St))))) (r : Int32 × (St × Rw × (St) × (St × (St)) × (St) × (St × (St × (St × (St)))) × (St) × (St) × (Nat → St) × (Nat → St) × (Nat → St × (St)))) : Prop := ∀ (s0 : St × Rw × (St) × (St × (St)) × (St) × (St × (St × (St × (St)))) × (St) × (St) × (Nat → St) × (Nat → St) × (Nat → St × (St))) (H : Heap) (locs : List Loc) (ls : Array Slot), g s0 = some r → va_P (dC, dI) vwCl (dw_X12 a ac s0) H → va_D A (dw_X12 a ac s0) → va_S A s.heap H locs → lv_has ls 2 [] → W p l e (headSpec ow_dm_X12_logByte ({ frames := 0, cells := 0, slots := 0, locals := 0 })).room s m args below meth c H locs 0 0 Q (F0 m 12 ls [])
def dj_X12_logByte_0 (p : Program) (l : Launch) (e : Env) (s : State) (m : MethodId) (args : Array Value) (below : List Frame) (meth : Method) (c : Code) (Q : State → Prop) (A : Nat → Prop) (dC : Nat → ClassId) (dI : Nat → Nat → Nat) (a : Nat → Nat) (ac : Nat → ClassId) (g : Int32 → (St × Rw × (St) × (St × (St)) × (St) × (St × (St × (St × (St)))) × (St) × (St) × (Nat → St) × (Nat → St) × (Nat → St × (St))) → Option (Int32 × (St × Rw × (St) × (St × (St)) × (St) × (St × (St × (St × (St)))) × (St) × (St) × (Nat → St) × (Nat → St) × (Nat → St × (St))))) (r : Int32 × (St × Rw × (St) × (St × (St)) × (St) × (St × (St × (St × (St)))) × (St) × (St) × (Nat → St) × (Nat → St) × (Nat → St × (St)))) : Prop := ∀ (v0 : Int32) (s0 : St × Rw × (St) × (St × (St)) × (St) × (St × (St × (St × (St)))) × (St) × (St) × (Nat → St) × (Nat → St) × (Nat → St × (St))) (H : Heap) (locs : List Loc) (ls : Array Slot), g v0 s0 = some r → va_P (dC, dI) vwCl (dw_X12 a ac s0) H → va_D A (dw_X12 a ac s0) → va_S A s.heap H locs → lv_has ls 2 [(0, .ref (a 0)), (1, .int v0)] → W p l e (headSpec ow_dm_X12_logByte ({ frames := 0, cells := 0, slots := 0, locals := 0 })).room s m args below meth c H locs 0 0 Q (F0 m 0 ls [])
set_option maxHeartbeats 40000000 in
set_option maxRecDepth 100000 in
theorem db_X12_logByte_26 {p : Program} {l : Launch} {e : Env} {s : State} {m : MethodId} {args : Array Value} {below : List Frame} {meth : Method} {c : Code} {Q : State → Prop} {A : Nat → Prop} {dC : Nat → ClassId} {dI : Nat → Nat → Nat} {a : Nat → Nat} {ac : Nat → ClassId} {n : Nat} {r : Int32 × (St × Rw × (St) × (St × (St)) × (St) × (St × (St × (St × (St)))) × (St) × (St) × (Nat → St) × (Nat → St) × (Nat → St × (St)))} (C : nd_C p l s m args c A (dC, dI) cX12_logByte 2 RX12 ow_dm_X12_logByte (dk_X12 ac)) (K : nd_Ki p l e (headSpec ow_dm_X12_logByte ({ frames := 0, cells := 0, slots := 0, locals := 0 })).room s m args below meth c Q A (dC, dI) cX12_logByte .int (St × Rw × (St) × (St × (St)) × (St) × (St × (St × (St × (St)))) × (St) × (St) × (Nat → St) × (Nat → St) × (Nat → St × (St))) (dw_X12 a ac) r) : dj_X12_logByte_26 p l e s m args below meth c Q A dC dI a ac (df_X12_logByte_26 n (a 15) (a 3)) r := by
  obtain ⟨hlt, hx, hb, hml, hown, hts, hN, hA, hK⟩ := id C
  intro y0 s0 H locs ls h hP hD hS hl
  unfold df_X12_logByte_26 at h
  exact K _ _ _ _ _ _ dX12_logByte_26 rfl (Option.some.inj h).symm hP hD hS
set_option maxHeartbeats 40000000 in
set_option maxRecDepth 100000 in
theorem db_X12_logByte_12 {p : Program} {l : Launch} {e : Env} {s : State} {m : MethodId} {args : Array Value} {below : List Frame} {meth : Method} {c : Code} {Q : State → Prop} {A : Nat → Prop} {dC : Nat → ClassId} {dI : Nat → Nat → Nat} {a : Nat → Nat} {ac : Nat → ClassId} {n : Nat} {r : Int32 × (St × Rw × (St) × (St × (St)) × (St) × (St × (St × (St × (St)))) × (St) × (St) × (Nat → St) × (Nat → St) × (Nat → St × (St)))} (C : nd_C p l s m args c A (dC, dI) cX12_logByte 2 RX12 ow_dm_X12_logByte (dk_X12 ac)) (K : nd_Ki p l e (headSpec ow_dm_X12_logByte ({ frames := 0, cells := 0, slots := 0, locals := 0 })).room s m args below meth c Q A (dC, dI) cX12_logByte .int (St × Rw × (St) × (St × (St)) × (St) × (St × (St × (St × (St)))) × (St) × (St) × (Nat → St) × (Nat → St) × (Nat → St × (St))) (dw_X12 a ac) r) : dj_X12_logByte_12 p l e s m args below meth c Q A dC dI a ac (df_X12_logByte_12 n (a 15) (a 3)) r := by
  obtain ⟨hlt, hx, hb, hml, hown, hts, hN, hA, hK⟩ := id C
  intro s0 H locs ls h hP hD hS hl
  unfold df_X12_logByte_12 at h
  refine lv_iconst (v := (-1)) hx hb dX12_logByte_12 (by decide) ?_
  refine lv_goto (tgt := 26) hx hb dX12_logByte_13 (by decide) ?_
  exact (db_X12_logByte_26 C K) ((-1)) s0 _ _ _ h hP hD hS (lv_sub hl [] rfl)
set_option maxHeartbeats 40000000 in
set_option maxRecDepth 100000 in
theorem db_X12_logByte_0 {p : Program} {l : Launch} {e : Env} {s : State} {m : MethodId} {args : Array Value} {below : List Frame} {meth : Method} {c : Code} {Q : State → Prop} {A : Nat → Prop} {dC : Nat → ClassId} {dI : Nat → Nat → Nat} {a : Nat → Nat} {ac : Nat → ClassId} {n : Nat} {r : Int32 × (St × Rw × (St) × (St × (St)) × (St) × (St × (St × (St × (St)))) × (St) × (St) × (Nat → St) × (Nat → St) × (Nat → St × (St)))} (C : nd_C p l s m args c A (dC, dI) cX12_logByte 2 RX12 ow_dm_X12_logByte (dk_X12 ac)) (K : nd_Ki p l e (headSpec ow_dm_X12_logByte ({ frames := 0, cells := 0, slots := 0, locals := 0 })).room s m args below meth c Q A (dC, dI) cX12_logByte .int (St × Rw × (St) × (St × (St)) × (St) × (St × (St × (St × (St)))) × (St) × (St) × (Nat → St) × (Nat → St) × (Nat → St × (St))) (dw_X12 a ac) r) : dj_X12_logByte_0 p l e s m args below meth c Q A dC dI a ac (df_X12_logByte_0 n (a 15) (a 3)) r := by
  obtain ⟨hlt, hx, hb, hml, hown, hts, hN, hA, hK⟩ := id C
  intro v0 s0 H locs ls h hP hD hS hl
  unfold df_X12_logByte_0 at h
  refine lv_iload_n hx hb dX12_logByte_0 rfl (lv_at hl 1 rfl) ?_
  refine lv_if_lt (tgt := 12) hx hb dX12_logByte_1 (by decide) (fun c1 => ?_) (fun c1 => ?_)
  · have h := nd_pos h c1
    exact (db_X12_logByte_12 C K)  s0 _ _ _ h hP hD hS (lv_sub hl [] rfl)
  · have h := nd_neg h c1
    refine lv_iload_n hx hb dX12_logByte_4 rfl (lv_at hl 1 rfl) ?_
    refine lv_aload_n hx hb dX12_logByte_5 rfl (lv_at hl 0 rfl) ?_
    refine va_get (D := (dC, dI)) (ci := 13) (v := .int (sI s0.1 2)) (C := RX12) (T := TX12) (N := 12) hx hb hts hi_dm_X12_logByte_X12 hown hK hP 0 rfl rfl 10 (by decide) (hts (.fieldLink RX12 287 "TimeMachine" "logged" "I") (List.mem_of_getElem? (i := 1) rfl)) (fun _ h9 => h9) rfl dX12_logByte_6 ?_
    refine lv_icmp_lt (tgt := 16) hx hb dX12_logByte_9 (by decide) (fun c2 => ?_) (fun c2 => ?_)
    · have h := nd_pos h c2
      refine lv_aload_n hx hb dX12_logByte_16 rfl (lv_at hl 0 rfl) ?_
      refine va_get (D := (dC, dI)) (ci := 13) (v := .ref (a 3)) (C := RX12) (T := TX12) (N := 12) hx hb hts hi_dm_X12_logByte_X12 hown hK hP 0 rfl rfl 9 (by decide) (hts (.fieldLink RX12 46 "TimeMachine" "log" "[B") (List.mem_of_getElem? (i := 2) rfl)) (fun _ h9 => h9) rfl dX12_logByte_17 ?_
      refine lv_iload_n hx hb dX12_logByte_20 rfl (lv_at hl 1 rfl) ?_
      obtain ⟨i3, h⟩ := nd_ck_e h
      refine va_bald (i := v0) hx hb hK hP 3 2 rfl rfl i3 dX12_logByte_21 ?_
      refine lv_sipush (v := 255) hx hb dX12_logByte_22 (by decide) ?_
      refine lv_iand hx hb dX12_logByte_25 ?_
      exact (db_X12_logByte_26 C K) (((sR s0.2.2.1 0 (Int32.toNatClampNeg v0)) &&& 255)) s0 _ _ _ h hP hD hS (lv_sub hl [] rfl)
    · have h := nd_neg h c2
      exact (db_X12_logByte_12 C K)  s0 _ _ _ h hP hD hS (lv_sub hl [] rfl)
set_option maxHeartbeats 40000000 in
set_option maxRecDepth 100000 in
theorem dm_X12_logByte (l : Launch) (hlt : l.stackTraces = false) (dC : Nat → ClassId) (dI : Nat → Nat → Nat) (a : Nat → Nat) (ac : Nat → ClassId) (n : Nat) (v0 : Int32) (s0 : St × Rw × (St) × (St × (St)) × (St) × (St × (St × (St × (St)))) × (St) × (St) × (Nat → St) × (Nat → St) × (Nat → St × (St))) {r : Int32 × (St × Rw × (St) × (St × (St)) × (St) × (St × (St × (St × (St)))) × (St) × (St) × (Nat → St) × (Nat → St) × (Nat → St × (St)))} (h : df_X12_logByte n (a 15) (a 3) v0 s0 = some r) (sz : Nat) : Met l yX12_logByte ow_dm_X12_logByte ({ frames := 0, cells := 0, slots := 0, locals := 0 }) (va_Pc [.ref (a 0), .int v0] (fun U => U.heap.size = sz ∧ va_P (dC, dI) vwCl (dw_X12 a ac s0) U.heap ∧ va_K (dC, dI) vwCl (dk_X12 ac) U ∧ va_D (fun _ => True) (dw_X12 a ac s0) ∧ nv_E dI (va_A (dw_X12 a ac s0) sz) U)) (va_Qi (fun x _ => x = r.1) (fun (_ : Unit) t => va_P (dC, dI) vwCl (dw_X12 a ac r.2) t.heap ∧ va_K (dC, dI) vwCl (dk_X12 ac) t ∧ va_D (va_A (dw_X12 a ac s0) sz) (dw_X12 a ac r.2)) (va_A (dw_X12 a ac s0) sz)) 0 0 (va_A (dw_X12 a ac s0) sz) := by
  refine Met.ofW (cc := cX12_logByte) (maxL := 2) (ret := (some .int)) (by decide) rfl ?_
  intro p e s m args below meth c s₁ B hml hv
  obtain ⟨rfl, hsz, hP, hK, hD0, hN⟩ := hv
  have hx := B.exec
  have hb := B.bytes
  have hr := B.returns
  have hts := atoms_spec (ws := ow_dm_X12_logByte) B.pre
  have hown : s.vm.findClass RX12 = some m.cls := findClass_of_methodNamed B.named
  have hlocks := B.notSynchronized
  subst hsz
  have hD := hD0.self (sz := s.heap.size)
  generalize hAe : va_A (dw_X12 a ac s0) s.heap.size = A at hD hN ⊢
  have hA : ∀ q : Nat, s.heap.size ≤ q → A q := fun q h => by rw [← hAe]; exact Or.inr h
  have hl := lv_entry ([.ref (a 0), .int v0]) (n := 2) (Nat.le_of_ble_eq_true rfl)
  rw [lg_entry_eq]
  generalize (lg_sl ([.ref (a 0), .int v0]) ++ List.replicate (2 - (lg_sl ([.ref (a 0), .int v0])).length) Slot.unset).toArray = ls at hl ⊢
  have hl : lv_has ls 2 [(0, .ref (a 0)), (1, .int v0)] := hl
  exact db_X12_logByte_0 (dC := dC) (dI := dI) (a := a) (ac := ac) (n := n) (r := r) ⟨hlt, hx, hb, hml, hown, hts, hN, hA, hK⟩ (fun pc v τ H locs ls d z er hP hD hS => by subst er; exact W.zret (v := v) hx hb hr z (fun t ht hW => ⟨⟨v, (), rfl, rfl, by rw [ht]; exact hP, va_K.moved hW.alike hK, hD⟩, hS.F ht⟩) hS.2.2 d) v0 s0 _ _ _ h hP hD va_S.rf (lv_sub hl [0, 1] rfl)
set_option maxHeartbeats 40000000 in
set_option maxRecDepth 100000 in
theorem de_wX12_X3c_20 {a : Nat → Nat} {ac : Nat → ClassId} {τ : St} : ([dw_X3c (fun k => a (k + 43)) (fun k => ac (k + 43)) (τ)] : List va_W).flatten = dw_X3c (fun k => a (k + 43)) (fun k => ac (k + 43)) τ := by
  first
  | (simp only [List.flatten_cons, List.flatten_nil, List.append_nil]; done)
  | (simp only [List.flatten_cons, List.flatten_nil, List.append_nil]; rfl)
set_option maxHeartbeats 40000000 in
set_option maxRecDepth 100000 in
theorem dp_wX12_X3c_20 {D : va_G} {H : Heap} {a : Nat → Nat} {ac : Nat → ClassId} {σ : St × Rw × (St) × (St × (St)) × (St) × (St × (St × (St × (St)))) × (St) × (St) × (Nat → St) × (Nat → St) × (Nat → St × (St))} (h : va_P D vwCl (dw_X12 a ac σ) H) : va_P D vwCl (dw_X3c (fun k => a (k + 43)) (fun k => ac (k + 43)) σ.2.2.2.2.2.2.1) H := by
  have h2 := nd_vp (segs := dg_X12 a ac σ) (ix := [12]) (old := [dw_X3c (fun k => a (k + 43)) (fun k => ac (k + 43)) (σ.2.2.2.2.2.2.1)]) h (nd_co rfl rfl)
  have e := de_wX12_X3c_20 (a := a) (ac := ac) (τ := σ.2.2.2.2.2.2.1)
  exact e ▸ h2
set_option maxHeartbeats 40000000 in
set_option maxRecDepth 100000 in
theorem dd_wX12_X3c_20 {A : Nat → Prop} {a : Nat → Nat} {ac : Nat → ClassId} {σ : St × Rw × (St) × (St × (St)) × (St) × (St × (St × (St × (St)))) × (St) × (St) × (Nat → St) × (Nat → St) × (Nat → St × (St))} (h : va_D A (dw_X12 a ac σ)) : va_D A (dw_X3c (fun k => a (k + 43)) (fun k => ac (k + 43)) σ.2.2.2.2.2.2.1) := by
  have h2 := nd_vd (segs := dg_X12 a ac σ) (ix := [12]) (old := [dw_X3c (fun k => a (k + 43)) (fun k => ac (k + 43)) (σ.2.2.2.2.2.2.1)]) h (nd_co rfl rfl) (by decide)
  have e := de_wX12_X3c_20 (a := a) (ac := ac) (τ := σ.2.2.2.2.2.2.1)
  exact e ▸ h2
set_option maxHeartbeats 40000000 in
set_option maxRecDepth 100000 in
theorem dy_wX12_X3c_20 {D : va_G} {U : State} {ac : Nat → ClassId} (h : va_K D vwCl (dk_X12 ac) U) : va_K D vwCl (dk_X3c (fun k => ac (k + 43))) U := (h.sub [35, 36, 37, 38] rfl)
set_option maxHeartbeats 40000000 in
set_option maxRecDepth 100000 in
theorem dn_wX12_X3c_20 {A0 : Nat → Prop} {D : va_G} {H H1 : Heap} {a : Nat → Nat} {ac : Nat → ClassId} {σ : St × Rw × (St) × (St × (St)) × (St) × (St × (St × (St × (St)))) × (St) × (St) × (Nat → St) × (Nat → St) × (Nat → St × (St))} {τ : St} (hP : va_P D vwCl (dw_X12 a ac σ) H) (hD : va_D A0 (dw_X12 a ac σ)) (hA : ∀ q : Nat, H.size ≤ q → A0 q) (hk : ∀ q : Nat, q < H.size → ¬ va_A (dw_X3c (fun k => a (k + 43)) (fun k => ac (k + 43)) σ.2.2.2.2.2.2.1) H.size q → H1[q]? = H[q]?) (h1 : va_P D vwCl (dw_X3c (fun k => a (k + 43)) (fun k => ac (k + 43)) τ) H1) (h2 : va_D (va_A (dw_X3c (fun k => a (k + 43)) (fun k => ac (k + 43)) σ.2.2.2.2.2.2.1) H.size) (dw_X3c (fun k => a (k + 43)) (fun k => ac (k + 43)) τ)) : va_P D vwCl (dw_X12 a ac (σ.1, (σ.2.1, (σ.2.2.1, (σ.2.2.2.1, (σ.2.2.2.2.1, (σ.2.2.2.2.2.1, (τ, σ.2.2.2.2.2.2.2)))))))) H1 ∧ va_D A0 (dw_X12 a ac (σ.1, (σ.2.1, (σ.2.2.1, (σ.2.2.2.1, (σ.2.2.2.2.1, (σ.2.2.2.2.2.1, (τ, σ.2.2.2.2.2.2.2)))))))) := by
  have eo := de_wX12_X3c_20 (a := a) (ac := ac) (τ := σ.2.2.2.2.2.2.1)
  have en := de_wX12_X3c_20 (a := a) (ac := ac) (τ := τ)
  have h := nd_vn (segs := dg_X12 a ac σ) (ix := [12]) (old := [dw_X3c (fun k => a (k + 43)) (fun k => ac (k + 43)) (σ.2.2.2.2.2.2.1)]) (new := [dw_X3c (fun k => a (k + 43)) (fun k => ac (k + 43)) (τ)]) hP hD (nd_co rfl rfl) rfl (fun q z y => hk q z (fun w => y (eo ▸ w))) (en ▸ h1)
  have ee : nd_sets (dg_X12 a ac σ) [12] [dw_X3c (fun k => a (k + 43)) (fun k => ac (k + 43)) (τ)] = dg_X12 a ac (σ.1, (σ.2.1, (σ.2.2.1, (σ.2.2.2.1, (σ.2.2.2.2.1, (σ.2.2.2.2.2.1, (τ, σ.2.2.2.2.2.2.2))))))) := rfl
  have hz : va_P D vwCl (dg_X12 a ac (σ.1, (σ.2.1, (σ.2.2.1, (σ.2.2.2.1, (σ.2.2.2.2.1, (σ.2.2.2.2.2.1, (τ, σ.2.2.2.2.2.2.2)))))))).flatten H1 := by rw [← ee]; exact h
  exact ⟨hz, nd_Da hD dA_X12⟩
set_option maxHeartbeats 40000000 in
set_option maxRecDepth 100000 in
theorem de_wX12_X3c_21 {a : Nat → Nat} {ac : Nat → ClassId} {τ : St} : ([dw_X3c (fun k => a (k + 48)) (fun k => ac (k + 48)) (τ)] : List va_W).flatten = dw_X3c (fun k => a (k + 48)) (fun k => ac (k + 48)) τ := by
  first
  | (simp only [List.flatten_cons, List.flatten_nil, List.append_nil]; done)
  | (simp only [List.flatten_cons, List.flatten_nil, List.append_nil]; rfl)
set_option maxHeartbeats 40000000 in
set_option maxRecDepth 100000 in
theorem dp_wX12_X3c_21 {D : va_G} {H : Heap} {a : Nat → Nat} {ac : Nat → ClassId} {σ : St × Rw × (St) × (St × (St)) × (St) × (St × (St × (St × (St)))) × (St) × (St) × (Nat → St) × (Nat → St) × (Nat → St × (St))} (h : va_P D vwCl (dw_X12 a ac σ) H) : va_P D vwCl (dw_X3c (fun k => a (k + 48)) (fun k => ac (k + 48)) σ.2.2.2.2.2.2.2.1) H := by
  have h2 := nd_vp (segs := dg_X12 a ac σ) (ix := [13]) (old := [dw_X3c (fun k => a (k + 48)) (fun k => ac (k + 48)) (σ.2.2.2.2.2.2.2.1)]) h (nd_co rfl rfl)
  have e := de_wX12_X3c_21 (a := a) (ac := ac) (τ := σ.2.2.2.2.2.2.2.1)
  exact e ▸ h2
set_option maxHeartbeats 40000000 in
set_option maxRecDepth 100000 in
theorem dd_wX12_X3c_21 {A : Nat → Prop} {a : Nat → Nat} {ac : Nat → ClassId} {σ : St × Rw × (St) × (St × (St)) × (St) × (St × (St × (St × (St)))) × (St) × (St) × (Nat → St) × (Nat → St) × (Nat → St × (St))} (h : va_D A (dw_X12 a ac σ)) : va_D A (dw_X3c (fun k => a (k + 48)) (fun k => ac (k + 48)) σ.2.2.2.2.2.2.2.1) := by
  have h2 := nd_vd (segs := dg_X12 a ac σ) (ix := [13]) (old := [dw_X3c (fun k => a (k + 48)) (fun k => ac (k + 48)) (σ.2.2.2.2.2.2.2.1)]) h (nd_co rfl rfl) (by decide)
  have e := de_wX12_X3c_21 (a := a) (ac := ac) (τ := σ.2.2.2.2.2.2.2.1)
  exact e ▸ h2
set_option maxHeartbeats 40000000 in
set_option maxRecDepth 100000 in
theorem dy_wX12_X3c_21 {D : va_G} {U : State} {ac : Nat → ClassId} (h : va_K D vwCl (dk_X12 ac) U) : va_K D vwCl (dk_X3c (fun k => ac (k + 48))) U := (h.sub [39, 40, 41, 42] rfl)
set_option maxHeartbeats 40000000 in
set_option maxRecDepth 100000 in
theorem dn_wX12_X3c_21 {A0 : Nat → Prop} {D : va_G} {H H1 : Heap} {a : Nat → Nat} {ac : Nat → ClassId} {σ : St × Rw × (St) × (St × (St)) × (St) × (St × (St × (St × (St)))) × (St) × (St) × (Nat → St) × (Nat → St) × (Nat → St × (St))} {τ : St} (hP : va_P D vwCl (dw_X12 a ac σ) H) (hD : va_D A0 (dw_X12 a ac σ)) (hA : ∀ q : Nat, H.size ≤ q → A0 q) (hk : ∀ q : Nat, q < H.size → ¬ va_A (dw_X3c (fun k => a (k + 48)) (fun k => ac (k + 48)) σ.2.2.2.2.2.2.2.1) H.size q → H1[q]? = H[q]?) (h1 : va_P D vwCl (dw_X3c (fun k => a (k + 48)) (fun k => ac (k + 48)) τ) H1) (h2 : va_D (va_A (dw_X3c (fun k => a (k + 48)) (fun k => ac (k + 48)) σ.2.2.2.2.2.2.2.1) H.size) (dw_X3c (fun k => a (k + 48)) (fun k => ac (k + 48)) τ)) : va_P D vwCl (dw_X12 a ac (σ.1, (σ.2.1, (σ.2.2.1, (σ.2.2.2.1, (σ.2.2.2.2.1, (σ.2.2.2.2.2.1, (σ.2.2.2.2.2.2.1, (τ, σ.2.2.2.2.2.2.2.2))))))))) H1 ∧ va_D A0 (dw_X12 a ac (σ.1, (σ.2.1, (σ.2.2.1, (σ.2.2.2.1, (σ.2.2.2.2.1, (σ.2.2.2.2.2.1, (σ.2.2.2.2.2.2.1, (τ, σ.2.2.2.2.2.2.2.2))))))))) := by
  have eo := de_wX12_X3c_21 (a := a) (ac := ac) (τ := σ.2.2.2.2.2.2.2.1)
  have en := de_wX12_X3c_21 (a := a) (ac := ac) (τ := τ)
  have h := nd_vn (segs := dg_X12 a ac σ) (ix := [13]) (old := [dw_X3c (fun k => a (k + 48)) (fun k => ac (k + 48)) (σ.2.2.2.2.2.2.2.1)]) (new := [dw_X3c (fun k => a (k + 48)) (fun k => ac (k + 48)) (τ)]) hP hD (nd_co rfl rfl) rfl (fun q z y => hk q z (fun w => y (eo ▸ w))) (en ▸ h1)
  have ee : nd_sets (dg_X12 a ac σ) [13] [dw_X3c (fun k => a (k + 48)) (fun k => ac (k + 48)) (τ)] = dg_X12 a ac (σ.1, (σ.2.1, (σ.2.2.1, (σ.2.2.2.1, (σ.2.2.2.2.1, (σ.2.2.2.2.2.1, (σ.2.2.2.2.2.2.1, (τ, σ.2.2.2.2.2.2.2.2)))))))) := rfl
  have hz : va_P D vwCl (dg_X12 a ac (σ.1, (σ.2.1, (σ.2.2.1, (σ.2.2.2.1, (σ.2.2.2.2.1, (σ.2.2.2.2.2.1, (σ.2.2.2.2.2.2.1, (τ, σ.2.2.2.2.2.2.2.2))))))))).flatten H1 := by rw [← ee]; exact h
  exact ⟨hz, nd_Da hD dA_X12⟩
def ow_dm_X12_event : List Cond := .code yX12_event cX12_event 3 (some .long) :: ([.fieldLink RX12 33 "TimeMachine" "timeline" "LTimeMachine$Timeline;", .fieldLink RX12 280 "TimeMachine$Timeline" "events" "LTimeMachine$Events;", .methodLink RX12 290 yX3_told, .instanceMethod yX3_told, .selects RX3 yX3_told yX3_told, .initialized RX3] ++ (u_ws RX12 TX12 12 ++ (u_ws RX11 TX11 16 ++ (ow_dm_X3_told ++ []))))
theorem gd_dm_X12_event : ∀ w ∈ ow_dm_X12_event, (w.onTables && w.keeps) = true ∨ ∃ ty, w = Cond.arrayClass ty := List.forall_mem_cons.mpr ⟨good_of_word rfl, List.forall_mem_append.mpr ⟨fun w h => good_of_word (List.all_eq_true.mp (by decide +kernel) w h), List.forall_mem_append.mpr ⟨gu_X12, List.forall_mem_append.mpr ⟨gu_X11, List.forall_mem_append.mpr ⟨gd_dm_X3_told, fun _ h => nomatch h⟩⟩⟩⟩⟩
theorem hi_dm_X12_event_X12 : ∀ w ∈ u_ws RX12 TX12 12, w ∈ ow_dm_X12_event := fun w h => List.mem_cons_of_mem _ (List.mem_append_right _ (List.mem_append_left _ h))
theorem hi_dm_X12_event_X11 : ∀ w ∈ u_ws RX11 TX11 16, w ∈ ow_dm_X12_event := fun w h => List.mem_cons_of_mem _ (List.mem_append_right _ (List.mem_append_right _ (List.mem_append_left _ h)))
theorem gi_dm_X12_event_0 : GoodIn ow_dm_X12_event (wsV RX12 290 RX3 yX3_told ow_dm_X3_told) := goodIn_app (goodIn_of _ (by decide +kernel)) (fun w h => ⟨List.mem_cons_of_mem _ (List.mem_append_right _ (List.mem_append_right _ (List.mem_append_right _ (List.mem_append_left _ h)))), gd_dm_X3_told w h⟩)
def dj_X12_event_0 (p : Program) (l : Launch) (e : Env) (s : State) (m : MethodId) (args : Array Value) (below : List Frame) (meth : Method) (c : Code) (Q : State → Prop) (A : Nat → Prop) (dC : Nat → ClassId) (dI : Nat → Nat → Nat) (a : Nat → Nat) (ac : Nat → ClassId) (g : Int32 → Int32 → (St × Rw × (St) × (St × (St)) × (St) × (St × (St × (St × (St)))) × (St) × (St) × (Nat → St) × (Nat → St) × (Nat → St × (St))) → Option (Int64 × (St × Rw × (St) × (St × (St)) × (St) × (St × (St × (St × (St)))) × (St) × (St) × (Nat → St) × (Nat → St) × (Nat → St × (St))))) (r : Int64 × (St × Rw × (St) × (St × (St)) × (St) × (St × (St × (St × (St)))) × (St) × (St) × (Nat → St) × (Nat → St) × (Nat → St × (St)))) : Prop := ∀ (v0 : Int32) (v1 : Int32) (s0 : St × Rw × (St) × (St × (St)) × (St) × (St × (St × (St × (St)))) × (St) × (St) × (Nat → St) × (Nat → St) × (Nat → St × (St))) (H : Heap) (locs : List Loc) (ls : Array Slot), g v0 v1 s0 = some r → va_P (dC, dI) vwCl (dw_X12 a ac s0) H → va_D A (dw_X12 a ac s0) → va_S A s.heap H locs → lv_has ls 3 [(0, .ref (a 0)), (1, .int v0), (2, .int v1)] → W p l e (headSpec ow_dm_X12_event ({ frames := 1, cells := 0, slots := 0, locals := 22 })).room s m args below meth c H locs 0 0 Q (F0 m 0 ls [])
set_option maxHeartbeats 40000000 in
set_option maxRecDepth 100000 in
theorem db_X12_event_0 {p : Program} {l : Launch} {e : Env} {s : State} {m : MethodId} {args : Array Value} {below : List Frame} {meth : Method} {c : Code} {Q : State → Prop} {A : Nat → Prop} {dC : Nat → ClassId} {dI : Nat → Nat → Nat} {a : Nat → Nat} {ac : Nat → ClassId} {n : Nat} {r : Int64 × (St × Rw × (St) × (St × (St)) × (St) × (St × (St × (St × (St)))) × (St) × (St) × (Nat → St) × (Nat → St) × (Nat → St × (St)))} (C : nd_C p l s m args c A (dC, dI) cX12_event 3 RX12 ow_dm_X12_event (dk_X12 ac)) (K : nd_Kl p l e (headSpec ow_dm_X12_event ({ frames := 1, cells := 0, slots := 0, locals := 22 })).room s m args below meth c Q A (dC, dI) cX12_event (St × Rw × (St) × (St × (St)) × (St) × (St × (St × (St × (St)))) × (St) × (St) × (Nat → St) × (Nat → St) × (Nat → St × (St))) (dw_X12 a ac) r) : dj_X12_event_0 p l e s m args below meth c Q A dC dI a ac (df_X12_event_0 n (a 15) (a 3)) r := by
  obtain ⟨hlt, hx, hb, hml, hown, hts, hN, hA, hK⟩ := id C
  intro v0 v1 s0 H locs ls h hP hD hS hl
  unfold df_X12_event_0 at h
  refine lv_aload_n hx hb dX12_event_0 rfl (lv_at hl 0 rfl) ?_
  refine va_get (D := (dC, dI)) (ci := 13) (v := .ref (a 16)) (C := RX12) (T := TX12) (N := 12) hx hb hts hi_dm_X12_event_X12 hown hK hP 0 rfl rfl 6 (by decide) (hts (.fieldLink RX12 33 "TimeMachine" "timeline" "LTimeMachine$Timeline;") (List.mem_of_getElem? (i := 1) rfl)) (fun _ h9 => h9) rfl dX12_event_1 ?_
  by_cases o1 : sO s0.2.2.2.2.1 0 = some 27
  · have h := nd_pos h o1
    refine va_get (D := (dC, dI)) (ci := 12) (v := .ref (a 43)) (C := RX11) (T := TX11) (N := 16) hx hb hts hi_dm_X12_event_X11 hown hK hP 16 rfl rfl 1 (by decide) (hts (.fieldLink RX12 280 "TimeMachine$Timeline" "events" "LTimeMachine$Events;") (List.mem_of_getElem? (i := 2) rfl)) (fun _ h9 => h9) (congrArg (fun z => some (va_rf (Option.map (fun k => a (k + 16)) z))) o1) dX12_event_4 ?_
    refine lv_iload_n hx hb dX12_event_7 rfl (lv_at hl 1 rfl) ?_
    refine lv_iload_n hx hb dX12_event_8 rfl (lv_at hl 2 rfl) ?_
    obtain ⟨q2, s3, hq, h⟩ := nd_b2_e h
    have hPc := dp_wX12_X3c_20 hP
    have hDc := dd_wX12_X3c_20 hD
    have hKc := dy_wX12_X3c_20 hK
    have hFc := nd_rs hDc hS hA
    have hzA : ∀ q : Nat, H.size ≤ q → A q := fun q h => hA q (Nat.le_trans hS.1 h)
    refine nd_cVl (As := [.int v0, .int v1]) (rest := []) (q := q2) (w' := dw_X3c (fun k => a (k + 43)) (fun k => ac (k + 43)) s3) ⟨hx, hb, hml, hown, hts⟩ (fun sz => dm_X3_told l hlt dC dI (fun k => a (k + 43)) (fun k => ac (k + 43)) n (v0) (v1) s0.2.2.2.2.2.2.1 hq sz) (cwV 2 hts gi_dm_X12_event_0 rfl rfl rfl (by decide +kernel) ⟨Nat.le_of_ble_eq_true rfl, Nat.le_of_ble_eq_true rfl⟩) hPc hDc hKc hS hA hN (va_recv hKc hPc (ci := 4) (q0 := 0) rfl rfl) rfl hl.1 rfl (Nat.le_of_ble_eq_true rfl) dX12_event_9 (fun H locs hP1 hD1 hk1 hS => ?_)
    obtain ⟨hP, hD⟩ := dn_wX12_X3c_20 hP hD hzA hk1 hP1 hD1
    obtain ⟨s5, es5, h⟩ := nd_let_e h
    have hP : va_P (dC, dI) vwCl (dw_X12 a ac s5) H := by rw [es5]; exact hP
    have hD : va_D A (dw_X12 a ac s5) := by rw [es5]; exact hD
    have o1 : sO s5.2.2.2.2.1 0 = some 27 := by rw [es5]; exact o1
    exact K _ _ _ _ _ _ dX12_event_12 (Option.some.inj h).symm hP hD hS
  have h := nd_neg h o1
  by_cases o6 : sO s0.2.2.2.2.1 0 = some 32
  · have h := nd_pos h o6
    refine va_get (D := (dC, dI)) (ci := 12) (v := .ref (a 48)) (C := RX11) (T := TX11) (N := 16) hx hb hts hi_dm_X12_event_X11 hown hK hP 16 rfl rfl 1 (by decide) (hts (.fieldLink RX12 280 "TimeMachine$Timeline" "events" "LTimeMachine$Events;") (List.mem_of_getElem? (i := 2) rfl)) (fun _ h9 => h9) (congrArg (fun z => some (va_rf (Option.map (fun k => a (k + 16)) z))) o6) dX12_event_4 ?_
    refine lv_iload_n hx hb dX12_event_7 rfl (lv_at hl 1 rfl) ?_
    refine lv_iload_n hx hb dX12_event_8 rfl (lv_at hl 2 rfl) ?_
    obtain ⟨q7, s8, hq, h⟩ := nd_b2_e h
    have hPc := dp_wX12_X3c_21 hP
    have hDc := dd_wX12_X3c_21 hD
    have hKc := dy_wX12_X3c_21 hK
    have hFc := nd_rs hDc hS hA
    have hzA : ∀ q : Nat, H.size ≤ q → A q := fun q h => hA q (Nat.le_trans hS.1 h)
    refine nd_cVl (As := [.int v0, .int v1]) (rest := []) (q := q7) (w' := dw_X3c (fun k => a (k + 48)) (fun k => ac (k + 48)) s8) ⟨hx, hb, hml, hown, hts⟩ (fun sz => dm_X3_told l hlt dC dI (fun k => a (k + 48)) (fun k => ac (k + 48)) n (v0) (v1) s0.2.2.2.2.2.2.2.1 hq sz) (cwV 2 hts gi_dm_X12_event_0 rfl rfl rfl (by decide +kernel) ⟨Nat.le_of_ble_eq_true rfl, Nat.le_of_ble_eq_true rfl⟩) hPc hDc hKc hS hA hN (va_recv hKc hPc (ci := 4) (q0 := 0) rfl rfl) rfl hl.1 rfl (Nat.le_of_ble_eq_true rfl) dX12_event_9 (fun H locs hP1 hD1 hk1 hS => ?_)
    obtain ⟨hP, hD⟩ := dn_wX12_X3c_21 hP hD hzA hk1 hP1 hD1
    obtain ⟨s10, es10, h⟩ := nd_let_e h
    have hP : va_P (dC, dI) vwCl (dw_X12 a ac s10) H := by rw [es10]; exact hP
    have hD : va_D A (dw_X12 a ac s10) := by rw [es10]; exact hD
    have o6 : sO s10.2.2.2.2.1 0 = some 32 := by rw [es10]; exact o6
    exact K _ _ _ _ _ _ dX12_event_12 (Option.some.inj h).symm hP hD hS
  have h := nd_neg h o6
  exact nomatch h
set_option maxHeartbeats 40000000 in
set_option maxRecDepth 100000 in
theorem dm_X12_event (l : Launch) (hlt : l.stackTraces = false) (dC : Nat → ClassId) (dI : Nat → Nat → Nat) (a : Nat → Nat) (ac : Nat → ClassId) (n : Nat) (v0 : Int32) (v1 : Int32) (s0 : St × Rw × (St) × (St × (St)) × (St) × (St × (St × (St × (St)))) × (St) × (St) × (Nat → St) × (Nat → St) × (Nat → St × (St))) {r : Int64 × (St × Rw × (St) × (St × (St)) × (St) × (St × (St × (St × (St)))) × (St) × (St) × (Nat → St) × (Nat → St) × (Nat → St × (St)))} (h : df_X12_event n (a 15) (a 3) v0 v1 s0 = some r) (sz : Nat) : Met l yX12_event ow_dm_X12_event ({ frames := 1, cells := 0, slots := 0, locals := 22 }) (va_Pc [.ref (a 0), .int v0, .int v1] (fun U => U.heap.size = sz ∧ va_P (dC, dI) vwCl (dw_X12 a ac s0) U.heap ∧ va_K (dC, dI) vwCl (dk_X12 ac) U ∧ va_D (fun _ => True) (dw_X12 a ac s0) ∧ nv_E dI (va_A (dw_X12 a ac s0) sz) U)) (va_Ql (fun x _ => x = r.1) (fun (_ : Unit) t => va_P (dC, dI) vwCl (dw_X12 a ac r.2) t.heap ∧ va_K (dC, dI) vwCl (dk_X12 ac) t ∧ va_D (va_A (dw_X12 a ac s0) sz) (dw_X12 a ac r.2)) (va_A (dw_X12 a ac s0) sz)) 0 0 (va_A (dw_X12 a ac s0) sz) := by
  refine Met.ofW (cc := cX12_event) (maxL := 3) (ret := (some .long)) (by decide) rfl ?_
  intro p e s m args below meth c s₁ B hml hv
  obtain ⟨rfl, hsz, hP, hK, hD0, hN⟩ := hv
  have hx := B.exec
  have hb := B.bytes
  have hr := B.returns
  have hts := atoms_spec (ws := ow_dm_X12_event) B.pre
  have hown : s.vm.findClass RX12 = some m.cls := findClass_of_methodNamed B.named
  have hlocks := B.notSynchronized
  subst hsz
  have hD := hD0.self (sz := s.heap.size)
  generalize hAe : va_A (dw_X12 a ac s0) s.heap.size = A at hD hN ⊢
  have hA : ∀ q : Nat, s.heap.size ≤ q → A q := fun q h => by rw [← hAe]; exact Or.inr h
  have hl := lv_entry ([.ref (a 0), .int v0, .int v1]) (n := 3) (Nat.le_of_ble_eq_true rfl)
  rw [lg_entry_eq]
  generalize (lg_sl ([.ref (a 0), .int v0, .int v1]) ++ List.replicate (3 - (lg_sl ([.ref (a 0), .int v0, .int v1])).length) Slot.unset).toArray = ls at hl ⊢
  have hl : lv_has ls 3 [(0, .ref (a 0)), (1, .int v0), (2, .int v1)] := hl
  exact db_X12_event_0 (dC := dC) (dI := dI) (a := a) (ac := ac) (n := n) (r := r) ⟨hlt, hx, hb, hml, hown, hts, hN, hA, hK⟩ (fun pc v τ H locs ls d er hP hD hS => by subst er; exact W.lret (v := v) hx hb hr (fun t ht hW => ⟨⟨v, (), rfl, rfl, by rw [ht]; exact hP, va_K.moved hW.alike hK, hD⟩, hS.F ht⟩) hS.2.2 d) v0 v1 s0 _ _ _ h hP hD va_S.rf (lv_sub hl [0, 1, 2] rfl)
