set_option maxHeartbeats 40000000 in
set_option maxRecDepth 100000 in
theorem db_X12_event_0 {p : Program} {l : Launch} {e : Env} {s : State} {m : MethodId} {args : Array Value} {below : List Frame} {meth : Method} {c : Code} {Q : State → Prop} {A : Nat → Prop} {dC : Nat → ClassId} {dI : Nat → Nat → Nat} {a : Nat → Nat} {ac : Nat → ClassId} {n : Nat} {r : Int64 × (St × Rw × (St) × (St × (St)) × (St) × (St × (St × (St × (St)))) × (St) × (St) × (Nat → St) × (Nat → St) × (Nat → St × (St)))} (C : nd_C p l s m args c A (dC, dI) cX12_event 3 RX12 ow_dm_X12_event (dk_X12 ac)) (K : nd_Kl p l e (headSpec ow_dm_X12_event ({ frames := 1, cells := 0, slots := 0, locals := 22 })).room s m args below meth c Q A (dC, dI) cX12_event (St × Rw × (St) × (St × (St)) × (St) × (St × (St × (St × (St)))) × (St) × (St) × (Nat → St) × (Nat → St) × (Nat → St × (St))) (dw_X12 a ac) r) : dj_X12_event_0 p l e s m args below meth c Q A dC dI a ac (df_X12_event_0 n (a 15) (a 3)) r := by
  obtain ⟨hlt, hx, hb, hml, hown, hts, hN, hA, hK⟩ := id C
  intro v0 v1 s0 H locs ls h hP hD hS hl
  unfold df_X12_event_0 at h
  refine lv_aload_n hx hb dX12_event_0 rfl (lv_at hl 0 rfl) ?_
  refine va_get (D := (dC, dI)) (ci := 13) (v := .ref (a 16)) (C := RX12) (T := TX12) (N := 12) hx hb hts hi_dm_X12_event_X12 hown hK hP 0 rfl rfl 6 (by decide) (hts (.fieldLink RX12 33 "TimeMachine" "timeline" "LTimeMachine$Timeline;") (List.mem_of_getElem? (i := 1) rfl)) (fun _ h9 => h9) rfl dX12_event_1 ?_
  by_cases o1 : sO s0.2.2.2.2.1 0 = some 27
  · have h := nd_pos h o1
    refine va_get (D := (dC, dI)) (ci := 12) (v := .ref (a 43)) (C := RX11) (T := TX11) (N := 16) hx hb hts hi_dm_X12_event_X11 hown hK hP 16 rfl rfl 1 (by decide) (hts (.fieldLink RX12 280 "TimeMachine$Timeline" "events" "LTimeMachine$Events;") (List.mem_of_getElem? (i := 2) rfl)) (fun _ h9 => h9) (congrArg (fun z => some (va_rf (Option.map (fun k => a (k + 16)) z))) o1) dX12_event_4 ?_
    refine lv_iload_n hx hb dX12_event_7 rfl (lv_at hl 1 rfl) ?_
    refine lv_iload_n hx hb dX12_event_8 rfl (lv_at hl 2 rfl) ?_
    obtain ⟨q2, s3, hq, h⟩ := nd_b2_e h
    have hPc := dp_wX12_X3c_19 hP
    have hDc := dd_wX12_X3c_19 hD
    have hKc := dy_wX12_X3c_19 hK
    have hFc := nd_rs hDc hS hA
    have hzA : ∀ q : Nat, H.size ≤ q → A q := fun q h => hA q (Nat.le_trans hS.1 h)
    refine nd_cVl (As := [.int v0, .int v1]) (rest := []) (q := q2) (w' := dw_X3c (fun k => a (k + 43)) (fun k => ac (k + 43)) s3) ⟨hx, hb, hml, hown, hts⟩ (fun sz => dm_X3_told l hlt dC dI (fun k => a (k + 43)) (fun k => ac (k + 43)) n (v0) (v1) s0.2.2.2.2.2.2.1 hq sz) (cwV 2 hts gi_dm_X12_event_0 rfl rfl rfl (by decide +kernel) ⟨Nat.le_of_ble_eq_true rfl, Nat.le_of_ble_eq_true rfl⟩) hPc hDc hKc hS hA hN (va_recv hKc hPc (ci := 4) (q0 := 0) rfl rfl) rfl hl.1 rfl (Nat.le_of_ble_eq_true rfl) dX12_event_9 (fun H locs hP1 hD1 hk1 hS => ?_)
    obtain ⟨hP, hD⟩ := dn_wX12_X3c_19 hP hD hzA hk1 hP1 hD1
    obtain ⟨s5, es5, h⟩ := nd_let_e h
    have hP : va_P (dC, dI) vwCl (dw_X12 a ac s5) H := by rw [es5]; exact hP
    have hD : va_D A (dw_X12 a ac s5) := by rw [es5]; exact hD
    have o1 : sO s5.2.2.2.2.1 0 = some 27 := by rw [es5]; exact o1
    exact K _ _ _ _ _ _ dX12_event_12 (Option.some.inj h).symm hP hD hS
  have h := nd_neg h o1
  by_cases o6 : sO s0.2.2.2.2.1 0 = some 32
  · have h := nd_pos h o6
    refine va_get (D := (dC, dI)) (ci := 12) (v := .ref (a 48)) (C := RX11) (T := TX11) (N := 16) hx hb hts hi_dm_X12_event_X11 hown hK hP 16 rfl rfl 1 (by decide) (hts (.fieldLink RX12 280 "TimeMachine$Timeline" "events" "LTimeMachine$Events;") (List.mem_of_getElem? (i := 2) rfl)) (fun _ h9 => h9) (congrArg (fun z => some (va_rf (Option.map (fun k => a (k + 16)) z))) o6) dX12_event_4 ?_
    refine lv_iload_n hx hb dX12_event_7 rfl (lv_at hl 1 rfl) ?_
    refine lv_iload_n hx hb dX12_event_8 rfl (lv_at hl 2 rfl) ?_
    obtain ⟨q7, s8, hq, h⟩ := nd_b2_e h
    have hPc := dp_wX12_X3c_20 hP
    have hDc := dd_wX12_X3c_20 hD
    have hKc := dy_wX12_X3c_20 hK
    have hFc := nd_rs hDc hS hA
    have hzA : ∀ q : Nat, H.size ≤ q → A q := fun q h => hA q (Nat.le_trans hS.1 h)
    refine nd_cVl (As := [.int v0, .int v1]) (rest := []) (q := q7) (w' := dw_X3c (fun k => a (k + 48)) (fun k => ac (k + 48)) s8) ⟨hx, hb, hml, hown, hts⟩ (fun sz => dm_X3_told l hlt dC dI (fun k => a (k + 48)) (fun k => ac (k + 48)) n (v0) (v1) s0.2.2.2.2.2.2.2.1 hq sz) (cwV 2 hts gi_dm_X12_event_0 rfl rfl rfl (by decide +kernel) ⟨Nat.le_of_ble_eq_true rfl, Nat.le_of_ble_eq_true rfl⟩) hPc hDc hKc hS hA hN (va_recv hKc hPc (ci := 4) (q0 := 0) rfl rfl) rfl hl.1 rfl (Nat.le_of_ble_eq_true rfl) dX12_event_9 (fun H locs hP1 hD1 hk1 hS => ?_)
    obtain ⟨hP, hD⟩ := dn_wX12_X3c_20 hP hD hzA hk1 hP1 hD1
    obtain ⟨s10, es10, h⟩ := nd_let_e h
    have hP : va_P (dC, dI) vwCl (dw_X12 a ac s10) H := by rw [es10]; exact hP
    have hD : va_D A (dw_X12 a ac s10) := by rw [es10]; exact hD
    have o6 : sO s10.2.2.2.2.1 0 = some 32 := by rw [es10]; exact o6
    exact K _ _ _ _ _ _ dX12_event_12 (Option.some.inj h).symm hP hD hS
  have h := nd_neg h o6
  exact nomatch h
set_option maxHeartbeats 40000000 in
set_option maxRecDepth 100000 in
theorem dm_X12_event (l : Launch) (hlt : l.stackTraces = false) (dC : Nat → ClassId) (dI : Nat → Nat → Nat) (a : Nat → Nat) (ac : Nat → ClassId) (n : Nat) (v0 : Int32) (v1 : Int32) (s0 : St × Rw × (St) × (St × (St)) × (St) × (St × (St × (St × (St)))) × (St) × (St) × (Nat → St) × (Nat → St) × (Nat → St × (St))) {r : Int64 × (St × Rw × (St) × (St × (St)) × (St) × (St × (St × (St × (St)))) × (St) × (St) × (Nat → St) × (Nat → St) × (Nat → St × (St)))} (h : df_X12_event n (a 15) (a 3) v0 v1 s0 = some r) (sz : Nat) : Met l yX12_event ow_dm_X12_event ({ frames := 1, cells := 0, slots := 0, locals := 22 }) (va_Pc [.ref (a 0), .int v0, .int v1] (fun U => U.heap.size = sz ∧ va_P (dC, dI) vwCl (dw_X12 a ac s0) U.heap ∧ va_K (dC, dI) vwCl (dk_X12 ac) U ∧ va_D (fun _ => True) (dw_X12 a ac s0) ∧ nv_E (va_A (dw_X12 a ac s0) sz) U)) (va_Ql (fun x _ => x = r.1) (fun (_ : Unit) t => va_P (dC, dI) vwCl (dw_X12 a ac r.2) t.heap ∧ va_K (dC, dI) vwCl (dk_X12 ac) t ∧ va_D (va_A (dw_X12 a ac s0) sz) (dw_X12 a ac r.2)) (va_A (dw_X12 a ac s0) sz)) 0 0 (va_A (dw_X12 a ac s0) sz) := by
  refine Met.ofW (cc := cX12_event) (maxL := 3) (ret := (some .long)) (by decide) rfl ?_
  intro p e s m args below meth c s₁ B hml hv
  obtain ⟨rfl, hsz, hP, hK, hD0, hN⟩ := hv
  have hx := B.exec
  have hb := B.bytes
  have hr := B.returns
  have hts := atoms_spec (ws := ow_dm_X12_event) B.pre
  have hown : s.vm.findClass RX12 = some m.cls := findClass_of_methodNamed B.named
  have hlocks := B.notSynchronized
  subst hsz
  have hD := hD0.self (sz := s.heap.size)
  generalize hAe : va_A (dw_X12 a ac s0) s.heap.size = A at hD hN ⊢
  have hA : ∀ q : Nat, s.heap.size ≤ q → A q := fun q h => by rw [← hAe]; exact Or.inr h
  have hl := lv_entry ([.ref (a 0), .int v0, .int v1]) (n := 3) (Nat.le_of_ble_eq_true rfl)
  rw [lg_entry_eq]
  generalize (lg_sl ([.ref (a 0), .int v0, .int v1]) ++ List.replicate (3 - (lg_sl ([.ref (a 0), .int v0, .int v1])).length) Slot.unset).toArray = ls at hl ⊢
  have hl : lv_has ls 3 [(0, .ref (a 0)), (1, .int v0), (2, .int v1)] := hl
  exact db_X12_event_0 (dC := dC) (dI := dI) (a := a) (ac := ac) (n := n) (r := r) ⟨hlt, hx, hb, hml, hown, hts, hN, hA, hK⟩ (fun pc v τ H locs ls d er hP hD hS => by subst er; exact W.lret (v := v) hx hb hr (fun t ht hW => ⟨⟨v, (), rfl, rfl, by rw [ht]; exact hP, va_K.moved hW.alike hK, hD⟩, hS.F ht⟩) hS.2.2 d) v0 v1 s0 _ _ _ h hP hD va_S.rf (lv_sub hl [0, 1, 2] rfl)
