set_option maxHeartbeats 40000000 in
set_option maxRecDepth 100000 in
theorem db_X11_forgetBehind_0 {p : Program} {l : Launch} {e : Env} {s : State} {m : MethodId} {args : Array Value} {below : List Frame} {meth : Method} {c : Code} {Q : State → Prop} {A : Nat → Prop} {dC : Nat → ClassId} {dI : Nat → Nat → Nat} {a : Nat → Nat} {ac : Nat → ClassId} {n : Nat} {r : Int32 × (St × Rw × (St × (St × (St × (St)))) × (St) × (St) × (Nat → St) × (Nat → St) × (Nat → St × (St)))} (C : nd_C p l s m args c A (dC, dI) cX11_forgetBehind 2 RX11 ow_dm_X11_forgetBehind (dk_X11 ac)) (K : nd_Ki p l e (headSpec ow_dm_X11_forgetBehind ({ frames := 2, cells := 0, slots := 0, locals := 35 })).room s m args below meth c Q A (dC, dI) cX11_forgetBehind .int (St × Rw × (St × (St × (St × (St)))) × (St) × (St) × (Nat → St) × (Nat → St) × (Nat → St × (St))) (dw_X11 a ac) r) : dj_X11_forgetBehind_0 p l e s m args below meth c Q A dC dI a ac (df_X11_forgetBehind_0 n) r := by
  obtain ⟨hlt, hx, hb, hml, hown, hts, hN, hA, hK⟩ := id C
  intro s0 H locs ls h hP hD hS hl
  unfold df_X11_forgetBehind_0 at h
  refine lv_aload_n hx hb dX11_forgetBehind_0 rfl (lv_at hl 0 rfl) ?_
  refine va_get (D := (dC, dI)) (ci := 12) (v := .int (sI s0.1 4)) (C := RX11) (T := TX11) (N := 16) hx hb hts hi_dm_X11_forgetBehind_X11 hown hK hP 0 rfl rfl 12 (by decide) (hts (.fieldLink RX11 76 "TimeMachine$Timeline" "end" "I") (List.mem_of_getElem? (i := 1) rfl)) (fun _ h9 => h9) rfl dX11_forgetBehind_1 ?_
  refine lv_aload_n hx hb dX11_forgetBehind_4 rfl (lv_at hl 0 rfl) ?_
  refine va_get (D := (dC, dI)) (ci := 12) (v := .int (sI s0.1 3)) (C := RX11) (T := TX11) (N := 16) hx hb hts hi_dm_X11_forgetBehind_X11 hown hK hP 0 rfl rfl 11 (by decide) (hts (.fieldLink RX11 72 "TimeMachine$Timeline" "now" "I") (List.mem_of_getElem? (i := 2) rfl)) (fun _ h9 => h9) rfl dX11_forgetBehind_5 ?_
  refine lv_isub hx hb dX11_forgetBehind_8 ?_
  refine lv_topi (fun z1 ez1 => ?_)
  have h := nd_at h ez1
  refine lv_istore_n (lv' := [(1, .int z1), (0, .ref (a 0))]) hx hb dX11_forgetBehind_9 rfl hl (by decide) rfl (fun ls hl => ?_)
  refine lv_aload_n hx hb dX11_forgetBehind_10 rfl (lv_at hl 1 rfl) ?_
  refine lv_aload_n hx hb dX11_forgetBehind_11 rfl (lv_at hl 1 rfl) ?_
  refine va_get (D := (dC, dI)) (ci := 12) (v := .int (sI s0.1 3)) (C := RX11) (T := TX11) (N := 16) hx hb hts hi_dm_X11_forgetBehind_X11 hown hK hP 0 rfl rfl 11 (by decide) (hts (.fieldLink RX11 72 "TimeMachine$Timeline" "now" "I") (List.mem_of_getElem? (i := 2) rfl)) (fun _ h9 => h9) rfl dX11_forgetBehind_12 ?_
  refine va_put (D := (dC, dI)) (ci := 12) (v := .int (sI s0.1 3)) (ty := .int) (C := RX11) (T := TX11) (N := 16) hx hb hts hi_dm_X11_forgetBehind_X11 tyX11 tyX11_ok nmX11 hown hK hP hD hS 0 rfl rfl 12 (by decide) (hts (.fieldLink RX11 76 "TimeMachine$Timeline" "end" "I") (List.mem_of_getElem? (i := 1) rfl)) (fun _ h9 => h9) rfl (by decide +kernel) rfl rfl (Nat.le_of_ble_eq_true rfl) dX11_forgetBehind_15 (fun H locs hP hD hS => ?_)
  obtain ⟨s2, es2, h⟩ := nd_let_e h
  have hP : va_P (dC, dI) vwCl (dw_X11 a ac s2) H := by rw [es2]; exact hP
  have hD : va_D A (dw_X11 a ac s2) := by rw [es2]; exact hD
  refine lv_aload_n hx hb dX11_forgetBehind_18 rfl (lv_at hl 1 rfl) ?_
  by_cases o3 : sO s2.1 0 = some 27
  · have h := nd_pos h o3
    refine va_get (D := (dC, dI)) (ci := 12) (v := .ref (a 27)) (C := RX11) (T := TX11) (N := 16) hx hb hts hi_dm_X11_forgetBehind_X11 hown hK hP 0 rfl rfl 1 (by decide) (hts (.fieldLink RX11 20 "TimeMachine$Timeline" "events" "LTimeMachine$Events;") (List.mem_of_getElem? (i := 3) rfl)) (fun _ h9 => h9) (congrArg (fun z => some (va_rf (Option.map a z))) o3) dX11_forgetBehind_19 ?_
    refine lv_aload_n hx hb dX11_forgetBehind_22 rfl (lv_at hl 1 rfl) ?_
    refine va_get (D := (dC, dI)) (ci := 12) (v := .int (sI s2.1 5)) (C := RX11) (T := TX11) (N := 16) hx hb hts hi_dm_X11_forgetBehind_X11 hown hK hP 0 rfl rfl 13 (by decide) (hts (.fieldLink RX11 79 "TimeMachine$Timeline" "came" "I") (List.mem_of_getElem? (i := 4) rfl)) (fun _ h9 => h9) rfl dX11_forgetBehind_23 ?_
    refine va_put (D := (dC, dI)) (ci := 4) (v := .int (sI s2.1 5)) (ty := .int) (C := RX3) (T := TX3) (N := 11) hx hb hts hi_dm_X11_forgetBehind_X3 tyX3 tyX3_ok nmX3 hown hK hP hD hS 27 rfl rfl 4 (by decide) (hts (.fieldLink RX11 116 "TimeMachine$Events" "recorded" "I") (List.mem_of_getElem? (i := 5) rfl)) (fun _ h9 => h9) rfl (by decide +kernel) rfl rfl (Nat.le_of_ble_eq_true rfl) dX11_forgetBehind_26 (fun H locs hP hD hS => ?_)
    obtain ⟨s4, es4, h⟩ := nd_let_e h
    have hP : va_P (dC, dI) vwCl (dw_X11 a ac s4) H := by rw [es4]; exact hP
    have hD : va_D A (dw_X11 a ac s4) := by rw [es4]; exact hD
    have o3 : sO s4.1 0 = some 27 := by rw [es4]; exact o3
    refine lv_aload_n hx hb dX11_forgetBehind_29 rfl (lv_at hl 1 rfl) ?_
    refine va_get (D := (dC, dI)) (ci := 12) (v := .ref (a 27)) (C := RX11) (T := TX11) (N := 16) hx hb hts hi_dm_X11_forgetBehind_X11 hown hK hP 0 rfl rfl 1 (by decide) (hts (.fieldLink RX11 20 "TimeMachine$Timeline" "events" "LTimeMachine$Events;") (List.mem_of_getElem? (i := 3) rfl)) (fun _ h9 => h9) (congrArg (fun z => some (va_rf (Option.map a z))) o3) dX11_forgetBehind_30 ?_
    refine lv_aload_n hx hb dX11_forgetBehind_33 rfl (lv_at hl 1 rfl) ?_
    refine va_get (D := (dC, dI)) (ci := 12) (v := .int (sI s4.1 5)) (C := RX11) (T := TX11) (N := 16) hx hb hts hi_dm_X11_forgetBehind_X11 hown hK hP 0 rfl rfl 13 (by decide) (hts (.fieldLink RX11 79 "TimeMachine$Timeline" "came" "I") (List.mem_of_getElem? (i := 4) rfl)) (fun _ h9 => h9) rfl dX11_forgetBehind_34 ?_
    refine va_put (D := (dC, dI)) (ci := 4) (v := .int (sI s4.1 5)) (ty := .int) (C := RX3) (T := TX3) (N := 11) hx hb hts hi_dm_X11_forgetBehind_X3 tyX3 tyX3_ok nmX3 hown hK hP hD hS 27 rfl rfl 5 (by decide) (hts (.fieldLink RX11 137 "TimeMachine$Events" "total" "I") (List.mem_of_getElem? (i := 6) rfl)) (fun _ h9 => h9) rfl (by decide +kernel) rfl rfl (Nat.le_of_ble_eq_true rfl) dX11_forgetBehind_37 (fun H locs hP hD hS => ?_)
    obtain ⟨s5, es5, h⟩ := nd_let_e h
    have hP : va_P (dC, dI) vwCl (dw_X11 a ac s5) H := by rw [es5]; exact hP
    have hD : va_D A (dw_X11 a ac s5) := by rw [es5]; exact hD
    have o3 : sO s5.1 0 = some 27 := by rw [es5]; exact o3
    refine lv_aload_n hx hb dX11_forgetBehind_40 rfl (lv_at hl 1 rfl) ?_
    refine lv_iconst (v := 0) hx hb dX11_forgetBehind_41 (by decide) ?_
    refine va_put (D := (dC, dI)) (ci := 12) (v := .int 0) (ty := .boolean) (C := RX11) (T := TX11) (N := 16) hx hb hts hi_dm_X11_forgetBehind_X11 tyX11 tyX11_ok nmX11 hown hK hP hD hS 0 rfl rfl 14 (by decide) (hts (.fieldLink RX11 82 "TimeMachine$Timeline" "missed" "Z") (List.mem_of_getElem? (i := 7) rfl)) (fun _ h9 => h9) rfl (by decide +kernel) (by first | rfl | decide) rfl (Nat.le_of_ble_eq_true rfl) dX11_forgetBehind_42 (fun H locs hP hD hS => ?_)
    obtain ⟨s6, es6, h⟩ := nd_let_e h
    have hP : va_P (dC, dI) vwCl (dw_X11 a ac s6) H := by rw [es6]; exact hP
    have hD : va_D A (dw_X11 a ac s6) := by rw [es6]; exact hD
    have o3 : sO s6.1 0 = some 27 := by rw [es6]; exact o3
    refine lv_aload_n hx hb dX11_forgetBehind_45 rfl (lv_at hl 1 rfl) ?_
    refine lv_aload_n hx hb dX11_forgetBehind_46 rfl (lv_at hl 1 rfl) ?_
    refine lv_aload_n hx hb dX11_forgetBehind_47 rfl (lv_at hl 1 rfl) ?_
    refine va_get (D := (dC, dI)) (ci := 12) (v := .int (sI s6.1 3)) (C := RX11) (T := TX11) (N := 16) hx hb hts hi_dm_X11_forgetBehind_X11 hown hK hP 0 rfl rfl 11 (by decide) (hts (.fieldLink RX11 72 "TimeMachine$Timeline" "now" "I") (List.mem_of_getElem? (i := 2) rfl)) (fun _ h9 => h9) rfl dX11_forgetBehind_48 ?_
    obtain ⟨q7, s8, hq, h⟩ := nd_b2_e h
    have hPc := hP
    have hDc := hD
    have hKc := hK
    have hFc := nd_rs hD hS hA
    refine nd_cVi (As := [.int (sI s6.1 3)]) (rest := [.ref (a 0)]) (q := q7) (w' := dw_X11 a ac s8) ⟨hx, hb, hml, hown, hts⟩ (fun sz => dm_X11_copyUpTo l hlt dC dI a ac n ((sI s6.1 3)) s6 hq sz) (cwV 1 hts gi_dm_X11_forgetBehind_0 rfl rfl rfl (by decide +kernel) ⟨Nat.le_of_ble_eq_true rfl, Nat.le_of_ble_eq_true rfl⟩) hPc hDc hKc hS hA hN (va_recv hKc hPc (ci := 12) (q0 := 0) rfl rfl) rfl hl.1 rfl (Nat.le_of_ble_eq_true rfl) dX11_forgetBehind_51 (fun H locs hP1 hD1 hk1 hS => ?_)
    have hP := hP1
    have hD := hD1.weaken (fun k q _ h => hFc q.1 h)
    refine lv_iconst (v := 1) hx hb dX11_forgetBehind_54 (by decide) ?_
    refine lv_iadd hx hb dX11_forgetBehind_55 ?_
    refine va_put (D := (dC, dI)) (ci := 12) (v := .int (q7 + 1)) (ty := .int) (C := RX11) (T := TX11) (N := 16) hx hb hts hi_dm_X11_forgetBehind_X11 tyX11 tyX11_ok nmX11 hown hK hP hD hS 0 rfl rfl 9 (by decide) (hts (.fieldLink RX11 85 "TimeMachine$Timeline" "copies" "I") (List.mem_of_getElem? (i := 12) rfl)) (fun _ h9 => h9) rfl (by decide +kernel) rfl rfl (Nat.le_of_ble_eq_true rfl) dX11_forgetBehind_56 (fun H locs hP hD hS => ?_)
    obtain ⟨s10, es10, h⟩ := nd_let_e h
    have hP : va_P (dC, dI) vwCl (dw_X11 a ac s10) H := by rw [es10]; exact hP
    have hD : va_D A (dw_X11 a ac s10) := by rw [es10]; exact hD
    refine lv_iload_n hx hb dX11_forgetBehind_59 rfl (lv_at hl 0 rfl) ?_
    exact K _ _ _ _ _ _ dX11_forgetBehind_60 rfl (Option.some.inj h).symm hP hD hS
  have h := nd_neg h o3
  by_cases o11 : sO s2.1 0 = some 32
  · have h := nd_pos h o11
    refine va_get (D := (dC, dI)) (ci := 12) (v := .ref (a 32)) (C := RX11) (T := TX11) (N := 16) hx hb hts hi_dm_X11_forgetBehind_X11 hown hK hP 0 rfl rfl 1 (by decide) (hts (.fieldLink RX11 20 "TimeMachine$Timeline" "events" "LTimeMachine$Events;") (List.mem_of_getElem? (i := 3) rfl)) (fun _ h9 => h9) (congrArg (fun z => some (va_rf (Option.map a z))) o11) dX11_forgetBehind_19 ?_
    refine lv_aload_n hx hb dX11_forgetBehind_22 rfl (lv_at hl 1 rfl) ?_
    refine va_get (D := (dC, dI)) (ci := 12) (v := .int (sI s2.1 5)) (C := RX11) (T := TX11) (N := 16) hx hb hts hi_dm_X11_forgetBehind_X11 hown hK hP 0 rfl rfl 13 (by decide) (hts (.fieldLink RX11 79 "TimeMachine$Timeline" "came" "I") (List.mem_of_getElem? (i := 4) rfl)) (fun _ h9 => h9) rfl dX11_forgetBehind_23 ?_
    refine va_put (D := (dC, dI)) (ci := 4) (v := .int (sI s2.1 5)) (ty := .int) (C := RX3) (T := TX3) (N := 11) hx hb hts hi_dm_X11_forgetBehind_X3 tyX3 tyX3_ok nmX3 hown hK hP hD hS 32 rfl rfl 4 (by decide) (hts (.fieldLink RX11 116 "TimeMachine$Events" "recorded" "I") (List.mem_of_getElem? (i := 5) rfl)) (fun _ h9 => h9) rfl (by decide +kernel) rfl rfl (Nat.le_of_ble_eq_true rfl) dX11_forgetBehind_26 (fun H locs hP hD hS => ?_)
    obtain ⟨s12, es12, h⟩ := nd_let_e h
    have hP : va_P (dC, dI) vwCl (dw_X11 a ac s12) H := by rw [es12]; exact hP
    have hD : va_D A (dw_X11 a ac s12) := by rw [es12]; exact hD
    have o11 : sO s12.1 0 = some 32 := by rw [es12]; exact o11
    refine lv_aload_n hx hb dX11_forgetBehind_29 rfl (lv_at hl 1 rfl) ?_
    refine va_get (D := (dC, dI)) (ci := 12) (v := .ref (a 32)) (C := RX11) (T := TX11) (N := 16) hx hb hts hi_dm_X11_forgetBehind_X11 hown hK hP 0 rfl rfl 1 (by decide) (hts (.fieldLink RX11 20 "TimeMachine$Timeline" "events" "LTimeMachine$Events;") (List.mem_of_getElem? (i := 3) rfl)) (fun _ h9 => h9) (congrArg (fun z => some (va_rf (Option.map a z))) o11) dX11_forgetBehind_30 ?_
    refine lv_aload_n hx hb dX11_forgetBehind_33 rfl (lv_at hl 1 rfl) ?_
    refine va_get (D := (dC, dI)) (ci := 12) (v := .int (sI s12.1 5)) (C := RX11) (T := TX11) (N := 16) hx hb hts hi_dm_X11_forgetBehind_X11 hown hK hP 0 rfl rfl 13 (by decide) (hts (.fieldLink RX11 79 "TimeMachine$Timeline" "came" "I") (List.mem_of_getElem? (i := 4) rfl)) (fun _ h9 => h9) rfl dX11_forgetBehind_34 ?_
    refine va_put (D := (dC, dI)) (ci := 4) (v := .int (sI s12.1 5)) (ty := .int) (C := RX3) (T := TX3) (N := 11) hx hb hts hi_dm_X11_forgetBehind_X3 tyX3 tyX3_ok nmX3 hown hK hP hD hS 32 rfl rfl 5 (by decide) (hts (.fieldLink RX11 137 "TimeMachine$Events" "total" "I") (List.mem_of_getElem? (i := 6) rfl)) (fun _ h9 => h9) rfl (by decide +kernel) rfl rfl (Nat.le_of_ble_eq_true rfl) dX11_forgetBehind_37 (fun H locs hP hD hS => ?_)
    obtain ⟨s13, es13, h⟩ := nd_let_e h
    have hP : va_P (dC, dI) vwCl (dw_X11 a ac s13) H := by rw [es13]; exact hP
    have hD : va_D A (dw_X11 a ac s13) := by rw [es13]; exact hD
    have o11 : sO s13.1 0 = some 32 := by rw [es13]; exact o11
    refine lv_aload_n hx hb dX11_forgetBehind_40 rfl (lv_at hl 1 rfl) ?_
    refine lv_iconst (v := 0) hx hb dX11_forgetBehind_41 (by decide) ?_
    refine va_put (D := (dC, dI)) (ci := 12) (v := .int 0) (ty := .boolean) (C := RX11) (T := TX11) (N := 16) hx hb hts hi_dm_X11_forgetBehind_X11 tyX11 tyX11_ok nmX11 hown hK hP hD hS 0 rfl rfl 14 (by decide) (hts (.fieldLink RX11 82 "TimeMachine$Timeline" "missed" "Z") (List.mem_of_getElem? (i := 7) rfl)) (fun _ h9 => h9) rfl (by decide +kernel) (by first | rfl | decide) rfl (Nat.le_of_ble_eq_true rfl) dX11_forgetBehind_42 (fun H locs hP hD hS => ?_)
    obtain ⟨s14, es14, h⟩ := nd_let_e h
    have hP : va_P (dC, dI) vwCl (dw_X11 a ac s14) H := by rw [es14]; exact hP
    have hD : va_D A (dw_X11 a ac s14) := by rw [es14]; exact hD
    have o11 : sO s14.1 0 = some 32 := by rw [es14]; exact o11
    refine lv_aload_n hx hb dX11_forgetBehind_45 rfl (lv_at hl 1 rfl) ?_
    refine lv_aload_n hx hb dX11_forgetBehind_46 rfl (lv_at hl 1 rfl) ?_
    refine lv_aload_n hx hb dX11_forgetBehind_47 rfl (lv_at hl 1 rfl) ?_
    refine va_get (D := (dC, dI)) (ci := 12) (v := .int (sI s14.1 3)) (C := RX11) (T := TX11) (N := 16) hx hb hts hi_dm_X11_forgetBehind_X11 hown hK hP 0 rfl rfl 11 (by decide) (hts (.fieldLink RX11 72 "TimeMachine$Timeline" "now" "I") (List.mem_of_getElem? (i := 2) rfl)) (fun _ h9 => h9) rfl dX11_forgetBehind_48 ?_
    obtain ⟨q15, s16, hq, h⟩ := nd_b2_e h
    have hPc := hP
    have hDc := hD
    have hKc := hK
    have hFc := nd_rs hD hS hA
    refine nd_cVi (As := [.int (sI s14.1 3)]) (rest := [.ref (a 0)]) (q := q15) (w' := dw_X11 a ac s16) ⟨hx, hb, hml, hown, hts⟩ (fun sz => dm_X11_copyUpTo l hlt dC dI a ac n ((sI s14.1 3)) s14 hq sz) (cwV 1 hts gi_dm_X11_forgetBehind_0 rfl rfl rfl (by decide +kernel) ⟨Nat.le_of_ble_eq_true rfl, Nat.le_of_ble_eq_true rfl⟩) hPc hDc hKc hS hA hN (va_recv hKc hPc (ci := 12) (q0 := 0) rfl rfl) rfl hl.1 rfl (Nat.le_of_ble_eq_true rfl) dX11_forgetBehind_51 (fun H locs hP1 hD1 hk1 hS => ?_)
    have hP := hP1
    have hD := hD1.weaken (fun k q _ h => hFc q.1 h)
    refine lv_iconst (v := 1) hx hb dX11_forgetBehind_54 (by decide) ?_
    refine lv_iadd hx hb dX11_forgetBehind_55 ?_
    refine va_put (D := (dC, dI)) (ci := 12) (v := .int (q15 + 1)) (ty := .int) (C := RX11) (T := TX11) (N := 16) hx hb hts hi_dm_X11_forgetBehind_X11 tyX11 tyX11_ok nmX11 hown hK hP hD hS 0 rfl rfl 9 (by decide) (hts (.fieldLink RX11 85 "TimeMachine$Timeline" "copies" "I") (List.mem_of_getElem? (i := 12) rfl)) (fun _ h9 => h9) rfl (by decide +kernel) rfl rfl (Nat.le_of_ble_eq_true rfl) dX11_forgetBehind_56 (fun H locs hP hD hS => ?_)
    obtain ⟨s18, es18, h⟩ := nd_let_e h
    have hP : va_P (dC, dI) vwCl (dw_X11 a ac s18) H := by rw [es18]; exact hP
    have hD : va_D A (dw_X11 a ac s18) := by rw [es18]; exact hD
    refine lv_iload_n hx hb dX11_forgetBehind_59 rfl (lv_at hl 0 rfl) ?_
    exact K _ _ _ _ _ _ dX11_forgetBehind_60 rfl (Option.some.inj h).symm hP hD hS
  have h := nd_neg h o11
  exact nomatch h
set_option maxHeartbeats 40000000 in
set_option maxRecDepth 100000 in
theorem dm_X11_forgetBehind (l : Launch) (hlt : l.stackTraces = false) (dC : Nat → ClassId) (dI : Nat → Nat → Nat) (a : Nat → Nat) (ac : Nat → ClassId) (n : Nat) (s0 : St × Rw × (St × (St × (St × (St)))) × (St) × (St) × (Nat → St) × (Nat → St) × (Nat → St × (St))) {r : Int32 × (St × Rw × (St × (St × (St × (St)))) × (St) × (St) × (Nat → St) × (Nat → St) × (Nat → St × (St)))} (h : df_X11_forgetBehind n s0 = some r) (sz : Nat) : Met l yX11_forgetBehind ow_dm_X11_forgetBehind ({ frames := 2, cells := 0, slots := 0, locals := 35 }) (va_Pc [.ref (a 0)] (fun U => U.heap.size = sz ∧ va_P (dC, dI) vwCl (dw_X11 a ac s0) U.heap ∧ va_K (dC, dI) vwCl (dk_X11 ac) U ∧ va_D (fun _ => True) (dw_X11 a ac s0) ∧ nv_E (va_A (dw_X11 a ac s0) sz) U)) (va_Qi (fun x _ => x = r.1) (fun (_ : Unit) t => va_P (dC, dI) vwCl (dw_X11 a ac r.2) t.heap ∧ va_K (dC, dI) vwCl (dk_X11 ac) t ∧ va_D (va_A (dw_X11 a ac s0) sz) (dw_X11 a ac r.2)) (va_A (dw_X11 a ac s0) sz)) 0 0 (va_A (dw_X11 a ac s0) sz) := by
  refine Met.ofW (cc := cX11_forgetBehind) (maxL := 2) (ret := (some .int)) (by decide) rfl ?_
  intro p e s m args below meth c s₁ B hml hv
  obtain ⟨rfl, hsz, hP, hK, hD0, hN⟩ := hv
  have hx := B.exec
  have hb := B.bytes
  have hr := B.returns
  have hts := atoms_spec (ws := ow_dm_X11_forgetBehind) B.pre
  have hown : s.vm.findClass RX11 = some m.cls := findClass_of_methodNamed B.named
  have hlocks := B.notSynchronized
  subst hsz
  have hD := hD0.self (sz := s.heap.size)
  generalize hAe : va_A (dw_X11 a ac s0) s.heap.size = A at hD hN ⊢
  have hA : ∀ q : Nat, s.heap.size ≤ q → A q := fun q h => by rw [← hAe]; exact Or.inr h
  have hl := lv_entry ([.ref (a 0)]) (n := 2) (Nat.le_of_ble_eq_true rfl)
  rw [lg_entry_eq]
  generalize (lg_sl ([.ref (a 0)]) ++ List.replicate (2 - (lg_sl ([.ref (a 0)])).length) Slot.unset).toArray = ls at hl ⊢
  have hl : lv_has ls 2 [(0, .ref (a 0))] := hl
  exact db_X11_forgetBehind_0 (dC := dC) (dI := dI) (a := a) (ac := ac) (n := n) (r := r) ⟨hlt, hx, hb, hml, hown, hts, hN, hA, hK⟩ (fun pc v τ H locs ls d z er hP hD hS => by subst er; exact W.zret (v := v) hx hb hr z (fun t ht hW => ⟨⟨v, (), rfl, rfl, by rw [ht]; exact hP, va_K.moved hW.alike hK, hD⟩, hS.F ht⟩) hS.2.2 d) s0 _ _ _ h hP hD va_S.rf (lv_sub hl [0] rfl)
def ow_dm_X11_holdsAtFirst : List Cond := .code yX11_holdsAtFirst cX11_holdsAtFirst 2 (some .boolean) :: ([.fieldLink RX11 30 "TimeMachine$Timeline" "machine" "LTimeMachine$Machine;", .fieldLink RX11 72 "TimeMachine$Timeline" "now" "I", .methodLink RX11 174 yX2_remember, .instanceMethod yX2_remember, .selects RX2 yX2_remember yX2_remember, .initialized RX2, .methodLink RX11 168 yX2_worth, .instanceMethod yX2_worth, .selects RX2 yX2_worth yX2_worth] ++ (u_ws RX11 TX11 16 ++ (ow_dm_X2_remember ++ (ow_dm_X2_worth ++ []))))
theorem gd_dm_X11_holdsAtFirst : ∀ w ∈ ow_dm_X11_holdsAtFirst, (w.onTables && w.keeps) = true ∨ ∃ ty, w = Cond.arrayClass ty := List.forall_mem_cons.mpr ⟨good_of_word rfl, List.forall_mem_append.mpr ⟨fun w h => good_of_word (List.all_eq_true.mp (by decide +kernel) w h), List.forall_mem_append.mpr ⟨gu_X11, List.forall_mem_append.mpr ⟨gd_dm_X2_remember, List.forall_mem_append.mpr ⟨gd_dm_X2_worth, fun _ h => nomatch h⟩⟩⟩⟩⟩
theorem hi_dm_X11_holdsAtFirst_X11 : ∀ w ∈ u_ws RX11 TX11 16, w ∈ ow_dm_X11_holdsAtFirst := fun w h => List.mem_cons_of_mem _ (List.mem_append_right _ (List.mem_append_left _ h))
theorem gi_dm_X11_holdsAtFirst_0 : GoodIn ow_dm_X11_holdsAtFirst (wsV RX11 174 RX2 yX2_remember ow_dm_X2_remember) := goodIn_app (goodIn_of _ (by decide +kernel)) (fun w h => ⟨List.mem_cons_of_mem _ (List.mem_append_right _ (List.mem_append_right _ (List.mem_append_left _ h))), gd_dm_X2_remember w h⟩)
theorem gi_dm_X11_holdsAtFirst_1 : GoodIn ow_dm_X11_holdsAtFirst (wsV RX11 168 RX2 yX2_worth ow_dm_X2_worth) := goodIn_app (goodIn_of _ (by decide +kernel)) (fun w h => ⟨List.mem_cons_of_mem _ (List.mem_append_right _ (List.mem_append_right _ (List.mem_append_right _ (List.mem_append_left _ h)))), gd_dm_X2_worth w h⟩)
def dj_X11_holdsAtFirst_34 (p : Program) (l : Launch) (e : Env) (s : State) (m : MethodId) (args : Array Value) (below : List Frame) (meth : Method) (c : Code) (Q : State → Prop) (A : Nat → Prop) (dC : Nat → ClassId) (dI : Nat → Nat → Nat) (a : Nat → Nat) (ac : Nat → ClassId) (g : Int32 → (St × Rw × (St × (St × (St × (St)))) × (St) × (St) × (Nat → St) × (Nat → St) × (Nat → St × (St))) → Option (Int32 × (St × Rw × (St × (St × (St × (St)))) × (St) × (St) × (Nat → St) × (Nat → St) × (Nat → St × (St))))) (r : Int32 × (St × Rw × (St × (St × (St × (St)))) × (St) × (St) × (Nat → St) × (Nat → St) × (Nat → St × (St)))) : Prop := ∀ (y0 : Int32) (s0 : St × Rw × (St × (St × (St × (St)))) × (St) × (St) × (Nat → St) × (Nat → St) × (Nat → St × (St))) (H : Heap) (locs : List Loc) (ls : Array Slot), g y0 s0 = some r → va_P (dC, dI) vwCl (dw_X11 a ac s0) H → va_D A (dw_X11 a ac s0) → va_S A s.heap H locs → lv_has ls 2 [] → W p l e (headSpec ow_dm_X11_holdsAtFirst ({ frames := 5, cells := 0, slots := 0, locals := 127 })).room s m args below meth c H locs 0 0 Q (F0 m 34 ls [.int y0])
def dj_X11_holdsAtFirst_0 (p : Program) (l : Launch) (e : Env) (s : State) (m : MethodId) (args : Array Value) (below : List Frame) (meth : Method) (c : Code) (Q : State → Prop) (A : Nat → Prop) (dC : Nat → ClassId) (dI : Nat → Nat → Nat) (a : Nat → Nat) (ac : Nat → ClassId) (g : Nat → (St × Rw × (St × (St × (St × (St)))) × (St) × (St) × (Nat → St) × (Nat → St) × (Nat → St × (St))) → Option (Int32 × (St × Rw × (St × (St × (St × (St)))) × (St) × (St) × (Nat → St) × (Nat → St) × (Nat → St × (St))))) (r : Int32 × (St × Rw × (St × (St × (St × (St)))) × (St) × (St) × (Nat → St) × (Nat → St) × (Nat → St × (St)))) : Prop := ∀ (v0 : Nat) (s0 : St × Rw × (St × (St × (St × (St)))) × (St) × (St) × (Nat → St) × (Nat → St) × (Nat → St × (St))) (H : Heap) (locs : List Loc) (ls : Array Slot), g v0 s0 = some r → va_P (dC, dI) vwCl (dw_X11 a ac s0) H → va_D A (dw_X11 a ac s0) → va_S A s.heap H locs → lv_has ls 2 [(0, .ref (a 0)), (1, .ref (a (0 + v0 * 9 + 86)))] → W p l e (headSpec ow_dm_X11_holdsAtFirst ({ frames := 5, cells := 0, slots := 0, locals := 127 })).room s m args below meth c H locs 0 0 Q (F0 m 0 ls [])
set_option maxHeartbeats 40000000 in
set_option maxRecDepth 100000 in
theorem db_X11_holdsAtFirst_34 {p : Program} {l : Launch} {e : Env} {s : State} {m : MethodId} {args : Array Value} {below : List Frame} {meth : Method} {c : Code} {Q : State → Prop} {A : Nat → Prop} {dC : Nat → ClassId} {dI : Nat → Nat → Nat} {a : Nat → Nat} {ac : Nat → ClassId} {n : Nat} {r : Int32 × (St × Rw × (St × (St × (St × (St)))) × (St) × (St) × (Nat → St) × (Nat → St) × (Nat → St × (St)))} (C : nd_C p l s m args c A (dC, dI) cX11_holdsAtFirst 2 RX11 ow_dm_X11_holdsAtFirst (dk_X11 ac)) (K : nd_Ki p l e (headSpec ow_dm_X11_holdsAtFirst ({ frames := 5, cells := 0, slots := 0, locals := 127 })).room s m args below meth c Q A (dC, dI) cX11_holdsAtFirst .boolean (St × Rw × (St × (St × (St × (St)))) × (St) × (St) × (Nat → St) × (Nat → St) × (Nat → St × (St))) (dw_X11 a ac) r) : dj_X11_holdsAtFirst_34 p l e s m args below meth c Q A dC dI a ac (df_X11_holdsAtFirst_34 n) r := by
  obtain ⟨hlt, hx, hb, hml, hown, hts, hN, hA, hK⟩ := id C
  intro y0 s0 H locs ls h hP hD hS hl
  unfold df_X11_holdsAtFirst_34 at h
  obtain ⟨n11, h⟩ := nd_z_e ⟨_, rfl⟩ h
  exact K _ _ _ _ _ _ dX11_holdsAtFirst_34 n11 (Option.some.inj h).symm hP hD hS
set_option maxHeartbeats 40000000 in
set_option maxRecDepth 100000 in
theorem db_X11_holdsAtFirst_0 {p : Program} {l : Launch} {e : Env} {s : State} {m : MethodId} {args : Array Value} {below : List Frame} {meth : Method} {c : Code} {Q : State → Prop} {A : Nat → Prop} {dC : Nat → ClassId} {dI : Nat → Nat → Nat} {a : Nat → Nat} {ac : Nat → ClassId} {n : Nat} {r : Int32 × (St × Rw × (St × (St × (St × (St)))) × (St) × (St) × (Nat → St) × (Nat → St) × (Nat → St × (St)))} (C : nd_C p l s m args c A (dC, dI) cX11_holdsAtFirst 2 RX11 ow_dm_X11_holdsAtFirst (dk_X11 ac)) (K : nd_Ki p l e (headSpec ow_dm_X11_holdsAtFirst ({ frames := 5, cells := 0, slots := 0, locals := 127 })).room s m args below meth c Q A (dC, dI) cX11_holdsAtFirst .boolean (St × Rw × (St × (St × (St × (St)))) × (St) × (St) × (Nat → St) × (Nat → St) × (Nat → St × (St))) (dw_X11 a ac) r) : dj_X11_holdsAtFirst_0 p l e s m args below meth c Q A dC dI a ac (df_X11_holdsAtFirst_0 n) r := by
  obtain ⟨hlt, hx, hb, hml, hown, hts, hN, hA, hK⟩ := id C
  intro v0 s0 H locs ls h hP hD hS hl
  unfold df_X11_holdsAtFirst_0 at h
  refine lv_aload_n hx hb dX11_holdsAtFirst_0 rfl (lv_at hl 1 rfl) ?_
  refine lv_aload_n hx hb dX11_holdsAtFirst_1 rfl (lv_at hl 0 rfl) ?_
  refine va_get (D := (dC, dI)) (ci := 12) (v := .ref (a 7)) (C := RX11) (T := TX11) (N := 16) hx hb hts hi_dm_X11_holdsAtFirst_X11 hown hK hP 0 rfl rfl 3 (by decide) (hts (.fieldLink RX11 30 "TimeMachine$Timeline" "machine" "LTimeMachine$Machine;") (List.mem_of_getElem? (i := 1) rfl)) (fun _ h9 => h9) rfl dX11_holdsAtFirst_2 ?_
  refine lv_aload_n hx hb dX11_holdsAtFirst_5 rfl (lv_at hl 0 rfl) ?_
  refine va_get (D := (dC, dI)) (ci := 12) (v := .int (sI s0.1 3)) (C := RX11) (T := TX11) (N := 16) hx hb hts hi_dm_X11_holdsAtFirst_X11 hown hK hP 0 rfl rfl 11 (by decide) (hts (.fieldLink RX11 72 "TimeMachine$Timeline" "now" "I") (List.mem_of_getElem? (i := 2) rfl)) (fun _ h9 => h9) rfl dX11_holdsAtFirst_6 ?_
  obtain ⟨l1, h⟩ := nd_lt_e h
  obtain ⟨s3, hq, h⟩ := nd_b1_e h
  have hPc := dp_wX11_X2m_8 l1 hP
  have hDc := dd_wX11_X2m_8 l1 hD
  have hKc := dy_wX11_X2m_8 l1 hK
  have hFc := nd_rs hDc hS hA
  have hzA : ∀ q : Nat, H.size ≤ q → A q := fun q h => hA q (Nat.le_trans hS.1 h)
  refine nd_cVv (As := [.ref (a 7), .int (sI s0.1 3)]) (rest := []) (w' := dw_X2m (fun k => a (if k < 9 then k - 0 + v0 * 9 + 86 else k - 9 + 7)) (fun k => ac (if k < 9 then k - 0 + v0 * 9 + 86 else k - 9 + 7)) s3) ⟨hx, hb, hml, hown, hts⟩ (fun sz => dm_X2_remember l hlt dC dI (fun k => a (if k < 9 then k - 0 + v0 * 9 + 86 else k - 9 + 7)) (fun k => ac (if k < 9 then k - 0 + v0 * 9 + 86 else k - 9 + 7)) n ((sI s0.1 3)) (nd_st0, (s0.2.2.2.2.2.2.1 v0), s0.2.2.1.2.2) hq sz) (cwV 2 hts gi_dm_X11_holdsAtFirst_0 rfl rfl rfl (by decide +kernel) ⟨Nat.le_of_ble_eq_true rfl, Nat.le_of_ble_eq_true rfl⟩) hPc hDc hKc hS hA hN (va_recv hKc hPc (ci := 3) (q0 := 0) rfl rfl) rfl hl.1 rfl (Nat.le_of_ble_eq_true rfl) dX11_holdsAtFirst_9 (fun H locs hP1 hD1 hk1 hS => ?_)
  obtain ⟨hP, hD⟩ := dn_wX11_X2m_8 l1 hP hD hzA hk1 hP1 hD1
  obtain ⟨s5, es5, h⟩ := nd_let_e h
  have hP : va_P (dC, dI) vwCl (dw_X11 a ac s5) H := by rw [es5]; exact hP
  have hD : va_D A (dw_X11 a ac s5) := by rw [es5]; exact hD
  refine lv_aload_n hx hb dX11_holdsAtFirst_12 rfl (lv_at hl 1 rfl) ?_
  refine lv_aload_n hx hb dX11_holdsAtFirst_13 rfl (lv_at hl 0 rfl) ?_
  refine va_get (D := (dC, dI)) (ci := 12) (v := .ref (a 7)) (C := RX11) (T := TX11) (N := 16) hx hb hts hi_dm_X11_holdsAtFirst_X11 hown hK hP 0 rfl rfl 3 (by decide) (hts (.fieldLink RX11 30 "TimeMachine$Timeline" "machine" "LTimeMachine$Machine;") (List.mem_of_getElem? (i := 1) rfl)) (fun _ h9 => h9) rfl dX11_holdsAtFirst_14 ?_
  refine lv_aload_n hx hb dX11_holdsAtFirst_17 rfl (lv_at hl 0 rfl) ?_
  refine va_get (D := (dC, dI)) (ci := 12) (v := .int (sI s5.1 3)) (C := RX11) (T := TX11) (N := 16) hx hb hts hi_dm_X11_holdsAtFirst_X11 hown hK hP 0 rfl rfl 11 (by decide) (hts (.fieldLink RX11 72 "TimeMachine$Timeline" "now" "I") (List.mem_of_getElem? (i := 2) rfl)) (fun _ h9 => h9) rfl dX11_holdsAtFirst_18 ?_
  obtain ⟨q6, s7, hq, h⟩ := nd_b2_e h
  have hPc := dp_wX11_X2m_8 l1 hP
  have hDc := dd_wX11_X2m_8 l1 hD
  have hKc := dy_wX11_X2m_8 l1 hK
  have hFc := nd_rs hDc hS hA
  have hzA : ∀ q : Nat, H.size ≤ q → A q := fun q h => hA q (Nat.le_trans hS.1 h)
  refine nd_cVl (As := [.ref (a 7), .int (sI s5.1 3)]) (rest := []) (q := q6) (w' := dw_X2m (fun k => a (if k < 9 then k - 0 + v0 * 9 + 86 else k - 9 + 7)) (fun k => ac (if k < 9 then k - 0 + v0 * 9 + 86 else k - 9 + 7)) s7) ⟨hx, hb, hml, hown, hts⟩ (fun sz => dm_X2_worth l hlt dC dI (fun k => a (if k < 9 then k - 0 + v0 * 9 + 86 else k - 9 + 7)) (fun k => ac (if k < 9 then k - 0 + v0 * 9 + 86 else k - 9 + 7)) n ((sI s5.1 3)) (nd_st0, (s5.2.2.2.2.2.2.1 v0), s5.2.2.1.2.2) hq sz) (cwV 2 hts gi_dm_X11_holdsAtFirst_1 rfl rfl rfl (by decide +kernel) ⟨Nat.le_of_ble_eq_true rfl, Nat.le_of_ble_eq_true rfl⟩) hPc hDc hKc hS hA hN (va_recv hKc hPc (ci := 3) (q0 := 0) rfl rfl) rfl hl.1 rfl (Nat.le_of_ble_eq_true rfl) dX11_holdsAtFirst_21 (fun H locs hP1 hD1 hk1 hS => ?_)
  obtain ⟨hP, hD⟩ := dn_wX11_X2m_8 l1 hP hD hzA hk1 hP1 hD1
  obtain ⟨s9, es9, h⟩ := nd_let_e h
  have hP : va_P (dC, dI) vwCl (dw_X11 a ac s9) H := by rw [es9]; exact hP
  have hD : va_D A (dw_X11 a ac s9) := by rw [es9]; exact hD
  refine lv_lconst (v := 0) hx hb dX11_holdsAtFirst_24 (by decide) ?_
  refine W.lcmp hx hb dX11_holdsAtFirst_25 ?_
  refine lv_if_eq (tgt := 33) hx hb dX11_holdsAtFirst_26 (by decide) (fun c10 => ?_) (fun c10 => ?_)
  · have h := nd_pos h c10
    refine lv_iconst (v := 0) hx hb dX11_holdsAtFirst_33 (by decide) ?_
    exact (db_X11_holdsAtFirst_34 C K) (0) s9 _ _ _ h hP hD hS (lv_sub hl [] rfl)
  · have h := nd_neg h c10
    refine lv_iconst (v := 1) hx hb dX11_holdsAtFirst_29 (by decide) ?_
    refine lv_goto (tgt := 34) hx hb dX11_holdsAtFirst_30 (by decide) ?_
    exact (db_X11_holdsAtFirst_34 C K) (1) s9 _ _ _ h hP hD hS (lv_sub hl [] rfl)
set_option maxHeartbeats 40000000 in
set_option maxRecDepth 100000 in
theorem dm_X11_holdsAtFirst (l : Launch) (hlt : l.stackTraces = false) (dC : Nat → ClassId) (dI : Nat → Nat → Nat) (a : Nat → Nat) (ac : Nat → ClassId) (n : Nat) (v0 : Nat) (s0 : St × Rw × (St × (St × (St × (St)))) × (St) × (St) × (Nat → St) × (Nat → St) × (Nat → St × (St))) {r : Int32 × (St × Rw × (St × (St × (St × (St)))) × (St) × (St) × (Nat → St) × (Nat → St) × (Nat → St × (St)))} (h : df_X11_holdsAtFirst n v0 s0 = some r) (sz : Nat) : Met l yX11_holdsAtFirst ow_dm_X11_holdsAtFirst ({ frames := 5, cells := 0, slots := 0, locals := 127 }) (va_Pc [.ref (a 0), .ref (a (0 + v0 * 9 + 86))] (fun U => U.heap.size = sz ∧ va_P (dC, dI) vwCl (dw_X11 a ac s0) U.heap ∧ va_K (dC, dI) vwCl (dk_X11 ac) U ∧ va_D (fun _ => True) (dw_X11 a ac s0) ∧ nv_E (va_A (dw_X11 a ac s0) sz) U)) (va_Qi (fun x _ => x = r.1) (fun (_ : Unit) t => va_P (dC, dI) vwCl (dw_X11 a ac r.2) t.heap ∧ va_K (dC, dI) vwCl (dk_X11 ac) t ∧ va_D (va_A (dw_X11 a ac s0) sz) (dw_X11 a ac r.2)) (va_A (dw_X11 a ac s0) sz)) 0 0 (va_A (dw_X11 a ac s0) sz) := by
  refine Met.ofW (cc := cX11_holdsAtFirst) (maxL := 2) (ret := (some .boolean)) (by decide) rfl ?_
  intro p e s m args below meth c s₁ B hml hv
  obtain ⟨rfl, hsz, hP, hK, hD0, hN⟩ := hv
  have hx := B.exec
  have hb := B.bytes
  have hr := B.returns
  have hts := atoms_spec (ws := ow_dm_X11_holdsAtFirst) B.pre
  have hown : s.vm.findClass RX11 = some m.cls := findClass_of_methodNamed B.named
  have hlocks := B.notSynchronized
  subst hsz
  have hD := hD0.self (sz := s.heap.size)
  generalize hAe : va_A (dw_X11 a ac s0) s.heap.size = A at hD hN ⊢
  have hA : ∀ q : Nat, s.heap.size ≤ q → A q := fun q h => by rw [← hAe]; exact Or.inr h
  have hl := lv_entry ([.ref (a 0), .ref (a (0 + v0 * 9 + 86))]) (n := 2) (Nat.le_of_ble_eq_true rfl)
  rw [lg_entry_eq]
  generalize (lg_sl ([.ref (a 0), .ref (a (0 + v0 * 9 + 86))]) ++ List.replicate (2 - (lg_sl ([.ref (a 0), .ref (a (0 + v0 * 9 + 86))])).length) Slot.unset).toArray = ls at hl ⊢
  have hl : lv_has ls 2 [(0, .ref (a 0)), (1, .ref (a (0 + v0 * 9 + 86)))] := hl
  exact db_X11_holdsAtFirst_0 (dC := dC) (dI := dI) (a := a) (ac := ac) (n := n) (r := r) ⟨hlt, hx, hb, hml, hown, hts, hN, hA, hK⟩ (fun pc v τ H locs ls d z er hP hD hS => by subst er; exact W.zret (v := v) hx hb hr z (fun t ht hW => ⟨⟨v, (), rfl, rfl, by rw [ht]; exact hP, va_K.moved hW.alike hK, hD⟩, hS.F ht⟩) hS.2.2 d) v0 s0 _ _ _ h hP hD va_S.rf (lv_sub hl [0, 1] rfl)
def ow_dm_X11_latest : List Cond := .code yX11_latest cX11_latest 8 (some .int) :: ([.fieldLink RX11 72 "TimeMachine$Timeline" "now" "I", .methodLink RX11 104 Lib.Math.max.name, .static Lib.Math.max.name, .initialized "java/lang/Math", .code Lib.Math.max.name Lib.Math.max.code 2 (some .int), .methodLink RX11 178 yX11_copyUpTo, .instanceMethod yX11_copyUpTo, .selects RX11 yX11_copyUpTo yX11_copyUpTo, .initialized RX11, .methodLink RX11 182 yX11_restore, .instanceMethod yX11_restore, .selects RX11 yX11_restore yX11_restore, .fieldLink RX11 30 "TimeMachine$Timeline" "machine" "LTimeMachine$Machine;", .methodLink RX11 174 yX2_remember, .instanceMethod yX2_remember, .selects RX2 yX2_remember yX2_remember, .initialized RX2, .methodLink RX11 155 yX11_advance, .instanceMethod yX11_advance, .selects RX11 yX11_advance yX11_advance, .methodLink RX11 168 yX2_worth, .instanceMethod yX2_worth, .selects RX2 yX2_worth yX2_worth, .methodLink RX11 189 yX11_holdsAtFirst, .instanceMethod yX11_holdsAtFirst, .selects RX11 yX11_holdsAtFirst yX11_holdsAtFirst] ++ (u_ws RX11 TX11 16 ++ (ow_dm_X11_copyUpTo ++ (ow_dm_X11_restore ++ (ow_dm_X2_remember ++ (ow_dm_X11_advance ++ (ow_dm_X2_worth ++ (ow_dm_X11_holdsAtFirst ++ []))))))))
theorem gd_dm_X11_latest : ∀ w ∈ ow_dm_X11_latest, (w.onTables && w.keeps) = true ∨ ∃ ty, w = Cond.arrayClass ty := List.forall_mem_cons.mpr ⟨good_of_word rfl, List.forall_mem_append.mpr ⟨fun w h => good_of_word (List.all_eq_true.mp (by decide +kernel) w h), List.forall_mem_append.mpr ⟨gu_X11, List.forall_mem_append.mpr ⟨gd_dm_X11_copyUpTo, List.forall_mem_append.mpr ⟨gd_dm_X11_restore, List.forall_mem_append.mpr ⟨gd_dm_X2_remember, List.forall_mem_append.mpr ⟨gd_dm_X11_advance, List.forall_mem_append.mpr ⟨gd_dm_X2_worth, List.forall_mem_append.mpr ⟨gd_dm_X11_holdsAtFirst, fun _ h => nomatch h⟩⟩⟩⟩⟩⟩⟩⟩⟩
theorem hi_dm_X11_latest_X11 : ∀ w ∈ u_ws RX11 TX11 16, w ∈ ow_dm_X11_latest := fun w h => List.mem_cons_of_mem _ (List.mem_append_right _ (List.mem_append_left _ h))
theorem gi_dm_X11_latest_0 : GoodIn ow_dm_X11_latest (wsV RX11 178 RX11 yX11_copyUpTo ow_dm_X11_copyUpTo) := goodIn_app (goodIn_of _ (by decide +kernel)) (fun w h => ⟨List.mem_cons_of_mem _ (List.mem_append_right _ (List.mem_append_right _ (List.mem_append_left _ h))), gd_dm_X11_copyUpTo w h⟩)
theorem gi_dm_X11_latest_1 : GoodIn ow_dm_X11_latest (wsV RX11 182 RX11 yX11_restore ow_dm_X11_restore) := goodIn_app (goodIn_of _ (by decide +kernel)) (fun w h => ⟨List.mem_cons_of_mem _ (List.mem_append_right _ (List.mem_append_right _ (List.mem_append_right _ (List.mem_append_left _ h)))), gd_dm_X11_restore w h⟩)
theorem gi_dm_X11_latest_2 : GoodIn ow_dm_X11_latest (wsV RX11 174 RX2 yX2_remember ow_dm_X2_remember) := goodIn_app (goodIn_of _ (by decide +kernel)) (fun w h => ⟨List.mem_cons_of_mem _ (List.mem_append_right _ (List.mem_append_right _ (List.mem_append_right _ (List.mem_append_right _ (List.mem_append_left _ h))))), gd_dm_X2_remember w h⟩)
theorem gi_dm_X11_latest_3 : GoodIn ow_dm_X11_latest (wsV RX11 155 RX11 yX11_advance ow_dm_X11_advance) := goodIn_app (goodIn_of _ (by decide +kernel)) (fun w h => ⟨List.mem_cons_of_mem _ (List.mem_append_right _ (List.mem_append_right _ (List.mem_append_right _ (List.mem_append_right _ (List.mem_append_right _ (List.mem_append_left _ h)))))), gd_dm_X11_advance w h⟩)
theorem gi_dm_X11_latest_4 : GoodIn ow_dm_X11_latest (wsV RX11 168 RX2 yX2_worth ow_dm_X2_worth) := goodIn_app (goodIn_of _ (by decide +kernel)) (fun w h => ⟨List.mem_cons_of_mem _ (List.mem_append_right _ (List.mem_append_right _ (List.mem_append_right _ (List.mem_append_right _ (List.mem_append_right _ (List.mem_append_right _ (List.mem_append_left _ h))))))), gd_dm_X2_worth w h⟩)
theorem gi_dm_X11_latest_5 : GoodIn ow_dm_X11_latest (wsV RX11 189 RX11 yX11_holdsAtFirst ow_dm_X11_holdsAtFirst) := goodIn_app (goodIn_of _ (by decide +kernel)) (fun w h => ⟨List.mem_cons_of_mem _ (List.mem_append_right _ (List.mem_append_right _ (List.mem_append_right _ (List.mem_append_right _ (List.mem_append_right _ (List.mem_append_right _ (List.mem_append_right _ (List.mem_append_left _ h)))))))), gd_dm_X11_holdsAtFirst w h⟩)
def dj_X11_latest_147 (p : Program) (l : Launch) (e : Env) (s : State) (m : MethodId) (args : Array Value) (below : List Frame) (meth : Method) (c : Code) (Q : State → Prop) (A : Nat → Prop) (dC : Nat → ClassId) (dI : Nat → Nat → Nat) (a : Nat → Nat) (ac : Nat → ClassId) (g : (St × Rw × (St × (St × (St × (St)))) × (St) × (St) × (Nat → St) × (Nat → St) × (Nat → St × (St))) → Option (Int32 × (St × Rw × (St × (St × (St × (St)))) × (St) × (St) × (Nat → St) × (Nat → St) × (Nat → St × (St))))) (r : Int32 × (St × Rw × (St × (St × (St × (St)))) × (St) × (St) × (Nat → St) × (Nat → St) × (Nat → St × (St)))) : Prop := ∀ (s0 : St × Rw × (St × (St × (St × (St)))) × (St) × (St) × (Nat → St) × (Nat → St) × (Nat → St × (St))) (H : Heap) (locs : List Loc) (ls : Array Slot), g s0 = some r → va_P (dC, dI) vwCl (dw_X11 a ac s0) H → va_D A (dw_X11 a ac s0) → va_S A s.heap H locs → lv_has ls 8 [] → W p l e (headSpec ow_dm_X11_latest ({ frames := 8, cells := 0, slots := 0, locals := 182 })).room s m args below meth c H locs 0 0 Q (F0 m 147 ls [])
def dj_X11_latest_140 (p : Program) (l : Launch) (e : Env) (s : State) (m : MethodId) (args : Array Value) (below : List Frame) (meth : Method) (c : Code) (Q : State → Prop) (A : Nat → Prop) (dC : Nat → ClassId) (dI : Nat → Nat → Nat) (a : Nat → Nat) (ac : Nat → ClassId) (g : Nat → Int32 → Int32 → (St × Rw × (St × (St × (St × (St)))) × (St) × (St) × (Nat → St) × (Nat → St) × (Nat → St × (St))) → Option (Int32 × (St × Rw × (St × (St × (St × (St)))) × (St) × (St) × (Nat → St) × (Nat → St) × (Nat → St × (St))))) (r : Int32 × (St × Rw × (St × (St × (St × (St)))) × (St) × (St) × (Nat → St) × (Nat → St) × (Nat → St × (St)))) : Prop := ∀ (x1 : Nat) (x3 : Int32) (y0 : Int32) (s0 : St × Rw × (St × (St × (St × (St)))) × (St) × (St) × (Nat → St) × (Nat → St) × (Nat → St × (St))) (H : Heap) (locs : List Loc) (ls : Array Slot), g x1 x3 y0 s0 = some r → va_P (dC, dI) vwCl (dw_X11 a ac s0) H → va_D A (dw_X11 a ac s0) → va_S A s.heap H locs → lv_has ls 8 [(0, .ref (a 0)), (1, .ref (a (0 + x1 * 9 + 86))), (3, .int x3)] → W p l e (headSpec ow_dm_X11_latest ({ frames := 8, cells := 0, slots := 0, locals := 182 })).room s m args below meth c H locs 0 0 Q (F0 m 140 ls [.int y0])
def dj_X11_latest_115 (p : Program) (l : Launch) (e : Env) (s : State) (m : MethodId) (args : Array Value) (below : List Frame) (meth : Method) (c : Code) (Q : State → Prop) (A : Nat → Prop) (dC : Nat → ClassId) (dI : Nat → Nat → Nat) (a : Nat → Nat) (ac : Nat → ClassId) (g : Nat → Int32 → Int32 → Int32 → Int32 → (St × Rw × (St × (St × (St × (St)))) × (St) × (St) × (Nat → St) × (Nat → St) × (Nat → St × (St))) → Option (Int32 × (St × Rw × (St × (St × (St × (St)))) × (St) × (St) × (Nat → St) × (Nat → St) × (Nat → St × (St))))) (r : Int32 × (St × Rw × (St × (St × (St × (St)))) × (St) × (St) × (Nat → St) × (Nat → St) × (Nat → St × (St)))) : Prop := ∀ (x1 : Nat) (x3 : Int32) (x5 : Int32) (x6 : Int32) (x7 : Int32) (s0 : St × Rw × (St × (St × (St × (St)))) × (St) × (St) × (Nat → St) × (Nat → St) × (Nat → St × (St))) (H : Heap) (locs : List Loc) (ls : Array Slot), g x1 x3 x5 x6 x7 s0 = some r → va_P (dC, dI) vwCl (dw_X11 a ac s0) H → va_D A (dw_X11 a ac s0) → va_S A s.heap H locs → lv_has ls 8 [(0, .ref (a 0)), (1, .ref (a (0 + x1 * 9 + 86))), (3, .int x3), (5, .int x5), (6, .int x6), (7, .int x7)] → W p l e (headSpec ow_dm_X11_latest ({ frames := 8, cells := 0, slots := 0, locals := 182 })).room s m args below meth c H locs 0 0 Q (F0 m 115 ls [])
def dj_X11_latest_71 (p : Program) (l : Launch) (e : Env) (s : State) (m : MethodId) (args : Array Value) (below : List Frame) (meth : Method) (c : Code) (Q : State → Prop) (A : Nat → Prop) (dC : Nat → ClassId) (dI : Nat → Nat → Nat) (a : Nat → Nat) (ac : Nat → ClassId) (g : Nat → Int32 → Int32 → Int32 → Int32 → (St × Rw × (St × (St × (St × (St)))) × (St) × (St) × (Nat → St) × (Nat → St) × (Nat → St × (St))) → Option (Int32 × (St × Rw × (St × (St × (St × (St)))) × (St) × (St) × (Nat → St) × (Nat → St) × (Nat → St × (St))))) (r : Int32 × (St × Rw × (St × (St × (St × (St)))) × (St) × (St) × (Nat → St) × (Nat → St) × (Nat → St × (St)))) : Prop := ∀ (x1 : Nat) (x3 : Int32) (x5 : Int32) (x6 : Int32) (x7 : Int32) (s0 : St × Rw × (St × (St × (St × (St)))) × (St) × (St) × (Nat → St) × (Nat → St) × (Nat → St × (St))) (H : Heap) (locs : List Loc) (ls : Array Slot), g x1 x3 x5 x6 x7 s0 = some r → va_P (dC, dI) vwCl (dw_X11 a ac s0) H → va_D A (dw_X11 a ac s0) → va_S A s.heap H locs → lv_has ls 8 [(0, .ref (a 0)), (1, .ref (a (0 + x1 * 9 + 86))), (3, .int x3), (5, .int x5), (6, .int x6), (7, .int x7)] → W p l e (headSpec ow_dm_X11_latest ({ frames := 8, cells := 0, slots := 0, locals := 182 })).room s m args below meth c H locs 0 0 Q (F0 m 71 ls [])
def dj_X11_latest_61 (p : Program) (l : Launch) (e : Env) (s : State) (m : MethodId) (args : Array Value) (below : List Frame) (meth : Method) (c : Code) (Q : State → Prop) (A : Nat → Prop) (dC : Nat → ClassId) (dI : Nat → Nat → Nat) (a : Nat → Nat) (ac : Nat → ClassId) (g : Nat → Int32 → Int32 → Int32 → Int32 → (St × Rw × (St × (St × (St × (St)))) × (St) × (St) × (Nat → St) × (Nat → St) × (Nat → St × (St))) → Option (Int32 × (St × Rw × (St × (St × (St × (St)))) × (St) × (St) × (Nat → St) × (Nat → St) × (Nat → St × (St))))) (r : Int32 × (St × Rw × (St × (St × (St × (St)))) × (St) × (St) × (Nat → St) × (Nat → St) × (Nat → St × (St)))) : Prop := ∀ (x1 : Nat) (x2 : Int32) (x3 : Int32) (x5 : Int32) (y0 : Int32) (s0 : St × Rw × (St × (St × (St × (St)))) × (St) × (St) × (Nat → St) × (Nat → St) × (Nat → St × (St))) (H : Heap) (locs : List Loc) (ls : Array Slot), g x1 x2 x3 x5 y0 s0 = some r → va_P (dC, dI) vwCl (dw_X11 a ac s0) H → va_D A (dw_X11 a ac s0) → va_S A s.heap H locs → lv_has ls 8 [(0, .ref (a 0)), (1, .ref (a (0 + x1 * 9 + 86))), (2, .int x2), (3, .int x3), (5, .int x5)] → W p l e (headSpec ow_dm_X11_latest ({ frames := 8, cells := 0, slots := 0, locals := 182 })).room s m args below meth c H locs 0 0 Q (F0 m 61 ls [.int y0])
def dj_X11_latest_60 (p : Program) (l : Launch) (e : Env) (s : State) (m : MethodId) (args : Array Value) (below : List Frame) (meth : Method) (c : Code) (Q : State → Prop) (A : Nat → Prop) (dC : Nat → ClassId) (dI : Nat → Nat → Nat) (a : Nat → Nat) (ac : Nat → ClassId) (g : Nat → Int32 → Int32 → Int32 → (St × Rw × (St × (St × (St × (St)))) × (St) × (St) × (Nat → St) × (Nat → St) × (Nat → St × (St))) → Option (Int32 × (St × Rw × (St × (St × (St × (St)))) × (St) × (St) × (Nat → St) × (Nat → St) × (Nat → St × (St))))) (r : Int32 × (St × Rw × (St × (St × (St × (St)))) × (St) × (St) × (Nat → St) × (Nat → St) × (Nat → St × (St)))) : Prop := ∀ (x1 : Nat) (x2 : Int32) (x3 : Int32) (x5 : Int32) (s0 : St × Rw × (St × (St × (St × (St)))) × (St) × (St) × (Nat → St) × (Nat → St) × (Nat → St × (St))) (H : Heap) (locs : List Loc) (ls : Array Slot), g x1 x2 x3 x5 s0 = some r → va_P (dC, dI) vwCl (dw_X11 a ac s0) H → va_D A (dw_X11 a ac s0) → va_S A s.heap H locs → lv_has ls 8 [(0, .ref (a 0)), (1, .ref (a (0 + x1 * 9 + 86))), (2, .int x2), (3, .int x3), (5, .int x5)] → W p l e (headSpec ow_dm_X11_latest ({ frames := 8, cells := 0, slots := 0, locals := 182 })).room s m args below meth c H locs 0 0 Q (F0 m 60 ls [])
def dj_X11_latest_10 (p : Program) (l : Launch) (e : Env) (s : State) (m : MethodId) (args : Array Value) (below : List Frame) (meth : Method) (c : Code) (Q : State → Prop) (A : Nat → Prop) (dC : Nat → ClassId) (dI : Nat → Nat → Nat) (a : Nat → Nat) (ac : Nat → ClassId) (g : Nat → Int32 → Int32 → (St × Rw × (St × (St × (St × (St)))) × (St) × (St) × (Nat → St) × (Nat → St) × (Nat → St × (St))) → Option (Int32 × (St × Rw × (St × (St × (St × (St)))) × (St) × (St) × (Nat → St) × (Nat → St) × (Nat → St × (St))))) (r : Int32 × (St × Rw × (St × (St × (St × (St)))) × (St) × (St) × (Nat → St) × (Nat → St) × (Nat → St × (St)))) : Prop := ∀ (x1 : Nat) (x2 : Int32) (x3 : Int32) (s0 : St × Rw × (St × (St × (St × (St)))) × (St) × (St) × (Nat → St) × (Nat → St) × (Nat → St × (St))) (H : Heap) (locs : List Loc) (ls : Array Slot), g x1 x2 x3 s0 = some r → va_P (dC, dI) vwCl (dw_X11 a ac s0) H → va_D A (dw_X11 a ac s0) → va_S A s.heap H locs → lv_has ls 8 [(0, .ref (a 0)), (1, .ref (a (0 + x1 * 9 + 86))), (2, .int x2), (3, .int x3)] → W p l e (headSpec ow_dm_X11_latest ({ frames := 8, cells := 0, slots := 0, locals := 182 })).room s m args below meth c H locs 0 0 Q (F0 m 10 ls [])
def dj_X11_latest_0 (p : Program) (l : Launch) (e : Env) (s : State) (m : MethodId) (args : Array Value) (below : List Frame) (meth : Method) (c : Code) (Q : State → Prop) (A : Nat → Prop) (dC : Nat → ClassId) (dI : Nat → Nat → Nat) (a : Nat → Nat) (ac : Nat → ClassId) (g : Nat → (St × Rw × (St × (St × (St × (St)))) × (St) × (St) × (Nat → St) × (Nat → St) × (Nat → St × (St))) → Option (Int32 × (St × Rw × (St × (St × (St × (St)))) × (St) × (St) × (Nat → St) × (Nat → St) × (Nat → St × (St))))) (r : Int32 × (St × Rw × (St × (St × (St × (St)))) × (St) × (St) × (Nat → St) × (Nat → St) × (Nat → St × (St)))) : Prop := ∀ (v0 : Nat) (s0 : St × Rw × (St × (St × (St × (St)))) × (St) × (St) × (Nat → St) × (Nat → St) × (Nat → St × (St))) (H : Heap) (locs : List Loc) (ls : Array Slot), g v0 s0 = some r → va_P (dC, dI) vwCl (dw_X11 a ac s0) H → va_D A (dw_X11 a ac s0) → va_S A s.heap H locs → lv_has ls 8 [(0, .ref (a 0)), (1, .ref (a (0 + v0 * 9 + 86)))] → W p l e (headSpec ow_dm_X11_latest ({ frames := 8, cells := 0, slots := 0, locals := 182 })).room s m args below meth c H locs 0 0 Q (F0 m 0 ls [])
set_option maxHeartbeats 40000000 in
set_option maxRecDepth 100000 in
theorem db_X11_latest_147 {p : Program} {l : Launch} {e : Env} {s : State} {m : MethodId} {args : Array Value} {below : List Frame} {meth : Method} {c : Code} {Q : State → Prop} {A : Nat → Prop} {dC : Nat → ClassId} {dI : Nat → Nat → Nat} {a : Nat → Nat} {ac : Nat → ClassId} {n : Nat} {r : Int32 × (St × Rw × (St × (St × (St × (St)))) × (St) × (St) × (Nat → St) × (Nat → St) × (Nat → St × (St)))} (C : nd_C p l s m args c A (dC, dI) cX11_latest 8 RX11 ow_dm_X11_latest (dk_X11 ac)) (K : nd_Ki p l e (headSpec ow_dm_X11_latest ({ frames := 8, cells := 0, slots := 0, locals := 182 })).room s m args below meth c Q A (dC, dI) cX11_latest .int (St × Rw × (St × (St × (St × (St)))) × (St) × (St) × (Nat → St) × (Nat → St) × (Nat → St × (St))) (dw_X11 a ac) r) : dj_X11_latest_147 p l e s m args below meth c Q A dC dI a ac (df_X11_latest_147 n) r := by
  obtain ⟨hlt, hx, hb, hml, hown, hts, hN, hA, hK⟩ := id C
  intro s0 H locs ls h hP hD hS hl
  unfold df_X11_latest_147 at h
  refine lv_iconst (v := (-1)) hx hb dX11_latest_147 (by decide) ?_
  exact K _ _ _ _ _ _ dX11_latest_148 rfl (Option.some.inj h).symm hP hD hS
set_option maxHeartbeats 40000000 in
set_option maxRecDepth 100000 in
theorem db_X11_latest_140 {p : Program} {l : Launch} {e : Env} {s : State} {m : MethodId} {args : Array Value} {below : List Frame} {meth : Method} {c : Code} {Q : State → Prop} {A : Nat → Prop} {dC : Nat → ClassId} {dI : Nat → Nat → Nat} {a : Nat → Nat} {ac : Nat → ClassId} {n : Nat} {r : Int32 × (St × Rw × (St × (St × (St × (St)))) × (St) × (St) × (Nat → St) × (Nat → St) × (Nat → St × (St)))} (C : nd_C p l s m args c A (dC, dI) cX11_latest 8 RX11 ow_dm_X11_latest (dk_X11 ac)) (K : nd_Ki p l e (headSpec ow_dm_X11_latest ({ frames := 8, cells := 0, slots := 0, locals := 182 })).room s m args below meth c Q A (dC, dI) cX11_latest .int (St × Rw × (St × (St × (St × (St)))) × (St) × (St) × (Nat → St) × (Nat → St) × (Nat → St × (St))) (dw_X11 a ac) r) {g10 : Nat → Int32 → Int32 → (St × Rw × (St × (St × (St × (St)))) × (St) × (St) × (Nat → St) × (Nat → St) × (Nat → St × (St))) → Option (Int32 × (St × Rw × (St × (St × (St × (St)))) × (St) × (St) × (Nat → St) × (Nat → St) × (Nat → St × (St))))} (J10 : dj_X11_latest_10 p l e s m args below meth c Q A dC dI a ac g10 r) : dj_X11_latest_140 p l e s m args below meth c Q A dC dI a ac (df_X11_latest_140 n g10) r := by
  obtain ⟨hlt, hx, hb, hml, hown, hts, hN, hA, hK⟩ := id C
  intro x1 x3 y0 s0 H locs ls h hP hD hS hl
  unfold df_X11_latest_140 at h
  refine lv_istore_n (lv' := [(2, .int y0), (0, .ref (a 0)), (1, .ref (a (0 + x1 * 9 + 86))), (3, .int x3)]) hx hb dX11_latest_140 rfl hl (by decide) rfl (fun ls hl => ?_)
  obtain ⟨z16, ez16, h⟩ := nd_let_e h
  refine lv_iinc (v := z16) (lv' := [(3, .int z16), (2, .int y0), (0, .ref (a 0)), (1, .ref (a (0 + x1 * 9 + 86)))]) hx hb dX11_latest_141 hl (k := 3) rfl (by rw [ez16]) (by decide) rfl (fun ls hl => ?_)
  refine lv_goto (tgt := 10) hx hb dX11_latest_144 (by decide) ?_
  exact (J10) (x1) (y0) (z16) s0 _ _ _ h hP hD hS (lv_sub hl [2, 3, 1, 0] rfl)
set_option maxHeartbeats 40000000 in
set_option maxRecDepth 100000 in
theorem db_X11_latest_115 {p : Program} {l : Launch} {e : Env} {s : State} {m : MethodId} {args : Array Value} {below : List Frame} {meth : Method} {c : Code} {Q : State → Prop} {A : Nat → Prop} {dC : Nat → ClassId} {dI : Nat → Nat → Nat} {a : Nat → Nat} {ac : Nat → ClassId} {n : Nat} {r : Int32 × (St × Rw × (St × (St × (St × (St)))) × (St) × (St) × (Nat → St) × (Nat → St) × (Nat → St × (St)))} (C : nd_C p l s m args c A (dC, dI) cX11_latest 8 RX11 ow_dm_X11_latest (dk_X11 ac)) (K : nd_Ki p l e (headSpec ow_dm_X11_latest ({ frames := 8, cells := 0, slots := 0, locals := 182 })).room s m args below meth c Q A (dC, dI) cX11_latest .int (St × Rw × (St × (St × (St × (St)))) × (St) × (St) × (Nat → St) × (Nat → St) × (Nat → St × (St))) (dw_X11 a ac) r) {g10 : Nat → Int32 → Int32 → (St × Rw × (St × (St × (St × (St)))) × (St) × (St) × (Nat → St) × (Nat → St) × (Nat → St × (St))) → Option (Int32 × (St × Rw × (St × (St × (St × (St)))) × (St) × (St) × (Nat → St) × (Nat → St) × (Nat → St × (St))))} {g71 : Nat → Int32 → Int32 → Int32 → Int32 → (St × Rw × (St × (St × (St × (St)))) × (St) × (St) × (Nat → St) × (Nat → St) × (Nat → St × (St))) → Option (Int32 × (St × Rw × (St × (St × (St × (St)))) × (St) × (St) × (Nat → St) × (Nat → St) × (Nat → St × (St))))} (J10 : dj_X11_latest_10 p l e s m args below meth c Q A dC dI a ac g10 r) (J71 : dj_X11_latest_71 p l e s m args below meth c Q A dC dI a ac g71 r) : dj_X11_latest_115 p l e s m args below meth c Q A dC dI a ac (df_X11_latest_115 n g10 g71) r := by
  obtain ⟨hlt, hx, hb, hml, hown, hts, hN, hA, hK⟩ := id C
  intro x1 x3 x5 x6 x7 s0 H locs ls h hP hD hS hl
  unfold df_X11_latest_115 at h
  obtain ⟨z30, ez30, h⟩ := nd_let_e h
  refine lv_iinc (v := z30) (lv' := [(7, .int z30), (0, .ref (a 0)), (1, .ref (a (0 + x1 * 9 + 86))), (3, .int x3), (5, .int x5), (6, .int x6)]) hx hb dX11_latest_115 hl (k := 5) rfl (by rw [ez30]) (by decide) rfl (fun ls hl => ?_)
  refine lv_goto (tgt := 71) hx hb dX11_latest_118 (by decide) ?_
  exact (J71) (x1) (x3) (x5) (x6) (z30) s0 _ _ _ h hP hD hS (lv_sub hl [1, 2, 3, 4, 5, 0] rfl)
set_option maxHeartbeats 40000000 in
set_option maxRecDepth 100000 in
theorem dB_X11_latest_71 {p : Program} {l : Launch} {e : Env} {s : State} {m : MethodId} {args : Array Value} {below : List Frame} {meth : Method} {c : Code} {Q : State → Prop} {A : Nat → Prop} {dC : Nat → ClassId} {dI : Nat → Nat → Nat} {a : Nat → Nat} {ac : Nat → ClassId} {n : Nat} {r : Int32 × (St × Rw × (St × (St × (St × (St)))) × (St) × (St) × (Nat → St) × (Nat → St) × (Nat → St × (St)))} (C : nd_C p l s m args c A (dC, dI) cX11_latest 8 RX11 ow_dm_X11_latest (dk_X11 ac)) (K : nd_Ki p l e (headSpec ow_dm_X11_latest ({ frames := 8, cells := 0, slots := 0, locals := 182 })).room s m args below meth c Q A (dC, dI) cX11_latest .int (St × Rw × (St × (St × (St × (St)))) × (St) × (St) × (Nat → St) × (Nat → St) × (Nat → St × (St))) (dw_X11 a ac) r) {g10 : Nat → Int32 → Int32 → (St × Rw × (St × (St × (St × (St)))) × (St) × (St) × (Nat → St) × (Nat → St) × (Nat → St × (St))) → Option (Int32 × (St × Rw × (St × (St × (St × (St)))) × (St) × (St) × (Nat → St) × (Nat → St) × (Nat → St × (St))))} (J10 : dj_X11_latest_10 p l e s m args below meth c Q A dC dI a ac g10 r) {g71 : Nat → Int32 → Int32 → Int32 → Int32 → (St × Rw × (St × (St × (St × (St)))) × (St) × (St) × (Nat → St) × (Nat → St) × (Nat → St × (St))) → Option (Int32 × (St × Rw × (St × (St × (St × (St)))) × (St) × (St) × (Nat → St) × (Nat → St) × (Nat → St × (St))))} (J71 : dj_X11_latest_71 p l e s m args below meth c Q A dC dI a ac g71 r) : dj_X11_latest_71 p l e s m args below meth c Q A dC dI a ac (dF_X11_latest_71 n g10 g71) r := by
  obtain ⟨hlt, hx, hb, hml, hown, hts, hN, hA, hK⟩ := id C
  intro x1 x3 x5 x6 x7 s0 H locs ls h hP hD hS hl
  unfold dF_X11_latest_71 at h
  refine lv_iload hx hb dX11_latest_71 (lv_at hl 5 rfl) ?_
  refine lv_if_le (tgt := 121) hx hb dX11_latest_73 (by decide) (fun c13 => ?_) (fun c13 => ?_)
  · have h := nd_pos h c13
    refine lv_iload hx hb dX11_latest_121 (lv_at hl 4 rfl) ?_
    refine lv_if_lt (tgt := 129) hx hb dX11_latest_123 (by decide) (fun c14 => ?_) (fun c14 => ?_)
    · have h := nd_pos h c14
      refine lv_iload hx hb dX11_latest_129 (lv_at hl 3 rfl) ?_
      refine lv_if_ne (tgt := 138) hx hb dX11_latest_131 (by decide) (fun c15 => ?_) (fun c15 => ?_)
      · have h := nd_neg h c15
        refine lv_iload hx hb dX11_latest_138 (lv_at hl 3 rfl) ?_
        exact (db_X11_latest_140 C K J10) (x1) (x3) (x5) s0 _ _ _ h hP hD hS (lv_sub hl [0, 1, 2] rfl)
      · have h := nd_pos h c15
        refine lv_iconst (v := (-1)) hx hb dX11_latest_134 (by decide) ?_
        refine lv_goto (tgt := 140) hx hb dX11_latest_135 (by decide) ?_
        exact (db_X11_latest_140 C K J10) (x1) (x3) ((-1)) s0 _ _ _ h hP hD hS (lv_sub hl [0, 1, 2] rfl)
    · have h := nd_neg h c14
      refine lv_iload hx hb dX11_latest_126 (lv_at hl 4 rfl) ?_
      exact K _ _ _ _ _ _ dX11_latest_128 rfl (Option.some.inj h).symm hP hD hS
  · have h := nd_neg h c13
    refine lv_aload_n hx hb dX11_latest_76 rfl (lv_at hl 1 rfl) ?_
    refine lv_aload_n hx hb dX11_latest_77 rfl (lv_at hl 0 rfl) ?_
    refine va_get (D := (dC, dI)) (ci := 12) (v := .ref (a 7)) (C := RX11) (T := TX11) (N := 16) hx hb hts hi_dm_X11_latest_X11 hown hK hP 0 rfl rfl 3 (by decide) (hts (.fieldLink RX11 30 "TimeMachine$Timeline" "machine" "LTimeMachine$Machine;") (List.mem_of_getElem? (i := 13) rfl)) (fun _ h9 => h9) rfl dX11_latest_78 ?_
    refine lv_aload_n hx hb dX11_latest_81 rfl (lv_at hl 0 rfl) ?_
    refine va_get (D := (dC, dI)) (ci := 12) (v := .int (sI s0.1 3)) (C := RX11) (T := TX11) (N := 16) hx hb hts hi_dm_X11_latest_X11 hown hK hP 0 rfl rfl 11 (by decide) (hts (.fieldLink RX11 72 "TimeMachine$Timeline" "now" "I") (List.mem_of_getElem? (i := 1) rfl)) (fun _ h9 => h9) rfl dX11_latest_82 ?_
    obtain ⟨l17, h⟩ := nd_lt_e h
    obtain ⟨s19, hq, h⟩ := nd_b1_e h
    have hPc := dp_wX11_X2m_8 l17 hP
    have hDc := dd_wX11_X2m_8 l17 hD
    have hKc := dy_wX11_X2m_8 l17 hK
    have hFc := nd_rs hDc hS hA
    have hzA : ∀ q : Nat, H.size ≤ q → A q := fun q h => hA q (Nat.le_trans hS.1 h)
    refine nd_cVv (As := [.ref (a 7), .int (sI s0.1 3)]) (rest := []) (w' := dw_X2m (fun k => a (if k < 9 then k - 0 + x1 * 9 + 86 else k - 9 + 7)) (fun k => ac (if k < 9 then k - 0 + x1 * 9 + 86 else k - 9 + 7)) s19) ⟨hx, hb, hml, hown, hts⟩ (fun sz => dm_X2_remember l hlt dC dI (fun k => a (if k < 9 then k - 0 + x1 * 9 + 86 else k - 9 + 7)) (fun k => ac (if k < 9 then k - 0 + x1 * 9 + 86 else k - 9 + 7)) n ((sI s0.1 3)) (nd_st0, (s0.2.2.2.2.2.2.1 x1), s0.2.2.1.2.2) hq sz) (cwV 2 hts gi_dm_X11_latest_2 rfl rfl rfl (by decide +kernel) ⟨Nat.le_of_ble_eq_true rfl, Nat.le_of_ble_eq_true rfl⟩) hPc hDc hKc hS hA hN (va_recv hKc hPc (ci := 3) (q0 := 0) rfl rfl) rfl hl.1 rfl (Nat.le_of_ble_eq_true rfl) dX11_latest_85 (fun H locs hP1 hD1 hk1 hS => ?_)
    obtain ⟨hP, hD⟩ := dn_wX11_X2m_8 l17 hP hD hzA hk1 hP1 hD1
    obtain ⟨s21, es21, h⟩ := nd_let_e h
    have hP : va_P (dC, dI) vwCl (dw_X11 a ac s21) H := by rw [es21]; exact hP
    have hD : va_D A (dw_X11 a ac s21) := by rw [es21]; exact hD
    refine lv_aload_n hx hb dX11_latest_88 rfl (lv_at hl 0 rfl) ?_
    obtain ⟨s23, hq, h⟩ := nd_b1_e h
    have hPc := hP
    have hDc := hD
    have hKc := hK
    have hFc := nd_rs hD hS hA
    refine nd_cVv (As := []) (rest := []) (w' := dw_X11 a ac s23) ⟨hx, hb, hml, hown, hts⟩ (fun sz => dm_X11_advance l hlt dC dI a ac n  s21 hq sz) (cwV 0 hts gi_dm_X11_latest_3 rfl rfl rfl (by decide +kernel) ⟨Nat.le_of_ble_eq_true rfl, Nat.le_of_ble_eq_true rfl⟩) hPc hDc hKc hS hA hN (va_recv hKc hPc (ci := 12) (q0 := 0) rfl rfl) rfl hl.1 rfl (Nat.le_of_ble_eq_true rfl) dX11_latest_89 (fun H locs hP1 hD1 hk1 hS => ?_)
    have hP := hP1
    have hD := hD1.weaken (fun k q _ h => hFc q.1 h)
    refine lv_aload_n hx hb dX11_latest_92 rfl (lv_at hl 1 rfl) ?_
    refine lv_aload_n hx hb dX11_latest_93 rfl (lv_at hl 0 rfl) ?_
    refine va_get (D := (dC, dI)) (ci := 12) (v := .ref (a 7)) (C := RX11) (T := TX11) (N := 16) hx hb hts hi_dm_X11_latest_X11 hown hK hP 0 rfl rfl 3 (by decide) (hts (.fieldLink RX11 30 "TimeMachine$Timeline" "machine" "LTimeMachine$Machine;") (List.mem_of_getElem? (i := 13) rfl)) (fun _ h9 => h9) rfl dX11_latest_94 ?_
    refine lv_aload_n hx hb dX11_latest_97 rfl (lv_at hl 0 rfl) ?_
    refine va_get (D := (dC, dI)) (ci := 12) (v := .int (sI s23.1 3)) (C := RX11) (T := TX11) (N := 16) hx hb hts hi_dm_X11_latest_X11 hown hK hP 0 rfl rfl 11 (by decide) (hts (.fieldLink RX11 72 "TimeMachine$Timeline" "now" "I") (List.mem_of_getElem? (i := 1) rfl)) (fun _ h9 => h9) rfl dX11_latest_98 ?_
    obtain ⟨q25, s26, hq, h⟩ := nd_b2_e h
    have hPc := dp_wX11_X2m_8 l17 hP
    have hDc := dd_wX11_X2m_8 l17 hD
    have hKc := dy_wX11_X2m_8 l17 hK
    have hFc := nd_rs hDc hS hA
    have hzA : ∀ q : Nat, H.size ≤ q → A q := fun q h => hA q (Nat.le_trans hS.1 h)
    refine nd_cVl (As := [.ref (a 7), .int (sI s23.1 3)]) (rest := []) (q := q25) (w' := dw_X2m (fun k => a (if k < 9 then k - 0 + x1 * 9 + 86 else k - 9 + 7)) (fun k => ac (if k < 9 then k - 0 + x1 * 9 + 86 else k - 9 + 7)) s26) ⟨hx, hb, hml, hown, hts⟩ (fun sz => dm_X2_worth l hlt dC dI (fun k => a (if k < 9 then k - 0 + x1 * 9 + 86 else k - 9 + 7)) (fun k => ac (if k < 9 then k - 0 + x1 * 9 + 86 else k - 9 + 7)) n ((sI s23.1 3)) (nd_st0, (s23.2.2.2.2.2.2.1 x1), s23.2.2.1.2.2) hq sz) (cwV 2 hts gi_dm_X11_latest_4 rfl rfl rfl (by decide +kernel) ⟨Nat.le_of_ble_eq_true rfl, Nat.le_of_ble_eq_true rfl⟩) hPc hDc hKc hS hA hN (va_recv hKc hPc (ci := 3) (q0 := 0) rfl rfl) rfl hl.1 rfl (Nat.le_of_ble_eq_true rfl) dX11_latest_101 (fun H locs hP1 hD1 hk1 hS => ?_)
    obtain ⟨hP, hD⟩ := dn_wX11_X2m_8 l17 hP hD hzA hk1 hP1 hD1
    obtain ⟨s28, es28, h⟩ := nd_let_e h
    have hP : va_P (dC, dI) vwCl (dw_X11 a ac s28) H := by rw [es28]; exact hP
    have hD : va_D A (dw_X11 a ac s28) := by rw [es28]; exact hD
    refine lv_lconst (v := 0) hx hb dX11_latest_104 (by decide) ?_
    refine W.lcmp hx hb dX11_latest_105 ?_
    refine lv_if_eq (tgt := 115) hx hb dX11_latest_106 (by decide) (fun c29 => ?_) (fun c29 => ?_)
    · have h := nd_pos h c29
      exact (db_X11_latest_115 C K J10 J71) (x1) (x3) (x5) (x6) (x7) s28 _ _ _ h hP hD hS (lv_sub hl [0, 1, 2, 3, 4, 5] rfl)
    · have h := nd_neg h c29
      refine lv_aload_n hx hb dX11_latest_109 rfl (lv_at hl 0 rfl) ?_
      refine va_get (D := (dC, dI)) (ci := 12) (v := .int (sI s28.1 3)) (C := RX11) (T := TX11) (N := 16) hx hb hts hi_dm_X11_latest_X11 hown hK hP 0 rfl rfl 11 (by decide) (hts (.fieldLink RX11 72 "TimeMachine$Timeline" "now" "I") (List.mem_of_getElem? (i := 1) rfl)) (fun _ h9 => h9) rfl dX11_latest_110 ?_
      refine lv_topi (fun z31 ez31 => ?_)
      have h := nd_at h ez31
      refine lv_istore (lv' := [(6, .int z31), (0, .ref (a 0)), (1, .ref (a (0 + x1 * 9 + 86))), (3, .int x3), (5, .int x5), (7, .int x7)]) hx hb dX11_latest_113 hl (by decide) rfl (fun ls hl => ?_)
      exact (db_X11_latest_115 C K J10 J71) (x1) (x3) (x5) (z31) (x7) s28 _ _ _ h hP hD hS (lv_sub hl [1, 2, 3, 4, 0, 5] rfl)
set_option maxHeartbeats 40000000 in
set_option maxRecDepth 100000 in
theorem db_X11_latest_71 {p : Program} {l : Launch} {e : Env} {s : State} {m : MethodId} {args : Array Value} {below : List Frame} {meth : Method} {c : Code} {Q : State → Prop} {A : Nat → Prop} {dC : Nat → ClassId} {dI : Nat → Nat → Nat} {a : Nat → Nat} {ac : Nat → ClassId} {n : Nat} {r : Int32 × (St × Rw × (St × (St × (St × (St)))) × (St) × (St) × (Nat → St) × (Nat → St) × (Nat → St × (St)))} (C : nd_C p l s m args c A (dC, dI) cX11_latest 8 RX11 ow_dm_X11_latest (dk_X11 ac)) (K : nd_Ki p l e (headSpec ow_dm_X11_latest ({ frames := 8, cells := 0, slots := 0, locals := 182 })).room s m args below meth c Q A (dC, dI) cX11_latest .int (St × Rw × (St × (St × (St × (St)))) × (St) × (St) × (Nat → St) × (Nat → St) × (Nat → St × (St))) (dw_X11 a ac) r) {g10 : Nat → Int32 → Int32 → (St × Rw × (St × (St × (St × (St)))) × (St) × (St) × (Nat → St) × (Nat → St) × (Nat → St × (St))) → Option (Int32 × (St × Rw × (St × (St × (St × (St)))) × (St) × (St) × (Nat → St) × (Nat → St) × (Nat → St × (St))))} (J10 : dj_X11_latest_10 p l e s m args below meth c Q A dC dI a ac g10 r) (k : Nat) : dj_X11_latest_71 p l e s m args below meth c Q A dC dI a ac (df_X11_latest_71 n g10 k) r := by
  induction k with
  | zero => intro x1 x3 x5 x6 x7 s0 H locs ls h; exact nomatch (show (none : Option (Int32 × (St × Rw × (St × (St × (St × (St)))) × (St) × (St) × (Nat → St) × (Nat → St) × (Nat → St × (St))))) = some r from h)
  | succ k ih => exact dB_X11_latest_71 C K J10 ih
set_option maxHeartbeats 40000000 in
set_option maxRecDepth 100000 in
theorem db_X11_latest_61 {p : Program} {l : Launch} {e : Env} {s : State} {m : MethodId} {args : Array Value} {below : List Frame} {meth : Method} {c : Code} {Q : State → Prop} {A : Nat → Prop} {dC : Nat → ClassId} {dI : Nat → Nat → Nat} {a : Nat → Nat} {ac : Nat → ClassId} {n : Nat} {r : Int32 × (St × Rw × (St × (St × (St × (St)))) × (St) × (St) × (Nat → St) × (Nat → St) × (Nat → St × (St)))} (C : nd_C p l s m args c A (dC, dI) cX11_latest 8 RX11 ow_dm_X11_latest (dk_X11 ac)) (K : nd_Ki p l e (headSpec ow_dm_X11_latest ({ frames := 8, cells := 0, slots := 0, locals := 182 })).room s m args below meth c Q A (dC, dI) cX11_latest .int (St × Rw × (St × (St × (St × (St)))) × (St) × (St) × (Nat → St) × (Nat → St) × (Nat → St × (St))) (dw_X11 a ac) r) {g10 : Nat → Int32 → Int32 → (St × Rw × (St × (St × (St × (St)))) × (St) × (St) × (Nat → St) × (Nat → St) × (Nat → St × (St))) → Option (Int32 × (St × Rw × (St × (St × (St × (St)))) × (St) × (St) × (Nat → St) × (Nat → St) × (Nat → St × (St))))} (J10 : dj_X11_latest_10 p l e s m args below meth c Q A dC dI a ac g10 r) : dj_X11_latest_61 p l e s m args below meth c Q A dC dI a ac (df_X11_latest_61 n g10) r := by
  obtain ⟨hlt, hx, hb, hml, hown, hts, hN, hA, hK⟩ := id C
  intro x1 x2 x3 x5 y0 s0 H locs ls h hP hD hS hl
  unfold df_X11_latest_61 at h
  refine lv_istore (lv' := [(6, .int y0), (0, .ref (a 0)), (1, .ref (a (0 + x1 * 9 + 86))), (2, .int x2), (3, .int x3), (5, .int x5)]) hx hb dX11_latest_61 hl (by decide) rfl (fun ls hl => ?_)
  refine lv_iload_n hx hb dX11_latest_63 rfl (lv_at hl 3 rfl) ?_
  refine lv_aload_n hx hb dX11_latest_64 rfl (lv_at hl 1 rfl) ?_
  refine va_get (D := (dC, dI)) (ci := 12) (v := .int (sI s0.1 3)) (C := RX11) (T := TX11) (N := 16) hx hb hts hi_dm_X11_latest_X11 hown hK hP 0 rfl rfl 11 (by decide) (hts (.fieldLink RX11 72 "TimeMachine$Timeline" "now" "I") (List.mem_of_getElem? (i := 1) rfl)) (fun _ h9 => h9) rfl dX11_latest_65 ?_
  refine lv_isub hx hb dX11_latest_68 ?_
  refine lv_topi (fun z12 ez12 => ?_)
  have h := nd_at h ez12
  refine lv_istore (lv' := [(7, .int z12), (6, .int y0), (0, .ref (a 0)), (1, .ref (a (0 + x1 * 9 + 86))), (2, .int x2), (3, .int x3), (5, .int x5)]) hx hb dX11_latest_69 hl (by decide) rfl (fun ls hl => ?_)
  exact (db_X11_latest_71 C K J10 n) (x1) (x3) (x5) (y0) (z12) s0 _ _ _ h hP hD hS (lv_sub hl [2, 3, 5, 6, 1, 0] rfl)
set_option maxHeartbeats 40000000 in
set_option maxRecDepth 100000 in
theorem db_X11_latest_60 {p : Program} {l : Launch} {e : Env} {s : State} {m : MethodId} {args : Array Value} {below : List Frame} {meth : Method} {c : Code} {Q : State → Prop} {A : Nat → Prop} {dC : Nat → ClassId} {dI : Nat → Nat → Nat} {a : Nat → Nat} {ac : Nat → ClassId} {n : Nat} {r : Int32 × (St × Rw × (St × (St × (St × (St)))) × (St) × (St) × (Nat → St) × (Nat → St) × (Nat → St × (St)))} (C : nd_C p l s m args c A (dC, dI) cX11_latest 8 RX11 ow_dm_X11_latest (dk_X11 ac)) (K : nd_Ki p l e (headSpec ow_dm_X11_latest ({ frames := 8, cells := 0, slots := 0, locals := 182 })).room s m args below meth c Q A (dC, dI) cX11_latest .int (St × Rw × (St × (St × (St × (St)))) × (St) × (St) × (Nat → St) × (Nat → St) × (Nat → St × (St))) (dw_X11 a ac) r) {g10 : Nat → Int32 → Int32 → (St × Rw × (St × (St × (St × (St)))) × (St) × (St) × (Nat → St) × (Nat → St) × (Nat → St × (St))) → Option (Int32 × (St × Rw × (St × (St × (St × (St)))) × (St) × (St) × (Nat → St) × (Nat → St) × (Nat → St × (St))))} (J10 : dj_X11_latest_10 p l e s m args below meth c Q A dC dI a ac g10 r) : dj_X11_latest_60 p l e s m args below meth c Q A dC dI a ac (df_X11_latest_60 n g10) r := by
  obtain ⟨hlt, hx, hb, hml, hown, hts, hN, hA, hK⟩ := id C
  intro x1 x2 x3 x5 s0 H locs ls h hP hD hS hl
  unfold df_X11_latest_60 at h
  refine lv_iconst (v := (-1)) hx hb dX11_latest_60 (by decide) ?_
  exact (db_X11_latest_61 C K J10) (x1) (x2) (x3) (x5) ((-1)) s0 _ _ _ h hP hD hS (lv_sub hl [0, 1, 2, 3, 4] rfl)
set_option maxHeartbeats 40000000 in
set_option maxRecDepth 100000 in
theorem dB_X11_latest_10 {p : Program} {l : Launch} {e : Env} {s : State} {m : MethodId} {args : Array Value} {below : List Frame} {meth : Method} {c : Code} {Q : State → Prop} {A : Nat → Prop} {dC : Nat → ClassId} {dI : Nat → Nat → Nat} {a : Nat → Nat} {ac : Nat → ClassId} {n : Nat} {r : Int32 × (St × Rw × (St × (St × (St × (St)))) × (St) × (St) × (Nat → St) × (Nat → St) × (Nat → St × (St)))} (C : nd_C p l s m args c A (dC, dI) cX11_latest 8 RX11 ow_dm_X11_latest (dk_X11 ac)) (K : nd_Ki p l e (headSpec ow_dm_X11_latest ({ frames := 8, cells := 0, slots := 0, locals := 182 })).room s m args below meth c Q A (dC, dI) cX11_latest .int (St × Rw × (St × (St × (St × (St)))) × (St) × (St) × (Nat → St) × (Nat → St) × (Nat → St × (St))) (dw_X11 a ac) r) {g10 : Nat → Int32 → Int32 → (St × Rw × (St × (St × (St × (St)))) × (St) × (St) × (Nat → St) × (Nat → St) × (Nat → St × (St))) → Option (Int32 × (St × Rw × (St × (St × (St × (St)))) × (St) × (St) × (Nat → St) × (Nat → St) × (Nat → St × (St))))} (J10 : dj_X11_latest_10 p l e s m args below meth c Q A dC dI a ac g10 r) : dj_X11_latest_10 p l e s m args below meth c Q A dC dI a ac (dF_X11_latest_10 n g10) r := by
  obtain ⟨hlt, hx, hb, hml, hown, hts, hN, hA, hK⟩ := id C
  intro x1 x2 x3 s0 H locs ls h hP hD hS hl
  unfold dF_X11_latest_10 at h
  refine lv_iload_n hx hb dX11_latest_10 rfl (lv_at hl 3 rfl) ?_
  refine lv_if_le (tgt := 147) hx hb dX11_latest_11 (by decide) (fun c2 => ?_) (fun c2 => ?_)
  · have h := nd_pos h c2
    exact (db_X11_latest_147 C K)  s0 _ _ _ h hP hD hS (lv_sub hl [] rfl)
  · have h := nd_neg h c2
    refine lv_iload_n hx hb dX11_latest_14 rfl (lv_at hl 2 rfl) ?_
    refine lv_if_lt (tgt := 147) hx hb dX11_latest_15 (by decide) (fun c3 => ?_) (fun c3 => ?_)
    · have h := nd_pos h c3
      exact (db_X11_latest_147 C K)  s0 _ _ _ h hP hD hS (lv_sub hl [] rfl)
    · have h := nd_neg h c3
      refine lv_aload_n hx hb dX11_latest_18 rfl (lv_at hl 0 rfl) ?_
      refine lv_iconst (v := 0) hx hb dX11_latest_19 (by decide) ?_
      refine lv_iload_n hx hb dX11_latest_20 rfl (lv_at hl 2 rfl) ?_
      refine lv_iconst (v := 1) hx hb dX11_latest_21 (by decide) ?_
      refine lv_isub hx hb dX11_latest_22 ?_
      refine va_mmax hx hb (by rw [hml]; exact hl.1.symm) hown (hts (.methodLink RX11 104 Lib.Math.max.name) (List.mem_of_getElem? (i := 2) rfl)) (hts (.static Lib.Math.max.name) (List.mem_of_getElem? (i := 3) rfl)) (hts (.initialized "java/lang/Math") (List.mem_of_getElem? (i := 4) rfl)) (hts (.code Lib.Math.max.name Lib.Math.max.code 2 (some .int)) (List.mem_of_getElem? (i := 5) rfl)) (Nat.le_of_ble_eq_true rfl) (Nat.le_of_ble_eq_true rfl) (by decide +kernel) (by decide +kernel) dX11_latest_23 ?_
      obtain ⟨q4, s5, hq, h⟩ := nd_b2_e h
      have hPc := hP
      have hDc := hD
      have hKc := hK
      have hFc := nd_rs hD hS hA
      refine nd_cVi (As := [.int (if (0 : Int32) < (x2 - 1) then (x2 - 1) else 0)]) (rest := []) (q := q4) (w' := dw_X11 a ac s5) ⟨hx, hb, hml, hown, hts⟩ (fun sz => dm_X11_copyUpTo l hlt dC dI a ac n ((if (0 : Int32) < (x2 - 1) then (x2 - 1) else 0)) s0 hq sz) (cwV 1 hts gi_dm_X11_latest_0 rfl rfl rfl (by decide +kernel) ⟨Nat.le_of_ble_eq_true rfl, Nat.le_of_ble_eq_true rfl⟩) hPc hDc hKc hS hA hN (va_recv hKc hPc (ci := 12) (q0 := 0) rfl rfl) rfl hl.1 rfl (Nat.le_of_ble_eq_true rfl) dX11_latest_26 (fun H locs hP1 hD1 hk1 hS => ?_)
      have hP := hP1
      have hD := hD1.weaken (fun k q _ h => hFc q.1 h)
      refine lv_istore (lv' := [(4, .int q4), (0, .ref (a 0)), (1, .ref (a (0 + x1 * 9 + 86))), (2, .int x2), (3, .int x3)]) hx hb dX11_latest_29 hl (by decide) rfl (fun ls hl => ?_)
      refine lv_aload_n hx hb dX11_latest_31 rfl (lv_at hl 1 rfl) ?_
      refine lv_iload hx hb dX11_latest_32 (lv_at hl 0 rfl) ?_
      obtain ⟨s8, hq, h⟩ := nd_b1_e h
      have hPc := hP
      have hDc := hD
      have hKc := hK
      have hFc := nd_rs hD hS hA
      refine nd_cVv (As := [.int q4]) (rest := []) (w' := dw_X11 a ac s8) ⟨hx, hb, hml, hown, hts⟩ (fun sz => dm_X11_restore l hlt dC dI a ac n (q4) s5 hq sz) (cwV 1 hts gi_dm_X11_latest_1 rfl rfl rfl (by decide +kernel) ⟨Nat.le_of_ble_eq_true rfl, Nat.le_of_ble_eq_true rfl⟩) hPc hDc hKc hS hA hN (va_recv hKc hPc (ci := 12) (q0 := 0) rfl rfl) rfl hl.1 rfl (Nat.le_of_ble_eq_true rfl) dX11_latest_34 (fun H locs hP1 hD1 hk1 hS => ?_)
      have hP := hP1
      have hD := hD1.weaken (fun k q _ h => hFc q.1 h)
      refine lv_aload_n hx hb dX11_latest_37 rfl (lv_at hl 1 rfl) ?_
      refine va_get (D := (dC, dI)) (ci := 12) (v := .int (sI s8.1 3)) (C := RX11) (T := TX11) (N := 16) hx hb hts hi_dm_X11_latest_X11 hown hK hP 0 rfl rfl 11 (by decide) (hts (.fieldLink RX11 72 "TimeMachine$Timeline" "now" "I") (List.mem_of_getElem? (i := 1) rfl)) (fun _ h9 => h9) rfl dX11_latest_38 ?_
      refine lv_topi (fun z10 ez10 => ?_)
      have h := nd_at h ez10
      refine lv_istore (lv' := [(5, .int z10), (4, .int q4), (0, .ref (a 0)), (1, .ref (a (0 + x1 * 9 + 86))), (2, .int x2), (3, .int x3)]) hx hb dX11_latest_41 hl (by decide) rfl (fun ls hl => ?_)
      refine lv_iload hx hb dX11_latest_43 (lv_at hl 0 rfl) ?_
      refine lv_if_ne (tgt := 60) hx hb dX11_latest_45 (by decide) (fun c11 => ?_) (fun c11 => ?_)
      · have h := nd_neg h c11
        exact (db_X11_latest_60 C K J10) (x1) (x2) (x3) (z10) s8 _ _ _ h hP hD hS (lv_sub hl [2, 3, 4, 5, 0] rfl)
      · have h := nd_pos h c11
        refine lv_aload_n hx hb dX11_latest_48 rfl (lv_at hl 2 rfl) ?_
        refine lv_aload_n hx hb dX11_latest_49 rfl (lv_at hl 3 rfl) ?_
        obtain ⟨q32, s33, hq, h⟩ := nd_b2_e h
        have hPc := hP
        have hDc := hD
        have hKc := hK
        have hFc := nd_rs hD hS hA
        refine nd_cVi (As := [.ref (a (0 + x1 * 9 + 86))]) (rest := []) (q := q32) (w' := dw_X11 a ac s33) ⟨hx, hb, hml, hown, hts⟩ (fun sz => dm_X11_holdsAtFirst l hlt dC dI a ac n (x1) s8 hq sz) (cwV 1 hts gi_dm_X11_latest_5 rfl rfl rfl (by decide +kernel) ⟨Nat.le_of_ble_eq_true rfl, Nat.le_of_ble_eq_true rfl⟩) hPc hDc hKc hS hA hN (va_recv hKc hPc (ci := 12) (q0 := 0) rfl rfl) rfl hl.1 rfl (Nat.le_of_ble_eq_true rfl) dX11_latest_50 (fun H locs hP1 hD1 hk1 hS => ?_)
        have hP := hP1
        have hD := hD1.weaken (fun k q _ h => hFc q.1 h)
        refine lv_if_eq (tgt := 60) hx hb dX11_latest_53 (by decide) (fun c35 => ?_) (fun c35 => ?_)
        · have h := nd_pos h c35
          exact (db_X11_latest_60 C K J10) (x1) (x2) (x3) (z10) s33 _ _ _ h hP hD hS (lv_sub hl [2, 3, 4, 5, 0] rfl)
        · have h := nd_neg h c35
          refine lv_iconst (v := 0) hx hb dX11_latest_56 (by decide) ?_
          refine lv_goto (tgt := 61) hx hb dX11_latest_57 (by decide) ?_
          exact (db_X11_latest_61 C K J10) (x1) (x2) (x3) (z10) (0) s33 _ _ _ h hP hD hS (lv_sub hl [2, 3, 4, 5, 0] rfl)
set_option maxHeartbeats 40000000 in
set_option maxRecDepth 100000 in
theorem db_X11_latest_10 {p : Program} {l : Launch} {e : Env} {s : State} {m : MethodId} {args : Array Value} {below : List Frame} {meth : Method} {c : Code} {Q : State → Prop} {A : Nat → Prop} {dC : Nat → ClassId} {dI : Nat → Nat → Nat} {a : Nat → Nat} {ac : Nat → ClassId} {n : Nat} {r : Int32 × (St × Rw × (St × (St × (St × (St)))) × (St) × (St) × (Nat → St) × (Nat → St) × (Nat → St × (St)))} (C : nd_C p l s m args c A (dC, dI) cX11_latest 8 RX11 ow_dm_X11_latest (dk_X11 ac)) (K : nd_Ki p l e (headSpec ow_dm_X11_latest ({ frames := 8, cells := 0, slots := 0, locals := 182 })).room s m args below meth c Q A (dC, dI) cX11_latest .int (St × Rw × (St × (St × (St × (St)))) × (St) × (St) × (Nat → St) × (Nat → St) × (Nat → St × (St))) (dw_X11 a ac) r) (k : Nat) : dj_X11_latest_10 p l e s m args below meth c Q A dC dI a ac (df_X11_latest_10 n k) r := by
  induction k with
  | zero => intro x1 x2 x3 s0 H locs ls h; exact nomatch (show (none : Option (Int32 × (St × Rw × (St × (St × (St × (St)))) × (St) × (St) × (Nat → St) × (Nat → St) × (Nat → St × (St))))) = some r from h)
  | succ k ih => exact dB_X11_latest_10 C K ih
set_option maxHeartbeats 40000000 in
set_option maxRecDepth 100000 in
theorem db_X11_latest_0 {p : Program} {l : Launch} {e : Env} {s : State} {m : MethodId} {args : Array Value} {below : List Frame} {meth : Method} {c : Code} {Q : State → Prop} {A : Nat → Prop} {dC : Nat → ClassId} {dI : Nat → Nat → Nat} {a : Nat → Nat} {ac : Nat → ClassId} {n : Nat} {r : Int32 × (St × Rw × (St × (St × (St × (St)))) × (St) × (St) × (Nat → St) × (Nat → St) × (Nat → St × (St)))} (C : nd_C p l s m args c A (dC, dI) cX11_latest 8 RX11 ow_dm_X11_latest (dk_X11 ac)) (K : nd_Ki p l e (headSpec ow_dm_X11_latest ({ frames := 8, cells := 0, slots := 0, locals := 182 })).room s m args below meth c Q A (dC, dI) cX11_latest .int (St × Rw × (St × (St × (St × (St)))) × (St) × (St) × (Nat → St) × (Nat → St) × (Nat → St × (St))) (dw_X11 a ac) r) : dj_X11_latest_0 p l e s m args below meth c Q A dC dI a ac (df_X11_latest_0 n) r := by
  obtain ⟨hlt, hx, hb, hml, hown, hts, hN, hA, hK⟩ := id C
  intro v0 s0 H locs ls h hP hD hS hl
  unfold df_X11_latest_0 at h
  refine lv_aload_n hx hb dX11_latest_0 rfl (lv_at hl 0 rfl) ?_
  refine va_get (D := (dC, dI)) (ci := 12) (v := .int (sI s0.1 3)) (C := RX11) (T := TX11) (N := 16) hx hb hts hi_dm_X11_latest_X11 hown hK hP 0 rfl rfl 11 (by decide) (hts (.fieldLink RX11 72 "TimeMachine$Timeline" "now" "I") (List.mem_of_getElem? (i := 1) rfl)) (fun _ h9 => h9) rfl dX11_latest_1 ?_
  refine lv_iconst (v := 1) hx hb dX11_latest_4 (by decide) ?_
  refine lv_isub hx hb dX11_latest_5 ?_
  refine lv_topi (fun z1 ez1 => ?_)
  have h := nd_at h ez1
  refine lv_istore_n (lv' := [(2, .int z1), (0, .ref (a 0)), (1, .ref (a (0 + v0 * 9 + 86)))]) hx hb dX11_latest_6 rfl hl (by decide) rfl (fun ls hl => ?_)
  refine lv_bipush (v := 8) hx hb dX11_latest_7 (by decide) ?_
  refine lv_istore_n (lv' := [(3, .int 8), (2, .int z1), (0, .ref (a 0)), (1, .ref (a (0 + v0 * 9 + 86)))]) hx hb dX11_latest_9 rfl hl (by decide) rfl (fun ls hl => ?_)
  exact (db_X11_latest_10 C K n) (v0) (z1) (8) s0 _ _ _ h hP hD hS (lv_sub hl [2, 3, 1, 0] rfl)
set_option maxHeartbeats 40000000 in
set_option maxRecDepth 100000 in
theorem dm_X11_latest (l : Launch) (hlt : l.stackTraces = false) (dC : Nat → ClassId) (dI : Nat → Nat → Nat) (a : Nat → Nat) (ac : Nat → ClassId) (n : Nat) (v0 : Nat) (s0 : St × Rw × (St × (St × (St × (St)))) × (St) × (St) × (Nat → St) × (Nat → St) × (Nat → St × (St))) {r : Int32 × (St × Rw × (St × (St × (St × (St)))) × (St) × (St) × (Nat → St) × (Nat → St) × (Nat → St × (St)))} (h : df_X11_latest n v0 s0 = some r) (sz : Nat) : Met l yX11_latest ow_dm_X11_latest ({ frames := 8, cells := 0, slots := 0, locals := 182 }) (va_Pc [.ref (a 0), .ref (a (0 + v0 * 9 + 86))] (fun U => U.heap.size = sz ∧ va_P (dC, dI) vwCl (dw_X11 a ac s0) U.heap ∧ va_K (dC, dI) vwCl (dk_X11 ac) U ∧ va_D (fun _ => True) (dw_X11 a ac s0) ∧ nv_E (va_A (dw_X11 a ac s0) sz) U)) (va_Qi (fun x _ => x = r.1) (fun (_ : Unit) t => va_P (dC, dI) vwCl (dw_X11 a ac r.2) t.heap ∧ va_K (dC, dI) vwCl (dk_X11 ac) t ∧ va_D (va_A (dw_X11 a ac s0) sz) (dw_X11 a ac r.2)) (va_A (dw_X11 a ac s0) sz)) 0 0 (va_A (dw_X11 a ac s0) sz) := by
  refine Met.ofW (cc := cX11_latest) (maxL := 8) (ret := (some .int)) (by decide) rfl ?_
  intro p e s m args below meth c s₁ B hml hv
  obtain ⟨rfl, hsz, hP, hK, hD0, hN⟩ := hv
  have hx := B.exec
  have hb := B.bytes
  have hr := B.returns
  have hts := atoms_spec (ws := ow_dm_X11_latest) B.pre
  have hown : s.vm.findClass RX11 = some m.cls := findClass_of_methodNamed B.named
  have hlocks := B.notSynchronized
  subst hsz
  have hD := hD0.self (sz := s.heap.size)
  generalize hAe : va_A (dw_X11 a ac s0) s.heap.size = A at hD hN ⊢
  have hA : ∀ q : Nat, s.heap.size ≤ q → A q := fun q h => by rw [← hAe]; exact Or.inr h
  have hl := lv_entry ([.ref (a 0), .ref (a (0 + v0 * 9 + 86))]) (n := 8) (Nat.le_of_ble_eq_true rfl)
  rw [lg_entry_eq]
  generalize (lg_sl ([.ref (a 0), .ref (a (0 + v0 * 9 + 86))]) ++ List.replicate (8 - (lg_sl ([.ref (a 0), .ref (a (0 + v0 * 9 + 86))])).length) Slot.unset).toArray = ls at hl ⊢
  have hl : lv_has ls 8 [(0, .ref (a 0)), (1, .ref (a (0 + v0 * 9 + 86)))] := hl
  exact db_X11_latest_0 (dC := dC) (dI := dI) (a := a) (ac := ac) (n := n) (r := r) ⟨hlt, hx, hb, hml, hown, hts, hN, hA, hK⟩ (fun pc v τ H locs ls d z er hP hD hS => by subst er; exact W.zret (v := v) hx hb hr z (fun t ht hW => ⟨⟨v, (), rfl, rfl, by rw [ht]; exact hP, va_K.moved hW.alike hK, hD⟩, hS.F ht⟩) hS.2.2 d) v0 s0 _ _ _ h hP hD va_S.rf (lv_sub hl [0, 1] rfl)
def ow_dm_X11_latestWrite : List Cond := .code yX11_latestWrite cX11_latestWrite 5 (some .int) :: ([.fieldLink RX11 72 "TimeMachine$Timeline" "now" "I", .fieldLink RX11 44 "TimeMachine$Timeline" "writes" "[I", .methodLink RX11 193 Lib.Math.min.name, .static Lib.Math.min.name, .initialized "java/lang/Math", .code Lib.Math.min.name Lib.Math.min.code 2 (some .int), .constant RX11 196 (65535)] ++ (u_ws RX11 TX11 16 ++ []))
theorem gd_dm_X11_latestWrite : ∀ w ∈ ow_dm_X11_latestWrite, (w.onTables && w.keeps) = true ∨ ∃ ty, w = Cond.arrayClass ty := List.forall_mem_cons.mpr ⟨good_of_word rfl, List.forall_mem_append.mpr ⟨fun w h => good_of_word (List.all_eq_true.mp (by decide +kernel) w h), List.forall_mem_append.mpr ⟨gu_X11, fun _ h => nomatch h⟩⟩⟩
theorem hi_dm_X11_latestWrite_X11 : ∀ w ∈ u_ws RX11 TX11 16, w ∈ ow_dm_X11_latestWrite := fun w h => List.mem_cons_of_mem _ (List.mem_append_right _ (List.mem_append_left _ h))
def dj_X11_latestWrite_71 (p : Program) (l : Launch) (e : Env) (s : State) (m : MethodId) (args : Array Value) (below : List Frame) (meth : Method) (c : Code) (Q : State → Prop) (A : Nat → Prop) (dC : Nat → ClassId) (dI : Nat → Nat → Nat) (a : Nat → Nat) (ac : Nat → ClassId) (g : Int32 → Int32 → Int32 → (St × Rw × (St × (St × (St × (St)))) × (St) × (St) × (Nat → St) × (Nat → St) × (Nat → St × (St))) → Option (Int32 × (St × Rw × (St × (St × (St × (St)))) × (St) × (St) × (Nat → St) × (Nat → St) × (Nat → St × (St))))) (r : Int32 × (St × Rw × (St × (St × (St × (St)))) × (St) × (St) × (Nat → St) × (Nat → St) × (Nat → St × (St)))) : Prop := ∀ (x1 : Int32) (x2 : Int32) (x3 : Int32) (s0 : St × Rw × (St × (St × (St × (St)))) × (St) × (St) × (Nat → St) × (Nat → St) × (Nat → St × (St))) (H : Heap) (locs : List Loc) (ls : Array Slot), g x1 x2 x3 s0 = some r → va_P (dC, dI) vwCl (dw_X11 a ac s0) H → va_D A (dw_X11 a ac s0) → va_S A s.heap H locs → lv_has ls 5 [(0, .ref (a 0)), (1, .int x1), (2, .int x2), (3, .int x3)] → W p l e (headSpec ow_dm_X11_latestWrite ({ frames := 1, cells := 0, slots := 0, locals := 13 })).room s m args below meth c H locs 0 0 Q (F0 m 71 ls [])
def dj_X11_latestWrite_15 (p : Program) (l : Launch) (e : Env) (s : State) (m : MethodId) (args : Array Value) (below : List Frame) (meth : Method) (c : Code) (Q : State → Prop) (A : Nat → Prop) (dC : Nat → ClassId) (dI : Nat → Nat → Nat) (a : Nat → Nat) (ac : Nat → ClassId) (g : Int32 → Int32 → Int32 → (St × Rw × (St × (St × (St × (St)))) × (St) × (St) × (Nat → St) × (Nat → St) × (Nat → St × (St))) → Option (Int32 × (St × Rw × (St × (St × (St × (St)))) × (St) × (St) × (Nat → St) × (Nat → St) × (Nat → St × (St))))) (r : Int32 × (St × Rw × (St × (St × (St × (St)))) × (St) × (St) × (Nat → St) × (Nat → St) × (Nat → St × (St)))) : Prop := ∀ (x1 : Int32) (x2 : Int32) (x3 : Int32) (s0 : St × Rw × (St × (St × (St × (St)))) × (St) × (St) × (Nat → St) × (Nat → St) × (Nat → St × (St))) (H : Heap) (locs : List Loc) (ls : Array Slot), g x1 x2 x3 s0 = some r → va_P (dC, dI) vwCl (dw_X11 a ac s0) H → va_D A (dw_X11 a ac s0) → va_S A s.heap H locs → lv_has ls 5 [(0, .ref (a 0)), (1, .int x1), (2, .int x2), (3, .int x3)] → W p l e (headSpec ow_dm_X11_latestWrite ({ frames := 1, cells := 0, slots := 0, locals := 13 })).room s m args below meth c H locs 0 0 Q (F0 m 15 ls [])
def dj_X11_latestWrite_0 (p : Program) (l : Launch) (e : Env) (s : State) (m : MethodId) (args : Array Value) (below : List Frame) (meth : Method) (c : Code) (Q : State → Prop) (A : Nat → Prop) (dC : Nat → ClassId) (dI : Nat → Nat → Nat) (a : Nat → Nat) (ac : Nat → ClassId) (g : Int32 → Int32 → (St × Rw × (St × (St × (St × (St)))) × (St) × (St) × (Nat → St) × (Nat → St) × (Nat → St × (St))) → Option (Int32 × (St × Rw × (St × (St × (St × (St)))) × (St) × (St) × (Nat → St) × (Nat → St) × (Nat → St × (St))))) (r : Int32 × (St × Rw × (St × (St × (St × (St)))) × (St) × (St) × (Nat → St) × (Nat → St) × (Nat → St × (St)))) : Prop := ∀ (v0 : Int32) (v1 : Int32) (s0 : St × Rw × (St × (St × (St × (St)))) × (St) × (St) × (Nat → St) × (Nat → St) × (Nat → St × (St))) (H : Heap) (locs : List Loc) (ls : Array Slot), g v0 v1 s0 = some r → va_P (dC, dI) vwCl (dw_X11 a ac s0) H → va_D A (dw_X11 a ac s0) → va_S A s.heap H locs → lv_has ls 5 [(0, .ref (a 0)), (1, .int v0), (2, .int v1)] → W p l e (headSpec ow_dm_X11_latestWrite ({ frames := 1, cells := 0, slots := 0, locals := 13 })).room s m args below meth c H locs 0 0 Q (F0 m 0 ls [])
set_option maxHeartbeats 40000000 in
set_option maxRecDepth 100000 in
theorem db_X11_latestWrite_71 {p : Program} {l : Launch} {e : Env} {s : State} {m : MethodId} {args : Array Value} {below : List Frame} {meth : Method} {c : Code} {Q : State → Prop} {A : Nat → Prop} {dC : Nat → ClassId} {dI : Nat → Nat → Nat} {a : Nat → Nat} {ac : Nat → ClassId} {n : Nat} {r : Int32 × (St × Rw × (St × (St × (St × (St)))) × (St) × (St) × (Nat → St) × (Nat → St) × (Nat → St × (St)))} (C : nd_C p l s m args c A (dC, dI) cX11_latestWrite 5 RX11 ow_dm_X11_latestWrite (dk_X11 ac)) (K : nd_Ki p l e (headSpec ow_dm_X11_latestWrite ({ frames := 1, cells := 0, slots := 0, locals := 13 })).room s m args below meth c Q A (dC, dI) cX11_latestWrite .int (St × Rw × (St × (St × (St × (St)))) × (St) × (St) × (Nat → St) × (Nat → St) × (Nat → St × (St))) (dw_X11 a ac) r) {g15 : Int32 → Int32 → Int32 → (St × Rw × (St × (St × (St × (St)))) × (St) × (St) × (Nat → St) × (Nat → St) × (Nat → St × (St))) → Option (Int32 × (St × Rw × (St × (St × (St × (St)))) × (St) × (St) × (Nat → St) × (Nat → St) × (Nat → St × (St))))} (J15 : dj_X11_latestWrite_15 p l e s m args below meth c Q A dC dI a ac g15 r) : dj_X11_latestWrite_71 p l e s m args below meth c Q A dC dI a ac (df_X11_latestWrite_71 n g15) r := by
  obtain ⟨hlt, hx, hb, hml, hown, hts, hN, hA, hK⟩ := id C
  intro x1 x2 x3 s0 H locs ls h hP hD hS hl
  unfold df_X11_latestWrite_71 at h
  obtain ⟨z7, ez7, h⟩ := nd_let_e h
  refine lv_iinc (v := z7) (lv' := [(3, .int z7), (0, .ref (a 0)), (1, .int x1), (2, .int x2)]) hx hb dX11_latestWrite_71 hl (k := 3) rfl (by rw [ez7]) (by decide) rfl (fun ls hl => ?_)
  refine lv_goto (tgt := 15) hx hb dX11_latestWrite_74 (by decide) ?_
  exact (J15) (x1) (x2) (z7) s0 _ _ _ h hP hD hS (lv_sub hl [1, 2, 3, 0] rfl)
set_option maxHeartbeats 40000000 in
set_option maxRecDepth 100000 in
theorem dB_X11_latestWrite_15 {p : Program} {l : Launch} {e : Env} {s : State} {m : MethodId} {args : Array Value} {below : List Frame} {meth : Method} {c : Code} {Q : State → Prop} {A : Nat → Prop} {dC : Nat → ClassId} {dI : Nat → Nat → Nat} {a : Nat → Nat} {ac : Nat → ClassId} {n : Nat} {r : Int32 × (St × Rw × (St × (St × (St × (St)))) × (St) × (St) × (Nat → St) × (Nat → St) × (Nat → St × (St)))} (C : nd_C p l s m args c A (dC, dI) cX11_latestWrite 5 RX11 ow_dm_X11_latestWrite (dk_X11 ac)) (K : nd_Ki p l e (headSpec ow_dm_X11_latestWrite ({ frames := 1, cells := 0, slots := 0, locals := 13 })).room s m args below meth c Q A (dC, dI) cX11_latestWrite .int (St × Rw × (St × (St × (St × (St)))) × (St) × (St) × (Nat → St) × (Nat → St) × (Nat → St × (St))) (dw_X11 a ac) r) {g15 : Int32 → Int32 → Int32 → (St × Rw × (St × (St × (St × (St)))) × (St) × (St) × (Nat → St) × (Nat → St) × (Nat → St × (St))) → Option (Int32 × (St × Rw × (St × (St × (St × (St)))) × (St) × (St) × (Nat → St) × (Nat → St) × (Nat → St × (St))))} (J15 : dj_X11_latestWrite_15 p l e s m args below meth c Q A dC dI a ac g15 r) : dj_X11_latestWrite_15 p l e s m args below meth c Q A dC dI a ac (dF_X11_latestWrite_15 n g15) r := by
  obtain ⟨hlt, hx, hb, hml, hown, hts, hN, hA, hK⟩ := id C
  intro x1 x2 x3 s0 H locs ls h hP hD hS hl
  unfold dF_X11_latestWrite_15 at h
  refine lv_iload_n hx hb dX11_latestWrite_15 rfl (lv_at hl 3 rfl) ?_
  refine lv_if_lt (tgt := 77) hx hb dX11_latestWrite_16 (by decide) (fun c2 => ?_) (fun c2 => ?_)
  · have h := nd_pos h c2
    refine lv_iconst (v := (-1)) hx hb dX11_latestWrite_77 (by decide) ?_
    exact K _ _ _ _ _ _ dX11_latestWrite_78 rfl (Option.some.inj h).symm hP hD hS
  · have h := nd_neg h c2
    refine lv_aload_n hx hb dX11_latestWrite_19 rfl (lv_at hl 0 rfl) ?_
    refine va_get (D := (dC, dI)) (ci := 12) (v := .ref (a 1)) (C := RX11) (T := TX11) (N := 16) hx hb hts hi_dm_X11_latestWrite_X11 hown hK hP 0 rfl rfl 5 (by decide) (hts (.fieldLink RX11 44 "TimeMachine$Timeline" "writes" "[I") (List.mem_of_getElem? (i := 2) rfl)) (fun _ h9 => h9) rfl dX11_latestWrite_20 ?_
    refine lv_iload_n hx hb dX11_latestWrite_23 rfl (lv_at hl 3 rfl) ?_
    obtain ⟨i3, h⟩ := nd_ck_e h
    refine va_iald (i := x3) hx hb hK hP 1 0 rfl rfl i3 dX11_latestWrite_24 ?_
    refine lv_bipush (v := 10) hx hb dX11_latestWrite_25 (by decide) ?_
    refine lv_ishr hx hb dX11_latestWrite_27 ?_
    refine lv_ldc hx hb hown (hts (.constant RX11 196 (65535)) (List.mem_of_getElem? (i := 7) rfl)) dX11_latestWrite_28 ?_
    refine lv_iand hx hb dX11_latestWrite_30 ?_
    refine lv_topi (fun z4 ez4 => ?_)
    have h := nd_at h ez4
    refine lv_istore (lv' := [(4, .int z4), (0, .ref (a 0)), (1, .int x1), (2, .int x2), (3, .int x3)]) hx hb dX11_latestWrite_31 hl (by decide) rfl (fun ls hl => ?_)
    refine lv_aload_n hx hb dX11_latestWrite_33 rfl (lv_at hl 1 rfl) ?_
    refine va_get (D := (dC, dI)) (ci := 12) (v := .ref (a 1)) (C := RX11) (T := TX11) (N := 16) hx hb hts hi_dm_X11_latestWrite_X11 hown hK hP 0 rfl rfl 5 (by decide) (hts (.fieldLink RX11 44 "TimeMachine$Timeline" "writes" "[I") (List.mem_of_getElem? (i := 2) rfl)) (fun _ h9 => h9) rfl dX11_latestWrite_34 ?_
    refine lv_iload_n hx hb dX11_latestWrite_37 rfl (lv_at hl 4 rfl) ?_
    obtain ⟨i5, h⟩ := nd_ck_e h
    refine va_iald (i := x3) hx hb hK hP 1 0 rfl rfl i5 dX11_latestWrite_38 ?_
    refine lv_bipush (v := 26) hx hb dX11_latestWrite_39 (by decide) ?_
    refine lv_ishr hx hb dX11_latestWrite_41 ?_
    refine lv_iload_n hx hb dX11_latestWrite_42 rfl (lv_at hl 2 rfl) ?_
    refine lv_icmp_ne (tgt := 71) hx hb dX11_latestWrite_43 (by decide) (fun c6 => ?_) (fun c6 => ?_)
    · have h := nd_neg h c6
      exact (db_X11_latestWrite_71 C K J15) (x1) (x2) (x3) s0 _ _ _ h hP hD hS (lv_sub hl [1, 2, 3, 4] rfl)
    · have h := nd_pos h c6
      refine lv_iload_n hx hb dX11_latestWrite_46 rfl (lv_at hl 3 rfl) ?_
      refine lv_iload hx hb dX11_latestWrite_47 (lv_at hl 0 rfl) ?_
      refine lv_icmp_lt (tgt := 71) hx hb dX11_latestWrite_49 (by decide) (fun c8 => ?_) (fun c8 => ?_)
      · have h := nd_pos h c8
        exact (db_X11_latestWrite_71 C K J15) (x1) (x2) (x3) s0 _ _ _ h hP hD hS (lv_sub hl [1, 2, 3, 4] rfl)
      · have h := nd_neg h c8
        refine lv_iload_n hx hb dX11_latestWrite_52 rfl (lv_at hl 3 rfl) ?_
        refine lv_iload hx hb dX11_latestWrite_53 (lv_at hl 0 rfl) ?_
        refine lv_aload_n hx hb dX11_latestWrite_55 rfl (lv_at hl 1 rfl) ?_
        refine va_get (D := (dC, dI)) (ci := 12) (v := .ref (a 1)) (C := RX11) (T := TX11) (N := 16) hx hb hts hi_dm_X11_latestWrite_X11 hown hK hP 0 rfl rfl 5 (by decide) (hts (.fieldLink RX11 44 "TimeMachine$Timeline" "writes" "[I") (List.mem_of_getElem? (i := 2) rfl)) (fun _ h9 => h9) rfl dX11_latestWrite_56 ?_
        refine lv_iload_n hx hb dX11_latestWrite_59 rfl (lv_at hl 4 rfl) ?_
        obtain ⟨i9, h⟩ := nd_ck_e h
        refine va_iald (i := x3) hx hb hK hP 1 0 rfl rfl i9 dX11_latestWrite_60 ?_
        refine lv_sipush (v := 1023) hx hb dX11_latestWrite_61 (by decide) ?_
        refine lv_iand hx hb dX11_latestWrite_64 ?_
        refine lv_iadd hx hb dX11_latestWrite_65 ?_
        refine lv_icmp_ge (tgt := 71) hx hb dX11_latestWrite_66 (by decide) (fun c10 => ?_) (fun c10 => ?_)
        · have h := nd_pos h c10
          exact (db_X11_latestWrite_71 C K J15) (x1) (x2) (x3) s0 _ _ _ h hP hD hS (lv_sub hl [1, 2, 3, 4] rfl)
        · have h := nd_neg h c10
          refine lv_iload_n hx hb dX11_latestWrite_69 rfl (lv_at hl 4 rfl) ?_
          exact K _ _ _ _ _ _ dX11_latestWrite_70 rfl (Option.some.inj h).symm hP hD hS
set_option maxHeartbeats 40000000 in
set_option maxRecDepth 100000 in
theorem db_X11_latestWrite_15 {p : Program} {l : Launch} {e : Env} {s : State} {m : MethodId} {args : Array Value} {below : List Frame} {meth : Method} {c : Code} {Q : State → Prop} {A : Nat → Prop} {dC : Nat → ClassId} {dI : Nat → Nat → Nat} {a : Nat → Nat} {ac : Nat → ClassId} {n : Nat} {r : Int32 × (St × Rw × (St × (St × (St × (St)))) × (St) × (St) × (Nat → St) × (Nat → St) × (Nat → St × (St)))} (C : nd_C p l s m args c A (dC, dI) cX11_latestWrite 5 RX11 ow_dm_X11_latestWrite (dk_X11 ac)) (K : nd_Ki p l e (headSpec ow_dm_X11_latestWrite ({ frames := 1, cells := 0, slots := 0, locals := 13 })).room s m args below meth c Q A (dC, dI) cX11_latestWrite .int (St × Rw × (St × (St × (St × (St)))) × (St) × (St) × (Nat → St) × (Nat → St) × (Nat → St × (St))) (dw_X11 a ac) r) (k : Nat) : dj_X11_latestWrite_15 p l e s m args below meth c Q A dC dI a ac (df_X11_latestWrite_15 n k) r := by
  induction k with
  | zero => intro x1 x2 x3 s0 H locs ls h; exact nomatch (show (none : Option (Int32 × (St × Rw × (St × (St × (St × (St)))) × (St) × (St) × (Nat → St) × (Nat → St) × (Nat → St × (St))))) = some r from h)
  | succ k ih => exact dB_X11_latestWrite_15 C K ih
set_option maxHeartbeats 40000000 in
set_option maxRecDepth 100000 in
theorem db_X11_latestWrite_0 {p : Program} {l : Launch} {e : Env} {s : State} {m : MethodId} {args : Array Value} {below : List Frame} {meth : Method} {c : Code} {Q : State → Prop} {A : Nat → Prop} {dC : Nat → ClassId} {dI : Nat → Nat → Nat} {a : Nat → Nat} {ac : Nat → ClassId} {n : Nat} {r : Int32 × (St × Rw × (St × (St × (St × (St)))) × (St) × (St) × (Nat → St) × (Nat → St) × (Nat → St × (St)))} (C : nd_C p l s m args c A (dC, dI) cX11_latestWrite 5 RX11 ow_dm_X11_latestWrite (dk_X11 ac)) (K : nd_Ki p l e (headSpec ow_dm_X11_latestWrite ({ frames := 1, cells := 0, slots := 0, locals := 13 })).room s m args below meth c Q A (dC, dI) cX11_latestWrite .int (St × Rw × (St × (St × (St × (St)))) × (St) × (St) × (Nat → St) × (Nat → St) × (Nat → St × (St))) (dw_X11 a ac) r) : dj_X11_latestWrite_0 p l e s m args below meth c Q A dC dI a ac (df_X11_latestWrite_0 n) r := by
  obtain ⟨hlt, hx, hb, hml, hown, hts, hN, hA, hK⟩ := id C
  intro v0 v1 s0 H locs ls h hP hD hS hl
  unfold df_X11_latestWrite_0 at h
  refine lv_aload_n hx hb dX11_latestWrite_0 rfl (lv_at hl 0 rfl) ?_
  refine va_get (D := (dC, dI)) (ci := 12) (v := .int (sI s0.1 3)) (C := RX11) (T := TX11) (N := 16) hx hb hts hi_dm_X11_latestWrite_X11 hown hK hP 0 rfl rfl 11 (by decide) (hts (.fieldLink RX11 72 "TimeMachine$Timeline" "now" "I") (List.mem_of_getElem? (i := 1) rfl)) (fun _ h9 => h9) rfl dX11_latestWrite_1 ?_
  refine lv_aload_n hx hb dX11_latestWrite_4 rfl (lv_at hl 0 rfl) ?_
  refine va_get (D := (dC, dI)) (ci := 12) (v := .ref (a 1)) (C := RX11) (T := TX11) (N := 16) hx hb hts hi_dm_X11_latestWrite_X11 hown hK hP 0 rfl rfl 5 (by decide) (hts (.fieldLink RX11 44 "TimeMachine$Timeline" "writes" "[I") (List.mem_of_getElem? (i := 2) rfl)) (fun _ h9 => h9) rfl dX11_latestWrite_5 ?_
  refine va_alen (v := 60000) hx hb hK hP 1 0 rfl rfl (show Int32.ofNat 60000 = 60000 by decide) dX11_latestWrite_8 ?_
  refine va_mmin hx hb (by rw [hml]; exact hl.1.symm) hown (hts (.methodLink RX11 193 Lib.Math.min.name) (List.mem_of_getElem? (i := 3) rfl)) (hts (.static Lib.Math.min.name) (List.mem_of_getElem? (i := 4) rfl)) (hts (.initialized "java/lang/Math") (List.mem_of_getElem? (i := 5) rfl)) (hts (.code Lib.Math.min.name Lib.Math.min.code 2 (some .int)) (List.mem_of_getElem? (i := 6) rfl)) (Nat.le_of_ble_eq_true rfl) (Nat.le_of_ble_eq_true rfl) (by decide +kernel) (by decide +kernel) dX11_latestWrite_9 ?_
  refine lv_iconst (v := 1) hx hb dX11_latestWrite_12 (by decide) ?_
  refine lv_isub hx hb dX11_latestWrite_13 ?_
  refine lv_topi (fun z1 ez1 => ?_)
  have h := nd_at h ez1
  refine lv_istore_n (lv' := [(3, .int z1), (0, .ref (a 0)), (1, .int v0), (2, .int v1)]) hx hb dX11_latestWrite_14 rfl hl (by decide) rfl (fun ls hl => ?_)
  exact (db_X11_latestWrite_15 C K n) (v0) (v1) (z1) s0 _ _ _ h hP hD hS (lv_sub hl [1, 2, 3, 0] rfl)
set_option maxHeartbeats 40000000 in
set_option maxRecDepth 100000 in
theorem dm_X11_latestWrite (l : Launch) (hlt : l.stackTraces = false) (dC : Nat → ClassId) (dI : Nat → Nat → Nat) (a : Nat → Nat) (ac : Nat → ClassId) (n : Nat) (v0 : Int32) (v1 : Int32) (s0 : St × Rw × (St × (St × (St × (St)))) × (St) × (St) × (Nat → St) × (Nat → St) × (Nat → St × (St))) {r : Int32 × (St × Rw × (St × (St × (St × (St)))) × (St) × (St) × (Nat → St) × (Nat → St) × (Nat → St × (St)))} (h : df_X11_latestWrite n v0 v1 s0 = some r) (sz : Nat) : Met l yX11_latestWrite ow_dm_X11_latestWrite ({ frames := 1, cells := 0, slots := 0, locals := 13 }) (va_Pc [.ref (a 0), .int v0, .int v1] (fun U => U.heap.size = sz ∧ va_P (dC, dI) vwCl (dw_X11 a ac s0) U.heap ∧ va_K (dC, dI) vwCl (dk_X11 ac) U ∧ va_D (fun _ => True) (dw_X11 a ac s0) ∧ nv_E (va_A (dw_X11 a ac s0) sz) U)) (va_Qi (fun x _ => x = r.1) (fun (_ : Unit) t => va_P (dC, dI) vwCl (dw_X11 a ac r.2) t.heap ∧ va_K (dC, dI) vwCl (dk_X11 ac) t ∧ va_D (va_A (dw_X11 a ac s0) sz) (dw_X11 a ac r.2)) (va_A (dw_X11 a ac s0) sz)) 0 0 (va_A (dw_X11 a ac s0) sz) := by
  refine Met.ofW (cc := cX11_latestWrite) (maxL := 5) (ret := (some .int)) (by decide) rfl ?_
  intro p e s m args below meth c s₁ B hml hv
  obtain ⟨rfl, hsz, hP, hK, hD0, hN⟩ := hv
  have hx := B.exec
  have hb := B.bytes
  have hr := B.returns
  have hts := atoms_spec (ws := ow_dm_X11_latestWrite) B.pre
  have hown : s.vm.findClass RX11 = some m.cls := findClass_of_methodNamed B.named
  have hlocks := B.notSynchronized
  subst hsz
  have hD := hD0.self (sz := s.heap.size)
  generalize hAe : va_A (dw_X11 a ac s0) s.heap.size = A at hD hN ⊢
  have hA : ∀ q : Nat, s.heap.size ≤ q → A q := fun q h => by rw [← hAe]; exact Or.inr h
  have hl := lv_entry ([.ref (a 0), .int v0, .int v1]) (n := 5) (Nat.le_of_ble_eq_true rfl)
  rw [lg_entry_eq]
  generalize (lg_sl ([.ref (a 0), .int v0, .int v1]) ++ List.replicate (5 - (lg_sl ([.ref (a 0), .int v0, .int v1])).length) Slot.unset).toArray = ls at hl ⊢
  have hl : lv_has ls 5 [(0, .ref (a 0)), (1, .int v0), (2, .int v1)] := hl
  exact db_X11_latestWrite_0 (dC := dC) (dI := dI) (a := a) (ac := ac) (n := n) (r := r) ⟨hlt, hx, hb, hml, hown, hts, hN, hA, hK⟩ (fun pc v τ H locs ls d z er hP hD hS => by subst er; exact W.zret (v := v) hx hb hr z (fun t ht hW => ⟨⟨v, (), rfl, rfl, by rw [ht]; exact hP, va_K.moved hW.alike hK, hD⟩, hS.F ht⟩) hS.2.2 d) v0 v1 s0 _ _ _ h hP hD va_S.rf (lv_sub hl [0, 1, 2] rfl)
def ow_dm_X11_told : List Cond := .code yX11_told cX11_told 2 (some .long) :: ([.fieldLink RX11 72 "TimeMachine$Timeline" "now" "I", .fieldLink RX11 76 "TimeMachine$Timeline" "end" "I", .fieldLink RX11 30 "TimeMachine$Timeline" "machine" "LTimeMachine$Machine;", .fieldLink RX11 162 "TimeMachine$Machine" "current" "I", .fieldLink RX11 20 "TimeMachine$Timeline" "events" "LTimeMachine$Events;", .fieldLink RX11 116 "TimeMachine$Events" "recorded" "I", .fieldLink RX11 79 "TimeMachine$Timeline" "came" "I", .fieldLink RX11 137 "TimeMachine$Events" "total" "I"] ++ (u_ws RX11 TX11 16 ++ (u_ws RX6 TX6 20 ++ (u_ws RX3 TX3 11 ++ []))))
theorem gd_dm_X11_told : ∀ w ∈ ow_dm_X11_told, (w.onTables && w.keeps) = true ∨ ∃ ty, w = Cond.arrayClass ty := List.forall_mem_cons.mpr ⟨good_of_word rfl, List.forall_mem_append.mpr ⟨fun w h => good_of_word (List.all_eq_true.mp (by decide +kernel) w h), List.forall_mem_append.mpr ⟨gu_X11, List.forall_mem_append.mpr ⟨gu_X6, List.forall_mem_append.mpr ⟨gu_X3, fun _ h => nomatch h⟩⟩⟩⟩⟩
theorem hi_dm_X11_told_X11 : ∀ w ∈ u_ws RX11 TX11 16, w ∈ ow_dm_X11_told := fun w h => List.mem_cons_of_mem _ (List.mem_append_right _ (List.mem_append_left _ h))
theorem hi_dm_X11_told_X6 : ∀ w ∈ u_ws RX6 TX6 20, w ∈ ow_dm_X11_told := fun w h => List.mem_cons_of_mem _ (List.mem_append_right _ (List.mem_append_right _ (List.mem_append_left _ h)))
theorem hi_dm_X11_told_X3 : ∀ w ∈ u_ws RX3 TX3 11, w ∈ ow_dm_X11_told := fun w h => List.mem_cons_of_mem _ (List.mem_append_right _ (List.mem_append_right _ (List.mem_append_right _ (List.mem_append_left _ h))))
def dj_X11_told_0 (p : Program) (l : Launch) (e : Env) (s : State) (m : MethodId) (args : Array Value) (below : List Frame) (meth : Method) (c : Code) (Q : State → Prop) (A : Nat → Prop) (dC : Nat → ClassId) (dI : Nat → Nat → Nat) (a : Nat → Nat) (ac : Nat → ClassId) (g : Int32 → (St × Rw × (St × (St × (St × (St)))) × (St) × (St) × (Nat → St) × (Nat → St) × (Nat → St × (St))) → Option (Int64 × (St × Rw × (St × (St × (St × (St)))) × (St) × (St) × (Nat → St) × (Nat → St) × (Nat → St × (St))))) (r : Int64 × (St × Rw × (St × (St × (St × (St)))) × (St) × (St) × (Nat → St) × (Nat → St) × (Nat → St × (St)))) : Prop := ∀ (v0 : Int32) (s0 : St × Rw × (St × (St × (St × (St)))) × (St) × (St) × (Nat → St) × (Nat → St) × (Nat → St × (St))) (H : Heap) (locs : List Loc) (ls : Array Slot), g v0 s0 = some r → va_P (dC, dI) vwCl (dw_X11 a ac s0) H → va_D A (dw_X11 a ac s0) → va_S A s.heap H locs → lv_has ls 2 [(0, .ref (a 0)), (1, .int v0)] → W p l e (headSpec ow_dm_X11_told ({ frames := 0, cells := 0, slots := 0, locals := 0 })).room s m args below meth c H locs 0 0 Q (F0 m 0 ls [])
set_option maxHeartbeats 40000000 in
set_option maxRecDepth 100000 in
theorem db_X11_told_0 {p : Program} {l : Launch} {e : Env} {s : State} {m : MethodId} {args : Array Value} {below : List Frame} {meth : Method} {c : Code} {Q : State → Prop} {A : Nat → Prop} {dC : Nat → ClassId} {dI : Nat → Nat → Nat} {a : Nat → Nat} {ac : Nat → ClassId} {n : Nat} {r : Int64 × (St × Rw × (St × (St × (St × (St)))) × (St) × (St) × (Nat → St) × (Nat → St) × (Nat → St × (St)))} (C : nd_C p l s m args c A (dC, dI) cX11_told 2 RX11 ow_dm_X11_told (dk_X11 ac)) (K : nd_Kl p l e (headSpec ow_dm_X11_told ({ frames := 0, cells := 0, slots := 0, locals := 0 })).room s m args below meth c Q A (dC, dI) cX11_told (St × Rw × (St × (St × (St × (St)))) × (St) × (St) × (Nat → St) × (Nat → St) × (Nat → St × (St))) (dw_X11 a ac) r) : dj_X11_told_0 p l e s m args below meth c Q A dC dI a ac (df_X11_told_0 n) r := by
  obtain ⟨hlt, hx, hb, hml, hown, hts, hN, hA, hK⟩ := id C
  intro v0 s0 H locs ls h hP hD hS hl
  unfold df_X11_told_0 at h
  refine lv_iload_n hx hb dX11_told_0 rfl (lv_at hl 1 rfl) ?_
  by_cases c1 : v0 = 0
  · have h := nd_pos h c1
    refine lv_tableIn (off := 35) (tgt := 36) hx hb dX11_told_1 (by rw [c1]; decide) (by rw [c1]; decide) (by rw [c1]; decide) (by decide) ?_
    refine lv_aload_n hx hb dX11_told_36 rfl (lv_at hl 0 rfl) ?_
    refine va_get (D := (dC, dI)) (ci := 12) (v := .int (sI s0.1 3)) (C := RX11) (T := TX11) (N := 16) hx hb hts hi_dm_X11_told_X11 hown hK hP 0 rfl rfl 11 (by decide) (hts (.fieldLink RX11 72 "TimeMachine$Timeline" "now" "I") (List.mem_of_getElem? (i := 1) rfl)) (fun _ h9 => h9) rfl dX11_told_37 ?_
    refine lv_i2l hx hb dX11_told_40 rfl ?_
    exact K _ _ _ _ _ _ dX11_told_41 (Option.some.inj h).symm hP hD hS
  have h := nd_neg h c1
  by_cases c2 : v0 = 1
  · have h := nd_pos h c2
    refine lv_tableIn (off := 41) (tgt := 42) hx hb dX11_told_1 (by rw [c2]; decide) (by rw [c2]; decide) (by rw [c2]; decide) (by decide) ?_
    refine lv_aload_n hx hb dX11_told_42 rfl (lv_at hl 0 rfl) ?_
    refine va_get (D := (dC, dI)) (ci := 12) (v := .int (sI s0.1 4)) (C := RX11) (T := TX11) (N := 16) hx hb hts hi_dm_X11_told_X11 hown hK hP 0 rfl rfl 12 (by decide) (hts (.fieldLink RX11 76 "TimeMachine$Timeline" "end" "I") (List.mem_of_getElem? (i := 2) rfl)) (fun _ h9 => h9) rfl dX11_told_43 ?_
    refine lv_i2l hx hb dX11_told_46 rfl ?_
    exact K _ _ _ _ _ _ dX11_told_47 (Option.some.inj h).symm hP hD hS
  have h := nd_neg h c2
  by_cases c3 : v0 = 2
  · have h := nd_pos h c3
    refine lv_tableIn (off := 47) (tgt := 48) hx hb dX11_told_1 (by rw [c3]; decide) (by rw [c3]; decide) (by rw [c3]; decide) (by decide) ?_
    refine lv_aload_n hx hb dX11_told_48 rfl (lv_at hl 0 rfl) ?_
    refine va_get (D := (dC, dI)) (ci := 12) (v := .ref (a 7)) (C := RX11) (T := TX11) (N := 16) hx hb hts hi_dm_X11_told_X11 hown hK hP 0 rfl rfl 3 (by decide) (hts (.fieldLink RX11 30 "TimeMachine$Timeline" "machine" "LTimeMachine$Machine;") (List.mem_of_getElem? (i := 3) rfl)) (fun _ h9 => h9) rfl dX11_told_49 ?_
    refine va_get (D := (dC, dI)) (ci := 7) (v := .int (sI s0.2.2.1.2.2.1 3)) (C := RX6) (T := TX6) (N := 20) hx hb hts hi_dm_X11_told_X6 hown hK hP 7 rfl rfl 13 (by decide) (hts (.fieldLink RX11 162 "TimeMachine$Machine" "current" "I") (List.mem_of_getElem? (i := 4) rfl)) (fun _ h9 => h9) rfl dX11_told_52 ?_
    refine lv_i2l hx hb dX11_told_55 rfl ?_
    exact K _ _ _ _ _ _ dX11_told_56 (Option.some.inj h).symm hP hD hS
  have h := nd_neg h c3
  by_cases c4 : v0 = 3
  · have h := nd_pos h c4
    refine lv_tableIn (off := 56) (tgt := 57) hx hb dX11_told_1 (by rw [c4]; decide) (by rw [c4]; decide) (by rw [c4]; decide) (by decide) ?_
    refine lv_aload_n hx hb dX11_told_57 rfl (lv_at hl 0 rfl) ?_
    by_cases o5 : sO s0.1 0 = some 27
    · have h := nd_pos h o5
      refine va_get (D := (dC, dI)) (ci := 12) (v := .ref (a 27)) (C := RX11) (T := TX11) (N := 16) hx hb hts hi_dm_X11_told_X11 hown hK hP 0 rfl rfl 1 (by decide) (hts (.fieldLink RX11 20 "TimeMachine$Timeline" "events" "LTimeMachine$Events;") (List.mem_of_getElem? (i := 5) rfl)) (fun _ h9 => h9) (congrArg (fun z => some (va_rf (Option.map a z))) o5) dX11_told_58 ?_
      refine va_get (D := (dC, dI)) (ci := 4) (v := .int (sI s0.2.2.2.1 0)) (C := RX3) (T := TX3) (N := 11) hx hb hts hi_dm_X11_told_X3 hown hK hP 27 rfl rfl 4 (by decide) (hts (.fieldLink RX11 116 "TimeMachine$Events" "recorded" "I") (List.mem_of_getElem? (i := 6) rfl)) (fun _ h9 => h9) rfl dX11_told_61 ?_
      refine lv_i2l hx hb dX11_told_64 rfl ?_
      exact K _ _ _ _ _ _ dX11_told_65 (Option.some.inj h).symm hP hD hS
    have h := nd_neg h o5
    by_cases o6 : sO s0.1 0 = some 32
    · have h := nd_pos h o6
      refine va_get (D := (dC, dI)) (ci := 12) (v := .ref (a 32)) (C := RX11) (T := TX11) (N := 16) hx hb hts hi_dm_X11_told_X11 hown hK hP 0 rfl rfl 1 (by decide) (hts (.fieldLink RX11 20 "TimeMachine$Timeline" "events" "LTimeMachine$Events;") (List.mem_of_getElem? (i := 5) rfl)) (fun _ h9 => h9) (congrArg (fun z => some (va_rf (Option.map a z))) o6) dX11_told_58 ?_
      refine va_get (D := (dC, dI)) (ci := 4) (v := .int (sI s0.2.2.2.2.1 0)) (C := RX3) (T := TX3) (N := 11) hx hb hts hi_dm_X11_told_X3 hown hK hP 32 rfl rfl 4 (by decide) (hts (.fieldLink RX11 116 "TimeMachine$Events" "recorded" "I") (List.mem_of_getElem? (i := 6) rfl)) (fun _ h9 => h9) rfl dX11_told_61 ?_
      refine lv_i2l hx hb dX11_told_64 rfl ?_
      exact K _ _ _ _ _ _ dX11_told_65 (Option.some.inj h).symm hP hD hS
    have h := nd_neg h o6
    exact nomatch h
  have h := nd_neg h c4
  by_cases c7 : v0 = 4
  · have h := nd_pos h c7
    refine lv_tableIn (off := 65) (tgt := 66) hx hb dX11_told_1 (by rw [c7]; decide) (by rw [c7]; decide) (by rw [c7]; decide) (by decide) ?_
    refine lv_aload_n hx hb dX11_told_66 rfl (lv_at hl 0 rfl) ?_
    refine va_get (D := (dC, dI)) (ci := 12) (v := .int (sI s0.1 5)) (C := RX11) (T := TX11) (N := 16) hx hb hts hi_dm_X11_told_X11 hown hK hP 0 rfl rfl 13 (by decide) (hts (.fieldLink RX11 79 "TimeMachine$Timeline" "came" "I") (List.mem_of_getElem? (i := 7) rfl)) (fun _ h9 => h9) rfl dX11_told_67 ?_
    refine lv_i2l hx hb dX11_told_70 rfl ?_
    exact K _ _ _ _ _ _ dX11_told_71 (Option.some.inj h).symm hP hD hS
  have h := nd_neg h c7
  refine lv_tableOut (tgt := 72) hx hb dX11_told_1 (by have g0 := nv_nei c1 (k := 0) (by decide); have g1 := nv_nei c2 (k := 1) (by decide); have g2 := nv_nei c3 (k := 2) (by decide); have g3 := nv_nei c4 (k := 3) (by decide); have g4 := nv_nei c7 (k := 4) (by decide); omega) (by decide) ?_
  refine lv_aload_n hx hb dX11_told_72 rfl (lv_at hl 0 rfl) ?_
  by_cases o8 : sO s0.1 0 = some 27
  · have h := nd_pos h o8
    refine va_get (D := (dC, dI)) (ci := 12) (v := .ref (a 27)) (C := RX11) (T := TX11) (N := 16) hx hb hts hi_dm_X11_told_X11 hown hK hP 0 rfl rfl 1 (by decide) (hts (.fieldLink RX11 20 "TimeMachine$Timeline" "events" "LTimeMachine$Events;") (List.mem_of_getElem? (i := 5) rfl)) (fun _ h9 => h9) (congrArg (fun z => some (va_rf (Option.map a z))) o8) dX11_told_73 ?_
    refine va_get (D := (dC, dI)) (ci := 4) (v := .int (sI s0.2.2.2.1 1)) (C := RX3) (T := TX3) (N := 11) hx hb hts hi_dm_X11_told_X3 hown hK hP 27 rfl rfl 5 (by decide) (hts (.fieldLink RX11 137 "TimeMachine$Events" "total" "I") (List.mem_of_getElem? (i := 8) rfl)) (fun _ h9 => h9) rfl dX11_told_76 ?_
    refine lv_aload_n hx hb dX11_told_79 rfl (lv_at hl 0 rfl) ?_
    refine va_get (D := (dC, dI)) (ci := 12) (v := .ref (a 27)) (C := RX11) (T := TX11) (N := 16) hx hb hts hi_dm_X11_told_X11 hown hK hP 0 rfl rfl 1 (by decide) (hts (.fieldLink RX11 20 "TimeMachine$Timeline" "events" "LTimeMachine$Events;") (List.mem_of_getElem? (i := 5) rfl)) (fun _ h9 => h9) (congrArg (fun z => some (va_rf (Option.map a z))) o8) dX11_told_80 ?_
    refine va_get (D := (dC, dI)) (ci := 4) (v := .int (sI s0.2.2.2.1 0)) (C := RX3) (T := TX3) (N := 11) hx hb hts hi_dm_X11_told_X3 hown hK hP 27 rfl rfl 4 (by decide) (hts (.fieldLink RX11 116 "TimeMachine$Events" "recorded" "I") (List.mem_of_getElem? (i := 6) rfl)) (fun _ h9 => h9) rfl dX11_told_83 ?_
    refine lv_isub hx hb dX11_told_86 ?_
    refine lv_i2l hx hb dX11_told_87 rfl ?_
    exact K _ _ _ _ _ _ dX11_told_88 (Option.some.inj h).symm hP hD hS
  have h := nd_neg h o8
  by_cases o9 : sO s0.1 0 = some 32
  · have h := nd_pos h o9
    refine va_get (D := (dC, dI)) (ci := 12) (v := .ref (a 32)) (C := RX11) (T := TX11) (N := 16) hx hb hts hi_dm_X11_told_X11 hown hK hP 0 rfl rfl 1 (by decide) (hts (.fieldLink RX11 20 "TimeMachine$Timeline" "events" "LTimeMachine$Events;") (List.mem_of_getElem? (i := 5) rfl)) (fun _ h9 => h9) (congrArg (fun z => some (va_rf (Option.map a z))) o9) dX11_told_73 ?_
    refine va_get (D := (dC, dI)) (ci := 4) (v := .int (sI s0.2.2.2.2.1 1)) (C := RX3) (T := TX3) (N := 11) hx hb hts hi_dm_X11_told_X3 hown hK hP 32 rfl rfl 5 (by decide) (hts (.fieldLink RX11 137 "TimeMachine$Events" "total" "I") (List.mem_of_getElem? (i := 8) rfl)) (fun _ h9 => h9) rfl dX11_told_76 ?_
    refine lv_aload_n hx hb dX11_told_79 rfl (lv_at hl 0 rfl) ?_
    refine va_get (D := (dC, dI)) (ci := 12) (v := .ref (a 32)) (C := RX11) (T := TX11) (N := 16) hx hb hts hi_dm_X11_told_X11 hown hK hP 0 rfl rfl 1 (by decide) (hts (.fieldLink RX11 20 "TimeMachine$Timeline" "events" "LTimeMachine$Events;") (List.mem_of_getElem? (i := 5) rfl)) (fun _ h9 => h9) (congrArg (fun z => some (va_rf (Option.map a z))) o9) dX11_told_80 ?_
    refine va_get (D := (dC, dI)) (ci := 4) (v := .int (sI s0.2.2.2.2.1 0)) (C := RX3) (T := TX3) (N := 11) hx hb hts hi_dm_X11_told_X3 hown hK hP 32 rfl rfl 4 (by decide) (hts (.fieldLink RX11 116 "TimeMachine$Events" "recorded" "I") (List.mem_of_getElem? (i := 6) rfl)) (fun _ h9 => h9) rfl dX11_told_83 ?_
    refine lv_isub hx hb dX11_told_86 ?_
    refine lv_i2l hx hb dX11_told_87 rfl ?_
    exact K _ _ _ _ _ _ dX11_told_88 (Option.some.inj h).symm hP hD hS
  have h := nd_neg h o9
  exact nomatch h
set_option maxHeartbeats 40000000 in
set_option maxRecDepth 100000 in
theorem dm_X11_told (l : Launch) (hlt : l.stackTraces = false) (dC : Nat → ClassId) (dI : Nat → Nat → Nat) (a : Nat → Nat) (ac : Nat → ClassId) (n : Nat) (v0 : Int32) (s0 : St × Rw × (St × (St × (St × (St)))) × (St) × (St) × (Nat → St) × (Nat → St) × (Nat → St × (St))) {r : Int64 × (St × Rw × (St × (St × (St × (St)))) × (St) × (St) × (Nat → St) × (Nat → St) × (Nat → St × (St)))} (h : df_X11_told n v0 s0 = some r) (sz : Nat) : Met l yX11_told ow_dm_X11_told ({ frames := 0, cells := 0, slots := 0, locals := 0 }) (va_Pc [.ref (a 0), .int v0] (fun U => U.heap.size = sz ∧ va_P (dC, dI) vwCl (dw_X11 a ac s0) U.heap ∧ va_K (dC, dI) vwCl (dk_X11 ac) U ∧ va_D (fun _ => True) (dw_X11 a ac s0) ∧ nv_E (va_A (dw_X11 a ac s0) sz) U)) (va_Ql (fun x _ => x = r.1) (fun (_ : Unit) t => va_P (dC, dI) vwCl (dw_X11 a ac r.2) t.heap ∧ va_K (dC, dI) vwCl (dk_X11 ac) t ∧ va_D (va_A (dw_X11 a ac s0) sz) (dw_X11 a ac r.2)) (va_A (dw_X11 a ac s0) sz)) 0 0 (va_A (dw_X11 a ac s0) sz) := by
  refine Met.ofW (cc := cX11_told) (maxL := 2) (ret := (some .long)) (by decide) rfl ?_
  intro p e s m args below meth c s₁ B hml hv
  obtain ⟨rfl, hsz, hP, hK, hD0, hN⟩ := hv
  have hx := B.exec
  have hb := B.bytes
  have hr := B.returns
  have hts := atoms_spec (ws := ow_dm_X11_told) B.pre
  have hown : s.vm.findClass RX11 = some m.cls := findClass_of_methodNamed B.named
  have hlocks := B.notSynchronized
  subst hsz
  have hD := hD0.self (sz := s.heap.size)
  generalize hAe : va_A (dw_X11 a ac s0) s.heap.size = A at hD hN ⊢
  have hA : ∀ q : Nat, s.heap.size ≤ q → A q := fun q h => by rw [← hAe]; exact Or.inr h
  have hl := lv_entry ([.ref (a 0), .int v0]) (n := 2) (Nat.le_of_ble_eq_true rfl)
  rw [lg_entry_eq]
  generalize (lg_sl ([.ref (a 0), .int v0]) ++ List.replicate (2 - (lg_sl ([.ref (a 0), .int v0])).length) Slot.unset).toArray = ls at hl ⊢
  have hl : lv_has ls 2 [(0, .ref (a 0)), (1, .int v0)] := hl
  exact db_X11_told_0 (dC := dC) (dI := dI) (a := a) (ac := ac) (n := n) (r := r) ⟨hlt, hx, hb, hml, hown, hts, hN, hA, hK⟩ (fun pc v τ H locs ls d er hP hD hS => by subst er; exact W.lret (v := v) hx hb hr (fun t ht hW => ⟨⟨v, (), rfl, rfl, by rw [ht]; exact hP, va_K.moved hW.alike hK, hD⟩, hS.F ht⟩) hS.2.2 d) v0 s0 _ _ _ h hP hD va_S.rf (lv_sub hl [0, 1] rfl)
