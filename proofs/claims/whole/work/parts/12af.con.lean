set_option maxHeartbeats 40000000 in
set_option maxRecDepth 100000 in
theorem db_X18_longOne_0 {p : Program} {l : Launch} {e : Env} {s : State} {m : MethodId} {args : Array Value} {below : List Frame} {meth : Method} {c : Code} {Q : State → Prop} {A : Nat → Prop} {dC : Nat → ClassId} {dI : Nat → Nat → Nat} {a : Nat → Nat} {ac : Nat → ClassId} {n : Nat} {r : St} (C : nd_C p l s m args c A (dC, dI) cX18_longOne 2 RX18 ow_dm_X18_longOne (dk_X18 ac)) (K : nd_Kv p l e (headSpec ow_dm_X18_longOne ({ frames := 6, cells := 0, slots := 0, locals := 132 })).room s m args below meth c Q A (dC, dI) cX18_longOne (St) (dw_X18 a ac) r) : dj_X18_longOne_0 p l e s m args below meth c Q A dC dI a ac (df_X18_longOne_0 n) r := by
  obtain ⟨hlt, hx, hb, hml, hown, hts, hN, hA, hK⟩ := id C
  intro s0 H locs ls h hP hD hS hl
  unfold df_X18_longOne_0 at h
  refine lv_aload_n hx hb dX18_longOne_0 rfl (lv_at hl 0 rfl) ?_
  refine lv_aload_n hx hb dX18_longOne_1 rfl (lv_at hl 0 rfl) ?_
  refine lv_bipush (v := 7) hx hb dX18_longOne_2 (by decide) ?_
  refine lv_iconst (v := 5) hx hb dX18_longOne_4 (by decide) ?_
  obtain ⟨q1, s2, hq, h⟩ := nd_b2_e h
  have hPc := hP
  have hDc := hD
  have hKc := hK
  have hFc := nd_rs hD hS hA
  refine va_calli (va_runV (As := [.int 7, .int 5]) (rest := [.ref (a 0)]) ⟨hx, hb, hml, hown, hts⟩ (dm_X18_part l hlt dC dI a ac n (7) (5) s0 hq _) (cwV 2 hts gi_dm_X18_longOne_0 rfl rfl rfl (by decide +kernel) ⟨Nat.le_of_ble_eq_true rfl, Nat.le_of_ble_eq_true rfl⟩) ⟨fun a U g mk q => by obtain ⟨q0, q1, qP, qK, qD, qN⟩ := q; exact ⟨q0, q1, qP, va_K.moved (u := U) (U := U.calling g mk a) (Vm.Alike.refl U.vm) qK, qD, nv_same rfl rfl qN⟩, va_recv hKc hPc (ci := 19) (q0 := 0) rfl rfl, fun U hU hW => ⟨rfl, by rw [hU], by rw [hU]; exact hPc, va_K.moved hW.alike hKc, hDc.weaken (fun _ _ _ _ => trivial), nv_call hS hFc hU hW hN⟩⟩ rfl rfl hl.1 rfl (lv_room (Nat.le_of_ble_eq_true rfl)) dX18_longOne_5 ⟨by decide +kernel, by decide +kernel⟩) hS (fun q _ h => hFc q h) hFc (fun r3 u t H locs ht hvm hw hB hz1 hk1 hS => ?_)
  obtain rfl : q1 = r3 := Eq.symm hw
  obtain ⟨hP1, -, hD1⟩ := hB
  rw [ht] at hP1
  have hP := hP1
  have hD := hD1.weaken (fun k q _ h => hFc q.1 h)
  refine W.widen (k := 0) (n := 0) (Nat.le_refl _) (Nat.le_refl _) ?_
  refine va_put (D := (dC, dI)) (ci := 19) (v := .int q1) (ty := .int) (C := RX18) (T := TX18) (N := 10) hx hb hts hi_dm_X18_longOne_X18 tyX18 tyX18_ok nmX18 hown hK hP hD hS 0 rfl rfl 5 (by decide) (hts (.fieldLink RX18 68 "TimeMachineModel$Reader" "d" "I") (List.mem_of_getElem? (i := 5) rfl)) (fun _ h9 => h9) rfl (by decide +kernel) rfl rfl (Nat.le_of_ble_eq_true rfl) dX18_longOne_8 (fun H locs hP hD hS => ?_)
  obtain ⟨s4, es4, h⟩ := nd_let_e h
  have hP : va_P (dC, dI) vwCl (dw_X18 a ac s4) H := by rw [es4]; exact hP
  have hD : va_D A (dw_X18 a ac s4) := by rw [es4]; exact hD
  refine lv_aload_n hx hb dX18_longOne_11 rfl (lv_at hl 0 rfl) ?_
  refine lv_aload_n hx hb dX18_longOne_12 rfl (lv_at hl 0 rfl) ?_
  refine lv_bipush (v := 12) hx hb dX18_longOne_13 (by decide) ?_
  refine lv_iconst (v := 3) hx hb dX18_longOne_15 (by decide) ?_
  obtain ⟨q5, s6, hq, h⟩ := nd_b2_e h
  have hPc := hP
  have hDc := hD
  have hKc := hK
  have hFc := nd_rs hD hS hA
  refine va_calli (va_runV (As := [.int 12, .int 3]) (rest := [.ref (a 0)]) ⟨hx, hb, hml, hown, hts⟩ (dm_X18_part l hlt dC dI a ac n (12) (3) s4 hq _) (cwV 2 hts gi_dm_X18_longOne_0 rfl rfl rfl (by decide +kernel) ⟨Nat.le_of_ble_eq_true rfl, Nat.le_of_ble_eq_true rfl⟩) ⟨fun a U g mk q => by obtain ⟨q0, q1, qP, qK, qD, qN⟩ := q; exact ⟨q0, q1, qP, va_K.moved (u := U) (U := U.calling g mk a) (Vm.Alike.refl U.vm) qK, qD, nv_same rfl rfl qN⟩, va_recv hKc hPc (ci := 19) (q0 := 0) rfl rfl, fun U hU hW => ⟨rfl, by rw [hU], by rw [hU]; exact hPc, va_K.moved hW.alike hKc, hDc.weaken (fun _ _ _ _ => trivial), nv_call hS hFc hU hW hN⟩⟩ rfl rfl hl.1 rfl (lv_room (Nat.le_of_ble_eq_true rfl)) dX18_longOne_16 ⟨by decide +kernel, by decide +kernel⟩) hS (fun q _ h => hFc q h) hFc (fun r7 u t H locs ht hvm hw hB hz1 hk1 hS => ?_)
  obtain rfl : q5 = r7 := Eq.symm hw
  obtain ⟨hP1, -, hD1⟩ := hB
  rw [ht] at hP1
  have hP := hP1
  have hD := hD1.weaken (fun k q _ h => hFc q.1 h)
  refine W.widen (k := 0) (n := 0) (Nat.le_refl _) (Nat.le_refl _) ?_
  refine va_put (D := (dC, dI)) (ci := 19) (v := .int q5) (ty := .int) (C := RX18) (T := TX18) (N := 10) hx hb hts hi_dm_X18_longOne_X18 tyX18 tyX18_ok nmX18 hown hK hP hD hS 0 rfl rfl 8 (by decide) (hts (.fieldLink RX18 80 "TimeMachineModel$Reader" "f" "I") (List.mem_of_getElem? (i := 6) rfl)) (fun _ h9 => h9) rfl (by decide +kernel) rfl rfl (Nat.le_of_ble_eq_true rfl) dX18_longOne_19 (fun H locs hP hD hS => ?_)
  obtain ⟨s8, es8, h⟩ := nd_let_e h
  have hP : va_P (dC, dI) vwCl (dw_X18 a ac s8) H := by rw [es8]; exact hP
  have hD : va_D A (dw_X18 a ac s8) := by rw [es8]; exact hD
  refine lv_aload_n hx hb dX18_longOne_22 rfl (lv_at hl 0 rfl) ?_
  refine lv_aload_n hx hb dX18_longOne_23 rfl (lv_at hl 0 rfl) ?_
  refine lv_bipush (v := 15) hx hb dX18_longOne_24 (by decide) ?_
  refine lv_iconst (v := 5) hx hb dX18_longOne_26 (by decide) ?_
  obtain ⟨q9, s10, hq, h⟩ := nd_b2_e h
  have hPc := hP
  have hDc := hD
  have hKc := hK
  have hFc := nd_rs hD hS hA
  refine va_calli (va_runV (As := [.int 15, .int 5]) (rest := [.ref (a 0)]) ⟨hx, hb, hml, hown, hts⟩ (dm_X18_part l hlt dC dI a ac n (15) (5) s8 hq _) (cwV 2 hts gi_dm_X18_longOne_0 rfl rfl rfl (by decide +kernel) ⟨Nat.le_of_ble_eq_true rfl, Nat.le_of_ble_eq_true rfl⟩) ⟨fun a U g mk q => by obtain ⟨q0, q1, qP, qK, qD, qN⟩ := q; exact ⟨q0, q1, qP, va_K.moved (u := U) (U := U.calling g mk a) (Vm.Alike.refl U.vm) qK, qD, nv_same rfl rfl qN⟩, va_recv hKc hPc (ci := 19) (q0 := 0) rfl rfl, fun U hU hW => ⟨rfl, by rw [hU], by rw [hU]; exact hPc, va_K.moved hW.alike hKc, hDc.weaken (fun _ _ _ _ => trivial), nv_call hS hFc hU hW hN⟩⟩ rfl rfl hl.1 rfl (lv_room (Nat.le_of_ble_eq_true rfl)) dX18_longOne_27 ⟨by decide +kernel, by decide +kernel⟩) hS (fun q _ h => hFc q h) hFc (fun r11 u t H locs ht hvm hw hB hz1 hk1 hS => ?_)
  obtain rfl : q9 = r11 := Eq.symm hw
  obtain ⟨hP1, -, hD1⟩ := hB
  rw [ht] at hP1
  have hP := hP1
  have hD := hD1.weaken (fun k q _ h => hFc q.1 h)
  refine W.widen (k := 0) (n := 0) (Nat.le_refl _) (Nat.le_refl _) ?_
  refine va_put (D := (dC, dI)) (ci := 19) (v := .int q9) (ty := .int) (C := RX18) (T := TX18) (N := 10) hx hb hts hi_dm_X18_longOne_X18 tyX18 tyX18_ok nmX18 hown hK hP hD hS 0 rfl rfl 6 (by decide) (hts (.fieldLink RX18 74 "TimeMachineModel$Reader" "a" "I") (List.mem_of_getElem? (i := 7) rfl)) (fun _ h9 => h9) rfl (by decide +kernel) rfl rfl (Nat.le_of_ble_eq_true rfl) dX18_longOne_30 (fun H locs hP hD hS => ?_)
  obtain ⟨s12, es12, h⟩ := nd_let_e h
  have hP : va_P (dC, dI) vwCl (dw_X18 a ac s12) H := by rw [es12]; exact hP
  have hD : va_D A (dw_X18 a ac s12) := by rw [es12]; exact hD
  refine lv_aload_n hx hb dX18_longOne_33 rfl (lv_at hl 0 rfl) ?_
  refine lv_aload_n hx hb dX18_longOne_34 rfl (lv_at hl 0 rfl) ?_
  refine lv_bipush (v := 20) hx hb dX18_longOne_35 (by decide) ?_
  refine lv_iconst (v := 5) hx hb dX18_longOne_37 (by decide) ?_
  obtain ⟨q13, s14, hq, h⟩ := nd_b2_e h
  have hPc := hP
  have hDc := hD
  have hKc := hK
  have hFc := nd_rs hD hS hA
  refine va_calli (va_runV (As := [.int 20, .int 5]) (rest := [.ref (a 0)]) ⟨hx, hb, hml, hown, hts⟩ (dm_X18_part l hlt dC dI a ac n (20) (5) s12 hq _) (cwV 2 hts gi_dm_X18_longOne_0 rfl rfl rfl (by decide +kernel) ⟨Nat.le_of_ble_eq_true rfl, Nat.le_of_ble_eq_true rfl⟩) ⟨fun a U g mk q => by obtain ⟨q0, q1, qP, qK, qD, qN⟩ := q; exact ⟨q0, q1, qP, va_K.moved (u := U) (U := U.calling g mk a) (Vm.Alike.refl U.vm) qK, qD, nv_same rfl rfl qN⟩, va_recv hKc hPc (ci := 19) (q0 := 0) rfl rfl, fun U hU hW => ⟨rfl, by rw [hU], by rw [hU]; exact hPc, va_K.moved hW.alike hKc, hDc.weaken (fun _ _ _ _ => trivial), nv_call hS hFc hU hW hN⟩⟩ rfl rfl hl.1 rfl (lv_room (Nat.le_of_ble_eq_true rfl)) dX18_longOne_38 ⟨by decide +kernel, by decide +kernel⟩) hS (fun q _ h => hFc q h) hFc (fun r15 u t H locs ht hvm hw hB hz1 hk1 hS => ?_)
  obtain rfl : q13 = r15 := Eq.symm hw
  obtain ⟨hP1, -, hD1⟩ := hB
  rw [ht] at hP1
  have hP := hP1
  have hD := hD1.weaken (fun k q _ h => hFc q.1 h)
  refine W.widen (k := 0) (n := 0) (Nat.le_refl _) (Nat.le_refl _) ?_
  refine va_put (D := (dC, dI)) (ci := 19) (v := .int q13) (ty := .int) (C := RX18) (T := TX18) (N := 10) hx hb hts hi_dm_X18_longOne_X18 tyX18 tyX18_ok nmX18 hown hK hP hD hS 0 rfl rfl 7 (by decide) (hts (.fieldLink RX18 77 "TimeMachineModel$Reader" "b" "I") (List.mem_of_getElem? (i := 8) rfl)) (fun _ h9 => h9) rfl (by decide +kernel) rfl rfl (Nat.le_of_ble_eq_true rfl) dX18_longOne_41 (fun H locs hP hD hS => ?_)
  obtain ⟨s16, es16, h⟩ := nd_let_e h
  have hP : va_P (dC, dI) vwCl (dw_X18 a ac s16) H := by rw [es16]; exact hP
  have hD : va_D A (dw_X18 a ac s16) := by rw [es16]; exact hD
  refine lv_aload_n hx hb dX18_longOne_44 rfl (lv_at hl 0 rfl) ?_
  refine lv_bipush (v := 25) hx hb dX18_longOne_45 (by decide) ?_
  refine lv_bipush (v := 7) hx hb dX18_longOne_47 (by decide) ?_
  obtain ⟨q17, s18, hq, h⟩ := nd_b2_e h
  have hPc := hP
  have hDc := hD
  have hKc := hK
  have hFc := nd_rs hD hS hA
  refine va_calli (va_runV (As := [.int 25, .int 7]) (rest := []) ⟨hx, hb, hml, hown, hts⟩ (dm_X18_part l hlt dC dI a ac n (25) (7) s16 hq _) (cwV 2 hts gi_dm_X18_longOne_0 rfl rfl rfl (by decide +kernel) ⟨Nat.le_of_ble_eq_true rfl, Nat.le_of_ble_eq_true rfl⟩) ⟨fun a U g mk q => by obtain ⟨q0, q1, qP, qK, qD, qN⟩ := q; exact ⟨q0, q1, qP, va_K.moved (u := U) (U := U.calling g mk a) (Vm.Alike.refl U.vm) qK, qD, nv_same rfl rfl qN⟩, va_recv hKc hPc (ci := 19) (q0 := 0) rfl rfl, fun U hU hW => ⟨rfl, by rw [hU], by rw [hU]; exact hPc, va_K.moved hW.alike hKc, hDc.weaken (fun _ _ _ _ => trivial), nv_call hS hFc hU hW hN⟩⟩ rfl rfl hl.1 rfl (lv_room (Nat.le_of_ble_eq_true rfl)) dX18_longOne_49 ⟨by decide +kernel, by decide +kernel⟩) hS (fun q _ h => hFc q h) hFc (fun r19 u t H locs ht hvm hw hB hz1 hk1 hS => ?_)
  obtain rfl : q17 = r19 := Eq.symm hw
  obtain ⟨hP1, -, hD1⟩ := hB
  rw [ht] at hP1
  have hP := hP1
  have hD := hD1.weaken (fun k q _ h => hFc q.1 h)
  refine W.widen (k := 0) (n := 0) (Nat.le_refl _) (Nat.le_refl _) ?_
  refine lv_istore_n (lv' := [(1, .int q17), (0, .ref (a 0))]) hx hb dX18_longOne_52 rfl hl (by decide) rfl (fun ls hl => ?_)
  refine lv_aload_n hx hb dX18_longOne_53 rfl (lv_at hl 1 rfl) ?_
  refine va_get (D := (dC, dI)) (ci := 19) (v := .int (sI s18 3)) (C := RX18) (T := TX18) (N := 10) hx hb hts hi_dm_X18_longOne_X18 hown hK hP 0 rfl rfl 4 (by decide) (hts (.fieldLink RX18 20 "TimeMachineModel$Reader" "bits" "I") (List.mem_of_getElem? (i := 9) rfl)) (fun _ h9 => h9) rfl dX18_longOne_54 ?_
  refine lv_bipush (v := 127) hx hb dX18_longOne_57 (by decide) ?_
  refine lv_iand hx hb dX18_longOne_59 ?_
  by_cases c20 : ((sI s18 3) &&& 127) = 3
  · have h := nd_pos h c20
    refine lv_lookup (off := 84) (tgt := 144) hx hb dX18_longOne_60 (by decide) (by rw [c20]; decide) (by decide) ?_
    refine lv_aload_n hx hb dX18_longOne_144 rfl (lv_at hl 1 rfl) ?_
    obtain ⟨s22, hq, h⟩ := nd_b1_e h
    have hPc := hP
    have hDc := hD
    have hKc := hK
    have hFc := nd_rs hD hS hA
    refine va_callv (va_runV (As := []) (rest := []) ⟨hx, hb, hml, hown, hts⟩ (dm_X18_loads l hlt dC dI a ac n  s18 hq _) (cwV 0 hts gi_dm_X18_longOne_1 rfl rfl rfl (by decide +kernel) ⟨Nat.le_of_ble_eq_true rfl, Nat.le_of_ble_eq_true rfl⟩) ⟨fun a U g mk q => by obtain ⟨q0, q1, qP, qK, qD, qN⟩ := q; exact ⟨q0, q1, qP, va_K.moved (u := U) (U := U.calling g mk a) (Vm.Alike.refl U.vm) qK, qD, nv_same rfl rfl qN⟩, va_recv hKc hPc (ci := 19) (q0 := 0) rfl rfl, fun U hU hW => ⟨rfl, by rw [hU], by rw [hU]; exact hPc, va_K.moved hW.alike hKc, hDc.weaken (fun _ _ _ _ => trivial), nv_call hS hFc hU hW hN⟩⟩ rfl rfl hl.1 rfl (lv_room (Nat.le_of_ble_eq_true rfl)) dX18_longOne_145 ⟨by decide +kernel, by decide +kernel⟩) hS (fun q _ h => hFc q h) hFc (fun u t H locs ht hvm hw hB hz1 hk1 hS => ?_)
    obtain ⟨hP1, -, hD1⟩ := hB
    rw [ht] at hP1
    have hP := hP1
    have hD := hD1.weaken (fun k q _ h => hFc q.1 h)
    refine W.widen (k := 0) (n := 0) (Nat.le_refl _) (Nat.le_refl _) ?_
    refine lv_goto (tgt := 190) hx hb dX18_longOne_148 (by decide) ?_
    exact (db_X18_longOne_190 C K)  s22 _ _ _ h hP hD hS (lv_sub hl [] rfl)
  have h := nd_neg h c20
  by_cases c24 : ((sI s18 3) &&& 127) = 19
  · have h := nd_pos h c24
    refine lv_lookup (off := 76) (tgt := 136) hx hb dX18_longOne_60 (by decide) (by rw [c24]; decide) (by decide) ?_
    refine lv_aload_n hx hb dX18_longOne_136 rfl (lv_at hl 1 rfl) ?_
    refine lv_iload_n hx hb dX18_longOne_137 rfl (lv_at hl 0 rfl) ?_
    obtain ⟨s26, hq, h⟩ := nd_b1_e h
    have hPc := hP
    have hDc := hD
    have hKc := hK
    have hFc := nd_rs hD hS hA
    refine va_callv (va_runV (As := [.int q17]) (rest := []) ⟨hx, hb, hml, hown, hts⟩ (dm_X18_twos l hlt dC dI a ac n (q17) s18 hq _) (cwV 1 hts gi_dm_X18_longOne_2 rfl rfl rfl (by decide +kernel) ⟨Nat.le_of_ble_eq_true rfl, Nat.le_of_ble_eq_true rfl⟩) ⟨fun a U g mk q => by obtain ⟨q0, q1, qP, qK, qD, qN⟩ := q; exact ⟨q0, q1, qP, va_K.moved (u := U) (U := U.calling g mk a) (Vm.Alike.refl U.vm) qK, qD, nv_same rfl rfl qN⟩, va_recv hKc hPc (ci := 19) (q0 := 0) rfl rfl, fun U hU hW => ⟨rfl, by rw [hU], by rw [hU]; exact hPc, va_K.moved hW.alike hKc, hDc.weaken (fun _ _ _ _ => trivial), nv_call hS hFc hU hW hN⟩⟩ rfl rfl hl.1 rfl (lv_room (Nat.le_of_ble_eq_true rfl)) dX18_longOne_138 ⟨by decide +kernel, by decide +kernel⟩) hS (fun q _ h => hFc q h) hFc (fun u t H locs ht hvm hw hB hz1 hk1 hS => ?_)
    obtain ⟨hP1, -, hD1⟩ := hB
    rw [ht] at hP1
    have hP := hP1
    have hD := hD1.weaken (fun k q _ h => hFc q.1 h)
    refine W.widen (k := 0) (n := 0) (Nat.le_refl _) (Nat.le_refl _) ?_
    refine lv_goto (tgt := 190) hx hb dX18_longOne_141 (by decide) ?_
    exact (db_X18_longOne_190 C K)  s26 _ _ _ h hP hD hS (lv_sub hl [] rfl)
  have h := nd_neg h c24
  by_cases c28 : ((sI s18 3) &&& 127) = 35
  · have h := nd_pos h c28
    refine lv_lookup (off := 91) (tgt := 151) hx hb dX18_longOne_60 (by decide) (by rw [c28]; decide) (by decide) ?_
    refine lv_aload_n hx hb dX18_longOne_151 rfl (lv_at hl 1 rfl) ?_
    obtain ⟨s30, hq, h⟩ := nd_b1_e h
    have hPc := hP
    have hDc := hD
    have hKc := hK
    have hFc := nd_rs hD hS hA
    refine va_callv (va_runV (As := []) (rest := []) ⟨hx, hb, hml, hown, hts⟩ (dm_X18_stores l hlt dC dI a ac n  s18 hq _) (cwV 0 hts gi_dm_X18_longOne_3 rfl rfl rfl (by decide +kernel) ⟨Nat.le_of_ble_eq_true rfl, Nat.le_of_ble_eq_true rfl⟩) ⟨fun a U g mk q => by obtain ⟨q0, q1, qP, qK, qD, qN⟩ := q; exact ⟨q0, q1, qP, va_K.moved (u := U) (U := U.calling g mk a) (Vm.Alike.refl U.vm) qK, qD, nv_same rfl rfl qN⟩, va_recv hKc hPc (ci := 19) (q0 := 0) rfl rfl, fun U hU hW => ⟨rfl, by rw [hU], by rw [hU]; exact hPc, va_K.moved hW.alike hKc, hDc.weaken (fun _ _ _ _ => trivial), nv_call hS hFc hU hW hN⟩⟩ rfl rfl hl.1 rfl (lv_room (Nat.le_of_ble_eq_true rfl)) dX18_longOne_152 ⟨by decide +kernel, by decide +kernel⟩) hS (fun q _ h => hFc q h) hFc (fun u t H locs ht hvm hw hB hz1 hk1 hS => ?_)
    obtain ⟨hP1, -, hD1⟩ := hB
    rw [ht] at hP1
    have hP := hP1
    have hD := hD1.weaken (fun k q _ h => hFc q.1 h)
    refine W.widen (k := 0) (n := 0) (Nat.le_refl _) (Nat.le_refl _) ?_
    refine lv_goto (tgt := 190) hx hb dX18_longOne_155 (by decide) ?_
    exact (db_X18_longOne_190 C K)  s30 _ _ _ h hP hD hS (lv_sub hl [] rfl)
  have h := nd_neg h c28
  by_cases c32 : ((sI s18 3) &&& 127) = 47
  · have h := nd_pos h c32
    refine lv_lookup (off := 105) (tgt := 165) hx hb dX18_longOne_60 (by decide) (by rw [c32]; decide) (by decide) ?_
    refine lv_aload_n hx hb dX18_longOne_165 rfl (lv_at hl 1 rfl) ?_
    refine lv_aload_n hx hb dX18_longOne_166 rfl (lv_at hl 1 rfl) ?_
    refine lv_bipush (v := 27) hx hb dX18_longOne_167 (by decide) ?_
    refine lv_iconst (v := 5) hx hb dX18_longOne_169 (by decide) ?_
    obtain ⟨q33, s34, hq, h⟩ := nd_b2_e h
    have hPc := hP
    have hDc := hD
    have hKc := hK
    have hFc := nd_rs hD hS hA
    refine va_calli (va_runV (As := [.int 27, .int 5]) (rest := [.ref (a 0)]) ⟨hx, hb, hml, hown, hts⟩ (dm_X18_part l hlt dC dI a ac n (27) (5) s18 hq _) (cwV 2 hts gi_dm_X18_longOne_0 rfl rfl rfl (by decide +kernel) ⟨Nat.le_of_ble_eq_true rfl, Nat.le_of_ble_eq_true rfl⟩) ⟨fun a U g mk q => by obtain ⟨q0, q1, qP, qK, qD, qN⟩ := q; exact ⟨q0, q1, qP, va_K.moved (u := U) (U := U.calling g mk a) (Vm.Alike.refl U.vm) qK, qD, nv_same rfl rfl qN⟩, va_recv hKc hPc (ci := 19) (q0 := 0) rfl rfl, fun U hU hW => ⟨rfl, by rw [hU], by rw [hU]; exact hPc, va_K.moved hW.alike hKc, hDc.weaken (fun _ _ _ _ => trivial), nv_call hS hFc hU hW hN⟩⟩ rfl rfl hl.1 rfl (lv_room (Nat.le_of_ble_eq_true rfl)) dX18_longOne_170 ⟨by decide +kernel, by decide +kernel⟩) hS (fun q _ h => hFc q h) hFc (fun r35 u t H locs ht hvm hw hB hz1 hk1 hS => ?_)
    obtain rfl : q33 = r35 := Eq.symm hw
    obtain ⟨hP1, -, hD1⟩ := hB
    rw [ht] at hP1
    have hP := hP1
    have hD := hD1.weaken (fun k q _ h => hFc q.1 h)
    refine W.widen (k := 0) (n := 0) (Nat.le_refl _) (Nat.le_refl _) ?_
    obtain ⟨s37, hq, h⟩ := nd_b1_e h
    have hPc := hP
    have hDc := hD
    have hKc := hK
    have hFc := nd_rs hD hS hA
    refine va_callv (va_runV (As := [.int q33]) (rest := []) ⟨hx, hb, hml, hown, hts⟩ (dm_X18_atomic l hlt dC dI a ac n (q33) s34 hq _) (cwV 1 hts gi_dm_X18_longOne_4 rfl rfl rfl (by decide +kernel) ⟨Nat.le_of_ble_eq_true rfl, Nat.le_of_ble_eq_true rfl⟩) ⟨fun a U g mk q => by obtain ⟨q0, q1, qP, qK, qD, qN⟩ := q; exact ⟨q0, q1, qP, va_K.moved (u := U) (U := U.calling g mk a) (Vm.Alike.refl U.vm) qK, qD, nv_same rfl rfl qN⟩, va_recv hKc hPc (ci := 19) (q0 := 0) rfl rfl, fun U hU hW => ⟨rfl, by rw [hU], by rw [hU]; exact hPc, va_K.moved hW.alike hKc, hDc.weaken (fun _ _ _ _ => trivial), nv_call hS hFc hU hW hN⟩⟩ rfl rfl hl.1 rfl (lv_room (Nat.le_of_ble_eq_true rfl)) dX18_longOne_173 ⟨by decide +kernel, by decide +kernel⟩) hS (fun q _ h => hFc q h) hFc (fun u t H locs ht hvm hw hB hz1 hk1 hS => ?_)
    obtain ⟨hP1, -, hD1⟩ := hB
    rw [ht] at hP1
    have hP := hP1
    have hD := hD1.weaken (fun k q _ h => hFc q.1 h)
    refine W.widen (k := 0) (n := 0) (Nat.le_refl _) (Nat.le_refl _) ?_
    refine lv_goto (tgt := 190) hx hb dX18_longOne_176 (by decide) ?_
    exact (db_X18_longOne_190 C K)  s37 _ _ _ h hP hD hS (lv_sub hl [] rfl)
  have h := nd_neg h c32
  by_cases c39 : ((sI s18 3) &&& 127) = 51
  · have h := nd_pos h c39
    refine lv_lookup (off := 68) (tgt := 128) hx hb dX18_longOne_60 (by decide) (by rw [c39]; decide) (by decide) ?_
    refine lv_aload_n hx hb dX18_longOne_128 rfl (lv_at hl 1 rfl) ?_
    refine lv_iload_n hx hb dX18_longOne_129 rfl (lv_at hl 0 rfl) ?_
    obtain ⟨s41, hq, h⟩ := nd_b1_e h
    have hPc := hP
    have hDc := hD
    have hKc := hK
    have hFc := nd_rs hD hS hA
    refine va_callv (va_runV (As := [.int q17]) (rest := []) ⟨hx, hb, hml, hown, hts⟩ (dm_X18_plain l hlt dC dI a ac n (q17) s18 hq _) (cwV 1 hts gi_dm_X18_longOne_5 rfl rfl rfl (by decide +kernel) ⟨Nat.le_of_ble_eq_true rfl, Nat.le_of_ble_eq_true rfl⟩) ⟨fun a U g mk q => by obtain ⟨q0, q1, qP, qK, qD, qN⟩ := q; exact ⟨q0, q1, qP, va_K.moved (u := U) (U := U.calling g mk a) (Vm.Alike.refl U.vm) qK, qD, nv_same rfl rfl qN⟩, va_recv hKc hPc (ci := 19) (q0 := 0) rfl rfl, fun U hU hW => ⟨rfl, by rw [hU], by rw [hU]; exact hPc, va_K.moved hW.alike hKc, hDc.weaken (fun _ _ _ _ => trivial), nv_call hS hFc hU hW hN⟩⟩ rfl rfl hl.1 rfl (lv_room (Nat.le_of_ble_eq_true rfl)) dX18_longOne_130 ⟨by decide +kernel, by decide +kernel⟩) hS (fun q _ h => hFc q h) hFc (fun u t H locs ht hvm hw hB hz1 hk1 hS => ?_)
    obtain ⟨hP1, -, hD1⟩ := hB
    rw [ht] at hP1
    have hP := hP1
    have hD := hD1.weaken (fun k q _ h => hFc q.1 h)
    refine W.widen (k := 0) (n := 0) (Nat.le_refl _) (Nat.le_refl _) ?_
    refine lv_goto (tgt := 190) hx hb dX18_longOne_133 (by decide) ?_
    exact (db_X18_longOne_190 C K)  s41 _ _ _ h hP hD hS (lv_sub hl [] rfl)
  have h := nd_neg h c39
  by_cases c43 : ((sI s18 3) &&& 127) = 99
  · have h := nd_pos h c43
    refine lv_lookup (off := 98) (tgt := 158) hx hb dX18_longOne_60 (by decide) (by rw [c43]; decide) (by decide) ?_
    refine lv_aload_n hx hb dX18_longOne_158 rfl (lv_at hl 1 rfl) ?_
    obtain ⟨s45, hq, h⟩ := nd_b1_e h
    have hPc := hP
    have hDc := hD
    have hKc := hK
    have hFc := nd_rs hD hS hA
    refine va_callv (va_runV (As := []) (rest := []) ⟨hx, hb, hml, hown, hts⟩ (dm_X18_branches l hlt dC dI a ac n  s18 hq _) (cwV 0 hts gi_dm_X18_longOne_6 rfl rfl rfl (by decide +kernel) ⟨Nat.le_of_ble_eq_true rfl, Nat.le_of_ble_eq_true rfl⟩) ⟨fun a U g mk q => by obtain ⟨q0, q1, qP, qK, qD, qN⟩ := q; exact ⟨q0, q1, qP, va_K.moved (u := U) (U := U.calling g mk a) (Vm.Alike.refl U.vm) qK, qD, nv_same rfl rfl qN⟩, va_recv hKc hPc (ci := 19) (q0 := 0) rfl rfl, fun U hU hW => ⟨rfl, by rw [hU], by rw [hU]; exact hPc, va_K.moved hW.alike hKc, hDc.weaken (fun _ _ _ _ => trivial), nv_call hS hFc hU hW hN⟩⟩ rfl rfl hl.1 rfl (lv_room (Nat.le_of_ble_eq_true rfl)) dX18_longOne_159 ⟨by decide +kernel, by decide +kernel⟩) hS (fun q _ h => hFc q h) hFc (fun u t H locs ht hvm hw hB hz1 hk1 hS => ?_)
    obtain ⟨hP1, -, hD1⟩ := hB
    rw [ht] at hP1
    have hP := hP1
    have hD := hD1.weaken (fun k q _ h => hFc q.1 h)
    refine W.widen (k := 0) (n := 0) (Nat.le_refl _) (Nat.le_refl _) ?_
    refine lv_goto (tgt := 190) hx hb dX18_longOne_162 (by decide) ?_
    exact (db_X18_longOne_190 C K)  s45 _ _ _ h hP hD hS (lv_sub hl [] rfl)
  have h := nd_neg h c43
  by_cases c47 : ((sI s18 3) &&& 127) = 115
  · have h := nd_pos h c47
    refine lv_lookup (off := 119) (tgt := 179) hx hb dX18_longOne_60 (by decide) (by rw [c47]; decide) (by decide) ?_
    refine lv_aload_n hx hb dX18_longOne_179 rfl (lv_at hl 1 rfl) ?_
    obtain ⟨s49, hq, h⟩ := nd_b1_e h
    have hPc := hP
    have hDc := hD
    have hKc := hK
    have hFc := nd_rs hD hS hA
    refine va_callv (va_runV (As := []) (rest := []) ⟨hx, hb, hml, hown, hts⟩ (dm_X18_system l hlt dC dI a ac n  s18 hq _) (cwV 0 hts gi_dm_X18_longOne_7 rfl rfl rfl (by decide +kernel) ⟨Nat.le_of_ble_eq_true rfl, Nat.le_of_ble_eq_true rfl⟩) ⟨fun a U g mk q => by obtain ⟨q0, q1, qP, qK, qD, qN⟩ := q; exact ⟨q0, q1, qP, va_K.moved (u := U) (U := U.calling g mk a) (Vm.Alike.refl U.vm) qK, qD, nv_same rfl rfl qN⟩, va_recv hKc hPc (ci := 19) (q0 := 0) rfl rfl, fun U hU hW => ⟨rfl, by rw [hU], by rw [hU]; exact hPc, va_K.moved hW.alike hKc, hDc.weaken (fun _ _ _ _ => trivial), nv_call hS hFc hU hW hN⟩⟩ rfl rfl hl.1 rfl (lv_room (Nat.le_of_ble_eq_true rfl)) dX18_longOne_180 ⟨by decide +kernel, by decide +kernel⟩) hS (fun q _ h => hFc q h) hFc (fun u t H locs ht hvm hw hB hz1 hk1 hS => ?_)
    obtain ⟨hP1, -, hD1⟩ := hB
    rw [ht] at hP1
    have hP := hP1
    have hD := hD1.weaken (fun k q _ h => hFc q.1 h)
    refine W.widen (k := 0) (n := 0) (Nat.le_refl _) (Nat.le_refl _) ?_
    refine lv_goto (tgt := 190) hx hb dX18_longOne_183 (by decide) ?_
    exact (db_X18_longOne_190 C K)  s49 _ _ _ h hP hD hS (lv_sub hl [] rfl)
  have h := nd_neg h c47
  refine lv_lookup (off := 126) (tgt := 186) hx hb dX18_longOne_60 (by decide) (show Op.lookupswitch.offset [(3, 84), (19, 76), (35, 91), (47, 105), (51, 68), (99, 98), (115, 119)] 126 (((sI s18 3) &&& 127) : Int32).toInt = 126 by rw [lv_osw c20 (by decide), lv_osw c24 (by decide), lv_osw c28 (by decide), lv_osw c32 (by decide), lv_osw c39 (by decide), lv_osw c43 (by decide), lv_osw c47 (by decide)] <;> rfl) (by decide) ?_
  refine lv_aload_n hx hb dX18_longOne_186 rfl (lv_at hl 1 rfl) ?_
  obtain ⟨s52, hq, h⟩ := nd_b1_e h
  have hPc := hP
  have hDc := hD
  have hKc := hK
  have hFc := nd_rs hD hS hA
  refine va_callv (va_runV (As := []) (rest := []) ⟨hx, hb, hml, hown, hts⟩ (dm_X18_others l hlt dC dI a ac n  s18 hq _) (cwV 0 hts gi_dm_X18_longOne_8 rfl rfl rfl (by decide +kernel) ⟨Nat.le_of_ble_eq_true rfl, Nat.le_of_ble_eq_true rfl⟩) ⟨fun a U g mk q => by obtain ⟨q0, q1, qP, qK, qD, qN⟩ := q; exact ⟨q0, q1, qP, va_K.moved (u := U) (U := U.calling g mk a) (Vm.Alike.refl U.vm) qK, qD, nv_same rfl rfl qN⟩, va_recv hKc hPc (ci := 19) (q0 := 0) rfl rfl, fun U hU hW => ⟨rfl, by rw [hU], by rw [hU]; exact hPc, va_K.moved hW.alike hKc, hDc.weaken (fun _ _ _ _ => trivial), nv_call hS hFc hU hW hN⟩⟩ rfl rfl hl.1 rfl (lv_room (Nat.le_of_ble_eq_true rfl)) dX18_longOne_187 ⟨by decide +kernel, by decide +kernel⟩) hS (fun q _ h => hFc q h) hFc (fun u t H locs ht hvm hw hB hz1 hk1 hS => ?_)
  obtain ⟨hP1, -, hD1⟩ := hB
  rw [ht] at hP1
  have hP := hP1
  have hD := hD1.weaken (fun k q _ h => hFc q.1 h)
  refine W.widen (k := 0) (n := 0) (Nat.le_refl _) (Nat.le_refl _) ?_
  exact (db_X18_longOne_190 C K)  s52 _ _ _ h hP hD hS (lv_sub hl [] rfl)
set_option maxHeartbeats 40000000 in
set_option maxRecDepth 100000 in
theorem dm_X18_longOne (l : Launch) (hlt : l.stackTraces = false) (dC : Nat → ClassId) (dI : Nat → Nat → Nat) (a : Nat → Nat) (ac : Nat → ClassId) (n : Nat) (s0 : St) {r : St} (h : df_X18_longOne n s0 = some r) (sz : Nat) : Met l yX18_longOne ow_dm_X18_longOne ({ frames := 6, cells := 0, slots := 0, locals := 132 }) (va_Pc [.ref (a 0)] (fun U => U.heap.size = sz ∧ va_P (dC, dI) vwCl (dw_X18 a ac s0) U.heap ∧ va_K (dC, dI) vwCl (dk_X18 ac) U ∧ va_D (fun _ => True) (dw_X18 a ac s0) ∧ nv_E (va_A (dw_X18 a ac s0) sz) U)) (va_Qv (fun _ => True) (fun (_ : Unit) t => va_P (dC, dI) vwCl (dw_X18 a ac r) t.heap ∧ va_K (dC, dI) vwCl (dk_X18 ac) t ∧ va_D (va_A (dw_X18 a ac s0) sz) (dw_X18 a ac r)) (va_A (dw_X18 a ac s0) sz)) 0 0 (va_A (dw_X18 a ac s0) sz) := by
  refine Met.ofW (cc := cX18_longOne) (maxL := 2) (ret := none) (by decide) rfl ?_
  intro p e s m args below meth c s₁ B hml hv
  obtain ⟨rfl, hsz, hP, hK, hD0, hN⟩ := hv
  have hx := B.exec
  have hb := B.bytes
  have hr := B.returns
  have hts := atoms_spec (ws := ow_dm_X18_longOne) B.pre
  have hown : s.vm.findClass RX18 = some m.cls := findClass_of_methodNamed B.named
  have hlocks := B.notSynchronized
  subst hsz
  have hD := hD0.self (sz := s.heap.size)
  generalize hAe : va_A (dw_X18 a ac s0) s.heap.size = A at hD hN ⊢
  have hA : ∀ q : Nat, s.heap.size ≤ q → A q := fun q h => by rw [← hAe]; exact Or.inr h
  have hl := lv_entry ([.ref (a 0)]) (n := 2) (Nat.le_of_ble_eq_true rfl)
  rw [lg_entry_eq]
  generalize (lg_sl ([.ref (a 0)]) ++ List.replicate (2 - (lg_sl ([.ref (a 0)])).length) Slot.unset).toArray = ls at hl ⊢
  have hl : lv_has ls 2 [(0, .ref (a 0))] := hl
  exact db_X18_longOne_0 (dC := dC) (dI := dI) (a := a) (ac := ac) (n := n) (r := r) ⟨hlt, hx, hb, hml, hown, hts, hN, hA, hK⟩ (fun pc τ H locs ls d er hP hD hS => by subst er; exact W.vret hx hb hr (fun t ht hW => ⟨⟨(), rfl, trivial, by rw [ht]; exact hP, va_K.moved hW.alike hK, hD⟩, hS.F ht⟩) hS.2.2 d) s0 _ _ _ h hP hD va_S.rf (lv_sub hl [0] rfl)
def ow_dm_X18_six : List Cond := .code yX18_six cX18_six 1 (some .int) :: ([.methodLink RX18 172 yX18_part, .instanceMethod yX18_part, .selects RX18 yX18_part yX18_part, .initialized RX18] ++ (ow_dm_X18_part ++ []))
theorem gd_dm_X18_six : ∀ w ∈ ow_dm_X18_six, (w.onTables && w.keeps) = true ∨ ∃ ty, w = Cond.arrayClass ty := List.forall_mem_cons.mpr ⟨good_of_word rfl, List.forall_mem_append.mpr ⟨fun w h => good_of_word (List.all_eq_true.mp (by decide +kernel) w h), List.forall_mem_append.mpr ⟨gd_dm_X18_part, fun _ h => nomatch h⟩⟩⟩
theorem gi_dm_X18_six_0 : GoodIn ow_dm_X18_six (wsV RX18 172 RX18 yX18_part ow_dm_X18_part) := goodIn_app (goodIn_of _ (by decide +kernel)) (fun w h => ⟨List.mem_cons_of_mem _ (List.mem_append_right _ (List.mem_append_left _ h)), gd_dm_X18_part w h⟩)
def dj_X18_six_0 (p : Program) (l : Launch) (e : Env) (s : State) (m : MethodId) (args : Array Value) (below : List Frame) (meth : Method) (c : Code) (Q : State → Prop) (A : Nat → Prop) (dC : Nat → ClassId) (dI : Nat → Nat → Nat) (a : Nat → Nat) (ac : Nat → ClassId) (g : (St) → Option (Int32 × (St))) (r : Int32 × (St)) : Prop := ∀ (s0 : St) (H : Heap) (locs : List Loc) (ls : Array Slot), g s0 = some r → va_P (dC, dI) vwCl (dw_X18 a ac s0) H → va_D A (dw_X18 a ac s0) → va_S A s.heap H locs → lv_has ls 1 [(0, .ref (a 0))] → W p l e (headSpec ow_dm_X18_six ({ frames := 1, cells := 0, slots := 0, locals := 22 })).room s m args below meth c H locs 0 0 Q (F0 m 0 ls [])
set_option maxHeartbeats 40000000 in
set_option maxRecDepth 100000 in
theorem db_X18_six_0 {p : Program} {l : Launch} {e : Env} {s : State} {m : MethodId} {args : Array Value} {below : List Frame} {meth : Method} {c : Code} {Q : State → Prop} {A : Nat → Prop} {dC : Nat → ClassId} {dI : Nat → Nat → Nat} {a : Nat → Nat} {ac : Nat → ClassId} {n : Nat} {r : Int32 × (St)} (C : nd_C p l s m args c A (dC, dI) cX18_six 1 RX18 ow_dm_X18_six (dk_X18 ac)) (K : nd_Ki p l e (headSpec ow_dm_X18_six ({ frames := 1, cells := 0, slots := 0, locals := 22 })).room s m args below meth c Q A (dC, dI) cX18_six .int (St) (dw_X18 a ac) r) : dj_X18_six_0 p l e s m args below meth c Q A dC dI a ac (df_X18_six_0 n) r := by
  obtain ⟨hlt, hx, hb, hml, hown, hts, hN, hA, hK⟩ := id C
  intro s0 H locs ls h hP hD hS hl
  unfold df_X18_six_0 at h
  refine lv_aload_n hx hb dX18_six_0 rfl (lv_at hl 0 rfl) ?_
  refine lv_iconst (v := 2) hx hb dX18_six_1 (by decide) ?_
  refine lv_iconst (v := 5) hx hb dX18_six_2 (by decide) ?_
  obtain ⟨q1, s2, hq, h⟩ := nd_b2_e h
  have hPc := hP
  have hDc := hD
  have hKc := hK
  have hFc := nd_rs hD hS hA
  refine va_calli (va_runV (As := [.int 2, .int 5]) (rest := []) ⟨hx, hb, hml, hown, hts⟩ (dm_X18_part l hlt dC dI a ac n (2) (5) s0 hq _) (cwV 2 hts gi_dm_X18_six_0 rfl rfl rfl (by decide +kernel) ⟨Nat.le_of_ble_eq_true rfl, Nat.le_of_ble_eq_true rfl⟩) ⟨fun a U g mk q => by obtain ⟨q0, q1, qP, qK, qD, qN⟩ := q; exact ⟨q0, q1, qP, va_K.moved (u := U) (U := U.calling g mk a) (Vm.Alike.refl U.vm) qK, qD, nv_same rfl rfl qN⟩, va_recv hKc hPc (ci := 19) (q0 := 0) rfl rfl, fun U hU hW => ⟨rfl, by rw [hU], by rw [hU]; exact hPc, va_K.moved hW.alike hKc, hDc.weaken (fun _ _ _ _ => trivial), nv_call hS hFc hU hW hN⟩⟩ rfl rfl hl.1 rfl (lv_room (Nat.le_of_ble_eq_true rfl)) dX18_six_3 ⟨by decide +kernel, by decide +kernel⟩) hS (fun q _ h => hFc q h) hFc (fun r3 u t H locs ht hvm hw hB hz1 hk1 hS => ?_)
  obtain rfl : q1 = r3 := Eq.symm hw
  obtain ⟨hP1, -, hD1⟩ := hB
  rw [ht] at hP1
  have hP := hP1
  have hD := hD1.weaken (fun k q _ h => hFc q.1 h)
  refine W.widen (k := 0) (n := 0) (Nat.le_refl _) (Nat.le_refl _) ?_
  refine lv_bipush (v := 32) hx hb dX18_six_6 (by decide) ?_
  refine lv_aload_n hx hb dX18_six_8 rfl (lv_at hl 0 rfl) ?_
  refine lv_bipush (v := 12) hx hb dX18_six_9 (by decide) ?_
  refine lv_iconst (v := 1) hx hb dX18_six_11 (by decide) ?_
  obtain ⟨q4, s5, hq, h⟩ := nd_b2_e h
  have hPc := hP
  have hDc := hD
  have hKc := hK
  have hFc := nd_rs hD hS hA
  refine va_calli (va_runV (As := [.int 12, .int 1]) (rest := [.int 32, .int q1]) ⟨hx, hb, hml, hown, hts⟩ (dm_X18_part l hlt dC dI a ac n (12) (1) s2 hq _) (cwV 2 hts gi_dm_X18_six_0 rfl rfl rfl (by decide +kernel) ⟨Nat.le_of_ble_eq_true rfl, Nat.le_of_ble_eq_true rfl⟩) ⟨fun a U g mk q => by obtain ⟨q0, q1, qP, qK, qD, qN⟩ := q; exact ⟨q0, q1, qP, va_K.moved (u := U) (U := U.calling g mk a) (Vm.Alike.refl U.vm) qK, qD, nv_same rfl rfl qN⟩, va_recv hKc hPc (ci := 19) (q0 := 0) rfl rfl, fun U hU hW => ⟨rfl, by rw [hU], by rw [hU]; exact hPc, va_K.moved hW.alike hKc, hDc.weaken (fun _ _ _ _ => trivial), nv_call hS hFc hU hW hN⟩⟩ rfl rfl hl.1 rfl (lv_room (Nat.le_of_ble_eq_true rfl)) dX18_six_12 ⟨by decide +kernel, by decide +kernel⟩) hS (fun q _ h => hFc q h) hFc (fun r6 u t H locs ht hvm hw hB hz1 hk1 hS => ?_)
  obtain rfl : q4 = r6 := Eq.symm hw
  obtain ⟨hP1, -, hD1⟩ := hB
  rw [ht] at hP1
  have hP := hP1
  have hD := hD1.weaken (fun k q _ h => hFc q.1 h)
  refine W.widen (k := 0) (n := 0) (Nat.le_refl _) (Nat.le_refl _) ?_
  refine lv_imul hx hb dX18_six_15 ?_
  refine lv_isub hx hb dX18_six_16 ?_
  exact K _ _ _ _ _ _ dX18_six_17 rfl (Option.some.inj h).symm hP hD hS
set_option maxHeartbeats 40000000 in
set_option maxRecDepth 100000 in
theorem dm_X18_six (l : Launch) (hlt : l.stackTraces = false) (dC : Nat → ClassId) (dI : Nat → Nat → Nat) (a : Nat → Nat) (ac : Nat → ClassId) (n : Nat) (s0 : St) {r : Int32 × (St)} (h : df_X18_six n s0 = some r) (sz : Nat) : Met l yX18_six ow_dm_X18_six ({ frames := 1, cells := 0, slots := 0, locals := 22 }) (va_Pc [.ref (a 0)] (fun U => U.heap.size = sz ∧ va_P (dC, dI) vwCl (dw_X18 a ac s0) U.heap ∧ va_K (dC, dI) vwCl (dk_X18 ac) U ∧ va_D (fun _ => True) (dw_X18 a ac s0) ∧ nv_E (va_A (dw_X18 a ac s0) sz) U)) (va_Qi (fun x _ => x = r.1) (fun (_ : Unit) t => va_P (dC, dI) vwCl (dw_X18 a ac r.2) t.heap ∧ va_K (dC, dI) vwCl (dk_X18 ac) t ∧ va_D (va_A (dw_X18 a ac s0) sz) (dw_X18 a ac r.2)) (va_A (dw_X18 a ac s0) sz)) 0 0 (va_A (dw_X18 a ac s0) sz) := by
  refine Met.ofW (cc := cX18_six) (maxL := 1) (ret := (some .int)) (by decide) rfl ?_
  intro p e s m args below meth c s₁ B hml hv
  obtain ⟨rfl, hsz, hP, hK, hD0, hN⟩ := hv
  have hx := B.exec
  have hb := B.bytes
  have hr := B.returns
  have hts := atoms_spec (ws := ow_dm_X18_six) B.pre
  have hown : s.vm.findClass RX18 = some m.cls := findClass_of_methodNamed B.named
  have hlocks := B.notSynchronized
  subst hsz
  have hD := hD0.self (sz := s.heap.size)
  generalize hAe : va_A (dw_X18 a ac s0) s.heap.size = A at hD hN ⊢
  have hA : ∀ q : Nat, s.heap.size ≤ q → A q := fun q h => by rw [← hAe]; exact Or.inr h
  have hl := lv_entry ([.ref (a 0)]) (n := 1) (Nat.le_of_ble_eq_true rfl)
  rw [lg_entry_eq]
  generalize (lg_sl ([.ref (a 0)]) ++ List.replicate (1 - (lg_sl ([.ref (a 0)])).length) Slot.unset).toArray = ls at hl ⊢
  have hl : lv_has ls 1 [(0, .ref (a 0))] := hl
  exact db_X18_six_0 (dC := dC) (dI := dI) (a := a) (ac := ac) (n := n) (r := r) ⟨hlt, hx, hb, hml, hown, hts, hN, hA, hK⟩ (fun pc v τ H locs ls d z er hP hD hS => by subst er; exact W.zret (v := v) hx hb hr z (fun t ht hW => ⟨⟨v, (), rfl, rfl, by rw [ht]; exact hP, va_K.moved hW.alike hK, hD⟩, hS.F ht⟩) hS.2.2 d) s0 _ _ _ h hP hD va_S.rf (lv_sub hl [0] rfl)
def ow_dm_X18_first : List Cond := .code yX18_first cX18_first 5 none :: ([.methodLink RX18 172 yX18_part, .instanceMethod yX18_part, .selects RX18 yX18_part yX18_part, .initialized RX18, .fieldLink RX18 80 "TimeMachineModel$Reader" "f" "I", .constantLong RX18 259 (2004037219), .methodLink RX18 65 yX18_name, .instanceMethod yX18_name, .selects RX18 yX18_name yX18_name, .methodLink RX18 71 yX18_register, .instanceMethod yX18_register, .selects RX18 yX18_register yX18_register, .methodLink RX18 150 yX18_memory, .instanceMethod yX18_memory, .selects RX18 yX18_memory yX18_memory, .constantLong RX18 257 (2003578467), .constantLong RX18 253 (8301375893052403299), .constantLong RX18 255 (28272), .methodLink RX18 50 yX18_say, .instanceMethod yX18_say, .selects RX18 yX18_say yX18_say, .methodLink RX18 59 yX18_immediate, .instanceMethod yX18_immediate, .selects RX18 yX18_immediate yX18_immediate] ++ (u_ws RX18 TX18 10 ++ (ow_dm_X18_part ++ (ow_dm_X18_name ++ (ow_dm_X18_register ++ (ow_dm_X18_memory ++ (ow_dm_X18_say ++ (ow_dm_X18_immediate ++ []))))))))
theorem gd_dm_X18_first : ∀ w ∈ ow_dm_X18_first, (w.onTables && w.keeps) = true ∨ ∃ ty, w = Cond.arrayClass ty := List.forall_mem_cons.mpr ⟨good_of_word rfl, List.forall_mem_append.mpr ⟨fun w h => good_of_word (List.all_eq_true.mp (by decide +kernel) w h), List.forall_mem_append.mpr ⟨gu_X18, List.forall_mem_append.mpr ⟨gd_dm_X18_part, List.forall_mem_append.mpr ⟨gd_dm_X18_name, List.forall_mem_append.mpr ⟨gd_dm_X18_register, List.forall_mem_append.mpr ⟨gd_dm_X18_memory, List.forall_mem_append.mpr ⟨gd_dm_X18_say, List.forall_mem_append.mpr ⟨gd_dm_X18_immediate, fun _ h => nomatch h⟩⟩⟩⟩⟩⟩⟩⟩⟩
theorem hi_dm_X18_first_X18 : ∀ w ∈ u_ws RX18 TX18 10, w ∈ ow_dm_X18_first := fun w h => List.mem_cons_of_mem _ (List.mem_append_right _ (List.mem_append_left _ h))
theorem gi_dm_X18_first_0 : GoodIn ow_dm_X18_first (wsV RX18 172 RX18 yX18_part ow_dm_X18_part) := goodIn_app (goodIn_of _ (by decide +kernel)) (fun w h => ⟨List.mem_cons_of_mem _ (List.mem_append_right _ (List.mem_append_right _ (List.mem_append_left _ h))), gd_dm_X18_part w h⟩)
theorem gi_dm_X18_first_1 : GoodIn ow_dm_X18_first (wsV RX18 65 RX18 yX18_name ow_dm_X18_name) := goodIn_app (goodIn_of _ (by decide +kernel)) (fun w h => ⟨List.mem_cons_of_mem _ (List.mem_append_right _ (List.mem_append_right _ (List.mem_append_right _ (List.mem_append_left _ h)))), gd_dm_X18_name w h⟩)
theorem gi_dm_X18_first_2 : GoodIn ow_dm_X18_first (wsV RX18 71 RX18 yX18_register ow_dm_X18_register) := goodIn_app (goodIn_of _ (by decide +kernel)) (fun w h => ⟨List.mem_cons_of_mem _ (List.mem_append_right _ (List.mem_append_right _ (List.mem_append_right _ (List.mem_append_right _ (List.mem_append_left _ h))))), gd_dm_X18_register w h⟩)
theorem gi_dm_X18_first_3 : GoodIn ow_dm_X18_first (wsV RX18 150 RX18 yX18_memory ow_dm_X18_memory) := goodIn_app (goodIn_of _ (by decide +kernel)) (fun w h => ⟨List.mem_cons_of_mem _ (List.mem_append_right _ (List.mem_append_right _ (List.mem_append_right _ (List.mem_append_right _ (List.mem_append_right _ (List.mem_append_left _ h)))))), gd_dm_X18_memory w h⟩)
theorem gi_dm_X18_first_4 : GoodIn ow_dm_X18_first (wsV RX18 50 RX18 yX18_say ow_dm_X18_say) := goodIn_app (goodIn_of _ (by decide +kernel)) (fun w h => ⟨List.mem_cons_of_mem _ (List.mem_append_right _ (List.mem_append_right _ (List.mem_append_right _ (List.mem_append_right _ (List.mem_append_right _ (List.mem_append_right _ (List.mem_append_left _ h))))))), gd_dm_X18_say w h⟩)
theorem gi_dm_X18_first_5 : GoodIn ow_dm_X18_first (wsV RX18 59 RX18 yX18_immediate ow_dm_X18_immediate) := goodIn_app (goodIn_of _ (by decide +kernel)) (fun w h => ⟨List.mem_cons_of_mem _ (List.mem_append_right _ (List.mem_append_right _ (List.mem_append_right _ (List.mem_append_right _ (List.mem_append_right _ (List.mem_append_right _ (List.mem_append_right _ (List.mem_append_left _ h)))))))), gd_dm_X18_immediate w h⟩)
def dj_X18_first_180 (p : Program) (l : Launch) (e : Env) (s : State) (m : MethodId) (args : Array Value) (below : List Frame) (meth : Method) (c : Code) (Q : State → Prop) (A : Nat → Prop) (dC : Nat → ClassId) (dI : Nat → Nat → Nat) (a : Nat → Nat) (ac : Nat → ClassId) (g : (St) → Option (St)) (r : St) : Prop := ∀ (s0 : St) (H : Heap) (locs : List Loc) (ls : Array Slot), g s0 = some r → va_P (dC, dI) vwCl (dw_X18 a ac s0) H → va_D A (dw_X18 a ac s0) → va_S A s.heap H locs → lv_has ls 5 [] → W p l e (headSpec ow_dm_X18_first ({ frames := 5, cells := 0, slots := 0, locals := 111 })).room s m args below meth c H locs 0 0 Q (F0 m 180 ls [])
def dj_X18_first_165 (p : Program) (l : Launch) (e : Env) (s : State) (m : MethodId) (args : Array Value) (below : List Frame) (meth : Method) (c : Code) (Q : State → Prop) (A : Nat → Prop) (dC : Nat → ClassId) (dI : Nat → Nat → Nat) (a : Nat → Nat) (ac : Nat → ClassId) (g : Int32 → Int32 → Int32 → Int64 → (St) → Option (St)) (r : St) : Prop := ∀ (x1 : Int32) (x2 : Int32) (x4 : Int32) (y1 : Int64) (s0 : St) (H : Heap) (locs : List Loc) (ls : Array Slot), g x1 x2 x4 y1 s0 = some r → va_P (dC, dI) vwCl (dw_X18 a ac s0) H → va_D A (dw_X18 a ac s0) → va_S A s.heap H locs → lv_has ls 5 [(0, .ref (a 0)), (1, .int x1), (2, .int x2), (4, .int x4)] → W p l e (headSpec ow_dm_X18_first ({ frames := 5, cells := 0, slots := 0, locals := 111 })).room s m args below meth c H locs 0 0 Q (F0 m 165 ls [.long y1, .ref (a 0)])
def dj_X18_first_147 (p : Program) (l : Launch) (e : Env) (s : State) (m : MethodId) (args : Array Value) (below : List Frame) (meth : Method) (c : Code) (Q : State → Prop) (A : Nat → Prop) (dC : Nat → ClassId) (dI : Nat → Nat → Nat) (a : Nat → Nat) (ac : Nat → ClassId) (g : Int32 → Int32 → Int32 → (St) → Option (St)) (r : St) : Prop := ∀ (x1 : Int32) (x2 : Int32) (x4 : Int32) (s0 : St) (H : Heap) (locs : List Loc) (ls : Array Slot), g x1 x2 x4 s0 = some r → va_P (dC, dI) vwCl (dw_X18 a ac s0) H → va_D A (dw_X18 a ac s0) → va_S A s.heap H locs → lv_has ls 5 [(0, .ref (a 0)), (1, .int x1), (2, .int x2), (4, .int x4)] → W p l e (headSpec ow_dm_X18_first ({ frames := 5, cells := 0, slots := 0, locals := 111 })).room s m args below meth c H locs 0 0 Q (F0 m 147 ls [])
def dj_X18_first_130 (p : Program) (l : Launch) (e : Env) (s : State) (m : MethodId) (args : Array Value) (below : List Frame) (meth : Method) (c : Code) (Q : State → Prop) (A : Nat → Prop) (dC : Nat → ClassId) (dI : Nat → Nat → Nat) (a : Nat → Nat) (ac : Nat → ClassId) (g : Int32 → Int32 → Int32 → (St) → Option (St)) (r : St) : Prop := ∀ (x1 : Int32) (x2 : Int32) (x4 : Int32) (s0 : St) (H : Heap) (locs : List Loc) (ls : Array Slot), g x1 x2 x4 s0 = some r → va_P (dC, dI) vwCl (dw_X18 a ac s0) H → va_D A (dw_X18 a ac s0) → va_S A s.heap H locs → lv_has ls 5 [(0, .ref (a 0)), (1, .int x1), (2, .int x2), (4, .int x4)] → W p l e (headSpec ow_dm_X18_first ({ frames := 5, cells := 0, slots := 0, locals := 111 })).room s m args below meth c H locs 0 0 Q (F0 m 130 ls [])
def dj_X18_first_0 (p : Program) (l : Launch) (e : Env) (s : State) (m : MethodId) (args : Array Value) (below : List Frame) (meth : Method) (c : Code) (Q : State → Prop) (A : Nat → Prop) (dC : Nat → ClassId) (dI : Nat → Nat → Nat) (a : Nat → Nat) (ac : Nat → ClassId) (g : (St) → Option (St)) (r : St) : Prop := ∀ (s0 : St) (H : Heap) (locs : List Loc) (ls : Array Slot), g s0 = some r → va_P (dC, dI) vwCl (dw_X18 a ac s0) H → va_D A (dw_X18 a ac s0) → va_S A s.heap H locs → lv_has ls 5 [(0, .ref (a 0))] → W p l e (headSpec ow_dm_X18_first ({ frames := 5, cells := 0, slots := 0, locals := 111 })).room s m args below meth c H locs 0 0 Q (F0 m 0 ls [])
set_option maxHeartbeats 40000000 in
set_option maxRecDepth 100000 in
theorem db_X18_first_180 {p : Program} {l : Launch} {e : Env} {s : State} {m : MethodId} {args : Array Value} {below : List Frame} {meth : Method} {c : Code} {Q : State → Prop} {A : Nat → Prop} {dC : Nat → ClassId} {dI : Nat → Nat → Nat} {a : Nat → Nat} {ac : Nat → ClassId} {n : Nat} {r : St} (C : nd_C p l s m args c A (dC, dI) cX18_first 5 RX18 ow_dm_X18_first (dk_X18 ac)) (K : nd_Kv p l e (headSpec ow_dm_X18_first ({ frames := 5, cells := 0, slots := 0, locals := 111 })).room s m args below meth c Q A (dC, dI) cX18_first (St) (dw_X18 a ac) r) : dj_X18_first_180 p l e s m args below meth c Q A dC dI a ac (df_X18_first_180 n) r := by
  obtain ⟨hlt, hx, hb, hml, hown, hts, hN, hA, hK⟩ := id C
  intro s0 H locs ls h hP hD hS hl
  unfold df_X18_first_180 at h
  exact K _ _ _ _ _ dX18_first_180 (Option.some.inj h).symm hP hD hS
set_option maxHeartbeats 40000000 in
set_option maxRecDepth 100000 in
theorem db_X18_first_165 {p : Program} {l : Launch} {e : Env} {s : State} {m : MethodId} {args : Array Value} {below : List Frame} {meth : Method} {c : Code} {Q : State → Prop} {A : Nat → Prop} {dC : Nat → ClassId} {dI : Nat → Nat → Nat} {a : Nat → Nat} {ac : Nat → ClassId} {n : Nat} {r : St} (C : nd_C p l s m args c A (dC, dI) cX18_first 5 RX18 ow_dm_X18_first (dk_X18 ac)) (K : nd_Kv p l e (headSpec ow_dm_X18_first ({ frames := 5, cells := 0, slots := 0, locals := 111 })).room s m args below meth c Q A (dC, dI) cX18_first (St) (dw_X18 a ac) r) : dj_X18_first_165 p l e s m args below meth c Q A dC dI a ac (df_X18_first_165 n) r := by
  obtain ⟨hlt, hx, hb, hml, hown, hts, hN, hA, hK⟩ := id C
  intro x1 x2 x4 y1 s0 H locs ls h hP hD hS hl
  unfold df_X18_first_165 at h
  obtain ⟨s36, hq, h⟩ := nd_b1_e h
  have hPc := hP
  have hDc := hD
  have hKc := hK
  have hFc := nd_rs hD hS hA
  refine va_callv (va_runV (As := [.long y1]) (rest := []) ⟨hx, hb, hml, hown, hts⟩ (dm_X18_name l hlt dC dI a ac n (y1) s0 hq _) (cwV 1 hts gi_dm_X18_first_1 rfl rfl rfl (by decide +kernel) ⟨Nat.le_of_ble_eq_true rfl, Nat.le_of_ble_eq_true rfl⟩) ⟨fun a U g mk q => by obtain ⟨q0, q1, qP, qK, qD, qN⟩ := q; exact ⟨q0, q1, qP, va_K.moved (u := U) (U := U.calling g mk a) (Vm.Alike.refl U.vm) qK, qD, nv_same rfl rfl qN⟩, va_recv hKc hPc (ci := 19) (q0 := 0) rfl rfl, fun U hU hW => ⟨rfl, by rw [hU], by rw [hU]; exact hPc, va_K.moved hW.alike hKc, hDc.weaken (fun _ _ _ _ => trivial), nv_call hS hFc hU hW hN⟩⟩ rfl rfl hl.1 rfl (lv_room (Nat.le_of_ble_eq_true rfl)) dX18_first_165 ⟨by decide +kernel, by decide +kernel⟩) hS (fun q _ h => hFc q h) hFc (fun u t H locs ht hvm hw hB hz1 hk1 hS => ?_)
  obtain ⟨hP1, -, hD1⟩ := hB
  rw [ht] at hP1
  have hP := hP1
  have hD := hD1.weaken (fun k q _ h => hFc q.1 h)
  refine W.widen (k := 0) (n := 0) (Nat.le_refl _) (Nat.le_refl _) ?_
  refine lv_aload_n hx hb dX18_first_168 rfl (lv_at hl 0 rfl) ?_
  refine lv_iload_n hx hb dX18_first_169 rfl (lv_at hl 1 rfl) ?_
  obtain ⟨s39, hq, h⟩ := nd_b1_e h
  have hPc := hP
  have hDc := hD
  have hKc := hK
  have hFc := nd_rs hD hS hA
  refine va_callv (va_runV (As := [.int x1]) (rest := []) ⟨hx, hb, hml, hown, hts⟩ (dm_X18_register l hlt dC dI a ac n (x1) s36 hq _) (cwV 1 hts gi_dm_X18_first_2 rfl rfl rfl (by decide +kernel) ⟨Nat.le_of_ble_eq_true rfl, Nat.le_of_ble_eq_true rfl⟩) ⟨fun a U g mk q => by obtain ⟨q0, q1, qP, qK, qD, qN⟩ := q; exact ⟨q0, q1, qP, va_K.moved (u := U) (U := U.calling g mk a) (Vm.Alike.refl U.vm) qK, qD, nv_same rfl rfl qN⟩, va_recv hKc hPc (ci := 19) (q0 := 0) rfl rfl, fun U hU hW => ⟨rfl, by rw [hU], by rw [hU]; exact hPc, va_K.moved hW.alike hKc, hDc.weaken (fun _ _ _ _ => trivial), nv_call hS hFc hU hW hN⟩⟩ rfl rfl hl.1 rfl (lv_room (Nat.le_of_ble_eq_true rfl)) dX18_first_170 ⟨by decide +kernel, by decide +kernel⟩) hS (fun q _ h => hFc q h) hFc (fun u t H locs ht hvm hw hB hz1 hk1 hS => ?_)
  obtain ⟨hP1, -, hD1⟩ := hB
  rw [ht] at hP1
  have hP := hP1
  have hD := hD1.weaken (fun k q _ h => hFc q.1 h)
  refine W.widen (k := 0) (n := 0) (Nat.le_refl _) (Nat.le_refl _) ?_
  refine lv_aload_n hx hb dX18_first_173 rfl (lv_at hl 0 rfl) ?_
  refine lv_iload hx hb dX18_first_174 (lv_at hl 3 rfl) ?_
  refine lv_iload_n hx hb dX18_first_176 rfl (lv_at hl 2 rfl) ?_
  obtain ⟨s42, hq, h⟩ := nd_b1_e h
  have hPc := hP
  have hDc := hD
  have hKc := hK
  have hFc := nd_rs hD hS hA
  refine va_callv (va_runV (As := [.int x4, .int x2]) (rest := []) ⟨hx, hb, hml, hown, hts⟩ (dm_X18_memory l hlt dC dI a ac n (x4) (x2) s39 hq _) (cwV 2 hts gi_dm_X18_first_3 rfl rfl rfl (by decide +kernel) ⟨Nat.le_of_ble_eq_true rfl, Nat.le_of_ble_eq_true rfl⟩) ⟨fun a U g mk q => by obtain ⟨q0, q1, qP, qK, qD, qN⟩ := q; exact ⟨q0, q1, qP, va_K.moved (u := U) (U := U.calling g mk a) (Vm.Alike.refl U.vm) qK, qD, nv_same rfl rfl qN⟩, va_recv hKc hPc (ci := 19) (q0 := 0) rfl rfl, fun U hU hW => ⟨rfl, by rw [hU], by rw [hU]; exact hPc, va_K.moved hW.alike hKc, hDc.weaken (fun _ _ _ _ => trivial), nv_call hS hFc hU hW hN⟩⟩ rfl rfl hl.1 rfl (lv_room (Nat.le_of_ble_eq_true rfl)) dX18_first_177 ⟨by decide +kernel, by decide +kernel⟩) hS (fun q _ h => hFc q h) hFc (fun u t H locs ht hvm hw hB hz1 hk1 hS => ?_)
  obtain ⟨hP1, -, hD1⟩ := hB
  rw [ht] at hP1
  have hP := hP1
  have hD := hD1.weaken (fun k q _ h => hFc q.1 h)
  refine W.widen (k := 0) (n := 0) (Nat.le_refl _) (Nat.le_refl _) ?_
  exact (db_X18_first_180 C K)  s42 _ _ _ h hP hD hS (lv_sub hl [] rfl)
set_option maxHeartbeats 40000000 in
set_option maxRecDepth 100000 in
theorem db_X18_first_147 {p : Program} {l : Launch} {e : Env} {s : State} {m : MethodId} {args : Array Value} {below : List Frame} {meth : Method} {c : Code} {Q : State → Prop} {A : Nat → Prop} {dC : Nat → ClassId} {dI : Nat → Nat → Nat} {a : Nat → Nat} {ac : Nat → ClassId} {n : Nat} {r : St} (C : nd_C p l s m args c A (dC, dI) cX18_first 5 RX18 ow_dm_X18_first (dk_X18 ac)) (K : nd_Kv p l e (headSpec ow_dm_X18_first ({ frames := 5, cells := 0, slots := 0, locals := 111 })).room s m args below meth c Q A (dC, dI) cX18_first (St) (dw_X18 a ac) r) : dj_X18_first_147 p l e s m args below meth c Q A dC dI a ac (df_X18_first_147 n) r := by
  obtain ⟨hlt, hx, hb, hml, hown, hts, hN, hA, hK⟩ := id C
  intro x1 x2 x4 s0 H locs ls h hP hD hS hl
  unfold df_X18_first_147 at h
  refine lv_aload_n hx hb dX18_first_147 rfl (lv_at hl 0 rfl) ?_
  refine lv_aload_n hx hb dX18_first_148 rfl (lv_at hl 0 rfl) ?_
  refine va_get (D := (dC, dI)) (ci := 19) (v := .int (sI s0 7)) (C := RX18) (T := TX18) (N := 10) hx hb hts hi_dm_X18_first_X18 hown hK hP 0 rfl rfl 8 (by decide) (hts (.fieldLink RX18 80 "TimeMachineModel$Reader" "f" "I") (List.mem_of_getElem? (i := 5) rfl)) (fun _ h9 => h9) rfl dX18_first_149 ?_
  refine lv_iconst (v := 2) hx hb dX18_first_152 (by decide) ?_
  refine lv_icmp_ne (tgt := 162) hx hb dX18_first_153 (by decide) (fun c34 => ?_) (fun c34 => ?_)
  · have h := nd_neg h c34
    refine lv_ldc2 hx hb hown (hts (.constantLong RX18 259 (2004037219)) (List.mem_of_getElem? (i := 6) rfl)) dX18_first_162 ?_
    exact (db_X18_first_165 C K) (x1) (x2) (x4) (2004037219) s0 _ _ _ h hP hD hS (lv_sub hl [0, 1, 2, 3] rfl)
  · have h := nd_pos h c34
    refine lv_ldc2 hx hb hown (hts (.constantLong RX18 257 (2003578467)) (List.mem_of_getElem? (i := 16) rfl)) dX18_first_156 ?_
    refine lv_goto (tgt := 165) hx hb dX18_first_159 (by decide) ?_
    exact (db_X18_first_165 C K) (x1) (x2) (x4) (2003578467) s0 _ _ _ h hP hD hS (lv_sub hl [0, 1, 2, 3] rfl)
set_option maxHeartbeats 40000000 in
set_option maxRecDepth 100000 in
theorem db_X18_first_130 {p : Program} {l : Launch} {e : Env} {s : State} {m : MethodId} {args : Array Value} {below : List Frame} {meth : Method} {c : Code} {Q : State → Prop} {A : Nat → Prop} {dC : Nat → ClassId} {dI : Nat → Nat → Nat} {a : Nat → Nat} {ac : Nat → ClassId} {n : Nat} {r : St} (C : nd_C p l s m args c A (dC, dI) cX18_first 5 RX18 ow_dm_X18_first (dk_X18 ac)) (K : nd_Kv p l e (headSpec ow_dm_X18_first ({ frames := 5, cells := 0, slots := 0, locals := 111 })).room s m args below meth c Q A (dC, dI) cX18_first (St) (dw_X18 a ac) r) : dj_X18_first_130 p l e s m args below meth c Q A dC dI a ac (df_X18_first_130 n) r := by
  obtain ⟨hlt, hx, hb, hml, hown, hts, hN, hA, hK⟩ := id C
  intro x1 x2 x4 s0 H locs ls h hP hD hS hl
  unfold df_X18_first_130 at h
  refine lv_aload_n hx hb dX18_first_130 rfl (lv_at hl 0 rfl) ?_
  refine va_get (D := (dC, dI)) (ci := 19) (v := .int (sI s0 7)) (C := RX18) (T := TX18) (N := 10) hx hb hts hi_dm_X18_first_X18 hown hK hP 0 rfl rfl 8 (by decide) (hts (.fieldLink RX18 80 "TimeMachineModel$Reader" "f" "I") (List.mem_of_getElem? (i := 5) rfl)) (fun _ h9 => h9) rfl dX18_first_131 ?_
  refine lv_iconst (v := 2) hx hb dX18_first_134 (by decide) ?_
  refine lv_icmp_eq (tgt := 147) hx hb dX18_first_135 (by decide) (fun c33 => ?_) (fun c33 => ?_)
  · have h := nd_pos h c33
    exact (db_X18_first_147 C K) (x1) (x2) (x4) s0 _ _ _ h hP hD hS (lv_sub hl [0, 1, 2, 3] rfl)
  · have h := nd_neg h c33
    refine lv_aload_n hx hb dX18_first_138 rfl (lv_at hl 0 rfl) ?_
    refine va_get (D := (dC, dI)) (ci := 19) (v := .int (sI s0 7)) (C := RX18) (T := TX18) (N := 10) hx hb hts hi_dm_X18_first_X18 hown hK hP 0 rfl rfl 8 (by decide) (hts (.fieldLink RX18 80 "TimeMachineModel$Reader" "f" "I") (List.mem_of_getElem? (i := 5) rfl)) (fun _ h9 => h9) rfl dX18_first_139 ?_
    refine lv_bipush (v := 6) hx hb dX18_first_142 (by decide) ?_
    refine lv_icmp_ne (tgt := 180) hx hb dX18_first_144 (by decide) (fun c44 => ?_) (fun c44 => ?_)
    · have h := nd_neg h c44
      exact (db_X18_first_180 C K)  s0 _ _ _ h hP hD hS (lv_sub hl [] rfl)
    · have h := nd_pos h c44
      exact (db_X18_first_147 C K) (x1) (x2) (x4) s0 _ _ _ h hP hD hS (lv_sub hl [0, 1, 2, 3] rfl)
set_option maxHeartbeats 40000000 in
set_option maxRecDepth 100000 in
theorem db_X18_first_0 {p : Program} {l : Launch} {e : Env} {s : State} {m : MethodId} {args : Array Value} {below : List Frame} {meth : Method} {c : Code} {Q : State → Prop} {A : Nat → Prop} {dC : Nat → ClassId} {dI : Nat → Nat → Nat} {a : Nat → Nat} {ac : Nat → ClassId} {n : Nat} {r : St} (C : nd_C p l s m args c A (dC, dI) cX18_first 5 RX18 ow_dm_X18_first (dk_X18 ac)) (K : nd_Kv p l e (headSpec ow_dm_X18_first ({ frames := 5, cells := 0, slots := 0, locals := 111 })).room s m args below meth c Q A (dC, dI) cX18_first (St) (dw_X18 a ac) r) : dj_X18_first_0 p l e s m args below meth c Q A dC dI a ac (df_X18_first_0 n) r := by
  obtain ⟨hlt, hx, hb, hml, hown, hts, hN, hA, hK⟩ := id C
  intro s0 H locs ls h hP hD hS hl
  unfold df_X18_first_0 at h
  refine lv_bipush (v := 8) hx hb dX18_first_0 (by decide) ?_
  refine lv_aload_n hx hb dX18_first_2 rfl (lv_at hl 0 rfl) ?_
  refine lv_iconst (v := 2) hx hb dX18_first_3 (by decide) ?_
  refine lv_iconst (v := 3) hx hb dX18_first_4 (by decide) ?_
  obtain ⟨q1, s2, hq, h⟩ := nd_b2_e h
  have hPc := hP
  have hDc := hD
  have hKc := hK
  have hFc := nd_rs hD hS hA
  refine va_calli (va_runV (As := [.int 2, .int 3]) (rest := [.int 8]) ⟨hx, hb, hml, hown, hts⟩ (dm_X18_part l hlt dC dI a ac n (2) (3) s0 hq _) (cwV 2 hts gi_dm_X18_first_0 rfl rfl rfl (by decide +kernel) ⟨Nat.le_of_ble_eq_true rfl, Nat.le_of_ble_eq_true rfl⟩) ⟨fun a U g mk q => by obtain ⟨q0, q1, qP, qK, qD, qN⟩ := q; exact ⟨q0, q1, qP, va_K.moved (u := U) (U := U.calling g mk a) (Vm.Alike.refl U.vm) qK, qD, nv_same rfl rfl qN⟩, va_recv hKc hPc (ci := 19) (q0 := 0) rfl rfl, fun U hU hW => ⟨rfl, by rw [hU], by rw [hU]; exact hPc, va_K.moved hW.alike hKc, hDc.weaken (fun _ _ _ _ => trivial), nv_call hS hFc hU hW hN⟩⟩ rfl rfl hl.1 rfl (lv_room (Nat.le_of_ble_eq_true rfl)) dX18_first_5 ⟨by decide +kernel, by decide +kernel⟩) hS (fun q _ h => hFc q h) hFc (fun r3 u t H locs ht hvm hw hB hz1 hk1 hS => ?_)
  obtain rfl : q1 = r3 := Eq.symm hw
  obtain ⟨hP1, -, hD1⟩ := hB
  rw [ht] at hP1
  have hP := hP1
  have hD := hD1.weaken (fun k q _ h => hFc q.1 h)
  refine W.widen (k := 0) (n := 0) (Nat.le_refl _) (Nat.le_refl _) ?_
  refine lv_iadd hx hb dX18_first_8 ?_
  refine lv_topi (fun z4 ez4 => ?_)
  have h := nd_at h ez4
  refine lv_istore_n (lv' := [(1, .int z4), (0, .ref (a 0))]) hx hb dX18_first_9 rfl hl (by decide) rfl (fun ls hl => ?_)
  refine lv_bipush (v := 8) hx hb dX18_first_10 (by decide) ?_
  refine lv_aload_n hx hb dX18_first_12 rfl (lv_at hl 1 rfl) ?_
  refine lv_bipush (v := 7) hx hb dX18_first_13 (by decide) ?_
  refine lv_iconst (v := 3) hx hb dX18_first_15 (by decide) ?_
  obtain ⟨q5, s6, hq, h⟩ := nd_b2_e h
  have hPc := hP
  have hDc := hD
  have hKc := hK
  have hFc := nd_rs hD hS hA
  refine va_calli (va_runV (As := [.int 7, .int 3]) (rest := [.int 8]) ⟨hx, hb, hml, hown, hts⟩ (dm_X18_part l hlt dC dI a ac n (7) (3) s2 hq _) (cwV 2 hts gi_dm_X18_first_0 rfl rfl rfl (by decide +kernel) ⟨Nat.le_of_ble_eq_true rfl, Nat.le_of_ble_eq_true rfl⟩) ⟨fun a U g mk q => by obtain ⟨q0, q1, qP, qK, qD, qN⟩ := q; exact ⟨q0, q1, qP, va_K.moved (u := U) (U := U.calling g mk a) (Vm.Alike.refl U.vm) qK, qD, nv_same rfl rfl qN⟩, va_recv hKc hPc (ci := 19) (q0 := 0) rfl rfl, fun U hU hW => ⟨rfl, by rw [hU], by rw [hU]; exact hPc, va_K.moved hW.alike hKc, hDc.weaken (fun _ _ _ _ => trivial), nv_call hS hFc hU hW hN⟩⟩ rfl rfl hl.1 rfl (lv_room (Nat.le_of_ble_eq_true rfl)) dX18_first_16 ⟨by decide +kernel, by decide +kernel⟩) hS (fun q _ h => hFc q h) hFc (fun r7 u t H locs ht hvm hw hB hz1 hk1 hS => ?_)
  obtain rfl : q5 = r7 := Eq.symm hw
  obtain ⟨hP1, -, hD1⟩ := hB
  rw [ht] at hP1
  have hP := hP1
  have hD := hD1.weaken (fun k q _ h => hFc q.1 h)
  refine W.widen (k := 0) (n := 0) (Nat.le_refl _) (Nat.le_refl _) ?_
  refine lv_iadd hx hb dX18_first_19 ?_
  refine lv_topi (fun z8 ez8 => ?_)
  have h := nd_at h ez8
  refine lv_istore_n (lv' := [(2, .int z8), (1, .int z4), (0, .ref (a 0))]) hx hb dX18_first_20 rfl hl (by decide) rfl (fun ls hl => ?_)
  refine lv_aload_n hx hb dX18_first_21 rfl (lv_at hl 2 rfl) ?_
  refine lv_bipush (v := 11) hx hb dX18_first_22 (by decide) ?_
  refine lv_iconst (v := 2) hx hb dX18_first_24 (by decide) ?_
  obtain ⟨q9, s10, hq, h⟩ := nd_b2_e h
  have hPc := hP
  have hDc := hD
  have hKc := hK
  have hFc := nd_rs hD hS hA
  refine va_calli (va_runV (As := [.int 11, .int 2]) (rest := []) ⟨hx, hb, hml, hown, hts⟩ (dm_X18_part l hlt dC dI a ac n (11) (2) s6 hq _) (cwV 2 hts gi_dm_X18_first_0 rfl rfl rfl (by decide +kernel) ⟨Nat.le_of_ble_eq_true rfl, Nat.le_of_ble_eq_true rfl⟩) ⟨fun a U g mk q => by obtain ⟨q0, q1, qP, qK, qD, qN⟩ := q; exact ⟨q0, q1, qP, va_K.moved (u := U) (U := U.calling g mk a) (Vm.Alike.refl U.vm) qK, qD, nv_same rfl rfl qN⟩, va_recv hKc hPc (ci := 19) (q0 := 0) rfl rfl, fun U hU hW => ⟨rfl, by rw [hU], by rw [hU]; exact hPc, va_K.moved hW.alike hKc, hDc.weaken (fun _ _ _ _ => trivial), nv_call hS hFc hU hW hN⟩⟩ rfl rfl hl.1 rfl (lv_room (Nat.le_of_ble_eq_true rfl)) dX18_first_25 ⟨by decide +kernel, by decide +kernel⟩) hS (fun q _ h => hFc q h) hFc (fun r11 u t H locs ht hvm hw hB hz1 hk1 hS => ?_)
  obtain rfl : q9 = r11 := Eq.symm hw
  obtain ⟨hP1, -, hD1⟩ := hB
  rw [ht] at hP1
  have hP := hP1
  have hD := hD1.weaken (fun k q _ h => hFc q.1 h)
  refine W.widen (k := 0) (n := 0) (Nat.le_refl _) (Nat.le_refl _) ?_
  refine lv_iconst (v := 4) hx hb dX18_first_28 (by decide) ?_
  refine lv_ishl hx hb dX18_first_29 ?_
  refine lv_aload_n hx hb dX18_first_30 rfl (lv_at hl 2 rfl) ?_
  refine lv_bipush (v := 7) hx hb dX18_first_31 (by decide) ?_
  refine lv_iconst (v := 4) hx hb dX18_first_33 (by decide) ?_
  obtain ⟨q12, s13, hq, h⟩ := nd_b2_e h
  have hPc := hP
  have hDc := hD
  have hKc := hK
  have hFc := nd_rs hD hS hA
  refine va_calli (va_runV (As := [.int 7, .int 4]) (rest := [.int ((q9 : Int32) <<< ((4 : Int32) &&& 31))]) ⟨hx, hb, hml, hown, hts⟩ (dm_X18_part l hlt dC dI a ac n (7) (4) s10 hq _) (cwV 2 hts gi_dm_X18_first_0 rfl rfl rfl (by decide +kernel) ⟨Nat.le_of_ble_eq_true rfl, Nat.le_of_ble_eq_true rfl⟩) ⟨fun a U g mk q => by obtain ⟨q0, q1, qP, qK, qD, qN⟩ := q; exact ⟨q0, q1, qP, va_K.moved (u := U) (U := U.calling g mk a) (Vm.Alike.refl U.vm) qK, qD, nv_same rfl rfl qN⟩, va_recv hKc hPc (ci := 19) (q0 := 0) rfl rfl, fun U hU hW => ⟨rfl, by rw [hU], by rw [hU]; exact hPc, va_K.moved hW.alike hKc, hDc.weaken (fun _ _ _ _ => trivial), nv_call hS hFc hU hW hN⟩⟩ rfl rfl hl.1 rfl (lv_room (Nat.le_of_ble_eq_true rfl)) dX18_first_34 ⟨by decide +kernel, by decide +kernel⟩) hS (fun q _ h => hFc q h) hFc (fun r14 u t H locs ht hvm hw hB hz1 hk1 hS => ?_)
  obtain rfl : q12 = r14 := Eq.symm hw
  obtain ⟨hP1, -, hD1⟩ := hB
  rw [ht] at hP1
  have hP := hP1
  have hD := hD1.weaken (fun k q _ h => hFc q.1 h)
  refine W.widen (k := 0) (n := 0) (Nat.le_refl _) (Nat.le_refl _) ?_
  refine lv_bipush (v := 6) hx hb dX18_first_37 (by decide) ?_
  refine lv_ishl hx hb dX18_first_39 ?_
  refine lv_ior hx hb dX18_first_40 ?_
  refine lv_aload_n hx hb dX18_first_41 rfl (lv_at hl 2 rfl) ?_
  refine lv_bipush (v := 6) hx hb dX18_first_42 (by decide) ?_
  refine lv_iconst (v := 1) hx hb dX18_first_44 (by decide) ?_
  obtain ⟨q15, s16, hq, h⟩ := nd_b2_e h
  have hPc := hP
  have hDc := hD
  have hKc := hK
  have hFc := nd_rs hD hS hA
  refine va_calli (va_runV (As := [.int 6, .int 1]) (rest := [.int (((q9 : Int32) <<< ((4 : Int32) &&& 31)) ||| ((q12 : Int32) <<< ((6 : Int32) &&& 31)))]) ⟨hx, hb, hml, hown, hts⟩ (dm_X18_part l hlt dC dI a ac n (6) (1) s13 hq _) (cwV 2 hts gi_dm_X18_first_0 rfl rfl rfl (by decide +kernel) ⟨Nat.le_of_ble_eq_true rfl, Nat.le_of_ble_eq_true rfl⟩) ⟨fun a U g mk q => by obtain ⟨q0, q1, qP, qK, qD, qN⟩ := q; exact ⟨q0, q1, qP, va_K.moved (u := U) (U := U.calling g mk a) (Vm.Alike.refl U.vm) qK, qD, nv_same rfl rfl qN⟩, va_recv hKc hPc (ci := 19) (q0 := 0) rfl rfl, fun U hU hW => ⟨rfl, by rw [hU], by rw [hU]; exact hPc, va_K.moved hW.alike hKc, hDc.weaken (fun _ _ _ _ => trivial), nv_call hS hFc hU hW hN⟩⟩ rfl rfl hl.1 rfl (lv_room (Nat.le_of_ble_eq_true rfl)) dX18_first_45 ⟨by decide +kernel, by decide +kernel⟩) hS (fun q _ h => hFc q h) hFc (fun r17 u t H locs ht hvm hw hB hz1 hk1 hS => ?_)
  obtain rfl : q15 = r17 := Eq.symm hw
  obtain ⟨hP1, -, hD1⟩ := hB
  rw [ht] at hP1
  have hP := hP1
  have hD := hD1.weaken (fun k q _ h => hFc q.1 h)
  refine W.widen (k := 0) (n := 0) (Nat.le_refl _) (Nat.le_refl _) ?_
  refine lv_iconst (v := 2) hx hb dX18_first_48 (by decide) ?_
  refine lv_ishl hx hb dX18_first_49 ?_
  refine lv_ior hx hb dX18_first_50 ?_
  refine lv_aload_n hx hb dX18_first_51 rfl (lv_at hl 2 rfl) ?_
  refine lv_iconst (v := 5) hx hb dX18_first_52 (by decide) ?_
  refine lv_iconst (v := 1) hx hb dX18_first_53 (by decide) ?_
  obtain ⟨q18, s19, hq, h⟩ := nd_b2_e h
  have hPc := hP
  have hDc := hD
  have hKc := hK
  have hFc := nd_rs hD hS hA
  refine va_calli (va_runV (As := [.int 5, .int 1]) (rest := [.int ((((q9 : Int32) <<< ((4 : Int32) &&& 31)) ||| ((q12 : Int32) <<< ((6 : Int32) &&& 31))) ||| ((q15 : Int32) <<< ((2 : Int32) &&& 31)))]) ⟨hx, hb, hml, hown, hts⟩ (dm_X18_part l hlt dC dI a ac n (5) (1) s16 hq _) (cwV 2 hts gi_dm_X18_first_0 rfl rfl rfl (by decide +kernel) ⟨Nat.le_of_ble_eq_true rfl, Nat.le_of_ble_eq_true rfl⟩) ⟨fun a U g mk q => by obtain ⟨q0, q1, qP, qK, qD, qN⟩ := q; exact ⟨q0, q1, qP, va_K.moved (u := U) (U := U.calling g mk a) (Vm.Alike.refl U.vm) qK, qD, nv_same rfl rfl qN⟩, va_recv hKc hPc (ci := 19) (q0 := 0) rfl rfl, fun U hU hW => ⟨rfl, by rw [hU], by rw [hU]; exact hPc, va_K.moved hW.alike hKc, hDc.weaken (fun _ _ _ _ => trivial), nv_call hS hFc hU hW hN⟩⟩ rfl rfl hl.1 rfl (lv_room (Nat.le_of_ble_eq_true rfl)) dX18_first_54 ⟨by decide +kernel, by decide +kernel⟩) hS (fun q _ h => hFc q h) hFc (fun r20 u t H locs ht hvm hw hB hz1 hk1 hS => ?_)
  obtain rfl : q18 = r20 := Eq.symm hw
  obtain ⟨hP1, -, hD1⟩ := hB
  rw [ht] at hP1
  have hP := hP1
  have hD := hD1.weaken (fun k q _ h => hFc q.1 h)
  refine W.widen (k := 0) (n := 0) (Nat.le_refl _) (Nat.le_refl _) ?_
  refine lv_iconst (v := 3) hx hb dX18_first_57 (by decide) ?_
  refine lv_ishl hx hb dX18_first_58 ?_
  refine lv_ior hx hb dX18_first_59 ?_
  refine lv_topi (fun z21 ez21 => ?_)
  have h := nd_at h ez21
  refine lv_istore_n (lv' := [(3, .int z21), (2, .int z8), (1, .int z4), (0, .ref (a 0))]) hx hb dX18_first_60 rfl hl (by decide) rfl (fun ls hl => ?_)
  refine lv_aload_n hx hb dX18_first_61 rfl (lv_at hl 3 rfl) ?_
  refine lv_bipush (v := 10) hx hb dX18_first_62 (by decide) ?_
  refine lv_iconst (v := 3) hx hb dX18_first_64 (by decide) ?_
  obtain ⟨q22, s23, hq, h⟩ := nd_b2_e h
  have hPc := hP
  have hDc := hD
  have hKc := hK
  have hFc := nd_rs hD hS hA
  refine va_calli (va_runV (As := [.int 10, .int 3]) (rest := []) ⟨hx, hb, hml, hown, hts⟩ (dm_X18_part l hlt dC dI a ac n (10) (3) s19 hq _) (cwV 2 hts gi_dm_X18_first_0 rfl rfl rfl (by decide +kernel) ⟨Nat.le_of_ble_eq_true rfl, Nat.le_of_ble_eq_true rfl⟩) ⟨fun a U g mk q => by obtain ⟨q0, q1, qP, qK, qD, qN⟩ := q; exact ⟨q0, q1, qP, va_K.moved (u := U) (U := U.calling g mk a) (Vm.Alike.refl U.vm) qK, qD, nv_same rfl rfl qN⟩, va_recv hKc hPc (ci := 19) (q0 := 0) rfl rfl, fun U hU hW => ⟨rfl, by rw [hU], by rw [hU]; exact hPc, va_K.moved hW.alike hKc, hDc.weaken (fun _ _ _ _ => trivial), nv_call hS hFc hU hW hN⟩⟩ rfl rfl hl.1 rfl (lv_room (Nat.le_of_ble_eq_true rfl)) dX18_first_65 ⟨by decide +kernel, by decide +kernel⟩) hS (fun q _ h => hFc q h) hFc (fun r24 u t H locs ht hvm hw hB hz1 hk1 hS => ?_)
  obtain rfl : q22 = r24 := Eq.symm hw
  obtain ⟨hP1, -, hD1⟩ := hB
  rw [ht] at hP1
  have hP := hP1
  have hD := hD1.weaken (fun k q _ h => hFc q.1 h)
  refine W.widen (k := 0) (n := 0) (Nat.le_refl _) (Nat.le_refl _) ?_
  refine lv_iconst (v := 3) hx hb dX18_first_68 (by decide) ?_
  refine lv_ishl hx hb dX18_first_69 ?_
  refine lv_aload_n hx hb dX18_first_70 rfl (lv_at hl 3 rfl) ?_
  refine lv_bipush (v := 6) hx hb dX18_first_71 (by decide) ?_
  refine lv_iconst (v := 1) hx hb dX18_first_73 (by decide) ?_
  obtain ⟨q25, s26, hq, h⟩ := nd_b2_e h
  have hPc := hP
  have hDc := hD
  have hKc := hK
  have hFc := nd_rs hD hS hA
  refine va_calli (va_runV (As := [.int 6, .int 1]) (rest := [.int ((q22 : Int32) <<< ((3 : Int32) &&& 31))]) ⟨hx, hb, hml, hown, hts⟩ (dm_X18_part l hlt dC dI a ac n (6) (1) s23 hq _) (cwV 2 hts gi_dm_X18_first_0 rfl rfl rfl (by decide +kernel) ⟨Nat.le_of_ble_eq_true rfl, Nat.le_of_ble_eq_true rfl⟩) ⟨fun a U g mk q => by obtain ⟨q0, q1, qP, qK, qD, qN⟩ := q; exact ⟨q0, q1, qP, va_K.moved (u := U) (U := U.calling g mk a) (Vm.Alike.refl U.vm) qK, qD, nv_same rfl rfl qN⟩, va_recv hKc hPc (ci := 19) (q0 := 0) rfl rfl, fun U hU hW => ⟨rfl, by rw [hU], by rw [hU]; exact hPc, va_K.moved hW.alike hKc, hDc.weaken (fun _ _ _ _ => trivial), nv_call hS hFc hU hW hN⟩⟩ rfl rfl hl.1 rfl (lv_room (Nat.le_of_ble_eq_true rfl)) dX18_first_74 ⟨by decide +kernel, by decide +kernel⟩) hS (fun q _ h => hFc q h) hFc (fun r27 u t H locs ht hvm hw hB hz1 hk1 hS => ?_)
  obtain rfl : q25 = r27 := Eq.symm hw
  obtain ⟨hP1, -, hD1⟩ := hB
  rw [ht] at hP1
  have hP := hP1
  have hD := hD1.weaken (fun k q _ h => hFc q.1 h)
  refine W.widen (k := 0) (n := 0) (Nat.le_refl _) (Nat.le_refl _) ?_
  refine lv_iconst (v := 2) hx hb dX18_first_77 (by decide) ?_
  refine lv_ishl hx hb dX18_first_78 ?_
  refine lv_ior hx hb dX18_first_79 ?_
  refine lv_aload_n hx hb dX18_first_80 rfl (lv_at hl 3 rfl) ?_
  refine lv_iconst (v := 5) hx hb dX18_first_81 (by decide) ?_
  refine lv_iconst (v := 1) hx hb dX18_first_82 (by decide) ?_
  obtain ⟨q28, s29, hq, h⟩ := nd_b2_e h
  have hPc := hP
  have hDc := hD
  have hKc := hK
  have hFc := nd_rs hD hS hA
  refine va_calli (va_runV (As := [.int 5, .int 1]) (rest := [.int (((q22 : Int32) <<< ((3 : Int32) &&& 31)) ||| ((q25 : Int32) <<< ((2 : Int32) &&& 31)))]) ⟨hx, hb, hml, hown, hts⟩ (dm_X18_part l hlt dC dI a ac n (5) (1) s26 hq _) (cwV 2 hts gi_dm_X18_first_0 rfl rfl rfl (by decide +kernel) ⟨Nat.le_of_ble_eq_true rfl, Nat.le_of_ble_eq_true rfl⟩) ⟨fun a U g mk q => by obtain ⟨q0, q1, qP, qK, qD, qN⟩ := q; exact ⟨q0, q1, qP, va_K.moved (u := U) (U := U.calling g mk a) (Vm.Alike.refl U.vm) qK, qD, nv_same rfl rfl qN⟩, va_recv hKc hPc (ci := 19) (q0 := 0) rfl rfl, fun U hU hW => ⟨rfl, by rw [hU], by rw [hU]; exact hPc, va_K.moved hW.alike hKc, hDc.weaken (fun _ _ _ _ => trivial), nv_call hS hFc hU hW hN⟩⟩ rfl rfl hl.1 rfl (lv_room (Nat.le_of_ble_eq_true rfl)) dX18_first_83 ⟨by decide +kernel, by decide +kernel⟩) hS (fun q _ h => hFc q h) hFc (fun r30 u t H locs ht hvm hw hB hz1 hk1 hS => ?_)
  obtain rfl : q28 = r30 := Eq.symm hw
  obtain ⟨hP1, -, hD1⟩ := hB
  rw [ht] at hP1
  have hP := hP1
  have hD := hD1.weaken (fun k q _ h => hFc q.1 h)
  refine W.widen (k := 0) (n := 0) (Nat.le_refl _) (Nat.le_refl _) ?_
  refine lv_bipush (v := 6) hx hb dX18_first_86 (by decide) ?_
  refine lv_ishl hx hb dX18_first_88 ?_
  refine lv_ior hx hb dX18_first_89 ?_
  refine lv_topi (fun z31 ez31 => ?_)
  have h := nd_at h ez31
  refine lv_istore (lv' := [(4, .int z31), (3, .int z21), (2, .int z8), (1, .int z4), (0, .ref (a 0))]) hx hb dX18_first_90 hl (by decide) rfl (fun ls hl => ?_)
  refine lv_aload_n hx hb dX18_first_92 rfl (lv_at hl 4 rfl) ?_
  refine va_get (D := (dC, dI)) (ci := 19) (v := .int (sI s29 7)) (C := RX18) (T := TX18) (N := 10) hx hb hts hi_dm_X18_first_X18 hown hK hP 0 rfl rfl 8 (by decide) (hts (.fieldLink RX18 80 "TimeMachineModel$Reader" "f" "I") (List.mem_of_getElem? (i := 5) rfl)) (fun _ h9 => h9) rfl dX18_first_93 ?_
  refine lv_if_ne (tgt := 130) hx hb dX18_first_96 (by decide) (fun c32 => ?_) (fun c32 => ?_)
  · have h := nd_neg h c32
    exact (db_X18_first_130 C K) (z4) (z8) (z31) s29 _ _ _ h hP hD hS (lv_sub hl [4, 3, 2, 0] rfl)
  · have h := nd_pos h c32
    refine lv_iload_n hx hb dX18_first_99 rfl (lv_at hl 1 rfl) ?_
    refine lv_if_le (tgt := 130) hx hb dX18_first_100 (by decide) (fun c45 => ?_) (fun c45 => ?_)
    · have h := nd_pos h c45
      exact (db_X18_first_130 C K) (z4) (z8) (z31) s29 _ _ _ h hP hD hS (lv_sub hl [4, 3, 2, 0] rfl)
    · have h := nd_neg h c45
      refine lv_aload_n hx hb dX18_first_103 rfl (lv_at hl 4 rfl) ?_
      refine lv_ldc2 hx hb hown (hts (.constantLong RX18 253 (8301375893052403299)) (List.mem_of_getElem? (i := 17) rfl)) dX18_first_104 ?_
      obtain ⟨s47, hq, h⟩ := nd_b1_e h
      have hPc := hP
      have hDc := hD
      have hKc := hK
      have hFc := nd_rs hD hS hA
      refine va_callv (va_runV (As := [.long 8301375893052403299]) (rest := []) ⟨hx, hb, hml, hown, hts⟩ (dm_X18_name l hlt dC dI a ac n (8301375893052403299) s29 hq _) (cwV 1 hts gi_dm_X18_first_1 rfl rfl rfl (by decide +kernel) ⟨Nat.le_of_ble_eq_true rfl, Nat.le_of_ble_eq_true rfl⟩) ⟨fun a U g mk q => by obtain ⟨q0, q1, qP, qK, qD, qN⟩ := q; exact ⟨q0, q1, qP, va_K.moved (u := U) (U := U.calling g mk a) (Vm.Alike.refl U.vm) qK, qD, nv_same rfl rfl qN⟩, va_recv hKc hPc (ci := 19) (q0 := 0) rfl rfl, fun U hU hW => ⟨rfl, by rw [hU], by rw [hU]; exact hPc, va_K.moved hW.alike hKc, hDc.weaken (fun _ _ _ _ => trivial), nv_call hS hFc hU hW hN⟩⟩ rfl rfl hl.1 rfl (lv_room (Nat.le_of_ble_eq_true rfl)) dX18_first_107 ⟨by decide +kernel, by decide +kernel⟩) hS (fun q _ h => hFc q h) hFc (fun u t H locs ht hvm hw hB hz1 hk1 hS => ?_)
      obtain ⟨hP1, -, hD1⟩ := hB
      rw [ht] at hP1
      have hP := hP1
      have hD := hD1.weaken (fun k q _ h => hFc q.1 h)
      refine W.widen (k := 0) (n := 0) (Nat.le_refl _) (Nat.le_refl _) ?_
      refine lv_aload_n hx hb dX18_first_110 rfl (lv_at hl 4 rfl) ?_
      refine lv_ldc2 hx hb hown (hts (.constantLong RX18 255 (28272)) (List.mem_of_getElem? (i := 18) rfl)) dX18_first_111 ?_
      obtain ⟨s50, hq, h⟩ := nd_b1_e h
      have hPc := hP
      have hDc := hD
      have hKc := hK
      have hFc := nd_rs hD hS hA
      refine va_callv (va_runV (As := [.long 28272]) (rest := []) ⟨hx, hb, hml, hown, hts⟩ (dm_X18_say l hlt dC dI a ac n (28272) s47 hq _) (cwV 1 hts gi_dm_X18_first_4 rfl rfl rfl (by decide +kernel) ⟨Nat.le_of_ble_eq_true rfl, Nat.le_of_ble_eq_true rfl⟩) ⟨fun a U g mk q => by obtain ⟨q0, q1, qP, qK, qD, qN⟩ := q; exact ⟨q0, q1, qP, va_K.moved (u := U) (U := U.calling g mk a) (Vm.Alike.refl U.vm) qK, qD, nv_same rfl rfl qN⟩, va_recv hKc hPc (ci := 19) (q0 := 0) rfl rfl, fun U hU hW => ⟨rfl, by rw [hU], by rw [hU]; exact hPc, va_K.moved hW.alike hKc, hDc.weaken (fun _ _ _ _ => trivial), nv_call hS hFc hU hW hN⟩⟩ rfl rfl hl.1 rfl (lv_room (Nat.le_of_ble_eq_true rfl)) dX18_first_114 ⟨by decide +kernel, by decide +kernel⟩) hS (fun q _ h => hFc q h) hFc (fun u t H locs ht hvm hw hB hz1 hk1 hS => ?_)
      obtain ⟨hP1, -, hD1⟩ := hB
      rw [ht] at hP1
      have hP := hP1
      have hD := hD1.weaken (fun k q _ h => hFc q.1 h)
      refine W.widen (k := 0) (n := 0) (Nat.le_refl _) (Nat.le_refl _) ?_
      refine lv_aload_n hx hb dX18_first_117 rfl (lv_at hl 4 rfl) ?_
      refine lv_iload_n hx hb dX18_first_118 rfl (lv_at hl 3 rfl) ?_
      obtain ⟨s53, hq, h⟩ := nd_b1_e h
      have hPc := hP
      have hDc := hD
      have hKc := hK
      have hFc := nd_rs hD hS hA
      refine va_callv (va_runV (As := [.int z4]) (rest := []) ⟨hx, hb, hml, hown, hts⟩ (dm_X18_register l hlt dC dI a ac n (z4) s50 hq _) (cwV 1 hts gi_dm_X18_first_2 rfl rfl rfl (by decide +kernel) ⟨Nat.le_of_ble_eq_true rfl, Nat.le_of_ble_eq_true rfl⟩) ⟨fun a U g mk q => by obtain ⟨q0, q1, qP, qK, qD, qN⟩ := q; exact ⟨q0, q1, qP, va_K.moved (u := U) (U := U.calling g mk a) (Vm.Alike.refl U.vm) qK, qD, nv_same rfl rfl qN⟩, va_recv hKc hPc (ci := 19) (q0 := 0) rfl rfl, fun U hU hW => ⟨rfl, by rw [hU], by rw [hU]; exact hPc, va_K.moved hW.alike hKc, hDc.weaken (fun _ _ _ _ => trivial), nv_call hS hFc hU hW hN⟩⟩ rfl rfl hl.1 rfl (lv_room (Nat.le_of_ble_eq_true rfl)) dX18_first_119 ⟨by decide +kernel, by decide +kernel⟩) hS (fun q _ h => hFc q h) hFc (fun u t H locs ht hvm hw hB hz1 hk1 hS => ?_)
      obtain ⟨hP1, -, hD1⟩ := hB
      rw [ht] at hP1
      have hP := hP1
      have hD := hD1.weaken (fun k q _ h => hFc q.1 h)
      refine W.widen (k := 0) (n := 0) (Nat.le_refl _) (Nat.le_refl _) ?_
      refine lv_aload_n hx hb dX18_first_122 rfl (lv_at hl 4 rfl) ?_
      refine lv_iload_n hx hb dX18_first_123 rfl (lv_at hl 1 rfl) ?_
      obtain ⟨s56, hq, h⟩ := nd_b1_e h
      have hPc := hP
      have hDc := hD
      have hKc := hK
      have hFc := nd_rs hD hS hA
      refine va_callv (va_runV (As := [.int z21]) (rest := []) ⟨hx, hb, hml, hown, hts⟩ (dm_X18_immediate l hlt dC dI a ac n (z21) s53 hq _) (cwV 1 hts gi_dm_X18_first_5 rfl rfl rfl (by decide +kernel) ⟨Nat.le_of_ble_eq_true rfl, Nat.le_of_ble_eq_true rfl⟩) ⟨fun a U g mk q => by obtain ⟨q0, q1, qP, qK, qD, qN⟩ := q; exact ⟨q0, q1, qP, va_K.moved (u := U) (U := U.calling g mk a) (Vm.Alike.refl U.vm) qK, qD, nv_same rfl rfl qN⟩, va_recv hKc hPc (ci := 19) (q0 := 0) rfl rfl, fun U hU hW => ⟨rfl, by rw [hU], by rw [hU]; exact hPc, va_K.moved hW.alike hKc, hDc.weaken (fun _ _ _ _ => trivial), nv_call hS hFc hU hW hN⟩⟩ rfl rfl hl.1 rfl (lv_room (Nat.le_of_ble_eq_true rfl)) dX18_first_124 ⟨by decide +kernel, by decide +kernel⟩) hS (fun q _ h => hFc q h) hFc (fun u t H locs ht hvm hw hB hz1 hk1 hS => ?_)
      obtain ⟨hP1, -, hD1⟩ := hB
      rw [ht] at hP1
      have hP := hP1
      have hD := hD1.weaken (fun k q _ h => hFc q.1 h)
      refine W.widen (k := 0) (n := 0) (Nat.le_refl _) (Nat.le_refl _) ?_
      refine lv_goto (tgt := 180) hx hb dX18_first_127 (by decide) ?_
      exact (db_X18_first_180 C K)  s56 _ _ _ h hP hD hS (lv_sub hl [] rfl)
set_option maxHeartbeats 40000000 in
set_option maxRecDepth 100000 in
theorem dm_X18_first (l : Launch) (hlt : l.stackTraces = false) (dC : Nat → ClassId) (dI : Nat → Nat → Nat) (a : Nat → Nat) (ac : Nat → ClassId) (n : Nat) (s0 : St) {r : St} (h : df_X18_first n s0 = some r) (sz : Nat) : Met l yX18_first ow_dm_X18_first ({ frames := 5, cells := 0, slots := 0, locals := 111 }) (va_Pc [.ref (a 0)] (fun U => U.heap.size = sz ∧ va_P (dC, dI) vwCl (dw_X18 a ac s0) U.heap ∧ va_K (dC, dI) vwCl (dk_X18 ac) U ∧ va_D (fun _ => True) (dw_X18 a ac s0) ∧ nv_E (va_A (dw_X18 a ac s0) sz) U)) (va_Qv (fun _ => True) (fun (_ : Unit) t => va_P (dC, dI) vwCl (dw_X18 a ac r) t.heap ∧ va_K (dC, dI) vwCl (dk_X18 ac) t ∧ va_D (va_A (dw_X18 a ac s0) sz) (dw_X18 a ac r)) (va_A (dw_X18 a ac s0) sz)) 0 0 (va_A (dw_X18 a ac s0) sz) := by
  refine Met.ofW (cc := cX18_first) (maxL := 5) (ret := none) (by decide) rfl ?_
  intro p e s m args below meth c s₁ B hml hv
  obtain ⟨rfl, hsz, hP, hK, hD0, hN⟩ := hv
  have hx := B.exec
  have hb := B.bytes
  have hr := B.returns
  have hts := atoms_spec (ws := ow_dm_X18_first) B.pre
  have hown : s.vm.findClass RX18 = some m.cls := findClass_of_methodNamed B.named
  have hlocks := B.notSynchronized
  subst hsz
  have hD := hD0.self (sz := s.heap.size)
  generalize hAe : va_A (dw_X18 a ac s0) s.heap.size = A at hD hN ⊢
  have hA : ∀ q : Nat, s.heap.size ≤ q → A q := fun q h => by rw [← hAe]; exact Or.inr h
  have hl := lv_entry ([.ref (a 0)]) (n := 5) (Nat.le_of_ble_eq_true rfl)
  rw [lg_entry_eq]
  generalize (lg_sl ([.ref (a 0)]) ++ List.replicate (5 - (lg_sl ([.ref (a 0)])).length) Slot.unset).toArray = ls at hl ⊢
  have hl : lv_has ls 5 [(0, .ref (a 0))] := hl
  exact db_X18_first_0 (dC := dC) (dI := dI) (a := a) (ac := ac) (n := n) (r := r) ⟨hlt, hx, hb, hml, hown, hts, hN, hA, hK⟩ (fun pc τ H locs ls d er hP hD hS => by subst er; exact W.vret hx hb hr (fun t ht hW => ⟨⟨(), rfl, trivial, by rw [ht]; exact hP, va_K.moved hW.alike hK, hD⟩, hS.F ht⟩) hS.2.2 d) s0 _ _ _ h hP hD va_S.rf (lv_sub hl [0] rfl)
def ow_dm_X18_jump : List Cond := .code yX18_jump cX18_jump 3 none :: ([.methodLink RX18 65 yX18_name, .instanceMethod yX18_name, .selects RX18 yX18_name yX18_name, .initialized RX18, .methodLink RX18 172 yX18_part, .instanceMethod yX18_part, .selects RX18 yX18_part yX18_part, .methodLink RX18 176 yX18_target, .instanceMethod yX18_target, .selects RX18 yX18_target yX18_target] ++ (ow_dm_X18_name ++ (ow_dm_X18_part ++ (ow_dm_X18_target ++ []))))
theorem gd_dm_X18_jump : ∀ w ∈ ow_dm_X18_jump, (w.onTables && w.keeps) = true ∨ ∃ ty, w = Cond.arrayClass ty := List.forall_mem_cons.mpr ⟨good_of_word rfl, List.forall_mem_append.mpr ⟨fun w h => good_of_word (List.all_eq_true.mp (by decide +kernel) w h), List.forall_mem_append.mpr ⟨gd_dm_X18_name, List.forall_mem_append.mpr ⟨gd_dm_X18_part, List.forall_mem_append.mpr ⟨gd_dm_X18_target, fun _ h => nomatch h⟩⟩⟩⟩⟩
theorem gi_dm_X18_jump_0 : GoodIn ow_dm_X18_jump (wsV RX18 65 RX18 yX18_name ow_dm_X18_name) := goodIn_app (goodIn_of _ (by decide +kernel)) (fun w h => ⟨List.mem_cons_of_mem _ (List.mem_append_right _ (List.mem_append_left _ h)), gd_dm_X18_name w h⟩)
theorem gi_dm_X18_jump_1 : GoodIn ow_dm_X18_jump (wsV RX18 172 RX18 yX18_part ow_dm_X18_part) := goodIn_app (goodIn_of _ (by decide +kernel)) (fun w h => ⟨List.mem_cons_of_mem _ (List.mem_append_right _ (List.mem_append_right _ (List.mem_append_left _ h))), gd_dm_X18_part w h⟩)
theorem gi_dm_X18_jump_2 : GoodIn ow_dm_X18_jump (wsV RX18 176 RX18 yX18_target ow_dm_X18_target) := goodIn_app (goodIn_of _ (by decide +kernel)) (fun w h => ⟨List.mem_cons_of_mem _ (List.mem_append_right _ (List.mem_append_right _ (List.mem_append_right _ (List.mem_append_left _ h)))), gd_dm_X18_target w h⟩)
def dj_X18_jump_0 (p : Program) (l : Launch) (e : Env) (s : State) (m : MethodId) (args : Array Value) (below : List Frame) (meth : Method) (c : Code) (Q : State → Prop) (A : Nat → Prop) (dC : Nat → ClassId) (dI : Nat → Nat → Nat) (a : Nat → Nat) (ac : Nat → ClassId) (g : Int64 → (St) → Option (St)) (r : St) : Prop := ∀ (v0 : Int64) (s0 : St) (H : Heap) (locs : List Loc) (ls : Array Slot), g v0 s0 = some r → va_P (dC, dI) vwCl (dw_X18 a ac s0) H → va_D A (dw_X18 a ac s0) → va_S A s.heap H locs → lv_has ls 3 [(0, .ref (a 0)), (1, .long v0)] → W p l e (headSpec ow_dm_X18_jump ({ frames := 4, cells := 0, slots := 0, locals := 89 })).room s m args below meth c H locs 0 0 Q (F0 m 0 ls [])
set_option maxHeartbeats 40000000 in
set_option maxRecDepth 100000 in
theorem db_X18_jump_0 {p : Program} {l : Launch} {e : Env} {s : State} {m : MethodId} {args : Array Value} {below : List Frame} {meth : Method} {c : Code} {Q : State → Prop} {A : Nat → Prop} {dC : Nat → ClassId} {dI : Nat → Nat → Nat} {a : Nat → Nat} {ac : Nat → ClassId} {n : Nat} {r : St} (C : nd_C p l s m args c A (dC, dI) cX18_jump 3 RX18 ow_dm_X18_jump (dk_X18 ac)) (K : nd_Kv p l e (headSpec ow_dm_X18_jump ({ frames := 4, cells := 0, slots := 0, locals := 89 })).room s m args below meth c Q A (dC, dI) cX18_jump (St) (dw_X18 a ac) r) : dj_X18_jump_0 p l e s m args below meth c Q A dC dI a ac (df_X18_jump_0 n) r := by
  obtain ⟨hlt, hx, hb, hml, hown, hts, hN, hA, hK⟩ := id C
  intro v0 s0 H locs ls h hP hD hS hl
  unfold df_X18_jump_0 at h
  refine lv_aload_n hx hb dX18_jump_0 rfl (lv_at hl 0 rfl) ?_
  refine lv_lload_n hx hb dX18_jump_1 rfl (lv_at hl 1 rfl) ?_
  obtain ⟨s2, hq, h⟩ := nd_b1_e h
  have hPc := hP
  have hDc := hD
  have hKc := hK
  have hFc := nd_rs hD hS hA
  refine va_callv (va_runV (As := [.long v0]) (rest := []) ⟨hx, hb, hml, hown, hts⟩ (dm_X18_name l hlt dC dI a ac n (v0) s0 hq _) (cwV 1 hts gi_dm_X18_jump_0 rfl rfl rfl (by decide +kernel) ⟨Nat.le_of_ble_eq_true rfl, Nat.le_of_ble_eq_true rfl⟩) ⟨fun a U g mk q => by obtain ⟨q0, q1, qP, qK, qD, qN⟩ := q; exact ⟨q0, q1, qP, va_K.moved (u := U) (U := U.calling g mk a) (Vm.Alike.refl U.vm) qK, qD, nv_same rfl rfl qN⟩, va_recv hKc hPc (ci := 19) (q0 := 0) rfl rfl, fun U hU hW => ⟨rfl, by rw [hU], by rw [hU]; exact hPc, va_K.moved hW.alike hKc, hDc.weaken (fun _ _ _ _ => trivial), nv_call hS hFc hU hW hN⟩⟩ rfl rfl hl.1 rfl (lv_room (Nat.le_of_ble_eq_true rfl)) dX18_jump_2 ⟨by decide +kernel, by decide +kernel⟩) hS (fun q _ h => hFc q h) hFc (fun u t H locs ht hvm hw hB hz1 hk1 hS => ?_)
  obtain ⟨hP1, -, hD1⟩ := hB
  rw [ht] at hP1
  have hP := hP1
  have hD := hD1.weaken (fun k q _ h => hFc q.1 h)
  refine W.widen (k := 0) (n := 0) (Nat.le_refl _) (Nat.le_refl _) ?_
  refine lv_aload_n hx hb dX18_jump_5 rfl (lv_at hl 0 rfl) ?_
  refine lv_aload_n hx hb dX18_jump_6 rfl (lv_at hl 0 rfl) ?_
  refine lv_iconst (v := 3) hx hb dX18_jump_7 (by decide) ?_
  refine lv_iconst (v := 3) hx hb dX18_jump_8 (by decide) ?_
  obtain ⟨q4, s5, hq, h⟩ := nd_b2_e h
  have hPc := hP
  have hDc := hD
  have hKc := hK
  have hFc := nd_rs hD hS hA
  refine va_calli (va_runV (As := [.int 3, .int 3]) (rest := [.ref (a 0)]) ⟨hx, hb, hml, hown, hts⟩ (dm_X18_part l hlt dC dI a ac n (3) (3) s2 hq _) (cwV 2 hts gi_dm_X18_jump_1 rfl rfl rfl (by decide +kernel) ⟨Nat.le_of_ble_eq_true rfl, Nat.le_of_ble_eq_true rfl⟩) ⟨fun a U g mk q => by obtain ⟨q0, q1, qP, qK, qD, qN⟩ := q; exact ⟨q0, q1, qP, va_K.moved (u := U) (U := U.calling g mk a) (Vm.Alike.refl U.vm) qK, qD, nv_same rfl rfl qN⟩, va_recv hKc hPc (ci := 19) (q0 := 0) rfl rfl, fun U hU hW => ⟨rfl, by rw [hU], by rw [hU]; exact hPc, va_K.moved hW.alike hKc, hDc.weaken (fun _ _ _ _ => trivial), nv_call hS hFc hU hW hN⟩⟩ rfl rfl hl.1 rfl (lv_room (Nat.le_of_ble_eq_true rfl)) dX18_jump_9 ⟨by decide +kernel, by decide +kernel⟩) hS (fun q _ h => hFc q h) hFc (fun r6 u t H locs ht hvm hw hB hz1 hk1 hS => ?_)
  obtain rfl : q4 = r6 := Eq.symm hw
  obtain ⟨hP1, -, hD1⟩ := hB
  rw [ht] at hP1
  have hP := hP1
  have hD := hD1.weaken (fun k q _ h => hFc q.1 h)
  refine W.widen (k := 0) (n := 0) (Nat.le_refl _) (Nat.le_refl _) ?_
  refine lv_iconst (v := 1) hx hb dX18_jump_12 (by decide) ?_
  refine lv_ishl hx hb dX18_jump_13 ?_
  refine lv_aload_n hx hb dX18_jump_14 rfl (lv_at hl 0 rfl) ?_
  refine lv_bipush (v := 11) hx hb dX18_jump_15 (by decide) ?_
  refine lv_iconst (v := 1) hx hb dX18_jump_17 (by decide) ?_
  obtain ⟨q7, s8, hq, h⟩ := nd_b2_e h
  have hPc := hP
  have hDc := hD
  have hKc := hK
  have hFc := nd_rs hD hS hA
  refine va_calli (va_runV (As := [.int 11, .int 1]) (rest := [.int ((q4 : Int32) <<< ((1 : Int32) &&& 31)), .ref (a 0)]) ⟨hx, hb, hml, hown, hts⟩ (dm_X18_part l hlt dC dI a ac n (11) (1) s5 hq _) (cwV 2 hts gi_dm_X18_jump_1 rfl rfl rfl (by decide +kernel) ⟨Nat.le_of_ble_eq_true rfl, Nat.le_of_ble_eq_true rfl⟩) ⟨fun a U g mk q => by obtain ⟨q0, q1, qP, qK, qD, qN⟩ := q; exact ⟨q0, q1, qP, va_K.moved (u := U) (U := U.calling g mk a) (Vm.Alike.refl U.vm) qK, qD, nv_same rfl rfl qN⟩, va_recv hKc hPc (ci := 19) (q0 := 0) rfl rfl, fun U hU hW => ⟨rfl, by rw [hU], by rw [hU]; exact hPc, va_K.moved hW.alike hKc, hDc.weaken (fun _ _ _ _ => trivial), nv_call hS hFc hU hW hN⟩⟩ rfl rfl hl.1 rfl (lv_room (Nat.le_of_ble_eq_true rfl)) dX18_jump_18 ⟨by decide +kernel, by decide +kernel⟩) hS (fun q _ h => hFc q h) hFc (fun r9 u t H locs ht hvm hw hB hz1 hk1 hS => ?_)
  obtain rfl : q7 = r9 := Eq.symm hw
  obtain ⟨hP1, -, hD1⟩ := hB
  rw [ht] at hP1
  have hP := hP1
  have hD := hD1.weaken (fun k q _ h => hFc q.1 h)
  refine W.widen (k := 0) (n := 0) (Nat.le_refl _) (Nat.le_refl _) ?_
  refine lv_iconst (v := 4) hx hb dX18_jump_21 (by decide) ?_
  refine lv_ishl hx hb dX18_jump_22 ?_
  refine lv_ior hx hb dX18_jump_23 ?_
  refine lv_aload_n hx hb dX18_jump_24 rfl (lv_at hl 0 rfl) ?_
  refine lv_iconst (v := 2) hx hb dX18_jump_25 (by decide) ?_
  refine lv_iconst (v := 1) hx hb dX18_jump_26 (by decide) ?_
  obtain ⟨q10, s11, hq, h⟩ := nd_b2_e h
  have hPc := hP
  have hDc := hD
  have hKc := hK
  have hFc := nd_rs hD hS hA
  refine va_calli (va_runV (As := [.int 2, .int 1]) (rest := [.int (((q4 : Int32) <<< ((1 : Int32) &&& 31)) ||| ((q7 : Int32) <<< ((4 : Int32) &&& 31))), .ref (a 0)]) ⟨hx, hb, hml, hown, hts⟩ (dm_X18_part l hlt dC dI a ac n (2) (1) s8 hq _) (cwV 2 hts gi_dm_X18_jump_1 rfl rfl rfl (by decide +kernel) ⟨Nat.le_of_ble_eq_true rfl, Nat.le_of_ble_eq_true rfl⟩) ⟨fun a U g mk q => by obtain ⟨q0, q1, qP, qK, qD, qN⟩ := q; exact ⟨q0, q1, qP, va_K.moved (u := U) (U := U.calling g mk a) (Vm.Alike.refl U.vm) qK, qD, nv_same rfl rfl qN⟩, va_recv hKc hPc (ci := 19) (q0 := 0) rfl rfl, fun U hU hW => ⟨rfl, by rw [hU], by rw [hU]; exact hPc, va_K.moved hW.alike hKc, hDc.weaken (fun _ _ _ _ => trivial), nv_call hS hFc hU hW hN⟩⟩ rfl rfl hl.1 rfl (lv_room (Nat.le_of_ble_eq_true rfl)) dX18_jump_27 ⟨by decide +kernel, by decide +kernel⟩) hS (fun q _ h => hFc q h) hFc (fun r12 u t H locs ht hvm hw hB hz1 hk1 hS => ?_)
  obtain rfl : q10 = r12 := Eq.symm hw
  obtain ⟨hP1, -, hD1⟩ := hB
  rw [ht] at hP1
  have hP := hP1
  have hD := hD1.weaken (fun k q _ h => hFc q.1 h)
  refine W.widen (k := 0) (n := 0) (Nat.le_refl _) (Nat.le_refl _) ?_
  refine lv_iconst (v := 5) hx hb dX18_jump_30 (by decide) ?_
  refine lv_ishl hx hb dX18_jump_31 ?_
  refine lv_ior hx hb dX18_jump_32 ?_
  refine lv_aload_n hx hb dX18_jump_33 rfl (lv_at hl 0 rfl) ?_
  refine lv_bipush (v := 7) hx hb dX18_jump_34 (by decide) ?_
  refine lv_iconst (v := 1) hx hb dX18_jump_36 (by decide) ?_
  obtain ⟨q13, s14, hq, h⟩ := nd_b2_e h
  have hPc := hP
  have hDc := hD
  have hKc := hK
  have hFc := nd_rs hD hS hA
  refine va_calli (va_runV (As := [.int 7, .int 1]) (rest := [.int ((((q4 : Int32) <<< ((1 : Int32) &&& 31)) ||| ((q7 : Int32) <<< ((4 : Int32) &&& 31))) ||| ((q10 : Int32) <<< ((5 : Int32) &&& 31))), .ref (a 0)]) ⟨hx, hb, hml, hown, hts⟩ (dm_X18_part l hlt dC dI a ac n (7) (1) s11 hq _) (cwV 2 hts gi_dm_X18_jump_1 rfl rfl rfl (by decide +kernel) ⟨Nat.le_of_ble_eq_true rfl, Nat.le_of_ble_eq_true rfl⟩) ⟨fun a U g mk q => by obtain ⟨q0, q1, qP, qK, qD, qN⟩ := q; exact ⟨q0, q1, qP, va_K.moved (u := U) (U := U.calling g mk a) (Vm.Alike.refl U.vm) qK, qD, nv_same rfl rfl qN⟩, va_recv hKc hPc (ci := 19) (q0 := 0) rfl rfl, fun U hU hW => ⟨rfl, by rw [hU], by rw [hU]; exact hPc, va_K.moved hW.alike hKc, hDc.weaken (fun _ _ _ _ => trivial), nv_call hS hFc hU hW hN⟩⟩ rfl rfl hl.1 rfl (lv_room (Nat.le_of_ble_eq_true rfl)) dX18_jump_37 ⟨by decide +kernel, by decide +kernel⟩) hS (fun q _ h => hFc q h) hFc (fun r15 u t H locs ht hvm hw hB hz1 hk1 hS => ?_)
  obtain rfl : q13 = r15 := Eq.symm hw
  obtain ⟨hP1, -, hD1⟩ := hB
  rw [ht] at hP1
  have hP := hP1
  have hD := hD1.weaken (fun k q _ h => hFc q.1 h)
  refine W.widen (k := 0) (n := 0) (Nat.le_refl _) (Nat.le_refl _) ?_
  refine lv_bipush (v := 6) hx hb dX18_jump_40 (by decide) ?_
  refine lv_ishl hx hb dX18_jump_42 ?_
  refine lv_ior hx hb dX18_jump_43 ?_
  refine lv_aload_n hx hb dX18_jump_44 rfl (lv_at hl 0 rfl) ?_
  refine lv_bipush (v := 6) hx hb dX18_jump_45 (by decide) ?_
  refine lv_iconst (v := 1) hx hb dX18_jump_47 (by decide) ?_
  obtain ⟨q16, s17, hq, h⟩ := nd_b2_e h
  have hPc := hP
  have hDc := hD
  have hKc := hK
  have hFc := nd_rs hD hS hA
  refine va_calli (va_runV (As := [.int 6, .int 1]) (rest := [.int (((((q4 : Int32) <<< ((1 : Int32) &&& 31)) ||| ((q7 : Int32) <<< ((4 : Int32) &&& 31))) ||| ((q10 : Int32) <<< ((5 : Int32) &&& 31))) ||| ((q13 : Int32) <<< ((6 : Int32) &&& 31))), .ref (a 0)]) ⟨hx, hb, hml, hown, hts⟩ (dm_X18_part l hlt dC dI a ac n (6) (1) s14 hq _) (cwV 2 hts gi_dm_X18_jump_1 rfl rfl rfl (by decide +kernel) ⟨Nat.le_of_ble_eq_true rfl, Nat.le_of_ble_eq_true rfl⟩) ⟨fun a U g mk q => by obtain ⟨q0, q1, qP, qK, qD, qN⟩ := q; exact ⟨q0, q1, qP, va_K.moved (u := U) (U := U.calling g mk a) (Vm.Alike.refl U.vm) qK, qD, nv_same rfl rfl qN⟩, va_recv hKc hPc (ci := 19) (q0 := 0) rfl rfl, fun U hU hW => ⟨rfl, by rw [hU], by rw [hU]; exact hPc, va_K.moved hW.alike hKc, hDc.weaken (fun _ _ _ _ => trivial), nv_call hS hFc hU hW hN⟩⟩ rfl rfl hl.1 rfl (lv_room (Nat.le_of_ble_eq_true rfl)) dX18_jump_48 ⟨by decide +kernel, by decide +kernel⟩) hS (fun q _ h => hFc q h) hFc (fun r18 u t H locs ht hvm hw hB hz1 hk1 hS => ?_)
  obtain rfl : q16 = r18 := Eq.symm hw
  obtain ⟨hP1, -, hD1⟩ := hB
  rw [ht] at hP1
  have hP := hP1
  have hD := hD1.weaken (fun k q _ h => hFc q.1 h)
  refine W.widen (k := 0) (n := 0) (Nat.le_refl _) (Nat.le_refl _) ?_
  refine lv_bipush (v := 7) hx hb dX18_jump_51 (by decide) ?_
  refine lv_ishl hx hb dX18_jump_53 ?_
  refine lv_ior hx hb dX18_jump_54 ?_
  refine lv_aload_n hx hb dX18_jump_55 rfl (lv_at hl 0 rfl) ?_
  refine lv_bipush (v := 9) hx hb dX18_jump_56 (by decide) ?_
  refine lv_iconst (v := 2) hx hb dX18_jump_58 (by decide) ?_
  obtain ⟨q19, s20, hq, h⟩ := nd_b2_e h
  have hPc := hP
  have hDc := hD
  have hKc := hK
  have hFc := nd_rs hD hS hA
  refine va_calli (va_runV (As := [.int 9, .int 2]) (rest := [.int ((((((q4 : Int32) <<< ((1 : Int32) &&& 31)) ||| ((q7 : Int32) <<< ((4 : Int32) &&& 31))) ||| ((q10 : Int32) <<< ((5 : Int32) &&& 31))) ||| ((q13 : Int32) <<< ((6 : Int32) &&& 31))) ||| ((q16 : Int32) <<< ((7 : Int32) &&& 31))), .ref (a 0)]) ⟨hx, hb, hml, hown, hts⟩ (dm_X18_part l hlt dC dI a ac n (9) (2) s17 hq _) (cwV 2 hts gi_dm_X18_jump_1 rfl rfl rfl (by decide +kernel) ⟨Nat.le_of_ble_eq_true rfl, Nat.le_of_ble_eq_true rfl⟩) ⟨fun a U g mk q => by obtain ⟨q0, q1, qP, qK, qD, qN⟩ := q; exact ⟨q0, q1, qP, va_K.moved (u := U) (U := U.calling g mk a) (Vm.Alike.refl U.vm) qK, qD, nv_same rfl rfl qN⟩, va_recv hKc hPc (ci := 19) (q0 := 0) rfl rfl, fun U hU hW => ⟨rfl, by rw [hU], by rw [hU]; exact hPc, va_K.moved hW.alike hKc, hDc.weaken (fun _ _ _ _ => trivial), nv_call hS hFc hU hW hN⟩⟩ rfl rfl hl.1 rfl (lv_room (Nat.le_of_ble_eq_true rfl)) dX18_jump_59 ⟨by decide +kernel, by decide +kernel⟩) hS (fun q _ h => hFc q h) hFc (fun r21 u t H locs ht hvm hw hB hz1 hk1 hS => ?_)
  obtain rfl : q19 = r21 := Eq.symm hw
  obtain ⟨hP1, -, hD1⟩ := hB
  rw [ht] at hP1
  have hP := hP1
  have hD := hD1.weaken (fun k q _ h => hFc q.1 h)
  refine W.widen (k := 0) (n := 0) (Nat.le_refl _) (Nat.le_refl _) ?_
  refine lv_bipush (v := 8) hx hb dX18_jump_62 (by decide) ?_
  refine lv_ishl hx hb dX18_jump_64 ?_
  refine lv_ior hx hb dX18_jump_65 ?_
  refine lv_aload_n hx hb dX18_jump_66 rfl (lv_at hl 0 rfl) ?_
  refine lv_bipush (v := 8) hx hb dX18_jump_67 (by decide) ?_
  refine lv_iconst (v := 1) hx hb dX18_jump_69 (by decide) ?_
  obtain ⟨q22, s23, hq, h⟩ := nd_b2_e h
  have hPc := hP
  have hDc := hD
  have hKc := hK
  have hFc := nd_rs hD hS hA
  refine va_calli (va_runV (As := [.int 8, .int 1]) (rest := [.int (((((((q4 : Int32) <<< ((1 : Int32) &&& 31)) ||| ((q7 : Int32) <<< ((4 : Int32) &&& 31))) ||| ((q10 : Int32) <<< ((5 : Int32) &&& 31))) ||| ((q13 : Int32) <<< ((6 : Int32) &&& 31))) ||| ((q16 : Int32) <<< ((7 : Int32) &&& 31))) ||| ((q19 : Int32) <<< ((8 : Int32) &&& 31))), .ref (a 0)]) ⟨hx, hb, hml, hown, hts⟩ (dm_X18_part l hlt dC dI a ac n (8) (1) s20 hq _) (cwV 2 hts gi_dm_X18_jump_1 rfl rfl rfl (by decide +kernel) ⟨Nat.le_of_ble_eq_true rfl, Nat.le_of_ble_eq_true rfl⟩) ⟨fun a U g mk q => by obtain ⟨q0, q1, qP, qK, qD, qN⟩ := q; exact ⟨q0, q1, qP, va_K.moved (u := U) (U := U.calling g mk a) (Vm.Alike.refl U.vm) qK, qD, nv_same rfl rfl qN⟩, va_recv hKc hPc (ci := 19) (q0 := 0) rfl rfl, fun U hU hW => ⟨rfl, by rw [hU], by rw [hU]; exact hPc, va_K.moved hW.alike hKc, hDc.weaken (fun _ _ _ _ => trivial), nv_call hS hFc hU hW hN⟩⟩ rfl rfl hl.1 rfl (lv_room (Nat.le_of_ble_eq_true rfl)) dX18_jump_70 ⟨by decide +kernel, by decide +kernel⟩) hS (fun q _ h => hFc q h) hFc (fun r24 u t H locs ht hvm hw hB hz1 hk1 hS => ?_)
  obtain rfl : q22 = r24 := Eq.symm hw
  obtain ⟨hP1, -, hD1⟩ := hB
  rw [ht] at hP1
  have hP := hP1
  have hD := hD1.weaken (fun k q _ h => hFc q.1 h)
  refine W.widen (k := 0) (n := 0) (Nat.le_refl _) (Nat.le_refl _) ?_
  refine lv_bipush (v := 10) hx hb dX18_jump_73 (by decide) ?_
  refine lv_ishl hx hb dX18_jump_75 ?_
  refine lv_ior hx hb dX18_jump_76 ?_
  refine lv_aload_n hx hb dX18_jump_77 rfl (lv_at hl 0 rfl) ?_
  refine lv_bipush (v := 12) hx hb dX18_jump_78 (by decide) ?_
  refine lv_iconst (v := 1) hx hb dX18_jump_80 (by decide) ?_
  obtain ⟨q25, s26, hq, h⟩ := nd_b2_e h
  have hPc := hP
  have hDc := hD
  have hKc := hK
  have hFc := nd_rs hD hS hA
  refine va_calli (va_runV (As := [.int 12, .int 1]) (rest := [.int ((((((((q4 : Int32) <<< ((1 : Int32) &&& 31)) ||| ((q7 : Int32) <<< ((4 : Int32) &&& 31))) ||| ((q10 : Int32) <<< ((5 : Int32) &&& 31))) ||| ((q13 : Int32) <<< ((6 : Int32) &&& 31))) ||| ((q16 : Int32) <<< ((7 : Int32) &&& 31))) ||| ((q19 : Int32) <<< ((8 : Int32) &&& 31))) ||| ((q22 : Int32) <<< ((10 : Int32) &&& 31))), .ref (a 0)]) ⟨hx, hb, hml, hown, hts⟩ (dm_X18_part l hlt dC dI a ac n (12) (1) s23 hq _) (cwV 2 hts gi_dm_X18_jump_1 rfl rfl rfl (by decide +kernel) ⟨Nat.le_of_ble_eq_true rfl, Nat.le_of_ble_eq_true rfl⟩) ⟨fun a U g mk q => by obtain ⟨q0, q1, qP, qK, qD, qN⟩ := q; exact ⟨q0, q1, qP, va_K.moved (u := U) (U := U.calling g mk a) (Vm.Alike.refl U.vm) qK, qD, nv_same rfl rfl qN⟩, va_recv hKc hPc (ci := 19) (q0 := 0) rfl rfl, fun U hU hW => ⟨rfl, by rw [hU], by rw [hU]; exact hPc, va_K.moved hW.alike hKc, hDc.weaken (fun _ _ _ _ => trivial), nv_call hS hFc hU hW hN⟩⟩ rfl rfl hl.1 rfl (lv_room (Nat.le_of_ble_eq_true rfl)) dX18_jump_81 ⟨by decide +kernel, by decide +kernel⟩) hS (fun q _ h => hFc q h) hFc (fun r27 u t H locs ht hvm hw hB hz1 hk1 hS => ?_)
  obtain rfl : q25 = r27 := Eq.symm hw
  obtain ⟨hP1, -, hD1⟩ := hB
  rw [ht] at hP1
  have hP := hP1
  have hD := hD1.weaken (fun k q _ h => hFc q.1 h)
  refine W.widen (k := 0) (n := 0) (Nat.le_refl _) (Nat.le_refl _) ?_
  refine lv_ineg hx hb dX18_jump_84 ?_
  refine lv_bipush (v := 11) hx hb dX18_jump_85 (by decide) ?_
  refine lv_ishl hx hb dX18_jump_87 ?_
  refine lv_ior hx hb dX18_jump_88 ?_
  obtain ⟨s29, hq, h⟩ := nd_b1_e h
  have hPc := hP
  have hDc := hD
  have hKc := hK
  have hFc := nd_rs hD hS hA
  refine va_callv (va_runV (As := [.int (((((((((q4 : Int32) <<< ((1 : Int32) &&& 31)) ||| ((q7 : Int32) <<< ((4 : Int32) &&& 31))) ||| ((q10 : Int32) <<< ((5 : Int32) &&& 31))) ||| ((q13 : Int32) <<< ((6 : Int32) &&& 31))) ||| ((q16 : Int32) <<< ((7 : Int32) &&& 31))) ||| ((q19 : Int32) <<< ((8 : Int32) &&& 31))) ||| ((q22 : Int32) <<< ((10 : Int32) &&& 31))) ||| (((-q25) : Int32) <<< ((11 : Int32) &&& 31)))]) (rest := []) ⟨hx, hb, hml, hown, hts⟩ (dm_X18_target l hlt dC dI a ac n ((((((((((q4 : Int32) <<< ((1 : Int32) &&& 31)) ||| ((q7 : Int32) <<< ((4 : Int32) &&& 31))) ||| ((q10 : Int32) <<< ((5 : Int32) &&& 31))) ||| ((q13 : Int32) <<< ((6 : Int32) &&& 31))) ||| ((q16 : Int32) <<< ((7 : Int32) &&& 31))) ||| ((q19 : Int32) <<< ((8 : Int32) &&& 31))) ||| ((q22 : Int32) <<< ((10 : Int32) &&& 31))) ||| (((-q25) : Int32) <<< ((11 : Int32) &&& 31)))) s26 hq _) (cwV 1 hts gi_dm_X18_jump_2 rfl rfl rfl (by decide +kernel) ⟨Nat.le_of_ble_eq_true rfl, Nat.le_of_ble_eq_true rfl⟩) ⟨fun a U g mk q => by obtain ⟨q0, q1, qP, qK, qD, qN⟩ := q; exact ⟨q0, q1, qP, va_K.moved (u := U) (U := U.calling g mk a) (Vm.Alike.refl U.vm) qK, qD, nv_same rfl rfl qN⟩, va_recv hKc hPc (ci := 19) (q0 := 0) rfl rfl, fun U hU hW => ⟨rfl, by rw [hU], by rw [hU]; exact hPc, va_K.moved hW.alike hKc, hDc.weaken (fun _ _ _ _ => trivial), nv_call hS hFc hU hW hN⟩⟩ rfl rfl hl.1 rfl (lv_room (Nat.le_of_ble_eq_true rfl)) dX18_jump_89 ⟨by decide +kernel, by decide +kernel⟩) hS (fun q _ h => hFc q h) hFc (fun u t H locs ht hvm hw hB hz1 hk1 hS => ?_)
  obtain ⟨hP1, -, hD1⟩ := hB
  rw [ht] at hP1
  have hP := hP1
  have hD := hD1.weaken (fun k q _ h => hFc q.1 h)
  refine W.widen (k := 0) (n := 0) (Nat.le_refl _) (Nat.le_refl _) ?_
  exact K _ _ _ _ _ dX18_jump_92 (Option.some.inj h).symm hP hD hS
set_option maxHeartbeats 40000000 in
set_option maxRecDepth 100000 in
theorem dm_X18_jump (l : Launch) (hlt : l.stackTraces = false) (dC : Nat → ClassId) (dI : Nat → Nat → Nat) (a : Nat → Nat) (ac : Nat → ClassId) (n : Nat) (v0 : Int64) (s0 : St) {r : St} (h : df_X18_jump n v0 s0 = some r) (sz : Nat) : Met l yX18_jump ow_dm_X18_jump ({ frames := 4, cells := 0, slots := 0, locals := 89 }) (va_Pc [.ref (a 0), .long v0] (fun U => U.heap.size = sz ∧ va_P (dC, dI) vwCl (dw_X18 a ac s0) U.heap ∧ va_K (dC, dI) vwCl (dk_X18 ac) U ∧ va_D (fun _ => True) (dw_X18 a ac s0) ∧ nv_E (va_A (dw_X18 a ac s0) sz) U)) (va_Qv (fun _ => True) (fun (_ : Unit) t => va_P (dC, dI) vwCl (dw_X18 a ac r) t.heap ∧ va_K (dC, dI) vwCl (dk_X18 ac) t ∧ va_D (va_A (dw_X18 a ac s0) sz) (dw_X18 a ac r)) (va_A (dw_X18 a ac s0) sz)) 0 0 (va_A (dw_X18 a ac s0) sz) := by
  refine Met.ofW (cc := cX18_jump) (maxL := 3) (ret := none) (by decide) rfl ?_
  intro p e s m args below meth c s₁ B hml hv
  obtain ⟨rfl, hsz, hP, hK, hD0, hN⟩ := hv
  have hx := B.exec
  have hb := B.bytes
  have hr := B.returns
  have hts := atoms_spec (ws := ow_dm_X18_jump) B.pre
  have hown : s.vm.findClass RX18 = some m.cls := findClass_of_methodNamed B.named
  have hlocks := B.notSynchronized
  subst hsz
  have hD := hD0.self (sz := s.heap.size)
  generalize hAe : va_A (dw_X18 a ac s0) s.heap.size = A at hD hN ⊢
  have hA : ∀ q : Nat, s.heap.size ≤ q → A q := fun q h => by rw [← hAe]; exact Or.inr h
  have hl := lv_entry ([.ref (a 0), .long v0]) (n := 3) (Nat.le_of_ble_eq_true rfl)
  rw [lg_entry_eq]
  generalize (lg_sl ([.ref (a 0), .long v0]) ++ List.replicate (3 - (lg_sl ([.ref (a 0), .long v0])).length) Slot.unset).toArray = ls at hl ⊢
  have hl : lv_has ls 3 [(0, .ref (a 0)), (1, .long v0)] := hl
  exact db_X18_jump_0 (dC := dC) (dI := dI) (a := a) (ac := ac) (n := n) (r := r) ⟨hlt, hx, hb, hml, hown, hts, hN, hA, hK⟩ (fun pc τ H locs ls d er hP hD hS => by subst er; exact W.vret hx hb hr (fun t ht hW => ⟨⟨(), rfl, trivial, by rw [ht]; exact hP, va_K.moved hW.alike hK, hD⟩, hS.F ht⟩) hS.2.2 d) v0 s0 _ _ _ h hP hD va_S.rf (lv_sub hl [0, 1] rfl)
def ow_dm_X18_reckon : List Cond := .code yX18_reckon cX18_reckon 5 none :: ([.methodLink RX18 172 yX18_part, .instanceMethod yX18_part, .selects RX18 yX18_part yX18_part, .initialized RX18, .constantLong RX18 277 (431348592227), .methodLink RX18 65 yX18_name, .instanceMethod yX18_name, .selects RX18 yX18_name yX18_name, .methodLink RX18 71 yX18_register, .instanceMethod yX18_register, .selects RX18 yX18_register yX18_register, .constantLong RX18 275 (1919888995), .constantLong RX18 273 (491496418915), .constantLong RX18 271 (422877277795), .constantLong RX18 265 (115880069508707), .methodLink RX18 59 yX18_immediate, .instanceMethod yX18_immediate, .selects RX18 yX18_immediate yX18_immediate, .methodLink RX18 267 yX18_six, .instanceMethod yX18_six, .selects RX18 yX18_six yX18_six, .constantLong RX18 263 (115867252895331), .constantLong RX18 261 (115914497535587)] ++ (ow_dm_X18_part ++ (ow_dm_X18_name ++ (ow_dm_X18_register ++ (ow_dm_X18_immediate ++ (ow_dm_X18_six ++ []))))))
theorem gd_dm_X18_reckon : ∀ w ∈ ow_dm_X18_reckon, (w.onTables && w.keeps) = true ∨ ∃ ty, w = Cond.arrayClass ty := List.forall_mem_cons.mpr ⟨good_of_word rfl, List.forall_mem_append.mpr ⟨fun w h => good_of_word (List.all_eq_true.mp (by decide +kernel) w h), List.forall_mem_append.mpr ⟨gd_dm_X18_part, List.forall_mem_append.mpr ⟨gd_dm_X18_name, List.forall_mem_append.mpr ⟨gd_dm_X18_register, List.forall_mem_append.mpr ⟨gd_dm_X18_immediate, List.forall_mem_append.mpr ⟨gd_dm_X18_six, fun _ h => nomatch h⟩⟩⟩⟩⟩⟩⟩
theorem gi_dm_X18_reckon_0 : GoodIn ow_dm_X18_reckon (wsV RX18 172 RX18 yX18_part ow_dm_X18_part) := goodIn_app (goodIn_of _ (by decide +kernel)) (fun w h => ⟨List.mem_cons_of_mem _ (List.mem_append_right _ (List.mem_append_left _ h)), gd_dm_X18_part w h⟩)
theorem gi_dm_X18_reckon_1 : GoodIn ow_dm_X18_reckon (wsV RX18 65 RX18 yX18_name ow_dm_X18_name) := goodIn_app (goodIn_of _ (by decide +kernel)) (fun w h => ⟨List.mem_cons_of_mem _ (List.mem_append_right _ (List.mem_append_right _ (List.mem_append_left _ h))), gd_dm_X18_name w h⟩)
theorem gi_dm_X18_reckon_2 : GoodIn ow_dm_X18_reckon (wsV RX18 71 RX18 yX18_register ow_dm_X18_register) := goodIn_app (goodIn_of _ (by decide +kernel)) (fun w h => ⟨List.mem_cons_of_mem _ (List.mem_append_right _ (List.mem_append_right _ (List.mem_append_right _ (List.mem_append_left _ h)))), gd_dm_X18_register w h⟩)
theorem gi_dm_X18_reckon_3 : GoodIn ow_dm_X18_reckon (wsV RX18 59 RX18 yX18_immediate ow_dm_X18_immediate) := goodIn_app (goodIn_of _ (by decide +kernel)) (fun w h => ⟨List.mem_cons_of_mem _ (List.mem_append_right _ (List.mem_append_right _ (List.mem_append_right _ (List.mem_append_right _ (List.mem_append_left _ h))))), gd_dm_X18_immediate w h⟩)
theorem gi_dm_X18_reckon_4 : GoodIn ow_dm_X18_reckon (wsV RX18 267 RX18 yX18_six ow_dm_X18_six) := goodIn_app (goodIn_of _ (by decide +kernel)) (fun w h => ⟨List.mem_cons_of_mem _ (List.mem_append_right _ (List.mem_append_right _ (List.mem_append_right _ (List.mem_append_right _ (List.mem_append_right _ (List.mem_append_left _ h)))))), gd_dm_X18_six w h⟩)
def dj_X18_reckon_146 (p : Program) (l : Launch) (e : Env) (s : State) (m : MethodId) (args : Array Value) (below : List Frame) (meth : Method) (c : Code) (Q : State → Prop) (A : Nat → Prop) (dC : Nat → ClassId) (dI : Nat → Nat → Nat) (a : Nat → Nat) (ac : Nat → ClassId) (g : Int32 → Int32 → Int64 → (St) → Option (St)) (r : St) : Prop := ∀ (x2 : Int32) (x3 : Int32) (y1 : Int64) (s0 : St) (H : Heap) (locs : List Loc) (ls : Array Slot), g x2 x3 y1 s0 = some r → va_P (dC, dI) vwCl (dw_X18 a ac s0) H → va_D A (dw_X18 a ac s0) → va_S A s.heap H locs → lv_has ls 5 [(0, .ref (a 0)), (2, .int x2), (3, .int x3)] → W p l e (headSpec ow_dm_X18_reckon ({ frames := 4, cells := 0, slots := 0, locals := 89 })).room s m args below meth c H locs 0 0 Q (F0 m 146 ls [.long y1, .ref (a 0)])
def dj_X18_reckon_95 (p : Program) (l : Launch) (e : Env) (s : State) (m : MethodId) (args : Array Value) (below : List Frame) (meth : Method) (c : Code) (Q : State → Prop) (A : Nat → Prop) (dC : Nat → ClassId) (dI : Nat → Nat → Nat) (a : Nat → Nat) (ac : Nat → ClassId) (g : Int32 → (St) → Option (St)) (r : St) : Prop := ∀ (y1 : Int32) (s0 : St) (H : Heap) (locs : List Loc) (ls : Array Slot), g y1 s0 = some r → va_P (dC, dI) vwCl (dw_X18 a ac s0) H → va_D A (dw_X18 a ac s0) → va_S A s.heap H locs → lv_has ls 5 [] → W p l e (headSpec ow_dm_X18_reckon ({ frames := 4, cells := 0, slots := 0, locals := 89 })).room s m args below meth c H locs 0 0 Q (F0 m 95 ls [.int y1, .ref (a 0)])
def dj_X18_reckon_68 (p : Program) (l : Launch) (e : Env) (s : State) (m : MethodId) (args : Array Value) (below : List Frame) (meth : Method) (c : Code) (Q : State → Prop) (A : Nat → Prop) (dC : Nat → ClassId) (dI : Nat → Nat → Nat) (a : Nat → Nat) (ac : Nat → ClassId) (g : Int32 → Int32 → Int64 → (St) → Option (St)) (r : St) : Prop := ∀ (x1 : Int32) (x3 : Int32) (y1 : Int64) (s0 : St) (H : Heap) (locs : List Loc) (ls : Array Slot), g x1 x3 y1 s0 = some r → va_P (dC, dI) vwCl (dw_X18 a ac s0) H → va_D A (dw_X18 a ac s0) → va_S A s.heap H locs → lv_has ls 5 [(0, .ref (a 0)), (1, .int x1), (3, .int x3)] → W p l e (headSpec ow_dm_X18_reckon ({ frames := 4, cells := 0, slots := 0, locals := 89 })).room s m args below meth c H locs 0 0 Q (F0 m 68 ls [.long y1, .ref (a 0)])
def dj_X18_reckon_38 (p : Program) (l : Launch) (e : Env) (s : State) (m : MethodId) (args : Array Value) (below : List Frame) (meth : Method) (c : Code) (Q : State → Prop) (A : Nat → Prop) (dC : Nat → ClassId) (dI : Nat → Nat → Nat) (a : Nat → Nat) (ac : Nat → ClassId) (g : Int32 → Int32 → Int32 → (St) → Option (St)) (r : St) : Prop := ∀ (x1 : Int32) (x2 : Int32) (x3 : Int32) (s0 : St) (H : Heap) (locs : List Loc) (ls : Array Slot), g x1 x2 x3 s0 = some r → va_P (dC, dI) vwCl (dw_X18 a ac s0) H → va_D A (dw_X18 a ac s0) → va_S A s.heap H locs → lv_has ls 5 [(0, .ref (a 0)), (1, .int x1), (2, .int x2), (3, .int x3)] → W p l e (headSpec ow_dm_X18_reckon ({ frames := 4, cells := 0, slots := 0, locals := 89 })).room s m args below meth c H locs 0 0 Q (F0 m 38 ls [])
def dj_X18_reckon_0 (p : Program) (l : Launch) (e : Env) (s : State) (m : MethodId) (args : Array Value) (below : List Frame) (meth : Method) (c : Code) (Q : State → Prop) (A : Nat → Prop) (dC : Nat → ClassId) (dI : Nat → Nat → Nat) (a : Nat → Nat) (ac : Nat → ClassId) (g : Int32 → (St) → Option (St)) (r : St) : Prop := ∀ (v0 : Int32) (s0 : St) (H : Heap) (locs : List Loc) (ls : Array Slot), g v0 s0 = some r → va_P (dC, dI) vwCl (dw_X18 a ac s0) H → va_D A (dw_X18 a ac s0) → va_S A s.heap H locs → lv_has ls 5 [(0, .ref (a 0)), (1, .int v0)] → W p l e (headSpec ow_dm_X18_reckon ({ frames := 4, cells := 0, slots := 0, locals := 89 })).room s m args below meth c H locs 0 0 Q (F0 m 0 ls [])
set_option maxHeartbeats 40000000 in
set_option maxRecDepth 100000 in
theorem db_X18_reckon_146 {p : Program} {l : Launch} {e : Env} {s : State} {m : MethodId} {args : Array Value} {below : List Frame} {meth : Method} {c : Code} {Q : State → Prop} {A : Nat → Prop} {dC : Nat → ClassId} {dI : Nat → Nat → Nat} {a : Nat → Nat} {ac : Nat → ClassId} {n : Nat} {r : St} (C : nd_C p l s m args c A (dC, dI) cX18_reckon 5 RX18 ow_dm_X18_reckon (dk_X18 ac)) (K : nd_Kv p l e (headSpec ow_dm_X18_reckon ({ frames := 4, cells := 0, slots := 0, locals := 89 })).room s m args below meth c Q A (dC, dI) cX18_reckon (St) (dw_X18 a ac) r) : dj_X18_reckon_146 p l e s m args below meth c Q A dC dI a ac (df_X18_reckon_146 n) r := by
  obtain ⟨hlt, hx, hb, hml, hown, hts, hN, hA, hK⟩ := id C
  intro x2 x3 y1 s0 H locs ls h hP hD hS hl
  unfold df_X18_reckon_146 at h
  obtain ⟨s18, hq, h⟩ := nd_b1_e h
  have hPc := hP
  have hDc := hD
  have hKc := hK
  have hFc := nd_rs hD hS hA
  refine va_callv (va_runV (As := [.long y1]) (rest := []) ⟨hx, hb, hml, hown, hts⟩ (dm_X18_name l hlt dC dI a ac n (y1) s0 hq _) (cwV 1 hts gi_dm_X18_reckon_1 rfl rfl rfl (by decide +kernel) ⟨Nat.le_of_ble_eq_true rfl, Nat.le_of_ble_eq_true rfl⟩) ⟨fun a U g mk q => by obtain ⟨q0, q1, qP, qK, qD, qN⟩ := q; exact ⟨q0, q1, qP, va_K.moved (u := U) (U := U.calling g mk a) (Vm.Alike.refl U.vm) qK, qD, nv_same rfl rfl qN⟩, va_recv hKc hPc (ci := 19) (q0 := 0) rfl rfl, fun U hU hW => ⟨rfl, by rw [hU], by rw [hU]; exact hPc, va_K.moved hW.alike hKc, hDc.weaken (fun _ _ _ _ => trivial), nv_call hS hFc hU hW hN⟩⟩ rfl rfl hl.1 rfl (lv_room (Nat.le_of_ble_eq_true rfl)) dX18_reckon_146 ⟨by decide +kernel, by decide +kernel⟩) hS (fun q _ h => hFc q h) hFc (fun u t H locs ht hvm hw hB hz1 hk1 hS => ?_)
  obtain ⟨hP1, -, hD1⟩ := hB
  rw [ht] at hP1
  have hP := hP1
  have hD := hD1.weaken (fun k q _ h => hFc q.1 h)
  refine W.widen (k := 0) (n := 0) (Nat.le_refl _) (Nat.le_refl _) ?_
  refine lv_aload_n hx hb dX18_reckon_149 rfl (lv_at hl 0 rfl) ?_
  refine lv_iload_n hx hb dX18_reckon_150 rfl (lv_at hl 2 rfl) ?_
  obtain ⟨s21, hq, h⟩ := nd_b1_e h
  have hPc := hP
  have hDc := hD
  have hKc := hK
  have hFc := nd_rs hD hS hA
  refine va_callv (va_runV (As := [.int x3]) (rest := []) ⟨hx, hb, hml, hown, hts⟩ (dm_X18_register l hlt dC dI a ac n (x3) s18 hq _) (cwV 1 hts gi_dm_X18_reckon_2 rfl rfl rfl (by decide +kernel) ⟨Nat.le_of_ble_eq_true rfl, Nat.le_of_ble_eq_true rfl⟩) ⟨fun a U g mk q => by obtain ⟨q0, q1, qP, qK, qD, qN⟩ := q; exact ⟨q0, q1, qP, va_K.moved (u := U) (U := U.calling g mk a) (Vm.Alike.refl U.vm) qK, qD, nv_same rfl rfl qN⟩, va_recv hKc hPc (ci := 19) (q0 := 0) rfl rfl, fun U hU hW => ⟨rfl, by rw [hU], by rw [hU]; exact hPc, va_K.moved hW.alike hKc, hDc.weaken (fun _ _ _ _ => trivial), nv_call hS hFc hU hW hN⟩⟩ rfl rfl hl.1 rfl (lv_room (Nat.le_of_ble_eq_true rfl)) dX18_reckon_151 ⟨by decide +kernel, by decide +kernel⟩) hS (fun q _ h => hFc q h) hFc (fun u t H locs ht hvm hw hB hz1 hk1 hS => ?_)
  obtain ⟨hP1, -, hD1⟩ := hB
  rw [ht] at hP1
  have hP := hP1
  have hD := hD1.weaken (fun k q _ h => hFc q.1 h)
  refine W.widen (k := 0) (n := 0) (Nat.le_refl _) (Nat.le_refl _) ?_
  refine lv_aload_n hx hb dX18_reckon_154 rfl (lv_at hl 0 rfl) ?_
  refine lv_iload_n hx hb dX18_reckon_155 rfl (lv_at hl 1 rfl) ?_
  obtain ⟨s24, hq, h⟩ := nd_b1_e h
  have hPc := hP
  have hDc := hD
  have hKc := hK
  have hFc := nd_rs hD hS hA
  refine va_callv (va_runV (As := [.int x2]) (rest := []) ⟨hx, hb, hml, hown, hts⟩ (dm_X18_register l hlt dC dI a ac n (x2) s21 hq _) (cwV 1 hts gi_dm_X18_reckon_2 rfl rfl rfl (by decide +kernel) ⟨Nat.le_of_ble_eq_true rfl, Nat.le_of_ble_eq_true rfl⟩) ⟨fun a U g mk q => by obtain ⟨q0, q1, qP, qK, qD, qN⟩ := q; exact ⟨q0, q1, qP, va_K.moved (u := U) (U := U.calling g mk a) (Vm.Alike.refl U.vm) qK, qD, nv_same rfl rfl qN⟩, va_recv hKc hPc (ci := 19) (q0 := 0) rfl rfl, fun U hU hW => ⟨rfl, by rw [hU], by rw [hU]; exact hPc, va_K.moved hW.alike hKc, hDc.weaken (fun _ _ _ _ => trivial), nv_call hS hFc hU hW hN⟩⟩ rfl rfl hl.1 rfl (lv_room (Nat.le_of_ble_eq_true rfl)) dX18_reckon_156 ⟨by decide +kernel, by decide +kernel⟩) hS (fun q _ h => hFc q h) hFc (fun u t H locs ht hvm hw hB hz1 hk1 hS => ?_)
  obtain ⟨hP1, -, hD1⟩ := hB
  rw [ht] at hP1
  have hP := hP1
  have hD := hD1.weaken (fun k q _ h => hFc q.1 h)
  refine W.widen (k := 0) (n := 0) (Nat.le_refl _) (Nat.le_refl _) ?_
  exact K _ _ _ _ _ dX18_reckon_159 (Option.some.inj h).symm hP hD hS
set_option maxHeartbeats 40000000 in
set_option maxRecDepth 100000 in
theorem db_X18_reckon_95 {p : Program} {l : Launch} {e : Env} {s : State} {m : MethodId} {args : Array Value} {below : List Frame} {meth : Method} {c : Code} {Q : State → Prop} {A : Nat → Prop} {dC : Nat → ClassId} {dI : Nat → Nat → Nat} {a : Nat → Nat} {ac : Nat → ClassId} {n : Nat} {r : St} (C : nd_C p l s m args c A (dC, dI) cX18_reckon 5 RX18 ow_dm_X18_reckon (dk_X18 ac)) (K : nd_Kv p l e (headSpec ow_dm_X18_reckon ({ frames := 4, cells := 0, slots := 0, locals := 89 })).room s m args below meth c Q A (dC, dI) cX18_reckon (St) (dw_X18 a ac) r) : dj_X18_reckon_95 p l e s m args below meth c Q A dC dI a ac (df_X18_reckon_95 n) r := by
  obtain ⟨hlt, hx, hb, hml, hown, hts, hN, hA, hK⟩ := id C
  intro y1 s0 H locs ls h hP hD hS hl
  unfold df_X18_reckon_95 at h
  obtain ⟨s39, hq, h⟩ := nd_b1_e h
  have hPc := hP
  have hDc := hD
  have hKc := hK
  have hFc := nd_rs hD hS hA
  refine va_callv (va_runV (As := [.int y1]) (rest := []) ⟨hx, hb, hml, hown, hts⟩ (dm_X18_immediate l hlt dC dI a ac n (y1) s0 hq _) (cwV 1 hts gi_dm_X18_reckon_3 rfl rfl rfl (by decide +kernel) ⟨Nat.le_of_ble_eq_true rfl, Nat.le_of_ble_eq_true rfl⟩) ⟨fun a U g mk q => by obtain ⟨q0, q1, qP, qK, qD, qN⟩ := q; exact ⟨q0, q1, qP, va_K.moved (u := U) (U := U.calling g mk a) (Vm.Alike.refl U.vm) qK, qD, nv_same rfl rfl qN⟩, va_recv hKc hPc (ci := 19) (q0 := 0) rfl rfl, fun U hU hW => ⟨rfl, by rw [hU], by rw [hU]; exact hPc, va_K.moved hW.alike hKc, hDc.weaken (fun _ _ _ _ => trivial), nv_call hS hFc hU hW hN⟩⟩ rfl rfl hl.1 rfl (lv_room (Nat.le_of_ble_eq_true rfl)) dX18_reckon_95 ⟨by decide +kernel, by decide +kernel⟩) hS (fun q _ h => hFc q h) hFc (fun u t H locs ht hvm hw hB hz1 hk1 hS => ?_)
  obtain ⟨hP1, -, hD1⟩ := hB
  rw [ht] at hP1
  have hP := hP1
  have hD := hD1.weaken (fun k q _ h => hFc q.1 h)
  refine W.widen (k := 0) (n := 0) (Nat.le_refl _) (Nat.le_refl _) ?_
  exact K _ _ _ _ _ dX18_reckon_98 (Option.some.inj h).symm hP hD hS
set_option maxHeartbeats 40000000 in
set_option maxRecDepth 100000 in
theorem db_X18_reckon_68 {p : Program} {l : Launch} {e : Env} {s : State} {m : MethodId} {args : Array Value} {below : List Frame} {meth : Method} {c : Code} {Q : State → Prop} {A : Nat → Prop} {dC : Nat → ClassId} {dI : Nat → Nat → Nat} {a : Nat → Nat} {ac : Nat → ClassId} {n : Nat} {r : St} (C : nd_C p l s m args c A (dC, dI) cX18_reckon 5 RX18 ow_dm_X18_reckon (dk_X18 ac)) (K : nd_Kv p l e (headSpec ow_dm_X18_reckon ({ frames := 4, cells := 0, slots := 0, locals := 89 })).room s m args below meth c Q A (dC, dI) cX18_reckon (St) (dw_X18 a ac) r) : dj_X18_reckon_68 p l e s m args below meth c Q A dC dI a ac (df_X18_reckon_68 n) r := by
  obtain ⟨hlt, hx, hb, hml, hown, hts, hN, hA, hK⟩ := id C
  intro x1 x3 y1 s0 H locs ls h hP hD hS hl
  unfold df_X18_reckon_68 at h
  obtain ⟨s29, hq, h⟩ := nd_b1_e h
  have hPc := hP
  have hDc := hD
  have hKc := hK
  have hFc := nd_rs hD hS hA
  refine va_callv (va_runV (As := [.long y1]) (rest := []) ⟨hx, hb, hml, hown, hts⟩ (dm_X18_name l hlt dC dI a ac n (y1) s0 hq _) (cwV 1 hts gi_dm_X18_reckon_1 rfl rfl rfl (by decide +kernel) ⟨Nat.le_of_ble_eq_true rfl, Nat.le_of_ble_eq_true rfl⟩) ⟨fun a U g mk q => by obtain ⟨q0, q1, qP, qK, qD, qN⟩ := q; exact ⟨q0, q1, qP, va_K.moved (u := U) (U := U.calling g mk a) (Vm.Alike.refl U.vm) qK, qD, nv_same rfl rfl qN⟩, va_recv hKc hPc (ci := 19) (q0 := 0) rfl rfl, fun U hU hW => ⟨rfl, by rw [hU], by rw [hU]; exact hPc, va_K.moved hW.alike hKc, hDc.weaken (fun _ _ _ _ => trivial), nv_call hS hFc hU hW hN⟩⟩ rfl rfl hl.1 rfl (lv_room (Nat.le_of_ble_eq_true rfl)) dX18_reckon_68 ⟨by decide +kernel, by decide +kernel⟩) hS (fun q _ h => hFc q h) hFc (fun u t H locs ht hvm hw hB hz1 hk1 hS => ?_)
  obtain ⟨hP1, -, hD1⟩ := hB
  rw [ht] at hP1
  have hP := hP1
  have hD := hD1.weaken (fun k q _ h => hFc q.1 h)
  refine W.widen (k := 0) (n := 0) (Nat.le_refl _) (Nat.le_refl _) ?_
  refine lv_aload_n hx hb dX18_reckon_71 rfl (lv_at hl 0 rfl) ?_
  refine lv_iload_n hx hb dX18_reckon_72 rfl (lv_at hl 2 rfl) ?_
  obtain ⟨s32, hq, h⟩ := nd_b1_e h
  have hPc := hP
  have hDc := hD
  have hKc := hK
  have hFc := nd_rs hD hS hA
  refine va_callv (va_runV (As := [.int x3]) (rest := []) ⟨hx, hb, hml, hown, hts⟩ (dm_X18_register l hlt dC dI a ac n (x3) s29 hq _) (cwV 1 hts gi_dm_X18_reckon_2 rfl rfl rfl (by decide +kernel) ⟨Nat.le_of_ble_eq_true rfl, Nat.le_of_ble_eq_true rfl⟩) ⟨fun a U g mk q => by obtain ⟨q0, q1, qP, qK, qD, qN⟩ := q; exact ⟨q0, q1, qP, va_K.moved (u := U) (U := U.calling g mk a) (Vm.Alike.refl U.vm) qK, qD, nv_same rfl rfl qN⟩, va_recv hKc hPc (ci := 19) (q0 := 0) rfl rfl, fun U hU hW => ⟨rfl, by rw [hU], by rw [hU]; exact hPc, va_K.moved hW.alike hKc, hDc.weaken (fun _ _ _ _ => trivial), nv_call hS hFc hU hW hN⟩⟩ rfl rfl hl.1 rfl (lv_room (Nat.le_of_ble_eq_true rfl)) dX18_reckon_73 ⟨by decide +kernel, by decide +kernel⟩) hS (fun q _ h => hFc q h) hFc (fun u t H locs ht hvm hw hB hz1 hk1 hS => ?_)
  obtain ⟨hP1, -, hD1⟩ := hB
  rw [ht] at hP1
  have hP := hP1
  have hD := hD1.weaken (fun k q _ h => hFc q.1 h)
  refine W.widen (k := 0) (n := 0) (Nat.le_refl _) (Nat.le_refl _) ?_
  refine lv_aload_n hx hb dX18_reckon_76 rfl (lv_at hl 0 rfl) ?_
  refine lv_iload_n hx hb dX18_reckon_77 rfl (lv_at hl 1 rfl) ?_
  refine lv_iconst (v := 2) hx hb dX18_reckon_78 (by decide) ?_
  refine lv_icmp_ne (tgt := 89) hx hb dX18_reckon_79 (by decide) (fun c34 => ?_) (fun c34 => ?_)
  · have h := nd_neg h c34
    refine lv_aload_n hx hb dX18_reckon_89 rfl (lv_at hl 0 rfl) ?_
    refine lv_iconst (v := 2) hx hb dX18_reckon_90 (by decide) ?_
    refine lv_iconst (v := 5) hx hb dX18_reckon_91 (by decide) ?_
    obtain ⟨q35, s36, hq, h⟩ := nd_b2_e h
    have hPc := hP
    have hDc := hD
    have hKc := hK
    have hFc := nd_rs hD hS hA
    refine va_calli (va_runV (As := [.int 2, .int 5]) (rest := [.ref (a 0)]) ⟨hx, hb, hml, hown, hts⟩ (dm_X18_part l hlt dC dI a ac n (2) (5) s32 hq _) (cwV 2 hts gi_dm_X18_reckon_0 rfl rfl rfl (by decide +kernel) ⟨Nat.le_of_ble_eq_true rfl, Nat.le_of_ble_eq_true rfl⟩) ⟨fun a U g mk q => by obtain ⟨q0, q1, qP, qK, qD, qN⟩ := q; exact ⟨q0, q1, qP, va_K.moved (u := U) (U := U.calling g mk a) (Vm.Alike.refl U.vm) qK, qD, nv_same rfl rfl qN⟩, va_recv hKc hPc (ci := 19) (q0 := 0) rfl rfl, fun U hU hW => ⟨rfl, by rw [hU], by rw [hU]; exact hPc, va_K.moved hW.alike hKc, hDc.weaken (fun _ _ _ _ => trivial), nv_call hS hFc hU hW hN⟩⟩ rfl rfl hl.1 rfl (lv_room (Nat.le_of_ble_eq_true rfl)) dX18_reckon_92 ⟨by decide +kernel, by decide +kernel⟩) hS (fun q _ h => hFc q h) hFc (fun r37 u t H locs ht hvm hw hB hz1 hk1 hS => ?_)
    obtain rfl : q35 = r37 := Eq.symm hw
    obtain ⟨hP1, -, hD1⟩ := hB
    rw [ht] at hP1
    have hP := hP1
    have hD := hD1.weaken (fun k q _ h => hFc q.1 h)
    refine W.widen (k := 0) (n := 0) (Nat.le_refl _) (Nat.le_refl _) ?_
    exact (db_X18_reckon_95 C K) (q35) s36 _ _ _ h hP hD hS (lv_sub hl [] rfl)
  · have h := nd_pos h c34
    refine lv_aload_n hx hb dX18_reckon_82 rfl (lv_at hl 0 rfl) ?_
    obtain ⟨q41, s42, hq, h⟩ := nd_b2_e h
    have hPc := hP
    have hDc := hD
    have hKc := hK
    have hFc := nd_rs hD hS hA
    refine va_calli (va_runV (As := []) (rest := [.ref (a 0)]) ⟨hx, hb, hml, hown, hts⟩ (dm_X18_six l hlt dC dI a ac n  s32 hq _) (cwV 0 hts gi_dm_X18_reckon_4 rfl rfl rfl (by decide +kernel) ⟨Nat.le_of_ble_eq_true rfl, Nat.le_of_ble_eq_true rfl⟩) ⟨fun a U g mk q => by obtain ⟨q0, q1, qP, qK, qD, qN⟩ := q; exact ⟨q0, q1, qP, va_K.moved (u := U) (U := U.calling g mk a) (Vm.Alike.refl U.vm) qK, qD, nv_same rfl rfl qN⟩, va_recv hKc hPc (ci := 19) (q0 := 0) rfl rfl, fun U hU hW => ⟨rfl, by rw [hU], by rw [hU]; exact hPc, va_K.moved hW.alike hKc, hDc.weaken (fun _ _ _ _ => trivial), nv_call hS hFc hU hW hN⟩⟩ rfl rfl hl.1 rfl (lv_room (Nat.le_of_ble_eq_true rfl)) dX18_reckon_83 ⟨by decide +kernel, by decide +kernel⟩) hS (fun q _ h => hFc q h) hFc (fun r43 u t H locs ht hvm hw hB hz1 hk1 hS => ?_)
    obtain rfl : q41 = r43 := Eq.symm hw
    obtain ⟨hP1, -, hD1⟩ := hB
    rw [ht] at hP1
    have hP := hP1
    have hD := hD1.weaken (fun k q _ h => hFc q.1 h)
    refine W.widen (k := 0) (n := 0) (Nat.le_refl _) (Nat.le_refl _) ?_
    refine lv_goto (tgt := 95) hx hb dX18_reckon_86 (by decide) ?_
    exact (db_X18_reckon_95 C K) (q41) s42 _ _ _ h hP hD hS (lv_sub hl [] rfl)
set_option maxHeartbeats 40000000 in
set_option maxRecDepth 100000 in
theorem db_X18_reckon_38 {p : Program} {l : Launch} {e : Env} {s : State} {m : MethodId} {args : Array Value} {below : List Frame} {meth : Method} {c : Code} {Q : State → Prop} {A : Nat → Prop} {dC : Nat → ClassId} {dI : Nat → Nat → Nat} {a : Nat → Nat} {ac : Nat → ClassId} {n : Nat} {r : St} (C : nd_C p l s m args c A (dC, dI) cX18_reckon 5 RX18 ow_dm_X18_reckon (dk_X18 ac)) (K : nd_Kv p l e (headSpec ow_dm_X18_reckon ({ frames := 4, cells := 0, slots := 0, locals := 89 })).room s m args below meth c Q A (dC, dI) cX18_reckon (St) (dw_X18 a ac) r) : dj_X18_reckon_38 p l e s m args below meth c Q A dC dI a ac (df_X18_reckon_38 n) r := by
  obtain ⟨hlt, hx, hb, hml, hown, hts, hN, hA, hK⟩ := id C
  intro x1 x2 x3 s0 H locs ls h hP hD hS hl
  unfold df_X18_reckon_38 at h
  refine lv_iload_n hx hb dX18_reckon_38 rfl (lv_at hl 1 rfl) ?_
  refine lv_iconst (v := 3) hx hb dX18_reckon_39 (by decide) ?_
  refine lv_icmp_ge (tgt := 99) hx hb dX18_reckon_40 (by decide) (fun c10 => ?_) (fun c10 => ?_)
  · have h := nd_pos h c10
    refine lv_aload_n hx hb dX18_reckon_99 rfl (lv_at hl 0 rfl) ?_
    refine lv_iconst (v := 5) hx hb dX18_reckon_100 (by decide) ?_
    refine lv_iconst (v := 2) hx hb dX18_reckon_101 (by decide) ?_
    obtain ⟨q11, s12, hq, h⟩ := nd_b2_e h
    have hPc := hP
    have hDc := hD
    have hKc := hK
    have hFc := nd_rs hD hS hA
    refine va_calli (va_runV (As := [.int 5, .int 2]) (rest := []) ⟨hx, hb, hml, hown, hts⟩ (dm_X18_part l hlt dC dI a ac n (5) (2) s0 hq _) (cwV 2 hts gi_dm_X18_reckon_0 rfl rfl rfl (by decide +kernel) ⟨Nat.le_of_ble_eq_true rfl, Nat.le_of_ble_eq_true rfl⟩) ⟨fun a U g mk q => by obtain ⟨q0, q1, qP, qK, qD, qN⟩ := q; exact ⟨q0, q1, qP, va_K.moved (u := U) (U := U.calling g mk a) (Vm.Alike.refl U.vm) qK, qD, nv_same rfl rfl qN⟩, va_recv hKc hPc (ci := 19) (q0 := 0) rfl rfl, fun U hU hW => ⟨rfl, by rw [hU], by rw [hU]; exact hPc, va_K.moved hW.alike hKc, hDc.weaken (fun _ _ _ _ => trivial), nv_call hS hFc hU hW hN⟩⟩ rfl rfl hl.1 rfl (lv_room (Nat.le_of_ble_eq_true rfl)) dX18_reckon_102 ⟨by decide +kernel, by decide +kernel⟩) hS (fun q _ h => hFc q h) hFc (fun r13 u t H locs ht hvm hw hB hz1 hk1 hS => ?_)
    obtain rfl : q11 = r13 := Eq.symm hw
    obtain ⟨hP1, -, hD1⟩ := hB
    rw [ht] at hP1
    have hP := hP1
    have hD := hD1.weaken (fun k q _ h => hFc q.1 h)
    refine W.widen (k := 0) (n := 0) (Nat.le_refl _) (Nat.le_refl _) ?_
    refine lv_istore (lv' := [(4, .int q11), (0, .ref (a 0)), (1, .int x1), (2, .int x2), (3, .int x3)]) hx hb dX18_reckon_105 hl (by decide) rfl (fun ls hl => ?_)
    refine lv_aload_n hx hb dX18_reckon_107 rfl (lv_at hl 1 rfl) ?_
    refine lv_iload hx hb dX18_reckon_108 (lv_at hl 0 rfl) ?_
    refine lv_if_ne (tgt := 119) hx hb dX18_reckon_110 (by decide) (fun c14 => ?_) (fun c14 => ?_)
    · have h := nd_neg h c14
      refine lv_iload hx hb dX18_reckon_119 (lv_at hl 0 rfl) ?_
      refine lv_iconst (v := 1) hx hb dX18_reckon_121 (by decide) ?_
      refine lv_icmp_ne (tgt := 131) hx hb dX18_reckon_122 (by decide) (fun c15 => ?_) (fun c15 => ?_)
      · have h := nd_neg h c15
        refine lv_iload hx hb dX18_reckon_131 (lv_at hl 0 rfl) ?_
        refine lv_iconst (v := 2) hx hb dX18_reckon_133 (by decide) ?_
        refine lv_icmp_ne (tgt := 143) hx hb dX18_reckon_134 (by decide) (fun c16 => ?_) (fun c16 => ?_)
        · have h := nd_neg h c16
          refine lv_ldc2 hx hb hown (hts (.constantLong RX18 277 (431348592227)) (List.mem_of_getElem? (i := 5) rfl)) dX18_reckon_143 ?_
          exact (db_X18_reckon_146 C K) (x2) (x3) (431348592227) s12 _ _ _ h hP hD hS (lv_sub hl [1, 3, 4] rfl)
        · have h := nd_pos h c16
          refine lv_ldc2 hx hb hown (hts (.constantLong RX18 275 (1919888995)) (List.mem_of_getElem? (i := 12) rfl)) dX18_reckon_137 ?_
          refine lv_goto (tgt := 146) hx hb dX18_reckon_140 (by decide) ?_
          exact (db_X18_reckon_146 C K) (x2) (x3) (1919888995) s12 _ _ _ h hP hD hS (lv_sub hl [1, 3, 4] rfl)
      · have h := nd_pos h c15
        refine lv_ldc2 hx hb hown (hts (.constantLong RX18 273 (491496418915)) (List.mem_of_getElem? (i := 13) rfl)) dX18_reckon_125 ?_
        refine lv_goto (tgt := 146) hx hb dX18_reckon_128 (by decide) ?_
        exact (db_X18_reckon_146 C K) (x2) (x3) (491496418915) s12 _ _ _ h hP hD hS (lv_sub hl [1, 3, 4] rfl)
    · have h := nd_pos h c14
      refine lv_ldc2 hx hb hown (hts (.constantLong RX18 271 (422877277795)) (List.mem_of_getElem? (i := 14) rfl)) dX18_reckon_113 ?_
      refine lv_goto (tgt := 146) hx hb dX18_reckon_116 (by decide) ?_
      exact (db_X18_reckon_146 C K) (x2) (x3) (422877277795) s12 _ _ _ h hP hD hS (lv_sub hl [1, 3, 4] rfl)
  · have h := nd_neg h c10
    refine lv_aload_n hx hb dX18_reckon_43 rfl (lv_at hl 0 rfl) ?_
    refine lv_iload_n hx hb dX18_reckon_44 rfl (lv_at hl 1 rfl) ?_
    refine lv_if_ne (tgt := 54) hx hb dX18_reckon_45 (by decide) (fun c26 => ?_) (fun c26 => ?_)
    · have h := nd_neg h c26
      refine lv_iload_n hx hb dX18_reckon_54 rfl (lv_at hl 1 rfl) ?_
      refine lv_iconst (v := 1) hx hb dX18_reckon_55 (by decide) ?_
      refine lv_icmp_ne (tgt := 65) hx hb dX18_reckon_56 (by decide) (fun c27 => ?_) (fun c27 => ?_)
      · have h := nd_neg h c27
        refine lv_ldc2 hx hb hown (hts (.constantLong RX18 265 (115880069508707)) (List.mem_of_getElem? (i := 15) rfl)) dX18_reckon_65 ?_
        exact (db_X18_reckon_68 C K) (x1) (x3) (115880069508707) s0 _ _ _ h hP hD hS (lv_sub hl [0, 1, 3] rfl)
      · have h := nd_pos h c27
        refine lv_ldc2 hx hb hown (hts (.constantLong RX18 263 (115867252895331)) (List.mem_of_getElem? (i := 22) rfl)) dX18_reckon_59 ?_
        refine lv_goto (tgt := 68) hx hb dX18_reckon_62 (by decide) ?_
        exact (db_X18_reckon_68 C K) (x1) (x3) (115867252895331) s0 _ _ _ h hP hD hS (lv_sub hl [0, 1, 3] rfl)
    · have h := nd_pos h c26
      refine lv_ldc2 hx hb hown (hts (.constantLong RX18 261 (115914497535587)) (List.mem_of_getElem? (i := 23) rfl)) dX18_reckon_48 ?_
      refine lv_goto (tgt := 68) hx hb dX18_reckon_51 (by decide) ?_
      exact (db_X18_reckon_68 C K) (x1) (x3) (115914497535587) s0 _ _ _ h hP hD hS (lv_sub hl [0, 1, 3] rfl)
set_option maxHeartbeats 40000000 in
set_option maxRecDepth 100000 in
theorem db_X18_reckon_0 {p : Program} {l : Launch} {e : Env} {s : State} {m : MethodId} {args : Array Value} {below : List Frame} {meth : Method} {c : Code} {Q : State → Prop} {A : Nat → Prop} {dC : Nat → ClassId} {dI : Nat → Nat → Nat} {a : Nat → Nat} {ac : Nat → ClassId} {n : Nat} {r : St} (C : nd_C p l s m args c A (dC, dI) cX18_reckon 5 RX18 ow_dm_X18_reckon (dk_X18 ac)) (K : nd_Kv p l e (headSpec ow_dm_X18_reckon ({ frames := 4, cells := 0, slots := 0, locals := 89 })).room s m args below meth c Q A (dC, dI) cX18_reckon (St) (dw_X18 a ac) r) : dj_X18_reckon_0 p l e s m args below meth c Q A dC dI a ac (df_X18_reckon_0 n) r := by
  obtain ⟨hlt, hx, hb, hml, hown, hts, hN, hA, hK⟩ := id C
  intro v0 s0 H locs ls h hP hD hS hl
  unfold df_X18_reckon_0 at h
  refine lv_bipush (v := 8) hx hb dX18_reckon_0 (by decide) ?_
  refine lv_aload_n hx hb dX18_reckon_2 rfl (lv_at hl 0 rfl) ?_
  refine lv_iconst (v := 2) hx hb dX18_reckon_3 (by decide) ?_
  refine lv_iconst (v := 3) hx hb dX18_reckon_4 (by decide) ?_
  obtain ⟨q1, s2, hq, h⟩ := nd_b2_e h
  have hPc := hP
  have hDc := hD
  have hKc := hK
  have hFc := nd_rs hD hS hA
  refine va_calli (va_runV (As := [.int 2, .int 3]) (rest := [.int 8]) ⟨hx, hb, hml, hown, hts⟩ (dm_X18_part l hlt dC dI a ac n (2) (3) s0 hq _) (cwV 2 hts gi_dm_X18_reckon_0 rfl rfl rfl (by decide +kernel) ⟨Nat.le_of_ble_eq_true rfl, Nat.le_of_ble_eq_true rfl⟩) ⟨fun a U g mk q => by obtain ⟨q0, q1, qP, qK, qD, qN⟩ := q; exact ⟨q0, q1, qP, va_K.moved (u := U) (U := U.calling g mk a) (Vm.Alike.refl U.vm) qK, qD, nv_same rfl rfl qN⟩, va_recv hKc hPc (ci := 19) (q0 := 0) rfl rfl, fun U hU hW => ⟨rfl, by rw [hU], by rw [hU]; exact hPc, va_K.moved hW.alike hKc, hDc.weaken (fun _ _ _ _ => trivial), nv_call hS hFc hU hW hN⟩⟩ rfl rfl hl.1 rfl (lv_room (Nat.le_of_ble_eq_true rfl)) dX18_reckon_5 ⟨by decide +kernel, by decide +kernel⟩) hS (fun q _ h => hFc q h) hFc (fun r3 u t H locs ht hvm hw hB hz1 hk1 hS => ?_)
  obtain rfl : q1 = r3 := Eq.symm hw
  obtain ⟨hP1, -, hD1⟩ := hB
  rw [ht] at hP1
  have hP := hP1
  have hD := hD1.weaken (fun k q _ h => hFc q.1 h)
  refine W.widen (k := 0) (n := 0) (Nat.le_refl _) (Nat.le_refl _) ?_
  refine lv_iadd hx hb dX18_reckon_8 ?_
  refine lv_topi (fun z4 ez4 => ?_)
  have h := nd_at h ez4
  refine lv_istore_n (lv' := [(2, .int z4), (0, .ref (a 0)), (1, .int v0)]) hx hb dX18_reckon_9 rfl hl (by decide) rfl (fun ls hl => ?_)
  refine lv_bipush (v := 8) hx hb dX18_reckon_10 (by decide) ?_
  refine lv_aload_n hx hb dX18_reckon_12 rfl (lv_at hl 1 rfl) ?_
  refine lv_bipush (v := 7) hx hb dX18_reckon_13 (by decide) ?_
  refine lv_iconst (v := 3) hx hb dX18_reckon_15 (by decide) ?_
  obtain ⟨q5, s6, hq, h⟩ := nd_b2_e h
  have hPc := hP
  have hDc := hD
  have hKc := hK
  have hFc := nd_rs hD hS hA
  refine va_calli (va_runV (As := [.int 7, .int 3]) (rest := [.int 8]) ⟨hx, hb, hml, hown, hts⟩ (dm_X18_part l hlt dC dI a ac n (7) (3) s2 hq _) (cwV 2 hts gi_dm_X18_reckon_0 rfl rfl rfl (by decide +kernel) ⟨Nat.le_of_ble_eq_true rfl, Nat.le_of_ble_eq_true rfl⟩) ⟨fun a U g mk q => by obtain ⟨q0, q1, qP, qK, qD, qN⟩ := q; exact ⟨q0, q1, qP, va_K.moved (u := U) (U := U.calling g mk a) (Vm.Alike.refl U.vm) qK, qD, nv_same rfl rfl qN⟩, va_recv hKc hPc (ci := 19) (q0 := 0) rfl rfl, fun U hU hW => ⟨rfl, by rw [hU], by rw [hU]; exact hPc, va_K.moved hW.alike hKc, hDc.weaken (fun _ _ _ _ => trivial), nv_call hS hFc hU hW hN⟩⟩ rfl rfl hl.1 rfl (lv_room (Nat.le_of_ble_eq_true rfl)) dX18_reckon_16 ⟨by decide +kernel, by decide +kernel⟩) hS (fun q _ h => hFc q h) hFc (fun r7 u t H locs ht hvm hw hB hz1 hk1 hS => ?_)
  obtain rfl : q5 = r7 := Eq.symm hw
  obtain ⟨hP1, -, hD1⟩ := hB
  rw [ht] at hP1
  have hP := hP1
  have hD := hD1.weaken (fun k q _ h => hFc q.1 h)
  refine W.widen (k := 0) (n := 0) (Nat.le_refl _) (Nat.le_refl _) ?_
  refine lv_iadd hx hb dX18_reckon_19 ?_
  refine lv_topi (fun z8 ez8 => ?_)
  have h := nd_at h ez8
  refine lv_istore_n (lv' := [(3, .int z8), (2, .int z4), (0, .ref (a 0)), (1, .int v0)]) hx hb dX18_reckon_20 rfl hl (by decide) rfl (fun ls hl => ?_)
  refine lv_iload_n hx hb dX18_reckon_21 rfl (lv_at hl 3 rfl) ?_
  refine lv_iconst (v := 2) hx hb dX18_reckon_22 (by decide) ?_
  refine lv_icmp_eq (tgt := 38) hx hb dX18_reckon_23 (by decide) (fun c9 => ?_) (fun c9 => ?_)
  · have h := nd_pos h c9
    exact (db_X18_reckon_38 C K) (v0) (z4) (z8) s6 _ _ _ h hP hD hS (lv_sub hl [2, 3, 1, 0] rfl)
  · have h := nd_neg h c9
    refine lv_aload_n hx hb dX18_reckon_26 rfl (lv_at hl 2 rfl) ?_
    refine lv_bipush (v := 12) hx hb dX18_reckon_27 (by decide) ?_
    refine lv_iconst (v := 1) hx hb dX18_reckon_29 (by decide) ?_
    obtain ⟨q44, s45, hq, h⟩ := nd_b2_e h
    have hPc := hP
    have hDc := hD
    have hKc := hK
    have hFc := nd_rs hD hS hA
    refine va_calli (va_runV (As := [.int 12, .int 1]) (rest := []) ⟨hx, hb, hml, hown, hts⟩ (dm_X18_part l hlt dC dI a ac n (12) (1) s6 hq _) (cwV 2 hts gi_dm_X18_reckon_0 rfl rfl rfl (by decide +kernel) ⟨Nat.le_of_ble_eq_true rfl, Nat.le_of_ble_eq_true rfl⟩) ⟨fun a U g mk q => by obtain ⟨q0, q1, qP, qK, qD, qN⟩ := q; exact ⟨q0, q1, qP, va_K.moved (u := U) (U := U.calling g mk a) (Vm.Alike.refl U.vm) qK, qD, nv_same rfl rfl qN⟩, va_recv hKc hPc (ci := 19) (q0 := 0) rfl rfl, fun U hU hW => ⟨rfl, by rw [hU], by rw [hU]; exact hPc, va_K.moved hW.alike hKc, hDc.weaken (fun _ _ _ _ => trivial), nv_call hS hFc hU hW hN⟩⟩ rfl rfl hl.1 rfl (lv_room (Nat.le_of_ble_eq_true rfl)) dX18_reckon_30 ⟨by decide +kernel, by decide +kernel⟩) hS (fun q _ h => hFc q h) hFc (fun r46 u t H locs ht hvm hw hB hz1 hk1 hS => ?_)
    obtain rfl : q44 = r46 := Eq.symm hw
    obtain ⟨hP1, -, hD1⟩ := hB
    rw [ht] at hP1
    have hP := hP1
    have hD := hD1.weaken (fun k q _ h => hFc q.1 h)
    refine W.widen (k := 0) (n := 0) (Nat.le_refl _) (Nat.le_refl _) ?_
    refine lv_iconst (v := 1) hx hb dX18_reckon_33 (by decide) ?_
    refine lv_icmp_ne (tgt := 38) hx hb dX18_reckon_34 (by decide) (fun c47 => ?_) (fun c47 => ?_)
    · have h := nd_neg h c47
      exact (db_X18_reckon_38 C K) (v0) (z4) (z8) s45 _ _ _ h hP hD hS (lv_sub hl [2, 3, 1, 0] rfl)
    · have h := nd_pos h c47
      exact K _ _ _ _ _ dX18_reckon_37 (Option.some.inj h).symm hP hD hS
set_option maxHeartbeats 40000000 in
set_option maxRecDepth 100000 in
theorem dm_X18_reckon (l : Launch) (hlt : l.stackTraces = false) (dC : Nat → ClassId) (dI : Nat → Nat → Nat) (a : Nat → Nat) (ac : Nat → ClassId) (n : Nat) (v0 : Int32) (s0 : St) {r : St} (h : df_X18_reckon n v0 s0 = some r) (sz : Nat) : Met l yX18_reckon ow_dm_X18_reckon ({ frames := 4, cells := 0, slots := 0, locals := 89 }) (va_Pc [.ref (a 0), .int v0] (fun U => U.heap.size = sz ∧ va_P (dC, dI) vwCl (dw_X18 a ac s0) U.heap ∧ va_K (dC, dI) vwCl (dk_X18 ac) U ∧ va_D (fun _ => True) (dw_X18 a ac s0) ∧ nv_E (va_A (dw_X18 a ac s0) sz) U)) (va_Qv (fun _ => True) (fun (_ : Unit) t => va_P (dC, dI) vwCl (dw_X18 a ac r) t.heap ∧ va_K (dC, dI) vwCl (dk_X18 ac) t ∧ va_D (va_A (dw_X18 a ac s0) sz) (dw_X18 a ac r)) (va_A (dw_X18 a ac s0) sz)) 0 0 (va_A (dw_X18 a ac s0) sz) := by
  refine Met.ofW (cc := cX18_reckon) (maxL := 5) (ret := none) (by decide) rfl ?_
  intro p e s m args below meth c s₁ B hml hv
  obtain ⟨rfl, hsz, hP, hK, hD0, hN⟩ := hv
  have hx := B.exec
  have hb := B.bytes
  have hr := B.returns
  have hts := atoms_spec (ws := ow_dm_X18_reckon) B.pre
  have hown : s.vm.findClass RX18 = some m.cls := findClass_of_methodNamed B.named
  have hlocks := B.notSynchronized
  subst hsz
  have hD := hD0.self (sz := s.heap.size)
  generalize hAe : va_A (dw_X18 a ac s0) s.heap.size = A at hD hN ⊢
  have hA : ∀ q : Nat, s.heap.size ≤ q → A q := fun q h => by rw [← hAe]; exact Or.inr h
  have hl := lv_entry ([.ref (a 0), .int v0]) (n := 5) (Nat.le_of_ble_eq_true rfl)
  rw [lg_entry_eq]
  generalize (lg_sl ([.ref (a 0), .int v0]) ++ List.replicate (5 - (lg_sl ([.ref (a 0), .int v0])).length) Slot.unset).toArray = ls at hl ⊢
  have hl : lv_has ls 5 [(0, .ref (a 0)), (1, .int v0)] := hl
  exact db_X18_reckon_0 (dC := dC) (dI := dI) (a := a) (ac := ac) (n := n) (r := r) ⟨hlt, hx, hb, hml, hown, hts, hN, hA, hK⟩ (fun pc τ H locs ls d er hP hD hS => by subst er; exact W.vret hx hb hr (fun t ht hW => ⟨⟨(), rfl, trivial, by rw [ht]; exact hP, va_K.moved hW.alike hK, hD⟩, hS.F ht⟩) hS.2.2 d) v0 s0 _ _ _ h hP hD va_S.rf (lv_sub hl [0, 1] rfl)
def ow_dm_X18_upper : List Cond := .code yX18_upper cX18_upper 2 none :: ([.methodLink RX18 172 yX18_part, .instanceMethod yX18_part, .selects RX18 yX18_part yX18_part, .initialized RX18, .fieldLink RX18 68 "TimeMachineModel$Reader" "d" "I", .methodLink RX18 267 yX18_six, .instanceMethod yX18_six, .selects RX18 yX18_six yX18_six, .constantLong RX18 283 (452941590115), .methodLink RX18 65 yX18_name, .instanceMethod yX18_name, .selects RX18 yX18_name yX18_name, .methodLink RX18 71 yX18_register, .instanceMethod yX18_register, .selects RX18 yX18_register yX18_register, .methodLink RX18 59 yX18_immediate, .instanceMethod yX18_immediate, .selects RX18 yX18_immediate yX18_immediate, .constantLong RX18 279 (3905018231808667235), .constantLong RX18 281 (28787), .methodLink RX18 50 yX18_say, .instanceMethod yX18_say, .selects RX18 yX18_say yX18_say] ++ (u_ws RX18 TX18 10 ++ (ow_dm_X18_part ++ (ow_dm_X18_six ++ (ow_dm_X18_name ++ (ow_dm_X18_register ++ (ow_dm_X18_immediate ++ (ow_dm_X18_say ++ []))))))))
theorem gd_dm_X18_upper : ∀ w ∈ ow_dm_X18_upper, (w.onTables && w.keeps) = true ∨ ∃ ty, w = Cond.arrayClass ty := List.forall_mem_cons.mpr ⟨good_of_word rfl, List.forall_mem_append.mpr ⟨fun w h => good_of_word (List.all_eq_true.mp (by decide +kernel) w h), List.forall_mem_append.mpr ⟨gu_X18, List.forall_mem_append.mpr ⟨gd_dm_X18_part, List.forall_mem_append.mpr ⟨gd_dm_X18_six, List.forall_mem_append.mpr ⟨gd_dm_X18_name, List.forall_mem_append.mpr ⟨gd_dm_X18_register, List.forall_mem_append.mpr ⟨gd_dm_X18_immediate, List.forall_mem_append.mpr ⟨gd_dm_X18_say, fun _ h => nomatch h⟩⟩⟩⟩⟩⟩⟩⟩⟩
theorem hi_dm_X18_upper_X18 : ∀ w ∈ u_ws RX18 TX18 10, w ∈ ow_dm_X18_upper := fun w h => List.mem_cons_of_mem _ (List.mem_append_right _ (List.mem_append_left _ h))
theorem gi_dm_X18_upper_0 : GoodIn ow_dm_X18_upper (wsV RX18 172 RX18 yX18_part ow_dm_X18_part) := goodIn_app (goodIn_of _ (by decide +kernel)) (fun w h => ⟨List.mem_cons_of_mem _ (List.mem_append_right _ (List.mem_append_right _ (List.mem_append_left _ h))), gd_dm_X18_part w h⟩)
theorem gi_dm_X18_upper_1 : GoodIn ow_dm_X18_upper (wsV RX18 267 RX18 yX18_six ow_dm_X18_six) := goodIn_app (goodIn_of _ (by decide +kernel)) (fun w h => ⟨List.mem_cons_of_mem _ (List.mem_append_right _ (List.mem_append_right _ (List.mem_append_right _ (List.mem_append_left _ h)))), gd_dm_X18_six w h⟩)
theorem gi_dm_X18_upper_2 : GoodIn ow_dm_X18_upper (wsV RX18 65 RX18 yX18_name ow_dm_X18_name) := goodIn_app (goodIn_of _ (by decide +kernel)) (fun w h => ⟨List.mem_cons_of_mem _ (List.mem_append_right _ (List.mem_append_right _ (List.mem_append_right _ (List.mem_append_right _ (List.mem_append_left _ h))))), gd_dm_X18_name w h⟩)
theorem gi_dm_X18_upper_3 : GoodIn ow_dm_X18_upper (wsV RX18 71 RX18 yX18_register ow_dm_X18_register) := goodIn_app (goodIn_of _ (by decide +kernel)) (fun w h => ⟨List.mem_cons_of_mem _ (List.mem_append_right _ (List.mem_append_right _ (List.mem_append_right _ (List.mem_append_right _ (List.mem_append_right _ (List.mem_append_left _ h)))))), gd_dm_X18_register w h⟩)
theorem gi_dm_X18_upper_4 : GoodIn ow_dm_X18_upper (wsV RX18 59 RX18 yX18_immediate ow_dm_X18_immediate) := goodIn_app (goodIn_of _ (by decide +kernel)) (fun w h => ⟨List.mem_cons_of_mem _ (List.mem_append_right _ (List.mem_append_right _ (List.mem_append_right _ (List.mem_append_right _ (List.mem_append_right _ (List.mem_append_right _ (List.mem_append_left _ h))))))), gd_dm_X18_immediate w h⟩)
theorem gi_dm_X18_upper_5 : GoodIn ow_dm_X18_upper (wsV RX18 50 RX18 yX18_say ow_dm_X18_say) := goodIn_app (goodIn_of _ (by decide +kernel)) (fun w h => ⟨List.mem_cons_of_mem _ (List.mem_append_right _ (List.mem_append_right _ (List.mem_append_right _ (List.mem_append_right _ (List.mem_append_right _ (List.mem_append_right _ (List.mem_append_right _ (List.mem_append_left _ h)))))))), gd_dm_X18_say w h⟩)
def dj_X18_upper_74 (p : Program) (l : Launch) (e : Env) (s : State) (m : MethodId) (args : Array Value) (below : List Frame) (meth : Method) (c : Code) (Q : State → Prop) (A : Nat → Prop) (dC : Nat → ClassId) (dI : Nat → Nat → Nat) (a : Nat → Nat) (ac : Nat → ClassId) (g : Int32 → (St) → Option (St)) (r : St) : Prop := ∀ (x1 : Int32) (s0 : St) (H : Heap) (locs : List Loc) (ls : Array Slot), g x1 s0 = some r → va_P (dC, dI) vwCl (dw_X18 a ac s0) H → va_D A (dw_X18 a ac s0) → va_S A s.heap H locs → lv_has ls 2 [(0, .ref (a 0)), (1, .int x1)] → W p l e (headSpec ow_dm_X18_upper ({ frames := 4, cells := 0, slots := 0, locals := 89 })).room s m args below meth c H locs 0 0 Q (F0 m 74 ls [])
def dj_X18_upper_73 (p : Program) (l : Launch) (e : Env) (s : State) (m : MethodId) (args : Array Value) (below : List Frame) (meth : Method) (c : Code) (Q : State → Prop) (A : Nat → Prop) (dC : Nat → ClassId) (dI : Nat → Nat → Nat) (a : Nat → Nat) (ac : Nat → ClassId) (g : (St) → Option (St)) (r : St) : Prop := ∀ (s0 : St) (H : Heap) (locs : List Loc) (ls : Array Slot), g s0 = some r → va_P (dC, dI) vwCl (dw_X18 a ac s0) H → va_D A (dw_X18 a ac s0) → va_S A s.heap H locs → lv_has ls 2 [] → W p l e (headSpec ow_dm_X18_upper ({ frames := 4, cells := 0, slots := 0, locals := 89 })).room s m args below meth c H locs 0 0 Q (F0 m 73 ls [])
def dj_X18_upper_0 (p : Program) (l : Launch) (e : Env) (s : State) (m : MethodId) (args : Array Value) (below : List Frame) (meth : Method) (c : Code) (Q : State → Prop) (A : Nat → Prop) (dC : Nat → ClassId) (dI : Nat → Nat → Nat) (a : Nat → Nat) (ac : Nat → ClassId) (g : (St) → Option (St)) (r : St) : Prop := ∀ (s0 : St) (H : Heap) (locs : List Loc) (ls : Array Slot), g s0 = some r → va_P (dC, dI) vwCl (dw_X18 a ac s0) H → va_D A (dw_X18 a ac s0) → va_S A s.heap H locs → lv_has ls 2 [(0, .ref (a 0))] → W p l e (headSpec ow_dm_X18_upper ({ frames := 4, cells := 0, slots := 0, locals := 89 })).room s m args below meth c H locs 0 0 Q (F0 m 0 ls [])
set_option maxHeartbeats 40000000 in
set_option maxRecDepth 100000 in
theorem db_X18_upper_74 {p : Program} {l : Launch} {e : Env} {s : State} {m : MethodId} {args : Array Value} {below : List Frame} {meth : Method} {c : Code} {Q : State → Prop} {A : Nat → Prop} {dC : Nat → ClassId} {dI : Nat → Nat → Nat} {a : Nat → Nat} {ac : Nat → ClassId} {n : Nat} {r : St} (C : nd_C p l s m args c A (dC, dI) cX18_upper 2 RX18 ow_dm_X18_upper (dk_X18 ac)) (K : nd_Kv p l e (headSpec ow_dm_X18_upper ({ frames := 4, cells := 0, slots := 0, locals := 89 })).room s m args below meth c Q A (dC, dI) cX18_upper (St) (dw_X18 a ac) r) : dj_X18_upper_74 p l e s m args below meth c Q A dC dI a ac (df_X18_upper_74 n) r := by
  obtain ⟨hlt, hx, hb, hml, hown, hts, hN, hA, hK⟩ := id C
  intro x1 s0 H locs ls h hP hD hS hl
  unfold df_X18_upper_74 at h
  refine lv_aload_n hx hb dX18_upper_74 rfl (lv_at hl 0 rfl) ?_
  refine va_get (D := (dC, dI)) (ci := 19) (v := .int (sI s0 4)) (C := RX18) (T := TX18) (N := 10) hx hb hts hi_dm_X18_upper_X18 hown hK hP 0 rfl rfl 5 (by decide) (hts (.fieldLink RX18 68 "TimeMachineModel$Reader" "d" "I") (List.mem_of_getElem? (i := 5) rfl)) (fun _ h9 => h9) rfl dX18_upper_75 ?_
  refine lv_iconst (v := 2) hx hb dX18_upper_78 (by decide) ?_
  refine lv_icmp_ne (tgt := 102) hx hb dX18_upper_79 (by decide) (fun c22 => ?_) (fun c22 => ?_)
  · have h := nd_neg h c22
    refine lv_aload_n hx hb dX18_upper_102 rfl (lv_at hl 0 rfl) ?_
    refine lv_ldc2 hx hb hown (hts (.constantLong RX18 283 (452941590115)) (List.mem_of_getElem? (i := 9) rfl)) dX18_upper_103 ?_
    obtain ⟨s24, hq, h⟩ := nd_b1_e h
    have hPc := hP
    have hDc := hD
    have hKc := hK
    have hFc := nd_rs hD hS hA
    refine va_callv (va_runV (As := [.long 452941590115]) (rest := []) ⟨hx, hb, hml, hown, hts⟩ (dm_X18_name l hlt dC dI a ac n (452941590115) s0 hq _) (cwV 1 hts gi_dm_X18_upper_2 rfl rfl rfl (by decide +kernel) ⟨Nat.le_of_ble_eq_true rfl, Nat.le_of_ble_eq_true rfl⟩) ⟨fun a U g mk q => by obtain ⟨q0, q1, qP, qK, qD, qN⟩ := q; exact ⟨q0, q1, qP, va_K.moved (u := U) (U := U.calling g mk a) (Vm.Alike.refl U.vm) qK, qD, nv_same rfl rfl qN⟩, va_recv hKc hPc (ci := 19) (q0 := 0) rfl rfl, fun U hU hW => ⟨rfl, by rw [hU], by rw [hU]; exact hPc, va_K.moved hW.alike hKc, hDc.weaken (fun _ _ _ _ => trivial), nv_call hS hFc hU hW hN⟩⟩ rfl rfl hl.1 rfl (lv_room (Nat.le_of_ble_eq_true rfl)) dX18_upper_106 ⟨by decide +kernel, by decide +kernel⟩) hS (fun q _ h => hFc q h) hFc (fun u t H locs ht hvm hw hB hz1 hk1 hS => ?_)
    obtain ⟨hP1, -, hD1⟩ := hB
    rw [ht] at hP1
    have hP := hP1
    have hD := hD1.weaken (fun k q _ h => hFc q.1 h)
    refine W.widen (k := 0) (n := 0) (Nat.le_refl _) (Nat.le_refl _) ?_
    refine lv_aload_n hx hb dX18_upper_109 rfl (lv_at hl 0 rfl) ?_
    refine lv_aload_n hx hb dX18_upper_110 rfl (lv_at hl 0 rfl) ?_
    refine va_get (D := (dC, dI)) (ci := 19) (v := .int (sI s24 4)) (C := RX18) (T := TX18) (N := 10) hx hb hts hi_dm_X18_upper_X18 hown hK hP 0 rfl rfl 5 (by decide) (hts (.fieldLink RX18 68 "TimeMachineModel$Reader" "d" "I") (List.mem_of_getElem? (i := 5) rfl)) (fun _ h9 => h9) rfl dX18_upper_111 ?_
    obtain ⟨s27, hq, h⟩ := nd_b1_e h
    have hPc := hP
    have hDc := hD
    have hKc := hK
    have hFc := nd_rs hD hS hA
    refine va_callv (va_runV (As := [.int (sI s24 4)]) (rest := []) ⟨hx, hb, hml, hown, hts⟩ (dm_X18_register l hlt dC dI a ac n ((sI s24 4)) s24 hq _) (cwV 1 hts gi_dm_X18_upper_3 rfl rfl rfl (by decide +kernel) ⟨Nat.le_of_ble_eq_true rfl, Nat.le_of_ble_eq_true rfl⟩) ⟨fun a U g mk q => by obtain ⟨q0, q1, qP, qK, qD, qN⟩ := q; exact ⟨q0, q1, qP, va_K.moved (u := U) (U := U.calling g mk a) (Vm.Alike.refl U.vm) qK, qD, nv_same rfl rfl qN⟩, va_recv hKc hPc (ci := 19) (q0 := 0) rfl rfl, fun U hU hW => ⟨rfl, by rw [hU], by rw [hU]; exact hPc, va_K.moved hW.alike hKc, hDc.weaken (fun _ _ _ _ => trivial), nv_call hS hFc hU hW hN⟩⟩ rfl rfl hl.1 rfl (lv_room (Nat.le_of_ble_eq_true rfl)) dX18_upper_114 ⟨by decide +kernel, by decide +kernel⟩) hS (fun q _ h => hFc q h) hFc (fun u t H locs ht hvm hw hB hz1 hk1 hS => ?_)
    obtain ⟨hP1, -, hD1⟩ := hB
    rw [ht] at hP1
    have hP := hP1
    have hD := hD1.weaken (fun k q _ h => hFc q.1 h)
    refine W.widen (k := 0) (n := 0) (Nat.le_refl _) (Nat.le_refl _) ?_
    refine lv_aload_n hx hb dX18_upper_117 rfl (lv_at hl 0 rfl) ?_
    refine lv_aload_n hx hb dX18_upper_118 rfl (lv_at hl 0 rfl) ?_
    obtain ⟨q29, s30, hq, h⟩ := nd_b2_e h
    have hPc := hP
    have hDc := hD
    have hKc := hK
    have hFc := nd_rs hD hS hA
    refine va_calli (va_runV (As := []) (rest := [.ref (a 0)]) ⟨hx, hb, hml, hown, hts⟩ (dm_X18_six l hlt dC dI a ac n  s27 hq _) (cwV 0 hts gi_dm_X18_upper_1 rfl rfl rfl (by decide +kernel) ⟨Nat.le_of_ble_eq_true rfl, Nat.le_of_ble_eq_true rfl⟩) ⟨fun a U g mk q => by obtain ⟨q0, q1, qP, qK, qD, qN⟩ := q; exact ⟨q0, q1, qP, va_K.moved (u := U) (U := U.calling g mk a) (Vm.Alike.refl U.vm) qK, qD, nv_same rfl rfl qN⟩, va_recv hKc hPc (ci := 19) (q0 := 0) rfl rfl, fun U hU hW => ⟨rfl, by rw [hU], by rw [hU]; exact hPc, va_K.moved hW.alike hKc, hDc.weaken (fun _ _ _ _ => trivial), nv_call hS hFc hU hW hN⟩⟩ rfl rfl hl.1 rfl (lv_room (Nat.le_of_ble_eq_true rfl)) dX18_upper_119 ⟨by decide +kernel, by decide +kernel⟩) hS (fun q _ h => hFc q h) hFc (fun r31 u t H locs ht hvm hw hB hz1 hk1 hS => ?_)
    obtain rfl : q29 = r31 := Eq.symm hw
    obtain ⟨hP1, -, hD1⟩ := hB
    rw [ht] at hP1
    have hP := hP1
    have hD := hD1.weaken (fun k q _ h => hFc q.1 h)
    refine W.widen (k := 0) (n := 0) (Nat.le_refl _) (Nat.le_refl _) ?_
    obtain ⟨s33, hq, h⟩ := nd_b1_e h
    have hPc := hP
    have hDc := hD
    have hKc := hK
    have hFc := nd_rs hD hS hA
    refine va_callv (va_runV (As := [.int q29]) (rest := []) ⟨hx, hb, hml, hown, hts⟩ (dm_X18_immediate l hlt dC dI a ac n (q29) s30 hq _) (cwV 1 hts gi_dm_X18_upper_4 rfl rfl rfl (by decide +kernel) ⟨Nat.le_of_ble_eq_true rfl, Nat.le_of_ble_eq_true rfl⟩) ⟨fun a U g mk q => by obtain ⟨q0, q1, qP, qK, qD, qN⟩ := q; exact ⟨q0, q1, qP, va_K.moved (u := U) (U := U.calling g mk a) (Vm.Alike.refl U.vm) qK, qD, nv_same rfl rfl qN⟩, va_recv hKc hPc (ci := 19) (q0 := 0) rfl rfl, fun U hU hW => ⟨rfl, by rw [hU], by rw [hU]; exact hPc, va_K.moved hW.alike hKc, hDc.weaken (fun _ _ _ _ => trivial), nv_call hS hFc hU hW hN⟩⟩ rfl rfl hl.1 rfl (lv_room (Nat.le_of_ble_eq_true rfl)) dX18_upper_122 ⟨by decide +kernel, by decide +kernel⟩) hS (fun q _ h => hFc q h) hFc (fun u t H locs ht hvm hw hB hz1 hk1 hS => ?_)
    obtain ⟨hP1, -, hD1⟩ := hB
    rw [ht] at hP1
    have hP := hP1
    have hD := hD1.weaken (fun k q _ h => hFc q.1 h)
    refine W.widen (k := 0) (n := 0) (Nat.le_refl _) (Nat.le_refl _) ?_
    exact K _ _ _ _ _ dX18_upper_125 (Option.some.inj h).symm hP hD hS
  · have h := nd_pos h c22
    refine lv_aload_n hx hb dX18_upper_82 rfl (lv_at hl 0 rfl) ?_
    refine lv_ldc2 hx hb hown (hts (.constantLong RX18 279 (3905018231808667235)) (List.mem_of_getElem? (i := 19) rfl)) dX18_upper_83 ?_
    obtain ⟨s36, hq, h⟩ := nd_b1_e h
    have hPc := hP
    have hDc := hD
    have hKc := hK
    have hFc := nd_rs hD hS hA
    refine va_callv (va_runV (As := [.long 3905018231808667235]) (rest := []) ⟨hx, hb, hml, hown, hts⟩ (dm_X18_name l hlt dC dI a ac n (3905018231808667235) s0 hq _) (cwV 1 hts gi_dm_X18_upper_2 rfl rfl rfl (by decide +kernel) ⟨Nat.le_of_ble_eq_true rfl, Nat.le_of_ble_eq_true rfl⟩) ⟨fun a U g mk q => by obtain ⟨q0, q1, qP, qK, qD, qN⟩ := q; exact ⟨q0, q1, qP, va_K.moved (u := U) (U := U.calling g mk a) (Vm.Alike.refl U.vm) qK, qD, nv_same rfl rfl qN⟩, va_recv hKc hPc (ci := 19) (q0 := 0) rfl rfl, fun U hU hW => ⟨rfl, by rw [hU], by rw [hU]; exact hPc, va_K.moved hW.alike hKc, hDc.weaken (fun _ _ _ _ => trivial), nv_call hS hFc hU hW hN⟩⟩ rfl rfl hl.1 rfl (lv_room (Nat.le_of_ble_eq_true rfl)) dX18_upper_86 ⟨by decide +kernel, by decide +kernel⟩) hS (fun q _ h => hFc q h) hFc (fun u t H locs ht hvm hw hB hz1 hk1 hS => ?_)
    obtain ⟨hP1, -, hD1⟩ := hB
    rw [ht] at hP1
    have hP := hP1
    have hD := hD1.weaken (fun k q _ h => hFc q.1 h)
    refine W.widen (k := 0) (n := 0) (Nat.le_refl _) (Nat.le_refl _) ?_
    refine lv_aload_n hx hb dX18_upper_89 rfl (lv_at hl 0 rfl) ?_
    refine lv_ldc2 hx hb hown (hts (.constantLong RX18 281 (28787)) (List.mem_of_getElem? (i := 20) rfl)) dX18_upper_90 ?_
    obtain ⟨s39, hq, h⟩ := nd_b1_e h
    have hPc := hP
    have hDc := hD
    have hKc := hK
    have hFc := nd_rs hD hS hA
    refine va_callv (va_runV (As := [.long 28787]) (rest := []) ⟨hx, hb, hml, hown, hts⟩ (dm_X18_say l hlt dC dI a ac n (28787) s36 hq _) (cwV 1 hts gi_dm_X18_upper_5 rfl rfl rfl (by decide +kernel) ⟨Nat.le_of_ble_eq_true rfl, Nat.le_of_ble_eq_true rfl⟩) ⟨fun a U g mk q => by obtain ⟨q0, q1, qP, qK, qD, qN⟩ := q; exact ⟨q0, q1, qP, va_K.moved (u := U) (U := U.calling g mk a) (Vm.Alike.refl U.vm) qK, qD, nv_same rfl rfl qN⟩, va_recv hKc hPc (ci := 19) (q0 := 0) rfl rfl, fun U hU hW => ⟨rfl, by rw [hU], by rw [hU]; exact hPc, va_K.moved hW.alike hKc, hDc.weaken (fun _ _ _ _ => trivial), nv_call hS hFc hU hW hN⟩⟩ rfl rfl hl.1 rfl (lv_room (Nat.le_of_ble_eq_true rfl)) dX18_upper_93 ⟨by decide +kernel, by decide +kernel⟩) hS (fun q _ h => hFc q h) hFc (fun u t H locs ht hvm hw hB hz1 hk1 hS => ?_)
    obtain ⟨hP1, -, hD1⟩ := hB
    rw [ht] at hP1
    have hP := hP1
    have hD := hD1.weaken (fun k q _ h => hFc q.1 h)
    refine W.widen (k := 0) (n := 0) (Nat.le_refl _) (Nat.le_refl _) ?_
    refine lv_aload_n hx hb dX18_upper_96 rfl (lv_at hl 0 rfl) ?_
    refine lv_iload_n hx hb dX18_upper_97 rfl (lv_at hl 1 rfl) ?_
    obtain ⟨s42, hq, h⟩ := nd_b1_e h
    have hPc := hP
    have hDc := hD
    have hKc := hK
    have hFc := nd_rs hD hS hA
    refine va_callv (va_runV (As := [.int x1]) (rest := []) ⟨hx, hb, hml, hown, hts⟩ (dm_X18_immediate l hlt dC dI a ac n (x1) s39 hq _) (cwV 1 hts gi_dm_X18_upper_4 rfl rfl rfl (by decide +kernel) ⟨Nat.le_of_ble_eq_true rfl, Nat.le_of_ble_eq_true rfl⟩) ⟨fun a U g mk q => by obtain ⟨q0, q1, qP, qK, qD, qN⟩ := q; exact ⟨q0, q1, qP, va_K.moved (u := U) (U := U.calling g mk a) (Vm.Alike.refl U.vm) qK, qD, nv_same rfl rfl qN⟩, va_recv hKc hPc (ci := 19) (q0 := 0) rfl rfl, fun U hU hW => ⟨rfl, by rw [hU], by rw [hU]; exact hPc, va_K.moved hW.alike hKc, hDc.weaken (fun _ _ _ _ => trivial), nv_call hS hFc hU hW hN⟩⟩ rfl rfl hl.1 rfl (lv_room (Nat.le_of_ble_eq_true rfl)) dX18_upper_98 ⟨by decide +kernel, by decide +kernel⟩) hS (fun q _ h => hFc q h) hFc (fun u t H locs ht hvm hw hB hz1 hk1 hS => ?_)
    obtain ⟨hP1, -, hD1⟩ := hB
    rw [ht] at hP1
    have hP := hP1
    have hD := hD1.weaken (fun k q _ h => hFc q.1 h)
    refine W.widen (k := 0) (n := 0) (Nat.le_refl _) (Nat.le_refl _) ?_
    exact K _ _ _ _ _ dX18_upper_101 (Option.some.inj h).symm hP hD hS
set_option maxHeartbeats 40000000 in
set_option maxRecDepth 100000 in
theorem db_X18_upper_73 {p : Program} {l : Launch} {e : Env} {s : State} {m : MethodId} {args : Array Value} {below : List Frame} {meth : Method} {c : Code} {Q : State → Prop} {A : Nat → Prop} {dC : Nat → ClassId} {dI : Nat → Nat → Nat} {a : Nat → Nat} {ac : Nat → ClassId} {n : Nat} {r : St} (C : nd_C p l s m args c A (dC, dI) cX18_upper 2 RX18 ow_dm_X18_upper (dk_X18 ac)) (K : nd_Kv p l e (headSpec ow_dm_X18_upper ({ frames := 4, cells := 0, slots := 0, locals := 89 })).room s m args below meth c Q A (dC, dI) cX18_upper (St) (dw_X18 a ac) r) : dj_X18_upper_73 p l e s m args below meth c Q A dC dI a ac (df_X18_upper_73 n) r := by
  obtain ⟨hlt, hx, hb, hml, hown, hts, hN, hA, hK⟩ := id C
  intro s0 H locs ls h hP hD hS hl
  unfold df_X18_upper_73 at h
  exact K _ _ _ _ _ dX18_upper_73 (Option.some.inj h).symm hP hD hS
set_option maxHeartbeats 40000000 in
set_option maxRecDepth 100000 in
theorem db_X18_upper_0 {p : Program} {l : Launch} {e : Env} {s : State} {m : MethodId} {args : Array Value} {below : List Frame} {meth : Method} {c : Code} {Q : State → Prop} {A : Nat → Prop} {dC : Nat → ClassId} {dI : Nat → Nat → Nat} {a : Nat → Nat} {ac : Nat → ClassId} {n : Nat} {r : St} (C : nd_C p l s m args c A (dC, dI) cX18_upper 2 RX18 ow_dm_X18_upper (dk_X18 ac)) (K : nd_Kv p l e (headSpec ow_dm_X18_upper ({ frames := 4, cells := 0, slots := 0, locals := 89 })).room s m args below meth c Q A (dC, dI) cX18_upper (St) (dw_X18 a ac) r) : dj_X18_upper_0 p l e s m args below meth c Q A dC dI a ac (df_X18_upper_0 n) r := by
  obtain ⟨hlt, hx, hb, hml, hown, hts, hN, hA, hK⟩ := id C
  intro s0 H locs ls h hP hD hS hl
  unfold df_X18_upper_0 at h
  refine lv_aload_n hx hb dX18_upper_0 rfl (lv_at hl 0 rfl) ?_
  refine lv_bipush (v := 6) hx hb dX18_upper_1 (by decide) ?_
  refine lv_iconst (v := 1) hx hb dX18_upper_3 (by decide) ?_
  obtain ⟨q1, s2, hq, h⟩ := nd_b2_e h
  have hPc := hP
  have hDc := hD
  have hKc := hK
  have hFc := nd_rs hD hS hA
  refine va_calli (va_runV (As := [.int 6, .int 1]) (rest := []) ⟨hx, hb, hml, hown, hts⟩ (dm_X18_part l hlt dC dI a ac n (6) (1) s0 hq _) (cwV 2 hts gi_dm_X18_upper_0 rfl rfl rfl (by decide +kernel) ⟨Nat.le_of_ble_eq_true rfl, Nat.le_of_ble_eq_true rfl⟩) ⟨fun a U g mk q => by obtain ⟨q0, q1, qP, qK, qD, qN⟩ := q; exact ⟨q0, q1, qP, va_K.moved (u := U) (U := U.calling g mk a) (Vm.Alike.refl U.vm) qK, qD, nv_same rfl rfl qN⟩, va_recv hKc hPc (ci := 19) (q0 := 0) rfl rfl, fun U hU hW => ⟨rfl, by rw [hU], by rw [hU]; exact hPc, va_K.moved hW.alike hKc, hDc.weaken (fun _ _ _ _ => trivial), nv_call hS hFc hU hW hN⟩⟩ rfl rfl hl.1 rfl (lv_room (Nat.le_of_ble_eq_true rfl)) dX18_upper_4 ⟨by decide +kernel, by decide +kernel⟩) hS (fun q _ h => hFc q h) hFc (fun r3 u t H locs ht hvm hw hB hz1 hk1 hS => ?_)
  obtain rfl : q1 = r3 := Eq.symm hw
  obtain ⟨hP1, -, hD1⟩ := hB
  rw [ht] at hP1
  have hP := hP1
  have hD := hD1.weaken (fun k q _ h => hFc q.1 h)
  refine W.widen (k := 0) (n := 0) (Nat.le_refl _) (Nat.le_refl _) ?_
  refine lv_iconst (v := 4) hx hb dX18_upper_7 (by decide) ?_
  refine lv_ishl hx hb dX18_upper_8 ?_
  refine lv_aload_n hx hb dX18_upper_9 rfl (lv_at hl 0 rfl) ?_
  refine lv_iconst (v := 5) hx hb dX18_upper_10 (by decide) ?_
  refine lv_iconst (v := 1) hx hb dX18_upper_11 (by decide) ?_
  obtain ⟨q4, s5, hq, h⟩ := nd_b2_e h
  have hPc := hP
  have hDc := hD
  have hKc := hK
  have hFc := nd_rs hD hS hA
  refine va_calli (va_runV (As := [.int 5, .int 1]) (rest := [.int ((q1 : Int32) <<< ((4 : Int32) &&& 31))]) ⟨hx, hb, hml, hown, hts⟩ (dm_X18_part l hlt dC dI a ac n (5) (1) s2 hq _) (cwV 2 hts gi_dm_X18_upper_0 rfl rfl rfl (by decide +kernel) ⟨Nat.le_of_ble_eq_true rfl, Nat.le_of_ble_eq_true rfl⟩) ⟨fun a U g mk q => by obtain ⟨q0, q1, qP, qK, qD, qN⟩ := q; exact ⟨q0, q1, qP, va_K.moved (u := U) (U := U.calling g mk a) (Vm.Alike.refl U.vm) qK, qD, nv_same rfl rfl qN⟩, va_recv hKc hPc (ci := 19) (q0 := 0) rfl rfl, fun U hU hW => ⟨rfl, by rw [hU], by rw [hU]; exact hPc, va_K.moved hW.alike hKc, hDc.weaken (fun _ _ _ _ => trivial), nv_call hS hFc hU hW hN⟩⟩ rfl rfl hl.1 rfl (lv_room (Nat.le_of_ble_eq_true rfl)) dX18_upper_12 ⟨by decide +kernel, by decide +kernel⟩) hS (fun q _ h => hFc q h) hFc (fun r6 u t H locs ht hvm hw hB hz1 hk1 hS => ?_)
  obtain rfl : q4 = r6 := Eq.symm hw
  obtain ⟨hP1, -, hD1⟩ := hB
  rw [ht] at hP1
  have hP := hP1
  have hD := hD1.weaken (fun k q _ h => hFc q.1 h)
  refine W.widen (k := 0) (n := 0) (Nat.le_refl _) (Nat.le_refl _) ?_
  refine lv_bipush (v := 6) hx hb dX18_upper_15 (by decide) ?_
  refine lv_ishl hx hb dX18_upper_17 ?_
  refine lv_ior hx hb dX18_upper_18 ?_
  refine lv_aload_n hx hb dX18_upper_19 rfl (lv_at hl 0 rfl) ?_
  refine lv_iconst (v := 3) hx hb dX18_upper_20 (by decide) ?_
  refine lv_iconst (v := 2) hx hb dX18_upper_21 (by decide) ?_
  obtain ⟨q7, s8, hq, h⟩ := nd_b2_e h
  have hPc := hP
  have hDc := hD
  have hKc := hK
  have hFc := nd_rs hD hS hA
  refine va_calli (va_runV (As := [.int 3, .int 2]) (rest := [.int (((q1 : Int32) <<< ((4 : Int32) &&& 31)) ||| ((q4 : Int32) <<< ((6 : Int32) &&& 31)))]) ⟨hx, hb, hml, hown, hts⟩ (dm_X18_part l hlt dC dI a ac n (3) (2) s5 hq _) (cwV 2 hts gi_dm_X18_upper_0 rfl rfl rfl (by decide +kernel) ⟨Nat.le_of_ble_eq_true rfl, Nat.le_of_ble_eq_true rfl⟩) ⟨fun a U g mk q => by obtain ⟨q0, q1, qP, qK, qD, qN⟩ := q; exact ⟨q0, q1, qP, va_K.moved (u := U) (U := U.calling g mk a) (Vm.Alike.refl U.vm) qK, qD, nv_same rfl rfl qN⟩, va_recv hKc hPc (ci := 19) (q0 := 0) rfl rfl, fun U hU hW => ⟨rfl, by rw [hU], by rw [hU]; exact hPc, va_K.moved hW.alike hKc, hDc.weaken (fun _ _ _ _ => trivial), nv_call hS hFc hU hW hN⟩⟩ rfl rfl hl.1 rfl (lv_room (Nat.le_of_ble_eq_true rfl)) dX18_upper_22 ⟨by decide +kernel, by decide +kernel⟩) hS (fun q _ h => hFc q h) hFc (fun r9 u t H locs ht hvm hw hB hz1 hk1 hS => ?_)
  obtain rfl : q7 = r9 := Eq.symm hw
  obtain ⟨hP1, -, hD1⟩ := hB
  rw [ht] at hP1
  have hP := hP1
  have hD := hD1.weaken (fun k q _ h => hFc q.1 h)
  refine W.widen (k := 0) (n := 0) (Nat.le_refl _) (Nat.le_refl _) ?_
  refine lv_bipush (v := 7) hx hb dX18_upper_25 (by decide) ?_
  refine lv_ishl hx hb dX18_upper_27 ?_
  refine lv_ior hx hb dX18_upper_28 ?_
  refine lv_aload_n hx hb dX18_upper_29 rfl (lv_at hl 0 rfl) ?_
  refine lv_iconst (v := 2) hx hb dX18_upper_30 (by decide) ?_
  refine lv_iconst (v := 1) hx hb dX18_upper_31 (by decide) ?_
  obtain ⟨q10, s11, hq, h⟩ := nd_b2_e h
  have hPc := hP
  have hDc := hD
  have hKc := hK
  have hFc := nd_rs hD hS hA
  refine va_calli (va_runV (As := [.int 2, .int 1]) (rest := [.int ((((q1 : Int32) <<< ((4 : Int32) &&& 31)) ||| ((q4 : Int32) <<< ((6 : Int32) &&& 31))) ||| ((q7 : Int32) <<< ((7 : Int32) &&& 31)))]) ⟨hx, hb, hml, hown, hts⟩ (dm_X18_part l hlt dC dI a ac n (2) (1) s8 hq _) (cwV 2 hts gi_dm_X18_upper_0 rfl rfl rfl (by decide +kernel) ⟨Nat.le_of_ble_eq_true rfl, Nat.le_of_ble_eq_true rfl⟩) ⟨fun a U g mk q => by obtain ⟨q0, q1, qP, qK, qD, qN⟩ := q; exact ⟨q0, q1, qP, va_K.moved (u := U) (U := U.calling g mk a) (Vm.Alike.refl U.vm) qK, qD, nv_same rfl rfl qN⟩, va_recv hKc hPc (ci := 19) (q0 := 0) rfl rfl, fun U hU hW => ⟨rfl, by rw [hU], by rw [hU]; exact hPc, va_K.moved hW.alike hKc, hDc.weaken (fun _ _ _ _ => trivial), nv_call hS hFc hU hW hN⟩⟩ rfl rfl hl.1 rfl (lv_room (Nat.le_of_ble_eq_true rfl)) dX18_upper_32 ⟨by decide +kernel, by decide +kernel⟩) hS (fun q _ h => hFc q h) hFc (fun r12 u t H locs ht hvm hw hB hz1 hk1 hS => ?_)
  obtain rfl : q10 = r12 := Eq.symm hw
  obtain ⟨hP1, -, hD1⟩ := hB
  rw [ht] at hP1
  have hP := hP1
  have hD := hD1.weaken (fun k q _ h => hFc q.1 h)
  refine W.widen (k := 0) (n := 0) (Nat.le_refl _) (Nat.le_refl _) ?_
  refine lv_iconst (v := 5) hx hb dX18_upper_35 (by decide) ?_
  refine lv_ishl hx hb dX18_upper_36 ?_
  refine lv_ior hx hb dX18_upper_37 ?_
  refine lv_aload_n hx hb dX18_upper_38 rfl (lv_at hl 0 rfl) ?_
  refine lv_bipush (v := 12) hx hb dX18_upper_39 (by decide) ?_
  refine lv_iconst (v := 1) hx hb dX18_upper_41 (by decide) ?_
  obtain ⟨q13, s14, hq, h⟩ := nd_b2_e h
  have hPc := hP
  have hDc := hD
  have hKc := hK
  have hFc := nd_rs hD hS hA
  refine va_calli (va_runV (As := [.int 12, .int 1]) (rest := [.int (((((q1 : Int32) <<< ((4 : Int32) &&& 31)) ||| ((q4 : Int32) <<< ((6 : Int32) &&& 31))) ||| ((q7 : Int32) <<< ((7 : Int32) &&& 31))) ||| ((q10 : Int32) <<< ((5 : Int32) &&& 31)))]) ⟨hx, hb, hml, hown, hts⟩ (dm_X18_part l hlt dC dI a ac n (12) (1) s11 hq _) (cwV 2 hts gi_dm_X18_upper_0 rfl rfl rfl (by decide +kernel) ⟨Nat.le_of_ble_eq_true rfl, Nat.le_of_ble_eq_true rfl⟩) ⟨fun a U g mk q => by obtain ⟨q0, q1, qP, qK, qD, qN⟩ := q; exact ⟨q0, q1, qP, va_K.moved (u := U) (U := U.calling g mk a) (Vm.Alike.refl U.vm) qK, qD, nv_same rfl rfl qN⟩, va_recv hKc hPc (ci := 19) (q0 := 0) rfl rfl, fun U hU hW => ⟨rfl, by rw [hU], by rw [hU]; exact hPc, va_K.moved hW.alike hKc, hDc.weaken (fun _ _ _ _ => trivial), nv_call hS hFc hU hW hN⟩⟩ rfl rfl hl.1 rfl (lv_room (Nat.le_of_ble_eq_true rfl)) dX18_upper_42 ⟨by decide +kernel, by decide +kernel⟩) hS (fun q _ h => hFc q h) hFc (fun r15 u t H locs ht hvm hw hB hz1 hk1 hS => ?_)
  obtain rfl : q13 = r15 := Eq.symm hw
  obtain ⟨hP1, -, hD1⟩ := hB
  rw [ht] at hP1
  have hP := hP1
  have hD := hD1.weaken (fun k q _ h => hFc q.1 h)
  refine W.widen (k := 0) (n := 0) (Nat.le_refl _) (Nat.le_refl _) ?_
  refine lv_ineg hx hb dX18_upper_45 ?_
  refine lv_bipush (v := 9) hx hb dX18_upper_46 (by decide) ?_
  refine lv_ishl hx hb dX18_upper_48 ?_
  refine lv_ior hx hb dX18_upper_49 ?_
  refine lv_topi (fun z16 ez16 => ?_)
  have h := nd_at h ez16
  refine lv_istore_n (lv' := [(1, .int z16), (0, .ref (a 0))]) hx hb dX18_upper_50 rfl hl (by decide) rfl (fun ls hl => ?_)
  refine lv_aload_n hx hb dX18_upper_51 rfl (lv_at hl 1 rfl) ?_
  refine va_get (D := (dC, dI)) (ci := 19) (v := .int (sI s14 4)) (C := RX18) (T := TX18) (N := 10) hx hb hts hi_dm_X18_upper_X18 hown hK hP 0 rfl rfl 5 (by decide) (hts (.fieldLink RX18 68 "TimeMachineModel$Reader" "d" "I") (List.mem_of_getElem? (i := 5) rfl)) (fun _ h9 => h9) rfl dX18_upper_52 ?_
  refine lv_iconst (v := 2) hx hb dX18_upper_55 (by decide) ?_
  refine lv_icmp_ne (tgt := 66) hx hb dX18_upper_56 (by decide) (fun c17 => ?_) (fun c17 => ?_)
  · have h := nd_neg h c17
    refine lv_aload_n hx hb dX18_upper_66 rfl (lv_at hl 1 rfl) ?_
    obtain ⟨q18, s19, hq, h⟩ := nd_b2_e h
    have hPc := hP
    have hDc := hD
    have hKc := hK
    have hFc := nd_rs hD hS hA
    refine va_calli (va_runV (As := []) (rest := []) ⟨hx, hb, hml, hown, hts⟩ (dm_X18_six l hlt dC dI a ac n  s14 hq _) (cwV 0 hts gi_dm_X18_upper_1 rfl rfl rfl (by decide +kernel) ⟨Nat.le_of_ble_eq_true rfl, Nat.le_of_ble_eq_true rfl⟩) ⟨fun a U g mk q => by obtain ⟨q0, q1, qP, qK, qD, qN⟩ := q; exact ⟨q0, q1, qP, va_K.moved (u := U) (U := U.calling g mk a) (Vm.Alike.refl U.vm) qK, qD, nv_same rfl rfl qN⟩, va_recv hKc hPc (ci := 19) (q0 := 0) rfl rfl, fun U hU hW => ⟨rfl, by rw [hU], by rw [hU]; exact hPc, va_K.moved hW.alike hKc, hDc.weaken (fun _ _ _ _ => trivial), nv_call hS hFc hU hW hN⟩⟩ rfl rfl hl.1 rfl (lv_room (Nat.le_of_ble_eq_true rfl)) dX18_upper_67 ⟨by decide +kernel, by decide +kernel⟩) hS (fun q _ h => hFc q h) hFc (fun r20 u t H locs ht hvm hw hB hz1 hk1 hS => ?_)
    obtain rfl : q18 = r20 := Eq.symm hw
    obtain ⟨hP1, -, hD1⟩ := hB
    rw [ht] at hP1
    have hP := hP1
    have hD := hD1.weaken (fun k q _ h => hFc q.1 h)
    refine W.widen (k := 0) (n := 0) (Nat.le_refl _) (Nat.le_refl _) ?_
    refine lv_if_ne (tgt := 74) hx hb dX18_upper_70 (by decide) (fun c21 => ?_) (fun c21 => ?_)
    · have h := nd_neg h c21
      exact (db_X18_upper_74 C K) (z16) s19 _ _ _ h hP hD hS (lv_sub hl [1, 0] rfl)
    · have h := nd_pos h c21
      exact (db_X18_upper_73 C K)  s19 _ _ _ h hP hD hS (lv_sub hl [] rfl)
  · have h := nd_pos h c17
    refine lv_iload_n hx hb dX18_upper_59 rfl (lv_at hl 0 rfl) ?_
    refine lv_if_ne (tgt := 74) hx hb dX18_upper_60 (by decide) (fun c44 => ?_) (fun c44 => ?_)
    · have h := nd_neg h c44
      exact (db_X18_upper_74 C K) (z16) s14 _ _ _ h hP hD hS (lv_sub hl [1, 0] rfl)
    · have h := nd_pos h c44
      refine lv_goto (tgt := 73) hx hb dX18_upper_63 (by decide) ?_
      exact (db_X18_upper_73 C K)  s14 _ _ _ h hP hD hS (lv_sub hl [] rfl)
set_option maxHeartbeats 40000000 in
set_option maxRecDepth 100000 in
theorem dm_X18_upper (l : Launch) (hlt : l.stackTraces = false) (dC : Nat → ClassId) (dI : Nat → Nat → Nat) (a : Nat → Nat) (ac : Nat → ClassId) (n : Nat) (s0 : St) {r : St} (h : df_X18_upper n s0 = some r) (sz : Nat) : Met l yX18_upper ow_dm_X18_upper ({ frames := 4, cells := 0, slots := 0, locals := 89 }) (va_Pc [.ref (a 0)] (fun U => U.heap.size = sz ∧ va_P (dC, dI) vwCl (dw_X18 a ac s0) U.heap ∧ va_K (dC, dI) vwCl (dk_X18 ac) U ∧ va_D (fun _ => True) (dw_X18 a ac s0) ∧ nv_E (va_A (dw_X18 a ac s0) sz) U)) (va_Qv (fun _ => True) (fun (_ : Unit) t => va_P (dC, dI) vwCl (dw_X18 a ac r) t.heap ∧ va_K (dC, dI) vwCl (dk_X18 ac) t ∧ va_D (va_A (dw_X18 a ac s0) sz) (dw_X18 a ac r)) (va_A (dw_X18 a ac s0) sz)) 0 0 (va_A (dw_X18 a ac s0) sz) := by
  refine Met.ofW (cc := cX18_upper) (maxL := 2) (ret := none) (by decide) rfl ?_
  intro p e s m args below meth c s₁ B hml hv
  obtain ⟨rfl, hsz, hP, hK, hD0, hN⟩ := hv
  have hx := B.exec
  have hb := B.bytes
  have hr := B.returns
  have hts := atoms_spec (ws := ow_dm_X18_upper) B.pre
  have hown : s.vm.findClass RX18 = some m.cls := findClass_of_methodNamed B.named
  have hlocks := B.notSynchronized
  subst hsz
  have hD := hD0.self (sz := s.heap.size)
  generalize hAe : va_A (dw_X18 a ac s0) s.heap.size = A at hD hN ⊢
  have hA : ∀ q : Nat, s.heap.size ≤ q → A q := fun q h => by rw [← hAe]; exact Or.inr h
  have hl := lv_entry ([.ref (a 0)]) (n := 2) (Nat.le_of_ble_eq_true rfl)
  rw [lg_entry_eq]
  generalize (lg_sl ([.ref (a 0)]) ++ List.replicate (2 - (lg_sl ([.ref (a 0)])).length) Slot.unset).toArray = ls at hl ⊢
  have hl : lv_has ls 2 [(0, .ref (a 0))] := hl
  exact db_X18_upper_0 (dC := dC) (dI := dI) (a := a) (ac := ac) (n := n) (r := r) ⟨hlt, hx, hb, hml, hown, hts, hN, hA, hK⟩ (fun pc τ H locs ls d er hP hD hS => by subst er; exact W.vret hx hb hr (fun t ht hW => ⟨⟨(), rfl, trivial, by rw [ht]; exact hP, va_K.moved hW.alike hK, hD⟩, hS.F ht⟩) hS.2.2 d) s0 _ _ _ h hP hD va_S.rf (lv_sub hl [0] rfl)
