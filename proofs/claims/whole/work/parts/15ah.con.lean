set_option maxHeartbeats 40000000 in
set_option maxRecDepth 100000 in
theorem db_X16_carry_0 {p : Program} {l : Launch} {e : Env} {s : State} {m : MethodId} {args : Array Value} {below : List Frame} {meth : Method} {c : Code} {Q : State → Prop} {A : Nat → Prop} {dC : Nat → ClassId} {dI : Nat → Nat → Nat} {a : Nat → Nat} {ac : Nat → ClassId} {n : Nat} {r : St × (St)} (C : nd_C p l s m args c A (dC, dI) cX16_carry 8 RX16 ow_dm_X16_carry (dk_X16 ac)) (K : nd_Kv p l e (headSpec ow_dm_X16_carry ({ frames := 5, cells := 0, slots := 0, locals := 112 })).room s m args below meth c Q A (dC, dI) cX16_carry (St × (St)) (dw_X16 a ac) r) : dj_X16_carry_0 p l e s m args below meth c Q A dC dI a ac (df_X16_carry_0 n) r := by
  obtain ⟨hlt, hx, hb, hml, hown, hts, hN, hA, hK⟩ := id C
  intro v0 s0 H locs ls h hP hD hS hl
  unfold df_X16_carry_0 at h
  refine lv_iload_n hx hb dX16_carry_0 rfl (lv_at hl 1 rfl) ?_
  refine lv_bipush (v := 7) hx hb dX16_carry_1 (by decide) ?_
  refine lv_iconst (v := 5) hx hb dX16_carry_3 (by decide) ?_
  obtain ⟨q1, s2, hq, h⟩ := nd_b2_e h
  have hPc : va_P (dC, dI) vwCl (dw_P a ac ()) H := nd_p0
  have hDc : va_D A (dw_P a ac ()) := nd_d0
  have hKc : va_K (dC, dI) vwCl (dk_P ac) s := nd_y0 hK
  have hFc : ∀ q, va_A (dw_P a ac ()) H.size q → A q := nd_r0 hS hA
  refine nd_cSi (As := [.int v0, .int 7, .int 5]) (rest := []) (q := q1) (w' := dw_P a ac s2) ⟨hx, hb, hml, hown, hts⟩ (fun sz => dm_X16_part l hlt dC dI a ac n (v0) (7) (5) () hq sz) (cwS 3 hts gi_dm_X16_carry_0 rfl rfl rfl (by decide +kernel) ⟨Nat.le_of_ble_eq_true rfl, Nat.le_of_ble_eq_true rfl⟩) hPc hDc hKc hS hA hN rfl hl.1 rfl (Nat.le_of_ble_eq_true rfl) dX16_carry_4 (fun H locs hP1 hD1 hk1 hS => ?_)
  have hP := nd_n0 hP hk1
  refine lv_istore_n (lv' := [(2, .int q1), (0, .ref (a 0)), (1, .int v0)]) hx hb dX16_carry_7 rfl hl (by decide) rfl (fun ls hl => ?_)
  refine lv_iload_n hx hb dX16_carry_8 rfl (lv_at hl 2 rfl) ?_
  refine lv_bipush (v := 12) hx hb dX16_carry_9 (by decide) ?_
  refine lv_iconst (v := 3) hx hb dX16_carry_11 (by decide) ?_
  obtain ⟨q4, s5, hq, h⟩ := nd_b2_e h
  have hPc : va_P (dC, dI) vwCl (dw_P a ac ()) H := nd_p0
  have hDc : va_D A (dw_P a ac ()) := nd_d0
  have hKc : va_K (dC, dI) vwCl (dk_P ac) s := nd_y0 hK
  have hFc : ∀ q, va_A (dw_P a ac ()) H.size q → A q := nd_r0 hS hA
  refine nd_cSi (As := [.int v0, .int 12, .int 3]) (rest := []) (q := q4) (w' := dw_P a ac s5) ⟨hx, hb, hml, hown, hts⟩ (fun sz => dm_X16_part l hlt dC dI a ac n (v0) (12) (3) () hq sz) (cwS 3 hts gi_dm_X16_carry_0 rfl rfl rfl (by decide +kernel) ⟨Nat.le_of_ble_eq_true rfl, Nat.le_of_ble_eq_true rfl⟩) hPc hDc hKc hS hA hN rfl hl.1 rfl (Nat.le_of_ble_eq_true rfl) dX16_carry_12 (fun H locs hP1 hD1 hk1 hS => ?_)
  have hP := nd_n0 hP hk1
  refine lv_istore_n (lv' := [(3, .int q4), (2, .int q1), (0, .ref (a 0)), (1, .int v0)]) hx hb dX16_carry_15 rfl hl (by decide) rfl (fun ls hl => ?_)
  refine lv_aload_n hx hb dX16_carry_16 rfl (lv_at hl 2 rfl) ?_
  refine va_get (D := (dC, dI)) (ci := 17) (v := .ref (a 11)) (C := RX16) (T := TX16) (N := 56) hx hb hts hi_dm_X16_carry_X16 hown hK hP 0 rfl rfl 19 (by decide) (hts (.fieldLink RX16 42 "TimeMachineModel$Machine" "x" "[I") (List.mem_of_getElem? (i := 4) rfl)) (fun _ h9 => h9) rfl dX16_carry_17 ?_
  refine lv_bipush (v := 32) hx hb dX16_carry_20 (by decide) ?_
  refine lv_aload_n hx hb dX16_carry_22 rfl (lv_at hl 2 rfl) ?_
  refine va_get (D := (dC, dI)) (ci := 17) (v := .int (sI s0.1 12)) (C := RX16) (T := TX16) (N := 56) hx hb hts hi_dm_X16_carry_X16 hown hK hP 0 rfl rfl 51 (by decide) (hts (.fieldLink RX16 232 "TimeMachineModel$Machine" "p" "I") (List.mem_of_getElem? (i := 5) rfl)) (fun _ h9 => h9) rfl dX16_carry_23 ?_
  refine lv_imul hx hb dX16_carry_26 ?_
  refine lv_iload_n hx hb dX16_carry_27 rfl (lv_at hl 3 rfl) ?_
  refine lv_bipush (v := 15) hx hb dX16_carry_28 (by decide) ?_
  refine lv_iconst (v := 5) hx hb dX16_carry_30 (by decide) ?_
  obtain ⟨q7, s8, hq, h⟩ := nd_b2_e h
  have hPc : va_P (dC, dI) vwCl (dw_P a ac ()) H := nd_p0
  have hDc : va_D A (dw_P a ac ()) := nd_d0
  have hKc : va_K (dC, dI) vwCl (dk_P ac) s := nd_y0 hK
  have hFc : ∀ q, va_A (dw_P a ac ()) H.size q → A q := nd_r0 hS hA
  refine nd_cSi (As := [.int v0, .int 15, .int 5]) (rest := [.int (32 * (sI s0.1 12)), .ref (a 11)]) (q := q7) (w' := dw_P a ac s8) ⟨hx, hb, hml, hown, hts⟩ (fun sz => dm_X16_part l hlt dC dI a ac n (v0) (15) (5) () hq sz) (cwS 3 hts gi_dm_X16_carry_0 rfl rfl rfl (by decide +kernel) ⟨Nat.le_of_ble_eq_true rfl, Nat.le_of_ble_eq_true rfl⟩) hPc hDc hKc hS hA hN rfl hl.1 rfl (Nat.le_of_ble_eq_true rfl) dX16_carry_31 (fun H locs hP1 hD1 hk1 hS => ?_)
  have hP := nd_n0 hP hk1
  refine lv_iadd hx hb dX16_carry_34 ?_
  obtain ⟨i10, h⟩ := nd_ck_e h
  refine va_iald (i := ((32 * (sI s0.1 12)) + q7)) hx hb hK hP 11 10 rfl rfl i10 dX16_carry_35 ?_
  refine lv_topi (fun z11 ez11 => ?_)
  have h := nd_at h ez11
  refine lv_istore (lv' := [(4, .int z11), (3, .int q4), (2, .int q1), (0, .ref (a 0)), (1, .int v0)]) hx hb dX16_carry_36 hl (by decide) rfl (fun ls hl => ?_)
  refine lv_aload_n hx hb dX16_carry_38 rfl (lv_at hl 3 rfl) ?_
  refine va_get (D := (dC, dI)) (ci := 17) (v := .ref (a 11)) (C := RX16) (T := TX16) (N := 56) hx hb hts hi_dm_X16_carry_X16 hown hK hP 0 rfl rfl 19 (by decide) (hts (.fieldLink RX16 42 "TimeMachineModel$Machine" "x" "[I") (List.mem_of_getElem? (i := 4) rfl)) (fun _ h9 => h9) rfl dX16_carry_39 ?_
  refine lv_bipush (v := 32) hx hb dX16_carry_42 (by decide) ?_
  refine lv_aload_n hx hb dX16_carry_44 rfl (lv_at hl 3 rfl) ?_
  refine va_get (D := (dC, dI)) (ci := 17) (v := .int (sI s0.1 12)) (C := RX16) (T := TX16) (N := 56) hx hb hts hi_dm_X16_carry_X16 hown hK hP 0 rfl rfl 51 (by decide) (hts (.fieldLink RX16 232 "TimeMachineModel$Machine" "p" "I") (List.mem_of_getElem? (i := 5) rfl)) (fun _ h9 => h9) rfl dX16_carry_45 ?_
  refine lv_imul hx hb dX16_carry_48 ?_
  refine lv_iload_n hx hb dX16_carry_49 rfl (lv_at hl 4 rfl) ?_
  refine lv_bipush (v := 20) hx hb dX16_carry_50 (by decide) ?_
  refine lv_iconst (v := 5) hx hb dX16_carry_52 (by decide) ?_
  obtain ⟨q12, s13, hq, h⟩ := nd_b2_e h
  have hPc : va_P (dC, dI) vwCl (dw_P a ac ()) H := nd_p0
  have hDc : va_D A (dw_P a ac ()) := nd_d0
  have hKc : va_K (dC, dI) vwCl (dk_P ac) s := nd_y0 hK
  have hFc : ∀ q, va_A (dw_P a ac ()) H.size q → A q := nd_r0 hS hA
  refine nd_cSi (As := [.int v0, .int 20, .int 5]) (rest := [.int (32 * (sI s0.1 12)), .ref (a 11)]) (q := q12) (w' := dw_P a ac s13) ⟨hx, hb, hml, hown, hts⟩ (fun sz => dm_X16_part l hlt dC dI a ac n (v0) (20) (5) () hq sz) (cwS 3 hts gi_dm_X16_carry_0 rfl rfl rfl (by decide +kernel) ⟨Nat.le_of_ble_eq_true rfl, Nat.le_of_ble_eq_true rfl⟩) hPc hDc hKc hS hA hN rfl hl.1 rfl (Nat.le_of_ble_eq_true rfl) dX16_carry_53 (fun H locs hP1 hD1 hk1 hS => ?_)
  have hP := nd_n0 hP hk1
  refine lv_iadd hx hb dX16_carry_56 ?_
  obtain ⟨i15, h⟩ := nd_ck_e h
  refine va_iald (i := ((32 * (sI s0.1 12)) + q12)) hx hb hK hP 11 10 rfl rfl i15 dX16_carry_57 ?_
  refine lv_topi (fun z16 ez16 => ?_)
  have h := nd_at h ez16
  refine lv_istore (lv' := [(5, .int z16), (4, .int z11), (3, .int q4), (2, .int q1), (0, .ref (a 0)), (1, .int v0)]) hx hb dX16_carry_58 hl (by decide) rfl (fun ls hl => ?_)
  refine lv_iload_n hx hb dX16_carry_60 rfl (lv_at hl 5 rfl) ?_
  refine lv_bipush (v := 25) hx hb dX16_carry_61 (by decide) ?_
  refine lv_bipush (v := 7) hx hb dX16_carry_63 (by decide) ?_
  obtain ⟨q17, s18, hq, h⟩ := nd_b2_e h
  have hPc : va_P (dC, dI) vwCl (dw_P a ac ()) H := nd_p0
  have hDc : va_D A (dw_P a ac ()) := nd_d0
  have hKc : va_K (dC, dI) vwCl (dk_P ac) s := nd_y0 hK
  have hFc : ∀ q, va_A (dw_P a ac ()) H.size q → A q := nd_r0 hS hA
  refine nd_cSi (As := [.int v0, .int 25, .int 7]) (rest := []) (q := q17) (w' := dw_P a ac s18) ⟨hx, hb, hml, hown, hts⟩ (fun sz => dm_X16_part l hlt dC dI a ac n (v0) (25) (7) () hq sz) (cwS 3 hts gi_dm_X16_carry_0 rfl rfl rfl (by decide +kernel) ⟨Nat.le_of_ble_eq_true rfl, Nat.le_of_ble_eq_true rfl⟩) hPc hDc hKc hS hA hN rfl hl.1 rfl (Nat.le_of_ble_eq_true rfl) dX16_carry_65 (fun H locs hP1 hD1 hk1 hS => ?_)
  have hP := nd_n0 hP hk1
  refine lv_istore (lv' := [(6, .int q17), (5, .int z16), (4, .int z11), (3, .int q4), (2, .int q1), (0, .ref (a 0)), (1, .int v0)]) hx hb dX16_carry_68 hl (by decide) rfl (fun ls hl => ?_)
  refine lv_iload_n hx hb dX16_carry_70 rfl (lv_at hl 6 rfl) ?_
  refine lv_bipush (v := 20) hx hb dX16_carry_71 (by decide) ?_
  refine lv_ishr hx hb dX16_carry_73 ?_
  refine lv_topi (fun z20 ez20 => ?_)
  have h := nd_at h ez20
  refine lv_istore (lv' := [(7, .int z20), (6, .int q17), (5, .int z16), (4, .int z11), (3, .int q4), (2, .int q1), (0, .ref (a 0)), (1, .int v0)]) hx hb dX16_carry_74 hl (by decide) rfl (fun ls hl => ?_)
  refine lv_iload_n hx hb dX16_carry_76 rfl (lv_at hl 7 rfl) ?_
  refine lv_iconst (v := 0) hx hb dX16_carry_77 (by decide) ?_
  refine lv_bipush (v := 7) hx hb dX16_carry_78 (by decide) ?_
  obtain ⟨q21, s22, hq, h⟩ := nd_b2_e h
  have hPc : va_P (dC, dI) vwCl (dw_P a ac ()) H := nd_p0
  have hDc : va_D A (dw_P a ac ()) := nd_d0
  have hKc : va_K (dC, dI) vwCl (dk_P ac) s := nd_y0 hK
  have hFc : ∀ q, va_A (dw_P a ac ()) H.size q → A q := nd_r0 hS hA
  refine nd_cSi (As := [.int v0, .int 0, .int 7]) (rest := []) (q := q21) (w' := dw_P a ac s22) ⟨hx, hb, hml, hown, hts⟩ (fun sz => dm_X16_part l hlt dC dI a ac n (v0) (0) (7) () hq sz) (cwS 3 hts gi_dm_X16_carry_0 rfl rfl rfl (by decide +kernel) ⟨Nat.le_of_ble_eq_true rfl, Nat.le_of_ble_eq_true rfl⟩) hPc hDc hKc hS hA hN rfl hl.1 rfl (Nat.le_of_ble_eq_true rfl) dX16_carry_80 (fun H locs hP1 hD1 hk1 hS => ?_)
  have hP := nd_n0 hP hk1
  by_cases c24 : q21 = 3
  · have h := nd_pos h c24
    refine lv_lookup (off := 258) (tgt := 341) hx hb dX16_carry_83 (by decide) (by rw [c24]; decide) (by decide) ?_
    refine lv_aload_n hx hb dX16_carry_341 rfl (lv_at hl 6 rfl) ?_
    refine lv_iload_n hx hb dX16_carry_342 rfl (lv_at hl 5 rfl) ?_
    refine lv_aload_n hx hb dX16_carry_343 rfl (lv_at hl 6 rfl) ?_
    refine lv_iload_n hx hb dX16_carry_344 rfl (lv_at hl 4 rfl) ?_
    refine lv_iload hx hb dX16_carry_345 (lv_at hl 3 rfl) ?_
    refine lv_iload hx hb dX16_carry_347 (lv_at hl 0 rfl) ?_
    refine lv_iadd hx hb dX16_carry_349 ?_
    obtain ⟨q25, s26, hq, h⟩ := nd_b2_e h
    have hPc := hP
    have hDc := hD
    have hKc := hK
    have hFc := nd_rs hD hS hA
    refine nd_cVi (As := [.int q4, .int (z11 + z20)]) (rest := [.int q1, .ref (a 0)]) (q := q25) (w' := dw_X16 a ac s26) ⟨hx, hb, hml, hown, hts⟩ (fun sz => dm_X16_loaded l hlt dC dI a ac n (q4) ((z11 + z20)) s0 hq sz) (cwV 2 hts gi_dm_X16_carry_1 rfl rfl rfl (by decide +kernel) ⟨Nat.le_of_ble_eq_true rfl, Nat.le_of_ble_eq_true rfl⟩) hPc hDc hKc hS hA hN (va_recv hKc hPc (ci := 17) (q0 := 0) rfl rfl) rfl hl.1 rfl (Nat.le_of_ble_eq_true rfl) dX16_carry_350 (fun H locs hP1 hD1 hk1 hS => ?_)
    have hP := hP1
    have hD := hD1.weaken (fun k q _ h => hFc q.1 h)
    obtain ⟨s29, hq, h⟩ := nd_b1_e h
    have hPc := hP
    have hDc := hD
    have hKc := hK
    have hFc := nd_rs hD hS hA
    refine nd_cVv (As := [.int q1, .int q25]) (rest := []) (w' := dw_X16 a ac s29) ⟨hx, hb, hml, hown, hts⟩ (fun sz => dm_X16_become l hlt dC dI a ac n (q1) (q25) s26 hq sz) (cwV 2 hts gi_dm_X16_carry_2 rfl rfl rfl (by decide +kernel) ⟨Nat.le_of_ble_eq_true rfl, Nat.le_of_ble_eq_true rfl⟩) hPc hDc hKc hS hA hN (va_recv hKc hPc (ci := 17) (q0 := 0) rfl rfl) rfl hl.1 rfl (Nat.le_of_ble_eq_true rfl) dX16_carry_353 (fun H locs hP1 hD1 hk1 hS => ?_)
    have hP := hP1
    have hD := hD1.weaken (fun k q _ h => hFc q.1 h)
    refine lv_goto (tgt := 562) hx hb dX16_carry_356 (by decide) ?_
    exact (db_X16_carry_562 C K)  s29 _ _ _ h hP hD hS (lv_sub hl [] rfl)
  have h := nd_neg h c24
  by_cases c31 : q21 = 15
  · have h := nd_pos h c31
    refine lv_lookup (off := 447) (tgt := 530) hx hb dX16_carry_83 (by decide) (by rw [c31]; decide) (by decide) ?_
    refine lv_iload_n hx hb dX16_carry_530 rfl (lv_at hl 4 rfl) ?_
    refine lv_iconst (v := 1) hx hb dX16_carry_531 (by decide) ?_
    refine lv_icmp_le (tgt := 562) hx hb dX16_carry_532 (by decide) (fun c32 => ?_) (fun c32 => ?_)
    · have h := nd_pos h c32
      exact (db_X16_carry_562 C K)  s0 _ _ _ h hP hD hS (lv_sub hl [] rfl)
    · have h := nd_neg h c32
      refine lv_aload_n hx hb dX16_carry_535 rfl (lv_at hl 6 rfl) ?_
      obtain ⟨q33, s34, hq, h⟩ := nd_b2_e h
      have hPc := hP
      have hDc := hD
      have hKc := hK
      have hFc := nd_rs hD hS hA
      refine nd_cVi (As := []) (rest := []) (q := q33) (w' := dw_X16 a ac s34) ⟨hx, hb, hml, hown, hts⟩ (fun sz => dm_X16_illegal l hlt dC dI a ac n  s0 hq sz) (cwV 0 hts gi_dm_X16_carry_3 rfl rfl rfl (by decide +kernel) ⟨Nat.le_of_ble_eq_true rfl, Nat.le_of_ble_eq_true rfl⟩) hPc hDc hKc hS hA hN (va_recv hKc hPc (ci := 17) (q0 := 0) rfl rfl) rfl hl.1 rfl (Nat.le_of_ble_eq_true rfl) dX16_carry_536 (fun H locs hP1 hD1 hk1 hS => ?_)
      have hP := hP1
      have hD := hD1.weaken (fun k q _ h => hFc q.1 h)
      refine lv_pop hx hb dX16_carry_539 rfl ?_
      refine lv_goto (tgt := 562) hx hb dX16_carry_540 (by decide) ?_
      exact (db_X16_carry_562 C K)  s34 _ _ _ h hP hD hS (lv_sub hl [] rfl)
  have h := nd_neg h c31
  by_cases c36 : q21 = 19
  · have h := nd_pos h c36
    refine lv_lookup (off := 296) (tgt := 379) hx hb dX16_carry_83 (by decide) (by rw [c36]; decide) (by decide) ?_
    refine lv_aload_n hx hb dX16_carry_379 rfl (lv_at hl 6 rfl) ?_
    refine lv_iload_n hx hb dX16_carry_380 rfl (lv_at hl 5 rfl) ?_
    refine lv_iload_n hx hb dX16_carry_381 rfl (lv_at hl 4 rfl) ?_
    refine lv_iconst (v := 1) hx hb dX16_carry_382 (by decide) ?_
    refine lv_icmp_eq (tgt := 391) hx hb dX16_carry_383 (by decide) (fun c37 => ?_) (fun c37 => ?_)
    · have h := nd_pos h c37
      exact (db_X16_carry_391 C K) (v0) (q4) (z11) (q17) (q1) s0 _ _ _ h hP hD hS (lv_sub hl [6, 7, 4, 3, 1] rfl)
    · have h := nd_neg h c37
      refine lv_iload_n hx hb dX16_carry_386 rfl (lv_at hl 4 rfl) ?_
      refine lv_iconst (v := 5) hx hb dX16_carry_387 (by decide) ?_
      refine lv_icmp_ne (tgt := 410) hx hb dX16_carry_388 (by decide) (fun c47 => ?_) (fun c47 => ?_)
      · have h := nd_neg h c47
        refine lv_iload_n hx hb dX16_carry_410 rfl (lv_at hl 4 rfl) ?_
        refine lv_iload hx hb dX16_carry_411 (lv_at hl 3 rfl) ?_
        refine lv_iload hx hb dX16_carry_413 (lv_at hl 0 rfl) ?_
        obtain ⟨q48, s49, hq, h⟩ := nd_b2_e h
        have hPc : va_P (dC, dI) vwCl (dw_P a ac ()) H := nd_p0
        have hDc : va_D A (dw_P a ac ()) := nd_d0
        have hKc : va_K (dC, dI) vwCl (dk_P ac) s := nd_y0 hK
        have hFc : ∀ q, va_A (dw_P a ac ()) H.size q → A q := nd_r0 hS hA
        refine nd_cSi (As := [.int q4, .int z11, .int z20]) (rest := [.int q1, .ref (a 0)]) (q := q48) (w' := dw_P a ac s49) ⟨hx, hb, hml, hown, hts⟩ (fun sz => dm_X16_reckoned l hlt dC dI a ac n (q4) (z11) (z20) () hq sz) (cwS 3 hts gi_dm_X16_carry_5 rfl rfl rfl (by decide +kernel) ⟨Nat.le_of_ble_eq_true rfl, Nat.le_of_ble_eq_true rfl⟩) hPc hDc hKc hS hA hN rfl hl.1 rfl (Nat.le_of_ble_eq_true rfl) dX16_carry_415 (fun H locs hP1 hD1 hk1 hS => ?_)
        have hP := nd_n0 hP hk1
        exact (db_X16_carry_418 C K) (q1) (q48) s0 _ _ _ h hP hD hS (lv_sub hl [] rfl)
      · have h := nd_pos h c47
        exact (db_X16_carry_391 C K) (v0) (q4) (z11) (q17) (q1) s0 _ _ _ h hP hD hS (lv_sub hl [6, 7, 4, 3, 1] rfl)
  have h := nd_neg h c36
  by_cases c51 : q21 = 23
  · have h := nd_pos h c51
    refine lv_lookup (off := 118) (tgt := 201) hx hb dX16_carry_83 (by decide) (by rw [c51]; decide) (by decide) ?_
    refine lv_aload_n hx hb dX16_carry_201 rfl (lv_at hl 6 rfl) ?_
    refine lv_iload_n hx hb dX16_carry_202 rfl (lv_at hl 5 rfl) ?_
    refine lv_aload_n hx hb dX16_carry_203 rfl (lv_at hl 6 rfl) ?_
    refine va_get (D := (dC, dI)) (ci := 17) (v := .ref (a 12)) (C := RX16) (T := TX16) (N := 56) hx hb hts hi_dm_X16_carry_X16 hown hK hP 0 rfl rfl 20 (by decide) (hts (.fieldLink RX16 45 "TimeMachineModel$Machine" "place" "[I") (List.mem_of_getElem? (i := 20) rfl)) (fun _ h9 => h9) rfl dX16_carry_204 ?_
    refine lv_aload_n hx hb dX16_carry_207 rfl (lv_at hl 6 rfl) ?_
    refine va_get (D := (dC, dI)) (ci := 17) (v := .int (sI s0.1 12)) (C := RX16) (T := TX16) (N := 56) hx hb hts hi_dm_X16_carry_X16 hown hK hP 0 rfl rfl 51 (by decide) (hts (.fieldLink RX16 232 "TimeMachineModel$Machine" "p" "I") (List.mem_of_getElem? (i := 5) rfl)) (fun _ h9 => h9) rfl dX16_carry_208 ?_
    obtain ⟨i52, h⟩ := nd_ck_e h
    refine va_iald (i := (sI s0.1 12)) hx hb hK hP 12 11 rfl rfl i52 dX16_carry_211 ?_
    refine lv_iload_n hx hb dX16_carry_212 rfl (lv_at hl 7 rfl) ?_
    refine lv_sipush (v := (-4096)) hx hb dX16_carry_213 (by decide) ?_
    refine lv_iand hx hb dX16_carry_216 ?_
    refine lv_iadd hx hb dX16_carry_217 ?_
    obtain ⟨s54, hq, h⟩ := nd_b1_e h
    have hPc := hP
    have hDc := hD
    have hKc := hK
    have hFc := nd_rs hD hS hA
    refine nd_cVv (As := [.int q1, .int ((sR s0.1 10 (Int32.toNatClampNeg (sI s0.1 12))) + (v0 &&& (-4096)))]) (rest := []) (w' := dw_X16 a ac s54) ⟨hx, hb, hml, hown, hts⟩ (fun sz => dm_X16_become l hlt dC dI a ac n (q1) (((sR s0.1 10 (Int32.toNatClampNeg (sI s0.1 12))) + (v0 &&& (-4096)))) s0 hq sz) (cwV 2 hts gi_dm_X16_carry_2 rfl rfl rfl (by decide +kernel) ⟨Nat.le_of_ble_eq_true rfl, Nat.le_of_ble_eq_true rfl⟩) hPc hDc hKc hS hA hN (va_recv hKc hPc (ci := 17) (q0 := 0) rfl rfl) rfl hl.1 rfl (Nat.le_of_ble_eq_true rfl) dX16_carry_218 (fun H locs hP1 hD1 hk1 hS => ?_)
    have hP := hP1
    have hD := hD1.weaken (fun k q _ h => hFc q.1 h)
    refine lv_goto (tgt := 562) hx hb dX16_carry_221 (by decide) ?_
    exact (db_X16_carry_562 C K)  s54 _ _ _ h hP hD hS (lv_sub hl [] rfl)
  have h := nd_neg h c51
  by_cases c56 : q21 = 35
  · have h := nd_pos h c56
    refine lv_lookup (off := 276) (tgt := 359) hx hb dX16_carry_83 (by decide) (by rw [c56]; decide) (by decide) ?_
    refine lv_aload_n hx hb dX16_carry_359 rfl (lv_at hl 6 rfl) ?_
    refine lv_iload_n hx hb dX16_carry_360 rfl (lv_at hl 4 rfl) ?_
    refine lv_iload hx hb dX16_carry_361 (lv_at hl 3 rfl) ?_
    refine lv_iload hx hb dX16_carry_363 (lv_at hl 0 rfl) ?_
    refine lv_bipush (v := (-32)) hx hb dX16_carry_365 (by decide) ?_
    refine lv_iand hx hb dX16_carry_367 ?_
    refine lv_iload_n hx hb dX16_carry_368 rfl (lv_at hl 5 rfl) ?_
    refine lv_ior hx hb dX16_carry_369 ?_
    refine lv_iadd hx hb dX16_carry_370 ?_
    refine lv_iload hx hb dX16_carry_371 (lv_at hl 2 rfl) ?_
    obtain ⟨s58, hq, h⟩ := nd_b1_e h
    have hPc := hP
    have hDc := hD
    have hKc := hK
    have hFc := nd_rs hD hS hA
    refine nd_cVv (As := [.int q4, .int (z11 + ((z20 &&& (-32)) ||| q1)), .int z16]) (rest := []) (w' := dw_X16 a ac s58) ⟨hx, hb, hml, hown, hts⟩ (fun sz => dm_X16_stored l hlt dC dI a ac n (q4) ((z11 + ((z20 &&& (-32)) ||| q1))) (z16) s0 hq sz) (cwV 3 hts gi_dm_X16_carry_6 rfl rfl rfl (by decide +kernel) ⟨Nat.le_of_ble_eq_true rfl, Nat.le_of_ble_eq_true rfl⟩) hPc hDc hKc hS hA hN (va_recv hKc hPc (ci := 17) (q0 := 0) rfl rfl) rfl hl.1 rfl (Nat.le_of_ble_eq_true rfl) dX16_carry_373 (fun H locs hP1 hD1 hk1 hS => ?_)
    have hP := hP1
    have hD := hD1.weaken (fun k q _ h => hFc q.1 h)
    refine lv_goto (tgt := 562) hx hb dX16_carry_376 (by decide) ?_
    exact (db_X16_carry_562 C K)  s58 _ _ _ h hP hD hS (lv_sub hl [] rfl)
  have h := nd_neg h c56
  by_cases c60 : q21 = 47
  · have h := nd_pos h c60
    refine lv_lookup (off := 425) (tgt := 508) hx hb dX16_carry_83 (by decide) (by rw [c60]; decide) (by decide) ?_
    refine lv_aload_n hx hb dX16_carry_508 rfl (lv_at hl 6 rfl) ?_
    refine lv_iload_n hx hb dX16_carry_509 rfl (lv_at hl 5 rfl) ?_
    refine lv_aload_n hx hb dX16_carry_510 rfl (lv_at hl 6 rfl) ?_
    refine lv_iload_n hx hb dX16_carry_511 rfl (lv_at hl 7 rfl) ?_
    refine lv_iload_n hx hb dX16_carry_512 rfl (lv_at hl 4 rfl) ?_
    refine lv_iload hx hb dX16_carry_513 (lv_at hl 1 rfl) ?_
    refine lv_iconst (v := 2) hx hb dX16_carry_515 (by decide) ?_
    refine lv_ishr hx hb dX16_carry_516 ?_
    refine lv_iload hx hb dX16_carry_517 (lv_at hl 3 rfl) ?_
    refine lv_iload hx hb dX16_carry_519 (lv_at hl 2 rfl) ?_
    obtain ⟨q61, s62, hq, h⟩ := nd_b2_e h
    have hPc := hP
    have hDc := hD
    have hKc := hK
    have hFc := nd_rs hD hS hA
    refine nd_cVi (As := [.int v0, .int q4, .int ((q17 : Int32) >>> ((2 : Int32) &&& 31)), .int z11, .int z16]) (rest := [.int q1, .ref (a 0)]) (q := q61) (w' := dw_X16 a ac s62) ⟨hx, hb, hml, hown, hts⟩ (fun sz => dm_X16_atomic l hlt dC dI a ac n (v0) (q4) (((q17 : Int32) >>> ((2 : Int32) &&& 31))) (z11) (z16) s0 hq sz) (cwV 5 hts gi_dm_X16_carry_7 rfl rfl rfl (by decide +kernel) ⟨Nat.le_of_ble_eq_true rfl, Nat.le_of_ble_eq_true rfl⟩) hPc hDc hKc hS hA hN (va_recv hKc hPc (ci := 17) (q0 := 0) rfl rfl) rfl hl.1 rfl (Nat.le_of_ble_eq_true rfl) dX16_carry_521 (fun H locs hP1 hD1 hk1 hS => ?_)
    have hP := hP1
    have hD := hD1.weaken (fun k q _ h => hFc q.1 h)
    obtain ⟨s65, hq, h⟩ := nd_b1_e h
    have hPc := hP
    have hDc := hD
    have hKc := hK
    have hFc := nd_rs hD hS hA
    refine nd_cVv (As := [.int q1, .int q61]) (rest := []) (w' := dw_X16 a ac s65) ⟨hx, hb, hml, hown, hts⟩ (fun sz => dm_X16_become l hlt dC dI a ac n (q1) (q61) s62 hq sz) (cwV 2 hts gi_dm_X16_carry_2 rfl rfl rfl (by decide +kernel) ⟨Nat.le_of_ble_eq_true rfl, Nat.le_of_ble_eq_true rfl⟩) hPc hDc hKc hS hA hN (va_recv hKc hPc (ci := 17) (q0 := 0) rfl rfl) rfl hl.1 rfl (Nat.le_of_ble_eq_true rfl) dX16_carry_524 (fun H locs hP1 hD1 hk1 hS => ?_)
    have hP := hP1
    have hD := hD1.weaken (fun k q _ h => hFc q.1 h)
    refine lv_goto (tgt := 562) hx hb dX16_carry_527 (by decide) ?_
    exact (db_X16_carry_562 C K)  s65 _ _ _ h hP hD hS (lv_sub hl [] rfl)
  have h := nd_neg h c60
  by_cases c67 : q21 = 51
  · have h := nd_pos h c67
    refine lv_lookup (off := 341) (tgt := 424) hx hb dX16_carry_83 (by decide) (by rw [c67]; decide) (by decide) ?_
    refine lv_aload_n hx hb dX16_carry_424 rfl (lv_at hl 6 rfl) ?_
    refine lv_iload_n hx hb dX16_carry_425 rfl (lv_at hl 5 rfl) ?_
    refine lv_iload hx hb dX16_carry_426 (lv_at hl 1 rfl) ?_
    refine lv_iconst (v := 1) hx hb dX16_carry_428 (by decide) ?_
    refine lv_icmp_ne (tgt := 443) hx hb dX16_carry_429 (by decide) (fun c68 => ?_) (fun c68 => ?_)
    · have h := nd_neg h c68
      refine lv_iload hx hb dX16_carry_443 (lv_at hl 1 rfl) ?_
      refine lv_if_ne (tgt := 469) hx hb dX16_carry_445 (by decide) (fun c69 => ?_) (fun c69 => ?_)
      · have h := nd_neg h c69
        exact (db_X16_carry_469 C K) (q4) (z11) (z16) (q17) (q1) s0 _ _ _ h hP hD hS (lv_sub hl [6, 4, 3, 2, 1] rfl)
      · have h := nd_pos h c69
        refine lv_iload_n hx hb dX16_carry_448 rfl (lv_at hl 4 rfl) ?_
        refine lv_iconst (v := 1) hx hb dX16_carry_449 (by decide) ?_
        refine lv_icmp_eq (tgt := 469) hx hb dX16_carry_450 (by decide) (fun c78 => ?_) (fun c78 => ?_)
        · have h := nd_pos h c78
          exact (db_X16_carry_469 C K) (q4) (z11) (z16) (q17) (q1) s0 _ _ _ h hP hD hS (lv_sub hl [6, 4, 3, 2, 1] rfl)
        · have h := nd_neg h c78
          refine lv_iload_n hx hb dX16_carry_453 rfl (lv_at hl 4 rfl) ?_
          refine lv_iconst (v := 5) hx hb dX16_carry_454 (by decide) ?_
          refine lv_icmp_eq (tgt := 469) hx hb dX16_carry_455 (by decide) (fun c79 => ?_) (fun c79 => ?_)
          · have h := nd_pos h c79
            exact (db_X16_carry_469 C K) (q4) (z11) (z16) (q17) (q1) s0 _ _ _ h hP hD hS (lv_sub hl [6, 4, 3, 2, 1] rfl)
          · have h := nd_neg h c79
            refine lv_iload_n hx hb dX16_carry_458 rfl (lv_at hl 4 rfl) ?_
            refine lv_iload hx hb dX16_carry_459 (lv_at hl 3 rfl) ?_
            refine lv_iload hx hb dX16_carry_461 (lv_at hl 2 rfl) ?_
            obtain ⟨q80, s81, hq, h⟩ := nd_b2_e h
            have hPc : va_P (dC, dI) vwCl (dw_P a ac ()) H := nd_p0
            have hDc : va_D A (dw_P a ac ()) := nd_d0
            have hKc : va_K (dC, dI) vwCl (dk_P ac) s := nd_y0 hK
            have hFc : ∀ q, va_A (dw_P a ac ()) H.size q → A q := nd_r0 hS hA
            refine nd_cSi (As := [.int q4, .int z11, .int z16]) (rest := [.int q1, .ref (a 0)]) (q := q80) (w' := dw_P a ac s81) ⟨hx, hb, hml, hown, hts⟩ (fun sz => dm_X16_reckoned l hlt dC dI a ac n (q4) (z11) (z16) () hq sz) (cwS 3 hts gi_dm_X16_carry_5 rfl rfl rfl (by decide +kernel) ⟨Nat.le_of_ble_eq_true rfl, Nat.le_of_ble_eq_true rfl⟩) hPc hDc hKc hS hA hN rfl hl.1 rfl (Nat.le_of_ble_eq_true rfl) dX16_carry_463 (fun H locs hP1 hD1 hk1 hS => ?_)
            have hP := nd_n0 hP hk1
            refine lv_goto (tgt := 502) hx hb dX16_carry_466 (by decide) ?_
            exact (db_X16_carry_502 C K) (q1) (q80) s0 _ _ _ h hP hD hS (lv_sub hl [] rfl)
    · have h := nd_pos h c68
      refine lv_iload_n hx hb dX16_carry_432 rfl (lv_at hl 4 rfl) ?_
      refine lv_iload hx hb dX16_carry_433 (lv_at hl 3 rfl) ?_
      refine lv_iload hx hb dX16_carry_435 (lv_at hl 2 rfl) ?_
      obtain ⟨q83, s84, hq, h⟩ := nd_b2_e h
      have hPc : va_P (dC, dI) vwCl (dw_P a ac ()) H := nd_p0
      have hDc : va_D A (dw_P a ac ()) := nd_d0
      have hKc : va_K (dC, dI) vwCl (dk_P ac) s := nd_y0 hK
      have hFc : ∀ q, va_A (dw_P a ac ()) H.size q → A q := nd_r0 hS hA
      refine nd_cSi (As := [.int q4, .int z11, .int z16]) (rest := [.int q1, .ref (a 0)]) (q := q83) (w' := dw_P a ac s84) ⟨hx, hb, hml, hown, hts⟩ (fun sz => dm_X16_multiplied l hlt dC dI a ac n (q4) (z11) (z16) () hq sz) (cwS 3 hts gi_dm_X16_carry_8 rfl rfl rfl (by decide +kernel) ⟨Nat.le_of_ble_eq_true rfl, Nat.le_of_ble_eq_true rfl⟩) hPc hDc hKc hS hA hN rfl hl.1 rfl (Nat.le_of_ble_eq_true rfl) dX16_carry_437 (fun H locs hP1 hD1 hk1 hS => ?_)
      have hP := nd_n0 hP hk1
      refine lv_goto (tgt := 502) hx hb dX16_carry_440 (by decide) ?_
      exact (db_X16_carry_502 C K) (q1) (q83) s0 _ _ _ h hP hD hS (lv_sub hl [] rfl)
  have h := nd_neg h c67
  by_cases c86 : q21 = 55
  · have h := nd_pos h c86
    refine lv_lookup (off := 105) (tgt := 188) hx hb dX16_carry_83 (by decide) (by rw [c86]; decide) (by decide) ?_
    refine lv_aload_n hx hb dX16_carry_188 rfl (lv_at hl 6 rfl) ?_
    refine lv_iload_n hx hb dX16_carry_189 rfl (lv_at hl 5 rfl) ?_
    refine lv_iload_n hx hb dX16_carry_190 rfl (lv_at hl 7 rfl) ?_
    refine lv_sipush (v := (-4096)) hx hb dX16_carry_191 (by decide) ?_
    refine lv_iand hx hb dX16_carry_194 ?_
    obtain ⟨s88, hq, h⟩ := nd_b1_e h
    have hPc := hP
    have hDc := hD
    have hKc := hK
    have hFc := nd_rs hD hS hA
    refine nd_cVv (As := [.int q1, .int (v0 &&& (-4096))]) (rest := []) (w' := dw_X16 a ac s88) ⟨hx, hb, hml, hown, hts⟩ (fun sz => dm_X16_become l hlt dC dI a ac n (q1) ((v0 &&& (-4096))) s0 hq sz) (cwV 2 hts gi_dm_X16_carry_2 rfl rfl rfl (by decide +kernel) ⟨Nat.le_of_ble_eq_true rfl, Nat.le_of_ble_eq_true rfl⟩) hPc hDc hKc hS hA hN (va_recv hKc hPc (ci := 17) (q0 := 0) rfl rfl) rfl hl.1 rfl (Nat.le_of_ble_eq_true rfl) dX16_carry_195 (fun H locs hP1 hD1 hk1 hS => ?_)
    have hP := hP1
    have hD := hD1.weaken (fun k q _ h => hFc q.1 h)
    refine lv_goto (tgt := 562) hx hb dX16_carry_198 (by decide) ?_
    exact (db_X16_carry_562 C K)  s88 _ _ _ h hP hD hS (lv_sub hl [] rfl)
  have h := nd_neg h c86
  by_cases c90 : q21 = 99
  · have h := nd_pos h c90
    refine lv_lookup (off := 245) (tgt := 328) hx hb dX16_carry_83 (by decide) (by rw [c90]; decide) (by decide) ?_
    refine lv_aload_n hx hb dX16_carry_328 rfl (lv_at hl 6 rfl) ?_
    refine lv_iload_n hx hb dX16_carry_329 rfl (lv_at hl 7 rfl) ?_
    refine lv_iload_n hx hb dX16_carry_330 rfl (lv_at hl 4 rfl) ?_
    refine lv_iload hx hb dX16_carry_331 (lv_at hl 3 rfl) ?_
    refine lv_iload hx hb dX16_carry_333 (lv_at hl 2 rfl) ?_
    obtain ⟨s92, hq, h⟩ := nd_b1_e h
    have hPc := hP
    have hDc := hD
    have hKc := hK
    have hFc := nd_rs hD hS hA
    refine nd_cVv (As := [.int v0, .int q4, .int z11, .int z16]) (rest := []) (w' := dw_X16 a ac s92) ⟨hx, hb, hml, hown, hts⟩ (fun sz => dm_X16_decide l hlt dC dI a ac n (v0) (q4) (z11) (z16) s0 hq sz) (cwV 4 hts gi_dm_X16_carry_9 rfl rfl rfl (by decide +kernel) ⟨Nat.le_of_ble_eq_true rfl, Nat.le_of_ble_eq_true rfl⟩) hPc hDc hKc hS hA hN (va_recv hKc hPc (ci := 17) (q0 := 0) rfl rfl) rfl hl.1 rfl (Nat.le_of_ble_eq_true rfl) dX16_carry_335 (fun H locs hP1 hD1 hk1 hS => ?_)
    have hP := hP1
    have hD := hD1.weaken (fun k q _ h => hFc q.1 h)
    refine lv_goto (tgt := 562) hx hb dX16_carry_338 (by decide) ?_
    exact (db_X16_carry_562 C K)  s92 _ _ _ h hP hD hS (lv_sub hl [] rfl)
  have h := nd_neg h c90
  by_cases c94 : q21 = 103
  · have h := nd_pos h c94
    refine lv_lookup (off := 212) (tgt := 295) hx hb dX16_carry_83 (by decide) (by rw [c94]; decide) (by decide) ?_
    refine lv_iload_n hx hb dX16_carry_295 rfl (lv_at hl 4 rfl) ?_
    refine lv_if_eq (tgt := 304) hx hb dX16_carry_296 (by decide) (fun c95 => ?_) (fun c95 => ?_)
    · have h := nd_pos h c95
      exact (db_X16_carry_304 C K) (q1) (z11) (z20) s0 _ _ _ h hP hD hS (lv_sub hl [6, 5, 3, 0] rfl)
    · have h := nd_neg h c95
      refine lv_aload_n hx hb dX16_carry_299 rfl (lv_at hl 6 rfl) ?_
      obtain ⟨q100, s101, hq, h⟩ := nd_b2_e h
      have hPc := hP
      have hDc := hD
      have hKc := hK
      have hFc := nd_rs hD hS hA
      refine nd_cVi (As := []) (rest := []) (q := q100) (w' := dw_X16 a ac s101) ⟨hx, hb, hml, hown, hts⟩ (fun sz => dm_X16_illegal l hlt dC dI a ac n  s0 hq sz) (cwV 0 hts gi_dm_X16_carry_3 rfl rfl rfl (by decide +kernel) ⟨Nat.le_of_ble_eq_true rfl, Nat.le_of_ble_eq_true rfl⟩) hPc hDc hKc hS hA hN (va_recv hKc hPc (ci := 17) (q0 := 0) rfl rfl) rfl hl.1 rfl (Nat.le_of_ble_eq_true rfl) dX16_carry_300 (fun H locs hP1 hD1 hk1 hS => ?_)
      have hP := hP1
      have hD := hD1.weaken (fun k q _ h => hFc q.1 h)
      refine lv_pop hx hb dX16_carry_303 rfl ?_
      exact (db_X16_carry_304 C K) (q1) (z11) (z20) s101 _ _ _ h hP hD hS (lv_sub hl [6, 5, 3, 0] rfl)
  have h := nd_neg h c94
  by_cases c103 : q21 = 111
  · have h := nd_pos h c103
    refine lv_lookup (off := 141) (tgt := 224) hx hb dX16_carry_83 (by decide) (by rw [c103]; decide) (by decide) ?_
    refine lv_aload_n hx hb dX16_carry_224 rfl (lv_at hl 6 rfl) ?_
    refine lv_iload_n hx hb dX16_carry_225 rfl (lv_at hl 5 rfl) ?_
    refine lv_aload_n hx hb dX16_carry_226 rfl (lv_at hl 6 rfl) ?_
    refine va_get (D := (dC, dI)) (ci := 17) (v := .int (sI s0.1 10)) (C := RX16) (T := TX16) (N := 56) hx hb hts hi_dm_X16_carry_X16 hown hK hP 0 rfl rfl 49 (by decide) (hts (.fieldLink RX16 350 "TimeMachineModel$Machine" "next" "I") (List.mem_of_getElem? (i := 32) rfl)) (fun _ h9 => h9) rfl dX16_carry_227 ?_
    obtain ⟨s105, hq, h⟩ := nd_b1_e h
    have hPc := hP
    have hDc := hD
    have hKc := hK
    have hFc := nd_rs hD hS hA
    refine nd_cVv (As := [.int q1, .int (sI s0.1 10)]) (rest := []) (w' := dw_X16 a ac s105) ⟨hx, hb, hml, hown, hts⟩ (fun sz => dm_X16_become l hlt dC dI a ac n (q1) ((sI s0.1 10)) s0 hq sz) (cwV 2 hts gi_dm_X16_carry_2 rfl rfl rfl (by decide +kernel) ⟨Nat.le_of_ble_eq_true rfl, Nat.le_of_ble_eq_true rfl⟩) hPc hDc hKc hS hA hN (va_recv hKc hPc (ci := 17) (q0 := 0) rfl rfl) rfl hl.1 rfl (Nat.le_of_ble_eq_true rfl) dX16_carry_230 (fun H locs hP1 hD1 hk1 hS => ?_)
    have hP := hP1
    have hD := hD1.weaken (fun k q _ h => hFc q.1 h)
    refine lv_aload_n hx hb dX16_carry_233 rfl (lv_at hl 6 rfl) ?_
    refine lv_aload_n hx hb dX16_carry_234 rfl (lv_at hl 6 rfl) ?_
    refine va_get (D := (dC, dI)) (ci := 17) (v := .ref (a 12)) (C := RX16) (T := TX16) (N := 56) hx hb hts hi_dm_X16_carry_X16 hown hK hP 0 rfl rfl 20 (by decide) (hts (.fieldLink RX16 45 "TimeMachineModel$Machine" "place" "[I") (List.mem_of_getElem? (i := 20) rfl)) (fun _ h9 => h9) rfl dX16_carry_235 ?_
    refine lv_aload_n hx hb dX16_carry_238 rfl (lv_at hl 6 rfl) ?_
    refine va_get (D := (dC, dI)) (ci := 17) (v := .int (sI s105.1 12)) (C := RX16) (T := TX16) (N := 56) hx hb hts hi_dm_X16_carry_X16 hown hK hP 0 rfl rfl 51 (by decide) (hts (.fieldLink RX16 232 "TimeMachineModel$Machine" "p" "I") (List.mem_of_getElem? (i := 5) rfl)) (fun _ h9 => h9) rfl dX16_carry_239 ?_
    obtain ⟨i107, h⟩ := nd_ck_e h
    refine va_iald (i := (sI s105.1 12)) hx hb hK hP 12 11 rfl rfl i107 dX16_carry_242 ?_
    refine lv_iload_n hx hb dX16_carry_243 rfl (lv_at hl 7 rfl) ?_
    refine lv_bipush (v := 31) hx hb dX16_carry_244 (by decide) ?_
    refine lv_iconst (v := 1) hx hb dX16_carry_246 (by decide) ?_
    refine lv_bipush (v := 20) hx hb dX16_carry_247 (by decide) ?_
    obtain ⟨q108, s109, hq, h⟩ := nd_b2_e h
    have hPc : va_P (dC, dI) vwCl (dw_P a ac ()) H := nd_p0
    have hDc : va_D A (dw_P a ac ()) := nd_d0
    have hKc : va_K (dC, dI) vwCl (dk_P ac) s := nd_y0 hK
    have hFc : ∀ q, va_A (dw_P a ac ()) H.size q → A q := nd_r0 hS hA
    refine nd_cSi (As := [.int v0, .int 31, .int 1, .int 20]) (rest := [.int (sR s105.1 10 (Int32.toNatClampNeg (sI s105.1 12))), .ref (a 0)]) (q := q108) (w' := dw_P a ac s109) ⟨hx, hb, hml, hown, hts⟩ (fun sz => dm_X16_bit l hlt dC dI a ac n (v0) (31) (1) (20) () hq sz) (cwS 4 hts gi_dm_X16_carry_10 rfl rfl rfl (by decide +kernel) ⟨Nat.le_of_ble_eq_true rfl, Nat.le_of_ble_eq_true rfl⟩) hPc hDc hKc hS hA hN rfl hl.1 rfl (Nat.le_of_ble_eq_true rfl) dX16_carry_249 (fun H locs hP1 hD1 hk1 hS => ?_)
    have hP := nd_n0 hP hk1
    refine lv_iload_n hx hb dX16_carry_252 rfl (lv_at hl 7 rfl) ?_
    refine lv_bipush (v := 12) hx hb dX16_carry_253 (by decide) ?_
    refine lv_bipush (v := 8) hx hb dX16_carry_255 (by decide) ?_
    refine lv_bipush (v := 12) hx hb dX16_carry_257 (by decide) ?_
    obtain ⟨q111, s112, hq, h⟩ := nd_b2_e h
    have hPc : va_P (dC, dI) vwCl (dw_P a ac ()) H := nd_p0
    have hDc : va_D A (dw_P a ac ()) := nd_d0
    have hKc : va_K (dC, dI) vwCl (dk_P ac) s := nd_y0 hK
    have hFc : ∀ q, va_A (dw_P a ac ()) H.size q → A q := nd_r0 hS hA
    refine nd_cSi (As := [.int v0, .int 12, .int 8, .int 12]) (rest := [.int q108, .int (sR s105.1 10 (Int32.toNatClampNeg (sI s105.1 12))), .ref (a 0)]) (q := q111) (w' := dw_P a ac s112) ⟨hx, hb, hml, hown, hts⟩ (fun sz => dm_X16_bit l hlt dC dI a ac n (v0) (12) (8) (12) () hq sz) (cwS 4 hts gi_dm_X16_carry_10 rfl rfl rfl (by decide +kernel) ⟨Nat.le_of_ble_eq_true rfl, Nat.le_of_ble_eq_true rfl⟩) hPc hDc hKc hS hA hN rfl hl.1 rfl (Nat.le_of_ble_eq_true rfl) dX16_carry_259 (fun H locs hP1 hD1 hk1 hS => ?_)
    have hP := nd_n0 hP hk1
    refine lv_ior hx hb dX16_carry_262 ?_
    refine lv_iload_n hx hb dX16_carry_263 rfl (lv_at hl 7 rfl) ?_
    refine lv_bipush (v := 20) hx hb dX16_carry_264 (by decide) ?_
    refine lv_iconst (v := 1) hx hb dX16_carry_266 (by decide) ?_
    refine lv_bipush (v := 11) hx hb dX16_carry_267 (by decide) ?_
    obtain ⟨q114, s115, hq, h⟩ := nd_b2_e h
    have hPc : va_P (dC, dI) vwCl (dw_P a ac ()) H := nd_p0
    have hDc : va_D A (dw_P a ac ()) := nd_d0
    have hKc : va_K (dC, dI) vwCl (dk_P ac) s := nd_y0 hK
    have hFc : ∀ q, va_A (dw_P a ac ()) H.size q → A q := nd_r0 hS hA
    refine nd_cSi (As := [.int v0, .int 20, .int 1, .int 11]) (rest := [.int (q108 ||| q111), .int (sR s105.1 10 (Int32.toNatClampNeg (sI s105.1 12))), .ref (a 0)]) (q := q114) (w' := dw_P a ac s115) ⟨hx, hb, hml, hown, hts⟩ (fun sz => dm_X16_bit l hlt dC dI a ac n (v0) (20) (1) (11) () hq sz) (cwS 4 hts gi_dm_X16_carry_10 rfl rfl rfl (by decide +kernel) ⟨Nat.le_of_ble_eq_true rfl, Nat.le_of_ble_eq_true rfl⟩) hPc hDc hKc hS hA hN rfl hl.1 rfl (Nat.le_of_ble_eq_true rfl) dX16_carry_269 (fun H locs hP1 hD1 hk1 hS => ?_)
    have hP := nd_n0 hP hk1
    refine lv_ior hx hb dX16_carry_272 ?_
    refine lv_iload_n hx hb dX16_carry_273 rfl (lv_at hl 7 rfl) ?_
    refine lv_bipush (v := 21) hx hb dX16_carry_274 (by decide) ?_
    refine lv_bipush (v := 10) hx hb dX16_carry_276 (by decide) ?_
    refine lv_iconst (v := 1) hx hb dX16_carry_278 (by decide) ?_
    obtain ⟨q117, s118, hq, h⟩ := nd_b2_e h
    have hPc : va_P (dC, dI) vwCl (dw_P a ac ()) H := nd_p0
    have hDc : va_D A (dw_P a ac ()) := nd_d0
    have hKc : va_K (dC, dI) vwCl (dk_P ac) s := nd_y0 hK
    have hFc : ∀ q, va_A (dw_P a ac ()) H.size q → A q := nd_r0 hS hA
    refine nd_cSi (As := [.int v0, .int 21, .int 10, .int 1]) (rest := [.int ((q108 ||| q111) ||| q114), .int (sR s105.1 10 (Int32.toNatClampNeg (sI s105.1 12))), .ref (a 0)]) (q := q117) (w' := dw_P a ac s118) ⟨hx, hb, hml, hown, hts⟩ (fun sz => dm_X16_bit l hlt dC dI a ac n (v0) (21) (10) (1) () hq sz) (cwS 4 hts gi_dm_X16_carry_10 rfl rfl rfl (by decide +kernel) ⟨Nat.le_of_ble_eq_true rfl, Nat.le_of_ble_eq_true rfl⟩) hPc hDc hKc hS hA hN rfl hl.1 rfl (Nat.le_of_ble_eq_true rfl) dX16_carry_279 (fun H locs hP1 hD1 hk1 hS => ?_)
    have hP := nd_n0 hP hk1
    refine lv_ior hx hb dX16_carry_282 ?_
    refine lv_bipush (v := 21) hx hb dX16_carry_283 (by decide) ?_
    obtain ⟨q120, s121, hq, h⟩ := nd_b2_e h
    have hPc : va_P (dC, dI) vwCl (dw_P a ac ()) H := nd_p0
    have hDc : va_D A (dw_P a ac ()) := nd_d0
    have hKc : va_K (dC, dI) vwCl (dk_P ac) s := nd_y0 hK
    have hFc : ∀ q, va_A (dw_P a ac ()) H.size q → A q := nd_r0 hS hA
    refine nd_cSi (As := [.int (((q108 ||| q111) ||| q114) ||| q117), .int 21]) (rest := [.int (sR s105.1 10 (Int32.toNatClampNeg (sI s105.1 12))), .ref (a 0)]) (q := q120) (w' := dw_P a ac s121) ⟨hx, hb, hml, hown, hts⟩ (fun sz => dm_X16_signed l hlt dC dI a ac n ((((q108 ||| q111) ||| q114) ||| q117)) (21) () hq sz) (cwS 2 hts gi_dm_X16_carry_11 rfl rfl rfl (by decide +kernel) ⟨Nat.le_of_ble_eq_true rfl, Nat.le_of_ble_eq_true rfl⟩) hPc hDc hKc hS hA hN rfl hl.1 rfl (Nat.le_of_ble_eq_true rfl) dX16_carry_285 (fun H locs hP1 hD1 hk1 hS => ?_)
    have hP := nd_n0 hP hk1
    refine lv_iadd hx hb dX16_carry_288 ?_
    refine va_put (D := (dC, dI)) (ci := 17) (v := .int ((sR s105.1 10 (Int32.toNatClampNeg (sI s105.1 12))) + q120)) (ty := .int) (C := RX16) (T := TX16) (N := 56) hx hb hts hi_dm_X16_carry_X16 tyX16 tyX16_ok nmX16 hown hK hP hD hS 0 rfl rfl 49 (by decide) (hts (.fieldLink RX16 350 "TimeMachineModel$Machine" "next" "I") (List.mem_of_getElem? (i := 32) rfl)) (fun _ h9 => h9) rfl (by decide +kernel) rfl rfl (Nat.le_of_ble_eq_true rfl) dX16_carry_289 (fun H locs hP hD hS => ?_)
    obtain ⟨s123, es123, h⟩ := nd_let_e h
    have hP : va_P (dC, dI) vwCl (dw_X16 a ac s123) H := by rw [es123]; exact hP
    have hD : va_D A (dw_X16 a ac s123) := by rw [es123]; exact hD
    refine lv_goto (tgt := 562) hx hb dX16_carry_292 (by decide) ?_
    exact (db_X16_carry_562 C K)  s123 _ _ _ h hP hD hS (lv_sub hl [] rfl)
  have h := nd_neg h c103
  by_cases c124 : q21 = 115
  · have h := nd_pos h c124
    refine lv_lookup (off := 460) (tgt := 543) hx hb dX16_carry_83 (by decide) (by rw [c124]; decide) (by decide) ?_
    refine lv_aload_n hx hb dX16_carry_543 rfl (lv_at hl 6 rfl) ?_
    refine lv_iload_n hx hb dX16_carry_544 rfl (lv_at hl 5 rfl) ?_
    refine lv_aload_n hx hb dX16_carry_545 rfl (lv_at hl 6 rfl) ?_
    refine lv_iload_n hx hb dX16_carry_546 rfl (lv_at hl 7 rfl) ?_
    refine lv_iload_n hx hb dX16_carry_547 rfl (lv_at hl 4 rfl) ?_
    obtain ⟨q125, s126, hq, h⟩ := nd_b2_e h
    have hPc := hP
    have hDc := hD
    have hKc := hK
    have hFc := nd_rs hD hS hA
    refine nd_cVi (As := [.int v0, .int q4]) (rest := [.int q1, .ref (a 0)]) (q := q125) (w' := dw_X16 a ac s126) ⟨hx, hb, hml, hown, hts⟩ (fun sz => dm_X16_system l hlt dC dI a ac n (v0) (q4) s0 hq sz) (cwV 2 hts gi_dm_X16_carry_12 rfl rfl rfl (by decide +kernel) ⟨Nat.le_of_ble_eq_true rfl, Nat.le_of_ble_eq_true rfl⟩) hPc hDc hKc hS hA hN (va_recv hKc hPc (ci := 17) (q0 := 0) rfl rfl) rfl hl.1 rfl (Nat.le_of_ble_eq_true rfl) dX16_carry_548 (fun H locs hP1 hD1 hk1 hS => ?_)
    have hP := hP1
    have hD := hD1.weaken (fun k q _ h => hFc q.1 h)
    obtain ⟨s129, hq, h⟩ := nd_b1_e h
    have hPc := hP
    have hDc := hD
    have hKc := hK
    have hFc := nd_rs hD hS hA
    refine nd_cVv (As := [.int q1, .int q125]) (rest := []) (w' := dw_X16 a ac s129) ⟨hx, hb, hml, hown, hts⟩ (fun sz => dm_X16_become l hlt dC dI a ac n (q1) (q125) s126 hq sz) (cwV 2 hts gi_dm_X16_carry_2 rfl rfl rfl (by decide +kernel) ⟨Nat.le_of_ble_eq_true rfl, Nat.le_of_ble_eq_true rfl⟩) hPc hDc hKc hS hA hN (va_recv hKc hPc (ci := 17) (q0 := 0) rfl rfl) rfl hl.1 rfl (Nat.le_of_ble_eq_true rfl) dX16_carry_551 (fun H locs hP1 hD1 hk1 hS => ?_)
    have hP := hP1
    have hD := hD1.weaken (fun k q _ h => hFc q.1 h)
    refine lv_goto (tgt := 562) hx hb dX16_carry_554 (by decide) ?_
    exact (db_X16_carry_562 C K)  s129 _ _ _ h hP hD hS (lv_sub hl [] rfl)
  have h := nd_neg h c124
  refine lv_lookup (off := 474) (tgt := 557) hx hb dX16_carry_83 (by decide) (show Op.lookupswitch.offset [(3, 258), (15, 447), (19, 296), (23, 118), (35, 276), (47, 425), (51, 341), (55, 105), (99, 245), (103, 212), (111, 141), (115, 460)] 474 (q21 : Int32).toInt = 474 by rw [lv_osw c24 (by decide), lv_osw c31 (by decide), lv_osw c36 (by decide), lv_osw c51 (by decide), lv_osw c56 (by decide), lv_osw c60 (by decide), lv_osw c67 (by decide), lv_osw c86 (by decide), lv_osw c90 (by decide), lv_osw c94 (by decide), lv_osw c103 (by decide), lv_osw c124 (by decide)] <;> rfl) (by decide) ?_
  refine lv_aload_n hx hb dX16_carry_557 rfl (lv_at hl 6 rfl) ?_
  obtain ⟨q131, s132, hq, h⟩ := nd_b2_e h
  have hPc := hP
  have hDc := hD
  have hKc := hK
  have hFc := nd_rs hD hS hA
  refine nd_cVi (As := []) (rest := []) (q := q131) (w' := dw_X16 a ac s132) ⟨hx, hb, hml, hown, hts⟩ (fun sz => dm_X16_illegal l hlt dC dI a ac n  s0 hq sz) (cwV 0 hts gi_dm_X16_carry_3 rfl rfl rfl (by decide +kernel) ⟨Nat.le_of_ble_eq_true rfl, Nat.le_of_ble_eq_true rfl⟩) hPc hDc hKc hS hA hN (va_recv hKc hPc (ci := 17) (q0 := 0) rfl rfl) rfl hl.1 rfl (Nat.le_of_ble_eq_true rfl) dX16_carry_558 (fun H locs hP1 hD1 hk1 hS => ?_)
  have hP := hP1
  have hD := hD1.weaken (fun k q _ h => hFc q.1 h)
  refine lv_pop hx hb dX16_carry_561 rfl ?_
  exact (db_X16_carry_562 C K)  s132 _ _ _ h hP hD hS (lv_sub hl [] rfl)
set_option maxHeartbeats 40000000 in
set_option maxRecDepth 100000 in
theorem dm_X16_carry (l : Launch) (hlt : l.stackTraces = false) (dC : Nat → ClassId) (dI : Nat → Nat → Nat) (a : Nat → Nat) (ac : Nat → ClassId) (n : Nat) (v0 : Int32) (s0 : St × (St)) {r : St × (St)} (h : df_X16_carry n v0 s0 = some r) (sz : Nat) : Met l yX16_carry ow_dm_X16_carry ({ frames := 5, cells := 0, slots := 0, locals := 112 }) (va_Pc [.ref (a 0), .int v0] (fun U => U.heap.size = sz ∧ va_P (dC, dI) vwCl (dw_X16 a ac s0) U.heap ∧ va_K (dC, dI) vwCl (dk_X16 ac) U ∧ va_D (fun _ => True) (dw_X16 a ac s0) ∧ nv_E (va_A (dw_X16 a ac s0) sz) U)) (va_Qv (fun _ => True) (fun (_ : Unit) t => va_P (dC, dI) vwCl (dw_X16 a ac r) t.heap ∧ va_K (dC, dI) vwCl (dk_X16 ac) t ∧ va_D (va_A (dw_X16 a ac s0) sz) (dw_X16 a ac r)) (va_A (dw_X16 a ac s0) sz)) 0 0 (va_A (dw_X16 a ac s0) sz) := by
  refine Met.ofW (cc := cX16_carry) (maxL := 8) (ret := none) (by decide) rfl ?_
  intro p e s m args below meth c s₁ B hml hv
  obtain ⟨rfl, hsz, hP, hK, hD0, hN⟩ := hv
  have hx := B.exec
  have hb := B.bytes
  have hr := B.returns
  have hts := atoms_spec (ws := ow_dm_X16_carry) B.pre
  have hown : s.vm.findClass RX16 = some m.cls := findClass_of_methodNamed B.named
  have hlocks := B.notSynchronized
  subst hsz
  have hD := hD0.self (sz := s.heap.size)
  generalize hAe : va_A (dw_X16 a ac s0) s.heap.size = A at hD hN ⊢
  have hA : ∀ q : Nat, s.heap.size ≤ q → A q := fun q h => by rw [← hAe]; exact Or.inr h
  have hl := lv_entry ([.ref (a 0), .int v0]) (n := 8) (Nat.le_of_ble_eq_true rfl)
  rw [lg_entry_eq]
  generalize (lg_sl ([.ref (a 0), .int v0]) ++ List.replicate (8 - (lg_sl ([.ref (a 0), .int v0])).length) Slot.unset).toArray = ls at hl ⊢
  have hl : lv_has ls 8 [(0, .ref (a 0)), (1, .int v0)] := hl
  exact db_X16_carry_0 (dC := dC) (dI := dI) (a := a) (ac := ac) (n := n) (r := r) ⟨hlt, hx, hb, hml, hown, hts, hN, hA, hK⟩ (fun pc τ H locs ls d er hP hD hS => by subst er; exact W.vret hx hb hr (fun t ht hW => ⟨⟨(), rfl, trivial, by rw [ht]; exact hP, va_K.moved hW.alike hK, hD⟩, hS.F ht⟩) hS.2.2 d) v0 s0 _ _ _ h hP hD va_S.rf (lv_sub hl [0, 1] rfl)
def ow_dm_X16_step : List Cond := .code yX16_step cX16_step 3 (some .int) :: ([.fieldLink RX16 45 "TimeMachineModel$Machine" "place" "[I", .fieldLink RX16 232 "TimeMachineModel$Machine" "p" "I", .fieldLink RX16 336 "TimeMachineModel$Machine" "met" "I", .methodLink RX16 342 yX16_fetches, .instanceMethod yX16_fetches, .selects RX16 yX16_fetches yX16_fetches, .initialized RX16, .methodLink RX16 237 yX16_half, .instanceMethod yX16_half, .selects RX16 yX16_half yX16_half, .fieldLink RX16 345 "TimeMachineModel$Machine" "bits" "I", .fieldLink RX16 348 "TimeMachineModel$Machine" "size" "I", .fieldLink RX16 350 "TimeMachineModel$Machine" "next" "I", .methodLink RX16 353 yX16_expand, .static yX16_expand, .methodLink RX16 359 yX16_carry, .instanceMethod yX16_carry, .selects RX16 yX16_carry yX16_carry, .fieldLink RX16 154 "TimeMachineModel$Machine" "retired" "J", .methodLink RX16 356 yX16_illegal, .instanceMethod yX16_illegal, .selects RX16 yX16_illegal yX16_illegal] ++ (u_ws RX16 TX16 56 ++ (ow_dm_X16_fetches ++ (ow_dm_X16_half ++ (ow_dm_X16_expand ++ (ow_dm_X16_carry ++ (ow_dm_X16_illegal ++ [])))))))
theorem gd_dm_X16_step : ∀ w ∈ ow_dm_X16_step, (w.onTables && w.keeps) = true ∨ ∃ ty, w = Cond.arrayClass ty := List.forall_mem_cons.mpr ⟨good_of_word rfl, List.forall_mem_append.mpr ⟨fun w h => good_of_word (List.all_eq_true.mp (by decide +kernel) w h), List.forall_mem_append.mpr ⟨gu_X16, List.forall_mem_append.mpr ⟨gd_dm_X16_fetches, List.forall_mem_append.mpr ⟨gd_dm_X16_half, List.forall_mem_append.mpr ⟨gd_dm_X16_expand, List.forall_mem_append.mpr ⟨gd_dm_X16_carry, List.forall_mem_append.mpr ⟨gd_dm_X16_illegal, fun _ h => nomatch h⟩⟩⟩⟩⟩⟩⟩⟩
theorem hi_dm_X16_step_X16 : ∀ w ∈ u_ws RX16 TX16 56, w ∈ ow_dm_X16_step := fun w h => List.mem_cons_of_mem _ (List.mem_append_right _ (List.mem_append_left _ h))
theorem gi_dm_X16_step_0 : GoodIn ow_dm_X16_step (wsV RX16 342 RX16 yX16_fetches ow_dm_X16_fetches) := goodIn_app (goodIn_of _ (by decide +kernel)) (fun w h => ⟨List.mem_cons_of_mem _ (List.mem_append_right _ (List.mem_append_right _ (List.mem_append_left _ h))), gd_dm_X16_fetches w h⟩)
theorem gi_dm_X16_step_1 : GoodIn ow_dm_X16_step (wsV RX16 237 RX16 yX16_half ow_dm_X16_half) := goodIn_app (goodIn_of _ (by decide +kernel)) (fun w h => ⟨List.mem_cons_of_mem _ (List.mem_append_right _ (List.mem_append_right _ (List.mem_append_right _ (List.mem_append_left _ h)))), gd_dm_X16_half w h⟩)
theorem gi_dm_X16_step_2 : GoodIn ow_dm_X16_step (wsS RX16 353 yX16_expand ow_dm_X16_expand) := goodIn_app (goodIn_of _ (by decide +kernel)) (fun w h => ⟨List.mem_cons_of_mem _ (List.mem_append_right _ (List.mem_append_right _ (List.mem_append_right _ (List.mem_append_right _ (List.mem_append_left _ h))))), gd_dm_X16_expand w h⟩)
theorem gi_dm_X16_step_3 : GoodIn ow_dm_X16_step (wsV RX16 359 RX16 yX16_carry ow_dm_X16_carry) := goodIn_app (goodIn_of _ (by decide +kernel)) (fun w h => ⟨List.mem_cons_of_mem _ (List.mem_append_right _ (List.mem_append_right _ (List.mem_append_right _ (List.mem_append_right _ (List.mem_append_right _ (List.mem_append_left _ h)))))), gd_dm_X16_carry w h⟩)
theorem gi_dm_X16_step_4 : GoodIn ow_dm_X16_step (wsV RX16 356 RX16 yX16_illegal ow_dm_X16_illegal) := goodIn_app (goodIn_of _ (by decide +kernel)) (fun w h => ⟨List.mem_cons_of_mem _ (List.mem_append_right _ (List.mem_append_right _ (List.mem_append_right _ (List.mem_append_right _ (List.mem_append_right _ (List.mem_append_right _ (List.mem_append_left _ h))))))), gd_dm_X16_illegal w h⟩)
def dj_X16_step_30 (p : Program) (l : Launch) (e : Env) (s : State) (m : MethodId) (args : Array Value) (below : List Frame) (meth : Method) (c : Code) (Q : State → Prop) (A : Nat → Prop) (dC : Nat → ClassId) (dI : Nat → Nat → Nat) (a : Nat → Nat) (ac : Nat → ClassId) (g : (St × (St)) → Option (Int32 × (St × (St)))) (r : Int32 × (St × (St))) : Prop := ∀ (s0 : St × (St)) (H : Heap) (locs : List Loc) (ls : Array Slot), g s0 = some r → va_P (dC, dI) vwCl (dw_X16 a ac s0) H → va_D A (dw_X16 a ac s0) → va_S A s.heap H locs → lv_has ls 3 [] → W p l e (headSpec ow_dm_X16_step ({ frames := 6, cells := 0, slots := 0, locals := 139 })).room s m args below meth c H locs 0 0 Q (F0 m 30 ls [])
def dj_X16_step_164 (p : Program) (l : Launch) (e : Env) (s : State) (m : MethodId) (args : Array Value) (below : List Frame) (meth : Method) (c : Code) (Q : State → Prop) (A : Nat → Prop) (dC : Nat → ClassId) (dI : Nat → Nat → Nat) (a : Nat → Nat) (ac : Nat → ClassId) (g : (St × (St)) → Option (Int32 × (St × (St)))) (r : Int32 × (St × (St))) : Prop := ∀ (s0 : St × (St)) (H : Heap) (locs : List Loc) (ls : Array Slot), g s0 = some r → va_P (dC, dI) vwCl (dw_X16 a ac s0) H → va_D A (dw_X16 a ac s0) → va_S A s.heap H locs → lv_has ls 3 [(0, .ref (a 0))] → W p l e (headSpec ow_dm_X16_step ({ frames := 6, cells := 0, slots := 0, locals := 139 })).room s m args below meth c H locs 0 0 Q (F0 m 164 ls [])
def dj_X16_step_146 (p : Program) (l : Launch) (e : Env) (s : State) (m : MethodId) (args : Array Value) (below : List Frame) (meth : Method) (c : Code) (Q : State → Prop) (A : Nat → Prop) (dC : Nat → ClassId) (dI : Nat → Nat → Nat) (a : Nat → Nat) (ac : Nat → ClassId) (g : Int32 → (St × (St)) → Option (Int32 × (St × (St)))) (r : Int32 × (St × (St))) : Prop := ∀ (y0 : Int32) (s0 : St × (St)) (H : Heap) (locs : List Loc) (ls : Array Slot), g y0 s0 = some r → va_P (dC, dI) vwCl (dw_X16 a ac s0) H → va_D A (dw_X16 a ac s0) → va_S A s.heap H locs → lv_has ls 3 [(0, .ref (a 0))] → W p l e (headSpec ow_dm_X16_step ({ frames := 6, cells := 0, slots := 0, locals := 139 })).room s m args below meth c H locs 0 0 Q (F0 m 146 ls [.int y0])
def dj_X16_step_111 (p : Program) (l : Launch) (e : Env) (s : State) (m : MethodId) (args : Array Value) (below : List Frame) (meth : Method) (c : Code) (Q : State → Prop) (A : Nat → Prop) (dC : Nat → ClassId) (dI : Nat → Nat → Nat) (a : Nat → Nat) (ac : Nat → ClassId) (g : Int32 → Int32 → (St × (St)) → Option (Int32 × (St × (St)))) (r : Int32 × (St × (St))) : Prop := ∀ (x1 : Int32) (y1 : Int32) (s0 : St × (St)) (H : Heap) (locs : List Loc) (ls : Array Slot), g x1 y1 s0 = some r → va_P (dC, dI) vwCl (dw_X16 a ac s0) H → va_D A (dw_X16 a ac s0) → va_S A s.heap H locs → lv_has ls 3 [(0, .ref (a 0)), (1, .int x1)] → W p l e (headSpec ow_dm_X16_step ({ frames := 6, cells := 0, slots := 0, locals := 139 })).room s m args below meth c H locs 0 0 Q (F0 m 111 ls [.int y1, .ref (a 0)])
def dj_X16_step_80 (p : Program) (l : Launch) (e : Env) (s : State) (m : MethodId) (args : Array Value) (below : List Frame) (meth : Method) (c : Code) (Q : State → Prop) (A : Nat → Prop) (dC : Nat → ClassId) (dI : Nat → Nat → Nat) (a : Nat → Nat) (ac : Nat → ClassId) (g : Int32 → (St × (St)) → Option (Int32 × (St × (St)))) (r : Int32 × (St × (St))) : Prop := ∀ (x1 : Int32) (s0 : St × (St)) (H : Heap) (locs : List Loc) (ls : Array Slot), g x1 s0 = some r → va_P (dC, dI) vwCl (dw_X16 a ac s0) H → va_D A (dw_X16 a ac s0) → va_S A s.heap H locs → lv_has ls 3 [(0, .ref (a 0)), (1, .int x1)] → W p l e (headSpec ow_dm_X16_step ({ frames := 6, cells := 0, slots := 0, locals := 139 })).room s m args below meth c H locs 0 0 Q (F0 m 80 ls [])
def dj_X16_step_57 (p : Program) (l : Launch) (e : Env) (s : State) (m : MethodId) (args : Array Value) (below : List Frame) (meth : Method) (c : Code) (Q : State → Prop) (A : Nat → Prop) (dC : Nat → ClassId) (dI : Nat → Nat → Nat) (a : Nat → Nat) (ac : Nat → ClassId) (g : Int32 → Int32 → (St × (St)) → Option (Int32 × (St × (St)))) (r : Int32 × (St × (St))) : Prop := ∀ (x1 : Int32) (y1 : Int32) (s0 : St × (St)) (H : Heap) (locs : List Loc) (ls : Array Slot), g x1 y1 s0 = some r → va_P (dC, dI) vwCl (dw_X16 a ac s0) H → va_D A (dw_X16 a ac s0) → va_S A s.heap H locs → lv_has ls 3 [(0, .ref (a 0)), (1, .int x1)] → W p l e (headSpec ow_dm_X16_step ({ frames := 6, cells := 0, slots := 0, locals := 139 })).room s m args below meth c H locs 0 0 Q (F0 m 57 ls [.int y1, .ref (a 0)])
def dj_X16_step_0 (p : Program) (l : Launch) (e : Env) (s : State) (m : MethodId) (args : Array Value) (below : List Frame) (meth : Method) (c : Code) (Q : State → Prop) (A : Nat → Prop) (dC : Nat → ClassId) (dI : Nat → Nat → Nat) (a : Nat → Nat) (ac : Nat → ClassId) (g : (St × (St)) → Option (Int32 × (St × (St)))) (r : Int32 × (St × (St))) : Prop := ∀ (s0 : St × (St)) (H : Heap) (locs : List Loc) (ls : Array Slot), g s0 = some r → va_P (dC, dI) vwCl (dw_X16 a ac s0) H → va_D A (dw_X16 a ac s0) → va_S A s.heap H locs → lv_has ls 3 [(0, .ref (a 0))] → W p l e (headSpec ow_dm_X16_step ({ frames := 6, cells := 0, slots := 0, locals := 139 })).room s m args below meth c H locs 0 0 Q (F0 m 0 ls [])
set_option maxHeartbeats 40000000 in
set_option maxRecDepth 100000 in
theorem db_X16_step_30 {p : Program} {l : Launch} {e : Env} {s : State} {m : MethodId} {args : Array Value} {below : List Frame} {meth : Method} {c : Code} {Q : State → Prop} {A : Nat → Prop} {dC : Nat → ClassId} {dI : Nat → Nat → Nat} {a : Nat → Nat} {ac : Nat → ClassId} {n : Nat} {r : Int32 × (St × (St))} (C : nd_C p l s m args c A (dC, dI) cX16_step 3 RX16 ow_dm_X16_step (dk_X16 ac)) (K : nd_Ki p l e (headSpec ow_dm_X16_step ({ frames := 6, cells := 0, slots := 0, locals := 139 })).room s m args below meth c Q A (dC, dI) cX16_step .int (St × (St)) (dw_X16 a ac) r) : dj_X16_step_30 p l e s m args below meth c Q A dC dI a ac (df_X16_step_30 n) r := by
  obtain ⟨hlt, hx, hb, hml, hown, hts, hN, hA, hK⟩ := id C
  intro s0 H locs ls h hP hD hS hl
  unfold df_X16_step_30 at h
  refine lv_iconst (v := 1) hx hb dX16_step_30 (by decide) ?_
  exact K _ _ _ _ _ _ dX16_step_31 rfl (Option.some.inj h).symm hP hD hS
set_option maxHeartbeats 40000000 in
set_option maxRecDepth 100000 in
theorem db_X16_step_164 {p : Program} {l : Launch} {e : Env} {s : State} {m : MethodId} {args : Array Value} {below : List Frame} {meth : Method} {c : Code} {Q : State → Prop} {A : Nat → Prop} {dC : Nat → ClassId} {dI : Nat → Nat → Nat} {a : Nat → Nat} {ac : Nat → ClassId} {n : Nat} {r : Int32 × (St × (St))} (C : nd_C p l s m args c A (dC, dI) cX16_step 3 RX16 ow_dm_X16_step (dk_X16 ac)) (K : nd_Ki p l e (headSpec ow_dm_X16_step ({ frames := 6, cells := 0, slots := 0, locals := 139 })).room s m args below meth c Q A (dC, dI) cX16_step .int (St × (St)) (dw_X16 a ac) r) : dj_X16_step_164 p l e s m args below meth c Q A dC dI a ac (df_X16_step_164 n) r := by
  obtain ⟨hlt, hx, hb, hml, hown, hts, hN, hA, hK⟩ := id C
  intro s0 H locs ls h hP hD hS hl
  unfold df_X16_step_164 at h
  refine lv_aload_n hx hb dX16_step_164 rfl (lv_at hl 0 rfl) ?_
  refine va_get (D := (dC, dI)) (ci := 17) (v := .int (sI s0.1 11)) (C := RX16) (T := TX16) (N := 56) hx hb hts hi_dm_X16_step_X16 hown hK hP 0 rfl rfl 50 (by decide) (hts (.fieldLink RX16 336 "TimeMachineModel$Machine" "met" "I") (List.mem_of_getElem? (i := 3) rfl)) (fun _ h9 => h9) rfl dX16_step_165 ?_
  refine lv_if_le (tgt := 176) hx hb dX16_step_168 (by decide) (fun c27 => ?_) (fun c27 => ?_)
  · have h := nd_pos h c27
    refine lv_aload_n hx hb dX16_step_176 rfl (lv_at hl 0 rfl) ?_
    refine va_get (D := (dC, dI)) (ci := 17) (v := .ref (a 12)) (C := RX16) (T := TX16) (N := 56) hx hb hts hi_dm_X16_step_X16 hown hK hP 0 rfl rfl 20 (by decide) (hts (.fieldLink RX16 45 "TimeMachineModel$Machine" "place" "[I") (List.mem_of_getElem? (i := 1) rfl)) (fun _ h9 => h9) rfl dX16_step_177 ?_
    refine lv_aload_n hx hb dX16_step_180 rfl (lv_at hl 0 rfl) ?_
    refine va_get (D := (dC, dI)) (ci := 17) (v := .int (sI s0.1 12)) (C := RX16) (T := TX16) (N := 56) hx hb hts hi_dm_X16_step_X16 hown hK hP 0 rfl rfl 51 (by decide) (hts (.fieldLink RX16 232 "TimeMachineModel$Machine" "p" "I") (List.mem_of_getElem? (i := 2) rfl)) (fun _ h9 => h9) rfl dX16_step_181 ?_
    refine lv_aload_n hx hb dX16_step_184 rfl (lv_at hl 0 rfl) ?_
    refine va_get (D := (dC, dI)) (ci := 17) (v := .int (sI s0.1 10)) (C := RX16) (T := TX16) (N := 56) hx hb hts hi_dm_X16_step_X16 hown hK hP 0 rfl rfl 49 (by decide) (hts (.fieldLink RX16 350 "TimeMachineModel$Machine" "next" "I") (List.mem_of_getElem? (i := 13) rfl)) (fun _ h9 => h9) rfl dX16_step_185 ?_
    obtain ⟨i28, h⟩ := nd_ck_e h
    refine va_iast (i := (sI s0.1 12)) (x := (sI s0.1 10)) hx hb hK hP hD hS 12 11 rfl rfl i28 dX16_step_188 (fun H locs hP hD hS => ?_)
    obtain ⟨s29, es29, h⟩ := nd_let_e h
    have hP : va_P (dC, dI) vwCl (dw_X16 a ac s29) H := by rw [es29]; exact hP
    have hD : va_D A (dw_X16 a ac s29) := by rw [es29]; exact hD
    refine lv_aload_n hx hb dX16_step_189 rfl (lv_at hl 0 rfl) ?_
    refine lv_dup hx hb dX16_step_190 rfl ?_
    refine va_get (D := (dC, dI)) (ci := 17) (v := .long (sL s29.1 0)) (C := RX16) (T := TX16) (N := 56) hx hb hts hi_dm_X16_step_X16 hown hK hP 0 rfl rfl 6 (by decide) (hts (.fieldLink RX16 154 "TimeMachineModel$Machine" "retired" "J") (List.mem_of_getElem? (i := 19) rfl)) (fun _ h9 => h9) rfl dX16_step_191 ?_
    refine lv_lconst (v := 1) hx hb dX16_step_194 (by decide) ?_
    refine lv_ladd hx hb dX16_step_195 ?_
    refine va_put (D := (dC, dI)) (ci := 17) (v := .long (((sL s29.1 0) : Int64) + 1)) (ty := .long) (C := RX16) (T := TX16) (N := 56) hx hb hts hi_dm_X16_step_X16 tyX16 tyX16_ok nmX16 hown hK hP hD hS 0 rfl rfl 6 (by decide) (hts (.fieldLink RX16 154 "TimeMachineModel$Machine" "retired" "J") (List.mem_of_getElem? (i := 19) rfl)) (fun _ h9 => h9) rfl (by decide +kernel) rfl rfl (Nat.le_of_ble_eq_true rfl) dX16_step_196 (fun H locs hP hD hS => ?_)
    obtain ⟨s30, es30, h⟩ := nd_let_e h
    have hP : va_P (dC, dI) vwCl (dw_X16 a ac s30) H := by rw [es30]; exact hP
    have hD : va_D A (dw_X16 a ac s30) := by rw [es30]; exact hD
    refine lv_iconst (v := 0) hx hb dX16_step_199 (by decide) ?_
    exact K _ _ _ _ _ _ dX16_step_200 rfl (Option.some.inj h).symm hP hD hS
  · have h := nd_neg h c27
    refine lv_aload_n hx hb dX16_step_171 rfl (lv_at hl 0 rfl) ?_
    refine va_get (D := (dC, dI)) (ci := 17) (v := .int (sI s0.1 11)) (C := RX16) (T := TX16) (N := 56) hx hb hts hi_dm_X16_step_X16 hown hK hP 0 rfl rfl 50 (by decide) (hts (.fieldLink RX16 336 "TimeMachineModel$Machine" "met" "I") (List.mem_of_getElem? (i := 3) rfl)) (fun _ h9 => h9) rfl dX16_step_172 ?_
    exact K _ _ _ _ _ _ dX16_step_175 rfl (Option.some.inj h).symm hP hD hS
set_option maxHeartbeats 40000000 in
set_option maxRecDepth 100000 in
theorem db_X16_step_146 {p : Program} {l : Launch} {e : Env} {s : State} {m : MethodId} {args : Array Value} {below : List Frame} {meth : Method} {c : Code} {Q : State → Prop} {A : Nat → Prop} {dC : Nat → ClassId} {dI : Nat → Nat → Nat} {a : Nat → Nat} {ac : Nat → ClassId} {n : Nat} {r : Int32 × (St × (St))} (C : nd_C p l s m args c A (dC, dI) cX16_step 3 RX16 ow_dm_X16_step (dk_X16 ac)) (K : nd_Ki p l e (headSpec ow_dm_X16_step ({ frames := 6, cells := 0, slots := 0, locals := 139 })).room s m args below meth c Q A (dC, dI) cX16_step .int (St × (St)) (dw_X16 a ac) r) : dj_X16_step_146 p l e s m args below meth c Q A dC dI a ac (df_X16_step_146 n) r := by
  obtain ⟨hlt, hx, hb, hml, hown, hts, hN, hA, hK⟩ := id C
  intro y0 s0 H locs ls h hP hD hS hl
  unfold df_X16_step_146 at h
  refine lv_istore_n (lv' := [(2, .int y0), (0, .ref (a 0))]) hx hb dX16_step_146 rfl hl (by decide) rfl (fun ls hl => ?_)
  refine lv_iload_n hx hb dX16_step_147 rfl (lv_at hl 0 rfl) ?_
  refine lv_if_ne (tgt := 159) hx hb dX16_step_148 (by decide) (fun c23 => ?_) (fun c23 => ?_)
  · have h := nd_neg h c23
    refine lv_aload_n hx hb dX16_step_159 rfl (lv_at hl 1 rfl) ?_
    refine lv_iload_n hx hb dX16_step_160 rfl (lv_at hl 0 rfl) ?_
    obtain ⟨s25, hq, h⟩ := nd_b1_e h
    have hPc := hP
    have hDc := hD
    have hKc := hK
    have hFc := nd_rs hD hS hA
    refine nd_cVv (As := [.int y0]) (rest := []) (w' := dw_X16 a ac s25) ⟨hx, hb, hml, hown, hts⟩ (fun sz => dm_X16_carry l hlt dC dI a ac n (y0) s0 hq sz) (cwV 1 hts gi_dm_X16_step_3 rfl rfl rfl (by decide +kernel) ⟨Nat.le_of_ble_eq_true rfl, Nat.le_of_ble_eq_true rfl⟩) hPc hDc hKc hS hA hN (va_recv hKc hPc (ci := 17) (q0 := 0) rfl rfl) rfl hl.1 rfl (Nat.le_of_ble_eq_true rfl) dX16_step_161 (fun H locs hP1 hD1 hk1 hS => ?_)
    have hP := hP1
    have hD := hD1.weaken (fun k q _ h => hFc q.1 h)
    exact (db_X16_step_164 C K)  s25 _ _ _ h hP hD hS (lv_sub hl [1] rfl)
  · have h := nd_pos h c23
    refine lv_aload_n hx hb dX16_step_151 rfl (lv_at hl 1 rfl) ?_
    obtain ⟨q31, s32, hq, h⟩ := nd_b2_e h
    have hPc := hP
    have hDc := hD
    have hKc := hK
    have hFc := nd_rs hD hS hA
    refine nd_cVi (As := []) (rest := []) (q := q31) (w' := dw_X16 a ac s32) ⟨hx, hb, hml, hown, hts⟩ (fun sz => dm_X16_illegal l hlt dC dI a ac n  s0 hq sz) (cwV 0 hts gi_dm_X16_step_4 rfl rfl rfl (by decide +kernel) ⟨Nat.le_of_ble_eq_true rfl, Nat.le_of_ble_eq_true rfl⟩) hPc hDc hKc hS hA hN (va_recv hKc hPc (ci := 17) (q0 := 0) rfl rfl) rfl hl.1 rfl (Nat.le_of_ble_eq_true rfl) dX16_step_152 (fun H locs hP1 hD1 hk1 hS => ?_)
    have hP := hP1
    have hD := hD1.weaken (fun k q _ h => hFc q.1 h)
    refine lv_pop hx hb dX16_step_155 rfl ?_
    refine lv_goto (tgt := 164) hx hb dX16_step_156 (by decide) ?_
    exact (db_X16_step_164 C K)  s32 _ _ _ h hP hD hS (lv_sub hl [1] rfl)
set_option maxHeartbeats 40000000 in
set_option maxRecDepth 100000 in
theorem db_X16_step_111 {p : Program} {l : Launch} {e : Env} {s : State} {m : MethodId} {args : Array Value} {below : List Frame} {meth : Method} {c : Code} {Q : State → Prop} {A : Nat → Prop} {dC : Nat → ClassId} {dI : Nat → Nat → Nat} {a : Nat → Nat} {ac : Nat → ClassId} {n : Nat} {r : Int32 × (St × (St))} (C : nd_C p l s m args c A (dC, dI) cX16_step 3 RX16 ow_dm_X16_step (dk_X16 ac)) (K : nd_Ki p l e (headSpec ow_dm_X16_step ({ frames := 6, cells := 0, slots := 0, locals := 139 })).room s m args below meth c Q A (dC, dI) cX16_step .int (St × (St)) (dw_X16 a ac) r) : dj_X16_step_111 p l e s m args below meth c Q A dC dI a ac (df_X16_step_111 n) r := by
  obtain ⟨hlt, hx, hb, hml, hown, hts, hN, hA, hK⟩ := id C
  intro x1 y1 s0 H locs ls h hP hD hS hl
  unfold df_X16_step_111 at h
  refine va_put (D := (dC, dI)) (ci := 17) (v := .int y1) (ty := .int) (C := RX16) (T := TX16) (N := 56) hx hb hts hi_dm_X16_step_X16 tyX16 tyX16_ok nmX16 hown hK hP hD hS 0 rfl rfl 47 (by decide) (hts (.fieldLink RX16 345 "TimeMachineModel$Machine" "bits" "I") (List.mem_of_getElem? (i := 11) rfl)) (fun _ h9 => h9) rfl (by decide +kernel) rfl rfl (Nat.le_of_ble_eq_true rfl) dX16_step_111 (fun H locs hP hD hS => ?_)
  obtain ⟨s17, es17, h⟩ := nd_let_e h
  have hP : va_P (dC, dI) vwCl (dw_X16 a ac s17) H := by rw [es17]; exact hP
  have hD : va_D A (dw_X16 a ac s17) := by rw [es17]; exact hD
  refine lv_aload_n hx hb dX16_step_114 rfl (lv_at hl 0 rfl) ?_
  refine lv_iload_n hx hb dX16_step_115 rfl (lv_at hl 1 rfl) ?_
  refine lv_aload_n hx hb dX16_step_116 rfl (lv_at hl 0 rfl) ?_
  refine va_get (D := (dC, dI)) (ci := 17) (v := .int (sI s17.1 9)) (C := RX16) (T := TX16) (N := 56) hx hb hts hi_dm_X16_step_X16 hown hK hP 0 rfl rfl 48 (by decide) (hts (.fieldLink RX16 348 "TimeMachineModel$Machine" "size" "I") (List.mem_of_getElem? (i := 12) rfl)) (fun _ h9 => h9) rfl dX16_step_117 ?_
  refine lv_iadd hx hb dX16_step_120 ?_
  refine va_put (D := (dC, dI)) (ci := 17) (v := .int (x1 + (sI s17.1 9))) (ty := .int) (C := RX16) (T := TX16) (N := 56) hx hb hts hi_dm_X16_step_X16 tyX16 tyX16_ok nmX16 hown hK hP hD hS 0 rfl rfl 49 (by decide) (hts (.fieldLink RX16 350 "TimeMachineModel$Machine" "next" "I") (List.mem_of_getElem? (i := 13) rfl)) (fun _ h9 => h9) rfl (by decide +kernel) rfl rfl (Nat.le_of_ble_eq_true rfl) dX16_step_121 (fun H locs hP hD hS => ?_)
  obtain ⟨s18, es18, h⟩ := nd_let_e h
  have hP : va_P (dC, dI) vwCl (dw_X16 a ac s18) H := by rw [es18]; exact hP
  have hD : va_D A (dw_X16 a ac s18) := by rw [es18]; exact hD
  refine lv_aload_n hx hb dX16_step_124 rfl (lv_at hl 0 rfl) ?_
  refine va_get (D := (dC, dI)) (ci := 17) (v := .int (sI s18.1 9)) (C := RX16) (T := TX16) (N := 56) hx hb hts hi_dm_X16_step_X16 hown hK hP 0 rfl rfl 48 (by decide) (hts (.fieldLink RX16 348 "TimeMachineModel$Machine" "size" "I") (List.mem_of_getElem? (i := 12) rfl)) (fun _ h9 => h9) rfl dX16_step_125 ?_
  refine lv_iconst (v := 4) hx hb dX16_step_128 (by decide) ?_
  refine lv_icmp_ne (tgt := 139) hx hb dX16_step_129 (by decide) (fun c19 => ?_) (fun c19 => ?_)
  · have h := nd_neg h c19
    refine lv_aload_n hx hb dX16_step_139 rfl (lv_at hl 0 rfl) ?_
    refine va_get (D := (dC, dI)) (ci := 17) (v := .int (sI s18.1 8)) (C := RX16) (T := TX16) (N := 56) hx hb hts hi_dm_X16_step_X16 hown hK hP 0 rfl rfl 47 (by decide) (hts (.fieldLink RX16 345 "TimeMachineModel$Machine" "bits" "I") (List.mem_of_getElem? (i := 11) rfl)) (fun _ h9 => h9) rfl dX16_step_140 ?_
    obtain ⟨q20, s21, hq, h⟩ := nd_b2_e h
    have hPc : va_P (dC, dI) vwCl (dw_P a ac ()) H := nd_p0
    have hDc : va_D A (dw_P a ac ()) := nd_d0
    have hKc : va_K (dC, dI) vwCl (dk_P ac) s := nd_y0 hK
    have hFc : ∀ q, va_A (dw_P a ac ()) H.size q → A q := nd_r0 hS hA
    refine nd_cSi (As := [.int (sI s18.1 8)]) (rest := []) (q := q20) (w' := dw_P a ac s21) ⟨hx, hb, hml, hown, hts⟩ (fun sz => dm_X16_expand l hlt dC dI a ac n ((sI s18.1 8)) () hq sz) (cwS 1 hts gi_dm_X16_step_2 rfl rfl rfl (by decide +kernel) ⟨Nat.le_of_ble_eq_true rfl, Nat.le_of_ble_eq_true rfl⟩) hPc hDc hKc hS hA hN rfl hl.1 rfl (Nat.le_of_ble_eq_true rfl) dX16_step_143 (fun H locs hP1 hD1 hk1 hS => ?_)
    have hP := nd_n0 hP hk1
    exact (db_X16_step_146 C K) (q20) s18 _ _ _ h hP hD hS (lv_sub hl [0] rfl)
  · have h := nd_pos h c19
    refine lv_aload_n hx hb dX16_step_132 rfl (lv_at hl 0 rfl) ?_
    refine va_get (D := (dC, dI)) (ci := 17) (v := .int (sI s18.1 8)) (C := RX16) (T := TX16) (N := 56) hx hb hts hi_dm_X16_step_X16 hown hK hP 0 rfl rfl 47 (by decide) (hts (.fieldLink RX16 345 "TimeMachineModel$Machine" "bits" "I") (List.mem_of_getElem? (i := 11) rfl)) (fun _ h9 => h9) rfl dX16_step_133 ?_
    refine lv_goto (tgt := 146) hx hb dX16_step_136 (by decide) ?_
    exact (db_X16_step_146 C K) ((sI s18.1 8)) s18 _ _ _ h hP hD hS (lv_sub hl [0] rfl)
set_option maxHeartbeats 40000000 in
set_option maxRecDepth 100000 in
theorem db_X16_step_80 {p : Program} {l : Launch} {e : Env} {s : State} {m : MethodId} {args : Array Value} {below : List Frame} {meth : Method} {c : Code} {Q : State → Prop} {A : Nat → Prop} {dC : Nat → ClassId} {dI : Nat → Nat → Nat} {a : Nat → Nat} {ac : Nat → ClassId} {n : Nat} {r : Int32 × (St × (St))} (C : nd_C p l s m args c A (dC, dI) cX16_step 3 RX16 ow_dm_X16_step (dk_X16 ac)) (K : nd_Ki p l e (headSpec ow_dm_X16_step ({ frames := 6, cells := 0, slots := 0, locals := 139 })).room s m args below meth c Q A (dC, dI) cX16_step .int (St × (St)) (dw_X16 a ac) r) : dj_X16_step_80 p l e s m args below meth c Q A dC dI a ac (df_X16_step_80 n) r := by
  obtain ⟨hlt, hx, hb, hml, hown, hts, hN, hA, hK⟩ := id C
  intro x1 s0 H locs ls h hP hD hS hl
  unfold df_X16_step_80 at h
  refine lv_aload_n hx hb dX16_step_80 rfl (lv_at hl 0 rfl) ?_
  refine lv_aload_n hx hb dX16_step_81 rfl (lv_at hl 0 rfl) ?_
  refine va_get (D := (dC, dI)) (ci := 17) (v := .int (sI s0.1 9)) (C := RX16) (T := TX16) (N := 56) hx hb hts hi_dm_X16_step_X16 hown hK hP 0 rfl rfl 48 (by decide) (hts (.fieldLink RX16 348 "TimeMachineModel$Machine" "size" "I") (List.mem_of_getElem? (i := 12) rfl)) (fun _ h9 => h9) rfl dX16_step_82 ?_
  refine lv_iconst (v := 4) hx hb dX16_step_85 (by decide) ?_
  refine lv_icmp_ne (tgt := 107) hx hb dX16_step_86 (by decide) (fun c16 => ?_) (fun c16 => ?_)
  · have h := nd_neg h c16
    refine lv_aload_n hx hb dX16_step_107 rfl (lv_at hl 0 rfl) ?_
    refine va_get (D := (dC, dI)) (ci := 17) (v := .int (sI s0.1 8)) (C := RX16) (T := TX16) (N := 56) hx hb hts hi_dm_X16_step_X16 hown hK hP 0 rfl rfl 47 (by decide) (hts (.fieldLink RX16 345 "TimeMachineModel$Machine" "bits" "I") (List.mem_of_getElem? (i := 11) rfl)) (fun _ h9 => h9) rfl dX16_step_108 ?_
    exact (db_X16_step_111 C K) (x1) ((sI s0.1 8)) s0 _ _ _ h hP hD hS (lv_sub hl [0, 1] rfl)
  · have h := nd_pos h c16
    refine lv_aload_n hx hb dX16_step_89 rfl (lv_at hl 0 rfl) ?_
    refine va_get (D := (dC, dI)) (ci := 17) (v := .int (sI s0.1 8)) (C := RX16) (T := TX16) (N := 56) hx hb hts hi_dm_X16_step_X16 hown hK hP 0 rfl rfl 47 (by decide) (hts (.fieldLink RX16 345 "TimeMachineModel$Machine" "bits" "I") (List.mem_of_getElem? (i := 11) rfl)) (fun _ h9 => h9) rfl dX16_step_90 ?_
    refine lv_aload_n hx hb dX16_step_93 rfl (lv_at hl 0 rfl) ?_
    refine lv_iload_n hx hb dX16_step_94 rfl (lv_at hl 1 rfl) ?_
    refine lv_iconst (v := 2) hx hb dX16_step_95 (by decide) ?_
    refine lv_iadd hx hb dX16_step_96 ?_
    obtain ⟨q34, s35, hq, h⟩ := nd_b2_e h
    have hPc := hP
    have hDc := hD
    have hKc := hK
    have hFc := nd_rs hD hS hA
    refine nd_cVi (As := [.int (x1 + 2)]) (rest := [.int (sI s0.1 8), .ref (a 0)]) (q := q34) (w' := dw_X16 a ac s35) ⟨hx, hb, hml, hown, hts⟩ (fun sz => dm_X16_half l hlt dC dI a ac n ((x1 + 2)) s0 hq sz) (cwV 1 hts gi_dm_X16_step_1 rfl rfl rfl (by decide +kernel) ⟨Nat.le_of_ble_eq_true rfl, Nat.le_of_ble_eq_true rfl⟩) hPc hDc hKc hS hA hN (va_recv hKc hPc (ci := 17) (q0 := 0) rfl rfl) rfl hl.1 rfl (Nat.le_of_ble_eq_true rfl) dX16_step_97 (fun H locs hP1 hD1 hk1 hS => ?_)
    have hP := hP1
    have hD := hD1.weaken (fun k q _ h => hFc q.1 h)
    refine lv_bipush (v := 16) hx hb dX16_step_100 (by decide) ?_
    refine lv_ishl hx hb dX16_step_102 ?_
    refine lv_ior hx hb dX16_step_103 ?_
    refine lv_goto (tgt := 111) hx hb dX16_step_104 (by decide) ?_
    exact (db_X16_step_111 C K) (x1) (((sI s0.1 8) ||| ((q34 : Int32) <<< ((16 : Int32) &&& 31)))) s35 _ _ _ h hP hD hS (lv_sub hl [0, 1] rfl)
set_option maxHeartbeats 40000000 in
set_option maxRecDepth 100000 in
theorem db_X16_step_57 {p : Program} {l : Launch} {e : Env} {s : State} {m : MethodId} {args : Array Value} {below : List Frame} {meth : Method} {c : Code} {Q : State → Prop} {A : Nat → Prop} {dC : Nat → ClassId} {dI : Nat → Nat → Nat} {a : Nat → Nat} {ac : Nat → ClassId} {n : Nat} {r : Int32 × (St × (St))} (C : nd_C p l s m args c A (dC, dI) cX16_step 3 RX16 ow_dm_X16_step (dk_X16 ac)) (K : nd_Ki p l e (headSpec ow_dm_X16_step ({ frames := 6, cells := 0, slots := 0, locals := 139 })).room s m args below meth c Q A (dC, dI) cX16_step .int (St × (St)) (dw_X16 a ac) r) : dj_X16_step_57 p l e s m args below meth c Q A dC dI a ac (df_X16_step_57 n) r := by
  obtain ⟨hlt, hx, hb, hml, hown, hts, hN, hA, hK⟩ := id C
  intro x1 y1 s0 H locs ls h hP hD hS hl
  unfold df_X16_step_57 at h
  refine va_put (D := (dC, dI)) (ci := 17) (v := .int y1) (ty := .int) (C := RX16) (T := TX16) (N := 56) hx hb hts hi_dm_X16_step_X16 tyX16 tyX16_ok nmX16 hown hK hP hD hS 0 rfl rfl 48 (by decide) (hts (.fieldLink RX16 348 "TimeMachineModel$Machine" "size" "I") (List.mem_of_getElem? (i := 12) rfl)) (fun _ h9 => h9) rfl (by decide +kernel) rfl rfl (Nat.le_of_ble_eq_true rfl) dX16_step_57 (fun H locs hP hD hS => ?_)
  obtain ⟨s14, es14, h⟩ := nd_let_e h
  have hP : va_P (dC, dI) vwCl (dw_X16 a ac s14) H := by rw [es14]; exact hP
  have hD : va_D A (dw_X16 a ac s14) := by rw [es14]; exact hD
  refine lv_aload_n hx hb dX16_step_60 rfl (lv_at hl 0 rfl) ?_
  refine va_get (D := (dC, dI)) (ci := 17) (v := .int (sI s14.1 9)) (C := RX16) (T := TX16) (N := 56) hx hb hts hi_dm_X16_step_X16 hown hK hP 0 rfl rfl 48 (by decide) (hts (.fieldLink RX16 348 "TimeMachineModel$Machine" "size" "I") (List.mem_of_getElem? (i := 12) rfl)) (fun _ h9 => h9) rfl dX16_step_61 ?_
  refine lv_iconst (v := 4) hx hb dX16_step_64 (by decide) ?_
  refine lv_icmp_ne (tgt := 80) hx hb dX16_step_65 (by decide) (fun c15 => ?_) (fun c15 => ?_)
  · have h := nd_neg h c15
    exact (db_X16_step_80 C K) (x1) s14 _ _ _ h hP hD hS (lv_sub hl [0, 1] rfl)
  · have h := nd_pos h c15
    refine lv_aload_n hx hb dX16_step_68 rfl (lv_at hl 0 rfl) ?_
    refine lv_iload_n hx hb dX16_step_69 rfl (lv_at hl 1 rfl) ?_
    refine lv_iconst (v := 2) hx hb dX16_step_70 (by decide) ?_
    refine lv_iadd hx hb dX16_step_71 ?_
    obtain ⟨q37, s38, hq, h⟩ := nd_b2_e h
    have hPc := hP
    have hDc := hD
    have hKc := hK
    have hFc := nd_rs hD hS hA
    refine nd_cVi (As := [.int (x1 + 2)]) (rest := []) (q := q37) (w' := dw_X16 a ac s38) ⟨hx, hb, hml, hown, hts⟩ (fun sz => dm_X16_fetches l hlt dC dI a ac n ((x1 + 2)) s14 hq sz) (cwV 1 hts gi_dm_X16_step_0 rfl rfl rfl (by decide +kernel) ⟨Nat.le_of_ble_eq_true rfl, Nat.le_of_ble_eq_true rfl⟩) hPc hDc hKc hS hA hN (va_recv hKc hPc (ci := 17) (q0 := 0) rfl rfl) rfl hl.1 rfl (Nat.le_of_ble_eq_true rfl) dX16_step_72 (fun H locs hP1 hD1 hk1 hS => ?_)
    have hP := hP1
    have hD := hD1.weaken (fun k q _ h => hFc q.1 h)
    refine lv_if_ne (tgt := 80) hx hb dX16_step_75 (by decide) (fun c40 => ?_) (fun c40 => ?_)
    · have h := nd_neg h c40
      exact (db_X16_step_80 C K) (x1) s38 _ _ _ h hP hD hS (lv_sub hl [0, 1] rfl)
    · have h := nd_pos h c40
      refine lv_iconst (v := 1) hx hb dX16_step_78 (by decide) ?_
      exact K _ _ _ _ _ _ dX16_step_79 rfl (Option.some.inj h).symm hP hD hS
set_option maxHeartbeats 40000000 in
set_option maxRecDepth 100000 in
theorem db_X16_step_0 {p : Program} {l : Launch} {e : Env} {s : State} {m : MethodId} {args : Array Value} {below : List Frame} {meth : Method} {c : Code} {Q : State → Prop} {A : Nat → Prop} {dC : Nat → ClassId} {dI : Nat → Nat → Nat} {a : Nat → Nat} {ac : Nat → ClassId} {n : Nat} {r : Int32 × (St × (St))} (C : nd_C p l s m args c A (dC, dI) cX16_step 3 RX16 ow_dm_X16_step (dk_X16 ac)) (K : nd_Ki p l e (headSpec ow_dm_X16_step ({ frames := 6, cells := 0, slots := 0, locals := 139 })).room s m args below meth c Q A (dC, dI) cX16_step .int (St × (St)) (dw_X16 a ac) r) : dj_X16_step_0 p l e s m args below meth c Q A dC dI a ac (df_X16_step_0 n) r := by
  obtain ⟨hlt, hx, hb, hml, hown, hts, hN, hA, hK⟩ := id C
  intro s0 H locs ls h hP hD hS hl
  unfold df_X16_step_0 at h
  refine lv_aload_n hx hb dX16_step_0 rfl (lv_at hl 0 rfl) ?_
  refine va_get (D := (dC, dI)) (ci := 17) (v := .ref (a 12)) (C := RX16) (T := TX16) (N := 56) hx hb hts hi_dm_X16_step_X16 hown hK hP 0 rfl rfl 20 (by decide) (hts (.fieldLink RX16 45 "TimeMachineModel$Machine" "place" "[I") (List.mem_of_getElem? (i := 1) rfl)) (fun _ h9 => h9) rfl dX16_step_1 ?_
  refine lv_aload_n hx hb dX16_step_4 rfl (lv_at hl 0 rfl) ?_
  refine va_get (D := (dC, dI)) (ci := 17) (v := .int (sI s0.1 12)) (C := RX16) (T := TX16) (N := 56) hx hb hts hi_dm_X16_step_X16 hown hK hP 0 rfl rfl 51 (by decide) (hts (.fieldLink RX16 232 "TimeMachineModel$Machine" "p" "I") (List.mem_of_getElem? (i := 2) rfl)) (fun _ h9 => h9) rfl dX16_step_5 ?_
  obtain ⟨i1, h⟩ := nd_ck_e h
  refine va_iald (i := (sI s0.1 12)) hx hb hK hP 12 11 rfl rfl i1 dX16_step_8 ?_
  refine lv_topi (fun z2 ez2 => ?_)
  have h := nd_at h ez2
  refine lv_istore_n (lv' := [(1, .int z2), (0, .ref (a 0))]) hx hb dX16_step_9 rfl hl (by decide) rfl (fun ls hl => ?_)
  refine lv_aload_n hx hb dX16_step_10 rfl (lv_at hl 1 rfl) ?_
  refine lv_iconst (v := 0) hx hb dX16_step_11 (by decide) ?_
  refine va_put (D := (dC, dI)) (ci := 17) (v := .int 0) (ty := .int) (C := RX16) (T := TX16) (N := 56) hx hb hts hi_dm_X16_step_X16 tyX16 tyX16_ok nmX16 hown hK hP hD hS 0 rfl rfl 50 (by decide) (hts (.fieldLink RX16 336 "TimeMachineModel$Machine" "met" "I") (List.mem_of_getElem? (i := 3) rfl)) (fun _ h9 => h9) rfl (by decide +kernel) rfl rfl (Nat.le_of_ble_eq_true rfl) dX16_step_12 (fun H locs hP hD hS => ?_)
  obtain ⟨s3, es3, h⟩ := nd_let_e h
  have hP : va_P (dC, dI) vwCl (dw_X16 a ac s3) H := by rw [es3]; exact hP
  have hD : va_D A (dw_X16 a ac s3) := by rw [es3]; exact hD
  refine lv_iload_n hx hb dX16_step_15 rfl (lv_at hl 0 rfl) ?_
  refine lv_iconst (v := 1) hx hb dX16_step_16 (by decide) ?_
  refine lv_iand hx hb dX16_step_17 ?_
  refine lv_iconst (v := 1) hx hb dX16_step_18 (by decide) ?_
  refine lv_icmp_eq (tgt := 30) hx hb dX16_step_19 (by decide) (fun c4 => ?_) (fun c4 => ?_)
  · have h := nd_pos h c4
    exact (db_X16_step_30 C K)  s3 _ _ _ h hP hD hS (lv_sub hl [] rfl)
  · have h := nd_neg h c4
    refine lv_aload_n hx hb dX16_step_22 rfl (lv_at hl 1 rfl) ?_
    refine lv_iload_n hx hb dX16_step_23 rfl (lv_at hl 0 rfl) ?_
    obtain ⟨q5, s6, hq, h⟩ := nd_b2_e h
    have hPc := hP
    have hDc := hD
    have hKc := hK
    have hFc := nd_rs hD hS hA
    refine nd_cVi (As := [.int z2]) (rest := []) (q := q5) (w' := dw_X16 a ac s6) ⟨hx, hb, hml, hown, hts⟩ (fun sz => dm_X16_fetches l hlt dC dI a ac n (z2) s3 hq sz) (cwV 1 hts gi_dm_X16_step_0 rfl rfl rfl (by decide +kernel) ⟨Nat.le_of_ble_eq_true rfl, Nat.le_of_ble_eq_true rfl⟩) hPc hDc hKc hS hA hN (va_recv hKc hPc (ci := 17) (q0 := 0) rfl rfl) rfl hl.1 rfl (Nat.le_of_ble_eq_true rfl) dX16_step_24 (fun H locs hP1 hD1 hk1 hS => ?_)
    have hP := hP1
    have hD := hD1.weaken (fun k q _ h => hFc q.1 h)
    refine lv_if_ne (tgt := 32) hx hb dX16_step_27 (by decide) (fun c8 => ?_) (fun c8 => ?_)
    · have h := nd_neg h c8
      refine lv_aload_n hx hb dX16_step_32 rfl (lv_at hl 1 rfl) ?_
      refine lv_aload_n hx hb dX16_step_33 rfl (lv_at hl 1 rfl) ?_
      refine lv_iload_n hx hb dX16_step_34 rfl (lv_at hl 0 rfl) ?_
      obtain ⟨q9, s10, hq, h⟩ := nd_b2_e h
      have hPc := hP
      have hDc := hD
      have hKc := hK
      have hFc := nd_rs hD hS hA
      refine nd_cVi (As := [.int z2]) (rest := [.ref (a 0)]) (q := q9) (w' := dw_X16 a ac s10) ⟨hx, hb, hml, hown, hts⟩ (fun sz => dm_X16_half l hlt dC dI a ac n (z2) s6 hq sz) (cwV 1 hts gi_dm_X16_step_1 rfl rfl rfl (by decide +kernel) ⟨Nat.le_of_ble_eq_true rfl, Nat.le_of_ble_eq_true rfl⟩) hPc hDc hKc hS hA hN (va_recv hKc hPc (ci := 17) (q0 := 0) rfl rfl) rfl hl.1 rfl (Nat.le_of_ble_eq_true rfl) dX16_step_35 (fun H locs hP1 hD1 hk1 hS => ?_)
      have hP := hP1
      have hD := hD1.weaken (fun k q _ h => hFc q.1 h)
      refine va_put (D := (dC, dI)) (ci := 17) (v := .int q9) (ty := .int) (C := RX16) (T := TX16) (N := 56) hx hb hts hi_dm_X16_step_X16 tyX16 tyX16_ok nmX16 hown hK hP hD hS 0 rfl rfl 47 (by decide) (hts (.fieldLink RX16 345 "TimeMachineModel$Machine" "bits" "I") (List.mem_of_getElem? (i := 11) rfl)) (fun _ h9 => h9) rfl (by decide +kernel) rfl rfl (Nat.le_of_ble_eq_true rfl) dX16_step_38 (fun H locs hP hD hS => ?_)
      obtain ⟨s12, es12, h⟩ := nd_let_e h
      have hP : va_P (dC, dI) vwCl (dw_X16 a ac s12) H := by rw [es12]; exact hP
      have hD : va_D A (dw_X16 a ac s12) := by rw [es12]; exact hD
      refine lv_aload_n hx hb dX16_step_41 rfl (lv_at hl 1 rfl) ?_
      refine lv_aload_n hx hb dX16_step_42 rfl (lv_at hl 1 rfl) ?_
      refine va_get (D := (dC, dI)) (ci := 17) (v := .int (sI s12.1 8)) (C := RX16) (T := TX16) (N := 56) hx hb hts hi_dm_X16_step_X16 hown hK hP 0 rfl rfl 47 (by decide) (hts (.fieldLink RX16 345 "TimeMachineModel$Machine" "bits" "I") (List.mem_of_getElem? (i := 11) rfl)) (fun _ h9 => h9) rfl dX16_step_43 ?_
      refine lv_iconst (v := 3) hx hb dX16_step_46 (by decide) ?_
      refine lv_iand hx hb dX16_step_47 ?_
      refine lv_iconst (v := 3) hx hb dX16_step_48 (by decide) ?_
      refine lv_icmp_ne (tgt := 56) hx hb dX16_step_49 (by decide) (fun c13 => ?_) (fun c13 => ?_)
      · have h := nd_neg h c13
        refine lv_iconst (v := 2) hx hb dX16_step_56 (by decide) ?_
        exact (db_X16_step_57 C K) (z2) (2) s12 _ _ _ h hP hD hS (lv_sub hl [1, 0] rfl)
      · have h := nd_pos h c13
        refine lv_iconst (v := 4) hx hb dX16_step_52 (by decide) ?_
        refine lv_goto (tgt := 57) hx hb dX16_step_53 (by decide) ?_
        exact (db_X16_step_57 C K) (z2) (4) s12 _ _ _ h hP hD hS (lv_sub hl [1, 0] rfl)
    · have h := nd_pos h c8
      exact (db_X16_step_30 C K)  s6 _ _ _ h hP hD hS (lv_sub hl [] rfl)
set_option maxHeartbeats 40000000 in
set_option maxRecDepth 100000 in
theorem dm_X16_step (l : Launch) (hlt : l.stackTraces = false) (dC : Nat → ClassId) (dI : Nat → Nat → Nat) (a : Nat → Nat) (ac : Nat → ClassId) (n : Nat) (s0 : St × (St)) {r : Int32 × (St × (St))} (h : df_X16_step n s0 = some r) (sz : Nat) : Met l yX16_step ow_dm_X16_step ({ frames := 6, cells := 0, slots := 0, locals := 139 }) (va_Pc [.ref (a 0)] (fun U => U.heap.size = sz ∧ va_P (dC, dI) vwCl (dw_X16 a ac s0) U.heap ∧ va_K (dC, dI) vwCl (dk_X16 ac) U ∧ va_D (fun _ => True) (dw_X16 a ac s0) ∧ nv_E (va_A (dw_X16 a ac s0) sz) U)) (va_Qi (fun x _ => x = r.1) (fun (_ : Unit) t => va_P (dC, dI) vwCl (dw_X16 a ac r.2) t.heap ∧ va_K (dC, dI) vwCl (dk_X16 ac) t ∧ va_D (va_A (dw_X16 a ac s0) sz) (dw_X16 a ac r.2)) (va_A (dw_X16 a ac s0) sz)) 0 0 (va_A (dw_X16 a ac s0) sz) := by
  refine Met.ofW (cc := cX16_step) (maxL := 3) (ret := (some .int)) (by decide) rfl ?_
  intro p e s m args below meth c s₁ B hml hv
  obtain ⟨rfl, hsz, hP, hK, hD0, hN⟩ := hv
  have hx := B.exec
  have hb := B.bytes
  have hr := B.returns
  have hts := atoms_spec (ws := ow_dm_X16_step) B.pre
  have hown : s.vm.findClass RX16 = some m.cls := findClass_of_methodNamed B.named
  have hlocks := B.notSynchronized
  subst hsz
  have hD := hD0.self (sz := s.heap.size)
  generalize hAe : va_A (dw_X16 a ac s0) s.heap.size = A at hD hN ⊢
  have hA : ∀ q : Nat, s.heap.size ≤ q → A q := fun q h => by rw [← hAe]; exact Or.inr h
  have hl := lv_entry ([.ref (a 0)]) (n := 3) (Nat.le_of_ble_eq_true rfl)
  rw [lg_entry_eq]
  generalize (lg_sl ([.ref (a 0)]) ++ List.replicate (3 - (lg_sl ([.ref (a 0)])).length) Slot.unset).toArray = ls at hl ⊢
  have hl : lv_has ls 3 [(0, .ref (a 0))] := hl
  exact db_X16_step_0 (dC := dC) (dI := dI) (a := a) (ac := ac) (n := n) (r := r) ⟨hlt, hx, hb, hml, hown, hts, hN, hA, hK⟩ (fun pc v τ H locs ls d z er hP hD hS => by subst er; exact W.zret (v := v) hx hb hr z (fun t ht hW => ⟨⟨v, (), rfl, rfl, by rw [ht]; exact hP, va_K.moved hW.alike hK, hD⟩, hS.F ht⟩) hS.2.2 d) s0 _ _ _ h hP hD va_S.rf (lv_sub hl [0] rfl)
def ow_dm_X16_enter : List Cond := .code yX16_enter cX16_enter 3 none :: ([.fieldLink RX16 51 "TimeMachineModel$Machine" "savedPlace" "[I", .fieldLink RX16 232 "TimeMachineModel$Machine" "p" "I", .fieldLink RX16 45 "TimeMachineModel$Machine" "place" "[I", .fieldLink RX16 34 "TimeMachineModel$Machine" "within" "[Z", .fieldLink RX16 42 "TimeMachineModel$Machine" "x" "[I", .fieldLink RX16 54 "TimeMachineModel$Machine" "handler" "[I", .fieldLink RX16 48 "TimeMachineModel$Machine" "saved" "[I"] ++ (u_ws RX16 TX16 56 ++ []))
theorem gd_dm_X16_enter : ∀ w ∈ ow_dm_X16_enter, (w.onTables && w.keeps) = true ∨ ∃ ty, w = Cond.arrayClass ty := List.forall_mem_cons.mpr ⟨good_of_word rfl, List.forall_mem_append.mpr ⟨fun w h => good_of_word (List.all_eq_true.mp (by decide +kernel) w h), List.forall_mem_append.mpr ⟨gu_X16, fun _ h => nomatch h⟩⟩⟩
theorem hi_dm_X16_enter_X16 : ∀ w ∈ u_ws RX16 TX16 56, w ∈ ow_dm_X16_enter := fun w h => List.mem_cons_of_mem _ (List.mem_append_right _ (List.mem_append_left _ h))
def dj_X16_enter_2 (p : Program) (l : Launch) (e : Env) (s : State) (m : MethodId) (args : Array Value) (below : List Frame) (meth : Method) (c : Code) (Q : State → Prop) (A : Nat → Prop) (dC : Nat → ClassId) (dI : Nat → Nat → Nat) (a : Nat → Nat) (ac : Nat → ClassId) (g : Int32 → Int32 → (St × (St)) → Option (St × (St))) (r : St × (St)) : Prop := ∀ (x1 : Int32) (x2 : Int32) (s0 : St × (St)) (H : Heap) (locs : List Loc) (ls : Array Slot), g x1 x2 s0 = some r → va_P (dC, dI) vwCl (dw_X16 a ac s0) H → va_D A (dw_X16 a ac s0) → va_S A s.heap H locs → lv_has ls 3 [(0, .ref (a 0)), (1, .int x1), (2, .int x2)] → W p l e (headSpec ow_dm_X16_enter ({ frames := 0, cells := 0, slots := 0, locals := 0 })).room s m args below meth c H locs 0 0 Q (F0 m 2 ls [])
def dj_X16_enter_0 (p : Program) (l : Launch) (e : Env) (s : State) (m : MethodId) (args : Array Value) (below : List Frame) (meth : Method) (c : Code) (Q : State → Prop) (A : Nat → Prop) (dC : Nat → ClassId) (dI : Nat → Nat → Nat) (a : Nat → Nat) (ac : Nat → ClassId) (g : Int32 → (St × (St)) → Option (St × (St))) (r : St × (St)) : Prop := ∀ (v0 : Int32) (s0 : St × (St)) (H : Heap) (locs : List Loc) (ls : Array Slot), g v0 s0 = some r → va_P (dC, dI) vwCl (dw_X16 a ac s0) H → va_D A (dw_X16 a ac s0) → va_S A s.heap H locs → lv_has ls 3 [(0, .ref (a 0)), (1, .int v0)] → W p l e (headSpec ow_dm_X16_enter ({ frames := 0, cells := 0, slots := 0, locals := 0 })).room s m args below meth c H locs 0 0 Q (F0 m 0 ls [])
set_option maxHeartbeats 40000000 in
set_option maxRecDepth 100000 in
theorem dB_X16_enter_2 {p : Program} {l : Launch} {e : Env} {s : State} {m : MethodId} {args : Array Value} {below : List Frame} {meth : Method} {c : Code} {Q : State → Prop} {A : Nat → Prop} {dC : Nat → ClassId} {dI : Nat → Nat → Nat} {a : Nat → Nat} {ac : Nat → ClassId} {n : Nat} {r : St × (St)} (C : nd_C p l s m args c A (dC, dI) cX16_enter 3 RX16 ow_dm_X16_enter (dk_X16 ac)) (K : nd_Kv p l e (headSpec ow_dm_X16_enter ({ frames := 0, cells := 0, slots := 0, locals := 0 })).room s m args below meth c Q A (dC, dI) cX16_enter (St × (St)) (dw_X16 a ac) r) {g2 : Int32 → Int32 → (St × (St)) → Option (St × (St))} (J2 : dj_X16_enter_2 p l e s m args below meth c Q A dC dI a ac g2 r) : dj_X16_enter_2 p l e s m args below meth c Q A dC dI a ac (dF_X16_enter_2 n g2) r := by
  obtain ⟨hlt, hx, hb, hml, hown, hts, hN, hA, hK⟩ := id C
  intro x1 x2 s0 H locs ls h hP hD hS hl
  unfold dF_X16_enter_2 at h
  refine lv_iload_n hx hb dX16_enter_2 rfl (lv_at hl 2 rfl) ?_
  refine lv_bipush (v := 32) hx hb dX16_enter_3 (by decide) ?_
  refine lv_icmp_ge (tgt := 42) hx hb dX16_enter_5 (by decide) (fun c1 => ?_) (fun c1 => ?_)
  · have h := nd_pos h c1
    refine lv_aload_n hx hb dX16_enter_42 rfl (lv_at hl 0 rfl) ?_
    refine va_get (D := (dC, dI)) (ci := 17) (v := .ref (a 14)) (C := RX16) (T := TX16) (N := 56) hx hb hts hi_dm_X16_enter_X16 hown hK hP 0 rfl rfl 22 (by decide) (hts (.fieldLink RX16 51 "TimeMachineModel$Machine" "savedPlace" "[I") (List.mem_of_getElem? (i := 1) rfl)) (fun _ h9 => h9) rfl dX16_enter_43 ?_
    refine lv_aload_n hx hb dX16_enter_46 rfl (lv_at hl 0 rfl) ?_
    refine va_get (D := (dC, dI)) (ci := 17) (v := .int (sI s0.1 12)) (C := RX16) (T := TX16) (N := 56) hx hb hts hi_dm_X16_enter_X16 hown hK hP 0 rfl rfl 51 (by decide) (hts (.fieldLink RX16 232 "TimeMachineModel$Machine" "p" "I") (List.mem_of_getElem? (i := 2) rfl)) (fun _ h9 => h9) rfl dX16_enter_47 ?_
    refine lv_aload_n hx hb dX16_enter_50 rfl (lv_at hl 0 rfl) ?_
    refine va_get (D := (dC, dI)) (ci := 17) (v := .ref (a 12)) (C := RX16) (T := TX16) (N := 56) hx hb hts hi_dm_X16_enter_X16 hown hK hP 0 rfl rfl 20 (by decide) (hts (.fieldLink RX16 45 "TimeMachineModel$Machine" "place" "[I") (List.mem_of_getElem? (i := 3) rfl)) (fun _ h9 => h9) rfl dX16_enter_51 ?_
    refine lv_aload_n hx hb dX16_enter_54 rfl (lv_at hl 0 rfl) ?_
    refine va_get (D := (dC, dI)) (ci := 17) (v := .int (sI s0.1 12)) (C := RX16) (T := TX16) (N := 56) hx hb hts hi_dm_X16_enter_X16 hown hK hP 0 rfl rfl 51 (by decide) (hts (.fieldLink RX16 232 "TimeMachineModel$Machine" "p" "I") (List.mem_of_getElem? (i := 2) rfl)) (fun _ h9 => h9) rfl dX16_enter_55 ?_
    obtain ⟨i2, h⟩ := nd_ck_e h
    refine va_iald (i := (sI s0.1 12)) hx hb hK hP 12 11 rfl rfl i2 dX16_enter_58 ?_
    obtain ⟨i3, h⟩ := nd_ck_e h
    refine va_iast (i := (sI s0.1 12)) (x := (sR s0.1 10 (Int32.toNatClampNeg (sI s0.1 12)))) hx hb hK hP hD hS 14 13 rfl rfl i3 dX16_enter_59 (fun H locs hP hD hS => ?_)
    obtain ⟨s4, es4, h⟩ := nd_let_e h
    have hP : va_P (dC, dI) vwCl (dw_X16 a ac s4) H := by rw [es4]; exact hP
    have hD : va_D A (dw_X16 a ac s4) := by rw [es4]; exact hD
    refine lv_aload_n hx hb dX16_enter_60 rfl (lv_at hl 0 rfl) ?_
    refine va_get (D := (dC, dI)) (ci := 17) (v := .ref (a 9)) (C := RX16) (T := TX16) (N := 56) hx hb hts hi_dm_X16_enter_X16 hown hK hP 0 rfl rfl 17 (by decide) (hts (.fieldLink RX16 34 "TimeMachineModel$Machine" "within" "[Z") (List.mem_of_getElem? (i := 4) rfl)) (fun _ h9 => h9) rfl dX16_enter_61 ?_
    refine lv_aload_n hx hb dX16_enter_64 rfl (lv_at hl 0 rfl) ?_
    refine va_get (D := (dC, dI)) (ci := 17) (v := .int (sI s4.1 12)) (C := RX16) (T := TX16) (N := 56) hx hb hts hi_dm_X16_enter_X16 hown hK hP 0 rfl rfl 51 (by decide) (hts (.fieldLink RX16 232 "TimeMachineModel$Machine" "p" "I") (List.mem_of_getElem? (i := 2) rfl)) (fun _ h9 => h9) rfl dX16_enter_65 ?_
    refine lv_iconst (v := 1) hx hb dX16_enter_68 (by decide) ?_
    obtain ⟨i5, h⟩ := nd_ck_e h
    refine va_zast (i := (sI s4.1 12)) (x := 1) hx hb hK hP hD hS 9 8 rfl rfl i5 dX16_enter_69 (fun H locs hP hD hS => ?_)
    obtain ⟨s6, es6, h⟩ := nd_let_e h
    have hP : va_P (dC, dI) vwCl (dw_X16 a ac s6) H := by rw [es6]; exact hP
    have hD : va_D A (dw_X16 a ac s6) := by rw [es6]; exact hD
    refine lv_aload_n hx hb dX16_enter_70 rfl (lv_at hl 0 rfl) ?_
    refine va_get (D := (dC, dI)) (ci := 17) (v := .ref (a 11)) (C := RX16) (T := TX16) (N := 56) hx hb hts hi_dm_X16_enter_X16 hown hK hP 0 rfl rfl 19 (by decide) (hts (.fieldLink RX16 42 "TimeMachineModel$Machine" "x" "[I") (List.mem_of_getElem? (i := 5) rfl)) (fun _ h9 => h9) rfl dX16_enter_71 ?_
    refine lv_bipush (v := 32) hx hb dX16_enter_74 (by decide) ?_
    refine lv_aload_n hx hb dX16_enter_76 rfl (lv_at hl 0 rfl) ?_
    refine va_get (D := (dC, dI)) (ci := 17) (v := .int (sI s6.1 12)) (C := RX16) (T := TX16) (N := 56) hx hb hts hi_dm_X16_enter_X16 hown hK hP 0 rfl rfl 51 (by decide) (hts (.fieldLink RX16 232 "TimeMachineModel$Machine" "p" "I") (List.mem_of_getElem? (i := 2) rfl)) (fun _ h9 => h9) rfl dX16_enter_77 ?_
    refine lv_imul hx hb dX16_enter_80 ?_
    refine lv_bipush (v := 10) hx hb dX16_enter_81 (by decide) ?_
    refine lv_iadd hx hb dX16_enter_83 ?_
    refine lv_iload_n hx hb dX16_enter_84 rfl (lv_at hl 1 rfl) ?_
    obtain ⟨i7, h⟩ := nd_ck_e h
    refine va_iast (i := ((32 * (sI s6.1 12)) + 10)) (x := x1) hx hb hK hP hD hS 11 10 rfl rfl i7 dX16_enter_85 (fun H locs hP hD hS => ?_)
    obtain ⟨s8, es8, h⟩ := nd_let_e h
    have hP : va_P (dC, dI) vwCl (dw_X16 a ac s8) H := by rw [es8]; exact hP
    have hD : va_D A (dw_X16 a ac s8) := by rw [es8]; exact hD
    refine lv_aload_n hx hb dX16_enter_86 rfl (lv_at hl 0 rfl) ?_
    refine va_get (D := (dC, dI)) (ci := 17) (v := .ref (a 12)) (C := RX16) (T := TX16) (N := 56) hx hb hts hi_dm_X16_enter_X16 hown hK hP 0 rfl rfl 20 (by decide) (hts (.fieldLink RX16 45 "TimeMachineModel$Machine" "place" "[I") (List.mem_of_getElem? (i := 3) rfl)) (fun _ h9 => h9) rfl dX16_enter_87 ?_
    refine lv_aload_n hx hb dX16_enter_90 rfl (lv_at hl 0 rfl) ?_
    refine va_get (D := (dC, dI)) (ci := 17) (v := .int (sI s8.1 12)) (C := RX16) (T := TX16) (N := 56) hx hb hts hi_dm_X16_enter_X16 hown hK hP 0 rfl rfl 51 (by decide) (hts (.fieldLink RX16 232 "TimeMachineModel$Machine" "p" "I") (List.mem_of_getElem? (i := 2) rfl)) (fun _ h9 => h9) rfl dX16_enter_91 ?_
    refine lv_aload_n hx hb dX16_enter_94 rfl (lv_at hl 0 rfl) ?_
    refine va_get (D := (dC, dI)) (ci := 17) (v := .ref (a 15)) (C := RX16) (T := TX16) (N := 56) hx hb hts hi_dm_X16_enter_X16 hown hK hP 0 rfl rfl 23 (by decide) (hts (.fieldLink RX16 54 "TimeMachineModel$Machine" "handler" "[I") (List.mem_of_getElem? (i := 6) rfl)) (fun _ h9 => h9) rfl dX16_enter_95 ?_
    refine lv_bipush (v := 16) hx hb dX16_enter_98 (by decide) ?_
    refine lv_aload_n hx hb dX16_enter_100 rfl (lv_at hl 0 rfl) ?_
    refine va_get (D := (dC, dI)) (ci := 17) (v := .int (sI s8.1 12)) (C := RX16) (T := TX16) (N := 56) hx hb hts hi_dm_X16_enter_X16 hown hK hP 0 rfl rfl 51 (by decide) (hts (.fieldLink RX16 232 "TimeMachineModel$Machine" "p" "I") (List.mem_of_getElem? (i := 2) rfl)) (fun _ h9 => h9) rfl dX16_enter_101 ?_
    refine lv_imul hx hb dX16_enter_104 ?_
    refine lv_iload_n hx hb dX16_enter_105 rfl (lv_at hl 1 rfl) ?_
    refine lv_iadd hx hb dX16_enter_106 ?_
    obtain ⟨i9, h⟩ := nd_ck_e h
    refine va_iald (i := ((16 * (sI s8.1 12)) + x1)) hx hb hK hP 15 14 rfl rfl i9 dX16_enter_107 ?_
    obtain ⟨i10, h⟩ := nd_ck_e h
    refine va_iast (i := (sI s8.1 12)) (x := (sR s8.1 13 (Int32.toNatClampNeg ((16 * (sI s8.1 12)) + x1)))) hx hb hK hP hD hS 12 11 rfl rfl i10 dX16_enter_108 (fun H locs hP hD hS => ?_)
    obtain ⟨s11, es11, h⟩ := nd_let_e h
    have hP : va_P (dC, dI) vwCl (dw_X16 a ac s11) H := by rw [es11]; exact hP
    have hD : va_D A (dw_X16 a ac s11) := by rw [es11]; exact hD
    exact K _ _ _ _ _ dX16_enter_109 (Option.some.inj h).symm hP hD hS
  · have h := nd_neg h c1
    refine lv_aload_n hx hb dX16_enter_8 rfl (lv_at hl 0 rfl) ?_
    refine va_get (D := (dC, dI)) (ci := 17) (v := .ref (a 13)) (C := RX16) (T := TX16) (N := 56) hx hb hts hi_dm_X16_enter_X16 hown hK hP 0 rfl rfl 21 (by decide) (hts (.fieldLink RX16 48 "TimeMachineModel$Machine" "saved" "[I") (List.mem_of_getElem? (i := 7) rfl)) (fun _ h9 => h9) rfl dX16_enter_9 ?_
    refine lv_bipush (v := 32) hx hb dX16_enter_12 (by decide) ?_
    refine lv_aload_n hx hb dX16_enter_14 rfl (lv_at hl 0 rfl) ?_
    refine va_get (D := (dC, dI)) (ci := 17) (v := .int (sI s0.1 12)) (C := RX16) (T := TX16) (N := 56) hx hb hts hi_dm_X16_enter_X16 hown hK hP 0 rfl rfl 51 (by decide) (hts (.fieldLink RX16 232 "TimeMachineModel$Machine" "p" "I") (List.mem_of_getElem? (i := 2) rfl)) (fun _ h9 => h9) rfl dX16_enter_15 ?_
    refine lv_imul hx hb dX16_enter_18 ?_
    refine lv_iload_n hx hb dX16_enter_19 rfl (lv_at hl 2 rfl) ?_
    refine lv_iadd hx hb dX16_enter_20 ?_
    refine lv_aload_n hx hb dX16_enter_21 rfl (lv_at hl 0 rfl) ?_
    refine va_get (D := (dC, dI)) (ci := 17) (v := .ref (a 11)) (C := RX16) (T := TX16) (N := 56) hx hb hts hi_dm_X16_enter_X16 hown hK hP 0 rfl rfl 19 (by decide) (hts (.fieldLink RX16 42 "TimeMachineModel$Machine" "x" "[I") (List.mem_of_getElem? (i := 5) rfl)) (fun _ h9 => h9) rfl dX16_enter_22 ?_
    refine lv_bipush (v := 32) hx hb dX16_enter_25 (by decide) ?_
    refine lv_aload_n hx hb dX16_enter_27 rfl (lv_at hl 0 rfl) ?_
    refine va_get (D := (dC, dI)) (ci := 17) (v := .int (sI s0.1 12)) (C := RX16) (T := TX16) (N := 56) hx hb hts hi_dm_X16_enter_X16 hown hK hP 0 rfl rfl 51 (by decide) (hts (.fieldLink RX16 232 "TimeMachineModel$Machine" "p" "I") (List.mem_of_getElem? (i := 2) rfl)) (fun _ h9 => h9) rfl dX16_enter_28 ?_
    refine lv_imul hx hb dX16_enter_31 ?_
    refine lv_iload_n hx hb dX16_enter_32 rfl (lv_at hl 2 rfl) ?_
    refine lv_iadd hx hb dX16_enter_33 ?_
    obtain ⟨i12, h⟩ := nd_ck_e h
    refine va_iald (i := ((32 * (sI s0.1 12)) + x2)) hx hb hK hP 11 10 rfl rfl i12 dX16_enter_34 ?_
    obtain ⟨i13, h⟩ := nd_ck_e h
    refine va_iast (i := ((32 * (sI s0.1 12)) + x2)) (x := (sR s0.1 9 (Int32.toNatClampNeg ((32 * (sI s0.1 12)) + x2)))) hx hb hK hP hD hS 13 12 rfl rfl i13 dX16_enter_35 (fun H locs hP hD hS => ?_)
    obtain ⟨s14, es14, h⟩ := nd_let_e h
    have hP : va_P (dC, dI) vwCl (dw_X16 a ac s14) H := by rw [es14]; exact hP
    have hD : va_D A (dw_X16 a ac s14) := by rw [es14]; exact hD
    obtain ⟨z15, ez15, h⟩ := nd_let_e h
    refine lv_iinc (v := z15) (lv' := [(2, .int z15), (0, .ref (a 0)), (1, .int x1)]) hx hb dX16_enter_36 hl (k := 2) rfl (by rw [ez15]) (by decide) rfl (fun ls hl => ?_)
    refine lv_goto (tgt := 2) hx hb dX16_enter_39 (by decide) ?_
    exact (J2) (x1) (z15) s14 _ _ _ h hP hD hS (lv_sub hl [1, 2, 0] rfl)
set_option maxHeartbeats 40000000 in
set_option maxRecDepth 100000 in
theorem db_X16_enter_2 {p : Program} {l : Launch} {e : Env} {s : State} {m : MethodId} {args : Array Value} {below : List Frame} {meth : Method} {c : Code} {Q : State → Prop} {A : Nat → Prop} {dC : Nat → ClassId} {dI : Nat → Nat → Nat} {a : Nat → Nat} {ac : Nat → ClassId} {n : Nat} {r : St × (St)} (C : nd_C p l s m args c A (dC, dI) cX16_enter 3 RX16 ow_dm_X16_enter (dk_X16 ac)) (K : nd_Kv p l e (headSpec ow_dm_X16_enter ({ frames := 0, cells := 0, slots := 0, locals := 0 })).room s m args below meth c Q A (dC, dI) cX16_enter (St × (St)) (dw_X16 a ac) r) (k : Nat) : dj_X16_enter_2 p l e s m args below meth c Q A dC dI a ac (df_X16_enter_2 n k) r := by
  induction k with
  | zero => intro x1 x2 s0 H locs ls h; exact nomatch (show (none : Option (St × (St))) = some r from h)
  | succ k ih => exact dB_X16_enter_2 C K ih
set_option maxHeartbeats 40000000 in
set_option maxRecDepth 100000 in
theorem db_X16_enter_0 {p : Program} {l : Launch} {e : Env} {s : State} {m : MethodId} {args : Array Value} {below : List Frame} {meth : Method} {c : Code} {Q : State → Prop} {A : Nat → Prop} {dC : Nat → ClassId} {dI : Nat → Nat → Nat} {a : Nat → Nat} {ac : Nat → ClassId} {n : Nat} {r : St × (St)} (C : nd_C p l s m args c A (dC, dI) cX16_enter 3 RX16 ow_dm_X16_enter (dk_X16 ac)) (K : nd_Kv p l e (headSpec ow_dm_X16_enter ({ frames := 0, cells := 0, slots := 0, locals := 0 })).room s m args below meth c Q A (dC, dI) cX16_enter (St × (St)) (dw_X16 a ac) r) : dj_X16_enter_0 p l e s m args below meth c Q A dC dI a ac (df_X16_enter_0 n) r := by
  obtain ⟨hlt, hx, hb, hml, hown, hts, hN, hA, hK⟩ := id C
  intro v0 s0 H locs ls h hP hD hS hl
  unfold df_X16_enter_0 at h
  refine lv_iconst (v := 0) hx hb dX16_enter_0 (by decide) ?_
  refine lv_istore_n (lv' := [(2, .int 0), (0, .ref (a 0)), (1, .int v0)]) hx hb dX16_enter_1 rfl hl (by decide) rfl (fun ls hl => ?_)
  exact (db_X16_enter_2 C K n) (v0) (0) s0 _ _ _ h hP hD hS (lv_sub hl [1, 2, 0] rfl)
set_option maxHeartbeats 40000000 in
set_option maxRecDepth 100000 in
theorem dm_X16_enter (l : Launch) (hlt : l.stackTraces = false) (dC : Nat → ClassId) (dI : Nat → Nat → Nat) (a : Nat → Nat) (ac : Nat → ClassId) (n : Nat) (v0 : Int32) (s0 : St × (St)) {r : St × (St)} (h : df_X16_enter n v0 s0 = some r) (sz : Nat) : Met l yX16_enter ow_dm_X16_enter ({ frames := 0, cells := 0, slots := 0, locals := 0 }) (va_Pc [.ref (a 0), .int v0] (fun U => U.heap.size = sz ∧ va_P (dC, dI) vwCl (dw_X16 a ac s0) U.heap ∧ va_K (dC, dI) vwCl (dk_X16 ac) U ∧ va_D (fun _ => True) (dw_X16 a ac s0) ∧ nv_E (va_A (dw_X16 a ac s0) sz) U)) (va_Qv (fun _ => True) (fun (_ : Unit) t => va_P (dC, dI) vwCl (dw_X16 a ac r) t.heap ∧ va_K (dC, dI) vwCl (dk_X16 ac) t ∧ va_D (va_A (dw_X16 a ac s0) sz) (dw_X16 a ac r)) (va_A (dw_X16 a ac s0) sz)) 0 0 (va_A (dw_X16 a ac s0) sz) := by
  refine Met.ofW (cc := cX16_enter) (maxL := 3) (ret := none) (by decide) rfl ?_
  intro p e s m args below meth c s₁ B hml hv
  obtain ⟨rfl, hsz, hP, hK, hD0, hN⟩ := hv
  have hx := B.exec
  have hb := B.bytes
  have hr := B.returns
  have hts := atoms_spec (ws := ow_dm_X16_enter) B.pre
  have hown : s.vm.findClass RX16 = some m.cls := findClass_of_methodNamed B.named
  have hlocks := B.notSynchronized
  subst hsz
  have hD := hD0.self (sz := s.heap.size)
  generalize hAe : va_A (dw_X16 a ac s0) s.heap.size = A at hD hN ⊢
  have hA : ∀ q : Nat, s.heap.size ≤ q → A q := fun q h => by rw [← hAe]; exact Or.inr h
  have hl := lv_entry ([.ref (a 0), .int v0]) (n := 3) (Nat.le_of_ble_eq_true rfl)
  rw [lg_entry_eq]
  generalize (lg_sl ([.ref (a 0), .int v0]) ++ List.replicate (3 - (lg_sl ([.ref (a 0), .int v0])).length) Slot.unset).toArray = ls at hl ⊢
  have hl : lv_has ls 3 [(0, .ref (a 0)), (1, .int v0)] := hl
  exact db_X16_enter_0 (dC := dC) (dI := dI) (a := a) (ac := ac) (n := n) (r := r) ⟨hlt, hx, hb, hml, hown, hts, hN, hA, hK⟩ (fun pc τ H locs ls d er hP hD hS => by subst er; exact W.vret hx hb hr (fun t ht hW => ⟨⟨(), rfl, trivial, by rw [ht]; exact hP, va_K.moved hW.alike hK, hD⟩, hS.F ht⟩) hS.2.2 d) v0 s0 _ _ _ h hP hD va_S.rf (lv_sub hl [0, 1] rfl)
def ow_dm_X16_trap : List Cond := .code yX16_trap cX16_trap 2 none :: ([.fieldLink RX16 54 "TimeMachineModel$Machine" "handler" "[I", .fieldLink RX16 232 "TimeMachineModel$Machine" "p" "I", .methodLink RX16 282 yX16_end, .instanceMethod yX16_end, .selects RX16 yX16_end yX16_end, .initialized RX16, .fieldLink RX16 34 "TimeMachineModel$Machine" "within" "[Z", .methodLink RX16 285 yX16_enter, .instanceMethod yX16_enter, .selects RX16 yX16_enter yX16_enter] ++ (u_ws RX16 TX16 56 ++ (ow_dm_X16_end ++ (ow_dm_X16_enter ++ []))))
theorem gd_dm_X16_trap : ∀ w ∈ ow_dm_X16_trap, (w.onTables && w.keeps) = true ∨ ∃ ty, w = Cond.arrayClass ty := List.forall_mem_cons.mpr ⟨good_of_word rfl, List.forall_mem_append.mpr ⟨fun w h => good_of_word (List.all_eq_true.mp (by decide +kernel) w h), List.forall_mem_append.mpr ⟨gu_X16, List.forall_mem_append.mpr ⟨gd_dm_X16_end, List.forall_mem_append.mpr ⟨gd_dm_X16_enter, fun _ h => nomatch h⟩⟩⟩⟩⟩
theorem hi_dm_X16_trap_X16 : ∀ w ∈ u_ws RX16 TX16 56, w ∈ ow_dm_X16_trap := fun w h => List.mem_cons_of_mem _ (List.mem_append_right _ (List.mem_append_left _ h))
theorem gi_dm_X16_trap_0 : GoodIn ow_dm_X16_trap (wsV RX16 282 RX16 yX16_end ow_dm_X16_end) := goodIn_app (goodIn_of _ (by decide +kernel)) (fun w h => ⟨List.mem_cons_of_mem _ (List.mem_append_right _ (List.mem_append_right _ (List.mem_append_left _ h))), gd_dm_X16_end w h⟩)
theorem gi_dm_X16_trap_1 : GoodIn ow_dm_X16_trap (wsV RX16 285 RX16 yX16_enter ow_dm_X16_enter) := goodIn_app (goodIn_of _ (by decide +kernel)) (fun w h => ⟨List.mem_cons_of_mem _ (List.mem_append_right _ (List.mem_append_right _ (List.mem_append_right _ (List.mem_append_left _ h)))), gd_dm_X16_enter w h⟩)
def dj_X16_trap_50 (p : Program) (l : Launch) (e : Env) (s : State) (m : MethodId) (args : Array Value) (below : List Frame) (meth : Method) (c : Code) (Q : State → Prop) (A : Nat → Prop) (dC : Nat → ClassId) (dI : Nat → Nat → Nat) (a : Nat → Nat) (ac : Nat → ClassId) (g : (St × (St)) → Option (St × (St))) (r : St × (St)) : Prop := ∀ (s0 : St × (St)) (H : Heap) (locs : List Loc) (ls : Array Slot), g s0 = some r → va_P (dC, dI) vwCl (dw_X16 a ac s0) H → va_D A (dw_X16 a ac s0) → va_S A s.heap H locs → lv_has ls 2 [] → W p l e (headSpec ow_dm_X16_trap ({ frames := 3, cells := 0, slots := 0, locals := 68 })).room s m args below meth c H locs 0 0 Q (F0 m 50 ls [])
def dj_X16_trap_37 (p : Program) (l : Launch) (e : Env) (s : State) (m : MethodId) (args : Array Value) (below : List Frame) (meth : Method) (c : Code) (Q : State → Prop) (A : Nat → Prop) (dC : Nat → ClassId) (dI : Nat → Nat → Nat) (a : Nat → Nat) (ac : Nat → ClassId) (g : Int32 → (St × (St)) → Option (St × (St))) (r : St × (St)) : Prop := ∀ (x1 : Int32) (s0 : St × (St)) (H : Heap) (locs : List Loc) (ls : Array Slot), g x1 s0 = some r → va_P (dC, dI) vwCl (dw_X16 a ac s0) H → va_D A (dw_X16 a ac s0) → va_S A s.heap H locs → lv_has ls 2 [(0, .ref (a 0)), (1, .int x1)] → W p l e (headSpec ow_dm_X16_trap ({ frames := 3, cells := 0, slots := 0, locals := 68 })).room s m args below meth c H locs 0 0 Q (F0 m 37 ls [])
def dj_X16_trap_0 (p : Program) (l : Launch) (e : Env) (s : State) (m : MethodId) (args : Array Value) (below : List Frame) (meth : Method) (c : Code) (Q : State → Prop) (A : Nat → Prop) (dC : Nat → ClassId) (dI : Nat → Nat → Nat) (a : Nat → Nat) (ac : Nat → ClassId) (g : Int32 → (St × (St)) → Option (St × (St))) (r : St × (St)) : Prop := ∀ (v0 : Int32) (s0 : St × (St)) (H : Heap) (locs : List Loc) (ls : Array Slot), g v0 s0 = some r → va_P (dC, dI) vwCl (dw_X16 a ac s0) H → va_D A (dw_X16 a ac s0) → va_S A s.heap H locs → lv_has ls 2 [(0, .ref (a 0)), (1, .int v0)] → W p l e (headSpec ow_dm_X16_trap ({ frames := 3, cells := 0, slots := 0, locals := 68 })).room s m args below meth c H locs 0 0 Q (F0 m 0 ls [])
set_option maxHeartbeats 40000000 in
set_option maxRecDepth 100000 in
theorem db_X16_trap_50 {p : Program} {l : Launch} {e : Env} {s : State} {m : MethodId} {args : Array Value} {below : List Frame} {meth : Method} {c : Code} {Q : State → Prop} {A : Nat → Prop} {dC : Nat → ClassId} {dI : Nat → Nat → Nat} {a : Nat → Nat} {ac : Nat → ClassId} {n : Nat} {r : St × (St)} (C : nd_C p l s m args c A (dC, dI) cX16_trap 2 RX16 ow_dm_X16_trap (dk_X16 ac)) (K : nd_Kv p l e (headSpec ow_dm_X16_trap ({ frames := 3, cells := 0, slots := 0, locals := 68 })).room s m args below meth c Q A (dC, dI) cX16_trap (St × (St)) (dw_X16 a ac) r) : dj_X16_trap_50 p l e s m args below meth c Q A dC dI a ac (df_X16_trap_50 n) r := by
  obtain ⟨hlt, hx, hb, hml, hown, hts, hN, hA, hK⟩ := id C
  intro s0 H locs ls h hP hD hS hl
  unfold df_X16_trap_50 at h
  exact K _ _ _ _ _ dX16_trap_50 (Option.some.inj h).symm hP hD hS
set_option maxHeartbeats 40000000 in
set_option maxRecDepth 100000 in
theorem db_X16_trap_37 {p : Program} {l : Launch} {e : Env} {s : State} {m : MethodId} {args : Array Value} {below : List Frame} {meth : Method} {c : Code} {Q : State → Prop} {A : Nat → Prop} {dC : Nat → ClassId} {dI : Nat → Nat → Nat} {a : Nat → Nat} {ac : Nat → ClassId} {n : Nat} {r : St × (St)} (C : nd_C p l s m args c A (dC, dI) cX16_trap 2 RX16 ow_dm_X16_trap (dk_X16 ac)) (K : nd_Kv p l e (headSpec ow_dm_X16_trap ({ frames := 3, cells := 0, slots := 0, locals := 68 })).room s m args below meth c Q A (dC, dI) cX16_trap (St × (St)) (dw_X16 a ac) r) : dj_X16_trap_37 p l e s m args below meth c Q A dC dI a ac (df_X16_trap_37 n) r := by
  obtain ⟨hlt, hx, hb, hml, hown, hts, hN, hA, hK⟩ := id C
  intro x1 s0 H locs ls h hP hD hS hl
  unfold df_X16_trap_37 at h
  refine lv_aload_n hx hb dX16_trap_37 rfl (lv_at hl 0 rfl) ?_
  refine lv_aload_n hx hb dX16_trap_38 rfl (lv_at hl 0 rfl) ?_
  refine va_get (D := (dC, dI)) (ci := 17) (v := .int (sI s0.1 12)) (C := RX16) (T := TX16) (N := 56) hx hb hts hi_dm_X16_trap_X16 hown hK hP 0 rfl rfl 51 (by decide) (hts (.fieldLink RX16 232 "TimeMachineModel$Machine" "p" "I") (List.mem_of_getElem? (i := 2) rfl)) (fun _ h9 => h9) rfl dX16_trap_39 ?_
  refine lv_sipush (v := 128) hx hb dX16_trap_42 (by decide) ?_
  refine lv_iload_n hx hb dX16_trap_45 rfl (lv_at hl 1 rfl) ?_
  refine lv_iadd hx hb dX16_trap_46 ?_
  obtain ⟨s4, hq, h⟩ := nd_b1_e h
  have hPc := hP
  have hDc := hD
  have hKc := hK
  have hFc := nd_rs hD hS hA
  refine nd_cVv (As := [.int (sI s0.1 12), .int (128 + x1)]) (rest := []) (w' := dw_X16 a ac s4) ⟨hx, hb, hml, hown, hts⟩ (fun sz => dm_X16_end l hlt dC dI a ac n ((sI s0.1 12)) ((128 + x1)) s0 hq sz) (cwV 2 hts gi_dm_X16_trap_0 rfl rfl rfl (by decide +kernel) ⟨Nat.le_of_ble_eq_true rfl, Nat.le_of_ble_eq_true rfl⟩) hPc hDc hKc hS hA hN (va_recv hKc hPc (ci := 17) (q0 := 0) rfl rfl) rfl hl.1 rfl (Nat.le_of_ble_eq_true rfl) dX16_trap_47 (fun H locs hP1 hD1 hk1 hS => ?_)
  have hP := hP1
  have hD := hD1.weaken (fun k q _ h => hFc q.1 h)
  exact (db_X16_trap_50 C K)  s4 _ _ _ h hP hD hS (lv_sub hl [] rfl)
set_option maxHeartbeats 40000000 in
set_option maxRecDepth 100000 in
theorem db_X16_trap_0 {p : Program} {l : Launch} {e : Env} {s : State} {m : MethodId} {args : Array Value} {below : List Frame} {meth : Method} {c : Code} {Q : State → Prop} {A : Nat → Prop} {dC : Nat → ClassId} {dI : Nat → Nat → Nat} {a : Nat → Nat} {ac : Nat → ClassId} {n : Nat} {r : St × (St)} (C : nd_C p l s m args c A (dC, dI) cX16_trap 2 RX16 ow_dm_X16_trap (dk_X16 ac)) (K : nd_Kv p l e (headSpec ow_dm_X16_trap ({ frames := 3, cells := 0, slots := 0, locals := 68 })).room s m args below meth c Q A (dC, dI) cX16_trap (St × (St)) (dw_X16 a ac) r) : dj_X16_trap_0 p l e s m args below meth c Q A dC dI a ac (df_X16_trap_0 n) r := by
  obtain ⟨hlt, hx, hb, hml, hown, hts, hN, hA, hK⟩ := id C
  intro v0 s0 H locs ls h hP hD hS hl
  unfold df_X16_trap_0 at h
  refine lv_aload_n hx hb dX16_trap_0 rfl (lv_at hl 0 rfl) ?_
  refine va_get (D := (dC, dI)) (ci := 17) (v := .ref (a 15)) (C := RX16) (T := TX16) (N := 56) hx hb hts hi_dm_X16_trap_X16 hown hK hP 0 rfl rfl 23 (by decide) (hts (.fieldLink RX16 54 "TimeMachineModel$Machine" "handler" "[I") (List.mem_of_getElem? (i := 1) rfl)) (fun _ h9 => h9) rfl dX16_trap_1 ?_
  refine lv_bipush (v := 16) hx hb dX16_trap_4 (by decide) ?_
  refine lv_aload_n hx hb dX16_trap_6 rfl (lv_at hl 0 rfl) ?_
  refine va_get (D := (dC, dI)) (ci := 17) (v := .int (sI s0.1 12)) (C := RX16) (T := TX16) (N := 56) hx hb hts hi_dm_X16_trap_X16 hown hK hP 0 rfl rfl 51 (by decide) (hts (.fieldLink RX16 232 "TimeMachineModel$Machine" "p" "I") (List.mem_of_getElem? (i := 2) rfl)) (fun _ h9 => h9) rfl dX16_trap_7 ?_
  refine lv_imul hx hb dX16_trap_10 ?_
  refine lv_iload_n hx hb dX16_trap_11 rfl (lv_at hl 1 rfl) ?_
  refine lv_iadd hx hb dX16_trap_12 ?_
  obtain ⟨i1, h⟩ := nd_ck_e h
  refine va_iald (i := ((16 * (sI s0.1 12)) + v0)) hx hb hK hP 15 14 rfl rfl i1 dX16_trap_13 ?_
  refine lv_if_eq (tgt := 37) hx hb dX16_trap_14 (by decide) (fun c2 => ?_) (fun c2 => ?_)
  · have h := nd_pos h c2
    exact (db_X16_trap_37 C K) (v0) s0 _ _ _ h hP hD hS (lv_sub hl [0, 1] rfl)
  · have h := nd_neg h c2
    refine lv_aload_n hx hb dX16_trap_17 rfl (lv_at hl 0 rfl) ?_
    refine va_get (D := (dC, dI)) (ci := 17) (v := .ref (a 9)) (C := RX16) (T := TX16) (N := 56) hx hb hts hi_dm_X16_trap_X16 hown hK hP 0 rfl rfl 17 (by decide) (hts (.fieldLink RX16 34 "TimeMachineModel$Machine" "within" "[Z") (List.mem_of_getElem? (i := 7) rfl)) (fun _ h9 => h9) rfl dX16_trap_18 ?_
    refine lv_aload_n hx hb dX16_trap_21 rfl (lv_at hl 0 rfl) ?_
    refine va_get (D := (dC, dI)) (ci := 17) (v := .int (sI s0.1 12)) (C := RX16) (T := TX16) (N := 56) hx hb hts hi_dm_X16_trap_X16 hown hK hP 0 rfl rfl 51 (by decide) (hts (.fieldLink RX16 232 "TimeMachineModel$Machine" "p" "I") (List.mem_of_getElem? (i := 2) rfl)) (fun _ h9 => h9) rfl dX16_trap_22 ?_
    obtain ⟨i6, h⟩ := nd_ck_e h
    refine va_zald (i := (sI s0.1 12)) hx hb hK hP 9 8 rfl rfl i6 dX16_trap_25 ?_
    refine lv_if_ne (tgt := 37) hx hb dX16_trap_26 (by decide) (fun c7 => ?_) (fun c7 => ?_)
    · have h := nd_neg h c7
      exact (db_X16_trap_37 C K) (v0) s0 _ _ _ h hP hD hS (lv_sub hl [0, 1] rfl)
    · have h := nd_pos h c7
      refine lv_aload_n hx hb dX16_trap_29 rfl (lv_at hl 0 rfl) ?_
      refine lv_iload_n hx hb dX16_trap_30 rfl (lv_at hl 1 rfl) ?_
      obtain ⟨s9, hq, h⟩ := nd_b1_e h
      have hPc := hP
      have hDc := hD
      have hKc := hK
      have hFc := nd_rs hD hS hA
      refine nd_cVv (As := [.int v0]) (rest := []) (w' := dw_X16 a ac s9) ⟨hx, hb, hml, hown, hts⟩ (fun sz => dm_X16_enter l hlt dC dI a ac n (v0) s0 hq sz) (cwV 1 hts gi_dm_X16_trap_1 rfl rfl rfl (by decide +kernel) ⟨Nat.le_of_ble_eq_true rfl, Nat.le_of_ble_eq_true rfl⟩) hPc hDc hKc hS hA hN (va_recv hKc hPc (ci := 17) (q0 := 0) rfl rfl) rfl hl.1 rfl (Nat.le_of_ble_eq_true rfl) dX16_trap_31 (fun H locs hP1 hD1 hk1 hS => ?_)
      have hP := hP1
      have hD := hD1.weaken (fun k q _ h => hFc q.1 h)
      refine lv_goto (tgt := 50) hx hb dX16_trap_34 (by decide) ?_
      exact (db_X16_trap_50 C K)  s9 _ _ _ h hP hD hS (lv_sub hl [] rfl)
set_option maxHeartbeats 40000000 in
set_option maxRecDepth 100000 in
theorem dm_X16_trap (l : Launch) (hlt : l.stackTraces = false) (dC : Nat → ClassId) (dI : Nat → Nat → Nat) (a : Nat → Nat) (ac : Nat → ClassId) (n : Nat) (v0 : Int32) (s0 : St × (St)) {r : St × (St)} (h : df_X16_trap n v0 s0 = some r) (sz : Nat) : Met l yX16_trap ow_dm_X16_trap ({ frames := 3, cells := 0, slots := 0, locals := 68 }) (va_Pc [.ref (a 0), .int v0] (fun U => U.heap.size = sz ∧ va_P (dC, dI) vwCl (dw_X16 a ac s0) U.heap ∧ va_K (dC, dI) vwCl (dk_X16 ac) U ∧ va_D (fun _ => True) (dw_X16 a ac s0) ∧ nv_E (va_A (dw_X16 a ac s0) sz) U)) (va_Qv (fun _ => True) (fun (_ : Unit) t => va_P (dC, dI) vwCl (dw_X16 a ac r) t.heap ∧ va_K (dC, dI) vwCl (dk_X16 ac) t ∧ va_D (va_A (dw_X16 a ac s0) sz) (dw_X16 a ac r)) (va_A (dw_X16 a ac s0) sz)) 0 0 (va_A (dw_X16 a ac s0) sz) := by
  refine Met.ofW (cc := cX16_trap) (maxL := 2) (ret := none) (by decide) rfl ?_
  intro p e s m args below meth c s₁ B hml hv
  obtain ⟨rfl, hsz, hP, hK, hD0, hN⟩ := hv
  have hx := B.exec
  have hb := B.bytes
  have hr := B.returns
  have hts := atoms_spec (ws := ow_dm_X16_trap) B.pre
  have hown : s.vm.findClass RX16 = some m.cls := findClass_of_methodNamed B.named
  have hlocks := B.notSynchronized
  subst hsz
  have hD := hD0.self (sz := s.heap.size)
  generalize hAe : va_A (dw_X16 a ac s0) s.heap.size = A at hD hN ⊢
  have hA : ∀ q : Nat, s.heap.size ≤ q → A q := fun q h => by rw [← hAe]; exact Or.inr h
  have hl := lv_entry ([.ref (a 0), .int v0]) (n := 2) (Nat.le_of_ble_eq_true rfl)
  rw [lg_entry_eq]
  generalize (lg_sl ([.ref (a 0), .int v0]) ++ List.replicate (2 - (lg_sl ([.ref (a 0), .int v0])).length) Slot.unset).toArray = ls at hl ⊢
  have hl : lv_has ls 2 [(0, .ref (a 0)), (1, .int v0)] := hl
  exact db_X16_trap_0 (dC := dC) (dI := dI) (a := a) (ac := ac) (n := n) (r := r) ⟨hlt, hx, hb, hml, hown, hts, hN, hA, hK⟩ (fun pc τ H locs ls d er hP hD hS => by subst er; exact W.vret hx hb hr (fun t ht hW => ⟨⟨(), rfl, trivial, by rw [ht]; exact hP, va_K.moved hW.alike hK, hD⟩, hS.F ht⟩) hS.2.2 d) v0 s0 _ _ _ h hP hD va_S.rf (lv_sub hl [0, 1] rfl)
def ow_dm_X16_tell : List Cond := .code yX16_tell cX16_tell 2 (some .int) :: ([.fieldLink RX16 409 "TimeMachineModel$Machine" "outcome" "I"] ++ (u_ws RX16 TX16 56 ++ []))
theorem gd_dm_X16_tell : ∀ w ∈ ow_dm_X16_tell, (w.onTables && w.keeps) = true ∨ ∃ ty, w = Cond.arrayClass ty := List.forall_mem_cons.mpr ⟨good_of_word rfl, List.forall_mem_append.mpr ⟨fun w h => good_of_word (List.all_eq_true.mp (by decide +kernel) w h), List.forall_mem_append.mpr ⟨gu_X16, fun _ h => nomatch h⟩⟩⟩
theorem hi_dm_X16_tell_X16 : ∀ w ∈ u_ws RX16 TX16 56, w ∈ ow_dm_X16_tell := fun w h => List.mem_cons_of_mem _ (List.mem_append_right _ (List.mem_append_left _ h))
def dj_X16_tell_0 (p : Program) (l : Launch) (e : Env) (s : State) (m : MethodId) (args : Array Value) (below : List Frame) (meth : Method) (c : Code) (Q : State → Prop) (A : Nat → Prop) (dC : Nat → ClassId) (dI : Nat → Nat → Nat) (a : Nat → Nat) (ac : Nat → ClassId) (g : Int32 → (St × (St)) → Option (Int32 × (St × (St)))) (r : Int32 × (St × (St))) : Prop := ∀ (v0 : Int32) (s0 : St × (St)) (H : Heap) (locs : List Loc) (ls : Array Slot), g v0 s0 = some r → va_P (dC, dI) vwCl (dw_X16 a ac s0) H → va_D A (dw_X16 a ac s0) → va_S A s.heap H locs → lv_has ls 2 [(0, .ref (a 0)), (1, .int v0)] → W p l e (headSpec ow_dm_X16_tell ({ frames := 0, cells := 0, slots := 0, locals := 0 })).room s m args below meth c H locs 0 0 Q (F0 m 0 ls [])
set_option maxHeartbeats 40000000 in
set_option maxRecDepth 100000 in
theorem db_X16_tell_0 {p : Program} {l : Launch} {e : Env} {s : State} {m : MethodId} {args : Array Value} {below : List Frame} {meth : Method} {c : Code} {Q : State → Prop} {A : Nat → Prop} {dC : Nat → ClassId} {dI : Nat → Nat → Nat} {a : Nat → Nat} {ac : Nat → ClassId} {n : Nat} {r : Int32 × (St × (St))} (C : nd_C p l s m args c A (dC, dI) cX16_tell 2 RX16 ow_dm_X16_tell (dk_X16 ac)) (K : nd_Ki p l e (headSpec ow_dm_X16_tell ({ frames := 0, cells := 0, slots := 0, locals := 0 })).room s m args below meth c Q A (dC, dI) cX16_tell .int (St × (St)) (dw_X16 a ac) r) : dj_X16_tell_0 p l e s m args below meth c Q A dC dI a ac (df_X16_tell_0 n) r := by
  obtain ⟨hlt, hx, hb, hml, hown, hts, hN, hA, hK⟩ := id C
  intro v0 s0 H locs ls h hP hD hS hl
  unfold df_X16_tell_0 at h
  refine lv_aload_n hx hb dX16_tell_0 rfl (lv_at hl 0 rfl) ?_
  refine lv_iload_n hx hb dX16_tell_1 rfl (lv_at hl 1 rfl) ?_
  refine va_put (D := (dC, dI)) (ci := 17) (v := .int v0) (ty := .int) (C := RX16) (T := TX16) (N := 56) hx hb hts hi_dm_X16_tell_X16 tyX16 tyX16_ok nmX16 hown hK hP hD hS 0 rfl rfl 52 (by decide) (hts (.fieldLink RX16 409 "TimeMachineModel$Machine" "outcome" "I") (List.mem_of_getElem? (i := 1) rfl)) (fun _ h9 => h9) rfl (by decide +kernel) rfl rfl (Nat.le_of_ble_eq_true rfl) dX16_tell_2 (fun H locs hP hD hS => ?_)
  obtain ⟨s1, es1, h⟩ := nd_let_e h
  have hP : va_P (dC, dI) vwCl (dw_X16 a ac s1) H := by rw [es1]; exact hP
  have hD : va_D A (dw_X16 a ac s1) := by rw [es1]; exact hD
  refine lv_iconst (v := 0) hx hb dX16_tell_5 (by decide) ?_
  exact K _ _ _ _ _ _ dX16_tell_6 rfl (Option.some.inj h).symm hP hD hS
set_option maxHeartbeats 40000000 in
set_option maxRecDepth 100000 in
theorem dm_X16_tell (l : Launch) (hlt : l.stackTraces = false) (dC : Nat → ClassId) (dI : Nat → Nat → Nat) (a : Nat → Nat) (ac : Nat → ClassId) (n : Nat) (v0 : Int32) (s0 : St × (St)) {r : Int32 × (St × (St))} (h : df_X16_tell n v0 s0 = some r) (sz : Nat) : Met l yX16_tell ow_dm_X16_tell ({ frames := 0, cells := 0, slots := 0, locals := 0 }) (va_Pc [.ref (a 0), .int v0] (fun U => U.heap.size = sz ∧ va_P (dC, dI) vwCl (dw_X16 a ac s0) U.heap ∧ va_K (dC, dI) vwCl (dk_X16 ac) U ∧ va_D (fun _ => True) (dw_X16 a ac s0) ∧ nv_E (va_A (dw_X16 a ac s0) sz) U)) (va_Qi (fun x _ => x = r.1) (fun (_ : Unit) t => va_P (dC, dI) vwCl (dw_X16 a ac r.2) t.heap ∧ va_K (dC, dI) vwCl (dk_X16 ac) t ∧ va_D (va_A (dw_X16 a ac s0) sz) (dw_X16 a ac r.2)) (va_A (dw_X16 a ac s0) sz)) 0 0 (va_A (dw_X16 a ac s0) sz) := by
  refine Met.ofW (cc := cX16_tell) (maxL := 2) (ret := (some .int)) (by decide) rfl ?_
  intro p e s m args below meth c s₁ B hml hv
  obtain ⟨rfl, hsz, hP, hK, hD0, hN⟩ := hv
  have hx := B.exec
  have hb := B.bytes
  have hr := B.returns
  have hts := atoms_spec (ws := ow_dm_X16_tell) B.pre
  have hown : s.vm.findClass RX16 = some m.cls := findClass_of_methodNamed B.named
  have hlocks := B.notSynchronized
  subst hsz
  have hD := hD0.self (sz := s.heap.size)
  generalize hAe : va_A (dw_X16 a ac s0) s.heap.size = A at hD hN ⊢
  have hA : ∀ q : Nat, s.heap.size ≤ q → A q := fun q h => by rw [← hAe]; exact Or.inr h
  have hl := lv_entry ([.ref (a 0), .int v0]) (n := 2) (Nat.le_of_ble_eq_true rfl)
  rw [lg_entry_eq]
  generalize (lg_sl ([.ref (a 0), .int v0]) ++ List.replicate (2 - (lg_sl ([.ref (a 0), .int v0])).length) Slot.unset).toArray = ls at hl ⊢
  have hl : lv_has ls 2 [(0, .ref (a 0)), (1, .int v0)] := hl
  exact db_X16_tell_0 (dC := dC) (dI := dI) (a := a) (ac := ac) (n := n) (r := r) ⟨hlt, hx, hb, hml, hown, hts, hN, hA, hK⟩ (fun pc v τ H locs ls d z er hP hD hS => by subst er; exact W.zret (v := v) hx hb hr z (fun t ht hW => ⟨⟨v, (), rfl, rfl, by rw [ht]; exact hP, va_K.moved hW.alike hK, hD⟩, hS.F ht⟩) hS.2.2 d) v0 s0 _ _ _ h hP hD va_S.rf (lv_sub hl [0, 1] rfl)
def ow_dm_X16_fork : List Cond := .code yX16_fork cX16_fork 3 (some .int) :: ([.methodLink RX16 160 yX16_begin, .instanceMethod yX16_begin, .selects RX16 yX16_begin yX16_begin, .initialized RX16, .fieldLink RX16 13 "TimeMachineModel$Machine" "state" "[I", .fieldLink RX16 16 "TimeMachineModel$Machine" "parent" "[I", .fieldLink RX16 232 "TimeMachineModel$Machine" "p" "I", .fieldLink RX16 42 "TimeMachineModel$Machine" "x" "[I", .fieldLink RX16 45 "TimeMachineModel$Machine" "place" "[I", .fieldLink RX16 51 "TimeMachineModel$Machine" "savedPlace" "[I", .fieldLink RX16 34 "TimeMachineModel$Machine" "within" "[Z", .fieldLink RX16 25 "TimeMachineModel$Machine" "heapBegin" "[I", .fieldLink RX16 28 "TimeMachineModel$Machine" "heapEnd" "[I", .fieldLink RX16 61 "TimeMachineModel$Machine" "bytes" "[I", .fieldLink RX16 64 "TimeMachineModel$Machine" "frame" "[I", .methodLink RX16 208 yX16_stand, .instanceMethod yX16_stand, .selects RX16 yX16_stand yX16_stand, .fieldLink RX16 67 "TimeMachineModel$Machine" "rights" "[I", .fieldLink RX16 54 "TimeMachineModel$Machine" "handler" "[I", .fieldLink RX16 57 "TimeMachineModel$Machine" "descriptor" "[I", .fieldLink RX16 48 "TimeMachineModel$Machine" "saved" "[I"] ++ (u_ws RX16 TX16 56 ++ (ow_dm_X16_begin ++ (ow_dm_X16_stand ++ []))))
theorem gd_dm_X16_fork : ∀ w ∈ ow_dm_X16_fork, (w.onTables && w.keeps) = true ∨ ∃ ty, w = Cond.arrayClass ty := List.forall_mem_cons.mpr ⟨good_of_word rfl, List.forall_mem_append.mpr ⟨fun w h => good_of_word (List.all_eq_true.mp (by decide +kernel) w h), List.forall_mem_append.mpr ⟨gu_X16, List.forall_mem_append.mpr ⟨gd_dm_X16_begin, List.forall_mem_append.mpr ⟨gd_dm_X16_stand, fun _ h => nomatch h⟩⟩⟩⟩⟩
theorem hi_dm_X16_fork_X16 : ∀ w ∈ u_ws RX16 TX16 56, w ∈ ow_dm_X16_fork := fun w h => List.mem_cons_of_mem _ (List.mem_append_right _ (List.mem_append_left _ h))
theorem gi_dm_X16_fork_0 : GoodIn ow_dm_X16_fork (wsV RX16 160 RX16 yX16_begin ow_dm_X16_begin) := goodIn_app (goodIn_of _ (by decide +kernel)) (fun w h => ⟨List.mem_cons_of_mem _ (List.mem_append_right _ (List.mem_append_right _ (List.mem_append_left _ h))), gd_dm_X16_begin w h⟩)
theorem gi_dm_X16_fork_1 : GoodIn ow_dm_X16_fork (wsV RX16 208 RX16 yX16_stand ow_dm_X16_stand) := goodIn_app (goodIn_of _ (by decide +kernel)) (fun w h => ⟨List.mem_cons_of_mem _ (List.mem_append_right _ (List.mem_append_right _ (List.mem_append_right _ (List.mem_append_left _ h)))), gd_dm_X16_stand w h⟩)
def dj_X16_fork_358 (p : Program) (l : Launch) (e : Env) (s : State) (m : MethodId) (args : Array Value) (below : List Frame) (meth : Method) (c : Code) (Q : State → Prop) (A : Nat → Prop) (dC : Nat → ClassId) (dI : Nat → Nat → Nat) (a : Nat → Nat) (ac : Nat → ClassId) (g : Int32 → Int32 → (St × (St)) → Option (Int32 × (St × (St)))) (r : Int32 × (St × (St))) : Prop := ∀ (x1 : Int32) (x2 : Int32) (s0 : St × (St)) (H : Heap) (locs : List Loc) (ls : Array Slot), g x1 x2 s0 = some r → va_P (dC, dI) vwCl (dw_X16 a ac s0) H → va_D A (dw_X16 a ac s0) → va_S A s.heap H locs → lv_has ls 3 [(0, .ref (a 0)), (1, .int x1), (2, .int x2)] → W p l e (headSpec ow_dm_X16_fork ({ frames := 1, cells := 0, slots := 0, locals := 22 })).room s m args below meth c H locs 0 0 Q (F0 m 358 ls [])
def dj_X16_fork_350 (p : Program) (l : Launch) (e : Env) (s : State) (m : MethodId) (args : Array Value) (below : List Frame) (meth : Method) (c : Code) (Q : State → Prop) (A : Nat → Prop) (dC : Nat → ClassId) (dI : Nat → Nat → Nat) (a : Nat → Nat) (ac : Nat → ClassId) (g : Int32 → Int32 → (St × (St)) → Option (Int32 × (St × (St)))) (r : Int32 × (St × (St))) : Prop := ∀ (x1 : Int32) (x2 : Int32) (s0 : St × (St)) (H : Heap) (locs : List Loc) (ls : Array Slot), g x1 x2 s0 = some r → va_P (dC, dI) vwCl (dw_X16 a ac s0) H → va_D A (dw_X16 a ac s0) → va_S A s.heap H locs → lv_has ls 3 [(0, .ref (a 0)), (1, .int x1), (2, .int x2)] → W p l e (headSpec ow_dm_X16_fork ({ frames := 1, cells := 0, slots := 0, locals := 22 })).room s m args below meth c H locs 0 0 Q (F0 m 350 ls [])
def dj_X16_fork_274 (p : Program) (l : Launch) (e : Env) (s : State) (m : MethodId) (args : Array Value) (below : List Frame) (meth : Method) (c : Code) (Q : State → Prop) (A : Nat → Prop) (dC : Nat → ClassId) (dI : Nat → Nat → Nat) (a : Nat → Nat) (ac : Nat → ClassId) (g : Int32 → Int32 → (St × (St)) → Option (Int32 × (St × (St)))) (r : Int32 × (St × (St))) : Prop := ∀ (x1 : Int32) (x2 : Int32) (s0 : St × (St)) (H : Heap) (locs : List Loc) (ls : Array Slot), g x1 x2 s0 = some r → va_P (dC, dI) vwCl (dw_X16 a ac s0) H → va_D A (dw_X16 a ac s0) → va_S A s.heap H locs → lv_has ls 3 [(0, .ref (a 0)), (1, .int x1), (2, .int x2)] → W p l e (headSpec ow_dm_X16_fork ({ frames := 1, cells := 0, slots := 0, locals := 22 })).room s m args below meth c H locs 0 0 Q (F0 m 274 ls [])
def dj_X16_fork_210 (p : Program) (l : Launch) (e : Env) (s : State) (m : MethodId) (args : Array Value) (below : List Frame) (meth : Method) (c : Code) (Q : State → Prop) (A : Nat → Prop) (dC : Nat → ClassId) (dI : Nat → Nat → Nat) (a : Nat → Nat) (ac : Nat → ClassId) (g : Int32 → Int32 → (St × (St)) → Option (Int32 × (St × (St)))) (r : Int32 × (St × (St))) : Prop := ∀ (x1 : Int32) (x2 : Int32) (s0 : St × (St)) (H : Heap) (locs : List Loc) (ls : Array Slot), g x1 x2 s0 = some r → va_P (dC, dI) vwCl (dw_X16 a ac s0) H → va_D A (dw_X16 a ac s0) → va_S A s.heap H locs → lv_has ls 3 [(0, .ref (a 0)), (1, .int x1), (2, .int x2)] → W p l e (headSpec ow_dm_X16_fork ({ frames := 1, cells := 0, slots := 0, locals := 22 })).room s m args below meth c H locs 0 0 Q (F0 m 210 ls [])
def dj_X16_fork_56 (p : Program) (l : Launch) (e : Env) (s : State) (m : MethodId) (args : Array Value) (below : List Frame) (meth : Method) (c : Code) (Q : State → Prop) (A : Nat → Prop) (dC : Nat → ClassId) (dI : Nat → Nat → Nat) (a : Nat → Nat) (ac : Nat → ClassId) (g : Int32 → Int32 → (St × (St)) → Option (Int32 × (St × (St)))) (r : Int32 × (St × (St))) : Prop := ∀ (x1 : Int32) (x2 : Int32) (s0 : St × (St)) (H : Heap) (locs : List Loc) (ls : Array Slot), g x1 x2 s0 = some r → va_P (dC, dI) vwCl (dw_X16 a ac s0) H → va_D A (dw_X16 a ac s0) → va_S A s.heap H locs → lv_has ls 3 [(0, .ref (a 0)), (1, .int x1), (2, .int x2)] → W p l e (headSpec ow_dm_X16_fork ({ frames := 1, cells := 0, slots := 0, locals := 22 })).room s m args below meth c H locs 0 0 Q (F0 m 56 ls [])
def dj_X16_fork_23 (p : Program) (l : Launch) (e : Env) (s : State) (m : MethodId) (args : Array Value) (below : List Frame) (meth : Method) (c : Code) (Q : State → Prop) (A : Nat → Prop) (dC : Nat → ClassId) (dI : Nat → Nat → Nat) (a : Nat → Nat) (ac : Nat → ClassId) (g : Int32 → (St × (St)) → Option (Int32 × (St × (St)))) (r : Int32 × (St × (St))) : Prop := ∀ (x1 : Int32) (s0 : St × (St)) (H : Heap) (locs : List Loc) (ls : Array Slot), g x1 s0 = some r → va_P (dC, dI) vwCl (dw_X16 a ac s0) H → va_D A (dw_X16 a ac s0) → va_S A s.heap H locs → lv_has ls 3 [(0, .ref (a 0)), (1, .int x1)] → W p l e (headSpec ow_dm_X16_fork ({ frames := 1, cells := 0, slots := 0, locals := 22 })).room s m args below meth c H locs 0 0 Q (F0 m 23 ls [])
def dj_X16_fork_2 (p : Program) (l : Launch) (e : Env) (s : State) (m : MethodId) (args : Array Value) (below : List Frame) (meth : Method) (c : Code) (Q : State → Prop) (A : Nat → Prop) (dC : Nat → ClassId) (dI : Nat → Nat → Nat) (a : Nat → Nat) (ac : Nat → ClassId) (g : Int32 → (St × (St)) → Option (Int32 × (St × (St)))) (r : Int32 × (St × (St))) : Prop := ∀ (x1 : Int32) (s0 : St × (St)) (H : Heap) (locs : List Loc) (ls : Array Slot), g x1 s0 = some r → va_P (dC, dI) vwCl (dw_X16 a ac s0) H → va_D A (dw_X16 a ac s0) → va_S A s.heap H locs → lv_has ls 3 [(0, .ref (a 0)), (1, .int x1)] → W p l e (headSpec ow_dm_X16_fork ({ frames := 1, cells := 0, slots := 0, locals := 22 })).room s m args below meth c H locs 0 0 Q (F0 m 2 ls [])
def dj_X16_fork_0 (p : Program) (l : Launch) (e : Env) (s : State) (m : MethodId) (args : Array Value) (below : List Frame) (meth : Method) (c : Code) (Q : State → Prop) (A : Nat → Prop) (dC : Nat → ClassId) (dI : Nat → Nat → Nat) (a : Nat → Nat) (ac : Nat → ClassId) (g : (St × (St)) → Option (Int32 × (St × (St)))) (r : Int32 × (St × (St))) : Prop := ∀ (s0 : St × (St)) (H : Heap) (locs : List Loc) (ls : Array Slot), g s0 = some r → va_P (dC, dI) vwCl (dw_X16 a ac s0) H → va_D A (dw_X16 a ac s0) → va_S A s.heap H locs → lv_has ls 3 [(0, .ref (a 0))] → W p l e (headSpec ow_dm_X16_fork ({ frames := 1, cells := 0, slots := 0, locals := 22 })).room s m args below meth c H locs 0 0 Q (F0 m 0 ls [])
set_option maxHeartbeats 40000000 in
set_option maxRecDepth 100000 in
theorem dB_X16_fork_358 {p : Program} {l : Launch} {e : Env} {s : State} {m : MethodId} {args : Array Value} {below : List Frame} {meth : Method} {c : Code} {Q : State → Prop} {A : Nat → Prop} {dC : Nat → ClassId} {dI : Nat → Nat → Nat} {a : Nat → Nat} {ac : Nat → ClassId} {n : Nat} {r : Int32 × (St × (St))} (C : nd_C p l s m args c A (dC, dI) cX16_fork 3 RX16 ow_dm_X16_fork (dk_X16 ac)) (K : nd_Ki p l e (headSpec ow_dm_X16_fork ({ frames := 1, cells := 0, slots := 0, locals := 22 })).room s m args below meth c Q A (dC, dI) cX16_fork .int (St × (St)) (dw_X16 a ac) r) {g358 : Int32 → Int32 → (St × (St)) → Option (Int32 × (St × (St)))} (J358 : dj_X16_fork_358 p l e s m args below meth c Q A dC dI a ac g358 r) : dj_X16_fork_358 p l e s m args below meth c Q A dC dI a ac (dF_X16_fork_358 n g358) r := by
  obtain ⟨hlt, hx, hb, hml, hown, hts, hN, hA, hK⟩ := id C
  intro x1 x2 s0 H locs ls h hP hD hS hl
  unfold dF_X16_fork_358 at h
  refine lv_iload_n hx hb dX16_fork_358 rfl (lv_at hl 2 rfl) ?_
  refine lv_sipush (v := 16384) hx hb dX16_fork_359 (by decide) ?_
  refine lv_icmp_ge (tgt := 398) hx hb dX16_fork_362 (by decide) (fun c30 => ?_) (fun c30 => ?_)
  · have h := nd_pos h c30
    refine lv_iload_n hx hb dX16_fork_398 rfl (lv_at hl 1 rfl) ?_
    exact K _ _ _ _ _ _ dX16_fork_399 rfl (Option.some.inj h).symm hP hD hS
  · have h := nd_neg h c30
    refine lv_aload_n hx hb dX16_fork_365 rfl (lv_at hl 0 rfl) ?_
    refine va_get (D := (dC, dI)) (ci := 17) (v := .ref (a 17)) (C := RX16) (T := TX16) (N := 56) hx hb hts hi_dm_X16_fork_X16 hown hK hP 0 rfl rfl 25 (by decide) (hts (.fieldLink RX16 61 "TimeMachineModel$Machine" "bytes" "[I") (List.mem_of_getElem? (i := 14) rfl)) (fun _ h9 => h9) rfl dX16_fork_366 ?_
    refine lv_sipush (v := 16384) hx hb dX16_fork_369 (by decide) ?_
    refine lv_iload_n hx hb dX16_fork_372 rfl (lv_at hl 1 rfl) ?_
    refine lv_imul hx hb dX16_fork_373 ?_
    refine lv_iload_n hx hb dX16_fork_374 rfl (lv_at hl 2 rfl) ?_
    refine lv_iadd hx hb dX16_fork_375 ?_
    refine lv_aload_n hx hb dX16_fork_376 rfl (lv_at hl 0 rfl) ?_
    refine va_get (D := (dC, dI)) (ci := 17) (v := .ref (a 17)) (C := RX16) (T := TX16) (N := 56) hx hb hts hi_dm_X16_fork_X16 hown hK hP 0 rfl rfl 25 (by decide) (hts (.fieldLink RX16 61 "TimeMachineModel$Machine" "bytes" "[I") (List.mem_of_getElem? (i := 14) rfl)) (fun _ h9 => h9) rfl dX16_fork_377 ?_
    refine lv_sipush (v := 16384) hx hb dX16_fork_380 (by decide) ?_
    refine lv_aload_n hx hb dX16_fork_383 rfl (lv_at hl 0 rfl) ?_
    refine va_get (D := (dC, dI)) (ci := 17) (v := .int (sI s0.1 12)) (C := RX16) (T := TX16) (N := 56) hx hb hts hi_dm_X16_fork_X16 hown hK hP 0 rfl rfl 51 (by decide) (hts (.fieldLink RX16 232 "TimeMachineModel$Machine" "p" "I") (List.mem_of_getElem? (i := 7) rfl)) (fun _ h9 => h9) rfl dX16_fork_384 ?_
    refine lv_imul hx hb dX16_fork_387 ?_
    refine lv_iload_n hx hb dX16_fork_388 rfl (lv_at hl 2 rfl) ?_
    refine lv_iadd hx hb dX16_fork_389 ?_
    obtain ⟨i31, h⟩ := nd_ck_e h
    refine va_iald (i := ((16384 * (sI s0.1 12)) + x2)) hx hb hK hP 17 16 rfl rfl i31 dX16_fork_390 ?_
    obtain ⟨i32, h⟩ := nd_ck_e h
    refine va_iast (i := ((16384 * x1) + x2)) (x := (sR s0.1 15 (Int32.toNatClampNeg ((16384 * (sI s0.1 12)) + x2)))) hx hb hK hP hD hS 17 16 rfl rfl i32 dX16_fork_391 (fun H locs hP hD hS => ?_)
    obtain ⟨s33, es33, h⟩ := nd_let_e h
    have hP : va_P (dC, dI) vwCl (dw_X16 a ac s33) H := by rw [es33]; exact hP
    have hD : va_D A (dw_X16 a ac s33) := by rw [es33]; exact hD
    obtain ⟨z34, ez34, h⟩ := nd_let_e h
    refine lv_iinc (v := z34) (lv' := [(2, .int z34), (0, .ref (a 0)), (1, .int x1)]) hx hb dX16_fork_392 hl (k := 2) rfl (by rw [ez34]) (by decide) rfl (fun ls hl => ?_)
    refine lv_goto (tgt := 358) hx hb dX16_fork_395 (by decide) ?_
    exact (J358) (x1) (z34) s33 _ _ _ h hP hD hS (lv_sub hl [1, 2, 0] rfl)
set_option maxHeartbeats 40000000 in
set_option maxRecDepth 100000 in
theorem db_X16_fork_358 {p : Program} {l : Launch} {e : Env} {s : State} {m : MethodId} {args : Array Value} {below : List Frame} {meth : Method} {c : Code} {Q : State → Prop} {A : Nat → Prop} {dC : Nat → ClassId} {dI : Nat → Nat → Nat} {a : Nat → Nat} {ac : Nat → ClassId} {n : Nat} {r : Int32 × (St × (St))} (C : nd_C p l s m args c A (dC, dI) cX16_fork 3 RX16 ow_dm_X16_fork (dk_X16 ac)) (K : nd_Ki p l e (headSpec ow_dm_X16_fork ({ frames := 1, cells := 0, slots := 0, locals := 22 })).room s m args below meth c Q A (dC, dI) cX16_fork .int (St × (St)) (dw_X16 a ac) r) (k : Nat) : dj_X16_fork_358 p l e s m args below meth c Q A dC dI a ac (df_X16_fork_358 n k) r := by
  induction k with
  | zero => intro x1 x2 s0 H locs ls h; exact nomatch (show (none : Option (Int32 × (St × (St)))) = some r from h)
  | succ k ih => exact dB_X16_fork_358 C K ih
set_option maxHeartbeats 40000000 in
set_option maxRecDepth 100000 in
theorem db_X16_fork_350 {p : Program} {l : Launch} {e : Env} {s : State} {m : MethodId} {args : Array Value} {below : List Frame} {meth : Method} {c : Code} {Q : State → Prop} {A : Nat → Prop} {dC : Nat → ClassId} {dI : Nat → Nat → Nat} {a : Nat → Nat} {ac : Nat → ClassId} {n : Nat} {r : Int32 × (St × (St))} (C : nd_C p l s m args c A (dC, dI) cX16_fork 3 RX16 ow_dm_X16_fork (dk_X16 ac)) (K : nd_Ki p l e (headSpec ow_dm_X16_fork ({ frames := 1, cells := 0, slots := 0, locals := 22 })).room s m args below meth c Q A (dC, dI) cX16_fork .int (St × (St)) (dw_X16 a ac) r) {g274 : Int32 → Int32 → (St × (St)) → Option (Int32 × (St × (St)))} (J274 : dj_X16_fork_274 p l e s m args below meth c Q A dC dI a ac g274 r) : dj_X16_fork_350 p l e s m args below meth c Q A dC dI a ac (df_X16_fork_350 n g274) r := by
  obtain ⟨hlt, hx, hb, hml, hown, hts, hN, hA, hK⟩ := id C
  intro x1 x2 s0 H locs ls h hP hD hS hl
  unfold df_X16_fork_350 at h
  obtain ⟨z44, ez44, h⟩ := nd_let_e h
  refine lv_iinc (v := z44) (lv' := [(2, .int z44), (0, .ref (a 0)), (1, .int x1)]) hx hb dX16_fork_350 hl (k := 2) rfl (by rw [ez44]) (by decide) rfl (fun ls hl => ?_)
  refine lv_goto (tgt := 274) hx hb dX16_fork_353 (by decide) ?_
  exact (J274) (x1) (z44) s0 _ _ _ h hP hD hS (lv_sub hl [1, 2, 0] rfl)
set_option maxHeartbeats 40000000 in
set_option maxRecDepth 100000 in
theorem dB_X16_fork_274 {p : Program} {l : Launch} {e : Env} {s : State} {m : MethodId} {args : Array Value} {below : List Frame} {meth : Method} {c : Code} {Q : State → Prop} {A : Nat → Prop} {dC : Nat → ClassId} {dI : Nat → Nat → Nat} {a : Nat → Nat} {ac : Nat → ClassId} {n : Nat} {r : Int32 × (St × (St))} (C : nd_C p l s m args c A (dC, dI) cX16_fork 3 RX16 ow_dm_X16_fork (dk_X16 ac)) (K : nd_Ki p l e (headSpec ow_dm_X16_fork ({ frames := 1, cells := 0, slots := 0, locals := 22 })).room s m args below meth c Q A (dC, dI) cX16_fork .int (St × (St)) (dw_X16 a ac) r) {g274 : Int32 → Int32 → (St × (St)) → Option (Int32 × (St × (St)))} (J274 : dj_X16_fork_274 p l e s m args below meth c Q A dC dI a ac g274 r) : dj_X16_fork_274 p l e s m args below meth c Q A dC dI a ac (dF_X16_fork_274 n g274) r := by
  obtain ⟨hlt, hx, hb, hml, hown, hts, hN, hA, hK⟩ := id C
  intro x1 x2 s0 H locs ls h hP hD hS hl
  unfold dF_X16_fork_274 at h
  refine lv_iload_n hx hb dX16_fork_274 rfl (lv_at hl 2 rfl) ?_
  refine lv_bipush (v := 64) hx hb dX16_fork_275 (by decide) ?_
  refine lv_icmp_ge (tgt := 356) hx hb dX16_fork_277 (by decide) (fun c29 => ?_) (fun c29 => ?_)
  · have h := nd_pos h c29
    refine lv_iconst (v := 0) hx hb dX16_fork_356 (by decide) ?_
    refine lv_istore_n (lv' := [(2, .int 0), (0, .ref (a 0)), (1, .int x1)]) hx hb dX16_fork_357 rfl hl (by decide) rfl (fun ls hl => ?_)
    exact (db_X16_fork_358 C K n) (x1) (0) s0 _ _ _ h hP hD hS (lv_sub hl [1, 2, 0] rfl)
  · have h := nd_neg h c29
    refine lv_aload_n hx hb dX16_fork_280 rfl (lv_at hl 0 rfl) ?_
    refine va_get (D := (dC, dI)) (ci := 17) (v := .ref (a 18)) (C := RX16) (T := TX16) (N := 56) hx hb hts hi_dm_X16_fork_X16 hown hK hP 0 rfl rfl 26 (by decide) (hts (.fieldLink RX16 64 "TimeMachineModel$Machine" "frame" "[I") (List.mem_of_getElem? (i := 15) rfl)) (fun _ h9 => h9) rfl dX16_fork_281 ?_
    refine lv_bipush (v := 64) hx hb dX16_fork_284 (by decide) ?_
    refine lv_aload_n hx hb dX16_fork_286 rfl (lv_at hl 0 rfl) ?_
    refine va_get (D := (dC, dI)) (ci := 17) (v := .int (sI s0.1 12)) (C := RX16) (T := TX16) (N := 56) hx hb hts hi_dm_X16_fork_X16 hown hK hP 0 rfl rfl 51 (by decide) (hts (.fieldLink RX16 232 "TimeMachineModel$Machine" "p" "I") (List.mem_of_getElem? (i := 7) rfl)) (fun _ h9 => h9) rfl dX16_fork_287 ?_
    refine lv_imul hx hb dX16_fork_290 ?_
    refine lv_iload_n hx hb dX16_fork_291 rfl (lv_at hl 2 rfl) ?_
    refine lv_iadd hx hb dX16_fork_292 ?_
    obtain ⟨i35, h⟩ := nd_ck_e h
    refine va_iald (i := ((64 * (sI s0.1 12)) + x2)) hx hb hK hP 18 17 rfl rfl i35 dX16_fork_293 ?_
    refine lv_iconst (v := (-1)) hx hb dX16_fork_294 (by decide) ?_
    refine lv_icmp_ne (tgt := 301) hx hb dX16_fork_295 (by decide) (fun c36 => ?_) (fun c36 => ?_)
    · have h := nd_neg h c36
      refine lv_aload_n hx hb dX16_fork_301 rfl (lv_at hl 0 rfl) ?_
      refine lv_bipush (v := 64) hx hb dX16_fork_302 (by decide) ?_
      refine lv_iload_n hx hb dX16_fork_304 rfl (lv_at hl 1 rfl) ?_
      refine lv_imul hx hb dX16_fork_305 ?_
      refine lv_iload_n hx hb dX16_fork_306 rfl (lv_at hl 2 rfl) ?_
      refine lv_iadd hx hb dX16_fork_307 ?_
      refine lv_aload_n hx hb dX16_fork_308 rfl (lv_at hl 0 rfl) ?_
      refine va_get (D := (dC, dI)) (ci := 17) (v := .ref (a 18)) (C := RX16) (T := TX16) (N := 56) hx hb hts hi_dm_X16_fork_X16 hown hK hP 0 rfl rfl 26 (by decide) (hts (.fieldLink RX16 64 "TimeMachineModel$Machine" "frame" "[I") (List.mem_of_getElem? (i := 15) rfl)) (fun _ h9 => h9) rfl dX16_fork_309 ?_
      refine lv_bipush (v := 64) hx hb dX16_fork_312 (by decide) ?_
      refine lv_aload_n hx hb dX16_fork_314 rfl (lv_at hl 0 rfl) ?_
      refine va_get (D := (dC, dI)) (ci := 17) (v := .int (sI s0.1 12)) (C := RX16) (T := TX16) (N := 56) hx hb hts hi_dm_X16_fork_X16 hown hK hP 0 rfl rfl 51 (by decide) (hts (.fieldLink RX16 232 "TimeMachineModel$Machine" "p" "I") (List.mem_of_getElem? (i := 7) rfl)) (fun _ h9 => h9) rfl dX16_fork_315 ?_
      refine lv_imul hx hb dX16_fork_318 ?_
      refine lv_iload_n hx hb dX16_fork_319 rfl (lv_at hl 2 rfl) ?_
      refine lv_iadd hx hb dX16_fork_320 ?_
      obtain ⟨i37, h⟩ := nd_ck_e h
      refine va_iald (i := ((64 * (sI s0.1 12)) + x2)) hx hb hK hP 18 17 rfl rfl i37 dX16_fork_321 ?_
      obtain ⟨s39, hq, h⟩ := nd_b1_e h
      have hPc := hP
      have hDc := hD
      have hKc := hK
      have hFc := nd_rs hD hS hA
      refine nd_cVv (As := [.int ((64 * x1) + x2), .int (sR s0.1 16 (Int32.toNatClampNeg ((64 * (sI s0.1 12)) + x2)))]) (rest := []) (w' := dw_X16 a ac s39) ⟨hx, hb, hml, hown, hts⟩ (fun sz => dm_X16_stand l hlt dC dI a ac n (((64 * x1) + x2)) ((sR s0.1 16 (Int32.toNatClampNeg ((64 * (sI s0.1 12)) + x2)))) s0 hq sz) (cwV 2 hts gi_dm_X16_fork_1 rfl rfl rfl (by decide +kernel) ⟨Nat.le_of_ble_eq_true rfl, Nat.le_of_ble_eq_true rfl⟩) hPc hDc hKc hS hA hN (va_recv hKc hPc (ci := 17) (q0 := 0) rfl rfl) rfl hl.1 rfl (Nat.le_of_ble_eq_true rfl) dX16_fork_322 (fun H locs hP1 hD1 hk1 hS => ?_)
      have hP := hP1
      have hD := hD1.weaken (fun k q _ h => hFc q.1 h)
      refine lv_aload_n hx hb dX16_fork_325 rfl (lv_at hl 0 rfl) ?_
      refine va_get (D := (dC, dI)) (ci := 17) (v := .ref (a 19)) (C := RX16) (T := TX16) (N := 56) hx hb hts hi_dm_X16_fork_X16 hown hK hP 0 rfl rfl 27 (by decide) (hts (.fieldLink RX16 67 "TimeMachineModel$Machine" "rights" "[I") (List.mem_of_getElem? (i := 19) rfl)) (fun _ h9 => h9) rfl dX16_fork_326 ?_
      refine lv_bipush (v := 64) hx hb dX16_fork_329 (by decide) ?_
      refine lv_iload_n hx hb dX16_fork_331 rfl (lv_at hl 1 rfl) ?_
      refine lv_imul hx hb dX16_fork_332 ?_
      refine lv_iload_n hx hb dX16_fork_333 rfl (lv_at hl 2 rfl) ?_
      refine lv_iadd hx hb dX16_fork_334 ?_
      refine lv_aload_n hx hb dX16_fork_335 rfl (lv_at hl 0 rfl) ?_
      refine va_get (D := (dC, dI)) (ci := 17) (v := .ref (a 19)) (C := RX16) (T := TX16) (N := 56) hx hb hts hi_dm_X16_fork_X16 hown hK hP 0 rfl rfl 27 (by decide) (hts (.fieldLink RX16 67 "TimeMachineModel$Machine" "rights" "[I") (List.mem_of_getElem? (i := 19) rfl)) (fun _ h9 => h9) rfl dX16_fork_336 ?_
      refine lv_bipush (v := 64) hx hb dX16_fork_339 (by decide) ?_
      refine lv_aload_n hx hb dX16_fork_341 rfl (lv_at hl 0 rfl) ?_
      refine va_get (D := (dC, dI)) (ci := 17) (v := .int (sI s39.1 12)) (C := RX16) (T := TX16) (N := 56) hx hb hts hi_dm_X16_fork_X16 hown hK hP 0 rfl rfl 51 (by decide) (hts (.fieldLink RX16 232 "TimeMachineModel$Machine" "p" "I") (List.mem_of_getElem? (i := 7) rfl)) (fun _ h9 => h9) rfl dX16_fork_342 ?_
      refine lv_imul hx hb dX16_fork_345 ?_
      refine lv_iload_n hx hb dX16_fork_346 rfl (lv_at hl 2 rfl) ?_
      refine lv_iadd hx hb dX16_fork_347 ?_
      obtain ⟨i41, h⟩ := nd_ck_e h
      refine va_iald (i := ((64 * (sI s39.1 12)) + x2)) hx hb hK hP 19 18 rfl rfl i41 dX16_fork_348 ?_
      obtain ⟨i42, h⟩ := nd_ck_e h
      refine va_iast (i := ((64 * x1) + x2)) (x := (sR s39.1 17 (Int32.toNatClampNeg ((64 * (sI s39.1 12)) + x2)))) hx hb hK hP hD hS 19 18 rfl rfl i42 dX16_fork_349 (fun H locs hP hD hS => ?_)
      obtain ⟨s43, es43, h⟩ := nd_let_e h
      have hP : va_P (dC, dI) vwCl (dw_X16 a ac s43) H := by rw [es43]; exact hP
      have hD : va_D A (dw_X16 a ac s43) := by rw [es43]; exact hD
      exact (db_X16_fork_350 C K J274) (x1) (x2) s43 _ _ _ h hP hD hS (lv_sub hl [0, 1, 2] rfl)
    · have h := nd_pos h c36
      refine lv_goto (tgt := 350) hx hb dX16_fork_298 (by decide) ?_
      exact (db_X16_fork_350 C K J274) (x1) (x2) s0 _ _ _ h hP hD hS (lv_sub hl [0, 1, 2] rfl)
set_option maxHeartbeats 40000000 in
set_option maxRecDepth 100000 in
theorem db_X16_fork_274 {p : Program} {l : Launch} {e : Env} {s : State} {m : MethodId} {args : Array Value} {below : List Frame} {meth : Method} {c : Code} {Q : State → Prop} {A : Nat → Prop} {dC : Nat → ClassId} {dI : Nat → Nat → Nat} {a : Nat → Nat} {ac : Nat → ClassId} {n : Nat} {r : Int32 × (St × (St))} (C : nd_C p l s m args c A (dC, dI) cX16_fork 3 RX16 ow_dm_X16_fork (dk_X16 ac)) (K : nd_Ki p l e (headSpec ow_dm_X16_fork ({ frames := 1, cells := 0, slots := 0, locals := 22 })).room s m args below meth c Q A (dC, dI) cX16_fork .int (St × (St)) (dw_X16 a ac) r) (k : Nat) : dj_X16_fork_274 p l e s m args below meth c Q A dC dI a ac (df_X16_fork_274 n k) r := by
  induction k with
  | zero => intro x1 x2 s0 H locs ls h; exact nomatch (show (none : Option (Int32 × (St × (St)))) = some r from h)
  | succ k ih => exact dB_X16_fork_274 C K ih
set_option maxHeartbeats 40000000 in
set_option maxRecDepth 100000 in
theorem dB_X16_fork_210 {p : Program} {l : Launch} {e : Env} {s : State} {m : MethodId} {args : Array Value} {below : List Frame} {meth : Method} {c : Code} {Q : State → Prop} {A : Nat → Prop} {dC : Nat → ClassId} {dI : Nat → Nat → Nat} {a : Nat → Nat} {ac : Nat → ClassId} {n : Nat} {r : Int32 × (St × (St))} (C : nd_C p l s m args c A (dC, dI) cX16_fork 3 RX16 ow_dm_X16_fork (dk_X16 ac)) (K : nd_Ki p l e (headSpec ow_dm_X16_fork ({ frames := 1, cells := 0, slots := 0, locals := 22 })).room s m args below meth c Q A (dC, dI) cX16_fork .int (St × (St)) (dw_X16 a ac) r) {g210 : Int32 → Int32 → (St × (St)) → Option (Int32 × (St × (St)))} (J210 : dj_X16_fork_210 p l e s m args below meth c Q A dC dI a ac g210 r) : dj_X16_fork_210 p l e s m args below meth c Q A dC dI a ac (dF_X16_fork_210 n g210) r := by
  obtain ⟨hlt, hx, hb, hml, hown, hts, hN, hA, hK⟩ := id C
  intro x1 x2 s0 H locs ls h hP hD hS hl
  unfold dF_X16_fork_210 at h
  refine lv_iload_n hx hb dX16_fork_210 rfl (lv_at hl 2 rfl) ?_
  refine lv_bipush (v := 16) hx hb dX16_fork_211 (by decide) ?_
  refine lv_icmp_ge (tgt := 272) hx hb dX16_fork_213 (by decide) (fun c28 => ?_) (fun c28 => ?_)
  · have h := nd_pos h c28
    refine lv_iconst (v := 0) hx hb dX16_fork_272 (by decide) ?_
    refine lv_istore_n (lv' := [(2, .int 0), (0, .ref (a 0)), (1, .int x1)]) hx hb dX16_fork_273 rfl hl (by decide) rfl (fun ls hl => ?_)
    exact (db_X16_fork_274 C K n) (x1) (0) s0 _ _ _ h hP hD hS (lv_sub hl [1, 2, 0] rfl)
  · have h := nd_neg h c28
    refine lv_aload_n hx hb dX16_fork_216 rfl (lv_at hl 0 rfl) ?_
    refine va_get (D := (dC, dI)) (ci := 17) (v := .ref (a 15)) (C := RX16) (T := TX16) (N := 56) hx hb hts hi_dm_X16_fork_X16 hown hK hP 0 rfl rfl 23 (by decide) (hts (.fieldLink RX16 54 "TimeMachineModel$Machine" "handler" "[I") (List.mem_of_getElem? (i := 20) rfl)) (fun _ h9 => h9) rfl dX16_fork_217 ?_
    refine lv_bipush (v := 16) hx hb dX16_fork_220 (by decide) ?_
    refine lv_iload_n hx hb dX16_fork_222 rfl (lv_at hl 1 rfl) ?_
    refine lv_imul hx hb dX16_fork_223 ?_
    refine lv_iload_n hx hb dX16_fork_224 rfl (lv_at hl 2 rfl) ?_
    refine lv_iadd hx hb dX16_fork_225 ?_
    refine lv_aload_n hx hb dX16_fork_226 rfl (lv_at hl 0 rfl) ?_
    refine va_get (D := (dC, dI)) (ci := 17) (v := .ref (a 15)) (C := RX16) (T := TX16) (N := 56) hx hb hts hi_dm_X16_fork_X16 hown hK hP 0 rfl rfl 23 (by decide) (hts (.fieldLink RX16 54 "TimeMachineModel$Machine" "handler" "[I") (List.mem_of_getElem? (i := 20) rfl)) (fun _ h9 => h9) rfl dX16_fork_227 ?_
    refine lv_bipush (v := 16) hx hb dX16_fork_230 (by decide) ?_
    refine lv_aload_n hx hb dX16_fork_232 rfl (lv_at hl 0 rfl) ?_
    refine va_get (D := (dC, dI)) (ci := 17) (v := .int (sI s0.1 12)) (C := RX16) (T := TX16) (N := 56) hx hb hts hi_dm_X16_fork_X16 hown hK hP 0 rfl rfl 51 (by decide) (hts (.fieldLink RX16 232 "TimeMachineModel$Machine" "p" "I") (List.mem_of_getElem? (i := 7) rfl)) (fun _ h9 => h9) rfl dX16_fork_233 ?_
    refine lv_imul hx hb dX16_fork_236 ?_
    refine lv_iload_n hx hb dX16_fork_237 rfl (lv_at hl 2 rfl) ?_
    refine lv_iadd hx hb dX16_fork_238 ?_
    obtain ⟨i45, h⟩ := nd_ck_e h
    refine va_iald (i := ((16 * (sI s0.1 12)) + x2)) hx hb hK hP 15 14 rfl rfl i45 dX16_fork_239 ?_
    obtain ⟨i46, h⟩ := nd_ck_e h
    refine va_iast (i := ((16 * x1) + x2)) (x := (sR s0.1 13 (Int32.toNatClampNeg ((16 * (sI s0.1 12)) + x2)))) hx hb hK hP hD hS 15 14 rfl rfl i46 dX16_fork_240 (fun H locs hP hD hS => ?_)
    obtain ⟨s47, es47, h⟩ := nd_let_e h
    have hP : va_P (dC, dI) vwCl (dw_X16 a ac s47) H := by rw [es47]; exact hP
    have hD : va_D A (dw_X16 a ac s47) := by rw [es47]; exact hD
    refine lv_aload_n hx hb dX16_fork_241 rfl (lv_at hl 0 rfl) ?_
    refine va_get (D := (dC, dI)) (ci := 17) (v := .ref (a 16)) (C := RX16) (T := TX16) (N := 56) hx hb hts hi_dm_X16_fork_X16 hown hK hP 0 rfl rfl 24 (by decide) (hts (.fieldLink RX16 57 "TimeMachineModel$Machine" "descriptor" "[I") (List.mem_of_getElem? (i := 21) rfl)) (fun _ h9 => h9) rfl dX16_fork_242 ?_
    refine lv_bipush (v := 16) hx hb dX16_fork_245 (by decide) ?_
    refine lv_iload_n hx hb dX16_fork_247 rfl (lv_at hl 1 rfl) ?_
    refine lv_imul hx hb dX16_fork_248 ?_
    refine lv_iload_n hx hb dX16_fork_249 rfl (lv_at hl 2 rfl) ?_
    refine lv_iadd hx hb dX16_fork_250 ?_
    refine lv_aload_n hx hb dX16_fork_251 rfl (lv_at hl 0 rfl) ?_
    refine va_get (D := (dC, dI)) (ci := 17) (v := .ref (a 16)) (C := RX16) (T := TX16) (N := 56) hx hb hts hi_dm_X16_fork_X16 hown hK hP 0 rfl rfl 24 (by decide) (hts (.fieldLink RX16 57 "TimeMachineModel$Machine" "descriptor" "[I") (List.mem_of_getElem? (i := 21) rfl)) (fun _ h9 => h9) rfl dX16_fork_252 ?_
    refine lv_bipush (v := 16) hx hb dX16_fork_255 (by decide) ?_
    refine lv_aload_n hx hb dX16_fork_257 rfl (lv_at hl 0 rfl) ?_
    refine va_get (D := (dC, dI)) (ci := 17) (v := .int (sI s47.1 12)) (C := RX16) (T := TX16) (N := 56) hx hb hts hi_dm_X16_fork_X16 hown hK hP 0 rfl rfl 51 (by decide) (hts (.fieldLink RX16 232 "TimeMachineModel$Machine" "p" "I") (List.mem_of_getElem? (i := 7) rfl)) (fun _ h9 => h9) rfl dX16_fork_258 ?_
    refine lv_imul hx hb dX16_fork_261 ?_
    refine lv_iload_n hx hb dX16_fork_262 rfl (lv_at hl 2 rfl) ?_
    refine lv_iadd hx hb dX16_fork_263 ?_
    obtain ⟨i48, h⟩ := nd_ck_e h
    refine va_iald (i := ((16 * (sI s47.1 12)) + x2)) hx hb hK hP 16 15 rfl rfl i48 dX16_fork_264 ?_
    obtain ⟨i49, h⟩ := nd_ck_e h
    refine va_iast (i := ((16 * x1) + x2)) (x := (sR s47.1 14 (Int32.toNatClampNeg ((16 * (sI s47.1 12)) + x2)))) hx hb hK hP hD hS 16 15 rfl rfl i49 dX16_fork_265 (fun H locs hP hD hS => ?_)
    obtain ⟨s50, es50, h⟩ := nd_let_e h
    have hP : va_P (dC, dI) vwCl (dw_X16 a ac s50) H := by rw [es50]; exact hP
    have hD : va_D A (dw_X16 a ac s50) := by rw [es50]; exact hD
    obtain ⟨z51, ez51, h⟩ := nd_let_e h
    refine lv_iinc (v := z51) (lv' := [(2, .int z51), (0, .ref (a 0)), (1, .int x1)]) hx hb dX16_fork_266 hl (k := 2) rfl (by rw [ez51]) (by decide) rfl (fun ls hl => ?_)
    refine lv_goto (tgt := 210) hx hb dX16_fork_269 (by decide) ?_
    exact (J210) (x1) (z51) s50 _ _ _ h hP hD hS (lv_sub hl [1, 2, 0] rfl)
set_option maxHeartbeats 40000000 in
set_option maxRecDepth 100000 in
theorem db_X16_fork_210 {p : Program} {l : Launch} {e : Env} {s : State} {m : MethodId} {args : Array Value} {below : List Frame} {meth : Method} {c : Code} {Q : State → Prop} {A : Nat → Prop} {dC : Nat → ClassId} {dI : Nat → Nat → Nat} {a : Nat → Nat} {ac : Nat → ClassId} {n : Nat} {r : Int32 × (St × (St))} (C : nd_C p l s m args c A (dC, dI) cX16_fork 3 RX16 ow_dm_X16_fork (dk_X16 ac)) (K : nd_Ki p l e (headSpec ow_dm_X16_fork ({ frames := 1, cells := 0, slots := 0, locals := 22 })).room s m args below meth c Q A (dC, dI) cX16_fork .int (St × (St)) (dw_X16 a ac) r) (k : Nat) : dj_X16_fork_210 p l e s m args below meth c Q A dC dI a ac (df_X16_fork_210 n k) r := by
  induction k with
  | zero => intro x1 x2 s0 H locs ls h; exact nomatch (show (none : Option (Int32 × (St × (St)))) = some r from h)
  | succ k ih => exact dB_X16_fork_210 C K ih
set_option maxHeartbeats 40000000 in
set_option maxRecDepth 100000 in
theorem dB_X16_fork_56 {p : Program} {l : Launch} {e : Env} {s : State} {m : MethodId} {args : Array Value} {below : List Frame} {meth : Method} {c : Code} {Q : State → Prop} {A : Nat → Prop} {dC : Nat → ClassId} {dI : Nat → Nat → Nat} {a : Nat → Nat} {ac : Nat → ClassId} {n : Nat} {r : Int32 × (St × (St))} (C : nd_C p l s m args c A (dC, dI) cX16_fork 3 RX16 ow_dm_X16_fork (dk_X16 ac)) (K : nd_Ki p l e (headSpec ow_dm_X16_fork ({ frames := 1, cells := 0, slots := 0, locals := 22 })).room s m args below meth c Q A (dC, dI) cX16_fork .int (St × (St)) (dw_X16 a ac) r) {g56 : Int32 → Int32 → (St × (St)) → Option (Int32 × (St × (St)))} (J56 : dj_X16_fork_56 p l e s m args below meth c Q A dC dI a ac g56 r) : dj_X16_fork_56 p l e s m args below meth c Q A dC dI a ac (dF_X16_fork_56 n g56) r := by
  obtain ⟨hlt, hx, hb, hml, hown, hts, hN, hA, hK⟩ := id C
  intro x1 x2 s0 H locs ls h hP hD hS hl
  unfold dF_X16_fork_56 at h
  refine lv_iload_n hx hb dX16_fork_56 rfl (lv_at hl 2 rfl) ?_
  refine lv_bipush (v := 32) hx hb dX16_fork_57 (by decide) ?_
  refine lv_icmp_ge (tgt := 118) hx hb dX16_fork_59 (by decide) (fun c10 => ?_) (fun c10 => ?_)
  · have h := nd_pos h c10
    refine lv_aload_n hx hb dX16_fork_118 rfl (lv_at hl 0 rfl) ?_
    refine va_get (D := (dC, dI)) (ci := 17) (v := .ref (a 11)) (C := RX16) (T := TX16) (N := 56) hx hb hts hi_dm_X16_fork_X16 hown hK hP 0 rfl rfl 19 (by decide) (hts (.fieldLink RX16 42 "TimeMachineModel$Machine" "x" "[I") (List.mem_of_getElem? (i := 8) rfl)) (fun _ h9 => h9) rfl dX16_fork_119 ?_
    refine lv_bipush (v := 32) hx hb dX16_fork_122 (by decide) ?_
    refine lv_iload_n hx hb dX16_fork_124 rfl (lv_at hl 1 rfl) ?_
    refine lv_imul hx hb dX16_fork_125 ?_
    refine lv_bipush (v := 10) hx hb dX16_fork_126 (by decide) ?_
    refine lv_iadd hx hb dX16_fork_128 ?_
    refine lv_iconst (v := 0) hx hb dX16_fork_129 (by decide) ?_
    obtain ⟨i11, h⟩ := nd_ck_e h
    refine va_iast (i := ((32 * x1) + 10)) (x := 0) hx hb hK hP hD hS 11 10 rfl rfl i11 dX16_fork_130 (fun H locs hP hD hS => ?_)
    obtain ⟨s12, es12, h⟩ := nd_let_e h
    have hP : va_P (dC, dI) vwCl (dw_X16 a ac s12) H := by rw [es12]; exact hP
    have hD : va_D A (dw_X16 a ac s12) := by rw [es12]; exact hD
    refine lv_aload_n hx hb dX16_fork_131 rfl (lv_at hl 0 rfl) ?_
    refine va_get (D := (dC, dI)) (ci := 17) (v := .ref (a 12)) (C := RX16) (T := TX16) (N := 56) hx hb hts hi_dm_X16_fork_X16 hown hK hP 0 rfl rfl 20 (by decide) (hts (.fieldLink RX16 45 "TimeMachineModel$Machine" "place" "[I") (List.mem_of_getElem? (i := 9) rfl)) (fun _ h9 => h9) rfl dX16_fork_132 ?_
    refine lv_iload_n hx hb dX16_fork_135 rfl (lv_at hl 1 rfl) ?_
    refine lv_aload_n hx hb dX16_fork_136 rfl (lv_at hl 0 rfl) ?_
    refine va_get (D := (dC, dI)) (ci := 17) (v := .ref (a 12)) (C := RX16) (T := TX16) (N := 56) hx hb hts hi_dm_X16_fork_X16 hown hK hP 0 rfl rfl 20 (by decide) (hts (.fieldLink RX16 45 "TimeMachineModel$Machine" "place" "[I") (List.mem_of_getElem? (i := 9) rfl)) (fun _ h9 => h9) rfl dX16_fork_137 ?_
    refine lv_aload_n hx hb dX16_fork_140 rfl (lv_at hl 0 rfl) ?_
    refine va_get (D := (dC, dI)) (ci := 17) (v := .int (sI s12.1 12)) (C := RX16) (T := TX16) (N := 56) hx hb hts hi_dm_X16_fork_X16 hown hK hP 0 rfl rfl 51 (by decide) (hts (.fieldLink RX16 232 "TimeMachineModel$Machine" "p" "I") (List.mem_of_getElem? (i := 7) rfl)) (fun _ h9 => h9) rfl dX16_fork_141 ?_
    obtain ⟨i13, h⟩ := nd_ck_e h
    refine va_iald (i := (sI s12.1 12)) hx hb hK hP 12 11 rfl rfl i13 dX16_fork_144 ?_
    refine lv_iconst (v := 4) hx hb dX16_fork_145 (by decide) ?_
    refine lv_iadd hx hb dX16_fork_146 ?_
    obtain ⟨i14, h⟩ := nd_ck_e h
    refine va_iast (i := x1) (x := ((sR s12.1 10 (Int32.toNatClampNeg (sI s12.1 12))) + 4)) hx hb hK hP hD hS 12 11 rfl rfl i14 dX16_fork_147 (fun H locs hP hD hS => ?_)
    obtain ⟨s15, es15, h⟩ := nd_let_e h
    have hP : va_P (dC, dI) vwCl (dw_X16 a ac s15) H := by rw [es15]; exact hP
    have hD : va_D A (dw_X16 a ac s15) := by rw [es15]; exact hD
    refine lv_aload_n hx hb dX16_fork_148 rfl (lv_at hl 0 rfl) ?_
    refine va_get (D := (dC, dI)) (ci := 17) (v := .ref (a 14)) (C := RX16) (T := TX16) (N := 56) hx hb hts hi_dm_X16_fork_X16 hown hK hP 0 rfl rfl 22 (by decide) (hts (.fieldLink RX16 51 "TimeMachineModel$Machine" "savedPlace" "[I") (List.mem_of_getElem? (i := 10) rfl)) (fun _ h9 => h9) rfl dX16_fork_149 ?_
    refine lv_iload_n hx hb dX16_fork_152 rfl (lv_at hl 1 rfl) ?_
    refine lv_aload_n hx hb dX16_fork_153 rfl (lv_at hl 0 rfl) ?_
    refine va_get (D := (dC, dI)) (ci := 17) (v := .ref (a 14)) (C := RX16) (T := TX16) (N := 56) hx hb hts hi_dm_X16_fork_X16 hown hK hP 0 rfl rfl 22 (by decide) (hts (.fieldLink RX16 51 "TimeMachineModel$Machine" "savedPlace" "[I") (List.mem_of_getElem? (i := 10) rfl)) (fun _ h9 => h9) rfl dX16_fork_154 ?_
    refine lv_aload_n hx hb dX16_fork_157 rfl (lv_at hl 0 rfl) ?_
    refine va_get (D := (dC, dI)) (ci := 17) (v := .int (sI s15.1 12)) (C := RX16) (T := TX16) (N := 56) hx hb hts hi_dm_X16_fork_X16 hown hK hP 0 rfl rfl 51 (by decide) (hts (.fieldLink RX16 232 "TimeMachineModel$Machine" "p" "I") (List.mem_of_getElem? (i := 7) rfl)) (fun _ h9 => h9) rfl dX16_fork_158 ?_
    obtain ⟨i16, h⟩ := nd_ck_e h
    refine va_iald (i := (sI s15.1 12)) hx hb hK hP 14 13 rfl rfl i16 dX16_fork_161 ?_
    obtain ⟨i17, h⟩ := nd_ck_e h
    refine va_iast (i := x1) (x := (sR s15.1 12 (Int32.toNatClampNeg (sI s15.1 12)))) hx hb hK hP hD hS 14 13 rfl rfl i17 dX16_fork_162 (fun H locs hP hD hS => ?_)
    obtain ⟨s18, es18, h⟩ := nd_let_e h
    have hP : va_P (dC, dI) vwCl (dw_X16 a ac s18) H := by rw [es18]; exact hP
    have hD : va_D A (dw_X16 a ac s18) := by rw [es18]; exact hD
    refine lv_aload_n hx hb dX16_fork_163 rfl (lv_at hl 0 rfl) ?_
    refine va_get (D := (dC, dI)) (ci := 17) (v := .ref (a 9)) (C := RX16) (T := TX16) (N := 56) hx hb hts hi_dm_X16_fork_X16 hown hK hP 0 rfl rfl 17 (by decide) (hts (.fieldLink RX16 34 "TimeMachineModel$Machine" "within" "[Z") (List.mem_of_getElem? (i := 11) rfl)) (fun _ h9 => h9) rfl dX16_fork_164 ?_
    refine lv_iload_n hx hb dX16_fork_167 rfl (lv_at hl 1 rfl) ?_
    refine lv_aload_n hx hb dX16_fork_168 rfl (lv_at hl 0 rfl) ?_
    refine va_get (D := (dC, dI)) (ci := 17) (v := .ref (a 9)) (C := RX16) (T := TX16) (N := 56) hx hb hts hi_dm_X16_fork_X16 hown hK hP 0 rfl rfl 17 (by decide) (hts (.fieldLink RX16 34 "TimeMachineModel$Machine" "within" "[Z") (List.mem_of_getElem? (i := 11) rfl)) (fun _ h9 => h9) rfl dX16_fork_169 ?_
    refine lv_aload_n hx hb dX16_fork_172 rfl (lv_at hl 0 rfl) ?_
    refine va_get (D := (dC, dI)) (ci := 17) (v := .int (sI s18.1 12)) (C := RX16) (T := TX16) (N := 56) hx hb hts hi_dm_X16_fork_X16 hown hK hP 0 rfl rfl 51 (by decide) (hts (.fieldLink RX16 232 "TimeMachineModel$Machine" "p" "I") (List.mem_of_getElem? (i := 7) rfl)) (fun _ h9 => h9) rfl dX16_fork_173 ?_
    obtain ⟨i19, h⟩ := nd_ck_e h
    refine va_zald (i := (sI s18.1 12)) hx hb hK hP 9 8 rfl rfl i19 dX16_fork_176 ?_
    obtain ⟨i20, h⟩ := nd_ck_e h
    refine va_zast (i := x1) (x := (sR s18.1 8 (Int32.toNatClampNeg (sI s18.1 12)))) hx hb hK hP hD hS 9 8 rfl rfl i20 dX16_fork_177 (fun H locs hP hD hS => ?_)
    obtain ⟨s21, es21, h⟩ := nd_let_e h
    have hP : va_P (dC, dI) vwCl (dw_X16 a ac s21) H := by rw [es21]; exact hP
    have hD : va_D A (dw_X16 a ac s21) := by rw [es21]; exact hD
    refine lv_aload_n hx hb dX16_fork_178 rfl (lv_at hl 0 rfl) ?_
    refine va_get (D := (dC, dI)) (ci := 17) (v := .ref (a 6)) (C := RX16) (T := TX16) (N := 56) hx hb hts hi_dm_X16_fork_X16 hown hK hP 0 rfl rfl 14 (by decide) (hts (.fieldLink RX16 25 "TimeMachineModel$Machine" "heapBegin" "[I") (List.mem_of_getElem? (i := 12) rfl)) (fun _ h9 => h9) rfl dX16_fork_179 ?_
    refine lv_iload_n hx hb dX16_fork_182 rfl (lv_at hl 1 rfl) ?_
    refine lv_aload_n hx hb dX16_fork_183 rfl (lv_at hl 0 rfl) ?_
    refine va_get (D := (dC, dI)) (ci := 17) (v := .ref (a 6)) (C := RX16) (T := TX16) (N := 56) hx hb hts hi_dm_X16_fork_X16 hown hK hP 0 rfl rfl 14 (by decide) (hts (.fieldLink RX16 25 "TimeMachineModel$Machine" "heapBegin" "[I") (List.mem_of_getElem? (i := 12) rfl)) (fun _ h9 => h9) rfl dX16_fork_184 ?_
    refine lv_aload_n hx hb dX16_fork_187 rfl (lv_at hl 0 rfl) ?_
    refine va_get (D := (dC, dI)) (ci := 17) (v := .int (sI s21.1 12)) (C := RX16) (T := TX16) (N := 56) hx hb hts hi_dm_X16_fork_X16 hown hK hP 0 rfl rfl 51 (by decide) (hts (.fieldLink RX16 232 "TimeMachineModel$Machine" "p" "I") (List.mem_of_getElem? (i := 7) rfl)) (fun _ h9 => h9) rfl dX16_fork_188 ?_
    obtain ⟨i22, h⟩ := nd_ck_e h
    refine va_iald (i := (sI s21.1 12)) hx hb hK hP 6 5 rfl rfl i22 dX16_fork_191 ?_
    obtain ⟨i23, h⟩ := nd_ck_e h
    refine va_iast (i := x1) (x := (sR s21.1 5 (Int32.toNatClampNeg (sI s21.1 12)))) hx hb hK hP hD hS 6 5 rfl rfl i23 dX16_fork_192 (fun H locs hP hD hS => ?_)
    obtain ⟨s24, es24, h⟩ := nd_let_e h
    have hP : va_P (dC, dI) vwCl (dw_X16 a ac s24) H := by rw [es24]; exact hP
    have hD : va_D A (dw_X16 a ac s24) := by rw [es24]; exact hD
    refine lv_aload_n hx hb dX16_fork_193 rfl (lv_at hl 0 rfl) ?_
    refine va_get (D := (dC, dI)) (ci := 17) (v := .ref (a 7)) (C := RX16) (T := TX16) (N := 56) hx hb hts hi_dm_X16_fork_X16 hown hK hP 0 rfl rfl 15 (by decide) (hts (.fieldLink RX16 28 "TimeMachineModel$Machine" "heapEnd" "[I") (List.mem_of_getElem? (i := 13) rfl)) (fun _ h9 => h9) rfl dX16_fork_194 ?_
    refine lv_iload_n hx hb dX16_fork_197 rfl (lv_at hl 1 rfl) ?_
    refine lv_aload_n hx hb dX16_fork_198 rfl (lv_at hl 0 rfl) ?_
    refine va_get (D := (dC, dI)) (ci := 17) (v := .ref (a 7)) (C := RX16) (T := TX16) (N := 56) hx hb hts hi_dm_X16_fork_X16 hown hK hP 0 rfl rfl 15 (by decide) (hts (.fieldLink RX16 28 "TimeMachineModel$Machine" "heapEnd" "[I") (List.mem_of_getElem? (i := 13) rfl)) (fun _ h9 => h9) rfl dX16_fork_199 ?_
    refine lv_aload_n hx hb dX16_fork_202 rfl (lv_at hl 0 rfl) ?_
    refine va_get (D := (dC, dI)) (ci := 17) (v := .int (sI s24.1 12)) (C := RX16) (T := TX16) (N := 56) hx hb hts hi_dm_X16_fork_X16 hown hK hP 0 rfl rfl 51 (by decide) (hts (.fieldLink RX16 232 "TimeMachineModel$Machine" "p" "I") (List.mem_of_getElem? (i := 7) rfl)) (fun _ h9 => h9) rfl dX16_fork_203 ?_
    obtain ⟨i25, h⟩ := nd_ck_e h
    refine va_iald (i := (sI s24.1 12)) hx hb hK hP 7 6 rfl rfl i25 dX16_fork_206 ?_
    obtain ⟨i26, h⟩ := nd_ck_e h
    refine va_iast (i := x1) (x := (sR s24.1 6 (Int32.toNatClampNeg (sI s24.1 12)))) hx hb hK hP hD hS 7 6 rfl rfl i26 dX16_fork_207 (fun H locs hP hD hS => ?_)
    obtain ⟨s27, es27, h⟩ := nd_let_e h
    have hP : va_P (dC, dI) vwCl (dw_X16 a ac s27) H := by rw [es27]; exact hP
    have hD : va_D A (dw_X16 a ac s27) := by rw [es27]; exact hD
    refine lv_iconst (v := 0) hx hb dX16_fork_208 (by decide) ?_
    refine lv_istore_n (lv' := [(2, .int 0), (0, .ref (a 0)), (1, .int x1)]) hx hb dX16_fork_209 rfl hl (by decide) rfl (fun ls hl => ?_)
    exact (db_X16_fork_210 C K n) (x1) (0) s27 _ _ _ h hP hD hS (lv_sub hl [1, 2, 0] rfl)
  · have h := nd_neg h c10
    refine lv_aload_n hx hb dX16_fork_62 rfl (lv_at hl 0 rfl) ?_
    refine va_get (D := (dC, dI)) (ci := 17) (v := .ref (a 11)) (C := RX16) (T := TX16) (N := 56) hx hb hts hi_dm_X16_fork_X16 hown hK hP 0 rfl rfl 19 (by decide) (hts (.fieldLink RX16 42 "TimeMachineModel$Machine" "x" "[I") (List.mem_of_getElem? (i := 8) rfl)) (fun _ h9 => h9) rfl dX16_fork_63 ?_
    refine lv_bipush (v := 32) hx hb dX16_fork_66 (by decide) ?_
    refine lv_iload_n hx hb dX16_fork_68 rfl (lv_at hl 1 rfl) ?_
    refine lv_imul hx hb dX16_fork_69 ?_
    refine lv_iload_n hx hb dX16_fork_70 rfl (lv_at hl 2 rfl) ?_
    refine lv_iadd hx hb dX16_fork_71 ?_
    refine lv_aload_n hx hb dX16_fork_72 rfl (lv_at hl 0 rfl) ?_
    refine va_get (D := (dC, dI)) (ci := 17) (v := .ref (a 11)) (C := RX16) (T := TX16) (N := 56) hx hb hts hi_dm_X16_fork_X16 hown hK hP 0 rfl rfl 19 (by decide) (hts (.fieldLink RX16 42 "TimeMachineModel$Machine" "x" "[I") (List.mem_of_getElem? (i := 8) rfl)) (fun _ h9 => h9) rfl dX16_fork_73 ?_
    refine lv_bipush (v := 32) hx hb dX16_fork_76 (by decide) ?_
    refine lv_aload_n hx hb dX16_fork_78 rfl (lv_at hl 0 rfl) ?_
    refine va_get (D := (dC, dI)) (ci := 17) (v := .int (sI s0.1 12)) (C := RX16) (T := TX16) (N := 56) hx hb hts hi_dm_X16_fork_X16 hown hK hP 0 rfl rfl 51 (by decide) (hts (.fieldLink RX16 232 "TimeMachineModel$Machine" "p" "I") (List.mem_of_getElem? (i := 7) rfl)) (fun _ h9 => h9) rfl dX16_fork_79 ?_
    refine lv_imul hx hb dX16_fork_82 ?_
    refine lv_iload_n hx hb dX16_fork_83 rfl (lv_at hl 2 rfl) ?_
    refine lv_iadd hx hb dX16_fork_84 ?_
    obtain ⟨i52, h⟩ := nd_ck_e h
    refine va_iald (i := ((32 * (sI s0.1 12)) + x2)) hx hb hK hP 11 10 rfl rfl i52 dX16_fork_85 ?_
    obtain ⟨i53, h⟩ := nd_ck_e h
    refine va_iast (i := ((32 * x1) + x2)) (x := (sR s0.1 9 (Int32.toNatClampNeg ((32 * (sI s0.1 12)) + x2)))) hx hb hK hP hD hS 11 10 rfl rfl i53 dX16_fork_86 (fun H locs hP hD hS => ?_)
    obtain ⟨s54, es54, h⟩ := nd_let_e h
    have hP : va_P (dC, dI) vwCl (dw_X16 a ac s54) H := by rw [es54]; exact hP
    have hD : va_D A (dw_X16 a ac s54) := by rw [es54]; exact hD
    refine lv_aload_n hx hb dX16_fork_87 rfl (lv_at hl 0 rfl) ?_
    refine va_get (D := (dC, dI)) (ci := 17) (v := .ref (a 13)) (C := RX16) (T := TX16) (N := 56) hx hb hts hi_dm_X16_fork_X16 hown hK hP 0 rfl rfl 21 (by decide) (hts (.fieldLink RX16 48 "TimeMachineModel$Machine" "saved" "[I") (List.mem_of_getElem? (i := 22) rfl)) (fun _ h9 => h9) rfl dX16_fork_88 ?_
    refine lv_bipush (v := 32) hx hb dX16_fork_91 (by decide) ?_
    refine lv_iload_n hx hb dX16_fork_93 rfl (lv_at hl 1 rfl) ?_
    refine lv_imul hx hb dX16_fork_94 ?_
    refine lv_iload_n hx hb dX16_fork_95 rfl (lv_at hl 2 rfl) ?_
    refine lv_iadd hx hb dX16_fork_96 ?_
    refine lv_aload_n hx hb dX16_fork_97 rfl (lv_at hl 0 rfl) ?_
    refine va_get (D := (dC, dI)) (ci := 17) (v := .ref (a 13)) (C := RX16) (T := TX16) (N := 56) hx hb hts hi_dm_X16_fork_X16 hown hK hP 0 rfl rfl 21 (by decide) (hts (.fieldLink RX16 48 "TimeMachineModel$Machine" "saved" "[I") (List.mem_of_getElem? (i := 22) rfl)) (fun _ h9 => h9) rfl dX16_fork_98 ?_
    refine lv_bipush (v := 32) hx hb dX16_fork_101 (by decide) ?_
    refine lv_aload_n hx hb dX16_fork_103 rfl (lv_at hl 0 rfl) ?_
    refine va_get (D := (dC, dI)) (ci := 17) (v := .int (sI s54.1 12)) (C := RX16) (T := TX16) (N := 56) hx hb hts hi_dm_X16_fork_X16 hown hK hP 0 rfl rfl 51 (by decide) (hts (.fieldLink RX16 232 "TimeMachineModel$Machine" "p" "I") (List.mem_of_getElem? (i := 7) rfl)) (fun _ h9 => h9) rfl dX16_fork_104 ?_
    refine lv_imul hx hb dX16_fork_107 ?_
    refine lv_iload_n hx hb dX16_fork_108 rfl (lv_at hl 2 rfl) ?_
    refine lv_iadd hx hb dX16_fork_109 ?_
    obtain ⟨i55, h⟩ := nd_ck_e h
    refine va_iald (i := ((32 * (sI s54.1 12)) + x2)) hx hb hK hP 13 12 rfl rfl i55 dX16_fork_110 ?_
    obtain ⟨i56, h⟩ := nd_ck_e h
    refine va_iast (i := ((32 * x1) + x2)) (x := (sR s54.1 11 (Int32.toNatClampNeg ((32 * (sI s54.1 12)) + x2)))) hx hb hK hP hD hS 13 12 rfl rfl i56 dX16_fork_111 (fun H locs hP hD hS => ?_)
    obtain ⟨s57, es57, h⟩ := nd_let_e h
    have hP : va_P (dC, dI) vwCl (dw_X16 a ac s57) H := by rw [es57]; exact hP
    have hD : va_D A (dw_X16 a ac s57) := by rw [es57]; exact hD
    obtain ⟨z58, ez58, h⟩ := nd_let_e h
    refine lv_iinc (v := z58) (lv' := [(2, .int z58), (0, .ref (a 0)), (1, .int x1)]) hx hb dX16_fork_112 hl (k := 2) rfl (by rw [ez58]) (by decide) rfl (fun ls hl => ?_)
    refine lv_goto (tgt := 56) hx hb dX16_fork_115 (by decide) ?_
    exact (J56) (x1) (z58) s57 _ _ _ h hP hD hS (lv_sub hl [1, 2, 0] rfl)
set_option maxHeartbeats 40000000 in
set_option maxRecDepth 100000 in
theorem db_X16_fork_56 {p : Program} {l : Launch} {e : Env} {s : State} {m : MethodId} {args : Array Value} {below : List Frame} {meth : Method} {c : Code} {Q : State → Prop} {A : Nat → Prop} {dC : Nat → ClassId} {dI : Nat → Nat → Nat} {a : Nat → Nat} {ac : Nat → ClassId} {n : Nat} {r : Int32 × (St × (St))} (C : nd_C p l s m args c A (dC, dI) cX16_fork 3 RX16 ow_dm_X16_fork (dk_X16 ac)) (K : nd_Ki p l e (headSpec ow_dm_X16_fork ({ frames := 1, cells := 0, slots := 0, locals := 22 })).room s m args below meth c Q A (dC, dI) cX16_fork .int (St × (St)) (dw_X16 a ac) r) (k : Nat) : dj_X16_fork_56 p l e s m args below meth c Q A dC dI a ac (df_X16_fork_56 n k) r := by
  induction k with
  | zero => intro x1 x2 s0 H locs ls h; exact nomatch (show (none : Option (Int32 × (St × (St)))) = some r from h)
  | succ k ih => exact dB_X16_fork_56 C K ih
set_option maxHeartbeats 40000000 in
set_option maxRecDepth 100000 in
theorem db_X16_fork_23 {p : Program} {l : Launch} {e : Env} {s : State} {m : MethodId} {args : Array Value} {below : List Frame} {meth : Method} {c : Code} {Q : State → Prop} {A : Nat → Prop} {dC : Nat → ClassId} {dI : Nat → Nat → Nat} {a : Nat → Nat} {ac : Nat → ClassId} {n : Nat} {r : Int32 × (St × (St))} (C : nd_C p l s m args c A (dC, dI) cX16_fork 3 RX16 ow_dm_X16_fork (dk_X16 ac)) (K : nd_Ki p l e (headSpec ow_dm_X16_fork ({ frames := 1, cells := 0, slots := 0, locals := 22 })).room s m args below meth c Q A (dC, dI) cX16_fork .int (St × (St)) (dw_X16 a ac) r) : dj_X16_fork_23 p l e s m args below meth c Q A dC dI a ac (df_X16_fork_23 n) r := by
  obtain ⟨hlt, hx, hb, hml, hown, hts, hN, hA, hK⟩ := id C
  intro x1 s0 H locs ls h hP hD hS hl
  unfold df_X16_fork_23 at h
  refine lv_iload_n hx hb dX16_fork_23 rfl (lv_at hl 1 rfl) ?_
  refine lv_bipush (v := 16) hx hb dX16_fork_24 (by decide) ?_
  refine lv_icmp_ne (tgt := 32) hx hb dX16_fork_26 (by decide) (fun c2 => ?_) (fun c2 => ?_)
  · have h := nd_neg h c2
    refine lv_aload_n hx hb dX16_fork_32 rfl (lv_at hl 0 rfl) ?_
    refine lv_iload_n hx hb dX16_fork_33 rfl (lv_at hl 1 rfl) ?_
    obtain ⟨s4, hq, h⟩ := nd_b1_e h
    have hPc := hP
    have hDc := hD
    have hKc := hK
    have hFc := nd_rs hD hS hA
    refine nd_cVv (As := [.int x1]) (rest := []) (w' := dw_X16 a ac s4) ⟨hx, hb, hml, hown, hts⟩ (fun sz => dm_X16_begin l hlt dC dI a ac n (x1) s0 hq sz) (cwV 1 hts gi_dm_X16_fork_0 rfl rfl rfl (by decide +kernel) ⟨Nat.le_of_ble_eq_true rfl, Nat.le_of_ble_eq_true rfl⟩) hPc hDc hKc hS hA hN (va_recv hKc hPc (ci := 17) (q0 := 0) rfl rfl) rfl hl.1 rfl (Nat.le_of_ble_eq_true rfl) dX16_fork_34 (fun H locs hP1 hD1 hk1 hS => ?_)
    have hP := hP1
    have hD := hD1.weaken (fun k q _ h => hFc q.1 h)
    refine lv_aload_n hx hb dX16_fork_37 rfl (lv_at hl 0 rfl) ?_
    refine va_get (D := (dC, dI)) (ci := 17) (v := .ref (a 2)) (C := RX16) (T := TX16) (N := 56) hx hb hts hi_dm_X16_fork_X16 hown hK hP 0 rfl rfl 10 (by decide) (hts (.fieldLink RX16 13 "TimeMachineModel$Machine" "state" "[I") (List.mem_of_getElem? (i := 5) rfl)) (fun _ h9 => h9) rfl dX16_fork_38 ?_
    refine lv_iload_n hx hb dX16_fork_41 rfl (lv_at hl 1 rfl) ?_
    refine lv_iconst (v := 1) hx hb dX16_fork_42 (by decide) ?_
    obtain ⟨i6, h⟩ := nd_ck_e h
    refine va_iast (i := x1) (x := 1) hx hb hK hP hD hS 2 1 rfl rfl i6 dX16_fork_43 (fun H locs hP hD hS => ?_)
    obtain ⟨s7, es7, h⟩ := nd_let_e h
    have hP : va_P (dC, dI) vwCl (dw_X16 a ac s7) H := by rw [es7]; exact hP
    have hD : va_D A (dw_X16 a ac s7) := by rw [es7]; exact hD
    refine lv_aload_n hx hb dX16_fork_44 rfl (lv_at hl 0 rfl) ?_
    refine va_get (D := (dC, dI)) (ci := 17) (v := .ref (a 3)) (C := RX16) (T := TX16) (N := 56) hx hb hts hi_dm_X16_fork_X16 hown hK hP 0 rfl rfl 11 (by decide) (hts (.fieldLink RX16 16 "TimeMachineModel$Machine" "parent" "[I") (List.mem_of_getElem? (i := 6) rfl)) (fun _ h9 => h9) rfl dX16_fork_45 ?_
    refine lv_iload_n hx hb dX16_fork_48 rfl (lv_at hl 1 rfl) ?_
    refine lv_aload_n hx hb dX16_fork_49 rfl (lv_at hl 0 rfl) ?_
    refine va_get (D := (dC, dI)) (ci := 17) (v := .int (sI s7.1 12)) (C := RX16) (T := TX16) (N := 56) hx hb hts hi_dm_X16_fork_X16 hown hK hP 0 rfl rfl 51 (by decide) (hts (.fieldLink RX16 232 "TimeMachineModel$Machine" "p" "I") (List.mem_of_getElem? (i := 7) rfl)) (fun _ h9 => h9) rfl dX16_fork_50 ?_
    obtain ⟨i8, h⟩ := nd_ck_e h
    refine va_iast (i := x1) (x := (sI s7.1 12)) hx hb hK hP hD hS 3 2 rfl rfl i8 dX16_fork_53 (fun H locs hP hD hS => ?_)
    obtain ⟨s9, es9, h⟩ := nd_let_e h
    have hP : va_P (dC, dI) vwCl (dw_X16 a ac s9) H := by rw [es9]; exact hP
    have hD : va_D A (dw_X16 a ac s9) := by rw [es9]; exact hD
    refine lv_iconst (v := 0) hx hb dX16_fork_54 (by decide) ?_
    refine lv_istore_n (lv' := [(2, .int 0), (0, .ref (a 0)), (1, .int x1)]) hx hb dX16_fork_55 rfl hl (by decide) rfl (fun ls hl => ?_)
    exact (db_X16_fork_56 C K n) (x1) (0) s9 _ _ _ h hP hD hS (lv_sub hl [1, 2, 0] rfl)
  · have h := nd_pos h c2
    refine lv_bipush (v := (-4)) hx hb dX16_fork_29 (by decide) ?_
    exact K _ _ _ _ _ _ dX16_fork_31 rfl (Option.some.inj h).symm hP hD hS
