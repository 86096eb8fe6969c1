set_option maxHeartbeats 40000000 in
set_option maxRecDepth 100000 in
theorem db_X16_carry_0 {p : Program} {l : Launch} {e : Env} {s : State} {m : MethodId} {args : Array Value} {below : List Frame} {meth : Method} {c : Code} {Q : State → Prop} {A : Nat → Prop} {dC : Nat → ClassId} {dI : Nat → Nat → Nat} {a : Nat → Nat} {ac : Nat → ClassId} {n : Nat} {r : St × (St)} (C : nd_C p l s m args c A (dC, dI) cX16_carry 8 RX16 ow_dm_X16_carry (dk_X16 ac)) (K : nd_Kv p l e (headSpec ow_dm_X16_carry ({ frames := 5, cells := 0, slots := 0, locals := 112 })).room s m args below meth c Q A (dC, dI) cX16_carry (St × (St)) (dw_X16 a ac) r) : dj_X16_carry_0 p l e s m args below meth c Q A dC dI a ac (df_X16_carry_0 n) r := by
  obtain ⟨hlt, hx, hb, hml, hown, hts, hN, hA, hK⟩ := id C
  intro v0 s0 H locs ls h hP hD hS hl
  unfold df_X16_carry_0 at h
  refine lv_iload_n hx hb dX16_carry_0 rfl (lv_at hl 1 rfl) ?_
  refine lv_bipush (v := 7) hx hb dX16_carry_1 (by decide) ?_
  refine lv_iconst (v := 5) hx hb dX16_carry_3 (by decide) ?_
  obtain ⟨q1, s2, hq, h⟩ := nd_b2_e h
  have hPc : va_P (dC, dI) vwCl (dw_P a ac ()) H := nd_p0
  have hDc : va_D A (dw_P a ac ()) := nd_d0
  have hKc : va_K (dC, dI) vwCl (dk_P ac) s := nd_y0 hK
  have hFc : ∀ q, va_A (dw_P a ac ()) H.size q → A q := nd_r0 hS hA
  refine nd_cSi (As := [.int v0, .int 7, .int 5]) (rest := []) (q := q1) (w' := dw_P a ac s2) ⟨hx, hb, hml, hown, hts⟩ (fun sz => dm_X16_part l hlt dC dI a ac n (v0) (7) (5) () hq sz) (cwS 3 hts gi_dm_X16_carry_0 rfl rfl rfl (by decide +kernel) ⟨Nat.le_of_ble_eq_true rfl, Nat.le_of_ble_eq_true rfl⟩) hPc hDc hKc hS hA hN rfl hl.1 rfl (Nat.le_of_ble_eq_true rfl) dX16_carry_4 (fun H locs hP1 hD1 hk1 hS => ?_)
  have hP := nd_n0 hP hk1
  refine lv_istore_n (lv' := [(2, .int q1), (0, .ref (a 0)), (1, .int v0)]) hx hb dX16_carry_7 rfl hl (by decide) rfl (fun ls hl => ?_)
  refine lv_iload_n hx hb dX16_carry_8 rfl (lv_at hl 2 rfl) ?_
  refine lv_bipush (v := 12) hx hb dX16_carry_9 (by decide) ?_
  refine lv_iconst (v := 3) hx hb dX16_carry_11 (by decide) ?_
  obtain ⟨q4, s5, hq, h⟩ := nd_b2_e h
  have hPc : va_P (dC, dI) vwCl (dw_P a ac ()) H := nd_p0
  have hDc : va_D A (dw_P a ac ()) := nd_d0
  have hKc : va_K (dC, dI) vwCl (dk_P ac) s := nd_y0 hK
  have hFc : ∀ q, va_A (dw_P a ac ()) H.size q → A q := nd_r0 hS hA
  refine nd_cSi (As := [.int v0, .int 12, .int 3]) (rest := []) (q := q4) (w' := dw_P a ac s5) ⟨hx, hb, hml, hown, hts⟩ (fun sz => dm_X16_part l hlt dC dI a ac n (v0) (12) (3) () hq sz) (cwS 3 hts gi_dm_X16_carry_0 rfl rfl rfl (by decide +kernel) ⟨Nat.le_of_ble_eq_true rfl, Nat.le_of_ble_eq_true rfl⟩) hPc hDc hKc hS hA hN rfl hl.1 rfl (Nat.le_of_ble_eq_true rfl) dX16_carry_12 (fun H locs hP1 hD1 hk1 hS => ?_)
  have hP := nd_n0 hP hk1
  refine lv_istore_n (lv' := [(3, .int q4), (2, .int q1), (0, .ref (a 0)), (1, .int v0)]) hx hb dX16_carry_15 rfl hl (by decide) rfl (fun ls hl => ?_)
  refine lv_aload_n hx hb dX16_carry_16 rfl (lv_at hl 2 rfl) ?_
  refine va_get (D := (dC, dI)) (ci := 17) (v := .ref (a 11)) (C := RX16) (T := TX16) (N := 56) hx hb hts hi_dm_X16_carry_X16 hown hK hP 0 rfl rfl 19 (by decide) (hts (.fieldLink RX16 42 "TimeMachineModel$Machine" "x" "[I") (List.mem_of_getElem? (i := 4) rfl)) (fun _ h9 => h9) rfl dX16_carry_17 ?_
  refine lv_bipush (v := 32) hx hb dX16_carry_20 (by decide) ?_
  refine lv_aload_n hx hb dX16_carry_22 rfl (lv_at hl 2 rfl) ?_
  refine va_get (D := (dC, dI)) (ci := 17) (v := .int (sI s0.1 12)) (C := RX16) (T := TX16) (N := 56) hx hb hts hi_dm_X16_carry_X16 hown hK hP 0 rfl rfl 51 (by decide) (hts (.fieldLink RX16 232 "TimeMachineModel$Machine" "p" "I") (List.mem_of_getElem? (i := 5) rfl)) (fun _ h9 => h9) rfl dX16_carry_23 ?_
  refine lv_imul hx hb dX16_carry_26 ?_
  refine lv_iload_n hx hb dX16_carry_27 rfl (lv_at hl 3 rfl) ?_
  refine lv_bipush (v := 15) hx hb dX16_carry_28 (by decide) ?_
  refine lv_iconst (v := 5) hx hb dX16_carry_30 (by decide) ?_
  obtain ⟨q7, s8, hq, h⟩ := nd_b2_e h
  have hPc : va_P (dC, dI) vwCl (dw_P a ac ()) H := nd_p0
  have hDc : va_D A (dw_P a ac ()) := nd_d0
  have hKc : va_K (dC, dI) vwCl (dk_P ac) s := nd_y0 hK
  have hFc : ∀ q, va_A (dw_P a ac ()) H.size q → A q := nd_r0 hS hA
  refine nd_cSi (As := [.int v0, .int 15, .int 5]) (rest := [.int (32 * (sI s0.1 12)), .ref (a 11)]) (q := q7) (w' := dw_P a ac s8) ⟨hx, hb, hml, hown, hts⟩ (fun sz => dm_X16_part l hlt dC dI a ac n (v0) (15) (5) () hq sz) (cwS 3 hts gi_dm_X16_carry_0 rfl rfl rfl (by decide +kernel) ⟨Nat.le_of_ble_eq_true rfl, Nat.le_of_ble_eq_true rfl⟩) hPc hDc hKc hS hA hN rfl hl.1 rfl (Nat.le_of_ble_eq_true rfl) dX16_carry_31 (fun H locs hP1 hD1 hk1 hS => ?_)
  have hP := nd_n0 hP hk1
  refine lv_iadd hx hb dX16_carry_34 ?_
  obtain ⟨i10, h⟩ := nd_ck_e h
  refine va_iald (i := ((32 * (sI s0.1 12)) + q7)) hx hb hK hP 11 10 rfl rfl i10 dX16_carry_35 ?_
  refine lv_topi (fun z11 ez11 => ?_)
  have h := nd_at h ez11
  refine lv_istore (lv' := [(4, .int z11), (3, .int q4), (2, .int q1), (0, .ref (a 0)), (1, .int v0)]) hx hb dX16_carry_36 hl (by decide) rfl (fun ls hl => ?_)
  refine lv_aload_n hx hb dX16_carry_38 rfl (lv_at hl 3 rfl) ?_
  refine va_get (D := (dC, dI)) (ci := 17) (v := .ref (a 11)) (C := RX16) (T := TX16) (N := 56) hx hb hts hi_dm_X16_carry_X16 hown hK hP 0 rfl rfl 19 (by decide) (hts (.fieldLink RX16 42 "TimeMachineModel$Machine" "x" "[I") (List.mem_of_getElem? (i := 4) rfl)) (fun _ h9 => h9) rfl dX16_carry_39 ?_
  refine lv_bipush (v := 32) hx hb dX16_carry_42 (by decide) ?_
  refine lv_aload_n hx hb dX16_carry_44 rfl (lv_at hl 3 rfl) ?_
  refine va_get (D := (dC, dI)) (ci := 17) (v := .int (sI s0.1 12)) (C := RX16) (T := TX16) (N := 56) hx hb hts hi_dm_X16_carry_X16 hown hK hP 0 rfl rfl 51 (by decide) (hts (.fieldLink RX16 232 "TimeMachineModel$Machine" "p" "I") (List.mem_of_getElem? (i := 5) rfl)) (fun _ h9 => h9) rfl dX16_carry_45 ?_
  refine lv_imul hx hb dX16_carry_48 ?_
  refine lv_iload_n hx hb dX16_carry_49 rfl (lv_at hl 4 rfl) ?_
  refine lv_bipush (v := 20) hx hb dX16_carry_50 (by decide) ?_
  refine lv_iconst (v := 5) hx hb dX16_carry_52 (by decide) ?_
  obtain ⟨q12, s13, hq, h⟩ := nd_b2_e h
  have hPc : va_P (dC, dI) vwCl (dw_P a ac ()) H := nd_p0
  have hDc : va_D A (dw_P a ac ()) := nd_d0
  have hKc : va_K (dC, dI) vwCl (dk_P ac) s := nd_y0 hK
  have hFc : ∀ q, va_A (dw_P a ac ()) H.size q → A q := nd_r0 hS hA
  refine nd_cSi (As := [.int v0, .int 20, .int 5]) (rest := [.int (32 * (sI s0.1 12)), .ref (a 11)]) (q := q12) (w' := dw_P a ac s13) ⟨hx, hb, hml, hown, hts⟩ (fun sz => dm_X16_part l hlt dC dI a ac n (v0) (20) (5) () hq sz) (cwS 3 hts gi_dm_X16_carry_0 rfl rfl rfl (by decide +kernel) ⟨Nat.le_of_ble_eq_true rfl, Nat.le_of_ble_eq_true rfl⟩) hPc hDc hKc hS hA hN rfl hl.1 rfl (Nat.le_of_ble_eq_true rfl) dX16_carry_53 (fun H locs hP1 hD1 hk1 hS => ?_)
  have hP := nd_n0 hP hk1
  refine lv_iadd hx hb dX16_carry_56 ?_
  obtain ⟨i15, h⟩ := nd_ck_e h
  refine va_iald (i := ((32 * (sI s0.1 12)) + q12)) hx hb hK hP 11 10 rfl rfl i15 dX16_carry_57 ?_
  refine lv_topi (fun z16 ez16 => ?_)
  have h := nd_at h ez16
  refine lv_istore (lv' := [(5, .int z16), (4, .int z11), (3, .int q4), (2, .int q1), (0, .ref (a 0)), (1, .int v0)]) hx hb dX16_carry_58 hl (by decide) rfl (fun ls hl => ?_)
  refine lv_iload_n hx hb dX16_carry_60 rfl (lv_at hl 5 rfl) ?_
  refine lv_bipush (v := 25) hx hb dX16_carry_61 (by decide) ?_
  refine lv_bipush (v := 7) hx hb dX16_carry_63 (by decide) ?_
  obtain ⟨q17, s18, hq, h⟩ := nd_b2_e h
  have hPc : va_P (dC, dI) vwCl (dw_P a ac ()) H := nd_p0
  have hDc : va_D A (dw_P a ac ()) := nd_d0
  have hKc : va_K (dC, dI) vwCl (dk_P ac) s := nd_y0 hK
  have hFc : ∀ q, va_A (dw_P a ac ()) H.size q → A q := nd_r0 hS hA
  refine nd_cSi (As := [.int v0, .int 25, .int 7]) (rest := []) (q := q17) (w' := dw_P a ac s18) ⟨hx, hb, hml, hown, hts⟩ (fun sz => dm_X16_part l hlt dC dI a ac n (v0) (25) (7) () hq sz) (cwS 3 hts gi_dm_X16_carry_0 rfl rfl rfl (by decide +kernel) ⟨Nat.le_of_ble_eq_true rfl, Nat.le_of_ble_eq_true rfl⟩) hPc hDc hKc hS hA hN rfl hl.1 rfl (Nat.le_of_ble_eq_true rfl) dX16_carry_65 (fun H locs hP1 hD1 hk1 hS => ?_)
  have hP := nd_n0 hP hk1
  refine lv_istore (lv' := [(6, .int q17), (5, .int z16), (4, .int z11), (3, .int q4), (2, .int q1), (0, .ref (a 0)), (1, .int v0)]) hx hb dX16_carry_68 hl (by decide) rfl (fun ls hl => ?_)
  refine lv_iload_n hx hb dX16_carry_70 rfl (lv_at hl 6 rfl) ?_
  refine lv_bipush (v := 20) hx hb dX16_carry_71 (by decide) ?_
  refine lv_ishr hx hb dX16_carry_73 ?_
  refine lv_topi (fun z20 ez20 => ?_)
  have h := nd_at h ez20
  refine lv_istore (lv' := [(7, .int z20), (6, .int q17), (5, .int z16), (4, .int z11), (3, .int q4), (2, .int q1), (0, .ref (a 0)), (1, .int v0)]) hx hb dX16_carry_74 hl (by decide) rfl (fun ls hl => ?_)
  refine lv_iload_n hx hb dX16_carry_76 rfl (lv_at hl 7 rfl) ?_
  refine lv_iconst (v := 0) hx hb dX16_carry_77 (by decide) ?_
  refine lv_bipush (v := 7) hx hb dX16_carry_78 (by decide) ?_
  obtain ⟨q21, s22, hq, h⟩ := nd_b2_e h
  have hPc : va_P (dC, dI) vwCl (dw_P a ac ()) H := nd_p0
  have hDc : va_D A (dw_P a ac ()) := nd_d0
  have hKc : va_K (dC, dI) vwCl (dk_P ac) s := nd_y0 hK
  have hFc : ∀ q, va_A (dw_P a ac ()) H.size q → A q := nd_r0 hS hA
  refine nd_cSi (As := [.int v0, .int 0, .int 7]) (rest := []) (q := q21) (w' := dw_P a ac s22) ⟨hx, hb, hml, hown, hts⟩ (fun sz => dm_X16_part l hlt dC dI a ac n (v0) (0) (7) () hq sz) (cwS 3 hts gi_dm_X16_carry_0 rfl rfl rfl (by decide +kernel) ⟨Nat.le_of_ble_eq_true rfl, Nat.le_of_ble_eq_true rfl⟩) hPc hDc hKc hS hA hN rfl hl.1 rfl (Nat.le_of_ble_eq_true rfl) dX16_carry_80 (fun H locs hP1 hD1 hk1 hS => ?_)
  have hP := nd_n0 hP hk1
  by_cases c24 : q21 = 3
  · have h := nd_pos h c24
    refine lv_lookup (off := 258) (tgt := 341) hx hb dX16_carry_83 (by decide) (by rw [c24]; decide) (by decide) ?_
    refine lv_aload_n hx hb dX16_carry_341 rfl (lv_at hl 6 rfl) ?_
    refine lv_iload_n hx hb dX16_carry_342 rfl (lv_at hl 5 rfl) ?_
    refine lv_aload_n hx hb dX16_carry_343 rfl (lv_at hl 6 rfl) ?_
    refine lv_iload_n hx hb dX16_carry_344 rfl (lv_at hl 4 rfl) ?_
    refine lv_iload hx hb dX16_carry_345 (lv_at hl 3 rfl) ?_
    refine lv_iload hx hb dX16_carry_347 (lv_at hl 0 rfl) ?_
    refine lv_iadd hx hb dX16_carry_349 ?_
    obtain ⟨q25, s26, hq, h⟩ := nd_b2_e h
    have hPc := hP
    have hDc := hD
    have hKc := hK
    have hFc := nd_rs hD hS hA
    refine nd_cVi (As := [.int q4, .int (z11 + z20)]) (rest := [.int q1, .ref (a 0)]) (q := q25) (w' := dw_X16 a ac s26) ⟨hx, hb, hml, hown, hts⟩ (fun sz => dm_X16_loaded l hlt dC dI a ac n (q4) ((z11 + z20)) s0 hq sz) (cwV 2 hts gi_dm_X16_carry_1 rfl rfl rfl (by decide +kernel) ⟨Nat.le_of_ble_eq_true rfl, Nat.le_of_ble_eq_true rfl⟩) hPc hDc hKc hS hA hN (va_recv hKc hPc (ci := 17) (q0 := 0) rfl rfl) rfl hl.1 rfl (Nat.le_of_ble_eq_true rfl) dX16_carry_350 (fun H locs hP1 hD1 hk1 hS => ?_)
    have hP := hP1
    have hD := hD1.weaken (fun k q _ h => hFc q.1 h)
    obtain ⟨s29, hq, h⟩ := nd_b1_e h
    have hPc := hP
    have hDc := hD
    have hKc := hK
    have hFc := nd_rs hD hS hA
    refine nd_cVv (As := [.int q1, .int q25]) (rest := []) (w' := dw_X16 a ac s29) ⟨hx, hb, hml, hown, hts⟩ (fun sz => dm_X16_become l hlt dC dI a ac n (q1) (q25) s26 hq sz) (cwV 2 hts gi_dm_X16_carry_2 rfl rfl rfl (by decide +kernel) ⟨Nat.le_of_ble_eq_true rfl, Nat.le_of_ble_eq_true rfl⟩) hPc hDc hKc hS hA hN (va_recv hKc hPc (ci := 17) (q0 := 0) rfl rfl) rfl hl.1 rfl (Nat.le_of_ble_eq_true rfl) dX16_carry_353 (fun H locs hP1 hD1 hk1 hS => ?_)
    have hP := hP1
    have hD := hD1.weaken (fun k q _ h => hFc q.1 h)
    refine lv_goto (tgt := 562) hx hb dX16_carry_356 (by decide) ?_
    exact (db_X16_carry_562 C K)  s29 _ _ _ h hP hD hS (lv_sub hl [] rfl)
  have h := nd_neg h c24
  by_cases c31 : q21 = 15
  · have h := nd_pos h c31
    refine lv_lookup (off := 447) (tgt := 530) hx hb dX16_carry_83 (by decide) (by rw [c31]; decide) (by decide) ?_
    refine lv_iload_n hx hb dX16_carry_530 rfl (lv_at hl 4 rfl) ?_
    refine lv_iconst (v := 1) hx hb dX16_carry_531 (by decide) ?_
    refine lv_icmp_le (tgt := 562) hx hb dX16_carry_532 (by decide) (fun c32 => ?_) (fun c32 => ?_)
    · have h := nd_pos h c32
      exact (db_X16_carry_562 C K)  s0 _ _ _ h hP hD hS (lv_sub hl [] rfl)
    · have h := nd_neg h c32
      refine lv_aload_n hx hb dX16_carry_535 rfl (lv_at hl 6 rfl) ?_
      obtain ⟨q33, s34, hq, h⟩ := nd_b2_e h
      have hPc := hP
      have hDc := hD
      have hKc := hK
      have hFc := nd_rs hD hS hA
      refine nd_cVi (As := []) (rest := []) (q := q33) (w' := dw_X16 a ac s34) ⟨hx, hb, hml, hown, hts⟩ (fun sz => dm_X16_illegal l hlt dC dI a ac n  s0 hq sz) (cwV 0 hts gi_dm_X16_carry_3 rfl rfl rfl (by decide +kernel) ⟨Nat.le_of_ble_eq_true rfl, Nat.le_of_ble_eq_true rfl⟩) hPc hDc hKc hS hA hN (va_recv hKc hPc (ci := 17) (q0 := 0) rfl rfl) rfl hl.1 rfl (Nat.le_of_ble_eq_true rfl) dX16_carry_536 (fun H locs hP1 hD1 hk1 hS => ?_)
      have hP := hP1
      have hD := hD1.weaken (fun k q _ h => hFc q.1 h)
      refine lv_pop hx hb dX16_carry_539 rfl ?_
      refine lv_goto (tgt := 562) hx hb dX16_carry_540 (by decide) ?_
      exact (db_X16_carry_562 C K)  s34 _ _ _ h hP hD hS (lv_sub hl [] rfl)
  have h := nd_neg h c31
  by_cases c36 : q21 = 19
  · have h := nd_pos h c36
    refine lv_lookup (off := 296) (tgt := 379) hx hb dX16_carry_83 (by decide) (by rw [c36]; decide) (by decide) ?_
    refine lv_aload_n hx hb dX16_carry_379 rfl (lv_at hl 6 rfl) ?_
    refine lv_iload_n hx hb dX16_carry_380 rfl (lv_at hl 5 rfl) ?_
    refine lv_iload_n hx hb dX16_carry_381 rfl (lv_at hl 4 rfl) ?_
    refine lv_iconst (v := 1) hx hb dX16_carry_382 (by decide) ?_
    refine lv_icmp_eq (tgt := 391) hx hb dX16_carry_383 (by decide) (fun c37 => ?_) (fun c37 => ?_)
    · have h := nd_pos h c37
      exact (db_X16_carry_391 C K) (v0) (q4) (z11) (q17) (q1) s0 _ _ _ h hP hD hS (lv_sub hl [6, 7, 4, 3, 1] rfl)
    · have h := nd_neg h c37
      refine lv_iload_n hx hb dX16_carry_386 rfl (lv_at hl 4 rfl) ?_
      refine lv_iconst (v := 5) hx hb dX16_carry_387 (by decide) ?_
      refine lv_icmp_ne (tgt := 410) hx hb dX16_carry_388 (by decide) (fun c47 => ?_) (fun c47 => ?_)
      · have h := nd_neg h c47
        refine lv_iload_n hx hb dX16_carry_410 rfl (lv_at hl 4 rfl) ?_
        refine lv_iload hx hb dX16_carry_411 (lv_at hl 3 rfl) ?_
        refine lv_iload hx hb dX16_carry_413 (lv_at hl 0 rfl) ?_
        obtain ⟨q48, s49, hq, h⟩ := nd_b2_e h
        have hPc : va_P (dC, dI) vwCl (dw_P a ac ()) H := nd_p0
        have hDc : va_D A (dw_P a ac ()) := nd_d0
        have hKc : va_K (dC, dI) vwCl (dk_P ac) s := nd_y0 hK
        have hFc : ∀ q, va_A (dw_P a ac ()) H.size q → A q := nd_r0 hS hA
        refine nd_cSi (As := [.int q4, .int z11, .int z20]) (rest := [.int q1, .ref (a 0)]) (q := q48) (w' := dw_P a ac s49) ⟨hx, hb, hml, hown, hts⟩ (fun sz => dm_X16_reckoned l hlt dC dI a ac n (q4) (z11) (z20) () hq sz) (cwS 3 hts gi_dm_X16_carry_5 rfl rfl rfl (by decide +kernel) ⟨Nat.le_of_ble_eq_true rfl, Nat.le_of_ble_eq_true rfl⟩) hPc hDc hKc hS hA hN rfl hl.1 rfl (Nat.le_of_ble_eq_true rfl) dX16_carry_415 (fun H locs hP1 hD1 hk1 hS => ?_)
        have hP := nd_n0 hP hk1
        exact (db_X16_carry_418 C K) (q1) (q48) s0 _ _ _ h hP hD hS (lv_sub hl [] rfl)
      · have h := nd_pos h c47
        exact (db_X16_carry_391 C K) (v0) (q4) (z11) (q17) (q1) s0 _ _ _ h hP hD hS (lv_sub hl [6, 7, 4, 3, 1] rfl)
  have h := nd_neg h c36
  by_cases c51 : q21 = 23
  · have h := nd_pos h c51
    refine lv_lookup (off := 118) (tgt := 201) hx hb dX16_carry_83 (by decide) (by rw [c51]; decide) (by decide) ?_
    refine lv_aload_n hx hb dX16_carry_201 rfl (lv_at hl 6 rfl) ?_
    refine lv_iload_n hx hb dX16_carry_202 rfl (lv_at hl 5 rfl) ?_
    refine lv_aload_n hx hb dX16_carry_203 rfl (lv_at hl 6 rfl) ?_
    refine va_get (D := (dC, dI)) (ci := 17) (v := .ref (a 12)) (C := RX16) (T := TX16) (N := 56) hx hb hts hi_dm_X16_carry_X16 hown hK hP 0 rfl rfl 20 (by decide) (hts (.fieldLink RX16 45 "TimeMachineModel$Machine" "place" "[I") (List.mem_of_getElem? (i := 20) rfl)) (fun _ h9 => h9) rfl dX16_carry_204 ?_
    refine lv_aload_n hx hb dX16_carry_207 rfl (lv_at hl 6 rfl) ?_
    refine va_get (D := (dC, dI)) (ci := 17) (v := .int (sI s0.1 12)) (C := RX16) (T := TX16) (N := 56) hx hb hts hi_dm_X16_carry_X16 hown hK hP 0 rfl rfl 51 (by decide) (hts (.fieldLink RX16 232 "TimeMachineModel$Machine" "p" "I") (List.mem_of_getElem? (i := 5) rfl)) (fun _ h9 => h9) rfl dX16_carry_208 ?_
    obtain ⟨i52, h⟩ := nd_ck_e h
    refine va_iald (i := (sI s0.1 12)) hx hb hK hP 12 11 rfl rfl i52 dX16_carry_211 ?_
    refine lv_iload_n hx hb dX16_carry_212 rfl (lv_at hl 7 rfl) ?_
    refine lv_sipush (v := (-4096)) hx hb dX16_carry_213 (by decide) ?_
    refine lv_iand hx hb dX16_carry_216 ?_
    refine lv_iadd hx hb dX16_carry_217 ?_
    obtain ⟨s54, hq, h⟩ := nd_b1_e h
    have hPc := hP
    have hDc := hD
    have hKc := hK
    have hFc := nd_rs hD hS hA
    refine nd_cVv (As := [.int q1, .int ((sR s0.1 10 (Int32.toNatClampNeg (sI s0.1 12))) + (v0 &&& (-4096)))]) (rest := []) (w' := dw_X16 a ac s54) ⟨hx, hb, hml, hown, hts⟩ (fun sz => dm_X16_become l hlt dC dI a ac n (q1) (((sR s0.1 10 (Int32.toNatClampNeg (sI s0.1 12))) + (v0 &&& (-4096)))) s0 hq sz) (cwV 2 hts gi_dm_X16_carry_2 rfl rfl rfl (by decide +kernel) ⟨Nat.le_of_ble_eq_true rfl, Nat.le_of_ble_eq_true rfl⟩) hPc hDc hKc hS hA hN (va_recv hKc hPc (ci := 17) (q0 := 0) rfl rfl) rfl hl.1 rfl (Nat.le_of_ble_eq_true rfl) dX16_carry_218 (fun H locs hP1 hD1 hk1 hS => ?_)
    have hP := hP1
    have hD := hD1.weaken (fun k q _ h => hFc q.1 h)
    refine lv_goto (tgt := 562) hx hb dX16_carry_221 (by decide) ?_
    exact (db_X16_carry_562 C K)  s54 _ _ _ h hP hD hS (lv_sub hl [] rfl)
  have h := nd_neg h c51
  by_cases c56 : q21 = 35
  · have h := nd_pos h c56
    refine lv_lookup (off := 276) (tgt := 359) hx hb dX16_carry_83 (by decide) (by rw [c56]; decide) (by decide) ?_
    refine lv_aload_n hx hb dX16_carry_359 rfl (lv_at hl 6 rfl) ?_
    refine lv_iload_n hx hb dX16_carry_360 rfl (lv_at hl 4 rfl) ?_
    refine lv_iload hx hb dX16_carry_361 (lv_at hl 3 rfl) ?_
    refine lv_iload hx hb dX16_carry_363 (lv_at hl 0 rfl) ?_
    refine lv_bipush (v := (-32)) hx hb dX16_carry_365 (by decide) ?_
    refine lv_iand hx hb dX16_carry_367 ?_
    refine lv_iload_n hx hb dX16_carry_368 rfl (lv_at hl 5 rfl) ?_
    refine lv_ior hx hb dX16_carry_369 ?_
    refine lv_iadd hx hb dX16_carry_370 ?_
    refine lv_iload hx hb dX16_carry_371 (lv_at hl 2 rfl) ?_
    obtain ⟨s58, hq, h⟩ := nd_b1_e h
    have hPc := hP
    have hDc := hD
    have hKc := hK
    have hFc := nd_rs hD hS hA
    refine nd_cVv (As := [.int q4, .int (z11 + ((z20 &&& (-32)) ||| q1)), .int z16]) (rest := []) (w' := dw_X16 a ac s58) ⟨hx, hb, hml, hown, hts⟩ (fun sz => dm_X16_stored l hlt dC dI a ac n (q4) ((z11 + ((z20 &&& (-32)) ||| q1))) (z16) s0 hq sz) (cwV 3 hts gi_dm_X16_carry_6 rfl rfl rfl (by decide +kernel) ⟨Nat.le_of_ble_eq_true rfl, Nat.le_of_ble_eq_true rfl⟩) hPc hDc hKc hS hA hN (va_recv hKc hPc (ci := 17) (q0 := 0) rfl rfl) rfl hl.1 rfl (Nat.le_of_ble_eq_true rfl) dX16_carry_373 (fun H locs hP1 hD1 hk1 hS => ?_)
    have hP := hP1
    have hD := hD1.weaken (fun k q _ h => hFc q.1 h)
    refine lv_goto (tgt := 562) hx hb dX16_carry_376 (by decide) ?_
    exact (db_X16_carry_562 C K)  s58 _ _ _ h hP hD hS (lv_sub hl [] rfl)
  have h := nd_neg h c56
  by_cases c60 : q21 = 47
  · have h := nd_pos h c60
    refine lv_lookup (off := 425) (tgt := 508) hx hb dX16_carry_83 (by decide) (by rw [c60]; decide) (by decide) ?_
    refine lv_aload_n hx hb dX16_carry_508 rfl (lv_at hl 6 rfl) ?_
    refine lv_iload_n hx hb dX16_carry_509 rfl (lv_at hl 5 rfl) ?_
    refine lv_aload_n hx hb dX16_carry_510 rfl (lv_at hl 6 rfl) ?_
    refine lv_iload_n hx hb dX16_carry_511 rfl (lv_at hl 7 rfl) ?_
    refine lv_iload_n hx hb dX16_carry_512 rfl (lv_at hl 4 rfl) ?_
    refine lv_iload hx hb dX16_carry_513 (lv_at hl 1 rfl) ?_
    refine lv_iconst (v := 2) hx hb dX16_carry_515 (by decide) ?_
    refine lv_ishr hx hb dX16_carry_516 ?_
    refine lv_iload hx hb dX16_carry_517 (lv_at hl 3 rfl) ?_
    refine lv_iload hx hb dX16_carry_519 (lv_at hl 2 rfl) ?_
    obtain ⟨q61, s62, hq, h⟩ := nd_b2_e h
    have hPc := hP
    have hDc := hD
    have hKc := hK
    have hFc := nd_rs hD hS hA
    refine nd_cVi (As := [.int v0, .int q4, .int ((q17 : Int32) >>> ((2 : Int32) &&& 31)), .int z11, .int z16]) (rest := [.int q1, .ref (a 0)]) (q := q61) (w' := dw_X16 a ac s62) ⟨hx, hb, hml, hown, hts⟩ (fun sz => dm_X16_atomic l hlt dC dI a ac n (v0) (q4) (((q17 : Int32) >>> ((2 : Int32) &&& 31))) (z11) (z16) s0 hq sz) (cwV 5 hts gi_dm_X16_carry_7 rfl rfl rfl (by decide +kernel) ⟨Nat.le_of_ble_eq_true rfl, Nat.le_of_ble_eq_true rfl⟩) hPc hDc hKc hS hA hN (va_recv hKc hPc (ci := 17) (q0 := 0) rfl rfl) rfl hl.1 rfl (Nat.le_of_ble_eq_true rfl) dX16_carry_521 (fun H locs hP1 hD1 hk1 hS => ?_)
    have hP := hP1
    have hD := hD1.weaken (fun k q _ h => hFc q.1 h)
    obtain ⟨s65, hq, h⟩ := nd_b1_e h
    have hPc := hP
    have hDc := hD
    have hKc := hK
    have hFc := nd_rs hD hS hA
    refine nd_cVv (As := [.int q1, .int q61]) (rest := []) (w' := dw_X16 a ac s65) ⟨hx, hb, hml, hown, hts⟩ (fun sz => dm_X16_become l hlt dC dI a ac n (q1) (q61) s62 hq sz) (cwV 2 hts gi_dm_X16_carry_2 rfl rfl rfl (by decide +kernel) ⟨Nat.le_of_ble_eq_true rfl, Nat.le_of_ble_eq_true rfl⟩) hPc hDc hKc hS hA hN (va_recv hKc hPc (ci := 17) (q0 := 0) rfl rfl) rfl hl.1 rfl (Nat.le_of_ble_eq_true rfl) dX16_carry_524 (fun H locs hP1 hD1 hk1 hS => ?_)
    have hP := hP1
    have hD := hD1.weaken (fun k q _ h => hFc q.1 h)
    refine lv_goto (tgt := 562) hx hb dX16_carry_527 (by decide) ?_
    exact (db_X16_carry_562 C K)  s65 _ _ _ h hP hD hS (lv_sub hl [] rfl)
  have h := nd_neg h c60
  by_cases c67 : q21 = 51
  · have h := nd_pos h c67
    refine lv_lookup (off := 341) (tgt := 424) hx hb dX16_carry_83 (by decide) (by rw [c67]; decide) (by decide) ?_
    refine lv_aload_n hx hb dX16_carry_424 rfl (lv_at hl 6 rfl) ?_
    refine lv_iload_n hx hb dX16_carry_425 rfl (lv_at hl 5 rfl) ?_
    refine lv_iload hx hb dX16_carry_426 (lv_at hl 1 rfl) ?_
    refine lv_iconst (v := 1) hx hb dX16_carry_428 (by decide) ?_
    refine lv_icmp_ne (tgt := 443) hx hb dX16_carry_429 (by decide) (fun c68 => ?_) (fun c68 => ?_)
    · have h := nd_neg h c68
      refine lv_iload hx hb dX16_carry_443 (lv_at hl 1 rfl) ?_
      refine lv_if_ne (tgt := 469) hx hb dX16_carry_445 (by decide) (fun c69 => ?_) (fun c69 => ?_)
      · have h := nd_neg h c69
        exact (db_X16_carry_469 C K) (q4) (z11) (z16) (q17) (q1) s0 _ _ _ h hP hD hS (lv_sub hl [6, 4, 3, 2, 1] rfl)
      · have h := nd_pos h c69
        refine lv_iload_n hx hb dX16_carry_448 rfl (lv_at hl 4 rfl) ?_
        refine lv_iconst (v := 1) hx hb dX16_carry_449 (by decide) ?_
        refine lv_icmp_eq (tgt := 469) hx hb dX16_carry_450 (by decide) (fun c78 => ?_) (fun c78 => ?_)
        · have h := nd_pos h c78
          exact (db_X16_carry_469 C K) (q4) (z11) (z16) (q17) (q1) s0 _ _ _ h hP hD hS (lv_sub hl [6, 4, 3, 2, 1] rfl)
        · have h := nd_neg h c78
          refine lv_iload_n hx hb dX16_carry_453 rfl (lv_at hl 4 rfl) ?_
          refine lv_iconst (v := 5) hx hb dX16_carry_454 (by decide) ?_
          refine lv_icmp_eq (tgt := 469) hx hb dX16_carry_455 (by decide) (fun c79 => ?_) (fun c79 => ?_)
          · have h := nd_pos h c79
            exact (db_X16_carry_469 C K) (q4) (z11) (z16) (q17) (q1) s0 _ _ _ h hP hD hS (lv_sub hl [6, 4, 3, 2, 1] rfl)
          · have h := nd_neg h c79
            refine lv_iload_n hx hb dX16_carry_458 rfl (lv_at hl 4 rfl) ?_
            refine lv_iload hx hb dX16_carry_459 (lv_at hl 3 rfl) ?_
            refine lv_iload hx hb dX16_carry_461 (lv_at hl 2 rfl) ?_
            obtain ⟨q80, s81, hq, h⟩ := nd_b2_e h
            have hPc : va_P (dC, dI) vwCl (dw_P a ac ()) H := nd_p0
            have hDc : va_D A (dw_P a ac ()) := nd_d0
            have hKc : va_K (dC, dI) vwCl (dk_P ac) s := nd_y0 hK
            have hFc : ∀ q, va_A (dw_P a ac ()) H.size q → A q := nd_r0 hS hA
            refine nd_cSi (As := [.int q4, .int z11, .int z16]) (rest := [.int q1, .ref (a 0)]) (q := q80) (w' := dw_P a ac s81) ⟨hx, hb, hml, hown, hts⟩ (fun sz => dm_X16_reckoned l hlt dC dI a ac n (q4) (z11) (z16) () hq sz) (cwS 3 hts gi_dm_X16_carry_5 rfl rfl rfl (by decide +kernel) ⟨Nat.le_of_ble_eq_true rfl, Nat.le_of_ble_eq_true rfl⟩) hPc hDc hKc hS hA hN rfl hl.1 rfl (Nat.le_of_ble_eq_true rfl) dX16_carry_463 (fun H locs hP1 hD1 hk1 hS => ?_)
            have hP := nd_n0 hP hk1
            refine lv_goto (tgt := 502) hx hb dX16_carry_466 (by decide) ?_
            exact (db_X16_carry_502 C K) (q1) (q80) s0 _ _ _ h hP hD hS (lv_sub hl [] rfl)
    · have h := nd_pos h c68
      refine lv_iload_n hx hb dX16_carry_432 rfl (lv_at hl 4 rfl) ?_
      refine lv_iload hx hb dX16_carry_433 (lv_at hl 3 rfl) ?_
      refine lv_iload hx hb dX16_carry_435 (lv_at hl 2 rfl) ?_
      obtain ⟨q83, s84, hq, h⟩ := nd_b2_e h
      have hPc : va_P (dC, dI) vwCl (dw_P a ac ()) H := nd_p0
      have hDc : va_D A (dw_P a ac ()) := nd_d0
      have hKc : va_K (dC, dI) vwCl (dk_P ac) s := nd_y0 hK
      have hFc : ∀ q, va_A (dw_P a ac ()) H.size q → A q := nd_r0 hS hA
      refine nd_cSi (As := [.int q4, .int z11, .int z16]) (rest := [.int q1, .ref (a 0)]) (q := q83) (w' := dw_P a ac s84) ⟨hx, hb, hml, hown, hts⟩ (fun sz => dm_X16_multiplied l hlt dC dI a ac n (q4) (z11) (z16) () hq sz) (cwS 3 hts gi_dm_X16_carry_8 rfl rfl rfl (by decide +kernel) ⟨Nat.le_of_ble_eq_true rfl, Nat.le_of_ble_eq_true rfl⟩) hPc hDc hKc hS hA hN rfl hl.1 rfl (Nat.le_of_ble_eq_true rfl) dX16_carry_437 (fun H locs hP1 hD1 hk1 hS => ?_)
      have hP := nd_n0 hP hk1
      refine lv_goto (tgt := 502) hx hb dX16_carry_440 (by decide) ?_
      exact (db_X16_carry_502 C K) (q1) (q83) s0 _ _ _ h hP hD hS (lv_sub hl [] rfl)
  have h := nd_neg h c67
  by_cases c86 : q21 = 55
  · have h := nd_pos h c86
    refine lv_lookup (off := 105) (tgt := 188) hx hb dX16_carry_83 (by decide) (by rw [c86]; decide) (by decide) ?_
    refine lv_aload_n hx hb dX16_carry_188 rfl (lv_at hl 6 rfl) ?_
    refine lv_iload_n hx hb dX16_carry_189 rfl (lv_at hl 5 rfl) ?_
    refine lv_iload_n hx hb dX16_carry_190 rfl (lv_at hl 7 rfl) ?_
    refine lv_sipush (v := (-4096)) hx hb dX16_carry_191 (by decide) ?_
    refine lv_iand hx hb dX16_carry_194 ?_
    obtain ⟨s88, hq, h⟩ := nd_b1_e h
    have hPc := hP
    have hDc := hD
    have hKc := hK
    have hFc := nd_rs hD hS hA
    refine nd_cVv (As := [.int q1, .int (v0 &&& (-4096))]) (rest := []) (w' := dw_X16 a ac s88) ⟨hx, hb, hml, hown, hts⟩ (fun sz => dm_X16_become l hlt dC dI a ac n (q1) ((v0 &&& (-4096))) s0 hq sz) (cwV 2 hts gi_dm_X16_carry_2 rfl rfl rfl (by decide +kernel) ⟨Nat.le_of_ble_eq_true rfl, Nat.le_of_ble_eq_true rfl⟩) hPc hDc hKc hS hA hN (va_recv hKc hPc (ci := 17) (q0 := 0) rfl rfl) rfl hl.1 rfl (Nat.le_of_ble_eq_true rfl) dX16_carry_195 (fun H locs hP1 hD1 hk1 hS => ?_)
    have hP := hP1
    have hD := hD1.weaken (fun k q _ h => hFc q.1 h)
    refine lv_goto (tgt := 562) hx hb dX16_carry_198 (by decide) ?_
    exact (db_X16_carry_562 C K)  s88 _ _ _ h hP hD hS (lv_sub hl [] rfl)
  have h := nd_neg h c86
  by_cases c90 : q21 = 99
  · have h := nd_pos h c90
    refine lv_lookup (off := 245) (tgt := 328) hx hb dX16_carry_83 (by decide) (by rw [c90]; decide) (by decide) ?_
    refine lv_aload_n hx hb dX16_carry_328 rfl (lv_at hl 6 rfl) ?_
    refine lv_iload_n hx hb dX16_carry_329 rfl (lv_at hl 7 rfl) ?_
    refine lv_iload_n hx hb dX16_carry_330 rfl (lv_at hl 4 rfl) ?_
    refine lv_iload hx hb dX16_carry_331 (lv_at hl 3 rfl) ?_
    refine lv_iload hx hb dX16_carry_333 (lv_at hl 2 rfl) ?_
    obtain ⟨s92, hq, h⟩ := nd_b1_e h
    have hPc := hP
    have hDc := hD
    have hKc := hK
    have hFc := nd_rs hD hS hA
    refine nd_cVv (As := [.int v0, .int q4, .int z11, .int z16]) (rest := []) (w' := dw_X16 a ac s92) ⟨hx, hb, hml, hown, hts⟩ (fun sz => dm_X16_decide l hlt dC dI a ac n (v0) (q4) (z11) (z16) s0 hq sz) (cwV 4 hts gi_dm_X16_carry_9 rfl rfl rfl (by decide +kernel) ⟨Nat.le_of_ble_eq_true rfl, Nat.le_of_ble_eq_true rfl⟩) hPc hDc hKc hS hA hN (va_recv hKc hPc (ci := 17) (q0 := 0) rfl rfl) rfl hl.1 rfl (Nat.le_of_ble_eq_true rfl) dX16_carry_335 (fun H locs hP1 hD1 hk1 hS => ?_)
    have hP := hP1
    have hD := hD1.weaken (fun k q _ h => hFc q.1 h)
    refine lv_goto (tgt := 562) hx hb dX16_carry_338 (by decide) ?_
    exact (db_X16_carry_562 C K)  s92 _ _ _ h hP hD hS (lv_sub hl [] rfl)
  have h := nd_neg h c90
  by_cases c94 : q21 = 103
  · have h := nd_pos h c94
    refine lv_lookup (off := 212) (tgt := 295) hx hb dX16_carry_83 (by decide) (by rw [c94]; decide) (by decide) ?_
    refine lv_iload_n hx hb dX16_carry_295 rfl (lv_at hl 4 rfl) ?_
    refine lv_if_eq (tgt := 304) hx hb dX16_carry_296 (by decide) (fun c95 => ?_) (fun c95 => ?_)
    · have h := nd_pos h c95
      exact (db_X16_carry_304 C K) (q1) (z11) (z20) s0 _ _ _ h hP hD hS (lv_sub hl [6, 5, 3, 0] rfl)
    · have h := nd_neg h c95
      refine lv_aload_n hx hb dX16_carry_299 rfl (lv_at hl 6 rfl) ?_
      obtain ⟨q100, s101, hq, h⟩ := nd_b2_e h
      have hPc := hP
      have hDc := hD
      have hKc := hK
      have hFc := nd_rs hD hS hA
      refine nd_cVi (As := []) (rest := []) (q := q100) (w' := dw_X16 a ac s101) ⟨hx, hb, hml, hown, hts⟩ (fun sz => dm_X16_illegal l hlt dC dI a ac n  s0 hq sz) (cwV 0 hts gi_dm_X16_carry_3 rfl rfl rfl (by decide +kernel) ⟨Nat.le_of_ble_eq_true rfl, Nat.le_of_ble_eq_true rfl⟩) hPc hDc hKc hS hA hN (va_recv hKc hPc (ci := 17) (q0 := 0) rfl rfl) rfl hl.1 rfl (Nat.le_of_ble_eq_true rfl) dX16_carry_300 (fun H locs hP1 hD1 hk1 hS => ?_)
      have hP := hP1
      have hD := hD1.weaken (fun k q _ h => hFc q.1 h)
      refine lv_pop hx hb dX16_carry_303 rfl ?_
      exact (db_X16_carry_304 C K) (q1) (z11) (z20) s101 _ _ _ h hP hD hS (lv_sub hl [6, 5, 3, 0] rfl)
  have h := nd_neg h c94
  by_cases c103 : q21 = 111
  · have h := nd_pos h c103
    refine lv_lookup (off := 141) (tgt := 224) hx hb dX16_carry_83 (by decide) (by rw [c103]; decide) (by decide) ?_
    refine lv_aload_n hx hb dX16_carry_224 rfl (lv_at hl 6 rfl) ?_
    refine lv_iload_n hx hb dX16_carry_225 rfl (lv_at hl 5 rfl) ?_
    refine lv_aload_n hx hb dX16_carry_226 rfl (lv_at hl 6 rfl) ?_
    refine va_get (D := (dC, dI)) (ci := 17) (v := .int (sI s0.1 10)) (C := RX16) (T := TX16) (N := 56) hx hb hts hi_dm_X16_carry_X16 hown hK hP 0 rfl rfl 49 (by decide) (hts (.fieldLink RX16 350 "TimeMachineModel$Machine" "next" "I") (List.mem_of_getElem? (i := 32) rfl)) (fun _ h9 => h9) rfl dX16_carry_227 ?_
    obtain ⟨s105, hq, h⟩ := nd_b1_e h
    have hPc := hP
    have hDc := hD
    have hKc := hK
    have hFc := nd_rs hD hS hA
    refine nd_cVv (As := [.int q1, .int (sI s0.1 10)]) (rest := []) (w' := dw_X16 a ac s105) ⟨hx, hb, hml, hown, hts⟩ (fun sz => dm_X16_become l hlt dC dI a ac n (q1) ((sI s0.1 10)) s0 hq sz) (cwV 2 hts gi_dm_X16_carry_2 rfl rfl rfl (by decide +kernel) ⟨Nat.le_of_ble_eq_true rfl, Nat.le_of_ble_eq_true rfl⟩) hPc hDc hKc hS hA hN (va_recv hKc hPc (ci := 17) (q0 := 0) rfl rfl) rfl hl.1 rfl (Nat.le_of_ble_eq_true rfl) dX16_carry_230 (fun H locs hP1 hD1 hk1 hS => ?_)
    have hP := hP1
    have hD := hD1.weaken (fun k q _ h => hFc q.1 h)
    refine lv_aload_n hx hb dX16_carry_233 rfl (lv_at hl 6 rfl) ?_
    refine lv_aload_n hx hb dX16_carry_234 rfl (lv_at hl 6 rfl) ?_
    refine va_get (D := (dC, dI)) (ci := 17) (v := .ref (a 12)) (C := RX16) (T := TX16) (N := 56) hx hb hts hi_dm_X16_carry_X16 hown hK hP 0 rfl rfl 20 (by decide) (hts (.fieldLink RX16 45 "TimeMachineModel$Machine" "place" "[I") (List.mem_of_getElem? (i := 20) rfl)) (fun _ h9 => h9) rfl dX16_carry_235 ?_
    refine lv_aload_n hx hb dX16_carry_238 rfl (lv_at hl 6 rfl) ?_
    refine va_get (D := (dC, dI)) (ci := 17) (v := .int (sI s105.1 12)) (C := RX16) (T := TX16) (N := 56) hx hb hts hi_dm_X16_carry_X16 hown hK hP 0 rfl rfl 51 (by decide) (hts (.fieldLink RX16 232 "TimeMachineModel$Machine" "p" "I") (List.mem_of_getElem? (i := 5) rfl)) (fun _ h9 => h9) rfl dX16_carry_239 ?_
    obtain ⟨i107, h⟩ := nd_ck_e h
    refine va_iald (i := (sI s105.1 12)) hx hb hK hP 12 11 rfl rfl i107 dX16_carry_242 ?_
    refine lv_iload_n hx hb dX16_carry_243 rfl (lv_at hl 7 rfl) ?_
    refine lv_bipush (v := 31) hx hb dX16_carry_244 (by decide) ?_
    refine lv_iconst (v := 1) hx hb dX16_carry_246 (by decide) ?_
    refine lv_bipush (v := 20) hx hb dX16_carry_247 (by decide) ?_
    obtain ⟨q108, s109, hq, h⟩ := nd_b2_e h
    have hPc : va_P (dC, dI) vwCl (dw_P a ac ()) H := nd_p0
    have hDc : va_D A (dw_P a ac ()) := nd_d0
    have hKc : va_K (dC, dI) vwCl (dk_P ac) s := nd_y0 hK
    have hFc : ∀ q, va_A (dw_P a ac ()) H.size q → A q := nd_r0 hS hA
    refine nd_cSi (As := [.int v0, .int 31, .int 1, .int 20]) (rest := [.int (sR s105.1 10 (Int32.toNatClampNeg (sI s105.1 12))), .ref (a 0)]) (q := q108) (w' := dw_P a ac s109) ⟨hx, hb, hml, hown, hts⟩ (fun sz => dm_X16_bit l hlt dC dI a ac n (v0) (31) (1) (20) () hq sz) (cwS 4 hts gi_dm_X16_carry_10 rfl rfl rfl (by decide +kernel) ⟨Nat.le_of_ble_eq_true rfl, Nat.le_of_ble_eq_true rfl⟩) hPc hDc hKc hS hA hN rfl hl.1 rfl (Nat.le_of_ble_eq_true rfl) dX16_carry_249 (fun H locs hP1 hD1 hk1 hS => ?_)
    have hP := nd_n0 hP hk1
    refine lv_iload_n hx hb dX16_carry_252 rfl (lv_at hl 7 rfl) ?_
    refine lv_bipush (v := 12) hx hb dX16_carry_253 (by decide) ?_
    refine lv_bipush (v := 8) hx hb dX16_carry_255 (by decide) ?_
    refine lv_bipush (v := 12) hx hb dX16_carry_257 (by decide) ?_
    obtain ⟨q111, s112, hq, h⟩ := nd_b2_e h
    have hPc : va_P (dC, dI) vwCl (dw_P a ac ()) H := nd_p0
    have hDc : va_D A (dw_P a ac ()) := nd_d0
    have hKc : va_K (dC, dI) vwCl (dk_P ac) s := nd_y0 hK
    have hFc : ∀ q, va_A (dw_P a ac ()) H.size q → A q := nd_r0 hS hA
    refine nd_cSi (As := [.int v0, .int 12, .int 8, .int 12]) (rest := [.int q108, .int (sR s105.1 10 (Int32.toNatClampNeg (sI s105.1 12))), .ref (a 0)]) (q := q111) (w' := dw_P a ac s112) ⟨hx, hb, hml, hown, hts⟩ (fun sz => dm_X16_bit l hlt dC dI a ac n (v0) (12) (8) (12) () hq sz) (cwS 4 hts gi_dm_X16_carry_10 rfl rfl rfl (by decide +kernel) ⟨Nat.le_of_ble_eq_true rfl, Nat.le_of_ble_eq_true rfl⟩) hPc hDc hKc hS hA hN rfl hl.1 rfl (Nat.le_of_ble_eq_true rfl) dX16_carry_259 (fun H locs hP1 hD1 hk1 hS => ?_)
    have hP := nd_n0 hP hk1
    refine lv_ior hx hb dX16_carry_262 ?_
    refine lv_iload_n hx hb dX16_carry_263 rfl (lv_at hl 7 rfl) ?_
    refine lv_bipush (v := 20) hx hb dX16_carry_264 (by decide) ?_
    refine lv_iconst (v := 1) hx hb dX16_carry_266 (by decide) ?_
    refine lv_bipush (v := 11) hx hb dX16_carry_267 (by decide) ?_
    obtain ⟨q114, s115, hq, h⟩ := nd_b2_e h
    have hPc : va_P (dC, dI) vwCl (dw_P a ac ()) H := nd_p0
    have hDc : va_D A (dw_P a ac ()) := nd_d0
    have hKc : va_K (dC, dI) vwCl (dk_P ac) s := nd_y0 hK
    have hFc : ∀ q, va_A (dw_P a ac ()) H.size q → A q := nd_r0 hS hA
    refine nd_cSi (As := [.int v0, .int 20, .int 1, .int 11]) (rest := [.int (q108 ||| q111), .int (sR s105.1 10 (Int32.toNatClampNeg (sI s105.1 12))), .ref (a 0)]) (q := q114) (w' := dw_P a ac s115) ⟨hx, hb, hml, hown, hts⟩ (fun sz => dm_X16_bit l hlt dC dI a ac n (v0) (20) (1) (11) () hq sz) (cwS 4 hts gi_dm_X16_carry_10 rfl rfl rfl (by decide +kernel) ⟨Nat.le_of_ble_eq_true rfl, Nat.le_of_ble_eq_true rfl⟩) hPc hDc hKc hS hA hN rfl hl.1 rfl (Nat.le_of_ble_eq_true rfl) dX16_carry_269 (fun H locs hP1 hD1 hk1 hS => ?_)
    have hP := nd_n0 hP hk1
    refine lv_ior hx hb dX16_carry_272 ?_
    refine lv_iload_n hx hb dX16_carry_273 rfl (lv_at hl 7 rfl) ?_
    refine lv_bipush (v := 21) hx hb dX16_carry_274 (by decide) ?_
    refine lv_bipush (v := 10) hx hb dX16_carry_276 (by decide) ?_
    refine lv_iconst (v := 1) hx hb dX16_carry_278 (by decide) ?_
    obtain ⟨q117, s118, hq, h⟩ := nd_b2_e h
    have hPc : va_P (dC, dI) vwCl (dw_P a ac ()) H := nd_p0
    have hDc : va_D A (dw_P a ac ()) := nd_d0
    have hKc : va_K (dC, dI) vwCl (dk_P ac) s := nd_y0 hK
    have hFc : ∀ q, va_A (dw_P a ac ()) H.size q → A q := nd_r0 hS hA
    refine nd_cSi (As := [.int v0, .int 21, .int 10, .int 1]) (rest := [.int ((q108 ||| q111) ||| q114), .int (sR s105.1 10 (Int32.toNatClampNeg (sI s105.1 12))), .ref (a 0)]) (q := q117) (w' := dw_P a ac s118) ⟨hx, hb, hml, hown, hts⟩ (fun sz => dm_X16_bit l hlt dC dI a ac n (v0) (21) (10) (1) () hq sz) (cwS 4 hts gi_dm_X16_carry_10 rfl rfl rfl (by decide +kernel) ⟨Nat.le_of_ble_eq_true rfl, Nat.le_of_ble_eq_true rfl⟩) hPc hDc hKc hS hA hN rfl hl.1 rfl (Nat.le_of_ble_eq_true rfl) dX16_carry_279 (fun H locs hP1 hD1 hk1 hS => ?_)
    have hP := nd_n0 hP hk1
    refine lv_ior hx hb dX16_carry_282 ?_
    refine lv_bipush (v := 21) hx hb dX16_carry_283 (by decide) ?_
    obtain ⟨q120, s121, hq, h⟩ := nd_b2_e h
    have hPc : va_P (dC, dI) vwCl (dw_P a ac ()) H := nd_p0
    have hDc : va_D A (dw_P a ac ()) := nd_d0
    have hKc : va_K (dC, dI) vwCl (dk_P ac) s := nd_y0 hK
    have hFc : ∀ q, va_A (dw_P a ac ()) H.size q → A q := nd_r0 hS hA
    refine nd_cSi (As := [.int (((q108 ||| q111) ||| q114) ||| q117), .int 21]) (rest := [.int (sR s105.1 10 (Int32.toNatClampNeg (sI s105.1 12))), .ref (a 0)]) (q := q120) (w' := dw_P a ac s121) ⟨hx, hb, hml, hown, hts⟩ (fun sz => dm_X16_signed l hlt dC dI a ac n ((((q108 ||| q111) ||| q114) ||| q117)) (21) () hq sz) (cwS 2 hts gi_dm_X16_carry_11 rfl rfl rfl (by decide +kernel) ⟨Nat.le_of_ble_eq_true rfl, Nat.le_of_ble_eq_true rfl⟩) hPc hDc hKc hS hA hN rfl hl.1 rfl (Nat.le_of_ble_eq_true rfl) dX16_carry_285 (fun H locs hP1 hD1 hk1 hS => ?_)
    have hP := nd_n0 hP hk1
    refine lv_iadd hx hb dX16_carry_288 ?_
    refine va_put (D := (dC, dI)) (ci := 17) (v := .int ((sR s105.1 10 (Int32.toNatClampNeg (sI s105.1 12))) + q120)) (ty := .int) (C := RX16) (T := TX16) (N := 56) hx hb hts hi_dm_X16_carry_X16 tyX16 tyX16_ok nmX16 hown hK hP hD hS 0 rfl rfl 49 (by decide) (hts (.fieldLink RX16 350 "TimeMachineModel$Machine" "next" "I") (List.mem_of_getElem? (i := 32) rfl)) (fun _ h9 => h9) rfl (by decide +kernel) rfl rfl (Nat.le_of_ble_eq_true rfl) dX16_carry_289 (fun H locs hP hD hS => ?_)
    obtain ⟨s123, es123, h⟩ := nd_let_e h
    have hP : va_P (dC, dI) vwCl (dw_X16 a ac s123) H := by rw [es123]; exact hP
    have hD : va_D A (dw_X16 a ac s123) := by rw [es123]; exact hD
    refine lv_goto (tgt := 562) hx hb dX16_carry_292 (by decide) ?_
    exact (db_X16_carry_562 C K)  s123 _ _ _ h hP hD hS (lv_sub hl [] rfl)
  have h := nd_neg h c103
  by_cases c124 : q21 = 115
  · have h := nd_pos h c124
    refine lv_lookup (off := 460) (tgt := 543) hx hb dX16_carry_83 (by decide) (by rw [c124]; decide) (by decide) ?_
    refine lv_aload_n hx hb dX16_carry_543 rfl (lv_at hl 6 rfl) ?_
    refine lv_iload_n hx hb dX16_carry_544 rfl (lv_at hl 5 rfl) ?_
    refine lv_aload_n hx hb dX16_carry_545 rfl (lv_at hl 6 rfl) ?_
    refine lv_iload_n hx hb dX16_carry_546 rfl (lv_at hl 7 rfl) ?_
    refine lv_iload_n hx hb dX16_carry_547 rfl (lv_at hl 4 rfl) ?_
    obtain ⟨q125, s126, hq, h⟩ := nd_b2_e h
    have hPc := hP
    have hDc := hD
    have hKc := hK
    have hFc := nd_rs hD hS hA
    refine nd_cVi (As := [.int v0, .int q4]) (rest := [.int q1, .ref (a 0)]) (q := q125) (w' := dw_X16 a ac s126) ⟨hx, hb, hml, hown, hts⟩ (fun sz => dm_X16_system l hlt dC dI a ac n (v0) (q4) s0 hq sz) (cwV 2 hts gi_dm_X16_carry_12 rfl rfl rfl (by decide +kernel) ⟨Nat.le_of_ble_eq_true rfl, Nat.le_of_ble_eq_true rfl⟩) hPc hDc hKc hS hA hN (va_recv hKc hPc (ci := 17) (q0 := 0) rfl rfl) rfl hl.1 rfl (Nat.le_of_ble_eq_true rfl) dX16_carry_548 (fun H locs hP1 hD1 hk1 hS => ?_)
    have hP := hP1
    have hD := hD1.weaken (fun k q _ h => hFc q.1 h)
    obtain ⟨s129, hq, h⟩ := nd_b1_e h
    have hPc := hP
    have hDc := hD
    have hKc := hK
    have hFc := nd_rs hD hS hA
    refine nd_cVv (As := [.int q1, .int q125]) (rest := []) (w' := dw_X16 a ac s129) ⟨hx, hb, hml, hown, hts⟩ (fun sz => dm_X16_become l hlt dC dI a ac n (q1) (q125) s126 hq sz) (cwV 2 hts gi_dm_X16_carry_2 rfl rfl rfl (by decide +kernel) ⟨Nat.le_of_ble_eq_true rfl, Nat.le_of_ble_eq_true rfl⟩) hPc hDc hKc hS hA hN (va_recv hKc hPc (ci := 17) (q0 := 0) rfl rfl) rfl hl.1 rfl (Nat.le_of_ble_eq_true rfl) dX16_carry_551 (fun H locs hP1 hD1 hk1 hS => ?_)
    have hP := hP1
    have hD := hD1.weaken (fun k q _ h => hFc q.1 h)
    refine lv_goto (tgt := 562) hx hb dX16_carry_554 (by decide) ?_
    exact (db_X16_carry_562 C K)  s129 _ _ _ h hP hD hS (lv_sub hl [] rfl)
  have h := nd_neg h c124
  refine lv_lookup (off := 474) (tgt := 557) hx hb dX16_carry_83 (by decide) (show Op.lookupswitch.offset [(3, 258), (15, 447), (19, 296), (23, 118), (35, 276), (47, 425), (51, 341), (55, 105), (99, 245), (103, 212), (111, 141), (115, 460)] 474 (q21 : Int32).toInt = 474 by rw [lv_osw c24 (by decide), lv_osw c31 (by decide), lv_osw c36 (by decide), lv_osw c51 (by decide), lv_osw c56 (by decide), lv_osw c60 (by decide), lv_osw c67 (by decide), lv_osw c86 (by decide), lv_osw c90 (by decide), lv_osw c94 (by decide), lv_osw c103 (by decide), lv_osw c124 (by decide)] <;> rfl) (by decide) ?_
  refine lv_aload_n hx hb dX16_carry_557 rfl (lv_at hl 6 rfl) ?_
  obtain ⟨q131, s132, hq, h⟩ := nd_b2_e h
  have hPc := hP
  have hDc := hD
  have hKc := hK
  have hFc := nd_rs hD hS hA
  refine nd_cVi (As := []) (rest := []) (q := q131) (w' := dw_X16 a ac s132) ⟨hx, hb, hml, hown, hts⟩ (fun sz => dm_X16_illegal l hlt dC dI a ac n  s0 hq sz) (cwV 0 hts gi_dm_X16_carry_3 rfl rfl rfl (by decide +kernel) ⟨Nat.le_of_ble_eq_true rfl, Nat.le_of_ble_eq_true rfl⟩) hPc hDc hKc hS hA hN (va_recv hKc hPc (ci := 17) (q0 := 0) rfl rfl) rfl hl.1 rfl (Nat.le_of_ble_eq_true rfl) dX16_carry_558 (fun H locs hP1 hD1 hk1 hS => ?_)
  have hP := hP1
  have hD := hD1.weaken (fun k q _ h => hFc q.1 h)
  refine lv_pop hx hb dX16_carry_561 rfl ?_
  exact (db_X16_carry_562 C K)  s132 _ _ _ h hP hD hS (lv_sub hl [] rfl)
set_option maxHeartbeats 40000000 in
set_option maxRecDepth 100000 in
theorem dm_X16_carry (l : Launch) (hlt : l.stackTraces = false) (dC : Nat → ClassId) (dI : Nat → Nat → Nat) (a : Nat → Nat) (ac : Nat → ClassId) (n : Nat) (v0 : Int32) (s0 : St × (St)) {r : St × (St)} (h : df_X16_carry n v0 s0 = some r) (sz : Nat) : Met l yX16_carry ow_dm_X16_carry ({ frames := 5, cells := 0, slots := 0, locals := 112 }) (va_Pc [.ref (a 0), .int v0] (fun U => U.heap.size = sz ∧ va_P (dC, dI) vwCl (dw_X16 a ac s0) U.heap ∧ va_K (dC, dI) vwCl (dk_X16 ac) U ∧ va_D (fun _ => True) (dw_X16 a ac s0) ∧ nv_E dI (va_A (dw_X16 a ac s0) sz) U)) (va_Qv (fun _ => True) (fun (_ : Unit) t => va_P (dC, dI) vwCl (dw_X16 a ac r) t.heap ∧ va_K (dC, dI) vwCl (dk_X16 ac) t ∧ va_D (va_A (dw_X16 a ac s0) sz) (dw_X16 a ac r)) (va_A (dw_X16 a ac s0) sz)) 0 0 (va_A (dw_X16 a ac s0) sz) := by
  refine Met.ofW (cc := cX16_carry) (maxL := 8) (ret := none) (by decide) rfl ?_
  intro p e s m args below meth c s₁ B hml hv
  obtain ⟨rfl, hsz, hP, hK, hD0, hN⟩ := hv
  have hx := B.exec
  have hb := B.bytes
  have hr := B.returns
  have hts := atoms_spec (ws := ow_dm_X16_carry) B.pre
  have hown : s.vm.findClass RX16 = some m.cls := findClass_of_methodNamed B.named
  have hlocks := B.notSynchronized
  subst hsz
  have hD := hD0.self (sz := s.heap.size)
  generalize hAe : va_A (dw_X16 a ac s0) s.heap.size = A at hD hN ⊢
  have hA : ∀ q : Nat, s.heap.size ≤ q → A q := fun q h => by rw [← hAe]; exact Or.inr h
  have hl := lv_entry ([.ref (a 0), .int v0]) (n := 8) (Nat.le_of_ble_eq_true rfl)
  rw [lg_entry_eq]
  generalize (lg_sl ([.ref (a 0), .int v0]) ++ List.replicate (8 - (lg_sl ([.ref (a 0), .int v0])).length) Slot.unset).toArray = ls at hl ⊢
  have hl : lv_has ls 8 [(0, .ref (a 0)), (1, .int v0)] := hl
  exact db_X16_carry_0 (dC := dC) (dI := dI) (a := a) (ac := ac) (n := n) (r := r) ⟨hlt, hx, hb, hml, hown, hts, hN, hA, hK⟩ (fun pc τ H locs ls d er hP hD hS => by subst er; exact W.vret hx hb hr (fun t ht hW => ⟨⟨(), rfl, trivial, by rw [ht]; exact hP, va_K.moved hW.alike hK, hD⟩, hS.F ht⟩) hS.2.2 d) v0 s0 _ _ _ h hP hD va_S.rf (lv_sub hl [0, 1] rfl)
def ow_dm_X16_step : List Cond := Cond.code yX16_step cX16_step 3 (some .int) :: ([Cond.fieldLink RX16 45 "TimeMachineModel$Machine" "place" "[I", Cond.fieldLink RX16 232 "TimeMachineModel$Machine" "p" "I", Cond.fieldLink RX16 336 "TimeMachineModel$Machine" "met" "I", Cond.methodLink RX16 342 yX16_fetches, Cond.instanceMethod yX16_fetches, Cond.selects RX16 yX16_fetches yX16_fetches, Cond.initialized RX16, Cond.methodLink RX16 237 yX16_half, Cond.instanceMethod yX16_half, Cond.selects RX16 yX16_half yX16_half, Cond.fieldLink RX16 345 "TimeMachineModel$Machine" "bits" "I", Cond.fieldLink RX16 348 "TimeMachineModel$Machine" "size" "I", Cond.fieldLink RX16 350 "TimeMachineModel$Machine" "next" "I", Cond.methodLink RX16 353 yX16_expand, Cond.static yX16_expand, Cond.methodLink RX16 359 yX16_carry, Cond.instanceMethod yX16_carry, Cond.selects RX16 yX16_carry yX16_carry, Cond.fieldLink RX16 154 "TimeMachineModel$Machine" "retired" "J", Cond.methodLink RX16 356 yX16_illegal, Cond.instanceMethod yX16_illegal, Cond.selects RX16 yX16_illegal yX16_illegal] ++ (u_ws RX16 TX16 56 ++ (ow_dm_X16_fetches ++ (ow_dm_X16_half ++ (ow_dm_X16_expand ++ (ow_dm_X16_carry ++ (ow_dm_X16_illegal ++ [])))))))
theorem gd_dm_X16_step : ∀ w ∈ ow_dm_X16_step, (w.onTables && w.keeps) = true ∨ ∃ ty, w = Cond.arrayClass ty := List.forall_mem_cons.mpr ⟨good_of_word rfl, List.forall_mem_append.mpr ⟨fun w h => good_of_word (List.all_eq_true.mp (by decide +kernel) w h), List.forall_mem_append.mpr ⟨gu_X16, List.forall_mem_append.mpr ⟨gd_dm_X16_fetches, List.forall_mem_append.mpr ⟨gd_dm_X16_half, List.forall_mem_append.mpr ⟨gd_dm_X16_expand, List.forall_mem_append.mpr ⟨gd_dm_X16_carry, List.forall_mem_append.mpr ⟨gd_dm_X16_illegal, fun _ h => nomatch h⟩⟩⟩⟩⟩⟩⟩⟩
theorem hi_dm_X16_step_X16 : ∀ w ∈ u_ws RX16 TX16 56, w ∈ ow_dm_X16_step := fun w h => List.mem_cons_of_mem _ (List.mem_append_right _ (List.mem_append_left _ h))
theorem gi_dm_X16_step_0 : GoodIn ow_dm_X16_step (wsV RX16 342 RX16 yX16_fetches ow_dm_X16_fetches) := goodIn_app (goodIn_of _ (by decide +kernel)) (fun w h => ⟨List.mem_cons_of_mem _ (List.mem_append_right _ (List.mem_append_right _ (List.mem_append_left _ h))), gd_dm_X16_fetches w h⟩)
theorem gi_dm_X16_step_1 : GoodIn ow_dm_X16_step (wsV RX16 237 RX16 yX16_half ow_dm_X16_half) := goodIn_app (goodIn_of _ (by decide +kernel)) (fun w h => ⟨List.mem_cons_of_mem _ (List.mem_append_right _ (List.mem_append_right _ (List.mem_append_right _ (List.mem_append_left _ h)))), gd_dm_X16_half w h⟩)
theorem gi_dm_X16_step_2 : GoodIn ow_dm_X16_step (wsS RX16 353 yX16_expand ow_dm_X16_expand) := goodIn_app (goodIn_of _ (by decide +kernel)) (fun w h => ⟨List.mem_cons_of_mem _ (List.mem_append_right _ (List.mem_append_right _ (List.mem_append_right _ (List.mem_append_right _ (List.mem_append_left _ h))))), gd_dm_X16_expand w h⟩)
theorem gi_dm_X16_step_3 : GoodIn ow_dm_X16_step (wsV RX16 359 RX16 yX16_carry ow_dm_X16_carry) := goodIn_app (goodIn_of _ (by decide +kernel)) (fun w h => ⟨List.mem_cons_of_mem _ (List.mem_append_right _ (List.mem_append_right _ (List.mem_append_right _ (List.mem_append_right _ (List.mem_append_right _ (List.mem_append_left _ h)))))), gd_dm_X16_carry w h⟩)
theorem gi_dm_X16_step_4 : GoodIn ow_dm_X16_step (wsV RX16 356 RX16 yX16_illegal ow_dm_X16_illegal) := goodIn_app (goodIn_of _ (by decide +kernel)) (fun w h => ⟨List.mem_cons_of_mem _ (List.mem_append_right _ (List.mem_append_right _ (List.mem_append_right _ (List.mem_append_right _ (List.mem_append_right _ (List.mem_append_right _ (List.mem_append_left _ h))))))), gd_dm_X16_illegal w h⟩)
def dj_X16_step_30 (p : Program) (l : Launch) (e : Env) (s : State) (m : MethodId) (args : Array Value) (below : List Frame) (meth : Method) (c : Code) (Q : State → Prop) (A : Nat → Prop) (dC : Nat → ClassId) (dI : Nat → Nat → Nat) (a : Nat → Nat) (ac : Nat → ClassId) (g : (St × (St)) → Option (Int32 × (St × (St)))) (r : Int32 × (St × (St))) : Prop := ∀ (s0 : St × (St)) (H : Heap) (locs : List Loc) (ls : Array Slot), g s0 = some r → va_P (dC, dI) vwCl (dw_X16 a ac s0) H → va_D A (dw_X16 a ac s0) → va_S A s.heap H locs → lv_has ls 3 [] → W p l e (headSpec ow_dm_X16_step ({ frames := 6, cells := 0, slots := 0, locals := 139 })).room s m args below meth c H locs 0 0 Q (F0 m 30 ls [])
def dj_X16_step_164 (p : Program) (l : Launch) (e : Env) (s : State) (m : MethodId) (args : Array Value) (below : List Frame) (meth : Method) (c : Code) (Q : State → Prop) (A : Nat → Prop) (dC : Nat → ClassId) (dI : Nat → Nat → Nat) (a : Nat → Nat) (ac : Nat → ClassId) (g : (St × (St)) → Option (Int32 × (St × (St)))) (r : Int32 × (St × (St))) : Prop := ∀ (s0 : St × (St)) (H : Heap) (locs : List Loc) (ls : Array Slot), g s0 = some r → va_P (dC, dI) vwCl (dw_X16 a ac s0) H → va_D A (dw_X16 a ac s0) → va_S A s.heap H locs → lv_has ls 3 [(0, .ref (a 0))] → W p l e (headSpec ow_dm_X16_step ({ frames := 6, cells := 0, slots := 0, locals := 139 })).room s m args below meth c H locs 0 0 Q (F0 m 164 ls [])
def dj_X16_step_146 (p : Program) (l : Launch) (e : Env) (s : State) (m : MethodId) (args : Array Value) (below : List Frame) (meth : Method) (c : Code) (Q : State → Prop) (A : Nat → Prop) (dC : Nat → ClassId) (dI : Nat → Nat → Nat) (a : Nat → Nat) (ac : Nat → ClassId) (g : Int32 → (St × (St)) → Option (Int32 × (St × (St)))) (r : Int32 × (St × (St))) : Prop := ∀ (y0 : Int32) (s0 : St × (St)) (H : Heap) (locs : List Loc) (ls : Array Slot), g y0 s0 = some r → va_P (dC, dI) vwCl (dw_X16 a ac s0) H → va_D A (dw_X16 a ac s0) → va_S A s.heap H locs → lv_has ls 3 [(0, .ref (a 0))] → W p l e (headSpec ow_dm_X16_step ({ frames := 6, cells := 0, slots := 0, locals := 139 })).room s m args below meth c H locs 0 0 Q (F0 m 146 ls [.int y0])
def dj_X16_step_111 (p : Program) (l : Launch) (e : Env) (s : State) (m : MethodId) (args : Array Value) (below : List Frame) (meth : Method) (c : Code) (Q : State → Prop) (A : Nat → Prop) (dC : Nat → ClassId) (dI : Nat → Nat → Nat) (a : Nat → Nat) (ac : Nat → ClassId) (g : Int32 → Int32 → (St × (St)) → Option (Int32 × (St × (St)))) (r : Int32 × (St × (St))) : Prop := ∀ (x1 : Int32) (y1 : Int32) (s0 : St × (St)) (H : Heap) (locs : List Loc) (ls : Array Slot), g x1 y1 s0 = some r → va_P (dC, dI) vwCl (dw_X16 a ac s0) H → va_D A (dw_X16 a ac s0) → va_S A s.heap H locs → lv_has ls 3 [(0, .ref (a 0)), (1, .int x1)] → W p l e (headSpec ow_dm_X16_step ({ frames := 6, cells := 0, slots := 0, locals := 139 })).room s m args below meth c H locs 0 0 Q (F0 m 111 ls [.int y1, .ref (a 0)])
def dj_X16_step_80 (p : Program) (l : Launch) (e : Env) (s : State) (m : MethodId) (args : Array Value) (below : List Frame) (meth : Method) (c : Code) (Q : State → Prop) (A : Nat → Prop) (dC : Nat → ClassId) (dI : Nat → Nat → Nat) (a : Nat → Nat) (ac : Nat → ClassId) (g : Int32 → (St × (St)) → Option (Int32 × (St × (St)))) (r : Int32 × (St × (St))) : Prop := ∀ (x1 : Int32) (s0 : St × (St)) (H : Heap) (locs : List Loc) (ls : Array Slot), g x1 s0 = some r → va_P (dC, dI) vwCl (dw_X16 a ac s0) H → va_D A (dw_X16 a ac s0) → va_S A s.heap H locs → lv_has ls 3 [(0, .ref (a 0)), (1, .int x1)] → W p l e (headSpec ow_dm_X16_step ({ frames := 6, cells := 0, slots := 0, locals := 139 })).room s m args below meth c H locs 0 0 Q (F0 m 80 ls [])
def dj_X16_step_57 (p : Program) (l : Launch) (e : Env) (s : State) (m : MethodId) (args : Array Value) (below : List Frame) (meth : Method) (c : Code) (Q : State → Prop) (A : Nat → Prop) (dC : Nat → ClassId) (dI : Nat → Nat → Nat) (a : Nat → Nat) (ac : Nat → ClassId) (g : Int32 → Int32 → (St × (St)) → Option (Int32 × (St × (St)))) (r : Int32 × (St × (St))) : Prop := ∀ (x1 : Int32) (y1 : Int32) (s0 : St × (St)) (H : Heap) (locs : List Loc) (ls : Array Slot), g x1 y1 s0 = some r → va_P (dC, dI) vwCl (dw_X16 a ac s0) H → va_D A (dw_X16 a ac s0) → va_S A s.heap H locs → lv_has ls 3 [(0, .ref (a 0)), (1, .int x1)] → W p l e (headSpec ow_dm_X16_step ({ frames := 6, cells := 0, slots := 0, locals := 139 })).room s m args below meth c H locs 0 0 Q (F0 m 57 ls [.int y1, .ref (a 0)])
def dj_X16_step_0 (p : Program) (l : Launch) (e : Env) (s : State) (m : MethodId) (args : Array Value) (below : List Frame) (meth : Method) (c : Code) (Q : State → Prop) (A : Nat → Prop) (dC : Nat → ClassId) (dI : Nat → Nat → Nat) (a : Nat → Nat) (ac : Nat → ClassId) (g : (St × (St)) → Option (Int32 × (St × (St)))) (r : Int32 × (St × (St))) : Prop := ∀ (s0 : St × (St)) (H : Heap) (locs : List Loc) (ls : Array Slot), g s0 = some r → va_P (dC, dI) vwCl (dw_X16 a ac s0) H → va_D A (dw_X16 a ac s0) → va_S A s.heap H locs → lv_has ls 3 [(0, .ref (a 0))] → W p l e (headSpec ow_dm_X16_step ({ frames := 6, cells := 0, slots := 0, locals := 139 })).room s m args below meth c H locs 0 0 Q (F0 m 0 ls [])
set_option maxHeartbeats 40000000 in
set_option maxRecDepth 100000 in
theorem db_X16_step_30 {p : Program} {l : Launch} {e : Env} {s : State} {m : MethodId} {args : Array Value} {below : List Frame} {meth : Method} {c : Code} {Q : State → Prop} {A : Nat → Prop} {dC : Nat → ClassId} {dI : Nat → Nat → Nat} {a : Nat → Nat} {ac : Nat → ClassId} {n : Nat} {r : Int32 × (St × (St))} (C : nd_C p l s m args c A (dC, dI) cX16_step 3 RX16 ow_dm_X16_step (dk_X16 ac)) (K : nd_Ki p l e (headSpec ow_dm_X16_step ({ frames := 6, cells := 0, slots := 0, locals := 139 })).room s m args below meth c Q A (dC, dI) cX16_step .int (St × (St)) (dw_X16 a ac) r) : dj_X16_step_30 p l e s m args below meth c Q A dC dI a ac (df_X16_step_30 n) r := by
  obtain ⟨hlt, hx, hb, hml, hown, hts, hN, hA, hK⟩ := id C
  intro s0 H locs ls h hP hD hS hl
  unfold df_X16_step_30 at h
  refine lv_iconst (v := 1) hx hb dX16_step_30 (by decide) ?_
  exact K _ _ _ _ _ _ dX16_step_31 rfl (Option.some.inj h).symm hP hD hS
set_option maxHeartbeats 40000000 in
set_option maxRecDepth 100000 in
theorem db_X16_step_164 {p : Program} {l : Launch} {e : Env} {s : State} {m : MethodId} {args : Array Value} {below : List Frame} {meth : Method} {c : Code} {Q : State → Prop} {A : Nat → Prop} {dC : Nat → ClassId} {dI : Nat → Nat → Nat} {a : Nat → Nat} {ac : Nat → ClassId} {n : Nat} {r : Int32 × (St × (St))} (C : nd_C p l s m args c A (dC, dI) cX16_step 3 RX16 ow_dm_X16_step (dk_X16 ac)) (K : nd_Ki p l e (headSpec ow_dm_X16_step ({ frames := 6, cells := 0, slots := 0, locals := 139 })).room s m args below meth c Q A (dC, dI) cX16_step .int (St × (St)) (dw_X16 a ac) r) : dj_X16_step_164 p l e s m args below meth c Q A dC dI a ac (df_X16_step_164 n) r := by
  obtain ⟨hlt, hx, hb, hml, hown, hts, hN, hA, hK⟩ := id C
  intro s0 H locs ls h hP hD hS hl
  unfold df_X16_step_164 at h
  refine lv_aload_n hx hb dX16_step_164 rfl (lv_at hl 0 rfl) ?_
  refine va_get (D := (dC, dI)) (ci := 17) (v := .int (sI s0.1 11)) (C := RX16) (T := TX16) (N := 56) hx hb hts hi_dm_X16_step_X16 hown hK hP 0 rfl rfl 50 (by decide) (hts (.fieldLink RX16 336 "TimeMachineModel$Machine" "met" "I") (List.mem_of_getElem? (i := 3) rfl)) (fun _ h9 => h9) rfl dX16_step_165 ?_
  refine lv_if_le (tgt := 176) hx hb dX16_step_168 (by decide) (fun c27 => ?_) (fun c27 => ?_)
  · have h := nd_pos h c27
    refine lv_aload_n hx hb dX16_step_176 rfl (lv_at hl 0 rfl) ?_
    refine va_get (D := (dC, dI)) (ci := 17) (v := .ref (a 12)) (C := RX16) (T := TX16) (N := 56) hx hb hts hi_dm_X16_step_X16 hown hK hP 0 rfl rfl 20 (by decide) (hts (.fieldLink RX16 45 "TimeMachineModel$Machine" "place" "[I") (List.mem_of_getElem? (i := 1) rfl)) (fun _ h9 => h9) rfl dX16_step_177 ?_
    refine lv_aload_n hx hb dX16_step_180 rfl (lv_at hl 0 rfl) ?_
    refine va_get (D := (dC, dI)) (ci := 17) (v := .int (sI s0.1 12)) (C := RX16) (T := TX16) (N := 56) hx hb hts hi_dm_X16_step_X16 hown hK hP 0 rfl rfl 51 (by decide) (hts (.fieldLink RX16 232 "TimeMachineModel$Machine" "p" "I") (List.mem_of_getElem? (i := 2) rfl)) (fun _ h9 => h9) rfl dX16_step_181 ?_
    refine lv_aload_n hx hb dX16_step_184 rfl (lv_at hl 0 rfl) ?_
    refine va_get (D := (dC, dI)) (ci := 17) (v := .int (sI s0.1 10)) (C := RX16) (T := TX16) (N := 56) hx hb hts hi_dm_X16_step_X16 hown hK hP 0 rfl rfl 49 (by decide) (hts (.fieldLink RX16 350 "TimeMachineModel$Machine" "next" "I") (List.mem_of_getElem? (i := 13) rfl)) (fun _ h9 => h9) rfl dX16_step_185 ?_
    obtain ⟨i28, h⟩ := nd_ck_e h
    refine va_iast (i := (sI s0.1 12)) (x := (sI s0.1 10)) hx hb hK hP hD hS 12 11 rfl rfl i28 dX16_step_188 (fun H locs hP hD hS => ?_)
    obtain ⟨s29, es29, h⟩ := nd_let_e h
    have hP : va_P (dC, dI) vwCl (dw_X16 a ac s29) H := by rw [es29]; exact hP
    have hD : va_D A (dw_X16 a ac s29) := by rw [es29]; exact hD
    refine lv_aload_n hx hb dX16_step_189 rfl (lv_at hl 0 rfl) ?_
    refine lv_dup hx hb dX16_step_190 rfl ?_
    refine va_get (D := (dC, dI)) (ci := 17) (v := .long (sL s29.1 0)) (C := RX16) (T := TX16) (N := 56) hx hb hts hi_dm_X16_step_X16 hown hK hP 0 rfl rfl 6 (by decide) (hts (.fieldLink RX16 154 "TimeMachineModel$Machine" "retired" "J") (List.mem_of_getElem? (i := 19) rfl)) (fun _ h9 => h9) rfl dX16_step_191 ?_
    refine lv_lconst (v := 1) hx hb dX16_step_194 (by decide) ?_
    refine lv_ladd hx hb dX16_step_195 ?_
    refine va_put (D := (dC, dI)) (ci := 17) (v := .long (((sL s29.1 0) : Int64) + 1)) (ty := .long) (C := RX16) (T := TX16) (N := 56) hx hb hts hi_dm_X16_step_X16 tyX16 tyX16_ok nmX16 hown hK hP hD hS 0 rfl rfl 6 (by decide) (hts (.fieldLink RX16 154 "TimeMachineModel$Machine" "retired" "J") (List.mem_of_getElem? (i := 19) rfl)) (fun _ h9 => h9) rfl (by decide +kernel) rfl rfl (Nat.le_of_ble_eq_true rfl) dX16_step_196 (fun H locs hP hD hS => ?_)
    obtain ⟨s30, es30, h⟩ := nd_let_e h
    have hP : va_P (dC, dI) vwCl (dw_X16 a ac s30) H := by rw [es30]; exact hP
    have hD : va_D A (dw_X16 a ac s30) := by rw [es30]; exact hD
    refine lv_iconst (v := 0) hx hb dX16_step_199 (by decide) ?_
    exact K _ _ _ _ _ _ dX16_step_200 rfl (Option.some.inj h).symm hP hD hS
  · have h := nd_neg h c27
    refine lv_aload_n hx hb dX16_step_171 rfl (lv_at hl 0 rfl) ?_
    refine va_get (D := (dC, dI)) (ci := 17) (v := .int (sI s0.1 11)) (C := RX16) (T := TX16) (N := 56) hx hb hts hi_dm_X16_step_X16 hown hK hP 0 rfl rfl 50 (by decide) (hts (.fieldLink RX16 336 "TimeMachineModel$Machine" "met" "I") (List.mem_of_getElem? (i := 3) rfl)) (fun _ h9 => h9) rfl dX16_step_172 ?_
    exact K _ _ _ _ _ _ dX16_step_175 rfl (Option.some.inj h).symm hP hD hS
set_option maxHeartbeats 40000000 in
set_option maxRecDepth 100000 in
theorem db_X16_step_146 {p : Program} {l : Launch} {e : Env} {s : State} {m : MethodId} {args : Array Value} {below : List Frame} {meth : Method} {c : Code} {Q : State → Prop} {A : Nat → Prop} {dC : Nat → ClassId} {dI : Nat → Nat → Nat} {a : Nat → Nat} {ac : Nat → ClassId} {n : Nat} {r : Int32 × (St × (St))} (C : nd_C p l s m args c A (dC, dI) cX16_step 3 RX16 ow_dm_X16_step (dk_X16 ac)) (K : nd_Ki p l e (headSpec ow_dm_X16_step ({ frames := 6, cells := 0, slots := 0, locals := 139 })).room s m args below meth c Q A (dC, dI) cX16_step .int (St × (St)) (dw_X16 a ac) r) : dj_X16_step_146 p l e s m args below meth c Q A dC dI a ac (df_X16_step_146 n) r := by
  obtain ⟨hlt, hx, hb, hml, hown, hts, hN, hA, hK⟩ := id C
  intro y0 s0 H locs ls h hP hD hS hl
  unfold df_X16_step_146 at h
  refine lv_istore_n (lv' := [(2, .int y0), (0, .ref (a 0))]) hx hb dX16_step_146 rfl hl (by decide) rfl (fun ls hl => ?_)
  refine lv_iload_n hx hb dX16_step_147 rfl (lv_at hl 0 rfl) ?_
  refine lv_if_ne (tgt := 159) hx hb dX16_step_148 (by decide) (fun c23 => ?_) (fun c23 => ?_)
  · have h := nd_neg h c23
    refine lv_aload_n hx hb dX16_step_159 rfl (lv_at hl 1 rfl) ?_
    refine lv_iload_n hx hb dX16_step_160 rfl (lv_at hl 0 rfl) ?_
    obtain ⟨s25, hq, h⟩ := nd_b1_e h
    have hPc := hP
    have hDc := hD
    have hKc := hK
    have hFc := nd_rs hD hS hA
    refine nd_cVv (As := [.int y0]) (rest := []) (w' := dw_X16 a ac s25) ⟨hx, hb, hml, hown, hts⟩ (fun sz => dm_X16_carry l hlt dC dI a ac n (y0) s0 hq sz) (cwV 1 hts gi_dm_X16_step_3 rfl rfl rfl (by decide +kernel) ⟨Nat.le_of_ble_eq_true rfl, Nat.le_of_ble_eq_true rfl⟩) hPc hDc hKc hS hA hN (va_recv hKc hPc (ci := 17) (q0 := 0) rfl rfl) rfl hl.1 rfl (Nat.le_of_ble_eq_true rfl) dX16_step_161 (fun H locs hP1 hD1 hk1 hS => ?_)
    have hP := hP1
    have hD := hD1.weaken (fun k q _ h => hFc q.1 h)
    exact (db_X16_step_164 C K)  s25 _ _ _ h hP hD hS (lv_sub hl [1] rfl)
  · have h := nd_pos h c23
    refine lv_aload_n hx hb dX16_step_151 rfl (lv_at hl 1 rfl) ?_
    obtain ⟨q31, s32, hq, h⟩ := nd_b2_e h
    have hPc := hP
    have hDc := hD
    have hKc := hK
    have hFc := nd_rs hD hS hA
    refine nd_cVi (As := []) (rest := []) (q := q31) (w' := dw_X16 a ac s32) ⟨hx, hb, hml, hown, hts⟩ (fun sz => dm_X16_illegal l hlt dC dI a ac n  s0 hq sz) (cwV 0 hts gi_dm_X16_step_4 rfl rfl rfl (by decide +kernel) ⟨Nat.le_of_ble_eq_true rfl, Nat.le_of_ble_eq_true rfl⟩) hPc hDc hKc hS hA hN (va_recv hKc hPc (ci := 17) (q0 := 0) rfl rfl) rfl hl.1 rfl (Nat.le_of_ble_eq_true rfl) dX16_step_152 (fun H locs hP1 hD1 hk1 hS => ?_)
    have hP := hP1
    have hD := hD1.weaken (fun k q _ h => hFc q.1 h)
    refine lv_pop hx hb dX16_step_155 rfl ?_
    refine lv_goto (tgt := 164) hx hb dX16_step_156 (by decide) ?_
    exact (db_X16_step_164 C K)  s32 _ _ _ h hP hD hS (lv_sub hl [1] rfl)
set_option maxHeartbeats 40000000 in
set_option maxRecDepth 100000 in
theorem db_X16_step_111 {p : Program} {l : Launch} {e : Env} {s : State} {m : MethodId} {args : Array Value} {below : List Frame} {meth : Method} {c : Code} {Q : State → Prop} {A : Nat → Prop} {dC : Nat → ClassId} {dI : Nat → Nat → Nat} {a : Nat → Nat} {ac : Nat → ClassId} {n : Nat} {r : Int32 × (St × (St))} (C : nd_C p l s m args c A (dC, dI) cX16_step 3 RX16 ow_dm_X16_step (dk_X16 ac)) (K : nd_Ki p l e (headSpec ow_dm_X16_step ({ frames := 6, cells := 0, slots := 0, locals := 139 })).room s m args below meth c Q A (dC, dI) cX16_step .int (St × (St)) (dw_X16 a ac) r) : dj_X16_step_111 p l e s m args below meth c Q A dC dI a ac (df_X16_step_111 n) r := by
  obtain ⟨hlt, hx, hb, hml, hown, hts, hN, hA, hK⟩ := id C
  intro x1 y1 s0 H locs ls h hP hD hS hl
  unfold df_X16_step_111 at h
  refine va_put (D := (dC, dI)) (ci := 17) (v := .int y1) (ty := .int) (C := RX16) (T := TX16) (N := 56) hx hb hts hi_dm_X16_step_X16 tyX16 tyX16_ok nmX16 hown hK hP hD hS 0 rfl rfl 47 (by decide) (hts (.fieldLink RX16 345 "TimeMachineModel$Machine" "bits" "I") (List.mem_of_getElem? (i := 11) rfl)) (fun _ h9 => h9) rfl (by decide +kernel) rfl rfl (Nat.le_of_ble_eq_true rfl) dX16_step_111 (fun H locs hP hD hS => ?_)
  obtain ⟨s17, es17, h⟩ := nd_let_e h
  have hP : va_P (dC, dI) vwCl (dw_X16 a ac s17) H := by rw [es17]; exact hP
  have hD : va_D A (dw_X16 a ac s17) := by rw [es17]; exact hD
  refine lv_aload_n hx hb dX16_step_114 rfl (lv_at hl 0 rfl) ?_
  refine lv_iload_n hx hb dX16_step_115 rfl (lv_at hl 1 rfl) ?_
  refine lv_aload_n hx hb dX16_step_116 rfl (lv_at hl 0 rfl) ?_
  refine va_get (D := (dC, dI)) (ci := 17) (v := .int (sI s17.1 9)) (C := RX16) (T := TX16) (N := 56) hx hb hts hi_dm_X16_step_X16 hown hK hP 0 rfl rfl 48 (by decide) (hts (.fieldLink RX16 348 "TimeMachineModel$Machine" "size" "I") (List.mem_of_getElem? (i := 12) rfl)) (fun _ h9 => h9) rfl dX16_step_117 ?_
  refine lv_iadd hx hb dX16_step_120 ?_
  refine va_put (D := (dC, dI)) (ci := 17) (v := .int (x1 + (sI s17.1 9))) (ty := .int) (C := RX16) (T := TX16) (N := 56) hx hb hts hi_dm_X16_step_X16 tyX16 tyX16_ok nmX16 hown hK hP hD hS 0 rfl rfl 49 (by decide) (hts (.fieldLink RX16 350 "TimeMachineModel$Machine" "next" "I") (List.mem_of_getElem? (i := 13) rfl)) (fun _ h9 => h9) rfl (by decide +kernel) rfl rfl (Nat.le_of_ble_eq_true rfl) dX16_step_121 (fun H locs hP hD hS => ?_)
  obtain ⟨s18, es18, h⟩ := nd_let_e h
  have hP : va_P (dC, dI) vwCl (dw_X16 a ac s18) H := by rw [es18]; exact hP
  have hD : va_D A (dw_X16 a ac s18) := by rw [es18]; exact hD
  refine lv_aload_n hx hb dX16_step_124 rfl (lv_at hl 0 rfl) ?_
  refine va_get (D := (dC, dI)) (ci := 17) (v := .int (sI s18.1 9)) (C := RX16) (T := TX16) (N := 56) hx hb hts hi_dm_X16_step_X16 hown hK hP 0 rfl rfl 48 (by decide) (hts (.fieldLink RX16 348 "TimeMachineModel$Machine" "size" "I") (List.mem_of_getElem? (i := 12) rfl)) (fun _ h9 => h9) rfl dX16_step_125 ?_
  refine lv_iconst (v := 4) hx hb dX16_step_128 (by decide) ?_
  refine lv_icmp_ne (tgt := 139) hx hb dX16_step_129 (by decide) (fun c19 => ?_) (fun c19 => ?_)
  · have h := nd_neg h c19
    refine lv_aload_n hx hb dX16_step_139 rfl (lv_at hl 0 rfl) ?_
    refine va_get (D := (dC, dI)) (ci := 17) (v := .int (sI s18.1 8)) (C := RX16) (T := TX16) (N := 56) hx hb hts hi_dm_X16_step_X16 hown hK hP 0 rfl rfl 47 (by decide) (hts (.fieldLink RX16 345 "TimeMachineModel$Machine" "bits" "I") (List.mem_of_getElem? (i := 11) rfl)) (fun _ h9 => h9) rfl dX16_step_140 ?_
    obtain ⟨q20, s21, hq, h⟩ := nd_b2_e h
    have hPc : va_P (dC, dI) vwCl (dw_P a ac ()) H := nd_p0
    have hDc : va_D A (dw_P a ac ()) := nd_d0
    have hKc : va_K (dC, dI) vwCl (dk_P ac) s := nd_y0 hK
    have hFc : ∀ q, va_A (dw_P a ac ()) H.size q → A q := nd_r0 hS hA
    refine nd_cSi (As := [.int (sI s18.1 8)]) (rest := []) (q := q20) (w' := dw_P a ac s21) ⟨hx, hb, hml, hown, hts⟩ (fun sz => dm_X16_expand l hlt dC dI a ac n ((sI s18.1 8)) () hq sz) (cwS 1 hts gi_dm_X16_step_2 rfl rfl rfl (by decide +kernel) ⟨Nat.le_of_ble_eq_true rfl, Nat.le_of_ble_eq_true rfl⟩) hPc hDc hKc hS hA hN rfl hl.1 rfl (Nat.le_of_ble_eq_true rfl) dX16_step_143 (fun H locs hP1 hD1 hk1 hS => ?_)
    have hP := nd_n0 hP hk1
    exact (db_X16_step_146 C K) (q20) s18 _ _ _ h hP hD hS (lv_sub hl [0] rfl)
  · have h := nd_pos h c19
    refine lv_aload_n hx hb dX16_step_132 rfl (lv_at hl 0 rfl) ?_
    refine va_get (D := (dC, dI)) (ci := 17) (v := .int (sI s18.1 8)) (C := RX16) (T := TX16) (N := 56) hx hb hts hi_dm_X16_step_X16 hown hK hP 0 rfl rfl 47 (by decide) (hts (.fieldLink RX16 345 "TimeMachineModel$Machine" "bits" "I") (List.mem_of_getElem? (i := 11) rfl)) (fun _ h9 => h9) rfl dX16_step_133 ?_
    refine lv_goto (tgt := 146) hx hb dX16_step_136 (by decide) ?_
    exact (db_X16_step_146 C K) ((sI s18.1 8)) s18 _ _ _ h hP hD hS (lv_sub hl [0] rfl)
set_option maxHeartbeats 40000000 in
set_option maxRecDepth 100000 in
theorem db_X16_step_80 {p : Program} {l : Launch} {e : Env} {s : State} {m : MethodId} {args : Array Value} {below : List Frame} {meth : Method} {c : Code} {Q : State → Prop} {A : Nat → Prop} {dC : Nat → ClassId} {dI : Nat → Nat → Nat} {a : Nat → Nat} {ac : Nat → ClassId} {n : Nat} {r : Int32 × (St × (St))} (C : nd_C p l s m args c A (dC, dI) cX16_step 3 RX16 ow_dm_X16_step (dk_X16 ac)) (K : nd_Ki p l e (headSpec ow_dm_X16_step ({ frames := 6, cells := 0, slots := 0, locals := 139 })).room s m args below meth c Q A (dC, dI) cX16_step .int (St × (St)) (dw_X16 a ac) r) : dj_X16_step_80 p l e s m args below meth c Q A dC dI a ac (df_X16_step_80 n) r := by
  obtain ⟨hlt, hx, hb, hml, hown, hts, hN, hA, hK⟩ := id C
  intro x1 s0 H locs ls h hP hD hS hl
  unfold df_X16_step_80 at h
  refine lv_aload_n hx hb dX16_step_80 rfl (lv_at hl 0 rfl) ?_
  refine lv_aload_n hx hb dX16_step_81 rfl (lv_at hl 0 rfl) ?_
  refine va_get (D := (dC, dI)) (ci := 17) (v := .int (sI s0.1 9)) (C := RX16) (T := TX16) (N := 56) hx hb hts hi_dm_X16_step_X16 hown hK hP 0 rfl rfl 48 (by decide) (hts (.fieldLink RX16 348 "TimeMachineModel$Machine" "size" "I") (List.mem_of_getElem? (i := 12) rfl)) (fun _ h9 => h9) rfl dX16_step_82 ?_
  refine lv_iconst (v := 4) hx hb dX16_step_85 (by decide) ?_
  refine lv_icmp_ne (tgt := 107) hx hb dX16_step_86 (by decide) (fun c16 => ?_) (fun c16 => ?_)
  · have h := nd_neg h c16
    refine lv_aload_n hx hb dX16_step_107 rfl (lv_at hl 0 rfl) ?_
    refine va_get (D := (dC, dI)) (ci := 17) (v := .int (sI s0.1 8)) (C := RX16) (T := TX16) (N := 56) hx hb hts hi_dm_X16_step_X16 hown hK hP 0 rfl rfl 47 (by decide) (hts (.fieldLink RX16 345 "TimeMachineModel$Machine" "bits" "I") (List.mem_of_getElem? (i := 11) rfl)) (fun _ h9 => h9) rfl dX16_step_108 ?_
    exact (db_X16_step_111 C K) (x1) ((sI s0.1 8)) s0 _ _ _ h hP hD hS (lv_sub hl [0, 1] rfl)
  · have h := nd_pos h c16
    refine lv_aload_n hx hb dX16_step_89 rfl (lv_at hl 0 rfl) ?_
    refine va_get (D := (dC, dI)) (ci := 17) (v := .int (sI s0.1 8)) (C := RX16) (T := TX16) (N := 56) hx hb hts hi_dm_X16_step_X16 hown hK hP 0 rfl rfl 47 (by decide) (hts (.fieldLink RX16 345 "TimeMachineModel$Machine" "bits" "I") (List.mem_of_getElem? (i := 11) rfl)) (fun _ h9 => h9) rfl dX16_step_90 ?_
    refine lv_aload_n hx hb dX16_step_93 rfl (lv_at hl 0 rfl) ?_
    refine lv_iload_n hx hb dX16_step_94 rfl (lv_at hl 1 rfl) ?_
    refine lv_iconst (v := 2) hx hb dX16_step_95 (by decide) ?_
    refine lv_iadd hx hb dX16_step_96 ?_
    obtain ⟨q34, s35, hq, h⟩ := nd_b2_e h
    have hPc := hP
    have hDc := hD
    have hKc := hK
    have hFc := nd_rs hD hS hA
    refine nd_cVi (As := [.int (x1 + 2)]) (rest := [.int (sI s0.1 8), .ref (a 0)]) (q := q34) (w' := dw_X16 a ac s35) ⟨hx, hb, hml, hown, hts⟩ (fun sz => dm_X16_half l hlt dC dI a ac n ((x1 + 2)) s0 hq sz) (cwV 1 hts gi_dm_X16_step_1 rfl rfl rfl (by decide +kernel) ⟨Nat.le_of_ble_eq_true rfl, Nat.le_of_ble_eq_true rfl⟩) hPc hDc hKc hS hA hN (va_recv hKc hPc (ci := 17) (q0 := 0) rfl rfl) rfl hl.1 rfl (Nat.le_of_ble_eq_true rfl) dX16_step_97 (fun H locs hP1 hD1 hk1 hS => ?_)
    have hP := hP1
    have hD := hD1.weaken (fun k q _ h => hFc q.1 h)
    refine lv_bipush (v := 16) hx hb dX16_step_100 (by decide) ?_
    refine lv_ishl hx hb dX16_step_102 ?_
    refine lv_ior hx hb dX16_step_103 ?_
    refine lv_goto (tgt := 111) hx hb dX16_step_104 (by decide) ?_
    exact (db_X16_step_111 C K) (x1) (((sI s0.1 8) ||| ((q34 : Int32) <<< ((16 : Int32) &&& 31)))) s35 _ _ _ h hP hD hS (lv_sub hl [0, 1] rfl)
set_option maxHeartbeats 40000000 in
set_option maxRecDepth 100000 in
theorem db_X16_step_57 {p : Program} {l : Launch} {e : Env} {s : State} {m : MethodId} {args : Array Value} {below : List Frame} {meth : Method} {c : Code} {Q : State → Prop} {A : Nat → Prop} {dC : Nat → ClassId} {dI : Nat → Nat → Nat} {a : Nat → Nat} {ac : Nat → ClassId} {n : Nat} {r : Int32 × (St × (St))} (C : nd_C p l s m args c A (dC, dI) cX16_step 3 RX16 ow_dm_X16_step (dk_X16 ac)) (K : nd_Ki p l e (headSpec ow_dm_X16_step ({ frames := 6, cells := 0, slots := 0, locals := 139 })).room s m args below meth c Q A (dC, dI) cX16_step .int (St × (St)) (dw_X16 a ac) r) : dj_X16_step_57 p l e s m args below meth c Q A dC dI a ac (df_X16_step_57 n) r := by
  obtain ⟨hlt, hx, hb, hml, hown, hts, hN, hA, hK⟩ := id C
  intro x1 y1 s0 H locs ls h hP hD hS hl
  unfold df_X16_step_57 at h
  refine va_put (D := (dC, dI)) (ci := 17) (v := .int y1) (ty := .int) (C := RX16) (T := TX16) (N := 56) hx hb hts hi_dm_X16_step_X16 tyX16 tyX16_ok nmX16 hown hK hP hD hS 0 rfl rfl 48 (by decide) (hts (.fieldLink RX16 348 "TimeMachineModel$Machine" "size" "I") (List.mem_of_getElem? (i := 12) rfl)) (fun _ h9 => h9) rfl (by decide +kernel) rfl rfl (Nat.le_of_ble_eq_true rfl) dX16_step_57 (fun H locs hP hD hS => ?_)
  obtain ⟨s14, es14, h⟩ := nd_let_e h
  have hP : va_P (dC, dI) vwCl (dw_X16 a ac s14) H := by rw [es14]; exact hP
  have hD : va_D A (dw_X16 a ac s14) := by rw [es14]; exact hD
  refine lv_aload_n hx hb dX16_step_60 rfl (lv_at hl 0 rfl) ?_
  refine va_get (D := (dC, dI)) (ci := 17) (v := .int (sI s14.1 9)) (C := RX16) (T := TX16) (N := 56) hx hb hts hi_dm_X16_step_X16 hown hK hP 0 rfl rfl 48 (by decide) (hts (.fieldLink RX16 348 "TimeMachineModel$Machine" "size" "I") (List.mem_of_getElem? (i := 12) rfl)) (fun _ h9 => h9) rfl dX16_step_61 ?_
  refine lv_iconst (v := 4) hx hb dX16_step_64 (by decide) ?_
  refine lv_icmp_ne (tgt := 80) hx hb dX16_step_65 (by decide) (fun c15 => ?_) (fun c15 => ?_)
  · have h := nd_neg h c15
    exact (db_X16_step_80 C K) (x1) s14 _ _ _ h hP hD hS (lv_sub hl [0, 1] rfl)
  · have h := nd_pos h c15
    refine lv_aload_n hx hb dX16_step_68 rfl (lv_at hl 0 rfl) ?_
    refine lv_iload_n hx hb dX16_step_69 rfl (lv_at hl 1 rfl) ?_
    refine lv_iconst (v := 2) hx hb dX16_step_70 (by decide) ?_
    refine lv_iadd hx hb dX16_step_71 ?_
    obtain ⟨q37, s38, hq, h⟩ := nd_b2_e h
    have hPc := hP
    have hDc := hD
    have hKc := hK
    have hFc := nd_rs hD hS hA
    refine nd_cVi (As := [.int (x1 + 2)]) (rest := []) (q := q37) (w' := dw_X16 a ac s38) ⟨hx, hb, hml, hown, hts⟩ (fun sz => dm_X16_fetches l hlt dC dI a ac n ((x1 + 2)) s14 hq sz) (cwV 1 hts gi_dm_X16_step_0 rfl rfl rfl (by decide +kernel) ⟨Nat.le_of_ble_eq_true rfl, Nat.le_of_ble_eq_true rfl⟩) hPc hDc hKc hS hA hN (va_recv hKc hPc (ci := 17) (q0 := 0) rfl rfl) rfl hl.1 rfl (Nat.le_of_ble_eq_true rfl) dX16_step_72 (fun H locs hP1 hD1 hk1 hS => ?_)
    have hP := hP1
    have hD := hD1.weaken (fun k q _ h => hFc q.1 h)
    refine lv_if_ne (tgt := 80) hx hb dX16_step_75 (by decide) (fun c40 => ?_) (fun c40 => ?_)
    · have h := nd_neg h c40
      exact (db_X16_step_80 C K) (x1) s38 _ _ _ h hP hD hS (lv_sub hl [0, 1] rfl)
    · have h := nd_pos h c40
      refine lv_iconst (v := 1) hx hb dX16_step_78 (by decide) ?_
      exact K _ _ _ _ _ _ dX16_step_79 rfl (Option.some.inj h).symm hP hD hS
set_option maxHeartbeats 40000000 in
set_option maxRecDepth 100000 in
theorem db_X16_step_0 {p : Program} {l : Launch} {e : Env} {s : State} {m : MethodId} {args : Array Value} {below : List Frame} {meth : Method} {c : Code} {Q : State → Prop} {A : Nat → Prop} {dC : Nat → ClassId} {dI : Nat → Nat → Nat} {a : Nat → Nat} {ac : Nat → ClassId} {n : Nat} {r : Int32 × (St × (St))} (C : nd_C p l s m args c A (dC, dI) cX16_step 3 RX16 ow_dm_X16_step (dk_X16 ac)) (K : nd_Ki p l e (headSpec ow_dm_X16_step ({ frames := 6, cells := 0, slots := 0, locals := 139 })).room s m args below meth c Q A (dC, dI) cX16_step .int (St × (St)) (dw_X16 a ac) r) : dj_X16_step_0 p l e s m args below meth c Q A dC dI a ac (df_X16_step_0 n) r := by
  obtain ⟨hlt, hx, hb, hml, hown, hts, hN, hA, hK⟩ := id C
  intro s0 H locs ls h hP hD hS hl
  unfold df_X16_step_0 at h
  refine lv_aload_n hx hb dX16_step_0 rfl (lv_at hl 0 rfl) ?_
  refine va_get (D := (dC, dI)) (ci := 17) (v := .ref (a 12)) (C := RX16) (T := TX16) (N := 56) hx hb hts hi_dm_X16_step_X16 hown hK hP 0 rfl rfl 20 (by decide) (hts (.fieldLink RX16 45 "TimeMachineModel$Machine" "place" "[I") (List.mem_of_getElem? (i := 1) rfl)) (fun _ h9 => h9) rfl dX16_step_1 ?_
  refine lv_aload_n hx hb dX16_step_4 rfl (lv_at hl 0 rfl) ?_
  refine va_get (D := (dC, dI)) (ci := 17) (v := .int (sI s0.1 12)) (C := RX16) (T := TX16) (N := 56) hx hb hts hi_dm_X16_step_X16 hown hK hP 0 rfl rfl 51 (by decide) (hts (.fieldLink RX16 232 "TimeMachineModel$Machine" "p" "I") (List.mem_of_getElem? (i := 2) rfl)) (fun _ h9 => h9) rfl dX16_step_5 ?_
  obtain ⟨i1, h⟩ := nd_ck_e h
  refine va_iald (i := (sI s0.1 12)) hx hb hK hP 12 11 rfl rfl i1 dX16_step_8 ?_
  refine lv_topi (fun z2 ez2 => ?_)
  have h := nd_at h ez2
  refine lv_istore_n (lv' := [(1, .int z2), (0, .ref (a 0))]) hx hb dX16_step_9 rfl hl (by decide) rfl (fun ls hl => ?_)
  refine lv_aload_n hx hb dX16_step_10 rfl (lv_at hl 1 rfl) ?_
  refine lv_iconst (v := 0) hx hb dX16_step_11 (by decide) ?_
  refine va_put (D := (dC, dI)) (ci := 17) (v := .int 0) (ty := .int) (C := RX16) (T := TX16) (N := 56) hx hb hts hi_dm_X16_step_X16 tyX16 tyX16_ok nmX16 hown hK hP hD hS 0 rfl rfl 50 (by decide) (hts (.fieldLink RX16 336 "TimeMachineModel$Machine" "met" "I") (List.mem_of_getElem? (i := 3) rfl)) (fun _ h9 => h9) rfl (by decide +kernel) rfl rfl (Nat.le_of_ble_eq_true rfl) dX16_step_12 (fun H locs hP hD hS => ?_)
  obtain ⟨s3, es3, h⟩ := nd_let_e h
  have hP : va_P (dC, dI) vwCl (dw_X16 a ac s3) H := by rw [es3]; exact hP
  have hD : va_D A (dw_X16 a ac s3) := by rw [es3]; exact hD
  refine lv_iload_n hx hb dX16_step_15 rfl (lv_at hl 0 rfl) ?_
  refine lv_iconst (v := 1) hx hb dX16_step_16 (by decide) ?_
  refine lv_iand hx hb dX16_step_17 ?_
  refine lv_iconst (v := 1) hx hb dX16_step_18 (by decide) ?_
  refine lv_icmp_eq (tgt := 30) hx hb dX16_step_19 (by decide) (fun c4 => ?_) (fun c4 => ?_)
  · have h := nd_pos h c4
    exact (db_X16_step_30 C K)  s3 _ _ _ h hP hD hS (lv_sub hl [] rfl)
  · have h := nd_neg h c4
    refine lv_aload_n hx hb dX16_step_22 rfl (lv_at hl 1 rfl) ?_
    refine lv_iload_n hx hb dX16_step_23 rfl (lv_at hl 0 rfl) ?_
    obtain ⟨q5, s6, hq, h⟩ := nd_b2_e h
    have hPc := hP
    have hDc := hD
    have hKc := hK
    have hFc := nd_rs hD hS hA
    refine nd_cVi (As := [.int z2]) (rest := []) (q := q5) (w' := dw_X16 a ac s6) ⟨hx, hb, hml, hown, hts⟩ (fun sz => dm_X16_fetches l hlt dC dI a ac n (z2) s3 hq sz) (cwV 1 hts gi_dm_X16_step_0 rfl rfl rfl (by decide +kernel) ⟨Nat.le_of_ble_eq_true rfl, Nat.le_of_ble_eq_true rfl⟩) hPc hDc hKc hS hA hN (va_recv hKc hPc (ci := 17) (q0 := 0) rfl rfl) rfl hl.1 rfl (Nat.le_of_ble_eq_true rfl) dX16_step_24 (fun H locs hP1 hD1 hk1 hS => ?_)
    have hP := hP1
    have hD := hD1.weaken (fun k q _ h => hFc q.1 h)
    refine lv_if_ne (tgt := 32) hx hb dX16_step_27 (by decide) (fun c8 => ?_) (fun c8 => ?_)
    · have h := nd_neg h c8
      refine lv_aload_n hx hb dX16_step_32 rfl (lv_at hl 1 rfl) ?_
      refine lv_aload_n hx hb dX16_step_33 rfl (lv_at hl 1 rfl) ?_
      refine lv_iload_n hx hb dX16_step_34 rfl (lv_at hl 0 rfl) ?_
      obtain ⟨q9, s10, hq, h⟩ := nd_b2_e h
      have hPc := hP
      have hDc := hD
      have hKc := hK
      have hFc := nd_rs hD hS hA
      refine nd_cVi (As := [.int z2]) (rest := [.ref (a 0)]) (q := q9) (w' := dw_X16 a ac s10) ⟨hx, hb, hml, hown, hts⟩ (fun sz => dm_X16_half l hlt dC dI a ac n (z2) s6 hq sz) (cwV 1 hts gi_dm_X16_step_1 rfl rfl rfl (by decide +kernel) ⟨Nat.le_of_ble_eq_true rfl, Nat.le_of_ble_eq_true rfl⟩) hPc hDc hKc hS hA hN (va_recv hKc hPc (ci := 17) (q0 := 0) rfl rfl) rfl hl.1 rfl (Nat.le_of_ble_eq_true rfl) dX16_step_35 (fun H locs hP1 hD1 hk1 hS => ?_)
      have hP := hP1
      have hD := hD1.weaken (fun k q _ h => hFc q.1 h)
      refine va_put (D := (dC, dI)) (ci := 17) (v := .int q9) (ty := .int) (C := RX16) (T := TX16) (N := 56) hx hb hts hi_dm_X16_step_X16 tyX16 tyX16_ok nmX16 hown hK hP hD hS 0 rfl rfl 47 (by decide) (hts (.fieldLink RX16 345 "TimeMachineModel$Machine" "bits" "I") (List.mem_of_getElem? (i := 11) rfl)) (fun _ h9 => h9) rfl (by decide +kernel) rfl rfl (Nat.le_of_ble_eq_true rfl) dX16_step_38 (fun H locs hP hD hS => ?_)
      obtain ⟨s12, es12, h⟩ := nd_let_e h
      have hP : va_P (dC, dI) vwCl (dw_X16 a ac s12) H := by rw [es12]; exact hP
      have hD : va_D A (dw_X16 a ac s12) := by rw [es12]; exact hD
      refine lv_aload_n hx hb dX16_step_41 rfl (lv_at hl 1 rfl) ?_
      refine lv_aload_n hx hb dX16_step_42 rfl (lv_at hl 1 rfl) ?_
      refine va_get (D := (dC, dI)) (ci := 17) (v := .int (sI s12.1 8)) (C := RX16) (T := TX16) (N := 56) hx hb hts hi_dm_X16_step_X16 hown hK hP 0 rfl rfl 47 (by decide) (hts (.fieldLink RX16 345 "TimeMachineModel$Machine" "bits" "I") (List.mem_of_getElem? (i := 11) rfl)) (fun _ h9 => h9) rfl dX16_step_43 ?_
      refine lv_iconst (v := 3) hx hb dX16_step_46 (by decide) ?_
      refine lv_iand hx hb dX16_step_47 ?_
      refine lv_iconst (v := 3) hx hb dX16_step_48 (by decide) ?_
      refine lv_icmp_ne (tgt := 56) hx hb dX16_step_49 (by decide) (fun c13 => ?_) (fun c13 => ?_)
      · have h := nd_neg h c13
        refine lv_iconst (v := 2) hx hb dX16_step_56 (by decide) ?_
        exact (db_X16_step_57 C K) (z2) (2) s12 _ _ _ h hP hD hS (lv_sub hl [1, 0] rfl)
      · have h := nd_pos h c13
        refine lv_iconst (v := 4) hx hb dX16_step_52 (by decide) ?_
        refine lv_goto (tgt := 57) hx hb dX16_step_53 (by decide) ?_
        exact (db_X16_step_57 C K) (z2) (4) s12 _ _ _ h hP hD hS (lv_sub hl [1, 0] rfl)
    · have h := nd_pos h c8
      exact (db_X16_step_30 C K)  s6 _ _ _ h hP hD hS (lv_sub hl [] rfl)
set_option maxHeartbeats 40000000 in
set_option maxRecDepth 100000 in
theorem dm_X16_step (l : Launch) (hlt : l.stackTraces = false) (dC : Nat → ClassId) (dI : Nat → Nat → Nat) (a : Nat → Nat) (ac : Nat → ClassId) (n : Nat) (s0 : St × (St)) {r : Int32 × (St × (St))} (h : df_X16_step n s0 = some r) (sz : Nat) : Met l yX16_step ow_dm_X16_step ({ frames := 6, cells := 0, slots := 0, locals := 139 }) (va_Pc [.ref (a 0)] (fun U => U.heap.size = sz ∧ va_P (dC, dI) vwCl (dw_X16 a ac s0) U.heap ∧ va_K (dC, dI) vwCl (dk_X16 ac) U ∧ va_D (fun _ => True) (dw_X16 a ac s0) ∧ nv_E dI (va_A (dw_X16 a ac s0) sz) U)) (va_Qi (fun x _ => x = r.1) (fun (_ : Unit) t => va_P (dC, dI) vwCl (dw_X16 a ac r.2) t.heap ∧ va_K (dC, dI) vwCl (dk_X16 ac) t ∧ va_D (va_A (dw_X16 a ac s0) sz) (dw_X16 a ac r.2)) (va_A (dw_X16 a ac s0) sz)) 0 0 (va_A (dw_X16 a ac s0) sz) := by
  refine Met.ofW (cc := cX16_step) (maxL := 3) (ret := (some .int)) (by decide) rfl ?_
  intro p e s m args below meth c s₁ B hml hv
  obtain ⟨rfl, hsz, hP, hK, hD0, hN⟩ := hv
  have hx := B.exec
  have hb := B.bytes
  have hr := B.returns
  have hts := atoms_spec (ws := ow_dm_X16_step) B.pre
  have hown : s.vm.findClass RX16 = some m.cls := findClass_of_methodNamed B.named
  have hlocks := B.notSynchronized
  subst hsz
  have hD := hD0.self (sz := s.heap.size)
  generalize hAe : va_A (dw_X16 a ac s0) s.heap.size = A at hD hN ⊢
  have hA : ∀ q : Nat, s.heap.size ≤ q → A q := fun q h => by rw [← hAe]; exact Or.inr h
  have hl := lv_entry ([.ref (a 0)]) (n := 3) (Nat.le_of_ble_eq_true rfl)
  rw [lg_entry_eq]
  generalize (lg_sl ([.ref (a 0)]) ++ List.replicate (3 - (lg_sl ([.ref (a 0)])).length) Slot.unset).toArray = ls at hl ⊢
  have hl : lv_has ls 3 [(0, .ref (a 0))] := hl
  exact db_X16_step_0 (dC := dC) (dI := dI) (a := a) (ac := ac) (n := n) (r := r) ⟨hlt, hx, hb, hml, hown, hts, hN, hA, hK⟩ (fun pc v τ H locs ls d z er hP hD hS => by subst er; exact W.zret (v := v) hx hb hr z (fun t ht hW => ⟨⟨v, (), rfl, rfl, by rw [ht]; exact hP, va_K.moved hW.alike hK, hD⟩, hS.F ht⟩) hS.2.2 d) s0 _ _ _ h hP hD va_S.rf (lv_sub hl [0] rfl)
def ow_dm_X16_enter : List Cond := Cond.code yX16_enter cX16_enter 3 none :: ([Cond.fieldLink RX16 51 "TimeMachineModel$Machine" "savedPlace" "[I", Cond.fieldLink RX16 232 "TimeMachineModel$Machine" "p" "I", Cond.fieldLink RX16 45 "TimeMachineModel$Machine" "place" "[I", Cond.fieldLink RX16 34 "TimeMachineModel$Machine" "within" "[Z", Cond.fieldLink RX16 42 "TimeMachineModel$Machine" "x" "[I", Cond.fieldLink RX16 54 "TimeMachineModel$Machine" "handler" "[I", Cond.fieldLink RX16 48 "TimeMachineModel$Machine" "saved" "[I"] ++ (u_ws RX16 TX16 56 ++ []))
theorem gd_dm_X16_enter : ∀ w ∈ ow_dm_X16_enter, (w.onTables && w.keeps) = true ∨ ∃ ty, w = Cond.arrayClass ty := List.forall_mem_cons.mpr ⟨good_of_word rfl, List.forall_mem_append.mpr ⟨fun w h => good_of_word (List.all_eq_true.mp (by decide +kernel) w h), List.forall_mem_append.mpr ⟨gu_X16, fun _ h => nomatch h⟩⟩⟩
theorem hi_dm_X16_enter_X16 : ∀ w ∈ u_ws RX16 TX16 56, w ∈ ow_dm_X16_enter := fun w h => List.mem_cons_of_mem _ (List.mem_append_right _ (List.mem_append_left _ h))
def dj_X16_enter_2 (p : Program) (l : Launch) (e : Env) (s : State) (m : MethodId) (args : Array Value) (below : List Frame) (meth : Method) (c : Code) (Q : State → Prop) (A : Nat → Prop) (dC : Nat → ClassId) (dI : Nat → Nat → Nat) (a : Nat → Nat) (ac : Nat → ClassId) (g : Int32 → Int32 → (St × (St)) → Option (St × (St))) (r : St × (St)) : Prop := ∀ (x1 : Int32) (x2 : Int32) (s0 : St × (St)) (H : Heap) (locs : List Loc) (ls : Array Slot), g x1 x2 s0 = some r → va_P (dC, dI) vwCl (dw_X16 a ac s0) H → va_D A (dw_X16 a ac s0) → va_S A s.heap H locs → lv_has ls 3 [(0, .ref (a 0)), (1, .int x1), (2, .int x2)] → W p l e (headSpec ow_dm_X16_enter ({ frames := 0, cells := 0, slots := 0, locals := 0 })).room s m args below meth c H locs 0 0 Q (F0 m 2 ls [])
def dj_X16_enter_0 (p : Program) (l : Launch) (e : Env) (s : State) (m : MethodId) (args : Array Value) (below : List Frame) (meth : Method) (c : Code) (Q : State → Prop) (A : Nat → Prop) (dC : Nat → ClassId) (dI : Nat → Nat → Nat) (a : Nat → Nat) (ac : Nat → ClassId) (g : Int32 → (St × (St)) → Option (St × (St))) (r : St × (St)) : Prop := ∀ (v0 : Int32) (s0 : St × (St)) (H : Heap) (locs : List Loc) (ls : Array Slot), g v0 s0 = some r → va_P (dC, dI) vwCl (dw_X16 a ac s0) H → va_D A (dw_X16 a ac s0) → va_S A s.heap H locs → lv_has ls 3 [(0, .ref (a 0)), (1, .int v0)] → W p l e (headSpec ow_dm_X16_enter ({ frames := 0, cells := 0, slots := 0, locals := 0 })).room s m args below meth c H locs 0 0 Q (F0 m 0 ls [])
set_option maxHeartbeats 40000000 in
set_option maxRecDepth 100000 in
theorem dB_X16_enter_2 {p : Program} {l : Launch} {e : Env} {s : State} {m : MethodId} {args : Array Value} {below : List Frame} {meth : Method} {c : Code} {Q : State → Prop} {A : Nat → Prop} {dC : Nat → ClassId} {dI : Nat → Nat → Nat} {a : Nat → Nat} {ac : Nat → ClassId} {n : Nat} {r : St × (St)} (C : nd_C p l s m args c A (dC, dI) cX16_enter 3 RX16 ow_dm_X16_enter (dk_X16 ac)) (K : nd_Kv p l e (headSpec ow_dm_X16_enter ({ frames := 0, cells := 0, slots := 0, locals := 0 })).room s m args below meth c Q A (dC, dI) cX16_enter (St × (St)) (dw_X16 a ac) r) {g2 : Int32 → Int32 → (St × (St)) → Option (St × (St))} (J2 : dj_X16_enter_2 p l e s m args below meth c Q A dC dI a ac g2 r) : dj_X16_enter_2 p l e s m args below meth c Q A dC dI a ac (dF_X16_enter_2 n g2) r := by
  obtain ⟨hlt, hx, hb, hml, hown, hts, hN, hA, hK⟩ := id C
  intro x1 x2 s0 H locs ls h hP hD hS hl
  unfold dF_X16_enter_2 at h
  refine lv_iload_n hx hb dX16_enter_2 rfl (lv_at hl 2 rfl) ?_
  refine lv_bipush (v := 32) hx hb dX16_enter_3 (by decide) ?_
  refine lv_icmp_ge (tgt := 42) hx hb dX16_enter_5 (by decide) (fun c1 => ?_) (fun c1 => ?_)
  · have h := nd_pos h c1
    refine lv_aload_n hx hb dX16_enter_42 rfl (lv_at hl 0 rfl) ?_
    refine va_get (D := (dC, dI)) (ci := 17) (v := .ref (a 14)) (C := RX16) (T := TX16) (N := 56) hx hb hts hi_dm_X16_enter_X16 hown hK hP 0 rfl rfl 22 (by decide) (hts (.fieldLink RX16 51 "TimeMachineModel$Machine" "savedPlace" "[I") (List.mem_of_getElem? (i := 1) rfl)) (fun _ h9 => h9) rfl dX16_enter_43 ?_
    refine lv_aload_n hx hb dX16_enter_46 rfl (lv_at hl 0 rfl) ?_
    refine va_get (D := (dC, dI)) (ci := 17) (v := .int (sI s0.1 12)) (C := RX16) (T := TX16) (N := 56) hx hb hts hi_dm_X16_enter_X16 hown hK hP 0 rfl rfl 51 (by decide) (hts (.fieldLink RX16 232 "TimeMachineModel$Machine" "p" "I") (List.mem_of_getElem? (i := 2) rfl)) (fun _ h9 => h9) rfl dX16_enter_47 ?_
    refine lv_aload_n hx hb dX16_enter_50 rfl (lv_at hl 0 rfl) ?_
    refine va_get (D := (dC, dI)) (ci := 17) (v := .ref (a 12)) (C := RX16) (T := TX16) (N := 56) hx hb hts hi_dm_X16_enter_X16 hown hK hP 0 rfl rfl 20 (by decide) (hts (.fieldLink RX16 45 "TimeMachineModel$Machine" "place" "[I") (List.mem_of_getElem? (i := 3) rfl)) (fun _ h9 => h9) rfl dX16_enter_51 ?_
    refine lv_aload_n hx hb dX16_enter_54 rfl (lv_at hl 0 rfl) ?_
    refine va_get (D := (dC, dI)) (ci := 17) (v := .int (sI s0.1 12)) (C := RX16) (T := TX16) (N := 56) hx hb hts hi_dm_X16_enter_X16 hown hK hP 0 rfl rfl 51 (by decide) (hts (.fieldLink RX16 232 "TimeMachineModel$Machine" "p" "I") (List.mem_of_getElem? (i := 2) rfl)) (fun _ h9 => h9) rfl dX16_enter_55 ?_
    obtain ⟨i2, h⟩ := nd_ck_e h
    refine va_iald (i := (sI s0.1 12)) hx hb hK hP 12 11 rfl rfl i2 dX16_enter_58 ?_
    obtain ⟨i3, h⟩ := nd_ck_e h
    refine va_iast (i := (sI s0.1 12)) (x := (sR s0.1 10 (Int32.toNatClampNeg (sI s0.1 12)))) hx hb hK hP hD hS 14 13 rfl rfl i3 dX16_enter_59 (fun H locs hP hD hS => ?_)
    obtain ⟨s4, es4, h⟩ := nd_let_e h
    have hP : va_P (dC, dI) vwCl (dw_X16 a ac s4) H := by rw [es4]; exact hP
    have hD : va_D A (dw_X16 a ac s4) := by rw [es4]; exact hD
    refine lv_aload_n hx hb dX16_enter_60 rfl (lv_at hl 0 rfl) ?_
    refine va_get (D := (dC, dI)) (ci := 17) (v := .ref (a 9)) (C := RX16) (T := TX16) (N := 56) hx hb hts hi_dm_X16_enter_X16 hown hK hP 0 rfl rfl 17 (by decide) (hts (.fieldLink RX16 34 "TimeMachineModel$Machine" "within" "[Z") (List.mem_of_getElem? (i := 4) rfl)) (fun _ h9 => h9) rfl dX16_enter_61 ?_
    refine lv_aload_n hx hb dX16_enter_64 rfl (lv_at hl 0 rfl) ?_
    refine va_get (D := (dC, dI)) (ci := 17) (v := .int (sI s4.1 12)) (C := RX16) (T := TX16) (N := 56) hx hb hts hi_dm_X16_enter_X16 hown hK hP 0 rfl rfl 51 (by decide) (hts (.fieldLink RX16 232 "TimeMachineModel$Machine" "p" "I") (List.mem_of_getElem? (i := 2) rfl)) (fun _ h9 => h9) rfl dX16_enter_65 ?_
    refine lv_iconst (v := 1) hx hb dX16_enter_68 (by decide) ?_
    obtain ⟨i5, h⟩ := nd_ck_e h
    refine va_zast (i := (sI s4.1 12)) (x := 1) hx hb hK hP hD hS 9 8 rfl rfl i5 dX16_enter_69 (fun H locs hP hD hS => ?_)
    obtain ⟨s6, es6, h⟩ := nd_let_e h
    have hP : va_P (dC, dI) vwCl (dw_X16 a ac s6) H := by rw [es6]; exact hP
    have hD : va_D A (dw_X16 a ac s6) := by rw [es6]; exact hD
    refine lv_aload_n hx hb dX16_enter_70 rfl (lv_at hl 0 rfl) ?_
    refine va_get (D := (dC, dI)) (ci := 17) (v := .ref (a 11)) (C := RX16) (T := TX16) (N := 56) hx hb hts hi_dm_X16_enter_X16 hown hK hP 0 rfl rfl 19 (by decide) (hts (.fieldLink RX16 42 "TimeMachineModel$Machine" "x" "[I") (List.mem_of_getElem? (i := 5) rfl)) (fun _ h9 => h9) rfl dX16_enter_71 ?_
    refine lv_bipush (v := 32) hx hb dX16_enter_74 (by decide) ?_
    refine lv_aload_n hx hb dX16_enter_76 rfl (lv_at hl 0 rfl) ?_
    refine va_get (D := (dC, dI)) (ci := 17) (v := .int (sI s6.1 12)) (C := RX16) (T := TX16) (N := 56) hx hb hts hi_dm_X16_enter_X16 hown hK hP 0 rfl rfl 51 (by decide) (hts (.fieldLink RX16 232 "TimeMachineModel$Machine" "p" "I") (List.mem_of_getElem? (i := 2) rfl)) (fun _ h9 => h9) rfl dX16_enter_77 ?_
    refine lv_imul hx hb dX16_enter_80 ?_
    refine lv_bipush (v := 10) hx hb dX16_enter_81 (by decide) ?_
    refine lv_iadd hx hb dX16_enter_83 ?_
    refine lv_iload_n hx hb dX16_enter_84 rfl (lv_at hl 1 rfl) ?_
    obtain ⟨i7, h⟩ := nd_ck_e h
    refine va_iast (i := ((32 * (sI s6.1 12)) + 10)) (x := x1) hx hb hK hP hD hS 11 10 rfl rfl i7 dX16_enter_85 (fun H locs hP hD hS => ?_)
    obtain ⟨s8, es8, h⟩ := nd_let_e h
    have hP : va_P (dC, dI) vwCl (dw_X16 a ac s8) H := by rw [es8]; exact hP
    have hD : va_D A (dw_X16 a ac s8) := by rw [es8]; exact hD
    refine lv_aload_n hx hb dX16_enter_86 rfl (lv_at hl 0 rfl) ?_
    refine va_get (D := (dC, dI)) (ci := 17) (v := .ref (a 12)) (C := RX16) (T := TX16) (N := 56) hx hb hts hi_dm_X16_enter_X16 hown hK hP 0 rfl rfl 20 (by decide) (hts (.fieldLink RX16 45 "TimeMachineModel$Machine" "place" "[I") (List.mem_of_getElem? (i := 3) rfl)) (fun _ h9 => h9) rfl dX16_enter_87 ?_
    refine lv_aload_n hx hb dX16_enter_90 rfl (lv_at hl 0 rfl) ?_
    refine va_get (D := (dC, dI)) (ci := 17) (v := .int (sI s8.1 12)) (C := RX16) (T := TX16) (N := 56) hx hb hts hi_dm_X16_enter_X16 hown hK hP 0 rfl rfl 51 (by decide) (hts (.fieldLink RX16 232 "TimeMachineModel$Machine" "p" "I") (List.mem_of_getElem? (i := 2) rfl)) (fun _ h9 => h9) rfl dX16_enter_91 ?_
    refine lv_aload_n hx hb dX16_enter_94 rfl (lv_at hl 0 rfl) ?_
    refine va_get (D := (dC, dI)) (ci := 17) (v := .ref (a 15)) (C := RX16) (T := TX16) (N := 56) hx hb hts hi_dm_X16_enter_X16 hown hK hP 0 rfl rfl 23 (by decide) (hts (.fieldLink RX16 54 "TimeMachineModel$Machine" "handler" "[I") (List.mem_of_getElem? (i := 6) rfl)) (fun _ h9 => h9) rfl dX16_enter_95 ?_
    refine lv_bipush (v := 16) hx hb dX16_enter_98 (by decide) ?_
    refine lv_aload_n hx hb dX16_enter_100 rfl (lv_at hl 0 rfl) ?_
    refine va_get (D := (dC, dI)) (ci := 17) (v := .int (sI s8.1 12)) (C := RX16) (T := TX16) (N := 56) hx hb hts hi_dm_X16_enter_X16 hown hK hP 0 rfl rfl 51 (by decide) (hts (.fieldLink RX16 232 "TimeMachineModel$Machine" "p" "I") (List.mem_of_getElem? (i := 2) rfl)) (fun _ h9 => h9) rfl dX16_enter_101 ?_
    refine lv_imul hx hb dX16_enter_104 ?_
    refine lv_iload_n hx hb dX16_enter_105 rfl (lv_at hl 1 rfl) ?_
    refine lv_iadd hx hb dX16_enter_106 ?_
    obtain ⟨i9, h⟩ := nd_ck_e h
    refine va_iald (i := ((16 * (sI s8.1 12)) + x1)) hx hb hK hP 15 14 rfl rfl i9 dX16_enter_107 ?_
    obtain ⟨i10, h⟩ := nd_ck_e h
    refine va_iast (i := (sI s8.1 12)) (x := (sR s8.1 13 (Int32.toNatClampNeg ((16 * (sI s8.1 12)) + x1)))) hx hb hK hP hD hS 12 11 rfl rfl i10 dX16_enter_108 (fun H locs hP hD hS => ?_)
    obtain ⟨s11, es11, h⟩ := nd_let_e h
    have hP : va_P (dC, dI) vwCl (dw_X16 a ac s11) H := by rw [es11]; exact hP
    have hD : va_D A (dw_X16 a ac s11) := by rw [es11]; exact hD
    exact K _ _ _ _ _ dX16_enter_109 (Option.some.inj h).symm hP hD hS
  · have h := nd_neg h c1
    refine lv_aload_n hx hb dX16_enter_8 rfl (lv_at hl 0 rfl) ?_
    refine va_get (D := (dC, dI)) (ci := 17) (v := .ref (a 13)) (C := RX16) (T := TX16) (N := 56) hx hb hts hi_dm_X16_enter_X16 hown hK hP 0 rfl rfl 21 (by decide) (hts (.fieldLink RX16 48 "TimeMachineModel$Machine" "saved" "[I") (List.mem_of_getElem? (i := 7) rfl)) (fun _ h9 => h9) rfl dX16_enter_9 ?_
    refine lv_bipush (v := 32) hx hb dX16_enter_12 (by decide) ?_
    refine lv_aload_n hx hb dX16_enter_14 rfl (lv_at hl 0 rfl) ?_
    refine va_get (D := (dC, dI)) (ci := 17) (v := .int (sI s0.1 12)) (C := RX16) (T := TX16) (N := 56) hx hb hts hi_dm_X16_enter_X16 hown hK hP 0 rfl rfl 51 (by decide) (hts (.fieldLink RX16 232 "TimeMachineModel$Machine" "p" "I") (List.mem_of_getElem? (i := 2) rfl)) (fun _ h9 => h9) rfl dX16_enter_15 ?_
    refine lv_imul hx hb dX16_enter_18 ?_
    refine lv_iload_n hx hb dX16_enter_19 rfl (lv_at hl 2 rfl) ?_
    refine lv_iadd hx hb dX16_enter_20 ?_
    refine lv_aload_n hx hb dX16_enter_21 rfl (lv_at hl 0 rfl) ?_
    refine va_get (D := (dC, dI)) (ci := 17) (v := .ref (a 11)) (C := RX16) (T := TX16) (N := 56) hx hb hts hi_dm_X16_enter_X16 hown hK hP 0 rfl rfl 19 (by decide) (hts (.fieldLink RX16 42 "TimeMachineModel$Machine" "x" "[I") (List.mem_of_getElem? (i := 5) rfl)) (fun _ h9 => h9) rfl dX16_enter_22 ?_
    refine lv_bipush (v := 32) hx hb dX16_enter_25 (by decide) ?_
    refine lv_aload_n hx hb dX16_enter_27 rfl (lv_at hl 0 rfl) ?_
    refine va_get (D := (dC, dI)) (ci := 17) (v := .int (sI s0.1 12)) (C := RX16) (T := TX16) (N := 56) hx hb hts hi_dm_X16_enter_X16 hown hK hP 0 rfl rfl 51 (by decide) (hts (.fieldLink RX16 232 "TimeMachineModel$Machine" "p" "I") (List.mem_of_getElem? (i := 2) rfl)) (fun _ h9 => h9) rfl dX16_enter_28 ?_
    refine lv_imul hx hb dX16_enter_31 ?_
    refine lv_iload_n hx hb dX16_enter_32 rfl (lv_at hl 2 rfl) ?_
    refine lv_iadd hx hb dX16_enter_33 ?_
    obtain ⟨i12, h⟩ := nd_ck_e h
    refine va_iald (i := ((32 * (sI s0.1 12)) + x2)) hx hb hK hP 11 10 rfl rfl i12 dX16_enter_34 ?_
    obtain ⟨i13, h⟩ := nd_ck_e h
    refine va_iast (i := ((32 * (sI s0.1 12)) + x2)) (x := (sR s0.1 9 (Int32.toNatClampNeg ((32 * (sI s0.1 12)) + x2)))) hx hb hK hP hD hS 13 12 rfl rfl i13 dX16_enter_35 (fun H locs hP hD hS => ?_)
    obtain ⟨s14, es14, h⟩ := nd_let_e h
    have hP : va_P (dC, dI) vwCl (dw_X16 a ac s14) H := by rw [es14]; exact hP
    have hD : va_D A (dw_X16 a ac s14) := by rw [es14]; exact hD
    obtain ⟨z15, ez15, h⟩ := nd_let_e h
    refine lv_iinc (v := z15) (lv' := [(2, .int z15), (0, .ref (a 0)), (1, .int x1)]) hx hb dX16_enter_36 hl (k := 2) rfl (by rw [ez15]) (by decide) rfl (fun ls hl => ?_)
    refine lv_goto (tgt := 2) hx hb dX16_enter_39 (by decide) ?_
    exact (J2) (x1) (z15) s14 _ _ _ h hP hD hS (lv_sub hl [1, 2, 0] rfl)
set_option maxHeartbeats 40000000 in
set_option maxRecDepth 100000 in
theorem db_X16_enter_2 {p : Program} {l : Launch} {e : Env} {s : State} {m : MethodId} {args : Array Value} {below : List Frame} {meth : Method} {c : Code} {Q : State → Prop} {A : Nat → Prop} {dC : Nat → ClassId} {dI : Nat → Nat → Nat} {a : Nat → Nat} {ac : Nat → ClassId} {n : Nat} {r : St × (St)} (C : nd_C p l s m args c A (dC, dI) cX16_enter 3 RX16 ow_dm_X16_enter (dk_X16 ac)) (K : nd_Kv p l e (headSpec ow_dm_X16_enter ({ frames := 0, cells := 0, slots := 0, locals := 0 })).room s m args below meth c Q A (dC, dI) cX16_enter (St × (St)) (dw_X16 a ac) r) (k : Nat) : dj_X16_enter_2 p l e s m args below meth c Q A dC dI a ac (df_X16_enter_2 n k) r := by
  induction k with
  | zero => intro x1 x2 s0 H locs ls h; exact nomatch (show (none : Option (St × (St))) = some r from h)
  | succ k ih => exact dB_X16_enter_2 C K ih
set_option maxHeartbeats 40000000 in
set_option maxRecDepth 100000 in
theorem db_X16_enter_0 {p : Program} {l : Launch} {e : Env} {s : State} {m : MethodId} {args : Array Value} {below : List Frame} {meth : Method} {c : Code} {Q : State → Prop} {A : Nat → Prop} {dC : Nat → ClassId} {dI : Nat → Nat → Nat} {a : Nat → Nat} {ac : Nat → ClassId} {n : Nat} {r : St × (St)} (C : nd_C p l s m args c A (dC, dI) cX16_enter 3 RX16 ow_dm_X16_enter (dk_X16 ac)) (K : nd_Kv p l e (headSpec ow_dm_X16_enter ({ frames := 0, cells := 0, slots := 0, locals := 0 })).room s m args below meth c Q A (dC, dI) cX16_enter (St × (St)) (dw_X16 a ac) r) : dj_X16_enter_0 p l e s m args below meth c Q A dC dI a ac (df_X16_enter_0 n) r := by
  obtain ⟨hlt, hx, hb, hml, hown, hts, hN, hA, hK⟩ := id C
  intro v0 s0 H locs ls h hP hD hS hl
  unfold df_X16_enter_0 at h
  refine lv_iconst (v := 0) hx hb dX16_enter_0 (by decide) ?_
  refine lv_istore_n (lv' := [(2, .int 0), (0, .ref (a 0)), (1, .int v0)]) hx hb dX16_enter_1 rfl hl (by decide) rfl (fun ls hl => ?_)
  exact (db_X16_enter_2 C K n) (v0) (0) s0 _ _ _ h hP hD hS (lv_sub hl [1, 2, 0] rfl)
set_option maxHeartbeats 40000000 in
set_option maxRecDepth 100000 in
theorem dm_X16_enter (l : Launch) (hlt : l.stackTraces = false) (dC : Nat → ClassId) (dI : Nat → Nat → Nat) (a : Nat → Nat) (ac : Nat → ClassId) (n : Nat) (v0 : Int32) (s0 : St × (St)) {r : St × (St)} (h : df_X16_enter n v0 s0 = some r) (sz : Nat) : Met l yX16_enter ow_dm_X16_enter ({ frames := 0, cells := 0, slots := 0, locals := 0 }) (va_Pc [.ref (a 0), .int v0] (fun U => U.heap.size = sz ∧ va_P (dC, dI) vwCl (dw_X16 a ac s0) U.heap ∧ va_K (dC, dI) vwCl (dk_X16 ac) U ∧ va_D (fun _ => True) (dw_X16 a ac s0) ∧ nv_E dI (va_A (dw_X16 a ac s0) sz) U)) (va_Qv (fun _ => True) (fun (_ : Unit) t => va_P (dC, dI) vwCl (dw_X16 a ac r) t.heap ∧ va_K (dC, dI) vwCl (dk_X16 ac) t ∧ va_D (va_A (dw_X16 a ac s0) sz) (dw_X16 a ac r)) (va_A (dw_X16 a ac s0) sz)) 0 0 (va_A (dw_X16 a ac s0) sz) := by
  refine Met.ofW (cc := cX16_enter) (maxL := 3) (ret := none) (by decide) rfl ?_
  intro p e s m args below meth c s₁ B hml hv
  obtain ⟨rfl, hsz, hP, hK, hD0, hN⟩ := hv
  have hx := B.exec
  have hb := B.bytes
  have hr := B.returns
  have hts := atoms_spec (ws := ow_dm_X16_enter) B.pre
  have hown : s.vm.findClass RX16 = some m.cls := findClass_of_methodNamed B.named
  have hlocks := B.notSynchronized
  subst hsz
  have hD := hD0.self (sz := s.heap.size)
  generalize hAe : va_A (dw_X16 a ac s0) s.heap.size = A at hD hN ⊢
  have hA : ∀ q : Nat, s.heap.size ≤ q → A q := fun q h => by rw [← hAe]; exact Or.inr h
  have hl := lv_entry ([.ref (a 0), .int v0]) (n := 3) (Nat.le_of_ble_eq_true rfl)
  rw [lg_entry_eq]
  generalize (lg_sl ([.ref (a 0), .int v0]) ++ List.replicate (3 - (lg_sl ([.ref (a 0), .int v0])).length) Slot.unset).toArray = ls at hl ⊢
  have hl : lv_has ls 3 [(0, .ref (a 0)), (1, .int v0)] := hl
  exact db_X16_enter_0 (dC := dC) (dI := dI) (a := a) (ac := ac) (n := n) (r := r) ⟨hlt, hx, hb, hml, hown, hts, hN, hA, hK⟩ (fun pc τ H locs ls d er hP hD hS => by subst er; exact W.vret hx hb hr (fun t ht hW => ⟨⟨(), rfl, trivial, by rw [ht]; exact hP, va_K.moved hW.alike hK, hD⟩, hS.F ht⟩) hS.2.2 d) v0 s0 _ _ _ h hP hD va_S.rf (lv_sub hl [0, 1] rfl)
def ow_dm_X16_trap : List Cond := Cond.code yX16_trap cX16_trap 2 none :: ([Cond.fieldLink RX16 54 "TimeMachineModel$Machine" "handler" "[I", Cond.fieldLink RX16 232 "TimeMachineModel$Machine" "p" "I", Cond.methodLink RX16 282 yX16_end, Cond.instanceMethod yX16_end, Cond.selects RX16 yX16_end yX16_end, Cond.initialized RX16, Cond.fieldLink RX16 34 "TimeMachineModel$Machine" "within" "[Z", Cond.methodLink RX16 285 yX16_enter, Cond.instanceMethod yX16_enter, Cond.selects RX16 yX16_enter yX16_enter] ++ (u_ws RX16 TX16 56 ++ (ow_dm_X16_end ++ (ow_dm_X16_enter ++ []))))
theorem gd_dm_X16_trap : ∀ w ∈ ow_dm_X16_trap, (w.onTables && w.keeps) = true ∨ ∃ ty, w = Cond.arrayClass ty := List.forall_mem_cons.mpr ⟨good_of_word rfl, List.forall_mem_append.mpr ⟨fun w h => good_of_word (List.all_eq_true.mp (by decide +kernel) w h), List.forall_mem_append.mpr ⟨gu_X16, List.forall_mem_append.mpr ⟨gd_dm_X16_end, List.forall_mem_append.mpr ⟨gd_dm_X16_enter, fun _ h => nomatch h⟩⟩⟩⟩⟩
theorem hi_dm_X16_trap_X16 : ∀ w ∈ u_ws RX16 TX16 56, w ∈ ow_dm_X16_trap := fun w h => List.mem_cons_of_mem _ (List.mem_append_right _ (List.mem_append_left _ h))
theorem gi_dm_X16_trap_0 : GoodIn ow_dm_X16_trap (wsV RX16 282 RX16 yX16_end ow_dm_X16_end) := goodIn_app (goodIn_of _ (by decide +kernel)) (fun w h => ⟨List.mem_cons_of_mem _ (List.mem_append_right _ (List.mem_append_right _ (List.mem_append_left _ h))), gd_dm_X16_end w h⟩)
theorem gi_dm_X16_trap_1 : GoodIn ow_dm_X16_trap (wsV RX16 285 RX16 yX16_enter ow_dm_X16_enter) := goodIn_app (goodIn_of _ (by decide +kernel)) (fun w h => ⟨List.mem_cons_of_mem _ (List.mem_append_right _ (List.mem_append_right _ (List.mem_append_right _ (List.mem_append_left _ h)))), gd_dm_X16_enter w h⟩)
def dj_X16_trap_50 (p : Program) (l : Launch) (e : Env) (s : State) (m : MethodId) (args : Array Value) (below : List Frame) (meth : Method) (c : Code) (Q : State → Prop) (A : Nat → Prop) (dC : Nat → ClassId) (dI : Nat → Nat → Nat) (a : Nat → Nat) (ac : Nat → ClassId) (g : (St × (St)) → Option (St × (St))) (r : St × (St)) : Prop := ∀ (s0 : St × (St)) (H : Heap) (locs : List Loc) (ls : Array Slot), g s0 = some r → va_P (dC, dI) vwCl (dw_X16 a ac s0) H → va_D A (dw_X16 a ac s0) → va_S A s.heap H locs → lv_has ls 2 [] → W p l e (headSpec ow_dm_X16_trap ({ frames := 3, cells := 0, slots := 0, locals := 68 })).room s m args below meth c H locs 0 0 Q (F0 m 50 ls [])
def dj_X16_trap_37 (p : Program) (l : Launch) (e : Env) (s : State) (m : MethodId) (args : Array Value) (below : List Frame) (meth : Method) (c : Code) (Q : State → Prop) (A : Nat → Prop) (dC : Nat → ClassId) (dI : Nat → Nat → Nat) (a : Nat → Nat) (ac : Nat → ClassId) (g : Int32 → (St × (St)) → Option (St × (St))) (r : St × (St)) : Prop := ∀ (x1 : Int32) (s0 : St × (St)) (H : Heap) (locs : List Loc) (ls : Array Slot), g x1 s0 = some r → va_P (dC, dI) vwCl (dw_X16 a ac s0) H → va_D A (dw_X16 a ac s0) → va_S A s.heap H locs → lv_has ls 2 [(0, .ref (a 0)), (1, .int x1)] → W p l e (headSpec ow_dm_X16_trap ({ frames := 3, cells := 0, slots := 0, locals := 68 })).room s m args below meth c H locs 0 0 Q (F0 m 37 ls [])
def dj_X16_trap_0 (p : Program) (l : Launch) (e : Env) (s : State) (m : MethodId) (args : Array Value) (below : List Frame) (meth : Method) (c : Code) (Q : State → Prop) (A : Nat → Prop) (dC : Nat → ClassId) (dI : Nat → Nat → Nat) (a : Nat → Nat) (ac : Nat → ClassId) (g : Int32 → (St × (St)) → Option (St × (St))) (r : St × (St)) : Prop := ∀ (v0 : Int32) (s0 : St × (St)) (H : Heap) (locs : List Loc) (ls : Array Slot), g v0 s0 = some r → va_P (dC, dI) vwCl (dw_X16 a ac s0) H → va_D A (dw_X16 a ac s0) → va_S A s.heap H locs → lv_has ls 2 [(0, .ref (a 0)), (1, .int v0)] → W p l e (headSpec ow_dm_X16_trap ({ frames := 3, cells := 0, slots := 0, locals := 68 })).room s m args below meth c H locs 0 0 Q (F0 m 0 ls [])
set_option maxHeartbeats 40000000 in
set_option maxRecDepth 100000 in
theorem db_X16_trap_50 {p : Program} {l : Launch} {e : Env} {s : State} {m : MethodId} {args : Array Value} {below : List Frame} {meth : Method} {c : Code} {Q : State → Prop} {A : Nat → Prop} {dC : Nat → ClassId} {dI : Nat → Nat → Nat} {a : Nat → Nat} {ac : Nat → ClassId} {n : Nat} {r : St × (St)} (C : nd_C p l s m args c A (dC, dI) cX16_trap 2 RX16 ow_dm_X16_trap (dk_X16 ac)) (K : nd_Kv p l e (headSpec ow_dm_X16_trap ({ frames := 3, cells := 0, slots := 0, locals := 68 })).room s m args below meth c Q A (dC, dI) cX16_trap (St × (St)) (dw_X16 a ac) r) : dj_X16_trap_50 p l e s m args below meth c Q A dC dI a ac (df_X16_trap_50 n) r := by
  obtain ⟨hlt, hx, hb, hml, hown, hts, hN, hA, hK⟩ := id C
  intro s0 H locs ls h hP hD hS hl
  unfold df_X16_trap_50 at h
  exact K _ _ _ _ _ dX16_trap_50 (Option.some.inj h).symm hP hD hS
set_option maxHeartbeats 40000000 in
set_option maxRecDepth 100000 in
theorem db_X16_trap_37 {p : Program} {l : Launch} {e : Env} {s : State} {m : MethodId} {args : Array Value} {below : List Frame} {meth : Method} {c : Code} {Q : State → Prop} {A : Nat → Prop} {dC : Nat → ClassId} {dI : Nat → Nat → Nat} {a : Nat → Nat} {ac : Nat → ClassId} {n : Nat} {r : St × (St)} (C : nd_C p l s m args c A (dC, dI) cX16_trap 2 RX16 ow_dm_X16_trap (dk_X16 ac)) (K : nd_Kv p l e (headSpec ow_dm_X16_trap ({ frames := 3, cells := 0, slots := 0, locals := 68 })).room s m args below meth c Q A (dC, dI) cX16_trap (St × (St)) (dw_X16 a ac) r) : dj_X16_trap_37 p l e s m args below meth c Q A dC dI a ac (df_X16_trap_37 n) r := by
  obtain ⟨hlt, hx, hb, hml, hown, hts, hN, hA, hK⟩ := id C
  intro x1 s0 H locs ls h hP hD hS hl
  unfold df_X16_trap_37 at h
  refine lv_aload_n hx hb dX16_trap_37 rfl (lv_at hl 0 rfl) ?_
  refine lv_aload_n hx hb dX16_trap_38 rfl (lv_at hl 0 rfl) ?_
  refine va_get (D := (dC, dI)) (ci := 17) (v := .int (sI s0.1 12)) (C := RX16) (T := TX16) (N := 56) hx hb hts hi_dm_X16_trap_X16 hown hK hP 0 rfl rfl 51 (by decide) (hts (.fieldLink RX16 232 "TimeMachineModel$Machine" "p" "I") (List.mem_of_getElem? (i := 2) rfl)) (fun _ h9 => h9) rfl dX16_trap_39 ?_
  refine lv_sipush (v := 128) hx hb dX16_trap_42 (by decide) ?_
  refine lv_iload_n hx hb dX16_trap_45 rfl (lv_at hl 1 rfl) ?_
  refine lv_iadd hx hb dX16_trap_46 ?_
  obtain ⟨s4, hq, h⟩ := nd_b1_e h
  have hPc := hP
  have hDc := hD
  have hKc := hK
  have hFc := nd_rs hD hS hA
  refine nd_cVv (As := [.int (sI s0.1 12), .int (128 + x1)]) (rest := []) (w' := dw_X16 a ac s4) ⟨hx, hb, hml, hown, hts⟩ (fun sz => dm_X16_end l hlt dC dI a ac n ((sI s0.1 12)) ((128 + x1)) s0 hq sz) (cwV 2 hts gi_dm_X16_trap_0 rfl rfl rfl (by decide +kernel) ⟨Nat.le_of_ble_eq_true rfl, Nat.le_of_ble_eq_true rfl⟩) hPc hDc hKc hS hA hN (va_recv hKc hPc (ci := 17) (q0 := 0) rfl rfl) rfl hl.1 rfl (Nat.le_of_ble_eq_true rfl) dX16_trap_47 (fun H locs hP1 hD1 hk1 hS => ?_)
  have hP := hP1
  have hD := hD1.weaken (fun k q _ h => hFc q.1 h)
  exact (db_X16_trap_50 C K)  s4 _ _ _ h hP hD hS (lv_sub hl [] rfl)
set_option maxHeartbeats 40000000 in
set_option maxRecDepth 100000 in
theorem db_X16_trap_0 {p : Program} {l : Launch} {e : Env} {s : State} {m : MethodId} {args : Array Value} {below : List Frame} {meth : Method} {c : Code} {Q : State → Prop} {A : Nat → Prop} {dC : Nat → ClassId} {dI : Nat → Nat → Nat} {a : Nat → Nat} {ac : Nat → ClassId} {n : Nat} {r : St × (St)} (C : nd_C p l s m args c A (dC, dI) cX16_trap 2 RX16 ow_dm_X16_trap (dk_X16 ac)) (K : nd_Kv p l e (headSpec ow_dm_X16_trap ({ frames := 3, cells := 0, slots := 0, locals := 68 })).room s m args below meth c Q A (dC, dI) cX16_trap (St × (St)) (dw_X16 a ac) r) : dj_X16_trap_0 p l e s m args below meth c Q A dC dI a ac (df_X16_trap_0 n) r := by
  obtain ⟨hlt, hx, hb, hml, hown, hts, hN, hA, hK⟩ := id C
  intro v0 s0 H locs ls h hP hD hS hl
  unfold df_X16_trap_0 at h
  refine lv_aload_n hx hb dX16_trap_0 rfl (lv_at hl 0 rfl) ?_
  refine va_get (D := (dC, dI)) (ci := 17) (v := .ref (a 15)) (C := RX16) (T := TX16) (N := 56) hx hb hts hi_dm_X16_trap_X16 hown hK hP 0 rfl rfl 23 (by decide) (hts (.fieldLink RX16 54 "TimeMachineModel$Machine" "handler" "[I") (List.mem_of_getElem? (i := 1) rfl)) (fun _ h9 => h9) rfl dX16_trap_1 ?_
  refine lv_bipush (v := 16) hx hb dX16_trap_4 (by decide) ?_
  refine lv_aload_n hx hb dX16_trap_6 rfl (lv_at hl 0 rfl) ?_
  refine va_get (D := (dC, dI)) (ci := 17) (v := .int (sI s0.1 12)) (C := RX16) (T := TX16) (N := 56) hx hb hts hi_dm_X16_trap_X16 hown hK hP 0 rfl rfl 51 (by decide) (hts (.fieldLink RX16 232 "TimeMachineModel$Machine" "p" "I") (List.mem_of_getElem? (i := 2) rfl)) (fun _ h9 => h9) rfl dX16_trap_7 ?_
  refine lv_imul hx hb dX16_trap_10 ?_
  refine lv_iload_n hx hb dX16_trap_11 rfl (lv_at hl 1 rfl) ?_
  refine lv_iadd hx hb dX16_trap_12 ?_
  obtain ⟨i1, h⟩ := nd_ck_e h
  refine va_iald (i := ((16 * (sI s0.1 12)) + v0)) hx hb hK hP 15 14 rfl rfl i1 dX16_trap_13 ?_
  refine lv_if_eq (tgt := 37) hx hb dX16_trap_14 (by decide) (fun c2 => ?_) (fun c2 => ?_)
  · have h := nd_pos h c2
    exact (db_X16_trap_37 C K) (v0) s0 _ _ _ h hP hD hS (lv_sub hl [0, 1] rfl)
  · have h := nd_neg h c2
    refine lv_aload_n hx hb dX16_trap_17 rfl (lv_at hl 0 rfl) ?_
    refine va_get (D := (dC, dI)) (ci := 17) (v := .ref (a 9)) (C := RX16) (T := TX16) (N := 56) hx hb hts hi_dm_X16_trap_X16 hown hK hP 0 rfl rfl 17 (by decide) (hts (.fieldLink RX16 34 "TimeMachineModel$Machine" "within" "[Z") (List.mem_of_getElem? (i := 7) rfl)) (fun _ h9 => h9) rfl dX16_trap_18 ?_
    refine lv_aload_n hx hb dX16_trap_21 rfl (lv_at hl 0 rfl) ?_
    refine va_get (D := (dC, dI)) (ci := 17) (v := .int (sI s0.1 12)) (C := RX16) (T := TX16) (N := 56) hx hb hts hi_dm_X16_trap_X16 hown hK hP 0 rfl rfl 51 (by decide) (hts (.fieldLink RX16 232 "TimeMachineModel$Machine" "p" "I") (List.mem_of_getElem? (i := 2) rfl)) (fun _ h9 => h9) rfl dX16_trap_22 ?_
    obtain ⟨i6, h⟩ := nd_ck_e h
    refine va_zald (i := (sI s0.1 12)) hx hb hK hP 9 8 rfl rfl i6 dX16_trap_25 ?_
    refine lv_if_ne (tgt := 37) hx hb dX16_trap_26 (by decide) (fun c7 => ?_) (fun c7 => ?_)
    · have h := nd_neg h c7
      exact (db_X16_trap_37 C K) (v0) s0 _ _ _ h hP hD hS (lv_sub hl [0, 1] rfl)
    · have h := nd_pos h c7
      refine lv_aload_n hx hb dX16_trap_29 rfl (lv_at hl 0 rfl) ?_
      refine lv_iload_n hx hb dX16_trap_30 rfl (lv_at hl 1 rfl) ?_
      obtain ⟨s9, hq, h⟩ := nd_b1_e h
      have hPc := hP
      have hDc := hD
      have hKc := hK
      have hFc := nd_rs hD hS hA
      refine nd_cVv (As := [.int v0]) (rest := []) (w' := dw_X16 a ac s9) ⟨hx, hb, hml, hown, hts⟩ (fun sz => dm_X16_enter l hlt dC dI a ac n (v0) s0 hq sz) (cwV 1 hts gi_dm_X16_trap_1 rfl rfl rfl (by decide +kernel) ⟨Nat.le_of_ble_eq_true rfl, Nat.le_of_ble_eq_true rfl⟩) hPc hDc hKc hS hA hN (va_recv hKc hPc (ci := 17) (q0 := 0) rfl rfl) rfl hl.1 rfl (Nat.le_of_ble_eq_true rfl) dX16_trap_31 (fun H locs hP1 hD1 hk1 hS => ?_)
      have hP := hP1
      have hD := hD1.weaken (fun k q _ h => hFc q.1 h)
      refine lv_goto (tgt := 50) hx hb dX16_trap_34 (by decide) ?_
      exact (db_X16_trap_50 C K)  s9 _ _ _ h hP hD hS (lv_sub hl [] rfl)
set_option maxHeartbeats 40000000 in
set_option maxRecDepth 100000 in
theorem dm_X16_trap (l : Launch) (hlt : l.stackTraces = false) (dC : Nat → ClassId) (dI : Nat → Nat → Nat) (a : Nat → Nat) (ac : Nat → ClassId) (n : Nat) (v0 : Int32) (s0 : St × (St)) {r : St × (St)} (h : df_X16_trap n v0 s0 = some r) (sz : Nat) : Met l yX16_trap ow_dm_X16_trap ({ frames := 3, cells := 0, slots := 0, locals := 68 }) (va_Pc [.ref (a 0), .int v0] (fun U => U.heap.size = sz ∧ va_P (dC, dI) vwCl (dw_X16 a ac s0) U.heap ∧ va_K (dC, dI) vwCl (dk_X16 ac) U ∧ va_D (fun _ => True) (dw_X16 a ac s0) ∧ nv_E dI (va_A (dw_X16 a ac s0) sz) U)) (va_Qv (fun _ => True) (fun (_ : Unit) t => va_P (dC, dI) vwCl (dw_X16 a ac r) t.heap ∧ va_K (dC, dI) vwCl (dk_X16 ac) t ∧ va_D (va_A (dw_X16 a ac s0) sz) (dw_X16 a ac r)) (va_A (dw_X16 a ac s0) sz)) 0 0 (va_A (dw_X16 a ac s0) sz) := by
  refine Met.ofW (cc := cX16_trap) (maxL := 2) (ret := none) (by decide) rfl ?_
  intro p e s m args below meth c s₁ B hml hv
  obtain ⟨rfl, hsz, hP, hK, hD0, hN⟩ := hv
  have hx := B.exec
  have hb := B.bytes
  have hr := B.returns
  have hts := atoms_spec (ws := ow_dm_X16_trap) B.pre
  have hown : s.vm.findClass RX16 = some m.cls := findClass_of_methodNamed B.named
  have hlocks := B.notSynchronized
  subst hsz
  have hD := hD0.self (sz := s.heap.size)
  generalize hAe : va_A (dw_X16 a ac s0) s.heap.size = A at hD hN ⊢
  have hA : ∀ q : Nat, s.heap.size ≤ q → A q := fun q h => by rw [← hAe]; exact Or.inr h
  have hl := lv_entry ([.ref (a 0), .int v0]) (n := 2) (Nat.le_of_ble_eq_true rfl)
  rw [lg_entry_eq]
  generalize (lg_sl ([.ref (a 0), .int v0]) ++ List.replicate (2 - (lg_sl ([.ref (a 0), .int v0])).length) Slot.unset).toArray = ls at hl ⊢
  have hl : lv_has ls 2 [(0, .ref (a 0)), (1, .int v0)] := hl
  exact db_X16_trap_0 (dC := dC) (dI := dI) (a := a) (ac := ac) (n := n) (r := r) ⟨hlt, hx, hb, hml, hown, hts, hN, hA, hK⟩ (fun pc τ H locs ls d er hP hD hS => by subst er; exact W.vret hx hb hr (fun t ht hW => ⟨⟨(), rfl, trivial, by rw [ht]; exact hP, va_K.moved hW.alike hK, hD⟩, hS.F ht⟩) hS.2.2 d) v0 s0 _ _ _ h hP hD va_S.rf (lv_sub hl [0, 1] rfl)
def ow_dm_X16_tell : List Cond := Cond.code yX16_tell cX16_tell 2 (some .int) :: ([Cond.fieldLink RX16 409 "TimeMachineModel$Machine" "outcome" "I"] ++ (u_ws RX16 TX16 56 ++ []))
theorem gd_dm_X16_tell : ∀ w ∈ ow_dm_X16_tell, (w.onTables && w.keeps) = true ∨ ∃ ty, w = Cond.arrayClass ty := List.forall_mem_cons.mpr ⟨good_of_word rfl, List.forall_mem_append.mpr ⟨fun w h => good_of_word (List.all_eq_true.mp (by decide +kernel) w h), List.forall_mem_append.mpr ⟨gu_X16, fun _ h => nomatch h⟩⟩⟩
theorem hi_dm_X16_tell_X16 : ∀ w ∈ u_ws RX16 TX16 56, w ∈ ow_dm_X16_tell := fun w h => List.mem_cons_of_mem _ (List.mem_append_right _ (List.mem_append_left _ h))
def dj_X16_tell_0 (p : Program) (l : Launch) (e : Env) (s : State) (m : MethodId) (args : Array Value) (below : List Frame) (meth : Method) (c : Code) (Q : State → Prop) (A : Nat → Prop) (dC : Nat → ClassId) (dI : Nat → Nat → Nat) (a : Nat → Nat) (ac : Nat → ClassId) (g : Int32 → (St × (St)) → Option (Int32 × (St × (St)))) (r : Int32 × (St × (St))) : Prop := ∀ (v0 : Int32) (s0 : St × (St)) (H : Heap) (locs : List Loc) (ls : Array Slot), g v0 s0 = some r → va_P (dC, dI) vwCl (dw_X16 a ac s0) H → va_D A (dw_X16 a ac s0) → va_S A s.heap H locs → lv_has ls 2 [(0, .ref (a 0)), (1, .int v0)] → W p l e (headSpec ow_dm_X16_tell ({ frames := 0, cells := 0, slots := 0, locals := 0 })).room s m args below meth c H locs 0 0 Q (F0 m 0 ls [])
set_option maxHeartbeats 40000000 in
set_option maxRecDepth 100000 in
theorem db_X16_tell_0 {p : Program} {l : Launch} {e : Env} {s : State} {m : MethodId} {args : Array Value} {below : List Frame} {meth : Method} {c : Code} {Q : State → Prop} {A : Nat → Prop} {dC : Nat → ClassId} {dI : Nat → Nat → Nat} {a : Nat → Nat} {ac : Nat → ClassId} {n : Nat} {r : Int32 × (St × (St))} (C : nd_C p l s m args c A (dC, dI) cX16_tell 2 RX16 ow_dm_X16_tell (dk_X16 ac)) (K : nd_Ki p l e (headSpec ow_dm_X16_tell ({ frames := 0, cells := 0, slots := 0, locals := 0 })).room s m args below meth c Q A (dC, dI) cX16_tell .int (St × (St)) (dw_X16 a ac) r) : dj_X16_tell_0 p l e s m args below meth c Q A dC dI a ac (df_X16_tell_0 n) r := by
  obtain ⟨hlt, hx, hb, hml, hown, hts, hN, hA, hK⟩ := id C
  intro v0 s0 H locs ls h hP hD hS hl
  unfold df_X16_tell_0 at h
  refine lv_aload_n hx hb dX16_tell_0 rfl (lv_at hl 0 rfl) ?_
  refine lv_iload_n hx hb dX16_tell_1 rfl (lv_at hl 1 rfl) ?_
  refine va_put (D := (dC, dI)) (ci := 17) (v := .int v0) (ty := .int) (C := RX16) (T := TX16) (N := 56) hx hb hts hi_dm_X16_tell_X16 tyX16 tyX16_ok nmX16 hown hK hP hD hS 0 rfl rfl 52 (by decide) (hts (.fieldLink RX16 409 "TimeMachineModel$Machine" "outcome" "I") (List.mem_of_getElem? (i := 1) rfl)) (fun _ h9 => h9) rfl (by decide +kernel) rfl rfl (Nat.le_of_ble_eq_true rfl) dX16_tell_2 (fun H locs hP hD hS => ?_)
  obtain ⟨s1, es1, h⟩ := nd_let_e h
  have hP : va_P (dC, dI) vwCl (dw_X16 a ac s1) H := by rw [es1]; exact hP
  have hD : va_D A (dw_X16 a ac s1) := by rw [es1]; exact hD
  refine lv_iconst (v := 0) hx hb dX16_tell_5 (by decide) ?_
  exact K _ _ _ _ _ _ dX16_tell_6 rfl (Option.some.inj h).symm hP hD hS
set_option maxHeartbeats 40000000 in
set_option maxRecDepth 100000 in
theorem dm_X16_tell (l : Launch) (hlt : l.stackTraces = false) (dC : Nat → ClassId) (dI : Nat → Nat → Nat) (a : Nat → Nat) (ac : Nat → ClassId) (n : Nat) (v0 : Int32) (s0 : St × (St)) {r : Int32 × (St × (St))} (h : df_X16_tell n v0 s0 = some r) (sz : Nat) : Met l yX16_tell ow_dm_X16_tell ({ frames := 0, cells := 0, slots := 0, locals := 0 }) (va_Pc [.ref (a 0), .int v0] (fun U => U.heap.size = sz ∧ va_P (dC, dI) vwCl (dw_X16 a ac s0) U.heap ∧ va_K (dC, dI) vwCl (dk_X16 ac) U ∧ va_D (fun _ => True) (dw_X16 a ac s0) ∧ nv_E dI (va_A (dw_X16 a ac s0) sz) U)) (va_Qi (fun x _ => x = r.1) (fun (_ : Unit) t => va_P (dC, dI) vwCl (dw_X16 a ac r.2) t.heap ∧ va_K (dC, dI) vwCl (dk_X16 ac) t ∧ va_D (va_A (dw_X16 a ac s0) sz) (dw_X16 a ac r.2)) (va_A (dw_X16 a ac s0) sz)) 0 0 (va_A (dw_X16 a ac s0) sz) := by
  refine Met.ofW (cc := cX16_tell) (maxL := 2) (ret := (some .int)) (by decide) rfl ?_
  intro p e s m args below meth c s₁ B hml hv
  obtain ⟨rfl, hsz, hP, hK, hD0, hN⟩ := hv
  have hx := B.exec
  have hb := B.bytes
  have hr := B.returns
  have hts := atoms_spec (ws := ow_dm_X16_tell) B.pre
  have hown : s.vm.findClass RX16 = some m.cls := findClass_of_methodNamed B.named
  have hlocks := B.notSynchronized
  subst hsz
  have hD := hD0.self (sz := s.heap.size)
  generalize hAe : va_A (dw_X16 a ac s0) s.heap.size = A at hD hN ⊢
  have hA : ∀ q : Nat, s.heap.size ≤ q → A q := fun q h => by rw [← hAe]; exact Or.inr h
  have hl := lv_entry ([.ref (a 0), .int v0]) (n := 2) (Nat.le_of_ble_eq_true rfl)
  rw [lg_entry_eq]
  generalize (lg_sl ([.ref (a 0), .int v0]) ++ List.replicate (2 - (lg_sl ([.ref (a 0), .int v0])).length) Slot.unset).toArray = ls at hl ⊢
  have hl : lv_has ls 2 [(0, .ref (a 0)), (1, .int v0)] := hl
  exact db_X16_tell_0 (dC := dC) (dI := dI) (a := a) (ac := ac) (n := n) (r := r) ⟨hlt, hx, hb, hml, hown, hts, hN, hA, hK⟩ (fun pc v τ H locs ls d z er hP hD hS => by subst er; exact W.zret (v := v) hx hb hr z (fun t ht hW => ⟨⟨v, (), rfl, rfl, by rw [ht]; exact hP, va_K.moved hW.alike hK, hD⟩, hS.F ht⟩) hS.2.2 d) v0 s0 _ _ _ h hP hD va_S.rf (lv_sub hl [0, 1] rfl)
def ow_dm_X16_fork : List Cond := Cond.code yX16_fork cX16_fork 3 (some .int) :: ([Cond.methodLink RX16 160 yX16_begin, Cond.instanceMethod yX16_begin, Cond.selects RX16 yX16_begin yX16_begin, Cond.initialized RX16, Cond.fieldLink RX16 13 "TimeMachineModel$Machine" "state" "[I", Cond.fieldLink RX16 16 "TimeMachineModel$Machine" "parent" "[I", Cond.fieldLink RX16 232 "TimeMachineModel$Machine" "p" "I", Cond.fieldLink RX16 42 "TimeMachineModel$Machine" "x" "[I", Cond.fieldLink RX16 45 "TimeMachineModel$Machine" "place" "[I", Cond.fieldLink RX16 51 "TimeMachineModel$Machine" "savedPlace" "[I", Cond.fieldLink RX16 34 "TimeMachineModel$Machine" "within" "[Z", Cond.fieldLink RX16 25 "TimeMachineModel$Machine" "heapBegin" "[I", Cond.fieldLink RX16 28 "TimeMachineModel$Machine" "heapEnd" "[I", Cond.fieldLink RX16 61 "TimeMachineModel$Machine" "bytes" "[I", Cond.fieldLink RX16 64 "TimeMachineModel$Machine" "frame" "[I", Cond.methodLink RX16 208 yX16_stand, Cond.instanceMethod yX16_stand, Cond.selects RX16 yX16_stand yX16_stand, Cond.fieldLink RX16 67 "TimeMachineModel$Machine" "rights" "[I", Cond.fieldLink RX16 54 "TimeMachineModel$Machine" "handler" "[I", Cond.fieldLink RX16 57 "TimeMachineModel$Machine" "descriptor" "[I", Cond.fieldLink RX16 48 "TimeMachineModel$Machine" "saved" "[I"] ++ (u_ws RX16 TX16 56 ++ (ow_dm_X16_begin ++ (ow_dm_X16_stand ++ []))))
theorem gd_dm_X16_fork : ∀ w ∈ ow_dm_X16_fork, (w.onTables && w.keeps) = true ∨ ∃ ty, w = Cond.arrayClass ty := List.forall_mem_cons.mpr ⟨good_of_word rfl, List.forall_mem_append.mpr ⟨fun w h => good_of_word (List.all_eq_true.mp (by decide +kernel) w h), List.forall_mem_append.mpr ⟨gu_X16, List.forall_mem_append.mpr ⟨gd_dm_X16_begin, List.forall_mem_append.mpr ⟨gd_dm_X16_stand, fun _ h => nomatch h⟩⟩⟩⟩⟩
theorem hi_dm_X16_fork_X16 : ∀ w ∈ u_ws RX16 TX16 56, w ∈ ow_dm_X16_fork := fun w h => List.mem_cons_of_mem _ (List.mem_append_right _ (List.mem_append_left _ h))
theorem gi_dm_X16_fork_0 : GoodIn ow_dm_X16_fork (wsV RX16 160 RX16 yX16_begin ow_dm_X16_begin) := goodIn_app (goodIn_of _ (by decide +kernel)) (fun w h => ⟨List.mem_cons_of_mem _ (List.mem_append_right _ (List.mem_append_right _ (List.mem_append_left _ h))), gd_dm_X16_begin w h⟩)
theorem gi_dm_X16_fork_1 : GoodIn ow_dm_X16_fork (wsV RX16 208 RX16 yX16_stand ow_dm_X16_stand) := goodIn_app (goodIn_of _ (by decide +kernel)) (fun w h => ⟨List.mem_cons_of_mem _ (List.mem_append_right _ (List.mem_append_right _ (List.mem_append_right _ (List.mem_append_left _ h)))), gd_dm_X16_stand w h⟩)
def dj_X16_fork_358 (p : Program) (l : Launch) (e : Env) (s : State) (m : MethodId) (args : Array Value) (below : List Frame) (meth : Method) (c : Code) (Q : State → Prop) (A : Nat → Prop) (dC : Nat → ClassId) (dI : Nat → Nat → Nat) (a : Nat → Nat) (ac : Nat → ClassId) (g : Int32 → Int32 → (St × (St)) → Option (Int32 × (St × (St)))) (r : Int32 × (St × (St))) : Prop := ∀ (x1 : Int32) (x2 : Int32) (s0 : St × (St)) (H : Heap) (locs : List Loc) (ls : Array Slot), g x1 x2 s0 = some r → va_P (dC, dI) vwCl (dw_X16 a ac s0) H → va_D A (dw_X16 a ac s0) → va_S A s.heap H locs → lv_has ls 3 [(0, .ref (a 0)), (1, .int x1), (2, .int x2)] → W p l e (headSpec ow_dm_X16_fork ({ frames := 1, cells := 0, slots := 0, locals := 22 })).room s m args below meth c H locs 0 0 Q (F0 m 358 ls [])
def dj_X16_fork_350 (p : Program) (l : Launch) (e : Env) (s : State) (m : MethodId) (args : Array Value) (below : List Frame) (meth : Method) (c : Code) (Q : State → Prop) (A : Nat → Prop) (dC : Nat → ClassId) (dI : Nat → Nat → Nat) (a : Nat → Nat) (ac : Nat → ClassId) (g : Int32 → Int32 → (St × (St)) → Option (Int32 × (St × (St)))) (r : Int32 × (St × (St))) : Prop := ∀ (x1 : Int32) (x2 : Int32) (s0 : St × (St)) (H : Heap) (locs : List Loc) (ls : Array Slot), g x1 x2 s0 = some r → va_P (dC, dI) vwCl (dw_X16 a ac s0) H → va_D A (dw_X16 a ac s0) → va_S A s.heap H locs → lv_has ls 3 [(0, .ref (a 0)), (1, .int x1), (2, .int x2)] → W p l e (headSpec ow_dm_X16_fork ({ frames := 1, cells := 0, slots := 0, locals := 22 })).room s m args below meth c H locs 0 0 Q (F0 m 350 ls [])
def dj_X16_fork_274 (p : Program) (l : Launch) (e : Env) (s : State) (m : MethodId) (args : Array Value) (below : List Frame) (meth : Method) (c : Code) (Q : State → Prop) (A : Nat → Prop) (dC : Nat → ClassId) (dI : Nat → Nat → Nat) (a : Nat → Nat) (ac : Nat → ClassId) (g : Int32 → Int32 → (St × (St)) → Option (Int32 × (St × (St)))) (r : Int32 × (St × (St))) : Prop := ∀ (x1 : Int32) (x2 : Int32) (s0 : St × (St)) (H : Heap) (locs : List Loc) (ls : Array Slot), g x1 x2 s0 = some r → va_P (dC, dI) vwCl (dw_X16 a ac s0) H → va_D A (dw_X16 a ac s0) → va_S A s.heap H locs → lv_has ls 3 [(0, .ref (a 0)), (1, .int x1), (2, .int x2)] → W p l e (headSpec ow_dm_X16_fork ({ frames := 1, cells := 0, slots := 0, locals := 22 })).room s m args below meth c H locs 0 0 Q (F0 m 274 ls [])
def dj_X16_fork_210 (p : Program) (l : Launch) (e : Env) (s : State) (m : MethodId) (args : Array Value) (below : List Frame) (meth : Method) (c : Code) (Q : State → Prop) (A : Nat → Prop) (dC : Nat → ClassId) (dI : Nat → Nat → Nat) (a : Nat → Nat) (ac : Nat → ClassId) (g : Int32 → Int32 → (St × (St)) → Option (Int32 × (St × (St)))) (r : Int32 × (St × (St))) : Prop := ∀ (x1 : Int32) (x2 : Int32) (s0 : St × (St)) (H : Heap) (locs : List Loc) (ls : Array Slot), g x1 x2 s0 = some r → va_P (dC, dI) vwCl (dw_X16 a ac s0) H → va_D A (dw_X16 a ac s0) → va_S A s.heap H locs → lv_has ls 3 [(0, .ref (a 0)), (1, .int x1), (2, .int x2)] → W p l e (headSpec ow_dm_X16_fork ({ frames := 1, cells := 0, slots := 0, locals := 22 })).room s m args below meth c H locs 0 0 Q (F0 m 210 ls [])
def dj_X16_fork_56 (p : Program) (l : Launch) (e : Env) (s : State) (m : MethodId) (args : Array Value) (below : List Frame) (meth : Method) (c : Code) (Q : State → Prop) (A : Nat → Prop) (dC : Nat → ClassId) (dI : Nat → Nat → Nat) (a : Nat → Nat) (ac : Nat → ClassId) (g : Int32 → Int32 → (St × (St)) → Option (Int32 × (St × (St)))) (r : Int32 × (St × (St))) : Prop := ∀ (x1 : Int32) (x2 : Int32) (s0 : St × (St)) (H : Heap) (locs : List Loc) (ls : Array Slot), g x1 x2 s0 = some r → va_P (dC, dI) vwCl (dw_X16 a ac s0) H → va_D A (dw_X16 a ac s0) → va_S A s.heap H locs → lv_has ls 3 [(0, .ref (a 0)), (1, .int x1), (2, .int x2)] → W p l e (headSpec ow_dm_X16_fork ({ frames := 1, cells := 0, slots := 0, locals := 22 })).room s m args below meth c H locs 0 0 Q (F0 m 56 ls [])
def dj_X16_fork_23 (p : Program) (l : Launch) (e : Env) (s : State) (m : MethodId) (args : Array Value) (below : List Frame) (meth : Method) (c : Code) (Q : State → Prop) (A : Nat → Prop) (dC : Nat → ClassId) (dI : Nat → Nat → Nat) (a : Nat → Nat) (ac : Nat → ClassId) (g : Int32 → (St × (St)) → Option (Int32 × (St × (St)))) (r : Int32 × (St × (St))) : Prop := ∀ (x1 : Int32) (s0 : St × (St)) (H : Heap) (locs : List Loc) (ls : Array Slot), g x1 s0 = some r → va_P (dC, dI) vwCl (dw_X16 a ac s0) H → va_D A (dw_X16 a ac s0) → va_S A s.heap H locs → lv_has ls 3 [(0, .ref (a 0)), (1, .int x1)] → W p l e (headSpec ow_dm_X16_fork ({ frames := 1, cells := 0, slots := 0, locals := 22 })).room s m args below meth c H locs 0 0 Q (F0 m 23 ls [])
def dj_X16_fork_2 (p : Program) (l : Launch) (e : Env) (s : State) (m : MethodId) (args : Array Value) (below : List Frame) (meth : Method) (c : Code) (Q : State → Prop) (A : Nat → Prop) (dC : Nat → ClassId) (dI : Nat → Nat → Nat) (a : Nat → Nat) (ac : Nat → ClassId) (g : Int32 → (St × (St)) → Option (Int32 × (St × (St)))) (r : Int32 × (St × (St))) : Prop := ∀ (x1 : Int32) (s0 : St × (St)) (H : Heap) (locs : List Loc) (ls : Array Slot), g x1 s0 = some r → va_P (dC, dI) vwCl (dw_X16 a ac s0) H → va_D A (dw_X16 a ac s0) → va_S A s.heap H locs → lv_has ls 3 [(0, .ref (a 0)), (1, .int x1)] → W p l e (headSpec ow_dm_X16_fork ({ frames := 1, cells := 0, slots := 0, locals := 22 })).room s m args below meth c H locs 0 0 Q (F0 m 2 ls [])
def dj_X16_fork_0 (p : Program) (l : Launch) (e : Env) (s : State) (m : MethodId) (args : Array Value) (below : List Frame) (meth : Method) (c : Code) (Q : State → Prop) (A : Nat → Prop) (dC : Nat → ClassId) (dI : Nat → Nat → Nat) (a : Nat → Nat) (ac : Nat → ClassId) (g : (St × (St)) → Option (Int32 × (St × (St)))) (r : Int32 × (St × (St))) : Prop := ∀ (s0 : St × (St)) (H : Heap) (locs : List Loc) (ls : Array Slot), g s0 = some r → va_P (dC, dI) vwCl (dw_X16 a ac s0) H → va_D A (dw_X16 a ac s0) → va_S A s.heap H locs → lv_has ls 3 [(0, .ref (a 0))] → W p l e (headSpec ow_dm_X16_fork ({ frames := 1, cells := 0, slots := 0, locals := 22 })).room s m args below meth c H locs 0 0 Q (F0 m 0 ls [])
set_option maxHeartbeats 40000000 in
set_option maxRecDepth 100000 in
theorem dB_X16_fork_358 {p : Program} {l : Launch} {e : Env} {s : State} {m : MethodId} {args : Array Value} {below : List Frame} {meth : Method} {c : Code} {Q : State → Prop} {A : Nat → Prop} {dC : Nat → ClassId} {dI : Nat → Nat → Nat} {a : Nat → Nat} {ac : Nat → ClassId} {n : Nat} {r : Int32 × (St × (St))} (C : nd_C p l s m args c A (dC, dI) cX16_fork 3 RX16 ow_dm_X16_fork (dk_X16 ac)) (K : nd_Ki p l e (headSpec ow_dm_X16_fork ({ frames := 1, cells := 0, slots := 0, locals := 22 })).room s m args below meth c Q A (dC, dI) cX16_fork .int (St × (St)) (dw_X16 a ac) r) {g358 : Int32 → Int32 → (St × (St)) → Option (Int32 × (St × (St)))} (J358 : dj_X16_fork_358 p l e s m args below meth c Q A dC dI a ac g358 r) : dj_X16_fork_358 p l e s m args below meth c Q A dC dI a ac (dF_X16_fork_358 n g358) r := by
  obtain ⟨hlt, hx, hb, hml, hown, hts, hN, hA, hK⟩ := id C
  intro x1 x2 s0 H locs ls h hP hD hS hl
  unfold dF_X16_fork_358 at h
  refine lv_iload_n hx hb dX16_fork_358 rfl (lv_at hl 2 rfl) ?_
  refine lv_sipush (v := 16384) hx hb dX16_fork_359 (by decide) ?_
  refine lv_icmp_ge (tgt := 398) hx hb dX16_fork_362 (by decide) (fun c30 => ?_) (fun c30 => ?_)
  · have h := nd_pos h c30
    refine lv_iload_n hx hb dX16_fork_398 rfl (lv_at hl 1 rfl) ?_
    exact K _ _ _ _ _ _ dX16_fork_399 rfl (Option.some.inj h).symm hP hD hS
  · have h := nd_neg h c30
    refine lv_aload_n hx hb dX16_fork_365 rfl (lv_at hl 0 rfl) ?_
    refine va_get (D := (dC, dI)) (ci := 17) (v := .ref (a 17)) (C := RX16) (T := TX16) (N := 56) hx hb hts hi_dm_X16_fork_X16 hown hK hP 0 rfl rfl 25 (by decide) (hts (.fieldLink RX16 61 "TimeMachineModel$Machine" "bytes" "[I") (List.mem_of_getElem? (i := 14) rfl)) (fun _ h9 => h9) rfl dX16_fork_366 ?_
    refine lv_sipush (v := 16384) hx hb dX16_fork_369 (by decide) ?_
    refine lv_iload_n hx hb dX16_fork_372 rfl (lv_at hl 1 rfl) ?_
    refine lv_imul hx hb dX16_fork_373 ?_
    refine lv_iload_n hx hb dX16_fork_374 rfl (lv_at hl 2 rfl) ?_
    refine lv_iadd hx hb dX16_fork_375 ?_
    refine lv_aload_n hx hb dX16_fork_376 rfl (lv_at hl 0 rfl) ?_
    refine va_get (D := (dC, dI)) (ci := 17) (v := .ref (a 17)) (C := RX16) (T := TX16) (N := 56) hx hb hts hi_dm_X16_fork_X16 hown hK hP 0 rfl rfl 25 (by decide) (hts (.fieldLink RX16 61 "TimeMachineModel$Machine" "bytes" "[I") (List.mem_of_getElem? (i := 14) rfl)) (fun _ h9 => h9) rfl dX16_fork_377 ?_
    refine lv_sipush (v := 16384) hx hb dX16_fork_380 (by decide) ?_
    refine lv_aload_n hx hb dX16_fork_383 rfl (lv_at hl 0 rfl) ?_
    refine va_get (D := (dC, dI)) (ci := 17) (v := .int (sI s0.1 12)) (C := RX16) (T := TX16) (N := 56) hx hb hts hi_dm_X16_fork_X16 hown hK hP 0 rfl rfl 51 (by decide) (hts (.fieldLink RX16 232 "TimeMachineModel$Machine" "p" "I") (List.mem_of_getElem? (i := 7) rfl)) (fun _ h9 => h9) rfl dX16_fork_384 ?_
    refine lv_imul hx hb dX16_fork_387 ?_
    refine lv_iload_n hx hb dX16_fork_388 rfl (lv_at hl 2 rfl) ?_
    refine lv_iadd hx hb dX16_fork_389 ?_
    obtain ⟨i31, h⟩ := nd_ck_e h
    refine va_iald (i := ((16384 * (sI s0.1 12)) + x2)) hx hb hK hP 17 16 rfl rfl i31 dX16_fork_390 ?_
    obtain ⟨i32, h⟩ := nd_ck_e h
    refine va_iast (i := ((16384 * x1) + x2)) (x := (sR s0.1 15 (Int32.toNatClampNeg ((16384 * (sI s0.1 12)) + x2)))) hx hb hK hP hD hS 17 16 rfl rfl i32 dX16_fork_391 (fun H locs hP hD hS => ?_)
    obtain ⟨s33, es33, h⟩ := nd_let_e h
    have hP : va_P (dC, dI) vwCl (dw_X16 a ac s33) H := by rw [es33]; exact hP
    have hD : va_D A (dw_X16 a ac s33) := by rw [es33]; exact hD
    obtain ⟨z34, ez34, h⟩ := nd_let_e h
    refine lv_iinc (v := z34) (lv' := [(2, .int z34), (0, .ref (a 0)), (1, .int x1)]) hx hb dX16_fork_392 hl (k := 2) rfl (by rw [ez34]) (by decide) rfl (fun ls hl => ?_)
    refine lv_goto (tgt := 358) hx hb dX16_fork_395 (by decide) ?_
    exact (J358) (x1) (z34) s33 _ _ _ h hP hD hS (lv_sub hl [1, 2, 0] rfl)
set_option maxHeartbeats 40000000 in
set_option maxRecDepth 100000 in
theorem db_X16_fork_358 {p : Program} {l : Launch} {e : Env} {s : State} {m : MethodId} {args : Array Value} {below : List Frame} {meth : Method} {c : Code} {Q : State → Prop} {A : Nat → Prop} {dC : Nat → ClassId} {dI : Nat → Nat → Nat} {a : Nat → Nat} {ac : Nat → ClassId} {n : Nat} {r : Int32 × (St × (St))} (C : nd_C p l s m args c A (dC, dI) cX16_fork 3 RX16 ow_dm_X16_fork (dk_X16 ac)) (K : nd_Ki p l e (headSpec ow_dm_X16_fork ({ frames := 1, cells := 0, slots := 0, locals := 22 })).room s m args below meth c Q A (dC, dI) cX16_fork .int (St × (St)) (dw_X16 a ac) r) (k : Nat) : dj_X16_fork_358 p l e s m args below meth c Q A dC dI a ac (df_X16_fork_358 n k) r := by
  induction k with
  | zero => intro x1 x2 s0 H locs ls h; exact nomatch (show (none : Option (Int32 × (St × (St)))) = some r from h)
  | succ k ih => exact dB_X16_fork_358 C K ih
set_option maxHeartbeats 40000000 in
set_option maxRecDepth 100000 in
theorem db_X16_fork_350 {p : Program} {l : Launch} {e : Env} {s : State} {m : MethodId} {args : Array Value} {below : List Frame} {meth : Method} {c : Code} {Q : State → Prop} {A : Nat → Prop} {dC : Nat → ClassId} {dI : Nat → Nat → Nat} {a : Nat → Nat} {ac : Nat → ClassId} {n : Nat} {r : Int32 × (St × (St))} (C : nd_C p l s m args c A (dC, dI) cX16_fork 3 RX16 ow_dm_X16_fork (dk_X16 ac)) (K : nd_Ki p l e (headSpec ow_dm_X16_fork ({ frames := 1, cells := 0, slots := 0, locals := 22 })).room s m args below meth c Q A (dC, dI) cX16_fork .int (St × (St)) (dw_X16 a ac) r) {g274 : Int32 → Int32 → (St × (St)) → Option (Int32 × (St × (St)))} (J274 : dj_X16_fork_274 p l e s m args below meth c Q A dC dI a ac g274 r) : dj_X16_fork_350 p l e s m args below meth c Q A dC dI a ac (df_X16_fork_350 n g274) r := by
  obtain ⟨hlt, hx, hb, hml, hown, hts, hN, hA, hK⟩ := id C
  intro x1 x2 s0 H locs ls h hP hD hS hl
  unfold df_X16_fork_350 at h
  obtain ⟨z44, ez44, h⟩ := nd_let_e h
  refine lv_iinc (v := z44) (lv' := [(2, .int z44), (0, .ref (a 0)), (1, .int x1)]) hx hb dX16_fork_350 hl (k := 2) rfl (by rw [ez44]) (by decide) rfl (fun ls hl => ?_)
  refine lv_goto (tgt := 274) hx hb dX16_fork_353 (by decide) ?_
  exact (J274) (x1) (z44) s0 _ _ _ h hP hD hS (lv_sub hl [1, 2, 0] rfl)
set_option maxHeartbeats 40000000 in
set_option maxRecDepth 100000 in
theorem dB_X16_fork_274 {p : Program} {l : Launch} {e : Env} {s : State} {m : MethodId} {args : Array Value} {below : List Frame} {meth : Method} {c : Code} {Q : State → Prop} {A : Nat → Prop} {dC : Nat → ClassId} {dI : Nat → Nat → Nat} {a : Nat → Nat} {ac : Nat → ClassId} {n : Nat} {r : Int32 × (St × (St))} (C : nd_C p l s m args c A (dC, dI) cX16_fork 3 RX16 ow_dm_X16_fork (dk_X16 ac)) (K : nd_Ki p l e (headSpec ow_dm_X16_fork ({ frames := 1, cells := 0, slots := 0, locals := 22 })).room s m args below meth c Q A (dC, dI) cX16_fork .int (St × (St)) (dw_X16 a ac) r) {g274 : Int32 → Int32 → (St × (St)) → Option (Int32 × (St × (St)))} (J274 : dj_X16_fork_274 p l e s m args below meth c Q A dC dI a ac g274 r) : dj_X16_fork_274 p l e s m args below meth c Q A dC dI a ac (dF_X16_fork_274 n g274) r := by
  obtain ⟨hlt, hx, hb, hml, hown, hts, hN, hA, hK⟩ := id C
  intro x1 x2 s0 H locs ls h hP hD hS hl
  unfold dF_X16_fork_274 at h
  refine lv_iload_n hx hb dX16_fork_274 rfl (lv_at hl 2 rfl) ?_
  refine lv_bipush (v := 64) hx hb dX16_fork_275 (by decide) ?_
  refine lv_icmp_ge (tgt := 356) hx hb dX16_fork_277 (by decide) (fun c29 => ?_) (fun c29 => ?_)
  · have h := nd_pos h c29
    refine lv_iconst (v := 0) hx hb dX16_fork_356 (by decide) ?_
    refine lv_istore_n (lv' := [(2, .int 0), (0, .ref (a 0)), (1, .int x1)]) hx hb dX16_fork_357 rfl hl (by decide) rfl (fun ls hl => ?_)
    exact (db_X16_fork_358 C K n) (x1) (0) s0 _ _ _ h hP hD hS (lv_sub hl [1, 2, 0] rfl)
  · have h := nd_neg h c29
    refine lv_aload_n hx hb dX16_fork_280 rfl (lv_at hl 0 rfl) ?_
    refine va_get (D := (dC, dI)) (ci := 17) (v := .ref (a 18)) (C := RX16) (T := TX16) (N := 56) hx hb hts hi_dm_X16_fork_X16 hown hK hP 0 rfl rfl 26 (by decide) (hts (.fieldLink RX16 64 "TimeMachineModel$Machine" "frame" "[I") (List.mem_of_getElem? (i := 15) rfl)) (fun _ h9 => h9) rfl dX16_fork_281 ?_
    refine lv_bipush (v := 64) hx hb dX16_fork_284 (by decide) ?_
    refine lv_aload_n hx hb dX16_fork_286 rfl (lv_at hl 0 rfl) ?_
    refine va_get (D := (dC, dI)) (ci := 17) (v := .int (sI s0.1 12)) (C := RX16) (T := TX16) (N := 56) hx hb hts hi_dm_X16_fork_X16 hown hK hP 0 rfl rfl 51 (by decide) (hts (.fieldLink RX16 232 "TimeMachineModel$Machine" "p" "I") (List.mem_of_getElem? (i := 7) rfl)) (fun _ h9 => h9) rfl dX16_fork_287 ?_
    refine lv_imul hx hb dX16_fork_290 ?_
    refine lv_iload_n hx hb dX16_fork_291 rfl (lv_at hl 2 rfl) ?_
    refine lv_iadd hx hb dX16_fork_292 ?_
    obtain ⟨i35, h⟩ := nd_ck_e h
    refine va_iald (i := ((64 * (sI s0.1 12)) + x2)) hx hb hK hP 18 17 rfl rfl i35 dX16_fork_293 ?_
    refine lv_iconst (v := (-1)) hx hb dX16_fork_294 (by decide) ?_
    refine lv_icmp_ne (tgt := 301) hx hb dX16_fork_295 (by decide) (fun c36 => ?_) (fun c36 => ?_)
    · have h := nd_neg h c36
      refine lv_aload_n hx hb dX16_fork_301 rfl (lv_at hl 0 rfl) ?_
      refine lv_bipush (v := 64) hx hb dX16_fork_302 (by decide) ?_
      refine lv_iload_n hx hb dX16_fork_304 rfl (lv_at hl 1 rfl) ?_
      refine lv_imul hx hb dX16_fork_305 ?_
      refine lv_iload_n hx hb dX16_fork_306 rfl (lv_at hl 2 rfl) ?_
      refine lv_iadd hx hb dX16_fork_307 ?_
      refine lv_aload_n hx hb dX16_fork_308 rfl (lv_at hl 0 rfl) ?_
      refine va_get (D := (dC, dI)) (ci := 17) (v := .ref (a 18)) (C := RX16) (T := TX16) (N := 56) hx hb hts hi_dm_X16_fork_X16 hown hK hP 0 rfl rfl 26 (by decide) (hts (.fieldLink RX16 64 "TimeMachineModel$Machine" "frame" "[I") (List.mem_of_getElem? (i := 15) rfl)) (fun _ h9 => h9) rfl dX16_fork_309 ?_
      refine lv_bipush (v := 64) hx hb dX16_fork_312 (by decide) ?_
      refine lv_aload_n hx hb dX16_fork_314 rfl (lv_at hl 0 rfl) ?_
      refine va_get (D := (dC, dI)) (ci := 17) (v := .int (sI s0.1 12)) (C := RX16) (T := TX16) (N := 56) hx hb hts hi_dm_X16_fork_X16 hown hK hP 0 rfl rfl 51 (by decide) (hts (.fieldLink RX16 232 "TimeMachineModel$Machine" "p" "I") (List.mem_of_getElem? (i := 7) rfl)) (fun _ h9 => h9) rfl dX16_fork_315 ?_
      refine lv_imul hx hb dX16_fork_318 ?_
      refine lv_iload_n hx hb dX16_fork_319 rfl (lv_at hl 2 rfl) ?_
      refine lv_iadd hx hb dX16_fork_320 ?_
      obtain ⟨i37, h⟩ := nd_ck_e h
      refine va_iald (i := ((64 * (sI s0.1 12)) + x2)) hx hb hK hP 18 17 rfl rfl i37 dX16_fork_321 ?_
      obtain ⟨s39, hq, h⟩ := nd_b1_e h
      have hPc := hP
      have hDc := hD
      have hKc := hK
      have hFc := nd_rs hD hS hA
      refine nd_cVv (As := [.int ((64 * x1) + x2), .int (sR s0.1 16 (Int32.toNatClampNeg ((64 * (sI s0.1 12)) + x2)))]) (rest := []) (w' := dw_X16 a ac s39) ⟨hx, hb, hml, hown, hts⟩ (fun sz => dm_X16_stand l hlt dC dI a ac n (((64 * x1) + x2)) ((sR s0.1 16 (Int32.toNatClampNeg ((64 * (sI s0.1 12)) + x2)))) s0 hq sz) (cwV 2 hts gi_dm_X16_fork_1 rfl rfl rfl (by decide +kernel) ⟨Nat.le_of_ble_eq_true rfl, Nat.le_of_ble_eq_true rfl⟩) hPc hDc hKc hS hA hN (va_recv hKc hPc (ci := 17) (q0 := 0) rfl rfl) rfl hl.1 rfl (Nat.le_of_ble_eq_true rfl) dX16_fork_322 (fun H locs hP1 hD1 hk1 hS => ?_)
      have hP := hP1
      have hD := hD1.weaken (fun k q _ h => hFc q.1 h)
      refine lv_aload_n hx hb dX16_fork_325 rfl (lv_at hl 0 rfl) ?_
      refine va_get (D := (dC, dI)) (ci := 17) (v := .ref (a 19)) (C := RX16) (T := TX16) (N := 56) hx hb hts hi_dm_X16_fork_X16 hown hK hP 0 rfl rfl 27 (by decide) (hts (.fieldLink RX16 67 "TimeMachineModel$Machine" "rights" "[I") (List.mem_of_getElem? (i := 19) rfl)) (fun _ h9 => h9) rfl dX16_fork_326 ?_
      refine lv_bipush (v := 64) hx hb dX16_fork_329 (by decide) ?_
      refine lv_iload_n hx hb dX16_fork_331 rfl (lv_at hl 1 rfl) ?_
      refine lv_imul hx hb dX16_fork_332 ?_
      refine lv_iload_n hx hb dX16_fork_333 rfl (lv_at hl 2 rfl) ?_
      refine lv_iadd hx hb dX16_fork_334 ?_
      refine lv_aload_n hx hb dX16_fork_335 rfl (lv_at hl 0 rfl) ?_
      refine va_get (D := (dC, dI)) (ci := 17) (v := .ref (a 19)) (C := RX16) (T := TX16) (N := 56) hx hb hts hi_dm_X16_fork_X16 hown hK hP 0 rfl rfl 27 (by decide) (hts (.fieldLink RX16 67 "TimeMachineModel$Machine" "rights" "[I") (List.mem_of_getElem? (i := 19) rfl)) (fun _ h9 => h9) rfl dX16_fork_336 ?_
      refine lv_bipush (v := 64) hx hb dX16_fork_339 (by decide) ?_
      refine lv_aload_n hx hb dX16_fork_341 rfl (lv_at hl 0 rfl) ?_
      refine va_get (D := (dC, dI)) (ci := 17) (v := .int (sI s39.1 12)) (C := RX16) (T := TX16) (N := 56) hx hb hts hi_dm_X16_fork_X16 hown hK hP 0 rfl rfl 51 (by decide) (hts (.fieldLink RX16 232 "TimeMachineModel$Machine" "p" "I") (List.mem_of_getElem? (i := 7) rfl)) (fun _ h9 => h9) rfl dX16_fork_342 ?_
      refine lv_imul hx hb dX16_fork_345 ?_
      refine lv_iload_n hx hb dX16_fork_346 rfl (lv_at hl 2 rfl) ?_
      refine lv_iadd hx hb dX16_fork_347 ?_
      obtain ⟨i41, h⟩ := nd_ck_e h
      refine va_iald (i := ((64 * (sI s39.1 12)) + x2)) hx hb hK hP 19 18 rfl rfl i41 dX16_fork_348 ?_
      obtain ⟨i42, h⟩ := nd_ck_e h
      refine va_iast (i := ((64 * x1) + x2)) (x := (sR s39.1 17 (Int32.toNatClampNeg ((64 * (sI s39.1 12)) + x2)))) hx hb hK hP hD hS 19 18 rfl rfl i42 dX16_fork_349 (fun H locs hP hD hS => ?_)
      obtain ⟨s43, es43, h⟩ := nd_let_e h
      have hP : va_P (dC, dI) vwCl (dw_X16 a ac s43) H := by rw [es43]; exact hP
      have hD : va_D A (dw_X16 a ac s43) := by rw [es43]; exact hD
      exact (db_X16_fork_350 C K J274) (x1) (x2) s43 _ _ _ h hP hD hS (lv_sub hl [0, 1, 2] rfl)
    · have h := nd_pos h c36
      refine lv_goto (tgt := 350) hx hb dX16_fork_298 (by decide) ?_
      exact (db_X16_fork_350 C K J274) (x1) (x2) s0 _ _ _ h hP hD hS (lv_sub hl [0, 1, 2] rfl)
set_option maxHeartbeats 40000000 in
set_option maxRecDepth 100000 in
theorem db_X16_fork_274 {p : Program} {l : Launch} {e : Env} {s : State} {m : MethodId} {args : Array Value} {below : List Frame} {meth : Method} {c : Code} {Q : State → Prop} {A : Nat → Prop} {dC : Nat → ClassId} {dI : Nat → Nat → Nat} {a : Nat → Nat} {ac : Nat → ClassId} {n : Nat} {r : Int32 × (St × (St))} (C : nd_C p l s m args c A (dC, dI) cX16_fork 3 RX16 ow_dm_X16_fork (dk_X16 ac)) (K : nd_Ki p l e (headSpec ow_dm_X16_fork ({ frames := 1, cells := 0, slots := 0, locals := 22 })).room s m args below meth c Q A (dC, dI) cX16_fork .int (St × (St)) (dw_X16 a ac) r) (k : Nat) : dj_X16_fork_274 p l e s m args below meth c Q A dC dI a ac (df_X16_fork_274 n k) r := by
  induction k with
  | zero => intro x1 x2 s0 H locs ls h; exact nomatch (show (none : Option (Int32 × (St × (St)))) = some r from h)
  | succ k ih => exact dB_X16_fork_274 C K ih
set_option maxHeartbeats 40000000 in
set_option maxRecDepth 100000 in
theorem dB_X16_fork_210 {p : Program} {l : Launch} {e : Env} {s : State} {m : MethodId} {args : Array Value} {below : List Frame} {meth : Method} {c : Code} {Q : State → Prop} {A : Nat → Prop} {dC : Nat → ClassId} {dI : Nat → Nat → Nat} {a : Nat → Nat} {ac : Nat → ClassId} {n : Nat} {r : Int32 × (St × (St))} (C : nd_C p l s m args c A (dC, dI) cX16_fork 3 RX16 ow_dm_X16_fork (dk_X16 ac)) (K : nd_Ki p l e (headSpec ow_dm_X16_fork ({ frames := 1, cells := 0, slots := 0, locals := 22 })).room s m args below meth c Q A (dC, dI) cX16_fork .int (St × (St)) (dw_X16 a ac) r) {g210 : Int32 → Int32 → (St × (St)) → Option (Int32 × (St × (St)))} (J210 : dj_X16_fork_210 p l e s m args below meth c Q A dC dI a ac g210 r) : dj_X16_fork_210 p l e s m args below meth c Q A dC dI a ac (dF_X16_fork_210 n g210) r := by
  obtain ⟨hlt, hx, hb, hml, hown, hts, hN, hA, hK⟩ := id C
  intro x1 x2 s0 H locs ls h hP hD hS hl
  unfold dF_X16_fork_210 at h
  refine lv_iload_n hx hb dX16_fork_210 rfl (lv_at hl 2 rfl) ?_
  refine lv_bipush (v := 16) hx hb dX16_fork_211 (by decide) ?_
  refine lv_icmp_ge (tgt := 272) hx hb dX16_fork_213 (by decide) (fun c28 => ?_) (fun c28 => ?_)
  · have h := nd_pos h c28
    refine lv_iconst (v := 0) hx hb dX16_fork_272 (by decide) ?_
    refine lv_istore_n (lv' := [(2, .int 0), (0, .ref (a 0)), (1, .int x1)]) hx hb dX16_fork_273 rfl hl (by decide) rfl (fun ls hl => ?_)
    exact (db_X16_fork_274 C K n) (x1) (0) s0 _ _ _ h hP hD hS (lv_sub hl [1, 2, 0] rfl)
  · have h := nd_neg h c28
    refine lv_aload_n hx hb dX16_fork_216 rfl (lv_at hl 0 rfl) ?_
    refine va_get (D := (dC, dI)) (ci := 17) (v := .ref (a 15)) (C := RX16) (T := TX16) (N := 56) hx hb hts hi_dm_X16_fork_X16 hown hK hP 0 rfl rfl 23 (by decide) (hts (.fieldLink RX16 54 "TimeMachineModel$Machine" "handler" "[I") (List.mem_of_getElem? (i := 20) rfl)) (fun _ h9 => h9) rfl dX16_fork_217 ?_
    refine lv_bipush (v := 16) hx hb dX16_fork_220 (by decide) ?_
    refine lv_iload_n hx hb dX16_fork_222 rfl (lv_at hl 1 rfl) ?_
    refine lv_imul hx hb dX16_fork_223 ?_
    refine lv_iload_n hx hb dX16_fork_224 rfl (lv_at hl 2 rfl) ?_
    refine lv_iadd hx hb dX16_fork_225 ?_
    refine lv_aload_n hx hb dX16_fork_226 rfl (lv_at hl 0 rfl) ?_
    refine va_get (D := (dC, dI)) (ci := 17) (v := .ref (a 15)) (C := RX16) (T := TX16) (N := 56) hx hb hts hi_dm_X16_fork_X16 hown hK hP 0 rfl rfl 23 (by decide) (hts (.fieldLink RX16 54 "TimeMachineModel$Machine" "handler" "[I") (List.mem_of_getElem? (i := 20) rfl)) (fun _ h9 => h9) rfl dX16_fork_227 ?_
    refine lv_bipush (v := 16) hx hb dX16_fork_230 (by decide) ?_
    refine lv_aload_n hx hb dX16_fork_232 rfl (lv_at hl 0 rfl) ?_
    refine va_get (D := (dC, dI)) (ci := 17) (v := .int (sI s0.1 12)) (C := RX16) (T := TX16) (N := 56) hx hb hts hi_dm_X16_fork_X16 hown hK hP 0 rfl rfl 51 (by decide) (hts (.fieldLink RX16 232 "TimeMachineModel$Machine" "p" "I") (List.mem_of_getElem? (i := 7) rfl)) (fun _ h9 => h9) rfl dX16_fork_233 ?_
    refine lv_imul hx hb dX16_fork_236 ?_
    refine lv_iload_n hx hb dX16_fork_237 rfl (lv_at hl 2 rfl) ?_
    refine lv_iadd hx hb dX16_fork_238 ?_
    obtain ⟨i45, h⟩ := nd_ck_e h
    refine va_iald (i := ((16 * (sI s0.1 12)) + x2)) hx hb hK hP 15 14 rfl rfl i45 dX16_fork_239 ?_
    obtain ⟨i46, h⟩ := nd_ck_e h
    refine va_iast (i := ((16 * x1) + x2)) (x := (sR s0.1 13 (Int32.toNatClampNeg ((16 * (sI s0.1 12)) + x2)))) hx hb hK hP hD hS 15 14 rfl rfl i46 dX16_fork_240 (fun H locs hP hD hS => ?_)
    obtain ⟨s47, es47, h⟩ := nd_let_e h
    have hP : va_P (dC, dI) vwCl (dw_X16 a ac s47) H := by rw [es47]; exact hP
    have hD : va_D A (dw_X16 a ac s47) := by rw [es47]; exact hD
    refine lv_aload_n hx hb dX16_fork_241 rfl (lv_at hl 0 rfl) ?_
    refine va_get (D := (dC, dI)) (ci := 17) (v := .ref (a 16)) (C := RX16) (T := TX16) (N := 56) hx hb hts hi_dm_X16_fork_X16 hown hK hP 0 rfl rfl 24 (by decide) (hts (.fieldLink RX16 57 "TimeMachineModel$Machine" "descriptor" "[I") (List.mem_of_getElem? (i := 21) rfl)) (fun _ h9 => h9) rfl dX16_fork_242 ?_
    refine lv_bipush (v := 16) hx hb dX16_fork_245 (by decide) ?_
    refine lv_iload_n hx hb dX16_fork_247 rfl (lv_at hl 1 rfl) ?_
    refine lv_imul hx hb dX16_fork_248 ?_
    refine lv_iload_n hx hb dX16_fork_249 rfl (lv_at hl 2 rfl) ?_
    refine lv_iadd hx hb dX16_fork_250 ?_
    refine lv_aload_n hx hb dX16_fork_251 rfl (lv_at hl 0 rfl) ?_
    refine va_get (D := (dC, dI)) (ci := 17) (v := .ref (a 16)) (C := RX16) (T := TX16) (N := 56) hx hb hts hi_dm_X16_fork_X16 hown hK hP 0 rfl rfl 24 (by decide) (hts (.fieldLink RX16 57 "TimeMachineModel$Machine" "descriptor" "[I") (List.mem_of_getElem? (i := 21) rfl)) (fun _ h9 => h9) rfl dX16_fork_252 ?_
    refine lv_bipush (v := 16) hx hb dX16_fork_255 (by decide) ?_
    refine lv_aload_n hx hb dX16_fork_257 rfl (lv_at hl 0 rfl) ?_
    refine va_get (D := (dC, dI)) (ci := 17) (v := .int (sI s47.1 12)) (C := RX16) (T := TX16) (N := 56) hx hb hts hi_dm_X16_fork_X16 hown hK hP 0 rfl rfl 51 (by decide) (hts (.fieldLink RX16 232 "TimeMachineModel$Machine" "p" "I") (List.mem_of_getElem? (i := 7) rfl)) (fun _ h9 => h9) rfl dX16_fork_258 ?_
    refine lv_imul hx hb dX16_fork_261 ?_
    refine lv_iload_n hx hb dX16_fork_262 rfl (lv_at hl 2 rfl) ?_
    refine lv_iadd hx hb dX16_fork_263 ?_
    obtain ⟨i48, h⟩ := nd_ck_e h
    refine va_iald (i := ((16 * (sI s47.1 12)) + x2)) hx hb hK hP 16 15 rfl rfl i48 dX16_fork_264 ?_
    obtain ⟨i49, h⟩ := nd_ck_e h
    refine va_iast (i := ((16 * x1) + x2)) (x := (sR s47.1 14 (Int32.toNatClampNeg ((16 * (sI s47.1 12)) + x2)))) hx hb hK hP hD hS 16 15 rfl rfl i49 dX16_fork_265 (fun H locs hP hD hS => ?_)
    obtain ⟨s50, es50, h⟩ := nd_let_e h
    have hP : va_P (dC, dI) vwCl (dw_X16 a ac s50) H := by rw [es50]; exact hP
    have hD : va_D A (dw_X16 a ac s50) := by rw [es50]; exact hD
    obtain ⟨z51, ez51, h⟩ := nd_let_e h
    refine lv_iinc (v := z51) (lv' := [(2, .int z51), (0, .ref (a 0)), (1, .int x1)]) hx hb dX16_fork_266 hl (k := 2) rfl (by rw [ez51]) (by decide) rfl (fun ls hl => ?_)
    refine lv_goto (tgt := 210) hx hb dX16_fork_269 (by decide) ?_
    exact (J210) (x1) (z51) s50 _ _ _ h hP hD hS (lv_sub hl [1, 2, 0] rfl)
set_option maxHeartbeats 40000000 in
set_option maxRecDepth 100000 in
theorem db_X16_fork_210 {p : Program} {l : Launch} {e : Env} {s : State} {m : MethodId} {args : Array Value} {below : List Frame} {meth : Method} {c : Code} {Q : State → Prop} {A : Nat → Prop} {dC : Nat → ClassId} {dI : Nat → Nat → Nat} {a : Nat → Nat} {ac : Nat → ClassId} {n : Nat} {r : Int32 × (St × (St))} (C : nd_C p l s m args c A (dC, dI) cX16_fork 3 RX16 ow_dm_X16_fork (dk_X16 ac)) (K : nd_Ki p l e (headSpec ow_dm_X16_fork ({ frames := 1, cells := 0, slots := 0, locals := 22 })).room s m args below meth c Q A (dC, dI) cX16_fork .int (St × (St)) (dw_X16 a ac) r) (k : Nat) : dj_X16_fork_210 p l e s m args below meth c Q A dC dI a ac (df_X16_fork_210 n k) r := by
  induction k with
  | zero => intro x1 x2 s0 H locs ls h; exact nomatch (show (none : Option (Int32 × (St × (St)))) = some r from h)
  | succ k ih => exact dB_X16_fork_210 C K ih
set_option maxHeartbeats 40000000 in
set_option maxRecDepth 100000 in
theorem dB_X16_fork_56 {p : Program} {l : Launch} {e : Env} {s : State} {m : MethodId} {args : Array Value} {below : List Frame} {meth : Method} {c : Code} {Q : State → Prop} {A : Nat → Prop} {dC : Nat → ClassId} {dI : Nat → Nat → Nat} {a : Nat → Nat} {ac : Nat → ClassId} {n : Nat} {r : Int32 × (St × (St))} (C : nd_C p l s m args c A (dC, dI) cX16_fork 3 RX16 ow_dm_X16_fork (dk_X16 ac)) (K : nd_Ki p l e (headSpec ow_dm_X16_fork ({ frames := 1, cells := 0, slots := 0, locals := 22 })).room s m args below meth c Q A (dC, dI) cX16_fork .int (St × (St)) (dw_X16 a ac) r) {g56 : Int32 → Int32 → (St × (St)) → Option (Int32 × (St × (St)))} (J56 : dj_X16_fork_56 p l e s m args below meth c Q A dC dI a ac g56 r) : dj_X16_fork_56 p l e s m args below meth c Q A dC dI a ac (dF_X16_fork_56 n g56) r := by
  obtain ⟨hlt, hx, hb, hml, hown, hts, hN, hA, hK⟩ := id C
  intro x1 x2 s0 H locs ls h hP hD hS hl
  unfold dF_X16_fork_56 at h
  refine lv_iload_n hx hb dX16_fork_56 rfl (lv_at hl 2 rfl) ?_
  refine lv_bipush (v := 32) hx hb dX16_fork_57 (by decide) ?_
  refine lv_icmp_ge (tgt := 118) hx hb dX16_fork_59 (by decide) (fun c10 => ?_) (fun c10 => ?_)
  · have h := nd_pos h c10
    refine lv_aload_n hx hb dX16_fork_118 rfl (lv_at hl 0 rfl) ?_
    refine va_get (D := (dC, dI)) (ci := 17) (v := .ref (a 11)) (C := RX16) (T := TX16) (N := 56) hx hb hts hi_dm_X16_fork_X16 hown hK hP 0 rfl rfl 19 (by decide) (hts (.fieldLink RX16 42 "TimeMachineModel$Machine" "x" "[I") (List.mem_of_getElem? (i := 8) rfl)) (fun _ h9 => h9) rfl dX16_fork_119 ?_
    refine lv_bipush (v := 32) hx hb dX16_fork_122 (by decide) ?_
    refine lv_iload_n hx hb dX16_fork_124 rfl (lv_at hl 1 rfl) ?_
    refine lv_imul hx hb dX16_fork_125 ?_
    refine lv_bipush (v := 10) hx hb dX16_fork_126 (by decide) ?_
    refine lv_iadd hx hb dX16_fork_128 ?_
    refine lv_iconst (v := 0) hx hb dX16_fork_129 (by decide) ?_
    obtain ⟨i11, h⟩ := nd_ck_e h
    refine va_iast (i := ((32 * x1) + 10)) (x := 0) hx hb hK hP hD hS 11 10 rfl rfl i11 dX16_fork_130 (fun H locs hP hD hS => ?_)
    obtain ⟨s12, es12, h⟩ := nd_let_e h
    have hP : va_P (dC, dI) vwCl (dw_X16 a ac s12) H := by rw [es12]; exact hP
    have hD : va_D A (dw_X16 a ac s12) := by rw [es12]; exact hD
    refine lv_aload_n hx hb dX16_fork_131 rfl (lv_at hl 0 rfl) ?_
    refine va_get (D := (dC, dI)) (ci := 17) (v := .ref (a 12)) (C := RX16) (T := TX16) (N := 56) hx hb hts hi_dm_X16_fork_X16 hown hK hP 0 rfl rfl 20 (by decide) (hts (.fieldLink RX16 45 "TimeMachineModel$Machine" "place" "[I") (List.mem_of_getElem? (i := 9) rfl)) (fun _ h9 => h9) rfl dX16_fork_132 ?_
    refine lv_iload_n hx hb dX16_fork_135 rfl (lv_at hl 1 rfl) ?_
    refine lv_aload_n hx hb dX16_fork_136 rfl (lv_at hl 0 rfl) ?_
    refine va_get (D := (dC, dI)) (ci := 17) (v := .ref (a 12)) (C := RX16) (T := TX16) (N := 56) hx hb hts hi_dm_X16_fork_X16 hown hK hP 0 rfl rfl 20 (by decide) (hts (.fieldLink RX16 45 "TimeMachineModel$Machine" "place" "[I") (List.mem_of_getElem? (i := 9) rfl)) (fun _ h9 => h9) rfl dX16_fork_137 ?_
    refine lv_aload_n hx hb dX16_fork_140 rfl (lv_at hl 0 rfl) ?_
    refine va_get (D := (dC, dI)) (ci := 17) (v := .int (sI s12.1 12)) (C := RX16) (T := TX16) (N := 56) hx hb hts hi_dm_X16_fork_X16 hown hK hP 0 rfl rfl 51 (by decide) (hts (.fieldLink RX16 232 "TimeMachineModel$Machine" "p" "I") (List.mem_of_getElem? (i := 7) rfl)) (fun _ h9 => h9) rfl dX16_fork_141 ?_
    obtain ⟨i13, h⟩ := nd_ck_e h
    refine va_iald (i := (sI s12.1 12)) hx hb hK hP 12 11 rfl rfl i13 dX16_fork_144 ?_
    refine lv_iconst (v := 4) hx hb dX16_fork_145 (by decide) ?_
    refine lv_iadd hx hb dX16_fork_146 ?_
    obtain ⟨i14, h⟩ := nd_ck_e h
    refine va_iast (i := x1) (x := ((sR s12.1 10 (Int32.toNatClampNeg (sI s12.1 12))) + 4)) hx hb hK hP hD hS 12 11 rfl rfl i14 dX16_fork_147 (fun H locs hP hD hS => ?_)
    obtain ⟨s15, es15, h⟩ := nd_let_e h
    have hP : va_P (dC, dI) vwCl (dw_X16 a ac s15) H := by rw [es15]; exact hP
    have hD : va_D A (dw_X16 a ac s15) := by rw [es15]; exact hD
    refine lv_aload_n hx hb dX16_fork_148 rfl (lv_at hl 0 rfl) ?_
    refine va_get (D := (dC, dI)) (ci := 17) (v := .ref (a 14)) (C := RX16) (T := TX16) (N := 56) hx hb hts hi_dm_X16_fork_X16 hown hK hP 0 rfl rfl 22 (by decide) (hts (.fieldLink RX16 51 "TimeMachineModel$Machine" "savedPlace" "[I") (List.mem_of_getElem? (i := 10) rfl)) (fun _ h9 => h9) rfl dX16_fork_149 ?_
    refine lv_iload_n hx hb dX16_fork_152 rfl (lv_at hl 1 rfl) ?_
    refine lv_aload_n hx hb dX16_fork_153 rfl (lv_at hl 0 rfl) ?_
    refine va_get (D := (dC, dI)) (ci := 17) (v := .ref (a 14)) (C := RX16) (T := TX16) (N := 56) hx hb hts hi_dm_X16_fork_X16 hown hK hP 0 rfl rfl 22 (by decide) (hts (.fieldLink RX16 51 "TimeMachineModel$Machine" "savedPlace" "[I") (List.mem_of_getElem? (i := 10) rfl)) (fun _ h9 => h9) rfl dX16_fork_154 ?_
    refine lv_aload_n hx hb dX16_fork_157 rfl (lv_at hl 0 rfl) ?_
    refine va_get (D := (dC, dI)) (ci := 17) (v := .int (sI s15.1 12)) (C := RX16) (T := TX16) (N := 56) hx hb hts hi_dm_X16_fork_X16 hown hK hP 0 rfl rfl 51 (by decide) (hts (.fieldLink RX16 232 "TimeMachineModel$Machine" "p" "I") (List.mem_of_getElem? (i := 7) rfl)) (fun _ h9 => h9) rfl dX16_fork_158 ?_
    obtain ⟨i16, h⟩ := nd_ck_e h
    refine va_iald (i := (sI s15.1 12)) hx hb hK hP 14 13 rfl rfl i16 dX16_fork_161 ?_
    obtain ⟨i17, h⟩ := nd_ck_e h
    refine va_iast (i := x1) (x := (sR s15.1 12 (Int32.toNatClampNeg (sI s15.1 12)))) hx hb hK hP hD hS 14 13 rfl rfl i17 dX16_fork_162 (fun H locs hP hD hS => ?_)
    obtain ⟨s18, es18, h⟩ := nd_let_e h
    have hP : va_P (dC, dI) vwCl (dw_X16 a ac s18) H := by rw [es18]; exact hP
    have hD : va_D A (dw_X16 a ac s18) := by rw [es18]; exact hD
    refine lv_aload_n hx hb dX16_fork_163 rfl (lv_at hl 0 rfl) ?_
    refine va_get (D := (dC, dI)) (ci := 17) (v := .ref (a 9)) (C := RX16) (T := TX16) (N := 56) hx hb hts hi_dm_X16_fork_X16 hown hK hP 0 rfl rfl 17 (by decide) (hts (.fieldLink RX16 34 "TimeMachineModel$Machine" "within" "[Z") (List.mem_of_getElem? (i := 11) rfl)) (fun _ h9 => h9) rfl dX16_fork_164 ?_
    refine lv_iload_n hx hb dX16_fork_167 rfl (lv_at hl 1 rfl) ?_
    refine lv_aload_n hx hb dX16_fork_168 rfl (lv_at hl 0 rfl) ?_
    refine va_get (D := (dC, dI)) (ci := 17) (v := .ref (a 9)) (C := RX16) (T := TX16) (N := 56) hx hb hts hi_dm_X16_fork_X16 hown hK hP 0 rfl rfl 17 (by decide) (hts (.fieldLink RX16 34 "TimeMachineModel$Machine" "within" "[Z") (List.mem_of_getElem? (i := 11) rfl)) (fun _ h9 => h9) rfl dX16_fork_169 ?_
    refine lv_aload_n hx hb dX16_fork_172 rfl (lv_at hl 0 rfl) ?_
    refine va_get (D := (dC, dI)) (ci := 17) (v := .int (sI s18.1 12)) (C := RX16) (T := TX16) (N := 56) hx hb hts hi_dm_X16_fork_X16 hown hK hP 0 rfl rfl 51 (by decide) (hts (.fieldLink RX16 232 "TimeMachineModel$Machine" "p" "I") (List.mem_of_getElem? (i := 7) rfl)) (fun _ h9 => h9) rfl dX16_fork_173 ?_
    obtain ⟨i19, h⟩ := nd_ck_e h
    refine va_zald (i := (sI s18.1 12)) hx hb hK hP 9 8 rfl rfl i19 dX16_fork_176 ?_
    obtain ⟨i20, h⟩ := nd_ck_e h
    refine va_zast (i := x1) (x := (sR s18.1 8 (Int32.toNatClampNeg (sI s18.1 12)))) hx hb hK hP hD hS 9 8 rfl rfl i20 dX16_fork_177 (fun H locs hP hD hS => ?_)
    obtain ⟨s21, es21, h⟩ := nd_let_e h
    have hP : va_P (dC, dI) vwCl (dw_X16 a ac s21) H := by rw [es21]; exact hP
    have hD : va_D A (dw_X16 a ac s21) := by rw [es21]; exact hD
    refine lv_aload_n hx hb dX16_fork_178 rfl (lv_at hl 0 rfl) ?_
    refine va_get (D := (dC, dI)) (ci := 17) (v := .ref (a 6)) (C := RX16) (T := TX16) (N := 56) hx hb hts hi_dm_X16_fork_X16 hown hK hP 0 rfl rfl 14 (by decide) (hts (.fieldLink RX16 25 "TimeMachineModel$Machine" "heapBegin" "[I") (List.mem_of_getElem? (i := 12) rfl)) (fun _ h9 => h9) rfl dX16_fork_179 ?_
    refine lv_iload_n hx hb dX16_fork_182 rfl (lv_at hl 1 rfl) ?_
    refine lv_aload_n hx hb dX16_fork_183 rfl (lv_at hl 0 rfl) ?_
    refine va_get (D := (dC, dI)) (ci := 17) (v := .ref (a 6)) (C := RX16) (T := TX16) (N := 56) hx hb hts hi_dm_X16_fork_X16 hown hK hP 0 rfl rfl 14 (by decide) (hts (.fieldLink RX16 25 "TimeMachineModel$Machine" "heapBegin" "[I") (List.mem_of_getElem? (i := 12) rfl)) (fun _ h9 => h9) rfl dX16_fork_184 ?_
    refine lv_aload_n hx hb dX16_fork_187 rfl (lv_at hl 0 rfl) ?_
    refine va_get (D := (dC, dI)) (ci := 17) (v := .int (sI s21.1 12)) (C := RX16) (T := TX16) (N := 56) hx hb hts hi_dm_X16_fork_X16 hown hK hP 0 rfl rfl 51 (by decide) (hts (.fieldLink RX16 232 "TimeMachineModel$Machine" "p" "I") (List.mem_of_getElem? (i := 7) rfl)) (fun _ h9 => h9) rfl dX16_fork_188 ?_
    obtain ⟨i22, h⟩ := nd_ck_e h
    refine va_iald (i := (sI s21.1 12)) hx hb hK hP 6 5 rfl rfl i22 dX16_fork_191 ?_
    obtain ⟨i23, h⟩ := nd_ck_e h
    refine va_iast (i := x1) (x := (sR s21.1 5 (Int32.toNatClampNeg (sI s21.1 12)))) hx hb hK hP hD hS 6 5 rfl rfl i23 dX16_fork_192 (fun H locs hP hD hS => ?_)
    obtain ⟨s24, es24, h⟩ := nd_let_e h
    have hP : va_P (dC, dI) vwCl (dw_X16 a ac s24) H := by rw [es24]; exact hP
    have hD : va_D A (dw_X16 a ac s24) := by rw [es24]; exact hD
    refine lv_aload_n hx hb dX16_fork_193 rfl (lv_at hl 0 rfl) ?_
    refine va_get (D := (dC, dI)) (ci := 17) (v := .ref (a 7)) (C := RX16) (T := TX16) (N := 56) hx hb hts hi_dm_X16_fork_X16 hown hK hP 0 rfl rfl 15 (by decide) (hts (.fieldLink RX16 28 "TimeMachineModel$Machine" "heapEnd" "[I") (List.mem_of_getElem? (i := 13) rfl)) (fun _ h9 => h9) rfl dX16_fork_194 ?_
    refine lv_iload_n hx hb dX16_fork_197 rfl (lv_at hl 1 rfl) ?_
    refine lv_aload_n hx hb dX16_fork_198 rfl (lv_at hl 0 rfl) ?_
    refine va_get (D := (dC, dI)) (ci := 17) (v := .ref (a 7)) (C := RX16) (T := TX16) (N := 56) hx hb hts hi_dm_X16_fork_X16 hown hK hP 0 rfl rfl 15 (by decide) (hts (.fieldLink RX16 28 "TimeMachineModel$Machine" "heapEnd" "[I") (List.mem_of_getElem? (i := 13) rfl)) (fun _ h9 => h9) rfl dX16_fork_199 ?_
    refine lv_aload_n hx hb dX16_fork_202 rfl (lv_at hl 0 rfl) ?_
    refine va_get (D := (dC, dI)) (ci := 17) (v := .int (sI s24.1 12)) (C := RX16) (T := TX16) (N := 56) hx hb hts hi_dm_X16_fork_X16 hown hK hP 0 rfl rfl 51 (by decide) (hts (.fieldLink RX16 232 "TimeMachineModel$Machine" "p" "I") (List.mem_of_getElem? (i := 7) rfl)) (fun _ h9 => h9) rfl dX16_fork_203 ?_
    obtain ⟨i25, h⟩ := nd_ck_e h
    refine va_iald (i := (sI s24.1 12)) hx hb hK hP 7 6 rfl rfl i25 dX16_fork_206 ?_
    obtain ⟨i26, h⟩ := nd_ck_e h
    refine va_iast (i := x1) (x := (sR s24.1 6 (Int32.toNatClampNeg (sI s24.1 12)))) hx hb hK hP hD hS 7 6 rfl rfl i26 dX16_fork_207 (fun H locs hP hD hS => ?_)
    obtain ⟨s27, es27, h⟩ := nd_let_e h
    have hP : va_P (dC, dI) vwCl (dw_X16 a ac s27) H := by rw [es27]; exact hP
    have hD : va_D A (dw_X16 a ac s27) := by rw [es27]; exact hD
    refine lv_iconst (v := 0) hx hb dX16_fork_208 (by decide) ?_
    refine lv_istore_n (lv' := [(2, .int 0), (0, .ref (a 0)), (1, .int x1)]) hx hb dX16_fork_209 rfl hl (by decide) rfl (fun ls hl => ?_)
    exact (db_X16_fork_210 C K n) (x1) (0) s27 _ _ _ h hP hD hS (lv_sub hl [1, 2, 0] rfl)
  · have h := nd_neg h c10
    refine lv_aload_n hx hb dX16_fork_62 rfl (lv_at hl 0 rfl) ?_
    refine va_get (D := (dC, dI)) (ci := 17) (v := .ref (a 11)) (C := RX16) (T := TX16) (N := 56) hx hb hts hi_dm_X16_fork_X16 hown hK hP 0 rfl rfl 19 (by decide) (hts (.fieldLink RX16 42 "TimeMachineModel$Machine" "x" "[I") (List.mem_of_getElem? (i := 8) rfl)) (fun _ h9 => h9) rfl dX16_fork_63 ?_
    refine lv_bipush (v := 32) hx hb dX16_fork_66 (by decide) ?_
    refine lv_iload_n hx hb dX16_fork_68 rfl (lv_at hl 1 rfl) ?_
    refine lv_imul hx hb dX16_fork_69 ?_
    refine lv_iload_n hx hb dX16_fork_70 rfl (lv_at hl 2 rfl) ?_
    refine lv_iadd hx hb dX16_fork_71 ?_
    refine lv_aload_n hx hb dX16_fork_72 rfl (lv_at hl 0 rfl) ?_
    refine va_get (D := (dC, dI)) (ci := 17) (v := .ref (a 11)) (C := RX16) (T := TX16) (N := 56) hx hb hts hi_dm_X16_fork_X16 hown hK hP 0 rfl rfl 19 (by decide) (hts (.fieldLink RX16 42 "TimeMachineModel$Machine" "x" "[I") (List.mem_of_getElem? (i := 8) rfl)) (fun _ h9 => h9) rfl dX16_fork_73 ?_
    refine lv_bipush (v := 32) hx hb dX16_fork_76 (by decide) ?_
    refine lv_aload_n hx hb dX16_fork_78 rfl (lv_at hl 0 rfl) ?_
    refine va_get (D := (dC, dI)) (ci := 17) (v := .int (sI s0.1 12)) (C := RX16) (T := TX16) (N := 56) hx hb hts hi_dm_X16_fork_X16 hown hK hP 0 rfl rfl 51 (by decide) (hts (.fieldLink RX16 232 "TimeMachineModel$Machine" "p" "I") (List.mem_of_getElem? (i := 7) rfl)) (fun _ h9 => h9) rfl dX16_fork_79 ?_
    refine lv_imul hx hb dX16_fork_82 ?_
    refine lv_iload_n hx hb dX16_fork_83 rfl (lv_at hl 2 rfl) ?_
    refine lv_iadd hx hb dX16_fork_84 ?_
    obtain ⟨i52, h⟩ := nd_ck_e h
    refine va_iald (i := ((32 * (sI s0.1 12)) + x2)) hx hb hK hP 11 10 rfl rfl i52 dX16_fork_85 ?_
    obtain ⟨i53, h⟩ := nd_ck_e h
    refine va_iast (i := ((32 * x1) + x2)) (x := (sR s0.1 9 (Int32.toNatClampNeg ((32 * (sI s0.1 12)) + x2)))) hx hb hK hP hD hS 11 10 rfl rfl i53 dX16_fork_86 (fun H locs hP hD hS => ?_)
    obtain ⟨s54, es54, h⟩ := nd_let_e h
    have hP : va_P (dC, dI) vwCl (dw_X16 a ac s54) H := by rw [es54]; exact hP
    have hD : va_D A (dw_X16 a ac s54) := by rw [es54]; exact hD
    refine lv_aload_n hx hb dX16_fork_87 rfl (lv_at hl 0 rfl) ?_
    refine va_get (D := (dC, dI)) (ci := 17) (v := .ref (a 13)) (C := RX16) (T := TX16) (N := 56) hx hb hts hi_dm_X16_fork_X16 hown hK hP 0 rfl rfl 21 (by decide) (hts (.fieldLink RX16 48 "TimeMachineModel$Machine" "saved" "[I") (List.mem_of_getElem? (i := 22) rfl)) (fun _ h9 => h9) rfl dX16_fork_88 ?_
    refine lv_bipush (v := 32) hx hb dX16_fork_91 (by decide) ?_
    refine lv_iload_n hx hb dX16_fork_93 rfl (lv_at hl 1 rfl) ?_
    refine lv_imul hx hb dX16_fork_94 ?_
    refine lv_iload_n hx hb dX16_fork_95 rfl (lv_at hl 2 rfl) ?_
    refine lv_iadd hx hb dX16_fork_96 ?_
    refine lv_aload_n hx hb dX16_fork_97 rfl (lv_at hl 0 rfl) ?_
    refine va_get (D := (dC, dI)) (ci := 17) (v := .ref (a 13)) (C := RX16) (T := TX16) (N := 56) hx hb hts hi_dm_X16_fork_X16 hown hK hP 0 rfl rfl 21 (by decide) (hts (.fieldLink RX16 48 "TimeMachineModel$Machine" "saved" "[I") (List.mem_of_getElem? (i := 22) rfl)) (fun _ h9 => h9) rfl dX16_fork_98 ?_
    refine lv_bipush (v := 32) hx hb dX16_fork_101 (by decide) ?_
    refine lv_aload_n hx hb dX16_fork_103 rfl (lv_at hl 0 rfl) ?_
    refine va_get (D := (dC, dI)) (ci := 17) (v := .int (sI s54.1 12)) (C := RX16) (T := TX16) (N := 56) hx hb hts hi_dm_X16_fork_X16 hown hK hP 0 rfl rfl 51 (by decide) (hts (.fieldLink RX16 232 "TimeMachineModel$Machine" "p" "I") (List.mem_of_getElem? (i := 7) rfl)) (fun _ h9 => h9) rfl dX16_fork_104 ?_
    refine lv_imul hx hb dX16_fork_107 ?_
    refine lv_iload_n hx hb dX16_fork_108 rfl (lv_at hl 2 rfl) ?_
    refine lv_iadd hx hb dX16_fork_109 ?_
    obtain ⟨i55, h⟩ := nd_ck_e h
    refine va_iald (i := ((32 * (sI s54.1 12)) + x2)) hx hb hK hP 13 12 rfl rfl i55 dX16_fork_110 ?_
    obtain ⟨i56, h⟩ := nd_ck_e h
    refine va_iast (i := ((32 * x1) + x2)) (x := (sR s54.1 11 (Int32.toNatClampNeg ((32 * (sI s54.1 12)) + x2)))) hx hb hK hP hD hS 13 12 rfl rfl i56 dX16_fork_111 (fun H locs hP hD hS => ?_)
    obtain ⟨s57, es57, h⟩ := nd_let_e h
    have hP : va_P (dC, dI) vwCl (dw_X16 a ac s57) H := by rw [es57]; exact hP
    have hD : va_D A (dw_X16 a ac s57) := by rw [es57]; exact hD
    obtain ⟨z58, ez58, h⟩ := nd_let_e h
    refine lv_iinc (v := z58) (lv' := [(2, .int z58), (0, .ref (a 0)), (1, .int x1)]) hx hb dX16_fork_112 hl (k := 2) rfl (by rw [ez58]) (by decide) rfl (fun ls hl => ?_)
    refine lv_goto (tgt := 56) hx hb dX16_fork_115 (by decide) ?_
    exact (J56) (x1) (z58) s57 _ _ _ h hP hD hS (lv_sub hl [1, 2, 0] rfl)
set_option maxHeartbeats 40000000 in
set_option maxRecDepth 100000 in
theorem db_X16_fork_56 {p : Program} {l : Launch} {e : Env} {s : State} {m : MethodId} {args : Array Value} {below : List Frame} {meth : Method} {c : Code} {Q : State → Prop} {A : Nat → Prop} {dC : Nat → ClassId} {dI : Nat → Nat → Nat} {a : Nat → Nat} {ac : Nat → ClassId} {n : Nat} {r : Int32 × (St × (St))} (C : nd_C p l s m args c A (dC, dI) cX16_fork 3 RX16 ow_dm_X16_fork (dk_X16 ac)) (K : nd_Ki p l e (headSpec ow_dm_X16_fork ({ frames := 1, cells := 0, slots := 0, locals := 22 })).room s m args below meth c Q A (dC, dI) cX16_fork .int (St × (St)) (dw_X16 a ac) r) (k : Nat) : dj_X16_fork_56 p l e s m args below meth c Q A dC dI a ac (df_X16_fork_56 n k) r := by
  induction k with
  | zero => intro x1 x2 s0 H locs ls h; exact nomatch (show (none : Option (Int32 × (St × (St)))) = some r from h)
  | succ k ih => exact dB_X16_fork_56 C K ih
set_option maxHeartbeats 40000000 in
set_option maxRecDepth 100000 in
theorem db_X16_fork_23 {p : Program} {l : Launch} {e : Env} {s : State} {m : MethodId} {args : Array Value} {below : List Frame} {meth : Method} {c : Code} {Q : State → Prop} {A : Nat → Prop} {dC : Nat → ClassId} {dI : Nat → Nat → Nat} {a : Nat → Nat} {ac : Nat → ClassId} {n : Nat} {r : Int32 × (St × (St))} (C : nd_C p l s m args c A (dC, dI) cX16_fork 3 RX16 ow_dm_X16_fork (dk_X16 ac)) (K : nd_Ki p l e (headSpec ow_dm_X16_fork ({ frames := 1, cells := 0, slots := 0, locals := 22 })).room s m args below meth c Q A (dC, dI) cX16_fork .int (St × (St)) (dw_X16 a ac) r) : dj_X16_fork_23 p l e s m args below meth c Q A dC dI a ac (df_X16_fork_23 n) r := by
  obtain ⟨hlt, hx, hb, hml, hown, hts, hN, hA, hK⟩ := id C
  intro x1 s0 H locs ls h hP hD hS hl
  unfold df_X16_fork_23 at h
  refine lv_iload_n hx hb dX16_fork_23 rfl (lv_at hl 1 rfl) ?_
  refine lv_bipush (v := 16) hx hb dX16_fork_24 (by decide) ?_
  refine lv_icmp_ne (tgt := 32) hx hb dX16_fork_26 (by decide) (fun c2 => ?_) (fun c2 => ?_)
  · have h := nd_neg h c2
    refine lv_aload_n hx hb dX16_fork_32 rfl (lv_at hl 0 rfl) ?_
    refine lv_iload_n hx hb dX16_fork_33 rfl (lv_at hl 1 rfl) ?_
    obtain ⟨s4, hq, h⟩ := nd_b1_e h
    have hPc := hP
    have hDc := hD
    have hKc := hK
    have hFc := nd_rs hD hS hA
    refine nd_cVv (As := [.int x1]) (rest := []) (w' := dw_X16 a ac s4) ⟨hx, hb, hml, hown, hts⟩ (fun sz => dm_X16_begin l hlt dC dI a ac n (x1) s0 hq sz) (cwV 1 hts gi_dm_X16_fork_0 rfl rfl rfl (by decide +kernel) ⟨Nat.le_of_ble_eq_true rfl, Nat.le_of_ble_eq_true rfl⟩) hPc hDc hKc hS hA hN (va_recv hKc hPc (ci := 17) (q0 := 0) rfl rfl) rfl hl.1 rfl (Nat.le_of_ble_eq_true rfl) dX16_fork_34 (fun H locs hP1 hD1 hk1 hS => ?_)
    have hP := hP1
    have hD := hD1.weaken (fun k q _ h => hFc q.1 h)
    refine lv_aload_n hx hb dX16_fork_37 rfl (lv_at hl 0 rfl) ?_
    refine va_get (D := (dC, dI)) (ci := 17) (v := .ref (a 2)) (C := RX16) (T := TX16) (N := 56) hx hb hts hi_dm_X16_fork_X16 hown hK hP 0 rfl rfl 10 (by decide) (hts (.fieldLink RX16 13 "TimeMachineModel$Machine" "state" "[I") (List.mem_of_getElem? (i := 5) rfl)) (fun _ h9 => h9) rfl dX16_fork_38 ?_
    refine lv_iload_n hx hb dX16_fork_41 rfl (lv_at hl 1 rfl) ?_
    refine lv_iconst (v := 1) hx hb dX16_fork_42 (by decide) ?_
    obtain ⟨i6, h⟩ := nd_ck_e h
    refine va_iast (i := x1) (x := 1) hx hb hK hP hD hS 2 1 rfl rfl i6 dX16_fork_43 (fun H locs hP hD hS => ?_)
    obtain ⟨s7, es7, h⟩ := nd_let_e h
    have hP : va_P (dC, dI) vwCl (dw_X16 a ac s7) H := by rw [es7]; exact hP
    have hD : va_D A (dw_X16 a ac s7) := by rw [es7]; exact hD
    refine lv_aload_n hx hb dX16_fork_44 rfl (lv_at hl 0 rfl) ?_
    refine va_get (D := (dC, dI)) (ci := 17) (v := .ref (a 3)) (C := RX16) (T := TX16) (N := 56) hx hb hts hi_dm_X16_fork_X16 hown hK hP 0 rfl rfl 11 (by decide) (hts (.fieldLink RX16 16 "TimeMachineModel$Machine" "parent" "[I") (List.mem_of_getElem? (i := 6) rfl)) (fun _ h9 => h9) rfl dX16_fork_45 ?_
    refine lv_iload_n hx hb dX16_fork_48 rfl (lv_at hl 1 rfl) ?_
    refine lv_aload_n hx hb dX16_fork_49 rfl (lv_at hl 0 rfl) ?_
    refine va_get (D := (dC, dI)) (ci := 17) (v := .int (sI s7.1 12)) (C := RX16) (T := TX16) (N := 56) hx hb hts hi_dm_X16_fork_X16 hown hK hP 0 rfl rfl 51 (by decide) (hts (.fieldLink RX16 232 "TimeMachineModel$Machine" "p" "I") (List.mem_of_getElem? (i := 7) rfl)) (fun _ h9 => h9) rfl dX16_fork_50 ?_
    obtain ⟨i8, h⟩ := nd_ck_e h
    refine va_iast (i := x1) (x := (sI s7.1 12)) hx hb hK hP hD hS 3 2 rfl rfl i8 dX16_fork_53 (fun H locs hP hD hS => ?_)
    obtain ⟨s9, es9, h⟩ := nd_let_e h
    have hP : va_P (dC, dI) vwCl (dw_X16 a ac s9) H := by rw [es9]; exact hP
    have hD : va_D A (dw_X16 a ac s9) := by rw [es9]; exact hD
    refine lv_iconst (v := 0) hx hb dX16_fork_54 (by decide) ?_
    refine lv_istore_n (lv' := [(2, .int 0), (0, .ref (a 0)), (1, .int x1)]) hx hb dX16_fork_55 rfl hl (by decide) rfl (fun ls hl => ?_)
    exact (db_X16_fork_56 C K n) (x1) (0) s9 _ _ _ h hP hD hS (lv_sub hl [1, 2, 0] rfl)
  · have h := nd_pos h c2
    refine lv_bipush (v := (-4)) hx hb dX16_fork_29 (by decide) ?_
    exact K _ _ _ _ _ _ dX16_fork_31 rfl (Option.some.inj h).symm hP hD hS
set_option maxHeartbeats 40000000 in
set_option maxRecDepth 100000 in
theorem dB_X16_fork_2 {p : Program} {l : Launch} {e : Env} {s : State} {m : MethodId} {args : Array Value} {below : List Frame} {meth : Method} {c : Code} {Q : State → Prop} {A : Nat → Prop} {dC : Nat → ClassId} {dI : Nat → Nat → Nat} {a : Nat → Nat} {ac : Nat → ClassId} {n : Nat} {r : Int32 × (St × (St))} (C : nd_C p l s m args c A (dC, dI) cX16_fork 3 RX16 ow_dm_X16_fork (dk_X16 ac)) (K : nd_Ki p l e (headSpec ow_dm_X16_fork ({ frames := 1, cells := 0, slots := 0, locals := 22 })).room s m args below meth c Q A (dC, dI) cX16_fork .int (St × (St)) (dw_X16 a ac) r) {g2 : Int32 → (St × (St)) → Option (Int32 × (St × (St)))} (J2 : dj_X16_fork_2 p l e s m args below meth c Q A dC dI a ac g2 r) : dj_X16_fork_2 p l e s m args below meth c Q A dC dI a ac (dF_X16_fork_2 n g2) r := by
  obtain ⟨hlt, hx, hb, hml, hown, hts, hN, hA, hK⟩ := id C
  intro x1 s0 H locs ls h hP hD hS hl
  unfold dF_X16_fork_2 at h
  refine lv_iload_n hx hb dX16_fork_2 rfl (lv_at hl 1 rfl) ?_
  refine lv_bipush (v := 16) hx hb dX16_fork_3 (by decide) ?_
  refine lv_icmp_ge (tgt := 23) hx hb dX16_fork_5 (by decide) (fun c1 => ?_) (fun c1 => ?_)
  · have h := nd_pos h c1
    exact (db_X16_fork_23 C K) (x1) s0 _ _ _ h hP hD hS (lv_sub hl [0, 1] rfl)
  · have h := nd_neg h c1
    refine lv_aload_n hx hb dX16_fork_8 rfl (lv_at hl 0 rfl) ?_
    refine va_get (D := (dC, dI)) (ci := 17) (v := .ref (a 2)) (C := RX16) (T := TX16) (N := 56) hx hb hts hi_dm_X16_fork_X16 hown hK hP 0 rfl rfl 10 (by decide) (hts (.fieldLink RX16 13 "TimeMachineModel$Machine" "state" "[I") (List.mem_of_getElem? (i := 5) rfl)) (fun _ h9 => h9) rfl dX16_fork_9 ?_
    refine lv_iload_n hx hb dX16_fork_12 rfl (lv_at hl 1 rfl) ?_
    obtain ⟨i59, h⟩ := nd_ck_e h
    refine va_iald (i := x1) hx hb hK hP 2 1 rfl rfl i59 dX16_fork_13 ?_
    refine lv_if_eq (tgt := 23) hx hb dX16_fork_14 (by decide) (fun c60 => ?_) (fun c60 => ?_)
    · have h := nd_pos h c60
      exact (db_X16_fork_23 C K) (x1) s0 _ _ _ h hP hD hS (lv_sub hl [0, 1] rfl)
    · have h := nd_neg h c60
      obtain ⟨z61, ez61, h⟩ := nd_let_e h
      refine lv_iinc (v := z61) (lv' := [(1, .int z61), (0, .ref (a 0))]) hx hb dX16_fork_17 hl (k := 1) rfl (by rw [ez61]) (by decide) rfl (fun ls hl => ?_)
      refine lv_goto (tgt := 2) hx hb dX16_fork_20 (by decide) ?_
      exact (J2) (z61) s0 _ _ _ h hP hD hS (lv_sub hl [1, 0] rfl)
set_option maxHeartbeats 40000000 in
set_option maxRecDepth 100000 in
theorem db_X16_fork_2 {p : Program} {l : Launch} {e : Env} {s : State} {m : MethodId} {args : Array Value} {below : List Frame} {meth : Method} {c : Code} {Q : State → Prop} {A : Nat → Prop} {dC : Nat → ClassId} {dI : Nat → Nat → Nat} {a : Nat → Nat} {ac : Nat → ClassId} {n : Nat} {r : Int32 × (St × (St))} (C : nd_C p l s m args c A (dC, dI) cX16_fork 3 RX16 ow_dm_X16_fork (dk_X16 ac)) (K : nd_Ki p l e (headSpec ow_dm_X16_fork ({ frames := 1, cells := 0, slots := 0, locals := 22 })).room s m args below meth c Q A (dC, dI) cX16_fork .int (St × (St)) (dw_X16 a ac) r) (k : Nat) : dj_X16_fork_2 p l e s m args below meth c Q A dC dI a ac (df_X16_fork_2 n k) r := by
  induction k with
  | zero => intro x1 s0 H locs ls h; exact nomatch (show (none : Option (Int32 × (St × (St)))) = some r from h)
  | succ k ih => exact dB_X16_fork_2 C K ih
set_option maxHeartbeats 40000000 in
set_option maxRecDepth 100000 in
theorem db_X16_fork_0 {p : Program} {l : Launch} {e : Env} {s : State} {m : MethodId} {args : Array Value} {below : List Frame} {meth : Method} {c : Code} {Q : State → Prop} {A : Nat → Prop} {dC : Nat → ClassId} {dI : Nat → Nat → Nat} {a : Nat → Nat} {ac : Nat → ClassId} {n : Nat} {r : Int32 × (St × (St))} (C : nd_C p l s m args c A (dC, dI) cX16_fork 3 RX16 ow_dm_X16_fork (dk_X16 ac)) (K : nd_Ki p l e (headSpec ow_dm_X16_fork ({ frames := 1, cells := 0, slots := 0, locals := 22 })).room s m args below meth c Q A (dC, dI) cX16_fork .int (St × (St)) (dw_X16 a ac) r) : dj_X16_fork_0 p l e s m args below meth c Q A dC dI a ac (df_X16_fork_0 n) r := by
  obtain ⟨hlt, hx, hb, hml, hown, hts, hN, hA, hK⟩ := id C
  intro s0 H locs ls h hP hD hS hl
  unfold df_X16_fork_0 at h
  refine lv_iconst (v := 0) hx hb dX16_fork_0 (by decide) ?_
  refine lv_istore_n (lv' := [(1, .int 0), (0, .ref (a 0))]) hx hb dX16_fork_1 rfl hl (by decide) rfl (fun ls hl => ?_)
  exact (db_X16_fork_2 C K n) (0) s0 _ _ _ h hP hD hS (lv_sub hl [1, 0] rfl)
set_option maxHeartbeats 40000000 in
set_option maxRecDepth 100000 in
theorem dm_X16_fork (l : Launch) (hlt : l.stackTraces = false) (dC : Nat → ClassId) (dI : Nat → Nat → Nat) (a : Nat → Nat) (ac : Nat → ClassId) (n : Nat) (s0 : St × (St)) {r : Int32 × (St × (St))} (h : df_X16_fork n s0 = some r) (sz : Nat) : Met l yX16_fork ow_dm_X16_fork ({ frames := 1, cells := 0, slots := 0, locals := 22 }) (va_Pc [.ref (a 0)] (fun U => U.heap.size = sz ∧ va_P (dC, dI) vwCl (dw_X16 a ac s0) U.heap ∧ va_K (dC, dI) vwCl (dk_X16 ac) U ∧ va_D (fun _ => True) (dw_X16 a ac s0) ∧ nv_E dI (va_A (dw_X16 a ac s0) sz) U)) (va_Qi (fun x _ => x = r.1) (fun (_ : Unit) t => va_P (dC, dI) vwCl (dw_X16 a ac r.2) t.heap ∧ va_K (dC, dI) vwCl (dk_X16 ac) t ∧ va_D (va_A (dw_X16 a ac s0) sz) (dw_X16 a ac r.2)) (va_A (dw_X16 a ac s0) sz)) 0 0 (va_A (dw_X16 a ac s0) sz) := by
  refine Met.ofW (cc := cX16_fork) (maxL := 3) (ret := (some .int)) (by decide) rfl ?_
  intro p e s m args below meth c s₁ B hml hv
  obtain ⟨rfl, hsz, hP, hK, hD0, hN⟩ := hv
  have hx := B.exec
  have hb := B.bytes
  have hr := B.returns
  have hts := atoms_spec (ws := ow_dm_X16_fork) B.pre
  have hown : s.vm.findClass RX16 = some m.cls := findClass_of_methodNamed B.named
  have hlocks := B.notSynchronized
  subst hsz
  have hD := hD0.self (sz := s.heap.size)
  generalize hAe : va_A (dw_X16 a ac s0) s.heap.size = A at hD hN ⊢
  have hA : ∀ q : Nat, s.heap.size ≤ q → A q := fun q h => by rw [← hAe]; exact Or.inr h
  have hl := lv_entry ([.ref (a 0)]) (n := 3) (Nat.le_of_ble_eq_true rfl)
  rw [lg_entry_eq]
  generalize (lg_sl ([.ref (a 0)]) ++ List.replicate (3 - (lg_sl ([.ref (a 0)])).length) Slot.unset).toArray = ls at hl ⊢
  have hl : lv_has ls 3 [(0, .ref (a 0))] := hl
  exact db_X16_fork_0 (dC := dC) (dI := dI) (a := a) (ac := ac) (n := n) (r := r) ⟨hlt, hx, hb, hml, hown, hts, hN, hA, hK⟩ (fun pc v τ H locs ls d z er hP hD hS => by subst er; exact W.zret (v := v) hx hb hr z (fun t ht hW => ⟨⟨v, (), rfl, rfl, by rw [ht]; exact hP, va_K.moved hW.alike hK, hD⟩, hS.F ht⟩) hS.2.2 d) s0 _ _ _ h hP hD va_S.rf (lv_sub hl [0] rfl)
def ow_dm_X16_exec : List Cond := Cond.code yX16_exec cX16_exec 3 (some .int) :: ([Cond.fieldLink RX16 118 "TimeMachineModel$Machine" "programs" "LTimeMachineModel$Programs;", Cond.methodLink RX16 475 yX16_pagesOf, Cond.instanceMethod yX16_pagesOf, Cond.selects RX16 yX16_pagesOf yX16_pagesOf, Cond.initialized RX16, Cond.methodLink RX16 397 yX16_hasFrames, Cond.instanceMethod yX16_hasFrames, Cond.selects RX16 yX16_hasFrames yX16_hasFrames, Cond.fieldLink RX16 232 "TimeMachineModel$Machine" "p" "I", Cond.methodLink RX16 255 yX16_leaveAll, Cond.instanceMethod yX16_leaveAll, Cond.selects RX16 yX16_leaveAll yX16_leaveAll, Cond.methodLink RX16 164 yX16_load, Cond.instanceMethod yX16_load, Cond.selects RX16 yX16_load yX16_load, Cond.fieldLink RX16 34 "TimeMachineModel$Machine" "within" "[Z", Cond.fieldLink RX16 38 "TimeMachineModel$Machine" "since" "[J", Cond.constantLong RX16 175 (-1), Cond.fieldLink RX16 135 "TimeMachineModel$Machine" "reserved" "I", Cond.methodLink RX16 415 yX16_tell, Cond.instanceMethod yX16_tell, Cond.selects RX16 yX16_tell yX16_tell, Cond.fieldLink RX16 54 "TimeMachineModel$Machine" "handler" "[I"] ++ (u_ws RX16 TX16 56 ++ (u_ws RX17 TX17 5 ++ (ow_dm_X16_pagesOf ++ (ow_dm_X16_hasFrames ++ (ow_dm_X16_leaveAll ++ (ow_dm_X16_load ++ (ow_dm_X16_tell ++ []))))))))
theorem gd_dm_X16_exec : ∀ w ∈ ow_dm_X16_exec, (w.onTables && w.keeps) = true ∨ ∃ ty, w = Cond.arrayClass ty := List.forall_mem_cons.mpr ⟨good_of_word rfl, List.forall_mem_append.mpr ⟨fun w h => good_of_word (List.all_eq_true.mp (by decide +kernel) w h), List.forall_mem_append.mpr ⟨gu_X16, List.forall_mem_append.mpr ⟨gu_X17, List.forall_mem_append.mpr ⟨gd_dm_X16_pagesOf, List.forall_mem_append.mpr ⟨gd_dm_X16_hasFrames, List.forall_mem_append.mpr ⟨gd_dm_X16_leaveAll, List.forall_mem_append.mpr ⟨gd_dm_X16_load, List.forall_mem_append.mpr ⟨gd_dm_X16_tell, fun _ h => nomatch h⟩⟩⟩⟩⟩⟩⟩⟩⟩
theorem hi_dm_X16_exec_X16 : ∀ w ∈ u_ws RX16 TX16 56, w ∈ ow_dm_X16_exec := fun w h => List.mem_cons_of_mem _ (List.mem_append_right _ (List.mem_append_left _ h))
theorem hi_dm_X16_exec_X17 : ∀ w ∈ u_ws RX17 TX17 5, w ∈ ow_dm_X16_exec := fun w h => List.mem_cons_of_mem _ (List.mem_append_right _ (List.mem_append_right _ (List.mem_append_left _ h)))
theorem gi_dm_X16_exec_0 : GoodIn ow_dm_X16_exec (wsV RX16 475 RX16 yX16_pagesOf ow_dm_X16_pagesOf) := goodIn_app (goodIn_of _ (by decide +kernel)) (fun w h => ⟨List.mem_cons_of_mem _ (List.mem_append_right _ (List.mem_append_right _ (List.mem_append_right _ (List.mem_append_left _ h)))), gd_dm_X16_pagesOf w h⟩)
theorem gi_dm_X16_exec_1 : GoodIn ow_dm_X16_exec (wsV RX16 397 RX16 yX16_hasFrames ow_dm_X16_hasFrames) := goodIn_app (goodIn_of _ (by decide +kernel)) (fun w h => ⟨List.mem_cons_of_mem _ (List.mem_append_right _ (List.mem_append_right _ (List.mem_append_right _ (List.mem_append_right _ (List.mem_append_left _ h))))), gd_dm_X16_hasFrames w h⟩)
theorem gi_dm_X16_exec_2 : GoodIn ow_dm_X16_exec (wsV RX16 255 RX16 yX16_leaveAll ow_dm_X16_leaveAll) := goodIn_app (goodIn_of _ (by decide +kernel)) (fun w h => ⟨List.mem_cons_of_mem _ (List.mem_append_right _ (List.mem_append_right _ (List.mem_append_right _ (List.mem_append_right _ (List.mem_append_right _ (List.mem_append_left _ h)))))), gd_dm_X16_leaveAll w h⟩)
theorem gi_dm_X16_exec_3 : GoodIn ow_dm_X16_exec (wsV RX16 164 RX16 yX16_load ow_dm_X16_load) := goodIn_app (goodIn_of _ (by decide +kernel)) (fun w h => ⟨List.mem_cons_of_mem _ (List.mem_append_right _ (List.mem_append_right _ (List.mem_append_right _ (List.mem_append_right _ (List.mem_append_right _ (List.mem_append_right _ (List.mem_append_left _ h))))))), gd_dm_X16_load w h⟩)
theorem gi_dm_X16_exec_4 : GoodIn ow_dm_X16_exec (wsV RX16 415 RX16 yX16_tell ow_dm_X16_tell) := goodIn_app (goodIn_of _ (by decide +kernel)) (fun w h => ⟨List.mem_cons_of_mem _ (List.mem_append_right _ (List.mem_append_right _ (List.mem_append_right _ (List.mem_append_right _ (List.mem_append_right _ (List.mem_append_right _ (List.mem_append_right _ (List.mem_append_left _ h)))))))), gd_dm_X16_tell w h⟩)
def dj_X16_exec_21 (p : Program) (l : Launch) (e : Env) (s : State) (m : MethodId) (args : Array Value) (below : List Frame) (meth : Method) (c : Code) (Q : State → Prop) (A : Nat → Prop) (dC : Nat → ClassId) (dI : Nat → Nat → Nat) (a : Nat → Nat) (ac : Nat → ClassId) (g : (St × (St)) → Option (Int32 × (St × (St)))) (r : Int32 × (St × (St))) : Prop := ∀ (s0 : St × (St)) (H : Heap) (locs : List Loc) (ls : Array Slot), g s0 = some r → va_P (dC, dI) vwCl (dw_X16 a ac s0) H → va_D A (dw_X16 a ac s0) → va_S A s.heap H locs → lv_has ls 3 [] → W p l e (headSpec ow_dm_X16_exec ({ frames := 3, cells := 0, slots := 0, locals := 70 })).room s m args below meth c H locs 0 0 Q (F0 m 21 ls [])
def dj_X16_exec_58 (p : Program) (l : Launch) (e : Env) (s : State) (m : MethodId) (args : Array Value) (below : List Frame) (meth : Method) (c : Code) (Q : State → Prop) (A : Nat → Prop) (dC : Nat → ClassId) (dI : Nat → Nat → Nat) (a : Nat → Nat) (ac : Nat → ClassId) (g : Int32 → (St × (St)) → Option (Int32 × (St × (St)))) (r : Int32 × (St × (St))) : Prop := ∀ (x2 : Int32) (s0 : St × (St)) (H : Heap) (locs : List Loc) (ls : Array Slot), g x2 s0 = some r → va_P (dC, dI) vwCl (dw_X16 a ac s0) H → va_D A (dw_X16 a ac s0) → va_S A s.heap H locs → lv_has ls 3 [(0, .ref (a 0)), (2, .int x2)] → W p l e (headSpec ow_dm_X16_exec ({ frames := 3, cells := 0, slots := 0, locals := 70 })).room s m args below meth c H locs 0 0 Q (F0 m 58 ls [])
def dj_X16_exec_0 (p : Program) (l : Launch) (e : Env) (s : State) (m : MethodId) (args : Array Value) (below : List Frame) (meth : Method) (c : Code) (Q : State → Prop) (A : Nat → Prop) (dC : Nat → ClassId) (dI : Nat → Nat → Nat) (a : Nat → Nat) (ac : Nat → ClassId) (g : Int32 → (St × (St)) → Option (Int32 × (St × (St)))) (r : Int32 × (St × (St))) : Prop := ∀ (v0 : Int32) (s0 : St × (St)) (H : Heap) (locs : List Loc) (ls : Array Slot), g v0 s0 = some r → va_P (dC, dI) vwCl (dw_X16 a ac s0) H → va_D A (dw_X16 a ac s0) → va_S A s.heap H locs → lv_has ls 3 [(0, .ref (a 0)), (1, .int v0)] → W p l e (headSpec ow_dm_X16_exec ({ frames := 3, cells := 0, slots := 0, locals := 70 })).room s m args below meth c H locs 0 0 Q (F0 m 0 ls [])
set_option maxHeartbeats 40000000 in
set_option maxRecDepth 100000 in
theorem db_X16_exec_21 {p : Program} {l : Launch} {e : Env} {s : State} {m : MethodId} {args : Array Value} {below : List Frame} {meth : Method} {c : Code} {Q : State → Prop} {A : Nat → Prop} {dC : Nat → ClassId} {dI : Nat → Nat → Nat} {a : Nat → Nat} {ac : Nat → ClassId} {n : Nat} {r : Int32 × (St × (St))} (C : nd_C p l s m args c A (dC, dI) cX16_exec 3 RX16 ow_dm_X16_exec (dk_X16 ac)) (K : nd_Ki p l e (headSpec ow_dm_X16_exec ({ frames := 3, cells := 0, slots := 0, locals := 70 })).room s m args below meth c Q A (dC, dI) cX16_exec .int (St × (St)) (dw_X16 a ac) r) : dj_X16_exec_21 p l e s m args below meth c Q A dC dI a ac (df_X16_exec_21 n) r := by
  obtain ⟨hlt, hx, hb, hml, hown, hts, hN, hA, hK⟩ := id C
  intro s0 H locs ls h hP hD hS hl
  unfold df_X16_exec_21 at h
  refine lv_bipush (v := (-2)) hx hb dX16_exec_21 (by decide) ?_
  exact K _ _ _ _ _ _ dX16_exec_23 rfl (Option.some.inj h).symm hP hD hS
set_option maxHeartbeats 40000000 in
set_option maxRecDepth 100000 in
theorem dB_X16_exec_58 {p : Program} {l : Launch} {e : Env} {s : State} {m : MethodId} {args : Array Value} {below : List Frame} {meth : Method} {c : Code} {Q : State → Prop} {A : Nat → Prop} {dC : Nat → ClassId} {dI : Nat → Nat → Nat} {a : Nat → Nat} {ac : Nat → ClassId} {n : Nat} {r : Int32 × (St × (St))} (C : nd_C p l s m args c A (dC, dI) cX16_exec 3 RX16 ow_dm_X16_exec (dk_X16 ac)) (K : nd_Ki p l e (headSpec ow_dm_X16_exec ({ frames := 3, cells := 0, slots := 0, locals := 70 })).room s m args below meth c Q A (dC, dI) cX16_exec .int (St × (St)) (dw_X16 a ac) r) {g58 : Int32 → (St × (St)) → Option (Int32 × (St × (St)))} (J58 : dj_X16_exec_58 p l e s m args below meth c Q A dC dI a ac g58 r) : dj_X16_exec_58 p l e s m args below meth c Q A dC dI a ac (dF_X16_exec_58 n g58) r := by
  obtain ⟨hlt, hx, hb, hml, hown, hts, hN, hA, hK⟩ := id C
  intro x2 s0 H locs ls h hP hD hS hl
  unfold dF_X16_exec_58 at h
  refine lv_iload_n hx hb dX16_exec_58 rfl (lv_at hl 1 rfl) ?_
  refine lv_bipush (v := 16) hx hb dX16_exec_59 (by decide) ?_
  refine lv_icmp_ge (tgt := 85) hx hb dX16_exec_61 (by decide) (fun c18 => ?_) (fun c18 => ?_)
  · have h := nd_pos h c18
    refine lv_aload_n hx hb dX16_exec_85 rfl (lv_at hl 0 rfl) ?_
    refine va_get (D := (dC, dI)) (ci := 17) (v := .ref (a 9)) (C := RX16) (T := TX16) (N := 56) hx hb hts hi_dm_X16_exec_X16 hown hK hP 0 rfl rfl 17 (by decide) (hts (.fieldLink RX16 34 "TimeMachineModel$Machine" "within" "[Z") (List.mem_of_getElem? (i := 16) rfl)) (fun _ h9 => h9) rfl dX16_exec_86 ?_
    refine lv_aload_n hx hb dX16_exec_89 rfl (lv_at hl 0 rfl) ?_
    refine va_get (D := (dC, dI)) (ci := 17) (v := .int (sI s0.1 12)) (C := RX16) (T := TX16) (N := 56) hx hb hts hi_dm_X16_exec_X16 hown hK hP 0 rfl rfl 51 (by decide) (hts (.fieldLink RX16 232 "TimeMachineModel$Machine" "p" "I") (List.mem_of_getElem? (i := 9) rfl)) (fun _ h9 => h9) rfl dX16_exec_90 ?_
    refine lv_iconst (v := 0) hx hb dX16_exec_93 (by decide) ?_
    obtain ⟨i19, h⟩ := nd_ck_e h
    refine va_zast (i := (sI s0.1 12)) (x := 0) hx hb hK hP hD hS 9 8 rfl rfl i19 dX16_exec_94 (fun H locs hP hD hS => ?_)
    obtain ⟨s20, es20, h⟩ := nd_let_e h
    have hP : va_P (dC, dI) vwCl (dw_X16 a ac s20) H := by rw [es20]; exact hP
    have hD : va_D A (dw_X16 a ac s20) := by rw [es20]; exact hD
    refine lv_aload_n hx hb dX16_exec_95 rfl (lv_at hl 0 rfl) ?_
    refine va_get (D := (dC, dI)) (ci := 17) (v := .ref (a 10)) (C := RX16) (T := TX16) (N := 56) hx hb hts hi_dm_X16_exec_X16 hown hK hP 0 rfl rfl 18 (by decide) (hts (.fieldLink RX16 38 "TimeMachineModel$Machine" "since" "[J") (List.mem_of_getElem? (i := 17) rfl)) (fun _ h9 => h9) rfl dX16_exec_96 ?_
    refine lv_aload_n hx hb dX16_exec_99 rfl (lv_at hl 0 rfl) ?_
    refine va_get (D := (dC, dI)) (ci := 17) (v := .int (sI s20.1 12)) (C := RX16) (T := TX16) (N := 56) hx hb hts hi_dm_X16_exec_X16 hown hK hP 0 rfl rfl 51 (by decide) (hts (.fieldLink RX16 232 "TimeMachineModel$Machine" "p" "I") (List.mem_of_getElem? (i := 9) rfl)) (fun _ h9 => h9) rfl dX16_exec_100 ?_
    refine lv_ldc2 hx hb hown (hts (.constantLong RX16 175 (-1)) (List.mem_of_getElem? (i := 18) rfl)) dX16_exec_103 ?_
    obtain ⟨i21, h⟩ := nd_ck_e h
    refine va_last (i := (sI s20.1 12)) (x := (-1)) hx hb hK hP hD hS 10 9 rfl rfl i21 dX16_exec_106 (fun H locs hP hD hS => ?_)
    obtain ⟨s22, es22, h⟩ := nd_let_e h
    have hP : va_P (dC, dI) vwCl (dw_X16 a ac s22) H := by rw [es22]; exact hP
    have hD : va_D A (dw_X16 a ac s22) := by rw [es22]; exact hD
    refine lv_aload_n hx hb dX16_exec_107 rfl (lv_at hl 0 rfl) ?_
    refine lv_iconst (v := (-1)) hx hb dX16_exec_108 (by decide) ?_
    refine va_put (D := (dC, dI)) (ci := 17) (v := .int (-1)) (ty := .int) (C := RX16) (T := TX16) (N := 56) hx hb hts hi_dm_X16_exec_X16 tyX16 tyX16_ok nmX16 hown hK hP hD hS 0 rfl rfl 5 (by decide) (hts (.fieldLink RX16 135 "TimeMachineModel$Machine" "reserved" "I") (List.mem_of_getElem? (i := 19) rfl)) (fun _ h9 => h9) rfl (by decide +kernel) rfl rfl (Nat.le_of_ble_eq_true rfl) dX16_exec_109 (fun H locs hP hD hS => ?_)
    obtain ⟨s23, es23, h⟩ := nd_let_e h
    have hP : va_P (dC, dI) vwCl (dw_X16 a ac s23) H := by rw [es23]; exact hP
    have hD : va_D A (dw_X16 a ac s23) := by rw [es23]; exact hD
    refine lv_aload_n hx hb dX16_exec_112 rfl (lv_at hl 0 rfl) ?_
    refine lv_iconst (v := 2) hx hb dX16_exec_113 (by decide) ?_
    obtain ⟨q24, s25, hq, h⟩ := nd_b2_e h
    have hPc := hP
    have hDc := hD
    have hKc := hK
    have hFc := nd_rs hD hS hA
    refine nd_cVi (As := [.int 2]) (rest := []) (q := q24) (w' := dw_X16 a ac s25) ⟨hx, hb, hml, hown, hts⟩ (fun sz => dm_X16_tell l hlt dC dI a ac n (2) s23 hq sz) (cwV 1 hts gi_dm_X16_exec_4 rfl rfl rfl (by decide +kernel) ⟨Nat.le_of_ble_eq_true rfl, Nat.le_of_ble_eq_true rfl⟩) hPc hDc hKc hS hA hN (va_recv hKc hPc (ci := 17) (q0 := 0) rfl rfl) rfl hl.1 rfl (Nat.le_of_ble_eq_true rfl) dX16_exec_114 (fun H locs hP1 hD1 hk1 hS => ?_)
    have hP := hP1
    have hD := hD1.weaken (fun k q _ h => hFc q.1 h)
    exact K _ _ _ _ _ _ dX16_exec_117 rfl (Option.some.inj h).symm hP hD hS
  · have h := nd_neg h c18
    refine lv_aload_n hx hb dX16_exec_64 rfl (lv_at hl 0 rfl) ?_
    refine va_get (D := (dC, dI)) (ci := 17) (v := .ref (a 15)) (C := RX16) (T := TX16) (N := 56) hx hb hts hi_dm_X16_exec_X16 hown hK hP 0 rfl rfl 23 (by decide) (hts (.fieldLink RX16 54 "TimeMachineModel$Machine" "handler" "[I") (List.mem_of_getElem? (i := 23) rfl)) (fun _ h9 => h9) rfl dX16_exec_65 ?_
    refine lv_bipush (v := 16) hx hb dX16_exec_68 (by decide) ?_
    refine lv_aload_n hx hb dX16_exec_70 rfl (lv_at hl 0 rfl) ?_
    refine va_get (D := (dC, dI)) (ci := 17) (v := .int (sI s0.1 12)) (C := RX16) (T := TX16) (N := 56) hx hb hts hi_dm_X16_exec_X16 hown hK hP 0 rfl rfl 51 (by decide) (hts (.fieldLink RX16 232 "TimeMachineModel$Machine" "p" "I") (List.mem_of_getElem? (i := 9) rfl)) (fun _ h9 => h9) rfl dX16_exec_71 ?_
    refine lv_imul hx hb dX16_exec_74 ?_
    refine lv_iload_n hx hb dX16_exec_75 rfl (lv_at hl 1 rfl) ?_
    refine lv_iadd hx hb dX16_exec_76 ?_
    refine lv_iconst (v := 0) hx hb dX16_exec_77 (by decide) ?_
    obtain ⟨i27, h⟩ := nd_ck_e h
    refine va_iast (i := ((16 * (sI s0.1 12)) + x2)) (x := 0) hx hb hK hP hD hS 15 14 rfl rfl i27 dX16_exec_78 (fun H locs hP hD hS => ?_)
    obtain ⟨s28, es28, h⟩ := nd_let_e h
    have hP : va_P (dC, dI) vwCl (dw_X16 a ac s28) H := by rw [es28]; exact hP
    have hD : va_D A (dw_X16 a ac s28) := by rw [es28]; exact hD
    obtain ⟨z29, ez29, h⟩ := nd_let_e h
    refine lv_iinc (v := z29) (lv' := [(2, .int z29), (0, .ref (a 0))]) hx hb dX16_exec_79 hl (k := 1) rfl (by rw [ez29]) (by decide) rfl (fun ls hl => ?_)
    refine lv_goto (tgt := 58) hx hb dX16_exec_82 (by decide) ?_
    exact (J58) (z29) s28 _ _ _ h hP hD hS (lv_sub hl [1, 0] rfl)
set_option maxHeartbeats 40000000 in
set_option maxRecDepth 100000 in
theorem db_X16_exec_58 {p : Program} {l : Launch} {e : Env} {s : State} {m : MethodId} {args : Array Value} {below : List Frame} {meth : Method} {c : Code} {Q : State → Prop} {A : Nat → Prop} {dC : Nat → ClassId} {dI : Nat → Nat → Nat} {a : Nat → Nat} {ac : Nat → ClassId} {n : Nat} {r : Int32 × (St × (St))} (C : nd_C p l s m args c A (dC, dI) cX16_exec 3 RX16 ow_dm_X16_exec (dk_X16 ac)) (K : nd_Ki p l e (headSpec ow_dm_X16_exec ({ frames := 3, cells := 0, slots := 0, locals := 70 })).room s m args below meth c Q A (dC, dI) cX16_exec .int (St × (St)) (dw_X16 a ac) r) (k : Nat) : dj_X16_exec_58 p l e s m args below meth c Q A dC dI a ac (df_X16_exec_58 n k) r := by
  induction k with
  | zero => intro x2 s0 H locs ls h; exact nomatch (show (none : Option (Int32 × (St × (St)))) = some r from h)
  | succ k ih => exact dB_X16_exec_58 C K ih
set_option maxHeartbeats 40000000 in
set_option maxRecDepth 100000 in
theorem db_X16_exec_0 {p : Program} {l : Launch} {e : Env} {s : State} {m : MethodId} {args : Array Value} {below : List Frame} {meth : Method} {c : Code} {Q : State → Prop} {A : Nat → Prop} {dC : Nat → ClassId} {dI : Nat → Nat → Nat} {a : Nat → Nat} {ac : Nat → ClassId} {n : Nat} {r : Int32 × (St × (St))} (C : nd_C p l s m args c A (dC, dI) cX16_exec 3 RX16 ow_dm_X16_exec (dk_X16 ac)) (K : nd_Ki p l e (headSpec ow_dm_X16_exec ({ frames := 3, cells := 0, slots := 0, locals := 70 })).room s m args below meth c Q A (dC, dI) cX16_exec .int (St × (St)) (dw_X16 a ac) r) : dj_X16_exec_0 p l e s m args below meth c Q A dC dI a ac (df_X16_exec_0 n) r := by
  obtain ⟨hlt, hx, hb, hml, hown, hts, hN, hA, hK⟩ := id C
  intro v0 s0 H locs ls h hP hD hS hl
  unfold df_X16_exec_0 at h
  refine lv_iload_n hx hb dX16_exec_0 rfl (lv_at hl 1 rfl) ?_
  refine lv_if_lt (tgt := 21) hx hb dX16_exec_1 (by decide) (fun c1 => ?_) (fun c1 => ?_)
  · have h := nd_pos h c1
    exact (db_X16_exec_21 C K)  s0 _ _ _ h hP hD hS (lv_sub hl [] rfl)
  · have h := nd_neg h c1
    refine lv_iload_n hx hb dX16_exec_4 rfl (lv_at hl 1 rfl) ?_
    refine lv_iconst (v := 3) hx hb dX16_exec_5 (by decide) ?_
    refine lv_icmp_gt (tgt := 21) hx hb dX16_exec_6 (by decide) (fun c2 => ?_) (fun c2 => ?_)
    · have h := nd_pos h c2
      exact (db_X16_exec_21 C K)  s0 _ _ _ h hP hD hS (lv_sub hl [] rfl)
    · have h := nd_neg h c2
      refine lv_aload_n hx hb dX16_exec_9 rfl (lv_at hl 0 rfl) ?_
      refine va_get (D := (dC, dI)) (ci := 17) (v := .ref (a 36)) (C := RX16) (T := TX16) (N := 56) hx hb hts hi_dm_X16_exec_X16 hown hK hP 0 rfl rfl 0 (by decide) (hts (.fieldLink RX16 118 "TimeMachineModel$Machine" "programs" "LTimeMachineModel$Programs;") (List.mem_of_getElem? (i := 1) rfl)) (fun _ h9 => h9) rfl dX16_exec_10 ?_
      refine va_getN (D := (dC, dI)) (ci := 18) (v := .ref (a 37)) (C := RX17) (T := TX17) (N := 5) hx hb hts hi_dm_X16_exec_X17 hown hK hP 36 rfl rfl 0 (by decide) (va_Nw.use rfl (hN.1 ("TimeMachineModel$Machine", 472, "TimeMachineModel$Programs", "assembled", "[Z", "TimeMachineModel") (by decide))) (fun _ h9 => h9) rfl dX16_exec_13 ?_
      refine lv_iload_n hx hb dX16_exec_16 rfl (lv_at hl 1 rfl) ?_
      obtain ⟨i3, h⟩ := nd_ck_e h
      refine va_zald (i := v0) hx hb hK hP 37 35 rfl rfl i3 dX16_exec_17 ?_
      refine lv_if_ne (tgt := 24) hx hb dX16_exec_18 (by decide) (fun c4 => ?_) (fun c4 => ?_)
      · have h := nd_neg h c4
        refine lv_aload_n hx hb dX16_exec_24 rfl (lv_at hl 0 rfl) ?_
        refine lv_aload_n hx hb dX16_exec_25 rfl (lv_at hl 0 rfl) ?_
        refine lv_iload_n hx hb dX16_exec_26 rfl (lv_at hl 1 rfl) ?_
        obtain ⟨q5, s6, hq, h⟩ := nd_b2_e h
        have hPc := hP
        have hDc := hD
        have hKc := hK
        have hFc := nd_rs hD hS hA
        refine nd_cVi (As := [.int v0]) (rest := [.ref (a 0)]) (q := q5) (w' := dw_X16 a ac s6) ⟨hx, hb, hml, hown, hts⟩ (fun sz => dm_X16_pagesOf l hlt dC dI a ac n (v0) s0 hq sz) (cwV 1 hts gi_dm_X16_exec_0 rfl rfl rfl (by decide +kernel) ⟨Nat.le_of_ble_eq_true rfl, Nat.le_of_ble_eq_true rfl⟩) hPc hDc hKc hS hA hN (va_recv hKc hPc (ci := 17) (q0 := 0) rfl rfl) rfl hl.1 rfl (Nat.le_of_ble_eq_true rfl) dX16_exec_27 (fun H locs hP1 hD1 hk1 hS => ?_)
        have hP := hP1
        have hD := hD1.weaken (fun k q _ h => hFc q.1 h)
        obtain ⟨q8, s9, hq, h⟩ := nd_b2_e h
        have hPc := hP
        have hDc := hD
        have hKc := hK
        have hFc := nd_rs hD hS hA
        refine nd_cVi (As := [.int q5]) (rest := []) (q := q8) (w' := dw_X16 a ac s9) ⟨hx, hb, hml, hown, hts⟩ (fun sz => dm_X16_hasFrames l hlt dC dI a ac n (q5) s6 hq sz) (cwV 1 hts gi_dm_X16_exec_1 rfl rfl rfl (by decide +kernel) ⟨Nat.le_of_ble_eq_true rfl, Nat.le_of_ble_eq_true rfl⟩) hPc hDc hKc hS hA hN (va_recv hKc hPc (ci := 17) (q0 := 0) rfl rfl) rfl hl.1 rfl (Nat.le_of_ble_eq_true rfl) dX16_exec_30 (fun H locs hP1 hD1 hk1 hS => ?_)
        have hP := hP1
        have hD := hD1.weaken (fun k q _ h => hFc q.1 h)
        refine lv_if_ne (tgt := 39) hx hb dX16_exec_33 (by decide) (fun c11 => ?_) (fun c11 => ?_)
        · have h := nd_neg h c11
          refine lv_aload_n hx hb dX16_exec_39 rfl (lv_at hl 0 rfl) ?_
          refine lv_aload_n hx hb dX16_exec_40 rfl (lv_at hl 0 rfl) ?_
          refine va_get (D := (dC, dI)) (ci := 17) (v := .int (sI s9.1 12)) (C := RX16) (T := TX16) (N := 56) hx hb hts hi_dm_X16_exec_X16 hown hK hP 0 rfl rfl 51 (by decide) (hts (.fieldLink RX16 232 "TimeMachineModel$Machine" "p" "I") (List.mem_of_getElem? (i := 9) rfl)) (fun _ h9 => h9) rfl dX16_exec_41 ?_
          obtain ⟨s13, hq, h⟩ := nd_b1_e h
          have hPc := hP
          have hDc := hD
          have hKc := hK
          have hFc := nd_rs hD hS hA
          refine nd_cVv (As := [.int (sI s9.1 12)]) (rest := []) (w' := dw_X16 a ac s13) ⟨hx, hb, hml, hown, hts⟩ (fun sz => dm_X16_leaveAll l hlt dC dI a ac n ((sI s9.1 12)) s9 hq sz) (cwV 1 hts gi_dm_X16_exec_2 rfl rfl rfl (by decide +kernel) ⟨Nat.le_of_ble_eq_true rfl, Nat.le_of_ble_eq_true rfl⟩) hPc hDc hKc hS hA hN (va_recv hKc hPc (ci := 17) (q0 := 0) rfl rfl) rfl hl.1 rfl (Nat.le_of_ble_eq_true rfl) dX16_exec_44 (fun H locs hP1 hD1 hk1 hS => ?_)
          have hP := hP1
          have hD := hD1.weaken (fun k q _ h => hFc q.1 h)
          refine lv_aload_n hx hb dX16_exec_47 rfl (lv_at hl 0 rfl) ?_
          refine lv_aload_n hx hb dX16_exec_48 rfl (lv_at hl 0 rfl) ?_
          refine va_get (D := (dC, dI)) (ci := 17) (v := .int (sI s13.1 12)) (C := RX16) (T := TX16) (N := 56) hx hb hts hi_dm_X16_exec_X16 hown hK hP 0 rfl rfl 51 (by decide) (hts (.fieldLink RX16 232 "TimeMachineModel$Machine" "p" "I") (List.mem_of_getElem? (i := 9) rfl)) (fun _ h9 => h9) rfl dX16_exec_49 ?_
          refine lv_iload_n hx hb dX16_exec_52 rfl (lv_at hl 1 rfl) ?_
          obtain ⟨s16, hq, h⟩ := nd_b1_e h
          have hPc := hP
          have hDc := hD
          have hKc := hK
          have hFc := nd_rs hD hS hA
          refine nd_cVv (As := [.int (sI s13.1 12), .int v0]) (rest := []) (w' := dw_X16 a ac s16) ⟨hx, hb, hml, hown, hts⟩ (fun sz => dm_X16_load l hlt dC dI a ac n ((sI s13.1 12)) (v0) s13 hq sz) (cwV 2 hts gi_dm_X16_exec_3 rfl rfl rfl (by decide +kernel) ⟨Nat.le_of_ble_eq_true rfl, Nat.le_of_ble_eq_true rfl⟩) hPc hDc hKc hS hA hN (va_recv hKc hPc (ci := 17) (q0 := 0) rfl rfl) rfl hl.1 rfl (Nat.le_of_ble_eq_true rfl) dX16_exec_53 (fun H locs hP1 hD1 hk1 hS => ?_)
          have hP := hP1
          have hD := hD1.weaken (fun k q _ h => hFc q.1 h)
          refine lv_iconst (v := 0) hx hb dX16_exec_56 (by decide) ?_
          refine lv_istore_n (lv' := [(2, .int 0), (0, .ref (a 0)), (1, .int v0)]) hx hb dX16_exec_57 rfl hl (by decide) rfl (fun ls hl => ?_)
          exact (db_X16_exec_58 C K n) (0) s16 _ _ _ h hP hD hS (lv_sub hl [1, 0] rfl)
        · have h := nd_pos h c11
          refine lv_bipush (v := (-4)) hx hb dX16_exec_36 (by decide) ?_
          exact K _ _ _ _ _ _ dX16_exec_38 rfl (Option.some.inj h).symm hP hD hS
      · have h := nd_pos h c4
        exact (db_X16_exec_21 C K)  s0 _ _ _ h hP hD hS (lv_sub hl [] rfl)
set_option maxHeartbeats 40000000 in
set_option maxRecDepth 100000 in
theorem dm_X16_exec (l : Launch) (hlt : l.stackTraces = false) (dC : Nat → ClassId) (dI : Nat → Nat → Nat) (a : Nat → Nat) (ac : Nat → ClassId) (n : Nat) (v0 : Int32) (s0 : St × (St)) {r : Int32 × (St × (St))} (h : df_X16_exec n v0 s0 = some r) (sz : Nat) : Met l yX16_exec ow_dm_X16_exec ({ frames := 3, cells := 0, slots := 0, locals := 70 }) (va_Pc [.ref (a 0), .int v0] (fun U => U.heap.size = sz ∧ va_P (dC, dI) vwCl (dw_X16 a ac s0) U.heap ∧ va_K (dC, dI) vwCl (dk_X16 ac) U ∧ va_D (fun _ => True) (dw_X16 a ac s0) ∧ nv_E dI (va_A (dw_X16 a ac s0) sz) U)) (va_Qi (fun x _ => x = r.1) (fun (_ : Unit) t => va_P (dC, dI) vwCl (dw_X16 a ac r.2) t.heap ∧ va_K (dC, dI) vwCl (dk_X16 ac) t ∧ va_D (va_A (dw_X16 a ac s0) sz) (dw_X16 a ac r.2)) (va_A (dw_X16 a ac s0) sz)) 0 0 (va_A (dw_X16 a ac s0) sz) := by
  refine Met.ofW (cc := cX16_exec) (maxL := 3) (ret := (some .int)) (by decide) rfl ?_
  intro p e s m args below meth c s₁ B hml hv
  obtain ⟨rfl, hsz, hP, hK, hD0, hN⟩ := hv
  have hx := B.exec
  have hb := B.bytes
  have hr := B.returns
  have hts := atoms_spec (ws := ow_dm_X16_exec) B.pre
  have hown : s.vm.findClass RX16 = some m.cls := findClass_of_methodNamed B.named
  have hlocks := B.notSynchronized
  subst hsz
  have hD := hD0.self (sz := s.heap.size)
  generalize hAe : va_A (dw_X16 a ac s0) s.heap.size = A at hD hN ⊢
  have hA : ∀ q : Nat, s.heap.size ≤ q → A q := fun q h => by rw [← hAe]; exact Or.inr h
  have hl := lv_entry ([.ref (a 0), .int v0]) (n := 3) (Nat.le_of_ble_eq_true rfl)
  rw [lg_entry_eq]
  generalize (lg_sl ([.ref (a 0), .int v0]) ++ List.replicate (3 - (lg_sl ([.ref (a 0), .int v0])).length) Slot.unset).toArray = ls at hl ⊢
  have hl : lv_has ls 3 [(0, .ref (a 0)), (1, .int v0)] := hl
  exact db_X16_exec_0 (dC := dC) (dI := dI) (a := a) (ac := ac) (n := n) (r := r) ⟨hlt, hx, hb, hml, hown, hts, hN, hA, hK⟩ (fun pc v τ H locs ls d z er hP hD hS => by subst er; exact W.zret (v := v) hx hb hr z (fun t ht hW => ⟨⟨v, (), rfl, rfl, by rw [ht]; exact hP, va_K.moved hW.alike hK, hD⟩, hS.F ht⟩) hS.2.2 d) v0 s0 _ _ _ h hP hD va_S.rf (lv_sub hl [0, 1] rfl)
def ow_dm_X16_waitFor : List Cond := Cond.code yX16_waitFor cX16_waitFor 3 (some .int) :: ([Cond.fieldLink RX16 232 "TimeMachineModel$Machine" "p" "I", Cond.methodLink RX16 260 yX16_child, Cond.instanceMethod yX16_child, Cond.selects RX16 yX16_child yX16_child, Cond.initialized RX16, Cond.fieldLink RX16 19 "TimeMachineModel$Machine" "ending" "[I", Cond.methodLink RX16 160 yX16_begin, Cond.instanceMethod yX16_begin, Cond.selects RX16 yX16_begin yX16_begin, Cond.methodLink RX16 415 yX16_tell, Cond.instanceMethod yX16_tell, Cond.selects RX16 yX16_tell yX16_tell] ++ (u_ws RX16 TX16 56 ++ (ow_dm_X16_child ++ (ow_dm_X16_begin ++ (ow_dm_X16_tell ++ [])))))
theorem gd_dm_X16_waitFor : ∀ w ∈ ow_dm_X16_waitFor, (w.onTables && w.keeps) = true ∨ ∃ ty, w = Cond.arrayClass ty := List.forall_mem_cons.mpr ⟨good_of_word rfl, List.forall_mem_append.mpr ⟨fun w h => good_of_word (List.all_eq_true.mp (by decide +kernel) w h), List.forall_mem_append.mpr ⟨gu_X16, List.forall_mem_append.mpr ⟨gd_dm_X16_child, List.forall_mem_append.mpr ⟨gd_dm_X16_begin, List.forall_mem_append.mpr ⟨gd_dm_X16_tell, fun _ h => nomatch h⟩⟩⟩⟩⟩⟩
theorem hi_dm_X16_waitFor_X16 : ∀ w ∈ u_ws RX16 TX16 56, w ∈ ow_dm_X16_waitFor := fun w h => List.mem_cons_of_mem _ (List.mem_append_right _ (List.mem_append_left _ h))
theorem gi_dm_X16_waitFor_0 : GoodIn ow_dm_X16_waitFor (wsV RX16 260 RX16 yX16_child ow_dm_X16_child) := goodIn_app (goodIn_of _ (by decide +kernel)) (fun w h => ⟨List.mem_cons_of_mem _ (List.mem_append_right _ (List.mem_append_right _ (List.mem_append_left _ h))), gd_dm_X16_child w h⟩)
theorem gi_dm_X16_waitFor_1 : GoodIn ow_dm_X16_waitFor (wsV RX16 160 RX16 yX16_begin ow_dm_X16_begin) := goodIn_app (goodIn_of _ (by decide +kernel)) (fun w h => ⟨List.mem_cons_of_mem _ (List.mem_append_right _ (List.mem_append_right _ (List.mem_append_right _ (List.mem_append_left _ h)))), gd_dm_X16_begin w h⟩)
theorem gi_dm_X16_waitFor_2 : GoodIn ow_dm_X16_waitFor (wsV RX16 415 RX16 yX16_tell ow_dm_X16_tell) := goodIn_app (goodIn_of _ (by decide +kernel)) (fun w h => ⟨List.mem_cons_of_mem _ (List.mem_append_right _ (List.mem_append_right _ (List.mem_append_right _ (List.mem_append_right _ (List.mem_append_left _ h))))), gd_dm_X16_tell w h⟩)
def dj_X16_waitFor_0 (p : Program) (l : Launch) (e : Env) (s : State) (m : MethodId) (args : Array Value) (below : List Frame) (meth : Method) (c : Code) (Q : State → Prop) (A : Nat → Prop) (dC : Nat → ClassId) (dI : Nat → Nat → Nat) (a : Nat → Nat) (ac : Nat → ClassId) (g : (St × (St)) → Option (Int32 × (St × (St)))) (r : Int32 × (St × (St))) : Prop := ∀ (s0 : St × (St)) (H : Heap) (locs : List Loc) (ls : Array Slot), g s0 = some r → va_P (dC, dI) vwCl (dw_X16 a ac s0) H → va_D A (dw_X16 a ac s0) → va_S A s.heap H locs → lv_has ls 3 [(0, .ref (a 0))] → W p l e (headSpec ow_dm_X16_waitFor ({ frames := 1, cells := 0, slots := 0, locals := 23 })).room s m args below meth c H locs 0 0 Q (F0 m 0 ls [])
set_option maxHeartbeats 40000000 in
set_option maxRecDepth 100000 in
theorem db_X16_waitFor_0 {p : Program} {l : Launch} {e : Env} {s : State} {m : MethodId} {args : Array Value} {below : List Frame} {meth : Method} {c : Code} {Q : State → Prop} {A : Nat → Prop} {dC : Nat → ClassId} {dI : Nat → Nat → Nat} {a : Nat → Nat} {ac : Nat → ClassId} {n : Nat} {r : Int32 × (St × (St))} (C : nd_C p l s m args c A (dC, dI) cX16_waitFor 3 RX16 ow_dm_X16_waitFor (dk_X16 ac)) (K : nd_Ki p l e (headSpec ow_dm_X16_waitFor ({ frames := 1, cells := 0, slots := 0, locals := 23 })).room s m args below meth c Q A (dC, dI) cX16_waitFor .int (St × (St)) (dw_X16 a ac) r) : dj_X16_waitFor_0 p l e s m args below meth c Q A dC dI a ac (df_X16_waitFor_0 n) r := by
  obtain ⟨hlt, hx, hb, hml, hown, hts, hN, hA, hK⟩ := id C
  intro s0 H locs ls h hP hD hS hl
  unfold df_X16_waitFor_0 at h
  refine lv_aload_n hx hb dX16_waitFor_0 rfl (lv_at hl 0 rfl) ?_
  refine lv_aload_n hx hb dX16_waitFor_1 rfl (lv_at hl 0 rfl) ?_
  refine va_get (D := (dC, dI)) (ci := 17) (v := .int (sI s0.1 12)) (C := RX16) (T := TX16) (N := 56) hx hb hts hi_dm_X16_waitFor_X16 hown hK hP 0 rfl rfl 51 (by decide) (hts (.fieldLink RX16 232 "TimeMachineModel$Machine" "p" "I") (List.mem_of_getElem? (i := 1) rfl)) (fun _ h9 => h9) rfl dX16_waitFor_2 ?_
  refine lv_iconst (v := 0) hx hb dX16_waitFor_5 (by decide) ?_
  obtain ⟨q1, s2, hq, h⟩ := nd_b2_e h
  have hPc := hP
  have hDc := hD
  have hKc := hK
  have hFc := nd_rs hD hS hA
  refine nd_cVi (As := [.int (sI s0.1 12), .int 0]) (rest := []) (q := q1) (w' := dw_X16 a ac s2) ⟨hx, hb, hml, hown, hts⟩ (fun sz => dm_X16_child l hlt dC dI a ac n ((sI s0.1 12)) (0) s0 hq sz) (cwV 2 hts gi_dm_X16_waitFor_0 rfl rfl rfl (by decide +kernel) ⟨Nat.le_of_ble_eq_true rfl, Nat.le_of_ble_eq_true rfl⟩) hPc hDc hKc hS hA hN (va_recv hKc hPc (ci := 17) (q0 := 0) rfl rfl) rfl hl.1 rfl (Nat.le_of_ble_eq_true rfl) dX16_waitFor_6 (fun H locs hP1 hD1 hk1 hS => ?_)
  have hP := hP1
  have hD := hD1.weaken (fun k q _ h => hFc q.1 h)
  refine lv_iconst (v := (-1)) hx hb dX16_waitFor_9 (by decide) ?_
  refine lv_icmp_ne (tgt := 16) hx hb dX16_waitFor_10 (by decide) (fun c4 => ?_) (fun c4 => ?_)
  · have h := nd_neg h c4
    refine lv_aload_n hx hb dX16_waitFor_16 rfl (lv_at hl 0 rfl) ?_
    refine lv_aload_n hx hb dX16_waitFor_17 rfl (lv_at hl 0 rfl) ?_
    refine va_get (D := (dC, dI)) (ci := 17) (v := .int (sI s2.1 12)) (C := RX16) (T := TX16) (N := 56) hx hb hts hi_dm_X16_waitFor_X16 hown hK hP 0 rfl rfl 51 (by decide) (hts (.fieldLink RX16 232 "TimeMachineModel$Machine" "p" "I") (List.mem_of_getElem? (i := 1) rfl)) (fun _ h9 => h9) rfl dX16_waitFor_18 ?_
    refine lv_iconst (v := 1) hx hb dX16_waitFor_21 (by decide) ?_
    obtain ⟨q5, s6, hq, h⟩ := nd_b2_e h
    have hPc := hP
    have hDc := hD
    have hKc := hK
    have hFc := nd_rs hD hS hA
    refine nd_cVi (As := [.int (sI s2.1 12), .int 1]) (rest := []) (q := q5) (w' := dw_X16 a ac s6) ⟨hx, hb, hml, hown, hts⟩ (fun sz => dm_X16_child l hlt dC dI a ac n ((sI s2.1 12)) (1) s2 hq sz) (cwV 2 hts gi_dm_X16_waitFor_0 rfl rfl rfl (by decide +kernel) ⟨Nat.le_of_ble_eq_true rfl, Nat.le_of_ble_eq_true rfl⟩) hPc hDc hKc hS hA hN (va_recv hKc hPc (ci := 17) (q0 := 0) rfl rfl) rfl hl.1 rfl (Nat.le_of_ble_eq_true rfl) dX16_waitFor_22 (fun H locs hP1 hD1 hk1 hS => ?_)
    have hP := hP1
    have hD := hD1.weaken (fun k q _ h => hFc q.1 h)
    refine lv_istore_n (lv' := [(1, .int q5), (0, .ref (a 0))]) hx hb dX16_waitFor_25 rfl hl (by decide) rfl (fun ls hl => ?_)
    refine lv_iload_n hx hb dX16_waitFor_26 rfl (lv_at hl 0 rfl) ?_
    refine lv_iconst (v := (-1)) hx hb dX16_waitFor_27 (by decide) ?_
    refine lv_icmp_ne (tgt := 37) hx hb dX16_waitFor_28 (by decide) (fun c8 => ?_) (fun c8 => ?_)
    · have h := nd_neg h c8
      refine lv_aload_n hx hb dX16_waitFor_37 rfl (lv_at hl 1 rfl) ?_
      refine va_get (D := (dC, dI)) (ci := 17) (v := .ref (a 4)) (C := RX16) (T := TX16) (N := 56) hx hb hts hi_dm_X16_waitFor_X16 hown hK hP 0 rfl rfl 12 (by decide) (hts (.fieldLink RX16 19 "TimeMachineModel$Machine" "ending" "[I") (List.mem_of_getElem? (i := 6) rfl)) (fun _ h9 => h9) rfl dX16_waitFor_38 ?_
      refine lv_iload_n hx hb dX16_waitFor_41 rfl (lv_at hl 0 rfl) ?_
      obtain ⟨i9, h⟩ := nd_ck_e h
      refine va_iald (i := q5) hx hb hK hP 4 3 rfl rfl i9 dX16_waitFor_42 ?_
      refine lv_topi (fun z10 ez10 => ?_)
      have h := nd_at h ez10
      refine lv_istore_n (lv' := [(2, .int z10), (1, .int q5), (0, .ref (a 0))]) hx hb dX16_waitFor_43 rfl hl (by decide) rfl (fun ls hl => ?_)
      refine lv_aload_n hx hb dX16_waitFor_44 rfl (lv_at hl 2 rfl) ?_
      refine lv_iload_n hx hb dX16_waitFor_45 rfl (lv_at hl 1 rfl) ?_
      obtain ⟨s12, hq, h⟩ := nd_b1_e h
      have hPc := hP
      have hDc := hD
      have hKc := hK
      have hFc := nd_rs hD hS hA
      refine nd_cVv (As := [.int q5]) (rest := []) (w' := dw_X16 a ac s12) ⟨hx, hb, hml, hown, hts⟩ (fun sz => dm_X16_begin l hlt dC dI a ac n (q5) s6 hq sz) (cwV 1 hts gi_dm_X16_waitFor_1 rfl rfl rfl (by decide +kernel) ⟨Nat.le_of_ble_eq_true rfl, Nat.le_of_ble_eq_true rfl⟩) hPc hDc hKc hS hA hN (va_recv hKc hPc (ci := 17) (q0 := 0) rfl rfl) rfl hl.1 rfl (Nat.le_of_ble_eq_true rfl) dX16_waitFor_46 (fun H locs hP1 hD1 hk1 hS => ?_)
      have hP := hP1
      have hD := hD1.weaken (fun k q _ h => hFc q.1 h)
      refine lv_iload_n hx hb dX16_waitFor_49 rfl (lv_at hl 1 rfl) ?_
      refine lv_sipush (v := 256) hx hb dX16_waitFor_50 (by decide) ?_
      refine lv_iload_n hx hb dX16_waitFor_53 rfl (lv_at hl 0 rfl) ?_
      refine lv_imul hx hb dX16_waitFor_54 ?_
      refine lv_iadd hx hb dX16_waitFor_55 ?_
      exact K _ _ _ _ _ _ dX16_waitFor_56 rfl (Option.some.inj h).symm hP hD hS
    · have h := nd_pos h c8
      refine lv_aload_n hx hb dX16_waitFor_31 rfl (lv_at hl 1 rfl) ?_
      refine lv_iconst (v := 1) hx hb dX16_waitFor_32 (by decide) ?_
      obtain ⟨q14, s15, hq, h⟩ := nd_b2_e h
      have hPc := hP
      have hDc := hD
      have hKc := hK
      have hFc := nd_rs hD hS hA
      refine nd_cVi (As := [.int 1]) (rest := []) (q := q14) (w' := dw_X16 a ac s15) ⟨hx, hb, hml, hown, hts⟩ (fun sz => dm_X16_tell l hlt dC dI a ac n (1) s6 hq sz) (cwV 1 hts gi_dm_X16_waitFor_2 rfl rfl rfl (by decide +kernel) ⟨Nat.le_of_ble_eq_true rfl, Nat.le_of_ble_eq_true rfl⟩) hPc hDc hKc hS hA hN (va_recv hKc hPc (ci := 17) (q0 := 0) rfl rfl) rfl hl.1 rfl (Nat.le_of_ble_eq_true rfl) dX16_waitFor_33 (fun H locs hP1 hD1 hk1 hS => ?_)
      have hP := hP1
      have hD := hD1.weaken (fun k q _ h => hFc q.1 h)
      exact K _ _ _ _ _ _ dX16_waitFor_36 rfl (Option.some.inj h).symm hP hD hS
  · have h := nd_pos h c4
    refine lv_bipush (v := (-10)) hx hb dX16_waitFor_13 (by decide) ?_
    exact K _ _ _ _ _ _ dX16_waitFor_15 rfl (Option.some.inj h).symm hP hD hS
set_option maxHeartbeats 40000000 in
set_option maxRecDepth 100000 in
theorem dm_X16_waitFor (l : Launch) (hlt : l.stackTraces = false) (dC : Nat → ClassId) (dI : Nat → Nat → Nat) (a : Nat → Nat) (ac : Nat → ClassId) (n : Nat) (s0 : St × (St)) {r : Int32 × (St × (St))} (h : df_X16_waitFor n s0 = some r) (sz : Nat) : Met l yX16_waitFor ow_dm_X16_waitFor ({ frames := 1, cells := 0, slots := 0, locals := 23 }) (va_Pc [.ref (a 0)] (fun U => U.heap.size = sz ∧ va_P (dC, dI) vwCl (dw_X16 a ac s0) U.heap ∧ va_K (dC, dI) vwCl (dk_X16 ac) U ∧ va_D (fun _ => True) (dw_X16 a ac s0) ∧ nv_E dI (va_A (dw_X16 a ac s0) sz) U)) (va_Qi (fun x _ => x = r.1) (fun (_ : Unit) t => va_P (dC, dI) vwCl (dw_X16 a ac r.2) t.heap ∧ va_K (dC, dI) vwCl (dk_X16 ac) t ∧ va_D (va_A (dw_X16 a ac s0) sz) (dw_X16 a ac r.2)) (va_A (dw_X16 a ac s0) sz)) 0 0 (va_A (dw_X16 a ac s0) sz) := by
  refine Met.ofW (cc := cX16_waitFor) (maxL := 3) (ret := (some .int)) (by decide) rfl ?_
  intro p e s m args below meth c s₁ B hml hv
  obtain ⟨rfl, hsz, hP, hK, hD0, hN⟩ := hv
  have hx := B.exec
  have hb := B.bytes
  have hr := B.returns
  have hts := atoms_spec (ws := ow_dm_X16_waitFor) B.pre
  have hown : s.vm.findClass RX16 = some m.cls := findClass_of_methodNamed B.named
  have hlocks := B.notSynchronized
  subst hsz
  have hD := hD0.self (sz := s.heap.size)
  generalize hAe : va_A (dw_X16 a ac s0) s.heap.size = A at hD hN ⊢
  have hA : ∀ q : Nat, s.heap.size ≤ q → A q := fun q h => by rw [← hAe]; exact Or.inr h
  have hl := lv_entry ([.ref (a 0)]) (n := 3) (Nat.le_of_ble_eq_true rfl)
  rw [lg_entry_eq]
  generalize (lg_sl ([.ref (a 0)]) ++ List.replicate (3 - (lg_sl ([.ref (a 0)])).length) Slot.unset).toArray = ls at hl ⊢
  have hl : lv_has ls 3 [(0, .ref (a 0))] := hl
  exact db_X16_waitFor_0 (dC := dC) (dI := dI) (a := a) (ac := ac) (n := n) (r := r) ⟨hlt, hx, hb, hml, hown, hts, hN, hA, hK⟩ (fun pc v τ H locs ls d z er hP hD hS => by subst er; exact W.zret (v := v) hx hb hr z (fun t ht hW => ⟨⟨v, (), rfl, rfl, by rw [ht]; exact hP, va_K.moved hW.alike hK, hD⟩, hS.F ht⟩) hS.2.2 d) s0 _ _ _ h hP hD va_S.rf (lv_sub hl [0] rfl)
def ow_dm_X16_pipe : List Cond := Cond.code yX16_pipe cX16_pipe 6 (some .int) :: ([Cond.fieldLink RX16 232 "TimeMachineModel$Machine" "p" "I", Cond.methodLink RX16 478 yX16_mayAll, Cond.instanceMethod yX16_mayAll, Cond.selects RX16 yX16_mayAll yX16_mayAll, Cond.initialized RX16, Cond.methodLink RX16 482 yX16_freeDescriptors, Cond.instanceMethod yX16_freeDescriptors, Cond.selects RX16 yX16_freeDescriptors yX16_freeDescriptors, Cond.methodLink RX16 485 yX16_openings, Cond.instanceMethod yX16_openings, Cond.selects RX16 yX16_openings yX16_openings, Cond.methodLink RX16 394 yX16_wanted, Cond.instanceMethod yX16_wanted, Cond.selects RX16 yX16_wanted yX16_wanted, Cond.methodLink RX16 397 yX16_hasFrames, Cond.instanceMethod yX16_hasFrames, Cond.selects RX16 yX16_hasFrames yX16_hasFrames, Cond.fieldLink RX16 85 "TimeMachineModel$Machine" "isPipe" "[Z", Cond.fieldLink RX16 94 "TimeMachineModel$Machine" "piped" "[I", Cond.methodLink RX16 168 yX16_opening, Cond.instanceMethod yX16_opening, Cond.selects RX16 yX16_opening yX16_opening, Cond.methodLink RX16 488 yX16_give, Cond.instanceMethod yX16_give, Cond.selects RX16 yX16_give yX16_give, Cond.methodLink RX16 400 yX16_write, Cond.instanceMethod yX16_write, Cond.selects RX16 yX16_write yX16_write, Cond.methodLink RX16 415 yX16_tell, Cond.instanceMethod yX16_tell, Cond.selects RX16 yX16_tell yX16_tell] ++ (u_ws RX16 TX16 56 ++ (ow_dm_X16_mayAll ++ (ow_dm_X16_freeDescriptors ++ (ow_dm_X16_openings ++ (ow_dm_X16_wanted ++ (ow_dm_X16_hasFrames ++ (ow_dm_X16_opening ++ (ow_dm_X16_give ++ (ow_dm_X16_write ++ (ow_dm_X16_tell ++ [])))))))))))
theorem gd_dm_X16_pipe : ∀ w ∈ ow_dm_X16_pipe, (w.onTables && w.keeps) = true ∨ ∃ ty, w = Cond.arrayClass ty := List.forall_mem_cons.mpr ⟨good_of_word rfl, List.forall_mem_append.mpr ⟨fun w h => good_of_word (List.all_eq_true.mp (by decide +kernel) w h), List.forall_mem_append.mpr ⟨gu_X16, List.forall_mem_append.mpr ⟨gd_dm_X16_mayAll, List.forall_mem_append.mpr ⟨gd_dm_X16_freeDescriptors, List.forall_mem_append.mpr ⟨gd_dm_X16_openings, List.forall_mem_append.mpr ⟨gd_dm_X16_wanted, List.forall_mem_append.mpr ⟨gd_dm_X16_hasFrames, List.forall_mem_append.mpr ⟨gd_dm_X16_opening, List.forall_mem_append.mpr ⟨gd_dm_X16_give, List.forall_mem_append.mpr ⟨gd_dm_X16_write, List.forall_mem_append.mpr ⟨gd_dm_X16_tell, fun _ h => nomatch h⟩⟩⟩⟩⟩⟩⟩⟩⟩⟩⟩⟩
theorem hi_dm_X16_pipe_X16 : ∀ w ∈ u_ws RX16 TX16 56, w ∈ ow_dm_X16_pipe := fun w h => List.mem_cons_of_mem _ (List.mem_append_right _ (List.mem_append_left _ h))
theorem gi_dm_X16_pipe_0 : GoodIn ow_dm_X16_pipe (wsV RX16 478 RX16 yX16_mayAll ow_dm_X16_mayAll) := goodIn_app (goodIn_of _ (by decide +kernel)) (fun w h => ⟨List.mem_cons_of_mem _ (List.mem_append_right _ (List.mem_append_right _ (List.mem_append_left _ h))), gd_dm_X16_mayAll w h⟩)
theorem gi_dm_X16_pipe_1 : GoodIn ow_dm_X16_pipe (wsV RX16 482 RX16 yX16_freeDescriptors ow_dm_X16_freeDescriptors) := goodIn_app (goodIn_of _ (by decide +kernel)) (fun w h => ⟨List.mem_cons_of_mem _ (List.mem_append_right _ (List.mem_append_right _ (List.mem_append_right _ (List.mem_append_left _ h)))), gd_dm_X16_freeDescriptors w h⟩)
theorem gi_dm_X16_pipe_2 : GoodIn ow_dm_X16_pipe (wsV RX16 485 RX16 yX16_openings ow_dm_X16_openings) := goodIn_app (goodIn_of _ (by decide +kernel)) (fun w h => ⟨List.mem_cons_of_mem _ (List.mem_append_right _ (List.mem_append_right _ (List.mem_append_right _ (List.mem_append_right _ (List.mem_append_left _ h))))), gd_dm_X16_openings w h⟩)
theorem gi_dm_X16_pipe_3 : GoodIn ow_dm_X16_pipe (wsV RX16 394 RX16 yX16_wanted ow_dm_X16_wanted) := goodIn_app (goodIn_of _ (by decide +kernel)) (fun w h => ⟨List.mem_cons_of_mem _ (List.mem_append_right _ (List.mem_append_right _ (List.mem_append_right _ (List.mem_append_right _ (List.mem_append_right _ (List.mem_append_left _ h)))))), gd_dm_X16_wanted w h⟩)
theorem gi_dm_X16_pipe_4 : GoodIn ow_dm_X16_pipe (wsV RX16 397 RX16 yX16_hasFrames ow_dm_X16_hasFrames) := goodIn_app (goodIn_of _ (by decide +kernel)) (fun w h => ⟨List.mem_cons_of_mem _ (List.mem_append_right _ (List.mem_append_right _ (List.mem_append_right _ (List.mem_append_right _ (List.mem_append_right _ (List.mem_append_right _ (List.mem_append_left _ h))))))), gd_dm_X16_hasFrames w h⟩)
theorem gi_dm_X16_pipe_5 : GoodIn ow_dm_X16_pipe (wsV RX16 168 RX16 yX16_opening ow_dm_X16_opening) := goodIn_app (goodIn_of _ (by decide +kernel)) (fun w h => ⟨List.mem_cons_of_mem _ (List.mem_append_right _ (List.mem_append_right _ (List.mem_append_right _ (List.mem_append_right _ (List.mem_append_right _ (List.mem_append_right _ (List.mem_append_right _ (List.mem_append_left _ h)))))))), gd_dm_X16_opening w h⟩)
theorem gi_dm_X16_pipe_6 : GoodIn ow_dm_X16_pipe (wsV RX16 488 RX16 yX16_give ow_dm_X16_give) := goodIn_app (goodIn_of _ (by decide +kernel)) (fun w h => ⟨List.mem_cons_of_mem _ (List.mem_append_right _ (List.mem_append_right _ (List.mem_append_right _ (List.mem_append_right _ (List.mem_append_right _ (List.mem_append_right _ (List.mem_append_right _ (List.mem_append_right _ (List.mem_append_left _ h))))))))), gd_dm_X16_give w h⟩)
theorem gi_dm_X16_pipe_7 : GoodIn ow_dm_X16_pipe (wsV RX16 400 RX16 yX16_write ow_dm_X16_write) := goodIn_app (goodIn_of _ (by decide +kernel)) (fun w h => ⟨List.mem_cons_of_mem _ (List.mem_append_right _ (List.mem_append_right _ (List.mem_append_right _ (List.mem_append_right _ (List.mem_append_right _ (List.mem_append_right _ (List.mem_append_right _ (List.mem_append_right _ (List.mem_append_right _ (List.mem_append_left _ h)))))))))), gd_dm_X16_write w h⟩)
theorem gi_dm_X16_pipe_8 : GoodIn ow_dm_X16_pipe (wsV RX16 415 RX16 yX16_tell ow_dm_X16_tell) := goodIn_app (goodIn_of _ (by decide +kernel)) (fun w h => ⟨List.mem_cons_of_mem _ (List.mem_append_right _ (List.mem_append_right _ (List.mem_append_right _ (List.mem_append_right _ (List.mem_append_right _ (List.mem_append_right _ (List.mem_append_right _ (List.mem_append_right _ (List.mem_append_right _ (List.mem_append_right _ (List.mem_append_left _ h))))))))))), gd_dm_X16_tell w h⟩)
def dj_X16_pipe_73 (p : Program) (l : Launch) (e : Env) (s : State) (m : MethodId) (args : Array Value) (below : List Frame) (meth : Method) (c : Code) (Q : State → Prop) (A : Nat → Prop) (dC : Nat → ClassId) (dI : Nat → Nat → Nat) (a : Nat → Nat) (ac : Nat → ClassId) (g : (St × (St)) → Option (Int32 × (St × (St)))) (r : Int32 × (St × (St))) : Prop := ∀ (s0 : St × (St)) (H : Heap) (locs : List Loc) (ls : Array Slot), g s0 = some r → va_P (dC, dI) vwCl (dw_X16 a ac s0) H → va_D A (dw_X16 a ac s0) → va_S A s.heap H locs → lv_has ls 6 [] → W p l e (headSpec ow_dm_X16_pipe ({ frames := 3, cells := 0, slots := 0, locals := 71 })).room s m args below meth c H locs 0 0 Q (F0 m 73 ls [])
def dj_X16_pipe_170 (p : Program) (l : Launch) (e : Env) (s : State) (m : MethodId) (args : Array Value) (below : List Frame) (meth : Method) (c : Code) (Q : State → Prop) (A : Nat → Prop) (dC : Nat → ClassId) (dI : Nat → Nat → Nat) (a : Nat → Nat) (ac : Nat → ClassId) (g : Int32 → Int32 → Int32 → Int32 → Int32 → Int32 → Int32 → (St × (St)) → Option (Int32 × (St × (St)))) (r : Int32 × (St × (St))) : Prop := ∀ (x1 : Int32) (x3 : Int32) (x4 : Int32) (x5 : Int32) (y1 : Int32) (y2 : Int32) (y3 : Int32) (s0 : St × (St)) (H : Heap) (locs : List Loc) (ls : Array Slot), g x1 x3 x4 x5 y1 y2 y3 s0 = some r → va_P (dC, dI) vwCl (dw_X16 a ac s0) H → va_D A (dw_X16 a ac s0) → va_S A s.heap H locs → lv_has ls 6 [(0, .ref (a 0)), (1, .int x1), (3, .int x3), (4, .int x4), (5, .int x5)] → W p l e (headSpec ow_dm_X16_pipe ({ frames := 3, cells := 0, slots := 0, locals := 71 })).room s m args below meth c H locs 0 0 Q (F0 m 170 ls [.int y3, .int y2, .int y1, .ref (a 0)])
def dj_X16_pipe_142 (p : Program) (l : Launch) (e : Env) (s : State) (m : MethodId) (args : Array Value) (below : List Frame) (meth : Method) (c : Code) (Q : State → Prop) (A : Nat → Prop) (dC : Nat → ClassId) (dI : Nat → Nat → Nat) (a : Nat → Nat) (ac : Nat → ClassId) (g : Int32 → Int32 → Int32 → Int32 → (St × (St)) → Option (Int32 × (St × (St)))) (r : Int32 × (St × (St))) : Prop := ∀ (x1 : Int32) (x3 : Int32) (x4 : Int32) (x5 : Int32) (s0 : St × (St)) (H : Heap) (locs : List Loc) (ls : Array Slot), g x1 x3 x4 x5 s0 = some r → va_P (dC, dI) vwCl (dw_X16 a ac s0) H → va_D A (dw_X16 a ac s0) → va_S A s.heap H locs → lv_has ls 6 [(0, .ref (a 0)), (1, .int x1), (3, .int x3), (4, .int x4), (5, .int x5)] → W p l e (headSpec ow_dm_X16_pipe ({ frames := 3, cells := 0, slots := 0, locals := 71 })).room s m args below meth c H locs 0 0 Q (F0 m 142 ls [])
def dj_X16_pipe_50 (p : Program) (l : Launch) (e : Env) (s : State) (m : MethodId) (args : Array Value) (below : List Frame) (meth : Method) (c : Code) (Q : State → Prop) (A : Nat → Prop) (dC : Nat → ClassId) (dI : Nat → Nat → Nat) (a : Nat → Nat) (ac : Nat → ClassId) (g : Int32 → Int32 → (St × (St)) → Option (Int32 × (St × (St)))) (r : Int32 × (St × (St))) : Prop := ∀ (x1 : Int32) (x2 : Int32) (s0 : St × (St)) (H : Heap) (locs : List Loc) (ls : Array Slot), g x1 x2 s0 = some r → va_P (dC, dI) vwCl (dw_X16 a ac s0) H → va_D A (dw_X16 a ac s0) → va_S A s.heap H locs → lv_has ls 6 [(0, .ref (a 0)), (1, .int x1), (2, .int x2)] → W p l e (headSpec ow_dm_X16_pipe ({ frames := 3, cells := 0, slots := 0, locals := 71 })).room s m args below meth c H locs 0 0 Q (F0 m 50 ls [])
def dj_X16_pipe_29 (p : Program) (l : Launch) (e : Env) (s : State) (m : MethodId) (args : Array Value) (below : List Frame) (meth : Method) (c : Code) (Q : State → Prop) (A : Nat → Prop) (dC : Nat → ClassId) (dI : Nat → Nat → Nat) (a : Nat → Nat) (ac : Nat → ClassId) (g : Int32 → Int32 → (St × (St)) → Option (Int32 × (St × (St)))) (r : Int32 × (St × (St))) : Prop := ∀ (x1 : Int32) (x2 : Int32) (s0 : St × (St)) (H : Heap) (locs : List Loc) (ls : Array Slot), g x1 x2 s0 = some r → va_P (dC, dI) vwCl (dw_X16 a ac s0) H → va_D A (dw_X16 a ac s0) → va_S A s.heap H locs → lv_has ls 6 [(0, .ref (a 0)), (1, .int x1), (2, .int x2)] → W p l e (headSpec ow_dm_X16_pipe ({ frames := 3, cells := 0, slots := 0, locals := 71 })).room s m args below meth c H locs 0 0 Q (F0 m 29 ls [])
def dj_X16_pipe_0 (p : Program) (l : Launch) (e : Env) (s : State) (m : MethodId) (args : Array Value) (below : List Frame) (meth : Method) (c : Code) (Q : State → Prop) (A : Nat → Prop) (dC : Nat → ClassId) (dI : Nat → Nat → Nat) (a : Nat → Nat) (ac : Nat → ClassId) (g : Int32 → (St × (St)) → Option (Int32 × (St × (St)))) (r : Int32 × (St × (St))) : Prop := ∀ (v0 : Int32) (s0 : St × (St)) (H : Heap) (locs : List Loc) (ls : Array Slot), g v0 s0 = some r → va_P (dC, dI) vwCl (dw_X16 a ac s0) H → va_D A (dw_X16 a ac s0) → va_S A s.heap H locs → lv_has ls 6 [(0, .ref (a 0)), (1, .int v0)] → W p l e (headSpec ow_dm_X16_pipe ({ frames := 3, cells := 0, slots := 0, locals := 71 })).room s m args below meth c H locs 0 0 Q (F0 m 0 ls [])
set_option maxHeartbeats 40000000 in
set_option maxRecDepth 100000 in
theorem db_X16_pipe_73 {p : Program} {l : Launch} {e : Env} {s : State} {m : MethodId} {args : Array Value} {below : List Frame} {meth : Method} {c : Code} {Q : State → Prop} {A : Nat → Prop} {dC : Nat → ClassId} {dI : Nat → Nat → Nat} {a : Nat → Nat} {ac : Nat → ClassId} {n : Nat} {r : Int32 × (St × (St))} (C : nd_C p l s m args c A (dC, dI) cX16_pipe 6 RX16 ow_dm_X16_pipe (dk_X16 ac)) (K : nd_Ki p l e (headSpec ow_dm_X16_pipe ({ frames := 3, cells := 0, slots := 0, locals := 71 })).room s m args below meth c Q A (dC, dI) cX16_pipe .int (St × (St)) (dw_X16 a ac) r) : dj_X16_pipe_73 p l e s m args below meth c Q A dC dI a ac (df_X16_pipe_73 n) r := by
  obtain ⟨hlt, hx, hb, hml, hown, hts, hN, hA, hK⟩ := id C
  intro s0 H locs ls h hP hD hS hl
  unfold df_X16_pipe_73 at h
  refine lv_bipush (v := (-4)) hx hb dX16_pipe_73 (by decide) ?_
  exact K _ _ _ _ _ _ dX16_pipe_75 rfl (Option.some.inj h).symm hP hD hS
set_option maxHeartbeats 40000000 in
set_option maxRecDepth 100000 in
theorem db_X16_pipe_170 {p : Program} {l : Launch} {e : Env} {s : State} {m : MethodId} {args : Array Value} {below : List Frame} {meth : Method} {c : Code} {Q : State → Prop} {A : Nat → Prop} {dC : Nat → ClassId} {dI : Nat → Nat → Nat} {a : Nat → Nat} {ac : Nat → ClassId} {n : Nat} {r : Int32 × (St × (St))} (C : nd_C p l s m args c A (dC, dI) cX16_pipe 6 RX16 ow_dm_X16_pipe (dk_X16 ac)) (K : nd_Ki p l e (headSpec ow_dm_X16_pipe ({ frames := 3, cells := 0, slots := 0, locals := 71 })).room s m args below meth c Q A (dC, dI) cX16_pipe .int (St × (St)) (dw_X16 a ac) r) {g142 : Int32 → Int32 → Int32 → Int32 → (St × (St)) → Option (Int32 × (St × (St)))} (J142 : dj_X16_pipe_142 p l e s m args below meth c Q A dC dI a ac g142 r) : dj_X16_pipe_170 p l e s m args below meth c Q A dC dI a ac (df_X16_pipe_170 n g142) r := by
  obtain ⟨hlt, hx, hb, hml, hown, hts, hN, hA, hK⟩ := id C
  intro x1 x3 x4 x5 y1 y2 y3 s0 H locs ls h hP hD hS hl
  unfold df_X16_pipe_170 at h
  refine lv_bipush (v := 8) hx hb dX16_pipe_170 (by decide) ?_
  refine lv_iload hx hb dX16_pipe_172 (lv_at hl 4 rfl) ?_
  refine lv_iconst (v := 4) hx hb dX16_pipe_174 (by decide) ?_
  refine lv_irem hx hb dX16_pipe_175 (by decide) ?_
  refine lv_imul hx hb dX16_pipe_176 ?_
  refine lv_ishr hx hb dX16_pipe_177 ?_
  obtain ⟨s42, hq, h⟩ := nd_b1_e h
  have hPc := hP
  have hDc := hD
  have hKc := hK
  have hFc := nd_rs hD hS hA
  refine nd_cVv (As := [.int y1, .int y2, .int ((y3 : Int32) >>> (((8 * ((x5 : Int32) - x5 / 4 * 4)) : Int32) &&& 31))]) (rest := []) (w' := dw_X16 a ac s42) ⟨hx, hb, hml, hown, hts⟩ (fun sz => dm_X16_write l hlt dC dI a ac n (y1) (y2) (((y3 : Int32) >>> (((8 * ((x5 : Int32) - x5 / 4 * 4)) : Int32) &&& 31))) s0 hq sz) (cwV 3 hts gi_dm_X16_pipe_7 rfl rfl rfl (by decide +kernel) ⟨Nat.le_of_ble_eq_true rfl, Nat.le_of_ble_eq_true rfl⟩) hPc hDc hKc hS hA hN (va_recv hKc hPc (ci := 17) (q0 := 0) rfl rfl) rfl hl.1 rfl (Nat.le_of_ble_eq_true rfl) dX16_pipe_178 (fun H locs hP1 hD1 hk1 hS => ?_)
  have hP := hP1
  have hD := hD1.weaken (fun k q _ h => hFc q.1 h)
  obtain ⟨z44, ez44, h⟩ := nd_let_e h
  refine lv_iinc (v := z44) (lv' := [(5, .int z44), (0, .ref (a 0)), (1, .int x1), (3, .int x3), (4, .int x4)]) hx hb dX16_pipe_181 hl (k := 4) rfl (by rw [ez44]) (by decide) rfl (fun ls hl => ?_)
  refine lv_goto (tgt := 142) hx hb dX16_pipe_184 (by decide) ?_
  exact (J142) (x1) (x3) (x4) (z44) s42 _ _ _ h hP hD hS (lv_sub hl [1, 2, 3, 4, 0] rfl)
set_option maxHeartbeats 40000000 in
set_option maxRecDepth 100000 in
theorem dB_X16_pipe_142 {p : Program} {l : Launch} {e : Env} {s : State} {m : MethodId} {args : Array Value} {below : List Frame} {meth : Method} {c : Code} {Q : State → Prop} {A : Nat → Prop} {dC : Nat → ClassId} {dI : Nat → Nat → Nat} {a : Nat → Nat} {ac : Nat → ClassId} {n : Nat} {r : Int32 × (St × (St))} (C : nd_C p l s m args c A (dC, dI) cX16_pipe 6 RX16 ow_dm_X16_pipe (dk_X16 ac)) (K : nd_Ki p l e (headSpec ow_dm_X16_pipe ({ frames := 3, cells := 0, slots := 0, locals := 71 })).room s m args below meth c Q A (dC, dI) cX16_pipe .int (St × (St)) (dw_X16 a ac) r) {g142 : Int32 → Int32 → Int32 → Int32 → (St × (St)) → Option (Int32 × (St × (St)))} (J142 : dj_X16_pipe_142 p l e s m args below meth c Q A dC dI a ac g142 r) : dj_X16_pipe_142 p l e s m args below meth c Q A dC dI a ac (dF_X16_pipe_142 n g142) r := by
  obtain ⟨hlt, hx, hb, hml, hown, hts, hN, hA, hK⟩ := id C
  intro x1 x3 x4 x5 s0 H locs ls h hP hD hS hl
  unfold dF_X16_pipe_142 at h
  refine lv_iload hx hb dX16_pipe_142 (lv_at hl 4 rfl) ?_
  refine lv_bipush (v := 8) hx hb dX16_pipe_144 (by decide) ?_
  refine lv_icmp_ge (tgt := 187) hx hb dX16_pipe_146 (by decide) (fun c39 => ?_) (fun c39 => ?_)
  · have h := nd_pos h c39
    refine lv_iconst (v := 0) hx hb dX16_pipe_187 (by decide) ?_
    exact K _ _ _ _ _ _ dX16_pipe_188 rfl (Option.some.inj h).symm hP hD hS
  · have h := nd_neg h c39
    refine lv_aload_n hx hb dX16_pipe_149 rfl (lv_at hl 0 rfl) ?_
    refine lv_aload_n hx hb dX16_pipe_150 rfl (lv_at hl 0 rfl) ?_
    refine va_get (D := (dC, dI)) (ci := 17) (v := .int (sI s0.1 12)) (C := RX16) (T := TX16) (N := 56) hx hb hts hi_dm_X16_pipe_X16 hown hK hP 0 rfl rfl 51 (by decide) (hts (.fieldLink RX16 232 "TimeMachineModel$Machine" "p" "I") (List.mem_of_getElem? (i := 1) rfl)) (fun _ h9 => h9) rfl dX16_pipe_151 ?_
    refine lv_iload_n hx hb dX16_pipe_154 rfl (lv_at hl 1 rfl) ?_
    refine lv_iload hx hb dX16_pipe_155 (lv_at hl 4 rfl) ?_
    refine lv_iadd hx hb dX16_pipe_157 ?_
    refine lv_iload hx hb dX16_pipe_158 (lv_at hl 4 rfl) ?_
    refine lv_iconst (v := 4) hx hb dX16_pipe_160 (by decide) ?_
    refine lv_icmp_ge (tgt := 168) hx hb dX16_pipe_161 (by decide) (fun c40 => ?_) (fun c40 => ?_)
    · have h := nd_pos h c40
      refine lv_iload hx hb dX16_pipe_168 (lv_at hl 3 rfl) ?_
      exact (db_X16_pipe_170 C K J142) (x1) (x3) (x4) (x5) ((sI s0.1 12)) ((x1 + x5)) (x4) s0 _ _ _ h hP hD hS (lv_sub hl [0, 1, 2, 3, 4] rfl)
    · have h := nd_neg h c40
      refine lv_iload_n hx hb dX16_pipe_164 rfl (lv_at hl 2 rfl) ?_
      refine lv_goto (tgt := 170) hx hb dX16_pipe_165 (by decide) ?_
      exact (db_X16_pipe_170 C K J142) (x1) (x3) (x4) (x5) ((sI s0.1 12)) ((x1 + x5)) (x3) s0 _ _ _ h hP hD hS (lv_sub hl [0, 1, 2, 3, 4] rfl)
set_option maxHeartbeats 40000000 in
set_option maxRecDepth 100000 in
theorem db_X16_pipe_142 {p : Program} {l : Launch} {e : Env} {s : State} {m : MethodId} {args : Array Value} {below : List Frame} {meth : Method} {c : Code} {Q : State → Prop} {A : Nat → Prop} {dC : Nat → ClassId} {dI : Nat → Nat → Nat} {a : Nat → Nat} {ac : Nat → ClassId} {n : Nat} {r : Int32 × (St × (St))} (C : nd_C p l s m args c A (dC, dI) cX16_pipe 6 RX16 ow_dm_X16_pipe (dk_X16 ac)) (K : nd_Ki p l e (headSpec ow_dm_X16_pipe ({ frames := 3, cells := 0, slots := 0, locals := 71 })).room s m args below meth c Q A (dC, dI) cX16_pipe .int (St × (St)) (dw_X16 a ac) r) (k : Nat) : dj_X16_pipe_142 p l e s m args below meth c Q A dC dI a ac (df_X16_pipe_142 n k) r := by
  induction k with
  | zero => intro x1 x3 x4 x5 s0 H locs ls h; exact nomatch (show (none : Option (Int32 × (St × (St)))) = some r from h)
  | succ k ih => exact dB_X16_pipe_142 C K ih
set_option maxHeartbeats 40000000 in
set_option maxRecDepth 100000 in
theorem db_X16_pipe_50 {p : Program} {l : Launch} {e : Env} {s : State} {m : MethodId} {args : Array Value} {below : List Frame} {meth : Method} {c : Code} {Q : State → Prop} {A : Nat → Prop} {dC : Nat → ClassId} {dI : Nat → Nat → Nat} {a : Nat → Nat} {ac : Nat → ClassId} {n : Nat} {r : Int32 × (St × (St))} (C : nd_C p l s m args c A (dC, dI) cX16_pipe 6 RX16 ow_dm_X16_pipe (dk_X16 ac)) (K : nd_Ki p l e (headSpec ow_dm_X16_pipe ({ frames := 3, cells := 0, slots := 0, locals := 71 })).room s m args below meth c Q A (dC, dI) cX16_pipe .int (St × (St)) (dw_X16 a ac) r) : dj_X16_pipe_50 p l e s m args below meth c Q A dC dI a ac (df_X16_pipe_50 n) r := by
  obtain ⟨hlt, hx, hb, hml, hown, hts, hN, hA, hK⟩ := id C
  intro x1 x2 s0 H locs ls h hP hD hS hl
  unfold df_X16_pipe_50 at h
  refine lv_aload_n hx hb dX16_pipe_50 rfl (lv_at hl 0 rfl) ?_
  obtain ⟨q7, s8, hq, h⟩ := nd_b2_e h
  have hPc := hP
  have hDc := hD
  have hKc := hK
  have hFc := nd_rs hD hS hA
  refine nd_cVi (As := []) (rest := []) (q := q7) (w' := dw_X16 a ac s8) ⟨hx, hb, hml, hown, hts⟩ (fun sz => dm_X16_freeDescriptors l hlt dC dI a ac n  s0 hq sz) (cwV 0 hts gi_dm_X16_pipe_1 rfl rfl rfl (by decide +kernel) ⟨Nat.le_of_ble_eq_true rfl, Nat.le_of_ble_eq_true rfl⟩) hPc hDc hKc hS hA hN (va_recv hKc hPc (ci := 17) (q0 := 0) rfl rfl) rfl hl.1 rfl (Nat.le_of_ble_eq_true rfl) dX16_pipe_51 (fun H locs hP1 hD1 hk1 hS => ?_)
  have hP := hP1
  have hD := hD1.weaken (fun k q _ h => hFc q.1 h)
  refine lv_iconst (v := 2) hx hb dX16_pipe_54 (by decide) ?_
  refine lv_icmp_lt (tgt := 73) hx hb dX16_pipe_55 (by decide) (fun c10 => ?_) (fun c10 => ?_)
  · have h := nd_pos h c10
    exact (db_X16_pipe_73 C K)  s8 _ _ _ h hP hD hS (lv_sub hl [] rfl)
  · have h := nd_neg h c10
    refine lv_aload_n hx hb dX16_pipe_58 rfl (lv_at hl 0 rfl) ?_
    obtain ⟨q11, s12, hq, h⟩ := nd_b2_e h
    have hPc := hP
    have hDc := hD
    have hKc := hK
    have hFc := nd_rs hD hS hA
    refine nd_cVi (As := []) (rest := []) (q := q11) (w' := dw_X16 a ac s12) ⟨hx, hb, hml, hown, hts⟩ (fun sz => dm_X16_openings l hlt dC dI a ac n  s8 hq sz) (cwV 0 hts gi_dm_X16_pipe_2 rfl rfl rfl (by decide +kernel) ⟨Nat.le_of_ble_eq_true rfl, Nat.le_of_ble_eq_true rfl⟩) hPc hDc hKc hS hA hN (va_recv hKc hPc (ci := 17) (q0 := 0) rfl rfl) rfl hl.1 rfl (Nat.le_of_ble_eq_true rfl) dX16_pipe_59 (fun H locs hP1 hD1 hk1 hS => ?_)
    have hP := hP1
    have hD := hD1.weaken (fun k q _ h => hFc q.1 h)
    refine lv_bipush (v := 46) hx hb dX16_pipe_62 (by decide) ?_
    refine lv_icmp_gt (tgt := 73) hx hb dX16_pipe_64 (by decide) (fun c14 => ?_) (fun c14 => ?_)
    · have h := nd_pos h c14
      exact (db_X16_pipe_73 C K)  s12 _ _ _ h hP hD hS (lv_sub hl [] rfl)
    · have h := nd_neg h c14
      refine lv_iload_n hx hb dX16_pipe_67 rfl (lv_at hl 2 rfl) ?_
      refine lv_bipush (v := 8) hx hb dX16_pipe_68 (by decide) ?_
      refine lv_icmp_ne (tgt := 76) hx hb dX16_pipe_70 (by decide) (fun c15 => ?_) (fun c15 => ?_)
      · have h := nd_neg h c15
        refine lv_aload_n hx hb dX16_pipe_76 rfl (lv_at hl 0 rfl) ?_
        refine lv_aload_n hx hb dX16_pipe_77 rfl (lv_at hl 0 rfl) ?_
        refine lv_aload_n hx hb dX16_pipe_78 rfl (lv_at hl 0 rfl) ?_
        refine va_get (D := (dC, dI)) (ci := 17) (v := .int (sI s12.1 12)) (C := RX16) (T := TX16) (N := 56) hx hb hts hi_dm_X16_pipe_X16 hown hK hP 0 rfl rfl 51 (by decide) (hts (.fieldLink RX16 232 "TimeMachineModel$Machine" "p" "I") (List.mem_of_getElem? (i := 1) rfl)) (fun _ h9 => h9) rfl dX16_pipe_79 ?_
        refine lv_iload_n hx hb dX16_pipe_82 rfl (lv_at hl 1 rfl) ?_
        refine lv_bipush (v := 8) hx hb dX16_pipe_83 (by decide) ?_
        obtain ⟨q16, s17, hq, h⟩ := nd_b2_e h
        have hPc := hP
        have hDc := hD
        have hKc := hK
        have hFc := nd_rs hD hS hA
        refine nd_cVi (As := [.int (sI s12.1 12), .int x1, .int 8]) (rest := [.ref (a 0)]) (q := q16) (w' := dw_X16 a ac s17) ⟨hx, hb, hml, hown, hts⟩ (fun sz => dm_X16_wanted l hlt dC dI a ac n ((sI s12.1 12)) (x1) (8) s12 hq sz) (cwV 3 hts gi_dm_X16_pipe_3 rfl rfl rfl (by decide +kernel) ⟨Nat.le_of_ble_eq_true rfl, Nat.le_of_ble_eq_true rfl⟩) hPc hDc hKc hS hA hN (va_recv hKc hPc (ci := 17) (q0 := 0) rfl rfl) rfl hl.1 rfl (Nat.le_of_ble_eq_true rfl) dX16_pipe_85 (fun H locs hP1 hD1 hk1 hS => ?_)
        have hP := hP1
        have hD := hD1.weaken (fun k q _ h => hFc q.1 h)
        obtain ⟨q19, s20, hq, h⟩ := nd_b2_e h
        have hPc := hP
        have hDc := hD
        have hKc := hK
        have hFc := nd_rs hD hS hA
        refine nd_cVi (As := [.int q16]) (rest := []) (q := q19) (w' := dw_X16 a ac s20) ⟨hx, hb, hml, hown, hts⟩ (fun sz => dm_X16_hasFrames l hlt dC dI a ac n (q16) s17 hq sz) (cwV 1 hts gi_dm_X16_pipe_4 rfl rfl rfl (by decide +kernel) ⟨Nat.le_of_ble_eq_true rfl, Nat.le_of_ble_eq_true rfl⟩) hPc hDc hKc hS hA hN (va_recv hKc hPc (ci := 17) (q0 := 0) rfl rfl) rfl hl.1 rfl (Nat.le_of_ble_eq_true rfl) dX16_pipe_88 (fun H locs hP1 hD1 hk1 hS => ?_)
        have hP := hP1
        have hD := hD1.weaken (fun k q _ h => hFc q.1 h)
        refine lv_if_ne (tgt := 100) hx hb dX16_pipe_91 (by decide) (fun c22 => ?_) (fun c22 => ?_)
        · have h := nd_neg h c22
          refine lv_aload_n hx hb dX16_pipe_100 rfl (lv_at hl 0 rfl) ?_
          refine va_get (D := (dC, dI)) (ci := 17) (v := .ref (a 25)) (C := RX16) (T := TX16) (N := 56) hx hb hts hi_dm_X16_pipe_X16 hown hK hP 0 rfl rfl 34 (by decide) (hts (.fieldLink RX16 85 "TimeMachineModel$Machine" "isPipe" "[Z") (List.mem_of_getElem? (i := 18) rfl)) (fun _ h9 => h9) rfl dX16_pipe_101 ?_
          refine lv_iload_n hx hb dX16_pipe_104 rfl (lv_at hl 2 rfl) ?_
          refine lv_iconst (v := 1) hx hb dX16_pipe_105 (by decide) ?_
          obtain ⟨i23, h⟩ := nd_ck_e h
          refine va_zast (i := x2) (x := 1) hx hb hK hP hD hS 25 24 rfl rfl i23 dX16_pipe_106 (fun H locs hP hD hS => ?_)
          obtain ⟨s24, es24, h⟩ := nd_let_e h
          have hP : va_P (dC, dI) vwCl (dw_X16 a ac s24) H := by rw [es24]; exact hP
          have hD : va_D A (dw_X16 a ac s24) := by rw [es24]; exact hD
          refine lv_aload_n hx hb dX16_pipe_107 rfl (lv_at hl 0 rfl) ?_
          refine va_get (D := (dC, dI)) (ci := 17) (v := .ref (a 28)) (C := RX16) (T := TX16) (N := 56) hx hb hts hi_dm_X16_pipe_X16 hown hK hP 0 rfl rfl 37 (by decide) (hts (.fieldLink RX16 94 "TimeMachineModel$Machine" "piped" "[I") (List.mem_of_getElem? (i := 19) rfl)) (fun _ h9 => h9) rfl dX16_pipe_108 ?_
          refine lv_iload_n hx hb dX16_pipe_111 rfl (lv_at hl 2 rfl) ?_
          refine lv_iconst (v := 0) hx hb dX16_pipe_112 (by decide) ?_
          obtain ⟨i25, h⟩ := nd_ck_e h
          refine va_iast (i := x2) (x := 0) hx hb hK hP hD hS 28 27 rfl rfl i25 dX16_pipe_113 (fun H locs hP hD hS => ?_)
          obtain ⟨s26, es26, h⟩ := nd_let_e h
          have hP : va_P (dC, dI) vwCl (dw_X16 a ac s26) H := by rw [es26]; exact hP
          have hD : va_D A (dw_X16 a ac s26) := by rw [es26]; exact hD
          refine lv_aload_n hx hb dX16_pipe_114 rfl (lv_at hl 0 rfl) ?_
          refine lv_aload_n hx hb dX16_pipe_115 rfl (lv_at hl 0 rfl) ?_
          refine lv_iconst (v := 1) hx hb dX16_pipe_116 (by decide) ?_
          refine lv_iload_n hx hb dX16_pipe_117 rfl (lv_at hl 2 rfl) ?_
          refine lv_iconst (v := 1) hx hb dX16_pipe_118 (by decide) ?_
          obtain ⟨q27, s28, hq, h⟩ := nd_b2_e h
          have hPc := hP
          have hDc := hD
          have hKc := hK
          have hFc := nd_rs hD hS hA
          refine nd_cVi (As := [.int 1, .int x2, .int 1]) (rest := [.ref (a 0)]) (q := q27) (w' := dw_X16 a ac s28) ⟨hx, hb, hml, hown, hts⟩ (fun sz => dm_X16_opening l hlt dC dI a ac n (1) (x2) (1) s26 hq sz) (cwV 3 hts gi_dm_X16_pipe_5 rfl rfl rfl (by decide +kernel) ⟨Nat.le_of_ble_eq_true rfl, Nat.le_of_ble_eq_true rfl⟩) hPc hDc hKc hS hA hN (va_recv hKc hPc (ci := 17) (q0 := 0) rfl rfl) rfl hl.1 rfl (Nat.le_of_ble_eq_true rfl) dX16_pipe_119 (fun H locs hP1 hD1 hk1 hS => ?_)
          have hP := hP1
          have hD := hD1.weaken (fun k q _ h => hFc q.1 h)
          obtain ⟨q30, s31, hq, h⟩ := nd_b2_e h
          have hPc := hP
          have hDc := hD
          have hKc := hK
          have hFc := nd_rs hD hS hA
          refine nd_cVi (As := [.int q27]) (rest := []) (q := q30) (w' := dw_X16 a ac s31) ⟨hx, hb, hml, hown, hts⟩ (fun sz => dm_X16_give l hlt dC dI a ac n (q27) s28 hq sz) (cwV 1 hts gi_dm_X16_pipe_6 rfl rfl rfl (by decide +kernel) ⟨Nat.le_of_ble_eq_true rfl, Nat.le_of_ble_eq_true rfl⟩) hPc hDc hKc hS hA hN (va_recv hKc hPc (ci := 17) (q0 := 0) rfl rfl) rfl hl.1 rfl (Nat.le_of_ble_eq_true rfl) dX16_pipe_122 (fun H locs hP1 hD1 hk1 hS => ?_)
          have hP := hP1
          have hD := hD1.weaken (fun k q _ h => hFc q.1 h)
          refine lv_istore_n (lv' := [(3, .int q30), (0, .ref (a 0)), (1, .int x1), (2, .int x2)]) hx hb dX16_pipe_125 rfl hl (by decide) rfl (fun ls hl => ?_)
          refine lv_aload_n hx hb dX16_pipe_126 rfl (lv_at hl 1 rfl) ?_
          refine lv_aload_n hx hb dX16_pipe_127 rfl (lv_at hl 1 rfl) ?_
          refine lv_iconst (v := 2) hx hb dX16_pipe_128 (by decide) ?_
          refine lv_iload_n hx hb dX16_pipe_129 rfl (lv_at hl 3 rfl) ?_
          refine lv_iconst (v := 2) hx hb dX16_pipe_130 (by decide) ?_
          obtain ⟨q33, s34, hq, h⟩ := nd_b2_e h
          have hPc := hP
          have hDc := hD
          have hKc := hK
          have hFc := nd_rs hD hS hA
          refine nd_cVi (As := [.int 2, .int x2, .int 2]) (rest := [.ref (a 0)]) (q := q33) (w' := dw_X16 a ac s34) ⟨hx, hb, hml, hown, hts⟩ (fun sz => dm_X16_opening l hlt dC dI a ac n (2) (x2) (2) s31 hq sz) (cwV 3 hts gi_dm_X16_pipe_5 rfl rfl rfl (by decide +kernel) ⟨Nat.le_of_ble_eq_true rfl, Nat.le_of_ble_eq_true rfl⟩) hPc hDc hKc hS hA hN (va_recv hKc hPc (ci := 17) (q0 := 0) rfl rfl) rfl hl.1 rfl (Nat.le_of_ble_eq_true rfl) dX16_pipe_131 (fun H locs hP1 hD1 hk1 hS => ?_)
          have hP := hP1
          have hD := hD1.weaken (fun k q _ h => hFc q.1 h)
          obtain ⟨q36, s37, hq, h⟩ := nd_b2_e h
          have hPc := hP
          have hDc := hD
          have hKc := hK
          have hFc := nd_rs hD hS hA
          refine nd_cVi (As := [.int q33]) (rest := []) (q := q36) (w' := dw_X16 a ac s37) ⟨hx, hb, hml, hown, hts⟩ (fun sz => dm_X16_give l hlt dC dI a ac n (q33) s34 hq sz) (cwV 1 hts gi_dm_X16_pipe_6 rfl rfl rfl (by decide +kernel) ⟨Nat.le_of_ble_eq_true rfl, Nat.le_of_ble_eq_true rfl⟩) hPc hDc hKc hS hA hN (va_recv hKc hPc (ci := 17) (q0 := 0) rfl rfl) rfl hl.1 rfl (Nat.le_of_ble_eq_true rfl) dX16_pipe_134 (fun H locs hP1 hD1 hk1 hS => ?_)
          have hP := hP1
          have hD := hD1.weaken (fun k q _ h => hFc q.1 h)
          refine lv_istore (lv' := [(4, .int q36), (3, .int q30), (0, .ref (a 0)), (1, .int x1), (2, .int x2)]) hx hb dX16_pipe_137 hl (by decide) rfl (fun ls hl => ?_)
          refine lv_iconst (v := 0) hx hb dX16_pipe_139 (by decide) ?_
          refine lv_istore (lv' := [(5, .int 0), (4, .int q36), (3, .int q30), (0, .ref (a 0)), (1, .int x1), (2, .int x2)]) hx hb dX16_pipe_140 hl (by decide) rfl (fun ls hl => ?_)
          exact (db_X16_pipe_142 C K n) (x1) (q30) (q36) (0) s37 _ _ _ h hP hD hS (lv_sub hl [3, 4, 2, 1, 0] rfl)
        · have h := nd_pos h c22
          refine lv_aload_n hx hb dX16_pipe_94 rfl (lv_at hl 0 rfl) ?_
          refine lv_iconst (v := 3) hx hb dX16_pipe_95 (by decide) ?_
          obtain ⟨q45, s46, hq, h⟩ := nd_b2_e h
          have hPc := hP
          have hDc := hD
          have hKc := hK
          have hFc := nd_rs hD hS hA
          refine nd_cVi (As := [.int 3]) (rest := []) (q := q45) (w' := dw_X16 a ac s46) ⟨hx, hb, hml, hown, hts⟩ (fun sz => dm_X16_tell l hlt dC dI a ac n (3) s20 hq sz) (cwV 1 hts gi_dm_X16_pipe_8 rfl rfl rfl (by decide +kernel) ⟨Nat.le_of_ble_eq_true rfl, Nat.le_of_ble_eq_true rfl⟩) hPc hDc hKc hS hA hN (va_recv hKc hPc (ci := 17) (q0 := 0) rfl rfl) rfl hl.1 rfl (Nat.le_of_ble_eq_true rfl) dX16_pipe_96 (fun H locs hP1 hD1 hk1 hS => ?_)
          have hP := hP1
          have hD := hD1.weaken (fun k q _ h => hFc q.1 h)
          exact K _ _ _ _ _ _ dX16_pipe_99 rfl (Option.some.inj h).symm hP hD hS
      · have h := nd_pos h c15
        exact (db_X16_pipe_73 C K)  s12 _ _ _ h hP hD hS (lv_sub hl [] rfl)
set_option maxHeartbeats 40000000 in
set_option maxRecDepth 100000 in
theorem dB_X16_pipe_29 {p : Program} {l : Launch} {e : Env} {s : State} {m : MethodId} {args : Array Value} {below : List Frame} {meth : Method} {c : Code} {Q : State → Prop} {A : Nat → Prop} {dC : Nat → ClassId} {dI : Nat → Nat → Nat} {a : Nat → Nat} {ac : Nat → ClassId} {n : Nat} {r : Int32 × (St × (St))} (C : nd_C p l s m args c A (dC, dI) cX16_pipe 6 RX16 ow_dm_X16_pipe (dk_X16 ac)) (K : nd_Ki p l e (headSpec ow_dm_X16_pipe ({ frames := 3, cells := 0, slots := 0, locals := 71 })).room s m args below meth c Q A (dC, dI) cX16_pipe .int (St × (St)) (dw_X16 a ac) r) {g29 : Int32 → Int32 → (St × (St)) → Option (Int32 × (St × (St)))} (J29 : dj_X16_pipe_29 p l e s m args below meth c Q A dC dI a ac g29 r) : dj_X16_pipe_29 p l e s m args below meth c Q A dC dI a ac (dF_X16_pipe_29 n g29) r := by
  obtain ⟨hlt, hx, hb, hml, hown, hts, hN, hA, hK⟩ := id C
  intro x1 x2 s0 H locs ls h hP hD hS hl
  unfold dF_X16_pipe_29 at h
  refine lv_iload_n hx hb dX16_pipe_29 rfl (lv_at hl 2 rfl) ?_
  refine lv_bipush (v := 8) hx hb dX16_pipe_30 (by decide) ?_
  refine lv_icmp_ge (tgt := 50) hx hb dX16_pipe_32 (by decide) (fun c6 => ?_) (fun c6 => ?_)
  · have h := nd_pos h c6
    exact (db_X16_pipe_50 C K) (x1) (x2) s0 _ _ _ h hP hD hS (lv_sub hl [0, 1, 2] rfl)
  · have h := nd_neg h c6
    refine lv_aload_n hx hb dX16_pipe_35 rfl (lv_at hl 0 rfl) ?_
    refine va_get (D := (dC, dI)) (ci := 17) (v := .ref (a 25)) (C := RX16) (T := TX16) (N := 56) hx hb hts hi_dm_X16_pipe_X16 hown hK hP 0 rfl rfl 34 (by decide) (hts (.fieldLink RX16 85 "TimeMachineModel$Machine" "isPipe" "[Z") (List.mem_of_getElem? (i := 18) rfl)) (fun _ h9 => h9) rfl dX16_pipe_36 ?_
    refine lv_iload_n hx hb dX16_pipe_39 rfl (lv_at hl 2 rfl) ?_
    obtain ⟨i48, h⟩ := nd_ck_e h
    refine va_zald (i := x2) hx hb hK hP 25 24 rfl rfl i48 dX16_pipe_40 ?_
    refine lv_if_eq (tgt := 50) hx hb dX16_pipe_41 (by decide) (fun c49 => ?_) (fun c49 => ?_)
    · have h := nd_pos h c49
      exact (db_X16_pipe_50 C K) (x1) (x2) s0 _ _ _ h hP hD hS (lv_sub hl [0, 1, 2] rfl)
    · have h := nd_neg h c49
      obtain ⟨z50, ez50, h⟩ := nd_let_e h
      refine lv_iinc (v := z50) (lv' := [(2, .int z50), (0, .ref (a 0)), (1, .int x1)]) hx hb dX16_pipe_44 hl (k := 2) rfl (by rw [ez50]) (by decide) rfl (fun ls hl => ?_)
      refine lv_goto (tgt := 29) hx hb dX16_pipe_47 (by decide) ?_
      exact (J29) (x1) (z50) s0 _ _ _ h hP hD hS (lv_sub hl [1, 2, 0] rfl)
set_option maxHeartbeats 40000000 in
set_option maxRecDepth 100000 in
theorem db_X16_pipe_29 {p : Program} {l : Launch} {e : Env} {s : State} {m : MethodId} {args : Array Value} {below : List Frame} {meth : Method} {c : Code} {Q : State → Prop} {A : Nat → Prop} {dC : Nat → ClassId} {dI : Nat → Nat → Nat} {a : Nat → Nat} {ac : Nat → ClassId} {n : Nat} {r : Int32 × (St × (St))} (C : nd_C p l s m args c A (dC, dI) cX16_pipe 6 RX16 ow_dm_X16_pipe (dk_X16 ac)) (K : nd_Ki p l e (headSpec ow_dm_X16_pipe ({ frames := 3, cells := 0, slots := 0, locals := 71 })).room s m args below meth c Q A (dC, dI) cX16_pipe .int (St × (St)) (dw_X16 a ac) r) (k : Nat) : dj_X16_pipe_29 p l e s m args below meth c Q A dC dI a ac (df_X16_pipe_29 n k) r := by
  induction k with
  | zero => intro x1 x2 s0 H locs ls h; exact nomatch (show (none : Option (Int32 × (St × (St)))) = some r from h)
  | succ k ih => exact dB_X16_pipe_29 C K ih
set_option maxHeartbeats 40000000 in
set_option maxRecDepth 100000 in
theorem db_X16_pipe_0 {p : Program} {l : Launch} {e : Env} {s : State} {m : MethodId} {args : Array Value} {below : List Frame} {meth : Method} {c : Code} {Q : State → Prop} {A : Nat → Prop} {dC : Nat → ClassId} {dI : Nat → Nat → Nat} {a : Nat → Nat} {ac : Nat → ClassId} {n : Nat} {r : Int32 × (St × (St))} (C : nd_C p l s m args c A (dC, dI) cX16_pipe 6 RX16 ow_dm_X16_pipe (dk_X16 ac)) (K : nd_Ki p l e (headSpec ow_dm_X16_pipe ({ frames := 3, cells := 0, slots := 0, locals := 71 })).room s m args below meth c Q A (dC, dI) cX16_pipe .int (St × (St)) (dw_X16 a ac) r) : dj_X16_pipe_0 p l e s m args below meth c Q A dC dI a ac (df_X16_pipe_0 n) r := by
  obtain ⟨hlt, hx, hb, hml, hown, hts, hN, hA, hK⟩ := id C
  intro v0 s0 H locs ls h hP hD hS hl
  unfold df_X16_pipe_0 at h
  refine lv_iload_n hx hb dX16_pipe_0 rfl (lv_at hl 1 rfl) ?_
  refine lv_iconst (v := 4) hx hb dX16_pipe_1 (by decide) ?_
  refine lv_irem hx hb dX16_pipe_2 (by decide) ?_
  refine lv_if_eq (tgt := 9) hx hb dX16_pipe_3 (by decide) (fun c1 => ?_) (fun c1 => ?_)
  · have h := nd_pos h c1
    refine lv_aload_n hx hb dX16_pipe_9 rfl (lv_at hl 0 rfl) ?_
    refine lv_aload_n hx hb dX16_pipe_10 rfl (lv_at hl 0 rfl) ?_
    refine va_get (D := (dC, dI)) (ci := 17) (v := .int (sI s0.1 12)) (C := RX16) (T := TX16) (N := 56) hx hb hts hi_dm_X16_pipe_X16 hown hK hP 0 rfl rfl 51 (by decide) (hts (.fieldLink RX16 232 "TimeMachineModel$Machine" "p" "I") (List.mem_of_getElem? (i := 1) rfl)) (fun _ h9 => h9) rfl dX16_pipe_11 ?_
    refine lv_iload_n hx hb dX16_pipe_14 rfl (lv_at hl 1 rfl) ?_
    refine lv_bipush (v := 8) hx hb dX16_pipe_15 (by decide) ?_
    refine lv_iconst (v := 2) hx hb dX16_pipe_17 (by decide) ?_
    obtain ⟨q2, s3, hq, h⟩ := nd_b2_e h
    have hPc := hP
    have hDc := hD
    have hKc := hK
    have hFc := nd_rs hD hS hA
    refine nd_cVi (As := [.int (sI s0.1 12), .int v0, .int 8, .int 2]) (rest := []) (q := q2) (w' := dw_X16 a ac s3) ⟨hx, hb, hml, hown, hts⟩ (fun sz => dm_X16_mayAll l hlt dC dI a ac n ((sI s0.1 12)) (v0) (8) (2) s0 hq sz) (cwV 4 hts gi_dm_X16_pipe_0 rfl rfl rfl (by decide +kernel) ⟨Nat.le_of_ble_eq_true rfl, Nat.le_of_ble_eq_true rfl⟩) hPc hDc hKc hS hA hN (va_recv hKc hPc (ci := 17) (q0 := 0) rfl rfl) rfl hl.1 rfl (Nat.le_of_ble_eq_true rfl) dX16_pipe_18 (fun H locs hP1 hD1 hk1 hS => ?_)
    have hP := hP1
    have hD := hD1.weaken (fun k q _ h => hFc q.1 h)
    refine lv_if_ne (tgt := 27) hx hb dX16_pipe_21 (by decide) (fun c5 => ?_) (fun c5 => ?_)
    · have h := nd_neg h c5
      refine lv_iconst (v := 0) hx hb dX16_pipe_27 (by decide) ?_
      refine lv_istore_n (lv' := [(2, .int 0), (0, .ref (a 0)), (1, .int v0)]) hx hb dX16_pipe_28 rfl hl (by decide) rfl (fun ls hl => ?_)
      exact (db_X16_pipe_29 C K n) (v0) (0) s3 _ _ _ h hP hD hS (lv_sub hl [1, 2, 0] rfl)
    · have h := nd_pos h c5
      refine lv_bipush (v := (-14)) hx hb dX16_pipe_24 (by decide) ?_
      exact K _ _ _ _ _ _ dX16_pipe_26 rfl (Option.some.inj h).symm hP hD hS
  · have h := nd_neg h c1
    refine lv_bipush (v := (-22)) hx hb dX16_pipe_6 (by decide) ?_
    exact K _ _ _ _ _ _ dX16_pipe_8 rfl (Option.some.inj h).symm hP hD hS
set_option maxHeartbeats 40000000 in
set_option maxRecDepth 100000 in
theorem dm_X16_pipe (l : Launch) (hlt : l.stackTraces = false) (dC : Nat → ClassId) (dI : Nat → Nat → Nat) (a : Nat → Nat) (ac : Nat → ClassId) (n : Nat) (v0 : Int32) (s0 : St × (St)) {r : Int32 × (St × (St))} (h : df_X16_pipe n v0 s0 = some r) (sz : Nat) : Met l yX16_pipe ow_dm_X16_pipe ({ frames := 3, cells := 0, slots := 0, locals := 71 }) (va_Pc [.ref (a 0), .int v0] (fun U => U.heap.size = sz ∧ va_P (dC, dI) vwCl (dw_X16 a ac s0) U.heap ∧ va_K (dC, dI) vwCl (dk_X16 ac) U ∧ va_D (fun _ => True) (dw_X16 a ac s0) ∧ nv_E dI (va_A (dw_X16 a ac s0) sz) U)) (va_Qi (fun x _ => x = r.1) (fun (_ : Unit) t => va_P (dC, dI) vwCl (dw_X16 a ac r.2) t.heap ∧ va_K (dC, dI) vwCl (dk_X16 ac) t ∧ va_D (va_A (dw_X16 a ac s0) sz) (dw_X16 a ac r.2)) (va_A (dw_X16 a ac s0) sz)) 0 0 (va_A (dw_X16 a ac s0) sz) := by
  refine Met.ofW (cc := cX16_pipe) (maxL := 6) (ret := (some .int)) (by decide) rfl ?_
  intro p e s m args below meth c s₁ B hml hv
  obtain ⟨rfl, hsz, hP, hK, hD0, hN⟩ := hv
  have hx := B.exec
  have hb := B.bytes
  have hr := B.returns
  have hts := atoms_spec (ws := ow_dm_X16_pipe) B.pre
  have hown : s.vm.findClass RX16 = some m.cls := findClass_of_methodNamed B.named
  have hlocks := B.notSynchronized
  subst hsz
  have hD := hD0.self (sz := s.heap.size)
  generalize hAe : va_A (dw_X16 a ac s0) s.heap.size = A at hD hN ⊢
  have hA : ∀ q : Nat, s.heap.size ≤ q → A q := fun q h => by rw [← hAe]; exact Or.inr h
  have hl := lv_entry ([.ref (a 0), .int v0]) (n := 6) (Nat.le_of_ble_eq_true rfl)
  rw [lg_entry_eq]
  generalize (lg_sl ([.ref (a 0), .int v0]) ++ List.replicate (6 - (lg_sl ([.ref (a 0), .int v0])).length) Slot.unset).toArray = ls at hl ⊢
  have hl : lv_has ls 6 [(0, .ref (a 0)), (1, .int v0)] := hl
  exact db_X16_pipe_0 (dC := dC) (dI := dI) (a := a) (ac := ac) (n := n) (r := r) ⟨hlt, hx, hb, hml, hown, hts, hN, hA, hK⟩ (fun pc v τ H locs ls d z er hP hD hS => by subst er; exact W.zret (v := v) hx hb hr z (fun t ht hW => ⟨⟨v, (), rfl, rfl, by rw [ht]; exact hP, va_K.moved hW.alike hK, hD⟩, hS.F ht⟩) hS.2.2 d) v0 s0 _ _ _ h hP hD va_S.rf (lv_sub hl [0, 1] rfl)
def ow_dm_X16_comes : List Cond := Cond.code yX16_comes cX16_comes 4 (some .int) :: ([Cond.fieldLink RX16 73 "TimeMachineModel$Machine" "kind" "[I", Cond.fieldLink RX16 122 "TimeMachineModel$Machine" "typed" "I", Cond.fieldLink RX16 109 "TimeMachineModel$Machine" "typedBytes" "[I", Cond.fieldLink RX16 100 "TimeMachineModel$Machine" "length" "[I", Cond.fieldLink RX16 76 "TimeMachineModel$Machine" "thing" "[I", Cond.fieldLink RX16 79 "TimeMachineModel$Machine" "position" "[I", Cond.fieldLink RX16 94 "TimeMachineModel$Machine" "piped" "[I"] ++ (u_ws RX16 TX16 56 ++ []))
theorem gd_dm_X16_comes : ∀ w ∈ ow_dm_X16_comes, (w.onTables && w.keeps) = true ∨ ∃ ty, w = Cond.arrayClass ty := List.forall_mem_cons.mpr ⟨good_of_word rfl, List.forall_mem_append.mpr ⟨fun w h => good_of_word (List.all_eq_true.mp (by decide +kernel) w h), List.forall_mem_append.mpr ⟨gu_X16, fun _ h => nomatch h⟩⟩⟩
theorem hi_dm_X16_comes_X16 : ∀ w ∈ u_ws RX16 TX16 56, w ∈ ow_dm_X16_comes := fun w h => List.mem_cons_of_mem _ (List.mem_append_right _ (List.mem_append_left _ h))
def dj_X16_comes_152 (p : Program) (l : Launch) (e : Env) (s : State) (m : MethodId) (args : Array Value) (below : List Frame) (meth : Method) (c : Code) (Q : State → Prop) (A : Nat → Prop) (dC : Nat → ClassId) (dI : Nat → Nat → Nat) (a : Nat → Nat) (ac : Nat → ClassId) (g : Int32 → (St × (St)) → Option (Int32 × (St × (St)))) (r : Int32 × (St × (St))) : Prop := ∀ (x3 : Int32) (s0 : St × (St)) (H : Heap) (locs : List Loc) (ls : Array Slot), g x3 s0 = some r → va_P (dC, dI) vwCl (dw_X16 a ac s0) H → va_D A (dw_X16 a ac s0) → va_S A s.heap H locs → lv_has ls 4 [(3, .int x3)] → W p l e (headSpec ow_dm_X16_comes ({ frames := 0, cells := 0, slots := 0, locals := 0 })).room s m args below meth c H locs 0 0 Q (F0 m 152 ls [])
def dj_X16_comes_123 (p : Program) (l : Launch) (e : Env) (s : State) (m : MethodId) (args : Array Value) (below : List Frame) (meth : Method) (c : Code) (Q : State → Prop) (A : Nat → Prop) (dC : Nat → ClassId) (dI : Nat → Nat → Nat) (a : Nat → Nat) (ac : Nat → ClassId) (g : Int32 → Int32 → (St × (St)) → Option (Int32 × (St × (St)))) (r : Int32 × (St × (St))) : Prop := ∀ (x2 : Int32) (x3 : Int32) (s0 : St × (St)) (H : Heap) (locs : List Loc) (ls : Array Slot), g x2 x3 s0 = some r → va_P (dC, dI) vwCl (dw_X16 a ac s0) H → va_D A (dw_X16 a ac s0) → va_S A s.heap H locs → lv_has ls 4 [(0, .ref (a 0)), (2, .int x2), (3, .int x3)] → W p l e (headSpec ow_dm_X16_comes ({ frames := 0, cells := 0, slots := 0, locals := 0 })).room s m args below meth c H locs 0 0 Q (F0 m 123 ls [])
def dj_X16_comes_120 (p : Program) (l : Launch) (e : Env) (s : State) (m : MethodId) (args : Array Value) (below : List Frame) (meth : Method) (c : Code) (Q : State → Prop) (A : Nat → Prop) (dC : Nat → ClassId) (dI : Nat → Nat → Nat) (a : Nat → Nat) (ac : Nat → ClassId) (g : Int32 → (St × (St)) → Option (Int32 × (St × (St)))) (r : Int32 × (St × (St))) : Prop := ∀ (y0 : Int32) (s0 : St × (St)) (H : Heap) (locs : List Loc) (ls : Array Slot), g y0 s0 = some r → va_P (dC, dI) vwCl (dw_X16 a ac s0) H → va_D A (dw_X16 a ac s0) → va_S A s.heap H locs → lv_has ls 4 [] → W p l e (headSpec ow_dm_X16_comes ({ frames := 0, cells := 0, slots := 0, locals := 0 })).room s m args below meth c H locs 0 0 Q (F0 m 120 ls [.int y0])
def dj_X16_comes_40 (p : Program) (l : Launch) (e : Env) (s : State) (m : MethodId) (args : Array Value) (below : List Frame) (meth : Method) (c : Code) (Q : State → Prop) (A : Nat → Prop) (dC : Nat → ClassId) (dI : Nat → Nat → Nat) (a : Nat → Nat) (ac : Nat → ClassId) (g : Int32 → (St × (St)) → Option (Int32 × (St × (St)))) (r : Int32 × (St × (St))) : Prop := ∀ (y0 : Int32) (s0 : St × (St)) (H : Heap) (locs : List Loc) (ls : Array Slot), g y0 s0 = some r → va_P (dC, dI) vwCl (dw_X16 a ac s0) H → va_D A (dw_X16 a ac s0) → va_S A s.heap H locs → lv_has ls 4 [] → W p l e (headSpec ow_dm_X16_comes ({ frames := 0, cells := 0, slots := 0, locals := 0 })).room s m args below meth c H locs 0 0 Q (F0 m 40 ls [.int y0])
def dj_X16_comes_0 (p : Program) (l : Launch) (e : Env) (s : State) (m : MethodId) (args : Array Value) (below : List Frame) (meth : Method) (c : Code) (Q : State → Prop) (A : Nat → Prop) (dC : Nat → ClassId) (dI : Nat → Nat → Nat) (a : Nat → Nat) (ac : Nat → ClassId) (g : Int32 → Int32 → (St × (St)) → Option (Int32 × (St × (St)))) (r : Int32 × (St × (St))) : Prop := ∀ (v0 : Int32) (v1 : Int32) (s0 : St × (St)) (H : Heap) (locs : List Loc) (ls : Array Slot), g v0 v1 s0 = some r → va_P (dC, dI) vwCl (dw_X16 a ac s0) H → va_D A (dw_X16 a ac s0) → va_S A s.heap H locs → lv_has ls 4 [(0, .ref (a 0)), (1, .int v0), (2, .int v1)] → W p l e (headSpec ow_dm_X16_comes ({ frames := 0, cells := 0, slots := 0, locals := 0 })).room s m args below meth c H locs 0 0 Q (F0 m 0 ls [])
set_option maxHeartbeats 40000000 in
set_option maxRecDepth 100000 in
theorem db_X16_comes_152 {p : Program} {l : Launch} {e : Env} {s : State} {m : MethodId} {args : Array Value} {below : List Frame} {meth : Method} {c : Code} {Q : State → Prop} {A : Nat → Prop} {dC : Nat → ClassId} {dI : Nat → Nat → Nat} {a : Nat → Nat} {ac : Nat → ClassId} {n : Nat} {r : Int32 × (St × (St))} (C : nd_C p l s m args c A (dC, dI) cX16_comes 4 RX16 ow_dm_X16_comes (dk_X16 ac)) (K : nd_Ki p l e (headSpec ow_dm_X16_comes ({ frames := 0, cells := 0, slots := 0, locals := 0 })).room s m args below meth c Q A (dC, dI) cX16_comes .int (St × (St)) (dw_X16 a ac) r) : dj_X16_comes_152 p l e s m args below meth c Q A dC dI a ac (df_X16_comes_152 n) r := by
  obtain ⟨hlt, hx, hb, hml, hown, hts, hN, hA, hK⟩ := id C
  intro x3 s0 H locs ls h hP hD hS hl
  unfold df_X16_comes_152 at h
  refine lv_iload_n hx hb dX16_comes_152 rfl (lv_at hl 0 rfl) ?_
  exact K _ _ _ _ _ _ dX16_comes_153 rfl (Option.some.inj h).symm hP hD hS
set_option maxHeartbeats 40000000 in
set_option maxRecDepth 100000 in
theorem dB_X16_comes_123 {p : Program} {l : Launch} {e : Env} {s : State} {m : MethodId} {args : Array Value} {below : List Frame} {meth : Method} {c : Code} {Q : State → Prop} {A : Nat → Prop} {dC : Nat → ClassId} {dI : Nat → Nat → Nat} {a : Nat → Nat} {ac : Nat → ClassId} {n : Nat} {r : Int32 × (St × (St))} (C : nd_C p l s m args c A (dC, dI) cX16_comes 4 RX16 ow_dm_X16_comes (dk_X16 ac)) (K : nd_Ki p l e (headSpec ow_dm_X16_comes ({ frames := 0, cells := 0, slots := 0, locals := 0 })).room s m args below meth c Q A (dC, dI) cX16_comes .int (St × (St)) (dw_X16 a ac) r) {g123 : Int32 → Int32 → (St × (St)) → Option (Int32 × (St × (St)))} (J123 : dj_X16_comes_123 p l e s m args below meth c Q A dC dI a ac g123 r) : dj_X16_comes_123 p l e s m args below meth c Q A dC dI a ac (dF_X16_comes_123 n g123) r := by
  obtain ⟨hlt, hx, hb, hml, hown, hts, hN, hA, hK⟩ := id C
  intro x2 x3 s0 H locs ls h hP hD hS hl
  unfold dF_X16_comes_123 at h
  refine lv_iload_n hx hb dX16_comes_123 rfl (lv_at hl 2 rfl) ?_
  refine lv_iload_n hx hb dX16_comes_124 rfl (lv_at hl 1 rfl) ?_
  refine lv_icmp_ge (tgt := 152) hx hb dX16_comes_125 (by decide) (fun c5 => ?_) (fun c5 => ?_)
  · have h := nd_pos h c5
    exact (db_X16_comes_152 C K) (x3) s0 _ _ _ h hP hD hS (lv_sub hl [2] rfl)
  · have h := nd_neg h c5
    refine lv_iload_n hx hb dX16_comes_128 rfl (lv_at hl 2 rfl) ?_
    refine lv_aload_n hx hb dX16_comes_129 rfl (lv_at hl 0 rfl) ?_
    refine va_get (D := (dC, dI)) (ci := 17) (v := .int (sI s0.1 7)) (C := RX16) (T := TX16) (N := 56) hx hb hts hi_dm_X16_comes_X16 hown hK hP 0 rfl rfl 42 (by decide) (hts (.fieldLink RX16 122 "TimeMachineModel$Machine" "typed" "I") (List.mem_of_getElem? (i := 2) rfl)) (fun _ h9 => h9) rfl dX16_comes_130 ?_
    refine lv_icmp_ge (tgt := 152) hx hb dX16_comes_133 (by decide) (fun c6 => ?_) (fun c6 => ?_)
    · have h := nd_pos h c6
      exact (db_X16_comes_152 C K) (x3) s0 _ _ _ h hP hD hS (lv_sub hl [2] rfl)
    · have h := nd_neg h c6
      refine lv_aload_n hx hb dX16_comes_136 rfl (lv_at hl 0 rfl) ?_
      refine va_get (D := (dC, dI)) (ci := 17) (v := .ref (a 33)) (C := RX16) (T := TX16) (N := 56) hx hb hts hi_dm_X16_comes_X16 hown hK hP 0 rfl rfl 43 (by decide) (hts (.fieldLink RX16 109 "TimeMachineModel$Machine" "typedBytes" "[I") (List.mem_of_getElem? (i := 3) rfl)) (fun _ h9 => h9) rfl dX16_comes_137 ?_
      refine lv_iload_n hx hb dX16_comes_140 rfl (lv_at hl 2 rfl) ?_
      obtain ⟨i7, h⟩ := nd_ck_e h
      refine va_iald (i := x3) hx hb hK hP 33 32 rfl rfl i7 dX16_comes_141 ?_
      refine lv_iconst (v := 4) hx hb dX16_comes_142 (by decide) ?_
      refine lv_icmp_eq (tgt := 152) hx hb dX16_comes_143 (by decide) (fun c8 => ?_) (fun c8 => ?_)
      · have h := nd_pos h c8
        exact (db_X16_comes_152 C K) (x3) s0 _ _ _ h hP hD hS (lv_sub hl [2] rfl)
      · have h := nd_neg h c8
        obtain ⟨z9, ez9, h⟩ := nd_let_e h
        refine lv_iinc (v := z9) (lv' := [(3, .int z9), (0, .ref (a 0)), (2, .int x2)]) hx hb dX16_comes_146 hl (k := 2) rfl (by rw [ez9]) (by decide) rfl (fun ls hl => ?_)
        refine lv_goto (tgt := 123) hx hb dX16_comes_149 (by decide) ?_
        exact (J123) (x2) (z9) s0 _ _ _ h hP hD hS (lv_sub hl [1, 2, 0] rfl)
set_option maxHeartbeats 40000000 in
set_option maxRecDepth 100000 in
theorem db_X16_comes_123 {p : Program} {l : Launch} {e : Env} {s : State} {m : MethodId} {args : Array Value} {below : List Frame} {meth : Method} {c : Code} {Q : State → Prop} {A : Nat → Prop} {dC : Nat → ClassId} {dI : Nat → Nat → Nat} {a : Nat → Nat} {ac : Nat → ClassId} {n : Nat} {r : Int32 × (St × (St))} (C : nd_C p l s m args c A (dC, dI) cX16_comes 4 RX16 ow_dm_X16_comes (dk_X16 ac)) (K : nd_Ki p l e (headSpec ow_dm_X16_comes ({ frames := 0, cells := 0, slots := 0, locals := 0 })).room s m args below meth c Q A (dC, dI) cX16_comes .int (St × (St)) (dw_X16 a ac) r) (k : Nat) : dj_X16_comes_123 p l e s m args below meth c Q A dC dI a ac (df_X16_comes_123 n k) r := by
  induction k with
  | zero => intro x2 x3 s0 H locs ls h; exact nomatch (show (none : Option (Int32 × (St × (St)))) = some r from h)
  | succ k ih => exact dB_X16_comes_123 C K ih
set_option maxHeartbeats 40000000 in
set_option maxRecDepth 100000 in
theorem db_X16_comes_120 {p : Program} {l : Launch} {e : Env} {s : State} {m : MethodId} {args : Array Value} {below : List Frame} {meth : Method} {c : Code} {Q : State → Prop} {A : Nat → Prop} {dC : Nat → ClassId} {dI : Nat → Nat → Nat} {a : Nat → Nat} {ac : Nat → ClassId} {n : Nat} {r : Int32 × (St × (St))} (C : nd_C p l s m args c A (dC, dI) cX16_comes 4 RX16 ow_dm_X16_comes (dk_X16 ac)) (K : nd_Ki p l e (headSpec ow_dm_X16_comes ({ frames := 0, cells := 0, slots := 0, locals := 0 })).room s m args below meth c Q A (dC, dI) cX16_comes .int (St × (St)) (dw_X16 a ac) r) : dj_X16_comes_120 p l e s m args below meth c Q A dC dI a ac (df_X16_comes_120 n) r := by
  obtain ⟨hlt, hx, hb, hml, hown, hts, hN, hA, hK⟩ := id C
  intro y0 s0 H locs ls h hP hD hS hl
  unfold df_X16_comes_120 at h
  exact K _ _ _ _ _ _ dX16_comes_120 rfl (Option.some.inj h).symm hP hD hS
set_option maxHeartbeats 40000000 in
set_option maxRecDepth 100000 in
theorem db_X16_comes_40 {p : Program} {l : Launch} {e : Env} {s : State} {m : MethodId} {args : Array Value} {below : List Frame} {meth : Method} {c : Code} {Q : State → Prop} {A : Nat → Prop} {dC : Nat → ClassId} {dI : Nat → Nat → Nat} {a : Nat → Nat} {ac : Nat → ClassId} {n : Nat} {r : Int32 × (St × (St))} (C : nd_C p l s m args c A (dC, dI) cX16_comes 4 RX16 ow_dm_X16_comes (dk_X16 ac)) (K : nd_Ki p l e (headSpec ow_dm_X16_comes ({ frames := 0, cells := 0, slots := 0, locals := 0 })).room s m args below meth c Q A (dC, dI) cX16_comes .int (St × (St)) (dw_X16 a ac) r) : dj_X16_comes_40 p l e s m args below meth c Q A dC dI a ac (df_X16_comes_40 n) r := by
  obtain ⟨hlt, hx, hb, hml, hown, hts, hN, hA, hK⟩ := id C
  intro y0 s0 H locs ls h hP hD hS hl
  unfold df_X16_comes_40 at h
  exact K _ _ _ _ _ _ dX16_comes_40 rfl (Option.some.inj h).symm hP hD hS
set_option maxHeartbeats 40000000 in
set_option maxRecDepth 100000 in
theorem db_X16_comes_0 {p : Program} {l : Launch} {e : Env} {s : State} {m : MethodId} {args : Array Value} {below : List Frame} {meth : Method} {c : Code} {Q : State → Prop} {A : Nat → Prop} {dC : Nat → ClassId} {dI : Nat → Nat → Nat} {a : Nat → Nat} {ac : Nat → ClassId} {n : Nat} {r : Int32 × (St × (St))} (C : nd_C p l s m args c A (dC, dI) cX16_comes 4 RX16 ow_dm_X16_comes (dk_X16 ac)) (K : nd_Ki p l e (headSpec ow_dm_X16_comes ({ frames := 0, cells := 0, slots := 0, locals := 0 })).room s m args below meth c Q A (dC, dI) cX16_comes .int (St × (St)) (dw_X16 a ac) r) : dj_X16_comes_0 p l e s m args below meth c Q A dC dI a ac (df_X16_comes_0 n) r := by
  obtain ⟨hlt, hx, hb, hml, hown, hts, hN, hA, hK⟩ := id C
  intro v0 v1 s0 H locs ls h hP hD hS hl
  unfold df_X16_comes_0 at h
  refine lv_aload_n hx hb dX16_comes_0 rfl (lv_at hl 0 rfl) ?_
  refine va_get (D := (dC, dI)) (ci := 17) (v := .ref (a 21)) (C := RX16) (T := TX16) (N := 56) hx hb hts hi_dm_X16_comes_X16 hown hK hP 0 rfl rfl 30 (by decide) (hts (.fieldLink RX16 73 "TimeMachineModel$Machine" "kind" "[I") (List.mem_of_getElem? (i := 1) rfl)) (fun _ h9 => h9) rfl dX16_comes_1 ?_
  refine lv_iload_n hx hb dX16_comes_4 rfl (lv_at hl 1 rfl) ?_
  obtain ⟨i1, h⟩ := nd_ck_e h
  refine va_iald (i := v0) hx hb hK hP 21 20 rfl rfl i1 dX16_comes_5 ?_
  refine lv_iconst (v := 1) hx hb dX16_comes_6 (by decide) ?_
  refine lv_icmp_ne (tgt := 41) hx hb dX16_comes_7 (by decide) (fun c2 => ?_) (fun c2 => ?_)
  · have h := nd_neg h c2
    refine lv_aload_n hx hb dX16_comes_41 rfl (lv_at hl 0 rfl) ?_
    refine va_get (D := (dC, dI)) (ci := 17) (v := .ref (a 21)) (C := RX16) (T := TX16) (N := 56) hx hb hts hi_dm_X16_comes_X16 hown hK hP 0 rfl rfl 30 (by decide) (hts (.fieldLink RX16 73 "TimeMachineModel$Machine" "kind" "[I") (List.mem_of_getElem? (i := 1) rfl)) (fun _ h9 => h9) rfl dX16_comes_42 ?_
    refine lv_iload_n hx hb dX16_comes_45 rfl (lv_at hl 1 rfl) ?_
    obtain ⟨i3, h⟩ := nd_ck_e h
    refine va_iald (i := v0) hx hb hK hP 21 20 rfl rfl i3 dX16_comes_46 ?_
    refine lv_iconst (v := 3) hx hb dX16_comes_47 (by decide) ?_
    refine lv_icmp_ne (tgt := 121) hx hb dX16_comes_48 (by decide) (fun c4 => ?_) (fun c4 => ?_)
    · have h := nd_neg h c4
      refine lv_iconst (v := 0) hx hb dX16_comes_121 (by decide) ?_
      refine lv_istore_n (lv' := [(3, .int 0), (0, .ref (a 0)), (1, .int v0), (2, .int v1)]) hx hb dX16_comes_122 rfl hl (by decide) rfl (fun ls hl => ?_)
      exact (db_X16_comes_123 C K n) (v1) (0) s0 _ _ _ h hP hD hS (lv_sub hl [1, 3, 0] rfl)
    · have h := nd_pos h c4
      refine lv_aload_n hx hb dX16_comes_51 rfl (lv_at hl 0 rfl) ?_
      refine va_get (D := (dC, dI)) (ci := 17) (v := .ref (a 30)) (C := RX16) (T := TX16) (N := 56) hx hb hts hi_dm_X16_comes_X16 hown hK hP 0 rfl rfl 39 (by decide) (hts (.fieldLink RX16 100 "TimeMachineModel$Machine" "length" "[I") (List.mem_of_getElem? (i := 4) rfl)) (fun _ h9 => h9) rfl dX16_comes_52 ?_
      refine lv_aload_n hx hb dX16_comes_55 rfl (lv_at hl 0 rfl) ?_
      refine va_get (D := (dC, dI)) (ci := 17) (v := .ref (a 22)) (C := RX16) (T := TX16) (N := 56) hx hb hts hi_dm_X16_comes_X16 hown hK hP 0 rfl rfl 31 (by decide) (hts (.fieldLink RX16 76 "TimeMachineModel$Machine" "thing" "[I") (List.mem_of_getElem? (i := 5) rfl)) (fun _ h9 => h9) rfl dX16_comes_56 ?_
      refine lv_iload_n hx hb dX16_comes_59 rfl (lv_at hl 1 rfl) ?_
      obtain ⟨i10, h⟩ := nd_ck_e h
      refine va_iald (i := v0) hx hb hK hP 22 21 rfl rfl i10 dX16_comes_60 ?_
      obtain ⟨i11, h⟩ := nd_ck_e h
      refine va_iald (i := (sR s0.1 20 (Int32.toNatClampNeg v0))) hx hb hK hP 30 29 rfl rfl i11 dX16_comes_61 ?_
      refine lv_aload_n hx hb dX16_comes_62 rfl (lv_at hl 0 rfl) ?_
      refine va_get (D := (dC, dI)) (ci := 17) (v := .ref (a 23)) (C := RX16) (T := TX16) (N := 56) hx hb hts hi_dm_X16_comes_X16 hown hK hP 0 rfl rfl 32 (by decide) (hts (.fieldLink RX16 79 "TimeMachineModel$Machine" "position" "[I") (List.mem_of_getElem? (i := 6) rfl)) (fun _ h9 => h9) rfl dX16_comes_63 ?_
      refine lv_iload_n hx hb dX16_comes_66 rfl (lv_at hl 1 rfl) ?_
      obtain ⟨i12, h⟩ := nd_ck_e h
      refine va_iald (i := v0) hx hb hK hP 23 22 rfl rfl i12 dX16_comes_67 ?_
      refine lv_isub hx hb dX16_comes_68 ?_
      refine lv_if_ge (tgt := 76) hx hb dX16_comes_69 (by decide) (fun c13 => ?_) (fun c13 => ?_)
      · have h := nd_pos h c13
        refine lv_aload_n hx hb dX16_comes_76 rfl (lv_at hl 0 rfl) ?_
        refine va_get (D := (dC, dI)) (ci := 17) (v := .ref (a 30)) (C := RX16) (T := TX16) (N := 56) hx hb hts hi_dm_X16_comes_X16 hown hK hP 0 rfl rfl 39 (by decide) (hts (.fieldLink RX16 100 "TimeMachineModel$Machine" "length" "[I") (List.mem_of_getElem? (i := 4) rfl)) (fun _ h9 => h9) rfl dX16_comes_77 ?_
        refine lv_aload_n hx hb dX16_comes_80 rfl (lv_at hl 0 rfl) ?_
        refine va_get (D := (dC, dI)) (ci := 17) (v := .ref (a 22)) (C := RX16) (T := TX16) (N := 56) hx hb hts hi_dm_X16_comes_X16 hown hK hP 0 rfl rfl 31 (by decide) (hts (.fieldLink RX16 76 "TimeMachineModel$Machine" "thing" "[I") (List.mem_of_getElem? (i := 5) rfl)) (fun _ h9 => h9) rfl dX16_comes_81 ?_
        refine lv_iload_n hx hb dX16_comes_84 rfl (lv_at hl 1 rfl) ?_
        obtain ⟨i14, h⟩ := nd_ck_e h
        refine va_iald (i := v0) hx hb hK hP 22 21 rfl rfl i14 dX16_comes_85 ?_
        obtain ⟨i15, h⟩ := nd_ck_e h
        refine va_iald (i := (sR s0.1 20 (Int32.toNatClampNeg v0))) hx hb hK hP 30 29 rfl rfl i15 dX16_comes_86 ?_
        refine lv_aload_n hx hb dX16_comes_87 rfl (lv_at hl 0 rfl) ?_
        refine va_get (D := (dC, dI)) (ci := 17) (v := .ref (a 23)) (C := RX16) (T := TX16) (N := 56) hx hb hts hi_dm_X16_comes_X16 hown hK hP 0 rfl rfl 32 (by decide) (hts (.fieldLink RX16 79 "TimeMachineModel$Machine" "position" "[I") (List.mem_of_getElem? (i := 6) rfl)) (fun _ h9 => h9) rfl dX16_comes_88 ?_
        refine lv_iload_n hx hb dX16_comes_91 rfl (lv_at hl 1 rfl) ?_
        obtain ⟨i16, h⟩ := nd_ck_e h
        refine va_iald (i := v0) hx hb hK hP 23 22 rfl rfl i16 dX16_comes_92 ?_
        refine lv_isub hx hb dX16_comes_93 ?_
        refine lv_iload_n hx hb dX16_comes_94 rfl (lv_at hl 2 rfl) ?_
        refine lv_icmp_ge (tgt := 119) hx hb dX16_comes_95 (by decide) (fun c17 => ?_) (fun c17 => ?_)
        · have h := nd_pos h c17
          refine lv_iload_n hx hb dX16_comes_119 rfl (lv_at hl 2 rfl) ?_
          exact (db_X16_comes_120 C K) (v1) s0 _ _ _ h hP hD hS (lv_sub hl [] rfl)
        · have h := nd_neg h c17
          refine lv_aload_n hx hb dX16_comes_98 rfl (lv_at hl 0 rfl) ?_
          refine va_get (D := (dC, dI)) (ci := 17) (v := .ref (a 30)) (C := RX16) (T := TX16) (N := 56) hx hb hts hi_dm_X16_comes_X16 hown hK hP 0 rfl rfl 39 (by decide) (hts (.fieldLink RX16 100 "TimeMachineModel$Machine" "length" "[I") (List.mem_of_getElem? (i := 4) rfl)) (fun _ h9 => h9) rfl dX16_comes_99 ?_
          refine lv_aload_n hx hb dX16_comes_102 rfl (lv_at hl 0 rfl) ?_
          refine va_get (D := (dC, dI)) (ci := 17) (v := .ref (a 22)) (C := RX16) (T := TX16) (N := 56) hx hb hts hi_dm_X16_comes_X16 hown hK hP 0 rfl rfl 31 (by decide) (hts (.fieldLink RX16 76 "TimeMachineModel$Machine" "thing" "[I") (List.mem_of_getElem? (i := 5) rfl)) (fun _ h9 => h9) rfl dX16_comes_103 ?_
          refine lv_iload_n hx hb dX16_comes_106 rfl (lv_at hl 1 rfl) ?_
          obtain ⟨i18, h⟩ := nd_ck_e h
          refine va_iald (i := v0) hx hb hK hP 22 21 rfl rfl i18 dX16_comes_107 ?_
          obtain ⟨i19, h⟩ := nd_ck_e h
          refine va_iald (i := (sR s0.1 20 (Int32.toNatClampNeg v0))) hx hb hK hP 30 29 rfl rfl i19 dX16_comes_108 ?_
          refine lv_aload_n hx hb dX16_comes_109 rfl (lv_at hl 0 rfl) ?_
          refine va_get (D := (dC, dI)) (ci := 17) (v := .ref (a 23)) (C := RX16) (T := TX16) (N := 56) hx hb hts hi_dm_X16_comes_X16 hown hK hP 0 rfl rfl 32 (by decide) (hts (.fieldLink RX16 79 "TimeMachineModel$Machine" "position" "[I") (List.mem_of_getElem? (i := 6) rfl)) (fun _ h9 => h9) rfl dX16_comes_110 ?_
          refine lv_iload_n hx hb dX16_comes_113 rfl (lv_at hl 1 rfl) ?_
          obtain ⟨i20, h⟩ := nd_ck_e h
          refine va_iald (i := v0) hx hb hK hP 23 22 rfl rfl i20 dX16_comes_114 ?_
          refine lv_isub hx hb dX16_comes_115 ?_
          refine lv_goto (tgt := 120) hx hb dX16_comes_116 (by decide) ?_
          exact (db_X16_comes_120 C K) (((sR s0.1 28 (Int32.toNatClampNeg (sR s0.1 20 (Int32.toNatClampNeg v0)))) - (sR s0.1 21 (Int32.toNatClampNeg v0)))) s0 _ _ _ h hP hD hS (lv_sub hl [] rfl)
      · have h := nd_neg h c13
        refine lv_iconst (v := 0) hx hb dX16_comes_72 (by decide) ?_
        refine lv_goto (tgt := 120) hx hb dX16_comes_73 (by decide) ?_
        exact (db_X16_comes_120 C K) (0) s0 _ _ _ h hP hD hS (lv_sub hl [] rfl)
  · have h := nd_pos h c2
    refine lv_aload_n hx hb dX16_comes_10 rfl (lv_at hl 0 rfl) ?_
    refine va_get (D := (dC, dI)) (ci := 17) (v := .ref (a 28)) (C := RX16) (T := TX16) (N := 56) hx hb hts hi_dm_X16_comes_X16 hown hK hP 0 rfl rfl 37 (by decide) (hts (.fieldLink RX16 94 "TimeMachineModel$Machine" "piped" "[I") (List.mem_of_getElem? (i := 7) rfl)) (fun _ h9 => h9) rfl dX16_comes_11 ?_
    refine lv_aload_n hx hb dX16_comes_14 rfl (lv_at hl 0 rfl) ?_
    refine va_get (D := (dC, dI)) (ci := 17) (v := .ref (a 22)) (C := RX16) (T := TX16) (N := 56) hx hb hts hi_dm_X16_comes_X16 hown hK hP 0 rfl rfl 31 (by decide) (hts (.fieldLink RX16 76 "TimeMachineModel$Machine" "thing" "[I") (List.mem_of_getElem? (i := 5) rfl)) (fun _ h9 => h9) rfl dX16_comes_15 ?_
    refine lv_iload_n hx hb dX16_comes_18 rfl (lv_at hl 1 rfl) ?_
    obtain ⟨i21, h⟩ := nd_ck_e h
    refine va_iald (i := v0) hx hb hK hP 22 21 rfl rfl i21 dX16_comes_19 ?_
    obtain ⟨i22, h⟩ := nd_ck_e h
    refine va_iald (i := (sR s0.1 20 (Int32.toNatClampNeg v0))) hx hb hK hP 28 27 rfl rfl i22 dX16_comes_20 ?_
    refine lv_iload_n hx hb dX16_comes_21 rfl (lv_at hl 2 rfl) ?_
    refine lv_icmp_ge (tgt := 39) hx hb dX16_comes_22 (by decide) (fun c23 => ?_) (fun c23 => ?_)
    · have h := nd_pos h c23
      refine lv_iload_n hx hb dX16_comes_39 rfl (lv_at hl 2 rfl) ?_
      exact (db_X16_comes_40 C K) (v1) s0 _ _ _ h hP hD hS (lv_sub hl [] rfl)
    · have h := nd_neg h c23
      refine lv_aload_n hx hb dX16_comes_25 rfl (lv_at hl 0 rfl) ?_
      refine va_get (D := (dC, dI)) (ci := 17) (v := .ref (a 28)) (C := RX16) (T := TX16) (N := 56) hx hb hts hi_dm_X16_comes_X16 hown hK hP 0 rfl rfl 37 (by decide) (hts (.fieldLink RX16 94 "TimeMachineModel$Machine" "piped" "[I") (List.mem_of_getElem? (i := 7) rfl)) (fun _ h9 => h9) rfl dX16_comes_26 ?_
      refine lv_aload_n hx hb dX16_comes_29 rfl (lv_at hl 0 rfl) ?_
      refine va_get (D := (dC, dI)) (ci := 17) (v := .ref (a 22)) (C := RX16) (T := TX16) (N := 56) hx hb hts hi_dm_X16_comes_X16 hown hK hP 0 rfl rfl 31 (by decide) (hts (.fieldLink RX16 76 "TimeMachineModel$Machine" "thing" "[I") (List.mem_of_getElem? (i := 5) rfl)) (fun _ h9 => h9) rfl dX16_comes_30 ?_
      refine lv_iload_n hx hb dX16_comes_33 rfl (lv_at hl 1 rfl) ?_
      obtain ⟨i24, h⟩ := nd_ck_e h
      refine va_iald (i := v0) hx hb hK hP 22 21 rfl rfl i24 dX16_comes_34 ?_
      obtain ⟨i25, h⟩ := nd_ck_e h
      refine va_iald (i := (sR s0.1 20 (Int32.toNatClampNeg v0))) hx hb hK hP 28 27 rfl rfl i25 dX16_comes_35 ?_
      refine lv_goto (tgt := 40) hx hb dX16_comes_36 (by decide) ?_
      exact (db_X16_comes_40 C K) ((sR s0.1 26 (Int32.toNatClampNeg (sR s0.1 20 (Int32.toNatClampNeg v0))))) s0 _ _ _ h hP hD hS (lv_sub hl [] rfl)
set_option maxHeartbeats 40000000 in
set_option maxRecDepth 100000 in
theorem dm_X16_comes (l : Launch) (hlt : l.stackTraces = false) (dC : Nat → ClassId) (dI : Nat → Nat → Nat) (a : Nat → Nat) (ac : Nat → ClassId) (n : Nat) (v0 : Int32) (v1 : Int32) (s0 : St × (St)) {r : Int32 × (St × (St))} (h : df_X16_comes n v0 v1 s0 = some r) (sz : Nat) : Met l yX16_comes ow_dm_X16_comes ({ frames := 0, cells := 0, slots := 0, locals := 0 }) (va_Pc [.ref (a 0), .int v0, .int v1] (fun U => U.heap.size = sz ∧ va_P (dC, dI) vwCl (dw_X16 a ac s0) U.heap ∧ va_K (dC, dI) vwCl (dk_X16 ac) U ∧ va_D (fun _ => True) (dw_X16 a ac s0) ∧ nv_E dI (va_A (dw_X16 a ac s0) sz) U)) (va_Qi (fun x _ => x = r.1) (fun (_ : Unit) t => va_P (dC, dI) vwCl (dw_X16 a ac r.2) t.heap ∧ va_K (dC, dI) vwCl (dk_X16 ac) t ∧ va_D (va_A (dw_X16 a ac s0) sz) (dw_X16 a ac r.2)) (va_A (dw_X16 a ac s0) sz)) 0 0 (va_A (dw_X16 a ac s0) sz) := by
  refine Met.ofW (cc := cX16_comes) (maxL := 4) (ret := (some .int)) (by decide) rfl ?_
  intro p e s m args below meth c s₁ B hml hv
  obtain ⟨rfl, hsz, hP, hK, hD0, hN⟩ := hv
  have hx := B.exec
  have hb := B.bytes
  have hr := B.returns
  have hts := atoms_spec (ws := ow_dm_X16_comes) B.pre
  have hown : s.vm.findClass RX16 = some m.cls := findClass_of_methodNamed B.named
  have hlocks := B.notSynchronized
  subst hsz
  have hD := hD0.self (sz := s.heap.size)
  generalize hAe : va_A (dw_X16 a ac s0) s.heap.size = A at hD hN ⊢
  have hA : ∀ q : Nat, s.heap.size ≤ q → A q := fun q h => by rw [← hAe]; exact Or.inr h
  have hl := lv_entry ([.ref (a 0), .int v0, .int v1]) (n := 4) (Nat.le_of_ble_eq_true rfl)
  rw [lg_entry_eq]
  generalize (lg_sl ([.ref (a 0), .int v0, .int v1]) ++ List.replicate (4 - (lg_sl ([.ref (a 0), .int v0, .int v1])).length) Slot.unset).toArray = ls at hl ⊢
  have hl : lv_has ls 4 [(0, .ref (a 0)), (1, .int v0), (2, .int v1)] := hl
  exact db_X16_comes_0 (dC := dC) (dI := dI) (a := a) (ac := ac) (n := n) (r := r) ⟨hlt, hx, hb, hml, hown, hts, hN, hA, hK⟩ (fun pc v τ H locs ls d z er hP hD hS => by subst er; exact W.zret (v := v) hx hb hr z (fun t ht hW => ⟨⟨v, (), rfl, rfl, by rw [ht]; exact hP, va_K.moved hW.alike hK, hD⟩, hS.F ht⟩) hS.2.2 d) v0 v1 s0 _ _ _ h hP hD va_S.rf (lv_sub hl [0, 1, 2] rfl)
def ow_dm_X16_read : List Cond := Cond.code yX16_read cX16_read 9 (some .int) :: ([Cond.fieldLink RX16 232 "TimeMachineModel$Machine" "p" "I", Cond.methodLink RX16 478 yX16_mayAll, Cond.instanceMethod yX16_mayAll, Cond.selects RX16 yX16_mayAll yX16_mayAll, Cond.initialized RX16, Cond.methodLink RX16 491 yX16_openingOf, Cond.instanceMethod yX16_openingOf, Cond.selects RX16 yX16_openingOf yX16_openingOf, Cond.fieldLink RX16 82 "TimeMachineModel$Machine" "right" "[I", Cond.methodLink RX16 264 yX16_waits, Cond.instanceMethod yX16_waits, Cond.selects RX16 yX16_waits yX16_waits, Cond.methodLink RX16 494 yX16_comes, Cond.instanceMethod yX16_comes, Cond.selects RX16 yX16_comes yX16_comes, Cond.methodLink RX16 394 yX16_wanted, Cond.instanceMethod yX16_wanted, Cond.selects RX16 yX16_wanted yX16_wanted, Cond.methodLink RX16 397 yX16_hasFrames, Cond.instanceMethod yX16_hasFrames, Cond.selects RX16 yX16_hasFrames yX16_hasFrames, Cond.fieldLink RX16 76 "TimeMachineModel$Machine" "thing" "[I", Cond.fieldLink RX16 73 "TimeMachineModel$Machine" "kind" "[I", Cond.fieldLink RX16 122 "TimeMachineModel$Machine" "typed" "I", Cond.fieldLink RX16 109 "TimeMachineModel$Machine" "typedBytes" "[I", Cond.fieldLink RX16 79 "TimeMachineModel$Machine" "position" "[I", Cond.fieldLink RX16 94 "TimeMachineModel$Machine" "piped" "[I", Cond.fieldLink RX16 97 "TimeMachineModel$Machine" "pipeBytes" "[I", Cond.methodLink RX16 400 yX16_write, Cond.instanceMethod yX16_write, Cond.selects RX16 yX16_write yX16_write, Cond.fieldLink RX16 103 "TimeMachineModel$Machine" "fileBytes" "[I", Cond.methodLink RX16 415 yX16_tell, Cond.instanceMethod yX16_tell, Cond.selects RX16 yX16_tell yX16_tell] ++ (u_ws RX16 TX16 56 ++ (ow_dm_X16_mayAll ++ (ow_dm_X16_openingOf ++ (ow_dm_X16_waits ++ (ow_dm_X16_comes ++ (ow_dm_X16_wanted ++ (ow_dm_X16_hasFrames ++ (ow_dm_X16_write ++ (ow_dm_X16_tell ++ []))))))))))
theorem gd_dm_X16_read : ∀ w ∈ ow_dm_X16_read, (w.onTables && w.keeps) = true ∨ ∃ ty, w = Cond.arrayClass ty := List.forall_mem_cons.mpr ⟨good_of_word rfl, List.forall_mem_append.mpr ⟨fun w h => good_of_word (List.all_eq_true.mp (by decide +kernel) w h), List.forall_mem_append.mpr ⟨gu_X16, List.forall_mem_append.mpr ⟨gd_dm_X16_mayAll, List.forall_mem_append.mpr ⟨gd_dm_X16_openingOf, List.forall_mem_append.mpr ⟨gd_dm_X16_waits, List.forall_mem_append.mpr ⟨gd_dm_X16_comes, List.forall_mem_append.mpr ⟨gd_dm_X16_wanted, List.forall_mem_append.mpr ⟨gd_dm_X16_hasFrames, List.forall_mem_append.mpr ⟨gd_dm_X16_write, List.forall_mem_append.mpr ⟨gd_dm_X16_tell, fun _ h => nomatch h⟩⟩⟩⟩⟩⟩⟩⟩⟩⟩⟩
theorem hi_dm_X16_read_X16 : ∀ w ∈ u_ws RX16 TX16 56, w ∈ ow_dm_X16_read := fun w h => List.mem_cons_of_mem _ (List.mem_append_right _ (List.mem_append_left _ h))
theorem gi_dm_X16_read_0 : GoodIn ow_dm_X16_read (wsV RX16 478 RX16 yX16_mayAll ow_dm_X16_mayAll) := goodIn_app (goodIn_of _ (by decide +kernel)) (fun w h => ⟨List.mem_cons_of_mem _ (List.mem_append_right _ (List.mem_append_right _ (List.mem_append_left _ h))), gd_dm_X16_mayAll w h⟩)
theorem gi_dm_X16_read_1 : GoodIn ow_dm_X16_read (wsV RX16 491 RX16 yX16_openingOf ow_dm_X16_openingOf) := goodIn_app (goodIn_of _ (by decide +kernel)) (fun w h => ⟨List.mem_cons_of_mem _ (List.mem_append_right _ (List.mem_append_right _ (List.mem_append_right _ (List.mem_append_left _ h)))), gd_dm_X16_openingOf w h⟩)
theorem gi_dm_X16_read_2 : GoodIn ow_dm_X16_read (wsV RX16 264 RX16 yX16_waits ow_dm_X16_waits) := goodIn_app (goodIn_of _ (by decide +kernel)) (fun w h => ⟨List.mem_cons_of_mem _ (List.mem_append_right _ (List.mem_append_right _ (List.mem_append_right _ (List.mem_append_right _ (List.mem_append_left _ h))))), gd_dm_X16_waits w h⟩)
theorem gi_dm_X16_read_3 : GoodIn ow_dm_X16_read (wsV RX16 494 RX16 yX16_comes ow_dm_X16_comes) := goodIn_app (goodIn_of _ (by decide +kernel)) (fun w h => ⟨List.mem_cons_of_mem _ (List.mem_append_right _ (List.mem_append_right _ (List.mem_append_right _ (List.mem_append_right _ (List.mem_append_right _ (List.mem_append_left _ h)))))), gd_dm_X16_comes w h⟩)
theorem gi_dm_X16_read_4 : GoodIn ow_dm_X16_read (wsV RX16 394 RX16 yX16_wanted ow_dm_X16_wanted) := goodIn_app (goodIn_of _ (by decide +kernel)) (fun w h => ⟨List.mem_cons_of_mem _ (List.mem_append_right _ (List.mem_append_right _ (List.mem_append_right _ (List.mem_append_right _ (List.mem_append_right _ (List.mem_append_right _ (List.mem_append_left _ h))))))), gd_dm_X16_wanted w h⟩)
theorem gi_dm_X16_read_5 : GoodIn ow_dm_X16_read (wsV RX16 397 RX16 yX16_hasFrames ow_dm_X16_hasFrames) := goodIn_app (goodIn_of _ (by decide +kernel)) (fun w h => ⟨List.mem_cons_of_mem _ (List.mem_append_right _ (List.mem_append_right _ (List.mem_append_right _ (List.mem_append_right _ (List.mem_append_right _ (List.mem_append_right _ (List.mem_append_right _ (List.mem_append_left _ h)))))))), gd_dm_X16_hasFrames w h⟩)
theorem gi_dm_X16_read_6 : GoodIn ow_dm_X16_read (wsV RX16 400 RX16 yX16_write ow_dm_X16_write) := goodIn_app (goodIn_of _ (by decide +kernel)) (fun w h => ⟨List.mem_cons_of_mem _ (List.mem_append_right _ (List.mem_append_right _ (List.mem_append_right _ (List.mem_append_right _ (List.mem_append_right _ (List.mem_append_right _ (List.mem_append_right _ (List.mem_append_right _ (List.mem_append_left _ h))))))))), gd_dm_X16_write w h⟩)
theorem gi_dm_X16_read_7 : GoodIn ow_dm_X16_read (wsV RX16 415 RX16 yX16_tell ow_dm_X16_tell) := goodIn_app (goodIn_of _ (by decide +kernel)) (fun w h => ⟨List.mem_cons_of_mem _ (List.mem_append_right _ (List.mem_append_right _ (List.mem_append_right _ (List.mem_append_right _ (List.mem_append_right _ (List.mem_append_right _ (List.mem_append_right _ (List.mem_append_right _ (List.mem_append_right _ (List.mem_append_left _ h)))))))))), gd_dm_X16_tell w h⟩)
def dj_X16_read_11 (p : Program) (l : Launch) (e : Env) (s : State) (m : MethodId) (args : Array Value) (below : List Frame) (meth : Method) (c : Code) (Q : State → Prop) (A : Nat → Prop) (dC : Nat → ClassId) (dI : Nat → Nat → Nat) (a : Nat → Nat) (ac : Nat → ClassId) (g : (St × (St)) → Option (Int32 × (St × (St)))) (r : Int32 × (St × (St))) : Prop := ∀ (s0 : St × (St)) (H : Heap) (locs : List Loc) (ls : Array Slot), g s0 = some r → va_P (dC, dI) vwCl (dw_X16 a ac s0) H → va_D A (dw_X16 a ac s0) → va_S A s.heap H locs → lv_has ls 9 [] → W p l e (headSpec ow_dm_X16_read ({ frames := 3, cells := 0, slots := 0, locals := 71 })).room s m args below meth c H locs 0 0 Q (F0 m 11 ls [])
def dj_X16_read_60 (p : Program) (l : Launch) (e : Env) (s : State) (m : MethodId) (args : Array Value) (below : List Frame) (meth : Method) (c : Code) (Q : State → Prop) (A : Nat → Prop) (dC : Nat → ClassId) (dI : Nat → Nat → Nat) (a : Nat → Nat) (ac : Nat → ClassId) (g : (St × (St)) → Option (Int32 × (St × (St)))) (r : Int32 × (St × (St))) : Prop := ∀ (s0 : St × (St)) (H : Heap) (locs : List Loc) (ls : Array Slot), g s0 = some r → va_P (dC, dI) vwCl (dw_X16 a ac s0) H → va_D A (dw_X16 a ac s0) → va_S A s.heap H locs → lv_has ls 9 [] → W p l e (headSpec ow_dm_X16_read ({ frames := 3, cells := 0, slots := 0, locals := 71 })).room s m args below meth c H locs 0 0 Q (F0 m 60 ls [])
def dj_X16_read_398 (p : Program) (l : Launch) (e : Env) (s : State) (m : MethodId) (args : Array Value) (below : List Frame) (meth : Method) (c : Code) (Q : State → Prop) (A : Nat → Prop) (dC : Nat → ClassId) (dI : Nat → Nat → Nat) (a : Nat → Nat) (ac : Nat → ClassId) (g : Int32 → (St × (St)) → Option (Int32 × (St × (St)))) (r : Int32 × (St × (St))) : Prop := ∀ (x5 : Int32) (s0 : St × (St)) (H : Heap) (locs : List Loc) (ls : Array Slot), g x5 s0 = some r → va_P (dC, dI) vwCl (dw_X16 a ac s0) H → va_D A (dw_X16 a ac s0) → va_S A s.heap H locs → lv_has ls 9 [(5, .int x5)] → W p l e (headSpec ow_dm_X16_read ({ frames := 3, cells := 0, slots := 0, locals := 71 })).room s m args below meth c H locs 0 0 Q (F0 m 398 ls [])
def dj_X16_read_355 (p : Program) (l : Launch) (e : Env) (s : State) (m : MethodId) (args : Array Value) (below : List Frame) (meth : Method) (c : Code) (Q : State → Prop) (A : Nat → Prop) (dC : Nat → ClassId) (dI : Nat → Nat → Nat) (a : Nat → Nat) (ac : Nat → ClassId) (g : Int32 → Int32 → Int32 → (St × (St)) → Option (Int32 × (St × (St)))) (r : Int32 × (St × (St))) : Prop := ∀ (x5 : Int32) (x7 : Int32) (x8 : Int32) (s0 : St × (St)) (H : Heap) (locs : List Loc) (ls : Array Slot), g x5 x7 x8 s0 = some r → va_P (dC, dI) vwCl (dw_X16 a ac s0) H → va_D A (dw_X16 a ac s0) → va_S A s.heap H locs → lv_has ls 9 [(0, .ref (a 0)), (5, .int x5), (7, .int x7), (8, .int x8)] → W p l e (headSpec ow_dm_X16_read ({ frames := 3, cells := 0, slots := 0, locals := 71 })).room s m args below meth c H locs 0 0 Q (F0 m 355 ls [])
def dj_X16_read_349 (p : Program) (l : Launch) (e : Env) (s : State) (m : MethodId) (args : Array Value) (below : List Frame) (meth : Method) (c : Code) (Q : State → Prop) (A : Nat → Prop) (dC : Nat → ClassId) (dI : Nat → Nat → Nat) (a : Nat → Nat) (ac : Nat → ClassId) (g : Int32 → Int32 → (St × (St)) → Option (Int32 × (St × (St)))) (r : Int32 × (St × (St))) : Prop := ∀ (x5 : Int32) (y0 : Int32) (s0 : St × (St)) (H : Heap) (locs : List Loc) (ls : Array Slot), g x5 y0 s0 = some r → va_P (dC, dI) vwCl (dw_X16 a ac s0) H → va_D A (dw_X16 a ac s0) → va_S A s.heap H locs → lv_has ls 9 [(0, .ref (a 0)), (5, .int x5)] → W p l e (headSpec ow_dm_X16_read ({ frames := 3, cells := 0, slots := 0, locals := 71 })).room s m args below meth c H locs 0 0 Q (F0 m 349 ls [.int y0])
def dj_X16_read_347 (p : Program) (l : Launch) (e : Env) (s : State) (m : MethodId) (args : Array Value) (below : List Frame) (meth : Method) (c : Code) (Q : State → Prop) (A : Nat → Prop) (dC : Nat → ClassId) (dI : Nat → Nat → Nat) (a : Nat → Nat) (ac : Nat → ClassId) (g : Int32 → (St × (St)) → Option (Int32 × (St × (St)))) (r : Int32 × (St × (St))) : Prop := ∀ (x5 : Int32) (s0 : St × (St)) (H : Heap) (locs : List Loc) (ls : Array Slot), g x5 s0 = some r → va_P (dC, dI) vwCl (dw_X16 a ac s0) H → va_D A (dw_X16 a ac s0) → va_S A s.heap H locs → lv_has ls 9 [(0, .ref (a 0)), (5, .int x5)] → W p l e (headSpec ow_dm_X16_read ({ frames := 3, cells := 0, slots := 0, locals := 71 })).room s m args below meth c H locs 0 0 Q (F0 m 347 ls [])
def dj_X16_read_235 (p : Program) (l : Launch) (e : Env) (s : State) (m : MethodId) (args : Array Value) (below : List Frame) (meth : Method) (c : Code) (Q : State → Prop) (A : Nat → Prop) (dC : Nat → ClassId) (dI : Nat → Nat → Nat) (a : Nat → Nat) (ac : Nat → ClassId) (g : Int32 → Int32 → Int32 → (St × (St)) → Option (Int32 × (St × (St)))) (r : Int32 × (St × (St))) : Prop := ∀ (x5 : Int32) (x6 : Int32) (x7 : Int32) (s0 : St × (St)) (H : Heap) (locs : List Loc) (ls : Array Slot), g x5 x6 x7 s0 = some r → va_P (dC, dI) vwCl (dw_X16 a ac s0) H → va_D A (dw_X16 a ac s0) → va_S A s.heap H locs → lv_has ls 9 [(0, .ref (a 0)), (5, .int x5), (6, .int x6), (7, .int x7)] → W p l e (headSpec ow_dm_X16_read ({ frames := 3, cells := 0, slots := 0, locals := 71 })).room s m args below meth c H locs 0 0 Q (F0 m 235 ls [])
def dj_X16_read_211 (p : Program) (l : Launch) (e : Env) (s : State) (m : MethodId) (args : Array Value) (below : List Frame) (meth : Method) (c : Code) (Q : State → Prop) (A : Nat → Prop) (dC : Nat → ClassId) (dI : Nat → Nat → Nat) (a : Nat → Nat) (ac : Nat → ClassId) (g : Int32 → Int32 → Int32 → Int32 → Int32 → Int32 → Int32 → Int32 → Int32 → (St × (St)) → Option (Int32 × (St × (St)))) (r : Int32 × (St × (St))) : Prop := ∀ (x2 : Int32) (x3 : Int32) (x4 : Int32) (x5 : Int32) (x6 : Int32) (x7 : Int32) (y1 : Int32) (y2 : Int32) (y3 : Int32) (s0 : St × (St)) (H : Heap) (locs : List Loc) (ls : Array Slot), g x2 x3 x4 x5 x6 x7 y1 y2 y3 s0 = some r → va_P (dC, dI) vwCl (dw_X16 a ac s0) H → va_D A (dw_X16 a ac s0) → va_S A s.heap H locs → lv_has ls 9 [(0, .ref (a 0)), (2, .int x2), (3, .int x3), (4, .int x4), (5, .int x5), (6, .int x6), (7, .int x7)] → W p l e (headSpec ow_dm_X16_read ({ frames := 3, cells := 0, slots := 0, locals := 71 })).room s m args below meth c H locs 0 0 Q (F0 m 211 ls [.int y3, .int y2, .int y1, .ref (a 0)])
def dj_X16_read_124 (p : Program) (l : Launch) (e : Env) (s : State) (m : MethodId) (args : Array Value) (below : List Frame) (meth : Method) (c : Code) (Q : State → Prop) (A : Nat → Prop) (dC : Nat → ClassId) (dI : Nat → Nat → Nat) (a : Nat → Nat) (ac : Nat → ClassId) (g : Int32 → Int32 → Int32 → Int32 → Int32 → Int32 → (St × (St)) → Option (Int32 × (St × (St)))) (r : Int32 × (St × (St))) : Prop := ∀ (x2 : Int32) (x3 : Int32) (x4 : Int32) (x5 : Int32) (x6 : Int32) (x7 : Int32) (s0 : St × (St)) (H : Heap) (locs : List Loc) (ls : Array Slot), g x2 x3 x4 x5 x6 x7 s0 = some r → va_P (dC, dI) vwCl (dw_X16 a ac s0) H → va_D A (dw_X16 a ac s0) → va_S A s.heap H locs → lv_has ls 9 [(0, .ref (a 0)), (2, .int x2), (3, .int x3), (4, .int x4), (5, .int x5), (6, .int x6), (7, .int x7)] → W p l e (headSpec ow_dm_X16_read ({ frames := 3, cells := 0, slots := 0, locals := 71 })).room s m args below meth c H locs 0 0 Q (F0 m 124 ls [])
def dj_X16_read_0 (p : Program) (l : Launch) (e : Env) (s : State) (m : MethodId) (args : Array Value) (below : List Frame) (meth : Method) (c : Code) (Q : State → Prop) (A : Nat → Prop) (dC : Nat → ClassId) (dI : Nat → Nat → Nat) (a : Nat → Nat) (ac : Nat → ClassId) (g : Int32 → Int32 → Int32 → (St × (St)) → Option (Int32 × (St × (St)))) (r : Int32 × (St × (St))) : Prop := ∀ (v0 : Int32) (v1 : Int32) (v2 : Int32) (s0 : St × (St)) (H : Heap) (locs : List Loc) (ls : Array Slot), g v0 v1 v2 s0 = some r → va_P (dC, dI) vwCl (dw_X16 a ac s0) H → va_D A (dw_X16 a ac s0) → va_S A s.heap H locs → lv_has ls 9 [(0, .ref (a 0)), (1, .int v0), (2, .int v1), (3, .int v2)] → W p l e (headSpec ow_dm_X16_read ({ frames := 3, cells := 0, slots := 0, locals := 71 })).room s m args below meth c H locs 0 0 Q (F0 m 0 ls [])
set_option maxHeartbeats 40000000 in
set_option maxRecDepth 100000 in
theorem db_X16_read_11 {p : Program} {l : Launch} {e : Env} {s : State} {m : MethodId} {args : Array Value} {below : List Frame} {meth : Method} {c : Code} {Q : State → Prop} {A : Nat → Prop} {dC : Nat → ClassId} {dI : Nat → Nat → Nat} {a : Nat → Nat} {ac : Nat → ClassId} {n : Nat} {r : Int32 × (St × (St))} (C : nd_C p l s m args c A (dC, dI) cX16_read 9 RX16 ow_dm_X16_read (dk_X16 ac)) (K : nd_Ki p l e (headSpec ow_dm_X16_read ({ frames := 3, cells := 0, slots := 0, locals := 71 })).room s m args below meth c Q A (dC, dI) cX16_read .int (St × (St)) (dw_X16 a ac) r) : dj_X16_read_11 p l e s m args below meth c Q A dC dI a ac (df_X16_read_11 n) r := by
  obtain ⟨hlt, hx, hb, hml, hown, hts, hN, hA, hK⟩ := id C
  intro s0 H locs ls h hP hD hS hl
  unfold df_X16_read_11 at h
  refine lv_bipush (v := (-22)) hx hb dX16_read_11 (by decide) ?_
  exact K _ _ _ _ _ _ dX16_read_13 rfl (Option.some.inj h).symm hP hD hS
set_option maxHeartbeats 40000000 in
set_option maxRecDepth 100000 in
theorem db_X16_read_60 {p : Program} {l : Launch} {e : Env} {s : State} {m : MethodId} {args : Array Value} {below : List Frame} {meth : Method} {c : Code} {Q : State → Prop} {A : Nat → Prop} {dC : Nat → ClassId} {dI : Nat → Nat → Nat} {a : Nat → Nat} {ac : Nat → ClassId} {n : Nat} {r : Int32 × (St × (St))} (C : nd_C p l s m args c A (dC, dI) cX16_read 9 RX16 ow_dm_X16_read (dk_X16 ac)) (K : nd_Ki p l e (headSpec ow_dm_X16_read ({ frames := 3, cells := 0, slots := 0, locals := 71 })).room s m args below meth c Q A (dC, dI) cX16_read .int (St × (St)) (dw_X16 a ac) r) : dj_X16_read_60 p l e s m args below meth c Q A dC dI a ac (df_X16_read_60 n) r := by
  obtain ⟨hlt, hx, hb, hml, hown, hts, hN, hA, hK⟩ := id C
  intro s0 H locs ls h hP hD hS hl
  unfold df_X16_read_60 at h
  refine lv_iconst (v := (-1)) hx hb dX16_read_60 (by decide) ?_
  exact K _ _ _ _ _ _ dX16_read_61 rfl (Option.some.inj h).symm hP hD hS
set_option maxHeartbeats 40000000 in
set_option maxRecDepth 100000 in
theorem db_X16_read_398 {p : Program} {l : Launch} {e : Env} {s : State} {m : MethodId} {args : Array Value} {below : List Frame} {meth : Method} {c : Code} {Q : State → Prop} {A : Nat → Prop} {dC : Nat → ClassId} {dI : Nat → Nat → Nat} {a : Nat → Nat} {ac : Nat → ClassId} {n : Nat} {r : Int32 × (St × (St))} (C : nd_C p l s m args c A (dC, dI) cX16_read 9 RX16 ow_dm_X16_read (dk_X16 ac)) (K : nd_Ki p l e (headSpec ow_dm_X16_read ({ frames := 3, cells := 0, slots := 0, locals := 71 })).room s m args below meth c Q A (dC, dI) cX16_read .int (St × (St)) (dw_X16 a ac) r) : dj_X16_read_398 p l e s m args below meth c Q A dC dI a ac (df_X16_read_398 n) r := by
  obtain ⟨hlt, hx, hb, hml, hown, hts, hN, hA, hK⟩ := id C
  intro x5 s0 H locs ls h hP hD hS hl
  unfold df_X16_read_398 at h
  refine lv_iload hx hb dX16_read_398 (lv_at hl 0 rfl) ?_
  exact K _ _ _ _ _ _ dX16_read_400 rfl (Option.some.inj h).symm hP hD hS
set_option maxHeartbeats 40000000 in
set_option maxRecDepth 100000 in
theorem dB_X16_read_355 {p : Program} {l : Launch} {e : Env} {s : State} {m : MethodId} {args : Array Value} {below : List Frame} {meth : Method} {c : Code} {Q : State → Prop} {A : Nat → Prop} {dC : Nat → ClassId} {dI : Nat → Nat → Nat} {a : Nat → Nat} {ac : Nat → ClassId} {n : Nat} {r : Int32 × (St × (St))} (C : nd_C p l s m args c A (dC, dI) cX16_read 9 RX16 ow_dm_X16_read (dk_X16 ac)) (K : nd_Ki p l e (headSpec ow_dm_X16_read ({ frames := 3, cells := 0, slots := 0, locals := 71 })).room s m args below meth c Q A (dC, dI) cX16_read .int (St × (St)) (dw_X16 a ac) r) {g355 : Int32 → Int32 → Int32 → (St × (St)) → Option (Int32 × (St × (St)))} (J355 : dj_X16_read_355 p l e s m args below meth c Q A dC dI a ac g355 r) : dj_X16_read_355 p l e s m args below meth c Q A dC dI a ac (dF_X16_read_355 n g355) r := by
  obtain ⟨hlt, hx, hb, hml, hown, hts, hN, hA, hK⟩ := id C
  intro x5 x7 x8 s0 H locs ls h hP hD hS hl
  unfold dF_X16_read_355 at h
  refine lv_iload hx hb dX16_read_355 (lv_at hl 3 rfl) ?_
  refine lv_aload_n hx hb dX16_read_357 rfl (lv_at hl 0 rfl) ?_
  refine va_get (D := (dC, dI)) (ci := 17) (v := .int (sI s0.1 7)) (C := RX16) (T := TX16) (N := 56) hx hb hts hi_dm_X16_read_X16 hown hK hP 0 rfl rfl 42 (by decide) (hts (.fieldLink RX16 122 "TimeMachineModel$Machine" "typed" "I") (List.mem_of_getElem? (i := 24) rfl)) (fun _ h9 => h9) rfl dX16_read_358 ?_
  refine lv_icmp_ge (tgt := 387) hx hb dX16_read_361 (by decide) (fun c35 => ?_) (fun c35 => ?_)
  · have h := nd_pos h c35
    refine lv_aload_n hx hb dX16_read_387 rfl (lv_at hl 0 rfl) ?_
    refine lv_dup hx hb dX16_read_388 rfl ?_
    refine va_get (D := (dC, dI)) (ci := 17) (v := .int (sI s0.1 7)) (C := RX16) (T := TX16) (N := 56) hx hb hts hi_dm_X16_read_X16 hown hK hP 0 rfl rfl 42 (by decide) (hts (.fieldLink RX16 122 "TimeMachineModel$Machine" "typed" "I") (List.mem_of_getElem? (i := 24) rfl)) (fun _ h9 => h9) rfl dX16_read_389 ?_
    refine lv_iload hx hb dX16_read_392 (lv_at hl 2 rfl) ?_
    refine lv_isub hx hb dX16_read_394 ?_
    refine va_put (D := (dC, dI)) (ci := 17) (v := .int ((sI s0.1 7) - x7)) (ty := .int) (C := RX16) (T := TX16) (N := 56) hx hb hts hi_dm_X16_read_X16 tyX16 tyX16_ok nmX16 hown hK hP hD hS 0 rfl rfl 42 (by decide) (hts (.fieldLink RX16 122 "TimeMachineModel$Machine" "typed" "I") (List.mem_of_getElem? (i := 24) rfl)) (fun _ h9 => h9) rfl (by decide +kernel) rfl rfl (Nat.le_of_ble_eq_true rfl) dX16_read_395 (fun H locs hP hD hS => ?_)
    obtain ⟨s36, es36, h⟩ := nd_let_e h
    have hP : va_P (dC, dI) vwCl (dw_X16 a ac s36) H := by rw [es36]; exact hP
    have hD : va_D A (dw_X16 a ac s36) := by rw [es36]; exact hD
    exact (db_X16_read_398 C K) (x5) s36 _ _ _ h hP hD hS (lv_sub hl [1] rfl)
  · have h := nd_neg h c35
    refine lv_aload_n hx hb dX16_read_364 rfl (lv_at hl 0 rfl) ?_
    refine va_get (D := (dC, dI)) (ci := 17) (v := .ref (a 33)) (C := RX16) (T := TX16) (N := 56) hx hb hts hi_dm_X16_read_X16 hown hK hP 0 rfl rfl 43 (by decide) (hts (.fieldLink RX16 109 "TimeMachineModel$Machine" "typedBytes" "[I") (List.mem_of_getElem? (i := 25) rfl)) (fun _ h9 => h9) rfl dX16_read_365 ?_
    refine lv_iload hx hb dX16_read_368 (lv_at hl 3 rfl) ?_
    refine lv_iload hx hb dX16_read_370 (lv_at hl 2 rfl) ?_
    refine lv_isub hx hb dX16_read_372 ?_
    refine lv_aload_n hx hb dX16_read_373 rfl (lv_at hl 0 rfl) ?_
    refine va_get (D := (dC, dI)) (ci := 17) (v := .ref (a 33)) (C := RX16) (T := TX16) (N := 56) hx hb hts hi_dm_X16_read_X16 hown hK hP 0 rfl rfl 43 (by decide) (hts (.fieldLink RX16 109 "TimeMachineModel$Machine" "typedBytes" "[I") (List.mem_of_getElem? (i := 25) rfl)) (fun _ h9 => h9) rfl dX16_read_374 ?_
    refine lv_iload hx hb dX16_read_377 (lv_at hl 3 rfl) ?_
    obtain ⟨i37, h⟩ := nd_ck_e h
    refine va_iald (i := x8) hx hb hK hP 33 32 rfl rfl i37 dX16_read_379 ?_
    obtain ⟨i38, h⟩ := nd_ck_e h
    refine va_iast (i := (x8 - x7)) (x := (sR s0.1 31 (Int32.toNatClampNeg x8))) hx hb hK hP hD hS 33 32 rfl rfl i38 dX16_read_380 (fun H locs hP hD hS => ?_)
    obtain ⟨s39, es39, h⟩ := nd_let_e h
    have hP : va_P (dC, dI) vwCl (dw_X16 a ac s39) H := by rw [es39]; exact hP
    have hD : va_D A (dw_X16 a ac s39) := by rw [es39]; exact hD
    obtain ⟨z40, ez40, h⟩ := nd_let_e h
    refine lv_iinc (v := z40) (lv' := [(8, .int z40), (0, .ref (a 0)), (5, .int x5), (7, .int x7)]) hx hb dX16_read_381 hl (k := 3) rfl (by rw [ez40]) (by decide) rfl (fun ls hl => ?_)
    refine lv_goto (tgt := 355) hx hb dX16_read_384 (by decide) ?_
    exact (J355) (x5) (x7) (z40) s39 _ _ _ h hP hD hS (lv_sub hl [1, 2, 3, 0] rfl)
set_option maxHeartbeats 40000000 in
set_option maxRecDepth 100000 in
theorem db_X16_read_355 {p : Program} {l : Launch} {e : Env} {s : State} {m : MethodId} {args : Array Value} {below : List Frame} {meth : Method} {c : Code} {Q : State → Prop} {A : Nat → Prop} {dC : Nat → ClassId} {dI : Nat → Nat → Nat} {a : Nat → Nat} {ac : Nat → ClassId} {n : Nat} {r : Int32 × (St × (St))} (C : nd_C p l s m args c A (dC, dI) cX16_read 9 RX16 ow_dm_X16_read (dk_X16 ac)) (K : nd_Ki p l e (headSpec ow_dm_X16_read ({ frames := 3, cells := 0, slots := 0, locals := 71 })).room s m args below meth c Q A (dC, dI) cX16_read .int (St × (St)) (dw_X16 a ac) r) (k : Nat) : dj_X16_read_355 p l e s m args below meth c Q A dC dI a ac (df_X16_read_355 n k) r := by
  induction k with
  | zero => intro x5 x7 x8 s0 H locs ls h; exact nomatch (show (none : Option (Int32 × (St × (St)))) = some r from h)
  | succ k ih => exact dB_X16_read_355 C K ih
set_option maxHeartbeats 40000000 in
set_option maxRecDepth 100000 in
theorem db_X16_read_349 {p : Program} {l : Launch} {e : Env} {s : State} {m : MethodId} {args : Array Value} {below : List Frame} {meth : Method} {c : Code} {Q : State → Prop} {A : Nat → Prop} {dC : Nat → ClassId} {dI : Nat → Nat → Nat} {a : Nat → Nat} {ac : Nat → ClassId} {n : Nat} {r : Int32 × (St × (St))} (C : nd_C p l s m args c A (dC, dI) cX16_read 9 RX16 ow_dm_X16_read (dk_X16 ac)) (K : nd_Ki p l e (headSpec ow_dm_X16_read ({ frames := 3, cells := 0, slots := 0, locals := 71 })).room s m args below meth c Q A (dC, dI) cX16_read .int (St × (St)) (dw_X16 a ac) r) : dj_X16_read_349 p l e s m args below meth c Q A dC dI a ac (df_X16_read_349 n) r := by
  obtain ⟨hlt, hx, hb, hml, hown, hts, hN, hA, hK⟩ := id C
  intro x5 y0 s0 H locs ls h hP hD hS hl
  unfold df_X16_read_349 at h
  refine lv_istore (lv' := [(7, .int y0), (0, .ref (a 0)), (5, .int x5)]) hx hb dX16_read_349 hl (by decide) rfl (fun ls hl => ?_)
  refine lv_iload hx hb dX16_read_351 (lv_at hl 0 rfl) ?_
  refine lv_istore (lv' := [(8, .int y0), (7, .int y0), (0, .ref (a 0)), (5, .int x5)]) hx hb dX16_read_353 hl (by decide) rfl (fun ls hl => ?_)
  exact (db_X16_read_355 C K n) (x5) (y0) (y0) s0 _ _ _ h hP hD hS (lv_sub hl [2, 3, 1, 0] rfl)
set_option maxHeartbeats 40000000 in
set_option maxRecDepth 100000 in
theorem db_X16_read_347 {p : Program} {l : Launch} {e : Env} {s : State} {m : MethodId} {args : Array Value} {below : List Frame} {meth : Method} {c : Code} {Q : State → Prop} {A : Nat → Prop} {dC : Nat → ClassId} {dI : Nat → Nat → Nat} {a : Nat → Nat} {ac : Nat → ClassId} {n : Nat} {r : Int32 × (St × (St))} (C : nd_C p l s m args c A (dC, dI) cX16_read 9 RX16 ow_dm_X16_read (dk_X16 ac)) (K : nd_Ki p l e (headSpec ow_dm_X16_read ({ frames := 3, cells := 0, slots := 0, locals := 71 })).room s m args below meth c Q A (dC, dI) cX16_read .int (St × (St)) (dw_X16 a ac) r) : dj_X16_read_347 p l e s m args below meth c Q A dC dI a ac (df_X16_read_347 n) r := by
  obtain ⟨hlt, hx, hb, hml, hown, hts, hN, hA, hK⟩ := id C
  intro x5 s0 H locs ls h hP hD hS hl
  unfold df_X16_read_347 at h
  refine lv_iload hx hb dX16_read_347 (lv_at hl 1 rfl) ?_
  exact (db_X16_read_349 C K) (x5) (x5) s0 _ _ _ h hP hD hS (lv_sub hl [0, 1] rfl)
set_option maxHeartbeats 40000000 in
set_option maxRecDepth 100000 in
theorem dB_X16_read_235 {p : Program} {l : Launch} {e : Env} {s : State} {m : MethodId} {args : Array Value} {below : List Frame} {meth : Method} {c : Code} {Q : State → Prop} {A : Nat → Prop} {dC : Nat → ClassId} {dI : Nat → Nat → Nat} {a : Nat → Nat} {ac : Nat → ClassId} {n : Nat} {r : Int32 × (St × (St))} (C : nd_C p l s m args c A (dC, dI) cX16_read 9 RX16 ow_dm_X16_read (dk_X16 ac)) (K : nd_Ki p l e (headSpec ow_dm_X16_read ({ frames := 3, cells := 0, slots := 0, locals := 71 })).room s m args below meth c Q A (dC, dI) cX16_read .int (St × (St)) (dw_X16 a ac) r) {g235 : Int32 → Int32 → Int32 → (St × (St)) → Option (Int32 × (St × (St)))} (J235 : dj_X16_read_235 p l e s m args below meth c Q A dC dI a ac g235 r) : dj_X16_read_235 p l e s m args below meth c Q A dC dI a ac (dF_X16_read_235 n g235) r := by
  obtain ⟨hlt, hx, hb, hml, hown, hts, hN, hA, hK⟩ := id C
  intro x5 x6 x7 s0 H locs ls h hP hD hS hl
  unfold dF_X16_read_235 at h
  refine lv_iload hx hb dX16_read_235 (lv_at hl 3 rfl) ?_
  refine lv_aload_n hx hb dX16_read_237 rfl (lv_at hl 0 rfl) ?_
  refine va_get (D := (dC, dI)) (ci := 17) (v := .ref (a 28)) (C := RX16) (T := TX16) (N := 56) hx hb hts hi_dm_X16_read_X16 hown hK hP 0 rfl rfl 37 (by decide) (hts (.fieldLink RX16 94 "TimeMachineModel$Machine" "piped" "[I") (List.mem_of_getElem? (i := 27) rfl)) (fun _ h9 => h9) rfl dX16_read_238 ?_
  refine lv_iload hx hb dX16_read_241 (lv_at hl 2 rfl) ?_
  obtain ⟨i45, h⟩ := nd_ck_e h
  refine va_iald (i := x6) hx hb hK hP 28 27 rfl rfl i45 dX16_read_243 ?_
  refine lv_icmp_ge (tgt := 284) hx hb dX16_read_244 (by decide) (fun c46 => ?_) (fun c46 => ?_)
  · have h := nd_pos h c46
    refine lv_aload_n hx hb dX16_read_284 rfl (lv_at hl 0 rfl) ?_
    refine va_get (D := (dC, dI)) (ci := 17) (v := .ref (a 28)) (C := RX16) (T := TX16) (N := 56) hx hb hts hi_dm_X16_read_X16 hown hK hP 0 rfl rfl 37 (by decide) (hts (.fieldLink RX16 94 "TimeMachineModel$Machine" "piped" "[I") (List.mem_of_getElem? (i := 27) rfl)) (fun _ h9 => h9) rfl dX16_read_285 ?_
    refine lv_iload hx hb dX16_read_288 (lv_at hl 2 rfl) ?_
    refine lv_dup2_11 hx hb dX16_read_290 rfl rfl ?_
    obtain ⟨i47, h⟩ := nd_ck_e h
    refine va_iald (i := x6) hx hb hK hP 28 27 rfl rfl i47 dX16_read_291 ?_
    refine lv_iload hx hb dX16_read_292 (lv_at hl 1 rfl) ?_
    refine lv_isub hx hb dX16_read_294 ?_
    obtain ⟨i48, h⟩ := nd_ck_e h
    refine va_iast (i := x6) (x := ((sR s0.1 26 (Int32.toNatClampNeg x6)) - x5)) hx hb hK hP hD hS 28 27 rfl rfl i48 dX16_read_295 (fun H locs hP hD hS => ?_)
    obtain ⟨s49, es49, h⟩ := nd_let_e h
    have hP : va_P (dC, dI) vwCl (dw_X16 a ac s49) H := by rw [es49]; exact hP
    have hD : va_D A (dw_X16 a ac s49) := by rw [es49]; exact hD
    refine lv_goto (tgt := 398) hx hb dX16_read_296 (by decide) ?_
    exact (db_X16_read_398 C K) (x5) s49 _ _ _ h hP hD hS (lv_sub hl [1] rfl)
  · have h := nd_neg h c46
    refine lv_aload_n hx hb dX16_read_247 rfl (lv_at hl 0 rfl) ?_
    refine va_get (D := (dC, dI)) (ci := 17) (v := .ref (a 29)) (C := RX16) (T := TX16) (N := 56) hx hb hts hi_dm_X16_read_X16 hown hK hP 0 rfl rfl 38 (by decide) (hts (.fieldLink RX16 97 "TimeMachineModel$Machine" "pipeBytes" "[I") (List.mem_of_getElem? (i := 28) rfl)) (fun _ h9 => h9) rfl dX16_read_248 ?_
    refine lv_sipush (v := 512) hx hb dX16_read_251 (by decide) ?_
    refine lv_iload hx hb dX16_read_254 (lv_at hl 2 rfl) ?_
    refine lv_imul hx hb dX16_read_256 ?_
    refine lv_iload hx hb dX16_read_257 (lv_at hl 3 rfl) ?_
    refine lv_iadd hx hb dX16_read_259 ?_
    refine lv_iload hx hb dX16_read_260 (lv_at hl 1 rfl) ?_
    refine lv_isub hx hb dX16_read_262 ?_
    refine lv_aload_n hx hb dX16_read_263 rfl (lv_at hl 0 rfl) ?_
    refine va_get (D := (dC, dI)) (ci := 17) (v := .ref (a 29)) (C := RX16) (T := TX16) (N := 56) hx hb hts hi_dm_X16_read_X16 hown hK hP 0 rfl rfl 38 (by decide) (hts (.fieldLink RX16 97 "TimeMachineModel$Machine" "pipeBytes" "[I") (List.mem_of_getElem? (i := 28) rfl)) (fun _ h9 => h9) rfl dX16_read_264 ?_
    refine lv_sipush (v := 512) hx hb dX16_read_267 (by decide) ?_
    refine lv_iload hx hb dX16_read_270 (lv_at hl 2 rfl) ?_
    refine lv_imul hx hb dX16_read_272 ?_
    refine lv_iload hx hb dX16_read_273 (lv_at hl 3 rfl) ?_
    refine lv_iadd hx hb dX16_read_275 ?_
    obtain ⟨i50, h⟩ := nd_ck_e h
    refine va_iald (i := ((512 * x6) + x7)) hx hb hK hP 29 28 rfl rfl i50 dX16_read_276 ?_
    obtain ⟨i51, h⟩ := nd_ck_e h
    refine va_iast (i := (((512 * x6) + x7) - x5)) (x := (sR s0.1 27 (Int32.toNatClampNeg ((512 * x6) + x7)))) hx hb hK hP hD hS 29 28 rfl rfl i51 dX16_read_277 (fun H locs hP hD hS => ?_)
    obtain ⟨s52, es52, h⟩ := nd_let_e h
    have hP : va_P (dC, dI) vwCl (dw_X16 a ac s52) H := by rw [es52]; exact hP
    have hD : va_D A (dw_X16 a ac s52) := by rw [es52]; exact hD
    obtain ⟨z53, ez53, h⟩ := nd_let_e h
    refine lv_iinc (v := z53) (lv' := [(7, .int z53), (0, .ref (a 0)), (5, .int x5), (6, .int x6)]) hx hb dX16_read_278 hl (k := 3) rfl (by rw [ez53]) (by decide) rfl (fun ls hl => ?_)
    refine lv_goto (tgt := 235) hx hb dX16_read_281 (by decide) ?_
    exact (J235) (x5) (x6) (z53) s52 _ _ _ h hP hD hS (lv_sub hl [1, 2, 3, 0] rfl)
set_option maxHeartbeats 40000000 in
set_option maxRecDepth 100000 in
theorem db_X16_read_235 {p : Program} {l : Launch} {e : Env} {s : State} {m : MethodId} {args : Array Value} {below : List Frame} {meth : Method} {c : Code} {Q : State → Prop} {A : Nat → Prop} {dC : Nat → ClassId} {dI : Nat → Nat → Nat} {a : Nat → Nat} {ac : Nat → ClassId} {n : Nat} {r : Int32 × (St × (St))} (C : nd_C p l s m args c A (dC, dI) cX16_read 9 RX16 ow_dm_X16_read (dk_X16 ac)) (K : nd_Ki p l e (headSpec ow_dm_X16_read ({ frames := 3, cells := 0, slots := 0, locals := 71 })).room s m args below meth c Q A (dC, dI) cX16_read .int (St × (St)) (dw_X16 a ac) r) (k : Nat) : dj_X16_read_235 p l e s m args below meth c Q A dC dI a ac (df_X16_read_235 n k) r := by
  induction k with
  | zero => intro x5 x6 x7 s0 H locs ls h; exact nomatch (show (none : Option (Int32 × (St × (St)))) = some r from h)
  | succ k ih => exact dB_X16_read_235 C K ih
set_option maxHeartbeats 40000000 in
set_option maxRecDepth 100000 in
theorem db_X16_read_211 {p : Program} {l : Launch} {e : Env} {s : State} {m : MethodId} {args : Array Value} {below : List Frame} {meth : Method} {c : Code} {Q : State → Prop} {A : Nat → Prop} {dC : Nat → ClassId} {dI : Nat → Nat → Nat} {a : Nat → Nat} {ac : Nat → ClassId} {n : Nat} {r : Int32 × (St × (St))} (C : nd_C p l s m args c A (dC, dI) cX16_read 9 RX16 ow_dm_X16_read (dk_X16 ac)) (K : nd_Ki p l e (headSpec ow_dm_X16_read ({ frames := 3, cells := 0, slots := 0, locals := 71 })).room s m args below meth c Q A (dC, dI) cX16_read .int (St × (St)) (dw_X16 a ac) r) {g124 : Int32 → Int32 → Int32 → Int32 → Int32 → Int32 → (St × (St)) → Option (Int32 × (St × (St)))} (J124 : dj_X16_read_124 p l e s m args below meth c Q A dC dI a ac g124 r) : dj_X16_read_211 p l e s m args below meth c Q A dC dI a ac (df_X16_read_211 n g124) r := by
  obtain ⟨hlt, hx, hb, hml, hown, hts, hN, hA, hK⟩ := id C
  intro x2 x3 x4 x5 x6 x7 y1 y2 y3 s0 H locs ls h hP hD hS hl
  unfold df_X16_read_211 at h
  obtain ⟨s60, hq, h⟩ := nd_b1_e h
  have hPc := hP
  have hDc := hD
  have hKc := hK
  have hFc := nd_rs hD hS hA
  refine nd_cVv (As := [.int y1, .int y2, .int y3]) (rest := []) (w' := dw_X16 a ac s60) ⟨hx, hb, hml, hown, hts⟩ (fun sz => dm_X16_write l hlt dC dI a ac n (y1) (y2) (y3) s0 hq sz) (cwV 3 hts gi_dm_X16_read_6 rfl rfl rfl (by decide +kernel) ⟨Nat.le_of_ble_eq_true rfl, Nat.le_of_ble_eq_true rfl⟩) hPc hDc hKc hS hA hN (va_recv hKc hPc (ci := 17) (q0 := 0) rfl rfl) rfl hl.1 rfl (Nat.le_of_ble_eq_true rfl) dX16_read_211 (fun H locs hP1 hD1 hk1 hS => ?_)
  have hP := hP1
  have hD := hD1.weaken (fun k q _ h => hFc q.1 h)
  obtain ⟨z62, ez62, h⟩ := nd_let_e h
  refine lv_iinc (v := z62) (lv' := [(7, .int z62), (0, .ref (a 0)), (2, .int x2), (3, .int x3), (4, .int x4), (5, .int x5), (6, .int x6)]) hx hb dX16_read_214 hl (k := 6) rfl (by rw [ez62]) (by decide) rfl (fun ls hl => ?_)
  refine lv_goto (tgt := 124) hx hb dX16_read_217 (by decide) ?_
  exact (J124) (x2) (x3) (x4) (x5) (x6) (z62) s60 _ _ _ h hP hD hS (lv_sub hl [1, 2, 3, 4, 5, 6, 0] rfl)
set_option maxHeartbeats 40000000 in
set_option maxRecDepth 100000 in
theorem dB_X16_read_124 {p : Program} {l : Launch} {e : Env} {s : State} {m : MethodId} {args : Array Value} {below : List Frame} {meth : Method} {c : Code} {Q : State → Prop} {A : Nat → Prop} {dC : Nat → ClassId} {dI : Nat → Nat → Nat} {a : Nat → Nat} {ac : Nat → ClassId} {n : Nat} {r : Int32 × (St × (St))} (C : nd_C p l s m args c A (dC, dI) cX16_read 9 RX16 ow_dm_X16_read (dk_X16 ac)) (K : nd_Ki p l e (headSpec ow_dm_X16_read ({ frames := 3, cells := 0, slots := 0, locals := 71 })).room s m args below meth c Q A (dC, dI) cX16_read .int (St × (St)) (dw_X16 a ac) r) {g124 : Int32 → Int32 → Int32 → Int32 → Int32 → Int32 → (St × (St)) → Option (Int32 × (St × (St)))} (J124 : dj_X16_read_124 p l e s m args below meth c Q A dC dI a ac g124 r) : dj_X16_read_124 p l e s m args below meth c Q A dC dI a ac (dF_X16_read_124 n g124) r := by
  obtain ⟨hlt, hx, hb, hml, hown, hts, hN, hA, hK⟩ := id C
  intro x2 x3 x4 x5 x6 x7 s0 H locs ls h hP hD hS hl
  unfold dF_X16_read_124 at h
  refine lv_iload hx hb dX16_read_124 (lv_at hl 6 rfl) ?_
  refine lv_iload hx hb dX16_read_126 (lv_at hl 4 rfl) ?_
  refine lv_icmp_ge (tgt := 220) hx hb dX16_read_128 (by decide) (fun c29 => ?_) (fun c29 => ?_)
  · have h := nd_pos h c29
    refine lv_aload_n hx hb dX16_read_220 rfl (lv_at hl 0 rfl) ?_
    refine va_get (D := (dC, dI)) (ci := 17) (v := .ref (a 21)) (C := RX16) (T := TX16) (N := 56) hx hb hts hi_dm_X16_read_X16 hown hK hP 0 rfl rfl 30 (by decide) (hts (.fieldLink RX16 73 "TimeMachineModel$Machine" "kind" "[I") (List.mem_of_getElem? (i := 23) rfl)) (fun _ h9 => h9) rfl dX16_read_221 ?_
    refine lv_iload hx hb dX16_read_224 (lv_at hl 3 rfl) ?_
    obtain ⟨i30, h⟩ := nd_ck_e h
    refine va_iald (i := x4) hx hb hK hP 21 20 rfl rfl i30 dX16_read_226 ?_
    refine lv_iconst (v := 1) hx hb dX16_read_227 (by decide) ?_
    refine lv_icmp_ne (tgt := 299) hx hb dX16_read_228 (by decide) (fun c31 => ?_) (fun c31 => ?_)
    · have h := nd_neg h c31
      refine lv_aload_n hx hb dX16_read_299 rfl (lv_at hl 0 rfl) ?_
      refine va_get (D := (dC, dI)) (ci := 17) (v := .ref (a 21)) (C := RX16) (T := TX16) (N := 56) hx hb hts hi_dm_X16_read_X16 hown hK hP 0 rfl rfl 30 (by decide) (hts (.fieldLink RX16 73 "TimeMachineModel$Machine" "kind" "[I") (List.mem_of_getElem? (i := 23) rfl)) (fun _ h9 => h9) rfl dX16_read_300 ?_
      refine lv_iload hx hb dX16_read_303 (lv_at hl 3 rfl) ?_
      obtain ⟨i32, h⟩ := nd_ck_e h
      refine va_iald (i := x4) hx hb hK hP 21 20 rfl rfl i32 dX16_read_305 ?_
      refine lv_iconst (v := 3) hx hb dX16_read_306 (by decide) ?_
      refine lv_icmp_ne (tgt := 325) hx hb dX16_read_307 (by decide) (fun c33 => ?_) (fun c33 => ?_)
      · have h := nd_neg h c33
        refine lv_iload hx hb dX16_read_325 (lv_at hl 4 rfl) ?_
        refine lv_iload_n hx hb dX16_read_327 rfl (lv_at hl 2 rfl) ?_
        refine lv_icmp_ge (tgt := 347) hx hb dX16_read_328 (by decide) (fun c34 => ?_) (fun c34 => ?_)
        · have h := nd_pos h c34
          exact (db_X16_read_347 C K) (x5) s0 _ _ _ h hP hD hS (lv_sub hl [0, 4] rfl)
        · have h := nd_neg h c34
          refine lv_iload hx hb dX16_read_331 (lv_at hl 4 rfl) ?_
          refine lv_aload_n hx hb dX16_read_333 rfl (lv_at hl 0 rfl) ?_
          refine va_get (D := (dC, dI)) (ci := 17) (v := .int (sI s0.1 7)) (C := RX16) (T := TX16) (N := 56) hx hb hts hi_dm_X16_read_X16 hown hK hP 0 rfl rfl 42 (by decide) (hts (.fieldLink RX16 122 "TimeMachineModel$Machine" "typed" "I") (List.mem_of_getElem? (i := 24) rfl)) (fun _ h9 => h9) rfl dX16_read_334 ?_
          refine lv_icmp_ge (tgt := 347) hx hb dX16_read_337 (by decide) (fun c41 => ?_) (fun c41 => ?_)
          · have h := nd_pos h c41
            exact (db_X16_read_347 C K) (x5) s0 _ _ _ h hP hD hS (lv_sub hl [0, 4] rfl)
          · have h := nd_neg h c41
            refine lv_iload hx hb dX16_read_340 (lv_at hl 4 rfl) ?_
            refine lv_iconst (v := 1) hx hb dX16_read_342 (by decide) ?_
            refine lv_iadd hx hb dX16_read_343 ?_
            refine lv_goto (tgt := 349) hx hb dX16_read_344 (by decide) ?_
            exact (db_X16_read_349 C K) (x5) ((x5 + 1)) s0 _ _ _ h hP hD hS (lv_sub hl [0, 4] rfl)
      · have h := nd_pos h c33
        refine lv_aload_n hx hb dX16_read_310 rfl (lv_at hl 0 rfl) ?_
        refine va_get (D := (dC, dI)) (ci := 17) (v := .ref (a 23)) (C := RX16) (T := TX16) (N := 56) hx hb hts hi_dm_X16_read_X16 hown hK hP 0 rfl rfl 32 (by decide) (hts (.fieldLink RX16 79 "TimeMachineModel$Machine" "position" "[I") (List.mem_of_getElem? (i := 26) rfl)) (fun _ h9 => h9) rfl dX16_read_311 ?_
        refine lv_iload hx hb dX16_read_314 (lv_at hl 3 rfl) ?_
        refine lv_dup2_11 hx hb dX16_read_316 rfl rfl ?_
        obtain ⟨i42, h⟩ := nd_ck_e h
        refine va_iald (i := x4) hx hb hK hP 23 22 rfl rfl i42 dX16_read_317 ?_
        refine lv_iload hx hb dX16_read_318 (lv_at hl 4 rfl) ?_
        refine lv_iadd hx hb dX16_read_320 ?_
        obtain ⟨i43, h⟩ := nd_ck_e h
        refine va_iast (i := x4) (x := ((sR s0.1 21 (Int32.toNatClampNeg x4)) + x5)) hx hb hK hP hD hS 23 22 rfl rfl i43 dX16_read_321 (fun H locs hP hD hS => ?_)
        obtain ⟨s44, es44, h⟩ := nd_let_e h
        have hP : va_P (dC, dI) vwCl (dw_X16 a ac s44) H := by rw [es44]; exact hP
        have hD : va_D A (dw_X16 a ac s44) := by rw [es44]; exact hD
        refine lv_goto (tgt := 398) hx hb dX16_read_322 (by decide) ?_
        exact (db_X16_read_398 C K) (x5) s44 _ _ _ h hP hD hS (lv_sub hl [4] rfl)
    · have h := nd_pos h c31
      refine lv_iload hx hb dX16_read_231 (lv_at hl 4 rfl) ?_
      refine lv_istore (lv' := [(7, .int x5), (0, .ref (a 0)), (2, .int x2), (3, .int x3), (4, .int x4), (5, .int x5), (6, .int x6)]) hx hb dX16_read_233 hl (by decide) rfl (fun ls hl => ?_)
      exact (db_X16_read_235 C K n) (x5) (x6) (x5) s0 _ _ _ h hP hD hS (lv_sub hl [1, 5, 6, 0] rfl)
  · have h := nd_neg h c29
    refine lv_aload_n hx hb dX16_read_131 rfl (lv_at hl 0 rfl) ?_
    refine lv_aload_n hx hb dX16_read_132 rfl (lv_at hl 0 rfl) ?_
    refine va_get (D := (dC, dI)) (ci := 17) (v := .int (sI s0.1 12)) (C := RX16) (T := TX16) (N := 56) hx hb hts hi_dm_X16_read_X16 hown hK hP 0 rfl rfl 51 (by decide) (hts (.fieldLink RX16 232 "TimeMachineModel$Machine" "p" "I") (List.mem_of_getElem? (i := 1) rfl)) (fun _ h9 => h9) rfl dX16_read_133 ?_
    refine lv_iload_n hx hb dX16_read_136 rfl (lv_at hl 1 rfl) ?_
    refine lv_iload hx hb dX16_read_137 (lv_at hl 6 rfl) ?_
    refine lv_iadd hx hb dX16_read_139 ?_
    refine lv_aload_n hx hb dX16_read_140 rfl (lv_at hl 0 rfl) ?_
    refine va_get (D := (dC, dI)) (ci := 17) (v := .ref (a 21)) (C := RX16) (T := TX16) (N := 56) hx hb hts hi_dm_X16_read_X16 hown hK hP 0 rfl rfl 30 (by decide) (hts (.fieldLink RX16 73 "TimeMachineModel$Machine" "kind" "[I") (List.mem_of_getElem? (i := 23) rfl)) (fun _ h9 => h9) rfl dX16_read_141 ?_
    refine lv_iload hx hb dX16_read_144 (lv_at hl 3 rfl) ?_
    obtain ⟨i54, h⟩ := nd_ck_e h
    refine va_iald (i := x4) hx hb hK hP 21 20 rfl rfl i54 dX16_read_146 ?_
    refine lv_iconst (v := 1) hx hb dX16_read_147 (by decide) ?_
    refine lv_icmp_ne (tgt := 168) hx hb dX16_read_148 (by decide) (fun c55 => ?_) (fun c55 => ?_)
    · have h := nd_neg h c55
      refine lv_aload_n hx hb dX16_read_168 rfl (lv_at hl 0 rfl) ?_
      refine va_get (D := (dC, dI)) (ci := 17) (v := .ref (a 21)) (C := RX16) (T := TX16) (N := 56) hx hb hts hi_dm_X16_read_X16 hown hK hP 0 rfl rfl 30 (by decide) (hts (.fieldLink RX16 73 "TimeMachineModel$Machine" "kind" "[I") (List.mem_of_getElem? (i := 23) rfl)) (fun _ h9 => h9) rfl dX16_read_169 ?_
      refine lv_iload hx hb dX16_read_172 (lv_at hl 3 rfl) ?_
      obtain ⟨i56, h⟩ := nd_ck_e h
      refine va_iald (i := x4) hx hb hK hP 21 20 rfl rfl i56 dX16_read_174 ?_
      refine lv_iconst (v := 3) hx hb dX16_read_175 (by decide) ?_
      refine lv_icmp_ne (tgt := 204) hx hb dX16_read_176 (by decide) (fun c57 => ?_) (fun c57 => ?_)
      · have h := nd_neg h c57
        refine lv_aload_n hx hb dX16_read_204 rfl (lv_at hl 0 rfl) ?_
        refine va_get (D := (dC, dI)) (ci := 17) (v := .ref (a 33)) (C := RX16) (T := TX16) (N := 56) hx hb hts hi_dm_X16_read_X16 hown hK hP 0 rfl rfl 43 (by decide) (hts (.fieldLink RX16 109 "TimeMachineModel$Machine" "typedBytes" "[I") (List.mem_of_getElem? (i := 25) rfl)) (fun _ h9 => h9) rfl dX16_read_205 ?_
        refine lv_iload hx hb dX16_read_208 (lv_at hl 6 rfl) ?_
        obtain ⟨i58, h⟩ := nd_ck_e h
        refine va_iald (i := x7) hx hb hK hP 33 32 rfl rfl i58 dX16_read_210 ?_
        exact (db_X16_read_211 C K J124) (x2) (x3) (x4) (x5) (x6) (x7) ((sI s0.1 12)) ((x2 + x7)) ((sR s0.1 31 (Int32.toNatClampNeg x7))) s0 _ _ _ h hP hD hS (lv_sub hl [0, 1, 2, 3, 4, 5, 6] rfl)
      · have h := nd_pos h c57
        refine lv_aload_n hx hb dX16_read_179 rfl (lv_at hl 0 rfl) ?_
        refine va_get (D := (dC, dI)) (ci := 17) (v := .ref (a 31)) (C := RX16) (T := TX16) (N := 56) hx hb hts hi_dm_X16_read_X16 hown hK hP 0 rfl rfl 40 (by decide) (hts (.fieldLink RX16 103 "TimeMachineModel$Machine" "fileBytes" "[I") (List.mem_of_getElem? (i := 32) rfl)) (fun _ h9 => h9) rfl dX16_read_180 ?_
        refine lv_sipush (v := 512) hx hb dX16_read_183 (by decide) ?_
        refine lv_iload hx hb dX16_read_186 (lv_at hl 5 rfl) ?_
        refine lv_imul hx hb dX16_read_188 ?_
        refine lv_aload_n hx hb dX16_read_189 rfl (lv_at hl 0 rfl) ?_
        refine va_get (D := (dC, dI)) (ci := 17) (v := .ref (a 23)) (C := RX16) (T := TX16) (N := 56) hx hb hts hi_dm_X16_read_X16 hown hK hP 0 rfl rfl 32 (by decide) (hts (.fieldLink RX16 79 "TimeMachineModel$Machine" "position" "[I") (List.mem_of_getElem? (i := 26) rfl)) (fun _ h9 => h9) rfl dX16_read_190 ?_
        refine lv_iload hx hb dX16_read_193 (lv_at hl 3 rfl) ?_
        obtain ⟨i63, h⟩ := nd_ck_e h
        refine va_iald (i := x4) hx hb hK hP 23 22 rfl rfl i63 dX16_read_195 ?_
        refine lv_iadd hx hb dX16_read_196 ?_
        refine lv_iload hx hb dX16_read_197 (lv_at hl 6 rfl) ?_
        refine lv_iadd hx hb dX16_read_199 ?_
        obtain ⟨i64, h⟩ := nd_ck_e h
        refine va_iald (i := (((512 * x6) + (sR s0.1 21 (Int32.toNatClampNeg x4))) + x7)) hx hb hK hP 31 30 rfl rfl i64 dX16_read_200 ?_
        refine lv_goto (tgt := 211) hx hb dX16_read_201 (by decide) ?_
        exact (db_X16_read_211 C K J124) (x2) (x3) (x4) (x5) (x6) (x7) ((sI s0.1 12)) ((x2 + x7)) ((sR s0.1 29 (Int32.toNatClampNeg (((512 * x6) + (sR s0.1 21 (Int32.toNatClampNeg x4))) + x7)))) s0 _ _ _ h hP hD hS (lv_sub hl [0, 1, 2, 3, 4, 5, 6] rfl)
    · have h := nd_pos h c55
      refine lv_aload_n hx hb dX16_read_151 rfl (lv_at hl 0 rfl) ?_
      refine va_get (D := (dC, dI)) (ci := 17) (v := .ref (a 29)) (C := RX16) (T := TX16) (N := 56) hx hb hts hi_dm_X16_read_X16 hown hK hP 0 rfl rfl 38 (by decide) (hts (.fieldLink RX16 97 "TimeMachineModel$Machine" "pipeBytes" "[I") (List.mem_of_getElem? (i := 28) rfl)) (fun _ h9 => h9) rfl dX16_read_152 ?_
      refine lv_sipush (v := 512) hx hb dX16_read_155 (by decide) ?_
      refine lv_iload hx hb dX16_read_158 (lv_at hl 5 rfl) ?_
      refine lv_imul hx hb dX16_read_160 ?_
      refine lv_iload hx hb dX16_read_161 (lv_at hl 6 rfl) ?_
      refine lv_iadd hx hb dX16_read_163 ?_
      obtain ⟨i65, h⟩ := nd_ck_e h
      refine va_iald (i := ((512 * x6) + x7)) hx hb hK hP 29 28 rfl rfl i65 dX16_read_164 ?_
      refine lv_goto (tgt := 211) hx hb dX16_read_165 (by decide) ?_
      exact (db_X16_read_211 C K J124) (x2) (x3) (x4) (x5) (x6) (x7) ((sI s0.1 12)) ((x2 + x7)) ((sR s0.1 27 (Int32.toNatClampNeg ((512 * x6) + x7)))) s0 _ _ _ h hP hD hS (lv_sub hl [0, 1, 2, 3, 4, 5, 6] rfl)
set_option maxHeartbeats 40000000 in
set_option maxRecDepth 100000 in
theorem db_X16_read_124 {p : Program} {l : Launch} {e : Env} {s : State} {m : MethodId} {args : Array Value} {below : List Frame} {meth : Method} {c : Code} {Q : State → Prop} {A : Nat → Prop} {dC : Nat → ClassId} {dI : Nat → Nat → Nat} {a : Nat → Nat} {ac : Nat → ClassId} {n : Nat} {r : Int32 × (St × (St))} (C : nd_C p l s m args c A (dC, dI) cX16_read 9 RX16 ow_dm_X16_read (dk_X16 ac)) (K : nd_Ki p l e (headSpec ow_dm_X16_read ({ frames := 3, cells := 0, slots := 0, locals := 71 })).room s m args below meth c Q A (dC, dI) cX16_read .int (St × (St)) (dw_X16 a ac) r) (k : Nat) : dj_X16_read_124 p l e s m args below meth c Q A dC dI a ac (df_X16_read_124 n k) r := by
  induction k with
  | zero => intro x2 x3 x4 x5 x6 x7 s0 H locs ls h; exact nomatch (show (none : Option (Int32 × (St × (St)))) = some r from h)
  | succ k ih => exact dB_X16_read_124 C K ih
set_option maxHeartbeats 40000000 in
set_option maxRecDepth 100000 in
theorem db_X16_read_0 {p : Program} {l : Launch} {e : Env} {s : State} {m : MethodId} {args : Array Value} {below : List Frame} {meth : Method} {c : Code} {Q : State → Prop} {A : Nat → Prop} {dC : Nat → ClassId} {dI : Nat → Nat → Nat} {a : Nat → Nat} {ac : Nat → ClassId} {n : Nat} {r : Int32 × (St × (St))} (C : nd_C p l s m args c A (dC, dI) cX16_read 9 RX16 ow_dm_X16_read (dk_X16 ac)) (K : nd_Ki p l e (headSpec ow_dm_X16_read ({ frames := 3, cells := 0, slots := 0, locals := 71 })).room s m args below meth c Q A (dC, dI) cX16_read .int (St × (St)) (dw_X16 a ac) r) : dj_X16_read_0 p l e s m args below meth c Q A dC dI a ac (df_X16_read_0 n) r := by
  obtain ⟨hlt, hx, hb, hml, hown, hts, hN, hA, hK⟩ := id C
  intro v0 v1 v2 s0 H locs ls h hP hD hS hl
  unfold df_X16_read_0 at h
  refine lv_iload_n hx hb dX16_read_0 rfl (lv_at hl 3 rfl) ?_
  refine lv_if_lt (tgt := 11) hx hb dX16_read_1 (by decide) (fun c1 => ?_) (fun c1 => ?_)
  · have h := nd_pos h c1
    exact (db_X16_read_11 C K)  s0 _ _ _ h hP hD hS (lv_sub hl [] rfl)
  · have h := nd_neg h c1
    refine lv_iload_n hx hb dX16_read_4 rfl (lv_at hl 3 rfl) ?_
    refine lv_sipush (v := 512) hx hb dX16_read_5 (by decide) ?_
    refine lv_icmp_le (tgt := 14) hx hb dX16_read_8 (by decide) (fun c2 => ?_) (fun c2 => ?_)
    · have h := nd_pos h c2
      refine lv_aload_n hx hb dX16_read_14 rfl (lv_at hl 0 rfl) ?_
      refine lv_aload_n hx hb dX16_read_15 rfl (lv_at hl 0 rfl) ?_
      refine va_get (D := (dC, dI)) (ci := 17) (v := .int (sI s0.1 12)) (C := RX16) (T := TX16) (N := 56) hx hb hts hi_dm_X16_read_X16 hown hK hP 0 rfl rfl 51 (by decide) (hts (.fieldLink RX16 232 "TimeMachineModel$Machine" "p" "I") (List.mem_of_getElem? (i := 1) rfl)) (fun _ h9 => h9) rfl dX16_read_16 ?_
      refine lv_iload_n hx hb dX16_read_19 rfl (lv_at hl 2 rfl) ?_
      refine lv_iload_n hx hb dX16_read_20 rfl (lv_at hl 3 rfl) ?_
      refine lv_iconst (v := 2) hx hb dX16_read_21 (by decide) ?_
      obtain ⟨q3, s4, hq, h⟩ := nd_b2_e h
      have hPc := hP
      have hDc := hD
      have hKc := hK
      have hFc := nd_rs hD hS hA
      refine nd_cVi (As := [.int (sI s0.1 12), .int v1, .int v2, .int 2]) (rest := []) (q := q3) (w' := dw_X16 a ac s4) ⟨hx, hb, hml, hown, hts⟩ (fun sz => dm_X16_mayAll l hlt dC dI a ac n ((sI s0.1 12)) (v1) (v2) (2) s0 hq sz) (cwV 4 hts gi_dm_X16_read_0 rfl rfl rfl (by decide +kernel) ⟨Nat.le_of_ble_eq_true rfl, Nat.le_of_ble_eq_true rfl⟩) hPc hDc hKc hS hA hN (va_recv hKc hPc (ci := 17) (q0 := 0) rfl rfl) rfl hl.1 rfl (Nat.le_of_ble_eq_true rfl) dX16_read_22 (fun H locs hP1 hD1 hk1 hS => ?_)
      have hP := hP1
      have hD := hD1.weaken (fun k q _ h => hFc q.1 h)
      refine lv_if_ne (tgt := 31) hx hb dX16_read_25 (by decide) (fun c6 => ?_) (fun c6 => ?_)
      · have h := nd_neg h c6
        refine lv_aload_n hx hb dX16_read_31 rfl (lv_at hl 0 rfl) ?_
        refine lv_aload_n hx hb dX16_read_32 rfl (lv_at hl 0 rfl) ?_
        refine va_get (D := (dC, dI)) (ci := 17) (v := .int (sI s4.1 12)) (C := RX16) (T := TX16) (N := 56) hx hb hts hi_dm_X16_read_X16 hown hK hP 0 rfl rfl 51 (by decide) (hts (.fieldLink RX16 232 "TimeMachineModel$Machine" "p" "I") (List.mem_of_getElem? (i := 1) rfl)) (fun _ h9 => h9) rfl dX16_read_33 ?_
        refine lv_iload_n hx hb dX16_read_36 rfl (lv_at hl 1 rfl) ?_
        obtain ⟨q7, s8, hq, h⟩ := nd_b2_e h
        have hPc := hP
        have hDc := hD
        have hKc := hK
        have hFc := nd_rs hD hS hA
        refine nd_cVi (As := [.int (sI s4.1 12), .int v0]) (rest := []) (q := q7) (w' := dw_X16 a ac s8) ⟨hx, hb, hml, hown, hts⟩ (fun sz => dm_X16_openingOf l hlt dC dI a ac n ((sI s4.1 12)) (v0) s4 hq sz) (cwV 2 hts gi_dm_X16_read_1 rfl rfl rfl (by decide +kernel) ⟨Nat.le_of_ble_eq_true rfl, Nat.le_of_ble_eq_true rfl⟩) hPc hDc hKc hS hA hN (va_recv hKc hPc (ci := 17) (q0 := 0) rfl rfl) rfl hl.1 rfl (Nat.le_of_ble_eq_true rfl) dX16_read_37 (fun H locs hP1 hD1 hk1 hS => ?_)
        have hP := hP1
        have hD := hD1.weaken (fun k q _ h => hFc q.1 h)
        refine lv_istore (lv' := [(4, .int q7), (0, .ref (a 0)), (1, .int v0), (2, .int v1), (3, .int v2)]) hx hb dX16_read_40 hl (by decide) rfl (fun ls hl => ?_)
        refine lv_iload hx hb dX16_read_42 (lv_at hl 0 rfl) ?_
        refine lv_iconst (v := (-1)) hx hb dX16_read_44 (by decide) ?_
        refine lv_icmp_eq (tgt := 60) hx hb dX16_read_45 (by decide) (fun c10 => ?_) (fun c10 => ?_)
        · have h := nd_pos h c10
          exact (db_X16_read_60 C K)  s8 _ _ _ h hP hD hS (lv_sub hl [] rfl)
        · have h := nd_neg h c10
          refine lv_aload_n hx hb dX16_read_48 rfl (lv_at hl 1 rfl) ?_
          refine va_get (D := (dC, dI)) (ci := 17) (v := .ref (a 24)) (C := RX16) (T := TX16) (N := 56) hx hb hts hi_dm_X16_read_X16 hown hK hP 0 rfl rfl 33 (by decide) (hts (.fieldLink RX16 82 "TimeMachineModel$Machine" "right" "[I") (List.mem_of_getElem? (i := 9) rfl)) (fun _ h9 => h9) rfl dX16_read_49 ?_
          refine lv_iload hx hb dX16_read_52 (lv_at hl 0 rfl) ?_
          obtain ⟨i11, h⟩ := nd_ck_e h
          refine va_iald (i := q7) hx hb hK hP 24 23 rfl rfl i11 dX16_read_54 ?_
          refine lv_iconst (v := 1) hx hb dX16_read_55 (by decide) ?_
          refine lv_iand hx hb dX16_read_56 ?_
          refine lv_if_ne (tgt := 62) hx hb dX16_read_57 (by decide) (fun c12 => ?_) (fun c12 => ?_)
          · have h := nd_neg h c12
            refine lv_aload_n hx hb dX16_read_62 rfl (lv_at hl 1 rfl) ?_
            refine lv_iload hx hb dX16_read_63 (lv_at hl 0 rfl) ?_
            refine lv_iconst (v := 1) hx hb dX16_read_65 (by decide) ?_
            refine lv_iload_n hx hb dX16_read_66 rfl (lv_at hl 4 rfl) ?_
            obtain ⟨q13, s14, hq, h⟩ := nd_b2_e h
            have hPc := hP
            have hDc := hD
            have hKc := hK
            have hFc := nd_rs hD hS hA
            refine nd_cVi (As := [.int q7, .int 1, .int v2]) (rest := []) (q := q13) (w' := dw_X16 a ac s14) ⟨hx, hb, hml, hown, hts⟩ (fun sz => dm_X16_waits l hlt dC dI a ac n (q7) (1) (v2) s8 hq sz) (cwV 3 hts gi_dm_X16_read_2 rfl rfl rfl (by decide +kernel) ⟨Nat.le_of_ble_eq_true rfl, Nat.le_of_ble_eq_true rfl⟩) hPc hDc hKc hS hA hN (va_recv hKc hPc (ci := 17) (q0 := 0) rfl rfl) rfl hl.1 rfl (Nat.le_of_ble_eq_true rfl) dX16_read_67 (fun H locs hP1 hD1 hk1 hS => ?_)
            have hP := hP1
            have hD := hD1.weaken (fun k q _ h => hFc q.1 h)
            refine lv_if_eq (tgt := 79) hx hb dX16_read_70 (by decide) (fun c16 => ?_) (fun c16 => ?_)
            · have h := nd_pos h c16
              refine lv_aload_n hx hb dX16_read_79 rfl (lv_at hl 1 rfl) ?_
              refine lv_iload hx hb dX16_read_80 (lv_at hl 0 rfl) ?_
              refine lv_iload_n hx hb dX16_read_82 rfl (lv_at hl 4 rfl) ?_
              obtain ⟨q17, s18, hq, h⟩ := nd_b2_e h
              have hPc := hP
              have hDc := hD
              have hKc := hK
              have hFc := nd_rs hD hS hA
              refine nd_cVi (As := [.int q7, .int v2]) (rest := []) (q := q17) (w' := dw_X16 a ac s18) ⟨hx, hb, hml, hown, hts⟩ (fun sz => dm_X16_comes l hlt dC dI a ac n (q7) (v2) s14 hq sz) (cwV 2 hts gi_dm_X16_read_3 rfl rfl rfl (by decide +kernel) ⟨Nat.le_of_ble_eq_true rfl, Nat.le_of_ble_eq_true rfl⟩) hPc hDc hKc hS hA hN (va_recv hKc hPc (ci := 17) (q0 := 0) rfl rfl) rfl hl.1 rfl (Nat.le_of_ble_eq_true rfl) dX16_read_83 (fun H locs hP1 hD1 hk1 hS => ?_)
              have hP := hP1
              have hD := hD1.weaken (fun k q _ h => hFc q.1 h)
              refine lv_istore (lv' := [(5, .int q17), (4, .int q7), (0, .ref (a 0)), (1, .int v0), (2, .int v1), (3, .int v2)]) hx hb dX16_read_86 hl (by decide) rfl (fun ls hl => ?_)
              refine lv_aload_n hx hb dX16_read_88 rfl (lv_at hl 2 rfl) ?_
              refine lv_aload_n hx hb dX16_read_89 rfl (lv_at hl 2 rfl) ?_
              refine lv_aload_n hx hb dX16_read_90 rfl (lv_at hl 2 rfl) ?_
              refine va_get (D := (dC, dI)) (ci := 17) (v := .int (sI s18.1 12)) (C := RX16) (T := TX16) (N := 56) hx hb hts hi_dm_X16_read_X16 hown hK hP 0 rfl rfl 51 (by decide) (hts (.fieldLink RX16 232 "TimeMachineModel$Machine" "p" "I") (List.mem_of_getElem? (i := 1) rfl)) (fun _ h9 => h9) rfl dX16_read_91 ?_
              refine lv_iload_n hx hb dX16_read_94 rfl (lv_at hl 4 rfl) ?_
              refine lv_iload hx hb dX16_read_95 (lv_at hl 0 rfl) ?_
              obtain ⟨q20, s21, hq, h⟩ := nd_b2_e h
              have hPc := hP
              have hDc := hD
              have hKc := hK
              have hFc := nd_rs hD hS hA
              refine nd_cVi (As := [.int (sI s18.1 12), .int v1, .int q17]) (rest := [.ref (a 0)]) (q := q20) (w' := dw_X16 a ac s21) ⟨hx, hb, hml, hown, hts⟩ (fun sz => dm_X16_wanted l hlt dC dI a ac n ((sI s18.1 12)) (v1) (q17) s18 hq sz) (cwV 3 hts gi_dm_X16_read_4 rfl rfl rfl (by decide +kernel) ⟨Nat.le_of_ble_eq_true rfl, Nat.le_of_ble_eq_true rfl⟩) hPc hDc hKc hS hA hN (va_recv hKc hPc (ci := 17) (q0 := 0) rfl rfl) rfl hl.1 rfl (Nat.le_of_ble_eq_true rfl) dX16_read_97 (fun H locs hP1 hD1 hk1 hS => ?_)
              have hP := hP1
              have hD := hD1.weaken (fun k q _ h => hFc q.1 h)
              obtain ⟨q23, s24, hq, h⟩ := nd_b2_e h
              have hPc := hP
              have hDc := hD
              have hKc := hK
              have hFc := nd_rs hD hS hA
              refine nd_cVi (As := [.int q20]) (rest := []) (q := q23) (w' := dw_X16 a ac s24) ⟨hx, hb, hml, hown, hts⟩ (fun sz => dm_X16_hasFrames l hlt dC dI a ac n (q20) s21 hq sz) (cwV 1 hts gi_dm_X16_read_5 rfl rfl rfl (by decide +kernel) ⟨Nat.le_of_ble_eq_true rfl, Nat.le_of_ble_eq_true rfl⟩) hPc hDc hKc hS hA hN (va_recv hKc hPc (ci := 17) (q0 := 0) rfl rfl) rfl hl.1 rfl (Nat.le_of_ble_eq_true rfl) dX16_read_100 (fun H locs hP1 hD1 hk1 hS => ?_)
              have hP := hP1
              have hD := hD1.weaken (fun k q _ h => hFc q.1 h)
              refine lv_if_ne (tgt := 112) hx hb dX16_read_103 (by decide) (fun c26 => ?_) (fun c26 => ?_)
              · have h := nd_neg h c26
                refine lv_aload_n hx hb dX16_read_112 rfl (lv_at hl 2 rfl) ?_
                refine va_get (D := (dC, dI)) (ci := 17) (v := .ref (a 22)) (C := RX16) (T := TX16) (N := 56) hx hb hts hi_dm_X16_read_X16 hown hK hP 0 rfl rfl 31 (by decide) (hts (.fieldLink RX16 76 "TimeMachineModel$Machine" "thing" "[I") (List.mem_of_getElem? (i := 22) rfl)) (fun _ h9 => h9) rfl dX16_read_113 ?_
                refine lv_iload hx hb dX16_read_116 (lv_at hl 1 rfl) ?_
                obtain ⟨i27, h⟩ := nd_ck_e h
                refine va_iald (i := q7) hx hb hK hP 22 21 rfl rfl i27 dX16_read_118 ?_
                refine lv_topi (fun z28 ez28 => ?_)
                have h := nd_at h ez28
                refine lv_istore (lv' := [(6, .int z28), (5, .int q17), (4, .int q7), (0, .ref (a 0)), (1, .int v0), (2, .int v1), (3, .int v2)]) hx hb dX16_read_119 hl (by decide) rfl (fun ls hl => ?_)
                refine lv_iconst (v := 0) hx hb dX16_read_121 (by decide) ?_
                refine lv_istore (lv' := [(7, .int 0), (6, .int z28), (5, .int q17), (4, .int q7), (0, .ref (a 0)), (1, .int v0), (2, .int v1), (3, .int v2)]) hx hb dX16_read_122 hl (by decide) rfl (fun ls hl => ?_)
                exact (db_X16_read_124 C K n) (v1) (v2) (q7) (q17) (z28) (0) s24 _ _ _ h hP hD hS (lv_sub hl [4, 6, 7, 3, 2, 1, 0] rfl)
              · have h := nd_pos h c26
                refine lv_aload_n hx hb dX16_read_106 rfl (lv_at hl 2 rfl) ?_
                refine lv_iconst (v := 3) hx hb dX16_read_107 (by decide) ?_
                obtain ⟨q66, s67, hq, h⟩ := nd_b2_e h
                have hPc := hP
                have hDc := hD
                have hKc := hK
                have hFc := nd_rs hD hS hA
                refine nd_cVi (As := [.int 3]) (rest := []) (q := q66) (w' := dw_X16 a ac s67) ⟨hx, hb, hml, hown, hts⟩ (fun sz => dm_X16_tell l hlt dC dI a ac n (3) s24 hq sz) (cwV 1 hts gi_dm_X16_read_7 rfl rfl rfl (by decide +kernel) ⟨Nat.le_of_ble_eq_true rfl, Nat.le_of_ble_eq_true rfl⟩) hPc hDc hKc hS hA hN (va_recv hKc hPc (ci := 17) (q0 := 0) rfl rfl) rfl hl.1 rfl (Nat.le_of_ble_eq_true rfl) dX16_read_108 (fun H locs hP1 hD1 hk1 hS => ?_)
                have hP := hP1
                have hD := hD1.weaken (fun k q _ h => hFc q.1 h)
                exact K _ _ _ _ _ _ dX16_read_111 rfl (Option.some.inj h).symm hP hD hS
            · have h := nd_neg h c16
              refine lv_aload_n hx hb dX16_read_73 rfl (lv_at hl 1 rfl) ?_
              refine lv_iconst (v := 1) hx hb dX16_read_74 (by decide) ?_
              obtain ⟨q69, s70, hq, h⟩ := nd_b2_e h
              have hPc := hP
              have hDc := hD
              have hKc := hK
              have hFc := nd_rs hD hS hA
              refine nd_cVi (As := [.int 1]) (rest := []) (q := q69) (w' := dw_X16 a ac s70) ⟨hx, hb, hml, hown, hts⟩ (fun sz => dm_X16_tell l hlt dC dI a ac n (1) s14 hq sz) (cwV 1 hts gi_dm_X16_read_7 rfl rfl rfl (by decide +kernel) ⟨Nat.le_of_ble_eq_true rfl, Nat.le_of_ble_eq_true rfl⟩) hPc hDc hKc hS hA hN (va_recv hKc hPc (ci := 17) (q0 := 0) rfl rfl) rfl hl.1 rfl (Nat.le_of_ble_eq_true rfl) dX16_read_75 (fun H locs hP1 hD1 hk1 hS => ?_)
              have hP := hP1
              have hD := hD1.weaken (fun k q _ h => hFc q.1 h)
              exact K _ _ _ _ _ _ dX16_read_78 rfl (Option.some.inj h).symm hP hD hS
          · have h := nd_pos h c12
            exact (db_X16_read_60 C K)  s8 _ _ _ h hP hD hS (lv_sub hl [] rfl)
      · have h := nd_pos h c6
        refine lv_bipush (v := (-14)) hx hb dX16_read_28 (by decide) ?_
        exact K _ _ _ _ _ _ dX16_read_30 rfl (Option.some.inj h).symm hP hD hS
    · have h := nd_neg h c2
      exact (db_X16_read_11 C K)  s0 _ _ _ h hP hD hS (lv_sub hl [] rfl)
set_option maxHeartbeats 40000000 in
set_option maxRecDepth 100000 in
theorem dm_X16_read (l : Launch) (hlt : l.stackTraces = false) (dC : Nat → ClassId) (dI : Nat → Nat → Nat) (a : Nat → Nat) (ac : Nat → ClassId) (n : Nat) (v0 : Int32) (v1 : Int32) (v2 : Int32) (s0 : St × (St)) {r : Int32 × (St × (St))} (h : df_X16_read n v0 v1 v2 s0 = some r) (sz : Nat) : Met l yX16_read ow_dm_X16_read ({ frames := 3, cells := 0, slots := 0, locals := 71 }) (va_Pc [.ref (a 0), .int v0, .int v1, .int v2] (fun U => U.heap.size = sz ∧ va_P (dC, dI) vwCl (dw_X16 a ac s0) U.heap ∧ va_K (dC, dI) vwCl (dk_X16 ac) U ∧ va_D (fun _ => True) (dw_X16 a ac s0) ∧ nv_E dI (va_A (dw_X16 a ac s0) sz) U)) (va_Qi (fun x _ => x = r.1) (fun (_ : Unit) t => va_P (dC, dI) vwCl (dw_X16 a ac r.2) t.heap ∧ va_K (dC, dI) vwCl (dk_X16 ac) t ∧ va_D (va_A (dw_X16 a ac s0) sz) (dw_X16 a ac r.2)) (va_A (dw_X16 a ac s0) sz)) 0 0 (va_A (dw_X16 a ac s0) sz) := by
  refine Met.ofW (cc := cX16_read) (maxL := 9) (ret := (some .int)) (by decide) rfl ?_
  intro p e s m args below meth c s₁ B hml hv
  obtain ⟨rfl, hsz, hP, hK, hD0, hN⟩ := hv
  have hx := B.exec
  have hb := B.bytes
  have hr := B.returns
  have hts := atoms_spec (ws := ow_dm_X16_read) B.pre
  have hown : s.vm.findClass RX16 = some m.cls := findClass_of_methodNamed B.named
  have hlocks := B.notSynchronized
  subst hsz
  have hD := hD0.self (sz := s.heap.size)
  generalize hAe : va_A (dw_X16 a ac s0) s.heap.size = A at hD hN ⊢
  have hA : ∀ q : Nat, s.heap.size ≤ q → A q := fun q h => by rw [← hAe]; exact Or.inr h
  have hl := lv_entry ([.ref (a 0), .int v0, .int v1, .int v2]) (n := 9) (Nat.le_of_ble_eq_true rfl)
  rw [lg_entry_eq]
  generalize (lg_sl ([.ref (a 0), .int v0, .int v1, .int v2]) ++ List.replicate (9 - (lg_sl ([.ref (a 0), .int v0, .int v1, .int v2])).length) Slot.unset).toArray = ls at hl ⊢
  have hl : lv_has ls 9 [(0, .ref (a 0)), (1, .int v0), (2, .int v1), (3, .int v2)] := hl
  exact db_X16_read_0 (dC := dC) (dI := dI) (a := a) (ac := ac) (n := n) (r := r) ⟨hlt, hx, hb, hml, hown, hts, hN, hA, hK⟩ (fun pc v τ H locs ls d z er hP hD hS => by subst er; exact W.zret (v := v) hx hb hr z (fun t ht hW => ⟨⟨v, (), rfl, rfl, by rw [ht]; exact hP, va_K.moved hW.alike hK, hD⟩, hS.F ht⟩) hS.2.2 d) v0 v1 v2 s0 _ _ _ h hP hD va_S.rf (lv_sub hl [0, 1, 2, 3] rfl)
def ow_dm_X16_show : List Cond := Cond.code yX16_show cX16_show 3 none :: ([Cond.fieldLink RX16 147 "TimeMachineModel$Machine" "shown" "J", Cond.constantLong RX16 497 (2048), Cond.fieldLink RX16 112 "TimeMachineModel$Machine" "shownBytes" "[I"] ++ (u_ws RX16 TX16 56 ++ []))
theorem gd_dm_X16_show : ∀ w ∈ ow_dm_X16_show, (w.onTables && w.keeps) = true ∨ ∃ ty, w = Cond.arrayClass ty := List.forall_mem_cons.mpr ⟨good_of_word rfl, List.forall_mem_append.mpr ⟨fun w h => good_of_word (List.all_eq_true.mp (by decide +kernel) w h), List.forall_mem_append.mpr ⟨gu_X16, fun _ h => nomatch h⟩⟩⟩
theorem hi_dm_X16_show_X16 : ∀ w ∈ u_ws RX16 TX16 56, w ∈ ow_dm_X16_show := fun w h => List.mem_cons_of_mem _ (List.mem_append_right _ (List.mem_append_left _ h))
def dj_X16_show_66 (p : Program) (l : Launch) (e : Env) (s : State) (m : MethodId) (args : Array Value) (below : List Frame) (meth : Method) (c : Code) (Q : State → Prop) (A : Nat → Prop) (dC : Nat → ClassId) (dI : Nat → Nat → Nat) (a : Nat → Nat) (ac : Nat → ClassId) (g : Int32 → Int32 → (St × (St)) → Option (St × (St))) (r : St × (St)) : Prop := ∀ (x1 : Int32) (y1 : Int32) (s0 : St × (St)) (H : Heap) (locs : List Loc) (ls : Array Slot), g x1 y1 s0 = some r → va_P (dC, dI) vwCl (dw_X16 a ac s0) H → va_D A (dw_X16 a ac s0) → va_S A s.heap H locs → lv_has ls 3 [(0, .ref (a 0)), (1, .int x1)] → W p l e (headSpec ow_dm_X16_show ({ frames := 0, cells := 0, slots := 0, locals := 0 })).room s m args below meth c H locs 0 0 Q (F0 m 66 ls [.int y1, .ref (a 34)])
def dj_X16_show_40 (p : Program) (l : Launch) (e : Env) (s : State) (m : MethodId) (args : Array Value) (below : List Frame) (meth : Method) (c : Code) (Q : State → Prop) (A : Nat → Prop) (dC : Nat → ClassId) (dI : Nat → Nat → Nat) (a : Nat → Nat) (ac : Nat → ClassId) (g : Int32 → (St × (St)) → Option (St × (St))) (r : St × (St)) : Prop := ∀ (x1 : Int32) (s0 : St × (St)) (H : Heap) (locs : List Loc) (ls : Array Slot), g x1 s0 = some r → va_P (dC, dI) vwCl (dw_X16 a ac s0) H → va_D A (dw_X16 a ac s0) → va_S A s.heap H locs → lv_has ls 3 [(0, .ref (a 0)), (1, .int x1)] → W p l e (headSpec ow_dm_X16_show ({ frames := 0, cells := 0, slots := 0, locals := 0 })).room s m args below meth c H locs 0 0 Q (F0 m 40 ls [])
def dj_X16_show_13 (p : Program) (l : Launch) (e : Env) (s : State) (m : MethodId) (args : Array Value) (below : List Frame) (meth : Method) (c : Code) (Q : State → Prop) (A : Nat → Prop) (dC : Nat → ClassId) (dI : Nat → Nat → Nat) (a : Nat → Nat) (ac : Nat → ClassId) (g : Int32 → Int32 → (St × (St)) → Option (St × (St))) (r : St × (St)) : Prop := ∀ (x1 : Int32) (x2 : Int32) (s0 : St × (St)) (H : Heap) (locs : List Loc) (ls : Array Slot), g x1 x2 s0 = some r → va_P (dC, dI) vwCl (dw_X16 a ac s0) H → va_D A (dw_X16 a ac s0) → va_S A s.heap H locs → lv_has ls 3 [(0, .ref (a 0)), (1, .int x1), (2, .int x2)] → W p l e (headSpec ow_dm_X16_show ({ frames := 0, cells := 0, slots := 0, locals := 0 })).room s m args below meth c H locs 0 0 Q (F0 m 13 ls [])
def dj_X16_show_0 (p : Program) (l : Launch) (e : Env) (s : State) (m : MethodId) (args : Array Value) (below : List Frame) (meth : Method) (c : Code) (Q : State → Prop) (A : Nat → Prop) (dC : Nat → ClassId) (dI : Nat → Nat → Nat) (a : Nat → Nat) (ac : Nat → ClassId) (g : Int32 → (St × (St)) → Option (St × (St))) (r : St × (St)) : Prop := ∀ (v0 : Int32) (s0 : St × (St)) (H : Heap) (locs : List Loc) (ls : Array Slot), g v0 s0 = some r → va_P (dC, dI) vwCl (dw_X16 a ac s0) H → va_D A (dw_X16 a ac s0) → va_S A s.heap H locs → lv_has ls 3 [(0, .ref (a 0)), (1, .int v0)] → W p l e (headSpec ow_dm_X16_show ({ frames := 0, cells := 0, slots := 0, locals := 0 })).room s m args below meth c H locs 0 0 Q (F0 m 0 ls [])
set_option maxHeartbeats 40000000 in
set_option maxRecDepth 100000 in
theorem db_X16_show_66 {p : Program} {l : Launch} {e : Env} {s : State} {m : MethodId} {args : Array Value} {below : List Frame} {meth : Method} {c : Code} {Q : State → Prop} {A : Nat → Prop} {dC : Nat → ClassId} {dI : Nat → Nat → Nat} {a : Nat → Nat} {ac : Nat → ClassId} {n : Nat} {r : St × (St)} (C : nd_C p l s m args c A (dC, dI) cX16_show 3 RX16 ow_dm_X16_show (dk_X16 ac)) (K : nd_Kv p l e (headSpec ow_dm_X16_show ({ frames := 0, cells := 0, slots := 0, locals := 0 })).room s m args below meth c Q A (dC, dI) cX16_show (St × (St)) (dw_X16 a ac) r) : dj_X16_show_66 p l e s m args below meth c Q A dC dI a ac (df_X16_show_66 n) r := by
  obtain ⟨hlt, hx, hb, hml, hown, hts, hN, hA, hK⟩ := id C
  intro x1 y1 s0 H locs ls h hP hD hS hl
  unfold df_X16_show_66 at h
  refine lv_iload_n hx hb dX16_show_66 rfl (lv_at hl 1 rfl) ?_
  obtain ⟨i3, h⟩ := nd_ck_e h
  refine va_iast (i := y1) (x := x1) hx hb hK hP hD hS 34 33 rfl rfl i3 dX16_show_67 (fun H locs hP hD hS => ?_)
  obtain ⟨s4, es4, h⟩ := nd_let_e h
  have hP : va_P (dC, dI) vwCl (dw_X16 a ac s4) H := by rw [es4]; exact hP
  have hD : va_D A (dw_X16 a ac s4) := by rw [es4]; exact hD
  refine lv_aload_n hx hb dX16_show_68 rfl (lv_at hl 0 rfl) ?_
  refine lv_dup hx hb dX16_show_69 rfl ?_
  refine va_get (D := (dC, dI)) (ci := 17) (v := .long (sL s4.1 2)) (C := RX16) (T := TX16) (N := 56) hx hb hts hi_dm_X16_show_X16 hown hK hP 0 rfl rfl 45 (by decide) (hts (.fieldLink RX16 147 "TimeMachineModel$Machine" "shown" "J") (List.mem_of_getElem? (i := 1) rfl)) (fun _ h9 => h9) rfl dX16_show_70 ?_
  refine lv_lconst (v := 1) hx hb dX16_show_73 (by decide) ?_
  refine lv_ladd hx hb dX16_show_74 ?_
  refine va_put (D := (dC, dI)) (ci := 17) (v := .long (((sL s4.1 2) : Int64) + 1)) (ty := .long) (C := RX16) (T := TX16) (N := 56) hx hb hts hi_dm_X16_show_X16 tyX16 tyX16_ok nmX16 hown hK hP hD hS 0 rfl rfl 45 (by decide) (hts (.fieldLink RX16 147 "TimeMachineModel$Machine" "shown" "J") (List.mem_of_getElem? (i := 1) rfl)) (fun _ h9 => h9) rfl (by decide +kernel) rfl rfl (Nat.le_of_ble_eq_true rfl) dX16_show_75 (fun H locs hP hD hS => ?_)
  obtain ⟨s5, es5, h⟩ := nd_let_e h
  have hP : va_P (dC, dI) vwCl (dw_X16 a ac s5) H := by rw [es5]; exact hP
  have hD : va_D A (dw_X16 a ac s5) := by rw [es5]; exact hD
  exact K _ _ _ _ _ dX16_show_78 (Option.some.inj h).symm hP hD hS
set_option maxHeartbeats 40000000 in
set_option maxRecDepth 100000 in
theorem db_X16_show_40 {p : Program} {l : Launch} {e : Env} {s : State} {m : MethodId} {args : Array Value} {below : List Frame} {meth : Method} {c : Code} {Q : State → Prop} {A : Nat → Prop} {dC : Nat → ClassId} {dI : Nat → Nat → Nat} {a : Nat → Nat} {ac : Nat → ClassId} {n : Nat} {r : St × (St)} (C : nd_C p l s m args c A (dC, dI) cX16_show 3 RX16 ow_dm_X16_show (dk_X16 ac)) (K : nd_Kv p l e (headSpec ow_dm_X16_show ({ frames := 0, cells := 0, slots := 0, locals := 0 })).room s m args below meth c Q A (dC, dI) cX16_show (St × (St)) (dw_X16 a ac) r) : dj_X16_show_40 p l e s m args below meth c Q A dC dI a ac (df_X16_show_40 n) r := by
  obtain ⟨hlt, hx, hb, hml, hown, hts, hN, hA, hK⟩ := id C
  intro x1 s0 H locs ls h hP hD hS hl
  unfold df_X16_show_40 at h
  refine lv_aload_n hx hb dX16_show_40 rfl (lv_at hl 0 rfl) ?_
  refine va_get (D := (dC, dI)) (ci := 17) (v := .ref (a 34)) (C := RX16) (T := TX16) (N := 56) hx hb hts hi_dm_X16_show_X16 hown hK hP 0 rfl rfl 44 (by decide) (hts (.fieldLink RX16 112 "TimeMachineModel$Machine" "shownBytes" "[I") (List.mem_of_getElem? (i := 3) rfl)) (fun _ h9 => h9) rfl dX16_show_41 ?_
  refine lv_aload_n hx hb dX16_show_44 rfl (lv_at hl 0 rfl) ?_
  refine va_get (D := (dC, dI)) (ci := 17) (v := .long (sL s0.1 2)) (C := RX16) (T := TX16) (N := 56) hx hb hts hi_dm_X16_show_X16 hown hK hP 0 rfl rfl 45 (by decide) (hts (.fieldLink RX16 147 "TimeMachineModel$Machine" "shown" "J") (List.mem_of_getElem? (i := 1) rfl)) (fun _ h9 => h9) rfl dX16_show_45 ?_
  refine lv_ldc2 hx hb hown (hts (.constantLong RX16 497 (2048)) (List.mem_of_getElem? (i := 2) rfl)) dX16_show_48 ?_
  refine W.lcmp hx hb dX16_show_51 ?_
  refine lv_if_ge (tgt := 63) hx hb dX16_show_52 (by decide) (fun c2 => ?_) (fun c2 => ?_)
  · have h := nd_pos h c2
    refine lv_sipush (v := 2047) hx hb dX16_show_63 (by decide) ?_
    exact (db_X16_show_66 C K) (x1) (2047) s0 _ _ _ h hP hD hS (lv_sub hl [0, 1] rfl)
  · have h := nd_neg h c2
    refine lv_aload_n hx hb dX16_show_55 rfl (lv_at hl 0 rfl) ?_
    refine va_get (D := (dC, dI)) (ci := 17) (v := .long (sL s0.1 2)) (C := RX16) (T := TX16) (N := 56) hx hb hts hi_dm_X16_show_X16 hown hK hP 0 rfl rfl 45 (by decide) (hts (.fieldLink RX16 147 "TimeMachineModel$Machine" "shown" "J") (List.mem_of_getElem? (i := 1) rfl)) (fun _ h9 => h9) rfl dX16_show_56 ?_
    refine lv_l2i hx hb dX16_show_59 rfl ?_
    refine lv_goto (tgt := 66) hx hb dX16_show_60 (by decide) ?_
    exact (db_X16_show_66 C K) (x1) (((sL s0.1 2).toInt32)) s0 _ _ _ h hP hD hS (lv_sub hl [0, 1] rfl)
set_option maxHeartbeats 40000000 in
set_option maxRecDepth 100000 in
theorem dB_X16_show_13 {p : Program} {l : Launch} {e : Env} {s : State} {m : MethodId} {args : Array Value} {below : List Frame} {meth : Method} {c : Code} {Q : State → Prop} {A : Nat → Prop} {dC : Nat → ClassId} {dI : Nat → Nat → Nat} {a : Nat → Nat} {ac : Nat → ClassId} {n : Nat} {r : St × (St)} (C : nd_C p l s m args c A (dC, dI) cX16_show 3 RX16 ow_dm_X16_show (dk_X16 ac)) (K : nd_Kv p l e (headSpec ow_dm_X16_show ({ frames := 0, cells := 0, slots := 0, locals := 0 })).room s m args below meth c Q A (dC, dI) cX16_show (St × (St)) (dw_X16 a ac) r) {g13 : Int32 → Int32 → (St × (St)) → Option (St × (St))} (J13 : dj_X16_show_13 p l e s m args below meth c Q A dC dI a ac g13 r) : dj_X16_show_13 p l e s m args below meth c Q A dC dI a ac (dF_X16_show_13 n g13) r := by
  obtain ⟨hlt, hx, hb, hml, hown, hts, hN, hA, hK⟩ := id C
  intro x1 x2 s0 H locs ls h hP hD hS hl
  unfold dF_X16_show_13 at h
  refine lv_iload_n hx hb dX16_show_13 rfl (lv_at hl 2 rfl) ?_
  refine lv_sipush (v := 2048) hx hb dX16_show_14 (by decide) ?_
  refine lv_icmp_ge (tgt := 40) hx hb dX16_show_17 (by decide) (fun c6 => ?_) (fun c6 => ?_)
  · have h := nd_pos h c6
    exact (db_X16_show_40 C K) (x1) s0 _ _ _ h hP hD hS (lv_sub hl [0, 1] rfl)
  · have h := nd_neg h c6
    refine lv_aload_n hx hb dX16_show_20 rfl (lv_at hl 0 rfl) ?_
    refine va_get (D := (dC, dI)) (ci := 17) (v := .ref (a 34)) (C := RX16) (T := TX16) (N := 56) hx hb hts hi_dm_X16_show_X16 hown hK hP 0 rfl rfl 44 (by decide) (hts (.fieldLink RX16 112 "TimeMachineModel$Machine" "shownBytes" "[I") (List.mem_of_getElem? (i := 3) rfl)) (fun _ h9 => h9) rfl dX16_show_21 ?_
    refine lv_iload_n hx hb dX16_show_24 rfl (lv_at hl 2 rfl) ?_
    refine lv_iconst (v := 1) hx hb dX16_show_25 (by decide) ?_
    refine lv_isub hx hb dX16_show_26 ?_
    refine lv_aload_n hx hb dX16_show_27 rfl (lv_at hl 0 rfl) ?_
    refine va_get (D := (dC, dI)) (ci := 17) (v := .ref (a 34)) (C := RX16) (T := TX16) (N := 56) hx hb hts hi_dm_X16_show_X16 hown hK hP 0 rfl rfl 44 (by decide) (hts (.fieldLink RX16 112 "TimeMachineModel$Machine" "shownBytes" "[I") (List.mem_of_getElem? (i := 3) rfl)) (fun _ h9 => h9) rfl dX16_show_28 ?_
    refine lv_iload_n hx hb dX16_show_31 rfl (lv_at hl 2 rfl) ?_
    obtain ⟨i7, h⟩ := nd_ck_e h
    refine va_iald (i := x2) hx hb hK hP 34 33 rfl rfl i7 dX16_show_32 ?_
    obtain ⟨i8, h⟩ := nd_ck_e h
    refine va_iast (i := (x2 - 1)) (x := (sR s0.1 32 (Int32.toNatClampNeg x2))) hx hb hK hP hD hS 34 33 rfl rfl i8 dX16_show_33 (fun H locs hP hD hS => ?_)
    obtain ⟨s9, es9, h⟩ := nd_let_e h
    have hP : va_P (dC, dI) vwCl (dw_X16 a ac s9) H := by rw [es9]; exact hP
    have hD : va_D A (dw_X16 a ac s9) := by rw [es9]; exact hD
    obtain ⟨z10, ez10, h⟩ := nd_let_e h
    refine lv_iinc (v := z10) (lv' := [(2, .int z10), (0, .ref (a 0)), (1, .int x1)]) hx hb dX16_show_34 hl (k := 2) rfl (by rw [ez10]) (by decide) rfl (fun ls hl => ?_)
    refine lv_goto (tgt := 13) hx hb dX16_show_37 (by decide) ?_
    exact (J13) (x1) (z10) s9 _ _ _ h hP hD hS (lv_sub hl [1, 2, 0] rfl)
set_option maxHeartbeats 40000000 in
set_option maxRecDepth 100000 in
theorem db_X16_show_13 {p : Program} {l : Launch} {e : Env} {s : State} {m : MethodId} {args : Array Value} {below : List Frame} {meth : Method} {c : Code} {Q : State → Prop} {A : Nat → Prop} {dC : Nat → ClassId} {dI : Nat → Nat → Nat} {a : Nat → Nat} {ac : Nat → ClassId} {n : Nat} {r : St × (St)} (C : nd_C p l s m args c A (dC, dI) cX16_show 3 RX16 ow_dm_X16_show (dk_X16 ac)) (K : nd_Kv p l e (headSpec ow_dm_X16_show ({ frames := 0, cells := 0, slots := 0, locals := 0 })).room s m args below meth c Q A (dC, dI) cX16_show (St × (St)) (dw_X16 a ac) r) (k : Nat) : dj_X16_show_13 p l e s m args below meth c Q A dC dI a ac (df_X16_show_13 n k) r := by
  induction k with
  | zero => intro x1 x2 s0 H locs ls h; exact nomatch (show (none : Option (St × (St))) = some r from h)
  | succ k ih => exact dB_X16_show_13 C K ih
set_option maxHeartbeats 40000000 in
set_option maxRecDepth 100000 in
theorem db_X16_show_0 {p : Program} {l : Launch} {e : Env} {s : State} {m : MethodId} {args : Array Value} {below : List Frame} {meth : Method} {c : Code} {Q : State → Prop} {A : Nat → Prop} {dC : Nat → ClassId} {dI : Nat → Nat → Nat} {a : Nat → Nat} {ac : Nat → ClassId} {n : Nat} {r : St × (St)} (C : nd_C p l s m args c A (dC, dI) cX16_show 3 RX16 ow_dm_X16_show (dk_X16 ac)) (K : nd_Kv p l e (headSpec ow_dm_X16_show ({ frames := 0, cells := 0, slots := 0, locals := 0 })).room s m args below meth c Q A (dC, dI) cX16_show (St × (St)) (dw_X16 a ac) r) : dj_X16_show_0 p l e s m args below meth c Q A dC dI a ac (df_X16_show_0 n) r := by
  obtain ⟨hlt, hx, hb, hml, hown, hts, hN, hA, hK⟩ := id C
  intro v0 s0 H locs ls h hP hD hS hl
  unfold df_X16_show_0 at h
  refine lv_aload_n hx hb dX16_show_0 rfl (lv_at hl 0 rfl) ?_
  refine va_get (D := (dC, dI)) (ci := 17) (v := .long (sL s0.1 2)) (C := RX16) (T := TX16) (N := 56) hx hb hts hi_dm_X16_show_X16 hown hK hP 0 rfl rfl 45 (by decide) (hts (.fieldLink RX16 147 "TimeMachineModel$Machine" "shown" "J") (List.mem_of_getElem? (i := 1) rfl)) (fun _ h9 => h9) rfl dX16_show_1 ?_
  refine lv_ldc2 hx hb hown (hts (.constantLong RX16 497 (2048)) (List.mem_of_getElem? (i := 2) rfl)) dX16_show_4 ?_
  refine W.lcmp hx hb dX16_show_7 ?_
  refine lv_if_lt (tgt := 40) hx hb dX16_show_8 (by decide) (fun c1 => ?_) (fun c1 => ?_)
  · have h := nd_pos h c1
    exact (db_X16_show_40 C K) (v0) s0 _ _ _ h hP hD hS (lv_sub hl [0, 1] rfl)
  · have h := nd_neg h c1
    refine lv_iconst (v := 1) hx hb dX16_show_11 (by decide) ?_
    refine lv_istore_n (lv' := [(2, .int 1), (0, .ref (a 0)), (1, .int v0)]) hx hb dX16_show_12 rfl hl (by decide) rfl (fun ls hl => ?_)
    exact (db_X16_show_13 C K n) (v0) (1) s0 _ _ _ h hP hD hS (lv_sub hl [1, 2, 0] rfl)
set_option maxHeartbeats 40000000 in
set_option maxRecDepth 100000 in
theorem dm_X16_show (l : Launch) (hlt : l.stackTraces = false) (dC : Nat → ClassId) (dI : Nat → Nat → Nat) (a : Nat → Nat) (ac : Nat → ClassId) (n : Nat) (v0 : Int32) (s0 : St × (St)) {r : St × (St)} (h : df_X16_show n v0 s0 = some r) (sz : Nat) : Met l yX16_show ow_dm_X16_show ({ frames := 0, cells := 0, slots := 0, locals := 0 }) (va_Pc [.ref (a 0), .int v0] (fun U => U.heap.size = sz ∧ va_P (dC, dI) vwCl (dw_X16 a ac s0) U.heap ∧ va_K (dC, dI) vwCl (dk_X16 ac) U ∧ va_D (fun _ => True) (dw_X16 a ac s0) ∧ nv_E dI (va_A (dw_X16 a ac s0) sz) U)) (va_Qv (fun _ => True) (fun (_ : Unit) t => va_P (dC, dI) vwCl (dw_X16 a ac r) t.heap ∧ va_K (dC, dI) vwCl (dk_X16 ac) t ∧ va_D (va_A (dw_X16 a ac s0) sz) (dw_X16 a ac r)) (va_A (dw_X16 a ac s0) sz)) 0 0 (va_A (dw_X16 a ac s0) sz) := by
  refine Met.ofW (cc := cX16_show) (maxL := 3) (ret := none) (by decide) rfl ?_
  intro p e s m args below meth c s₁ B hml hv
  obtain ⟨rfl, hsz, hP, hK, hD0, hN⟩ := hv
  have hx := B.exec
  have hb := B.bytes
  have hr := B.returns
  have hts := atoms_spec (ws := ow_dm_X16_show) B.pre
  have hown : s.vm.findClass RX16 = some m.cls := findClass_of_methodNamed B.named
  have hlocks := B.notSynchronized
  subst hsz
  have hD := hD0.self (sz := s.heap.size)
  generalize hAe : va_A (dw_X16 a ac s0) s.heap.size = A at hD hN ⊢
  have hA : ∀ q : Nat, s.heap.size ≤ q → A q := fun q h => by rw [← hAe]; exact Or.inr h
  have hl := lv_entry ([.ref (a 0), .int v0]) (n := 3) (Nat.le_of_ble_eq_true rfl)
  rw [lg_entry_eq]
  generalize (lg_sl ([.ref (a 0), .int v0]) ++ List.replicate (3 - (lg_sl ([.ref (a 0), .int v0])).length) Slot.unset).toArray = ls at hl ⊢
  have hl : lv_has ls 3 [(0, .ref (a 0)), (1, .int v0)] := hl
  exact db_X16_show_0 (dC := dC) (dI := dI) (a := a) (ac := ac) (n := n) (r := r) ⟨hlt, hx, hb, hml, hown, hts, hN, hA, hK⟩ (fun pc τ H locs ls d er hP hD hS => by subst er; exact W.vret hx hb hr (fun t ht hW => ⟨⟨(), rfl, trivial, by rw [ht]; exact hP, va_K.moved hW.alike hK, hD⟩, hS.F ht⟩) hS.2.2 d) v0 s0 _ _ _ h hP hD va_S.rf (lv_sub hl [0, 1] rfl)
def ow_dm_X16_writeFile : List Cond := Cond.code yX16_writeFile cX16_writeFile 7 (some .int) :: ([Cond.fieldLink RX16 82 "TimeMachineModel$Machine" "right" "[I", Cond.fieldLink RX16 79 "TimeMachineModel$Machine" "position" "[I", Cond.fieldLink RX16 100 "TimeMachineModel$Machine" "length" "[I", Cond.fieldLink RX16 103 "TimeMachineModel$Machine" "fileBytes" "[I", Cond.methodLink RX16 235 yX16_byteAt, Cond.instanceMethod yX16_byteAt, Cond.selects RX16 yX16_byteAt yX16_byteAt, Cond.initialized RX16] ++ (u_ws RX16 TX16 56 ++ (ow_dm_X16_byteAt ++ [])))
theorem gd_dm_X16_writeFile : ∀ w ∈ ow_dm_X16_writeFile, (w.onTables && w.keeps) = true ∨ ∃ ty, w = Cond.arrayClass ty := List.forall_mem_cons.mpr ⟨good_of_word rfl, List.forall_mem_append.mpr ⟨fun w h => good_of_word (List.all_eq_true.mp (by decide +kernel) w h), List.forall_mem_append.mpr ⟨gu_X16, List.forall_mem_append.mpr ⟨gd_dm_X16_byteAt, fun _ h => nomatch h⟩⟩⟩⟩
theorem hi_dm_X16_writeFile_X16 : ∀ w ∈ u_ws RX16 TX16 56, w ∈ ow_dm_X16_writeFile := fun w h => List.mem_cons_of_mem _ (List.mem_append_right _ (List.mem_append_left _ h))
theorem gi_dm_X16_writeFile_0 : GoodIn ow_dm_X16_writeFile (wsV RX16 235 RX16 yX16_byteAt ow_dm_X16_byteAt) := goodIn_app (goodIn_of _ (by decide +kernel)) (fun w h => ⟨List.mem_cons_of_mem _ (List.mem_append_right _ (List.mem_append_right _ (List.mem_append_left _ h))), gd_dm_X16_byteAt w h⟩)
def dj_X16_writeFile_168 (p : Program) (l : Launch) (e : Env) (s : State) (m : MethodId) (args : Array Value) (below : List Frame) (meth : Method) (c : Code) (Q : State → Prop) (A : Nat → Prop) (dC : Nat → ClassId) (dI : Nat → Nat → Nat) (a : Nat → Nat) (ac : Nat → ClassId) (g : Int32 → Int32 → Int32 → (St × (St)) → Option (Int32 × (St × (St)))) (r : Int32 × (St × (St))) : Prop := ∀ (x4 : Int32) (y1 : Int32) (y2 : Int32) (s0 : St × (St)) (H : Heap) (locs : List Loc) (ls : Array Slot), g x4 y1 y2 s0 = some r → va_P (dC, dI) vwCl (dw_X16 a ac s0) H → va_D A (dw_X16 a ac s0) → va_S A s.heap H locs → lv_has ls 7 [(4, .int x4)] → W p l e (headSpec ow_dm_X16_writeFile ({ frames := 2, cells := 0, slots := 0, locals := 42 })).room s m args below meth c H locs 0 0 Q (F0 m 168 ls [.int y2, .int y1, .ref (a 30)])
def dj_X16_writeFile_87 (p : Program) (l : Launch) (e : Env) (s : State) (m : MethodId) (args : Array Value) (below : List Frame) (meth : Method) (c : Code) (Q : State → Prop) (A : Nat → Prop) (dC : Nat → ClassId) (dI : Nat → Nat → Nat) (a : Nat → Nat) (ac : Nat → ClassId) (g : Int32 → Int32 → Int32 → Int32 → Int32 → Int32 → (St × (St)) → Option (Int32 × (St × (St)))) (r : Int32 × (St × (St))) : Prop := ∀ (x1 : Int32) (x2 : Int32) (x3 : Int32) (x4 : Int32) (x5 : Int32) (x6 : Int32) (s0 : St × (St)) (H : Heap) (locs : List Loc) (ls : Array Slot), g x1 x2 x3 x4 x5 x6 s0 = some r → va_P (dC, dI) vwCl (dw_X16 a ac s0) H → va_D A (dw_X16 a ac s0) → va_S A s.heap H locs → lv_has ls 7 [(0, .ref (a 0)), (1, .int x1), (2, .int x2), (3, .int x3), (4, .int x4), (5, .int x5), (6, .int x6)] → W p l e (headSpec ow_dm_X16_writeFile ({ frames := 2, cells := 0, slots := 0, locals := 42 })).room s m args below meth c H locs 0 0 Q (F0 m 87 ls [])
def dj_X16_writeFile_57 (p : Program) (l : Launch) (e : Env) (s : State) (m : MethodId) (args : Array Value) (below : List Frame) (meth : Method) (c : Code) (Q : State → Prop) (A : Nat → Prop) (dC : Nat → ClassId) (dI : Nat → Nat → Nat) (a : Nat → Nat) (ac : Nat → ClassId) (g : Int32 → Int32 → Int32 → Int32 → Int32 → Int32 → (St × (St)) → Option (Int32 × (St × (St)))) (r : Int32 × (St × (St))) : Prop := ∀ (x1 : Int32) (x2 : Int32) (x3 : Int32) (x4 : Int32) (x5 : Int32) (x6 : Int32) (s0 : St × (St)) (H : Heap) (locs : List Loc) (ls : Array Slot), g x1 x2 x3 x4 x5 x6 s0 = some r → va_P (dC, dI) vwCl (dw_X16 a ac s0) H → va_D A (dw_X16 a ac s0) → va_S A s.heap H locs → lv_has ls 7 [(0, .ref (a 0)), (1, .int x1), (2, .int x2), (3, .int x3), (4, .int x4), (5, .int x5), (6, .int x6)] → W p l e (headSpec ow_dm_X16_writeFile ({ frames := 2, cells := 0, slots := 0, locals := 42 })).room s m args below meth c H locs 0 0 Q (F0 m 57 ls [])
def dj_X16_writeFile_33 (p : Program) (l : Launch) (e : Env) (s : State) (m : MethodId) (args : Array Value) (below : List Frame) (meth : Method) (c : Code) (Q : State → Prop) (A : Nat → Prop) (dC : Nat → ClassId) (dI : Nat → Nat → Nat) (a : Nat → Nat) (ac : Nat → ClassId) (g : Int32 → Int32 → Int32 → Int32 → Int32 → (St × (St)) → Option (Int32 × (St × (St)))) (r : Int32 × (St × (St))) : Prop := ∀ (x1 : Int32) (x2 : Int32) (x3 : Int32) (x4 : Int32) (y0 : Int32) (s0 : St × (St)) (H : Heap) (locs : List Loc) (ls : Array Slot), g x1 x2 x3 x4 y0 s0 = some r → va_P (dC, dI) vwCl (dw_X16 a ac s0) H → va_D A (dw_X16 a ac s0) → va_S A s.heap H locs → lv_has ls 7 [(0, .ref (a 0)), (1, .int x1), (2, .int x2), (3, .int x3), (4, .int x4)] → W p l e (headSpec ow_dm_X16_writeFile ({ frames := 2, cells := 0, slots := 0, locals := 42 })).room s m args below meth c H locs 0 0 Q (F0 m 33 ls [.int y0])
def dj_X16_writeFile_0 (p : Program) (l : Launch) (e : Env) (s : State) (m : MethodId) (args : Array Value) (below : List Frame) (meth : Method) (c : Code) (Q : State → Prop) (A : Nat → Prop) (dC : Nat → ClassId) (dI : Nat → Nat → Nat) (a : Nat → Nat) (ac : Nat → ClassId) (g : Int32 → Int32 → Int32 → Int32 → (St × (St)) → Option (Int32 × (St × (St)))) (r : Int32 × (St × (St))) : Prop := ∀ (v0 : Int32) (v1 : Int32) (v2 : Int32) (v3 : Int32) (s0 : St × (St)) (H : Heap) (locs : List Loc) (ls : Array Slot), g v0 v1 v2 v3 s0 = some r → va_P (dC, dI) vwCl (dw_X16 a ac s0) H → va_D A (dw_X16 a ac s0) → va_S A s.heap H locs → lv_has ls 7 [(0, .ref (a 0)), (1, .int v0), (2, .int v1), (3, .int v2), (4, .int v3)] → W p l e (headSpec ow_dm_X16_writeFile ({ frames := 2, cells := 0, slots := 0, locals := 42 })).room s m args below meth c H locs 0 0 Q (F0 m 0 ls [])
set_option maxHeartbeats 40000000 in
set_option maxRecDepth 100000 in
theorem db_X16_writeFile_168 {p : Program} {l : Launch} {e : Env} {s : State} {m : MethodId} {args : Array Value} {below : List Frame} {meth : Method} {c : Code} {Q : State → Prop} {A : Nat → Prop} {dC : Nat → ClassId} {dI : Nat → Nat → Nat} {a : Nat → Nat} {ac : Nat → ClassId} {n : Nat} {r : Int32 × (St × (St))} (C : nd_C p l s m args c A (dC, dI) cX16_writeFile 7 RX16 ow_dm_X16_writeFile (dk_X16 ac)) (K : nd_Ki p l e (headSpec ow_dm_X16_writeFile ({ frames := 2, cells := 0, slots := 0, locals := 42 })).room s m args below meth c Q A (dC, dI) cX16_writeFile .int (St × (St)) (dw_X16 a ac) r) : dj_X16_writeFile_168 p l e s m args below meth c Q A dC dI a ac (df_X16_writeFile_168 n) r := by
  obtain ⟨hlt, hx, hb, hml, hown, hts, hN, hA, hK⟩ := id C
  intro x4 y1 y2 s0 H locs ls h hP hD hS hl
  unfold df_X16_writeFile_168 at h
  obtain ⟨i15, h⟩ := nd_ck_e h
  refine va_iast (i := y1) (x := y2) hx hb hK hP hD hS 30 29 rfl rfl i15 dX16_writeFile_168 (fun H locs hP hD hS => ?_)
  obtain ⟨s16, es16, h⟩ := nd_let_e h
  have hP : va_P (dC, dI) vwCl (dw_X16 a ac s16) H := by rw [es16]; exact hP
  have hD : va_D A (dw_X16 a ac s16) := by rw [es16]; exact hD
  refine lv_iload hx hb dX16_writeFile_169 (lv_at hl 0 rfl) ?_
  exact K _ _ _ _ _ _ dX16_writeFile_171 rfl (Option.some.inj h).symm hP hD hS
set_option maxHeartbeats 40000000 in
set_option maxRecDepth 100000 in
theorem dB_X16_writeFile_87 {p : Program} {l : Launch} {e : Env} {s : State} {m : MethodId} {args : Array Value} {below : List Frame} {meth : Method} {c : Code} {Q : State → Prop} {A : Nat → Prop} {dC : Nat → ClassId} {dI : Nat → Nat → Nat} {a : Nat → Nat} {ac : Nat → ClassId} {n : Nat} {r : Int32 × (St × (St))} (C : nd_C p l s m args c A (dC, dI) cX16_writeFile 7 RX16 ow_dm_X16_writeFile (dk_X16 ac)) (K : nd_Ki p l e (headSpec ow_dm_X16_writeFile ({ frames := 2, cells := 0, slots := 0, locals := 42 })).room s m args below meth c Q A (dC, dI) cX16_writeFile .int (St × (St)) (dw_X16 a ac) r) {g87 : Int32 → Int32 → Int32 → Int32 → Int32 → Int32 → (St × (St)) → Option (Int32 × (St × (St)))} (J87 : dj_X16_writeFile_87 p l e s m args below meth c Q A dC dI a ac g87 r) : dj_X16_writeFile_87 p l e s m args below meth c Q A dC dI a ac (dF_X16_writeFile_87 n g87) r := by
  obtain ⟨hlt, hx, hb, hml, hown, hts, hN, hA, hK⟩ := id C
  intro x1 x2 x3 x4 x5 x6 s0 H locs ls h hP hD hS hl
  unfold dF_X16_writeFile_87 at h
  refine lv_iload hx hb dX16_writeFile_87 (lv_at hl 6 rfl) ?_
  refine lv_iload hx hb dX16_writeFile_89 (lv_at hl 4 rfl) ?_
  refine lv_icmp_ge (tgt := 124) hx hb dX16_writeFile_91 (by decide) (fun c9 => ?_) (fun c9 => ?_)
  · have h := nd_pos h c9
    refine lv_aload_n hx hb dX16_writeFile_124 rfl (lv_at hl 0 rfl) ?_
    refine va_get (D := (dC, dI)) (ci := 17) (v := .ref (a 23)) (C := RX16) (T := TX16) (N := 56) hx hb hts hi_dm_X16_writeFile_X16 hown hK hP 0 rfl rfl 32 (by decide) (hts (.fieldLink RX16 79 "TimeMachineModel$Machine" "position" "[I") (List.mem_of_getElem? (i := 2) rfl)) (fun _ h9 => h9) rfl dX16_writeFile_125 ?_
    refine lv_iload_n hx hb dX16_writeFile_128 rfl (lv_at hl 1 rfl) ?_
    refine lv_iload hx hb dX16_writeFile_129 (lv_at hl 5 rfl) ?_
    refine lv_iload hx hb dX16_writeFile_131 (lv_at hl 4 rfl) ?_
    refine lv_iadd hx hb dX16_writeFile_133 ?_
    obtain ⟨i10, h⟩ := nd_ck_e h
    refine va_iast (i := x1) (x := (x5 + x4)) hx hb hK hP hD hS 23 22 rfl rfl i10 dX16_writeFile_134 (fun H locs hP hD hS => ?_)
    obtain ⟨s11, es11, h⟩ := nd_let_e h
    have hP : va_P (dC, dI) vwCl (dw_X16 a ac s11) H := by rw [es11]; exact hP
    have hD : va_D A (dw_X16 a ac s11) := by rw [es11]; exact hD
    refine lv_aload_n hx hb dX16_writeFile_135 rfl (lv_at hl 0 rfl) ?_
    refine va_get (D := (dC, dI)) (ci := 17) (v := .ref (a 30)) (C := RX16) (T := TX16) (N := 56) hx hb hts hi_dm_X16_writeFile_X16 hown hK hP 0 rfl rfl 39 (by decide) (hts (.fieldLink RX16 100 "TimeMachineModel$Machine" "length" "[I") (List.mem_of_getElem? (i := 3) rfl)) (fun _ h9 => h9) rfl dX16_writeFile_136 ?_
    refine lv_iload_n hx hb dX16_writeFile_139 rfl (lv_at hl 2 rfl) ?_
    refine lv_iload hx hb dX16_writeFile_140 (lv_at hl 5 rfl) ?_
    refine lv_iload hx hb dX16_writeFile_142 (lv_at hl 4 rfl) ?_
    refine lv_iadd hx hb dX16_writeFile_144 ?_
    refine lv_aload_n hx hb dX16_writeFile_145 rfl (lv_at hl 0 rfl) ?_
    refine va_get (D := (dC, dI)) (ci := 17) (v := .ref (a 30)) (C := RX16) (T := TX16) (N := 56) hx hb hts hi_dm_X16_writeFile_X16 hown hK hP 0 rfl rfl 39 (by decide) (hts (.fieldLink RX16 100 "TimeMachineModel$Machine" "length" "[I") (List.mem_of_getElem? (i := 3) rfl)) (fun _ h9 => h9) rfl dX16_writeFile_146 ?_
    refine lv_iload_n hx hb dX16_writeFile_149 rfl (lv_at hl 2 rfl) ?_
    obtain ⟨i12, h⟩ := nd_ck_e h
    refine va_iald (i := x2) hx hb hK hP 30 29 rfl rfl i12 dX16_writeFile_150 ?_
    refine lv_icmp_le (tgt := 162) hx hb dX16_writeFile_151 (by decide) (fun c13 => ?_) (fun c13 => ?_)
    · have h := nd_pos h c13
      refine lv_aload_n hx hb dX16_writeFile_162 rfl (lv_at hl 0 rfl) ?_
      refine va_get (D := (dC, dI)) (ci := 17) (v := .ref (a 30)) (C := RX16) (T := TX16) (N := 56) hx hb hts hi_dm_X16_writeFile_X16 hown hK hP 0 rfl rfl 39 (by decide) (hts (.fieldLink RX16 100 "TimeMachineModel$Machine" "length" "[I") (List.mem_of_getElem? (i := 3) rfl)) (fun _ h9 => h9) rfl dX16_writeFile_163 ?_
      refine lv_iload_n hx hb dX16_writeFile_166 rfl (lv_at hl 2 rfl) ?_
      obtain ⟨i14, h⟩ := nd_ck_e h
      refine va_iald (i := x2) hx hb hK hP 30 29 rfl rfl i14 dX16_writeFile_167 ?_
      exact (db_X16_writeFile_168 C K) (x4) (x2) ((sR s11.1 28 (Int32.toNatClampNeg x2))) s11 _ _ _ h hP hD hS (lv_sub hl [4] rfl)
    · have h := nd_neg h c13
      refine lv_iload hx hb dX16_writeFile_154 (lv_at hl 5 rfl) ?_
      refine lv_iload hx hb dX16_writeFile_156 (lv_at hl 4 rfl) ?_
      refine lv_iadd hx hb dX16_writeFile_158 ?_
      refine lv_goto (tgt := 168) hx hb dX16_writeFile_159 (by decide) ?_
      exact (db_X16_writeFile_168 C K) (x4) (x2) ((x5 + x4)) s11 _ _ _ h hP hD hS (lv_sub hl [4] rfl)
  · have h := nd_neg h c9
    refine lv_aload_n hx hb dX16_writeFile_94 rfl (lv_at hl 0 rfl) ?_
    refine va_get (D := (dC, dI)) (ci := 17) (v := .ref (a 31)) (C := RX16) (T := TX16) (N := 56) hx hb hts hi_dm_X16_writeFile_X16 hown hK hP 0 rfl rfl 40 (by decide) (hts (.fieldLink RX16 103 "TimeMachineModel$Machine" "fileBytes" "[I") (List.mem_of_getElem? (i := 4) rfl)) (fun _ h9 => h9) rfl dX16_writeFile_95 ?_
    refine lv_sipush (v := 512) hx hb dX16_writeFile_98 (by decide) ?_
    refine lv_iload_n hx hb dX16_writeFile_101 rfl (lv_at hl 2 rfl) ?_
    refine lv_imul hx hb dX16_writeFile_102 ?_
    refine lv_iload hx hb dX16_writeFile_103 (lv_at hl 5 rfl) ?_
    refine lv_iadd hx hb dX16_writeFile_105 ?_
    refine lv_iload hx hb dX16_writeFile_106 (lv_at hl 6 rfl) ?_
    refine lv_iadd hx hb dX16_writeFile_108 ?_
    refine lv_aload_n hx hb dX16_writeFile_109 rfl (lv_at hl 0 rfl) ?_
    refine lv_iload_n hx hb dX16_writeFile_110 rfl (lv_at hl 3 rfl) ?_
    refine lv_iload hx hb dX16_writeFile_111 (lv_at hl 6 rfl) ?_
    refine lv_iadd hx hb dX16_writeFile_113 ?_
    obtain ⟨q17, s18, hq, h⟩ := nd_b2_e h
    have hPc := hP
    have hDc := hD
    have hKc := hK
    have hFc := nd_rs hD hS hA
    refine nd_cVi (As := [.int (x3 + x6)]) (rest := [.int (((512 * x2) + x5) + x6), .ref (a 31)]) (q := q17) (w' := dw_X16 a ac s18) ⟨hx, hb, hml, hown, hts⟩ (fun sz => dm_X16_byteAt l hlt dC dI a ac n ((x3 + x6)) s0 hq sz) (cwV 1 hts gi_dm_X16_writeFile_0 rfl rfl rfl (by decide +kernel) ⟨Nat.le_of_ble_eq_true rfl, Nat.le_of_ble_eq_true rfl⟩) hPc hDc hKc hS hA hN (va_recv hKc hPc (ci := 17) (q0 := 0) rfl rfl) rfl hl.1 rfl (Nat.le_of_ble_eq_true rfl) dX16_writeFile_114 (fun H locs hP1 hD1 hk1 hS => ?_)
    have hP := hP1
    have hD := hD1.weaken (fun k q _ h => hFc q.1 h)
    obtain ⟨i20, h⟩ := nd_ck_e h
    refine va_iast (i := (((512 * x2) + x5) + x6)) (x := q17) hx hb hK hP hD hS 31 30 rfl rfl i20 dX16_writeFile_117 (fun H locs hP hD hS => ?_)
    obtain ⟨s21, es21, h⟩ := nd_let_e h
    have hP : va_P (dC, dI) vwCl (dw_X16 a ac s21) H := by rw [es21]; exact hP
    have hD : va_D A (dw_X16 a ac s21) := by rw [es21]; exact hD
    obtain ⟨z22, ez22, h⟩ := nd_let_e h
    refine lv_iinc (v := z22) (lv' := [(6, .int z22), (0, .ref (a 0)), (1, .int x1), (2, .int x2), (3, .int x3), (4, .int x4), (5, .int x5)]) hx hb dX16_writeFile_118 hl (k := 6) rfl (by rw [ez22]) (by decide) rfl (fun ls hl => ?_)
    refine lv_goto (tgt := 87) hx hb dX16_writeFile_121 (by decide) ?_
    exact (J87) (x1) (x2) (x3) (x4) (x5) (z22) s21 _ _ _ h hP hD hS (lv_sub hl [1, 2, 3, 4, 5, 6, 0] rfl)
set_option maxHeartbeats 40000000 in
set_option maxRecDepth 100000 in
theorem db_X16_writeFile_87 {p : Program} {l : Launch} {e : Env} {s : State} {m : MethodId} {args : Array Value} {below : List Frame} {meth : Method} {c : Code} {Q : State → Prop} {A : Nat → Prop} {dC : Nat → ClassId} {dI : Nat → Nat → Nat} {a : Nat → Nat} {ac : Nat → ClassId} {n : Nat} {r : Int32 × (St × (St))} (C : nd_C p l s m args c A (dC, dI) cX16_writeFile 7 RX16 ow_dm_X16_writeFile (dk_X16 ac)) (K : nd_Ki p l e (headSpec ow_dm_X16_writeFile ({ frames := 2, cells := 0, slots := 0, locals := 42 })).room s m args below meth c Q A (dC, dI) cX16_writeFile .int (St × (St)) (dw_X16 a ac) r) (k : Nat) : dj_X16_writeFile_87 p l e s m args below meth c Q A dC dI a ac (df_X16_writeFile_87 n k) r := by
  induction k with
  | zero => intro x1 x2 x3 x4 x5 x6 s0 H locs ls h; exact nomatch (show (none : Option (Int32 × (St × (St)))) = some r from h)
  | succ k ih => exact dB_X16_writeFile_87 C K ih
set_option maxHeartbeats 40000000 in
set_option maxRecDepth 100000 in
theorem dB_X16_writeFile_57 {p : Program} {l : Launch} {e : Env} {s : State} {m : MethodId} {args : Array Value} {below : List Frame} {meth : Method} {c : Code} {Q : State → Prop} {A : Nat → Prop} {dC : Nat → ClassId} {dI : Nat → Nat → Nat} {a : Nat → Nat} {ac : Nat → ClassId} {n : Nat} {r : Int32 × (St × (St))} (C : nd_C p l s m args c A (dC, dI) cX16_writeFile 7 RX16 ow_dm_X16_writeFile (dk_X16 ac)) (K : nd_Ki p l e (headSpec ow_dm_X16_writeFile ({ frames := 2, cells := 0, slots := 0, locals := 42 })).room s m args below meth c Q A (dC, dI) cX16_writeFile .int (St × (St)) (dw_X16 a ac) r) {g57 : Int32 → Int32 → Int32 → Int32 → Int32 → Int32 → (St × (St)) → Option (Int32 × (St × (St)))} (J57 : dj_X16_writeFile_57 p l e s m args below meth c Q A dC dI a ac g57 r) : dj_X16_writeFile_57 p l e s m args below meth c Q A dC dI a ac (dF_X16_writeFile_57 n g57) r := by
  obtain ⟨hlt, hx, hb, hml, hown, hts, hN, hA, hK⟩ := id C
  intro x1 x2 x3 x4 x5 x6 s0 H locs ls h hP hD hS hl
  unfold dF_X16_writeFile_57 at h
  refine lv_iload hx hb dX16_writeFile_57 (lv_at hl 6 rfl) ?_
  refine lv_iload hx hb dX16_writeFile_59 (lv_at hl 5 rfl) ?_
  refine lv_icmp_ge (tgt := 84) hx hb dX16_writeFile_61 (by decide) (fun c8 => ?_) (fun c8 => ?_)
  · have h := nd_pos h c8
    refine lv_iconst (v := 0) hx hb dX16_writeFile_84 (by decide) ?_
    refine lv_istore (lv' := [(6, .int 0), (0, .ref (a 0)), (1, .int x1), (2, .int x2), (3, .int x3), (4, .int x4), (5, .int x5)]) hx hb dX16_writeFile_85 hl (by decide) rfl (fun ls hl => ?_)
    exact (db_X16_writeFile_87 C K n) (x1) (x2) (x3) (x4) (x5) (0) s0 _ _ _ h hP hD hS (lv_sub hl [1, 2, 3, 4, 5, 6, 0] rfl)
  · have h := nd_neg h c8
    refine lv_aload_n hx hb dX16_writeFile_64 rfl (lv_at hl 0 rfl) ?_
    refine va_get (D := (dC, dI)) (ci := 17) (v := .ref (a 31)) (C := RX16) (T := TX16) (N := 56) hx hb hts hi_dm_X16_writeFile_X16 hown hK hP 0 rfl rfl 40 (by decide) (hts (.fieldLink RX16 103 "TimeMachineModel$Machine" "fileBytes" "[I") (List.mem_of_getElem? (i := 4) rfl)) (fun _ h9 => h9) rfl dX16_writeFile_65 ?_
    refine lv_sipush (v := 512) hx hb dX16_writeFile_68 (by decide) ?_
    refine lv_iload_n hx hb dX16_writeFile_71 rfl (lv_at hl 2 rfl) ?_
    refine lv_imul hx hb dX16_writeFile_72 ?_
    refine lv_iload hx hb dX16_writeFile_73 (lv_at hl 6 rfl) ?_
    refine lv_iadd hx hb dX16_writeFile_75 ?_
    refine lv_iconst (v := 0) hx hb dX16_writeFile_76 (by decide) ?_
    obtain ⟨i23, h⟩ := nd_ck_e h
    refine va_iast (i := ((512 * x2) + x6)) (x := 0) hx hb hK hP hD hS 31 30 rfl rfl i23 dX16_writeFile_77 (fun H locs hP hD hS => ?_)
    obtain ⟨s24, es24, h⟩ := nd_let_e h
    have hP : va_P (dC, dI) vwCl (dw_X16 a ac s24) H := by rw [es24]; exact hP
    have hD : va_D A (dw_X16 a ac s24) := by rw [es24]; exact hD
    obtain ⟨z25, ez25, h⟩ := nd_let_e h
    refine lv_iinc (v := z25) (lv' := [(6, .int z25), (0, .ref (a 0)), (1, .int x1), (2, .int x2), (3, .int x3), (4, .int x4), (5, .int x5)]) hx hb dX16_writeFile_78 hl (k := 6) rfl (by rw [ez25]) (by decide) rfl (fun ls hl => ?_)
    refine lv_goto (tgt := 57) hx hb dX16_writeFile_81 (by decide) ?_
    exact (J57) (x1) (x2) (x3) (x4) (x5) (z25) s24 _ _ _ h hP hD hS (lv_sub hl [1, 2, 3, 4, 5, 6, 0] rfl)
set_option maxHeartbeats 40000000 in
set_option maxRecDepth 100000 in
theorem db_X16_writeFile_57 {p : Program} {l : Launch} {e : Env} {s : State} {m : MethodId} {args : Array Value} {below : List Frame} {meth : Method} {c : Code} {Q : State → Prop} {A : Nat → Prop} {dC : Nat → ClassId} {dI : Nat → Nat → Nat} {a : Nat → Nat} {ac : Nat → ClassId} {n : Nat} {r : Int32 × (St × (St))} (C : nd_C p l s m args c A (dC, dI) cX16_writeFile 7 RX16 ow_dm_X16_writeFile (dk_X16 ac)) (K : nd_Ki p l e (headSpec ow_dm_X16_writeFile ({ frames := 2, cells := 0, slots := 0, locals := 42 })).room s m args below meth c Q A (dC, dI) cX16_writeFile .int (St × (St)) (dw_X16 a ac) r) (k : Nat) : dj_X16_writeFile_57 p l e s m args below meth c Q A dC dI a ac (df_X16_writeFile_57 n k) r := by
  induction k with
  | zero => intro x1 x2 x3 x4 x5 x6 s0 H locs ls h; exact nomatch (show (none : Option (Int32 × (St × (St)))) = some r from h)
  | succ k ih => exact dB_X16_writeFile_57 C K ih
set_option maxHeartbeats 40000000 in
set_option maxRecDepth 100000 in
theorem db_X16_writeFile_33 {p : Program} {l : Launch} {e : Env} {s : State} {m : MethodId} {args : Array Value} {below : List Frame} {meth : Method} {c : Code} {Q : State → Prop} {A : Nat → Prop} {dC : Nat → ClassId} {dI : Nat → Nat → Nat} {a : Nat → Nat} {ac : Nat → ClassId} {n : Nat} {r : Int32 × (St × (St))} (C : nd_C p l s m args c A (dC, dI) cX16_writeFile 7 RX16 ow_dm_X16_writeFile (dk_X16 ac)) (K : nd_Ki p l e (headSpec ow_dm_X16_writeFile ({ frames := 2, cells := 0, slots := 0, locals := 42 })).room s m args below meth c Q A (dC, dI) cX16_writeFile .int (St × (St)) (dw_X16 a ac) r) : dj_X16_writeFile_33 p l e s m args below meth c Q A dC dI a ac (df_X16_writeFile_33 n) r := by
  obtain ⟨hlt, hx, hb, hml, hown, hts, hN, hA, hK⟩ := id C
  intro x1 x2 x3 x4 y0 s0 H locs ls h hP hD hS hl
  unfold df_X16_writeFile_33 at h
  refine lv_istore (lv' := [(5, .int y0), (0, .ref (a 0)), (1, .int x1), (2, .int x2), (3, .int x3), (4, .int x4)]) hx hb dX16_writeFile_33 hl (by decide) rfl (fun ls hl => ?_)
  refine lv_iload hx hb dX16_writeFile_35 (lv_at hl 0 rfl) ?_
  refine lv_iload hx hb dX16_writeFile_37 (lv_at hl 5 rfl) ?_
  refine lv_iadd hx hb dX16_writeFile_39 ?_
  refine lv_sipush (v := 512) hx hb dX16_writeFile_40 (by decide) ?_
  refine lv_icmp_le (tgt := 49) hx hb dX16_writeFile_43 (by decide) (fun c5 => ?_) (fun c5 => ?_)
  · have h := nd_pos h c5
    refine lv_aload_n hx hb dX16_writeFile_49 rfl (lv_at hl 1 rfl) ?_
    refine va_get (D := (dC, dI)) (ci := 17) (v := .ref (a 30)) (C := RX16) (T := TX16) (N := 56) hx hb hts hi_dm_X16_writeFile_X16 hown hK hP 0 rfl rfl 39 (by decide) (hts (.fieldLink RX16 100 "TimeMachineModel$Machine" "length" "[I") (List.mem_of_getElem? (i := 3) rfl)) (fun _ h9 => h9) rfl dX16_writeFile_50 ?_
    refine lv_iload_n hx hb dX16_writeFile_53 rfl (lv_at hl 3 rfl) ?_
    obtain ⟨i6, h⟩ := nd_ck_e h
    refine va_iald (i := x2) hx hb hK hP 30 29 rfl rfl i6 dX16_writeFile_54 ?_
    refine lv_topi (fun z7 ez7 => ?_)
    have h := nd_at h ez7
    refine lv_istore (lv' := [(6, .int z7), (5, .int y0), (0, .ref (a 0)), (1, .int x1), (2, .int x2), (3, .int x3), (4, .int x4)]) hx hb dX16_writeFile_55 hl (by decide) rfl (fun ls hl => ?_)
    exact (db_X16_writeFile_57 C K n) (x1) (x2) (x3) (x4) (y0) (z7) s0 _ _ _ h hP hD hS (lv_sub hl [2, 3, 4, 5, 6, 1, 0] rfl)
  · have h := nd_neg h c5
    refine lv_bipush (v := (-7)) hx hb dX16_writeFile_46 (by decide) ?_
    exact K _ _ _ _ _ _ dX16_writeFile_48 rfl (Option.some.inj h).symm hP hD hS
set_option maxHeartbeats 40000000 in
set_option maxRecDepth 100000 in
theorem db_X16_writeFile_0 {p : Program} {l : Launch} {e : Env} {s : State} {m : MethodId} {args : Array Value} {below : List Frame} {meth : Method} {c : Code} {Q : State → Prop} {A : Nat → Prop} {dC : Nat → ClassId} {dI : Nat → Nat → Nat} {a : Nat → Nat} {ac : Nat → ClassId} {n : Nat} {r : Int32 × (St × (St))} (C : nd_C p l s m args c A (dC, dI) cX16_writeFile 7 RX16 ow_dm_X16_writeFile (dk_X16 ac)) (K : nd_Ki p l e (headSpec ow_dm_X16_writeFile ({ frames := 2, cells := 0, slots := 0, locals := 42 })).room s m args below meth c Q A (dC, dI) cX16_writeFile .int (St × (St)) (dw_X16 a ac) r) : dj_X16_writeFile_0 p l e s m args below meth c Q A dC dI a ac (df_X16_writeFile_0 n) r := by
  obtain ⟨hlt, hx, hb, hml, hown, hts, hN, hA, hK⟩ := id C
  intro v0 v1 v2 v3 s0 H locs ls h hP hD hS hl
  unfold df_X16_writeFile_0 at h
  refine lv_iload hx hb dX16_writeFile_0 (lv_at hl 4 rfl) ?_
  refine lv_if_ne (tgt := 7) hx hb dX16_writeFile_2 (by decide) (fun c1 => ?_) (fun c1 => ?_)
  · have h := nd_neg h c1
    refine lv_aload_n hx hb dX16_writeFile_7 rfl (lv_at hl 0 rfl) ?_
    refine va_get (D := (dC, dI)) (ci := 17) (v := .ref (a 24)) (C := RX16) (T := TX16) (N := 56) hx hb hts hi_dm_X16_writeFile_X16 hown hK hP 0 rfl rfl 33 (by decide) (hts (.fieldLink RX16 82 "TimeMachineModel$Machine" "right" "[I") (List.mem_of_getElem? (i := 1) rfl)) (fun _ h9 => h9) rfl dX16_writeFile_8 ?_
    refine lv_iload_n hx hb dX16_writeFile_11 rfl (lv_at hl 1 rfl) ?_
    obtain ⟨i2, h⟩ := nd_ck_e h
    refine va_iald (i := v0) hx hb hK hP 24 23 rfl rfl i2 dX16_writeFile_12 ?_
    refine lv_iconst (v := 4) hx hb dX16_writeFile_13 (by decide) ?_
    refine lv_iand hx hb dX16_writeFile_14 ?_
    refine lv_if_le (tgt := 27) hx hb dX16_writeFile_15 (by decide) (fun c3 => ?_) (fun c3 => ?_)
    · have h := nd_pos h c3
      refine lv_aload_n hx hb dX16_writeFile_27 rfl (lv_at hl 0 rfl) ?_
      refine va_get (D := (dC, dI)) (ci := 17) (v := .ref (a 23)) (C := RX16) (T := TX16) (N := 56) hx hb hts hi_dm_X16_writeFile_X16 hown hK hP 0 rfl rfl 32 (by decide) (hts (.fieldLink RX16 79 "TimeMachineModel$Machine" "position" "[I") (List.mem_of_getElem? (i := 2) rfl)) (fun _ h9 => h9) rfl dX16_writeFile_28 ?_
      refine lv_iload_n hx hb dX16_writeFile_31 rfl (lv_at hl 1 rfl) ?_
      obtain ⟨i4, h⟩ := nd_ck_e h
      refine va_iald (i := v0) hx hb hK hP 23 22 rfl rfl i4 dX16_writeFile_32 ?_
      exact (db_X16_writeFile_33 C K) (v0) (v1) (v2) (v3) ((sR s0.1 21 (Int32.toNatClampNeg v0))) s0 _ _ _ h hP hD hS (lv_sub hl [0, 1, 2, 3, 4] rfl)
    · have h := nd_neg h c3
      refine lv_aload_n hx hb dX16_writeFile_18 rfl (lv_at hl 0 rfl) ?_
      refine va_get (D := (dC, dI)) (ci := 17) (v := .ref (a 30)) (C := RX16) (T := TX16) (N := 56) hx hb hts hi_dm_X16_writeFile_X16 hown hK hP 0 rfl rfl 39 (by decide) (hts (.fieldLink RX16 100 "TimeMachineModel$Machine" "length" "[I") (List.mem_of_getElem? (i := 3) rfl)) (fun _ h9 => h9) rfl dX16_writeFile_19 ?_
      refine lv_iload_n hx hb dX16_writeFile_22 rfl (lv_at hl 2 rfl) ?_
      obtain ⟨i26, h⟩ := nd_ck_e h
      refine va_iald (i := v1) hx hb hK hP 30 29 rfl rfl i26 dX16_writeFile_23 ?_
      refine lv_goto (tgt := 33) hx hb dX16_writeFile_24 (by decide) ?_
      exact (db_X16_writeFile_33 C K) (v0) (v1) (v2) (v3) ((sR s0.1 28 (Int32.toNatClampNeg v1))) s0 _ _ _ h hP hD hS (lv_sub hl [0, 1, 2, 3, 4] rfl)
  · have h := nd_pos h c1
    refine lv_iconst (v := 0) hx hb dX16_writeFile_5 (by decide) ?_
    exact K _ _ _ _ _ _ dX16_writeFile_6 rfl (Option.some.inj h).symm hP hD hS
set_option maxHeartbeats 40000000 in
set_option maxRecDepth 100000 in
theorem dm_X16_writeFile (l : Launch) (hlt : l.stackTraces = false) (dC : Nat → ClassId) (dI : Nat → Nat → Nat) (a : Nat → Nat) (ac : Nat → ClassId) (n : Nat) (v0 : Int32) (v1 : Int32) (v2 : Int32) (v3 : Int32) (s0 : St × (St)) {r : Int32 × (St × (St))} (h : df_X16_writeFile n v0 v1 v2 v3 s0 = some r) (sz : Nat) : Met l yX16_writeFile ow_dm_X16_writeFile ({ frames := 2, cells := 0, slots := 0, locals := 42 }) (va_Pc [.ref (a 0), .int v0, .int v1, .int v2, .int v3] (fun U => U.heap.size = sz ∧ va_P (dC, dI) vwCl (dw_X16 a ac s0) U.heap ∧ va_K (dC, dI) vwCl (dk_X16 ac) U ∧ va_D (fun _ => True) (dw_X16 a ac s0) ∧ nv_E dI (va_A (dw_X16 a ac s0) sz) U)) (va_Qi (fun x _ => x = r.1) (fun (_ : Unit) t => va_P (dC, dI) vwCl (dw_X16 a ac r.2) t.heap ∧ va_K (dC, dI) vwCl (dk_X16 ac) t ∧ va_D (va_A (dw_X16 a ac s0) sz) (dw_X16 a ac r.2)) (va_A (dw_X16 a ac s0) sz)) 0 0 (va_A (dw_X16 a ac s0) sz) := by
  refine Met.ofW (cc := cX16_writeFile) (maxL := 7) (ret := (some .int)) (by decide) rfl ?_
  intro p e s m args below meth c s₁ B hml hv
  obtain ⟨rfl, hsz, hP, hK, hD0, hN⟩ := hv
  have hx := B.exec
  have hb := B.bytes
  have hr := B.returns
  have hts := atoms_spec (ws := ow_dm_X16_writeFile) B.pre
  have hown : s.vm.findClass RX16 = some m.cls := findClass_of_methodNamed B.named
  have hlocks := B.notSynchronized
  subst hsz
  have hD := hD0.self (sz := s.heap.size)
  generalize hAe : va_A (dw_X16 a ac s0) s.heap.size = A at hD hN ⊢
  have hA : ∀ q : Nat, s.heap.size ≤ q → A q := fun q h => by rw [← hAe]; exact Or.inr h
  have hl := lv_entry ([.ref (a 0), .int v0, .int v1, .int v2, .int v3]) (n := 7) (Nat.le_of_ble_eq_true rfl)
  rw [lg_entry_eq]
  generalize (lg_sl ([.ref (a 0), .int v0, .int v1, .int v2, .int v3]) ++ List.replicate (7 - (lg_sl ([.ref (a 0), .int v0, .int v1, .int v2, .int v3])).length) Slot.unset).toArray = ls at hl ⊢
  have hl : lv_has ls 7 [(0, .ref (a 0)), (1, .int v0), (2, .int v1), (3, .int v2), (4, .int v3)] := hl
  exact db_X16_writeFile_0 (dC := dC) (dI := dI) (a := a) (ac := ac) (n := n) (r := r) ⟨hlt, hx, hb, hml, hown, hts, hN, hA, hK⟩ (fun pc v τ H locs ls d z er hP hD hS => by subst er; exact W.zret (v := v) hx hb hr z (fun t ht hW => ⟨⟨v, (), rfl, rfl, by rw [ht]; exact hP, va_K.moved hW.alike hK, hD⟩, hS.F ht⟩) hS.2.2 d) v0 v1 v2 v3 s0 _ _ _ h hP hD va_S.rf (lv_sub hl [0, 1, 2, 3, 4] rfl)
def ow_dm_X16_write7 : List Cond := Cond.code yX16_write7 cX16_write7 7 (some .int) :: ([Cond.fieldLink RX16 232 "TimeMachineModel$Machine" "p" "I", Cond.methodLink RX16 478 yX16_mayAll, Cond.instanceMethod yX16_mayAll, Cond.selects RX16 yX16_mayAll yX16_mayAll, Cond.initialized RX16, Cond.methodLink RX16 491 yX16_openingOf, Cond.instanceMethod yX16_openingOf, Cond.selects RX16 yX16_openingOf yX16_openingOf, Cond.fieldLink RX16 82 "TimeMachineModel$Machine" "right" "[I", Cond.fieldLink RX16 76 "TimeMachineModel$Machine" "thing" "[I", Cond.fieldLink RX16 73 "TimeMachineModel$Machine" "kind" "[I", Cond.methodLink RX16 264 yX16_waits, Cond.instanceMethod yX16_waits, Cond.selects RX16 yX16_waits yX16_waits, Cond.fieldLink RX16 97 "TimeMachineModel$Machine" "pipeBytes" "[I", Cond.fieldLink RX16 94 "TimeMachineModel$Machine" "piped" "[I", Cond.methodLink RX16 235 yX16_byteAt, Cond.instanceMethod yX16_byteAt, Cond.selects RX16 yX16_byteAt yX16_byteAt, Cond.methodLink RX16 502 yX16_show, Cond.instanceMethod yX16_show, Cond.selects RX16 yX16_show yX16_show, Cond.methodLink RX16 415 yX16_tell, Cond.instanceMethod yX16_tell, Cond.selects RX16 yX16_tell yX16_tell, Cond.methodLink RX16 499 yX16_writeFile, Cond.instanceMethod yX16_writeFile, Cond.selects RX16 yX16_writeFile yX16_writeFile, Cond.methodLink RX16 243 yX16_ends, Cond.instanceMethod yX16_ends, Cond.selects RX16 yX16_ends yX16_ends] ++ (u_ws RX16 TX16 56 ++ (ow_dm_X16_mayAll ++ (ow_dm_X16_openingOf ++ (ow_dm_X16_waits ++ (ow_dm_X16_byteAt ++ (ow_dm_X16_show ++ (ow_dm_X16_tell ++ (ow_dm_X16_writeFile ++ (ow_dm_X16_ends ++ []))))))))))
theorem gd_dm_X16_write7 : ∀ w ∈ ow_dm_X16_write7, (w.onTables && w.keeps) = true ∨ ∃ ty, w = Cond.arrayClass ty := List.forall_mem_cons.mpr ⟨good_of_word rfl, List.forall_mem_append.mpr ⟨fun w h => good_of_word (List.all_eq_true.mp (by decide +kernel) w h), List.forall_mem_append.mpr ⟨gu_X16, List.forall_mem_append.mpr ⟨gd_dm_X16_mayAll, List.forall_mem_append.mpr ⟨gd_dm_X16_openingOf, List.forall_mem_append.mpr ⟨gd_dm_X16_waits, List.forall_mem_append.mpr ⟨gd_dm_X16_byteAt, List.forall_mem_append.mpr ⟨gd_dm_X16_show, List.forall_mem_append.mpr ⟨gd_dm_X16_tell, List.forall_mem_append.mpr ⟨gd_dm_X16_writeFile, List.forall_mem_append.mpr ⟨gd_dm_X16_ends, fun _ h => nomatch h⟩⟩⟩⟩⟩⟩⟩⟩⟩⟩⟩
theorem hi_dm_X16_write7_X16 : ∀ w ∈ u_ws RX16 TX16 56, w ∈ ow_dm_X16_write7 := fun w h => List.mem_cons_of_mem _ (List.mem_append_right _ (List.mem_append_left _ h))
theorem gi_dm_X16_write7_0 : GoodIn ow_dm_X16_write7 (wsV RX16 478 RX16 yX16_mayAll ow_dm_X16_mayAll) := goodIn_app (goodIn_of _ (by decide +kernel)) (fun w h => ⟨List.mem_cons_of_mem _ (List.mem_append_right _ (List.mem_append_right _ (List.mem_append_left _ h))), gd_dm_X16_mayAll w h⟩)
theorem gi_dm_X16_write7_1 : GoodIn ow_dm_X16_write7 (wsV RX16 491 RX16 yX16_openingOf ow_dm_X16_openingOf) := goodIn_app (goodIn_of _ (by decide +kernel)) (fun w h => ⟨List.mem_cons_of_mem _ (List.mem_append_right _ (List.mem_append_right _ (List.mem_append_right _ (List.mem_append_left _ h)))), gd_dm_X16_openingOf w h⟩)
theorem gi_dm_X16_write7_2 : GoodIn ow_dm_X16_write7 (wsV RX16 264 RX16 yX16_waits ow_dm_X16_waits) := goodIn_app (goodIn_of _ (by decide +kernel)) (fun w h => ⟨List.mem_cons_of_mem _ (List.mem_append_right _ (List.mem_append_right _ (List.mem_append_right _ (List.mem_append_right _ (List.mem_append_left _ h))))), gd_dm_X16_waits w h⟩)
theorem gi_dm_X16_write7_3 : GoodIn ow_dm_X16_write7 (wsV RX16 235 RX16 yX16_byteAt ow_dm_X16_byteAt) := goodIn_app (goodIn_of _ (by decide +kernel)) (fun w h => ⟨List.mem_cons_of_mem _ (List.mem_append_right _ (List.mem_append_right _ (List.mem_append_right _ (List.mem_append_right _ (List.mem_append_right _ (List.mem_append_left _ h)))))), gd_dm_X16_byteAt w h⟩)
theorem gi_dm_X16_write7_4 : GoodIn ow_dm_X16_write7 (wsV RX16 502 RX16 yX16_show ow_dm_X16_show) := goodIn_app (goodIn_of _ (by decide +kernel)) (fun w h => ⟨List.mem_cons_of_mem _ (List.mem_append_right _ (List.mem_append_right _ (List.mem_append_right _ (List.mem_append_right _ (List.mem_append_right _ (List.mem_append_right _ (List.mem_append_left _ h))))))), gd_dm_X16_show w h⟩)
theorem gi_dm_X16_write7_5 : GoodIn ow_dm_X16_write7 (wsV RX16 415 RX16 yX16_tell ow_dm_X16_tell) := goodIn_app (goodIn_of _ (by decide +kernel)) (fun w h => ⟨List.mem_cons_of_mem _ (List.mem_append_right _ (List.mem_append_right _ (List.mem_append_right _ (List.mem_append_right _ (List.mem_append_right _ (List.mem_append_right _ (List.mem_append_right _ (List.mem_append_left _ h)))))))), gd_dm_X16_tell w h⟩)
theorem gi_dm_X16_write7_6 : GoodIn ow_dm_X16_write7 (wsV RX16 499 RX16 yX16_writeFile ow_dm_X16_writeFile) := goodIn_app (goodIn_of _ (by decide +kernel)) (fun w h => ⟨List.mem_cons_of_mem _ (List.mem_append_right _ (List.mem_append_right _ (List.mem_append_right _ (List.mem_append_right _ (List.mem_append_right _ (List.mem_append_right _ (List.mem_append_right _ (List.mem_append_right _ (List.mem_append_left _ h))))))))), gd_dm_X16_writeFile w h⟩)
theorem gi_dm_X16_write7_7 : GoodIn ow_dm_X16_write7 (wsV RX16 243 RX16 yX16_ends ow_dm_X16_ends) := goodIn_app (goodIn_of _ (by decide +kernel)) (fun w h => ⟨List.mem_cons_of_mem _ (List.mem_append_right _ (List.mem_append_right _ (List.mem_append_right _ (List.mem_append_right _ (List.mem_append_right _ (List.mem_append_right _ (List.mem_append_right _ (List.mem_append_right _ (List.mem_append_right _ (List.mem_append_left _ h)))))))))), gd_dm_X16_ends w h⟩)
def dj_X16_write7_11 (p : Program) (l : Launch) (e : Env) (s : State) (m : MethodId) (args : Array Value) (below : List Frame) (meth : Method) (c : Code) (Q : State → Prop) (A : Nat → Prop) (dC : Nat → ClassId) (dI : Nat → Nat → Nat) (a : Nat → Nat) (ac : Nat → ClassId) (g : (St × (St)) → Option (Int32 × (St × (St)))) (r : Int32 × (St × (St))) : Prop := ∀ (s0 : St × (St)) (H : Heap) (locs : List Loc) (ls : Array Slot), g s0 = some r → va_P (dC, dI) vwCl (dw_X16 a ac s0) H → va_D A (dw_X16 a ac s0) → va_S A s.heap H locs → lv_has ls 7 [] → W p l e (headSpec ow_dm_X16_write7 ({ frames := 3, cells := 0, slots := 0, locals := 71 })).room s m args below meth c H locs 0 0 Q (F0 m 11 ls [])
def dj_X16_write7_60 (p : Program) (l : Launch) (e : Env) (s : State) (m : MethodId) (args : Array Value) (below : List Frame) (meth : Method) (c : Code) (Q : State → Prop) (A : Nat → Prop) (dC : Nat → ClassId) (dI : Nat → Nat → Nat) (a : Nat → Nat) (ac : Nat → ClassId) (g : (St × (St)) → Option (Int32 × (St × (St)))) (r : Int32 × (St × (St))) : Prop := ∀ (s0 : St × (St)) (H : Heap) (locs : List Loc) (ls : Array Slot), g s0 = some r → va_P (dC, dI) vwCl (dw_X16 a ac s0) H → va_D A (dw_X16 a ac s0) → va_S A s.heap H locs → lv_has ls 7 [] → W p l e (headSpec ow_dm_X16_write7 ({ frames := 3, cells := 0, slots := 0, locals := 71 })).room s m args below meth c H locs 0 0 Q (F0 m 60 ls [])
def dj_X16_write7_207 (p : Program) (l : Launch) (e : Env) (s : State) (m : MethodId) (args : Array Value) (below : List Frame) (meth : Method) (c : Code) (Q : State → Prop) (A : Nat → Prop) (dC : Nat → ClassId) (dI : Nat → Nat → Nat) (a : Nat → Nat) (ac : Nat → ClassId) (g : Int32 → Int32 → Int32 → Int32 → Int32 → (St × (St)) → Option (Int32 × (St × (St)))) (r : Int32 × (St × (St))) : Prop := ∀ (x2 : Int32) (x3 : Int32) (x4 : Int32) (x5 : Int32) (x6 : Int32) (s0 : St × (St)) (H : Heap) (locs : List Loc) (ls : Array Slot), g x2 x3 x4 x5 x6 s0 = some r → va_P (dC, dI) vwCl (dw_X16 a ac s0) H → va_D A (dw_X16 a ac s0) → va_S A s.heap H locs → lv_has ls 7 [(0, .ref (a 0)), (2, .int x2), (3, .int x3), (4, .int x4), (5, .int x5), (6, .int x6)] → W p l e (headSpec ow_dm_X16_write7 ({ frames := 3, cells := 0, slots := 0, locals := 71 })).room s m args below meth c H locs 0 0 Q (F0 m 207 ls [])
def dj_X16_write7_137 (p : Program) (l : Launch) (e : Env) (s : State) (m : MethodId) (args : Array Value) (below : List Frame) (meth : Method) (c : Code) (Q : State → Prop) (A : Nat → Prop) (dC : Nat → ClassId) (dI : Nat → Nat → Nat) (a : Nat → Nat) (ac : Nat → ClassId) (g : Int32 → Int32 → Int32 → Int32 → Int32 → (St × (St)) → Option (Int32 × (St × (St)))) (r : Int32 × (St × (St))) : Prop := ∀ (x2 : Int32) (x3 : Int32) (x4 : Int32) (x5 : Int32) (x6 : Int32) (s0 : St × (St)) (H : Heap) (locs : List Loc) (ls : Array Slot), g x2 x3 x4 x5 x6 s0 = some r → va_P (dC, dI) vwCl (dw_X16 a ac s0) H → va_D A (dw_X16 a ac s0) → va_S A s.heap H locs → lv_has ls 7 [(0, .ref (a 0)), (2, .int x2), (3, .int x3), (4, .int x4), (5, .int x5), (6, .int x6)] → W p l e (headSpec ow_dm_X16_write7 ({ frames := 3, cells := 0, slots := 0, locals := 71 })).room s m args below meth c H locs 0 0 Q (F0 m 137 ls [])
def dj_X16_write7_95 (p : Program) (l : Launch) (e : Env) (s : State) (m : MethodId) (args : Array Value) (below : List Frame) (meth : Method) (c : Code) (Q : State → Prop) (A : Nat → Prop) (dC : Nat → ClassId) (dI : Nat → Nat → Nat) (a : Nat → Nat) (ac : Nat → ClassId) (g : Int32 → Int32 → Int32 → Int32 → (St × (St)) → Option (Int32 × (St × (St)))) (r : Int32 × (St × (St))) : Prop := ∀ (x2 : Int32) (x3 : Int32) (x4 : Int32) (x5 : Int32) (s0 : St × (St)) (H : Heap) (locs : List Loc) (ls : Array Slot), g x2 x3 x4 x5 s0 = some r → va_P (dC, dI) vwCl (dw_X16 a ac s0) H → va_D A (dw_X16 a ac s0) → va_S A s.heap H locs → lv_has ls 7 [(0, .ref (a 0)), (2, .int x2), (3, .int x3), (4, .int x4), (5, .int x5)] → W p l e (headSpec ow_dm_X16_write7 ({ frames := 3, cells := 0, slots := 0, locals := 71 })).room s m args below meth c H locs 0 0 Q (F0 m 95 ls [])
def dj_X16_write7_0 (p : Program) (l : Launch) (e : Env) (s : State) (m : MethodId) (args : Array Value) (below : List Frame) (meth : Method) (c : Code) (Q : State → Prop) (A : Nat → Prop) (dC : Nat → ClassId) (dI : Nat → Nat → Nat) (a : Nat → Nat) (ac : Nat → ClassId) (g : Int32 → Int32 → Int32 → (St × (St)) → Option (Int32 × (St × (St)))) (r : Int32 × (St × (St))) : Prop := ∀ (v0 : Int32) (v1 : Int32) (v2 : Int32) (s0 : St × (St)) (H : Heap) (locs : List Loc) (ls : Array Slot), g v0 v1 v2 s0 = some r → va_P (dC, dI) vwCl (dw_X16 a ac s0) H → va_D A (dw_X16 a ac s0) → va_S A s.heap H locs → lv_has ls 7 [(0, .ref (a 0)), (1, .int v0), (2, .int v1), (3, .int v2)] → W p l e (headSpec ow_dm_X16_write7 ({ frames := 3, cells := 0, slots := 0, locals := 71 })).room s m args below meth c H locs 0 0 Q (F0 m 0 ls [])
set_option maxHeartbeats 40000000 in
set_option maxRecDepth 100000 in
theorem db_X16_write7_11 {p : Program} {l : Launch} {e : Env} {s : State} {m : MethodId} {args : Array Value} {below : List Frame} {meth : Method} {c : Code} {Q : State → Prop} {A : Nat → Prop} {dC : Nat → ClassId} {dI : Nat → Nat → Nat} {a : Nat → Nat} {ac : Nat → ClassId} {n : Nat} {r : Int32 × (St × (St))} (C : nd_C p l s m args c A (dC, dI) cX16_write7 7 RX16 ow_dm_X16_write7 (dk_X16 ac)) (K : nd_Ki p l e (headSpec ow_dm_X16_write7 ({ frames := 3, cells := 0, slots := 0, locals := 71 })).room s m args below meth c Q A (dC, dI) cX16_write7 .int (St × (St)) (dw_X16 a ac) r) : dj_X16_write7_11 p l e s m args below meth c Q A dC dI a ac (df_X16_write7_11 n) r := by
  obtain ⟨hlt, hx, hb, hml, hown, hts, hN, hA, hK⟩ := id C
  intro s0 H locs ls h hP hD hS hl
  unfold df_X16_write7_11 at h
  refine lv_bipush (v := (-22)) hx hb dX16_write7_11 (by decide) ?_
  exact K _ _ _ _ _ _ dX16_write7_13 rfl (Option.some.inj h).symm hP hD hS
set_option maxHeartbeats 40000000 in
set_option maxRecDepth 100000 in
theorem db_X16_write7_60 {p : Program} {l : Launch} {e : Env} {s : State} {m : MethodId} {args : Array Value} {below : List Frame} {meth : Method} {c : Code} {Q : State → Prop} {A : Nat → Prop} {dC : Nat → ClassId} {dI : Nat → Nat → Nat} {a : Nat → Nat} {ac : Nat → ClassId} {n : Nat} {r : Int32 × (St × (St))} (C : nd_C p l s m args c A (dC, dI) cX16_write7 7 RX16 ow_dm_X16_write7 (dk_X16 ac)) (K : nd_Ki p l e (headSpec ow_dm_X16_write7 ({ frames := 3, cells := 0, slots := 0, locals := 71 })).room s m args below meth c Q A (dC, dI) cX16_write7 .int (St × (St)) (dw_X16 a ac) r) : dj_X16_write7_60 p l e s m args below meth c Q A dC dI a ac (df_X16_write7_60 n) r := by
  obtain ⟨hlt, hx, hb, hml, hown, hts, hN, hA, hK⟩ := id C
  intro s0 H locs ls h hP hD hS hl
  unfold df_X16_write7_60 at h
  refine lv_iconst (v := (-1)) hx hb dX16_write7_60 (by decide) ?_
  exact K _ _ _ _ _ _ dX16_write7_61 rfl (Option.some.inj h).symm hP hD hS
set_option maxHeartbeats 40000000 in
set_option maxRecDepth 100000 in
theorem db_X16_write7_207 {p : Program} {l : Launch} {e : Env} {s : State} {m : MethodId} {args : Array Value} {below : List Frame} {meth : Method} {c : Code} {Q : State → Prop} {A : Nat → Prop} {dC : Nat → ClassId} {dI : Nat → Nat → Nat} {a : Nat → Nat} {ac : Nat → ClassId} {n : Nat} {r : Int32 × (St × (St))} (C : nd_C p l s m args c A (dC, dI) cX16_write7 7 RX16 ow_dm_X16_write7 (dk_X16 ac)) (K : nd_Ki p l e (headSpec ow_dm_X16_write7 ({ frames := 3, cells := 0, slots := 0, locals := 71 })).room s m args below meth c Q A (dC, dI) cX16_write7 .int (St × (St)) (dw_X16 a ac) r) {g137 : Int32 → Int32 → Int32 → Int32 → Int32 → (St × (St)) → Option (Int32 × (St × (St)))} (J137 : dj_X16_write7_137 p l e s m args below meth c Q A dC dI a ac g137 r) : dj_X16_write7_207 p l e s m args below meth c Q A dC dI a ac (df_X16_write7_207 n g137) r := by
  obtain ⟨hlt, hx, hb, hml, hown, hts, hN, hA, hK⟩ := id C
  intro x2 x3 x4 x5 x6 s0 H locs ls h hP hD hS hl
  unfold df_X16_write7_207 at h
  obtain ⟨z35, ez35, h⟩ := nd_let_e h
  refine lv_iinc (v := z35) (lv' := [(6, .int z35), (0, .ref (a 0)), (2, .int x2), (3, .int x3), (4, .int x4), (5, .int x5)]) hx hb dX16_write7_207 hl (k := 5) rfl (by rw [ez35]) (by decide) rfl (fun ls hl => ?_)
  refine lv_goto (tgt := 137) hx hb dX16_write7_210 (by decide) ?_
  exact (J137) (x2) (x3) (x4) (x5) (z35) s0 _ _ _ h hP hD hS (lv_sub hl [1, 2, 3, 4, 5, 0] rfl)

