set_option maxHeartbeats 40000000 in
set_option maxRecDepth 100000 in
theorem db_X16_one_0 {p : Program} {l : Launch} {e : Env} {s : State} {m : MethodId} {args : Array Value} {below : List Frame} {meth : Method} {c : Code} {Q : State → Prop} {A : Nat → Prop} {dC : Nat → ClassId} {dI : Nat → Nat → Nat} {a : Nat → Nat} {ac : Nat → ClassId} {n : Nat} {r : Int32 × (Unit)} (C : nd_C p l s m args c A (dC, dI) cX16_one 7 RX16 ow_dm_X16_one (dk_P ac)) (K : nd_Ki p l e (headSpec ow_dm_X16_one ({ frames := 3, cells := 0, slots := 0, locals := 67 })).room s m args below meth c Q A (dC, dI) cX16_one .int (Unit) (dw_P a ac) r) : dj_X16_one_0 p l e s m args below meth c Q A dC dI a ac (df_X16_one_0 n) r := by
  obtain ⟨hlt, hx, hb, hml, hown, hts, hN, hA, hK⟩ := id C
  intro v0 v1 s0 H locs ls h hP hD hS hl
  unfold df_X16_one_0 at h
  refine lv_iload_n hx hb dX16_one_0 rfl (lv_at hl 0 rfl) ?_
  refine lv_bipush (v := 7) hx hb dX16_one_1 (by decide) ?_
  refine lv_iconst (v := 5) hx hb dX16_one_3 (by decide) ?_
  obtain ⟨q1, s2, hq, h⟩ := nd_b2_e h
  have hPc : va_P (dC, dI) vwCl (dw_P a ac ()) H := nd_p0
  have hDc : va_D A (dw_P a ac ()) := nd_d0
  have hKc : va_K (dC, dI) vwCl (dk_P ac) s := nd_y0 hK
  have hFc : ∀ q, va_A (dw_P a ac ()) H.size q → A q := nd_r0 hS hA
  refine nd_cSi (As := [.int v0, .int 7, .int 5]) (rest := []) (q := q1) (w' := dw_P a ac s2) ⟨hx, hb, hml, hown, hts⟩ (fun sz => dm_X16_part l hlt dC dI a ac n (v0) (7) (5) () hq sz) (cwS 3 hts gi_dm_X16_one_0 rfl rfl rfl (by decide +kernel) ⟨Nat.le_of_ble_eq_true rfl, Nat.le_of_ble_eq_true rfl⟩) hPc hDc hKc hS hA hN rfl hl.1 rfl (Nat.le_of_ble_eq_true rfl) dX16_one_4 (fun H locs hP1 hD1 hk1 hS => ?_)
  have hP := nd_n0 hP hk1
  refine lv_istore_n (lv' := [(2, .int q1), (0, .int v0), (1, .int v1)]) hx hb dX16_one_7 rfl hl (by decide) rfl (fun ls hl => ?_)
  refine lv_iload_n hx hb dX16_one_8 rfl (lv_at hl 1 rfl) ?_
  refine lv_bipush (v := 12) hx hb dX16_one_9 (by decide) ?_
  refine lv_iconst (v := 1) hx hb dX16_one_11 (by decide) ?_
  refine lv_iconst (v := 5) hx hb dX16_one_12 (by decide) ?_
  obtain ⟨q4, s5, hq, h⟩ := nd_b2_e h
  have hPc : va_P (dC, dI) vwCl (dw_P a ac ()) H := nd_p0
  have hDc : va_D A (dw_P a ac ()) := nd_d0
  have hKc : va_K (dC, dI) vwCl (dk_P ac) s := nd_y0 hK
  have hFc : ∀ q, va_A (dw_P a ac ()) H.size q → A q := nd_r0 hS hA
  refine nd_cSi (As := [.int v0, .int 12, .int 1, .int 5]) (rest := []) (q := q4) (w' := dw_P a ac s5) ⟨hx, hb, hml, hown, hts⟩ (fun sz => dm_X16_bit l hlt dC dI a ac n (v0) (12) (1) (5) () hq sz) (cwS 4 hts gi_dm_X16_one_1 rfl rfl rfl (by decide +kernel) ⟨Nat.le_of_ble_eq_true rfl, Nat.le_of_ble_eq_true rfl⟩) hPc hDc hKc hS hA hN rfl hl.1 rfl (Nat.le_of_ble_eq_true rfl) dX16_one_13 (fun H locs hP1 hD1 hk1 hS => ?_)
  have hP := nd_n0 hP hk1
  refine lv_iload_n hx hb dX16_one_16 rfl (lv_at hl 1 rfl) ?_
  refine lv_iconst (v := 2) hx hb dX16_one_17 (by decide) ?_
  refine lv_iconst (v := 5) hx hb dX16_one_18 (by decide) ?_
  obtain ⟨q7, s8, hq, h⟩ := nd_b2_e h
  have hPc : va_P (dC, dI) vwCl (dw_P a ac ()) H := nd_p0
  have hDc : va_D A (dw_P a ac ()) := nd_d0
  have hKc : va_K (dC, dI) vwCl (dk_P ac) s := nd_y0 hK
  have hFc : ∀ q, va_A (dw_P a ac ()) H.size q → A q := nd_r0 hS hA
  refine nd_cSi (As := [.int v0, .int 2, .int 5]) (rest := [.int q4]) (q := q7) (w' := dw_P a ac s8) ⟨hx, hb, hml, hown, hts⟩ (fun sz => dm_X16_part l hlt dC dI a ac n (v0) (2) (5) () hq sz) (cwS 3 hts gi_dm_X16_one_0 rfl rfl rfl (by decide +kernel) ⟨Nat.le_of_ble_eq_true rfl, Nat.le_of_ble_eq_true rfl⟩) hPc hDc hKc hS hA hN rfl hl.1 rfl (Nat.le_of_ble_eq_true rfl) dX16_one_19 (fun H locs hP1 hD1 hk1 hS => ?_)
  have hP := nd_n0 hP hk1
  refine lv_ior hx hb dX16_one_22 ?_
  refine lv_bipush (v := 6) hx hb dX16_one_23 (by decide) ?_
  obtain ⟨q10, s11, hq, h⟩ := nd_b2_e h
  have hPc : va_P (dC, dI) vwCl (dw_P a ac ()) H := nd_p0
  have hDc : va_D A (dw_P a ac ()) := nd_d0
  have hKc : va_K (dC, dI) vwCl (dk_P ac) s := nd_y0 hK
  have hFc : ∀ q, va_A (dw_P a ac ()) H.size q → A q := nd_r0 hS hA
  refine nd_cSi (As := [.int (q4 ||| q7), .int 6]) (rest := []) (q := q10) (w' := dw_P a ac s11) ⟨hx, hb, hml, hown, hts⟩ (fun sz => dm_X16_signed l hlt dC dI a ac n ((q4 ||| q7)) (6) () hq sz) (cwS 2 hts gi_dm_X16_one_2 rfl rfl rfl (by decide +kernel) ⟨Nat.le_of_ble_eq_true rfl, Nat.le_of_ble_eq_true rfl⟩) hPc hDc hKc hS hA hN rfl hl.1 rfl (Nat.le_of_ble_eq_true rfl) dX16_one_25 (fun H locs hP1 hD1 hk1 hS => ?_)
  have hP := nd_n0 hP hk1
  refine lv_istore_n (lv' := [(3, .int q10), (2, .int q1), (0, .int v0), (1, .int v1)]) hx hb dX16_one_28 rfl hl (by decide) rfl (fun ls hl => ?_)
  refine lv_iload_n hx hb dX16_one_29 rfl (lv_at hl 2 rfl) ?_
  refine lv_bipush (v := 12) hx hb dX16_one_30 (by decide) ?_
  refine lv_iconst (v := 1) hx hb dX16_one_32 (by decide) ?_
  refine lv_bipush (v := 11) hx hb dX16_one_33 (by decide) ?_
  obtain ⟨q13, s14, hq, h⟩ := nd_b2_e h
  have hPc : va_P (dC, dI) vwCl (dw_P a ac ()) H := nd_p0
  have hDc : va_D A (dw_P a ac ()) := nd_d0
  have hKc : va_K (dC, dI) vwCl (dk_P ac) s := nd_y0 hK
  have hFc : ∀ q, va_A (dw_P a ac ()) H.size q → A q := nd_r0 hS hA
  refine nd_cSi (As := [.int v0, .int 12, .int 1, .int 11]) (rest := []) (q := q13) (w' := dw_P a ac s14) ⟨hx, hb, hml, hown, hts⟩ (fun sz => dm_X16_bit l hlt dC dI a ac n (v0) (12) (1) (11) () hq sz) (cwS 4 hts gi_dm_X16_one_1 rfl rfl rfl (by decide +kernel) ⟨Nat.le_of_ble_eq_true rfl, Nat.le_of_ble_eq_true rfl⟩) hPc hDc hKc hS hA hN rfl hl.1 rfl (Nat.le_of_ble_eq_true rfl) dX16_one_35 (fun H locs hP1 hD1 hk1 hS => ?_)
  have hP := nd_n0 hP hk1
  refine lv_iload_n hx hb dX16_one_38 rfl (lv_at hl 2 rfl) ?_
  refine lv_bipush (v := 11) hx hb dX16_one_39 (by decide) ?_
  refine lv_iconst (v := 1) hx hb dX16_one_41 (by decide) ?_
  refine lv_iconst (v := 4) hx hb dX16_one_42 (by decide) ?_
  obtain ⟨q16, s17, hq, h⟩ := nd_b2_e h
  have hPc : va_P (dC, dI) vwCl (dw_P a ac ()) H := nd_p0
  have hDc : va_D A (dw_P a ac ()) := nd_d0
  have hKc : va_K (dC, dI) vwCl (dk_P ac) s := nd_y0 hK
  have hFc : ∀ q, va_A (dw_P a ac ()) H.size q → A q := nd_r0 hS hA
  refine nd_cSi (As := [.int v0, .int 11, .int 1, .int 4]) (rest := [.int q13]) (q := q16) (w' := dw_P a ac s17) ⟨hx, hb, hml, hown, hts⟩ (fun sz => dm_X16_bit l hlt dC dI a ac n (v0) (11) (1) (4) () hq sz) (cwS 4 hts gi_dm_X16_one_1 rfl rfl rfl (by decide +kernel) ⟨Nat.le_of_ble_eq_true rfl, Nat.le_of_ble_eq_true rfl⟩) hPc hDc hKc hS hA hN rfl hl.1 rfl (Nat.le_of_ble_eq_true rfl) dX16_one_43 (fun H locs hP1 hD1 hk1 hS => ?_)
  have hP := nd_n0 hP hk1
  refine lv_ior hx hb dX16_one_46 ?_
  refine lv_iload_n hx hb dX16_one_47 rfl (lv_at hl 2 rfl) ?_
  refine lv_bipush (v := 9) hx hb dX16_one_48 (by decide) ?_
  refine lv_iconst (v := 2) hx hb dX16_one_50 (by decide) ?_
  refine lv_bipush (v := 8) hx hb dX16_one_51 (by decide) ?_
  obtain ⟨q19, s20, hq, h⟩ := nd_b2_e h
  have hPc : va_P (dC, dI) vwCl (dw_P a ac ()) H := nd_p0
  have hDc : va_D A (dw_P a ac ()) := nd_d0
  have hKc : va_K (dC, dI) vwCl (dk_P ac) s := nd_y0 hK
  have hFc : ∀ q, va_A (dw_P a ac ()) H.size q → A q := nd_r0 hS hA
  refine nd_cSi (As := [.int v0, .int 9, .int 2, .int 8]) (rest := [.int (q13 ||| q16)]) (q := q19) (w' := dw_P a ac s20) ⟨hx, hb, hml, hown, hts⟩ (fun sz => dm_X16_bit l hlt dC dI a ac n (v0) (9) (2) (8) () hq sz) (cwS 4 hts gi_dm_X16_one_1 rfl rfl rfl (by decide +kernel) ⟨Nat.le_of_ble_eq_true rfl, Nat.le_of_ble_eq_true rfl⟩) hPc hDc hKc hS hA hN rfl hl.1 rfl (Nat.le_of_ble_eq_true rfl) dX16_one_53 (fun H locs hP1 hD1 hk1 hS => ?_)
  have hP := nd_n0 hP hk1
  refine lv_ior hx hb dX16_one_56 ?_
  refine lv_iload_n hx hb dX16_one_57 rfl (lv_at hl 2 rfl) ?_
  refine lv_bipush (v := 8) hx hb dX16_one_58 (by decide) ?_
  refine lv_iconst (v := 1) hx hb dX16_one_60 (by decide) ?_
  refine lv_bipush (v := 10) hx hb dX16_one_61 (by decide) ?_
  obtain ⟨q22, s23, hq, h⟩ := nd_b2_e h
  have hPc : va_P (dC, dI) vwCl (dw_P a ac ()) H := nd_p0
  have hDc : va_D A (dw_P a ac ()) := nd_d0
  have hKc : va_K (dC, dI) vwCl (dk_P ac) s := nd_y0 hK
  have hFc : ∀ q, va_A (dw_P a ac ()) H.size q → A q := nd_r0 hS hA
  refine nd_cSi (As := [.int v0, .int 8, .int 1, .int 10]) (rest := [.int ((q13 ||| q16) ||| q19)]) (q := q22) (w' := dw_P a ac s23) ⟨hx, hb, hml, hown, hts⟩ (fun sz => dm_X16_bit l hlt dC dI a ac n (v0) (8) (1) (10) () hq sz) (cwS 4 hts gi_dm_X16_one_1 rfl rfl rfl (by decide +kernel) ⟨Nat.le_of_ble_eq_true rfl, Nat.le_of_ble_eq_true rfl⟩) hPc hDc hKc hS hA hN rfl hl.1 rfl (Nat.le_of_ble_eq_true rfl) dX16_one_63 (fun H locs hP1 hD1 hk1 hS => ?_)
  have hP := nd_n0 hP hk1
  refine lv_ior hx hb dX16_one_66 ?_
  refine lv_iload_n hx hb dX16_one_67 rfl (lv_at hl 2 rfl) ?_
  refine lv_bipush (v := 7) hx hb dX16_one_68 (by decide) ?_
  refine lv_iconst (v := 1) hx hb dX16_one_70 (by decide) ?_
  refine lv_bipush (v := 6) hx hb dX16_one_71 (by decide) ?_
  obtain ⟨q25, s26, hq, h⟩ := nd_b2_e h
  have hPc : va_P (dC, dI) vwCl (dw_P a ac ()) H := nd_p0
  have hDc : va_D A (dw_P a ac ()) := nd_d0
  have hKc : va_K (dC, dI) vwCl (dk_P ac) s := nd_y0 hK
  have hFc : ∀ q, va_A (dw_P a ac ()) H.size q → A q := nd_r0 hS hA
  refine nd_cSi (As := [.int v0, .int 7, .int 1, .int 6]) (rest := [.int (((q13 ||| q16) ||| q19) ||| q22)]) (q := q25) (w' := dw_P a ac s26) ⟨hx, hb, hml, hown, hts⟩ (fun sz => dm_X16_bit l hlt dC dI a ac n (v0) (7) (1) (6) () hq sz) (cwS 4 hts gi_dm_X16_one_1 rfl rfl rfl (by decide +kernel) ⟨Nat.le_of_ble_eq_true rfl, Nat.le_of_ble_eq_true rfl⟩) hPc hDc hKc hS hA hN rfl hl.1 rfl (Nat.le_of_ble_eq_true rfl) dX16_one_73 (fun H locs hP1 hD1 hk1 hS => ?_)
  have hP := nd_n0 hP hk1
  refine lv_ior hx hb dX16_one_76 ?_
  refine lv_iload_n hx hb dX16_one_77 rfl (lv_at hl 2 rfl) ?_
  refine lv_bipush (v := 6) hx hb dX16_one_78 (by decide) ?_
  refine lv_iconst (v := 1) hx hb dX16_one_80 (by decide) ?_
  refine lv_bipush (v := 7) hx hb dX16_one_81 (by decide) ?_
  obtain ⟨q28, s29, hq, h⟩ := nd_b2_e h
  have hPc : va_P (dC, dI) vwCl (dw_P a ac ()) H := nd_p0
  have hDc : va_D A (dw_P a ac ()) := nd_d0
  have hKc : va_K (dC, dI) vwCl (dk_P ac) s := nd_y0 hK
  have hFc : ∀ q, va_A (dw_P a ac ()) H.size q → A q := nd_r0 hS hA
  refine nd_cSi (As := [.int v0, .int 6, .int 1, .int 7]) (rest := [.int ((((q13 ||| q16) ||| q19) ||| q22) ||| q25)]) (q := q28) (w' := dw_P a ac s29) ⟨hx, hb, hml, hown, hts⟩ (fun sz => dm_X16_bit l hlt dC dI a ac n (v0) (6) (1) (7) () hq sz) (cwS 4 hts gi_dm_X16_one_1 rfl rfl rfl (by decide +kernel) ⟨Nat.le_of_ble_eq_true rfl, Nat.le_of_ble_eq_true rfl⟩) hPc hDc hKc hS hA hN rfl hl.1 rfl (Nat.le_of_ble_eq_true rfl) dX16_one_83 (fun H locs hP1 hD1 hk1 hS => ?_)
  have hP := nd_n0 hP hk1
  refine lv_ior hx hb dX16_one_86 ?_
  refine lv_iload_n hx hb dX16_one_87 rfl (lv_at hl 2 rfl) ?_
  refine lv_iconst (v := 3) hx hb dX16_one_88 (by decide) ?_
  refine lv_iconst (v := 3) hx hb dX16_one_89 (by decide) ?_
  refine lv_iconst (v := 1) hx hb dX16_one_90 (by decide) ?_
  obtain ⟨q31, s32, hq, h⟩ := nd_b2_e h
  have hPc : va_P (dC, dI) vwCl (dw_P a ac ()) H := nd_p0
  have hDc : va_D A (dw_P a ac ()) := nd_d0
  have hKc : va_K (dC, dI) vwCl (dk_P ac) s := nd_y0 hK
  have hFc : ∀ q, va_A (dw_P a ac ()) H.size q → A q := nd_r0 hS hA
  refine nd_cSi (As := [.int v0, .int 3, .int 3, .int 1]) (rest := [.int (((((q13 ||| q16) ||| q19) ||| q22) ||| q25) ||| q28)]) (q := q31) (w' := dw_P a ac s32) ⟨hx, hb, hml, hown, hts⟩ (fun sz => dm_X16_bit l hlt dC dI a ac n (v0) (3) (3) (1) () hq sz) (cwS 4 hts gi_dm_X16_one_1 rfl rfl rfl (by decide +kernel) ⟨Nat.le_of_ble_eq_true rfl, Nat.le_of_ble_eq_true rfl⟩) hPc hDc hKc hS hA hN rfl hl.1 rfl (Nat.le_of_ble_eq_true rfl) dX16_one_91 (fun H locs hP1 hD1 hk1 hS => ?_)
  have hP := nd_n0 hP hk1
  refine lv_ior hx hb dX16_one_94 ?_
  refine lv_iload_n hx hb dX16_one_95 rfl (lv_at hl 2 rfl) ?_
  refine lv_iconst (v := 2) hx hb dX16_one_96 (by decide) ?_
  refine lv_iconst (v := 1) hx hb dX16_one_97 (by decide) ?_
  refine lv_iconst (v := 5) hx hb dX16_one_98 (by decide) ?_
  obtain ⟨q34, s35, hq, h⟩ := nd_b2_e h
  have hPc : va_P (dC, dI) vwCl (dw_P a ac ()) H := nd_p0
  have hDc : va_D A (dw_P a ac ()) := nd_d0
  have hKc : va_K (dC, dI) vwCl (dk_P ac) s := nd_y0 hK
  have hFc : ∀ q, va_A (dw_P a ac ()) H.size q → A q := nd_r0 hS hA
  refine nd_cSi (As := [.int v0, .int 2, .int 1, .int 5]) (rest := [.int ((((((q13 ||| q16) ||| q19) ||| q22) ||| q25) ||| q28) ||| q31)]) (q := q34) (w' := dw_P a ac s35) ⟨hx, hb, hml, hown, hts⟩ (fun sz => dm_X16_bit l hlt dC dI a ac n (v0) (2) (1) (5) () hq sz) (cwS 4 hts gi_dm_X16_one_1 rfl rfl rfl (by decide +kernel) ⟨Nat.le_of_ble_eq_true rfl, Nat.le_of_ble_eq_true rfl⟩) hPc hDc hKc hS hA hN rfl hl.1 rfl (Nat.le_of_ble_eq_true rfl) dX16_one_99 (fun H locs hP1 hD1 hk1 hS => ?_)
  have hP := nd_n0 hP hk1
  refine lv_ior hx hb dX16_one_102 ?_
  refine lv_bipush (v := 12) hx hb dX16_one_103 (by decide) ?_
  obtain ⟨q37, s38, hq, h⟩ := nd_b2_e h
  have hPc : va_P (dC, dI) vwCl (dw_P a ac ()) H := nd_p0
  have hDc : va_D A (dw_P a ac ()) := nd_d0
  have hKc : va_K (dC, dI) vwCl (dk_P ac) s := nd_y0 hK
  have hFc : ∀ q, va_A (dw_P a ac ()) H.size q → A q := nd_r0 hS hA
  refine nd_cSi (As := [.int (((((((q13 ||| q16) ||| q19) ||| q22) ||| q25) ||| q28) ||| q31) ||| q34), .int 12]) (rest := []) (q := q37) (w' := dw_P a ac s38) ⟨hx, hb, hml, hown, hts⟩ (fun sz => dm_X16_signed l hlt dC dI a ac n ((((((((q13 ||| q16) ||| q19) ||| q22) ||| q25) ||| q28) ||| q31) ||| q34)) (12) () hq sz) (cwS 2 hts gi_dm_X16_one_2 rfl rfl rfl (by decide +kernel) ⟨Nat.le_of_ble_eq_true rfl, Nat.le_of_ble_eq_true rfl⟩) hPc hDc hKc hS hA hN rfl hl.1 rfl (Nat.le_of_ble_eq_true rfl) dX16_one_105 (fun H locs hP1 hD1 hk1 hS => ?_)
  have hP := nd_n0 hP hk1
  refine lv_istore (lv' := [(4, .int q37), (3, .int q10), (2, .int q1), (0, .int v0), (1, .int v1)]) hx hb dX16_one_108 hl (by decide) rfl (fun ls hl => ?_)
  refine lv_iload_n hx hb dX16_one_110 rfl (lv_at hl 3 rfl) ?_
  refine lv_bipush (v := 12) hx hb dX16_one_111 (by decide) ?_
  refine lv_iconst (v := 1) hx hb dX16_one_113 (by decide) ?_
  refine lv_bipush (v := 8) hx hb dX16_one_114 (by decide) ?_
  obtain ⟨q40, s41, hq, h⟩ := nd_b2_e h
  have hPc : va_P (dC, dI) vwCl (dw_P a ac ()) H := nd_p0
  have hDc : va_D A (dw_P a ac ()) := nd_d0
  have hKc : va_K (dC, dI) vwCl (dk_P ac) s := nd_y0 hK
  have hFc : ∀ q, va_A (dw_P a ac ()) H.size q → A q := nd_r0 hS hA
  refine nd_cSi (As := [.int v0, .int 12, .int 1, .int 8]) (rest := []) (q := q40) (w' := dw_P a ac s41) ⟨hx, hb, hml, hown, hts⟩ (fun sz => dm_X16_bit l hlt dC dI a ac n (v0) (12) (1) (8) () hq sz) (cwS 4 hts gi_dm_X16_one_1 rfl rfl rfl (by decide +kernel) ⟨Nat.le_of_ble_eq_true rfl, Nat.le_of_ble_eq_true rfl⟩) hPc hDc hKc hS hA hN rfl hl.1 rfl (Nat.le_of_ble_eq_true rfl) dX16_one_116 (fun H locs hP1 hD1 hk1 hS => ?_)
  have hP := nd_n0 hP hk1
  refine lv_iload_n hx hb dX16_one_119 rfl (lv_at hl 3 rfl) ?_
  refine lv_bipush (v := 10) hx hb dX16_one_120 (by decide) ?_
  refine lv_iconst (v := 2) hx hb dX16_one_122 (by decide) ?_
  refine lv_iconst (v := 3) hx hb dX16_one_123 (by decide) ?_
  obtain ⟨q43, s44, hq, h⟩ := nd_b2_e h
  have hPc : va_P (dC, dI) vwCl (dw_P a ac ()) H := nd_p0
  have hDc : va_D A (dw_P a ac ()) := nd_d0
  have hKc : va_K (dC, dI) vwCl (dk_P ac) s := nd_y0 hK
  have hFc : ∀ q, va_A (dw_P a ac ()) H.size q → A q := nd_r0 hS hA
  refine nd_cSi (As := [.int v0, .int 10, .int 2, .int 3]) (rest := [.int q40]) (q := q43) (w' := dw_P a ac s44) ⟨hx, hb, hml, hown, hts⟩ (fun sz => dm_X16_bit l hlt dC dI a ac n (v0) (10) (2) (3) () hq sz) (cwS 4 hts gi_dm_X16_one_1 rfl rfl rfl (by decide +kernel) ⟨Nat.le_of_ble_eq_true rfl, Nat.le_of_ble_eq_true rfl⟩) hPc hDc hKc hS hA hN rfl hl.1 rfl (Nat.le_of_ble_eq_true rfl) dX16_one_124 (fun H locs hP1 hD1 hk1 hS => ?_)
  have hP := nd_n0 hP hk1
  refine lv_ior hx hb dX16_one_127 ?_
  refine lv_iload_n hx hb dX16_one_128 rfl (lv_at hl 3 rfl) ?_
  refine lv_iconst (v := 5) hx hb dX16_one_129 (by decide) ?_
  refine lv_iconst (v := 2) hx hb dX16_one_130 (by decide) ?_
  refine lv_bipush (v := 6) hx hb dX16_one_131 (by decide) ?_
  obtain ⟨q46, s47, hq, h⟩ := nd_b2_e h
  have hPc : va_P (dC, dI) vwCl (dw_P a ac ()) H := nd_p0
  have hDc : va_D A (dw_P a ac ()) := nd_d0
  have hKc : va_K (dC, dI) vwCl (dk_P ac) s := nd_y0 hK
  have hFc : ∀ q, va_A (dw_P a ac ()) H.size q → A q := nd_r0 hS hA
  refine nd_cSi (As := [.int v0, .int 5, .int 2, .int 6]) (rest := [.int (q40 ||| q43)]) (q := q46) (w' := dw_P a ac s47) ⟨hx, hb, hml, hown, hts⟩ (fun sz => dm_X16_bit l hlt dC dI a ac n (v0) (5) (2) (6) () hq sz) (cwS 4 hts gi_dm_X16_one_1 rfl rfl rfl (by decide +kernel) ⟨Nat.le_of_ble_eq_true rfl, Nat.le_of_ble_eq_true rfl⟩) hPc hDc hKc hS hA hN rfl hl.1 rfl (Nat.le_of_ble_eq_true rfl) dX16_one_133 (fun H locs hP1 hD1 hk1 hS => ?_)
  have hP := nd_n0 hP hk1
  refine lv_ior hx hb dX16_one_136 ?_
  refine lv_iload_n hx hb dX16_one_137 rfl (lv_at hl 3 rfl) ?_
  refine lv_iconst (v := 3) hx hb dX16_one_138 (by decide) ?_
  refine lv_iconst (v := 2) hx hb dX16_one_139 (by decide) ?_
  refine lv_iconst (v := 1) hx hb dX16_one_140 (by decide) ?_
  obtain ⟨q49, s50, hq, h⟩ := nd_b2_e h
  have hPc : va_P (dC, dI) vwCl (dw_P a ac ()) H := nd_p0
  have hDc : va_D A (dw_P a ac ()) := nd_d0
  have hKc : va_K (dC, dI) vwCl (dk_P ac) s := nd_y0 hK
  have hFc : ∀ q, va_A (dw_P a ac ()) H.size q → A q := nd_r0 hS hA
  refine nd_cSi (As := [.int v0, .int 3, .int 2, .int 1]) (rest := [.int ((q40 ||| q43) ||| q46)]) (q := q49) (w' := dw_P a ac s50) ⟨hx, hb, hml, hown, hts⟩ (fun sz => dm_X16_bit l hlt dC dI a ac n (v0) (3) (2) (1) () hq sz) (cwS 4 hts gi_dm_X16_one_1 rfl rfl rfl (by decide +kernel) ⟨Nat.le_of_ble_eq_true rfl, Nat.le_of_ble_eq_true rfl⟩) hPc hDc hKc hS hA hN rfl hl.1 rfl (Nat.le_of_ble_eq_true rfl) dX16_one_141 (fun H locs hP1 hD1 hk1 hS => ?_)
  have hP := nd_n0 hP hk1
  refine lv_ior hx hb dX16_one_144 ?_
  refine lv_iload_n hx hb dX16_one_145 rfl (lv_at hl 3 rfl) ?_
  refine lv_iconst (v := 2) hx hb dX16_one_146 (by decide) ?_
  refine lv_iconst (v := 1) hx hb dX16_one_147 (by decide) ?_
  refine lv_iconst (v := 5) hx hb dX16_one_148 (by decide) ?_
  obtain ⟨q52, s53, hq, h⟩ := nd_b2_e h
  have hPc : va_P (dC, dI) vwCl (dw_P a ac ()) H := nd_p0
  have hDc : va_D A (dw_P a ac ()) := nd_d0
  have hKc : va_K (dC, dI) vwCl (dk_P ac) s := nd_y0 hK
  have hFc : ∀ q, va_A (dw_P a ac ()) H.size q → A q := nd_r0 hS hA
  refine nd_cSi (As := [.int v0, .int 2, .int 1, .int 5]) (rest := [.int (((q40 ||| q43) ||| q46) ||| q49)]) (q := q52) (w' := dw_P a ac s53) ⟨hx, hb, hml, hown, hts⟩ (fun sz => dm_X16_bit l hlt dC dI a ac n (v0) (2) (1) (5) () hq sz) (cwS 4 hts gi_dm_X16_one_1 rfl rfl rfl (by decide +kernel) ⟨Nat.le_of_ble_eq_true rfl, Nat.le_of_ble_eq_true rfl⟩) hPc hDc hKc hS hA hN rfl hl.1 rfl (Nat.le_of_ble_eq_true rfl) dX16_one_149 (fun H locs hP1 hD1 hk1 hS => ?_)
  have hP := nd_n0 hP hk1
  refine lv_ior hx hb dX16_one_152 ?_
  refine lv_bipush (v := 9) hx hb dX16_one_153 (by decide) ?_
  obtain ⟨q55, s56, hq, h⟩ := nd_b2_e h
  have hPc : va_P (dC, dI) vwCl (dw_P a ac ()) H := nd_p0
  have hDc : va_D A (dw_P a ac ()) := nd_d0
  have hKc : va_K (dC, dI) vwCl (dk_P ac) s := nd_y0 hK
  have hFc : ∀ q, va_A (dw_P a ac ()) H.size q → A q := nd_r0 hS hA
  refine nd_cSi (As := [.int ((((q40 ||| q43) ||| q46) ||| q49) ||| q52), .int 9]) (rest := []) (q := q55) (w' := dw_P a ac s56) ⟨hx, hb, hml, hown, hts⟩ (fun sz => dm_X16_signed l hlt dC dI a ac n (((((q40 ||| q43) ||| q46) ||| q49) ||| q52)) (9) () hq sz) (cwS 2 hts gi_dm_X16_one_2 rfl rfl rfl (by decide +kernel) ⟨Nat.le_of_ble_eq_true rfl, Nat.le_of_ble_eq_true rfl⟩) hPc hDc hKc hS hA hN rfl hl.1 rfl (Nat.le_of_ble_eq_true rfl) dX16_one_155 (fun H locs hP1 hD1 hk1 hS => ?_)
  have hP := nd_n0 hP hk1
  refine lv_istore (lv' := [(5, .int q55), (4, .int q37), (3, .int q10), (2, .int q1), (0, .int v0), (1, .int v1)]) hx hb dX16_one_158 hl (by decide) rfl (fun ls hl => ?_)
  refine lv_iload_n hx hb dX16_one_160 rfl (lv_at hl 4 rfl) ?_
  refine lv_bipush (v := 12) hx hb dX16_one_161 (by decide) ?_
  refine lv_iconst (v := 1) hx hb dX16_one_163 (by decide) ?_
  refine lv_bipush (v := 9) hx hb dX16_one_164 (by decide) ?_
  obtain ⟨q58, s59, hq, h⟩ := nd_b2_e h
  have hPc : va_P (dC, dI) vwCl (dw_P a ac ()) H := nd_p0
  have hDc : va_D A (dw_P a ac ()) := nd_d0
  have hKc : va_K (dC, dI) vwCl (dk_P ac) s := nd_y0 hK
  have hFc : ∀ q, va_A (dw_P a ac ()) H.size q → A q := nd_r0 hS hA
  refine nd_cSi (As := [.int v0, .int 12, .int 1, .int 9]) (rest := []) (q := q58) (w' := dw_P a ac s59) ⟨hx, hb, hml, hown, hts⟩ (fun sz => dm_X16_bit l hlt dC dI a ac n (v0) (12) (1) (9) () hq sz) (cwS 4 hts gi_dm_X16_one_1 rfl rfl rfl (by decide +kernel) ⟨Nat.le_of_ble_eq_true rfl, Nat.le_of_ble_eq_true rfl⟩) hPc hDc hKc hS hA hN rfl hl.1 rfl (Nat.le_of_ble_eq_true rfl) dX16_one_166 (fun H locs hP1 hD1 hk1 hS => ?_)
  have hP := nd_n0 hP hk1
  refine lv_iload_n hx hb dX16_one_169 rfl (lv_at hl 4 rfl) ?_
  refine lv_bipush (v := 6) hx hb dX16_one_170 (by decide) ?_
  refine lv_iconst (v := 1) hx hb dX16_one_172 (by decide) ?_
  refine lv_iconst (v := 4) hx hb dX16_one_173 (by decide) ?_
  obtain ⟨q61, s62, hq, h⟩ := nd_b2_e h
  have hPc : va_P (dC, dI) vwCl (dw_P a ac ()) H := nd_p0
  have hDc : va_D A (dw_P a ac ()) := nd_d0
  have hKc : va_K (dC, dI) vwCl (dk_P ac) s := nd_y0 hK
  have hFc : ∀ q, va_A (dw_P a ac ()) H.size q → A q := nd_r0 hS hA
  refine nd_cSi (As := [.int v0, .int 6, .int 1, .int 4]) (rest := [.int q58]) (q := q61) (w' := dw_P a ac s62) ⟨hx, hb, hml, hown, hts⟩ (fun sz => dm_X16_bit l hlt dC dI a ac n (v0) (6) (1) (4) () hq sz) (cwS 4 hts gi_dm_X16_one_1 rfl rfl rfl (by decide +kernel) ⟨Nat.le_of_ble_eq_true rfl, Nat.le_of_ble_eq_true rfl⟩) hPc hDc hKc hS hA hN rfl hl.1 rfl (Nat.le_of_ble_eq_true rfl) dX16_one_174 (fun H locs hP1 hD1 hk1 hS => ?_)
  have hP := nd_n0 hP hk1
  refine lv_ior hx hb dX16_one_177 ?_
  refine lv_iload_n hx hb dX16_one_178 rfl (lv_at hl 4 rfl) ?_
  refine lv_iconst (v := 5) hx hb dX16_one_179 (by decide) ?_
  refine lv_iconst (v := 1) hx hb dX16_one_180 (by decide) ?_
  refine lv_bipush (v := 6) hx hb dX16_one_181 (by decide) ?_
  obtain ⟨q64, s65, hq, h⟩ := nd_b2_e h
  have hPc : va_P (dC, dI) vwCl (dw_P a ac ()) H := nd_p0
  have hDc : va_D A (dw_P a ac ()) := nd_d0
  have hKc : va_K (dC, dI) vwCl (dk_P ac) s := nd_y0 hK
  have hFc : ∀ q, va_A (dw_P a ac ()) H.size q → A q := nd_r0 hS hA
  refine nd_cSi (As := [.int v0, .int 5, .int 1, .int 6]) (rest := [.int (q58 ||| q61)]) (q := q64) (w' := dw_P a ac s65) ⟨hx, hb, hml, hown, hts⟩ (fun sz => dm_X16_bit l hlt dC dI a ac n (v0) (5) (1) (6) () hq sz) (cwS 4 hts gi_dm_X16_one_1 rfl rfl rfl (by decide +kernel) ⟨Nat.le_of_ble_eq_true rfl, Nat.le_of_ble_eq_true rfl⟩) hPc hDc hKc hS hA hN rfl hl.1 rfl (Nat.le_of_ble_eq_true rfl) dX16_one_183 (fun H locs hP1 hD1 hk1 hS => ?_)
  have hP := nd_n0 hP hk1
  refine lv_ior hx hb dX16_one_186 ?_
  refine lv_iload_n hx hb dX16_one_187 rfl (lv_at hl 4 rfl) ?_
  refine lv_iconst (v := 3) hx hb dX16_one_188 (by decide) ?_
  refine lv_iconst (v := 2) hx hb dX16_one_189 (by decide) ?_
  refine lv_bipush (v := 7) hx hb dX16_one_190 (by decide) ?_
  obtain ⟨q67, s68, hq, h⟩ := nd_b2_e h
  have hPc : va_P (dC, dI) vwCl (dw_P a ac ()) H := nd_p0
  have hDc : va_D A (dw_P a ac ()) := nd_d0
  have hKc : va_K (dC, dI) vwCl (dk_P ac) s := nd_y0 hK
  have hFc : ∀ q, va_A (dw_P a ac ()) H.size q → A q := nd_r0 hS hA
  refine nd_cSi (As := [.int v0, .int 3, .int 2, .int 7]) (rest := [.int ((q58 ||| q61) ||| q64)]) (q := q67) (w' := dw_P a ac s68) ⟨hx, hb, hml, hown, hts⟩ (fun sz => dm_X16_bit l hlt dC dI a ac n (v0) (3) (2) (7) () hq sz) (cwS 4 hts gi_dm_X16_one_1 rfl rfl rfl (by decide +kernel) ⟨Nat.le_of_ble_eq_true rfl, Nat.le_of_ble_eq_true rfl⟩) hPc hDc hKc hS hA hN rfl hl.1 rfl (Nat.le_of_ble_eq_true rfl) dX16_one_192 (fun H locs hP1 hD1 hk1 hS => ?_)
  have hP := nd_n0 hP hk1
  refine lv_ior hx hb dX16_one_195 ?_
  refine lv_iload_n hx hb dX16_one_196 rfl (lv_at hl 4 rfl) ?_
  refine lv_iconst (v := 2) hx hb dX16_one_197 (by decide) ?_
  refine lv_iconst (v := 1) hx hb dX16_one_198 (by decide) ?_
  refine lv_iconst (v := 5) hx hb dX16_one_199 (by decide) ?_
  obtain ⟨q70, s71, hq, h⟩ := nd_b2_e h
  have hPc : va_P (dC, dI) vwCl (dw_P a ac ()) H := nd_p0
  have hDc : va_D A (dw_P a ac ()) := nd_d0
  have hKc : va_K (dC, dI) vwCl (dk_P ac) s := nd_y0 hK
  have hFc : ∀ q, va_A (dw_P a ac ()) H.size q → A q := nd_r0 hS hA
  refine nd_cSi (As := [.int v0, .int 2, .int 1, .int 5]) (rest := [.int (((q58 ||| q61) ||| q64) ||| q67)]) (q := q70) (w' := dw_P a ac s71) ⟨hx, hb, hml, hown, hts⟩ (fun sz => dm_X16_bit l hlt dC dI a ac n (v0) (2) (1) (5) () hq sz) (cwS 4 hts gi_dm_X16_one_1 rfl rfl rfl (by decide +kernel) ⟨Nat.le_of_ble_eq_true rfl, Nat.le_of_ble_eq_true rfl⟩) hPc hDc hKc hS hA hN rfl hl.1 rfl (Nat.le_of_ble_eq_true rfl) dX16_one_200 (fun H locs hP1 hD1 hk1 hS => ?_)
  have hP := nd_n0 hP hk1
  refine lv_ior hx hb dX16_one_203 ?_
  refine lv_bipush (v := 10) hx hb dX16_one_204 (by decide) ?_
  obtain ⟨q73, s74, hq, h⟩ := nd_b2_e h
  have hPc : va_P (dC, dI) vwCl (dw_P a ac ()) H := nd_p0
  have hDc : va_D A (dw_P a ac ()) := nd_d0
  have hKc : va_K (dC, dI) vwCl (dk_P ac) s := nd_y0 hK
  have hFc : ∀ q, va_A (dw_P a ac ()) H.size q → A q := nd_r0 hS hA
  refine nd_cSi (As := [.int ((((q58 ||| q61) ||| q64) ||| q67) ||| q70), .int 10]) (rest := []) (q := q73) (w' := dw_P a ac s74) ⟨hx, hb, hml, hown, hts⟩ (fun sz => dm_X16_signed l hlt dC dI a ac n (((((q58 ||| q61) ||| q64) ||| q67) ||| q70)) (10) () hq sz) (cwS 2 hts gi_dm_X16_one_2 rfl rfl rfl (by decide +kernel) ⟨Nat.le_of_ble_eq_true rfl, Nat.le_of_ble_eq_true rfl⟩) hPc hDc hKc hS hA hN rfl hl.1 rfl (Nat.le_of_ble_eq_true rfl) dX16_one_206 (fun H locs hP1 hD1 hk1 hS => ?_)
  have hP := nd_n0 hP hk1
  refine lv_istore (lv' := [(6, .int q73), (5, .int q55), (4, .int q37), (3, .int q10), (2, .int q1), (0, .int v0), (1, .int v1)]) hx hb dX16_one_209 hl (by decide) rfl (fun ls hl => ?_)
  refine lv_iload_n hx hb dX16_one_211 rfl (lv_at hl 6 rfl) ?_
  by_cases c76 : v1 = 0
  · have h := nd_pos h c76
    refine lv_tableIn (off := 40) (tgt := 252) hx hb dX16_one_212 (by rw [c76]; decide) (by rw [c76]; decide) (by rw [c76]; decide) (by decide) ?_
    refine lv_bipush (v := 19) hx hb dX16_one_252 (by decide) ?_
    refine lv_iconst (v := 0) hx hb dX16_one_254 (by decide) ?_
    refine lv_iload_n hx hb dX16_one_255 rfl (lv_at hl 4 rfl) ?_
    refine lv_iload_n hx hb dX16_one_256 rfl (lv_at hl 4 rfl) ?_
    refine lv_iload_n hx hb dX16_one_257 rfl (lv_at hl 3 rfl) ?_
    obtain ⟨q77, s78, hq, h⟩ := nd_b2_e h
    have hPc : va_P (dC, dI) vwCl (dw_P a ac ()) H := nd_p0
    have hDc : va_D A (dw_P a ac ()) := nd_d0
    have hKc : va_K (dC, dI) vwCl (dk_P ac) s := nd_y0 hK
    have hFc : ∀ q, va_A (dw_P a ac ()) H.size q → A q := nd_r0 hS hA
    refine nd_cSi (As := [.int 19, .int 0, .int q1, .int q1, .int q10]) (rest := []) (q := q77) (w' := dw_P a ac s78) ⟨hx, hb, hml, hown, hts⟩ (fun sz => dm_X16_immediate l hlt dC dI a ac n (19) (0) (q1) (q1) (q10) () hq sz) (cwS 5 hts gi_dm_X16_one_3 rfl rfl rfl (by decide +kernel) ⟨Nat.le_of_ble_eq_true rfl, Nat.le_of_ble_eq_true rfl⟩) hPc hDc hKc hS hA hN rfl hl.1 rfl (Nat.le_of_ble_eq_true rfl) dX16_one_258 (fun H locs hP1 hD1 hk1 hS => ?_)
    have hP := nd_n0 hP hk1
    exact K _ _ _ _ _ _ dX16_one_261 rfl (Option.some.inj h).symm hP hD hS
  have h := nd_neg h c76
  by_cases c80 : v1 = 1
  · have h := nd_pos h c80
    refine lv_tableIn (off := 50) (tgt := 262) hx hb dX16_one_212 (by rw [c80]; decide) (by rw [c80]; decide) (by rw [c80]; decide) (by decide) ?_
    refine lv_iconst (v := 1) hx hb dX16_one_262 (by decide) ?_
    refine lv_iload hx hb dX16_one_263 (lv_at hl 2 rfl) ?_
    obtain ⟨q81, s82, hq, h⟩ := nd_b2_e h
    have hPc : va_P (dC, dI) vwCl (dw_P a ac ()) H := nd_p0
    have hDc : va_D A (dw_P a ac ()) := nd_d0
    have hKc : va_K (dC, dI) vwCl (dk_P ac) s := nd_y0 hK
    have hFc : ∀ q, va_A (dw_P a ac ()) H.size q → A q := nd_r0 hS hA
    refine nd_cSi (As := [.int 1, .int q37]) (rest := []) (q := q81) (w' := dw_P a ac s82) ⟨hx, hb, hml, hown, hts⟩ (fun sz => dm_X16_link l hlt dC dI a ac n (1) (q37) () hq sz) (cwS 2 hts gi_dm_X16_one_4 rfl rfl rfl (by decide +kernel) ⟨Nat.le_of_ble_eq_true rfl, Nat.le_of_ble_eq_true rfl⟩) hPc hDc hKc hS hA hN rfl hl.1 rfl (Nat.le_of_ble_eq_true rfl) dX16_one_265 (fun H locs hP1 hD1 hk1 hS => ?_)
    have hP := nd_n0 hP hk1
    exact K _ _ _ _ _ _ dX16_one_268 rfl (Option.some.inj h).symm hP hD hS
  have h := nd_neg h c80
  by_cases c84 : v1 = 2
  · have h := nd_pos h c84
    refine lv_tableIn (off := 57) (tgt := 269) hx hb dX16_one_212 (by rw [c84]; decide) (by rw [c84]; decide) (by rw [c84]; decide) (by decide) ?_
    refine lv_bipush (v := 19) hx hb dX16_one_269 (by decide) ?_
    refine lv_iconst (v := 0) hx hb dX16_one_271 (by decide) ?_
    refine lv_iload_n hx hb dX16_one_272 rfl (lv_at hl 4 rfl) ?_
    refine lv_iconst (v := 0) hx hb dX16_one_273 (by decide) ?_
    refine lv_iload_n hx hb dX16_one_274 rfl (lv_at hl 3 rfl) ?_
    obtain ⟨q85, s86, hq, h⟩ := nd_b2_e h
    have hPc : va_P (dC, dI) vwCl (dw_P a ac ()) H := nd_p0
    have hDc : va_D A (dw_P a ac ()) := nd_d0
    have hKc : va_K (dC, dI) vwCl (dk_P ac) s := nd_y0 hK
    have hFc : ∀ q, va_A (dw_P a ac ()) H.size q → A q := nd_r0 hS hA
    refine nd_cSi (As := [.int 19, .int 0, .int q1, .int 0, .int q10]) (rest := []) (q := q85) (w' := dw_P a ac s86) ⟨hx, hb, hml, hown, hts⟩ (fun sz => dm_X16_immediate l hlt dC dI a ac n (19) (0) (q1) (0) (q10) () hq sz) (cwS 5 hts gi_dm_X16_one_3 rfl rfl rfl (by decide +kernel) ⟨Nat.le_of_ble_eq_true rfl, Nat.le_of_ble_eq_true rfl⟩) hPc hDc hKc hS hA hN rfl hl.1 rfl (Nat.le_of_ble_eq_true rfl) dX16_one_275 (fun H locs hP1 hD1 hk1 hS => ?_)
    have hP := nd_n0 hP hk1
    exact K _ _ _ _ _ _ dX16_one_278 rfl (Option.some.inj h).symm hP hD hS
  have h := nd_neg h c84
  by_cases c88 : v1 = 3
  · have h := nd_pos h c88
    refine lv_tableIn (off := 67) (tgt := 279) hx hb dX16_one_212 (by rw [c88]; decide) (by rw [c88]; decide) (by rw [c88]; decide) (by decide) ?_
    refine lv_iload_n hx hb dX16_one_279 rfl (lv_at hl 4 rfl) ?_
    refine lv_iconst (v := 2) hx hb dX16_one_280 (by decide) ?_
    refine lv_icmp_ne (tgt := 306) hx hb dX16_one_281 (by decide) (fun c89 => ?_) (fun c89 => ?_)
    · have h := nd_neg h c89
      refine lv_iload_n hx hb dX16_one_306 rfl (lv_at hl 3 rfl) ?_
      refine lv_if_ne (tgt := 314) hx hb dX16_one_307 (by decide) (fun c90 => ?_) (fun c90 => ?_)
      · have h := nd_neg h c90
        refine lv_bipush (v := 55) hx hb dX16_one_314 (by decide) ?_
        refine lv_iload_n hx hb dX16_one_316 rfl (lv_at hl 4 rfl) ?_
        refine lv_bipush (v := 7) hx hb dX16_one_317 (by decide) ?_
        refine lv_ishl hx hb dX16_one_319 ?_
        refine lv_ior hx hb dX16_one_320 ?_
        refine lv_iload_n hx hb dX16_one_321 rfl (lv_at hl 3 rfl) ?_
        refine lv_bipush (v := 12) hx hb dX16_one_322 (by decide) ?_
        refine lv_ishl hx hb dX16_one_324 ?_
        refine lv_ior hx hb dX16_one_325 ?_
        exact (db_X16_one_326 C K) (((55 ||| ((q1 : Int32) <<< ((7 : Int32) &&& 31))) ||| ((q10 : Int32) <<< ((12 : Int32) &&& 31)))) s0 _ _ _ h hP hD hS (lv_sub hl [] rfl)
      · have h := nd_pos h c90
        refine lv_iconst (v := 0) hx hb dX16_one_310 (by decide) ?_
        refine lv_goto (tgt := 326) hx hb dX16_one_311 (by decide) ?_
        exact (db_X16_one_326 C K) (0) s0 _ _ _ h hP hD hS (lv_sub hl [] rfl)
    · have h := nd_pos h c89
      refine lv_iload hx hb dX16_one_284 (lv_at hl 0 rfl) ?_
      refine lv_if_ne (tgt := 293) hx hb dX16_one_286 (by decide) (fun c91 => ?_) (fun c91 => ?_)
      · have h := nd_neg h c91
        refine lv_bipush (v := 19) hx hb dX16_one_293 (by decide) ?_
        refine lv_iconst (v := 0) hx hb dX16_one_295 (by decide) ?_
        refine lv_iconst (v := 2) hx hb dX16_one_296 (by decide) ?_
        refine lv_iconst (v := 2) hx hb dX16_one_297 (by decide) ?_
        refine lv_iload hx hb dX16_one_298 (lv_at hl 0 rfl) ?_
        obtain ⟨q92, s93, hq, h⟩ := nd_b2_e h
        have hPc : va_P (dC, dI) vwCl (dw_P a ac ()) H := nd_p0
        have hDc : va_D A (dw_P a ac ()) := nd_d0
        have hKc : va_K (dC, dI) vwCl (dk_P ac) s := nd_y0 hK
        have hFc : ∀ q, va_A (dw_P a ac ()) H.size q → A q := nd_r0 hS hA
        refine nd_cSi (As := [.int 19, .int 0, .int 2, .int 2, .int q73]) (rest := []) (q := q92) (w' := dw_P a ac s93) ⟨hx, hb, hml, hown, hts⟩ (fun sz => dm_X16_immediate l hlt dC dI a ac n (19) (0) (2) (2) (q73) () hq sz) (cwS 5 hts gi_dm_X16_one_3 rfl rfl rfl (by decide +kernel) ⟨Nat.le_of_ble_eq_true rfl, Nat.le_of_ble_eq_true rfl⟩) hPc hDc hKc hS hA hN rfl hl.1 rfl (Nat.le_of_ble_eq_true rfl) dX16_one_300 (fun H locs hP1 hD1 hk1 hS => ?_)
        have hP := nd_n0 hP hk1
        refine lv_goto (tgt := 326) hx hb dX16_one_303 (by decide) ?_
        exact (db_X16_one_326 C K) (q92) s0 _ _ _ h hP hD hS (lv_sub hl [] rfl)
      · have h := nd_pos h c91
        refine lv_iconst (v := 0) hx hb dX16_one_289 (by decide) ?_
        refine lv_goto (tgt := 326) hx hb dX16_one_290 (by decide) ?_
        exact (db_X16_one_326 C K) (0) s0 _ _ _ h hP hD hS (lv_sub hl [] rfl)
  have h := nd_neg h c88
  by_cases c95 : v1 = 4
  · have h := nd_pos h c95
    refine lv_tableIn (off := 115) (tgt := 327) hx hb dX16_one_212 (by rw [c95]; decide) (by rw [c95]; decide) (by rw [c95]; decide) (by decide) ?_
    refine lv_iload_n hx hb dX16_one_327 rfl (lv_at hl 5 rfl) ?_
    refine lv_iload_n hx hb dX16_one_328 rfl (lv_at hl 3 rfl) ?_
    obtain ⟨q96, s97, hq, h⟩ := nd_b2_e h
    have hPc : va_P (dC, dI) vwCl (dw_P a ac ()) H := nd_p0
    have hDc : va_D A (dw_P a ac ()) := nd_d0
    have hKc : va_K (dC, dI) vwCl (dk_P ac) s := nd_y0 hK
    have hFc : ∀ q, va_A (dw_P a ac ()) H.size q → A q := nd_r0 hS hA
    refine nd_cSi (As := [.int v0, .int q10]) (rest := []) (q := q96) (w' := dw_P a ac s97) ⟨hx, hb, hml, hown, hts⟩ (fun sz => dm_X16_four l hlt dC dI a ac n (v0) (q10) () hq sz) (cwS 2 hts gi_dm_X16_one_5 rfl rfl rfl (by decide +kernel) ⟨Nat.le_of_ble_eq_true rfl, Nat.le_of_ble_eq_true rfl⟩) hPc hDc hKc hS hA hN rfl hl.1 rfl (Nat.le_of_ble_eq_true rfl) dX16_one_329 (fun H locs hP1 hD1 hk1 hS => ?_)
    have hP := nd_n0 hP hk1
    exact K _ _ _ _ _ _ dX16_one_332 rfl (Option.some.inj h).symm hP hD hS
  have h := nd_neg h c95
  by_cases c99 : v1 = 5
  · have h := nd_pos h c99
    refine lv_tableIn (off := 121) (tgt := 333) hx hb dX16_one_212 (by rw [c99]; decide) (by rw [c99]; decide) (by rw [c99]; decide) (by decide) ?_
    refine lv_iconst (v := 0) hx hb dX16_one_333 (by decide) ?_
    refine lv_iload hx hb dX16_one_334 (lv_at hl 2 rfl) ?_
    obtain ⟨q100, s101, hq, h⟩ := nd_b2_e h
    have hPc : va_P (dC, dI) vwCl (dw_P a ac ()) H := nd_p0
    have hDc : va_D A (dw_P a ac ()) := nd_d0
    have hKc : va_K (dC, dI) vwCl (dk_P ac) s := nd_y0 hK
    have hFc : ∀ q, va_A (dw_P a ac ()) H.size q → A q := nd_r0 hS hA
    refine nd_cSi (As := [.int 0, .int q37]) (rest := []) (q := q100) (w' := dw_P a ac s101) ⟨hx, hb, hml, hown, hts⟩ (fun sz => dm_X16_link l hlt dC dI a ac n (0) (q37) () hq sz) (cwS 2 hts gi_dm_X16_one_4 rfl rfl rfl (by decide +kernel) ⟨Nat.le_of_ble_eq_true rfl, Nat.le_of_ble_eq_true rfl⟩) hPc hDc hKc hS hA hN rfl hl.1 rfl (Nat.le_of_ble_eq_true rfl) dX16_one_336 (fun H locs hP1 hD1 hk1 hS => ?_)
    have hP := nd_n0 hP hk1
    exact K _ _ _ _ _ _ dX16_one_339 rfl (Option.some.inj h).symm hP hD hS
  have h := nd_neg h c99
  refine lv_tableOut (tgt := 340) hx hb dX16_one_212 (by have g0 := nv_nei c76 (k := 0) (by decide); have g1 := nv_nei c80 (k := 1) (by decide); have g2 := nv_nei c84 (k := 2) (by decide); have g3 := nv_nei c88 (k := 3) (by decide); have g4 := nv_nei c95 (k := 4) (by decide); have g5 := nv_nei c99 (k := 5) (by decide); omega) (by decide) ?_
  refine lv_iload_n hx hb dX16_one_340 rfl (lv_at hl 6 rfl) ?_
  refine lv_bipush (v := 6) hx hb dX16_one_341 (by decide) ?_
  refine lv_isub hx hb dX16_one_343 ?_
  refine lv_bipush (v := 8) hx hb dX16_one_344 (by decide) ?_
  refine lv_iload_n hx hb dX16_one_346 rfl (lv_at hl 5 rfl) ?_
  refine lv_bipush (v := 7) hx hb dX16_one_347 (by decide) ?_
  refine lv_iconst (v := 3) hx hb dX16_one_349 (by decide) ?_
  obtain ⟨q103, s104, hq, h⟩ := nd_b2_e h
  have hPc : va_P (dC, dI) vwCl (dw_P a ac ()) H := nd_p0
  have hDc : va_D A (dw_P a ac ()) := nd_d0
  have hKc : va_K (dC, dI) vwCl (dk_P ac) s := nd_y0 hK
  have hFc : ∀ q, va_A (dw_P a ac ()) H.size q → A q := nd_r0 hS hA
  refine nd_cSi (As := [.int v0, .int 7, .int 3]) (rest := [.int 8, .int (v1 - 6)]) (q := q103) (w' := dw_P a ac s104) ⟨hx, hb, hml, hown, hts⟩ (fun sz => dm_X16_part l hlt dC dI a ac n (v0) (7) (3) () hq sz) (cwS 3 hts gi_dm_X16_one_0 rfl rfl rfl (by decide +kernel) ⟨Nat.le_of_ble_eq_true rfl, Nat.le_of_ble_eq_true rfl⟩) hPc hDc hKc hS hA hN rfl hl.1 rfl (Nat.le_of_ble_eq_true rfl) dX16_one_350 (fun H locs hP1 hD1 hk1 hS => ?_)
  have hP := nd_n0 hP hk1
  refine lv_iadd hx hb dX16_one_353 ?_
  refine lv_iload hx hb dX16_one_354 (lv_at hl 1 rfl) ?_
  obtain ⟨q106, s107, hq, h⟩ := nd_b2_e h
  have hPc : va_P (dC, dI) vwCl (dw_P a ac ()) H := nd_p0
  have hDc : va_D A (dw_P a ac ()) := nd_d0
  have hKc : va_K (dC, dI) vwCl (dk_P ac) s := nd_y0 hK
  have hFc : ∀ q, va_A (dw_P a ac ()) H.size q → A q := nd_r0 hS hA
  refine nd_cSi (As := [.int (v1 - 6), .int (8 + q103), .int q55]) (rest := []) (q := q106) (w' := dw_P a ac s107) ⟨hx, hb, hml, hown, hts⟩ (fun sz => dm_X16_branch l hlt dC dI a ac n ((v1 - 6)) ((8 + q103)) (q55) () hq sz) (cwS 3 hts gi_dm_X16_one_6 rfl rfl rfl (by decide +kernel) ⟨Nat.le_of_ble_eq_true rfl, Nat.le_of_ble_eq_true rfl⟩) hPc hDc hKc hS hA hN rfl hl.1 rfl (Nat.le_of_ble_eq_true rfl) dX16_one_356 (fun H locs hP1 hD1 hk1 hS => ?_)
  have hP := nd_n0 hP hk1
  exact K _ _ _ _ _ _ dX16_one_359 rfl (Option.some.inj h).symm hP hD hS
set_option maxHeartbeats 40000000 in
set_option maxRecDepth 100000 in
theorem dm_X16_one (l : Launch) (hlt : l.stackTraces = false) (dC : Nat → ClassId) (dI : Nat → Nat → Nat) (a : Nat → Nat) (ac : Nat → ClassId) (n : Nat) (v0 : Int32) (v1 : Int32) (s0 : Unit) {r : Int32 × (Unit)} (h : df_X16_one n v0 v1 s0 = some r) (sz : Nat) : Met l yX16_one ow_dm_X16_one ({ frames := 3, cells := 0, slots := 0, locals := 67 }) (va_Pc [.int v0, .int v1] (fun U => U.heap.size = sz ∧ va_P (dC, dI) vwCl (dw_P a ac s0) U.heap ∧ va_K (dC, dI) vwCl (dk_P ac) U ∧ va_D (fun _ => True) (dw_P a ac s0) ∧ nv_E dI (va_A (dw_P a ac s0) sz) U)) (va_Qi (fun x _ => x = r.1) (fun (_ : Unit) t => va_P (dC, dI) vwCl (dw_P a ac r.2) t.heap ∧ va_K (dC, dI) vwCl (dk_P ac) t ∧ va_D (va_A (dw_P a ac s0) sz) (dw_P a ac r.2)) (va_A (dw_P a ac s0) sz)) 0 0 (va_A (dw_P a ac s0) sz) := by
  refine Met.ofW (cc := cX16_one) (maxL := 7) (ret := (some .int)) (by decide) rfl ?_
  intro p e s m args below meth c s₁ B hml hv
  obtain ⟨rfl, hsz, hP, hK, hD0, hN⟩ := hv
  have hx := B.exec
  have hb := B.bytes
  have hr := B.returns
  have hts := atoms_spec (ws := ow_dm_X16_one) B.pre
  have hown : s.vm.findClass RX16 = some m.cls := findClass_of_methodNamed B.named
  have hlocks := B.notSynchronized
  subst hsz
  have hD := hD0.self (sz := s.heap.size)
  generalize hAe : va_A (dw_P a ac s0) s.heap.size = A at hD hN ⊢
  have hA : ∀ q : Nat, s.heap.size ≤ q → A q := fun q h => by rw [← hAe]; exact Or.inr h
  have hl := lv_entry ([.int v0, .int v1]) (n := 7) (Nat.le_of_ble_eq_true rfl)
  rw [lg_entry_eq]
  generalize (lg_sl ([.int v0, .int v1]) ++ List.replicate (7 - (lg_sl ([.int v0, .int v1])).length) Slot.unset).toArray = ls at hl ⊢
  have hl : lv_has ls 7 [(0, .int v0), (1, .int v1)] := hl
  exact db_X16_one_0 (dC := dC) (dI := dI) (a := a) (ac := ac) (n := n) (r := r) ⟨hlt, hx, hb, hml, hown, hts, hN, hA, hK⟩ (fun pc v τ H locs ls d z er hP hD hS => by subst er; exact W.zret (v := v) hx hb hr z (fun t ht hW => ⟨⟨v, (), rfl, rfl, by rw [ht]; exact hP, va_K.moved hW.alike hK, hD⟩, hS.F ht⟩) hS.2.2 d) v0 v1 s0 _ _ _ h hP hD va_S.rf (lv_sub hl [0, 1] rfl)
def ow_dm_X16_zero : List Cond := Cond.code yX16_zero cX16_zero 6 (some .int) :: ([Cond.methodLink RX16 297 yX16_part, Cond.static yX16_part, Cond.initialized RX16, Cond.methodLink RX16 300 yX16_bit, Cond.static yX16_bit, Cond.methodLink RX16 317 yX16_storing, Cond.static yX16_storing, Cond.methodLink RX16 313 yX16_immediate, Cond.static yX16_immediate] ++ (ow_dm_X16_part ++ (ow_dm_X16_bit ++ (ow_dm_X16_storing ++ (ow_dm_X16_immediate ++ [])))))
theorem gd_dm_X16_zero : ∀ w ∈ ow_dm_X16_zero, (w.onTables && w.keeps) = true ∨ ∃ ty, w = Cond.arrayClass ty := List.forall_mem_cons.mpr ⟨good_of_word rfl, List.forall_mem_append.mpr ⟨fun w h => good_of_word (List.all_eq_true.mp (by decide +kernel) w h), List.forall_mem_append.mpr ⟨gd_dm_X16_part, List.forall_mem_append.mpr ⟨gd_dm_X16_bit, List.forall_mem_append.mpr ⟨gd_dm_X16_storing, List.forall_mem_append.mpr ⟨gd_dm_X16_immediate, fun _ h => nomatch h⟩⟩⟩⟩⟩⟩
theorem gi_dm_X16_zero_0 : GoodIn ow_dm_X16_zero (wsS RX16 297 yX16_part ow_dm_X16_part) := goodIn_app (goodIn_of _ (by decide +kernel)) (fun w h => ⟨List.mem_cons_of_mem _ (List.mem_append_right _ (List.mem_append_left _ h)), gd_dm_X16_part w h⟩)
theorem gi_dm_X16_zero_1 : GoodIn ow_dm_X16_zero (wsS RX16 300 yX16_bit ow_dm_X16_bit) := goodIn_app (goodIn_of _ (by decide +kernel)) (fun w h => ⟨List.mem_cons_of_mem _ (List.mem_append_right _ (List.mem_append_right _ (List.mem_append_left _ h))), gd_dm_X16_bit w h⟩)
theorem gi_dm_X16_zero_2 : GoodIn ow_dm_X16_zero (wsS RX16 317 yX16_storing ow_dm_X16_storing) := goodIn_app (goodIn_of _ (by decide +kernel)) (fun w h => ⟨List.mem_cons_of_mem _ (List.mem_append_right _ (List.mem_append_right _ (List.mem_append_right _ (List.mem_append_left _ h)))), gd_dm_X16_storing w h⟩)
theorem gi_dm_X16_zero_3 : GoodIn ow_dm_X16_zero (wsS RX16 313 yX16_immediate ow_dm_X16_immediate) := goodIn_app (goodIn_of _ (by decide +kernel)) (fun w h => ⟨List.mem_cons_of_mem _ (List.mem_append_right _ (List.mem_append_right _ (List.mem_append_right _ (List.mem_append_right _ (List.mem_append_left _ h))))), gd_dm_X16_immediate w h⟩)
def dj_X16_zero_144 (p : Program) (l : Launch) (e : Env) (s : State) (m : MethodId) (args : Array Value) (below : List Frame) (meth : Method) (c : Code) (Q : State → Prop) (A : Nat → Prop) (dC : Nat → ClassId) (dI : Nat → Nat → Nat) (a : Nat → Nat) (ac : Nat → ClassId) (g : Int32 → (Unit) → Option (Int32 × (Unit))) (r : Int32 × (Unit)) : Prop := ∀ (y0 : Int32) (s0 : Unit) (H : Heap) (locs : List Loc) (ls : Array Slot), g y0 s0 = some r → va_P (dC, dI) vwCl (dw_P a ac s0) H → va_D A (dw_P a ac s0) → va_S A s.heap H locs → lv_has ls 6 [] → W p l e (headSpec ow_dm_X16_zero ({ frames := 3, cells := 0, slots := 0, locals := 67 })).room s m args below meth c H locs 0 0 Q (F0 m 144 ls [.int y0])
def dj_X16_zero_109 (p : Program) (l : Launch) (e : Env) (s : State) (m : MethodId) (args : Array Value) (below : List Frame) (meth : Method) (c : Code) (Q : State → Prop) (A : Nat → Prop) (dC : Nat → ClassId) (dI : Nat → Nat → Nat) (a : Nat → Nat) (ac : Nat → ClassId) (g : Int32 → (Unit) → Option (Int32 × (Unit))) (r : Int32 × (Unit)) : Prop := ∀ (y0 : Int32) (s0 : Unit) (H : Heap) (locs : List Loc) (ls : Array Slot), g y0 s0 = some r → va_P (dC, dI) vwCl (dw_P a ac s0) H → va_D A (dw_P a ac s0) → va_S A s.heap H locs → lv_has ls 6 [] → W p l e (headSpec ow_dm_X16_zero ({ frames := 3, cells := 0, slots := 0, locals := 67 })).room s m args below meth c H locs 0 0 Q (F0 m 109 ls [.int y0])
def dj_X16_zero_0 (p : Program) (l : Launch) (e : Env) (s : State) (m : MethodId) (args : Array Value) (below : List Frame) (meth : Method) (c : Code) (Q : State → Prop) (A : Nat → Prop) (dC : Nat → ClassId) (dI : Nat → Nat → Nat) (a : Nat → Nat) (ac : Nat → ClassId) (g : Int32 → Int32 → (Unit) → Option (Int32 × (Unit))) (r : Int32 × (Unit)) : Prop := ∀ (v0 : Int32) (v1 : Int32) (s0 : Unit) (H : Heap) (locs : List Loc) (ls : Array Slot), g v0 v1 s0 = some r → va_P (dC, dI) vwCl (dw_P a ac s0) H → va_D A (dw_P a ac s0) → va_S A s.heap H locs → lv_has ls 6 [(0, .int v0), (1, .int v1)] → W p l e (headSpec ow_dm_X16_zero ({ frames := 3, cells := 0, slots := 0, locals := 67 })).room s m args below meth c H locs 0 0 Q (F0 m 0 ls [])
set_option maxHeartbeats 40000000 in
set_option maxRecDepth 100000 in
theorem db_X16_zero_144 {p : Program} {l : Launch} {e : Env} {s : State} {m : MethodId} {args : Array Value} {below : List Frame} {meth : Method} {c : Code} {Q : State → Prop} {A : Nat → Prop} {dC : Nat → ClassId} {dI : Nat → Nat → Nat} {a : Nat → Nat} {ac : Nat → ClassId} {n : Nat} {r : Int32 × (Unit)} (C : nd_C p l s m args c A (dC, dI) cX16_zero 6 RX16 ow_dm_X16_zero (dk_P ac)) (K : nd_Ki p l e (headSpec ow_dm_X16_zero ({ frames := 3, cells := 0, slots := 0, locals := 67 })).room s m args below meth c Q A (dC, dI) cX16_zero .int (Unit) (dw_P a ac) r) : dj_X16_zero_144 p l e s m args below meth c Q A dC dI a ac (df_X16_zero_144 n) r := by
  obtain ⟨hlt, hx, hb, hml, hown, hts, hN, hA, hK⟩ := id C
  intro y0 s0 H locs ls h hP hD hS hl
  unfold df_X16_zero_144 at h
  exact K _ _ _ _ _ _ dX16_zero_144 rfl (Option.some.inj h).symm hP hD hS
set_option maxHeartbeats 40000000 in
set_option maxRecDepth 100000 in
theorem db_X16_zero_109 {p : Program} {l : Launch} {e : Env} {s : State} {m : MethodId} {args : Array Value} {below : List Frame} {meth : Method} {c : Code} {Q : State → Prop} {A : Nat → Prop} {dC : Nat → ClassId} {dI : Nat → Nat → Nat} {a : Nat → Nat} {ac : Nat → ClassId} {n : Nat} {r : Int32 × (Unit)} (C : nd_C p l s m args c A (dC, dI) cX16_zero 6 RX16 ow_dm_X16_zero (dk_P ac)) (K : nd_Ki p l e (headSpec ow_dm_X16_zero ({ frames := 3, cells := 0, slots := 0, locals := 67 })).room s m args below meth c Q A (dC, dI) cX16_zero .int (Unit) (dw_P a ac) r) : dj_X16_zero_109 p l e s m args below meth c Q A dC dI a ac (df_X16_zero_109 n) r := by
  obtain ⟨hlt, hx, hb, hml, hown, hts, hN, hA, hK⟩ := id C
  intro y0 s0 H locs ls h hP hD hS hl
  unfold df_X16_zero_109 at h
  exact K _ _ _ _ _ _ dX16_zero_109 rfl (Option.some.inj h).symm hP hD hS
set_option maxHeartbeats 40000000 in
set_option maxRecDepth 100000 in
theorem db_X16_zero_0 {p : Program} {l : Launch} {e : Env} {s : State} {m : MethodId} {args : Array Value} {below : List Frame} {meth : Method} {c : Code} {Q : State → Prop} {A : Nat → Prop} {dC : Nat → ClassId} {dI : Nat → Nat → Nat} {a : Nat → Nat} {ac : Nat → ClassId} {n : Nat} {r : Int32 × (Unit)} (C : nd_C p l s m args c A (dC, dI) cX16_zero 6 RX16 ow_dm_X16_zero (dk_P ac)) (K : nd_Ki p l e (headSpec ow_dm_X16_zero ({ frames := 3, cells := 0, slots := 0, locals := 67 })).room s m args below meth c Q A (dC, dI) cX16_zero .int (Unit) (dw_P a ac) r) : dj_X16_zero_0 p l e s m args below meth c Q A dC dI a ac (df_X16_zero_0 n) r := by
  obtain ⟨hlt, hx, hb, hml, hown, hts, hN, hA, hK⟩ := id C
  intro v0 v1 s0 H locs ls h hP hD hS hl
  unfold df_X16_zero_0 at h
  refine lv_bipush (v := 8) hx hb dX16_zero_0 (by decide) ?_
  refine lv_iload_n hx hb dX16_zero_2 rfl (lv_at hl 0 rfl) ?_
  refine lv_iconst (v := 2) hx hb dX16_zero_3 (by decide) ?_
  refine lv_iconst (v := 3) hx hb dX16_zero_4 (by decide) ?_
  obtain ⟨q1, s2, hq, h⟩ := nd_b2_e h
  have hPc : va_P (dC, dI) vwCl (dw_P a ac ()) H := nd_p0
  have hDc : va_D A (dw_P a ac ()) := nd_d0
  have hKc : va_K (dC, dI) vwCl (dk_P ac) s := nd_y0 hK
  have hFc : ∀ q, va_A (dw_P a ac ()) H.size q → A q := nd_r0 hS hA
  refine nd_cSi (As := [.int v0, .int 2, .int 3]) (rest := [.int 8]) (q := q1) (w' := dw_P a ac s2) ⟨hx, hb, hml, hown, hts⟩ (fun sz => dm_X16_part l hlt dC dI a ac n (v0) (2) (3) () hq sz) (cwS 3 hts gi_dm_X16_zero_0 rfl rfl rfl (by decide +kernel) ⟨Nat.le_of_ble_eq_true rfl, Nat.le_of_ble_eq_true rfl⟩) hPc hDc hKc hS hA hN rfl hl.1 rfl (Nat.le_of_ble_eq_true rfl) dX16_zero_5 (fun H locs hP1 hD1 hk1 hS => ?_)
  have hP := nd_n0 hP hk1
  refine lv_iadd hx hb dX16_zero_8 ?_
  refine lv_topi (fun z4 ez4 => ?_)
  have h := nd_at h ez4
  refine lv_istore_n (lv' := [(2, .int z4), (0, .int v0), (1, .int v1)]) hx hb dX16_zero_9 rfl hl (by decide) rfl (fun ls hl => ?_)
  refine lv_bipush (v := 8) hx hb dX16_zero_10 (by decide) ?_
  refine lv_iload_n hx hb dX16_zero_12 rfl (lv_at hl 1 rfl) ?_
  refine lv_bipush (v := 7) hx hb dX16_zero_13 (by decide) ?_
  refine lv_iconst (v := 3) hx hb dX16_zero_15 (by decide) ?_
  obtain ⟨q5, s6, hq, h⟩ := nd_b2_e h
  have hPc : va_P (dC, dI) vwCl (dw_P a ac ()) H := nd_p0
  have hDc : va_D A (dw_P a ac ()) := nd_d0
  have hKc : va_K (dC, dI) vwCl (dk_P ac) s := nd_y0 hK
  have hFc : ∀ q, va_A (dw_P a ac ()) H.size q → A q := nd_r0 hS hA
  refine nd_cSi (As := [.int v0, .int 7, .int 3]) (rest := [.int 8]) (q := q5) (w' := dw_P a ac s6) ⟨hx, hb, hml, hown, hts⟩ (fun sz => dm_X16_part l hlt dC dI a ac n (v0) (7) (3) () hq sz) (cwS 3 hts gi_dm_X16_zero_0 rfl rfl rfl (by decide +kernel) ⟨Nat.le_of_ble_eq_true rfl, Nat.le_of_ble_eq_true rfl⟩) hPc hDc hKc hS hA hN rfl hl.1 rfl (Nat.le_of_ble_eq_true rfl) dX16_zero_16 (fun H locs hP1 hD1 hk1 hS => ?_)
  have hP := nd_n0 hP hk1
  refine lv_iadd hx hb dX16_zero_19 ?_
  refine lv_topi (fun z8 ez8 => ?_)
  have h := nd_at h ez8
  refine lv_istore_n (lv' := [(3, .int z8), (2, .int z4), (0, .int v0), (1, .int v1)]) hx hb dX16_zero_20 rfl hl (by decide) rfl (fun ls hl => ?_)
  refine lv_iload_n hx hb dX16_zero_21 rfl (lv_at hl 2 rfl) ?_
  refine lv_bipush (v := 10) hx hb dX16_zero_22 (by decide) ?_
  refine lv_iconst (v := 3) hx hb dX16_zero_24 (by decide) ?_
  refine lv_iconst (v := 3) hx hb dX16_zero_25 (by decide) ?_
  obtain ⟨q9, s10, hq, h⟩ := nd_b2_e h
  have hPc : va_P (dC, dI) vwCl (dw_P a ac ()) H := nd_p0
  have hDc : va_D A (dw_P a ac ()) := nd_d0
  have hKc : va_K (dC, dI) vwCl (dk_P ac) s := nd_y0 hK
  have hFc : ∀ q, va_A (dw_P a ac ()) H.size q → A q := nd_r0 hS hA
  refine nd_cSi (As := [.int v0, .int 10, .int 3, .int 3]) (rest := []) (q := q9) (w' := dw_P a ac s10) ⟨hx, hb, hml, hown, hts⟩ (fun sz => dm_X16_bit l hlt dC dI a ac n (v0) (10) (3) (3) () hq sz) (cwS 4 hts gi_dm_X16_zero_1 rfl rfl rfl (by decide +kernel) ⟨Nat.le_of_ble_eq_true rfl, Nat.le_of_ble_eq_true rfl⟩) hPc hDc hKc hS hA hN rfl hl.1 rfl (Nat.le_of_ble_eq_true rfl) dX16_zero_26 (fun H locs hP1 hD1 hk1 hS => ?_)
  have hP := nd_n0 hP hk1
  refine lv_iload_n hx hb dX16_zero_29 rfl (lv_at hl 2 rfl) ?_
  refine lv_bipush (v := 6) hx hb dX16_zero_30 (by decide) ?_
  refine lv_iconst (v := 1) hx hb dX16_zero_32 (by decide) ?_
  refine lv_iconst (v := 2) hx hb dX16_zero_33 (by decide) ?_
  obtain ⟨q12, s13, hq, h⟩ := nd_b2_e h
  have hPc : va_P (dC, dI) vwCl (dw_P a ac ()) H := nd_p0
  have hDc : va_D A (dw_P a ac ()) := nd_d0
  have hKc : va_K (dC, dI) vwCl (dk_P ac) s := nd_y0 hK
  have hFc : ∀ q, va_A (dw_P a ac ()) H.size q → A q := nd_r0 hS hA
  refine nd_cSi (As := [.int v0, .int 6, .int 1, .int 2]) (rest := [.int q9]) (q := q12) (w' := dw_P a ac s13) ⟨hx, hb, hml, hown, hts⟩ (fun sz => dm_X16_bit l hlt dC dI a ac n (v0) (6) (1) (2) () hq sz) (cwS 4 hts gi_dm_X16_zero_1 rfl rfl rfl (by decide +kernel) ⟨Nat.le_of_ble_eq_true rfl, Nat.le_of_ble_eq_true rfl⟩) hPc hDc hKc hS hA hN rfl hl.1 rfl (Nat.le_of_ble_eq_true rfl) dX16_zero_34 (fun H locs hP1 hD1 hk1 hS => ?_)
  have hP := nd_n0 hP hk1
  refine lv_ior hx hb dX16_zero_37 ?_
  refine lv_iload_n hx hb dX16_zero_38 rfl (lv_at hl 2 rfl) ?_
  refine lv_iconst (v := 5) hx hb dX16_zero_39 (by decide) ?_
  refine lv_iconst (v := 1) hx hb dX16_zero_40 (by decide) ?_
  refine lv_bipush (v := 6) hx hb dX16_zero_41 (by decide) ?_
  obtain ⟨q15, s16, hq, h⟩ := nd_b2_e h
  have hPc : va_P (dC, dI) vwCl (dw_P a ac ()) H := nd_p0
  have hDc : va_D A (dw_P a ac ()) := nd_d0
  have hKc : va_K (dC, dI) vwCl (dk_P ac) s := nd_y0 hK
  have hFc : ∀ q, va_A (dw_P a ac ()) H.size q → A q := nd_r0 hS hA
  refine nd_cSi (As := [.int v0, .int 5, .int 1, .int 6]) (rest := [.int (q9 ||| q12)]) (q := q15) (w' := dw_P a ac s16) ⟨hx, hb, hml, hown, hts⟩ (fun sz => dm_X16_bit l hlt dC dI a ac n (v0) (5) (1) (6) () hq sz) (cwS 4 hts gi_dm_X16_zero_1 rfl rfl rfl (by decide +kernel) ⟨Nat.le_of_ble_eq_true rfl, Nat.le_of_ble_eq_true rfl⟩) hPc hDc hKc hS hA hN rfl hl.1 rfl (Nat.le_of_ble_eq_true rfl) dX16_zero_43 (fun H locs hP1 hD1 hk1 hS => ?_)
  have hP := nd_n0 hP hk1
  refine lv_ior hx hb dX16_zero_46 ?_
  refine lv_topi (fun z18 ez18 => ?_)
  have h := nd_at h ez18
  refine lv_istore (lv' := [(4, .int z18), (3, .int z8), (2, .int z4), (0, .int v0), (1, .int v1)]) hx hb dX16_zero_47 hl (by decide) rfl (fun ls hl => ?_)
  refine lv_iload_n hx hb dX16_zero_49 rfl (lv_at hl 3 rfl) ?_
  refine lv_bipush (v := 11) hx hb dX16_zero_50 (by decide) ?_
  refine lv_iconst (v := 2) hx hb dX16_zero_52 (by decide) ?_
  refine lv_iconst (v := 4) hx hb dX16_zero_53 (by decide) ?_
  obtain ⟨q19, s20, hq, h⟩ := nd_b2_e h
  have hPc : va_P (dC, dI) vwCl (dw_P a ac ()) H := nd_p0
  have hDc : va_D A (dw_P a ac ()) := nd_d0
  have hKc : va_K (dC, dI) vwCl (dk_P ac) s := nd_y0 hK
  have hFc : ∀ q, va_A (dw_P a ac ()) H.size q → A q := nd_r0 hS hA
  refine nd_cSi (As := [.int v0, .int 11, .int 2, .int 4]) (rest := []) (q := q19) (w' := dw_P a ac s20) ⟨hx, hb, hml, hown, hts⟩ (fun sz => dm_X16_bit l hlt dC dI a ac n (v0) (11) (2) (4) () hq sz) (cwS 4 hts gi_dm_X16_zero_1 rfl rfl rfl (by decide +kernel) ⟨Nat.le_of_ble_eq_true rfl, Nat.le_of_ble_eq_true rfl⟩) hPc hDc hKc hS hA hN rfl hl.1 rfl (Nat.le_of_ble_eq_true rfl) dX16_zero_54 (fun H locs hP1 hD1 hk1 hS => ?_)
  have hP := nd_n0 hP hk1
  refine lv_iload_n hx hb dX16_zero_57 rfl (lv_at hl 3 rfl) ?_
  refine lv_bipush (v := 7) hx hb dX16_zero_58 (by decide) ?_
  refine lv_iconst (v := 4) hx hb dX16_zero_60 (by decide) ?_
  refine lv_bipush (v := 6) hx hb dX16_zero_61 (by decide) ?_
  obtain ⟨q22, s23, hq, h⟩ := nd_b2_e h
  have hPc : va_P (dC, dI) vwCl (dw_P a ac ()) H := nd_p0
  have hDc : va_D A (dw_P a ac ()) := nd_d0
  have hKc : va_K (dC, dI) vwCl (dk_P ac) s := nd_y0 hK
  have hFc : ∀ q, va_A (dw_P a ac ()) H.size q → A q := nd_r0 hS hA
  refine nd_cSi (As := [.int v0, .int 7, .int 4, .int 6]) (rest := [.int q19]) (q := q22) (w' := dw_P a ac s23) ⟨hx, hb, hml, hown, hts⟩ (fun sz => dm_X16_bit l hlt dC dI a ac n (v0) (7) (4) (6) () hq sz) (cwS 4 hts gi_dm_X16_zero_1 rfl rfl rfl (by decide +kernel) ⟨Nat.le_of_ble_eq_true rfl, Nat.le_of_ble_eq_true rfl⟩) hPc hDc hKc hS hA hN rfl hl.1 rfl (Nat.le_of_ble_eq_true rfl) dX16_zero_63 (fun H locs hP1 hD1 hk1 hS => ?_)
  have hP := nd_n0 hP hk1
  refine lv_ior hx hb dX16_zero_66 ?_
  refine lv_iload_n hx hb dX16_zero_67 rfl (lv_at hl 3 rfl) ?_
  refine lv_bipush (v := 6) hx hb dX16_zero_68 (by decide) ?_
  refine lv_iconst (v := 1) hx hb dX16_zero_70 (by decide) ?_
  refine lv_iconst (v := 2) hx hb dX16_zero_71 (by decide) ?_
  obtain ⟨q25, s26, hq, h⟩ := nd_b2_e h
  have hPc : va_P (dC, dI) vwCl (dw_P a ac ()) H := nd_p0
  have hDc : va_D A (dw_P a ac ()) := nd_d0
  have hKc : va_K (dC, dI) vwCl (dk_P ac) s := nd_y0 hK
  have hFc : ∀ q, va_A (dw_P a ac ()) H.size q → A q := nd_r0 hS hA
  refine nd_cSi (As := [.int v0, .int 6, .int 1, .int 2]) (rest := [.int (q19 ||| q22)]) (q := q25) (w' := dw_P a ac s26) ⟨hx, hb, hml, hown, hts⟩ (fun sz => dm_X16_bit l hlt dC dI a ac n (v0) (6) (1) (2) () hq sz) (cwS 4 hts gi_dm_X16_zero_1 rfl rfl rfl (by decide +kernel) ⟨Nat.le_of_ble_eq_true rfl, Nat.le_of_ble_eq_true rfl⟩) hPc hDc hKc hS hA hN rfl hl.1 rfl (Nat.le_of_ble_eq_true rfl) dX16_zero_72 (fun H locs hP1 hD1 hk1 hS => ?_)
  have hP := nd_n0 hP hk1
  refine lv_ior hx hb dX16_zero_75 ?_
  refine lv_iload_n hx hb dX16_zero_76 rfl (lv_at hl 3 rfl) ?_
  refine lv_iconst (v := 5) hx hb dX16_zero_77 (by decide) ?_
  refine lv_iconst (v := 1) hx hb dX16_zero_78 (by decide) ?_
  refine lv_iconst (v := 3) hx hb dX16_zero_79 (by decide) ?_
  obtain ⟨q28, s29, hq, h⟩ := nd_b2_e h
  have hPc : va_P (dC, dI) vwCl (dw_P a ac ()) H := nd_p0
  have hDc : va_D A (dw_P a ac ()) := nd_d0
  have hKc : va_K (dC, dI) vwCl (dk_P ac) s := nd_y0 hK
  have hFc : ∀ q, va_A (dw_P a ac ()) H.size q → A q := nd_r0 hS hA
  refine nd_cSi (As := [.int v0, .int 5, .int 1, .int 3]) (rest := [.int ((q19 ||| q22) ||| q25)]) (q := q28) (w' := dw_P a ac s29) ⟨hx, hb, hml, hown, hts⟩ (fun sz => dm_X16_bit l hlt dC dI a ac n (v0) (5) (1) (3) () hq sz) (cwS 4 hts gi_dm_X16_zero_1 rfl rfl rfl (by decide +kernel) ⟨Nat.le_of_ble_eq_true rfl, Nat.le_of_ble_eq_true rfl⟩) hPc hDc hKc hS hA hN rfl hl.1 rfl (Nat.le_of_ble_eq_true rfl) dX16_zero_80 (fun H locs hP1 hD1 hk1 hS => ?_)
  have hP := nd_n0 hP hk1
  refine lv_ior hx hb dX16_zero_83 ?_
  refine lv_topi (fun z31 ez31 => ?_)
  have h := nd_at h ez31
  refine lv_istore (lv' := [(5, .int z31), (4, .int z18), (3, .int z8), (2, .int z4), (0, .int v0), (1, .int v1)]) hx hb dX16_zero_84 hl (by decide) rfl (fun ls hl => ?_)
  refine lv_iload_n hx hb dX16_zero_86 rfl (lv_at hl 5 rfl) ?_
  refine lv_if_ne (tgt := 110) hx hb dX16_zero_87 (by decide) (fun c32 => ?_) (fun c32 => ?_)
  · have h := nd_neg h c32
    refine lv_iload_n hx hb dX16_zero_110 rfl (lv_at hl 5 rfl) ?_
    refine lv_iconst (v := 2) hx hb dX16_zero_111 (by decide) ?_
    refine lv_icmp_ne (tgt := 127) hx hb dX16_zero_112 (by decide) (fun c33 => ?_) (fun c33 => ?_)
    · have h := nd_neg h c33
      refine lv_iload_n hx hb dX16_zero_127 rfl (lv_at hl 5 rfl) ?_
      refine lv_bipush (v := 6) hx hb dX16_zero_128 (by decide) ?_
      refine lv_icmp_ne (tgt := 143) hx hb dX16_zero_130 (by decide) (fun c34 => ?_) (fun c34 => ?_)
      · have h := nd_neg h c34
        refine lv_iconst (v := 0) hx hb dX16_zero_143 (by decide) ?_
        exact (db_X16_zero_144 C K) (0) s0 _ _ _ h hP hD hS (lv_sub hl [] rfl)
      · have h := nd_pos h c34
        refine lv_iload_n hx hb dX16_zero_133 rfl (lv_at hl 2 rfl) ?_
        refine lv_iload_n hx hb dX16_zero_134 rfl (lv_at hl 3 rfl) ?_
        refine lv_iload hx hb dX16_zero_135 (lv_at hl 1 rfl) ?_
        obtain ⟨q35, s36, hq, h⟩ := nd_b2_e h
        have hPc : va_P (dC, dI) vwCl (dw_P a ac ()) H := nd_p0
        have hDc : va_D A (dw_P a ac ()) := nd_d0
        have hKc : va_K (dC, dI) vwCl (dk_P ac) s := nd_y0 hK
        have hFc : ∀ q, va_A (dw_P a ac ()) H.size q → A q := nd_r0 hS hA
        refine nd_cSi (As := [.int z8, .int z4, .int z18]) (rest := []) (q := q35) (w' := dw_P a ac s36) ⟨hx, hb, hml, hown, hts⟩ (fun sz => dm_X16_storing l hlt dC dI a ac n (z8) (z4) (z18) () hq sz) (cwS 3 hts gi_dm_X16_zero_2 rfl rfl rfl (by decide +kernel) ⟨Nat.le_of_ble_eq_true rfl, Nat.le_of_ble_eq_true rfl⟩) hPc hDc hKc hS hA hN rfl hl.1 rfl (Nat.le_of_ble_eq_true rfl) dX16_zero_137 (fun H locs hP1 hD1 hk1 hS => ?_)
        have hP := nd_n0 hP hk1
        refine lv_goto (tgt := 144) hx hb dX16_zero_140 (by decide) ?_
        exact (db_X16_zero_144 C K) (q35) s0 _ _ _ h hP hD hS (lv_sub hl [] rfl)
    · have h := nd_pos h c33
      refine lv_iconst (v := 3) hx hb dX16_zero_115 (by decide) ?_
      refine lv_iconst (v := 2) hx hb dX16_zero_116 (by decide) ?_
      refine lv_iload_n hx hb dX16_zero_117 rfl (lv_at hl 3 rfl) ?_
      refine lv_iload_n hx hb dX16_zero_118 rfl (lv_at hl 2 rfl) ?_
      refine lv_iload hx hb dX16_zero_119 (lv_at hl 1 rfl) ?_
      obtain ⟨q38, s39, hq, h⟩ := nd_b2_e h
      have hPc : va_P (dC, dI) vwCl (dw_P a ac ()) H := nd_p0
      have hDc : va_D A (dw_P a ac ()) := nd_d0
      have hKc : va_K (dC, dI) vwCl (dk_P ac) s := nd_y0 hK
      have hFc : ∀ q, va_A (dw_P a ac ()) H.size q → A q := nd_r0 hS hA
      refine nd_cSi (As := [.int 3, .int 2, .int z4, .int z8, .int z18]) (rest := []) (q := q38) (w' := dw_P a ac s39) ⟨hx, hb, hml, hown, hts⟩ (fun sz => dm_X16_immediate l hlt dC dI a ac n (3) (2) (z4) (z8) (z18) () hq sz) (cwS 5 hts gi_dm_X16_zero_3 rfl rfl rfl (by decide +kernel) ⟨Nat.le_of_ble_eq_true rfl, Nat.le_of_ble_eq_true rfl⟩) hPc hDc hKc hS hA hN rfl hl.1 rfl (Nat.le_of_ble_eq_true rfl) dX16_zero_121 (fun H locs hP1 hD1 hk1 hS => ?_)
      have hP := nd_n0 hP hk1
      refine lv_goto (tgt := 144) hx hb dX16_zero_124 (by decide) ?_
      exact (db_X16_zero_144 C K) (q38) s0 _ _ _ h hP hD hS (lv_sub hl [] rfl)
  · have h := nd_pos h c32
    refine lv_iload hx hb dX16_zero_90 (lv_at hl 0 rfl) ?_
    refine lv_if_ne (tgt := 99) hx hb dX16_zero_92 (by decide) (fun c41 => ?_) (fun c41 => ?_)
    · have h := nd_neg h c41
      refine lv_bipush (v := 19) hx hb dX16_zero_99 (by decide) ?_
      refine lv_iconst (v := 0) hx hb dX16_zero_101 (by decide) ?_
      refine lv_iload_n hx hb dX16_zero_102 rfl (lv_at hl 3 rfl) ?_
      refine lv_iconst (v := 2) hx hb dX16_zero_103 (by decide) ?_
      refine lv_iload hx hb dX16_zero_104 (lv_at hl 0 rfl) ?_
      obtain ⟨q42, s43, hq, h⟩ := nd_b2_e h
      have hPc : va_P (dC, dI) vwCl (dw_P a ac ()) H := nd_p0
      have hDc : va_D A (dw_P a ac ()) := nd_d0
      have hKc : va_K (dC, dI) vwCl (dk_P ac) s := nd_y0 hK
      have hFc : ∀ q, va_A (dw_P a ac ()) H.size q → A q := nd_r0 hS hA
      refine nd_cSi (As := [.int 19, .int 0, .int z4, .int 2, .int z31]) (rest := []) (q := q42) (w' := dw_P a ac s43) ⟨hx, hb, hml, hown, hts⟩ (fun sz => dm_X16_immediate l hlt dC dI a ac n (19) (0) (z4) (2) (z31) () hq sz) (cwS 5 hts gi_dm_X16_zero_3 rfl rfl rfl (by decide +kernel) ⟨Nat.le_of_ble_eq_true rfl, Nat.le_of_ble_eq_true rfl⟩) hPc hDc hKc hS hA hN rfl hl.1 rfl (Nat.le_of_ble_eq_true rfl) dX16_zero_106 (fun H locs hP1 hD1 hk1 hS => ?_)
      have hP := nd_n0 hP hk1
      exact (db_X16_zero_109 C K) (q42) s0 _ _ _ h hP hD hS (lv_sub hl [] rfl)
    · have h := nd_pos h c41
      refine lv_iconst (v := 0) hx hb dX16_zero_95 (by decide) ?_
      refine lv_goto (tgt := 109) hx hb dX16_zero_96 (by decide) ?_
      exact (db_X16_zero_109 C K) (0) s0 _ _ _ h hP hD hS (lv_sub hl [] rfl)
set_option maxHeartbeats 40000000 in
set_option maxRecDepth 100000 in
theorem dm_X16_zero (l : Launch) (hlt : l.stackTraces = false) (dC : Nat → ClassId) (dI : Nat → Nat → Nat) (a : Nat → Nat) (ac : Nat → ClassId) (n : Nat) (v0 : Int32) (v1 : Int32) (s0 : Unit) {r : Int32 × (Unit)} (h : df_X16_zero n v0 v1 s0 = some r) (sz : Nat) : Met l yX16_zero ow_dm_X16_zero ({ frames := 3, cells := 0, slots := 0, locals := 67 }) (va_Pc [.int v0, .int v1] (fun U => U.heap.size = sz ∧ va_P (dC, dI) vwCl (dw_P a ac s0) U.heap ∧ va_K (dC, dI) vwCl (dk_P ac) U ∧ va_D (fun _ => True) (dw_P a ac s0) ∧ nv_E dI (va_A (dw_P a ac s0) sz) U)) (va_Qi (fun x _ => x = r.1) (fun (_ : Unit) t => va_P (dC, dI) vwCl (dw_P a ac r.2) t.heap ∧ va_K (dC, dI) vwCl (dk_P ac) t ∧ va_D (va_A (dw_P a ac s0) sz) (dw_P a ac r.2)) (va_A (dw_P a ac s0) sz)) 0 0 (va_A (dw_P a ac s0) sz) := by
  refine Met.ofW (cc := cX16_zero) (maxL := 6) (ret := (some .int)) (by decide) rfl ?_
  intro p e s m args below meth c s₁ B hml hv
  obtain ⟨rfl, hsz, hP, hK, hD0, hN⟩ := hv
  have hx := B.exec
  have hb := B.bytes
  have hr := B.returns
  have hts := atoms_spec (ws := ow_dm_X16_zero) B.pre
  have hown : s.vm.findClass RX16 = some m.cls := findClass_of_methodNamed B.named
  have hlocks := B.notSynchronized
  subst hsz
  have hD := hD0.self (sz := s.heap.size)
  generalize hAe : va_A (dw_P a ac s0) s.heap.size = A at hD hN ⊢
  have hA : ∀ q : Nat, s.heap.size ≤ q → A q := fun q h => by rw [← hAe]; exact Or.inr h
  have hl := lv_entry ([.int v0, .int v1]) (n := 6) (Nat.le_of_ble_eq_true rfl)
  rw [lg_entry_eq]
  generalize (lg_sl ([.int v0, .int v1]) ++ List.replicate (6 - (lg_sl ([.int v0, .int v1])).length) Slot.unset).toArray = ls at hl ⊢
  have hl : lv_has ls 6 [(0, .int v0), (1, .int v1)] := hl
  exact db_X16_zero_0 (dC := dC) (dI := dI) (a := a) (ac := ac) (n := n) (r := r) ⟨hlt, hx, hb, hml, hown, hts, hN, hA, hK⟩ (fun pc v τ H locs ls d z er hP hD hS => by subst er; exact W.zret (v := v) hx hb hr z (fun t ht hW => ⟨⟨v, (), rfl, rfl, by rw [ht]; exact hP, va_K.moved hW.alike hK, hD⟩, hS.F ht⟩) hS.2.2 d) v0 v1 s0 _ _ _ h hP hD va_S.rf (lv_sub hl [0, 1] rfl)
def ow_dm_X16_expand : List Cond := Cond.code yX16_expand cX16_expand 3 (some .int) :: ([Cond.methodLink RX16 297 yX16_part, Cond.static yX16_part, Cond.initialized RX16, Cond.methodLink RX16 310 yX16_two, Cond.static yX16_two, Cond.methodLink RX16 307 yX16_one, Cond.static yX16_one, Cond.methodLink RX16 304 yX16_zero, Cond.static yX16_zero] ++ (ow_dm_X16_part ++ (ow_dm_X16_two ++ (ow_dm_X16_one ++ (ow_dm_X16_zero ++ [])))))
theorem gd_dm_X16_expand : ∀ w ∈ ow_dm_X16_expand, (w.onTables && w.keeps) = true ∨ ∃ ty, w = Cond.arrayClass ty := List.forall_mem_cons.mpr ⟨good_of_word rfl, List.forall_mem_append.mpr ⟨fun w h => good_of_word (List.all_eq_true.mp (by decide +kernel) w h), List.forall_mem_append.mpr ⟨gd_dm_X16_part, List.forall_mem_append.mpr ⟨gd_dm_X16_two, List.forall_mem_append.mpr ⟨gd_dm_X16_one, List.forall_mem_append.mpr ⟨gd_dm_X16_zero, fun _ h => nomatch h⟩⟩⟩⟩⟩⟩
theorem gi_dm_X16_expand_0 : GoodIn ow_dm_X16_expand (wsS RX16 297 yX16_part ow_dm_X16_part) := goodIn_app (goodIn_of _ (by decide +kernel)) (fun w h => ⟨List.mem_cons_of_mem _ (List.mem_append_right _ (List.mem_append_left _ h)), gd_dm_X16_part w h⟩)
theorem gi_dm_X16_expand_1 : GoodIn ow_dm_X16_expand (wsS RX16 310 yX16_two ow_dm_X16_two) := goodIn_app (goodIn_of _ (by decide +kernel)) (fun w h => ⟨List.mem_cons_of_mem _ (List.mem_append_right _ (List.mem_append_right _ (List.mem_append_left _ h))), gd_dm_X16_two w h⟩)
theorem gi_dm_X16_expand_2 : GoodIn ow_dm_X16_expand (wsS RX16 307 yX16_one ow_dm_X16_one) := goodIn_app (goodIn_of _ (by decide +kernel)) (fun w h => ⟨List.mem_cons_of_mem _ (List.mem_append_right _ (List.mem_append_right _ (List.mem_append_right _ (List.mem_append_left _ h)))), gd_dm_X16_one w h⟩)
theorem gi_dm_X16_expand_3 : GoodIn ow_dm_X16_expand (wsS RX16 304 yX16_zero ow_dm_X16_zero) := goodIn_app (goodIn_of _ (by decide +kernel)) (fun w h => ⟨List.mem_cons_of_mem _ (List.mem_append_right _ (List.mem_append_right _ (List.mem_append_right _ (List.mem_append_right _ (List.mem_append_left _ h))))), gd_dm_X16_zero w h⟩)
def dj_X16_expand_45 (p : Program) (l : Launch) (e : Env) (s : State) (m : MethodId) (args : Array Value) (below : List Frame) (meth : Method) (c : Code) (Q : State → Prop) (A : Nat → Prop) (dC : Nat → ClassId) (dI : Nat → Nat → Nat) (a : Nat → Nat) (ac : Nat → ClassId) (g : Int32 → (Unit) → Option (Int32 × (Unit))) (r : Int32 × (Unit)) : Prop := ∀ (y0 : Int32) (s0 : Unit) (H : Heap) (locs : List Loc) (ls : Array Slot), g y0 s0 = some r → va_P (dC, dI) vwCl (dw_P a ac s0) H → va_D A (dw_P a ac s0) → va_S A s.heap H locs → lv_has ls 3 [] → W p l e (headSpec ow_dm_X16_expand ({ frames := 4, cells := 0, slots := 0, locals := 93 })).room s m args below meth c H locs 0 0 Q (F0 m 45 ls [.int y0])
def dj_X16_expand_0 (p : Program) (l : Launch) (e : Env) (s : State) (m : MethodId) (args : Array Value) (below : List Frame) (meth : Method) (c : Code) (Q : State → Prop) (A : Nat → Prop) (dC : Nat → ClassId) (dI : Nat → Nat → Nat) (a : Nat → Nat) (ac : Nat → ClassId) (g : Int32 → (Unit) → Option (Int32 × (Unit))) (r : Int32 × (Unit)) : Prop := ∀ (v0 : Int32) (s0 : Unit) (H : Heap) (locs : List Loc) (ls : Array Slot), g v0 s0 = some r → va_P (dC, dI) vwCl (dw_P a ac s0) H → va_D A (dw_P a ac s0) → va_S A s.heap H locs → lv_has ls 3 [(0, .int v0)] → W p l e (headSpec ow_dm_X16_expand ({ frames := 4, cells := 0, slots := 0, locals := 93 })).room s m args below meth c H locs 0 0 Q (F0 m 0 ls [])
set_option maxHeartbeats 40000000 in
set_option maxRecDepth 100000 in
theorem db_X16_expand_45 {p : Program} {l : Launch} {e : Env} {s : State} {m : MethodId} {args : Array Value} {below : List Frame} {meth : Method} {c : Code} {Q : State → Prop} {A : Nat → Prop} {dC : Nat → ClassId} {dI : Nat → Nat → Nat} {a : Nat → Nat} {ac : Nat → ClassId} {n : Nat} {r : Int32 × (Unit)} (C : nd_C p l s m args c A (dC, dI) cX16_expand 3 RX16 ow_dm_X16_expand (dk_P ac)) (K : nd_Ki p l e (headSpec ow_dm_X16_expand ({ frames := 4, cells := 0, slots := 0, locals := 93 })).room s m args below meth c Q A (dC, dI) cX16_expand .int (Unit) (dw_P a ac) r) : dj_X16_expand_45 p l e s m args below meth c Q A dC dI a ac (df_X16_expand_45 n) r := by
  obtain ⟨hlt, hx, hb, hml, hown, hts, hN, hA, hK⟩ := id C
  intro y0 s0 H locs ls h hP hD hS hl
  unfold df_X16_expand_45 at h
  exact K _ _ _ _ _ _ dX16_expand_45 rfl (Option.some.inj h).symm hP hD hS
set_option maxHeartbeats 40000000 in
set_option maxRecDepth 100000 in
theorem db_X16_expand_0 {p : Program} {l : Launch} {e : Env} {s : State} {m : MethodId} {args : Array Value} {below : List Frame} {meth : Method} {c : Code} {Q : State → Prop} {A : Nat → Prop} {dC : Nat → ClassId} {dI : Nat → Nat → Nat} {a : Nat → Nat} {ac : Nat → ClassId} {n : Nat} {r : Int32 × (Unit)} (C : nd_C p l s m args c A (dC, dI) cX16_expand 3 RX16 ow_dm_X16_expand (dk_P ac)) (K : nd_Ki p l e (headSpec ow_dm_X16_expand ({ frames := 4, cells := 0, slots := 0, locals := 93 })).room s m args below meth c Q A (dC, dI) cX16_expand .int (Unit) (dw_P a ac) r) : dj_X16_expand_0 p l e s m args below meth c Q A dC dI a ac (df_X16_expand_0 n) r := by
  obtain ⟨hlt, hx, hb, hml, hown, hts, hN, hA, hK⟩ := id C
  intro v0 s0 H locs ls h hP hD hS hl
  unfold df_X16_expand_0 at h
  refine lv_iload_n hx hb dX16_expand_0 rfl (lv_at hl 0 rfl) ?_
  refine lv_iconst (v := 0) hx hb dX16_expand_1 (by decide) ?_
  refine lv_iconst (v := 2) hx hb dX16_expand_2 (by decide) ?_
  obtain ⟨q1, s2, hq, h⟩ := nd_b2_e h
  have hPc : va_P (dC, dI) vwCl (dw_P a ac ()) H := nd_p0
  have hDc : va_D A (dw_P a ac ()) := nd_d0
  have hKc : va_K (dC, dI) vwCl (dk_P ac) s := nd_y0 hK
  have hFc : ∀ q, va_A (dw_P a ac ()) H.size q → A q := nd_r0 hS hA
  refine nd_cSi (As := [.int v0, .int 0, .int 2]) (rest := []) (q := q1) (w' := dw_P a ac s2) ⟨hx, hb, hml, hown, hts⟩ (fun sz => dm_X16_part l hlt dC dI a ac n (v0) (0) (2) () hq sz) (cwS 3 hts gi_dm_X16_expand_0 rfl rfl rfl (by decide +kernel) ⟨Nat.le_of_ble_eq_true rfl, Nat.le_of_ble_eq_true rfl⟩) hPc hDc hKc hS hA hN rfl hl.1 rfl (Nat.le_of_ble_eq_true rfl) dX16_expand_3 (fun H locs hP1 hD1 hk1 hS => ?_)
  have hP := nd_n0 hP hk1
  refine lv_istore_n (lv' := [(1, .int q1), (0, .int v0)]) hx hb dX16_expand_6 rfl hl (by decide) rfl (fun ls hl => ?_)
  refine lv_iload_n hx hb dX16_expand_7 rfl (lv_at hl 1 rfl) ?_
  refine lv_bipush (v := 13) hx hb dX16_expand_8 (by decide) ?_
  refine lv_iconst (v := 3) hx hb dX16_expand_10 (by decide) ?_
  obtain ⟨q4, s5, hq, h⟩ := nd_b2_e h
  have hPc : va_P (dC, dI) vwCl (dw_P a ac ()) H := nd_p0
  have hDc : va_D A (dw_P a ac ()) := nd_d0
  have hKc : va_K (dC, dI) vwCl (dk_P ac) s := nd_y0 hK
  have hFc : ∀ q, va_A (dw_P a ac ()) H.size q → A q := nd_r0 hS hA
  refine nd_cSi (As := [.int v0, .int 13, .int 3]) (rest := []) (q := q4) (w' := dw_P a ac s5) ⟨hx, hb, hml, hown, hts⟩ (fun sz => dm_X16_part l hlt dC dI a ac n (v0) (13) (3) () hq sz) (cwS 3 hts gi_dm_X16_expand_0 rfl rfl rfl (by decide +kernel) ⟨Nat.le_of_ble_eq_true rfl, Nat.le_of_ble_eq_true rfl⟩) hPc hDc hKc hS hA hN rfl hl.1 rfl (Nat.le_of_ble_eq_true rfl) dX16_expand_11 (fun H locs hP1 hD1 hk1 hS => ?_)
  have hP := nd_n0 hP hk1
  refine lv_istore_n (lv' := [(2, .int q4), (1, .int q1), (0, .int v0)]) hx hb dX16_expand_14 rfl hl (by decide) rfl (fun ls hl => ?_)
  refine lv_iload_n hx hb dX16_expand_15 rfl (lv_at hl 1 rfl) ?_
  refine lv_if_ne (tgt := 27) hx hb dX16_expand_16 (by decide) (fun c7 => ?_) (fun c7 => ?_)
  · have h := nd_neg h c7
    refine lv_iload_n hx hb dX16_expand_27 rfl (lv_at hl 1 rfl) ?_
    refine lv_iconst (v := 1) hx hb dX16_expand_28 (by decide) ?_
    refine lv_icmp_ne (tgt := 40) hx hb dX16_expand_29 (by decide) (fun c8 => ?_) (fun c8 => ?_)
    · have h := nd_neg h c8
      refine lv_iload_n hx hb dX16_expand_40 rfl (lv_at hl 2 rfl) ?_
      refine lv_iload_n hx hb dX16_expand_41 rfl (lv_at hl 0 rfl) ?_
      obtain ⟨q9, s10, hq, h⟩ := nd_b2_e h
      have hPc : va_P (dC, dI) vwCl (dw_P a ac ()) H := nd_p0
      have hDc : va_D A (dw_P a ac ()) := nd_d0
      have hKc : va_K (dC, dI) vwCl (dk_P ac) s := nd_y0 hK
      have hFc : ∀ q, va_A (dw_P a ac ()) H.size q → A q := nd_r0 hS hA
      refine nd_cSi (As := [.int v0, .int q4]) (rest := []) (q := q9) (w' := dw_P a ac s10) ⟨hx, hb, hml, hown, hts⟩ (fun sz => dm_X16_two l hlt dC dI a ac n (v0) (q4) () hq sz) (cwS 2 hts gi_dm_X16_expand_1 rfl rfl rfl (by decide +kernel) ⟨Nat.le_of_ble_eq_true rfl, Nat.le_of_ble_eq_true rfl⟩) hPc hDc hKc hS hA hN rfl hl.1 rfl (Nat.le_of_ble_eq_true rfl) dX16_expand_42 (fun H locs hP1 hD1 hk1 hS => ?_)
      have hP := nd_n0 hP hk1
      exact (db_X16_expand_45 C K) (q9) s0 _ _ _ h hP hD hS (lv_sub hl [] rfl)
    · have h := nd_pos h c8
      refine lv_iload_n hx hb dX16_expand_32 rfl (lv_at hl 2 rfl) ?_
      refine lv_iload_n hx hb dX16_expand_33 rfl (lv_at hl 0 rfl) ?_
      obtain ⟨q12, s13, hq, h⟩ := nd_b2_e h
      have hPc : va_P (dC, dI) vwCl (dw_P a ac ()) H := nd_p0
      have hDc : va_D A (dw_P a ac ()) := nd_d0
      have hKc : va_K (dC, dI) vwCl (dk_P ac) s := nd_y0 hK
      have hFc : ∀ q, va_A (dw_P a ac ()) H.size q → A q := nd_r0 hS hA
      refine nd_cSi (As := [.int v0, .int q4]) (rest := []) (q := q12) (w' := dw_P a ac s13) ⟨hx, hb, hml, hown, hts⟩ (fun sz => dm_X16_one l hlt dC dI a ac n (v0) (q4) () hq sz) (cwS 2 hts gi_dm_X16_expand_2 rfl rfl rfl (by decide +kernel) ⟨Nat.le_of_ble_eq_true rfl, Nat.le_of_ble_eq_true rfl⟩) hPc hDc hKc hS hA hN rfl hl.1 rfl (Nat.le_of_ble_eq_true rfl) dX16_expand_34 (fun H locs hP1 hD1 hk1 hS => ?_)
      have hP := nd_n0 hP hk1
      refine lv_goto (tgt := 45) hx hb dX16_expand_37 (by decide) ?_
      exact (db_X16_expand_45 C K) (q12) s0 _ _ _ h hP hD hS (lv_sub hl [] rfl)
  · have h := nd_pos h c7
    refine lv_iload_n hx hb dX16_expand_19 rfl (lv_at hl 2 rfl) ?_
    refine lv_iload_n hx hb dX16_expand_20 rfl (lv_at hl 0 rfl) ?_
    obtain ⟨q15, s16, hq, h⟩ := nd_b2_e h
    have hPc : va_P (dC, dI) vwCl (dw_P a ac ()) H := nd_p0
    have hDc : va_D A (dw_P a ac ()) := nd_d0
    have hKc : va_K (dC, dI) vwCl (dk_P ac) s := nd_y0 hK
    have hFc : ∀ q, va_A (dw_P a ac ()) H.size q → A q := nd_r0 hS hA
    refine nd_cSi (As := [.int v0, .int q4]) (rest := []) (q := q15) (w' := dw_P a ac s16) ⟨hx, hb, hml, hown, hts⟩ (fun sz => dm_X16_zero l hlt dC dI a ac n (v0) (q4) () hq sz) (cwS 2 hts gi_dm_X16_expand_3 rfl rfl rfl (by decide +kernel) ⟨Nat.le_of_ble_eq_true rfl, Nat.le_of_ble_eq_true rfl⟩) hPc hDc hKc hS hA hN rfl hl.1 rfl (Nat.le_of_ble_eq_true rfl) dX16_expand_21 (fun H locs hP1 hD1 hk1 hS => ?_)
    have hP := nd_n0 hP hk1
    refine lv_goto (tgt := 45) hx hb dX16_expand_24 (by decide) ?_
    exact (db_X16_expand_45 C K) (q15) s0 _ _ _ h hP hD hS (lv_sub hl [] rfl)
set_option maxHeartbeats 40000000 in
set_option maxRecDepth 100000 in
theorem dm_X16_expand (l : Launch) (hlt : l.stackTraces = false) (dC : Nat → ClassId) (dI : Nat → Nat → Nat) (a : Nat → Nat) (ac : Nat → ClassId) (n : Nat) (v0 : Int32) (s0 : Unit) {r : Int32 × (Unit)} (h : df_X16_expand n v0 s0 = some r) (sz : Nat) : Met l yX16_expand ow_dm_X16_expand ({ frames := 4, cells := 0, slots := 0, locals := 93 }) (va_Pc [.int v0] (fun U => U.heap.size = sz ∧ va_P (dC, dI) vwCl (dw_P a ac s0) U.heap ∧ va_K (dC, dI) vwCl (dk_P ac) U ∧ va_D (fun _ => True) (dw_P a ac s0) ∧ nv_E dI (va_A (dw_P a ac s0) sz) U)) (va_Qi (fun x _ => x = r.1) (fun (_ : Unit) t => va_P (dC, dI) vwCl (dw_P a ac r.2) t.heap ∧ va_K (dC, dI) vwCl (dk_P ac) t ∧ va_D (va_A (dw_P a ac s0) sz) (dw_P a ac r.2)) (va_A (dw_P a ac s0) sz)) 0 0 (va_A (dw_P a ac s0) sz) := by
  refine Met.ofW (cc := cX16_expand) (maxL := 3) (ret := (some .int)) (by decide) rfl ?_
  intro p e s m args below meth c s₁ B hml hv
  obtain ⟨rfl, hsz, hP, hK, hD0, hN⟩ := hv
  have hx := B.exec
  have hb := B.bytes
  have hr := B.returns
  have hts := atoms_spec (ws := ow_dm_X16_expand) B.pre
  have hown : s.vm.findClass RX16 = some m.cls := findClass_of_methodNamed B.named
  have hlocks := B.notSynchronized
  subst hsz
  have hD := hD0.self (sz := s.heap.size)
  generalize hAe : va_A (dw_P a ac s0) s.heap.size = A at hD hN ⊢
  have hA : ∀ q : Nat, s.heap.size ≤ q → A q := fun q h => by rw [← hAe]; exact Or.inr h
  have hl := lv_entry ([.int v0]) (n := 3) (Nat.le_of_ble_eq_true rfl)
  rw [lg_entry_eq]
  generalize (lg_sl ([.int v0]) ++ List.replicate (3 - (lg_sl ([.int v0])).length) Slot.unset).toArray = ls at hl ⊢
  have hl : lv_has ls 3 [(0, .int v0)] := hl
  exact db_X16_expand_0 (dC := dC) (dI := dI) (a := a) (ac := ac) (n := n) (r := r) ⟨hlt, hx, hb, hml, hown, hts, hN, hA, hK⟩ (fun pc v τ H locs ls d z er hP hD hS => by subst er; exact W.zret (v := v) hx hb hr z (fun t ht hW => ⟨⟨v, (), rfl, rfl, by rw [ht]; exact hP, va_K.moved hW.alike hK, hD⟩, hS.F ht⟩) hS.2.2 d) v0 s0 _ _ _ h hP hD va_S.rf (lv_sub hl [0] rfl)
def ow_dm_X16_meet : List Cond := Cond.code yX16_meet cX16_meet 2 (some .int) :: ([Cond.fieldLink RX16 336 "TimeMachineModel$Machine" "met" "I"] ++ (u_ws RX16 TX16 56 ++ []))
theorem gd_dm_X16_meet : ∀ w ∈ ow_dm_X16_meet, (w.onTables && w.keeps) = true ∨ ∃ ty, w = Cond.arrayClass ty := List.forall_mem_cons.mpr ⟨good_of_word rfl, List.forall_mem_append.mpr ⟨fun w h => good_of_word (List.all_eq_true.mp (by decide +kernel) w h), List.forall_mem_append.mpr ⟨gu_X16, fun _ h => nomatch h⟩⟩⟩
theorem hi_dm_X16_meet_X16 : ∀ w ∈ u_ws RX16 TX16 56, w ∈ ow_dm_X16_meet := fun w h => List.mem_cons_of_mem _ (List.mem_append_right _ (List.mem_append_left _ h))
def dj_X16_meet_0 (p : Program) (l : Launch) (e : Env) (s : State) (m : MethodId) (args : Array Value) (below : List Frame) (meth : Method) (c : Code) (Q : State → Prop) (A : Nat → Prop) (dC : Nat → ClassId) (dI : Nat → Nat → Nat) (a : Nat → Nat) (ac : Nat → ClassId) (g : Int32 → (St × (St)) → Option (Int32 × (St × (St)))) (r : Int32 × (St × (St))) : Prop := ∀ (v0 : Int32) (s0 : St × (St)) (H : Heap) (locs : List Loc) (ls : Array Slot), g v0 s0 = some r → va_P (dC, dI) vwCl (dw_X16 a ac s0) H → va_D A (dw_X16 a ac s0) → va_S A s.heap H locs → lv_has ls 2 [(0, .ref (a 0)), (1, .int v0)] → W p l e (headSpec ow_dm_X16_meet ({ frames := 0, cells := 0, slots := 0, locals := 0 })).room s m args below meth c H locs 0 0 Q (F0 m 0 ls [])
set_option maxHeartbeats 40000000 in
set_option maxRecDepth 100000 in
theorem db_X16_meet_0 {p : Program} {l : Launch} {e : Env} {s : State} {m : MethodId} {args : Array Value} {below : List Frame} {meth : Method} {c : Code} {Q : State → Prop} {A : Nat → Prop} {dC : Nat → ClassId} {dI : Nat → Nat → Nat} {a : Nat → Nat} {ac : Nat → ClassId} {n : Nat} {r : Int32 × (St × (St))} (C : nd_C p l s m args c A (dC, dI) cX16_meet 2 RX16 ow_dm_X16_meet (dk_X16 ac)) (K : nd_Ki p l e (headSpec ow_dm_X16_meet ({ frames := 0, cells := 0, slots := 0, locals := 0 })).room s m args below meth c Q A (dC, dI) cX16_meet .int (St × (St)) (dw_X16 a ac) r) : dj_X16_meet_0 p l e s m args below meth c Q A dC dI a ac (df_X16_meet_0 n) r := by
  obtain ⟨hlt, hx, hb, hml, hown, hts, hN, hA, hK⟩ := id C
  intro v0 s0 H locs ls h hP hD hS hl
  unfold df_X16_meet_0 at h
  refine lv_aload_n hx hb dX16_meet_0 rfl (lv_at hl 0 rfl) ?_
  refine lv_iload_n hx hb dX16_meet_1 rfl (lv_at hl 1 rfl) ?_
  refine va_put (D := (dC, dI)) (ci := 17) (v := .int v0) (ty := .int) (C := RX16) (T := TX16) (N := 56) hx hb hts hi_dm_X16_meet_X16 tyX16 tyX16_ok nmX16 hown hK hP hD hS 0 rfl rfl 50 (by decide) (hts (.fieldLink RX16 336 "TimeMachineModel$Machine" "met" "I") (List.mem_of_getElem? (i := 1) rfl)) (fun _ h9 => h9) rfl (by decide +kernel) rfl rfl (Nat.le_of_ble_eq_true rfl) dX16_meet_2 (fun H locs hP hD hS => ?_)
  obtain ⟨s1, es1, h⟩ := nd_let_e h
  have hP : va_P (dC, dI) vwCl (dw_X16 a ac s1) H := by rw [es1]; exact hP
  have hD : va_D A (dw_X16 a ac s1) := by rw [es1]; exact hD
  refine lv_iconst (v := 0) hx hb dX16_meet_5 (by decide) ?_
  exact K _ _ _ _ _ _ dX16_meet_6 rfl (Option.some.inj h).symm hP hD hS
set_option maxHeartbeats 40000000 in
set_option maxRecDepth 100000 in
theorem dm_X16_meet (l : Launch) (hlt : l.stackTraces = false) (dC : Nat → ClassId) (dI : Nat → Nat → Nat) (a : Nat → Nat) (ac : Nat → ClassId) (n : Nat) (v0 : Int32) (s0 : St × (St)) {r : Int32 × (St × (St))} (h : df_X16_meet n v0 s0 = some r) (sz : Nat) : Met l yX16_meet ow_dm_X16_meet ({ frames := 0, cells := 0, slots := 0, locals := 0 }) (va_Pc [.ref (a 0), .int v0] (fun U => U.heap.size = sz ∧ va_P (dC, dI) vwCl (dw_X16 a ac s0) U.heap ∧ va_K (dC, dI) vwCl (dk_X16 ac) U ∧ va_D (fun _ => True) (dw_X16 a ac s0) ∧ nv_E dI (va_A (dw_X16 a ac s0) sz) U)) (va_Qi (fun x _ => x = r.1) (fun (_ : Unit) t => va_P (dC, dI) vwCl (dw_X16 a ac r.2) t.heap ∧ va_K (dC, dI) vwCl (dk_X16 ac) t ∧ va_D (va_A (dw_X16 a ac s0) sz) (dw_X16 a ac r.2)) (va_A (dw_X16 a ac s0) sz)) 0 0 (va_A (dw_X16 a ac s0) sz) := by
  refine Met.ofW (cc := cX16_meet) (maxL := 2) (ret := (some .int)) (by decide) rfl ?_
  intro p e s m args below meth c s₁ B hml hv
  obtain ⟨rfl, hsz, hP, hK, hD0, hN⟩ := hv
  have hx := B.exec
  have hb := B.bytes
  have hr := B.returns
  have hts := atoms_spec (ws := ow_dm_X16_meet) B.pre
  have hown : s.vm.findClass RX16 = some m.cls := findClass_of_methodNamed B.named
  have hlocks := B.notSynchronized
  subst hsz
  have hD := hD0.self (sz := s.heap.size)
  generalize hAe : va_A (dw_X16 a ac s0) s.heap.size = A at hD hN ⊢
  have hA : ∀ q : Nat, s.heap.size ≤ q → A q := fun q h => by rw [← hAe]; exact Or.inr h
  have hl := lv_entry ([.ref (a 0), .int v0]) (n := 2) (Nat.le_of_ble_eq_true rfl)
  rw [lg_entry_eq]
  generalize (lg_sl ([.ref (a 0), .int v0]) ++ List.replicate (2 - (lg_sl ([.ref (a 0), .int v0])).length) Slot.unset).toArray = ls at hl ⊢
  have hl : lv_has ls 2 [(0, .ref (a 0)), (1, .int v0)] := hl
  exact db_X16_meet_0 (dC := dC) (dI := dI) (a := a) (ac := ac) (n := n) (r := r) ⟨hlt, hx, hb, hml, hown, hts, hN, hA, hK⟩ (fun pc v τ H locs ls d z er hP hD hS => by subst er; exact W.zret (v := v) hx hb hr z (fun t ht hW => ⟨⟨v, (), rfl, rfl, by rw [ht]; exact hP, va_K.moved hW.alike hK, hD⟩, hS.F ht⟩) hS.2.2 d) v0 s0 _ _ _ h hP hD va_S.rf (lv_sub hl [0, 1] rfl)
def ow_dm_X16_illegal : List Cond := Cond.code yX16_illegal cX16_illegal 1 (some .int) :: ([Cond.methodLink RX16 339 yX16_meet, Cond.instanceMethod yX16_meet, Cond.selects RX16 yX16_meet yX16_meet, Cond.initialized RX16] ++ (ow_dm_X16_meet ++ []))
theorem gd_dm_X16_illegal : ∀ w ∈ ow_dm_X16_illegal, (w.onTables && w.keeps) = true ∨ ∃ ty, w = Cond.arrayClass ty := List.forall_mem_cons.mpr ⟨good_of_word rfl, List.forall_mem_append.mpr ⟨fun w h => good_of_word (List.all_eq_true.mp (by decide +kernel) w h), List.forall_mem_append.mpr ⟨gd_dm_X16_meet, fun _ h => nomatch h⟩⟩⟩
theorem gi_dm_X16_illegal_0 : GoodIn ow_dm_X16_illegal (wsV RX16 339 RX16 yX16_meet ow_dm_X16_meet) := goodIn_app (goodIn_of _ (by decide +kernel)) (fun w h => ⟨List.mem_cons_of_mem _ (List.mem_append_right _ (List.mem_append_left _ h)), gd_dm_X16_meet w h⟩)
def dj_X16_illegal_0 (p : Program) (l : Launch) (e : Env) (s : State) (m : MethodId) (args : Array Value) (below : List Frame) (meth : Method) (c : Code) (Q : State → Prop) (A : Nat → Prop) (dC : Nat → ClassId) (dI : Nat → Nat → Nat) (a : Nat → Nat) (ac : Nat → ClassId) (g : (St × (St)) → Option (Int32 × (St × (St)))) (r : Int32 × (St × (St))) : Prop := ∀ (s0 : St × (St)) (H : Heap) (locs : List Loc) (ls : Array Slot), g s0 = some r → va_P (dC, dI) vwCl (dw_X16 a ac s0) H → va_D A (dw_X16 a ac s0) → va_S A s.heap H locs → lv_has ls 1 [(0, .ref (a 0))] → W p l e (headSpec ow_dm_X16_illegal ({ frames := 1, cells := 0, slots := 0, locals := 21 })).room s m args below meth c H locs 0 0 Q (F0 m 0 ls [])
set_option maxHeartbeats 40000000 in
set_option maxRecDepth 100000 in
theorem db_X16_illegal_0 {p : Program} {l : Launch} {e : Env} {s : State} {m : MethodId} {args : Array Value} {below : List Frame} {meth : Method} {c : Code} {Q : State → Prop} {A : Nat → Prop} {dC : Nat → ClassId} {dI : Nat → Nat → Nat} {a : Nat → Nat} {ac : Nat → ClassId} {n : Nat} {r : Int32 × (St × (St))} (C : nd_C p l s m args c A (dC, dI) cX16_illegal 1 RX16 ow_dm_X16_illegal (dk_X16 ac)) (K : nd_Ki p l e (headSpec ow_dm_X16_illegal ({ frames := 1, cells := 0, slots := 0, locals := 21 })).room s m args below meth c Q A (dC, dI) cX16_illegal .int (St × (St)) (dw_X16 a ac) r) : dj_X16_illegal_0 p l e s m args below meth c Q A dC dI a ac (df_X16_illegal_0 n) r := by
  obtain ⟨hlt, hx, hb, hml, hown, hts, hN, hA, hK⟩ := id C
  intro s0 H locs ls h hP hD hS hl
  unfold df_X16_illegal_0 at h
  refine lv_aload_n hx hb dX16_illegal_0 rfl (lv_at hl 0 rfl) ?_
  refine lv_iconst (v := 2) hx hb dX16_illegal_1 (by decide) ?_
  obtain ⟨q1, s2, hq, h⟩ := nd_b2_e h
  have hPc := hP
  have hDc := hD
  have hKc := hK
  have hFc := nd_rs hD hS hA
  refine nd_cVi (As := [.int 2]) (rest := []) (q := q1) (w' := dw_X16 a ac s2) ⟨hx, hb, hml, hown, hts⟩ (fun sz => dm_X16_meet l hlt dC dI a ac n (2) s0 hq sz) (cwV 1 hts gi_dm_X16_illegal_0 rfl rfl rfl (by decide +kernel) ⟨Nat.le_of_ble_eq_true rfl, Nat.le_of_ble_eq_true rfl⟩) hPc hDc hKc hS hA hN (va_recv hKc hPc (ci := 17) (q0 := 0) rfl rfl) rfl hl.1 rfl (Nat.le_of_ble_eq_true rfl) dX16_illegal_2 (fun H locs hP1 hD1 hk1 hS => ?_)
  have hP := hP1
  have hD := hD1.weaken (fun k q _ h => hFc q.1 h)
  exact K _ _ _ _ _ _ dX16_illegal_5 rfl (Option.some.inj h).symm hP hD hS
set_option maxHeartbeats 40000000 in
set_option maxRecDepth 100000 in
theorem dm_X16_illegal (l : Launch) (hlt : l.stackTraces = false) (dC : Nat → ClassId) (dI : Nat → Nat → Nat) (a : Nat → Nat) (ac : Nat → ClassId) (n : Nat) (s0 : St × (St)) {r : Int32 × (St × (St))} (h : df_X16_illegal n s0 = some r) (sz : Nat) : Met l yX16_illegal ow_dm_X16_illegal ({ frames := 1, cells := 0, slots := 0, locals := 21 }) (va_Pc [.ref (a 0)] (fun U => U.heap.size = sz ∧ va_P (dC, dI) vwCl (dw_X16 a ac s0) U.heap ∧ va_K (dC, dI) vwCl (dk_X16 ac) U ∧ va_D (fun _ => True) (dw_X16 a ac s0) ∧ nv_E dI (va_A (dw_X16 a ac s0) sz) U)) (va_Qi (fun x _ => x = r.1) (fun (_ : Unit) t => va_P (dC, dI) vwCl (dw_X16 a ac r.2) t.heap ∧ va_K (dC, dI) vwCl (dk_X16 ac) t ∧ va_D (va_A (dw_X16 a ac s0) sz) (dw_X16 a ac r.2)) (va_A (dw_X16 a ac s0) sz)) 0 0 (va_A (dw_X16 a ac s0) sz) := by
  refine Met.ofW (cc := cX16_illegal) (maxL := 1) (ret := (some .int)) (by decide) rfl ?_
  intro p e s m args below meth c s₁ B hml hv
  obtain ⟨rfl, hsz, hP, hK, hD0, hN⟩ := hv
  have hx := B.exec
  have hb := B.bytes
  have hr := B.returns
  have hts := atoms_spec (ws := ow_dm_X16_illegal) B.pre
  have hown : s.vm.findClass RX16 = some m.cls := findClass_of_methodNamed B.named
  have hlocks := B.notSynchronized
  subst hsz
  have hD := hD0.self (sz := s.heap.size)
  generalize hAe : va_A (dw_X16 a ac s0) s.heap.size = A at hD hN ⊢
  have hA : ∀ q : Nat, s.heap.size ≤ q → A q := fun q h => by rw [← hAe]; exact Or.inr h
  have hl := lv_entry ([.ref (a 0)]) (n := 1) (Nat.le_of_ble_eq_true rfl)
  rw [lg_entry_eq]
  generalize (lg_sl ([.ref (a 0)]) ++ List.replicate (1 - (lg_sl ([.ref (a 0)])).length) Slot.unset).toArray = ls at hl ⊢
  have hl : lv_has ls 1 [(0, .ref (a 0))] := hl
  exact db_X16_illegal_0 (dC := dC) (dI := dI) (a := a) (ac := ac) (n := n) (r := r) ⟨hlt, hx, hb, hml, hown, hts, hN, hA, hK⟩ (fun pc v τ H locs ls d z er hP hD hS => by subst er; exact W.zret (v := v) hx hb hr z (fun t ht hW => ⟨⟨v, (), rfl, rfl, by rw [ht]; exact hP, va_K.moved hW.alike hK, hD⟩, hS.F ht⟩) hS.2.2 d) s0 _ _ _ h hP hD va_S.rf (lv_sub hl [0] rfl)
def ow_dm_X16_loaded : List Cond := Cond.code yX16_loaded cX16_loaded 6 (some .int) :: ([Cond.methodLink RX16 356 yX16_illegal, Cond.instanceMethod yX16_illegal, Cond.selects RX16 yX16_illegal yX16_illegal, Cond.initialized RX16, Cond.fieldLink RX16 232 "TimeMachineModel$Machine" "p" "I", Cond.methodLink RX16 218 yX16_may, Cond.instanceMethod yX16_may, Cond.selects RX16 yX16_may yX16_may, Cond.methodLink RX16 320 yX16_signed, Cond.static yX16_signed, Cond.methodLink RX16 235 yX16_byteAt, Cond.instanceMethod yX16_byteAt, Cond.selects RX16 yX16_byteAt yX16_byteAt, Cond.methodLink RX16 339 yX16_meet, Cond.instanceMethod yX16_meet, Cond.selects RX16 yX16_meet yX16_meet] ++ (u_ws RX16 TX16 56 ++ (ow_dm_X16_illegal ++ (ow_dm_X16_may ++ (ow_dm_X16_signed ++ (ow_dm_X16_byteAt ++ (ow_dm_X16_meet ++ [])))))))
theorem gd_dm_X16_loaded : ∀ w ∈ ow_dm_X16_loaded, (w.onTables && w.keeps) = true ∨ ∃ ty, w = Cond.arrayClass ty := List.forall_mem_cons.mpr ⟨good_of_word rfl, List.forall_mem_append.mpr ⟨fun w h => good_of_word (List.all_eq_true.mp (by decide +kernel) w h), List.forall_mem_append.mpr ⟨gu_X16, List.forall_mem_append.mpr ⟨gd_dm_X16_illegal, List.forall_mem_append.mpr ⟨gd_dm_X16_may, List.forall_mem_append.mpr ⟨gd_dm_X16_signed, List.forall_mem_append.mpr ⟨gd_dm_X16_byteAt, List.forall_mem_append.mpr ⟨gd_dm_X16_meet, fun _ h => nomatch h⟩⟩⟩⟩⟩⟩⟩⟩
theorem hi_dm_X16_loaded_X16 : ∀ w ∈ u_ws RX16 TX16 56, w ∈ ow_dm_X16_loaded := fun w h => List.mem_cons_of_mem _ (List.mem_append_right _ (List.mem_append_left _ h))
theorem gi_dm_X16_loaded_0 : GoodIn ow_dm_X16_loaded (wsV RX16 356 RX16 yX16_illegal ow_dm_X16_illegal) := goodIn_app (goodIn_of _ (by decide +kernel)) (fun w h => ⟨List.mem_cons_of_mem _ (List.mem_append_right _ (List.mem_append_right _ (List.mem_append_left _ h))), gd_dm_X16_illegal w h⟩)
theorem gi_dm_X16_loaded_1 : GoodIn ow_dm_X16_loaded (wsV RX16 218 RX16 yX16_may ow_dm_X16_may) := goodIn_app (goodIn_of _ (by decide +kernel)) (fun w h => ⟨List.mem_cons_of_mem _ (List.mem_append_right _ (List.mem_append_right _ (List.mem_append_right _ (List.mem_append_left _ h)))), gd_dm_X16_may w h⟩)
theorem gi_dm_X16_loaded_2 : GoodIn ow_dm_X16_loaded (wsS RX16 320 yX16_signed ow_dm_X16_signed) := goodIn_app (goodIn_of _ (by decide +kernel)) (fun w h => ⟨List.mem_cons_of_mem _ (List.mem_append_right _ (List.mem_append_right _ (List.mem_append_right _ (List.mem_append_right _ (List.mem_append_left _ h))))), gd_dm_X16_signed w h⟩)
theorem gi_dm_X16_loaded_3 : GoodIn ow_dm_X16_loaded (wsV RX16 235 RX16 yX16_byteAt ow_dm_X16_byteAt) := goodIn_app (goodIn_of _ (by decide +kernel)) (fun w h => ⟨List.mem_cons_of_mem _ (List.mem_append_right _ (List.mem_append_right _ (List.mem_append_right _ (List.mem_append_right _ (List.mem_append_right _ (List.mem_append_left _ h)))))), gd_dm_X16_byteAt w h⟩)
theorem gi_dm_X16_loaded_4 : GoodIn ow_dm_X16_loaded (wsV RX16 339 RX16 yX16_meet ow_dm_X16_meet) := goodIn_app (goodIn_of _ (by decide +kernel)) (fun w h => ⟨List.mem_cons_of_mem _ (List.mem_append_right _ (List.mem_append_right _ (List.mem_append_right _ (List.mem_append_right _ (List.mem_append_right _ (List.mem_append_right _ (List.mem_append_left _ h))))))), gd_dm_X16_meet w h⟩)
def dj_X16_loaded_16 (p : Program) (l : Launch) (e : Env) (s : State) (m : MethodId) (args : Array Value) (below : List Frame) (meth : Method) (c : Code) (Q : State → Prop) (A : Nat → Prop) (dC : Nat → ClassId) (dI : Nat → Nat → Nat) (a : Nat → Nat) (ac : Nat → ClassId) (g : (St × (St)) → Option (Int32 × (St × (St)))) (r : Int32 × (St × (St))) : Prop := ∀ (s0 : St × (St)) (H : Heap) (locs : List Loc) (ls : Array Slot), g s0 = some r → va_P (dC, dI) vwCl (dw_X16 a ac s0) H → va_D A (dw_X16 a ac s0) → va_S A s.heap H locs → lv_has ls 6 [(0, .ref (a 0))] → W p l e (headSpec ow_dm_X16_loaded ({ frames := 2, cells := 0, slots := 0, locals := 45 })).room s m args below meth c H locs 0 0 Q (F0 m 16 ls [])
def dj_X16_loaded_109 (p : Program) (l : Launch) (e : Env) (s : State) (m : MethodId) (args : Array Value) (below : List Frame) (meth : Method) (c : Code) (Q : State → Prop) (A : Nat → Prop) (dC : Nat → ClassId) (dI : Nat → Nat → Nat) (a : Nat → Nat) (ac : Nat → ClassId) (g : Int32 → (St × (St)) → Option (Int32 × (St × (St)))) (r : Int32 × (St × (St))) : Prop := ∀ (y0 : Int32) (s0 : St × (St)) (H : Heap) (locs : List Loc) (ls : Array Slot), g y0 s0 = some r → va_P (dC, dI) vwCl (dw_X16 a ac s0) H → va_D A (dw_X16 a ac s0) → va_S A s.heap H locs → lv_has ls 6 [] → W p l e (headSpec ow_dm_X16_loaded ({ frames := 2, cells := 0, slots := 0, locals := 45 })).room s m args below meth c H locs 0 0 Q (F0 m 109 ls [.int y0])
def dj_X16_loaded_59 (p : Program) (l : Launch) (e : Env) (s : State) (m : MethodId) (args : Array Value) (below : List Frame) (meth : Method) (c : Code) (Q : State → Prop) (A : Nat → Prop) (dC : Nat → ClassId) (dI : Nat → Nat → Nat) (a : Nat → Nat) (ac : Nat → ClassId) (g : Int32 → Int32 → Int32 → Int32 → Int32 → (St × (St)) → Option (Int32 × (St × (St)))) (r : Int32 × (St × (St))) : Prop := ∀ (x1 : Int32) (x2 : Int32) (x3 : Int32) (x4 : Int32) (x5 : Int32) (s0 : St × (St)) (H : Heap) (locs : List Loc) (ls : Array Slot), g x1 x2 x3 x4 x5 s0 = some r → va_P (dC, dI) vwCl (dw_X16 a ac s0) H → va_D A (dw_X16 a ac s0) → va_S A s.heap H locs → lv_has ls 6 [(0, .ref (a 0)), (1, .int x1), (2, .int x2), (3, .int x3), (4, .int x4), (5, .int x5)] → W p l e (headSpec ow_dm_X16_loaded ({ frames := 2, cells := 0, slots := 0, locals := 45 })).room s m args below meth c H locs 0 0 Q (F0 m 59 ls [])
def dj_X16_loaded_0 (p : Program) (l : Launch) (e : Env) (s : State) (m : MethodId) (args : Array Value) (below : List Frame) (meth : Method) (c : Code) (Q : State → Prop) (A : Nat → Prop) (dC : Nat → ClassId) (dI : Nat → Nat → Nat) (a : Nat → Nat) (ac : Nat → ClassId) (g : Int32 → Int32 → (St × (St)) → Option (Int32 × (St × (St)))) (r : Int32 × (St × (St))) : Prop := ∀ (v0 : Int32) (v1 : Int32) (s0 : St × (St)) (H : Heap) (locs : List Loc) (ls : Array Slot), g v0 v1 s0 = some r → va_P (dC, dI) vwCl (dw_X16 a ac s0) H → va_D A (dw_X16 a ac s0) → va_S A s.heap H locs → lv_has ls 6 [(0, .ref (a 0)), (1, .int v0), (2, .int v1)] → W p l e (headSpec ow_dm_X16_loaded ({ frames := 2, cells := 0, slots := 0, locals := 45 })).room s m args below meth c H locs 0 0 Q (F0 m 0 ls [])
set_option maxHeartbeats 40000000 in
set_option maxRecDepth 100000 in
theorem db_X16_loaded_16 {p : Program} {l : Launch} {e : Env} {s : State} {m : MethodId} {args : Array Value} {below : List Frame} {meth : Method} {c : Code} {Q : State → Prop} {A : Nat → Prop} {dC : Nat → ClassId} {dI : Nat → Nat → Nat} {a : Nat → Nat} {ac : Nat → ClassId} {n : Nat} {r : Int32 × (St × (St))} (C : nd_C p l s m args c A (dC, dI) cX16_loaded 6 RX16 ow_dm_X16_loaded (dk_X16 ac)) (K : nd_Ki p l e (headSpec ow_dm_X16_loaded ({ frames := 2, cells := 0, slots := 0, locals := 45 })).room s m args below meth c Q A (dC, dI) cX16_loaded .int (St × (St)) (dw_X16 a ac) r) : dj_X16_loaded_16 p l e s m args below meth c Q A dC dI a ac (df_X16_loaded_16 n) r := by
  obtain ⟨hlt, hx, hb, hml, hown, hts, hN, hA, hK⟩ := id C
  intro s0 H locs ls h hP hD hS hl
  unfold df_X16_loaded_16 at h
  refine lv_aload_n hx hb dX16_loaded_16 rfl (lv_at hl 0 rfl) ?_
  obtain ⟨q3, s4, hq, h⟩ := nd_b2_e h
  have hPc := hP
  have hDc := hD
  have hKc := hK
  have hFc := nd_rs hD hS hA
  refine nd_cVi (As := []) (rest := []) (q := q3) (w' := dw_X16 a ac s4) ⟨hx, hb, hml, hown, hts⟩ (fun sz => dm_X16_illegal l hlt dC dI a ac n  s0 hq sz) (cwV 0 hts gi_dm_X16_loaded_0 rfl rfl rfl (by decide +kernel) ⟨Nat.le_of_ble_eq_true rfl, Nat.le_of_ble_eq_true rfl⟩) hPc hDc hKc hS hA hN (va_recv hKc hPc (ci := 17) (q0 := 0) rfl rfl) rfl hl.1 rfl (Nat.le_of_ble_eq_true rfl) dX16_loaded_17 (fun H locs hP1 hD1 hk1 hS => ?_)
  have hP := hP1
  have hD := hD1.weaken (fun k q _ h => hFc q.1 h)
  exact K _ _ _ _ _ _ dX16_loaded_20 rfl (Option.some.inj h).symm hP hD hS
set_option maxHeartbeats 40000000 in
set_option maxRecDepth 100000 in
theorem db_X16_loaded_109 {p : Program} {l : Launch} {e : Env} {s : State} {m : MethodId} {args : Array Value} {below : List Frame} {meth : Method} {c : Code} {Q : State → Prop} {A : Nat → Prop} {dC : Nat → ClassId} {dI : Nat → Nat → Nat} {a : Nat → Nat} {ac : Nat → ClassId} {n : Nat} {r : Int32 × (St × (St))} (C : nd_C p l s m args c A (dC, dI) cX16_loaded 6 RX16 ow_dm_X16_loaded (dk_X16 ac)) (K : nd_Ki p l e (headSpec ow_dm_X16_loaded ({ frames := 2, cells := 0, slots := 0, locals := 45 })).room s m args below meth c Q A (dC, dI) cX16_loaded .int (St × (St)) (dw_X16 a ac) r) : dj_X16_loaded_109 p l e s m args below meth c Q A dC dI a ac (df_X16_loaded_109 n) r := by
  obtain ⟨hlt, hx, hb, hml, hown, hts, hN, hA, hK⟩ := id C
  intro y0 s0 H locs ls h hP hD hS hl
  unfold df_X16_loaded_109 at h
  exact K _ _ _ _ _ _ dX16_loaded_109 rfl (Option.some.inj h).symm hP hD hS
set_option maxHeartbeats 40000000 in
set_option maxRecDepth 100000 in
theorem dB_X16_loaded_59 {p : Program} {l : Launch} {e : Env} {s : State} {m : MethodId} {args : Array Value} {below : List Frame} {meth : Method} {c : Code} {Q : State → Prop} {A : Nat → Prop} {dC : Nat → ClassId} {dI : Nat → Nat → Nat} {a : Nat → Nat} {ac : Nat → ClassId} {n : Nat} {r : Int32 × (St × (St))} (C : nd_C p l s m args c A (dC, dI) cX16_loaded 6 RX16 ow_dm_X16_loaded (dk_X16 ac)) (K : nd_Ki p l e (headSpec ow_dm_X16_loaded ({ frames := 2, cells := 0, slots := 0, locals := 45 })).room s m args below meth c Q A (dC, dI) cX16_loaded .int (St × (St)) (dw_X16 a ac) r) {g59 : Int32 → Int32 → Int32 → Int32 → Int32 → (St × (St)) → Option (Int32 × (St × (St)))} (J59 : dj_X16_loaded_59 p l e s m args below meth c Q A dC dI a ac g59 r) : dj_X16_loaded_59 p l e s m args below meth c Q A dC dI a ac (dF_X16_loaded_59 n g59) r := by
  obtain ⟨hlt, hx, hb, hml, hown, hts, hN, hA, hK⟩ := id C
  intro x1 x2 x3 x4 x5 s0 H locs ls h hP hD hS hl
  unfold dF_X16_loaded_59 at h
  refine lv_iload hx hb dX16_loaded_59 (lv_at hl 5 rfl) ?_
  refine lv_iload_n hx hb dX16_loaded_61 rfl (lv_at hl 3 rfl) ?_
  refine lv_icmp_ge (tgt := 90) hx hb dX16_loaded_62 (by decide) (fun c13 => ?_) (fun c13 => ?_)
  · have h := nd_pos h c13
    refine lv_iload_n hx hb dX16_loaded_90 rfl (lv_at hl 1 rfl) ?_
    refine lv_iconst (v := 2) hx hb dX16_loaded_91 (by decide) ?_
    refine lv_icmp_ge (tgt := 107) hx hb dX16_loaded_92 (by decide) (fun c14 => ?_) (fun c14 => ?_)
    · have h := nd_pos h c14
      refine lv_iload hx hb dX16_loaded_107 (lv_at hl 4 rfl) ?_
      exact (db_X16_loaded_109 C K) (x4) s0 _ _ _ h hP hD hS (lv_sub hl [] rfl)
    · have h := nd_neg h c14
      refine lv_iload hx hb dX16_loaded_95 (lv_at hl 4 rfl) ?_
      refine lv_bipush (v := 8) hx hb dX16_loaded_97 (by decide) ?_
      refine lv_iload_n hx hb dX16_loaded_99 rfl (lv_at hl 3 rfl) ?_
      refine lv_imul hx hb dX16_loaded_100 ?_
      obtain ⟨q15, s16, hq, h⟩ := nd_b2_e h
      have hPc : va_P (dC, dI) vwCl (dw_P a ac ()) H := nd_p0
      have hDc : va_D A (dw_P a ac ()) := nd_d0
      have hKc : va_K (dC, dI) vwCl (dk_P ac) s := nd_y0 hK
      have hFc : ∀ q, va_A (dw_P a ac ()) H.size q → A q := nd_r0 hS hA
      refine nd_cSi (As := [.int x4, .int (8 * x3)]) (rest := []) (q := q15) (w' := dw_P a ac s16) ⟨hx, hb, hml, hown, hts⟩ (fun sz => dm_X16_signed l hlt dC dI a ac n (x4) ((8 * x3)) () hq sz) (cwS 2 hts gi_dm_X16_loaded_2 rfl rfl rfl (by decide +kernel) ⟨Nat.le_of_ble_eq_true rfl, Nat.le_of_ble_eq_true rfl⟩) hPc hDc hKc hS hA hN rfl hl.1 rfl (Nat.le_of_ble_eq_true rfl) dX16_loaded_101 (fun H locs hP1 hD1 hk1 hS => ?_)
      have hP := nd_n0 hP hk1
      refine lv_goto (tgt := 109) hx hb dX16_loaded_104 (by decide) ?_
      exact (db_X16_loaded_109 C K) (q15) s0 _ _ _ h hP hD hS (lv_sub hl [] rfl)
  · have h := nd_neg h c13
    refine lv_iload hx hb dX16_loaded_65 (lv_at hl 4 rfl) ?_
    refine lv_aload_n hx hb dX16_loaded_67 rfl (lv_at hl 0 rfl) ?_
    refine lv_iload_n hx hb dX16_loaded_68 rfl (lv_at hl 2 rfl) ?_
    refine lv_iload hx hb dX16_loaded_69 (lv_at hl 5 rfl) ?_
    refine lv_iadd hx hb dX16_loaded_71 ?_
    obtain ⟨q18, s19, hq, h⟩ := nd_b2_e h
    have hPc := hP
    have hDc := hD
    have hKc := hK
    have hFc := nd_rs hD hS hA
    refine nd_cVi (As := [.int (x2 + x5)]) (rest := [.int x4]) (q := q18) (w' := dw_X16 a ac s19) ⟨hx, hb, hml, hown, hts⟩ (fun sz => dm_X16_byteAt l hlt dC dI a ac n ((x2 + x5)) s0 hq sz) (cwV 1 hts gi_dm_X16_loaded_3 rfl rfl rfl (by decide +kernel) ⟨Nat.le_of_ble_eq_true rfl, Nat.le_of_ble_eq_true rfl⟩) hPc hDc hKc hS hA hN (va_recv hKc hPc (ci := 17) (q0 := 0) rfl rfl) rfl hl.1 rfl (Nat.le_of_ble_eq_true rfl) dX16_loaded_72 (fun H locs hP1 hD1 hk1 hS => ?_)
    have hP := hP1
    have hD := hD1.weaken (fun k q _ h => hFc q.1 h)
    refine lv_bipush (v := 8) hx hb dX16_loaded_75 (by decide) ?_
    refine lv_iload hx hb dX16_loaded_77 (lv_at hl 5 rfl) ?_
    refine lv_imul hx hb dX16_loaded_79 ?_
    refine lv_ishl hx hb dX16_loaded_80 ?_
    refine lv_ior hx hb dX16_loaded_81 ?_
    refine lv_topi (fun z21 ez21 => ?_)
    have h := nd_at h ez21
    refine lv_istore (lv' := [(4, .int z21), (0, .ref (a 0)), (1, .int x1), (2, .int x2), (3, .int x3), (5, .int x5)]) hx hb dX16_loaded_82 hl (by decide) rfl (fun ls hl => ?_)
    obtain ⟨z22, ez22, h⟩ := nd_let_e h
    refine lv_iinc (v := z22) (lv' := [(5, .int z22), (4, .int z21), (0, .ref (a 0)), (1, .int x1), (2, .int x2), (3, .int x3)]) hx hb dX16_loaded_84 hl (k := 5) rfl (by rw [ez22]) (by decide) rfl (fun ls hl => ?_)
    refine lv_goto (tgt := 59) hx hb dX16_loaded_87 (by decide) ?_
    exact (J59) (x1) (x2) (x3) (z21) (z22) s19 _ _ _ h hP hD hS (lv_sub hl [2, 3, 4, 5, 1, 0] rfl)
set_option maxHeartbeats 40000000 in
set_option maxRecDepth 100000 in
theorem db_X16_loaded_59 {p : Program} {l : Launch} {e : Env} {s : State} {m : MethodId} {args : Array Value} {below : List Frame} {meth : Method} {c : Code} {Q : State → Prop} {A : Nat → Prop} {dC : Nat → ClassId} {dI : Nat → Nat → Nat} {a : Nat → Nat} {ac : Nat → ClassId} {n : Nat} {r : Int32 × (St × (St))} (C : nd_C p l s m args c A (dC, dI) cX16_loaded 6 RX16 ow_dm_X16_loaded (dk_X16 ac)) (K : nd_Ki p l e (headSpec ow_dm_X16_loaded ({ frames := 2, cells := 0, slots := 0, locals := 45 })).room s m args below meth c Q A (dC, dI) cX16_loaded .int (St × (St)) (dw_X16 a ac) r) (k : Nat) : dj_X16_loaded_59 p l e s m args below meth c Q A dC dI a ac (df_X16_loaded_59 n k) r := by
  induction k with
  | zero => intro x1 x2 x3 x4 x5 s0 H locs ls h; exact nomatch (show (none : Option (Int32 × (St × (St)))) = some r from h)
  | succ k ih => exact dB_X16_loaded_59 C K ih
set_option maxHeartbeats 40000000 in
set_option maxRecDepth 100000 in
theorem db_X16_loaded_0 {p : Program} {l : Launch} {e : Env} {s : State} {m : MethodId} {args : Array Value} {below : List Frame} {meth : Method} {c : Code} {Q : State → Prop} {A : Nat → Prop} {dC : Nat → ClassId} {dI : Nat → Nat → Nat} {a : Nat → Nat} {ac : Nat → ClassId} {n : Nat} {r : Int32 × (St × (St))} (C : nd_C p l s m args c A (dC, dI) cX16_loaded 6 RX16 ow_dm_X16_loaded (dk_X16 ac)) (K : nd_Ki p l e (headSpec ow_dm_X16_loaded ({ frames := 2, cells := 0, slots := 0, locals := 45 })).room s m args below meth c Q A (dC, dI) cX16_loaded .int (St × (St)) (dw_X16 a ac) r) : dj_X16_loaded_0 p l e s m args below meth c Q A dC dI a ac (df_X16_loaded_0 n) r := by
  obtain ⟨hlt, hx, hb, hml, hown, hts, hN, hA, hK⟩ := id C
  intro v0 v1 s0 H locs ls h hP hD hS hl
  unfold df_X16_loaded_0 at h
  refine lv_iconst (v := 1) hx hb dX16_loaded_0 (by decide) ?_
  refine lv_iload_n hx hb dX16_loaded_1 rfl (lv_at hl 1 rfl) ?_
  refine lv_iconst (v := 3) hx hb dX16_loaded_2 (by decide) ?_
  refine lv_iand hx hb dX16_loaded_3 ?_
  refine lv_ishl hx hb dX16_loaded_4 ?_
  refine lv_topi (fun z1 ez1 => ?_)
  have h := nd_at h ez1
  refine lv_istore_n (lv' := [(3, .int z1), (0, .ref (a 0)), (1, .int v0), (2, .int v1)]) hx hb dX16_loaded_5 rfl hl (by decide) rfl (fun ls hl => ?_)
  refine lv_iload_n hx hb dX16_loaded_6 rfl (lv_at hl 2 rfl) ?_
  refine lv_iconst (v := 3) hx hb dX16_loaded_7 (by decide) ?_
  refine lv_icmp_eq (tgt := 16) hx hb dX16_loaded_8 (by decide) (fun c2 => ?_) (fun c2 => ?_)
  · have h := nd_pos h c2
    exact (db_X16_loaded_16 C K)  s0 _ _ _ h hP hD hS (lv_sub hl [1] rfl)
  · have h := nd_neg h c2
    refine lv_iload_n hx hb dX16_loaded_11 rfl (lv_at hl 2 rfl) ?_
    refine lv_iconst (v := 5) hx hb dX16_loaded_12 (by decide) ?_
    refine lv_icmp_le (tgt := 21) hx hb dX16_loaded_13 (by decide) (fun c6 => ?_) (fun c6 => ?_)
    · have h := nd_pos h c6
      refine lv_iload_n hx hb dX16_loaded_21 rfl (lv_at hl 3 rfl) ?_
      refine lv_iload_n hx hb dX16_loaded_22 rfl (lv_at hl 0 rfl) ?_
      obtain ⟨i7, h⟩ := nd_nz_e h
      refine lv_irem hx hb dX16_loaded_23 i7 ?_
      refine lv_if_eq (tgt := 33) hx hb dX16_loaded_24 (by decide) (fun c8 => ?_) (fun c8 => ?_)
      · have h := nd_pos h c8
        refine lv_aload_n hx hb dX16_loaded_33 rfl (lv_at hl 1 rfl) ?_
        refine lv_aload_n hx hb dX16_loaded_34 rfl (lv_at hl 1 rfl) ?_
        refine va_get (D := (dC, dI)) (ci := 17) (v := .int (sI s0.1 12)) (C := RX16) (T := TX16) (N := 56) hx hb hts hi_dm_X16_loaded_X16 hown hK hP 0 rfl rfl 51 (by decide) (hts (.fieldLink RX16 232 "TimeMachineModel$Machine" "p" "I") (List.mem_of_getElem? (i := 5) rfl)) (fun _ h9 => h9) rfl dX16_loaded_35 ?_
        refine lv_iload_n hx hb dX16_loaded_38 rfl (lv_at hl 3 rfl) ?_
        refine lv_iconst (v := 1) hx hb dX16_loaded_39 (by decide) ?_
        obtain ⟨q9, s10, hq, h⟩ := nd_b2_e h
        have hPc := hP
        have hDc := hD
        have hKc := hK
        have hFc := nd_rs hD hS hA
        refine nd_cVi (As := [.int (sI s0.1 12), .int v1, .int 1]) (rest := []) (q := q9) (w' := dw_X16 a ac s10) ⟨hx, hb, hml, hown, hts⟩ (fun sz => dm_X16_may l hlt dC dI a ac n ((sI s0.1 12)) (v1) (1) s0 hq sz) (cwV 3 hts gi_dm_X16_loaded_1 rfl rfl rfl (by decide +kernel) ⟨Nat.le_of_ble_eq_true rfl, Nat.le_of_ble_eq_true rfl⟩) hPc hDc hKc hS hA hN (va_recv hKc hPc (ci := 17) (q0 := 0) rfl rfl) rfl hl.1 rfl (Nat.le_of_ble_eq_true rfl) dX16_loaded_40 (fun H locs hP1 hD1 hk1 hS => ?_)
        have hP := hP1
        have hD := hD1.weaken (fun k q _ h => hFc q.1 h)
        refine lv_if_ne (tgt := 53) hx hb dX16_loaded_43 (by decide) (fun c12 => ?_) (fun c12 => ?_)
        · have h := nd_neg h c12
          refine lv_iconst (v := 0) hx hb dX16_loaded_53 (by decide) ?_
          refine lv_istore (lv' := [(4, .int 0), (3, .int z1), (0, .ref (a 0)), (1, .int v0), (2, .int v1)]) hx hb dX16_loaded_54 hl (by decide) rfl (fun ls hl => ?_)
          refine lv_iconst (v := 0) hx hb dX16_loaded_56 (by decide) ?_
          refine lv_istore (lv' := [(5, .int 0), (4, .int 0), (3, .int z1), (0, .ref (a 0)), (1, .int v0), (2, .int v1)]) hx hb dX16_loaded_57 hl (by decide) rfl (fun ls hl => ?_)
          exact (db_X16_loaded_59 C K n) (v0) (v1) (z1) (0) (0) s10 _ _ _ h hP hD hS (lv_sub hl [3, 4, 5, 2, 1, 0] rfl)
        · have h := nd_pos h c12
          refine lv_aload_n hx hb dX16_loaded_46 rfl (lv_at hl 1 rfl) ?_
          refine lv_bipush (v := 6) hx hb dX16_loaded_47 (by decide) ?_
          obtain ⟨q23, s24, hq, h⟩ := nd_b2_e h
          have hPc := hP
          have hDc := hD
          have hKc := hK
          have hFc := nd_rs hD hS hA
          refine nd_cVi (As := [.int 6]) (rest := []) (q := q23) (w' := dw_X16 a ac s24) ⟨hx, hb, hml, hown, hts⟩ (fun sz => dm_X16_meet l hlt dC dI a ac n (6) s10 hq sz) (cwV 1 hts gi_dm_X16_loaded_4 rfl rfl rfl (by decide +kernel) ⟨Nat.le_of_ble_eq_true rfl, Nat.le_of_ble_eq_true rfl⟩) hPc hDc hKc hS hA hN (va_recv hKc hPc (ci := 17) (q0 := 0) rfl rfl) rfl hl.1 rfl (Nat.le_of_ble_eq_true rfl) dX16_loaded_49 (fun H locs hP1 hD1 hk1 hS => ?_)
          have hP := hP1
          have hD := hD1.weaken (fun k q _ h => hFc q.1 h)
          exact K _ _ _ _ _ _ dX16_loaded_52 rfl (Option.some.inj h).symm hP hD hS
      · have h := nd_neg h c8
        refine lv_aload_n hx hb dX16_loaded_27 rfl (lv_at hl 1 rfl) ?_
        refine lv_iconst (v := 5) hx hb dX16_loaded_28 (by decide) ?_
        obtain ⟨q26, s27, hq, h⟩ := nd_b2_e h
        have hPc := hP
        have hDc := hD
        have hKc := hK
        have hFc := nd_rs hD hS hA
        refine nd_cVi (As := [.int 5]) (rest := []) (q := q26) (w' := dw_X16 a ac s27) ⟨hx, hb, hml, hown, hts⟩ (fun sz => dm_X16_meet l hlt dC dI a ac n (5) s0 hq sz) (cwV 1 hts gi_dm_X16_loaded_4 rfl rfl rfl (by decide +kernel) ⟨Nat.le_of_ble_eq_true rfl, Nat.le_of_ble_eq_true rfl⟩) hPc hDc hKc hS hA hN (va_recv hKc hPc (ci := 17) (q0 := 0) rfl rfl) rfl hl.1 rfl (Nat.le_of_ble_eq_true rfl) dX16_loaded_29 (fun H locs hP1 hD1 hk1 hS => ?_)
        have hP := hP1
        have hD := hD1.weaken (fun k q _ h => hFc q.1 h)
        exact K _ _ _ _ _ _ dX16_loaded_32 rfl (Option.some.inj h).symm hP hD hS
    · have h := nd_neg h c6
      exact (db_X16_loaded_16 C K)  s0 _ _ _ h hP hD hS (lv_sub hl [1] rfl)
set_option maxHeartbeats 40000000 in
set_option maxRecDepth 100000 in
theorem dm_X16_loaded (l : Launch) (hlt : l.stackTraces = false) (dC : Nat → ClassId) (dI : Nat → Nat → Nat) (a : Nat → Nat) (ac : Nat → ClassId) (n : Nat) (v0 : Int32) (v1 : Int32) (s0 : St × (St)) {r : Int32 × (St × (St))} (h : df_X16_loaded n v0 v1 s0 = some r) (sz : Nat) : Met l yX16_loaded ow_dm_X16_loaded ({ frames := 2, cells := 0, slots := 0, locals := 45 }) (va_Pc [.ref (a 0), .int v0, .int v1] (fun U => U.heap.size = sz ∧ va_P (dC, dI) vwCl (dw_X16 a ac s0) U.heap ∧ va_K (dC, dI) vwCl (dk_X16 ac) U ∧ va_D (fun _ => True) (dw_X16 a ac s0) ∧ nv_E dI (va_A (dw_X16 a ac s0) sz) U)) (va_Qi (fun x _ => x = r.1) (fun (_ : Unit) t => va_P (dC, dI) vwCl (dw_X16 a ac r.2) t.heap ∧ va_K (dC, dI) vwCl (dk_X16 ac) t ∧ va_D (va_A (dw_X16 a ac s0) sz) (dw_X16 a ac r.2)) (va_A (dw_X16 a ac s0) sz)) 0 0 (va_A (dw_X16 a ac s0) sz) := by
  refine Met.ofW (cc := cX16_loaded) (maxL := 6) (ret := (some .int)) (by decide) rfl ?_
  intro p e s m args below meth c s₁ B hml hv
  obtain ⟨rfl, hsz, hP, hK, hD0, hN⟩ := hv
  have hx := B.exec
  have hb := B.bytes
  have hr := B.returns
  have hts := atoms_spec (ws := ow_dm_X16_loaded) B.pre
  have hown : s.vm.findClass RX16 = some m.cls := findClass_of_methodNamed B.named
  have hlocks := B.notSynchronized
  subst hsz
  have hD := hD0.self (sz := s.heap.size)
  generalize hAe : va_A (dw_X16 a ac s0) s.heap.size = A at hD hN ⊢
  have hA : ∀ q : Nat, s.heap.size ≤ q → A q := fun q h => by rw [← hAe]; exact Or.inr h
  have hl := lv_entry ([.ref (a 0), .int v0, .int v1]) (n := 6) (Nat.le_of_ble_eq_true rfl)
  rw [lg_entry_eq]
  generalize (lg_sl ([.ref (a 0), .int v0, .int v1]) ++ List.replicate (6 - (lg_sl ([.ref (a 0), .int v0, .int v1])).length) Slot.unset).toArray = ls at hl ⊢
  have hl : lv_has ls 6 [(0, .ref (a 0)), (1, .int v0), (2, .int v1)] := hl
  exact db_X16_loaded_0 (dC := dC) (dI := dI) (a := a) (ac := ac) (n := n) (r := r) ⟨hlt, hx, hb, hml, hown, hts, hN, hA, hK⟩ (fun pc v τ H locs ls d z er hP hD hS => by subst er; exact W.zret (v := v) hx hb hr z (fun t ht hW => ⟨⟨v, (), rfl, rfl, by rw [ht]; exact hP, va_K.moved hW.alike hK, hD⟩, hS.F ht⟩) hS.2.2 d) v0 v1 s0 _ _ _ h hP hD va_S.rf (lv_sub hl [0, 1, 2] rfl)
def ow_dm_X16_become : List Cond := Cond.code yX16_become cX16_become 3 none :: ([Cond.fieldLink RX16 336 "TimeMachineModel$Machine" "met" "I", Cond.fieldLink RX16 42 "TimeMachineModel$Machine" "x" "[I", Cond.fieldLink RX16 232 "TimeMachineModel$Machine" "p" "I"] ++ (u_ws RX16 TX16 56 ++ []))
theorem gd_dm_X16_become : ∀ w ∈ ow_dm_X16_become, (w.onTables && w.keeps) = true ∨ ∃ ty, w = Cond.arrayClass ty := List.forall_mem_cons.mpr ⟨good_of_word rfl, List.forall_mem_append.mpr ⟨fun w h => good_of_word (List.all_eq_true.mp (by decide +kernel) w h), List.forall_mem_append.mpr ⟨gu_X16, fun _ h => nomatch h⟩⟩⟩
theorem hi_dm_X16_become_X16 : ∀ w ∈ u_ws RX16 TX16 56, w ∈ ow_dm_X16_become := fun w h => List.mem_cons_of_mem _ (List.mem_append_right _ (List.mem_append_left _ h))
def dj_X16_become_26 (p : Program) (l : Launch) (e : Env) (s : State) (m : MethodId) (args : Array Value) (below : List Frame) (meth : Method) (c : Code) (Q : State → Prop) (A : Nat → Prop) (dC : Nat → ClassId) (dI : Nat → Nat → Nat) (a : Nat → Nat) (ac : Nat → ClassId) (g : (St × (St)) → Option (St × (St))) (r : St × (St)) : Prop := ∀ (s0 : St × (St)) (H : Heap) (locs : List Loc) (ls : Array Slot), g s0 = some r → va_P (dC, dI) vwCl (dw_X16 a ac s0) H → va_D A (dw_X16 a ac s0) → va_S A s.heap H locs → lv_has ls 3 [] → W p l e (headSpec ow_dm_X16_become ({ frames := 0, cells := 0, slots := 0, locals := 0 })).room s m args below meth c H locs 0 0 Q (F0 m 26 ls [])
def dj_X16_become_0 (p : Program) (l : Launch) (e : Env) (s : State) (m : MethodId) (args : Array Value) (below : List Frame) (meth : Method) (c : Code) (Q : State → Prop) (A : Nat → Prop) (dC : Nat → ClassId) (dI : Nat → Nat → Nat) (a : Nat → Nat) (ac : Nat → ClassId) (g : Int32 → Int32 → (St × (St)) → Option (St × (St))) (r : St × (St)) : Prop := ∀ (v0 : Int32) (v1 : Int32) (s0 : St × (St)) (H : Heap) (locs : List Loc) (ls : Array Slot), g v0 v1 s0 = some r → va_P (dC, dI) vwCl (dw_X16 a ac s0) H → va_D A (dw_X16 a ac s0) → va_S A s.heap H locs → lv_has ls 3 [(0, .ref (a 0)), (1, .int v0), (2, .int v1)] → W p l e (headSpec ow_dm_X16_become ({ frames := 0, cells := 0, slots := 0, locals := 0 })).room s m args below meth c H locs 0 0 Q (F0 m 0 ls [])
set_option maxHeartbeats 40000000 in
set_option maxRecDepth 100000 in
theorem db_X16_become_26 {p : Program} {l : Launch} {e : Env} {s : State} {m : MethodId} {args : Array Value} {below : List Frame} {meth : Method} {c : Code} {Q : State → Prop} {A : Nat → Prop} {dC : Nat → ClassId} {dI : Nat → Nat → Nat} {a : Nat → Nat} {ac : Nat → ClassId} {n : Nat} {r : St × (St)} (C : nd_C p l s m args c A (dC, dI) cX16_become 3 RX16 ow_dm_X16_become (dk_X16 ac)) (K : nd_Kv p l e (headSpec ow_dm_X16_become ({ frames := 0, cells := 0, slots := 0, locals := 0 })).room s m args below meth c Q A (dC, dI) cX16_become (St × (St)) (dw_X16 a ac) r) : dj_X16_become_26 p l e s m args below meth c Q A dC dI a ac (df_X16_become_26 n) r := by
  obtain ⟨hlt, hx, hb, hml, hown, hts, hN, hA, hK⟩ := id C
  intro s0 H locs ls h hP hD hS hl
  unfold df_X16_become_26 at h
  exact K _ _ _ _ _ dX16_become_26 (Option.some.inj h).symm hP hD hS
set_option maxHeartbeats 40000000 in
set_option maxRecDepth 100000 in
theorem db_X16_become_0 {p : Program} {l : Launch} {e : Env} {s : State} {m : MethodId} {args : Array Value} {below : List Frame} {meth : Method} {c : Code} {Q : State → Prop} {A : Nat → Prop} {dC : Nat → ClassId} {dI : Nat → Nat → Nat} {a : Nat → Nat} {ac : Nat → ClassId} {n : Nat} {r : St × (St)} (C : nd_C p l s m args c A (dC, dI) cX16_become 3 RX16 ow_dm_X16_become (dk_X16 ac)) (K : nd_Kv p l e (headSpec ow_dm_X16_become ({ frames := 0, cells := 0, slots := 0, locals := 0 })).room s m args below meth c Q A (dC, dI) cX16_become (St × (St)) (dw_X16 a ac) r) : dj_X16_become_0 p l e s m args below meth c Q A dC dI a ac (df_X16_become_0 n) r := by
  obtain ⟨hlt, hx, hb, hml, hown, hts, hN, hA, hK⟩ := id C
  intro v0 v1 s0 H locs ls h hP hD hS hl
  unfold df_X16_become_0 at h
  refine lv_aload_n hx hb dX16_become_0 rfl (lv_at hl 0 rfl) ?_
  refine va_get (D := (dC, dI)) (ci := 17) (v := .int (sI s0.1 11)) (C := RX16) (T := TX16) (N := 56) hx hb hts hi_dm_X16_become_X16 hown hK hP 0 rfl rfl 50 (by decide) (hts (.fieldLink RX16 336 "TimeMachineModel$Machine" "met" "I") (List.mem_of_getElem? (i := 1) rfl)) (fun _ h9 => h9) rfl dX16_become_1 ?_
  refine lv_if_ne (tgt := 26) hx hb dX16_become_4 (by decide) (fun c1 => ?_) (fun c1 => ?_)
  · have h := nd_neg h c1
    exact (db_X16_become_26 C K)  s0 _ _ _ h hP hD hS (lv_sub hl [] rfl)
  · have h := nd_pos h c1
    refine lv_iload_n hx hb dX16_become_7 rfl (lv_at hl 1 rfl) ?_
    refine lv_if_le (tgt := 26) hx hb dX16_become_8 (by decide) (fun c2 => ?_) (fun c2 => ?_)
    · have h := nd_pos h c2
      exact (db_X16_become_26 C K)  s0 _ _ _ h hP hD hS (lv_sub hl [] rfl)
    · have h := nd_neg h c2
      refine lv_aload_n hx hb dX16_become_11 rfl (lv_at hl 0 rfl) ?_
      refine va_get (D := (dC, dI)) (ci := 17) (v := .ref (a 11)) (C := RX16) (T := TX16) (N := 56) hx hb hts hi_dm_X16_become_X16 hown hK hP 0 rfl rfl 19 (by decide) (hts (.fieldLink RX16 42 "TimeMachineModel$Machine" "x" "[I") (List.mem_of_getElem? (i := 2) rfl)) (fun _ h9 => h9) rfl dX16_become_12 ?_
      refine lv_bipush (v := 32) hx hb dX16_become_15 (by decide) ?_
      refine lv_aload_n hx hb dX16_become_17 rfl (lv_at hl 0 rfl) ?_
      refine va_get (D := (dC, dI)) (ci := 17) (v := .int (sI s0.1 12)) (C := RX16) (T := TX16) (N := 56) hx hb hts hi_dm_X16_become_X16 hown hK hP 0 rfl rfl 51 (by decide) (hts (.fieldLink RX16 232 "TimeMachineModel$Machine" "p" "I") (List.mem_of_getElem? (i := 3) rfl)) (fun _ h9 => h9) rfl dX16_become_18 ?_
      refine lv_imul hx hb dX16_become_21 ?_
      refine lv_iload_n hx hb dX16_become_22 rfl (lv_at hl 1 rfl) ?_
      refine lv_iadd hx hb dX16_become_23 ?_
      refine lv_iload_n hx hb dX16_become_24 rfl (lv_at hl 2 rfl) ?_
      obtain ⟨i3, h⟩ := nd_ck_e h
      refine va_iast (i := ((32 * (sI s0.1 12)) + v0)) (x := v1) hx hb hK hP hD hS 11 10 rfl rfl i3 dX16_become_25 (fun H locs hP hD hS => ?_)
      obtain ⟨s4, es4, h⟩ := nd_let_e h
      have hP : va_P (dC, dI) vwCl (dw_X16 a ac s4) H := by rw [es4]; exact hP
      have hD : va_D A (dw_X16 a ac s4) := by rw [es4]; exact hD
      exact (db_X16_become_26 C K)  s4 _ _ _ h hP hD hS (lv_sub hl [] rfl)
set_option maxHeartbeats 40000000 in
set_option maxRecDepth 100000 in
theorem dm_X16_become (l : Launch) (hlt : l.stackTraces = false) (dC : Nat → ClassId) (dI : Nat → Nat → Nat) (a : Nat → Nat) (ac : Nat → ClassId) (n : Nat) (v0 : Int32) (v1 : Int32) (s0 : St × (St)) {r : St × (St)} (h : df_X16_become n v0 v1 s0 = some r) (sz : Nat) : Met l yX16_become ow_dm_X16_become ({ frames := 0, cells := 0, slots := 0, locals := 0 }) (va_Pc [.ref (a 0), .int v0, .int v1] (fun U => U.heap.size = sz ∧ va_P (dC, dI) vwCl (dw_X16 a ac s0) U.heap ∧ va_K (dC, dI) vwCl (dk_X16 ac) U ∧ va_D (fun _ => True) (dw_X16 a ac s0) ∧ nv_E dI (va_A (dw_X16 a ac s0) sz) U)) (va_Qv (fun _ => True) (fun (_ : Unit) t => va_P (dC, dI) vwCl (dw_X16 a ac r) t.heap ∧ va_K (dC, dI) vwCl (dk_X16 ac) t ∧ va_D (va_A (dw_X16 a ac s0) sz) (dw_X16 a ac r)) (va_A (dw_X16 a ac s0) sz)) 0 0 (va_A (dw_X16 a ac s0) sz) := by
  refine Met.ofW (cc := cX16_become) (maxL := 3) (ret := none) (by decide) rfl ?_
  intro p e s m args below meth c s₁ B hml hv
  obtain ⟨rfl, hsz, hP, hK, hD0, hN⟩ := hv
  have hx := B.exec
  have hb := B.bytes
  have hr := B.returns
  have hts := atoms_spec (ws := ow_dm_X16_become) B.pre
  have hown : s.vm.findClass RX16 = some m.cls := findClass_of_methodNamed B.named
  have hlocks := B.notSynchronized
  subst hsz
  have hD := hD0.self (sz := s.heap.size)
  generalize hAe : va_A (dw_X16 a ac s0) s.heap.size = A at hD hN ⊢
  have hA : ∀ q : Nat, s.heap.size ≤ q → A q := fun q h => by rw [← hAe]; exact Or.inr h
  have hl := lv_entry ([.ref (a 0), .int v0, .int v1]) (n := 3) (Nat.le_of_ble_eq_true rfl)
  rw [lg_entry_eq]
  generalize (lg_sl ([.ref (a 0), .int v0, .int v1]) ++ List.replicate (3 - (lg_sl ([.ref (a 0), .int v0, .int v1])).length) Slot.unset).toArray = ls at hl ⊢
  have hl : lv_has ls 3 [(0, .ref (a 0)), (1, .int v0), (2, .int v1)] := hl
  exact db_X16_become_0 (dC := dC) (dI := dI) (a := a) (ac := ac) (n := n) (r := r) ⟨hlt, hx, hb, hml, hown, hts, hN, hA, hK⟩ (fun pc τ H locs ls d er hP hD hS => by subst er; exact W.vret hx hb hr (fun t ht hW => ⟨⟨(), rfl, trivial, by rw [ht]; exact hP, va_K.moved hW.alike hK, hD⟩, hS.F ht⟩) hS.2.2 d) v0 v1 s0 _ _ _ h hP hD va_S.rf (lv_sub hl [0, 1, 2] rfl)
def ow_dm_X16_shifted : List Cond := Cond.code yX16_shifted cX16_shifted 5 (some .int) :: ([Cond.methodLink RX16 356 yX16_illegal, Cond.instanceMethod yX16_illegal, Cond.selects RX16 yX16_illegal yX16_illegal, Cond.initialized RX16] ++ (ow_dm_X16_illegal ++ []))
theorem gd_dm_X16_shifted : ∀ w ∈ ow_dm_X16_shifted, (w.onTables && w.keeps) = true ∨ ∃ ty, w = Cond.arrayClass ty := List.forall_mem_cons.mpr ⟨good_of_word rfl, List.forall_mem_append.mpr ⟨fun w h => good_of_word (List.all_eq_true.mp (by decide +kernel) w h), List.forall_mem_append.mpr ⟨gd_dm_X16_illegal, fun _ h => nomatch h⟩⟩⟩
theorem gi_dm_X16_shifted_0 : GoodIn ow_dm_X16_shifted (wsV RX16 356 RX16 yX16_illegal ow_dm_X16_illegal) := goodIn_app (goodIn_of _ (by decide +kernel)) (fun w h => ⟨List.mem_cons_of_mem _ (List.mem_append_right _ (List.mem_append_left _ h)), gd_dm_X16_illegal w h⟩)
def dj_X16_shifted_50 (p : Program) (l : Launch) (e : Env) (s : State) (m : MethodId) (args : Array Value) (below : List Frame) (meth : Method) (c : Code) (Q : State → Prop) (A : Nat → Prop) (dC : Nat → ClassId) (dI : Nat → Nat → Nat) (a : Nat → Nat) (ac : Nat → ClassId) (g : Int32 → (St × (St)) → Option (Int32 × (St × (St)))) (r : Int32 × (St × (St))) : Prop := ∀ (y0 : Int32) (s0 : St × (St)) (H : Heap) (locs : List Loc) (ls : Array Slot), g y0 s0 = some r → va_P (dC, dI) vwCl (dw_X16 a ac s0) H → va_D A (dw_X16 a ac s0) → va_S A s.heap H locs → lv_has ls 5 [] → W p l e (headSpec ow_dm_X16_shifted ({ frames := 2, cells := 0, slots := 0, locals := 41 })).room s m args below meth c H locs 0 0 Q (F0 m 50 ls [.int y0])
def dj_X16_shifted_46 (p : Program) (l : Launch) (e : Env) (s : State) (m : MethodId) (args : Array Value) (below : List Frame) (meth : Method) (c : Code) (Q : State → Prop) (A : Nat → Prop) (dC : Nat → ClassId) (dI : Nat → Nat → Nat) (a : Nat → Nat) (ac : Nat → ClassId) (g : (St × (St)) → Option (Int32 × (St × (St)))) (r : Int32 × (St × (St))) : Prop := ∀ (s0 : St × (St)) (H : Heap) (locs : List Loc) (ls : Array Slot), g s0 = some r → va_P (dC, dI) vwCl (dw_X16 a ac s0) H → va_D A (dw_X16 a ac s0) → va_S A s.heap H locs → lv_has ls 5 [(0, .ref (a 0))] → W p l e (headSpec ow_dm_X16_shifted ({ frames := 2, cells := 0, slots := 0, locals := 41 })).room s m args below meth c H locs 0 0 Q (F0 m 46 ls [])
def dj_X16_shifted_28 (p : Program) (l : Launch) (e : Env) (s : State) (m : MethodId) (args : Array Value) (below : List Frame) (meth : Method) (c : Code) (Q : State → Prop) (A : Nat → Prop) (dC : Nat → ClassId) (dI : Nat → Nat → Nat) (a : Nat → Nat) (ac : Nat → ClassId) (g : Int32 → Int32 → Int32 → Int32 → (St × (St)) → Option (Int32 × (St × (St)))) (r : Int32 × (St × (St))) : Prop := ∀ (x1 : Int32) (x2 : Int32) (x3 : Int32) (x4 : Int32) (s0 : St × (St)) (H : Heap) (locs : List Loc) (ls : Array Slot), g x1 x2 x3 x4 s0 = some r → va_P (dC, dI) vwCl (dw_X16 a ac s0) H → va_D A (dw_X16 a ac s0) → va_S A s.heap H locs → lv_has ls 5 [(0, .ref (a 0)), (1, .int x1), (2, .int x2), (3, .int x3), (4, .int x4)] → W p l e (headSpec ow_dm_X16_shifted ({ frames := 2, cells := 0, slots := 0, locals := 41 })).room s m args below meth c H locs 0 0 Q (F0 m 28 ls [])
def dj_X16_shifted_14 (p : Program) (l : Launch) (e : Env) (s : State) (m : MethodId) (args : Array Value) (below : List Frame) (meth : Method) (c : Code) (Q : State → Prop) (A : Nat → Prop) (dC : Nat → ClassId) (dI : Nat → Nat → Nat) (a : Nat → Nat) (ac : Nat → ClassId) (g : Int32 → Int32 → Int32 → Int32 → (St × (St)) → Option (Int32 × (St × (St)))) (r : Int32 × (St × (St))) : Prop := ∀ (x1 : Int32) (x2 : Int32) (x3 : Int32) (x4 : Int32) (s0 : St × (St)) (H : Heap) (locs : List Loc) (ls : Array Slot), g x1 x2 x3 x4 s0 = some r → va_P (dC, dI) vwCl (dw_X16 a ac s0) H → va_D A (dw_X16 a ac s0) → va_S A s.heap H locs → lv_has ls 5 [(0, .ref (a 0)), (1, .int x1), (2, .int x2), (3, .int x3), (4, .int x4)] → W p l e (headSpec ow_dm_X16_shifted ({ frames := 2, cells := 0, slots := 0, locals := 41 })).room s m args below meth c H locs 0 0 Q (F0 m 14 ls [])
def dj_X16_shifted_0 (p : Program) (l : Launch) (e : Env) (s : State) (m : MethodId) (args : Array Value) (below : List Frame) (meth : Method) (c : Code) (Q : State → Prop) (A : Nat → Prop) (dC : Nat → ClassId) (dI : Nat → Nat → Nat) (a : Nat → Nat) (ac : Nat → ClassId) (g : Int32 → Int32 → Int32 → Int32 → (St × (St)) → Option (Int32 × (St × (St)))) (r : Int32 × (St × (St))) : Prop := ∀ (v0 : Int32) (v1 : Int32) (v2 : Int32) (v3 : Int32) (s0 : St × (St)) (H : Heap) (locs : List Loc) (ls : Array Slot), g v0 v1 v2 v3 s0 = some r → va_P (dC, dI) vwCl (dw_X16 a ac s0) H → va_D A (dw_X16 a ac s0) → va_S A s.heap H locs → lv_has ls 5 [(0, .ref (a 0)), (1, .int v0), (2, .int v1), (3, .int v2), (4, .int v3)] → W p l e (headSpec ow_dm_X16_shifted ({ frames := 2, cells := 0, slots := 0, locals := 41 })).room s m args below meth c H locs 0 0 Q (F0 m 0 ls [])
set_option maxHeartbeats 40000000 in
set_option maxRecDepth 100000 in
theorem db_X16_shifted_50 {p : Program} {l : Launch} {e : Env} {s : State} {m : MethodId} {args : Array Value} {below : List Frame} {meth : Method} {c : Code} {Q : State → Prop} {A : Nat → Prop} {dC : Nat → ClassId} {dI : Nat → Nat → Nat} {a : Nat → Nat} {ac : Nat → ClassId} {n : Nat} {r : Int32 × (St × (St))} (C : nd_C p l s m args c A (dC, dI) cX16_shifted 5 RX16 ow_dm_X16_shifted (dk_X16 ac)) (K : nd_Ki p l e (headSpec ow_dm_X16_shifted ({ frames := 2, cells := 0, slots := 0, locals := 41 })).room s m args below meth c Q A (dC, dI) cX16_shifted .int (St × (St)) (dw_X16 a ac) r) : dj_X16_shifted_50 p l e s m args below meth c Q A dC dI a ac (df_X16_shifted_50 n) r := by
  obtain ⟨hlt, hx, hb, hml, hown, hts, hN, hA, hK⟩ := id C
  intro y0 s0 H locs ls h hP hD hS hl
  unfold df_X16_shifted_50 at h
  exact K _ _ _ _ _ _ dX16_shifted_50 rfl (Option.some.inj h).symm hP hD hS
set_option maxHeartbeats 40000000 in
set_option maxRecDepth 100000 in
theorem db_X16_shifted_46 {p : Program} {l : Launch} {e : Env} {s : State} {m : MethodId} {args : Array Value} {below : List Frame} {meth : Method} {c : Code} {Q : State → Prop} {A : Nat → Prop} {dC : Nat → ClassId} {dI : Nat → Nat → Nat} {a : Nat → Nat} {ac : Nat → ClassId} {n : Nat} {r : Int32 × (St × (St))} (C : nd_C p l s m args c A (dC, dI) cX16_shifted 5 RX16 ow_dm_X16_shifted (dk_X16 ac)) (K : nd_Ki p l e (headSpec ow_dm_X16_shifted ({ frames := 2, cells := 0, slots := 0, locals := 41 })).room s m args below meth c Q A (dC, dI) cX16_shifted .int (St × (St)) (dw_X16 a ac) r) : dj_X16_shifted_46 p l e s m args below meth c Q A dC dI a ac (df_X16_shifted_46 n) r := by
  obtain ⟨hlt, hx, hb, hml, hown, hts, hN, hA, hK⟩ := id C
  intro s0 H locs ls h hP hD hS hl
  unfold df_X16_shifted_46 at h
  refine lv_aload_n hx hb dX16_shifted_46 rfl (lv_at hl 0 rfl) ?_
  obtain ⟨q4, s5, hq, h⟩ := nd_b2_e h
  have hPc := hP
  have hDc := hD
  have hKc := hK
  have hFc := nd_rs hD hS hA
  refine nd_cVi (As := []) (rest := []) (q := q4) (w' := dw_X16 a ac s5) ⟨hx, hb, hml, hown, hts⟩ (fun sz => dm_X16_illegal l hlt dC dI a ac n  s0 hq sz) (cwV 0 hts gi_dm_X16_shifted_0 rfl rfl rfl (by decide +kernel) ⟨Nat.le_of_ble_eq_true rfl, Nat.le_of_ble_eq_true rfl⟩) hPc hDc hKc hS hA hN (va_recv hKc hPc (ci := 17) (q0 := 0) rfl rfl) rfl hl.1 rfl (Nat.le_of_ble_eq_true rfl) dX16_shifted_47 (fun H locs hP1 hD1 hk1 hS => ?_)
  have hP := hP1
  have hD := hD1.weaken (fun k q _ h => hFc q.1 h)
  exact (db_X16_shifted_50 C K) (q4) s5 _ _ _ h hP hD hS (lv_sub hl [] rfl)
set_option maxHeartbeats 40000000 in
set_option maxRecDepth 100000 in
theorem db_X16_shifted_28 {p : Program} {l : Launch} {e : Env} {s : State} {m : MethodId} {args : Array Value} {below : List Frame} {meth : Method} {c : Code} {Q : State → Prop} {A : Nat → Prop} {dC : Nat → ClassId} {dI : Nat → Nat → Nat} {a : Nat → Nat} {ac : Nat → ClassId} {n : Nat} {r : Int32 × (St × (St))} (C : nd_C p l s m args c A (dC, dI) cX16_shifted 5 RX16 ow_dm_X16_shifted (dk_X16 ac)) (K : nd_Ki p l e (headSpec ow_dm_X16_shifted ({ frames := 2, cells := 0, slots := 0, locals := 41 })).room s m args below meth c Q A (dC, dI) cX16_shifted .int (St × (St)) (dw_X16 a ac) r) : dj_X16_shifted_28 p l e s m args below meth c Q A dC dI a ac (df_X16_shifted_28 n) r := by
  obtain ⟨hlt, hx, hb, hml, hown, hts, hN, hA, hK⟩ := id C
  intro x1 x2 x3 x4 s0 H locs ls h hP hD hS hl
  unfold df_X16_shifted_28 at h
  refine lv_iload_n hx hb dX16_shifted_28 rfl (lv_at hl 1 rfl) ?_
  refine lv_iconst (v := 5) hx hb dX16_shifted_29 (by decide) ?_
  refine lv_icmp_ne (tgt := 46) hx hb dX16_shifted_30 (by decide) (fun c3 => ?_) (fun c3 => ?_)
  · have h := nd_neg h c3
    exact (db_X16_shifted_46 C K)  s0 _ _ _ h hP hD hS (lv_sub hl [0] rfl)
  · have h := nd_pos h c3
    refine lv_iload_n hx hb dX16_shifted_33 rfl (lv_at hl 2 rfl) ?_
    refine lv_bipush (v := 32) hx hb dX16_shifted_34 (by decide) ?_
    refine lv_icmp_ne (tgt := 46) hx hb dX16_shifted_36 (by decide) (fun c7 => ?_) (fun c7 => ?_)
    · have h := nd_neg h c7
      exact (db_X16_shifted_46 C K)  s0 _ _ _ h hP hD hS (lv_sub hl [0] rfl)
    · have h := nd_pos h c7
      refine lv_iload_n hx hb dX16_shifted_39 rfl (lv_at hl 3 rfl) ?_
      refine lv_iload hx hb dX16_shifted_40 (lv_at hl 4 rfl) ?_
      refine lv_ishr hx hb dX16_shifted_42 ?_
      refine lv_goto (tgt := 50) hx hb dX16_shifted_43 (by decide) ?_
      exact (db_X16_shifted_50 C K) (((x3 : Int32) >>> ((x4 : Int32) &&& 31))) s0 _ _ _ h hP hD hS (lv_sub hl [] rfl)
set_option maxHeartbeats 40000000 in
set_option maxRecDepth 100000 in
theorem db_X16_shifted_14 {p : Program} {l : Launch} {e : Env} {s : State} {m : MethodId} {args : Array Value} {below : List Frame} {meth : Method} {c : Code} {Q : State → Prop} {A : Nat → Prop} {dC : Nat → ClassId} {dI : Nat → Nat → Nat} {a : Nat → Nat} {ac : Nat → ClassId} {n : Nat} {r : Int32 × (St × (St))} (C : nd_C p l s m args c A (dC, dI) cX16_shifted 5 RX16 ow_dm_X16_shifted (dk_X16 ac)) (K : nd_Ki p l e (headSpec ow_dm_X16_shifted ({ frames := 2, cells := 0, slots := 0, locals := 41 })).room s m args below meth c Q A (dC, dI) cX16_shifted .int (St × (St)) (dw_X16 a ac) r) : dj_X16_shifted_14 p l e s m args below meth c Q A dC dI a ac (df_X16_shifted_14 n) r := by
  obtain ⟨hlt, hx, hb, hml, hown, hts, hN, hA, hK⟩ := id C
  intro x1 x2 x3 x4 s0 H locs ls h hP hD hS hl
  unfold df_X16_shifted_14 at h
  refine lv_iload_n hx hb dX16_shifted_14 rfl (lv_at hl 1 rfl) ?_
  refine lv_iconst (v := 5) hx hb dX16_shifted_15 (by decide) ?_
  refine lv_icmp_ne (tgt := 28) hx hb dX16_shifted_16 (by decide) (fun c2 => ?_) (fun c2 => ?_)
  · have h := nd_neg h c2
    exact (db_X16_shifted_28 C K) (x1) (x2) (x3) (x4) s0 _ _ _ h hP hD hS (lv_sub hl [0, 1, 2, 3, 4] rfl)
  · have h := nd_pos h c2
    refine lv_iload_n hx hb dX16_shifted_19 rfl (lv_at hl 2 rfl) ?_
    refine lv_if_ne (tgt := 28) hx hb dX16_shifted_20 (by decide) (fun c8 => ?_) (fun c8 => ?_)
    · have h := nd_neg h c8
      exact (db_X16_shifted_28 C K) (x1) (x2) (x3) (x4) s0 _ _ _ h hP hD hS (lv_sub hl [0, 1, 2, 3, 4] rfl)
    · have h := nd_pos h c8
      refine lv_iload_n hx hb dX16_shifted_23 rfl (lv_at hl 3 rfl) ?_
      refine lv_iload hx hb dX16_shifted_24 (lv_at hl 4 rfl) ?_
      refine lv_iushr hx hb dX16_shifted_26 rfl ?_
      exact K _ _ _ _ _ _ dX16_shifted_27 rfl (Option.some.inj h).symm hP hD hS
set_option maxHeartbeats 40000000 in
set_option maxRecDepth 100000 in
theorem db_X16_shifted_0 {p : Program} {l : Launch} {e : Env} {s : State} {m : MethodId} {args : Array Value} {below : List Frame} {meth : Method} {c : Code} {Q : State → Prop} {A : Nat → Prop} {dC : Nat → ClassId} {dI : Nat → Nat → Nat} {a : Nat → Nat} {ac : Nat → ClassId} {n : Nat} {r : Int32 × (St × (St))} (C : nd_C p l s m args c A (dC, dI) cX16_shifted 5 RX16 ow_dm_X16_shifted (dk_X16 ac)) (K : nd_Ki p l e (headSpec ow_dm_X16_shifted ({ frames := 2, cells := 0, slots := 0, locals := 41 })).room s m args below meth c Q A (dC, dI) cX16_shifted .int (St × (St)) (dw_X16 a ac) r) : dj_X16_shifted_0 p l e s m args below meth c Q A dC dI a ac (df_X16_shifted_0 n) r := by
  obtain ⟨hlt, hx, hb, hml, hown, hts, hN, hA, hK⟩ := id C
  intro v0 v1 v2 v3 s0 H locs ls h hP hD hS hl
  unfold df_X16_shifted_0 at h
  refine lv_iload_n hx hb dX16_shifted_0 rfl (lv_at hl 1 rfl) ?_
  refine lv_iconst (v := 1) hx hb dX16_shifted_1 (by decide) ?_
  refine lv_icmp_ne (tgt := 14) hx hb dX16_shifted_2 (by decide) (fun c1 => ?_) (fun c1 => ?_)
  · have h := nd_neg h c1
    exact (db_X16_shifted_14 C K) (v0) (v1) (v2) (v3) s0 _ _ _ h hP hD hS (lv_sub hl [0, 1, 2, 3, 4] rfl)
  · have h := nd_pos h c1
    refine lv_iload_n hx hb dX16_shifted_5 rfl (lv_at hl 2 rfl) ?_
    refine lv_if_ne (tgt := 14) hx hb dX16_shifted_6 (by decide) (fun c9 => ?_) (fun c9 => ?_)
    · have h := nd_neg h c9
      exact (db_X16_shifted_14 C K) (v0) (v1) (v2) (v3) s0 _ _ _ h hP hD hS (lv_sub hl [0, 1, 2, 3, 4] rfl)
    · have h := nd_pos h c9
      refine lv_iload_n hx hb dX16_shifted_9 rfl (lv_at hl 3 rfl) ?_
      refine lv_iload hx hb dX16_shifted_10 (lv_at hl 4 rfl) ?_
      refine lv_ishl hx hb dX16_shifted_12 ?_
      exact K _ _ _ _ _ _ dX16_shifted_13 rfl (Option.some.inj h).symm hP hD hS
set_option maxHeartbeats 40000000 in
set_option maxRecDepth 100000 in
theorem dm_X16_shifted (l : Launch) (hlt : l.stackTraces = false) (dC : Nat → ClassId) (dI : Nat → Nat → Nat) (a : Nat → Nat) (ac : Nat → ClassId) (n : Nat) (v0 : Int32) (v1 : Int32) (v2 : Int32) (v3 : Int32) (s0 : St × (St)) {r : Int32 × (St × (St))} (h : df_X16_shifted n v0 v1 v2 v3 s0 = some r) (sz : Nat) : Met l yX16_shifted ow_dm_X16_shifted ({ frames := 2, cells := 0, slots := 0, locals := 41 }) (va_Pc [.ref (a 0), .int v0, .int v1, .int v2, .int v3] (fun U => U.heap.size = sz ∧ va_P (dC, dI) vwCl (dw_X16 a ac s0) U.heap ∧ va_K (dC, dI) vwCl (dk_X16 ac) U ∧ va_D (fun _ => True) (dw_X16 a ac s0) ∧ nv_E dI (va_A (dw_X16 a ac s0) sz) U)) (va_Qi (fun x _ => x = r.1) (fun (_ : Unit) t => va_P (dC, dI) vwCl (dw_X16 a ac r.2) t.heap ∧ va_K (dC, dI) vwCl (dk_X16 ac) t ∧ va_D (va_A (dw_X16 a ac s0) sz) (dw_X16 a ac r.2)) (va_A (dw_X16 a ac s0) sz)) 0 0 (va_A (dw_X16 a ac s0) sz) := by
  refine Met.ofW (cc := cX16_shifted) (maxL := 5) (ret := (some .int)) (by decide) rfl ?_
  intro p e s m args below meth c s₁ B hml hv
  obtain ⟨rfl, hsz, hP, hK, hD0, hN⟩ := hv
  have hx := B.exec
  have hb := B.bytes
  have hr := B.returns
  have hts := atoms_spec (ws := ow_dm_X16_shifted) B.pre
  have hown : s.vm.findClass RX16 = some m.cls := findClass_of_methodNamed B.named
  have hlocks := B.notSynchronized
  subst hsz
  have hD := hD0.self (sz := s.heap.size)
  generalize hAe : va_A (dw_X16 a ac s0) s.heap.size = A at hD hN ⊢
  have hA : ∀ q : Nat, s.heap.size ≤ q → A q := fun q h => by rw [← hAe]; exact Or.inr h
  have hl := lv_entry ([.ref (a 0), .int v0, .int v1, .int v2, .int v3]) (n := 5) (Nat.le_of_ble_eq_true rfl)
  rw [lg_entry_eq]
  generalize (lg_sl ([.ref (a 0), .int v0, .int v1, .int v2, .int v3]) ++ List.replicate (5 - (lg_sl ([.ref (a 0), .int v0, .int v1, .int v2, .int v3])).length) Slot.unset).toArray = ls at hl ⊢
  have hl : lv_has ls 5 [(0, .ref (a 0)), (1, .int v0), (2, .int v1), (3, .int v2), (4, .int v3)] := hl
  exact db_X16_shifted_0 (dC := dC) (dI := dI) (a := a) (ac := ac) (n := n) (r := r) ⟨hlt, hx, hb, hml, hown, hts, hN, hA, hK⟩ (fun pc v τ H locs ls d z er hP hD hS => by subst er; exact W.zret (v := v) hx hb hr z (fun t ht hW => ⟨⟨v, (), rfl, rfl, by rw [ht]; exact hP, va_K.moved hW.alike hK, hD⟩, hS.F ht⟩) hS.2.2 d) v0 v1 v2 v3 s0 _ _ _ h hP hD va_S.rf (lv_sub hl [0, 1, 2, 3, 4] rfl)
def ow_dm_X16_reckoned : List Cond := Cond.code yX16_reckoned cX16_reckoned 3 (some .int) :: ([Cond.methodLink RX16 390 yX16_plain, Cond.static yX16_plain, Cond.initialized RX16] ++ (ow_dm_X16_plain ++ []))
theorem gd_dm_X16_reckoned : ∀ w ∈ ow_dm_X16_reckoned, (w.onTables && w.keeps) = true ∨ ∃ ty, w = Cond.arrayClass ty := List.forall_mem_cons.mpr ⟨good_of_word rfl, List.forall_mem_append.mpr ⟨fun w h => good_of_word (List.all_eq_true.mp (by decide +kernel) w h), List.forall_mem_append.mpr ⟨gd_dm_X16_plain, fun _ h => nomatch h⟩⟩⟩
theorem gi_dm_X16_reckoned_0 : GoodIn ow_dm_X16_reckoned (wsS RX16 390 yX16_plain ow_dm_X16_plain) := goodIn_app (goodIn_of _ (by decide +kernel)) (fun w h => ⟨List.mem_cons_of_mem _ (List.mem_append_right _ (List.mem_append_left _ h)), gd_dm_X16_plain w h⟩)
def dj_X16_reckoned_85 (p : Program) (l : Launch) (e : Env) (s : State) (m : MethodId) (args : Array Value) (below : List Frame) (meth : Method) (c : Code) (Q : State → Prop) (A : Nat → Prop) (dC : Nat → ClassId) (dI : Nat → Nat → Nat) (a : Nat → Nat) (ac : Nat → ClassId) (g : Int32 → Int32 → (Unit) → Option (Int32 × (Unit))) (r : Int32 × (Unit)) : Prop := ∀ (x1 : Int32) (x2 : Int32) (s0 : Unit) (H : Heap) (locs : List Loc) (ls : Array Slot), g x1 x2 s0 = some r → va_P (dC, dI) vwCl (dw_P a ac s0) H → va_D A (dw_P a ac s0) → va_S A s.heap H locs → lv_has ls 3 [(1, .int x1), (2, .int x2)] → W p l e (headSpec ow_dm_X16_reckoned ({ frames := 1, cells := 0, slots := 0, locals := 20 })).room s m args below meth c H locs 0 0 Q (F0 m 85 ls [])
def dj_X16_reckoned_58 (p : Program) (l : Launch) (e : Env) (s : State) (m : MethodId) (args : Array Value) (below : List Frame) (meth : Method) (c : Code) (Q : State → Prop) (A : Nat → Prop) (dC : Nat → ClassId) (dI : Nat → Nat → Nat) (a : Nat → Nat) (ac : Nat → ClassId) (g : Int32 → (Unit) → Option (Int32 × (Unit))) (r : Int32 × (Unit)) : Prop := ∀ (y0 : Int32) (s0 : Unit) (H : Heap) (locs : List Loc) (ls : Array Slot), g y0 s0 = some r → va_P (dC, dI) vwCl (dw_P a ac s0) H → va_D A (dw_P a ac s0) → va_S A s.heap H locs → lv_has ls 3 [] → W p l e (headSpec ow_dm_X16_reckoned ({ frames := 1, cells := 0, slots := 0, locals := 20 })).room s m args below meth c H locs 0 0 Q (F0 m 58 ls [.int y0])
def dj_X16_reckoned_76 (p : Program) (l : Launch) (e : Env) (s : State) (m : MethodId) (args : Array Value) (below : List Frame) (meth : Method) (c : Code) (Q : State → Prop) (A : Nat → Prop) (dC : Nat → ClassId) (dI : Nat → Nat → Nat) (a : Nat → Nat) (ac : Nat → ClassId) (g : Int32 → (Unit) → Option (Int32 × (Unit))) (r : Int32 × (Unit)) : Prop := ∀ (y0 : Int32) (s0 : Unit) (H : Heap) (locs : List Loc) (ls : Array Slot), g y0 s0 = some r → va_P (dC, dI) vwCl (dw_P a ac s0) H → va_D A (dw_P a ac s0) → va_S A s.heap H locs → lv_has ls 3 [] → W p l e (headSpec ow_dm_X16_reckoned ({ frames := 1, cells := 0, slots := 0, locals := 20 })).room s m args below meth c H locs 0 0 Q (F0 m 76 ls [.int y0])
def dj_X16_reckoned_0 (p : Program) (l : Launch) (e : Env) (s : State) (m : MethodId) (args : Array Value) (below : List Frame) (meth : Method) (c : Code) (Q : State → Prop) (A : Nat → Prop) (dC : Nat → ClassId) (dI : Nat → Nat → Nat) (a : Nat → Nat) (ac : Nat → ClassId) (g : Int32 → Int32 → Int32 → (Unit) → Option (Int32 × (Unit))) (r : Int32 × (Unit)) : Prop := ∀ (v0 : Int32) (v1 : Int32) (v2 : Int32) (s0 : Unit) (H : Heap) (locs : List Loc) (ls : Array Slot), g v0 v1 v2 s0 = some r → va_P (dC, dI) vwCl (dw_P a ac s0) H → va_D A (dw_P a ac s0) → va_S A s.heap H locs → lv_has ls 3 [(0, .int v0), (1, .int v1), (2, .int v2)] → W p l e (headSpec ow_dm_X16_reckoned ({ frames := 1, cells := 0, slots := 0, locals := 20 })).room s m args below meth c H locs 0 0 Q (F0 m 0 ls [])
set_option maxHeartbeats 40000000 in
set_option maxRecDepth 100000 in
theorem db_X16_reckoned_85 {p : Program} {l : Launch} {e : Env} {s : State} {m : MethodId} {args : Array Value} {below : List Frame} {meth : Method} {c : Code} {Q : State → Prop} {A : Nat → Prop} {dC : Nat → ClassId} {dI : Nat → Nat → Nat} {a : Nat → Nat} {ac : Nat → ClassId} {n : Nat} {r : Int32 × (Unit)} (C : nd_C p l s m args c A (dC, dI) cX16_reckoned 3 RX16 ow_dm_X16_reckoned (dk_P ac)) (K : nd_Ki p l e (headSpec ow_dm_X16_reckoned ({ frames := 1, cells := 0, slots := 0, locals := 20 })).room s m args below meth c Q A (dC, dI) cX16_reckoned .int (Unit) (dw_P a ac) r) : dj_X16_reckoned_85 p l e s m args below meth c Q A dC dI a ac (df_X16_reckoned_85 n) r := by
  obtain ⟨hlt, hx, hb, hml, hown, hts, hN, hA, hK⟩ := id C
  intro x1 x2 s0 H locs ls h hP hD hS hl
  unfold df_X16_reckoned_85 at h
  refine lv_iload_n hx hb dX16_reckoned_85 rfl (lv_at hl 0 rfl) ?_
  refine lv_iload_n hx hb dX16_reckoned_86 rfl (lv_at hl 1 rfl) ?_
  refine lv_iand hx hb dX16_reckoned_87 ?_
  exact K _ _ _ _ _ _ dX16_reckoned_88 rfl (Option.some.inj h).symm hP hD hS
set_option maxHeartbeats 40000000 in
set_option maxRecDepth 100000 in
theorem db_X16_reckoned_58 {p : Program} {l : Launch} {e : Env} {s : State} {m : MethodId} {args : Array Value} {below : List Frame} {meth : Method} {c : Code} {Q : State → Prop} {A : Nat → Prop} {dC : Nat → ClassId} {dI : Nat → Nat → Nat} {a : Nat → Nat} {ac : Nat → ClassId} {n : Nat} {r : Int32 × (Unit)} (C : nd_C p l s m args c A (dC, dI) cX16_reckoned 3 RX16 ow_dm_X16_reckoned (dk_P ac)) (K : nd_Ki p l e (headSpec ow_dm_X16_reckoned ({ frames := 1, cells := 0, slots := 0, locals := 20 })).room s m args below meth c Q A (dC, dI) cX16_reckoned .int (Unit) (dw_P a ac) r) : dj_X16_reckoned_58 p l e s m args below meth c Q A dC dI a ac (df_X16_reckoned_58 n) r := by
  obtain ⟨hlt, hx, hb, hml, hown, hts, hN, hA, hK⟩ := id C
  intro y0 s0 H locs ls h hP hD hS hl
  unfold df_X16_reckoned_58 at h
  exact K _ _ _ _ _ _ dX16_reckoned_58 rfl (Option.some.inj h).symm hP hD hS
set_option maxHeartbeats 40000000 in
set_option maxRecDepth 100000 in
theorem db_X16_reckoned_76 {p : Program} {l : Launch} {e : Env} {s : State} {m : MethodId} {args : Array Value} {below : List Frame} {meth : Method} {c : Code} {Q : State → Prop} {A : Nat → Prop} {dC : Nat → ClassId} {dI : Nat → Nat → Nat} {a : Nat → Nat} {ac : Nat → ClassId} {n : Nat} {r : Int32 × (Unit)} (C : nd_C p l s m args c A (dC, dI) cX16_reckoned 3 RX16 ow_dm_X16_reckoned (dk_P ac)) (K : nd_Ki p l e (headSpec ow_dm_X16_reckoned ({ frames := 1, cells := 0, slots := 0, locals := 20 })).room s m args below meth c Q A (dC, dI) cX16_reckoned .int (Unit) (dw_P a ac) r) : dj_X16_reckoned_76 p l e s m args below meth c Q A dC dI a ac (df_X16_reckoned_76 n) r := by
  obtain ⟨hlt, hx, hb, hml, hown, hts, hN, hA, hK⟩ := id C
  intro y0 s0 H locs ls h hP hD hS hl
  unfold df_X16_reckoned_76 at h
  exact K _ _ _ _ _ _ dX16_reckoned_76 rfl (Option.some.inj h).symm hP hD hS
set_option maxHeartbeats 40000000 in
set_option maxRecDepth 100000 in
theorem db_X16_reckoned_0 {p : Program} {l : Launch} {e : Env} {s : State} {m : MethodId} {args : Array Value} {below : List Frame} {meth : Method} {c : Code} {Q : State → Prop} {A : Nat → Prop} {dC : Nat → ClassId} {dI : Nat → Nat → Nat} {a : Nat → Nat} {ac : Nat → ClassId} {n : Nat} {r : Int32 × (Unit)} (C : nd_C p l s m args c A (dC, dI) cX16_reckoned 3 RX16 ow_dm_X16_reckoned (dk_P ac)) (K : nd_Ki p l e (headSpec ow_dm_X16_reckoned ({ frames := 1, cells := 0, slots := 0, locals := 20 })).room s m args below meth c Q A (dC, dI) cX16_reckoned .int (Unit) (dw_P a ac) r) : dj_X16_reckoned_0 p l e s m args below meth c Q A dC dI a ac (df_X16_reckoned_0 n) r := by
  obtain ⟨hlt, hx, hb, hml, hown, hts, hN, hA, hK⟩ := id C
  intro v0 v1 v2 s0 H locs ls h hP hD hS hl
  unfold df_X16_reckoned_0 at h
  refine lv_iload_n hx hb dX16_reckoned_0 rfl (lv_at hl 0 rfl) ?_
  by_cases c1 : v0 = 0
  · have h := nd_pos h c1
    refine lv_tableIn (off := 43) (tgt := 44) hx hb dX16_reckoned_1 (by rw [c1]; decide) (by rw [c1]; decide) (by rw [c1]; decide) (by decide) ?_
    refine lv_iload_n hx hb dX16_reckoned_44 rfl (lv_at hl 1 rfl) ?_
    refine lv_iload_n hx hb dX16_reckoned_45 rfl (lv_at hl 2 rfl) ?_
    refine lv_iadd hx hb dX16_reckoned_46 ?_
    exact K _ _ _ _ _ _ dX16_reckoned_47 rfl (Option.some.inj h).symm hP hD hS
  have h := nd_neg h c1
  by_cases c2 : v0 = 1
  · have h := nd_pos h c2
    refine lv_tableIn (off := 84) (tgt := 85) hx hb dX16_reckoned_1 (by rw [c2]; decide) (by rw [c2]; decide) (by rw [c2]; decide) (by decide) ?_
    exact (db_X16_reckoned_85 C K) (v1) (v2) s0 _ _ _ h hP hD hS (lv_sub hl [1, 2] rfl)
  have h := nd_neg h c2
  by_cases c3 : v0 = 2
  · have h := nd_pos h c3
    refine lv_tableIn (off := 47) (tgt := 48) hx hb dX16_reckoned_1 (by rw [c3]; decide) (by rw [c3]; decide) (by rw [c3]; decide) (by decide) ?_
    refine lv_iload_n hx hb dX16_reckoned_48 rfl (lv_at hl 1 rfl) ?_
    refine lv_iload_n hx hb dX16_reckoned_49 rfl (lv_at hl 2 rfl) ?_
    refine lv_icmp_ge (tgt := 57) hx hb dX16_reckoned_50 (by decide) (fun c4 => ?_) (fun c4 => ?_)
    · have h := nd_pos h c4
      refine lv_iconst (v := 0) hx hb dX16_reckoned_57 (by decide) ?_
      exact (db_X16_reckoned_58 C K) (0) s0 _ _ _ h hP hD hS (lv_sub hl [] rfl)
    · have h := nd_neg h c4
      refine lv_iconst (v := 1) hx hb dX16_reckoned_53 (by decide) ?_
      refine lv_goto (tgt := 58) hx hb dX16_reckoned_54 (by decide) ?_
      exact (db_X16_reckoned_58 C K) (1) s0 _ _ _ h hP hD hS (lv_sub hl [] rfl)
  have h := nd_neg h c3
  by_cases c5 : v0 = 3
  · have h := nd_pos h c5
    refine lv_tableIn (off := 58) (tgt := 59) hx hb dX16_reckoned_1 (by rw [c5]; decide) (by rw [c5]; decide) (by rw [c5]; decide) (by decide) ?_
    refine lv_iload_n hx hb dX16_reckoned_59 rfl (lv_at hl 1 rfl) ?_
    obtain ⟨q6, s7, hq, h⟩ := nd_b2_e h
    have hPc : va_P (dC, dI) vwCl (dw_P a ac ()) H := nd_p0
    have hDc : va_D A (dw_P a ac ()) := nd_d0
    have hKc : va_K (dC, dI) vwCl (dk_P ac) s := nd_y0 hK
    have hFc : ∀ q, va_A (dw_P a ac ()) H.size q → A q := nd_r0 hS hA
    refine nd_cSl (As := [.int v1]) (rest := []) (q := q6) (w' := dw_P a ac s7) ⟨hx, hb, hml, hown, hts⟩ (fun sz => dm_X16_plain l hlt dC dI a ac n (v1) () hq sz) (cwS 1 hts gi_dm_X16_reckoned_0 rfl rfl rfl (by decide +kernel) ⟨Nat.le_of_ble_eq_true rfl, Nat.le_of_ble_eq_true rfl⟩) hPc hDc hKc hS hA hN rfl hl.1 rfl (Nat.le_of_ble_eq_true rfl) dX16_reckoned_60 (fun H locs hP1 hD1 hk1 hS => ?_)
    have hP := nd_n0 hP hk1
    refine lv_iload_n hx hb dX16_reckoned_63 rfl (lv_at hl 2 rfl) ?_
    obtain ⟨q9, s10, hq, h⟩ := nd_b2_e h
    have hPc : va_P (dC, dI) vwCl (dw_P a ac ()) H := nd_p0
    have hDc : va_D A (dw_P a ac ()) := nd_d0
    have hKc : va_K (dC, dI) vwCl (dk_P ac) s := nd_y0 hK
    have hFc : ∀ q, va_A (dw_P a ac ()) H.size q → A q := nd_r0 hS hA
    refine nd_cSl (As := [.int v2]) (rest := [.long q6]) (q := q9) (w' := dw_P a ac s10) ⟨hx, hb, hml, hown, hts⟩ (fun sz => dm_X16_plain l hlt dC dI a ac n (v2) () hq sz) (cwS 1 hts gi_dm_X16_reckoned_0 rfl rfl rfl (by decide +kernel) ⟨Nat.le_of_ble_eq_true rfl, Nat.le_of_ble_eq_true rfl⟩) hPc hDc hKc hS hA hN rfl hl.1 rfl (Nat.le_of_ble_eq_true rfl) dX16_reckoned_64 (fun H locs hP1 hD1 hk1 hS => ?_)
    have hP := nd_n0 hP hk1
    refine W.lcmp hx hb dX16_reckoned_67 ?_
    refine lv_if_ge (tgt := 75) hx hb dX16_reckoned_68 (by decide) (fun c12 => ?_) (fun c12 => ?_)
    · have h := nd_pos h c12
      refine lv_iconst (v := 0) hx hb dX16_reckoned_75 (by decide) ?_
      exact (db_X16_reckoned_76 C K) (0) s0 _ _ _ h hP hD hS (lv_sub hl [] rfl)
    · have h := nd_neg h c12
      refine lv_iconst (v := 1) hx hb dX16_reckoned_71 (by decide) ?_
      refine lv_goto (tgt := 76) hx hb dX16_reckoned_72 (by decide) ?_
      exact (db_X16_reckoned_76 C K) (1) s0 _ _ _ h hP hD hS (lv_sub hl [] rfl)
  have h := nd_neg h c5
  by_cases c13 : v0 = 4
  · have h := nd_pos h c13
    refine lv_tableIn (off := 76) (tgt := 77) hx hb dX16_reckoned_1 (by rw [c13]; decide) (by rw [c13]; decide) (by rw [c13]; decide) (by decide) ?_
    refine lv_iload_n hx hb dX16_reckoned_77 rfl (lv_at hl 1 rfl) ?_
    refine lv_iload_n hx hb dX16_reckoned_78 rfl (lv_at hl 2 rfl) ?_
    refine lv_ixor hx hb dX16_reckoned_79 ?_
    exact K _ _ _ _ _ _ dX16_reckoned_80 rfl (Option.some.inj h).symm hP hD hS
  have h := nd_neg h c13
  by_cases c14 : v0 = 5
  · have h := nd_pos h c14
    refine lv_tableIn (off := 84) (tgt := 85) hx hb dX16_reckoned_1 (by rw [c14]; decide) (by rw [c14]; decide) (by rw [c14]; decide) (by decide) ?_
    exact (db_X16_reckoned_85 C K) (v1) (v2) s0 _ _ _ h hP hD hS (lv_sub hl [1, 2] rfl)
  have h := nd_neg h c14
  by_cases c15 : v0 = 6
  · have h := nd_pos h c15
    refine lv_tableIn (off := 80) (tgt := 81) hx hb dX16_reckoned_1 (by rw [c15]; decide) (by rw [c15]; decide) (by rw [c15]; decide) (by decide) ?_
    refine lv_iload_n hx hb dX16_reckoned_81 rfl (lv_at hl 1 rfl) ?_
    refine lv_iload_n hx hb dX16_reckoned_82 rfl (lv_at hl 2 rfl) ?_
    refine lv_ior hx hb dX16_reckoned_83 ?_
    exact K _ _ _ _ _ _ dX16_reckoned_84 rfl (Option.some.inj h).symm hP hD hS
  have h := nd_neg h c15
  refine lv_tableOut (tgt := 85) hx hb dX16_reckoned_1 (by have g0 := nv_nei c1 (k := 0) (by decide); have g1 := nv_nei c2 (k := 1) (by decide); have g2 := nv_nei c3 (k := 2) (by decide); have g3 := nv_nei c5 (k := 3) (by decide); have g4 := nv_nei c13 (k := 4) (by decide); have g5 := nv_nei c14 (k := 5) (by decide); have g6 := nv_nei c15 (k := 6) (by decide); omega) (by decide) ?_
  exact (db_X16_reckoned_85 C K) (v1) (v2) s0 _ _ _ h hP hD hS (lv_sub hl [1, 2] rfl)
set_option maxHeartbeats 40000000 in
set_option maxRecDepth 100000 in
theorem dm_X16_reckoned (l : Launch) (hlt : l.stackTraces = false) (dC : Nat → ClassId) (dI : Nat → Nat → Nat) (a : Nat → Nat) (ac : Nat → ClassId) (n : Nat) (v0 : Int32) (v1 : Int32) (v2 : Int32) (s0 : Unit) {r : Int32 × (Unit)} (h : df_X16_reckoned n v0 v1 v2 s0 = some r) (sz : Nat) : Met l yX16_reckoned ow_dm_X16_reckoned ({ frames := 1, cells := 0, slots := 0, locals := 20 }) (va_Pc [.int v0, .int v1, .int v2] (fun U => U.heap.size = sz ∧ va_P (dC, dI) vwCl (dw_P a ac s0) U.heap ∧ va_K (dC, dI) vwCl (dk_P ac) U ∧ va_D (fun _ => True) (dw_P a ac s0) ∧ nv_E dI (va_A (dw_P a ac s0) sz) U)) (va_Qi (fun x _ => x = r.1) (fun (_ : Unit) t => va_P (dC, dI) vwCl (dw_P a ac r.2) t.heap ∧ va_K (dC, dI) vwCl (dk_P ac) t ∧ va_D (va_A (dw_P a ac s0) sz) (dw_P a ac r.2)) (va_A (dw_P a ac s0) sz)) 0 0 (va_A (dw_P a ac s0) sz) := by
  refine Met.ofW (cc := cX16_reckoned) (maxL := 3) (ret := (some .int)) (by decide) rfl ?_
  intro p e s m args below meth c s₁ B hml hv
  obtain ⟨rfl, hsz, hP, hK, hD0, hN⟩ := hv
  have hx := B.exec
  have hb := B.bytes
  have hr := B.returns
  have hts := atoms_spec (ws := ow_dm_X16_reckoned) B.pre
  have hown : s.vm.findClass RX16 = some m.cls := findClass_of_methodNamed B.named
  have hlocks := B.notSynchronized
  subst hsz
  have hD := hD0.self (sz := s.heap.size)
  generalize hAe : va_A (dw_P a ac s0) s.heap.size = A at hD hN ⊢
  have hA : ∀ q : Nat, s.heap.size ≤ q → A q := fun q h => by rw [← hAe]; exact Or.inr h
  have hl := lv_entry ([.int v0, .int v1, .int v2]) (n := 3) (Nat.le_of_ble_eq_true rfl)
  rw [lg_entry_eq]
  generalize (lg_sl ([.int v0, .int v1, .int v2]) ++ List.replicate (3 - (lg_sl ([.int v0, .int v1, .int v2])).length) Slot.unset).toArray = ls at hl ⊢
  have hl : lv_has ls 3 [(0, .int v0), (1, .int v1), (2, .int v2)] := hl
  exact db_X16_reckoned_0 (dC := dC) (dI := dI) (a := a) (ac := ac) (n := n) (r := r) ⟨hlt, hx, hb, hml, hown, hts, hN, hA, hK⟩ (fun pc v τ H locs ls d z er hP hD hS => by subst er; exact W.zret (v := v) hx hb hr z (fun t ht hW => ⟨⟨v, (), rfl, rfl, by rw [ht]; exact hP, va_K.moved hW.alike hK, hD⟩, hS.F ht⟩) hS.2.2 d) v0 v1 v2 s0 _ _ _ h hP hD va_S.rf (lv_sub hl [0, 1, 2] rfl)
def ow_dm_X16_stored : List Cond := Cond.code yX16_stored cX16_stored 6 none :: ([Cond.fieldLink RX16 232 "TimeMachineModel$Machine" "p" "I", Cond.methodLink RX16 218 yX16_may, Cond.instanceMethod yX16_may, Cond.selects RX16 yX16_may yX16_may, Cond.initialized RX16, Cond.methodLink RX16 394 yX16_wanted, Cond.instanceMethod yX16_wanted, Cond.selects RX16 yX16_wanted yX16_wanted, Cond.methodLink RX16 397 yX16_hasFrames, Cond.instanceMethod yX16_hasFrames, Cond.selects RX16 yX16_hasFrames yX16_hasFrames, Cond.methodLink RX16 400 yX16_write, Cond.instanceMethod yX16_write, Cond.selects RX16 yX16_write yX16_write, Cond.methodLink RX16 339 yX16_meet, Cond.instanceMethod yX16_meet, Cond.selects RX16 yX16_meet yX16_meet, Cond.methodLink RX16 356 yX16_illegal, Cond.instanceMethod yX16_illegal, Cond.selects RX16 yX16_illegal yX16_illegal] ++ (u_ws RX16 TX16 56 ++ (ow_dm_X16_may ++ (ow_dm_X16_wanted ++ (ow_dm_X16_hasFrames ++ (ow_dm_X16_write ++ (ow_dm_X16_meet ++ (ow_dm_X16_illegal ++ []))))))))
theorem gd_dm_X16_stored : ∀ w ∈ ow_dm_X16_stored, (w.onTables && w.keeps) = true ∨ ∃ ty, w = Cond.arrayClass ty := List.forall_mem_cons.mpr ⟨good_of_word rfl, List.forall_mem_append.mpr ⟨fun w h => good_of_word (List.all_eq_true.mp (by decide +kernel) w h), List.forall_mem_append.mpr ⟨gu_X16, List.forall_mem_append.mpr ⟨gd_dm_X16_may, List.forall_mem_append.mpr ⟨gd_dm_X16_wanted, List.forall_mem_append.mpr ⟨gd_dm_X16_hasFrames, List.forall_mem_append.mpr ⟨gd_dm_X16_write, List.forall_mem_append.mpr ⟨gd_dm_X16_meet, List.forall_mem_append.mpr ⟨gd_dm_X16_illegal, fun _ h => nomatch h⟩⟩⟩⟩⟩⟩⟩⟩⟩
theorem hi_dm_X16_stored_X16 : ∀ w ∈ u_ws RX16 TX16 56, w ∈ ow_dm_X16_stored := fun w h => List.mem_cons_of_mem _ (List.mem_append_right _ (List.mem_append_left _ h))
theorem gi_dm_X16_stored_0 : GoodIn ow_dm_X16_stored (wsV RX16 218 RX16 yX16_may ow_dm_X16_may) := goodIn_app (goodIn_of _ (by decide +kernel)) (fun w h => ⟨List.mem_cons_of_mem _ (List.mem_append_right _ (List.mem_append_right _ (List.mem_append_left _ h))), gd_dm_X16_may w h⟩)
theorem gi_dm_X16_stored_1 : GoodIn ow_dm_X16_stored (wsV RX16 394 RX16 yX16_wanted ow_dm_X16_wanted) := goodIn_app (goodIn_of _ (by decide +kernel)) (fun w h => ⟨List.mem_cons_of_mem _ (List.mem_append_right _ (List.mem_append_right _ (List.mem_append_right _ (List.mem_append_left _ h)))), gd_dm_X16_wanted w h⟩)
theorem gi_dm_X16_stored_2 : GoodIn ow_dm_X16_stored (wsV RX16 397 RX16 yX16_hasFrames ow_dm_X16_hasFrames) := goodIn_app (goodIn_of _ (by decide +kernel)) (fun w h => ⟨List.mem_cons_of_mem _ (List.mem_append_right _ (List.mem_append_right _ (List.mem_append_right _ (List.mem_append_right _ (List.mem_append_left _ h))))), gd_dm_X16_hasFrames w h⟩)
theorem gi_dm_X16_stored_3 : GoodIn ow_dm_X16_stored (wsV RX16 400 RX16 yX16_write ow_dm_X16_write) := goodIn_app (goodIn_of _ (by decide +kernel)) (fun w h => ⟨List.mem_cons_of_mem _ (List.mem_append_right _ (List.mem_append_right _ (List.mem_append_right _ (List.mem_append_right _ (List.mem_append_right _ (List.mem_append_left _ h)))))), gd_dm_X16_write w h⟩)
theorem gi_dm_X16_stored_4 : GoodIn ow_dm_X16_stored (wsV RX16 339 RX16 yX16_meet ow_dm_X16_meet) := goodIn_app (goodIn_of _ (by decide +kernel)) (fun w h => ⟨List.mem_cons_of_mem _ (List.mem_append_right _ (List.mem_append_right _ (List.mem_append_right _ (List.mem_append_right _ (List.mem_append_right _ (List.mem_append_right _ (List.mem_append_left _ h))))))), gd_dm_X16_meet w h⟩)
theorem gi_dm_X16_stored_5 : GoodIn ow_dm_X16_stored (wsV RX16 356 RX16 yX16_illegal ow_dm_X16_illegal) := goodIn_app (goodIn_of _ (by decide +kernel)) (fun w h => ⟨List.mem_cons_of_mem _ (List.mem_append_right _ (List.mem_append_right _ (List.mem_append_right _ (List.mem_append_right _ (List.mem_append_right _ (List.mem_append_right _ (List.mem_append_right _ (List.mem_append_left _ h)))))))), gd_dm_X16_illegal w h⟩)
def dj_X16_stored_122 (p : Program) (l : Launch) (e : Env) (s : State) (m : MethodId) (args : Array Value) (below : List Frame) (meth : Method) (c : Code) (Q : State → Prop) (A : Nat → Prop) (dC : Nat → ClassId) (dI : Nat → Nat → Nat) (a : Nat → Nat) (ac : Nat → ClassId) (g : (St × (St)) → Option (St × (St))) (r : St × (St)) : Prop := ∀ (s0 : St × (St)) (H : Heap) (locs : List Loc) (ls : Array Slot), g s0 = some r → va_P (dC, dI) vwCl (dw_X16 a ac s0) H → va_D A (dw_X16 a ac s0) → va_S A s.heap H locs → lv_has ls 6 [] → W p l e (headSpec ow_dm_X16_stored ({ frames := 2, cells := 0, slots := 0, locals := 46 })).room s m args below meth c H locs 0 0 Q (F0 m 122 ls [])
def dj_X16_stored_90 (p : Program) (l : Launch) (e : Env) (s : State) (m : MethodId) (args : Array Value) (below : List Frame) (meth : Method) (c : Code) (Q : State → Prop) (A : Nat → Prop) (dC : Nat → ClassId) (dI : Nat → Nat → Nat) (a : Nat → Nat) (ac : Nat → ClassId) (g : Int32 → Int32 → Int32 → Int32 → (St × (St)) → Option (St × (St))) (r : St × (St)) : Prop := ∀ (x2 : Int32) (x3 : Int32) (x4 : Int32) (x5 : Int32) (s0 : St × (St)) (H : Heap) (locs : List Loc) (ls : Array Slot), g x2 x3 x4 x5 s0 = some r → va_P (dC, dI) vwCl (dw_X16 a ac s0) H → va_D A (dw_X16 a ac s0) → va_S A s.heap H locs → lv_has ls 6 [(0, .ref (a 0)), (2, .int x2), (3, .int x3), (4, .int x4), (5, .int x5)] → W p l e (headSpec ow_dm_X16_stored ({ frames := 2, cells := 0, slots := 0, locals := 46 })).room s m args below meth c H locs 0 0 Q (F0 m 90 ls [])
def dj_X16_stored_0 (p : Program) (l : Launch) (e : Env) (s : State) (m : MethodId) (args : Array Value) (below : List Frame) (meth : Method) (c : Code) (Q : State → Prop) (A : Nat → Prop) (dC : Nat → ClassId) (dI : Nat → Nat → Nat) (a : Nat → Nat) (ac : Nat → ClassId) (g : Int32 → Int32 → Int32 → (St × (St)) → Option (St × (St))) (r : St × (St)) : Prop := ∀ (v0 : Int32) (v1 : Int32) (v2 : Int32) (s0 : St × (St)) (H : Heap) (locs : List Loc) (ls : Array Slot), g v0 v1 v2 s0 = some r → va_P (dC, dI) vwCl (dw_X16 a ac s0) H → va_D A (dw_X16 a ac s0) → va_S A s.heap H locs → lv_has ls 6 [(0, .ref (a 0)), (1, .int v0), (2, .int v1), (3, .int v2)] → W p l e (headSpec ow_dm_X16_stored ({ frames := 2, cells := 0, slots := 0, locals := 46 })).room s m args below meth c H locs 0 0 Q (F0 m 0 ls [])
set_option maxHeartbeats 40000000 in
set_option maxRecDepth 100000 in
theorem db_X16_stored_122 {p : Program} {l : Launch} {e : Env} {s : State} {m : MethodId} {args : Array Value} {below : List Frame} {meth : Method} {c : Code} {Q : State → Prop} {A : Nat → Prop} {dC : Nat → ClassId} {dI : Nat → Nat → Nat} {a : Nat → Nat} {ac : Nat → ClassId} {n : Nat} {r : St × (St)} (C : nd_C p l s m args c A (dC, dI) cX16_stored 6 RX16 ow_dm_X16_stored (dk_X16 ac)) (K : nd_Kv p l e (headSpec ow_dm_X16_stored ({ frames := 2, cells := 0, slots := 0, locals := 46 })).room s m args below meth c Q A (dC, dI) cX16_stored (St × (St)) (dw_X16 a ac) r) : dj_X16_stored_122 p l e s m args below meth c Q A dC dI a ac (df_X16_stored_122 n) r := by
  obtain ⟨hlt, hx, hb, hml, hown, hts, hN, hA, hK⟩ := id C
  intro s0 H locs ls h hP hD hS hl
  unfold df_X16_stored_122 at h
  exact K _ _ _ _ _ dX16_stored_122 (Option.some.inj h).symm hP hD hS
set_option maxHeartbeats 40000000 in
set_option maxRecDepth 100000 in
theorem dB_X16_stored_90 {p : Program} {l : Launch} {e : Env} {s : State} {m : MethodId} {args : Array Value} {below : List Frame} {meth : Method} {c : Code} {Q : State → Prop} {A : Nat → Prop} {dC : Nat → ClassId} {dI : Nat → Nat → Nat} {a : Nat → Nat} {ac : Nat → ClassId} {n : Nat} {r : St × (St)} (C : nd_C p l s m args c A (dC, dI) cX16_stored 6 RX16 ow_dm_X16_stored (dk_X16 ac)) (K : nd_Kv p l e (headSpec ow_dm_X16_stored ({ frames := 2, cells := 0, slots := 0, locals := 46 })).room s m args below meth c Q A (dC, dI) cX16_stored (St × (St)) (dw_X16 a ac) r) {g90 : Int32 → Int32 → Int32 → Int32 → (St × (St)) → Option (St × (St))} (J90 : dj_X16_stored_90 p l e s m args below meth c Q A dC dI a ac g90 r) : dj_X16_stored_90 p l e s m args below meth c Q A dC dI a ac (dF_X16_stored_90 n g90) r := by
  obtain ⟨hlt, hx, hb, hml, hown, hts, hN, hA, hK⟩ := id C
  intro x2 x3 x4 x5 s0 H locs ls h hP hD hS hl
  unfold dF_X16_stored_90 at h
  refine lv_iload hx hb dX16_stored_90 (lv_at hl 4 rfl) ?_
  refine lv_iload hx hb dX16_stored_92 (lv_at hl 3 rfl) ?_
  refine lv_icmp_ge (tgt := 122) hx hb dX16_stored_94 (by decide) (fun c16 => ?_) (fun c16 => ?_)
  · have h := nd_pos h c16
    exact (db_X16_stored_122 C K)  s0 _ _ _ h hP hD hS (lv_sub hl [] rfl)
  · have h := nd_neg h c16
    refine lv_aload_n hx hb dX16_stored_97 rfl (lv_at hl 0 rfl) ?_
    refine lv_aload_n hx hb dX16_stored_98 rfl (lv_at hl 0 rfl) ?_
    refine va_get (D := (dC, dI)) (ci := 17) (v := .int (sI s0.1 12)) (C := RX16) (T := TX16) (N := 56) hx hb hts hi_dm_X16_stored_X16 hown hK hP 0 rfl rfl 51 (by decide) (hts (.fieldLink RX16 232 "TimeMachineModel$Machine" "p" "I") (List.mem_of_getElem? (i := 1) rfl)) (fun _ h9 => h9) rfl dX16_stored_99 ?_
    refine lv_iload_n hx hb dX16_stored_102 rfl (lv_at hl 1 rfl) ?_
    refine lv_iload hx hb dX16_stored_103 (lv_at hl 4 rfl) ?_
    refine lv_iadd hx hb dX16_stored_105 ?_
    refine lv_iload_n hx hb dX16_stored_106 rfl (lv_at hl 2 rfl) ?_
    refine lv_bipush (v := 8) hx hb dX16_stored_107 (by decide) ?_
    refine lv_iload hx hb dX16_stored_109 (lv_at hl 4 rfl) ?_
    refine lv_imul hx hb dX16_stored_111 ?_
    refine lv_ishr hx hb dX16_stored_112 ?_
    obtain ⟨s18, hq, h⟩ := nd_b1_e h
    have hPc := hP
    have hDc := hD
    have hKc := hK
    have hFc := nd_rs hD hS hA
    refine nd_cVv (As := [.int (sI s0.1 12), .int (x2 + x5), .int ((x3 : Int32) >>> (((8 * x5) : Int32) &&& 31))]) (rest := []) (w' := dw_X16 a ac s18) ⟨hx, hb, hml, hown, hts⟩ (fun sz => dm_X16_write l hlt dC dI a ac n ((sI s0.1 12)) ((x2 + x5)) (((x3 : Int32) >>> (((8 * x5) : Int32) &&& 31))) s0 hq sz) (cwV 3 hts gi_dm_X16_stored_3 rfl rfl rfl (by decide +kernel) ⟨Nat.le_of_ble_eq_true rfl, Nat.le_of_ble_eq_true rfl⟩) hPc hDc hKc hS hA hN (va_recv hKc hPc (ci := 17) (q0 := 0) rfl rfl) rfl hl.1 rfl (Nat.le_of_ble_eq_true rfl) dX16_stored_113 (fun H locs hP1 hD1 hk1 hS => ?_)
    have hP := hP1
    have hD := hD1.weaken (fun k q _ h => hFc q.1 h)
    obtain ⟨z20, ez20, h⟩ := nd_let_e h
    refine lv_iinc (v := z20) (lv' := [(5, .int z20), (0, .ref (a 0)), (2, .int x2), (3, .int x3), (4, .int x4)]) hx hb dX16_stored_116 hl (k := 4) rfl (by rw [ez20]) (by decide) rfl (fun ls hl => ?_)
    refine lv_goto (tgt := 90) hx hb dX16_stored_119 (by decide) ?_
    exact (J90) (x2) (x3) (x4) (z20) s18 _ _ _ h hP hD hS (lv_sub hl [1, 2, 3, 4, 0] rfl)
set_option maxHeartbeats 40000000 in
set_option maxRecDepth 100000 in
theorem db_X16_stored_90 {p : Program} {l : Launch} {e : Env} {s : State} {m : MethodId} {args : Array Value} {below : List Frame} {meth : Method} {c : Code} {Q : State → Prop} {A : Nat → Prop} {dC : Nat → ClassId} {dI : Nat → Nat → Nat} {a : Nat → Nat} {ac : Nat → ClassId} {n : Nat} {r : St × (St)} (C : nd_C p l s m args c A (dC, dI) cX16_stored 6 RX16 ow_dm_X16_stored (dk_X16 ac)) (K : nd_Kv p l e (headSpec ow_dm_X16_stored ({ frames := 2, cells := 0, slots := 0, locals := 46 })).room s m args below meth c Q A (dC, dI) cX16_stored (St × (St)) (dw_X16 a ac) r) (k : Nat) : dj_X16_stored_90 p l e s m args below meth c Q A dC dI a ac (df_X16_stored_90 n k) r := by
  induction k with
  | zero => intro x2 x3 x4 x5 s0 H locs ls h; exact nomatch (show (none : Option (St × (St))) = some r from h)
  | succ k ih => exact dB_X16_stored_90 C K ih
set_option maxHeartbeats 40000000 in
set_option maxRecDepth 100000 in
theorem db_X16_stored_0 {p : Program} {l : Launch} {e : Env} {s : State} {m : MethodId} {args : Array Value} {below : List Frame} {meth : Method} {c : Code} {Q : State → Prop} {A : Nat → Prop} {dC : Nat → ClassId} {dI : Nat → Nat → Nat} {a : Nat → Nat} {ac : Nat → ClassId} {n : Nat} {r : St × (St)} (C : nd_C p l s m args c A (dC, dI) cX16_stored 6 RX16 ow_dm_X16_stored (dk_X16 ac)) (K : nd_Kv p l e (headSpec ow_dm_X16_stored ({ frames := 2, cells := 0, slots := 0, locals := 46 })).room s m args below meth c Q A (dC, dI) cX16_stored (St × (St)) (dw_X16 a ac) r) : dj_X16_stored_0 p l e s m args below meth c Q A dC dI a ac (df_X16_stored_0 n) r := by
  obtain ⟨hlt, hx, hb, hml, hown, hts, hN, hA, hK⟩ := id C
  intro v0 v1 v2 s0 H locs ls h hP hD hS hl
  unfold df_X16_stored_0 at h
  refine lv_iconst (v := 1) hx hb dX16_stored_0 (by decide) ?_
  refine lv_iload_n hx hb dX16_stored_1 rfl (lv_at hl 1 rfl) ?_
  refine lv_iconst (v := 3) hx hb dX16_stored_2 (by decide) ?_
  refine lv_iand hx hb dX16_stored_3 ?_
  refine lv_ishl hx hb dX16_stored_4 ?_
  refine lv_topi (fun z1 ez1 => ?_)
  have h := nd_at h ez1
  refine lv_istore (lv' := [(4, .int z1), (0, .ref (a 0)), (1, .int v0), (2, .int v1), (3, .int v2)]) hx hb dX16_stored_5 hl (by decide) rfl (fun ls hl => ?_)
  refine lv_iload_n hx hb dX16_stored_7 rfl (lv_at hl 2 rfl) ?_
  refine lv_iconst (v := 2) hx hb dX16_stored_8 (by decide) ?_
  refine lv_icmp_le (tgt := 20) hx hb dX16_stored_9 (by decide) (fun c2 => ?_) (fun c2 => ?_)
  · have h := nd_pos h c2
    refine lv_iload_n hx hb dX16_stored_20 rfl (lv_at hl 3 rfl) ?_
    refine lv_iload hx hb dX16_stored_21 (lv_at hl 0 rfl) ?_
    obtain ⟨i3, h⟩ := nd_nz_e h
    refine lv_irem hx hb dX16_stored_23 i3 ?_
    refine lv_if_eq (tgt := 36) hx hb dX16_stored_24 (by decide) (fun c4 => ?_) (fun c4 => ?_)
    · have h := nd_pos h c4
      refine lv_aload_n hx hb dX16_stored_36 rfl (lv_at hl 1 rfl) ?_
      refine lv_aload_n hx hb dX16_stored_37 rfl (lv_at hl 1 rfl) ?_
      refine va_get (D := (dC, dI)) (ci := 17) (v := .int (sI s0.1 12)) (C := RX16) (T := TX16) (N := 56) hx hb hts hi_dm_X16_stored_X16 hown hK hP 0 rfl rfl 51 (by decide) (hts (.fieldLink RX16 232 "TimeMachineModel$Machine" "p" "I") (List.mem_of_getElem? (i := 1) rfl)) (fun _ h9 => h9) rfl dX16_stored_38 ?_
      refine lv_iload_n hx hb dX16_stored_41 rfl (lv_at hl 3 rfl) ?_
      refine lv_iconst (v := 2) hx hb dX16_stored_42 (by decide) ?_
      obtain ⟨q5, s6, hq, h⟩ := nd_b2_e h
      have hPc := hP
      have hDc := hD
      have hKc := hK
      have hFc := nd_rs hD hS hA
      refine nd_cVi (As := [.int (sI s0.1 12), .int v1, .int 2]) (rest := []) (q := q5) (w' := dw_X16 a ac s6) ⟨hx, hb, hml, hown, hts⟩ (fun sz => dm_X16_may l hlt dC dI a ac n ((sI s0.1 12)) (v1) (2) s0 hq sz) (cwV 3 hts gi_dm_X16_stored_0 rfl rfl rfl (by decide +kernel) ⟨Nat.le_of_ble_eq_true rfl, Nat.le_of_ble_eq_true rfl⟩) hPc hDc hKc hS hA hN (va_recv hKc hPc (ci := 17) (q0 := 0) rfl rfl) rfl hl.1 rfl (Nat.le_of_ble_eq_true rfl) dX16_stored_43 (fun H locs hP1 hD1 hk1 hS => ?_)
      have hP := hP1
      have hD := hD1.weaken (fun k q _ h => hFc q.1 h)
      refine lv_if_ne (tgt := 59) hx hb dX16_stored_46 (by decide) (fun c8 => ?_) (fun c8 => ?_)
      · have h := nd_neg h c8
        refine lv_aload_n hx hb dX16_stored_59 rfl (lv_at hl 1 rfl) ?_
        refine lv_aload_n hx hb dX16_stored_60 rfl (lv_at hl 1 rfl) ?_
        refine lv_aload_n hx hb dX16_stored_61 rfl (lv_at hl 1 rfl) ?_
        refine va_get (D := (dC, dI)) (ci := 17) (v := .int (sI s6.1 12)) (C := RX16) (T := TX16) (N := 56) hx hb hts hi_dm_X16_stored_X16 hown hK hP 0 rfl rfl 51 (by decide) (hts (.fieldLink RX16 232 "TimeMachineModel$Machine" "p" "I") (List.mem_of_getElem? (i := 1) rfl)) (fun _ h9 => h9) rfl dX16_stored_62 ?_
        refine lv_iload_n hx hb dX16_stored_65 rfl (lv_at hl 3 rfl) ?_
        refine lv_iload hx hb dX16_stored_66 (lv_at hl 0 rfl) ?_
        obtain ⟨q9, s10, hq, h⟩ := nd_b2_e h
        have hPc := hP
        have hDc := hD
        have hKc := hK
        have hFc := nd_rs hD hS hA
        refine nd_cVi (As := [.int (sI s6.1 12), .int v1, .int z1]) (rest := [.ref (a 0)]) (q := q9) (w' := dw_X16 a ac s10) ⟨hx, hb, hml, hown, hts⟩ (fun sz => dm_X16_wanted l hlt dC dI a ac n ((sI s6.1 12)) (v1) (z1) s6 hq sz) (cwV 3 hts gi_dm_X16_stored_1 rfl rfl rfl (by decide +kernel) ⟨Nat.le_of_ble_eq_true rfl, Nat.le_of_ble_eq_true rfl⟩) hPc hDc hKc hS hA hN (va_recv hKc hPc (ci := 17) (q0 := 0) rfl rfl) rfl hl.1 rfl (Nat.le_of_ble_eq_true rfl) dX16_stored_68 (fun H locs hP1 hD1 hk1 hS => ?_)
        have hP := hP1
        have hD := hD1.weaken (fun k q _ h => hFc q.1 h)
        obtain ⟨q12, s13, hq, h⟩ := nd_b2_e h
        have hPc := hP
        have hDc := hD
        have hKc := hK
        have hFc := nd_rs hD hS hA
        refine nd_cVi (As := [.int q9]) (rest := []) (q := q12) (w' := dw_X16 a ac s13) ⟨hx, hb, hml, hown, hts⟩ (fun sz => dm_X16_hasFrames l hlt dC dI a ac n (q9) s10 hq sz) (cwV 1 hts gi_dm_X16_stored_2 rfl rfl rfl (by decide +kernel) ⟨Nat.le_of_ble_eq_true rfl, Nat.le_of_ble_eq_true rfl⟩) hPc hDc hKc hS hA hN (va_recv hKc hPc (ci := 17) (q0 := 0) rfl rfl) rfl hl.1 rfl (Nat.le_of_ble_eq_true rfl) dX16_stored_71 (fun H locs hP1 hD1 hk1 hS => ?_)
        have hP := hP1
        have hD := hD1.weaken (fun k q _ h => hFc q.1 h)
        refine lv_if_ne (tgt := 87) hx hb dX16_stored_74 (by decide) (fun c15 => ?_) (fun c15 => ?_)
        · have h := nd_neg h c15
          refine lv_iconst (v := 0) hx hb dX16_stored_87 (by decide) ?_
          refine lv_istore (lv' := [(5, .int 0), (4, .int z1), (0, .ref (a 0)), (1, .int v0), (2, .int v1), (3, .int v2)]) hx hb dX16_stored_88 hl (by decide) rfl (fun ls hl => ?_)
          exact (db_X16_stored_90 C K n) (v1) (v2) (z1) (0) s13 _ _ _ h hP hD hS (lv_sub hl [2, 4, 5, 1, 0] rfl)
        · have h := nd_pos h c15
          refine lv_aload_n hx hb dX16_stored_77 rfl (lv_at hl 1 rfl) ?_
          refine lv_bipush (v := 8) hx hb dX16_stored_78 (by decide) ?_
          obtain ⟨q21, s22, hq, h⟩ := nd_b2_e h
          have hPc := hP
          have hDc := hD
          have hKc := hK
          have hFc := nd_rs hD hS hA
          refine nd_cVi (As := [.int 8]) (rest := []) (q := q21) (w' := dw_X16 a ac s22) ⟨hx, hb, hml, hown, hts⟩ (fun sz => dm_X16_meet l hlt dC dI a ac n (8) s13 hq sz) (cwV 1 hts gi_dm_X16_stored_4 rfl rfl rfl (by decide +kernel) ⟨Nat.le_of_ble_eq_true rfl, Nat.le_of_ble_eq_true rfl⟩) hPc hDc hKc hS hA hN (va_recv hKc hPc (ci := 17) (q0 := 0) rfl rfl) rfl hl.1 rfl (Nat.le_of_ble_eq_true rfl) dX16_stored_80 (fun H locs hP1 hD1 hk1 hS => ?_)
          have hP := hP1
          have hD := hD1.weaken (fun k q _ h => hFc q.1 h)
          refine lv_pop hx hb dX16_stored_83 rfl ?_
          refine lv_goto (tgt := 122) hx hb dX16_stored_84 (by decide) ?_
          exact (db_X16_stored_122 C K)  s22 _ _ _ h hP hD hS (lv_sub hl [] rfl)
      · have h := nd_pos h c8
        refine lv_aload_n hx hb dX16_stored_49 rfl (lv_at hl 1 rfl) ?_
        refine lv_bipush (v := 7) hx hb dX16_stored_50 (by decide) ?_
        obtain ⟨q24, s25, hq, h⟩ := nd_b2_e h
        have hPc := hP
        have hDc := hD
        have hKc := hK
        have hFc := nd_rs hD hS hA
        refine nd_cVi (As := [.int 7]) (rest := []) (q := q24) (w' := dw_X16 a ac s25) ⟨hx, hb, hml, hown, hts⟩ (fun sz => dm_X16_meet l hlt dC dI a ac n (7) s6 hq sz) (cwV 1 hts gi_dm_X16_stored_4 rfl rfl rfl (by decide +kernel) ⟨Nat.le_of_ble_eq_true rfl, Nat.le_of_ble_eq_true rfl⟩) hPc hDc hKc hS hA hN (va_recv hKc hPc (ci := 17) (q0 := 0) rfl rfl) rfl hl.1 rfl (Nat.le_of_ble_eq_true rfl) dX16_stored_52 (fun H locs hP1 hD1 hk1 hS => ?_)
        have hP := hP1
        have hD := hD1.weaken (fun k q _ h => hFc q.1 h)
        refine lv_pop hx hb dX16_stored_55 rfl ?_
        refine lv_goto (tgt := 122) hx hb dX16_stored_56 (by decide) ?_
        exact (db_X16_stored_122 C K)  s25 _ _ _ h hP hD hS (lv_sub hl [] rfl)
    · have h := nd_neg h c4
      refine lv_aload_n hx hb dX16_stored_27 rfl (lv_at hl 1 rfl) ?_
      refine lv_iconst (v := 5) hx hb dX16_stored_28 (by decide) ?_
      obtain ⟨q27, s28, hq, h⟩ := nd_b2_e h
      have hPc := hP
      have hDc := hD
      have hKc := hK
      have hFc := nd_rs hD hS hA
      refine nd_cVi (As := [.int 5]) (rest := []) (q := q27) (w' := dw_X16 a ac s28) ⟨hx, hb, hml, hown, hts⟩ (fun sz => dm_X16_meet l hlt dC dI a ac n (5) s0 hq sz) (cwV 1 hts gi_dm_X16_stored_4 rfl rfl rfl (by decide +kernel) ⟨Nat.le_of_ble_eq_true rfl, Nat.le_of_ble_eq_true rfl⟩) hPc hDc hKc hS hA hN (va_recv hKc hPc (ci := 17) (q0 := 0) rfl rfl) rfl hl.1 rfl (Nat.le_of_ble_eq_true rfl) dX16_stored_29 (fun H locs hP1 hD1 hk1 hS => ?_)
      have hP := hP1
      have hD := hD1.weaken (fun k q _ h => hFc q.1 h)
      refine lv_pop hx hb dX16_stored_32 rfl ?_
      refine lv_goto (tgt := 122) hx hb dX16_stored_33 (by decide) ?_
      exact (db_X16_stored_122 C K)  s28 _ _ _ h hP hD hS (lv_sub hl [] rfl)
  · have h := nd_neg h c2
    refine lv_aload_n hx hb dX16_stored_12 rfl (lv_at hl 1 rfl) ?_
    obtain ⟨q30, s31, hq, h⟩ := nd_b2_e h
    have hPc := hP
    have hDc := hD
    have hKc := hK
    have hFc := nd_rs hD hS hA
    refine nd_cVi (As := []) (rest := []) (q := q30) (w' := dw_X16 a ac s31) ⟨hx, hb, hml, hown, hts⟩ (fun sz => dm_X16_illegal l hlt dC dI a ac n  s0 hq sz) (cwV 0 hts gi_dm_X16_stored_5 rfl rfl rfl (by decide +kernel) ⟨Nat.le_of_ble_eq_true rfl, Nat.le_of_ble_eq_true rfl⟩) hPc hDc hKc hS hA hN (va_recv hKc hPc (ci := 17) (q0 := 0) rfl rfl) rfl hl.1 rfl (Nat.le_of_ble_eq_true rfl) dX16_stored_13 (fun H locs hP1 hD1 hk1 hS => ?_)
    have hP := hP1
    have hD := hD1.weaken (fun k q _ h => hFc q.1 h)
    refine lv_pop hx hb dX16_stored_16 rfl ?_
    refine lv_goto (tgt := 122) hx hb dX16_stored_17 (by decide) ?_
    exact (db_X16_stored_122 C K)  s31 _ _ _ h hP hD hS (lv_sub hl [] rfl)
set_option maxHeartbeats 40000000 in
set_option maxRecDepth 100000 in
theorem dm_X16_stored (l : Launch) (hlt : l.stackTraces = false) (dC : Nat → ClassId) (dI : Nat → Nat → Nat) (a : Nat → Nat) (ac : Nat → ClassId) (n : Nat) (v0 : Int32) (v1 : Int32) (v2 : Int32) (s0 : St × (St)) {r : St × (St)} (h : df_X16_stored n v0 v1 v2 s0 = some r) (sz : Nat) : Met l yX16_stored ow_dm_X16_stored ({ frames := 2, cells := 0, slots := 0, locals := 46 }) (va_Pc [.ref (a 0), .int v0, .int v1, .int v2] (fun U => U.heap.size = sz ∧ va_P (dC, dI) vwCl (dw_X16 a ac s0) U.heap ∧ va_K (dC, dI) vwCl (dk_X16 ac) U ∧ va_D (fun _ => True) (dw_X16 a ac s0) ∧ nv_E dI (va_A (dw_X16 a ac s0) sz) U)) (va_Qv (fun _ => True) (fun (_ : Unit) t => va_P (dC, dI) vwCl (dw_X16 a ac r) t.heap ∧ va_K (dC, dI) vwCl (dk_X16 ac) t ∧ va_D (va_A (dw_X16 a ac s0) sz) (dw_X16 a ac r)) (va_A (dw_X16 a ac s0) sz)) 0 0 (va_A (dw_X16 a ac s0) sz) := by
  refine Met.ofW (cc := cX16_stored) (maxL := 6) (ret := none) (by decide) rfl ?_
  intro p e s m args below meth c s₁ B hml hv
  obtain ⟨rfl, hsz, hP, hK, hD0, hN⟩ := hv
  have hx := B.exec
  have hb := B.bytes
  have hr := B.returns
  have hts := atoms_spec (ws := ow_dm_X16_stored) B.pre
  have hown : s.vm.findClass RX16 = some m.cls := findClass_of_methodNamed B.named
  have hlocks := B.notSynchronized
  subst hsz
  have hD := hD0.self (sz := s.heap.size)
  generalize hAe : va_A (dw_X16 a ac s0) s.heap.size = A at hD hN ⊢
  have hA : ∀ q : Nat, s.heap.size ≤ q → A q := fun q h => by rw [← hAe]; exact Or.inr h
  have hl := lv_entry ([.ref (a 0), .int v0, .int v1, .int v2]) (n := 6) (Nat.le_of_ble_eq_true rfl)
  rw [lg_entry_eq]
  generalize (lg_sl ([.ref (a 0), .int v0, .int v1, .int v2]) ++ List.replicate (6 - (lg_sl ([.ref (a 0), .int v0, .int v1, .int v2])).length) Slot.unset).toArray = ls at hl ⊢
  have hl : lv_has ls 6 [(0, .ref (a 0)), (1, .int v0), (2, .int v1), (3, .int v2)] := hl
  exact db_X16_stored_0 (dC := dC) (dI := dI) (a := a) (ac := ac) (n := n) (r := r) ⟨hlt, hx, hb, hml, hown, hts, hN, hA, hK⟩ (fun pc τ H locs ls d er hP hD hS => by subst er; exact W.vret hx hb hr (fun t ht hW => ⟨⟨(), rfl, trivial, by rw [ht]; exact hP, va_K.moved hW.alike hK, hD⟩, hS.F ht⟩) hS.2.2 d) v0 v1 v2 s0 _ _ _ h hP hD va_S.rf (lv_sub hl [0, 1, 2, 3] rfl)
def ow_dm_X16_changed : List Cond := Cond.code yX16_changed cX16_changed 4 (some .int) :: ([Cond.methodLink RX16 390 yX16_plain, Cond.static yX16_plain, Cond.initialized RX16] ++ (ow_dm_X16_plain ++ []))
theorem gd_dm_X16_changed : ∀ w ∈ ow_dm_X16_changed, (w.onTables && w.keeps) = true ∨ ∃ ty, w = Cond.arrayClass ty := List.forall_mem_cons.mpr ⟨good_of_word rfl, List.forall_mem_append.mpr ⟨fun w h => good_of_word (List.all_eq_true.mp (by decide +kernel) w h), List.forall_mem_append.mpr ⟨gd_dm_X16_plain, fun _ h => nomatch h⟩⟩⟩
theorem gi_dm_X16_changed_0 : GoodIn ow_dm_X16_changed (wsS RX16 390 yX16_plain ow_dm_X16_plain) := goodIn_app (goodIn_of _ (by decide +kernel)) (fun w h => ⟨List.mem_cons_of_mem _ (List.mem_append_right _ (List.mem_append_left _ h)), gd_dm_X16_plain w h⟩)
def dj_X16_changed_189 (p : Program) (l : Launch) (e : Env) (s : State) (m : MethodId) (args : Array Value) (below : List Frame) (meth : Method) (c : Code) (Q : State → Prop) (A : Nat → Prop) (dC : Nat → ClassId) (dI : Nat → Nat → Nat) (a : Nat → Nat) (ac : Nat → ClassId) (g : Int32 → (Unit) → Option (Int32 × (Unit))) (r : Int32 × (Unit)) : Prop := ∀ (y0 : Int32) (s0 : Unit) (H : Heap) (locs : List Loc) (ls : Array Slot), g y0 s0 = some r → va_P (dC, dI) vwCl (dw_P a ac s0) H → va_D A (dw_P a ac s0) → va_S A s.heap H locs → lv_has ls 4 [] → W p l e (headSpec ow_dm_X16_changed ({ frames := 1, cells := 0, slots := 0, locals := 20 })).room s m args below meth c H locs 0 0 Q (F0 m 189 ls [.int y0])
def dj_X16_changed_180 (p : Program) (l : Launch) (e : Env) (s : State) (m : MethodId) (args : Array Value) (below : List Frame) (meth : Method) (c : Code) (Q : State → Prop) (A : Nat → Prop) (dC : Nat → ClassId) (dI : Nat → Nat → Nat) (a : Nat → Nat) (ac : Nat → ClassId) (g : Int32 → Int32 → Int32 → (Unit) → Option (Int32 × (Unit))) (r : Int32 × (Unit)) : Prop := ∀ (x1 : Int32) (x2 : Int32) (x3 : Int32) (s0 : Unit) (H : Heap) (locs : List Loc) (ls : Array Slot), g x1 x2 x3 s0 = some r → va_P (dC, dI) vwCl (dw_P a ac s0) H → va_D A (dw_P a ac s0) → va_S A s.heap H locs → lv_has ls 4 [(1, .int x1), (2, .int x2), (3, .int x3)] → W p l e (headSpec ow_dm_X16_changed ({ frames := 1, cells := 0, slots := 0, locals := 20 })).room s m args below meth c H locs 0 0 Q (F0 m 180 ls [])
def dj_X16_changed_179 (p : Program) (l : Launch) (e : Env) (s : State) (m : MethodId) (args : Array Value) (below : List Frame) (meth : Method) (c : Code) (Q : State → Prop) (A : Nat → Prop) (dC : Nat → ClassId) (dI : Nat → Nat → Nat) (a : Nat → Nat) (ac : Nat → ClassId) (g : Int32 → (Unit) → Option (Int32 × (Unit))) (r : Int32 × (Unit)) : Prop := ∀ (y0 : Int32) (s0 : Unit) (H : Heap) (locs : List Loc) (ls : Array Slot), g y0 s0 = some r → va_P (dC, dI) vwCl (dw_P a ac s0) H → va_D A (dw_P a ac s0) → va_S A s.heap H locs → lv_has ls 4 [] → W p l e (headSpec ow_dm_X16_changed ({ frames := 1, cells := 0, slots := 0, locals := 20 })).room s m args below meth c H locs 0 0 Q (F0 m 179 ls [.int y0])
def dj_X16_changed_170 (p : Program) (l : Launch) (e : Env) (s : State) (m : MethodId) (args : Array Value) (below : List Frame) (meth : Method) (c : Code) (Q : State → Prop) (A : Nat → Prop) (dC : Nat → ClassId) (dI : Nat → Nat → Nat) (a : Nat → Nat) (ac : Nat → ClassId) (g : Int32 → Int32 → Int32 → (Unit) → Option (Int32 × (Unit))) (r : Int32 × (Unit)) : Prop := ∀ (x1 : Int32) (x2 : Int32) (x3 : Int32) (s0 : Unit) (H : Heap) (locs : List Loc) (ls : Array Slot), g x1 x2 x3 s0 = some r → va_P (dC, dI) vwCl (dw_P a ac s0) H → va_D A (dw_P a ac s0) → va_S A s.heap H locs → lv_has ls 4 [(1, .int x1), (2, .int x2), (3, .int x3)] → W p l e (headSpec ow_dm_X16_changed ({ frames := 1, cells := 0, slots := 0, locals := 20 })).room s m args below meth c H locs 0 0 Q (F0 m 170 ls [])
def dj_X16_changed_36 (p : Program) (l : Launch) (e : Env) (s : State) (m : MethodId) (args : Array Value) (below : List Frame) (meth : Method) (c : Code) (Q : State → Prop) (A : Nat → Prop) (dC : Nat → ClassId) (dI : Nat → Nat → Nat) (a : Nat → Nat) (ac : Nat → ClassId) (g : Int32 → Int32 → Int32 → Int32 → (Unit) → Option (Int32 × (Unit))) (r : Int32 × (Unit)) : Prop := ∀ (x0 : Int32) (x1 : Int32) (x2 : Int32) (y0 : Int32) (s0 : Unit) (H : Heap) (locs : List Loc) (ls : Array Slot), g x0 x1 x2 y0 s0 = some r → va_P (dC, dI) vwCl (dw_P a ac s0) H → va_D A (dw_P a ac s0) → va_S A s.heap H locs → lv_has ls 4 [(0, .int x0), (1, .int x1), (2, .int x2)] → W p l e (headSpec ow_dm_X16_changed ({ frames := 1, cells := 0, slots := 0, locals := 20 })).room s m args below meth c H locs 0 0 Q (F0 m 36 ls [.int y0])
def dj_X16_changed_0 (p : Program) (l : Launch) (e : Env) (s : State) (m : MethodId) (args : Array Value) (below : List Frame) (meth : Method) (c : Code) (Q : State → Prop) (A : Nat → Prop) (dC : Nat → ClassId) (dI : Nat → Nat → Nat) (a : Nat → Nat) (ac : Nat → ClassId) (g : Int32 → Int32 → Int32 → (Unit) → Option (Int32 × (Unit))) (r : Int32 × (Unit)) : Prop := ∀ (v0 : Int32) (v1 : Int32) (v2 : Int32) (s0 : Unit) (H : Heap) (locs : List Loc) (ls : Array Slot), g v0 v1 v2 s0 = some r → va_P (dC, dI) vwCl (dw_P a ac s0) H → va_D A (dw_P a ac s0) → va_S A s.heap H locs → lv_has ls 4 [(0, .int v0), (1, .int v1), (2, .int v2)] → W p l e (headSpec ow_dm_X16_changed ({ frames := 1, cells := 0, slots := 0, locals := 20 })).room s m args below meth c H locs 0 0 Q (F0 m 0 ls [])
set_option maxHeartbeats 40000000 in
set_option maxRecDepth 100000 in
theorem db_X16_changed_189 {p : Program} {l : Launch} {e : Env} {s : State} {m : MethodId} {args : Array Value} {below : List Frame} {meth : Method} {c : Code} {Q : State → Prop} {A : Nat → Prop} {dC : Nat → ClassId} {dI : Nat → Nat → Nat} {a : Nat → Nat} {ac : Nat → ClassId} {n : Nat} {r : Int32 × (Unit)} (C : nd_C p l s m args c A (dC, dI) cX16_changed 4 RX16 ow_dm_X16_changed (dk_P ac)) (K : nd_Ki p l e (headSpec ow_dm_X16_changed ({ frames := 1, cells := 0, slots := 0, locals := 20 })).room s m args below meth c Q A (dC, dI) cX16_changed .int (Unit) (dw_P a ac) r) : dj_X16_changed_189 p l e s m args below meth c Q A dC dI a ac (df_X16_changed_189 n) r := by
  obtain ⟨hlt, hx, hb, hml, hown, hts, hN, hA, hK⟩ := id C
  intro y0 s0 H locs ls h hP hD hS hl
  unfold df_X16_changed_189 at h
  exact K _ _ _ _ _ _ dX16_changed_189 rfl (Option.some.inj h).symm hP hD hS
set_option maxHeartbeats 40000000 in
set_option maxRecDepth 100000 in
theorem db_X16_changed_180 {p : Program} {l : Launch} {e : Env} {s : State} {m : MethodId} {args : Array Value} {below : List Frame} {meth : Method} {c : Code} {Q : State → Prop} {A : Nat → Prop} {dC : Nat → ClassId} {dI : Nat → Nat → Nat} {a : Nat → Nat} {ac : Nat → ClassId} {n : Nat} {r : Int32 × (Unit)} (C : nd_C p l s m args c A (dC, dI) cX16_changed 4 RX16 ow_dm_X16_changed (dk_P ac)) (K : nd_Ki p l e (headSpec ow_dm_X16_changed ({ frames := 1, cells := 0, slots := 0, locals := 20 })).room s m args below meth c Q A (dC, dI) cX16_changed .int (Unit) (dw_P a ac) r) : dj_X16_changed_180 p l e s m args below meth c Q A dC dI a ac (df_X16_changed_180 n) r := by
  obtain ⟨hlt, hx, hb, hml, hown, hts, hN, hA, hK⟩ := id C
  intro x1 x2 x3 s0 H locs ls h hP hD hS hl
  unfold df_X16_changed_180 at h
  refine lv_iload_n hx hb dX16_changed_180 rfl (lv_at hl 2 rfl) ?_
  refine lv_if_eq (tgt := 188) hx hb dX16_changed_181 (by decide) (fun c12 => ?_) (fun c12 => ?_)
  · have h := nd_pos h c12
    refine lv_iload_n hx hb dX16_changed_188 rfl (lv_at hl 0 rfl) ?_
    exact (db_X16_changed_189 C K) (x1) s0 _ _ _ h hP hD hS (lv_sub hl [] rfl)
  · have h := nd_neg h c12
    refine lv_iload_n hx hb dX16_changed_184 rfl (lv_at hl 1 rfl) ?_
    refine lv_goto (tgt := 189) hx hb dX16_changed_185 (by decide) ?_
    exact (db_X16_changed_189 C K) (x2) s0 _ _ _ h hP hD hS (lv_sub hl [] rfl)
set_option maxHeartbeats 40000000 in
set_option maxRecDepth 100000 in
theorem db_X16_changed_179 {p : Program} {l : Launch} {e : Env} {s : State} {m : MethodId} {args : Array Value} {below : List Frame} {meth : Method} {c : Code} {Q : State → Prop} {A : Nat → Prop} {dC : Nat → ClassId} {dI : Nat → Nat → Nat} {a : Nat → Nat} {ac : Nat → ClassId} {n : Nat} {r : Int32 × (Unit)} (C : nd_C p l s m args c A (dC, dI) cX16_changed 4 RX16 ow_dm_X16_changed (dk_P ac)) (K : nd_Ki p l e (headSpec ow_dm_X16_changed ({ frames := 1, cells := 0, slots := 0, locals := 20 })).room s m args below meth c Q A (dC, dI) cX16_changed .int (Unit) (dw_P a ac) r) : dj_X16_changed_179 p l e s m args below meth c Q A dC dI a ac (df_X16_changed_179 n) r := by
  obtain ⟨hlt, hx, hb, hml, hown, hts, hN, hA, hK⟩ := id C
  intro y0 s0 H locs ls h hP hD hS hl
  unfold df_X16_changed_179 at h
  exact K _ _ _ _ _ _ dX16_changed_179 rfl (Option.some.inj h).symm hP hD hS
set_option maxHeartbeats 40000000 in
set_option maxRecDepth 100000 in
theorem db_X16_changed_170 {p : Program} {l : Launch} {e : Env} {s : State} {m : MethodId} {args : Array Value} {below : List Frame} {meth : Method} {c : Code} {Q : State → Prop} {A : Nat → Prop} {dC : Nat → ClassId} {dI : Nat → Nat → Nat} {a : Nat → Nat} {ac : Nat → ClassId} {n : Nat} {r : Int32 × (Unit)} (C : nd_C p l s m args c A (dC, dI) cX16_changed 4 RX16 ow_dm_X16_changed (dk_P ac)) (K : nd_Ki p l e (headSpec ow_dm_X16_changed ({ frames := 1, cells := 0, slots := 0, locals := 20 })).room s m args below meth c Q A (dC, dI) cX16_changed .int (Unit) (dw_P a ac) r) : dj_X16_changed_170 p l e s m args below meth c Q A dC dI a ac (df_X16_changed_170 n) r := by
  obtain ⟨hlt, hx, hb, hml, hown, hts, hN, hA, hK⟩ := id C
  intro x1 x2 x3 s0 H locs ls h hP hD hS hl
  unfold df_X16_changed_170 at h
  refine lv_iload_n hx hb dX16_changed_170 rfl (lv_at hl 2 rfl) ?_
  refine lv_if_eq (tgt := 178) hx hb dX16_changed_171 (by decide) (fun c27 => ?_) (fun c27 => ?_)
  · have h := nd_pos h c27
    refine lv_iload_n hx hb dX16_changed_178 rfl (lv_at hl 1 rfl) ?_
    exact (db_X16_changed_179 C K) (x2) s0 _ _ _ h hP hD hS (lv_sub hl [] rfl)
  · have h := nd_neg h c27
    refine lv_iload_n hx hb dX16_changed_174 rfl (lv_at hl 0 rfl) ?_
    refine lv_goto (tgt := 179) hx hb dX16_changed_175 (by decide) ?_
    exact (db_X16_changed_179 C K) (x1) s0 _ _ _ h hP hD hS (lv_sub hl [] rfl)
set_option maxHeartbeats 40000000 in
set_option maxRecDepth 100000 in
theorem db_X16_changed_36 {p : Program} {l : Launch} {e : Env} {s : State} {m : MethodId} {args : Array Value} {below : List Frame} {meth : Method} {c : Code} {Q : State → Prop} {A : Nat → Prop} {dC : Nat → ClassId} {dI : Nat → Nat → Nat} {a : Nat → Nat} {ac : Nat → ClassId} {n : Nat} {r : Int32 × (Unit)} (C : nd_C p l s m args c A (dC, dI) cX16_changed 4 RX16 ow_dm_X16_changed (dk_P ac)) (K : nd_Ki p l e (headSpec ow_dm_X16_changed ({ frames := 1, cells := 0, slots := 0, locals := 20 })).room s m args below meth c Q A (dC, dI) cX16_changed .int (Unit) (dw_P a ac) r) : dj_X16_changed_36 p l e s m args below meth c Q A dC dI a ac (df_X16_changed_36 n) r := by
  obtain ⟨hlt, hx, hb, hml, hown, hts, hN, hA, hK⟩ := id C
  intro x0 x1 x2 y0 s0 H locs ls h hP hD hS hl
  unfold df_X16_changed_36 at h
  refine lv_istore_n (lv' := [(3, .int y0), (0, .int x0), (1, .int x1), (2, .int x2)]) hx hb dX16_changed_36 rfl hl (by decide) rfl (fun ls hl => ?_)
  refine lv_iload_n hx hb dX16_changed_37 rfl (lv_at hl 1 rfl) ?_
  by_cases c9 : x0 = 0
  · have h := nd_pos h c9
    refine lv_tableIn (off := 116) (tgt := 154) hx hb dX16_changed_38 (by rw [c9]; decide) (by rw [c9]; decide) (by rw [c9]; decide) (by decide) ?_
    refine lv_iload_n hx hb dX16_changed_154 rfl (lv_at hl 2 rfl) ?_
    refine lv_iload_n hx hb dX16_changed_155 rfl (lv_at hl 3 rfl) ?_
    refine lv_iadd hx hb dX16_changed_156 ?_
    exact K _ _ _ _ _ _ dX16_changed_157 rfl (Option.some.inj h).symm hP hD hS
  have h := nd_neg h c9
  by_cases c10 : x0 = 1
  · have h := nd_pos h c10
    refine lv_tableIn (off := 114) (tgt := 152) hx hb dX16_changed_38 (by rw [c10]; decide) (by rw [c10]; decide) (by rw [c10]; decide) (by decide) ?_
    refine lv_iload_n hx hb dX16_changed_152 rfl (lv_at hl 3 rfl) ?_
    exact K _ _ _ _ _ _ dX16_changed_153 rfl (Option.some.inj h).symm hP hD hS
  have h := nd_neg h c10
  by_cases c11 : x0 = 2
  · have h := nd_pos h c11
    refine lv_tableIn (off := 142) (tgt := 180) hx hb dX16_changed_38 (by rw [c11]; decide) (by rw [c11]; decide) (by rw [c11]; decide) (by decide) ?_
    exact (db_X16_changed_180 C K) (x1) (x2) (y0) s0 _ _ _ h hP hD hS (lv_sub hl [2, 3, 0] rfl)
  have h := nd_neg h c11
  by_cases c13 : x0 = 3
  · have h := nd_pos h c13
    refine lv_tableIn (off := 142) (tgt := 180) hx hb dX16_changed_38 (by rw [c13]; decide) (by rw [c13]; decide) (by rw [c13]; decide) (by decide) ?_
    exact (db_X16_changed_180 C K) (x1) (x2) (y0) s0 _ _ _ h hP hD hS (lv_sub hl [2, 3, 0] rfl)
  have h := nd_neg h c13
  by_cases c14 : x0 = 4
  · have h := nd_pos h c14
    refine lv_tableIn (off := 120) (tgt := 158) hx hb dX16_changed_38 (by rw [c14]; decide) (by rw [c14]; decide) (by rw [c14]; decide) (by decide) ?_
    refine lv_iload_n hx hb dX16_changed_158 rfl (lv_at hl 2 rfl) ?_
    refine lv_iload_n hx hb dX16_changed_159 rfl (lv_at hl 3 rfl) ?_
    refine lv_ixor hx hb dX16_changed_160 ?_
    exact K _ _ _ _ _ _ dX16_changed_161 rfl (Option.some.inj h).symm hP hD hS
  have h := nd_neg h c14
  by_cases c15 : x0 = 5
  · have h := nd_pos h c15
    refine lv_tableIn (off := 142) (tgt := 180) hx hb dX16_changed_38 (by rw [c15]; decide) (by rw [c15]; decide) (by rw [c15]; decide) (by decide) ?_
    exact (db_X16_changed_180 C K) (x1) (x2) (y0) s0 _ _ _ h hP hD hS (lv_sub hl [2, 3, 0] rfl)
  have h := nd_neg h c15
  by_cases c16 : x0 = 6
  · have h := nd_pos h c16
    refine lv_tableIn (off := 142) (tgt := 180) hx hb dX16_changed_38 (by rw [c16]; decide) (by rw [c16]; decide) (by rw [c16]; decide) (by decide) ?_
    exact (db_X16_changed_180 C K) (x1) (x2) (y0) s0 _ _ _ h hP hD hS (lv_sub hl [2, 3, 0] rfl)
  have h := nd_neg h c16
  by_cases c17 : x0 = 7
  · have h := nd_pos h c17
    refine lv_tableIn (off := 142) (tgt := 180) hx hb dX16_changed_38 (by rw [c17]; decide) (by rw [c17]; decide) (by rw [c17]; decide) (by decide) ?_
    exact (db_X16_changed_180 C K) (x1) (x2) (y0) s0 _ _ _ h hP hD hS (lv_sub hl [2, 3, 0] rfl)
  have h := nd_neg h c17
  by_cases c18 : x0 = 8
  · have h := nd_pos h c18
    refine lv_tableIn (off := 128) (tgt := 166) hx hb dX16_changed_38 (by rw [c18]; decide) (by rw [c18]; decide) (by rw [c18]; decide) (by decide) ?_
    refine lv_iload_n hx hb dX16_changed_166 rfl (lv_at hl 2 rfl) ?_
    refine lv_iload_n hx hb dX16_changed_167 rfl (lv_at hl 3 rfl) ?_
    refine lv_ior hx hb dX16_changed_168 ?_
    exact K _ _ _ _ _ _ dX16_changed_169 rfl (Option.some.inj h).symm hP hD hS
  have h := nd_neg h c18
  by_cases c19 : x0 = 9
  · have h := nd_pos h c19
    refine lv_tableIn (off := 142) (tgt := 180) hx hb dX16_changed_38 (by rw [c19]; decide) (by rw [c19]; decide) (by rw [c19]; decide) (by decide) ?_
    exact (db_X16_changed_180 C K) (x1) (x2) (y0) s0 _ _ _ h hP hD hS (lv_sub hl [2, 3, 0] rfl)
  have h := nd_neg h c19
  by_cases c20 : x0 = 10
  · have h := nd_pos h c20
    refine lv_tableIn (off := 142) (tgt := 180) hx hb dX16_changed_38 (by rw [c20]; decide) (by rw [c20]; decide) (by rw [c20]; decide) (by decide) ?_
    exact (db_X16_changed_180 C K) (x1) (x2) (y0) s0 _ _ _ h hP hD hS (lv_sub hl [2, 3, 0] rfl)
  have h := nd_neg h c20
  by_cases c21 : x0 = 11
  · have h := nd_pos h c21
    refine lv_tableIn (off := 142) (tgt := 180) hx hb dX16_changed_38 (by rw [c21]; decide) (by rw [c21]; decide) (by rw [c21]; decide) (by decide) ?_
    exact (db_X16_changed_180 C K) (x1) (x2) (y0) s0 _ _ _ h hP hD hS (lv_sub hl [2, 3, 0] rfl)
  have h := nd_neg h c21
  by_cases c22 : x0 = 12
  · have h := nd_pos h c22
    refine lv_tableIn (off := 124) (tgt := 162) hx hb dX16_changed_38 (by rw [c22]; decide) (by rw [c22]; decide) (by rw [c22]; decide) (by decide) ?_
    refine lv_iload_n hx hb dX16_changed_162 rfl (lv_at hl 2 rfl) ?_
    refine lv_iload_n hx hb dX16_changed_163 rfl (lv_at hl 3 rfl) ?_
    refine lv_iand hx hb dX16_changed_164 ?_
    exact K _ _ _ _ _ _ dX16_changed_165 rfl (Option.some.inj h).symm hP hD hS
  have h := nd_neg h c22
  by_cases c23 : x0 = 13
  · have h := nd_pos h c23
    refine lv_tableIn (off := 142) (tgt := 180) hx hb dX16_changed_38 (by rw [c23]; decide) (by rw [c23]; decide) (by rw [c23]; decide) (by decide) ?_
    exact (db_X16_changed_180 C K) (x1) (x2) (y0) s0 _ _ _ h hP hD hS (lv_sub hl [2, 3, 0] rfl)
  have h := nd_neg h c23
  by_cases c24 : x0 = 14
  · have h := nd_pos h c24
    refine lv_tableIn (off := 142) (tgt := 180) hx hb dX16_changed_38 (by rw [c24]; decide) (by rw [c24]; decide) (by rw [c24]; decide) (by decide) ?_
    exact (db_X16_changed_180 C K) (x1) (x2) (y0) s0 _ _ _ h hP hD hS (lv_sub hl [2, 3, 0] rfl)
  have h := nd_neg h c24
  by_cases c25 : x0 = 15
  · have h := nd_pos h c25
    refine lv_tableIn (off := 142) (tgt := 180) hx hb dX16_changed_38 (by rw [c25]; decide) (by rw [c25]; decide) (by rw [c25]; decide) (by decide) ?_
    exact (db_X16_changed_180 C K) (x1) (x2) (y0) s0 _ _ _ h hP hD hS (lv_sub hl [2, 3, 0] rfl)
  have h := nd_neg h c25
  by_cases c26 : x0 = 16
  · have h := nd_pos h c26
    refine lv_tableIn (off := 132) (tgt := 170) hx hb dX16_changed_38 (by rw [c26]; decide) (by rw [c26]; decide) (by rw [c26]; decide) (by decide) ?_
    exact (db_X16_changed_170 C K) (x1) (x2) (y0) s0 _ _ _ h hP hD hS (lv_sub hl [2, 3, 0] rfl)
  have h := nd_neg h c26
  by_cases c28 : x0 = 17
  · have h := nd_pos h c28
    refine lv_tableIn (off := 142) (tgt := 180) hx hb dX16_changed_38 (by rw [c28]; decide) (by rw [c28]; decide) (by rw [c28]; decide) (by decide) ?_
    exact (db_X16_changed_180 C K) (x1) (x2) (y0) s0 _ _ _ h hP hD hS (lv_sub hl [2, 3, 0] rfl)
  have h := nd_neg h c28
  by_cases c29 : x0 = 18
  · have h := nd_pos h c29
    refine lv_tableIn (off := 142) (tgt := 180) hx hb dX16_changed_38 (by rw [c29]; decide) (by rw [c29]; decide) (by rw [c29]; decide) (by decide) ?_
    exact (db_X16_changed_180 C K) (x1) (x2) (y0) s0 _ _ _ h hP hD hS (lv_sub hl [2, 3, 0] rfl)
  have h := nd_neg h c29
  by_cases c30 : x0 = 19
  · have h := nd_pos h c30
    refine lv_tableIn (off := 142) (tgt := 180) hx hb dX16_changed_38 (by rw [c30]; decide) (by rw [c30]; decide) (by rw [c30]; decide) (by decide) ?_
    exact (db_X16_changed_180 C K) (x1) (x2) (y0) s0 _ _ _ h hP hD hS (lv_sub hl [2, 3, 0] rfl)
  have h := nd_neg h c30
  by_cases c31 : x0 = 20
  · have h := nd_pos h c31
    refine lv_tableIn (off := 142) (tgt := 180) hx hb dX16_changed_38 (by rw [c31]; decide) (by rw [c31]; decide) (by rw [c31]; decide) (by decide) ?_
    exact (db_X16_changed_180 C K) (x1) (x2) (y0) s0 _ _ _ h hP hD hS (lv_sub hl [2, 3, 0] rfl)
  have h := nd_neg h c31
  by_cases c32 : x0 = 21
  · have h := nd_pos h c32
    refine lv_tableIn (off := 142) (tgt := 180) hx hb dX16_changed_38 (by rw [c32]; decide) (by rw [c32]; decide) (by rw [c32]; decide) (by decide) ?_
    exact (db_X16_changed_180 C K) (x1) (x2) (y0) s0 _ _ _ h hP hD hS (lv_sub hl [2, 3, 0] rfl)
  have h := nd_neg h c32
  by_cases c33 : x0 = 22
  · have h := nd_pos h c33
    refine lv_tableIn (off := 142) (tgt := 180) hx hb dX16_changed_38 (by rw [c33]; decide) (by rw [c33]; decide) (by rw [c33]; decide) (by decide) ?_
    exact (db_X16_changed_180 C K) (x1) (x2) (y0) s0 _ _ _ h hP hD hS (lv_sub hl [2, 3, 0] rfl)
  have h := nd_neg h c33
  by_cases c34 : x0 = 23
  · have h := nd_pos h c34
    refine lv_tableIn (off := 142) (tgt := 180) hx hb dX16_changed_38 (by rw [c34]; decide) (by rw [c34]; decide) (by rw [c34]; decide) (by decide) ?_
    exact (db_X16_changed_180 C K) (x1) (x2) (y0) s0 _ _ _ h hP hD hS (lv_sub hl [2, 3, 0] rfl)
  have h := nd_neg h c34
  by_cases c35 : x0 = 24
  · have h := nd_pos h c35
    refine lv_tableIn (off := 132) (tgt := 170) hx hb dX16_changed_38 (by rw [c35]; decide) (by rw [c35]; decide) (by rw [c35]; decide) (by decide) ?_
    exact (db_X16_changed_170 C K) (x1) (x2) (y0) s0 _ _ _ h hP hD hS (lv_sub hl [2, 3, 0] rfl)
  have h := nd_neg h c35
  refine lv_tableOut (tgt := 180) hx hb dX16_changed_38 (by have g0 := nv_nei c9 (k := 0) (by decide); have g1 := nv_nei c10 (k := 1) (by decide); have g2 := nv_nei c11 (k := 2) (by decide); have g3 := nv_nei c13 (k := 3) (by decide); have g4 := nv_nei c14 (k := 4) (by decide); have g5 := nv_nei c15 (k := 5) (by decide); have g6 := nv_nei c16 (k := 6) (by decide); have g7 := nv_nei c17 (k := 7) (by decide); have g8 := nv_nei c18 (k := 8) (by decide); have g9 := nv_nei c19 (k := 9) (by decide); have g10 := nv_nei c20 (k := 10) (by decide); have g11 := nv_nei c21 (k := 11) (by decide); have g12 := nv_nei c22 (k := 12) (by decide); have g13 := nv_nei c23 (k := 13) (by decide); have g14 := nv_nei c24 (k := 14) (by decide); have g15 := nv_nei c25 (k := 15) (by decide); have g16 := nv_nei c26 (k := 16) (by decide); have g17 := nv_nei c28 (k := 17) (by decide); have g18 := nv_nei c29 (k := 18) (by decide); have g19 := nv_nei c30 (k := 19) (by decide); have g20 := nv_nei c31 (k := 20) (by decide); have g21 := nv_nei c32 (k := 21) (by decide); have g22 := nv_nei c33 (k := 22) (by decide); have g23 := nv_nei c34 (k := 23) (by decide); have g24 := nv_nei c35 (k := 24) (by decide); omega) (by decide) ?_
  exact (db_X16_changed_180 C K) (x1) (x2) (y0) s0 _ _ _ h hP hD hS (lv_sub hl [2, 3, 0] rfl)
set_option maxHeartbeats 40000000 in
set_option maxRecDepth 100000 in
theorem db_X16_changed_0 {p : Program} {l : Launch} {e : Env} {s : State} {m : MethodId} {args : Array Value} {below : List Frame} {meth : Method} {c : Code} {Q : State → Prop} {A : Nat → Prop} {dC : Nat → ClassId} {dI : Nat → Nat → Nat} {a : Nat → Nat} {ac : Nat → ClassId} {n : Nat} {r : Int32 × (Unit)} (C : nd_C p l s m args c A (dC, dI) cX16_changed 4 RX16 ow_dm_X16_changed (dk_P ac)) (K : nd_Ki p l e (headSpec ow_dm_X16_changed ({ frames := 1, cells := 0, slots := 0, locals := 20 })).room s m args below meth c Q A (dC, dI) cX16_changed .int (Unit) (dw_P a ac) r) : dj_X16_changed_0 p l e s m args below meth c Q A dC dI a ac (df_X16_changed_0 n) r := by
  obtain ⟨hlt, hx, hb, hml, hown, hts, hN, hA, hK⟩ := id C
  intro v0 v1 v2 s0 H locs ls h hP hD hS hl
  unfold df_X16_changed_0 at h
  refine lv_iload_n hx hb dX16_changed_0 rfl (lv_at hl 0 rfl) ?_
  refine lv_bipush (v := 24) hx hb dX16_changed_1 (by decide) ?_
  refine lv_icmp_ge (tgt := 19) hx hb dX16_changed_3 (by decide) (fun c1 => ?_) (fun c1 => ?_)
  · have h := nd_pos h c1
    refine lv_iload_n hx hb dX16_changed_19 rfl (lv_at hl 1 rfl) ?_
    obtain ⟨q2, s3, hq, h⟩ := nd_b2_e h
    have hPc : va_P (dC, dI) vwCl (dw_P a ac ()) H := nd_p0
    have hDc : va_D A (dw_P a ac ()) := nd_d0
    have hKc : va_K (dC, dI) vwCl (dk_P ac) s := nd_y0 hK
    have hFc : ∀ q, va_A (dw_P a ac ()) H.size q → A q := nd_r0 hS hA
    refine nd_cSl (As := [.int v1]) (rest := []) (q := q2) (w' := dw_P a ac s3) ⟨hx, hb, hml, hown, hts⟩ (fun sz => dm_X16_plain l hlt dC dI a ac n (v1) () hq sz) (cwS 1 hts gi_dm_X16_changed_0 rfl rfl rfl (by decide +kernel) ⟨Nat.le_of_ble_eq_true rfl, Nat.le_of_ble_eq_true rfl⟩) hPc hDc hKc hS hA hN rfl hl.1 rfl (Nat.le_of_ble_eq_true rfl) dX16_changed_20 (fun H locs hP1 hD1 hk1 hS => ?_)
    have hP := nd_n0 hP hk1
    refine lv_iload_n hx hb dX16_changed_23 rfl (lv_at hl 2 rfl) ?_
    obtain ⟨q5, s6, hq, h⟩ := nd_b2_e h
    have hPc : va_P (dC, dI) vwCl (dw_P a ac ()) H := nd_p0
    have hDc : va_D A (dw_P a ac ()) := nd_d0
    have hKc : va_K (dC, dI) vwCl (dk_P ac) s := nd_y0 hK
    have hFc : ∀ q, va_A (dw_P a ac ()) H.size q → A q := nd_r0 hS hA
    refine nd_cSl (As := [.int v2]) (rest := [.long q2]) (q := q5) (w' := dw_P a ac s6) ⟨hx, hb, hml, hown, hts⟩ (fun sz => dm_X16_plain l hlt dC dI a ac n (v2) () hq sz) (cwS 1 hts gi_dm_X16_changed_0 rfl rfl rfl (by decide +kernel) ⟨Nat.le_of_ble_eq_true rfl, Nat.le_of_ble_eq_true rfl⟩) hPc hDc hKc hS hA hN rfl hl.1 rfl (Nat.le_of_ble_eq_true rfl) dX16_changed_24 (fun H locs hP1 hD1 hk1 hS => ?_)
    have hP := nd_n0 hP hk1
    refine W.lcmp hx hb dX16_changed_27 ?_
    refine lv_if_ge (tgt := 35) hx hb dX16_changed_28 (by decide) (fun c8 => ?_) (fun c8 => ?_)
    · have h := nd_pos h c8
      refine lv_iconst (v := 0) hx hb dX16_changed_35 (by decide) ?_
      exact (db_X16_changed_36 C K) (v0) (v1) (v2) (0) s0 _ _ _ h hP hD hS (lv_sub hl [0, 1, 2] rfl)
    · have h := nd_neg h c8
      refine lv_iconst (v := 1) hx hb dX16_changed_31 (by decide) ?_
      refine lv_goto (tgt := 36) hx hb dX16_changed_32 (by decide) ?_
      exact (db_X16_changed_36 C K) (v0) (v1) (v2) (1) s0 _ _ _ h hP hD hS (lv_sub hl [0, 1, 2] rfl)
  · have h := nd_neg h c1
    refine lv_iload_n hx hb dX16_changed_6 rfl (lv_at hl 1 rfl) ?_
    refine lv_iload_n hx hb dX16_changed_7 rfl (lv_at hl 2 rfl) ?_
    refine lv_icmp_ge (tgt := 15) hx hb dX16_changed_8 (by decide) (fun c36 => ?_) (fun c36 => ?_)
    · have h := nd_pos h c36
      refine lv_iconst (v := 0) hx hb dX16_changed_15 (by decide) ?_
      refine lv_goto (tgt := 36) hx hb dX16_changed_16 (by decide) ?_
      exact (db_X16_changed_36 C K) (v0) (v1) (v2) (0) s0 _ _ _ h hP hD hS (lv_sub hl [0, 1, 2] rfl)
    · have h := nd_neg h c36
      refine lv_iconst (v := 1) hx hb dX16_changed_11 (by decide) ?_
      refine lv_goto (tgt := 36) hx hb dX16_changed_12 (by decide) ?_
      exact (db_X16_changed_36 C K) (v0) (v1) (v2) (1) s0 _ _ _ h hP hD hS (lv_sub hl [0, 1, 2] rfl)
set_option maxHeartbeats 40000000 in
set_option maxRecDepth 100000 in
theorem dm_X16_changed (l : Launch) (hlt : l.stackTraces = false) (dC : Nat → ClassId) (dI : Nat → Nat → Nat) (a : Nat → Nat) (ac : Nat → ClassId) (n : Nat) (v0 : Int32) (v1 : Int32) (v2 : Int32) (s0 : Unit) {r : Int32 × (Unit)} (h : df_X16_changed n v0 v1 v2 s0 = some r) (sz : Nat) : Met l yX16_changed ow_dm_X16_changed ({ frames := 1, cells := 0, slots := 0, locals := 20 }) (va_Pc [.int v0, .int v1, .int v2] (fun U => U.heap.size = sz ∧ va_P (dC, dI) vwCl (dw_P a ac s0) U.heap ∧ va_K (dC, dI) vwCl (dk_P ac) U ∧ va_D (fun _ => True) (dw_P a ac s0) ∧ nv_E dI (va_A (dw_P a ac s0) sz) U)) (va_Qi (fun x _ => x = r.1) (fun (_ : Unit) t => va_P (dC, dI) vwCl (dw_P a ac r.2) t.heap ∧ va_K (dC, dI) vwCl (dk_P ac) t ∧ va_D (va_A (dw_P a ac s0) sz) (dw_P a ac r.2)) (va_A (dw_P a ac s0) sz)) 0 0 (va_A (dw_P a ac s0) sz) := by
  refine Met.ofW (cc := cX16_changed) (maxL := 4) (ret := (some .int)) (by decide) rfl ?_
  intro p e s m args below meth c s₁ B hml hv
  obtain ⟨rfl, hsz, hP, hK, hD0, hN⟩ := hv
  have hx := B.exec
  have hb := B.bytes
  have hr := B.returns
  have hts := atoms_spec (ws := ow_dm_X16_changed) B.pre
  have hown : s.vm.findClass RX16 = some m.cls := findClass_of_methodNamed B.named
  have hlocks := B.notSynchronized
  subst hsz
  have hD := hD0.self (sz := s.heap.size)
  generalize hAe : va_A (dw_P a ac s0) s.heap.size = A at hD hN ⊢
  have hA : ∀ q : Nat, s.heap.size ≤ q → A q := fun q h => by rw [← hAe]; exact Or.inr h
  have hl := lv_entry ([.int v0, .int v1, .int v2]) (n := 4) (Nat.le_of_ble_eq_true rfl)
  rw [lg_entry_eq]
  generalize (lg_sl ([.int v0, .int v1, .int v2]) ++ List.replicate (4 - (lg_sl ([.int v0, .int v1, .int v2])).length) Slot.unset).toArray = ls at hl ⊢
  have hl : lv_has ls 4 [(0, .int v0), (1, .int v1), (2, .int v2)] := hl
  exact db_X16_changed_0 (dC := dC) (dI := dI) (a := a) (ac := ac) (n := n) (r := r) ⟨hlt, hx, hb, hml, hown, hts, hN, hA, hK⟩ (fun pc v τ H locs ls d z er hP hD hS => by subst er; exact W.zret (v := v) hx hb hr z (fun t ht hW => ⟨⟨v, (), rfl, rfl, by rw [ht]; exact hP, va_K.moved hW.alike hK, hD⟩, hS.F ht⟩) hS.2.2 d) v0 v1 v2 s0 _ _ _ h hP hD va_S.rf (lv_sub hl [0, 1, 2] rfl)
def ow_dm_X16_atomic : List Cond := Cond.code yX16_atomic cX16_atomic 9 (some .int) :: ([Cond.methodLink RX16 356 yX16_illegal, Cond.instanceMethod yX16_illegal, Cond.selects RX16 yX16_illegal yX16_illegal, Cond.initialized RX16, Cond.fieldLink RX16 232 "TimeMachineModel$Machine" "p" "I", Cond.methodLink RX16 218 yX16_may, Cond.instanceMethod yX16_may, Cond.selects RX16 yX16_may yX16_may, Cond.methodLink RX16 403 yX16_word, Cond.instanceMethod yX16_word, Cond.selects RX16 yX16_word yX16_word, Cond.fieldLink RX16 135 "TimeMachineModel$Machine" "reserved" "I", Cond.methodLink RX16 406 yX16_changed, Cond.static yX16_changed, Cond.methodLink RX16 372 yX16_stored, Cond.instanceMethod yX16_stored, Cond.selects RX16 yX16_stored yX16_stored, Cond.fieldLink RX16 336 "TimeMachineModel$Machine" "met" "I", Cond.methodLink RX16 339 yX16_meet, Cond.instanceMethod yX16_meet, Cond.selects RX16 yX16_meet yX16_meet, Cond.methodLink RX16 297 yX16_part, Cond.static yX16_part] ++ (u_ws RX16 TX16 56 ++ (ow_dm_X16_illegal ++ (ow_dm_X16_may ++ (ow_dm_X16_word ++ (ow_dm_X16_changed ++ (ow_dm_X16_stored ++ (ow_dm_X16_meet ++ (ow_dm_X16_part ++ [])))))))))
theorem gd_dm_X16_atomic : ∀ w ∈ ow_dm_X16_atomic, (w.onTables && w.keeps) = true ∨ ∃ ty, w = Cond.arrayClass ty := List.forall_mem_cons.mpr ⟨good_of_word rfl, List.forall_mem_append.mpr ⟨fun w h => good_of_word (List.all_eq_true.mp (by decide +kernel) w h), List.forall_mem_append.mpr ⟨gu_X16, List.forall_mem_append.mpr ⟨gd_dm_X16_illegal, List.forall_mem_append.mpr ⟨gd_dm_X16_may, List.forall_mem_append.mpr ⟨gd_dm_X16_word, List.forall_mem_append.mpr ⟨gd_dm_X16_changed, List.forall_mem_append.mpr ⟨gd_dm_X16_stored, List.forall_mem_append.mpr ⟨gd_dm_X16_meet, List.forall_mem_append.mpr ⟨gd_dm_X16_part, fun _ h => nomatch h⟩⟩⟩⟩⟩⟩⟩⟩⟩⟩
theorem hi_dm_X16_atomic_X16 : ∀ w ∈ u_ws RX16 TX16 56, w ∈ ow_dm_X16_atomic := fun w h => List.mem_cons_of_mem _ (List.mem_append_right _ (List.mem_append_left _ h))
theorem gi_dm_X16_atomic_0 : GoodIn ow_dm_X16_atomic (wsV RX16 356 RX16 yX16_illegal ow_dm_X16_illegal) := goodIn_app (goodIn_of _ (by decide +kernel)) (fun w h => ⟨List.mem_cons_of_mem _ (List.mem_append_right _ (List.mem_append_right _ (List.mem_append_left _ h))), gd_dm_X16_illegal w h⟩)
theorem gi_dm_X16_atomic_1 : GoodIn ow_dm_X16_atomic (wsV RX16 218 RX16 yX16_may ow_dm_X16_may) := goodIn_app (goodIn_of _ (by decide +kernel)) (fun w h => ⟨List.mem_cons_of_mem _ (List.mem_append_right _ (List.mem_append_right _ (List.mem_append_right _ (List.mem_append_left _ h)))), gd_dm_X16_may w h⟩)
theorem gi_dm_X16_atomic_2 : GoodIn ow_dm_X16_atomic (wsV RX16 403 RX16 yX16_word ow_dm_X16_word) := goodIn_app (goodIn_of _ (by decide +kernel)) (fun w h => ⟨List.mem_cons_of_mem _ (List.mem_append_right _ (List.mem_append_right _ (List.mem_append_right _ (List.mem_append_right _ (List.mem_append_left _ h))))), gd_dm_X16_word w h⟩)
theorem gi_dm_X16_atomic_3 : GoodIn ow_dm_X16_atomic (wsS RX16 406 yX16_changed ow_dm_X16_changed) := goodIn_app (goodIn_of _ (by decide +kernel)) (fun w h => ⟨List.mem_cons_of_mem _ (List.mem_append_right _ (List.mem_append_right _ (List.mem_append_right _ (List.mem_append_right _ (List.mem_append_right _ (List.mem_append_left _ h)))))), gd_dm_X16_changed w h⟩)
theorem gi_dm_X16_atomic_4 : GoodIn ow_dm_X16_atomic (wsV RX16 372 RX16 yX16_stored ow_dm_X16_stored) := goodIn_app (goodIn_of _ (by decide +kernel)) (fun w h => ⟨List.mem_cons_of_mem _ (List.mem_append_right _ (List.mem_append_right _ (List.mem_append_right _ (List.mem_append_right _ (List.mem_append_right _ (List.mem_append_right _ (List.mem_append_left _ h))))))), gd_dm_X16_stored w h⟩)
theorem gi_dm_X16_atomic_5 : GoodIn ow_dm_X16_atomic (wsV RX16 339 RX16 yX16_meet ow_dm_X16_meet) := goodIn_app (goodIn_of _ (by decide +kernel)) (fun w h => ⟨List.mem_cons_of_mem _ (List.mem_append_right _ (List.mem_append_right _ (List.mem_append_right _ (List.mem_append_right _ (List.mem_append_right _ (List.mem_append_right _ (List.mem_append_right _ (List.mem_append_left _ h)))))))), gd_dm_X16_meet w h⟩)
theorem gi_dm_X16_atomic_6 : GoodIn ow_dm_X16_atomic (wsS RX16 297 yX16_part ow_dm_X16_part) := goodIn_app (goodIn_of _ (by decide +kernel)) (fun w h => ⟨List.mem_cons_of_mem _ (List.mem_append_right _ (List.mem_append_right _ (List.mem_append_right _ (List.mem_append_right _ (List.mem_append_right _ (List.mem_append_right _ (List.mem_append_right _ (List.mem_append_right _ (List.mem_append_left _ h))))))))), gd_dm_X16_part w h⟩)
def dj_X16_atomic_73 (p : Program) (l : Launch) (e : Env) (s : State) (m : MethodId) (args : Array Value) (below : List Frame) (meth : Method) (c : Code) (Q : State → Prop) (A : Nat → Prop) (dC : Nat → ClassId) (dI : Nat → Nat → Nat) (a : Nat → Nat) (ac : Nat → ClassId) (g : (St × (St)) → Option (Int32 × (St × (St)))) (r : Int32 × (St × (St))) : Prop := ∀ (s0 : St × (St)) (H : Heap) (locs : List Loc) (ls : Array Slot), g s0 = some r → va_P (dC, dI) vwCl (dw_X16 a ac s0) H → va_D A (dw_X16 a ac s0) → va_S A s.heap H locs → lv_has ls 9 [(0, .ref (a 0))] → W p l e (headSpec ow_dm_X16_atomic ({ frames := 4, cells := 0, slots := 0, locals := 84 })).room s m args below meth c H locs 0 0 Q (F0 m 73 ls [])
def dj_X16_atomic_246 (p : Program) (l : Launch) (e : Env) (s : State) (m : MethodId) (args : Array Value) (below : List Frame) (meth : Method) (c : Code) (Q : State → Prop) (A : Nat → Prop) (dC : Nat → ClassId) (dI : Nat → Nat → Nat) (a : Nat → Nat) (ac : Nat → ClassId) (g : Int32 → (St × (St)) → Option (Int32 × (St × (St)))) (r : Int32 × (St × (St))) : Prop := ∀ (y0 : Int32) (s0 : St × (St)) (H : Heap) (locs : List Loc) (ls : Array Slot), g y0 s0 = some r → va_P (dC, dI) vwCl (dw_X16 a ac s0) H → va_D A (dw_X16 a ac s0) → va_S A s.heap H locs → lv_has ls 9 [] → W p l e (headSpec ow_dm_X16_atomic ({ frames := 4, cells := 0, slots := 0, locals := 84 })).room s m args below meth c H locs 0 0 Q (F0 m 246 ls [.int y0])
def dj_X16_atomic_235 (p : Program) (l : Launch) (e : Env) (s : State) (m : MethodId) (args : Array Value) (below : List Frame) (meth : Method) (c : Code) (Q : State → Prop) (A : Nat → Prop) (dC : Nat → ClassId) (dI : Nat → Nat → Nat) (a : Nat → Nat) (ac : Nat → ClassId) (g : Int32 → Int32 → (St × (St)) → Option (Int32 × (St × (St)))) (r : Int32 × (St × (St))) : Prop := ∀ (x3 : Int32) (x7 : Int32) (s0 : St × (St)) (H : Heap) (locs : List Loc) (ls : Array Slot), g x3 x7 s0 = some r → va_P (dC, dI) vwCl (dw_X16 a ac s0) H → va_D A (dw_X16 a ac s0) → va_S A s.heap H locs → lv_has ls 9 [(3, .int x3), (7, .int x7)] → W p l e (headSpec ow_dm_X16_atomic ({ frames := 4, cells := 0, slots := 0, locals := 84 })).room s m args below meth c H locs 0 0 Q (F0 m 235 ls [])
def dj_X16_atomic_215 (p : Program) (l : Launch) (e : Env) (s : State) (m : MethodId) (args : Array Value) (below : List Frame) (meth : Method) (c : Code) (Q : State → Prop) (A : Nat → Prop) (dC : Nat → ClassId) (dI : Nat → Nat → Nat) (a : Nat → Nat) (ac : Nat → ClassId) (g : Int32 → Int32 → Int32 → Int32 → Int32 → (St × (St)) → Option (Int32 × (St × (St)))) (r : Int32 × (St × (St))) : Prop := ∀ (x3 : Int32) (x7 : Int32) (y1 : Int32) (y2 : Int32) (y3 : Int32) (s0 : St × (St)) (H : Heap) (locs : List Loc) (ls : Array Slot), g x3 x7 y1 y2 y3 s0 = some r → va_P (dC, dI) vwCl (dw_X16 a ac s0) H → va_D A (dw_X16 a ac s0) → va_S A s.heap H locs → lv_has ls 9 [(0, .ref (a 0)), (3, .int x3), (7, .int x7)] → W p l e (headSpec ow_dm_X16_atomic ({ frames := 4, cells := 0, slots := 0, locals := 84 })).room s m args below meth c H locs 0 0 Q (F0 m 215 ls [.int y3, .int y2, .int y1, .ref (a 0)])
def dj_X16_atomic_193 (p : Program) (l : Launch) (e : Env) (s : State) (m : MethodId) (args : Array Value) (below : List Frame) (meth : Method) (c : Code) (Q : State → Prop) (A : Nat → Prop) (dC : Nat → ClassId) (dI : Nat → Nat → Nat) (a : Nat → Nat) (ac : Nat → ClassId) (g : Int32 → Int32 → Int32 → Int32 → (St × (St)) → Option (Int32 × (St × (St)))) (r : Int32 × (St × (St))) : Prop := ∀ (x3 : Int32) (x4 : Int32) (x5 : Int32) (x7 : Int32) (s0 : St × (St)) (H : Heap) (locs : List Loc) (ls : Array Slot), g x3 x4 x5 x7 s0 = some r → va_P (dC, dI) vwCl (dw_X16 a ac s0) H → va_D A (dw_X16 a ac s0) → va_S A s.heap H locs → lv_has ls 9 [(0, .ref (a 0)), (3, .int x3), (4, .int x4), (5, .int x5), (7, .int x7)] → W p l e (headSpec ow_dm_X16_atomic ({ frames := 4, cells := 0, slots := 0, locals := 84 })).room s m args below meth c H locs 0 0 Q (F0 m 193 ls [])
def dj_X16_atomic_174 (p : Program) (l : Launch) (e : Env) (s : State) (m : MethodId) (args : Array Value) (below : List Frame) (meth : Method) (c : Code) (Q : State → Prop) (A : Nat → Prop) (dC : Nat → ClassId) (dI : Nat → Nat → Nat) (a : Nat → Nat) (ac : Nat → ClassId) (g : Int32 → Int32 → Int32 → Int32 → Int32 → (St × (St)) → Option (Int32 × (St × (St)))) (r : Int32 × (St × (St))) : Prop := ∀ (x3 : Int32) (x4 : Int32) (x5 : Int32) (x7 : Int32) (y0 : Int32) (s0 : St × (St)) (H : Heap) (locs : List Loc) (ls : Array Slot), g x3 x4 x5 x7 y0 s0 = some r → va_P (dC, dI) vwCl (dw_X16 a ac s0) H → va_D A (dw_X16 a ac s0) → va_S A s.heap H locs → lv_has ls 9 [(0, .ref (a 0)), (3, .int x3), (4, .int x4), (5, .int x5), (7, .int x7)] → W p l e (headSpec ow_dm_X16_atomic ({ frames := 4, cells := 0, slots := 0, locals := 84 })).room s m args below meth c H locs 0 0 Q (F0 m 174 ls [.int y0])
def dj_X16_atomic_117 (p : Program) (l : Launch) (e : Env) (s : State) (m : MethodId) (args : Array Value) (below : List Frame) (meth : Method) (c : Code) (Q : State → Prop) (A : Nat → Prop) (dC : Nat → ClassId) (dI : Nat → Nat → Nat) (a : Nat → Nat) (ac : Nat → ClassId) (g : Int32 → Int32 → Int32 → (St × (St)) → Option (Int32 × (St × (St)))) (r : Int32 × (St × (St))) : Prop := ∀ (x3 : Int32) (x4 : Int32) (x5 : Int32) (s0 : St × (St)) (H : Heap) (locs : List Loc) (ls : Array Slot), g x3 x4 x5 s0 = some r → va_P (dC, dI) vwCl (dw_X16 a ac s0) H → va_D A (dw_X16 a ac s0) → va_S A s.heap H locs → lv_has ls 9 [(0, .ref (a 0)), (3, .int x3), (4, .int x4), (5, .int x5)] → W p l e (headSpec ow_dm_X16_atomic ({ frames := 4, cells := 0, slots := 0, locals := 84 })).room s m args below meth c H locs 0 0 Q (F0 m 117 ls [])
def dj_X16_atomic_78 (p : Program) (l : Launch) (e : Env) (s : State) (m : MethodId) (args : Array Value) (below : List Frame) (meth : Method) (c : Code) (Q : State → Prop) (A : Nat → Prop) (dC : Nat → ClassId) (dI : Nat → Nat → Nat) (a : Nat → Nat) (ac : Nat → ClassId) (g : Int32 → Int32 → Int32 → (St × (St)) → Option (Int32 × (St × (St)))) (r : Int32 × (St × (St))) : Prop := ∀ (x3 : Int32) (x4 : Int32) (x5 : Int32) (s0 : St × (St)) (H : Heap) (locs : List Loc) (ls : Array Slot), g x3 x4 x5 s0 = some r → va_P (dC, dI) vwCl (dw_X16 a ac s0) H → va_D A (dw_X16 a ac s0) → va_S A s.heap H locs → lv_has ls 9 [(0, .ref (a 0)), (3, .int x3), (4, .int x4), (5, .int x5)] → W p l e (headSpec ow_dm_X16_atomic ({ frames := 4, cells := 0, slots := 0, locals := 84 })).room s m args below meth c H locs 0 0 Q (F0 m 78 ls [])
def dj_X16_atomic_46 (p : Program) (l : Launch) (e : Env) (s : State) (m : MethodId) (args : Array Value) (below : List Frame) (meth : Method) (c : Code) (Q : State → Prop) (A : Nat → Prop) (dC : Nat → ClassId) (dI : Nat → Nat → Nat) (a : Nat → Nat) (ac : Nat → ClassId) (g : Int32 → Int32 → Int32 → Int32 → Int32 → Int32 → (St × (St)) → Option (Int32 × (St × (St)))) (r : Int32 × (St × (St))) : Prop := ∀ (x1 : Int32) (x2 : Int32) (x3 : Int32) (x4 : Int32) (x5 : Int32) (y0 : Int32) (s0 : St × (St)) (H : Heap) (locs : List Loc) (ls : Array Slot), g x1 x2 x3 x4 x5 y0 s0 = some r → va_P (dC, dI) vwCl (dw_X16 a ac s0) H → va_D A (dw_X16 a ac s0) → va_S A s.heap H locs → lv_has ls 9 [(0, .ref (a 0)), (1, .int x1), (2, .int x2), (3, .int x3), (4, .int x4), (5, .int x5)] → W p l e (headSpec ow_dm_X16_atomic ({ frames := 4, cells := 0, slots := 0, locals := 84 })).room s m args below meth c H locs 0 0 Q (F0 m 46 ls [.int y0])
def dj_X16_atomic_41 (p : Program) (l : Launch) (e : Env) (s : State) (m : MethodId) (args : Array Value) (below : List Frame) (meth : Method) (c : Code) (Q : State → Prop) (A : Nat → Prop) (dC : Nat → ClassId) (dI : Nat → Nat → Nat) (a : Nat → Nat) (ac : Nat → ClassId) (g : Int32 → Int32 → Int32 → Int32 → Int32 → (St × (St)) → Option (Int32 × (St × (St)))) (r : Int32 × (St × (St))) : Prop := ∀ (x1 : Int32) (x2 : Int32) (x3 : Int32) (x4 : Int32) (x5 : Int32) (s0 : St × (St)) (H : Heap) (locs : List Loc) (ls : Array Slot), g x1 x2 x3 x4 x5 s0 = some r → va_P (dC, dI) vwCl (dw_X16 a ac s0) H → va_D A (dw_X16 a ac s0) → va_S A s.heap H locs → lv_has ls 9 [(0, .ref (a 0)), (1, .int x1), (2, .int x2), (3, .int x3), (4, .int x4), (5, .int x5)] → W p l e (headSpec ow_dm_X16_atomic ({ frames := 4, cells := 0, slots := 0, locals := 84 })).room s m args below meth c H locs 0 0 Q (F0 m 41 ls [])
def dj_X16_atomic_0 (p : Program) (l : Launch) (e : Env) (s : State) (m : MethodId) (args : Array Value) (below : List Frame) (meth : Method) (c : Code) (Q : State → Prop) (A : Nat → Prop) (dC : Nat → ClassId) (dI : Nat → Nat → Nat) (a : Nat → Nat) (ac : Nat → ClassId) (g : Int32 → Int32 → Int32 → Int32 → Int32 → (St × (St)) → Option (Int32 × (St × (St)))) (r : Int32 × (St × (St))) : Prop := ∀ (v0 : Int32) (v1 : Int32) (v2 : Int32) (v3 : Int32) (v4 : Int32) (s0 : St × (St)) (H : Heap) (locs : List Loc) (ls : Array Slot), g v0 v1 v2 v3 v4 s0 = some r → va_P (dC, dI) vwCl (dw_X16 a ac s0) H → va_D A (dw_X16 a ac s0) → va_S A s.heap H locs → lv_has ls 9 [(0, .ref (a 0)), (1, .int v0), (2, .int v1), (3, .int v2), (4, .int v3), (5, .int v4)] → W p l e (headSpec ow_dm_X16_atomic ({ frames := 4, cells := 0, slots := 0, locals := 84 })).room s m args below meth c H locs 0 0 Q (F0 m 0 ls [])
set_option maxHeartbeats 40000000 in
set_option maxRecDepth 100000 in
theorem db_X16_atomic_73 {p : Program} {l : Launch} {e : Env} {s : State} {m : MethodId} {args : Array Value} {below : List Frame} {meth : Method} {c : Code} {Q : State → Prop} {A : Nat → Prop} {dC : Nat → ClassId} {dI : Nat → Nat → Nat} {a : Nat → Nat} {ac : Nat → ClassId} {n : Nat} {r : Int32 × (St × (St))} (C : nd_C p l s m args c A (dC, dI) cX16_atomic 9 RX16 ow_dm_X16_atomic (dk_X16 ac)) (K : nd_Ki p l e (headSpec ow_dm_X16_atomic ({ frames := 4, cells := 0, slots := 0, locals := 84 })).room s m args below meth c Q A (dC, dI) cX16_atomic .int (St × (St)) (dw_X16 a ac) r) : dj_X16_atomic_73 p l e s m args below meth c Q A dC dI a ac (df_X16_atomic_73 n) r := by
  obtain ⟨hlt, hx, hb, hml, hown, hts, hN, hA, hK⟩ := id C
  intro s0 H locs ls h hP hD hS hl
  unfold df_X16_atomic_73 at h
  refine lv_aload_n hx hb dX16_atomic_73 rfl (lv_at hl 0 rfl) ?_
  obtain ⟨q3, s4, hq, h⟩ := nd_b2_e h
  have hPc := hP
  have hDc := hD
  have hKc := hK
  have hFc := nd_rs hD hS hA
  refine nd_cVi (As := []) (rest := []) (q := q3) (w' := dw_X16 a ac s4) ⟨hx, hb, hml, hown, hts⟩ (fun sz => dm_X16_illegal l hlt dC dI a ac n  s0 hq sz) (cwV 0 hts gi_dm_X16_atomic_0 rfl rfl rfl (by decide +kernel) ⟨Nat.le_of_ble_eq_true rfl, Nat.le_of_ble_eq_true rfl⟩) hPc hDc hKc hS hA hN (va_recv hKc hPc (ci := 17) (q0 := 0) rfl rfl) rfl hl.1 rfl (Nat.le_of_ble_eq_true rfl) dX16_atomic_74 (fun H locs hP1 hD1 hk1 hS => ?_)
  have hP := hP1
  have hD := hD1.weaken (fun k q _ h => hFc q.1 h)
  exact K _ _ _ _ _ _ dX16_atomic_77 rfl (Option.some.inj h).symm hP hD hS
set_option maxHeartbeats 40000000 in
set_option maxRecDepth 100000 in
theorem db_X16_atomic_246 {p : Program} {l : Launch} {e : Env} {s : State} {m : MethodId} {args : Array Value} {below : List Frame} {meth : Method} {c : Code} {Q : State → Prop} {A : Nat → Prop} {dC : Nat → ClassId} {dI : Nat → Nat → Nat} {a : Nat → Nat} {ac : Nat → ClassId} {n : Nat} {r : Int32 × (St × (St))} (C : nd_C p l s m args c A (dC, dI) cX16_atomic 9 RX16 ow_dm_X16_atomic (dk_X16 ac)) (K : nd_Ki p l e (headSpec ow_dm_X16_atomic ({ frames := 4, cells := 0, slots := 0, locals := 84 })).room s m args below meth c Q A (dC, dI) cX16_atomic .int (St × (St)) (dw_X16 a ac) r) : dj_X16_atomic_246 p l e s m args below meth c Q A dC dI a ac (df_X16_atomic_246 n) r := by
  obtain ⟨hlt, hx, hb, hml, hown, hts, hN, hA, hK⟩ := id C
  intro y0 s0 H locs ls h hP hD hS hl
  unfold df_X16_atomic_246 at h
  exact K _ _ _ _ _ _ dX16_atomic_246 rfl (Option.some.inj h).symm hP hD hS
set_option maxHeartbeats 40000000 in
set_option maxRecDepth 100000 in
theorem db_X16_atomic_235 {p : Program} {l : Launch} {e : Env} {s : State} {m : MethodId} {args : Array Value} {below : List Frame} {meth : Method} {c : Code} {Q : State → Prop} {A : Nat → Prop} {dC : Nat → ClassId} {dI : Nat → Nat → Nat} {a : Nat → Nat} {ac : Nat → ClassId} {n : Nat} {r : Int32 × (St × (St))} (C : nd_C p l s m args c A (dC, dI) cX16_atomic 9 RX16 ow_dm_X16_atomic (dk_X16 ac)) (K : nd_Ki p l e (headSpec ow_dm_X16_atomic ({ frames := 4, cells := 0, slots := 0, locals := 84 })).room s m args below meth c Q A (dC, dI) cX16_atomic .int (St × (St)) (dw_X16 a ac) r) : dj_X16_atomic_235 p l e s m args below meth c Q A dC dI a ac (df_X16_atomic_235 n) r := by
  obtain ⟨hlt, hx, hb, hml, hown, hts, hN, hA, hK⟩ := id C
  intro x3 x7 s0 H locs ls h hP hD hS hl
  unfold df_X16_atomic_235 at h
  refine lv_iload_n hx hb dX16_atomic_235 rfl (lv_at hl 0 rfl) ?_
  refine lv_iconst (v := 3) hx hb dX16_atomic_236 (by decide) ?_
  refine lv_icmp_ne (tgt := 244) hx hb dX16_atomic_237 (by decide) (fun c28 => ?_) (fun c28 => ?_)
  · have h := nd_neg h c28
    refine lv_iload hx hb dX16_atomic_244 (lv_at hl 1 rfl) ?_
    exact (db_X16_atomic_246 C K) (x7) s0 _ _ _ h hP hD hS (lv_sub hl [] rfl)
  · have h := nd_pos h c28
    refine lv_iconst (v := 0) hx hb dX16_atomic_240 (by decide) ?_
    refine lv_goto (tgt := 246) hx hb dX16_atomic_241 (by decide) ?_
    exact (db_X16_atomic_246 C K) (0) s0 _ _ _ h hP hD hS (lv_sub hl [] rfl)
set_option maxHeartbeats 40000000 in
set_option maxRecDepth 100000 in
theorem db_X16_atomic_215 {p : Program} {l : Launch} {e : Env} {s : State} {m : MethodId} {args : Array Value} {below : List Frame} {meth : Method} {c : Code} {Q : State → Prop} {A : Nat → Prop} {dC : Nat → ClassId} {dI : Nat → Nat → Nat} {a : Nat → Nat} {ac : Nat → ClassId} {n : Nat} {r : Int32 × (St × (St))} (C : nd_C p l s m args c A (dC, dI) cX16_atomic 9 RX16 ow_dm_X16_atomic (dk_X16 ac)) (K : nd_Ki p l e (headSpec ow_dm_X16_atomic ({ frames := 4, cells := 0, slots := 0, locals := 84 })).room s m args below meth c Q A (dC, dI) cX16_atomic .int (St × (St)) (dw_X16 a ac) r) : dj_X16_atomic_215 p l e s m args below meth c Q A dC dI a ac (df_X16_atomic_215 n) r := by
  obtain ⟨hlt, hx, hb, hml, hown, hts, hN, hA, hK⟩ := id C
  intro x3 x7 y1 y2 y3 s0 H locs ls h hP hD hS hl
  unfold df_X16_atomic_215 at h
  obtain ⟨s25, hq, h⟩ := nd_b1_e h
  have hPc := hP
  have hDc := hD
  have hKc := hK
  have hFc := nd_rs hD hS hA
  refine nd_cVv (As := [.int y1, .int y2, .int y3]) (rest := []) (w' := dw_X16 a ac s25) ⟨hx, hb, hml, hown, hts⟩ (fun sz => dm_X16_stored l hlt dC dI a ac n (y1) (y2) (y3) s0 hq sz) (cwV 3 hts gi_dm_X16_atomic_4 rfl rfl rfl (by decide +kernel) ⟨Nat.le_of_ble_eq_true rfl, Nat.le_of_ble_eq_true rfl⟩) hPc hDc hKc hS hA hN (va_recv hKc hPc (ci := 17) (q0 := 0) rfl rfl) rfl hl.1 rfl (Nat.le_of_ble_eq_true rfl) dX16_atomic_215 (fun H locs hP1 hD1 hk1 hS => ?_)
  have hP := hP1
  have hD := hD1.weaken (fun k q _ h => hFc q.1 h)
  refine lv_iload_n hx hb dX16_atomic_218 rfl (lv_at hl 1 rfl) ?_
  refine lv_iconst (v := 3) hx hb dX16_atomic_219 (by decide) ?_
  refine lv_icmp_ne (tgt := 235) hx hb dX16_atomic_220 (by decide) (fun c27 => ?_) (fun c27 => ?_)
  · have h := nd_neg h c27
    exact (db_X16_atomic_235 C K) (x3) (x7) s25 _ _ _ h hP hD hS (lv_sub hl [1, 2] rfl)
  · have h := nd_pos h c27
    refine lv_aload_n hx hb dX16_atomic_223 rfl (lv_at hl 0 rfl) ?_
    refine va_get (D := (dC, dI)) (ci := 17) (v := .int (sI s25.1 11)) (C := RX16) (T := TX16) (N := 56) hx hb hts hi_dm_X16_atomic_X16 hown hK hP 0 rfl rfl 50 (by decide) (hts (.fieldLink RX16 336 "TimeMachineModel$Machine" "met" "I") (List.mem_of_getElem? (i := 18) rfl)) (fun _ h9 => h9) rfl dX16_atomic_224 ?_
    refine lv_if_ne (tgt := 235) hx hb dX16_atomic_227 (by decide) (fun c29 => ?_) (fun c29 => ?_)
    · have h := nd_neg h c29
      exact (db_X16_atomic_235 C K) (x3) (x7) s25 _ _ _ h hP hD hS (lv_sub hl [1, 2] rfl)
    · have h := nd_pos h c29
      refine lv_aload_n hx hb dX16_atomic_230 rfl (lv_at hl 0 rfl) ?_
      refine lv_iconst (v := (-1)) hx hb dX16_atomic_231 (by decide) ?_
      refine va_put (D := (dC, dI)) (ci := 17) (v := .int (-1)) (ty := .int) (C := RX16) (T := TX16) (N := 56) hx hb hts hi_dm_X16_atomic_X16 tyX16 tyX16_ok nmX16 hown hK hP hD hS 0 rfl rfl 5 (by decide) (hts (.fieldLink RX16 135 "TimeMachineModel$Machine" "reserved" "I") (List.mem_of_getElem? (i := 12) rfl)) (fun _ h9 => h9) rfl (by decide +kernel) rfl rfl (Nat.le_of_ble_eq_true rfl) dX16_atomic_232 (fun H locs hP hD hS => ?_)
      obtain ⟨s30, es30, h⟩ := nd_let_e h
      have hP : va_P (dC, dI) vwCl (dw_X16 a ac s30) H := by rw [es30]; exact hP
      have hD : va_D A (dw_X16 a ac s30) := by rw [es30]; exact hD
      exact (db_X16_atomic_235 C K) (x3) (x7) s30 _ _ _ h hP hD hS (lv_sub hl [1, 2] rfl)
set_option maxHeartbeats 40000000 in
set_option maxRecDepth 100000 in
theorem db_X16_atomic_193 {p : Program} {l : Launch} {e : Env} {s : State} {m : MethodId} {args : Array Value} {below : List Frame} {meth : Method} {c : Code} {Q : State → Prop} {A : Nat → Prop} {dC : Nat → ClassId} {dI : Nat → Nat → Nat} {a : Nat → Nat} {ac : Nat → ClassId} {n : Nat} {r : Int32 × (St × (St))} (C : nd_C p l s m args c A (dC, dI) cX16_atomic 9 RX16 ow_dm_X16_atomic (dk_X16 ac)) (K : nd_Ki p l e (headSpec ow_dm_X16_atomic ({ frames := 4, cells := 0, slots := 0, locals := 84 })).room s m args below meth c Q A (dC, dI) cX16_atomic .int (St × (St)) (dw_X16 a ac) r) : dj_X16_atomic_193 p l e s m args below meth c Q A dC dI a ac (df_X16_atomic_193 n) r := by
  obtain ⟨hlt, hx, hb, hml, hown, hts, hN, hA, hK⟩ := id C
  intro x3 x4 x5 x7 s0 H locs ls h hP hD hS hl
  unfold df_X16_atomic_193 at h
  refine lv_aload_n hx hb dX16_atomic_193 rfl (lv_at hl 0 rfl) ?_
  refine lv_iconst (v := 2) hx hb dX16_atomic_194 (by decide) ?_
  refine lv_iload hx hb dX16_atomic_195 (lv_at hl 2 rfl) ?_
  refine lv_iload_n hx hb dX16_atomic_197 rfl (lv_at hl 1 rfl) ?_
  refine lv_iconst (v := 3) hx hb dX16_atomic_198 (by decide) ?_
  refine lv_icmp_ne (tgt := 207) hx hb dX16_atomic_199 (by decide) (fun c20 => ?_) (fun c20 => ?_)
  · have h := nd_neg h c20
    refine lv_iload_n hx hb dX16_atomic_207 rfl (lv_at hl 1 rfl) ?_
    refine lv_iload hx hb dX16_atomic_208 (lv_at hl 4 rfl) ?_
    refine lv_iload hx hb dX16_atomic_210 (lv_at hl 3 rfl) ?_
    obtain ⟨q21, s22, hq, h⟩ := nd_b2_e h
    have hPc : va_P (dC, dI) vwCl (dw_P a ac ()) H := nd_p0
    have hDc : va_D A (dw_P a ac ()) := nd_d0
    have hKc : va_K (dC, dI) vwCl (dk_P ac) s := nd_y0 hK
    have hFc : ∀ q, va_A (dw_P a ac ()) H.size q → A q := nd_r0 hS hA
    refine nd_cSi (As := [.int x3, .int x7, .int x5]) (rest := [.int x4, .int 2, .ref (a 0)]) (q := q21) (w' := dw_P a ac s22) ⟨hx, hb, hml, hown, hts⟩ (fun sz => dm_X16_changed l hlt dC dI a ac n (x3) (x7) (x5) () hq sz) (cwS 3 hts gi_dm_X16_atomic_3 rfl rfl rfl (by decide +kernel) ⟨Nat.le_of_ble_eq_true rfl, Nat.le_of_ble_eq_true rfl⟩) hPc hDc hKc hS hA hN rfl hl.1 rfl (Nat.le_of_ble_eq_true rfl) dX16_atomic_212 (fun H locs hP1 hD1 hk1 hS => ?_)
    have hP := nd_n0 hP hk1
    exact (db_X16_atomic_215 C K) (x3) (x7) (2) (x4) (q21) s0 _ _ _ h hP hD hS (lv_sub hl [0, 1, 4] rfl)
  · have h := nd_pos h c20
    refine lv_iload hx hb dX16_atomic_202 (lv_at hl 3 rfl) ?_
    refine lv_goto (tgt := 215) hx hb dX16_atomic_204 (by decide) ?_
    exact (db_X16_atomic_215 C K) (x3) (x7) (2) (x4) (x5) s0 _ _ _ h hP hD hS (lv_sub hl [0, 1, 4] rfl)
set_option maxHeartbeats 40000000 in
set_option maxRecDepth 100000 in
theorem db_X16_atomic_174 {p : Program} {l : Launch} {e : Env} {s : State} {m : MethodId} {args : Array Value} {below : List Frame} {meth : Method} {c : Code} {Q : State → Prop} {A : Nat → Prop} {dC : Nat → ClassId} {dI : Nat → Nat → Nat} {a : Nat → Nat} {ac : Nat → ClassId} {n : Nat} {r : Int32 × (St × (St))} (C : nd_C p l s m args c A (dC, dI) cX16_atomic 9 RX16 ow_dm_X16_atomic (dk_X16 ac)) (K : nd_Ki p l e (headSpec ow_dm_X16_atomic ({ frames := 4, cells := 0, slots := 0, locals := 84 })).room s m args below meth c Q A (dC, dI) cX16_atomic .int (St × (St)) (dw_X16 a ac) r) : dj_X16_atomic_174 p l e s m args below meth c Q A dC dI a ac (df_X16_atomic_174 n) r := by
  obtain ⟨hlt, hx, hb, hml, hown, hts, hN, hA, hK⟩ := id C
  intro x3 x4 x5 x7 y0 s0 H locs ls h hP hD hS hl
  unfold df_X16_atomic_174 at h
  refine lv_istore (lv' := [(8, .int y0), (0, .ref (a 0)), (3, .int x3), (4, .int x4), (5, .int x5), (7, .int x7)]) hx hb dX16_atomic_174 hl (by decide) rfl (fun ls hl => ?_)
  refine lv_iload_n hx hb dX16_atomic_176 rfl (lv_at hl 2 rfl) ?_
  refine lv_iconst (v := 3) hx hb dX16_atomic_177 (by decide) ?_
  refine lv_icmp_ne (tgt := 193) hx hb dX16_atomic_178 (by decide) (fun c19 => ?_) (fun c19 => ?_)
  · have h := nd_neg h c19
    exact (db_X16_atomic_193 C K) (x3) (x4) (x5) (x7) s0 _ _ _ h hP hD hS (lv_sub hl [1, 2, 3, 4, 5] rfl)
  · have h := nd_pos h c19
    refine lv_iload hx hb dX16_atomic_181 (lv_at hl 0 rfl) ?_
    refine lv_if_ne (tgt := 193) hx hb dX16_atomic_183 (by decide) (fun c31 => ?_) (fun c31 => ?_)
    · have h := nd_neg h c31
      exact (db_X16_atomic_193 C K) (x3) (x4) (x5) (x7) s0 _ _ _ h hP hD hS (lv_sub hl [1, 2, 3, 4, 5] rfl)
    · have h := nd_pos h c31
      refine lv_aload_n hx hb dX16_atomic_186 rfl (lv_at hl 1 rfl) ?_
      refine lv_iconst (v := (-1)) hx hb dX16_atomic_187 (by decide) ?_
      refine va_put (D := (dC, dI)) (ci := 17) (v := .int (-1)) (ty := .int) (C := RX16) (T := TX16) (N := 56) hx hb hts hi_dm_X16_atomic_X16 tyX16 tyX16_ok nmX16 hown hK hP hD hS 0 rfl rfl 5 (by decide) (hts (.fieldLink RX16 135 "TimeMachineModel$Machine" "reserved" "I") (List.mem_of_getElem? (i := 12) rfl)) (fun _ h9 => h9) rfl (by decide +kernel) rfl rfl (Nat.le_of_ble_eq_true rfl) dX16_atomic_188 (fun H locs hP hD hS => ?_)
      obtain ⟨s32, es32, h⟩ := nd_let_e h
      have hP : va_P (dC, dI) vwCl (dw_X16 a ac s32) H := by rw [es32]; exact hP
      have hD : va_D A (dw_X16 a ac s32) := by rw [es32]; exact hD
      refine lv_iconst (v := 1) hx hb dX16_atomic_191 (by decide) ?_
      exact K _ _ _ _ _ _ dX16_atomic_192 rfl (Option.some.inj h).symm hP hD hS
set_option maxHeartbeats 40000000 in
set_option maxRecDepth 100000 in
theorem db_X16_atomic_117 {p : Program} {l : Launch} {e : Env} {s : State} {m : MethodId} {args : Array Value} {below : List Frame} {meth : Method} {c : Code} {Q : State → Prop} {A : Nat → Prop} {dC : Nat → ClassId} {dI : Nat → Nat → Nat} {a : Nat → Nat} {ac : Nat → ClassId} {n : Nat} {r : Int32 × (St × (St))} (C : nd_C p l s m args c A (dC, dI) cX16_atomic 9 RX16 ow_dm_X16_atomic (dk_X16 ac)) (K : nd_Ki p l e (headSpec ow_dm_X16_atomic ({ frames := 4, cells := 0, slots := 0, locals := 84 })).room s m args below meth c Q A (dC, dI) cX16_atomic .int (St × (St)) (dw_X16 a ac) r) : dj_X16_atomic_117 p l e s m args below meth c Q A dC dI a ac (df_X16_atomic_117 n) r := by
  obtain ⟨hlt, hx, hb, hml, hown, hts, hN, hA, hK⟩ := id C
  intro x3 x4 x5 s0 H locs ls h hP hD hS hl
  unfold df_X16_atomic_117 at h
  refine lv_aload_n hx hb dX16_atomic_117 rfl (lv_at hl 0 rfl) ?_
  refine lv_aload_n hx hb dX16_atomic_118 rfl (lv_at hl 0 rfl) ?_
  refine va_get (D := (dC, dI)) (ci := 17) (v := .int (sI s0.1 12)) (C := RX16) (T := TX16) (N := 56) hx hb hts hi_dm_X16_atomic_X16 hown hK hP 0 rfl rfl 51 (by decide) (hts (.fieldLink RX16 232 "TimeMachineModel$Machine" "p" "I") (List.mem_of_getElem? (i := 5) rfl)) (fun _ h9 => h9) rfl dX16_atomic_119 ?_
  refine lv_iload hx hb dX16_atomic_122 (lv_at hl 2 rfl) ?_
  refine lv_iconst (v := 1) hx hb dX16_atomic_124 (by decide) ?_
  obtain ⟨q10, s11, hq, h⟩ := nd_b2_e h
  have hPc := hP
  have hDc := hD
  have hKc := hK
  have hFc := nd_rs hD hS hA
  refine nd_cVi (As := [.int (sI s0.1 12), .int x4, .int 1]) (rest := []) (q := q10) (w' := dw_X16 a ac s11) ⟨hx, hb, hml, hown, hts⟩ (fun sz => dm_X16_may l hlt dC dI a ac n ((sI s0.1 12)) (x4) (1) s0 hq sz) (cwV 3 hts gi_dm_X16_atomic_1 rfl rfl rfl (by decide +kernel) ⟨Nat.le_of_ble_eq_true rfl, Nat.le_of_ble_eq_true rfl⟩) hPc hDc hKc hS hA hN (va_recv hKc hPc (ci := 17) (q0 := 0) rfl rfl) rfl hl.1 rfl (Nat.le_of_ble_eq_true rfl) dX16_atomic_125 (fun H locs hP1 hD1 hk1 hS => ?_)
  have hP := hP1
  have hD := hD1.weaken (fun k q _ h => hFc q.1 h)
  refine lv_if_ne (tgt := 138) hx hb dX16_atomic_128 (by decide) (fun c13 => ?_) (fun c13 => ?_)
  · have h := nd_neg h c13
    refine lv_aload_n hx hb dX16_atomic_138 rfl (lv_at hl 0 rfl) ?_
    refine lv_iload hx hb dX16_atomic_139 (lv_at hl 2 rfl) ?_
    obtain ⟨q14, s15, hq, h⟩ := nd_b2_e h
    have hPc := hP
    have hDc := hD
    have hKc := hK
    have hFc := nd_rs hD hS hA
    refine nd_cVi (As := [.int x4]) (rest := []) (q := q14) (w' := dw_X16 a ac s15) ⟨hx, hb, hml, hown, hts⟩ (fun sz => dm_X16_word l hlt dC dI a ac n (x4) s11 hq sz) (cwV 1 hts gi_dm_X16_atomic_2 rfl rfl rfl (by decide +kernel) ⟨Nat.le_of_ble_eq_true rfl, Nat.le_of_ble_eq_true rfl⟩) hPc hDc hKc hS hA hN (va_recv hKc hPc (ci := 17) (q0 := 0) rfl rfl) rfl hl.1 rfl (Nat.le_of_ble_eq_true rfl) dX16_atomic_141 (fun H locs hP1 hD1 hk1 hS => ?_)
    have hP := hP1
    have hD := hD1.weaken (fun k q _ h => hFc q.1 h)
    refine lv_istore (lv' := [(7, .int q14), (0, .ref (a 0)), (3, .int x3), (4, .int x4), (5, .int x5)]) hx hb dX16_atomic_144 hl (by decide) rfl (fun ls hl => ?_)
    refine lv_iload_n hx hb dX16_atomic_146 rfl (lv_at hl 2 rfl) ?_
    refine lv_iconst (v := 2) hx hb dX16_atomic_147 (by decide) ?_
    refine lv_icmp_ne (tgt := 160) hx hb dX16_atomic_148 (by decide) (fun c17 => ?_) (fun c17 => ?_)
    · have h := nd_neg h c17
      refine lv_aload_n hx hb dX16_atomic_160 rfl (lv_at hl 1 rfl) ?_
      refine va_get (D := (dC, dI)) (ci := 17) (v := .int (sI s15.1 4)) (C := RX16) (T := TX16) (N := 56) hx hb hts hi_dm_X16_atomic_X16 hown hK hP 0 rfl rfl 5 (by decide) (hts (.fieldLink RX16 135 "TimeMachineModel$Machine" "reserved" "I") (List.mem_of_getElem? (i := 12) rfl)) (fun _ h9 => h9) rfl dX16_atomic_161 ?_
      refine lv_iload hx hb dX16_atomic_164 (lv_at hl 3 rfl) ?_
      refine lv_icmp_ne (tgt := 173) hx hb dX16_atomic_166 (by decide) (fun c18 => ?_) (fun c18 => ?_)
      · have h := nd_neg h c18
        refine lv_iconst (v := 0) hx hb dX16_atomic_173 (by decide) ?_
        exact (db_X16_atomic_174 C K) (x3) (x4) (x5) (q14) (0) s15 _ _ _ h hP hD hS (lv_sub hl [1, 2, 3, 4, 0] rfl)
      · have h := nd_pos h c18
        refine lv_iconst (v := 1) hx hb dX16_atomic_169 (by decide) ?_
        refine lv_goto (tgt := 174) hx hb dX16_atomic_170 (by decide) ?_
        exact (db_X16_atomic_174 C K) (x3) (x4) (x5) (q14) (1) s15 _ _ _ h hP hD hS (lv_sub hl [1, 2, 3, 4, 0] rfl)
    · have h := nd_pos h c17
      refine lv_aload_n hx hb dX16_atomic_151 rfl (lv_at hl 1 rfl) ?_
      refine lv_iload hx hb dX16_atomic_152 (lv_at hl 3 rfl) ?_
      refine va_put (D := (dC, dI)) (ci := 17) (v := .int x4) (ty := .int) (C := RX16) (T := TX16) (N := 56) hx hb hts hi_dm_X16_atomic_X16 tyX16 tyX16_ok nmX16 hown hK hP hD hS 0 rfl rfl 5 (by decide) (hts (.fieldLink RX16 135 "TimeMachineModel$Machine" "reserved" "I") (List.mem_of_getElem? (i := 12) rfl)) (fun _ h9 => h9) rfl (by decide +kernel) rfl rfl (Nat.le_of_ble_eq_true rfl) dX16_atomic_154 (fun H locs hP hD hS => ?_)
      obtain ⟨s33, es33, h⟩ := nd_let_e h
      have hP : va_P (dC, dI) vwCl (dw_X16 a ac s33) H := by rw [es33]; exact hP
      have hD : va_D A (dw_X16 a ac s33) := by rw [es33]; exact hD
      refine lv_iload hx hb dX16_atomic_157 (lv_at hl 0 rfl) ?_
      exact K _ _ _ _ _ _ dX16_atomic_159 rfl (Option.some.inj h).symm hP hD hS
  · have h := nd_pos h c13
    refine lv_aload_n hx hb dX16_atomic_131 rfl (lv_at hl 0 rfl) ?_
    refine lv_bipush (v := 6) hx hb dX16_atomic_132 (by decide) ?_
    obtain ⟨q34, s35, hq, h⟩ := nd_b2_e h
    have hPc := hP
    have hDc := hD
    have hKc := hK
    have hFc := nd_rs hD hS hA
    refine nd_cVi (As := [.int 6]) (rest := []) (q := q34) (w' := dw_X16 a ac s35) ⟨hx, hb, hml, hown, hts⟩ (fun sz => dm_X16_meet l hlt dC dI a ac n (6) s11 hq sz) (cwV 1 hts gi_dm_X16_atomic_5 rfl rfl rfl (by decide +kernel) ⟨Nat.le_of_ble_eq_true rfl, Nat.le_of_ble_eq_true rfl⟩) hPc hDc hKc hS hA hN (va_recv hKc hPc (ci := 17) (q0 := 0) rfl rfl) rfl hl.1 rfl (Nat.le_of_ble_eq_true rfl) dX16_atomic_134 (fun H locs hP1 hD1 hk1 hS => ?_)
    have hP := hP1
    have hD := hD1.weaken (fun k q _ h => hFc q.1 h)
    exact K _ _ _ _ _ _ dX16_atomic_137 rfl (Option.some.inj h).symm hP hD hS
set_option maxHeartbeats 40000000 in
set_option maxRecDepth 100000 in
theorem db_X16_atomic_78 {p : Program} {l : Launch} {e : Env} {s : State} {m : MethodId} {args : Array Value} {below : List Frame} {meth : Method} {c : Code} {Q : State → Prop} {A : Nat → Prop} {dC : Nat → ClassId} {dI : Nat → Nat → Nat} {a : Nat → Nat} {ac : Nat → ClassId} {n : Nat} {r : Int32 × (St × (St))} (C : nd_C p l s m args c A (dC, dI) cX16_atomic 9 RX16 ow_dm_X16_atomic (dk_X16 ac)) (K : nd_Ki p l e (headSpec ow_dm_X16_atomic ({ frames := 4, cells := 0, slots := 0, locals := 84 })).room s m args below meth c Q A (dC, dI) cX16_atomic .int (St × (St)) (dw_X16 a ac) r) : dj_X16_atomic_78 p l e s m args below meth c Q A dC dI a ac (df_X16_atomic_78 n) r := by
  obtain ⟨hlt, hx, hb, hml, hown, hts, hN, hA, hK⟩ := id C
  intro x3 x4 x5 s0 H locs ls h hP hD hS hl
  unfold df_X16_atomic_78 at h
  refine lv_iload hx hb dX16_atomic_78 (lv_at hl 2 rfl) ?_
  refine lv_iconst (v := 4) hx hb dX16_atomic_80 (by decide) ?_
  refine lv_irem hx hb dX16_atomic_81 (by decide) ?_
  refine lv_if_eq (tgt := 91) hx hb dX16_atomic_82 (by decide) (fun c8 => ?_) (fun c8 => ?_)
  · have h := nd_pos h c8
    refine lv_iload_n hx hb dX16_atomic_91 rfl (lv_at hl 1 rfl) ?_
    refine lv_iconst (v := 2) hx hb dX16_atomic_92 (by decide) ?_
    refine lv_icmp_eq (tgt := 117) hx hb dX16_atomic_93 (by decide) (fun c9 => ?_) (fun c9 => ?_)
    · have h := nd_pos h c9
      exact (db_X16_atomic_117 C K) (x3) (x4) (x5) s0 _ _ _ h hP hD hS (lv_sub hl [0, 1, 2, 3] rfl)
    · have h := nd_neg h c9
      refine lv_aload_n hx hb dX16_atomic_96 rfl (lv_at hl 0 rfl) ?_
      refine lv_aload_n hx hb dX16_atomic_97 rfl (lv_at hl 0 rfl) ?_
      refine va_get (D := (dC, dI)) (ci := 17) (v := .int (sI s0.1 12)) (C := RX16) (T := TX16) (N := 56) hx hb hts hi_dm_X16_atomic_X16 hown hK hP 0 rfl rfl 51 (by decide) (hts (.fieldLink RX16 232 "TimeMachineModel$Machine" "p" "I") (List.mem_of_getElem? (i := 5) rfl)) (fun _ h9 => h9) rfl dX16_atomic_98 ?_
      refine lv_iload hx hb dX16_atomic_101 (lv_at hl 2 rfl) ?_
      refine lv_iconst (v := 2) hx hb dX16_atomic_103 (by decide) ?_
      obtain ⟨q37, s38, hq, h⟩ := nd_b2_e h
      have hPc := hP
      have hDc := hD
      have hKc := hK
      have hFc := nd_rs hD hS hA
      refine nd_cVi (As := [.int (sI s0.1 12), .int x4, .int 2]) (rest := []) (q := q37) (w' := dw_X16 a ac s38) ⟨hx, hb, hml, hown, hts⟩ (fun sz => dm_X16_may l hlt dC dI a ac n ((sI s0.1 12)) (x4) (2) s0 hq sz) (cwV 3 hts gi_dm_X16_atomic_1 rfl rfl rfl (by decide +kernel) ⟨Nat.le_of_ble_eq_true rfl, Nat.le_of_ble_eq_true rfl⟩) hPc hDc hKc hS hA hN (va_recv hKc hPc (ci := 17) (q0 := 0) rfl rfl) rfl hl.1 rfl (Nat.le_of_ble_eq_true rfl) dX16_atomic_104 (fun H locs hP1 hD1 hk1 hS => ?_)
      have hP := hP1
      have hD := hD1.weaken (fun k q _ h => hFc q.1 h)
      refine lv_if_ne (tgt := 117) hx hb dX16_atomic_107 (by decide) (fun c40 => ?_) (fun c40 => ?_)
      · have h := nd_neg h c40
        exact (db_X16_atomic_117 C K) (x3) (x4) (x5) s38 _ _ _ h hP hD hS (lv_sub hl [0, 1, 2, 3] rfl)
      · have h := nd_pos h c40
        refine lv_aload_n hx hb dX16_atomic_110 rfl (lv_at hl 0 rfl) ?_
        refine lv_bipush (v := 7) hx hb dX16_atomic_111 (by decide) ?_
        obtain ⟨q41, s42, hq, h⟩ := nd_b2_e h
        have hPc := hP
        have hDc := hD
        have hKc := hK
        have hFc := nd_rs hD hS hA
        refine nd_cVi (As := [.int 7]) (rest := []) (q := q41) (w' := dw_X16 a ac s42) ⟨hx, hb, hml, hown, hts⟩ (fun sz => dm_X16_meet l hlt dC dI a ac n (7) s38 hq sz) (cwV 1 hts gi_dm_X16_atomic_5 rfl rfl rfl (by decide +kernel) ⟨Nat.le_of_ble_eq_true rfl, Nat.le_of_ble_eq_true rfl⟩) hPc hDc hKc hS hA hN (va_recv hKc hPc (ci := 17) (q0 := 0) rfl rfl) rfl hl.1 rfl (Nat.le_of_ble_eq_true rfl) dX16_atomic_113 (fun H locs hP1 hD1 hk1 hS => ?_)
        have hP := hP1
        have hD := hD1.weaken (fun k q _ h => hFc q.1 h)
        exact K _ _ _ _ _ _ dX16_atomic_116 rfl (Option.some.inj h).symm hP hD hS
  · have h := nd_neg h c8
    refine lv_aload_n hx hb dX16_atomic_85 rfl (lv_at hl 0 rfl) ?_
    refine lv_iconst (v := 5) hx hb dX16_atomic_86 (by decide) ?_
    obtain ⟨q44, s45, hq, h⟩ := nd_b2_e h
    have hPc := hP
    have hDc := hD
    have hKc := hK
    have hFc := nd_rs hD hS hA
    refine nd_cVi (As := [.int 5]) (rest := []) (q := q44) (w' := dw_X16 a ac s45) ⟨hx, hb, hml, hown, hts⟩ (fun sz => dm_X16_meet l hlt dC dI a ac n (5) s0 hq sz) (cwV 1 hts gi_dm_X16_atomic_5 rfl rfl rfl (by decide +kernel) ⟨Nat.le_of_ble_eq_true rfl, Nat.le_of_ble_eq_true rfl⟩) hPc hDc hKc hS hA hN (va_recv hKc hPc (ci := 17) (q0 := 0) rfl rfl) rfl hl.1 rfl (Nat.le_of_ble_eq_true rfl) dX16_atomic_87 (fun H locs hP1 hD1 hk1 hS => ?_)
    have hP := hP1
    have hD := hD1.weaken (fun k q _ h => hFc q.1 h)
    exact K _ _ _ _ _ _ dX16_atomic_90 rfl (Option.some.inj h).symm hP hD hS
set_option maxHeartbeats 40000000 in
set_option maxRecDepth 100000 in
theorem db_X16_atomic_46 {p : Program} {l : Launch} {e : Env} {s : State} {m : MethodId} {args : Array Value} {below : List Frame} {meth : Method} {c : Code} {Q : State → Prop} {A : Nat → Prop} {dC : Nat → ClassId} {dI : Nat → Nat → Nat} {a : Nat → Nat} {ac : Nat → ClassId} {n : Nat} {r : Int32 × (St × (St))} (C : nd_C p l s m args c A (dC, dI) cX16_atomic 9 RX16 ow_dm_X16_atomic (dk_X16 ac)) (K : nd_Ki p l e (headSpec ow_dm_X16_atomic ({ frames := 4, cells := 0, slots := 0, locals := 84 })).room s m args below meth c Q A (dC, dI) cX16_atomic .int (St × (St)) (dw_X16 a ac) r) : dj_X16_atomic_46 p l e s m args below meth c Q A dC dI a ac (df_X16_atomic_46 n) r := by
  obtain ⟨hlt, hx, hb, hml, hown, hts, hN, hA, hK⟩ := id C
  intro x1 x2 x3 x4 x5 y0 s0 H locs ls h hP hD hS hl
  unfold df_X16_atomic_46 at h
  refine lv_istore (lv' := [(6, .int y0), (0, .ref (a 0)), (1, .int x1), (2, .int x2), (3, .int x3), (4, .int x4), (5, .int x5)]) hx hb dX16_atomic_46 hl (by decide) rfl (fun ls hl => ?_)
  refine lv_iload_n hx hb dX16_atomic_48 rfl (lv_at hl 3 rfl) ?_
  refine lv_iconst (v := 2) hx hb dX16_atomic_49 (by decide) ?_
  refine lv_icmp_ne (tgt := 73) hx hb dX16_atomic_50 (by decide) (fun c2 => ?_) (fun c2 => ?_)
  · have h := nd_neg h c2
    exact (db_X16_atomic_73 C K)  s0 _ _ _ h hP hD hS (lv_sub hl [1] rfl)
  · have h := nd_pos h c2
    refine lv_iload hx hb dX16_atomic_53 (lv_at hl 0 rfl) ?_
    refine lv_if_eq (tgt := 73) hx hb dX16_atomic_55 (by decide) (fun c6 => ?_) (fun c6 => ?_)
    · have h := nd_pos h c6
      exact (db_X16_atomic_73 C K)  s0 _ _ _ h hP hD hS (lv_sub hl [1] rfl)
    · have h := nd_neg h c6
      refine lv_iload_n hx hb dX16_atomic_58 rfl (lv_at hl 4 rfl) ?_
      refine lv_iconst (v := 2) hx hb dX16_atomic_59 (by decide) ?_
      refine lv_icmp_ne (tgt := 78) hx hb dX16_atomic_60 (by decide) (fun c7 => ?_) (fun c7 => ?_)
      · have h := nd_neg h c7
        exact (db_X16_atomic_78 C K) (x3) (x4) (x5) s0 _ _ _ h hP hD hS (lv_sub hl [1, 4, 5, 6] rfl)
      · have h := nd_pos h c7
        refine lv_iload_n hx hb dX16_atomic_63 rfl (lv_at hl 2 rfl) ?_
        refine lv_bipush (v := 20) hx hb dX16_atomic_64 (by decide) ?_
        refine lv_iconst (v := 5) hx hb dX16_atomic_66 (by decide) ?_
        obtain ⟨q47, s48, hq, h⟩ := nd_b2_e h
        have hPc : va_P (dC, dI) vwCl (dw_P a ac ()) H := nd_p0
        have hDc : va_D A (dw_P a ac ()) := nd_d0
        have hKc : va_K (dC, dI) vwCl (dk_P ac) s := nd_y0 hK
        have hFc : ∀ q, va_A (dw_P a ac ()) H.size q → A q := nd_r0 hS hA
        refine nd_cSi (As := [.int x1, .int 20, .int 5]) (rest := []) (q := q47) (w' := dw_P a ac s48) ⟨hx, hb, hml, hown, hts⟩ (fun sz => dm_X16_part l hlt dC dI a ac n (x1) (20) (5) () hq sz) (cwS 3 hts gi_dm_X16_atomic_6 rfl rfl rfl (by decide +kernel) ⟨Nat.le_of_ble_eq_true rfl, Nat.le_of_ble_eq_true rfl⟩) hPc hDc hKc hS hA hN rfl hl.1 rfl (Nat.le_of_ble_eq_true rfl) dX16_atomic_67 (fun H locs hP1 hD1 hk1 hS => ?_)
        have hP := nd_n0 hP hk1
        refine lv_if_le (tgt := 78) hx hb dX16_atomic_70 (by decide) (fun c50 => ?_) (fun c50 => ?_)
        · have h := nd_pos h c50
          exact (db_X16_atomic_78 C K) (x3) (x4) (x5) s0 _ _ _ h hP hD hS (lv_sub hl [1, 4, 5, 6] rfl)
        · have h := nd_neg h c50
          exact (db_X16_atomic_73 C K)  s0 _ _ _ h hP hD hS (lv_sub hl [1] rfl)
set_option maxHeartbeats 40000000 in
set_option maxRecDepth 100000 in
theorem db_X16_atomic_41 {p : Program} {l : Launch} {e : Env} {s : State} {m : MethodId} {args : Array Value} {below : List Frame} {meth : Method} {c : Code} {Q : State → Prop} {A : Nat → Prop} {dC : Nat → ClassId} {dI : Nat → Nat → Nat} {a : Nat → Nat} {ac : Nat → ClassId} {n : Nat} {r : Int32 × (St × (St))} (C : nd_C p l s m args c A (dC, dI) cX16_atomic 9 RX16 ow_dm_X16_atomic (dk_X16 ac)) (K : nd_Ki p l e (headSpec ow_dm_X16_atomic ({ frames := 4, cells := 0, slots := 0, locals := 84 })).room s m args below meth c Q A (dC, dI) cX16_atomic .int (St × (St)) (dw_X16 a ac) r) : dj_X16_atomic_41 p l e s m args below meth c Q A dC dI a ac (df_X16_atomic_41 n) r := by
  obtain ⟨hlt, hx, hb, hml, hown, hts, hN, hA, hK⟩ := id C
  intro x1 x2 x3 x4 x5 s0 H locs ls h hP hD hS hl
  unfold df_X16_atomic_41 at h
  refine lv_iconst (v := 1) hx hb dX16_atomic_41 (by decide) ?_
  refine lv_goto (tgt := 46) hx hb dX16_atomic_42 (by decide) ?_
  exact (db_X16_atomic_46 C K) (x1) (x2) (x3) (x4) (x5) (1) s0 _ _ _ h hP hD hS (lv_sub hl [0, 1, 2, 3, 4, 5] rfl)
set_option maxHeartbeats 40000000 in
set_option maxRecDepth 100000 in
theorem db_X16_atomic_0 {p : Program} {l : Launch} {e : Env} {s : State} {m : MethodId} {args : Array Value} {below : List Frame} {meth : Method} {c : Code} {Q : State → Prop} {A : Nat → Prop} {dC : Nat → ClassId} {dI : Nat → Nat → Nat} {a : Nat → Nat} {ac : Nat → ClassId} {n : Nat} {r : Int32 × (St × (St))} (C : nd_C p l s m args c A (dC, dI) cX16_atomic 9 RX16 ow_dm_X16_atomic (dk_X16 ac)) (K : nd_Ki p l e (headSpec ow_dm_X16_atomic ({ frames := 4, cells := 0, slots := 0, locals := 84 })).room s m args below meth c Q A (dC, dI) cX16_atomic .int (St × (St)) (dw_X16 a ac) r) : dj_X16_atomic_0 p l e s m args below meth c Q A dC dI a ac (df_X16_atomic_0 n) r := by
  obtain ⟨hlt, hx, hb, hml, hown, hts, hN, hA, hK⟩ := id C
  intro v0 v1 v2 v3 v4 s0 H locs ls h hP hD hS hl
  unfold df_X16_atomic_0 at h
  refine lv_iload_n hx hb dX16_atomic_0 rfl (lv_at hl 3 rfl) ?_
  refine lv_iconst (v := 5) hx hb dX16_atomic_1 (by decide) ?_
  refine lv_icmp_lt (tgt := 41) hx hb dX16_atomic_2 (by decide) (fun c1 => ?_) (fun c1 => ?_)
  · have h := nd_pos h c1
    exact (db_X16_atomic_41 C K) (v0) (v1) (v2) (v3) (v4) s0 _ _ _ h hP hD hS (lv_sub hl [0, 1, 2, 3, 4, 5] rfl)
  · have h := nd_neg h c1
    refine lv_iload_n hx hb dX16_atomic_5 rfl (lv_at hl 3 rfl) ?_
    refine lv_bipush (v := 8) hx hb dX16_atomic_6 (by decide) ?_
    refine lv_icmp_eq (tgt := 41) hx hb dX16_atomic_8 (by decide) (fun c51 => ?_) (fun c51 => ?_)
    · have h := nd_pos h c51
      exact (db_X16_atomic_41 C K) (v0) (v1) (v2) (v3) (v4) s0 _ _ _ h hP hD hS (lv_sub hl [0, 1, 2, 3, 4, 5] rfl)
    · have h := nd_neg h c51
      refine lv_iload_n hx hb dX16_atomic_11 rfl (lv_at hl 3 rfl) ?_
      refine lv_bipush (v := 12) hx hb dX16_atomic_12 (by decide) ?_
      refine lv_icmp_eq (tgt := 41) hx hb dX16_atomic_14 (by decide) (fun c52 => ?_) (fun c52 => ?_)
      · have h := nd_pos h c52
        exact (db_X16_atomic_41 C K) (v0) (v1) (v2) (v3) (v4) s0 _ _ _ h hP hD hS (lv_sub hl [0, 1, 2, 3, 4, 5] rfl)
      · have h := nd_neg h c52
        refine lv_iload_n hx hb dX16_atomic_17 rfl (lv_at hl 3 rfl) ?_
        refine lv_bipush (v := 16) hx hb dX16_atomic_18 (by decide) ?_
        refine lv_icmp_eq (tgt := 41) hx hb dX16_atomic_20 (by decide) (fun c53 => ?_) (fun c53 => ?_)
        · have h := nd_pos h c53
          exact (db_X16_atomic_41 C K) (v0) (v1) (v2) (v3) (v4) s0 _ _ _ h hP hD hS (lv_sub hl [0, 1, 2, 3, 4, 5] rfl)
        · have h := nd_neg h c53
          refine lv_iload_n hx hb dX16_atomic_23 rfl (lv_at hl 3 rfl) ?_
          refine lv_bipush (v := 20) hx hb dX16_atomic_24 (by decide) ?_
          refine lv_icmp_eq (tgt := 41) hx hb dX16_atomic_26 (by decide) (fun c54 => ?_) (fun c54 => ?_)
          · have h := nd_pos h c54
            exact (db_X16_atomic_41 C K) (v0) (v1) (v2) (v3) (v4) s0 _ _ _ h hP hD hS (lv_sub hl [0, 1, 2, 3, 4, 5] rfl)
          · have h := nd_neg h c54
            refine lv_iload_n hx hb dX16_atomic_29 rfl (lv_at hl 3 rfl) ?_
            refine lv_bipush (v := 24) hx hb dX16_atomic_30 (by decide) ?_
            refine lv_icmp_eq (tgt := 41) hx hb dX16_atomic_32 (by decide) (fun c55 => ?_) (fun c55 => ?_)
            · have h := nd_pos h c55
              exact (db_X16_atomic_41 C K) (v0) (v1) (v2) (v3) (v4) s0 _ _ _ h hP hD hS (lv_sub hl [0, 1, 2, 3, 4, 5] rfl)
            · have h := nd_neg h c55
              refine lv_iload_n hx hb dX16_atomic_35 rfl (lv_at hl 3 rfl) ?_
              refine lv_bipush (v := 28) hx hb dX16_atomic_36 (by decide) ?_
              refine lv_icmp_ne (tgt := 45) hx hb dX16_atomic_38 (by decide) (fun c56 => ?_) (fun c56 => ?_)
              · have h := nd_neg h c56
                refine lv_iconst (v := 0) hx hb dX16_atomic_45 (by decide) ?_
                exact (db_X16_atomic_46 C K) (v0) (v1) (v2) (v3) (v4) (0) s0 _ _ _ h hP hD hS (lv_sub hl [0, 1, 2, 3, 4, 5] rfl)
              · have h := nd_pos h c56
                exact (db_X16_atomic_41 C K) (v0) (v1) (v2) (v3) (v4) s0 _ _ _ h hP hD hS (lv_sub hl [0, 1, 2, 3, 4, 5] rfl)
set_option maxHeartbeats 40000000 in
set_option maxRecDepth 100000 in
theorem dm_X16_atomic (l : Launch) (hlt : l.stackTraces = false) (dC : Nat → ClassId) (dI : Nat → Nat → Nat) (a : Nat → Nat) (ac : Nat → ClassId) (n : Nat) (v0 : Int32) (v1 : Int32) (v2 : Int32) (v3 : Int32) (v4 : Int32) (s0 : St × (St)) {r : Int32 × (St × (St))} (h : df_X16_atomic n v0 v1 v2 v3 v4 s0 = some r) (sz : Nat) : Met l yX16_atomic ow_dm_X16_atomic ({ frames := 4, cells := 0, slots := 0, locals := 84 }) (va_Pc [.ref (a 0), .int v0, .int v1, .int v2, .int v3, .int v4] (fun U => U.heap.size = sz ∧ va_P (dC, dI) vwCl (dw_X16 a ac s0) U.heap ∧ va_K (dC, dI) vwCl (dk_X16 ac) U ∧ va_D (fun _ => True) (dw_X16 a ac s0) ∧ nv_E dI (va_A (dw_X16 a ac s0) sz) U)) (va_Qi (fun x _ => x = r.1) (fun (_ : Unit) t => va_P (dC, dI) vwCl (dw_X16 a ac r.2) t.heap ∧ va_K (dC, dI) vwCl (dk_X16 ac) t ∧ va_D (va_A (dw_X16 a ac s0) sz) (dw_X16 a ac r.2)) (va_A (dw_X16 a ac s0) sz)) 0 0 (va_A (dw_X16 a ac s0) sz) := by
  refine Met.ofW (cc := cX16_atomic) (maxL := 9) (ret := (some .int)) (by decide) rfl ?_
  intro p e s m args below meth c s₁ B hml hv
  obtain ⟨rfl, hsz, hP, hK, hD0, hN⟩ := hv
  have hx := B.exec
  have hb := B.bytes
  have hr := B.returns
  have hts := atoms_spec (ws := ow_dm_X16_atomic) B.pre
  have hown : s.vm.findClass RX16 = some m.cls := findClass_of_methodNamed B.named
  have hlocks := B.notSynchronized
  subst hsz
  have hD := hD0.self (sz := s.heap.size)
  generalize hAe : va_A (dw_X16 a ac s0) s.heap.size = A at hD hN ⊢
  have hA : ∀ q : Nat, s.heap.size ≤ q → A q := fun q h => by rw [← hAe]; exact Or.inr h
  have hl := lv_entry ([.ref (a 0), .int v0, .int v1, .int v2, .int v3, .int v4]) (n := 9) (Nat.le_of_ble_eq_true rfl)
  rw [lg_entry_eq]
  generalize (lg_sl ([.ref (a 0), .int v0, .int v1, .int v2, .int v3, .int v4]) ++ List.replicate (9 - (lg_sl ([.ref (a 0), .int v0, .int v1, .int v2, .int v3, .int v4])).length) Slot.unset).toArray = ls at hl ⊢
  have hl : lv_has ls 9 [(0, .ref (a 0)), (1, .int v0), (2, .int v1), (3, .int v2), (4, .int v3), (5, .int v4)] := hl
  exact db_X16_atomic_0 (dC := dC) (dI := dI) (a := a) (ac := ac) (n := n) (r := r) ⟨hlt, hx, hb, hml, hown, hts, hN, hA, hK⟩ (fun pc v τ H locs ls d z er hP hD hS => by subst er; exact W.zret (v := v) hx hb hr z (fun t ht hW => ⟨⟨v, (), rfl, rfl, by rw [ht]; exact hP, va_K.moved hW.alike hK, hD⟩, hS.F ht⟩) hS.2.2 d) v0 v1 v2 v3 v4 s0 _ _ _ h hP hD va_S.rf (lv_sub hl [0, 1, 2, 3, 4, 5] rfl)
def ow_dm_X16_multiplied : List Cond := Cond.code yX16_multiplied cX16_multiplied 7 (some .int) :: ([Cond.methodLink RX16 390 yX16_plain, Cond.static yX16_plain, Cond.initialized RX16] ++ (ow_dm_X16_plain ++ []))
theorem gd_dm_X16_multiplied : ∀ w ∈ ow_dm_X16_multiplied, (w.onTables && w.keeps) = true ∨ ∃ ty, w = Cond.arrayClass ty := List.forall_mem_cons.mpr ⟨good_of_word rfl, List.forall_mem_append.mpr ⟨fun w h => good_of_word (List.all_eq_true.mp (by decide +kernel) w h), List.forall_mem_append.mpr ⟨gd_dm_X16_plain, fun _ h => nomatch h⟩⟩⟩
theorem gi_dm_X16_multiplied_0 : GoodIn ow_dm_X16_multiplied (wsS RX16 390 yX16_plain ow_dm_X16_plain) := goodIn_app (goodIn_of _ (by decide +kernel)) (fun w h => ⟨List.mem_cons_of_mem _ (List.mem_append_right _ (List.mem_append_left _ h)), gd_dm_X16_plain w h⟩)
def dj_X16_multiplied_103 (p : Program) (l : Launch) (e : Env) (s : State) (m : MethodId) (args : Array Value) (below : List Frame) (meth : Method) (c : Code) (Q : State → Prop) (A : Nat → Prop) (dC : Nat → ClassId) (dI : Nat → Nat → Nat) (a : Nat → Nat) (ac : Nat → ClassId) (g : Int32 → (Unit) → Option (Int32 × (Unit))) (r : Int32 × (Unit)) : Prop := ∀ (y0 : Int32) (s0 : Unit) (H : Heap) (locs : List Loc) (ls : Array Slot), g y0 s0 = some r → va_P (dC, dI) vwCl (dw_P a ac s0) H → va_D A (dw_P a ac s0) → va_S A s.heap H locs → lv_has ls 7 [] → W p l e (headSpec ow_dm_X16_multiplied ({ frames := 1, cells := 0, slots := 0, locals := 20 })).room s m args below meth c H locs 0 0 Q (F0 m 103 ls [.int y0])
def dj_X16_multiplied_117 (p : Program) (l : Launch) (e : Env) (s : State) (m : MethodId) (args : Array Value) (below : List Frame) (meth : Method) (c : Code) (Q : State → Prop) (A : Nat → Prop) (dC : Nat → ClassId) (dI : Nat → Nat → Nat) (a : Nat → Nat) (ac : Nat → ClassId) (g : Int32 → (Unit) → Option (Int32 × (Unit))) (r : Int32 × (Unit)) : Prop := ∀ (y0 : Int32) (s0 : Unit) (H : Heap) (locs : List Loc) (ls : Array Slot), g y0 s0 = some r → va_P (dC, dI) vwCl (dw_P a ac s0) H → va_D A (dw_P a ac s0) → va_S A s.heap H locs → lv_has ls 7 [] → W p l e (headSpec ow_dm_X16_multiplied ({ frames := 1, cells := 0, slots := 0, locals := 20 })).room s m args below meth c H locs 0 0 Q (F0 m 117 ls [.int y0])
def dj_X16_multiplied_132 (p : Program) (l : Launch) (e : Env) (s : State) (m : MethodId) (args : Array Value) (below : List Frame) (meth : Method) (c : Code) (Q : State → Prop) (A : Nat → Prop) (dC : Nat → ClassId) (dI : Nat → Nat → Nat) (a : Nat → Nat) (ac : Nat → ClassId) (g : Int32 → (Unit) → Option (Int32 × (Unit))) (r : Int32 × (Unit)) : Prop := ∀ (y0 : Int32) (s0 : Unit) (H : Heap) (locs : List Loc) (ls : Array Slot), g y0 s0 = some r → va_P (dC, dI) vwCl (dw_P a ac s0) H → va_D A (dw_P a ac s0) → va_S A s.heap H locs → lv_has ls 7 [] → W p l e (headSpec ow_dm_X16_multiplied ({ frames := 1, cells := 0, slots := 0, locals := 20 })).room s m args below meth c H locs 0 0 Q (F0 m 132 ls [.int y0])
def dj_X16_multiplied_146 (p : Program) (l : Launch) (e : Env) (s : State) (m : MethodId) (args : Array Value) (below : List Frame) (meth : Method) (c : Code) (Q : State → Prop) (A : Nat → Prop) (dC : Nat → ClassId) (dI : Nat → Nat → Nat) (a : Nat → Nat) (ac : Nat → ClassId) (g : Int32 → (Unit) → Option (Int32 × (Unit))) (r : Int32 × (Unit)) : Prop := ∀ (y0 : Int32) (s0 : Unit) (H : Heap) (locs : List Loc) (ls : Array Slot), g y0 s0 = some r → va_P (dC, dI) vwCl (dw_P a ac s0) H → va_D A (dw_P a ac s0) → va_S A s.heap H locs → lv_has ls 7 [] → W p l e (headSpec ow_dm_X16_multiplied ({ frames := 1, cells := 0, slots := 0, locals := 20 })).room s m args below meth c H locs 0 0 Q (F0 m 146 ls [.int y0])
def dj_X16_multiplied_0 (p : Program) (l : Launch) (e : Env) (s : State) (m : MethodId) (args : Array Value) (below : List Frame) (meth : Method) (c : Code) (Q : State → Prop) (A : Nat → Prop) (dC : Nat → ClassId) (dI : Nat → Nat → Nat) (a : Nat → Nat) (ac : Nat → ClassId) (g : Int32 → Int32 → Int32 → (Unit) → Option (Int32 × (Unit))) (r : Int32 × (Unit)) : Prop := ∀ (v0 : Int32) (v1 : Int32) (v2 : Int32) (s0 : Unit) (H : Heap) (locs : List Loc) (ls : Array Slot), g v0 v1 v2 s0 = some r → va_P (dC, dI) vwCl (dw_P a ac s0) H → va_D A (dw_P a ac s0) → va_S A s.heap H locs → lv_has ls 7 [(0, .int v0), (1, .int v1), (2, .int v2)] → W p l e (headSpec ow_dm_X16_multiplied ({ frames := 1, cells := 0, slots := 0, locals := 20 })).room s m args below meth c H locs 0 0 Q (F0 m 0 ls [])
set_option maxHeartbeats 40000000 in
set_option maxRecDepth 100000 in
theorem db_X16_multiplied_103 {p : Program} {l : Launch} {e : Env} {s : State} {m : MethodId} {args : Array Value} {below : List Frame} {meth : Method} {c : Code} {Q : State → Prop} {A : Nat → Prop} {dC : Nat → ClassId} {dI : Nat → Nat → Nat} {a : Nat → Nat} {ac : Nat → ClassId} {n : Nat} {r : Int32 × (Unit)} (C : nd_C p l s m args c A (dC, dI) cX16_multiplied 7 RX16 ow_dm_X16_multiplied (dk_P ac)) (K : nd_Ki p l e (headSpec ow_dm_X16_multiplied ({ frames := 1, cells := 0, slots := 0, locals := 20 })).room s m args below meth c Q A (dC, dI) cX16_multiplied .int (Unit) (dw_P a ac) r) : dj_X16_multiplied_103 p l e s m args below meth c Q A dC dI a ac (df_X16_multiplied_103 n) r := by
  obtain ⟨hlt, hx, hb, hml, hown, hts, hN, hA, hK⟩ := id C
  intro y0 s0 H locs ls h hP hD hS hl
  unfold df_X16_multiplied_103 at h
  exact K _ _ _ _ _ _ dX16_multiplied_103 rfl (Option.some.inj h).symm hP hD hS
set_option maxHeartbeats 40000000 in
set_option maxRecDepth 100000 in
theorem db_X16_multiplied_117 {p : Program} {l : Launch} {e : Env} {s : State} {m : MethodId} {args : Array Value} {below : List Frame} {meth : Method} {c : Code} {Q : State → Prop} {A : Nat → Prop} {dC : Nat → ClassId} {dI : Nat → Nat → Nat} {a : Nat → Nat} {ac : Nat → ClassId} {n : Nat} {r : Int32 × (Unit)} (C : nd_C p l s m args c A (dC, dI) cX16_multiplied 7 RX16 ow_dm_X16_multiplied (dk_P ac)) (K : nd_Ki p l e (headSpec ow_dm_X16_multiplied ({ frames := 1, cells := 0, slots := 0, locals := 20 })).room s m args below meth c Q A (dC, dI) cX16_multiplied .int (Unit) (dw_P a ac) r) : dj_X16_multiplied_117 p l e s m args below meth c Q A dC dI a ac (df_X16_multiplied_117 n) r := by
  obtain ⟨hlt, hx, hb, hml, hown, hts, hN, hA, hK⟩ := id C
  intro y0 s0 H locs ls h hP hD hS hl
  unfold df_X16_multiplied_117 at h
  exact K _ _ _ _ _ _ dX16_multiplied_117 rfl (Option.some.inj h).symm hP hD hS
set_option maxHeartbeats 40000000 in
set_option maxRecDepth 100000 in
theorem db_X16_multiplied_132 {p : Program} {l : Launch} {e : Env} {s : State} {m : MethodId} {args : Array Value} {below : List Frame} {meth : Method} {c : Code} {Q : State → Prop} {A : Nat → Prop} {dC : Nat → ClassId} {dI : Nat → Nat → Nat} {a : Nat → Nat} {ac : Nat → ClassId} {n : Nat} {r : Int32 × (Unit)} (C : nd_C p l s m args c A (dC, dI) cX16_multiplied 7 RX16 ow_dm_X16_multiplied (dk_P ac)) (K : nd_Ki p l e (headSpec ow_dm_X16_multiplied ({ frames := 1, cells := 0, slots := 0, locals := 20 })).room s m args below meth c Q A (dC, dI) cX16_multiplied .int (Unit) (dw_P a ac) r) : dj_X16_multiplied_132 p l e s m args below meth c Q A dC dI a ac (df_X16_multiplied_132 n) r := by
  obtain ⟨hlt, hx, hb, hml, hown, hts, hN, hA, hK⟩ := id C
  intro y0 s0 H locs ls h hP hD hS hl
  unfold df_X16_multiplied_132 at h
  exact K _ _ _ _ _ _ dX16_multiplied_132 rfl (Option.some.inj h).symm hP hD hS
set_option maxHeartbeats 40000000 in
set_option maxRecDepth 100000 in
theorem db_X16_multiplied_146 {p : Program} {l : Launch} {e : Env} {s : State} {m : MethodId} {args : Array Value} {below : List Frame} {meth : Method} {c : Code} {Q : State → Prop} {A : Nat → Prop} {dC : Nat → ClassId} {dI : Nat → Nat → Nat} {a : Nat → Nat} {ac : Nat → ClassId} {n : Nat} {r : Int32 × (Unit)} (C : nd_C p l s m args c A (dC, dI) cX16_multiplied 7 RX16 ow_dm_X16_multiplied (dk_P ac)) (K : nd_Ki p l e (headSpec ow_dm_X16_multiplied ({ frames := 1, cells := 0, slots := 0, locals := 20 })).room s m args below meth c Q A (dC, dI) cX16_multiplied .int (Unit) (dw_P a ac) r) : dj_X16_multiplied_146 p l e s m args below meth c Q A dC dI a ac (df_X16_multiplied_146 n) r := by
  obtain ⟨hlt, hx, hb, hml, hown, hts, hN, hA, hK⟩ := id C
  intro y0 s0 H locs ls h hP hD hS hl
  unfold df_X16_multiplied_146 at h
  exact K _ _ _ _ _ _ dX16_multiplied_146 rfl (Option.some.inj h).symm hP hD hS
set_option maxHeartbeats 40000000 in
set_option maxRecDepth 100000 in
theorem db_X16_multiplied_0 {p : Program} {l : Launch} {e : Env} {s : State} {m : MethodId} {args : Array Value} {below : List Frame} {meth : Method} {c : Code} {Q : State → Prop} {A : Nat → Prop} {dC : Nat → ClassId} {dI : Nat → Nat → Nat} {a : Nat → Nat} {ac : Nat → ClassId} {n : Nat} {r : Int32 × (Unit)} (C : nd_C p l s m args c A (dC, dI) cX16_multiplied 7 RX16 ow_dm_X16_multiplied (dk_P ac)) (K : nd_Ki p l e (headSpec ow_dm_X16_multiplied ({ frames := 1, cells := 0, slots := 0, locals := 20 })).room s m args below meth c Q A (dC, dI) cX16_multiplied .int (Unit) (dw_P a ac) r) : dj_X16_multiplied_0 p l e s m args below meth c Q A dC dI a ac (df_X16_multiplied_0 n) r := by
  obtain ⟨hlt, hx, hb, hml, hown, hts, hN, hA, hK⟩ := id C
  intro v0 v1 v2 s0 H locs ls h hP hD hS hl
  unfold df_X16_multiplied_0 at h
  refine lv_iload_n hx hb dX16_multiplied_0 rfl (lv_at hl 1 rfl) ?_
  obtain ⟨q1, s2, hq, h⟩ := nd_b2_e h
  have hPc : va_P (dC, dI) vwCl (dw_P a ac ()) H := nd_p0
  have hDc : va_D A (dw_P a ac ()) := nd_d0
  have hKc : va_K (dC, dI) vwCl (dk_P ac) s := nd_y0 hK
  have hFc : ∀ q, va_A (dw_P a ac ()) H.size q → A q := nd_r0 hS hA
  refine nd_cSl (As := [.int v1]) (rest := []) (q := q1) (w' := dw_P a ac s2) ⟨hx, hb, hml, hown, hts⟩ (fun sz => dm_X16_plain l hlt dC dI a ac n (v1) () hq sz) (cwS 1 hts gi_dm_X16_multiplied_0 rfl rfl rfl (by decide +kernel) ⟨Nat.le_of_ble_eq_true rfl, Nat.le_of_ble_eq_true rfl⟩) hPc hDc hKc hS hA hN rfl hl.1 rfl (Nat.le_of_ble_eq_true rfl) dX16_multiplied_1 (fun H locs hP1 hD1 hk1 hS => ?_)
  have hP := nd_n0 hP hk1
  refine lv_lstore_n (lv' := [(3, .long q1), (0, .int v0), (1, .int v1), (2, .int v2)]) hx hb dX16_multiplied_4 rfl hl (by decide) rfl (fun ls hl => ?_)
  refine lv_iload_n hx hb dX16_multiplied_5 rfl (lv_at hl 3 rfl) ?_
  obtain ⟨q4, s5, hq, h⟩ := nd_b2_e h
  have hPc : va_P (dC, dI) vwCl (dw_P a ac ()) H := nd_p0
  have hDc : va_D A (dw_P a ac ()) := nd_d0
  have hKc : va_K (dC, dI) vwCl (dk_P ac) s := nd_y0 hK
  have hFc : ∀ q, va_A (dw_P a ac ()) H.size q → A q := nd_r0 hS hA
  refine nd_cSl (As := [.int v2]) (rest := []) (q := q4) (w' := dw_P a ac s5) ⟨hx, hb, hml, hown, hts⟩ (fun sz => dm_X16_plain l hlt dC dI a ac n (v2) () hq sz) (cwS 1 hts gi_dm_X16_multiplied_0 rfl rfl rfl (by decide +kernel) ⟨Nat.le_of_ble_eq_true rfl, Nat.le_of_ble_eq_true rfl⟩) hPc hDc hKc hS hA hN rfl hl.1 rfl (Nat.le_of_ble_eq_true rfl) dX16_multiplied_6 (fun H locs hP1 hD1 hk1 hS => ?_)
  have hP := nd_n0 hP hk1
  refine lv_lstore (lv' := [(5, .long q4), (3, .long q1), (0, .int v0), (1, .int v1), (2, .int v2)]) hx hb dX16_multiplied_9 hl (by decide) rfl (fun ls hl => ?_)
  refine lv_iload_n hx hb dX16_multiplied_11 rfl (lv_at hl 2 rfl) ?_
  by_cases c7 : v0 = 0
  · have h := nd_pos h c7
    refine lv_tableIn (off := 44) (tgt := 56) hx hb dX16_multiplied_12 (by rw [c7]; decide) (by rw [c7]; decide) (by rw [c7]; decide) (by decide) ?_
    refine lv_iload_n hx hb dX16_multiplied_56 rfl (lv_at hl 3 rfl) ?_
    refine lv_iload_n hx hb dX16_multiplied_57 rfl (lv_at hl 4 rfl) ?_
    refine lv_imul hx hb dX16_multiplied_58 ?_
    exact K _ _ _ _ _ _ dX16_multiplied_59 rfl (Option.some.inj h).symm hP hD hS
  have h := nd_neg h c7
  by_cases c8 : v0 = 1
  · have h := nd_pos h c8
    refine lv_tableIn (off := 48) (tgt := 60) hx hb dX16_multiplied_12 (by rw [c8]; decide) (by rw [c8]; decide) (by rw [c8]; decide) (by decide) ?_
    refine lv_iload_n hx hb dX16_multiplied_60 rfl (lv_at hl 3 rfl) ?_
    refine lv_i2l hx hb dX16_multiplied_61 rfl ?_
    refine lv_iload_n hx hb dX16_multiplied_62 rfl (lv_at hl 4 rfl) ?_
    refine lv_i2l hx hb dX16_multiplied_63 rfl ?_
    refine lv_lmul hx hb dX16_multiplied_64 ?_
    refine lv_bipush (v := 32) hx hb dX16_multiplied_65 (by decide) ?_
    refine lv_lshr hx hb dX16_multiplied_67 rfl ?_
    refine lv_l2i hx hb dX16_multiplied_68 rfl ?_
    exact K _ _ _ _ _ _ dX16_multiplied_69 rfl (Option.some.inj h).symm hP hD hS
  have h := nd_neg h c8
  by_cases c9 : v0 = 2
  · have h := nd_pos h c9
    refine lv_tableIn (off := 58) (tgt := 70) hx hb dX16_multiplied_12 (by rw [c9]; decide) (by rw [c9]; decide) (by rw [c9]; decide) (by decide) ?_
    refine lv_iload_n hx hb dX16_multiplied_70 rfl (lv_at hl 3 rfl) ?_
    refine lv_i2l hx hb dX16_multiplied_71 rfl ?_
    refine lv_lload hx hb dX16_multiplied_72 (lv_at hl 0 rfl) ?_
    refine lv_lmul hx hb dX16_multiplied_74 ?_
    refine lv_bipush (v := 32) hx hb dX16_multiplied_75 (by decide) ?_
    refine lv_lshr hx hb dX16_multiplied_77 rfl ?_
    refine lv_l2i hx hb dX16_multiplied_78 rfl ?_
    exact K _ _ _ _ _ _ dX16_multiplied_79 rfl (Option.some.inj h).symm hP hD hS
  have h := nd_neg h c9
  by_cases c10 : v0 = 3
  · have h := nd_pos h c10
    refine lv_tableIn (off := 68) (tgt := 80) hx hb dX16_multiplied_12 (by rw [c10]; decide) (by rw [c10]; decide) (by rw [c10]; decide) (by decide) ?_
    refine lv_lload_n hx hb dX16_multiplied_80 rfl (lv_at hl 1 rfl) ?_
    refine lv_lload hx hb dX16_multiplied_81 (lv_at hl 0 rfl) ?_
    refine lv_lmul hx hb dX16_multiplied_83 ?_
    refine lv_bipush (v := 32) hx hb dX16_multiplied_84 (by decide) ?_
    refine lv_lushr hx hb dX16_multiplied_86 rfl ?_
    refine lv_l2i hx hb dX16_multiplied_87 rfl ?_
    exact K _ _ _ _ _ _ dX16_multiplied_88 rfl (Option.some.inj h).symm hP hD hS
  have h := nd_neg h c10
  by_cases c11 : v0 = 4
  · have h := nd_pos h c11
    refine lv_tableIn (off := 77) (tgt := 89) hx hb dX16_multiplied_12 (by rw [c11]; decide) (by rw [c11]; decide) (by rw [c11]; decide) (by decide) ?_
    refine lv_iload_n hx hb dX16_multiplied_89 rfl (lv_at hl 4 rfl) ?_
    refine lv_if_ne (tgt := 97) hx hb dX16_multiplied_90 (by decide) (fun c12 => ?_) (fun c12 => ?_)
    · have h := nd_neg h c12
      refine lv_iload_n hx hb dX16_multiplied_97 rfl (lv_at hl 3 rfl) ?_
      refine lv_i2l hx hb dX16_multiplied_98 rfl ?_
      refine lv_iload_n hx hb dX16_multiplied_99 rfl (lv_at hl 4 rfl) ?_
      refine lv_i2l hx hb dX16_multiplied_100 rfl ?_
      obtain ⟨i13, h⟩ := nd_nz_e h
      refine lv_ldiv hx hb dX16_multiplied_101 i13 ?_
      refine lv_l2i hx hb dX16_multiplied_102 rfl ?_
      exact (db_X16_multiplied_103 C K) (((((v1.toInt64) : Int64) / (v2.toInt64)).toInt32)) s0 _ _ _ h hP hD hS (lv_sub hl [] rfl)
    · have h := nd_pos h c12
      refine lv_iconst (v := (-1)) hx hb dX16_multiplied_93 (by decide) ?_
      refine lv_goto (tgt := 103) hx hb dX16_multiplied_94 (by decide) ?_
      exact (db_X16_multiplied_103 C K) ((-1)) s0 _ _ _ h hP hD hS (lv_sub hl [] rfl)
  have h := nd_neg h c11
  by_cases c14 : v0 = 5
  · have h := nd_pos h c14
    refine lv_tableIn (off := 92) (tgt := 104) hx hb dX16_multiplied_12 (by rw [c14]; decide) (by rw [c14]; decide) (by rw [c14]; decide) (by decide) ?_
    refine lv_iload_n hx hb dX16_multiplied_104 rfl (lv_at hl 4 rfl) ?_
    refine lv_if_ne (tgt := 112) hx hb dX16_multiplied_105 (by decide) (fun c15 => ?_) (fun c15 => ?_)
    · have h := nd_neg h c15
      refine lv_lload_n hx hb dX16_multiplied_112 rfl (lv_at hl 1 rfl) ?_
      refine lv_lload hx hb dX16_multiplied_113 (lv_at hl 0 rfl) ?_
      obtain ⟨i16, h⟩ := nd_nz_e h
      refine lv_ldiv hx hb dX16_multiplied_115 i16 ?_
      refine lv_l2i hx hb dX16_multiplied_116 rfl ?_
      exact (db_X16_multiplied_117 C K) ((((q1 : Int64) / q4).toInt32)) s0 _ _ _ h hP hD hS (lv_sub hl [] rfl)
    · have h := nd_pos h c15
      refine lv_iconst (v := (-1)) hx hb dX16_multiplied_108 (by decide) ?_
      refine lv_goto (tgt := 117) hx hb dX16_multiplied_109 (by decide) ?_
      exact (db_X16_multiplied_117 C K) ((-1)) s0 _ _ _ h hP hD hS (lv_sub hl [] rfl)
  have h := nd_neg h c14
  by_cases c17 : v0 = 6
  · have h := nd_pos h c17
    refine lv_tableIn (off := 106) (tgt := 118) hx hb dX16_multiplied_12 (by rw [c17]; decide) (by rw [c17]; decide) (by rw [c17]; decide) (by decide) ?_
    refine lv_iload_n hx hb dX16_multiplied_118 rfl (lv_at hl 4 rfl) ?_
    refine lv_if_ne (tgt := 126) hx hb dX16_multiplied_119 (by decide) (fun c18 => ?_) (fun c18 => ?_)
    · have h := nd_neg h c18
      refine lv_iload_n hx hb dX16_multiplied_126 rfl (lv_at hl 3 rfl) ?_
      refine lv_i2l hx hb dX16_multiplied_127 rfl ?_
      refine lv_iload_n hx hb dX16_multiplied_128 rfl (lv_at hl 4 rfl) ?_
      refine lv_i2l hx hb dX16_multiplied_129 rfl ?_
      obtain ⟨i19, h⟩ := nd_nz_e h
      refine lv_lrem hx hb dX16_multiplied_130 i19 ?_
      refine lv_l2i hx hb dX16_multiplied_131 rfl ?_
      exact (db_X16_multiplied_132 C K) (((((v1.toInt64) : Int64) - (v1.toInt64) / (v2.toInt64) * (v2.toInt64)).toInt32)) s0 _ _ _ h hP hD hS (lv_sub hl [] rfl)
    · have h := nd_pos h c18
      refine lv_iload_n hx hb dX16_multiplied_122 rfl (lv_at hl 3 rfl) ?_
      refine lv_goto (tgt := 132) hx hb dX16_multiplied_123 (by decide) ?_
      exact (db_X16_multiplied_132 C K) (v1) s0 _ _ _ h hP hD hS (lv_sub hl [] rfl)
  have h := nd_neg h c17
  refine lv_tableOut (tgt := 133) hx hb dX16_multiplied_12 (by have g0 := nv_nei c7 (k := 0) (by decide); have g1 := nv_nei c8 (k := 1) (by decide); have g2 := nv_nei c9 (k := 2) (by decide); have g3 := nv_nei c10 (k := 3) (by decide); have g4 := nv_nei c11 (k := 4) (by decide); have g5 := nv_nei c14 (k := 5) (by decide); have g6 := nv_nei c17 (k := 6) (by decide); omega) (by decide) ?_
  refine lv_iload_n hx hb dX16_multiplied_133 rfl (lv_at hl 4 rfl) ?_
  refine lv_if_ne (tgt := 141) hx hb dX16_multiplied_134 (by decide) (fun c20 => ?_) (fun c20 => ?_)
  · have h := nd_neg h c20
    refine lv_lload_n hx hb dX16_multiplied_141 rfl (lv_at hl 1 rfl) ?_
    refine lv_lload hx hb dX16_multiplied_142 (lv_at hl 0 rfl) ?_
    obtain ⟨i21, h⟩ := nd_nz_e h
    refine lv_lrem hx hb dX16_multiplied_144 i21 ?_
    refine lv_l2i hx hb dX16_multiplied_145 rfl ?_
    exact (db_X16_multiplied_146 C K) ((((q1 : Int64) - q1 / q4 * q4).toInt32)) s0 _ _ _ h hP hD hS (lv_sub hl [] rfl)
  · have h := nd_pos h c20
    refine lv_iload_n hx hb dX16_multiplied_137 rfl (lv_at hl 3 rfl) ?_
    refine lv_goto (tgt := 146) hx hb dX16_multiplied_138 (by decide) ?_
    exact (db_X16_multiplied_146 C K) (v1) s0 _ _ _ h hP hD hS (lv_sub hl [] rfl)
set_option maxHeartbeats 40000000 in
set_option maxRecDepth 100000 in
theorem dm_X16_multiplied (l : Launch) (hlt : l.stackTraces = false) (dC : Nat → ClassId) (dI : Nat → Nat → Nat) (a : Nat → Nat) (ac : Nat → ClassId) (n : Nat) (v0 : Int32) (v1 : Int32) (v2 : Int32) (s0 : Unit) {r : Int32 × (Unit)} (h : df_X16_multiplied n v0 v1 v2 s0 = some r) (sz : Nat) : Met l yX16_multiplied ow_dm_X16_multiplied ({ frames := 1, cells := 0, slots := 0, locals := 20 }) (va_Pc [.int v0, .int v1, .int v2] (fun U => U.heap.size = sz ∧ va_P (dC, dI) vwCl (dw_P a ac s0) U.heap ∧ va_K (dC, dI) vwCl (dk_P ac) U ∧ va_D (fun _ => True) (dw_P a ac s0) ∧ nv_E dI (va_A (dw_P a ac s0) sz) U)) (va_Qi (fun x _ => x = r.1) (fun (_ : Unit) t => va_P (dC, dI) vwCl (dw_P a ac r.2) t.heap ∧ va_K (dC, dI) vwCl (dk_P ac) t ∧ va_D (va_A (dw_P a ac s0) sz) (dw_P a ac r.2)) (va_A (dw_P a ac s0) sz)) 0 0 (va_A (dw_P a ac s0) sz) := by
  refine Met.ofW (cc := cX16_multiplied) (maxL := 7) (ret := (some .int)) (by decide) rfl ?_
  intro p e s m args below meth c s₁ B hml hv
  obtain ⟨rfl, hsz, hP, hK, hD0, hN⟩ := hv
  have hx := B.exec
  have hb := B.bytes
  have hr := B.returns
  have hts := atoms_spec (ws := ow_dm_X16_multiplied) B.pre
  have hown : s.vm.findClass RX16 = some m.cls := findClass_of_methodNamed B.named
  have hlocks := B.notSynchronized
  subst hsz
  have hD := hD0.self (sz := s.heap.size)
  generalize hAe : va_A (dw_P a ac s0) s.heap.size = A at hD hN ⊢
  have hA : ∀ q : Nat, s.heap.size ≤ q → A q := fun q h => by rw [← hAe]; exact Or.inr h
  have hl := lv_entry ([.int v0, .int v1, .int v2]) (n := 7) (Nat.le_of_ble_eq_true rfl)
  rw [lg_entry_eq]
  generalize (lg_sl ([.int v0, .int v1, .int v2]) ++ List.replicate (7 - (lg_sl ([.int v0, .int v1, .int v2])).length) Slot.unset).toArray = ls at hl ⊢
  have hl : lv_has ls 7 [(0, .int v0), (1, .int v1), (2, .int v2)] := hl
  exact db_X16_multiplied_0 (dC := dC) (dI := dI) (a := a) (ac := ac) (n := n) (r := r) ⟨hlt, hx, hb, hml, hown, hts, hN, hA, hK⟩ (fun pc v τ H locs ls d z er hP hD hS => by subst er; exact W.zret (v := v) hx hb hr z (fun t ht hW => ⟨⟨v, (), rfl, rfl, by rw [ht]; exact hP, va_K.moved hW.alike hK, hD⟩, hS.F ht⟩) hS.2.2 d) v0 v1 v2 s0 _ _ _ h hP hD va_S.rf (lv_sub hl [0, 1, 2] rfl)
def ow_dm_X16_decide : List Cond := Cond.code yX16_decide cX16_decide 6 none :: ([Cond.methodLink RX16 356 yX16_illegal, Cond.instanceMethod yX16_illegal, Cond.selects RX16 yX16_illegal yX16_illegal, Cond.initialized RX16, Cond.methodLink RX16 390 yX16_plain, Cond.static yX16_plain, Cond.fieldLink RX16 45 "TimeMachineModel$Machine" "place" "[I", Cond.fieldLink RX16 232 "TimeMachineModel$Machine" "p" "I", Cond.methodLink RX16 300 yX16_bit, Cond.static yX16_bit, Cond.methodLink RX16 320 yX16_signed, Cond.static yX16_signed, Cond.fieldLink RX16 350 "TimeMachineModel$Machine" "next" "I"] ++ (u_ws RX16 TX16 56 ++ (ow_dm_X16_illegal ++ (ow_dm_X16_plain ++ (ow_dm_X16_bit ++ (ow_dm_X16_signed ++ []))))))
theorem gd_dm_X16_decide : ∀ w ∈ ow_dm_X16_decide, (w.onTables && w.keeps) = true ∨ ∃ ty, w = Cond.arrayClass ty := List.forall_mem_cons.mpr ⟨good_of_word rfl, List.forall_mem_append.mpr ⟨fun w h => good_of_word (List.all_eq_true.mp (by decide +kernel) w h), List.forall_mem_append.mpr ⟨gu_X16, List.forall_mem_append.mpr ⟨gd_dm_X16_illegal, List.forall_mem_append.mpr ⟨gd_dm_X16_plain, List.forall_mem_append.mpr ⟨gd_dm_X16_bit, List.forall_mem_append.mpr ⟨gd_dm_X16_signed, fun _ h => nomatch h⟩⟩⟩⟩⟩⟩⟩
theorem hi_dm_X16_decide_X16 : ∀ w ∈ u_ws RX16 TX16 56, w ∈ ow_dm_X16_decide := fun w h => List.mem_cons_of_mem _ (List.mem_append_right _ (List.mem_append_left _ h))
theorem gi_dm_X16_decide_0 : GoodIn ow_dm_X16_decide (wsV RX16 356 RX16 yX16_illegal ow_dm_X16_illegal) := goodIn_app (goodIn_of _ (by decide +kernel)) (fun w h => ⟨List.mem_cons_of_mem _ (List.mem_append_right _ (List.mem_append_right _ (List.mem_append_left _ h))), gd_dm_X16_illegal w h⟩)
theorem gi_dm_X16_decide_1 : GoodIn ow_dm_X16_decide (wsS RX16 390 yX16_plain ow_dm_X16_plain) := goodIn_app (goodIn_of _ (by decide +kernel)) (fun w h => ⟨List.mem_cons_of_mem _ (List.mem_append_right _ (List.mem_append_right _ (List.mem_append_right _ (List.mem_append_left _ h)))), gd_dm_X16_plain w h⟩)
theorem gi_dm_X16_decide_2 : GoodIn ow_dm_X16_decide (wsS RX16 300 yX16_bit ow_dm_X16_bit) := goodIn_app (goodIn_of _ (by decide +kernel)) (fun w h => ⟨List.mem_cons_of_mem _ (List.mem_append_right _ (List.mem_append_right _ (List.mem_append_right _ (List.mem_append_right _ (List.mem_append_left _ h))))), gd_dm_X16_bit w h⟩)
theorem gi_dm_X16_decide_3 : GoodIn ow_dm_X16_decide (wsS RX16 320 yX16_signed ow_dm_X16_signed) := goodIn_app (goodIn_of _ (by decide +kernel)) (fun w h => ⟨List.mem_cons_of_mem _ (List.mem_append_right _ (List.mem_append_right _ (List.mem_append_right _ (List.mem_append_right _ (List.mem_append_right _ (List.mem_append_left _ h)))))), gd_dm_X16_signed w h⟩)
def dj_X16_decide_10 (p : Program) (l : Launch) (e : Env) (s : State) (m : MethodId) (args : Array Value) (below : List Frame) (meth : Method) (c : Code) (Q : State → Prop) (A : Nat → Prop) (dC : Nat → ClassId) (dI : Nat → Nat → Nat) (a : Nat → Nat) (ac : Nat → ClassId) (g : (St × (St)) → Option (St × (St))) (r : St × (St)) : Prop := ∀ (s0 : St × (St)) (H : Heap) (locs : List Loc) (ls : Array Slot), g s0 = some r → va_P (dC, dI) vwCl (dw_X16 a ac s0) H → va_D A (dw_X16 a ac s0) → va_S A s.heap H locs → lv_has ls 6 [(0, .ref (a 0))] → W p l e (headSpec ow_dm_X16_decide ({ frames := 2, cells := 0, slots := 0, locals := 45 })).room s m args below meth c H locs 0 0 Q (F0 m 10 ls [])
def dj_X16_decide_156 (p : Program) (l : Launch) (e : Env) (s : State) (m : MethodId) (args : Array Value) (below : List Frame) (meth : Method) (c : Code) (Q : State → Prop) (A : Nat → Prop) (dC : Nat → ClassId) (dI : Nat → Nat → Nat) (a : Nat → Nat) (ac : Nat → ClassId) (g : (St × (St)) → Option (St × (St))) (r : St × (St)) : Prop := ∀ (s0 : St × (St)) (H : Heap) (locs : List Loc) (ls : Array Slot), g s0 = some r → va_P (dC, dI) vwCl (dw_X16 a ac s0) H → va_D A (dw_X16 a ac s0) → va_S A s.heap H locs → lv_has ls 6 [] → W p l e (headSpec ow_dm_X16_decide ({ frames := 2, cells := 0, slots := 0, locals := 45 })).room s m args below meth c H locs 0 0 Q (F0 m 156 ls [])
def dj_X16_decide_94 (p : Program) (l : Launch) (e : Env) (s : State) (m : MethodId) (args : Array Value) (below : List Frame) (meth : Method) (c : Code) (Q : State → Prop) (A : Nat → Prop) (dC : Nat → ClassId) (dI : Nat → Nat → Nat) (a : Nat → Nat) (ac : Nat → ClassId) (g : Int32 → Int32 → (St × (St)) → Option (St × (St))) (r : St × (St)) : Prop := ∀ (x1 : Int32) (x5 : Int32) (s0 : St × (St)) (H : Heap) (locs : List Loc) (ls : Array Slot), g x1 x5 s0 = some r → va_P (dC, dI) vwCl (dw_X16 a ac s0) H → va_D A (dw_X16 a ac s0) → va_S A s.heap H locs → lv_has ls 6 [(0, .ref (a 0)), (1, .int x1), (5, .int x5)] → W p l e (headSpec ow_dm_X16_decide ({ frames := 2, cells := 0, slots := 0, locals := 45 })).room s m args below meth c H locs 0 0 Q (F0 m 94 ls [])
def dj_X16_decide_92 (p : Program) (l : Launch) (e : Env) (s : State) (m : MethodId) (args : Array Value) (below : List Frame) (meth : Method) (c : Code) (Q : State → Prop) (A : Nat → Prop) (dC : Nat → ClassId) (dI : Nat → Nat → Nat) (a : Nat → Nat) (ac : Nat → ClassId) (g : Int32 → Int32 → (St × (St)) → Option (St × (St))) (r : St × (St)) : Prop := ∀ (x1 : Int32) (y0 : Int32) (s0 : St × (St)) (H : Heap) (locs : List Loc) (ls : Array Slot), g x1 y0 s0 = some r → va_P (dC, dI) vwCl (dw_X16 a ac s0) H → va_D A (dw_X16 a ac s0) → va_S A s.heap H locs → lv_has ls 6 [(0, .ref (a 0)), (1, .int x1)] → W p l e (headSpec ow_dm_X16_decide ({ frames := 2, cells := 0, slots := 0, locals := 45 })).room s m args below meth c H locs 0 0 Q (F0 m 92 ls [.int y0])
def dj_X16_decide_73 (p : Program) (l : Launch) (e : Env) (s : State) (m : MethodId) (args : Array Value) (below : List Frame) (meth : Method) (c : Code) (Q : State → Prop) (A : Nat → Prop) (dC : Nat → ClassId) (dI : Nat → Nat → Nat) (a : Nat → Nat) (ac : Nat → ClassId) (g : Int32 → Int32 → Int32 → (St × (St)) → Option (St × (St))) (r : St × (St)) : Prop := ∀ (x1 : Int32) (x2 : Int32) (y0 : Int32) (s0 : St × (St)) (H : Heap) (locs : List Loc) (ls : Array Slot), g x1 x2 y0 s0 = some r → va_P (dC, dI) vwCl (dw_X16 a ac s0) H → va_D A (dw_X16 a ac s0) → va_S A s.heap H locs → lv_has ls 6 [(0, .ref (a 0)), (1, .int x1), (2, .int x2)] → W p l e (headSpec ow_dm_X16_decide ({ frames := 2, cells := 0, slots := 0, locals := 45 })).room s m args below meth c H locs 0 0 Q (F0 m 73 ls [.int y0])
def dj_X16_decide_0 (p : Program) (l : Launch) (e : Env) (s : State) (m : MethodId) (args : Array Value) (below : List Frame) (meth : Method) (c : Code) (Q : State → Prop) (A : Nat → Prop) (dC : Nat → ClassId) (dI : Nat → Nat → Nat) (a : Nat → Nat) (ac : Nat → ClassId) (g : Int32 → Int32 → Int32 → Int32 → (St × (St)) → Option (St × (St))) (r : St × (St)) : Prop := ∀ (v0 : Int32) (v1 : Int32) (v2 : Int32) (v3 : Int32) (s0 : St × (St)) (H : Heap) (locs : List Loc) (ls : Array Slot), g v0 v1 v2 v3 s0 = some r → va_P (dC, dI) vwCl (dw_X16 a ac s0) H → va_D A (dw_X16 a ac s0) → va_S A s.heap H locs → lv_has ls 6 [(0, .ref (a 0)), (1, .int v0), (2, .int v1), (3, .int v2), (4, .int v3)] → W p l e (headSpec ow_dm_X16_decide ({ frames := 2, cells := 0, slots := 0, locals := 45 })).room s m args below meth c H locs 0 0 Q (F0 m 0 ls [])
set_option maxHeartbeats 40000000 in
set_option maxRecDepth 100000 in
theorem db_X16_decide_10 {p : Program} {l : Launch} {e : Env} {s : State} {m : MethodId} {args : Array Value} {below : List Frame} {meth : Method} {c : Code} {Q : State → Prop} {A : Nat → Prop} {dC : Nat → ClassId} {dI : Nat → Nat → Nat} {a : Nat → Nat} {ac : Nat → ClassId} {n : Nat} {r : St × (St)} (C : nd_C p l s m args c A (dC, dI) cX16_decide 6 RX16 ow_dm_X16_decide (dk_X16 ac)) (K : nd_Kv p l e (headSpec ow_dm_X16_decide ({ frames := 2, cells := 0, slots := 0, locals := 45 })).room s m args below meth c Q A (dC, dI) cX16_decide (St × (St)) (dw_X16 a ac) r) : dj_X16_decide_10 p l e s m args below meth c Q A dC dI a ac (df_X16_decide_10 n) r := by
  obtain ⟨hlt, hx, hb, hml, hown, hts, hN, hA, hK⟩ := id C
  intro s0 H locs ls h hP hD hS hl
  unfold df_X16_decide_10 at h
  refine lv_aload_n hx hb dX16_decide_10 rfl (lv_at hl 0 rfl) ?_
  obtain ⟨q2, s3, hq, h⟩ := nd_b2_e h
  have hPc := hP
  have hDc := hD
  have hKc := hK
  have hFc := nd_rs hD hS hA
  refine nd_cVi (As := []) (rest := []) (q := q2) (w' := dw_X16 a ac s3) ⟨hx, hb, hml, hown, hts⟩ (fun sz => dm_X16_illegal l hlt dC dI a ac n  s0 hq sz) (cwV 0 hts gi_dm_X16_decide_0 rfl rfl rfl (by decide +kernel) ⟨Nat.le_of_ble_eq_true rfl, Nat.le_of_ble_eq_true rfl⟩) hPc hDc hKc hS hA hN (va_recv hKc hPc (ci := 17) (q0 := 0) rfl rfl) rfl hl.1 rfl (Nat.le_of_ble_eq_true rfl) dX16_decide_11 (fun H locs hP1 hD1 hk1 hS => ?_)
  have hP := hP1
  have hD := hD1.weaken (fun k q _ h => hFc q.1 h)
  refine lv_pop hx hb dX16_decide_14 rfl ?_
  exact K _ _ _ _ _ dX16_decide_15 (Option.some.inj h).symm hP hD hS
set_option maxHeartbeats 40000000 in
set_option maxRecDepth 100000 in
theorem db_X16_decide_156 {p : Program} {l : Launch} {e : Env} {s : State} {m : MethodId} {args : Array Value} {below : List Frame} {meth : Method} {c : Code} {Q : State → Prop} {A : Nat → Prop} {dC : Nat → ClassId} {dI : Nat → Nat → Nat} {a : Nat → Nat} {ac : Nat → ClassId} {n : Nat} {r : St × (St)} (C : nd_C p l s m args c A (dC, dI) cX16_decide 6 RX16 ow_dm_X16_decide (dk_X16 ac)) (K : nd_Kv p l e (headSpec ow_dm_X16_decide ({ frames := 2, cells := 0, slots := 0, locals := 45 })).room s m args below meth c Q A (dC, dI) cX16_decide (St × (St)) (dw_X16 a ac) r) : dj_X16_decide_156 p l e s m args below meth c Q A dC dI a ac (df_X16_decide_156 n) r := by
  obtain ⟨hlt, hx, hb, hml, hown, hts, hN, hA, hK⟩ := id C
  intro s0 H locs ls h hP hD hS hl
  unfold df_X16_decide_156 at h
  exact K _ _ _ _ _ dX16_decide_156 (Option.some.inj h).symm hP hD hS
set_option maxHeartbeats 40000000 in
set_option maxRecDepth 100000 in
theorem db_X16_decide_94 {p : Program} {l : Launch} {e : Env} {s : State} {m : MethodId} {args : Array Value} {below : List Frame} {meth : Method} {c : Code} {Q : State → Prop} {A : Nat → Prop} {dC : Nat → ClassId} {dI : Nat → Nat → Nat} {a : Nat → Nat} {ac : Nat → ClassId} {n : Nat} {r : St × (St)} (C : nd_C p l s m args c A (dC, dI) cX16_decide 6 RX16 ow_dm_X16_decide (dk_X16 ac)) (K : nd_Kv p l e (headSpec ow_dm_X16_decide ({ frames := 2, cells := 0, slots := 0, locals := 45 })).room s m args below meth c Q A (dC, dI) cX16_decide (St × (St)) (dw_X16 a ac) r) : dj_X16_decide_94 p l e s m args below meth c Q A dC dI a ac (df_X16_decide_94 n) r := by
  obtain ⟨hlt, hx, hb, hml, hown, hts, hN, hA, hK⟩ := id C
  intro x1 x5 s0 H locs ls h hP hD hS hl
  unfold df_X16_decide_94 at h
  refine lv_iload hx hb dX16_decide_94 (lv_at hl 2 rfl) ?_
  refine lv_if_eq (tgt := 156) hx hb dX16_decide_96 (by decide) (fun c16 => ?_) (fun c16 => ?_)
  · have h := nd_pos h c16
    exact (db_X16_decide_156 C K)  s0 _ _ _ h hP hD hS (lv_sub hl [] rfl)
  · have h := nd_neg h c16
    refine lv_aload_n hx hb dX16_decide_99 rfl (lv_at hl 0 rfl) ?_
    refine lv_aload_n hx hb dX16_decide_100 rfl (lv_at hl 0 rfl) ?_
    refine va_get (D := (dC, dI)) (ci := 17) (v := .ref (a 12)) (C := RX16) (T := TX16) (N := 56) hx hb hts hi_dm_X16_decide_X16 hown hK hP 0 rfl rfl 20 (by decide) (hts (.fieldLink RX16 45 "TimeMachineModel$Machine" "place" "[I") (List.mem_of_getElem? (i := 7) rfl)) (fun _ h9 => h9) rfl dX16_decide_101 ?_
    refine lv_aload_n hx hb dX16_decide_104 rfl (lv_at hl 0 rfl) ?_
    refine va_get (D := (dC, dI)) (ci := 17) (v := .int (sI s0.1 12)) (C := RX16) (T := TX16) (N := 56) hx hb hts hi_dm_X16_decide_X16 hown hK hP 0 rfl rfl 51 (by decide) (hts (.fieldLink RX16 232 "TimeMachineModel$Machine" "p" "I") (List.mem_of_getElem? (i := 8) rfl)) (fun _ h9 => h9) rfl dX16_decide_105 ?_
    obtain ⟨i17, h⟩ := nd_ck_e h
    refine va_iald (i := (sI s0.1 12)) hx hb hK hP 12 11 rfl rfl i17 dX16_decide_108 ?_
    refine lv_iload_n hx hb dX16_decide_109 rfl (lv_at hl 1 rfl) ?_
    refine lv_bipush (v := 31) hx hb dX16_decide_110 (by decide) ?_
    refine lv_iconst (v := 1) hx hb dX16_decide_112 (by decide) ?_
    refine lv_bipush (v := 12) hx hb dX16_decide_113 (by decide) ?_
    obtain ⟨q18, s19, hq, h⟩ := nd_b2_e h
    have hPc : va_P (dC, dI) vwCl (dw_P a ac ()) H := nd_p0
    have hDc : va_D A (dw_P a ac ()) := nd_d0
    have hKc : va_K (dC, dI) vwCl (dk_P ac) s := nd_y0 hK
    have hFc : ∀ q, va_A (dw_P a ac ()) H.size q → A q := nd_r0 hS hA
    refine nd_cSi (As := [.int x1, .int 31, .int 1, .int 12]) (rest := [.int (sR s0.1 10 (Int32.toNatClampNeg (sI s0.1 12))), .ref (a 0)]) (q := q18) (w' := dw_P a ac s19) ⟨hx, hb, hml, hown, hts⟩ (fun sz => dm_X16_bit l hlt dC dI a ac n (x1) (31) (1) (12) () hq sz) (cwS 4 hts gi_dm_X16_decide_2 rfl rfl rfl (by decide +kernel) ⟨Nat.le_of_ble_eq_true rfl, Nat.le_of_ble_eq_true rfl⟩) hPc hDc hKc hS hA hN rfl hl.1 rfl (Nat.le_of_ble_eq_true rfl) dX16_decide_115 (fun H locs hP1 hD1 hk1 hS => ?_)
    have hP := nd_n0 hP hk1
    refine lv_iload_n hx hb dX16_decide_118 rfl (lv_at hl 1 rfl) ?_
    refine lv_bipush (v := 7) hx hb dX16_decide_119 (by decide) ?_
    refine lv_iconst (v := 1) hx hb dX16_decide_121 (by decide) ?_
    refine lv_bipush (v := 11) hx hb dX16_decide_122 (by decide) ?_
    obtain ⟨q21, s22, hq, h⟩ := nd_b2_e h
    have hPc : va_P (dC, dI) vwCl (dw_P a ac ()) H := nd_p0
    have hDc : va_D A (dw_P a ac ()) := nd_d0
    have hKc : va_K (dC, dI) vwCl (dk_P ac) s := nd_y0 hK
    have hFc : ∀ q, va_A (dw_P a ac ()) H.size q → A q := nd_r0 hS hA
    refine nd_cSi (As := [.int x1, .int 7, .int 1, .int 11]) (rest := [.int q18, .int (sR s0.1 10 (Int32.toNatClampNeg (sI s0.1 12))), .ref (a 0)]) (q := q21) (w' := dw_P a ac s22) ⟨hx, hb, hml, hown, hts⟩ (fun sz => dm_X16_bit l hlt dC dI a ac n (x1) (7) (1) (11) () hq sz) (cwS 4 hts gi_dm_X16_decide_2 rfl rfl rfl (by decide +kernel) ⟨Nat.le_of_ble_eq_true rfl, Nat.le_of_ble_eq_true rfl⟩) hPc hDc hKc hS hA hN rfl hl.1 rfl (Nat.le_of_ble_eq_true rfl) dX16_decide_124 (fun H locs hP1 hD1 hk1 hS => ?_)
    have hP := nd_n0 hP hk1
    refine lv_ior hx hb dX16_decide_127 ?_
    refine lv_iload_n hx hb dX16_decide_128 rfl (lv_at hl 1 rfl) ?_
    refine lv_bipush (v := 25) hx hb dX16_decide_129 (by decide) ?_
    refine lv_bipush (v := 6) hx hb dX16_decide_131 (by decide) ?_
    refine lv_iconst (v := 5) hx hb dX16_decide_133 (by decide) ?_
    obtain ⟨q24, s25, hq, h⟩ := nd_b2_e h
    have hPc : va_P (dC, dI) vwCl (dw_P a ac ()) H := nd_p0
    have hDc : va_D A (dw_P a ac ()) := nd_d0
    have hKc : va_K (dC, dI) vwCl (dk_P ac) s := nd_y0 hK
    have hFc : ∀ q, va_A (dw_P a ac ()) H.size q → A q := nd_r0 hS hA
    refine nd_cSi (As := [.int x1, .int 25, .int 6, .int 5]) (rest := [.int (q18 ||| q21), .int (sR s0.1 10 (Int32.toNatClampNeg (sI s0.1 12))), .ref (a 0)]) (q := q24) (w' := dw_P a ac s25) ⟨hx, hb, hml, hown, hts⟩ (fun sz => dm_X16_bit l hlt dC dI a ac n (x1) (25) (6) (5) () hq sz) (cwS 4 hts gi_dm_X16_decide_2 rfl rfl rfl (by decide +kernel) ⟨Nat.le_of_ble_eq_true rfl, Nat.le_of_ble_eq_true rfl⟩) hPc hDc hKc hS hA hN rfl hl.1 rfl (Nat.le_of_ble_eq_true rfl) dX16_decide_134 (fun H locs hP1 hD1 hk1 hS => ?_)
    have hP := nd_n0 hP hk1
    refine lv_ior hx hb dX16_decide_137 ?_
    refine lv_iload_n hx hb dX16_decide_138 rfl (lv_at hl 1 rfl) ?_
    refine lv_bipush (v := 8) hx hb dX16_decide_139 (by decide) ?_
    refine lv_iconst (v := 4) hx hb dX16_decide_141 (by decide) ?_
    refine lv_iconst (v := 1) hx hb dX16_decide_142 (by decide) ?_
    obtain ⟨q27, s28, hq, h⟩ := nd_b2_e h
    have hPc : va_P (dC, dI) vwCl (dw_P a ac ()) H := nd_p0
    have hDc : va_D A (dw_P a ac ()) := nd_d0
    have hKc : va_K (dC, dI) vwCl (dk_P ac) s := nd_y0 hK
    have hFc : ∀ q, va_A (dw_P a ac ()) H.size q → A q := nd_r0 hS hA
    refine nd_cSi (As := [.int x1, .int 8, .int 4, .int 1]) (rest := [.int ((q18 ||| q21) ||| q24), .int (sR s0.1 10 (Int32.toNatClampNeg (sI s0.1 12))), .ref (a 0)]) (q := q27) (w' := dw_P a ac s28) ⟨hx, hb, hml, hown, hts⟩ (fun sz => dm_X16_bit l hlt dC dI a ac n (x1) (8) (4) (1) () hq sz) (cwS 4 hts gi_dm_X16_decide_2 rfl rfl rfl (by decide +kernel) ⟨Nat.le_of_ble_eq_true rfl, Nat.le_of_ble_eq_true rfl⟩) hPc hDc hKc hS hA hN rfl hl.1 rfl (Nat.le_of_ble_eq_true rfl) dX16_decide_143 (fun H locs hP1 hD1 hk1 hS => ?_)
    have hP := nd_n0 hP hk1
    refine lv_ior hx hb dX16_decide_146 ?_
    refine lv_bipush (v := 13) hx hb dX16_decide_147 (by decide) ?_
    obtain ⟨q30, s31, hq, h⟩ := nd_b2_e h
    have hPc : va_P (dC, dI) vwCl (dw_P a ac ()) H := nd_p0
    have hDc : va_D A (dw_P a ac ()) := nd_d0
    have hKc : va_K (dC, dI) vwCl (dk_P ac) s := nd_y0 hK
    have hFc : ∀ q, va_A (dw_P a ac ()) H.size q → A q := nd_r0 hS hA
    refine nd_cSi (As := [.int (((q18 ||| q21) ||| q24) ||| q27), .int 13]) (rest := [.int (sR s0.1 10 (Int32.toNatClampNeg (sI s0.1 12))), .ref (a 0)]) (q := q30) (w' := dw_P a ac s31) ⟨hx, hb, hml, hown, hts⟩ (fun sz => dm_X16_signed l hlt dC dI a ac n ((((q18 ||| q21) ||| q24) ||| q27)) (13) () hq sz) (cwS 2 hts gi_dm_X16_decide_3 rfl rfl rfl (by decide +kernel) ⟨Nat.le_of_ble_eq_true rfl, Nat.le_of_ble_eq_true rfl⟩) hPc hDc hKc hS hA hN rfl hl.1 rfl (Nat.le_of_ble_eq_true rfl) dX16_decide_149 (fun H locs hP1 hD1 hk1 hS => ?_)
    have hP := nd_n0 hP hk1
    refine lv_iadd hx hb dX16_decide_152 ?_
    refine va_put (D := (dC, dI)) (ci := 17) (v := .int ((sR s0.1 10 (Int32.toNatClampNeg (sI s0.1 12))) + q30)) (ty := .int) (C := RX16) (T := TX16) (N := 56) hx hb hts hi_dm_X16_decide_X16 tyX16 tyX16_ok nmX16 hown hK hP hD hS 0 rfl rfl 49 (by decide) (hts (.fieldLink RX16 350 "TimeMachineModel$Machine" "next" "I") (List.mem_of_getElem? (i := 13) rfl)) (fun _ h9 => h9) rfl (by decide +kernel) rfl rfl (Nat.le_of_ble_eq_true rfl) dX16_decide_153 (fun H locs hP hD hS => ?_)
    obtain ⟨s33, es33, h⟩ := nd_let_e h
    have hP : va_P (dC, dI) vwCl (dw_X16 a ac s33) H := by rw [es33]; exact hP
    have hD : va_D A (dw_X16 a ac s33) := by rw [es33]; exact hD
    exact (db_X16_decide_156 C K)  s33 _ _ _ h hP hD hS (lv_sub hl [] rfl)
set_option maxHeartbeats 40000000 in
set_option maxRecDepth 100000 in
theorem db_X16_decide_92 {p : Program} {l : Launch} {e : Env} {s : State} {m : MethodId} {args : Array Value} {below : List Frame} {meth : Method} {c : Code} {Q : State → Prop} {A : Nat → Prop} {dC : Nat → ClassId} {dI : Nat → Nat → Nat} {a : Nat → Nat} {ac : Nat → ClassId} {n : Nat} {r : St × (St)} (C : nd_C p l s m args c A (dC, dI) cX16_decide 6 RX16 ow_dm_X16_decide (dk_X16 ac)) (K : nd_Kv p l e (headSpec ow_dm_X16_decide ({ frames := 2, cells := 0, slots := 0, locals := 45 })).room s m args below meth c Q A (dC, dI) cX16_decide (St × (St)) (dw_X16 a ac) r) : dj_X16_decide_92 p l e s m args below meth c Q A dC dI a ac (df_X16_decide_92 n) r := by
  obtain ⟨hlt, hx, hb, hml, hown, hts, hN, hA, hK⟩ := id C
  intro x1 y0 s0 H locs ls h hP hD hS hl
  unfold df_X16_decide_92 at h
  refine lv_istore (lv' := [(5, .int y0), (0, .ref (a 0)), (1, .int x1)]) hx hb dX16_decide_92 hl (by decide) rfl (fun ls hl => ?_)
  exact (db_X16_decide_94 C K) (x1) (y0) s0 _ _ _ h hP hD hS (lv_sub hl [1, 2, 0] rfl)
set_option maxHeartbeats 40000000 in
set_option maxRecDepth 100000 in
theorem db_X16_decide_73 {p : Program} {l : Launch} {e : Env} {s : State} {m : MethodId} {args : Array Value} {below : List Frame} {meth : Method} {c : Code} {Q : State → Prop} {A : Nat → Prop} {dC : Nat → ClassId} {dI : Nat → Nat → Nat} {a : Nat → Nat} {ac : Nat → ClassId} {n : Nat} {r : St × (St)} (C : nd_C p l s m args c A (dC, dI) cX16_decide 6 RX16 ow_dm_X16_decide (dk_X16 ac)) (K : nd_Kv p l e (headSpec ow_dm_X16_decide ({ frames := 2, cells := 0, slots := 0, locals := 45 })).room s m args below meth c Q A (dC, dI) cX16_decide (St × (St)) (dw_X16 a ac) r) : dj_X16_decide_73 p l e s m args below meth c Q A dC dI a ac (df_X16_decide_73 n) r := by
  obtain ⟨hlt, hx, hb, hml, hown, hts, hN, hA, hK⟩ := id C
  intro x1 x2 y0 s0 H locs ls h hP hD hS hl
  unfold df_X16_decide_73 at h
  refine lv_istore (lv' := [(5, .int y0), (0, .ref (a 0)), (1, .int x1), (2, .int x2)]) hx hb dX16_decide_73 hl (by decide) rfl (fun ls hl => ?_)
  refine lv_iload_n hx hb dX16_decide_75 rfl (lv_at hl 3 rfl) ?_
  refine lv_iconst (v := 1) hx hb dX16_decide_76 (by decide) ?_
  refine lv_iand hx hb dX16_decide_77 ?_
  refine lv_iconst (v := 1) hx hb dX16_decide_78 (by decide) ?_
  refine lv_icmp_ne (tgt := 94) hx hb dX16_decide_79 (by decide) (fun c15 => ?_) (fun c15 => ?_)
  · have h := nd_neg h c15
    exact (db_X16_decide_94 C K) (x1) (y0) s0 _ _ _ h hP hD hS (lv_sub hl [1, 2, 0] rfl)
  · have h := nd_pos h c15
    refine lv_iload hx hb dX16_decide_82 (lv_at hl 0 rfl) ?_
    refine lv_if_ne (tgt := 91) hx hb dX16_decide_84 (by decide) (fun c34 => ?_) (fun c34 => ?_)
    · have h := nd_neg h c34
      refine lv_iconst (v := 0) hx hb dX16_decide_91 (by decide) ?_
      exact (db_X16_decide_92 C K) (x1) (0) s0 _ _ _ h hP hD hS (lv_sub hl [1, 2] rfl)
    · have h := nd_pos h c34
      refine lv_iconst (v := 1) hx hb dX16_decide_87 (by decide) ?_
      refine lv_goto (tgt := 92) hx hb dX16_decide_88 (by decide) ?_
      exact (db_X16_decide_92 C K) (x1) (1) s0 _ _ _ h hP hD hS (lv_sub hl [1, 2] rfl)
set_option maxHeartbeats 40000000 in
set_option maxRecDepth 100000 in
theorem db_X16_decide_0 {p : Program} {l : Launch} {e : Env} {s : State} {m : MethodId} {args : Array Value} {below : List Frame} {meth : Method} {c : Code} {Q : State → Prop} {A : Nat → Prop} {dC : Nat → ClassId} {dI : Nat → Nat → Nat} {a : Nat → Nat} {ac : Nat → ClassId} {n : Nat} {r : St × (St)} (C : nd_C p l s m args c A (dC, dI) cX16_decide 6 RX16 ow_dm_X16_decide (dk_X16 ac)) (K : nd_Kv p l e (headSpec ow_dm_X16_decide ({ frames := 2, cells := 0, slots := 0, locals := 45 })).room s m args below meth c Q A (dC, dI) cX16_decide (St × (St)) (dw_X16 a ac) r) : dj_X16_decide_0 p l e s m args below meth c Q A dC dI a ac (df_X16_decide_0 n) r := by
  obtain ⟨hlt, hx, hb, hml, hown, hts, hN, hA, hK⟩ := id C
  intro v0 v1 v2 v3 s0 H locs ls h hP hD hS hl
  unfold df_X16_decide_0 at h
  refine lv_iload_n hx hb dX16_decide_0 rfl (lv_at hl 2 rfl) ?_
  refine lv_iconst (v := 2) hx hb dX16_decide_1 (by decide) ?_
  refine lv_icmp_eq (tgt := 10) hx hb dX16_decide_2 (by decide) (fun c1 => ?_) (fun c1 => ?_)
  · have h := nd_pos h c1
    exact (db_X16_decide_10 C K)  s0 _ _ _ h hP hD hS (lv_sub hl [0] rfl)
  · have h := nd_neg h c1
    refine lv_iload_n hx hb dX16_decide_5 rfl (lv_at hl 2 rfl) ?_
    refine lv_iconst (v := 3) hx hb dX16_decide_6 (by decide) ?_
    refine lv_icmp_ne (tgt := 16) hx hb dX16_decide_7 (by decide) (fun c5 => ?_) (fun c5 => ?_)
    · have h := nd_neg h c5
      refine lv_iload_n hx hb dX16_decide_16 rfl (lv_at hl 2 rfl) ?_
      refine lv_iconst (v := 2) hx hb dX16_decide_17 (by decide) ?_
      refine lv_icmp_ge (tgt := 35) hx hb dX16_decide_18 (by decide) (fun c6 => ?_) (fun c6 => ?_)
      · have h := nd_pos h c6
        refine lv_iload_n hx hb dX16_decide_35 rfl (lv_at hl 2 rfl) ?_
        refine lv_bipush (v := 6) hx hb dX16_decide_36 (by decide) ?_
        refine lv_icmp_ge (tgt := 55) hx hb dX16_decide_38 (by decide) (fun c7 => ?_) (fun c7 => ?_)
        · have h := nd_pos h c7
          refine lv_iload_n hx hb dX16_decide_55 rfl (lv_at hl 3 rfl) ?_
          obtain ⟨q8, s9, hq, h⟩ := nd_b2_e h
          have hPc : va_P (dC, dI) vwCl (dw_P a ac ()) H := nd_p0
          have hDc : va_D A (dw_P a ac ()) := nd_d0
          have hKc : va_K (dC, dI) vwCl (dk_P ac) s := nd_y0 hK
          have hFc : ∀ q, va_A (dw_P a ac ()) H.size q → A q := nd_r0 hS hA
          refine nd_cSl (As := [.int v2]) (rest := []) (q := q8) (w' := dw_P a ac s9) ⟨hx, hb, hml, hown, hts⟩ (fun sz => dm_X16_plain l hlt dC dI a ac n (v2) () hq sz) (cwS 1 hts gi_dm_X16_decide_1 rfl rfl rfl (by decide +kernel) ⟨Nat.le_of_ble_eq_true rfl, Nat.le_of_ble_eq_true rfl⟩) hPc hDc hKc hS hA hN rfl hl.1 rfl (Nat.le_of_ble_eq_true rfl) dX16_decide_56 (fun H locs hP1 hD1 hk1 hS => ?_)
          have hP := nd_n0 hP hk1
          refine lv_iload hx hb dX16_decide_59 (lv_at hl 4 rfl) ?_
          obtain ⟨q11, s12, hq, h⟩ := nd_b2_e h
          have hPc : va_P (dC, dI) vwCl (dw_P a ac ()) H := nd_p0
          have hDc : va_D A (dw_P a ac ()) := nd_d0
          have hKc : va_K (dC, dI) vwCl (dk_P ac) s := nd_y0 hK
          have hFc : ∀ q, va_A (dw_P a ac ()) H.size q → A q := nd_r0 hS hA
          refine nd_cSl (As := [.int v3]) (rest := [.long q8]) (q := q11) (w' := dw_P a ac s12) ⟨hx, hb, hml, hown, hts⟩ (fun sz => dm_X16_plain l hlt dC dI a ac n (v3) () hq sz) (cwS 1 hts gi_dm_X16_decide_1 rfl rfl rfl (by decide +kernel) ⟨Nat.le_of_ble_eq_true rfl, Nat.le_of_ble_eq_true rfl⟩) hPc hDc hKc hS hA hN rfl hl.1 rfl (Nat.le_of_ble_eq_true rfl) dX16_decide_61 (fun H locs hP1 hD1 hk1 hS => ?_)
          have hP := nd_n0 hP hk1
          refine W.lcmp hx hb dX16_decide_64 ?_
          refine lv_if_ge (tgt := 72) hx hb dX16_decide_65 (by decide) (fun c14 => ?_) (fun c14 => ?_)
          · have h := nd_pos h c14
            refine lv_iconst (v := 0) hx hb dX16_decide_72 (by decide) ?_
            exact (db_X16_decide_73 C K) (v0) (v1) (0) s0 _ _ _ h hP hD hS (lv_sub hl [0, 1, 2] rfl)
          · have h := nd_neg h c14
            refine lv_iconst (v := 1) hx hb dX16_decide_68 (by decide) ?_
            refine lv_goto (tgt := 73) hx hb dX16_decide_69 (by decide) ?_
            exact (db_X16_decide_73 C K) (v0) (v1) (1) s0 _ _ _ h hP hD hS (lv_sub hl [0, 1, 2] rfl)
        · have h := nd_neg h c7
          refine lv_iload_n hx hb dX16_decide_41 rfl (lv_at hl 3 rfl) ?_
          refine lv_iload hx hb dX16_decide_42 (lv_at hl 4 rfl) ?_
          refine lv_icmp_ge (tgt := 51) hx hb dX16_decide_44 (by decide) (fun c35 => ?_) (fun c35 => ?_)
          · have h := nd_pos h c35
            refine lv_iconst (v := 0) hx hb dX16_decide_51 (by decide) ?_
            refine lv_goto (tgt := 73) hx hb dX16_decide_52 (by decide) ?_
            exact (db_X16_decide_73 C K) (v0) (v1) (0) s0 _ _ _ h hP hD hS (lv_sub hl [0, 1, 2] rfl)
          · have h := nd_neg h c35
            refine lv_iconst (v := 1) hx hb dX16_decide_47 (by decide) ?_
            refine lv_goto (tgt := 73) hx hb dX16_decide_48 (by decide) ?_
            exact (db_X16_decide_73 C K) (v0) (v1) (1) s0 _ _ _ h hP hD hS (lv_sub hl [0, 1, 2] rfl)
      · have h := nd_neg h c6
        refine lv_iload_n hx hb dX16_decide_21 rfl (lv_at hl 3 rfl) ?_
        refine lv_iload hx hb dX16_decide_22 (lv_at hl 4 rfl) ?_
        refine lv_icmp_ne (tgt := 31) hx hb dX16_decide_24 (by decide) (fun c36 => ?_) (fun c36 => ?_)
        · have h := nd_neg h c36
          refine lv_iconst (v := 0) hx hb dX16_decide_31 (by decide) ?_
          refine lv_goto (tgt := 73) hx hb dX16_decide_32 (by decide) ?_
          exact (db_X16_decide_73 C K) (v0) (v1) (0) s0 _ _ _ h hP hD hS (lv_sub hl [0, 1, 2] rfl)
        · have h := nd_pos h c36
          refine lv_iconst (v := 1) hx hb dX16_decide_27 (by decide) ?_
          refine lv_goto (tgt := 73) hx hb dX16_decide_28 (by decide) ?_
          exact (db_X16_decide_73 C K) (v0) (v1) (1) s0 _ _ _ h hP hD hS (lv_sub hl [0, 1, 2] rfl)
    · have h := nd_pos h c5
      exact (db_X16_decide_10 C K)  s0 _ _ _ h hP hD hS (lv_sub hl [0] rfl)
set_option maxHeartbeats 40000000 in
set_option maxRecDepth 100000 in
theorem dm_X16_decide (l : Launch) (hlt : l.stackTraces = false) (dC : Nat → ClassId) (dI : Nat → Nat → Nat) (a : Nat → Nat) (ac : Nat → ClassId) (n : Nat) (v0 : Int32) (v1 : Int32) (v2 : Int32) (v3 : Int32) (s0 : St × (St)) {r : St × (St)} (h : df_X16_decide n v0 v1 v2 v3 s0 = some r) (sz : Nat) : Met l yX16_decide ow_dm_X16_decide ({ frames := 2, cells := 0, slots := 0, locals := 45 }) (va_Pc [.ref (a 0), .int v0, .int v1, .int v2, .int v3] (fun U => U.heap.size = sz ∧ va_P (dC, dI) vwCl (dw_X16 a ac s0) U.heap ∧ va_K (dC, dI) vwCl (dk_X16 ac) U ∧ va_D (fun _ => True) (dw_X16 a ac s0) ∧ nv_E dI (va_A (dw_X16 a ac s0) sz) U)) (va_Qv (fun _ => True) (fun (_ : Unit) t => va_P (dC, dI) vwCl (dw_X16 a ac r) t.heap ∧ va_K (dC, dI) vwCl (dk_X16 ac) t ∧ va_D (va_A (dw_X16 a ac s0) sz) (dw_X16 a ac r)) (va_A (dw_X16 a ac s0) sz)) 0 0 (va_A (dw_X16 a ac s0) sz) := by
  refine Met.ofW (cc := cX16_decide) (maxL := 6) (ret := none) (by decide) rfl ?_
  intro p e s m args below meth c s₁ B hml hv
  obtain ⟨rfl, hsz, hP, hK, hD0, hN⟩ := hv
  have hx := B.exec
  have hb := B.bytes
  have hr := B.returns
  have hts := atoms_spec (ws := ow_dm_X16_decide) B.pre
  have hown : s.vm.findClass RX16 = some m.cls := findClass_of_methodNamed B.named
  have hlocks := B.notSynchronized
  subst hsz
  have hD := hD0.self (sz := s.heap.size)
  generalize hAe : va_A (dw_X16 a ac s0) s.heap.size = A at hD hN ⊢
  have hA : ∀ q : Nat, s.heap.size ≤ q → A q := fun q h => by rw [← hAe]; exact Or.inr h
  have hl := lv_entry ([.ref (a 0), .int v0, .int v1, .int v2, .int v3]) (n := 6) (Nat.le_of_ble_eq_true rfl)
  rw [lg_entry_eq]
  generalize (lg_sl ([.ref (a 0), .int v0, .int v1, .int v2, .int v3]) ++ List.replicate (6 - (lg_sl ([.ref (a 0), .int v0, .int v1, .int v2, .int v3])).length) Slot.unset).toArray = ls at hl ⊢
  have hl : lv_has ls 6 [(0, .ref (a 0)), (1, .int v0), (2, .int v1), (3, .int v2), (4, .int v3)] := hl
  exact db_X16_decide_0 (dC := dC) (dI := dI) (a := a) (ac := ac) (n := n) (r := r) ⟨hlt, hx, hb, hml, hown, hts, hN, hA, hK⟩ (fun pc τ H locs ls d er hP hD hS => by subst er; exact W.vret hx hb hr (fun t ht hW => ⟨⟨(), rfl, trivial, by rw [ht]; exact hP, va_K.moved hW.alike hK, hD⟩, hS.F ht⟩) hS.2.2 d) v0 v1 v2 v3 s0 _ _ _ h hP hD va_S.rf (lv_sub hl [0, 1, 2, 3, 4] rfl)
def ow_dm_X16_system : List Cond := Cond.code yX16_system cX16_system 7 (some .int) :: ([Cond.constant RX16 335 (1048691), Cond.methodLink RX16 356 yX16_illegal, Cond.instanceMethod yX16_illegal, Cond.selects RX16 yX16_illegal yX16_illegal, Cond.initialized RX16, Cond.methodLink RX16 297 yX16_part, Cond.static yX16_part, Cond.fieldLink RX16 154 "TimeMachineModel$Machine" "retired" "J", Cond.fieldLink RX16 151 "TimeMachineModel$Machine" "clock" "J", Cond.methodLink RX16 339 yX16_meet, Cond.instanceMethod yX16_meet, Cond.selects RX16 yX16_meet yX16_meet] ++ (u_ws RX16 TX16 56 ++ (ow_dm_X16_illegal ++ (ow_dm_X16_part ++ (ow_dm_X16_meet ++ [])))))
theorem gd_dm_X16_system : ∀ w ∈ ow_dm_X16_system, (w.onTables && w.keeps) = true ∨ ∃ ty, w = Cond.arrayClass ty := List.forall_mem_cons.mpr ⟨good_of_word rfl, List.forall_mem_append.mpr ⟨fun w h => good_of_word (List.all_eq_true.mp (by decide +kernel) w h), List.forall_mem_append.mpr ⟨gu_X16, List.forall_mem_append.mpr ⟨gd_dm_X16_illegal, List.forall_mem_append.mpr ⟨gd_dm_X16_part, List.forall_mem_append.mpr ⟨gd_dm_X16_meet, fun _ h => nomatch h⟩⟩⟩⟩⟩⟩
theorem hi_dm_X16_system_X16 : ∀ w ∈ u_ws RX16 TX16 56, w ∈ ow_dm_X16_system := fun w h => List.mem_cons_of_mem _ (List.mem_append_right _ (List.mem_append_left _ h))
theorem gi_dm_X16_system_0 : GoodIn ow_dm_X16_system (wsV RX16 356 RX16 yX16_illegal ow_dm_X16_illegal) := goodIn_app (goodIn_of _ (by decide +kernel)) (fun w h => ⟨List.mem_cons_of_mem _ (List.mem_append_right _ (List.mem_append_right _ (List.mem_append_left _ h))), gd_dm_X16_illegal w h⟩)
theorem gi_dm_X16_system_1 : GoodIn ow_dm_X16_system (wsS RX16 297 yX16_part ow_dm_X16_part) := goodIn_app (goodIn_of _ (by decide +kernel)) (fun w h => ⟨List.mem_cons_of_mem _ (List.mem_append_right _ (List.mem_append_right _ (List.mem_append_right _ (List.mem_append_left _ h)))), gd_dm_X16_part w h⟩)
theorem gi_dm_X16_system_2 : GoodIn ow_dm_X16_system (wsV RX16 339 RX16 yX16_meet ow_dm_X16_meet) := goodIn_app (goodIn_of _ (by decide +kernel)) (fun w h => ⟨List.mem_cons_of_mem _ (List.mem_append_right _ (List.mem_append_right _ (List.mem_append_right _ (List.mem_append_right _ (List.mem_append_left _ h))))), gd_dm_X16_meet w h⟩)
def dj_X16_system_55 (p : Program) (l : Launch) (e : Env) (s : State) (m : MethodId) (args : Array Value) (below : List Frame) (meth : Method) (c : Code) (Q : State → Prop) (A : Nat → Prop) (dC : Nat → ClassId) (dI : Nat → Nat → Nat) (a : Nat → Nat) (ac : Nat → ClassId) (g : (St × (St)) → Option (Int32 × (St × (St)))) (r : Int32 × (St × (St))) : Prop := ∀ (s0 : St × (St)) (H : Heap) (locs : List Loc) (ls : Array Slot), g s0 = some r → va_P (dC, dI) vwCl (dw_X16 a ac s0) H → va_D A (dw_X16 a ac s0) → va_S A s.heap H locs → lv_has ls 7 [(0, .ref (a 0))] → W p l e (headSpec ow_dm_X16_system ({ frames := 2, cells := 0, slots := 0, locals := 41 })).room s m args below meth c H locs 0 0 Q (F0 m 55 ls [])
def dj_X16_system_159 (p : Program) (l : Launch) (e : Env) (s : State) (m : MethodId) (args : Array Value) (below : List Frame) (meth : Method) (c : Code) (Q : State → Prop) (A : Nat → Prop) (dC : Nat → ClassId) (dI : Nat → Nat → Nat) (a : Nat → Nat) (ac : Nat → ClassId) (g : Int32 → (St × (St)) → Option (Int32 × (St × (St)))) (r : Int32 × (St × (St))) : Prop := ∀ (y0 : Int32) (s0 : St × (St)) (H : Heap) (locs : List Loc) (ls : Array Slot), g y0 s0 = some r → va_P (dC, dI) vwCl (dw_X16 a ac s0) H → va_D A (dw_X16 a ac s0) → va_S A s.heap H locs → lv_has ls 7 [] → W p l e (headSpec ow_dm_X16_system ({ frames := 2, cells := 0, slots := 0, locals := 41 })).room s m args below meth c H locs 0 0 Q (F0 m 159 ls [.int y0])
def dj_X16_system_151 (p : Program) (l : Launch) (e : Env) (s : State) (m : MethodId) (args : Array Value) (below : List Frame) (meth : Method) (c : Code) (Q : State → Prop) (A : Nat → Prop) (dC : Nat → ClassId) (dI : Nat → Nat → Nat) (a : Nat → Nat) (ac : Nat → ClassId) (g : Int64 → (St × (St)) → Option (Int32 × (St × (St)))) (r : Int32 × (St × (St))) : Prop := ∀ (y0 : Int64) (s0 : St × (St)) (H : Heap) (locs : List Loc) (ls : Array Slot), g y0 s0 = some r → va_P (dC, dI) vwCl (dw_X16 a ac s0) H → va_D A (dw_X16 a ac s0) → va_S A s.heap H locs → lv_has ls 7 [] → W p l e (headSpec ow_dm_X16_system ({ frames := 2, cells := 0, slots := 0, locals := 41 })).room s m args below meth c H locs 0 0 Q (F0 m 151 ls [.long y0])
def dj_X16_system_127 (p : Program) (l : Launch) (e : Env) (s : State) (m : MethodId) (args : Array Value) (below : List Frame) (meth : Method) (c : Code) (Q : State → Prop) (A : Nat → Prop) (dC : Nat → ClassId) (dI : Nat → Nat → Nat) (a : Nat → Nat) (ac : Nat → ClassId) (g : Int32 → Int32 → Int64 → (St × (St)) → Option (Int32 × (St × (St)))) (r : Int32 × (St × (St))) : Prop := ∀ (x3 : Int32) (x4 : Int32) (y0 : Int64) (s0 : St × (St)) (H : Heap) (locs : List Loc) (ls : Array Slot), g x3 x4 y0 s0 = some r → va_P (dC, dI) vwCl (dw_X16 a ac s0) H → va_D A (dw_X16 a ac s0) → va_S A s.heap H locs → lv_has ls 7 [(0, .ref (a 0)), (3, .int x3), (4, .int x4)] → W p l e (headSpec ow_dm_X16_system ({ frames := 2, cells := 0, slots := 0, locals := 41 })).room s m args below meth c H locs 0 0 Q (F0 m 127 ls [.long y0])
def dj_X16_system_107 (p : Program) (l : Launch) (e : Env) (s : State) (m : MethodId) (args : Array Value) (below : List Frame) (meth : Method) (c : Code) (Q : State → Prop) (A : Nat → Prop) (dC : Nat → ClassId) (dI : Nat → Nat → Nat) (a : Nat → Nat) (ac : Nat → ClassId) (g : Int32 → Int32 → (St × (St)) → Option (Int32 × (St × (St)))) (r : Int32 × (St × (St))) : Prop := ∀ (x3 : Int32) (y0 : Int32) (s0 : St × (St)) (H : Heap) (locs : List Loc) (ls : Array Slot), g x3 y0 s0 = some r → va_P (dC, dI) vwCl (dw_X16 a ac s0) H → va_D A (dw_X16 a ac s0) → va_S A s.heap H locs → lv_has ls 7 [(0, .ref (a 0)), (3, .int x3)] → W p l e (headSpec ow_dm_X16_system ({ frames := 2, cells := 0, slots := 0, locals := 41 })).room s m args below meth c H locs 0 0 Q (F0 m 107 ls [.int y0])
def dj_X16_system_102 (p : Program) (l : Launch) (e : Env) (s : State) (m : MethodId) (args : Array Value) (below : List Frame) (meth : Method) (c : Code) (Q : State → Prop) (A : Nat → Prop) (dC : Nat → ClassId) (dI : Nat → Nat → Nat) (a : Nat → Nat) (ac : Nat → ClassId) (g : Int32 → (St × (St)) → Option (Int32 × (St × (St)))) (r : Int32 × (St × (St))) : Prop := ∀ (x3 : Int32) (s0 : St × (St)) (H : Heap) (locs : List Loc) (ls : Array Slot), g x3 s0 = some r → va_P (dC, dI) vwCl (dw_X16 a ac s0) H → va_D A (dw_X16 a ac s0) → va_S A s.heap H locs → lv_has ls 7 [(0, .ref (a 0)), (3, .int x3)] → W p l e (headSpec ow_dm_X16_system ({ frames := 2, cells := 0, slots := 0, locals := 41 })).room s m args below meth c H locs 0 0 Q (F0 m 102 ls [])
def dj_X16_system_0 (p : Program) (l : Launch) (e : Env) (s : State) (m : MethodId) (args : Array Value) (below : List Frame) (meth : Method) (c : Code) (Q : State → Prop) (A : Nat → Prop) (dC : Nat → ClassId) (dI : Nat → Nat → Nat) (a : Nat → Nat) (ac : Nat → ClassId) (g : Int32 → Int32 → (St × (St)) → Option (Int32 × (St × (St)))) (r : Int32 × (St × (St))) : Prop := ∀ (v0 : Int32) (v1 : Int32) (s0 : St × (St)) (H : Heap) (locs : List Loc) (ls : Array Slot), g v0 v1 s0 = some r → va_P (dC, dI) vwCl (dw_X16 a ac s0) H → va_D A (dw_X16 a ac s0) → va_S A s.heap H locs → lv_has ls 7 [(0, .ref (a 0)), (1, .int v0), (2, .int v1)] → W p l e (headSpec ow_dm_X16_system ({ frames := 2, cells := 0, slots := 0, locals := 41 })).room s m args below meth c H locs 0 0 Q (F0 m 0 ls [])
set_option maxHeartbeats 40000000 in
set_option maxRecDepth 100000 in
theorem db_X16_system_55 {p : Program} {l : Launch} {e : Env} {s : State} {m : MethodId} {args : Array Value} {below : List Frame} {meth : Method} {c : Code} {Q : State → Prop} {A : Nat → Prop} {dC : Nat → ClassId} {dI : Nat → Nat → Nat} {a : Nat → Nat} {ac : Nat → ClassId} {n : Nat} {r : Int32 × (St × (St))} (C : nd_C p l s m args c A (dC, dI) cX16_system 7 RX16 ow_dm_X16_system (dk_X16 ac)) (K : nd_Ki p l e (headSpec ow_dm_X16_system ({ frames := 2, cells := 0, slots := 0, locals := 41 })).room s m args below meth c Q A (dC, dI) cX16_system .int (St × (St)) (dw_X16 a ac) r) : dj_X16_system_55 p l e s m args below meth c Q A dC dI a ac (df_X16_system_55 n) r := by
  obtain ⟨hlt, hx, hb, hml, hown, hts, hN, hA, hK⟩ := id C
  intro s0 H locs ls h hP hD hS hl
  unfold df_X16_system_55 at h
  refine lv_aload_n hx hb dX16_system_55 rfl (lv_at hl 0 rfl) ?_
  obtain ⟨q5, s6, hq, h⟩ := nd_b2_e h
  have hPc := hP
  have hDc := hD
  have hKc := hK
  have hFc := nd_rs hD hS hA
  refine nd_cVi (As := []) (rest := []) (q := q5) (w' := dw_X16 a ac s6) ⟨hx, hb, hml, hown, hts⟩ (fun sz => dm_X16_illegal l hlt dC dI a ac n  s0 hq sz) (cwV 0 hts gi_dm_X16_system_0 rfl rfl rfl (by decide +kernel) ⟨Nat.le_of_ble_eq_true rfl, Nat.le_of_ble_eq_true rfl⟩) hPc hDc hKc hS hA hN (va_recv hKc hPc (ci := 17) (q0 := 0) rfl rfl) rfl hl.1 rfl (Nat.le_of_ble_eq_true rfl) dX16_system_56 (fun H locs hP1 hD1 hk1 hS => ?_)
  have hP := hP1
  have hD := hD1.weaken (fun k q _ h => hFc q.1 h)
  exact K _ _ _ _ _ _ dX16_system_59 rfl (Option.some.inj h).symm hP hD hS
set_option maxHeartbeats 40000000 in
set_option maxRecDepth 100000 in
theorem db_X16_system_159 {p : Program} {l : Launch} {e : Env} {s : State} {m : MethodId} {args : Array Value} {below : List Frame} {meth : Method} {c : Code} {Q : State → Prop} {A : Nat → Prop} {dC : Nat → ClassId} {dI : Nat → Nat → Nat} {a : Nat → Nat} {ac : Nat → ClassId} {n : Nat} {r : Int32 × (St × (St))} (C : nd_C p l s m args c A (dC, dI) cX16_system 7 RX16 ow_dm_X16_system (dk_X16 ac)) (K : nd_Ki p l e (headSpec ow_dm_X16_system ({ frames := 2, cells := 0, slots := 0, locals := 41 })).room s m args below meth c Q A (dC, dI) cX16_system .int (St × (St)) (dw_X16 a ac) r) : dj_X16_system_159 p l e s m args below meth c Q A dC dI a ac (df_X16_system_159 n) r := by
  obtain ⟨hlt, hx, hb, hml, hown, hts, hN, hA, hK⟩ := id C
  intro y0 s0 H locs ls h hP hD hS hl
  unfold df_X16_system_159 at h
  exact K _ _ _ _ _ _ dX16_system_159 rfl (Option.some.inj h).symm hP hD hS
set_option maxHeartbeats 40000000 in
set_option maxRecDepth 100000 in
theorem db_X16_system_151 {p : Program} {l : Launch} {e : Env} {s : State} {m : MethodId} {args : Array Value} {below : List Frame} {meth : Method} {c : Code} {Q : State → Prop} {A : Nat → Prop} {dC : Nat → ClassId} {dI : Nat → Nat → Nat} {a : Nat → Nat} {ac : Nat → ClassId} {n : Nat} {r : Int32 × (St × (St))} (C : nd_C p l s m args c A (dC, dI) cX16_system 7 RX16 ow_dm_X16_system (dk_X16 ac)) (K : nd_Ki p l e (headSpec ow_dm_X16_system ({ frames := 2, cells := 0, slots := 0, locals := 41 })).room s m args below meth c Q A (dC, dI) cX16_system .int (St × (St)) (dw_X16 a ac) r) : dj_X16_system_151 p l e s m args below meth c Q A dC dI a ac (df_X16_system_151 n) r := by
  obtain ⟨hlt, hx, hb, hml, hown, hts, hN, hA, hK⟩ := id C
  intro y0 s0 H locs ls h hP hD hS hl
  unfold df_X16_system_151 at h
  refine lv_l2i hx hb dX16_system_151 rfl ?_
  refine lv_goto (tgt := 159) hx hb dX16_system_152 (by decide) ?_
  exact (db_X16_system_159 C K) ((y0.toInt32)) s0 _ _ _ h hP hD hS (lv_sub hl [] rfl)
set_option maxHeartbeats 40000000 in
set_option maxRecDepth 100000 in
theorem db_X16_system_127 {p : Program} {l : Launch} {e : Env} {s : State} {m : MethodId} {args : Array Value} {below : List Frame} {meth : Method} {c : Code} {Q : State → Prop} {A : Nat → Prop} {dC : Nat → ClassId} {dI : Nat → Nat → Nat} {a : Nat → Nat} {ac : Nat → ClassId} {n : Nat} {r : Int32 × (St × (St))} (C : nd_C p l s m args c A (dC, dI) cX16_system 7 RX16 ow_dm_X16_system (dk_X16 ac)) (K : nd_Ki p l e (headSpec ow_dm_X16_system ({ frames := 2, cells := 0, slots := 0, locals := 41 })).room s m args below meth c Q A (dC, dI) cX16_system .int (St × (St)) (dw_X16 a ac) r) : dj_X16_system_127 p l e s m args below meth c Q A dC dI a ac (df_X16_system_127 n) r := by
  obtain ⟨hlt, hx, hb, hml, hown, hts, hN, hA, hK⟩ := id C
  intro x3 x4 y0 s0 H locs ls h hP hD hS hl
  unfold df_X16_system_127 at h
  refine lv_lstore (lv' := [(5, .long y0), (0, .ref (a 0)), (3, .int x3), (4, .int x4)]) hx hb dX16_system_127 hl (by decide) rfl (fun ls hl => ?_)
  refine lv_iload hx hb dX16_system_129 (lv_at hl 3 rfl) ?_
  refine lv_if_eq (tgt := 155) hx hb dX16_system_131 (by decide) (fun c16 => ?_) (fun c16 => ?_)
  · have h := nd_pos h c16
    refine lv_aload_n hx hb dX16_system_155 rfl (lv_at hl 1 rfl) ?_
    obtain ⟨q17, s18, hq, h⟩ := nd_b2_e h
    have hPc := hP
    have hDc := hD
    have hKc := hK
    have hFc := nd_rs hD hS hA
    refine nd_cVi (As := []) (rest := []) (q := q17) (w' := dw_X16 a ac s18) ⟨hx, hb, hml, hown, hts⟩ (fun sz => dm_X16_illegal l hlt dC dI a ac n  s0 hq sz) (cwV 0 hts gi_dm_X16_system_0 rfl rfl rfl (by decide +kernel) ⟨Nat.le_of_ble_eq_true rfl, Nat.le_of_ble_eq_true rfl⟩) hPc hDc hKc hS hA hN (va_recv hKc hPc (ci := 17) (q0 := 0) rfl rfl) rfl hl.1 rfl (Nat.le_of_ble_eq_true rfl) dX16_system_156 (fun H locs hP1 hD1 hk1 hS => ?_)
    have hP := hP1
    have hD := hD1.weaken (fun k q _ h => hFc q.1 h)
    exact (db_X16_system_159 C K) (q17) s18 _ _ _ h hP hD hS (lv_sub hl [] rfl)
  · have h := nd_neg h c16
    refine lv_iload_n hx hb dX16_system_134 rfl (lv_at hl 2 rfl) ?_
    refine lv_sipush (v := 3200) hx hb dX16_system_135 (by decide) ?_
    refine lv_icmp_ge (tgt := 146) hx hb dX16_system_138 (by decide) (fun c20 => ?_) (fun c20 => ?_)
    · have h := nd_pos h c20
      refine lv_lload hx hb dX16_system_146 (lv_at hl 0 rfl) ?_
      refine lv_bipush (v := 32) hx hb dX16_system_148 (by decide) ?_
      refine lv_lshr hx hb dX16_system_150 rfl ?_
      exact (db_X16_system_151 C K) (((y0 : Int64) >>> ((32 : Int32).toInt64 &&& 63))) s0 _ _ _ h hP hD hS (lv_sub hl [] rfl)
    · have h := nd_neg h c20
      refine lv_lload hx hb dX16_system_141 (lv_at hl 0 rfl) ?_
      refine lv_goto (tgt := 151) hx hb dX16_system_143 (by decide) ?_
      exact (db_X16_system_151 C K) (y0) s0 _ _ _ h hP hD hS (lv_sub hl [] rfl)
set_option maxHeartbeats 40000000 in
set_option maxRecDepth 100000 in
theorem db_X16_system_107 {p : Program} {l : Launch} {e : Env} {s : State} {m : MethodId} {args : Array Value} {below : List Frame} {meth : Method} {c : Code} {Q : State → Prop} {A : Nat → Prop} {dC : Nat → ClassId} {dI : Nat → Nat → Nat} {a : Nat → Nat} {ac : Nat → ClassId} {n : Nat} {r : Int32 × (St × (St))} (C : nd_C p l s m args c A (dC, dI) cX16_system 7 RX16 ow_dm_X16_system (dk_X16 ac)) (K : nd_Ki p l e (headSpec ow_dm_X16_system ({ frames := 2, cells := 0, slots := 0, locals := 41 })).room s m args below meth c Q A (dC, dI) cX16_system .int (St × (St)) (dw_X16 a ac) r) : dj_X16_system_107 p l e s m args below meth c Q A dC dI a ac (df_X16_system_107 n) r := by
  obtain ⟨hlt, hx, hb, hml, hown, hts, hN, hA, hK⟩ := id C
  intro x3 y0 s0 H locs ls h hP hD hS hl
  unfold df_X16_system_107 at h
  refine lv_istore (lv' := [(4, .int y0), (0, .ref (a 0)), (3, .int x3)]) hx hb dX16_system_107 hl (by decide) rfl (fun ls hl => ?_)
  refine lv_iload_n hx hb dX16_system_109 rfl (lv_at hl 2 rfl) ?_
  refine lv_iconst (v := 3) hx hb dX16_system_110 (by decide) ?_
  refine lv_iand hx hb dX16_system_111 ?_
  refine lv_iconst (v := 1) hx hb dX16_system_112 (by decide) ?_
  refine lv_icmp_ne (tgt := 123) hx hb dX16_system_113 (by decide) (fun c15 => ?_) (fun c15 => ?_)
  · have h := nd_neg h c15
    refine lv_aload_n hx hb dX16_system_123 rfl (lv_at hl 1 rfl) ?_
    refine va_get (D := (dC, dI)) (ci := 17) (v := .long (sL s0.1 0)) (C := RX16) (T := TX16) (N := 56) hx hb hts hi_dm_X16_system_X16 hown hK hP 0 rfl rfl 6 (by decide) (hts (.fieldLink RX16 154 "TimeMachineModel$Machine" "retired" "J") (List.mem_of_getElem? (i := 8) rfl)) (fun _ h9 => h9) rfl dX16_system_124 ?_
    exact (db_X16_system_127 C K) (x3) (y0) ((sL s0.1 0)) s0 _ _ _ h hP hD hS (lv_sub hl [1, 2, 0] rfl)
  · have h := nd_pos h c15
    refine lv_aload_n hx hb dX16_system_116 rfl (lv_at hl 1 rfl) ?_
    refine va_get (D := (dC, dI)) (ci := 17) (v := .long (sL s0.1 1)) (C := RX16) (T := TX16) (N := 56) hx hb hts hi_dm_X16_system_X16 hown hK hP 0 rfl rfl 7 (by decide) (hts (.fieldLink RX16 151 "TimeMachineModel$Machine" "clock" "J") (List.mem_of_getElem? (i := 9) rfl)) (fun _ h9 => h9) rfl dX16_system_117 ?_
    refine lv_goto (tgt := 127) hx hb dX16_system_120 (by decide) ?_
    exact (db_X16_system_127 C K) (x3) (y0) ((sL s0.1 1)) s0 _ _ _ h hP hD hS (lv_sub hl [1, 2, 0] rfl)
set_option maxHeartbeats 40000000 in
set_option maxRecDepth 100000 in
theorem db_X16_system_102 {p : Program} {l : Launch} {e : Env} {s : State} {m : MethodId} {args : Array Value} {below : List Frame} {meth : Method} {c : Code} {Q : State → Prop} {A : Nat → Prop} {dC : Nat → ClassId} {dI : Nat → Nat → Nat} {a : Nat → Nat} {ac : Nat → ClassId} {n : Nat} {r : Int32 × (St × (St))} (C : nd_C p l s m args c A (dC, dI) cX16_system 7 RX16 ow_dm_X16_system (dk_X16 ac)) (K : nd_Ki p l e (headSpec ow_dm_X16_system ({ frames := 2, cells := 0, slots := 0, locals := 41 })).room s m args below meth c Q A (dC, dI) cX16_system .int (St × (St)) (dw_X16 a ac) r) : dj_X16_system_102 p l e s m args below meth c Q A dC dI a ac (df_X16_system_102 n) r := by
  obtain ⟨hlt, hx, hb, hml, hown, hts, hN, hA, hK⟩ := id C
  intro x3 s0 H locs ls h hP hD hS hl
  unfold df_X16_system_102 at h
  refine lv_iconst (v := 1) hx hb dX16_system_102 (by decide) ?_
  refine lv_goto (tgt := 107) hx hb dX16_system_103 (by decide) ?_
  exact (db_X16_system_107 C K) (x3) (1) s0 _ _ _ h hP hD hS (lv_sub hl [0, 1] rfl)
set_option maxHeartbeats 40000000 in
set_option maxRecDepth 100000 in
theorem db_X16_system_0 {p : Program} {l : Launch} {e : Env} {s : State} {m : MethodId} {args : Array Value} {below : List Frame} {meth : Method} {c : Code} {Q : State → Prop} {A : Nat → Prop} {dC : Nat → ClassId} {dI : Nat → Nat → Nat} {a : Nat → Nat} {ac : Nat → ClassId} {n : Nat} {r : Int32 × (St × (St))} (C : nd_C p l s m args c A (dC, dI) cX16_system 7 RX16 ow_dm_X16_system (dk_X16 ac)) (K : nd_Ki p l e (headSpec ow_dm_X16_system ({ frames := 2, cells := 0, slots := 0, locals := 41 })).room s m args below meth c Q A (dC, dI) cX16_system .int (St × (St)) (dw_X16 a ac) r) : dj_X16_system_0 p l e s m args below meth c Q A dC dI a ac (df_X16_system_0 n) r := by
  obtain ⟨hlt, hx, hb, hml, hown, hts, hN, hA, hK⟩ := id C
  intro v0 v1 s0 H locs ls h hP hD hS hl
  unfold df_X16_system_0 at h
  refine lv_iload_n hx hb dX16_system_0 rfl (lv_at hl 1 rfl) ?_
  refine lv_bipush (v := 115) hx hb dX16_system_1 (by decide) ?_
  refine lv_icmp_ne (tgt := 12) hx hb dX16_system_3 (by decide) (fun c1 => ?_) (fun c1 => ?_)
  · have h := nd_neg h c1
    refine lv_iload_n hx hb dX16_system_12 rfl (lv_at hl 1 rfl) ?_
    refine lv_ldcw hx hb hown (hts (.constant RX16 335 (1048691)) (List.mem_of_getElem? (i := 1) rfl)) dX16_system_13 ?_
    refine lv_icmp_ne (tgt := 25) hx hb dX16_system_16 (by decide) (fun c2 => ?_) (fun c2 => ?_)
    · have h := nd_neg h c2
      refine lv_iload_n hx hb dX16_system_25 rfl (lv_at hl 1 rfl) ?_
      refine lv_bipush (v := 20) hx hb dX16_system_26 (by decide) ?_
      refine lv_iushr hx hb dX16_system_28 rfl ?_
      refine lv_topi (fun z3 ez3 => ?_)
      have h := nd_at h ez3
      refine lv_istore_n (lv' := [(3, .int z3), (0, .ref (a 0)), (1, .int v0), (2, .int v1)]) hx hb dX16_system_29 rfl hl (by decide) rfl (fun ls hl => ?_)
      refine lv_iload_n hx hb dX16_system_30 rfl (lv_at hl 3 rfl) ?_
      refine lv_iconst (v := 2) hx hb dX16_system_31 (by decide) ?_
      refine lv_icmp_lt (tgt := 55) hx hb dX16_system_32 (by decide) (fun c4 => ?_) (fun c4 => ?_)
      · have h := nd_pos h c4
        exact (db_X16_system_55 C K)  s0 _ _ _ h hP hD hS (lv_sub hl [1] rfl)
      · have h := nd_neg h c4
        refine lv_iload_n hx hb dX16_system_35 rfl (lv_at hl 3 rfl) ?_
        refine lv_iconst (v := 4) hx hb dX16_system_36 (by decide) ?_
        refine lv_icmp_eq (tgt := 55) hx hb dX16_system_37 (by decide) (fun c8 => ?_) (fun c8 => ?_)
        · have h := nd_pos h c8
          exact (db_X16_system_55 C K)  s0 _ _ _ h hP hD hS (lv_sub hl [1] rfl)
        · have h := nd_neg h c8
          refine lv_iload_n hx hb dX16_system_40 rfl (lv_at hl 3 rfl) ?_
          refine lv_iconst (v := 5) hx hb dX16_system_41 (by decide) ?_
          refine lv_icmp_eq (tgt := 55) hx hb dX16_system_42 (by decide) (fun c9 => ?_) (fun c9 => ?_)
          · have h := nd_pos h c9
            exact (db_X16_system_55 C K)  s0 _ _ _ h hP hD hS (lv_sub hl [1] rfl)
          · have h := nd_neg h c9
            refine lv_iload_n hx hb dX16_system_45 rfl (lv_at hl 2 rfl) ?_
            refine lv_bipush (v := 15) hx hb dX16_system_46 (by decide) ?_
            refine lv_iconst (v := 5) hx hb dX16_system_48 (by decide) ?_
            obtain ⟨q10, s11, hq, h⟩ := nd_b2_e h
            have hPc : va_P (dC, dI) vwCl (dw_P a ac ()) H := nd_p0
            have hDc : va_D A (dw_P a ac ()) := nd_d0
            have hKc : va_K (dC, dI) vwCl (dk_P ac) s := nd_y0 hK
            have hFc : ∀ q, va_A (dw_P a ac ()) H.size q → A q := nd_r0 hS hA
            refine nd_cSi (As := [.int v0, .int 15, .int 5]) (rest := []) (q := q10) (w' := dw_P a ac s11) ⟨hx, hb, hml, hown, hts⟩ (fun sz => dm_X16_part l hlt dC dI a ac n (v0) (15) (5) () hq sz) (cwS 3 hts gi_dm_X16_system_1 rfl rfl rfl (by decide +kernel) ⟨Nat.le_of_ble_eq_true rfl, Nat.le_of_ble_eq_true rfl⟩) hPc hDc hKc hS hA hN rfl hl.1 rfl (Nat.le_of_ble_eq_true rfl) dX16_system_49 (fun H locs hP1 hD1 hk1 hS => ?_)
            have hP := nd_n0 hP hk1
            refine lv_if_le (tgt := 60) hx hb dX16_system_52 (by decide) (fun c13 => ?_) (fun c13 => ?_)
            · have h := nd_pos h c13
              refine lv_iload_n hx hb dX16_system_60 rfl (lv_at hl 0 rfl) ?_
              refine lv_sipush (v := 3072) hx hb dX16_system_61 (by decide) ?_
              refine lv_icmp_eq (tgt := 102) hx hb dX16_system_64 (by decide) (fun c14 => ?_) (fun c14 => ?_)
              · have h := nd_pos h c14
                exact (db_X16_system_102 C K) (z3) s0 _ _ _ h hP hD hS (lv_sub hl [1, 0] rfl)
              · have h := nd_neg h c14
                refine lv_iload_n hx hb dX16_system_67 rfl (lv_at hl 0 rfl) ?_
                refine lv_sipush (v := 3073) hx hb dX16_system_68 (by decide) ?_
                refine lv_icmp_eq (tgt := 102) hx hb dX16_system_71 (by decide) (fun c21 => ?_) (fun c21 => ?_)
                · have h := nd_pos h c21
                  exact (db_X16_system_102 C K) (z3) s0 _ _ _ h hP hD hS (lv_sub hl [1, 0] rfl)
                · have h := nd_neg h c21
                  refine lv_iload_n hx hb dX16_system_74 rfl (lv_at hl 0 rfl) ?_
                  refine lv_sipush (v := 3074) hx hb dX16_system_75 (by decide) ?_
                  refine lv_icmp_eq (tgt := 102) hx hb dX16_system_78 (by decide) (fun c22 => ?_) (fun c22 => ?_)
                  · have h := nd_pos h c22
                    exact (db_X16_system_102 C K) (z3) s0 _ _ _ h hP hD hS (lv_sub hl [1, 0] rfl)
                  · have h := nd_neg h c22
                    refine lv_iload_n hx hb dX16_system_81 rfl (lv_at hl 0 rfl) ?_
                    refine lv_sipush (v := 3200) hx hb dX16_system_82 (by decide) ?_
                    refine lv_icmp_eq (tgt := 102) hx hb dX16_system_85 (by decide) (fun c23 => ?_) (fun c23 => ?_)
                    · have h := nd_pos h c23
                      exact (db_X16_system_102 C K) (z3) s0 _ _ _ h hP hD hS (lv_sub hl [1, 0] rfl)
                    · have h := nd_neg h c23
                      refine lv_iload_n hx hb dX16_system_88 rfl (lv_at hl 0 rfl) ?_
                      refine lv_sipush (v := 3201) hx hb dX16_system_89 (by decide) ?_
                      refine lv_icmp_eq (tgt := 102) hx hb dX16_system_92 (by decide) (fun c24 => ?_) (fun c24 => ?_)
                      · have h := nd_pos h c24
                        exact (db_X16_system_102 C K) (z3) s0 _ _ _ h hP hD hS (lv_sub hl [1, 0] rfl)
                      · have h := nd_neg h c24
                        refine lv_iload_n hx hb dX16_system_95 rfl (lv_at hl 0 rfl) ?_
                        refine lv_sipush (v := 3202) hx hb dX16_system_96 (by decide) ?_
                        refine lv_icmp_ne (tgt := 106) hx hb dX16_system_99 (by decide) (fun c25 => ?_) (fun c25 => ?_)
                        · have h := nd_neg h c25
                          refine lv_iconst (v := 0) hx hb dX16_system_106 (by decide) ?_
                          exact (db_X16_system_107 C K) (z3) (0) s0 _ _ _ h hP hD hS (lv_sub hl [1, 0] rfl)
                        · have h := nd_pos h c25
                          exact (db_X16_system_102 C K) (z3) s0 _ _ _ h hP hD hS (lv_sub hl [1, 0] rfl)
            · have h := nd_neg h c13
              exact (db_X16_system_55 C K)  s0 _ _ _ h hP hD hS (lv_sub hl [1] rfl)
    · have h := nd_pos h c2
      refine lv_aload_n hx hb dX16_system_19 rfl (lv_at hl 0 rfl) ?_
      refine lv_iconst (v := 4) hx hb dX16_system_20 (by decide) ?_
      obtain ⟨q26, s27, hq, h⟩ := nd_b2_e h
      have hPc := hP
      have hDc := hD
      have hKc := hK
      have hFc := nd_rs hD hS hA
      refine nd_cVi (As := [.int 4]) (rest := []) (q := q26) (w' := dw_X16 a ac s27) ⟨hx, hb, hml, hown, hts⟩ (fun sz => dm_X16_meet l hlt dC dI a ac n (4) s0 hq sz) (cwV 1 hts gi_dm_X16_system_2 rfl rfl rfl (by decide +kernel) ⟨Nat.le_of_ble_eq_true rfl, Nat.le_of_ble_eq_true rfl⟩) hPc hDc hKc hS hA hN (va_recv hKc hPc (ci := 17) (q0 := 0) rfl rfl) rfl hl.1 rfl (Nat.le_of_ble_eq_true rfl) dX16_system_21 (fun H locs hP1 hD1 hk1 hS => ?_)
      have hP := hP1
      have hD := hD1.weaken (fun k q _ h => hFc q.1 h)
      exact K _ _ _ _ _ _ dX16_system_24 rfl (Option.some.inj h).symm hP hD hS
  · have h := nd_pos h c1
    refine lv_aload_n hx hb dX16_system_6 rfl (lv_at hl 0 rfl) ?_
    refine lv_iconst (v := 3) hx hb dX16_system_7 (by decide) ?_
    obtain ⟨q29, s30, hq, h⟩ := nd_b2_e h
    have hPc := hP
    have hDc := hD
    have hKc := hK
    have hFc := nd_rs hD hS hA
    refine nd_cVi (As := [.int 3]) (rest := []) (q := q29) (w' := dw_X16 a ac s30) ⟨hx, hb, hml, hown, hts⟩ (fun sz => dm_X16_meet l hlt dC dI a ac n (3) s0 hq sz) (cwV 1 hts gi_dm_X16_system_2 rfl rfl rfl (by decide +kernel) ⟨Nat.le_of_ble_eq_true rfl, Nat.le_of_ble_eq_true rfl⟩) hPc hDc hKc hS hA hN (va_recv hKc hPc (ci := 17) (q0 := 0) rfl rfl) rfl hl.1 rfl (Nat.le_of_ble_eq_true rfl) dX16_system_8 (fun H locs hP1 hD1 hk1 hS => ?_)
    have hP := hP1
    have hD := hD1.weaken (fun k q _ h => hFc q.1 h)
    exact K _ _ _ _ _ _ dX16_system_11 rfl (Option.some.inj h).symm hP hD hS
set_option maxHeartbeats 40000000 in
set_option maxRecDepth 100000 in
theorem dm_X16_system (l : Launch) (hlt : l.stackTraces = false) (dC : Nat → ClassId) (dI : Nat → Nat → Nat) (a : Nat → Nat) (ac : Nat → ClassId) (n : Nat) (v0 : Int32) (v1 : Int32) (s0 : St × (St)) {r : Int32 × (St × (St))} (h : df_X16_system n v0 v1 s0 = some r) (sz : Nat) : Met l yX16_system ow_dm_X16_system ({ frames := 2, cells := 0, slots := 0, locals := 41 }) (va_Pc [.ref (a 0), .int v0, .int v1] (fun U => U.heap.size = sz ∧ va_P (dC, dI) vwCl (dw_X16 a ac s0) U.heap ∧ va_K (dC, dI) vwCl (dk_X16 ac) U ∧ va_D (fun _ => True) (dw_X16 a ac s0) ∧ nv_E dI (va_A (dw_X16 a ac s0) sz) U)) (va_Qi (fun x _ => x = r.1) (fun (_ : Unit) t => va_P (dC, dI) vwCl (dw_X16 a ac r.2) t.heap ∧ va_K (dC, dI) vwCl (dk_X16 ac) t ∧ va_D (va_A (dw_X16 a ac s0) sz) (dw_X16 a ac r.2)) (va_A (dw_X16 a ac s0) sz)) 0 0 (va_A (dw_X16 a ac s0) sz) := by
  refine Met.ofW (cc := cX16_system) (maxL := 7) (ret := (some .int)) (by decide) rfl ?_
  intro p e s m args below meth c s₁ B hml hv
  obtain ⟨rfl, hsz, hP, hK, hD0, hN⟩ := hv
  have hx := B.exec
  have hb := B.bytes
  have hr := B.returns
  have hts := atoms_spec (ws := ow_dm_X16_system) B.pre
  have hown : s.vm.findClass RX16 = some m.cls := findClass_of_methodNamed B.named
  have hlocks := B.notSynchronized
  subst hsz
  have hD := hD0.self (sz := s.heap.size)
  generalize hAe : va_A (dw_X16 a ac s0) s.heap.size = A at hD hN ⊢
  have hA : ∀ q : Nat, s.heap.size ≤ q → A q := fun q h => by rw [← hAe]; exact Or.inr h
  have hl := lv_entry ([.ref (a 0), .int v0, .int v1]) (n := 7) (Nat.le_of_ble_eq_true rfl)
  rw [lg_entry_eq]
  generalize (lg_sl ([.ref (a 0), .int v0, .int v1]) ++ List.replicate (7 - (lg_sl ([.ref (a 0), .int v0, .int v1])).length) Slot.unset).toArray = ls at hl ⊢
  have hl : lv_has ls 7 [(0, .ref (a 0)), (1, .int v0), (2, .int v1)] := hl
  exact db_X16_system_0 (dC := dC) (dI := dI) (a := a) (ac := ac) (n := n) (r := r) ⟨hlt, hx, hb, hml, hown, hts, hN, hA, hK⟩ (fun pc v τ H locs ls d z er hP hD hS => by subst er; exact W.zret (v := v) hx hb hr z (fun t ht hW => ⟨⟨v, (), rfl, rfl, by rw [ht]; exact hP, va_K.moved hW.alike hK, hD⟩, hS.F ht⟩) hS.2.2 d) v0 v1 s0 _ _ _ h hP hD va_S.rf (lv_sub hl [0, 1, 2] rfl)
def ow_dm_X16_carry : List Cond := Cond.code yX16_carry cX16_carry 8 none :: ([Cond.methodLink RX16 297 yX16_part, Cond.static yX16_part, Cond.initialized RX16, Cond.fieldLink RX16 42 "TimeMachineModel$Machine" "x" "[I", Cond.fieldLink RX16 232 "TimeMachineModel$Machine" "p" "I", Cond.methodLink RX16 369 yX16_loaded, Cond.instanceMethod yX16_loaded, Cond.selects RX16 yX16_loaded yX16_loaded, Cond.methodLink RX16 362 yX16_become, Cond.instanceMethod yX16_become, Cond.selects RX16 yX16_become yX16_become, Cond.methodLink RX16 356 yX16_illegal, Cond.instanceMethod yX16_illegal, Cond.selects RX16 yX16_illegal yX16_illegal, Cond.methodLink RX16 375 yX16_shifted, Cond.instanceMethod yX16_shifted, Cond.selects RX16 yX16_shifted yX16_shifted, Cond.methodLink RX16 378 yX16_reckoned, Cond.static yX16_reckoned, Cond.fieldLink RX16 45 "TimeMachineModel$Machine" "place" "[I", Cond.methodLink RX16 372 yX16_stored, Cond.instanceMethod yX16_stored, Cond.selects RX16 yX16_stored yX16_stored, Cond.methodLink RX16 384 yX16_atomic, Cond.instanceMethod yX16_atomic, Cond.selects RX16 yX16_atomic yX16_atomic, Cond.methodLink RX16 381 yX16_multiplied, Cond.static yX16_multiplied, Cond.methodLink RX16 365 yX16_decide, Cond.instanceMethod yX16_decide, Cond.selects RX16 yX16_decide yX16_decide, Cond.fieldLink RX16 350 "TimeMachineModel$Machine" "next" "I", Cond.methodLink RX16 300 yX16_bit, Cond.static yX16_bit, Cond.methodLink RX16 320 yX16_signed, Cond.static yX16_signed, Cond.methodLink RX16 387 yX16_system, Cond.instanceMethod yX16_system, Cond.selects RX16 yX16_system yX16_system] ++ (u_ws RX16 TX16 56 ++ (ow_dm_X16_part ++ (ow_dm_X16_loaded ++ (ow_dm_X16_become ++ (ow_dm_X16_illegal ++ (ow_dm_X16_shifted ++ (ow_dm_X16_reckoned ++ (ow_dm_X16_stored ++ (ow_dm_X16_atomic ++ (ow_dm_X16_multiplied ++ (ow_dm_X16_decide ++ (ow_dm_X16_bit ++ (ow_dm_X16_signed ++ (ow_dm_X16_system ++ [])))))))))))))))
theorem gd_dm_X16_carry : ∀ w ∈ ow_dm_X16_carry, (w.onTables && w.keeps) = true ∨ ∃ ty, w = Cond.arrayClass ty := List.forall_mem_cons.mpr ⟨good_of_word rfl, List.forall_mem_append.mpr ⟨fun w h => good_of_word (List.all_eq_true.mp (by decide +kernel) w h), List.forall_mem_append.mpr ⟨gu_X16, List.forall_mem_append.mpr ⟨gd_dm_X16_part, List.forall_mem_append.mpr ⟨gd_dm_X16_loaded, List.forall_mem_append.mpr ⟨gd_dm_X16_become, List.forall_mem_append.mpr ⟨gd_dm_X16_illegal, List.forall_mem_append.mpr ⟨gd_dm_X16_shifted, List.forall_mem_append.mpr ⟨gd_dm_X16_reckoned, List.forall_mem_append.mpr ⟨gd_dm_X16_stored, List.forall_mem_append.mpr ⟨gd_dm_X16_atomic, List.forall_mem_append.mpr ⟨gd_dm_X16_multiplied, List.forall_mem_append.mpr ⟨gd_dm_X16_decide, List.forall_mem_append.mpr ⟨gd_dm_X16_bit, List.forall_mem_append.mpr ⟨gd_dm_X16_signed, List.forall_mem_append.mpr ⟨gd_dm_X16_system, fun _ h => nomatch h⟩⟩⟩⟩⟩⟩⟩⟩⟩⟩⟩⟩⟩⟩⟩⟩
theorem hi_dm_X16_carry_X16 : ∀ w ∈ u_ws RX16 TX16 56, w ∈ ow_dm_X16_carry := fun w h => List.mem_cons_of_mem _ (List.mem_append_right _ (List.mem_append_left _ h))
theorem gi_dm_X16_carry_0 : GoodIn ow_dm_X16_carry (wsS RX16 297 yX16_part ow_dm_X16_part) := goodIn_app (goodIn_of _ (by decide +kernel)) (fun w h => ⟨List.mem_cons_of_mem _ (List.mem_append_right _ (List.mem_append_right _ (List.mem_append_left _ h))), gd_dm_X16_part w h⟩)
theorem gi_dm_X16_carry_1 : GoodIn ow_dm_X16_carry (wsV RX16 369 RX16 yX16_loaded ow_dm_X16_loaded) := goodIn_app (goodIn_of _ (by decide +kernel)) (fun w h => ⟨List.mem_cons_of_mem _ (List.mem_append_right _ (List.mem_append_right _ (List.mem_append_right _ (List.mem_append_left _ h)))), gd_dm_X16_loaded w h⟩)
theorem gi_dm_X16_carry_2 : GoodIn ow_dm_X16_carry (wsV RX16 362 RX16 yX16_become ow_dm_X16_become) := goodIn_app (goodIn_of _ (by decide +kernel)) (fun w h => ⟨List.mem_cons_of_mem _ (List.mem_append_right _ (List.mem_append_right _ (List.mem_append_right _ (List.mem_append_right _ (List.mem_append_left _ h))))), gd_dm_X16_become w h⟩)
theorem gi_dm_X16_carry_3 : GoodIn ow_dm_X16_carry (wsV RX16 356 RX16 yX16_illegal ow_dm_X16_illegal) := goodIn_app (goodIn_of _ (by decide +kernel)) (fun w h => ⟨List.mem_cons_of_mem _ (List.mem_append_right _ (List.mem_append_right _ (List.mem_append_right _ (List.mem_append_right _ (List.mem_append_right _ (List.mem_append_left _ h)))))), gd_dm_X16_illegal w h⟩)
theorem gi_dm_X16_carry_4 : GoodIn ow_dm_X16_carry (wsV RX16 375 RX16 yX16_shifted ow_dm_X16_shifted) := goodIn_app (goodIn_of _ (by decide +kernel)) (fun w h => ⟨List.mem_cons_of_mem _ (List.mem_append_right _ (List.mem_append_right _ (List.mem_append_right _ (List.mem_append_right _ (List.mem_append_right _ (List.mem_append_right _ (List.mem_append_left _ h))))))), gd_dm_X16_shifted w h⟩)
theorem gi_dm_X16_carry_5 : GoodIn ow_dm_X16_carry (wsS RX16 378 yX16_reckoned ow_dm_X16_reckoned) := goodIn_app (goodIn_of _ (by decide +kernel)) (fun w h => ⟨List.mem_cons_of_mem _ (List.mem_append_right _ (List.mem_append_right _ (List.mem_append_right _ (List.mem_append_right _ (List.mem_append_right _ (List.mem_append_right _ (List.mem_append_right _ (List.mem_append_left _ h)))))))), gd_dm_X16_reckoned w h⟩)
theorem gi_dm_X16_carry_6 : GoodIn ow_dm_X16_carry (wsV RX16 372 RX16 yX16_stored ow_dm_X16_stored) := goodIn_app (goodIn_of _ (by decide +kernel)) (fun w h => ⟨List.mem_cons_of_mem _ (List.mem_append_right _ (List.mem_append_right _ (List.mem_append_right _ (List.mem_append_right _ (List.mem_append_right _ (List.mem_append_right _ (List.mem_append_right _ (List.mem_append_right _ (List.mem_append_left _ h))))))))), gd_dm_X16_stored w h⟩)
theorem gi_dm_X16_carry_7 : GoodIn ow_dm_X16_carry (wsV RX16 384 RX16 yX16_atomic ow_dm_X16_atomic) := goodIn_app (goodIn_of _ (by decide +kernel)) (fun w h => ⟨List.mem_cons_of_mem _ (List.mem_append_right _ (List.mem_append_right _ (List.mem_append_right _ (List.mem_append_right _ (List.mem_append_right _ (List.mem_append_right _ (List.mem_append_right _ (List.mem_append_right _ (List.mem_append_right _ (List.mem_append_left _ h)))))))))), gd_dm_X16_atomic w h⟩)
theorem gi_dm_X16_carry_8 : GoodIn ow_dm_X16_carry (wsS RX16 381 yX16_multiplied ow_dm_X16_multiplied) := goodIn_app (goodIn_of _ (by decide +kernel)) (fun w h => ⟨List.mem_cons_of_mem _ (List.mem_append_right _ (List.mem_append_right _ (List.mem_append_right _ (List.mem_append_right _ (List.mem_append_right _ (List.mem_append_right _ (List.mem_append_right _ (List.mem_append_right _ (List.mem_append_right _ (List.mem_append_right _ (List.mem_append_left _ h))))))))))), gd_dm_X16_multiplied w h⟩)
theorem gi_dm_X16_carry_9 : GoodIn ow_dm_X16_carry (wsV RX16 365 RX16 yX16_decide ow_dm_X16_decide) := goodIn_app (goodIn_of _ (by decide +kernel)) (fun w h => ⟨List.mem_cons_of_mem _ (List.mem_append_right _ (List.mem_append_right _ (List.mem_append_right _ (List.mem_append_right _ (List.mem_append_right _ (List.mem_append_right _ (List.mem_append_right _ (List.mem_append_right _ (List.mem_append_right _ (List.mem_append_right _ (List.mem_append_right _ (List.mem_append_left _ h)))))))))))), gd_dm_X16_decide w h⟩)
theorem gi_dm_X16_carry_10 : GoodIn ow_dm_X16_carry (wsS RX16 300 yX16_bit ow_dm_X16_bit) := goodIn_app (goodIn_of _ (by decide +kernel)) (fun w h => ⟨List.mem_cons_of_mem _ (List.mem_append_right _ (List.mem_append_right _ (List.mem_append_right _ (List.mem_append_right _ (List.mem_append_right _ (List.mem_append_right _ (List.mem_append_right _ (List.mem_append_right _ (List.mem_append_right _ (List.mem_append_right _ (List.mem_append_right _ (List.mem_append_right _ (List.mem_append_left _ h))))))))))))), gd_dm_X16_bit w h⟩)
theorem gi_dm_X16_carry_11 : GoodIn ow_dm_X16_carry (wsS RX16 320 yX16_signed ow_dm_X16_signed) := goodIn_app (goodIn_of _ (by decide +kernel)) (fun w h => ⟨List.mem_cons_of_mem _ (List.mem_append_right _ (List.mem_append_right _ (List.mem_append_right _ (List.mem_append_right _ (List.mem_append_right _ (List.mem_append_right _ (List.mem_append_right _ (List.mem_append_right _ (List.mem_append_right _ (List.mem_append_right _ (List.mem_append_right _ (List.mem_append_right _ (List.mem_append_right _ (List.mem_append_left _ h)))))))))))))), gd_dm_X16_signed w h⟩)
theorem gi_dm_X16_carry_12 : GoodIn ow_dm_X16_carry (wsV RX16 387 RX16 yX16_system ow_dm_X16_system) := goodIn_app (goodIn_of _ (by decide +kernel)) (fun w h => ⟨List.mem_cons_of_mem _ (List.mem_append_right _ (List.mem_append_right _ (List.mem_append_right _ (List.mem_append_right _ (List.mem_append_right _ (List.mem_append_right _ (List.mem_append_right _ (List.mem_append_right _ (List.mem_append_right _ (List.mem_append_right _ (List.mem_append_right _ (List.mem_append_right _ (List.mem_append_right _ (List.mem_append_right _ (List.mem_append_left _ h))))))))))))))), gd_dm_X16_system w h⟩)
def dj_X16_carry_562 (p : Program) (l : Launch) (e : Env) (s : State) (m : MethodId) (args : Array Value) (below : List Frame) (meth : Method) (c : Code) (Q : State → Prop) (A : Nat → Prop) (dC : Nat → ClassId) (dI : Nat → Nat → Nat) (a : Nat → Nat) (ac : Nat → ClassId) (g : (St × (St)) → Option (St × (St))) (r : St × (St)) : Prop := ∀ (s0 : St × (St)) (H : Heap) (locs : List Loc) (ls : Array Slot), g s0 = some r → va_P (dC, dI) vwCl (dw_X16 a ac s0) H → va_D A (dw_X16 a ac s0) → va_S A s.heap H locs → lv_has ls 8 [] → W p l e (headSpec ow_dm_X16_carry ({ frames := 5, cells := 0, slots := 0, locals := 112 })).room s m args below meth c H locs 0 0 Q (F0 m 562 ls [])
def dj_X16_carry_418 (p : Program) (l : Launch) (e : Env) (s : State) (m : MethodId) (args : Array Value) (below : List Frame) (meth : Method) (c : Code) (Q : State → Prop) (A : Nat → Prop) (dC : Nat → ClassId) (dI : Nat → Nat → Nat) (a : Nat → Nat) (ac : Nat → ClassId) (g : Int32 → Int32 → (St × (St)) → Option (St × (St))) (r : St × (St)) : Prop := ∀ (y1 : Int32) (y2 : Int32) (s0 : St × (St)) (H : Heap) (locs : List Loc) (ls : Array Slot), g y1 y2 s0 = some r → va_P (dC, dI) vwCl (dw_X16 a ac s0) H → va_D A (dw_X16 a ac s0) → va_S A s.heap H locs → lv_has ls 8 [] → W p l e (headSpec ow_dm_X16_carry ({ frames := 5, cells := 0, slots := 0, locals := 112 })).room s m args below meth c H locs 0 0 Q (F0 m 418 ls [.int y2, .int y1, .ref (a 0)])
def dj_X16_carry_391 (p : Program) (l : Launch) (e : Env) (s : State) (m : MethodId) (args : Array Value) (below : List Frame) (meth : Method) (c : Code) (Q : State → Prop) (A : Nat → Prop) (dC : Nat → ClassId) (dI : Nat → Nat → Nat) (a : Nat → Nat) (ac : Nat → ClassId) (g : Int32 → Int32 → Int32 → Int32 → Int32 → (St × (St)) → Option (St × (St))) (r : St × (St)) : Prop := ∀ (x1 : Int32) (x3 : Int32) (x4 : Int32) (x6 : Int32) (y1 : Int32) (s0 : St × (St)) (H : Heap) (locs : List Loc) (ls : Array Slot), g x1 x3 x4 x6 y1 s0 = some r → va_P (dC, dI) vwCl (dw_X16 a ac s0) H → va_D A (dw_X16 a ac s0) → va_S A s.heap H locs → lv_has ls 8 [(0, .ref (a 0)), (1, .int x1), (3, .int x3), (4, .int x4), (6, .int x6)] → W p l e (headSpec ow_dm_X16_carry ({ frames := 5, cells := 0, slots := 0, locals := 112 })).room s m args below meth c H locs 0 0 Q (F0 m 391 ls [.int y1, .ref (a 0)])
def dj_X16_carry_502 (p : Program) (l : Launch) (e : Env) (s : State) (m : MethodId) (args : Array Value) (below : List Frame) (meth : Method) (c : Code) (Q : State → Prop) (A : Nat → Prop) (dC : Nat → ClassId) (dI : Nat → Nat → Nat) (a : Nat → Nat) (ac : Nat → ClassId) (g : Int32 → Int32 → (St × (St)) → Option (St × (St))) (r : St × (St)) : Prop := ∀ (y1 : Int32) (y2 : Int32) (s0 : St × (St)) (H : Heap) (locs : List Loc) (ls : Array Slot), g y1 y2 s0 = some r → va_P (dC, dI) vwCl (dw_X16 a ac s0) H → va_D A (dw_X16 a ac s0) → va_S A s.heap H locs → lv_has ls 8 [] → W p l e (headSpec ow_dm_X16_carry ({ frames := 5, cells := 0, slots := 0, locals := 112 })).room s m args below meth c H locs 0 0 Q (F0 m 502 ls [.int y2, .int y1, .ref (a 0)])
def dj_X16_carry_488 (p : Program) (l : Launch) (e : Env) (s : State) (m : MethodId) (args : Array Value) (below : List Frame) (meth : Method) (c : Code) (Q : State → Prop) (A : Nat → Prop) (dC : Nat → ClassId) (dI : Nat → Nat → Nat) (a : Nat → Nat) (ac : Nat → ClassId) (g : Int32 → Int32 → Int32 → Int32 → Int32 → (St × (St)) → Option (St × (St))) (r : St × (St)) : Prop := ∀ (x3 : Int32) (x4 : Int32) (x5 : Int32) (x6 : Int32) (y1 : Int32) (s0 : St × (St)) (H : Heap) (locs : List Loc) (ls : Array Slot), g x3 x4 x5 x6 y1 s0 = some r → va_P (dC, dI) vwCl (dw_X16 a ac s0) H → va_D A (dw_X16 a ac s0) → va_S A s.heap H locs → lv_has ls 8 [(0, .ref (a 0)), (3, .int x3), (4, .int x4), (5, .int x5), (6, .int x6)] → W p l e (headSpec ow_dm_X16_carry ({ frames := 5, cells := 0, slots := 0, locals := 112 })).room s m args below meth c H locs 0 0 Q (F0 m 488 ls [.int y1, .ref (a 0)])
def dj_X16_carry_469 (p : Program) (l : Launch) (e : Env) (s : State) (m : MethodId) (args : Array Value) (below : List Frame) (meth : Method) (c : Code) (Q : State → Prop) (A : Nat → Prop) (dC : Nat → ClassId) (dI : Nat → Nat → Nat) (a : Nat → Nat) (ac : Nat → ClassId) (g : Int32 → Int32 → Int32 → Int32 → Int32 → (St × (St)) → Option (St × (St))) (r : St × (St)) : Prop := ∀ (x3 : Int32) (x4 : Int32) (x5 : Int32) (x6 : Int32) (y1 : Int32) (s0 : St × (St)) (H : Heap) (locs : List Loc) (ls : Array Slot), g x3 x4 x5 x6 y1 s0 = some r → va_P (dC, dI) vwCl (dw_X16 a ac s0) H → va_D A (dw_X16 a ac s0) → va_S A s.heap H locs → lv_has ls 8 [(0, .ref (a 0)), (3, .int x3), (4, .int x4), (5, .int x5), (6, .int x6)] → W p l e (headSpec ow_dm_X16_carry ({ frames := 5, cells := 0, slots := 0, locals := 112 })).room s m args below meth c H locs 0 0 Q (F0 m 469 ls [.int y1, .ref (a 0)])
def dj_X16_carry_304 (p : Program) (l : Launch) (e : Env) (s : State) (m : MethodId) (args : Array Value) (below : List Frame) (meth : Method) (c : Code) (Q : State → Prop) (A : Nat → Prop) (dC : Nat → ClassId) (dI : Nat → Nat → Nat) (a : Nat → Nat) (ac : Nat → ClassId) (g : Int32 → Int32 → Int32 → (St × (St)) → Option (St × (St))) (r : St × (St)) : Prop := ∀ (x2 : Int32) (x4 : Int32) (x7 : Int32) (s0 : St × (St)) (H : Heap) (locs : List Loc) (ls : Array Slot), g x2 x4 x7 s0 = some r → va_P (dC, dI) vwCl (dw_X16 a ac s0) H → va_D A (dw_X16 a ac s0) → va_S A s.heap H locs → lv_has ls 8 [(0, .ref (a 0)), (2, .int x2), (4, .int x4), (7, .int x7)] → W p l e (headSpec ow_dm_X16_carry ({ frames := 5, cells := 0, slots := 0, locals := 112 })).room s m args below meth c H locs 0 0 Q (F0 m 304 ls [])
def dj_X16_carry_0 (p : Program) (l : Launch) (e : Env) (s : State) (m : MethodId) (args : Array Value) (below : List Frame) (meth : Method) (c : Code) (Q : State → Prop) (A : Nat → Prop) (dC : Nat → ClassId) (dI : Nat → Nat → Nat) (a : Nat → Nat) (ac : Nat → ClassId) (g : Int32 → (St × (St)) → Option (St × (St))) (r : St × (St)) : Prop := ∀ (v0 : Int32) (s0 : St × (St)) (H : Heap) (locs : List Loc) (ls : Array Slot), g v0 s0 = some r → va_P (dC, dI) vwCl (dw_X16 a ac s0) H → va_D A (dw_X16 a ac s0) → va_S A s.heap H locs → lv_has ls 8 [(0, .ref (a 0)), (1, .int v0)] → W p l e (headSpec ow_dm_X16_carry ({ frames := 5, cells := 0, slots := 0, locals := 112 })).room s m args below meth c H locs 0 0 Q (F0 m 0 ls [])
set_option maxHeartbeats 40000000 in
set_option maxRecDepth 100000 in
theorem db_X16_carry_562 {p : Program} {l : Launch} {e : Env} {s : State} {m : MethodId} {args : Array Value} {below : List Frame} {meth : Method} {c : Code} {Q : State → Prop} {A : Nat → Prop} {dC : Nat → ClassId} {dI : Nat → Nat → Nat} {a : Nat → Nat} {ac : Nat → ClassId} {n : Nat} {r : St × (St)} (C : nd_C p l s m args c A (dC, dI) cX16_carry 8 RX16 ow_dm_X16_carry (dk_X16 ac)) (K : nd_Kv p l e (headSpec ow_dm_X16_carry ({ frames := 5, cells := 0, slots := 0, locals := 112 })).room s m args below meth c Q A (dC, dI) cX16_carry (St × (St)) (dw_X16 a ac) r) : dj_X16_carry_562 p l e s m args below meth c Q A dC dI a ac (df_X16_carry_562 n) r := by
  obtain ⟨hlt, hx, hb, hml, hown, hts, hN, hA, hK⟩ := id C
  intro s0 H locs ls h hP hD hS hl
  unfold df_X16_carry_562 at h
  exact K _ _ _ _ _ dX16_carry_562 (Option.some.inj h).symm hP hD hS
set_option maxHeartbeats 40000000 in
set_option maxRecDepth 100000 in
theorem db_X16_carry_418 {p : Program} {l : Launch} {e : Env} {s : State} {m : MethodId} {args : Array Value} {below : List Frame} {meth : Method} {c : Code} {Q : State → Prop} {A : Nat → Prop} {dC : Nat → ClassId} {dI : Nat → Nat → Nat} {a : Nat → Nat} {ac : Nat → ClassId} {n : Nat} {r : St × (St)} (C : nd_C p l s m args c A (dC, dI) cX16_carry 8 RX16 ow_dm_X16_carry (dk_X16 ac)) (K : nd_Kv p l e (headSpec ow_dm_X16_carry ({ frames := 5, cells := 0, slots := 0, locals := 112 })).room s m args below meth c Q A (dC, dI) cX16_carry (St × (St)) (dw_X16 a ac) r) : dj_X16_carry_418 p l e s m args below meth c Q A dC dI a ac (df_X16_carry_418 n) r := by
  obtain ⟨hlt, hx, hb, hml, hown, hts, hN, hA, hK⟩ := id C
  intro y1 y2 s0 H locs ls h hP hD hS hl
  unfold df_X16_carry_418 at h
  obtain ⟨s45, hq, h⟩ := nd_b1_e h
  have hPc := hP
  have hDc := hD
  have hKc := hK
  have hFc := nd_rs hD hS hA
  refine nd_cVv (As := [.int y1, .int y2]) (rest := []) (w' := dw_X16 a ac s45) ⟨hx, hb, hml, hown, hts⟩ (fun sz => dm_X16_become l hlt dC dI a ac n (y1) (y2) s0 hq sz) (cwV 2 hts gi_dm_X16_carry_2 rfl rfl rfl (by decide +kernel) ⟨Nat.le_of_ble_eq_true rfl, Nat.le_of_ble_eq_true rfl⟩) hPc hDc hKc hS hA hN (va_recv hKc hPc (ci := 17) (q0 := 0) rfl rfl) rfl hl.1 rfl (Nat.le_of_ble_eq_true rfl) dX16_carry_418 (fun H locs hP1 hD1 hk1 hS => ?_)
  have hP := hP1
  have hD := hD1.weaken (fun k q _ h => hFc q.1 h)
  refine lv_goto (tgt := 562) hx hb dX16_carry_421 (by decide) ?_
  exact (db_X16_carry_562 C K)  s45 _ _ _ h hP hD hS (lv_sub hl [] rfl)
set_option maxHeartbeats 40000000 in
set_option maxRecDepth 100000 in
theorem db_X16_carry_391 {p : Program} {l : Launch} {e : Env} {s : State} {m : MethodId} {args : Array Value} {below : List Frame} {meth : Method} {c : Code} {Q : State → Prop} {A : Nat → Prop} {dC : Nat → ClassId} {dI : Nat → Nat → Nat} {a : Nat → Nat} {ac : Nat → ClassId} {n : Nat} {r : St × (St)} (C : nd_C p l s m args c A (dC, dI) cX16_carry 8 RX16 ow_dm_X16_carry (dk_X16 ac)) (K : nd_Kv p l e (headSpec ow_dm_X16_carry ({ frames := 5, cells := 0, slots := 0, locals := 112 })).room s m args below meth c Q A (dC, dI) cX16_carry (St × (St)) (dw_X16 a ac) r) : dj_X16_carry_391 p l e s m args below meth c Q A dC dI a ac (df_X16_carry_391 n) r := by
  obtain ⟨hlt, hx, hb, hml, hown, hts, hN, hA, hK⟩ := id C
  intro x1 x3 x4 x6 y1 s0 H locs ls h hP hD hS hl
  unfold df_X16_carry_391 at h
  refine lv_aload_n hx hb dX16_carry_391 rfl (lv_at hl 0 rfl) ?_
  refine lv_iload_n hx hb dX16_carry_392 rfl (lv_at hl 2 rfl) ?_
  refine lv_iload hx hb dX16_carry_393 (lv_at hl 4 rfl) ?_
  refine lv_iload hx hb dX16_carry_395 (lv_at hl 3 rfl) ?_
  refine lv_iload_n hx hb dX16_carry_397 rfl (lv_at hl 1 rfl) ?_
  refine lv_bipush (v := 20) hx hb dX16_carry_398 (by decide) ?_
  refine lv_iconst (v := 5) hx hb dX16_carry_400 (by decide) ?_
  obtain ⟨q38, s39, hq, h⟩ := nd_b2_e h
  have hPc : va_P (dC, dI) vwCl (dw_P a ac ()) H := nd_p0
  have hDc : va_D A (dw_P a ac ()) := nd_d0
  have hKc : va_K (dC, dI) vwCl (dk_P ac) s := nd_y0 hK
  have hFc : ∀ q, va_A (dw_P a ac ()) H.size q → A q := nd_r0 hS hA
  refine nd_cSi (As := [.int x1, .int 20, .int 5]) (rest := [.int x4, .int x6, .int x3, .ref (a 0), .int y1, .ref (a 0)]) (q := q38) (w' := dw_P a ac s39) ⟨hx, hb, hml, hown, hts⟩ (fun sz => dm_X16_part l hlt dC dI a ac n (x1) (20) (5) () hq sz) (cwS 3 hts gi_dm_X16_carry_0 rfl rfl rfl (by decide +kernel) ⟨Nat.le_of_ble_eq_true rfl, Nat.le_of_ble_eq_true rfl⟩) hPc hDc hKc hS hA hN rfl hl.1 rfl (Nat.le_of_ble_eq_true rfl) dX16_carry_401 (fun H locs hP1 hD1 hk1 hS => ?_)
  have hP := nd_n0 hP hk1
  obtain ⟨q41, s42, hq, h⟩ := nd_b2_e h
  have hPc := hP
  have hDc := hD
  have hKc := hK
  have hFc := nd_rs hD hS hA
  refine nd_cVi (As := [.int x3, .int x6, .int x4, .int q38]) (rest := [.int y1, .ref (a 0)]) (q := q41) (w' := dw_X16 a ac s42) ⟨hx, hb, hml, hown, hts⟩ (fun sz => dm_X16_shifted l hlt dC dI a ac n (x3) (x6) (x4) (q38) s0 hq sz) (cwV 4 hts gi_dm_X16_carry_4 rfl rfl rfl (by decide +kernel) ⟨Nat.le_of_ble_eq_true rfl, Nat.le_of_ble_eq_true rfl⟩) hPc hDc hKc hS hA hN (va_recv hKc hPc (ci := 17) (q0 := 0) rfl rfl) rfl hl.1 rfl (Nat.le_of_ble_eq_true rfl) dX16_carry_404 (fun H locs hP1 hD1 hk1 hS => ?_)
  have hP := hP1
  have hD := hD1.weaken (fun k q _ h => hFc q.1 h)
  refine lv_goto (tgt := 418) hx hb dX16_carry_407 (by decide) ?_
  exact (db_X16_carry_418 C K) (y1) (q41) s42 _ _ _ h hP hD hS (lv_sub hl [] rfl)
set_option maxHeartbeats 40000000 in
set_option maxRecDepth 100000 in
theorem db_X16_carry_502 {p : Program} {l : Launch} {e : Env} {s : State} {m : MethodId} {args : Array Value} {below : List Frame} {meth : Method} {c : Code} {Q : State → Prop} {A : Nat → Prop} {dC : Nat → ClassId} {dI : Nat → Nat → Nat} {a : Nat → Nat} {ac : Nat → ClassId} {n : Nat} {r : St × (St)} (C : nd_C p l s m args c A (dC, dI) cX16_carry 8 RX16 ow_dm_X16_carry (dk_X16 ac)) (K : nd_Kv p l e (headSpec ow_dm_X16_carry ({ frames := 5, cells := 0, slots := 0, locals := 112 })).room s m args below meth c Q A (dC, dI) cX16_carry (St × (St)) (dw_X16 a ac) r) : dj_X16_carry_502 p l e s m args below meth c Q A dC dI a ac (df_X16_carry_502 n) r := by
  obtain ⟨hlt, hx, hb, hml, hown, hts, hN, hA, hK⟩ := id C
  intro y1 y2 s0 H locs ls h hP hD hS hl
  unfold df_X16_carry_502 at h
  obtain ⟨s75, hq, h⟩ := nd_b1_e h
  have hPc := hP
  have hDc := hD
  have hKc := hK
  have hFc := nd_rs hD hS hA
  refine nd_cVv (As := [.int y1, .int y2]) (rest := []) (w' := dw_X16 a ac s75) ⟨hx, hb, hml, hown, hts⟩ (fun sz => dm_X16_become l hlt dC dI a ac n (y1) (y2) s0 hq sz) (cwV 2 hts gi_dm_X16_carry_2 rfl rfl rfl (by decide +kernel) ⟨Nat.le_of_ble_eq_true rfl, Nat.le_of_ble_eq_true rfl⟩) hPc hDc hKc hS hA hN (va_recv hKc hPc (ci := 17) (q0 := 0) rfl rfl) rfl hl.1 rfl (Nat.le_of_ble_eq_true rfl) dX16_carry_502 (fun H locs hP1 hD1 hk1 hS => ?_)
  have hP := hP1
  have hD := hD1.weaken (fun k q _ h => hFc q.1 h)
  refine lv_goto (tgt := 562) hx hb dX16_carry_505 (by decide) ?_
  exact (db_X16_carry_562 C K)  s75 _ _ _ h hP hD hS (lv_sub hl [] rfl)
set_option maxHeartbeats 40000000 in
set_option maxRecDepth 100000 in
theorem db_X16_carry_488 {p : Program} {l : Launch} {e : Env} {s : State} {m : MethodId} {args : Array Value} {below : List Frame} {meth : Method} {c : Code} {Q : State → Prop} {A : Nat → Prop} {dC : Nat → ClassId} {dI : Nat → Nat → Nat} {a : Nat → Nat} {ac : Nat → ClassId} {n : Nat} {r : St × (St)} (C : nd_C p l s m args c A (dC, dI) cX16_carry 8 RX16 ow_dm_X16_carry (dk_X16 ac)) (K : nd_Kv p l e (headSpec ow_dm_X16_carry ({ frames := 5, cells := 0, slots := 0, locals := 112 })).room s m args below meth c Q A (dC, dI) cX16_carry (St × (St)) (dw_X16 a ac) r) : dj_X16_carry_488 p l e s m args below meth c Q A dC dI a ac (df_X16_carry_488 n) r := by
  obtain ⟨hlt, hx, hb, hml, hown, hts, hN, hA, hK⟩ := id C
  intro x3 x4 x5 x6 y1 s0 H locs ls h hP hD hS hl
  unfold df_X16_carry_488 at h
  refine lv_aload_n hx hb dX16_carry_488 rfl (lv_at hl 0 rfl) ?_
  refine lv_iload_n hx hb dX16_carry_489 rfl (lv_at hl 1 rfl) ?_
  refine lv_iload hx hb dX16_carry_490 (lv_at hl 4 rfl) ?_
  refine lv_iload hx hb dX16_carry_492 (lv_at hl 2 rfl) ?_
  refine lv_iload hx hb dX16_carry_494 (lv_at hl 3 rfl) ?_
  refine lv_bipush (v := 31) hx hb dX16_carry_496 (by decide) ?_
  refine lv_iand hx hb dX16_carry_498 ?_
  obtain ⟨q71, s72, hq, h⟩ := nd_b2_e h
  have hPc := hP
  have hDc := hD
  have hKc := hK
  have hFc := nd_rs hD hS hA
  refine nd_cVi (As := [.int x3, .int x6, .int x4, .int (x5 &&& 31)]) (rest := [.int y1, .ref (a 0)]) (q := q71) (w' := dw_X16 a ac s72) ⟨hx, hb, hml, hown, hts⟩ (fun sz => dm_X16_shifted l hlt dC dI a ac n (x3) (x6) (x4) ((x5 &&& 31)) s0 hq sz) (cwV 4 hts gi_dm_X16_carry_4 rfl rfl rfl (by decide +kernel) ⟨Nat.le_of_ble_eq_true rfl, Nat.le_of_ble_eq_true rfl⟩) hPc hDc hKc hS hA hN (va_recv hKc hPc (ci := 17) (q0 := 0) rfl rfl) rfl hl.1 rfl (Nat.le_of_ble_eq_true rfl) dX16_carry_499 (fun H locs hP1 hD1 hk1 hS => ?_)
  have hP := hP1
  have hD := hD1.weaken (fun k q _ h => hFc q.1 h)
  exact (db_X16_carry_502 C K) (y1) (q71) s72 _ _ _ h hP hD hS (lv_sub hl [] rfl)
set_option maxHeartbeats 40000000 in
set_option maxRecDepth 100000 in
theorem db_X16_carry_469 {p : Program} {l : Launch} {e : Env} {s : State} {m : MethodId} {args : Array Value} {below : List Frame} {meth : Method} {c : Code} {Q : State → Prop} {A : Nat → Prop} {dC : Nat → ClassId} {dI : Nat → Nat → Nat} {a : Nat → Nat} {ac : Nat → ClassId} {n : Nat} {r : St × (St)} (C : nd_C p l s m args c A (dC, dI) cX16_carry 8 RX16 ow_dm_X16_carry (dk_X16 ac)) (K : nd_Kv p l e (headSpec ow_dm_X16_carry ({ frames := 5, cells := 0, slots := 0, locals := 112 })).room s m args below meth c Q A (dC, dI) cX16_carry (St × (St)) (dw_X16 a ac) r) : dj_X16_carry_469 p l e s m args below meth c Q A dC dI a ac (df_X16_carry_469 n) r := by
  obtain ⟨hlt, hx, hb, hml, hown, hts, hN, hA, hK⟩ := id C
  intro x3 x4 x5 x6 y1 s0 H locs ls h hP hD hS hl
  unfold df_X16_carry_469 at h
  refine lv_iload hx hb dX16_carry_469 (lv_at hl 4 rfl) ?_
  refine lv_bipush (v := 32) hx hb dX16_carry_471 (by decide) ?_
  refine lv_icmp_ne (tgt := 488) hx hb dX16_carry_473 (by decide) (fun c70 => ?_) (fun c70 => ?_)
  · have h := nd_neg h c70
    exact (db_X16_carry_488 C K) (x3) (x4) (x5) (x6) (y1) s0 _ _ _ h hP hD hS (lv_sub hl [0, 1, 2, 3, 4] rfl)
  · have h := nd_pos h c70
    refine lv_iload_n hx hb dX16_carry_476 rfl (lv_at hl 1 rfl) ?_
    refine lv_if_ne (tgt := 488) hx hb dX16_carry_477 (by decide) (fun c77 => ?_) (fun c77 => ?_)
    · have h := nd_neg h c77
      exact (db_X16_carry_488 C K) (x3) (x4) (x5) (x6) (y1) s0 _ _ _ h hP hD hS (lv_sub hl [0, 1, 2, 3, 4] rfl)
    · have h := nd_pos h c77
      refine lv_iload hx hb dX16_carry_480 (lv_at hl 2 rfl) ?_
      refine lv_iload hx hb dX16_carry_482 (lv_at hl 3 rfl) ?_
      refine lv_isub hx hb dX16_carry_484 ?_
      refine lv_goto (tgt := 502) hx hb dX16_carry_485 (by decide) ?_
      exact (db_X16_carry_502 C K) (y1) ((x4 - x5)) s0 _ _ _ h hP hD hS (lv_sub hl [] rfl)
set_option maxHeartbeats 40000000 in
set_option maxRecDepth 100000 in
theorem db_X16_carry_304 {p : Program} {l : Launch} {e : Env} {s : State} {m : MethodId} {args : Array Value} {below : List Frame} {meth : Method} {c : Code} {Q : State → Prop} {A : Nat → Prop} {dC : Nat → ClassId} {dI : Nat → Nat → Nat} {a : Nat → Nat} {ac : Nat → ClassId} {n : Nat} {r : St × (St)} (C : nd_C p l s m args c A (dC, dI) cX16_carry 8 RX16 ow_dm_X16_carry (dk_X16 ac)) (K : nd_Kv p l e (headSpec ow_dm_X16_carry ({ frames := 5, cells := 0, slots := 0, locals := 112 })).room s m args below meth c Q A (dC, dI) cX16_carry (St × (St)) (dw_X16 a ac) r) : dj_X16_carry_304 p l e s m args below meth c Q A dC dI a ac (df_X16_carry_304 n) r := by
  obtain ⟨hlt, hx, hb, hml, hown, hts, hN, hA, hK⟩ := id C
  intro x2 x4 x7 s0 H locs ls h hP hD hS hl
  unfold df_X16_carry_304 at h
  refine lv_aload_n hx hb dX16_carry_304 rfl (lv_at hl 0 rfl) ?_
  refine lv_iload_n hx hb dX16_carry_305 rfl (lv_at hl 1 rfl) ?_
  refine lv_aload_n hx hb dX16_carry_306 rfl (lv_at hl 0 rfl) ?_
  refine va_get (D := (dC, dI)) (ci := 17) (v := .int (sI s0.1 10)) (C := RX16) (T := TX16) (N := 56) hx hb hts hi_dm_X16_carry_X16 hown hK hP 0 rfl rfl 49 (by decide) (hts (.fieldLink RX16 350 "TimeMachineModel$Machine" "next" "I") (List.mem_of_getElem? (i := 32) rfl)) (fun _ h9 => h9) rfl dX16_carry_307 ?_
  obtain ⟨s97, hq, h⟩ := nd_b1_e h
  have hPc := hP
  have hDc := hD
  have hKc := hK
  have hFc := nd_rs hD hS hA
  refine nd_cVv (As := [.int x2, .int (sI s0.1 10)]) (rest := []) (w' := dw_X16 a ac s97) ⟨hx, hb, hml, hown, hts⟩ (fun sz => dm_X16_become l hlt dC dI a ac n (x2) ((sI s0.1 10)) s0 hq sz) (cwV 2 hts gi_dm_X16_carry_2 rfl rfl rfl (by decide +kernel) ⟨Nat.le_of_ble_eq_true rfl, Nat.le_of_ble_eq_true rfl⟩) hPc hDc hKc hS hA hN (va_recv hKc hPc (ci := 17) (q0 := 0) rfl rfl) rfl hl.1 rfl (Nat.le_of_ble_eq_true rfl) dX16_carry_310 (fun H locs hP1 hD1 hk1 hS => ?_)
  have hP := hP1
  have hD := hD1.weaken (fun k q _ h => hFc q.1 h)
  refine lv_aload_n hx hb dX16_carry_313 rfl (lv_at hl 0 rfl) ?_
  refine lv_iload hx hb dX16_carry_314 (lv_at hl 2 rfl) ?_
  refine lv_iload hx hb dX16_carry_316 (lv_at hl 3 rfl) ?_
  refine lv_iadd hx hb dX16_carry_318 ?_
  refine lv_bipush (v := (-2)) hx hb dX16_carry_319 (by decide) ?_
  refine lv_iand hx hb dX16_carry_321 ?_
  refine va_put (D := (dC, dI)) (ci := 17) (v := .int ((x4 + x7) &&& (-2))) (ty := .int) (C := RX16) (T := TX16) (N := 56) hx hb hts hi_dm_X16_carry_X16 tyX16 tyX16_ok nmX16 hown hK hP hD hS 0 rfl rfl 49 (by decide) (hts (.fieldLink RX16 350 "TimeMachineModel$Machine" "next" "I") (List.mem_of_getElem? (i := 32) rfl)) (fun _ h9 => h9) rfl (by decide +kernel) rfl rfl (Nat.le_of_ble_eq_true rfl) dX16_carry_322 (fun H locs hP hD hS => ?_)
  obtain ⟨s99, es99, h⟩ := nd_let_e h
  have hP : va_P (dC, dI) vwCl (dw_X16 a ac s99) H := by rw [es99]; exact hP
  have hD : va_D A (dw_X16 a ac s99) := by rw [es99]; exact hD
  refine lv_goto (tgt := 562) hx hb dX16_carry_325 (by decide) ?_
  exact (db_X16_carry_562 C K)  s99 _ _ _ h hP hD hS (lv_sub hl [] rfl)

