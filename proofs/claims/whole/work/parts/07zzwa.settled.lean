/-- what waits at an opening: the rows that count -/
theorem wa_c (n : Nat) (hn : 1024 < n) {X X' : St × St} (e19 : sR X'.1 19 = sR X.1 19) (e20 : sR X'.1 20 = sR X.1 20) (e26 : sR X'.1 26 = sR X.1 26) (i7 : sI X'.1 7 = sI X.1 7) {o N t : Nat} (ho : o < 48) (hN : N ≤ 512) (et : sR X.1 20 o = nI t) (ht : t < 16) {k L : Nat} (hk : k ≤ 4) (ek : sR X.1 19 o = nI k) (k8 : k ≤ 2 → t < 8 ∧ L ≤ 512 ∧ sR X.1 26 t = nI L) {b v : Int32} (hb : b = nI 0 ∨ b = nI 1) (h : df_X16_waits n (nI o) b (nI N) X = some (v, X)) : df_X16_waits n (nI o) b (nI N) X' = some (v, X') := by
  have u1 : o < 2 ^ 31 := by omega
  have u2 : N < 2 ^ 31 := by omega
  have u3 : k < 2 ^ 31 := by omega
  have u4 : t < 2 ^ 31 := by omega
  have et' : sR X'.1 20 o = nI t := by rw [e20]; exact et
  have ek' : sR X'.1 19 o = nI k := by rw [e19]; exact ek
  have b1 : ¬ (nI 1 : Int32) = nI 0 := by decide
  have en : ∀ s : Nat, 1 ≤ s → s ≤ 4 → df_X16_ends n (nI s) (nI t) X = some (nI (cE (sR X.1 19) (sR X.1 20) s t), X) := fun s _ _ => nb_ends n (by omega) (nI s) (nI t) X
  have en' : ∀ s : Nat, 1 ≤ s → s ≤ 4 → df_X16_ends n (nI s) (nI t) X' = some (nI (cE (sR X.1 19) (sR X.1 20) s t), X') := fun s h1 h2 => by
    rw [← e19, ← e20]
    exact nb_ends n (by omega) (nI s) (nI t) X'
  by_cases n0 : N = 0
  · subst n0
    have e1 : df_X16_waits n (nI o) b (nI 0) X = some (nI 0, X) := by simp (disch := (first | assumption | decide | omega)) only [df_X16_waits, df_X16_waits_0, eq_self, Nat.reduceEqDiff, Nat.reduceLeDiff, nl_0, nl_1, nl_2, nl_4, nl_7, nl_8, nl_19, nl_20, nl_26, nl_48, nl_512, no_1, no_1024, pk_mul, nI_add, nm_ck, nI_clamp, nI_ltI, nI_leI, nI_eq, nb_b2, nb_b1, ↓nb_let, nm_z0, nm_z1, nb_II, nb_IR, nb_RI, nb_RR, nm_IL, nm_IQ, nm_RL, nm_RQ, nm_LI, nm_LR, nm_LL, nm_LQ, nm_QI, nm_QR, nm_QL, nm_QQ, nm_rr, nm_ii, nm_eqm, not_false_eq_true, pk_sub, nm_div, nm_shl, nm_shr, nm_ush, nm_or8, nm_or64, nm_or256, nm_m1, nm_m3, nm_m7, nm_m15, nm_m31, nm_m63, nm_m255, nm_m511, nm_m1023, nm_m2047, nm_m65535, Nat.reduceMod, Nat.reducePow, Nat.reduceAdd, Nat.reduceSub, Nat.reduceMul, nm_bo, nm_bi, nm_rc, nm_ic, nm_ri, nm_rl, nm_rq, nm_ql, nm_qi, nm_li, nm_us, nm_uu, nm_cp, nm_sa31, nm_sa7, nm_m127, nm_m2, nm_nz, nm_nzk, nm_eq32, nm_nzf, if_true, if_false, ↓reduceIte, if_pos, if_neg]
    have e2 : df_X16_waits n (nI o) b (nI 0) X' = some (nI 0, X') := by simp (disch := (first | assumption | decide | omega)) only [df_X16_waits, df_X16_waits_0, eq_self, Nat.reduceEqDiff, Nat.reduceLeDiff, nl_0, nl_1, nl_2, nl_4, nl_7, nl_8, nl_19, nl_20, nl_26, nl_48, nl_512, no_1, no_1024, pk_mul, nI_add, nm_ck, nI_clamp, nI_ltI, nI_leI, nI_eq, nb_b2, nb_b1, ↓nb_let, nm_z0, nm_z1, nb_II, nb_IR, nb_RI, nb_RR, nm_IL, nm_IQ, nm_RL, nm_RQ, nm_LI, nm_LR, nm_LL, nm_LQ, nm_QI, nm_QR, nm_QL, nm_QQ, nm_rr, nm_ii, nm_eqm, not_false_eq_true, pk_sub, nm_div, nm_shl, nm_shr, nm_ush, nm_or8, nm_or64, nm_or256, nm_m1, nm_m3, nm_m7, nm_m15, nm_m31, nm_m63, nm_m255, nm_m511, nm_m1023, nm_m2047, nm_m65535, Nat.reduceMod, Nat.reducePow, Nat.reduceAdd, Nat.reduceSub, Nat.reduceMul, nm_bo, nm_bi, nm_rc, nm_ic, nm_ri, nm_rl, nm_rq, nm_ql, nm_qi, nm_li, nm_us, nm_uu, nm_cp, nm_sa31, nm_sa7, nm_m127, nm_m2, nm_nz, nm_nzk, nm_eq32, nm_nzf, if_true, if_false, ↓reduceIte, if_pos, if_neg]
    rw [e1] at h
    cases h
    exact e2
  have one : ∀ (x : Int32), df_X16_waits n (nI o) b (nI N) X = some (x, X) → df_X16_waits n (nI o) b (nI N) X' = some (x, X') → df_X16_waits n (nI o) b (nI N) X' = some (v, X') := fun x e1 e2 => by
    rw [e1] at h
    cases h
    exact e2
  by_cases k4 : k = 4
  · subst k4
    rcases hb with z | z
    · exact one (nI 0) (by simp (disch := (first | assumption | decide | omega)) only [df_X16_waits, df_X16_waits_0, df_X16_waits_39, df_X16_waits_40, n0, et, ek, z, eq_self, Nat.reduceEqDiff, Nat.reduceLeDiff, nl_0, nl_1, nl_2, nl_4, nl_7, nl_8, nl_19, nl_20, nl_26, nl_48, nl_512, no_1, no_1024, pk_mul, nI_add, nm_ck, nI_clamp, nI_ltI, nI_leI, nI_eq, nb_b2, nb_b1, ↓nb_let, nm_z0, nm_z1, nb_II, nb_IR, nb_RI, nb_RR, nm_IL, nm_IQ, nm_RL, nm_RQ, nm_LI, nm_LR, nm_LL, nm_LQ, nm_QI, nm_QR, nm_QL, nm_QQ, nm_rr, nm_ii, nm_eqm, not_false_eq_true, pk_sub, nm_div, nm_shl, nm_shr, nm_ush, nm_or8, nm_or64, nm_or256, nm_m1, nm_m3, nm_m7, nm_m15, nm_m31, nm_m63, nm_m255, nm_m511, nm_m1023, nm_m2047, nm_m65535, Nat.reduceMod, Nat.reducePow, Nat.reduceAdd, Nat.reduceSub, Nat.reduceMul, nm_bo, nm_bi, nm_rc, nm_ic, nm_ri, nm_rl, nm_rq, nm_ql, nm_qi, nm_li, nm_us, nm_uu, nm_cp, nm_sa31, nm_sa7, nm_m127, nm_m2, nm_nz, nm_nzk, nm_eq32, nm_nzf, if_true, if_false, ↓reduceIte, if_pos, if_neg]) (by simp (disch := (first | assumption | decide | omega)) only [df_X16_waits, df_X16_waits_0, df_X16_waits_39, df_X16_waits_40, n0, et', ek', z, eq_self, Nat.reduceEqDiff, Nat.reduceLeDiff, nl_0, nl_1, nl_2, nl_4, nl_7, nl_8, nl_19, nl_20, nl_26, nl_48, nl_512, no_1, no_1024, pk_mul, nI_add, nm_ck, nI_clamp, nI_ltI, nI_leI, nI_eq, nb_b2, nb_b1, ↓nb_let, nm_z0, nm_z1, nb_II, nb_IR, nb_RI, nb_RR, nm_IL, nm_IQ, nm_RL, nm_RQ, nm_LI, nm_LR, nm_LL, nm_LQ, nm_QI, nm_QR, nm_QL, nm_QQ, nm_rr, nm_ii, nm_eqm, not_false_eq_true, pk_sub, nm_div, nm_shl, nm_shr, nm_ush, nm_or8, nm_or64, nm_or256, nm_m1, nm_m3, nm_m7, nm_m15, nm_m31, nm_m63, nm_m255, nm_m511, nm_m1023, nm_m2047, nm_m65535, Nat.reduceMod, Nat.reducePow, Nat.reduceAdd, Nat.reduceSub, Nat.reduceMul, nm_bo, nm_bi, nm_rc, nm_ic, nm_ri, nm_rl, nm_rq, nm_ql, nm_qi, nm_li, nm_us, nm_uu, nm_cp, nm_sa31, nm_sa7, nm_m127, nm_m2, nm_nz, nm_nzk, nm_eq32, nm_nzf, if_true, if_false, ↓reduceIte, if_pos, if_neg])
    · by_cases t0 : sI X.1 7 = nI 0
      · exact one (nI 1) (by simp (disch := (first | assumption | decide | omega)) only [df_X16_waits, df_X16_waits_0, df_X16_waits_39, df_X16_waits_40, n0, et, ek, z, b1, t0, eq_self, Nat.reduceEqDiff, Nat.reduceLeDiff, nl_0, nl_1, nl_2, nl_4, nl_7, nl_8, nl_19, nl_20, nl_26, nl_48, nl_512, no_1, no_1024, pk_mul, nI_add, nm_ck, nI_clamp, nI_ltI, nI_leI, nI_eq, nb_b2, nb_b1, ↓nb_let, nm_z0, nm_z1, nb_II, nb_IR, nb_RI, nb_RR, nm_IL, nm_IQ, nm_RL, nm_RQ, nm_LI, nm_LR, nm_LL, nm_LQ, nm_QI, nm_QR, nm_QL, nm_QQ, nm_rr, nm_ii, nm_eqm, not_false_eq_true, pk_sub, nm_div, nm_shl, nm_shr, nm_ush, nm_or8, nm_or64, nm_or256, nm_m1, nm_m3, nm_m7, nm_m15, nm_m31, nm_m63, nm_m255, nm_m511, nm_m1023, nm_m2047, nm_m65535, Nat.reduceMod, Nat.reducePow, Nat.reduceAdd, Nat.reduceSub, Nat.reduceMul, nm_bo, nm_bi, nm_rc, nm_ic, nm_ri, nm_rl, nm_rq, nm_ql, nm_qi, nm_li, nm_us, nm_uu, nm_cp, nm_sa31, nm_sa7, nm_m127, nm_m2, nm_nz, nm_nzk, nm_eq32, nm_nzf, if_true, if_false, ↓reduceIte, if_pos, if_neg]) (by simp (disch := (first | assumption | decide | omega)) only [df_X16_waits, df_X16_waits_0, df_X16_waits_39, df_X16_waits_40, n0, et', ek', z, b1, i7, t0, eq_self, Nat.reduceEqDiff, Nat.reduceLeDiff, nl_0, nl_1, nl_2, nl_4, nl_7, nl_8, nl_19, nl_20, nl_26, nl_48, nl_512, no_1, no_1024, pk_mul, nI_add, nm_ck, nI_clamp, nI_ltI, nI_leI, nI_eq, nb_b2, nb_b1, ↓nb_let, nm_z0, nm_z1, nb_II, nb_IR, nb_RI, nb_RR, nm_IL, nm_IQ, nm_RL, nm_RQ, nm_LI, nm_LR, nm_LL, nm_LQ, nm_QI, nm_QR, nm_QL, nm_QQ, nm_rr, nm_ii, nm_eqm, not_false_eq_true, pk_sub, nm_div, nm_shl, nm_shr, nm_ush, nm_or8, nm_or64, nm_or256, nm_m1, nm_m3, nm_m7, nm_m15, nm_m31, nm_m63, nm_m255, nm_m511, nm_m1023, nm_m2047, nm_m65535, Nat.reduceMod, Nat.reducePow, Nat.reduceAdd, Nat.reduceSub, Nat.reduceMul, nm_bo, nm_bi, nm_rc, nm_ic, nm_ri, nm_rl, nm_rq, nm_ql, nm_qi, nm_li, nm_us, nm_uu, nm_cp, nm_sa31, nm_sa7, nm_m127, nm_m2, nm_nz, nm_nzk, nm_eq32, nm_nzf, if_true, if_false, ↓reduceIte, if_pos, if_neg])
      · exact one (nI 0) (by simp (disch := (first | assumption | decide | omega)) only [df_X16_waits, df_X16_waits_0, df_X16_waits_39, df_X16_waits_40, n0, et, ek, z, b1, t0, eq_self, Nat.reduceEqDiff, Nat.reduceLeDiff, nl_0, nl_1, nl_2, nl_4, nl_7, nl_8, nl_19, nl_20, nl_26, nl_48, nl_512, no_1, no_1024, pk_mul, nI_add, nm_ck, nI_clamp, nI_ltI, nI_leI, nI_eq, nb_b2, nb_b1, ↓nb_let, nm_z0, nm_z1, nb_II, nb_IR, nb_RI, nb_RR, nm_IL, nm_IQ, nm_RL, nm_RQ, nm_LI, nm_LR, nm_LL, nm_LQ, nm_QI, nm_QR, nm_QL, nm_QQ, nm_rr, nm_ii, nm_eqm, not_false_eq_true, pk_sub, nm_div, nm_shl, nm_shr, nm_ush, nm_or8, nm_or64, nm_or256, nm_m1, nm_m3, nm_m7, nm_m15, nm_m31, nm_m63, nm_m255, nm_m511, nm_m1023, nm_m2047, nm_m65535, Nat.reduceMod, Nat.reducePow, Nat.reduceAdd, Nat.reduceSub, Nat.reduceMul, nm_bo, nm_bi, nm_rc, nm_ic, nm_ri, nm_rl, nm_rq, nm_ql, nm_qi, nm_li, nm_us, nm_uu, nm_cp, nm_sa31, nm_sa7, nm_m127, nm_m2, nm_nz, nm_nzk, nm_eq32, nm_nzf, if_true, if_false, ↓reduceIte, if_pos, if_neg]) (by simp (disch := (first | assumption | decide | omega)) only [df_X16_waits, df_X16_waits_0, df_X16_waits_39, df_X16_waits_40, n0, et', ek', z, b1, i7, t0, eq_self, Nat.reduceEqDiff, Nat.reduceLeDiff, nl_0, nl_1, nl_2, nl_4, nl_7, nl_8, nl_19, nl_20, nl_26, nl_48, nl_512, no_1, no_1024, pk_mul, nI_add, nm_ck, nI_clamp, nI_ltI, nI_leI, nI_eq, nb_b2, nb_b1, ↓nb_let, nm_z0, nm_z1, nb_II, nb_IR, nb_RI, nb_RR, nm_IL, nm_IQ, nm_RL, nm_RQ, nm_LI, nm_LR, nm_LL, nm_LQ, nm_QI, nm_QR, nm_QL, nm_QQ, nm_rr, nm_ii, nm_eqm, not_false_eq_true, pk_sub, nm_div, nm_shl, nm_shr, nm_ush, nm_or8, nm_or64, nm_or256, nm_m1, nm_m3, nm_m7, nm_m15, nm_m31, nm_m63, nm_m255, nm_m511, nm_m1023, nm_m2047, nm_m65535, Nat.reduceMod, Nat.reducePow, Nat.reduceAdd, Nat.reduceSub, Nat.reduceMul, nm_bo, nm_bi, nm_rc, nm_ic, nm_ri, nm_rl, nm_rq, nm_ql, nm_qi, nm_li, nm_us, nm_uu, nm_cp, nm_sa31, nm_sa7, nm_m127, nm_m2, nm_nz, nm_nzk, nm_eq32, nm_nzf, if_true, if_false, ↓reduceIte, if_pos, if_neg])
  by_cases k1 : k = 1
  · subst k1
    obtain ⟨t8, lL, eL⟩ := k8 (by omega)
    have eL' : sR X'.1 26 t = nI L := by rw [e26]; exact eL
    have en := en 2 (by omega) (by omega)
    have en' := en' 2 (by omega) (by omega)
    have cl := cE_le (sR X.1 19) (sR X.1 20) 2 t
    generalize cE (sR X.1 19) (sR X.1 20) 2 t = x at en en' cl
    have u5 : L < 2 ^ 31 := by omega
    have u6 : x < 2 ^ 31 := by omega
    rcases hb with z | z
    · exact one (nI 0) (by simp (disch := (first | assumption | decide | omega)) only [df_X16_waits, df_X16_waits_0, df_X16_waits_79, df_X16_waits_80, n0, et, ek, z, eq_self, Nat.reduceEqDiff, Nat.reduceLeDiff, nl_0, nl_1, nl_2, nl_4, nl_7, nl_8, nl_19, nl_20, nl_26, nl_48, nl_512, no_1, no_1024, pk_mul, nI_add, nm_ck, nI_clamp, nI_ltI, nI_leI, nI_eq, nb_b2, nb_b1, ↓nb_let, nm_z0, nm_z1, nb_II, nb_IR, nb_RI, nb_RR, nm_IL, nm_IQ, nm_RL, nm_RQ, nm_LI, nm_LR, nm_LL, nm_LQ, nm_QI, nm_QR, nm_QL, nm_QQ, nm_rr, nm_ii, nm_eqm, not_false_eq_true, pk_sub, nm_div, nm_shl, nm_shr, nm_ush, nm_or8, nm_or64, nm_or256, nm_m1, nm_m3, nm_m7, nm_m15, nm_m31, nm_m63, nm_m255, nm_m511, nm_m1023, nm_m2047, nm_m65535, Nat.reduceMod, Nat.reducePow, Nat.reduceAdd, Nat.reduceSub, Nat.reduceMul, nm_bo, nm_bi, nm_rc, nm_ic, nm_ri, nm_rl, nm_rq, nm_ql, nm_qi, nm_li, nm_us, nm_uu, nm_cp, nm_sa31, nm_sa7, nm_m127, nm_m2, nm_nz, nm_nzk, nm_eq32, nm_nzf, if_true, if_false, ↓reduceIte, if_pos, if_neg]) (by simp (disch := (first | assumption | decide | omega)) only [df_X16_waits, df_X16_waits_0, df_X16_waits_79, df_X16_waits_80, n0, et', ek', z, eq_self, Nat.reduceEqDiff, Nat.reduceLeDiff, nl_0, nl_1, nl_2, nl_4, nl_7, nl_8, nl_19, nl_20, nl_26, nl_48, nl_512, no_1, no_1024, pk_mul, nI_add, nm_ck, nI_clamp, nI_ltI, nI_leI, nI_eq, nb_b2, nb_b1, ↓nb_let, nm_z0, nm_z1, nb_II, nb_IR, nb_RI, nb_RR, nm_IL, nm_IQ, nm_RL, nm_RQ, nm_LI, nm_LR, nm_LL, nm_LQ, nm_QI, nm_QR, nm_QL, nm_QQ, nm_rr, nm_ii, nm_eqm, not_false_eq_true, pk_sub, nm_div, nm_shl, nm_shr, nm_ush, nm_or8, nm_or64, nm_or256, nm_m1, nm_m3, nm_m7, nm_m15, nm_m31, nm_m63, nm_m255, nm_m511, nm_m1023, nm_m2047, nm_m65535, Nat.reduceMod, Nat.reducePow, Nat.reduceAdd, Nat.reduceSub, Nat.reduceMul, nm_bo, nm_bi, nm_rc, nm_ic, nm_ri, nm_rl, nm_rq, nm_ql, nm_qi, nm_li, nm_us, nm_uu, nm_cp, nm_sa31, nm_sa7, nm_m127, nm_m2, nm_nz, nm_nzk, nm_eq32, nm_nzf, if_true, if_false, ↓reduceIte, if_pos, if_neg])
    · by_cases l0 : L = 0
      · by_cases x0 : x ≤ 0
        · exact one (nI 0) (by simp (disch := (first | assumption | decide | omega)) only [df_X16_waits, df_X16_waits_0, df_X16_waits_79, df_X16_waits_80, n0, et, ek, z, b1, eL, l0, en, x0, eq_self, Nat.reduceEqDiff, Nat.reduceLeDiff, nl_0, nl_1, nl_2, nl_4, nl_7, nl_8, nl_19, nl_20, nl_26, nl_48, nl_512, no_1, no_1024, pk_mul, nI_add, nm_ck, nI_clamp, nI_ltI, nI_leI, nI_eq, nb_b2, nb_b1, ↓nb_let, nm_z0, nm_z1, nb_II, nb_IR, nb_RI, nb_RR, nm_IL, nm_IQ, nm_RL, nm_RQ, nm_LI, nm_LR, nm_LL, nm_LQ, nm_QI, nm_QR, nm_QL, nm_QQ, nm_rr, nm_ii, nm_eqm, not_false_eq_true, pk_sub, nm_div, nm_shl, nm_shr, nm_ush, nm_or8, nm_or64, nm_or256, nm_m1, nm_m3, nm_m7, nm_m15, nm_m31, nm_m63, nm_m255, nm_m511, nm_m1023, nm_m2047, nm_m65535, Nat.reduceMod, Nat.reducePow, Nat.reduceAdd, Nat.reduceSub, Nat.reduceMul, nm_bo, nm_bi, nm_rc, nm_ic, nm_ri, nm_rl, nm_rq, nm_ql, nm_qi, nm_li, nm_us, nm_uu, nm_cp, nm_sa31, nm_sa7, nm_m127, nm_m2, nm_nz, nm_nzk, nm_eq32, nm_nzf, if_true, if_false, ↓reduceIte, if_pos, if_neg]) (by simp (disch := (first | assumption | decide | omega)) only [df_X16_waits, df_X16_waits_0, df_X16_waits_79, df_X16_waits_80, n0, et', ek', z, b1, eL', l0, en', x0, eq_self, Nat.reduceEqDiff, Nat.reduceLeDiff, nl_0, nl_1, nl_2, nl_4, nl_7, nl_8, nl_19, nl_20, nl_26, nl_48, nl_512, no_1, no_1024, pk_mul, nI_add, nm_ck, nI_clamp, nI_ltI, nI_leI, nI_eq, nb_b2, nb_b1, ↓nb_let, nm_z0, nm_z1, nb_II, nb_IR, nb_RI, nb_RR, nm_IL, nm_IQ, nm_RL, nm_RQ, nm_LI, nm_LR, nm_LL, nm_LQ, nm_QI, nm_QR, nm_QL, nm_QQ, nm_rr, nm_ii, nm_eqm, not_false_eq_true, pk_sub, nm_div, nm_shl, nm_shr, nm_ush, nm_or8, nm_or64, nm_or256, nm_m1, nm_m3, nm_m7, nm_m15, nm_m31, nm_m63, nm_m255, nm_m511, nm_m1023, nm_m2047, nm_m65535, Nat.reduceMod, Nat.reducePow, Nat.reduceAdd, Nat.reduceSub, Nat.reduceMul, nm_bo, nm_bi, nm_rc, nm_ic, nm_ri, nm_rl, nm_rq, nm_ql, nm_qi, nm_li, nm_us, nm_uu, nm_cp, nm_sa31, nm_sa7, nm_m127, nm_m2, nm_nz, nm_nzk, nm_eq32, nm_nzf, if_true, if_false, ↓reduceIte, if_pos, if_neg])
        · exact one (nI 1) (by simp (disch := (first | assumption | decide | omega)) only [df_X16_waits, df_X16_waits_0, df_X16_waits_79, df_X16_waits_80, n0, et, ek, z, b1, eL, l0, en, x0, eq_self, Nat.reduceEqDiff, Nat.reduceLeDiff, nl_0, nl_1, nl_2, nl_4, nl_7, nl_8, nl_19, nl_20, nl_26, nl_48, nl_512, no_1, no_1024, pk_mul, nI_add, nm_ck, nI_clamp, nI_ltI, nI_leI, nI_eq, nb_b2, nb_b1, ↓nb_let, nm_z0, nm_z1, nb_II, nb_IR, nb_RI, nb_RR, nm_IL, nm_IQ, nm_RL, nm_RQ, nm_LI, nm_LR, nm_LL, nm_LQ, nm_QI, nm_QR, nm_QL, nm_QQ, nm_rr, nm_ii, nm_eqm, not_false_eq_true, pk_sub, nm_div, nm_shl, nm_shr, nm_ush, nm_or8, nm_or64, nm_or256, nm_m1, nm_m3, nm_m7, nm_m15, nm_m31, nm_m63, nm_m255, nm_m511, nm_m1023, nm_m2047, nm_m65535, Nat.reduceMod, Nat.reducePow, Nat.reduceAdd, Nat.reduceSub, Nat.reduceMul, nm_bo, nm_bi, nm_rc, nm_ic, nm_ri, nm_rl, nm_rq, nm_ql, nm_qi, nm_li, nm_us, nm_uu, nm_cp, nm_sa31, nm_sa7, nm_m127, nm_m2, nm_nz, nm_nzk, nm_eq32, nm_nzf, if_true, if_false, ↓reduceIte, if_pos, if_neg]) (by simp (disch := (first | assumption | decide | omega)) only [df_X16_waits, df_X16_waits_0, df_X16_waits_79, df_X16_waits_80, n0, et', ek', z, b1, eL', l0, en', x0, eq_self, Nat.reduceEqDiff, Nat.reduceLeDiff, nl_0, nl_1, nl_2, nl_4, nl_7, nl_8, nl_19, nl_20, nl_26, nl_48, nl_512, no_1, no_1024, pk_mul, nI_add, nm_ck, nI_clamp, nI_ltI, nI_leI, nI_eq, nb_b2, nb_b1, ↓nb_let, nm_z0, nm_z1, nb_II, nb_IR, nb_RI, nb_RR, nm_IL, nm_IQ, nm_RL, nm_RQ, nm_LI, nm_LR, nm_LL, nm_LQ, nm_QI, nm_QR, nm_QL, nm_QQ, nm_rr, nm_ii, nm_eqm, not_false_eq_true, pk_sub, nm_div, nm_shl, nm_shr, nm_ush, nm_or8, nm_or64, nm_or256, nm_m1, nm_m3, nm_m7, nm_m15, nm_m31, nm_m63, nm_m255, nm_m511, nm_m1023, nm_m2047, nm_m65535, Nat.reduceMod, Nat.reducePow, Nat.reduceAdd, Nat.reduceSub, Nat.reduceMul, nm_bo, nm_bi, nm_rc, nm_ic, nm_ri, nm_rl, nm_rq, nm_ql, nm_qi, nm_li, nm_us, nm_uu, nm_cp, nm_sa31, nm_sa7, nm_m127, nm_m2, nm_nz, nm_nzk, nm_eq32, nm_nzf, if_true, if_false, ↓reduceIte, if_pos, if_neg])
      · exact one (nI 0) (by simp (disch := (first | assumption | decide | omega)) only [df_X16_waits, df_X16_waits_0, df_X16_waits_79, df_X16_waits_80, n0, et, ek, z, b1, eL, l0, eq_self, Nat.reduceEqDiff, Nat.reduceLeDiff, nl_0, nl_1, nl_2, nl_4, nl_7, nl_8, nl_19, nl_20, nl_26, nl_48, nl_512, no_1, no_1024, pk_mul, nI_add, nm_ck, nI_clamp, nI_ltI, nI_leI, nI_eq, nb_b2, nb_b1, ↓nb_let, nm_z0, nm_z1, nb_II, nb_IR, nb_RI, nb_RR, nm_IL, nm_IQ, nm_RL, nm_RQ, nm_LI, nm_LR, nm_LL, nm_LQ, nm_QI, nm_QR, nm_QL, nm_QQ, nm_rr, nm_ii, nm_eqm, not_false_eq_true, pk_sub, nm_div, nm_shl, nm_shr, nm_ush, nm_or8, nm_or64, nm_or256, nm_m1, nm_m3, nm_m7, nm_m15, nm_m31, nm_m63, nm_m255, nm_m511, nm_m1023, nm_m2047, nm_m65535, Nat.reduceMod, Nat.reducePow, Nat.reduceAdd, Nat.reduceSub, Nat.reduceMul, nm_bo, nm_bi, nm_rc, nm_ic, nm_ri, nm_rl, nm_rq, nm_ql, nm_qi, nm_li, nm_us, nm_uu, nm_cp, nm_sa31, nm_sa7, nm_m127, nm_m2, nm_nz, nm_nzk, nm_eq32, nm_nzf, if_true, if_false, ↓reduceIte, if_pos, if_neg]) (by simp (disch := (first | assumption | decide | omega)) only [df_X16_waits, df_X16_waits_0, df_X16_waits_79, df_X16_waits_80, n0, et', ek', z, b1, eL', l0, eq_self, Nat.reduceEqDiff, Nat.reduceLeDiff, nl_0, nl_1, nl_2, nl_4, nl_7, nl_8, nl_19, nl_20, nl_26, nl_48, nl_512, no_1, no_1024, pk_mul, nI_add, nm_ck, nI_clamp, nI_ltI, nI_leI, nI_eq, nb_b2, nb_b1, ↓nb_let, nm_z0, nm_z1, nb_II, nb_IR, nb_RI, nb_RR, nm_IL, nm_IQ, nm_RL, nm_RQ, nm_LI, nm_LR, nm_LL, nm_LQ, nm_QI, nm_QR, nm_QL, nm_QQ, nm_rr, nm_ii, nm_eqm, not_false_eq_true, pk_sub, nm_div, nm_shl, nm_shr, nm_ush, nm_or8, nm_or64, nm_or256, nm_m1, nm_m3, nm_m7, nm_m15, nm_m31, nm_m63, nm_m255, nm_m511, nm_m1023, nm_m2047, nm_m65535, Nat.reduceMod, Nat.reducePow, Nat.reduceAdd, Nat.reduceSub, Nat.reduceMul, nm_bo, nm_bi, nm_rc, nm_ic, nm_ri, nm_rl, nm_rq, nm_ql, nm_qi, nm_li, nm_us, nm_uu, nm_cp, nm_sa31, nm_sa7, nm_m127, nm_m2, nm_nz, nm_nzk, nm_eq32, nm_nzf, if_true, if_false, ↓reduceIte, if_pos, if_neg])
  by_cases k2 : k = 2
  · subst k2
    obtain ⟨t8, lL, eL⟩ := k8 (by omega)
    have eL' : sR X'.1 26 t = nI L := by rw [e26]; exact eL
    have en := en 1 (by omega) (by omega)
    have en' := en' 1 (by omega) (by omega)
    have cl := cE_le (sR X.1 19) (sR X.1 20) 1 t
    generalize cE (sR X.1 19) (sR X.1 20) 1 t = x at en en' cl
    have u5 : L + N < 2 ^ 31 := by omega
    have u6 : x < 2 ^ 31 := by omega
    rcases hb with z | z
    · by_cases x0 : x ≤ 0
      · exact one (nI 0) (by simp (disch := (first | assumption | decide | omega)) only [df_X16_waits, df_X16_waits_0, df_X16_waits_124, df_X16_waits_125, n0, et, ek, z, en, x0, eq_self, Nat.reduceEqDiff, Nat.reduceLeDiff, nl_0, nl_1, nl_2, nl_4, nl_7, nl_8, nl_19, nl_20, nl_26, nl_48, nl_512, no_1, no_1024, pk_mul, nI_add, nm_ck, nI_clamp, nI_ltI, nI_leI, nI_eq, nb_b2, nb_b1, ↓nb_let, nm_z0, nm_z1, nb_II, nb_IR, nb_RI, nb_RR, nm_IL, nm_IQ, nm_RL, nm_RQ, nm_LI, nm_LR, nm_LL, nm_LQ, nm_QI, nm_QR, nm_QL, nm_QQ, nm_rr, nm_ii, nm_eqm, not_false_eq_true, pk_sub, nm_div, nm_shl, nm_shr, nm_ush, nm_or8, nm_or64, nm_or256, nm_m1, nm_m3, nm_m7, nm_m15, nm_m31, nm_m63, nm_m255, nm_m511, nm_m1023, nm_m2047, nm_m65535, Nat.reduceMod, Nat.reducePow, Nat.reduceAdd, Nat.reduceSub, Nat.reduceMul, nm_bo, nm_bi, nm_rc, nm_ic, nm_ri, nm_rl, nm_rq, nm_ql, nm_qi, nm_li, nm_us, nm_uu, nm_cp, nm_sa31, nm_sa7, nm_m127, nm_m2, nm_nz, nm_nzk, nm_eq32, nm_nzf, if_true, if_false, ↓reduceIte, if_pos, if_neg]) (by simp (disch := (first | assumption | decide | omega)) only [df_X16_waits, df_X16_waits_0, df_X16_waits_124, df_X16_waits_125, n0, et', ek', z, en', x0, eq_self, Nat.reduceEqDiff, Nat.reduceLeDiff, nl_0, nl_1, nl_2, nl_4, nl_7, nl_8, nl_19, nl_20, nl_26, nl_48, nl_512, no_1, no_1024, pk_mul, nI_add, nm_ck, nI_clamp, nI_ltI, nI_leI, nI_eq, nb_b2, nb_b1, ↓nb_let, nm_z0, nm_z1, nb_II, nb_IR, nb_RI, nb_RR, nm_IL, nm_IQ, nm_RL, nm_RQ, nm_LI, nm_LR, nm_LL, nm_LQ, nm_QI, nm_QR, nm_QL, nm_QQ, nm_rr, nm_ii, nm_eqm, not_false_eq_true, pk_sub, nm_div, nm_shl, nm_shr, nm_ush, nm_or8, nm_or64, nm_or256, nm_m1, nm_m3, nm_m7, nm_m15, nm_m31, nm_m63, nm_m255, nm_m511, nm_m1023, nm_m2047, nm_m65535, Nat.reduceMod, Nat.reducePow, Nat.reduceAdd, Nat.reduceSub, Nat.reduceMul, nm_bo, nm_bi, nm_rc, nm_ic, nm_ri, nm_rl, nm_rq, nm_ql, nm_qi, nm_li, nm_us, nm_uu, nm_cp, nm_sa31, nm_sa7, nm_m127, nm_m2, nm_nz, nm_nzk, nm_eq32, nm_nzf, if_true, if_false, ↓reduceIte, if_pos, if_neg])
      · by_cases l0 : L + N ≤ 512
        · exact one (nI 0) (by simp (disch := (first | assumption | decide | omega)) only [df_X16_waits, df_X16_waits_0, df_X16_waits_124, df_X16_waits_125, n0, et, ek, z, en, x0, eL, l0, eq_self, Nat.reduceEqDiff, Nat.reduceLeDiff, nl_0, nl_1, nl_2, nl_4, nl_7, nl_8, nl_19, nl_20, nl_26, nl_48, nl_512, no_1, no_1024, pk_mul, nI_add, nm_ck, nI_clamp, nI_ltI, nI_leI, nI_eq, nb_b2, nb_b1, ↓nb_let, nm_z0, nm_z1, nb_II, nb_IR, nb_RI, nb_RR, nm_IL, nm_IQ, nm_RL, nm_RQ, nm_LI, nm_LR, nm_LL, nm_LQ, nm_QI, nm_QR, nm_QL, nm_QQ, nm_rr, nm_ii, nm_eqm, not_false_eq_true, pk_sub, nm_div, nm_shl, nm_shr, nm_ush, nm_or8, nm_or64, nm_or256, nm_m1, nm_m3, nm_m7, nm_m15, nm_m31, nm_m63, nm_m255, nm_m511, nm_m1023, nm_m2047, nm_m65535, Nat.reduceMod, Nat.reducePow, Nat.reduceAdd, Nat.reduceSub, Nat.reduceMul, nm_bo, nm_bi, nm_rc, nm_ic, nm_ri, nm_rl, nm_rq, nm_ql, nm_qi, nm_li, nm_us, nm_uu, nm_cp, nm_sa31, nm_sa7, nm_m127, nm_m2, nm_nz, nm_nzk, nm_eq32, nm_nzf, if_true, if_false, ↓reduceIte, if_pos, if_neg]) (by simp (disch := (first | assumption | decide | omega)) only [df_X16_waits, df_X16_waits_0, df_X16_waits_124, df_X16_waits_125, n0, et', ek', z, en', x0, eL', l0, eq_self, Nat.reduceEqDiff, Nat.reduceLeDiff, nl_0, nl_1, nl_2, nl_4, nl_7, nl_8, nl_19, nl_20, nl_26, nl_48, nl_512, no_1, no_1024, pk_mul, nI_add, nm_ck, nI_clamp, nI_ltI, nI_leI, nI_eq, nb_b2, nb_b1, ↓nb_let, nm_z0, nm_z1, nb_II, nb_IR, nb_RI, nb_RR, nm_IL, nm_IQ, nm_RL, nm_RQ, nm_LI, nm_LR, nm_LL, nm_LQ, nm_QI, nm_QR, nm_QL, nm_QQ, nm_rr, nm_ii, nm_eqm, not_false_eq_true, pk_sub, nm_div, nm_shl, nm_shr, nm_ush, nm_or8, nm_or64, nm_or256, nm_m1, nm_m3, nm_m7, nm_m15, nm_m31, nm_m63, nm_m255, nm_m511, nm_m1023, nm_m2047, nm_m65535, Nat.reduceMod, Nat.reducePow, Nat.reduceAdd, Nat.reduceSub, Nat.reduceMul, nm_bo, nm_bi, nm_rc, nm_ic, nm_ri, nm_rl, nm_rq, nm_ql, nm_qi, nm_li, nm_us, nm_uu, nm_cp, nm_sa31, nm_sa7, nm_m127, nm_m2, nm_nz, nm_nzk, nm_eq32, nm_nzf, if_true, if_false, ↓reduceIte, if_pos, if_neg])
        · exact one (nI 1) (by simp (disch := (first | assumption | decide | omega)) only [df_X16_waits, df_X16_waits_0, df_X16_waits_124, df_X16_waits_125, n0, et, ek, z, en, x0, eL, l0, eq_self, Nat.reduceEqDiff, Nat.reduceLeDiff, nl_0, nl_1, nl_2, nl_4, nl_7, nl_8, nl_19, nl_20, nl_26, nl_48, nl_512, no_1, no_1024, pk_mul, nI_add, nm_ck, nI_clamp, nI_ltI, nI_leI, nI_eq, nb_b2, nb_b1, ↓nb_let, nm_z0, nm_z1, nb_II, nb_IR, nb_RI, nb_RR, nm_IL, nm_IQ, nm_RL, nm_RQ, nm_LI, nm_LR, nm_LL, nm_LQ, nm_QI, nm_QR, nm_QL, nm_QQ, nm_rr, nm_ii, nm_eqm, not_false_eq_true, pk_sub, nm_div, nm_shl, nm_shr, nm_ush, nm_or8, nm_or64, nm_or256, nm_m1, nm_m3, nm_m7, nm_m15, nm_m31, nm_m63, nm_m255, nm_m511, nm_m1023, nm_m2047, nm_m65535, Nat.reduceMod, Nat.reducePow, Nat.reduceAdd, Nat.reduceSub, Nat.reduceMul, nm_bo, nm_bi, nm_rc, nm_ic, nm_ri, nm_rl, nm_rq, nm_ql, nm_qi, nm_li, nm_us, nm_uu, nm_cp, nm_sa31, nm_sa7, nm_m127, nm_m2, nm_nz, nm_nzk, nm_eq32, nm_nzf, if_true, if_false, ↓reduceIte, if_pos, if_neg]) (by simp (disch := (first | assumption | decide | omega)) only [df_X16_waits, df_X16_waits_0, df_X16_waits_124, df_X16_waits_125, n0, et', ek', z, en', x0, eL', l0, eq_self, Nat.reduceEqDiff, Nat.reduceLeDiff, nl_0, nl_1, nl_2, nl_4, nl_7, nl_8, nl_19, nl_20, nl_26, nl_48, nl_512, no_1, no_1024, pk_mul, nI_add, nm_ck, nI_clamp, nI_ltI, nI_leI, nI_eq, nb_b2, nb_b1, ↓nb_let, nm_z0, nm_z1, nb_II, nb_IR, nb_RI, nb_RR, nm_IL, nm_IQ, nm_RL, nm_RQ, nm_LI, nm_LR, nm_LL, nm_LQ, nm_QI, nm_QR, nm_QL, nm_QQ, nm_rr, nm_ii, nm_eqm, not_false_eq_true, pk_sub, nm_div, nm_shl, nm_shr, nm_ush, nm_or8, nm_or64, nm_or256, nm_m1, nm_m3, nm_m7, nm_m15, nm_m31, nm_m63, nm_m255, nm_m511, nm_m1023, nm_m2047, nm_m65535, Nat.reduceMod, Nat.reducePow, Nat.reduceAdd, Nat.reduceSub, Nat.reduceMul, nm_bo, nm_bi, nm_rc, nm_ic, nm_ri, nm_rl, nm_rq, nm_ql, nm_qi, nm_li, nm_us, nm_uu, nm_cp, nm_sa31, nm_sa7, nm_m127, nm_m2, nm_nz, nm_nzk, nm_eq32, nm_nzf, if_true, if_false, ↓reduceIte, if_pos, if_neg])
    · exact one (nI 0) (by simp (disch := (first | assumption | decide | omega)) only [df_X16_waits, df_X16_waits_0, df_X16_waits_124, df_X16_waits_125, n0, et, ek, z, b1, eq_self, Nat.reduceEqDiff, Nat.reduceLeDiff, nl_0, nl_1, nl_2, nl_4, nl_7, nl_8, nl_19, nl_20, nl_26, nl_48, nl_512, no_1, no_1024, pk_mul, nI_add, nm_ck, nI_clamp, nI_ltI, nI_leI, nI_eq, nb_b2, nb_b1, ↓nb_let, nm_z0, nm_z1, nb_II, nb_IR, nb_RI, nb_RR, nm_IL, nm_IQ, nm_RL, nm_RQ, nm_LI, nm_LR, nm_LL, nm_LQ, nm_QI, nm_QR, nm_QL, nm_QQ, nm_rr, nm_ii, nm_eqm, not_false_eq_true, pk_sub, nm_div, nm_shl, nm_shr, nm_ush, nm_or8, nm_or64, nm_or256, nm_m1, nm_m3, nm_m7, nm_m15, nm_m31, nm_m63, nm_m255, nm_m511, nm_m1023, nm_m2047, nm_m65535, Nat.reduceMod, Nat.reducePow, Nat.reduceAdd, Nat.reduceSub, Nat.reduceMul, nm_bo, nm_bi, nm_rc, nm_ic, nm_ri, nm_rl, nm_rq, nm_ql, nm_qi, nm_li, nm_us, nm_uu, nm_cp, nm_sa31, nm_sa7, nm_m127, nm_m2, nm_nz, nm_nzk, nm_eq32, nm_nzf, if_true, if_false, ↓reduceIte, if_pos, if_neg]) (by simp (disch := (first | assumption | decide | omega)) only [df_X16_waits, df_X16_waits_0, df_X16_waits_124, df_X16_waits_125, n0, et', ek', z, b1, eq_self, Nat.reduceEqDiff, Nat.reduceLeDiff, nl_0, nl_1, nl_2, nl_4, nl_7, nl_8, nl_19, nl_20, nl_26, nl_48, nl_512, no_1, no_1024, pk_mul, nI_add, nm_ck, nI_clamp, nI_ltI, nI_leI, nI_eq, nb_b2, nb_b1, ↓nb_let, nm_z0, nm_z1, nb_II, nb_IR, nb_RI, nb_RR, nm_IL, nm_IQ, nm_RL, nm_RQ, nm_LI, nm_LR, nm_LL, nm_LQ, nm_QI, nm_QR, nm_QL, nm_QQ, nm_rr, nm_ii, nm_eqm, not_false_eq_true, pk_sub, nm_div, nm_shl, nm_shr, nm_ush, nm_or8, nm_or64, nm_or256, nm_m1, nm_m3, nm_m7, nm_m15, nm_m31, nm_m63, nm_m255, nm_m511, nm_m1023, nm_m2047, nm_m65535, Nat.reduceMod, Nat.reducePow, Nat.reduceAdd, Nat.reduceSub, Nat.reduceMul, nm_bo, nm_bi, nm_rc, nm_ic, nm_ri, nm_rl, nm_rq, nm_ql, nm_qi, nm_li, nm_us, nm_uu, nm_cp, nm_sa31, nm_sa7, nm_m127, nm_m2, nm_nz, nm_nzk, nm_eq32, nm_nzf, if_true, if_false, ↓reduceIte, if_pos, if_neg])
  · exact one (nI 0) (by simp (disch := (first | assumption | decide | omega)) only [df_X16_waits, df_X16_waits_0, df_X16_waits_124, df_X16_waits_125, n0, et, ek, k4, k1, k2, eq_self, Nat.reduceEqDiff, Nat.reduceLeDiff, nl_0, nl_1, nl_2, nl_4, nl_7, nl_8, nl_19, nl_20, nl_26, nl_48, nl_512, no_1, no_1024, pk_mul, nI_add, nm_ck, nI_clamp, nI_ltI, nI_leI, nI_eq, nb_b2, nb_b1, ↓nb_let, nm_z0, nm_z1, nb_II, nb_IR, nb_RI, nb_RR, nm_IL, nm_IQ, nm_RL, nm_RQ, nm_LI, nm_LR, nm_LL, nm_LQ, nm_QI, nm_QR, nm_QL, nm_QQ, nm_rr, nm_ii, nm_eqm, not_false_eq_true, pk_sub, nm_div, nm_shl, nm_shr, nm_ush, nm_or8, nm_or64, nm_or256, nm_m1, nm_m3, nm_m7, nm_m15, nm_m31, nm_m63, nm_m255, nm_m511, nm_m1023, nm_m2047, nm_m65535, Nat.reduceMod, Nat.reducePow, Nat.reduceAdd, Nat.reduceSub, Nat.reduceMul, nm_bo, nm_bi, nm_rc, nm_ic, nm_ri, nm_rl, nm_rq, nm_ql, nm_qi, nm_li, nm_us, nm_uu, nm_cp, nm_sa31, nm_sa7, nm_m127, nm_m2, nm_nz, nm_nzk, nm_eq32, nm_nzf, if_true, if_false, ↓reduceIte, if_pos, if_neg]) (by simp (disch := (first | assumption | decide | omega)) only [df_X16_waits, df_X16_waits_0, df_X16_waits_124, df_X16_waits_125, n0, et', ek', k4, k1, k2, eq_self, Nat.reduceEqDiff, Nat.reduceLeDiff, nl_0, nl_1, nl_2, nl_4, nl_7, nl_8, nl_19, nl_20, nl_26, nl_48, nl_512, no_1, no_1024, pk_mul, nI_add, nm_ck, nI_clamp, nI_ltI, nI_leI, nI_eq, nb_b2, nb_b1, ↓nb_let, nm_z0, nm_z1, nb_II, nb_IR, nb_RI, nb_RR, nm_IL, nm_IQ, nm_RL, nm_RQ, nm_LI, nm_LR, nm_LL, nm_LQ, nm_QI, nm_QR, nm_QL, nm_QQ, nm_rr, nm_ii, nm_eqm, not_false_eq_true, pk_sub, nm_div, nm_shl, nm_shr, nm_ush, nm_or8, nm_or64, nm_or256, nm_m1, nm_m3, nm_m7, nm_m15, nm_m31, nm_m63, nm_m255, nm_m511, nm_m1023, nm_m2047, nm_m65535, Nat.reduceMod, Nat.reducePow, Nat.reduceAdd, Nat.reduceSub, Nat.reduceMul, nm_bo, nm_bi, nm_rc, nm_ic, nm_ri, nm_rl, nm_rq, nm_ql, nm_qi, nm_li, nm_us, nm_uu, nm_cp, nm_sa31, nm_sa7, nm_m127, nm_m2, nm_nz, nm_nzk, nm_eq32, nm_nzf, if_true, if_false, ↓reduceIte, if_pos, if_neg])
theorem ch_c {X X' : St × St} (st : ∀ r : Nat, r < 16 → sR X'.1 1 r = sR X.1 1 r ∨ (sR X.1 1 r = nI 2 ∧ sR X'.1 1 r = nI 1)) (e2 : sR X'.1 2 = sR X.1 2) (q : Nat) (any : Bool) : fN (chP X' q any) 0 16 = fN (chP X q any) 0 16 := fN_c 16 0 (fun r _ hr => by
  unfold chP
  rw [e2]
  rcases st r (by omega) with e | ⟨e, e'⟩
  · rw [e]
  · rw [e, e', decide_eq_true (show ¬ (nI 1 : Int32) = nI 0 by decide), decide_eq_true (show ¬ (nI 2 : Int32) = nI 0 by decide), decide_eq_false (show ¬ (nI 1 : Int32) = nI 3 by decide), decide_eq_false (show ¬ (nI 2 : Int32) = nI 3 by decide)])
theorem ws_3 (n : Nat) {X : St × St} {q f1 f2 : Nat} (hq : q < 16) (w1 : sR X.1 7 q = nI 3) (c2 : df_X16_child n (nI q) (nI 0) X = some (cv f1, X)) (d2 : df_X16_child n (nI q) (nI 1) X = some (cv f2, X)) : df_X16_waitsStill n (nI q) X = some (if f1 < 16 ∧ ¬ f2 < 16 then nI 1 else nI 0, X) := by
  have u4 : 32 * q + 10 < 512 := by omega
  have u5 : 32 * q + 12 < 512 := by omega
  have u6 : q < 2 ^ 31 := by omega
  by_cases x1 : f1 < 16
  · have y2 : f1 < 2 ^ 31 := by omega
    rw [cv_0 x1] at c2
    by_cases x2 : f2 < 16
    · have y4 : f2 < 2 ^ 31 := by omega
      rw [cv_0 x2] at d2
      rw [if_neg (fun z => z.2 x2)]
      simp (disch := (first | assumption | decide | omega)) only [df_X16_waitsStill_101, df_X16_waitsStill_100, df_X16_waitsStill_157, df_X16_waitsStill_170, df_X16_waitsStill_0, df_X16_waitsStill, w1, c2, d2, eq_self, Nat.reduceEqDiff, Nat.reduceLeDiff, nl_0, nl_1, nl_3, nl_5, nl_6, nl_7, nl_9, nl_10, nl_12, nl_14, nl_16, nl_19, nl_32, nl_256, nl_512, no_1, no_1024, pk_mul, nI_add, nm_ck, nI_clamp, nI_ltI, nI_leI, nI_eq, nb_b2, nb_b1, ↓nb_let, nm_z0, nm_z1, nb_II, nb_IR, nb_RI, nb_RR, nm_IL, nm_IQ, nm_RL, nm_RQ, nm_LI, nm_LR, nm_LL, nm_LQ, nm_QI, nm_QR, nm_QL, nm_QQ, nm_rr, nm_ii, nm_eqm, not_false_eq_true, pk_sub, nm_div, nm_shl, nm_shr, nm_ush, nm_or8, nm_or64, nm_or256, nm_m1, nm_m3, nm_m7, nm_m15, nm_m31, nm_m63, nm_m255, nm_m511, nm_m1023, nm_m2047, nm_m65535, Nat.reduceMod, Nat.reducePow, Nat.reduceAdd, Nat.reduceSub, Nat.reduceMul, nm_bo, nm_bi, nm_rc, nm_ic, nm_ri, nm_rl, nm_rq, nm_ql, nm_qi, nm_li, nm_us, nm_uu, nm_cp, nm_sa31, nm_sa7, nm_m127, nm_m2, nm_nz, nm_nzk, nm_eq32, nm_nzf, if_true, if_false, ↓reduceIte, if_pos, if_neg]
    · rw [cv_1 x2] at d2
      rw [if_pos ⟨x1, x2⟩]
      simp (disch := (first | assumption | decide | omega)) only [df_X16_waitsStill_101, df_X16_waitsStill_100, df_X16_waitsStill_157, df_X16_waitsStill_170, df_X16_waitsStill_0, df_X16_waitsStill, w1, c2, d2, eq_self, Nat.reduceEqDiff, Nat.reduceLeDiff, nl_0, nl_1, nl_3, nl_5, nl_6, nl_7, nl_9, nl_10, nl_12, nl_14, nl_16, nl_19, nl_32, nl_256, nl_512, no_1, no_1024, pk_mul, nI_add, nm_ck, nI_clamp, nI_ltI, nI_leI, nI_eq, nb_b2, nb_b1, ↓nb_let, nm_z0, nm_z1, nb_II, nb_IR, nb_RI, nb_RR, nm_IL, nm_IQ, nm_RL, nm_RQ, nm_LI, nm_LR, nm_LL, nm_LQ, nm_QI, nm_QR, nm_QL, nm_QQ, nm_rr, nm_ii, nm_eqm, not_false_eq_true, pk_sub, nm_div, nm_shl, nm_shr, nm_ush, nm_or8, nm_or64, nm_or256, nm_m1, nm_m3, nm_m7, nm_m15, nm_m31, nm_m63, nm_m255, nm_m511, nm_m1023, nm_m2047, nm_m65535, Nat.reduceMod, Nat.reducePow, Nat.reduceAdd, Nat.reduceSub, Nat.reduceMul, nm_bo, nm_bi, nm_rc, nm_ic, nm_ri, nm_rl, nm_rq, nm_ql, nm_qi, nm_li, nm_us, nm_uu, nm_cp, nm_sa31, nm_sa7, nm_m127, nm_m2, nm_nz, nm_nzk, nm_eq32, nm_nzf, if_true, if_false, ↓reduceIte, if_pos, if_neg]
  · rw [cv_1 x1] at c2
    rw [if_neg (fun z => x1 z.1)]
    simp (disch := (first | assumption | decide | omega)) only [df_X16_waitsStill_101, df_X16_waitsStill_100, df_X16_waitsStill_157, df_X16_waitsStill_170, df_X16_waitsStill_0, df_X16_waitsStill, w1, c2, eq_self, Nat.reduceEqDiff, Nat.reduceLeDiff, nl_0, nl_1, nl_3, nl_5, nl_6, nl_7, nl_9, nl_10, nl_12, nl_14, nl_16, nl_19, nl_32, nl_256, nl_512, no_1, no_1024, pk_mul, nI_add, nm_ck, nI_clamp, nI_ltI, nI_leI, nI_eq, nb_b2, nb_b1, ↓nb_let, nm_z0, nm_z1, nb_II, nb_IR, nb_RI, nb_RR, nm_IL, nm_IQ, nm_RL, nm_RQ, nm_LI, nm_LR, nm_LL, nm_LQ, nm_QI, nm_QR, nm_QL, nm_QQ, nm_rr, nm_ii, nm_eqm, not_false_eq_true, pk_sub, nm_div, nm_shl, nm_shr, nm_ush, nm_or8, nm_or64, nm_or256, nm_m1, nm_m3, nm_m7, nm_m15, nm_m31, nm_m63, nm_m255, nm_m511, nm_m1023, nm_m2047, nm_m65535, Nat.reduceMod, Nat.reducePow, Nat.reduceAdd, Nat.reduceSub, Nat.reduceMul, nm_bo, nm_bi, nm_rc, nm_ic, nm_ri, nm_rl, nm_rq, nm_ql, nm_qi, nm_li, nm_us, nm_uu, nm_cp, nm_sa31, nm_sa7, nm_m127, nm_m2, nm_nz, nm_nzk, nm_eq32, nm_nzf, if_true, if_false, ↓reduceIte, if_pos, if_neg]
/-- who waits still: others that wake change nothing -/
theorem ws_c (n : Nat) (hn : 1024 < n) {B : Nat} {M M' X X' : St × St} (h : rM B M X) (h' : rM B M' X') {q : Nat} (hq : q < 16) (st : ∀ r : Nat, r < 16 → sR X'.1 1 r = sR X.1 1 r ∨ (sR X.1 1 r = nI 2 ∧ sR X'.1 1 r = nI 1)) (h2 : sR X.1 1 q = nI 2) (e2 : sR X'.1 2 = sR X.1 2) (e7 : sR X'.1 7 q = sR X.1 7 q) (e9 : sR X'.1 9 = sR X.1 9) (e14 : sR X'.1 14 = sR X.1 14) (e19 : sR X'.1 19 = sR X.1 19) (e20 : sR X'.1 20 = sR X.1 20) (e26 : sR X'.1 26 = sR X.1 26) (i5 : sI X'.1 5 = sI X.1 5) (i7 : sI X'.1 7 = sI X.1 7) (l1 : sL X'.1 1 = sL X.1 1) (q0 : sQ X'.1 0 = sQ X.1 0) (hw : df_X16_waitsStill n (nI q) X = some (nI 1, X)) : df_X16_waitsStill n (nI q) X' = some (nI 1, X') := by
  have hst := rM_st h
  have hpa := rM_pa h
  have hst' := rM_st h'
  have hpa' := rM_pa h'
  obtain ⟨m1, m2, m3, m4, m5, m6, m7⟩ := h
  obtain ⟨t, c, w, b, e, ht, hc, hw', hb, he, a1, a2, a3, a4, a5, a6, a7, a8, a9, a10, a11, a12, a13, a14, a15, a16, a17, a18, a19, a20, a21⟩ := m3 q hq
  have k2 : t = 2 := nm_inI (by omega) (by omega) (a2.symm.trans h2)
  subst k2
  obtain ⟨w1, w2⟩ := a20 rfl
  have n01 : ¬ (nI 0 : Int32) = nI 1 := by decide
  rcases w2 with v | ⟨v, d, o, N, v1, v2, v3, v4, v5, v6⟩ | v | v
  · rw [v] at w1
    have c2 := (nk_child n hn hst hpa q true).2
    have d2 := (nk_child n hn hst hpa q false).2
    have c2' := (nk_child n hn hst' hpa' q true).2
    have d2' := (nk_child n hn hst' hpa' q false).2
    rw [ch_c st e2] at c2' d2'
    have x := ws_3 n hq w1 c2 d2
    have x' := ws_3 n hq (e7.trans w1) c2' d2'
    rw [hw] at x
    by_cases z : fN (chP X q true) 0 16 < 16 ∧ ¬ fN (chP X q false) 0 16 < 16
    · rw [if_pos z] at x'; exact x'
    · rw [if_neg z] at x
      cases x
  · have nk : ¬ sR X.1 19 o = nI 0 := by
      rcases nk_opening n m2 hq (nI d) with ⟨_, _, z⟩ | ⟨d', o', y1, y2, y3, y4, y5, _⟩
      · exact absurd (v5.symm.trans (z d v1 rfl)) (nk_ne (by omega))
      · have e1 : d = d' := nm_inI (by omega) (by omega) y3
        subst e1
        have e2 : o = o' := nm_inI (by omega) (by omega) (v5.symm.trans y4)
        rw [e2]; exact y5
    rcases m2.2.1 o v2 with ⟨z1, _⟩ | ⟨k, tt, y1, y2, y3, y4, y5, y6, y7, y8, y9, y10, _⟩
    · exact absurd z1 nk
    obtain ⟨L, k8⟩ : ∃ L : Nat, k ≤ 2 → tt < 8 ∧ L ≤ 512 ∧ sR X.1 26 tt = nI L := by
      by_cases c : k ≤ 2
      · have t8 := y9 c
        have e23 : sR X.1 23 tt = nI 1 := by
          have x1 : 0 < cE (sR X.1 19) (sR X.1 20) k tt := cN_p (P := fun j => decide (sR X.1 19 j = nI k ∧ sR X.1 20 j = nI tt)) (i := o) (decide_eq_true ⟨y4, y7⟩) v2
          rw [(m2.2.2.1 tt t8).2.2]
          have : k = 1 ∨ k = 2 := by omega
          rcases this with e | e
          · rw [e] at x1
            rw [decide_eq_true (by omega)]; rfl
          · rw [e] at x1
            rw [decide_eq_true (by omega)]; rfl
        obtain ⟨L, l1, l2, l3⟩ := rTT_l m7 tt t8 e23
        exact ⟨L, fun _ => ⟨t8, l1, l3⟩⟩
      · exact ⟨0, fun z => absurd z c⟩
    have v4' : sR X'.1 9 (32 * q + 10) = nI d := by rw [e9]; exact v4
    have v6' : sR X'.1 9 (32 * q + 12) = nI N := by rw [e9]; exact v6
    have v5' : sR X'.1 14 (q * 16 + d) = nI o := by rw [e14]; exact v5
    rcases v with v | v
    · obtain ⟨bb, x1, x2⟩ := nk_readWaits n hn m2 (rTT_l m7) (rTT_t m7) v2 nk v3
      rw [v] at w1
      have x3 := mw_6R n hq v1 bb w1 v4 v6 v5 x2
      rw [hw] at x3
      cases bb with
      | false => cases x3
      | true => exact mw_6R n hq v1 true (e7.trans w1) v4' v6' v5' (wa_c n hn e19 e20 e26 i7 v2 v3 y7 y10 y2 y4 k8 (Or.inr rfl) x2)
    · obtain ⟨bb, x1, x2⟩ := nk_writeWaits n hn m2 (rTT_l m7) v2 nk v3
      rw [v] at w1
      have x3 := mw_7R n hq v1 bb w1 v4 v6 v5 x2
      rw [hw] at x3
      cases bb with
      | false => cases x3
      | true => exact mw_7R n hq v1 true (e7.trans w1) v4' v6' v5' (wa_c n hn e19 e20 e26 i7 v2 v3 y7 y10 y2 y4 k8 (Or.inl rfl) x2)
  · rw [v] at w1
    have x := mw_19R n hq w1 rfl rfl
    have x' := mw_19R n hq (e7.trans w1) l1 (congrFun q0 q)
    rw [hw] at x
    have z : bI (decide (¬ nI 0 ≤ lg_cmp (sL X.1 1) (sQ X.1 0 q))) = nI 1 := by
      injection x with x
      injection x with x _
      exact x.symm
    rw [z] at x'
    exact x'
  · rw [v] at w1
    obtain ⟨⟨k, hk, x1, x2, _⟩, _⟩ := m6
    have x := mw_21R n hq hk w1 x2
    have x' := mw_21R n hq hk (e7.trans w1) (i5.trans x2)
    rw [hw] at x
    have z : bI (decide (k = 0)) = nI 1 := by
      injection x with x
      injection x with x _
      exact x.symm
    rw [z] at x'
    exact x'
theorem tk_c (n : Nat) (hn : 1024 < n) {B : Nat} {M X X' : St × St} (h : rM B M X) {q : Nat} (hq : q < 16) (e4 : sR X'.1 4 q = sR X.1 4 q) (e8 : sR X'.1 8 q = sR X.1 8 q) (hw : df_X16_takeable n (nI q) X = some (nI 0, X)) : df_X16_takeable n (nI q) X' = some (nI 0, X') := by
  obtain ⟨t, c, w, b, e, ht, hc, hw', hb, he, a1, a2, a3, a4, a5, a6, a7, a8, a9, a10, a11, _⟩ := h.2.2.1 q hq
  obtain ⟨_, x1, _⟩ := nk_takeable n hn hq hc hw' a8 a10 a9 a11
  obtain ⟨_, x2, _⟩ := nk_takeable n hn hq hc hw' a8 a10 (e4.trans a9) (e8.trans a11)
  rw [hw] at x1
  have z : nI (tk (2 * c) w) = nI 0 := by
    injection x1 with x
    injection x with x _
    exact x.symm
  rw [z] at x2
  exact x2
/-- a machine that has settled -/
def sD (n : Nat) (X : St × St) : Prop := (∀ q : Nat, q < 16 → sR X.1 1 q = nI 2 → df_X16_waitsStill n (nI q) X = some (nI 1, X) ∧ df_X16_takeable n (nI q) X = some (nI 0, X)) ∧ ((sI X.1 1 = -nI 1 ∧ ∀ q : Nat, q < 16 → ¬ sR X.1 1 q = nI 1) ∨ ∃ a : Nat, a < 16 ∧ sI X.1 1 = nI a ∧ sR X.1 1 a = nI 1)
/-- settling settles -/
theorem nk_settle2 (n : Nat) (hn : 1024 < n) {B : Nat} {K : St × (St × (St × St))} {X : St × St} (h : rM B K.2.2 X) : ∃ M' X' : St × St, df_X5_settle n K = some (K.1, (K.2.1, M')) ∧ df_X16_settle n X = some X' ∧ rM B M' X' ∧ kX X X' ∧ kM K.2.2 M' ∧ sD n X' := by
  obtain ⟨n1, rfl⟩ : ∃ n1 : Nat, n = n1 + 1 := ⟨n - 1, by omega⟩
  obtain ⟨m, s, t, ⟨i1, i2, i3, i4⟩, e1, e2⟩ := nm_l2 (fun m k s => df_X5_settle_2 (n1 + 1) (m + 1) (nI k) (K.1, (K.2.1, s))) (fun m k t => df_X16_settle_2 (n1 + 1) (m + 1) (nI k) t) (fun k s t => rM B s t ∧ kX X t ∧ kM K.2.2 s ∧ ∀ q : Nat, q < k → sR t.1 1 q = nI 2 → df_X16_waitsStill (n1 + 1) (nI q) t = some (nI 1, t) ∧ df_X16_takeable (n1 + 1) (nI q) t = some (nI 0, t)) 16 n1 (by omega) (fun k m s t hk ⟨i1, i2, i3, i4⟩ => by
    obtain ⟨M', X', f1, f2, f3, f4, f5, f6⟩ := nk_settleT (n1 + 1) hn (K := (K.1, (K.2.1, s))) i1 hk
    refine ⟨M', X', ⟨f2, kX_t i2 f3, kM_t i3 f4, fun q hq e => ?_⟩, (f1 m).1, (f1 (m + 1)).2⟩
    rcases f5 with ⟨z1, z2⟩ | ⟨z1, z2, z3⟩
    · subst z2
      by_cases c : q = k
      · rw [c] at e ⊢; exact f6 e
      · exact i4 q (by omega) e
    · by_cases c : q = k
      · exfalso
        rw [c, z3] at e
        have e : upd (sR t.1 1) k (nI 1) k = nI 2 := e
        rw [nm_us] at e
        exact absurd e (by decide)
      · have e1 : sR t.1 1 q = nI 2 := by
          rw [z3] at e
          have e : upd (sR t.1 1) k (nI 1) q = nI 2 := e
          rw [nm_un c] at e
          exact e
        obtain ⟨y1, y2⟩ := i4 q (by omega) e1
        have r1 : ∀ r : Nat, sR X'.1 1 r = upd (sR t.1 1) k (nI 1) r := fun r => by rw [z3]; rfl
        have r7 : sR X'.1 7 q = sR t.1 7 q := by
          rw [z3]
          show upd (sR t.1 7) k (-nI 1) q = _
          rw [nm_un c]
        refine ⟨ws_c (n1 + 1) hn i1 f2 (show q < 16 by omega) (fun r hr => ?_) e1 (by rw [z3]; rfl) r7 (by rw [z3]; rfl) (by rw [z3]; rfl) (by rw [z3]; rfl) (by rw [z3]; rfl) (by rw [z3]; rfl) (by rw [z3]; rfl) (by rw [z3]; rfl) (by rw [z3]; rfl) (by rw [z3]; rfl) y1, tk_c (n1 + 1) hn i1 (show q < 16 by omega) (by rw [z3]; rfl) (by rw [z3]; rfl) y2⟩
        rw [r1]
        by_cases d : r = k
        · rw [d, nm_us]; exact Or.inr ⟨z1, rfl⟩
        · rw [nm_un d]; exact Or.inl rfl) K.2.2 X ⟨h, kX_r X, rfl, fun q hq => by omega⟩
  obtain ⟨M', X', f1, f2, f3, f4, f5, f6⟩ := nk_chooseB (n1 + 1) hn i1
  refine ⟨M', X', ?_, ?_, f3, kX_t i2 f4, kM_t i3 f5, ?_⟩
  · refine Eq.trans (b := df_X5_settle_2 (n1 + 1) (n1 + 1) (nI 0) K) rfl ?_
    refine Eq.trans e1 ?_
    show df_X5_settle_2 (n1 + 1) (m + 1 + 1) (nI 16) _ = _
    rw [show df_X5_settle_2 (n1 + 1) (m + 1 + 1) = dF_X5_settle_2 (n1 + 1) (df_X5_settle_2 (n1 + 1) (m + 1)) from rfl]
    simp (disch := (first | assumption | decide | omega)) only [dF_X5_settle_2, df_X5_settle_80, f1, eq_self, Nat.reduceEqDiff, Nat.reduceLeDiff, nl_0, nl_2, nl_16, no_1, no_1024, pk_mul, nI_add, nm_ck, nI_clamp, nI_ltI, nI_leI, nI_eq, nb_b2, nb_b1, ↓nb_let, nm_z0, nm_z1, nb_II, nb_IR, nb_RI, nb_RR, nm_IL, nm_IQ, nm_RL, nm_RQ, nm_LI, nm_LR, nm_LL, nm_LQ, nm_QI, nm_QR, nm_QL, nm_QQ, nm_rr, nm_ii, nm_eqm, not_false_eq_true, pk_sub, nm_div, nm_shl, nm_shr, nm_ush, nm_or8, nm_or64, nm_or256, nm_m1, nm_m3, nm_m7, nm_m15, nm_m31, nm_m63, nm_m255, nm_m511, nm_m1023, nm_m2047, nm_m65535, Nat.reduceMod, Nat.reducePow, Nat.reduceAdd, Nat.reduceSub, Nat.reduceMul, nm_bo, nm_bi, nm_rc, nm_ic, nm_ri, nm_rl, nm_rq, nm_ql, nm_qi, nm_li, nm_us, nm_uu, nm_cp, nm_sa31, nm_sa7, nm_m127, nm_m2, nm_nz, nm_nzk, nm_eq32, nm_nzf, if_true, if_false, ↓reduceIte, if_pos, if_neg]
  · refine Eq.trans (b := df_X16_settle_2 (n1 + 1) (n1 + 1) (nI 0) X) rfl ?_
    exact Eq.trans e2 (f2 _)
  · rcases f6 with ⟨_, z2, a, ha, z3, z4⟩ | ⟨_, v, l, z2, z3, z4, z5⟩
    · subst z2
      exact ⟨i4, Or.inr ⟨a, ha, z3, z4⟩⟩
    · have ev : sI X'.1 1 = v := by rw [z2]; rfl
      have er : sR X'.1 1 = sR t.1 1 := by rw [z2]; rfl
      refine ⟨fun q hq e => ?_, ?_⟩
      · rw [er] at e
        obtain ⟨y1, y2⟩ := i4 q hq e
        exact ⟨ws_c (n1 + 1) hn i1 f3 hq (fun r hr => Or.inl (by rw [er])) e (by rw [z2]; rfl) (by rw [z2]; rfl) (by rw [z2]; rfl) (by rw [z2]; rfl) (by rw [z2]; rfl) (by rw [z2]; rfl) (by rw [z2]; rfl) (by rw [z2]; rfl) (by rw [z2]; rfl) (by rw [z2]; rfl) (by rw [z2]; rfl) y1, tk_c (n1 + 1) hn i1 hq (by rw [z2]; rfl) (by rw [z2]; rfl) y2⟩
      · have := f3.2.2.2.2.1.2.1
        rw [ev] at this
        rw [ev, er]
        rcases this with y | ⟨a, ha, y⟩
        · exact Or.inl ⟨y, (z4 y).1⟩
        · exact Or.inr ⟨a, ha, y, z5 a ha y⟩
