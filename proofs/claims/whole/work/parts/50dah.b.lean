/-- what waits at an opening: the rows that count -/
theorem wa_c (n : Nat) (hn : 1024 < n) {X X' : St × St} (e19 : sR X'.1 19 = sR X.1 19) (e20 : sR X'.1 20 = sR X.1 20) (e26 : sR X'.1 26 = sR X.1 26) (i7 : sI X'.1 7 = sI X.1 7) {o N t : Nat} (ho : o < 48) (hN : N ≤ 512) (et : sR X.1 20 o = nI t) (ht : t < 16) {k L : Nat} (hk : k ≤ 4) (ek : sR X.1 19 o = nI k) (k8 : k ≤ 2 → t < 8 ∧ L ≤ 512 ∧ sR X.1 26 t = nI L) {b v : Int32} (hb : b = nI 0 ∨ b = nI 1) (h : df_X16_waits n (nI o) b (nI N) X = some (v, X)) : df_X16_waits n (nI o) b (nI N) X' = some (v, X') := by
  have u1 : o < 2 ^ 31 := by omega
  have u2 : N < 2 ^ 31 := by omega
  have u3 : k < 2 ^ 31 := by omega
  have u4 : t < 2 ^ 31 := by omega
  have et' : sR X'.1 20 o = nI t := by rw [e20]; exact et
  have ek' : sR X'.1 19 o = nI k := by rw [e19]; exact ek
  have b1 : ¬ (nI 1 : Int32) = nI 0 := by decide
  have en : ∀ s : Nat, 1 ≤ s → s ≤ 4 → df_X16_ends n (nI s) (nI t) X = some (nI (cE (sR X.1 19) (sR X.1 20) s t), X) := fun s _ _ => nb_ends n (by omega) (nI s) (nI t) X
  have en' : ∀ s : Nat, 1 ≤ s → s ≤ 4 → df_X16_ends n (nI s) (nI t) X' = some (nI (cE (sR X.1 19) (sR X.1 20) s t), X') := fun s h1 h2 => by
    rw [← e19, ← e20]
    exact nb_ends n (by omega) (nI s) (nI t) X'
  by_cases n0 : N = 0
  · subst n0
    have e1 : df_X16_waits n (nI o) b (nI 0) X = some (nI 0, X) := by simp (disch := (first | assumption | decide | omega)) only [df_X16_waits, df_X16_waits_0, eq_self, Nat.reduceEqDiff, Nat.reduceLeDiff, nl_0, nl_1, nl_2, nl_4, nl_7, nl_8, nl_19, nl_20, nl_26, nl_48, nl_512, no_1, no_1024, pk_mul, nI_add, nm_ck, nI_clamp, nI_ltI, nI_leI, nI_eq, nb_b2, nb_b1, ↓nb_let, nm_z0, nm_z1, nb_II, nb_IR, nb_RI, nb_RR, nm_IL, nm_IQ, nm_RL, nm_RQ, nm_LI, nm_LR, nm_LL, nm_LQ, nm_QI, nm_QR, nm_QL, nm_QQ, nm_rr, nm_ii, nm_eqm, not_false_eq_true, pk_sub, nm_div, nm_shl, nm_shr, nm_ush, nm_or8, nm_or64, nm_or256, nm_m1, nm_m3, nm_m7, nm_m15, nm_m31, nm_m63, nm_m255, nm_m511, nm_m1023, nm_m2047, nm_m65535, Nat.reduceMod, Nat.reducePow, Nat.reduceAdd, Nat.reduceSub, Nat.reduceMul, nm_bo, nm_bi, nm_rc, nm_ic, nm_ri, nm_rl, nm_rq, nm_ql, nm_qi, nm_li, nm_us, nm_uu, nm_cp, nm_sa31, nm_sa7, nm_m127, nm_m2, nm_nz, nm_nzk, nm_eq32, nm_nzf, if_true, if_false, ↓reduceIte, if_pos, if_neg]
    have e2 : df_X16_waits n (nI o) b (nI 0) X' = some (nI 0, X') := by simp (disch := (first | assumption | decide | omega)) only [df_X16_waits, df_X16_waits_0, eq_self, Nat.reduceEqDiff, Nat.reduceLeDiff, nl_0, nl_1, nl_2, nl_4, nl_7, nl_8, nl_19, nl_20, nl_26, nl_48, nl_512, no_1, no_1024, pk_mul, nI_add, nm_ck, nI_clamp, nI_ltI, nI_leI, nI_eq, nb_b2, nb_b1, ↓nb_let, nm_z0, nm_z1, nb_II, nb_IR, nb_RI, nb_RR, nm_IL, nm_IQ, nm_RL, nm_RQ, nm_LI, nm_LR, nm_LL, nm_LQ, nm_QI, nm_QR, nm_QL, nm_QQ, nm_rr, nm_ii, nm_eqm, not_false_eq_true, pk_sub, nm_div, nm_shl, nm_shr, nm_ush, nm_or8, nm_or64, nm_or256, nm_m1, nm_m3, nm_m7, nm_m15, nm_m31, nm_m63, nm_m255, nm_m511, nm_m1023, nm_m2047, nm_m65535, Nat.reduceMod, Nat.reducePow, Nat.reduceAdd, Nat.reduceSub, Nat.reduceMul, nm_bo, nm_bi, nm_rc, nm_ic, nm_ri, nm_rl, nm_rq, nm_ql, nm_qi, nm_li, nm_us, nm_uu, nm_cp, nm_sa31, nm_sa7, nm_m127, nm_m2, nm_nz, nm_nzk, nm_eq32, nm_nzf, if_true, if_false, ↓reduceIte, if_pos, if_neg]
    rw [e1] at h
    cases h
    exact e2
  have one : ∀ (x : Int32), df_X16_waits n (nI o) b (nI N) X = some (x, X) → df_X16_waits n (nI o) b (nI N) X' = some (x, X') → df_X16_waits n (nI o) b (nI N) X' = some (v, X') := fun x e1 e2 => by
    rw [e1] at h
    cases h
    exact e2
  by_cases k4 : k = 4
  · subst k4
    rcases hb with z | z
    · exact one (nI 0) (by simp (disch := (first | assumption | decide | omega)) only [df_X16_waits, df_X16_waits_0, df_X16_waits_39, df_X16_waits_40, n0, et, ek, z, eq_self, Nat.reduceEqDiff, Nat.reduceLeDiff, nl_0, nl_1, nl_2, nl_4, nl_7, nl_8, nl_19, nl_20, nl_26, nl_48, nl_512, no_1, no_1024, pk_mul, nI_add, nm_ck, nI_clamp, nI_ltI, nI_leI, nI_eq, nb_b2, nb_b1, ↓nb_let, nm_z0, nm_z1, nb_II, nb_IR, nb_RI, nb_RR, nm_IL, nm_IQ, nm_RL, nm_RQ, nm_LI, nm_LR, nm_LL, nm_LQ, nm_QI, nm_QR, nm_QL, nm_QQ, nm_rr, nm_ii, nm_eqm, not_false_eq_true, pk_sub, nm_div, nm_shl, nm_shr, nm_ush, nm_or8, nm_or64, nm_or256, nm_m1, nm_m3, nm_m7, nm_m15, nm_m31, nm_m63, nm_m255, nm_m511, nm_m1023, nm_m2047, nm_m65535, Nat.reduceMod, Nat.reducePow, Nat.reduceAdd, Nat.reduceSub, Nat.reduceMul, nm_bo, nm_bi, nm_rc, nm_ic, nm_ri, nm_rl, nm_rq, nm_ql, nm_qi, nm_li, nm_us, nm_uu, nm_cp, nm_sa31, nm_sa7, nm_m127, nm_m2, nm_nz, nm_nzk, nm_eq32, nm_nzf, if_true, if_false, ↓reduceIte, if_pos, if_neg]) (by simp (disch := (first | assumption | decide | omega)) only [df_X16_waits, df_X16_waits_0, df_X16_waits_39, df_X16_waits_40, n0, et', ek', z, eq_self, Nat.reduceEqDiff, Nat.reduceLeDiff, nl_0, nl_1, nl_2, nl_4, nl_7, nl_8, nl_19, nl_20, nl_26, nl_48, nl_512, no_1, no_1024, pk_mul, nI_add, nm_ck, nI_clamp, nI_ltI, nI_leI, nI_eq, nb_b2, nb_b1, ↓nb_let, nm_z0, nm_z1, nb_II, nb_IR, nb_RI, nb_RR, nm_IL, nm_IQ, nm_RL, nm_RQ, nm_LI, nm_LR, nm_LL, nm_LQ, nm_QI, nm_QR, nm_QL, nm_QQ, nm_rr, nm_ii, nm_eqm, not_false_eq_true, pk_sub, nm_div, nm_shl, nm_shr, nm_ush, nm_or8, nm_or64, nm_or256, nm_m1, nm_m3, nm_m7, nm_m15, nm_m31, nm_m63, nm_m255, nm_m511, nm_m1023, nm_m2047, nm_m65535, Nat.reduceMod, Nat.reducePow, Nat.reduceAdd, Nat.reduceSub, Nat.reduceMul, nm_bo, nm_bi, nm_rc, nm_ic, nm_ri, nm_rl, nm_rq, nm_ql, nm_qi, nm_li, nm_us, nm_uu, nm_cp, nm_sa31, nm_sa7, nm_m127, nm_m2, nm_nz, nm_nzk, nm_eq32, nm_nzf, if_true, if_false, ↓reduceIte, if_pos, if_neg])
    · by_cases t0 : sI X.1 7 = nI 0
      · exact one (nI 1) (by simp (disch := (first | assumption | decide | omega)) only [df_X16_waits, df_X16_waits_0, df_X16_waits_39, df_X16_waits_40, n0, et, ek, z, b1, t0, eq_self, Nat.reduceEqDiff, Nat.reduceLeDiff, nl_0, nl_1, nl_2, nl_4, nl_7, nl_8, nl_19, nl_20, nl_26, nl_48, nl_512, no_1, no_1024, pk_mul, nI_add, nm_ck, nI_clamp, nI_ltI, nI_leI, nI_eq, nb_b2, nb_b1, ↓nb_let, nm_z0, nm_z1, nb_II, nb_IR, nb_RI, nb_RR, nm_IL, nm_IQ, nm_RL, nm_RQ, nm_LI, nm_LR, nm_LL, nm_LQ, nm_QI, nm_QR, nm_QL, nm_QQ, nm_rr, nm_ii, nm_eqm, not_false_eq_true, pk_sub, nm_div, nm_shl, nm_shr, nm_ush, nm_or8, nm_or64, nm_or256, nm_m1, nm_m3, nm_m7, nm_m15, nm_m31, nm_m63, nm_m255, nm_m511, nm_m1023, nm_m2047, nm_m65535, Nat.reduceMod, Nat.reducePow, Nat.reduceAdd, Nat.reduceSub, Nat.reduceMul, nm_bo, nm_bi, nm_rc, nm_ic, nm_ri, nm_rl, nm_rq, nm_ql, nm_qi, nm_li, nm_us, nm_uu, nm_cp, nm_sa31, nm_sa7, nm_m127, nm_m2, nm_nz, nm_nzk, nm_eq32, nm_nzf, if_true, if_false, ↓reduceIte, if_pos, if_neg]) (by simp (disch := (first | assumption | decide | omega)) only [df_X16_waits, df_X16_waits_0, df_X16_waits_39, df_X16_waits_40, n0, et', ek', z, b1, i7, t0, eq_self, Nat.reduceEqDiff, Nat.reduceLeDiff, nl_0, nl_1, nl_2, nl_4, nl_7, nl_8, nl_19, nl_20, nl_26, nl_48, nl_512, no_1, no_1024, pk_mul, nI_add, nm_ck, nI_clamp, nI_ltI, nI_leI, nI_eq, nb_b2, nb_b1, ↓nb_let, nm_z0, nm_z1, nb_II, nb_IR, nb_RI, nb_RR, nm_IL, nm_IQ, nm_RL, nm_RQ, nm_LI, nm_LR, nm_LL, nm_LQ, nm_QI, nm_QR, nm_QL, nm_QQ, nm_rr, nm_ii, nm_eqm, not_false_eq_true, pk_sub, nm_div, nm_shl, nm_shr, nm_ush, nm_or8, nm_or64, nm_or256, nm_m1, nm_m3, nm_m7, nm_m15, nm_m31, nm_m63, nm_m255, nm_m511, nm_m1023, nm_m2047, nm_m65535, Nat.reduceMod, Nat.reducePow, Nat.reduceAdd, Nat.reduceSub, Nat.reduceMul, nm_bo, nm_bi, nm_rc, nm_ic, nm_ri, nm_rl, nm_rq, nm_ql, nm_qi, nm_li, nm_us, nm_uu, nm_cp, nm_sa31, nm_sa7, nm_m127, nm_m2, nm_nz, nm_nzk, nm_eq32, nm_nzf, if_true, if_false, ↓reduceIte, if_pos, if_neg])
      · exact one (nI 0) (by simp (disch := (first | assumption | decide | omega)) only [df_X16_waits, df_X16_waits_0, df_X16_waits_39, df_X16_waits_40, n0, et, ek, z, b1, t0, eq_self, Nat.reduceEqDiff, Nat.reduceLeDiff, nl_0, nl_1, nl_2, nl_4, nl_7, nl_8, nl_19, nl_20, nl_26, nl_48, nl_512, no_1, no_1024, pk_mul, nI_add, nm_ck, nI_clamp, nI_ltI, nI_leI, nI_eq, nb_b2, nb_b1, ↓nb_let, nm_z0, nm_z1, nb_II, nb_IR, nb_RI, nb_RR, nm_IL, nm_IQ, nm_RL, nm_RQ, nm_LI, nm_LR, nm_LL, nm_LQ, nm_QI, nm_QR, nm_QL, nm_QQ, nm_rr, nm_ii, nm_eqm, not_false_eq_true, pk_sub, nm_div, nm_shl, nm_shr, nm_ush, nm_or8, nm_or64, nm_or256, nm_m1, nm_m3, nm_m7, nm_m15, nm_m31, nm_m63, nm_m255, nm_m511, nm_m1023, nm_m2047, nm_m65535, Nat.reduceMod, Nat.reducePow, Nat.reduceAdd, Nat.reduceSub, Nat.reduceMul, nm_bo, nm_bi, nm_rc, nm_ic, nm_ri, nm_rl, nm_rq, nm_ql, nm_qi, nm_li, nm_us, nm_uu, nm_cp, nm_sa31, nm_sa7, nm_m127, nm_m2, nm_nz, nm_nzk, nm_eq32, nm_nzf, if_true, if_false, ↓reduceIte, if_pos, if_neg]) (by simp (disch := (first | assumption | decide | omega)) only [df_X16_waits, df_X16_waits_0, df_X16_waits_39, df_X16_waits_40, n0, et', ek', z, b1, i7, t0, eq_self, Nat.reduceEqDiff, Nat.reduceLeDiff, nl_0, nl_1, nl_2, nl_4, nl_7, nl_8, nl_19, nl_20, nl_26, nl_48, nl_512, no_1, no_1024, pk_mul, nI_add, nm_ck, nI_clamp, nI_ltI, nI_leI, nI_eq, nb_b2, nb_b1, ↓nb_let, nm_z0, nm_z1, nb_II, nb_IR, nb_RI, nb_RR, nm_IL, nm_IQ, nm_RL, nm_RQ, nm_LI, nm_LR, nm_LL, nm_LQ, nm_QI, nm_QR, nm_QL, nm_QQ, nm_rr, nm_ii, nm_eqm, not_false_eq_true, pk_sub, nm_div, nm_shl, nm_shr, nm_ush, nm_or8, nm_or64, nm_or256, nm_m1, nm_m3, nm_m7, nm_m15, nm_m31, nm_m63, nm_m255, nm_m511, nm_m1023, nm_m2047, nm_m65535, Nat.reduceMod, Nat.reducePow, Nat.reduceAdd, Nat.reduceSub, Nat.reduceMul, nm_bo, nm_bi, nm_rc, nm_ic, nm_ri, nm_rl, nm_rq, nm_ql, nm_qi, nm_li, nm_us, nm_uu, nm_cp, nm_sa31, nm_sa7, nm_m127, nm_m2, nm_nz, nm_nzk, nm_eq32, nm_nzf, if_true, if_false, ↓reduceIte, if_pos, if_neg])
  by_cases k1 : k = 1
  · subst k1
    obtain ⟨t8, lL, eL⟩ := k8 (by omega)
    have eL' : sR X'.1 26 t = nI L := by rw [e26]; exact eL
    have en := en 2 (by omega) (by omega)
    have en' := en' 2 (by omega) (by omega)
    have cl := cE_le (sR X.1 19) (sR X.1 20) 2 t
    generalize cE (sR X.1 19) (sR X.1 20) 2 t = x at en en' cl
    have u5 : L < 2 ^ 31 := by omega
    have u6 : x < 2 ^ 31 := by omega
    rcases hb with z | z
    · exact one (nI 0) (by simp (disch := (first | assumption | decide | omega)) only [df_X16_waits, df_X16_waits_0, df_X16_waits_79, df_X16_waits_80, n0, et, ek, z, eq_self, Nat.reduceEqDiff, Nat.reduceLeDiff, nl_0, nl_1, nl_2, nl_4, nl_7, nl_8, nl_19, nl_20, nl_26, nl_48, nl_512, no_1, no_1024, pk_mul, nI_add, nm_ck, nI_clamp, nI_ltI, nI_leI, nI_eq, nb_b2, nb_b1, ↓nb_let, nm_z0, nm_z1, nb_II, nb_IR, nb_RI, nb_RR, nm_IL, nm_IQ, nm_RL, nm_RQ, nm_LI, nm_LR, nm_LL, nm_LQ, nm_QI, nm_QR, nm_QL, nm_QQ, nm_rr, nm_ii, nm_eqm, not_false_eq_true, pk_sub, nm_div, nm_shl, nm_shr, nm_ush, nm_or8, nm_or64, nm_or256, nm_m1, nm_m3, nm_m7, nm_m15, nm_m31, nm_m63, nm_m255, nm_m511, nm_m1023, nm_m2047, nm_m65535, Nat.reduceMod, Nat.reducePow, Nat.reduceAdd, Nat.reduceSub, Nat.reduceMul, nm_bo, nm_bi, nm_rc, nm_ic, nm_ri, nm_rl, nm_rq, nm_ql, nm_qi, nm_li, nm_us, nm_uu, nm_cp, nm_sa31, nm_sa7, nm_m127, nm_m2, nm_nz, nm_nzk, nm_eq32, nm_nzf, if_true, if_false, ↓reduceIte, if_pos, if_neg]) (by simp (disch := (first | assumption | decide | omega)) only [df_X16_waits, df_X16_waits_0, df_X16_waits_79, df_X16_waits_80, n0, et', ek', z, eq_self, Nat.reduceEqDiff, Nat.reduceLeDiff, nl_0, nl_1, nl_2, nl_4, nl_7, nl_8, nl_19, nl_20, nl_26, nl_48, nl_512, no_1, no_1024, pk_mul, nI_add, nm_ck, nI_clamp, nI_ltI, nI_leI, nI_eq, nb_b2, nb_b1, ↓nb_let, nm_z0, nm_z1, nb_II, nb_IR, nb_RI, nb_RR, nm_IL, nm_IQ, nm_RL, nm_RQ, nm_LI, nm_LR, nm_LL, nm_LQ, nm_QI, nm_QR, nm_QL, nm_QQ, nm_rr, nm_ii, nm_eqm, not_false_eq_true, pk_sub, nm_div, nm_shl, nm_shr, nm_ush, nm_or8, nm_or64, nm_or256, nm_m1, nm_m3, nm_m7, nm_m15, nm_m31, nm_m63, nm_m255, nm_m511, nm_m1023, nm_m2047, nm_m65535, Nat.reduceMod, Nat.reducePow, Nat.reduceAdd, Nat.reduceSub, Nat.reduceMul, nm_bo, nm_bi, nm_rc, nm_ic, nm_ri, nm_rl, nm_rq, nm_ql, nm_qi, nm_li, nm_us, nm_uu, nm_cp, nm_sa31, nm_sa7, nm_m127, nm_m2, nm_nz, nm_nzk, nm_eq32, nm_nzf, if_true, if_false, ↓reduceIte, if_pos, if_neg])
    · by_cases l0 : L = 0
      · by_cases x0 : x ≤ 0
        · exact one (nI 0) (by simp (disch := (first | assumption | decide | omega)) only [df_X16_waits, df_X16_waits_0, df_X16_waits_79, df_X16_waits_80, n0, et, ek, z, b1, eL, l0, en, x0, eq_self, Nat.reduceEqDiff, Nat.reduceLeDiff, nl_0, nl_1, nl_2, nl_4, nl_7, nl_8, nl_19, nl_20, nl_26, nl_48, nl_512, no_1, no_1024, pk_mul, nI_add, nm_ck, nI_clamp, nI_ltI, nI_leI, nI_eq, nb_b2, nb_b1, ↓nb_let, nm_z0, nm_z1, nb_II, nb_IR, nb_RI, nb_RR, nm_IL, nm_IQ, nm_RL, nm_RQ, nm_LI, nm_LR, nm_LL, nm_LQ, nm_QI, nm_QR, nm_QL, nm_QQ, nm_rr, nm_ii, nm_eqm, not_false_eq_true, pk_sub, nm_div, nm_shl, nm_shr, nm_ush, nm_or8, nm_or64, nm_or256, nm_m1, nm_m3, nm_m7, nm_m15, nm_m31, nm_m63, nm_m255, nm_m511, nm_m1023, nm_m2047, nm_m65535, Nat.reduceMod, Nat.reducePow, Nat.reduceAdd, Nat.reduceSub, Nat.reduceMul, nm_bo, nm_bi, nm_rc, nm_ic, nm_ri, nm_rl, nm_rq, nm_ql, nm_qi, nm_li, nm_us, nm_uu, nm_cp, nm_sa31, nm_sa7, nm_m127, nm_m2, nm_nz, nm_nzk, nm_eq32, nm_nzf, if_true, if_false, ↓reduceIte, if_pos, if_neg]) (by simp (disch := (first | assumption | decide | omega)) only [df_X16_waits, df_X16_waits_0, df_X16_waits_79, df_X16_waits_80, n0, et', ek', z, b1, eL', l0, en', x0, eq_self, Nat.reduceEqDiff, Nat.reduceLeDiff, nl_0, nl_1, nl_2, nl_4, nl_7, nl_8, nl_19, nl_20, nl_26, nl_48, nl_512, no_1, no_1024, pk_mul, nI_add, nm_ck, nI_clamp, nI_ltI, nI_leI, nI_eq, nb_b2, nb_b1, ↓nb_let, nm_z0, nm_z1, nb_II, nb_IR, nb_RI, nb_RR, nm_IL, nm_IQ, nm_RL, nm_RQ, nm_LI, nm_LR, nm_LL, nm_LQ, nm_QI, nm_QR, nm_QL, nm_QQ, nm_rr, nm_ii, nm_eqm, not_false_eq_true, pk_sub, nm_div, nm_shl, nm_shr, nm_ush, nm_or8, nm_or64, nm_or256, nm_m1, nm_m3, nm_m7, nm_m15, nm_m31, nm_m63, nm_m255, nm_m511, nm_m1023, nm_m2047, nm_m65535, Nat.reduceMod, Nat.reducePow, Nat.reduceAdd, Nat.reduceSub, Nat.reduceMul, nm_bo, nm_bi, nm_rc, nm_ic, nm_ri, nm_rl, nm_rq, nm_ql, nm_qi, nm_li, nm_us, nm_uu, nm_cp, nm_sa31, nm_sa7, nm_m127, nm_m2, nm_nz, nm_nzk, nm_eq32, nm_nzf, if_true, if_false, ↓reduceIte, if_pos, if_neg])
        · exact one (nI 1) (by simp (disch := (first | assumption | decide | omega)) only [df_X16_waits, df_X16_waits_0, df_X16_waits_79, df_X16_waits_80, n0, et, ek, z, b1, eL, l0, en, x0, eq_self, Nat.reduceEqDiff, Nat.reduceLeDiff, nl_0, nl_1, nl_2, nl_4, nl_7, nl_8, nl_19, nl_20, nl_26, nl_48, nl_512, no_1, no_1024, pk_mul, nI_add, nm_ck, nI_clamp, nI_ltI, nI_leI, nI_eq, nb_b2, nb_b1, ↓nb_let, nm_z0, nm_z1, nb_II, nb_IR, nb_RI, nb_RR, nm_IL, nm_IQ, nm_RL, nm_RQ, nm_LI, nm_LR, nm_LL, nm_LQ, nm_QI, nm_QR, nm_QL, nm_QQ, nm_rr, nm_ii, nm_eqm, not_false_eq_true, pk_sub, nm_div, nm_shl, nm_shr, nm_ush, nm_or8, nm_or64, nm_or256, nm_m1, nm_m3, nm_m7, nm_m15, nm_m31, nm_m63, nm_m255, nm_m511, nm_m1023, nm_m2047, nm_m65535, Nat.reduceMod, Nat.reducePow, Nat.reduceAdd, Nat.reduceSub, Nat.reduceMul, nm_bo, nm_bi, nm_rc, nm_ic, nm_ri, nm_rl, nm_rq, nm_ql, nm_qi, nm_li, nm_us, nm_uu, nm_cp, nm_sa31, nm_sa7, nm_m127, nm_m2, nm_nz, nm_nzk, nm_eq32, nm_nzf, if_true, if_false, ↓reduceIte, if_pos, if_neg]) (by simp (disch := (first | assumption | decide | omega)) only [df_X16_waits, df_X16_waits_0, df_X16_waits_79, df_X16_waits_80, n0, et', ek', z, b1, eL', l0, en', x0, eq_self, Nat.reduceEqDiff, Nat.reduceLeDiff, nl_0, nl_1, nl_2, nl_4, nl_7, nl_8, nl_19, nl_20, nl_26, nl_48, nl_512, no_1, no_1024, pk_mul, nI_add, nm_ck, nI_clamp, nI_ltI, nI_leI, nI_eq, nb_b2, nb_b1, ↓nb_let, nm_z0, nm_z1, nb_II, nb_IR, nb_RI, nb_RR, nm_IL, nm_IQ, nm_RL, nm_RQ, nm_LI, nm_LR, nm_LL, nm_LQ, nm_QI, nm_QR, nm_QL, nm_QQ, nm_rr, nm_ii, nm_eqm, not_false_eq_true, pk_sub, nm_div, nm_shl, nm_shr, nm_ush, nm_or8, nm_or64, nm_or256, nm_m1, nm_m3, nm_m7, nm_m15, nm_m31, nm_m63, nm_m255, nm_m511, nm_m1023, nm_m2047, nm_m65535, Nat.reduceMod, Nat.reducePow, Nat.reduceAdd, Nat.reduceSub, Nat.reduceMul, nm_bo, nm_bi, nm_rc, nm_ic, nm_ri, nm_rl, nm_rq, nm_ql, nm_qi, nm_li, nm_us, nm_uu, nm_cp, nm_sa31, nm_sa7, nm_m127, nm_m2, nm_nz, nm_nzk, nm_eq32, nm_nzf, if_true, if_false, ↓reduceIte, if_pos, if_neg])
      · exact one (nI 0) (by simp (disch := (first | assumption | decide | omega)) only [df_X16_waits, df_X16_waits_0, df_X16_waits_79, df_X16_waits_80, n0, et, ek, z, b1, eL, l0, eq_self, Nat.reduceEqDiff, Nat.reduceLeDiff, nl_0, nl_1, nl_2, nl_4, nl_7, nl_8, nl_19, nl_20, nl_26, nl_48, nl_512, no_1, no_1024, pk_mul, nI_add, nm_ck, nI_clamp, nI_ltI, nI_leI, nI_eq, nb_b2, nb_b1, ↓nb_let, nm_z0, nm_z1, nb_II, nb_IR, nb_RI, nb_RR, nm_IL, nm_IQ, nm_RL, nm_RQ, nm_LI, nm_LR, nm_LL, nm_LQ, nm_QI, nm_QR, nm_QL, nm_QQ, nm_rr, nm_ii, nm_eqm, not_false_eq_true, pk_sub, nm_div, nm_shl, nm_shr, nm_ush, nm_or8, nm_or64, nm_or256, nm_m1, nm_m3, nm_m7, nm_m15, nm_m31, nm_m63, nm_m255, nm_m511, nm_m1023, nm_m2047, nm_m65535, Nat.reduceMod, Nat.reducePow, Nat.reduceAdd, Nat.reduceSub, Nat.reduceMul, nm_bo, nm_bi, nm_rc, nm_ic, nm_ri, nm_rl, nm_rq, nm_ql, nm_qi, nm_li, nm_us, nm_uu, nm_cp, nm_sa31, nm_sa7, nm_m127, nm_m2, nm_nz, nm_nzk, nm_eq32, nm_nzf, if_true, if_false, ↓reduceIte, if_pos, if_neg]) (by simp (disch := (first | assumption | decide | omega)) only [df_X16_waits, df_X16_waits_0, df_X16_waits_79, df_X16_waits_80, n0, et', ek', z, b1, eL', l0, eq_self, Nat.reduceEqDiff, Nat.reduceLeDiff, nl_0, nl_1, nl_2, nl_4, nl_7, nl_8, nl_19, nl_20, nl_26, nl_48, nl_512, no_1, no_1024, pk_mul, nI_add, nm_ck, nI_clamp, nI_ltI, nI_leI, nI_eq, nb_b2, nb_b1, ↓nb_let, nm_z0, nm_z1, nb_II, nb_IR, nb_RI, nb_RR, nm_IL, nm_IQ, nm_RL, nm_RQ, nm_LI, nm_LR, nm_LL, nm_LQ, nm_QI, nm_QR, nm_QL, nm_QQ, nm_rr, nm_ii, nm_eqm, not_false_eq_true, pk_sub, nm_div, nm_shl, nm_shr, nm_ush, nm_or8, nm_or64, nm_or256, nm_m1, nm_m3, nm_m7, nm_m15, nm_m31, nm_m63, nm_m255, nm_m511, nm_m1023, nm_m2047, nm_m65535, Nat.reduceMod, Nat.reducePow, Nat.reduceAdd, Nat.reduceSub, Nat.reduceMul, nm_bo, nm_bi, nm_rc, nm_ic, nm_ri, nm_rl, nm_rq, nm_ql, nm_qi, nm_li, nm_us, nm_uu, nm_cp, nm_sa31, nm_sa7, nm_m127, nm_m2, nm_nz, nm_nzk, nm_eq32, nm_nzf, if_true, if_false, ↓reduceIte, if_pos, if_neg])
  by_cases k2 : k = 2
  · subst k2
    obtain ⟨t8, lL, eL⟩ := k8 (by omega)
    have eL' : sR X'.1 26 t = nI L := by rw [e26]; exact eL
    have en := en 1 (by omega) (by omega)
    have en' := en' 1 (by omega) (by omega)
    have cl := cE_le (sR X.1 19) (sR X.1 20) 1 t
    generalize cE (sR X.1 19) (sR X.1 20) 1 t = x at en en' cl
    have u5 : L + N < 2 ^ 31 := by omega
    have u6 : x < 2 ^ 31 := by omega
    rcases hb with z | z
    · by_cases x0 : x ≤ 0
      · exact one (nI 0) (by simp (disch := (first | assumption | decide | omega)) only [df_X16_waits, df_X16_waits_0, df_X16_waits_124, df_X16_waits_125, n0, et, ek, z, en, x0, eq_self, Nat.reduceEqDiff, Nat.reduceLeDiff, nl_0, nl_1, nl_2, nl_4, nl_7, nl_8, nl_19, nl_20, nl_26, nl_48, nl_512, no_1, no_1024, pk_mul, nI_add, nm_ck, nI_clamp, nI_ltI, nI_leI, nI_eq, nb_b2, nb_b1, ↓nb_let, nm_z0, nm_z1, nb_II, nb_IR, nb_RI, nb_RR, nm_IL, nm_IQ, nm_RL, nm_RQ, nm_LI, nm_LR, nm_LL, nm_LQ, nm_QI, nm_QR, nm_QL, nm_QQ, nm_rr, nm_ii, nm_eqm, not_false_eq_true, pk_sub, nm_div, nm_shl, nm_shr, nm_ush, nm_or8, nm_or64, nm_or256, nm_m1, nm_m3, nm_m7, nm_m15, nm_m31, nm_m63, nm_m255, nm_m511, nm_m1023, nm_m2047, nm_m65535, Nat.reduceMod, Nat.reducePow, Nat.reduceAdd, Nat.reduceSub, Nat.reduceMul, nm_bo, nm_bi, nm_rc, nm_ic, nm_ri, nm_rl, nm_rq, nm_ql, nm_qi, nm_li, nm_us, nm_uu, nm_cp, nm_sa31, nm_sa7, nm_m127, nm_m2, nm_nz, nm_nzk, nm_eq32, nm_nzf, if_true, if_false, ↓reduceIte, if_pos, if_neg]) (by simp (disch := (first | assumption | decide | omega)) only [df_X16_waits, df_X16_waits_0, df_X16_waits_124, df_X16_waits_125, n0, et', ek', z, en', x0, eq_self, Nat.reduceEqDiff, Nat.reduceLeDiff, nl_0, nl_1, nl_2, nl_4, nl_7, nl_8, nl_19, nl_20, nl_26, nl_48, nl_512, no_1, no_1024, pk_mul, nI_add, nm_ck, nI_clamp, nI_ltI, nI_leI, nI_eq, nb_b2, nb_b1, ↓nb_let, nm_z0, nm_z1, nb_II, nb_IR, nb_RI, nb_RR, nm_IL, nm_IQ, nm_RL, nm_RQ, nm_LI, nm_LR, nm_LL, nm_LQ, nm_QI, nm_QR, nm_QL, nm_QQ, nm_rr, nm_ii, nm_eqm, not_false_eq_true, pk_sub, nm_div, nm_shl, nm_shr, nm_ush, nm_or8, nm_or64, nm_or256, nm_m1, nm_m3, nm_m7, nm_m15, nm_m31, nm_m63, nm_m255, nm_m511, nm_m1023, nm_m2047, nm_m65535, Nat.reduceMod, Nat.reducePow, Nat.reduceAdd, Nat.reduceSub, Nat.reduceMul, nm_bo, nm_bi, nm_rc, nm_ic, nm_ri, nm_rl, nm_rq, nm_ql, nm_qi, nm_li, nm_us, nm_uu, nm_cp, nm_sa31, nm_sa7, nm_m127, nm_m2, nm_nz, nm_nzk, nm_eq32, nm_nzf, if_true, if_false, ↓reduceIte, if_pos, if_neg])
      · by_cases l0 : L + N ≤ 512
        · exact one (nI 0) (by simp (disch := (first | assumption | decide | omega)) only [df_X16_waits, df_X16_waits_0, df_X16_waits_124, df_X16_waits_125, n0, et, ek, z, en, x0, eL, l0, eq_self, Nat.reduceEqDiff, Nat.reduceLeDiff, nl_0, nl_1, nl_2, nl_4, nl_7, nl_8, nl_19, nl_20, nl_26, nl_48, nl_512, no_1, no_1024, pk_mul, nI_add, nm_ck, nI_clamp, nI_ltI, nI_leI, nI_eq, nb_b2, nb_b1, ↓nb_let, nm_z0, nm_z1, nb_II, nb_IR, nb_RI, nb_RR, nm_IL, nm_IQ, nm_RL, nm_RQ, nm_LI, nm_LR, nm_LL, nm_LQ, nm_QI, nm_QR, nm_QL, nm_QQ, nm_rr, nm_ii, nm_eqm, not_false_eq_true, pk_sub, nm_div, nm_shl, nm_shr, nm_ush, nm_or8, nm_or64, nm_or256, nm_m1, nm_m3, nm_m7, nm_m15, nm_m31, nm_m63, nm_m255, nm_m511, nm_m1023, nm_m2047, nm_m65535, Nat.reduceMod, Nat.reducePow, Nat.reduceAdd, Nat.reduceSub, Nat.reduceMul, nm_bo, nm_bi, nm_rc, nm_ic, nm_ri, nm_rl, nm_rq, nm_ql, nm_qi, nm_li, nm_us, nm_uu, nm_cp, nm_sa31, nm_sa7, nm_m127, nm_m2, nm_nz, nm_nzk, nm_eq32, nm_nzf, if_true, if_false, ↓reduceIte, if_pos, if_neg]) (by simp (disch := (first | assumption | decide | omega)) only [df_X16_waits, df_X16_waits_0, df_X16_waits_124, df_X16_waits_125, n0, et', ek', z, en', x0, eL', l0, eq_self, Nat.reduceEqDiff, Nat.reduceLeDiff, nl_0, nl_1, nl_2, nl_4, nl_7, nl_8, nl_19, nl_20, nl_26, nl_48, nl_512, no_1, no_1024, pk_mul, nI_add, nm_ck, nI_clamp, nI_ltI, nI_leI, nI_eq, nb_b2, nb_b1, ↓nb_let, nm_z0, nm_z1, nb_II, nb_IR, nb_RI, nb_RR, nm_IL, nm_IQ, nm_RL, nm_RQ, nm_LI, nm_LR, nm_LL, nm_LQ, nm_QI, nm_QR, nm_QL, nm_QQ, nm_rr, nm_ii, nm_eqm, not_false_eq_true, pk_sub, nm_div, nm_shl, nm_shr, nm_ush, nm_or8, nm_or64, nm_or256, nm_m1, nm_m3, nm_m7, nm_m15, nm_m31, nm_m63, nm_m255, nm_m511, nm_m1023, nm_m2047, nm_m65535, Nat.reduceMod, Nat.reducePow, Nat.reduceAdd, Nat.reduceSub, Nat.reduceMul, nm_bo, nm_bi, nm_rc, nm_ic, nm_ri, nm_rl, nm_rq, nm_ql, nm_qi, nm_li, nm_us, nm_uu, nm_cp, nm_sa31, nm_sa7, nm_m127, nm_m2, nm_nz, nm_nzk, nm_eq32, nm_nzf, if_true, if_false, ↓reduceIte, if_pos, if_neg])
        · exact one (nI 1) (by simp (disch := (first | assumption | decide | omega)) only [df_X16_waits, df_X16_waits_0, df_X16_waits_124, df_X16_waits_125, n0, et, ek, z, en, x0, eL, l0, eq_self, Nat.reduceEqDiff, Nat.reduceLeDiff, nl_0, nl_1, nl_2, nl_4, nl_7, nl_8, nl_19, nl_20, nl_26, nl_48, nl_512, no_1, no_1024, pk_mul, nI_add, nm_ck, nI_clamp, nI_ltI, nI_leI, nI_eq, nb_b2, nb_b1, ↓nb_let, nm_z0, nm_z1, nb_II, nb_IR, nb_RI, nb_RR, nm_IL, nm_IQ, nm_RL, nm_RQ, nm_LI, nm_LR, nm_LL, nm_LQ, nm_QI, nm_QR, nm_QL, nm_QQ, nm_rr, nm_ii, nm_eqm, not_false_eq_true, pk_sub, nm_div, nm_shl, nm_shr, nm_ush, nm_or8, nm_or64, nm_or256, nm_m1, nm_m3, nm_m7, nm_m15, nm_m31, nm_m63, nm_m255, nm_m511, nm_m1023, nm_m2047, nm_m65535, Nat.reduceMod, Nat.reducePow, Nat.reduceAdd, Nat.reduceSub, Nat.reduceMul, nm_bo, nm_bi, nm_rc, nm_ic, nm_ri, nm_rl, nm_rq, nm_ql, nm_qi, nm_li, nm_us, nm_uu, nm_cp, nm_sa31, nm_sa7, nm_m127, nm_m2, nm_nz, nm_nzk, nm_eq32, nm_nzf, if_true, if_false, ↓reduceIte, if_pos, if_neg]) (by simp (disch := (first | assumption | decide | omega)) only [df_X16_waits, df_X16_waits_0, df_X16_waits_124, df_X16_waits_125, n0, et', ek', z, en', x0, eL', l0, eq_self, Nat.reduceEqDiff, Nat.reduceLeDiff, nl_0, nl_1, nl_2, nl_4, nl_7, nl_8, nl_19, nl_20, nl_26, nl_48, nl_512, no_1, no_1024, pk_mul, nI_add, nm_ck, nI_clamp, nI_ltI, nI_leI, nI_eq, nb_b2, nb_b1, ↓nb_let, nm_z0, nm_z1, nb_II, nb_IR, nb_RI, nb_RR, nm_IL, nm_IQ, nm_RL, nm_RQ, nm_LI, nm_LR, nm_LL, nm_LQ, nm_QI, nm_QR, nm_QL, nm_QQ, nm_rr, nm_ii, nm_eqm, not_false_eq_true, pk_sub, nm_div, nm_shl, nm_shr, nm_ush, nm_or8, nm_or64, nm_or256, nm_m1, nm_m3, nm_m7, nm_m15, nm_m31, nm_m63, nm_m255, nm_m511, nm_m1023, nm_m2047, nm_m65535, Nat.reduceMod, Nat.reducePow, Nat.reduceAdd, Nat.reduceSub, Nat.reduceMul, nm_bo, nm_bi, nm_rc, nm_ic, nm_ri, nm_rl, nm_rq, nm_ql, nm_qi, nm_li, nm_us, nm_uu, nm_cp, nm_sa31, nm_sa7, nm_m127, nm_m2, nm_nz, nm_nzk, nm_eq32, nm_nzf, if_true, if_false, ↓reduceIte, if_pos, if_neg])
    · exact one (nI 0) (by simp (disch := (first | assumption | decide | omega)) only [df_X16_waits, df_X16_waits_0, df_X16_waits_124, df_X16_waits_125, n0, et, ek, z, b1, eq_self, Nat.reduceEqDiff, Nat.reduceLeDiff, nl_0, nl_1, nl_2, nl_4, nl_7, nl_8, nl_19, nl_20, nl_26, nl_48, nl_512, no_1, no_1024, pk_mul, nI_add, nm_ck, nI_clamp, nI_ltI, nI_leI, nI_eq, nb_b2, nb_b1, ↓nb_let, nm_z0, nm_z1, nb_II, nb_IR, nb_RI, nb_RR, nm_IL, nm_IQ, nm_RL, nm_RQ, nm_LI, nm_LR, nm_LL, nm_LQ, nm_QI, nm_QR, nm_QL, nm_QQ, nm_rr, nm_ii, nm_eqm, not_false_eq_true, pk_sub, nm_div, nm_shl, nm_shr, nm_ush, nm_or8, nm_or64, nm_or256, nm_m1, nm_m3, nm_m7, nm_m15, nm_m31, nm_m63, nm_m255, nm_m511, nm_m1023, nm_m2047, nm_m65535, Nat.reduceMod, Nat.reducePow, Nat.reduceAdd, Nat.reduceSub, Nat.reduceMul, nm_bo, nm_bi, nm_rc, nm_ic, nm_ri, nm_rl, nm_rq, nm_ql, nm_qi, nm_li, nm_us, nm_uu, nm_cp, nm_sa31, nm_sa7, nm_m127, nm_m2, nm_nz, nm_nzk, nm_eq32, nm_nzf, if_true, if_false, ↓reduceIte, if_pos, if_neg]) (by simp (disch := (first | assumption | decide | omega)) only [df_X16_waits, df_X16_waits_0, df_X16_waits_124, df_X16_waits_125, n0, et', ek', z, b1, eq_self, Nat.reduceEqDiff, Nat.reduceLeDiff, nl_0, nl_1, nl_2, nl_4, nl_7, nl_8, nl_19, nl_20, nl_26, nl_48, nl_512, no_1, no_1024, pk_mul, nI_add, nm_ck, nI_clamp, nI_ltI, nI_leI, nI_eq, nb_b2, nb_b1, ↓nb_let, nm_z0, nm_z1, nb_II, nb_IR, nb_RI, nb_RR, nm_IL, nm_IQ, nm_RL, nm_RQ, nm_LI, nm_LR, nm_LL, nm_LQ, nm_QI, nm_QR, nm_QL, nm_QQ, nm_rr, nm_ii, nm_eqm, not_false_eq_true, pk_sub, nm_div, nm_shl, nm_shr, nm_ush, nm_or8, nm_or64, nm_or256, nm_m1, nm_m3, nm_m7, nm_m15, nm_m31, nm_m63, nm_m255, nm_m511, nm_m1023, nm_m2047, nm_m65535, Nat.reduceMod, Nat.reducePow, Nat.reduceAdd, Nat.reduceSub, Nat.reduceMul, nm_bo, nm_bi, nm_rc, nm_ic, nm_ri, nm_rl, nm_rq, nm_ql, nm_qi, nm_li, nm_us, nm_uu, nm_cp, nm_sa31, nm_sa7, nm_m127, nm_m2, nm_nz, nm_nzk, nm_eq32, nm_nzf, if_true, if_false, ↓reduceIte, if_pos, if_neg])
  · exact one (nI 0) (by simp (disch := (first | assumption | decide | omega)) only [df_X16_waits, df_X16_waits_0, df_X16_waits_124, df_X16_waits_125, n0, et, ek, k4, k1, k2, eq_self, Nat.reduceEqDiff, Nat.reduceLeDiff, nl_0, nl_1, nl_2, nl_4, nl_7, nl_8, nl_19, nl_20, nl_26, nl_48, nl_512, no_1, no_1024, pk_mul, nI_add, nm_ck, nI_clamp, nI_ltI, nI_leI, nI_eq, nb_b2, nb_b1, ↓nb_let, nm_z0, nm_z1, nb_II, nb_IR, nb_RI, nb_RR, nm_IL, nm_IQ, nm_RL, nm_RQ, nm_LI, nm_LR, nm_LL, nm_LQ, nm_QI, nm_QR, nm_QL, nm_QQ, nm_rr, nm_ii, nm_eqm, not_false_eq_true, pk_sub, nm_div, nm_shl, nm_shr, nm_ush, nm_or8, nm_or64, nm_or256, nm_m1, nm_m3, nm_m7, nm_m15, nm_m31, nm_m63, nm_m255, nm_m511, nm_m1023, nm_m2047, nm_m65535, Nat.reduceMod, Nat.reducePow, Nat.reduceAdd, Nat.reduceSub, Nat.reduceMul, nm_bo, nm_bi, nm_rc, nm_ic, nm_ri, nm_rl, nm_rq, nm_ql, nm_qi, nm_li, nm_us, nm_uu, nm_cp, nm_sa31, nm_sa7, nm_m127, nm_m2, nm_nz, nm_nzk, nm_eq32, nm_nzf, if_true, if_false, ↓reduceIte, if_pos, if_neg]) (by simp (disch := (first | assumption | decide | omega)) only [df_X16_waits, df_X16_waits_0, df_X16_waits_124, df_X16_waits_125, n0, et', ek', k4, k1, k2, eq_self, Nat.reduceEqDiff, Nat.reduceLeDiff, nl_0, nl_1, nl_2, nl_4, nl_7, nl_8, nl_19, nl_20, nl_26, nl_48, nl_512, no_1, no_1024, pk_mul, nI_add, nm_ck, nI_clamp, nI_ltI, nI_leI, nI_eq, nb_b2, nb_b1, ↓nb_let, nm_z0, nm_z1, nb_II, nb_IR, nb_RI, nb_RR, nm_IL, nm_IQ, nm_RL, nm_RQ, nm_LI, nm_LR, nm_LL, nm_LQ, nm_QI, nm_QR, nm_QL, nm_QQ, nm_rr, nm_ii, nm_eqm, not_false_eq_true, pk_sub, nm_div, nm_shl, nm_shr, nm_ush, nm_or8, nm_or64, nm_or256, nm_m1, nm_m3, nm_m7, nm_m15, nm_m31, nm_m63, nm_m255, nm_m511, nm_m1023, nm_m2047, nm_m65535, Nat.reduceMod, Nat.reducePow, Nat.reduceAdd, Nat.reduceSub, Nat.reduceMul, nm_bo, nm_bi, nm_rc, nm_ic, nm_ri, nm_rl, nm_rq, nm_ql, nm_qi, nm_li, nm_us, nm_uu, nm_cp, nm_sa31, nm_sa7, nm_m127, nm_m2, nm_nz, nm_nzk, nm_eq32, nm_nzf, if_true, if_false, ↓reduceIte, if_pos, if_neg])
theorem ch_c {X X' : St × St} (st : ∀ r : Nat, r < 16 → sR X'.1 1 r = sR X.1 1 r ∨ (sR X.1 1 r = nI 2 ∧ sR X'.1 1 r = nI 1)) (e2 : sR X'.1 2 = sR X.1 2) (q : Nat) (any : Bool) : fN (chP X' q any) 0 16 = fN (chP X q any) 0 16 := fN_c 16 0 (fun r _ hr => by
  unfold chP
  rw [e2]
  rcases st r (by omega) with e | ⟨e, e'⟩
  · rw [e]
  · rw [e, e', decide_eq_true (show ¬ (nI 1 : Int32) = nI 0 by decide), decide_eq_true (show ¬ (nI 2 : Int32) = nI 0 by decide), decide_eq_false (show ¬ (nI 1 : Int32) = nI 3 by decide), decide_eq_false (show ¬ (nI 2 : Int32) = nI 3 by decide)])
theorem ws_3 (n : Nat) {X : St × St} {q f1 f2 : Nat} (hq : q < 16) (w1 : sR X.1 7 q = nI 3) (c2 : df_X16_child n (nI q) (nI 0) X = some (cv f1, X)) (d2 : df_X16_child n (nI q) (nI 1) X = some (cv f2, X)) : df_X16_waitsStill n (nI q) X = some (if f1 < 16 ∧ ¬ f2 < 16 then nI 1 else nI 0, X) := by
  have u4 : 32 * q + 10 < 512 := by omega
  have u5 : 32 * q + 12 < 512 := by omega
  have u6 : q < 2 ^ 31 := by omega
  by_cases x1 : f1 < 16
  · have y2 : f1 < 2 ^ 31 := by omega
    rw [cv_0 x1] at c2
    by_cases x2 : f2 < 16
    · have y4 : f2 < 2 ^ 31 := by omega
      rw [cv_0 x2] at d2
      rw [if_neg (fun z => z.2 x2)]
      simp (disch := (first | assumption | decide | omega)) only [df_X16_waitsStill_101, df_X16_waitsStill_100, df_X16_waitsStill_157, df_X16_waitsStill_170, df_X16_waitsStill_0, df_X16_waitsStill, w1, c2, d2, eq_self, Nat.reduceEqDiff, Nat.reduceLeDiff, nl_0, nl_1, nl_3, nl_5, nl_6, nl_7, nl_9, nl_10, nl_12, nl_14, nl_16, nl_19, nl_32, nl_256, nl_512, no_1, no_1024, pk_mul, nI_add, nm_ck, nI_clamp, nI_ltI, nI_leI, nI_eq, nb_b2, nb_b1, ↓nb_let, nm_z0, nm_z1, nb_II, nb_IR, nb_RI, nb_RR, nm_IL, nm_IQ, nm_RL, nm_RQ, nm_LI, nm_LR, nm_LL, nm_LQ, nm_QI, nm_QR, nm_QL, nm_QQ, nm_rr, nm_ii, nm_eqm, not_false_eq_true, pk_sub, nm_div, nm_shl, nm_shr, nm_ush, nm_or8, nm_or64, nm_or256, nm_m1, nm_m3, nm_m7, nm_m15, nm_m31, nm_m63, nm_m255, nm_m511, nm_m1023, nm_m2047, nm_m65535, Nat.reduceMod, Nat.reducePow, Nat.reduceAdd, Nat.reduceSub, Nat.reduceMul, nm_bo, nm_bi, nm_rc, nm_ic, nm_ri, nm_rl, nm_rq, nm_ql, nm_qi, nm_li, nm_us, nm_uu, nm_cp, nm_sa31, nm_sa7, nm_m127, nm_m2, nm_nz, nm_nzk, nm_eq32, nm_nzf, if_true, if_false, ↓reduceIte, if_pos, if_neg]
    · rw [cv_1 x2] at d2
      rw [if_pos ⟨x1, x2⟩]
      simp (disch := (first | assumption | decide | omega)) only [df_X16_waitsStill_101, df_X16_waitsStill_100, df_X16_waitsStill_157, df_X16_waitsStill_170, df_X16_waitsStill_0, df_X16_waitsStill, w1, c2, d2, eq_self, Nat.reduceEqDiff, Nat.reduceLeDiff, nl_0, nl_1, nl_3, nl_5, nl_6, nl_7, nl_9, nl_10, nl_12, nl_14, nl_16, nl_19, nl_32, nl_256, nl_512, no_1, no_1024, pk_mul, nI_add, nm_ck, nI_clamp, nI_ltI, nI_leI, nI_eq, nb_b2, nb_b1, ↓nb_let, nm_z0, nm_z1, nb_II, nb_IR, nb_RI, nb_RR, nm_IL, nm_IQ, nm_RL, nm_RQ, nm_LI, nm_LR, nm_LL, nm_LQ, nm_QI, nm_QR, nm_QL, nm_QQ, nm_rr, nm_ii, nm_eqm, not_false_eq_true, pk_sub, nm_div, nm_shl, nm_shr, nm_ush, nm_or8, nm_or64, nm_or256, nm_m1, nm_m3, nm_m7, nm_m15, nm_m31, nm_m63, nm_m255, nm_m511, nm_m1023, nm_m2047, nm_m65535, Nat.reduceMod, Nat.reducePow, Nat.reduceAdd, Nat.reduceSub, Nat.reduceMul, nm_bo, nm_bi, nm_rc, nm_ic, nm_ri, nm_rl, nm_rq, nm_ql, nm_qi, nm_li, nm_us, nm_uu, nm_cp, nm_sa31, nm_sa7, nm_m127, nm_m2, nm_nz, nm_nzk, nm_eq32, nm_nzf, if_true, if_false, ↓reduceIte, if_pos, if_neg]
  · rw [cv_1 x1] at c2
    rw [if_neg (fun z => x1 z.1)]
    simp (disch := (first | assumption | decide | omega)) only [df_X16_waitsStill_101, df_X16_waitsStill_100, df_X16_waitsStill_157, df_X16_waitsStill_170, df_X16_waitsStill_0, df_X16_waitsStill, w1, c2, eq_self, Nat.reduceEqDiff, Nat.reduceLeDiff, nl_0, nl_1, nl_3, nl_5, nl_6, nl_7, nl_9, nl_10, nl_12, nl_14, nl_16, nl_19, nl_32, nl_256, nl_512, no_1, no_1024, pk_mul, nI_add, nm_ck, nI_clamp, nI_ltI, nI_leI, nI_eq, nb_b2, nb_b1, ↓nb_let, nm_z0, nm_z1, nb_II, nb_IR, nb_RI, nb_RR, nm_IL, nm_IQ, nm_RL, nm_RQ, nm_LI, nm_LR, nm_LL, nm_LQ, nm_QI, nm_QR, nm_QL, nm_QQ, nm_rr, nm_ii, nm_eqm, not_false_eq_true, pk_sub, nm_div, nm_shl, nm_shr, nm_ush, nm_or8, nm_or64, nm_or256, nm_m1, nm_m3, nm_m7, nm_m15, nm_m31, nm_m63, nm_m255, nm_m511, nm_m1023, nm_m2047, nm_m65535, Nat.reduceMod, Nat.reducePow, Nat.reduceAdd, Nat.reduceSub, Nat.reduceMul, nm_bo, nm_bi, nm_rc, nm_ic, nm_ri, nm_rl, nm_rq, nm_ql, nm_qi, nm_li, nm_us, nm_uu, nm_cp, nm_sa31, nm_sa7, nm_m127, nm_m2, nm_nz, nm_nzk, nm_eq32, nm_nzf, if_true, if_false, ↓reduceIte, if_pos, if_neg]
/-- who waits still: others that wake change nothing -/
theorem ws_c (n : Nat) (hn : 1024 < n) {B : Nat} {M M' X X' : St × St} (h : rM B M X) (h' : rM B M' X') {q : Nat} (hq : q < 16) (st : ∀ r : Nat, r < 16 → sR X'.1 1 r = sR X.1 1 r ∨ (sR X.1 1 r = nI 2 ∧ sR X'.1 1 r = nI 1)) (h2 : sR X.1 1 q = nI 2) (e2 : sR X'.1 2 = sR X.1 2) (e7 : sR X'.1 7 q = sR X.1 7 q) (e9 : sR X'.1 9 = sR X.1 9) (e14 : sR X'.1 14 = sR X.1 14) (e19 : sR X'.1 19 = sR X.1 19) (e20 : sR X'.1 20 = sR X.1 20) (e26 : sR X'.1 26 = sR X.1 26) (i5 : sI X'.1 5 = sI X.1 5) (i7 : sI X'.1 7 = sI X.1 7) (l1 : sL X'.1 1 = sL X.1 1) (q0 : sQ X'.1 0 = sQ X.1 0) (hw : df_X16_waitsStill n (nI q) X = some (nI 1, X)) : df_X16_waitsStill n (nI q) X' = some (nI 1, X') := by
  have hst := rM_st h
  have hpa := rM_pa h
  have hst' := rM_st h'
  have hpa' := rM_pa h'
  obtain ⟨m1, m2, m3, m4, m5, m6, m7⟩ := h
  obtain ⟨t, c, w, b, e, ht, hc, hw', hb, he, a1, a2, a3, a4, a5, a6, a7, a8, a9, a10, a11, a12, a13, a14, a15, a16, a17, a18, a19, a20, a21⟩ := m3 q hq
  have k2 : t = 2 := nm_inI (by omega) (by omega) (a2.symm.trans h2)
  subst k2
  obtain ⟨w1, w2⟩ := a20 rfl
  have n01 : ¬ (nI 0 : Int32) = nI 1 := by decide
  rcases w2 with v | ⟨v, d, o, N, v1, v2, v3, v4, v5, v6⟩ | v | v
  · rw [v] at w1
    have c2 := (nk_child n hn hst hpa q true).2
    have d2 := (nk_child n hn hst hpa q false).2
    have c2' := (nk_child n hn hst' hpa' q true).2
    have d2' := (nk_child n hn hst' hpa' q false).2
    rw [ch_c st e2] at c2' d2'
    have x := ws_3 n hq w1 c2 d2
    have x' := ws_3 n hq (e7.trans w1) c2' d2'
    rw [hw] at x
    by_cases z : fN (chP X q true) 0 16 < 16 ∧ ¬ fN (chP X q false) 0 16 < 16
    · rw [if_pos z] at x'; exact x'
    · rw [if_neg z] at x
      cases x
  · have nk : ¬ sR X.1 19 o = nI 0 := by
      rcases nk_opening n m2 hq (nI d) with ⟨_, _, z⟩ | ⟨d', o', y1, y2, y3, y4, y5, _⟩
      · exact absurd (v5.symm.trans (z d v1 rfl)) (nk_ne (by omega))
      · have e1 : d = d' := nm_inI (by omega) (by omega) y3
        subst e1
        have e2 : o = o' := nm_inI (by omega) (by omega) (v5.symm.trans y4)
        rw [e2]; exact y5
    rcases m2.2.1 o v2 with ⟨z1, _⟩ | ⟨k, tt, y1, y2, y3, y4, y5, y6, y7, y8, y9, y10, _⟩
    · exact absurd z1 nk
    obtain ⟨L, k8⟩ : ∃ L : Nat, k ≤ 2 → tt < 8 ∧ L ≤ 512 ∧ sR X.1 26 tt = nI L := by
      by_cases c : k ≤ 2
      · have t8 := y9 c
        have e23 : sR X.1 23 tt = nI 1 := by
          have x1 : 0 < cE (sR X.1 19) (sR X.1 20) k tt := cN_p (P := fun j => decide (sR X.1 19 j = nI k ∧ sR X.1 20 j = nI tt)) (i := o) (decide_eq_true ⟨y4, y7⟩) v2
          rw [(m2.2.2.1 tt t8).2.2]
          have : k = 1 ∨ k = 2 := by omega
          rcases this with e | e
          · rw [e] at x1
            rw [decide_eq_true (by omega)]; rfl
          · rw [e] at x1
            rw [decide_eq_true (by omega)]; rfl
        obtain ⟨L, l1, l2, l3⟩ := rTT_l m7 tt t8 e23
        exact ⟨L, fun _ => ⟨t8, l1, l3⟩⟩
      · exact ⟨0, fun z => absurd z c⟩
    have v4' : sR X'.1 9 (32 * q + 10) = nI d := by rw [e9]; exact v4
    have v6' : sR X'.1 9 (32 * q + 12) = nI N := by rw [e9]; exact v6
    have v5' : sR X'.1 14 (q * 16 + d) = nI o := by rw [e14]; exact v5
    rcases v with v | v
    · obtain ⟨bb, x1, x2⟩ := nk_readWaits n hn m2 (rTT_l m7) (rTT_t m7) v2 nk v3
      rw [v] at w1
      have x3 := mw_6R n hq v1 bb w1 v4 v6 v5 x2
      rw [hw] at x3
      cases bb with
      | false => cases x3
      | true => exact mw_6R n hq v1 true (e7.trans w1) v4' v6' v5' (wa_c n hn e19 e20 e26 i7 v2 v3 y7 y10 y2 y4 k8 (Or.inr rfl) x2)
    · obtain ⟨bb, x1, x2⟩ := nk_writeWaits n hn m2 (rTT_l m7) v2 nk v3
      rw [v] at w1
      have x3 := mw_7R n hq v1 bb w1 v4 v6 v5 x2
      rw [hw] at x3
      cases bb with
      | false => cases x3
      | true => exact mw_7R n hq v1 true (e7.trans w1) v4' v6' v5' (wa_c n hn e19 e20 e26 i7 v2 v3 y7 y10 y2 y4 k8 (Or.inl rfl) x2)
  · rw [v] at w1
    have x := mw_19R n hq w1 rfl rfl
    have x' := mw_19R n hq (e7.trans w1) l1 (congrFun q0 q)
    rw [hw] at x
    have z : bI (decide (¬ nI 0 ≤ lg_cmp (sL X.1 1) (sQ X.1 0 q))) = nI 1 := by
      injection x with x
      injection x with x _
      exact x.symm
    rw [z] at x'
    exact x'
  · rw [v] at w1
    obtain ⟨⟨k, hk, x1, x2, _⟩, _⟩ := m6
    have x := mw_21R n hq hk w1 x2
    have x' := mw_21R n hq hk (e7.trans w1) (i5.trans x2)
    rw [hw] at x
    have z : bI (decide (k = 0)) = nI 1 := by
      injection x with x
      injection x with x _
      exact x.symm
    rw [z] at x'
    exact x'
theorem tk_c (n : Nat) (hn : 1024 < n) {B : Nat} {M X X' : St × St} (h : rM B M X) {q : Nat} (hq : q < 16) (e4 : sR X'.1 4 q = sR X.1 4 q) (e8 : sR X'.1 8 q = sR X.1 8 q) (hw : df_X16_takeable n (nI q) X = some (nI 0, X)) : df_X16_takeable n (nI q) X' = some (nI 0, X') := by
  obtain ⟨t, c, w, b, e, ht, hc, hw', hb, he, a1, a2, a3, a4, a5, a6, a7, a8, a9, a10, a11, _⟩ := h.2.2.1 q hq
  obtain ⟨_, x1, _⟩ := nk_takeable n hn hq hc hw' a8 a10 a9 a11
  obtain ⟨_, x2, _⟩ := nk_takeable n hn hq hc hw' a8 a10 (e4.trans a9) (e8.trans a11)
  rw [hw] at x1
  have z : nI (tk (2 * c) w) = nI 0 := by
    injection x1 with x
    injection x with x _
    exact x.symm
  rw [z] at x2
  exact x2
/-- a machine that has settled -/
def sD (n : Nat) (X : St × St) : Prop := (∀ q : Nat, q < 16 → sR X.1 1 q = nI 2 → df_X16_waitsStill n (nI q) X = some (nI 1, X) ∧ df_X16_takeable n (nI q) X = some (nI 0, X)) ∧ ((sI X.1 1 = -nI 1 ∧ ∀ q : Nat, q < 16 → ¬ sR X.1 1 q = nI 1) ∨ ∃ a : Nat, a < 16 ∧ sI X.1 1 = nI a ∧ sR X.1 1 a = nI 1)
/-- settling settles -/
theorem nk_settle2 (n : Nat) (hn : 1024 < n) {B : Nat} {K : St × (St × (St × St))} {X : St × St} (h : rM B K.2.2 X) : ∃ M' X' : St × St, df_X5_settle n K = some (K.1, (K.2.1, M')) ∧ df_X16_settle n X = some X' ∧ rM B M' X' ∧ kX X X' ∧ kM K.2.2 M' ∧ sD n X' := by
  obtain ⟨n1, rfl⟩ : ∃ n1 : Nat, n = n1 + 1 := ⟨n - 1, by omega⟩
  obtain ⟨m, s, t, ⟨i1, i2, i3, i4⟩, e1, e2⟩ := nm_l2 (fun m k s => df_X5_settle_2 (n1 + 1) (m + 1) (nI k) (K.1, (K.2.1, s))) (fun m k t => df_X16_settle_2 (n1 + 1) (m + 1) (nI k) t) (fun k s t => rM B s t ∧ kX X t ∧ kM K.2.2 s ∧ ∀ q : Nat, q < k → sR t.1 1 q = nI 2 → df_X16_waitsStill (n1 + 1) (nI q) t = some (nI 1, t) ∧ df_X16_takeable (n1 + 1) (nI q) t = some (nI 0, t)) 16 n1 (by omega) (fun k m s t hk ⟨i1, i2, i3, i4⟩ => by
    obtain ⟨M', X', f1, f2, f3, f4, f5, f6⟩ := nk_settleT (n1 + 1) hn (K := (K.1, (K.2.1, s))) i1 hk
    refine ⟨M', X', ⟨f2, kX_t i2 f3, kM_t i3 f4, fun q hq e => ?_⟩, (f1 m).1, (f1 (m + 1)).2⟩
    rcases f5 with ⟨z1, z2⟩ | ⟨z1, z2, z3⟩
    · subst z2
      by_cases c : q = k
      · rw [c] at e ⊢; exact f6 e
      · exact i4 q (by omega) e
    · by_cases c : q = k
      · exfalso
        rw [c, z3] at e
        have e : upd (sR t.1 1) k (nI 1) k = nI 2 := e
        rw [nm_us] at e
        exact absurd e (by decide)
      · have e1 : sR t.1 1 q = nI 2 := by
          rw [z3] at e
          have e : upd (sR t.1 1) k (nI 1) q = nI 2 := e
          rw [nm_un c] at e
          exact e
        obtain ⟨y1, y2⟩ := i4 q (by omega) e1
        have r1 : ∀ r : Nat, sR X'.1 1 r = upd (sR t.1 1) k (nI 1) r := fun r => by rw [z3]; rfl
        have r7 : sR X'.1 7 q = sR t.1 7 q := by
          rw [z3]
          show upd (sR t.1 7) k (-nI 1) q = _
          rw [nm_un c]
        refine ⟨ws_c (n1 + 1) hn i1 f2 (show q < 16 by omega) (fun r hr => ?_) e1 (by rw [z3]; rfl) r7 (by rw [z3]; rfl) (by rw [z3]; rfl) (by rw [z3]; rfl) (by rw [z3]; rfl) (by rw [z3]; rfl) (by rw [z3]; rfl) (by rw [z3]; rfl) (by rw [z3]; rfl) (by rw [z3]; rfl) y1, tk_c (n1 + 1) hn i1 (show q < 16 by omega) (by rw [z3]; rfl) (by rw [z3]; rfl) y2⟩
        rw [r1]
        by_cases d : r = k
        · rw [d, nm_us]; exact Or.inr ⟨z1, rfl⟩
        · rw [nm_un d]; exact Or.inl rfl) K.2.2 X ⟨h, kX_r X, rfl, fun q hq => by omega⟩
  obtain ⟨M', X', f1, f2, f3, f4, f5, f6⟩ := nk_chooseB (n1 + 1) hn i1
  refine ⟨M', X', ?_, ?_, f3, kX_t i2 f4, kM_t i3 f5, ?_⟩
  · refine Eq.trans (b := df_X5_settle_2 (n1 + 1) (n1 + 1) (nI 0) K) rfl ?_
    refine Eq.trans e1 ?_
    show df_X5_settle_2 (n1 + 1) (m + 1 + 1) (nI 16) _ = _
    rw [show df_X5_settle_2 (n1 + 1) (m + 1 + 1) = dF_X5_settle_2 (n1 + 1) (df_X5_settle_2 (n1 + 1) (m + 1)) from rfl]
    simp (disch := (first | assumption | decide | omega)) only [dF_X5_settle_2, df_X5_settle_80, f1, eq_self, Nat.reduceEqDiff, Nat.reduceLeDiff, nl_0, nl_2, nl_16, no_1, no_1024, pk_mul, nI_add, nm_ck, nI_clamp, nI_ltI, nI_leI, nI_eq, nb_b2, nb_b1, ↓nb_let, nm_z0, nm_z1, nb_II, nb_IR, nb_RI, nb_RR, nm_IL, nm_IQ, nm_RL, nm_RQ, nm_LI, nm_LR, nm_LL, nm_LQ, nm_QI, nm_QR, nm_QL, nm_QQ, nm_rr, nm_ii, nm_eqm, not_false_eq_true, pk_sub, nm_div, nm_shl, nm_shr, nm_ush, nm_or8, nm_or64, nm_or256, nm_m1, nm_m3, nm_m7, nm_m15, nm_m31, nm_m63, nm_m255, nm_m511, nm_m1023, nm_m2047, nm_m65535, Nat.reduceMod, Nat.reducePow, Nat.reduceAdd, Nat.reduceSub, Nat.reduceMul, nm_bo, nm_bi, nm_rc, nm_ic, nm_ri, nm_rl, nm_rq, nm_ql, nm_qi, nm_li, nm_us, nm_uu, nm_cp, nm_sa31, nm_sa7, nm_m127, nm_m2, nm_nz, nm_nzk, nm_eq32, nm_nzf, if_true, if_false, ↓reduceIte, if_pos, if_neg]
  · refine Eq.trans (b := df_X16_settle_2 (n1 + 1) (n1 + 1) (nI 0) X) rfl ?_
    exact Eq.trans e2 (f2 _)
  · rcases f6 with ⟨_, z2, a, ha, z3, z4⟩ | ⟨_, v, l, z2, z3, z4, z5⟩
    · subst z2
      exact ⟨i4, Or.inr ⟨a, ha, z3, z4⟩⟩
    · have ev : sI X'.1 1 = v := by rw [z2]; rfl
      have er : sR X'.1 1 = sR t.1 1 := by rw [z2]; rfl
      refine ⟨fun q hq e => ?_, ?_⟩
      · rw [er] at e
        obtain ⟨y1, y2⟩ := i4 q hq e
        exact ⟨ws_c (n1 + 1) hn i1 f3 hq (fun r hr => Or.inl (by rw [er])) e (by rw [z2]; rfl) (by rw [z2]; rfl) (by rw [z2]; rfl) (by rw [z2]; rfl) (by rw [z2]; rfl) (by rw [z2]; rfl) (by rw [z2]; rfl) (by rw [z2]; rfl) (by rw [z2]; rfl) (by rw [z2]; rfl) (by rw [z2]; rfl) y1, tk_c (n1 + 1) hn i1 hq (by rw [z2]; rfl) (by rw [z2]; rfl) y2⟩
      · have := f3.2.2.2.2.1.2.1
        rw [ev] at this
        rw [ev, er]
        rcases this with y | ⟨a, ha, y⟩
        · exact Or.inl ⟨y, (z4 y).1⟩
        · exact Or.inr ⟨a, ha, y, z5 a ha y⟩

/-- a trap, in both: the handler is entered, or the process ends -/
theorem nk_trap (n : Nat) (hn : 1024 < n) {B p t : Nat} {s : St × Rw × (St × (St × (St × (St)))) × (St) × (St) × (Nat → St) × (Nat → St) × (Nat → St × (St))} {X : St × St} (h : rM B s.2.2.1.2.2 X) (hp : p < 16) (h3 : sI X.1 12 = nI p) (h1 : sR X.1 1 p = nI 1) (t0 : ¬ t = 0) (ht : t < 16) : ∃ M' X' : St × St, df_X5_tick_115 n (nI p) (nI t) s = df_X5_tick_144 n (s.1, (s.2.1, ((s.2.2.1.1, (s.2.2.1.2.1, M')), s.2.2.2))) ∧ df_X16_trap n (nI t) X = some X' ∧ rM B M' X' ∧ kX X X' ∧ kM s.2.2.1.2.2 M' := by
  obtain ⟨tt, c', w, b', e, htt, hc', hw, hb, he, a1, a2, a3, a4, a5, a6, a7, a8, a9, a10, a11, a12, a13, a14, a15, a16, a17, a18, _⟩ := h.2.2.1 p hp
  have t1 : tt = 1 := nm_inI (by omega) (by omega) (a2.symm.trans h1)
  have eh := (a18 (Or.inl t1)).1 t ht
  have u1 : p * 7 + 4 < 112 := by omega
  have u2 : p * 7 + 4 < 2 ^ 31 := by omega
  have u3 : 16 * p + t < 256 := by omega
  have u4 : 16 * p + t < 2 ^ 31 := by omega
  have u5 : p < 2 ^ 31 := by omega
  have u6 : p * 16 + t < 256 := by omega
  have u7 : p * 16 + t < 2 ^ 31 := by omega
  have u8 : t < 2 ^ 31 := by omega
  have u9 : w < 2 ^ 31 := by omega
  have c0 : ∀ x : Option (St × St), nd_b1 x (fun s => some s) = x := fun x => by cases x <;> rfl
  obtain ⟨MF, XF, g1, g2, g3, g4, g5⟩ := nk_finish n hn h hp (c := 128 + t) (by omega) h1
  generalize hT : df_X5_tick_144 n = T
  by_cases hz : sR X.1 13 (16 * p + t) = nI 0
  · have hz' := eh.trans hz
    refine ⟨MF, XF, ?_, ?_, g3, g4, g5⟩
    · have tk : ∀ v : Int32, df_X5_take n (nI p) (nI t) v s.2.2.1 = some (s.2.2.1.1, (s.2.2.1.2.1, MF)) := fun v => by
        simp (disch := (first | assumption | decide | omega)) only [df_X5_take, df_X5_take_0, df_X5_take_25, hz', g1, eq_self, Nat.reduceEqDiff, Nat.reduceLeDiff, nl_0, nl_1, nl_3, nl_4, nl_5, nl_6, nl_7, nl_10, nl_16, nl_32, nl_33, nl_112, nl_128, nl_256, nl_528, no_1, no_1024, pk_mul, nI_add, nm_ck, nI_clamp, nI_ltI, nI_leI, nI_eq, nb_b2, nb_b1, ↓nb_let, nm_z0, nm_z1, nb_II, nb_IR, nb_RI, nb_RR, nm_IL, nm_IQ, nm_RL, nm_RQ, nm_LI, nm_LR, nm_LL, nm_LQ, nm_QI, nm_QR, nm_QL, nm_QQ, nm_rr, nm_ii, nm_eqm, not_false_eq_true, pk_sub, nm_div, nm_shl, nm_shr, nm_ush, nm_or8, nm_or64, nm_or256, nm_m1, nm_m3, nm_m7, nm_m15, nm_m31, nm_m63, nm_m255, nm_m511, nm_m1023, nm_m2047, nm_m65535, Nat.reduceMod, Nat.reducePow, Nat.reduceAdd, Nat.reduceSub, Nat.reduceMul, nm_bo, nm_bi, nm_rc, nm_ic, nm_ri, nm_rl, nm_rq, nm_ql, nm_qi, nm_li, nm_us, nm_uu, nm_cp, nm_sa31, nm_sa7, nm_m127, nm_m2, nm_nz, nm_nzk, nm_eq32, nm_nzf, if_true, if_false, ↓reduceIte, if_pos, if_neg]
      by_cases w0 : w = 0
      · simp (disch := (first | assumption | decide | omega)) only [df_X5_tick_115, df_X5_tick_141, hT, t0, a10, w0, tk, eq_self, Nat.reduceEqDiff, Nat.reduceLeDiff, nl_0, nl_1, nl_4, nl_6, nl_7, nl_112, no_1, no_1024, pk_mul, nI_add, nm_ck, nI_clamp, nI_ltI, nI_leI, nI_eq, nb_b2, nb_b1, ↓nb_let, nm_z0, nm_z1, nb_II, nb_IR, nb_RI, nb_RR, nm_IL, nm_IQ, nm_RL, nm_RQ, nm_LI, nm_LR, nm_LL, nm_LQ, nm_QI, nm_QR, nm_QL, nm_QQ, nm_rr, nm_ii, nm_eqm, not_false_eq_true, pk_sub, nm_div, nm_shl, nm_shr, nm_ush, nm_or8, nm_or64, nm_or256, nm_m1, nm_m3, nm_m7, nm_m15, nm_m31, nm_m63, nm_m255, nm_m511, nm_m1023, nm_m2047, nm_m65535, Nat.reduceMod, Nat.reducePow, Nat.reduceAdd, Nat.reduceSub, Nat.reduceMul, nm_bo, nm_bi, nm_rc, nm_ic, nm_ri, nm_rl, nm_rq, nm_ql, nm_qi, nm_li, nm_us, nm_uu, nm_cp, nm_sa31, nm_sa7, nm_m127, nm_m2, nm_nz, nm_nzk, nm_eq32, nm_nzf, if_true, if_false, ↓reduceIte, if_pos, if_neg]
      · simp (disch := (first | assumption | decide | omega)) only [df_X5_tick_115, df_X5_tick_141, hT, t0, a10, w0, tk, eq_self, Nat.reduceEqDiff, Nat.reduceLeDiff, nl_0, nl_1, nl_4, nl_6, nl_7, nl_112, no_1, no_1024, pk_mul, nI_add, nm_ck, nI_clamp, nI_ltI, nI_leI, nI_eq, nb_b2, nb_b1, ↓nb_let, nm_z0, nm_z1, nb_II, nb_IR, nb_RI, nb_RR, nm_IL, nm_IQ, nm_RL, nm_RQ, nm_LI, nm_LR, nm_LL, nm_LQ, nm_QI, nm_QR, nm_QL, nm_QQ, nm_rr, nm_ii, nm_eqm, not_false_eq_true, pk_sub, nm_div, nm_shl, nm_shr, nm_ush, nm_or8, nm_or64, nm_or256, nm_m1, nm_m3, nm_m7, nm_m15, nm_m31, nm_m63, nm_m255, nm_m511, nm_m1023, nm_m2047, nm_m65535, Nat.reduceMod, Nat.reducePow, Nat.reduceAdd, Nat.reduceSub, Nat.reduceMul, nm_bo, nm_bi, nm_rc, nm_ic, nm_ri, nm_rl, nm_rq, nm_ql, nm_qi, nm_li, nm_us, nm_uu, nm_cp, nm_sa31, nm_sa7, nm_m127, nm_m2, nm_nz, nm_nzk, nm_eq32, nm_nzf, if_true, if_false, ↓reduceIte, if_pos, if_neg]
    · simp (disch := (first | assumption | decide | omega)) only [df_X16_trap, df_X16_trap_0, df_X16_trap_37, df_X16_trap_50, h3, hz, g2, c0, eq_self, Nat.reduceEqDiff, Nat.reduceLeDiff, nl_0, nl_8, nl_12, nl_13, nl_16, nl_128, nl_256, no_1, no_1024, pk_mul, nI_add, nm_ck, nI_clamp, nI_ltI, nI_leI, nI_eq, nb_b2, nb_b1, ↓nb_let, nm_z0, nm_z1, nb_II, nb_IR, nb_RI, nb_RR, nm_IL, nm_IQ, nm_RL, nm_RQ, nm_LI, nm_LR, nm_LL, nm_LQ, nm_QI, nm_QR, nm_QL, nm_QQ, nm_rr, nm_ii, nm_eqm, not_false_eq_true, pk_sub, nm_div, nm_shl, nm_shr, nm_ush, nm_or8, nm_or64, nm_or256, nm_m1, nm_m3, nm_m7, nm_m15, nm_m31, nm_m63, nm_m255, nm_m511, nm_m1023, nm_m2047, nm_m65535, Nat.reduceMod, Nat.reducePow, Nat.reduceAdd, Nat.reduceSub, Nat.reduceMul, nm_bo, nm_bi, nm_rc, nm_ic, nm_ri, nm_rl, nm_rq, nm_ql, nm_qi, nm_li, nm_us, nm_uu, nm_cp, nm_sa31, nm_sa7, nm_m127, nm_m2, nm_nz, nm_nzk, nm_eq32, nm_nzf, if_true, if_false, ↓reduceIte, if_pos, if_neg]
  · have hz' : ¬ sR s.2.2.1.2.2.1 5 (p * 16 + t) = nI 0 := fun z => hz (eh.symm.trans z)
    by_cases w0 : w = 0
    · have tk := nk_take n (K := s.2.2.1) hp ht hz'
      have en := nk_enter n hn (X := X) hp ht h3
      have re := rM_enter h hp ht h1
      refine ⟨_, _, ?_, ?_, re, ⟨rfl, rfl, rfl, rfl, rfl, rfl, rfl⟩, rfl⟩
      · simp (disch := (first | assumption | decide | omega)) only [df_X5_tick_115, df_X5_tick_141, hT, t0, a10, w0, tk, eq_self, Nat.reduceEqDiff, Nat.reduceLeDiff, nl_0, nl_1, nl_4, nl_6, nl_7, nl_112, no_1, no_1024, pk_mul, nI_add, nm_ck, nI_clamp, nI_ltI, nI_leI, nI_eq, nb_b2, nb_b1, ↓nb_let, nm_z0, nm_z1, nb_II, nb_IR, nb_RI, nb_RR, nm_IL, nm_IQ, nm_RL, nm_RQ, nm_LI, nm_LR, nm_LL, nm_LQ, nm_QI, nm_QR, nm_QL, nm_QQ, nm_rr, nm_ii, nm_eqm, not_false_eq_true, pk_sub, nm_div, nm_shl, nm_shr, nm_ush, nm_or8, nm_or64, nm_or256, nm_m1, nm_m3, nm_m7, nm_m15, nm_m31, nm_m63, nm_m255, nm_m511, nm_m1023, nm_m2047, nm_m65535, Nat.reduceMod, Nat.reducePow, Nat.reduceAdd, Nat.reduceSub, Nat.reduceMul, nm_bo, nm_bi, nm_rc, nm_ic, nm_ri, nm_rl, nm_rq, nm_ql, nm_qi, nm_li, nm_us, nm_uu, nm_cp, nm_sa31, nm_sa7, nm_m127, nm_m2, nm_nz, nm_nzk, nm_eq32, nm_nzf, if_true, if_false, ↓reduceIte, if_pos, if_neg]
      · simp (disch := (first | assumption | decide | omega)) only [df_X16_trap, df_X16_trap_0, df_X16_trap_50, h3, hz, a11, w0, en, c0, eq_self, Nat.reduceEqDiff, Nat.reduceLeDiff, nl_0, nl_8, nl_12, nl_13, nl_16, nl_256, no_1, no_1024, pk_mul, nI_add, nm_ck, nI_clamp, nI_ltI, nI_leI, nI_eq, nb_b2, nb_b1, ↓nb_let, nm_z0, nm_z1, nb_II, nb_IR, nb_RI, nb_RR, nm_IL, nm_IQ, nm_RL, nm_RQ, nm_LI, nm_LR, nm_LL, nm_LQ, nm_QI, nm_QR, nm_QL, nm_QQ, nm_rr, nm_ii, nm_eqm, not_false_eq_true, pk_sub, nm_div, nm_shl, nm_shr, nm_ush, nm_or8, nm_or64, nm_or256, nm_m1, nm_m3, nm_m7, nm_m15, nm_m31, nm_m63, nm_m255, nm_m511, nm_m1023, nm_m2047, nm_m65535, Nat.reduceMod, Nat.reducePow, Nat.reduceAdd, Nat.reduceSub, Nat.reduceMul, nm_bo, nm_bi, nm_rc, nm_ic, nm_ri, nm_rl, nm_rq, nm_ql, nm_qi, nm_li, nm_us, nm_uu, nm_cp, nm_sa31, nm_sa7, nm_m127, nm_m2, nm_nz, nm_nzk, nm_eq32, nm_nzf, if_true, if_false, ↓reduceIte, if_pos, if_neg]
    · refine ⟨MF, XF, ?_, ?_, g3, g4, g5⟩
      · have tk : df_X5_take n (nI p) (nI t) (nI 1) s.2.2.1 = some (s.2.2.1.1, (s.2.2.1.2.1, MF)) := by
          simp (disch := (first | assumption | decide | omega)) only [df_X5_take, df_X5_take_0, df_X5_take_25, hz', g1, eq_self, Nat.reduceEqDiff, Nat.reduceLeDiff, nl_0, nl_1, nl_3, nl_4, nl_5, nl_6, nl_7, nl_10, nl_16, nl_32, nl_33, nl_112, nl_128, nl_256, nl_528, no_1, no_1024, pk_mul, nI_add, nm_ck, nI_clamp, nI_ltI, nI_leI, nI_eq, nb_b2, nb_b1, ↓nb_let, nm_z0, nm_z1, nb_II, nb_IR, nb_RI, nb_RR, nm_IL, nm_IQ, nm_RL, nm_RQ, nm_LI, nm_LR, nm_LL, nm_LQ, nm_QI, nm_QR, nm_QL, nm_QQ, nm_rr, nm_ii, nm_eqm, not_false_eq_true, pk_sub, nm_div, nm_shl, nm_shr, nm_ush, nm_or8, nm_or64, nm_or256, nm_m1, nm_m3, nm_m7, nm_m15, nm_m31, nm_m63, nm_m255, nm_m511, nm_m1023, nm_m2047, nm_m65535, Nat.reduceMod, Nat.reducePow, Nat.reduceAdd, Nat.reduceSub, Nat.reduceMul, nm_bo, nm_bi, nm_rc, nm_ic, nm_ri, nm_rl, nm_rq, nm_ql, nm_qi, nm_li, nm_us, nm_uu, nm_cp, nm_sa31, nm_sa7, nm_m127, nm_m2, nm_nz, nm_nzk, nm_eq32, nm_nzf, if_true, if_false, ↓reduceIte, if_pos, if_neg]
        simp (disch := (first | assumption | decide | omega)) only [df_X5_tick_115, df_X5_tick_141, hT, t0, a10, w0, tk, eq_self, Nat.reduceEqDiff, Nat.reduceLeDiff, nl_0, nl_1, nl_4, nl_6, nl_7, nl_112, no_1, no_1024, pk_mul, nI_add, nm_ck, nI_clamp, nI_ltI, nI_leI, nI_eq, nb_b2, nb_b1, ↓nb_let, nm_z0, nm_z1, nb_II, nb_IR, nb_RI, nb_RR, nm_IL, nm_IQ, nm_RL, nm_RQ, nm_LI, nm_LR, nm_LL, nm_LQ, nm_QI, nm_QR, nm_QL, nm_QQ, nm_rr, nm_ii, nm_eqm, not_false_eq_true, pk_sub, nm_div, nm_shl, nm_shr, nm_ush, nm_or8, nm_or64, nm_or256, nm_m1, nm_m3, nm_m7, nm_m15, nm_m31, nm_m63, nm_m255, nm_m511, nm_m1023, nm_m2047, nm_m65535, Nat.reduceMod, Nat.reducePow, Nat.reduceAdd, Nat.reduceSub, Nat.reduceMul, nm_bo, nm_bi, nm_rc, nm_ic, nm_ri, nm_rl, nm_rq, nm_ql, nm_qi, nm_li, nm_us, nm_uu, nm_cp, nm_sa31, nm_sa7, nm_m127, nm_m2, nm_nz, nm_nzk, nm_eq32, nm_nzf, if_true, if_false, ↓reduceIte, if_pos, if_neg]
      · simp (disch := (first | assumption | decide | omega)) only [df_X16_trap, df_X16_trap_0, df_X16_trap_37, df_X16_trap_50, h3, hz, a11, w0, g2, c0, eq_self, Nat.reduceEqDiff, Nat.reduceLeDiff, nl_0, nl_8, nl_12, nl_13, nl_16, nl_128, nl_256, no_1, no_1024, pk_mul, nI_add, nm_ck, nI_clamp, nI_ltI, nI_leI, nI_eq, nb_b2, nb_b1, ↓nb_let, nm_z0, nm_z1, nb_II, nb_IR, nb_RI, nb_RR, nm_IL, nm_IQ, nm_RL, nm_RQ, nm_LI, nm_LR, nm_LL, nm_LQ, nm_QI, nm_QR, nm_QL, nm_QQ, nm_rr, nm_ii, nm_eqm, not_false_eq_true, pk_sub, nm_div, nm_shl, nm_shr, nm_ush, nm_or8, nm_or64, nm_or256, nm_m1, nm_m3, nm_m7, nm_m15, nm_m31, nm_m63, nm_m255, nm_m511, nm_m1023, nm_m2047, nm_m65535, Nat.reduceMod, Nat.reducePow, Nat.reduceAdd, Nat.reduceSub, Nat.reduceMul, nm_bo, nm_bi, nm_rc, nm_ic, nm_ri, nm_rl, nm_rq, nm_ql, nm_qi, nm_li, nm_us, nm_uu, nm_cp, nm_sa31, nm_sa7, nm_m127, nm_m2, nm_nz, nm_nzk, nm_eq32, nm_nzf, if_true, if_false, ↓reduceIte, if_pos, if_neg]
/-- the end of a tick, in both -/
theorem nk_end (n : Nat) (hn : 1024 < n) {B : Nat} {s : St × Rw × (St × (St × (St × (St)))) × (St) × (St) × (Nat → St) × (Nat → St) × (Nat → St × (St))} {X : St × St} (h : rM B s.2.2.1.2.2 X) (hw : okB (sI X.1 16)) : ∃ M' X' : St × St, df_X5_tick_144 n s = some (s.1, (s.2.1, ((s.2.2.1.1, (s.2.2.1.2.1, M')), s.2.2.2))) ∧ df_X16_tick_186 n X = some (sI X.1 16, X') ∧ rM B M' X' ∧ kX X X' ∧ kM s.2.2.1.2.2 M' ∧ sD n X' := by
  obtain ⟨M', X', e1, e2, e3, e4, e5, e6⟩ := nk_settle2 n hn (K := s.2.2.1) h
  refine ⟨M', X', ?_, ?_, e3, e4, e5, e6⟩
  · unfold df_X5_tick_144
    rw [e1, nb_b1, nb_let]
  · have k16 := e4.2.2.2.2.2.2
    unfold df_X16_tick_186
    rw [e2, nb_b1, k16]
    rcases hw with z | z
    · rw [z]; exact nm_z0
    · rw [z]; exact nm_z1
/-- a tick's beginning: who is at it, what is reserved -/
theorem rM_tk {B : Nat} {M X : St × St} (h : rM B M X) {p : Nat} (hp : p < 16) {re : Int32} (hre : okR re) : rM B (pI (pI (pI M.1 7 (nI 0)) 6 re) 5 (nI p), M.2) (pI (pI (pI (pI (pI X.1 12 (nI p)) 16 (nI 0)) 4 re) 3 (nI p)) 0 (sI X.1 0 + nI 1), X.2) := by
  obtain ⟨m1, m2, m3, m4, ⟨g1, g2, g3, g4, g5, g6, g7, g8, g9, g10, g11⟩, m6, m7⟩ := h
  exact ⟨m1, m2, m3, m4, ⟨g1, g2, g3, g4, g5, rfl, Or.inr ⟨p, hp, rfl⟩, rfl, hre, g10, g11⟩, m6, m7⟩

/-- behind a tick -/
def tO (n B p : Nat) (s : St × Rw × (St × (St × (St × (St)))) × (St) × (St) × (Nat → St) × (Nat → St) × (Nat → St × (St))) (X : St × St) (oc : Option (St × Rw × (St × (St × (St × (St)))) × (St) × (St) × (Nat → St) × (Nat → St) × (Nat → St × (St)))) (or : Option (Int32 × (St × St))) : Prop := ∃ (K' : St × (St × (St × St))) (wr : Int32) (X' : St × St), oc = some (s.1, (s.2.1, (K', s.2.2.2))) ∧ or = some (wr, X') ∧ rM B K'.2.2 X' ∧ (∀ i : Nat, sO K'.1 i = sO s.2.2.1.1 i) ∧ (X'.2 = X.2 ∧ sI X'.1 0 = sI X.1 0 ∧ sI X'.1 14 = sI X.1 14 ∧ sI X'.1 15 = sI X.1 15) ∧ wrR X p (sI K'.2.2.1 7) wr ∧ sD n X'
theorem okB_wr {X : St × St} {p : Nat} {wn wr : Int32} (h : wrR X p wn wr) : okB wr := by
  rcases h with ⟨_, e⟩ | ⟨a, k, _, _, _, _, e⟩
  · exact Or.inl e
  · rw [e]
    exact okB_wvs (Or.inl rfl) k
/-- settling at the end -/
theorem tO_end (n : Nat) (hn : 1024 < n) {B p : Nat} {s : St × Rw × (St × (St × (St × (St)))) × (St) × (St) × (Nat → St) × (Nat → St) × (Nat → St × (St))} {X : St × St} {K : St × (St × (St × St))} {X1 : St × St} (h : rM B K.2.2 X1) (ho : ∀ i : Nat, sO K.1 i = sO s.2.2.1.1 i) (hf : X1.2 = X.2 ∧ sI X1.1 0 = sI X.1 0 ∧ sI X1.1 14 = sI X.1 14 ∧ sI X1.1 15 = sI X.1 15) (hw : wrR X p (sI K.2.2.1 7) (sI X1.1 16)) : tO n B p s X (df_X5_tick_144 n (s.1, (s.2.1, (K, s.2.2.2)))) (df_X16_tick_186 n X1) := by
  obtain ⟨M', X', e1, e2, e3, ⟨k1, k2, k3, k4, k5, k6, k7⟩, e5, e6⟩ := nk_end n hn (s := (s.1, (s.2.1, (K, s.2.2.2)))) h (okB_wr hw)
  have e5 : sI M'.1 7 = sI K.2.2.1 7 := e5
  exact ⟨(K.1, (K.2.1, M')), _, X', e1, e2, e3, ho, ⟨k1.trans hf.1, k2.trans hf.2.1, k5.trans hf.2.2.1, k6.trans hf.2.2.2⟩, by rw [e5]; exact hw, e6⟩
/-- a trap and settling -/
theorem tO_trap (n : Nat) (hn : 1024 < n) {B p t : Nat} {s : St × Rw × (St × (St × (St × (St)))) × (St) × (St) × (Nat → St) × (Nat → St) × (Nat → St × (St))} {X : St × St} {K : St × (St × (St × St))} {X1 : St × St} (h : rM B K.2.2 X1) (hp : p < 16) (h3 : sI X1.1 12 = nI p) (h1 : sR X1.1 1 p = nI 1) (t0 : ¬ t = 0) (ht : t < 16) (ho : ∀ i : Nat, sO K.1 i = sO s.2.2.1.1 i) (hf : X1.2 = X.2 ∧ sI X1.1 0 = sI X.1 0 ∧ sI X1.1 14 = sI X.1 14 ∧ sI X1.1 15 = sI X.1 15) (hw : wrR X p (sI K.2.2.1 7) (sI X1.1 16)) : tO n B p s X (df_X5_tick_115 n (nI p) (nI t) (s.1, (s.2.1, (K, s.2.2.2)))) (nd_b1 (df_X16_trap n (nI t) X1) (fun s24 => df_X16_tick_186 n s24)) := by
  obtain ⟨M', X', e1, e2, e3, ⟨k1, k2, k3, k4, k5, k6, k7⟩, e5⟩ := nk_trap n hn (s := (s.1, (s.2.1, (K, s.2.2.2)))) h hp h3 h1 t0 ht
  rw [e1, e2, nb_b1]
  have e5 : sI M'.1 7 = sI K.2.2.1 7 := e5
  exact tO_end n hn (K := (K.1, (K.2.1, M'))) e3 ho ⟨k1.trans hf.1, k2.trans hf.2.1, k5.trans hf.2.2.1, k6.trans hf.2.2.2⟩ (by rw [k7]; show wrR X p (sI M'.1 7) _; rw [e5]; exact hw)
/-- a tick, once it has begun -/
theorem nq_tick48 (n : Nat) (hn : 40000 < n) {B p : Nat} {s : St × Rw × (St × (St × (St × (St)))) × (St) × (St) × (Nat → St) × (Nat → St) × (Nat → St × (St))} {X : St × St} (h1 : rM B s.2.2.1.2.2 X) (h2 : p < 16) (h3 : sI X.1 12 = nI p) (h5 : sR X.1 1 p = nI 1) (h6 : sI s.2.2.1.2.2.1 7 = nI 0) (h7 : sI X.1 16 = nI 0) (hl : sI X.1 2 = nI p) (hP : rPp s X.2) (hB : B + 512 < 2 ^ 62) : tO n (B + 512) p s X (df_X5_tick_48 n (nI p) s) (nd_b2 (df_X16_takeable n (nI p) X) (fun (q7 : Int32) (s8 : St × (St)) => if q7 ≤ 0 then (nd_b2 (df_X16_step n  s8) (fun (q11 : Int32) (s12 : St × (St)) => if q11 = 3 then (nd_b1 (df_X16_call n  s12) (fun (s28 : St × (St)) => df_X16_tick_186 n  s28)) else (if q11 ≤ 0 then (df_X16_tick_186 n  s12) else (if q11 = 2 then (df_X16_tick_183 n (4) s12) else (if q11 = 4 then (df_X16_tick_183 n (5) s12) else (if q11 = 5 then (df_X16_tick_176 n  s12) else (if q11 = 8 then (df_X16_tick_176 n  s12) else (df_X16_tick_183 n (11) s12)))))))) else (nd_ck ((sI s8.1 12)) 16 (nd_ck ((sI s8.1 12)) 16 (nd_let (((pR s8.1 4 (upd (sR s8.1 4) (Int32.toNatClampNeg (sI s8.1 12)) (((sR s8.1 4 (Int32.toNatClampNeg (sI s8.1 12))) &&& (((1 : Int32) <<< ((q7 : Int32) &&& 31)) ^^^ (-1)))))), s8.2)) (fun (s32 : St × (St)) => nd_ck (((16 * (sI s32.1 12)) + q7)) 256 (if ((sR s32.1 13 (Int32.toNatClampNeg ((16 * (sI s32.1 12)) + q7))) : Int32) = 0 then (nd_b1 (df_X16_end n ((sI s32.1 12)) ((128 + q7)) s32) (fun (s39 : St × (St)) => df_X16_tick_186 n  s39)) else (nd_b1 (df_X16_enter n (q7) s32) (fun (s36 : St × (St)) => df_X16_tick_186 n  s36))))))))) := by
  obtain ⟨tt, c, w, b', e, htt, hc, hw, hb, he, a1, a2, a3, a4, a5, a6, a7, a8, a9, a10, a11, a12, a13, a14, a15, a16, a17, a18, _⟩ := h1.2.2.1 p h2
  have t1 : tt = 1 := nm_inI (by omega) (by omega) (a2.symm.trans h5)
  obtain ⟨r1, r2⟩ := a17 (by omega)
  obtain ⟨tk1, tk2, tk3⟩ := nk_takeable n (by omega) h2 hc hw a8 a10 a9 a11
  have hBB : B ≤ B + 512 := by omega
  rw [tk2, nb_b2]
  generalize hf : tk (2 * c) w = f at tk1 tk3
  by_cases f0 : f = 0
  · subst f0
    rw [if_pos (show nI 0 ≤ (0 : Int32) by decide)]
    have C0 : df_X5_tick_48 n (nI p) s = nd_b2 (df_X4_step n (nI p) s.2.2.1.2) (fun q10 s11 => nd_let (s.1, (s.2.1, ((s.2.2.1.1, s11), s.2.2.2))) (fun s13 => if q10 = (-1) then (nd_b2 (df_X5_answerOf n (nI p) s13) (fun q26 s27 => nd_b2 (df_X5_answer n (nI p) q26 s27.2.2.1) (fun q29 s30 => nd_let (s27.1, (s27.2.1, (s30, s27.2.2.2))) (fun s32 => df_X5_tick_115 n (nI p) q29 s32)))) else (df_X5_tick_115 n (nI p) q10 s13))) := by
      unfold df_X5_tick_48
      rw [tk1, nb_b2, nb_let, if_pos (show nI 0 = (0 : Int32) from rfl)]
    rw [C0]
    have st := nk_step n (by omega) (p := p) (M := s.2.2.1.2.2) (X := X) ⟨h2, h3, r1, r2, h1.1, h1.2.2.2.2.1.2.2.2.2.2.2.2.1, h1.2.2.2.2.1.2.2.2.2.2.2.2.2.1, h1.2.2.2.2.1.2.2.2.2.2.2.2.2.2.1, h1.2.2.2.2.1.2.2.2.2.2.2.2.2.2.2, h7, h6⟩ s.2.2.1.2.1
    have st : oS p s.2.2.1.2.2 X (df_X4_step n (nI p) s.2.2.1.2) (df_X16_step n X) := st
    rcases st with ⟨t, me, H, a, b, d, tmm, e1, e2⟩ | ⟨H, a, b, d, e1, e2⟩ | ⟨rg, x, ww, u, g, bb, fr, ho, fu, us, re, wn, wr, nx, aa, ab, H, e1, e2, o1, o2, o3, o4, o5⟩
    · rw [e1, e2, nb_b2, nb_b2, nb_let]
      have up := rM_up h1 hBB
      have tp : ∀ t : Nat, ¬ t = 0 → t < 16 → tO n (B + 512) p s X (df_X5_tick_115 n (nI p) (nI t) (s.1, (s.2.1, ((s.2.2.1.1, (H, s.2.2.1.2.2)), s.2.2.2)))) (nd_b1 (df_X16_trap n (nI t) (zS X a b d (nI me))) (fun s24 => df_X16_tick_186 n s24)) := fun t t0 t16 => tO_trap n (by omega) (K := (s.2.2.1.1, (H, s.2.2.1.2.2))) (X1 := zS X a b d (nI me)) up h2 h3 h5 t0 t16 (fun _ => rfl) ⟨rfl, rfl, rfl, rfl⟩ (Or.inl ⟨h6, h7⟩)
      rcases tmm with ⟨z1, z2⟩ | ⟨z1, z2⟩ | ⟨z1, z2⟩ | ⟨z1, z2⟩ | ⟨z1, z2⟩
      · subst z1 z2
        rw [if_pos (show (-nI 1 : Int32) = -1 from rfl), if_pos (show nI 3 = (3 : Int32) from rfl)]
        obtain ⟨v64, K', q29, K'', c1, c2, X', x1, x2, x3, x4, x5, x6⟩ := nq_call n hn (s := (s.1, (s.2.1, ((s.2.2.1.1, (H, s.2.2.1.2.2)), s.2.2.2)))) (X := zS X a b d (nI 3)) h1 h2 h3 h5 h6 h7 hl hP hB
        obtain ⟨k1, k2, k3, k4, k5⟩ := x4
        have wq : wrR X p (sI K''.2.2.1 7) (sI X'.1 16) := wrR_c (X := X) (Y := zS X a b d (nI 3)) rfl rfl x5
        rw [c1, nb_b2, c2, nb_b2, nb_let]
        rcases x6 with ⟨y1, y2⟩ | ⟨y1, y2, y3⟩
        · have y2 : df_X16_call n (zS X a b d (nI 3)) = some X' := y2
          rw [y1, y2, nb_b1]
          have C1 : df_X5_tick_115 n (nI p) (nI 0) (s.1, (s.2.1, (K'', s.2.2.2))) = df_X5_tick_144 n (s.1, (s.2.1, (K'', s.2.2.2))) := by
            unfold df_X5_tick_115
            rw [if_pos (show nI 0 = (0 : Int32) from rfl)]
          show tO n (B + 512) p s X (df_X5_tick_115 n (nI p) (nI 0) (s.1, (s.2.1, (K'', s.2.2.2)))) (df_X16_tick_186 n X')
          rw [C1]
          exact tO_end n (by omega) x1 x2 ⟨k1, k2, k4, k5⟩ wq
        · have y3 : df_X16_call n (zS X a b d (nI 3)) = df_X16_trap n (nI 7) X' := y3
          rw [y1, y3]
          exact tO_trap n (by omega) (s := s) (X := X) (K := K'') (X1 := X') x1 h2 (k3.trans h3) y2 (by omega) (by omega) x2 ⟨k1, k2, k4, k5⟩ wq
      · subst z1 z2
        rw [if_neg (by decide), if_neg (by decide), if_neg (by decide), if_pos (by decide)]
        exact tp 4 (by omega) (by omega)
      · subst z1 z2
        rw [if_neg (by decide), if_neg (by decide), if_neg (by decide), if_neg (by decide), if_pos (by decide)]
        exact tp 5 (by omega) (by omega)
      · subst z1
        rcases z2 with z2 | z2
        · subst z2
          rw [if_neg (by decide), if_neg (by decide), if_neg (by decide), if_neg (by decide), if_neg (by decide), if_pos (by decide)]
          exact tp 7 (by omega) (by omega)
        · subst z2
          rw [if_neg (by decide), if_neg (by decide), if_neg (by decide), if_neg (by decide), if_neg (by decide), if_neg (by decide), if_pos (by decide)]
          exact tp 7 (by omega) (by omega)
      · subst z1
        rcases z2 with z2 | z2 | z2
        · subst z2
          rw [if_neg (by decide), if_neg (by decide), if_neg (by decide), if_neg (by decide), if_neg (by decide), if_neg (by decide), if_neg (by decide)]
          exact tp 11 (by omega) (by omega)
        · subst z2
          rw [if_neg (by decide), if_neg (by decide), if_neg (by decide), if_neg (by decide), if_neg (by decide), if_neg (by decide), if_neg (by decide)]
          exact tp 11 (by omega) (by omega)
        · subst z2
          rw [if_neg (by decide), if_neg (by decide), if_neg (by decide), if_neg (by decide), if_neg (by decide), if_neg (by decide), if_neg (by decide)]
          exact tp 11 (by omega) (by omega)
    · rw [e1, e2, nb_b2, nb_b2, nb_let]
      rw [if_neg (by decide), if_neg (by decide), if_neg (by decide), if_neg (by decide), if_neg (by decide), if_neg (by decide), if_neg (by decide)]
      exact tO_trap n (by omega) (s := s) (X := X) (K := (s.2.2.1.1, (H, s.2.2.1.2.2))) (X1 := zS X a b d (nI 0)) (t := 11) (rM_up h1 hBB) h2 h3 h5 (by omega) (by omega) (fun _ => rfl) ⟨rfl, rfl, rfl, rfl⟩ (Or.inl ⟨h6, h7⟩)
    · rw [e1, e2, nb_b2, nb_b2, nb_let]
      rw [if_neg (by decide), if_neg (by decide), if_pos (by decide)]
      have rm := rM_up (rM_step h1 h2 h5 (wn := wn) (wr := wr) (nx := nx) (a' := aa) (b' := ab) o1 o2 o3 o4) hBB
      have c7 := (hX_rows X x bb fr ho (upd (sR X.1 10) p nx) us re wr nx aa ab (sL X.1 0 + 1)).2.2.2.2.2.2.1
      have c16 := (hX_rows X x bb fr ho (upd (sR X.1 10) p nx) us re wr nx aa ab (sL X.1 0 + 1)).2.2.2.2.2.2.2.2.2.1
      have f9 := (hM_rows s.2.2.1.2.2 rg ww u g (upd rg (p * 33 + 32) nx) fu re wn (sL s.2.2.1.2.2.1 1 + 1)).2.2.2.2.2.2.2.2.1
      generalize pL (pR (hX (zS X aa ab nx (nI 0)) x bb fr ho us re wr nx).1 10 (upd (sR X.1 10) p nx)) 0 (sL X.1 0 + 1) = X' at rm c7 c16
      generalize pL (pR (hM s.2.2.1.2.2 rg ww u g fu re wn).1 3 (upd rg (p * 33 + 32) nx)) 1 (sL s.2.2.1.2.2.1 1 + 1) = M' at rm f9
      have C1 : df_X5_tick_115 n (nI p) (nI 0) (s.1, (s.2.1, ((s.2.2.1.1, (H, (M', s.2.2.1.2.2.2))), s.2.2.2))) = df_X5_tick_144 n (s.1, (s.2.1, ((s.2.2.1.1, (H, (M', s.2.2.1.2.2.2))), s.2.2.2))) := by
        unfold df_X5_tick_115
        rw [if_pos (show nI 0 = (0 : Int32) from rfl)]
      show tO n (B + 512) p s X (df_X5_tick_115 n (nI p) (nI 0) (s.1, (s.2.1, ((s.2.2.1.1, (H, (M', s.2.2.1.2.2.2))), s.2.2.2)))) (df_X16_tick_186 n (X', X.2))
      rw [C1]
      refine tO_end n (by omega) (K := (s.2.2.1.1, (H, (M', s.2.2.1.2.2.2)))) rm (fun _ => rfl) ⟨rfl, c7 0 (by omega) (by omega) (by omega) (by omega) (by omega) (by omega) (by omega), c7 14 (by omega) (by omega) (by omega) (by omega) (by omega) (by omega) (by omega), c7 15 (by omega) (by omega) (by omega) (by omega) (by omega) (by omega) (by omega)⟩ ?_
      show wrR X p (sI M' 7) (sI X' 16)
      rw [f9, c16]
      exact o5
  · obtain ⟨c', hc', ec⟩ := pend_clr hc ((nI 1 <<< (nI f &&& nI 31)) ^^^ -nI 1)
    have rp := rM_pend h1 h2 hc'
    have eh := (a18 (Or.inl t1)).1 f tk3
    rw [if_neg (show ¬ nI f ≤ (0 : Int32) from fun z => by have z : nI f ≤ nI 0 := z; rw [nI_leI (by omega) (by omega)] at z; omega)]
    have u1 : p < 2 ^ 31 := by omega
    have u2 : p * 7 + 3 < 112 := by omega
    have u3 : p * 7 + 3 < 2 ^ 31 := by omega
    have k1 : nI p * 7 + 3 = nI (p * 7 + 3) := by simp (disch := (first | assumption | decide | omega)) only [eq_self, Nat.reduceEqDiff, Nat.reduceLeDiff, nl_3, nl_7, no_1, no_1024, pk_mul, nI_add, nm_ck, nI_clamp, nI_ltI, nI_leI, nI_eq, nb_b2, nb_b1, ↓nb_let, nm_z0, nm_z1, nb_II, nb_IR, nb_RI, nb_RR, nm_IL, nm_IQ, nm_RL, nm_RQ, nm_LI, nm_LR, nm_LL, nm_LQ, nm_QI, nm_QR, nm_QL, nm_QQ, nm_rr, nm_ii, nm_eqm, not_false_eq_true, pk_sub, nm_div, nm_shl, nm_shr, nm_ush, nm_or8, nm_or64, nm_or256, nm_m1, nm_m3, nm_m7, nm_m15, nm_m31, nm_m63, nm_m255, nm_m511, nm_m1023, nm_m2047, nm_m65535, Nat.reduceMod, Nat.reducePow, Nat.reduceAdd, Nat.reduceSub, Nat.reduceMul, nm_bo, nm_bi, nm_rc, nm_ic, nm_ri, nm_rl, nm_rq, nm_ql, nm_qi, nm_li, nm_us, nm_uu, nm_cp, nm_sa31, nm_sa7, nm_m127, nm_m2, nm_nz, nm_nzk, nm_eq32, nm_nzf, if_true, if_false, ↓reduceIte, if_pos, if_neg]
    have k2 : ∀ x : Int32, x = nI p → 16 * x + nI f = nI (16 * p + f) := fun x hx => by rw [hx]; simp (disch := (first | assumption | decide | omega)) only [eq_self, Nat.reduceEqDiff, Nat.reduceLeDiff, nl_16, no_1, no_1024, pk_mul, nI_add, nm_ck, nI_clamp, nI_ltI, nI_leI, nI_eq, nb_b2, nb_b1, ↓nb_let, nm_z0, nm_z1, nb_II, nb_IR, nb_RI, nb_RR, nm_IL, nm_IQ, nm_RL, nm_RQ, nm_LI, nm_LR, nm_LL, nm_LQ, nm_QI, nm_QR, nm_QL, nm_QQ, nm_rr, nm_ii, nm_eqm, not_false_eq_true, pk_sub, nm_div, nm_shl, nm_shr, nm_ush, nm_or8, nm_or64, nm_or256, nm_m1, nm_m3, nm_m7, nm_m15, nm_m31, nm_m63, nm_m255, nm_m511, nm_m1023, nm_m2047, nm_m65535, Nat.reduceMod, Nat.reducePow, Nat.reduceAdd, Nat.reduceSub, Nat.reduceMul, nm_bo, nm_bi, nm_rc, nm_ic, nm_ri, nm_rl, nm_rq, nm_ql, nm_qi, nm_li, nm_us, nm_uu, nm_cp, nm_sa31, nm_sa7, nm_m127, nm_m2, nm_nz, nm_nzk, nm_eq32, nm_nzf, if_true, if_false, ↓reduceIte, if_pos, if_neg]
    have ec : nI (2 * c) &&& (((1 : Int32) <<< (nI f &&& 31)) ^^^ (-1)) = nI (2 * c') := ec
    rw [h3, nm_ck h2 u1, nm_ck h2 u1, nI_clamp u1, a9, ec, nb_let]
    have e12 : sI (pR X.1 4 (upd (sR X.1 4) p (nI (2 * c'))), X.2).1 12 = nI p := h3
    rw [k2 _ e12, nm_ck (by omega) (by omega), nI_clamp (by omega)]
    have e13 : sR (pR X.1 4 (upd (sR X.1 4) p (nI (2 * c'))), X.2).1 13 (16 * p + f) = sR X.1 13 (16 * p + f) := rfl
    rw [e13]
    have C0 : df_X5_tick_48 n (nI p) s = nd_b1 (df_X5_take n (nI p) (nI f) 0 (s.2.2.1.1, (s.2.2.1.2.1, (pR s.2.2.1.2.2.1 6 (upd (sR s.2.2.1.2.2.1 6) (p * 7 + 3) (nI (2 * c'))), s.2.2.1.2.2.2)))) (fun s37 => df_X5_tick_144 n (s.1, (s.2.1, (s37, s.2.2.2)))) := by
      unfold df_X5_tick_48
      rw [tk1, nb_b2, nb_let, if_neg (show ¬ nI f = (0 : Int32) from fun z => f0 (nm_inI (by omega) (by omega) (show nI f = nI 0 from z))), k1, nm_ck u2 u3, nm_ck u2 u3, nI_clamp u3]
      dsimp only
      rw [a8, ec, nb_let]
      rfl
    rw [C0]
    have h5' : sR (pR X.1 4 (upd (sR X.1 4) p (nI (2 * c'))), X.2).1 1 p = nI 1 := h5
    by_cases hz : sR X.1 13 (16 * p + f) = nI 0
    · obtain ⟨MF, XF, g1, g2, g3, ⟨y1, y2, y3, y4, y5, y6, y7⟩, g5⟩ := nk_finish n (by omega) rp h2 (c := 128 + f) (by omega) h5'
      have hz' := eh.trans hz
      have u6 : p * 16 + f < 256 := by omega
      have u7 : p * 16 + f < 2 ^ 31 := by omega
      have tk : df_X5_take n (nI p) (nI f) (nI 0) (s.2.2.1.1, (s.2.2.1.2.1, (pR s.2.2.1.2.2.1 6 (upd (sR s.2.2.1.2.2.1 6) (p * 7 + 3) (nI (2 * c'))), s.2.2.1.2.2.2))) = some (s.2.2.1.1, (s.2.2.1.2.1, MF)) := by
        simp (disch := (first | assumption | decide | omega)) only [df_X5_take, df_X5_take_0, df_X5_take_25, hz', g1, eq_self, Nat.reduceEqDiff, Nat.reduceLeDiff, nl_0, nl_1, nl_3, nl_4, nl_5, nl_6, nl_7, nl_10, nl_16, nl_32, nl_33, nl_112, nl_128, nl_256, nl_528, no_1, no_1024, pk_mul, nI_add, nm_ck, nI_clamp, nI_ltI, nI_leI, nI_eq, nb_b2, nb_b1, ↓nb_let, nm_z0, nm_z1, nb_II, nb_IR, nb_RI, nb_RR, nm_IL, nm_IQ, nm_RL, nm_RQ, nm_LI, nm_LR, nm_LL, nm_LQ, nm_QI, nm_QR, nm_QL, nm_QQ, nm_rr, nm_ii, nm_eqm, not_false_eq_true, pk_sub, nm_div, nm_shl, nm_shr, nm_ush, nm_or8, nm_or64, nm_or256, nm_m1, nm_m3, nm_m7, nm_m15, nm_m31, nm_m63, nm_m255, nm_m511, nm_m1023, nm_m2047, nm_m65535, Nat.reduceMod, Nat.reducePow, Nat.reduceAdd, Nat.reduceSub, Nat.reduceMul, nm_bo, nm_bi, nm_rc, nm_ic, nm_ri, nm_rl, nm_rq, nm_ql, nm_qi, nm_li, nm_us, nm_uu, nm_cp, nm_sa31, nm_sa7, nm_m127, nm_m2, nm_nz, nm_nzk, nm_eq32, nm_nzf, if_true, if_false, ↓reduceIte, if_pos, if_neg]
      have tk : df_X5_take n (nI p) (nI f) 0 (s.2.2.1.1, (s.2.2.1.2.1, (pR s.2.2.1.2.2.1 6 (upd (sR s.2.2.1.2.2.1 6) (p * 7 + 3) (nI (2 * c'))), s.2.2.1.2.2.2))) = some (s.2.2.1.1, (s.2.2.1.2.1, MF)) := tk
      have k3 : (128 : Int32) + nI f = nI (128 + f) := nI_add ..
      rw [if_pos (show sR X.1 13 (16 * p + f) = 0 from hz), tk, nb_b1, e12, k3, g2, nb_b1]
      have g5 : sI MF.1 7 = sI s.2.2.1.2.2.1 7 := g5
      exact tO_end n (by omega) (K := (s.2.2.1.1, (s.2.2.1.2.1, MF))) (rM_up g3 hBB) (fun _ => rfl) ⟨y1, y2, y5, y6⟩ (Or.inl ⟨g5.trans h6, y7.trans h7⟩)
    · have hz' : ¬ sR s.2.2.1.2.2.1 5 (p * 16 + f) = nI 0 := fun z => hz (eh.symm.trans z)
      have tk := nk_take n (K := (s.2.2.1.1, (s.2.2.1.2.1, (pR s.2.2.1.2.2.1 6 (upd (sR s.2.2.1.2.2.1 6) (p * 7 + 3) (nI (2 * c'))), s.2.2.1.2.2.2)))) h2 tk3 hz'
      have en := nk_enter n (by omega) (X := (pR X.1 4 (upd (sR X.1 4) p (nI (2 * c'))), X.2)) h2 tk3 e12
      have re := rM_enter rp h2 tk3 h5'
      have tk : df_X5_take n (nI p) (nI f) 0 (s.2.2.1.1, (s.2.2.1.2.1, (pR s.2.2.1.2.2.1 6 (upd (sR s.2.2.1.2.2.1 6) (p * 7 + 3) (nI (2 * c'))), s.2.2.1.2.2.2))) = _ := tk
      rw [if_neg (show ¬ sR X.1 13 (16 * p + f) = 0 from hz), tk, nb_b1, en, nb_b1]
      exact tO_end n (by omega) (K := (s.2.2.1.1, (s.2.2.1.2.1, (_, s.2.2.1.2.2.2)))) (rM_up re hBB) (fun _ => rfl) ⟨rfl, rfl, rfl, rfl⟩ (Or.inl ⟨h6, h7⟩)
/-- one tick, in both -/
theorem nq_tick (n : Nat) (hn : 40000 < n) {B p : Nat} {s : St × Rw × (St × (St × (St × (St)))) × (St) × (St) × (Nat → St) × (Nat → St) × (Nat → St × (St))} {X : St × St} (h1 : rM B s.2.2.1.2.2 X) (h2 : p < 16) (hc : sI X.1 1 = nI p) (h5 : sR X.1 1 p = nI 1) (hP : rPp s X.2) (hB : B + 512 < 2 ^ 62) : tO n (B + 512) p s (pI X.1 0 (sI X.1 0 + nI 1), X.2) (df_X5_tick n s) (df_X16_tick n X) := by
  obtain ⟨g1, g2, g3, g4, g5, g6, g7, g8, g9, g10, g11⟩ := id h1.2.2.2.2.1
  have hl : sI X.1 2 = nI p := by
    rcases g5 with z | z
    · rw [hc] at z
      exact absurd z (nk_ne (by omega))
    · exact z.trans hc
  have ec := g1.trans hc
  have u1 : p < 2 ^ 31 := by omega
  have z0 : (0 : Int32) ≤ nI p := by
    show nI 0 ≤ nI p
    rw [nI_leI (by omega) u1]
    omega
  -- what is reserved now
  have key : ∀ re : Int32, okR re → ((sI X.1 3 = nI p ∧ re = sI X.1 4) ∨ (¬ sI X.1 3 = nI p ∧ re = -nI 1)) → tO n (B + 512) p s (pI X.1 0 (sI X.1 0 + nI 1), X.2) (df_X5_tick n s) (df_X16_tick n X) := fun re ore hre => by
    have rt := rM_tk h1 h2 ore
    have q := nq_tick48 n hn (s := (s.1, (s.2.1, ((s.2.2.1.1, (s.2.2.1.2.1, (pI (pI (pI s.2.2.1.2.2.1 7 (nI 0)) 6 re) 5 (nI p), s.2.2.1.2.2.2))), s.2.2.2)))) (X := (pI (pI (pI (pI (pI X.1 12 (nI p)) 16 (nI 0)) 4 re) 3 (nI p)) 0 (sI X.1 0 + nI 1), X.2)) rt h2 rfl h5 rfl rfl hl hP hB
    have R : df_X16_tick n X = df_X16_tick_33 n re (pI (pI X.1 12 (nI p)) 16 (nI 0), X.2) := by
      unfold df_X16_tick df_X16_tick_0
      rw [nb_let, nb_let, hc]
      rcases hre with ⟨y1, y2⟩ | ⟨y1, y2⟩
      · rw [y2]
        exact if_pos (show nI p = sI X.1 3 from y1.symm)
      · rw [y2]
        exact if_neg (show ¬ nI p = sI X.1 3 from fun z => y1 z.symm)
    have C : df_X5_tick n s = df_X5_tick_48 n (nI p) (s.1, (s.2.1, ((s.2.2.1.1, (s.2.2.1.2.1, (pI (pI (pI s.2.2.1.2.2.1 7 (nI 0)) 6 re) 5 (nI p), s.2.2.1.2.2.2))), s.2.2.2))) := by
      unfold df_X5_tick df_X5_tick_0
      rw [nb_let, nb_let, ec, if_pos z0]
      rcases hre with ⟨y1, y2⟩ | ⟨y1, y2⟩
      · have i1 : pI (pI (pI s.2.2.1.2.2.1 7 (nI 0)) 6 re) 5 (nI p) = pI s.2.2.1.2.2.1 7 (nI 0) := by
          rw [show re = sI (pI s.2.2.1.2.2.1 7 (nI 0)) 6 from y2.trans g8.symm, nm_i0, show nI p = sI (pI s.2.2.1.2.2.1 7 (nI 0)) 5 from (g6.trans y1).symm, nm_i0]
        rw [i1]
        exact if_pos (show sI s.2.2.1.2.2.1 5 = nI p from g6.trans y1)
      · rw [y2]
        exact if_neg (show ¬ sI s.2.2.1.2.2.1 5 = nI p from fun z => y1 (g6.symm.trans z))
    rw [C, R]
    have R2 : tO n (B + 512) p (s.1, (s.2.1, ((s.2.2.1.1, (s.2.2.1.2.1, (pI (pI (pI s.2.2.1.2.2.1 7 (nI 0)) 6 re) 5 (nI p), s.2.2.1.2.2.2))), s.2.2.2))) (pI (pI (pI (pI (pI X.1 12 (nI p)) 16 (nI 0)) 4 re) 3 (nI p)) 0 (sI X.1 0 + nI 1), X.2) _ (df_X16_tick_33 n re (pI (pI X.1 12 (nI p)) 16 (nI 0), X.2)) := q
    obtain ⟨K', wr, X', x1, x2, x3, x4, ⟨y1, y2, y3, y4⟩, x6, x7⟩ := R2
    exact ⟨K', wr, X', x1, x2, x3, x4, ⟨y1, y2, y3, y4⟩, wrR_c (X := (pI X.1 0 (sI X.1 0 + nI 1), X.2)) (Y := (pI (pI (pI (pI (pI X.1 12 (nI p)) 16 (nI 0)) 4 re) 3 (nI p)) 0 (sI X.1 0 + nI 1), X.2)) rfl rfl x6, x7⟩
  by_cases c : sI X.1 3 = nI p
  · exact key _ g9 (Or.inl ⟨c, rfl⟩)
  · exact key _ (Or.inl rfl) (Or.inr ⟨c, rfl⟩)

theorem fl_s0 (f : Nat → Int32) (k : Nat) (v : Int32) : upd (fl f 0 k v) k v = fl f 0 (k + 1) v := by
  have := fl_s f 0 k v
  rw [Nat.zero_add] at this
  exact this
theorem fl_p {f : Nat → Int32} {k j : Nat} {v : Int32} (h : j < k) : fl f 0 k v j = v := fl_i (by omega)
theorem br_63 (n : Nat) (hn : 1024 < n) (v : Int32) (Y : St × St) : df_X16_boot_63 n n v (nI 0) Y = df_X16_boot_92 n n v (nI 0) (pR (pR Y.1 16 (fl (sR Y.1 16) 0 1024 (-nI 1))) 18 (fl (sR Y.1 18) 0 1024 (nI 0)), Y.2) := by
  obtain ⟨m, hm⟩ := nm_lq (fun m k => df_X16_boot_63 n m v (nI k) (pR (pR Y.1 16 (fl (sR Y.1 16) 0 k (-nI 1))) 18 (fl (sR Y.1 18) 0 k (nI 0)), Y.2)) 1024 n hn (fun k m hk => by
    have k1 : ¬ 1024 ≤ k := by omega
    have u1 : k < 2 ^ 31 := by omega
    rw [show df_X16_boot_63 n (m + 1) = dF_X16_boot_63 n (df_X16_boot_63 n m) from rfl]
    generalize df_X16_boot_63 n m = G
    simp (disch := (first | assumption | decide | omega)) only [dF_X16_boot_63, k1, fl_s0, eq_self, Nat.reduceEqDiff, Nat.reduceLeDiff, nm_rc (a := 18) (b := 16) (by decide), nl_0, nl_1, nl_16, nl_18, nl_1024, no_1, no_1024, pk_mul, nI_add, nm_ck, nI_clamp, nI_ltI, nI_leI, nI_eq, nb_b2, nb_b1, ↓nb_let, nm_z0, nm_z1, nb_II, nb_IR, nb_RI, nb_RR, nm_IL, nm_IQ, nm_RL, nm_RQ, nm_LI, nm_LR, nm_LL, nm_LQ, nm_QI, nm_QR, nm_QL, nm_QQ, nm_rr, nm_ii, nm_eqm, not_false_eq_true, pk_sub, nm_div, nm_shl, nm_shr, nm_ush, nm_or8, nm_or64, nm_or256, nm_m1, nm_m3, nm_m7, nm_m15, nm_m31, nm_m63, nm_m255, nm_m511, nm_m1023, nm_m2047, nm_m65535, Nat.reduceMod, Nat.reducePow, Nat.reduceAdd, Nat.reduceSub, Nat.reduceMul, nm_bo, nm_bi, nm_rc, nm_ic, nm_ri, nm_rl, nm_rq, nm_ql, nm_qi, nm_li, nm_us, nm_uu, nm_cp, nm_sa31, nm_sa7, nm_m127, nm_m2, nm_nz, nm_nzk, nm_eq32, nm_nzf, if_true, if_false, ↓reduceIte, if_pos, if_neg])
  have e : (pR (pR Y.1 16 (fl (sR Y.1 16) 0 0 (-nI 1))) 18 (fl (sR Y.1 18) 0 0 (nI 0)), Y.2) = Y := by
    rw [fl_0, fl_0, nm_r0, nm_r0]
  rw [e] at hm
  refine Eq.trans hm ?_
  show df_X16_boot_63 n (m + 1) v (nI 1024) _ = _
  rw [show df_X16_boot_63 n (m + 1) = dF_X16_boot_63 n (df_X16_boot_63 n m) from rfl]
  generalize df_X16_boot_63 n m = G
  generalize hF : df_X16_boot_92 n n = F
  unfold dF_X16_boot_63
  rw [if_pos (show (1024 : Int32) ≤ nI 1024 by decide), hF]
  rfl
/-- so many processes have begun -/
def bF (X s : St × St) (k : Nat) : Prop := (∀ q : Nat, q < k → sR s.1 1 q = nI 0 ∧ sR s.1 2 q = -nI 1 ∧ sR s.1 4 q = nI 0 ∧ sR s.1 5 q = nI 0 ∧ sR s.1 6 q = nI 0 ∧ sR s.1 7 q = -nI 1 ∧ sR s.1 8 q = nI 0 ∧ sQ s.1 0 q = -1 ∧ (∀ i : Nat, i < 16 → sR s.1 13 (16 * q + i) = nI 0 ∧ sR s.1 14 (16 * q + i) = -nI 1)) ∧ (∀ j : Nat, j = 0 ∨ 15 ≤ j → sR s.1 j = sR X.1 j) ∧ (∀ i : Nat, sI s.1 i = sI X.1 i) ∧ (∀ i : Nat, sL s.1 i = sL X.1 i) ∧ s.2 = X.2
theorem bF_s {X s : St × St} {k : Nat} (h : bF X s k) : bF X (bg s k 32 16) (k + 1) := by
  obtain ⟨h1, h2, h3, h4, h5⟩ := h
  refine ⟨fun q hq => ?_, fun j hj => ?_, fun i => ?_, fun i => ?_, ?_⟩
  · rw [bg_r1, bg_r2, bg_r4, bg_r5, bg_r6, bg_r7, bg_r8, bg_q, bg_r13, bg_r14]
    by_cases c : q = k
    · subst c
      refine ⟨nm_us, nm_us, nm_us, nm_us, nm_us, nm_us, nm_us, if_pos rfl, fun i hi => ⟨fl_i (by omega), fl_i (by omega)⟩⟩
    · obtain ⟨a1, a2, a3, a4, a5, a6, a7, a8, a9⟩ := h1 q (by omega)
      rw [nm_un c, nm_un c, nm_un c, nm_un c, nm_un c, nm_un c, nm_un c, up_o c]
      exact ⟨a1, a2, a3, a4, a5, a6, a7, a8, fun i hi => ⟨(fl_o (by omega)).trans (a9 i hi).1, (fl_o (by omega)).trans (a9 i hi).2⟩⟩
  · rw [bg_o s k 32 16 hj]; exact h2 j hj
  · rw [bg_i]; exact h3 i
  · rw [bg_l]; exact h4 i
  · rw [bg_2']; exact h5
theorem br_92 (n : Nat) (hn : 1024 < n) (v : Int32) (Y : St × St) : ∃ s : St × St, bF Y s 16 ∧ df_X16_boot_92 n n v (nI 0) Y = df_X16_boot_111 n n v (nI 0) s := by
  obtain ⟨m, s, i1, e⟩ := nm_l1 (S := St × St) (fun g k s => df_X16_boot_92 n g v (nI k) s) (fun k s => bF Y s k) 16 n (by omega) (fun k g s hk i1 => by
    refine ⟨bg s k 32 16, bF_s i1, ?_⟩
    have k1 : ¬ 16 ≤ k := by omega
    have u1 : k < 2 ^ 31 := by omega
    have nb := nk_begin n hn s hk
    rw [show df_X16_boot_92 n (g + 1) = dF_X16_boot_92 n (df_X16_boot_92 n g) from rfl]
    generalize df_X16_boot_92 n g = G
    generalize bg s k 32 16 = T at nb
    simp (disch := (first | assumption | decide | omega)) only [dF_X16_boot_92, k1, nb, eq_self, Nat.reduceEqDiff, Nat.reduceLeDiff, nl_0, nl_1, nl_16, no_1, no_1024, pk_mul, nI_add, nm_ck, nI_clamp, nI_ltI, nI_leI, nI_eq, nb_b2, nb_b1, ↓nb_let, nm_z0, nm_z1, nb_II, nb_IR, nb_RI, nb_RR, nm_IL, nm_IQ, nm_RL, nm_RQ, nm_LI, nm_LR, nm_LL, nm_LQ, nm_QI, nm_QR, nm_QL, nm_QQ, nm_rr, nm_ii, nm_eqm, not_false_eq_true, pk_sub, nm_div, nm_shl, nm_shr, nm_ush, nm_or8, nm_or64, nm_or256, nm_m1, nm_m3, nm_m7, nm_m15, nm_m31, nm_m63, nm_m255, nm_m511, nm_m1023, nm_m2047, nm_m65535, Nat.reduceMod, Nat.reducePow, Nat.reduceAdd, Nat.reduceSub, Nat.reduceMul, nm_bo, nm_bi, nm_rc, nm_ic, nm_ri, nm_rl, nm_rq, nm_ql, nm_qi, nm_li, nm_us, nm_uu, nm_cp, nm_sa31, nm_sa7, nm_m127, nm_m2, nm_nz, nm_nzk, nm_eq32, nm_nzf, if_true, if_false, ↓reduceIte, if_pos, if_neg]) Y ⟨fun q hq => by omega, fun _ _ => rfl, fun _ => rfl, fun _ => rfl, rfl⟩
  refine ⟨s, i1, Eq.trans e ?_⟩
  show df_X16_boot_92 n (m + 1) v (nI 16) s = _
  rw [show df_X16_boot_92 n (m + 1) = dF_X16_boot_92 n (df_X16_boot_92 n m) from rfl]
  generalize df_X16_boot_92 n m = G
  generalize hF : df_X16_boot_111 n n = F
  unfold dF_X16_boot_92
  rw [if_pos (show (16 : Int32) ≤ nI 16 by decide), hF]
  rfl
theorem br_111 (n : Nat) (hn : 1024 < n) (v : Int32) (Y : St × St) : df_X16_boot_111 n n v (nI 0) Y = df_X16_boot_132 n n v (nI 0) (pR Y.1 19 (fl (sR Y.1 19) 0 48 (nI 0)), Y.2) := by
  obtain ⟨m, hm⟩ := nm_lq (fun m k => df_X16_boot_111 n m v (nI k) (pR Y.1 19 (fl (sR Y.1 19) 0 k (nI 0)), Y.2)) 48 n (by omega) (fun k m hk => by
    have k1 : ¬ 48 ≤ k := by omega
    have u1 : k < 2 ^ 31 := by omega
    rw [show df_X16_boot_111 n (m + 1) = dF_X16_boot_111 n (df_X16_boot_111 n m) from rfl]
    generalize df_X16_boot_111 n m = G
    simp (disch := (first | assumption | decide | omega)) only [dF_X16_boot_111, k1, fl_s0, eq_self, Nat.reduceEqDiff, Nat.reduceLeDiff, nl_0, nl_1, nl_19, nl_48, no_1, no_1024, pk_mul, nI_add, nm_ck, nI_clamp, nI_ltI, nI_leI, nI_eq, nb_b2, nb_b1, ↓nb_let, nm_z0, nm_z1, nb_II, nb_IR, nb_RI, nb_RR, nm_IL, nm_IQ, nm_RL, nm_RQ, nm_LI, nm_LR, nm_LL, nm_LQ, nm_QI, nm_QR, nm_QL, nm_QQ, nm_rr, nm_ii, nm_eqm, not_false_eq_true, pk_sub, nm_div, nm_shl, nm_shr, nm_ush, nm_or8, nm_or64, nm_or256, nm_m1, nm_m3, nm_m7, nm_m15, nm_m31, nm_m63, nm_m255, nm_m511, nm_m1023, nm_m2047, nm_m65535, Nat.reduceMod, Nat.reducePow, Nat.reduceAdd, Nat.reduceSub, Nat.reduceMul, nm_bo, nm_bi, nm_rc, nm_ic, nm_ri, nm_rl, nm_rq, nm_ql, nm_qi, nm_li, nm_us, nm_uu, nm_cp, nm_sa31, nm_sa7, nm_m127, nm_m2, nm_nz, nm_nzk, nm_eq32, nm_nzf, if_true, if_false, ↓reduceIte, if_pos, if_neg])
  rw [fl_0, nm_r0] at hm
  refine Eq.trans hm ?_
  show df_X16_boot_111 n (m + 1) v (nI 48) _ = _
  rw [show df_X16_boot_111 n (m + 1) = dF_X16_boot_111 n (df_X16_boot_111 n m) from rfl]
  generalize df_X16_boot_111 n m = G
  generalize hF : df_X16_boot_132 n n = F
  unfold dF_X16_boot_111
  rw [if_pos (show (48 : Int32) ≤ nI 48 by decide), hF]
  rfl
theorem br_132 (n : Nat) (hn : 1024 < n) (v : Int32) (Y : St × St) : df_X16_boot_132 n n v (nI 0) Y = df_X16_boot_153 n n v (nI 0) (pR Y.1 23 (fl (sR Y.1 23) 0 8 (nI 0)), Y.2) := by
  obtain ⟨m, hm⟩ := nm_lq (fun m k => df_X16_boot_132 n m v (nI k) (pR Y.1 23 (fl (sR Y.1 23) 0 k (nI 0)), Y.2)) 8 n (by omega) (fun k m hk => by
    have k1 : ¬ 8 ≤ k := by omega
    have u1 : k < 2 ^ 31 := by omega
    rw [show df_X16_boot_132 n (m + 1) = dF_X16_boot_132 n (df_X16_boot_132 n m) from rfl]
    generalize df_X16_boot_132 n m = G
    simp (disch := (first | assumption | decide | omega)) only [dF_X16_boot_132, k1, fl_s0, eq_self, Nat.reduceEqDiff, Nat.reduceLeDiff, nl_0, nl_1, nl_8, nl_23, no_1, no_1024, pk_mul, nI_add, nm_ck, nI_clamp, nI_ltI, nI_leI, nI_eq, nb_b2, nb_b1, ↓nb_let, nm_z0, nm_z1, nb_II, nb_IR, nb_RI, nb_RR, nm_IL, nm_IQ, nm_RL, nm_RQ, nm_LI, nm_LR, nm_LL, nm_LQ, nm_QI, nm_QR, nm_QL, nm_QQ, nm_rr, nm_ii, nm_eqm, not_false_eq_true, pk_sub, nm_div, nm_shl, nm_shr, nm_ush, nm_or8, nm_or64, nm_or256, nm_m1, nm_m3, nm_m7, nm_m15, nm_m31, nm_m63, nm_m255, nm_m511, nm_m1023, nm_m2047, nm_m65535, Nat.reduceMod, Nat.reducePow, Nat.reduceAdd, Nat.reduceSub, Nat.reduceMul, nm_bo, nm_bi, nm_rc, nm_ic, nm_ri, nm_rl, nm_rq, nm_ql, nm_qi, nm_li, nm_us, nm_uu, nm_cp, nm_sa31, nm_sa7, nm_m127, nm_m2, nm_nz, nm_nzk, nm_eq32, nm_nzf, if_true, if_false, ↓reduceIte, if_pos, if_neg])
  rw [fl_0, nm_r0] at hm
  refine Eq.trans hm ?_
  show df_X16_boot_132 n (m + 1) v (nI 8) _ = _
  rw [show df_X16_boot_132 n (m + 1) = dF_X16_boot_132 n (df_X16_boot_132 n m) from rfl]
  generalize df_X16_boot_132 n m = G
  generalize hF : df_X16_boot_153 n n = F
  unfold dF_X16_boot_132
  rw [if_pos (show (8 : Int32) ≤ nI 8 by decide), hF]
  rfl
/-- what follows the reference's loops -/
def btl (n : Nat) (v : Int32) (s : St × St) : Option (St × St) := nd_b1 (df_X16_load n (nI 0) v s) (fun s20 => nd_b2 (df_X16_opening n (nI 4) (nI 0) (nI 3) s20) (fun q s23 => df_X16_settle n (pR s23.1 14 (upd (upd (sR s23.1 14) 1 q) 0 q), s23.2)))
theorem br_153 (n : Nat) (hn : 1024 < n) (v : Int32) (Y : St × St) : df_X16_boot_153 n n v (nI 0) Y = btl n v (pR (pR (pR Y.1 24 (fl (sR Y.1 24) 0 16 (nI 0))) 25 (fl (sR Y.1 25) 0 16 (nI 0))) 1 (upd (sR Y.1 1) 0 (nI 1)), Y.2) := by
  obtain ⟨m, hm⟩ := nm_lq (fun m k => df_X16_boot_153 n m v (nI k) (pR (pR Y.1 24 (fl (sR Y.1 24) 0 k (nI 0))) 25 (fl (sR Y.1 25) 0 k (nI 0)), Y.2)) 16 n (by omega) (fun k m hk => by
    have k1 : ¬ 16 ≤ k := by omega
    have u1 : k < 2 ^ 31 := by omega
    rw [show df_X16_boot_153 n (m + 1) = dF_X16_boot_153 n (df_X16_boot_153 n m) from rfl]
    generalize df_X16_boot_153 n m = G
    simp (disch := (first | assumption | decide | omega)) only [dF_X16_boot_153, k1, fl_s0, eq_self, Nat.reduceEqDiff, Nat.reduceLeDiff, nm_rc (a := 25) (b := 24) (by decide), nl_0, nl_1, nl_3, nl_4, nl_14, nl_16, nl_24, nl_25, no_1, no_1024, pk_mul, nI_add, nm_ck, nI_clamp, nI_ltI, nI_leI, nI_eq, nb_b2, nb_b1, ↓nb_let, nm_z0, nm_z1, nb_II, nb_IR, nb_RI, nb_RR, nm_IL, nm_IQ, nm_RL, nm_RQ, nm_LI, nm_LR, nm_LL, nm_LQ, nm_QI, nm_QR, nm_QL, nm_QQ, nm_rr, nm_ii, nm_eqm, not_false_eq_true, pk_sub, nm_div, nm_shl, nm_shr, nm_ush, nm_or8, nm_or64, nm_or256, nm_m1, nm_m3, nm_m7, nm_m15, nm_m31, nm_m63, nm_m255, nm_m511, nm_m1023, nm_m2047, nm_m65535, Nat.reduceMod, Nat.reducePow, Nat.reduceAdd, Nat.reduceSub, Nat.reduceMul, nm_bo, nm_bi, nm_rc, nm_ic, nm_ri, nm_rl, nm_rq, nm_ql, nm_qi, nm_li, nm_us, nm_uu, nm_cp, nm_sa31, nm_sa7, nm_m127, nm_m2, nm_nz, nm_nzk, nm_eq32, nm_nzf, if_true, if_false, ↓reduceIte, if_pos, if_neg])
  have e : (pR (pR Y.1 24 (fl (sR Y.1 24) 0 0 (nI 0))) 25 (fl (sR Y.1 25) 0 0 (nI 0)), Y.2) = Y := by
    rw [fl_0, fl_0, nm_r0, nm_r0]
  rw [e] at hm
  refine Eq.trans hm ?_
  show df_X16_boot_153 n (m + 1) v (nI 16) _ = _
  rw [show df_X16_boot_153 n (m + 1) = dF_X16_boot_153 n (df_X16_boot_153 n m) from rfl]
  generalize df_X16_boot_153 n m = G
  have c0 : ∀ x : Option (St × St), nd_b1 x (fun s => some s) = x := fun x => by cases x <;> rfl
  have u1 : (0 : Nat) < 2 ^ 31 := by omega
  unfold btl
  generalize fl (sR Y.1 24) 0 16 (nI 0) = F1
  generalize fl (sR Y.1 25) 0 16 (nI 0) = F2
  simp (disch := (first | assumption | decide | omega)) only [dF_X16_boot_153, c0, eq_self, Nat.reduceEqDiff, Nat.reduceLeDiff, nl_0, nl_1, nl_3, nl_4, nl_14, nl_16, nl_24, nl_25, no_1, no_1024, pk_mul, nI_add, nm_ck, nI_clamp, nI_ltI, nI_leI, nI_eq, nb_b2, nb_b1, ↓nb_let, nm_z0, nm_z1, nb_II, nb_IR, nb_RI, nb_RR, nm_IL, nm_IQ, nm_RL, nm_RQ, nm_LI, nm_LR, nm_LL, nm_LQ, nm_QI, nm_QR, nm_QL, nm_QQ, nm_rr, nm_ii, nm_eqm, not_false_eq_true, pk_sub, nm_div, nm_shl, nm_shr, nm_ush, nm_or8, nm_or64, nm_or256, nm_m1, nm_m3, nm_m7, nm_m15, nm_m31, nm_m63, nm_m255, nm_m511, nm_m1023, nm_m2047, nm_m65535, Nat.reduceMod, Nat.reducePow, Nat.reduceAdd, Nat.reduceSub, Nat.reduceMul, nm_bo, nm_bi, nm_rc, nm_ic, nm_ri, nm_rl, nm_rq, nm_ql, nm_qi, nm_li, nm_us, nm_uu, nm_cp, nm_sa31, nm_sa7, nm_m127, nm_m2, nm_nz, nm_nzk, nm_eq32, nm_nzf, if_true, if_false, ↓reduceIte, if_pos, if_neg]
/-- the reference, before the program is loaded -/
theorem br_all (n : Nat) (hn : 1024 < n) (v : Int32) (X : St × St) : ∃ s : St × St, df_X16_boot n v X = btl n v s ∧ (∀ q : Nat, q < 16 → sR s.1 1 q = (if q = 0 then nI 1 else nI 0) ∧ sR s.1 2 q = -nI 1 ∧ sR s.1 4 q = nI 0 ∧ sR s.1 5 q = nI 0 ∧ sR s.1 6 q = nI 0 ∧ sR s.1 7 q = -nI 1 ∧ sR s.1 8 q = nI 0 ∧ sQ s.1 0 q = -1 ∧ (∀ i : Nat, i < 16 → sR s.1 13 (16 * q + i) = nI 0 ∧ sR s.1 14 (16 * q + i) = -nI 1)) ∧ (∀ i : Nat, i < 1024 → sR s.1 16 i = -nI 1 ∧ sR s.1 18 i = nI 0) ∧ (∀ o : Nat, o < 48 → sR s.1 19 o = nI 0) ∧ (∀ k : Nat, k < 8 → sR s.1 23 k = nI 0) ∧ (∀ k : Nat, k < 16 → sR s.1 24 k = nI 0 ∧ sR s.1 25 k = nI 0) ∧ (sI s.1 0 = nI 0 ∧ sI s.1 1 = -nI 1 ∧ sI s.1 2 = nI 15 ∧ sI s.1 3 = -nI 1 ∧ sI s.1 4 = -nI 1 ∧ sI s.1 5 = nI 0 ∧ sI s.1 6 = nI 0 ∧ sI s.1 7 = nI 0 ∧ sI s.1 14 = -nI 1) ∧ sL s.1 0 = 0 ∧ sL s.1 1 = 0 ∧ sL s.1 2 = 0 ∧ s.2 = X.2 := by
  have e0 : df_X16_boot n v X = df_X16_boot_63 n n v (nI 0) (pI (pL (pL (pL (pI (pI (pI (pI (pI (pI (pI (pI X.1 7 (nI 0)) 5 (nI 0)) 6 (nI 0)) 0 (nI 0)) 4 (-nI 1)) 3 (-nI 1)) 1 (-nI 1)) 2 (nI 15)) 2 0) 1 0) 0 0) 14 (-nI 1), X.2) := rfl
  have i0 : ∀ k : Nat, sR (pI (pL (pL (pL (pI (pI (pI (pI (pI (pI (pI (pI X.1 7 (nI 0)) 5 (nI 0)) 6 (nI 0)) 0 (nI 0)) 4 (-nI 1)) 3 (-nI 1)) 1 (-nI 1)) 2 (nI 15)) 2 0) 1 0) 0 0) 14 (-nI 1)) k = sR X.1 k := fun _ => rfl
  have ii : sI (pI (pL (pL (pL (pI (pI (pI (pI (pI (pI (pI (pI X.1 7 (nI 0)) 5 (nI 0)) 6 (nI 0)) 0 (nI 0)) 4 (-nI 1)) 3 (-nI 1)) 1 (-nI 1)) 2 (nI 15)) 2 0) 1 0) 0 0) 14 (-nI 1)) 0 = nI 0 ∧ sI (pI (pL (pL (pL (pI (pI (pI (pI (pI (pI (pI (pI X.1 7 (nI 0)) 5 (nI 0)) 6 (nI 0)) 0 (nI 0)) 4 (-nI 1)) 3 (-nI 1)) 1 (-nI 1)) 2 (nI 15)) 2 0) 1 0) 0 0) 14 (-nI 1)) 1 = -nI 1 ∧ sI (pI (pL (pL (pL (pI (pI (pI (pI (pI (pI (pI (pI X.1 7 (nI 0)) 5 (nI 0)) 6 (nI 0)) 0 (nI 0)) 4 (-nI 1)) 3 (-nI 1)) 1 (-nI 1)) 2 (nI 15)) 2 0) 1 0) 0 0) 14 (-nI 1)) 2 = nI 15 ∧ sI (pI (pL (pL (pL (pI (pI (pI (pI (pI (pI (pI (pI X.1 7 (nI 0)) 5 (nI 0)) 6 (nI 0)) 0 (nI 0)) 4 (-nI 1)) 3 (-nI 1)) 1 (-nI 1)) 2 (nI 15)) 2 0) 1 0) 0 0) 14 (-nI 1)) 3 = -nI 1 ∧ sI (pI (pL (pL (pL (pI (pI (pI (pI (pI (pI (pI (pI X.1 7 (nI 0)) 5 (nI 0)) 6 (nI 0)) 0 (nI 0)) 4 (-nI 1)) 3 (-nI 1)) 1 (-nI 1)) 2 (nI 15)) 2 0) 1 0) 0 0) 14 (-nI 1)) 4 = -nI 1 ∧ sI (pI (pL (pL (pL (pI (pI (pI (pI (pI (pI (pI (pI X.1 7 (nI 0)) 5 (nI 0)) 6 (nI 0)) 0 (nI 0)) 4 (-nI 1)) 3 (-nI 1)) 1 (-nI 1)) 2 (nI 15)) 2 0) 1 0) 0 0) 14 (-nI 1)) 5 = nI 0 ∧ sI (pI (pL (pL (pL (pI (pI (pI (pI (pI (pI (pI (pI X.1 7 (nI 0)) 5 (nI 0)) 6 (nI 0)) 0 (nI 0)) 4 (-nI 1)) 3 (-nI 1)) 1 (-nI 1)) 2 (nI 15)) 2 0) 1 0) 0 0) 14 (-nI 1)) 6 = nI 0 ∧ sI (pI (pL (pL (pL (pI (pI (pI (pI (pI (pI (pI (pI X.1 7 (nI 0)) 5 (nI 0)) 6 (nI 0)) 0 (nI 0)) 4 (-nI 1)) 3 (-nI 1)) 1 (-nI 1)) 2 (nI 15)) 2 0) 1 0) 0 0) 14 (-nI 1)) 7 = nI 0 ∧ sI (pI (pL (pL (pL (pI (pI (pI (pI (pI (pI (pI (pI X.1 7 (nI 0)) 5 (nI 0)) 6 (nI 0)) 0 (nI 0)) 4 (-nI 1)) 3 (-nI 1)) 1 (-nI 1)) 2 (nI 15)) 2 0) 1 0) 0 0) 14 (-nI 1)) 14 = -nI 1 := ⟨rfl, rfl, rfl, rfl, rfl, rfl, rfl, rfl, rfl⟩
  have ll : sL (pI (pL (pL (pL (pI (pI (pI (pI (pI (pI (pI (pI X.1 7 (nI 0)) 5 (nI 0)) 6 (nI 0)) 0 (nI 0)) 4 (-nI 1)) 3 (-nI 1)) 1 (-nI 1)) 2 (nI 15)) 2 0) 1 0) 0 0) 14 (-nI 1)) 0 = 0 ∧ sL (pI (pL (pL (pL (pI (pI (pI (pI (pI (pI (pI (pI X.1 7 (nI 0)) 5 (nI 0)) 6 (nI 0)) 0 (nI 0)) 4 (-nI 1)) 3 (-nI 1)) 1 (-nI 1)) 2 (nI 15)) 2 0) 1 0) 0 0) 14 (-nI 1)) 1 = 0 ∧ sL (pI (pL (pL (pL (pI (pI (pI (pI (pI (pI (pI (pI X.1 7 (nI 0)) 5 (nI 0)) 6 (nI 0)) 0 (nI 0)) 4 (-nI 1)) 3 (-nI 1)) 1 (-nI 1)) 2 (nI 15)) 2 0) 1 0) 0 0) 14 (-nI 1)) 2 = 0 := ⟨rfl, rfl, rfl⟩
  generalize pI (pL (pL (pL (pI (pI (pI (pI (pI (pI (pI (pI X.1 7 (nI 0)) 5 (nI 0)) 6 (nI 0)) 0 (nI 0)) 4 (-nI 1)) 3 (-nI 1)) 1 (-nI 1)) 2 (nI 15)) 2 0) 1 0) 0 0) 14 (-nI 1) = Y at e0 i0 ii ll
  rw [br_63 n hn] at e0
  obtain ⟨s, ⟨b1, b2, b3, b4, b5⟩, e1⟩ := br_92 n hn v (pR (pR Y 16 (fl (sR Y 16) 0 1024 (-nI 1))) 18 (fl (sR Y 18) 0 1024 (nI 0)), X.2)
  rw [e1, br_111 n hn, br_132 n hn, br_153 n hn] at e0
  have b16 : sR s.1 16 = fl (sR Y 16) 0 1024 (-nI 1) := b2 16 (by omega)
  have b18 : sR s.1 18 = fl (sR Y 18) 0 1024 (nI 0) := b2 18 (by omega)
  have b3 : ∀ i : Nat, sI s.1 i = sI Y i := b3
  have b4 : ∀ i : Nat, sL s.1 i = sL Y i := b4
  refine ⟨_, e0, fun q hq => ?_, fun i hi => ?_, fun o ho => fl_p (by omega), fun k hk => fl_p (by omega), fun k hk => ⟨fl_p (by omega), fl_p (by omega)⟩, ?_, ?_, ?_, ?_, b5⟩
  · obtain ⟨a1, a2, a3, a4, a5, a6, a7, a8, a9⟩ := b1 q hq
    refine ⟨?_, a2, a3, a4, a5, a6, a7, a8, a9⟩
    show upd (sR s.1 1) 0 (nI 1) q = _
    by_cases c : q = 0
    · rw [if_pos c, c, nm_us]
    · rw [if_neg c, nm_un c]; exact a1
  · exact ⟨(congrFun b16 i).trans (fl_p (by omega)), (congrFun b18 i).trans (fl_p (by omega))⟩
  · obtain ⟨c0, c1, c2, c3, c4, c5, c6, c7, c8⟩ := ii
    exact ⟨(b3 0).trans c0, (b3 1).trans c1, (b3 2).trans c2, (b3 3).trans c3, (b3 4).trans c4, (b3 5).trans c5, (b3 6).trans c6, (b3 7).trans c7, (b3 14).trans c8⟩
  · exact (b4 0).trans ll.1
  · exact (b4 1).trans ll.2.1
  · exact (b4 2).trans ll.2.2

/-- so many processes are absent, in the class -/
def abk (f : Nat → Int32) (k : Nat) : Nat → Int32 := fun j => if j < k * 7 then (if j % 7 = 1 then -nI 1 else nI 0) else f j
theorem abk_0 (f : Nat → Int32) : abk f 0 = f := by
  funext j
  exact if_neg (by omega)
theorem abk_s (f : Nat → Int32) (k : Nat) : ab (abk f k) k 7 = abk f (k + 1) := by
  funext j
  unfold ab abk
  by_cases c : k * 7 ≤ j ∧ j < k * 7 + 7
  · rw [if_pos c, if_pos (show j < (k + 1) * 7 by omega)]
    by_cases d : j = k * 7 + 1
    · rw [if_pos d, if_pos (show j % 7 = 1 by omega)]
    · rw [if_neg d, if_neg (show ¬ j % 7 = 1 by omega)]
  · rw [if_neg c]
    by_cases d : j < k * 7
    · rw [if_pos d, if_pos (show j < (k + 1) * 7 by omega)]
    · rw [if_neg d, if_neg (show ¬ j < (k + 1) * 7 by omega)]
theorem abk_i (f : Nat → Int32) {q i : Nat} (hq : q < 16) (hi : i < 7) : abk f 16 (q * 7 + i) = if i = 1 then -nI 1 else nI 0 := by
  unfold abk
  rw [if_pos (by omega)]
  by_cases c : i = 1
  · rw [if_pos c, if_pos (by omega)]
  · rw [if_neg c, if_neg (by omega)]
theorem nf_i {n : Nat} {v : Int32} {f : Nat → Int32} {j : Nat} (h : j < n) : nd_fl n v f j = v := if_pos h
theorem cs_o (n : Nat) (hn : 0 < n) {T : St} (e : sR T 1 0 = nI 0) : df_X10_open n (nI 4) (nI 0) (nI 3) T = some (nI 0, pR T 1 (orw (sR T 1) 0 (nI 4) (nI 0) (nI 3))) := by
  obtain ⟨m, rfl⟩ : ∃ m : Nat, n = m + 1 := ⟨n - 1, by omega⟩
  refine Eq.trans (b := df_X10_open_3 (m + 1) (m + 1) (nI 4) (nI 0) (nI 3) (nI 0) T) rfl ?_
  rw [show df_X10_open_3 (m + 1) (m + 1) = dF_X10_open_3 (m + 1) (df_X10_open_3 (m + 1) m) from rfl]
  generalize df_X10_open_3 (m + 1) m = G
  unfold orw
  simp (disch := (first | assumption | decide | omega)) only [dF_X10_open_3, df_X10_hold_41, df_X10_hold_0, df_X10_hold, e, Nat.add_zero, Nat.zero_mul, Nat.zero_add, eq_self, Nat.reduceEqDiff, Nat.reduceLeDiff, nl_0, nl_1, nl_2, nl_3, nl_4, nl_5, nl_32, nl_48, nl_240, no_1, no_1024, pk_mul, nI_add, nm_ck, nI_clamp, nI_ltI, nI_leI, nI_eq, nb_b2, nb_b1, ↓nb_let, nm_z0, nm_z1, nb_II, nb_IR, nb_RI, nb_RR, nm_IL, nm_IQ, nm_RL, nm_RQ, nm_LI, nm_LR, nm_LL, nm_LQ, nm_QI, nm_QR, nm_QL, nm_QQ, nm_rr, nm_ii, nm_eqm, not_false_eq_true, pk_sub, nm_div, nm_shl, nm_shr, nm_ush, nm_or8, nm_or64, nm_or256, nm_m1, nm_m3, nm_m7, nm_m15, nm_m31, nm_m63, nm_m255, nm_m511, nm_m1023, nm_m2047, nm_m65535, Nat.reduceMod, Nat.reducePow, Nat.reduceAdd, Nat.reduceSub, Nat.reduceMul, nm_bo, nm_bi, nm_rc, nm_ic, nm_ri, nm_rl, nm_rq, nm_ql, nm_qi, nm_li, nm_us, nm_uu, nm_cp, nm_sa31, nm_sa7, nm_m127, nm_m2, nm_nz, nm_nzk, nm_eq32, nm_nzf, if_true, if_false, ↓reduceIte, if_pos, if_neg]
/-- the class's things begin: once the rows are empty -/
theorem cs_T (n : Nat) (hn : 0 < n) {T : St} (t0 : ∀ i : Nat, i < 256 → sR T 0 i = nI 0) (t1 : ∀ i : Nat, i < 240 → sR T 1 i = nI 0) (t2 : ∀ i : Nat, i < 32 → sR T 2 i = nI 0) (t4 : ∀ i : Nat, i < 48 → sR T 4 i = nI 0) (ti : sI T 0 = nI 0) (tl : sL T 0 = 0) : ∃ D' : St, nd_b2 (df_X10_open n (nI 4) (nI 0) (nI 3) T) (fun q s => nd_b1 (df_X10_linkTo n (nI 0) (nI 0) q s) (fun s' => nd_b1 (df_X10_linkTo n (nI 0) (nI 1) q s') (fun s'' => some s''))) = some D' ∧ (∀ i : Nat, i < 256 → sR D' 0 i = if i < 2 then nI 1 else nI 0) ∧ (∀ o : Nat, o < 48 → sR D' 1 (o * 5) = if o = 0 then nI 4 else nI 0) ∧ sR D' 1 1 = nI 2 ∧ sR D' 1 2 = nI 0 ∧ sR D' 1 3 = nI 0 ∧ sR D' 1 4 = nI 3 ∧ (∀ k : Nat, k < 32 → sR D' 2 k = nI 0) ∧ (∀ k : Nat, k < 48 → sR D' 4 k = nI 0) ∧ sI D' 0 = nI 0 ∧ sL D' 0 = 0 ∧ (okY T → okY D') := by
  have op := cs_o n hn (t1 0 (by omega))
  have o0 : ∀ o : Nat, o < 48 → orw (sR T 1) 0 (nI 4) (nI 0) (nI 3) (o * 5) = if o = 0 then nI 4 else nI 0 := fun o ho => by
    unfold orw
    by_cases c : o = 0
    · rw [c, if_pos rfl, nm_un (by omega), nm_un (by omega), nm_un (by omega), nm_un (by omega)]; exact nm_us
    · rw [if_neg c, nm_un (by omega), nm_un (by omega), nm_un (by omega), nm_un (by omega), nm_un (by omega)]
      exact t1 _ (by omega)
  have o1 : orw (sR T 1) 0 (nI 4) (nI 0) (nI 3) (0 * 5 + 1) = nI 0 := by
    unfold orw
    rw [nm_un (by omega), nm_un (by omega), nm_un (by omega)]; exact nm_us
  have o2 : orw (sR T 1) 0 (nI 4) (nI 0) (nI 3) 2 = nI 0 := by
    unfold orw
    rw [nm_un (by omega), nm_un (by omega)]; exact nm_us
  have o3 : orw (sR T 1) 0 (nI 4) (nI 0) (nI 3) 3 = nI 0 := by
    unfold orw
    rw [nm_un (by omega)]; exact nm_us
  have o4 : orw (sR T 1) 0 (nI 4) (nI 0) (nI 3) 4 = nI 3 := by
    unfold orw
    exact nm_us
  generalize orw (sR T 1) 0 (nI 4) (nI 0) (nI 3) = O at op o0 o1 o2 o3 o4
  have h1 := nk_linkTo n (D := pR T 1 O) (p := 0) (e := 0) (o := 0) (c := 0) (by omega) (by omega) (by omega) (by omega) o1
  have h1 : df_X10_linkTo n (nI 0) (nI 0) (nI 0) (pR T 1 O) = some (dU (pR T 1 O) (upd (sR T 0) (0 * 16 + 0) (nI (0 + 1))) (upd O (0 * 5 + 1) (nI (0 + 1))) (sR T 2) (sR T 4)) := h1
  have h2 := nk_linkTo n (D := dU (pR T 1 O) (upd (sR T 0) (0 * 16 + 0) (nI (0 + 1))) (upd O (0 * 5 + 1) (nI (0 + 1))) (sR T 2) (sR T 4)) (p := 0) (e := 1) (o := 0) (c := 1) (by omega) (by omega) (by omega) (by omega) (show upd O (0 * 5 + 1) (nI (0 + 1)) (0 * 5 + 1) = nI 1 from nm_us)
  have h2 : df_X10_linkTo n (nI 0) (nI 1) (nI 0) (dU (pR T 1 O) (upd (sR T 0) (0 * 16 + 0) (nI (0 + 1))) (upd O (0 * 5 + 1) (nI (0 + 1))) (sR T 2) (sR T 4)) = some (dU (dU (pR T 1 O) (upd (sR T 0) (0 * 16 + 0) (nI (0 + 1))) (upd O (0 * 5 + 1) (nI (0 + 1))) (sR T 2) (sR T 4)) (upd (upd (sR T 0) (0 * 16 + 0) (nI (0 + 1))) (0 * 16 + 1) (nI (0 + 1))) (upd (upd O (0 * 5 + 1) (nI (0 + 1))) (0 * 5 + 1) (nI (1 + 1))) (sR T 2) (sR T 4)) := h2
  refine ⟨(dU (dU (pR T 1 O) (upd (sR T 0) (0 * 16 + 0) (nI (0 + 1))) (upd O (0 * 5 + 1) (nI (0 + 1))) (sR T 2) (sR T 4)) (upd (upd (sR T 0) (0 * 16 + 0) (nI (0 + 1))) (0 * 16 + 1) (nI (0 + 1))) (upd (upd O (0 * 5 + 1) (nI (0 + 1))) (0 * 5 + 1) (nI (1 + 1))) (sR T 2) (sR T 4)), by rw [op, nb_b2, h1, nb_b1, h2, nb_b1], fun i hi => ?_, fun o ho => ?_, ?_, ?_, ?_, ?_, t2, t4, ti, tl, fun h => h⟩
  · show upd (upd (sR T 0) (0 * 16 + 0) (nI (0 + 1))) (0 * 16 + 1) (nI (0 + 1)) i = _
    by_cases c : i = 1
    · rw [c, if_pos (by omega)]; exact nm_us
    · rw [nm_un (by omega)]
      by_cases d : i = 0
      · rw [d, if_pos (by omega)]; exact nm_us
      · rw [nm_un (by omega), if_neg (by omega)]
        exact t0 i hi
  · show upd (upd O (0 * 5 + 1) (nI (0 + 1))) (0 * 5 + 1) (nI (1 + 1)) (o * 5) = _
    rw [nm_un (by omega), nm_un (by omega)]
    exact o0 o ho
  · show upd (upd O (0 * 5 + 1) (nI (0 + 1))) (0 * 5 + 1) (nI (1 + 1)) 1 = _
    exact nm_us
  · show upd (upd O (0 * 5 + 1) (nI (0 + 1))) (0 * 5 + 1) (nI (1 + 1)) 2 = _
    rw [nm_un (by omega), nm_un (by omega)]
    exact o2
  · show upd (upd O (0 * 5 + 1) (nI (0 + 1))) (0 * 5 + 1) (nI (1 + 1)) 3 = _
    rw [nm_un (by omega), nm_un (by omega)]
    exact o3
  · show upd (upd O (0 * 5 + 1) (nI (0 + 1))) (0 * 5 + 1) (nI (1 + 1)) 4 = _
    rw [nm_un (by omega), nm_un (by omega)]
    exact o4
theorem cs_D (n : Nat) (hn : 1024 < n) (D : St) : ∃ D' : St, df_X10_start n D = some D' ∧ (∀ i : Nat, i < 256 → sR D' 0 i = if i < 2 then nI 1 else nI 0) ∧ (∀ o : Nat, o < 48 → sR D' 1 (o * 5) = if o = 0 then nI 4 else nI 0) ∧ sR D' 1 1 = nI 2 ∧ sR D' 1 2 = nI 0 ∧ sR D' 1 3 = nI 0 ∧ sR D' 1 4 = nI 3 ∧ (∀ k : Nat, k < 32 → sR D' 2 k = nI 0) ∧ (∀ k : Nat, k < 48 → sR D' 4 k = nI 0) ∧ sI D' 0 = nI 0 ∧ sL D' 0 = 0 ∧ (okY D → okY D') := cs_T n (by omega) (T := pL (pI (pR (pR (pR (pR D 0 (nd_fl 256 0 (sR D 0))) 1 (nd_fl 240 0 (sR D 1))) 2 (nd_fl 32 0 (sR D 2))) 4 (nd_fl 48 0 (sR D 4))) 0 (nI 0)) 0 0) (fun i hi => nf_i hi) (fun i hi => nf_i hi) (fun i hi => nf_i hi) (fun i hi => nf_i hi) rfl rfl
/-- the class's machine, before the program is loaded -/
def cM (M : St × St) (D : St) : St × St := (pI (pL (pL (pI (pI (pI (pI (pI (pR (pI (pR (pR M.1 1 (nd_fl 256 0 (sR M.1 1))) 2 (nd_fl 1024 0 (sR M.1 2))) 0 (nI 0)) 6 (abk (sR M.1 6) 16)) 1 (nI 0)) 2 (nI 0)) 3 (-nI 1)) 4 (nI 15)) 5 (-nI 1)) 0 0) 1 0) 7 (nI 0), D)
theorem cs_M (n : Nat) (hn : 1024 < n) {M : St × St} {P s0 D' : St} (hD : df_X10_start n M.2 = some D') : df_X6_start n (s0, (M, P)) = nd_b1 (df_X6_load n (nI 0) (s0, (cM M D', P))) (fun s18 => nd_b1 (df_X6_chooseCurrent n (pR s18.2.1.1 6 (upd (sR s18.2.1.1 6) 0 (nI 1)), s18.2.1.2)) (fun s22 => some (s18.1, (s22, s18.2.2)))) := by
  obtain ⟨m, hm⟩ := nm_lq (fun m k => df_X6_start_23 n m (nI k) (s0, ((pR (pI (pR (pR M.1 1 (nd_fl 256 0 (sR M.1 1))) 2 (nd_fl 1024 0 (sR M.1 2))) 0 (nI 0)) 6 (abk (sR M.1 6) k), M.2), P))) 16 n (by omega) (fun k m hk => by
    have k1 : ¬ 16 ≤ k := by omega
    have u1 : k < 2 ^ 31 := by omega
    have ma := nk_makeAbsent n hn (pR (pI (pR (pR M.1 1 (nd_fl 256 0 (sR M.1 1))) 2 (nd_fl 1024 0 (sR M.1 2))) 0 (nI 0)) 6 (abk (sR M.1 6) k), M.2) hk
    have ma : df_X6_makeAbsent n (nI k) (pR (pI (pR (pR M.1 1 (nd_fl 256 0 (sR M.1 1))) 2 (nd_fl 1024 0 (sR M.1 2))) 0 (nI 0)) 6 (abk (sR M.1 6) k), M.2) = some (pR (pR (pI (pR (pR M.1 1 (nd_fl 256 0 (sR M.1 1))) 2 (nd_fl 1024 0 (sR M.1 2))) 0 (nI 0)) 6 (abk (sR M.1 6) k)) 6 (ab (abk (sR M.1 6) k) k 7), M.2) := ma
    rw [abk_s, nm_rr] at ma
    rw [show df_X6_start_23 n (m + 1) = dF_X6_start_23 n (df_X6_start_23 n m) from rfl]
    generalize df_X6_start_23 n m = G
    generalize pR (pI (pR (pR M.1 1 (nd_fl 256 0 (sR M.1 1))) 2 (nd_fl 1024 0 (sR M.1 2))) 0 (nI 0)) 6 (abk (sR M.1 6) k) = T1 at ma
    generalize pR (pI (pR (pR M.1 1 (nd_fl 256 0 (sR M.1 1))) 2 (nd_fl 1024 0 (sR M.1 2))) 0 (nI 0)) 6 (abk (sR M.1 6) (k + 1)) = T2 at ma
    simp (disch := (first | assumption | decide | omega)) only [dF_X6_start_23, k1, ma, eq_self, Nat.reduceEqDiff, Nat.reduceLeDiff, nl_0, nl_1, nl_2, nl_3, nl_4, nl_5, nl_6, nl_7, nl_15, nl_16, no_1, no_1024, pk_mul, nI_add, nm_ck, nI_clamp, nI_ltI, nI_leI, nI_eq, nb_b2, nb_b1, ↓nb_let, nm_z0, nm_z1, nb_II, nb_IR, nb_RI, nb_RR, nm_IL, nm_IQ, nm_RL, nm_RQ, nm_LI, nm_LR, nm_LL, nm_LQ, nm_QI, nm_QR, nm_QL, nm_QQ, nm_rr, nm_ii, nm_eqm, not_false_eq_true, pk_sub, nm_div, nm_shl, nm_shr, nm_ush, nm_or8, nm_or64, nm_or256, nm_m1, nm_m3, nm_m7, nm_m15, nm_m31, nm_m63, nm_m255, nm_m511, nm_m1023, nm_m2047, nm_m65535, Nat.reduceMod, Nat.reducePow, Nat.reduceAdd, Nat.reduceSub, Nat.reduceMul, nm_bo, nm_bi, nm_rc, nm_ic, nm_ri, nm_rl, nm_rq, nm_ql, nm_qi, nm_li, nm_us, nm_uu, nm_cp, nm_sa31, nm_sa7, nm_m127, nm_m2, nm_nz, nm_nzk, nm_eq32, nm_nzf, if_true, if_false, ↓reduceIte, if_pos, if_neg])
  have e0 : df_X6_start n (s0, (M, P)) = df_X6_start_23 n n (nI 0) (s0, ((pI (pR (pR M.1 1 (nd_fl 256 0 (sR M.1 1))) 2 (nd_fl 1024 0 (sR M.1 2))) 0 (nI 0), M.2), P)) := rfl
  have e1 : pR (pI (pR (pR M.1 1 (nd_fl 256 0 (sR M.1 1))) 2 (nd_fl 1024 0 (sR M.1 2))) 0 (nI 0)) 6 (abk (sR M.1 6) 0) = pI (pR (pR M.1 1 (nd_fl 256 0 (sR M.1 1))) 2 (nd_fl 1024 0 (sR M.1 2))) 0 (nI 0) := by
    rw [abk_0, show sR M.1 6 = sR (pI (pR (pR M.1 1 (nd_fl 256 0 (sR M.1 1))) 2 (nd_fl 1024 0 (sR M.1 2))) 0 (nI 0)) 6 from rfl, nm_r0]
  rw [e1] at hm
  rw [e0]
  refine Eq.trans hm ?_
  show df_X6_start_23 n (m + 1) (nI 16) _ = _
  rw [show df_X6_start_23 n (m + 1) = dF_X6_start_23 n (df_X6_start_23 n m) from rfl]
  generalize df_X6_start_23 n m = G
  unfold cM
  generalize pR (pI (pR (pR M.1 1 (nd_fl 256 0 (sR M.1 1))) 2 (nd_fl 1024 0 (sR M.1 2))) 0 (nI 0)) 6 (abk (sR M.1 6) 16) = T
  unfold dF_X6_start_23
  rw [if_pos (show (16 : Int32) ≤ nI 16 by decide)]
  rw [nb_let, nb_let, nb_let, nb_let, nb_let, nb_let, nb_let, nb_let, hD, nb_b1, nb_let]
  have b1c : ∀ {α β : Type} (x : Option α) (f g : α → Option β), (∀ a : α, f a = g a) → nd_b1 x f = nd_b1 x g := fun x f g h => by
    cases x with
    | none => rfl
    | some a => exact h a
  refine b1c _ _ _ (fun s18 => ?_)
  rw [nb_let]
  refine b1c _ _ _ (fun s22 => ?_)
  rw [nb_let]

theorem c2_256 : cN (fun i => decide (i < 2)) 256 = 2 := by decide +kernel
/-- descriptors and openings as a machine begins -/
theorem bD {l op pi fi de kd th po rt ip isf nam : Nat → Int32} (hl : ∀ i : Nat, i < 256 → l i = if i < 2 then nI 1 else nI 0) (hde : ∀ i : Nat, i < 256 → de i = if i < 2 then nI 0 else -nI 1) (hop : ∀ o : Nat, o < 48 → op (o * 5) = if o = 0 then nI 4 else nI 0) (o1 : op 1 = nI 2) (o2 : op 2 = nI 0) (o3 : op 3 = nI 0) (o4 : op 4 = nI 3) (hkd : ∀ o : Nat, o < 48 → kd o = if o = 0 then nI 4 else nI 0) (hth : th 0 = nI 0) (hrt : rt 0 = nI 3) (hpi : ∀ k : Nat, k < 32 → pi k = nI 0) (hfi : ∀ k : Nat, k < 48 → fi k = nI 0) (hip : ∀ k : Nat, k < 8 → ip k = nI 0) (hisf : ∀ k : Nat, k < 16 → isf k = nI 0 ∧ nam k = nI 0) : rD l op pi fi de kd th po rt ip isf nam := by
  have c0 : cD de 0 = 2 := by
    refine Eq.trans ?_ c2_256
    refine cN_c (fun i hi => ?_)
    show decide (de i = nI 0) = decide (i < 2)
    rw [hde i hi]
    by_cases c : i < 2
    · rw [if_pos c, decide_eq_true rfl, decide_eq_true c]
    · rw [if_neg c, decide_eq_false c]
      exact decide_eq_false (by decide)
  have co : ∀ o : Nat, o < 48 → o ≠ 0 → cD de o = 0 := fun o ho hne => cN_0 (fun i hi => by
    show decide (de i = nI o) = false
    rw [hde i hi]
    refine decide_eq_false (fun z => ?_)
    by_cases c : i < 2
    · rw [if_pos c] at z
      have := nm_inI (by omega) (by omega) z
      omega
    · rw [if_neg c] at z
      exact nk_ne (by omega) z.symm)
  have ce : ∀ s k : Nat, 1 ≤ s → s ≤ 3 → cE kd th s k = 0 := fun s k h1 h3 => cN_0 (fun i hi => by
    show decide (kd i = nI s ∧ th i = nI k) = false
    refine decide_eq_false (fun z => ?_)
    have z1 := z.1
    rw [hkd i hi] at z1
    by_cases c : i = 0
    · rw [if_pos c] at z1
      have := nm_inI (by omega) (by omega) z1
      omega
    · rw [if_neg c] at z1
      have := nm_inI (by omega) (by omega) z1
      omega)
  refine ⟨fun i hi => ?_, fun o ho => ?_, fun k hk => ?_, fun k hk => ?_⟩
  · rw [hde i hi, hl i hi]
    by_cases c : i < 2
    · rw [if_pos c, if_pos c]
      exact Or.inr ⟨0, by omega, rfl, rfl⟩
    · rw [if_neg c, if_neg c]
      exact Or.inl ⟨rfl, rfl⟩
  · by_cases c : o = 0
    · subst c
      right
      refine ⟨4, 0, by omega, by omega, by omega, (hkd 0 ho).trans (if_pos rfl), (hop 0 ho).trans (if_pos rfl), ?_, hth, ?_, by omega, by omega, ?_, by omega, fun _ => ?_, ⟨3, by omega, hrt, by omega, by omega⟩, by omega⟩
      · rw [c0]; exact o1
      · exact o2
      · rw [hrt]; exact o4
      · exact o3
    · left
      exact ⟨(hkd o ho).trans (if_neg c), (hop o ho).trans (if_neg c), co o ho c⟩
  · rw [ce 1 k (by omega) (by omega), ce 2 k (by omega) (by omega)]
    exact ⟨hpi _ (by omega), hpi _ (by omega), hip k hk⟩
  · rw [ce 3 k (by omega) (by omega), (hisf k hk).2]
    refine ⟨hfi _ (by omega), Or.inl rfl, hfi _ (by omega), ?_⟩
    rw [(hisf k hk).1, decide_eq_false (show ¬ ((nI 0 : Int32) = nI 1 ∨ 0 < 0) from fun y => by rcases y with y | y; exact absurd y (by decide); omega)]
    rfl
/-- the reference's machine before it settles first -/
def bX (s : St × St) (b fr ri ho : Nat → Int32) (us : Int32) (H : Nat) : St × St := (pR (pR (pR (pR (pR (lX s b fr ri ho us 0 H).1 19 (upd (sR s.1 19) 0 (nI 4))) 20 (upd (sR s.1 20) 0 (nI 0))) 21 (upd (sR s.1 21) 0 (nI 0))) 22 (upd (sR s.1 22) 0 (nI 3))) 14 (upd (upd (sR s.1 14) 1 (nI 0)) 0 (nI 0)), s.2)
theorem bX_rows (X : St × St) (b fr ri ho : Nat → Int32) (us : Int32) (H : Nat) : (∀ k : Nat, k = 1 ∨ k = 2 ∨ k = 3 ∨ k = 4 ∨ k = 7 ∨ k = 8 ∨ k = 11 ∨ k = 12 ∨ k = 13 ∨ (23 ≤ k) ∨ k = 0 → sR (bX X b fr ri ho us H).1 k = sR X.1 k) ∧ sR (bX X b fr ri ho us H).1 5 = upd (sR X.1 5) 0 (nI H) ∧ sR (bX X b fr ri ho us H).1 6 = upd (sR X.1 6) 0 (nI H) ∧ sR (bX X b fr ri ho us H).1 9 = upd (fl (sR X.1 9) (32 * 0) 32 (nI 0)) (32 * 0 + 2) (nI 65536) ∧ sR (bX X b fr ri ho us H).1 10 = upd (sR X.1 10) 0 (nI 0) ∧ sR (bX X b fr ri ho us H).1 14 = upd (upd (sR X.1 14) 1 (nI 0)) 0 (nI 0) ∧ sR (bX X b fr ri ho us H).1 15 = b ∧ sR (bX X b fr ri ho us H).1 16 = fr ∧ sR (bX X b fr ri ho us H).1 17 = ri ∧ sR (bX X b fr ri ho us H).1 18 = ho ∧ sR (bX X b fr ri ho us H).1 19 = upd (sR X.1 19) 0 (nI 4) ∧ sR (bX X b fr ri ho us H).1 20 = upd (sR X.1 20) 0 (nI 0) ∧ sR (bX X b fr ri ho us H).1 21 = upd (sR X.1 21) 0 (nI 0) ∧ sR (bX X b fr ri ho us H).1 22 = upd (sR X.1 22) 0 (nI 3) ∧ (∀ k : Nat, ¬ k = 6 → sI (bX X b fr ri ho us H).1 k = sI X.1 k) ∧ sI (bX X b fr ri ho us H).1 6 = us ∧ (∀ k : Nat, sL (bX X b fr ri ho us H).1 k = sL X.1 k) ∧ (∀ k : Nat, sQ (bX X b fr ri ho us H).1 k = sQ X.1 k) ∧ (bX X b fr ri ho us H).2 = X.2 := by
  refine ⟨fun k hk => ?_, ?_, ?_, ?_, ?_, ?_, ?_, ?_, ?_, ?_, ?_, ?_, ?_, ?_, fun k k1 => ?_, ?_, fun k => ?_, fun k => ?_, rfl⟩
  · have k5 : ¬ k = 5 := by omega
    have k6 : ¬ k = 6 := by omega
    have k9 : ¬ k = 9 := by omega
    have k10 : ¬ k = 10 := by omega
    have k14 : ¬ k = 14 := by omega
    have k15 : ¬ k = 15 := by omega
    have k16 : ¬ k = 16 := by omega
    have k17 : ¬ k = 17 := by omega
    have k18 : ¬ k = 18 := by omega
    have k19 : ¬ k = 19 := by omega
    have k20 : ¬ k = 20 := by omega
    have k21 : ¬ k = 21 := by omega
    have k22 : ¬ k = 22 := by omega
    simp (disch := (first | assumption | decide | omega)) only [bX, lX, xU, k5, k6, k9, k10, k14, k15, k16, k17, k18, k19, k20, k21, k22, eq_self, Nat.reduceEqDiff, Nat.reduceLeDiff, no_1, no_1024, pk_mul, nI_add, nm_ck, nI_clamp, nI_ltI, nI_leI, nI_eq, nb_b2, nb_b1, ↓nb_let, nm_z0, nm_z1, nb_II, nb_IR, nb_RI, nb_RR, nm_IL, nm_IQ, nm_RL, nm_RQ, nm_LI, nm_LR, nm_LL, nm_LQ, nm_QI, nm_QR, nm_QL, nm_QQ, nm_rr, nm_ii, nm_eqm, not_false_eq_true, pk_sub, nm_div, nm_shl, nm_shr, nm_ush, nm_or8, nm_or64, nm_or256, nm_m1, nm_m3, nm_m7, nm_m15, nm_m31, nm_m63, nm_m255, nm_m511, nm_m1023, nm_m2047, nm_m65535, Nat.reduceMod, Nat.reducePow, Nat.reduceAdd, Nat.reduceSub, Nat.reduceMul, nm_bo, nm_bi, nm_rc, nm_ic, nm_ri, nm_rl, nm_rq, nm_ql, nm_qi, nm_li, nm_us, nm_uu, nm_cp, nm_sa31, nm_sa7, nm_m127, nm_m2, nm_nz, nm_nzk, nm_eq32, nm_nzf, if_true, if_false, ↓reduceIte, if_pos, if_neg]
  · simp (disch := (first | assumption | decide | omega)) only [bX, lX, xU, eq_self, Nat.reduceEqDiff, Nat.reduceLeDiff, no_1, no_1024, pk_mul, nI_add, nm_ck, nI_clamp, nI_ltI, nI_leI, nI_eq, nb_b2, nb_b1, ↓nb_let, nm_z0, nm_z1, nb_II, nb_IR, nb_RI, nb_RR, nm_IL, nm_IQ, nm_RL, nm_RQ, nm_LI, nm_LR, nm_LL, nm_LQ, nm_QI, nm_QR, nm_QL, nm_QQ, nm_rr, nm_ii, nm_eqm, not_false_eq_true, pk_sub, nm_div, nm_shl, nm_shr, nm_ush, nm_or8, nm_or64, nm_or256, nm_m1, nm_m3, nm_m7, nm_m15, nm_m31, nm_m63, nm_m255, nm_m511, nm_m1023, nm_m2047, nm_m65535, Nat.reduceMod, Nat.reducePow, Nat.reduceAdd, Nat.reduceSub, Nat.reduceMul, nm_bo, nm_bi, nm_rc, nm_ic, nm_ri, nm_rl, nm_rq, nm_ql, nm_qi, nm_li, nm_us, nm_uu, nm_cp, nm_sa31, nm_sa7, nm_m127, nm_m2, nm_nz, nm_nzk, nm_eq32, nm_nzf, if_true, if_false, ↓reduceIte, if_pos, if_neg]
  · simp (disch := (first | assumption | decide | omega)) only [bX, lX, xU, eq_self, Nat.reduceEqDiff, Nat.reduceLeDiff, no_1, no_1024, pk_mul, nI_add, nm_ck, nI_clamp, nI_ltI, nI_leI, nI_eq, nb_b2, nb_b1, ↓nb_let, nm_z0, nm_z1, nb_II, nb_IR, nb_RI, nb_RR, nm_IL, nm_IQ, nm_RL, nm_RQ, nm_LI, nm_LR, nm_LL, nm_LQ, nm_QI, nm_QR, nm_QL, nm_QQ, nm_rr, nm_ii, nm_eqm, not_false_eq_true, pk_sub, nm_div, nm_shl, nm_shr, nm_ush, nm_or8, nm_or64, nm_or256, nm_m1, nm_m3, nm_m7, nm_m15, nm_m31, nm_m63, nm_m255, nm_m511, nm_m1023, nm_m2047, nm_m65535, Nat.reduceMod, Nat.reducePow, Nat.reduceAdd, Nat.reduceSub, Nat.reduceMul, nm_bo, nm_bi, nm_rc, nm_ic, nm_ri, nm_rl, nm_rq, nm_ql, nm_qi, nm_li, nm_us, nm_uu, nm_cp, nm_sa31, nm_sa7, nm_m127, nm_m2, nm_nz, nm_nzk, nm_eq32, nm_nzf, if_true, if_false, ↓reduceIte, if_pos, if_neg]
  · simp (disch := (first | assumption | decide | omega)) only [bX, lX, xU, eq_self, Nat.reduceEqDiff, Nat.reduceLeDiff, no_1, no_1024, pk_mul, nI_add, nm_ck, nI_clamp, nI_ltI, nI_leI, nI_eq, nb_b2, nb_b1, ↓nb_let, nm_z0, nm_z1, nb_II, nb_IR, nb_RI, nb_RR, nm_IL, nm_IQ, nm_RL, nm_RQ, nm_LI, nm_LR, nm_LL, nm_LQ, nm_QI, nm_QR, nm_QL, nm_QQ, nm_rr, nm_ii, nm_eqm, not_false_eq_true, pk_sub, nm_div, nm_shl, nm_shr, nm_ush, nm_or8, nm_or64, nm_or256, nm_m1, nm_m3, nm_m7, nm_m15, nm_m31, nm_m63, nm_m255, nm_m511, nm_m1023, nm_m2047, nm_m65535, Nat.reduceMod, Nat.reducePow, Nat.reduceAdd, Nat.reduceSub, Nat.reduceMul, nm_bo, nm_bi, nm_rc, nm_ic, nm_ri, nm_rl, nm_rq, nm_ql, nm_qi, nm_li, nm_us, nm_uu, nm_cp, nm_sa31, nm_sa7, nm_m127, nm_m2, nm_nz, nm_nzk, nm_eq32, nm_nzf, if_true, if_false, ↓reduceIte, if_pos, if_neg]
  · simp (disch := (first | assumption | decide | omega)) only [bX, lX, xU, eq_self, Nat.reduceEqDiff, Nat.reduceLeDiff, no_1, no_1024, pk_mul, nI_add, nm_ck, nI_clamp, nI_ltI, nI_leI, nI_eq, nb_b2, nb_b1, ↓nb_let, nm_z0, nm_z1, nb_II, nb_IR, nb_RI, nb_RR, nm_IL, nm_IQ, nm_RL, nm_RQ, nm_LI, nm_LR, nm_LL, nm_LQ, nm_QI, nm_QR, nm_QL, nm_QQ, nm_rr, nm_ii, nm_eqm, not_false_eq_true, pk_sub, nm_div, nm_shl, nm_shr, nm_ush, nm_or8, nm_or64, nm_or256, nm_m1, nm_m3, nm_m7, nm_m15, nm_m31, nm_m63, nm_m255, nm_m511, nm_m1023, nm_m2047, nm_m65535, Nat.reduceMod, Nat.reducePow, Nat.reduceAdd, Nat.reduceSub, Nat.reduceMul, nm_bo, nm_bi, nm_rc, nm_ic, nm_ri, nm_rl, nm_rq, nm_ql, nm_qi, nm_li, nm_us, nm_uu, nm_cp, nm_sa31, nm_sa7, nm_m127, nm_m2, nm_nz, nm_nzk, nm_eq32, nm_nzf, if_true, if_false, ↓reduceIte, if_pos, if_neg]
  · simp (disch := (first | assumption | decide | omega)) only [bX, lX, xU, eq_self, Nat.reduceEqDiff, Nat.reduceLeDiff, no_1, no_1024, pk_mul, nI_add, nm_ck, nI_clamp, nI_ltI, nI_leI, nI_eq, nb_b2, nb_b1, ↓nb_let, nm_z0, nm_z1, nb_II, nb_IR, nb_RI, nb_RR, nm_IL, nm_IQ, nm_RL, nm_RQ, nm_LI, nm_LR, nm_LL, nm_LQ, nm_QI, nm_QR, nm_QL, nm_QQ, nm_rr, nm_ii, nm_eqm, not_false_eq_true, pk_sub, nm_div, nm_shl, nm_shr, nm_ush, nm_or8, nm_or64, nm_or256, nm_m1, nm_m3, nm_m7, nm_m15, nm_m31, nm_m63, nm_m255, nm_m511, nm_m1023, nm_m2047, nm_m65535, Nat.reduceMod, Nat.reducePow, Nat.reduceAdd, Nat.reduceSub, Nat.reduceMul, nm_bo, nm_bi, nm_rc, nm_ic, nm_ri, nm_rl, nm_rq, nm_ql, nm_qi, nm_li, nm_us, nm_uu, nm_cp, nm_sa31, nm_sa7, nm_m127, nm_m2, nm_nz, nm_nzk, nm_eq32, nm_nzf, if_true, if_false, ↓reduceIte, if_pos, if_neg]
  · simp (disch := (first | assumption | decide | omega)) only [bX, lX, xU, eq_self, Nat.reduceEqDiff, Nat.reduceLeDiff, no_1, no_1024, pk_mul, nI_add, nm_ck, nI_clamp, nI_ltI, nI_leI, nI_eq, nb_b2, nb_b1, ↓nb_let, nm_z0, nm_z1, nb_II, nb_IR, nb_RI, nb_RR, nm_IL, nm_IQ, nm_RL, nm_RQ, nm_LI, nm_LR, nm_LL, nm_LQ, nm_QI, nm_QR, nm_QL, nm_QQ, nm_rr, nm_ii, nm_eqm, not_false_eq_true, pk_sub, nm_div, nm_shl, nm_shr, nm_ush, nm_or8, nm_or64, nm_or256, nm_m1, nm_m3, nm_m7, nm_m15, nm_m31, nm_m63, nm_m255, nm_m511, nm_m1023, nm_m2047, nm_m65535, Nat.reduceMod, Nat.reducePow, Nat.reduceAdd, Nat.reduceSub, Nat.reduceMul, nm_bo, nm_bi, nm_rc, nm_ic, nm_ri, nm_rl, nm_rq, nm_ql, nm_qi, nm_li, nm_us, nm_uu, nm_cp, nm_sa31, nm_sa7, nm_m127, nm_m2, nm_nz, nm_nzk, nm_eq32, nm_nzf, if_true, if_false, ↓reduceIte, if_pos, if_neg]
  · simp (disch := (first | assumption | decide | omega)) only [bX, lX, xU, eq_self, Nat.reduceEqDiff, Nat.reduceLeDiff, no_1, no_1024, pk_mul, nI_add, nm_ck, nI_clamp, nI_ltI, nI_leI, nI_eq, nb_b2, nb_b1, ↓nb_let, nm_z0, nm_z1, nb_II, nb_IR, nb_RI, nb_RR, nm_IL, nm_IQ, nm_RL, nm_RQ, nm_LI, nm_LR, nm_LL, nm_LQ, nm_QI, nm_QR, nm_QL, nm_QQ, nm_rr, nm_ii, nm_eqm, not_false_eq_true, pk_sub, nm_div, nm_shl, nm_shr, nm_ush, nm_or8, nm_or64, nm_or256, nm_m1, nm_m3, nm_m7, nm_m15, nm_m31, nm_m63, nm_m255, nm_m511, nm_m1023, nm_m2047, nm_m65535, Nat.reduceMod, Nat.reducePow, Nat.reduceAdd, Nat.reduceSub, Nat.reduceMul, nm_bo, nm_bi, nm_rc, nm_ic, nm_ri, nm_rl, nm_rq, nm_ql, nm_qi, nm_li, nm_us, nm_uu, nm_cp, nm_sa31, nm_sa7, nm_m127, nm_m2, nm_nz, nm_nzk, nm_eq32, nm_nzf, if_true, if_false, ↓reduceIte, if_pos, if_neg]
  · simp (disch := (first | assumption | decide | omega)) only [bX, lX, xU, eq_self, Nat.reduceEqDiff, Nat.reduceLeDiff, no_1, no_1024, pk_mul, nI_add, nm_ck, nI_clamp, nI_ltI, nI_leI, nI_eq, nb_b2, nb_b1, ↓nb_let, nm_z0, nm_z1, nb_II, nb_IR, nb_RI, nb_RR, nm_IL, nm_IQ, nm_RL, nm_RQ, nm_LI, nm_LR, nm_LL, nm_LQ, nm_QI, nm_QR, nm_QL, nm_QQ, nm_rr, nm_ii, nm_eqm, not_false_eq_true, pk_sub, nm_div, nm_shl, nm_shr, nm_ush, nm_or8, nm_or64, nm_or256, nm_m1, nm_m3, nm_m7, nm_m15, nm_m31, nm_m63, nm_m255, nm_m511, nm_m1023, nm_m2047, nm_m65535, Nat.reduceMod, Nat.reducePow, Nat.reduceAdd, Nat.reduceSub, Nat.reduceMul, nm_bo, nm_bi, nm_rc, nm_ic, nm_ri, nm_rl, nm_rq, nm_ql, nm_qi, nm_li, nm_us, nm_uu, nm_cp, nm_sa31, nm_sa7, nm_m127, nm_m2, nm_nz, nm_nzk, nm_eq32, nm_nzf, if_true, if_false, ↓reduceIte, if_pos, if_neg]
  · simp (disch := (first | assumption | decide | omega)) only [bX, lX, xU, eq_self, Nat.reduceEqDiff, Nat.reduceLeDiff, no_1, no_1024, pk_mul, nI_add, nm_ck, nI_clamp, nI_ltI, nI_leI, nI_eq, nb_b2, nb_b1, ↓nb_let, nm_z0, nm_z1, nb_II, nb_IR, nb_RI, nb_RR, nm_IL, nm_IQ, nm_RL, nm_RQ, nm_LI, nm_LR, nm_LL, nm_LQ, nm_QI, nm_QR, nm_QL, nm_QQ, nm_rr, nm_ii, nm_eqm, not_false_eq_true, pk_sub, nm_div, nm_shl, nm_shr, nm_ush, nm_or8, nm_or64, nm_or256, nm_m1, nm_m3, nm_m7, nm_m15, nm_m31, nm_m63, nm_m255, nm_m511, nm_m1023, nm_m2047, nm_m65535, Nat.reduceMod, Nat.reducePow, Nat.reduceAdd, Nat.reduceSub, Nat.reduceMul, nm_bo, nm_bi, nm_rc, nm_ic, nm_ri, nm_rl, nm_rq, nm_ql, nm_qi, nm_li, nm_us, nm_uu, nm_cp, nm_sa31, nm_sa7, nm_m127, nm_m2, nm_nz, nm_nzk, nm_eq32, nm_nzf, if_true, if_false, ↓reduceIte, if_pos, if_neg]
  · simp (disch := (first | assumption | decide | omega)) only [bX, lX, xU, eq_self, Nat.reduceEqDiff, Nat.reduceLeDiff, no_1, no_1024, pk_mul, nI_add, nm_ck, nI_clamp, nI_ltI, nI_leI, nI_eq, nb_b2, nb_b1, ↓nb_let, nm_z0, nm_z1, nb_II, nb_IR, nb_RI, nb_RR, nm_IL, nm_IQ, nm_RL, nm_RQ, nm_LI, nm_LR, nm_LL, nm_LQ, nm_QI, nm_QR, nm_QL, nm_QQ, nm_rr, nm_ii, nm_eqm, not_false_eq_true, pk_sub, nm_div, nm_shl, nm_shr, nm_ush, nm_or8, nm_or64, nm_or256, nm_m1, nm_m3, nm_m7, nm_m15, nm_m31, nm_m63, nm_m255, nm_m511, nm_m1023, nm_m2047, nm_m65535, Nat.reduceMod, Nat.reducePow, Nat.reduceAdd, Nat.reduceSub, Nat.reduceMul, nm_bo, nm_bi, nm_rc, nm_ic, nm_ri, nm_rl, nm_rq, nm_ql, nm_qi, nm_li, nm_us, nm_uu, nm_cp, nm_sa31, nm_sa7, nm_m127, nm_m2, nm_nz, nm_nzk, nm_eq32, nm_nzf, if_true, if_false, ↓reduceIte, if_pos, if_neg]
  · simp (disch := (first | assumption | decide | omega)) only [bX, lX, xU, eq_self, Nat.reduceEqDiff, Nat.reduceLeDiff, no_1, no_1024, pk_mul, nI_add, nm_ck, nI_clamp, nI_ltI, nI_leI, nI_eq, nb_b2, nb_b1, ↓nb_let, nm_z0, nm_z1, nb_II, nb_IR, nb_RI, nb_RR, nm_IL, nm_IQ, nm_RL, nm_RQ, nm_LI, nm_LR, nm_LL, nm_LQ, nm_QI, nm_QR, nm_QL, nm_QQ, nm_rr, nm_ii, nm_eqm, not_false_eq_true, pk_sub, nm_div, nm_shl, nm_shr, nm_ush, nm_or8, nm_or64, nm_or256, nm_m1, nm_m3, nm_m7, nm_m15, nm_m31, nm_m63, nm_m255, nm_m511, nm_m1023, nm_m2047, nm_m65535, Nat.reduceMod, Nat.reducePow, Nat.reduceAdd, Nat.reduceSub, Nat.reduceMul, nm_bo, nm_bi, nm_rc, nm_ic, nm_ri, nm_rl, nm_rq, nm_ql, nm_qi, nm_li, nm_us, nm_uu, nm_cp, nm_sa31, nm_sa7, nm_m127, nm_m2, nm_nz, nm_nzk, nm_eq32, nm_nzf, if_true, if_false, ↓reduceIte, if_pos, if_neg]
  · simp (disch := (first | assumption | decide | omega)) only [bX, lX, xU, eq_self, Nat.reduceEqDiff, Nat.reduceLeDiff, no_1, no_1024, pk_mul, nI_add, nm_ck, nI_clamp, nI_ltI, nI_leI, nI_eq, nb_b2, nb_b1, ↓nb_let, nm_z0, nm_z1, nb_II, nb_IR, nb_RI, nb_RR, nm_IL, nm_IQ, nm_RL, nm_RQ, nm_LI, nm_LR, nm_LL, nm_LQ, nm_QI, nm_QR, nm_QL, nm_QQ, nm_rr, nm_ii, nm_eqm, not_false_eq_true, pk_sub, nm_div, nm_shl, nm_shr, nm_ush, nm_or8, nm_or64, nm_or256, nm_m1, nm_m3, nm_m7, nm_m15, nm_m31, nm_m63, nm_m255, nm_m511, nm_m1023, nm_m2047, nm_m65535, Nat.reduceMod, Nat.reducePow, Nat.reduceAdd, Nat.reduceSub, Nat.reduceMul, nm_bo, nm_bi, nm_rc, nm_ic, nm_ri, nm_rl, nm_rq, nm_ql, nm_qi, nm_li, nm_us, nm_uu, nm_cp, nm_sa31, nm_sa7, nm_m127, nm_m2, nm_nz, nm_nzk, nm_eq32, nm_nzf, if_true, if_false, ↓reduceIte, if_pos, if_neg]
  · simp (disch := (first | assumption | decide | omega)) only [bX, lX, xU, eq_self, Nat.reduceEqDiff, Nat.reduceLeDiff, no_1, no_1024, pk_mul, nI_add, nm_ck, nI_clamp, nI_ltI, nI_leI, nI_eq, nb_b2, nb_b1, ↓nb_let, nm_z0, nm_z1, nb_II, nb_IR, nb_RI, nb_RR, nm_IL, nm_IQ, nm_RL, nm_RQ, nm_LI, nm_LR, nm_LL, nm_LQ, nm_QI, nm_QR, nm_QL, nm_QQ, nm_rr, nm_ii, nm_eqm, not_false_eq_true, pk_sub, nm_div, nm_shl, nm_shr, nm_ush, nm_or8, nm_or64, nm_or256, nm_m1, nm_m3, nm_m7, nm_m15, nm_m31, nm_m63, nm_m255, nm_m511, nm_m1023, nm_m2047, nm_m65535, Nat.reduceMod, Nat.reducePow, Nat.reduceAdd, Nat.reduceSub, Nat.reduceMul, nm_bo, nm_bi, nm_rc, nm_ic, nm_ri, nm_rl, nm_rq, nm_ql, nm_qi, nm_li, nm_us, nm_uu, nm_cp, nm_sa31, nm_sa7, nm_m127, nm_m2, nm_nz, nm_nzk, nm_eq32, nm_nzf, if_true, if_false, ↓reduceIte, if_pos, if_neg]
  · simp (disch := (first | assumption | decide | omega)) only [bX, lX, xU, k1, eq_self, Nat.reduceEqDiff, Nat.reduceLeDiff, no_1, no_1024, pk_mul, nI_add, nm_ck, nI_clamp, nI_ltI, nI_leI, nI_eq, nb_b2, nb_b1, ↓nb_let, nm_z0, nm_z1, nb_II, nb_IR, nb_RI, nb_RR, nm_IL, nm_IQ, nm_RL, nm_RQ, nm_LI, nm_LR, nm_LL, nm_LQ, nm_QI, nm_QR, nm_QL, nm_QQ, nm_rr, nm_ii, nm_eqm, not_false_eq_true, pk_sub, nm_div, nm_shl, nm_shr, nm_ush, nm_or8, nm_or64, nm_or256, nm_m1, nm_m3, nm_m7, nm_m15, nm_m31, nm_m63, nm_m255, nm_m511, nm_m1023, nm_m2047, nm_m65535, Nat.reduceMod, Nat.reducePow, Nat.reduceAdd, Nat.reduceSub, Nat.reduceMul, nm_bo, nm_bi, nm_rc, nm_ic, nm_ri, nm_rl, nm_rq, nm_ql, nm_qi, nm_li, nm_us, nm_uu, nm_cp, nm_sa31, nm_sa7, nm_m127, nm_m2, nm_nz, nm_nzk, nm_eq32, nm_nzf, if_true, if_false, ↓reduceIte, if_pos, if_neg]
  · simp (disch := (first | assumption | decide | omega)) only [bX, lX, xU, eq_self, Nat.reduceEqDiff, Nat.reduceLeDiff, no_1, no_1024, pk_mul, nI_add, nm_ck, nI_clamp, nI_ltI, nI_leI, nI_eq, nb_b2, nb_b1, ↓nb_let, nm_z0, nm_z1, nb_II, nb_IR, nb_RI, nb_RR, nm_IL, nm_IQ, nm_RL, nm_RQ, nm_LI, nm_LR, nm_LL, nm_LQ, nm_QI, nm_QR, nm_QL, nm_QQ, nm_rr, nm_ii, nm_eqm, not_false_eq_true, pk_sub, nm_div, nm_shl, nm_shr, nm_ush, nm_or8, nm_or64, nm_or256, nm_m1, nm_m3, nm_m7, nm_m15, nm_m31, nm_m63, nm_m255, nm_m511, nm_m1023, nm_m2047, nm_m65535, Nat.reduceMod, Nat.reducePow, Nat.reduceAdd, Nat.reduceSub, Nat.reduceMul, nm_bo, nm_bi, nm_rc, nm_ic, nm_ri, nm_rl, nm_rq, nm_ql, nm_qi, nm_li, nm_us, nm_uu, nm_cp, nm_sa31, nm_sa7, nm_m127, nm_m2, nm_nz, nm_nzk, nm_eq32, nm_nzf, if_true, if_false, ↓reduceIte, if_pos, if_neg]
  · simp (disch := (first | assumption | decide | omega)) only [bX, lX, xU, eq_self, Nat.reduceEqDiff, Nat.reduceLeDiff, no_1, no_1024, pk_mul, nI_add, nm_ck, nI_clamp, nI_ltI, nI_leI, nI_eq, nb_b2, nb_b1, ↓nb_let, nm_z0, nm_z1, nb_II, nb_IR, nb_RI, nb_RR, nm_IL, nm_IQ, nm_RL, nm_RQ, nm_LI, nm_LR, nm_LL, nm_LQ, nm_QI, nm_QR, nm_QL, nm_QQ, nm_rr, nm_ii, nm_eqm, not_false_eq_true, pk_sub, nm_div, nm_shl, nm_shr, nm_ush, nm_or8, nm_or64, nm_or256, nm_m1, nm_m3, nm_m7, nm_m15, nm_m31, nm_m63, nm_m255, nm_m511, nm_m1023, nm_m2047, nm_m65535, Nat.reduceMod, Nat.reducePow, Nat.reduceAdd, Nat.reduceSub, Nat.reduceMul, nm_bo, nm_bi, nm_rc, nm_ic, nm_ri, nm_rl, nm_rq, nm_ql, nm_qi, nm_li, nm_us, nm_uu, nm_cp, nm_sa31, nm_sa7, nm_m127, nm_m2, nm_nz, nm_nzk, nm_eq32, nm_nzf, if_true, if_false, ↓reduceIte, if_pos, if_neg]
  · simp (disch := (first | assumption | decide | omega)) only [bX, lX, xU, eq_self, Nat.reduceEqDiff, Nat.reduceLeDiff, no_1, no_1024, pk_mul, nI_add, nm_ck, nI_clamp, nI_ltI, nI_leI, nI_eq, nb_b2, nb_b1, ↓nb_let, nm_z0, nm_z1, nb_II, nb_IR, nb_RI, nb_RR, nm_IL, nm_IQ, nm_RL, nm_RQ, nm_LI, nm_LR, nm_LL, nm_LQ, nm_QI, nm_QR, nm_QL, nm_QQ, nm_rr, nm_ii, nm_eqm, not_false_eq_true, pk_sub, nm_div, nm_shl, nm_shr, nm_ush, nm_or8, nm_or64, nm_or256, nm_m1, nm_m3, nm_m7, nm_m15, nm_m31, nm_m63, nm_m255, nm_m511, nm_m1023, nm_m2047, nm_m65535, Nat.reduceMod, Nat.reducePow, Nat.reduceAdd, Nat.reduceSub, Nat.reduceMul, nm_bo, nm_bi, nm_rc, nm_ic, nm_ri, nm_rl, nm_rq, nm_ql, nm_qi, nm_li, nm_us, nm_uu, nm_cp, nm_sa31, nm_sa7, nm_m127, nm_m2, nm_nz, nm_nzk, nm_eq32, nm_nzf, if_true, if_false, ↓reduceIte, if_pos, if_neg]
/-- nobody WAITS: settling only chooses -/
theorem st_nW (n : Nat) (hn : 1024 < n) {X X' : St × St} (h : ∀ q : Nat, q < 16 → ¬ sR X.1 1 q = nI 2) (hc : ∀ g : Int32 → St × St → Option (St × St), dF_X16_settle_2 n g (nI 16) X = some X') : df_X16_settle n X = some X' := by
  obtain ⟨m, hm⟩ := nm_lq (fun m k => df_X16_settle_2 n m (nI k) X) 16 n (by omega) (fun k m hk => by
    have k1 : ¬ 16 ≤ k := by omega
    have u1 : k < 2 ^ 31 := by omega
    have k2 := h k hk
    rw [show df_X16_settle_2 n (m + 1) = dF_X16_settle_2 n (df_X16_settle_2 n m) from rfl]
    generalize df_X16_settle_2 n m = G
    simp (disch := (first | assumption | decide | omega)) only [dF_X16_settle_2, df_X16_settle_51, k1, k2, eq_self, Nat.reduceEqDiff, Nat.reduceLeDiff, nl_0, nl_1, nl_2, nl_16, no_1, no_1024, pk_mul, nI_add, nm_ck, nI_clamp, nI_ltI, nI_leI, nI_eq, nb_b2, nb_b1, ↓nb_let, nm_z0, nm_z1, nb_II, nb_IR, nb_RI, nb_RR, nm_IL, nm_IQ, nm_RL, nm_RQ, nm_LI, nm_LR, nm_LL, nm_LQ, nm_QI, nm_QR, nm_QL, nm_QQ, nm_rr, nm_ii, nm_eqm, not_false_eq_true, pk_sub, nm_div, nm_shl, nm_shr, nm_ush, nm_or8, nm_or64, nm_or256, nm_m1, nm_m3, nm_m7, nm_m15, nm_m31, nm_m63, nm_m255, nm_m511, nm_m1023, nm_m2047, nm_m65535, Nat.reduceMod, Nat.reducePow, Nat.reduceAdd, Nat.reduceSub, Nat.reduceMul, nm_bo, nm_bi, nm_rc, nm_ic, nm_ri, nm_rl, nm_rq, nm_ql, nm_qi, nm_li, nm_us, nm_uu, nm_cp, nm_sa31, nm_sa7, nm_m127, nm_m2, nm_nz, nm_nzk, nm_eq32, nm_nzf, if_true, if_false, ↓reduceIte, if_pos, if_neg])
  refine Eq.trans (b := df_X16_settle_2 n n (nI 0) X) rfl (Eq.trans hm ?_)
  exact hc _
theorem cM_rows (M : St × St) (D : St) : (∀ k : Nat, k = 0 ∨ (3 ≤ k ∧ ¬ k = 6) → sR (cM M D).1 k = sR M.1 k) ∧ sR (cM M D).1 1 = nd_fl 256 0 (sR M.1 1) ∧ sR (cM M D).1 2 = nd_fl 1024 0 (sR M.1 2) ∧ sR (cM M D).1 6 = abk (sR M.1 6) 16 ∧ sI (cM M D).1 0 = nI 0 ∧ sI (cM M D).1 1 = nI 0 ∧ sI (cM M D).1 2 = nI 0 ∧ sI (cM M D).1 3 = -nI 1 ∧ sI (cM M D).1 4 = nI 15 ∧ sI (cM M D).1 5 = -nI 1 ∧ sI (cM M D).1 7 = nI 0 ∧ sL (cM M D).1 0 = 0 ∧ sL (cM M D).1 1 = 0 ∧ (cM M D).2 = D := by
  refine ⟨fun k hk => ?_, ?_, ?_, ?_, rfl, rfl, rfl, rfl, rfl, rfl, rfl, rfl, rfl, rfl⟩
  · have k1 : ¬ k = 1 := by omega
    have k2 : ¬ k = 2 := by omega
    have k6 : ¬ k = 6 := by omega
    simp (disch := (first | assumption | decide | omega)) only [cM, k1, k2, k6, eq_self, Nat.reduceEqDiff, Nat.reduceLeDiff, no_1, no_1024, pk_mul, nI_add, nm_ck, nI_clamp, nI_ltI, nI_leI, nI_eq, nb_b2, nb_b1, ↓nb_let, nm_z0, nm_z1, nb_II, nb_IR, nb_RI, nb_RR, nm_IL, nm_IQ, nm_RL, nm_RQ, nm_LI, nm_LR, nm_LL, nm_LQ, nm_QI, nm_QR, nm_QL, nm_QQ, nm_rr, nm_ii, nm_eqm, not_false_eq_true, pk_sub, nm_div, nm_shl, nm_shr, nm_ush, nm_or8, nm_or64, nm_or256, nm_m1, nm_m3, nm_m7, nm_m15, nm_m31, nm_m63, nm_m255, nm_m511, nm_m1023, nm_m2047, nm_m65535, Nat.reduceMod, Nat.reducePow, Nat.reduceAdd, Nat.reduceSub, Nat.reduceMul, nm_bo, nm_bi, nm_rc, nm_ic, nm_ri, nm_rl, nm_rq, nm_ql, nm_qi, nm_li, nm_us, nm_uu, nm_cp, nm_sa31, nm_sa7, nm_m127, nm_m2, nm_nz, nm_nzk, nm_eq32, nm_nzf, if_true, if_false, ↓reduceIte, if_pos, if_neg]
  · simp (disch := (first | assumption | decide | omega)) only [cM, eq_self, Nat.reduceEqDiff, Nat.reduceLeDiff, no_1, no_1024, pk_mul, nI_add, nm_ck, nI_clamp, nI_ltI, nI_leI, nI_eq, nb_b2, nb_b1, ↓nb_let, nm_z0, nm_z1, nb_II, nb_IR, nb_RI, nb_RR, nm_IL, nm_IQ, nm_RL, nm_RQ, nm_LI, nm_LR, nm_LL, nm_LQ, nm_QI, nm_QR, nm_QL, nm_QQ, nm_rr, nm_ii, nm_eqm, not_false_eq_true, pk_sub, nm_div, nm_shl, nm_shr, nm_ush, nm_or8, nm_or64, nm_or256, nm_m1, nm_m3, nm_m7, nm_m15, nm_m31, nm_m63, nm_m255, nm_m511, nm_m1023, nm_m2047, nm_m65535, Nat.reduceMod, Nat.reducePow, Nat.reduceAdd, Nat.reduceSub, Nat.reduceMul, nm_bo, nm_bi, nm_rc, nm_ic, nm_ri, nm_rl, nm_rq, nm_ql, nm_qi, nm_li, nm_us, nm_uu, nm_cp, nm_sa31, nm_sa7, nm_m127, nm_m2, nm_nz, nm_nzk, nm_eq32, nm_nzf, if_true, if_false, ↓reduceIte, if_pos, if_neg]
  · simp (disch := (first | assumption | decide | omega)) only [cM, eq_self, Nat.reduceEqDiff, Nat.reduceLeDiff, no_1, no_1024, pk_mul, nI_add, nm_ck, nI_clamp, nI_ltI, nI_leI, nI_eq, nb_b2, nb_b1, ↓nb_let, nm_z0, nm_z1, nb_II, nb_IR, nb_RI, nb_RR, nm_IL, nm_IQ, nm_RL, nm_RQ, nm_LI, nm_LR, nm_LL, nm_LQ, nm_QI, nm_QR, nm_QL, nm_QQ, nm_rr, nm_ii, nm_eqm, not_false_eq_true, pk_sub, nm_div, nm_shl, nm_shr, nm_ush, nm_or8, nm_or64, nm_or256, nm_m1, nm_m3, nm_m7, nm_m15, nm_m31, nm_m63, nm_m255, nm_m511, nm_m1023, nm_m2047, nm_m65535, Nat.reduceMod, Nat.reducePow, Nat.reduceAdd, Nat.reduceSub, Nat.reduceMul, nm_bo, nm_bi, nm_rc, nm_ic, nm_ri, nm_rl, nm_rq, nm_ql, nm_qi, nm_li, nm_us, nm_uu, nm_cp, nm_sa31, nm_sa7, nm_m127, nm_m2, nm_nz, nm_nzk, nm_eq32, nm_nzf, if_true, if_false, ↓reduceIte, if_pos, if_neg]
  · simp (disch := (first | assumption | decide | omega)) only [cM, eq_self, Nat.reduceEqDiff, Nat.reduceLeDiff, no_1, no_1024, pk_mul, nI_add, nm_ck, nI_clamp, nI_ltI, nI_leI, nI_eq, nb_b2, nb_b1, ↓nb_let, nm_z0, nm_z1, nb_II, nb_IR, nb_RI, nb_RR, nm_IL, nm_IQ, nm_RL, nm_RQ, nm_LI, nm_LR, nm_LL, nm_LQ, nm_QI, nm_QR, nm_QL, nm_QQ, nm_rr, nm_ii, nm_eqm, not_false_eq_true, pk_sub, nm_div, nm_shl, nm_shr, nm_ush, nm_or8, nm_or64, nm_or256, nm_m1, nm_m3, nm_m7, nm_m15, nm_m31, nm_m63, nm_m255, nm_m511, nm_m1023, nm_m2047, nm_m65535, Nat.reduceMod, Nat.reducePow, Nat.reduceAdd, Nat.reduceSub, Nat.reduceMul, nm_bo, nm_bi, nm_rc, nm_ic, nm_ri, nm_rl, nm_rq, nm_ql, nm_qi, nm_li, nm_us, nm_uu, nm_cp, nm_sa31, nm_sa7, nm_m127, nm_m2, nm_nz, nm_nzk, nm_eq32, nm_nzf, if_true, if_false, ↓reduceIte, if_pos, if_neg]
/-- the two machines as they begin, before a process is chosen -/
theorem rM_boot {M s : St × St} {D' : St} {w u g b fr ri ho : Nat → Int32} {fu us : Int32} {H : Nat} (hH : H ≤ 61440) (d0 : ∀ i : Nat, i < 256 → sR D' 0 i = if i < 2 then nI 1 else nI 0) (d1 : ∀ o : Nat, o < 48 → sR D' 1 (o * 5) = if o = 0 then nI 4 else nI 0) (d11 : sR D' 1 1 = nI 2) (d12 : sR D' 1 2 = nI 0) (d13 : sR D' 1 3 = nI 0) (d14 : sR D' 1 4 = nI 3) (d2 : ∀ k : Nat, k < 32 → sR D' 2 k = nI 0) (d4 : ∀ k : Nat, k < 48 → sR D' 4 k = nI 0) (di : sI D' 0 = nI 0) (dl : sL D' 0 = 0) (dy : okY D') (f1 : ∀ q : Nat, q < 16 → sR s.1 1 q = (if q = 0 then nI 1 else nI 0) ∧ sR s.1 2 q = -nI 1 ∧ sR s.1 4 q = nI 0 ∧ sR s.1 5 q = nI 0 ∧ sR s.1 6 q = nI 0 ∧ sR s.1 7 q = -nI 1 ∧ sR s.1 8 q = nI 0 ∧ sQ s.1 0 q = -1 ∧ (∀ i : Nat, i < 16 → sR s.1 13 (16 * q + i) = nI 0 ∧ sR s.1 14 (16 * q + i) = -nI 1)) (f16 : ∀ i : Nat, i < 1024 → sR s.1 16 i = -nI 1) (f19 : ∀ o : Nat, o < 48 → sR s.1 19 o = nI 0) (f23 : ∀ k : Nat, k < 8 → sR s.1 23 k = nI 0) (f24 : ∀ k : Nat, k < 16 → sR s.1 24 k = nI 0 ∧ sR s.1 25 k = nI 0) (ii : sI s.1 0 = nI 0 ∧ sI s.1 1 = -nI 1 ∧ sI s.1 2 = nI 15 ∧ sI s.1 3 = -nI 1 ∧ sI s.1 4 = -nI 1 ∧ sI s.1 5 = nI 0 ∧ sI s.1 6 = nI 0 ∧ sI s.1 7 = nI 0 ∧ sI s.1 14 = -nI 1) (l0 : sL s.1 0 = 0) (l1 : sL s.1 1 = 0) (l2 : sL s.1 2 = 0) (hr : rQ w u g b fr ri ho fu us) (hfr : ∀ i : Nat, i < 64 * 0 ∨ 64 * 0 + 64 ≤ i → fr i = sR s.1 16 i) (hh : ∀ k : Nat, k < 60 → H ≤ k * 1024 → fr (64 * 0 + k) = -nI 1) : rM 0 (pR (lM (cM M D') w u g fu 0 H).1 6 (upd (sR (lM (cM M D') w u g fu 0 H).1 6) 0 (nI 1)), (lM (cM M D') w u g fu 0 H).2) (bX s b fr ri ho us H) := by
  obtain ⟨c1, c5, c6, c9, c10, c14, c15, c16, c17, c18, c19, c20, c21, c22, cI, cI6, cL, cQ, cX⟩ := bX_rows s b fr ri ho us H
  obtain ⟨g1, g2, g3, g4, g5, g6, g7, g8, g9, g10, g11, g12, g13⟩ := lM_rows (cM M D') w u g fu 0 H
  obtain ⟨k1, k2, k3, k4, k5, k6, k7, k8, k9, k10, k11, k12, k13, k14⟩ := cM_rows M D'
  obtain ⟨i0, i1, i2, i3, i4, i5, i6, i7, i14⟩ := ii
  generalize bX s b fr ri ho us H = X at c1 c5 c6 c9 c10 c14 c15 c16 c17 c18 c19 c20 c21 c22 cI cI6 cL cQ cX
  generalize lM (cM M D') w u g fu 0 H = N at g1 g2 g3 g4 g5 g6 g7 g8 g9 g10 g11 g12 g13
  have n6 : sR (pR N.1 6 (upd (sR N.1 6) 0 (nI 1))) 6 = upd (upd (upd (upd (abk (sR M.1 6) 16) (0 * 7 + 4) (nI 0)) (0 * 7 + 5) (nI H)) (0 * 7 + 6) (nI H)) 0 (nI 1) := by
    show upd (sR N.1 6) 0 (nI 1) = _
    rw [g7, k4]
  refine ⟨?_, ?_, fun q hq => ?_, ?_, ?_, ?_, ?_⟩
  · show rQ (sR N.1 0) (sR N.1 1) (sR N.1 2) (sR X.1 15) (sR X.1 16) (sR X.1 17) (sR X.1 18) (sI N.1 0) (sI X.1 6)
    rw [g2, g3, g4, c15, c16, c17, c18, g9, cI6]
    exact hr
  · show rD (sR N.2 0) (sR N.2 1) (sR N.2 2) (sR N.2 4) (sR X.1 14) (sR X.1 19) (sR X.1 20) (sR X.1 21) (sR X.1 22) (sR X.1 23) (sR X.1 24) (sR X.1 25)
    rw [g13, k14, c14, c19, c20, c21, c22, c1 23 (by omega), c1 24 (by omega), c1 25 (by omega)]
    refine bD d0 (fun i hi => ?_) d1 d11 d12 d13 d14 (fun o ho => ?_) nm_us nm_us d2 d4 f23 f24
    · by_cases c : i = 0
      · rw [c, if_pos (by omega), nm_us]
      · rw [nm_un c]
        by_cases d : i = 1
        · rw [d, if_pos (by omega), nm_us]
        · rw [nm_un d, if_neg (by omega)]
          have := ((f1 (i / 16) (by omega)).2.2.2.2.2.2.2.2 (i % 16) (by omega)).2
          rw [show 16 * (i / 16) + i % 16 = i by omega] at this
          exact this
    · by_cases c : o = 0
      · rw [c, if_pos rfl, nm_us]
      · rw [if_neg c, nm_un c]
        exact f19 o ho
  · obtain ⟨a1, a2, a3, a4, a5, a6, a7, a8, a9⟩ := f1 q hq
    by_cases c : q = 0
    · subst c
      refine ⟨1, 0, 0, H, H, by omega, by omega, by omega, hH, hH, ?_, ?_, ?_, ?_, ?_, fun z => by omega, fun z => ?_, ?_, ?_, ?_, ?_, ?_, ?_, ?_, ?_, fun k hk y => ?_, fun z => ⟨fun r hr => ?_, ?_⟩, fun z => ⟨fun k hk => ?_, ?_, fun y => by omega⟩, fun z => by omega, fun z => by omega, fun z => ?_⟩
      · show sR (pR N.1 6 (upd (sR N.1 6) 0 (nI 1))) 6 (0 * 7) = _
        rw [n6]; exact nm_us
      · rw [c1 1 (by omega)]; exact a1.trans (if_pos rfl)
      · show sR (pR N.1 6 (upd (sR N.1 6) 0 (nI 1))) 6 (0 * 7 + 1) = _
        rw [n6, c1 2 (by omega), a2, nm_un (by omega), nm_un (by omega), nm_un (by omega), nm_un (by omega)]
        exact abk_i _ (by omega) (by omega)
      · rw [c1 2 (by omega)]; exact Or.inl a2
      · rw [c1 2 (by omega), a2]; exact fun z => nk_ne (by omega) z.symm
      · show sR (pR N.1 6 (upd (sR N.1 6) 0 (nI 1))) 6 (0 * 7 + 2) = _
        rw [n6, nm_un (by omega), nm_un (by omega), nm_un (by omega), nm_un (by omega)]
        exact abk_i _ (by omega) (by omega)
      · show sR (pR N.1 6 (upd (sR N.1 6) 0 (nI 1))) 6 (0 * 7 + 3) = _
        rw [n6, nm_un (by omega), nm_un (by omega), nm_un (by omega), nm_un (by omega)]
        exact abk_i _ (by omega) (by omega)
      · rw [c1 4 (by omega)]; exact a3
      · show sR (pR N.1 6 (upd (sR N.1 6) 0 (nI 1))) 6 (0 * 7 + 4) = _
        rw [n6, nm_un (by omega), nm_un (by omega), nm_un (by omega)]; exact nm_us
      · rw [c1 8 (by omega)]; exact a7
      · show sR (pR N.1 6 (upd (sR N.1 6) 0 (nI 1))) 6 (0 * 7 + 5) = _
        rw [n6, nm_un (by omega), nm_un (by omega)]; exact nm_us
      · rw [c5]; exact nm_us
      · show sR (pR N.1 6 (upd (sR N.1 6) 0 (nI 1))) 6 (0 * 7 + 6) = _
        rw [n6, nm_un (by omega)]; exact nm_us
      · rw [c6]; exact nm_us
      · rw [c16]; exact hh k hk y
      · show sR N.1 3 (0 * 33 + r) = _
        rw [g5, c9, rgl_i _ (by omega)]
        by_cases c : r = 2
        · rw [if_pos c, c]; exact nm_us.symm
        · rw [if_neg c, nm_un (by omega), fl_i (by omega)]
      · show sR N.1 3 (0 * 33 + 32) = _
        rw [g5, c10, rgl_i _ (by omega), if_neg (by omega)]; exact nm_us.symm
      · show sR N.1 5 (0 * 16 + k) = _
        rw [g6, c1 13 (by omega), fl_i (by omega)]; exact (a9 k hk).1.symm
      · show sQ N.1 0 0 = _
        rw [g12, cQ, a8]; exact if_pos rfl
      · rw [c1 7 (by omega)]; exact a6
    · have ab : ∀ i : Nat, i < 7 → sR (pR N.1 6 (upd (sR N.1 6) 0 (nI 1))) 6 (q * 7 + i) = if i = 1 then -nI 1 else nI 0 := fun i hi => by
        rw [n6, nm_un (by omega), nm_un (by omega), nm_un (by omega), nm_un (by omega)]
        exact abk_i _ hq hi
      have a1 : sR s.1 1 q = nI 0 := a1.trans (if_neg c)
      have pg : ∀ k : Nat, k < 64 → sR X.1 16 (64 * q + k) = -nI 1 := fun k hk => by
        rw [c16, hfr _ (by omega)]
        exact f16 _ (by omega)
      refine ⟨0, 0, 0, 0, 0, by omega, by omega, by omega, by omega, by omega, (ab 0 (by omega)).trans (if_neg (by omega)), ?_, ?_, ?_, ?_, fun z => by omega, fun z => (ab 2 (by omega)).trans (if_neg (by omega)), (ab 3 (by omega)).trans (if_neg (by omega)), ?_, (ab 4 (by omega)).trans (if_neg (by omega)), ?_, (ab 5 (by omega)).trans (if_neg (by omega)), ?_, (ab 6 (by omega)).trans (if_neg (by omega)), ?_, fun k hk y => pg k (by omega), fun z => absurd rfl z, fun z => by omega, fun z => ⟨pg, fun d hd => ?_⟩, fun z => by omega, fun z => ?_⟩
      · rw [c1 1 (by omega)]; exact a1
      · refine (ab 1 (by omega)).trans ((if_pos rfl).trans ?_)
        rw [c1 2 (by omega)]; exact a2.symm
      · rw [c1 2 (by omega)]; exact Or.inl a2
      · rw [c1 2 (by omega), a2]; exact fun z => nk_ne (by omega) z.symm
      · rw [c1 4 (by omega)]; exact a3
      · rw [c1 8 (by omega)]; exact a7
      · rw [c5, nm_un c]; exact a4
      · rw [c6, nm_un c]; exact a5
      · rw [c14, nm_un (by omega), nm_un (by omega), show q * 16 + d = 16 * q + d by omega]
        exact (a9 d hd).2
      · rw [c1 7 (by omega)]; exact a6
  · show sI N.1 2 = nI (cW (sR X.1 1))
    rw [g8 2 (by omega) (by omega), k7, c1 1 (by omega)]
    have : cW (sR s.1 1) = 0 := cN_0 (fun q hq => by
      refine decide_eq_false (fun z => ?_)
      rw [(f1 q hq).1] at z
      by_cases c : q = 0
      · rw [if_pos c] at z; exact absurd z (by decide)
      · rw [if_neg c] at z; exact absurd z (by decide))
    rw [this]
  · show sI N.1 3 = sI X.1 1 ∧ okP (sI X.1 1) ∧ sI N.1 4 = sI X.1 2 ∧ (∃ l : Nat, l < 16 ∧ sI X.1 2 = nI l) ∧ (sI X.1 1 = -nI 1 ∨ sI X.1 2 = sI X.1 1) ∧ sI N.1 5 = sI X.1 3 ∧ okP (sI X.1 3) ∧ sI N.1 6 = sI X.1 4 ∧ okR (sI X.1 4) ∧ sL N.1 0 = sL X.1 1 ∧ sL N.1 1 = sL X.1 0
    rw [g8 3 (by omega) (by omega), g8 4 (by omega) (by omega), g8 5 (by omega) (by omega), g10, g11, g11, k8, k9, k10, k12, k13, cI 1 (by omega), cI 2 (by omega), cI 3 (by omega), cI 4 (by omega), cL, cL, i1, i2, i3, i4, l0, l1]
    exact ⟨rfl, Or.inl rfl, rfl, ⟨15, by omega, rfl⟩, Or.inl rfl, rfl, Or.inl rfl, rfl, Or.inl rfl, rfl, rfl⟩
  · show (∃ k : Nat, k ≤ 16 ∧ sI N.1 1 = nI k ∧ sI X.1 5 = nI k ∧ ∀ i : Nat, i < k → sR N.1 7 i = sR X.1 0 i) ∧ okY N.2
    rw [g8 1 (by omega) (by omega), k6, cI 5 (by omega), i5, g13, k14]
    exact ⟨⟨0, by omega, rfl, rfl, fun i hi => by omega⟩, dy⟩
  · show rT 0 (sR N.2 2) (sR N.2 3) (sR N.2 4) (sR N.2 5) (sR N.2 6) (sR N.2 7) (sR N.2 8) (sI N.2 0) (sL N.2 0) (sR X.1 23) (sR X.1 24) (sR X.1 25) (sR X.1 26) (sR X.1 27) (sR X.1 28) (sR X.1 29) (sR X.1 30) (sR X.1 31) (sR X.1 32) (sI X.1 7) (sL X.1 2)
    rw [g13, k14, di, dl, cI 7 (by omega), i7, cL, l2, c1 23 (by omega), c1 24 (by omega), c1 25 (by omega)]
    refine ⟨fun k hk e => ?_, fun k hk e => ?_, fun k hk e => ?_, ⟨0, by omega, rfl, rfl, fun i hi => by omega⟩, rfl, ⟨0, by omega, rfl, fun i hi => by omega⟩⟩
    · rw [f23 k hk] at e; exact absurd e (by decide)
    · rw [(f24 k hk).1] at e; exact absurd e (by decide)
    · rw [(f24 k hk).2] at e; exact absurd e (by decide)
/-- both machines begin with a program -/
theorem nk_boot (n : Nat) (hn : 40000 < n) {M X : St × St} {P s0 : St} {v T Z : Nat} (oy : okY M.2) (hv : v < 4) (pg : rPg P X.2 v T Z) : ∃ M' X' : St × St, df_X6_start n (s0, (M, P)) = some (s0, (M', P)) ∧ df_X16_boot n (nI v) X = some X' ∧ rM 0 M' X' ∧ X'.2 = X.2 ∧ sI X'.1 0 = nI 0 ∧ sI X'.1 14 = -nI 1 ∧ sI M'.1 7 = nI 0 ∧ sI X'.1 1 = nI 0 ∧ sR X'.1 1 0 = nI 1 ∧ ∀ q : Nat, q < 16 → ¬ sR X'.1 1 q = nI 2 := by
  obtain ⟨D', hD, d0, d1, d11, d12, d13, d14, d2, d4, di, dl, dy⟩ := cs_D n (by omega) M.2
  obtain ⟨s, e0, f1, f2, f19, f23, f24, ii, l0, l1, l2, s2⟩ := br_all n (by omega) (nI v) X
  obtain ⟨k1, k2, k3, k4, k5, k6, k7, k8, k9, k10, k11, k12, k13, k14⟩ := cM_rows M D'
  have cF0 : ∀ f : Nat, f < 256 → cF (sR s.1 16) f = 0 := fun f hf => cN_0 (fun i hi => decide_eq_false (fun z => by
    rw [(f2 i hi).1] at z
    exact nk_ne (by omega) z.symm))
  have cU0 : cU (sR s.1 16) = 0 := cN_0 (fun f hf => decide_eq_false (by rw [cF0 f hf]; omega))
  have rk : rK (cM M D') s := by
    show rQ (sR (cM M D').1 0) (sR (cM M D').1 1) (sR (cM M D').1 2) (sR s.1 15) (sR s.1 16) (sR s.1 17) (sR s.1 18) (sI (cM M D').1 0) (sI s.1 6)
    rw [k2, k3, k5, ii.2.2.2.2.2.2.1]
    exact ⟨fun i hi => Or.inl ⟨(f2 i hi).1, nf_i hi⟩, fun f hf => ⟨by rw [cF0 f hf]; exact nf_i hf, by rw [cF0 f hf]; exact (f2 f (by omega)).2⟩, fun f h1 h2 => (f2 f h2).2, by rw [cU0], by rw [cU0]⟩
  have yl : (T + 1023) / 1024 + dpg T Z + 4 ≤ 100 := by
    obtain ⟨q1, q2, q3, _⟩ := pg
    unfold dpg
    rcases q3 with e | e <;> omega
  obtain ⟨w, u, g, fu, b, fr, ri, ho, us, q1, q2, q3, q4, q5⟩ := nk_loadP n hn (M := cM M D') (X := s) (P := P) (s0 := s0) (p := 0) (v := v) (T := T) (Z := Z) rk (by omega) hv (by rw [s2]; exact pg) (fun k hk => (f2 _ (by omega)).1) (by rw [cU0]; omega)
  have hH : (Z + 1023) / 1024 * 1024 ≤ 61440 := by have := pg.2.1; omega
  generalize (Z + 1023) / 1024 * 1024 = H at q3 q4 q5 hH
  have rm := rM_boot (M := M) hH d0 d1 d11 d12 d13 d14 d2 d4 di dl (dy oy) f1 (fun i hi => (f2 i hi).1) f19 f23 f24 ii l0 l1 l2 q1 q2 q3
  obtain ⟨c1, _, _, _, _, _, _, _, _, _, _, _, _, _, cI, _, _, _, cX⟩ := bX_rows s b fr ri ho us H
  have fo0 : fo (lX s b fr ri ho us 0 H) = 0 := fN_is (by omega) (by omega) (decide_eq_true (by show sR s.1 19 0 ≤ nI 0; rw [f19 0 (by omega)]; decide)) (fun i _ hi => by omega)
  have o16 := nk_opening16 n (by omega) (X := lX s b fr ri ho us 0 H) (by rw [fo0]; omega) (nI 4) (nI 0) (nI 3)
  rw [fo0] at o16
  obtain ⟨M', X', x1, x2, x3, x4, x5, x6⟩ := nk_chooseB n (by omega) rm
  have st1 : ∀ q : Nat, q < 16 → sR (bX s b fr ri ho us H).1 1 q = if q = 0 then nI 1 else nI 0 := fun q hq => by
    rw [c1 1 (by omega)]; exact (f1 q hq).1
  have st2 : ∀ q : Nat, q < 16 → ¬ sR (bX s b fr ri ho us H).1 1 q = nI 2 := fun q hq z => by
    rw [st1 q hq] at z
    by_cases c : q = 0
    · rw [if_pos c] at z; exact absurd z (by decide)
    · rw [if_neg c] at z; exact absurd z (by decide)
  have se := st_nW n (by omega) st2 x2
  have R : df_X16_boot n (nI v) X = some X' := by
    rw [e0]
    unfold btl
    rw [q5, nb_b1, o16, nb_b2]
    exact se
  have C : df_X6_start n (s0, (M, P)) = some (s0, (M', P)) := by
    rw [cs_M n (by omega) hD, q4, nb_b1, x1, nb_b1]
  obtain ⟨y1, y2, y3, y4, y5, y6, y7⟩ := x4
  have e1 : sI (bX s b fr ri ho us H).1 1 = -nI 1 := (cI 1 (by omega)).trans ii.2.1
  rcases x6 with ⟨_, _, a, ha, z1, z2⟩ | ⟨_, vv, l, z1, z2, z3, z4⟩
  · exact absurd (z1.symm.trans e1) (nk_ne (by omega))
  · have ev : sI X'.1 1 = vv := by rw [z1]; rfl
    have er : sR X'.1 1 = sR (bX s b fr ri ho us H).1 1 := by rw [z1]; rfl
    have v0 : vv = nI 0 := by
      have := x3.2.2.2.2.1.2.1
      rw [ev] at this
      rcases this with y | ⟨a, ha, y⟩
      · have := (z3 y).1 0 (by omega)
        rw [st1 0 (by omega)] at this
        exact absurd rfl this
      · have := z4 a ha y
        rw [st1 a ha] at this
        by_cases c : a = 0
        · rw [y, c]
        · rw [if_neg c] at this; exact absurd this (by decide)
    have m7 : sI (pR (lM (cM M D') w u g fu 0 H).1 6 (upd (sR (lM (cM M D') w u g fu 0 H).1 6) 0 (nI 1))) 7 = nI 0 := ((lM_rows (cM M D') w u g fu 0 H).2.2.2.2.2.2.2.1 7 (by omega) (by omega)).trans k11
    exact ⟨M', X', C, R, x3, (y1.trans cX).trans s2, (y2.trans (cI 0 (by omega))).trans ii.1, (y5.trans (cI 14 (by omega))).trans ii.2.2.2.2.2.2.2.2, Eq.trans x5 m7, ev.trans v0, by rw [er]; exact (st1 0 (by omega)).trans (if_pos rfl), fun q hq => by rw [er]; exact st2 q hq⟩

theorem b8_w (w : Int32) : b8 (vp_nar .byte w.toInt8.toInt32) (w &&& nI 255) := by
  obtain ⟨A, hA, rfl⟩ := nI_ex w
  rw [nm_m255 hA]
  refine ⟨A % 256, by omega, rfl, ?_⟩
  have e : (nI A).toInt8 = (nI (A % 256)).toInt8 := by
    show Int32.toInt8 (Int32.ofNat A) = Int32.toInt8 (Int32.ofNat (A % 256))
    rw [Int32.toInt8_ofNat', Int32.toInt8_ofNat']
    apply Int8.toBitVec_inj.mp
    show BitVec.ofNat 8 A = BitVec.ofNat 8 (A % 256)
    apply BitVec.eq_of_toNat_eq
    rw [BitVec.toNat_ofNat, BitVec.toNat_ofNat]
    omega
  rw [e]
/-- settling where all has settled changes nothing -/
theorem nk_settleI (n : Nat) (hn : 1024 < n) {B : Nat} {K : St × (St × (St × St))} {X : St × St} (h : rM B K.2.2 X) (hs : sD n X) : df_X5_settle n K = some K := by
  have hst := rM_st h
  have m4 := h.2.2.2.1
  have cl := cW_le (sR X.1 1)
  obtain ⟨M', X', f1, f2, f3, f4, f5, f6⟩ := nk_chooseB n hn h
  have ch : df_X6_chooseCurrent n K.2.2 = some K.2.2 := by
    rcases f6 with ⟨z1, _⟩ | ⟨z1, v, l, z2, z3, z4, z5⟩
    · rw [z1] at f1; exact f1
    · rcases hs.2 with ⟨y1, y2⟩ | ⟨a, ha, y1, y2⟩
      · have := f3.2.2.2.2.1.2.1
        have ev : sI X'.1 1 = v := by rw [z2]; rfl
        rw [ev] at this
        rcases this with y | ⟨a, ha, y⟩
        · obtain ⟨g1, g2, g3, _⟩ := h.2.2.2.2.1
          have el := (z4 y).2
          have e3 : (pI (pI K.2.2.1 3 v) 4 l, K.2.2.2) = K.2.2 := by
            rw [show v = sI K.2.2.1 3 from y.trans (g1.trans y1).symm, nm_i0, show l = sI K.2.2.1 4 from el.trans g3.symm, nm_i0]
          rw [z3, e3] at f1
          exact f1
        · exact absurd (z5 a ha y) (y2 a ha)
      · exfalso
        rcases z1 with z | ⟨a', ha', z6, z7⟩
        · rw [y1] at z; exact nk_ne (by omega) z
        · have : a = a' := nm_inI (by omega) (by omega) (y1.symm.trans z6)
          rw [← this] at z7
          exact z7 y2
  have e80 : df_X5_settle_80 n K = some K := by
    unfold df_X5_settle_80
    rw [ch, nb_b1, nb_let]
  by_cases x0 : cW (sR X.1 1) ≤ 0
  · obtain ⟨n1, rfl⟩ : ∃ n1 : Nat, n = n1 + 1 := ⟨n - 1, by omega⟩
    generalize cW (sR X.1 1) = x at m4 cl x0
    have u1 : x < 2 ^ 31 := by omega
    refine Eq.trans (b := df_X5_settle_2 (n1 + 1) (n1 + 1) (nI 0) K) rfl ?_
    rw [show df_X5_settle_2 (n1 + 1) (n1 + 1) = dF_X5_settle_2 (n1 + 1) (df_X5_settle_2 (n1 + 1) n1) from rfl]
    generalize df_X5_settle_2 (n1 + 1) n1 = G
    simp (disch := (first | assumption | decide | omega)) only [dF_X5_settle_2, m4, x0, e80, eq_self, Nat.reduceEqDiff, Nat.reduceLeDiff, nl_0, nl_2, nl_16, no_1, no_1024, pk_mul, nI_add, nm_ck, nI_clamp, nI_ltI, nI_leI, nI_eq, nb_b2, nb_b1, ↓nb_let, nm_z0, nm_z1, nb_II, nb_IR, nb_RI, nb_RR, nm_IL, nm_IQ, nm_RL, nm_RQ, nm_LI, nm_LR, nm_LL, nm_LQ, nm_QI, nm_QR, nm_QL, nm_QQ, nm_rr, nm_ii, nm_eqm, not_false_eq_true, pk_sub, nm_div, nm_shl, nm_shr, nm_ush, nm_or8, nm_or64, nm_or256, nm_m1, nm_m3, nm_m7, nm_m15, nm_m31, nm_m63, nm_m255, nm_m511, nm_m1023, nm_m2047, nm_m65535, Nat.reduceMod, Nat.reducePow, Nat.reduceAdd, Nat.reduceSub, Nat.reduceMul, nm_bo, nm_bi, nm_rc, nm_ic, nm_ri, nm_rl, nm_rq, nm_ql, nm_qi, nm_li, nm_us, nm_uu, nm_cp, nm_sa31, nm_sa7, nm_m127, nm_m2, nm_nz, nm_nzk, nm_eq32, nm_nzf, if_true, if_false, ↓reduceIte, if_pos, if_neg]
  · obtain ⟨m, hm⟩ := nm_lq (fun m k => df_X5_settle_2 n m (nI k) K) 16 n (by omega) (fun q m hq => by
      obtain ⟨t, ht, t1, t2⟩ := hst q hq
      have u1 : q * 7 < 112 := by omega
      have u2 : q < 2 ^ 31 := by omega
      have u3 : t < 2 ^ 31 := by omega
      have u4 : q * 7 < 2 ^ 31 := by omega
      have q16 : ¬ 16 ≤ q := by omega
      rw [show df_X5_settle_2 n (m + 1) = dF_X5_settle_2 n (df_X5_settle_2 n m) from rfl]
      generalize df_X5_settle_2 n m = G
      by_cases k2 : t = 2
      · rw [k2] at t1 t2
        obtain ⟨y1, y2⟩ := hs.1 q hq t2
        obtain ⟨tt, c, w, b, e, htt, hc, hw', hb, he, a1, a2, a3, a4, a5, a6, a7, a8, a9, a10, a11, _⟩ := h.2.2.1 q hq
        obtain ⟨p1, p2, p3⟩ := nk_takeable n hn hq hc hw' a8 a10 a9 a11
        have f0 : tk (2 * c) w = 0 := by
          rw [y2] at p2
          injection p2 with p2
          injection p2 with p2 _
          exact (nm_inI (by omega) (by omega) p2).symm
        rw [f0] at p1
        obtain ⟨bb, b1, b2⟩ := nk_mustWait n hn h hq t2
        rw [y1] at b2
        cases bb with
        | false => cases b2
        | true =>
          rw [bI_t] at b1
          rw [st_C n hq x0 cl m4 t1 (show 0 < 16 by omega) p1, if_pos rfl, b1, nb_b2, if_neg (show ¬ (nI 1 : Int32) = 0 by decide)]
          simp (disch := (first | assumption | decide | omega)) only [df_X5_settle_74, eq_self, Nat.reduceEqDiff, Nat.reduceLeDiff, nl_1, no_1, no_1024, pk_mul, nI_add, nm_ck, nI_clamp, nI_ltI, nI_leI, nI_eq, nb_b2, nb_b1, ↓nb_let, nm_z0, nm_z1, nb_II, nb_IR, nb_RI, nb_RR, nm_IL, nm_IQ, nm_RL, nm_RQ, nm_LI, nm_LR, nm_LL, nm_LQ, nm_QI, nm_QR, nm_QL, nm_QQ, nm_rr, nm_ii, nm_eqm, not_false_eq_true, pk_sub, nm_div, nm_shl, nm_shr, nm_ush, nm_or8, nm_or64, nm_or256, nm_m1, nm_m3, nm_m7, nm_m15, nm_m31, nm_m63, nm_m255, nm_m511, nm_m1023, nm_m2047, nm_m65535, Nat.reduceMod, Nat.reducePow, Nat.reduceAdd, Nat.reduceSub, Nat.reduceMul, nm_bo, nm_bi, nm_rc, nm_ic, nm_ri, nm_rl, nm_rq, nm_ql, nm_qi, nm_li, nm_us, nm_uu, nm_cp, nm_sa31, nm_sa7, nm_m127, nm_m2, nm_nz, nm_nzk, nm_eq32, nm_nzf, if_true, if_false, ↓reduceIte, if_pos, if_neg]
      · generalize cW (sR X.1 1) = x at m4 cl x0
        have u5 : x < 2 ^ 31 := by omega
        simp (disch := (first | assumption | decide | omega)) only [dF_X5_settle_2, df_X5_settle_74, df_X6_status_0, df_X6_status, q16, m4, x0, Nat.add_zero, t1, k2, eq_self, Nat.reduceEqDiff, Nat.reduceLeDiff, nl_0, nl_1, nl_2, nl_6, nl_7, nl_16, nl_112, no_1, no_1024, pk_mul, nI_add, nm_ck, nI_clamp, nI_ltI, nI_leI, nI_eq, nb_b2, nb_b1, ↓nb_let, nm_z0, nm_z1, nb_II, nb_IR, nb_RI, nb_RR, nm_IL, nm_IQ, nm_RL, nm_RQ, nm_LI, nm_LR, nm_LL, nm_LQ, nm_QI, nm_QR, nm_QL, nm_QQ, nm_rr, nm_ii, nm_eqm, not_false_eq_true, pk_sub, nm_div, nm_shl, nm_shr, nm_ush, nm_or8, nm_or64, nm_or256, nm_m1, nm_m3, nm_m7, nm_m15, nm_m31, nm_m63, nm_m255, nm_m511, nm_m1023, nm_m2047, nm_m65535, Nat.reduceMod, Nat.reducePow, Nat.reduceAdd, Nat.reduceSub, Nat.reduceMul, nm_bo, nm_bi, nm_rc, nm_ic, nm_ri, nm_rl, nm_rq, nm_ql, nm_qi, nm_li, nm_us, nm_uu, nm_cp, nm_sa31, nm_sa7, nm_m127, nm_m2, nm_nz, nm_nzk, nm_eq32, nm_nzf, if_true, if_false, ↓reduceIte, if_pos, if_neg])
    refine Eq.trans (b := df_X5_settle_2 n n (nI 0) K) rfl (Eq.trans hm ?_)
    show df_X5_settle_2 n (m + 1) (nI 16) K = _
    rw [show df_X5_settle_2 n (m + 1) = dF_X5_settle_2 n (df_X5_settle_2 n m) from rfl]
    generalize df_X5_settle_2 n m = G
    simp (disch := (first | assumption | decide | omega)) only [dF_X5_settle_2, e80, eq_self, Nat.reduceEqDiff, Nat.reduceLeDiff, nl_0, nl_2, nl_16, no_1, no_1024, pk_mul, nI_add, nm_ck, nI_clamp, nI_ltI, nI_leI, nI_eq, nb_b2, nb_b1, ↓nb_let, nm_z0, nm_z1, nb_II, nb_IR, nb_RI, nb_RR, nm_IL, nm_IQ, nm_RL, nm_RQ, nm_LI, nm_LR, nm_LL, nm_LQ, nm_QI, nm_QR, nm_QL, nm_QQ, nm_rr, nm_ii, nm_eqm, not_false_eq_true, pk_sub, nm_div, nm_shl, nm_shr, nm_ush, nm_or8, nm_or64, nm_or256, nm_m1, nm_m3, nm_m7, nm_m15, nm_m31, nm_m63, nm_m255, nm_m511, nm_m1023, nm_m2047, nm_m65535, Nat.reduceMod, Nat.reducePow, Nat.reduceAdd, Nat.reduceSub, Nat.reduceMul, nm_bo, nm_bi, nm_rc, nm_ic, nm_ri, nm_rl, nm_rq, nm_ql, nm_qi, nm_li, nm_us, nm_uu, nm_cp, nm_sa31, nm_sa7, nm_m127, nm_m2, nm_nz, nm_nzk, nm_eq32, nm_nzf, if_true, if_false, ↓reduceIte, if_pos, if_neg]
/-- what is typed comes -/
theorem rM_type {B : Nat} {M X : St × St} (h : rM B M X) {T : Nat} (hT : T ≤ 512) {ty tp : Nat → Int32} (hb : ∀ i : Nat, i < T → b8 (ty i) (tp i)) (hy : ∀ i : Nat, i < 512 → fb8 (ty i)) : rM B (M.1, pI (pR M.2 7 ty) 0 (nI T)) (pI (pR X.1 31 tp) 7 (nI T), X.2) := by
  obtain ⟨m1, m2, m3, m4, m5, m6, ⟨t1, t2, t3, t4, t5⟩⟩ := h
  exact ⟨m1, m2, m3, m4, m5, ⟨m6.1, m6.2.1, m6.2.2.1, m6.2.2.2.1, hy, m6.2.2.2.2.2⟩, ⟨t1, t2, t3, ⟨T, hT, rfl, rfl, hb⟩, t5⟩⟩
theorem rM_clk {B : Nat} {M X : St × St} (h : rM B M X) (a : Int64) : rM B (pL M.1 0 (sL M.1 0 + a), M.2) (pL X.1 1 (sL X.1 1 + a), X.2) := by
  obtain ⟨m1, m2, m3, m4, ⟨g1, g2, g3, g4, g5, g6, g7, g8, g9, g10, g11⟩, m6, m7⟩ := h
  exact ⟨m1, m2, m3, m4, ⟨g1, g2, g3, g4, g5, g6, g7, g8, g9, congrArg (· + a) g10, g11⟩, m6, m7⟩
theorem rM_word {B : Nat} {M X : St × St} (h : rM B M X) {k : Nat} (hk : k < 16) (e : sI X.1 5 = nI k) (v : Int32) : rM B (pI (pR M.1 7 (upd (sR M.1 7) k v)) 1 (nI (k + 1)), M.2) (pI (pR X.1 0 (upd (sR X.1 0) k v)) 5 (nI (k + 1)), X.2) := by
  obtain ⟨m1, m2, m3, m4, m5, ⟨⟨k', y1, y2, y3, y4⟩, my⟩, m7⟩ := h
  have : k' = k := nm_inI (by omega) (by omega) (y3.symm.trans e)
  subst this
  refine ⟨m1, m2, m3, m4, m5, ⟨⟨k' + 1, by omega, rfl, rfl, fun i hi => ?_⟩, my⟩, m7⟩
  show upd (sR M.1 7) k' v i = upd (sR X.1 0) k' v i
  by_cases c : i = k'
  · rw [c, nm_us, nm_us]
  · rw [nm_un c, nm_un c]
    exact y4 i (by omega)
/-- the loop that types, in both -/
theorem ty_L (n : Nat) (hn : 1024 < n) {D : St} {X : St × St} {T j : Nat} (hj : T + j ≤ 512) (eC : sI D 0 = nI T) (eR : sI X.1 7 = nI T) (hb : ∀ i : Nat, i < T → b8 (sR D 7 i) (sR X.1 31 i)) (hy : ∀ i : Nat, i < 512 → fb8 (sR D 7 i)) (a : Int64) : ∃ ty tp : Nat → Int32, (∀ i : Nat, i < T + j → b8 (ty i) (tp i)) ∧ (∀ i : Nat, i < 512 → fb8 (ty i)) ∧ df_X10_type_19 n n a (nI j - nI 1) D = some (nI 1, pI (pR D 7 ty) 0 (nI (T + j))) ∧ df_X16_event_76 n n (nI 1) a (nI j - nI 1) X = df_X16_event_149 n (pI (pR X.1 31 tp) 7 (nI (T + j)), X.2) := by
  have i1 : D = pI (pR D 7 (sR D 7)) 0 (nI (T + 0)) := by
    rw [nm_r0, Nat.add_zero, ← eC, nm_i0]
  have i2 : X = (pI (pR X.1 31 (sR X.1 31)) 7 (nI (T + 0)), X.2) := by
    rw [nm_r0, Nat.add_zero, ← eR, nm_i0]
  obtain ⟨m, s, t, ⟨ty, tp, e1, e2, e3, e4⟩, r1, r2⟩ := nm_l2 (S := St) (T := St × St) (fun g c s => df_X10_type_19 n g a (nI (j - c) - nI 1) s) (fun g c t => df_X16_event_76 n g (nI 1) a (nI (j - c) - nI 1) t) (fun c s t => ∃ ty tp : Nat → Int32, s = pI (pR D 7 ty) 0 (nI (T + c)) ∧ t = (pI (pR X.1 31 tp) 7 (nI (T + c)), X.2) ∧ (∀ i : Nat, i < T + c → b8 (ty i) (tp i)) ∧ ∀ i : Nat, i < 512 → fb8 (ty i)) j n (by omega) (fun c g s t hc ⟨ty, tp, e1, e2, e3, e4⟩ => by
    subst e1 e2
    have k1 : nI (j - c) - nI 1 = nI (j - (c + 1)) := by
      rw [pk_sub (by omega), show j - c - 1 = j - (c + 1) by omega]
    have k3 : nI (j - (c + 1)) + Int32.ofInt (-1) = nI (j - (c + 1)) - nI 1 := by
      rw [Int32.sub_eq_add_neg]
      rfl
    have k4 : ¬ j - (c + 1) < 0 := by omega
    have u1 : j - (c + 1) < 2 ^ 31 := by omega
    have u2 : T + c < 512 := by omega
    have u3 : T + c < 2 ^ 31 := by omega
    have u4 : T + c + 1 = T + (c + 1) := by omega
    have bw := b8_w ((a >>> (((8 : Int32) * nI (j - (c + 1))).toInt64 &&& 63)).toInt32)
    refine ⟨_, _, ⟨upd ty (T + c) (vp_nar .byte (((a >>> (((8 : Int32) * nI (j - (c + 1))).toInt64 &&& 63)).toInt32).toInt8.toInt32)), upd tp (T + c) ((a >>> (((8 : Int32) * nI (j - (c + 1))).toInt64 &&& 63)).toInt32 &&& nI 255), rfl, rfl, fun i hi => ?_, fun i hi => fb_u (b8_fit bw) (e4 i hi)⟩, ?_, ?_⟩
    · by_cases d : i = T + c
      · rw [d, nm_us, nm_us]; exact bw
      · rw [nm_un d, nm_un d]; exact e3 i (by omega)
    · rw [k1, show df_X10_type_19 n (g + 1) = dF_X10_type_19 n (df_X10_type_19 n g) from rfl]
      generalize df_X10_type_19 n g = G
      clear bw e3 e4
      unfold dF_X10_type_19
      rw [if_neg (show ¬ nI (j - (c + 1)) < (0 : Int32) from fun z => by have z : nI (j - (c + 1)) < nI 0 := z; rw [nI_ltI u1 (by omega)] at z; omega)]
      rw [show sI (pI (pR D 7 ty) 0 (nI (T + c))) 0 = nI (T + c) from rfl, nm_ck u2 u3, nI_clamp u3, nb_let, nb_let, k3, nb_let]
      rw [show ∀ z : Nat → Int32, sI (pR (pI (pR D 7 ty) 0 (nI (T + c))) 7 z) 0 + 1 = nI (T + (c + 1)) from fun _ => nI_add .., show ∀ z : Nat → Int32, pI (pR (pI (pR D 7 ty) 0 (nI (T + c))) 7 z) 0 (nI (T + (c + 1))) = pI (pR D 7 z) 0 (nI (T + (c + 1))) from fun z => by rw [nm_ri, nm_ii, nm_rr]]
      rfl
    · rw [k1, show df_X16_event_76 n (g + 1) = dF_X16_event_76 n (df_X16_event_76 n g) from rfl]
      generalize df_X16_event_76 n g = G
      clear bw e3 e4
      unfold dF_X16_event_76
      rw [if_neg (show ¬ nI (j - (c + 1)) < (0 : Int32) from fun z => by have z : nI (j - (c + 1)) < nI 0 := z; rw [nI_ltI u1 (by omega)] at z; omega), if_pos (show nI 1 = (1 : Int32) from rfl)]
      rw [show sI (pI (pR X.1 31 tp) 7 (nI (T + c)), X.2).1 7 = nI (T + c) from rfl, nm_ck u2 u3, nI_clamp u3, nb_let, nb_let, k3, nb_let]
      rw [show ∀ z : Nat → Int32, sI (pR (pI (pR X.1 31 tp) 7 (nI (T + c)), X.2).1 31 z, (pI (pR X.1 31 tp) 7 (nI (T + c)), X.2).2).1 7 + 1 = nI (T + (c + 1)) from fun _ => nI_add .., show ∀ z : Nat → Int32, pI (pR (pI (pR X.1 31 tp) 7 (nI (T + c)), X.2).1 31 z, (pI (pR X.1 31 tp) 7 (nI (T + c)), X.2).2).1 7 (nI (T + (c + 1))) = pI (pR X.1 31 z) 7 (nI (T + (c + 1))) from fun z => by show pI (pR (pI (pR X.1 31 tp) 7 (nI (T + c))) 31 z) 7 _ = _; rw [nm_ri, nm_ii, nm_rr]]
      rfl) D X ⟨_, _, i1, i2, fun i hi => hb i (by omega), hy⟩
  subst e1 e2
  refine ⟨ty, tp, e3, e4, ?_, ?_⟩
  · refine Eq.trans r1 ?_
    show df_X10_type_19 n (m + 1) a (nI (j - j) - nI 1) _ = _
    rw [Nat.sub_self, show df_X10_type_19 n (m + 1) = dF_X10_type_19 n (df_X10_type_19 n m) from rfl]
    generalize df_X10_type_19 n m = G
    unfold dF_X10_type_19
    rw [if_pos (show nI 0 - nI 1 < (0 : Int32) by decide)]
    rfl
  · refine Eq.trans r2 ?_
    show df_X16_event_76 n (m + 1) (nI 1) a (nI (j - j) - nI 1) _ = _
    rw [Nat.sub_self, show df_X16_event_76 n (m + 1) = dF_X16_event_76 n (df_X16_event_76 n m) from rfl]
    generalize df_X16_event_76 n m = G
    unfold dF_X16_event_76
    rw [if_pos (show nI 0 - nI 1 < (0 : Int32) by decide)]
    unfold df_X16_event_123
    rw [if_neg (show ¬ nI 1 = (4 : Int32) by decide)]

/-- behind an event, in both -/
def eO (n B : Nat) (K : St × (St × (St × St))) (X : St × St) (oc : Option (Int32 × (St × (St × (St × St))))) (or : Option (Int32 × (St × St))) : Prop := ∃ (r : Int32) (M' X' : St × St), (r = nI 0 ∨ r = nI 1) ∧ oc = some (r, (K.1, (K.2.1, M'))) ∧ or = some (r, X') ∧ rM B M' X' ∧ kX X X' ∧ kM K.2.2 M' ∧ sD n X' ∧ (r = nI 0 → X' = X)
theorem ev_1 (n : Nat) (hn : 1024 < n) {B : Nat} {K : St × (St × (St × St))} {X M1 X1 : St × St} (h : rM B M1 X1) (hx : kX X X1) (hm : kM K.2.2 M1) : eO n B K X (df_X5_come_186 n (nI 1) (K.1, (K.2.1, M1))) (df_X16_event_149 n X1) := by
  obtain ⟨M', X', e1, e2, e3, e4, e5, e6⟩ := nk_settle2 n hn (K := (K.1, (K.2.1, M1))) h
  refine ⟨nI 1, M', X', Or.inr rfl, ?_, ?_, e3, kX_t hx e4, kM_t hm e5, e6, fun z => absurd z (by decide)⟩
  · unfold df_X5_come_186
    rw [e1, nb_b1]
    exact nm_z1
  · unfold df_X16_event_149
    rw [e2, nb_b1]
    rfl
theorem ev_0 (n : Nat) (hn : 1024 < n) {B : Nat} {K : St × (St × (St × St))} {X : St × St} (h : rM B K.2.2 X) (hs : sD n X) : eO n B K X (df_X5_come_186 n (nI 0) K) (some (nI 0, X)) := by
  have e := nk_settleI n hn h hs
  refine ⟨nI 0, K.2.2, X, Or.inl rfl, ?_, rfl, h, kX_r X, rfl, hs, fun _ => rfl⟩
  unfold df_X5_come_186
  rw [e, nb_b1]
  exact nm_z0
theorem er_76 (n : Nat) (hn : 0 < n) {k : Nat} (hk : ¬ k = 1) (k5 : k < 5) (a : Int64) (z : Int32) (X : St × St) : df_X16_event_76 n n (nI k) a z X = df_X16_event_123 n (nI k) a X := by
  obtain ⟨m, rfl⟩ : ∃ m : Nat, n = m + 1 := ⟨n - 1, by omega⟩
  rw [show df_X16_event_76 (m + 1) (m + 1) = dF_X16_event_76 (m + 1) (df_X16_event_76 (m + 1) m) from rfl]
  generalize df_X16_event_76 (m + 1) m = G
  unfold dF_X16_event_76
  by_cases c : z < 0
  · rw [if_pos c]
  · rw [if_neg c, if_neg (show ¬ nI k = (1 : Int32) from fun y => hk (nm_inI (by omega) (by omega) (show nI k = nI 1 from y)))]
theorem er_55 (n : Nat) (hn : 0 < n) {k : Nat} (hk : ¬ k = 1) (k3 : ¬ k = 3) (k5 : k < 5) (a : Int64) (b : Int32) (X : St × St) : df_X16_event_55 n (nI k) a b X = df_X16_event_123 n (nI k) a X := by
  unfold df_X16_event_55
  rw [if_neg (show ¬ nI k = (3 : Int32) from fun y => k3 (nm_inI (by omega) (by omega) (show nI k = nI 3 from y)))]
  unfold df_X16_event_70
  rw [nb_let]
  exact er_76 n hn hk k5 a _ X
theorem er_123 (n : Nat) {k : Nat} (k4 : ¬ k = 4) (k5 : k < 5) (a : Int64) (X : St × St) : df_X16_event_123 n (nI k) a X = df_X16_event_149 n X := by
  unfold df_X16_event_123
  rw [if_neg (show ¬ nI k = (4 : Int32) from fun y => k4 (nm_inI (by omega) (by omega) (show nI k = nI 4 from y)))]
theorem sta_C (n : Nat) {M : St × St} {q t : Nat} (hq : q < 16) (t1 : sR M.1 6 (q * 7) = nI t) : df_X6_status n (nI q) M = some (nI t, M) := by
  have u1 : q * 7 < 112 := by omega
  have u4 : q * 7 < 2 ^ 31 := by omega
  simp (disch := (first | assumption | decide | omega)) only [df_X6_status_0, df_X6_status, Nat.add_zero, t1, eq_self, Nat.reduceEqDiff, Nat.reduceLeDiff, nl_0, nl_6, nl_7, nl_112, no_1, no_1024, pk_mul, nI_add, nm_ck, nI_clamp, nI_ltI, nI_leI, nI_eq, nb_b2, nb_b1, ↓nb_let, nm_z0, nm_z1, nb_II, nb_IR, nb_RI, nb_RR, nm_IL, nm_IQ, nm_RL, nm_RQ, nm_LI, nm_LR, nm_LL, nm_LQ, nm_QI, nm_QR, nm_QL, nm_QQ, nm_rr, nm_ii, nm_eqm, not_false_eq_true, pk_sub, nm_div, nm_shl, nm_shr, nm_ush, nm_or8, nm_or64, nm_or256, nm_m1, nm_m3, nm_m7, nm_m15, nm_m31, nm_m63, nm_m255, nm_m511, nm_m1023, nm_m2047, nm_m65535, Nat.reduceMod, Nat.reducePow, Nat.reduceAdd, Nat.reduceSub, Nat.reduceMul, nm_bo, nm_bi, nm_rc, nm_ic, nm_ri, nm_rl, nm_rq, nm_ql, nm_qi, nm_li, nm_us, nm_uu, nm_cp, nm_sa31, nm_sa7, nm_m127, nm_m2, nm_nz, nm_nzk, nm_eq32, nm_nzf, if_true, if_false, ↓reduceIte, if_pos, if_neg]
/-- a timer: another process comes -/
theorem nq_ev0 (n : Nat) (hn : 1024 < n) {B : Nat} {K : St × (St × (St × St))} {X : St × St} (h : rM B K.2.2 X) (hs : sD n X) {q : Nat} (hq : q < 16) {a : Int64} (ea : a.toInt32 = nI q) (b : Int32) : eO n B K X (df_X5_come n (nI 0) a b K) (df_X16_event n (nI 0) a b X) := by
  obtain ⟨t, ht, t1, t2⟩ := rM_st h q hq
  have u1 : q < 2 ^ 31 := by omega
  have u2 : t < 2 ^ 31 := by omega
  have s1 := sta_C n (M := K.2.2) hq t1
  have em : a.toInt32 &&& 15 = nI q := by
    rw [ea]
    show nI q &&& nI 15 = nI q
    rw [nm_m15 (by omega), Nat.mod_eq_of_lt hq]
  have C0 : df_X5_come n (nI 0) a b K = if nI t = (1 : Int32) then df_X5_come_58 n (nI q) 1 K else df_X5_come_58 n (nI q) 0 K := by
    unfold df_X5_come df_X5_come_0
    rw [nb_let, if_pos (show nI 0 = (0 : Int32) from rfl), em, s1, nb_b2, nb_let]
  rw [C0]
  by_cases c : t = 1
  · subst c
    rw [if_pos (show nI 1 = (1 : Int32) from rfl)]
    have cn : df_X16_can n (nI 0) a b X = some (nI 1, X) := by
      simp (disch := (first | assumption | decide | omega)) only [df_X16_can, df_X16_can_0, df_X16_can_48, ea, t2, eq_self, Nat.reduceEqDiff, Nat.reduceLeDiff, nl_0, nl_1, nl_2, nl_3, nl_5, nl_7, nl_16, nl_512, no_1, no_1024, pk_mul, nI_add, nm_ck, nI_clamp, nI_ltI, nI_leI, nI_eq, nb_b2, nb_b1, ↓nb_let, nm_z0, nm_z1, nb_II, nb_IR, nb_RI, nb_RR, nm_IL, nm_IQ, nm_RL, nm_RQ, nm_LI, nm_LR, nm_LL, nm_LQ, nm_QI, nm_QR, nm_QL, nm_QQ, nm_rr, nm_ii, nm_eqm, not_false_eq_true, pk_sub, nm_div, nm_shl, nm_shr, nm_ush, nm_or8, nm_or64, nm_or256, nm_m1, nm_m3, nm_m7, nm_m15, nm_m31, nm_m63, nm_m255, nm_m511, nm_m1023, nm_m2047, nm_m65535, Nat.reduceMod, Nat.reducePow, Nat.reduceAdd, Nat.reduceSub, Nat.reduceMul, nm_bo, nm_bi, nm_rc, nm_ic, nm_ri, nm_rl, nm_rq, nm_ql, nm_qi, nm_li, nm_us, nm_uu, nm_cp, nm_sa31, nm_sa7, nm_m127, nm_m2, nm_nz, nm_nzk, nm_eq32, nm_nzf, if_true, if_false, ↓reduceIte, if_pos, if_neg]
    have R0 : df_X16_event n (nI 0) a b X = df_X16_event_149 n (pI (pI X.1 1 (nI q)) 2 (nI q), X.2) := by
      unfold df_X16_event df_X16_event_0
      rw [cn, nb_b2, if_neg (show ¬ nI 1 = (0 : Int32) by decide), nb_let, if_pos (show nI 0 = (0 : Int32) from rfl), nb_let, nb_let, ea]
      unfold df_X16_event_36
      rw [if_neg (show ¬ nI 0 = (2 : Int32) by decide), er_55 n (by omega) (by omega) (by omega) (by omega), er_123 n (by omega) (by omega)]
      rw [show pI (pI X.1 1 (nI q)) 2 (nI q) = pI (pI X.1 2 (nI q)) 1 (nI q) from (nm_ic (a := 2) (b := 1) (by decide)).symm]
    have u3 : ¬ q < 0 := by omega
    have mc : df_X6_makeCurrent n (nI q) K.2.2 = some (pI (pI K.2.2.1 3 (nI q)) 4 (nI q), K.2.2.2) := by simp (disch := (first | assumption | decide | omega)) only [df_X6_makeCurrent_14, df_X6_makeCurrent_0, df_X6_makeCurrent, u3, eq_self, Nat.reduceEqDiff, Nat.reduceLeDiff, nl_0, nl_3, nl_4, no_1, no_1024, pk_mul, nI_add, nm_ck, nI_clamp, nI_ltI, nI_leI, nI_eq, nb_b2, nb_b1, ↓nb_let, nm_z0, nm_z1, nb_II, nb_IR, nb_RI, nb_RR, nm_IL, nm_IQ, nm_RL, nm_RQ, nm_LI, nm_LR, nm_LL, nm_LQ, nm_QI, nm_QR, nm_QL, nm_QQ, nm_rr, nm_ii, nm_eqm, not_false_eq_true, pk_sub, nm_div, nm_shl, nm_shr, nm_ush, nm_or8, nm_or64, nm_or256, nm_m1, nm_m3, nm_m7, nm_m15, nm_m31, nm_m63, nm_m255, nm_m511, nm_m1023, nm_m2047, nm_m65535, Nat.reduceMod, Nat.reducePow, Nat.reduceAdd, Nat.reduceSub, Nat.reduceMul, nm_bo, nm_bi, nm_rc, nm_ic, nm_ri, nm_rl, nm_rq, nm_ql, nm_qi, nm_li, nm_us, nm_uu, nm_cp, nm_sa31, nm_sa7, nm_m127, nm_m2, nm_nz, nm_nzk, nm_eq32, nm_nzf, if_true, if_false, ↓reduceIte, if_pos, if_neg]
    have C1 : df_X5_come_58 n (nI q) 1 K = df_X5_come_186 n (nI 1) (K.1, (K.2.1, (pI (pI K.2.2.1 3 (nI q)) 4 (nI q), K.2.2.2))) := by
      unfold df_X5_come_58
      rw [if_neg (show ¬ (1 : Int32) = 0 by decide), mc, nb_b1, nb_let]
      rfl
    rw [C1, R0]
    exact ev_1 n hn (rM_cur h (Or.inr ⟨q, hq, rfl⟩) ⟨q, hq, rfl⟩ (Or.inr rfl)) ⟨rfl, rfl, rfl, rfl, rfl, rfl, rfl⟩ rfl
  · rw [if_neg (show ¬ nI t = (1 : Int32) from fun y => c (nm_inI (by omega) (by omega) (show nI t = nI 1 from y)))]
    have cn : df_X16_can n (nI 0) a b X = some (nI 0, X) := by
      simp (disch := (first | assumption | decide | omega)) only [df_X16_can, df_X16_can_0, df_X16_can_48, ea, t2, c, eq_self, Nat.reduceEqDiff, Nat.reduceLeDiff, nl_0, nl_1, nl_2, nl_3, nl_5, nl_7, nl_16, nl_512, no_1, no_1024, pk_mul, nI_add, nm_ck, nI_clamp, nI_ltI, nI_leI, nI_eq, nb_b2, nb_b1, ↓nb_let, nm_z0, nm_z1, nb_II, nb_IR, nb_RI, nb_RR, nm_IL, nm_IQ, nm_RL, nm_RQ, nm_LI, nm_LR, nm_LL, nm_LQ, nm_QI, nm_QR, nm_QL, nm_QQ, nm_rr, nm_ii, nm_eqm, not_false_eq_true, pk_sub, nm_div, nm_shl, nm_shr, nm_ush, nm_or8, nm_or64, nm_or256, nm_m1, nm_m3, nm_m7, nm_m15, nm_m31, nm_m63, nm_m255, nm_m511, nm_m1023, nm_m2047, nm_m65535, Nat.reduceMod, Nat.reducePow, Nat.reduceAdd, Nat.reduceSub, Nat.reduceMul, nm_bo, nm_bi, nm_rc, nm_ic, nm_ri, nm_rl, nm_rq, nm_ql, nm_qi, nm_li, nm_us, nm_uu, nm_cp, nm_sa31, nm_sa7, nm_m127, nm_m2, nm_nz, nm_nzk, nm_eq32, nm_nzf, if_true, if_false, ↓reduceIte, if_pos, if_neg]
    have R0 : df_X16_event n (nI 0) a b X = some (nI 0, X) := by
      unfold df_X16_event df_X16_event_0
      rw [cn, nb_b2, if_pos (show nI 0 = (0 : Int32) from rfl)]
      rfl
    have C1 : df_X5_come_58 n (nI q) 0 K = df_X5_come_186 n (nI 0) K := by
      unfold df_X5_come_58
      rw [if_pos (show (0 : Int32) = 0 from rfl)]
      rfl
    rw [C1, R0]
    exact ev_0 n hn h hs
/-- what is typed -/
theorem nq_ev1 (n : Nat) (hn : 1024 < n) {B : Nat} {K : St × (St × (St × St))} {X : St × St} (h : rM B K.2.2 X) (hs : sD n X) {j : Nat} (hj : j ≤ 8) (a : Int64) : eO n B K X (df_X5_come n (nI 1) a (nI j) K) (df_X16_event n (nI 1) a (nI j) X) := by
  obtain ⟨T, hT, eC, eR, hb⟩ := h.2.2.2.2.2.2.2.2.2.1
  have u1 : T + j < 2 ^ 31 := by omega
  have C0 : ∀ (r : Int32) (D' : St), df_X10_type n a (nI j) K.2.2.2 = some (r, D') → df_X5_come n (nI 1) a (nI j) K = df_X5_come_186 n r (K.1, (K.2.1, (K.2.2.1, D'))) := fun r D' e => by
    unfold df_X5_come df_X5_come_0
    rw [nb_let, if_neg (show ¬ nI 1 = (0 : Int32) by decide), if_pos (show nI 1 = (1 : Int32) from rfl), e, nb_b2, nb_let]
  by_cases c : T + j ≤ 512
  · have c' : ¬ 512 < T + j := by omega
    obtain ⟨ty, tp, b1, by', l1, l2⟩ := ty_L n hn (D := K.2.2.2) (X := X) c eC eR hb h.2.2.2.2.2.1.2.2.2.2.1 a
    have ty1 : df_X10_type n a (nI j) K.2.2.2 = some (nI 1, pI (pR K.2.2.2 7 ty) 0 (nI (T + j))) := by
      unfold df_X10_type df_X10_type_0
      rw [eC, if_pos (show nI T + nI j ≤ (512 : Int32) from (show nI T + nI j ≤ nI 512 by rw [nI_add, nI_leI u1 (by omega)]; exact c)), nb_let]
      exact l1
    have cn : df_X16_can n (nI 1) a (nI j) X = some (nI 1, X) := by
      simp (disch := (first | assumption | decide | omega)) only [df_X16_can, df_X16_can_0, df_X16_can_67, eR, c', eq_self, Nat.reduceEqDiff, Nat.reduceLeDiff, nl_0, nl_1, nl_2, nl_3, nl_5, nl_7, nl_16, nl_512, no_1, no_1024, pk_mul, nI_add, nm_ck, nI_clamp, nI_ltI, nI_leI, nI_eq, nb_b2, nb_b1, ↓nb_let, nm_z0, nm_z1, nb_II, nb_IR, nb_RI, nb_RR, nm_IL, nm_IQ, nm_RL, nm_RQ, nm_LI, nm_LR, nm_LL, nm_LQ, nm_QI, nm_QR, nm_QL, nm_QQ, nm_rr, nm_ii, nm_eqm, not_false_eq_true, pk_sub, nm_div, nm_shl, nm_shr, nm_ush, nm_or8, nm_or64, nm_or256, nm_m1, nm_m3, nm_m7, nm_m15, nm_m31, nm_m63, nm_m255, nm_m511, nm_m1023, nm_m2047, nm_m65535, Nat.reduceMod, Nat.reducePow, Nat.reduceAdd, Nat.reduceSub, Nat.reduceMul, nm_bo, nm_bi, nm_rc, nm_ic, nm_ri, nm_rl, nm_rq, nm_ql, nm_qi, nm_li, nm_us, nm_uu, nm_cp, nm_sa31, nm_sa7, nm_m127, nm_m2, nm_nz, nm_nzk, nm_eq32, nm_nzf, if_true, if_false, ↓reduceIte, if_pos, if_neg]
    have R0 : df_X16_event n (nI 1) a (nI j) X = df_X16_event_149 n (pI (pR X.1 31 tp) 7 (nI (T + j)), X.2) := by
      unfold df_X16_event df_X16_event_0
      rw [cn, nb_b2, if_neg (show ¬ nI 1 = (0 : Int32) by decide), nb_let, if_neg (show ¬ nI 1 = (0 : Int32) by decide)]
      unfold df_X16_event_36
      rw [if_neg (show ¬ nI 1 = (2 : Int32) by decide)]
      unfold df_X16_event_55
      rw [if_neg (show ¬ nI 1 = (3 : Int32) by decide)]
      unfold df_X16_event_70
      rw [nb_let]
      exact l2
    rw [C0 _ _ ty1, R0]
    exact ev_1 n hn (rM_type h (by omega) b1 by') ⟨rfl, rfl, rfl, rfl, rfl, rfl, rfl⟩ rfl
  · have c' : 512 < T + j := by omega
    have ty1 : df_X10_type n a (nI j) K.2.2.2 = some (nI 0, K.2.2.2) := by
      unfold df_X10_type df_X10_type_0
      rw [eC, if_neg (show ¬ nI T + nI j ≤ (512 : Int32) from (show ¬ nI T + nI j ≤ nI 512 from fun z => by rw [nI_add, nI_leI u1 (by omega)] at z; exact c z))]
      rfl
    have cn : df_X16_can n (nI 1) a (nI j) X = some (nI 0, X) := by
      simp (disch := (first | assumption | decide | omega)) only [df_X16_can, df_X16_can_0, df_X16_can_67, eR, c', eq_self, Nat.reduceEqDiff, Nat.reduceLeDiff, nl_0, nl_1, nl_2, nl_3, nl_5, nl_7, nl_16, nl_512, no_1, no_1024, pk_mul, nI_add, nm_ck, nI_clamp, nI_ltI, nI_leI, nI_eq, nb_b2, nb_b1, ↓nb_let, nm_z0, nm_z1, nb_II, nb_IR, nb_RI, nb_RR, nm_IL, nm_IQ, nm_RL, nm_RQ, nm_LI, nm_LR, nm_LL, nm_LQ, nm_QI, nm_QR, nm_QL, nm_QQ, nm_rr, nm_ii, nm_eqm, not_false_eq_true, pk_sub, nm_div, nm_shl, nm_shr, nm_ush, nm_or8, nm_or64, nm_or256, nm_m1, nm_m3, nm_m7, nm_m15, nm_m31, nm_m63, nm_m255, nm_m511, nm_m1023, nm_m2047, nm_m65535, Nat.reduceMod, Nat.reducePow, Nat.reduceAdd, Nat.reduceSub, Nat.reduceMul, nm_bo, nm_bi, nm_rc, nm_ic, nm_ri, nm_rl, nm_rq, nm_ql, nm_qi, nm_li, nm_us, nm_uu, nm_cp, nm_sa31, nm_sa7, nm_m127, nm_m2, nm_nz, nm_nzk, nm_eq32, nm_nzf, if_true, if_false, ↓reduceIte, if_pos, if_neg]
    have R0 : df_X16_event n (nI 1) a (nI j) X = some (nI 0, X) := by
      unfold df_X16_event df_X16_event_0
      rw [cn, nb_b2, if_pos (show nI 0 = (0 : Int32) from rfl)]
      rfl
    rw [C0 _ _ ty1, R0]
    exact ev_0 n hn (K := K) h hs
/-- a signal from outside -/
theorem nq_ev2 (n : Nat) (hn : 1024 < n) {B : Nat} {K : St × (St × (St × St))} {X : St × St} (h : rM B K.2.2 X) (hs : sD n X) {q b : Nat} (hq : q < 16) (b1 : 1 ≤ b) (hb : b < 32) {a : Int64} (ea : a.toInt32 = nI q) : eO n B K X (df_X5_come n (nI 2) a (nI b) K) (df_X16_event n (nI 2) a (nI b) X) := by
  obtain ⟨t, c, w, bb, e, ht, hc, hw', hb', he, t1, t2, a3, a4, a5, a6, a7, a8, a9, a10, a11, _⟩ := h.2.2.1 q hq
  have u1 : q < 2 ^ 31 := by omega
  have u2 : t < 2 ^ 31 := by omega
  have u3 : b < 2 ^ 31 := by omega
  have s1 := sta_C n (M := K.2.2) hq t1
  have em : a.toInt32 &&& 15 = nI q := by
    rw [ea]
    show nI q &&& nI 15 = nI q
    rw [nm_m15 (by omega), Nat.mod_eq_of_lt hq]
  have C0 : df_X5_come n (nI 2) a (nI b) K = if (16 : Int32) ≤ nI b then df_X5_come_126 n (nI b) (nI q) K else (if nI t = (1 : Int32) then df_X5_come_122 n (nI b) (nI q) K else (if nI t = (2 : Int32) then df_X5_come_122 n (nI b) (nI q) K else df_X5_come_126 n (nI b) (nI q) K)) := by
    unfold df_X5_come df_X5_come_0
    rw [nb_let, if_neg (show ¬ nI 2 = (0 : Int32) by decide), if_neg (show ¬ nI 2 = (1 : Int32) by decide), if_pos (show nI 2 = (2 : Int32) from rfl), em, s1, nb_b2, nb_let]
  have C126 : df_X5_come_126 n (nI b) (nI q) K = df_X5_come_186 n (nI 0) K := by
    unfold df_X5_come_126 df_X5_come_127
    rw [if_pos (show (0 : Int32) = 0 from rfl)]
    rfl
  rw [C0]
  by_cases b16 : 16 ≤ b
  · rw [if_pos (show (16 : Int32) ≤ nI b from (show nI 16 ≤ nI b by rw [nI_leI (by omega) u3]; exact b16)), C126]
    have cn : df_X16_can n (nI 2) a (nI b) X = some (nI 0, X) := by
      simp (disch := (first | assumption | decide | omega)) only [df_X16_can, df_X16_can_0, df_X16_can_101, df_X16_can_102, b16, eq_self, Nat.reduceEqDiff, Nat.reduceLeDiff, nl_0, nl_1, nl_2, nl_3, nl_5, nl_7, nl_16, nl_512, no_1, no_1024, pk_mul, nI_add, nm_ck, nI_clamp, nI_ltI, nI_leI, nI_eq, nb_b2, nb_b1, ↓nb_let, nm_z0, nm_z1, nb_II, nb_IR, nb_RI, nb_RR, nm_IL, nm_IQ, nm_RL, nm_RQ, nm_LI, nm_LR, nm_LL, nm_LQ, nm_QI, nm_QR, nm_QL, nm_QQ, nm_rr, nm_ii, nm_eqm, not_false_eq_true, pk_sub, nm_div, nm_shl, nm_shr, nm_ush, nm_or8, nm_or64, nm_or256, nm_m1, nm_m3, nm_m7, nm_m15, nm_m31, nm_m63, nm_m255, nm_m511, nm_m1023, nm_m2047, nm_m65535, Nat.reduceMod, Nat.reducePow, Nat.reduceAdd, Nat.reduceSub, Nat.reduceMul, nm_bo, nm_bi, nm_rc, nm_ic, nm_ri, nm_rl, nm_rq, nm_ql, nm_qi, nm_li, nm_us, nm_uu, nm_cp, nm_sa31, nm_sa7, nm_m127, nm_m2, nm_nz, nm_nzk, nm_eq32, nm_nzf, if_true, if_false, ↓reduceIte, if_pos, if_neg]
    have R0 : df_X16_event n (nI 2) a (nI b) X = some (nI 0, X) := by
      unfold df_X16_event df_X16_event_0
      rw [cn, nb_b2, if_pos (show nI 0 = (0 : Int32) from rfl)]
      rfl
    rw [R0]
    exact ev_0 n hn h hs
  · rw [if_neg (show ¬ (16 : Int32) ≤ nI b from fun z => b16 (by have z : nI 16 ≤ nI b := z; rw [nI_leI (by omega) u3] at z; exact z))]
    by_cases cc : t = 1 ∨ t = 2
    · obtain ⟨c', hc', ec⟩ := pend_or hc b1 (show b < 16 by omega)
      have ec2 : nI (2 * c) ||| ((1 : Int32) <<< (nI b &&& 31)) = nI (2 * c') := by
        show nI (2 * c) ||| (nI 1 <<< (nI b &&& nI 31)) = nI (2 * c')
        rw [nm_m31 (by omega), Nat.mod_eq_of_lt (show b < 32 by omega)]
        exact ec
      have cn : df_X16_can n (nI 2) a (nI b) X = some (nI 1, X) := by
        rcases cc with z | z
        · simp (disch := (first | assumption | decide | omega)) only [df_X16_can, df_X16_can_0, df_X16_can_97, df_X16_can_102, b16, ea, t2, z, eq_self, Nat.reduceEqDiff, Nat.reduceLeDiff, nl_0, nl_1, nl_2, nl_3, nl_5, nl_7, nl_16, nl_512, no_1, no_1024, pk_mul, nI_add, nm_ck, nI_clamp, nI_ltI, nI_leI, nI_eq, nb_b2, nb_b1, ↓nb_let, nm_z0, nm_z1, nb_II, nb_IR, nb_RI, nb_RR, nm_IL, nm_IQ, nm_RL, nm_RQ, nm_LI, nm_LR, nm_LL, nm_LQ, nm_QI, nm_QR, nm_QL, nm_QQ, nm_rr, nm_ii, nm_eqm, not_false_eq_true, pk_sub, nm_div, nm_shl, nm_shr, nm_ush, nm_or8, nm_or64, nm_or256, nm_m1, nm_m3, nm_m7, nm_m15, nm_m31, nm_m63, nm_m255, nm_m511, nm_m1023, nm_m2047, nm_m65535, Nat.reduceMod, Nat.reducePow, Nat.reduceAdd, Nat.reduceSub, Nat.reduceMul, nm_bo, nm_bi, nm_rc, nm_ic, nm_ri, nm_rl, nm_rq, nm_ql, nm_qi, nm_li, nm_us, nm_uu, nm_cp, nm_sa31, nm_sa7, nm_m127, nm_m2, nm_nz, nm_nzk, nm_eq32, nm_nzf, if_true, if_false, ↓reduceIte, if_pos, if_neg]
        · simp (disch := (first | assumption | decide | omega)) only [df_X16_can, df_X16_can_0, df_X16_can_97, df_X16_can_102, b16, ea, t2, z, eq_self, Nat.reduceEqDiff, Nat.reduceLeDiff, nl_0, nl_1, nl_2, nl_3, nl_5, nl_7, nl_16, nl_512, no_1, no_1024, pk_mul, nI_add, nm_ck, nI_clamp, nI_ltI, nI_leI, nI_eq, nb_b2, nb_b1, ↓nb_let, nm_z0, nm_z1, nb_II, nb_IR, nb_RI, nb_RR, nm_IL, nm_IQ, nm_RL, nm_RQ, nm_LI, nm_LR, nm_LL, nm_LQ, nm_QI, nm_QR, nm_QL, nm_QQ, nm_rr, nm_ii, nm_eqm, not_false_eq_true, pk_sub, nm_div, nm_shl, nm_shr, nm_ush, nm_or8, nm_or64, nm_or256, nm_m1, nm_m3, nm_m7, nm_m15, nm_m31, nm_m63, nm_m255, nm_m511, nm_m1023, nm_m2047, nm_m65535, Nat.reduceMod, Nat.reducePow, Nat.reduceAdd, Nat.reduceSub, Nat.reduceMul, nm_bo, nm_bi, nm_rc, nm_ic, nm_ri, nm_rl, nm_rq, nm_ql, nm_qi, nm_li, nm_us, nm_uu, nm_cp, nm_sa31, nm_sa7, nm_m127, nm_m2, nm_nz, nm_nzk, nm_eq32, nm_nzf, if_true, if_false, ↓reduceIte, if_pos, if_neg]
      have R0 : df_X16_event n (nI 2) a (nI b) X = df_X16_event_149 n (pR X.1 4 (upd (sR X.1 4) q (nI (2 * c'))), X.2) := by
        unfold df_X16_event df_X16_event_0
        rw [cn, nb_b2, if_neg (show ¬ nI 1 = (0 : Int32) by decide), nb_let, if_neg (show ¬ nI 2 = (0 : Int32) by decide), ea]
        unfold df_X16_event_36
        rw [if_pos (show nI 2 = (2 : Int32) from rfl), nm_ck hq u1, nm_ck hq u1, nI_clamp u1, a9, ec2, nb_let, er_55 n (by omega) (by omega) (by omega) (by omega), er_123 n (by omega) (by omega)]
      have v1 : q * 7 + 3 < 112 := by omega
      have v2 : q * 7 + 3 < 2 ^ 31 := by omega
      have k1 : nI q * 7 + 3 = nI (q * 7 + 3) := by simp (disch := (first | assumption | decide | omega)) only [eq_self, Nat.reduceEqDiff, Nat.reduceLeDiff, nl_3, nl_7, no_1, no_1024, pk_mul, nI_add, nm_ck, nI_clamp, nI_ltI, nI_leI, nI_eq, nb_b2, nb_b1, ↓nb_let, nm_z0, nm_z1, nb_II, nb_IR, nb_RI, nb_RR, nm_IL, nm_IQ, nm_RL, nm_RQ, nm_LI, nm_LR, nm_LL, nm_LQ, nm_QI, nm_QR, nm_QL, nm_QQ, nm_rr, nm_ii, nm_eqm, not_false_eq_true, pk_sub, nm_div, nm_shl, nm_shr, nm_ush, nm_or8, nm_or64, nm_or256, nm_m1, nm_m3, nm_m7, nm_m15, nm_m31, nm_m63, nm_m255, nm_m511, nm_m1023, nm_m2047, nm_m65535, Nat.reduceMod, Nat.reducePow, Nat.reduceAdd, Nat.reduceSub, Nat.reduceMul, nm_bo, nm_bi, nm_rc, nm_ic, nm_ri, nm_rl, nm_rq, nm_ql, nm_qi, nm_li, nm_us, nm_uu, nm_cp, nm_sa31, nm_sa7, nm_m127, nm_m2, nm_nz, nm_nzk, nm_eq32, nm_nzf, if_true, if_false, ↓reduceIte, if_pos, if_neg]
      have C122 : df_X5_come_122 n (nI b) (nI q) K = df_X5_come_186 n (nI 1) (K.1, (K.2.1, (pR K.2.2.1 6 (upd (sR K.2.2.1 6) (q * 7 + 3) (nI (2 * c'))), K.2.2.2))) := by
        unfold df_X5_come_122 df_X5_come_127
        rw [if_neg (show ¬ (1 : Int32) = 0 by decide), k1, nm_ck v1 v2, nm_ck v1 v2, nI_clamp v2, a8, ec2, nb_let]
        rfl
      have C2 : (if nI t = (1 : Int32) then df_X5_come_122 n (nI b) (nI q) K else (if nI t = (2 : Int32) then df_X5_come_122 n (nI b) (nI q) K else df_X5_come_126 n (nI b) (nI q) K)) = df_X5_come_122 n (nI b) (nI q) K := by
        rcases cc with z | z
        · rw [z, if_pos (show nI 1 = (1 : Int32) from rfl)]
        · rw [z, if_neg (show ¬ nI 2 = (1 : Int32) by decide), if_pos (show nI 2 = (2 : Int32) from rfl)]
      rw [C2, C122, R0]
      exact ev_1 n hn (rM_pend h hq hc') ⟨rfl, rfl, rfl, rfl, rfl, rfl, rfl⟩ rfl
    · have z1 : ¬ t = 1 := fun z => cc (Or.inl z)
      have z2 : ¬ t = 2 := fun z => cc (Or.inr z)
      rw [if_neg (show ¬ nI t = (1 : Int32) from fun y => z1 (nm_inI (by omega) (by omega) (show nI t = nI 1 from y))), if_neg (show ¬ nI t = (2 : Int32) from fun y => z2 (nm_inI (by omega) (by omega) (show nI t = nI 2 from y))), C126]
      have cn : df_X16_can n (nI 2) a (nI b) X = some (nI 0, X) := by
        simp (disch := (first | assumption | decide | omega)) only [df_X16_can, df_X16_can_0, df_X16_can_101, df_X16_can_102, b16, ea, t2, z1, z2, eq_self, Nat.reduceEqDiff, Nat.reduceLeDiff, nl_0, nl_1, nl_2, nl_3, nl_5, nl_7, nl_16, nl_512, no_1, no_1024, pk_mul, nI_add, nm_ck, nI_clamp, nI_ltI, nI_leI, nI_eq, nb_b2, nb_b1, ↓nb_let, nm_z0, nm_z1, nb_II, nb_IR, nb_RI, nb_RR, nm_IL, nm_IQ, nm_RL, nm_RQ, nm_LI, nm_LR, nm_LL, nm_LQ, nm_QI, nm_QR, nm_QL, nm_QQ, nm_rr, nm_ii, nm_eqm, not_false_eq_true, pk_sub, nm_div, nm_shl, nm_shr, nm_ush, nm_or8, nm_or64, nm_or256, nm_m1, nm_m3, nm_m7, nm_m15, nm_m31, nm_m63, nm_m255, nm_m511, nm_m1023, nm_m2047, nm_m65535, Nat.reduceMod, Nat.reducePow, Nat.reduceAdd, Nat.reduceSub, Nat.reduceMul, nm_bo, nm_bi, nm_rc, nm_ic, nm_ri, nm_rl, nm_rq, nm_ql, nm_qi, nm_li, nm_us, nm_uu, nm_cp, nm_sa31, nm_sa7, nm_m127, nm_m2, nm_nz, nm_nzk, nm_eq32, nm_nzf, if_true, if_false, ↓reduceIte, if_pos, if_neg]
      have R0 : df_X16_event n (nI 2) a (nI b) X = some (nI 0, X) := by
        unfold df_X16_event df_X16_event_0
        rw [cn, nb_b2, if_pos (show nI 0 = (0 : Int32) from rfl)]
        rfl
      rw [R0]
      exact ev_0 n hn h hs
/-- the clock goes on -/
theorem nq_ev3 (n : Nat) (hn : 1024 < n) {B : Nat} {K : St × (St × (St × St))} {X : St × St} (h : rM B K.2.2 X) (a : Int64) (b : Int32) : eO n B K X (df_X5_come n (nI 3) a b K) (df_X16_event n (nI 3) a b X) := by
  have C0 : df_X5_come n (nI 3) a b K = df_X5_come_186 n (nI 1) (K.1, (K.2.1, (pL K.2.2.1 0 (sL K.2.2.1 0 + a), K.2.2.2))) := by
    unfold df_X5_come df_X5_come_0
    rw [nb_let, if_neg (show ¬ nI 3 = (0 : Int32) by decide), if_neg (show ¬ nI 3 = (1 : Int32) by decide), if_neg (show ¬ nI 3 = (2 : Int32) by decide), if_pos (show nI 3 = (3 : Int32) from rfl), nb_let]
    rfl
  have cn : df_X16_can n (nI 3) a b X = some (nI 1, X) := by
    unfold df_X16_can df_X16_can_0
    rw [if_neg (show ¬ nI 3 = (0 : Int32) by decide), if_neg (show ¬ nI 3 = (1 : Int32) by decide), if_neg (show ¬ nI 3 = (2 : Int32) by decide), if_pos (show nI 3 = (3 : Int32) from rfl)]
    rfl
  have R0 : df_X16_event n (nI 3) a b X = df_X16_event_149 n (pL X.1 1 (sL X.1 1 + a), X.2) := by
    unfold df_X16_event df_X16_event_0
    rw [cn, nb_b2, if_neg (show ¬ nI 1 = (0 : Int32) by decide), nb_let, if_neg (show ¬ nI 3 = (0 : Int32) by decide)]
    unfold df_X16_event_36
    rw [if_neg (show ¬ nI 3 = (2 : Int32) by decide)]
    unfold df_X16_event_55
    rw [if_pos (show nI 3 = (3 : Int32) from rfl), nb_let]
    unfold df_X16_event_70
    rw [nb_let, er_76 n (by omega) (by omega) (by omega), er_123 n (by omega) (by omega)]
  rw [C0, R0]
  exact ev_1 n hn (rM_clk h a) ⟨rfl, rfl, rfl, rfl, rfl, rfl, rfl⟩ rfl
/-- a random word comes -/
theorem nq_ev4 (n : Nat) (hn : 1024 < n) {B : Nat} {K : St × (St × (St × St))} {X : St × St} (h : rM B K.2.2 X) (hs : sD n X) (a : Int64) (b : Int32) : eO n B K X (df_X5_come n (nI 4) a b K) (df_X16_event n (nI 4) a b X) := by
  obtain ⟨k, hk, e1, e2, e3⟩ := h.2.2.2.2.2.1.1
  have u1 : k < 2 ^ 31 := by omega
  have C0 : ∀ (r : Int32) (M' : St × St), df_X6_addRandom n a.toInt32 K.2.2 = some (r, M') → df_X5_come n (nI 4) a b K = df_X5_come_186 n r (K.1, (K.2.1, M')) := fun r M' e => by
    unfold df_X5_come df_X5_come_0
    rw [nb_let, if_neg (show ¬ nI 4 = (0 : Int32) by decide), if_neg (show ¬ nI 4 = (1 : Int32) by decide), if_neg (show ¬ nI 4 = (2 : Int32) by decide), if_neg (show ¬ nI 4 = (3 : Int32) by decide), e, nb_b2, nb_let]
  by_cases c : k < 16
  · have c' : ¬ 16 ≤ k := by omega
    have ad : df_X6_addRandom n a.toInt32 K.2.2 = some (nI 1, (pI (pR K.2.2.1 7 (upd (sR K.2.2.1 7) k a.toInt32)) 1 (nI (k + 1)), K.2.2.2)) := by
      generalize a.toInt32 = v
      simp (disch := (first | assumption | decide | omega)) only [df_X6_addRandom_0, df_X6_addRandom, e1, c, eq_self, Nat.reduceEqDiff, Nat.reduceLeDiff, nl_0, nl_1, nl_7, nl_16, no_1, no_1024, pk_mul, nI_add, nm_ck, nI_clamp, nI_ltI, nI_leI, nI_eq, nb_b2, nb_b1, ↓nb_let, nm_z0, nm_z1, nb_II, nb_IR, nb_RI, nb_RR, nm_IL, nm_IQ, nm_RL, nm_RQ, nm_LI, nm_LR, nm_LL, nm_LQ, nm_QI, nm_QR, nm_QL, nm_QQ, nm_rr, nm_ii, nm_eqm, not_false_eq_true, pk_sub, nm_div, nm_shl, nm_shr, nm_ush, nm_or8, nm_or64, nm_or256, nm_m1, nm_m3, nm_m7, nm_m15, nm_m31, nm_m63, nm_m255, nm_m511, nm_m1023, nm_m2047, nm_m65535, Nat.reduceMod, Nat.reducePow, Nat.reduceAdd, Nat.reduceSub, Nat.reduceMul, nm_bo, nm_bi, nm_rc, nm_ic, nm_ri, nm_rl, nm_rq, nm_ql, nm_qi, nm_li, nm_us, nm_uu, nm_cp, nm_sa31, nm_sa7, nm_m127, nm_m2, nm_nz, nm_nzk, nm_eq32, nm_nzf, if_true, if_false, ↓reduceIte, if_pos, if_neg]
    have cn : df_X16_can n (nI 4) a b X = some (nI 1, X) := by
      simp (disch := (first | assumption | decide | omega)) only [df_X16_can, df_X16_can_0, df_X16_can_119, e2, c', eq_self, Nat.reduceEqDiff, Nat.reduceLeDiff, nl_0, nl_1, nl_2, nl_3, nl_5, nl_7, nl_16, nl_512, no_1, no_1024, pk_mul, nI_add, nm_ck, nI_clamp, nI_ltI, nI_leI, nI_eq, nb_b2, nb_b1, ↓nb_let, nm_z0, nm_z1, nb_II, nb_IR, nb_RI, nb_RR, nm_IL, nm_IQ, nm_RL, nm_RQ, nm_LI, nm_LR, nm_LL, nm_LQ, nm_QI, nm_QR, nm_QL, nm_QQ, nm_rr, nm_ii, nm_eqm, not_false_eq_true, pk_sub, nm_div, nm_shl, nm_shr, nm_ush, nm_or8, nm_or64, nm_or256, nm_m1, nm_m3, nm_m7, nm_m15, nm_m31, nm_m63, nm_m255, nm_m511, nm_m1023, nm_m2047, nm_m65535, Nat.reduceMod, Nat.reducePow, Nat.reduceAdd, Nat.reduceSub, Nat.reduceMul, nm_bo, nm_bi, nm_rc, nm_ic, nm_ri, nm_rl, nm_rq, nm_ql, nm_qi, nm_li, nm_us, nm_uu, nm_cp, nm_sa31, nm_sa7, nm_m127, nm_m2, nm_nz, nm_nzk, nm_eq32, nm_nzf, if_true, if_false, ↓reduceIte, if_pos, if_neg]
    have R0 : df_X16_event n (nI 4) a b X = df_X16_event_149 n (pI (pR X.1 0 (upd (sR X.1 0) k a.toInt32)) 5 (nI (k + 1)), X.2) := by
      unfold df_X16_event df_X16_event_0
      rw [cn, nb_b2, if_neg (show ¬ nI 1 = (0 : Int32) by decide), nb_let, if_neg (show ¬ nI 4 = (0 : Int32) by decide)]
      unfold df_X16_event_36
      rw [if_neg (show ¬ nI 4 = (2 : Int32) by decide), er_55 n (by omega) (by omega) (by omega) (by omega)]
      unfold df_X16_event_123
      rw [if_pos (show nI 4 = (4 : Int32) from rfl), e2, nm_ck c u1, nI_clamp u1, nb_let, nb_let]
      rw [show ∀ z : Nat → Int32, sI (pR X.1 0 z, X.2).1 5 = nI k from fun _ => e2]
      rw [show nI k + 1 = nI (k + 1) from nI_add ..]
    rw [C0 _ _ ad, R0]
    exact ev_1 n hn (rM_word h c e2 a.toInt32) ⟨rfl, rfl, rfl, rfl, rfl, rfl, rfl⟩ rfl
  · have c' : 16 ≤ k := by omega
    have ad : df_X6_addRandom n a.toInt32 K.2.2 = some (nI 0, K.2.2) := by
      generalize a.toInt32 = v
      simp (disch := (first | assumption | decide | omega)) only [df_X6_addRandom_0, df_X6_addRandom, e1, c, eq_self, Nat.reduceEqDiff, Nat.reduceLeDiff, nl_0, nl_1, nl_7, nl_16, no_1, no_1024, pk_mul, nI_add, nm_ck, nI_clamp, nI_ltI, nI_leI, nI_eq, nb_b2, nb_b1, ↓nb_let, nm_z0, nm_z1, nb_II, nb_IR, nb_RI, nb_RR, nm_IL, nm_IQ, nm_RL, nm_RQ, nm_LI, nm_LR, nm_LL, nm_LQ, nm_QI, nm_QR, nm_QL, nm_QQ, nm_rr, nm_ii, nm_eqm, not_false_eq_true, pk_sub, nm_div, nm_shl, nm_shr, nm_ush, nm_or8, nm_or64, nm_or256, nm_m1, nm_m3, nm_m7, nm_m15, nm_m31, nm_m63, nm_m255, nm_m511, nm_m1023, nm_m2047, nm_m65535, Nat.reduceMod, Nat.reducePow, Nat.reduceAdd, Nat.reduceSub, Nat.reduceMul, nm_bo, nm_bi, nm_rc, nm_ic, nm_ri, nm_rl, nm_rq, nm_ql, nm_qi, nm_li, nm_us, nm_uu, nm_cp, nm_sa31, nm_sa7, nm_m127, nm_m2, nm_nz, nm_nzk, nm_eq32, nm_nzf, if_true, if_false, ↓reduceIte, if_pos, if_neg]
    have cn : df_X16_can n (nI 4) a b X = some (nI 0, X) := by
      simp (disch := (first | assumption | decide | omega)) only [df_X16_can, df_X16_can_0, df_X16_can_119, e2, c', eq_self, Nat.reduceEqDiff, Nat.reduceLeDiff, nl_0, nl_1, nl_2, nl_3, nl_5, nl_7, nl_16, nl_512, no_1, no_1024, pk_mul, nI_add, nm_ck, nI_clamp, nI_ltI, nI_leI, nI_eq, nb_b2, nb_b1, ↓nb_let, nm_z0, nm_z1, nb_II, nb_IR, nb_RI, nb_RR, nm_IL, nm_IQ, nm_RL, nm_RQ, nm_LI, nm_LR, nm_LL, nm_LQ, nm_QI, nm_QR, nm_QL, nm_QQ, nm_rr, nm_ii, nm_eqm, not_false_eq_true, pk_sub, nm_div, nm_shl, nm_shr, nm_ush, nm_or8, nm_or64, nm_or256, nm_m1, nm_m3, nm_m7, nm_m15, nm_m31, nm_m63, nm_m255, nm_m511, nm_m1023, nm_m2047, nm_m65535, Nat.reduceMod, Nat.reducePow, Nat.reduceAdd, Nat.reduceSub, Nat.reduceMul, nm_bo, nm_bi, nm_rc, nm_ic, nm_ri, nm_rl, nm_rq, nm_ql, nm_qi, nm_li, nm_us, nm_uu, nm_cp, nm_sa31, nm_sa7, nm_m127, nm_m2, nm_nz, nm_nzk, nm_eq32, nm_nzf, if_true, if_false, ↓reduceIte, if_pos, if_neg]
    have R0 : df_X16_event n (nI 4) a b X = some (nI 0, X) := by
      unfold df_X16_event df_X16_event_0
      rw [cn, nb_b2, if_pos (show nI 0 = (0 : Int32) from rfl)]
      rfl
    rw [C0 _ _ ad, R0]
    exact ev_0 n hn (K := K) h hs
/-- an event that may come: which, and of what -/
def evV (k : Nat) (a : Int64) (b : Int32) : Prop := (k = 0 ∧ ∃ q : Nat, q < 16 ∧ a.toInt32 = nI q) ∨ (k = 1 ∧ ∃ j : Nat, j ≤ 8 ∧ b = nI j) ∨ (k = 2 ∧ ∃ q j : Nat, q < 16 ∧ 1 ≤ j ∧ j < 32 ∧ a.toInt32 = nI q ∧ b = nI j) ∨ (k = 3 ∧ 0 ≤ a.toInt ∧ a.toInt ≤ 1099511627776) ∨ k = 4
/-- an event, in both -/
theorem nq_event (n : Nat) (hn : 1024 < n) {B : Nat} {K : St × (St × (St × St))} {X : St × St} (h : rM B K.2.2 X) (hs : sD n X) {k : Nat} {a : Int64} {b : Int32} (hv : evV k a b) : eO n B K X (df_X5_come n (nI k) a b K) (df_X16_event n (nI k) a b X) := by
  rcases hv with ⟨e, q, hq, ea⟩ | ⟨e, j, hj, eb⟩ | ⟨e, q, j, hq, j1, j2, ea, eb⟩ | ⟨e, _, _⟩ | e
  · subst e
    exact nq_ev0 n hn h hs hq ea b
  · subst e eb
    exact nq_ev1 n hn h hs hj a
  · subst e eb
    exact nq_ev2 n hn h hs hq j1 j2 ea
  · subst e
    exact nq_ev3 n hn h a b
  · subst e
    exact nq_ev4 n hn h hs a b

