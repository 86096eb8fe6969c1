theorem cF_pos {fr : Nat → Int32} {i f : Nat} (hi : i < 1024) (e : fr i = nI f) : 0 < cF fr f := cN_p (P := fun i => decide (fr i = nI f)) (i := i) (decide_eq_true e) hi
/-- how many frames are wanted, both -/
theorem nk_wanted (n : Nat) (hn : 1024 < n) {M X : St × St} (h : rK M X) {p A m : Nat} (hp : p < 16) (hm : 1 ≤ m) (hm2 : m ≤ 1024) (hA : A + m ≤ 65536) {f1 f2 : Nat} (h1 : f1 < 256) (h2 : f2 < 256) (e1 : sR X.1 16 (64 * p + A / 1024) = nI f1) (e2 : sR X.1 16 (64 * p + (A + m - 1) / 1024) = nI f2) : df_X6_framesFor n (nI p) (nI A) (nI m) M = some (nI (wt (sR X.1 16) (64 * p + A / 1024) (64 * p + (A + m - 1) / 1024)), M) ∧ df_X16_wanted n (nI p) (nI A) (nI m) X = some (nI (wt (sR X.1 16) (64 * p + A / 1024) (64 * p + (A + m - 1) / 1024)), X) := by
  have p1 := cF_pos (fr := sR X.1 16) (by omega) e1
  have p2 := cF_pos (fr := sR X.1 16) (by omega) e2
  have l1 := cF_le (sR X.1 16) f1
  have l2 := cF_le (sR X.1 16) f2
  obtain ⟨u1, o1⟩ := h.2.1 f1 h1
  obtain ⟨u2, o2⟩ := h.2.1 f2 h2
  unfold wt
  rw [e1, e2, nI_clamp (by omega), nI_clamp (by omega)]
  constructor
  · have hx : p * 64 + A / 2 ^ 10 % 64 = 64 * p + A / 1024 := by omega
    have hy : p * 64 + (A + m - 1) / 2 ^ 10 % 64 = 64 * p + (A + m - 1) / 1024 := by omega
    rcases h.1 (64 * p + A / 1024) (by omega) with q | ⟨f1', r1, a1, a2, a3, a4, a5, a6, a7⟩
    · rw [q.1] at e1; exact absurd e1.symm (nk_ne (by omega))
    rcases h.1 (64 * p + (A + m - 1) / 1024) (by omega) with q | ⟨f2', r2, b1, b2, b3, b4, b5, b6, b7⟩
    · rw [q.1] at e2; exact absurd e2.symm (nk_ne (by omega))
    have ef1 : f1' = f1 := nm_inI (by omega) (by omega) (by rw [← a4, e1])
    have ef2 : f2' = f2 := nm_inI (by omega) (by omega) (by rw [← b4, e2])
    subst ef1
    subst ef2
    have z1 : (f1' * 8 + r1) / 2 ^ 3 = f1' := by omega
    have z2 : (f2' * 8 + r2) / 2 ^ 3 = f2' := by omega
    generalize cF (sR X.1 16) f1' = c1 at *
    generalize cF (sR X.1 16) f2' = c2 at *
    by_cases d1 : c1 = 1 <;> by_cases d2 : c2 = 1 <;> by_cases d3 : (A + m - 1) / 1024 = A / 1024
    all_goals simp (disch := omega) only [df_X6_framesFor_97, df_X6_framesFor_95, df_X6_framesFor_61, df_X6_framesFor_0, df_X6_framesFor, hx, hy, a6, b6, z1, z2, u1, u2, nl_0, nl_1, nl_2, nl_3, nl_6, nl_10, nl_31, nl_63, nl_256, nl_1024, no_1, no_1024, pk_mul, nI_add, nm_ck, nI_clamp, nI_ltI, nI_leI, nI_eq, nb_b2, nb_b1, nb_let, nm_z0, nm_z1, nb_II, nb_IR, nb_RI, nb_RR, nm_IL, nm_IQ, nm_RL, nm_RQ, nm_LI, nm_LR, nm_LL, nm_LQ, nm_QI, nm_QR, nm_QL, nm_QQ, nm_rr, nm_ii, nm_eqm, not_false_eq_true, pk_sub, nm_div, nm_shl, nm_shr, nm_ush, nm_or8, nm_or64, nm_or256, nm_m1, nm_m3, nm_m7, nm_m15, nm_m31, nm_m63, nm_m255, nm_m511, nm_m1023, nm_m2047, nm_m65535, Nat.reduceMod, Nat.reducePow, Nat.reduceAdd, Nat.reduceSub, Nat.reduceMul, nm_bo, nm_bi, nm_rc, nm_ic, nm_ri, nm_rl, nm_rq, nm_ql, nm_qi, nm_li, nm_us, nm_uu, nm_cp, nm_sa31, nm_sa7, nm_m127, nm_m2, nm_nz, nm_nzk, nm_eq32, nm_nzf, if_true, if_false, ↓reduceIte, if_pos, if_neg]
  · obtain ⟨m', s, hs, e⟩ := nm_l1 (S := Int32) (fun g k s => df_X16_wanted_6 n g (nI p) (nI A) (nI m) s (nI k) X) (fun k s => s = nI (if k = 0 then 0 else (if cF (sR X.1 16) f1 = 1 then 0 else 1) + if (A + k - 1) / 1024 = A / 1024 then 0 else if cF (sR X.1 16) f2 = 1 then 0 else 1)) m n (by omega) (fun k m' s hk hs => by
      subst hs
      refine ⟨_, rfl, ?_⟩
      rw [show df_X16_wanted_6 n (m' + 1) = dF_X16_wanted_6 n (df_X16_wanted_6 n m') from rfl]
      generalize cF (sR X.1 16) f1 = c1 at *
      generalize cF (sR X.1 16) f2 = c2 at *
      by_cases k0 : k = 0
      · subst k0
        rw [if_pos rfl, if_neg (by omega), if_pos (show (A + (0 + 1) - 1) / 1024 = A / 1024 by omega)]
        by_cases d1 : c1 = 1
        · simp (disch := omega) only [dF_X16_wanted_6, df_X16_wanted_43, df_X16_wanted_48, df_X16_wanted_78, df_X16_wanted_80, Nat.add_zero, e1, o1, d1, nl_0, nl_1, nl_16, nl_18, nl_64, nl_1024, no_1, no_1024, pk_mul, nI_add, nm_ck, nI_clamp, nI_ltI, nI_leI, nI_eq, nb_b2, nb_b1, nb_let, nm_z0, nm_z1, nb_II, nb_IR, nb_RI, nb_RR, nm_IL, nm_IQ, nm_RL, nm_RQ, nm_LI, nm_LR, nm_LL, nm_LQ, nm_QI, nm_QR, nm_QL, nm_QQ, nm_rr, nm_ii, nm_eqm, not_false_eq_true, pk_sub, nm_div, nm_shl, nm_shr, nm_ush, nm_or8, nm_or64, nm_or256, nm_m1, nm_m3, nm_m7, nm_m15, nm_m31, nm_m63, nm_m255, nm_m511, nm_m1023, nm_m2047, nm_m65535, Nat.reduceMod, Nat.reducePow, Nat.reduceAdd, Nat.reduceSub, Nat.reduceMul, nm_bo, nm_bi, nm_rc, nm_ic, nm_ri, nm_rl, nm_rq, nm_ql, nm_qi, nm_li, nm_us, nm_uu, nm_cp, nm_sa31, nm_sa7, nm_m127, nm_m2, nm_nz, nm_nzk, nm_eq32, nm_nzf, if_true, if_false, ↓reduceIte, if_pos, if_neg]
        · simp (disch := omega) only [dF_X16_wanted_6, df_X16_wanted_43, df_X16_wanted_48, df_X16_wanted_78, df_X16_wanted_80, Nat.add_zero, e1, o1, d1, nl_0, nl_1, nl_16, nl_18, nl_64, nl_1024, no_1, no_1024, pk_mul, nI_add, nm_ck, nI_clamp, nI_ltI, nI_leI, nI_eq, nb_b2, nb_b1, nb_let, nm_z0, nm_z1, nb_II, nb_IR, nb_RI, nb_RR, nm_IL, nm_IQ, nm_RL, nm_RQ, nm_LI, nm_LR, nm_LL, nm_LQ, nm_QI, nm_QR, nm_QL, nm_QQ, nm_rr, nm_ii, nm_eqm, not_false_eq_true, pk_sub, nm_div, nm_shl, nm_shr, nm_ush, nm_or8, nm_or64, nm_or256, nm_m1, nm_m3, nm_m7, nm_m15, nm_m31, nm_m63, nm_m255, nm_m511, nm_m1023, nm_m2047, nm_m65535, Nat.reduceMod, Nat.reducePow, Nat.reduceAdd, Nat.reduceSub, Nat.reduceMul, nm_bo, nm_bi, nm_rc, nm_ic, nm_ri, nm_rl, nm_rq, nm_ql, nm_qi, nm_li, nm_us, nm_uu, nm_cp, nm_sa31, nm_sa7, nm_m127, nm_m2, nm_nz, nm_nzk, nm_eq32, nm_nzf, if_true, if_false, ↓reduceIte, if_pos, if_neg]
      · rw [if_neg k0, if_neg (show ¬ k + 1 = 0 by omega)]
        by_cases d3 : (A + k) % 1024 = 0
        · have hd : ¬ (A + (k + 1) - 1) / 1024 = A / 1024 := by omega
          have hd2 : (A + k - 1) / 1024 = A / 1024 := by omega
          have hd3 : (A + k) / 1024 = (A + m - 1) / 1024 := by omega
          have hd4 : A + k - (A + m - 1) / 1024 * 1024 = 0 := by omega
          rw [if_neg hd, if_pos hd2]
          by_cases d2 : c2 = 1
          · simp (disch := omega) only [dF_X16_wanted_6, df_X16_wanted_43, df_X16_wanted_48, df_X16_wanted_78, df_X16_wanted_80, hd3, hd4, e2, o2, d2, nl_0, nl_1, nl_16, nl_18, nl_64, nl_1024, no_1, no_1024, pk_mul, nI_add, nm_ck, nI_clamp, nI_ltI, nI_leI, nI_eq, nb_b2, nb_b1, nb_let, nm_z0, nm_z1, nb_II, nb_IR, nb_RI, nb_RR, nm_IL, nm_IQ, nm_RL, nm_RQ, nm_LI, nm_LR, nm_LL, nm_LQ, nm_QI, nm_QR, nm_QL, nm_QQ, nm_rr, nm_ii, nm_eqm, not_false_eq_true, pk_sub, nm_div, nm_shl, nm_shr, nm_ush, nm_or8, nm_or64, nm_or256, nm_m1, nm_m3, nm_m7, nm_m15, nm_m31, nm_m63, nm_m255, nm_m511, nm_m1023, nm_m2047, nm_m65535, Nat.reduceMod, Nat.reducePow, Nat.reduceAdd, Nat.reduceSub, Nat.reduceMul, nm_bo, nm_bi, nm_rc, nm_ic, nm_ri, nm_rl, nm_rq, nm_ql, nm_qi, nm_li, nm_us, nm_uu, nm_cp, nm_sa31, nm_sa7, nm_m127, nm_m2, nm_nz, nm_nzk, nm_eq32, nm_nzf, if_true, if_false, ↓reduceIte, if_pos, if_neg]
          · simp (disch := omega) only [dF_X16_wanted_6, df_X16_wanted_43, df_X16_wanted_48, df_X16_wanted_78, df_X16_wanted_80, hd3, hd4, e2, o2, d2, Nat.add_zero, nl_0, nl_1, nl_16, nl_18, nl_64, nl_1024, no_1, no_1024, pk_mul, nI_add, nm_ck, nI_clamp, nI_ltI, nI_leI, nI_eq, nb_b2, nb_b1, nb_let, nm_z0, nm_z1, nb_II, nb_IR, nb_RI, nb_RR, nm_IL, nm_IQ, nm_RL, nm_RQ, nm_LI, nm_LR, nm_LL, nm_LQ, nm_QI, nm_QR, nm_QL, nm_QQ, nm_rr, nm_ii, nm_eqm, not_false_eq_true, pk_sub, nm_div, nm_shl, nm_shr, nm_ush, nm_or8, nm_or64, nm_or256, nm_m1, nm_m3, nm_m7, nm_m15, nm_m31, nm_m63, nm_m255, nm_m511, nm_m1023, nm_m2047, nm_m65535, Nat.reduceMod, Nat.reducePow, Nat.reduceAdd, Nat.reduceSub, Nat.reduceMul, nm_bo, nm_bi, nm_rc, nm_ic, nm_ri, nm_rl, nm_rq, nm_ql, nm_qi, nm_li, nm_us, nm_uu, nm_cp, nm_sa31, nm_sa7, nm_m127, nm_m2, nm_nz, nm_nzk, nm_eq32, nm_nzf, if_true, if_false, ↓reduceIte, if_pos, if_neg]
        · have hd : (A + (k + 1) - 1) / 1024 = (A + k - 1) / 1024 := by omega
          have hd4 : 0 < A + k - (A + k) / 1024 * 1024 := by omega
          rw [hd]
          simp (disch := omega) only [dF_X16_wanted_6, df_X16_wanted_43, df_X16_wanted_48, df_X16_wanted_78, df_X16_wanted_80, nl_0, nl_1, nl_16, nl_18, nl_64, nl_1024, no_1, no_1024, pk_mul, nI_add, nm_ck, nI_clamp, nI_ltI, nI_leI, nI_eq, nb_b2, nb_b1, nb_let, nm_z0, nm_z1, nb_II, nb_IR, nb_RI, nb_RR, nm_IL, nm_IQ, nm_RL, nm_RQ, nm_LI, nm_LR, nm_LL, nm_LQ, nm_QI, nm_QR, nm_QL, nm_QQ, nm_rr, nm_ii, nm_eqm, not_false_eq_true, pk_sub, nm_div, nm_shl, nm_shr, nm_ush, nm_or8, nm_or64, nm_or256, nm_m1, nm_m3, nm_m7, nm_m15, nm_m31, nm_m63, nm_m255, nm_m511, nm_m1023, nm_m2047, nm_m65535, Nat.reduceMod, Nat.reducePow, Nat.reduceAdd, Nat.reduceSub, Nat.reduceMul, nm_bo, nm_bi, nm_rc, nm_ic, nm_ri, nm_rl, nm_rq, nm_ql, nm_qi, nm_li, nm_us, nm_uu, nm_cp, nm_sa31, nm_sa7, nm_m127, nm_m2, nm_nz, nm_nzk, nm_eq32, nm_nzf, if_true, if_false, ↓reduceIte, if_pos, if_neg])
      (nI 0) (by rw [if_pos rfl])
    subst hs
    refine Eq.trans e ?_
    rw [if_neg (show ¬ m = 0 by omega)]
    have ed : (if (A + m - 1) / 1024 = A / 1024 then 0 else if cF (sR X.1 16) f2 = 1 then 0 else 1) = (if 64 * p + A / 1024 = 64 * p + (A + m - 1) / 1024 then 0 else if cF (sR X.1 16) f2 = 1 then 0 else 1) := by
      by_cases d : (A + m - 1) / 1024 = A / 1024
      · rw [if_pos d, if_pos (show 64 * p + A / 1024 = 64 * p + (A + m - 1) / 1024 by omega)]
      · rw [if_neg d, if_neg (show ¬ 64 * p + A / 1024 = 64 * p + (A + m - 1) / 1024 by omega)]
    rw [ed]
    show df_X16_wanted_6 n (m' + 1) _ _ _ _ _ _ = _
    rw [show df_X16_wanted_6 n (m' + 1) = dF_X16_wanted_6 n (df_X16_wanted_6 n m') from rfl]
    simp (disch := omega) only [dF_X16_wanted_6, nl_0, nl_64, nl_1024, no_1, no_1024, pk_mul, nI_add, nm_ck, nI_clamp, nI_ltI, nI_leI, nI_eq, nb_b2, nb_b1, nb_let, nm_z0, nm_z1, nb_II, nb_IR, nb_RI, nb_RR, nm_IL, nm_IQ, nm_RL, nm_RQ, nm_LI, nm_LR, nm_LL, nm_LQ, nm_QI, nm_QR, nm_QL, nm_QQ, nm_rr, nm_ii, nm_eqm, not_false_eq_true, pk_sub, nm_div, nm_shl, nm_shr, nm_ush, nm_or8, nm_or64, nm_or256, nm_m1, nm_m3, nm_m7, nm_m15, nm_m31, nm_m63, nm_m255, nm_m511, nm_m1023, nm_m2047, nm_m65535, Nat.reduceMod, Nat.reducePow, Nat.reduceAdd, Nat.reduceSub, Nat.reduceMul, nm_bo, nm_bi, nm_rc, nm_ic, nm_ri, nm_rl, nm_rq, nm_ql, nm_qi, nm_li, nm_us, nm_uu, nm_cp, nm_sa31, nm_sa7, nm_m127, nm_m2, nm_nz, nm_nzk, nm_eq32, nm_nzf, if_true, if_false, ↓reduceIte, if_pos, if_neg]
