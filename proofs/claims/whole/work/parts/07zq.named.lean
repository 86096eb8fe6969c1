/-- the first place where two rows of 16 differ -/
def eqF (a b : Nat → Int32) : Nat := fN (fun i => decide (¬ a i = b i)) 0 16
theorem in_C (n : Nat) (hn : 1024 < n) {s : St × St} {g2 : Int32 → St × St → Option (Int32 × (St × St))} {k : Nat} (hk : k < 16) : df_X10_fileNamed_30 n g2 n (nI k) (nI 1) (nI 0) s = if eqF (fun i => sR s.2 6 (k * 16 + i)) (sR s.1 0) = 16 then some (nI k, s) else g2 (nI (k + 1)) s := by
  obtain ⟨n1, rfl⟩ : ∃ n1 : Nat, n = n1 + 1 := ⟨n - 1, by omega⟩
  obtain ⟨x1, x2, x3, x4⟩ := fN_le (fun i => decide (¬ sR s.2 6 (k * 16 + i) = sR s.1 0 i)) 16 0
  obtain ⟨m, hm⟩ := nm_ls (fun m i => df_X10_fileNamed_30 (n1 + 1) g2 (m + 1) (nI k) (nI 1) (nI i) s) (fun i => decide (¬ sR s.2 6 (k * 16 + i) = sR s.1 0 i)) 0 16 n1 (by omega) (fun i m h0 hi c => by
    have c : sR s.2 6 (k * 16 + i) = sR s.1 0 i := Classical.not_not.mp (of_decide_eq_false c)
    have u1 : k * 16 + i < 256 := by omega
    have u2 : i < 16 := by omega
    have u3 : i < 2 ^ 31 := by omega
    have u4 : k * 16 + i < 2 ^ 31 := by omega
    have i16 : ¬ 16 ≤ i := by omega
    show df_X10_fileNamed_30 (n1 + 1) g2 (m + 1 + 1) _ _ _ _ = df_X10_fileNamed_30 (n1 + 1) g2 (m + 1) _ _ (nI (i + 1)) _
    rw [show df_X10_fileNamed_30 (n1 + 1) g2 (m + 1 + 1) = dF_X10_fileNamed_30 (n1 + 1) g2 (df_X10_fileNamed_30 (n1 + 1) g2 (m + 1)) from rfl]
    generalize df_X10_fileNamed_30 (n1 + 1) g2 (m + 1) = G
    simp (disch := (first | assumption | decide | omega)) only [dF_X10_fileNamed_30, df_X10_fileNamed_65, i16, c, eq_self, Nat.reduceEqDiff, Nat.reduceLeDiff, nl_0, nl_1, nl_6, nl_16, nl_256, no_1, no_1024, pk_mul, nI_add, nm_ck, nI_clamp, nI_ltI, nI_leI, nI_eq, nb_b2, nb_b1, ↓nb_let, nm_z0, nm_z1, nb_II, nb_IR, nb_RI, nb_RR, nm_IL, nm_IQ, nm_RL, nm_RQ, nm_LI, nm_LR, nm_LL, nm_LQ, nm_QI, nm_QR, nm_QL, nm_QQ, nm_rr, nm_ii, nm_eqm, not_false_eq_true, pk_sub, nm_div, nm_shl, nm_shr, nm_ush, nm_or8, nm_or64, nm_or256, nm_m1, nm_m3, nm_m7, nm_m15, nm_m31, nm_m63, nm_m255, nm_m511, nm_m1023, nm_m2047, nm_m65535, Nat.reduceMod, Nat.reducePow, Nat.reduceAdd, Nat.reduceSub, Nat.reduceMul, nm_bo, nm_bi, nm_rc, nm_ic, nm_ri, nm_rl, nm_rq, nm_ql, nm_qi, nm_li, nm_us, nm_uu, nm_cp, nm_sa31, nm_sa7, nm_m127, nm_m2, nm_nz, nm_nzk, nm_eq32, nm_nzf, if_true, if_false, ↓reduceIte, if_pos, if_neg])
  have hm : df_X10_fileNamed_30 (n1 + 1) g2 (n1 + 1) (nI k) (nI 1) (nI 0) s = df_X10_fileNamed_30 (n1 + 1) g2 (m + 1 + 1) (nI k) (nI 1) (nI (eqF (fun i => sR s.2 6 (k * 16 + i)) (sR s.1 0))) s := hm
  rw [hm]
  have x3' : eqF (fun i => sR s.2 6 (k * 16 + i)) (sR s.1 0) < 16 → ¬ sR s.2 6 (k * 16 + eqF (fun i => sR s.2 6 (k * 16 + i)) (sR s.1 0)) = sR s.1 0 (eqF (fun i => sR s.2 6 (k * 16 + i)) (sR s.1 0)) := fun z => of_decide_eq_true (x3 z)
  have x2' : eqF (fun i => sR s.2 6 (k * 16 + i)) (sR s.1 0) ≤ 16 := x2
  generalize eqF (fun i => sR s.2 6 (k * 16 + i)) (sR s.1 0) = d at x2' x3'
  clear hm x1 x2 x3 x4
  rw [show df_X10_fileNamed_30 (n1 + 1) g2 (m + 1 + 1) = dF_X10_fileNamed_30 (n1 + 1) g2 (dF_X10_fileNamed_30 (n1 + 1) g2 (df_X10_fileNamed_30 (n1 + 1) g2 m)) from rfl]
  generalize df_X10_fileNamed_30 (n1 + 1) g2 m = G
  have u3 : d < 2 ^ 31 := by omega
  have u5 : k < 2 ^ 31 := by omega
  by_cases c : d = 16
  · subst c
    rw [if_pos rfl]
    simp (disch := (first | assumption | decide | omega)) only [dF_X10_fileNamed_30, df_X10_fileNamed_72, eq_self, Nat.reduceEqDiff, Nat.reduceLeDiff, nl_0, nl_1, nl_6, nl_16, nl_256, no_1, no_1024, pk_mul, nI_add, nm_ck, nI_clamp, nI_ltI, nI_leI, nI_eq, nb_b2, nb_b1, ↓nb_let, nm_z0, nm_z1, nb_II, nb_IR, nb_RI, nb_RR, nm_IL, nm_IQ, nm_RL, nm_RQ, nm_LI, nm_LR, nm_LL, nm_LQ, nm_QI, nm_QR, nm_QL, nm_QQ, nm_rr, nm_ii, nm_eqm, not_false_eq_true, pk_sub, nm_div, nm_shl, nm_shr, nm_ush, nm_or8, nm_or64, nm_or256, nm_m1, nm_m3, nm_m7, nm_m15, nm_m31, nm_m63, nm_m255, nm_m511, nm_m1023, nm_m2047, nm_m65535, Nat.reduceMod, Nat.reducePow, Nat.reduceAdd, Nat.reduceSub, Nat.reduceMul, nm_bo, nm_bi, nm_rc, nm_ic, nm_ri, nm_rl, nm_rq, nm_ql, nm_qi, nm_li, nm_us, nm_uu, nm_cp, nm_sa31, nm_sa7, nm_m127, nm_m2, nm_nz, nm_nzk, nm_eq32, nm_nzf, if_true, if_false, ↓reduceIte, if_pos, if_neg]
  · rw [if_neg c]
    have ne := x3' (by omega)
    have u1 : k * 16 + d < 256 := by omega
    have u2 : d < 16 := by omega
    have u4 : k * 16 + d < 2 ^ 31 := by omega
    have i16 : ¬ 16 ≤ d := by omega
    have e1 : ∀ G', dF_X10_fileNamed_30 (n1 + 1) g2 G' (nI k) (nI 1) (nI d) s = G' (nI k) (nI 0) (nI (d + 1)) s := fun G' => by
      simp (disch := (first | assumption | decide | omega)) only [dF_X10_fileNamed_30, df_X10_fileNamed_65, i16, ne, eq_self, Nat.reduceEqDiff, Nat.reduceLeDiff, nl_0, nl_1, nl_6, nl_16, nl_256, no_1, no_1024, pk_mul, nI_add, nm_ck, nI_clamp, nI_ltI, nI_leI, nI_eq, nb_b2, nb_b1, ↓nb_let, nm_z0, nm_z1, nb_II, nb_IR, nb_RI, nb_RR, nm_IL, nm_IQ, nm_RL, nm_RQ, nm_LI, nm_LR, nm_LL, nm_LQ, nm_QI, nm_QR, nm_QL, nm_QQ, nm_rr, nm_ii, nm_eqm, not_false_eq_true, pk_sub, nm_div, nm_shl, nm_shr, nm_ush, nm_or8, nm_or64, nm_or256, nm_m1, nm_m3, nm_m7, nm_m15, nm_m31, nm_m63, nm_m255, nm_m511, nm_m1023, nm_m2047, nm_m65535, Nat.reduceMod, Nat.reducePow, Nat.reduceAdd, Nat.reduceSub, Nat.reduceMul, nm_bo, nm_bi, nm_rc, nm_ic, nm_ri, nm_rl, nm_rq, nm_ql, nm_qi, nm_li, nm_us, nm_uu, nm_cp, nm_sa31, nm_sa7, nm_m127, nm_m2, nm_nz, nm_nzk, nm_eq32, nm_nzf, if_true, if_false, ↓reduceIte, if_pos, if_neg]
    rw [e1]
    simp (disch := (first | assumption | decide | omega)) only [dF_X10_fileNamed_30, df_X10_fileNamed_72, eq_self, Nat.reduceEqDiff, Nat.reduceLeDiff, nl_0, nl_1, nl_6, nl_16, nl_256, no_1, no_1024, pk_mul, nI_add, nm_ck, nI_clamp, nI_ltI, nI_leI, nI_eq, nb_b2, nb_b1, ↓nb_let, nm_z0, nm_z1, nb_II, nb_IR, nb_RI, nb_RR, nm_IL, nm_IQ, nm_RL, nm_RQ, nm_LI, nm_LR, nm_LL, nm_LQ, nm_QI, nm_QR, nm_QL, nm_QQ, nm_rr, nm_ii, nm_eqm, not_false_eq_true, pk_sub, nm_div, nm_shl, nm_shr, nm_ush, nm_or8, nm_or64, nm_or256, nm_m1, nm_m3, nm_m7, nm_m15, nm_m31, nm_m63, nm_m255, nm_m511, nm_m1023, nm_m2047, nm_m65535, Nat.reduceMod, Nat.reducePow, Nat.reduceAdd, Nat.reduceSub, Nat.reduceMul, nm_bo, nm_bi, nm_rc, nm_ic, nm_ri, nm_rl, nm_rq, nm_ql, nm_qi, nm_li, nm_us, nm_uu, nm_cp, nm_sa31, nm_sa7, nm_m127, nm_m2, nm_nz, nm_nzk, nm_eq32, nm_nzf, if_true, if_false, ↓reduceIte, if_pos, if_neg]
theorem in_R (n : Nat) (hn : 1024 < n) {s : St × St} {g2 : Int32 → St × St → Option (Int32 × (St × St))} {k : Nat} (hk : k < 16) : df_X16_named_34 n g2 n (nI k) (nI 1) (nI 0) s = if eqF (fun i => sR s.1 30 (16 * k + i)) (sR s.1 33) = 16 then some (nI k, s) else g2 (nI (k + 1)) s := by
  obtain ⟨n1, rfl⟩ : ∃ n1 : Nat, n = n1 + 1 := ⟨n - 1, by omega⟩
  obtain ⟨x1, x2, x3, x4⟩ := fN_le (fun i => decide (¬ sR s.1 30 (16 * k + i) = sR s.1 33 i)) 16 0
  obtain ⟨m, hm⟩ := nm_ls (fun m i => df_X16_named_34 (n1 + 1) g2 (m + 1) (nI k) (nI 1) (nI i) s) (fun i => decide (¬ sR s.1 30 (16 * k + i) = sR s.1 33 i)) 0 16 n1 (by omega) (fun i m h0 hi c => by
    have c : sR s.1 30 (16 * k + i) = sR s.1 33 i := Classical.not_not.mp (of_decide_eq_false c)
    have u1 : 16 * k + i < 256 := by omega
    have u2 : i < 16 := by omega
    have u3 : i < 2 ^ 31 := by omega
    have u4 : 16 * k + i < 2 ^ 31 := by omega
    have i16 : ¬ 16 ≤ i := by omega
    show df_X16_named_34 (n1 + 1) g2 (m + 1 + 1) _ _ _ _ = df_X16_named_34 (n1 + 1) g2 (m + 1) _ _ (nI (i + 1)) _
    rw [show df_X16_named_34 (n1 + 1) g2 (m + 1 + 1) = dF_X16_named_34 (n1 + 1) g2 (df_X16_named_34 (n1 + 1) g2 (m + 1)) from rfl]
    generalize df_X16_named_34 (n1 + 1) g2 (m + 1) = G
    simp (disch := (first | assumption | decide | omega)) only [dF_X16_named_34, df_X16_named_69, i16, c, eq_self, Nat.reduceEqDiff, Nat.reduceLeDiff, nl_0, nl_1, nl_16, nl_30, nl_33, nl_256, no_1, no_1024, pk_mul, nI_add, nm_ck, nI_clamp, nI_ltI, nI_leI, nI_eq, nb_b2, nb_b1, ↓nb_let, nm_z0, nm_z1, nb_II, nb_IR, nb_RI, nb_RR, nm_IL, nm_IQ, nm_RL, nm_RQ, nm_LI, nm_LR, nm_LL, nm_LQ, nm_QI, nm_QR, nm_QL, nm_QQ, nm_rr, nm_ii, nm_eqm, not_false_eq_true, pk_sub, nm_div, nm_shl, nm_shr, nm_ush, nm_or8, nm_or64, nm_or256, nm_m1, nm_m3, nm_m7, nm_m15, nm_m31, nm_m63, nm_m255, nm_m511, nm_m1023, nm_m2047, nm_m65535, Nat.reduceMod, Nat.reducePow, Nat.reduceAdd, Nat.reduceSub, Nat.reduceMul, nm_bo, nm_bi, nm_rc, nm_ic, nm_ri, nm_rl, nm_rq, nm_ql, nm_qi, nm_li, nm_us, nm_uu, nm_cp, nm_sa31, nm_sa7, nm_m127, nm_m2, nm_nz, nm_nzk, nm_eq32, nm_nzf, if_true, if_false, ↓reduceIte, if_pos, if_neg])
  have hm : df_X16_named_34 (n1 + 1) g2 (n1 + 1) (nI k) (nI 1) (nI 0) s = df_X16_named_34 (n1 + 1) g2 (m + 1 + 1) (nI k) (nI 1) (nI (eqF (fun i => sR s.1 30 (16 * k + i)) (sR s.1 33))) s := hm
  rw [hm]
  have x3' : eqF (fun i => sR s.1 30 (16 * k + i)) (sR s.1 33) < 16 → ¬ sR s.1 30 (16 * k + eqF (fun i => sR s.1 30 (16 * k + i)) (sR s.1 33)) = sR s.1 33 (eqF (fun i => sR s.1 30 (16 * k + i)) (sR s.1 33)) := fun z => of_decide_eq_true (x3 z)
  have x2' : eqF (fun i => sR s.1 30 (16 * k + i)) (sR s.1 33) ≤ 16 := x2
  generalize eqF (fun i => sR s.1 30 (16 * k + i)) (sR s.1 33) = d at x2' x3'
  clear hm x1 x2 x3 x4
  rw [show df_X16_named_34 (n1 + 1) g2 (m + 1 + 1) = dF_X16_named_34 (n1 + 1) g2 (dF_X16_named_34 (n1 + 1) g2 (df_X16_named_34 (n1 + 1) g2 m)) from rfl]
  generalize df_X16_named_34 (n1 + 1) g2 m = G
  have u3 : d < 2 ^ 31 := by omega
  have u5 : k < 2 ^ 31 := by omega
  by_cases c : d = 16
  · subst c
    rw [if_pos rfl]
    simp (disch := (first | assumption | decide | omega)) only [dF_X16_named_34, df_X16_named_76, eq_self, Nat.reduceEqDiff, Nat.reduceLeDiff, nl_0, nl_1, nl_16, nl_30, nl_33, nl_256, no_1, no_1024, pk_mul, nI_add, nm_ck, nI_clamp, nI_ltI, nI_leI, nI_eq, nb_b2, nb_b1, ↓nb_let, nm_z0, nm_z1, nb_II, nb_IR, nb_RI, nb_RR, nm_IL, nm_IQ, nm_RL, nm_RQ, nm_LI, nm_LR, nm_LL, nm_LQ, nm_QI, nm_QR, nm_QL, nm_QQ, nm_rr, nm_ii, nm_eqm, not_false_eq_true, pk_sub, nm_div, nm_shl, nm_shr, nm_ush, nm_or8, nm_or64, nm_or256, nm_m1, nm_m3, nm_m7, nm_m15, nm_m31, nm_m63, nm_m255, nm_m511, nm_m1023, nm_m2047, nm_m65535, Nat.reduceMod, Nat.reducePow, Nat.reduceAdd, Nat.reduceSub, Nat.reduceMul, nm_bo, nm_bi, nm_rc, nm_ic, nm_ri, nm_rl, nm_rq, nm_ql, nm_qi, nm_li, nm_us, nm_uu, nm_cp, nm_sa31, nm_sa7, nm_m127, nm_m2, nm_nz, nm_nzk, nm_eq32, nm_nzf, if_true, if_false, ↓reduceIte, if_pos, if_neg]
  · rw [if_neg c]
    have ne := x3' (by omega)
    have u1 : 16 * k + d < 256 := by omega
    have u2 : d < 16 := by omega
    have u4 : 16 * k + d < 2 ^ 31 := by omega
    have i16 : ¬ 16 ≤ d := by omega
    have u6 : d + 1 < 2 ^ 31 := by omega
    have e1 : ∀ G', dF_X16_named_34 (n1 + 1) g2 G' (nI k) (nI 1) (nI d) s = G' (nI k) (nI 0) (nI (d + 1)) s := fun G' => by
      simp (disch := (first | assumption | decide | omega)) only [dF_X16_named_34, df_X16_named_69, i16, ne, eq_self, Nat.reduceEqDiff, Nat.reduceLeDiff, nl_0, nl_1, nl_16, nl_30, nl_33, nl_256, no_1, no_1024, pk_mul, nI_add, nm_ck, nI_clamp, nI_ltI, nI_leI, nI_eq, nb_b2, nb_b1, ↓nb_let, nm_z0, nm_z1, nb_II, nb_IR, nb_RI, nb_RR, nm_IL, nm_IQ, nm_RL, nm_RQ, nm_LI, nm_LR, nm_LL, nm_LQ, nm_QI, nm_QR, nm_QL, nm_QQ, nm_rr, nm_ii, nm_eqm, not_false_eq_true, pk_sub, nm_div, nm_shl, nm_shr, nm_ush, nm_or8, nm_or64, nm_or256, nm_m1, nm_m3, nm_m7, nm_m15, nm_m31, nm_m63, nm_m255, nm_m511, nm_m1023, nm_m2047, nm_m65535, Nat.reduceMod, Nat.reducePow, Nat.reduceAdd, Nat.reduceSub, Nat.reduceMul, nm_bo, nm_bi, nm_rc, nm_ic, nm_ri, nm_rl, nm_rq, nm_ql, nm_qi, nm_li, nm_us, nm_uu, nm_cp, nm_sa31, nm_sa7, nm_m127, nm_m2, nm_nz, nm_nzk, nm_eq32, nm_nzf, if_true, if_false, ↓reduceIte, if_pos, if_neg]
    rw [e1]
    by_cases d15 : 16 ≤ d + 1
    · simp (disch := (first | assumption | decide | omega)) only [dF_X16_named_34, df_X16_named_76, d15, eq_self, Nat.reduceEqDiff, Nat.reduceLeDiff, nl_0, nl_1, nl_16, nl_30, nl_33, nl_256, no_1, no_1024, pk_mul, nI_add, nm_ck, nI_clamp, nI_ltI, nI_leI, nI_eq, nb_b2, nb_b1, ↓nb_let, nm_z0, nm_z1, nb_II, nb_IR, nb_RI, nb_RR, nm_IL, nm_IQ, nm_RL, nm_RQ, nm_LI, nm_LR, nm_LL, nm_LQ, nm_QI, nm_QR, nm_QL, nm_QQ, nm_rr, nm_ii, nm_eqm, not_false_eq_true, pk_sub, nm_div, nm_shl, nm_shr, nm_ush, nm_or8, nm_or64, nm_or256, nm_m1, nm_m3, nm_m7, nm_m15, nm_m31, nm_m63, nm_m255, nm_m511, nm_m1023, nm_m2047, nm_m65535, Nat.reduceMod, Nat.reducePow, Nat.reduceAdd, Nat.reduceSub, Nat.reduceMul, nm_bo, nm_bi, nm_rc, nm_ic, nm_ri, nm_rl, nm_rq, nm_ql, nm_qi, nm_li, nm_us, nm_uu, nm_cp, nm_sa31, nm_sa7, nm_m127, nm_m2, nm_nz, nm_nzk, nm_eq32, nm_nzf, if_true, if_false, ↓reduceIte, if_pos, if_neg]
    · simp (disch := (first | assumption | decide | omega)) only [dF_X16_named_34, df_X16_named_76, d15, eq_self, Nat.reduceEqDiff, Nat.reduceLeDiff, nl_0, nl_1, nl_16, nl_30, nl_33, nl_256, no_1, no_1024, pk_mul, nI_add, nm_ck, nI_clamp, nI_ltI, nI_leI, nI_eq, nb_b2, nb_b1, ↓nb_let, nm_z0, nm_z1, nb_II, nb_IR, nb_RI, nb_RR, nm_IL, nm_IQ, nm_RL, nm_RQ, nm_LI, nm_LR, nm_LL, nm_LQ, nm_QI, nm_QR, nm_QL, nm_QQ, nm_rr, nm_ii, nm_eqm, not_false_eq_true, pk_sub, nm_div, nm_shl, nm_shr, nm_ush, nm_or8, nm_or64, nm_or256, nm_m1, nm_m3, nm_m7, nm_m15, nm_m31, nm_m63, nm_m255, nm_m511, nm_m1023, nm_m2047, nm_m65535, Nat.reduceMod, Nat.reducePow, Nat.reduceAdd, Nat.reduceSub, Nat.reduceMul, nm_bo, nm_bi, nm_rc, nm_ic, nm_ri, nm_rl, nm_rq, nm_ql, nm_qi, nm_li, nm_us, nm_uu, nm_cp, nm_sa31, nm_sa7, nm_m127, nm_m2, nm_nz, nm_nzk, nm_eq32, nm_nzf, if_true, if_false, ↓reduceIte, if_pos, if_neg]
theorem in_C0 (n : Nat) (hn : 1024 < n) {s : St × St} {g2 : Int32 → St × St → Option (Int32 × (St × St))} {k : Nat} (hk : k < 16) : df_X10_fileNamed_30 n g2 n (nI k) (nI 0) (nI 0) s = g2 (nI (k + 1)) s := by
  obtain ⟨n1, rfl⟩ : ∃ n1 : Nat, n = n1 + 1 := ⟨n - 1, by omega⟩
  rw [show df_X10_fileNamed_30 (n1 + 1) g2 (n1 + 1) = dF_X10_fileNamed_30 (n1 + 1) g2 (df_X10_fileNamed_30 (n1 + 1) g2 n1) from rfl]
  generalize df_X10_fileNamed_30 (n1 + 1) g2 n1 = G
  simp (disch := (first | assumption | decide | omega)) only [dF_X10_fileNamed_30, df_X10_fileNamed_72, eq_self, Nat.reduceEqDiff, Nat.reduceLeDiff, nl_0, nl_1, nl_6, nl_16, nl_256, no_1, no_1024, pk_mul, nI_add, nm_ck, nI_clamp, nI_ltI, nI_leI, nI_eq, nb_b2, nb_b1, ↓nb_let, nm_z0, nm_z1, nb_II, nb_IR, nb_RI, nb_RR, nm_IL, nm_IQ, nm_RL, nm_RQ, nm_LI, nm_LR, nm_LL, nm_LQ, nm_QI, nm_QR, nm_QL, nm_QQ, nm_rr, nm_ii, nm_eqm, not_false_eq_true, pk_sub, nm_div, nm_shl, nm_shr, nm_ush, nm_or8, nm_or64, nm_or256, nm_m1, nm_m3, nm_m7, nm_m15, nm_m31, nm_m63, nm_m255, nm_m511, nm_m1023, nm_m2047, nm_m65535, Nat.reduceMod, Nat.reducePow, Nat.reduceAdd, Nat.reduceSub, Nat.reduceMul, nm_bo, nm_bi, nm_rc, nm_ic, nm_ri, nm_rl, nm_rq, nm_ql, nm_qi, nm_li, nm_us, nm_uu, nm_cp, nm_sa31, nm_sa7, nm_m127, nm_m2, nm_nz, nm_nzk, nm_eq32, nm_nzf, if_true, if_false, ↓reduceIte, if_pos, if_neg]
theorem in_R0 (n : Nat) (hn : 1024 < n) {s : St × St} {g2 : Int32 → St × St → Option (Int32 × (St × St))} {k : Nat} (hk : k < 16) : df_X16_named_34 n g2 n (nI k) (nI 0) (nI 0) s = g2 (nI (k + 1)) s := by
  obtain ⟨n1, rfl⟩ : ∃ n1 : Nat, n = n1 + 1 := ⟨n - 1, by omega⟩
  rw [show df_X16_named_34 (n1 + 1) g2 (n1 + 1) = dF_X16_named_34 (n1 + 1) g2 (df_X16_named_34 (n1 + 1) g2 n1) from rfl]
  generalize df_X16_named_34 (n1 + 1) g2 n1 = G
  simp (disch := (first | assumption | decide | omega)) only [dF_X16_named_34, df_X16_named_76, eq_self, Nat.reduceEqDiff, Nat.reduceLeDiff, nl_0, nl_1, nl_16, nl_30, nl_33, nl_256, no_1, no_1024, pk_mul, nI_add, nm_ck, nI_clamp, nI_ltI, nI_leI, nI_eq, nb_b2, nb_b1, ↓nb_let, nm_z0, nm_z1, nb_II, nb_IR, nb_RI, nb_RR, nm_IL, nm_IQ, nm_RL, nm_RQ, nm_LI, nm_LR, nm_LL, nm_LQ, nm_QI, nm_QR, nm_QL, nm_QQ, nm_rr, nm_ii, nm_eqm, not_false_eq_true, pk_sub, nm_div, nm_shl, nm_shr, nm_ush, nm_or8, nm_or64, nm_or256, nm_m1, nm_m3, nm_m7, nm_m15, nm_m31, nm_m63, nm_m255, nm_m511, nm_m1023, nm_m2047, nm_m65535, Nat.reduceMod, Nat.reducePow, Nat.reduceAdd, Nat.reduceSub, Nat.reduceMul, nm_bo, nm_bi, nm_rc, nm_ic, nm_ri, nm_rl, nm_rq, nm_ql, nm_qi, nm_li, nm_us, nm_uu, nm_cp, nm_sa31, nm_sa7, nm_m127, nm_m2, nm_nz, nm_nzk, nm_eq32, nm_nzf, if_true, if_false, ↓reduceIte, if_pos, if_neg]
/-- the file that has the name, or 16 -/
def fnm (X : St × St) (g : Nat → Int32) : Nat := fN (fun k => decide (sR X.1 25 k = nI 1 ∧ eqF (fun i => sR X.1 30 (16 * k + i)) g = 16)) 0 16
theorem nk_named (n : Nat) (hn : 1024 < n) {B : Nat} {E : St} {M X : St × St} (m2 : rDD M X) (m7 : rTT B M X) (hb : ∀ i : Nat, i < 16 → b8 (sR E 0 i) (sR X.1 33 i)) : df_X10_fileNamed n (E, M.2) = some (cv (fnm X (sR X.1 33)), (E, M.2)) ∧ df_X16_named n X = some (cv (fnm X (sR X.1 33)), X) := by
  have nam : ∀ k : Nat, k < 16 → sR M.2 4 (k * 3 + 2) = sR X.1 25 k ∧ okB (sR X.1 25 k) ∧ (sR X.1 25 k = nI 1 → sR X.1 24 k = nI 1) := fun k hk => by
    obtain ⟨z1, z2, z3, z4⟩ := m2.2.2.2 k hk
    refine ⟨z3, z2, fun e => ?_⟩
    rw [z4, decide_eq_true (Or.inl e)]
    rfl
  have eqs : ∀ k : Nat, k < 16 → sR X.1 25 k = nI 1 → eqF (fun i => sR M.2 6 (k * 16 + i)) (sR E 0) = eqF (fun i => sR X.1 30 (16 * k + i)) (sR X.1 33) := fun k hk e => by
    refine fN_c 16 0 (fun i _ hi => ?_)
    refine decide_eq_decide.mpr (not_congr ?_)
    exact b8_eq (m7.2.2.1 k hk e i (by omega)) (hb i (by omega))
  obtain ⟨x1, x2, x3, x4⟩ := fN_le (fun k => decide (sR X.1 25 k = nI 1 ∧ eqF (fun i => sR X.1 30 (16 * k + i)) (sR X.1 33) = 16)) 16 0
  have x3' : fnm X (sR X.1 33) < 16 → sR X.1 25 (fnm X (sR X.1 33)) = nI 1 ∧ eqF (fun i => sR X.1 30 (16 * fnm X (sR X.1 33) + i)) (sR X.1 33) = 16 := fun z => of_decide_eq_true (x3 z)
  have x2' : fnm X (sR X.1 33) ≤ 16 := x2
  constructor
  · obtain ⟨m, hm⟩ := nm_ls (fun m k => df_X10_fileNamed_2 n m (nI k) (E, M.2)) (fun k => decide (sR X.1 25 k = nI 1 ∧ eqF (fun i => sR X.1 30 (16 * k + i)) (sR X.1 33) = 16)) 0 16 n (by omega) (fun k m h0 hk c => by
      have c := of_decide_eq_false c
      have hk : k < 16 := by omega
      have u1 : k * 3 + 2 < 48 := by omega
      have u2 : k * 3 + 2 < 2 ^ 31 := by omega
      have u3 : k < 2 ^ 31 := by omega
      have k16 : ¬ 16 ≤ k := by omega
      obtain ⟨n1, n2, n3⟩ := nam k hk
      show df_X10_fileNamed_2 n (m + 1) _ _ = df_X10_fileNamed_2 n m (nI (k + 1)) _
      rw [show df_X10_fileNamed_2 n (m + 1) = dF_X10_fileNamed_2 n (df_X10_fileNamed_2 n m) from rfl]
      generalize df_X10_fileNamed_2 n m = G
      rcases n2 with e | e
      · rw [e] at n1
        have i0 := in_C0 n hn (s := (E, M.2)) (g2 := G) hk
        simp (disch := (first | assumption | decide | omega)) only [dF_X10_fileNamed_2, df_X10_fileNamed_26, k16, n1, i0, eq_self, Nat.reduceEqDiff, Nat.reduceLeDiff, nl_0, nl_1, nl_2, nl_3, nl_4, nl_16, nl_48, no_1, no_1024, pk_mul, nI_add, nm_ck, nI_clamp, nI_ltI, nI_leI, nI_eq, nb_b2, nb_b1, ↓nb_let, nm_z0, nm_z1, nb_II, nb_IR, nb_RI, nb_RR, nm_IL, nm_IQ, nm_RL, nm_RQ, nm_LI, nm_LR, nm_LL, nm_LQ, nm_QI, nm_QR, nm_QL, nm_QQ, nm_rr, nm_ii, nm_eqm, not_false_eq_true, pk_sub, nm_div, nm_shl, nm_shr, nm_ush, nm_or8, nm_or64, nm_or256, nm_m1, nm_m3, nm_m7, nm_m15, nm_m31, nm_m63, nm_m255, nm_m511, nm_m1023, nm_m2047, nm_m65535, Nat.reduceMod, Nat.reducePow, Nat.reduceAdd, Nat.reduceSub, Nat.reduceMul, nm_bo, nm_bi, nm_rc, nm_ic, nm_ri, nm_rl, nm_rq, nm_ql, nm_qi, nm_li, nm_us, nm_uu, nm_cp, nm_sa31, nm_sa7, nm_m127, nm_m2, nm_nz, nm_nzk, nm_eq32, nm_nzf, if_true, if_false, ↓reduceIte, if_pos, if_neg]
      · rw [e] at n1
        have i0 := in_C n hn (s := (E, M.2)) (g2 := G) hk
        rw [if_neg (show ¬ eqF (fun i => sR M.2 6 (k * 16 + i)) (sR E 0) = 16 from fun z => c ⟨e, by rw [← eqs k hk e]; exact z⟩)] at i0
        simp (disch := (first | assumption | decide | omega)) only [dF_X10_fileNamed_2, df_X10_fileNamed_26, k16, n1, i0, eq_self, Nat.reduceEqDiff, Nat.reduceLeDiff, nl_0, nl_1, nl_2, nl_3, nl_4, nl_16, nl_48, no_1, no_1024, pk_mul, nI_add, nm_ck, nI_clamp, nI_ltI, nI_leI, nI_eq, nb_b2, nb_b1, ↓nb_let, nm_z0, nm_z1, nb_II, nb_IR, nb_RI, nb_RR, nm_IL, nm_IQ, nm_RL, nm_RQ, nm_LI, nm_LR, nm_LL, nm_LQ, nm_QI, nm_QR, nm_QL, nm_QQ, nm_rr, nm_ii, nm_eqm, not_false_eq_true, pk_sub, nm_div, nm_shl, nm_shr, nm_ush, nm_or8, nm_or64, nm_or256, nm_m1, nm_m3, nm_m7, nm_m15, nm_m31, nm_m63, nm_m255, nm_m511, nm_m1023, nm_m2047, nm_m65535, Nat.reduceMod, Nat.reducePow, Nat.reduceAdd, Nat.reduceSub, Nat.reduceMul, nm_bo, nm_bi, nm_rc, nm_ic, nm_ri, nm_rl, nm_rq, nm_ql, nm_qi, nm_li, nm_us, nm_uu, nm_cp, nm_sa31, nm_sa7, nm_m127, nm_m2, nm_nz, nm_nzk, nm_eq32, nm_nzf, if_true, if_false, ↓reduceIte, if_pos, if_neg])
    refine Eq.trans (b := df_X10_fileNamed_2 n n (nI 0) (E, M.2)) rfl (Eq.trans hm ?_)
    show df_X10_fileNamed_2 n (m + 1) (nI (fnm X (sR X.1 33))) _ = _
    rw [show df_X10_fileNamed_2 n (m + 1) = dF_X10_fileNamed_2 n (df_X10_fileNamed_2 n m) from rfl]
    generalize df_X10_fileNamed_2 n m = G
    generalize fnm X (sR X.1 33) = k at x2' x3'
    have u3 : k < 2 ^ 31 := by omega
    by_cases c : k < 16
    · have u1 : k * 3 + 2 < 48 := by omega
      have u2 : k * 3 + 2 < 2 ^ 31 := by omega
      have k16 : ¬ 16 ≤ k := by omega
      obtain ⟨y1, y2⟩ := x3' c
      obtain ⟨n1, _, _⟩ := nam k c
      rw [y1] at n1
      have i0 := in_C n hn (s := (E, M.2)) (g2 := G) c
      rw [if_pos (show eqF (fun i => sR M.2 6 (k * 16 + i)) (sR E 0) = 16 by rw [eqs k c y1]; exact y2)] at i0
      rw [cv_0 c]
      simp (disch := (first | assumption | decide | omega)) only [dF_X10_fileNamed_2, df_X10_fileNamed_26, k16, n1, i0, eq_self, Nat.reduceEqDiff, Nat.reduceLeDiff, nl_0, nl_1, nl_2, nl_3, nl_4, nl_16, nl_48, no_1, no_1024, pk_mul, nI_add, nm_ck, nI_clamp, nI_ltI, nI_leI, nI_eq, nb_b2, nb_b1, ↓nb_let, nm_z0, nm_z1, nb_II, nb_IR, nb_RI, nb_RR, nm_IL, nm_IQ, nm_RL, nm_RQ, nm_LI, nm_LR, nm_LL, nm_LQ, nm_QI, nm_QR, nm_QL, nm_QQ, nm_rr, nm_ii, nm_eqm, not_false_eq_true, pk_sub, nm_div, nm_shl, nm_shr, nm_ush, nm_or8, nm_or64, nm_or256, nm_m1, nm_m3, nm_m7, nm_m15, nm_m31, nm_m63, nm_m255, nm_m511, nm_m1023, nm_m2047, nm_m65535, Nat.reduceMod, Nat.reducePow, Nat.reduceAdd, Nat.reduceSub, Nat.reduceMul, nm_bo, nm_bi, nm_rc, nm_ic, nm_ri, nm_rl, nm_rq, nm_ql, nm_qi, nm_li, nm_us, nm_uu, nm_cp, nm_sa31, nm_sa7, nm_m127, nm_m2, nm_nz, nm_nzk, nm_eq32, nm_nzf, if_true, if_false, ↓reduceIte, if_pos, if_neg]
    · have k16 : 16 ≤ k := by omega
      rw [cv_1 c]
      simp (disch := (first | assumption | decide | omega)) only [dF_X10_fileNamed_2, k16, eq_self, Nat.reduceEqDiff, Nat.reduceLeDiff, nl_0, nl_1, nl_2, nl_3, nl_4, nl_16, nl_48, no_1, no_1024, pk_mul, nI_add, nm_ck, nI_clamp, nI_ltI, nI_leI, nI_eq, nb_b2, nb_b1, ↓nb_let, nm_z0, nm_z1, nb_II, nb_IR, nb_RI, nb_RR, nm_IL, nm_IQ, nm_RL, nm_RQ, nm_LI, nm_LR, nm_LL, nm_LQ, nm_QI, nm_QR, nm_QL, nm_QQ, nm_rr, nm_ii, nm_eqm, not_false_eq_true, pk_sub, nm_div, nm_shl, nm_shr, nm_ush, nm_or8, nm_or64, nm_or256, nm_m1, nm_m3, nm_m7, nm_m15, nm_m31, nm_m63, nm_m255, nm_m511, nm_m1023, nm_m2047, nm_m65535, Nat.reduceMod, Nat.reducePow, Nat.reduceAdd, Nat.reduceSub, Nat.reduceMul, nm_bo, nm_bi, nm_rc, nm_ic, nm_ri, nm_rl, nm_rq, nm_ql, nm_qi, nm_li, nm_us, nm_uu, nm_cp, nm_sa31, nm_sa7, nm_m127, nm_m2, nm_nz, nm_nzk, nm_eq32, nm_nzf, if_true, if_false, ↓reduceIte, if_pos, if_neg]
  · obtain ⟨m, hm⟩ := nm_ls (fun m k => df_X16_named_2 n m (nI k) X) (fun k => decide (sR X.1 25 k = nI 1 ∧ eqF (fun i => sR X.1 30 (16 * k + i)) (sR X.1 33) = 16)) 0 16 n (by omega) (fun k m h0 hk c => by
      have c := of_decide_eq_false c
      have hk : k < 16 := by omega
      have u3 : k < 2 ^ 31 := by omega
      have k16 : ¬ 16 ≤ k := by omega
      obtain ⟨n1, n2, n3⟩ := nam k hk
      show df_X16_named_2 n (m + 1) _ _ = df_X16_named_2 n m (nI (k + 1)) _
      rw [show df_X16_named_2 n (m + 1) = dF_X16_named_2 n (df_X16_named_2 n m) from rfl]
      generalize df_X16_named_2 n m = G
      have i0 := in_R0 n hn (s := X) (g2 := G) hk
      rcases n2 with e | e
      · by_cases f : sR X.1 24 k = nI 0
        · simp (disch := (first | assumption | decide | omega)) only [dF_X16_named_2, df_X16_named_30, df_X16_named_31, k16, f, i0, eq_self, Nat.reduceEqDiff, Nat.reduceLeDiff, nl_0, nl_1, nl_16, nl_24, nl_25, no_1, no_1024, pk_mul, nI_add, nm_ck, nI_clamp, nI_ltI, nI_leI, nI_eq, nb_b2, nb_b1, ↓nb_let, nm_z0, nm_z1, nb_II, nb_IR, nb_RI, nb_RR, nm_IL, nm_IQ, nm_RL, nm_RQ, nm_LI, nm_LR, nm_LL, nm_LQ, nm_QI, nm_QR, nm_QL, nm_QQ, nm_rr, nm_ii, nm_eqm, not_false_eq_true, pk_sub, nm_div, nm_shl, nm_shr, nm_ush, nm_or8, nm_or64, nm_or256, nm_m1, nm_m3, nm_m7, nm_m15, nm_m31, nm_m63, nm_m255, nm_m511, nm_m1023, nm_m2047, nm_m65535, Nat.reduceMod, Nat.reducePow, Nat.reduceAdd, Nat.reduceSub, Nat.reduceMul, nm_bo, nm_bi, nm_rc, nm_ic, nm_ri, nm_rl, nm_rq, nm_ql, nm_qi, nm_li, nm_us, nm_uu, nm_cp, nm_sa31, nm_sa7, nm_m127, nm_m2, nm_nz, nm_nzk, nm_eq32, nm_nzf, if_true, if_false, ↓reduceIte, if_pos, if_neg]
        · simp (disch := (first | assumption | decide | omega)) only [dF_X16_named_2, df_X16_named_30, df_X16_named_31, k16, f, e, i0, eq_self, Nat.reduceEqDiff, Nat.reduceLeDiff, nl_0, nl_1, nl_16, nl_24, nl_25, no_1, no_1024, pk_mul, nI_add, nm_ck, nI_clamp, nI_ltI, nI_leI, nI_eq, nb_b2, nb_b1, ↓nb_let, nm_z0, nm_z1, nb_II, nb_IR, nb_RI, nb_RR, nm_IL, nm_IQ, nm_RL, nm_RQ, nm_LI, nm_LR, nm_LL, nm_LQ, nm_QI, nm_QR, nm_QL, nm_QQ, nm_rr, nm_ii, nm_eqm, not_false_eq_true, pk_sub, nm_div, nm_shl, nm_shr, nm_ush, nm_or8, nm_or64, nm_or256, nm_m1, nm_m3, nm_m7, nm_m15, nm_m31, nm_m63, nm_m255, nm_m511, nm_m1023, nm_m2047, nm_m65535, Nat.reduceMod, Nat.reducePow, Nat.reduceAdd, Nat.reduceSub, Nat.reduceMul, nm_bo, nm_bi, nm_rc, nm_ic, nm_ri, nm_rl, nm_rq, nm_ql, nm_qi, nm_li, nm_us, nm_uu, nm_cp, nm_sa31, nm_sa7, nm_m127, nm_m2, nm_nz, nm_nzk, nm_eq32, nm_nzf, if_true, if_false, ↓reduceIte, if_pos, if_neg]
      · have n3 := n3 e
        have i1 := in_R n hn (s := X) (g2 := G) hk
        rw [if_neg (fun z => c ⟨e, z⟩)] at i1
        simp (disch := (first | assumption | decide | omega)) only [dF_X16_named_2, df_X16_named_30, df_X16_named_31, k16, n3, e, i1, eq_self, Nat.reduceEqDiff, Nat.reduceLeDiff, nl_0, nl_1, nl_16, nl_24, nl_25, no_1, no_1024, pk_mul, nI_add, nm_ck, nI_clamp, nI_ltI, nI_leI, nI_eq, nb_b2, nb_b1, ↓nb_let, nm_z0, nm_z1, nb_II, nb_IR, nb_RI, nb_RR, nm_IL, nm_IQ, nm_RL, nm_RQ, nm_LI, nm_LR, nm_LL, nm_LQ, nm_QI, nm_QR, nm_QL, nm_QQ, nm_rr, nm_ii, nm_eqm, not_false_eq_true, pk_sub, nm_div, nm_shl, nm_shr, nm_ush, nm_or8, nm_or64, nm_or256, nm_m1, nm_m3, nm_m7, nm_m15, nm_m31, nm_m63, nm_m255, nm_m511, nm_m1023, nm_m2047, nm_m65535, Nat.reduceMod, Nat.reducePow, Nat.reduceAdd, Nat.reduceSub, Nat.reduceMul, nm_bo, nm_bi, nm_rc, nm_ic, nm_ri, nm_rl, nm_rq, nm_ql, nm_qi, nm_li, nm_us, nm_uu, nm_cp, nm_sa31, nm_sa7, nm_m127, nm_m2, nm_nz, nm_nzk, nm_eq32, nm_nzf, if_true, if_false, ↓reduceIte, if_pos, if_neg])
    refine Eq.trans (b := df_X16_named_2 n n (nI 0) X) rfl (Eq.trans hm ?_)
    show df_X16_named_2 n (m + 1) (nI (fnm X (sR X.1 33))) _ = _
    rw [show df_X16_named_2 n (m + 1) = dF_X16_named_2 n (df_X16_named_2 n m) from rfl]
    generalize df_X16_named_2 n m = G
    generalize fnm X (sR X.1 33) = k at x2' x3'
    have u3 : k < 2 ^ 31 := by omega
    by_cases c : k < 16
    · have k16 : ¬ 16 ≤ k := by omega
      obtain ⟨y1, y2⟩ := x3' c
      obtain ⟨_, _, n3⟩ := nam k c
      have n3 := n3 y1
      have i1 := in_R n hn (s := X) (g2 := G) c
      rw [if_pos y2] at i1
      rw [cv_0 c]
      simp (disch := (first | assumption | decide | omega)) only [dF_X16_named_2, df_X16_named_30, df_X16_named_31, k16, n3, y1, i1, eq_self, Nat.reduceEqDiff, Nat.reduceLeDiff, nl_0, nl_1, nl_16, nl_24, nl_25, no_1, no_1024, pk_mul, nI_add, nm_ck, nI_clamp, nI_ltI, nI_leI, nI_eq, nb_b2, nb_b1, ↓nb_let, nm_z0, nm_z1, nb_II, nb_IR, nb_RI, nb_RR, nm_IL, nm_IQ, nm_RL, nm_RQ, nm_LI, nm_LR, nm_LL, nm_LQ, nm_QI, nm_QR, nm_QL, nm_QQ, nm_rr, nm_ii, nm_eqm, not_false_eq_true, pk_sub, nm_div, nm_shl, nm_shr, nm_ush, nm_or8, nm_or64, nm_or256, nm_m1, nm_m3, nm_m7, nm_m15, nm_m31, nm_m63, nm_m255, nm_m511, nm_m1023, nm_m2047, nm_m65535, Nat.reduceMod, Nat.reducePow, Nat.reduceAdd, Nat.reduceSub, Nat.reduceMul, nm_bo, nm_bi, nm_rc, nm_ic, nm_ri, nm_rl, nm_rq, nm_ql, nm_qi, nm_li, nm_us, nm_uu, nm_cp, nm_sa31, nm_sa7, nm_m127, nm_m2, nm_nz, nm_nzk, nm_eq32, nm_nzf, if_true, if_false, ↓reduceIte, if_pos, if_neg]
    · have k16 : 16 ≤ k := by omega
      rw [cv_1 c]
      simp (disch := (first | assumption | decide | omega)) only [dF_X16_named_2, k16, eq_self, Nat.reduceEqDiff, Nat.reduceLeDiff, nl_0, nl_1, nl_16, nl_24, nl_25, no_1, no_1024, pk_mul, nI_add, nm_ck, nI_clamp, nI_ltI, nI_leI, nI_eq, nb_b2, nb_b1, ↓nb_let, nm_z0, nm_z1, nb_II, nb_IR, nb_RI, nb_RR, nm_IL, nm_IQ, nm_RL, nm_RQ, nm_LI, nm_LR, nm_LL, nm_LQ, nm_QI, nm_QR, nm_QL, nm_QQ, nm_rr, nm_ii, nm_eqm, not_false_eq_true, pk_sub, nm_div, nm_shl, nm_shr, nm_ush, nm_or8, nm_or64, nm_or256, nm_m1, nm_m3, nm_m7, nm_m15, nm_m31, nm_m63, nm_m255, nm_m511, nm_m1023, nm_m2047, nm_m65535, Nat.reduceMod, Nat.reducePow, Nat.reduceAdd, Nat.reduceSub, Nat.reduceMul, nm_bo, nm_bi, nm_rc, nm_ic, nm_ri, nm_rl, nm_rq, nm_ql, nm_qi, nm_li, nm_us, nm_uu, nm_cp, nm_sa31, nm_sa7, nm_m127, nm_m2, nm_nz, nm_nzk, nm_eq32, nm_nzf, if_true, if_false, ↓reduceIte, if_pos, if_neg]
