theorem nk_openingsFree (n : Nat) (hn : 1024 < n) {D : St} {X : St × St} (h : rD (sR D 0) (sR D 1) (sR D 2) (sR D 4) (sR X.1 14) (sR X.1 19) (sR X.1 20) (sR X.1 21) (sR X.1 22) (sR X.1 23) (sR X.1 24) (sR X.1 25)) : ∃ x : Nat, x ≤ 48 ∧ df_X10_openingsFree n D = some (nI x, D) ∧ (x = 0 ↔ ¬ fo X < 48) := by
  have key : ∀ k : Nat, k < 48 → (sR D 1 (k * 5) = nI 0 ↔ sR X.1 19 k ≤ nI 0) := fun k hk => by
    obtain ⟨y1, y2⟩ := fo_le h hk
    exact y2.trans y1.symm
  refine ⟨cN (fun o => decide (sR X.1 19 o ≤ nI 0)) 48, cN_le _ _, ?_, ?_⟩
  · obtain ⟨m, hm⟩ := nm_lq (fun m k => df_X10_openingsFree_4 n m (nI (cN (fun o => decide (sR X.1 19 o ≤ nI 0)) k)) (nI k) D) 48 n (by omega) (fun k m hk => by
      have u1 : k * 5 < 240 := by omega
      have u2 : k * 5 < 2 ^ 31 := by omega
      have u3 : k < 2 ^ 31 := by omega
      have k48 : ¬ 48 ≤ k := by omega
      rw [show df_X10_openingsFree_4 n (m + 1) = dF_X10_openingsFree_4 n (df_X10_openingsFree_4 n m) from rfl, cN_s]
      generalize df_X10_openingsFree_4 n m = G
      generalize cN (fun o => decide (sR X.1 19 o ≤ nI 0)) k = y
      by_cases c : sR X.1 19 k ≤ nI 0
      · have c' := (key k hk).mpr c
        rw [nm_dt c]
        simp (disch := (first | assumption | decide | omega)) only [dF_X10_openingsFree_4, df_X10_openingsFree_22, df_X10_of_0, df_X10_of, k48, Nat.add_zero, c', eq_self, Nat.reduceEqDiff, Nat.reduceLeDiff, nl_0, nl_1, nl_5, nl_48, nl_240, no_1, no_1024, pk_mul, nI_add, nm_ck, nI_clamp, nI_ltI, nI_leI, nI_eq, nb_b2, nb_b1, ↓nb_let, nm_z0, nm_z1, nb_II, nb_IR, nb_RI, nb_RR, nm_IL, nm_IQ, nm_RL, nm_RQ, nm_LI, nm_LR, nm_LL, nm_LQ, nm_QI, nm_QR, nm_QL, nm_QQ, nm_rr, nm_ii, nm_eqm, not_false_eq_true, pk_sub, nm_div, nm_shl, nm_shr, nm_ush, nm_or8, nm_or64, nm_or256, nm_m1, nm_m3, nm_m7, nm_m15, nm_m31, nm_m63, nm_m255, nm_m511, nm_m1023, nm_m2047, nm_m65535, Nat.reduceMod, Nat.reducePow, Nat.reduceAdd, Nat.reduceSub, Nat.reduceMul, nm_bo, nm_bi, nm_rc, nm_ic, nm_ri, nm_rl, nm_rq, nm_ql, nm_qi, nm_li, nm_us, nm_uu, nm_cp, nm_sa31, nm_sa7, nm_m127, nm_m2, nm_nz, nm_nzk, nm_eq32, nm_nzf, if_true, if_false, ↓reduceIte, if_pos, if_neg]
      · have c' : ¬ sR D 1 (k * 5) = nI 0 := fun z => c ((key k hk).mp z)
        rw [nm_df c]
        simp (disch := (first | assumption | decide | omega)) only [dF_X10_openingsFree_4, df_X10_openingsFree_22, df_X10_of_0, df_X10_of, k48, Nat.add_zero, c', eq_self, Nat.reduceEqDiff, Nat.reduceLeDiff, nl_0, nl_1, nl_5, nl_48, nl_240, no_1, no_1024, pk_mul, nI_add, nm_ck, nI_clamp, nI_ltI, nI_leI, nI_eq, nb_b2, nb_b1, ↓nb_let, nm_z0, nm_z1, nb_II, nb_IR, nb_RI, nb_RR, nm_IL, nm_IQ, nm_RL, nm_RQ, nm_LI, nm_LR, nm_LL, nm_LQ, nm_QI, nm_QR, nm_QL, nm_QQ, nm_rr, nm_ii, nm_eqm, not_false_eq_true, pk_sub, nm_div, nm_shl, nm_shr, nm_ush, nm_or8, nm_or64, nm_or256, nm_m1, nm_m3, nm_m7, nm_m15, nm_m31, nm_m63, nm_m255, nm_m511, nm_m1023, nm_m2047, nm_m65535, Nat.reduceMod, Nat.reducePow, Nat.reduceAdd, Nat.reduceSub, Nat.reduceMul, nm_bo, nm_bi, nm_rc, nm_ic, nm_ri, nm_rl, nm_rq, nm_ql, nm_qi, nm_li, nm_us, nm_uu, nm_cp, nm_sa31, nm_sa7, nm_m127, nm_m2, nm_nz, nm_nzk, nm_eq32, nm_nzf, if_true, if_false, ↓reduceIte, if_pos, if_neg])
    refine Eq.trans (b := df_X10_openingsFree_4 n n (nI 0) (nI 0) D) rfl (Eq.trans hm ?_)
    show df_X10_openingsFree_4 n (m + 1) _ (nI 48) D = _
    rw [show df_X10_openingsFree_4 n (m + 1) = dF_X10_openingsFree_4 n (df_X10_openingsFree_4 n m) from rfl]
    generalize df_X10_openingsFree_4 n m = G
    generalize cN (fun o => decide (sR X.1 19 o ≤ nI 0)) 48 = y
    simp (disch := (first | assumption | decide | omega)) only [dF_X10_openingsFree_4, eq_self, Nat.reduceEqDiff, Nat.reduceLeDiff, nl_0, nl_1, nl_48, no_1, no_1024, pk_mul, nI_add, nm_ck, nI_clamp, nI_ltI, nI_leI, nI_eq, nb_b2, nb_b1, ↓nb_let, nm_z0, nm_z1, nb_II, nb_IR, nb_RI, nb_RR, nm_IL, nm_IQ, nm_RL, nm_RQ, nm_LI, nm_LR, nm_LL, nm_LQ, nm_QI, nm_QR, nm_QL, nm_QQ, nm_rr, nm_ii, nm_eqm, not_false_eq_true, pk_sub, nm_div, nm_shl, nm_shr, nm_ush, nm_or8, nm_or64, nm_or256, nm_m1, nm_m3, nm_m7, nm_m15, nm_m31, nm_m63, nm_m255, nm_m511, nm_m1023, nm_m2047, nm_m65535, Nat.reduceMod, Nat.reducePow, Nat.reduceAdd, Nat.reduceSub, Nat.reduceMul, nm_bo, nm_bi, nm_rc, nm_ic, nm_ri, nm_rl, nm_rq, nm_ql, nm_qi, nm_li, nm_us, nm_uu, nm_cp, nm_sa31, nm_sa7, nm_m127, nm_m2, nm_nz, nm_nzk, nm_eq32, nm_nzf, if_true, if_false, ↓reduceIte, if_pos, if_neg]
  · obtain ⟨x1, x2, x3, x4⟩ := fN_le (fun o => decide (sR X.1 19 o ≤ nI 0)) 48 0
    constructor
    · intro e f
      have := cN_p (P := fun o => decide (sR X.1 19 o ≤ nI 0)) (x3 f) f
      omega
    · intro f
      refine cN_0 (fun i hi => x4 i (by omega) ?_)
      have f : ¬ fN (fun o => decide (sR X.1 19 o ≤ nI 0)) 0 48 < 48 := f
      omega
/-- the first free file -/
def ff (X : St × St) : Nat := fN (fun k => decide (sR X.1 24 k = nI 0)) 0 16
theorem nk_freeFile (n : Nat) (hn : 1024 < n) {D : St} {X : St × St} (h : rD (sR D 0) (sR D 1) (sR D 2) (sR D 4) (sR X.1 14) (sR X.1 19) (sR X.1 20) (sR X.1 21) (sR X.1 22) (sR X.1 23) (sR X.1 24) (sR X.1 25)) : df_X10_freeFile n D = some (cv (ff X), D) ∧ ∀ (v x5 : Int32), df_X16_open_124 n n v x5 (nI 0) X = df_X16_open_147 n v x5 (nI (ff X)) X := by
  have key : ∀ k : Nat, k < 16 → (sR X.1 24 k = nI 0 → sR D 4 (k * 3 + 2) = nI 0 ∧ sR D 4 (k * 3 + 1) = nI 0) ∧ (¬ sR X.1 24 k = nI 0 → ¬ sR D 4 (k * 3 + 2) = nI 0 ∨ (sR D 4 (k * 3 + 2) = nI 0 ∧ ¬ sR D 4 (k * 3 + 1) = nI 0)) := fun k hk => by
    obtain ⟨z1, z2, z3, z4⟩ := h.2.2.2 k hk
    have cl := cE_le (sR X.1 19) (sR X.1 20) 3 k
    rw [z1, z3, z4]
    generalize cE (sR X.1 19) (sR X.1 20) 3 k = x at cl
    rcases z2 with e | e
    · rw [e]
      by_cases d : 0 < x
      · rw [decide_eq_true (Or.inr d)]
        exact ⟨fun z => absurd z (by decide), fun _ => Or.inr ⟨rfl, nI_ne0 d (by omega)⟩⟩
      · have : x = 0 := by omega
        subst this
        rw [decide_eq_false (show ¬ ((nI 0 : Int32) = nI 1 ∨ 0 < 0) from fun y => by rcases y with y | y; exact absurd y (by decide); omega)]
        exact ⟨fun _ => ⟨rfl, rfl⟩, fun z => absurd rfl z⟩
    · rw [e, decide_eq_true (Or.inl rfl)]
      exact ⟨fun z => absurd z (by decide), fun _ => Or.inl (by decide)⟩
  obtain ⟨x1, x2, x3, x4⟩ := fN_le (fun k => decide (sR X.1 24 k = nI 0)) 16 0
  have x3' : ff X < 16 → sR X.1 24 (ff X) = nI 0 := fun z => of_decide_eq_true (x3 z)
  have x2' : ff X ≤ 16 := x2
  refine ⟨?_, fun v x5 => ?_⟩
  · obtain ⟨m, hm⟩ := nm_ls (fun m k => df_X10_freeFile_2 n m (nI k) D) (fun k => decide (sR X.1 24 k = nI 0)) 0 16 n (by omega) (fun k m h0 hk c => by
      have c := of_decide_eq_false c
      have u1 : k * 3 + 2 < 48 := by omega
      have u2 : k * 3 + 2 < 2 ^ 31 := by omega
      have u3 : k * 3 + 1 < 48 := by omega
      have u4 : k * 3 + 1 < 2 ^ 31 := by omega
      have u5 : k < 2 ^ 31 := by omega
      have k16 : ¬ 16 ≤ k := by omega
      rw [show df_X10_freeFile_2 n (m + 1) = dF_X10_freeFile_2 n (df_X10_freeFile_2 n m) from rfl]
      generalize df_X10_freeFile_2 n m = G
      rcases (key k (by omega)).2 c with z | ⟨z1, z2⟩
      · simp (disch := (first | assumption | decide | omega)) only [dF_X10_freeFile_2, df_X10_freeFile_36, k16, z, eq_self, Nat.reduceEqDiff, Nat.reduceLeDiff, nl_0, nl_1, nl_2, nl_3, nl_4, nl_16, nl_48, no_1, no_1024, pk_mul, nI_add, nm_ck, nI_clamp, nI_ltI, nI_leI, nI_eq, nb_b2, nb_b1, ↓nb_let, nm_z0, nm_z1, nb_II, nb_IR, nb_RI, nb_RR, nm_IL, nm_IQ, nm_RL, nm_RQ, nm_LI, nm_LR, nm_LL, nm_LQ, nm_QI, nm_QR, nm_QL, nm_QQ, nm_rr, nm_ii, nm_eqm, not_false_eq_true, pk_sub, nm_div, nm_shl, nm_shr, nm_ush, nm_or8, nm_or64, nm_or256, nm_m1, nm_m3, nm_m7, nm_m15, nm_m31, nm_m63, nm_m255, nm_m511, nm_m1023, nm_m2047, nm_m65535, Nat.reduceMod, Nat.reducePow, Nat.reduceAdd, Nat.reduceSub, Nat.reduceMul, nm_bo, nm_bi, nm_rc, nm_ic, nm_ri, nm_rl, nm_rq, nm_ql, nm_qi, nm_li, nm_us, nm_uu, nm_cp, nm_sa31, nm_sa7, nm_m127, nm_m2, nm_nz, nm_nzk, nm_eq32, nm_nzf, if_true, if_false, ↓reduceIte, if_pos, if_neg]
      · simp (disch := (first | assumption | decide | omega)) only [dF_X10_freeFile_2, df_X10_freeFile_36, k16, z1, z2, eq_self, Nat.reduceEqDiff, Nat.reduceLeDiff, nl_0, nl_1, nl_2, nl_3, nl_4, nl_16, nl_48, no_1, no_1024, pk_mul, nI_add, nm_ck, nI_clamp, nI_ltI, nI_leI, nI_eq, nb_b2, nb_b1, ↓nb_let, nm_z0, nm_z1, nb_II, nb_IR, nb_RI, nb_RR, nm_IL, nm_IQ, nm_RL, nm_RQ, nm_LI, nm_LR, nm_LL, nm_LQ, nm_QI, nm_QR, nm_QL, nm_QQ, nm_rr, nm_ii, nm_eqm, not_false_eq_true, pk_sub, nm_div, nm_shl, nm_shr, nm_ush, nm_or8, nm_or64, nm_or256, nm_m1, nm_m3, nm_m7, nm_m15, nm_m31, nm_m63, nm_m255, nm_m511, nm_m1023, nm_m2047, nm_m65535, Nat.reduceMod, Nat.reducePow, Nat.reduceAdd, Nat.reduceSub, Nat.reduceMul, nm_bo, nm_bi, nm_rc, nm_ic, nm_ri, nm_rl, nm_rq, nm_ql, nm_qi, nm_li, nm_us, nm_uu, nm_cp, nm_sa31, nm_sa7, nm_m127, nm_m2, nm_nz, nm_nzk, nm_eq32, nm_nzf, if_true, if_false, ↓reduceIte, if_pos, if_neg])
    refine Eq.trans (b := df_X10_freeFile_2 n n (nI 0) D) rfl (Eq.trans hm ?_)
    show df_X10_freeFile_2 n (m + 1) (nI (ff X)) D = _
    generalize ff X = k at x2' x3'
    rw [show df_X10_freeFile_2 n (m + 1) = dF_X10_freeFile_2 n (df_X10_freeFile_2 n m) from rfl]
    generalize df_X10_freeFile_2 n m = G
    have u5 : k < 2 ^ 31 := by omega
    by_cases c : k < 16
    · obtain ⟨z1, z2⟩ := (key k c).1 (x3' c)
      have u1 : k * 3 + 2 < 48 := by omega
      have u2 : k * 3 + 2 < 2 ^ 31 := by omega
      have u3 : k * 3 + 1 < 48 := by omega
      have u4 : k * 3 + 1 < 2 ^ 31 := by omega
      have k16 : ¬ 16 ≤ k := by omega
      rw [cv_0 c]
      simp (disch := (first | assumption | decide | omega)) only [dF_X10_freeFile_2, k16, z1, z2, eq_self, Nat.reduceEqDiff, Nat.reduceLeDiff, nl_0, nl_1, nl_2, nl_3, nl_4, nl_16, nl_48, no_1, no_1024, pk_mul, nI_add, nm_ck, nI_clamp, nI_ltI, nI_leI, nI_eq, nb_b2, nb_b1, ↓nb_let, nm_z0, nm_z1, nb_II, nb_IR, nb_RI, nb_RR, nm_IL, nm_IQ, nm_RL, nm_RQ, nm_LI, nm_LR, nm_LL, nm_LQ, nm_QI, nm_QR, nm_QL, nm_QQ, nm_rr, nm_ii, nm_eqm, not_false_eq_true, pk_sub, nm_div, nm_shl, nm_shr, nm_ush, nm_or8, nm_or64, nm_or256, nm_m1, nm_m3, nm_m7, nm_m15, nm_m31, nm_m63, nm_m255, nm_m511, nm_m1023, nm_m2047, nm_m65535, Nat.reduceMod, Nat.reducePow, Nat.reduceAdd, Nat.reduceSub, Nat.reduceMul, nm_bo, nm_bi, nm_rc, nm_ic, nm_ri, nm_rl, nm_rq, nm_ql, nm_qi, nm_li, nm_us, nm_uu, nm_cp, nm_sa31, nm_sa7, nm_m127, nm_m2, nm_nz, nm_nzk, nm_eq32, nm_nzf, if_true, if_false, ↓reduceIte, if_pos, if_neg]
    · have k16 : 16 ≤ k := by omega
      rw [cv_1 c]
      simp (disch := (first | assumption | decide | omega)) only [dF_X10_freeFile_2, k16, eq_self, Nat.reduceEqDiff, Nat.reduceLeDiff, nl_0, nl_1, nl_2, nl_3, nl_4, nl_16, nl_48, no_1, no_1024, pk_mul, nI_add, nm_ck, nI_clamp, nI_ltI, nI_leI, nI_eq, nb_b2, nb_b1, ↓nb_let, nm_z0, nm_z1, nb_II, nb_IR, nb_RI, nb_RR, nm_IL, nm_IQ, nm_RL, nm_RQ, nm_LI, nm_LR, nm_LL, nm_LQ, nm_QI, nm_QR, nm_QL, nm_QQ, nm_rr, nm_ii, nm_eqm, not_false_eq_true, pk_sub, nm_div, nm_shl, nm_shr, nm_ush, nm_or8, nm_or64, nm_or256, nm_m1, nm_m3, nm_m7, nm_m15, nm_m31, nm_m63, nm_m255, nm_m511, nm_m1023, nm_m2047, nm_m65535, Nat.reduceMod, Nat.reducePow, Nat.reduceAdd, Nat.reduceSub, Nat.reduceMul, nm_bo, nm_bi, nm_rc, nm_ic, nm_ri, nm_rl, nm_rq, nm_ql, nm_qi, nm_li, nm_us, nm_uu, nm_cp, nm_sa31, nm_sa7, nm_m127, nm_m2, nm_nz, nm_nzk, nm_eq32, nm_nzf, if_true, if_false, ↓reduceIte, if_pos, if_neg]
  · obtain ⟨m, hm⟩ := nm_ls (fun m k => df_X16_open_124 n m v x5 (nI k) X) (fun k => decide (sR X.1 24 k = nI 0)) 0 16 n (by omega) (fun k m h0 hk c => by
      have c : ¬ sR X.1 24 k = nI 0 := of_decide_eq_false c
      have u5 : k < 2 ^ 31 := by omega
      have u6 : k < 16 := by omega
      have k16 : ¬ 16 ≤ k := by omega
      rw [show df_X16_open_124 n (m + 1) = dF_X16_open_124 n (df_X16_open_124 n m) from rfl]
      generalize df_X16_open_124 n m = G
      simp (disch := (first | assumption | decide | omega)) only [dF_X16_open_124, k16, c, eq_self, Nat.reduceEqDiff, Nat.reduceLeDiff, nl_0, nl_1, nl_16, nl_24, no_1, no_1024, pk_mul, nI_add, nm_ck, nI_clamp, nI_ltI, nI_leI, nI_eq, nb_b2, nb_b1, ↓nb_let, nm_z0, nm_z1, nb_II, nb_IR, nb_RI, nb_RR, nm_IL, nm_IQ, nm_RL, nm_RQ, nm_LI, nm_LR, nm_LL, nm_LQ, nm_QI, nm_QR, nm_QL, nm_QQ, nm_rr, nm_ii, nm_eqm, not_false_eq_true, pk_sub, nm_div, nm_shl, nm_shr, nm_ush, nm_or8, nm_or64, nm_or256, nm_m1, nm_m3, nm_m7, nm_m15, nm_m31, nm_m63, nm_m255, nm_m511, nm_m1023, nm_m2047, nm_m65535, Nat.reduceMod, Nat.reducePow, Nat.reduceAdd, Nat.reduceSub, Nat.reduceMul, nm_bo, nm_bi, nm_rc, nm_ic, nm_ri, nm_rl, nm_rq, nm_ql, nm_qi, nm_li, nm_us, nm_uu, nm_cp, nm_sa31, nm_sa7, nm_m127, nm_m2, nm_nz, nm_nzk, nm_eq32, nm_nzf, if_true, if_false, ↓reduceIte, if_pos, if_neg])
    refine Eq.trans hm ?_
    show df_X16_open_124 n (m + 1) v x5 (nI (ff X)) X = _
    generalize ff X = k at x2' x3'
    rw [show df_X16_open_124 n (m + 1) = dF_X16_open_124 n (df_X16_open_124 n m) from rfl]
    generalize df_X16_open_124 n m = G
    have u5 : k < 2 ^ 31 := by omega
    by_cases c : k < 16
    · have z := x3' c
      have k16 : ¬ 16 ≤ k := by omega
      simp (disch := (first | assumption | decide | omega)) only [dF_X16_open_124, k16, z, eq_self, Nat.reduceEqDiff, Nat.reduceLeDiff, nl_0, nl_1, nl_16, nl_24, no_1, no_1024, pk_mul, nI_add, nm_ck, nI_clamp, nI_ltI, nI_leI, nI_eq, nb_b2, nb_b1, ↓nb_let, nm_z0, nm_z1, nb_II, nb_IR, nb_RI, nb_RR, nm_IL, nm_IQ, nm_RL, nm_RQ, nm_LI, nm_LR, nm_LL, nm_LQ, nm_QI, nm_QR, nm_QL, nm_QQ, nm_rr, nm_ii, nm_eqm, not_false_eq_true, pk_sub, nm_div, nm_shl, nm_shr, nm_ush, nm_or8, nm_or64, nm_or256, nm_m1, nm_m3, nm_m7, nm_m15, nm_m31, nm_m63, nm_m255, nm_m511, nm_m1023, nm_m2047, nm_m65535, Nat.reduceMod, Nat.reducePow, Nat.reduceAdd, Nat.reduceSub, Nat.reduceMul, nm_bo, nm_bi, nm_rc, nm_ic, nm_ri, nm_rl, nm_rq, nm_ql, nm_qi, nm_li, nm_us, nm_uu, nm_cp, nm_sa31, nm_sa7, nm_m127, nm_m2, nm_nz, nm_nzk, nm_eq32, nm_nzf, if_true, if_false, ↓reduceIte, if_pos, if_neg]
    · have k16 : 16 ≤ k := by omega
      simp (disch := (first | assumption | decide | omega)) only [dF_X16_open_124, k16, eq_self, Nat.reduceEqDiff, Nat.reduceLeDiff, nl_0, nl_1, nl_16, nl_24, no_1, no_1024, pk_mul, nI_add, nm_ck, nI_clamp, nI_ltI, nI_leI, nI_eq, nb_b2, nb_b1, ↓nb_let, nm_z0, nm_z1, nb_II, nb_IR, nb_RI, nb_RR, nm_IL, nm_IQ, nm_RL, nm_RQ, nm_LI, nm_LR, nm_LL, nm_LQ, nm_QI, nm_QR, nm_QL, nm_QQ, nm_rr, nm_ii, nm_eqm, not_false_eq_true, pk_sub, nm_div, nm_shl, nm_shr, nm_ush, nm_or8, nm_or64, nm_or256, nm_m1, nm_m3, nm_m7, nm_m15, nm_m31, nm_m63, nm_m255, nm_m511, nm_m1023, nm_m2047, nm_m65535, Nat.reduceMod, Nat.reducePow, Nat.reduceAdd, Nat.reduceSub, Nat.reduceMul, nm_bo, nm_bi, nm_rc, nm_ic, nm_ri, nm_rl, nm_rq, nm_ql, nm_qi, nm_li, nm_us, nm_uu, nm_cp, nm_sa31, nm_sa7, nm_m127, nm_m2, nm_nz, nm_nzk, nm_eq32, nm_nzf, if_true, if_false, ↓reduceIte, if_pos, if_neg]
theorem o7 : ∀ h : Fin 64, nI h.1 &&& nI 7 = nI (h.1 % 8) := by decide +kernel
/-- a file is opened: the opening and its descriptor, in both -/
theorem op_fin (n : Nat) (hn : 1024 < n) {B p : Nat} {K1 K2 : St} {M X : St × St} (h : rM B M X) (hp : p < 16) (h3 : sI X.1 12 = nI p) (h5 : sR X.1 1 p = nI 1) {t d H : Nat} (ht : t < 16) (hH : H < 64) (isf : sR X.1 24 t = nI 1) (hd : d < 16) (ed : fN (fd X p) 0 16 = d) (hf : fo X < 48) : ∃ (D' : St) (X' : St × St), df_X5_open_237 n (nI p) (nI H) (nI t) (nI d) (K1, (K2, M)) = some ((nI d).toInt64, (K1, (K2, (M.1, D')))) ∧ df_X16_open_226 n (nI H) (nI t) X = some (nI d, X') ∧ rM B (M.1, D') X' ∧ kX X X' ∧ sR X'.1 1 = sR X.1 1 := by
  obtain ⟨m1, m2, m3, m4, m5, m6, m7⟩ := h
  have o10 := nk_open10 n hn (D := M.2) m2 hf (nI 3) (nI t) (nI (H % 8))
  have o16 := nk_opening16 n hn (X := X) hf (nI 3) (nI t) (nI (H % 8))
  have h7 := o7 ⟨H, hH⟩
  have h7 : nI H &&& nI 7 = nI (H % 8) := h7
  obtain ⟨x1, x2, x3, x4⟩ := fN_le (fun o => decide (sR X.1 19 o ≤ nI 0)) 48 0
  have x3' : sR X.1 19 (fo X) ≤ nI 0 := of_decide_eq_true (x3 hf)
  obtain ⟨y1, y2, y3, y4⟩ := fN_le (fd X p) 16 0
  have free : sR X.1 14 (p * 16 + d) = -nI 1 := by
    have := y3 (by rw [ed]; omega)
    rw [ed] at this
    exact of_decide_eq_true this
  clear x1 x2 x3 x4 y1 y2 y3 y4
  generalize fo X = o at hf o10 o16 x3'
  have kd0 : sR X.1 19 o = nI 0 := (fo_le m2 hf).1.mp x3'
  obtain ⟨z1, z2, z3, z4⟩ := m2.2.2.2 t ht
  have cl := cE_le (sR X.1 19) (sR X.1 20) 3 t
  have u1 : p * 16 + d < 256 := by omega
  have ho := nk_hold3 n (D := pR M.2 1 (orw (sR M.2 1) o (nI 3) (nI t) (nI (H % 8)))) ht cl z1
  have ho : df_X10_hold n (nI 3) (nI t) (nI 1) (pR M.2 1 (orw (sR M.2 1) o (nI 3) (nI t) (nI (H % 8)))) = some (pR (pR M.2 1 (orw (sR M.2 1) o (nI 3) (nI t) (nI (H % 8)))) 4 (upd (sR M.2 4) (t * 3 + 1) (nI (cE (sR X.1 19) (sR X.1 20) 3 t + 1)))) := ho
  rw [ho, nb_b1] at o10
  have w0 : orw (sR M.2 1) o (nI 3) (nI t) (nI (H % 8)) (o * 5) = nI 3 := by
    unfold orw
    rw [nm_un (by omega), nm_un (by omega), nm_un (by omega), nm_un (by omega), nm_us]
  have w1 : orw (sR M.2 1) o (nI 3) (nI t) (nI (H % 8)) (o * 5 + 1) = nI 0 := by
    unfold orw
    rw [nm_un (by omega), nm_un (by omega), nm_un (by omega), nm_us]
  have w2 : orw (sR M.2 1) o (nI 3) (nI t) (nI (H % 8)) (o * 5 + 2) = nI t := by
    unfold orw
    rw [nm_un (by omega), nm_un (by omega), nm_us]
  have w3 : orw (sR M.2 1) o (nI 3) (nI t) (nI (H % 8)) (o * 5 + 3) = nI 0 := by
    unfold orw
    rw [nm_un (by omega), nm_us]
  have w4 : orw (sR M.2 1) o (nI 3) (nI t) (nI (H % 8)) (o * 5 + 4) = nI (H % 8) := by
    unfold orw
    rw [nm_us]
  have wo : ∀ j : Nat, j < 48 → j ≠ o → ∀ x : Nat, x < 5 → orw (sR M.2 1) o (nI 3) (nI t) (nI (H % 8)) (j * 5 + x) = sR M.2 1 (j * 5 + x) := fun j hj hne x hx => by
    unfold orw
    rw [nm_un (by omega), nm_un (by omega), nm_un (by omega), nm_un (by omega), nm_un (by omega)]
  generalize orw (sR M.2 1) o (nI 3) (nI t) (nI (H % 8)) = R at o10 w0 w1 w2 w3 w4 wo
  have lt := nk_linkTo n (D := pR (pR M.2 1 R) 4 (upd (sR M.2 4) (t * 3 + 1) (nI (cE (sR X.1 19) (sR X.1 20) 3 t + 1)))) hp hd hf (c := 0) (by omega) w1
  have lt : df_X10_linkTo n (nI p) (nI d) (nI o) (pR (pR M.2 1 R) 4 (upd (sR M.2 4) (t * 3 + 1) (nI (cE (sR X.1 19) (sR X.1 20) 3 t + 1)))) = some (dU (pR (pR M.2 1 R) 4 (upd (sR M.2 4) (t * 3 + 1) (nI (cE (sR X.1 19) (sR X.1 20) 3 t + 1)))) (upd (sR M.2 0) (p * 16 + d) (nI (o + 1))) (upd R (o * 5 + 1) (nI 1)) (sR M.2 2) (upd (sR M.2 4) (t * 3 + 1) (nI (cE (sR X.1 19) (sR X.1 20) 3 t + 1)))) := lt
  have rd := rD_open m2 (i := p * 16 + d) (o := o) (k := 3) (t := t) (r := H % 8) u1 hf (by omega) (by omega) ht (by omega) (by omega) (by omega) (by omega) free kd0 (op' := upd R (o * 5 + 1) (nI 1)) (pi' := sR M.2 2) (fi' := upd (sR M.2 4) (t * 3 + 1) (nI (cE (sR X.1 19) (sR X.1 20) 3 t + 1))) (ip' := sR X.1 23) (isf' := sR X.1 24) (nam' := sR X.1 25) (fun j hj hne x hx => by rw [nm_un (by omega)]; exact wo j hj hne x hx) ⟨by rw [nm_un (by omega)]; exact w0, nm_us, by rw [nm_un (by omega)]; exact w2, by rw [nm_un (by omega)]; exact w3, by rw [nm_un (by omega)]; exact w4⟩ (fun u s hu q1 q2 => by rw [if_neg (by omega)]) (fun u hu => by
    refine ⟨?_, by rw [nm_un (by omega)]; exact (m2.2.2.2 u hu).2.2.1, (m2.2.2.2 u hu).2.1⟩
    by_cases c : u = t
    · rw [if_pos ⟨rfl, c⟩, c, nm_us]
    · rw [if_neg (fun y => c y.2), nm_un (by omega)]) (fun u hu => by rw [if_neg (by omega)]) (fun u hu => ⟨fun y => by rw [y.2]; exact isf, fun _ => ⟨rfl, rfl⟩⟩)
  have fr := nk_freeDescriptor n hn (X := (pR (pR (pR (pR X.1 19 (upd (sR X.1 19) o (nI 3))) 20 (upd (sR X.1 20) o (nI t))) 21 (upd (sR X.1 21) o (nI 0))) 22 (upd (sR X.1 22) o (nI (H % 8))), X.2)) hp h3
  have fr : df_X16_freeDescriptor n (pR (pR (pR (pR X.1 19 (upd (sR X.1 19) o (nI 3))) 20 (upd (sR X.1 20) o (nI t))) 21 (upd (sR X.1 21) o (nI 0))) 22 (upd (sR X.1 22) o (nI (H % 8))), X.2) = some (cv (fN (fd X p) 0 16), (pR (pR (pR (pR X.1 19 (upd (sR X.1 19) o (nI 3))) 20 (upd (sR X.1 20) o (nI t))) 21 (upd (sR X.1 21) o (nI 0))) 22 (upd (sR X.1 22) o (nI (H % 8))), X.2)) := fr
  rw [ed, cv_0 hd] at fr
  have u2 : 16 * p + d = p * 16 + d := by omega
  have u3 : p * 16 + d < 2 ^ 31 := by omega
  refine ⟨dU (pR (pR M.2 1 R) 4 (upd (sR M.2 4) (t * 3 + 1) (nI (cE (sR X.1 19) (sR X.1 20) 3 t + 1)))) (upd (sR M.2 0) (p * 16 + d) (nI (o + 1))) (upd R (o * 5 + 1) (nI 1)) (sR M.2 2) (upd (sR M.2 4) (t * 3 + 1) (nI (cE (sR X.1 19) (sR X.1 20) 3 t + 1))), (pR (pR (pR (pR (pR X.1 19 (upd (sR X.1 19) o (nI 3))) 20 (upd (sR X.1 20) o (nI t))) 21 (upd (sR X.1 21) o (nI 0))) 22 (upd (sR X.1 22) o (nI (H % 8)))) 14 (upd (sR X.1 14) (p * 16 + d) (nI o)), X.2), ?_, ?_, ⟨m1, rd, rP_all m3 (p := p) ?_ (fun r hr => ⟨⟨fun _ _ => rfl, fun _ _ => rfl, fun _ _ => rfl, fun _ _ => rfl, rfl⟩, ⟨⟨rfl, rfl, rfl, rfl, rfl, rfl, rfl, rfl⟩, fun _ _ => rfl, rfl, fun _ _ => rfl, rfl, fun _ _ => rfl, fun i hi => nm_un (by omega), fun _ _ => Iff.rfl, rfl⟩⟩), m4, m5, m6, ?_⟩, ⟨rfl, rfl, rfl, rfl, rfl, rfl, rfl⟩, rfl⟩
  · unfold df_X5_open_237
    rw [show (3 : Int32) = nI 3 from rfl, show (7 : Int32) = nI 7 from rfl, h7]
    show nd_b2 (df_X10_open n (nI 3) (nI t) (nI (H % 8)) M.2) _ = _
    rw [o10, nb_b2]
    simp only [nb_let]
    rw [lt, nb_b1]
  · unfold df_X16_open_226
    rw [show (3 : Int32) = nI 3 from rfl, show (7 : Int32) = nI 7 from rfl, h7, o16, nb_b2]
    unfold df_X16_give df_X16_give_0
    rw [fr, nb_b2]
    have e12 : sI (pR (pR (pR (pR X.1 19 (upd (sR X.1 19) o (nI 3))) 20 (upd (sR X.1 20) o (nI t))) 21 (upd (sR X.1 21) o (nI 0))) 22 (upd (sR X.1 22) o (nI (H % 8)))) 12 = nI p := h3
    have e14 : sR (pR (pR (pR (pR X.1 19 (upd (sR X.1 19) o (nI 3))) 20 (upd (sR X.1 20) o (nI t))) 21 (upd (sR X.1 21) o (nI 0))) 22 (upd (sR X.1 22) o (nI (H % 8)))) 14 = sR X.1 14 := rfl
    generalize pR (pR (pR (pR X.1 19 (upd (sR X.1 19) o (nI 3))) 20 (upd (sR X.1 20) o (nI t))) 21 (upd (sR X.1 21) o (nI 0))) 22 (upd (sR X.1 22) o (nI (H % 8))) = T at e12 e14
    simp (disch := (first | assumption | decide | omega)) only [df_X16_give_0, e12, e14, u2, eq_self, Nat.reduceEqDiff, Nat.reduceLeDiff, nl_12, nl_14, nl_16, nl_256, no_1, no_1024, pk_mul, nI_add, nm_ck, nI_clamp, nI_ltI, nI_leI, nI_eq, nb_b2, nb_b1, ↓nb_let, nm_z0, nm_z1, nb_II, nb_IR, nb_RI, nb_RR, nm_IL, nm_IQ, nm_RL, nm_RQ, nm_LI, nm_LR, nm_LL, nm_LQ, nm_QI, nm_QR, nm_QL, nm_QQ, nm_rr, nm_ii, nm_eqm, not_false_eq_true, pk_sub, nm_div, nm_shl, nm_shr, nm_ush, nm_or8, nm_or64, nm_or256, nm_m1, nm_m3, nm_m7, nm_m15, nm_m31, nm_m63, nm_m255, nm_m511, nm_m1023, nm_m2047, nm_m65535, Nat.reduceMod, Nat.reducePow, Nat.reduceAdd, Nat.reduceSub, Nat.reduceMul, nm_bo, nm_bi, nm_rc, nm_ic, nm_ri, nm_rl, nm_rq, nm_ql, nm_qi, nm_li, nm_us, nm_uu, nm_cp, nm_sa31, nm_sa7, nm_m127, nm_m2, nm_nz, nm_nzk, nm_eq32, nm_nzf, if_true, if_false, ↓reduceIte, if_pos, if_neg]
  · obtain ⟨t, c', w, b', e, ht, hc', hw, hb, he, a1, a2, a3, a4, a5, a6, a7, a8, a9, a10, a11, a12, a13, a14, a15, a16, a17, a18, a19, a20, a21⟩ := m3 p hp
    have t1 : t = 1 := nm_inI (by omega) (by omega) (a2.symm.trans h5)
    exact ⟨t, c', w, b', e, ht, hc', hw, hb, he, a1, a2, a3, a4, a5, a6, a7, a8, a9, a10, a11, a12, a13, a14, a15, a16, a17, a18, fun z => by omega, fun z => by omega, a21⟩
  · obtain ⟨t1, t2, t3⟩ := m7
    refine ⟨t1, fun k hk e => ?_, t3⟩
    show ∃ L : Nat, L ≤ 512 ∧ upd (sR M.2 4) (t * 3 + 1) _ (k * 3) = nI L ∧ _
    rw [nm_un (by omega)]
    exact t2 k hk e
