theorem nk_openingsFree (n : Nat) (hn : 1024 < n) {D : St} {X : St × St} (h : rD (sR D 0) (sR D 1) (sR D 2) (sR D 4) (sR X.1 14) (sR X.1 19) (sR X.1 20) (sR X.1 21) (sR X.1 22) (sR X.1 23) (sR X.1 24) (sR X.1 25)) : ∃ x : Nat, x ≤ 48 ∧ df_X10_openingsFree n D = some (nI x, D) ∧ (x = 0 ↔ ¬ fo X < 48) := by
  have key : ∀ k : Nat, k < 48 → (sR D 1 (k * 5) = nI 0 ↔ sR X.1 19 k ≤ nI 0) := fun k hk => by
    obtain ⟨y1, y2⟩ := fo_le h hk
    exact y2.trans y1.symm
  refine ⟨cN (fun o => decide (sR X.1 19 o ≤ nI 0)) 48, cN_le _ _, ?_, ?_⟩
  · obtain ⟨m, hm⟩ := nm_lq (fun m k => df_X10_openingsFree_4 n m (nI (cN (fun o => decide (sR X.1 19 o ≤ nI 0)) k)) (nI k) D) 48 n (by omega) (fun k m hk => by
      have u1 : k * 5 < 240 := by omega
      have u2 : k * 5 < 2 ^ 31 := by omega
      have u3 : k < 2 ^ 31 := by omega
      have k48 : ¬ 48 ≤ k := by omega
      rw [show df_X10_openingsFree_4 n (m + 1) = dF_X10_openingsFree_4 n (df_X10_openingsFree_4 n m) from rfl, cN_s]
      generalize df_X10_openingsFree_4 n m = G
      generalize cN (fun o => decide (sR X.1 19 o ≤ nI 0)) k = y
      by_cases c : sR X.1 19 k ≤ nI 0
      · have c' := (key k hk).mpr c
        rw [nm_dt c]
        simp (disch := (first | assumption | decide | omega)) only [dF_X10_openingsFree_4, df_X10_openingsFree_22, df_X10_of_0, df_X10_of, k48, Nat.add_zero, c', eq_self, Nat.reduceEqDiff, Nat.reduceLeDiff, nl_0, nl_1, nl_5, nl_48, nl_240, no_1, no_1024, pk_mul, nI_add, nm_ck, nI_clamp, nI_ltI, nI_leI, nI_eq, nb_b2, nb_b1, ↓nb_let, nm_z0, nm_z1, nb_II, nb_IR, nb_RI, nb_RR, nm_IL, nm_IQ, nm_RL, nm_RQ, nm_LI, nm_LR, nm_LL, nm_LQ, nm_QI, nm_QR, nm_QL, nm_QQ, nm_rr, nm_ii, nm_eqm, not_false_eq_true, pk_sub, nm_div, nm_shl, nm_shr, nm_ush, nm_or8, nm_or64, nm_or256, nm_m1, nm_m3, nm_m7, nm_m15, nm_m31, nm_m63, nm_m255, nm_m511, nm_m1023, nm_m2047, nm_m65535, Nat.reduceMod, Nat.reducePow, Nat.reduceAdd, Nat.reduceSub, Nat.reduceMul, nm_bo, nm_bi, nm_rc, nm_ic, nm_ri, nm_rl, nm_rq, nm_ql, nm_qi, nm_li, nm_us, nm_uu, nm_cp, nm_sa31, nm_sa7, nm_m127, nm_m2, nm_nz, nm_nzk, nm_eq32, nm_nzf, if_true, if_false, ↓reduceIte, if_pos, if_neg]
      · have c' : ¬ sR D 1 (k * 5) = nI 0 := fun z => c ((key k hk).mp z)
        rw [nm_df c]
        simp (disch := (first | assumption | decide | omega)) only [dF_X10_openingsFree_4, df_X10_openingsFree_22, df_X10_of_0, df_X10_of, k48, Nat.add_zero, c', eq_self, Nat.reduceEqDiff, Nat.reduceLeDiff, nl_0, nl_1, nl_5, nl_48, nl_240, no_1, no_1024, pk_mul, nI_add, nm_ck, nI_clamp, nI_ltI, nI_leI, nI_eq, nb_b2, nb_b1, ↓nb_let, nm_z0, nm_z1, nb_II, nb_IR, nb_RI, nb_RR, nm_IL, nm_IQ, nm_RL, nm_RQ, nm_LI, nm_LR, nm_LL, nm_LQ, nm_QI, nm_QR, nm_QL, nm_QQ, nm_rr, nm_ii, nm_eqm, not_false_eq_true, pk_sub, nm_div, nm_shl, nm_shr, nm_ush, nm_or8, nm_or64, nm_or256, nm_m1, nm_m3, nm_m7, nm_m15, nm_m31, nm_m63, nm_m255, nm_m511, nm_m1023, nm_m2047, nm_m65535, Nat.reduceMod, Nat.reducePow, Nat.reduceAdd, Nat.reduceSub, Nat.reduceMul, nm_bo, nm_bi, nm_rc, nm_ic, nm_ri, nm_rl, nm_rq, nm_ql, nm_qi, nm_li, nm_us, nm_uu, nm_cp, nm_sa31, nm_sa7, nm_m127, nm_m2, nm_nz, nm_nzk, nm_eq32, nm_nzf, if_true, if_false, ↓reduceIte, if_pos, if_neg])
    refine Eq.trans (b := df_X10_openingsFree_4 n n (nI 0) (nI 0) D) rfl (Eq.trans hm ?_)
    show df_X10_openingsFree_4 n (m + 1) _ (nI 48) D = _
    rw [show df_X10_openingsFree_4 n (m + 1) = dF_X10_openingsFree_4 n (df_X10_openingsFree_4 n m) from rfl]
    generalize df_X10_openingsFree_4 n m = G
    generalize cN (fun o => decide (sR X.1 19 o ≤ nI 0)) 48 = y
    simp (disch := (first | assumption | decide | omega)) only [dF_X10_openingsFree_4, eq_self, Nat.reduceEqDiff, Nat.reduceLeDiff, nl_0, nl_1, nl_48, no_1, no_1024, pk_mul, nI_add, nm_ck, nI_clamp, nI_ltI, nI_leI, nI_eq, nb_b2, nb_b1, ↓nb_let, nm_z0, nm_z1, nb_II, nb_IR, nb_RI, nb_RR, nm_IL, nm_IQ, nm_RL, nm_RQ, nm_LI, nm_LR, nm_LL, nm_LQ, nm_QI, nm_QR, nm_QL, nm_QQ, nm_rr, nm_ii, nm_eqm, not_false_eq_true, pk_sub, nm_div, nm_shl, nm_shr, nm_ush, nm_or8, nm_or64, nm_or256, nm_m1, nm_m3, nm_m7, nm_m15, nm_m31, nm_m63, nm_m255, nm_m511, nm_m1023, nm_m2047, nm_m65535, Nat.reduceMod, Nat.reducePow, Nat.reduceAdd, Nat.reduceSub, Nat.reduceMul, nm_bo, nm_bi, nm_rc, nm_ic, nm_ri, nm_rl, nm_rq, nm_ql, nm_qi, nm_li, nm_us, nm_uu, nm_cp, nm_sa31, nm_sa7, nm_m127, nm_m2, nm_nz, nm_nzk, nm_eq32, nm_nzf, if_true, if_false, ↓reduceIte, if_pos, if_neg]
  · obtain ⟨x1, x2, x3, x4⟩ := fN_le (fun o => decide (sR X.1 19 o ≤ nI 0)) 48 0
    constructor
    · intro e f
      have := cN_p (P := fun o => decide (sR X.1 19 o ≤ nI 0)) (x3 f) f
      omega
    · intro f
      refine cN_0 (fun i hi => x4 i (by omega) ?_)
      have f : ¬ fN (fun o => decide (sR X.1 19 o ≤ nI 0)) 0 48 < 48 := f
      omega
/-- the first free file -/
def ff (X : St × St) : Nat := fN (fun k => decide (sR X.1 24 k = nI 0)) 0 16
theorem nk_freeFile (n : Nat) (hn : 1024 < n) {D : St} {X : St × St} (h : rD (sR D 0) (sR D 1) (sR D 2) (sR D 4) (sR X.1 14) (sR X.1 19) (sR X.1 20) (sR X.1 21) (sR X.1 22) (sR X.1 23) (sR X.1 24) (sR X.1 25)) : df_X10_freeFile n D = some (cv (ff X), D) ∧ ∀ (v x5 : Int32), df_X16_open_124 n n v x5 (nI 0) X = df_X16_open_147 n v x5 (nI (ff X)) X := by
  have key : ∀ k : Nat, k < 16 → (sR X.1 24 k = nI 0 → sR D 4 (k * 3 + 2) = nI 0 ∧ sR D 4 (k * 3 + 1) = nI 0) ∧ (¬ sR X.1 24 k = nI 0 → ¬ sR D 4 (k * 3 + 2) = nI 0 ∨ (sR D 4 (k * 3 + 2) = nI 0 ∧ ¬ sR D 4 (k * 3 + 1) = nI 0)) := fun k hk => by
    obtain ⟨z1, z2, z3, z4⟩ := h.2.2.2 k hk
    have cl := cE_le (sR X.1 19) (sR X.1 20) 3 k
    rw [z1, z3, z4]
    generalize cE (sR X.1 19) (sR X.1 20) 3 k = x at cl
    rcases z2 with e | e
    · rw [e]
      by_cases d : 0 < x
      · rw [decide_eq_true (Or.inr d)]
        exact ⟨fun z => absurd z (by decide), fun _ => Or.inr ⟨rfl, nI_ne0 d (by omega)⟩⟩
      · have : x = 0 := by omega
        subst this
        rw [decide_eq_false (show ¬ ((nI 0 : Int32) = nI 1 ∨ 0 < 0) from fun y => by rcases y with y | y; exact absurd y (by decide); omega)]
        exact ⟨fun _ => ⟨rfl, rfl⟩, fun z => absurd rfl z⟩
    · rw [e, decide_eq_true (Or.inl rfl)]
      exact ⟨fun z => absurd z (by decide), fun _ => Or.inl (by decide)⟩
  obtain ⟨x1, x2, x3, x4⟩ := fN_le (fun k => decide (sR X.1 24 k = nI 0)) 16 0
  have x3' : ff X < 16 → sR X.1 24 (ff X) = nI 0 := fun z => of_decide_eq_true (x3 z)
  have x2' : ff X ≤ 16 := x2
  refine ⟨?_, fun v x5 => ?_⟩
  · obtain ⟨m, hm⟩ := nm_ls (fun m k => df_X10_freeFile_2 n m (nI k) D) (fun k => decide (sR X.1 24 k = nI 0)) 0 16 n (by omega) (fun k m h0 hk c => by
      have c := of_decide_eq_false c
      have u1 : k * 3 + 2 < 48 := by omega
      have u2 : k * 3 + 2 < 2 ^ 31 := by omega
      have u3 : k * 3 + 1 < 48 := by omega
      have u4 : k * 3 + 1 < 2 ^ 31 := by omega
      have u5 : k < 2 ^ 31 := by omega
      have k16 : ¬ 16 ≤ k := by omega
      rw [show df_X10_freeFile_2 n (m + 1) = dF_X10_freeFile_2 n (df_X10_freeFile_2 n m) from rfl]
      generalize df_X10_freeFile_2 n m = G
      rcases (key k (by omega)).2 c with z | ⟨z1, z2⟩
      · simp (disch := (first | assumption | decide | omega)) only [dF_X10_freeFile_2, df_X10_freeFile_36, k16, z, eq_self, Nat.reduceEqDiff, Nat.reduceLeDiff, nl_0, nl_1, nl_2, nl_3, nl_4, nl_16, nl_48, no_1, no_1024, pk_mul, nI_add, nm_ck, nI_clamp, nI_ltI, nI_leI, nI_eq, nb_b2, nb_b1, ↓nb_let, nm_z0, nm_z1, nb_II, nb_IR, nb_RI, nb_RR, nm_IL, nm_IQ, nm_RL, nm_RQ, nm_LI, nm_LR, nm_LL, nm_LQ, nm_QI, nm_QR, nm_QL, nm_QQ, nm_rr, nm_ii, nm_eqm, not_false_eq_true, pk_sub, nm_div, nm_shl, nm_shr, nm_ush, nm_or8, nm_or64, nm_or256, nm_m1, nm_m3, nm_m7, nm_m15, nm_m31, nm_m63, nm_m255, nm_m511, nm_m1023, nm_m2047, nm_m65535, Nat.reduceMod, Nat.reducePow, Nat.reduceAdd, Nat.reduceSub, Nat.reduceMul, nm_bo, nm_bi, nm_rc, nm_ic, nm_ri, nm_rl, nm_rq, nm_ql, nm_qi, nm_li, nm_us, nm_uu, nm_cp, nm_sa31, nm_sa7, nm_m127, nm_m2, nm_nz, nm_nzk, nm_eq32, nm_nzf, if_true, if_false, ↓reduceIte, if_pos, if_neg]
      · simp (disch := (first | assumption | decide | omega)) only [dF_X10_freeFile_2, df_X10_freeFile_36, k16, z1, z2, eq_self, Nat.reduceEqDiff, Nat.reduceLeDiff, nl_0, nl_1, nl_2, nl_3, nl_4, nl_16, nl_48, no_1, no_1024, pk_mul, nI_add, nm_ck, nI_clamp, nI_ltI, nI_leI, nI_eq, nb_b2, nb_b1, ↓nb_let, nm_z0, nm_z1, nb_II, nb_IR, nb_RI, nb_RR, nm_IL, nm_IQ, nm_RL, nm_RQ, nm_LI, nm_LR, nm_LL, nm_LQ, nm_QI, nm_QR, nm_QL, nm_QQ, nm_rr, nm_ii, nm_eqm, not_false_eq_true, pk_sub, nm_div, nm_shl, nm_shr, nm_ush, nm_or8, nm_or64, nm_or256, nm_m1, nm_m3, nm_m7, nm_m15, nm_m31, nm_m63, nm_m255, nm_m511, nm_m1023, nm_m2047, nm_m65535, Nat.reduceMod, Nat.reducePow, Nat.reduceAdd, Nat.reduceSub, Nat.reduceMul, nm_bo, nm_bi, nm_rc, nm_ic, nm_ri, nm_rl, nm_rq, nm_ql, nm_qi, nm_li, nm_us, nm_uu, nm_cp, nm_sa31, nm_sa7, nm_m127, nm_m2, nm_nz, nm_nzk, nm_eq32, nm_nzf, if_true, if_false, ↓reduceIte, if_pos, if_neg])
    refine Eq.trans (b := df_X10_freeFile_2 n n (nI 0) D) rfl (Eq.trans hm ?_)
    show df_X10_freeFile_2 n (m + 1) (nI (ff X)) D = _
    generalize ff X = k at x2' x3'
    rw [show df_X10_freeFile_2 n (m + 1) = dF_X10_freeFile_2 n (df_X10_freeFile_2 n m) from rfl]
    generalize df_X10_freeFile_2 n m = G
    have u5 : k < 2 ^ 31 := by omega
    by_cases c : k < 16
    · obtain ⟨z1, z2⟩ := (key k c).1 (x3' c)
      have u1 : k * 3 + 2 < 48 := by omega
      have u2 : k * 3 + 2 < 2 ^ 31 := by omega
      have u3 : k * 3 + 1 < 48 := by omega
      have u4 : k * 3 + 1 < 2 ^ 31 := by omega
      have k16 : ¬ 16 ≤ k := by omega
      rw [cv_0 c]
      simp (disch := (first | assumption | decide | omega)) only [dF_X10_freeFile_2, k16, z1, z2, eq_self, Nat.reduceEqDiff, Nat.reduceLeDiff, nl_0, nl_1, nl_2, nl_3, nl_4, nl_16, nl_48, no_1, no_1024, pk_mul, nI_add, nm_ck, nI_clamp, nI_ltI, nI_leI, nI_eq, nb_b2, nb_b1, ↓nb_let, nm_z0, nm_z1, nb_II, nb_IR, nb_RI, nb_RR, nm_IL, nm_IQ, nm_RL, nm_RQ, nm_LI, nm_LR, nm_LL, nm_LQ, nm_QI, nm_QR, nm_QL, nm_QQ, nm_rr, nm_ii, nm_eqm, not_false_eq_true, pk_sub, nm_div, nm_shl, nm_shr, nm_ush, nm_or8, nm_or64, nm_or256, nm_m1, nm_m3, nm_m7, nm_m15, nm_m31, nm_m63, nm_m255, nm_m511, nm_m1023, nm_m2047, nm_m65535, Nat.reduceMod, Nat.reducePow, Nat.reduceAdd, Nat.reduceSub, Nat.reduceMul, nm_bo, nm_bi, nm_rc, nm_ic, nm_ri, nm_rl, nm_rq, nm_ql, nm_qi, nm_li, nm_us, nm_uu, nm_cp, nm_sa31, nm_sa7, nm_m127, nm_m2, nm_nz, nm_nzk, nm_eq32, nm_nzf, if_true, if_false, ↓reduceIte, if_pos, if_neg]
    · have k16 : 16 ≤ k := by omega
      rw [cv_1 c]
      simp (disch := (first | assumption | decide | omega)) only [dF_X10_freeFile_2, k16, eq_self, Nat.reduceEqDiff, Nat.reduceLeDiff, nl_0, nl_1, nl_2, nl_3, nl_4, nl_16, nl_48, no_1, no_1024, pk_mul, nI_add, nm_ck, nI_clamp, nI_ltI, nI_leI, nI_eq, nb_b2, nb_b1, ↓nb_let, nm_z0, nm_z1, nb_II, nb_IR, nb_RI, nb_RR, nm_IL, nm_IQ, nm_RL, nm_RQ, nm_LI, nm_LR, nm_LL, nm_LQ, nm_QI, nm_QR, nm_QL, nm_QQ, nm_rr, nm_ii, nm_eqm, not_false_eq_true, pk_sub, nm_div, nm_shl, nm_shr, nm_ush, nm_or8, nm_or64, nm_or256, nm_m1, nm_m3, nm_m7, nm_m15, nm_m31, nm_m63, nm_m255, nm_m511, nm_m1023, nm_m2047, nm_m65535, Nat.reduceMod, Nat.reducePow, Nat.reduceAdd, Nat.reduceSub, Nat.reduceMul, nm_bo, nm_bi, nm_rc, nm_ic, nm_ri, nm_rl, nm_rq, nm_ql, nm_qi, nm_li, nm_us, nm_uu, nm_cp, nm_sa31, nm_sa7, nm_m127, nm_m2, nm_nz, nm_nzk, nm_eq32, nm_nzf, if_true, if_false, ↓reduceIte, if_pos, if_neg]
  · obtain ⟨m, hm⟩ := nm_ls (fun m k => df_X16_open_124 n m v x5 (nI k) X) (fun k => decide (sR X.1 24 k = nI 0)) 0 16 n (by omega) (fun k m h0 hk c => by
      have c : ¬ sR X.1 24 k = nI 0 := of_decide_eq_false c
      have u5 : k < 2 ^ 31 := by omega
      have u6 : k < 16 := by omega
      have k16 : ¬ 16 ≤ k := by omega
      rw [show df_X16_open_124 n (m + 1) = dF_X16_open_124 n (df_X16_open_124 n m) from rfl]
      generalize df_X16_open_124 n m = G
      simp (disch := (first | assumption | decide | omega)) only [dF_X16_open_124, k16, c, eq_self, Nat.reduceEqDiff, Nat.reduceLeDiff, nl_0, nl_1, nl_16, nl_24, no_1, no_1024, pk_mul, nI_add, nm_ck, nI_clamp, nI_ltI, nI_leI, nI_eq, nb_b2, nb_b1, ↓nb_let, nm_z0, nm_z1, nb_II, nb_IR, nb_RI, nb_RR, nm_IL, nm_IQ, nm_RL, nm_RQ, nm_LI, nm_LR, nm_LL, nm_LQ, nm_QI, nm_QR, nm_QL, nm_QQ, nm_rr, nm_ii, nm_eqm, not_false_eq_true, pk_sub, nm_div, nm_shl, nm_shr, nm_ush, nm_or8, nm_or64, nm_or256, nm_m1, nm_m3, nm_m7, nm_m15, nm_m31, nm_m63, nm_m255, nm_m511, nm_m1023, nm_m2047, nm_m65535, Nat.reduceMod, Nat.reducePow, Nat.reduceAdd, Nat.reduceSub, Nat.reduceMul, nm_bo, nm_bi, nm_rc, nm_ic, nm_ri, nm_rl, nm_rq, nm_ql, nm_qi, nm_li, nm_us, nm_uu, nm_cp, nm_sa31, nm_sa7, nm_m127, nm_m2, nm_nz, nm_nzk, nm_eq32, nm_nzf, if_true, if_false, ↓reduceIte, if_pos, if_neg])
    refine Eq.trans hm ?_
    show df_X16_open_124 n (m + 1) v x5 (nI (ff X)) X = _
    generalize ff X = k at x2' x3'
    rw [show df_X16_open_124 n (m + 1) = dF_X16_open_124 n (df_X16_open_124 n m) from rfl]
    generalize df_X16_open_124 n m = G
    have u5 : k < 2 ^ 31 := by omega
    by_cases c : k < 16
    · have z := x3' c
      have k16 : ¬ 16 ≤ k := by omega
      simp (disch := (first | assumption | decide | omega)) only [dF_X16_open_124, k16, z, eq_self, Nat.reduceEqDiff, Nat.reduceLeDiff, nl_0, nl_1, nl_16, nl_24, no_1, no_1024, pk_mul, nI_add, nm_ck, nI_clamp, nI_ltI, nI_leI, nI_eq, nb_b2, nb_b1, ↓nb_let, nm_z0, nm_z1, nb_II, nb_IR, nb_RI, nb_RR, nm_IL, nm_IQ, nm_RL, nm_RQ, nm_LI, nm_LR, nm_LL, nm_LQ, nm_QI, nm_QR, nm_QL, nm_QQ, nm_rr, nm_ii, nm_eqm, not_false_eq_true, pk_sub, nm_div, nm_shl, nm_shr, nm_ush, nm_or8, nm_or64, nm_or256, nm_m1, nm_m3, nm_m7, nm_m15, nm_m31, nm_m63, nm_m255, nm_m511, nm_m1023, nm_m2047, nm_m65535, Nat.reduceMod, Nat.reducePow, Nat.reduceAdd, Nat.reduceSub, Nat.reduceMul, nm_bo, nm_bi, nm_rc, nm_ic, nm_ri, nm_rl, nm_rq, nm_ql, nm_qi, nm_li, nm_us, nm_uu, nm_cp, nm_sa31, nm_sa7, nm_m127, nm_m2, nm_nz, nm_nzk, nm_eq32, nm_nzf, if_true, if_false, ↓reduceIte, if_pos, if_neg]
    · have k16 : 16 ≤ k := by omega
      simp (disch := (first | assumption | decide | omega)) only [dF_X16_open_124, k16, eq_self, Nat.reduceEqDiff, Nat.reduceLeDiff, nl_0, nl_1, nl_16, nl_24, no_1, no_1024, pk_mul, nI_add, nm_ck, nI_clamp, nI_ltI, nI_leI, nI_eq, nb_b2, nb_b1, ↓nb_let, nm_z0, nm_z1, nb_II, nb_IR, nb_RI, nb_RR, nm_IL, nm_IQ, nm_RL, nm_RQ, nm_LI, nm_LR, nm_LL, nm_LQ, nm_QI, nm_QR, nm_QL, nm_QQ, nm_rr, nm_ii, nm_eqm, not_false_eq_true, pk_sub, nm_div, nm_shl, nm_shr, nm_ush, nm_or8, nm_or64, nm_or256, nm_m1, nm_m3, nm_m7, nm_m15, nm_m31, nm_m63, nm_m255, nm_m511, nm_m1023, nm_m2047, nm_m65535, Nat.reduceMod, Nat.reducePow, Nat.reduceAdd, Nat.reduceSub, Nat.reduceMul, nm_bo, nm_bi, nm_rc, nm_ic, nm_ri, nm_rl, nm_rq, nm_ql, nm_qi, nm_li, nm_us, nm_uu, nm_cp, nm_sa31, nm_sa7, nm_m127, nm_m2, nm_nz, nm_nzk, nm_eq32, nm_nzf, if_true, if_false, ↓reduceIte, if_pos, if_neg]
theorem o7 : ∀ h : Fin 64, nI h.1 &&& nI 7 = nI (h.1 % 8) := by decide +kernel
/-- a file is opened: the opening and its descriptor, in both -/
theorem op_fin (n : Nat) (hn : 1024 < n) {B p : Nat} {K1 K2 : St} {M X : St × St} (h : rM B M X) (hp : p < 16) (h3 : sI X.1 12 = nI p) (h5 : sR X.1 1 p = nI 1) {t d H : Nat} (ht : t < 16) (hH : H < 64) (isf : sR X.1 24 t = nI 1) (hd : d < 16) (ed : fN (fd X p) 0 16 = d) (hf : fo X < 48) : ∃ (D' : St) (X' : St × St), df_X5_open_237 n (nI p) (nI H) (nI t) (nI d) (K1, (K2, M)) = some ((nI d).toInt64, (K1, (K2, (M.1, D')))) ∧ df_X16_open_226 n (nI H) (nI t) X = some (nI d, X') ∧ rM B (M.1, D') X' ∧ kX X X' ∧ sR X'.1 1 = sR X.1 1 := by
  obtain ⟨m1, m2, m3, m4, m5, m6, m7⟩ := h
  have o10 := nk_open10 n hn (D := M.2) m2 hf (nI 3) (nI t) (nI (H % 8))
  have o16 := nk_opening16 n hn (X := X) hf (nI 3) (nI t) (nI (H % 8))
  have h7 := o7 ⟨H, hH⟩
  have h7 : nI H &&& nI 7 = nI (H % 8) := h7
  obtain ⟨x1, x2, x3, x4⟩ := fN_le (fun o => decide (sR X.1 19 o ≤ nI 0)) 48 0
  have x3' : sR X.1 19 (fo X) ≤ nI 0 := of_decide_eq_true (x3 hf)
  obtain ⟨y1, y2, y3, y4⟩ := fN_le (fd X p) 16 0
  have free : sR X.1 14 (p * 16 + d) = -nI 1 := by
    have := y3 (by rw [ed]; omega)
    rw [ed] at this
    exact of_decide_eq_true this
  clear x1 x2 x3 x4 y1 y2 y3 y4
  generalize fo X = o at hf o10 o16 x3'
  have kd0 : sR X.1 19 o = nI 0 := (fo_le m2 hf).1.mp x3'
  obtain ⟨z1, z2, z3, z4⟩ := m2.2.2.2 t ht
  have cl := cE_le (sR X.1 19) (sR X.1 20) 3 t
  have u1 : p * 16 + d < 256 := by omega
  have ho := nk_hold3 n (D := pR M.2 1 (orw (sR M.2 1) o (nI 3) (nI t) (nI (H % 8)))) ht cl z1
  have ho : df_X10_hold n (nI 3) (nI t) (nI 1) (pR M.2 1 (orw (sR M.2 1) o (nI 3) (nI t) (nI (H % 8)))) = some (pR (pR M.2 1 (orw (sR M.2 1) o (nI 3) (nI t) (nI (H % 8)))) 4 (upd (sR M.2 4) (t * 3 + 1) (nI (cE (sR X.1 19) (sR X.1 20) 3 t + 1)))) := ho
  rw [ho, nb_b1] at o10
  have w0 : orw (sR M.2 1) o (nI 3) (nI t) (nI (H % 8)) (o * 5) = nI 3 := by
    unfold orw
    rw [nm_un (by omega), nm_un (by omega), nm_un (by omega), nm_un (by omega), nm_us]
  have w1 : orw (sR M.2 1) o (nI 3) (nI t) (nI (H % 8)) (o * 5 + 1) = nI 0 := by
    unfold orw
    rw [nm_un (by omega), nm_un (by omega), nm_un (by omega), nm_us]
  have w2 : orw (sR M.2 1) o (nI 3) (nI t) (nI (H % 8)) (o * 5 + 2) = nI t := by
    unfold orw
    rw [nm_un (by omega), nm_un (by omega), nm_us]
  have w3 : orw (sR M.2 1) o (nI 3) (nI t) (nI (H % 8)) (o * 5 + 3) = nI 0 := by
    unfold orw
    rw [nm_un (by omega), nm_us]
  have w4 : orw (sR M.2 1) o (nI 3) (nI t) (nI (H % 8)) (o * 5 + 4) = nI (H % 8) := by
    unfold orw
    rw [nm_us]
  have wo : ∀ j : Nat, j < 48 → j ≠ o → ∀ x : Nat, x < 5 → orw (sR M.2 1) o (nI 3) (nI t) (nI (H % 8)) (j * 5 + x) = sR M.2 1 (j * 5 + x) := fun j hj hne x hx => by
    unfold orw
    rw [nm_un (by omega), nm_un (by omega), nm_un (by omega), nm_un (by omega), nm_un (by omega)]
  generalize orw (sR M.2 1) o (nI 3) (nI t) (nI (H % 8)) = R at o10 w0 w1 w2 w3 w4 wo
  have lt := nk_linkTo n (D := pR (pR M.2 1 R) 4 (upd (sR M.2 4) (t * 3 + 1) (nI (cE (sR X.1 19) (sR X.1 20) 3 t + 1)))) hp hd hf (c := 0) (by omega) w1
  have lt : df_X10_linkTo n (nI p) (nI d) (nI o) (pR (pR M.2 1 R) 4 (upd (sR M.2 4) (t * 3 + 1) (nI (cE (sR X.1 19) (sR X.1 20) 3 t + 1)))) = some (dU (pR (pR M.2 1 R) 4 (upd (sR M.2 4) (t * 3 + 1) (nI (cE (sR X.1 19) (sR X.1 20) 3 t + 1)))) (upd (sR M.2 0) (p * 16 + d) (nI (o + 1))) (upd R (o * 5 + 1) (nI 1)) (sR M.2 2) (upd (sR M.2 4) (t * 3 + 1) (nI (cE (sR X.1 19) (sR X.1 20) 3 t + 1)))) := lt
  have rd := rD_open m2 (i := p * 16 + d) (o := o) (k := 3) (t := t) (r := H % 8) u1 hf (by omega) (by omega) ht (by omega) (by omega) (by omega) (by omega) free kd0 (op' := upd R (o * 5 + 1) (nI 1)) (pi' := sR M.2 2) (fi' := upd (sR M.2 4) (t * 3 + 1) (nI (cE (sR X.1 19) (sR X.1 20) 3 t + 1))) (ip' := sR X.1 23) (isf' := sR X.1 24) (nam' := sR X.1 25) (fun j hj hne x hx => by rw [nm_un (by omega)]; exact wo j hj hne x hx) ⟨by rw [nm_un (by omega)]; exact w0, nm_us, by rw [nm_un (by omega)]; exact w2, by rw [nm_un (by omega)]; exact w3, by rw [nm_un (by omega)]; exact w4⟩ (fun u s hu q1 q2 => by rw [if_neg (by omega)]) (fun u hu => by
    refine ⟨?_, by rw [nm_un (by omega)]; exact (m2.2.2.2 u hu).2.2.1, (m2.2.2.2 u hu).2.1⟩
    by_cases c : u = t
    · rw [if_pos ⟨rfl, c⟩, c, nm_us]
    · rw [if_neg (fun y => c y.2), nm_un (by omega)]) (fun u hu => by rw [if_neg (by omega)]) (fun u hu => ⟨fun y => by rw [y.2]; exact isf, fun _ => ⟨rfl, rfl⟩⟩)
  have fr := nk_freeDescriptor n hn (X := (pR (pR (pR (pR X.1 19 (upd (sR X.1 19) o (nI 3))) 20 (upd (sR X.1 20) o (nI t))) 21 (upd (sR X.1 21) o (nI 0))) 22 (upd (sR X.1 22) o (nI (H % 8))), X.2)) hp h3
  have fr : df_X16_freeDescriptor n (pR (pR (pR (pR X.1 19 (upd (sR X.1 19) o (nI 3))) 20 (upd (sR X.1 20) o (nI t))) 21 (upd (sR X.1 21) o (nI 0))) 22 (upd (sR X.1 22) o (nI (H % 8))), X.2) = some (cv (fN (fd X p) 0 16), (pR (pR (pR (pR X.1 19 (upd (sR X.1 19) o (nI 3))) 20 (upd (sR X.1 20) o (nI t))) 21 (upd (sR X.1 21) o (nI 0))) 22 (upd (sR X.1 22) o (nI (H % 8))), X.2)) := fr
  rw [ed, cv_0 hd] at fr
  have u2 : 16 * p + d = p * 16 + d := by omega
  have u3 : p * 16 + d < 2 ^ 31 := by omega
  refine ⟨dU (pR (pR M.2 1 R) 4 (upd (sR M.2 4) (t * 3 + 1) (nI (cE (sR X.1 19) (sR X.1 20) 3 t + 1)))) (upd (sR M.2 0) (p * 16 + d) (nI (o + 1))) (upd R (o * 5 + 1) (nI 1)) (sR M.2 2) (upd (sR M.2 4) (t * 3 + 1) (nI (cE (sR X.1 19) (sR X.1 20) 3 t + 1))), (pR (pR (pR (pR (pR X.1 19 (upd (sR X.1 19) o (nI 3))) 20 (upd (sR X.1 20) o (nI t))) 21 (upd (sR X.1 21) o (nI 0))) 22 (upd (sR X.1 22) o (nI (H % 8)))) 14 (upd (sR X.1 14) (p * 16 + d) (nI o)), X.2), ?_, ?_, ⟨m1, rd, rP_all m3 (p := p) ?_ (fun r hr => ⟨⟨fun _ _ => rfl, fun _ _ => rfl, fun _ _ => rfl, fun _ _ => rfl, rfl⟩, ⟨⟨rfl, rfl, rfl, rfl, rfl, rfl, rfl, rfl⟩, fun _ _ => rfl, rfl, fun _ _ => rfl, rfl, fun _ _ => rfl, fun i hi => nm_un (by omega), fun _ _ => Iff.rfl, rfl⟩⟩), m4, m5, m6, ?_⟩, ⟨rfl, rfl, rfl, rfl, rfl, rfl, rfl⟩, rfl⟩
  · unfold df_X5_open_237
    rw [show (3 : Int32) = nI 3 from rfl, show (7 : Int32) = nI 7 from rfl, h7]
    show nd_b2 (df_X10_open n (nI 3) (nI t) (nI (H % 8)) M.2) _ = _
    rw [o10, nb_b2]
    simp only [nb_let]
    rw [lt, nb_b1]
  · unfold df_X16_open_226
    rw [show (3 : Int32) = nI 3 from rfl, show (7 : Int32) = nI 7 from rfl, h7, o16, nb_b2]
    unfold df_X16_give df_X16_give_0
    rw [fr, nb_b2]
    have e12 : sI (pR (pR (pR (pR X.1 19 (upd (sR X.1 19) o (nI 3))) 20 (upd (sR X.1 20) o (nI t))) 21 (upd (sR X.1 21) o (nI 0))) 22 (upd (sR X.1 22) o (nI (H % 8)))) 12 = nI p := h3
    have e14 : sR (pR (pR (pR (pR X.1 19 (upd (sR X.1 19) o (nI 3))) 20 (upd (sR X.1 20) o (nI t))) 21 (upd (sR X.1 21) o (nI 0))) 22 (upd (sR X.1 22) o (nI (H % 8)))) 14 = sR X.1 14 := rfl
    generalize pR (pR (pR (pR X.1 19 (upd (sR X.1 19) o (nI 3))) 20 (upd (sR X.1 20) o (nI t))) 21 (upd (sR X.1 21) o (nI 0))) 22 (upd (sR X.1 22) o (nI (H % 8))) = T at e12 e14
    simp (disch := (first | assumption | decide | omega)) only [df_X16_give_0, e12, e14, u2, eq_self, Nat.reduceEqDiff, Nat.reduceLeDiff, nl_12, nl_14, nl_16, nl_256, no_1, no_1024, pk_mul, nI_add, nm_ck, nI_clamp, nI_ltI, nI_leI, nI_eq, nb_b2, nb_b1, ↓nb_let, nm_z0, nm_z1, nb_II, nb_IR, nb_RI, nb_RR, nm_IL, nm_IQ, nm_RL, nm_RQ, nm_LI, nm_LR, nm_LL, nm_LQ, nm_QI, nm_QR, nm_QL, nm_QQ, nm_rr, nm_ii, nm_eqm, not_false_eq_true, pk_sub, nm_div, nm_shl, nm_shr, nm_ush, nm_or8, nm_or64, nm_or256, nm_m1, nm_m3, nm_m7, nm_m15, nm_m31, nm_m63, nm_m255, nm_m511, nm_m1023, nm_m2047, nm_m65535, Nat.reduceMod, Nat.reducePow, Nat.reduceAdd, Nat.reduceSub, Nat.reduceMul, nm_bo, nm_bi, nm_rc, nm_ic, nm_ri, nm_rl, nm_rq, nm_ql, nm_qi, nm_li, nm_us, nm_uu, nm_cp, nm_sa31, nm_sa7, nm_m127, nm_m2, nm_nz, nm_nzk, nm_eq32, nm_nzf, if_true, if_false, ↓reduceIte, if_pos, if_neg]
  · obtain ⟨t, c', w, b', e, ht, hc', hw, hb, he, a1, a2, a3, a4, a5, a6, a7, a8, a9, a10, a11, a12, a13, a14, a15, a16, a17, a18, a19, a20, a21⟩ := m3 p hp
    have t1 : t = 1 := nm_inI (by omega) (by omega) (a2.symm.trans h5)
    exact ⟨t, c', w, b', e, ht, hc', hw, hb, he, a1, a2, a3, a4, a5, a6, a7, a8, a9, a10, a11, a12, a13, a14, a15, a16, a17, a18, fun z => by omega, fun z => by omega, a21⟩
  · obtain ⟨t1, t2, t3⟩ := m7
    refine ⟨t1, fun k hk e => ?_, t3⟩
    show ∃ L : Nat, L ≤ 512 ∧ upd (sR M.2 4) (t * 3 + 1) _ (k * 3) = nI L ∧ _
    rw [nm_un (by omega)]
    exact t2 k hk e

/-- a file is made empty -/
theorem rM_empty {B : Nat} {M X : St × St} (h : rM B M X) {k : Nat} (hk : k < 16) : rM B (M.1, pR M.2 4 (upd (sR M.2 4) (k * 3) (nI 0))) (pR X.1 28 (upd (sR X.1 28) k (nI 0)), X.2) := by
  obtain ⟨m1, m2, m3, m4, m5, m6, m7⟩ := h
  refine ⟨m1, ?_, m3, m4, m5, m6, ?_⟩
  · exact rD_nam m2 (fun j hj => ⟨nm_un (by omega), (nm_un (by omega)).trans (m2.2.2.2 j hj).2.2.1, (m2.2.2.2 j hj).2.1, (m2.2.2.2 j hj).2.2.2⟩)
  · obtain ⟨t1, t2, t3⟩ := m7
    refine ⟨t1, fun j hj e => ?_, t3⟩
    show ∃ L : Nat, L ≤ 512 ∧ upd (sR M.2 4) (k * 3) (nI 0) (j * 3) = nI L ∧ upd (sR X.1 28) k (nI 0) j = nI L ∧ _
    by_cases c : j = k
    · rw [c, nm_us, nm_us]
      exact ⟨0, by omega, rfl, rfl, fun i hi => by omega⟩
    · rw [nm_un (by omega), nm_un c]
      exact t2 j hj e
/-- a file is made -/
theorem rM_new {B : Nat} {M X : St × St} (h : rM B M X) {k : Nat} (hk : k < 16) (hf : sR X.1 24 k = nI 0) {f g : Nat → Int32} (e3 : ∀ i : Nat, i < 16 → b8 (f i) (g i)) : rM B (M.1, pR (pR M.2 4 (upd (upd (sR M.2 4) (k * 3 + 2) (nI 1)) (k * 3) (nI 0))) 6 (va_cpy f (sR M.2 6) 0 (k * 16) 16)) (pR (pR (pR (pR X.1 24 (upd (sR X.1 24) k (nI 1))) 28 (upd (sR X.1 28) k (nI 0))) 30 (va_cpy g (sR X.1 30) 0 (16 * k) 16)) 25 (upd (sR X.1 25) k (nI 1)), X.2) := by
  obtain ⟨m1, m2, m3, m4, m5, m6, m7⟩ := h
  refine ⟨m1, ?_, m3, m4, m5, ⟨m6.1, m6.2.1, m6.2.2.1, fun i hi => fb_va (fun j hj => b8_fit (e3 j hj)) (m6.2.2.2.1 i hi), m6.2.2.2.2⟩, ?_⟩
  · have r := rD_nam m2 (fi' := upd (upd (sR M.2 4) (k * 3 + 2) (nI 1)) (k * 3) (nI 0)) (isf' := upd (sR X.1 24) k (nI 1)) (nam' := upd (sR X.1 25) k (nI 1)) (fun j hj => by
      refine ⟨by rw [nm_un (by omega), nm_un (by omega)], ?_, ?_, ?_⟩
      · rw [nm_un (by omega)]
        by_cases c : j = k
        · rw [c, nm_us, nm_us]
        · rw [nm_un (by omega), nm_un c]
          exact (m2.2.2.2 j hj).2.2.1
      · by_cases c : j = k
        · rw [c, nm_us]; exact Or.inr rfl
        · rw [nm_un c]; exact (m2.2.2.2 j hj).2.1
      · by_cases c : j = k
        · rw [c, nm_us, nm_us, decide_eq_true (Or.inl rfl)]; rfl
        · rw [nm_un c, nm_un c]; exact (m2.2.2.2 j hj).2.2.2)
    exact r
  · obtain ⟨t1, t2, t3, t4⟩ := m7
    refine ⟨t1, fun j hj e => ?_, fun j hj e i hi => ?_, t4⟩
    · have e : upd (sR X.1 24) k (nI 1) j = nI 1 := e
      show ∃ L : Nat, L ≤ 512 ∧ upd (upd (sR M.2 4) (k * 3 + 2) (nI 1)) (k * 3) (nI 0) (j * 3) = nI L ∧ upd (sR X.1 28) k (nI 0) j = nI L ∧ _
      by_cases c : j = k
      · rw [c, nm_us, nm_us]
        exact ⟨0, by omega, rfl, rfl, fun i hi => by omega⟩
      · rw [nm_un c] at e
        rw [nm_un (by omega), nm_un (by omega), nm_un c]
        exact t2 j hj e
    · have e : upd (sR X.1 25) k (nI 1) j = nI 1 := e
      show b8 (va_cpy f (sR M.2 6) 0 (k * 16) 16 (j * 16 + i)) (va_cpy g (sR X.1 30) 0 (16 * k) 16 (16 * j + i))
      by_cases c : j = k
      · rw [c, va_i (by omega), va_i (by omega), show 0 + (k * 16 + i - k * 16) = i by omega, show 0 + (16 * k + i - 16 * k) = i by omega]
        exact e3 i hi
      · rw [nm_un c] at e
        rw [va_o (by omega), va_o (by omega)]
        exact t3 j hj e i hi
theorem c216 (n : Nat) {K : St × (St × (St × St))} {p H t d : Nat} (ht : t < 16) (x8 : Int32) : df_X5_open_216 n (nI p) (nI H) (nI t) (nI d) x8 K = if x8 = nI 0 ∧ nI H &&& nI 32 = nI 0 then df_X5_open_237 n (nI p) (nI H) (nI t) (nI d) K else df_X5_open_237 n (nI p) (nI H) (nI t) (nI d) (K.1, (K.2.1, (K.2.2.1, pR K.2.2.2 4 (upd (sR K.2.2.2 4) (t * 3) (nI 0))))) := by
  have u1 : t * 3 < 48 := by omega
  have u2 : t * 3 < 2 ^ 31 := by omega
  generalize nI H = v
  by_cases a : x8 = nI 0
  · by_cases b : v &&& nI 32 = nI 0
    · rw [if_pos ⟨a, b⟩]
      simp (disch := (first | assumption | decide | omega)) only [df_X5_open_216, a, b, eq_self, Nat.reduceEqDiff, Nat.reduceLeDiff, nl_0, nl_32, no_1, no_1024, pk_mul, nI_add, nm_ck, nI_clamp, nI_ltI, nI_leI, nI_eq, nb_b2, nb_b1, ↓nb_let, nm_z0, nm_z1, nb_II, nb_IR, nb_RI, nb_RR, nm_IL, nm_IQ, nm_RL, nm_RQ, nm_LI, nm_LR, nm_LL, nm_LQ, nm_QI, nm_QR, nm_QL, nm_QQ, nm_rr, nm_ii, nm_eqm, not_false_eq_true, pk_sub, nm_div, nm_shl, nm_shr, nm_ush, nm_or8, nm_or64, nm_or256, nm_m1, nm_m3, nm_m7, nm_m15, nm_m31, nm_m63, nm_m255, nm_m511, nm_m1023, nm_m2047, nm_m65535, Nat.reduceMod, Nat.reducePow, Nat.reduceAdd, Nat.reduceSub, Nat.reduceMul, nm_bo, nm_bi, nm_rc, nm_ic, nm_ri, nm_rl, nm_rq, nm_ql, nm_qi, nm_li, nm_us, nm_uu, nm_cp, nm_sa31, nm_sa7, nm_m127, nm_m2, nm_nz, nm_nzk, nm_eq32, nm_nzf, if_true, if_false, ↓reduceIte, if_pos, if_neg]
    · rw [if_neg (fun z => b z.2)]
      simp (disch := (first | assumption | decide | omega)) only [df_X5_open_216, df_X5_open_228, df_X10_emptyFile_0, df_X10_emptyFile, a, b, Nat.add_zero, eq_self, Nat.reduceEqDiff, Nat.reduceLeDiff, nl_0, nl_3, nl_4, nl_32, nl_48, no_1, no_1024, pk_mul, nI_add, nm_ck, nI_clamp, nI_ltI, nI_leI, nI_eq, nb_b2, nb_b1, ↓nb_let, nm_z0, nm_z1, nb_II, nb_IR, nb_RI, nb_RR, nm_IL, nm_IQ, nm_RL, nm_RQ, nm_LI, nm_LR, nm_LL, nm_LQ, nm_QI, nm_QR, nm_QL, nm_QQ, nm_rr, nm_ii, nm_eqm, not_false_eq_true, pk_sub, nm_div, nm_shl, nm_shr, nm_ush, nm_or8, nm_or64, nm_or256, nm_m1, nm_m3, nm_m7, nm_m15, nm_m31, nm_m63, nm_m255, nm_m511, nm_m1023, nm_m2047, nm_m65535, Nat.reduceMod, Nat.reducePow, Nat.reduceAdd, Nat.reduceSub, Nat.reduceMul, nm_bo, nm_bi, nm_rc, nm_ic, nm_ri, nm_rl, nm_rq, nm_ql, nm_qi, nm_li, nm_us, nm_uu, nm_cp, nm_sa31, nm_sa7, nm_m127, nm_m2, nm_nz, nm_nzk, nm_eq32, nm_nzf, if_true, if_false, ↓reduceIte, if_pos, if_neg]
  · rw [if_neg (fun z => a z.1)]
    simp (disch := (first | assumption | decide | omega)) only [df_X5_open_216, df_X5_open_228, df_X10_emptyFile_0, df_X10_emptyFile, a, Nat.add_zero, eq_self, Nat.reduceEqDiff, Nat.reduceLeDiff, nl_0, nl_3, nl_4, nl_32, nl_48, no_1, no_1024, pk_mul, nI_add, nm_ck, nI_clamp, nI_ltI, nI_leI, nI_eq, nb_b2, nb_b1, ↓nb_let, nm_z0, nm_z1, nb_II, nb_IR, nb_RI, nb_RR, nm_IL, nm_IQ, nm_RL, nm_RQ, nm_LI, nm_LR, nm_LL, nm_LQ, nm_QI, nm_QR, nm_QL, nm_QQ, nm_rr, nm_ii, nm_eqm, not_false_eq_true, pk_sub, nm_div, nm_shl, nm_shr, nm_ush, nm_or8, nm_or64, nm_or256, nm_m1, nm_m3, nm_m7, nm_m15, nm_m31, nm_m63, nm_m255, nm_m511, nm_m1023, nm_m2047, nm_m65535, Nat.reduceMod, Nat.reducePow, Nat.reduceAdd, Nat.reduceSub, Nat.reduceMul, nm_bo, nm_bi, nm_rc, nm_ic, nm_ri, nm_rl, nm_rq, nm_ql, nm_qi, nm_li, nm_us, nm_uu, nm_cp, nm_sa31, nm_sa7, nm_m127, nm_m2, nm_nz, nm_nzk, nm_eq32, nm_nzf, if_true, if_false, ↓reduceIte, if_pos, if_neg]
theorem r211 (n : Nat) {X : St × St} {H t : Nat} (ht : t < 16) (hH : H < 64) : df_X16_open_211 n (nI H) (nI t) X = if nI H &&& nI 32 = nI 0 then df_X16_open_226 n (nI H) (nI t) X else df_X16_open_226 n (nI H) (nI t) (pR X.1 28 (upd (sR X.1 28) t (nI 0)), X.2) := by
  have u2 : t < 2 ^ 31 := by omega
  obtain ⟨_, _, _, _, b32⟩ := ob_le ⟨H, hH⟩
  have b32 : nI H &&& nI 32 ≤ nI 0 ↔ nI H &&& nI 32 = nI 0 := b32
  generalize nI H = v at b32
  by_cases b : v &&& nI 32 = nI 0
  · have b' := b32.mpr b
    rw [if_pos b]
    simp (disch := (first | assumption | decide | omega)) only [df_X16_open_211, b', eq_self, Nat.reduceEqDiff, Nat.reduceLeDiff, nl_0, nl_16, nl_28, nl_32, no_1, no_1024, pk_mul, nI_add, nm_ck, nI_clamp, nI_ltI, nI_leI, nI_eq, nb_b2, nb_b1, ↓nb_let, nm_z0, nm_z1, nb_II, nb_IR, nb_RI, nb_RR, nm_IL, nm_IQ, nm_RL, nm_RQ, nm_LI, nm_LR, nm_LL, nm_LQ, nm_QI, nm_QR, nm_QL, nm_QQ, nm_rr, nm_ii, nm_eqm, not_false_eq_true, pk_sub, nm_div, nm_shl, nm_shr, nm_ush, nm_or8, nm_or64, nm_or256, nm_m1, nm_m3, nm_m7, nm_m15, nm_m31, nm_m63, nm_m255, nm_m511, nm_m1023, nm_m2047, nm_m65535, Nat.reduceMod, Nat.reducePow, Nat.reduceAdd, Nat.reduceSub, Nat.reduceMul, nm_bo, nm_bi, nm_rc, nm_ic, nm_ri, nm_rl, nm_rq, nm_ql, nm_qi, nm_li, nm_us, nm_uu, nm_cp, nm_sa31, nm_sa7, nm_m127, nm_m2, nm_nz, nm_nzk, nm_eq32, nm_nzf, if_true, if_false, ↓reduceIte, if_pos, if_neg]
  · have b' : ¬ v &&& nI 32 ≤ nI 0 := fun z => b (b32.mp z)
    rw [if_neg b]
    simp (disch := (first | assumption | decide | omega)) only [df_X16_open_211, b', eq_self, Nat.reduceEqDiff, Nat.reduceLeDiff, nl_0, nl_16, nl_28, nl_32, no_1, no_1024, pk_mul, nI_add, nm_ck, nI_clamp, nI_ltI, nI_leI, nI_eq, nb_b2, nb_b1, ↓nb_let, nm_z0, nm_z1, nb_II, nb_IR, nb_RI, nb_RR, nm_IL, nm_IQ, nm_RL, nm_RQ, nm_LI, nm_LR, nm_LL, nm_LQ, nm_QI, nm_QR, nm_QL, nm_QQ, nm_rr, nm_ii, nm_eqm, not_false_eq_true, pk_sub, nm_div, nm_shl, nm_shr, nm_ush, nm_or8, nm_or64, nm_or256, nm_m1, nm_m3, nm_m7, nm_m15, nm_m31, nm_m63, nm_m255, nm_m511, nm_m1023, nm_m2047, nm_m65535, Nat.reduceMod, Nat.reducePow, Nat.reduceAdd, Nat.reduceSub, Nat.reduceMul, nm_bo, nm_bi, nm_rc, nm_ic, nm_ri, nm_rl, nm_rq, nm_ql, nm_qi, nm_li, nm_us, nm_uu, nm_cp, nm_sa31, nm_sa7, nm_m127, nm_m2, nm_nz, nm_nzk, nm_eq32, nm_nzf, if_true, if_false, ↓reduceIte, if_pos, if_neg]
/-- the kernel's call 'open' -/
theorem nq_open (n : Nat) (hn : 1024 < n) {B p : Nat} {K : St × (St × (St × St))} {X : St × St} (h : cP B p K X) (a v : Int32) : cO B p K X (df_X5_open n (nI p) a v K) (df_X16_open n a v X) := by
  by_cases g : good v
  · obtain ⟨H, hH, eH, oR⟩ := (op_R n a v X).1 g
    have oC := (op_C n (nI p) a v K).1 g
    rw [oC, oR]
    clear oC oR g
    subst eH
    obtain ⟨h1, h2, h3, h4, h5, h6, h7⟩ := h
    obtain ⟨w, f, g, e1, e2, e3, e4⟩ := nk_namet1 n hn h1.1 h2 h3 a (K1 := K.1) (K2 := K.2.1)
    have e1 : df_X5_readName_t1 n (nI p) a K = some (w, (pR K.1 0 f, K.2)) := e1
    have hY : rM B K.2.2 (pR X.1 33 g, X.2) := h1
    have kY : kX X (pR X.1 33 g, X.2) := ⟨rfl, rfl, rfl, rfl, rfl, rfl, rfl⟩
    have y3 : sI (pR X.1 33 g, X.2).1 12 = nI p := h3
    have y5 : sR (pR X.1 33 g, X.2).1 1 p = nI 1 := h5
    have y33 : sR (pR X.1 33 g, X.2).1 33 = g := rfl
    generalize (pR X.1 33 g, X.2) = Y at e2 hY kY y3 y5 y33
    have hb : ∀ i : Nat, i < 16 → b8 (sR (pR nd_st0 0 f) 0 i) (sR Y.1 33 i) := fun i hi => by rw [y33]; exact e3 i hi
    obtain ⟨q1, q2⟩ := nk_named n hn (E := pR nd_st0 0 f) hY.2.1 hY.2.2.2.2.2.2 hb
    have q1 : df_X10_fileNamed n (pR nd_st0 0 f, K.2.2.2) = some (cv (fnm Y (sR Y.1 33)), (pR nd_st0 0 f, K.2.2.2)) := q1
    have x2 := (fN_le (fun k => decide (sR Y.1 25 k = nI 1 ∧ eqF (fun i => sR Y.1 30 (16 * k + i)) (sR Y.1 33) = 16)) 16 0)
    have x3 : fnm Y (sR Y.1 33) < 16 → sR Y.1 25 (fnm Y (sR Y.1 33)) = nI 1 := fun z => (of_decide_eq_true (x2.2.2.1 z)).1
    clear x2
    generalize fnm Y (sR Y.1 33) = k at q1 q2 x3
    obtain ⟨k1, k2, k3, k4, k5, k6, k7⟩ := id kY
    have post : ∀ (w64 : Int64) (w : Int32) (D' : St) (X' : St × St), w64 = w.toInt64 → rM B (K.2.2.1, D') X' → kX Y X' → sR X'.1 1 = sR Y.1 1 → cO B p K X (some (w64, (pR K.1 0 f, (K.2.1, (K.2.2.1, D'))))) (some (w, X')) := fun w64 w D' X' ew r kk es => by
      obtain ⟨j1, j2, j3, j4, j5, j6, j7⟩ := kX_t kY kk
      exact ⟨w64, w, pR K.1 0 f, (K.2.2.1, D'), X', rfl, rfl, r, fun _ => rfl, Or.inl ⟨j4.trans h4, ew⟩, ⟨j1, j2, j3, j5, j6⟩, Or.inl ⟨h6, j7.trans h7⟩, fun _ => by rw [es]; exact y5, fun z => absurd ((j4.trans h4).symm.trans z) (by decide)⟩
    have same : ∀ w : Int32, cO B p K X (some (w.toInt64, (pR K.1 0 f, K.2))) (some (w, Y)) := fun w => post _ w K.2.2.2 Y rfl hY (kX_r Y) rfl
    have full : cO B p K X (some (-4, (pR K.1 0 f, K.2))) (some (-nI 4, Y)) := post _ (-nI 4) K.2.2.2 Y (by decide) hY (kX_r Y) rfl
    by_cases w0 : w = nI 0
    · subst w0
      -- what both look for
      have fl := nk_freeLink n hn (D := K.2.2.2) (X := Y) hY.2.1.1 h2 (show 0 ≤ 16 by omega)
      have fl : df_X10_freeLink n (nI p) (nI 0) K.2.2.2 = some (cv (fN (fd Y p) 0 16), K.2.2.2) := fl
      have fr := nk_freeDescriptor n hn h2 y3
      obtain ⟨x, hx, ox, ox0⟩ := nk_openingsFree n hn (D := K.2.2.2) hY.2.1
      have f48 := nk_free48 n hn (X := Y)
      obtain ⟨fC, fR⟩ := nk_freeFile n hn (D := K.2.2.2) hY.2.1
      have ffl := fN_le (fun k => decide (sR Y.1 24 k = nI 0)) 16 0
      have ff3 : ff Y < 16 → sR Y.1 24 (ff Y) = nI 0 := fun z => of_decide_eq_true (ffl.2.2.1 z)
      have ff2 : ff Y ≤ 16 := ffl.2.1
      clear ffl
      have fin := fun (M : St × St) (X0 : St × St) (t : Nat) => op_fin n hn (B := B) (p := p) (K1 := pR K.1 0 f) (K2 := K.2.1) (M := M) (X := X0) (t := t) (d := fN (fd Y p) 0 16) (H := H)
      obtain ⟨_, _, _, b16, _⟩ := ob_le ⟨H, hH⟩
      have b16 : nI H &&& nI 16 ≤ nI 0 ↔ nI H &&& nI 16 = nI 0 := b16
      have edd : fN (fd Y p) 0 16 = fN (fd Y p) 0 16 := rfl
      generalize hdd : fN (fd Y p) 0 16 = d at fl fr fin
      have z0 : ¬ (nI 0 : Int32) ≤ -nI 1 := by decide
      have x31 : x < 2 ^ 31 := by omega
      by_cases k16 : k < 16
      · -- the file is there
        rw [cv_0 k16] at q1 q2
        have u0 : 0 ≤ k := by omega
        have u1 : k < 2 ^ 31 := by omega
        have u2 : ¬ k < 0 := by omega
        have isf := rD_n1 hY.2.1 k16 (x3 k16)
        have c1 : df_X5_open_71 n (nI p) a (nI H) K = df_X5_open_121 n (nI p) (nI H) (nI k) (pR K.1 0 f, K.2) := by
          clear fin
          generalize nI H = v
          simp (disch := (first | assumption | decide | omega)) only [df_X5_open_71, e1, q1, u0, eq_self, Nat.reduceEqDiff, Nat.reduceLeDiff, nl_0, nl_2, nl_8, no_1, no_1024, pk_mul, nI_add, nm_ck, nI_clamp, nI_ltI, nI_leI, nI_eq, nb_b2, nb_b1, ↓nb_let, nm_z0, nm_z1, nb_II, nb_IR, nb_RI, nb_RR, nm_IL, nm_IQ, nm_RL, nm_RQ, nm_LI, nm_LR, nm_LL, nm_LQ, nm_QI, nm_QR, nm_QL, nm_QQ, nm_rr, nm_ii, nm_eqm, not_false_eq_true, pk_sub, nm_div, nm_shl, nm_shr, nm_ush, nm_or8, nm_or64, nm_or256, nm_m1, nm_m3, nm_m7, nm_m15, nm_m31, nm_m63, nm_m255, nm_m511, nm_m1023, nm_m2047, nm_m65535, Nat.reduceMod, Nat.reducePow, Nat.reduceAdd, Nat.reduceSub, Nat.reduceMul, nm_bo, nm_bi, nm_rc, nm_ic, nm_ri, nm_rl, nm_rq, nm_ql, nm_qi, nm_li, nm_us, nm_uu, nm_cp, nm_sa31, nm_sa7, nm_m127, nm_m2, nm_nz, nm_nzk, nm_eq32, nm_nzf, if_true, if_false, ↓reduceIte, if_pos, if_neg]
        have c2 : df_X16_open_60 n a (nI H) (nI 1) X = df_X16_open_105 n (nI H) (nI k) Y := by
          clear fin
          generalize nI H = v
          simp (disch := (first | assumption | decide | omega)) only [df_X16_open_60, e2, q2, eq_self, Nat.reduceEqDiff, Nat.reduceLeDiff, nl_0, nl_1, nl_2, nl_8, nl_22, no_1, no_1024, pk_mul, nI_add, nm_ck, nI_clamp, nI_ltI, nI_leI, nI_eq, nb_b2, nb_b1, ↓nb_let, nm_z0, nm_z1, nb_II, nb_IR, nb_RI, nb_RR, nm_IL, nm_IQ, nm_RL, nm_RQ, nm_LI, nm_LR, nm_LL, nm_LQ, nm_QI, nm_QR, nm_QL, nm_QQ, nm_rr, nm_ii, nm_eqm, not_false_eq_true, pk_sub, nm_div, nm_shl, nm_shr, nm_ush, nm_or8, nm_or64, nm_or256, nm_m1, nm_m3, nm_m7, nm_m15, nm_m31, nm_m63, nm_m255, nm_m511, nm_m1023, nm_m2047, nm_m65535, Nat.reduceMod, Nat.reducePow, Nat.reduceAdd, Nat.reduceSub, Nat.reduceMul, nm_bo, nm_bi, nm_rc, nm_ic, nm_ri, nm_rl, nm_rq, nm_ql, nm_qi, nm_li, nm_us, nm_uu, nm_cp, nm_sa31, nm_sa7, nm_m127, nm_m2, nm_nz, nm_nzk, nm_eq32, nm_nzf, if_true, if_false, ↓reduceIte, if_pos, if_neg]
        rw [c1, c2]
        by_cases p16 : nI H &&& nI 16 = nI 0
        · have p16' := b16.mpr p16
          have c3 : df_X5_open_121 n (nI p) (nI H) (nI k) (pR K.1 0 f, K.2) = df_X5_open_174 n (nI p) (nI H) (nI k) (cv d) (nI 0) (pR K.1 0 f, K.2) := by
            clear fin
            generalize nI H = v at p16
            generalize cv d = cd at fl
            simp (disch := (first | assumption | decide | omega)) only [df_X5_open_121, df_X5_open_137, df_X5_open_158, u2, p16, fl, u0, eq_self, Nat.reduceEqDiff, Nat.reduceLeDiff, nl_0, nl_1, nl_3, nl_16, no_1, no_1024, pk_mul, nI_add, nm_ck, nI_clamp, nI_ltI, nI_leI, nI_eq, nb_b2, nb_b1, ↓nb_let, nm_z0, nm_z1, nb_II, nb_IR, nb_RI, nb_RR, nm_IL, nm_IQ, nm_RL, nm_RQ, nm_LI, nm_LR, nm_LL, nm_LQ, nm_QI, nm_QR, nm_QL, nm_QQ, nm_rr, nm_ii, nm_eqm, not_false_eq_true, pk_sub, nm_div, nm_shl, nm_shr, nm_ush, nm_or8, nm_or64, nm_or256, nm_m1, nm_m3, nm_m7, nm_m15, nm_m31, nm_m63, nm_m255, nm_m511, nm_m1023, nm_m2047, nm_m65535, Nat.reduceMod, Nat.reducePow, Nat.reduceAdd, Nat.reduceSub, Nat.reduceMul, nm_bo, nm_bi, nm_rc, nm_ic, nm_ri, nm_rl, nm_rq, nm_ql, nm_qi, nm_li, nm_us, nm_uu, nm_cp, nm_sa31, nm_sa7, nm_m127, nm_m2, nm_nz, nm_nzk, nm_eq32, nm_nzf, if_true, if_false, ↓reduceIte, if_pos, if_neg]
          have c4 : df_X16_open_105 n (nI H) (nI k) Y = df_X16_open_147 n (nI H) (nI k) (nI (ff Y)) Y := by
            clear fin
            rw [← fR]
            generalize nI H = v at p16'
            simp (disch := (first | assumption | decide | omega)) only [df_X16_open_105, df_X16_open_121, p16', eq_self, Nat.reduceEqDiff, Nat.reduceLeDiff, nl_0, nl_1, nl_3, nl_16, no_1, no_1024, pk_mul, nI_add, nm_ck, nI_clamp, nI_ltI, nI_leI, nI_eq, nb_b2, nb_b1, ↓nb_let, nm_z0, nm_z1, nb_II, nb_IR, nb_RI, nb_RR, nm_IL, nm_IQ, nm_RL, nm_RQ, nm_LI, nm_LR, nm_LL, nm_LQ, nm_QI, nm_QR, nm_QL, nm_QQ, nm_rr, nm_ii, nm_eqm, not_false_eq_true, pk_sub, nm_div, nm_shl, nm_shr, nm_ush, nm_or8, nm_or64, nm_or256, nm_m1, nm_m3, nm_m7, nm_m15, nm_m31, nm_m63, nm_m255, nm_m511, nm_m1023, nm_m2047, nm_m65535, Nat.reduceMod, Nat.reducePow, Nat.reduceAdd, Nat.reduceSub, Nat.reduceMul, nm_bo, nm_bi, nm_rc, nm_ic, nm_ri, nm_rl, nm_rq, nm_ql, nm_qi, nm_li, nm_us, nm_uu, nm_cp, nm_sa31, nm_sa7, nm_m127, nm_m2, nm_nz, nm_nzk, nm_eq32, nm_nzf, if_true, if_false, ↓reduceIte, if_pos, if_neg]
          rw [c3, c4]
          by_cases d16 : d < 16
          · rw [cv_0 d16] at fr ⊢
            have v1 : ¬ d < 0 := by omega
            have v2 : d < 2 ^ 31 := by omega
            by_cases o48 : fo Y < 48
            · rw [if_pos o48] at f48
              have x0 : ¬ x = 0 := fun z => (ox0.mp z) o48
              have c5 : df_X5_open_174 n (nI p) (nI H) (nI k) (nI d) (nI 0) (pR K.1 0 f, K.2) = df_X5_open_216 n (nI p) (nI H) (nI k) (nI d) (nI 0) (pR K.1 0 f, K.2) := by
                clear fin
                generalize nI H = v
                simp (disch := (first | assumption | decide | omega)) only [df_X5_open_174, v1, u2, ox, x0, eq_self, Nat.reduceEqDiff, Nat.reduceLeDiff, nl_0, no_1, no_1024, pk_mul, nI_add, nm_ck, nI_clamp, nI_ltI, nI_leI, nI_eq, nb_b2, nb_b1, ↓nb_let, nm_z0, nm_z1, nb_II, nb_IR, nb_RI, nb_RR, nm_IL, nm_IQ, nm_RL, nm_RQ, nm_LI, nm_LR, nm_LL, nm_LQ, nm_QI, nm_QR, nm_QL, nm_QQ, nm_rr, nm_ii, nm_eqm, not_false_eq_true, pk_sub, nm_div, nm_shl, nm_shr, nm_ush, nm_or8, nm_or64, nm_or256, nm_m1, nm_m3, nm_m7, nm_m15, nm_m31, nm_m63, nm_m255, nm_m511, nm_m1023, nm_m2047, nm_m65535, Nat.reduceMod, Nat.reducePow, Nat.reduceAdd, Nat.reduceSub, Nat.reduceMul, nm_bo, nm_bi, nm_rc, nm_ic, nm_ri, nm_rl, nm_rq, nm_ql, nm_qi, nm_li, nm_us, nm_uu, nm_cp, nm_sa31, nm_sa7, nm_m127, nm_m2, nm_nz, nm_nzk, nm_eq32, nm_nzf, if_true, if_false, ↓reduceIte, if_pos, if_neg]
              have v3 : fo Y < 2 ^ 31 := by omega
              have c6 : df_X16_open_147 n (nI H) (nI k) (nI (ff Y)) Y = df_X16_open_211 n (nI H) (nI k) Y := by
                clear fin
                generalize nI H = v
                generalize nI (ff Y) = fy
                generalize fo Y = oy at f48 v3
                simp (disch := (first | assumption | decide | omega)) only [df_X16_open_147, df_X16_open_179, fr, f48, eq_self, Nat.reduceEqDiff, Nat.reduceLeDiff, nl_0, nl_1, nl_16, nl_24, nl_28, no_1, no_1024, pk_mul, nI_add, nm_ck, nI_clamp, nI_ltI, nI_leI, nI_eq, nb_b2, nb_b1, ↓nb_let, nm_z0, nm_z1, nb_II, nb_IR, nb_RI, nb_RR, nm_IL, nm_IQ, nm_RL, nm_RQ, nm_LI, nm_LR, nm_LL, nm_LQ, nm_QI, nm_QR, nm_QL, nm_QQ, nm_rr, nm_ii, nm_eqm, not_false_eq_true, pk_sub, nm_div, nm_shl, nm_shr, nm_ush, nm_or8, nm_or64, nm_or256, nm_m1, nm_m3, nm_m7, nm_m15, nm_m31, nm_m63, nm_m255, nm_m511, nm_m1023, nm_m2047, nm_m65535, Nat.reduceMod, Nat.reducePow, Nat.reduceAdd, Nat.reduceSub, Nat.reduceMul, nm_bo, nm_bi, nm_rc, nm_ic, nm_ri, nm_rl, nm_rq, nm_ql, nm_qi, nm_li, nm_us, nm_uu, nm_cp, nm_sa31, nm_sa7, nm_m127, nm_m2, nm_nz, nm_nzk, nm_eq32, nm_nzf, if_true, if_false, ↓reduceIte, if_pos, if_neg]
              rw [c5, c6, c216 n k16, r211 n k16 hH]
              by_cases p32 : nI H &&& nI 32 = nI 0
              · rw [if_pos ⟨rfl, p32⟩, if_pos p32]
                obtain ⟨D', X', r1, r2, r3, r4, r5⟩ := fin K.2.2 Y k hY h2 y3 y5 k16 hH isf d16 hdd o48
                have r1 : df_X5_open_237 n (nI p) (nI H) (nI k) (nI d) (pR K.1 0 f, K.2) = _ := r1
                rw [r1, r2]
                exact post _ _ D' X' rfl r3 r4 r5
              · rw [if_neg (fun z => p32 z.2), if_neg p32]
                obtain ⟨D', X', r1, r2, r3, r4, r5⟩ := fin _ _ k (rM_empty hY k16) h2 y3 y5 k16 hH isf d16 hdd o48
                rw [r1, r2]
                exact post _ _ D' X' rfl r3 r4 r5
            · rw [if_neg o48] at f48
              have x0 : x = 0 := ox0.mpr o48
              subst x0
              have c5 : df_X5_open_174 n (nI p) (nI H) (nI k) (nI d) (nI 0) (pR K.1 0 f, K.2) = some (-4, (pR K.1 0 f, K.2)) := by
                clear fin
                generalize nI H = v
                simp (disch := (first | assumption | decide | omega)) only [df_X5_open_174, df_X5_open_194, v1, u2, ox, eq_self, Nat.reduceEqDiff, Nat.reduceLeDiff, nl_0, nl_4, no_1, no_1024, pk_mul, nI_add, nm_ck, nI_clamp, nI_ltI, nI_leI, nI_eq, nb_b2, nb_b1, ↓nb_let, nm_z0, nm_z1, nb_II, nb_IR, nb_RI, nb_RR, nm_IL, nm_IQ, nm_RL, nm_RQ, nm_LI, nm_LR, nm_LL, nm_LQ, nm_QI, nm_QR, nm_QL, nm_QQ, nm_rr, nm_ii, nm_eqm, not_false_eq_true, pk_sub, nm_div, nm_shl, nm_shr, nm_ush, nm_or8, nm_or64, nm_or256, nm_m1, nm_m3, nm_m7, nm_m15, nm_m31, nm_m63, nm_m255, nm_m511, nm_m1023, nm_m2047, nm_m65535, Nat.reduceMod, Nat.reducePow, Nat.reduceAdd, Nat.reduceSub, Nat.reduceMul, nm_bo, nm_bi, nm_rc, nm_ic, nm_ri, nm_rl, nm_rq, nm_ql, nm_qi, nm_li, nm_us, nm_uu, nm_cp, nm_sa31, nm_sa7, nm_m127, nm_m2, nm_nz, nm_nzk, nm_eq32, nm_nzf, if_true, if_false, ↓reduceIte, if_pos, if_neg]
              have c6 : df_X16_open_147 n (nI H) (nI k) (nI (ff Y)) Y = some (-nI 4, Y) := by
                clear fin
                generalize nI H = v
                generalize nI (ff Y) = fy
                simp (disch := (first | assumption | decide | omega)) only [df_X16_open_147, df_X16_open_176, fr, f48, eq_self, Nat.reduceEqDiff, Nat.reduceLeDiff, nl_1, nl_4, nl_16, no_1, no_1024, pk_mul, nI_add, nm_ck, nI_clamp, nI_ltI, nI_leI, nI_eq, nb_b2, nb_b1, ↓nb_let, nm_z0, nm_z1, nb_II, nb_IR, nb_RI, nb_RR, nm_IL, nm_IQ, nm_RL, nm_RQ, nm_LI, nm_LR, nm_LL, nm_LQ, nm_QI, nm_QR, nm_QL, nm_QQ, nm_rr, nm_ii, nm_eqm, not_false_eq_true, pk_sub, nm_div, nm_shl, nm_shr, nm_ush, nm_or8, nm_or64, nm_or256, nm_m1, nm_m3, nm_m7, nm_m15, nm_m31, nm_m63, nm_m255, nm_m511, nm_m1023, nm_m2047, nm_m65535, Nat.reduceMod, Nat.reducePow, Nat.reduceAdd, Nat.reduceSub, Nat.reduceMul, nm_bo, nm_bi, nm_rc, nm_ic, nm_ri, nm_rl, nm_rq, nm_ql, nm_qi, nm_li, nm_us, nm_uu, nm_cp, nm_sa31, nm_sa7, nm_m127, nm_m2, nm_nz, nm_nzk, nm_eq32, nm_nzf, if_true, if_false, ↓reduceIte, if_pos, if_neg]
              rw [c5, c6]
              exact full
          · rw [cv_1 d16] at fr ⊢
            have c5 : df_X5_open_174 n (nI p) (nI H) (nI k) (-nI 1) (nI 0) (pR K.1 0 f, K.2) = some (-4, (pR K.1 0 f, K.2)) := by
              clear fin
              generalize nI H = v
              simp (disch := (first | assumption | decide | omega)) only [df_X5_open_174, df_X5_open_194, nm_ltm, eq_self, Nat.reduceEqDiff, Nat.reduceLeDiff, nl_0, nl_4, no_1, no_1024, pk_mul, nI_add, nm_ck, nI_clamp, nI_ltI, nI_leI, nI_eq, nb_b2, nb_b1, ↓nb_let, nm_z0, nm_z1, nb_II, nb_IR, nb_RI, nb_RR, nm_IL, nm_IQ, nm_RL, nm_RQ, nm_LI, nm_LR, nm_LL, nm_LQ, nm_QI, nm_QR, nm_QL, nm_QQ, nm_rr, nm_ii, nm_eqm, not_false_eq_true, pk_sub, nm_div, nm_shl, nm_shr, nm_ush, nm_or8, nm_or64, nm_or256, nm_m1, nm_m3, nm_m7, nm_m15, nm_m31, nm_m63, nm_m255, nm_m511, nm_m1023, nm_m2047, nm_m65535, Nat.reduceMod, Nat.reducePow, Nat.reduceAdd, Nat.reduceSub, Nat.reduceMul, nm_bo, nm_bi, nm_rc, nm_ic, nm_ri, nm_rl, nm_rq, nm_ql, nm_qi, nm_li, nm_us, nm_uu, nm_cp, nm_sa31, nm_sa7, nm_m127, nm_m2, nm_nz, nm_nzk, nm_eq32, nm_nzf, if_true, if_false, ↓reduceIte, if_pos, if_neg]
            have c6 : df_X16_open_147 n (nI H) (nI k) (nI (ff Y)) Y = some (-nI 4, Y) := by
              clear fin
              generalize nI H = v
              generalize nI (ff Y) = fy
              simp (disch := (first | assumption | decide | omega)) only [df_X16_open_147, df_X16_open_176, fr, eq_self, Nat.reduceEqDiff, Nat.reduceLeDiff, nl_1, nl_4, nl_16, no_1, no_1024, pk_mul, nI_add, nm_ck, nI_clamp, nI_ltI, nI_leI, nI_eq, nb_b2, nb_b1, ↓nb_let, nm_z0, nm_z1, nb_II, nb_IR, nb_RI, nb_RR, nm_IL, nm_IQ, nm_RL, nm_RQ, nm_LI, nm_LR, nm_LL, nm_LQ, nm_QI, nm_QR, nm_QL, nm_QQ, nm_rr, nm_ii, nm_eqm, not_false_eq_true, pk_sub, nm_div, nm_shl, nm_shr, nm_ush, nm_or8, nm_or64, nm_or256, nm_m1, nm_m3, nm_m7, nm_m15, nm_m31, nm_m63, nm_m255, nm_m511, nm_m1023, nm_m2047, nm_m65535, Nat.reduceMod, Nat.reducePow, Nat.reduceAdd, Nat.reduceSub, Nat.reduceMul, nm_bo, nm_bi, nm_rc, nm_ic, nm_ri, nm_rl, nm_rq, nm_ql, nm_qi, nm_li, nm_us, nm_uu, nm_cp, nm_sa31, nm_sa7, nm_m127, nm_m2, nm_nz, nm_nzk, nm_eq32, nm_nzf, if_true, if_false, ↓reduceIte, if_pos, if_neg]
            rw [c5, c6]
            exact full
        · have p16' : ¬ nI H &&& nI 16 ≤ nI 0 := fun z => p16 (b16.mp z)
          have c3 : df_X5_open_121 n (nI p) (nI H) (nI k) (pR K.1 0 f, K.2) = some (-3, (pR K.1 0 f, K.2)) := by
            clear fin
            generalize nI H = v at p16
            simp (disch := (first | assumption | decide | omega)) only [df_X5_open_121, u2, p16, eq_self, Nat.reduceEqDiff, Nat.reduceLeDiff, nl_0, nl_3, nl_16, no_1, no_1024, pk_mul, nI_add, nm_ck, nI_clamp, nI_ltI, nI_leI, nI_eq, nb_b2, nb_b1, ↓nb_let, nm_z0, nm_z1, nb_II, nb_IR, nb_RI, nb_RR, nm_IL, nm_IQ, nm_RL, nm_RQ, nm_LI, nm_LR, nm_LL, nm_LQ, nm_QI, nm_QR, nm_QL, nm_QQ, nm_rr, nm_ii, nm_eqm, not_false_eq_true, pk_sub, nm_div, nm_shl, nm_shr, nm_ush, nm_or8, nm_or64, nm_or256, nm_m1, nm_m3, nm_m7, nm_m15, nm_m31, nm_m63, nm_m255, nm_m511, nm_m1023, nm_m2047, nm_m65535, Nat.reduceMod, Nat.reducePow, Nat.reduceAdd, Nat.reduceSub, Nat.reduceMul, nm_bo, nm_bi, nm_rc, nm_ic, nm_ri, nm_rl, nm_rq, nm_ql, nm_qi, nm_li, nm_us, nm_uu, nm_cp, nm_sa31, nm_sa7, nm_m127, nm_m2, nm_nz, nm_nzk, nm_eq32, nm_nzf, if_true, if_false, ↓reduceIte, if_pos, if_neg]
          have c4 : df_X16_open_105 n (nI H) (nI k) Y = some (-nI 3, Y) := by
            clear fin
            generalize nI H = v at p16'
            simp (disch := (first | assumption | decide | omega)) only [df_X16_open_105, p16', eq_self, Nat.reduceEqDiff, Nat.reduceLeDiff, nl_0, nl_1, nl_3, nl_16, no_1, no_1024, pk_mul, nI_add, nm_ck, nI_clamp, nI_ltI, nI_leI, nI_eq, nb_b2, nb_b1, ↓nb_let, nm_z0, nm_z1, nb_II, nb_IR, nb_RI, nb_RR, nm_IL, nm_IQ, nm_RL, nm_RQ, nm_LI, nm_LR, nm_LL, nm_LQ, nm_QI, nm_QR, nm_QL, nm_QQ, nm_rr, nm_ii, nm_eqm, not_false_eq_true, pk_sub, nm_div, nm_shl, nm_shr, nm_ush, nm_or8, nm_or64, nm_or256, nm_m1, nm_m3, nm_m7, nm_m15, nm_m31, nm_m63, nm_m255, nm_m511, nm_m1023, nm_m2047, nm_m65535, Nat.reduceMod, Nat.reducePow, Nat.reduceAdd, Nat.reduceSub, Nat.reduceMul, nm_bo, nm_bi, nm_rc, nm_ic, nm_ri, nm_rl, nm_rq, nm_ql, nm_qi, nm_li, nm_us, nm_uu, nm_cp, nm_sa31, nm_sa7, nm_m127, nm_m2, nm_nz, nm_nzk, nm_eq32, nm_nzf, if_true, if_false, ↓reduceIte, if_pos, if_neg]
          rw [c3, c4, show (-3 : Int64) = (-nI 3).toInt64 by decide]
          exact same (-nI 3)
      · -- there is none
        rw [cv_1 k16] at q1 q2
        by_cases p8 : nI H &&& nI 8 = nI 0
        · have c1 : df_X5_open_71 n (nI p) a (nI H) K = some (-2, (pR K.1 0 f, K.2)) := by
            clear fin
            generalize nI H = v at p8
            simp (disch := (first | assumption | decide | omega)) only [df_X5_open_71, e1, q1, z0, p8, eq_self, Nat.reduceEqDiff, Nat.reduceLeDiff, nl_0, nl_2, nl_8, no_1, no_1024, pk_mul, nI_add, nm_ck, nI_clamp, nI_ltI, nI_leI, nI_eq, nb_b2, nb_b1, ↓nb_let, nm_z0, nm_z1, nb_II, nb_IR, nb_RI, nb_RR, nm_IL, nm_IQ, nm_RL, nm_RQ, nm_LI, nm_LR, nm_LL, nm_LQ, nm_QI, nm_QR, nm_QL, nm_QQ, nm_rr, nm_ii, nm_eqm, not_false_eq_true, pk_sub, nm_div, nm_shl, nm_shr, nm_ush, nm_or8, nm_or64, nm_or256, nm_m1, nm_m3, nm_m7, nm_m15, nm_m31, nm_m63, nm_m255, nm_m511, nm_m1023, nm_m2047, nm_m65535, Nat.reduceMod, Nat.reducePow, Nat.reduceAdd, Nat.reduceSub, Nat.reduceMul, nm_bo, nm_bi, nm_rc, nm_ic, nm_ri, nm_rl, nm_rq, nm_ql, nm_qi, nm_li, nm_us, nm_uu, nm_cp, nm_sa31, nm_sa7, nm_m127, nm_m2, nm_nz, nm_nzk, nm_eq32, nm_nzf, if_true, if_false, ↓reduceIte, if_pos, if_neg]
          have c2 : df_X16_open_60 n a (nI H) (nI 1) X = some (-nI 2, Y) := by
            clear fin
            generalize nI H = v at p8
            simp (disch := (first | assumption | decide | omega)) only [df_X16_open_60, e2, q2, p8, eq_self, Nat.reduceEqDiff, Nat.reduceLeDiff, nl_0, nl_1, nl_2, nl_8, nl_22, no_1, no_1024, pk_mul, nI_add, nm_ck, nI_clamp, nI_ltI, nI_leI, nI_eq, nb_b2, nb_b1, ↓nb_let, nm_z0, nm_z1, nb_II, nb_IR, nb_RI, nb_RR, nm_IL, nm_IQ, nm_RL, nm_RQ, nm_LI, nm_LR, nm_LL, nm_LQ, nm_QI, nm_QR, nm_QL, nm_QQ, nm_rr, nm_ii, nm_eqm, not_false_eq_true, pk_sub, nm_div, nm_shl, nm_shr, nm_ush, nm_or8, nm_or64, nm_or256, nm_m1, nm_m3, nm_m7, nm_m15, nm_m31, nm_m63, nm_m255, nm_m511, nm_m1023, nm_m2047, nm_m65535, Nat.reduceMod, Nat.reducePow, Nat.reduceAdd, Nat.reduceSub, Nat.reduceMul, nm_bo, nm_bi, nm_rc, nm_ic, nm_ri, nm_rl, nm_rq, nm_ql, nm_qi, nm_li, nm_us, nm_uu, nm_cp, nm_sa31, nm_sa7, nm_m127, nm_m2, nm_nz, nm_nzk, nm_eq32, nm_nzf, if_true, if_false, ↓reduceIte, if_pos, if_neg]
          rw [c1, c2, show (-2 : Int64) = (-nI 2).toInt64 by decide]
          exact same (-nI 2)
        · have c1 : df_X5_open_71 n (nI p) a (nI H) K = df_X5_open_174 n (nI p) (nI H) (cv (ff Y)) (cv d) (nI 1) (pR K.1 0 f, K.2) := by
            clear fin
            generalize nI H = v at p8
            generalize cv d = cd at fl
            generalize cv (ff Y) = cf at fC
            simp (disch := (first | assumption | decide | omega)) only [df_X5_open_71, df_X5_open_121, df_X5_open_137, df_X5_open_158, e1, q1, z0, p8, nm_ltm, fl, fC, eq_self, Nat.reduceEqDiff, Nat.reduceLeDiff, nl_0, nl_1, nl_2, nl_3, nl_8, nl_16, no_1, no_1024, pk_mul, nI_add, nm_ck, nI_clamp, nI_ltI, nI_leI, nI_eq, nb_b2, nb_b1, ↓nb_let, nm_z0, nm_z1, nb_II, nb_IR, nb_RI, nb_RR, nm_IL, nm_IQ, nm_RL, nm_RQ, nm_LI, nm_LR, nm_LL, nm_LQ, nm_QI, nm_QR, nm_QL, nm_QQ, nm_rr, nm_ii, nm_eqm, not_false_eq_true, pk_sub, nm_div, nm_shl, nm_shr, nm_ush, nm_or8, nm_or64, nm_or256, nm_m1, nm_m3, nm_m7, nm_m15, nm_m31, nm_m63, nm_m255, nm_m511, nm_m1023, nm_m2047, nm_m65535, Nat.reduceMod, Nat.reducePow, Nat.reduceAdd, Nat.reduceSub, Nat.reduceMul, nm_bo, nm_bi, nm_rc, nm_ic, nm_ri, nm_rl, nm_rq, nm_ql, nm_qi, nm_li, nm_us, nm_uu, nm_cp, nm_sa31, nm_sa7, nm_m127, nm_m2, nm_nz, nm_nzk, nm_eq32, nm_nzf, if_true, if_false, ↓reduceIte, if_pos, if_neg]
          have c2 : df_X16_open_60 n a (nI H) (nI 1) X = df_X16_open_147 n (nI H) (-nI 1) (nI (ff Y)) Y := by
            clear fin
            rw [← fR]
            generalize nI H = v at p8
            simp (disch := (first | assumption | decide | omega)) only [df_X16_open_60, df_X16_open_105, df_X16_open_121, e2, q2, p8, eq_self, Nat.reduceEqDiff, Nat.reduceLeDiff, nl_0, nl_1, nl_2, nl_3, nl_8, nl_16, nl_22, no_1, no_1024, pk_mul, nI_add, nm_ck, nI_clamp, nI_ltI, nI_leI, nI_eq, nb_b2, nb_b1, ↓nb_let, nm_z0, nm_z1, nb_II, nb_IR, nb_RI, nb_RR, nm_IL, nm_IQ, nm_RL, nm_RQ, nm_LI, nm_LR, nm_LL, nm_LQ, nm_QI, nm_QR, nm_QL, nm_QQ, nm_rr, nm_ii, nm_eqm, not_false_eq_true, pk_sub, nm_div, nm_shl, nm_shr, nm_ush, nm_or8, nm_or64, nm_or256, nm_m1, nm_m3, nm_m7, nm_m15, nm_m31, nm_m63, nm_m255, nm_m511, nm_m1023, nm_m2047, nm_m65535, Nat.reduceMod, Nat.reducePow, Nat.reduceAdd, Nat.reduceSub, Nat.reduceMul, nm_bo, nm_bi, nm_rc, nm_ic, nm_ri, nm_rl, nm_rq, nm_ql, nm_qi, nm_li, nm_us, nm_uu, nm_cp, nm_sa31, nm_sa7, nm_m127, nm_m2, nm_nz, nm_nzk, nm_eq32, nm_nzf, if_true, if_false, ↓reduceIte, if_pos, if_neg]
          rw [c1, c2]
          have full2 : (¬ d < 16 ∨ ¬ fo Y < 48 ∨ ¬ ff Y < 16) → df_X5_open_174 n (nI p) (nI H) (cv (ff Y)) (cv d) (nI 1) (pR K.1 0 f, K.2) = some (-4, (pR K.1 0 f, K.2)) ∧ df_X16_open_147 n (nI H) (-nI 1) (nI (ff Y)) Y = some (-nI 4, Y) := fun hh => by
            clear fin fR
            generalize nI H = v
            by_cases d16 : d < 16
            · rw [cv_0 d16] at fr ⊢
              have v1 : ¬ d < 0 := by omega
              have v2 : d < 2 ^ 31 := by omega
              by_cases j16 : ff Y < 16
              · have o48 : ¬ fo Y < 48 := by
                  rcases hh with hh | hh | hh
                  · exact absurd d16 hh
                  · exact hh
                  · exact absurd j16 hh
                rw [if_neg o48] at f48
                have x0 : x = 0 := ox0.mpr o48
                subst x0
                rw [cv_0 j16]
                generalize ff Y = j at j16
                have v3 : ¬ j < 0 := by omega
                have v4 : j < 2 ^ 31 := by omega
                exact ⟨by simp (disch := (first | assumption | decide | omega)) only [df_X5_open_174, df_X5_open_194, v1, v3, ox, eq_self, Nat.reduceEqDiff, Nat.reduceLeDiff, nl_0, nl_4, no_1, no_1024, pk_mul, nI_add, nm_ck, nI_clamp, nI_ltI, nI_leI, nI_eq, nb_b2, nb_b1, ↓nb_let, nm_z0, nm_z1, nb_II, nb_IR, nb_RI, nb_RR, nm_IL, nm_IQ, nm_RL, nm_RQ, nm_LI, nm_LR, nm_LL, nm_LQ, nm_QI, nm_QR, nm_QL, nm_QQ, nm_rr, nm_ii, nm_eqm, not_false_eq_true, pk_sub, nm_div, nm_shl, nm_shr, nm_ush, nm_or8, nm_or64, nm_or256, nm_m1, nm_m3, nm_m7, nm_m15, nm_m31, nm_m63, nm_m255, nm_m511, nm_m1023, nm_m2047, nm_m65535, Nat.reduceMod, Nat.reducePow, Nat.reduceAdd, Nat.reduceSub, Nat.reduceMul, nm_bo, nm_bi, nm_rc, nm_ic, nm_ri, nm_rl, nm_rq, nm_ql, nm_qi, nm_li, nm_us, nm_uu, nm_cp, nm_sa31, nm_sa7, nm_m127, nm_m2, nm_nz, nm_nzk, nm_eq32, nm_nzf, if_true, if_false, ↓reduceIte, if_pos, if_neg], by simp (disch := (first | assumption | decide | omega)) only [df_X16_open_147, df_X16_open_176, fr, f48, eq_self, Nat.reduceEqDiff, Nat.reduceLeDiff, nl_1, nl_4, nl_16, no_1, no_1024, pk_mul, nI_add, nm_ck, nI_clamp, nI_ltI, nI_leI, nI_eq, nb_b2, nb_b1, ↓nb_let, nm_z0, nm_z1, nb_II, nb_IR, nb_RI, nb_RR, nm_IL, nm_IQ, nm_RL, nm_RQ, nm_LI, nm_LR, nm_LL, nm_LQ, nm_QI, nm_QR, nm_QL, nm_QQ, nm_rr, nm_ii, nm_eqm, not_false_eq_true, pk_sub, nm_div, nm_shl, nm_shr, nm_ush, nm_or8, nm_or64, nm_or256, nm_m1, nm_m3, nm_m7, nm_m15, nm_m31, nm_m63, nm_m255, nm_m511, nm_m1023, nm_m2047, nm_m65535, Nat.reduceMod, Nat.reducePow, Nat.reduceAdd, Nat.reduceSub, Nat.reduceMul, nm_bo, nm_bi, nm_rc, nm_ic, nm_ri, nm_rl, nm_rq, nm_ql, nm_qi, nm_li, nm_us, nm_uu, nm_cp, nm_sa31, nm_sa7, nm_m127, nm_m2, nm_nz, nm_nzk, nm_eq32, nm_nzf, if_true, if_false, ↓reduceIte, if_pos, if_neg]⟩
              · rw [cv_1 j16]
                have j16e : ff Y = 16 := by omega
                rw [j16e]
                refine ⟨by simp (disch := (first | assumption | decide | omega)) only [df_X5_open_174, df_X5_open_194, v1, nm_ltm, eq_self, Nat.reduceEqDiff, Nat.reduceLeDiff, nl_0, nl_4, no_1, no_1024, pk_mul, nI_add, nm_ck, nI_clamp, nI_ltI, nI_leI, nI_eq, nb_b2, nb_b1, ↓nb_let, nm_z0, nm_z1, nb_II, nb_IR, nb_RI, nb_RR, nm_IL, nm_IQ, nm_RL, nm_RQ, nm_LI, nm_LR, nm_LL, nm_LQ, nm_QI, nm_QR, nm_QL, nm_QQ, nm_rr, nm_ii, nm_eqm, not_false_eq_true, pk_sub, nm_div, nm_shl, nm_shr, nm_ush, nm_or8, nm_or64, nm_or256, nm_m1, nm_m3, nm_m7, nm_m15, nm_m31, nm_m63, nm_m255, nm_m511, nm_m1023, nm_m2047, nm_m65535, Nat.reduceMod, Nat.reducePow, Nat.reduceAdd, Nat.reduceSub, Nat.reduceMul, nm_bo, nm_bi, nm_rc, nm_ic, nm_ri, nm_rl, nm_rq, nm_ql, nm_qi, nm_li, nm_us, nm_uu, nm_cp, nm_sa31, nm_sa7, nm_m127, nm_m2, nm_nz, nm_nzk, nm_eq32, nm_nzf, if_true, if_false, ↓reduceIte, if_pos, if_neg], ?_⟩
                by_cases o48 : fo Y < 48
                · rw [if_pos o48] at f48
                  have v3 : fo Y < 2 ^ 31 := by omega
                  generalize fo Y = oy at f48 v3
                  simp (disch := (first | assumption | decide | omega)) only [df_X16_open_147, df_X16_open_176, fr, f48, eq_self, Nat.reduceEqDiff, Nat.reduceLeDiff, nl_1, nl_4, nl_16, no_1, no_1024, pk_mul, nI_add, nm_ck, nI_clamp, nI_ltI, nI_leI, nI_eq, nb_b2, nb_b1, ↓nb_let, nm_z0, nm_z1, nb_II, nb_IR, nb_RI, nb_RR, nm_IL, nm_IQ, nm_RL, nm_RQ, nm_LI, nm_LR, nm_LL, nm_LQ, nm_QI, nm_QR, nm_QL, nm_QQ, nm_rr, nm_ii, nm_eqm, not_false_eq_true, pk_sub, nm_div, nm_shl, nm_shr, nm_ush, nm_or8, nm_or64, nm_or256, nm_m1, nm_m3, nm_m7, nm_m15, nm_m31, nm_m63, nm_m255, nm_m511, nm_m1023, nm_m2047, nm_m65535, Nat.reduceMod, Nat.reducePow, Nat.reduceAdd, Nat.reduceSub, Nat.reduceMul, nm_bo, nm_bi, nm_rc, nm_ic, nm_ri, nm_rl, nm_rq, nm_ql, nm_qi, nm_li, nm_us, nm_uu, nm_cp, nm_sa31, nm_sa7, nm_m127, nm_m2, nm_nz, nm_nzk, nm_eq32, nm_nzf, if_true, if_false, ↓reduceIte, if_pos, if_neg]
                · rw [if_neg o48] at f48
                  simp (disch := (first | assumption | decide | omega)) only [df_X16_open_147, df_X16_open_176, fr, f48, eq_self, Nat.reduceEqDiff, Nat.reduceLeDiff, nl_1, nl_4, nl_16, no_1, no_1024, pk_mul, nI_add, nm_ck, nI_clamp, nI_ltI, nI_leI, nI_eq, nb_b2, nb_b1, ↓nb_let, nm_z0, nm_z1, nb_II, nb_IR, nb_RI, nb_RR, nm_IL, nm_IQ, nm_RL, nm_RQ, nm_LI, nm_LR, nm_LL, nm_LQ, nm_QI, nm_QR, nm_QL, nm_QQ, nm_rr, nm_ii, nm_eqm, not_false_eq_true, pk_sub, nm_div, nm_shl, nm_shr, nm_ush, nm_or8, nm_or64, nm_or256, nm_m1, nm_m3, nm_m7, nm_m15, nm_m31, nm_m63, nm_m255, nm_m511, nm_m1023, nm_m2047, nm_m65535, Nat.reduceMod, Nat.reducePow, Nat.reduceAdd, Nat.reduceSub, Nat.reduceMul, nm_bo, nm_bi, nm_rc, nm_ic, nm_ri, nm_rl, nm_rq, nm_ql, nm_qi, nm_li, nm_us, nm_uu, nm_cp, nm_sa31, nm_sa7, nm_m127, nm_m2, nm_nz, nm_nzk, nm_eq32, nm_nzf, if_true, if_false, ↓reduceIte, if_pos, if_neg]
            · rw [cv_1 d16] at fr ⊢
              generalize cv (ff Y) = cf
              generalize nI (ff Y) = fy
              exact ⟨by simp (disch := (first | assumption | decide | omega)) only [df_X5_open_174, df_X5_open_194, nm_ltm, eq_self, Nat.reduceEqDiff, Nat.reduceLeDiff, nl_0, nl_4, no_1, no_1024, pk_mul, nI_add, nm_ck, nI_clamp, nI_ltI, nI_leI, nI_eq, nb_b2, nb_b1, ↓nb_let, nm_z0, nm_z1, nb_II, nb_IR, nb_RI, nb_RR, nm_IL, nm_IQ, nm_RL, nm_RQ, nm_LI, nm_LR, nm_LL, nm_LQ, nm_QI, nm_QR, nm_QL, nm_QQ, nm_rr, nm_ii, nm_eqm, not_false_eq_true, pk_sub, nm_div, nm_shl, nm_shr, nm_ush, nm_or8, nm_or64, nm_or256, nm_m1, nm_m3, nm_m7, nm_m15, nm_m31, nm_m63, nm_m255, nm_m511, nm_m1023, nm_m2047, nm_m65535, Nat.reduceMod, Nat.reducePow, Nat.reduceAdd, Nat.reduceSub, Nat.reduceMul, nm_bo, nm_bi, nm_rc, nm_ic, nm_ri, nm_rl, nm_rq, nm_ql, nm_qi, nm_li, nm_us, nm_uu, nm_cp, nm_sa31, nm_sa7, nm_m127, nm_m2, nm_nz, nm_nzk, nm_eq32, nm_nzf, if_true, if_false, ↓reduceIte, if_pos, if_neg], by simp (disch := (first | assumption | decide | omega)) only [df_X16_open_147, df_X16_open_176, fr, eq_self, Nat.reduceEqDiff, Nat.reduceLeDiff, nl_1, nl_4, nl_16, no_1, no_1024, pk_mul, nI_add, nm_ck, nI_clamp, nI_ltI, nI_leI, nI_eq, nb_b2, nb_b1, ↓nb_let, nm_z0, nm_z1, nb_II, nb_IR, nb_RI, nb_RR, nm_IL, nm_IQ, nm_RL, nm_RQ, nm_LI, nm_LR, nm_LL, nm_LQ, nm_QI, nm_QR, nm_QL, nm_QQ, nm_rr, nm_ii, nm_eqm, not_false_eq_true, pk_sub, nm_div, nm_shl, nm_shr, nm_ush, nm_or8, nm_or64, nm_or256, nm_m1, nm_m3, nm_m7, nm_m15, nm_m31, nm_m63, nm_m255, nm_m511, nm_m1023, nm_m2047, nm_m65535, Nat.reduceMod, Nat.reducePow, Nat.reduceAdd, Nat.reduceSub, Nat.reduceMul, nm_bo, nm_bi, nm_rc, nm_ic, nm_ri, nm_rl, nm_rq, nm_ql, nm_qi, nm_li, nm_us, nm_uu, nm_cp, nm_sa31, nm_sa7, nm_m127, nm_m2, nm_nz, nm_nzk, nm_eq32, nm_nzf, if_true, if_false, ↓reduceIte, if_pos, if_neg]⟩
          by_cases d16 : d < 16
          · by_cases o48 : fo Y < 48
            · by_cases j16 : ff Y < 16
              · -- it is made
                have x0 : ¬ x = 0 := fun z => (ox0.mp z) o48
                have fj := ff3 j16
                rw [cv_0 d16] at fr ⊢
                rw [cv_0 j16]
                rw [if_pos o48] at f48
                have gn := nk_give n (E := pR nd_st0 0 f) (D := K.2.2.2) j16 (fun i hi => b8_fit (e3 i hi))
                have gn : df_X10_giveName n (nI (ff Y)) (pR nd_st0 0 f, K.2.2.2) = some (pR nd_st0 0 f, pR (pR K.2.2.2 4 (upd (sR K.2.2.2 4) (ff Y * 3 + 2) (nI 1))) 6 (va_cpy f (sR K.2.2.2 6) 0 (ff Y * 16) 16)) := gn
                have en := nk_entitle n hn (X := (pR (pR Y.1 24 (upd (sR Y.1 24) (ff Y) (nI 1))) 28 (upd (sR Y.1 28) (ff Y) (nI 0)), Y.2)) j16
                have en : df_X16_entitle n (nI (ff Y)) (pR (pR Y.1 24 (upd (sR Y.1 24) (ff Y) (nI 1))) 28 (upd (sR Y.1 28) (ff Y) (nI 0)), Y.2) = some (pR (pR (pR (pR Y.1 24 (upd (sR Y.1 24) (ff Y) (nI 1))) 28 (upd (sR Y.1 28) (ff Y) (nI 0))) 30 (va_cpy (sR Y.1 33) (sR Y.1 30) 0 (16 * ff Y) 16)) 25 (upd (sR Y.1 25) (ff Y) (nI 1)), Y.2) := en
                have nw := rM_new hY j16 fj (f := f) (g := sR Y.1 33) (fun i hi => by rw [y33]; exact e3 i hi)
                clear fR ff2 ff3
                generalize ff Y = j at j16 fj gn en nw
                have v1 : ¬ d < 0 := by omega
                have v2 : d < 2 ^ 31 := by omega
                have v3 : ¬ j < 0 := by omega
                have v4 : j < 2 ^ 31 := by omega
                have v5 : ¬ j = 16 := by omega
                have i0 : pR (pR K.1 0 f) 0 f = pR K.1 0 f := nm_rr _ _ _ _
                have c5 : df_X5_open_174 n (nI p) (nI H) (nI j) (nI d) (nI 1) (pR K.1 0 f, K.2) = df_X5_open_216 n (nI p) (nI H) (nI j) (nI d) (nI 1) (pR K.1 0 f, (K.2.1, (K.2.2.1, pR (pR K.2.2.2 4 (upd (sR K.2.2.2 4) (j * 3 + 2) (nI 1))) 6 (va_cpy f (sR K.2.2.2 6) 0 (j * 16) 16)))) := by
                  clear fin nw en
                  generalize nI H = v
                  simp (disch := (first | assumption | decide | omega)) only [df_X5_open_174, v1, v3, ox, x0, gn, i0, eq_self, Nat.reduceEqDiff, Nat.reduceLeDiff, nl_0, no_1, no_1024, pk_mul, nI_add, nm_ck, nI_clamp, nI_ltI, nI_leI, nI_eq, nb_b2, nb_b1, ↓nb_let, nm_z0, nm_z1, nb_II, nb_IR, nb_RI, nb_RR, nm_IL, nm_IQ, nm_RL, nm_RQ, nm_LI, nm_LR, nm_LL, nm_LQ, nm_QI, nm_QR, nm_QL, nm_QQ, nm_rr, nm_ii, nm_eqm, not_false_eq_true, pk_sub, nm_div, nm_shl, nm_shr, nm_ush, nm_or8, nm_or64, nm_or256, nm_m1, nm_m3, nm_m7, nm_m15, nm_m31, nm_m63, nm_m255, nm_m511, nm_m1023, nm_m2047, nm_m65535, Nat.reduceMod, Nat.reducePow, Nat.reduceAdd, Nat.reduceSub, Nat.reduceMul, nm_bo, nm_bi, nm_rc, nm_ic, nm_ri, nm_rl, nm_rq, nm_ql, nm_qi, nm_li, nm_us, nm_uu, nm_cp, nm_sa31, nm_sa7, nm_m127, nm_m2, nm_nz, nm_nzk, nm_eq32, nm_nzf, if_true, if_false, ↓reduceIte, if_pos, if_neg]
                have v6 : fo Y < 2 ^ 31 := by omega
                have c6 : df_X16_open_147 n (nI H) (-nI 1) (nI j) Y = df_X16_open_211 n (nI H) (nI j) (pR (pR (pR (pR Y.1 24 (upd (sR Y.1 24) j (nI 1))) 28 (upd (sR Y.1 28) j (nI 0))) 30 (va_cpy (sR Y.1 33) (sR Y.1 30) 0 (16 * j) 16)) 25 (upd (sR Y.1 25) j (nI 1)), Y.2) := by
                  clear fin nw gn
                  generalize nI H = v
                  generalize fo Y = oy at f48 v6
                  simp (disch := (first | assumption | decide | omega)) only [df_X16_open_147, df_X16_open_179, fr, f48, v5, en, eq_self, Nat.reduceEqDiff, Nat.reduceLeDiff, nl_0, nl_1, nl_16, nl_24, nl_28, no_1, no_1024, pk_mul, nI_add, nm_ck, nI_clamp, nI_ltI, nI_leI, nI_eq, nb_b2, nb_b1, ↓nb_let, nm_z0, nm_z1, nb_II, nb_IR, nb_RI, nb_RR, nm_IL, nm_IQ, nm_RL, nm_RQ, nm_LI, nm_LR, nm_LL, nm_LQ, nm_QI, nm_QR, nm_QL, nm_QQ, nm_rr, nm_ii, nm_eqm, not_false_eq_true, pk_sub, nm_div, nm_shl, nm_shr, nm_ush, nm_or8, nm_or64, nm_or256, nm_m1, nm_m3, nm_m7, nm_m15, nm_m31, nm_m63, nm_m255, nm_m511, nm_m1023, nm_m2047, nm_m65535, Nat.reduceMod, Nat.reducePow, Nat.reduceAdd, Nat.reduceSub, Nat.reduceMul, nm_bo, nm_bi, nm_rc, nm_ic, nm_ri, nm_rl, nm_rq, nm_ql, nm_qi, nm_li, nm_us, nm_uu, nm_cp, nm_sa31, nm_sa7, nm_m127, nm_m2, nm_nz, nm_nzk, nm_eq32, nm_nzf, if_true, if_false, ↓reduceIte, if_pos, if_neg]
                rw [c5, c6, c216 n j16, if_neg (fun z => absurd z.1 (by decide)), r211 n j16 hH]
                have eD : pR (pR (pR K.2.2.2 4 (upd (sR K.2.2.2 4) (j * 3 + 2) (nI 1))) 6 (va_cpy f (sR K.2.2.2 6) 0 (j * 16) 16)) 4 (upd (upd (sR K.2.2.2 4) (j * 3 + 2) (nI 1)) (j * 3) (nI 0)) = pR (pR K.2.2.2 4 (upd (upd (sR K.2.2.2 4) (j * 3 + 2) (nI 1)) (j * 3) (nI 0))) 6 (va_cpy f (sR K.2.2.2 6) 0 (j * 16) 16) := by
                  rw [nm_rc (a := 6) (b := 4) (by decide), nm_rr]
                show cO B p K X (df_X5_open_237 n (nI p) (nI H) (nI j) (nI d) (pR K.1 0 f, (K.2.1, (K.2.2.1, pR (pR (pR K.2.2.2 4 (upd (sR K.2.2.2 4) (j * 3 + 2) (nI 1))) 6 (va_cpy f (sR K.2.2.2 6) 0 (j * 16) 16)) 4 (upd (upd (sR K.2.2.2 4) (j * 3 + 2) (nI 1)) (j * 3) (nI 0)))))) _
                rw [eD]
                by_cases p32 : nI H &&& nI 32 = nI 0
                · rw [if_pos p32]
                  obtain ⟨D', X', r1, r2, r3, r4, r5⟩ := fin _ _ j nw h2 y3 y5 j16 hH nm_us d16 hdd o48
                  rw [r1, r2]
                  exact post _ _ D' X' rfl r3 r4 r5
                · rw [if_neg p32]
                  have nw2 := rM_empty nw j16
                  have eE : upd (upd (upd (sR K.2.2.2 4) (j * 3 + 2) (nI 1)) (j * 3) (nI 0)) (j * 3) (nI 0) = upd (upd (sR K.2.2.2 4) (j * 3 + 2) (nI 1)) (j * 3) (nI 0) := nm_uu _ _ _ _
                  have eF : pR (pR (pR K.2.2.2 4 (upd (upd (sR K.2.2.2 4) (j * 3 + 2) (nI 1)) (j * 3) (nI 0))) 6 (va_cpy f (sR K.2.2.2 6) 0 (j * 16) 16)) 4 (upd (upd (upd (sR K.2.2.2 4) (j * 3 + 2) (nI 1)) (j * 3) (nI 0)) (j * 3) (nI 0)) = pR (pR K.2.2.2 4 (upd (upd (sR K.2.2.2 4) (j * 3 + 2) (nI 1)) (j * 3) (nI 0))) 6 (va_cpy f (sR K.2.2.2 6) 0 (j * 16) 16) := by
                    rw [eE, nm_rc (a := 6) (b := 4) (by decide), nm_rr]
                  have nw2 : rM B (K.2.2.1, pR (pR (pR K.2.2.2 4 (upd (upd (sR K.2.2.2 4) (j * 3 + 2) (nI 1)) (j * 3) (nI 0))) 6 (va_cpy f (sR K.2.2.2 6) 0 (j * 16) 16)) 4 (upd (upd (upd (sR K.2.2.2 4) (j * 3 + 2) (nI 1)) (j * 3) (nI 0)) (j * 3) (nI 0))) _ := nw2
                  rw [eF] at nw2
                  obtain ⟨D', X', r1, r2, r3, r4, r5⟩ := fin _ _ j nw2 h2 y3 y5 j16 hH nm_us d16 hdd o48
                  rw [r1, r2]
                  exact post _ _ D' X' rfl r3 r4 r5
              · obtain ⟨r1, r2⟩ := full2 (Or.inr (Or.inr j16))
                rw [r1, r2]
                exact full
            · obtain ⟨r1, r2⟩ := full2 (Or.inr (Or.inl o48))
              rw [r1, r2]
              exact full
          · obtain ⟨r1, r2⟩ := full2 (Or.inl d16)
            rw [r1, r2]
            exact full
    · have z1 : ¬ nI 0 ≤ w := by
        rcases e4 with e | e | e
        · exact absurd e w0
        · rw [e]; decide
        · rw [e]; decide
      have c1 : df_X5_open_71 n (nI p) a (nI H) K = some (w.toInt64, (pR K.1 0 f, K.2)) := by
        generalize nI H = v
        simp (disch := (first | assumption | decide | omega)) only [df_X5_open_71, e1, w0, eq_self, Nat.reduceEqDiff, Nat.reduceLeDiff, nl_0, nl_2, nl_8, no_1, no_1024, pk_mul, nI_add, nm_ck, nI_clamp, nI_ltI, nI_leI, nI_eq, nb_b2, nb_b1, ↓nb_let, nm_z0, nm_z1, nb_II, nb_IR, nb_RI, nb_RR, nm_IL, nm_IQ, nm_RL, nm_RQ, nm_LI, nm_LR, nm_LL, nm_LQ, nm_QI, nm_QR, nm_QL, nm_QQ, nm_rr, nm_ii, nm_eqm, not_false_eq_true, pk_sub, nm_div, nm_shl, nm_shr, nm_ush, nm_or8, nm_or64, nm_or256, nm_m1, nm_m3, nm_m7, nm_m15, nm_m31, nm_m63, nm_m255, nm_m511, nm_m1023, nm_m2047, nm_m65535, Nat.reduceMod, Nat.reducePow, Nat.reduceAdd, Nat.reduceSub, Nat.reduceMul, nm_bo, nm_bi, nm_rc, nm_ic, nm_ri, nm_rl, nm_rq, nm_ql, nm_qi, nm_li, nm_us, nm_uu, nm_cp, nm_sa31, nm_sa7, nm_m127, nm_m2, nm_nz, nm_nzk, nm_eq32, nm_nzf, if_true, if_false, ↓reduceIte, if_pos, if_neg]
      have c2 : df_X16_open_60 n a (nI H) (nI 1) X = some (w, Y) := by
        generalize nI H = v
        simp (disch := (first | assumption | decide | omega)) only [df_X16_open_60, e2, z1, eq_self, Nat.reduceEqDiff, Nat.reduceLeDiff, nl_0, nl_1, nl_2, nl_8, nl_22, no_1, no_1024, pk_mul, nI_add, nm_ck, nI_clamp, nI_ltI, nI_leI, nI_eq, nb_b2, nb_b1, ↓nb_let, nm_z0, nm_z1, nb_II, nb_IR, nb_RI, nb_RR, nm_IL, nm_IQ, nm_RL, nm_RQ, nm_LI, nm_LR, nm_LL, nm_LQ, nm_QI, nm_QR, nm_QL, nm_QQ, nm_rr, nm_ii, nm_eqm, not_false_eq_true, pk_sub, nm_div, nm_shl, nm_shr, nm_ush, nm_or8, nm_or64, nm_or256, nm_m1, nm_m3, nm_m7, nm_m15, nm_m31, nm_m63, nm_m255, nm_m511, nm_m1023, nm_m2047, nm_m65535, Nat.reduceMod, Nat.reducePow, Nat.reduceAdd, Nat.reduceSub, Nat.reduceMul, nm_bo, nm_bi, nm_rc, nm_ic, nm_ri, nm_rl, nm_rq, nm_ql, nm_qi, nm_li, nm_us, nm_uu, nm_cp, nm_sa31, nm_sa7, nm_m127, nm_m2, nm_nz, nm_nzk, nm_eq32, nm_nzf, if_true, if_false, ↓reduceIte, if_pos, if_neg]
      rw [c1, c2]
      exact same w
  · rw [(op_C n (nI p) a v K).2 g, (op_R n a v X).2 g]
    exact cO_id h (by decide)

theorem a2047 (S : Nat) : Int64.ofNat S &&& 2047 = Int64.ofNat (S % 2048) := by
  apply Int64.toBitVec_inj.mp
  rw [Int64.toBitVec_and]
  apply BitVec.eq_of_toNat_eq
  rw [BitVec.toNat_and]
  show (BitVec.ofNat 64 S).toNat &&& 2047 = (BitVec.ofNat 64 (S % 2048)).toNat
  rw [BitVec.toNat_ofNat, BitVec.toNat_ofNat, show (2047 : Nat) = 2 ^ 11 - 1 from rfl, Nat.and_two_pow_sub_one_eq_mod]
  omega
theorem t32 {k : Nat} (h : k < 2 ^ 31) : (Int64.ofNat k).toInt32 = nI k := by
  apply Int32.toInt_inj.mp
  rw [Int64.toInt_toInt32, nm_lt (by omega), nI_toInt h]
  exact Int.bmod_eq_of_le (by omega) (by omega)
theorem o1_64 (S : Nat) : Int64.ofNat S + 1 = Int64.ofNat (S + 1) := by
  apply Int64.toBitVec_inj.mp
  rw [Int64.toBitVec_add]
  apply BitVec.eq_of_toNat_eq
  rw [BitVec.toNat_add]
  show ((BitVec.ofNat 64 S).toNat + 1) % 2 ^ 64 = (BitVec.ofNat 64 (S + 1)).toNat
  rw [BitVec.toNat_ofNat, BitVec.toNat_ofNat]
  omega
theorem lc_S {S : Nat} (h : S < 2 ^ 62) : (nI 0 ≤ lg_cmp (Int64.ofNat S) 2048 ↔ 2048 ≤ S) ∧ (lg_cmp (Int64.ofNat S) 2048 < nI 0 ↔ ¬ 2048 ≤ S) := by
  have e0 : (2048 : Int64).toInt = 2048 := by decide
  have e1 : (Int64.ofNat S).toInt = S := Int64.toInt_ofNat_of_lt (by omega)
  unfold lg_cmp
  by_cases c : (2048 : Int64) < Int64.ofNat S
  · rw [if_pos c]
    rw [Int64.lt_iff_toInt_lt] at c
    exact ⟨⟨fun _ => by omega, fun _ => by decide⟩, ⟨fun y => absurd y (by decide), fun y => by omega⟩⟩
  · rw [if_neg c]
    rw [Int64.lt_iff_toInt_lt] at c
    by_cases d : Int64.ofNat S = 2048
    · rw [if_pos d]
      have := congrArg Int64.toInt d
      exact ⟨⟨fun _ => by omega, fun _ => by decide⟩, ⟨fun y => absurd y (by decide), fun y => by omega⟩⟩
    · rw [if_neg d]
      have : S ≠ 2048 := fun y => d (Int64.toInt_inj.mp (by omega))
      exact ⟨⟨fun y => absurd y (by decide), fun y => by omega⟩, ⟨fun _ => by omega, fun _ => by decide⟩⟩
/-- a byte is shown: the class -/
theorem sh_C (n : Nat) {D : St} {S : Nat} (e : sL D 0 = Int64.ofNat S) (v : Int32) : df_X10_show n v D = some (pL (pR D 8 (upd (sR D 8) (S % 2048) (vp_nar .byte (v.toInt8.toInt32)))) 0 (Int64.ofNat (S + 1))) := by
  have e1 : (Int64.ofNat S &&& 2047).toInt32 = nI (S % 2048) := by rw [a2047, t32 (by omega)]
  have u1 : S % 2048 < 2048 := by omega
  have u2 : S % 2048 < 2 ^ 31 := by omega
  unfold df_X10_show df_X10_show_0
  rw [e, e1, nm_ck u1 u2, nb_let, nb_let, nI_clamp u2]
  show some (pL (pR D 8 _) 0 (sL D 0 + 1)) = _
  rw [e, o1_64]
/-- the reference -/
theorem sh_R66 (n : Nat) {X : St × St} {S k : Nat} (hk : k < 2048) (e : sL X.1 2 = Int64.ofNat S) (v : Int32) : df_X16_show_66 n v (nI k) X = some (pL (pR X.1 32 (upd (sR X.1 32) k v)) 2 (Int64.ofNat (S + 1)), X.2) := by
  have u2 : k < 2 ^ 31 := by omega
  unfold df_X16_show_66
  rw [nm_ck hk u2, nb_let, nb_let, nI_clamp u2]
  show some (pL (pR X.1 32 _) 2 (sL X.1 2 + 1), X.2) = _
  rw [e, o1_64]
theorem sh_R (n : Nat) (hn : 20000 < n) {X : St × St} {S : Nat} (hS : S < 2 ^ 62) (e : sL X.1 2 = Int64.ofNat S) (v : Int32) : df_X16_show n v X = some (pL (pR X.1 32 (if S < 2048 then upd (sR X.1 32) S v else upd (shk (sR X.1 32) 2047) 2047 v)) 2 (Int64.ofNat (S + 1)), X.2) := by
  obtain ⟨l1, l2⟩ := lc_S hS
  by_cases c : S < 2048
  · rw [if_pos c]
    have c1 := l2.mpr (by omega)
    have c2 : ¬ nI 0 ≤ lg_cmp (Int64.ofNat S) 2048 := fun z => by have := l1.mp z; omega
    have r := sh_R66 n c e v
    unfold df_X16_show df_X16_show_0
    rw [e, show (0 : Int32) = nI 0 from rfl, if_pos c1]
    unfold df_X16_show_40
    rw [e, show (0 : Int32) = nI 0 from rfl, if_neg c2, t32 (by omega)]
    exact r
  · rw [if_neg c]
    have c1 : ¬ lg_cmp (Int64.ofNat S) 2048 < nI 0 := fun z => by have := l2.mp z; omega
    have c2 := l1.mpr (by omega)
    obtain ⟨m, hm⟩ := nm_lq (fun m k => df_X16_show_13 n m v (nI (k + 1)) (pR X.1 32 (shk (sR X.1 32) k), X.2)) 2047 n (by omega) (fun k m hk => by
      have u1 : k + 1 < 2048 := by omega
      have u2 : k + 1 < 2 ^ 31 := by omega
      have u3 : k < 2048 := by omega
      have u4 : k < 2 ^ 31 := by omega
      have k2 : ¬ 2048 ≤ k + 1 := by omega
      have u5 : 1 ≤ k + 1 := by omega
      have u6 : k + 1 - 1 = k := by omega
      have vs := shk_s (sR X.1 32) k
      show df_X16_show_13 n (m + 1) v (nI (k + 1)) _ = df_X16_show_13 n m v (nI (k + 1 + 1)) _
      rw [show df_X16_show_13 n (m + 1) = dF_X16_show_13 n (df_X16_show_13 n m) from rfl]
      generalize df_X16_show_13 n m = G
      simp (disch := (first | assumption | decide | omega)) only [dF_X16_show_13, k2, u6, vs, eq_self, Nat.reduceEqDiff, Nat.reduceLeDiff, nl_1, nl_32, nl_2048, no_1, no_1024, pk_mul, nI_add, nm_ck, nI_clamp, nI_ltI, nI_leI, nI_eq, nb_b2, nb_b1, ↓nb_let, nm_z0, nm_z1, nb_II, nb_IR, nb_RI, nb_RR, nm_IL, nm_IQ, nm_RL, nm_RQ, nm_LI, nm_LR, nm_LL, nm_LQ, nm_QI, nm_QR, nm_QL, nm_QQ, nm_rr, nm_ii, nm_eqm, not_false_eq_true, pk_sub, nm_div, nm_shl, nm_shr, nm_ush, nm_or8, nm_or64, nm_or256, nm_m1, nm_m3, nm_m7, nm_m15, nm_m31, nm_m63, nm_m255, nm_m511, nm_m1023, nm_m2047, nm_m65535, Nat.reduceMod, Nat.reducePow, Nat.reduceAdd, Nat.reduceSub, Nat.reduceMul, nm_bo, nm_bi, nm_rc, nm_ic, nm_ri, nm_rl, nm_rq, nm_ql, nm_qi, nm_li, nm_us, nm_uu, nm_cp, nm_sa31, nm_sa7, nm_m127, nm_m2, nm_nz, nm_nzk, nm_eq32, nm_nzf, if_true, if_false, ↓reduceIte, if_pos, if_neg])
    rw [shk_0, nm_r0] at hm
    have r := sh_R66 n (X := (pR X.1 32 (shk (sR X.1 32) 2047), X.2)) (show 2047 < 2048 by omega) e v
    have r : df_X16_show_66 n v (nI 2047) (pR X.1 32 (shk (sR X.1 32) 2047), X.2) = some (pL (pR (pR X.1 32 (shk (sR X.1 32) 2047)) 32 (upd (shk (sR X.1 32) 2047) 2047 v)) 2 (Int64.ofNat (S + 1)), X.2) := r
    rw [nm_rr] at r
    unfold df_X16_show df_X16_show_0
    rw [e, show (0 : Int32) = nI 0 from rfl, if_neg c1]
    refine Eq.trans (b := df_X16_show_13 n n v (nI (0 + 1)) X) rfl (Eq.trans hm ?_)
    show df_X16_show_13 n (m + 1) v (nI 2048) _ = _
    rw [show df_X16_show_13 n (m + 1) = dF_X16_show_13 n (df_X16_show_13 n m) from rfl]
    have t : ∀ G, dF_X16_show_13 n G v (nI 2048) (pR X.1 32 (shk (sR X.1 32) 2047), X.2) = df_X16_show_40 n v (pR X.1 32 (shk (sR X.1 32) 2047), X.2) := fun G => by
      simp (disch := (first | assumption | decide | omega)) only [dF_X16_show_13, eq_self, Nat.reduceEqDiff, Nat.reduceLeDiff, nl_1, nl_32, nl_2048, no_1, no_1024, pk_mul, nI_add, nm_ck, nI_clamp, nI_ltI, nI_leI, nI_eq, nb_b2, nb_b1, ↓nb_let, nm_z0, nm_z1, nb_II, nb_IR, nb_RI, nb_RR, nm_IL, nm_IQ, nm_RL, nm_RQ, nm_LI, nm_LR, nm_LL, nm_LQ, nm_QI, nm_QR, nm_QL, nm_QQ, nm_rr, nm_ii, nm_eqm, not_false_eq_true, pk_sub, nm_div, nm_shl, nm_shr, nm_ush, nm_or8, nm_or64, nm_or256, nm_m1, nm_m3, nm_m7, nm_m15, nm_m31, nm_m63, nm_m255, nm_m511, nm_m1023, nm_m2047, nm_m65535, Nat.reduceMod, Nat.reducePow, Nat.reduceAdd, Nat.reduceSub, Nat.reduceMul, nm_bo, nm_bi, nm_rc, nm_ic, nm_ri, nm_rl, nm_rq, nm_ql, nm_qi, nm_li, nm_us, nm_uu, nm_cp, nm_sa31, nm_sa7, nm_m127, nm_m2, nm_nz, nm_nzk, nm_eq32, nm_nzf, if_true, if_false, ↓reduceIte, if_pos, if_neg]
    rw [t]
    unfold df_X16_show_40
    rw [show sL (pR X.1 32 (shk (sR X.1 32) 2047), X.2).1 2 = Int64.ofNat S from e, show (0 : Int32) = nI 0 from rfl, if_pos c2]
    exact r
/-- what was shown, in both -/
def rSh (S : Nat) (sh sw : Nat → Int32) : Prop := ∀ i : Nat, i < S → i < 2048 → b8 (sh ((if S ≤ 2048 then i else S + i) % 2048)) (sw i)
theorem rSh_s {S : Nat} {sh sw : Nat → Int32} (h : rSh S sh sw) {v u : Int32} (hv : b8 v u) : rSh (S + 1) (upd sh (S % 2048) v) (if S < 2048 then upd sw S u else upd (shk sw 2047) 2047 u) := by
  intro i hi h2
  by_cases c : S < 2048
  · rw [if_pos c, if_pos (by omega)]
    by_cases d : i = S
    · rw [d, nm_us, nm_us]
      exact hv
    · rw [nm_un (by omega), nm_un d]
      have := h i (by omega) h2
      rw [if_pos (by omega)] at this
      exact this
  · rw [if_neg c, if_neg (by omega)]
    by_cases d : i = 2047
    · rw [d, nm_us, show (S + 1 + 2047) % 2048 = S % 2048 by omega, nm_us]
      exact hv
    · rw [nm_un (by omega), nm_un d, show shk sw 2047 i = sw (i + 1) from if_pos (by omega)]
      have := h (i + 1) (by omega) (by omega)
      by_cases e : S ≤ 2048
      · rw [if_pos e] at this
        rw [show (S + 1 + i) % 2048 = (i + 1) % 2048 by omega]
        exact this
      · rw [if_neg e] at this
        rw [show S + 1 + i = S + (i + 1) by omega]
        exact this

/-- a byte comes into a pipe -/
theorem rM_pp {B : Nat} {M X : St × St} (h : rM B M X) {t L o : Nat} (ht : t < 8) (hL : L < 512) (ho : o < 512) (e23 : sR X.1 23 t = nI 1) (l1 : sR M.2 2 (t * 4) = nI L) (l2 : sR X.1 26 t = nI L) (l3 : sR M.2 2 (t * 4 + 3) = nI o) {v u : Int32} (hv : b8 v u) : rM B (M.1, pR (pR M.2 2 (upd (sR M.2 2) (t * 4) (nI (L + 1)))) 3 (upd (sR M.2 3) (t * 512 + (o + L) % 512) v)) (pR (pR X.1 26 (upd (sR X.1 26) t (nI (L + 1)))) 27 (upd (sR X.1 27) (512 * t + L) u), X.2) := by
  obtain ⟨m1, m2, m3, m4, m5, m6, m7⟩ := h
  refine ⟨m1, ?_, m3, m4, m5, ⟨m6.1, fun i hi => fb_u (b8_fit hv) (m6.2.1 i hi), m6.2.2⟩, ?_⟩
  · obtain ⟨a1, a2, a3, a4⟩ := m2
    refine ⟨a1, a2, fun k hk => ?_, a4⟩
    show upd (sR M.2 2) (t * 4) (nI (L + 1)) (k * 4 + 1) = _ ∧ upd (sR M.2 2) (t * 4) (nI (L + 1)) (k * 4 + 2) = _ ∧ _
    rw [nm_un (by omega), nm_un (by omega)]
    exact a3 k hk
  · obtain ⟨t1, t2⟩ := m7
    refine ⟨fun k hk e => ?_, t2⟩
    have e : sR X.1 23 k = nI 1 := e
    obtain ⟨L', o', q1, q2, q3, q4, q5, q6⟩ := t1 k hk e
    by_cases c : k = t
    · subst c
      have eL : L' = L := nm_inI (by omega) (by omega) (q3.symm.trans l1)
      have eo : o' = o := nm_inI (by omega) (by omega) (q5.symm.trans l3)
      subst eL eo
      refine ⟨L' + 1, o', by omega, q2, nm_us, nm_us, (nm_un (by omega)).trans q5, fun i hi => ?_⟩
      show b8 (upd (sR M.2 3) (k * 512 + (o' + L') % 512) v (k * 512 + (o' + i) % 512)) (upd (sR X.1 27) (512 * k + L') u (512 * k + i))
      by_cases d : i = L'
      · rw [d, nm_us, nm_us]
        exact hv
      · rw [nm_un (by omega), nm_un (by omega)]
        exact q6 i (by omega)
    · refine ⟨L', o', q1, q2, (nm_un (by omega)).trans q3, (nm_un c).trans q4, (nm_un (by omega)).trans q5, fun i hi => ?_⟩
      show b8 (upd (sR M.2 3) (t * 512 + (o + L) % 512) v (k * 512 + (o' + i) % 512)) (upd (sR X.1 27) (512 * t + L) u (512 * k + i))
      rw [nm_un (by omega), nm_un (by omega)]
      exact q6 i hi
/-- a byte is shown -/
theorem rM_sh {B : Nat} {M X : St × St} (h : rM B M X) {v u : Int32} (hv : b8 v u) : ∃ S : Nat, S ≤ B ∧ sL M.2 0 = Int64.ofNat S ∧ sL X.1 2 = Int64.ofNat S ∧ rM (B + 1) (M.1, pL (pR M.2 8 (upd (sR M.2 8) (S % 2048) v)) 0 (Int64.ofNat (S + 1))) (pL (pR X.1 32 (if S < 2048 then upd (sR X.1 32) S u else upd (shk (sR X.1 32) 2047) 2047 u)) 2 (Int64.ofNat (S + 1)), X.2) := by
  obtain ⟨m1, m2, m3, m4, m5, m6, t1, t2, t3, t4, t5, S, hS, t6, t7⟩ := h
  refine ⟨S, hS, t5.trans t6, t6, m1, m2, m3, m4, m5, ⟨m6.1, m6.2.1, m6.2.2.1, m6.2.2.2.1, m6.2.2.2.2.1, fun i hi => fb_u (b8_fit hv) (m6.2.2.2.2.2 i hi)⟩, t1, t2, t3, t4, rfl, S + 1, by omega, rfl, ?_⟩
  exact rSh_s (S := S) (sh := sR M.2 8) (sw := sR X.1 32) t7 hv
theorem rM_up {B C : Nat} {M X : St × St} (h : rM B M X) (hc : B ≤ C) : rM C M X := by
  obtain ⟨m1, m2, m3, m4, m5, m6, t1, t2, t3, t4, t5, S, hS, t6, t7⟩ := h
  exact ⟨m1, m2, m3, m4, m5, m6, t1, t2, t3, t4, t5, S, by omega, t6, t7⟩
/-- a byte that may be read, wherever the things stand -/
theorem nk_bz (n : Nat) {M X Y : St × St} (h : rK M X) (hy : rK M Y) {p Z : Nat} (hp : p < 16) (e12 : sI Y.1 12 = nI p) (hZ : Z < 2 ^ 32) (hm : ma X p Z 1 = true) : ∃ z : Nat, z < 256 ∧ df_X6_byteAt n (nI p) (nI Z) M = some (nI z, M) ∧ df_X16_byteAt n (nI Z) Y = some (nI z, Y) := by
  rcases nk_nb n hy hp e12 Z with ⟨y1, _⟩ | ⟨z, hz, _, _, y3, y4⟩
  · have := (nk_may n h hp hZ (show 1 < 8 by omega)).1
    rw [hm, y1] at this
    have := congrArg Prod.fst (Option.some.inj this)
    exact absurd (show nI 0 = nI 1 from this) (by decide)
  · exact ⟨z, hz, y3, y4⟩
/-- the loop into a pipe -/
theorem wr_p (n : Nat) (hn : 1024 < n) {B p : Nat} {K1 K2 : St} {M X : St × St} (h : rM B M X) (hp : p < 16) (h3 : sI X.1 12 = nI p) {A N o t L : Nat} (hA : A + N ≤ 65536) (hN : N ≤ 512) (hm : ∀ j : Nat, j < N → ma X p (A + j) 1 = true) (ho : o < 48) (ht : t < 8) (ek : sR X.1 19 o = nI 2) (et : sR X.1 20 o = nI t) (el : sR X.1 26 t = nI L) (hL : L + N ≤ 512) : ∃ (D' : St) (X' : St × St), df_X5_write_185 n n (nI p) (nI A) (nI N) (nI o) (nI 2) (nI 0) (nI 0) (K1, (K2, M)) = some ((nI N).toInt64, (K1, (K2, (M.1, D')))) ∧ df_X16_write7_137 n n (nI A) (nI N) (nI o) (nI t) (nI 0) X = some (nI N, X') ∧ rM B (M.1, D') X' ∧ kX X X' ∧ sR X'.1 1 = sR X.1 1 := by
  obtain ⟨m, D', X', ⟨i1, i2, i3, i4, i5, i6⟩, f1, f2⟩ := nm_l2 (fun m k D => df_X5_write_185 n m (nI p) (nI A) (nI N) (nI o) (nI 2) (nI 0) (nI k) (K1, (K2, (M.1, D)))) (fun m k Y => df_X16_write7_137 n m (nI A) (nI N) (nI o) (nI t) (nI k) Y)
    (fun k D Y => rM B (M.1, D) Y ∧ kX X Y ∧ sR Y.1 1 = sR X.1 1 ∧ sR Y.1 19 = sR X.1 19 ∧ sR Y.1 20 = sR X.1 20 ∧ sR Y.1 26 t = nI (L + k)) N n (by omega) (fun k m D Y hk ⟨i1, i2, i3, i4, i5, i6⟩ => by
      have e12 : sI Y.1 12 = nI p := i2.2.2.1.trans h3
      obtain ⟨z, hz, z1, z2⟩ := nk_bz n (M := (M.1, D)) (X := X) (Y := Y) h.1 i1.1 hp e12 (Z := A + k) (by omega) (hm k hk)
      have ek' : sR Y.1 19 o = nI 2 := by rw [i4]; exact ek
      have et' : sR Y.1 20 o = nI t := by rw [i5]; exact et
      rcases i1.2.1.2.1 o ho with ⟨w1, _⟩ | ⟨kk, tt, y1, y2, y3, y4, y5, y6, y7, y8, _⟩
      · rw [ek'] at w1
        exact absurd w1 (by decide)
      have e1 : tt = t := nm_inI (by omega) (by omega) (y7.symm.trans et')
      subst e1
      have y8 : sR D 1 (o * 5 + 2) = nI tt := y8
      have e2 : kk = 2 := nm_inI (by omega) (by omega) (y4.symm.trans ek')
      subst e2
      have e23 : sR Y.1 23 tt = nI 1 := by
        have x1 : 0 < cE (sR Y.1 19) (sR Y.1 20) 2 tt := cN_p (P := fun j => decide (sR Y.1 19 j = nI 2 ∧ sR Y.1 20 j = nI tt)) (i := o) (decide_eq_true ⟨y4, y7⟩) ho
        rw [(i1.2.1.2.2.1 tt ht).2.2, decide_eq_true (by omega)]
        rfl
      obtain ⟨L', oo, q1, q2, q3, q4, q5, _⟩ := i1.2.2.2.2.2.2.1 tt ht e23
      have eL : L' = L + k := nm_inI (by omega) (by omega) (q4.symm.trans i6)
      subst eL
      have q3 : sR D 2 (tt * 4) = nI (L + k) := q3
      have q5 : sR D 2 (tt * 4 + 3) = nI oo := q5
      have fin := rM_pp i1 ht (L := L + k) (o := oo) (by omega) q2 e23 q3 i6 q5 (b8_z hz)
      refine ⟨_, _, ⟨fin, kX_t i2 ⟨rfl, rfl, rfl, rfl, rfl, rfl, rfl⟩, i3, i4, i5, ?_⟩, ?_, ?_⟩
      · show upd (sR Y.1 26) tt (nI (L + k + 1)) tt = _
        rw [nm_us]
        exact congrArg nI (by omega)
      · have u1 : ¬ N ≤ k := by omega
        have u2 : N < 2 ^ 31 := by omega
        have u3 : k < 2 ^ 31 := by omega
        have u4 : tt * 4 < 32 := by omega
        have u5 : tt * 4 + 3 < 32 := by omega
        have u6 : o * 5 + 2 < 240 := by omega
        have u7 : tt * 512 + (oo + (L + k)) % 512 < 4096 := by omega
        have u8 : tt * 512 + (oo + (L + k)) % 512 < 2 ^ 31 := by omega
        have u9 : oo + (L + k) < 2 ^ 32 := by omega
        show df_X5_write_185 n (m + 1) _ _ _ _ _ _ (nI k) _ = df_X5_write_185 n m _ _ _ _ _ _ (nI (k + 1)) _
        rw [show df_X5_write_185 n (m + 1) = dF_X5_write_185 n (df_X5_write_185 n m) from rfl]
        generalize df_X5_write_185 n m = G
        clear fin i1 h hm
        simp (disch := (first | assumption | decide | omega)) only [dF_X5_write_185, df_X5_write_260, df_X10_putPiped_0, df_X10_putPiped, df_X10_of_0, df_X10_of, u1, z1, y8, q3, q5, Nat.add_zero, eq_self, Nat.reduceEqDiff, Nat.reduceLeDiff, nm_rc (a := 3) (b := 2) (by decide), nl_0, nl_1, nl_2, nl_3, nl_4, nl_5, nl_32, nl_240, nl_511, nl_512, nl_4096, no_1, no_1024, pk_mul, nI_add, nm_ck, nI_clamp, nI_ltI, nI_leI, nI_eq, nb_b2, nb_b1, ↓nb_let, nm_z0, nm_z1, nb_II, nb_IR, nb_RI, nb_RR, nm_IL, nm_IQ, nm_RL, nm_RQ, nm_LI, nm_LR, nm_LL, nm_LQ, nm_QI, nm_QR, nm_QL, nm_QQ, nm_rr, nm_ii, nm_eqm, not_false_eq_true, pk_sub, nm_div, nm_shl, nm_shr, nm_ush, nm_or8, nm_or64, nm_or256, nm_m1, nm_m3, nm_m7, nm_m15, nm_m31, nm_m63, nm_m255, nm_m511, nm_m1023, nm_m2047, nm_m65535, Nat.reduceMod, Nat.reducePow, Nat.reduceAdd, Nat.reduceSub, Nat.reduceMul, nm_bo, nm_bi, nm_rc, nm_ic, nm_ri, nm_rl, nm_rq, nm_ql, nm_qi, nm_li, nm_us, nm_uu, nm_cp, nm_sa31, nm_sa7, nm_m127, nm_m2, nm_nz, nm_nzk, nm_eq32, nm_nzf, if_true, if_false, ↓reduceIte, if_pos, if_neg]
      · have u1 : ¬ N ≤ k := by omega
        have u2 : N < 2 ^ 31 := by omega
        have u3 : k < 2 ^ 31 := by omega
        have u4 : 512 * tt + (L + k) < 4096 := by omega
        have u5 : 512 * tt + (L + k) < 2 ^ 31 := by omega
        have u6 : tt < 2 ^ 31 := by omega
        show df_X16_write7_137 n (m + 1) _ _ _ _ (nI k) _ = df_X16_write7_137 n m _ _ _ _ (nI (k + 1)) _
        rw [show df_X16_write7_137 n (m + 1) = dF_X16_write7_137 n (df_X16_write7_137 n m) from rfl]
        generalize df_X16_write7_137 n m = G
        clear fin i1 h hm
        simp (disch := (first | assumption | decide | omega)) only [dF_X16_write7_137, df_X16_write7_207, u1, ek', z2, i6, eq_self, Nat.reduceEqDiff, Nat.reduceLeDiff, nm_rc (a := 27) (b := 26) (by decide), nl_1, nl_4, nl_8, nl_19, nl_26, nl_27, nl_48, nl_512, nl_4096, no_1, no_1024, pk_mul, nI_add, nm_ck, nI_clamp, nI_ltI, nI_leI, nI_eq, nb_b2, nb_b1, ↓nb_let, nm_z0, nm_z1, nb_II, nb_IR, nb_RI, nb_RR, nm_IL, nm_IQ, nm_RL, nm_RQ, nm_LI, nm_LR, nm_LL, nm_LQ, nm_QI, nm_QR, nm_QL, nm_QQ, nm_rr, nm_ii, nm_eqm, not_false_eq_true, pk_sub, nm_div, nm_shl, nm_shr, nm_ush, nm_or8, nm_or64, nm_or256, nm_m1, nm_m3, nm_m7, nm_m15, nm_m31, nm_m63, nm_m255, nm_m511, nm_m1023, nm_m2047, nm_m65535, Nat.reduceMod, Nat.reducePow, Nat.reduceAdd, Nat.reduceSub, Nat.reduceMul, nm_bo, nm_bi, nm_rc, nm_ic, nm_ri, nm_rl, nm_rq, nm_ql, nm_qi, nm_li, nm_us, nm_uu, nm_cp, nm_sa31, nm_sa7, nm_m127, nm_m2, nm_nz, nm_nzk, nm_eq32, nm_nzf, if_true, if_false, ↓reduceIte, if_pos, if_neg]) M.2 X ⟨h, kX_r X, rfl, rfl, rfl, el⟩
  have u2 : N < 2 ^ 31 := by omega
  refine ⟨D', X', Eq.trans f1 ?_, Eq.trans f2 ?_, i1, i2, i3⟩
  · show df_X5_write_185 n (m + 1) _ _ _ _ _ _ (nI N) _ = _
    rw [show df_X5_write_185 n (m + 1) = dF_X5_write_185 n (df_X5_write_185 n m) from rfl]
    generalize df_X5_write_185 n m = G
    simp (disch := (first | assumption | decide | omega)) only [dF_X5_write_185, Nat.le_refl, eq_self, Nat.reduceEqDiff, Nat.reduceLeDiff, nl_3, nl_4, no_1, no_1024, pk_mul, nI_add, nm_ck, nI_clamp, nI_ltI, nI_leI, nI_eq, nb_b2, nb_b1, ↓nb_let, nm_z0, nm_z1, nb_II, nb_IR, nb_RI, nb_RR, nm_IL, nm_IQ, nm_RL, nm_RQ, nm_LI, nm_LR, nm_LL, nm_LQ, nm_QI, nm_QR, nm_QL, nm_QQ, nm_rr, nm_ii, nm_eqm, not_false_eq_true, pk_sub, nm_div, nm_shl, nm_shr, nm_ush, nm_or8, nm_or64, nm_or256, nm_m1, nm_m3, nm_m7, nm_m15, nm_m31, nm_m63, nm_m255, nm_m511, nm_m1023, nm_m2047, nm_m65535, Nat.reduceMod, Nat.reducePow, Nat.reduceAdd, Nat.reduceSub, Nat.reduceMul, nm_bo, nm_bi, nm_rc, nm_ic, nm_ri, nm_rl, nm_rq, nm_ql, nm_qi, nm_li, nm_us, nm_uu, nm_cp, nm_sa31, nm_sa7, nm_m127, nm_m2, nm_nz, nm_nzk, nm_eq32, nm_nzf, if_true, if_false, ↓reduceIte, if_pos, if_neg]
  · show df_X16_write7_137 n (m + 1) _ _ _ _ (nI N) _ = _
    rw [show df_X16_write7_137 n (m + 1) = dF_X16_write7_137 n (df_X16_write7_137 n m) from rfl]
    generalize df_X16_write7_137 n m = G
    simp (disch := (first | assumption | decide | omega)) only [dF_X16_write7_137, Nat.le_refl, eq_self, Nat.reduceEqDiff, Nat.reduceLeDiff, nl_1, nl_4, nl_8, nl_19, nl_26, nl_27, nl_48, nl_512, nl_4096, no_1, no_1024, pk_mul, nI_add, nm_ck, nI_clamp, nI_ltI, nI_leI, nI_eq, nb_b2, nb_b1, ↓nb_let, nm_z0, nm_z1, nb_II, nb_IR, nb_RI, nb_RR, nm_IL, nm_IQ, nm_RL, nm_RQ, nm_LI, nm_LR, nm_LL, nm_LQ, nm_QI, nm_QR, nm_QL, nm_QQ, nm_rr, nm_ii, nm_eqm, not_false_eq_true, pk_sub, nm_div, nm_shl, nm_shr, nm_ush, nm_or8, nm_or64, nm_or256, nm_m1, nm_m3, nm_m7, nm_m15, nm_m31, nm_m63, nm_m255, nm_m511, nm_m1023, nm_m2047, nm_m65535, Nat.reduceMod, Nat.reducePow, Nat.reduceAdd, Nat.reduceSub, Nat.reduceMul, nm_bo, nm_bi, nm_rc, nm_ic, nm_ri, nm_rl, nm_rq, nm_ql, nm_qi, nm_li, nm_us, nm_uu, nm_cp, nm_sa31, nm_sa7, nm_m127, nm_m2, nm_nz, nm_nzk, nm_eq32, nm_nzf, if_true, if_false, ↓reduceIte, if_pos, if_neg]
/-- the loop to the console -/
theorem wr_c (n : Nat) (hn : 20000 < n) {B p : Nat} {K1 K2 : St} {M X : St × St} (h : rM B M X) (hB : B + 512 < 2 ^ 62) (hp : p < 16) (h3 : sI X.1 12 = nI p) {A N o : Nat} {t : Int32} (hA : A + N ≤ 65536) (hN : N ≤ 512) (hm : ∀ j : Nat, j < N → ma X p (A + j) 1 = true) (ho : o < 48) (ek : sR X.1 19 o = nI 4) : ∃ (D' : St) (X' : St × St), df_X5_write_185 n n (nI p) (nI A) (nI N) (nI o) (nI 4) (nI 0) (nI 0) (K1, (K2, M)) = some ((nI N).toInt64, (K1, (K2, (M.1, D')))) ∧ df_X16_write7_137 n n (nI A) (nI N) (nI o) t (nI 0) X = some (nI N, X') ∧ rM (B + N) (M.1, D') X' ∧ kX X X' ∧ sR X'.1 1 = sR X.1 1 := by
  obtain ⟨m, D', X', ⟨i1, i2, i3, i4⟩, f1, f2⟩ := nm_l2 (fun m k D => df_X5_write_185 n m (nI p) (nI A) (nI N) (nI o) (nI 4) (nI 0) (nI k) (K1, (K2, (M.1, D)))) (fun m k Y => df_X16_write7_137 n m (nI A) (nI N) (nI o) t (nI k) Y)
    (fun k D Y => rM (B + k) (M.1, D) Y ∧ kX X Y ∧ sR Y.1 1 = sR X.1 1 ∧ sR Y.1 19 = sR X.1 19) N n (by omega) (fun k m D Y hk ⟨i1, i2, i3, i4⟩ => by
      have e12 : sI Y.1 12 = nI p := i2.2.2.1.trans h3
      obtain ⟨z, hz, z1, z2⟩ := nk_bz n (M := (M.1, D)) (X := X) (Y := Y) h.1 i1.1 hp e12 (Z := A + k) (by omega) (hm k hk)
      have ek' : sR Y.1 19 o = nI 4 := by rw [i4]; exact ek
      obtain ⟨S, hS, s1, s2, s3⟩ := rM_sh i1 (b8_z hz)
      have sc := sh_C n (D := D) (S := S) s1 (nI z)
      have sr := sh_R n hn (X := Y) (S := S) (by omega) s2 (nI z)
      refine ⟨_, _, ⟨s3, kX_t i2 ⟨rfl, rfl, rfl, rfl, rfl, rfl, rfl⟩, i3, i4⟩, ?_, ?_⟩
      · have u1 : ¬ N ≤ k := by omega
        have u2 : N < 2 ^ 31 := by omega
        have u3 : k < 2 ^ 31 := by omega
        show df_X5_write_185 n (m + 1) _ _ _ _ _ _ (nI k) _ = df_X5_write_185 n m _ _ _ _ _ _ (nI (k + 1)) _
        rw [show df_X5_write_185 n (m + 1) = dF_X5_write_185 n (df_X5_write_185 n m) from rfl]
        generalize df_X5_write_185 n m = G
        clear s3 i1 h hm sr
        simp (disch := (first | assumption | decide | omega)) only [dF_X5_write_185, df_X5_write_260, u1, z1, sc, eq_self, Nat.reduceEqDiff, Nat.reduceLeDiff, nl_1, nl_3, nl_4, no_1, no_1024, pk_mul, nI_add, nm_ck, nI_clamp, nI_ltI, nI_leI, nI_eq, nb_b2, nb_b1, ↓nb_let, nm_z0, nm_z1, nb_II, nb_IR, nb_RI, nb_RR, nm_IL, nm_IQ, nm_RL, nm_RQ, nm_LI, nm_LR, nm_LL, nm_LQ, nm_QI, nm_QR, nm_QL, nm_QQ, nm_rr, nm_ii, nm_eqm, not_false_eq_true, pk_sub, nm_div, nm_shl, nm_shr, nm_ush, nm_or8, nm_or64, nm_or256, nm_m1, nm_m3, nm_m7, nm_m15, nm_m31, nm_m63, nm_m255, nm_m511, nm_m1023, nm_m2047, nm_m65535, Nat.reduceMod, Nat.reducePow, Nat.reduceAdd, Nat.reduceSub, Nat.reduceMul, nm_bo, nm_bi, nm_rc, nm_ic, nm_ri, nm_rl, nm_rq, nm_ql, nm_qi, nm_li, nm_us, nm_uu, nm_cp, nm_sa31, nm_sa7, nm_m127, nm_m2, nm_nz, nm_nzk, nm_eq32, nm_nzf, if_true, if_false, ↓reduceIte, if_pos, if_neg]
      · have u1 : ¬ N ≤ k := by omega
        have u2 : N < 2 ^ 31 := by omega
        have u3 : k < 2 ^ 31 := by omega
        have u6 : o < 2 ^ 31 := by omega
        show df_X16_write7_137 n (m + 1) _ _ _ _ (nI k) _ = df_X16_write7_137 n m _ _ _ _ (nI (k + 1)) _
        rw [show df_X16_write7_137 n (m + 1) = dF_X16_write7_137 n (df_X16_write7_137 n m) from rfl]
        generalize df_X16_write7_137 n m = G
        clear s3 i1 h hm sc
        generalize (if S < 2048 then upd (sR Y.1 32) S (nI z) else upd (shk (sR Y.1 32) 2047) 2047 (nI z)) = R at sr
        simp (disch := (first | assumption | decide | omega)) only [dF_X16_write7_137, df_X16_write7_207, u1, ek', z2, sr, eq_self, Nat.reduceEqDiff, Nat.reduceLeDiff, nl_1, nl_4, nl_8, nl_19, nl_26, nl_27, nl_48, nl_512, nl_4096, no_1, no_1024, pk_mul, nI_add, nm_ck, nI_clamp, nI_ltI, nI_leI, nI_eq, nb_b2, nb_b1, ↓nb_let, nm_z0, nm_z1, nb_II, nb_IR, nb_RI, nb_RR, nm_IL, nm_IQ, nm_RL, nm_RQ, nm_LI, nm_LR, nm_LL, nm_LQ, nm_QI, nm_QR, nm_QL, nm_QQ, nm_rr, nm_ii, nm_eqm, not_false_eq_true, pk_sub, nm_div, nm_shl, nm_shr, nm_ush, nm_or8, nm_or64, nm_or256, nm_m1, nm_m3, nm_m7, nm_m15, nm_m31, nm_m63, nm_m255, nm_m511, nm_m1023, nm_m2047, nm_m65535, Nat.reduceMod, Nat.reducePow, Nat.reduceAdd, Nat.reduceSub, Nat.reduceMul, nm_bo, nm_bi, nm_rc, nm_ic, nm_ri, nm_rl, nm_rq, nm_ql, nm_qi, nm_li, nm_us, nm_uu, nm_cp, nm_sa31, nm_sa7, nm_m127, nm_m2, nm_nz, nm_nzk, nm_eq32, nm_nzf, if_true, if_false, ↓reduceIte, if_pos, if_neg]) M.2 X ⟨h, kX_r X, rfl, rfl⟩
  have u2 : N < 2 ^ 31 := by omega
  refine ⟨D', X', Eq.trans f1 ?_, Eq.trans f2 ?_, i1, i2, i3⟩
  · show df_X5_write_185 n (m + 1) _ _ _ _ _ _ (nI N) _ = _
    rw [show df_X5_write_185 n (m + 1) = dF_X5_write_185 n (df_X5_write_185 n m) from rfl]
    generalize df_X5_write_185 n m = G
    simp (disch := (first | assumption | decide | omega)) only [dF_X5_write_185, Nat.le_refl, eq_self, Nat.reduceEqDiff, Nat.reduceLeDiff, nl_3, nl_4, no_1, no_1024, pk_mul, nI_add, nm_ck, nI_clamp, nI_ltI, nI_leI, nI_eq, nb_b2, nb_b1, ↓nb_let, nm_z0, nm_z1, nb_II, nb_IR, nb_RI, nb_RR, nm_IL, nm_IQ, nm_RL, nm_RQ, nm_LI, nm_LR, nm_LL, nm_LQ, nm_QI, nm_QR, nm_QL, nm_QQ, nm_rr, nm_ii, nm_eqm, not_false_eq_true, pk_sub, nm_div, nm_shl, nm_shr, nm_ush, nm_or8, nm_or64, nm_or256, nm_m1, nm_m3, nm_m7, nm_m15, nm_m31, nm_m63, nm_m255, nm_m511, nm_m1023, nm_m2047, nm_m65535, Nat.reduceMod, Nat.reducePow, Nat.reduceAdd, Nat.reduceSub, Nat.reduceMul, nm_bo, nm_bi, nm_rc, nm_ic, nm_ri, nm_rl, nm_rq, nm_ql, nm_qi, nm_li, nm_us, nm_uu, nm_cp, nm_sa31, nm_sa7, nm_m127, nm_m2, nm_nz, nm_nzk, nm_eq32, nm_nzf, if_true, if_false, ↓reduceIte, if_pos, if_neg]
  · show df_X16_write7_137 n (m + 1) _ _ _ _ (nI N) _ = _
    rw [show df_X16_write7_137 n (m + 1) = dF_X16_write7_137 n (df_X16_write7_137 n m) from rfl]
    generalize df_X16_write7_137 n m = G
    simp (disch := (first | assumption | decide | omega)) only [dF_X16_write7_137, Nat.le_refl, eq_self, Nat.reduceEqDiff, Nat.reduceLeDiff, nl_1, nl_4, nl_8, nl_19, nl_26, nl_27, nl_48, nl_512, nl_4096, no_1, no_1024, pk_mul, nI_add, nm_ck, nI_clamp, nI_ltI, nI_leI, nI_eq, nb_b2, nb_b1, ↓nb_let, nm_z0, nm_z1, nb_II, nb_IR, nb_RI, nb_RR, nm_IL, nm_IQ, nm_RL, nm_RQ, nm_LI, nm_LR, nm_LL, nm_LQ, nm_QI, nm_QR, nm_QL, nm_QQ, nm_rr, nm_ii, nm_eqm, not_false_eq_true, pk_sub, nm_div, nm_shl, nm_shr, nm_ush, nm_or8, nm_or64, nm_or256, nm_m1, nm_m3, nm_m7, nm_m15, nm_m31, nm_m63, nm_m255, nm_m511, nm_m1023, nm_m2047, nm_m65535, Nat.reduceMod, Nat.reducePow, Nat.reduceAdd, Nat.reduceSub, Nat.reduceMul, nm_bo, nm_bi, nm_rc, nm_ic, nm_ri, nm_rl, nm_rq, nm_ql, nm_qi, nm_li, nm_us, nm_uu, nm_cp, nm_sa31, nm_sa7, nm_m127, nm_m2, nm_nz, nm_nzk, nm_eq32, nm_nzf, if_true, if_false, ↓reduceIte, if_pos, if_neg]

/-- a file's bytes and its length change -/
theorem rM_wf {B : Nat} {M X : St × St} (h : rM B M X) {o t L P N : Nat} (ho : o < 48) (ht : t < 16) (ek : sR X.1 19 o = nI 3) (hP : P + N ≤ 512) (hL : L ≤ 512) {fd fb : Nat → Int32} (hf : ∀ j : Nat, j < L ∨ j < P + N → b8 (fd (t * 512 + j)) (fb (512 * t + j))) (h1 : ∀ i : Nat, ¬ (t * 512 ≤ i ∧ i < t * 512 + 512) → fd i = sR M.2 5 i) (h2 : ∀ i : Nat, ¬ (512 * t ≤ i ∧ i < 512 * t + 512) → fb i = sR X.1 29 i) (hy : ∀ i : Nat, i < 8192 → fb8 (fd i)) : rM B (M.1, pR (pR (pR M.2 1 (upd (sR M.2 1) (o * 5 + 3) (nI (P + N)))) 4 (upd (sR M.2 4) (t * 3) (nI (if L < P + N then P + N else L)))) 5 fd) (pR (pR (pR X.1 21 (upd (sR X.1 21) o (nI (P + N)))) 28 (upd (sR X.1 28) t (nI (if L < P + N then P + N else L)))) 29 fb, X.2) := by
  obtain ⟨m1, m2, m3, m4, m5, m6, m7⟩ := h
  refine ⟨m1, ?_, m3, m4, m5, ⟨m6.1, m6.2.1, hy, m6.2.2.2⟩, ?_⟩
  · have r := rD_nam (rD_seek m2 ho hP ek) (fi' := upd (sR M.2 4) (t * 3) (nI (if L < P + N then P + N else L))) (isf' := sR X.1 24) (nam' := sR X.1 25) (fun j hj => ⟨nm_un (by omega), (nm_un (by omega)).trans (m2.2.2.2 j hj).2.2.1, (m2.2.2.2 j hj).2.1, (m2.2.2.2 j hj).2.2.2⟩)
    exact r
  · obtain ⟨t1, t2, t3⟩ := m7
    refine ⟨t1, fun k hk e => ?_, t3⟩
    show ∃ L' : Nat, L' ≤ 512 ∧ upd (sR M.2 4) (t * 3) (nI (if L < P + N then P + N else L)) (k * 3) = nI L' ∧ upd (sR X.1 28) t (nI (if L < P + N then P + N else L)) k = nI L' ∧ ∀ i : Nat, i < L' → b8 (fd (k * 512 + i)) (fb (512 * k + i))
    by_cases c : k = t
    · rw [c, nm_us, nm_us]
      refine ⟨_, ?_, rfl, rfl, fun i hi => hf i ?_⟩
      · by_cases d : L < P + N
        · rw [if_pos d]; exact hP
        · rw [if_neg d]; exact hL
      · by_cases d : L < P + N
        · rw [if_pos d] at hi; exact Or.inr hi
        · rw [if_neg d] at hi; exact Or.inl hi
    · rw [nm_un (by omega), nm_un c]
      obtain ⟨L', q1, q2, q3, q4⟩ := t2 k hk e
      refine ⟨L', q1, q2, q3, fun i hi => ?_⟩
      rw [h1 _ (by omega), h2 _ (by omega)]
      exact q4 i hi
/-- room in a file: the class -/
theorem wf_C (n : Nat) (hn : 1024 < n) {D : St} {o t L P N : Nat} (ho : o < 48) (ht : t < 16) (hP : P + N ≤ 512) (hL : L ≤ 512) (e2 : sR D 1 (o * 5 + 2) = nI t) (el : sR D 4 (t * 3) = nI L) : df_X10_stretch n (nI o) (nI P) (nI N) D = some (pR (pR (pR D 1 (upd (sR D 1) (o * 5 + 3) (nI (P + N)))) 4 (upd (sR D 4) (t * 3) (nI (if L < P + N then P + N else L)))) 5 (fl (sR D 5) (t * 512 + L) (P - L) (vp_nar .byte 0))) := by
  have u1 : o * 5 + 2 < 240 := by omega
  have u2 : o * 5 + 3 < 240 := by omega
  have u3 : t * 3 < 48 := by omega
  have u4 : P + N < 2 ^ 31 := by omega
  have u5 : L < 2 ^ 31 := by omega
  have u6 : P < 2 ^ 31 := by omega
  obtain ⟨m, hm⟩ := nm_lq (fun m k => df_X10_stretch_25 n m (nI o) (nI P) (nI N) (nI t) (nI L) (nI (L + k)) (pR D 5 (fl (sR D 5) (t * 512 + L) k (vp_nar .byte 0)))) (P - L) n (by omega) (fun k m hk => by
    have v1 : ¬ P ≤ L + k := by omega
    have v2 : ¬ 512 ≤ L + k := by omega
    have v3 : t * 512 + (L + k) < 8192 := by omega
    have v4 : t * 512 + (L + k) < 2 ^ 31 := by omega
    have v5 : L + k < 2 ^ 31 := by omega
    have v6 : t * 512 + (L + k) = t * 512 + L + k := by omega
    rw [v6] at v3 v4
    have vs := fl_s (sR D 5) (t * 512 + L) k (vp_nar .byte 0)
    show df_X10_stretch_25 n (m + 1) _ _ _ _ _ (nI (L + k)) _ = df_X10_stretch_25 n m _ _ _ _ _ (nI (L + k + 1)) _
    rw [show df_X10_stretch_25 n (m + 1) = dF_X10_stretch_25 n (df_X10_stretch_25 n m) from rfl]
    generalize df_X10_stretch_25 n m = G
    generalize hzz : vp_nar .byte 0 = zz at vs
    have hz' : vp_nar .byte (nI 0) = zz := hzz
    clear e2 el
    simp (disch := (first | assumption | decide | omega)) only [dF_X10_stretch_25, v1, v2, v6, hz', vs, eq_self, Nat.reduceEqDiff, Nat.reduceLeDiff, nl_0, nl_1, nl_5, nl_512, nl_8192, no_1, no_1024, pk_mul, nI_add, nm_ck, nI_clamp, nI_ltI, nI_leI, nI_eq, nb_b2, nb_b1, ↓nb_let, nm_z0, nm_z1, nb_II, nb_IR, nb_RI, nb_RR, nm_IL, nm_IQ, nm_RL, nm_RQ, nm_LI, nm_LR, nm_LL, nm_LQ, nm_QI, nm_QR, nm_QL, nm_QQ, nm_rr, nm_ii, nm_eqm, not_false_eq_true, pk_sub, nm_div, nm_shl, nm_shr, nm_ush, nm_or8, nm_or64, nm_or256, nm_m1, nm_m3, nm_m7, nm_m15, nm_m31, nm_m63, nm_m255, nm_m511, nm_m1023, nm_m2047, nm_m65535, Nat.reduceMod, Nat.reducePow, Nat.reduceAdd, Nat.reduceSub, Nat.reduceMul, nm_bo, nm_bi, nm_rc, nm_ic, nm_ri, nm_rl, nm_rq, nm_ql, nm_qi, nm_li, nm_us, nm_uu, nm_cp, nm_sa31, nm_sa7, nm_m127, nm_m2, nm_nz, nm_nzk, nm_eq32, nm_nzf, if_true, if_false, ↓reduceIte, if_pos, if_neg])
  rw [fl_0, nm_r0] at hm
  have e0 : df_X10_stretch n (nI o) (nI P) (nI N) D = df_X10_stretch_25 n n (nI o) (nI P) (nI N) (nI t) (nI L) (nI (L + 0)) D := by
    rw [Nat.add_zero]
    simp (disch := (first | assumption | decide | omega)) only [df_X10_stretch, df_X10_stretch_0, df_X10_of_0, df_X10_of, e2, el, Nat.add_zero, eq_self, Nat.reduceEqDiff, Nat.reduceLeDiff, nl_0, nl_1, nl_2, nl_3, nl_4, nl_5, nl_48, nl_240, no_1, no_1024, pk_mul, nI_add, nm_ck, nI_clamp, nI_ltI, nI_leI, nI_eq, nb_b2, nb_b1, ↓nb_let, nm_z0, nm_z1, nb_II, nb_IR, nb_RI, nb_RR, nm_IL, nm_IQ, nm_RL, nm_RQ, nm_LI, nm_LR, nm_LL, nm_LQ, nm_QI, nm_QR, nm_QL, nm_QQ, nm_rr, nm_ii, nm_eqm, not_false_eq_true, pk_sub, nm_div, nm_shl, nm_shr, nm_ush, nm_or8, nm_or64, nm_or256, nm_m1, nm_m3, nm_m7, nm_m15, nm_m31, nm_m63, nm_m255, nm_m511, nm_m1023, nm_m2047, nm_m65535, Nat.reduceMod, Nat.reducePow, Nat.reduceAdd, Nat.reduceSub, Nat.reduceMul, nm_bo, nm_bi, nm_rc, nm_ic, nm_ri, nm_rl, nm_rq, nm_ql, nm_qi, nm_li, nm_us, nm_uu, nm_cp, nm_sa31, nm_sa7, nm_m127, nm_m2, nm_nz, nm_nzk, nm_eq32, nm_nzf, if_true, if_false, ↓reduceIte, if_pos, if_neg]
  rw [e0]
  refine Eq.trans hm ?_
  show df_X10_stretch_25 n (m + 1) _ _ _ _ _ (nI (L + (P - L))) _ = _
  rw [show df_X10_stretch_25 n (m + 1) = dF_X10_stretch_25 n (df_X10_stretch_25 n m) from rfl]
  generalize df_X10_stretch_25 n m = G
  generalize fl (sR D 5) (t * 512 + L) (P - L) (vp_nar .byte 0) = F
  have v1 : P ≤ L + (P - L) := by omega
  have v2 : L + (P - L) < 2 ^ 31 := by omega
  by_cases c : L < P + N
  · rw [if_pos c]
    simp (disch := (first | assumption | decide | omega)) only [dF_X10_stretch_25, df_X10_stretch_60, v1, c, Nat.add_zero, eq_self, Nat.reduceEqDiff, Nat.reduceLeDiff, nm_rc (a := 4) (b := 1) (by decide), nm_rc (a := 5) (b := 1) (by decide), nm_rc (a := 5) (b := 4) (by decide), nl_0, nl_1, nl_3, nl_4, nl_5, nl_48, nl_240, nl_512, nl_8192, no_1, no_1024, pk_mul, nI_add, nm_ck, nI_clamp, nI_ltI, nI_leI, nI_eq, nb_b2, nb_b1, ↓nb_let, nm_z0, nm_z1, nb_II, nb_IR, nb_RI, nb_RR, nm_IL, nm_IQ, nm_RL, nm_RQ, nm_LI, nm_LR, nm_LL, nm_LQ, nm_QI, nm_QR, nm_QL, nm_QQ, nm_rr, nm_ii, nm_eqm, not_false_eq_true, pk_sub, nm_div, nm_shl, nm_shr, nm_ush, nm_or8, nm_or64, nm_or256, nm_m1, nm_m3, nm_m7, nm_m15, nm_m31, nm_m63, nm_m255, nm_m511, nm_m1023, nm_m2047, nm_m65535, Nat.reduceMod, Nat.reducePow, Nat.reduceAdd, Nat.reduceSub, Nat.reduceMul, nm_bo, nm_bi, nm_rc, nm_ic, nm_ri, nm_rl, nm_rq, nm_ql, nm_qi, nm_li, nm_us, nm_uu, nm_cp, nm_sa31, nm_sa7, nm_m127, nm_m2, nm_nz, nm_nzk, nm_eq32, nm_nzf, if_true, if_false, ↓reduceIte, if_pos, if_neg]
  · rw [if_neg c]
    simp (disch := (first | assumption | decide | omega)) only [dF_X10_stretch_25, df_X10_stretch_60, v1, c, Nat.add_zero, eq_self, Nat.reduceEqDiff, Nat.reduceLeDiff, nm_rc (a := 4) (b := 1) (by decide), nm_rc (a := 5) (b := 1) (by decide), nm_rc (a := 5) (b := 4) (by decide), nl_0, nl_1, nl_3, nl_4, nl_5, nl_48, nl_240, nl_512, nl_8192, no_1, no_1024, pk_mul, nI_add, nm_ck, nI_clamp, nI_ltI, nI_leI, nI_eq, nb_b2, nb_b1, ↓nb_let, nm_z0, nm_z1, nb_II, nb_IR, nb_RI, nb_RR, nm_IL, nm_IQ, nm_RL, nm_RQ, nm_LI, nm_LR, nm_LL, nm_LQ, nm_QI, nm_QR, nm_QL, nm_QQ, nm_rr, nm_ii, nm_eqm, not_false_eq_true, pk_sub, nm_div, nm_shl, nm_shr, nm_ush, nm_or8, nm_or64, nm_or256, nm_m1, nm_m3, nm_m7, nm_m15, nm_m31, nm_m63, nm_m255, nm_m511, nm_m1023, nm_m2047, nm_m65535, Nat.reduceMod, Nat.reducePow, Nat.reduceAdd, Nat.reduceSub, Nat.reduceMul, nm_bo, nm_bi, nm_rc, nm_ic, nm_ri, nm_rl, nm_rq, nm_ql, nm_qi, nm_li, nm_us, nm_uu, nm_cp, nm_sa31, nm_sa7, nm_m127, nm_m2, nm_nz, nm_nzk, nm_eq32, nm_nzf, if_true, if_false, ↓reduceIte, if_pos, if_neg]
/-- the reference's zeros -/
theorem wf_R (n : Nat) (hn : 1024 < n) {X : St × St} {t L P N : Nat} {x1 x3 : Int32} (ht : t < 16) (hP : P + N ≤ 512) (hL : L ≤ 512) : df_X16_writeFile_57 n n x1 (nI t) x3 (nI N) (nI P) (nI L) X = df_X16_writeFile_87 n n x1 (nI t) x3 (nI N) (nI P) (nI 0) (pR X.1 29 (fl (sR X.1 29) (512 * t + L) (P - L) (nI 0)), X.2) := by
  have u5 : L < 2 ^ 31 := by omega
  have u6 : P < 2 ^ 31 := by omega
  obtain ⟨m, hm⟩ := nm_lq (fun m k => df_X16_writeFile_57 n m x1 (nI t) x3 (nI N) (nI P) (nI (L + k)) (pR X.1 29 (fl (sR X.1 29) (512 * t + L) k (nI 0)), X.2)) (P - L) n (by omega) (fun k m hk => by
    have v1 : ¬ P ≤ L + k := by omega
    have v3 : 512 * t + (L + k) < 8192 := by omega
    have v4 : 512 * t + (L + k) < 2 ^ 31 := by omega
    have v5 : L + k < 2 ^ 31 := by omega
    have v6 : 512 * t + (L + k) = 512 * t + L + k := by omega
    have vs := fl_s (sR X.1 29) (512 * t + L) k (nI 0)
    show df_X16_writeFile_57 n (m + 1) _ _ _ _ _ (nI (L + k)) _ = df_X16_writeFile_57 n m _ _ _ _ _ (nI (L + k + 1)) _
    rw [show df_X16_writeFile_57 n (m + 1) = dF_X16_writeFile_57 n (df_X16_writeFile_57 n m) from rfl]
    generalize df_X16_writeFile_57 n m = G
    simp (disch := (first | assumption | decide | omega)) only [dF_X16_writeFile_57, v1, v6, vs, eq_self, Nat.reduceEqDiff, Nat.reduceLeDiff, nl_0, nl_1, nl_29, nl_512, nl_8192, no_1, no_1024, pk_mul, nI_add, nm_ck, nI_clamp, nI_ltI, nI_leI, nI_eq, nb_b2, nb_b1, ↓nb_let, nm_z0, nm_z1, nb_II, nb_IR, nb_RI, nb_RR, nm_IL, nm_IQ, nm_RL, nm_RQ, nm_LI, nm_LR, nm_LL, nm_LQ, nm_QI, nm_QR, nm_QL, nm_QQ, nm_rr, nm_ii, nm_eqm, not_false_eq_true, pk_sub, nm_div, nm_shl, nm_shr, nm_ush, nm_or8, nm_or64, nm_or256, nm_m1, nm_m3, nm_m7, nm_m15, nm_m31, nm_m63, nm_m255, nm_m511, nm_m1023, nm_m2047, nm_m65535, Nat.reduceMod, Nat.reducePow, Nat.reduceAdd, Nat.reduceSub, Nat.reduceMul, nm_bo, nm_bi, nm_rc, nm_ic, nm_ri, nm_rl, nm_rq, nm_ql, nm_qi, nm_li, nm_us, nm_uu, nm_cp, nm_sa31, nm_sa7, nm_m127, nm_m2, nm_nz, nm_nzk, nm_eq32, nm_nzf, if_true, if_false, ↓reduceIte, if_pos, if_neg])
  rw [fl_0, nm_r0] at hm
  refine Eq.trans (b := df_X16_writeFile_57 n n x1 (nI t) x3 (nI N) (nI P) (nI (L + 0)) X) (by rw [Nat.add_zero]) (Eq.trans hm ?_)
  show df_X16_writeFile_57 n (m + 1) _ _ _ _ _ (nI (L + (P - L))) _ = _
  rw [show df_X16_writeFile_57 n (m + 1) = dF_X16_writeFile_57 n (df_X16_writeFile_57 n m) from rfl]
  generalize df_X16_writeFile_57 n m = G
  have v1 : P ≤ L + (P - L) := by omega
  have v2 : L + (P - L) < 2 ^ 31 := by omega
  simp (disch := (first | assumption | decide | omega)) only [dF_X16_writeFile_57, v1, eq_self, Nat.reduceEqDiff, Nat.reduceLeDiff, nl_0, nl_1, nl_29, nl_512, nl_8192, no_1, no_1024, pk_mul, nI_add, nm_ck, nI_clamp, nI_ltI, nI_leI, nI_eq, nb_b2, nb_b1, ↓nb_let, nm_z0, nm_z1, nb_II, nb_IR, nb_RI, nb_RR, nm_IL, nm_IQ, nm_RL, nm_RQ, nm_LI, nm_LR, nm_LL, nm_LQ, nm_QI, nm_QR, nm_QL, nm_QQ, nm_rr, nm_ii, nm_eqm, not_false_eq_true, pk_sub, nm_div, nm_shl, nm_shr, nm_ush, nm_or8, nm_or64, nm_or256, nm_m1, nm_m3, nm_m7, nm_m15, nm_m31, nm_m63, nm_m255, nm_m511, nm_m1023, nm_m2047, nm_m65535, Nat.reduceMod, Nat.reducePow, Nat.reduceAdd, Nat.reduceSub, Nat.reduceMul, nm_bo, nm_bi, nm_rc, nm_ic, nm_ri, nm_rl, nm_rq, nm_ql, nm_qi, nm_li, nm_us, nm_uu, nm_cp, nm_sa31, nm_sa7, nm_m127, nm_m2, nm_nz, nm_nzk, nm_eq32, nm_nzf, if_true, if_false, ↓reduceIte, if_pos, if_neg]
theorem wf_p {s L P N i e : Nat} (hP : P + N ≤ e) (h : ¬ (s ≤ i ∧ i < s + e)) : ¬ (s + L ≤ i ∧ i < s + L + (P - L)) := fun z => by
  rcases Nat.le_total L P with c | c
  · obtain ⟨q, rfl⟩ : ∃ q : Nat, P = L + q := ⟨P - L, by omega⟩
    rw [Nat.add_sub_cancel_left] at z
    exact h ⟨by omega, by omega⟩
  · rw [Nat.sub_eq_zero_of_le c] at z
    omega
theorem wf_o {t L P N i : Nat} (hP : P + N ≤ 512) (h : ¬ (t * 512 ≤ i ∧ i < t * 512 + 512)) : ¬ (t * 512 + L ≤ i ∧ i < t * 512 + L + (P - L)) := wf_p hP h
theorem wf_o' {t L P N i : Nat} (hP : P + N ≤ 512) (h : ¬ (512 * t ≤ i ∧ i < 512 * t + 512)) : ¬ (512 * t + L ≤ i ∧ i < 512 * t + L + (P - L)) := wf_p hP h
/-- the loop into a file -/
theorem wr_f (n : Nat) (hn : 1024 < n) {B p : Nat} {K1 K2 : St} {M X : St × St} (h : rM B M X) (hp : p < 16) (h3 : sI X.1 12 = nI p) {A N o t L P : Nat} (hA : A + N ≤ 65536) (hN1 : 1 ≤ N) (hm : ∀ j : Nat, j < N → ma X p (A + j) 1 = true) (ho : o < 48) (ht : t < 16) (ek : sR X.1 19 o = nI 3) (et : sR M.2 1 (o * 5 + 2) = nI t) (el : sR M.2 4 (t * 3) = nI L) (el' : sR X.1 28 t = nI L) (hL : L ≤ 512) (hP : P + N ≤ 512) (hf : ∀ i : Nat, i < L → b8 (sR M.2 5 (t * 512 + i)) (sR X.1 29 (512 * t + i))) : ∃ (D' : St) (X' : St × St), nd_b1 (df_X10_stretch n (nI o) (nI P) (nI N) M.2) (fun D => df_X5_write_185 n n (nI p) (nI A) (nI N) (nI o) (nI 3) (nI P) (nI 0) (K1, (K2, (M.1, D)))) = some ((nI N).toInt64, (K1, (K2, (M.1, D')))) ∧ df_X16_writeFile_57 n n (nI o) (nI t) (nI A) (nI N) (nI P) (nI L) X = some (nI N, X') ∧ rM B (M.1, D') X' ∧ kX X X' ∧ sR X'.1 1 = sR X.1 1 := by
  have sC := wf_C n hn (D := M.2) ho ht hP hL et el
  have sR' := wf_R n hn (X := X) (t := t) (L := L) (P := P) (N := N) (x1 := nI o) (x3 := nI A) ht hP hL
  rw [sC, nb_b1, sR']
  clear sC sR'
  have D1t : sR (pR (pR M.2 1 (upd (sR M.2 1) (o * 5 + 3) (nI (P + N)))) 4 (upd (sR M.2 4) (t * 3) (nI (if L < P + N then P + N else L)))) 1 (o * 5 + 2) = nI t := by
    show upd (sR M.2 1) (o * 5 + 3) _ (o * 5 + 2) = _
    rw [nm_un (by omega)]
    exact et
  obtain ⟨m, D', X', ⟨fd, fb, eD, eX, i1, i2, i3, i4⟩, f1, f2⟩ := nm_l2 (fun m k D => df_X5_write_185 n m (nI p) (nI A) (nI N) (nI o) (nI 3) (nI P) (nI k) (K1, (K2, (M.1, D)))) (fun m k Y => df_X16_writeFile_87 n m (nI o) (nI t) (nI A) (nI N) (nI P) (nI k) Y)
    (fun k D Y => ∃ fd fb : Nat → Int32, D = pR (pR (pR M.2 1 (upd (sR M.2 1) (o * 5 + 3) (nI (P + N)))) 4 (upd (sR M.2 4) (t * 3) (nI (if L < P + N then P + N else L)))) 5 fd ∧ Y = (pR X.1 29 fb, X.2) ∧ (∀ j : Nat, j < L ∨ j < P + k → b8 (fd (t * 512 + j)) (fb (512 * t + j))) ∧ (∀ i : Nat, ¬ (t * 512 ≤ i ∧ i < t * 512 + 512) → fd i = sR M.2 5 i) ∧ (∀ i : Nat, ¬ (512 * t ≤ i ∧ i < 512 * t + 512) → fb i = sR X.1 29 i) ∧ ∀ i : Nat, i < 8192 → fb8 (fd i)) N n (by omega) (fun k m D Y hk ⟨fd, fb, eD, eX, i1, i2, i3, i4⟩ => by
      subst eD eX
      have e12 : sI (pR X.1 29 fb, X.2).1 12 = nI p := h3
      obtain ⟨z, hz, z1, z2⟩ := nk_bz n (M := (M.1, pR (pR (pR M.2 1 (upd (sR M.2 1) (o * 5 + 3) (nI (P + N)))) 4 (upd (sR M.2 4) (t * 3) (nI (if L < P + N then P + N else L)))) 5 fd)) (X := X) (Y := (pR X.1 29 fb, X.2)) h.1 h.1 hp e12 (Z := A + k) (by omega) (hm k hk)
      refine ⟨_, _, ⟨upd fd (t * 512 + (P + k)) (vp_nar .byte ((nI z).toInt8.toInt32)), upd fb (512 * t + P + k) (nI z), rfl, rfl, fun j hj => ?_, fun i hi => ?_, fun i hi => ?_, fun i hi => fb_u (b8_fit (b8_z hz)) (i4 i hi)⟩, ?_, ?_⟩
      · by_cases c : j = P + k
        · rw [c, nm_us, show 512 * t + (P + k) = 512 * t + P + k by omega, nm_us]
          exact b8_z hz
        · rw [nm_un (by omega), nm_un (by omega)]
          exact i1 j (by omega)
      · rw [nm_un (by omega)]; exact i2 i hi
      · rw [nm_un (by omega)]; exact i3 i hi
      · have u1 : ¬ N ≤ k := by omega
        have u2 : N < 2 ^ 31 := by omega
        have u3 : k < 2 ^ 31 := by omega
        have u4 : t * 512 + (P + k) < 8192 := by omega
        have u5 : t * 512 + (P + k) < 2 ^ 31 := by omega
        have u6 : o * 5 + 2 < 240 := by omega
        have u7 : (P + k) % 512 = P + k := by omega
        have u8 : P + k < 2 ^ 32 := by omega
        show df_X5_write_185 n (m + 1) _ _ _ _ _ _ (nI k) _ = df_X5_write_185 n m _ _ _ _ _ _ (nI (k + 1)) _
        rw [show df_X5_write_185 n (m + 1) = dF_X5_write_185 n (df_X5_write_185 n m) from rfl]
        generalize df_X5_write_185 n m = G
        clear h hm i1 i2 i3 i4 hf
        generalize pR (pR M.2 1 (upd (sR M.2 1) (o * 5 + 3) (nI (P + N)))) 4 (upd (sR M.2 4) (t * 3) (nI (if L < P + N then P + N else L))) = D1 at D1t z1
        simp (disch := (first | assumption | decide | omega)) only [dF_X5_write_185, df_X5_write_260, df_X10_putFiled_0, df_X10_putFiled, df_X10_of_0, df_X10_of, u1, z1, D1t, u7, eq_self, Nat.reduceEqDiff, Nat.reduceLeDiff, nl_1, nl_2, nl_3, nl_4, nl_5, nl_240, nl_511, nl_512, nl_8192, no_1, no_1024, pk_mul, nI_add, nm_ck, nI_clamp, nI_ltI, nI_leI, nI_eq, nb_b2, nb_b1, ↓nb_let, nm_z0, nm_z1, nb_II, nb_IR, nb_RI, nb_RR, nm_IL, nm_IQ, nm_RL, nm_RQ, nm_LI, nm_LR, nm_LL, nm_LQ, nm_QI, nm_QR, nm_QL, nm_QQ, nm_rr, nm_ii, nm_eqm, not_false_eq_true, pk_sub, nm_div, nm_shl, nm_shr, nm_ush, nm_or8, nm_or64, nm_or256, nm_m1, nm_m3, nm_m7, nm_m15, nm_m31, nm_m63, nm_m255, nm_m511, nm_m1023, nm_m2047, nm_m65535, Nat.reduceMod, Nat.reducePow, Nat.reduceAdd, Nat.reduceSub, Nat.reduceMul, nm_bo, nm_bi, nm_rc, nm_ic, nm_ri, nm_rl, nm_rq, nm_ql, nm_qi, nm_li, nm_us, nm_uu, nm_cp, nm_sa31, nm_sa7, nm_m127, nm_m2, nm_nz, nm_nzk, nm_eq32, nm_nzf, if_true, if_false, ↓reduceIte, if_pos, if_neg]
      · have u1 : ¬ N ≤ k := by omega
        have u2 : N < 2 ^ 31 := by omega
        have u3 : k < 2 ^ 31 := by omega
        have u4 : 512 * t + P + k < 8192 := by omega
        have u5 : 512 * t + P + k < 2 ^ 31 := by omega
        show df_X16_writeFile_87 n (m + 1) _ _ _ _ _ (nI k) _ = df_X16_writeFile_87 n m _ _ _ _ _ (nI (k + 1)) _
        rw [show df_X16_writeFile_87 n (m + 1) = dF_X16_writeFile_87 n (df_X16_writeFile_87 n m) from rfl]
        generalize df_X16_writeFile_87 n m = G
        clear h hm i1 i2 i3 i4 hf
        simp (disch := (first | assumption | decide | omega)) only [dF_X16_writeFile_87, u1, z2, eq_self, Nat.reduceEqDiff, Nat.reduceLeDiff, nl_1, nl_16, nl_21, nl_28, nl_29, nl_48, nl_512, nl_8192, no_1, no_1024, pk_mul, nI_add, nm_ck, nI_clamp, nI_ltI, nI_leI, nI_eq, nb_b2, nb_b1, ↓nb_let, nm_z0, nm_z1, nb_II, nb_IR, nb_RI, nb_RR, nm_IL, nm_IQ, nm_RL, nm_RQ, nm_LI, nm_LR, nm_LL, nm_LQ, nm_QI, nm_QR, nm_QL, nm_QQ, nm_rr, nm_ii, nm_eqm, not_false_eq_true, pk_sub, nm_div, nm_shl, nm_shr, nm_ush, nm_or8, nm_or64, nm_or256, nm_m1, nm_m3, nm_m7, nm_m15, nm_m31, nm_m63, nm_m255, nm_m511, nm_m1023, nm_m2047, nm_m65535, Nat.reduceMod, Nat.reducePow, Nat.reduceAdd, Nat.reduceSub, Nat.reduceMul, nm_bo, nm_bi, nm_rc, nm_ic, nm_ri, nm_rl, nm_rq, nm_ql, nm_qi, nm_li, nm_us, nm_uu, nm_cp, nm_sa31, nm_sa7, nm_m127, nm_m2, nm_nz, nm_nzk, nm_eq32, nm_nzf, if_true, if_false, ↓reduceIte, if_pos, if_neg]) (pR (pR (pR M.2 1 (upd (sR M.2 1) (o * 5 + 3) (nI (P + N)))) 4 (upd (sR M.2 4) (t * 3) (nI (if L < P + N then P + N else L)))) 5 (fl (sR M.2 5) (t * 512 + L) (P - L) (vp_nar .byte 0))) (pR X.1 29 (fl (sR X.1 29) (512 * t + L) (P - L) (nI 0)), X.2) ⟨_, _, rfl, rfl, fun j hj => by
      by_cases c : j < L
      · rw [fl_o (by omega), fl_o (by omega)]
        exact hf j c
      · rw [fl_i (by omega), fl_i (by omega)]
        exact b8_0, fun i hi => fl_o (wf_o hP hi), fun i hi => fl_o (wf_o' hP hi), fun i hi => by
      by_cases c : t * 512 + L ≤ i ∧ i < t * 512 + L + (P - L)
      · rw [fl_i c]; exact b8_fit b8_0
      · rw [fl_o c]; exact h.2.2.2.2.2.1.2.2.1 i hi⟩
  subst eD eX
  have u2 : N < 2 ^ 31 := by omega
  have u3 : P + N < 2 ^ 31 := by omega
  have u4 : L < 2 ^ 31 := by omega
  have u5 : t < 2 ^ 31 := by omega
  have u6 : o < 2 ^ 31 := by omega
  refine ⟨_, _, Eq.trans f1 ?_, Eq.trans f2 ?_, rM_wf h ho ht ek hP hL i1 i2 i3 i4, ⟨rfl, rfl, rfl, rfl, rfl, rfl, rfl⟩, rfl⟩
  · show df_X5_write_185 n (m + 1) _ _ _ _ _ _ (nI N) _ = _
    rw [show df_X5_write_185 n (m + 1) = dF_X5_write_185 n (df_X5_write_185 n m) from rfl]
    generalize df_X5_write_185 n m = G
    simp (disch := (first | assumption | decide | omega)) only [dF_X5_write_185, Nat.le_refl, eq_self, Nat.reduceEqDiff, Nat.reduceLeDiff, nl_3, nl_4, no_1, no_1024, pk_mul, nI_add, nm_ck, nI_clamp, nI_ltI, nI_leI, nI_eq, nb_b2, nb_b1, ↓nb_let, nm_z0, nm_z1, nb_II, nb_IR, nb_RI, nb_RR, nm_IL, nm_IQ, nm_RL, nm_RQ, nm_LI, nm_LR, nm_LL, nm_LQ, nm_QI, nm_QR, nm_QL, nm_QQ, nm_rr, nm_ii, nm_eqm, not_false_eq_true, pk_sub, nm_div, nm_shl, nm_shr, nm_ush, nm_or8, nm_or64, nm_or256, nm_m1, nm_m3, nm_m7, nm_m15, nm_m31, nm_m63, nm_m255, nm_m511, nm_m1023, nm_m2047, nm_m65535, Nat.reduceMod, Nat.reducePow, Nat.reduceAdd, Nat.reduceSub, Nat.reduceMul, nm_bo, nm_bi, nm_rc, nm_ic, nm_ri, nm_rl, nm_rq, nm_ql, nm_qi, nm_li, nm_us, nm_uu, nm_cp, nm_sa31, nm_sa7, nm_m127, nm_m2, nm_nz, nm_nzk, nm_eq32, nm_nzf, if_true, if_false, ↓reduceIte, if_pos, if_neg]
  · show df_X16_writeFile_87 n (m + 1) _ _ _ _ _ (nI N) _ = _
    rw [show df_X16_writeFile_87 n (m + 1) = dF_X16_writeFile_87 n (df_X16_writeFile_87 n m) from rfl]
    generalize df_X16_writeFile_87 n m = G
    clear f1 f2 h hm i1 i2 i3 hf
    by_cases c : L < P + N
    · rw [if_pos c]
      have c' : ¬ P + N ≤ L := by omega
      simp (disch := (first | assumption | decide | omega)) only [dF_X16_writeFile_87, df_X16_writeFile_168, Nat.le_refl, el', c', eq_self, Nat.reduceEqDiff, Nat.reduceLeDiff, nm_rc (a := 28) (b := 21) (by decide), nm_rc (a := 29) (b := 21) (by decide), nm_rc (a := 29) (b := 28) (by decide), nl_1, nl_16, nl_21, nl_28, nl_29, nl_48, nl_512, nl_8192, no_1, no_1024, pk_mul, nI_add, nm_ck, nI_clamp, nI_ltI, nI_leI, nI_eq, nb_b2, nb_b1, ↓nb_let, nm_z0, nm_z1, nb_II, nb_IR, nb_RI, nb_RR, nm_IL, nm_IQ, nm_RL, nm_RQ, nm_LI, nm_LR, nm_LL, nm_LQ, nm_QI, nm_QR, nm_QL, nm_QQ, nm_rr, nm_ii, nm_eqm, not_false_eq_true, pk_sub, nm_div, nm_shl, nm_shr, nm_ush, nm_or8, nm_or64, nm_or256, nm_m1, nm_m3, nm_m7, nm_m15, nm_m31, nm_m63, nm_m255, nm_m511, nm_m1023, nm_m2047, nm_m65535, Nat.reduceMod, Nat.reducePow, Nat.reduceAdd, Nat.reduceSub, Nat.reduceMul, nm_bo, nm_bi, nm_rc, nm_ic, nm_ri, nm_rl, nm_rq, nm_ql, nm_qi, nm_li, nm_us, nm_uu, nm_cp, nm_sa31, nm_sa7, nm_m127, nm_m2, nm_nz, nm_nzk, nm_eq32, nm_nzf, if_true, if_false, ↓reduceIte, if_pos, if_neg]
    · rw [if_neg c]
      have c' : P + N ≤ L := by omega
      simp (disch := (first | assumption | decide | omega)) only [dF_X16_writeFile_87, df_X16_writeFile_168, Nat.le_refl, el', c', eq_self, Nat.reduceEqDiff, Nat.reduceLeDiff, nm_rc (a := 28) (b := 21) (by decide), nm_rc (a := 29) (b := 21) (by decide), nm_rc (a := 29) (b := 28) (by decide), nl_1, nl_16, nl_21, nl_28, nl_29, nl_48, nl_512, nl_8192, no_1, no_1024, pk_mul, nI_add, nm_ck, nI_clamp, nI_ltI, nI_leI, nI_eq, nb_b2, nb_b1, ↓nb_let, nm_z0, nm_z1, nb_II, nb_IR, nb_RI, nb_RR, nm_IL, nm_IQ, nm_RL, nm_RQ, nm_LI, nm_LR, nm_LL, nm_LQ, nm_QI, nm_QR, nm_QL, nm_QQ, nm_rr, nm_ii, nm_eqm, not_false_eq_true, pk_sub, nm_div, nm_shl, nm_shr, nm_ush, nm_or8, nm_or64, nm_or256, nm_m1, nm_m3, nm_m7, nm_m15, nm_m31, nm_m63, nm_m255, nm_m511, nm_m1023, nm_m2047, nm_m65535, Nat.reduceMod, Nat.reducePow, Nat.reduceAdd, Nat.reduceSub, Nat.reduceMul, nm_bo, nm_bi, nm_rc, nm_ic, nm_ri, nm_rl, nm_rq, nm_ql, nm_qi, nm_li, nm_us, nm_uu, nm_cp, nm_sa31, nm_sa7, nm_m127, nm_m2, nm_nz, nm_nzk, nm_eq32, nm_nzf, if_true, if_false, ↓reduceIte, if_pos, if_neg]

theorem cO_up {B C p : Nat} {K : St × (St × (St × St))} {X : St × St} {oc : Option (Int64 × (St × (St × (St × St))))} {or : Option (Int32 × (St × St))} (h : cO B p K X oc or) (hc : B ≤ C) : cO C p K X oc or := by
  obtain ⟨v64, v, K1, M', X', e1, e2, e3, e4⟩ := h
  exact ⟨v64, v, K1, M', X', e1, e2, rM_up e3 hc, e4⟩
/-- whether writing waits, at a pipe that is read -/
theorem nk_ww2 (n : Nat) (hn : 1024 < n) {D : St} {X : St × St} (h : rD (sR D 0) (sR D 1) (sR D 2) (sR D 4) (sR X.1 14) (sR X.1 19) (sR X.1 20) (sR X.1 21) (sR X.1 22) (sR X.1 23) (sR X.1 24) (sR X.1 25)) {o N t L : Nat} (ho : o < 48) (ht : t < 8) (hN : N ≤ 512) (hL : L ≤ 512) (ek : sR X.1 19 o = nI 2) (et : sR X.1 20 o = nI t) (l1 : sR D 2 (t * 4) = nI L) (l2 : sR X.1 26 t = nI L) (x0 : ¬ cE (sR X.1 19) (sR X.1 20) 1 t = 0) : df_X10_writeWaits n (nI o) (nI N) D = some (bI (decide (¬ L + N ≤ 512)), D) ∧ df_X16_waits n (nI o) (nI 0) (nI N) X = some (bI (decide (¬ L + N ≤ 512)), X) := by
  rcases h.2.1 o ho with ⟨z1, _⟩ | ⟨k, tt, y1, y2, y3, y4, y5, y6, y7, y8, y9, y10, _⟩
  · rw [ek] at z1
    exact absurd z1 (by decide)
  have ek2 : k = 2 := nm_inI (by omega) (by omega) (y4.symm.trans ek)
  subst ek2
  have et2 : tt = t := nm_inI (by omega) (by omega) (y7.symm.trans et)
  subst et2
  have u1 : o * 5 < 240 := by omega
  have u2 : o * 5 < 2 ^ 31 := by omega
  have u3 : o * 5 + 2 < 240 := by omega
  have u4 : o * 5 + 2 < 2 ^ 31 := by omega
  have u5 : o < 2 ^ 31 := by omega
  have u7 : N < 2 ^ 31 := by omega
  have o1 : ¬ o < 0 := by omega
  have e1 := (h.2.2.1 tt ht).1
  have en : df_X16_ends n (nI 1) (nI tt) X = some (nI (cE (sR X.1 19) (sR X.1 20) 1 tt), X) := nb_ends n (by omega) (nI 1) (nI tt) X
  have cl := cE_le (sR X.1 19) (sR X.1 20) 1 tt
  generalize cE (sR X.1 19) (sR X.1 20) 1 tt = x at e1 en cl x0
  have v1 : tt * 4 < 32 := by omega
  have v2 : tt * 4 < 2 ^ 31 := by omega
  have v3 : tt * 4 + 1 < 32 := by omega
  have v4 : tt * 4 + 1 < 2 ^ 31 := by omega
  have v5 : 512 - L < 2 ^ 31 := by omega
  have v6 : x < 2 ^ 31 := by omega
  have v7 : tt < 2 ^ 31 := by omega
  have v8 : L + N < 2 ^ 31 := by omega
  have d : ¬ x ≤ 0 := by omega
  clear h
  by_cases n0 : N = 0
  · subst n0
    rw [decide_eq_false (show ¬ ¬ L + 0 ≤ 512 from fun z => z (by omega))]
    exact ⟨by simp (disch := (first | assumption | decide | omega)) only [df_X10_writeWaits_22, df_X10_writeWaits_69, df_X10_writeWaits_68, df_X10_writeWaits_0, df_X10_writeWaits, bI_f, eq_self, Nat.reduceEqDiff, Nat.reduceLeDiff, nl_0, nl_1, nl_2, nl_4, nl_5, nl_32, nl_240, nl_512, no_1, no_1024, pk_mul, nI_add, nm_ck, nI_clamp, nI_ltI, nI_leI, nI_eq, nb_b2, nb_b1, ↓nb_let, nm_z0, nm_z1, nb_II, nb_IR, nb_RI, nb_RR, nm_IL, nm_IQ, nm_RL, nm_RQ, nm_LI, nm_LR, nm_LL, nm_LQ, nm_QI, nm_QR, nm_QL, nm_QQ, nm_rr, nm_ii, nm_eqm, not_false_eq_true, pk_sub, nm_div, nm_shl, nm_shr, nm_ush, nm_or8, nm_or64, nm_or256, nm_m1, nm_m3, nm_m7, nm_m15, nm_m31, nm_m63, nm_m255, nm_m511, nm_m1023, nm_m2047, nm_m65535, Nat.reduceMod, Nat.reducePow, Nat.reduceAdd, Nat.reduceSub, Nat.reduceMul, nm_bo, nm_bi, nm_rc, nm_ic, nm_ri, nm_rl, nm_rq, nm_ql, nm_qi, nm_li, nm_us, nm_uu, nm_cp, nm_sa31, nm_sa7, nm_m127, nm_m2, nm_nz, nm_nzk, nm_eq32, nm_nzf, if_true, if_false, ↓reduceIte, if_pos, if_neg], by simp (disch := (first | assumption | decide | omega)) only [df_X16_waits_125, df_X16_waits_124, df_X16_waits_80, df_X16_waits_79, df_X16_waits_40, df_X16_waits_39, df_X16_waits_0, df_X16_waits, bI_f, eq_self, Nat.reduceEqDiff, Nat.reduceLeDiff, nl_0, nl_1, nl_2, nl_4, nl_7, nl_8, nl_19, nl_20, nl_26, nl_48, nl_512, no_1, no_1024, pk_mul, nI_add, nm_ck, nI_clamp, nI_ltI, nI_leI, nI_eq, nb_b2, nb_b1, ↓nb_let, nm_z0, nm_z1, nb_II, nb_IR, nb_RI, nb_RR, nm_IL, nm_IQ, nm_RL, nm_RQ, nm_LI, nm_LR, nm_LL, nm_LQ, nm_QI, nm_QR, nm_QL, nm_QQ, nm_rr, nm_ii, nm_eqm, not_false_eq_true, pk_sub, nm_div, nm_shl, nm_shr, nm_ush, nm_or8, nm_or64, nm_or256, nm_m1, nm_m3, nm_m7, nm_m15, nm_m31, nm_m63, nm_m255, nm_m511, nm_m1023, nm_m2047, nm_m65535, Nat.reduceMod, Nat.reducePow, Nat.reduceAdd, Nat.reduceSub, Nat.reduceMul, nm_bo, nm_bi, nm_rc, nm_ic, nm_ri, nm_rl, nm_rq, nm_ql, nm_qi, nm_li, nm_us, nm_uu, nm_cp, nm_sa31, nm_sa7, nm_m127, nm_m2, nm_nz, nm_nzk, nm_eq32, nm_nzf, if_true, if_false, ↓reduceIte, if_pos, if_neg]⟩
  · by_cases c : N ≤ 512 - L
    · have c' : L + N ≤ 512 := by omega
      rw [decide_eq_false (fun z => z c')]
      exact ⟨by simp (disch := (first | assumption | decide | omega)) only [df_X10_writeWaits_22, df_X10_writeWaits_69, df_X10_writeWaits_68, df_X10_writeWaits_0, df_X10_writeWaits, n0, o1, Nat.add_zero, y5, y8, l1, c, bI_f, eq_self, Nat.reduceEqDiff, Nat.reduceLeDiff, nl_0, nl_1, nl_2, nl_4, nl_5, nl_32, nl_240, nl_512, no_1, no_1024, pk_mul, nI_add, nm_ck, nI_clamp, nI_ltI, nI_leI, nI_eq, nb_b2, nb_b1, ↓nb_let, nm_z0, nm_z1, nb_II, nb_IR, nb_RI, nb_RR, nm_IL, nm_IQ, nm_RL, nm_RQ, nm_LI, nm_LR, nm_LL, nm_LQ, nm_QI, nm_QR, nm_QL, nm_QQ, nm_rr, nm_ii, nm_eqm, not_false_eq_true, pk_sub, nm_div, nm_shl, nm_shr, nm_ush, nm_or8, nm_or64, nm_or256, nm_m1, nm_m3, nm_m7, nm_m15, nm_m31, nm_m63, nm_m255, nm_m511, nm_m1023, nm_m2047, nm_m65535, Nat.reduceMod, Nat.reducePow, Nat.reduceAdd, Nat.reduceSub, Nat.reduceMul, nm_bo, nm_bi, nm_rc, nm_ic, nm_ri, nm_rl, nm_rq, nm_ql, nm_qi, nm_li, nm_us, nm_uu, nm_cp, nm_sa31, nm_sa7, nm_m127, nm_m2, nm_nz, nm_nzk, nm_eq32, nm_nzf, if_true, if_false, ↓reduceIte, if_pos, if_neg], by simp (disch := (first | assumption | decide | omega)) only [df_X16_waits_125, df_X16_waits_124, df_X16_waits_80, df_X16_waits_79, df_X16_waits_40, df_X16_waits_39, df_X16_waits_0, df_X16_waits, n0, y4, y7, en, d, l2, c', bI_f, eq_self, Nat.reduceEqDiff, Nat.reduceLeDiff, nl_0, nl_1, nl_2, nl_4, nl_7, nl_8, nl_19, nl_20, nl_26, nl_48, nl_512, no_1, no_1024, pk_mul, nI_add, nm_ck, nI_clamp, nI_ltI, nI_leI, nI_eq, nb_b2, nb_b1, ↓nb_let, nm_z0, nm_z1, nb_II, nb_IR, nb_RI, nb_RR, nm_IL, nm_IQ, nm_RL, nm_RQ, nm_LI, nm_LR, nm_LL, nm_LQ, nm_QI, nm_QR, nm_QL, nm_QQ, nm_rr, nm_ii, nm_eqm, not_false_eq_true, pk_sub, nm_div, nm_shl, nm_shr, nm_ush, nm_or8, nm_or64, nm_or256, nm_m1, nm_m3, nm_m7, nm_m15, nm_m31, nm_m63, nm_m255, nm_m511, nm_m1023, nm_m2047, nm_m65535, Nat.reduceMod, Nat.reducePow, Nat.reduceAdd, Nat.reduceSub, Nat.reduceMul, nm_bo, nm_bi, nm_rc, nm_ic, nm_ri, nm_rl, nm_rq, nm_ql, nm_qi, nm_li, nm_us, nm_uu, nm_cp, nm_sa31, nm_sa7, nm_m127, nm_m2, nm_nz, nm_nzk, nm_eq32, nm_nzf, if_true, if_false, ↓reduceIte, if_pos, if_neg]⟩
    · have c' : ¬ L + N ≤ 512 := by omega
      rw [decide_eq_true c']
      exact ⟨by simp (disch := (first | assumption | decide | omega)) only [df_X10_writeWaits_22, df_X10_writeWaits_69, df_X10_writeWaits_68, df_X10_writeWaits_0, df_X10_writeWaits, n0, o1, Nat.add_zero, y5, y8, l1, c, e1, d, bI_t, eq_self, Nat.reduceEqDiff, Nat.reduceLeDiff, nl_0, nl_1, nl_2, nl_4, nl_5, nl_32, nl_240, nl_512, no_1, no_1024, pk_mul, nI_add, nm_ck, nI_clamp, nI_ltI, nI_leI, nI_eq, nb_b2, nb_b1, ↓nb_let, nm_z0, nm_z1, nb_II, nb_IR, nb_RI, nb_RR, nm_IL, nm_IQ, nm_RL, nm_RQ, nm_LI, nm_LR, nm_LL, nm_LQ, nm_QI, nm_QR, nm_QL, nm_QQ, nm_rr, nm_ii, nm_eqm, not_false_eq_true, pk_sub, nm_div, nm_shl, nm_shr, nm_ush, nm_or8, nm_or64, nm_or256, nm_m1, nm_m3, nm_m7, nm_m15, nm_m31, nm_m63, nm_m255, nm_m511, nm_m1023, nm_m2047, nm_m65535, Nat.reduceMod, Nat.reducePow, Nat.reduceAdd, Nat.reduceSub, Nat.reduceMul, nm_bo, nm_bi, nm_rc, nm_ic, nm_ri, nm_rl, nm_rq, nm_ql, nm_qi, nm_li, nm_us, nm_uu, nm_cp, nm_sa31, nm_sa7, nm_m127, nm_m2, nm_nz, nm_nzk, nm_eq32, nm_nzf, if_true, if_false, ↓reduceIte, if_pos, if_neg], by simp (disch := (first | assumption | decide | omega)) only [df_X16_waits_125, df_X16_waits_124, df_X16_waits_80, df_X16_waits_79, df_X16_waits_40, df_X16_waits_39, df_X16_waits_0, df_X16_waits, n0, y4, y7, en, d, l2, c', bI_t, eq_self, Nat.reduceEqDiff, Nat.reduceLeDiff, nl_0, nl_1, nl_2, nl_4, nl_7, nl_8, nl_19, nl_20, nl_26, nl_48, nl_512, no_1, no_1024, pk_mul, nI_add, nm_ck, nI_clamp, nI_ltI, nI_leI, nI_eq, nb_b2, nb_b1, ↓nb_let, nm_z0, nm_z1, nb_II, nb_IR, nb_RI, nb_RR, nm_IL, nm_IQ, nm_RL, nm_RQ, nm_LI, nm_LR, nm_LL, nm_LQ, nm_QI, nm_QR, nm_QL, nm_QQ, nm_rr, nm_ii, nm_eqm, not_false_eq_true, pk_sub, nm_div, nm_shl, nm_shr, nm_ush, nm_or8, nm_or64, nm_or256, nm_m1, nm_m3, nm_m7, nm_m15, nm_m31, nm_m63, nm_m255, nm_m511, nm_m1023, nm_m2047, nm_m65535, Nat.reduceMod, Nat.reducePow, Nat.reduceAdd, Nat.reduceSub, Nat.reduceMul, nm_bo, nm_bi, nm_rc, nm_ic, nm_ri, nm_rl, nm_rq, nm_ql, nm_qi, nm_li, nm_us, nm_uu, nm_cp, nm_sa31, nm_sa7, nm_m127, nm_m2, nm_nz, nm_nzk, nm_eq32, nm_nzf, if_true, if_false, ↓reduceIte, if_pos, if_neg]⟩
theorem o24 : ∀ r : Fin 8, (nI r.1 &&& nI 4 ≤ nI 0 ↔ nI r.1 &&& nI 4 = nI 0) := by decide
/-- the kernel's call 'write' -/
theorem nq_write (n : Nat) (hn : 20000 < n) {B p : Nat} {K : St × (St × (St × St))} {X : St × St} (h : cP B p K X) (hB : B + 512 < 2 ^ 62) (h17 : sR X.1 9 (32 * p + 17) = nI 7) {a b c : Int32} (e10 : sR X.1 9 (32 * p + 10) = a) (e12 : sR X.1 9 (32 * p + 12) = c) : cO (B + 512) p K X (df_X5_write n (nI p) a b c K) (df_X16_write7 n a b c X) := by
  obtain ⟨h1, h2, h3, h4, h5, h6, h7⟩ := id h
  obtain ⟨m1, m2, m3, m4, m5, m6, m7⟩ := id h1
  have ans : ∀ (w64 : Int64) (w : Int32), w64 = w.toInt64 → df_X5_write n (nI p) a b c K = some (w64, K) → df_X16_write7 n a b c X = some (w, X) → cO (B + 512) p K X (df_X5_write n (nI p) a b c K) (df_X16_write7 n a b c X) := fun w64 w ew e1 e2 => by
    rw [e1, e2]
    exact cO_up (cO_id h ew) (by omega)
  have post : ∀ (C N : Nat) (D' : St) (X' : St × St), C ≤ B + 512 → rM C (K.2.2.1, D') X' → kX X X' → sR X'.1 1 = sR X.1 1 → cO (B + 512) p K X (some ((nI N).toInt64, (K.1, (K.2.1, (K.2.2.1, D'))))) (some (nI N, X')) := fun C N D' X' hC r kk es => by
    obtain ⟨j1, j2, j3, j4, j5, j6, j7⟩ := kk
    exact ⟨_, nI N, K.1, (K.2.2.1, D'), X', rfl, rfl, rM_up r hC, fun _ => rfl, Or.inl ⟨j4.trans h4, rfl⟩, ⟨j1, j2, j3, j5, j6⟩, Or.inl ⟨h6, j7.trans h7⟩, fun _ => by rw [es]; exact h5, fun z => absurd ((j4.trans h4).symm.trans z) (by decide)⟩
  rcases sg_cases c with ⟨z, _⟩ | ⟨N, hN, z⟩
  · exact ans (-22) (-nI 22) (by decide) (by simp (disch := (first | assumption | decide | omega)) only [df_X5_write, df_X5_write_0, df_X5_write_13, z, eq_self, Nat.reduceEqDiff, Nat.reduceLeDiff, nl_0, nl_1, nl_2, nl_3, nl_4, nl_5, nl_14, nl_22, nl_512, no_1, no_1024, pk_mul, nI_add, nm_ck, nI_clamp, nI_ltI, nI_leI, nI_eq, nb_b2, nb_b1, ↓nb_let, nm_z0, nm_z1, nb_II, nb_IR, nb_RI, nb_RR, nm_IL, nm_IQ, nm_RL, nm_RQ, nm_LI, nm_LR, nm_LL, nm_LQ, nm_QI, nm_QR, nm_QL, nm_QQ, nm_rr, nm_ii, nm_eqm, not_false_eq_true, pk_sub, nm_div, nm_shl, nm_shr, nm_ush, nm_or8, nm_or64, nm_or256, nm_m1, nm_m3, nm_m7, nm_m15, nm_m31, nm_m63, nm_m255, nm_m511, nm_m1023, nm_m2047, nm_m65535, Nat.reduceMod, Nat.reducePow, Nat.reduceAdd, Nat.reduceSub, Nat.reduceMul, nm_bo, nm_bi, nm_rc, nm_ic, nm_ri, nm_rl, nm_rq, nm_ql, nm_qi, nm_li, nm_us, nm_uu, nm_cp, nm_sa31, nm_sa7, nm_m127, nm_m2, nm_nz, nm_nzk, nm_eq32, nm_nzf, if_true, if_false, ↓reduceIte, if_pos, if_neg]) (by simp (disch := (first | assumption | decide | omega)) only [df_X16_write7, df_X16_write7_0, df_X16_write7_11, z, eq_self, Nat.reduceEqDiff, Nat.reduceLeDiff, nl_0, nl_1, nl_2, nl_5, nl_12, nl_14, nl_19, nl_20, nl_22, nl_48, nl_512, no_1, no_1024, pk_mul, nI_add, nm_ck, nI_clamp, nI_ltI, nI_leI, nI_eq, nb_b2, nb_b1, ↓nb_let, nm_z0, nm_z1, nb_II, nb_IR, nb_RI, nb_RR, nm_IL, nm_IQ, nm_RL, nm_RQ, nm_LI, nm_LR, nm_LL, nm_LQ, nm_QI, nm_QR, nm_QL, nm_QQ, nm_rr, nm_ii, nm_eqm, not_false_eq_true, pk_sub, nm_div, nm_shl, nm_shr, nm_ush, nm_or8, nm_or64, nm_or256, nm_m1, nm_m3, nm_m7, nm_m15, nm_m31, nm_m63, nm_m255, nm_m511, nm_m1023, nm_m2047, nm_m65535, Nat.reduceMod, Nat.reducePow, Nat.reduceAdd, Nat.reduceSub, Nat.reduceMul, nm_bo, nm_bi, nm_rc, nm_ic, nm_ri, nm_rl, nm_rq, nm_ql, nm_qi, nm_li, nm_us, nm_uu, nm_cp, nm_sa31, nm_sa7, nm_m127, nm_m2, nm_nz, nm_nzk, nm_eq32, nm_nzf, if_true, if_false, ↓reduceIte, if_pos, if_neg])
  have n0 : ¬ N < 0 := by omega
  by_cases n512 : ¬ N ≤ 512
  · rw [z] at ans ⊢
    exact ans (-22) (-nI 22) (by decide) (by simp (disch := (first | assumption | decide | omega)) only [df_X5_write, df_X5_write_0, df_X5_write_13, n0, n512, eq_self, Nat.reduceEqDiff, Nat.reduceLeDiff, nl_0, nl_1, nl_2, nl_3, nl_4, nl_5, nl_14, nl_22, nl_512, no_1, no_1024, pk_mul, nI_add, nm_ck, nI_clamp, nI_ltI, nI_leI, nI_eq, nb_b2, nb_b1, ↓nb_let, nm_z0, nm_z1, nb_II, nb_IR, nb_RI, nb_RR, nm_IL, nm_IQ, nm_RL, nm_RQ, nm_LI, nm_LR, nm_LL, nm_LQ, nm_QI, nm_QR, nm_QL, nm_QQ, nm_rr, nm_ii, nm_eqm, not_false_eq_true, pk_sub, nm_div, nm_shl, nm_shr, nm_ush, nm_or8, nm_or64, nm_or256, nm_m1, nm_m3, nm_m7, nm_m15, nm_m31, nm_m63, nm_m255, nm_m511, nm_m1023, nm_m2047, nm_m65535, Nat.reduceMod, Nat.reducePow, Nat.reduceAdd, Nat.reduceSub, Nat.reduceMul, nm_bo, nm_bi, nm_rc, nm_ic, nm_ri, nm_rl, nm_rq, nm_ql, nm_qi, nm_li, nm_us, nm_uu, nm_cp, nm_sa31, nm_sa7, nm_m127, nm_m2, nm_nz, nm_nzk, nm_eq32, nm_nzf, if_true, if_false, ↓reduceIte, if_pos, if_neg]) (by simp (disch := (first | assumption | decide | omega)) only [df_X16_write7, df_X16_write7_0, df_X16_write7_11, n0, n512, eq_self, Nat.reduceEqDiff, Nat.reduceLeDiff, nl_0, nl_1, nl_2, nl_5, nl_12, nl_14, nl_19, nl_20, nl_22, nl_48, nl_512, no_1, no_1024, pk_mul, nI_add, nm_ck, nI_clamp, nI_ltI, nI_leI, nI_eq, nb_b2, nb_b1, ↓nb_let, nm_z0, nm_z1, nb_II, nb_IR, nb_RI, nb_RR, nm_IL, nm_IQ, nm_RL, nm_RQ, nm_LI, nm_LR, nm_LL, nm_LQ, nm_QI, nm_QR, nm_QL, nm_QQ, nm_rr, nm_ii, nm_eqm, not_false_eq_true, pk_sub, nm_div, nm_shl, nm_shr, nm_ush, nm_or8, nm_or64, nm_or256, nm_m1, nm_m3, nm_m7, nm_m15, nm_m31, nm_m63, nm_m255, nm_m511, nm_m1023, nm_m2047, nm_m65535, Nat.reduceMod, Nat.reducePow, Nat.reduceAdd, Nat.reduceSub, Nat.reduceMul, nm_bo, nm_bi, nm_rc, nm_ic, nm_ri, nm_rl, nm_rq, nm_ql, nm_qi, nm_li, nm_us, nm_uu, nm_cp, nm_sa31, nm_sa7, nm_m127, nm_m2, nm_nz, nm_nzk, nm_eq32, nm_nzf, if_true, if_false, ↓reduceIte, if_pos, if_neg])
  have n512 : N ≤ 512 := by omega
  obtain ⟨A, hA, eA⟩ := nI_ex b
  obtain ⟨ma1, ma2⟩ := nk_mayAll n (by omega) m1 h2 hA (show 1 < 8 by omega) (show N ≤ 1024 by omega)
  cases mm : mA X p A N 1 with
  | false =>
    rw [mm, bI_f] at ma1 ma2
    rw [z, eA] at ans ⊢
    exact ans (-14) (-nI 14) (by decide) (by simp (disch := (first | assumption | decide | omega)) only [df_X5_write, df_X5_write_0, n0, n512, ma1, eq_self, Nat.reduceEqDiff, Nat.reduceLeDiff, nl_0, nl_1, nl_2, nl_3, nl_4, nl_5, nl_14, nl_512, no_1, no_1024, pk_mul, nI_add, nm_ck, nI_clamp, nI_ltI, nI_leI, nI_eq, nb_b2, nb_b1, ↓nb_let, nm_z0, nm_z1, nb_II, nb_IR, nb_RI, nb_RR, nm_IL, nm_IQ, nm_RL, nm_RQ, nm_LI, nm_LR, nm_LL, nm_LQ, nm_QI, nm_QR, nm_QL, nm_QQ, nm_rr, nm_ii, nm_eqm, not_false_eq_true, pk_sub, nm_div, nm_shl, nm_shr, nm_ush, nm_or8, nm_or64, nm_or256, nm_m1, nm_m3, nm_m7, nm_m15, nm_m31, nm_m63, nm_m255, nm_m511, nm_m1023, nm_m2047, nm_m65535, Nat.reduceMod, Nat.reducePow, Nat.reduceAdd, Nat.reduceSub, Nat.reduceMul, nm_bo, nm_bi, nm_rc, nm_ic, nm_ri, nm_rl, nm_rq, nm_ql, nm_qi, nm_li, nm_us, nm_uu, nm_cp, nm_sa31, nm_sa7, nm_m127, nm_m2, nm_nz, nm_nzk, nm_eq32, nm_nzf, if_true, if_false, ↓reduceIte, if_pos, if_neg]) (by simp (disch := (first | assumption | decide | omega)) only [df_X16_write7, df_X16_write7_0, n0, n512, h3, ma2, eq_self, Nat.reduceEqDiff, Nat.reduceLeDiff, nl_0, nl_1, nl_2, nl_5, nl_12, nl_14, nl_19, nl_20, nl_22, nl_48, nl_512, no_1, no_1024, pk_mul, nI_add, nm_ck, nI_clamp, nI_ltI, nI_leI, nI_eq, nb_b2, nb_b1, ↓nb_let, nm_z0, nm_z1, nb_II, nb_IR, nb_RI, nb_RR, nm_IL, nm_IQ, nm_RL, nm_RQ, nm_LI, nm_LR, nm_LL, nm_LQ, nm_QI, nm_QR, nm_QL, nm_QQ, nm_rr, nm_ii, nm_eqm, not_false_eq_true, pk_sub, nm_div, nm_shl, nm_shr, nm_ush, nm_or8, nm_or64, nm_or256, nm_m1, nm_m3, nm_m7, nm_m15, nm_m31, nm_m63, nm_m255, nm_m511, nm_m1023, nm_m2047, nm_m65535, Nat.reduceMod, Nat.reducePow, Nat.reduceAdd, Nat.reduceSub, Nat.reduceMul, nm_bo, nm_bi, nm_rc, nm_ic, nm_ri, nm_rl, nm_rq, nm_ql, nm_qi, nm_li, nm_us, nm_uu, nm_cp, nm_sa31, nm_sa7, nm_m127, nm_m2, nm_nz, nm_nzk, nm_eq32, nm_nzf, if_true, if_false, ↓reduceIte, if_pos, if_neg])
  | true =>
  rw [mm, bI_t] at ma1 ma2
  have hm : ∀ j : Nat, j < N → ma X p (A + j) 1 = true := of_decide_eq_true mm
  rcases nk_opening n m2 h2 a with ⟨o1, o2, _⟩ | ⟨d, o, hd, ho, ed, de, kn, o1, o2⟩
  · rw [z, eA] at ans ⊢
    exact ans (-1) (-nI 1) (by decide) (by simp (disch := (first | assumption | decide | omega)) only [df_X5_write, df_X5_write_0, df_X5_write_67, n0, n512, ma1, o1, nm_ltm, eq_self, Nat.reduceEqDiff, Nat.reduceLeDiff, nl_0, nl_1, nl_2, nl_3, nl_4, nl_5, nl_14, nl_512, no_1, no_1024, pk_mul, nI_add, nm_ck, nI_clamp, nI_ltI, nI_leI, nI_eq, nb_b2, nb_b1, ↓nb_let, nm_z0, nm_z1, nb_II, nb_IR, nb_RI, nb_RR, nm_IL, nm_IQ, nm_RL, nm_RQ, nm_LI, nm_LR, nm_LL, nm_LQ, nm_QI, nm_QR, nm_QL, nm_QQ, nm_rr, nm_ii, nm_eqm, not_false_eq_true, pk_sub, nm_div, nm_shl, nm_shr, nm_ush, nm_or8, nm_or64, nm_or256, nm_m1, nm_m3, nm_m7, nm_m15, nm_m31, nm_m63, nm_m255, nm_m511, nm_m1023, nm_m2047, nm_m65535, Nat.reduceMod, Nat.reducePow, Nat.reduceAdd, Nat.reduceSub, Nat.reduceMul, nm_bo, nm_bi, nm_rc, nm_ic, nm_ri, nm_rl, nm_rq, nm_ql, nm_qi, nm_li, nm_us, nm_uu, nm_cp, nm_sa31, nm_sa7, nm_m127, nm_m2, nm_nz, nm_nzk, nm_eq32, nm_nzf, if_true, if_false, ↓reduceIte, if_pos, if_neg]) (by simp (disch := (first | assumption | decide | omega)) only [df_X16_write7, df_X16_write7_0, df_X16_write7_60, n0, n512, h3, ma2, o2, eq_self, Nat.reduceEqDiff, Nat.reduceLeDiff, nl_0, nl_1, nl_2, nl_5, nl_12, nl_14, nl_19, nl_20, nl_22, nl_48, nl_512, no_1, no_1024, pk_mul, nI_add, nm_ck, nI_clamp, nI_ltI, nI_leI, nI_eq, nb_b2, nb_b1, ↓nb_let, nm_z0, nm_z1, nb_II, nb_IR, nb_RI, nb_RR, nm_IL, nm_IQ, nm_RL, nm_RQ, nm_LI, nm_LR, nm_LL, nm_LQ, nm_QI, nm_QR, nm_QL, nm_QQ, nm_rr, nm_ii, nm_eqm, not_false_eq_true, pk_sub, nm_div, nm_shl, nm_shr, nm_ush, nm_or8, nm_or64, nm_or256, nm_m1, nm_m3, nm_m7, nm_m15, nm_m31, nm_m63, nm_m255, nm_m511, nm_m1023, nm_m2047, nm_m65535, Nat.reduceMod, Nat.reducePow, Nat.reduceAdd, Nat.reduceSub, Nat.reduceMul, nm_bo, nm_bi, nm_rc, nm_ic, nm_ri, nm_rl, nm_rq, nm_ql, nm_qi, nm_li, nm_us, nm_uu, nm_cp, nm_sa31, nm_sa7, nm_m127, nm_m2, nm_nz, nm_nzk, nm_eq32, nm_nzf, if_true, if_false, ↓reduceIte, if_pos, if_neg])
  rcases m2.2.1 o ho with ⟨z1, _⟩ | ⟨k, t, y1, y2, y3, y4, y5, y6, y7, y8, y9, y10, y11, y12, y13, ⟨r, hr, er, er1, er2⟩, y15⟩
  · exact absurd z1 kn
  have ob : ¬ o < 0 := by omega
  have u1 : o < 2 ^ 31 := by omega
  have u2 : o * 5 < 240 := by omega
  have u3 : o * 5 + 4 < 240 := by omega
  have u4 : o * 5 + 2 < 240 := by omega
  have u5 : k < 2 ^ 31 := by omega
  have u6 : o * 5 + 3 < 240 := by omega
  have u7 : o * 5 < 2 ^ 31 := by omega
  have of4 : df_X10_of n (nI o) (nI 4) K.2.2.2 = some (nI r, K.2.2.2) := by
    have w : sR K.2.2.2 1 (o * 5 + 4) = nI r := y11.trans er
    simp (disch := (first | assumption | decide | omega)) only [df_X10_of_0, df_X10_of, w, eq_self, Nat.reduceEqDiff, Nat.reduceLeDiff, nl_1, nl_5, nl_240, no_1, no_1024, pk_mul, nI_add, nm_ck, nI_clamp, nI_ltI, nI_leI, nI_eq, nb_b2, nb_b1, ↓nb_let, nm_z0, nm_z1, nb_II, nb_IR, nb_RI, nb_RR, nm_IL, nm_IQ, nm_RL, nm_RQ, nm_LI, nm_LR, nm_LL, nm_LQ, nm_QI, nm_QR, nm_QL, nm_QQ, nm_rr, nm_ii, nm_eqm, not_false_eq_true, pk_sub, nm_div, nm_shl, nm_shr, nm_ush, nm_or8, nm_or64, nm_or256, nm_m1, nm_m3, nm_m7, nm_m15, nm_m31, nm_m63, nm_m255, nm_m511, nm_m1023, nm_m2047, nm_m65535, Nat.reduceMod, Nat.reducePow, Nat.reduceAdd, Nat.reduceSub, Nat.reduceMul, nm_bo, nm_bi, nm_rc, nm_ic, nm_ri, nm_rl, nm_rq, nm_ql, nm_qi, nm_li, nm_us, nm_uu, nm_cp, nm_sa31, nm_sa7, nm_m127, nm_m2, nm_nz, nm_nzk, nm_eq32, nm_nzf, if_true, if_false, ↓reduceIte, if_pos, if_neg]
  have of0 : df_X10_of n (nI o) (nI 0) K.2.2.2 = some (nI k, K.2.2.2) := by
    simp (disch := (first | assumption | decide | omega)) only [df_X10_of_0, df_X10_of, Nat.add_zero, y5, eq_self, Nat.reduceEqDiff, Nat.reduceLeDiff, nl_1, nl_5, nl_240, no_1, no_1024, pk_mul, nI_add, nm_ck, nI_clamp, nI_ltI, nI_leI, nI_eq, nb_b2, nb_b1, ↓nb_let, nm_z0, nm_z1, nb_II, nb_IR, nb_RI, nb_RR, nm_IL, nm_IQ, nm_RL, nm_RQ, nm_LI, nm_LR, nm_LL, nm_LQ, nm_QI, nm_QR, nm_QL, nm_QQ, nm_rr, nm_ii, nm_eqm, not_false_eq_true, pk_sub, nm_div, nm_shl, nm_shr, nm_ush, nm_or8, nm_or64, nm_or256, nm_m1, nm_m3, nm_m7, nm_m15, nm_m31, nm_m63, nm_m255, nm_m511, nm_m1023, nm_m2047, nm_m65535, Nat.reduceMod, Nat.reducePow, Nat.reduceAdd, Nat.reduceSub, Nat.reduceMul, nm_bo, nm_bi, nm_rc, nm_ic, nm_ri, nm_rl, nm_rq, nm_ql, nm_qi, nm_li, nm_us, nm_uu, nm_cp, nm_sa31, nm_sa7, nm_m127, nm_m2, nm_nz, nm_nzk, nm_eq32, nm_nzf, if_true, if_false, ↓reduceIte, if_pos, if_neg]
  have of2 : df_X10_of n (nI o) (nI 2) K.2.2.2 = some (nI t, K.2.2.2) := by
    simp (disch := (first | assumption | decide | omega)) only [df_X10_of_0, df_X10_of, y8, eq_self, Nat.reduceEqDiff, Nat.reduceLeDiff, nl_1, nl_5, nl_240, no_1, no_1024, pk_mul, nI_add, nm_ck, nI_clamp, nI_ltI, nI_leI, nI_eq, nb_b2, nb_b1, ↓nb_let, nm_z0, nm_z1, nb_II, nb_IR, nb_RI, nb_RR, nm_IL, nm_IQ, nm_RL, nm_RQ, nm_LI, nm_LR, nm_LL, nm_LQ, nm_QI, nm_QR, nm_QL, nm_QQ, nm_rr, nm_ii, nm_eqm, not_false_eq_true, pk_sub, nm_div, nm_shl, nm_shr, nm_ush, nm_or8, nm_or64, nm_or256, nm_m1, nm_m3, nm_m7, nm_m15, nm_m31, nm_m63, nm_m255, nm_m511, nm_m1023, nm_m2047, nm_m65535, Nat.reduceMod, Nat.reducePow, Nat.reduceAdd, Nat.reduceSub, Nat.reduceMul, nm_bo, nm_bi, nm_rc, nm_ic, nm_ri, nm_rl, nm_rq, nm_ql, nm_qi, nm_li, nm_us, nm_uu, nm_cp, nm_sa31, nm_sa7, nm_m127, nm_m2, nm_nz, nm_nzk, nm_eq32, nm_nzf, if_true, if_false, ↓reduceIte, if_pos, if_neg]
  rw [z, eA] at ans ⊢
  by_cases r2 : r / 2 % 2 * 2 = 0
  · exact ans (-1) (-nI 1) (by decide) (by simp (disch := (first | assumption | decide | omega)) only [df_X5_write, df_X5_write_0, df_X5_write_67, n0, n512, ma1, o1, ob, of4, r2, eq_self, Nat.reduceEqDiff, Nat.reduceLeDiff, nl_0, nl_1, nl_2, nl_3, nl_4, nl_5, nl_14, nl_512, no_1, no_1024, pk_mul, nI_add, nm_ck, nI_clamp, nI_ltI, nI_leI, nI_eq, nb_b2, nb_b1, ↓nb_let, nm_z0, nm_z1, nb_II, nb_IR, nb_RI, nb_RR, nm_IL, nm_IQ, nm_RL, nm_RQ, nm_LI, nm_LR, nm_LL, nm_LQ, nm_QI, nm_QR, nm_QL, nm_QQ, nm_rr, nm_ii, nm_eqm, not_false_eq_true, pk_sub, nm_div, nm_shl, nm_shr, nm_ush, nm_or8, nm_or64, nm_or256, nm_m1, nm_m3, nm_m7, nm_m15, nm_m31, nm_m63, nm_m255, nm_m511, nm_m1023, nm_m2047, nm_m65535, Nat.reduceMod, Nat.reducePow, Nat.reduceAdd, Nat.reduceSub, Nat.reduceMul, nm_bo, nm_bi, nm_rc, nm_ic, nm_ri, nm_rl, nm_rq, nm_ql, nm_qi, nm_li, nm_us, nm_uu, nm_cp, nm_sa31, nm_sa7, nm_m127, nm_m2, nm_nz, nm_nzk, nm_eq32, nm_nzf, if_true, if_false, ↓reduceIte, if_pos, if_neg]) (by simp (disch := (first | assumption | decide | omega)) only [df_X16_write7, df_X16_write7_0, df_X16_write7_60, n0, n512, h3, ma2, o2, er, r2, eq_self, Nat.reduceEqDiff, Nat.reduceLeDiff, nl_0, nl_1, nl_2, nl_5, nl_12, nl_14, nl_19, nl_20, nl_22, nl_48, nl_512, no_1, no_1024, pk_mul, nI_add, nm_ck, nI_clamp, nI_ltI, nI_leI, nI_eq, nb_b2, nb_b1, ↓nb_let, nm_z0, nm_z1, nb_II, nb_IR, nb_RI, nb_RR, nm_IL, nm_IQ, nm_RL, nm_RQ, nm_LI, nm_LR, nm_LL, nm_LQ, nm_QI, nm_QR, nm_QL, nm_QQ, nm_rr, nm_ii, nm_eqm, not_false_eq_true, pk_sub, nm_div, nm_shl, nm_shr, nm_ush, nm_or8, nm_or64, nm_or256, nm_m1, nm_m3, nm_m7, nm_m15, nm_m31, nm_m63, nm_m255, nm_m511, nm_m1023, nm_m2047, nm_m65535, Nat.reduceMod, Nat.reducePow, Nat.reduceAdd, Nat.reduceSub, Nat.reduceMul, nm_bo, nm_bi, nm_rc, nm_ic, nm_ri, nm_rl, nm_rq, nm_ql, nm_qi, nm_li, nm_us, nm_uu, nm_cp, nm_sa31, nm_sa7, nm_m127, nm_m2, nm_nz, nm_nzk, nm_eq32, nm_nzf, if_true, if_false, ↓reduceIte, if_pos, if_neg])
  have k1 : ¬ k = 1 := fun e => by
    rw [er1 e] at r2
    exact r2 rfl
  have hA2 : N = 0 ∨ A + N ≤ 65536 := by
    by_cases e : N = 0
    · exact Or.inl e
    · have := hm (N - 1) (by omega)
      unfold ma at this
      by_cases f : A + (N - 1) < 65536
      · exact Or.inr (by omega)
      · rw [decide_eq_false f, Bool.false_and] at this
        exact nomatch this
  have u8 : N < 2 ^ 31 := by omega
  have ww : ¬ k = 2 → df_X10_writeWaits n (nI o) (nI N) K.2.2.2 = some (nI 0, K.2.2.2) := fun k2 => by
    by_cases e : N = 0
    · subst e
      simp (disch := (first | assumption | decide | omega)) only [df_X10_writeWaits_22, df_X10_writeWaits_69, df_X10_writeWaits_68, df_X10_writeWaits_0, df_X10_writeWaits, eq_self, Nat.reduceEqDiff, Nat.reduceLeDiff, nl_0, nl_1, nl_2, nl_4, nl_5, nl_32, nl_240, nl_512, no_1, no_1024, pk_mul, nI_add, nm_ck, nI_clamp, nI_ltI, nI_leI, nI_eq, nb_b2, nb_b1, ↓nb_let, nm_z0, nm_z1, nb_II, nb_IR, nb_RI, nb_RR, nm_IL, nm_IQ, nm_RL, nm_RQ, nm_LI, nm_LR, nm_LL, nm_LQ, nm_QI, nm_QR, nm_QL, nm_QQ, nm_rr, nm_ii, nm_eqm, not_false_eq_true, pk_sub, nm_div, nm_shl, nm_shr, nm_ush, nm_or8, nm_or64, nm_or256, nm_m1, nm_m3, nm_m7, nm_m15, nm_m31, nm_m63, nm_m255, nm_m511, nm_m1023, nm_m2047, nm_m65535, Nat.reduceMod, Nat.reducePow, Nat.reduceAdd, Nat.reduceSub, Nat.reduceMul, nm_bo, nm_bi, nm_rc, nm_ic, nm_ri, nm_rl, nm_rq, nm_ql, nm_qi, nm_li, nm_us, nm_uu, nm_cp, nm_sa31, nm_sa7, nm_m127, nm_m2, nm_nz, nm_nzk, nm_eq32, nm_nzf, if_true, if_false, ↓reduceIte, if_pos, if_neg]
    · simp (disch := (first | assumption | decide | omega)) only [df_X10_writeWaits_22, df_X10_writeWaits_69, df_X10_writeWaits_68, df_X10_writeWaits_0, df_X10_writeWaits, e, ob, Nat.add_zero, y5, k2, eq_self, Nat.reduceEqDiff, Nat.reduceLeDiff, nl_0, nl_1, nl_2, nl_4, nl_5, nl_32, nl_240, nl_512, no_1, no_1024, pk_mul, nI_add, nm_ck, nI_clamp, nI_ltI, nI_leI, nI_eq, nb_b2, nb_b1, ↓nb_let, nm_z0, nm_z1, nb_II, nb_IR, nb_RI, nb_RR, nm_IL, nm_IQ, nm_RL, nm_RQ, nm_LI, nm_LR, nm_LL, nm_LQ, nm_QI, nm_QR, nm_QL, nm_QQ, nm_rr, nm_ii, nm_eqm, not_false_eq_true, pk_sub, nm_div, nm_shl, nm_shr, nm_ush, nm_or8, nm_or64, nm_or256, nm_m1, nm_m3, nm_m7, nm_m15, nm_m31, nm_m63, nm_m255, nm_m511, nm_m1023, nm_m2047, nm_m65535, Nat.reduceMod, Nat.reducePow, Nat.reduceAdd, Nat.reduceSub, Nat.reduceMul, nm_bo, nm_bi, nm_rc, nm_ic, nm_ri, nm_rl, nm_rq, nm_ql, nm_qi, nm_li, nm_us, nm_uu, nm_cp, nm_sa31, nm_sa7, nm_m127, nm_m2, nm_nz, nm_nzk, nm_eq32, nm_nzf, if_true, if_false, ↓reduceIte, if_pos, if_neg]
  have ib : ¬ k = 2 → df_X10_isBroken n (nI o) K.2.2.2 = some (nI 0, K.2.2.2) := fun k2 => by
    simp (disch := (first | assumption | decide | omega)) only [df_X10_isBroken_33, df_X10_isBroken_32, df_X10_isBroken_0, df_X10_isBroken, of0, k2, eq_self, Nat.reduceEqDiff, Nat.reduceLeDiff, nl_0, nl_1, nl_2, nl_4, nl_32, no_1, no_1024, pk_mul, nI_add, nm_ck, nI_clamp, nI_ltI, nI_leI, nI_eq, nb_b2, nb_b1, ↓nb_let, nm_z0, nm_z1, nb_II, nb_IR, nb_RI, nb_RR, nm_IL, nm_IQ, nm_RL, nm_RQ, nm_LI, nm_LR, nm_LL, nm_LQ, nm_QI, nm_QR, nm_QL, nm_QQ, nm_rr, nm_ii, nm_eqm, not_false_eq_true, pk_sub, nm_div, nm_shl, nm_shr, nm_ush, nm_or8, nm_or64, nm_or256, nm_m1, nm_m3, nm_m7, nm_m15, nm_m31, nm_m63, nm_m255, nm_m511, nm_m1023, nm_m2047, nm_m65535, Nat.reduceMod, Nat.reducePow, Nat.reduceAdd, Nat.reduceSub, Nat.reduceMul, nm_bo, nm_bi, nm_rc, nm_ic, nm_ri, nm_rl, nm_rq, nm_ql, nm_qi, nm_li, nm_us, nm_uu, nm_cp, nm_sa31, nm_sa7, nm_m127, nm_m2, nm_nz, nm_nzk, nm_eq32, nm_nzf, if_true, if_false, ↓reduceIte, if_pos, if_neg]
  have e185 : ∃ F, df_X5_write_185 n n = dF_X5_write_185 n F := by
    obtain ⟨m, rfl⟩ : ∃ m : Nat, n = m + 1 := ⟨n - 1, by omega⟩
    exact ⟨_, rfl⟩
  have e137 : ∃ F, df_X16_write7_137 n n = dF_X16_write7_137 n F := by
    obtain ⟨m, rfl⟩ : ∃ m : Nat, n = m + 1 := ⟨n - 1, by omega⟩
    exact ⟨_, rfl⟩
  have z185 : ∀ x6 x7 : Int32, df_X5_write_185 n n (nI p) (nI A) (nI 0) (nI o) x6 x7 (nI 0) K = some ((nI 0).toInt64, K) := fun x6 x7 => by
    obtain ⟨F, e185⟩ := e185
    rw [e185]
    simp (disch := (first | assumption | decide | omega)) only [dF_X5_write_185, Nat.le_refl, eq_self, Nat.reduceEqDiff, Nat.reduceLeDiff, nl_3, nl_4, no_1, no_1024, pk_mul, nI_add, nm_ck, nI_clamp, nI_ltI, nI_leI, nI_eq, nb_b2, nb_b1, ↓nb_let, nm_z0, nm_z1, nb_II, nb_IR, nb_RI, nb_RR, nm_IL, nm_IQ, nm_RL, nm_RQ, nm_LI, nm_LR, nm_LL, nm_LQ, nm_QI, nm_QR, nm_QL, nm_QQ, nm_rr, nm_ii, nm_eqm, not_false_eq_true, pk_sub, nm_div, nm_shl, nm_shr, nm_ush, nm_or8, nm_or64, nm_or256, nm_m1, nm_m3, nm_m7, nm_m15, nm_m31, nm_m63, nm_m255, nm_m511, nm_m1023, nm_m2047, nm_m65535, Nat.reduceMod, Nat.reducePow, Nat.reduceAdd, Nat.reduceSub, Nat.reduceMul, nm_bo, nm_bi, nm_rc, nm_ic, nm_ri, nm_rl, nm_rq, nm_ql, nm_qi, nm_li, nm_us, nm_uu, nm_cp, nm_sa31, nm_sa7, nm_m127, nm_m2, nm_nz, nm_nzk, nm_eq32, nm_nzf, if_true, if_false, ↓reduceIte, if_pos, if_neg]
  have z137 : df_X16_write7_137 n n (nI A) (nI 0) (nI o) (nI t) (nI 0) X = some (nI 0, X) := by
    obtain ⟨F, e137⟩ := e137
    rw [e137]
    simp (disch := (first | assumption | decide | omega)) only [dF_X16_write7_137, Nat.le_refl, eq_self, Nat.reduceEqDiff, Nat.reduceLeDiff, nl_1, nl_4, nl_8, nl_19, nl_26, nl_27, nl_48, nl_512, nl_4096, no_1, no_1024, pk_mul, nI_add, nm_ck, nI_clamp, nI_ltI, nI_leI, nI_eq, nb_b2, nb_b1, ↓nb_let, nm_z0, nm_z1, nb_II, nb_IR, nb_RI, nb_RR, nm_IL, nm_IQ, nm_RL, nm_RQ, nm_LI, nm_LR, nm_LL, nm_LQ, nm_QI, nm_QR, nm_QL, nm_QQ, nm_rr, nm_ii, nm_eqm, not_false_eq_true, pk_sub, nm_div, nm_shl, nm_shr, nm_ush, nm_or8, nm_or64, nm_or256, nm_m1, nm_m3, nm_m7, nm_m15, nm_m31, nm_m63, nm_m255, nm_m511, nm_m1023, nm_m2047, nm_m65535, Nat.reduceMod, Nat.reducePow, Nat.reduceAdd, Nat.reduceSub, Nat.reduceMul, nm_bo, nm_bi, nm_rc, nm_ic, nm_ri, nm_rl, nm_rq, nm_ql, nm_qi, nm_li, nm_us, nm_uu, nm_cp, nm_sa31, nm_sa7, nm_m127, nm_m2, nm_nz, nm_nzk, nm_eq32, nm_nzf, if_true, if_false, ↓reduceIte, if_pos, if_neg]
  clear e185 e137
  by_cases k3 : k = 3
  · subst k3
    have ww := ww (by omega)
    have ib := ib (by omega)
    have isf : sR X.1 24 t = nI 1 := by
      have x1 : 0 < cE (sR X.1 19) (sR X.1 20) 3 t := cN_p (P := fun j => decide (sR X.1 19 j = nI 3 ∧ sR X.1 20 j = nI t)) (i := o) (decide_eq_true ⟨y4, y7⟩) ho
      rw [(m2.2.2.2 t y10).2.2.2, decide_eq_true (Or.inr x1)]
      rfl
    obtain ⟨L, hL, l1, l2, l3⟩ := m7.2.1 t y10 isf
    obtain ⟨x, hx, ex⟩ := y15 rfl
    have v1 : t * 3 < 48 := by omega
    have v2 : t * 3 < 2 ^ 31 := by omega
    have v3 : t < 2 ^ 31 := by omega
    have am : df_X10_amount n (nI o) K.2.2.2 = some (nI L, K.2.2.2) := by
      simp (disch := (first | assumption | decide | omega)) only [df_X10_amount_60, df_X10_amount_0, df_X10_amount, Nat.add_zero, y5, y8, l1, eq_self, Nat.reduceEqDiff, Nat.reduceLeDiff, nl_0, nl_1, nl_2, nl_3, nl_4, nl_5, nl_32, nl_48, nl_240, no_1, no_1024, pk_mul, nI_add, nm_ck, nI_clamp, nI_ltI, nI_leI, nI_eq, nb_b2, nb_b1, ↓nb_let, nm_z0, nm_z1, nb_II, nb_IR, nb_RI, nb_RR, nm_IL, nm_IQ, nm_RL, nm_RQ, nm_LI, nm_LR, nm_LL, nm_LQ, nm_QI, nm_QR, nm_QL, nm_QQ, nm_rr, nm_ii, nm_eqm, not_false_eq_true, pk_sub, nm_div, nm_shl, nm_shr, nm_ush, nm_or8, nm_or64, nm_or256, nm_m1, nm_m3, nm_m7, nm_m15, nm_m31, nm_m63, nm_m255, nm_m511, nm_m1023, nm_m2047, nm_m65535, Nat.reduceMod, Nat.reducePow, Nat.reduceAdd, Nat.reduceSub, Nat.reduceMul, nm_bo, nm_bi, nm_rc, nm_ic, nm_ri, nm_rl, nm_rq, nm_ql, nm_qi, nm_li, nm_us, nm_uu, nm_cp, nm_sa31, nm_sa7, nm_m127, nm_m2, nm_nz, nm_nzk, nm_eq32, nm_nzf, if_true, if_false, ↓reduceIte, if_pos, if_neg]
    have of3 : df_X10_of n (nI o) (nI 3) K.2.2.2 = some (nI x, K.2.2.2) := by
      have w : sR K.2.2.2 1 (o * 5 + 3) = nI x := (y12 rfl).trans ex
      simp (disch := (first | assumption | decide | omega)) only [df_X10_of_0, df_X10_of, w, eq_self, Nat.reduceEqDiff, Nat.reduceLeDiff, nl_1, nl_5, nl_240, no_1, no_1024, pk_mul, nI_add, nm_ck, nI_clamp, nI_ltI, nI_leI, nI_eq, nb_b2, nb_b1, ↓nb_let, nm_z0, nm_z1, nb_II, nb_IR, nb_RI, nb_RR, nm_IL, nm_IQ, nm_RL, nm_RQ, nm_LI, nm_LR, nm_LL, nm_LQ, nm_QI, nm_QR, nm_QL, nm_QQ, nm_rr, nm_ii, nm_eqm, not_false_eq_true, pk_sub, nm_div, nm_shl, nm_shr, nm_ush, nm_or8, nm_or64, nm_or256, nm_m1, nm_m3, nm_m7, nm_m15, nm_m31, nm_m63, nm_m255, nm_m511, nm_m1023, nm_m2047, nm_m65535, Nat.reduceMod, Nat.reducePow, Nat.reduceAdd, Nat.reduceSub, Nat.reduceMul, nm_bo, nm_bi, nm_rc, nm_ic, nm_ri, nm_rl, nm_rq, nm_ql, nm_qi, nm_li, nm_us, nm_uu, nm_cp, nm_sa31, nm_sa7, nm_m127, nm_m2, nm_nz, nm_nzk, nm_eq32, nm_nzf, if_true, if_false, ↓reduceIte, if_pos, if_neg]
    have b4 := o24 ⟨r, hr⟩
    have b4 : nI r &&& nI 4 ≤ nI 0 ↔ nI r &&& nI 4 = nI 0 := b4
    have pl : ∃ P : Nat, P ≤ 512 ∧ df_X10_writingPlace n (nI o) K.2.2.2 = some (nI P, K.2.2.2) ∧ (¬ N = 0 → df_X16_writeFile n (nI o) (nI t) (nI A) (nI N) X = df_X16_writeFile_33 n (nI o) (nI t) (nI A) (nI N) (nI P) X) := by
      by_cases r4 : nI r &&& nI 4 = nI 0
      · have r4' := b4.mpr r4
        refine ⟨x, hx, by simp (disch := (first | assumption | decide | omega)) only [df_X10_writingPlace_25, df_X10_writingPlace_0, df_X10_writingPlace, of4, r4, of3, eq_self, Nat.reduceEqDiff, Nat.reduceLeDiff, nl_0, nl_3, nl_4, no_1, no_1024, pk_mul, nI_add, nm_ck, nI_clamp, nI_ltI, nI_leI, nI_eq, nb_b2, nb_b1, ↓nb_let, nm_z0, nm_z1, nb_II, nb_IR, nb_RI, nb_RR, nm_IL, nm_IQ, nm_RL, nm_RQ, nm_LI, nm_LR, nm_LL, nm_LQ, nm_QI, nm_QR, nm_QL, nm_QQ, nm_rr, nm_ii, nm_eqm, not_false_eq_true, pk_sub, nm_div, nm_shl, nm_shr, nm_ush, nm_or8, nm_or64, nm_or256, nm_m1, nm_m3, nm_m7, nm_m15, nm_m31, nm_m63, nm_m255, nm_m511, nm_m1023, nm_m2047, nm_m65535, Nat.reduceMod, Nat.reducePow, Nat.reduceAdd, Nat.reduceSub, Nat.reduceMul, nm_bo, nm_bi, nm_rc, nm_ic, nm_ri, nm_rl, nm_rq, nm_ql, nm_qi, nm_li, nm_us, nm_uu, nm_cp, nm_sa31, nm_sa7, nm_m127, nm_m2, nm_nz, nm_nzk, nm_eq32, nm_nzf, if_true, if_false, ↓reduceIte, if_pos, if_neg], fun e => ?_⟩
        simp (disch := (first | assumption | decide | omega)) only [df_X16_writeFile, df_X16_writeFile_0, e, er, r4', ex, eq_self, Nat.reduceEqDiff, Nat.reduceLeDiff, nl_0, nl_4, nl_16, nl_21, nl_22, nl_28, nl_48, no_1, no_1024, pk_mul, nI_add, nm_ck, nI_clamp, nI_ltI, nI_leI, nI_eq, nb_b2, nb_b1, ↓nb_let, nm_z0, nm_z1, nb_II, nb_IR, nb_RI, nb_RR, nm_IL, nm_IQ, nm_RL, nm_RQ, nm_LI, nm_LR, nm_LL, nm_LQ, nm_QI, nm_QR, nm_QL, nm_QQ, nm_rr, nm_ii, nm_eqm, not_false_eq_true, pk_sub, nm_div, nm_shl, nm_shr, nm_ush, nm_or8, nm_or64, nm_or256, nm_m1, nm_m3, nm_m7, nm_m15, nm_m31, nm_m63, nm_m255, nm_m511, nm_m1023, nm_m2047, nm_m65535, Nat.reduceMod, Nat.reducePow, Nat.reduceAdd, Nat.reduceSub, Nat.reduceMul, nm_bo, nm_bi, nm_rc, nm_ic, nm_ri, nm_rl, nm_rq, nm_ql, nm_qi, nm_li, nm_us, nm_uu, nm_cp, nm_sa31, nm_sa7, nm_m127, nm_m2, nm_nz, nm_nzk, nm_eq32, nm_nzf, if_true, if_false, ↓reduceIte, if_pos, if_neg]
      · have r4' : ¬ nI r &&& nI 4 ≤ nI 0 := fun y => r4 (b4.mp y)
        refine ⟨L, hL, by simp (disch := (first | assumption | decide | omega)) only [df_X10_writingPlace_25, df_X10_writingPlace_0, df_X10_writingPlace, of4, r4, am, eq_self, Nat.reduceEqDiff, Nat.reduceLeDiff, nl_0, nl_3, nl_4, no_1, no_1024, pk_mul, nI_add, nm_ck, nI_clamp, nI_ltI, nI_leI, nI_eq, nb_b2, nb_b1, ↓nb_let, nm_z0, nm_z1, nb_II, nb_IR, nb_RI, nb_RR, nm_IL, nm_IQ, nm_RL, nm_RQ, nm_LI, nm_LR, nm_LL, nm_LQ, nm_QI, nm_QR, nm_QL, nm_QQ, nm_rr, nm_ii, nm_eqm, not_false_eq_true, pk_sub, nm_div, nm_shl, nm_shr, nm_ush, nm_or8, nm_or64, nm_or256, nm_m1, nm_m3, nm_m7, nm_m15, nm_m31, nm_m63, nm_m255, nm_m511, nm_m1023, nm_m2047, nm_m65535, Nat.reduceMod, Nat.reducePow, Nat.reduceAdd, Nat.reduceSub, Nat.reduceMul, nm_bo, nm_bi, nm_rc, nm_ic, nm_ri, nm_rl, nm_rq, nm_ql, nm_qi, nm_li, nm_us, nm_uu, nm_cp, nm_sa31, nm_sa7, nm_m127, nm_m2, nm_nz, nm_nzk, nm_eq32, nm_nzf, if_true, if_false, ↓reduceIte, if_pos, if_neg], fun e => ?_⟩
        simp (disch := (first | assumption | decide | omega)) only [df_X16_writeFile, df_X16_writeFile_0, e, er, r4', l2, eq_self, Nat.reduceEqDiff, Nat.reduceLeDiff, nl_0, nl_4, nl_16, nl_21, nl_22, nl_28, nl_48, no_1, no_1024, pk_mul, nI_add, nm_ck, nI_clamp, nI_ltI, nI_leI, nI_eq, nb_b2, nb_b1, ↓nb_let, nm_z0, nm_z1, nb_II, nb_IR, nb_RI, nb_RR, nm_IL, nm_IQ, nm_RL, nm_RQ, nm_LI, nm_LR, nm_LL, nm_LQ, nm_QI, nm_QR, nm_QL, nm_QQ, nm_rr, nm_ii, nm_eqm, not_false_eq_true, pk_sub, nm_div, nm_shl, nm_shr, nm_ush, nm_or8, nm_or64, nm_or256, nm_m1, nm_m3, nm_m7, nm_m15, nm_m31, nm_m63, nm_m255, nm_m511, nm_m1023, nm_m2047, nm_m65535, Nat.reduceMod, Nat.reducePow, Nat.reduceAdd, Nat.reduceSub, Nat.reduceMul, nm_bo, nm_bi, nm_rc, nm_ic, nm_ri, nm_rl, nm_rq, nm_ql, nm_qi, nm_li, nm_us, nm_uu, nm_cp, nm_sa31, nm_sa7, nm_m127, nm_m2, nm_nz, nm_nzk, nm_eq32, nm_nzf, if_true, if_false, ↓reduceIte, if_pos, if_neg]
    obtain ⟨P, hP, wp, wf⟩ := pl
    have v4 : P + N < 2 ^ 31 := by omega
    have c1 : df_X5_write n (nI p) a (nI A) (nI N) K = df_X5_write_118 n (nI p) (nI A) (nI N) (nI o) (nI 3) (nI P) K := by
      simp (disch := (first | assumption | decide | omega)) only [df_X5_write, df_X5_write_0, n0, n512, ma1, o1, ob, of4, r2, of0, ib, wp, eq_self, Nat.reduceEqDiff, Nat.reduceLeDiff, nl_0, nl_1, nl_2, nl_3, nl_4, nl_5, nl_14, nl_512, no_1, no_1024, pk_mul, nI_add, nm_ck, nI_clamp, nI_ltI, nI_leI, nI_eq, nb_b2, nb_b1, ↓nb_let, nm_z0, nm_z1, nb_II, nb_IR, nb_RI, nb_RR, nm_IL, nm_IQ, nm_RL, nm_RQ, nm_LI, nm_LR, nm_LL, nm_LQ, nm_QI, nm_QR, nm_QL, nm_QQ, nm_rr, nm_ii, nm_eqm, not_false_eq_true, pk_sub, nm_div, nm_shl, nm_shr, nm_ush, nm_or8, nm_or64, nm_or256, nm_m1, nm_m3, nm_m7, nm_m15, nm_m31, nm_m63, nm_m255, nm_m511, nm_m1023, nm_m2047, nm_m65535, Nat.reduceMod, Nat.reducePow, Nat.reduceAdd, Nat.reduceSub, Nat.reduceMul, nm_bo, nm_bi, nm_rc, nm_ic, nm_ri, nm_rl, nm_rq, nm_ql, nm_qi, nm_li, nm_us, nm_uu, nm_cp, nm_sa31, nm_sa7, nm_m127, nm_m2, nm_nz, nm_nzk, nm_eq32, nm_nzf, if_true, if_false, ↓reduceIte, if_pos, if_neg]
    have c2 : df_X16_write7 n a (nI A) (nI N) X = nd_b2 (df_X16_writeFile n (nI o) (nI t) (nI A) (nI N) X) (fun q s => some (q, s)) := by
      simp (disch := (first | assumption | decide | omega)) only [df_X16_write7, df_X16_write7_0, df_X16_write7_95, n0, n512, h3, ma2, o2, er, r2, y4, y7, eq_self, Nat.reduceEqDiff, Nat.reduceLeDiff, nl_0, nl_1, nl_2, nl_3, nl_5, nl_12, nl_14, nl_19, nl_20, nl_22, nl_48, nl_512, no_1, no_1024, pk_mul, nI_add, nm_ck, nI_clamp, nI_ltI, nI_leI, nI_eq, nb_b2, nb_b1, ↓nb_let, nm_z0, nm_z1, nb_II, nb_IR, nb_RI, nb_RR, nm_IL, nm_IQ, nm_RL, nm_RQ, nm_LI, nm_LR, nm_LL, nm_LQ, nm_QI, nm_QR, nm_QL, nm_QQ, nm_rr, nm_ii, nm_eqm, not_false_eq_true, pk_sub, nm_div, nm_shl, nm_shr, nm_ush, nm_or8, nm_or64, nm_or256, nm_m1, nm_m3, nm_m7, nm_m15, nm_m31, nm_m63, nm_m255, nm_m511, nm_m1023, nm_m2047, nm_m65535, Nat.reduceMod, Nat.reducePow, Nat.reduceAdd, Nat.reduceSub, Nat.reduceMul, nm_bo, nm_bi, nm_rc, nm_ic, nm_ri, nm_rl, nm_rq, nm_ql, nm_qi, nm_li, nm_us, nm_uu, nm_cp, nm_sa31, nm_sa7, nm_m127, nm_m2, nm_nz, nm_nzk, nm_eq32, nm_nzf, if_true, if_false, ↓reduceIte, if_pos, if_neg]
    by_cases nz : N = 0
    · subst nz
      refine ans 0 (nI 0) (by decide) ?_ ?_
      · have z := z185 (nI 3) (nI P)
        rw [c1]
        simp (disch := (first | assumption | decide | omega)) only [df_X5_write_118, df_X5_write_140, df_X5_write_182, Nat.le_refl, ww, z, eq_self, Nat.reduceEqDiff, Nat.reduceLeDiff, nl_0, nl_3, nl_7, nl_512, nl_1099511627776, no_1, no_1024, pk_mul, nI_add, nm_ck, nI_clamp, nI_ltI, nI_leI, nI_eq, nb_b2, nb_b1, ↓nb_let, nm_z0, nm_z1, nb_II, nb_IR, nb_RI, nb_RR, nm_IL, nm_IQ, nm_RL, nm_RQ, nm_LI, nm_LR, nm_LL, nm_LQ, nm_QI, nm_QR, nm_QL, nm_QQ, nm_rr, nm_ii, nm_eqm, not_false_eq_true, pk_sub, nm_div, nm_shl, nm_shr, nm_ush, nm_or8, nm_or64, nm_or256, nm_m1, nm_m3, nm_m7, nm_m15, nm_m31, nm_m63, nm_m255, nm_m511, nm_m1023, nm_m2047, nm_m65535, Nat.reduceMod, Nat.reducePow, Nat.reduceAdd, Nat.reduceSub, Nat.reduceMul, nm_bo, nm_bi, nm_rc, nm_ic, nm_ri, nm_rl, nm_rq, nm_ql, nm_qi, nm_li, nm_us, nm_uu, nm_cp, nm_sa31, nm_sa7, nm_m127, nm_m2, nm_nz, nm_nzk, nm_eq32, nm_nzf, if_true, if_false, ↓reduceIte, if_pos, if_neg]
        rfl
      · rw [c2]
        simp (disch := (first | assumption | decide | omega)) only [df_X16_writeFile, df_X16_writeFile_0, eq_self, Nat.reduceEqDiff, Nat.reduceLeDiff, nl_0, nl_4, nl_16, nl_21, nl_22, nl_28, nl_48, no_1, no_1024, pk_mul, nI_add, nm_ck, nI_clamp, nI_ltI, nI_leI, nI_eq, nb_b2, nb_b1, ↓nb_let, nm_z0, nm_z1, nb_II, nb_IR, nb_RI, nb_RR, nm_IL, nm_IQ, nm_RL, nm_RQ, nm_LI, nm_LR, nm_LL, nm_LQ, nm_QI, nm_QR, nm_QL, nm_QQ, nm_rr, nm_ii, nm_eqm, not_false_eq_true, pk_sub, nm_div, nm_shl, nm_shr, nm_ush, nm_or8, nm_or64, nm_or256, nm_m1, nm_m3, nm_m7, nm_m15, nm_m31, nm_m63, nm_m255, nm_m511, nm_m1023, nm_m2047, nm_m65535, Nat.reduceMod, Nat.reducePow, Nat.reduceAdd, Nat.reduceSub, Nat.reduceMul, nm_bo, nm_bi, nm_rc, nm_ic, nm_ri, nm_rl, nm_rq, nm_ql, nm_qi, nm_li, nm_us, nm_uu, nm_cp, nm_sa31, nm_sa7, nm_m127, nm_m2, nm_nz, nm_nzk, nm_eq32, nm_nzf, if_true, if_false, ↓reduceIte, if_pos, if_neg]
    · have nz' : ¬ N ≤ 0 := by omega
      by_cases c : P + N ≤ 512
      · have hA3 : A + N ≤ 65536 := by
          rcases hA2 with e | e
          · exact absurd e nz
          · exact e
        obtain ⟨D', X', q1, q2, q3, q4, q5⟩ := wr_f n (by omega) (K1 := K.1) (K2 := K.2.1) h1 h2 h3 hA3 (by omega) hm ho y10 y4 y8 l1 l2 hL c l3
        have q1 : nd_b1 (df_X10_stretch n (nI o) (nI P) (nI N) K.2.2.2) (fun D => df_X5_write_185 n n (nI p) (nI A) (nI N) (nI o) (nI 3) (nI P) (nI 0) (K.1, (K.2.1, (K.2.2.1, D)))) = _ := q1
        have c3 : df_X5_write_118 n (nI p) (nI A) (nI N) (nI o) (nI 3) (nI P) K = nd_b1 (df_X10_stretch n (nI o) (nI P) (nI N) K.2.2.2) (fun D => df_X5_write_185 n n (nI p) (nI A) (nI N) (nI o) (nI 3) (nI P) (nI 0) (K.1, (K.2.1, (K.2.2.1, D)))) := by
          simp (disch := (first | assumption | decide | omega)) only [df_X5_write_118, df_X5_write_140, df_X5_write_182, nz', c, ww, eq_self, Nat.reduceEqDiff, Nat.reduceLeDiff, nl_0, nl_3, nl_7, nl_512, nl_1099511627776, no_1, no_1024, pk_mul, nI_add, nm_ck, nI_clamp, nI_ltI, nI_leI, nI_eq, nb_b2, nb_b1, ↓nb_let, nm_z0, nm_z1, nb_II, nb_IR, nb_RI, nb_RR, nm_IL, nm_IQ, nm_RL, nm_RQ, nm_LI, nm_LR, nm_LL, nm_LQ, nm_QI, nm_QR, nm_QL, nm_QQ, nm_rr, nm_ii, nm_eqm, not_false_eq_true, pk_sub, nm_div, nm_shl, nm_shr, nm_ush, nm_or8, nm_or64, nm_or256, nm_m1, nm_m3, nm_m7, nm_m15, nm_m31, nm_m63, nm_m255, nm_m511, nm_m1023, nm_m2047, nm_m65535, Nat.reduceMod, Nat.reducePow, Nat.reduceAdd, Nat.reduceSub, Nat.reduceMul, nm_bo, nm_bi, nm_rc, nm_ic, nm_ri, nm_rl, nm_rq, nm_ql, nm_qi, nm_li, nm_us, nm_uu, nm_cp, nm_sa31, nm_sa7, nm_m127, nm_m2, nm_nz, nm_nzk, nm_eq32, nm_nzf, if_true, if_false, ↓reduceIte, if_pos, if_neg]
        have c4 : df_X16_writeFile_33 n (nI o) (nI t) (nI A) (nI N) (nI P) X = df_X16_writeFile_57 n n (nI o) (nI t) (nI A) (nI N) (nI P) (nI L) X := by
          simp (disch := (first | assumption | decide | omega)) only [df_X16_writeFile_33, c, l2, eq_self, Nat.reduceEqDiff, Nat.reduceLeDiff, nl_7, nl_16, nl_28, nl_512, no_1, no_1024, pk_mul, nI_add, nm_ck, nI_clamp, nI_ltI, nI_leI, nI_eq, nb_b2, nb_b1, ↓nb_let, nm_z0, nm_z1, nb_II, nb_IR, nb_RI, nb_RR, nm_IL, nm_IQ, nm_RL, nm_RQ, nm_LI, nm_LR, nm_LL, nm_LQ, nm_QI, nm_QR, nm_QL, nm_QQ, nm_rr, nm_ii, nm_eqm, not_false_eq_true, pk_sub, nm_div, nm_shl, nm_shr, nm_ush, nm_or8, nm_or64, nm_or256, nm_m1, nm_m3, nm_m7, nm_m15, nm_m31, nm_m63, nm_m255, nm_m511, nm_m1023, nm_m2047, nm_m65535, Nat.reduceMod, Nat.reducePow, Nat.reduceAdd, Nat.reduceSub, Nat.reduceMul, nm_bo, nm_bi, nm_rc, nm_ic, nm_ri, nm_rl, nm_rq, nm_ql, nm_qi, nm_li, nm_us, nm_uu, nm_cp, nm_sa31, nm_sa7, nm_m127, nm_m2, nm_nz, nm_nzk, nm_eq32, nm_nzf, if_true, if_false, ↓reduceIte, if_pos, if_neg]
        rw [c1, c3, q1, c2, wf nz, c4, q2, nb_b2]
        exact post B N D' X' (by omega) q3 q4 q5
      · refine ans (-7) (-nI 7) (by decide) ?_ ?_
        · rw [c1]
          simp (disch := (first | assumption | decide | omega)) only [df_X5_write_118, nz', c, eq_self, Nat.reduceEqDiff, Nat.reduceLeDiff, nl_0, nl_7, nl_512, no_1, no_1024, pk_mul, nI_add, nm_ck, nI_clamp, nI_ltI, nI_leI, nI_eq, nb_b2, nb_b1, ↓nb_let, nm_z0, nm_z1, nb_II, nb_IR, nb_RI, nb_RR, nm_IL, nm_IQ, nm_RL, nm_RQ, nm_LI, nm_LR, nm_LL, nm_LQ, nm_QI, nm_QR, nm_QL, nm_QQ, nm_rr, nm_ii, nm_eqm, not_false_eq_true, pk_sub, nm_div, nm_shl, nm_shr, nm_ush, nm_or8, nm_or64, nm_or256, nm_m1, nm_m3, nm_m7, nm_m15, nm_m31, nm_m63, nm_m255, nm_m511, nm_m1023, nm_m2047, nm_m65535, Nat.reduceMod, Nat.reducePow, Nat.reduceAdd, Nat.reduceSub, Nat.reduceMul, nm_bo, nm_bi, nm_rc, nm_ic, nm_ri, nm_rl, nm_rq, nm_ql, nm_qi, nm_li, nm_us, nm_uu, nm_cp, nm_sa31, nm_sa7, nm_m127, nm_m2, nm_nz, nm_nzk, nm_eq32, nm_nzf, if_true, if_false, ↓reduceIte, if_pos, if_neg]
        · have c4 : df_X16_writeFile_33 n (nI o) (nI t) (nI A) (nI N) (nI P) X = some (-nI 7, X) := by
            simp (disch := (first | assumption | decide | omega)) only [df_X16_writeFile_33, c, eq_self, Nat.reduceEqDiff, Nat.reduceLeDiff, nl_7, nl_16, nl_28, nl_512, no_1, no_1024, pk_mul, nI_add, nm_ck, nI_clamp, nI_ltI, nI_leI, nI_eq, nb_b2, nb_b1, ↓nb_let, nm_z0, nm_z1, nb_II, nb_IR, nb_RI, nb_RR, nm_IL, nm_IQ, nm_RL, nm_RQ, nm_LI, nm_LR, nm_LL, nm_LQ, nm_QI, nm_QR, nm_QL, nm_QQ, nm_rr, nm_ii, nm_eqm, not_false_eq_true, pk_sub, nm_div, nm_shl, nm_shr, nm_ush, nm_or8, nm_or64, nm_or256, nm_m1, nm_m3, nm_m7, nm_m15, nm_m31, nm_m63, nm_m255, nm_m511, nm_m1023, nm_m2047, nm_m65535, Nat.reduceMod, Nat.reducePow, Nat.reduceAdd, Nat.reduceSub, Nat.reduceMul, nm_bo, nm_bi, nm_rc, nm_ic, nm_ri, nm_rl, nm_rq, nm_ql, nm_qi, nm_li, nm_us, nm_uu, nm_cp, nm_sa31, nm_sa7, nm_m127, nm_m2, nm_nz, nm_nzk, nm_eq32, nm_nzf, if_true, if_false, ↓reduceIte, if_pos, if_neg]
          rw [c2, wf nz, c4, nb_b2]
  by_cases k4 : k = 4
  · subst k4
    have ww := ww (by omega)
    have ib := ib (by omega)
    have w4 : df_X16_waits n (nI o) (nI 0) (nI N) X = some (nI 0, X) := by
      by_cases e : N = 0
      · subst e
        simp (disch := (first | assumption | decide | omega)) only [df_X16_waits_125, df_X16_waits_124, df_X16_waits_80, df_X16_waits_79, df_X16_waits_40, df_X16_waits_39, df_X16_waits_0, df_X16_waits, eq_self, Nat.reduceEqDiff, Nat.reduceLeDiff, nl_0, nl_1, nl_2, nl_4, nl_7, nl_8, nl_19, nl_20, nl_26, nl_48, nl_512, no_1, no_1024, pk_mul, nI_add, nm_ck, nI_clamp, nI_ltI, nI_leI, nI_eq, nb_b2, nb_b1, ↓nb_let, nm_z0, nm_z1, nb_II, nb_IR, nb_RI, nb_RR, nm_IL, nm_IQ, nm_RL, nm_RQ, nm_LI, nm_LR, nm_LL, nm_LQ, nm_QI, nm_QR, nm_QL, nm_QQ, nm_rr, nm_ii, nm_eqm, not_false_eq_true, pk_sub, nm_div, nm_shl, nm_shr, nm_ush, nm_or8, nm_or64, nm_or256, nm_m1, nm_m3, nm_m7, nm_m15, nm_m31, nm_m63, nm_m255, nm_m511, nm_m1023, nm_m2047, nm_m65535, Nat.reduceMod, Nat.reducePow, Nat.reduceAdd, Nat.reduceSub, Nat.reduceMul, nm_bo, nm_bi, nm_rc, nm_ic, nm_ri, nm_rl, nm_rq, nm_ql, nm_qi, nm_li, nm_us, nm_uu, nm_cp, nm_sa31, nm_sa7, nm_m127, nm_m2, nm_nz, nm_nzk, nm_eq32, nm_nzf, if_true, if_false, ↓reduceIte, if_pos, if_neg]
      · simp (disch := (first | assumption | decide | omega)) only [df_X16_waits_125, df_X16_waits_124, df_X16_waits_80, df_X16_waits_79, df_X16_waits_40, df_X16_waits_39, df_X16_waits_0, df_X16_waits, e, y4, y7, eq_self, Nat.reduceEqDiff, Nat.reduceLeDiff, nl_0, nl_1, nl_2, nl_4, nl_7, nl_8, nl_19, nl_20, nl_26, nl_48, nl_512, no_1, no_1024, pk_mul, nI_add, nm_ck, nI_clamp, nI_ltI, nI_leI, nI_eq, nb_b2, nb_b1, ↓nb_let, nm_z0, nm_z1, nb_II, nb_IR, nb_RI, nb_RR, nm_IL, nm_IQ, nm_RL, nm_RQ, nm_LI, nm_LR, nm_LL, nm_LQ, nm_QI, nm_QR, nm_QL, nm_QQ, nm_rr, nm_ii, nm_eqm, not_false_eq_true, pk_sub, nm_div, nm_shl, nm_shr, nm_ush, nm_or8, nm_or64, nm_or256, nm_m1, nm_m3, nm_m7, nm_m15, nm_m31, nm_m63, nm_m255, nm_m511, nm_m1023, nm_m2047, nm_m65535, Nat.reduceMod, Nat.reducePow, Nat.reduceAdd, Nat.reduceSub, Nat.reduceMul, nm_bo, nm_bi, nm_rc, nm_ic, nm_ri, nm_rl, nm_rq, nm_ql, nm_qi, nm_li, nm_us, nm_uu, nm_cp, nm_sa31, nm_sa7, nm_m127, nm_m2, nm_nz, nm_nzk, nm_eq32, nm_nzf, if_true, if_false, ↓reduceIte, if_pos, if_neg]
    have v0 : 0 + N ≤ 512 := by omega
    have c1 : df_X5_write n (nI p) a (nI A) (nI N) K = df_X5_write_185 n n (nI p) (nI A) (nI N) (nI o) (nI 4) (nI 0) (nI 0) K := by
      have c0 : df_X5_write n (nI p) a (nI A) (nI N) K = df_X5_write_118 n (nI p) (nI A) (nI N) (nI o) (nI 4) (nI 0) K := by
        simp (disch := (first | assumption | decide | omega)) only [df_X5_write, df_X5_write_0, n0, n512, ma1, o1, ob, of4, r2, of0, ib, eq_self, Nat.reduceEqDiff, Nat.reduceLeDiff, nl_0, nl_1, nl_2, nl_3, nl_4, nl_5, nl_14, nl_512, no_1, no_1024, pk_mul, nI_add, nm_ck, nI_clamp, nI_ltI, nI_leI, nI_eq, nb_b2, nb_b1, ↓nb_let, nm_z0, nm_z1, nb_II, nb_IR, nb_RI, nb_RR, nm_IL, nm_IQ, nm_RL, nm_RQ, nm_LI, nm_LR, nm_LL, nm_LQ, nm_QI, nm_QR, nm_QL, nm_QQ, nm_rr, nm_ii, nm_eqm, not_false_eq_true, pk_sub, nm_div, nm_shl, nm_shr, nm_ush, nm_or8, nm_or64, nm_or256, nm_m1, nm_m3, nm_m7, nm_m15, nm_m31, nm_m63, nm_m255, nm_m511, nm_m1023, nm_m2047, nm_m65535, Nat.reduceMod, Nat.reducePow, Nat.reduceAdd, Nat.reduceSub, Nat.reduceMul, nm_bo, nm_bi, nm_rc, nm_ic, nm_ri, nm_rl, nm_rq, nm_ql, nm_qi, nm_li, nm_us, nm_uu, nm_cp, nm_sa31, nm_sa7, nm_m127, nm_m2, nm_nz, nm_nzk, nm_eq32, nm_nzf, if_true, if_false, ↓reduceIte, if_pos, if_neg]
      rw [c0]
      by_cases e : N ≤ 0
      · simp (disch := (first | assumption | decide | omega)) only [df_X5_write_118, df_X5_write_140, df_X5_write_182, e, ww, eq_self, Nat.reduceEqDiff, Nat.reduceLeDiff, nl_0, nl_3, nl_7, nl_512, nl_1099511627776, no_1, no_1024, pk_mul, nI_add, nm_ck, nI_clamp, nI_ltI, nI_leI, nI_eq, nb_b2, nb_b1, ↓nb_let, nm_z0, nm_z1, nb_II, nb_IR, nb_RI, nb_RR, nm_IL, nm_IQ, nm_RL, nm_RQ, nm_LI, nm_LR, nm_LL, nm_LQ, nm_QI, nm_QR, nm_QL, nm_QQ, nm_rr, nm_ii, nm_eqm, not_false_eq_true, pk_sub, nm_div, nm_shl, nm_shr, nm_ush, nm_or8, nm_or64, nm_or256, nm_m1, nm_m3, nm_m7, nm_m15, nm_m31, nm_m63, nm_m255, nm_m511, nm_m1023, nm_m2047, nm_m65535, Nat.reduceMod, Nat.reducePow, Nat.reduceAdd, Nat.reduceSub, Nat.reduceMul, nm_bo, nm_bi, nm_rc, nm_ic, nm_ri, nm_rl, nm_rq, nm_ql, nm_qi, nm_li, nm_us, nm_uu, nm_cp, nm_sa31, nm_sa7, nm_m127, nm_m2, nm_nz, nm_nzk, nm_eq32, nm_nzf, if_true, if_false, ↓reduceIte, if_pos, if_neg]
      · simp (disch := (first | assumption | decide | omega)) only [df_X5_write_118, df_X5_write_140, df_X5_write_182, e, v0, Nat.zero_add, n512, ww, eq_self, Nat.reduceEqDiff, Nat.reduceLeDiff, nl_0, nl_3, nl_7, nl_512, nl_1099511627776, no_1, no_1024, pk_mul, nI_add, nm_ck, nI_clamp, nI_ltI, nI_leI, nI_eq, nb_b2, nb_b1, ↓nb_let, nm_z0, nm_z1, nb_II, nb_IR, nb_RI, nb_RR, nm_IL, nm_IQ, nm_RL, nm_RQ, nm_LI, nm_LR, nm_LL, nm_LQ, nm_QI, nm_QR, nm_QL, nm_QQ, nm_rr, nm_ii, nm_eqm, not_false_eq_true, pk_sub, nm_div, nm_shl, nm_shr, nm_ush, nm_or8, nm_or64, nm_or256, nm_m1, nm_m3, nm_m7, nm_m15, nm_m31, nm_m63, nm_m255, nm_m511, nm_m1023, nm_m2047, nm_m65535, Nat.reduceMod, Nat.reducePow, Nat.reduceAdd, Nat.reduceSub, Nat.reduceMul, nm_bo, nm_bi, nm_rc, nm_ic, nm_ri, nm_rl, nm_rq, nm_ql, nm_qi, nm_li, nm_us, nm_uu, nm_cp, nm_sa31, nm_sa7, nm_m127, nm_m2, nm_nz, nm_nzk, nm_eq32, nm_nzf, if_true, if_false, ↓reduceIte, if_pos, if_neg]
    have c2 : df_X16_write7 n a (nI A) (nI N) X = df_X16_write7_137 n n (nI A) (nI N) (nI o) (nI t) (nI 0) X := by
      simp (disch := (first | assumption | decide | omega)) only [df_X16_write7, df_X16_write7_0, df_X16_write7_95, n0, n512, h3, ma2, o2, er, r2, y4, y7, w4, eq_self, Nat.reduceEqDiff, Nat.reduceLeDiff, nl_0, nl_1, nl_2, nl_3, nl_5, nl_12, nl_14, nl_19, nl_20, nl_22, nl_48, nl_512, no_1, no_1024, pk_mul, nI_add, nm_ck, nI_clamp, nI_ltI, nI_leI, nI_eq, nb_b2, nb_b1, ↓nb_let, nm_z0, nm_z1, nb_II, nb_IR, nb_RI, nb_RR, nm_IL, nm_IQ, nm_RL, nm_RQ, nm_LI, nm_LR, nm_LL, nm_LQ, nm_QI, nm_QR, nm_QL, nm_QQ, nm_rr, nm_ii, nm_eqm, not_false_eq_true, pk_sub, nm_div, nm_shl, nm_shr, nm_ush, nm_or8, nm_or64, nm_or256, nm_m1, nm_m3, nm_m7, nm_m15, nm_m31, nm_m63, nm_m255, nm_m511, nm_m1023, nm_m2047, nm_m65535, Nat.reduceMod, Nat.reducePow, Nat.reduceAdd, Nat.reduceSub, Nat.reduceMul, nm_bo, nm_bi, nm_rc, nm_ic, nm_ri, nm_rl, nm_rq, nm_ql, nm_qi, nm_li, nm_us, nm_uu, nm_cp, nm_sa31, nm_sa7, nm_m127, nm_m2, nm_nz, nm_nzk, nm_eq32, nm_nzf, if_true, if_false, ↓reduceIte, if_pos, if_neg]
    rcases hA2 with e | hA3
    · subst e
      refine ans ((nI 0).toInt64) (nI 0) rfl ?_ ?_
      · rw [c1]; exact z185 _ _
      · rw [c2]; exact z137
    · obtain ⟨D', X', q1, q2, q3, q4, q5⟩ := wr_c n hn (K1 := K.1) (K2 := K.2.1) h1 hB h2 h3 (t := nI t) hA3 n512 hm ho y4
      have q1 : df_X5_write_185 n n (nI p) (nI A) (nI N) (nI o) (nI 4) (nI 0) (nI 0) K = _ := q1
      rw [c1, q1, c2, q2]
      exact post (B + N) N D' X' (by omega) q3 q4 q5
  · have k2 : k = 2 := by omega
    subst k2
    have t8 := y9 (by omega)
    have e23 : sR X.1 23 t = nI 1 := by
      have x1 : 0 < cE (sR X.1 19) (sR X.1 20) 2 t := cN_p (P := fun j => decide (sR X.1 19 j = nI 2 ∧ sR X.1 20 j = nI t)) (i := o) (decide_eq_true ⟨y4, y7⟩) ho
      rw [(m2.2.2.1 t t8).2.2, decide_eq_true (by omega)]
      rfl
    obtain ⟨L, oo, hL, hoo, l1, l2, l3, _⟩ := m7.1 t t8 e23
    have ep := (m2.2.2.1 t t8).1
    have en : df_X16_ends n (nI 1) (nI t) X = some (nI (cE (sR X.1 19) (sR X.1 20) 1 t), X) := nb_ends n (by omega) (nI 1) (nI t) X
    have cl := cE_le (sR X.1 19) (sR X.1 20) 1 t
    have w2 := fun x0 => nk_ww2 n (by omega) m2 (N := N) ho t8 n512 hL y4 y7 l1 l2 x0
    generalize cE (sR X.1 19) (sR X.1 20) 1 t = x at ep en cl w2
    have v1 : t * 4 + 1 < 32 := by omega
    have v2 : t * 4 + 1 < 2 ^ 31 := by omega
    have v3 : x < 2 ^ 31 := by omega
    have v4 : t < 2 ^ 31 := by omega
    by_cases x0 : x = 0
    · subst x0
      have ib : df_X10_isBroken n (nI o) K.2.2.2 = some (nI 1, K.2.2.2) := by
        simp (disch := (first | assumption | decide | omega)) only [df_X10_isBroken_33, df_X10_isBroken_32, df_X10_isBroken_0, df_X10_isBroken, of0, of2, ep, eq_self, Nat.reduceEqDiff, Nat.reduceLeDiff, nl_0, nl_1, nl_2, nl_4, nl_32, no_1, no_1024, pk_mul, nI_add, nm_ck, nI_clamp, nI_ltI, nI_leI, nI_eq, nb_b2, nb_b1, ↓nb_let, nm_z0, nm_z1, nb_II, nb_IR, nb_RI, nb_RR, nm_IL, nm_IQ, nm_RL, nm_RQ, nm_LI, nm_LR, nm_LL, nm_LQ, nm_QI, nm_QR, nm_QL, nm_QQ, nm_rr, nm_ii, nm_eqm, not_false_eq_true, pk_sub, nm_div, nm_shl, nm_shr, nm_ush, nm_or8, nm_or64, nm_or256, nm_m1, nm_m3, nm_m7, nm_m15, nm_m31, nm_m63, nm_m255, nm_m511, nm_m1023, nm_m2047, nm_m65535, Nat.reduceMod, Nat.reducePow, Nat.reduceAdd, Nat.reduceSub, Nat.reduceMul, nm_bo, nm_bi, nm_rc, nm_ic, nm_ri, nm_rl, nm_rq, nm_ql, nm_qi, nm_li, nm_us, nm_uu, nm_cp, nm_sa31, nm_sa7, nm_m127, nm_m2, nm_nz, nm_nzk, nm_eq32, nm_nzf, if_true, if_false, ↓reduceIte, if_pos, if_neg]
      exact ans (-5) (-nI 5) (by decide) (by simp (disch := (first | assumption | decide | omega)) only [df_X5_write, df_X5_write_0, n0, n512, ma1, o1, ob, of4, r2, of0, ib, eq_self, Nat.reduceEqDiff, Nat.reduceLeDiff, nl_0, nl_1, nl_2, nl_3, nl_4, nl_5, nl_14, nl_512, no_1, no_1024, pk_mul, nI_add, nm_ck, nI_clamp, nI_ltI, nI_leI, nI_eq, nb_b2, nb_b1, ↓nb_let, nm_z0, nm_z1, nb_II, nb_IR, nb_RI, nb_RR, nm_IL, nm_IQ, nm_RL, nm_RQ, nm_LI, nm_LR, nm_LL, nm_LQ, nm_QI, nm_QR, nm_QL, nm_QQ, nm_rr, nm_ii, nm_eqm, not_false_eq_true, pk_sub, nm_div, nm_shl, nm_shr, nm_ush, nm_or8, nm_or64, nm_or256, nm_m1, nm_m3, nm_m7, nm_m15, nm_m31, nm_m63, nm_m255, nm_m511, nm_m1023, nm_m2047, nm_m65535, Nat.reduceMod, Nat.reducePow, Nat.reduceAdd, Nat.reduceSub, Nat.reduceMul, nm_bo, nm_bi, nm_rc, nm_ic, nm_ri, nm_rl, nm_rq, nm_ql, nm_qi, nm_li, nm_us, nm_uu, nm_cp, nm_sa31, nm_sa7, nm_m127, nm_m2, nm_nz, nm_nzk, nm_eq32, nm_nzf, if_true, if_false, ↓reduceIte, if_pos, if_neg]) (by simp (disch := (first | assumption | decide | omega)) only [df_X16_write7, df_X16_write7_0, n0, n512, h3, ma2, o2, er, r2, y4, y7, en, eq_self, Nat.reduceEqDiff, Nat.reduceLeDiff, nl_0, nl_1, nl_2, nl_5, nl_12, nl_14, nl_19, nl_20, nl_22, nl_48, nl_512, no_1, no_1024, pk_mul, nI_add, nm_ck, nI_clamp, nI_ltI, nI_leI, nI_eq, nb_b2, nb_b1, ↓nb_let, nm_z0, nm_z1, nb_II, nb_IR, nb_RI, nb_RR, nm_IL, nm_IQ, nm_RL, nm_RQ, nm_LI, nm_LR, nm_LL, nm_LQ, nm_QI, nm_QR, nm_QL, nm_QQ, nm_rr, nm_ii, nm_eqm, not_false_eq_true, pk_sub, nm_div, nm_shl, nm_shr, nm_ush, nm_or8, nm_or64, nm_or256, nm_m1, nm_m3, nm_m7, nm_m15, nm_m31, nm_m63, nm_m255, nm_m511, nm_m1023, nm_m2047, nm_m65535, Nat.reduceMod, Nat.reducePow, Nat.reduceAdd, Nat.reduceSub, Nat.reduceMul, nm_bo, nm_bi, nm_rc, nm_ic, nm_ri, nm_rl, nm_rq, nm_ql, nm_qi, nm_li, nm_us, nm_uu, nm_cp, nm_sa31, nm_sa7, nm_m127, nm_m2, nm_nz, nm_nzk, nm_eq32, nm_nzf, if_true, if_false, ↓reduceIte, if_pos, if_neg])
    · have ib : df_X10_isBroken n (nI o) K.2.2.2 = some (nI 0, K.2.2.2) := by
        simp (disch := (first | assumption | decide | omega)) only [df_X10_isBroken_33, df_X10_isBroken_32, df_X10_isBroken_0, df_X10_isBroken, of0, of2, ep, x0, eq_self, Nat.reduceEqDiff, Nat.reduceLeDiff, nl_0, nl_1, nl_2, nl_4, nl_32, no_1, no_1024, pk_mul, nI_add, nm_ck, nI_clamp, nI_ltI, nI_leI, nI_eq, nb_b2, nb_b1, ↓nb_let, nm_z0, nm_z1, nb_II, nb_IR, nb_RI, nb_RR, nm_IL, nm_IQ, nm_RL, nm_RQ, nm_LI, nm_LR, nm_LL, nm_LQ, nm_QI, nm_QR, nm_QL, nm_QQ, nm_rr, nm_ii, nm_eqm, not_false_eq_true, pk_sub, nm_div, nm_shl, nm_shr, nm_ush, nm_or8, nm_or64, nm_or256, nm_m1, nm_m3, nm_m7, nm_m15, nm_m31, nm_m63, nm_m255, nm_m511, nm_m1023, nm_m2047, nm_m65535, Nat.reduceMod, Nat.reducePow, Nat.reduceAdd, Nat.reduceSub, Nat.reduceMul, nm_bo, nm_bi, nm_rc, nm_ic, nm_ri, nm_rl, nm_rq, nm_ql, nm_qi, nm_li, nm_us, nm_uu, nm_cp, nm_sa31, nm_sa7, nm_m127, nm_m2, nm_nz, nm_nzk, nm_eq32, nm_nzf, if_true, if_false, ↓reduceIte, if_pos, if_neg]
      obtain ⟨w3, w4⟩ := w2 x0
      have c0 : df_X5_write n (nI p) a (nI A) (nI N) K = df_X5_write_140 n (nI p) (nI A) (nI N) (nI o) (nI 2) (nI 0) K := by
        have c0 : df_X5_write n (nI p) a (nI A) (nI N) K = df_X5_write_118 n (nI p) (nI A) (nI N) (nI o) (nI 2) (nI 0) K := by
          simp (disch := (first | assumption | decide | omega)) only [df_X5_write, df_X5_write_0, n0, n512, ma1, o1, ob, of4, r2, of0, ib, eq_self, Nat.reduceEqDiff, Nat.reduceLeDiff, nl_0, nl_1, nl_2, nl_3, nl_4, nl_5, nl_14, nl_512, no_1, no_1024, pk_mul, nI_add, nm_ck, nI_clamp, nI_ltI, nI_leI, nI_eq, nb_b2, nb_b1, ↓nb_let, nm_z0, nm_z1, nb_II, nb_IR, nb_RI, nb_RR, nm_IL, nm_IQ, nm_RL, nm_RQ, nm_LI, nm_LR, nm_LL, nm_LQ, nm_QI, nm_QR, nm_QL, nm_QQ, nm_rr, nm_ii, nm_eqm, not_false_eq_true, pk_sub, nm_div, nm_shl, nm_shr, nm_ush, nm_or8, nm_or64, nm_or256, nm_m1, nm_m3, nm_m7, nm_m15, nm_m31, nm_m63, nm_m255, nm_m511, nm_m1023, nm_m2047, nm_m65535, Nat.reduceMod, Nat.reducePow, Nat.reduceAdd, Nat.reduceSub, Nat.reduceMul, nm_bo, nm_bi, nm_rc, nm_ic, nm_ri, nm_rl, nm_rq, nm_ql, nm_qi, nm_li, nm_us, nm_uu, nm_cp, nm_sa31, nm_sa7, nm_m127, nm_m2, nm_nz, nm_nzk, nm_eq32, nm_nzf, if_true, if_false, ↓reduceIte, if_pos, if_neg]
        rw [c0]
        by_cases e : N ≤ 0
        · simp (disch := (first | assumption | decide | omega)) only [df_X5_write_118, e, eq_self, Nat.reduceEqDiff, Nat.reduceLeDiff, nl_0, nl_7, nl_512, no_1, no_1024, pk_mul, nI_add, nm_ck, nI_clamp, nI_ltI, nI_leI, nI_eq, nb_b2, nb_b1, ↓nb_let, nm_z0, nm_z1, nb_II, nb_IR, nb_RI, nb_RR, nm_IL, nm_IQ, nm_RL, nm_RQ, nm_LI, nm_LR, nm_LL, nm_LQ, nm_QI, nm_QR, nm_QL, nm_QQ, nm_rr, nm_ii, nm_eqm, not_false_eq_true, pk_sub, nm_div, nm_shl, nm_shr, nm_ush, nm_or8, nm_or64, nm_or256, nm_m1, nm_m3, nm_m7, nm_m15, nm_m31, nm_m63, nm_m255, nm_m511, nm_m1023, nm_m2047, nm_m65535, Nat.reduceMod, Nat.reducePow, Nat.reduceAdd, Nat.reduceSub, Nat.reduceMul, nm_bo, nm_bi, nm_rc, nm_ic, nm_ri, nm_rl, nm_rq, nm_ql, nm_qi, nm_li, nm_us, nm_uu, nm_cp, nm_sa31, nm_sa7, nm_m127, nm_m2, nm_nz, nm_nzk, nm_eq32, nm_nzf, if_true, if_false, ↓reduceIte, if_pos, if_neg]
        · simp (disch := (first | assumption | decide | omega)) only [df_X5_write_118, e, Nat.zero_add, n512, eq_self, Nat.reduceEqDiff, Nat.reduceLeDiff, nl_0, nl_7, nl_512, no_1, no_1024, pk_mul, nI_add, nm_ck, nI_clamp, nI_ltI, nI_leI, nI_eq, nb_b2, nb_b1, ↓nb_let, nm_z0, nm_z1, nb_II, nb_IR, nb_RI, nb_RR, nm_IL, nm_IQ, nm_RL, nm_RQ, nm_LI, nm_LR, nm_LL, nm_LQ, nm_QI, nm_QR, nm_QL, nm_QQ, nm_rr, nm_ii, nm_eqm, not_false_eq_true, pk_sub, nm_div, nm_shl, nm_shr, nm_ush, nm_or8, nm_or64, nm_or256, nm_m1, nm_m3, nm_m7, nm_m15, nm_m31, nm_m63, nm_m255, nm_m511, nm_m1023, nm_m2047, nm_m65535, Nat.reduceMod, Nat.reducePow, Nat.reduceAdd, Nat.reduceSub, Nat.reduceMul, nm_bo, nm_bi, nm_rc, nm_ic, nm_ri, nm_rl, nm_rq, nm_ql, nm_qi, nm_li, nm_us, nm_uu, nm_cp, nm_sa31, nm_sa7, nm_m127, nm_m2, nm_nz, nm_nzk, nm_eq32, nm_nzf, if_true, if_false, ↓reduceIte, if_pos, if_neg]
      have c5 : df_X16_write7 n a (nI A) (nI N) X = df_X16_write7_95 n (nI A) (nI N) (nI o) (nI t) X := by
        simp (disch := (first | assumption | decide | omega)) only [df_X16_write7, df_X16_write7_0, n0, n512, h3, ma2, o2, er, r2, y4, y7, en, x0, eq_self, Nat.reduceEqDiff, Nat.reduceLeDiff, nl_0, nl_1, nl_2, nl_5, nl_12, nl_14, nl_19, nl_20, nl_22, nl_48, nl_512, no_1, no_1024, pk_mul, nI_add, nm_ck, nI_clamp, nI_ltI, nI_leI, nI_eq, nb_b2, nb_b1, ↓nb_let, nm_z0, nm_z1, nb_II, nb_IR, nb_RI, nb_RR, nm_IL, nm_IQ, nm_RL, nm_RQ, nm_LI, nm_LR, nm_LL, nm_LQ, nm_QI, nm_QR, nm_QL, nm_QQ, nm_rr, nm_ii, nm_eqm, not_false_eq_true, pk_sub, nm_div, nm_shl, nm_shr, nm_ush, nm_or8, nm_or64, nm_or256, nm_m1, nm_m3, nm_m7, nm_m15, nm_m31, nm_m63, nm_m255, nm_m511, nm_m1023, nm_m2047, nm_m65535, Nat.reduceMod, Nat.reducePow, Nat.reduceAdd, Nat.reduceSub, Nat.reduceMul, nm_bo, nm_bi, nm_rc, nm_ic, nm_ri, nm_rl, nm_rq, nm_ql, nm_qi, nm_li, nm_us, nm_uu, nm_cp, nm_sa31, nm_sa7, nm_m127, nm_m2, nm_nz, nm_nzk, nm_eq32, nm_nzf, if_true, if_false, ↓reduceIte, if_pos, if_neg]
      by_cases c : L + N ≤ 512
      · rw [decide_eq_false (fun y => y c), bI_f] at w3 w4
        have c1 : df_X5_write_140 n (nI p) (nI A) (nI N) (nI o) (nI 2) (nI 0) K = df_X5_write_185 n n (nI p) (nI A) (nI N) (nI o) (nI 2) (nI 0) (nI 0) K := by
          simp (disch := (first | assumption | decide | omega)) only [df_X5_write_140, df_X5_write_182, w3, eq_self, Nat.reduceEqDiff, Nat.reduceLeDiff, nl_0, nl_3, nl_1099511627776, no_1, no_1024, pk_mul, nI_add, nm_ck, nI_clamp, nI_ltI, nI_leI, nI_eq, nb_b2, nb_b1, ↓nb_let, nm_z0, nm_z1, nb_II, nb_IR, nb_RI, nb_RR, nm_IL, nm_IQ, nm_RL, nm_RQ, nm_LI, nm_LR, nm_LL, nm_LQ, nm_QI, nm_QR, nm_QL, nm_QQ, nm_rr, nm_ii, nm_eqm, not_false_eq_true, pk_sub, nm_div, nm_shl, nm_shr, nm_ush, nm_or8, nm_or64, nm_or256, nm_m1, nm_m3, nm_m7, nm_m15, nm_m31, nm_m63, nm_m255, nm_m511, nm_m1023, nm_m2047, nm_m65535, Nat.reduceMod, Nat.reducePow, Nat.reduceAdd, Nat.reduceSub, Nat.reduceMul, nm_bo, nm_bi, nm_rc, nm_ic, nm_ri, nm_rl, nm_rq, nm_ql, nm_qi, nm_li, nm_us, nm_uu, nm_cp, nm_sa31, nm_sa7, nm_m127, nm_m2, nm_nz, nm_nzk, nm_eq32, nm_nzf, if_true, if_false, ↓reduceIte, if_pos, if_neg]
        have c6 : df_X16_write7_95 n (nI A) (nI N) (nI o) (nI t) X = df_X16_write7_137 n n (nI A) (nI N) (nI o) (nI t) (nI 0) X := by
          simp (disch := (first | assumption | decide | omega)) only [df_X16_write7_95, y4, w4, eq_self, Nat.reduceEqDiff, Nat.reduceLeDiff, nl_0, nl_1, nl_3, nl_19, nl_48, no_1, no_1024, pk_mul, nI_add, nm_ck, nI_clamp, nI_ltI, nI_leI, nI_eq, nb_b2, nb_b1, ↓nb_let, nm_z0, nm_z1, nb_II, nb_IR, nb_RI, nb_RR, nm_IL, nm_IQ, nm_RL, nm_RQ, nm_LI, nm_LR, nm_LL, nm_LQ, nm_QI, nm_QR, nm_QL, nm_QQ, nm_rr, nm_ii, nm_eqm, not_false_eq_true, pk_sub, nm_div, nm_shl, nm_shr, nm_ush, nm_or8, nm_or64, nm_or256, nm_m1, nm_m3, nm_m7, nm_m15, nm_m31, nm_m63, nm_m255, nm_m511, nm_m1023, nm_m2047, nm_m65535, Nat.reduceMod, Nat.reducePow, Nat.reduceAdd, Nat.reduceSub, Nat.reduceMul, nm_bo, nm_bi, nm_rc, nm_ic, nm_ri, nm_rl, nm_rq, nm_ql, nm_qi, nm_li, nm_us, nm_uu, nm_cp, nm_sa31, nm_sa7, nm_m127, nm_m2, nm_nz, nm_nzk, nm_eq32, nm_nzf, if_true, if_false, ↓reduceIte, if_pos, if_neg]
        rcases hA2 with e | hA3
        · subst e
          refine ans ((nI 0).toInt64) (nI 0) rfl ?_ ?_
          · rw [c0, c1]; exact z185 _ _
          · rw [c5, c6]; exact z137
        · obtain ⟨D', X', q1, q2, q3, q4, q5⟩ := wr_p n (by omega) (K1 := K.1) (K2 := K.2.1) h1 h2 h3 hA3 n512 hm ho t8 y4 y7 l2 c
          have q1 : df_X5_write_185 n n (nI p) (nI A) (nI N) (nI o) (nI 2) (nI 0) (nI 0) K = _ := q1
          rw [c0, c1, q1, c5, c6, q2]
          exact post B N D' X' (by omega) q3 q4 q5
      · rw [decide_eq_true c, bI_t] at w3 w4
        have c1 : df_X5_write_140 n (nI p) (nI A) (nI N) (nI o) (nI 2) (nI 0) K = some (1099511627776, K) := by
          simp (disch := (first | assumption | decide | omega)) only [df_X5_write_140, w3, eq_self, Nat.reduceEqDiff, Nat.reduceLeDiff, nl_0, nl_3, nl_1099511627776, no_1, no_1024, pk_mul, nI_add, nm_ck, nI_clamp, nI_ltI, nI_leI, nI_eq, nb_b2, nb_b1, ↓nb_let, nm_z0, nm_z1, nb_II, nb_IR, nb_RI, nb_RR, nm_IL, nm_IQ, nm_RL, nm_RQ, nm_LI, nm_LR, nm_LL, nm_LQ, nm_QI, nm_QR, nm_QL, nm_QQ, nm_rr, nm_ii, nm_eqm, not_false_eq_true, pk_sub, nm_div, nm_shl, nm_shr, nm_ush, nm_or8, nm_or64, nm_or256, nm_m1, nm_m3, nm_m7, nm_m15, nm_m31, nm_m63, nm_m255, nm_m511, nm_m1023, nm_m2047, nm_m65535, Nat.reduceMod, Nat.reducePow, Nat.reduceAdd, Nat.reduceSub, Nat.reduceMul, nm_bo, nm_bi, nm_rc, nm_ic, nm_ri, nm_rl, nm_rq, nm_ql, nm_qi, nm_li, nm_us, nm_uu, nm_cp, nm_sa31, nm_sa7, nm_m127, nm_m2, nm_nz, nm_nzk, nm_eq32, nm_nzf, if_true, if_false, ↓reduceIte, if_pos, if_neg]
        have c6 : df_X16_write7_95 n (nI A) (nI N) (nI o) (nI t) X = some (nI 0, (pI X.1 13 (nI 1), X.2)) := by
          simp (disch := (first | assumption | decide | omega)) only [df_X16_write7_95, df_X16_tell_0, df_X16_tell, y4, w4, eq_self, Nat.reduceEqDiff, Nat.reduceLeDiff, nl_0, nl_1, nl_3, nl_13, nl_19, nl_48, no_1, no_1024, pk_mul, nI_add, nm_ck, nI_clamp, nI_ltI, nI_leI, nI_eq, nb_b2, nb_b1, ↓nb_let, nm_z0, nm_z1, nb_II, nb_IR, nb_RI, nb_RR, nm_IL, nm_IQ, nm_RL, nm_RQ, nm_LI, nm_LR, nm_LL, nm_LQ, nm_QI, nm_QR, nm_QL, nm_QQ, nm_rr, nm_ii, nm_eqm, not_false_eq_true, pk_sub, nm_div, nm_shl, nm_shr, nm_ush, nm_or8, nm_or64, nm_or256, nm_m1, nm_m3, nm_m7, nm_m15, nm_m31, nm_m63, nm_m255, nm_m511, nm_m1023, nm_m2047, nm_m65535, Nat.reduceMod, Nat.reducePow, Nat.reduceAdd, Nat.reduceSub, Nat.reduceMul, nm_bo, nm_bi, nm_rc, nm_ic, nm_ri, nm_rl, nm_rq, nm_ql, nm_qi, nm_li, nm_us, nm_uu, nm_cp, nm_sa31, nm_sa7, nm_m127, nm_m2, nm_nz, nm_nzk, nm_eq32, nm_nzf, if_true, if_false, ↓reduceIte, if_pos, if_neg]
        rw [c0, c1, c5, c6]
        exact cO_up (cO_w h (Or.inr (Or.inl ⟨Or.inr h17, d, o, N, hd, ho, n512, e10.trans ed, de, e12.trans z⟩))) (by omega)

/-- a call's answer comes into the register -/
theorem rM_ans {B : Nat} {M X : St × St} (h : rM B M X) {p : Nat} (hp : p < 16) (h1 : sR X.1 1 p = nI 1) (v : Int32) : rM B (pR M.1 3 (upd (upd (sR M.1 3) (p * 33 + 10) v) (p * 33 + 32) (sR M.1 3 (p * 33 + 32) + nI 4)), M.2) (pR (pR X.1 9 (upd (sR X.1 9) (32 * p + 10) v)) 10 (upd (sR X.1 10) p (sR X.1 10 p + nI 4)), X.2) := by
  obtain ⟨m1, m2, m3, m4, m5, m6, m7⟩ := h
  refine ⟨m1, m2, rP_all m3 (p := p) ?_ (fun r hr => ⟨⟨fun _ _ => rfl, fun i hi => ?_, fun _ _ => rfl, fun _ _ => rfl, rfl⟩, ⟨⟨rfl, rfl, rfl, rfl, rfl, rfl, rfl, rfl⟩, fun i hi => nm_un (by omega), nm_un hr, fun _ _ => rfl, rfl, fun _ _ => rfl, fun _ _ => rfl, fun _ _ => Iff.rfl, rfl⟩⟩), m4, m5, m6, m7⟩
  · obtain ⟨t, c', w, b', e, ht, hc', hw, hb, he, a1, a2, a3, a4, a5, a6, a7, a8, a9, a10, a11, a12, a13, a14, a15, a16, a17, a18, a19, a20, a21⟩ := m3 p hp
    have t1 : t = 1 := nm_inI (by omega) (by omega) (a2.symm.trans h1)
    obtain ⟨g1, g2⟩ := a17 (by omega)
    refine ⟨t, c', w, b', e, ht, hc', hw, hb, he, a1, a2, a3, a4, a5, a6, a7, a8, a9, a10, a11, a12, a13, a14, a15, a16, fun _ => ⟨fun r hr => ?_, ?_⟩, a18, a19, fun z => by omega, a21⟩
    · show upd (upd (sR M.1 3) (p * 33 + 10) v) (p * 33 + 32) _ (p * 33 + r) = upd (sR X.1 9) (32 * p + 10) v (32 * p + r)
      rw [nm_un (by omega)]
      by_cases c : r = 10
      · rw [c, nm_us, nm_us]
      · rw [nm_un (by omega), nm_un (by omega)]
        exact g1 r hr
    · show upd (upd (sR M.1 3) (p * 33 + 10) v) (p * 33 + 32) _ (p * 33 + 32) = upd (sR X.1 10) p _ p
      rw [nm_us, nm_us, g2]
  · show upd (upd (sR M.1 3) (p * 33 + 10) v) (p * 33 + 32) _ (r * 33 + i) = _
    rw [nm_un (by omega), nm_un (by omega)]
/-- it WAITS -/
theorem rM_wait {B : Nat} {M X : St × St} (h : rM B M X) {p : Nat} (hp : p < 16) (h1 : sR X.1 1 p = nI 1) (hw : wtD X p) : rM B (pI (pR M.1 6 (upd (sR M.1 6) (p * 7) (nI 2))) 2 (nI (cW (sR X.1 1) + 1)), M.2) (pR (pR X.1 1 (upd (sR X.1 1) p (nI 2))) 7 (upd (sR X.1 7) p (sR X.1 9 (32 * p + 17))), X.2) := by
  obtain ⟨m1, m2, m3, m4, m5, m6, m7⟩ := h
  refine ⟨m1, m2, rP_all m3 (p := p) ?_ (fun r hr => ⟨⟨fun i hi => nm_un (by omega), fun _ _ => rfl, fun _ _ => rfl, fun _ _ => rfl, rfl⟩, ⟨⟨nm_un hr, rfl, rfl, rfl, rfl, rfl, nm_un hr, rfl⟩, fun _ _ => rfl, rfl, fun _ _ => rfl, rfl, fun _ _ => rfl, fun _ _ => rfl, fun _ _ => Iff.rfl, rfl⟩⟩), ?_, m5, m6, m7⟩
  · obtain ⟨t, c', w, b', e, ht, hc', hw', hb, he, a1, a2, a3, a4, a5, a6, a7, a8, a9, a10, a11, a12, a13, a14, a15, a16, a17, a18, a19, a20, a21⟩ := m3 p hp
    have t1 : t = 1 := nm_inI (by omega) (by omega) (a2.symm.trans h1)
    exact ⟨2, c', w, b', e, by omega, hc', hw', hb, he, nm_us, nm_us, (nm_un (by omega)).trans a3, a4, a5, fun z => by omega, fun _ => (nm_un (by omega)).trans (a7 (by omega)), (nm_un (by omega)).trans a8, a9, (nm_un (by omega)).trans a10, a11, (nm_un (by omega)).trans a12, a13, (nm_un (by omega)).trans a14, a15, a16, fun _ => a17 (by omega), fun _ => a18 (Or.inl t1), fun z => by omega, fun _ => ⟨nm_us, hw⟩, fun z => absurd rfl z⟩
  · have := cW_ch (st := sR X.1 1) hp (nI 2)
    rw [h1, nm_df (show ¬ nI 1 = nI 2 by decide), nm_dt rfl] at this
    exact congrArg nI this.symm
theorem lc_eq (a b : Int64) : lg_cmp a b = nI 0 ↔ a = b := by
  unfold lg_cmp
  by_cases c : b < a
  · rw [if_pos c]
    refine ⟨fun z => absurd z (by decide), fun z => ?_⟩
    rw [z, Int64.lt_iff_toInt_lt] at c
    omega
  · rw [if_neg c]
    by_cases d : a = b
    · rw [if_pos d]
      exact ⟨fun _ => d, fun _ => rfl⟩
    · rw [if_neg d]
      exact ⟨fun z => absurd z (by decide), fun z => absurd z d⟩
theorem sm_64 (v : Int32) : ¬ v.toInt64 = 4398046511104 ∧ ¬ v.toInt64 = 1099511627776 ∧ ¬ v.toInt64 = 2199023255552 := by
  have l := Int32.toInt_lt v
  have e : v.toInt64.toInt = v.toInt := Int32.toInt_toInt64 v
  refine ⟨fun z => ?_, fun z => ?_, fun z => ?_⟩
  · rw [z, show (4398046511104 : Int64).toInt = 4398046511104 by decide] at e
    omega
  · rw [z, show (1099511627776 : Int64).toInt = 1099511627776 by decide] at e
    omega
  · rw [z, show (2199023255552 : Int64).toInt = 2199023255552 by decide] at e
    omega
/-- the class's 'answer' -/
theorem an_C (n : Nat) {K : St × (St × (St × St))} {p : Nat} (hp : p < 16) : (∀ v : Int32, df_X5_answer n (nI p) v.toInt64 K = some (nI 0, (K.1, (K.2.1, (pR K.2.2.1 3 (upd (upd (sR K.2.2.1 3) (p * 33 + 10) v) (p * 33 + 32) (sR K.2.2.1 3 (p * 33 + 32) + nI 4)), K.2.2.2))))) ∧ df_X5_answer n (nI p) 4398046511104 K = some (nI 7, K) ∧ df_X5_answer n (nI p) 2199023255552 K = some (nI 0, K) ∧ ∀ x : Nat, sI K.2.2.1 2 = nI x → df_X5_answer n (nI p) 1099511627776 K = some (nI 0, (K.1, (K.2.1, (pI (pR K.2.2.1 6 (upd (sR K.2.2.1 6) (p * 7) (nI 2))) 2 (nI (x + 1)), K.2.2.2)))) := by
  have u1 : p * 33 + 10 < 528 := by omega
  have u2 : p * 33 + 32 < 528 := by omega
  have u3 : p * 7 < 112 := by omega
  have u4 : p * 7 < 2 ^ 31 := by omega
  refine ⟨fun v => ?_, ?_, ?_, fun x hx => ?_⟩
  · obtain ⟨s1, s2, s3⟩ := sm_64 v
    have c1 : ¬ lg_cmp v.toInt64 4398046511104 = nI 0 := fun z => s1 ((lc_eq _ _).mp z)
    have c2 : ¬ lg_cmp v.toInt64 1099511627776 = nI 0 := fun z => s2 ((lc_eq _ _).mp z)
    have c3 : ¬ lg_cmp v.toInt64 2199023255552 = nI 0 := fun z => s3 ((lc_eq _ _).mp z)
    have r1 : upd (sR K.2.2.1 3) (p * 33 + 10) v (p * 33 + 32) = sR K.2.2.1 3 (p * 33 + 32) := nm_un (by omega)
    have r2 : v.toInt64.toInt32 = v := Int32.toInt32_toInt64 v
    simp (disch := (first | assumption | decide | omega)) only [df_X5_answer_85, df_X5_answer_0, df_X5_answer, c1, c2, c3, r1, r2, eq_self, Nat.reduceEqDiff, Nat.reduceLeDiff, nl_0, nl_1, nl_2, nl_3, nl_4, nl_6, nl_7, nl_10, nl_32, nl_33, nl_112, nl_528, nl_1099511627776, nl_2199023255552, no_1, no_1024, pk_mul, nI_add, nm_ck, nI_clamp, nI_ltI, nI_leI, nI_eq, nb_b2, nb_b1, ↓nb_let, nm_z0, nm_z1, nb_II, nb_IR, nb_RI, nb_RR, nm_IL, nm_IQ, nm_RL, nm_RQ, nm_LI, nm_LR, nm_LL, nm_LQ, nm_QI, nm_QR, nm_QL, nm_QQ, nm_rr, nm_ii, nm_eqm, not_false_eq_true, pk_sub, nm_div, nm_shl, nm_shr, nm_ush, nm_or8, nm_or64, nm_or256, nm_m1, nm_m3, nm_m7, nm_m15, nm_m31, nm_m63, nm_m255, nm_m511, nm_m1023, nm_m2047, nm_m65535, Nat.reduceMod, Nat.reducePow, Nat.reduceAdd, Nat.reduceSub, Nat.reduceMul, nm_bo, nm_bi, nm_rc, nm_ic, nm_ri, nm_rl, nm_rq, nm_ql, nm_qi, nm_li, nm_us, nm_uu, nm_cp, nm_sa31, nm_sa7, nm_m127, nm_m2, nm_nz, nm_nzk, nm_eq32, nm_nzf, if_true, if_false, ↓reduceIte, if_pos, if_neg]
  · have c1 := (lc_eq 4398046511104 4398046511104).mpr rfl
    simp (disch := (first | assumption | decide | omega)) only [df_X5_answer_85, df_X5_answer_0, df_X5_answer, c1, eq_self, Nat.reduceEqDiff, Nat.reduceLeDiff, nl_0, nl_1, nl_2, nl_3, nl_4, nl_6, nl_7, nl_10, nl_32, nl_33, nl_112, nl_528, nl_1099511627776, nl_2199023255552, no_1, no_1024, pk_mul, nI_add, nm_ck, nI_clamp, nI_ltI, nI_leI, nI_eq, nb_b2, nb_b1, ↓nb_let, nm_z0, nm_z1, nb_II, nb_IR, nb_RI, nb_RR, nm_IL, nm_IQ, nm_RL, nm_RQ, nm_LI, nm_LR, nm_LL, nm_LQ, nm_QI, nm_QR, nm_QL, nm_QQ, nm_rr, nm_ii, nm_eqm, not_false_eq_true, pk_sub, nm_div, nm_shl, nm_shr, nm_ush, nm_or8, nm_or64, nm_or256, nm_m1, nm_m3, nm_m7, nm_m15, nm_m31, nm_m63, nm_m255, nm_m511, nm_m1023, nm_m2047, nm_m65535, Nat.reduceMod, Nat.reducePow, Nat.reduceAdd, Nat.reduceSub, Nat.reduceMul, nm_bo, nm_bi, nm_rc, nm_ic, nm_ri, nm_rl, nm_rq, nm_ql, nm_qi, nm_li, nm_us, nm_uu, nm_cp, nm_sa31, nm_sa7, nm_m127, nm_m2, nm_nz, nm_nzk, nm_eq32, nm_nzf, if_true, if_false, ↓reduceIte, if_pos, if_neg]
  · have c1 : ¬ lg_cmp 2199023255552 4398046511104 = nI 0 := fun z => absurd ((lc_eq _ _).mp z) (by decide)
    have c2 : ¬ lg_cmp 2199023255552 1099511627776 = nI 0 := fun z => absurd ((lc_eq _ _).mp z) (by decide)
    have c3 := (lc_eq 2199023255552 2199023255552).mpr rfl
    simp (disch := (first | assumption | decide | omega)) only [df_X5_answer_85, df_X5_answer_0, df_X5_answer, c1, c2, c3, eq_self, Nat.reduceEqDiff, Nat.reduceLeDiff, nl_0, nl_1, nl_2, nl_3, nl_4, nl_6, nl_7, nl_10, nl_32, nl_33, nl_112, nl_528, nl_1099511627776, nl_2199023255552, no_1, no_1024, pk_mul, nI_add, nm_ck, nI_clamp, nI_ltI, nI_leI, nI_eq, nb_b2, nb_b1, ↓nb_let, nm_z0, nm_z1, nb_II, nb_IR, nb_RI, nb_RR, nm_IL, nm_IQ, nm_RL, nm_RQ, nm_LI, nm_LR, nm_LL, nm_LQ, nm_QI, nm_QR, nm_QL, nm_QQ, nm_rr, nm_ii, nm_eqm, not_false_eq_true, pk_sub, nm_div, nm_shl, nm_shr, nm_ush, nm_or8, nm_or64, nm_or256, nm_m1, nm_m3, nm_m7, nm_m15, nm_m31, nm_m63, nm_m255, nm_m511, nm_m1023, nm_m2047, nm_m65535, Nat.reduceMod, Nat.reducePow, Nat.reduceAdd, Nat.reduceSub, Nat.reduceMul, nm_bo, nm_bi, nm_rc, nm_ic, nm_ri, nm_rl, nm_rq, nm_ql, nm_qi, nm_li, nm_us, nm_uu, nm_cp, nm_sa31, nm_sa7, nm_m127, nm_m2, nm_nz, nm_nzk, nm_eq32, nm_nzf, if_true, if_false, ↓reduceIte, if_pos, if_neg]
  · have c1 : ¬ lg_cmp 1099511627776 4398046511104 = nI 0 := fun z => absurd ((lc_eq _ _).mp z) (by decide)
    have c2 := (lc_eq 1099511627776 1099511627776).mpr rfl
    simp (disch := (first | assumption | decide | omega)) only [df_X5_answer_85, df_X5_answer_0, df_X5_answer, c1, c2, Nat.add_zero, hx, eq_self, Nat.reduceEqDiff, Nat.reduceLeDiff, nl_0, nl_1, nl_2, nl_3, nl_4, nl_6, nl_7, nl_10, nl_32, nl_33, nl_112, nl_528, nl_1099511627776, nl_2199023255552, no_1, no_1024, pk_mul, nI_add, nm_ck, nI_clamp, nI_ltI, nI_leI, nI_eq, nb_b2, nb_b1, ↓nb_let, nm_z0, nm_z1, nb_II, nb_IR, nb_RI, nb_RR, nm_IL, nm_IQ, nm_RL, nm_RQ, nm_LI, nm_LR, nm_LL, nm_LQ, nm_QI, nm_QR, nm_QL, nm_QQ, nm_rr, nm_ii, nm_eqm, not_false_eq_true, pk_sub, nm_div, nm_shl, nm_shr, nm_ush, nm_or8, nm_or64, nm_or256, nm_m1, nm_m3, nm_m7, nm_m15, nm_m31, nm_m63, nm_m255, nm_m511, nm_m1023, nm_m2047, nm_m65535, Nat.reduceMod, Nat.reducePow, Nat.reduceAdd, Nat.reduceSub, Nat.reduceMul, nm_bo, nm_bi, nm_rc, nm_ic, nm_ri, nm_rl, nm_rq, nm_ql, nm_qi, nm_li, nm_us, nm_uu, nm_cp, nm_sa31, nm_sa7, nm_m127, nm_m2, nm_nz, nm_nzk, nm_eq32, nm_nzf, if_true, if_false, ↓reduceIte, if_pos, if_neg]

