/-- a child, with any: whether it has ENDED or not -/
def chP (X : St × St) (p : Nat) (any : Bool) (q : Nat) : Bool := decide (¬ sR X.1 1 q = nI 0) && (decide (sR X.1 2 q = nI p) && (any || decide (sR X.1 1 q = nI 3)))
def cv (r : Nat) : Int32 := if r < 16 then nI r else -nI 1
theorem ch_cases (X : St × St) {p q t : Nat} (any : Bool) (ht : t < 4) (e : sR X.1 1 q = nI t) : (chP X p any q = false → t = 0 ∨ ¬ sR X.1 2 q = nI p ∨ (any = false ∧ t ≠ 3 ∧ sR X.1 2 q = nI p ∧ t ≠ 0)) ∧ (chP X p any q = true → t ≠ 0 ∧ sR X.1 2 q = nI p ∧ (any = true ∨ t = 3)) := by
  have e3 : (nI t = nI 3) ↔ t = 3 := nI_eq (by omega) (by omega)
  have e0 : (nI t = nI 0) ↔ t = 0 := nI_eq (by omega) (by omega)
  unfold chP
  rw [e]
  by_cases c0 : t = 0
  · refine ⟨fun _ => Or.inl c0, fun z => ?_⟩
    rw [decide_eq_false (show ¬ ¬ nI t = nI 0 from fun y => y (e0.mpr c0)), Bool.false_and] at z
    exact nomatch z
  · rw [decide_eq_true (show ¬ nI t = nI 0 from fun y => c0 (e0.mp y)), Bool.true_and]
    by_cases cp : sR X.1 2 q = nI p
    · rw [decide_eq_true cp, Bool.true_and]
      cases any with
      | true => exact ⟨fun z => (nomatch z), fun _ => ⟨c0, cp, Or.inl rfl⟩⟩
      | false =>
        rw [Bool.false_or]
        by_cases c3 : t = 3
        · rw [decide_eq_true (e3.mpr c3)]
          exact ⟨fun z => (nomatch z), fun _ => ⟨c0, cp, Or.inr c3⟩⟩
        · rw [decide_eq_false (fun y => c3 (e3.mp y))]
          exact ⟨fun _ => Or.inr (Or.inr ⟨rfl, c3, cp, c0⟩), fun z => (nomatch z)⟩
    · rw [decide_eq_false cp, Bool.false_and]
      exact ⟨fun _ => Or.inr (Or.inl cp), fun z => (nomatch z)⟩
theorem nk_child (n : Nat) (hn : 1024 < n) {M X : St × St} (hst : ∀ q : Nat, q < 16 → ∃ t : Nat, t < 4 ∧ sR M.1 6 (q * 7) = nI t ∧ sR X.1 1 q = nI t) (hpa : ∀ q : Nat, q < 16 → sR M.1 6 (q * 7 + 1) = sR X.1 2 q) (p : Nat) (any : Bool) : df_X6_leastChild n (nI p) (bI any) M = some (cv (fN (chP X p any) 0 16), M) ∧ df_X16_child n (nI p) (bI (!any)) X = some (cv (fN (chP X p any) 0 16), X) := by
  obtain ⟨x1, x2, x3, x4⟩ := fN_le (chP X p any) 16 0
  constructor
  · obtain ⟨m, hm⟩ := nm_ls (fun m k => df_X6_leastChild_2 n m (nI p) (bI any) (nI k) M) (chP X p any) 0 16 n (by omega) (fun k m h0 hk c => by
      obtain ⟨t, ht, t1, t2⟩ := hst k (by omega)
      have pa := hpa k (by omega)
      have u1 : k * 7 < 112 := by omega
      have u2 : k * 7 + 1 < 112 := by omega
      have u3 : k < 2 ^ 31 := by omega
      have u4 : t < 2 ^ 31 := by omega
      have k16 : ¬ 16 ≤ k := by omega
      rw [show df_X6_leastChild_2 n (m + 1) = dF_X6_leastChild_2 n (df_X6_leastChild_2 n m) from rfl]
      rcases (ch_cases X any ht t2).1 c with d | d | ⟨d, d3, dp, d0⟩
      · simp (disch := (first | assumption | decide | omega)) only [dF_X6_leastChild_2, df_X6_leastChild_53, k16, Nat.add_zero, t1, d, eq_self, Nat.reduceEqDiff, Nat.reduceLeDiff, nl_0, nl_1, nl_3, nl_6, nl_7, nl_16, nl_112, no_1, no_1024, pk_mul, nI_add, nm_ck, nI_clamp, nI_ltI, nI_leI, nI_eq, nb_b2, nb_b1, ↓nb_let, nm_z0, nm_z1, nb_II, nb_IR, nb_RI, nb_RR, nm_IL, nm_IQ, nm_RL, nm_RQ, nm_LI, nm_LR, nm_LL, nm_LQ, nm_QI, nm_QR, nm_QL, nm_QQ, nm_rr, nm_ii, nm_eqm, not_false_eq_true, pk_sub, nm_div, nm_shl, nm_shr, nm_ush, nm_or8, nm_or64, nm_or256, nm_m1, nm_m3, nm_m7, nm_m15, nm_m31, nm_m63, nm_m255, nm_m511, nm_m1023, nm_m2047, nm_m65535, Nat.reduceMod, Nat.reducePow, Nat.reduceAdd, Nat.reduceSub, Nat.reduceMul, nm_bo, nm_bi, nm_rc, nm_ic, nm_ri, nm_rl, nm_rq, nm_ql, nm_qi, nm_li, nm_us, nm_uu, nm_cp, nm_sa31, nm_sa7, nm_m127, nm_m2, nm_nz, nm_nzk, nm_eq32, nm_nzf, if_true, if_false, ↓reduceIte, if_pos, if_neg]
      · by_cases t0 : t = 0
        · simp (disch := (first | assumption | decide | omega)) only [dF_X6_leastChild_2, df_X6_leastChild_53, k16, Nat.add_zero, t1, t0, eq_self, Nat.reduceEqDiff, Nat.reduceLeDiff, nl_0, nl_1, nl_3, nl_6, nl_7, nl_16, nl_112, no_1, no_1024, pk_mul, nI_add, nm_ck, nI_clamp, nI_ltI, nI_leI, nI_eq, nb_b2, nb_b1, ↓nb_let, nm_z0, nm_z1, nb_II, nb_IR, nb_RI, nb_RR, nm_IL, nm_IQ, nm_RL, nm_RQ, nm_LI, nm_LR, nm_LL, nm_LQ, nm_QI, nm_QR, nm_QL, nm_QQ, nm_rr, nm_ii, nm_eqm, not_false_eq_true, pk_sub, nm_div, nm_shl, nm_shr, nm_ush, nm_or8, nm_or64, nm_or256, nm_m1, nm_m3, nm_m7, nm_m15, nm_m31, nm_m63, nm_m255, nm_m511, nm_m1023, nm_m2047, nm_m65535, Nat.reduceMod, Nat.reducePow, Nat.reduceAdd, Nat.reduceSub, Nat.reduceMul, nm_bo, nm_bi, nm_rc, nm_ic, nm_ri, nm_rl, nm_rq, nm_ql, nm_qi, nm_li, nm_us, nm_uu, nm_cp, nm_sa31, nm_sa7, nm_m127, nm_m2, nm_nz, nm_nzk, nm_eq32, nm_nzf, if_true, if_false, ↓reduceIte, if_pos, if_neg]
        · simp (disch := (first | assumption | decide | omega)) only [dF_X6_leastChild_2, df_X6_leastChild_53, k16, Nat.add_zero, t1, t0, pa, d, eq_self, Nat.reduceEqDiff, Nat.reduceLeDiff, nl_0, nl_1, nl_3, nl_6, nl_7, nl_16, nl_112, no_1, no_1024, pk_mul, nI_add, nm_ck, nI_clamp, nI_ltI, nI_leI, nI_eq, nb_b2, nb_b1, ↓nb_let, nm_z0, nm_z1, nb_II, nb_IR, nb_RI, nb_RR, nm_IL, nm_IQ, nm_RL, nm_RQ, nm_LI, nm_LR, nm_LL, nm_LQ, nm_QI, nm_QR, nm_QL, nm_QQ, nm_rr, nm_ii, nm_eqm, not_false_eq_true, pk_sub, nm_div, nm_shl, nm_shr, nm_ush, nm_or8, nm_or64, nm_or256, nm_m1, nm_m3, nm_m7, nm_m15, nm_m31, nm_m63, nm_m255, nm_m511, nm_m1023, nm_m2047, nm_m65535, Nat.reduceMod, Nat.reducePow, Nat.reduceAdd, Nat.reduceSub, Nat.reduceMul, nm_bo, nm_bi, nm_rc, nm_ic, nm_ri, nm_rl, nm_rq, nm_ql, nm_qi, nm_li, nm_us, nm_uu, nm_cp, nm_sa31, nm_sa7, nm_m127, nm_m2, nm_nz, nm_nzk, nm_eq32, nm_nzf, if_true, if_false, ↓reduceIte, if_pos, if_neg]
      · simp (disch := (first | assumption | decide | omega)) only [dF_X6_leastChild_2, df_X6_leastChild_53, k16, Nat.add_zero, t1, d0, pa, dp, d, bI_f, d3, eq_self, Nat.reduceEqDiff, Nat.reduceLeDiff, nl_0, nl_1, nl_3, nl_6, nl_7, nl_16, nl_112, no_1, no_1024, pk_mul, nI_add, nm_ck, nI_clamp, nI_ltI, nI_leI, nI_eq, nb_b2, nb_b1, ↓nb_let, nm_z0, nm_z1, nb_II, nb_IR, nb_RI, nb_RR, nm_IL, nm_IQ, nm_RL, nm_RQ, nm_LI, nm_LR, nm_LL, nm_LQ, nm_QI, nm_QR, nm_QL, nm_QQ, nm_rr, nm_ii, nm_eqm, not_false_eq_true, pk_sub, nm_div, nm_shl, nm_shr, nm_ush, nm_or8, nm_or64, nm_or256, nm_m1, nm_m3, nm_m7, nm_m15, nm_m31, nm_m63, nm_m255, nm_m511, nm_m1023, nm_m2047, nm_m65535, Nat.reduceMod, Nat.reducePow, Nat.reduceAdd, Nat.reduceSub, Nat.reduceMul, nm_bo, nm_bi, nm_rc, nm_ic, nm_ri, nm_rl, nm_rq, nm_ql, nm_qi, nm_li, nm_us, nm_uu, nm_cp, nm_sa31, nm_sa7, nm_m127, nm_m2, nm_nz, nm_nzk, nm_eq32, nm_nzf, if_true, if_false, ↓reduceIte, if_pos, if_neg])
    have hm : df_X6_leastChild n (nI p) (bI any) M = df_X6_leastChild_2 n (m + 1) (nI p) (bI any) (nI (fN (chP X p any) 0 16)) M := hm
    rw [hm, show df_X6_leastChild_2 n (m + 1) = dF_X6_leastChild_2 n (df_X6_leastChild_2 n m) from rfl]
    generalize fN (chP X p any) 0 16 = k at *
    unfold cv
    by_cases k16 : k < 16
    · rw [if_pos k16]
      obtain ⟨t, ht, t1, t2⟩ := hst k k16
      have pa := hpa k k16
      obtain ⟨d0, dp, d⟩ := (ch_cases X any ht t2).2 (x3 (by omega))
      have u1 : k * 7 < 112 := by omega
      have u2 : k * 7 + 1 < 112 := by omega
      have u3 : k < 2 ^ 31 := by omega
      have u4 : t < 2 ^ 31 := by omega
      have k16' : ¬ 16 ≤ k := by omega
      cases any with
      | true => simp (disch := (first | assumption | decide | omega)) only [dF_X6_leastChild_2, df_X6_leastChild_51, k16', Nat.add_zero, t1, d0, pa, dp, bI_t, eq_self, Nat.reduceEqDiff, Nat.reduceLeDiff, nl_0, nl_1, nl_3, nl_6, nl_7, nl_16, nl_112, no_1, no_1024, pk_mul, nI_add, nm_ck, nI_clamp, nI_ltI, nI_leI, nI_eq, nb_b2, nb_b1, ↓nb_let, nm_z0, nm_z1, nb_II, nb_IR, nb_RI, nb_RR, nm_IL, nm_IQ, nm_RL, nm_RQ, nm_LI, nm_LR, nm_LL, nm_LQ, nm_QI, nm_QR, nm_QL, nm_QQ, nm_rr, nm_ii, nm_eqm, not_false_eq_true, pk_sub, nm_div, nm_shl, nm_shr, nm_ush, nm_or8, nm_or64, nm_or256, nm_m1, nm_m3, nm_m7, nm_m15, nm_m31, nm_m63, nm_m255, nm_m511, nm_m1023, nm_m2047, nm_m65535, Nat.reduceMod, Nat.reducePow, Nat.reduceAdd, Nat.reduceSub, Nat.reduceMul, nm_bo, nm_bi, nm_rc, nm_ic, nm_ri, nm_rl, nm_rq, nm_ql, nm_qi, nm_li, nm_us, nm_uu, nm_cp, nm_sa31, nm_sa7, nm_m127, nm_m2, nm_nz, nm_nzk, nm_eq32, nm_nzf, if_true, if_false, ↓reduceIte, if_pos, if_neg]
      | false =>
        have d3 : t = 3 := by
          rcases d with d | d
          · exact nomatch d
          · exact d
        subst d3
        simp (disch := (first | assumption | decide | omega)) only [dF_X6_leastChild_2, df_X6_leastChild_51, k16', Nat.add_zero, t1, pa, dp, bI_f, eq_self, Nat.reduceEqDiff, Nat.reduceLeDiff, nl_0, nl_1, nl_3, nl_6, nl_7, nl_16, nl_112, no_1, no_1024, pk_mul, nI_add, nm_ck, nI_clamp, nI_ltI, nI_leI, nI_eq, nb_b2, nb_b1, ↓nb_let, nm_z0, nm_z1, nb_II, nb_IR, nb_RI, nb_RR, nm_IL, nm_IQ, nm_RL, nm_RQ, nm_LI, nm_LR, nm_LL, nm_LQ, nm_QI, nm_QR, nm_QL, nm_QQ, nm_rr, nm_ii, nm_eqm, not_false_eq_true, pk_sub, nm_div, nm_shl, nm_shr, nm_ush, nm_or8, nm_or64, nm_or256, nm_m1, nm_m3, nm_m7, nm_m15, nm_m31, nm_m63, nm_m255, nm_m511, nm_m1023, nm_m2047, nm_m65535, Nat.reduceMod, Nat.reducePow, Nat.reduceAdd, Nat.reduceSub, Nat.reduceMul, nm_bo, nm_bi, nm_rc, nm_ic, nm_ri, nm_rl, nm_rq, nm_ql, nm_qi, nm_li, nm_us, nm_uu, nm_cp, nm_sa31, nm_sa7, nm_m127, nm_m2, nm_nz, nm_nzk, nm_eq32, nm_nzf, if_true, if_false, ↓reduceIte, if_pos, if_neg]
    · rw [if_neg k16]
      have k16' : 16 ≤ k := by omega
      have u3 : k < 2 ^ 31 := by omega
      simp (disch := (first | assumption | decide | omega)) only [dF_X6_leastChild_2, k16', eq_self, Nat.reduceEqDiff, Nat.reduceLeDiff, nl_0, nl_1, nl_3, nl_6, nl_7, nl_16, nl_112, no_1, no_1024, pk_mul, nI_add, nm_ck, nI_clamp, nI_ltI, nI_leI, nI_eq, nb_b2, nb_b1, ↓nb_let, nm_z0, nm_z1, nb_II, nb_IR, nb_RI, nb_RR, nm_IL, nm_IQ, nm_RL, nm_RQ, nm_LI, nm_LR, nm_LL, nm_LQ, nm_QI, nm_QR, nm_QL, nm_QQ, nm_rr, nm_ii, nm_eqm, not_false_eq_true, pk_sub, nm_div, nm_shl, nm_shr, nm_ush, nm_or8, nm_or64, nm_or256, nm_m1, nm_m3, nm_m7, nm_m15, nm_m31, nm_m63, nm_m255, nm_m511, nm_m1023, nm_m2047, nm_m65535, Nat.reduceMod, Nat.reducePow, Nat.reduceAdd, Nat.reduceSub, Nat.reduceMul, nm_bo, nm_bi, nm_rc, nm_ic, nm_ri, nm_rl, nm_rq, nm_ql, nm_qi, nm_li, nm_us, nm_uu, nm_cp, nm_sa31, nm_sa7, nm_m127, nm_m2, nm_nz, nm_nzk, nm_eq32, nm_nzf, if_true, if_false, ↓reduceIte, if_pos, if_neg]
  · obtain ⟨m, hm⟩ := nm_ls (fun m k => df_X16_child_2 n m (nI p) (bI (!any)) (nI k) X) (chP X p any) 0 16 n (by omega) (fun k m h0 hk c => by
      obtain ⟨t, ht, t1, t2⟩ := hst k (by omega)
      have u0 : k < 16 := by omega
      have u3 : k < 2 ^ 31 := by omega
      have u4 : t < 2 ^ 31 := by omega
      have k16 : ¬ 16 ≤ k := by omega
      rw [show df_X16_child_2 n (m + 1) = dF_X16_child_2 n (df_X16_child_2 n m) from rfl]
      rcases (ch_cases X any ht t2).1 c with d | d | ⟨d, d3, dp, d0⟩
      · simp (disch := (first | assumption | decide | omega)) only [dF_X16_child_2, df_X16_child_41, k16, t2, d, eq_self, Nat.reduceEqDiff, Nat.reduceLeDiff, nl_0, nl_1, nl_2, nl_3, nl_16, no_1, no_1024, pk_mul, nI_add, nm_ck, nI_clamp, nI_ltI, nI_leI, nI_eq, nb_b2, nb_b1, ↓nb_let, nm_z0, nm_z1, nb_II, nb_IR, nb_RI, nb_RR, nm_IL, nm_IQ, nm_RL, nm_RQ, nm_LI, nm_LR, nm_LL, nm_LQ, nm_QI, nm_QR, nm_QL, nm_QQ, nm_rr, nm_ii, nm_eqm, not_false_eq_true, pk_sub, nm_div, nm_shl, nm_shr, nm_ush, nm_or8, nm_or64, nm_or256, nm_m1, nm_m3, nm_m7, nm_m15, nm_m31, nm_m63, nm_m255, nm_m511, nm_m1023, nm_m2047, nm_m65535, Nat.reduceMod, Nat.reducePow, Nat.reduceAdd, Nat.reduceSub, Nat.reduceMul, nm_bo, nm_bi, nm_rc, nm_ic, nm_ri, nm_rl, nm_rq, nm_ql, nm_qi, nm_li, nm_us, nm_uu, nm_cp, nm_sa31, nm_sa7, nm_m127, nm_m2, nm_nz, nm_nzk, nm_eq32, nm_nzf, if_true, if_false, ↓reduceIte, if_pos, if_neg]
      · by_cases t0 : t = 0
        · simp (disch := (first | assumption | decide | omega)) only [dF_X16_child_2, df_X16_child_41, k16, t2, t0, eq_self, Nat.reduceEqDiff, Nat.reduceLeDiff, nl_0, nl_1, nl_2, nl_3, nl_16, no_1, no_1024, pk_mul, nI_add, nm_ck, nI_clamp, nI_ltI, nI_leI, nI_eq, nb_b2, nb_b1, ↓nb_let, nm_z0, nm_z1, nb_II, nb_IR, nb_RI, nb_RR, nm_IL, nm_IQ, nm_RL, nm_RQ, nm_LI, nm_LR, nm_LL, nm_LQ, nm_QI, nm_QR, nm_QL, nm_QQ, nm_rr, nm_ii, nm_eqm, not_false_eq_true, pk_sub, nm_div, nm_shl, nm_shr, nm_ush, nm_or8, nm_or64, nm_or256, nm_m1, nm_m3, nm_m7, nm_m15, nm_m31, nm_m63, nm_m255, nm_m511, nm_m1023, nm_m2047, nm_m65535, Nat.reduceMod, Nat.reducePow, Nat.reduceAdd, Nat.reduceSub, Nat.reduceMul, nm_bo, nm_bi, nm_rc, nm_ic, nm_ri, nm_rl, nm_rq, nm_ql, nm_qi, nm_li, nm_us, nm_uu, nm_cp, nm_sa31, nm_sa7, nm_m127, nm_m2, nm_nz, nm_nzk, nm_eq32, nm_nzf, if_true, if_false, ↓reduceIte, if_pos, if_neg]
        · simp (disch := (first | assumption | decide | omega)) only [dF_X16_child_2, df_X16_child_41, k16, t2, t0, d, eq_self, Nat.reduceEqDiff, Nat.reduceLeDiff, nl_0, nl_1, nl_2, nl_3, nl_16, no_1, no_1024, pk_mul, nI_add, nm_ck, nI_clamp, nI_ltI, nI_leI, nI_eq, nb_b2, nb_b1, ↓nb_let, nm_z0, nm_z1, nb_II, nb_IR, nb_RI, nb_RR, nm_IL, nm_IQ, nm_RL, nm_RQ, nm_LI, nm_LR, nm_LL, nm_LQ, nm_QI, nm_QR, nm_QL, nm_QQ, nm_rr, nm_ii, nm_eqm, not_false_eq_true, pk_sub, nm_div, nm_shl, nm_shr, nm_ush, nm_or8, nm_or64, nm_or256, nm_m1, nm_m3, nm_m7, nm_m15, nm_m31, nm_m63, nm_m255, nm_m511, nm_m1023, nm_m2047, nm_m65535, Nat.reduceMod, Nat.reducePow, Nat.reduceAdd, Nat.reduceSub, Nat.reduceMul, nm_bo, nm_bi, nm_rc, nm_ic, nm_ri, nm_rl, nm_rq, nm_ql, nm_qi, nm_li, nm_us, nm_uu, nm_cp, nm_sa31, nm_sa7, nm_m127, nm_m2, nm_nz, nm_nzk, nm_eq32, nm_nzf, if_true, if_false, ↓reduceIte, if_pos, if_neg]
      · simp (disch := (first | assumption | decide | omega)) only [dF_X16_child_2, df_X16_child_41, k16, t2, d0, dp, d, bI_t, d3, Bool.not_false, eq_self, Nat.reduceEqDiff, Nat.reduceLeDiff, nl_0, nl_1, nl_2, nl_3, nl_16, no_1, no_1024, pk_mul, nI_add, nm_ck, nI_clamp, nI_ltI, nI_leI, nI_eq, nb_b2, nb_b1, ↓nb_let, nm_z0, nm_z1, nb_II, nb_IR, nb_RI, nb_RR, nm_IL, nm_IQ, nm_RL, nm_RQ, nm_LI, nm_LR, nm_LL, nm_LQ, nm_QI, nm_QR, nm_QL, nm_QQ, nm_rr, nm_ii, nm_eqm, not_false_eq_true, pk_sub, nm_div, nm_shl, nm_shr, nm_ush, nm_or8, nm_or64, nm_or256, nm_m1, nm_m3, nm_m7, nm_m15, nm_m31, nm_m63, nm_m255, nm_m511, nm_m1023, nm_m2047, nm_m65535, Nat.reduceMod, Nat.reducePow, Nat.reduceAdd, Nat.reduceSub, Nat.reduceMul, nm_bo, nm_bi, nm_rc, nm_ic, nm_ri, nm_rl, nm_rq, nm_ql, nm_qi, nm_li, nm_us, nm_uu, nm_cp, nm_sa31, nm_sa7, nm_m127, nm_m2, nm_nz, nm_nzk, nm_eq32, nm_nzf, if_true, if_false, ↓reduceIte, if_pos, if_neg])
    have hm : df_X16_child n (nI p) (bI (!any)) X = df_X16_child_2 n (m + 1) (nI p) (bI (!any)) (nI (fN (chP X p any) 0 16)) X := hm
    rw [hm, show df_X16_child_2 n (m + 1) = dF_X16_child_2 n (df_X16_child_2 n m) from rfl]
    generalize fN (chP X p any) 0 16 = k at *
    unfold cv
    by_cases k16 : k < 16
    · rw [if_pos k16]
      obtain ⟨t, ht, t1, t2⟩ := hst k k16
      obtain ⟨d0, dp, d⟩ := (ch_cases X any ht t2).2 (x3 (by omega))
      have u3 : k < 2 ^ 31 := by omega
      have u4 : t < 2 ^ 31 := by omega
      have k16' : ¬ 16 ≤ k := by omega
      cases any with
      | true => simp (disch := (first | assumption | decide | omega)) only [dF_X16_child_2, df_X16_child_47, df_X16_child_58, k16', t2, d0, dp, bI_f, Bool.not_true, eq_self, Nat.reduceEqDiff, Nat.reduceLeDiff, nl_0, nl_1, nl_2, nl_3, nl_16, no_1, no_1024, pk_mul, nI_add, nm_ck, nI_clamp, nI_ltI, nI_leI, nI_eq, nb_b2, nb_b1, ↓nb_let, nm_z0, nm_z1, nb_II, nb_IR, nb_RI, nb_RR, nm_IL, nm_IQ, nm_RL, nm_RQ, nm_LI, nm_LR, nm_LL, nm_LQ, nm_QI, nm_QR, nm_QL, nm_QQ, nm_rr, nm_ii, nm_eqm, not_false_eq_true, pk_sub, nm_div, nm_shl, nm_shr, nm_ush, nm_or8, nm_or64, nm_or256, nm_m1, nm_m3, nm_m7, nm_m15, nm_m31, nm_m63, nm_m255, nm_m511, nm_m1023, nm_m2047, nm_m65535, Nat.reduceMod, Nat.reducePow, Nat.reduceAdd, Nat.reduceSub, Nat.reduceMul, nm_bo, nm_bi, nm_rc, nm_ic, nm_ri, nm_rl, nm_rq, nm_ql, nm_qi, nm_li, nm_us, nm_uu, nm_cp, nm_sa31, nm_sa7, nm_m127, nm_m2, nm_nz, nm_nzk, nm_eq32, nm_nzf, if_true, if_false, ↓reduceIte, if_pos, if_neg]
      | false =>
        have d3 : t = 3 := by
          rcases d with d | d
          · exact nomatch d
          · exact d
        subst d3
        simp (disch := (first | assumption | decide | omega)) only [dF_X16_child_2, df_X16_child_47, df_X16_child_58, k16', t2, dp, bI_t, Bool.not_false, eq_self, Nat.reduceEqDiff, Nat.reduceLeDiff, nl_0, nl_1, nl_2, nl_3, nl_16, no_1, no_1024, pk_mul, nI_add, nm_ck, nI_clamp, nI_ltI, nI_leI, nI_eq, nb_b2, nb_b1, ↓nb_let, nm_z0, nm_z1, nb_II, nb_IR, nb_RI, nb_RR, nm_IL, nm_IQ, nm_RL, nm_RQ, nm_LI, nm_LR, nm_LL, nm_LQ, nm_QI, nm_QR, nm_QL, nm_QQ, nm_rr, nm_ii, nm_eqm, not_false_eq_true, pk_sub, nm_div, nm_shl, nm_shr, nm_ush, nm_or8, nm_or64, nm_or256, nm_m1, nm_m3, nm_m7, nm_m15, nm_m31, nm_m63, nm_m255, nm_m511, nm_m1023, nm_m2047, nm_m65535, Nat.reduceMod, Nat.reducePow, Nat.reduceAdd, Nat.reduceSub, Nat.reduceMul, nm_bo, nm_bi, nm_rc, nm_ic, nm_ri, nm_rl, nm_rq, nm_ql, nm_qi, nm_li, nm_us, nm_uu, nm_cp, nm_sa31, nm_sa7, nm_m127, nm_m2, nm_nz, nm_nzk, nm_eq32, nm_nzf, if_true, if_false, ↓reduceIte, if_pos, if_neg]
    · rw [if_neg k16]
      have k16' : 16 ≤ k := by omega
      have u3 : k < 2 ^ 31 := by omega
      simp (disch := (first | assumption | decide | omega)) only [dF_X16_child_2, df_X16_child_47, df_X16_child_58, k16', eq_self, Nat.reduceEqDiff, Nat.reduceLeDiff, nl_0, nl_1, nl_2, nl_3, nl_16, no_1, no_1024, pk_mul, nI_add, nm_ck, nI_clamp, nI_ltI, nI_leI, nI_eq, nb_b2, nb_b1, ↓nb_let, nm_z0, nm_z1, nb_II, nb_IR, nb_RI, nb_RR, nm_IL, nm_IQ, nm_RL, nm_RQ, nm_LI, nm_LR, nm_LL, nm_LQ, nm_QI, nm_QR, nm_QL, nm_QQ, nm_rr, nm_ii, nm_eqm, not_false_eq_true, pk_sub, nm_div, nm_shl, nm_shr, nm_ush, nm_or8, nm_or64, nm_or256, nm_m1, nm_m3, nm_m7, nm_m15, nm_m31, nm_m63, nm_m255, nm_m511, nm_m1023, nm_m2047, nm_m65535, Nat.reduceMod, Nat.reducePow, Nat.reduceAdd, Nat.reduceSub, Nat.reduceMul, nm_bo, nm_bi, nm_rc, nm_ic, nm_ri, nm_rl, nm_rq, nm_ql, nm_qi, nm_li, nm_us, nm_uu, nm_cp, nm_sa31, nm_sa7, nm_m127, nm_m2, nm_nz, nm_nzk, nm_eq32, nm_nzf, if_true, if_false, ↓reduceIte, if_pos, if_neg]
/-- a stretch of a row, all v -/
def fl (f : Nat → Int32) (a k : Nat) (v : Int32) : Nat → Int32 := fun j => if a ≤ j ∧ j < a + k then v else f j
theorem fl_0 (f : Nat → Int32) (a : Nat) (v : Int32) : fl f a 0 v = f := by
  funext j
  exact if_neg (by omega)
theorem fl_s (f : Nat → Int32) (a k : Nat) (v : Int32) : upd (fl f a k v) (a + k) v = fl f a (k + 1) v := by
  funext j
  show (if j = a + k then v else if a ≤ j ∧ j < a + k then v else f j) = if a ≤ j ∧ j < a + (k + 1) then v else f j
  by_cases c : j = a + k
  · rw [if_pos c, if_pos (by omega)]
  · rw [if_neg c]
    by_cases d : a ≤ j ∧ j < a + k
    · rw [if_pos d, if_pos (by omega)]
    · rw [if_neg d, if_neg (by omega)]
/-- an absent process's row -/
def ab (f : Nat → Int32) (p k : Nat) : Nat → Int32 := fun j => if p * 7 ≤ j ∧ j < p * 7 + k then (if j = p * 7 + 1 then -nI 1 else nI 0) else f j
theorem ab_0 (f : Nat → Int32) (p : Nat) : ab f p 0 = f := by
  funext j
  exact if_neg (by omega)
theorem ab_s (f : Nat → Int32) (p k : Nat) : upd (ab f p k) (p * 7 + k) (if k = 1 then -nI 1 else nI 0) = ab f p (k + 1) := by
  funext j
  show (if j = p * 7 + k then (if k = 1 then -nI 1 else nI 0) else if p * 7 ≤ j ∧ j < p * 7 + k then (if j = p * 7 + 1 then -nI 1 else nI 0) else f j) = if p * 7 ≤ j ∧ j < p * 7 + (k + 1) then (if j = p * 7 + 1 then -nI 1 else nI 0) else f j
  by_cases c : j = p * 7 + k
  · rw [if_pos c, if_pos (show p * 7 ≤ j ∧ j < p * 7 + (k + 1) by omega)]
    by_cases k1 : k = 1
    · rw [if_pos k1, if_pos (show j = p * 7 + 1 by omega)]
    · rw [if_neg k1, if_neg (show ¬ j = p * 7 + 1 by omega)]
  · rw [if_neg c]
    by_cases d : p * 7 ≤ j ∧ j < p * 7 + k
    · rw [if_pos d, if_pos (show p * 7 ≤ j ∧ j < p * 7 + (k + 1) by omega)]
    · rw [if_neg d, if_neg (show ¬ (p * 7 ≤ j ∧ j < p * 7 + (k + 1)) by omega)]
theorem nk_makeAbsent (n : Nat) (hn : 1024 < n) (M : St × St) {p : Nat} (hp : p < 16) : df_X6_makeAbsent n (nI p) M = some (pR M.1 6 (ab (sR M.1 6) p 7), M.2) := by
  obtain ⟨m, hm⟩ := nm_lq (fun m k => df_X6_makeAbsent_2 n m (nI p) (nI k) (pR M.1 6 (ab (sR M.1 6) p k), M.2)) 7 n (by omega) (fun k m hk => by
    have u1 : p * 7 + k < 112 := by omega
    have u2 : p * 7 + k < 2 ^ 31 := by omega
    have u3 : k < 2 ^ 31 := by omega
    have k7 : ¬ 7 ≤ k := by omega
    have as := ab_s (sR M.1 6) p k
    rw [show df_X6_makeAbsent_2 n (m + 1) = dF_X6_makeAbsent_2 n (df_X6_makeAbsent_2 n m) from rfl]
    by_cases k1 : k = 1
    · rw [if_pos k1] at as
      subst k1
      simp (disch := (first | assumption | decide | omega)) only [dF_X6_makeAbsent_2, df_X6_makeAbsent_28, as, eq_self, Nat.reduceEqDiff, Nat.reduceLeDiff, nl_0, nl_1, nl_6, nl_7, nl_112, no_1, no_1024, pk_mul, nI_add, nm_ck, nI_clamp, nI_ltI, nI_leI, nI_eq, nb_b2, nb_b1, ↓nb_let, nm_z0, nm_z1, nb_II, nb_IR, nb_RI, nb_RR, nm_IL, nm_IQ, nm_RL, nm_RQ, nm_LI, nm_LR, nm_LL, nm_LQ, nm_QI, nm_QR, nm_QL, nm_QQ, nm_rr, nm_ii, nm_eqm, not_false_eq_true, pk_sub, nm_div, nm_shl, nm_shr, nm_ush, nm_or8, nm_or64, nm_or256, nm_m1, nm_m3, nm_m7, nm_m15, nm_m31, nm_m63, nm_m255, nm_m511, nm_m1023, nm_m2047, nm_m65535, Nat.reduceMod, Nat.reducePow, Nat.reduceAdd, Nat.reduceSub, Nat.reduceMul, nm_bo, nm_bi, nm_rc, nm_ic, nm_ri, nm_rl, nm_rq, nm_ql, nm_qi, nm_li, nm_us, nm_uu, nm_cp, nm_sa31, nm_sa7, nm_m127, nm_m2, nm_nz, nm_nzk, nm_eq32, nm_nzf, if_true, if_false, ↓reduceIte, if_pos, if_neg]
    · rw [if_neg k1] at as
      simp (disch := (first | assumption | decide | omega)) only [dF_X6_makeAbsent_2, df_X6_makeAbsent_28, k7, k1, as, eq_self, Nat.reduceEqDiff, Nat.reduceLeDiff, nl_0, nl_1, nl_6, nl_7, nl_112, no_1, no_1024, pk_mul, nI_add, nm_ck, nI_clamp, nI_ltI, nI_leI, nI_eq, nb_b2, nb_b1, ↓nb_let, nm_z0, nm_z1, nb_II, nb_IR, nb_RI, nb_RR, nm_IL, nm_IQ, nm_RL, nm_RQ, nm_LI, nm_LR, nm_LL, nm_LQ, nm_QI, nm_QR, nm_QL, nm_QQ, nm_rr, nm_ii, nm_eqm, not_false_eq_true, pk_sub, nm_div, nm_shl, nm_shr, nm_ush, nm_or8, nm_or64, nm_or256, nm_m1, nm_m3, nm_m7, nm_m15, nm_m31, nm_m63, nm_m255, nm_m511, nm_m1023, nm_m2047, nm_m65535, Nat.reduceMod, Nat.reducePow, Nat.reduceAdd, Nat.reduceSub, Nat.reduceMul, nm_bo, nm_bi, nm_rc, nm_ic, nm_ri, nm_rl, nm_rq, nm_ql, nm_qi, nm_li, nm_us, nm_uu, nm_cp, nm_sa31, nm_sa7, nm_m127, nm_m2, nm_nz, nm_nzk, nm_eq32, nm_nzf, if_true, if_false, ↓reduceIte, if_pos, if_neg])
  rw [ab_0, nm_r0] at hm
  refine Eq.trans hm ?_
  rw [show df_X6_makeAbsent_2 n (m + 1) = dF_X6_makeAbsent_2 n (df_X6_makeAbsent_2 n m) from rfl]
  simp (disch := (first | assumption | decide | omega)) only [dF_X6_makeAbsent_2, eq_self, Nat.reduceEqDiff, Nat.reduceLeDiff, nl_0, nl_1, nl_7, no_1, no_1024, pk_mul, nI_add, nm_ck, nI_clamp, nI_ltI, nI_leI, nI_eq, nb_b2, nb_b1, ↓nb_let, nm_z0, nm_z1, nb_II, nb_IR, nb_RI, nb_RR, nm_IL, nm_IQ, nm_RL, nm_RQ, nm_LI, nm_LR, nm_LL, nm_LQ, nm_QI, nm_QR, nm_QL, nm_QQ, nm_rr, nm_ii, nm_eqm, not_false_eq_true, pk_sub, nm_div, nm_shl, nm_shr, nm_ush, nm_or8, nm_or64, nm_or256, nm_m1, nm_m3, nm_m7, nm_m15, nm_m31, nm_m63, nm_m255, nm_m511, nm_m1023, nm_m2047, nm_m65535, Nat.reduceMod, Nat.reducePow, Nat.reduceAdd, Nat.reduceSub, Nat.reduceMul, nm_bo, nm_bi, nm_rc, nm_ic, nm_ri, nm_rl, nm_rq, nm_ql, nm_qi, nm_li, nm_us, nm_uu, nm_cp, nm_sa31, nm_sa7, nm_m127, nm_m2, nm_nz, nm_nzk, nm_eq32, nm_nzf, if_true, if_false, ↓reduceIte, if_pos, if_neg]
