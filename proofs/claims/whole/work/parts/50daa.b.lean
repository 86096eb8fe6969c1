/-- a child, with any: whether it has ENDED or not -/
def chP (X : St × St) (p : Nat) (any : Bool) (q : Nat) : Bool := decide (¬ sR X.1 1 q = nI 0) && (decide (sR X.1 2 q = nI p) && (any || decide (sR X.1 1 q = nI 3)))
def cv (r : Nat) : Int32 := if r < 16 then nI r else -nI 1
theorem ch_cases (X : St × St) {p q t : Nat} (any : Bool) (ht : t < 4) (e : sR X.1 1 q = nI t) : (chP X p any q = false → t = 0 ∨ ¬ sR X.1 2 q = nI p ∨ (any = false ∧ t ≠ 3 ∧ sR X.1 2 q = nI p ∧ t ≠ 0)) ∧ (chP X p any q = true → t ≠ 0 ∧ sR X.1 2 q = nI p ∧ (any = true ∨ t = 3)) := by
  have e3 : (nI t = nI 3) ↔ t = 3 := nI_eq (by omega) (by omega)
  have e0 : (nI t = nI 0) ↔ t = 0 := nI_eq (by omega) (by omega)
  unfold chP
  rw [e]
  by_cases c0 : t = 0
  · refine ⟨fun _ => Or.inl c0, fun z => ?_⟩
    rw [decide_eq_false (show ¬ ¬ nI t = nI 0 from fun y => y (e0.mpr c0)), Bool.false_and] at z
    exact nomatch z
  · rw [decide_eq_true (show ¬ nI t = nI 0 from fun y => c0 (e0.mp y)), Bool.true_and]
    by_cases cp : sR X.1 2 q = nI p
    · rw [decide_eq_true cp, Bool.true_and]
      cases any with
      | true => exact ⟨fun z => (nomatch z), fun _ => ⟨c0, cp, Or.inl rfl⟩⟩
      | false =>
        rw [Bool.false_or]
        by_cases c3 : t = 3
        · rw [decide_eq_true (e3.mpr c3)]
          exact ⟨fun z => (nomatch z), fun _ => ⟨c0, cp, Or.inr c3⟩⟩
        · rw [decide_eq_false (fun y => c3 (e3.mp y))]
          exact ⟨fun _ => Or.inr (Or.inr ⟨rfl, c3, cp, c0⟩), fun z => (nomatch z)⟩
    · rw [decide_eq_false cp, Bool.false_and]
      exact ⟨fun _ => Or.inr (Or.inl cp), fun z => (nomatch z)⟩
theorem nk_child (n : Nat) (hn : 1024 < n) {M X : St × St} (hst : ∀ q : Nat, q < 16 → ∃ t : Nat, t < 4 ∧ sR M.1 6 (q * 7) = nI t ∧ sR X.1 1 q = nI t) (hpa : ∀ q : Nat, q < 16 → sR M.1 6 (q * 7 + 1) = sR X.1 2 q) (p : Nat) (any : Bool) : df_X6_leastChild n (nI p) (bI any) M = some (cv (fN (chP X p any) 0 16), M) ∧ df_X16_child n (nI p) (bI (!any)) X = some (cv (fN (chP X p any) 0 16), X) := by
  obtain ⟨x1, x2, x3, x4⟩ := fN_le (chP X p any) 16 0
  constructor
  · obtain ⟨m, hm⟩ := nm_ls (fun m k => df_X6_leastChild_2 n m (nI p) (bI any) (nI k) M) (chP X p any) 0 16 n (by omega) (fun k m h0 hk c => by
      obtain ⟨t, ht, t1, t2⟩ := hst k (by omega)
      have pa := hpa k (by omega)
      have u1 : k * 7 < 112 := by omega
      have u2 : k * 7 + 1 < 112 := by omega
      have u3 : k < 2 ^ 31 := by omega
      have u4 : t < 2 ^ 31 := by omega
      have k16 : ¬ 16 ≤ k := by omega
      rw [show df_X6_leastChild_2 n (m + 1) = dF_X6_leastChild_2 n (df_X6_leastChild_2 n m) from rfl]
      rcases (ch_cases X any ht t2).1 c with d | d | ⟨d, d3, dp, d0⟩
      · simp (disch := (first | assumption | decide | omega)) only [dF_X6_leastChild_2, df_X6_leastChild_53, k16, Nat.add_zero, t1, d, eq_self, Nat.reduceEqDiff, Nat.reduceLeDiff, nl_0, nl_1, nl_3, nl_6, nl_7, nl_16, nl_112, no_1, no_1024, pk_mul, nI_add, nm_ck, nI_clamp, nI_ltI, nI_leI, nI_eq, nb_b2, nb_b1, ↓nb_let, nm_z0, nm_z1, nb_II, nb_IR, nb_RI, nb_RR, nm_IL, nm_IQ, nm_RL, nm_RQ, nm_LI, nm_LR, nm_LL, nm_LQ, nm_QI, nm_QR, nm_QL, nm_QQ, nm_rr, nm_ii, nm_eqm, not_false_eq_true, pk_sub, nm_div, nm_shl, nm_shr, nm_ush, nm_or8, nm_or64, nm_or256, nm_m1, nm_m3, nm_m7, nm_m15, nm_m31, nm_m63, nm_m255, nm_m511, nm_m1023, nm_m2047, nm_m65535, Nat.reduceMod, Nat.reducePow, Nat.reduceAdd, Nat.reduceSub, Nat.reduceMul, nm_bo, nm_bi, nm_rc, nm_ic, nm_ri, nm_rl, nm_rq, nm_ql, nm_qi, nm_li, nm_us, nm_uu, nm_cp, nm_sa31, nm_sa7, nm_m127, nm_m2, nm_nz, nm_nzk, nm_eq32, nm_nzf, if_true, if_false, ↓reduceIte, if_pos, if_neg]
      · by_cases t0 : t = 0
        · simp (disch := (first | assumption | decide | omega)) only [dF_X6_leastChild_2, df_X6_leastChild_53, k16, Nat.add_zero, t1, t0, eq_self, Nat.reduceEqDiff, Nat.reduceLeDiff, nl_0, nl_1, nl_3, nl_6, nl_7, nl_16, nl_112, no_1, no_1024, pk_mul, nI_add, nm_ck, nI_clamp, nI_ltI, nI_leI, nI_eq, nb_b2, nb_b1, ↓nb_let, nm_z0, nm_z1, nb_II, nb_IR, nb_RI, nb_RR, nm_IL, nm_IQ, nm_RL, nm_RQ, nm_LI, nm_LR, nm_LL, nm_LQ, nm_QI, nm_QR, nm_QL, nm_QQ, nm_rr, nm_ii, nm_eqm, not_false_eq_true, pk_sub, nm_div, nm_shl, nm_shr, nm_ush, nm_or8, nm_or64, nm_or256, nm_m1, nm_m3, nm_m7, nm_m15, nm_m31, nm_m63, nm_m255, nm_m511, nm_m1023, nm_m2047, nm_m65535, Nat.reduceMod, Nat.reducePow, Nat.reduceAdd, Nat.reduceSub, Nat.reduceMul, nm_bo, nm_bi, nm_rc, nm_ic, nm_ri, nm_rl, nm_rq, nm_ql, nm_qi, nm_li, nm_us, nm_uu, nm_cp, nm_sa31, nm_sa7, nm_m127, nm_m2, nm_nz, nm_nzk, nm_eq32, nm_nzf, if_true, if_false, ↓reduceIte, if_pos, if_neg]
        · simp (disch := (first | assumption | decide | omega)) only [dF_X6_leastChild_2, df_X6_leastChild_53, k16, Nat.add_zero, t1, t0, pa, d, eq_self, Nat.reduceEqDiff, Nat.reduceLeDiff, nl_0, nl_1, nl_3, nl_6, nl_7, nl_16, nl_112, no_1, no_1024, pk_mul, nI_add, nm_ck, nI_clamp, nI_ltI, nI_leI, nI_eq, nb_b2, nb_b1, ↓nb_let, nm_z0, nm_z1, nb_II, nb_IR, nb_RI, nb_RR, nm_IL, nm_IQ, nm_RL, nm_RQ, nm_LI, nm_LR, nm_LL, nm_LQ, nm_QI, nm_QR, nm_QL, nm_QQ, nm_rr, nm_ii, nm_eqm, not_false_eq_true, pk_sub, nm_div, nm_shl, nm_shr, nm_ush, nm_or8, nm_or64, nm_or256, nm_m1, nm_m3, nm_m7, nm_m15, nm_m31, nm_m63, nm_m255, nm_m511, nm_m1023, nm_m2047, nm_m65535, Nat.reduceMod, Nat.reducePow, Nat.reduceAdd, Nat.reduceSub, Nat.reduceMul, nm_bo, nm_bi, nm_rc, nm_ic, nm_ri, nm_rl, nm_rq, nm_ql, nm_qi, nm_li, nm_us, nm_uu, nm_cp, nm_sa31, nm_sa7, nm_m127, nm_m2, nm_nz, nm_nzk, nm_eq32, nm_nzf, if_true, if_false, ↓reduceIte, if_pos, if_neg]
      · simp (disch := (first | assumption | decide | omega)) only [dF_X6_leastChild_2, df_X6_leastChild_53, k16, Nat.add_zero, t1, d0, pa, dp, d, bI_f, d3, eq_self, Nat.reduceEqDiff, Nat.reduceLeDiff, nl_0, nl_1, nl_3, nl_6, nl_7, nl_16, nl_112, no_1, no_1024, pk_mul, nI_add, nm_ck, nI_clamp, nI_ltI, nI_leI, nI_eq, nb_b2, nb_b1, ↓nb_let, nm_z0, nm_z1, nb_II, nb_IR, nb_RI, nb_RR, nm_IL, nm_IQ, nm_RL, nm_RQ, nm_LI, nm_LR, nm_LL, nm_LQ, nm_QI, nm_QR, nm_QL, nm_QQ, nm_rr, nm_ii, nm_eqm, not_false_eq_true, pk_sub, nm_div, nm_shl, nm_shr, nm_ush, nm_or8, nm_or64, nm_or256, nm_m1, nm_m3, nm_m7, nm_m15, nm_m31, nm_m63, nm_m255, nm_m511, nm_m1023, nm_m2047, nm_m65535, Nat.reduceMod, Nat.reducePow, Nat.reduceAdd, Nat.reduceSub, Nat.reduceMul, nm_bo, nm_bi, nm_rc, nm_ic, nm_ri, nm_rl, nm_rq, nm_ql, nm_qi, nm_li, nm_us, nm_uu, nm_cp, nm_sa31, nm_sa7, nm_m127, nm_m2, nm_nz, nm_nzk, nm_eq32, nm_nzf, if_true, if_false, ↓reduceIte, if_pos, if_neg])
    have hm : df_X6_leastChild n (nI p) (bI any) M = df_X6_leastChild_2 n (m + 1) (nI p) (bI any) (nI (fN (chP X p any) 0 16)) M := hm
    rw [hm, show df_X6_leastChild_2 n (m + 1) = dF_X6_leastChild_2 n (df_X6_leastChild_2 n m) from rfl]
    generalize fN (chP X p any) 0 16 = k at *
    unfold cv
    by_cases k16 : k < 16
    · rw [if_pos k16]
      obtain ⟨t, ht, t1, t2⟩ := hst k k16
      have pa := hpa k k16
      obtain ⟨d0, dp, d⟩ := (ch_cases X any ht t2).2 (x3 (by omega))
      have u1 : k * 7 < 112 := by omega
      have u2 : k * 7 + 1 < 112 := by omega
      have u3 : k < 2 ^ 31 := by omega
      have u4 : t < 2 ^ 31 := by omega
      have k16' : ¬ 16 ≤ k := by omega
      cases any with
      | true => simp (disch := (first | assumption | decide | omega)) only [dF_X6_leastChild_2, df_X6_leastChild_51, k16', Nat.add_zero, t1, d0, pa, dp, bI_t, eq_self, Nat.reduceEqDiff, Nat.reduceLeDiff, nl_0, nl_1, nl_3, nl_6, nl_7, nl_16, nl_112, no_1, no_1024, pk_mul, nI_add, nm_ck, nI_clamp, nI_ltI, nI_leI, nI_eq, nb_b2, nb_b1, ↓nb_let, nm_z0, nm_z1, nb_II, nb_IR, nb_RI, nb_RR, nm_IL, nm_IQ, nm_RL, nm_RQ, nm_LI, nm_LR, nm_LL, nm_LQ, nm_QI, nm_QR, nm_QL, nm_QQ, nm_rr, nm_ii, nm_eqm, not_false_eq_true, pk_sub, nm_div, nm_shl, nm_shr, nm_ush, nm_or8, nm_or64, nm_or256, nm_m1, nm_m3, nm_m7, nm_m15, nm_m31, nm_m63, nm_m255, nm_m511, nm_m1023, nm_m2047, nm_m65535, Nat.reduceMod, Nat.reducePow, Nat.reduceAdd, Nat.reduceSub, Nat.reduceMul, nm_bo, nm_bi, nm_rc, nm_ic, nm_ri, nm_rl, nm_rq, nm_ql, nm_qi, nm_li, nm_us, nm_uu, nm_cp, nm_sa31, nm_sa7, nm_m127, nm_m2, nm_nz, nm_nzk, nm_eq32, nm_nzf, if_true, if_false, ↓reduceIte, if_pos, if_neg]
      | false =>
        have d3 : t = 3 := by
          rcases d with d | d
          · exact nomatch d
          · exact d
        subst d3
        simp (disch := (first | assumption | decide | omega)) only [dF_X6_leastChild_2, df_X6_leastChild_51, k16', Nat.add_zero, t1, pa, dp, bI_f, eq_self, Nat.reduceEqDiff, Nat.reduceLeDiff, nl_0, nl_1, nl_3, nl_6, nl_7, nl_16, nl_112, no_1, no_1024, pk_mul, nI_add, nm_ck, nI_clamp, nI_ltI, nI_leI, nI_eq, nb_b2, nb_b1, ↓nb_let, nm_z0, nm_z1, nb_II, nb_IR, nb_RI, nb_RR, nm_IL, nm_IQ, nm_RL, nm_RQ, nm_LI, nm_LR, nm_LL, nm_LQ, nm_QI, nm_QR, nm_QL, nm_QQ, nm_rr, nm_ii, nm_eqm, not_false_eq_true, pk_sub, nm_div, nm_shl, nm_shr, nm_ush, nm_or8, nm_or64, nm_or256, nm_m1, nm_m3, nm_m7, nm_m15, nm_m31, nm_m63, nm_m255, nm_m511, nm_m1023, nm_m2047, nm_m65535, Nat.reduceMod, Nat.reducePow, Nat.reduceAdd, Nat.reduceSub, Nat.reduceMul, nm_bo, nm_bi, nm_rc, nm_ic, nm_ri, nm_rl, nm_rq, nm_ql, nm_qi, nm_li, nm_us, nm_uu, nm_cp, nm_sa31, nm_sa7, nm_m127, nm_m2, nm_nz, nm_nzk, nm_eq32, nm_nzf, if_true, if_false, ↓reduceIte, if_pos, if_neg]
    · rw [if_neg k16]
      have k16' : 16 ≤ k := by omega
      have u3 : k < 2 ^ 31 := by omega
      simp (disch := (first | assumption | decide | omega)) only [dF_X6_leastChild_2, k16', eq_self, Nat.reduceEqDiff, Nat.reduceLeDiff, nl_0, nl_1, nl_3, nl_6, nl_7, nl_16, nl_112, no_1, no_1024, pk_mul, nI_add, nm_ck, nI_clamp, nI_ltI, nI_leI, nI_eq, nb_b2, nb_b1, ↓nb_let, nm_z0, nm_z1, nb_II, nb_IR, nb_RI, nb_RR, nm_IL, nm_IQ, nm_RL, nm_RQ, nm_LI, nm_LR, nm_LL, nm_LQ, nm_QI, nm_QR, nm_QL, nm_QQ, nm_rr, nm_ii, nm_eqm, not_false_eq_true, pk_sub, nm_div, nm_shl, nm_shr, nm_ush, nm_or8, nm_or64, nm_or256, nm_m1, nm_m3, nm_m7, nm_m15, nm_m31, nm_m63, nm_m255, nm_m511, nm_m1023, nm_m2047, nm_m65535, Nat.reduceMod, Nat.reducePow, Nat.reduceAdd, Nat.reduceSub, Nat.reduceMul, nm_bo, nm_bi, nm_rc, nm_ic, nm_ri, nm_rl, nm_rq, nm_ql, nm_qi, nm_li, nm_us, nm_uu, nm_cp, nm_sa31, nm_sa7, nm_m127, nm_m2, nm_nz, nm_nzk, nm_eq32, nm_nzf, if_true, if_false, ↓reduceIte, if_pos, if_neg]
  · obtain ⟨m, hm⟩ := nm_ls (fun m k => df_X16_child_2 n m (nI p) (bI (!any)) (nI k) X) (chP X p any) 0 16 n (by omega) (fun k m h0 hk c => by
      obtain ⟨t, ht, t1, t2⟩ := hst k (by omega)
      have u0 : k < 16 := by omega
      have u3 : k < 2 ^ 31 := by omega
      have u4 : t < 2 ^ 31 := by omega
      have k16 : ¬ 16 ≤ k := by omega
      rw [show df_X16_child_2 n (m + 1) = dF_X16_child_2 n (df_X16_child_2 n m) from rfl]
      rcases (ch_cases X any ht t2).1 c with d | d | ⟨d, d3, dp, d0⟩
      · simp (disch := (first | assumption | decide | omega)) only [dF_X16_child_2, df_X16_child_41, k16, t2, d, eq_self, Nat.reduceEqDiff, Nat.reduceLeDiff, nl_0, nl_1, nl_2, nl_3, nl_16, no_1, no_1024, pk_mul, nI_add, nm_ck, nI_clamp, nI_ltI, nI_leI, nI_eq, nb_b2, nb_b1, ↓nb_let, nm_z0, nm_z1, nb_II, nb_IR, nb_RI, nb_RR, nm_IL, nm_IQ, nm_RL, nm_RQ, nm_LI, nm_LR, nm_LL, nm_LQ, nm_QI, nm_QR, nm_QL, nm_QQ, nm_rr, nm_ii, nm_eqm, not_false_eq_true, pk_sub, nm_div, nm_shl, nm_shr, nm_ush, nm_or8, nm_or64, nm_or256, nm_m1, nm_m3, nm_m7, nm_m15, nm_m31, nm_m63, nm_m255, nm_m511, nm_m1023, nm_m2047, nm_m65535, Nat.reduceMod, Nat.reducePow, Nat.reduceAdd, Nat.reduceSub, Nat.reduceMul, nm_bo, nm_bi, nm_rc, nm_ic, nm_ri, nm_rl, nm_rq, nm_ql, nm_qi, nm_li, nm_us, nm_uu, nm_cp, nm_sa31, nm_sa7, nm_m127, nm_m2, nm_nz, nm_nzk, nm_eq32, nm_nzf, if_true, if_false, ↓reduceIte, if_pos, if_neg]
      · by_cases t0 : t = 0
        · simp (disch := (first | assumption | decide | omega)) only [dF_X16_child_2, df_X16_child_41, k16, t2, t0, eq_self, Nat.reduceEqDiff, Nat.reduceLeDiff, nl_0, nl_1, nl_2, nl_3, nl_16, no_1, no_1024, pk_mul, nI_add, nm_ck, nI_clamp, nI_ltI, nI_leI, nI_eq, nb_b2, nb_b1, ↓nb_let, nm_z0, nm_z1, nb_II, nb_IR, nb_RI, nb_RR, nm_IL, nm_IQ, nm_RL, nm_RQ, nm_LI, nm_LR, nm_LL, nm_LQ, nm_QI, nm_QR, nm_QL, nm_QQ, nm_rr, nm_ii, nm_eqm, not_false_eq_true, pk_sub, nm_div, nm_shl, nm_shr, nm_ush, nm_or8, nm_or64, nm_or256, nm_m1, nm_m3, nm_m7, nm_m15, nm_m31, nm_m63, nm_m255, nm_m511, nm_m1023, nm_m2047, nm_m65535, Nat.reduceMod, Nat.reducePow, Nat.reduceAdd, Nat.reduceSub, Nat.reduceMul, nm_bo, nm_bi, nm_rc, nm_ic, nm_ri, nm_rl, nm_rq, nm_ql, nm_qi, nm_li, nm_us, nm_uu, nm_cp, nm_sa31, nm_sa7, nm_m127, nm_m2, nm_nz, nm_nzk, nm_eq32, nm_nzf, if_true, if_false, ↓reduceIte, if_pos, if_neg]
        · simp (disch := (first | assumption | decide | omega)) only [dF_X16_child_2, df_X16_child_41, k16, t2, t0, d, eq_self, Nat.reduceEqDiff, Nat.reduceLeDiff, nl_0, nl_1, nl_2, nl_3, nl_16, no_1, no_1024, pk_mul, nI_add, nm_ck, nI_clamp, nI_ltI, nI_leI, nI_eq, nb_b2, nb_b1, ↓nb_let, nm_z0, nm_z1, nb_II, nb_IR, nb_RI, nb_RR, nm_IL, nm_IQ, nm_RL, nm_RQ, nm_LI, nm_LR, nm_LL, nm_LQ, nm_QI, nm_QR, nm_QL, nm_QQ, nm_rr, nm_ii, nm_eqm, not_false_eq_true, pk_sub, nm_div, nm_shl, nm_shr, nm_ush, nm_or8, nm_or64, nm_or256, nm_m1, nm_m3, nm_m7, nm_m15, nm_m31, nm_m63, nm_m255, nm_m511, nm_m1023, nm_m2047, nm_m65535, Nat.reduceMod, Nat.reducePow, Nat.reduceAdd, Nat.reduceSub, Nat.reduceMul, nm_bo, nm_bi, nm_rc, nm_ic, nm_ri, nm_rl, nm_rq, nm_ql, nm_qi, nm_li, nm_us, nm_uu, nm_cp, nm_sa31, nm_sa7, nm_m127, nm_m2, nm_nz, nm_nzk, nm_eq32, nm_nzf, if_true, if_false, ↓reduceIte, if_pos, if_neg]
      · simp (disch := (first | assumption | decide | omega)) only [dF_X16_child_2, df_X16_child_41, k16, t2, d0, dp, d, bI_t, d3, Bool.not_false, eq_self, Nat.reduceEqDiff, Nat.reduceLeDiff, nl_0, nl_1, nl_2, nl_3, nl_16, no_1, no_1024, pk_mul, nI_add, nm_ck, nI_clamp, nI_ltI, nI_leI, nI_eq, nb_b2, nb_b1, ↓nb_let, nm_z0, nm_z1, nb_II, nb_IR, nb_RI, nb_RR, nm_IL, nm_IQ, nm_RL, nm_RQ, nm_LI, nm_LR, nm_LL, nm_LQ, nm_QI, nm_QR, nm_QL, nm_QQ, nm_rr, nm_ii, nm_eqm, not_false_eq_true, pk_sub, nm_div, nm_shl, nm_shr, nm_ush, nm_or8, nm_or64, nm_or256, nm_m1, nm_m3, nm_m7, nm_m15, nm_m31, nm_m63, nm_m255, nm_m511, nm_m1023, nm_m2047, nm_m65535, Nat.reduceMod, Nat.reducePow, Nat.reduceAdd, Nat.reduceSub, Nat.reduceMul, nm_bo, nm_bi, nm_rc, nm_ic, nm_ri, nm_rl, nm_rq, nm_ql, nm_qi, nm_li, nm_us, nm_uu, nm_cp, nm_sa31, nm_sa7, nm_m127, nm_m2, nm_nz, nm_nzk, nm_eq32, nm_nzf, if_true, if_false, ↓reduceIte, if_pos, if_neg])
    have hm : df_X16_child n (nI p) (bI (!any)) X = df_X16_child_2 n (m + 1) (nI p) (bI (!any)) (nI (fN (chP X p any) 0 16)) X := hm
    rw [hm, show df_X16_child_2 n (m + 1) = dF_X16_child_2 n (df_X16_child_2 n m) from rfl]
    generalize fN (chP X p any) 0 16 = k at *
    unfold cv
    by_cases k16 : k < 16
    · rw [if_pos k16]
      obtain ⟨t, ht, t1, t2⟩ := hst k k16
      obtain ⟨d0, dp, d⟩ := (ch_cases X any ht t2).2 (x3 (by omega))
      have u3 : k < 2 ^ 31 := by omega
      have u4 : t < 2 ^ 31 := by omega
      have k16' : ¬ 16 ≤ k := by omega
      cases any with
      | true => simp (disch := (first | assumption | decide | omega)) only [dF_X16_child_2, df_X16_child_47, df_X16_child_58, k16', t2, d0, dp, bI_f, Bool.not_true, eq_self, Nat.reduceEqDiff, Nat.reduceLeDiff, nl_0, nl_1, nl_2, nl_3, nl_16, no_1, no_1024, pk_mul, nI_add, nm_ck, nI_clamp, nI_ltI, nI_leI, nI_eq, nb_b2, nb_b1, ↓nb_let, nm_z0, nm_z1, nb_II, nb_IR, nb_RI, nb_RR, nm_IL, nm_IQ, nm_RL, nm_RQ, nm_LI, nm_LR, nm_LL, nm_LQ, nm_QI, nm_QR, nm_QL, nm_QQ, nm_rr, nm_ii, nm_eqm, not_false_eq_true, pk_sub, nm_div, nm_shl, nm_shr, nm_ush, nm_or8, nm_or64, nm_or256, nm_m1, nm_m3, nm_m7, nm_m15, nm_m31, nm_m63, nm_m255, nm_m511, nm_m1023, nm_m2047, nm_m65535, Nat.reduceMod, Nat.reducePow, Nat.reduceAdd, Nat.reduceSub, Nat.reduceMul, nm_bo, nm_bi, nm_rc, nm_ic, nm_ri, nm_rl, nm_rq, nm_ql, nm_qi, nm_li, nm_us, nm_uu, nm_cp, nm_sa31, nm_sa7, nm_m127, nm_m2, nm_nz, nm_nzk, nm_eq32, nm_nzf, if_true, if_false, ↓reduceIte, if_pos, if_neg]
      | false =>
        have d3 : t = 3 := by
          rcases d with d | d
          · exact nomatch d
          · exact d
        subst d3
        simp (disch := (first | assumption | decide | omega)) only [dF_X16_child_2, df_X16_child_47, df_X16_child_58, k16', t2, dp, bI_t, Bool.not_false, eq_self, Nat.reduceEqDiff, Nat.reduceLeDiff, nl_0, nl_1, nl_2, nl_3, nl_16, no_1, no_1024, pk_mul, nI_add, nm_ck, nI_clamp, nI_ltI, nI_leI, nI_eq, nb_b2, nb_b1, ↓nb_let, nm_z0, nm_z1, nb_II, nb_IR, nb_RI, nb_RR, nm_IL, nm_IQ, nm_RL, nm_RQ, nm_LI, nm_LR, nm_LL, nm_LQ, nm_QI, nm_QR, nm_QL, nm_QQ, nm_rr, nm_ii, nm_eqm, not_false_eq_true, pk_sub, nm_div, nm_shl, nm_shr, nm_ush, nm_or8, nm_or64, nm_or256, nm_m1, nm_m3, nm_m7, nm_m15, nm_m31, nm_m63, nm_m255, nm_m511, nm_m1023, nm_m2047, nm_m65535, Nat.reduceMod, Nat.reducePow, Nat.reduceAdd, Nat.reduceSub, Nat.reduceMul, nm_bo, nm_bi, nm_rc, nm_ic, nm_ri, nm_rl, nm_rq, nm_ql, nm_qi, nm_li, nm_us, nm_uu, nm_cp, nm_sa31, nm_sa7, nm_m127, nm_m2, nm_nz, nm_nzk, nm_eq32, nm_nzf, if_true, if_false, ↓reduceIte, if_pos, if_neg]
    · rw [if_neg k16]
      have k16' : 16 ≤ k := by omega
      have u3 : k < 2 ^ 31 := by omega
      simp (disch := (first | assumption | decide | omega)) only [dF_X16_child_2, df_X16_child_47, df_X16_child_58, k16', eq_self, Nat.reduceEqDiff, Nat.reduceLeDiff, nl_0, nl_1, nl_2, nl_3, nl_16, no_1, no_1024, pk_mul, nI_add, nm_ck, nI_clamp, nI_ltI, nI_leI, nI_eq, nb_b2, nb_b1, ↓nb_let, nm_z0, nm_z1, nb_II, nb_IR, nb_RI, nb_RR, nm_IL, nm_IQ, nm_RL, nm_RQ, nm_LI, nm_LR, nm_LL, nm_LQ, nm_QI, nm_QR, nm_QL, nm_QQ, nm_rr, nm_ii, nm_eqm, not_false_eq_true, pk_sub, nm_div, nm_shl, nm_shr, nm_ush, nm_or8, nm_or64, nm_or256, nm_m1, nm_m3, nm_m7, nm_m15, nm_m31, nm_m63, nm_m255, nm_m511, nm_m1023, nm_m2047, nm_m65535, Nat.reduceMod, Nat.reducePow, Nat.reduceAdd, Nat.reduceSub, Nat.reduceMul, nm_bo, nm_bi, nm_rc, nm_ic, nm_ri, nm_rl, nm_rq, nm_ql, nm_qi, nm_li, nm_us, nm_uu, nm_cp, nm_sa31, nm_sa7, nm_m127, nm_m2, nm_nz, nm_nzk, nm_eq32, nm_nzf, if_true, if_false, ↓reduceIte, if_pos, if_neg]
/-- a stretch of a row, all v -/
def fl (f : Nat → Int32) (a k : Nat) (v : Int32) : Nat → Int32 := fun j => if a ≤ j ∧ j < a + k then v else f j
theorem fl_0 (f : Nat → Int32) (a : Nat) (v : Int32) : fl f a 0 v = f := by
  funext j
  exact if_neg (by omega)
theorem fl_s (f : Nat → Int32) (a k : Nat) (v : Int32) : upd (fl f a k v) (a + k) v = fl f a (k + 1) v := by
  funext j
  show (if j = a + k then v else if a ≤ j ∧ j < a + k then v else f j) = if a ≤ j ∧ j < a + (k + 1) then v else f j
  by_cases c : j = a + k
  · rw [if_pos c, if_pos (by omega)]
  · rw [if_neg c]
    by_cases d : a ≤ j ∧ j < a + k
    · rw [if_pos d, if_pos (by omega)]
    · rw [if_neg d, if_neg (by omega)]
/-- an absent process's row -/
def ab (f : Nat → Int32) (p k : Nat) : Nat → Int32 := fun j => if p * 7 ≤ j ∧ j < p * 7 + k then (if j = p * 7 + 1 then -nI 1 else nI 0) else f j
theorem ab_0 (f : Nat → Int32) (p : Nat) : ab f p 0 = f := by
  funext j
  exact if_neg (by omega)
theorem ab_s (f : Nat → Int32) (p k : Nat) : upd (ab f p k) (p * 7 + k) (if k = 1 then -nI 1 else nI 0) = ab f p (k + 1) := by
  funext j
  show (if j = p * 7 + k then (if k = 1 then -nI 1 else nI 0) else if p * 7 ≤ j ∧ j < p * 7 + k then (if j = p * 7 + 1 then -nI 1 else nI 0) else f j) = if p * 7 ≤ j ∧ j < p * 7 + (k + 1) then (if j = p * 7 + 1 then -nI 1 else nI 0) else f j
  by_cases c : j = p * 7 + k
  · rw [if_pos c, if_pos (show p * 7 ≤ j ∧ j < p * 7 + (k + 1) by omega)]
    by_cases k1 : k = 1
    · rw [if_pos k1, if_pos (show j = p * 7 + 1 by omega)]
    · rw [if_neg k1, if_neg (show ¬ j = p * 7 + 1 by omega)]
  · rw [if_neg c]
    by_cases d : p * 7 ≤ j ∧ j < p * 7 + k
    · rw [if_pos d, if_pos (show p * 7 ≤ j ∧ j < p * 7 + (k + 1) by omega)]
    · rw [if_neg d, if_neg (show ¬ (p * 7 ≤ j ∧ j < p * 7 + (k + 1)) by omega)]
theorem nk_makeAbsent (n : Nat) (hn : 1024 < n) (M : St × St) {p : Nat} (hp : p < 16) : df_X6_makeAbsent n (nI p) M = some (pR M.1 6 (ab (sR M.1 6) p 7), M.2) := by
  obtain ⟨m, hm⟩ := nm_lq (fun m k => df_X6_makeAbsent_2 n m (nI p) (nI k) (pR M.1 6 (ab (sR M.1 6) p k), M.2)) 7 n (by omega) (fun k m hk => by
    have u1 : p * 7 + k < 112 := by omega
    have u2 : p * 7 + k < 2 ^ 31 := by omega
    have u3 : k < 2 ^ 31 := by omega
    have k7 : ¬ 7 ≤ k := by omega
    have as := ab_s (sR M.1 6) p k
    rw [show df_X6_makeAbsent_2 n (m + 1) = dF_X6_makeAbsent_2 n (df_X6_makeAbsent_2 n m) from rfl]
    by_cases k1 : k = 1
    · rw [if_pos k1] at as
      subst k1
      simp (disch := (first | assumption | decide | omega)) only [dF_X6_makeAbsent_2, df_X6_makeAbsent_28, as, eq_self, Nat.reduceEqDiff, Nat.reduceLeDiff, nl_0, nl_1, nl_6, nl_7, nl_112, no_1, no_1024, pk_mul, nI_add, nm_ck, nI_clamp, nI_ltI, nI_leI, nI_eq, nb_b2, nb_b1, ↓nb_let, nm_z0, nm_z1, nb_II, nb_IR, nb_RI, nb_RR, nm_IL, nm_IQ, nm_RL, nm_RQ, nm_LI, nm_LR, nm_LL, nm_LQ, nm_QI, nm_QR, nm_QL, nm_QQ, nm_rr, nm_ii, nm_eqm, not_false_eq_true, pk_sub, nm_div, nm_shl, nm_shr, nm_ush, nm_or8, nm_or64, nm_or256, nm_m1, nm_m3, nm_m7, nm_m15, nm_m31, nm_m63, nm_m255, nm_m511, nm_m1023, nm_m2047, nm_m65535, Nat.reduceMod, Nat.reducePow, Nat.reduceAdd, Nat.reduceSub, Nat.reduceMul, nm_bo, nm_bi, nm_rc, nm_ic, nm_ri, nm_rl, nm_rq, nm_ql, nm_qi, nm_li, nm_us, nm_uu, nm_cp, nm_sa31, nm_sa7, nm_m127, nm_m2, nm_nz, nm_nzk, nm_eq32, nm_nzf, if_true, if_false, ↓reduceIte, if_pos, if_neg]
    · rw [if_neg k1] at as
      simp (disch := (first | assumption | decide | omega)) only [dF_X6_makeAbsent_2, df_X6_makeAbsent_28, k7, k1, as, eq_self, Nat.reduceEqDiff, Nat.reduceLeDiff, nl_0, nl_1, nl_6, nl_7, nl_112, no_1, no_1024, pk_mul, nI_add, nm_ck, nI_clamp, nI_ltI, nI_leI, nI_eq, nb_b2, nb_b1, ↓nb_let, nm_z0, nm_z1, nb_II, nb_IR, nb_RI, nb_RR, nm_IL, nm_IQ, nm_RL, nm_RQ, nm_LI, nm_LR, nm_LL, nm_LQ, nm_QI, nm_QR, nm_QL, nm_QQ, nm_rr, nm_ii, nm_eqm, not_false_eq_true, pk_sub, nm_div, nm_shl, nm_shr, nm_ush, nm_or8, nm_or64, nm_or256, nm_m1, nm_m3, nm_m7, nm_m15, nm_m31, nm_m63, nm_m255, nm_m511, nm_m1023, nm_m2047, nm_m65535, Nat.reduceMod, Nat.reducePow, Nat.reduceAdd, Nat.reduceSub, Nat.reduceMul, nm_bo, nm_bi, nm_rc, nm_ic, nm_ri, nm_rl, nm_rq, nm_ql, nm_qi, nm_li, nm_us, nm_uu, nm_cp, nm_sa31, nm_sa7, nm_m127, nm_m2, nm_nz, nm_nzk, nm_eq32, nm_nzf, if_true, if_false, ↓reduceIte, if_pos, if_neg])
  rw [ab_0, nm_r0] at hm
  refine Eq.trans hm ?_
  rw [show df_X6_makeAbsent_2 n (m + 1) = dF_X6_makeAbsent_2 n (df_X6_makeAbsent_2 n m) from rfl]
  simp (disch := (first | assumption | decide | omega)) only [dF_X6_makeAbsent_2, eq_self, Nat.reduceEqDiff, Nat.reduceLeDiff, nl_0, nl_1, nl_7, no_1, no_1024, pk_mul, nI_add, nm_ck, nI_clamp, nI_ltI, nI_leI, nI_eq, nb_b2, nb_b1, ↓nb_let, nm_z0, nm_z1, nb_II, nb_IR, nb_RI, nb_RR, nm_IL, nm_IQ, nm_RL, nm_RQ, nm_LI, nm_LR, nm_LL, nm_LQ, nm_QI, nm_QR, nm_QL, nm_QQ, nm_rr, nm_ii, nm_eqm, not_false_eq_true, pk_sub, nm_div, nm_shl, nm_shr, nm_ush, nm_or8, nm_or64, nm_or256, nm_m1, nm_m3, nm_m7, nm_m15, nm_m31, nm_m63, nm_m255, nm_m511, nm_m1023, nm_m2047, nm_m65535, Nat.reduceMod, Nat.reducePow, Nat.reduceAdd, Nat.reduceSub, Nat.reduceMul, nm_bo, nm_bi, nm_rc, nm_ic, nm_ri, nm_rl, nm_rq, nm_ql, nm_qi, nm_li, nm_us, nm_uu, nm_cp, nm_sa31, nm_sa7, nm_m127, nm_m2, nm_nz, nm_nzk, nm_eq32, nm_nzf, if_true, if_false, ↓reduceIte, if_pos, if_neg]

/-- what the reference's 'begin' leaves -/
def bg (X : St × St) (q i j : Nat) : St × St := (pQ (pR (pR (pR (pR (pR (pR (pR (pR (pR (pR (pR (pR (pR (pR X.1 1 (upd (sR X.1 1) q (nI 0))) 2 (upd (sR X.1 2) q (-nI 1))) 3 (upd (sR X.1 3) q (nI 0))) 4 (upd (sR X.1 4) q (nI 0))) 5 (upd (sR X.1 5) q (nI 0))) 6 (upd (sR X.1 6) q (nI 0))) 7 (upd (sR X.1 7) q (-nI 1))) 8 (upd (sR X.1 8) q (nI 0))) 9 (fl (sR X.1 9) (32 * q) i (nI 0))) 10 (upd (sR X.1 10) q (nI 0))) 11 (fl (sR X.1 11) (32 * q) i (nI 0))) 12 (upd (sR X.1 12) q (nI 0))) 13 (fl (sR X.1 13) (16 * q) j (nI 0))) 14 (fl (sR X.1 14) (16 * q) j (-nI 1))) 0 (vp_updL (sQ X.1 0) q (-1)), X.2)
theorem bg_0 (n : Nat) (X : St × St) {q : Nat} (hq : q < 16) : df_X16_begin n (nI q) X = df_X16_begin_81 n n (nI q) (nI 0) (bg X q 0 0) := by
  have u1 : q < 2 ^ 31 := by omega
  unfold bg
  rw [fl_0, fl_0, fl_0, fl_0]
  have e9 : pR (pR (pR (pR (pR (pR (pR (pR (pR X.1 1 (upd (sR X.1 1) q (nI 0))) 2 (upd (sR X.1 2) q (-nI 1))) 3 (upd (sR X.1 3) q (nI 0))) 4 (upd (sR X.1 4) q (nI 0))) 5 (upd (sR X.1 5) q (nI 0))) 6 (upd (sR X.1 6) q (nI 0))) 7 (upd (sR X.1 7) q (-nI 1))) 8 (upd (sR X.1 8) q (nI 0))) 9 (sR X.1 9) = (pR (pR (pR (pR (pR (pR (pR (pR X.1 1 (upd (sR X.1 1) q (nI 0))) 2 (upd (sR X.1 2) q (-nI 1))) 3 (upd (sR X.1 3) q (nI 0))) 4 (upd (sR X.1 4) q (nI 0))) 5 (upd (sR X.1 5) q (nI 0))) 6 (upd (sR X.1 6) q (nI 0))) 7 (upd (sR X.1 7) q (-nI 1))) 8 (upd (sR X.1 8) q (nI 0))) := nm_r0 (pR (pR (pR (pR (pR (pR (pR (pR X.1 1 (upd (sR X.1 1) q (nI 0))) 2 (upd (sR X.1 2) q (-nI 1))) 3 (upd (sR X.1 3) q (nI 0))) 4 (upd (sR X.1 4) q (nI 0))) 5 (upd (sR X.1 5) q (nI 0))) 6 (upd (sR X.1 6) q (nI 0))) 7 (upd (sR X.1 7) q (-nI 1))) 8 (upd (sR X.1 8) q (nI 0))) 9
  have e11 : pR (pR (pR (pR (pR (pR (pR (pR (pR (pR X.1 1 (upd (sR X.1 1) q (nI 0))) 2 (upd (sR X.1 2) q (-nI 1))) 3 (upd (sR X.1 3) q (nI 0))) 4 (upd (sR X.1 4) q (nI 0))) 5 (upd (sR X.1 5) q (nI 0))) 6 (upd (sR X.1 6) q (nI 0))) 7 (upd (sR X.1 7) q (-nI 1))) 8 (upd (sR X.1 8) q (nI 0))) 10 (upd (sR X.1 10) q (nI 0))) 11 (sR X.1 11) = (pR (pR (pR (pR (pR (pR (pR (pR (pR X.1 1 (upd (sR X.1 1) q (nI 0))) 2 (upd (sR X.1 2) q (-nI 1))) 3 (upd (sR X.1 3) q (nI 0))) 4 (upd (sR X.1 4) q (nI 0))) 5 (upd (sR X.1 5) q (nI 0))) 6 (upd (sR X.1 6) q (nI 0))) 7 (upd (sR X.1 7) q (-nI 1))) 8 (upd (sR X.1 8) q (nI 0))) 10 (upd (sR X.1 10) q (nI 0))) := nm_r0 (pR (pR (pR (pR (pR (pR (pR (pR (pR X.1 1 (upd (sR X.1 1) q (nI 0))) 2 (upd (sR X.1 2) q (-nI 1))) 3 (upd (sR X.1 3) q (nI 0))) 4 (upd (sR X.1 4) q (nI 0))) 5 (upd (sR X.1 5) q (nI 0))) 6 (upd (sR X.1 6) q (nI 0))) 7 (upd (sR X.1 7) q (-nI 1))) 8 (upd (sR X.1 8) q (nI 0))) 10 (upd (sR X.1 10) q (nI 0))) 11
  have e13 : pR (pR (pR (pR (pR (pR (pR (pR (pR (pR (pR X.1 1 (upd (sR X.1 1) q (nI 0))) 2 (upd (sR X.1 2) q (-nI 1))) 3 (upd (sR X.1 3) q (nI 0))) 4 (upd (sR X.1 4) q (nI 0))) 5 (upd (sR X.1 5) q (nI 0))) 6 (upd (sR X.1 6) q (nI 0))) 7 (upd (sR X.1 7) q (-nI 1))) 8 (upd (sR X.1 8) q (nI 0))) 10 (upd (sR X.1 10) q (nI 0))) 12 (upd (sR X.1 12) q (nI 0))) 13 (sR X.1 13) = (pR (pR (pR (pR (pR (pR (pR (pR (pR (pR X.1 1 (upd (sR X.1 1) q (nI 0))) 2 (upd (sR X.1 2) q (-nI 1))) 3 (upd (sR X.1 3) q (nI 0))) 4 (upd (sR X.1 4) q (nI 0))) 5 (upd (sR X.1 5) q (nI 0))) 6 (upd (sR X.1 6) q (nI 0))) 7 (upd (sR X.1 7) q (-nI 1))) 8 (upd (sR X.1 8) q (nI 0))) 10 (upd (sR X.1 10) q (nI 0))) 12 (upd (sR X.1 12) q (nI 0))) := nm_r0 (pR (pR (pR (pR (pR (pR (pR (pR (pR (pR X.1 1 (upd (sR X.1 1) q (nI 0))) 2 (upd (sR X.1 2) q (-nI 1))) 3 (upd (sR X.1 3) q (nI 0))) 4 (upd (sR X.1 4) q (nI 0))) 5 (upd (sR X.1 5) q (nI 0))) 6 (upd (sR X.1 6) q (nI 0))) 7 (upd (sR X.1 7) q (-nI 1))) 8 (upd (sR X.1 8) q (nI 0))) 10 (upd (sR X.1 10) q (nI 0))) 12 (upd (sR X.1 12) q (nI 0))) 13
  have e14 : pR (pR (pR (pR (pR (pR (pR (pR (pR (pR (pR X.1 1 (upd (sR X.1 1) q (nI 0))) 2 (upd (sR X.1 2) q (-nI 1))) 3 (upd (sR X.1 3) q (nI 0))) 4 (upd (sR X.1 4) q (nI 0))) 5 (upd (sR X.1 5) q (nI 0))) 6 (upd (sR X.1 6) q (nI 0))) 7 (upd (sR X.1 7) q (-nI 1))) 8 (upd (sR X.1 8) q (nI 0))) 10 (upd (sR X.1 10) q (nI 0))) 12 (upd (sR X.1 12) q (nI 0))) 14 (sR X.1 14) = (pR (pR (pR (pR (pR (pR (pR (pR (pR (pR X.1 1 (upd (sR X.1 1) q (nI 0))) 2 (upd (sR X.1 2) q (-nI 1))) 3 (upd (sR X.1 3) q (nI 0))) 4 (upd (sR X.1 4) q (nI 0))) 5 (upd (sR X.1 5) q (nI 0))) 6 (upd (sR X.1 6) q (nI 0))) 7 (upd (sR X.1 7) q (-nI 1))) 8 (upd (sR X.1 8) q (nI 0))) 10 (upd (sR X.1 10) q (nI 0))) 12 (upd (sR X.1 12) q (nI 0))) := nm_r0 (pR (pR (pR (pR (pR (pR (pR (pR (pR (pR X.1 1 (upd (sR X.1 1) q (nI 0))) 2 (upd (sR X.1 2) q (-nI 1))) 3 (upd (sR X.1 3) q (nI 0))) 4 (upd (sR X.1 4) q (nI 0))) 5 (upd (sR X.1 5) q (nI 0))) 6 (upd (sR X.1 6) q (nI 0))) 7 (upd (sR X.1 7) q (-nI 1))) 8 (upd (sR X.1 8) q (nI 0))) 10 (upd (sR X.1 10) q (nI 0))) 12 (upd (sR X.1 12) q (nI 0))) 14
  rw [e9, e11, e13, e14]
  simp (disch := (first | assumption | decide | omega)) only [df_X16_begin, df_X16_begin_0, eq_self, Nat.reduceEqDiff, Nat.reduceLeDiff, nm_rc (a := 2) (b := 1) (by decide), nm_rc (a := 3) (b := 1) (by decide), nm_rc (a := 3) (b := 2) (by decide), nm_rc (a := 4) (b := 1) (by decide), nm_rc (a := 4) (b := 2) (by decide), nm_rc (a := 4) (b := 3) (by decide), nm_rc (a := 5) (b := 1) (by decide), nm_rc (a := 5) (b := 2) (by decide), nm_rc (a := 5) (b := 3) (by decide), nm_rc (a := 5) (b := 4) (by decide), nm_rc (a := 6) (b := 1) (by decide), nm_rc (a := 6) (b := 2) (by decide), nm_rc (a := 6) (b := 3) (by decide), nm_rc (a := 6) (b := 4) (by decide), nm_rc (a := 6) (b := 5) (by decide), nm_rc (a := 7) (b := 1) (by decide), nm_rc (a := 7) (b := 2) (by decide), nm_rc (a := 7) (b := 3) (by decide), nm_rc (a := 7) (b := 4) (by decide), nm_rc (a := 7) (b := 5) (by decide), nm_rc (a := 7) (b := 6) (by decide), nm_rc (a := 8) (b := 1) (by decide), nm_rc (a := 8) (b := 2) (by decide), nm_rc (a := 8) (b := 3) (by decide), nm_rc (a := 8) (b := 4) (by decide), nm_rc (a := 8) (b := 5) (by decide), nm_rc (a := 8) (b := 6) (by decide), nm_rc (a := 8) (b := 7) (by decide), nm_rc (a := 10) (b := 1) (by decide), nm_rc (a := 10) (b := 2) (by decide), nm_rc (a := 10) (b := 3) (by decide), nm_rc (a := 10) (b := 4) (by decide), nm_rc (a := 10) (b := 5) (by decide), nm_rc (a := 10) (b := 6) (by decide), nm_rc (a := 10) (b := 7) (by decide), nm_rc (a := 10) (b := 8) (by decide), nm_rc (a := 12) (b := 1) (by decide), nm_rc (a := 12) (b := 2) (by decide), nm_rc (a := 12) (b := 3) (by decide), nm_rc (a := 12) (b := 4) (by decide), nm_rc (a := 12) (b := 5) (by decide), nm_rc (a := 12) (b := 6) (by decide), nm_rc (a := 12) (b := 7) (by decide), nm_rc (a := 12) (b := 8) (by decide), nm_rc (a := 12) (b := 10) (by decide), nl_0, nl_1, nl_2, nl_3, nl_4, nl_5, nl_6, nl_7, nl_8, nl_10, nl_12, nl_16, no_1, no_1024, pk_mul, nI_add, nm_ck, nI_clamp, nI_ltI, nI_leI, nI_eq, nb_b2, nb_b1, ↓nb_let, nm_z0, nm_z1, nb_II, nb_IR, nb_RI, nb_RR, nm_IL, nm_IQ, nm_RL, nm_RQ, nm_LI, nm_LR, nm_LL, nm_LQ, nm_QI, nm_QR, nm_QL, nm_QQ, nm_rr, nm_ii, nm_eqm, not_false_eq_true, pk_sub, nm_div, nm_shl, nm_shr, nm_ush, nm_or8, nm_or64, nm_or256, nm_m1, nm_m3, nm_m7, nm_m15, nm_m31, nm_m63, nm_m255, nm_m511, nm_m1023, nm_m2047, nm_m65535, Nat.reduceMod, Nat.reducePow, Nat.reduceAdd, Nat.reduceSub, Nat.reduceMul, nm_bo, nm_bi, nm_rc, nm_ic, nm_ri, nm_rl, nm_rq, nm_ql, nm_qi, nm_li, nm_us, nm_uu, nm_cp, nm_sa31, nm_sa7, nm_m127, nm_m2, nm_nz, nm_nzk, nm_eq32, nm_nzf, if_true, if_false, ↓reduceIte, if_pos, if_neg]
theorem bg_1 (n : Nat) (hn : 1024 < n) (X : St × St) {q : Nat} (hq : q < 16) : df_X16_begin_81 n n (nI q) (nI 0) (bg X q 0 0) = df_X16_begin_119 n n (nI q) (nI 0) (bg X q 32 0) := by
  obtain ⟨m, hm⟩ := nm_lq (fun m k => df_X16_begin_81 n m (nI q) (nI k) (bg X q k 0)) 32 n (by omega) (fun k m hk => by
    have u1 : 32 * q + k < 512 := by omega
    have u2 : 32 * q + k < 2 ^ 31 := by omega
    have u3 : k < 2 ^ 31 := by omega
    have k32 : ¬ 32 ≤ k := by omega
    have f9 := fl_s (sR X.1 9) (32 * q) k (nI 0)
    have f11 := fl_s (sR X.1 11) (32 * q) k (nI 0)
    rw [show df_X16_begin_81 n (m + 1) = dF_X16_begin_81 n (df_X16_begin_81 n m) from rfl]
    unfold bg
    simp (disch := (first | assumption | decide | omega)) only [dF_X16_begin_81, k32, f9, f11, eq_self, Nat.reduceEqDiff, Nat.reduceLeDiff, nm_rc (a := 10) (b := 9) (by decide), nm_rc (a := 11) (b := 9) (by decide), nm_rc (a := 11) (b := 10) (by decide), nm_rc (a := 12) (b := 9) (by decide), nm_rc (a := 12) (b := 10) (by decide), nm_rc (a := 12) (b := 11) (by decide), nm_rc (a := 13) (b := 9) (by decide), nm_rc (a := 13) (b := 10) (by decide), nm_rc (a := 13) (b := 11) (by decide), nm_rc (a := 13) (b := 12) (by decide), nm_rc (a := 14) (b := 9) (by decide), nm_rc (a := 14) (b := 10) (by decide), nm_rc (a := 14) (b := 11) (by decide), nm_rc (a := 14) (b := 12) (by decide), nm_rc (a := 14) (b := 13) (by decide), nl_0, nl_1, nl_9, nl_11, nl_32, nl_512, no_1, no_1024, pk_mul, nI_add, nm_ck, nI_clamp, nI_ltI, nI_leI, nI_eq, nb_b2, nb_b1, ↓nb_let, nm_z0, nm_z1, nb_II, nb_IR, nb_RI, nb_RR, nm_IL, nm_IQ, nm_RL, nm_RQ, nm_LI, nm_LR, nm_LL, nm_LQ, nm_QI, nm_QR, nm_QL, nm_QQ, nm_rr, nm_ii, nm_eqm, not_false_eq_true, pk_sub, nm_div, nm_shl, nm_shr, nm_ush, nm_or8, nm_or64, nm_or256, nm_m1, nm_m3, nm_m7, nm_m15, nm_m31, nm_m63, nm_m255, nm_m511, nm_m1023, nm_m2047, nm_m65535, Nat.reduceMod, Nat.reducePow, Nat.reduceAdd, Nat.reduceSub, Nat.reduceMul, nm_bo, nm_bi, nm_rc, nm_ic, nm_ri, nm_rl, nm_rq, nm_ql, nm_qi, nm_li, nm_us, nm_uu, nm_cp, nm_sa31, nm_sa7, nm_m127, nm_m2, nm_nz, nm_nzk, nm_eq32, nm_nzf, if_true, if_false, ↓reduceIte, if_pos, if_neg])
  refine Eq.trans hm ?_
  rw [show df_X16_begin_81 n (m + 1) = dF_X16_begin_81 n (df_X16_begin_81 n m) from rfl]
  simp (disch := (first | assumption | decide | omega)) only [dF_X16_begin_81, eq_self, Nat.reduceEqDiff, Nat.reduceLeDiff, nl_0, nl_1, nl_9, nl_11, nl_32, nl_512, no_1, no_1024, pk_mul, nI_add, nm_ck, nI_clamp, nI_ltI, nI_leI, nI_eq, nb_b2, nb_b1, ↓nb_let, nm_z0, nm_z1, nb_II, nb_IR, nb_RI, nb_RR, nm_IL, nm_IQ, nm_RL, nm_RQ, nm_LI, nm_LR, nm_LL, nm_LQ, nm_QI, nm_QR, nm_QL, nm_QQ, nm_rr, nm_ii, nm_eqm, not_false_eq_true, pk_sub, nm_div, nm_shl, nm_shr, nm_ush, nm_or8, nm_or64, nm_or256, nm_m1, nm_m3, nm_m7, nm_m15, nm_m31, nm_m63, nm_m255, nm_m511, nm_m1023, nm_m2047, nm_m65535, Nat.reduceMod, Nat.reducePow, Nat.reduceAdd, Nat.reduceSub, Nat.reduceMul, nm_bo, nm_bi, nm_rc, nm_ic, nm_ri, nm_rl, nm_rq, nm_ql, nm_qi, nm_li, nm_us, nm_uu, nm_cp, nm_sa31, nm_sa7, nm_m127, nm_m2, nm_nz, nm_nzk, nm_eq32, nm_nzf, if_true, if_false, ↓reduceIte, if_pos, if_neg]
theorem bg_2 (n : Nat) (hn : 1024 < n) (X : St × St) {q : Nat} (hq : q < 16) : df_X16_begin_119 n n (nI q) (nI 0) (bg X q 32 0) = some (bg X q 32 16) := by
  obtain ⟨m, hm⟩ := nm_lq (fun m k => df_X16_begin_119 n m (nI q) (nI k) (bg X q 32 k)) 16 n (by omega) (fun k m hk => by
    have u1 : 16 * q + k < 256 := by omega
    have u2 : 16 * q + k < 2 ^ 31 := by omega
    have u3 : k < 2 ^ 31 := by omega
    have k16 : ¬ 16 ≤ k := by omega
    have f13 := fl_s (sR X.1 13) (16 * q) k (nI 0)
    have f14 := fl_s (sR X.1 14) (16 * q) k (-nI 1)
    rw [show df_X16_begin_119 n (m + 1) = dF_X16_begin_119 n (df_X16_begin_119 n m) from rfl]
    unfold bg
    simp (disch := (first | assumption | decide | omega)) only [dF_X16_begin_119, k16, f13, f14, eq_self, Nat.reduceEqDiff, Nat.reduceLeDiff, nm_rc (a := 14) (b := 13) (by decide), nl_0, nl_1, nl_13, nl_14, nl_16, nl_256, no_1, no_1024, pk_mul, nI_add, nm_ck, nI_clamp, nI_ltI, nI_leI, nI_eq, nb_b2, nb_b1, ↓nb_let, nm_z0, nm_z1, nb_II, nb_IR, nb_RI, nb_RR, nm_IL, nm_IQ, nm_RL, nm_RQ, nm_LI, nm_LR, nm_LL, nm_LQ, nm_QI, nm_QR, nm_QL, nm_QQ, nm_rr, nm_ii, nm_eqm, not_false_eq_true, pk_sub, nm_div, nm_shl, nm_shr, nm_ush, nm_or8, nm_or64, nm_or256, nm_m1, nm_m3, nm_m7, nm_m15, nm_m31, nm_m63, nm_m255, nm_m511, nm_m1023, nm_m2047, nm_m65535, Nat.reduceMod, Nat.reducePow, Nat.reduceAdd, Nat.reduceSub, Nat.reduceMul, nm_bo, nm_bi, nm_rc, nm_ic, nm_ri, nm_rl, nm_rq, nm_ql, nm_qi, nm_li, nm_us, nm_uu, nm_cp, nm_sa31, nm_sa7, nm_m127, nm_m2, nm_nz, nm_nzk, nm_eq32, nm_nzf, if_true, if_false, ↓reduceIte, if_pos, if_neg])
  refine Eq.trans hm ?_
  rw [show df_X16_begin_119 n (m + 1) = dF_X16_begin_119 n (df_X16_begin_119 n m) from rfl]
  simp (disch := (first | assumption | decide | omega)) only [dF_X16_begin_119, eq_self, Nat.reduceEqDiff, Nat.reduceLeDiff, nl_0, nl_1, nl_13, nl_14, nl_16, nl_256, no_1, no_1024, pk_mul, nI_add, nm_ck, nI_clamp, nI_ltI, nI_leI, nI_eq, nb_b2, nb_b1, ↓nb_let, nm_z0, nm_z1, nb_II, nb_IR, nb_RI, nb_RR, nm_IL, nm_IQ, nm_RL, nm_RQ, nm_LI, nm_LR, nm_LL, nm_LQ, nm_QI, nm_QR, nm_QL, nm_QQ, nm_rr, nm_ii, nm_eqm, not_false_eq_true, pk_sub, nm_div, nm_shl, nm_shr, nm_ush, nm_or8, nm_or64, nm_or256, nm_m1, nm_m3, nm_m7, nm_m15, nm_m31, nm_m63, nm_m255, nm_m511, nm_m1023, nm_m2047, nm_m65535, Nat.reduceMod, Nat.reducePow, Nat.reduceAdd, Nat.reduceSub, Nat.reduceMul, nm_bo, nm_bi, nm_rc, nm_ic, nm_ri, nm_rl, nm_rq, nm_ql, nm_qi, nm_li, nm_us, nm_uu, nm_cp, nm_sa31, nm_sa7, nm_m127, nm_m2, nm_nz, nm_nzk, nm_eq32, nm_nzf, if_true, if_false, ↓reduceIte, if_pos, if_neg]
theorem nk_begin (n : Nat) (hn : 1024 < n) (X : St × St) {q : Nat} (hq : q < 16) : df_X16_begin n (nI q) X = some (bg X q 32 16) := by
  rw [bg_0 n X hq, bg_1 n hn X hq, bg_2 n hn X hq]

/-- the first m places as g has them -/
def pcw (g f : Nat → Int32) (m : Nat) : Nat → Int32 := fun j => if j < m then g j else f j
theorem pcw_0 (g f : Nat → Int32) : pcw g f 0 = f := by
  funext j
  exact if_neg (by omega)
theorem pcw_s (g f : Nat → Int32) (m : Nat) : upd (pcw g f m) m (g m) = pcw g f (m + 1) := by
  funext j
  show (if j = m then g m else if j < m then g j else f j) = if j < m + 1 then g j else f j
  by_cases c : j = m
  · rw [if_pos c, if_pos (by omega), c]
  · rw [if_neg c]
    by_cases d : j < m
    · rw [if_pos d, if_pos (by omega)]
    · rw [if_neg d, if_neg (by omega)]
theorem pcw_n (g f : Nat → Int32) (m : Nat) : pcw g f m m = f m := if_neg (by omega)
theorem pcw_y (g f : Nat → Int32) {m j : Nat} (h : j < m) : pcw g f m j = g j := if_pos h
/-- how many descriptors are to an opening; how many openings of a sort there are to a thing -/
def cD (de : Nat → Int32) (o : Nat) : Nat := cN (fun i => decide (de i = nI o)) 256
def cE (kd th : Nat → Int32) (s k : Nat) : Nat := cN (fun i => decide (kd i = nI s ∧ th i = nI k)) 48
def gk (de kd : Nat → Int32) (o : Nat) : Int32 := if kd o ≤ nI 0 then nI 0 else if cD de o = 0 then nI 0 else kd o
def gp (kd th ip : Nat → Int32) (k : Nat) : Int32 := if ip k = nI 0 then nI 0 else if cE kd th 1 k + cE kd th 2 k = 0 then nI 0 else nI 1
def gf (kd th isf nam : Nat → Int32) (k : Nat) : Int32 := if isf k = nI 0 then nI 0 else if nam k = nI 0 then (if cE kd th 3 k = 0 then nI 0 else nI 1) else nI 1
theorem sw_1 (n : Nat) (hn : 1024 < n) (X : St × St) : df_X16_sweep n X = df_X16_sweep_49 n n (nI 0) (pR X.1 19 (pcw (gk (sR X.1 14) (sR X.1 19)) (sR X.1 19) 48), X.2) := by
  obtain ⟨m, hm⟩ := nm_lq (fun m k => df_X16_sweep_2 n m (nI k) (pR X.1 19 (pcw (gk (sR X.1 14) (sR X.1 19)) (sR X.1 19) k), X.2)) 48 n (by omega) (fun k m hk => by
    have u3 : k < 2 ^ 31 := by omega
    have k48 : ¬ 48 ≤ k := by omega
    have hd : df_X16_held n (nI k) (pR X.1 19 (pcw (gk (sR X.1 14) (sR X.1 19)) (sR X.1 19) k), X.2) = some (nI (cD (sR X.1 14) k), (pR X.1 19 (pcw (gk (sR X.1 14) (sR X.1 19)) (sR X.1 19) k), X.2)) := nb_heldN n (by omega) k _
    have cl : cD (sR X.1 14) k ≤ 256 := cN_le _ _
    have ps := pcw_s (gk (sR X.1 14) (sR X.1 19)) (sR X.1 19) k
    have pn := pcw_n (gk (sR X.1 14) (sR X.1 19)) (sR X.1 19) k
    have eg : gk (sR X.1 14) (sR X.1 19) k = if sR X.1 19 k ≤ nI 0 then nI 0 else if cD (sR X.1 14) k = 0 then nI 0 else sR X.1 19 k := rfl
    rw [eg] at ps
    generalize gk (sR X.1 14) (sR X.1 19) = G at hd ps pn ⊢
    generalize cD (sR X.1 14) k = ct at hd cl ps
    have u4 : ct < 2 ^ 31 := by omega
    rw [show df_X16_sweep_2 n (m + 1) = dF_X16_sweep_2 n (df_X16_sweep_2 n m) from rfl]
    by_cases c1 : sR X.1 19 k ≤ nI 0
    · rw [if_pos c1] at ps
      simp (disch := (first | assumption | decide | omega)) only [dF_X16_sweep_2, df_X16_sweep_39, df_X16_sweep_40, k48, pn, c1, ps, eq_self, Nat.reduceEqDiff, Nat.reduceLeDiff, nl_0, nl_1, nl_19, nl_48, no_1, no_1024, pk_mul, nI_add, nm_ck, nI_clamp, nI_ltI, nI_leI, nI_eq, nb_b2, nb_b1, ↓nb_let, nm_z0, nm_z1, nb_II, nb_IR, nb_RI, nb_RR, nm_IL, nm_IQ, nm_RL, nm_RQ, nm_LI, nm_LR, nm_LL, nm_LQ, nm_QI, nm_QR, nm_QL, nm_QQ, nm_rr, nm_ii, nm_eqm, not_false_eq_true, pk_sub, nm_div, nm_shl, nm_shr, nm_ush, nm_or8, nm_or64, nm_or256, nm_m1, nm_m3, nm_m7, nm_m15, nm_m31, nm_m63, nm_m255, nm_m511, nm_m1023, nm_m2047, nm_m65535, Nat.reduceMod, Nat.reducePow, Nat.reduceAdd, Nat.reduceSub, Nat.reduceMul, nm_bo, nm_bi, nm_rc, nm_ic, nm_ri, nm_rl, nm_rq, nm_ql, nm_qi, nm_li, nm_us, nm_uu, nm_cp, nm_sa31, nm_sa7, nm_m127, nm_m2, nm_nz, nm_nzk, nm_eq32, nm_nzf, if_true, if_false, ↓reduceIte, if_pos, if_neg]
    · rw [if_neg c1] at ps
      by_cases c2 : ct = 0
      · rw [if_pos c2] at ps
        have c2' : ct ≤ 0 := by omega
        simp (disch := (first | assumption | decide | omega)) only [dF_X16_sweep_2, df_X16_sweep_39, df_X16_sweep_40, k48, pn, c1, hd, c2', ps, eq_self, Nat.reduceEqDiff, Nat.reduceLeDiff, nl_0, nl_1, nl_19, nl_48, no_1, no_1024, pk_mul, nI_add, nm_ck, nI_clamp, nI_ltI, nI_leI, nI_eq, nb_b2, nb_b1, ↓nb_let, nm_z0, nm_z1, nb_II, nb_IR, nb_RI, nb_RR, nm_IL, nm_IQ, nm_RL, nm_RQ, nm_LI, nm_LR, nm_LL, nm_LQ, nm_QI, nm_QR, nm_QL, nm_QQ, nm_rr, nm_ii, nm_eqm, not_false_eq_true, pk_sub, nm_div, nm_shl, nm_shr, nm_ush, nm_or8, nm_or64, nm_or256, nm_m1, nm_m3, nm_m7, nm_m15, nm_m31, nm_m63, nm_m255, nm_m511, nm_m1023, nm_m2047, nm_m65535, Nat.reduceMod, Nat.reducePow, Nat.reduceAdd, Nat.reduceSub, Nat.reduceMul, nm_bo, nm_bi, nm_rc, nm_ic, nm_ri, nm_rl, nm_rq, nm_ql, nm_qi, nm_li, nm_us, nm_uu, nm_cp, nm_sa31, nm_sa7, nm_m127, nm_m2, nm_nz, nm_nzk, nm_eq32, nm_nzf, if_true, if_false, ↓reduceIte, if_pos, if_neg]
      · rw [if_neg c2] at ps
        have c2' : ¬ ct ≤ 0 := by omega
        simp (disch := (first | assumption | decide | omega)) only [dF_X16_sweep_2, df_X16_sweep_39, df_X16_sweep_40, k48, pn, c1, hd, c2', ps, eq_self, Nat.reduceEqDiff, Nat.reduceLeDiff, nl_0, nl_1, nl_19, nl_48, no_1, no_1024, pk_mul, nI_add, nm_ck, nI_clamp, nI_ltI, nI_leI, nI_eq, nb_b2, nb_b1, ↓nb_let, nm_z0, nm_z1, nb_II, nb_IR, nb_RI, nb_RR, nm_IL, nm_IQ, nm_RL, nm_RQ, nm_LI, nm_LR, nm_LL, nm_LQ, nm_QI, nm_QR, nm_QL, nm_QQ, nm_rr, nm_ii, nm_eqm, not_false_eq_true, pk_sub, nm_div, nm_shl, nm_shr, nm_ush, nm_or8, nm_or64, nm_or256, nm_m1, nm_m3, nm_m7, nm_m15, nm_m31, nm_m63, nm_m255, nm_m511, nm_m1023, nm_m2047, nm_m65535, Nat.reduceMod, Nat.reducePow, Nat.reduceAdd, Nat.reduceSub, Nat.reduceMul, nm_bo, nm_bi, nm_rc, nm_ic, nm_ri, nm_rl, nm_rq, nm_ql, nm_qi, nm_li, nm_us, nm_uu, nm_cp, nm_sa31, nm_sa7, nm_m127, nm_m2, nm_nz, nm_nzk, nm_eq32, nm_nzf, if_true, if_false, ↓reduceIte, if_pos, if_neg])
  rw [pcw_0, nm_r0] at hm
  refine Eq.trans hm ?_
  rw [show df_X16_sweep_2 n (m + 1) = dF_X16_sweep_2 n (df_X16_sweep_2 n m) from rfl]
  simp (disch := (first | assumption | decide | omega)) only [dF_X16_sweep_2, eq_self, Nat.reduceEqDiff, Nat.reduceLeDiff, nl_0, nl_19, nl_48, no_1, no_1024, pk_mul, nI_add, nm_ck, nI_clamp, nI_ltI, nI_leI, nI_eq, nb_b2, nb_b1, ↓nb_let, nm_z0, nm_z1, nb_II, nb_IR, nb_RI, nb_RR, nm_IL, nm_IQ, nm_RL, nm_RQ, nm_LI, nm_LR, nm_LL, nm_LQ, nm_QI, nm_QR, nm_QL, nm_QQ, nm_rr, nm_ii, nm_eqm, not_false_eq_true, pk_sub, nm_div, nm_shl, nm_shr, nm_ush, nm_or8, nm_or64, nm_or256, nm_m1, nm_m3, nm_m7, nm_m15, nm_m31, nm_m63, nm_m255, nm_m511, nm_m1023, nm_m2047, nm_m65535, Nat.reduceMod, Nat.reducePow, Nat.reduceAdd, Nat.reduceSub, Nat.reduceMul, nm_bo, nm_bi, nm_rc, nm_ic, nm_ri, nm_rl, nm_rq, nm_ql, nm_qi, nm_li, nm_us, nm_uu, nm_cp, nm_sa31, nm_sa7, nm_m127, nm_m2, nm_nz, nm_nzk, nm_eq32, nm_nzf, if_true, if_false, ↓reduceIte, if_pos, if_neg]
theorem sw_2 (n : Nat) (hn : 1024 < n) (X : St × St) : df_X16_sweep_49 n n (nI 0) X = df_X16_sweep_99 n n (nI 0) (pR X.1 23 (pcw (gp (sR X.1 19) (sR X.1 20) (sR X.1 23)) (sR X.1 23) 8), X.2) := by
  obtain ⟨m, hm⟩ := nm_lq (fun m k => df_X16_sweep_49 n m (nI k) (pR X.1 23 (pcw (gp (sR X.1 19) (sR X.1 20) (sR X.1 23)) (sR X.1 23) k), X.2)) 8 n (by omega) (fun k m hk => by
    have u3 : k < 2 ^ 31 := by omega
    have k8 : ¬ 8 ≤ k := by omega
    have en : ∀ s : Nat, df_X16_ends n (nI s) (nI k) (pR X.1 23 (pcw (gp (sR X.1 19) (sR X.1 20) (sR X.1 23)) (sR X.1 23) k), X.2) = some (nI (cE (sR X.1 19) (sR X.1 20) s k), (pR X.1 23 (pcw (gp (sR X.1 19) (sR X.1 20) (sR X.1 23)) (sR X.1 23) k), X.2)) := fun s => nb_ends n (by omega) (nI s) (nI k) _
    have en1 := en 1
    have en2 := en 2
    have l1 : cE (sR X.1 19) (sR X.1 20) 1 k ≤ 48 := cN_le _ _
    have l2 : cE (sR X.1 19) (sR X.1 20) 2 k ≤ 48 := cN_le _ _
    have ps := pcw_s (gp (sR X.1 19) (sR X.1 20) (sR X.1 23)) (sR X.1 23) k
    have pn := pcw_n (gp (sR X.1 19) (sR X.1 20) (sR X.1 23)) (sR X.1 23) k
    have eg : gp (sR X.1 19) (sR X.1 20) (sR X.1 23) k = if sR X.1 23 k = nI 0 then nI 0 else if cE (sR X.1 19) (sR X.1 20) 1 k + cE (sR X.1 19) (sR X.1 20) 2 k = 0 then nI 0 else nI 1 := rfl
    rw [eg] at ps
    clear en eg
    generalize gp (sR X.1 19) (sR X.1 20) (sR X.1 23) = G at en1 en2 ps pn ⊢
    generalize cE (sR X.1 19) (sR X.1 20) 1 k = x1 at en1 l1 ps
    generalize cE (sR X.1 19) (sR X.1 20) 2 k = x2 at en2 l2 ps
    have u4 : x1 + x2 < 2 ^ 31 := by omega
    rw [show df_X16_sweep_49 n (m + 1) = dF_X16_sweep_49 n (df_X16_sweep_49 n m) from rfl]
    by_cases c1 : sR X.1 23 k = nI 0
    · rw [if_pos c1] at ps
      simp (disch := (first | assumption | decide | omega)) only [dF_X16_sweep_49, df_X16_sweep_89, df_X16_sweep_90, k8, pn, c1, ps, eq_self, Nat.reduceEqDiff, Nat.reduceLeDiff, nl_0, nl_1, nl_2, nl_8, nl_23, no_1, no_1024, pk_mul, nI_add, nm_ck, nI_clamp, nI_ltI, nI_leI, nI_eq, nb_b2, nb_b1, ↓nb_let, nm_z0, nm_z1, nb_II, nb_IR, nb_RI, nb_RR, nm_IL, nm_IQ, nm_RL, nm_RQ, nm_LI, nm_LR, nm_LL, nm_LQ, nm_QI, nm_QR, nm_QL, nm_QQ, nm_rr, nm_ii, nm_eqm, not_false_eq_true, pk_sub, nm_div, nm_shl, nm_shr, nm_ush, nm_or8, nm_or64, nm_or256, nm_m1, nm_m3, nm_m7, nm_m15, nm_m31, nm_m63, nm_m255, nm_m511, nm_m1023, nm_m2047, nm_m65535, Nat.reduceMod, Nat.reducePow, Nat.reduceAdd, Nat.reduceSub, Nat.reduceMul, nm_bo, nm_bi, nm_rc, nm_ic, nm_ri, nm_rl, nm_rq, nm_ql, nm_qi, nm_li, nm_us, nm_uu, nm_cp, nm_sa31, nm_sa7, nm_m127, nm_m2, nm_nz, nm_nzk, nm_eq32, nm_nzf, if_true, if_false, ↓reduceIte, if_pos, if_neg]
    · rw [if_neg c1] at ps
      by_cases c2 : x1 + x2 = 0
      · rw [if_pos c2] at ps
        have c2' : x1 + x2 ≤ 0 := by omega
        simp (disch := (first | assumption | decide | omega)) only [dF_X16_sweep_49, df_X16_sweep_89, df_X16_sweep_90, k8, pn, c1, en1, en2, c2', ps, eq_self, Nat.reduceEqDiff, Nat.reduceLeDiff, nl_0, nl_1, nl_2, nl_8, nl_23, no_1, no_1024, pk_mul, nI_add, nm_ck, nI_clamp, nI_ltI, nI_leI, nI_eq, nb_b2, nb_b1, ↓nb_let, nm_z0, nm_z1, nb_II, nb_IR, nb_RI, nb_RR, nm_IL, nm_IQ, nm_RL, nm_RQ, nm_LI, nm_LR, nm_LL, nm_LQ, nm_QI, nm_QR, nm_QL, nm_QQ, nm_rr, nm_ii, nm_eqm, not_false_eq_true, pk_sub, nm_div, nm_shl, nm_shr, nm_ush, nm_or8, nm_or64, nm_or256, nm_m1, nm_m3, nm_m7, nm_m15, nm_m31, nm_m63, nm_m255, nm_m511, nm_m1023, nm_m2047, nm_m65535, Nat.reduceMod, Nat.reducePow, Nat.reduceAdd, Nat.reduceSub, Nat.reduceMul, nm_bo, nm_bi, nm_rc, nm_ic, nm_ri, nm_rl, nm_rq, nm_ql, nm_qi, nm_li, nm_us, nm_uu, nm_cp, nm_sa31, nm_sa7, nm_m127, nm_m2, nm_nz, nm_nzk, nm_eq32, nm_nzf, if_true, if_false, ↓reduceIte, if_pos, if_neg]
      · rw [if_neg c2] at ps
        have c2' : ¬ x1 + x2 ≤ 0 := by omega
        simp (disch := (first | assumption | decide | omega)) only [dF_X16_sweep_49, df_X16_sweep_89, df_X16_sweep_90, k8, pn, c1, en1, en2, c2', ps, eq_self, Nat.reduceEqDiff, Nat.reduceLeDiff, nl_0, nl_1, nl_2, nl_8, nl_23, no_1, no_1024, pk_mul, nI_add, nm_ck, nI_clamp, nI_ltI, nI_leI, nI_eq, nb_b2, nb_b1, ↓nb_let, nm_z0, nm_z1, nb_II, nb_IR, nb_RI, nb_RR, nm_IL, nm_IQ, nm_RL, nm_RQ, nm_LI, nm_LR, nm_LL, nm_LQ, nm_QI, nm_QR, nm_QL, nm_QQ, nm_rr, nm_ii, nm_eqm, not_false_eq_true, pk_sub, nm_div, nm_shl, nm_shr, nm_ush, nm_or8, nm_or64, nm_or256, nm_m1, nm_m3, nm_m7, nm_m15, nm_m31, nm_m63, nm_m255, nm_m511, nm_m1023, nm_m2047, nm_m65535, Nat.reduceMod, Nat.reducePow, Nat.reduceAdd, Nat.reduceSub, Nat.reduceMul, nm_bo, nm_bi, nm_rc, nm_ic, nm_ri, nm_rl, nm_rq, nm_ql, nm_qi, nm_li, nm_us, nm_uu, nm_cp, nm_sa31, nm_sa7, nm_m127, nm_m2, nm_nz, nm_nzk, nm_eq32, nm_nzf, if_true, if_false, ↓reduceIte, if_pos, if_neg])
  rw [pcw_0, nm_r0] at hm
  refine Eq.trans hm ?_
  rw [show df_X16_sweep_49 n (m + 1) = dF_X16_sweep_49 n (df_X16_sweep_49 n m) from rfl]
  simp (disch := (first | assumption | decide | omega)) only [dF_X16_sweep_49, eq_self, Nat.reduceEqDiff, Nat.reduceLeDiff, nl_0, nl_1, nl_2, nl_8, nl_23, no_1, no_1024, pk_mul, nI_add, nm_ck, nI_clamp, nI_ltI, nI_leI, nI_eq, nb_b2, nb_b1, ↓nb_let, nm_z0, nm_z1, nb_II, nb_IR, nb_RI, nb_RR, nm_IL, nm_IQ, nm_RL, nm_RQ, nm_LI, nm_LR, nm_LL, nm_LQ, nm_QI, nm_QR, nm_QL, nm_QQ, nm_rr, nm_ii, nm_eqm, not_false_eq_true, pk_sub, nm_div, nm_shl, nm_shr, nm_ush, nm_or8, nm_or64, nm_or256, nm_m1, nm_m3, nm_m7, nm_m15, nm_m31, nm_m63, nm_m255, nm_m511, nm_m1023, nm_m2047, nm_m65535, Nat.reduceMod, Nat.reducePow, Nat.reduceAdd, Nat.reduceSub, Nat.reduceMul, nm_bo, nm_bi, nm_rc, nm_ic, nm_ri, nm_rl, nm_rq, nm_ql, nm_qi, nm_li, nm_us, nm_uu, nm_cp, nm_sa31, nm_sa7, nm_m127, nm_m2, nm_nz, nm_nzk, nm_eq32, nm_nzf, if_true, if_false, ↓reduceIte, if_pos, if_neg]
theorem sw_3 (n : Nat) (hn : 1024 < n) (X : St × St) : df_X16_sweep_99 n n (nI 0) X = some (pR X.1 24 (pcw (gf (sR X.1 19) (sR X.1 20) (sR X.1 24) (sR X.1 25)) (sR X.1 24) 16), X.2) := by
  obtain ⟨m, hm⟩ := nm_lq (fun m k => df_X16_sweep_99 n m (nI k) (pR X.1 24 (pcw (gf (sR X.1 19) (sR X.1 20) (sR X.1 24) (sR X.1 25)) (sR X.1 24) k), X.2)) 16 n (by omega) (fun k m hk => by
    have u3 : k < 2 ^ 31 := by omega
    have k16 : ¬ 16 ≤ k := by omega
    have en3 : df_X16_ends n (nI 3) (nI k) (pR X.1 24 (pcw (gf (sR X.1 19) (sR X.1 20) (sR X.1 24) (sR X.1 25)) (sR X.1 24) k), X.2) = some (nI (cE (sR X.1 19) (sR X.1 20) 3 k), (pR X.1 24 (pcw (gf (sR X.1 19) (sR X.1 20) (sR X.1 24) (sR X.1 25)) (sR X.1 24) k), X.2)) := nb_ends n (by omega) (nI 3) (nI k) _
    have l3 : cE (sR X.1 19) (sR X.1 20) 3 k ≤ 48 := cN_le _ _
    have ps := pcw_s (gf (sR X.1 19) (sR X.1 20) (sR X.1 24) (sR X.1 25)) (sR X.1 24) k
    have pn := pcw_n (gf (sR X.1 19) (sR X.1 20) (sR X.1 24) (sR X.1 25)) (sR X.1 24) k
    have eg : gf (sR X.1 19) (sR X.1 20) (sR X.1 24) (sR X.1 25) k = if sR X.1 24 k = nI 0 then nI 0 else if sR X.1 25 k = nI 0 then (if cE (sR X.1 19) (sR X.1 20) 3 k = 0 then nI 0 else nI 1) else nI 1 := rfl
    rw [eg] at ps
    clear eg
    generalize gf (sR X.1 19) (sR X.1 20) (sR X.1 24) (sR X.1 25) = G at en3 ps pn ⊢
    generalize cE (sR X.1 19) (sR X.1 20) 3 k = x3 at en3 l3 ps
    have u4 : x3 < 2 ^ 31 := by omega
    rw [show df_X16_sweep_99 n (m + 1) = dF_X16_sweep_99 n (df_X16_sweep_99 n m) from rfl]
    by_cases c1 : sR X.1 24 k = nI 0
    · rw [if_pos c1] at ps
      simp (disch := (first | assumption | decide | omega)) only [dF_X16_sweep_99, df_X16_sweep_137, df_X16_sweep_141, df_X16_sweep_142, k16, pn, c1, ps, eq_self, Nat.reduceEqDiff, Nat.reduceLeDiff, nl_0, nl_1, nl_3, nl_16, nl_24, nl_25, no_1, no_1024, pk_mul, nI_add, nm_ck, nI_clamp, nI_ltI, nI_leI, nI_eq, nb_b2, nb_b1, ↓nb_let, nm_z0, nm_z1, nb_II, nb_IR, nb_RI, nb_RR, nm_IL, nm_IQ, nm_RL, nm_RQ, nm_LI, nm_LR, nm_LL, nm_LQ, nm_QI, nm_QR, nm_QL, nm_QQ, nm_rr, nm_ii, nm_eqm, not_false_eq_true, pk_sub, nm_div, nm_shl, nm_shr, nm_ush, nm_or8, nm_or64, nm_or256, nm_m1, nm_m3, nm_m7, nm_m15, nm_m31, nm_m63, nm_m255, nm_m511, nm_m1023, nm_m2047, nm_m65535, Nat.reduceMod, Nat.reducePow, Nat.reduceAdd, Nat.reduceSub, Nat.reduceMul, nm_bo, nm_bi, nm_rc, nm_ic, nm_ri, nm_rl, nm_rq, nm_ql, nm_qi, nm_li, nm_us, nm_uu, nm_cp, nm_sa31, nm_sa7, nm_m127, nm_m2, nm_nz, nm_nzk, nm_eq32, nm_nzf, if_true, if_false, ↓reduceIte, if_pos, if_neg]
    · rw [if_neg c1] at ps
      by_cases c0 : sR X.1 25 k = nI 0
      · rw [if_pos c0] at ps
        by_cases c2 : x3 = 0
        · rw [if_pos c2] at ps
          have c2' : x3 ≤ 0 := by omega
          simp (disch := (first | assumption | decide | omega)) only [dF_X16_sweep_99, df_X16_sweep_137, df_X16_sweep_141, df_X16_sweep_142, k16, pn, c1, c0, en3, c2', ps, eq_self, Nat.reduceEqDiff, Nat.reduceLeDiff, nl_0, nl_1, nl_3, nl_16, nl_24, nl_25, no_1, no_1024, pk_mul, nI_add, nm_ck, nI_clamp, nI_ltI, nI_leI, nI_eq, nb_b2, nb_b1, ↓nb_let, nm_z0, nm_z1, nb_II, nb_IR, nb_RI, nb_RR, nm_IL, nm_IQ, nm_RL, nm_RQ, nm_LI, nm_LR, nm_LL, nm_LQ, nm_QI, nm_QR, nm_QL, nm_QQ, nm_rr, nm_ii, nm_eqm, not_false_eq_true, pk_sub, nm_div, nm_shl, nm_shr, nm_ush, nm_or8, nm_or64, nm_or256, nm_m1, nm_m3, nm_m7, nm_m15, nm_m31, nm_m63, nm_m255, nm_m511, nm_m1023, nm_m2047, nm_m65535, Nat.reduceMod, Nat.reducePow, Nat.reduceAdd, Nat.reduceSub, Nat.reduceMul, nm_bo, nm_bi, nm_rc, nm_ic, nm_ri, nm_rl, nm_rq, nm_ql, nm_qi, nm_li, nm_us, nm_uu, nm_cp, nm_sa31, nm_sa7, nm_m127, nm_m2, nm_nz, nm_nzk, nm_eq32, nm_nzf, if_true, if_false, ↓reduceIte, if_pos, if_neg]
        · rw [if_neg c2] at ps
          have c2' : ¬ x3 ≤ 0 := by omega
          simp (disch := (first | assumption | decide | omega)) only [dF_X16_sweep_99, df_X16_sweep_137, df_X16_sweep_141, df_X16_sweep_142, k16, pn, c1, c0, en3, c2', ps, eq_self, Nat.reduceEqDiff, Nat.reduceLeDiff, nl_0, nl_1, nl_3, nl_16, nl_24, nl_25, no_1, no_1024, pk_mul, nI_add, nm_ck, nI_clamp, nI_ltI, nI_leI, nI_eq, nb_b2, nb_b1, ↓nb_let, nm_z0, nm_z1, nb_II, nb_IR, nb_RI, nb_RR, nm_IL, nm_IQ, nm_RL, nm_RQ, nm_LI, nm_LR, nm_LL, nm_LQ, nm_QI, nm_QR, nm_QL, nm_QQ, nm_rr, nm_ii, nm_eqm, not_false_eq_true, pk_sub, nm_div, nm_shl, nm_shr, nm_ush, nm_or8, nm_or64, nm_or256, nm_m1, nm_m3, nm_m7, nm_m15, nm_m31, nm_m63, nm_m255, nm_m511, nm_m1023, nm_m2047, nm_m65535, Nat.reduceMod, Nat.reducePow, Nat.reduceAdd, Nat.reduceSub, Nat.reduceMul, nm_bo, nm_bi, nm_rc, nm_ic, nm_ri, nm_rl, nm_rq, nm_ql, nm_qi, nm_li, nm_us, nm_uu, nm_cp, nm_sa31, nm_sa7, nm_m127, nm_m2, nm_nz, nm_nzk, nm_eq32, nm_nzf, if_true, if_false, ↓reduceIte, if_pos, if_neg]
      · rw [if_neg c0] at ps
        simp (disch := (first | assumption | decide | omega)) only [dF_X16_sweep_99, df_X16_sweep_137, df_X16_sweep_141, df_X16_sweep_142, k16, pn, c1, c0, ps, eq_self, Nat.reduceEqDiff, Nat.reduceLeDiff, nl_0, nl_1, nl_3, nl_16, nl_24, nl_25, no_1, no_1024, pk_mul, nI_add, nm_ck, nI_clamp, nI_ltI, nI_leI, nI_eq, nb_b2, nb_b1, ↓nb_let, nm_z0, nm_z1, nb_II, nb_IR, nb_RI, nb_RR, nm_IL, nm_IQ, nm_RL, nm_RQ, nm_LI, nm_LR, nm_LL, nm_LQ, nm_QI, nm_QR, nm_QL, nm_QQ, nm_rr, nm_ii, nm_eqm, not_false_eq_true, pk_sub, nm_div, nm_shl, nm_shr, nm_ush, nm_or8, nm_or64, nm_or256, nm_m1, nm_m3, nm_m7, nm_m15, nm_m31, nm_m63, nm_m255, nm_m511, nm_m1023, nm_m2047, nm_m65535, Nat.reduceMod, Nat.reducePow, Nat.reduceAdd, Nat.reduceSub, Nat.reduceMul, nm_bo, nm_bi, nm_rc, nm_ic, nm_ri, nm_rl, nm_rq, nm_ql, nm_qi, nm_li, nm_us, nm_uu, nm_cp, nm_sa31, nm_sa7, nm_m127, nm_m2, nm_nz, nm_nzk, nm_eq32, nm_nzf, if_true, if_false, ↓reduceIte, if_pos, if_neg])
  rw [pcw_0, nm_r0] at hm
  refine Eq.trans hm ?_
  rw [show df_X16_sweep_99 n (m + 1) = dF_X16_sweep_99 n (df_X16_sweep_99 n m) from rfl]
  simp (disch := (first | assumption | decide | omega)) only [dF_X16_sweep_99, eq_self, Nat.reduceEqDiff, Nat.reduceLeDiff, nl_0, nl_3, nl_16, nl_24, nl_25, no_1, no_1024, pk_mul, nI_add, nm_ck, nI_clamp, nI_ltI, nI_leI, nI_eq, nb_b2, nb_b1, ↓nb_let, nm_z0, nm_z1, nb_II, nb_IR, nb_RI, nb_RR, nm_IL, nm_IQ, nm_RL, nm_RQ, nm_LI, nm_LR, nm_LL, nm_LQ, nm_QI, nm_QR, nm_QL, nm_QQ, nm_rr, nm_ii, nm_eqm, not_false_eq_true, pk_sub, nm_div, nm_shl, nm_shr, nm_ush, nm_or8, nm_or64, nm_or256, nm_m1, nm_m3, nm_m7, nm_m15, nm_m31, nm_m63, nm_m255, nm_m511, nm_m1023, nm_m2047, nm_m65535, Nat.reduceMod, Nat.reducePow, Nat.reduceAdd, Nat.reduceSub, Nat.reduceMul, nm_bo, nm_bi, nm_rc, nm_ic, nm_ri, nm_rl, nm_rq, nm_ql, nm_qi, nm_li, nm_us, nm_uu, nm_cp, nm_sa31, nm_sa7, nm_m127, nm_m2, nm_nz, nm_nzk, nm_eq32, nm_nzf, if_true, if_false, ↓reduceIte, if_pos, if_neg]
/-- what the reference sweeps away -/
theorem nk_sweep (n : Nat) (hn : 1024 < n) (X : St × St) : df_X16_sweep n X = some (pR (pR (pR X.1 19 (pcw (gk (sR X.1 14) (sR X.1 19)) (sR X.1 19) 48)) 23 (pcw (gp (pcw (gk (sR X.1 14) (sR X.1 19)) (sR X.1 19) 48) (sR X.1 20) (sR X.1 23)) (sR X.1 23) 8)) 24 (pcw (gf (pcw (gk (sR X.1 14) (sR X.1 19)) (sR X.1 19) 48) (sR X.1 20) (sR X.1 24) (sR X.1 25)) (sR X.1 24) 16), X.2) := by
  rw [sw_1 n hn, sw_2 n hn, sw_3 n hn]
  rfl

/-- descriptors, openings, pipes' and files' ends: both -/
def rD (l op pi fi de kd th po rt ip isf nam : Nat → Int32) : Prop := (∀ i : Nat, i < 256 → (de i = -nI 1 ∧ l i = nI 0) ∨ ∃ o : Nat, o < 48 ∧ de i = nI o ∧ l i = nI (o + 1)) ∧ (∀ o : Nat, o < 48 → (kd o = nI 0 ∧ op (o * 5) = nI 0 ∧ cD de o = 0) ∨ ∃ k t : Nat, 1 ≤ k ∧ k ≤ 4 ∧ 0 < cD de o ∧ kd o = nI k ∧ op (o * 5) = nI k ∧ op (o * 5 + 1) = nI (cD de o) ∧ th o = nI t ∧ op (o * 5 + 2) = nI t ∧ (k ≤ 2 → t < 8) ∧ t < 16 ∧ op (o * 5 + 4) = rt o ∧ (k = 3 → op (o * 5 + 3) = po o) ∧ (k ≠ 3 → op (o * 5 + 3) = nI 0) ∧ (∃ r : Nat, r < 8 ∧ rt o = nI r ∧ (k = 1 → r = 1) ∧ (k = 2 → r = 2)) ∧ (k = 3 → ∃ x : Nat, x ≤ 512 ∧ po o = nI x)) ∧ (∀ k : Nat, k < 8 → pi (k * 4 + 1) = nI (cE kd th 1 k) ∧ pi (k * 4 + 2) = nI (cE kd th 2 k) ∧ ip k = bI (decide (0 < cE kd th 1 k + cE kd th 2 k))) ∧ (∀ k : Nat, k < 16 → fi (k * 3 + 1) = nI (cE kd th 3 k) ∧ okB (nam k) ∧ fi (k * 3 + 2) = nam k ∧ isf k = bI (decide (nam k = nI 1 ∨ 0 < cE kd th 3 k)))
theorem cD_le (de : Nat → Int32) (o : Nat) : cD de o ≤ 256 := cN_le _ _
theorem cE_le (kd th : Nat → Int32) (s k : Nat) : cE kd th s k ≤ 48 := cN_le _ _
theorem cD_ch (de : Nat → Int32) {i : Nat} (v : Int32) (hi : i < 256) (a : Nat) : cD (upd de i v) a + (decide (de i = nI a)).toNat = cD de a + (decide (v = nI a)).toNat := by
  have := cN_u (P := fun j => decide (de j = nI a)) (Q := fun j => decide (upd de i v j = nI a)) (j := i) (fun j hj => by rw [nm_un hj]) (N := 256) hi
  rw [nm_us] at this
  exact this
theorem cD_leave {de : Nat → Int32} {i o : Nat} (hi : i < 256) (ho : o < 48) (e : de i = nI o) : (∀ a : Nat, a < 48 → a ≠ o → cD (upd de i (-nI 1)) a = cD de a) ∧ cD (upd de i (-nI 1)) o + 1 = cD de o := by
  refine ⟨fun a ha hne => ?_, ?_⟩
  · have := cD_ch de (-nI 1) hi a
    rw [nm_df (show ¬ de i = nI a from fun z => hne (nm_inI (by omega) (by omega) (by rw [← z, e]))), nm_df (show ¬ (-nI 1 : Int32) = nI a from fun z => nk_ne (by omega) z.symm)] at this
    omega
  · have := cD_ch de (-nI 1) hi o
    rw [nm_dt e, nm_df (show ¬ (-nI 1 : Int32) = nI o from fun z => nk_ne (by omega) z.symm)] at this
    omega
/-- the kinds once it is swept -/
theorem gk_is {de kd : Nat → Int32} {o k : Nat} (hk : k ≤ 4) (e : kd o = nI k) : gk de kd o = if cD de o = 0 then nI 0 else nI k := by
  unfold gk
  rw [e]
  by_cases c : k = 0
  · subst c
    rw [if_pos (show (nI 0 : Int32) ≤ nI 0 by decide)]
    by_cases d : cD de o = 0
    · rw [if_pos d]
    · rw [if_neg d]
  · rw [if_neg (show ¬ nI k ≤ nI 0 from fun z => c ((nm_nle0 (by omega)).mp z))]
theorem gp_is {kd th ip : Nat → Int32} {k a : Nat} (e : ip k = bI (decide (0 < a))) (h : cE kd th 1 k + cE kd th 2 k ≤ a) : gp kd th ip k = bI (decide (0 < cE kd th 1 k + cE kd th 2 k)) := by
  unfold gp
  rw [e]
  generalize cE kd th 1 k + cE kd th 2 k = x at h ⊢
  by_cases c : 0 < a
  · rw [decide_eq_true c, if_neg (show ¬ bI true = nI 0 by decide)]
    by_cases d : x = 0
    · rw [if_pos d, decide_eq_false (by omega)]; rfl
    · rw [if_neg d, decide_eq_true (by omega)]; rfl
  · rw [decide_eq_false c, if_pos (show bI false = nI 0 from rfl), decide_eq_false (show ¬ 0 < x by omega)]; rfl
theorem gf_is {kd th isf nam : Nat → Int32} {k a : Nat} (hn : okB (nam k)) (e : isf k = bI (decide (nam k = nI 1 ∨ 0 < a))) (h : cE kd th 3 k ≤ a) : gf kd th isf nam k = bI (decide (nam k = nI 1 ∨ 0 < cE kd th 3 k)) := by
  unfold gf
  rw [e]
  generalize cE kd th 3 k = x at h ⊢
  rcases hn with z | z
  · rw [z]
    by_cases c : 0 < a
    · rw [decide_eq_true (show (nI 0 : Int32) = nI 1 ∨ 0 < a from Or.inr c), if_neg (show ¬ bI true = nI 0 by decide), if_pos rfl]
      by_cases d : x = 0
      · rw [if_pos d, decide_eq_false (show ¬ ((nI 0 : Int32) = nI 1 ∨ 0 < x) from fun y => by rcases y with y | y; exact absurd y (by decide); omega)]; rfl
      · rw [if_neg d, decide_eq_true (show (nI 0 : Int32) = nI 1 ∨ 0 < x from Or.inr (by omega))]; rfl
    · rw [decide_eq_false (show ¬ ((nI 0 : Int32) = nI 1 ∨ 0 < a) from fun y => by rcases y with y | y; exact absurd y (by decide); omega), if_pos (show bI false = nI 0 from rfl), decide_eq_false (show ¬ ((nI 0 : Int32) = nI 1 ∨ 0 < x) from fun y => by rcases y with y | y; exact absurd y (by decide); omega)]; rfl
  · rw [z, decide_eq_true (show (nI 1 : Int32) = nI 1 ∨ 0 < a from Or.inl rfl), decide_eq_true (show (nI 1 : Int32) = nI 1 ∨ 0 < x from Or.inl rfl), if_neg (show ¬ bI true = nI 0 by decide), if_neg (show ¬ (nI 1 : Int32) = nI 0 by decide)]; rfl
/-- one opening goes -/
theorem cE_go {kd kd' th : Nat → Int32} {o k t : Nat} (ho : o < 48) (hk : 1 ≤ k) (hk4 : k ≤ 4) (ek : kd o = nI k) (et : th o = nI t) (ht : t < 16) (e0 : kd' o = nI 0) (en : ∀ j : Nat, j < 48 → j ≠ o → kd' j = kd j) {s u : Nat} (hs : 1 ≤ s) (hs4 : s ≤ 4) (hu : u < 16) : cE kd' th s u + (if s = k ∧ u = t then 1 else 0) = cE kd th s u := by
  have h1 : cE kd' th s u = cN (fun i => if i = o then false else decide (kd i = nI s ∧ th i = nI u)) 48 := cN_c (fun i hi => by
    by_cases c : i = o
    · rw [if_pos c, c, e0]
      exact decide_eq_false (fun z => by have := nm_inI (by omega) (by omega) z.1; omega)
    · rw [if_neg c, en i hi c])
  have h2 := cN_u (P := fun i => decide (kd i = nI s ∧ th i = nI u)) (Q := fun i => if i = o then false else decide (kd i = nI s ∧ th i = nI u)) (j := o) (fun i hi => by rw [if_neg hi]) (N := 48) ho
  rw [if_pos rfl] at h2
  rw [h1]
  have h2 : cN (fun i => if i = o then false else decide (kd i = nI s ∧ th i = nI u)) 48 + (decide (kd o = nI s ∧ th o = nI u)).toNat = cE kd th s u + 0 := h2
  rw [ek, et] at h2
  by_cases c : s = k ∧ u = t
  · rw [if_pos c]
    rw [nm_dt (show nI k = nI s ∧ nI t = nI u by rw [c.1, c.2]; exact ⟨rfl, rfl⟩)] at h2
    omega
  · rw [if_neg c]
    rw [nm_df (show ¬ (nI k = nI s ∧ nI t = nI u) from fun z => c ⟨(nm_inI (by omega) (by omega) z.1).symm, (nm_inI (by omega) (by omega) z.2).symm⟩)] at h2
    omega
theorem gk_n {de kd : Nat → Int32} {o : Nat} (e : kd o = nI 0) : gk de kd o = nI 0 := by
  unfold gk
  rw [e, if_pos (show (nI 0 : Int32) ≤ nI 0 by decide)]
/-- a descriptor goes: what is left of the reference's, with the class's rows that fit -/
theorem rD_close {l op pi fi de kd th po rt ip isf nam : Nat → Int32} (h : rD l op pi fi de kd th po rt ip isf nam) {i o k t : Nat} (hi : i < 256) (ho : o < 48) (e : de i = nI o) (ek : kd o = nI k) (hk : 1 ≤ k) (hk4 : k ≤ 4) (et : th o = nI t) (ht : t < 16) (ht8 : k ≤ 2 → t < 8) {op' pi' fi' : Nat → Int32} (ho' : ∀ j : Nat, j < 48 → j ≠ o → ∀ x : Nat, x < 5 → op' (j * 5 + x) = op (j * 5 + x)) (hoo : if cD de o = 1 then op' (o * 5) = nI 0 else (op' (o * 5) = op (o * 5) ∧ op' (o * 5 + 1) = nI (cD de o - 1) ∧ ∀ x : Nat, 2 ≤ x → x < 5 → op' (o * 5 + x) = op (o * 5 + x))) (hpi : ∀ u s : Nat, u < 8 → 1 ≤ s → s ≤ 2 → pi' (u * 4 + s) = if cD de o = 1 ∧ s = k ∧ u = t then nI (cE kd th s u - 1) else pi (u * 4 + s)) (hfi : ∀ u : Nat, u < 16 → fi' (u * 3 + 1) = (if cD de o = 1 ∧ k = 3 ∧ u = t then nI (cE kd th 3 u - 1) else fi (u * 3 + 1)) ∧ fi' (u * 3 + 2) = fi (u * 3 + 2)) : rD (upd l i (nI 0)) op' pi' fi' (upd de i (-nI 1)) (pcw (gk (upd de i (-nI 1)) kd) kd 48) th po rt (pcw (gp (pcw (gk (upd de i (-nI 1)) kd) kd 48) th ip) ip 8) (pcw (gf (pcw (gk (upd de i (-nI 1)) kd) kd 48) th isf nam) isf 16) nam := by
  obtain ⟨h1, h2, h3, h4⟩ := h
  obtain ⟨c1, c2⟩ := cD_leave hi ho e
  -- the kinds
  have K : ∀ j : Nat, j < 48 → pcw (gk (upd de i (-nI 1)) kd) kd 48 j = if j = o ∧ cD de o = 1 then nI 0 else kd j := fun j hj => by
    rw [pcw_y _ _ hj]
    by_cases cj : j = o
    · subst cj
      rw [gk_is hk4 ek]
      by_cases c : cD de j = 1
      · rw [if_pos (by omega), if_pos ⟨rfl, c⟩]
      · rw [if_neg (by omega), if_neg (fun z => c z.2), ek]
    · rw [if_neg (fun z => cj z.1)]
      rcases h2 j hj with ⟨z1, z2, z3⟩ | ⟨k', t', y1, y2, y3, y4, _⟩
      · rw [gk_n z1, z1]
      · rw [gk_is y2 y4, c1 j hj cj, if_neg (by omega), y4]
  have E : ∀ s u : Nat, 1 ≤ s → s ≤ 4 → u < 16 → cE (pcw (gk (upd de i (-nI 1)) kd) kd 48) th s u + (if cD de o = 1 ∧ s = k ∧ u = t then 1 else 0) = cE kd th s u := fun s u hs hs4 hu => by
    by_cases c : cD de o = 1
    · have := cE_go (kd := kd) (kd' := pcw (gk (upd de i (-nI 1)) kd) kd 48) (th := th) ho hk hk4 ek et ht (by rw [K o ho, if_pos ⟨rfl, c⟩]) (fun j hj hne => by rw [K j hj, if_neg (fun z => hne z.1)]) hs hs4 hu
      by_cases d : s = k ∧ u = t
      · rw [if_pos ⟨c, d⟩]
        rw [if_pos d] at this
        exact this
      · rw [if_neg (fun z => d z.2)]
        rw [if_neg d] at this
        exact this
    · rw [if_neg (fun z => c z.1), Nat.add_zero]
      exact cN_c (fun j hj => by rw [K j hj, if_neg (fun z => c z.2)])
  generalize pcw (gk (upd de i (-nI 1)) kd) kd 48 = kd' at K E ⊢
  refine ⟨fun j hj => ?_, fun j hj => ?_, fun u hu => ?_, fun u hu => ?_⟩
  · by_cases cj : j = i
    · left
      rw [cj, nm_us, nm_us]
      exact ⟨rfl, rfl⟩
    · rw [nm_un cj, nm_un cj]
      exact h1 j hj
  · by_cases cj : j = o
    · subst cj
      rcases h2 j hj with ⟨z1, z2, z3⟩ | ⟨k', t', y1, y2, y3, y4, y5, y6, y7, y8, y9, y10, y11, y12, y13, y14, y15⟩
      · omega
      · by_cases c : cD de j = 1
        · left
          rw [if_pos c] at hoo
          exact ⟨by rw [K j hj, if_pos ⟨rfl, c⟩], hoo, by omega⟩
        · right
          rw [if_neg c] at hoo
          obtain ⟨o1, o2, o3⟩ := hoo
          refine ⟨k', t', y1, y2, by omega, by rw [K j hj, if_neg (fun z => c z.2)]; exact y4, by rw [o1]; exact y5, by rw [o2]; exact congrArg nI (by omega), y7, by rw [o3 2 (by omega) (by omega)]; exact y8, y9, y10, by rw [o3 4 (by omega) (by omega)]; exact y11, fun z => by rw [o3 3 (by omega) (by omega)]; exact y12 z, fun z => by rw [o3 3 (by omega) (by omega)]; exact y13 z, y14, y15⟩
    · have oj := ho' j hj cj
      have oj0 := oj 0 (by omega)
      rw [Nat.add_zero] at oj0
      rw [K j hj, if_neg (fun z => cj z.1), c1 j hj cj, oj0, oj 1 (by omega), oj 2 (by omega), oj 3 (by omega), oj 4 (by omega)]
      exact h2 j hj
  · obtain ⟨z1, z2, z3⟩ := h3 u hu
    have e1 := E 1 u (by omega) (by omega) (by omega)
    have e2 := E 2 u (by omega) (by omega) (by omega)
    refine ⟨?_, ?_, ?_⟩
    · rw [hpi u 1 hu (by omega) (by omega)]
      by_cases c : cD de o = 1 ∧ 1 = k ∧ u = t
      · rw [if_pos c] at e1 ⊢
        exact congrArg nI (by omega)
      · rw [if_neg c] at e1 ⊢
        rw [z1]
        exact congrArg nI (by omega)
    · rw [hpi u 2 hu (by omega) (by omega)]
      by_cases c : cD de o = 1 ∧ 2 = k ∧ u = t
      · rw [if_pos c] at e2 ⊢
        exact congrArg nI (by omega)
      · rw [if_neg c] at e2 ⊢
        rw [z2]
        exact congrArg nI (by omega)
    · rw [pcw_y _ _ hu]
      exact gp_is z3 (by omega)
  · obtain ⟨z1, z2, z3, z4⟩ := h4 u hu
    have e3 := E 3 u (by omega) (by omega) hu
    obtain ⟨f1, f2⟩ := hfi u hu
    refine ⟨?_, z2, by rw [f2]; exact z3, ?_⟩
    · rw [f1]
      by_cases c : cD de o = 1 ∧ k = 3 ∧ u = t
      · rw [if_pos c]
        rw [if_pos ⟨c.1, c.2.1.symm, c.2.2⟩] at e3
        exact congrArg nI (by omega)
      · rw [if_neg c]
        rw [if_neg (fun z => c ⟨z.1, z.2.1.symm, z.2.2⟩)] at e3
        rw [z1]
        exact congrArg nI (by omega)
    · rw [pcw_y _ _ hu]
      exact gf_is z2 z4 (by omega)

def dU (D : St) (l op pi fi : Nat → Int32) : St := pR (pR (pR (pR D 0 l) 1 op) 2 pi) 4 fi
theorem nm_am {x : Nat} (h : 1 ≤ x) (h2 : x < 2 ^ 31) : nI x + -nI 1 = nI (x - 1) := by
  rw [← Int32.sub_eq_add_neg, pk_sub h]
theorem dU_12 (D : St) (l op : Nat → Int32) : pR (pR D 0 l) 1 op = dU D l op (sR D 2) (sR D 4) := by
  have e2 : pR (pR (pR D 0 l) 1 op) 2 (sR D 2) = pR (pR D 0 l) 1 op := nm_r0 (pR (pR D 0 l) 1 op) 2
  have e4 : pR (pR (pR D 0 l) 1 op) 4 (sR D 4) = pR (pR D 0 l) 1 op := nm_r0 (pR (pR D 0 l) 1 op) 4
  unfold dU
  rw [e2, e4]
theorem dU_123 (D : St) (l op pi : Nat → Int32) : pR (pR (pR D 0 l) 1 op) 2 pi = dU D l op pi (sR D 4) := by
  have e4 : pR (pR (pR (pR D 0 l) 1 op) 2 pi) 4 (sR D 4) = pR (pR (pR D 0 l) 1 op) 2 pi := nm_r0 (pR (pR (pR D 0 l) 1 op) 2 pi) 4
  unfold dU
  rw [e4]
theorem dU_124 (D : St) (l op fi : Nat → Int32) : pR (pR (pR D 0 l) 1 op) 4 fi = dU D l op (sR D 2) fi := by
  have e2 : pR (pR (pR D 0 l) 1 op) 2 (sR D 2) = pR (pR D 0 l) 1 op := nm_r0 (pR (pR D 0 l) 1 op) 2
  unfold dU
  rw [e2]
theorem nk_close0 (n : Nat) {D : St} {p d : Nat} (hp : p < 16) (hd : d < 16) (el : sR D 0 (p * 16 + d) = nI 0) : df_X10_close n (nI p) (nI d) D = some D := by
  have u1 : p * 16 + d < 256 := by omega
  have u2 : p * 16 + d < 2 ^ 31 := by omega
  have u3 : d < 2 ^ 31 := by omega
  have d0 : ¬ d < 0 := by omega
  have d16 : ¬ 16 ≤ d := by omega
  have em : (nI 0 : Int32) - nI 1 = -nI 1 := by decide
  simp (disch := (first | assumption | decide | omega)) only [df_X10_close_74, df_X10_close_0, df_X10_close, df_X10_openingOf_27, df_X10_openingOf_10, df_X10_openingOf_0, df_X10_openingOf, d0, d16, el, em, nm_ltm, eq_self, Nat.reduceEqDiff, Nat.reduceLeDiff, nl_0, nl_1, nl_2, nl_5, nl_16, nl_240, nl_256, no_1, no_1024, pk_mul, nI_add, nm_ck, nI_clamp, nI_ltI, nI_leI, nI_eq, nb_b2, nb_b1, ↓nb_let, nm_z0, nm_z1, nb_II, nb_IR, nb_RI, nb_RR, nm_IL, nm_IQ, nm_RL, nm_RQ, nm_LI, nm_LR, nm_LL, nm_LQ, nm_QI, nm_QR, nm_QL, nm_QQ, nm_rr, nm_ii, nm_eqm, not_false_eq_true, pk_sub, nm_div, nm_shl, nm_shr, nm_ush, nm_or8, nm_or64, nm_or256, nm_m1, nm_m3, nm_m7, nm_m15, nm_m31, nm_m63, nm_m255, nm_m511, nm_m1023, nm_m2047, nm_m65535, Nat.reduceMod, Nat.reducePow, Nat.reduceAdd, Nat.reduceSub, Nat.reduceMul, nm_bo, nm_bi, nm_rc, nm_ic, nm_ri, nm_rl, nm_rq, nm_ql, nm_qi, nm_li, nm_us, nm_uu, nm_cp, nm_sa31, nm_sa7, nm_m127, nm_m2, nm_nz, nm_nzk, nm_eq32, nm_nzf, if_true, if_false, ↓reduceIte, if_pos, if_neg]
/-- the class closes a descriptor -/
theorem nk_closeC (n : Nat) {D : St} {p d o c k t : Nat} (hp : p < 16) (hd : d < 16) (ho : o < 48) (el : sR D 0 (p * 16 + d) = nI (o + 1)) (hc : 1 ≤ c) (hc2 : c ≤ 256) (e0 : sR D 1 (o * 5) = nI k) (e1 : sR D 1 (o * 5 + 1) = nI c) (e2 : sR D 1 (o * 5 + 2) = nI t) (hk : 1 ≤ k) (hk4 : k ≤ 4) (ht : t < 16) (ht8 : k ≤ 2 → t < 8) {x : Nat} (hx : x ≤ 48) (hx1 : 1 ≤ x) (ex : if k = 3 then sR D 4 (t * 3 + 1) = nI x else k = 4 ∨ sR D 2 (t * 4 + k) = nI x) : df_X10_close n (nI p) (nI d) D = some (if c = 1 then dU D (upd (sR D 0) (p * 16 + d) (nI 0)) (upd (upd (sR D 1) (o * 5 + 1) (nI 0)) (o * 5) (nI 0)) (if k ≤ 2 then upd (sR D 2) (t * 4 + k) (nI (x - 1)) else sR D 2) (if k = 3 then upd (sR D 4) (t * 3 + 1) (nI (x - 1)) else sR D 4) else dU D (upd (sR D 0) (p * 16 + d) (nI 0)) (upd (sR D 1) (o * 5 + 1) (nI (c - 1))) (sR D 2) (sR D 4)) := by
  have u1 : p * 16 + d < 256 := by omega
  have u2 : p * 16 + d < 2 ^ 31 := by omega
  have u3 : d < 2 ^ 31 := by omega
  have d0 : ¬ d < 0 := by omega
  have d16 : ¬ 16 ≤ d := by omega
  have em : nI (o + 1) - nI 1 = nI o := by rw [pk_sub (by omega)]; rfl
  have ec : nI c - nI 1 = nI (c - 1) := pk_sub hc
  have o0 : ¬ o < 0 := by omega
  have u4 : o < 2 ^ 31 := by omega
  have u5 : o * 5 + 1 < 240 := by omega
  have u6 : o * 5 + 1 < 2 ^ 31 := by omega
  have u7 : o * 5 < 240 := by omega
  have u8 : o * 5 < 2 ^ 31 := by omega
  have u9 : o * 5 + 2 < 240 := by omega
  have u10 : o * 5 + 2 < 2 ^ 31 := by omega
  have u11 : c - 1 < 2 ^ 31 := by omega
  have u12 : k < 2 ^ 31 := by omega
  have n0 : upd (sR D 1) (o * 5 + 1) (nI (c - 1)) (o * 5) = nI k := by rw [nm_un (by omega)]; exact e0
  have n2 : upd (sR D 1) (o * 5 + 1) (nI (c - 1)) (o * 5 + 2) = nI t := by rw [nm_un (by omega)]; exact e2
  have n1 : upd (sR D 1) (o * 5 + 1) (nI (c - 1)) (o * 5 + 1) = nI (c - 1) := nm_us
  by_cases c1 : c = 1
  · subst c1
    rw [if_pos rfl]
    have n0 : upd (sR D 1) (o * 5 + 1) (nI 0) (o * 5) = nI k := n0
    have n2 : upd (sR D 1) (o * 5 + 1) (nI 0) (o * 5 + 2) = nI t := n2
    have ec : nI 1 - nI 1 = nI 0 := ec
    have ax := nm_am hx1 (by omega)
    by_cases k3 : k = 3
    · rw [if_pos k3] at ex
      subst k3
      have v1 : t * 3 + 1 < 48 := by omega
      have v2 : t * 3 + 1 < 2 ^ 31 := by omega
      rw [if_neg (by omega), if_pos rfl, ← dU_124]
      simp (disch := (first | assumption | decide | omega)) only [df_X10_close_74, df_X10_close_0, df_X10_close, df_X10_openingOf_27, df_X10_openingOf_10, df_X10_openingOf_0, df_X10_openingOf, df_X10_of_0, df_X10_of, df_X10_hold_41, df_X10_hold_0, df_X10_hold, d0, d16, el, em, o0, e1, ec, Nat.add_zero, n0, n2, ex, ax, eq_self, Nat.reduceEqDiff, Nat.reduceLeDiff, nm_rc (a := 1) (b := 0) (by decide), nm_rc (a := 2) (b := 0) (by decide), nm_rc (a := 2) (b := 1) (by decide), nm_rc (a := 4) (b := 0) (by decide), nm_rc (a := 4) (b := 1) (by decide), nm_rc (a := 4) (b := 2) (by decide), nl_0, nl_1, nl_2, nl_3, nl_4, nl_5, nl_16, nl_32, nl_48, nl_240, nl_256, no_1, no_1024, pk_mul, nI_add, nm_ck, nI_clamp, nI_ltI, nI_leI, nI_eq, nb_b2, nb_b1, ↓nb_let, nm_z0, nm_z1, nb_II, nb_IR, nb_RI, nb_RR, nm_IL, nm_IQ, nm_RL, nm_RQ, nm_LI, nm_LR, nm_LL, nm_LQ, nm_QI, nm_QR, nm_QL, nm_QQ, nm_rr, nm_ii, nm_eqm, not_false_eq_true, pk_sub, nm_div, nm_shl, nm_shr, nm_ush, nm_or8, nm_or64, nm_or256, nm_m1, nm_m3, nm_m7, nm_m15, nm_m31, nm_m63, nm_m255, nm_m511, nm_m1023, nm_m2047, nm_m65535, Nat.reduceMod, Nat.reducePow, Nat.reduceAdd, Nat.reduceSub, Nat.reduceMul, nm_bo, nm_bi, nm_rc, nm_ic, nm_ri, nm_rl, nm_rq, nm_ql, nm_qi, nm_li, nm_us, nm_uu, nm_cp, nm_sa31, nm_sa7, nm_m127, nm_m2, nm_nz, nm_nzk, nm_eq32, nm_nzf, if_true, if_false, ↓reduceIte, if_pos, if_neg]
    · rw [if_neg k3] at ex
      by_cases k4 : k = 4
      · subst k4
        rw [if_neg (by omega), if_neg (by omega), ← dU_12]
        simp (disch := (first | assumption | decide | omega)) only [df_X10_close_74, df_X10_close_0, df_X10_close, df_X10_openingOf_27, df_X10_openingOf_10, df_X10_openingOf_0, df_X10_openingOf, df_X10_of_0, df_X10_of, df_X10_hold_41, df_X10_hold_0, df_X10_hold, d0, d16, el, em, o0, e1, ec, Nat.add_zero, n0, n2, eq_self, Nat.reduceEqDiff, Nat.reduceLeDiff, nm_rc (a := 1) (b := 0) (by decide), nm_rc (a := 2) (b := 0) (by decide), nm_rc (a := 2) (b := 1) (by decide), nm_rc (a := 4) (b := 0) (by decide), nm_rc (a := 4) (b := 1) (by decide), nm_rc (a := 4) (b := 2) (by decide), nl_0, nl_1, nl_2, nl_3, nl_4, nl_5, nl_16, nl_32, nl_48, nl_240, nl_256, no_1, no_1024, pk_mul, nI_add, nm_ck, nI_clamp, nI_ltI, nI_leI, nI_eq, nb_b2, nb_b1, ↓nb_let, nm_z0, nm_z1, nb_II, nb_IR, nb_RI, nb_RR, nm_IL, nm_IQ, nm_RL, nm_RQ, nm_LI, nm_LR, nm_LL, nm_LQ, nm_QI, nm_QR, nm_QL, nm_QQ, nm_rr, nm_ii, nm_eqm, not_false_eq_true, pk_sub, nm_div, nm_shl, nm_shr, nm_ush, nm_or8, nm_or64, nm_or256, nm_m1, nm_m3, nm_m7, nm_m15, nm_m31, nm_m63, nm_m255, nm_m511, nm_m1023, nm_m2047, nm_m65535, Nat.reduceMod, Nat.reducePow, Nat.reduceAdd, Nat.reduceSub, Nat.reduceMul, nm_bo, nm_bi, nm_rc, nm_ic, nm_ri, nm_rl, nm_rq, nm_ql, nm_qi, nm_li, nm_us, nm_uu, nm_cp, nm_sa31, nm_sa7, nm_m127, nm_m2, nm_nz, nm_nzk, nm_eq32, nm_nzf, if_true, if_false, ↓reduceIte, if_pos, if_neg]
      · have k2 : k ≤ 2 := by omega
        have t8 := ht8 k2
        have v1 : t * 4 + k < 32 := by omega
        have v2 : t * 4 + k < 2 ^ 31 := by omega
        have ex : sR D 2 (t * 4 + k) = nI x := by
          rcases ex with ex | ex
          · exact absurd ex k4
          · exact ex
        rw [if_pos k2, if_neg k3, ← dU_123]
        simp (disch := (first | assumption | decide | omega)) only [df_X10_close_74, df_X10_close_0, df_X10_close, df_X10_openingOf_27, df_X10_openingOf_10, df_X10_openingOf_0, df_X10_openingOf, df_X10_of_0, df_X10_of, df_X10_hold_41, df_X10_hold_0, df_X10_hold, d0, d16, el, em, o0, e1, ec, Nat.add_zero, n0, n2, k3, k4, ex, ax, eq_self, Nat.reduceEqDiff, Nat.reduceLeDiff, nm_rc (a := 1) (b := 0) (by decide), nm_rc (a := 2) (b := 0) (by decide), nm_rc (a := 2) (b := 1) (by decide), nm_rc (a := 4) (b := 0) (by decide), nm_rc (a := 4) (b := 1) (by decide), nm_rc (a := 4) (b := 2) (by decide), nl_0, nl_1, nl_2, nl_3, nl_4, nl_5, nl_16, nl_32, nl_48, nl_240, nl_256, no_1, no_1024, pk_mul, nI_add, nm_ck, nI_clamp, nI_ltI, nI_leI, nI_eq, nb_b2, nb_b1, ↓nb_let, nm_z0, nm_z1, nb_II, nb_IR, nb_RI, nb_RR, nm_IL, nm_IQ, nm_RL, nm_RQ, nm_LI, nm_LR, nm_LL, nm_LQ, nm_QI, nm_QR, nm_QL, nm_QQ, nm_rr, nm_ii, nm_eqm, not_false_eq_true, pk_sub, nm_div, nm_shl, nm_shr, nm_ush, nm_or8, nm_or64, nm_or256, nm_m1, nm_m3, nm_m7, nm_m15, nm_m31, nm_m63, nm_m255, nm_m511, nm_m1023, nm_m2047, nm_m65535, Nat.reduceMod, Nat.reducePow, Nat.reduceAdd, Nat.reduceSub, Nat.reduceMul, nm_bo, nm_bi, nm_rc, nm_ic, nm_ri, nm_rl, nm_rq, nm_ql, nm_qi, nm_li, nm_us, nm_uu, nm_cp, nm_sa31, nm_sa7, nm_m127, nm_m2, nm_nz, nm_nzk, nm_eq32, nm_nzf, if_true, if_false, ↓reduceIte, if_pos, if_neg]
  · rw [if_neg c1, ← dU_12]
    have cz : ¬ c - 1 = 0 := by omega
    simp (disch := (first | assumption | decide | omega)) only [df_X10_close_74, df_X10_close_0, df_X10_close, df_X10_openingOf_27, df_X10_openingOf_10, df_X10_openingOf_0, df_X10_openingOf, df_X10_of_0, df_X10_of, df_X10_hold_41, df_X10_hold_0, df_X10_hold, d0, d16, el, em, o0, e1, ec, n1, cz, eq_self, Nat.reduceEqDiff, Nat.reduceLeDiff, nl_0, nl_1, nl_2, nl_3, nl_4, nl_5, nl_16, nl_32, nl_48, nl_240, nl_256, no_1, no_1024, pk_mul, nI_add, nm_ck, nI_clamp, nI_ltI, nI_leI, nI_eq, nb_b2, nb_b1, ↓nb_let, nm_z0, nm_z1, nb_II, nb_IR, nb_RI, nb_RR, nm_IL, nm_IQ, nm_RL, nm_RQ, nm_LI, nm_LR, nm_LL, nm_LQ, nm_QI, nm_QR, nm_QL, nm_QQ, nm_rr, nm_ii, nm_eqm, not_false_eq_true, pk_sub, nm_div, nm_shl, nm_shr, nm_ush, nm_or8, nm_or64, nm_or256, nm_m1, nm_m3, nm_m7, nm_m15, nm_m31, nm_m63, nm_m255, nm_m511, nm_m1023, nm_m2047, nm_m65535, Nat.reduceMod, Nat.reducePow, Nat.reduceAdd, Nat.reduceSub, Nat.reduceMul, nm_bo, nm_bi, nm_rc, nm_ic, nm_ri, nm_rl, nm_rq, nm_ql, nm_qi, nm_li, nm_us, nm_uu, nm_cp, nm_sa31, nm_sa7, nm_m127, nm_m2, nm_nz, nm_nzk, nm_eq32, nm_nzf, if_true, if_false, ↓reduceIte, if_pos, if_neg]

theorem rD_congr {l op pi fi de kd kd' th po rt ip ip' isf isf' nam : Nat → Int32} (hk : ∀ o : Nat, o < 48 → kd' o = kd o) (hi : ∀ k : Nat, k < 8 → ip' k = ip k) (hf : ∀ k : Nat, k < 16 → isf' k = isf k) (h : rD l op pi fi de kd th po rt ip isf nam) : rD l op pi fi de kd' th po rt ip' isf' nam := by
  obtain ⟨h1, h2, h3, h4⟩ := h
  have E : ∀ s u : Nat, cE kd' th s u = cE kd th s u := fun s u => cN_c (fun j hj => by rw [hk j hj])
  refine ⟨h1, fun o ho => ?_, fun k hk8 => ?_, fun k hk16 => ?_⟩
  · rw [hk o ho]; exact h2 o ho
  · rw [hi k hk8, E, E]; exact h3 k hk8
  · rw [hf k hk16, E]; exact h4 k hk16
/-- what is in order stays as it is when it is swept -/
theorem rD_sweep {l op pi fi de kd th po rt ip isf nam : Nat → Int32} (h : rD l op pi fi de kd th po rt ip isf nam) : rD l op pi fi de (pcw (gk de kd) kd 48) th po rt (pcw (gp (pcw (gk de kd) kd 48) th ip) ip 8) (pcw (gf (pcw (gk de kd) kd 48) th isf nam) isf 16) nam := by
  have h0 := h
  obtain ⟨h1, h2, h3, h4⟩ := h
  have K : ∀ o : Nat, o < 48 → pcw (gk de kd) kd 48 o = kd o := fun o ho => by
    rw [pcw_y _ _ ho]
    rcases h2 o ho with ⟨z1, _⟩ | ⟨k, t, y1, y2, y3, y4, _⟩
    · rw [gk_n z1, z1]
    · rw [gk_is y2 y4, if_neg (by omega), y4]
  have E : ∀ s u : Nat, cE (pcw (gk de kd) kd 48) th s u = cE kd th s u := fun s u => cN_c (fun j hj => by rw [K j hj])
  generalize pcw (gk de kd) kd 48 = kd' at K E ⊢
  refine rD_congr K (fun k hk => ?_) (fun k hk => ?_) h0
  · obtain ⟨_, _, z3⟩ := h3 k hk
    rw [pcw_y _ _ hk, gp_is z3 (by rw [E, E]; exact Nat.le_refl _), E, E, ← z3]
  · obtain ⟨_, z2, _, z4⟩ := h4 k hk
    rw [pcw_y _ _ hk, gf_is z2 z4 (by rw [E]; exact Nat.le_refl _), E, ← z4]
/-- lengths and oldest bytes stay -/
def kpL (pi0 fi0 pi fi : Nat → Int32) : Prop := (∀ k : Nat, k < 8 → pi (k * 4) = pi0 (k * 4) ∧ pi (k * 4 + 3) = pi0 (k * 4 + 3)) ∧ ∀ k : Nat, k < 16 → fi (k * 3) = fi0 (k * 3)
theorem kpL_r (pi fi : Nat → Int32) : kpL pi fi pi fi := ⟨fun _ _ => ⟨rfl, rfl⟩, fun _ _ => rfl⟩
theorem kpL_t {a b c d e f : Nat → Int32} (h : kpL a b c d) (g : kpL c d e f) : kpL a b e f := ⟨fun k hk => ⟨(g.1 k hk).1.trans (h.1 k hk).1, (g.1 k hk).2.trans (h.1 k hk).2⟩, fun k hk => (g.2 k hk).trans (h.2 k hk)⟩
/-- a descriptor is closed: the class does it, the reference sweeps -/
theorem nk_close (n : Nat) {D : St} {de kd th po rt ip isf nam : Nat → Int32} (h : rD (sR D 0) (sR D 1) (sR D 2) (sR D 4) de kd th po rt ip isf nam) {p d : Nat} (hp : p < 16) (hd : d < 16) : ∃ l op pi fi : Nat → Int32, df_X10_close n (nI p) (nI d) D = some (dU D l op pi fi) ∧ kpL (sR D 2) (sR D 4) pi fi ∧ rD l op pi fi (upd de (p * 16 + d) (-nI 1)) (pcw (gk (upd de (p * 16 + d) (-nI 1)) kd) kd 48) th po rt (pcw (gp (pcw (gk (upd de (p * 16 + d) (-nI 1)) kd) kd 48) th ip) ip 8) (pcw (gf (pcw (gk (upd de (p * 16 + d) (-nI 1)) kd) kd 48) th isf nam) isf 16) nam := by
  have hi : p * 16 + d < 256 := by omega
  rcases h.1 (p * 16 + d) hi with ⟨z1, z2⟩ | ⟨o, ho, z1, z2⟩
  · refine ⟨sR D 0, sR D 1, sR D 2, sR D 4, ?_, kpL_r _ _, ?_⟩
    · rw [nk_close0 n hp hd z2]
      unfold dU
      rw [nm_r0, nm_r0, nm_r0, nm_r0]
    · have e : upd de (p * 16 + d) (-nI 1) = de := by rw [← z1, nm_u0]
      rw [e]
      exact rD_sweep h
  · have p0 : 0 < cD de o := cN_p (P := fun j => decide (de j = nI o)) (i := p * 16 + d) (decide_eq_true z1) hi
    have pl := cD_le de o
    rcases h.2.1 o ho with ⟨y1, y2, y3⟩ | ⟨k, t, y1, y2, y3, y4, y5, y6, y7, y8, y9, y10, y11, y12, y13, y14, y15⟩
    · omega
    · have xl := cE_le kd th k t
      have x1 : 0 < cE kd th k t := cN_p (P := fun j => decide (kd j = nI k ∧ th j = nI t)) (i := o) (decide_eq_true ⟨y4, y7⟩) ho
      have ex : if k = 3 then sR D 4 (t * 3 + 1) = nI (cE kd th k t) else k = 4 ∨ sR D 2 (t * 4 + k) = nI (cE kd th k t) := by
        by_cases k3 : k = 3
        · rw [if_pos k3, k3]
          exact (h.2.2.2 t y10).1
        · rw [if_neg k3]
          by_cases k4 : k = 4
          · exact Or.inl k4
          · right
            have t8 := y9 (by omega)
            have ck : k = 1 ∨ k = 2 := by omega
            rcases ck with e | e
            · rw [e]; exact (h.2.2.1 t t8).1
            · rw [e]; exact (h.2.2.1 t t8).2.1
      have cl := nk_closeC n (D := D) hp hd ho z2 (by omega) pl y5 y6 y8 y1 y2 y10 y9 xl (by omega) ex
      by_cases c1 : cD de o = 1
      · rw [if_pos c1] at cl
        refine ⟨_, _, _, _, cl, ⟨fun u hu => ?_, fun u hu => ?_⟩, rD_close h hi ho z1 y4 y1 y2 y7 y10 y9 (fun j hj hne x hx => ?_) ?_ (fun u s hu h1 h2 => ?_) (fun u hu => ⟨?_, ?_⟩)⟩
        · by_cases k2 : k ≤ 2
          · rw [if_pos k2, nm_un (by omega), nm_un (by omega)]
            exact ⟨rfl, rfl⟩
          · rw [if_neg k2]
            exact ⟨rfl, rfl⟩
        · by_cases k3 : k = 3
          · rw [if_pos k3, nm_un (by omega)]
          · rw [if_neg k3]
        · rw [nm_un (by omega), nm_un (by omega)]
        · rw [if_pos c1, nm_us]
        · by_cases k2 : k ≤ 2
          · rw [if_pos k2]
            by_cases c : s = k ∧ u = t
            · rw [if_pos ⟨c1, c⟩, c.1, c.2, nm_us]
            · rw [if_neg (fun z => c z.2), nm_un (by omega)]
          · rw [if_neg k2, if_neg (fun z => by omega)]
        · by_cases k3 : k = 3
          · rw [if_pos k3]
            by_cases c : u = t
            · rw [if_pos ⟨c1, k3, c⟩, c, nm_us, k3]
            · rw [if_neg (fun z => c z.2.2), nm_un (by omega)]
          · rw [if_neg k3, if_neg (fun z => k3 z.2.1)]
        · by_cases k3 : k = 3
          · rw [if_pos k3, nm_un (by omega)]
          · rw [if_neg k3]
      · rw [if_neg c1] at cl
        refine ⟨_, _, _, _, cl, kpL_r _ _, rD_close h hi ho z1 y4 y1 y2 y7 y10 y9 (fun j hj hne x hx => ?_) ?_ (fun u s hu h1 h2 => ?_) (fun u hu => ⟨?_, rfl⟩)⟩
        · rw [nm_un (by omega)]
        · rw [if_neg c1, nm_us]
          exact ⟨nm_un (by omega), rfl, fun x hx hx5 => nm_un (by omega)⟩
        · rw [if_neg (fun z => c1 z.1)]
        · rw [if_neg (fun z => c1 z.1)]

theorem cN_mono {P Q : Nat → Bool} : ∀ {N : Nat}, (∀ i : Nat, i < N → P i = true → Q i = true) → cN P N ≤ cN Q N
  | 0, _ => Nat.le_refl 0
  | k + 1, h => by
    have := cN_mono (N := k) (fun i hi => h i (by omega))
    rw [cN_s, cN_s]
    cases c : P k with
    | false => show _ + 0 ≤ _; omega
    | true =>
      rw [h k (by omega) c]
      omega
theorem rD_k {l op pi fi de kd th po rt ip isf nam : Nat → Int32} (h : rD l op pi fi de kd th po rt ip isf nam) {o : Nat} (ho : o < 48) : ∃ k : Nat, k ≤ 4 ∧ kd o = nI k := by
  rcases h.2.1 o ho with ⟨z, _⟩ | ⟨k, t, y1, y2, y3, y4, _⟩
  · exact ⟨0, by omega, z⟩
  · exact ⟨k, y2, y4⟩
theorem cE_sw {de kd th : Nat → Int32} (h : ∀ o : Nat, o < 48 → ∃ k : Nat, k ≤ 4 ∧ kd o = nI k) {s u : Nat} (hs : 1 ≤ s) (hs4 : s ≤ 4) : cE (pcw (gk de kd) kd 48) th s u ≤ cE kd th s u := cN_mono (fun i hi z => by
  have z := of_decide_eq_true z
  obtain ⟨k, hk, e⟩ := h i hi
  rw [pcw_y _ _ hi, gk_is hk e] at z
  refine decide_eq_true ⟨?_, z.2⟩
  by_cases c : cD de i = 0
  · rw [if_pos c] at z
    have := nm_inI (by omega) (by omega) z.1
    omega
  · rw [if_neg c] at z
    rw [e]; exact z.1)
/-- swept once or more often: the same -/
theorem sw_eq {l0 op0 pi0 fi0 de0 po0 l op pi fi de kd kdA th po rt ip ipA isf isfA nam : Nat → Int32} (h0 : rD l0 op0 pi0 fi0 de0 kd th po0 rt ip isf nam) (h : rD l op pi fi de kdA th po rt ipA isfA nam) (hk : ∀ o : Nat, o < 48 → kdA o = pcw (gk de kd) kd 48 o) : rD l op pi fi de (pcw (gk de kd) kd 48) th po rt (pcw (gp (pcw (gk de kd) kd 48) th ip) ip 8) (pcw (gf (pcw (gk de kd) kd 48) th isf nam) isf 16) nam := by
  have S : ∀ s u : Nat, 1 ≤ s → s ≤ 4 → cE (pcw (gk de kd) kd 48) th s u ≤ cE kd th s u := fun s u h1 h2 => cE_sw (fun o ho => rD_k h0 ho) h1 h2
  have E : ∀ s u : Nat, cE kdA th s u = cE (pcw (gk de kd) kd 48) th s u := fun s u => cN_c (fun j hj => by rw [hk j hj])
  refine rD_congr (fun o ho => (hk o ho).symm) (fun k hk8 => ?_) (fun k hk16 => ?_) h
  · obtain ⟨_, _, z3⟩ := h0.2.2.1 k hk8
    obtain ⟨_, _, y3⟩ := h.2.2.1 k hk8
    have s1 := S 1 k (by omega) (by omega)
    have s2 := S 2 k (by omega) (by omega)
    rw [pcw_y _ _ hk8, gp_is z3 (by omega), y3, E, E]
  · obtain ⟨_, z2, _, z4⟩ := h0.2.2.2 k hk16
    obtain ⟨_, y2, _, y4⟩ := h.2.2.2 k hk16
    rw [pcw_y _ _ hk16, gf_is z2 z4 (S 3 k (by omega) (by omega)), y4, E]
theorem cD_fl {de : Nat → Int32} {a k m o : Nat} (h : k ≤ m) (ho : o < 48) : cD (fl de a m (-nI 1)) o ≤ cD (fl de a k (-nI 1)) o := cN_mono (fun i hi z => by
  have z := of_decide_eq_true z
  refine decide_eq_true ?_
  have z : (if a ≤ i ∧ i < a + m then -nI 1 else de i) = nI o := z
  show (if a ≤ i ∧ i < a + k then -nI 1 else de i) = nI o
  by_cases c : a ≤ i ∧ i < a + m
  · rw [if_pos c] at z
    exact absurd z.symm (nk_ne (by omega))
  · rw [if_neg c] at z
    rw [if_neg (by omega)]
    exact z)
theorem gk_gk {de kd : Nat → Int32} {a k m o : Nat} (h : k ≤ m) (ho : o < 48) {kk : Nat} (hk : kk ≤ 4) (e : kd o = nI kk) : gk (fl de a m (-nI 1)) (pcw (gk (fl de a k (-nI 1)) kd) kd 48) o = gk (fl de a m (-nI 1)) kd o := by
  have e1 : pcw (gk (fl de a k (-nI 1)) kd) kd 48 o = if cD (fl de a k (-nI 1)) o = 0 then nI 0 else nI kk := by rw [pcw_y _ _ ho, gk_is hk e]
  have le := cD_fl (de := de) (a := a) h ho
  rw [gk_is hk e]
  by_cases c : cD (fl de a k (-nI 1)) o = 0
  · rw [if_pos c] at e1
    rw [gk_n e1, if_pos (by omega)]
  · rw [if_neg c] at e1
    rw [gk_is hk e1]
theorem dU_dU (D : St) (l op pi fi l' op' pi' fi' : Nat → Int32) : dU (dU D l op pi fi) l' op' pi' fi' = dU D l' op' pi' fi' := by
  unfold dU
  simp (disch := omega) only [df_X10_close_74, nm_rc (a := 1) (b := 0) (by decide), nm_rc (a := 2) (b := 0) (by decide), nm_rc (a := 2) (b := 1) (by decide), nm_rc (a := 4) (b := 0) (by decide), nm_rc (a := 4) (b := 1) (by decide), nm_rc (a := 4) (b := 2) (by decide), no_1, no_1024, pk_mul, nI_add, nm_ck, nI_clamp, nI_ltI, nI_leI, nI_eq, nb_b2, nb_b1, nb_let, nm_z0, nm_z1, nb_II, nb_IR, nb_RI, nb_RR, nm_IL, nm_IQ, nm_RL, nm_RQ, nm_LI, nm_LR, nm_LL, nm_LQ, nm_QI, nm_QR, nm_QL, nm_QQ, nm_rr, nm_ii, nm_eqm, not_false_eq_true, pk_sub, nm_div, nm_shl, nm_shr, nm_ush, nm_or8, nm_or64, nm_or256, nm_m1, nm_m3, nm_m7, nm_m15, nm_m31, nm_m63, nm_m255, nm_m511, nm_m1023, nm_m2047, nm_m65535, Nat.reduceMod, Nat.reducePow, Nat.reduceAdd, Nat.reduceSub, Nat.reduceMul, nm_bo, nm_bi, nm_rc, nm_ic, nm_ri, nm_rl, nm_rq, nm_ql, nm_qi, nm_li, nm_us, nm_uu, nm_cp, nm_sa31, nm_sa7, nm_m127, nm_m2, nm_nz, nm_nzk, nm_eq32, nm_nzf, if_true, if_false, ↓reduceIte, if_pos, if_neg]
theorem dU_id (D : St) : dU D (sR D 0) (sR D 1) (sR D 2) (sR D 4) = D := by
  unfold dU
  rw [nm_r0, nm_r0, nm_r0, nm_r0]
/-- all descriptors of a process are closed, one after the other -/
theorem nk_closes (n : Nat) {D : St} {de kd th po rt ip isf nam : Nat → Int32} (h : rD (sR D 0) (sR D 1) (sR D 2) (sR D 4) de kd th po rt ip isf nam) {p : Nat} (hp : p < 16) : ∀ k : Nat, k ≤ 16 → ∃ l op pi fi : Nat → Int32, rD l op pi fi (fl de (p * 16) k (-nI 1)) (pcw (gk (fl de (p * 16) k (-nI 1)) kd) kd 48) th po rt (pcw (gp (pcw (gk (fl de (p * 16) k (-nI 1)) kd) kd 48) th ip) ip 8) (pcw (gf (pcw (gk (fl de (p * 16) k (-nI 1)) kd) kd 48) th isf nam) isf 16) nam ∧ (k < 16 → ∃ l' op' pi' fi' : Nat → Int32, df_X10_close n (nI p) (nI k) (dU D l op pi fi) = some (dU D l' op' pi' fi') ∧ rD l' op' pi' fi' (fl de (p * 16) (k + 1) (-nI 1)) (pcw (gk (fl de (p * 16) (k + 1) (-nI 1)) kd) kd 48) th po rt (pcw (gp (pcw (gk (fl de (p * 16) (k + 1) (-nI 1)) kd) kd 48) th ip) ip 8) (pcw (gf (pcw (gk (fl de (p * 16) (k + 1) (-nI 1)) kd) kd 48) th isf nam) isf 16) nam) := by
  have step : ∀ (k : Nat) (l op pi fi : Nat → Int32), k < 16 → rD l op pi fi (fl de (p * 16) k (-nI 1)) (pcw (gk (fl de (p * 16) k (-nI 1)) kd) kd 48) th po rt (pcw (gp (pcw (gk (fl de (p * 16) k (-nI 1)) kd) kd 48) th ip) ip 8) (pcw (gf (pcw (gk (fl de (p * 16) k (-nI 1)) kd) kd 48) th isf nam) isf 16) nam → ∃ l' op' pi' fi' : Nat → Int32, df_X10_close n (nI p) (nI k) (dU D l op pi fi) = some (dU D l' op' pi' fi') ∧ rD l' op' pi' fi' (fl de (p * 16) (k + 1) (-nI 1)) (pcw (gk (fl de (p * 16) (k + 1) (-nI 1)) kd) kd 48) th po rt (pcw (gp (pcw (gk (fl de (p * 16) (k + 1) (-nI 1)) kd) kd 48) th ip) ip 8) (pcw (gf (pcw (gk (fl de (p * 16) (k + 1) (-nI 1)) kd) kd 48) th isf nam) isf 16) nam := fun k l op pi fi hk hr => by
    obtain ⟨l', op', pi', fi', e1, _, e2⟩ := nk_close n (D := dU D l op pi fi) hr hp hk
    rw [dU_dU] at e1
    rw [fl_s] at e2
    exact ⟨l', op', pi', fi', e1, sw_eq h e2 (fun o ho => by
      obtain ⟨kk, hkk, e⟩ := rD_k h ho
      rw [pcw_y _ _ ho, pcw_y _ _ ho]
      exact gk_gk (by omega) ho hkk e)⟩
  intro k
  induction k with
  | zero =>
    intro _
    have r0 := rD_sweep h
    have e : fl de (p * 16) 0 (-nI 1) = de := fl_0 de (p * 16) (-nI 1)
    rw [← e] at r0
    rw [e] at r0
    refine ⟨sR D 0, sR D 1, sR D 2, sR D 4, by rw [e]; exact r0, fun hk => step 0 _ _ _ _ hk (by rw [e]; exact r0)⟩
  | succ k ih =>
    intro hk
    obtain ⟨l, op, pi, fi, _, s1⟩ := ih (by omega)
    obtain ⟨l', op', pi', fi', _, s2⟩ := s1 (by omega)
    exact ⟨l', op', pi', fi', s2, fun h16 => step (k + 1) _ _ _ _ h16 s2⟩

/-- a process's k lowest descriptors are closed: the class's rows fit what the reference sweeps once -/
def rC (D : St) (de kd th po rt ip isf nam : Nat → Int32) (p k : Nat) (l op pi fi : Nat → Int32) : Prop := kpL (sR D 2) (sR D 4) pi fi ∧ rD l op pi fi (fl de (p * 16) k (-nI 1)) (pcw (gk (fl de (p * 16) k (-nI 1)) kd) kd 48) th po rt (pcw (gp (pcw (gk (fl de (p * 16) k (-nI 1)) kd) kd 48) th ip) ip 8) (pcw (gf (pcw (gk (fl de (p * 16) k (-nI 1)) kd) kd 48) th isf nam) isf 16) nam
theorem rC_s (n : Nat) {D : St} {de kd th po rt ip isf nam : Nat → Int32} (h : rD (sR D 0) (sR D 1) (sR D 2) (sR D 4) de kd th po rt ip isf nam) {p k : Nat} (hp : p < 16) (hk : k < 16) {l op pi fi : Nat → Int32} (hr : rC D de kd th po rt ip isf nam p k l op pi fi) : ∃ l' op' pi' fi' : Nat → Int32, df_X10_close n (nI p) (nI k) (dU D l op pi fi) = some (dU D l' op' pi' fi') ∧ rC D de kd th po rt ip isf nam p (k + 1) l' op' pi' fi' := by
  unfold rC at hr ⊢
  obtain ⟨l', op', pi', fi', e1, e3, e2⟩ := nk_close n (D := dU D l op pi fi) hr.2 hp hk
  rw [dU_dU] at e1
  rw [fl_s] at e2
  exact ⟨l', op', pi', fi', e1, kpL_t hr.1 e3, sw_eq h e2 (fun o ho => by
    obtain ⟨kk, hkk, e⟩ := rD_k h ho
    rw [pcw_y _ _ ho, pcw_y _ _ ho]
    exact gk_gk (by omega) ho hkk e)⟩
theorem rC_0 {D : St} {de kd th po rt ip isf nam : Nat → Int32} (h : rD (sR D 0) (sR D 1) (sR D 2) (sR D 4) de kd th po rt ip isf nam) (p : Nat) : rC D de kd th po rt ip isf nam p 0 (sR D 0) (sR D 1) (sR D 2) (sR D 4) := by
  unfold rC
  rw [fl_0]
  exact ⟨kpL_r _ _, rD_sweep h⟩
/-- the class's 'finish' up to the pages -/
theorem fin_1 (n : Nat) (hn : 1024 < n) {M : St × St} {de kd th po rt ip isf nam : Nat → Int32} (h : rD (sR M.2 0) (sR M.2 1) (sR M.2 2) (sR M.2 4) de kd th po rt ip isf nam) {p : Nat} (hp : p < 16) (cod : Int32) : ∃ l op pi fi : Nat → Int32, rC M.2 de kd th po rt ip isf nam p 16 l op pi fi ∧ df_X6_finish n (nI p) cod M = nd_b1 (df_X6_dropPages n (nI p) (M.1, dU M.2 l op pi fi)) (fun s => df_X6_finish_30 n n (nI p) cod (nI 0) s) := by
  obtain ⟨m, D', ⟨l, op, pi, fi, eD, hr⟩, e⟩ := nm_l1 (S := St) (fun g k D => df_X6_finish_2 n g (nI p) cod (nI k) (M.1, D)) (fun k D => ∃ l op pi fi : Nat → Int32, D = dU M.2 l op pi fi ∧ rC M.2 de kd th po rt ip isf nam p k l op pi fi) 16 n (by omega) (fun k g D hk hI => by
    obtain ⟨l, op, pi, fi, eD, hr⟩ := hI
    subst eD
    obtain ⟨l', op', pi', fi', e1, e2⟩ := rC_s n h hp hk hr
    have k16 : ¬ 16 ≤ k := by omega
    have u3 : k < 2 ^ 31 := by omega
    refine ⟨_, ⟨l', op', pi', fi', rfl, e2⟩, ?_⟩
    rw [show df_X6_finish_2 n (g + 1) = dF_X6_finish_2 n (df_X6_finish_2 n g) from rfl]
    simp (disch := (first | assumption | decide | omega)) only [dF_X6_finish_2, k16, e1, eq_self, Nat.reduceEqDiff, Nat.reduceLeDiff, nl_0, nl_1, nl_16, no_1, no_1024, pk_mul, nI_add, nm_ck, nI_clamp, nI_ltI, nI_leI, nI_eq, nb_b2, nb_b1, ↓nb_let, nm_z0, nm_z1, nb_II, nb_IR, nb_RI, nb_RR, nm_IL, nm_IQ, nm_RL, nm_RQ, nm_LI, nm_LR, nm_LL, nm_LQ, nm_QI, nm_QR, nm_QL, nm_QQ, nm_rr, nm_ii, nm_eqm, not_false_eq_true, pk_sub, nm_div, nm_shl, nm_shr, nm_ush, nm_or8, nm_or64, nm_or256, nm_m1, nm_m3, nm_m7, nm_m15, nm_m31, nm_m63, nm_m255, nm_m511, nm_m1023, nm_m2047, nm_m65535, Nat.reduceMod, Nat.reducePow, Nat.reduceAdd, Nat.reduceSub, Nat.reduceMul, nm_bo, nm_bi, nm_rc, nm_ic, nm_ri, nm_rl, nm_rq, nm_ql, nm_qi, nm_li, nm_us, nm_uu, nm_cp, nm_sa31, nm_sa7, nm_m127, nm_m2, nm_nz, nm_nzk, nm_eq32, nm_nzf, if_true, if_false, ↓reduceIte, if_pos, if_neg]) M.2 ⟨_, _, _, _, (dU_id M.2).symm, rC_0 h p⟩
  subst eD
  refine ⟨l, op, pi, fi, hr, Eq.trans e ?_⟩
  show df_X6_finish_2 n (m + 1) (nI p) cod (nI 16) _ = _
  rw [show df_X6_finish_2 n (m + 1) = dF_X6_finish_2 n (df_X6_finish_2 n m) from rfl]
  simp (disch := (first | assumption | decide | omega)) only [dF_X6_finish_2, eq_self, Nat.reduceEqDiff, Nat.reduceLeDiff, nl_0, nl_1, nl_16, no_1, no_1024, pk_mul, nI_add, nm_ck, nI_clamp, nI_ltI, nI_leI, nI_eq, nb_b2, nb_b1, ↓nb_let, nm_z0, nm_z1, nb_II, nb_IR, nb_RI, nb_RR, nm_IL, nm_IQ, nm_RL, nm_RQ, nm_LI, nm_LR, nm_LL, nm_LQ, nm_QI, nm_QR, nm_QL, nm_QQ, nm_rr, nm_ii, nm_eqm, not_false_eq_true, pk_sub, nm_div, nm_shl, nm_shr, nm_ush, nm_or8, nm_or64, nm_or256, nm_m1, nm_m3, nm_m7, nm_m15, nm_m31, nm_m63, nm_m255, nm_m511, nm_m1023, nm_m2047, nm_m65535, Nat.reduceMod, Nat.reducePow, Nat.reduceAdd, Nat.reduceSub, Nat.reduceMul, nm_bo, nm_bi, nm_rc, nm_ic, nm_ri, nm_rl, nm_rq, nm_ql, nm_qi, nm_li, nm_us, nm_uu, nm_cp, nm_sa31, nm_sa7, nm_m127, nm_m2, nm_nz, nm_nzk, nm_eq32, nm_nzf, if_true, if_false, ↓reduceIte, if_pos, if_neg]
/-- the reference's 'end' up to the pages -/
theorem end_1 (n : Nat) (hn : 1024 < n) (X : St × St) {p : Nat} (hp : p < 16) (cod : Int32) : df_X16_end n (nI p) cod X = nd_b1 (df_X16_sweep n (pR X.1 14 (fl (sR X.1 14) (p * 16) 16 (-nI 1)), X.2)) (fun s => nd_b1 (df_X16_leaveAll n (nI p) s) (fun s => df_X16_end_37 n n (nI p) cod (nI 0) s)) := by
  obtain ⟨m, hm⟩ := nm_lq (fun m k => df_X16_end_2 n m (nI p) cod (nI k) (pR X.1 14 (fl (sR X.1 14) (p * 16) k (-nI 1)), X.2)) 16 n (by omega) (fun k m hk => by
    have u1 : p * 16 + k < 256 := by omega
    have u2 : p * 16 + k < 2 ^ 31 := by omega
    have u3 : k < 2 ^ 31 := by omega
    have k16 : ¬ 16 ≤ k := by omega
    have ei : 16 * p + k = p * 16 + k := by omega
    have fs := fl_s (sR X.1 14) (p * 16) k (-nI 1)
    rw [show df_X16_end_2 n (m + 1) = dF_X16_end_2 n (df_X16_end_2 n m) from rfl]
    simp (disch := (first | assumption | decide | omega)) only [dF_X16_end_2, k16, ei, fs, eq_self, Nat.reduceEqDiff, Nat.reduceLeDiff, nl_0, nl_1, nl_14, nl_16, nl_256, no_1, no_1024, pk_mul, nI_add, nm_ck, nI_clamp, nI_ltI, nI_leI, nI_eq, nb_b2, nb_b1, ↓nb_let, nm_z0, nm_z1, nb_II, nb_IR, nb_RI, nb_RR, nm_IL, nm_IQ, nm_RL, nm_RQ, nm_LI, nm_LR, nm_LL, nm_LQ, nm_QI, nm_QR, nm_QL, nm_QQ, nm_rr, nm_ii, nm_eqm, not_false_eq_true, pk_sub, nm_div, nm_shl, nm_shr, nm_ush, nm_or8, nm_or64, nm_or256, nm_m1, nm_m3, nm_m7, nm_m15, nm_m31, nm_m63, nm_m255, nm_m511, nm_m1023, nm_m2047, nm_m65535, Nat.reduceMod, Nat.reducePow, Nat.reduceAdd, Nat.reduceSub, Nat.reduceMul, nm_bo, nm_bi, nm_rc, nm_ic, nm_ri, nm_rl, nm_rq, nm_ql, nm_qi, nm_li, nm_us, nm_uu, nm_cp, nm_sa31, nm_sa7, nm_m127, nm_m2, nm_nz, nm_nzk, nm_eq32, nm_nzf, if_true, if_false, ↓reduceIte, if_pos, if_neg])
  rw [fl_0, nm_r0] at hm
  refine Eq.trans hm ?_
  rw [show df_X16_end_2 n (m + 1) = dF_X16_end_2 n (df_X16_end_2 n m) from rfl]
  simp (disch := (first | assumption | decide | omega)) only [dF_X16_end_2, eq_self, Nat.reduceEqDiff, Nat.reduceLeDiff, nl_0, nl_1, nl_14, nl_16, nl_256, no_1, no_1024, pk_mul, nI_add, nm_ck, nI_clamp, nI_ltI, nI_leI, nI_eq, nb_b2, nb_b1, ↓nb_let, nm_z0, nm_z1, nb_II, nb_IR, nb_RI, nb_RR, nm_IL, nm_IQ, nm_RL, nm_RQ, nm_LI, nm_LR, nm_LL, nm_LQ, nm_QI, nm_QR, nm_QL, nm_QQ, nm_rr, nm_ii, nm_eqm, not_false_eq_true, pk_sub, nm_div, nm_shl, nm_shr, nm_ush, nm_or8, nm_or64, nm_or256, nm_m1, nm_m3, nm_m7, nm_m15, nm_m31, nm_m63, nm_m255, nm_m511, nm_m1023, nm_m2047, nm_m65535, Nat.reduceMod, Nat.reducePow, Nat.reduceAdd, Nat.reduceSub, Nat.reduceMul, nm_bo, nm_bi, nm_rc, nm_ic, nm_ri, nm_rl, nm_rq, nm_ql, nm_qi, nm_li, nm_us, nm_uu, nm_cp, nm_sa31, nm_sa7, nm_m127, nm_m2, nm_nz, nm_nzk, nm_eq32, nm_nzf, if_true, if_false, ↓reduceIte, if_pos, if_neg]

/-- how far behind the last one the next READY one is; 17 without one -/
def nr (st : Nat → Int32) (la : Nat) : Nat := fN (fun k => decide (st ((la + k) % 16) = nI 1)) 1 16
theorem nr_le (st : Nat → Int32) (la : Nat) : 1 ≤ nr st la ∧ nr st la ≤ 17 ∧ (nr st la < 17 → st ((la + nr st la) % 16) = nI 1) := by
  obtain ⟨a, b, c, _⟩ := fN_le (fun k => decide (st ((la + k) % 16) = nI 1)) 16 1
  exact ⟨a, b, fun h => of_decide_eq_true (c h)⟩
theorem nk_next (n : Nat) (hn : 1024 < n) {M X : St × St} (hst : ∀ q : Nat, q < 16 → ∃ t : Nat, t < 4 ∧ sR M.1 6 (q * 7) = nI t ∧ sR X.1 1 q = nI t) {la : Nat} (hl : la < 16) : df_X6_nextReady n (nI la) M = some (if nr (sR X.1 1) la < 17 then nI ((la + nr (sR X.1 1) la) % 16) else -nI 1, M) := by
  obtain ⟨x1, x2, x3⟩ := nr_le (sR X.1 1) la
  obtain ⟨m, hm⟩ := nm_ls (fun m k => df_X6_nextReady_2 n m (nI la) (nI k) M) (fun k => decide (sR X.1 1 ((la + k) % 16) = nI 1)) 1 16 n (by omega) (fun k m h0 hk c => by
    have c := of_decide_eq_false c
    obtain ⟨t, ht, t1, t2⟩ := hst ((la + k) % 16) (by omega)
    rw [t2] at c
    have t1' : ¬ t = 1 := fun z => c (congrArg nI z)
    have k16 : ¬ 16 < k := by omega
    have u1 : (la + k) % 16 * 7 < 112 := by omega
    have u2 : (la + k) % 16 * 7 < 2 ^ 31 := by omega
    have u3 : k < 2 ^ 31 := by omega
    have u4 : la + k < 2 ^ 32 := by omega
    have u5 : t < 2 ^ 31 := by omega
    rw [show df_X6_nextReady_2 n (m + 1) = dF_X6_nextReady_2 n (df_X6_nextReady_2 n m) from rfl]
    simp (disch := (first | assumption | decide | omega)) only [dF_X6_nextReady_2, k16, Nat.add_zero, t1, t1', eq_self, Nat.reduceEqDiff, Nat.reduceLeDiff, nl_0, nl_1, nl_6, nl_7, nl_15, nl_16, nl_112, no_1, no_1024, pk_mul, nI_add, nm_ck, nI_clamp, nI_ltI, nI_leI, nI_eq, nb_b2, nb_b1, ↓nb_let, nm_z0, nm_z1, nb_II, nb_IR, nb_RI, nb_RR, nm_IL, nm_IQ, nm_RL, nm_RQ, nm_LI, nm_LR, nm_LL, nm_LQ, nm_QI, nm_QR, nm_QL, nm_QQ, nm_rr, nm_ii, nm_eqm, not_false_eq_true, pk_sub, nm_div, nm_shl, nm_shr, nm_ush, nm_or8, nm_or64, nm_or256, nm_m1, nm_m3, nm_m7, nm_m15, nm_m31, nm_m63, nm_m255, nm_m511, nm_m1023, nm_m2047, nm_m65535, Nat.reduceMod, Nat.reducePow, Nat.reduceAdd, Nat.reduceSub, Nat.reduceMul, nm_bo, nm_bi, nm_rc, nm_ic, nm_ri, nm_rl, nm_rq, nm_ql, nm_qi, nm_li, nm_us, nm_uu, nm_cp, nm_sa31, nm_sa7, nm_m127, nm_m2, nm_nz, nm_nzk, nm_eq32, nm_nzf, if_true, if_false, ↓reduceIte, if_pos, if_neg])
  have hm : df_X6_nextReady n (nI la) M = df_X6_nextReady_2 n (m + 1) (nI la) (nI (nr (sR X.1 1) la)) M := hm
  rw [hm, show df_X6_nextReady_2 n (m + 1) = dF_X6_nextReady_2 n (df_X6_nextReady_2 n m) from rfl]
  generalize nr (sR X.1 1) la = k at x1 x2 x3 ⊢
  by_cases c : k < 17
  · rw [if_pos c]
    obtain ⟨t, ht, t1, t2⟩ := hst ((la + k) % 16) (by omega)
    have e1 : sR M.1 6 ((la + k) % 16 * 7) = nI 1 := by rw [t1, ← t2]; exact x3 c
    have k16 : ¬ 16 < k := by omega
    have u1 : (la + k) % 16 * 7 < 112 := by omega
    have u2 : (la + k) % 16 * 7 < 2 ^ 31 := by omega
    have u3 : k < 2 ^ 31 := by omega
    have u4 : la + k < 2 ^ 32 := by omega
    simp (disch := (first | assumption | decide | omega)) only [dF_X6_nextReady_2, k16, Nat.add_zero, e1, eq_self, Nat.reduceEqDiff, Nat.reduceLeDiff, nl_0, nl_1, nl_6, nl_7, nl_15, nl_16, nl_112, no_1, no_1024, pk_mul, nI_add, nm_ck, nI_clamp, nI_ltI, nI_leI, nI_eq, nb_b2, nb_b1, ↓nb_let, nm_z0, nm_z1, nb_II, nb_IR, nb_RI, nb_RR, nm_IL, nm_IQ, nm_RL, nm_RQ, nm_LI, nm_LR, nm_LL, nm_LQ, nm_QI, nm_QR, nm_QL, nm_QQ, nm_rr, nm_ii, nm_eqm, not_false_eq_true, pk_sub, nm_div, nm_shl, nm_shr, nm_ush, nm_or8, nm_or64, nm_or256, nm_m1, nm_m3, nm_m7, nm_m15, nm_m31, nm_m63, nm_m255, nm_m511, nm_m1023, nm_m2047, nm_m65535, Nat.reduceMod, Nat.reducePow, Nat.reduceAdd, Nat.reduceSub, Nat.reduceMul, nm_bo, nm_bi, nm_rc, nm_ic, nm_ri, nm_rl, nm_rq, nm_ql, nm_qi, nm_li, nm_us, nm_uu, nm_cp, nm_sa31, nm_sa7, nm_m127, nm_m2, nm_nz, nm_nzk, nm_eq32, nm_nzf, if_true, if_false, ↓reduceIte, if_pos, if_neg]
  · rw [if_neg c]
    have k16 : 16 < k := by omega
    have u3 : k < 2 ^ 31 := by omega
    simp (disch := (first | assumption | decide | omega)) only [dF_X6_nextReady_2, k16, eq_self, Nat.reduceEqDiff, Nat.reduceLeDiff, nl_0, nl_1, nl_6, nl_7, nl_15, nl_16, nl_112, no_1, no_1024, pk_mul, nI_add, nm_ck, nI_clamp, nI_ltI, nI_leI, nI_eq, nb_b2, nb_b1, ↓nb_let, nm_z0, nm_z1, nb_II, nb_IR, nb_RI, nb_RR, nm_IL, nm_IQ, nm_RL, nm_RQ, nm_LI, nm_LR, nm_LL, nm_LQ, nm_QI, nm_QR, nm_QL, nm_QQ, nm_rr, nm_ii, nm_eqm, not_false_eq_true, pk_sub, nm_div, nm_shl, nm_shr, nm_ush, nm_or8, nm_or64, nm_or256, nm_m1, nm_m3, nm_m7, nm_m15, nm_m31, nm_m63, nm_m255, nm_m511, nm_m1023, nm_m2047, nm_m65535, Nat.reduceMod, Nat.reducePow, Nat.reduceAdd, Nat.reduceSub, Nat.reduceMul, nm_bo, nm_bi, nm_rc, nm_ic, nm_ri, nm_rl, nm_rq, nm_ql, nm_qi, nm_li, nm_us, nm_uu, nm_cp, nm_sa31, nm_sa7, nm_m127, nm_m2, nm_nz, nm_nzk, nm_eq32, nm_nzf, if_true, if_false, ↓reduceIte, if_pos, if_neg]
theorem nk_turn (n : Nat) (hn : 1024 < n) {X : St × St} (hst : ∀ q : Nat, q < 16 → ∃ t : Nat, t < 4 ∧ sR X.1 1 q = nI t) {la : Nat} (hl : la < 16) (el : sI X.1 2 = nI la) : df_X16_turn n X = some (pI (pI X.1 1 (if nr (sR X.1 1) la < 17 then nI ((la + nr (sR X.1 1) la) % 16) else -nI 1)) 2 (if nr (sR X.1 1) la < 17 then nI ((la + nr (sR X.1 1) la) % 16) else nI la), X.2) := by
  obtain ⟨x1, x2, x3⟩ := nr_le (sR X.1 1) la
  have md : ∀ k : Nat, la + k - (la + k) / 16 * 16 = (la + k) % 16 := fun k => by omega
  obtain ⟨m, hm⟩ := nm_ls (fun m k => df_X16_turn_7 n (m + 1) (nI k) (pI X.1 1 (-nI 1), X.2)) (fun k => decide (sR X.1 1 ((la + k) % 16) = nI 1)) 1 16 (n - 1) (by omega) (fun k m h0 hk c => by
    have c := of_decide_eq_false c
    obtain ⟨t, ht, t2⟩ := hst ((la + k) % 16) (by omega)
    rw [t2] at c
    have t1' : ¬ t = 1 := fun z => c (congrArg nI z)
    have k16 : ¬ 16 < k := by omega
    have u1 : (la + k) % 16 < 16 := by omega
    have u2 : (la + k) % 16 < 2 ^ 31 := by omega
    have u3 : k < 2 ^ 31 := by omega
    have u4 : la + k < 2 ^ 31 := by omega
    have u5 : t < 2 ^ 31 := by omega
    have mk := md k
    show df_X16_turn_7 n (m + 1 + 1) (nI k) _ = df_X16_turn_7 n (m + 1) (nI (k + 1)) _
    rw [show df_X16_turn_7 n (m + 1 + 1) = dF_X16_turn_7 n (df_X16_turn_7 n (m + 1)) from rfl]
    simp (disch := (first | assumption | decide | omega)) only [dF_X16_turn_7, df_X16_turn_47, k16, el, mk, t2, t1', eq_self, Nat.reduceEqDiff, Nat.reduceLeDiff, nl_1, nl_2, nl_16, no_1, no_1024, pk_mul, nI_add, nm_ck, nI_clamp, nI_ltI, nI_leI, nI_eq, nb_b2, nb_b1, ↓nb_let, nm_z0, nm_z1, nb_II, nb_IR, nb_RI, nb_RR, nm_IL, nm_IQ, nm_RL, nm_RQ, nm_LI, nm_LR, nm_LL, nm_LQ, nm_QI, nm_QR, nm_QL, nm_QQ, nm_rr, nm_ii, nm_eqm, not_false_eq_true, pk_sub, nm_div, nm_shl, nm_shr, nm_ush, nm_or8, nm_or64, nm_or256, nm_m1, nm_m3, nm_m7, nm_m15, nm_m31, nm_m63, nm_m255, nm_m511, nm_m1023, nm_m2047, nm_m65535, Nat.reduceMod, Nat.reducePow, Nat.reduceAdd, Nat.reduceSub, Nat.reduceMul, nm_bo, nm_bi, nm_rc, nm_ic, nm_ri, nm_rl, nm_rq, nm_ql, nm_qi, nm_li, nm_us, nm_uu, nm_cp, nm_sa31, nm_sa7, nm_m127, nm_m2, nm_nz, nm_nzk, nm_eq32, nm_nzf, if_true, if_false, ↓reduceIte, if_pos, if_neg])
  have e0 : df_X16_turn n X = df_X16_turn_7 n n (nI 1) (pI X.1 1 (-nI 1), X.2) := rfl
  have hm : df_X16_turn_7 n (n - 1 + 1) (nI 1) (pI X.1 1 (-nI 1), X.2) = df_X16_turn_7 n (m + 1 + 1) (nI (nr (sR X.1 1) la)) (pI X.1 1 (-nI 1), X.2) := hm
  rw [show n - 1 + 1 = n from by omega] at hm
  rw [e0, hm, show df_X16_turn_7 n (m + 1 + 1) = dF_X16_turn_7 n (dF_X16_turn_7 n (df_X16_turn_7 n m)) from rfl]
  generalize nr (sR X.1 1) la = k at x1 x2 x3 ⊢
  have u3 : k < 2 ^ 31 := by omega
  by_cases c : k < 17
  · rw [if_pos c, if_pos c]
    have e1 := x3 c
    have k16 : ¬ 16 < k := by omega
    have u1 : (la + k) % 16 < 16 := by omega
    have u2 : (la + k) % 16 < 2 ^ 31 := by omega
    have u4 : la + k < 2 ^ 31 := by omega
    have mk := md k
    by_cases k17 : 16 < k + 1
    · simp (disch := (first | assumption | decide | omega)) only [dF_X16_turn_7, df_X16_turn_47, df_X16_turn_56, df_X16_turn_76, k16, k17, el, mk, e1, eq_self, Nat.reduceEqDiff, Nat.reduceLeDiff, nm_ic (a := 2) (b := 1) (by decide), nl_1, nl_2, nl_16, no_1, no_1024, pk_mul, nI_add, nm_ck, nI_clamp, nI_ltI, nI_leI, nI_eq, nb_b2, nb_b1, ↓nb_let, nm_z0, nm_z1, nb_II, nb_IR, nb_RI, nb_RR, nm_IL, nm_IQ, nm_RL, nm_RQ, nm_LI, nm_LR, nm_LL, nm_LQ, nm_QI, nm_QR, nm_QL, nm_QQ, nm_rr, nm_ii, nm_eqm, not_false_eq_true, pk_sub, nm_div, nm_shl, nm_shr, nm_ush, nm_or8, nm_or64, nm_or256, nm_m1, nm_m3, nm_m7, nm_m15, nm_m31, nm_m63, nm_m255, nm_m511, nm_m1023, nm_m2047, nm_m65535, Nat.reduceMod, Nat.reducePow, Nat.reduceAdd, Nat.reduceSub, Nat.reduceMul, nm_bo, nm_bi, nm_rc, nm_ic, nm_ri, nm_rl, nm_rq, nm_ql, nm_qi, nm_li, nm_us, nm_uu, nm_cp, nm_sa31, nm_sa7, nm_m127, nm_m2, nm_nz, nm_nzk, nm_eq32, nm_nzf, if_true, if_false, ↓reduceIte, if_pos, if_neg]
    · simp (disch := (first | assumption | decide | omega)) only [dF_X16_turn_7, df_X16_turn_47, df_X16_turn_56, df_X16_turn_76, k16, k17, el, mk, e1, eq_self, Nat.reduceEqDiff, Nat.reduceLeDiff, nm_ic (a := 2) (b := 1) (by decide), nl_1, nl_2, nl_16, no_1, no_1024, pk_mul, nI_add, nm_ck, nI_clamp, nI_ltI, nI_leI, nI_eq, nb_b2, nb_b1, ↓nb_let, nm_z0, nm_z1, nb_II, nb_IR, nb_RI, nb_RR, nm_IL, nm_IQ, nm_RL, nm_RQ, nm_LI, nm_LR, nm_LL, nm_LQ, nm_QI, nm_QR, nm_QL, nm_QQ, nm_rr, nm_ii, nm_eqm, not_false_eq_true, pk_sub, nm_div, nm_shl, nm_shr, nm_ush, nm_or8, nm_or64, nm_or256, nm_m1, nm_m3, nm_m7, nm_m15, nm_m31, nm_m63, nm_m255, nm_m511, nm_m1023, nm_m2047, nm_m65535, Nat.reduceMod, Nat.reducePow, Nat.reduceAdd, Nat.reduceSub, Nat.reduceMul, nm_bo, nm_bi, nm_rc, nm_ic, nm_ri, nm_rl, nm_rq, nm_ql, nm_qi, nm_li, nm_us, nm_uu, nm_cp, nm_sa31, nm_sa7, nm_m127, nm_m2, nm_nz, nm_nzk, nm_eq32, nm_nzf, if_true, if_false, ↓reduceIte, if_pos, if_neg]
  · rw [if_neg c, if_neg c]
    have k16 : 16 < k := by omega
    simp (disch := (first | assumption | decide | omega)) only [dF_X16_turn_7, df_X16_turn_47, df_X16_turn_56, df_X16_turn_76, k16, el, eq_self, Nat.reduceEqDiff, Nat.reduceLeDiff, nm_ic (a := 2) (b := 1) (by decide), nl_1, nl_2, nl_16, no_1, no_1024, pk_mul, nI_add, nm_ck, nI_clamp, nI_ltI, nI_leI, nI_eq, nb_b2, nb_b1, ↓nb_let, nm_z0, nm_z1, nb_II, nb_IR, nb_RI, nb_RR, nm_IL, nm_IQ, nm_RL, nm_RQ, nm_LI, nm_LR, nm_LL, nm_LQ, nm_QI, nm_QR, nm_QL, nm_QQ, nm_rr, nm_ii, nm_eqm, not_false_eq_true, pk_sub, nm_div, nm_shl, nm_shr, nm_ush, nm_or8, nm_or64, nm_or256, nm_m1, nm_m3, nm_m7, nm_m15, nm_m31, nm_m63, nm_m255, nm_m511, nm_m1023, nm_m2047, nm_m65535, Nat.reduceMod, Nat.reducePow, Nat.reduceAdd, Nat.reduceSub, Nat.reduceMul, nm_bo, nm_bi, nm_rc, nm_ic, nm_ri, nm_rl, nm_rq, nm_ql, nm_qi, nm_li, nm_us, nm_uu, nm_cp, nm_sa31, nm_sa7, nm_m127, nm_m2, nm_nz, nm_nzk, nm_eq32, nm_nzf, if_true, if_false, ↓reduceIte, if_pos, if_neg]
/-- a current one is chosen: both -/
theorem nk_choose (n : Nat) (hn : 1024 < n) {M X : St × St} (hst : ∀ q : Nat, q < 16 → ∃ t : Nat, t < 4 ∧ sR M.1 6 (q * 7) = nI t ∧ sR X.1 1 q = nI t) {la : Nat} (hl : la < 16) (em : sI M.1 4 = nI la) : df_X6_chooseCurrent_22 n M = some (pI (pI M.1 3 (if nr (sR X.1 1) la < 17 then nI ((la + nr (sR X.1 1) la) % 16) else -nI 1)) 4 (if nr (sR X.1 1) la < 17 then nI ((la + nr (sR X.1 1) la) % 16) else nI la), M.2) := by
  have nx := nk_next n hn hst hl
  by_cases c : nr (sR X.1 1) la < 17
  · rw [if_pos c] at nx
    rw [if_pos c, if_pos c]
    have u1 : (la + nr (sR X.1 1) la) % 16 < 2 ^ 31 := by omega
    have u2 : ¬ (la + nr (sR X.1 1) la) % 16 < 0 := by omega
    generalize (la + nr (sR X.1 1) la) % 16 = q at nx u1 u2 ⊢
    simp (disch := (first | assumption | decide | omega)) only [df_X6_chooseCurrent_22, df_X6_chooseCurrent_34, df_X6_makeCurrent_14, df_X6_makeCurrent_0, df_X6_makeCurrent, em, nx, u2, eq_self, Nat.reduceEqDiff, Nat.reduceLeDiff, nl_0, nl_3, nl_4, no_1, no_1024, pk_mul, nI_add, nm_ck, nI_clamp, nI_ltI, nI_leI, nI_eq, nb_b2, nb_b1, ↓nb_let, nm_z0, nm_z1, nb_II, nb_IR, nb_RI, nb_RR, nm_IL, nm_IQ, nm_RL, nm_RQ, nm_LI, nm_LR, nm_LL, nm_LQ, nm_QI, nm_QR, nm_QL, nm_QQ, nm_rr, nm_ii, nm_eqm, not_false_eq_true, pk_sub, nm_div, nm_shl, nm_shr, nm_ush, nm_or8, nm_or64, nm_or256, nm_m1, nm_m3, nm_m7, nm_m15, nm_m31, nm_m63, nm_m255, nm_m511, nm_m1023, nm_m2047, nm_m65535, Nat.reduceMod, Nat.reducePow, Nat.reduceAdd, Nat.reduceSub, Nat.reduceMul, nm_bo, nm_bi, nm_rc, nm_ic, nm_ri, nm_rl, nm_rq, nm_ql, nm_qi, nm_li, nm_us, nm_uu, nm_cp, nm_sa31, nm_sa7, nm_m127, nm_m2, nm_nz, nm_nzk, nm_eq32, nm_nzf, if_true, if_false, ↓reduceIte, if_pos, if_neg]
  · rw [if_neg c] at nx
    rw [if_neg c, if_neg c, ← em]
    have e4 : pI (pI M.1 3 (-nI 1)) 4 (sI M.1 4) = pI M.1 3 (-nI 1) := nm_i0 (pI M.1 3 (-nI 1)) 4
    rw [e4]
    simp (disch := (first | assumption | decide | omega)) only [df_X6_chooseCurrent_22, df_X6_chooseCurrent_34, df_X6_makeCurrent_14, df_X6_makeCurrent_0, df_X6_makeCurrent, em, nx, nm_ltm, eq_self, Nat.reduceEqDiff, Nat.reduceLeDiff, nl_0, nl_3, nl_4, no_1, no_1024, pk_mul, nI_add, nm_ck, nI_clamp, nI_ltI, nI_leI, nI_eq, nb_b2, nb_b1, ↓nb_let, nm_z0, nm_z1, nb_II, nb_IR, nb_RI, nb_RR, nm_IL, nm_IQ, nm_RL, nm_RQ, nm_LI, nm_LR, nm_LL, nm_LQ, nm_QI, nm_QR, nm_QL, nm_QQ, nm_rr, nm_ii, nm_eqm, not_false_eq_true, pk_sub, nm_div, nm_shl, nm_shr, nm_ush, nm_or8, nm_or64, nm_or256, nm_m1, nm_m3, nm_m7, nm_m15, nm_m31, nm_m63, nm_m255, nm_m511, nm_m1023, nm_m2047, nm_m65535, Nat.reduceMod, Nat.reducePow, Nat.reduceAdd, Nat.reduceSub, Nat.reduceMul, nm_bo, nm_bi, nm_rc, nm_ic, nm_ri, nm_rl, nm_rq, nm_ql, nm_qi, nm_li, nm_us, nm_uu, nm_cp, nm_sa31, nm_sa7, nm_m127, nm_m2, nm_nz, nm_nzk, nm_eq32, nm_nzf, if_true, if_false, ↓reduceIte, if_pos, if_neg]

def cpx (f g : Nat → Int32) (a k : Nat) : Nat → Int32 := fun j => if a ≤ j ∧ j < a + k then g j else f j
theorem cpx_0 (f g : Nat → Int32) (a : Nat) : cpx f g a 0 = f := by
  funext j
  exact if_neg (by omega)
theorem cpx_s (f g : Nat → Int32) (a k : Nat) : upd (cpx f g a k) (a + k) (g (a + k)) = cpx f g a (k + 1) := by
  funext j
  show (if j = a + k then g (a + k) else if a ≤ j ∧ j < a + k then g j else f j) = if a ≤ j ∧ j < a + (k + 1) then g j else f j
  by_cases c : j = a + k
  · rw [if_pos c, if_pos (by omega), c]
  · rw [if_neg c]
    by_cases d : a ≤ j ∧ j < a + k
    · rw [if_pos d, if_pos (by omega)]
    · rw [if_neg d, if_neg (by omega)]
/-- a handler is entered: the reference -/
theorem nk_enter (n : Nat) (hn : 1024 < n) {X : St × St} {p s : Nat} (hp : p < 16) (hs : s < 16) (e12 : sI X.1 12 = nI p) : df_X16_enter n (nI s) X = some (pR (pR (pR (pR (pR X.1 8 (upd (sR X.1 8) p (nI 1))) 9 (upd (sR X.1 9) (32 * p + 10) (nI s))) 10 (upd (sR X.1 10) p (sR X.1 13 (16 * p + s)))) 11 (cpx (sR X.1 11) (sR X.1 9) (32 * p) 32)) 12 (upd (sR X.1 12) p (sR X.1 10 p)), X.2) := by
  obtain ⟨m, hm⟩ := nm_lq (fun m k => df_X16_enter_2 n m (nI s) (nI k) (pR X.1 11 (cpx (sR X.1 11) (sR X.1 9) (32 * p) k), X.2)) 32 n (by omega) (fun k m hk => by
    have u1 : 32 * p + k < 512 := by omega
    have u2 : 32 * p + k < 2 ^ 31 := by omega
    have u3 : k < 2 ^ 31 := by omega
    have k32 : ¬ 32 ≤ k := by omega
    have cs := cpx_s (sR X.1 11) (sR X.1 9) (32 * p) k
    rw [show df_X16_enter_2 n (m + 1) = dF_X16_enter_2 n (df_X16_enter_2 n m) from rfl]
    simp (disch := (first | assumption | decide | omega)) only [dF_X16_enter_2, k32, e12, cs, eq_self, Nat.reduceEqDiff, Nat.reduceLeDiff, nl_1, nl_8, nl_9, nl_10, nl_11, nl_12, nl_13, nl_16, nl_32, nl_256, nl_512, no_1, no_1024, pk_mul, nI_add, nm_ck, nI_clamp, nI_ltI, nI_leI, nI_eq, nb_b2, nb_b1, ↓nb_let, nm_z0, nm_z1, nb_II, nb_IR, nb_RI, nb_RR, nm_IL, nm_IQ, nm_RL, nm_RQ, nm_LI, nm_LR, nm_LL, nm_LQ, nm_QI, nm_QR, nm_QL, nm_QQ, nm_rr, nm_ii, nm_eqm, not_false_eq_true, pk_sub, nm_div, nm_shl, nm_shr, nm_ush, nm_or8, nm_or64, nm_or256, nm_m1, nm_m3, nm_m7, nm_m15, nm_m31, nm_m63, nm_m255, nm_m511, nm_m1023, nm_m2047, nm_m65535, Nat.reduceMod, Nat.reducePow, Nat.reduceAdd, Nat.reduceSub, Nat.reduceMul, nm_bo, nm_bi, nm_rc, nm_ic, nm_ri, nm_rl, nm_rq, nm_ql, nm_qi, nm_li, nm_us, nm_uu, nm_cp, nm_sa31, nm_sa7, nm_m127, nm_m2, nm_nz, nm_nzk, nm_eq32, nm_nzf, if_true, if_false, ↓reduceIte, if_pos, if_neg])
  rw [cpx_0, nm_r0] at hm
  refine Eq.trans hm ?_
  have u1 : 32 * p + 10 < 512 := by omega
  have u2 : 32 * p + 10 < 2 ^ 31 := by omega
  have u3 : p < 2 ^ 31 := by omega
  have u4 : 16 * p + s < 256 := by omega
  have u5 : 16 * p + s < 2 ^ 31 := by omega
  rw [show df_X16_enter_2 n (m + 1) = dF_X16_enter_2 n (df_X16_enter_2 n m) from rfl]
  simp (disch := (first | assumption | decide | omega)) only [dF_X16_enter_2, e12, eq_self, Nat.reduceEqDiff, Nat.reduceLeDiff, nm_rc (a := 9) (b := 8) (by decide), nm_rc (a := 10) (b := 8) (by decide), nm_rc (a := 10) (b := 9) (by decide), nm_rc (a := 11) (b := 8) (by decide), nm_rc (a := 11) (b := 9) (by decide), nm_rc (a := 11) (b := 10) (by decide), nm_rc (a := 12) (b := 8) (by decide), nm_rc (a := 12) (b := 9) (by decide), nm_rc (a := 12) (b := 10) (by decide), nm_rc (a := 12) (b := 11) (by decide), nl_1, nl_8, nl_9, nl_10, nl_11, nl_12, nl_13, nl_16, nl_32, nl_256, nl_512, no_1, no_1024, pk_mul, nI_add, nm_ck, nI_clamp, nI_ltI, nI_leI, nI_eq, nb_b2, nb_b1, ↓nb_let, nm_z0, nm_z1, nb_II, nb_IR, nb_RI, nb_RR, nm_IL, nm_IQ, nm_RL, nm_RQ, nm_LI, nm_LR, nm_LL, nm_LQ, nm_QI, nm_QR, nm_QL, nm_QQ, nm_rr, nm_ii, nm_eqm, not_false_eq_true, pk_sub, nm_div, nm_shl, nm_shr, nm_ush, nm_or8, nm_or64, nm_or256, nm_m1, nm_m3, nm_m7, nm_m15, nm_m31, nm_m63, nm_m255, nm_m511, nm_m1023, nm_m2047, nm_m65535, Nat.reduceMod, Nat.reducePow, Nat.reduceAdd, Nat.reduceSub, Nat.reduceMul, nm_bo, nm_bi, nm_rc, nm_ic, nm_ri, nm_rl, nm_rq, nm_ql, nm_qi, nm_li, nm_us, nm_uu, nm_cp, nm_sa31, nm_sa7, nm_m127, nm_m2, nm_nz, nm_nzk, nm_eq32, nm_nzf, if_true, if_false, ↓reduceIte, if_pos, if_neg]
/-- a handler is entered: the class -/
theorem nk_take (n : Nat) {K : St × (St × (St × St))} {p s : Nat} (hp : p < 16) (hs : s < 16) (hh : ¬ sR K.2.2.1 5 (p * 16 + s) = nI 0) : df_X5_take n (nI p) (nI s) (nI 0) K = some (K.1, (K.2.1, (pR (pR (pR K.2.2.1 3 (upd (upd (sR K.2.2.1 3) (p * 33 + 10) (nI s)) (p * 33 + 32) (sR K.2.2.1 5 (p * 16 + s)))) 4 (va_cpy (sR K.2.2.1 3) (sR K.2.2.1 4) (p * 33) (p * 33) 33)) 6 (upd (sR K.2.2.1 6) (p * 7 + 4) (nI 1)), K.2.2.2))) := by
  have u1 : p * 16 + s < 256 := by omega
  have u2 : p * 16 + s < 2 ^ 31 := by omega
  have u3 : p * 33 + 33 ≤ 528 := by omega
  have u4 : p * 33 < 2 ^ 31 := by omega
  have u5 : p * 7 + 4 < 112 := by omega
  have u6 : p * 7 + 4 < 2 ^ 31 := by omega
  have u7 : p * 33 + 10 < 528 := by omega
  have u8 : p * 33 + 10 < 2 ^ 31 := by omega
  have u9 : p * 33 + 32 < 528 := by omega
  have u10 : p * 33 + 32 < 2 ^ 31 := by omega
  simp (disch := (first | assumption | decide | omega)) only [df_X5_take, df_X5_take_0, hh, eq_self, Nat.reduceEqDiff, Nat.reduceLeDiff, nm_rc (a := 4) (b := 3) (by decide), nm_rc (a := 6) (b := 3) (by decide), nm_rc (a := 6) (b := 4) (by decide), nl_0, nl_1, nl_3, nl_4, nl_5, nl_6, nl_7, nl_10, nl_16, nl_32, nl_33, nl_112, nl_256, nl_528, no_1, no_1024, pk_mul, nI_add, nm_ck, nI_clamp, nI_ltI, nI_leI, nI_eq, nb_b2, nb_b1, ↓nb_let, nm_z0, nm_z1, nb_II, nb_IR, nb_RI, nb_RR, nm_IL, nm_IQ, nm_RL, nm_RQ, nm_LI, nm_LR, nm_LL, nm_LQ, nm_QI, nm_QR, nm_QL, nm_QQ, nm_rr, nm_ii, nm_eqm, not_false_eq_true, pk_sub, nm_div, nm_shl, nm_shr, nm_ush, nm_or8, nm_or64, nm_or256, nm_m1, nm_m3, nm_m7, nm_m15, nm_m31, nm_m63, nm_m255, nm_m511, nm_m1023, nm_m2047, nm_m65535, Nat.reduceMod, Nat.reducePow, Nat.reduceAdd, Nat.reduceSub, Nat.reduceMul, nm_bo, nm_bi, nm_rc, nm_ic, nm_ri, nm_rl, nm_rq, nm_ql, nm_qi, nm_li, nm_us, nm_uu, nm_cp, nm_sa31, nm_sa7, nm_m127, nm_m2, nm_nz, nm_nzk, nm_eq32, nm_nzf, if_true, if_false, ↓reduceIte, if_pos, if_neg]

theorem nk_readWaits (n : Nat) (hn : 1024 < n) {D : St} {X : St × St} (h : rD (sR D 0) (sR D 1) (sR D 2) (sR D 4) (sR X.1 14) (sR X.1 19) (sR X.1 20) (sR X.1 21) (sR X.1 22) (sR X.1 23) (sR X.1 24) (sR X.1 25)) (hl : ∀ t : Nat, t < 8 → sR X.1 23 t = nI 1 → ∃ L : Nat, L ≤ 512 ∧ sR D 2 (t * 4) = nI L ∧ sR X.1 26 t = nI L) (ht : ∃ T : Nat, T ≤ 512 ∧ sI D 0 = nI T ∧ sI X.1 7 = nI T) {o N : Nat} (ho : o < 48) (hk : ¬ sR X.1 19 o = nI 0) (hN : N ≤ 512) : ∃ b : Bool, df_X10_readWaits n (nI o) (nI N) D = some (bI b, D) ∧ df_X16_waits n (nI o) (nI 1) (nI N) X = some (bI b, X) := by
  rcases h.2.1 o ho with ⟨z1, _⟩ | ⟨k, t, y1, y2, y3, y4, y5, y6, y7, y8, y9, y10, _⟩
  · exact absurd z1 hk
  have u1 : o * 5 < 240 := by omega
  have u2 : o * 5 < 2 ^ 31 := by omega
  have u3 : o * 5 + 2 < 240 := by omega
  have u4 : o * 5 + 2 < 2 ^ 31 := by omega
  have u5 : o < 2 ^ 31 := by omega
  have u6 : k < 2 ^ 31 := by omega
  have u7 : N < 2 ^ 31 := by omega
  have o0 : 0 ≤ o := by omega
  have o1 : ¬ o < 0 := by omega
  by_cases n0 : N = 0
  · subst n0
    exact ⟨false, by simp (disch := (first | assumption | decide | omega)) only [df_X10_readWaits_8, df_X10_readWaits_87, df_X10_readWaits_86, df_X10_readWaits_52, df_X10_readWaits_0, df_X10_readWaits, bI_f, eq_self, Nat.reduceEqDiff, Nat.reduceLeDiff, nl_0, nl_1, nl_2, nl_4, nl_5, nl_32, nl_240, no_1, no_1024, pk_mul, nI_add, nm_ck, nI_clamp, nI_ltI, nI_leI, nI_eq, nb_b2, nb_b1, ↓nb_let, nm_z0, nm_z1, nb_II, nb_IR, nb_RI, nb_RR, nm_IL, nm_IQ, nm_RL, nm_RQ, nm_LI, nm_LR, nm_LL, nm_LQ, nm_QI, nm_QR, nm_QL, nm_QQ, nm_rr, nm_ii, nm_eqm, not_false_eq_true, pk_sub, nm_div, nm_shl, nm_shr, nm_ush, nm_or8, nm_or64, nm_or256, nm_m1, nm_m3, nm_m7, nm_m15, nm_m31, nm_m63, nm_m255, nm_m511, nm_m1023, nm_m2047, nm_m65535, Nat.reduceMod, Nat.reducePow, Nat.reduceAdd, Nat.reduceSub, Nat.reduceMul, nm_bo, nm_bi, nm_rc, nm_ic, nm_ri, nm_rl, nm_rq, nm_ql, nm_qi, nm_li, nm_us, nm_uu, nm_cp, nm_sa31, nm_sa7, nm_m127, nm_m2, nm_nz, nm_nzk, nm_eq32, nm_nzf, if_true, if_false, ↓reduceIte, if_pos, if_neg], by simp (disch := (first | assumption | decide | omega)) only [df_X16_waits_125, df_X16_waits_124, df_X16_waits_80, df_X16_waits_79, df_X16_waits_40, df_X16_waits_39, df_X16_waits_0, df_X16_waits, bI_f, eq_self, Nat.reduceEqDiff, Nat.reduceLeDiff, nl_0, nl_1, nl_2, nl_4, nl_7, nl_8, nl_19, nl_20, nl_26, nl_48, nl_512, no_1, no_1024, pk_mul, nI_add, nm_ck, nI_clamp, nI_ltI, nI_leI, nI_eq, nb_b2, nb_b1, ↓nb_let, nm_z0, nm_z1, nb_II, nb_IR, nb_RI, nb_RR, nm_IL, nm_IQ, nm_RL, nm_RQ, nm_LI, nm_LR, nm_LL, nm_LQ, nm_QI, nm_QR, nm_QL, nm_QQ, nm_rr, nm_ii, nm_eqm, not_false_eq_true, pk_sub, nm_div, nm_shl, nm_shr, nm_ush, nm_or8, nm_or64, nm_or256, nm_m1, nm_m3, nm_m7, nm_m15, nm_m31, nm_m63, nm_m255, nm_m511, nm_m1023, nm_m2047, nm_m65535, Nat.reduceMod, Nat.reducePow, Nat.reduceAdd, Nat.reduceSub, Nat.reduceMul, nm_bo, nm_bi, nm_rc, nm_ic, nm_ri, nm_rl, nm_rq, nm_ql, nm_qi, nm_li, nm_us, nm_uu, nm_cp, nm_sa31, nm_sa7, nm_m127, nm_m2, nm_nz, nm_nzk, nm_eq32, nm_nzf, if_true, if_false, ↓reduceIte, if_pos, if_neg]⟩
  by_cases k4 : k = 4
  · subst k4
    obtain ⟨T, hT, t1, t2⟩ := ht
    have v1 : T < 2 ^ 31 := by omega
    by_cases c : T = 0
    · exact ⟨true, by simp (disch := (first | assumption | decide | omega)) only [df_X10_readWaits_8, df_X10_readWaits_87, df_X10_readWaits_86, df_X10_readWaits_52, df_X10_readWaits_0, df_X10_readWaits, n0, o0, Nat.add_zero, y5, y8, t1, c, bI_t, eq_self, Nat.reduceEqDiff, Nat.reduceLeDiff, nl_0, nl_1, nl_2, nl_4, nl_5, nl_32, nl_240, no_1, no_1024, pk_mul, nI_add, nm_ck, nI_clamp, nI_ltI, nI_leI, nI_eq, nb_b2, nb_b1, ↓nb_let, nm_z0, nm_z1, nb_II, nb_IR, nb_RI, nb_RR, nm_IL, nm_IQ, nm_RL, nm_RQ, nm_LI, nm_LR, nm_LL, nm_LQ, nm_QI, nm_QR, nm_QL, nm_QQ, nm_rr, nm_ii, nm_eqm, not_false_eq_true, pk_sub, nm_div, nm_shl, nm_shr, nm_ush, nm_or8, nm_or64, nm_or256, nm_m1, nm_m3, nm_m7, nm_m15, nm_m31, nm_m63, nm_m255, nm_m511, nm_m1023, nm_m2047, nm_m65535, Nat.reduceMod, Nat.reducePow, Nat.reduceAdd, Nat.reduceSub, Nat.reduceMul, nm_bo, nm_bi, nm_rc, nm_ic, nm_ri, nm_rl, nm_rq, nm_ql, nm_qi, nm_li, nm_us, nm_uu, nm_cp, nm_sa31, nm_sa7, nm_m127, nm_m2, nm_nz, nm_nzk, nm_eq32, nm_nzf, if_true, if_false, ↓reduceIte, if_pos, if_neg], by simp (disch := (first | assumption | decide | omega)) only [df_X16_waits_125, df_X16_waits_124, df_X16_waits_80, df_X16_waits_79, df_X16_waits_40, df_X16_waits_39, df_X16_waits_0, df_X16_waits, n0, y4, y7, t2, c, bI_t, eq_self, Nat.reduceEqDiff, Nat.reduceLeDiff, nl_0, nl_1, nl_2, nl_4, nl_7, nl_8, nl_19, nl_20, nl_26, nl_48, nl_512, no_1, no_1024, pk_mul, nI_add, nm_ck, nI_clamp, nI_ltI, nI_leI, nI_eq, nb_b2, nb_b1, ↓nb_let, nm_z0, nm_z1, nb_II, nb_IR, nb_RI, nb_RR, nm_IL, nm_IQ, nm_RL, nm_RQ, nm_LI, nm_LR, nm_LL, nm_LQ, nm_QI, nm_QR, nm_QL, nm_QQ, nm_rr, nm_ii, nm_eqm, not_false_eq_true, pk_sub, nm_div, nm_shl, nm_shr, nm_ush, nm_or8, nm_or64, nm_or256, nm_m1, nm_m3, nm_m7, nm_m15, nm_m31, nm_m63, nm_m255, nm_m511, nm_m1023, nm_m2047, nm_m65535, Nat.reduceMod, Nat.reducePow, Nat.reduceAdd, Nat.reduceSub, Nat.reduceMul, nm_bo, nm_bi, nm_rc, nm_ic, nm_ri, nm_rl, nm_rq, nm_ql, nm_qi, nm_li, nm_us, nm_uu, nm_cp, nm_sa31, nm_sa7, nm_m127, nm_m2, nm_nz, nm_nzk, nm_eq32, nm_nzf, if_true, if_false, ↓reduceIte, if_pos, if_neg]⟩
    · exact ⟨false, by simp (disch := (first | assumption | decide | omega)) only [df_X10_readWaits_8, df_X10_readWaits_87, df_X10_readWaits_86, df_X10_readWaits_52, df_X10_readWaits_0, df_X10_readWaits, n0, o0, Nat.add_zero, y5, y8, t1, c, bI_f, eq_self, Nat.reduceEqDiff, Nat.reduceLeDiff, nl_0, nl_1, nl_2, nl_4, nl_5, nl_32, nl_240, no_1, no_1024, pk_mul, nI_add, nm_ck, nI_clamp, nI_ltI, nI_leI, nI_eq, nb_b2, nb_b1, ↓nb_let, nm_z0, nm_z1, nb_II, nb_IR, nb_RI, nb_RR, nm_IL, nm_IQ, nm_RL, nm_RQ, nm_LI, nm_LR, nm_LL, nm_LQ, nm_QI, nm_QR, nm_QL, nm_QQ, nm_rr, nm_ii, nm_eqm, not_false_eq_true, pk_sub, nm_div, nm_shl, nm_shr, nm_ush, nm_or8, nm_or64, nm_or256, nm_m1, nm_m3, nm_m7, nm_m15, nm_m31, nm_m63, nm_m255, nm_m511, nm_m1023, nm_m2047, nm_m65535, Nat.reduceMod, Nat.reducePow, Nat.reduceAdd, Nat.reduceSub, Nat.reduceMul, nm_bo, nm_bi, nm_rc, nm_ic, nm_ri, nm_rl, nm_rq, nm_ql, nm_qi, nm_li, nm_us, nm_uu, nm_cp, nm_sa31, nm_sa7, nm_m127, nm_m2, nm_nz, nm_nzk, nm_eq32, nm_nzf, if_true, if_false, ↓reduceIte, if_pos, if_neg], by simp (disch := (first | assumption | decide | omega)) only [df_X16_waits_125, df_X16_waits_124, df_X16_waits_80, df_X16_waits_79, df_X16_waits_40, df_X16_waits_39, df_X16_waits_0, df_X16_waits, n0, y4, y7, t2, c, bI_f, eq_self, Nat.reduceEqDiff, Nat.reduceLeDiff, nl_0, nl_1, nl_2, nl_4, nl_7, nl_8, nl_19, nl_20, nl_26, nl_48, nl_512, no_1, no_1024, pk_mul, nI_add, nm_ck, nI_clamp, nI_ltI, nI_leI, nI_eq, nb_b2, nb_b1, ↓nb_let, nm_z0, nm_z1, nb_II, nb_IR, nb_RI, nb_RR, nm_IL, nm_IQ, nm_RL, nm_RQ, nm_LI, nm_LR, nm_LL, nm_LQ, nm_QI, nm_QR, nm_QL, nm_QQ, nm_rr, nm_ii, nm_eqm, not_false_eq_true, pk_sub, nm_div, nm_shl, nm_shr, nm_ush, nm_or8, nm_or64, nm_or256, nm_m1, nm_m3, nm_m7, nm_m15, nm_m31, nm_m63, nm_m255, nm_m511, nm_m1023, nm_m2047, nm_m65535, Nat.reduceMod, Nat.reducePow, Nat.reduceAdd, Nat.reduceSub, Nat.reduceMul, nm_bo, nm_bi, nm_rc, nm_ic, nm_ri, nm_rl, nm_rq, nm_ql, nm_qi, nm_li, nm_us, nm_uu, nm_cp, nm_sa31, nm_sa7, nm_m127, nm_m2, nm_nz, nm_nzk, nm_eq32, nm_nzf, if_true, if_false, ↓reduceIte, if_pos, if_neg]⟩
  by_cases k1 : k = 1
  · subst k1
    have t8 := y9 (by omega)
    have x1 : 0 < cE (sR X.1 19) (sR X.1 20) 1 t := cN_p (P := fun j => decide (sR X.1 19 j = nI 1 ∧ sR X.1 20 j = nI t)) (i := o) (decide_eq_true ⟨y4, y7⟩) ho
    obtain ⟨L, hL, l1, l2⟩ := hl t t8 (by rw [(h.2.2.1 t t8).2.2, decide_eq_true (show 0 < cE (sR X.1 19) (sR X.1 20) 1 t + cE (sR X.1 19) (sR X.1 20) 2 t by omega)]; rfl)
    have e2 := (h.2.2.1 t t8).2.1
    have en : df_X16_ends n (nI 2) (nI t) X = some (nI (cE (sR X.1 19) (sR X.1 20) 2 t), X) := nb_ends n (by omega) (nI 2) (nI t) X
    have cl := cE_le (sR X.1 19) (sR X.1 20) 2 t
    generalize cE (sR X.1 19) (sR X.1 20) 2 t = x at e2 en cl
    have v1 : t * 4 < 32 := by omega
    have v2 : t * 4 < 2 ^ 31 := by omega
    have v3 : t * 4 + 2 < 32 := by omega
    have v4 : t * 4 + 2 < 2 ^ 31 := by omega
    have v5 : L < 2 ^ 31 := by omega
    have v6 : x < 2 ^ 31 := by omega
    have v7 : t < 2 ^ 31 := by omega
    by_cases c : L = 0
    · by_cases d : x ≤ 0
      · exact ⟨false, by simp (disch := (first | assumption | decide | omega)) only [df_X10_readWaits_8, df_X10_readWaits_87, df_X10_readWaits_86, df_X10_readWaits_52, df_X10_readWaits_0, df_X10_readWaits, n0, o0, Nat.add_zero, y5, y8, l1, c, e2, d, bI_f, eq_self, Nat.reduceEqDiff, Nat.reduceLeDiff, nl_0, nl_1, nl_2, nl_4, nl_5, nl_32, nl_240, no_1, no_1024, pk_mul, nI_add, nm_ck, nI_clamp, nI_ltI, nI_leI, nI_eq, nb_b2, nb_b1, ↓nb_let, nm_z0, nm_z1, nb_II, nb_IR, nb_RI, nb_RR, nm_IL, nm_IQ, nm_RL, nm_RQ, nm_LI, nm_LR, nm_LL, nm_LQ, nm_QI, nm_QR, nm_QL, nm_QQ, nm_rr, nm_ii, nm_eqm, not_false_eq_true, pk_sub, nm_div, nm_shl, nm_shr, nm_ush, nm_or8, nm_or64, nm_or256, nm_m1, nm_m3, nm_m7, nm_m15, nm_m31, nm_m63, nm_m255, nm_m511, nm_m1023, nm_m2047, nm_m65535, Nat.reduceMod, Nat.reducePow, Nat.reduceAdd, Nat.reduceSub, Nat.reduceMul, nm_bo, nm_bi, nm_rc, nm_ic, nm_ri, nm_rl, nm_rq, nm_ql, nm_qi, nm_li, nm_us, nm_uu, nm_cp, nm_sa31, nm_sa7, nm_m127, nm_m2, nm_nz, nm_nzk, nm_eq32, nm_nzf, if_true, if_false, ↓reduceIte, if_pos, if_neg], by simp (disch := (first | assumption | decide | omega)) only [df_X16_waits_125, df_X16_waits_124, df_X16_waits_80, df_X16_waits_79, df_X16_waits_40, df_X16_waits_39, df_X16_waits_0, df_X16_waits, n0, y4, y7, l2, c, en, d, bI_f, eq_self, Nat.reduceEqDiff, Nat.reduceLeDiff, nl_0, nl_1, nl_2, nl_4, nl_7, nl_8, nl_19, nl_20, nl_26, nl_48, nl_512, no_1, no_1024, pk_mul, nI_add, nm_ck, nI_clamp, nI_ltI, nI_leI, nI_eq, nb_b2, nb_b1, ↓nb_let, nm_z0, nm_z1, nb_II, nb_IR, nb_RI, nb_RR, nm_IL, nm_IQ, nm_RL, nm_RQ, nm_LI, nm_LR, nm_LL, nm_LQ, nm_QI, nm_QR, nm_QL, nm_QQ, nm_rr, nm_ii, nm_eqm, not_false_eq_true, pk_sub, nm_div, nm_shl, nm_shr, nm_ush, nm_or8, nm_or64, nm_or256, nm_m1, nm_m3, nm_m7, nm_m15, nm_m31, nm_m63, nm_m255, nm_m511, nm_m1023, nm_m2047, nm_m65535, Nat.reduceMod, Nat.reducePow, Nat.reduceAdd, Nat.reduceSub, Nat.reduceMul, nm_bo, nm_bi, nm_rc, nm_ic, nm_ri, nm_rl, nm_rq, nm_ql, nm_qi, nm_li, nm_us, nm_uu, nm_cp, nm_sa31, nm_sa7, nm_m127, nm_m2, nm_nz, nm_nzk, nm_eq32, nm_nzf, if_true, if_false, ↓reduceIte, if_pos, if_neg]⟩
      · exact ⟨true, by simp (disch := (first | assumption | decide | omega)) only [df_X10_readWaits_8, df_X10_readWaits_87, df_X10_readWaits_86, df_X10_readWaits_52, df_X10_readWaits_0, df_X10_readWaits, n0, o0, Nat.add_zero, y5, y8, l1, c, e2, d, bI_t, eq_self, Nat.reduceEqDiff, Nat.reduceLeDiff, nl_0, nl_1, nl_2, nl_4, nl_5, nl_32, nl_240, no_1, no_1024, pk_mul, nI_add, nm_ck, nI_clamp, nI_ltI, nI_leI, nI_eq, nb_b2, nb_b1, ↓nb_let, nm_z0, nm_z1, nb_II, nb_IR, nb_RI, nb_RR, nm_IL, nm_IQ, nm_RL, nm_RQ, nm_LI, nm_LR, nm_LL, nm_LQ, nm_QI, nm_QR, nm_QL, nm_QQ, nm_rr, nm_ii, nm_eqm, not_false_eq_true, pk_sub, nm_div, nm_shl, nm_shr, nm_ush, nm_or8, nm_or64, nm_or256, nm_m1, nm_m3, nm_m7, nm_m15, nm_m31, nm_m63, nm_m255, nm_m511, nm_m1023, nm_m2047, nm_m65535, Nat.reduceMod, Nat.reducePow, Nat.reduceAdd, Nat.reduceSub, Nat.reduceMul, nm_bo, nm_bi, nm_rc, nm_ic, nm_ri, nm_rl, nm_rq, nm_ql, nm_qi, nm_li, nm_us, nm_uu, nm_cp, nm_sa31, nm_sa7, nm_m127, nm_m2, nm_nz, nm_nzk, nm_eq32, nm_nzf, if_true, if_false, ↓reduceIte, if_pos, if_neg], by simp (disch := (first | assumption | decide | omega)) only [df_X16_waits_125, df_X16_waits_124, df_X16_waits_80, df_X16_waits_79, df_X16_waits_40, df_X16_waits_39, df_X16_waits_0, df_X16_waits, n0, y4, y7, l2, c, en, d, bI_t, eq_self, Nat.reduceEqDiff, Nat.reduceLeDiff, nl_0, nl_1, nl_2, nl_4, nl_7, nl_8, nl_19, nl_20, nl_26, nl_48, nl_512, no_1, no_1024, pk_mul, nI_add, nm_ck, nI_clamp, nI_ltI, nI_leI, nI_eq, nb_b2, nb_b1, ↓nb_let, nm_z0, nm_z1, nb_II, nb_IR, nb_RI, nb_RR, nm_IL, nm_IQ, nm_RL, nm_RQ, nm_LI, nm_LR, nm_LL, nm_LQ, nm_QI, nm_QR, nm_QL, nm_QQ, nm_rr, nm_ii, nm_eqm, not_false_eq_true, pk_sub, nm_div, nm_shl, nm_shr, nm_ush, nm_or8, nm_or64, nm_or256, nm_m1, nm_m3, nm_m7, nm_m15, nm_m31, nm_m63, nm_m255, nm_m511, nm_m1023, nm_m2047, nm_m65535, Nat.reduceMod, Nat.reducePow, Nat.reduceAdd, Nat.reduceSub, Nat.reduceMul, nm_bo, nm_bi, nm_rc, nm_ic, nm_ri, nm_rl, nm_rq, nm_ql, nm_qi, nm_li, nm_us, nm_uu, nm_cp, nm_sa31, nm_sa7, nm_m127, nm_m2, nm_nz, nm_nzk, nm_eq32, nm_nzf, if_true, if_false, ↓reduceIte, if_pos, if_neg]⟩
    · exact ⟨false, by simp (disch := (first | assumption | decide | omega)) only [df_X10_readWaits_8, df_X10_readWaits_87, df_X10_readWaits_86, df_X10_readWaits_52, df_X10_readWaits_0, df_X10_readWaits, n0, o0, Nat.add_zero, y5, y8, l1, c, bI_f, eq_self, Nat.reduceEqDiff, Nat.reduceLeDiff, nl_0, nl_1, nl_2, nl_4, nl_5, nl_32, nl_240, no_1, no_1024, pk_mul, nI_add, nm_ck, nI_clamp, nI_ltI, nI_leI, nI_eq, nb_b2, nb_b1, ↓nb_let, nm_z0, nm_z1, nb_II, nb_IR, nb_RI, nb_RR, nm_IL, nm_IQ, nm_RL, nm_RQ, nm_LI, nm_LR, nm_LL, nm_LQ, nm_QI, nm_QR, nm_QL, nm_QQ, nm_rr, nm_ii, nm_eqm, not_false_eq_true, pk_sub, nm_div, nm_shl, nm_shr, nm_ush, nm_or8, nm_or64, nm_or256, nm_m1, nm_m3, nm_m7, nm_m15, nm_m31, nm_m63, nm_m255, nm_m511, nm_m1023, nm_m2047, nm_m65535, Nat.reduceMod, Nat.reducePow, Nat.reduceAdd, Nat.reduceSub, Nat.reduceMul, nm_bo, nm_bi, nm_rc, nm_ic, nm_ri, nm_rl, nm_rq, nm_ql, nm_qi, nm_li, nm_us, nm_uu, nm_cp, nm_sa31, nm_sa7, nm_m127, nm_m2, nm_nz, nm_nzk, nm_eq32, nm_nzf, if_true, if_false, ↓reduceIte, if_pos, if_neg], by simp (disch := (first | assumption | decide | omega)) only [df_X16_waits_125, df_X16_waits_124, df_X16_waits_80, df_X16_waits_79, df_X16_waits_40, df_X16_waits_39, df_X16_waits_0, df_X16_waits, n0, y4, y7, l2, c, bI_f, eq_self, Nat.reduceEqDiff, Nat.reduceLeDiff, nl_0, nl_1, nl_2, nl_4, nl_7, nl_8, nl_19, nl_20, nl_26, nl_48, nl_512, no_1, no_1024, pk_mul, nI_add, nm_ck, nI_clamp, nI_ltI, nI_leI, nI_eq, nb_b2, nb_b1, ↓nb_let, nm_z0, nm_z1, nb_II, nb_IR, nb_RI, nb_RR, nm_IL, nm_IQ, nm_RL, nm_RQ, nm_LI, nm_LR, nm_LL, nm_LQ, nm_QI, nm_QR, nm_QL, nm_QQ, nm_rr, nm_ii, nm_eqm, not_false_eq_true, pk_sub, nm_div, nm_shl, nm_shr, nm_ush, nm_or8, nm_or64, nm_or256, nm_m1, nm_m3, nm_m7, nm_m15, nm_m31, nm_m63, nm_m255, nm_m511, nm_m1023, nm_m2047, nm_m65535, Nat.reduceMod, Nat.reducePow, Nat.reduceAdd, Nat.reduceSub, Nat.reduceMul, nm_bo, nm_bi, nm_rc, nm_ic, nm_ri, nm_rl, nm_rq, nm_ql, nm_qi, nm_li, nm_us, nm_uu, nm_cp, nm_sa31, nm_sa7, nm_m127, nm_m2, nm_nz, nm_nzk, nm_eq32, nm_nzf, if_true, if_false, ↓reduceIte, if_pos, if_neg]⟩
  · by_cases k2 : k = 2
    · exact ⟨false, by simp (disch := (first | assumption | decide | omega)) only [df_X10_readWaits_8, df_X10_readWaits_87, df_X10_readWaits_86, df_X10_readWaits_52, df_X10_readWaits_0, df_X10_readWaits, n0, o0, Nat.add_zero, y5, y8, k4, k1, bI_f, eq_self, Nat.reduceEqDiff, Nat.reduceLeDiff, nl_0, nl_1, nl_2, nl_4, nl_5, nl_32, nl_240, no_1, no_1024, pk_mul, nI_add, nm_ck, nI_clamp, nI_ltI, nI_leI, nI_eq, nb_b2, nb_b1, ↓nb_let, nm_z0, nm_z1, nb_II, nb_IR, nb_RI, nb_RR, nm_IL, nm_IQ, nm_RL, nm_RQ, nm_LI, nm_LR, nm_LL, nm_LQ, nm_QI, nm_QR, nm_QL, nm_QQ, nm_rr, nm_ii, nm_eqm, not_false_eq_true, pk_sub, nm_div, nm_shl, nm_shr, nm_ush, nm_or8, nm_or64, nm_or256, nm_m1, nm_m3, nm_m7, nm_m15, nm_m31, nm_m63, nm_m255, nm_m511, nm_m1023, nm_m2047, nm_m65535, Nat.reduceMod, Nat.reducePow, Nat.reduceAdd, Nat.reduceSub, Nat.reduceMul, nm_bo, nm_bi, nm_rc, nm_ic, nm_ri, nm_rl, nm_rq, nm_ql, nm_qi, nm_li, nm_us, nm_uu, nm_cp, nm_sa31, nm_sa7, nm_m127, nm_m2, nm_nz, nm_nzk, nm_eq32, nm_nzf, if_true, if_false, ↓reduceIte, if_pos, if_neg], by simp (disch := (first | assumption | decide | omega)) only [df_X16_waits_125, df_X16_waits_124, df_X16_waits_80, df_X16_waits_79, df_X16_waits_40, df_X16_waits_39, df_X16_waits_0, df_X16_waits, n0, y4, y7, k2, bI_f, eq_self, Nat.reduceEqDiff, Nat.reduceLeDiff, nl_0, nl_1, nl_2, nl_4, nl_7, nl_8, nl_19, nl_20, nl_26, nl_48, nl_512, no_1, no_1024, pk_mul, nI_add, nm_ck, nI_clamp, nI_ltI, nI_leI, nI_eq, nb_b2, nb_b1, ↓nb_let, nm_z0, nm_z1, nb_II, nb_IR, nb_RI, nb_RR, nm_IL, nm_IQ, nm_RL, nm_RQ, nm_LI, nm_LR, nm_LL, nm_LQ, nm_QI, nm_QR, nm_QL, nm_QQ, nm_rr, nm_ii, nm_eqm, not_false_eq_true, pk_sub, nm_div, nm_shl, nm_shr, nm_ush, nm_or8, nm_or64, nm_or256, nm_m1, nm_m3, nm_m7, nm_m15, nm_m31, nm_m63, nm_m255, nm_m511, nm_m1023, nm_m2047, nm_m65535, Nat.reduceMod, Nat.reducePow, Nat.reduceAdd, Nat.reduceSub, Nat.reduceMul, nm_bo, nm_bi, nm_rc, nm_ic, nm_ri, nm_rl, nm_rq, nm_ql, nm_qi, nm_li, nm_us, nm_uu, nm_cp, nm_sa31, nm_sa7, nm_m127, nm_m2, nm_nz, nm_nzk, nm_eq32, nm_nzf, if_true, if_false, ↓reduceIte, if_pos, if_neg]⟩
    · exact ⟨false, by simp (disch := (first | assumption | decide | omega)) only [df_X10_readWaits_8, df_X10_readWaits_87, df_X10_readWaits_86, df_X10_readWaits_52, df_X10_readWaits_0, df_X10_readWaits, n0, o0, Nat.add_zero, y5, y8, k4, k1, bI_f, eq_self, Nat.reduceEqDiff, Nat.reduceLeDiff, nl_0, nl_1, nl_2, nl_4, nl_5, nl_32, nl_240, no_1, no_1024, pk_mul, nI_add, nm_ck, nI_clamp, nI_ltI, nI_leI, nI_eq, nb_b2, nb_b1, ↓nb_let, nm_z0, nm_z1, nb_II, nb_IR, nb_RI, nb_RR, nm_IL, nm_IQ, nm_RL, nm_RQ, nm_LI, nm_LR, nm_LL, nm_LQ, nm_QI, nm_QR, nm_QL, nm_QQ, nm_rr, nm_ii, nm_eqm, not_false_eq_true, pk_sub, nm_div, nm_shl, nm_shr, nm_ush, nm_or8, nm_or64, nm_or256, nm_m1, nm_m3, nm_m7, nm_m15, nm_m31, nm_m63, nm_m255, nm_m511, nm_m1023, nm_m2047, nm_m65535, Nat.reduceMod, Nat.reducePow, Nat.reduceAdd, Nat.reduceSub, Nat.reduceMul, nm_bo, nm_bi, nm_rc, nm_ic, nm_ri, nm_rl, nm_rq, nm_ql, nm_qi, nm_li, nm_us, nm_uu, nm_cp, nm_sa31, nm_sa7, nm_m127, nm_m2, nm_nz, nm_nzk, nm_eq32, nm_nzf, if_true, if_false, ↓reduceIte, if_pos, if_neg], by simp (disch := (first | assumption | decide | omega)) only [df_X16_waits_125, df_X16_waits_124, df_X16_waits_80, df_X16_waits_79, df_X16_waits_40, df_X16_waits_39, df_X16_waits_0, df_X16_waits, n0, y4, y7, k4, k1, k2, bI_f, eq_self, Nat.reduceEqDiff, Nat.reduceLeDiff, nl_0, nl_1, nl_2, nl_4, nl_7, nl_8, nl_19, nl_20, nl_26, nl_48, nl_512, no_1, no_1024, pk_mul, nI_add, nm_ck, nI_clamp, nI_ltI, nI_leI, nI_eq, nb_b2, nb_b1, ↓nb_let, nm_z0, nm_z1, nb_II, nb_IR, nb_RI, nb_RR, nm_IL, nm_IQ, nm_RL, nm_RQ, nm_LI, nm_LR, nm_LL, nm_LQ, nm_QI, nm_QR, nm_QL, nm_QQ, nm_rr, nm_ii, nm_eqm, not_false_eq_true, pk_sub, nm_div, nm_shl, nm_shr, nm_ush, nm_or8, nm_or64, nm_or256, nm_m1, nm_m3, nm_m7, nm_m15, nm_m31, nm_m63, nm_m255, nm_m511, nm_m1023, nm_m2047, nm_m65535, Nat.reduceMod, Nat.reducePow, Nat.reduceAdd, Nat.reduceSub, Nat.reduceMul, nm_bo, nm_bi, nm_rc, nm_ic, nm_ri, nm_rl, nm_rq, nm_ql, nm_qi, nm_li, nm_us, nm_uu, nm_cp, nm_sa31, nm_sa7, nm_m127, nm_m2, nm_nz, nm_nzk, nm_eq32, nm_nzf, if_true, if_false, ↓reduceIte, if_pos, if_neg]⟩
theorem nk_writeWaits (n : Nat) (hn : 1024 < n) {D : St} {X : St × St} (h : rD (sR D 0) (sR D 1) (sR D 2) (sR D 4) (sR X.1 14) (sR X.1 19) (sR X.1 20) (sR X.1 21) (sR X.1 22) (sR X.1 23) (sR X.1 24) (sR X.1 25)) (hl : ∀ t : Nat, t < 8 → sR X.1 23 t = nI 1 → ∃ L : Nat, L ≤ 512 ∧ sR D 2 (t * 4) = nI L ∧ sR X.1 26 t = nI L) {o N : Nat} (ho : o < 48) (hk : ¬ sR X.1 19 o = nI 0) (hN : N ≤ 512) : ∃ b : Bool, df_X10_writeWaits n (nI o) (nI N) D = some (bI b, D) ∧ df_X16_waits n (nI o) (nI 0) (nI N) X = some (bI b, X) := by
  rcases h.2.1 o ho with ⟨z1, _⟩ | ⟨k, t, y1, y2, y3, y4, y5, y6, y7, y8, y9, y10, _⟩
  · exact absurd z1 hk
  have u1 : o * 5 < 240 := by omega
  have u2 : o * 5 < 2 ^ 31 := by omega
  have u3 : o * 5 + 2 < 240 := by omega
  have u4 : o * 5 + 2 < 2 ^ 31 := by omega
  have u5 : o < 2 ^ 31 := by omega
  have u6 : k < 2 ^ 31 := by omega
  have u7 : N < 2 ^ 31 := by omega
  have o0 : 0 ≤ o := by omega
  have o1 : ¬ o < 0 := by omega
  by_cases n0 : N = 0
  · subst n0
    exact ⟨false, by simp (disch := (first | assumption | decide | omega)) only [df_X10_writeWaits_22, df_X10_writeWaits_69, df_X10_writeWaits_68, df_X10_writeWaits_0, df_X10_writeWaits, bI_f, eq_self, Nat.reduceEqDiff, Nat.reduceLeDiff, nl_0, nl_1, nl_2, nl_4, nl_5, nl_32, nl_240, nl_512, no_1, no_1024, pk_mul, nI_add, nm_ck, nI_clamp, nI_ltI, nI_leI, nI_eq, nb_b2, nb_b1, ↓nb_let, nm_z0, nm_z1, nb_II, nb_IR, nb_RI, nb_RR, nm_IL, nm_IQ, nm_RL, nm_RQ, nm_LI, nm_LR, nm_LL, nm_LQ, nm_QI, nm_QR, nm_QL, nm_QQ, nm_rr, nm_ii, nm_eqm, not_false_eq_true, pk_sub, nm_div, nm_shl, nm_shr, nm_ush, nm_or8, nm_or64, nm_or256, nm_m1, nm_m3, nm_m7, nm_m15, nm_m31, nm_m63, nm_m255, nm_m511, nm_m1023, nm_m2047, nm_m65535, Nat.reduceMod, Nat.reducePow, Nat.reduceAdd, Nat.reduceSub, Nat.reduceMul, nm_bo, nm_bi, nm_rc, nm_ic, nm_ri, nm_rl, nm_rq, nm_ql, nm_qi, nm_li, nm_us, nm_uu, nm_cp, nm_sa31, nm_sa7, nm_m127, nm_m2, nm_nz, nm_nzk, nm_eq32, nm_nzf, if_true, if_false, ↓reduceIte, if_pos, if_neg], by simp (disch := (first | assumption | decide | omega)) only [df_X16_waits_125, df_X16_waits_124, df_X16_waits_80, df_X16_waits_79, df_X16_waits_40, df_X16_waits_39, df_X16_waits_0, df_X16_waits, bI_f, eq_self, Nat.reduceEqDiff, Nat.reduceLeDiff, nl_0, nl_1, nl_2, nl_4, nl_7, nl_8, nl_19, nl_20, nl_26, nl_48, nl_512, no_1, no_1024, pk_mul, nI_add, nm_ck, nI_clamp, nI_ltI, nI_leI, nI_eq, nb_b2, nb_b1, ↓nb_let, nm_z0, nm_z1, nb_II, nb_IR, nb_RI, nb_RR, nm_IL, nm_IQ, nm_RL, nm_RQ, nm_LI, nm_LR, nm_LL, nm_LQ, nm_QI, nm_QR, nm_QL, nm_QQ, nm_rr, nm_ii, nm_eqm, not_false_eq_true, pk_sub, nm_div, nm_shl, nm_shr, nm_ush, nm_or8, nm_or64, nm_or256, nm_m1, nm_m3, nm_m7, nm_m15, nm_m31, nm_m63, nm_m255, nm_m511, nm_m1023, nm_m2047, nm_m65535, Nat.reduceMod, Nat.reducePow, Nat.reduceAdd, Nat.reduceSub, Nat.reduceMul, nm_bo, nm_bi, nm_rc, nm_ic, nm_ri, nm_rl, nm_rq, nm_ql, nm_qi, nm_li, nm_us, nm_uu, nm_cp, nm_sa31, nm_sa7, nm_m127, nm_m2, nm_nz, nm_nzk, nm_eq32, nm_nzf, if_true, if_false, ↓reduceIte, if_pos, if_neg]⟩
  by_cases k2 : k = 2
  · subst k2
    have t8 := y9 (by omega)
    have x1 : 0 < cE (sR X.1 19) (sR X.1 20) 2 t := cN_p (P := fun j => decide (sR X.1 19 j = nI 2 ∧ sR X.1 20 j = nI t)) (i := o) (decide_eq_true ⟨y4, y7⟩) ho
    obtain ⟨L, hL, l1, l2⟩ := hl t t8 (by rw [(h.2.2.1 t t8).2.2, decide_eq_true (show 0 < cE (sR X.1 19) (sR X.1 20) 1 t + cE (sR X.1 19) (sR X.1 20) 2 t by omega)]; rfl)
    have e1 := (h.2.2.1 t t8).1
    have en : df_X16_ends n (nI 1) (nI t) X = some (nI (cE (sR X.1 19) (sR X.1 20) 1 t), X) := nb_ends n (by omega) (nI 1) (nI t) X
    have cl := cE_le (sR X.1 19) (sR X.1 20) 1 t
    generalize cE (sR X.1 19) (sR X.1 20) 1 t = x at e1 en cl
    have v1 : t * 4 < 32 := by omega
    have v2 : t * 4 < 2 ^ 31 := by omega
    have v3 : t * 4 + 1 < 32 := by omega
    have v4 : t * 4 + 1 < 2 ^ 31 := by omega
    have v5 : 512 - L < 2 ^ 31 := by omega
    have v6 : x < 2 ^ 31 := by omega
    have v7 : t < 2 ^ 31 := by omega
    have v8 : L + N < 2 ^ 31 := by omega
    by_cases d : x ≤ 0
    · by_cases c : N ≤ 512 - L
      · exact ⟨false, by simp (disch := (first | assumption | decide | omega)) only [df_X10_writeWaits_22, df_X10_writeWaits_69, df_X10_writeWaits_68, df_X10_writeWaits_0, df_X10_writeWaits, n0, o1, Nat.add_zero, y5, y8, l1, c, bI_f, eq_self, Nat.reduceEqDiff, Nat.reduceLeDiff, nl_0, nl_1, nl_2, nl_4, nl_5, nl_32, nl_240, nl_512, no_1, no_1024, pk_mul, nI_add, nm_ck, nI_clamp, nI_ltI, nI_leI, nI_eq, nb_b2, nb_b1, ↓nb_let, nm_z0, nm_z1, nb_II, nb_IR, nb_RI, nb_RR, nm_IL, nm_IQ, nm_RL, nm_RQ, nm_LI, nm_LR, nm_LL, nm_LQ, nm_QI, nm_QR, nm_QL, nm_QQ, nm_rr, nm_ii, nm_eqm, not_false_eq_true, pk_sub, nm_div, nm_shl, nm_shr, nm_ush, nm_or8, nm_or64, nm_or256, nm_m1, nm_m3, nm_m7, nm_m15, nm_m31, nm_m63, nm_m255, nm_m511, nm_m1023, nm_m2047, nm_m65535, Nat.reduceMod, Nat.reducePow, Nat.reduceAdd, Nat.reduceSub, Nat.reduceMul, nm_bo, nm_bi, nm_rc, nm_ic, nm_ri, nm_rl, nm_rq, nm_ql, nm_qi, nm_li, nm_us, nm_uu, nm_cp, nm_sa31, nm_sa7, nm_m127, nm_m2, nm_nz, nm_nzk, nm_eq32, nm_nzf, if_true, if_false, ↓reduceIte, if_pos, if_neg], by simp (disch := (first | assumption | decide | omega)) only [df_X16_waits_125, df_X16_waits_124, df_X16_waits_80, df_X16_waits_79, df_X16_waits_40, df_X16_waits_39, df_X16_waits_0, df_X16_waits, n0, y4, y7, en, d, bI_f, eq_self, Nat.reduceEqDiff, Nat.reduceLeDiff, nl_0, nl_1, nl_2, nl_4, nl_7, nl_8, nl_19, nl_20, nl_26, nl_48, nl_512, no_1, no_1024, pk_mul, nI_add, nm_ck, nI_clamp, nI_ltI, nI_leI, nI_eq, nb_b2, nb_b1, ↓nb_let, nm_z0, nm_z1, nb_II, nb_IR, nb_RI, nb_RR, nm_IL, nm_IQ, nm_RL, nm_RQ, nm_LI, nm_LR, nm_LL, nm_LQ, nm_QI, nm_QR, nm_QL, nm_QQ, nm_rr, nm_ii, nm_eqm, not_false_eq_true, pk_sub, nm_div, nm_shl, nm_shr, nm_ush, nm_or8, nm_or64, nm_or256, nm_m1, nm_m3, nm_m7, nm_m15, nm_m31, nm_m63, nm_m255, nm_m511, nm_m1023, nm_m2047, nm_m65535, Nat.reduceMod, Nat.reducePow, Nat.reduceAdd, Nat.reduceSub, Nat.reduceMul, nm_bo, nm_bi, nm_rc, nm_ic, nm_ri, nm_rl, nm_rq, nm_ql, nm_qi, nm_li, nm_us, nm_uu, nm_cp, nm_sa31, nm_sa7, nm_m127, nm_m2, nm_nz, nm_nzk, nm_eq32, nm_nzf, if_true, if_false, ↓reduceIte, if_pos, if_neg]⟩
      · exact ⟨false, by simp (disch := (first | assumption | decide | omega)) only [df_X10_writeWaits_22, df_X10_writeWaits_69, df_X10_writeWaits_68, df_X10_writeWaits_0, df_X10_writeWaits, n0, o1, Nat.add_zero, y5, y8, l1, c, e1, d, bI_f, eq_self, Nat.reduceEqDiff, Nat.reduceLeDiff, nl_0, nl_1, nl_2, nl_4, nl_5, nl_32, nl_240, nl_512, no_1, no_1024, pk_mul, nI_add, nm_ck, nI_clamp, nI_ltI, nI_leI, nI_eq, nb_b2, nb_b1, ↓nb_let, nm_z0, nm_z1, nb_II, nb_IR, nb_RI, nb_RR, nm_IL, nm_IQ, nm_RL, nm_RQ, nm_LI, nm_LR, nm_LL, nm_LQ, nm_QI, nm_QR, nm_QL, nm_QQ, nm_rr, nm_ii, nm_eqm, not_false_eq_true, pk_sub, nm_div, nm_shl, nm_shr, nm_ush, nm_or8, nm_or64, nm_or256, nm_m1, nm_m3, nm_m7, nm_m15, nm_m31, nm_m63, nm_m255, nm_m511, nm_m1023, nm_m2047, nm_m65535, Nat.reduceMod, Nat.reducePow, Nat.reduceAdd, Nat.reduceSub, Nat.reduceMul, nm_bo, nm_bi, nm_rc, nm_ic, nm_ri, nm_rl, nm_rq, nm_ql, nm_qi, nm_li, nm_us, nm_uu, nm_cp, nm_sa31, nm_sa7, nm_m127, nm_m2, nm_nz, nm_nzk, nm_eq32, nm_nzf, if_true, if_false, ↓reduceIte, if_pos, if_neg], by simp (disch := (first | assumption | decide | omega)) only [df_X16_waits_125, df_X16_waits_124, df_X16_waits_80, df_X16_waits_79, df_X16_waits_40, df_X16_waits_39, df_X16_waits_0, df_X16_waits, n0, y4, y7, en, d, bI_f, eq_self, Nat.reduceEqDiff, Nat.reduceLeDiff, nl_0, nl_1, nl_2, nl_4, nl_7, nl_8, nl_19, nl_20, nl_26, nl_48, nl_512, no_1, no_1024, pk_mul, nI_add, nm_ck, nI_clamp, nI_ltI, nI_leI, nI_eq, nb_b2, nb_b1, ↓nb_let, nm_z0, nm_z1, nb_II, nb_IR, nb_RI, nb_RR, nm_IL, nm_IQ, nm_RL, nm_RQ, nm_LI, nm_LR, nm_LL, nm_LQ, nm_QI, nm_QR, nm_QL, nm_QQ, nm_rr, nm_ii, nm_eqm, not_false_eq_true, pk_sub, nm_div, nm_shl, nm_shr, nm_ush, nm_or8, nm_or64, nm_or256, nm_m1, nm_m3, nm_m7, nm_m15, nm_m31, nm_m63, nm_m255, nm_m511, nm_m1023, nm_m2047, nm_m65535, Nat.reduceMod, Nat.reducePow, Nat.reduceAdd, Nat.reduceSub, Nat.reduceMul, nm_bo, nm_bi, nm_rc, nm_ic, nm_ri, nm_rl, nm_rq, nm_ql, nm_qi, nm_li, nm_us, nm_uu, nm_cp, nm_sa31, nm_sa7, nm_m127, nm_m2, nm_nz, nm_nzk, nm_eq32, nm_nzf, if_true, if_false, ↓reduceIte, if_pos, if_neg]⟩
    · by_cases c : N ≤ 512 - L
      · have c' : L + N ≤ 512 := by omega
        exact ⟨false, by simp (disch := (first | assumption | decide | omega)) only [df_X10_writeWaits_22, df_X10_writeWaits_69, df_X10_writeWaits_68, df_X10_writeWaits_0, df_X10_writeWaits, n0, o1, Nat.add_zero, y5, y8, l1, c, bI_f, eq_self, Nat.reduceEqDiff, Nat.reduceLeDiff, nl_0, nl_1, nl_2, nl_4, nl_5, nl_32, nl_240, nl_512, no_1, no_1024, pk_mul, nI_add, nm_ck, nI_clamp, nI_ltI, nI_leI, nI_eq, nb_b2, nb_b1, ↓nb_let, nm_z0, nm_z1, nb_II, nb_IR, nb_RI, nb_RR, nm_IL, nm_IQ, nm_RL, nm_RQ, nm_LI, nm_LR, nm_LL, nm_LQ, nm_QI, nm_QR, nm_QL, nm_QQ, nm_rr, nm_ii, nm_eqm, not_false_eq_true, pk_sub, nm_div, nm_shl, nm_shr, nm_ush, nm_or8, nm_or64, nm_or256, nm_m1, nm_m3, nm_m7, nm_m15, nm_m31, nm_m63, nm_m255, nm_m511, nm_m1023, nm_m2047, nm_m65535, Nat.reduceMod, Nat.reducePow, Nat.reduceAdd, Nat.reduceSub, Nat.reduceMul, nm_bo, nm_bi, nm_rc, nm_ic, nm_ri, nm_rl, nm_rq, nm_ql, nm_qi, nm_li, nm_us, nm_uu, nm_cp, nm_sa31, nm_sa7, nm_m127, nm_m2, nm_nz, nm_nzk, nm_eq32, nm_nzf, if_true, if_false, ↓reduceIte, if_pos, if_neg], by simp (disch := (first | assumption | decide | omega)) only [df_X16_waits_125, df_X16_waits_124, df_X16_waits_80, df_X16_waits_79, df_X16_waits_40, df_X16_waits_39, df_X16_waits_0, df_X16_waits, n0, y4, y7, en, d, l2, c', bI_f, eq_self, Nat.reduceEqDiff, Nat.reduceLeDiff, nl_0, nl_1, nl_2, nl_4, nl_7, nl_8, nl_19, nl_20, nl_26, nl_48, nl_512, no_1, no_1024, pk_mul, nI_add, nm_ck, nI_clamp, nI_ltI, nI_leI, nI_eq, nb_b2, nb_b1, ↓nb_let, nm_z0, nm_z1, nb_II, nb_IR, nb_RI, nb_RR, nm_IL, nm_IQ, nm_RL, nm_RQ, nm_LI, nm_LR, nm_LL, nm_LQ, nm_QI, nm_QR, nm_QL, nm_QQ, nm_rr, nm_ii, nm_eqm, not_false_eq_true, pk_sub, nm_div, nm_shl, nm_shr, nm_ush, nm_or8, nm_or64, nm_or256, nm_m1, nm_m3, nm_m7, nm_m15, nm_m31, nm_m63, nm_m255, nm_m511, nm_m1023, nm_m2047, nm_m65535, Nat.reduceMod, Nat.reducePow, Nat.reduceAdd, Nat.reduceSub, Nat.reduceMul, nm_bo, nm_bi, nm_rc, nm_ic, nm_ri, nm_rl, nm_rq, nm_ql, nm_qi, nm_li, nm_us, nm_uu, nm_cp, nm_sa31, nm_sa7, nm_m127, nm_m2, nm_nz, nm_nzk, nm_eq32, nm_nzf, if_true, if_false, ↓reduceIte, if_pos, if_neg]⟩
      · have c' : ¬ L + N ≤ 512 := by omega
        exact ⟨true, by simp (disch := (first | assumption | decide | omega)) only [df_X10_writeWaits_22, df_X10_writeWaits_69, df_X10_writeWaits_68, df_X10_writeWaits_0, df_X10_writeWaits, n0, o1, Nat.add_zero, y5, y8, l1, c, e1, d, bI_t, eq_self, Nat.reduceEqDiff, Nat.reduceLeDiff, nl_0, nl_1, nl_2, nl_4, nl_5, nl_32, nl_240, nl_512, no_1, no_1024, pk_mul, nI_add, nm_ck, nI_clamp, nI_ltI, nI_leI, nI_eq, nb_b2, nb_b1, ↓nb_let, nm_z0, nm_z1, nb_II, nb_IR, nb_RI, nb_RR, nm_IL, nm_IQ, nm_RL, nm_RQ, nm_LI, nm_LR, nm_LL, nm_LQ, nm_QI, nm_QR, nm_QL, nm_QQ, nm_rr, nm_ii, nm_eqm, not_false_eq_true, pk_sub, nm_div, nm_shl, nm_shr, nm_ush, nm_or8, nm_or64, nm_or256, nm_m1, nm_m3, nm_m7, nm_m15, nm_m31, nm_m63, nm_m255, nm_m511, nm_m1023, nm_m2047, nm_m65535, Nat.reduceMod, Nat.reducePow, Nat.reduceAdd, Nat.reduceSub, Nat.reduceMul, nm_bo, nm_bi, nm_rc, nm_ic, nm_ri, nm_rl, nm_rq, nm_ql, nm_qi, nm_li, nm_us, nm_uu, nm_cp, nm_sa31, nm_sa7, nm_m127, nm_m2, nm_nz, nm_nzk, nm_eq32, nm_nzf, if_true, if_false, ↓reduceIte, if_pos, if_neg], by simp (disch := (first | assumption | decide | omega)) only [df_X16_waits_125, df_X16_waits_124, df_X16_waits_80, df_X16_waits_79, df_X16_waits_40, df_X16_waits_39, df_X16_waits_0, df_X16_waits, n0, y4, y7, en, d, l2, c', bI_t, eq_self, Nat.reduceEqDiff, Nat.reduceLeDiff, nl_0, nl_1, nl_2, nl_4, nl_7, nl_8, nl_19, nl_20, nl_26, nl_48, nl_512, no_1, no_1024, pk_mul, nI_add, nm_ck, nI_clamp, nI_ltI, nI_leI, nI_eq, nb_b2, nb_b1, ↓nb_let, nm_z0, nm_z1, nb_II, nb_IR, nb_RI, nb_RR, nm_IL, nm_IQ, nm_RL, nm_RQ, nm_LI, nm_LR, nm_LL, nm_LQ, nm_QI, nm_QR, nm_QL, nm_QQ, nm_rr, nm_ii, nm_eqm, not_false_eq_true, pk_sub, nm_div, nm_shl, nm_shr, nm_ush, nm_or8, nm_or64, nm_or256, nm_m1, nm_m3, nm_m7, nm_m15, nm_m31, nm_m63, nm_m255, nm_m511, nm_m1023, nm_m2047, nm_m65535, Nat.reduceMod, Nat.reducePow, Nat.reduceAdd, Nat.reduceSub, Nat.reduceMul, nm_bo, nm_bi, nm_rc, nm_ic, nm_ri, nm_rl, nm_rq, nm_ql, nm_qi, nm_li, nm_us, nm_uu, nm_cp, nm_sa31, nm_sa7, nm_m127, nm_m2, nm_nz, nm_nzk, nm_eq32, nm_nzf, if_true, if_false, ↓reduceIte, if_pos, if_neg]⟩
  · by_cases k4 : k = 4
    · exact ⟨false, by simp (disch := (first | assumption | decide | omega)) only [df_X10_writeWaits_22, df_X10_writeWaits_69, df_X10_writeWaits_68, df_X10_writeWaits_0, df_X10_writeWaits, n0, o1, Nat.add_zero, y5, k2, bI_f, eq_self, Nat.reduceEqDiff, Nat.reduceLeDiff, nl_0, nl_1, nl_2, nl_4, nl_5, nl_32, nl_240, nl_512, no_1, no_1024, pk_mul, nI_add, nm_ck, nI_clamp, nI_ltI, nI_leI, nI_eq, nb_b2, nb_b1, ↓nb_let, nm_z0, nm_z1, nb_II, nb_IR, nb_RI, nb_RR, nm_IL, nm_IQ, nm_RL, nm_RQ, nm_LI, nm_LR, nm_LL, nm_LQ, nm_QI, nm_QR, nm_QL, nm_QQ, nm_rr, nm_ii, nm_eqm, not_false_eq_true, pk_sub, nm_div, nm_shl, nm_shr, nm_ush, nm_or8, nm_or64, nm_or256, nm_m1, nm_m3, nm_m7, nm_m15, nm_m31, nm_m63, nm_m255, nm_m511, nm_m1023, nm_m2047, nm_m65535, Nat.reduceMod, Nat.reducePow, Nat.reduceAdd, Nat.reduceSub, Nat.reduceMul, nm_bo, nm_bi, nm_rc, nm_ic, nm_ri, nm_rl, nm_rq, nm_ql, nm_qi, nm_li, nm_us, nm_uu, nm_cp, nm_sa31, nm_sa7, nm_m127, nm_m2, nm_nz, nm_nzk, nm_eq32, nm_nzf, if_true, if_false, ↓reduceIte, if_pos, if_neg], by simp (disch := (first | assumption | decide | omega)) only [df_X16_waits_125, df_X16_waits_124, df_X16_waits_80, df_X16_waits_79, df_X16_waits_40, df_X16_waits_39, df_X16_waits_0, df_X16_waits, n0, y4, y7, k4, bI_f, eq_self, Nat.reduceEqDiff, Nat.reduceLeDiff, nl_0, nl_1, nl_2, nl_4, nl_7, nl_8, nl_19, nl_20, nl_26, nl_48, nl_512, no_1, no_1024, pk_mul, nI_add, nm_ck, nI_clamp, nI_ltI, nI_leI, nI_eq, nb_b2, nb_b1, ↓nb_let, nm_z0, nm_z1, nb_II, nb_IR, nb_RI, nb_RR, nm_IL, nm_IQ, nm_RL, nm_RQ, nm_LI, nm_LR, nm_LL, nm_LQ, nm_QI, nm_QR, nm_QL, nm_QQ, nm_rr, nm_ii, nm_eqm, not_false_eq_true, pk_sub, nm_div, nm_shl, nm_shr, nm_ush, nm_or8, nm_or64, nm_or256, nm_m1, nm_m3, nm_m7, nm_m15, nm_m31, nm_m63, nm_m255, nm_m511, nm_m1023, nm_m2047, nm_m65535, Nat.reduceMod, Nat.reducePow, Nat.reduceAdd, Nat.reduceSub, Nat.reduceMul, nm_bo, nm_bi, nm_rc, nm_ic, nm_ri, nm_rl, nm_rq, nm_ql, nm_qi, nm_li, nm_us, nm_uu, nm_cp, nm_sa31, nm_sa7, nm_m127, nm_m2, nm_nz, nm_nzk, nm_eq32, nm_nzf, if_true, if_false, ↓reduceIte, if_pos, if_neg]⟩
    · by_cases k1 : k = 1
      · exact ⟨false, by simp (disch := (first | assumption | decide | omega)) only [df_X10_writeWaits_22, df_X10_writeWaits_69, df_X10_writeWaits_68, df_X10_writeWaits_0, df_X10_writeWaits, n0, o1, Nat.add_zero, y5, k2, bI_f, eq_self, Nat.reduceEqDiff, Nat.reduceLeDiff, nl_0, nl_1, nl_2, nl_4, nl_5, nl_32, nl_240, nl_512, no_1, no_1024, pk_mul, nI_add, nm_ck, nI_clamp, nI_ltI, nI_leI, nI_eq, nb_b2, nb_b1, ↓nb_let, nm_z0, nm_z1, nb_II, nb_IR, nb_RI, nb_RR, nm_IL, nm_IQ, nm_RL, nm_RQ, nm_LI, nm_LR, nm_LL, nm_LQ, nm_QI, nm_QR, nm_QL, nm_QQ, nm_rr, nm_ii, nm_eqm, not_false_eq_true, pk_sub, nm_div, nm_shl, nm_shr, nm_ush, nm_or8, nm_or64, nm_or256, nm_m1, nm_m3, nm_m7, nm_m15, nm_m31, nm_m63, nm_m255, nm_m511, nm_m1023, nm_m2047, nm_m65535, Nat.reduceMod, Nat.reducePow, Nat.reduceAdd, Nat.reduceSub, Nat.reduceMul, nm_bo, nm_bi, nm_rc, nm_ic, nm_ri, nm_rl, nm_rq, nm_ql, nm_qi, nm_li, nm_us, nm_uu, nm_cp, nm_sa31, nm_sa7, nm_m127, nm_m2, nm_nz, nm_nzk, nm_eq32, nm_nzf, if_true, if_false, ↓reduceIte, if_pos, if_neg], by simp (disch := (first | assumption | decide | omega)) only [df_X16_waits_125, df_X16_waits_124, df_X16_waits_80, df_X16_waits_79, df_X16_waits_40, df_X16_waits_39, df_X16_waits_0, df_X16_waits, n0, y4, y7, k1, bI_f, eq_self, Nat.reduceEqDiff, Nat.reduceLeDiff, nl_0, nl_1, nl_2, nl_4, nl_7, nl_8, nl_19, nl_20, nl_26, nl_48, nl_512, no_1, no_1024, pk_mul, nI_add, nm_ck, nI_clamp, nI_ltI, nI_leI, nI_eq, nb_b2, nb_b1, ↓nb_let, nm_z0, nm_z1, nb_II, nb_IR, nb_RI, nb_RR, nm_IL, nm_IQ, nm_RL, nm_RQ, nm_LI, nm_LR, nm_LL, nm_LQ, nm_QI, nm_QR, nm_QL, nm_QQ, nm_rr, nm_ii, nm_eqm, not_false_eq_true, pk_sub, nm_div, nm_shl, nm_shr, nm_ush, nm_or8, nm_or64, nm_or256, nm_m1, nm_m3, nm_m7, nm_m15, nm_m31, nm_m63, nm_m255, nm_m511, nm_m1023, nm_m2047, nm_m65535, Nat.reduceMod, Nat.reducePow, Nat.reduceAdd, Nat.reduceSub, Nat.reduceMul, nm_bo, nm_bi, nm_rc, nm_ic, nm_ri, nm_rl, nm_rq, nm_ql, nm_qi, nm_li, nm_us, nm_uu, nm_cp, nm_sa31, nm_sa7, nm_m127, nm_m2, nm_nz, nm_nzk, nm_eq32, nm_nzf, if_true, if_false, ↓reduceIte, if_pos, if_neg]⟩
      · exact ⟨false, by simp (disch := (first | assumption | decide | omega)) only [df_X10_writeWaits_22, df_X10_writeWaits_69, df_X10_writeWaits_68, df_X10_writeWaits_0, df_X10_writeWaits, n0, o1, Nat.add_zero, y5, k2, bI_f, eq_self, Nat.reduceEqDiff, Nat.reduceLeDiff, nl_0, nl_1, nl_2, nl_4, nl_5, nl_32, nl_240, nl_512, no_1, no_1024, pk_mul, nI_add, nm_ck, nI_clamp, nI_ltI, nI_leI, nI_eq, nb_b2, nb_b1, ↓nb_let, nm_z0, nm_z1, nb_II, nb_IR, nb_RI, nb_RR, nm_IL, nm_IQ, nm_RL, nm_RQ, nm_LI, nm_LR, nm_LL, nm_LQ, nm_QI, nm_QR, nm_QL, nm_QQ, nm_rr, nm_ii, nm_eqm, not_false_eq_true, pk_sub, nm_div, nm_shl, nm_shr, nm_ush, nm_or8, nm_or64, nm_or256, nm_m1, nm_m3, nm_m7, nm_m15, nm_m31, nm_m63, nm_m255, nm_m511, nm_m1023, nm_m2047, nm_m65535, Nat.reduceMod, Nat.reducePow, Nat.reduceAdd, Nat.reduceSub, Nat.reduceMul, nm_bo, nm_bi, nm_rc, nm_ic, nm_ri, nm_rl, nm_rq, nm_ql, nm_qi, nm_li, nm_us, nm_uu, nm_cp, nm_sa31, nm_sa7, nm_m127, nm_m2, nm_nz, nm_nzk, nm_eq32, nm_nzf, if_true, if_false, ↓reduceIte, if_pos, if_neg], by simp (disch := (first | assumption | decide | omega)) only [df_X16_waits_125, df_X16_waits_124, df_X16_waits_80, df_X16_waits_79, df_X16_waits_40, df_X16_waits_39, df_X16_waits_0, df_X16_waits, n0, y4, y7, k4, k1, k2, bI_f, eq_self, Nat.reduceEqDiff, Nat.reduceLeDiff, nl_0, nl_1, nl_2, nl_4, nl_7, nl_8, nl_19, nl_20, nl_26, nl_48, nl_512, no_1, no_1024, pk_mul, nI_add, nm_ck, nI_clamp, nI_ltI, nI_leI, nI_eq, nb_b2, nb_b1, ↓nb_let, nm_z0, nm_z1, nb_II, nb_IR, nb_RI, nb_RR, nm_IL, nm_IQ, nm_RL, nm_RQ, nm_LI, nm_LR, nm_LL, nm_LQ, nm_QI, nm_QR, nm_QL, nm_QQ, nm_rr, nm_ii, nm_eqm, not_false_eq_true, pk_sub, nm_div, nm_shl, nm_shr, nm_ush, nm_or8, nm_or64, nm_or256, nm_m1, nm_m3, nm_m7, nm_m15, nm_m31, nm_m63, nm_m255, nm_m511, nm_m1023, nm_m2047, nm_m65535, Nat.reduceMod, Nat.reducePow, Nat.reduceAdd, Nat.reduceSub, Nat.reduceMul, nm_bo, nm_bi, nm_rc, nm_ic, nm_ri, nm_rl, nm_rq, nm_ql, nm_qi, nm_li, nm_us, nm_uu, nm_cp, nm_sa31, nm_sa7, nm_m127, nm_m2, nm_nz, nm_nzk, nm_eq32, nm_nzf, if_true, if_false, ↓reduceIte, if_pos, if_neg]⟩

theorem ev16 {x : Int32} (h0 : gb x 0 = false) (h : ∀ i : Nat, 16 ≤ i → i < 32 → gb x i = false) : ∃ c : Nat, c < 32768 ∧ x = nI (2 * c) := by
  obtain ⟨R, hR, rfl⟩ := nI_ex x
  have l : R < 2 ^ 16 := Nat.lt_pow_two_of_testBit R (fun i hi => by
    by_cases c : i < 32
    · rw [← gb_n (k := R) c]
      exact h i hi c
    · exact Nat.testBit_lt_two_pow (Nat.lt_of_lt_of_le hR (Nat.pow_le_pow_right (by omega) (by omega))))
  rw [gb_n (by omega), Nat.testBit_zero] at h0
  have e := of_decide_eq_false h0
  exact ⟨R / 2, by omega, congrArg nI (by omega)⟩
theorem gb_ev {c i : Nat} (hc : c < 32768) (h : i = 0 ∨ 16 ≤ i) (hi : i < 32) : gb (nI (2 * c)) i = false := by
  rw [gb_n hi]
  rcases h with e | e
  · rw [e, Nat.testBit_zero]
    exact decide_eq_false (by omega)
  · exact Nat.testBit_lt_two_pow (Nat.lt_of_lt_of_le (show 2 * c < 2 ^ 16 by omega) (Nat.pow_le_pow_right (by omega) e))
/-- a signal comes -/
theorem pend_or {c b : Nat} (hc : c < 32768) (h1 : 1 ≤ b) (hb : b < 16) : ∃ c' : Nat, c' < 32768 ∧ nI (2 * c) ||| (nI 1 <<< nI b) = nI (2 * c') := by
  have one : ∀ j : Nat, j < 32 → j ≠ 0 → gb (nI 1) j = false := fun j hj hne => by
    rw [gb_n hj]
    exact Nat.testBit_lt_two_pow (Nat.lt_of_lt_of_le (show 1 < 2 ^ 1 by decide) (Nat.pow_le_pow_right (by omega) (by omega)))
  refine ev16 ?_ (fun i hi h32 => ?_)
  · rw [gb_or, gb_ev hc (Or.inl rfl) (by omega), gb_shl (by omega), decide_eq_true (show 0 < b by omega), Bool.not_true, Bool.and_false, Bool.false_and]
    rfl
  · rw [gb_or, gb_ev hc (Or.inr hi) h32, gb_shl (by omega), one (i - b) (by omega) (by omega), Bool.and_false]
    rfl
/-- a signal is taken -/
theorem pend_clr {c : Nat} (hc : c < 32768) (m : Int32) : ∃ c' : Nat, c' < 32768 ∧ nI (2 * c) &&& m = nI (2 * c') := by
  refine ev16 ?_ (fun i hi h32 => ?_)
  · rw [gb_and, gb_ev hc (Or.inl rfl) (by omega), Bool.false_and]
  · rw [gb_and, gb_ev hc (Or.inr hi) h32, Bool.false_and]

theorem sg_cases (x : Int32) : (x < nI 0 ∧ x < nI 1) ∨ ∃ A : Nat, A < 2 ^ 31 ∧ x = nI A := by
  obtain ⟨A, hA, rfl⟩ := nI_ex x
  by_cases c : A < 2 ^ 31
  · exact Or.inr ⟨A, c, rfl⟩
  · have z := nm_neg (A := A) (by omega) hA
    exact Or.inl ⟨z, Int32.lt_trans z (by decide)⟩
/-- the kernel's call 'signal' -/
theorem nk_signal (n : Nat) {K : St × (St × (St × St))} {X : St × St} (hst : ∀ q : Nat, q < 16 → ∃ t c : Nat, t < 4 ∧ c < 32768 ∧ sR K.2.2.1 6 (q * 7) = nI t ∧ sR X.1 1 q = nI t ∧ sR K.2.2.1 6 (q * 7 + 3) = nI (2 * c) ∧ sR X.1 4 q = nI (2 * c)) (a b : Int32) : ∃ (v : Int32) (K' : St × (St × (St × St))) (X' : St × St), df_X5_signal n a b K = some (v.toInt64, K') ∧ df_X16_signal n a b X = some (v, X') ∧ ((K' = K ∧ X' = X) ∨ ∃ q c : Nat, q < 16 ∧ c < 32768 ∧ ¬ sR X.1 1 q = nI 0 ∧ ¬ sR X.1 1 q = nI 3 ∧ K' = (K.1, (K.2.1, (pR K.2.2.1 6 (upd (sR K.2.2.1 6) (q * 7 + 3) (nI (2 * c))), K.2.2.2))) ∧ X' = (pR X.1 4 (upd (sR X.1 4) q (nI (2 * c))), X.2)) := by
  have i64 : (-nI 22 : Int32).toInt64 = -22 := by decide
  have j64 : (-nI 10 : Int32).toInt64 = -10 := by decide
  have z64 : (nI 0 : Int32).toInt64 = 0 := by decide
  rcases sg_cases a with ⟨an, _⟩ | ⟨A, hA, rfl⟩
  · exact ⟨-nI 22, K, X, by simp (disch := (first | assumption | decide | omega)) only [df_X5_signal, df_X5_signal_0, df_X5_signal_21, an, i64, eq_self, Nat.reduceEqDiff, Nat.reduceLeDiff, nl_0, nl_1, nl_3, nl_6, nl_7, nl_16, nl_22, nl_31, nl_112, no_1, no_1024, pk_mul, nI_add, nm_ck, nI_clamp, nI_ltI, nI_leI, nI_eq, nb_b2, nb_b1, ↓nb_let, nm_z0, nm_z1, nb_II, nb_IR, nb_RI, nb_RR, nm_IL, nm_IQ, nm_RL, nm_RQ, nm_LI, nm_LR, nm_LL, nm_LQ, nm_QI, nm_QR, nm_QL, nm_QQ, nm_rr, nm_ii, nm_eqm, not_false_eq_true, pk_sub, nm_div, nm_shl, nm_shr, nm_ush, nm_or8, nm_or64, nm_or256, nm_m1, nm_m3, nm_m7, nm_m15, nm_m31, nm_m63, nm_m255, nm_m511, nm_m1023, nm_m2047, nm_m65535, Nat.reduceMod, Nat.reducePow, Nat.reduceAdd, Nat.reduceSub, Nat.reduceMul, nm_bo, nm_bi, nm_rc, nm_ic, nm_ri, nm_rl, nm_rq, nm_ql, nm_qi, nm_li, nm_us, nm_uu, nm_cp, nm_sa31, nm_sa7, nm_m127, nm_m2, nm_nz, nm_nzk, nm_eq32, nm_nzf, if_true, if_false, ↓reduceIte, if_pos, if_neg], by simp (disch := (first | assumption | decide | omega)) only [df_X16_signal, df_X16_signal_0, df_X16_signal_21, an, eq_self, Nat.reduceEqDiff, Nat.reduceLeDiff, nl_0, nl_1, nl_3, nl_4, nl_15, nl_16, nl_22, nl_31, no_1, no_1024, pk_mul, nI_add, nm_ck, nI_clamp, nI_ltI, nI_leI, nI_eq, nb_b2, nb_b1, ↓nb_let, nm_z0, nm_z1, nb_II, nb_IR, nb_RI, nb_RR, nm_IL, nm_IQ, nm_RL, nm_RQ, nm_LI, nm_LR, nm_LL, nm_LQ, nm_QI, nm_QR, nm_QL, nm_QQ, nm_rr, nm_ii, nm_eqm, not_false_eq_true, pk_sub, nm_div, nm_shl, nm_shr, nm_ush, nm_or8, nm_or64, nm_or256, nm_m1, nm_m3, nm_m7, nm_m15, nm_m31, nm_m63, nm_m255, nm_m511, nm_m1023, nm_m2047, nm_m65535, Nat.reduceMod, Nat.reducePow, Nat.reduceAdd, Nat.reduceSub, Nat.reduceMul, nm_bo, nm_bi, nm_rc, nm_ic, nm_ri, nm_rl, nm_rq, nm_ql, nm_qi, nm_li, nm_us, nm_uu, nm_cp, nm_sa31, nm_sa7, nm_m127, nm_m2, nm_nz, nm_nzk, nm_eq32, nm_nzf, if_true, if_false, ↓reduceIte, if_pos, if_neg], Or.inl ⟨rfl, rfl⟩⟩
  have a0 : ¬ A < 0 := by omega
  by_cases a16 : 16 ≤ A
  · have a15 : 15 < A := by omega
    exact ⟨-nI 22, K, X, by simp (disch := (first | assumption | decide | omega)) only [df_X5_signal, df_X5_signal_0, df_X5_signal_21, a0, a16, i64, eq_self, Nat.reduceEqDiff, Nat.reduceLeDiff, nl_0, nl_1, nl_3, nl_6, nl_7, nl_16, nl_22, nl_31, nl_112, no_1, no_1024, pk_mul, nI_add, nm_ck, nI_clamp, nI_ltI, nI_leI, nI_eq, nb_b2, nb_b1, ↓nb_let, nm_z0, nm_z1, nb_II, nb_IR, nb_RI, nb_RR, nm_IL, nm_IQ, nm_RL, nm_RQ, nm_LI, nm_LR, nm_LL, nm_LQ, nm_QI, nm_QR, nm_QL, nm_QQ, nm_rr, nm_ii, nm_eqm, not_false_eq_true, pk_sub, nm_div, nm_shl, nm_shr, nm_ush, nm_or8, nm_or64, nm_or256, nm_m1, nm_m3, nm_m7, nm_m15, nm_m31, nm_m63, nm_m255, nm_m511, nm_m1023, nm_m2047, nm_m65535, Nat.reduceMod, Nat.reducePow, Nat.reduceAdd, Nat.reduceSub, Nat.reduceMul, nm_bo, nm_bi, nm_rc, nm_ic, nm_ri, nm_rl, nm_rq, nm_ql, nm_qi, nm_li, nm_us, nm_uu, nm_cp, nm_sa31, nm_sa7, nm_m127, nm_m2, nm_nz, nm_nzk, nm_eq32, nm_nzf, if_true, if_false, ↓reduceIte, if_pos, if_neg], by simp (disch := (first | assumption | decide | omega)) only [df_X16_signal, df_X16_signal_0, df_X16_signal_21, a0, a15, eq_self, Nat.reduceEqDiff, Nat.reduceLeDiff, nl_0, nl_1, nl_3, nl_4, nl_15, nl_16, nl_22, nl_31, no_1, no_1024, pk_mul, nI_add, nm_ck, nI_clamp, nI_ltI, nI_leI, nI_eq, nb_b2, nb_b1, ↓nb_let, nm_z0, nm_z1, nb_II, nb_IR, nb_RI, nb_RR, nm_IL, nm_IQ, nm_RL, nm_RQ, nm_LI, nm_LR, nm_LL, nm_LQ, nm_QI, nm_QR, nm_QL, nm_QQ, nm_rr, nm_ii, nm_eqm, not_false_eq_true, pk_sub, nm_div, nm_shl, nm_shr, nm_ush, nm_or8, nm_or64, nm_or256, nm_m1, nm_m3, nm_m7, nm_m15, nm_m31, nm_m63, nm_m255, nm_m511, nm_m1023, nm_m2047, nm_m65535, Nat.reduceMod, Nat.reducePow, Nat.reduceAdd, Nat.reduceSub, Nat.reduceMul, nm_bo, nm_bi, nm_rc, nm_ic, nm_ri, nm_rl, nm_rq, nm_ql, nm_qi, nm_li, nm_us, nm_uu, nm_cp, nm_sa31, nm_sa7, nm_m127, nm_m2, nm_nz, nm_nzk, nm_eq32, nm_nzf, if_true, if_false, ↓reduceIte, if_pos, if_neg], Or.inl ⟨rfl, rfl⟩⟩
  have a15 : ¬ 15 < A := by omega
  rcases sg_cases b with ⟨_, bn⟩ | ⟨B, hB, rfl⟩
  · exact ⟨-nI 22, K, X, by simp (disch := (first | assumption | decide | omega)) only [df_X5_signal, df_X5_signal_0, df_X5_signal_21, a0, a16, bn, i64, eq_self, Nat.reduceEqDiff, Nat.reduceLeDiff, nl_0, nl_1, nl_3, nl_6, nl_7, nl_16, nl_22, nl_31, nl_112, no_1, no_1024, pk_mul, nI_add, nm_ck, nI_clamp, nI_ltI, nI_leI, nI_eq, nb_b2, nb_b1, ↓nb_let, nm_z0, nm_z1, nb_II, nb_IR, nb_RI, nb_RR, nm_IL, nm_IQ, nm_RL, nm_RQ, nm_LI, nm_LR, nm_LL, nm_LQ, nm_QI, nm_QR, nm_QL, nm_QQ, nm_rr, nm_ii, nm_eqm, not_false_eq_true, pk_sub, nm_div, nm_shl, nm_shr, nm_ush, nm_or8, nm_or64, nm_or256, nm_m1, nm_m3, nm_m7, nm_m15, nm_m31, nm_m63, nm_m255, nm_m511, nm_m1023, nm_m2047, nm_m65535, Nat.reduceMod, Nat.reducePow, Nat.reduceAdd, Nat.reduceSub, Nat.reduceMul, nm_bo, nm_bi, nm_rc, nm_ic, nm_ri, nm_rl, nm_rq, nm_ql, nm_qi, nm_li, nm_us, nm_uu, nm_cp, nm_sa31, nm_sa7, nm_m127, nm_m2, nm_nz, nm_nzk, nm_eq32, nm_nzf, if_true, if_false, ↓reduceIte, if_pos, if_neg], by simp (disch := (first | assumption | decide | omega)) only [df_X16_signal, df_X16_signal_0, df_X16_signal_21, a0, a15, bn, eq_self, Nat.reduceEqDiff, Nat.reduceLeDiff, nl_0, nl_1, nl_3, nl_4, nl_15, nl_16, nl_22, nl_31, no_1, no_1024, pk_mul, nI_add, nm_ck, nI_clamp, nI_ltI, nI_leI, nI_eq, nb_b2, nb_b1, ↓nb_let, nm_z0, nm_z1, nb_II, nb_IR, nb_RI, nb_RR, nm_IL, nm_IQ, nm_RL, nm_RQ, nm_LI, nm_LR, nm_LL, nm_LQ, nm_QI, nm_QR, nm_QL, nm_QQ, nm_rr, nm_ii, nm_eqm, not_false_eq_true, pk_sub, nm_div, nm_shl, nm_shr, nm_ush, nm_or8, nm_or64, nm_or256, nm_m1, nm_m3, nm_m7, nm_m15, nm_m31, nm_m63, nm_m255, nm_m511, nm_m1023, nm_m2047, nm_m65535, Nat.reduceMod, Nat.reducePow, Nat.reduceAdd, Nat.reduceSub, Nat.reduceMul, nm_bo, nm_bi, nm_rc, nm_ic, nm_ri, nm_rl, nm_rq, nm_ql, nm_qi, nm_li, nm_us, nm_uu, nm_cp, nm_sa31, nm_sa7, nm_m127, nm_m2, nm_nz, nm_nzk, nm_eq32, nm_nzf, if_true, if_false, ↓reduceIte, if_pos, if_neg], Or.inl ⟨rfl, rfl⟩⟩
  by_cases b1 : B < 1
  · exact ⟨-nI 22, K, X, by simp (disch := (first | assumption | decide | omega)) only [df_X5_signal, df_X5_signal_0, df_X5_signal_21, a0, a16, b1, i64, eq_self, Nat.reduceEqDiff, Nat.reduceLeDiff, nl_0, nl_1, nl_3, nl_6, nl_7, nl_16, nl_22, nl_31, nl_112, no_1, no_1024, pk_mul, nI_add, nm_ck, nI_clamp, nI_ltI, nI_leI, nI_eq, nb_b2, nb_b1, ↓nb_let, nm_z0, nm_z1, nb_II, nb_IR, nb_RI, nb_RR, nm_IL, nm_IQ, nm_RL, nm_RQ, nm_LI, nm_LR, nm_LL, nm_LQ, nm_QI, nm_QR, nm_QL, nm_QQ, nm_rr, nm_ii, nm_eqm, not_false_eq_true, pk_sub, nm_div, nm_shl, nm_shr, nm_ush, nm_or8, nm_or64, nm_or256, nm_m1, nm_m3, nm_m7, nm_m15, nm_m31, nm_m63, nm_m255, nm_m511, nm_m1023, nm_m2047, nm_m65535, Nat.reduceMod, Nat.reducePow, Nat.reduceAdd, Nat.reduceSub, Nat.reduceMul, nm_bo, nm_bi, nm_rc, nm_ic, nm_ri, nm_rl, nm_rq, nm_ql, nm_qi, nm_li, nm_us, nm_uu, nm_cp, nm_sa31, nm_sa7, nm_m127, nm_m2, nm_nz, nm_nzk, nm_eq32, nm_nzf, if_true, if_false, ↓reduceIte, if_pos, if_neg], by simp (disch := (first | assumption | decide | omega)) only [df_X16_signal, df_X16_signal_0, df_X16_signal_21, a0, a15, b1, eq_self, Nat.reduceEqDiff, Nat.reduceLeDiff, nl_0, nl_1, nl_3, nl_4, nl_15, nl_16, nl_22, nl_31, no_1, no_1024, pk_mul, nI_add, nm_ck, nI_clamp, nI_ltI, nI_leI, nI_eq, nb_b2, nb_b1, ↓nb_let, nm_z0, nm_z1, nb_II, nb_IR, nb_RI, nb_RR, nm_IL, nm_IQ, nm_RL, nm_RQ, nm_LI, nm_LR, nm_LL, nm_LQ, nm_QI, nm_QR, nm_QL, nm_QQ, nm_rr, nm_ii, nm_eqm, not_false_eq_true, pk_sub, nm_div, nm_shl, nm_shr, nm_ush, nm_or8, nm_or64, nm_or256, nm_m1, nm_m3, nm_m7, nm_m15, nm_m31, nm_m63, nm_m255, nm_m511, nm_m1023, nm_m2047, nm_m65535, Nat.reduceMod, Nat.reducePow, Nat.reduceAdd, Nat.reduceSub, Nat.reduceMul, nm_bo, nm_bi, nm_rc, nm_ic, nm_ri, nm_rl, nm_rq, nm_ql, nm_qi, nm_li, nm_us, nm_uu, nm_cp, nm_sa31, nm_sa7, nm_m127, nm_m2, nm_nz, nm_nzk, nm_eq32, nm_nzf, if_true, if_false, ↓reduceIte, if_pos, if_neg], Or.inl ⟨rfl, rfl⟩⟩
  by_cases b16 : B < 16
  · have b15 : B ≤ 15 := by omega
    obtain ⟨t, c, ht, hc, t1, t2, t3, t4⟩ := hst A (by omega)
    have u0 : A < 16 := by omega
    have u1 : A * 7 < 112 := by omega
    have u2 : A * 7 < 2 ^ 31 := by omega
    have u3 : A * 7 + 3 < 112 := by omega
    have u4 : A * 7 + 3 < 2 ^ 31 := by omega
    have u5 : t < 2 ^ 31 := by omega
    have u6 : B < 2 ^ 32 := by omega
    have u7 : B < 32 := by omega
    by_cases t0 : t = 0
    · exact ⟨-nI 10, K, X, by simp (disch := (first | assumption | decide | omega)) only [df_X5_signal, df_X5_signal_0, df_X5_signal_48, df_X6_status_0, df_X6_status, a0, a16, b1, b16, Nat.add_zero, t1, t0, j64, eq_self, Nat.reduceEqDiff, Nat.reduceLeDiff, nl_0, nl_1, nl_3, nl_6, nl_7, nl_10, nl_16, nl_31, nl_112, no_1, no_1024, pk_mul, nI_add, nm_ck, nI_clamp, nI_ltI, nI_leI, nI_eq, nb_b2, nb_b1, ↓nb_let, nm_z0, nm_z1, nb_II, nb_IR, nb_RI, nb_RR, nm_IL, nm_IQ, nm_RL, nm_RQ, nm_LI, nm_LR, nm_LL, nm_LQ, nm_QI, nm_QR, nm_QL, nm_QQ, nm_rr, nm_ii, nm_eqm, not_false_eq_true, pk_sub, nm_div, nm_shl, nm_shr, nm_ush, nm_or8, nm_or64, nm_or256, nm_m1, nm_m3, nm_m7, nm_m15, nm_m31, nm_m63, nm_m255, nm_m511, nm_m1023, nm_m2047, nm_m65535, Nat.reduceMod, Nat.reducePow, Nat.reduceAdd, Nat.reduceSub, Nat.reduceMul, nm_bo, nm_bi, nm_rc, nm_ic, nm_ri, nm_rl, nm_rq, nm_ql, nm_qi, nm_li, nm_us, nm_uu, nm_cp, nm_sa31, nm_sa7, nm_m127, nm_m2, nm_nz, nm_nzk, nm_eq32, nm_nzf, if_true, if_false, ↓reduceIte, if_pos, if_neg], by simp (disch := (first | assumption | decide | omega)) only [df_X16_signal, df_X16_signal_0, df_X16_signal_43, a0, a15, b1, b15, t2, t0, eq_self, Nat.reduceEqDiff, Nat.reduceLeDiff, nl_0, nl_1, nl_3, nl_4, nl_10, nl_15, nl_16, nl_31, no_1, no_1024, pk_mul, nI_add, nm_ck, nI_clamp, nI_ltI, nI_leI, nI_eq, nb_b2, nb_b1, ↓nb_let, nm_z0, nm_z1, nb_II, nb_IR, nb_RI, nb_RR, nm_IL, nm_IQ, nm_RL, nm_RQ, nm_LI, nm_LR, nm_LL, nm_LQ, nm_QI, nm_QR, nm_QL, nm_QQ, nm_rr, nm_ii, nm_eqm, not_false_eq_true, pk_sub, nm_div, nm_shl, nm_shr, nm_ush, nm_or8, nm_or64, nm_or256, nm_m1, nm_m3, nm_m7, nm_m15, nm_m31, nm_m63, nm_m255, nm_m511, nm_m1023, nm_m2047, nm_m65535, Nat.reduceMod, Nat.reducePow, Nat.reduceAdd, Nat.reduceSub, Nat.reduceMul, nm_bo, nm_bi, nm_rc, nm_ic, nm_ri, nm_rl, nm_rq, nm_ql, nm_qi, nm_li, nm_us, nm_uu, nm_cp, nm_sa31, nm_sa7, nm_m127, nm_m2, nm_nz, nm_nzk, nm_eq32, nm_nzf, if_true, if_false, ↓reduceIte, if_pos, if_neg], Or.inl ⟨rfl, rfl⟩⟩
    by_cases t30 : t = 3
    · exact ⟨-nI 10, K, X, by simp (disch := (first | assumption | decide | omega)) only [df_X5_signal, df_X5_signal_0, df_X5_signal_48, df_X6_status_0, df_X6_status, a0, a16, b1, b16, Nat.add_zero, t1, t30, j64, eq_self, Nat.reduceEqDiff, Nat.reduceLeDiff, nl_0, nl_1, nl_3, nl_6, nl_7, nl_10, nl_16, nl_31, nl_112, no_1, no_1024, pk_mul, nI_add, nm_ck, nI_clamp, nI_ltI, nI_leI, nI_eq, nb_b2, nb_b1, ↓nb_let, nm_z0, nm_z1, nb_II, nb_IR, nb_RI, nb_RR, nm_IL, nm_IQ, nm_RL, nm_RQ, nm_LI, nm_LR, nm_LL, nm_LQ, nm_QI, nm_QR, nm_QL, nm_QQ, nm_rr, nm_ii, nm_eqm, not_false_eq_true, pk_sub, nm_div, nm_shl, nm_shr, nm_ush, nm_or8, nm_or64, nm_or256, nm_m1, nm_m3, nm_m7, nm_m15, nm_m31, nm_m63, nm_m255, nm_m511, nm_m1023, nm_m2047, nm_m65535, Nat.reduceMod, Nat.reducePow, Nat.reduceAdd, Nat.reduceSub, Nat.reduceMul, nm_bo, nm_bi, nm_rc, nm_ic, nm_ri, nm_rl, nm_rq, nm_ql, nm_qi, nm_li, nm_us, nm_uu, nm_cp, nm_sa31, nm_sa7, nm_m127, nm_m2, nm_nz, nm_nzk, nm_eq32, nm_nzf, if_true, if_false, ↓reduceIte, if_pos, if_neg], by simp (disch := (first | assumption | decide | omega)) only [df_X16_signal, df_X16_signal_0, df_X16_signal_43, a0, a15, b1, b15, t2, t30, eq_self, Nat.reduceEqDiff, Nat.reduceLeDiff, nl_0, nl_1, nl_3, nl_4, nl_10, nl_15, nl_16, nl_31, no_1, no_1024, pk_mul, nI_add, nm_ck, nI_clamp, nI_ltI, nI_leI, nI_eq, nb_b2, nb_b1, ↓nb_let, nm_z0, nm_z1, nb_II, nb_IR, nb_RI, nb_RR, nm_IL, nm_IQ, nm_RL, nm_RQ, nm_LI, nm_LR, nm_LL, nm_LQ, nm_QI, nm_QR, nm_QL, nm_QQ, nm_rr, nm_ii, nm_eqm, not_false_eq_true, pk_sub, nm_div, nm_shl, nm_shr, nm_ush, nm_or8, nm_or64, nm_or256, nm_m1, nm_m3, nm_m7, nm_m15, nm_m31, nm_m63, nm_m255, nm_m511, nm_m1023, nm_m2047, nm_m65535, Nat.reduceMod, Nat.reducePow, Nat.reduceAdd, Nat.reduceSub, Nat.reduceMul, nm_bo, nm_bi, nm_rc, nm_ic, nm_ri, nm_rl, nm_rq, nm_ql, nm_qi, nm_li, nm_us, nm_uu, nm_cp, nm_sa31, nm_sa7, nm_m127, nm_m2, nm_nz, nm_nzk, nm_eq32, nm_nzf, if_true, if_false, ↓reduceIte, if_pos, if_neg], Or.inl ⟨rfl, rfl⟩⟩
    · obtain ⟨c', hc', ec⟩ := pend_or hc (show 1 ≤ B by omega) b16
      have mB : B % 32 = B := by omega
      have e3 : ¬ sR X.1 1 A = nI 3 := by rw [t2]; exact fun z => t30 (nm_inI (by omega) (by omega) z)
      have e0 : ¬ sR X.1 1 A = nI 0 := by rw [t2]; exact fun z => t0 (nm_inI (by omega) (by omega) z)
      have e1 : df_X5_signal n (nI A) (nI B) K = some (0, (K.1, (K.2.1, (pR K.2.2.1 6 (upd (sR K.2.2.1 6) (A * 7 + 3) (nI (2 * c) ||| (nI 1 <<< nI B))), K.2.2.2)))) := by
        simp (disch := (first | assumption | decide | omega)) only [df_X5_signal, df_X5_signal_0, df_X6_status_0, df_X6_status, a0, a16, b1, b16, Nat.add_zero, t1, t0, t30, t3, mB, eq_self, Nat.reduceEqDiff, Nat.reduceLeDiff, nl_0, nl_1, nl_3, nl_6, nl_7, nl_16, nl_31, nl_112, no_1, no_1024, pk_mul, nI_add, nm_ck, nI_clamp, nI_ltI, nI_leI, nI_eq, nb_b2, nb_b1, ↓nb_let, nm_z0, nm_z1, nb_II, nb_IR, nb_RI, nb_RR, nm_IL, nm_IQ, nm_RL, nm_RQ, nm_LI, nm_LR, nm_LL, nm_LQ, nm_QI, nm_QR, nm_QL, nm_QQ, nm_rr, nm_ii, nm_eqm, not_false_eq_true, pk_sub, nm_div, nm_shl, nm_shr, nm_ush, nm_or8, nm_or64, nm_or256, nm_m1, nm_m3, nm_m7, nm_m15, nm_m31, nm_m63, nm_m255, nm_m511, nm_m1023, nm_m2047, nm_m65535, Nat.reduceMod, Nat.reducePow, Nat.reduceAdd, Nat.reduceSub, Nat.reduceMul, nm_bo, nm_bi, nm_rc, nm_ic, nm_ri, nm_rl, nm_rq, nm_ql, nm_qi, nm_li, nm_us, nm_uu, nm_cp, nm_sa31, nm_sa7, nm_m127, nm_m2, nm_nz, nm_nzk, nm_eq32, nm_nzf, if_true, if_false, ↓reduceIte, if_pos, if_neg]
      have e2 : df_X16_signal n (nI A) (nI B) X = some (nI 0, (pR X.1 4 (upd (sR X.1 4) A (nI (2 * c) ||| (nI 1 <<< nI B))), X.2)) := by
        simp (disch := (first | assumption | decide | omega)) only [df_X16_signal, df_X16_signal_0, a0, a15, b1, b15, t2, t0, t30, t4, mB, eq_self, Nat.reduceEqDiff, Nat.reduceLeDiff, nl_0, nl_1, nl_3, nl_4, nl_15, nl_16, nl_31, no_1, no_1024, pk_mul, nI_add, nm_ck, nI_clamp, nI_ltI, nI_leI, nI_eq, nb_b2, nb_b1, ↓nb_let, nm_z0, nm_z1, nb_II, nb_IR, nb_RI, nb_RR, nm_IL, nm_IQ, nm_RL, nm_RQ, nm_LI, nm_LR, nm_LL, nm_LQ, nm_QI, nm_QR, nm_QL, nm_QQ, nm_rr, nm_ii, nm_eqm, not_false_eq_true, pk_sub, nm_div, nm_shl, nm_shr, nm_ush, nm_or8, nm_or64, nm_or256, nm_m1, nm_m3, nm_m7, nm_m15, nm_m31, nm_m63, nm_m255, nm_m511, nm_m1023, nm_m2047, nm_m65535, Nat.reduceMod, Nat.reducePow, Nat.reduceAdd, Nat.reduceSub, Nat.reduceMul, nm_bo, nm_bi, nm_rc, nm_ic, nm_ri, nm_rl, nm_rq, nm_ql, nm_qi, nm_li, nm_us, nm_uu, nm_cp, nm_sa31, nm_sa7, nm_m127, nm_m2, nm_nz, nm_nzk, nm_eq32, nm_nzf, if_true, if_false, ↓reduceIte, if_pos, if_neg]
      exact ⟨nI 0, _, _, by rw [e1, z64], e2, Or.inr ⟨A, c', u0, hc', e0, e3, by rw [ec], by rw [ec]⟩⟩
  · have b15 : ¬ B ≤ 15 := by omega
    exact ⟨-nI 22, K, X, by simp (disch := (first | assumption | decide | omega)) only [df_X5_signal, df_X5_signal_0, df_X5_signal_21, a0, a16, b1, b16, i64, eq_self, Nat.reduceEqDiff, Nat.reduceLeDiff, nl_0, nl_1, nl_3, nl_6, nl_7, nl_16, nl_22, nl_31, nl_112, no_1, no_1024, pk_mul, nI_add, nm_ck, nI_clamp, nI_ltI, nI_leI, nI_eq, nb_b2, nb_b1, ↓nb_let, nm_z0, nm_z1, nb_II, nb_IR, nb_RI, nb_RR, nm_IL, nm_IQ, nm_RL, nm_RQ, nm_LI, nm_LR, nm_LL, nm_LQ, nm_QI, nm_QR, nm_QL, nm_QQ, nm_rr, nm_ii, nm_eqm, not_false_eq_true, pk_sub, nm_div, nm_shl, nm_shr, nm_ush, nm_or8, nm_or64, nm_or256, nm_m1, nm_m3, nm_m7, nm_m15, nm_m31, nm_m63, nm_m255, nm_m511, nm_m1023, nm_m2047, nm_m65535, Nat.reduceMod, Nat.reducePow, Nat.reduceAdd, Nat.reduceSub, Nat.reduceMul, nm_bo, nm_bi, nm_rc, nm_ic, nm_ri, nm_rl, nm_rq, nm_ql, nm_qi, nm_li, nm_us, nm_uu, nm_cp, nm_sa31, nm_sa7, nm_m127, nm_m2, nm_nz, nm_nzk, nm_eq32, nm_nzf, if_true, if_false, ↓reduceIte, if_pos, if_neg], by simp (disch := (first | assumption | decide | omega)) only [df_X16_signal, df_X16_signal_0, df_X16_signal_21, a0, a15, b1, b15, eq_self, Nat.reduceEqDiff, Nat.reduceLeDiff, nl_0, nl_1, nl_3, nl_4, nl_15, nl_16, nl_22, nl_31, no_1, no_1024, pk_mul, nI_add, nm_ck, nI_clamp, nI_ltI, nI_leI, nI_eq, nb_b2, nb_b1, ↓nb_let, nm_z0, nm_z1, nb_II, nb_IR, nb_RI, nb_RR, nm_IL, nm_IQ, nm_RL, nm_RQ, nm_LI, nm_LR, nm_LL, nm_LQ, nm_QI, nm_QR, nm_QL, nm_QQ, nm_rr, nm_ii, nm_eqm, not_false_eq_true, pk_sub, nm_div, nm_shl, nm_shr, nm_ush, nm_or8, nm_or64, nm_or256, nm_m1, nm_m3, nm_m7, nm_m15, nm_m31, nm_m63, nm_m255, nm_m511, nm_m1023, nm_m2047, nm_m65535, Nat.reduceMod, Nat.reducePow, Nat.reduceAdd, Nat.reduceSub, Nat.reduceMul, nm_bo, nm_bi, nm_rc, nm_ic, nm_ri, nm_rl, nm_rq, nm_ql, nm_qi, nm_li, nm_us, nm_uu, nm_cp, nm_sa31, nm_sa7, nm_m127, nm_m2, nm_nz, nm_nzk, nm_eq32, nm_nzf, if_true, if_false, ↓reduceIte, if_pos, if_neg], Or.inl ⟨rfl, rfl⟩⟩
/-- the kernel's call 'handle' -/
theorem nk_handle (n : Nat) {K : St × (St × (St × St))} {X : St × St} {p : Nat} (hp : p < 16) (e12 : sI X.1 12 = nI p) (hh : ∀ k : Nat, k < 16 → sR K.2.2.1 5 (p * 16 + k) = sR X.1 13 (16 * p + k)) (a b : Int32) : ∃ (v : Int32) (K' : St × (St × (St × St))) (X' : St × St), df_X5_handle n (nI p) a b K = some (v.toInt64, K') ∧ df_X16_handle n a b X = some (v, X') ∧ ((K' = K ∧ X' = X) ∨ ∃ k : Nat, k < 16 ∧ K' = (K.1, (K.2.1, (pR K.2.2.1 5 (upd (sR K.2.2.1 5) (p * 16 + k) b), K.2.2.2))) ∧ X' = (pR X.1 13 (upd (sR X.1 13) (16 * p + k) b), X.2)) := by
  have i64 : (-nI 22 : Int32).toInt64 = -22 := by decide
  rcases sg_cases a with ⟨_, an⟩ | ⟨A, hA, rfl⟩
  · exact ⟨-nI 22, K, X, by simp (disch := (first | assumption | decide | omega)) only [df_X5_handle, df_X5_handle_0, df_X5_handle_17, an, i64, eq_self, Nat.reduceEqDiff, Nat.reduceLeDiff, nl_1, nl_5, nl_9, nl_16, nl_22, nl_256, no_1, no_1024, pk_mul, nI_add, nm_ck, nI_clamp, nI_ltI, nI_leI, nI_eq, nb_b2, nb_b1, ↓nb_let, nm_z0, nm_z1, nb_II, nb_IR, nb_RI, nb_RR, nm_IL, nm_IQ, nm_RL, nm_RQ, nm_LI, nm_LR, nm_LL, nm_LQ, nm_QI, nm_QR, nm_QL, nm_QQ, nm_rr, nm_ii, nm_eqm, not_false_eq_true, pk_sub, nm_div, nm_shl, nm_shr, nm_ush, nm_or8, nm_or64, nm_or256, nm_m1, nm_m3, nm_m7, nm_m15, nm_m31, nm_m63, nm_m255, nm_m511, nm_m1023, nm_m2047, nm_m65535, Nat.reduceMod, Nat.reducePow, Nat.reduceAdd, Nat.reduceSub, Nat.reduceMul, nm_bo, nm_bi, nm_rc, nm_ic, nm_ri, nm_rl, nm_rq, nm_ql, nm_qi, nm_li, nm_us, nm_uu, nm_cp, nm_sa31, nm_sa7, nm_m127, nm_m2, nm_nz, nm_nzk, nm_eq32, nm_nzf, if_true, if_false, ↓reduceIte, if_pos, if_neg], by simp (disch := (first | assumption | decide | omega)) only [df_X16_handle, df_X16_handle_0, df_X16_handle_17, an, eq_self, Nat.reduceEqDiff, Nat.reduceLeDiff, nl_1, nl_9, nl_12, nl_13, nl_15, nl_16, nl_22, nl_256, no_1, no_1024, pk_mul, nI_add, nm_ck, nI_clamp, nI_ltI, nI_leI, nI_eq, nb_b2, nb_b1, ↓nb_let, nm_z0, nm_z1, nb_II, nb_IR, nb_RI, nb_RR, nm_IL, nm_IQ, nm_RL, nm_RQ, nm_LI, nm_LR, nm_LL, nm_LQ, nm_QI, nm_QR, nm_QL, nm_QQ, nm_rr, nm_ii, nm_eqm, not_false_eq_true, pk_sub, nm_div, nm_shl, nm_shr, nm_ush, nm_or8, nm_or64, nm_or256, nm_m1, nm_m3, nm_m7, nm_m15, nm_m31, nm_m63, nm_m255, nm_m511, nm_m1023, nm_m2047, nm_m65535, Nat.reduceMod, Nat.reducePow, Nat.reduceAdd, Nat.reduceSub, Nat.reduceMul, nm_bo, nm_bi, nm_rc, nm_ic, nm_ri, nm_rl, nm_rq, nm_ql, nm_qi, nm_li, nm_us, nm_uu, nm_cp, nm_sa31, nm_sa7, nm_m127, nm_m2, nm_nz, nm_nzk, nm_eq32, nm_nzf, if_true, if_false, ↓reduceIte, if_pos, if_neg], Or.inl ⟨rfl, rfl⟩⟩
  by_cases a1 : A < 1
  · exact ⟨-nI 22, K, X, by simp (disch := (first | assumption | decide | omega)) only [df_X5_handle, df_X5_handle_0, df_X5_handle_17, a1, i64, eq_self, Nat.reduceEqDiff, Nat.reduceLeDiff, nl_1, nl_5, nl_9, nl_16, nl_22, nl_256, no_1, no_1024, pk_mul, nI_add, nm_ck, nI_clamp, nI_ltI, nI_leI, nI_eq, nb_b2, nb_b1, ↓nb_let, nm_z0, nm_z1, nb_II, nb_IR, nb_RI, nb_RR, nm_IL, nm_IQ, nm_RL, nm_RQ, nm_LI, nm_LR, nm_LL, nm_LQ, nm_QI, nm_QR, nm_QL, nm_QQ, nm_rr, nm_ii, nm_eqm, not_false_eq_true, pk_sub, nm_div, nm_shl, nm_shr, nm_ush, nm_or8, nm_or64, nm_or256, nm_m1, nm_m3, nm_m7, nm_m15, nm_m31, nm_m63, nm_m255, nm_m511, nm_m1023, nm_m2047, nm_m65535, Nat.reduceMod, Nat.reducePow, Nat.reduceAdd, Nat.reduceSub, Nat.reduceMul, nm_bo, nm_bi, nm_rc, nm_ic, nm_ri, nm_rl, nm_rq, nm_ql, nm_qi, nm_li, nm_us, nm_uu, nm_cp, nm_sa31, nm_sa7, nm_m127, nm_m2, nm_nz, nm_nzk, nm_eq32, nm_nzf, if_true, if_false, ↓reduceIte, if_pos, if_neg], by simp (disch := (first | assumption | decide | omega)) only [df_X16_handle, df_X16_handle_0, df_X16_handle_17, a1, eq_self, Nat.reduceEqDiff, Nat.reduceLeDiff, nl_1, nl_9, nl_12, nl_13, nl_15, nl_16, nl_22, nl_256, no_1, no_1024, pk_mul, nI_add, nm_ck, nI_clamp, nI_ltI, nI_leI, nI_eq, nb_b2, nb_b1, ↓nb_let, nm_z0, nm_z1, nb_II, nb_IR, nb_RI, nb_RR, nm_IL, nm_IQ, nm_RL, nm_RQ, nm_LI, nm_LR, nm_LL, nm_LQ, nm_QI, nm_QR, nm_QL, nm_QQ, nm_rr, nm_ii, nm_eqm, not_false_eq_true, pk_sub, nm_div, nm_shl, nm_shr, nm_ush, nm_or8, nm_or64, nm_or256, nm_m1, nm_m3, nm_m7, nm_m15, nm_m31, nm_m63, nm_m255, nm_m511, nm_m1023, nm_m2047, nm_m65535, Nat.reduceMod, Nat.reducePow, Nat.reduceAdd, Nat.reduceSub, Nat.reduceMul, nm_bo, nm_bi, nm_rc, nm_ic, nm_ri, nm_rl, nm_rq, nm_ql, nm_qi, nm_li, nm_us, nm_uu, nm_cp, nm_sa31, nm_sa7, nm_m127, nm_m2, nm_nz, nm_nzk, nm_eq32, nm_nzf, if_true, if_false, ↓reduceIte, if_pos, if_neg], Or.inl ⟨rfl, rfl⟩⟩
  by_cases a16 : 16 ≤ A
  · have a15 : 15 < A := by omega
    exact ⟨-nI 22, K, X, by simp (disch := (first | assumption | decide | omega)) only [df_X5_handle, df_X5_handle_0, df_X5_handle_17, a1, a16, i64, eq_self, Nat.reduceEqDiff, Nat.reduceLeDiff, nl_1, nl_5, nl_9, nl_16, nl_22, nl_256, no_1, no_1024, pk_mul, nI_add, nm_ck, nI_clamp, nI_ltI, nI_leI, nI_eq, nb_b2, nb_b1, ↓nb_let, nm_z0, nm_z1, nb_II, nb_IR, nb_RI, nb_RR, nm_IL, nm_IQ, nm_RL, nm_RQ, nm_LI, nm_LR, nm_LL, nm_LQ, nm_QI, nm_QR, nm_QL, nm_QQ, nm_rr, nm_ii, nm_eqm, not_false_eq_true, pk_sub, nm_div, nm_shl, nm_shr, nm_ush, nm_or8, nm_or64, nm_or256, nm_m1, nm_m3, nm_m7, nm_m15, nm_m31, nm_m63, nm_m255, nm_m511, nm_m1023, nm_m2047, nm_m65535, Nat.reduceMod, Nat.reducePow, Nat.reduceAdd, Nat.reduceSub, Nat.reduceMul, nm_bo, nm_bi, nm_rc, nm_ic, nm_ri, nm_rl, nm_rq, nm_ql, nm_qi, nm_li, nm_us, nm_uu, nm_cp, nm_sa31, nm_sa7, nm_m127, nm_m2, nm_nz, nm_nzk, nm_eq32, nm_nzf, if_true, if_false, ↓reduceIte, if_pos, if_neg], by simp (disch := (first | assumption | decide | omega)) only [df_X16_handle, df_X16_handle_0, df_X16_handle_17, a1, a15, eq_self, Nat.reduceEqDiff, Nat.reduceLeDiff, nl_1, nl_9, nl_12, nl_13, nl_15, nl_16, nl_22, nl_256, no_1, no_1024, pk_mul, nI_add, nm_ck, nI_clamp, nI_ltI, nI_leI, nI_eq, nb_b2, nb_b1, ↓nb_let, nm_z0, nm_z1, nb_II, nb_IR, nb_RI, nb_RR, nm_IL, nm_IQ, nm_RL, nm_RQ, nm_LI, nm_LR, nm_LL, nm_LQ, nm_QI, nm_QR, nm_QL, nm_QQ, nm_rr, nm_ii, nm_eqm, not_false_eq_true, pk_sub, nm_div, nm_shl, nm_shr, nm_ush, nm_or8, nm_or64, nm_or256, nm_m1, nm_m3, nm_m7, nm_m15, nm_m31, nm_m63, nm_m255, nm_m511, nm_m1023, nm_m2047, nm_m65535, Nat.reduceMod, Nat.reducePow, Nat.reduceAdd, Nat.reduceSub, Nat.reduceMul, nm_bo, nm_bi, nm_rc, nm_ic, nm_ri, nm_rl, nm_rq, nm_ql, nm_qi, nm_li, nm_us, nm_uu, nm_cp, nm_sa31, nm_sa7, nm_m127, nm_m2, nm_nz, nm_nzk, nm_eq32, nm_nzf, if_true, if_false, ↓reduceIte, if_pos, if_neg], Or.inl ⟨rfl, rfl⟩⟩
  have a15 : ¬ 15 < A := by omega
  by_cases a9 : A = 9
  · exact ⟨-nI 22, K, X, by simp (disch := (first | assumption | decide | omega)) only [df_X5_handle, df_X5_handle_0, df_X5_handle_17, a1, a16, a9, i64, eq_self, Nat.reduceEqDiff, Nat.reduceLeDiff, nl_1, nl_5, nl_9, nl_16, nl_22, nl_256, no_1, no_1024, pk_mul, nI_add, nm_ck, nI_clamp, nI_ltI, nI_leI, nI_eq, nb_b2, nb_b1, ↓nb_let, nm_z0, nm_z1, nb_II, nb_IR, nb_RI, nb_RR, nm_IL, nm_IQ, nm_RL, nm_RQ, nm_LI, nm_LR, nm_LL, nm_LQ, nm_QI, nm_QR, nm_QL, nm_QQ, nm_rr, nm_ii, nm_eqm, not_false_eq_true, pk_sub, nm_div, nm_shl, nm_shr, nm_ush, nm_or8, nm_or64, nm_or256, nm_m1, nm_m3, nm_m7, nm_m15, nm_m31, nm_m63, nm_m255, nm_m511, nm_m1023, nm_m2047, nm_m65535, Nat.reduceMod, Nat.reducePow, Nat.reduceAdd, Nat.reduceSub, Nat.reduceMul, nm_bo, nm_bi, nm_rc, nm_ic, nm_ri, nm_rl, nm_rq, nm_ql, nm_qi, nm_li, nm_us, nm_uu, nm_cp, nm_sa31, nm_sa7, nm_m127, nm_m2, nm_nz, nm_nzk, nm_eq32, nm_nzf, if_true, if_false, ↓reduceIte, if_pos, if_neg], by simp (disch := (first | assumption | decide | omega)) only [df_X16_handle, df_X16_handle_0, df_X16_handle_17, a1, a15, a9, eq_self, Nat.reduceEqDiff, Nat.reduceLeDiff, nl_1, nl_9, nl_12, nl_13, nl_15, nl_16, nl_22, nl_256, no_1, no_1024, pk_mul, nI_add, nm_ck, nI_clamp, nI_ltI, nI_leI, nI_eq, nb_b2, nb_b1, ↓nb_let, nm_z0, nm_z1, nb_II, nb_IR, nb_RI, nb_RR, nm_IL, nm_IQ, nm_RL, nm_RQ, nm_LI, nm_LR, nm_LL, nm_LQ, nm_QI, nm_QR, nm_QL, nm_QQ, nm_rr, nm_ii, nm_eqm, not_false_eq_true, pk_sub, nm_div, nm_shl, nm_shr, nm_ush, nm_or8, nm_or64, nm_or256, nm_m1, nm_m3, nm_m7, nm_m15, nm_m31, nm_m63, nm_m255, nm_m511, nm_m1023, nm_m2047, nm_m65535, Nat.reduceMod, Nat.reducePow, Nat.reduceAdd, Nat.reduceSub, Nat.reduceMul, nm_bo, nm_bi, nm_rc, nm_ic, nm_ri, nm_rl, nm_rq, nm_ql, nm_qi, nm_li, nm_us, nm_uu, nm_cp, nm_sa31, nm_sa7, nm_m127, nm_m2, nm_nz, nm_nzk, nm_eq32, nm_nzf, if_true, if_false, ↓reduceIte, if_pos, if_neg], Or.inl ⟨rfl, rfl⟩⟩
  have u1 : p * 16 + A < 256 := by omega
  have u2 : p * 16 + A < 2 ^ 31 := by omega
  have u3 : 16 * p + A < 256 := by omega
  have u4 : 16 * p + A < 2 ^ 31 := by omega
  have eh := hh A (by omega)
  exact ⟨sR X.1 13 (16 * p + A), _, _, by (simp (disch := (first | assumption | decide | omega)) only [df_X5_handle, df_X5_handle_0, a1, a16, a9, eh, eq_self, Nat.reduceEqDiff, Nat.reduceLeDiff, nl_1, nl_5, nl_9, nl_16, nl_256, no_1, no_1024, pk_mul, nI_add, nm_ck, nI_clamp, nI_ltI, nI_leI, nI_eq, nb_b2, nb_b1, ↓nb_let, nm_z0, nm_z1, nb_II, nb_IR, nb_RI, nb_RR, nm_IL, nm_IQ, nm_RL, nm_RQ, nm_LI, nm_LR, nm_LL, nm_LQ, nm_QI, nm_QR, nm_QL, nm_QQ, nm_rr, nm_ii, nm_eqm, not_false_eq_true, pk_sub, nm_div, nm_shl, nm_shr, nm_ush, nm_or8, nm_or64, nm_or256, nm_m1, nm_m3, nm_m7, nm_m15, nm_m31, nm_m63, nm_m255, nm_m511, nm_m1023, nm_m2047, nm_m65535, Nat.reduceMod, Nat.reducePow, Nat.reduceAdd, Nat.reduceSub, Nat.reduceMul, nm_bo, nm_bi, nm_rc, nm_ic, nm_ri, nm_rl, nm_rq, nm_ql, nm_qi, nm_li, nm_us, nm_uu, nm_cp, nm_sa31, nm_sa7, nm_m127, nm_m2, nm_nz, nm_nzk, nm_eq32, nm_nzf, if_true, if_false, ↓reduceIte, if_pos, if_neg] <;> rfl), by (simp (disch := (first | assumption | decide | omega)) only [df_X16_handle, df_X16_handle_0, a1, a15, a9, e12, eq_self, Nat.reduceEqDiff, Nat.reduceLeDiff, nl_1, nl_9, nl_12, nl_13, nl_15, nl_16, nl_256, no_1, no_1024, pk_mul, nI_add, nm_ck, nI_clamp, nI_ltI, nI_leI, nI_eq, nb_b2, nb_b1, ↓nb_let, nm_z0, nm_z1, nb_II, nb_IR, nb_RI, nb_RR, nm_IL, nm_IQ, nm_RL, nm_RQ, nm_LI, nm_LR, nm_LL, nm_LQ, nm_QI, nm_QR, nm_QL, nm_QQ, nm_rr, nm_ii, nm_eqm, not_false_eq_true, pk_sub, nm_div, nm_shl, nm_shr, nm_ush, nm_or8, nm_or64, nm_or256, nm_m1, nm_m3, nm_m7, nm_m15, nm_m31, nm_m63, nm_m255, nm_m511, nm_m1023, nm_m2047, nm_m65535, Nat.reduceMod, Nat.reducePow, Nat.reduceAdd, Nat.reduceSub, Nat.reduceMul, nm_bo, nm_bi, nm_rc, nm_ic, nm_ri, nm_rl, nm_rq, nm_ql, nm_qi, nm_li, nm_us, nm_uu, nm_cp, nm_sa31, nm_sa7, nm_m127, nm_m2, nm_nz, nm_nzk, nm_eq32, nm_nzf, if_true, if_false, ↓reduceIte, if_pos, if_neg] <;> rfl), Or.inr ⟨A, by omega, rfl, rfl⟩⟩

/-- the kernel's call 'back': the class, the reference -/
theorem nk_backC (n : Nat) {K : St × (St × (St × St))} {p w : Nat} (hp : p < 16) (hw : w < 2) (ew : sR K.2.2.1 6 (p * 7 + 4) = nI w) : df_X5_back n (nI p) K = if w = 0 then some (-22, K) else some (2199023255552, (K.1, (K.2.1, (pR (pR K.2.2.1 3 (va_cpy (sR K.2.2.1 4) (sR K.2.2.1 3) (p * 33) (p * 33) 33)) 6 (upd (sR K.2.2.1 6) (p * 7 + 4) (nI 0)), K.2.2.2)))) := by
  have u3 : p * 33 + 33 ≤ 528 := by omega
  have u4 : p * 33 < 2 ^ 31 := by omega
  have u5 : p * 7 + 4 < 112 := by omega
  have u6 : p * 7 + 4 < 2 ^ 31 := by omega
  have cw : w = 0 ∨ w = 1 := by omega
  rcases cw with e | e
  · subst e
    rw [if_pos rfl]
    simp (disch := (first | assumption | decide | omega)) only [df_X5_back, df_X5_back_0, ew, eq_self, Nat.reduceEqDiff, Nat.reduceLeDiff, nl_0, nl_3, nl_4, nl_6, nl_7, nl_22, nl_33, nl_112, nl_528, nl_2199023255552, no_1, no_1024, pk_mul, nI_add, nm_ck, nI_clamp, nI_ltI, nI_leI, nI_eq, nb_b2, nb_b1, ↓nb_let, nm_z0, nm_z1, nb_II, nb_IR, nb_RI, nb_RR, nm_IL, nm_IQ, nm_RL, nm_RQ, nm_LI, nm_LR, nm_LL, nm_LQ, nm_QI, nm_QR, nm_QL, nm_QQ, nm_rr, nm_ii, nm_eqm, not_false_eq_true, pk_sub, nm_div, nm_shl, nm_shr, nm_ush, nm_or8, nm_or64, nm_or256, nm_m1, nm_m3, nm_m7, nm_m15, nm_m31, nm_m63, nm_m255, nm_m511, nm_m1023, nm_m2047, nm_m65535, Nat.reduceMod, Nat.reducePow, Nat.reduceAdd, Nat.reduceSub, Nat.reduceMul, nm_bo, nm_bi, nm_rc, nm_ic, nm_ri, nm_rl, nm_rq, nm_ql, nm_qi, nm_li, nm_us, nm_uu, nm_cp, nm_sa31, nm_sa7, nm_m127, nm_m2, nm_nz, nm_nzk, nm_eq32, nm_nzf, if_true, if_false, ↓reduceIte, if_pos, if_neg]
  · subst e
    rw [if_neg (by omega)]
    simp (disch := (first | assumption | decide | omega)) only [df_X5_back, df_X5_back_0, ew, eq_self, Nat.reduceEqDiff, Nat.reduceLeDiff, nm_rc (a := 6) (b := 3) (by decide), nl_0, nl_3, nl_4, nl_6, nl_7, nl_22, nl_33, nl_112, nl_528, nl_2199023255552, no_1, no_1024, pk_mul, nI_add, nm_ck, nI_clamp, nI_ltI, nI_leI, nI_eq, nb_b2, nb_b1, ↓nb_let, nm_z0, nm_z1, nb_II, nb_IR, nb_RI, nb_RR, nm_IL, nm_IQ, nm_RL, nm_RQ, nm_LI, nm_LR, nm_LL, nm_LQ, nm_QI, nm_QR, nm_QL, nm_QQ, nm_rr, nm_ii, nm_eqm, not_false_eq_true, pk_sub, nm_div, nm_shl, nm_shr, nm_ush, nm_or8, nm_or64, nm_or256, nm_m1, nm_m3, nm_m7, nm_m15, nm_m31, nm_m63, nm_m255, nm_m511, nm_m1023, nm_m2047, nm_m65535, Nat.reduceMod, Nat.reducePow, Nat.reduceAdd, Nat.reduceSub, Nat.reduceMul, nm_bo, nm_bi, nm_rc, nm_ic, nm_ri, nm_rl, nm_rq, nm_ql, nm_qi, nm_li, nm_us, nm_uu, nm_cp, nm_sa31, nm_sa7, nm_m127, nm_m2, nm_nz, nm_nzk, nm_eq32, nm_nzf, if_true, if_false, ↓reduceIte, if_pos, if_neg]
theorem nk_backR (n : Nat) (hn : 1024 < n) {X : St × St} {p w : Nat} (hp : p < 16) (hw : w < 2) (e12 : sI X.1 12 = nI p) (ew : sR X.1 8 p = nI w) : df_X16_back n X = if w = 0 then some (-nI 22, X) else some (nI 0, (pI (pR (pR (pR X.1 8 (upd (sR X.1 8) p (nI 0))) 9 (cpx (sR X.1 9) (sR X.1 11) (32 * p) 32)) 10 (upd (sR X.1 10) p (sR X.1 12 p))) 13 (nI 2), X.2)) := by
  have u3 : p < 2 ^ 31 := by omega
  have cw : w = 0 ∨ w = 1 := by omega
  rcases cw with e | e
  · subst e
    rw [if_pos rfl]
    simp (disch := (first | assumption | decide | omega)) only [df_X16_back, df_X16_back_0, e12, ew, eq_self, Nat.reduceEqDiff, Nat.reduceLeDiff, nl_0, nl_8, nl_12, nl_16, nl_22, no_1, no_1024, pk_mul, nI_add, nm_ck, nI_clamp, nI_ltI, nI_leI, nI_eq, nb_b2, nb_b1, ↓nb_let, nm_z0, nm_z1, nb_II, nb_IR, nb_RI, nb_RR, nm_IL, nm_IQ, nm_RL, nm_RQ, nm_LI, nm_LR, nm_LL, nm_LQ, nm_QI, nm_QR, nm_QL, nm_QQ, nm_rr, nm_ii, nm_eqm, not_false_eq_true, pk_sub, nm_div, nm_shl, nm_shr, nm_ush, nm_or8, nm_or64, nm_or256, nm_m1, nm_m3, nm_m7, nm_m15, nm_m31, nm_m63, nm_m255, nm_m511, nm_m1023, nm_m2047, nm_m65535, Nat.reduceMod, Nat.reducePow, Nat.reduceAdd, Nat.reduceSub, Nat.reduceMul, nm_bo, nm_bi, nm_rc, nm_ic, nm_ri, nm_rl, nm_rq, nm_ql, nm_qi, nm_li, nm_us, nm_uu, nm_cp, nm_sa31, nm_sa7, nm_m127, nm_m2, nm_nz, nm_nzk, nm_eq32, nm_nzf, if_true, if_false, ↓reduceIte, if_pos, if_neg]
  · subst e
    rw [if_neg (by omega)]
    obtain ⟨m, hm⟩ := nm_lq (fun m k => df_X16_back_17 n m (nI k) (pR X.1 9 (cpx (sR X.1 9) (sR X.1 11) (32 * p) k), X.2)) 32 n (by omega) (fun k m hk => by
      have u1 : 32 * p + k < 512 := by omega
      have u2 : 32 * p + k < 2 ^ 31 := by omega
      have u4 : k < 2 ^ 31 := by omega
      have k32 : ¬ 32 ≤ k := by omega
      have cs := cpx_s (sR X.1 9) (sR X.1 11) (32 * p) k
      rw [show df_X16_back_17 n (m + 1) = dF_X16_back_17 n (df_X16_back_17 n m) from rfl]
      simp (disch := (first | assumption | decide | omega)) only [dF_X16_back_17, k32, e12, cs, eq_self, Nat.reduceEqDiff, Nat.reduceLeDiff, nl_0, nl_1, nl_2, nl_8, nl_9, nl_10, nl_11, nl_12, nl_16, nl_32, nl_512, no_1, no_1024, pk_mul, nI_add, nm_ck, nI_clamp, nI_ltI, nI_leI, nI_eq, nb_b2, nb_b1, ↓nb_let, nm_z0, nm_z1, nb_II, nb_IR, nb_RI, nb_RR, nm_IL, nm_IQ, nm_RL, nm_RQ, nm_LI, nm_LR, nm_LL, nm_LQ, nm_QI, nm_QR, nm_QL, nm_QQ, nm_rr, nm_ii, nm_eqm, not_false_eq_true, pk_sub, nm_div, nm_shl, nm_shr, nm_ush, nm_or8, nm_or64, nm_or256, nm_m1, nm_m3, nm_m7, nm_m15, nm_m31, nm_m63, nm_m255, nm_m511, nm_m1023, nm_m2047, nm_m65535, Nat.reduceMod, Nat.reducePow, Nat.reduceAdd, Nat.reduceSub, Nat.reduceMul, nm_bo, nm_bi, nm_rc, nm_ic, nm_ri, nm_rl, nm_rq, nm_ql, nm_qi, nm_li, nm_us, nm_uu, nm_cp, nm_sa31, nm_sa7, nm_m127, nm_m2, nm_nz, nm_nzk, nm_eq32, nm_nzf, if_true, if_false, ↓reduceIte, if_pos, if_neg])
    rw [cpx_0, nm_r0] at hm
    have e0 : df_X16_back n X = df_X16_back_17 n n (nI 0) X := by
      simp (disch := (first | assumption | decide | omega)) only [df_X16_back, df_X16_back_0, e12, ew, eq_self, Nat.reduceEqDiff, Nat.reduceLeDiff, nl_0, nl_8, nl_12, nl_16, nl_22, no_1, no_1024, pk_mul, nI_add, nm_ck, nI_clamp, nI_ltI, nI_leI, nI_eq, nb_b2, nb_b1, ↓nb_let, nm_z0, nm_z1, nb_II, nb_IR, nb_RI, nb_RR, nm_IL, nm_IQ, nm_RL, nm_RQ, nm_LI, nm_LR, nm_LL, nm_LQ, nm_QI, nm_QR, nm_QL, nm_QQ, nm_rr, nm_ii, nm_eqm, not_false_eq_true, pk_sub, nm_div, nm_shl, nm_shr, nm_ush, nm_or8, nm_or64, nm_or256, nm_m1, nm_m3, nm_m7, nm_m15, nm_m31, nm_m63, nm_m255, nm_m511, nm_m1023, nm_m2047, nm_m65535, Nat.reduceMod, Nat.reducePow, Nat.reduceAdd, Nat.reduceSub, Nat.reduceMul, nm_bo, nm_bi, nm_rc, nm_ic, nm_ri, nm_rl, nm_rq, nm_ql, nm_qi, nm_li, nm_us, nm_uu, nm_cp, nm_sa31, nm_sa7, nm_m127, nm_m2, nm_nz, nm_nzk, nm_eq32, nm_nzf, if_true, if_false, ↓reduceIte, if_pos, if_neg]
    rw [e0]
    refine Eq.trans hm ?_
    rw [show df_X16_back_17 n (m + 1) = dF_X16_back_17 n (df_X16_back_17 n m) from rfl]
    simp (disch := (first | assumption | decide | omega)) only [dF_X16_back_17, df_X16_tell_0, df_X16_tell, e12, eq_self, Nat.reduceEqDiff, Nat.reduceLeDiff, nm_rc (a := 9) (b := 8) (by decide), nm_rc (a := 10) (b := 8) (by decide), nm_rc (a := 10) (b := 9) (by decide), nl_0, nl_1, nl_2, nl_8, nl_9, nl_10, nl_11, nl_12, nl_13, nl_16, nl_32, nl_512, no_1, no_1024, pk_mul, nI_add, nm_ck, nI_clamp, nI_ltI, nI_leI, nI_eq, nb_b2, nb_b1, ↓nb_let, nm_z0, nm_z1, nb_II, nb_IR, nb_RI, nb_RR, nm_IL, nm_IQ, nm_RL, nm_RQ, nm_LI, nm_LR, nm_LL, nm_LQ, nm_QI, nm_QR, nm_QL, nm_QQ, nm_rr, nm_ii, nm_eqm, not_false_eq_true, pk_sub, nm_div, nm_shl, nm_shr, nm_ush, nm_or8, nm_or64, nm_or256, nm_m1, nm_m3, nm_m7, nm_m15, nm_m31, nm_m63, nm_m255, nm_m511, nm_m1023, nm_m2047, nm_m65535, Nat.reduceMod, Nat.reducePow, Nat.reduceAdd, Nat.reduceSub, Nat.reduceMul, nm_bo, nm_bi, nm_rc, nm_ic, nm_ri, nm_rl, nm_rq, nm_ql, nm_qi, nm_li, nm_us, nm_uu, nm_cp, nm_sa31, nm_sa7, nm_m127, nm_m2, nm_nz, nm_nzk, nm_eq32, nm_nzf, if_true, if_false, ↓reduceIte, if_pos, if_neg]
/-- the first k places moved down by one -/
def shk (f : Nat → Int32) (k : Nat) : Nat → Int32 := fun j => if j < k then f (j + 1) else f j
theorem shk_0 (f : Nat → Int32) : shk f 0 = f := by
  funext j
  exact if_neg (by omega)
theorem shk_s (f : Nat → Int32) (k : Nat) : upd (shk f k) k (shk f k (k + 1)) = shk f (k + 1) := by
  funext j
  show (if j = k then (if k + 1 < k then f (k + 1 + 1) else f (k + 1)) else if j < k then f (j + 1) else f j) = if j < k + 1 then f (j + 1) else f j
  rw [if_neg (show ¬ k + 1 < k by omega)]
  by_cases c : j = k
  · rw [if_pos c, if_pos (by omega), c]
  · rw [if_neg c]
    by_cases d : j < k
    · rw [if_pos d, if_pos (by omega)]
    · rw [if_neg d, if_neg (by omega)]
/-- a random word is taken -/
theorem nk_randomC (n : Nat) {M : St × St} {r : Nat} (h1 : 1 ≤ r) (hr : r ≤ 16) (e : sI M.1 1 = nI r) : df_X6_takeRandom n M = some (sR M.1 7 0, (pI (pR M.1 7 (va_cpy (sR M.1 7) (sR M.1 7) 1 0 15)) 1 (nI (r - 1)), M.2)) := by
  have es : nI r - nI 1 = nI (r - 1) := pk_sub h1
  have u1 : r - 1 < 2 ^ 31 := by omega
  by_cases c : 0 < r - 1
  · simp (disch := (first | assumption | decide | omega)) only [df_X6_takeRandom_0, df_X6_takeRandom, e, es, c, eq_self, Nat.reduceEqDiff, Nat.reduceLeDiff, nl_0, nl_1, nl_7, nl_15, nl_16, no_1, no_1024, pk_mul, nI_add, nm_ck, nI_clamp, nI_ltI, nI_leI, nI_eq, nb_b2, nb_b1, ↓nb_let, nm_z0, nm_z1, nb_II, nb_IR, nb_RI, nb_RR, nm_IL, nm_IQ, nm_RL, nm_RQ, nm_LI, nm_LR, nm_LL, nm_LQ, nm_QI, nm_QR, nm_QL, nm_QQ, nm_rr, nm_ii, nm_eqm, not_false_eq_true, pk_sub, nm_div, nm_shl, nm_shr, nm_ush, nm_or8, nm_or64, nm_or256, nm_m1, nm_m3, nm_m7, nm_m15, nm_m31, nm_m63, nm_m255, nm_m511, nm_m1023, nm_m2047, nm_m65535, Nat.reduceMod, Nat.reducePow, Nat.reduceAdd, Nat.reduceSub, Nat.reduceMul, nm_bo, nm_bi, nm_rc, nm_ic, nm_ri, nm_rl, nm_rq, nm_ql, nm_qi, nm_li, nm_us, nm_uu, nm_cp, nm_sa31, nm_sa7, nm_m127, nm_m2, nm_nz, nm_nzk, nm_eq32, nm_nzf, if_true, if_false, ↓reduceIte, if_pos, if_neg]
  · have z : r - 1 = 0 := by omega
    rw [z] at es ⊢
    simp (disch := (first | assumption | decide | omega)) only [df_X6_takeRandom_0, df_X6_takeRandom, e, es, Nat.lt_irrefl, eq_self, Nat.reduceEqDiff, Nat.reduceLeDiff, nl_0, nl_1, nl_7, nl_15, nl_16, no_1, no_1024, pk_mul, nI_add, nm_ck, nI_clamp, nI_ltI, nI_leI, nI_eq, nb_b2, nb_b1, ↓nb_let, nm_z0, nm_z1, nb_II, nb_IR, nb_RI, nb_RR, nm_IL, nm_IQ, nm_RL, nm_RQ, nm_LI, nm_LR, nm_LL, nm_LQ, nm_QI, nm_QR, nm_QL, nm_QQ, nm_rr, nm_ii, nm_eqm, not_false_eq_true, pk_sub, nm_div, nm_shl, nm_shr, nm_ush, nm_or8, nm_or64, nm_or256, nm_m1, nm_m3, nm_m7, nm_m15, nm_m31, nm_m63, nm_m255, nm_m511, nm_m1023, nm_m2047, nm_m65535, Nat.reduceMod, Nat.reducePow, Nat.reduceAdd, Nat.reduceSub, Nat.reduceMul, nm_bo, nm_bi, nm_rc, nm_ic, nm_ri, nm_rl, nm_rq, nm_ql, nm_qi, nm_li, nm_us, nm_uu, nm_cp, nm_sa31, nm_sa7, nm_m127, nm_m2, nm_nz, nm_nzk, nm_eq32, nm_nzf, if_true, if_false, ↓reduceIte, if_pos, if_neg]
theorem nk_randomR (n : Nat) (hn : 1024 < n) {X : St × St} {r : Nat} (h1 : 1 ≤ r) (hr : r ≤ 16) (e : sI X.1 5 = nI r) : df_X16_random n X = some (sR X.1 0 0, (pI (pR X.1 0 (shk (sR X.1 0) (r - 1))) 5 (nI (r - 1)), X.2)) := by
  have es : nI r - nI 1 = nI (r - 1) := pk_sub h1
  have u1 : r < 2 ^ 31 := by omega
  have r0 : ¬ r = 0 := by omega
  obtain ⟨m, hm⟩ := nm_lq (fun m k => df_X16_random_32 n m (sR X.1 0 0) (nI k) (pI (pR X.1 0 (shk (sR X.1 0) k)) 5 (nI (r - 1)), X.2)) (r - 1) n (by omega) (fun k m hk => by
    have v1 : k + 1 < 16 := by omega
    have v2 : k + 1 < 2 ^ 31 := by omega
    have v3 : k < 2 ^ 31 := by omega
    have v4 : k < 16 := by omega
    have v5 : r - 1 < 2 ^ 31 := by omega
    have k32 : ¬ r - 1 ≤ k := by omega
    have cs := shk_s (sR X.1 0) k
    rw [show df_X16_random_32 n (m + 1) = dF_X16_random_32 n (df_X16_random_32 n m) from rfl]
    simp (disch := (first | assumption | decide | omega)) only [dF_X16_random_32, k32, cs, eq_self, Nat.reduceEqDiff, Nat.reduceLeDiff, nl_0, nl_1, nl_5, nl_16, no_1, no_1024, pk_mul, nI_add, nm_ck, nI_clamp, nI_ltI, nI_leI, nI_eq, nb_b2, nb_b1, ↓nb_let, nm_z0, nm_z1, nb_II, nb_IR, nb_RI, nb_RR, nm_IL, nm_IQ, nm_RL, nm_RQ, nm_LI, nm_LR, nm_LL, nm_LQ, nm_QI, nm_QR, nm_QL, nm_QQ, nm_rr, nm_ii, nm_eqm, not_false_eq_true, pk_sub, nm_div, nm_shl, nm_shr, nm_ush, nm_or8, nm_or64, nm_or256, nm_m1, nm_m3, nm_m7, nm_m15, nm_m31, nm_m63, nm_m255, nm_m511, nm_m1023, nm_m2047, nm_m65535, Nat.reduceMod, Nat.reducePow, Nat.reduceAdd, Nat.reduceSub, Nat.reduceMul, nm_bo, nm_bi, nm_rc, nm_ic, nm_ri, nm_rl, nm_rq, nm_ql, nm_qi, nm_li, nm_us, nm_uu, nm_cp, nm_sa31, nm_sa7, nm_m127, nm_m2, nm_nz, nm_nzk, nm_eq32, nm_nzf, if_true, if_false, ↓reduceIte, if_pos, if_neg])
  rw [shk_0, nm_r0] at hm
  have e0 : df_X16_random n X = df_X16_random_32 n n (sR X.1 0 0) (nI 0) (pI X.1 5 (nI (r - 1)), X.2) := by
    simp (disch := (first | assumption | decide | omega)) only [df_X16_random, df_X16_random_0, e, r0, es, eq_self, Nat.reduceEqDiff, Nat.reduceLeDiff, nl_0, nl_1, nl_5, no_1, no_1024, pk_mul, nI_add, nm_ck, nI_clamp, nI_ltI, nI_leI, nI_eq, nb_b2, nb_b1, ↓nb_let, nm_z0, nm_z1, nb_II, nb_IR, nb_RI, nb_RR, nm_IL, nm_IQ, nm_RL, nm_RQ, nm_LI, nm_LR, nm_LL, nm_LQ, nm_QI, nm_QR, nm_QL, nm_QQ, nm_rr, nm_ii, nm_eqm, not_false_eq_true, pk_sub, nm_div, nm_shl, nm_shr, nm_ush, nm_or8, nm_or64, nm_or256, nm_m1, nm_m3, nm_m7, nm_m15, nm_m31, nm_m63, nm_m255, nm_m511, nm_m1023, nm_m2047, nm_m65535, Nat.reduceMod, Nat.reducePow, Nat.reduceAdd, Nat.reduceSub, Nat.reduceMul, nm_bo, nm_bi, nm_rc, nm_ic, nm_ri, nm_rl, nm_rq, nm_ql, nm_qi, nm_li, nm_us, nm_uu, nm_cp, nm_sa31, nm_sa7, nm_m127, nm_m2, nm_nz, nm_nzk, nm_eq32, nm_nzf, if_true, if_false, ↓reduceIte, if_pos, if_neg]
  rw [e0]
  refine Eq.trans hm ?_
  have v5 : r - 1 < 2 ^ 31 := by omega
  have le : r - 1 ≤ r - 1 := Nat.le_refl _
  rw [show df_X16_random_32 n (m + 1) = dF_X16_random_32 n (df_X16_random_32 n m) from rfl]
  simp (disch := (first | assumption | decide | omega)) only [dF_X16_random_32, le, eq_self, Nat.reduceEqDiff, Nat.reduceLeDiff, nl_0, nl_1, nl_5, nl_16, no_1, no_1024, pk_mul, nI_add, nm_ck, nI_clamp, nI_ltI, nI_leI, nI_eq, nb_b2, nb_b1, ↓nb_let, nm_z0, nm_z1, nb_II, nb_IR, nb_RI, nb_RR, nm_IL, nm_IQ, nm_RL, nm_RQ, nm_LI, nm_LR, nm_LL, nm_LQ, nm_QI, nm_QR, nm_QL, nm_QQ, nm_rr, nm_ii, nm_eqm, not_false_eq_true, pk_sub, nm_div, nm_shl, nm_shr, nm_ush, nm_or8, nm_or64, nm_or256, nm_m1, nm_m3, nm_m7, nm_m15, nm_m31, nm_m63, nm_m255, nm_m511, nm_m1023, nm_m2047, nm_m65535, Nat.reduceMod, Nat.reducePow, Nat.reduceAdd, Nat.reduceSub, Nat.reduceMul, nm_bo, nm_bi, nm_rc, nm_ic, nm_ri, nm_rl, nm_rq, nm_ql, nm_qi, nm_li, nm_us, nm_uu, nm_cp, nm_sa31, nm_sa7, nm_m127, nm_m2, nm_nz, nm_nzk, nm_eq32, nm_nzf, if_true, if_false, ↓reduceIte, if_pos, if_neg]

