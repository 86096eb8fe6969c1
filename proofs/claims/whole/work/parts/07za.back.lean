/-- the kernel's call 'back': the class, the reference -/
theorem nk_backC (n : Nat) {K : St × (St × (St × St))} {p w : Nat} (hp : p < 16) (hw : w < 2) (ew : sR K.2.2.1 6 (p * 7 + 4) = nI w) : df_X5_back n (nI p) K = if w = 0 then some (-22, K) else some (2199023255552, (K.1, (K.2.1, (pR (pR K.2.2.1 3 (va_cpy (sR K.2.2.1 4) (sR K.2.2.1 3) (p * 33) (p * 33) 33)) 6 (upd (sR K.2.2.1 6) (p * 7 + 4) (nI 0)), K.2.2.2)))) := by
  have u3 : p * 33 + 33 ≤ 528 := by omega
  have u4 : p * 33 < 2 ^ 31 := by omega
  have u5 : p * 7 + 4 < 112 := by omega
  have u6 : p * 7 + 4 < 2 ^ 31 := by omega
  have cw : w = 0 ∨ w = 1 := by omega
  rcases cw with e | e
  · subst e
    rw [if_pos rfl]
    simp (disch := (first | assumption | decide | omega)) only [df_X5_back, df_X5_back_0, ew, eq_self, Nat.reduceEqDiff, Nat.reduceLeDiff, nl_0, nl_3, nl_4, nl_6, nl_7, nl_22, nl_33, nl_112, nl_528, nl_2199023255552, no_1, no_1024, pk_mul, nI_add, nm_ck, nI_clamp, nI_ltI, nI_leI, nI_eq, nb_b2, nb_b1, ↓nb_let, nm_z0, nm_z1, nb_II, nb_IR, nb_RI, nb_RR, nm_IL, nm_IQ, nm_RL, nm_RQ, nm_LI, nm_LR, nm_LL, nm_LQ, nm_QI, nm_QR, nm_QL, nm_QQ, nm_rr, nm_ii, nm_eqm, not_false_eq_true, pk_sub, nm_div, nm_shl, nm_shr, nm_ush, nm_or8, nm_or64, nm_or256, nm_m1, nm_m3, nm_m7, nm_m15, nm_m31, nm_m63, nm_m255, nm_m511, nm_m1023, nm_m2047, nm_m65535, Nat.reduceMod, Nat.reducePow, Nat.reduceAdd, Nat.reduceSub, Nat.reduceMul, nm_bo, nm_bi, nm_rc, nm_ic, nm_ri, nm_rl, nm_rq, nm_ql, nm_qi, nm_li, nm_us, nm_uu, nm_cp, nm_sa31, nm_sa7, nm_m127, nm_m2, nm_nz, nm_nzk, nm_eq32, nm_nzf, if_true, if_false, ↓reduceIte, if_pos, if_neg]
  · subst e
    rw [if_neg (by omega)]
    simp (disch := (first | assumption | decide | omega)) only [df_X5_back, df_X5_back_0, ew, eq_self, Nat.reduceEqDiff, Nat.reduceLeDiff, nm_rc (a := 6) (b := 3) (by decide), nl_0, nl_3, nl_4, nl_6, nl_7, nl_22, nl_33, nl_112, nl_528, nl_2199023255552, no_1, no_1024, pk_mul, nI_add, nm_ck, nI_clamp, nI_ltI, nI_leI, nI_eq, nb_b2, nb_b1, ↓nb_let, nm_z0, nm_z1, nb_II, nb_IR, nb_RI, nb_RR, nm_IL, nm_IQ, nm_RL, nm_RQ, nm_LI, nm_LR, nm_LL, nm_LQ, nm_QI, nm_QR, nm_QL, nm_QQ, nm_rr, nm_ii, nm_eqm, not_false_eq_true, pk_sub, nm_div, nm_shl, nm_shr, nm_ush, nm_or8, nm_or64, nm_or256, nm_m1, nm_m3, nm_m7, nm_m15, nm_m31, nm_m63, nm_m255, nm_m511, nm_m1023, nm_m2047, nm_m65535, Nat.reduceMod, Nat.reducePow, Nat.reduceAdd, Nat.reduceSub, Nat.reduceMul, nm_bo, nm_bi, nm_rc, nm_ic, nm_ri, nm_rl, nm_rq, nm_ql, nm_qi, nm_li, nm_us, nm_uu, nm_cp, nm_sa31, nm_sa7, nm_m127, nm_m2, nm_nz, nm_nzk, nm_eq32, nm_nzf, if_true, if_false, ↓reduceIte, if_pos, if_neg]
theorem nk_backR (n : Nat) (hn : 1024 < n) {X : St × St} {p w : Nat} (hp : p < 16) (hw : w < 2) (e12 : sI X.1 12 = nI p) (ew : sR X.1 8 p = nI w) : df_X16_back n X = if w = 0 then some (-nI 22, X) else some (nI 0, (pI (pR (pR (pR X.1 8 (upd (sR X.1 8) p (nI 0))) 9 (cpx (sR X.1 9) (sR X.1 11) (32 * p) 32)) 10 (upd (sR X.1 10) p (sR X.1 12 p))) 13 (nI 2), X.2)) := by
  have u3 : p < 2 ^ 31 := by omega
  have cw : w = 0 ∨ w = 1 := by omega
  rcases cw with e | e
  · subst e
    rw [if_pos rfl]
    simp (disch := (first | assumption | decide | omega)) only [df_X16_back, df_X16_back_0, e12, ew, eq_self, Nat.reduceEqDiff, Nat.reduceLeDiff, nl_0, nl_8, nl_12, nl_16, nl_22, no_1, no_1024, pk_mul, nI_add, nm_ck, nI_clamp, nI_ltI, nI_leI, nI_eq, nb_b2, nb_b1, ↓nb_let, nm_z0, nm_z1, nb_II, nb_IR, nb_RI, nb_RR, nm_IL, nm_IQ, nm_RL, nm_RQ, nm_LI, nm_LR, nm_LL, nm_LQ, nm_QI, nm_QR, nm_QL, nm_QQ, nm_rr, nm_ii, nm_eqm, not_false_eq_true, pk_sub, nm_div, nm_shl, nm_shr, nm_ush, nm_or8, nm_or64, nm_or256, nm_m1, nm_m3, nm_m7, nm_m15, nm_m31, nm_m63, nm_m255, nm_m511, nm_m1023, nm_m2047, nm_m65535, Nat.reduceMod, Nat.reducePow, Nat.reduceAdd, Nat.reduceSub, Nat.reduceMul, nm_bo, nm_bi, nm_rc, nm_ic, nm_ri, nm_rl, nm_rq, nm_ql, nm_qi, nm_li, nm_us, nm_uu, nm_cp, nm_sa31, nm_sa7, nm_m127, nm_m2, nm_nz, nm_nzk, nm_eq32, nm_nzf, if_true, if_false, ↓reduceIte, if_pos, if_neg]
  · subst e
    rw [if_neg (by omega)]
    obtain ⟨m, hm⟩ := nm_lq (fun m k => df_X16_back_17 n m (nI k) (pR X.1 9 (cpx (sR X.1 9) (sR X.1 11) (32 * p) k), X.2)) 32 n (by omega) (fun k m hk => by
      have u1 : 32 * p + k < 512 := by omega
      have u2 : 32 * p + k < 2 ^ 31 := by omega
      have u4 : k < 2 ^ 31 := by omega
      have k32 : ¬ 32 ≤ k := by omega
      have cs := cpx_s (sR X.1 9) (sR X.1 11) (32 * p) k
      rw [show df_X16_back_17 n (m + 1) = dF_X16_back_17 n (df_X16_back_17 n m) from rfl]
      simp (disch := (first | assumption | decide | omega)) only [dF_X16_back_17, k32, e12, cs, eq_self, Nat.reduceEqDiff, Nat.reduceLeDiff, nl_0, nl_1, nl_2, nl_8, nl_9, nl_10, nl_11, nl_12, nl_16, nl_32, nl_512, no_1, no_1024, pk_mul, nI_add, nm_ck, nI_clamp, nI_ltI, nI_leI, nI_eq, nb_b2, nb_b1, ↓nb_let, nm_z0, nm_z1, nb_II, nb_IR, nb_RI, nb_RR, nm_IL, nm_IQ, nm_RL, nm_RQ, nm_LI, nm_LR, nm_LL, nm_LQ, nm_QI, nm_QR, nm_QL, nm_QQ, nm_rr, nm_ii, nm_eqm, not_false_eq_true, pk_sub, nm_div, nm_shl, nm_shr, nm_ush, nm_or8, nm_or64, nm_or256, nm_m1, nm_m3, nm_m7, nm_m15, nm_m31, nm_m63, nm_m255, nm_m511, nm_m1023, nm_m2047, nm_m65535, Nat.reduceMod, Nat.reducePow, Nat.reduceAdd, Nat.reduceSub, Nat.reduceMul, nm_bo, nm_bi, nm_rc, nm_ic, nm_ri, nm_rl, nm_rq, nm_ql, nm_qi, nm_li, nm_us, nm_uu, nm_cp, nm_sa31, nm_sa7, nm_m127, nm_m2, nm_nz, nm_nzk, nm_eq32, nm_nzf, if_true, if_false, ↓reduceIte, if_pos, if_neg])
    rw [cpx_0, nm_r0] at hm
    have e0 : df_X16_back n X = df_X16_back_17 n n (nI 0) X := by
      simp (disch := (first | assumption | decide | omega)) only [df_X16_back, df_X16_back_0, e12, ew, eq_self, Nat.reduceEqDiff, Nat.reduceLeDiff, nl_0, nl_8, nl_12, nl_16, nl_22, no_1, no_1024, pk_mul, nI_add, nm_ck, nI_clamp, nI_ltI, nI_leI, nI_eq, nb_b2, nb_b1, ↓nb_let, nm_z0, nm_z1, nb_II, nb_IR, nb_RI, nb_RR, nm_IL, nm_IQ, nm_RL, nm_RQ, nm_LI, nm_LR, nm_LL, nm_LQ, nm_QI, nm_QR, nm_QL, nm_QQ, nm_rr, nm_ii, nm_eqm, not_false_eq_true, pk_sub, nm_div, nm_shl, nm_shr, nm_ush, nm_or8, nm_or64, nm_or256, nm_m1, nm_m3, nm_m7, nm_m15, nm_m31, nm_m63, nm_m255, nm_m511, nm_m1023, nm_m2047, nm_m65535, Nat.reduceMod, Nat.reducePow, Nat.reduceAdd, Nat.reduceSub, Nat.reduceMul, nm_bo, nm_bi, nm_rc, nm_ic, nm_ri, nm_rl, nm_rq, nm_ql, nm_qi, nm_li, nm_us, nm_uu, nm_cp, nm_sa31, nm_sa7, nm_m127, nm_m2, nm_nz, nm_nzk, nm_eq32, nm_nzf, if_true, if_false, ↓reduceIte, if_pos, if_neg]
    rw [e0]
    refine Eq.trans hm ?_
    rw [show df_X16_back_17 n (m + 1) = dF_X16_back_17 n (df_X16_back_17 n m) from rfl]
    simp (disch := (first | assumption | decide | omega)) only [dF_X16_back_17, df_X16_tell_0, df_X16_tell, e12, eq_self, Nat.reduceEqDiff, Nat.reduceLeDiff, nm_rc (a := 9) (b := 8) (by decide), nm_rc (a := 10) (b := 8) (by decide), nm_rc (a := 10) (b := 9) (by decide), nl_0, nl_1, nl_2, nl_8, nl_9, nl_10, nl_11, nl_12, nl_13, nl_16, nl_32, nl_512, no_1, no_1024, pk_mul, nI_add, nm_ck, nI_clamp, nI_ltI, nI_leI, nI_eq, nb_b2, nb_b1, ↓nb_let, nm_z0, nm_z1, nb_II, nb_IR, nb_RI, nb_RR, nm_IL, nm_IQ, nm_RL, nm_RQ, nm_LI, nm_LR, nm_LL, nm_LQ, nm_QI, nm_QR, nm_QL, nm_QQ, nm_rr, nm_ii, nm_eqm, not_false_eq_true, pk_sub, nm_div, nm_shl, nm_shr, nm_ush, nm_or8, nm_or64, nm_or256, nm_m1, nm_m3, nm_m7, nm_m15, nm_m31, nm_m63, nm_m255, nm_m511, nm_m1023, nm_m2047, nm_m65535, Nat.reduceMod, Nat.reducePow, Nat.reduceAdd, Nat.reduceSub, Nat.reduceMul, nm_bo, nm_bi, nm_rc, nm_ic, nm_ri, nm_rl, nm_rq, nm_ql, nm_qi, nm_li, nm_us, nm_uu, nm_cp, nm_sa31, nm_sa7, nm_m127, nm_m2, nm_nz, nm_nzk, nm_eq32, nm_nzf, if_true, if_false, ↓reduceIte, if_pos, if_neg]
/-- the first k places moved down by one -/
def shk (f : Nat → Int32) (k : Nat) : Nat → Int32 := fun j => if j < k then f (j + 1) else f j
theorem shk_0 (f : Nat → Int32) : shk f 0 = f := by
  funext j
  exact if_neg (by omega)
theorem shk_s (f : Nat → Int32) (k : Nat) : upd (shk f k) k (shk f k (k + 1)) = shk f (k + 1) := by
  funext j
  show (if j = k then (if k + 1 < k then f (k + 1 + 1) else f (k + 1)) else if j < k then f (j + 1) else f j) = if j < k + 1 then f (j + 1) else f j
  rw [if_neg (show ¬ k + 1 < k by omega)]
  by_cases c : j = k
  · rw [if_pos c, if_pos (by omega), c]
  · rw [if_neg c]
    by_cases d : j < k
    · rw [if_pos d, if_pos (by omega)]
    · rw [if_neg d, if_neg (by omega)]
/-- a random word is taken -/
theorem nk_randomC (n : Nat) {M : St × St} {r : Nat} (h1 : 1 ≤ r) (hr : r ≤ 16) (e : sI M.1 1 = nI r) : df_X6_takeRandom n M = some (sR M.1 7 0, (pI (pR M.1 7 (va_cpy (sR M.1 7) (sR M.1 7) 1 0 15)) 1 (nI (r - 1)), M.2)) := by
  have es : nI r - nI 1 = nI (r - 1) := pk_sub h1
  have u1 : r - 1 < 2 ^ 31 := by omega
  by_cases c : 0 < r - 1
  · simp (disch := (first | assumption | decide | omega)) only [df_X6_takeRandom_0, df_X6_takeRandom, e, es, c, eq_self, Nat.reduceEqDiff, Nat.reduceLeDiff, nl_0, nl_1, nl_7, nl_15, nl_16, no_1, no_1024, pk_mul, nI_add, nm_ck, nI_clamp, nI_ltI, nI_leI, nI_eq, nb_b2, nb_b1, ↓nb_let, nm_z0, nm_z1, nb_II, nb_IR, nb_RI, nb_RR, nm_IL, nm_IQ, nm_RL, nm_RQ, nm_LI, nm_LR, nm_LL, nm_LQ, nm_QI, nm_QR, nm_QL, nm_QQ, nm_rr, nm_ii, nm_eqm, not_false_eq_true, pk_sub, nm_div, nm_shl, nm_shr, nm_ush, nm_or8, nm_or64, nm_or256, nm_m1, nm_m3, nm_m7, nm_m15, nm_m31, nm_m63, nm_m255, nm_m511, nm_m1023, nm_m2047, nm_m65535, Nat.reduceMod, Nat.reducePow, Nat.reduceAdd, Nat.reduceSub, Nat.reduceMul, nm_bo, nm_bi, nm_rc, nm_ic, nm_ri, nm_rl, nm_rq, nm_ql, nm_qi, nm_li, nm_us, nm_uu, nm_cp, nm_sa31, nm_sa7, nm_m127, nm_m2, nm_nz, nm_nzk, nm_eq32, nm_nzf, if_true, if_false, ↓reduceIte, if_pos, if_neg]
  · have z : r - 1 = 0 := by omega
    rw [z] at es ⊢
    simp (disch := (first | assumption | decide | omega)) only [df_X6_takeRandom_0, df_X6_takeRandom, e, es, Nat.lt_irrefl, eq_self, Nat.reduceEqDiff, Nat.reduceLeDiff, nl_0, nl_1, nl_7, nl_15, nl_16, no_1, no_1024, pk_mul, nI_add, nm_ck, nI_clamp, nI_ltI, nI_leI, nI_eq, nb_b2, nb_b1, ↓nb_let, nm_z0, nm_z1, nb_II, nb_IR, nb_RI, nb_RR, nm_IL, nm_IQ, nm_RL, nm_RQ, nm_LI, nm_LR, nm_LL, nm_LQ, nm_QI, nm_QR, nm_QL, nm_QQ, nm_rr, nm_ii, nm_eqm, not_false_eq_true, pk_sub, nm_div, nm_shl, nm_shr, nm_ush, nm_or8, nm_or64, nm_or256, nm_m1, nm_m3, nm_m7, nm_m15, nm_m31, nm_m63, nm_m255, nm_m511, nm_m1023, nm_m2047, nm_m65535, Nat.reduceMod, Nat.reducePow, Nat.reduceAdd, Nat.reduceSub, Nat.reduceMul, nm_bo, nm_bi, nm_rc, nm_ic, nm_ri, nm_rl, nm_rq, nm_ql, nm_qi, nm_li, nm_us, nm_uu, nm_cp, nm_sa31, nm_sa7, nm_m127, nm_m2, nm_nz, nm_nzk, nm_eq32, nm_nzf, if_true, if_false, ↓reduceIte, if_pos, if_neg]
theorem nk_randomR (n : Nat) (hn : 1024 < n) {X : St × St} {r : Nat} (h1 : 1 ≤ r) (hr : r ≤ 16) (e : sI X.1 5 = nI r) : df_X16_random n X = some (sR X.1 0 0, (pI (pR X.1 0 (shk (sR X.1 0) (r - 1))) 5 (nI (r - 1)), X.2)) := by
  have es : nI r - nI 1 = nI (r - 1) := pk_sub h1
  have u1 : r < 2 ^ 31 := by omega
  have r0 : ¬ r = 0 := by omega
  obtain ⟨m, hm⟩ := nm_lq (fun m k => df_X16_random_32 n m (sR X.1 0 0) (nI k) (pI (pR X.1 0 (shk (sR X.1 0) k)) 5 (nI (r - 1)), X.2)) (r - 1) n (by omega) (fun k m hk => by
    have v1 : k + 1 < 16 := by omega
    have v2 : k + 1 < 2 ^ 31 := by omega
    have v3 : k < 2 ^ 31 := by omega
    have v4 : k < 16 := by omega
    have v5 : r - 1 < 2 ^ 31 := by omega
    have k32 : ¬ r - 1 ≤ k := by omega
    have cs := shk_s (sR X.1 0) k
    rw [show df_X16_random_32 n (m + 1) = dF_X16_random_32 n (df_X16_random_32 n m) from rfl]
    simp (disch := (first | assumption | decide | omega)) only [dF_X16_random_32, k32, cs, eq_self, Nat.reduceEqDiff, Nat.reduceLeDiff, nl_0, nl_1, nl_5, nl_16, no_1, no_1024, pk_mul, nI_add, nm_ck, nI_clamp, nI_ltI, nI_leI, nI_eq, nb_b2, nb_b1, ↓nb_let, nm_z0, nm_z1, nb_II, nb_IR, nb_RI, nb_RR, nm_IL, nm_IQ, nm_RL, nm_RQ, nm_LI, nm_LR, nm_LL, nm_LQ, nm_QI, nm_QR, nm_QL, nm_QQ, nm_rr, nm_ii, nm_eqm, not_false_eq_true, pk_sub, nm_div, nm_shl, nm_shr, nm_ush, nm_or8, nm_or64, nm_or256, nm_m1, nm_m3, nm_m7, nm_m15, nm_m31, nm_m63, nm_m255, nm_m511, nm_m1023, nm_m2047, nm_m65535, Nat.reduceMod, Nat.reducePow, Nat.reduceAdd, Nat.reduceSub, Nat.reduceMul, nm_bo, nm_bi, nm_rc, nm_ic, nm_ri, nm_rl, nm_rq, nm_ql, nm_qi, nm_li, nm_us, nm_uu, nm_cp, nm_sa31, nm_sa7, nm_m127, nm_m2, nm_nz, nm_nzk, nm_eq32, nm_nzf, if_true, if_false, ↓reduceIte, if_pos, if_neg])
  rw [shk_0, nm_r0] at hm
  have e0 : df_X16_random n X = df_X16_random_32 n n (sR X.1 0 0) (nI 0) (pI X.1 5 (nI (r - 1)), X.2) := by
    simp (disch := (first | assumption | decide | omega)) only [df_X16_random, df_X16_random_0, e, r0, es, eq_self, Nat.reduceEqDiff, Nat.reduceLeDiff, nl_0, nl_1, nl_5, no_1, no_1024, pk_mul, nI_add, nm_ck, nI_clamp, nI_ltI, nI_leI, nI_eq, nb_b2, nb_b1, ↓nb_let, nm_z0, nm_z1, nb_II, nb_IR, nb_RI, nb_RR, nm_IL, nm_IQ, nm_RL, nm_RQ, nm_LI, nm_LR, nm_LL, nm_LQ, nm_QI, nm_QR, nm_QL, nm_QQ, nm_rr, nm_ii, nm_eqm, not_false_eq_true, pk_sub, nm_div, nm_shl, nm_shr, nm_ush, nm_or8, nm_or64, nm_or256, nm_m1, nm_m3, nm_m7, nm_m15, nm_m31, nm_m63, nm_m255, nm_m511, nm_m1023, nm_m2047, nm_m65535, Nat.reduceMod, Nat.reducePow, Nat.reduceAdd, Nat.reduceSub, Nat.reduceMul, nm_bo, nm_bi, nm_rc, nm_ic, nm_ri, nm_rl, nm_rq, nm_ql, nm_qi, nm_li, nm_us, nm_uu, nm_cp, nm_sa31, nm_sa7, nm_m127, nm_m2, nm_nz, nm_nzk, nm_eq32, nm_nzf, if_true, if_false, ↓reduceIte, if_pos, if_neg]
  rw [e0]
  refine Eq.trans hm ?_
  have v5 : r - 1 < 2 ^ 31 := by omega
  have le : r - 1 ≤ r - 1 := Nat.le_refl _
  rw [show df_X16_random_32 n (m + 1) = dF_X16_random_32 n (df_X16_random_32 n m) from rfl]
  simp (disch := (first | assumption | decide | omega)) only [dF_X16_random_32, le, eq_self, Nat.reduceEqDiff, Nat.reduceLeDiff, nl_0, nl_1, nl_5, nl_16, no_1, no_1024, pk_mul, nI_add, nm_ck, nI_clamp, nI_ltI, nI_leI, nI_eq, nb_b2, nb_b1, ↓nb_let, nm_z0, nm_z1, nb_II, nb_IR, nb_RI, nb_RR, nm_IL, nm_IQ, nm_RL, nm_RQ, nm_LI, nm_LR, nm_LL, nm_LQ, nm_QI, nm_QR, nm_QL, nm_QQ, nm_rr, nm_ii, nm_eqm, not_false_eq_true, pk_sub, nm_div, nm_shl, nm_shr, nm_ush, nm_or8, nm_or64, nm_or256, nm_m1, nm_m3, nm_m7, nm_m15, nm_m31, nm_m63, nm_m255, nm_m511, nm_m1023, nm_m2047, nm_m65535, Nat.reduceMod, Nat.reducePow, Nat.reduceAdd, Nat.reduceSub, Nat.reduceMul, nm_bo, nm_bi, nm_rc, nm_ic, nm_ri, nm_rl, nm_rq, nm_ql, nm_qi, nm_li, nm_us, nm_uu, nm_cp, nm_sa31, nm_sa7, nm_m127, nm_m2, nm_nz, nm_nzk, nm_eq32, nm_nzf, if_true, if_false, ↓reduceIte, if_pos, if_neg]
