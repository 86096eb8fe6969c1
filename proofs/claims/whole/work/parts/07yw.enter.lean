def cpx (f g : Nat → Int32) (a k : Nat) : Nat → Int32 := fun j => if a ≤ j ∧ j < a + k then g j else f j
theorem cpx_0 (f g : Nat → Int32) (a : Nat) : cpx f g a 0 = f := by
  funext j
  exact if_neg (by omega)
theorem cpx_s (f g : Nat → Int32) (a k : Nat) : upd (cpx f g a k) (a + k) (g (a + k)) = cpx f g a (k + 1) := by
  funext j
  show (if j = a + k then g (a + k) else if a ≤ j ∧ j < a + k then g j else f j) = if a ≤ j ∧ j < a + (k + 1) then g j else f j
  by_cases c : j = a + k
  · rw [if_pos c, if_pos (by omega), c]
  · rw [if_neg c]
    by_cases d : a ≤ j ∧ j < a + k
    · rw [if_pos d, if_pos (by omega)]
    · rw [if_neg d, if_neg (by omega)]
/-- a handler is entered: the reference -/
theorem nk_enter (n : Nat) (hn : 1024 < n) {X : St × St} {p s : Nat} (hp : p < 16) (hs : s < 16) (e12 : sI X.1 12 = nI p) : df_X16_enter n (nI s) X = some (pR (pR (pR (pR (pR X.1 8 (upd (sR X.1 8) p (nI 1))) 9 (upd (sR X.1 9) (32 * p + 10) (nI s))) 10 (upd (sR X.1 10) p (sR X.1 13 (16 * p + s)))) 11 (cpx (sR X.1 11) (sR X.1 9) (32 * p) 32)) 12 (upd (sR X.1 12) p (sR X.1 10 p)), X.2) := by
  obtain ⟨m, hm⟩ := nm_lq (fun m k => df_X16_enter_2 n m (nI s) (nI k) (pR X.1 11 (cpx (sR X.1 11) (sR X.1 9) (32 * p) k), X.2)) 32 n (by omega) (fun k m hk => by
    have u1 : 32 * p + k < 512 := by omega
    have u2 : 32 * p + k < 2 ^ 31 := by omega
    have u3 : k < 2 ^ 31 := by omega
    have k32 : ¬ 32 ≤ k := by omega
    have cs := cpx_s (sR X.1 11) (sR X.1 9) (32 * p) k
    rw [show df_X16_enter_2 n (m + 1) = dF_X16_enter_2 n (df_X16_enter_2 n m) from rfl]
    simp (disch := (first | assumption | decide | omega)) only [dF_X16_enter_2, k32, e12, cs, eq_self, Nat.reduceEqDiff, Nat.reduceLeDiff, nl_1, nl_8, nl_9, nl_10, nl_11, nl_12, nl_13, nl_16, nl_32, nl_256, nl_512, no_1, no_1024, pk_mul, nI_add, nm_ck, nI_clamp, nI_ltI, nI_leI, nI_eq, nb_b2, nb_b1, ↓nb_let, nm_z0, nm_z1, nb_II, nb_IR, nb_RI, nb_RR, nm_IL, nm_IQ, nm_RL, nm_RQ, nm_LI, nm_LR, nm_LL, nm_LQ, nm_QI, nm_QR, nm_QL, nm_QQ, nm_rr, nm_ii, nm_eqm, not_false_eq_true, pk_sub, nm_div, nm_shl, nm_shr, nm_ush, nm_or8, nm_or64, nm_or256, nm_m1, nm_m3, nm_m7, nm_m15, nm_m31, nm_m63, nm_m255, nm_m511, nm_m1023, nm_m2047, nm_m65535, Nat.reduceMod, Nat.reducePow, Nat.reduceAdd, Nat.reduceSub, Nat.reduceMul, nm_bo, nm_bi, nm_rc, nm_ic, nm_ri, nm_rl, nm_rq, nm_ql, nm_qi, nm_li, nm_us, nm_uu, nm_cp, nm_sa31, nm_sa7, nm_m127, nm_m2, nm_nz, nm_nzk, nm_eq32, nm_nzf, if_true, if_false, ↓reduceIte, if_pos, if_neg])
  rw [cpx_0, nm_r0] at hm
  refine Eq.trans hm ?_
  have u1 : 32 * p + 10 < 512 := by omega
  have u2 : 32 * p + 10 < 2 ^ 31 := by omega
  have u3 : p < 2 ^ 31 := by omega
  have u4 : 16 * p + s < 256 := by omega
  have u5 : 16 * p + s < 2 ^ 31 := by omega
  rw [show df_X16_enter_2 n (m + 1) = dF_X16_enter_2 n (df_X16_enter_2 n m) from rfl]
  simp (disch := (first | assumption | decide | omega)) only [dF_X16_enter_2, e12, eq_self, Nat.reduceEqDiff, Nat.reduceLeDiff, nm_rc (a := 9) (b := 8) (by decide), nm_rc (a := 10) (b := 8) (by decide), nm_rc (a := 10) (b := 9) (by decide), nm_rc (a := 11) (b := 8) (by decide), nm_rc (a := 11) (b := 9) (by decide), nm_rc (a := 11) (b := 10) (by decide), nm_rc (a := 12) (b := 8) (by decide), nm_rc (a := 12) (b := 9) (by decide), nm_rc (a := 12) (b := 10) (by decide), nm_rc (a := 12) (b := 11) (by decide), nl_1, nl_8, nl_9, nl_10, nl_11, nl_12, nl_13, nl_16, nl_32, nl_256, nl_512, no_1, no_1024, pk_mul, nI_add, nm_ck, nI_clamp, nI_ltI, nI_leI, nI_eq, nb_b2, nb_b1, ↓nb_let, nm_z0, nm_z1, nb_II, nb_IR, nb_RI, nb_RR, nm_IL, nm_IQ, nm_RL, nm_RQ, nm_LI, nm_LR, nm_LL, nm_LQ, nm_QI, nm_QR, nm_QL, nm_QQ, nm_rr, nm_ii, nm_eqm, not_false_eq_true, pk_sub, nm_div, nm_shl, nm_shr, nm_ush, nm_or8, nm_or64, nm_or256, nm_m1, nm_m3, nm_m7, nm_m15, nm_m31, nm_m63, nm_m255, nm_m511, nm_m1023, nm_m2047, nm_m65535, Nat.reduceMod, Nat.reducePow, Nat.reduceAdd, Nat.reduceSub, Nat.reduceMul, nm_bo, nm_bi, nm_rc, nm_ic, nm_ri, nm_rl, nm_rq, nm_ql, nm_qi, nm_li, nm_us, nm_uu, nm_cp, nm_sa31, nm_sa7, nm_m127, nm_m2, nm_nz, nm_nzk, nm_eq32, nm_nzf, if_true, if_false, ↓reduceIte, if_pos, if_neg]
/-- a handler is entered: the class -/
theorem nk_take (n : Nat) {K : St × (St × (St × St))} {p s : Nat} (hp : p < 16) (hs : s < 16) (hh : ¬ sR K.2.2.1 5 (p * 16 + s) = nI 0) : df_X5_take n (nI p) (nI s) (nI 0) K = some (K.1, (K.2.1, (pR (pR (pR K.2.2.1 3 (upd (upd (sR K.2.2.1 3) (p * 33 + 10) (nI s)) (p * 33 + 32) (sR K.2.2.1 5 (p * 16 + s)))) 4 (va_cpy (sR K.2.2.1 3) (sR K.2.2.1 4) (p * 33) (p * 33) 33)) 6 (upd (sR K.2.2.1 6) (p * 7 + 4) (nI 1)), K.2.2.2))) := by
  have u1 : p * 16 + s < 256 := by omega
  have u2 : p * 16 + s < 2 ^ 31 := by omega
  have u3 : p * 33 + 33 ≤ 528 := by omega
  have u4 : p * 33 < 2 ^ 31 := by omega
  have u5 : p * 7 + 4 < 112 := by omega
  have u6 : p * 7 + 4 < 2 ^ 31 := by omega
  have u7 : p * 33 + 10 < 528 := by omega
  have u8 : p * 33 + 10 < 2 ^ 31 := by omega
  have u9 : p * 33 + 32 < 528 := by omega
  have u10 : p * 33 + 32 < 2 ^ 31 := by omega
  simp (disch := (first | assumption | decide | omega)) only [df_X5_take, df_X5_take_0, hh, eq_self, Nat.reduceEqDiff, Nat.reduceLeDiff, nm_rc (a := 4) (b := 3) (by decide), nm_rc (a := 6) (b := 3) (by decide), nm_rc (a := 6) (b := 4) (by decide), nl_0, nl_1, nl_3, nl_4, nl_5, nl_6, nl_7, nl_10, nl_16, nl_32, nl_33, nl_112, nl_256, nl_528, no_1, no_1024, pk_mul, nI_add, nm_ck, nI_clamp, nI_ltI, nI_leI, nI_eq, nb_b2, nb_b1, ↓nb_let, nm_z0, nm_z1, nb_II, nb_IR, nb_RI, nb_RR, nm_IL, nm_IQ, nm_RL, nm_RQ, nm_LI, nm_LR, nm_LL, nm_LQ, nm_QI, nm_QR, nm_QL, nm_QQ, nm_rr, nm_ii, nm_eqm, not_false_eq_true, pk_sub, nm_div, nm_shl, nm_shr, nm_ush, nm_or8, nm_or64, nm_or256, nm_m1, nm_m3, nm_m7, nm_m15, nm_m31, nm_m63, nm_m255, nm_m511, nm_m1023, nm_m2047, nm_m65535, Nat.reduceMod, Nat.reducePow, Nat.reduceAdd, Nat.reduceSub, Nat.reduceMul, nm_bo, nm_bi, nm_rc, nm_ic, nm_ri, nm_rl, nm_rq, nm_ql, nm_qi, nm_li, nm_us, nm_uu, nm_cp, nm_sa31, nm_sa7, nm_m127, nm_m2, nm_nz, nm_nzk, nm_eq32, nm_nzf, if_true, if_false, ↓reduceIte, if_pos, if_neg]
