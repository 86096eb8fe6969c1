/-- the reference's cells that no answer shows: the instruction's bits and size, what comes next, what was met -/
def zS (X : St × St) (a b c d : Int32) : St × St := (pI (pI (pI (pI X.1 8 a) 9 b) 10 c) 11 d, X.2)
theorem zS_id (X : St × St) : zS X (sI X.1 8) (sI X.1 9) (sI X.1 10) (sI X.1 11) = X := by
  unfold zS
  rw [nm_i0, nm_i0, nm_i0, nm_i0]
theorem z8 (X : St × St) (a b c d v : Int32) : (pI (zS X a b c d).1 8 v, (zS X a b c d).2) = zS X v b c d := by
  unfold zS
  simp (disch := omega) only [df_X16_step_30, nm_ic (a := 9) (b := 8) (by decide), nm_ic (a := 10) (b := 8) (by decide), nm_ic (a := 10) (b := 9) (by decide), nm_ic (a := 11) (b := 8) (by decide), nm_ic (a := 11) (b := 9) (by decide), nm_ic (a := 11) (b := 10) (by decide), nl_1, no_1, no_1024, pk_mul, nI_add, nm_ck, nI_clamp, nI_ltI, nI_leI, nI_eq, nb_b2, nb_b1, nb_let, nm_z0, nm_z1, nb_II, nb_IR, nb_RI, nb_RR, nm_IL, nm_IQ, nm_RL, nm_RQ, nm_LI, nm_LR, nm_LL, nm_LQ, nm_QI, nm_QR, nm_QL, nm_QQ, nm_rr, nm_ii, nm_eqm, not_false_eq_true, pk_sub, nm_div, nm_shl, nm_shr, nm_ush, nm_or8, nm_or64, nm_or256, nm_m1, nm_m3, nm_m7, nm_m15, nm_m31, nm_m63, nm_m255, nm_m511, nm_m1023, nm_m2047, nm_m65535, Nat.reduceMod, Nat.reducePow, Nat.reduceAdd, Nat.reduceSub, Nat.reduceMul, nm_bo, nm_bi, nm_rc, nm_ic, nm_ri, nm_rl, nm_rq, nm_ql, nm_qi, nm_li, nm_us, nm_uu, nm_cp, nm_sa31, nm_sa7, nm_m127, nm_m2, nm_nz, nm_nzk, nm_eq32, nm_nzf, if_true, if_false, ↓reduceIte, if_pos, if_neg]
theorem z9 (X : St × St) (a b c d v : Int32) : (pI (zS X a b c d).1 9 v, (zS X a b c d).2) = zS X a v c d := by
  unfold zS
  simp (disch := omega) only [df_X16_step_30, nm_ic (a := 9) (b := 8) (by decide), nm_ic (a := 10) (b := 8) (by decide), nm_ic (a := 10) (b := 9) (by decide), nm_ic (a := 11) (b := 8) (by decide), nm_ic (a := 11) (b := 9) (by decide), nm_ic (a := 11) (b := 10) (by decide), nl_1, no_1, no_1024, pk_mul, nI_add, nm_ck, nI_clamp, nI_ltI, nI_leI, nI_eq, nb_b2, nb_b1, nb_let, nm_z0, nm_z1, nb_II, nb_IR, nb_RI, nb_RR, nm_IL, nm_IQ, nm_RL, nm_RQ, nm_LI, nm_LR, nm_LL, nm_LQ, nm_QI, nm_QR, nm_QL, nm_QQ, nm_rr, nm_ii, nm_eqm, not_false_eq_true, pk_sub, nm_div, nm_shl, nm_shr, nm_ush, nm_or8, nm_or64, nm_or256, nm_m1, nm_m3, nm_m7, nm_m15, nm_m31, nm_m63, nm_m255, nm_m511, nm_m1023, nm_m2047, nm_m65535, Nat.reduceMod, Nat.reducePow, Nat.reduceAdd, Nat.reduceSub, Nat.reduceMul, nm_bo, nm_bi, nm_rc, nm_ic, nm_ri, nm_rl, nm_rq, nm_ql, nm_qi, nm_li, nm_us, nm_uu, nm_cp, nm_sa31, nm_sa7, nm_m127, nm_m2, nm_nz, nm_nzk, nm_eq32, nm_nzf, if_true, if_false, ↓reduceIte, if_pos, if_neg]
theorem z10 (X : St × St) (a b c d v : Int32) : (pI (zS X a b c d).1 10 v, (zS X a b c d).2) = zS X a b v d := by
  unfold zS
  simp (disch := omega) only [df_X16_step_30, nm_ic (a := 9) (b := 8) (by decide), nm_ic (a := 10) (b := 8) (by decide), nm_ic (a := 10) (b := 9) (by decide), nm_ic (a := 11) (b := 8) (by decide), nm_ic (a := 11) (b := 9) (by decide), nm_ic (a := 11) (b := 10) (by decide), nl_1, no_1, no_1024, pk_mul, nI_add, nm_ck, nI_clamp, nI_ltI, nI_leI, nI_eq, nb_b2, nb_b1, nb_let, nm_z0, nm_z1, nb_II, nb_IR, nb_RI, nb_RR, nm_IL, nm_IQ, nm_RL, nm_RQ, nm_LI, nm_LR, nm_LL, nm_LQ, nm_QI, nm_QR, nm_QL, nm_QQ, nm_rr, nm_ii, nm_eqm, not_false_eq_true, pk_sub, nm_div, nm_shl, nm_shr, nm_ush, nm_or8, nm_or64, nm_or256, nm_m1, nm_m3, nm_m7, nm_m15, nm_m31, nm_m63, nm_m255, nm_m511, nm_m1023, nm_m2047, nm_m65535, Nat.reduceMod, Nat.reducePow, Nat.reduceAdd, Nat.reduceSub, Nat.reduceMul, nm_bo, nm_bi, nm_rc, nm_ic, nm_ri, nm_rl, nm_rq, nm_ql, nm_qi, nm_li, nm_us, nm_uu, nm_cp, nm_sa31, nm_sa7, nm_m127, nm_m2, nm_nz, nm_nzk, nm_eq32, nm_nzf, if_true, if_false, ↓reduceIte, if_pos, if_neg]
theorem z11 (X : St × St) (a b c d v : Int32) : (pI (zS X a b c d).1 11 v, (zS X a b c d).2) = zS X a b c v := by
  unfold zS
  simp (disch := omega) only [df_X16_step_30, nm_ic (a := 9) (b := 8) (by decide), nm_ic (a := 10) (b := 8) (by decide), nm_ic (a := 10) (b := 9) (by decide), nm_ic (a := 11) (b := 8) (by decide), nm_ic (a := 11) (b := 9) (by decide), nm_ic (a := 11) (b := 10) (by decide), nl_1, no_1, no_1024, pk_mul, nI_add, nm_ck, nI_clamp, nI_ltI, nI_leI, nI_eq, nb_b2, nb_b1, nb_let, nm_z0, nm_z1, nb_II, nb_IR, nb_RI, nb_RR, nm_IL, nm_IQ, nm_RL, nm_RQ, nm_LI, nm_LR, nm_LL, nm_LQ, nm_QI, nm_QR, nm_QL, nm_QQ, nm_rr, nm_ii, nm_eqm, not_false_eq_true, pk_sub, nm_div, nm_shl, nm_shr, nm_ush, nm_or8, nm_or64, nm_or256, nm_m1, nm_m3, nm_m7, nm_m15, nm_m31, nm_m63, nm_m255, nm_m511, nm_m1023, nm_m2047, nm_m65535, Nat.reduceMod, Nat.reducePow, Nat.reduceAdd, Nat.reduceSub, Nat.reduceMul, nm_bo, nm_bi, nm_rc, nm_ic, nm_ri, nm_rl, nm_rq, nm_ql, nm_qi, nm_li, nm_us, nm_uu, nm_cp, nm_sa31, nm_sa7, nm_m127, nm_m2, nm_nz, nm_nzk, nm_eq32, nm_nzf, if_true, if_false, ↓reduceIte, if_pos, if_neg]
theorem zI8 (X : St × St) (a b c d : Int32) : sI (zS X a b c d).1 8 = a := rfl
theorem zI9 (X : St × St) (a b c d : Int32) : sI (zS X a b c d).1 9 = b := rfl
theorem zI10 (X : St × St) (a b c d : Int32) : sI (zS X a b c d).1 10 = c := rfl
theorem zI11 (X : St × St) (a b c d : Int32) : sI (zS X a b c d).1 11 = d := rfl
theorem zI12 (X : St × St) (a b c d : Int32) : sI (zS X a b c d).1 12 = sI X.1 12 := rfl
theorem zR (X : St × St) (a b c d : Int32) (k : Nat) : sR (zS X a b c d).1 k = sR X.1 k := rfl
theorem ma_even (X : St × St) {p A q : Nat} (h : A % 2 = 0) : ma X p (A + 1) q = ma X p A q := by
  unfold ma
  by_cases c : A < 65536
  · rw [decide_eq_true c, decide_eq_true (show A + 1 < 65536 by omega), show (A + 1) / 1024 = A / 1024 from by omega]
  · rw [decide_eq_false c, decide_eq_false (show ¬ A + 1 < 65536 by omega), Bool.false_and, Bool.false_and]
theorem nk_fet (n : Nat) {M X : St × St} (h : rK M X) {p A : Nat} (hp : p < 16) (h12 : sI X.1 12 = nI p) (hA : A < 2 ^ 32) (e : A % 2 = 0) : df_X16_fetches n (nI A) X = some (bI (ma X p A 4), X) := by
  have m1 := (nk_may n h hp hA (q := 4) (by omega)).2
  have m2 := (nk_may n h hp (A := A + 1) (q := 4) (by omega) (by omega)).2
  rw [ma_even X e] at m2
  cases c : ma X p A 4 with
  | false =>
    rw [c] at m1
    simp (disch := (first | assumption | decide | omega)) only [df_X16_fetches_33, df_X16_fetches_32, df_X16_fetches_0, df_X16_fetches, h12, m1, bI_f, eq_self, Nat.reduceEqDiff, Nat.reduceLeDiff, nl_0, nl_1, nl_4, nl_12, no_1, no_1024, pk_mul, nI_add, nm_ck, nI_clamp, nI_ltI, nI_leI, nI_eq, nb_b2, nb_b1, ↓nb_let, nm_z0, nm_z1, nb_II, nb_IR, nb_RI, nb_RR, nm_IL, nm_IQ, nm_RL, nm_RQ, nm_LI, nm_LR, nm_LL, nm_LQ, nm_QI, nm_QR, nm_QL, nm_QQ, nm_rr, nm_ii, nm_eqm, not_false_eq_true, pk_sub, nm_div, nm_shl, nm_shr, nm_ush, nm_or8, nm_or64, nm_or256, nm_m1, nm_m3, nm_m7, nm_m15, nm_m31, nm_m63, nm_m255, nm_m511, nm_m1023, nm_m2047, nm_m65535, Nat.reduceMod, Nat.reducePow, Nat.reduceAdd, Nat.reduceSub, Nat.reduceMul, nm_bo, nm_bi, nm_rc, nm_ic, nm_ri, nm_rl, nm_rq, nm_ql, nm_qi, nm_li, nm_us, nm_uu, nm_cp, nm_sa31, nm_sa7, nm_m127, nm_m2, nm_nz, nm_nzk, nm_eq32, nm_nzf, if_true, if_false, ↓reduceIte, if_pos, if_neg]
  | true =>
    rw [c] at m1 m2
    simp (disch := (first | assumption | decide | omega)) only [df_X16_fetches_33, df_X16_fetches_32, df_X16_fetches_0, df_X16_fetches, h12, m1, m2, bI_t, eq_self, Nat.reduceEqDiff, Nat.reduceLeDiff, nl_0, nl_1, nl_4, nl_12, no_1, no_1024, pk_mul, nI_add, nm_ck, nI_clamp, nI_ltI, nI_leI, nI_eq, nb_b2, nb_b1, ↓nb_let, nm_z0, nm_z1, nb_II, nb_IR, nb_RI, nb_RR, nm_IL, nm_IQ, nm_RL, nm_RQ, nm_LI, nm_LR, nm_LL, nm_LQ, nm_QI, nm_QR, nm_QL, nm_QQ, nm_rr, nm_ii, nm_eqm, not_false_eq_true, pk_sub, nm_div, nm_shl, nm_shr, nm_ush, nm_or8, nm_or64, nm_or256, nm_m1, nm_m3, nm_m7, nm_m15, nm_m31, nm_m63, nm_m255, nm_m511, nm_m1023, nm_m2047, nm_m65535, Nat.reduceMod, Nat.reducePow, Nat.reduceAdd, Nat.reduceSub, Nat.reduceMul, nm_bo, nm_bi, nm_rc, nm_ic, nm_ri, nm_rl, nm_rq, nm_ql, nm_qi, nm_li, nm_us, nm_uu, nm_cp, nm_sa31, nm_sa7, nm_m127, nm_m2, nm_nz, nm_nzk, nm_eq32, nm_nzf, if_true, if_false, ↓reduceIte, if_pos, if_neg]
/-- two machines before an instruction of process p -/
def rPre (p : Nat) (M X : St × St) : Prop := p < 16 ∧ sI X.1 12 = nI p ∧ (∀ r : Nat, r < 32 → sR M.1 3 (p * 33 + r) = sR X.1 9 (32 * p + r)) ∧ sR M.1 3 (p * 33 + 32) = sR X.1 10 p ∧ rK M X ∧ sI M.1 6 = sI X.1 4 ∧ okR (sI X.1 4) ∧ sL M.1 0 = sL X.1 1 ∧ sL M.1 1 = sL X.1 0 ∧ sI X.1 16 = nI 0 ∧ sI M.1 7 = nI 0
theorem rPre_h {p : Nat} {M X : St × St} (h : rPre p M X) (H : St) (a b c : Int32) : rHt p (pI (pI (pI (pI H 0 (nI p)) 1 (nI (p * 33))) 2 (sR X.1 10 p)) 3 c, M) (zS X a b c (nI 0)) := by
  obtain ⟨hp, a3, a7, ap, a8, a9, a10, a11, a12, a13, a14⟩ := h
  exact ⟨hp, rfl, rfl, a3, rfl, rfl, rfl, a7, a8, a9, a10, a11, a12, a13, a14⟩
/-- what a step leaves -/
def oS (p : Nat) (M X : St × St) (oc : Option (Int32 × (St × (St × St)))) (or : Option (Int32 × (St × St))) : Prop := (∃ (t : Int32) (me : Nat) (H : St) (a b c : Int32), tm t me ∧ oc = some (t, (H, M)) ∧ or = some (nI me, zS X a b c (nI me)) ) ∨ (∃ (H : St) (a b c : Int32), oc = some (nI 11, (H, M)) ∧ or = some (nI 1, zS X a b c (nI 0))) ∨ ∃ (rg x w u g b fr ho : Nat → Int32) (fu us re wn wr nx a' b' : Int32) (H : St), oc = some (nI 0, (H, (pL (pR (hM M rg w u g fu re wn).1 3 (upd rg (p * 33 + 32) nx)) 1 (sL M.1 1 + 1), M.2))) ∧ or = some (nI 0, (pL (pR (hX (zS X a' b' nx (nI 0)) x b fr ho us re wr nx).1 10 (upd (sR X.1 10) p nx)) 0 (sL X.1 0 + 1), X.2)) ∧ rgR p (H, M) X rg x ∧ rQ w u g b fr (sR X.1 17) ho fu us ∧ okR re ∧ (∀ j : Nat, j < 1024 → (fr j = -nI 1 ↔ sR X.1 16 j = -nI 1)) ∧ wrR X p wn wr
theorem wvs_z (X : St × St) (a b c d wr : Int32) (p A : Nat) : ∀ k : Nat, wvs (zS X a b c d) wr p A k = wvs X wr p A k
  | 0 => rfl
  | k + 1 => by
    show wv (zS X a b c d) (wvs (zS X a b c d) wr p A k) p (A + k) = wv X (wvs X wr p A k) p (A + k)
    rw [wvs_z X a b c d wr p A k]
    rfl
theorem oE_s {p : Nat} {M X : St × St} {H : St} {a b c : Int32} {oc : Option (Int32 × (St × (St × St)))} {or : Option (Int32 × (St × St))} (z : oE p (H, M) (zS X a b c (nI 0)) oc or) : oS p M X oc or := by
  rcases z with ⟨t, me, nx, ht, e1, e2⟩ | ⟨rg, x, w, u, g, b1, fr, ho, fu, us, re, wn, wr, nx, e1, e2, o1, o2, o3, o4, o5⟩
  · refine Or.inl ⟨t, me, H, a, b, nx, ht, e1, ?_⟩
    rw [e2]
    refine congrArg (fun q => some (nI me, q)) ?_
    unfold zS
    simp (disch := omega) only [df_X16_step_30, nm_ic (a := 9) (b := 8) (by decide), nm_ic (a := 10) (b := 8) (by decide), nm_ic (a := 10) (b := 9) (by decide), nm_ic (a := 11) (b := 8) (by decide), nm_ic (a := 11) (b := 9) (by decide), nm_ic (a := 11) (b := 10) (by decide), nl_1, no_1, no_1024, pk_mul, nI_add, nm_ck, nI_clamp, nI_ltI, nI_leI, nI_eq, nb_b2, nb_b1, nb_let, nm_z0, nm_z1, nb_II, nb_IR, nb_RI, nb_RR, nm_IL, nm_IQ, nm_RL, nm_RQ, nm_LI, nm_LR, nm_LL, nm_LQ, nm_QI, nm_QR, nm_QL, nm_QQ, nm_rr, nm_ii, nm_eqm, not_false_eq_true, pk_sub, nm_div, nm_shl, nm_shr, nm_ush, nm_or8, nm_or64, nm_or256, nm_m1, nm_m3, nm_m7, nm_m15, nm_m31, nm_m63, nm_m255, nm_m511, nm_m1023, nm_m2047, nm_m65535, Nat.reduceMod, Nat.reducePow, Nat.reduceAdd, Nat.reduceSub, Nat.reduceMul, nm_bo, nm_bi, nm_rc, nm_ic, nm_ri, nm_rl, nm_rq, nm_ql, nm_qi, nm_li, nm_us, nm_uu, nm_cp, nm_sa31, nm_sa7, nm_m127, nm_m2, nm_nz, nm_nzk, nm_eq32, nm_nzf, if_true, if_false, ↓reduceIte, if_pos, if_neg]
  · refine Or.inr (Or.inr ⟨rg, x, w, u, g, b1, fr, ho, fu, us, re, wn, wr, nx, a, b, pI H 3 nx, e1, ?_, o1, o2, o3, o4, ?_⟩)
    · rw [e2]
      refine congrArg (fun q => some (nI 0, (pL (pR q 10 (upd (sR X.1 10) p nx)) 0 (sL X.1 0 + 1), X.2))) ?_
      unfold hX zS
      simp (disch := omega) only [df_X16_step_30, nm_rc (a := 15) (b := 9) (by decide), nm_rc (a := 16) (b := 9) (by decide), nm_rc (a := 16) (b := 15) (by decide), nm_rc (a := 18) (b := 9) (by decide), nm_rc (a := 18) (b := 15) (by decide), nm_rc (a := 18) (b := 16) (by decide), nm_ic (a := 6) (b := 4) (by decide), nm_ic (a := 8) (b := 4) (by decide), nm_ic (a := 8) (b := 6) (by decide), nm_ic (a := 9) (b := 4) (by decide), nm_ic (a := 9) (b := 6) (by decide), nm_ic (a := 9) (b := 8) (by decide), nm_ic (a := 10) (b := 4) (by decide), nm_ic (a := 10) (b := 6) (by decide), nm_ic (a := 10) (b := 8) (by decide), nm_ic (a := 10) (b := 9) (by decide), nm_ic (a := 11) (b := 4) (by decide), nm_ic (a := 11) (b := 6) (by decide), nm_ic (a := 11) (b := 8) (by decide), nm_ic (a := 11) (b := 9) (by decide), nm_ic (a := 11) (b := 10) (by decide), nm_ic (a := 16) (b := 4) (by decide), nm_ic (a := 16) (b := 6) (by decide), nm_ic (a := 16) (b := 8) (by decide), nm_ic (a := 16) (b := 9) (by decide), nm_ic (a := 16) (b := 10) (by decide), nm_ic (a := 16) (b := 11) (by decide), nl_1, no_1, no_1024, pk_mul, nI_add, nm_ck, nI_clamp, nI_ltI, nI_leI, nI_eq, nb_b2, nb_b1, nb_let, nm_z0, nm_z1, nb_II, nb_IR, nb_RI, nb_RR, nm_IL, nm_IQ, nm_RL, nm_RQ, nm_LI, nm_LR, nm_LL, nm_LQ, nm_QI, nm_QR, nm_QL, nm_QQ, nm_rr, nm_ii, nm_eqm, not_false_eq_true, pk_sub, nm_div, nm_shl, nm_shr, nm_ush, nm_or8, nm_or64, nm_or256, nm_m1, nm_m3, nm_m7, nm_m15, nm_m31, nm_m63, nm_m255, nm_m511, nm_m1023, nm_m2047, nm_m65535, Nat.reduceMod, Nat.reducePow, Nat.reduceAdd, Nat.reduceSub, Nat.reduceMul, nm_bo, nm_bi, nm_rc, nm_ic, nm_ri, nm_rl, nm_rq, nm_ql, nm_qi, nm_li, nm_us, nm_uu, nm_cp, nm_sa31, nm_sa7, nm_m127, nm_m2, nm_nz, nm_nzk, nm_eq32, nm_nzf, if_true, if_false, ↓reduceIte, if_pos, if_neg]
    · rcases o5 with o5 | ⟨A, k, k1, k2, k3, k4, k5⟩
      · exact Or.inl o5
      · exact Or.inr ⟨A, k, k1, k2, k3, k4, by rw [k5, wvs_z]⟩
