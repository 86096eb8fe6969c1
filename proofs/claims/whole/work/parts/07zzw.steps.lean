/-- a handler is entered, in both -/
theorem rM_enter {B : Nat} {M X : St × St} (h : rM B M X) {p s : Nat} (hp : p < 16) (hs : s < 16) (h1 : sR X.1 1 p = nI 1) : rM B (pR (pR (pR M.1 3 (upd (upd (sR M.1 3) (p * 33 + 10) (nI s)) (p * 33 + 32) (sR M.1 5 (p * 16 + s)))) 4 (va_cpy (sR M.1 3) (sR M.1 4) (p * 33) (p * 33) 33)) 6 (upd (sR M.1 6) (p * 7 + 4) (nI 1)), M.2) (pR (pR (pR (pR (pR X.1 8 (upd (sR X.1 8) p (nI 1))) 9 (upd (sR X.1 9) (32 * p + 10) (nI s))) 10 (upd (sR X.1 10) p (sR X.1 13 (16 * p + s)))) 11 (cpx (sR X.1 11) (sR X.1 9) (32 * p) 32)) 12 (upd (sR X.1 12) p (sR X.1 10 p)), X.2) := by
  obtain ⟨m1, m2, m3, m4, m5, m6, m7⟩ := h
  refine ⟨m1, m2, rP_all m3 (p := p) ?_ (fun q hq => ⟨⟨fun i hi => nm_un (by omega), fun i hi => ?_, fun i hi => va_o (by omega), fun _ _ => rfl, rfl⟩, ⟨⟨rfl, rfl, rfl, rfl, rfl, rfl, rfl, nm_un hq⟩, fun i hi => nm_un (by omega), nm_un hq, fun i hi => cpx_o (by omega), nm_un hq, fun _ _ => rfl, fun _ _ => rfl, fun _ _ => Iff.rfl, rfl⟩⟩), m4, m5, m6, m7⟩
  · obtain ⟨t, c', w, b', e, ht, hc', hw, hb, he, a1, a2, a3, a4, a5, a6, a7, a8, a9, a10, a11, a12, a13, a14, a15, a16, a17, a18, a19, a20, a21⟩ := m3 p hp
    have t1 : t = 1 := nm_inI (by omega) (by omega) (a2.symm.trans h1)
    obtain ⟨g1, g2⟩ := a17 (by omega)
    obtain ⟨k1, k2, _⟩ := a18 (Or.inl t1)
    refine ⟨t, c', 1, b', e, ht, hc', by omega, hb, he, (nm_un (by omega)).trans a1, a2, (nm_un (by omega)).trans a3, a4, a5, fun z => by omega, fun z => (nm_un (by omega)).trans (a7 z), (nm_un (by omega)).trans a8, a9, nm_us, nm_us, (nm_un (by omega)).trans a12, a13, (nm_un (by omega)).trans a14, a15, a16, fun _ => ⟨fun r hr => ?_, ?_⟩, fun _ => ⟨k1, k2, fun _ => ⟨fun r hr => ?_, ?_⟩⟩, fun z => by omega, fun z => by omega, a21⟩
    · show upd (upd (sR M.1 3) (p * 33 + 10) _) (p * 33 + 32) _ (p * 33 + r) = upd (sR X.1 9) (32 * p + 10) _ (32 * p + r)
      rw [nm_un (by omega)]
      by_cases c : r = 10
      · rw [c, nm_us, nm_us]
      · rw [nm_un (by omega), nm_un (by omega)]
        exact g1 r hr
    · show upd (upd (sR M.1 3) (p * 33 + 10) _) (p * 33 + 32) _ (p * 33 + 32) = upd (sR X.1 10) p _ p
      rw [nm_us, nm_us]
      exact k1 s hs
    · show va_cpy _ _ _ _ _ (p * 33 + r) = cpx _ _ _ _ (32 * p + r)
      rw [va_i (by omega), cpx_i (by omega), show p * 33 + (p * 33 + r - p * 33) = p * 33 + r by omega]
      exact g1 r hr
    · show va_cpy _ _ _ _ _ (p * 33 + 32) = upd _ _ _ p
      rw [va_i (by omega), nm_us, show p * 33 + (p * 33 + 32 - p * 33) = p * 33 + 32 by omega]
      exact g2
  · show upd (upd (sR M.1 3) (p * 33 + 10) _) (p * 33 + 32) _ (q * 33 + i) = _
    rw [nm_un (by omega), nm_un (by omega)]
/-- a step of the hart leaves the two machines tied -/
theorem hX_rows (X : St × St) (x b fr ho pl : Nat → Int32) (us re wr nx a' b' : Int32) (z : Int64) : (∀ k : Nat, ¬ k = 9 → ¬ k = 10 → ¬ k = 15 → ¬ k = 16 → ¬ k = 18 → sR (pL (pR (hX (zS X a' b' nx (nI 0)) x b fr ho us re wr nx).1 10 pl) 0 z) k = sR X.1 k) ∧ sR (pL (pR (hX (zS X a' b' nx (nI 0)) x b fr ho us re wr nx).1 10 pl) 0 z) 9 = x ∧ sR (pL (pR (hX (zS X a' b' nx (nI 0)) x b fr ho us re wr nx).1 10 pl) 0 z) 10 = pl ∧ sR (pL (pR (hX (zS X a' b' nx (nI 0)) x b fr ho us re wr nx).1 10 pl) 0 z) 15 = b ∧ sR (pL (pR (hX (zS X a' b' nx (nI 0)) x b fr ho us re wr nx).1 10 pl) 0 z) 16 = fr ∧ sR (pL (pR (hX (zS X a' b' nx (nI 0)) x b fr ho us re wr nx).1 10 pl) 0 z) 18 = ho ∧ (∀ k : Nat, ¬ k = 4 → ¬ k = 6 → ¬ k = 8 → ¬ k = 9 → ¬ k = 10 → ¬ k = 11 → ¬ k = 16 → sI (pL (pR (hX (zS X a' b' nx (nI 0)) x b fr ho us re wr nx).1 10 pl) 0 z) k = sI X.1 k) ∧ sI (pL (pR (hX (zS X a' b' nx (nI 0)) x b fr ho us re wr nx).1 10 pl) 0 z) 4 = re ∧ sI (pL (pR (hX (zS X a' b' nx (nI 0)) x b fr ho us re wr nx).1 10 pl) 0 z) 6 = us ∧ sI (pL (pR (hX (zS X a' b' nx (nI 0)) x b fr ho us re wr nx).1 10 pl) 0 z) 16 = wr ∧ (∀ k : Nat, ¬ k = 0 → sL (pL (pR (hX (zS X a' b' nx (nI 0)) x b fr ho us re wr nx).1 10 pl) 0 z) k = sL X.1 k) ∧ sL (pL (pR (hX (zS X a' b' nx (nI 0)) x b fr ho us re wr nx).1 10 pl) 0 z) 0 = z ∧ ∀ k : Nat, sQ (pL (pR (hX (zS X a' b' nx (nI 0)) x b fr ho us re wr nx).1 10 pl) 0 z) k = sQ X.1 k := by
  refine ⟨fun k k1 k2 k3 k4 k5 => ?_, ?_, ?_, ?_, ?_, ?_, fun k k1 k2 k3 k4 k5 k6 k7 => ?_, ?_, ?_, ?_, fun k k1 => ?_, ?_, fun k => ?_⟩
  · simp (disch := (first | assumption | decide | omega)) only [hX, zS, k1, k2, k3, k4, k5, eq_self, Nat.reduceEqDiff, Nat.reduceLeDiff, no_1, no_1024, pk_mul, nI_add, nm_ck, nI_clamp, nI_ltI, nI_leI, nI_eq, nb_b2, nb_b1, ↓nb_let, nm_z0, nm_z1, nb_II, nb_IR, nb_RI, nb_RR, nm_IL, nm_IQ, nm_RL, nm_RQ, nm_LI, nm_LR, nm_LL, nm_LQ, nm_QI, nm_QR, nm_QL, nm_QQ, nm_rr, nm_ii, nm_eqm, not_false_eq_true, pk_sub, nm_div, nm_shl, nm_shr, nm_ush, nm_or8, nm_or64, nm_or256, nm_m1, nm_m3, nm_m7, nm_m15, nm_m31, nm_m63, nm_m255, nm_m511, nm_m1023, nm_m2047, nm_m65535, Nat.reduceMod, Nat.reducePow, Nat.reduceAdd, Nat.reduceSub, Nat.reduceMul, nm_bo, nm_bi, nm_rc, nm_ic, nm_ri, nm_rl, nm_rq, nm_ql, nm_qi, nm_li, nm_us, nm_uu, nm_cp, nm_sa31, nm_sa7, nm_m127, nm_m2, nm_nz, nm_nzk, nm_eq32, nm_nzf, if_true, if_false, ↓reduceIte, if_pos, if_neg]
  · simp (disch := (first | assumption | decide | omega)) only [hX, zS, eq_self, Nat.reduceEqDiff, Nat.reduceLeDiff, no_1, no_1024, pk_mul, nI_add, nm_ck, nI_clamp, nI_ltI, nI_leI, nI_eq, nb_b2, nb_b1, ↓nb_let, nm_z0, nm_z1, nb_II, nb_IR, nb_RI, nb_RR, nm_IL, nm_IQ, nm_RL, nm_RQ, nm_LI, nm_LR, nm_LL, nm_LQ, nm_QI, nm_QR, nm_QL, nm_QQ, nm_rr, nm_ii, nm_eqm, not_false_eq_true, pk_sub, nm_div, nm_shl, nm_shr, nm_ush, nm_or8, nm_or64, nm_or256, nm_m1, nm_m3, nm_m7, nm_m15, nm_m31, nm_m63, nm_m255, nm_m511, nm_m1023, nm_m2047, nm_m65535, Nat.reduceMod, Nat.reducePow, Nat.reduceAdd, Nat.reduceSub, Nat.reduceMul, nm_bo, nm_bi, nm_rc, nm_ic, nm_ri, nm_rl, nm_rq, nm_ql, nm_qi, nm_li, nm_us, nm_uu, nm_cp, nm_sa31, nm_sa7, nm_m127, nm_m2, nm_nz, nm_nzk, nm_eq32, nm_nzf, if_true, if_false, ↓reduceIte, if_pos, if_neg]
  · simp (disch := (first | assumption | decide | omega)) only [hX, zS, eq_self, Nat.reduceEqDiff, Nat.reduceLeDiff, no_1, no_1024, pk_mul, nI_add, nm_ck, nI_clamp, nI_ltI, nI_leI, nI_eq, nb_b2, nb_b1, ↓nb_let, nm_z0, nm_z1, nb_II, nb_IR, nb_RI, nb_RR, nm_IL, nm_IQ, nm_RL, nm_RQ, nm_LI, nm_LR, nm_LL, nm_LQ, nm_QI, nm_QR, nm_QL, nm_QQ, nm_rr, nm_ii, nm_eqm, not_false_eq_true, pk_sub, nm_div, nm_shl, nm_shr, nm_ush, nm_or8, nm_or64, nm_or256, nm_m1, nm_m3, nm_m7, nm_m15, nm_m31, nm_m63, nm_m255, nm_m511, nm_m1023, nm_m2047, nm_m65535, Nat.reduceMod, Nat.reducePow, Nat.reduceAdd, Nat.reduceSub, Nat.reduceMul, nm_bo, nm_bi, nm_rc, nm_ic, nm_ri, nm_rl, nm_rq, nm_ql, nm_qi, nm_li, nm_us, nm_uu, nm_cp, nm_sa31, nm_sa7, nm_m127, nm_m2, nm_nz, nm_nzk, nm_eq32, nm_nzf, if_true, if_false, ↓reduceIte, if_pos, if_neg]
  · simp (disch := (first | assumption | decide | omega)) only [hX, zS, eq_self, Nat.reduceEqDiff, Nat.reduceLeDiff, no_1, no_1024, pk_mul, nI_add, nm_ck, nI_clamp, nI_ltI, nI_leI, nI_eq, nb_b2, nb_b1, ↓nb_let, nm_z0, nm_z1, nb_II, nb_IR, nb_RI, nb_RR, nm_IL, nm_IQ, nm_RL, nm_RQ, nm_LI, nm_LR, nm_LL, nm_LQ, nm_QI, nm_QR, nm_QL, nm_QQ, nm_rr, nm_ii, nm_eqm, not_false_eq_true, pk_sub, nm_div, nm_shl, nm_shr, nm_ush, nm_or8, nm_or64, nm_or256, nm_m1, nm_m3, nm_m7, nm_m15, nm_m31, nm_m63, nm_m255, nm_m511, nm_m1023, nm_m2047, nm_m65535, Nat.reduceMod, Nat.reducePow, Nat.reduceAdd, Nat.reduceSub, Nat.reduceMul, nm_bo, nm_bi, nm_rc, nm_ic, nm_ri, nm_rl, nm_rq, nm_ql, nm_qi, nm_li, nm_us, nm_uu, nm_cp, nm_sa31, nm_sa7, nm_m127, nm_m2, nm_nz, nm_nzk, nm_eq32, nm_nzf, if_true, if_false, ↓reduceIte, if_pos, if_neg]
  · simp (disch := (first | assumption | decide | omega)) only [hX, zS, eq_self, Nat.reduceEqDiff, Nat.reduceLeDiff, no_1, no_1024, pk_mul, nI_add, nm_ck, nI_clamp, nI_ltI, nI_leI, nI_eq, nb_b2, nb_b1, ↓nb_let, nm_z0, nm_z1, nb_II, nb_IR, nb_RI, nb_RR, nm_IL, nm_IQ, nm_RL, nm_RQ, nm_LI, nm_LR, nm_LL, nm_LQ, nm_QI, nm_QR, nm_QL, nm_QQ, nm_rr, nm_ii, nm_eqm, not_false_eq_true, pk_sub, nm_div, nm_shl, nm_shr, nm_ush, nm_or8, nm_or64, nm_or256, nm_m1, nm_m3, nm_m7, nm_m15, nm_m31, nm_m63, nm_m255, nm_m511, nm_m1023, nm_m2047, nm_m65535, Nat.reduceMod, Nat.reducePow, Nat.reduceAdd, Nat.reduceSub, Nat.reduceMul, nm_bo, nm_bi, nm_rc, nm_ic, nm_ri, nm_rl, nm_rq, nm_ql, nm_qi, nm_li, nm_us, nm_uu, nm_cp, nm_sa31, nm_sa7, nm_m127, nm_m2, nm_nz, nm_nzk, nm_eq32, nm_nzf, if_true, if_false, ↓reduceIte, if_pos, if_neg]
  · simp (disch := (first | assumption | decide | omega)) only [hX, zS, eq_self, Nat.reduceEqDiff, Nat.reduceLeDiff, no_1, no_1024, pk_mul, nI_add, nm_ck, nI_clamp, nI_ltI, nI_leI, nI_eq, nb_b2, nb_b1, ↓nb_let, nm_z0, nm_z1, nb_II, nb_IR, nb_RI, nb_RR, nm_IL, nm_IQ, nm_RL, nm_RQ, nm_LI, nm_LR, nm_LL, nm_LQ, nm_QI, nm_QR, nm_QL, nm_QQ, nm_rr, nm_ii, nm_eqm, not_false_eq_true, pk_sub, nm_div, nm_shl, nm_shr, nm_ush, nm_or8, nm_or64, nm_or256, nm_m1, nm_m3, nm_m7, nm_m15, nm_m31, nm_m63, nm_m255, nm_m511, nm_m1023, nm_m2047, nm_m65535, Nat.reduceMod, Nat.reducePow, Nat.reduceAdd, Nat.reduceSub, Nat.reduceMul, nm_bo, nm_bi, nm_rc, nm_ic, nm_ri, nm_rl, nm_rq, nm_ql, nm_qi, nm_li, nm_us, nm_uu, nm_cp, nm_sa31, nm_sa7, nm_m127, nm_m2, nm_nz, nm_nzk, nm_eq32, nm_nzf, if_true, if_false, ↓reduceIte, if_pos, if_neg]
  · simp (disch := (first | assumption | decide | omega)) only [hX, zS, k1, k2, k3, k4, k5, k6, k7, eq_self, Nat.reduceEqDiff, Nat.reduceLeDiff, no_1, no_1024, pk_mul, nI_add, nm_ck, nI_clamp, nI_ltI, nI_leI, nI_eq, nb_b2, nb_b1, ↓nb_let, nm_z0, nm_z1, nb_II, nb_IR, nb_RI, nb_RR, nm_IL, nm_IQ, nm_RL, nm_RQ, nm_LI, nm_LR, nm_LL, nm_LQ, nm_QI, nm_QR, nm_QL, nm_QQ, nm_rr, nm_ii, nm_eqm, not_false_eq_true, pk_sub, nm_div, nm_shl, nm_shr, nm_ush, nm_or8, nm_or64, nm_or256, nm_m1, nm_m3, nm_m7, nm_m15, nm_m31, nm_m63, nm_m255, nm_m511, nm_m1023, nm_m2047, nm_m65535, Nat.reduceMod, Nat.reducePow, Nat.reduceAdd, Nat.reduceSub, Nat.reduceMul, nm_bo, nm_bi, nm_rc, nm_ic, nm_ri, nm_rl, nm_rq, nm_ql, nm_qi, nm_li, nm_us, nm_uu, nm_cp, nm_sa31, nm_sa7, nm_m127, nm_m2, nm_nz, nm_nzk, nm_eq32, nm_nzf, if_true, if_false, ↓reduceIte, if_pos, if_neg]
  · simp (disch := (first | assumption | decide | omega)) only [hX, zS, eq_self, Nat.reduceEqDiff, Nat.reduceLeDiff, no_1, no_1024, pk_mul, nI_add, nm_ck, nI_clamp, nI_ltI, nI_leI, nI_eq, nb_b2, nb_b1, ↓nb_let, nm_z0, nm_z1, nb_II, nb_IR, nb_RI, nb_RR, nm_IL, nm_IQ, nm_RL, nm_RQ, nm_LI, nm_LR, nm_LL, nm_LQ, nm_QI, nm_QR, nm_QL, nm_QQ, nm_rr, nm_ii, nm_eqm, not_false_eq_true, pk_sub, nm_div, nm_shl, nm_shr, nm_ush, nm_or8, nm_or64, nm_or256, nm_m1, nm_m3, nm_m7, nm_m15, nm_m31, nm_m63, nm_m255, nm_m511, nm_m1023, nm_m2047, nm_m65535, Nat.reduceMod, Nat.reducePow, Nat.reduceAdd, Nat.reduceSub, Nat.reduceMul, nm_bo, nm_bi, nm_rc, nm_ic, nm_ri, nm_rl, nm_rq, nm_ql, nm_qi, nm_li, nm_us, nm_uu, nm_cp, nm_sa31, nm_sa7, nm_m127, nm_m2, nm_nz, nm_nzk, nm_eq32, nm_nzf, if_true, if_false, ↓reduceIte, if_pos, if_neg]
  · simp (disch := (first | assumption | decide | omega)) only [hX, zS, eq_self, Nat.reduceEqDiff, Nat.reduceLeDiff, no_1, no_1024, pk_mul, nI_add, nm_ck, nI_clamp, nI_ltI, nI_leI, nI_eq, nb_b2, nb_b1, ↓nb_let, nm_z0, nm_z1, nb_II, nb_IR, nb_RI, nb_RR, nm_IL, nm_IQ, nm_RL, nm_RQ, nm_LI, nm_LR, nm_LL, nm_LQ, nm_QI, nm_QR, nm_QL, nm_QQ, nm_rr, nm_ii, nm_eqm, not_false_eq_true, pk_sub, nm_div, nm_shl, nm_shr, nm_ush, nm_or8, nm_or64, nm_or256, nm_m1, nm_m3, nm_m7, nm_m15, nm_m31, nm_m63, nm_m255, nm_m511, nm_m1023, nm_m2047, nm_m65535, Nat.reduceMod, Nat.reducePow, Nat.reduceAdd, Nat.reduceSub, Nat.reduceMul, nm_bo, nm_bi, nm_rc, nm_ic, nm_ri, nm_rl, nm_rq, nm_ql, nm_qi, nm_li, nm_us, nm_uu, nm_cp, nm_sa31, nm_sa7, nm_m127, nm_m2, nm_nz, nm_nzk, nm_eq32, nm_nzf, if_true, if_false, ↓reduceIte, if_pos, if_neg]
  · simp (disch := (first | assumption | decide | omega)) only [hX, zS, eq_self, Nat.reduceEqDiff, Nat.reduceLeDiff, no_1, no_1024, pk_mul, nI_add, nm_ck, nI_clamp, nI_ltI, nI_leI, nI_eq, nb_b2, nb_b1, ↓nb_let, nm_z0, nm_z1, nb_II, nb_IR, nb_RI, nb_RR, nm_IL, nm_IQ, nm_RL, nm_RQ, nm_LI, nm_LR, nm_LL, nm_LQ, nm_QI, nm_QR, nm_QL, nm_QQ, nm_rr, nm_ii, nm_eqm, not_false_eq_true, pk_sub, nm_div, nm_shl, nm_shr, nm_ush, nm_or8, nm_or64, nm_or256, nm_m1, nm_m3, nm_m7, nm_m15, nm_m31, nm_m63, nm_m255, nm_m511, nm_m1023, nm_m2047, nm_m65535, Nat.reduceMod, Nat.reducePow, Nat.reduceAdd, Nat.reduceSub, Nat.reduceMul, nm_bo, nm_bi, nm_rc, nm_ic, nm_ri, nm_rl, nm_rq, nm_ql, nm_qi, nm_li, nm_us, nm_uu, nm_cp, nm_sa31, nm_sa7, nm_m127, nm_m2, nm_nz, nm_nzk, nm_eq32, nm_nzf, if_true, if_false, ↓reduceIte, if_pos, if_neg]
  · simp (disch := (first | assumption | decide | omega)) only [hX, zS, k1, eq_self, Nat.reduceEqDiff, Nat.reduceLeDiff, no_1, no_1024, pk_mul, nI_add, nm_ck, nI_clamp, nI_ltI, nI_leI, nI_eq, nb_b2, nb_b1, ↓nb_let, nm_z0, nm_z1, nb_II, nb_IR, nb_RI, nb_RR, nm_IL, nm_IQ, nm_RL, nm_RQ, nm_LI, nm_LR, nm_LL, nm_LQ, nm_QI, nm_QR, nm_QL, nm_QQ, nm_rr, nm_ii, nm_eqm, not_false_eq_true, pk_sub, nm_div, nm_shl, nm_shr, nm_ush, nm_or8, nm_or64, nm_or256, nm_m1, nm_m3, nm_m7, nm_m15, nm_m31, nm_m63, nm_m255, nm_m511, nm_m1023, nm_m2047, nm_m65535, Nat.reduceMod, Nat.reducePow, Nat.reduceAdd, Nat.reduceSub, Nat.reduceMul, nm_bo, nm_bi, nm_rc, nm_ic, nm_ri, nm_rl, nm_rq, nm_ql, nm_qi, nm_li, nm_us, nm_uu, nm_cp, nm_sa31, nm_sa7, nm_m127, nm_m2, nm_nz, nm_nzk, nm_eq32, nm_nzf, if_true, if_false, ↓reduceIte, if_pos, if_neg]
  · simp (disch := (first | assumption | decide | omega)) only [hX, zS, eq_self, Nat.reduceEqDiff, Nat.reduceLeDiff, no_1, no_1024, pk_mul, nI_add, nm_ck, nI_clamp, nI_ltI, nI_leI, nI_eq, nb_b2, nb_b1, ↓nb_let, nm_z0, nm_z1, nb_II, nb_IR, nb_RI, nb_RR, nm_IL, nm_IQ, nm_RL, nm_RQ, nm_LI, nm_LR, nm_LL, nm_LQ, nm_QI, nm_QR, nm_QL, nm_QQ, nm_rr, nm_ii, nm_eqm, not_false_eq_true, pk_sub, nm_div, nm_shl, nm_shr, nm_ush, nm_or8, nm_or64, nm_or256, nm_m1, nm_m3, nm_m7, nm_m15, nm_m31, nm_m63, nm_m255, nm_m511, nm_m1023, nm_m2047, nm_m65535, Nat.reduceMod, Nat.reducePow, Nat.reduceAdd, Nat.reduceSub, Nat.reduceMul, nm_bo, nm_bi, nm_rc, nm_ic, nm_ri, nm_rl, nm_rq, nm_ql, nm_qi, nm_li, nm_us, nm_uu, nm_cp, nm_sa31, nm_sa7, nm_m127, nm_m2, nm_nz, nm_nzk, nm_eq32, nm_nzf, if_true, if_false, ↓reduceIte, if_pos, if_neg]
  · simp (disch := (first | assumption | decide | omega)) only [hX, zS, eq_self, Nat.reduceEqDiff, Nat.reduceLeDiff, no_1, no_1024, pk_mul, nI_add, nm_ck, nI_clamp, nI_ltI, nI_leI, nI_eq, nb_b2, nb_b1, ↓nb_let, nm_z0, nm_z1, nb_II, nb_IR, nb_RI, nb_RR, nm_IL, nm_IQ, nm_RL, nm_RQ, nm_LI, nm_LR, nm_LL, nm_LQ, nm_QI, nm_QR, nm_QL, nm_QQ, nm_rr, nm_ii, nm_eqm, not_false_eq_true, pk_sub, nm_div, nm_shl, nm_shr, nm_ush, nm_or8, nm_or64, nm_or256, nm_m1, nm_m3, nm_m7, nm_m15, nm_m31, nm_m63, nm_m255, nm_m511, nm_m1023, nm_m2047, nm_m65535, Nat.reduceMod, Nat.reducePow, Nat.reduceAdd, Nat.reduceSub, Nat.reduceMul, nm_bo, nm_bi, nm_rc, nm_ic, nm_ri, nm_rl, nm_rq, nm_ql, nm_qi, nm_li, nm_us, nm_uu, nm_cp, nm_sa31, nm_sa7, nm_m127, nm_m2, nm_nz, nm_nzk, nm_eq32, nm_nzf, if_true, if_false, ↓reduceIte, if_pos, if_neg]
theorem hM_rows (M : St × St) (rg w u g R : Nat → Int32) (fu re wn : Int32) (z : Int64) : (∀ k : Nat, 4 ≤ k → sR (pL (pR (hM M rg w u g fu re wn).1 3 R) 1 z) k = sR M.1 k) ∧ sR (pL (pR (hM M rg w u g fu re wn).1 3 R) 1 z) 0 = w ∧ sR (pL (pR (hM M rg w u g fu re wn).1 3 R) 1 z) 1 = u ∧ sR (pL (pR (hM M rg w u g fu re wn).1 3 R) 1 z) 2 = g ∧ sR (pL (pR (hM M rg w u g fu re wn).1 3 R) 1 z) 3 = R ∧ (∀ k : Nat, ¬ k = 0 → ¬ k = 6 → ¬ k = 7 → sI (pL (pR (hM M rg w u g fu re wn).1 3 R) 1 z) k = sI M.1 k) ∧ sI (pL (pR (hM M rg w u g fu re wn).1 3 R) 1 z) 0 = fu ∧ sI (pL (pR (hM M rg w u g fu re wn).1 3 R) 1 z) 6 = re ∧ sI (pL (pR (hM M rg w u g fu re wn).1 3 R) 1 z) 7 = wn ∧ sL (pL (pR (hM M rg w u g fu re wn).1 3 R) 1 z) 0 = sL M.1 0 ∧ sL (pL (pR (hM M rg w u g fu re wn).1 3 R) 1 z) 1 = z ∧ ∀ k : Nat, sQ (pL (pR (hM M rg w u g fu re wn).1 3 R) 1 z) k = sQ M.1 k := by
  refine ⟨fun k hk => ?_, ?_, ?_, ?_, ?_, fun k k1 k2 k3 => ?_, ?_, ?_, ?_, ?_, ?_, fun k => ?_⟩
  · have k0 : ¬ k = 0 := by omega
    have k1 : ¬ k = 1 := by omega
    have k2 : ¬ k = 2 := by omega
    have k3 : ¬ k = 3 := by omega
    simp (disch := (first | assumption | decide | omega)) only [hM, k0, k1, k2, k3, eq_self, Nat.reduceEqDiff, Nat.reduceLeDiff, no_1, no_1024, pk_mul, nI_add, nm_ck, nI_clamp, nI_ltI, nI_leI, nI_eq, nb_b2, nb_b1, ↓nb_let, nm_z0, nm_z1, nb_II, nb_IR, nb_RI, nb_RR, nm_IL, nm_IQ, nm_RL, nm_RQ, nm_LI, nm_LR, nm_LL, nm_LQ, nm_QI, nm_QR, nm_QL, nm_QQ, nm_rr, nm_ii, nm_eqm, not_false_eq_true, pk_sub, nm_div, nm_shl, nm_shr, nm_ush, nm_or8, nm_or64, nm_or256, nm_m1, nm_m3, nm_m7, nm_m15, nm_m31, nm_m63, nm_m255, nm_m511, nm_m1023, nm_m2047, nm_m65535, Nat.reduceMod, Nat.reducePow, Nat.reduceAdd, Nat.reduceSub, Nat.reduceMul, nm_bo, nm_bi, nm_rc, nm_ic, nm_ri, nm_rl, nm_rq, nm_ql, nm_qi, nm_li, nm_us, nm_uu, nm_cp, nm_sa31, nm_sa7, nm_m127, nm_m2, nm_nz, nm_nzk, nm_eq32, nm_nzf, if_true, if_false, ↓reduceIte, if_pos, if_neg]
  · simp (disch := (first | assumption | decide | omega)) only [hM, eq_self, Nat.reduceEqDiff, Nat.reduceLeDiff, no_1, no_1024, pk_mul, nI_add, nm_ck, nI_clamp, nI_ltI, nI_leI, nI_eq, nb_b2, nb_b1, ↓nb_let, nm_z0, nm_z1, nb_II, nb_IR, nb_RI, nb_RR, nm_IL, nm_IQ, nm_RL, nm_RQ, nm_LI, nm_LR, nm_LL, nm_LQ, nm_QI, nm_QR, nm_QL, nm_QQ, nm_rr, nm_ii, nm_eqm, not_false_eq_true, pk_sub, nm_div, nm_shl, nm_shr, nm_ush, nm_or8, nm_or64, nm_or256, nm_m1, nm_m3, nm_m7, nm_m15, nm_m31, nm_m63, nm_m255, nm_m511, nm_m1023, nm_m2047, nm_m65535, Nat.reduceMod, Nat.reducePow, Nat.reduceAdd, Nat.reduceSub, Nat.reduceMul, nm_bo, nm_bi, nm_rc, nm_ic, nm_ri, nm_rl, nm_rq, nm_ql, nm_qi, nm_li, nm_us, nm_uu, nm_cp, nm_sa31, nm_sa7, nm_m127, nm_m2, nm_nz, nm_nzk, nm_eq32, nm_nzf, if_true, if_false, ↓reduceIte, if_pos, if_neg]
  · simp (disch := (first | assumption | decide | omega)) only [hM, eq_self, Nat.reduceEqDiff, Nat.reduceLeDiff, no_1, no_1024, pk_mul, nI_add, nm_ck, nI_clamp, nI_ltI, nI_leI, nI_eq, nb_b2, nb_b1, ↓nb_let, nm_z0, nm_z1, nb_II, nb_IR, nb_RI, nb_RR, nm_IL, nm_IQ, nm_RL, nm_RQ, nm_LI, nm_LR, nm_LL, nm_LQ, nm_QI, nm_QR, nm_QL, nm_QQ, nm_rr, nm_ii, nm_eqm, not_false_eq_true, pk_sub, nm_div, nm_shl, nm_shr, nm_ush, nm_or8, nm_or64, nm_or256, nm_m1, nm_m3, nm_m7, nm_m15, nm_m31, nm_m63, nm_m255, nm_m511, nm_m1023, nm_m2047, nm_m65535, Nat.reduceMod, Nat.reducePow, Nat.reduceAdd, Nat.reduceSub, Nat.reduceMul, nm_bo, nm_bi, nm_rc, nm_ic, nm_ri, nm_rl, nm_rq, nm_ql, nm_qi, nm_li, nm_us, nm_uu, nm_cp, nm_sa31, nm_sa7, nm_m127, nm_m2, nm_nz, nm_nzk, nm_eq32, nm_nzf, if_true, if_false, ↓reduceIte, if_pos, if_neg]
  · simp (disch := (first | assumption | decide | omega)) only [hM, eq_self, Nat.reduceEqDiff, Nat.reduceLeDiff, no_1, no_1024, pk_mul, nI_add, nm_ck, nI_clamp, nI_ltI, nI_leI, nI_eq, nb_b2, nb_b1, ↓nb_let, nm_z0, nm_z1, nb_II, nb_IR, nb_RI, nb_RR, nm_IL, nm_IQ, nm_RL, nm_RQ, nm_LI, nm_LR, nm_LL, nm_LQ, nm_QI, nm_QR, nm_QL, nm_QQ, nm_rr, nm_ii, nm_eqm, not_false_eq_true, pk_sub, nm_div, nm_shl, nm_shr, nm_ush, nm_or8, nm_or64, nm_or256, nm_m1, nm_m3, nm_m7, nm_m15, nm_m31, nm_m63, nm_m255, nm_m511, nm_m1023, nm_m2047, nm_m65535, Nat.reduceMod, Nat.reducePow, Nat.reduceAdd, Nat.reduceSub, Nat.reduceMul, nm_bo, nm_bi, nm_rc, nm_ic, nm_ri, nm_rl, nm_rq, nm_ql, nm_qi, nm_li, nm_us, nm_uu, nm_cp, nm_sa31, nm_sa7, nm_m127, nm_m2, nm_nz, nm_nzk, nm_eq32, nm_nzf, if_true, if_false, ↓reduceIte, if_pos, if_neg]
  · simp (disch := (first | assumption | decide | omega)) only [hM, eq_self, Nat.reduceEqDiff, Nat.reduceLeDiff, no_1, no_1024, pk_mul, nI_add, nm_ck, nI_clamp, nI_ltI, nI_leI, nI_eq, nb_b2, nb_b1, ↓nb_let, nm_z0, nm_z1, nb_II, nb_IR, nb_RI, nb_RR, nm_IL, nm_IQ, nm_RL, nm_RQ, nm_LI, nm_LR, nm_LL, nm_LQ, nm_QI, nm_QR, nm_QL, nm_QQ, nm_rr, nm_ii, nm_eqm, not_false_eq_true, pk_sub, nm_div, nm_shl, nm_shr, nm_ush, nm_or8, nm_or64, nm_or256, nm_m1, nm_m3, nm_m7, nm_m15, nm_m31, nm_m63, nm_m255, nm_m511, nm_m1023, nm_m2047, nm_m65535, Nat.reduceMod, Nat.reducePow, Nat.reduceAdd, Nat.reduceSub, Nat.reduceMul, nm_bo, nm_bi, nm_rc, nm_ic, nm_ri, nm_rl, nm_rq, nm_ql, nm_qi, nm_li, nm_us, nm_uu, nm_cp, nm_sa31, nm_sa7, nm_m127, nm_m2, nm_nz, nm_nzk, nm_eq32, nm_nzf, if_true, if_false, ↓reduceIte, if_pos, if_neg]
  · simp (disch := (first | assumption | decide | omega)) only [hM, k1, k2, k3, eq_self, Nat.reduceEqDiff, Nat.reduceLeDiff, no_1, no_1024, pk_mul, nI_add, nm_ck, nI_clamp, nI_ltI, nI_leI, nI_eq, nb_b2, nb_b1, ↓nb_let, nm_z0, nm_z1, nb_II, nb_IR, nb_RI, nb_RR, nm_IL, nm_IQ, nm_RL, nm_RQ, nm_LI, nm_LR, nm_LL, nm_LQ, nm_QI, nm_QR, nm_QL, nm_QQ, nm_rr, nm_ii, nm_eqm, not_false_eq_true, pk_sub, nm_div, nm_shl, nm_shr, nm_ush, nm_or8, nm_or64, nm_or256, nm_m1, nm_m3, nm_m7, nm_m15, nm_m31, nm_m63, nm_m255, nm_m511, nm_m1023, nm_m2047, nm_m65535, Nat.reduceMod, Nat.reducePow, Nat.reduceAdd, Nat.reduceSub, Nat.reduceMul, nm_bo, nm_bi, nm_rc, nm_ic, nm_ri, nm_rl, nm_rq, nm_ql, nm_qi, nm_li, nm_us, nm_uu, nm_cp, nm_sa31, nm_sa7, nm_m127, nm_m2, nm_nz, nm_nzk, nm_eq32, nm_nzf, if_true, if_false, ↓reduceIte, if_pos, if_neg]
  · simp (disch := (first | assumption | decide | omega)) only [hM, eq_self, Nat.reduceEqDiff, Nat.reduceLeDiff, no_1, no_1024, pk_mul, nI_add, nm_ck, nI_clamp, nI_ltI, nI_leI, nI_eq, nb_b2, nb_b1, ↓nb_let, nm_z0, nm_z1, nb_II, nb_IR, nb_RI, nb_RR, nm_IL, nm_IQ, nm_RL, nm_RQ, nm_LI, nm_LR, nm_LL, nm_LQ, nm_QI, nm_QR, nm_QL, nm_QQ, nm_rr, nm_ii, nm_eqm, not_false_eq_true, pk_sub, nm_div, nm_shl, nm_shr, nm_ush, nm_or8, nm_or64, nm_or256, nm_m1, nm_m3, nm_m7, nm_m15, nm_m31, nm_m63, nm_m255, nm_m511, nm_m1023, nm_m2047, nm_m65535, Nat.reduceMod, Nat.reducePow, Nat.reduceAdd, Nat.reduceSub, Nat.reduceMul, nm_bo, nm_bi, nm_rc, nm_ic, nm_ri, nm_rl, nm_rq, nm_ql, nm_qi, nm_li, nm_us, nm_uu, nm_cp, nm_sa31, nm_sa7, nm_m127, nm_m2, nm_nz, nm_nzk, nm_eq32, nm_nzf, if_true, if_false, ↓reduceIte, if_pos, if_neg]
  · simp (disch := (first | assumption | decide | omega)) only [hM, eq_self, Nat.reduceEqDiff, Nat.reduceLeDiff, no_1, no_1024, pk_mul, nI_add, nm_ck, nI_clamp, nI_ltI, nI_leI, nI_eq, nb_b2, nb_b1, ↓nb_let, nm_z0, nm_z1, nb_II, nb_IR, nb_RI, nb_RR, nm_IL, nm_IQ, nm_RL, nm_RQ, nm_LI, nm_LR, nm_LL, nm_LQ, nm_QI, nm_QR, nm_QL, nm_QQ, nm_rr, nm_ii, nm_eqm, not_false_eq_true, pk_sub, nm_div, nm_shl, nm_shr, nm_ush, nm_or8, nm_or64, nm_or256, nm_m1, nm_m3, nm_m7, nm_m15, nm_m31, nm_m63, nm_m255, nm_m511, nm_m1023, nm_m2047, nm_m65535, Nat.reduceMod, Nat.reducePow, Nat.reduceAdd, Nat.reduceSub, Nat.reduceMul, nm_bo, nm_bi, nm_rc, nm_ic, nm_ri, nm_rl, nm_rq, nm_ql, nm_qi, nm_li, nm_us, nm_uu, nm_cp, nm_sa31, nm_sa7, nm_m127, nm_m2, nm_nz, nm_nzk, nm_eq32, nm_nzf, if_true, if_false, ↓reduceIte, if_pos, if_neg]
  · simp (disch := (first | assumption | decide | omega)) only [hM, eq_self, Nat.reduceEqDiff, Nat.reduceLeDiff, no_1, no_1024, pk_mul, nI_add, nm_ck, nI_clamp, nI_ltI, nI_leI, nI_eq, nb_b2, nb_b1, ↓nb_let, nm_z0, nm_z1, nb_II, nb_IR, nb_RI, nb_RR, nm_IL, nm_IQ, nm_RL, nm_RQ, nm_LI, nm_LR, nm_LL, nm_LQ, nm_QI, nm_QR, nm_QL, nm_QQ, nm_rr, nm_ii, nm_eqm, not_false_eq_true, pk_sub, nm_div, nm_shl, nm_shr, nm_ush, nm_or8, nm_or64, nm_or256, nm_m1, nm_m3, nm_m7, nm_m15, nm_m31, nm_m63, nm_m255, nm_m511, nm_m1023, nm_m2047, nm_m65535, Nat.reduceMod, Nat.reducePow, Nat.reduceAdd, Nat.reduceSub, Nat.reduceMul, nm_bo, nm_bi, nm_rc, nm_ic, nm_ri, nm_rl, nm_rq, nm_ql, nm_qi, nm_li, nm_us, nm_uu, nm_cp, nm_sa31, nm_sa7, nm_m127, nm_m2, nm_nz, nm_nzk, nm_eq32, nm_nzf, if_true, if_false, ↓reduceIte, if_pos, if_neg]
  · simp (disch := (first | assumption | decide | omega)) only [hM, eq_self, Nat.reduceEqDiff, Nat.reduceLeDiff, no_1, no_1024, pk_mul, nI_add, nm_ck, nI_clamp, nI_ltI, nI_leI, nI_eq, nb_b2, nb_b1, ↓nb_let, nm_z0, nm_z1, nb_II, nb_IR, nb_RI, nb_RR, nm_IL, nm_IQ, nm_RL, nm_RQ, nm_LI, nm_LR, nm_LL, nm_LQ, nm_QI, nm_QR, nm_QL, nm_QQ, nm_rr, nm_ii, nm_eqm, not_false_eq_true, pk_sub, nm_div, nm_shl, nm_shr, nm_ush, nm_or8, nm_or64, nm_or256, nm_m1, nm_m3, nm_m7, nm_m15, nm_m31, nm_m63, nm_m255, nm_m511, nm_m1023, nm_m2047, nm_m65535, Nat.reduceMod, Nat.reducePow, Nat.reduceAdd, Nat.reduceSub, Nat.reduceMul, nm_bo, nm_bi, nm_rc, nm_ic, nm_ri, nm_rl, nm_rq, nm_ql, nm_qi, nm_li, nm_us, nm_uu, nm_cp, nm_sa31, nm_sa7, nm_m127, nm_m2, nm_nz, nm_nzk, nm_eq32, nm_nzf, if_true, if_false, ↓reduceIte, if_pos, if_neg]
  · simp (disch := (first | assumption | decide | omega)) only [hM, eq_self, Nat.reduceEqDiff, Nat.reduceLeDiff, no_1, no_1024, pk_mul, nI_add, nm_ck, nI_clamp, nI_ltI, nI_leI, nI_eq, nb_b2, nb_b1, ↓nb_let, nm_z0, nm_z1, nb_II, nb_IR, nb_RI, nb_RR, nm_IL, nm_IQ, nm_RL, nm_RQ, nm_LI, nm_LR, nm_LL, nm_LQ, nm_QI, nm_QR, nm_QL, nm_QQ, nm_rr, nm_ii, nm_eqm, not_false_eq_true, pk_sub, nm_div, nm_shl, nm_shr, nm_ush, nm_or8, nm_or64, nm_or256, nm_m1, nm_m3, nm_m7, nm_m15, nm_m31, nm_m63, nm_m255, nm_m511, nm_m1023, nm_m2047, nm_m65535, Nat.reduceMod, Nat.reducePow, Nat.reduceAdd, Nat.reduceSub, Nat.reduceMul, nm_bo, nm_bi, nm_rc, nm_ic, nm_ri, nm_rl, nm_rq, nm_ql, nm_qi, nm_li, nm_us, nm_uu, nm_cp, nm_sa31, nm_sa7, nm_m127, nm_m2, nm_nz, nm_nzk, nm_eq32, nm_nzf, if_true, if_false, ↓reduceIte, if_pos, if_neg]
  · simp (disch := (first | assumption | decide | omega)) only [hM, eq_self, Nat.reduceEqDiff, Nat.reduceLeDiff, no_1, no_1024, pk_mul, nI_add, nm_ck, nI_clamp, nI_ltI, nI_leI, nI_eq, nb_b2, nb_b1, ↓nb_let, nm_z0, nm_z1, nb_II, nb_IR, nb_RI, nb_RR, nm_IL, nm_IQ, nm_RL, nm_RQ, nm_LI, nm_LR, nm_LL, nm_LQ, nm_QI, nm_QR, nm_QL, nm_QQ, nm_rr, nm_ii, nm_eqm, not_false_eq_true, pk_sub, nm_div, nm_shl, nm_shr, nm_ush, nm_or8, nm_or64, nm_or256, nm_m1, nm_m3, nm_m7, nm_m15, nm_m31, nm_m63, nm_m255, nm_m511, nm_m1023, nm_m2047, nm_m65535, Nat.reduceMod, Nat.reducePow, Nat.reduceAdd, Nat.reduceSub, Nat.reduceMul, nm_bo, nm_bi, nm_rc, nm_ic, nm_ri, nm_rl, nm_rq, nm_ql, nm_qi, nm_li, nm_us, nm_uu, nm_cp, nm_sa31, nm_sa7, nm_m127, nm_m2, nm_nz, nm_nzk, nm_eq32, nm_nzf, if_true, if_false, ↓reduceIte, if_pos, if_neg]
theorem rP_al2 {M M' X X' : St × St} (m3 : ∀ q : Nat, q < 16 → rP1 M X q) {p : Nat} (hp : rP1 M' X' p) (ho : ∀ r : Nat, r < 16 → r ≠ p → agM M M' r ∧ agX X X' r) : ∀ q : Nat, q < 16 → rP1 M' X' q := fun q hq => by
  by_cases c : q = p
  · rw [c]; exact hp
  · exact rP1_ag (m3 q hq) (ho q hq c).1 (ho q hq c).2
theorem rM_step {B : Nat} {M X : St × St} (h : rM B M X) {p : Nat} (hp : p < 16) (h1 : sR X.1 1 p = nI 1) {H : St} {rg x w u g b fr ho : Nat → Int32} {fu us re wn wr nx a' b' : Int32} (r1 : rgR p (H, M) X rg x) (r2 : rQ w u g b fr (sR X.1 17) ho fu us) (r3 : okR re) (r4 : ∀ j : Nat, j < 1024 → (fr j = -nI 1 ↔ sR X.1 16 j = -nI 1)) : rM B (pL (pR (hM M rg w u g fu re wn).1 3 (upd rg (p * 33 + 32) nx)) 1 (sL M.1 1 + 1), M.2) (pL (pR (hX (zS X a' b' nx (nI 0)) x b fr ho us re wr nx).1 10 (upd (sR X.1 10) p nx)) 0 (sL X.1 0 + 1), X.2) := by
  obtain ⟨m1, m2, m3, m4, m5, m6, m7⟩ := h
  obtain ⟨c1, c2, c3, c4, c5, c6, c7, c8, c9, c10, c11, c12, c13⟩ := hX_rows X x b fr ho (upd (sR X.1 10) p nx) us re wr nx a' b' (sL X.1 0 + 1)
  obtain ⟨f1, f2, f3, f4, f5, f6, f7, f8, f9, f10, f11, f12⟩ := hM_rows M rg w u g (upd rg (p * 33 + 32) nx) fu re wn (sL M.1 1 + 1)
  generalize pL (pR (hX (zS X a' b' nx (nI 0)) x b fr ho us re wr nx).1 10 (upd (sR X.1 10) p nx)) 0 (sL X.1 0 + 1) = X' at c1 c2 c3 c4 c5 c6 c7 c8 c9 c10 c11 c12 c13
  generalize pL (pR (hM M rg w u g fu re wn).1 3 (upd rg (p * 33 + 32) nx)) 1 (sL M.1 1 + 1) = M' at f1 f2 f3 f4 f5 f6 f7 f8 f9 f10 f11 f12
  have R : ∀ k : Nat, k = 0 ∨ k = 1 ∨ k = 2 ∨ k = 3 ∨ k = 4 ∨ k = 5 ∨ k = 6 ∨ k = 7 ∨ k = 8 ∨ k = 11 ∨ k = 12 ∨ k = 13 ∨ k = 14 ∨ k = 17 ∨ 19 ≤ k → sR X' k = sR X.1 k := fun k hk => c1 k (by omega) (by omega) (by omega) (by omega) (by omega)
  have I : ∀ k : Nat, k = 1 ∨ k = 2 ∨ k = 3 ∨ k = 5 ∨ k = 7 → sI X' k = sI X.1 k := fun k hk => c7 k (by omega) (by omega) (by omega) (by omega) (by omega) (by omega) (by omega)
  obtain ⟨s1, s2, s3⟩ := r1
  have s2 : ∀ i : Nat, i < p * 33 ∨ p * 33 + 32 ≤ i → rg i = sR M.1 3 i := s2
  refine ⟨?_, ?_, rP_al2 m3 (p := p) ?_ (fun r hr16 hne => ⟨⟨fun i hi => ?_, fun i hi => ?_, fun i hi => ?_, fun i hi => ?_, ?_⟩, ⟨⟨?_, ?_, ?_, ?_, ?_, ?_, ?_, ?_⟩, fun i hi => ?_, ?_, fun i hi => ?_, ?_, fun i hi => ?_, fun i hi => ?_, fun i hi => ?_, ?_⟩⟩), ?_, ?_, ?_, ?_⟩
  · show rQ (sR M' 0) (sR M' 1) (sR M' 2) (sR X' 15) (sR X' 16) (sR X' 17) (sR X' 18) (sI M' 0) (sI X' 6)
    rw [f2, f3, f4, c4, c5, R 17 (by omega), c6, f7, c9]
    exact r2
  · show rD _ _ _ _ (sR X' 14) (sR X' 19) (sR X' 20) (sR X' 21) (sR X' 22) (sR X' 23) (sR X' 24) (sR X' 25)
    rw [R 14 (by omega), R 19 (by omega), R 20 (by omega), R 21 (by omega), R 22 (by omega), R 23 (by omega), R 24 (by omega), R 25 (by omega)]
    exact m2
  · obtain ⟨t, c', w0, b', e, ht, hc', hw, hb, he, a1, a2, a3, a4, a5, a6, a7, a8, a9, a10, a11, a12, a13, a14, a15, a16, a17, a18, a19, a20, a21⟩ := m3 p hp
    have t1 : t = 1 := nm_inI (by omega) (by omega) (a2.symm.trans h1)
    refine ⟨t, c', w0, b', e, ht, hc', hw, hb, he, ?_, ?_, ?_, ?_, ?_, fun z => by omega, fun z => ?_, ?_, ?_, ?_, ?_, ?_, ?_, ?_, ?_, fun k hk y => ?_, fun z => ⟨fun r hr => ?_, ?_⟩, fun z => ⟨fun k hk => ?_, ?_, fun y => ⟨fun r hr => ?_, ?_⟩⟩, fun z => by omega, fun z => by omega, fun z => ?_⟩
    · show sR M' 6 _ = _
      rw [f1 6 (by omega)]; exact a1
    · show sR X' 1 p = _
      rw [R 1 (by omega)]; exact a2
    · show sR M' 6 _ = sR X' 2 p
      rw [f1 6 (by omega), R 2 (by omega)]; exact a3
    · show okP (sR X' 2 p)
      rw [R 2 (by omega)]; exact a4
    · show ¬ sR X' 2 p = _
      rw [R 2 (by omega)]; exact a5
    · show sR M' 6 _ = _
      rw [f1 6 (by omega)]; exact a7 z
    · show sR M' 6 _ = _
      rw [f1 6 (by omega)]; exact a8
    · show sR X' 4 p = _
      rw [R 4 (by omega)]; exact a9
    · show sR M' 6 _ = _
      rw [f1 6 (by omega)]; exact a10
    · show sR X' 8 p = _
      rw [R 8 (by omega)]; exact a11
    · show sR M' 6 _ = _
      rw [f1 6 (by omega)]; exact a12
    · show sR X' 5 p = _
      rw [R 5 (by omega)]; exact a13
    · show sR M' 6 _ = _
      rw [f1 6 (by omega)]; exact a14
    · show sR X' 6 p = _
      rw [R 6 (by omega)]; exact a15
    · show sR X' 16 _ = _
      rw [c5]; exact (r4 _ (by omega)).mpr (a16 k hk y)
    · show sR M' 3 _ = sR X' 9 _
      rw [f5, c2, nm_un (by omega)]; exact s1 r hr
    · show sR M' 3 _ = sR X' 10 _
      rw [f5, c3, nm_us, nm_us]
    · show sR M' 5 _ = sR X' 13 _
      rw [f1 5 (by omega), R 13 (by omega)]; exact (a18 z).1 k hk
    · show sQ M' 0 p = sQ X' 0 p
      rw [f12, c13]; exact (a18 z).2.1
    · show sR M' 4 _ = sR X' 11 _
      rw [f1 4 (by omega), R 11 (by omega)]; exact ((a18 z).2.2 y).1 r hr
    · show sR M' 4 _ = sR X' 12 _
      rw [f1 4 (by omega), R 12 (by omega)]; exact ((a18 z).2.2 y).2
    · show sR X' 7 p = _
      rw [R 7 (by omega)]; exact a21 z
  · show sR M' 6 _ = _
    rw [f1 6 (by omega)]
  · show sR M' 3 _ = _
    rw [f5, nm_un (by omega), s2 _ (by omega)]
  · show sR M' 4 _ = _
    rw [f1 4 (by omega)]
  · show sR M' 5 _ = _
    rw [f1 5 (by omega)]
  · show sQ M' 0 r = _
    rw [f12]
  · show sR X' 1 r = _
    rw [R 1 (by omega)]
  · show sR X' 2 r = _
    rw [R 2 (by omega)]
  · show sR X' 3 r = _
    rw [R 3 (by omega)]
  · show sR X' 4 r = _
    rw [R 4 (by omega)]
  · show sR X' 5 r = _
    rw [R 5 (by omega)]
  · show sR X' 6 r = _
    rw [R 6 (by omega)]
  · show sR X' 7 r = _
    rw [R 7 (by omega)]
  · show sR X' 8 r = _
    rw [R 8 (by omega)]
  · show sR X' 9 _ = _
    rw [c2, s3 _ (by omega)]
  · show sR X' 10 r = _
    rw [c3, nm_un hne]
  · show sR X' 11 _ = _
    rw [R 11 (by omega)]
  · show sR X' 12 r = _
    rw [R 12 (by omega)]
  · show sR X' 13 _ = _
    rw [R 13 (by omega)]
  · show sR X' 14 _ = _
    rw [R 14 (by omega)]
  · show sR X' 16 _ = _ ↔ _
    rw [c5]; exact r4 _ (by omega)
  · show sQ X' 0 r = _
    rw [c13]
  · show sI M' 2 = nI (cW (sR X' 1))
    rw [f6 2 (by omega) (by omega) (by omega), R 1 (by omega)]; exact m4
  · obtain ⟨g1, g2, g3, g4, g5, g6, g7, g8, g9, g10, g11⟩ := m5
    show sI M' 3 = sI X' 1 ∧ okP (sI X' 1) ∧ sI M' 4 = sI X' 2 ∧ (∃ l : Nat, l < 16 ∧ sI X' 2 = nI l) ∧ (sI X' 1 = -nI 1 ∨ sI X' 2 = sI X' 1) ∧ sI M' 5 = sI X' 3 ∧ okP (sI X' 3) ∧ sI M' 6 = sI X' 4 ∧ okR (sI X' 4) ∧ sL M' 0 = sL X' 1 ∧ sL M' 1 = sL X' 0
    rw [f6 3 (by omega) (by omega) (by omega), f6 4 (by omega) (by omega) (by omega), f6 5 (by omega) (by omega) (by omega), I 1 (by omega), I 2 (by omega), I 3 (by omega), f8, c8, f10, f11, c11 1 (by omega), c12]
    exact ⟨g1, g2, g3, g4, g5, g6, g7, rfl, r3, g10, by rw [g11]⟩
  · show (∃ k : Nat, k ≤ 16 ∧ sI M' 1 = nI k ∧ sI X' 5 = nI k ∧ ∀ i : Nat, i < k → sR M' 7 i = sR X' 0 i) ∧ okY M.2
    rw [f6 1 (by omega) (by omega) (by omega), I 5 (by omega), f1 7 (by omega), R 0 (by omega)]
    exact m6
  · show rT B _ _ _ _ _ _ _ _ _ (sR X' 23) (sR X' 24) (sR X' 25) (sR X' 26) (sR X' 27) (sR X' 28) (sR X' 29) (sR X' 30) (sR X' 31) (sR X' 32) (sI X' 7) (sL X' 2)
    rw [R 23 (by omega), R 24 (by omega), R 25 (by omega), R 26 (by omega), R 27 (by omega), R 28 (by omega), R 29 (by omega), R 30 (by omega), R 31 (by omega), R 32 (by omega), I 7 (by omega), c11 2 (by omega)]
    exact m7
