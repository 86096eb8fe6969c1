/-- the pages of a running one go -/
theorem rM_pg {B : Nat} {M X : St × St} (h : rM B M X) {p : Nat} (hp : p < 16) (h1 : sR X.1 1 p = nI 1) {w u g b fr ri ho : Nat → Int32} {fu us : Int32} (hr : rQ w u g b fr ri ho fu us) (hfr : ∀ i : Nat, ¬ (64 * p ≤ i ∧ i < 64 * p + 64) → fr i = sR X.1 16 i) (hh : ∀ k : Nat, k < 64 → fr (64 * p + k) = -nI 1) : rM B (mU M w u g fu) (xU X b fr ri ho us) := by
  obtain ⟨m1, m2, m3, m4, m5, m6, m7⟩ := h
  refine ⟨hr, m2, rP_all m3 (p := p) ?_ (fun r hr => ⟨⟨fun _ _ => rfl, fun _ _ => rfl, fun _ _ => rfl, fun _ _ => rfl, rfl⟩, ⟨⟨rfl, rfl, rfl, rfl, rfl, rfl, rfl, rfl⟩, fun _ _ => rfl, rfl, fun _ _ => rfl, rfl, fun _ _ => rfl, fun _ _ => rfl, fun i hi => ?_, rfl⟩⟩), m4, m5, m6, m7⟩
  · obtain ⟨t, c', w, b', e, ht, hc', hw, hb, he, a1, a2, a3, a4, a5, a6, a7, a8, a9, a10, a11, a12, a13, a14, a15, a16, a17, a18, a19, a20, a21⟩ := m3 p hp
    have t1 : t = 1 := nm_inI (by omega) (by omega) (a2.symm.trans h1)
    exact ⟨t, c', w, b', e, ht, hc', hw, hb, he, a1, a2, a3, a4, a5, a6, a7, a8, a9, a10, a11, a12, a13, a14, a15, fun k hk _ => hh k (by omega), a17, a18, fun z => by omega, fun z => by omega, a21⟩
  · show fr (64 * r + i) = _ ↔ sR X.1 16 (64 * r + i) = _
    rw [hfr _ (by omega)]
/-- behind the load: handlers, within, since, reserved, outcome -/
def eX (X : St × St) (p : Nat) : St × St := (pI (pI (pQ (pR (pR X.1 13 (fl (sR X.1 13) (16 * p) 16 (nI 0))) 8 (upd (sR X.1 8) p (nI 0))) 0 (vp_updL (sQ X.1 0) p (-1))) 4 (-nI 1)) 13 (nI 2), X.2)
theorem er_58 (n : Nat) (hn : 1024 < n) {X : St × St} {p : Nat} (hp : p < 16) (h3 : sI X.1 12 = nI p) : df_X16_exec_58 n n (nI 0) X = some (nI 0, eX X p) := by
  obtain ⟨m, hm⟩ := nm_lq (fun m k => df_X16_exec_58 n m (nI k) (pR X.1 13 (fl (sR X.1 13) (16 * p) k (nI 0)), X.2)) 16 n (by omega) (fun k m hk => by
    have u1 : 16 * p + k < 256 := by omega
    have u2 : 16 * p + k < 2 ^ 31 := by omega
    have u3 : k < 2 ^ 31 := by omega
    have k1 : ¬ 16 ≤ k := by omega
    rw [show df_X16_exec_58 n (m + 1) = dF_X16_exec_58 n (df_X16_exec_58 n m) from rfl]
    generalize df_X16_exec_58 n m = G
    simp (disch := (first | assumption | decide | omega)) only [dF_X16_exec_58, k1, h3, fl_s, eq_self, Nat.reduceEqDiff, Nat.reduceLeDiff, nl_0, nl_1, nl_2, nl_4, nl_8, nl_12, nl_13, nl_16, nl_256, no_1, no_1024, pk_mul, nI_add, nm_ck, nI_clamp, nI_ltI, nI_leI, nI_eq, nb_b2, nb_b1, ↓nb_let, nm_z0, nm_z1, nb_II, nb_IR, nb_RI, nb_RR, nm_IL, nm_IQ, nm_RL, nm_RQ, nm_LI, nm_LR, nm_LL, nm_LQ, nm_QI, nm_QR, nm_QL, nm_QQ, nm_rr, nm_ii, nm_eqm, not_false_eq_true, pk_sub, nm_div, nm_shl, nm_shr, nm_ush, nm_or8, nm_or64, nm_or256, nm_m1, nm_m3, nm_m7, nm_m15, nm_m31, nm_m63, nm_m255, nm_m511, nm_m1023, nm_m2047, nm_m65535, Nat.reduceMod, Nat.reducePow, Nat.reduceAdd, Nat.reduceSub, Nat.reduceMul, nm_bo, nm_bi, nm_rc, nm_ic, nm_ri, nm_rl, nm_rq, nm_ql, nm_qi, nm_li, nm_us, nm_uu, nm_cp, nm_sa31, nm_sa7, nm_m127, nm_m2, nm_nz, nm_nzk, nm_eq32, nm_nzf, if_true, if_false, ↓reduceIte, if_pos, if_neg])
  rw [fl_0, nm_r0] at hm
  refine Eq.trans hm ?_
  show df_X16_exec_58 n (m + 1) (nI 16) _ = _
  rw [show df_X16_exec_58 n (m + 1) = dF_X16_exec_58 n (df_X16_exec_58 n m) from rfl]
  generalize df_X16_exec_58 n m = G
  have u3 : p < 2 ^ 31 := by omega
  unfold eX
  generalize fl (sR X.1 13) (16 * p) 16 (nI 0) = R
  simp (disch := (first | assumption | decide | omega)) only [dF_X16_exec_58, df_X16_tell_0, df_X16_tell, h3, eq_self, Nat.reduceEqDiff, Nat.reduceLeDiff, nl_0, nl_1, nl_2, nl_4, nl_8, nl_12, nl_13, nl_16, nl_256, no_1, no_1024, pk_mul, nI_add, nm_ck, nI_clamp, nI_ltI, nI_leI, nI_eq, nb_b2, nb_b1, ↓nb_let, nm_z0, nm_z1, nb_II, nb_IR, nb_RI, nb_RR, nm_IL, nm_IQ, nm_RL, nm_RQ, nm_LI, nm_LR, nm_LL, nm_LQ, nm_QI, nm_QR, nm_QL, nm_QQ, nm_rr, nm_ii, nm_eqm, not_false_eq_true, pk_sub, nm_div, nm_shl, nm_shr, nm_ush, nm_or8, nm_or64, nm_or256, nm_m1, nm_m3, nm_m7, nm_m15, nm_m31, nm_m63, nm_m255, nm_m511, nm_m1023, nm_m2047, nm_m65535, Nat.reduceMod, Nat.reducePow, Nat.reduceAdd, Nat.reduceSub, Nat.reduceMul, nm_bo, nm_bi, nm_rc, nm_ic, nm_ri, nm_rl, nm_rq, nm_ql, nm_qi, nm_li, nm_us, nm_uu, nm_cp, nm_sa31, nm_sa7, nm_m127, nm_m2, nm_nz, nm_nzk, nm_eq32, nm_nzf, if_true, if_false, ↓reduceIte, if_pos, if_neg]
theorem lX_rows (X : St × St) (b fr ri ho : Nat → Int32) (us : Int32) (p H : Nat) : (∀ k : Nat, k = 1 ∨ k = 2 ∨ k = 3 ∨ k = 4 ∨ k = 7 ∨ k = 11 ∨ k = 12 ∨ k = 14 ∨ (19 ≤ k) ∨ k = 0 → sR (eX (lX X b fr ri ho us p H) p).1 k = sR X.1 k) ∧ sR (eX (lX X b fr ri ho us p H) p).1 5 = upd (sR X.1 5) p (nI H) ∧ sR (eX (lX X b fr ri ho us p H) p).1 6 = upd (sR X.1 6) p (nI H) ∧ sR (eX (lX X b fr ri ho us p H) p).1 8 = upd (sR X.1 8) p (nI 0) ∧ sR (eX (lX X b fr ri ho us p H) p).1 9 = upd (fl (sR X.1 9) (32 * p) 32 (nI 0)) (32 * p + 2) (nI 65536) ∧ sR (eX (lX X b fr ri ho us p H) p).1 10 = upd (sR X.1 10) p (nI 0) ∧ sR (eX (lX X b fr ri ho us p H) p).1 13 = fl (sR X.1 13) (16 * p) 16 (nI 0) ∧ sR (eX (lX X b fr ri ho us p H) p).1 15 = b ∧ sR (eX (lX X b fr ri ho us p H) p).1 16 = fr ∧ sR (eX (lX X b fr ri ho us p H) p).1 17 = ri ∧ sR (eX (lX X b fr ri ho us p H) p).1 18 = ho := by
  refine ⟨fun k hk => ?_, ?_, ?_, ?_, ?_, ?_, ?_, ?_, ?_, ?_, ?_⟩
  · have k5 : ¬ k = 5 := by omega
    have k6 : ¬ k = 6 := by omega
    have k8 : ¬ k = 8 := by omega
    have k9 : ¬ k = 9 := by omega
    have k10 : ¬ k = 10 := by omega
    have k13 : ¬ k = 13 := by omega
    have k15 : ¬ k = 15 := by omega
    have k16 : ¬ k = 16 := by omega
    have k17 : ¬ k = 17 := by omega
    have k18 : ¬ k = 18 := by omega
    simp (disch := (first | assumption | decide | omega)) only [eX, lX, xU, k5, k6, k8, k9, k10, k13, k15, k16, k17, k18, eq_self, Nat.reduceEqDiff, Nat.reduceLeDiff, no_1, no_1024, pk_mul, nI_add, nm_ck, nI_clamp, nI_ltI, nI_leI, nI_eq, nb_b2, nb_b1, ↓nb_let, nm_z0, nm_z1, nb_II, nb_IR, nb_RI, nb_RR, nm_IL, nm_IQ, nm_RL, nm_RQ, nm_LI, nm_LR, nm_LL, nm_LQ, nm_QI, nm_QR, nm_QL, nm_QQ, nm_rr, nm_ii, nm_eqm, not_false_eq_true, pk_sub, nm_div, nm_shl, nm_shr, nm_ush, nm_or8, nm_or64, nm_or256, nm_m1, nm_m3, nm_m7, nm_m15, nm_m31, nm_m63, nm_m255, nm_m511, nm_m1023, nm_m2047, nm_m65535, Nat.reduceMod, Nat.reducePow, Nat.reduceAdd, Nat.reduceSub, Nat.reduceMul, nm_bo, nm_bi, nm_rc, nm_ic, nm_ri, nm_rl, nm_rq, nm_ql, nm_qi, nm_li, nm_us, nm_uu, nm_cp, nm_sa31, nm_sa7, nm_m127, nm_m2, nm_nz, nm_nzk, nm_eq32, nm_nzf, if_true, if_false, ↓reduceIte, if_pos, if_neg]
  all_goals simp (disch := (first | assumption | decide | omega)) only [eX, lX, xU, eq_self, Nat.reduceEqDiff, Nat.reduceLeDiff, no_1, no_1024, pk_mul, nI_add, nm_ck, nI_clamp, nI_ltI, nI_leI, nI_eq, nb_b2, nb_b1, ↓nb_let, nm_z0, nm_z1, nb_II, nb_IR, nb_RI, nb_RR, nm_IL, nm_IQ, nm_RL, nm_RQ, nm_LI, nm_LR, nm_LL, nm_LQ, nm_QI, nm_QR, nm_QL, nm_QQ, nm_rr, nm_ii, nm_eqm, not_false_eq_true, pk_sub, nm_div, nm_shl, nm_shr, nm_ush, nm_or8, nm_or64, nm_or256, nm_m1, nm_m3, nm_m7, nm_m15, nm_m31, nm_m63, nm_m255, nm_m511, nm_m1023, nm_m2047, nm_m65535, Nat.reduceMod, Nat.reducePow, Nat.reduceAdd, Nat.reduceSub, Nat.reduceMul, nm_bo, nm_bi, nm_rc, nm_ic, nm_ri, nm_rl, nm_rq, nm_ql, nm_qi, nm_li, nm_us, nm_uu, nm_cp, nm_sa31, nm_sa7, nm_m127, nm_m2, nm_nz, nm_nzk, nm_eq32, nm_nzf, if_true, if_false, ↓reduceIte, if_pos, if_neg]
theorem lX_ints (X : St × St) (b fr ri ho : Nat → Int32) (us : Int32) (p H : Nat) : (∀ k : Nat, ¬ k = 4 → ¬ k = 6 → ¬ k = 13 → sI (eX (lX X b fr ri ho us p H) p).1 k = sI X.1 k) ∧ sI (eX (lX X b fr ri ho us p H) p).1 4 = -nI 1 ∧ sI (eX (lX X b fr ri ho us p H) p).1 6 = us ∧ sI (eX (lX X b fr ri ho us p H) p).1 13 = nI 2 ∧ (∀ k : Nat, sL (eX (lX X b fr ri ho us p H) p).1 k = sL X.1 k) ∧ sQ (eX (lX X b fr ri ho us p H) p).1 0 = vp_updL (sQ X.1 0) p (-1) ∧ (eX (lX X b fr ri ho us p H) p).2 = X.2 := by
  refine ⟨fun k k1 k2 k3 => ?_, ?_, ?_, ?_, fun k => ?_, ?_, rfl⟩
  · simp (disch := (first | assumption | decide | omega)) only [eX, lX, xU, k1, k2, k3, eq_self, Nat.reduceEqDiff, Nat.reduceLeDiff, no_1, no_1024, pk_mul, nI_add, nm_ck, nI_clamp, nI_ltI, nI_leI, nI_eq, nb_b2, nb_b1, ↓nb_let, nm_z0, nm_z1, nb_II, nb_IR, nb_RI, nb_RR, nm_IL, nm_IQ, nm_RL, nm_RQ, nm_LI, nm_LR, nm_LL, nm_LQ, nm_QI, nm_QR, nm_QL, nm_QQ, nm_rr, nm_ii, nm_eqm, not_false_eq_true, pk_sub, nm_div, nm_shl, nm_shr, nm_ush, nm_or8, nm_or64, nm_or256, nm_m1, nm_m3, nm_m7, nm_m15, nm_m31, nm_m63, nm_m255, nm_m511, nm_m1023, nm_m2047, nm_m65535, Nat.reduceMod, Nat.reducePow, Nat.reduceAdd, Nat.reduceSub, Nat.reduceMul, nm_bo, nm_bi, nm_rc, nm_ic, nm_ri, nm_rl, nm_rq, nm_ql, nm_qi, nm_li, nm_us, nm_uu, nm_cp, nm_sa31, nm_sa7, nm_m127, nm_m2, nm_nz, nm_nzk, nm_eq32, nm_nzf, if_true, if_false, ↓reduceIte, if_pos, if_neg]
  all_goals simp (disch := (first | assumption | decide | omega)) only [eX, lX, xU, eq_self, Nat.reduceEqDiff, Nat.reduceLeDiff, no_1, no_1024, pk_mul, nI_add, nm_ck, nI_clamp, nI_ltI, nI_leI, nI_eq, nb_b2, nb_b1, ↓nb_let, nm_z0, nm_z1, nb_II, nb_IR, nb_RI, nb_RR, nm_IL, nm_IQ, nm_RL, nm_RQ, nm_LI, nm_LR, nm_LL, nm_LQ, nm_QI, nm_QR, nm_QL, nm_QQ, nm_rr, nm_ii, nm_eqm, not_false_eq_true, pk_sub, nm_div, nm_shl, nm_shr, nm_ush, nm_or8, nm_or64, nm_or256, nm_m1, nm_m3, nm_m7, nm_m15, nm_m31, nm_m63, nm_m255, nm_m511, nm_m1023, nm_m2047, nm_m65535, Nat.reduceMod, Nat.reducePow, Nat.reduceAdd, Nat.reduceSub, Nat.reduceMul, nm_bo, nm_bi, nm_rc, nm_ic, nm_ri, nm_rl, nm_rq, nm_ql, nm_qi, nm_li, nm_us, nm_uu, nm_cp, nm_sa31, nm_sa7, nm_m127, nm_m2, nm_nz, nm_nzk, nm_eq32, nm_nzf, if_true, if_false, ↓reduceIte, if_pos, if_neg]
theorem lM_rows (M : St × St) (w u g : Nat → Int32) (fu : Int32) (p H : Nat) : (∀ k : Nat, k = 4 ∨ 7 ≤ k → sR (lM M w u g fu p H).1 k = sR M.1 k) ∧ sR (lM M w u g fu p H).1 0 = w ∧ sR (lM M w u g fu p H).1 1 = u ∧ sR (lM M w u g fu p H).1 2 = g ∧ sR (lM M w u g fu p H).1 3 = rgl (sR M.1 3) p 33 ∧ sR (lM M w u g fu p H).1 5 = fl (sR M.1 5) (p * 16) 16 (nI 0) ∧ sR (lM M w u g fu p H).1 6 = upd (upd (upd (sR M.1 6) (p * 7 + 4) (nI 0)) (p * 7 + 5) (nI H)) (p * 7 + 6) (nI H) ∧ (∀ k : Nat, ¬ k = 0 → ¬ k = 6 → sI (lM M w u g fu p H).1 k = sI M.1 k) ∧ sI (lM M w u g fu p H).1 0 = fu ∧ sI (lM M w u g fu p H).1 6 = -nI 1 ∧ (∀ k : Nat, sL (lM M w u g fu p H).1 k = sL M.1 k) ∧ sQ (lM M w u g fu p H).1 0 = vp_updL (sQ M.1 0) p (-1) ∧ (lM M w u g fu p H).2 = M.2 := by
  refine ⟨fun k hk => ?_, ?_, ?_, ?_, ?_, ?_, ?_, fun k k1 k2 => ?_, ?_, ?_, fun k => ?_, ?_, rfl⟩
  · have k0 : ¬ k = 0 := by omega
    have k1 : ¬ k = 1 := by omega
    have k2 : ¬ k = 2 := by omega
    have k3 : ¬ k = 3 := by omega
    have k5 : ¬ k = 5 := by omega
    have k6 : ¬ k = 6 := by omega
    simp (disch := (first | assumption | decide | omega)) only [lM, mU, k0, k1, k2, k3, k5, k6, eq_self, Nat.reduceEqDiff, Nat.reduceLeDiff, no_1, no_1024, pk_mul, nI_add, nm_ck, nI_clamp, nI_ltI, nI_leI, nI_eq, nb_b2, nb_b1, ↓nb_let, nm_z0, nm_z1, nb_II, nb_IR, nb_RI, nb_RR, nm_IL, nm_IQ, nm_RL, nm_RQ, nm_LI, nm_LR, nm_LL, nm_LQ, nm_QI, nm_QR, nm_QL, nm_QQ, nm_rr, nm_ii, nm_eqm, not_false_eq_true, pk_sub, nm_div, nm_shl, nm_shr, nm_ush, nm_or8, nm_or64, nm_or256, nm_m1, nm_m3, nm_m7, nm_m15, nm_m31, nm_m63, nm_m255, nm_m511, nm_m1023, nm_m2047, nm_m65535, Nat.reduceMod, Nat.reducePow, Nat.reduceAdd, Nat.reduceSub, Nat.reduceMul, nm_bo, nm_bi, nm_rc, nm_ic, nm_ri, nm_rl, nm_rq, nm_ql, nm_qi, nm_li, nm_us, nm_uu, nm_cp, nm_sa31, nm_sa7, nm_m127, nm_m2, nm_nz, nm_nzk, nm_eq32, nm_nzf, if_true, if_false, ↓reduceIte, if_pos, if_neg]
  · simp (disch := (first | assumption | decide | omega)) only [lM, mU, eq_self, Nat.reduceEqDiff, Nat.reduceLeDiff, no_1, no_1024, pk_mul, nI_add, nm_ck, nI_clamp, nI_ltI, nI_leI, nI_eq, nb_b2, nb_b1, ↓nb_let, nm_z0, nm_z1, nb_II, nb_IR, nb_RI, nb_RR, nm_IL, nm_IQ, nm_RL, nm_RQ, nm_LI, nm_LR, nm_LL, nm_LQ, nm_QI, nm_QR, nm_QL, nm_QQ, nm_rr, nm_ii, nm_eqm, not_false_eq_true, pk_sub, nm_div, nm_shl, nm_shr, nm_ush, nm_or8, nm_or64, nm_or256, nm_m1, nm_m3, nm_m7, nm_m15, nm_m31, nm_m63, nm_m255, nm_m511, nm_m1023, nm_m2047, nm_m65535, Nat.reduceMod, Nat.reducePow, Nat.reduceAdd, Nat.reduceSub, Nat.reduceMul, nm_bo, nm_bi, nm_rc, nm_ic, nm_ri, nm_rl, nm_rq, nm_ql, nm_qi, nm_li, nm_us, nm_uu, nm_cp, nm_sa31, nm_sa7, nm_m127, nm_m2, nm_nz, nm_nzk, nm_eq32, nm_nzf, if_true, if_false, ↓reduceIte, if_pos, if_neg]
  · simp (disch := (first | assumption | decide | omega)) only [lM, mU, eq_self, Nat.reduceEqDiff, Nat.reduceLeDiff, no_1, no_1024, pk_mul, nI_add, nm_ck, nI_clamp, nI_ltI, nI_leI, nI_eq, nb_b2, nb_b1, ↓nb_let, nm_z0, nm_z1, nb_II, nb_IR, nb_RI, nb_RR, nm_IL, nm_IQ, nm_RL, nm_RQ, nm_LI, nm_LR, nm_LL, nm_LQ, nm_QI, nm_QR, nm_QL, nm_QQ, nm_rr, nm_ii, nm_eqm, not_false_eq_true, pk_sub, nm_div, nm_shl, nm_shr, nm_ush, nm_or8, nm_or64, nm_or256, nm_m1, nm_m3, nm_m7, nm_m15, nm_m31, nm_m63, nm_m255, nm_m511, nm_m1023, nm_m2047, nm_m65535, Nat.reduceMod, Nat.reducePow, Nat.reduceAdd, Nat.reduceSub, Nat.reduceMul, nm_bo, nm_bi, nm_rc, nm_ic, nm_ri, nm_rl, nm_rq, nm_ql, nm_qi, nm_li, nm_us, nm_uu, nm_cp, nm_sa31, nm_sa7, nm_m127, nm_m2, nm_nz, nm_nzk, nm_eq32, nm_nzf, if_true, if_false, ↓reduceIte, if_pos, if_neg]
  · simp (disch := (first | assumption | decide | omega)) only [lM, mU, eq_self, Nat.reduceEqDiff, Nat.reduceLeDiff, no_1, no_1024, pk_mul, nI_add, nm_ck, nI_clamp, nI_ltI, nI_leI, nI_eq, nb_b2, nb_b1, ↓nb_let, nm_z0, nm_z1, nb_II, nb_IR, nb_RI, nb_RR, nm_IL, nm_IQ, nm_RL, nm_RQ, nm_LI, nm_LR, nm_LL, nm_LQ, nm_QI, nm_QR, nm_QL, nm_QQ, nm_rr, nm_ii, nm_eqm, not_false_eq_true, pk_sub, nm_div, nm_shl, nm_shr, nm_ush, nm_or8, nm_or64, nm_or256, nm_m1, nm_m3, nm_m7, nm_m15, nm_m31, nm_m63, nm_m255, nm_m511, nm_m1023, nm_m2047, nm_m65535, Nat.reduceMod, Nat.reducePow, Nat.reduceAdd, Nat.reduceSub, Nat.reduceMul, nm_bo, nm_bi, nm_rc, nm_ic, nm_ri, nm_rl, nm_rq, nm_ql, nm_qi, nm_li, nm_us, nm_uu, nm_cp, nm_sa31, nm_sa7, nm_m127, nm_m2, nm_nz, nm_nzk, nm_eq32, nm_nzf, if_true, if_false, ↓reduceIte, if_pos, if_neg]
  · simp (disch := (first | assumption | decide | omega)) only [lM, mU, eq_self, Nat.reduceEqDiff, Nat.reduceLeDiff, no_1, no_1024, pk_mul, nI_add, nm_ck, nI_clamp, nI_ltI, nI_leI, nI_eq, nb_b2, nb_b1, ↓nb_let, nm_z0, nm_z1, nb_II, nb_IR, nb_RI, nb_RR, nm_IL, nm_IQ, nm_RL, nm_RQ, nm_LI, nm_LR, nm_LL, nm_LQ, nm_QI, nm_QR, nm_QL, nm_QQ, nm_rr, nm_ii, nm_eqm, not_false_eq_true, pk_sub, nm_div, nm_shl, nm_shr, nm_ush, nm_or8, nm_or64, nm_or256, nm_m1, nm_m3, nm_m7, nm_m15, nm_m31, nm_m63, nm_m255, nm_m511, nm_m1023, nm_m2047, nm_m65535, Nat.reduceMod, Nat.reducePow, Nat.reduceAdd, Nat.reduceSub, Nat.reduceMul, nm_bo, nm_bi, nm_rc, nm_ic, nm_ri, nm_rl, nm_rq, nm_ql, nm_qi, nm_li, nm_us, nm_uu, nm_cp, nm_sa31, nm_sa7, nm_m127, nm_m2, nm_nz, nm_nzk, nm_eq32, nm_nzf, if_true, if_false, ↓reduceIte, if_pos, if_neg]
  · simp (disch := (first | assumption | decide | omega)) only [lM, mU, eq_self, Nat.reduceEqDiff, Nat.reduceLeDiff, no_1, no_1024, pk_mul, nI_add, nm_ck, nI_clamp, nI_ltI, nI_leI, nI_eq, nb_b2, nb_b1, ↓nb_let, nm_z0, nm_z1, nb_II, nb_IR, nb_RI, nb_RR, nm_IL, nm_IQ, nm_RL, nm_RQ, nm_LI, nm_LR, nm_LL, nm_LQ, nm_QI, nm_QR, nm_QL, nm_QQ, nm_rr, nm_ii, nm_eqm, not_false_eq_true, pk_sub, nm_div, nm_shl, nm_shr, nm_ush, nm_or8, nm_or64, nm_or256, nm_m1, nm_m3, nm_m7, nm_m15, nm_m31, nm_m63, nm_m255, nm_m511, nm_m1023, nm_m2047, nm_m65535, Nat.reduceMod, Nat.reducePow, Nat.reduceAdd, Nat.reduceSub, Nat.reduceMul, nm_bo, nm_bi, nm_rc, nm_ic, nm_ri, nm_rl, nm_rq, nm_ql, nm_qi, nm_li, nm_us, nm_uu, nm_cp, nm_sa31, nm_sa7, nm_m127, nm_m2, nm_nz, nm_nzk, nm_eq32, nm_nzf, if_true, if_false, ↓reduceIte, if_pos, if_neg]
  · simp (disch := (first | assumption | decide | omega)) only [lM, mU, eq_self, Nat.reduceEqDiff, Nat.reduceLeDiff, no_1, no_1024, pk_mul, nI_add, nm_ck, nI_clamp, nI_ltI, nI_leI, nI_eq, nb_b2, nb_b1, ↓nb_let, nm_z0, nm_z1, nb_II, nb_IR, nb_RI, nb_RR, nm_IL, nm_IQ, nm_RL, nm_RQ, nm_LI, nm_LR, nm_LL, nm_LQ, nm_QI, nm_QR, nm_QL, nm_QQ, nm_rr, nm_ii, nm_eqm, not_false_eq_true, pk_sub, nm_div, nm_shl, nm_shr, nm_ush, nm_or8, nm_or64, nm_or256, nm_m1, nm_m3, nm_m7, nm_m15, nm_m31, nm_m63, nm_m255, nm_m511, nm_m1023, nm_m2047, nm_m65535, Nat.reduceMod, Nat.reducePow, Nat.reduceAdd, Nat.reduceSub, Nat.reduceMul, nm_bo, nm_bi, nm_rc, nm_ic, nm_ri, nm_rl, nm_rq, nm_ql, nm_qi, nm_li, nm_us, nm_uu, nm_cp, nm_sa31, nm_sa7, nm_m127, nm_m2, nm_nz, nm_nzk, nm_eq32, nm_nzf, if_true, if_false, ↓reduceIte, if_pos, if_neg]
  · simp (disch := (first | assumption | decide | omega)) only [lM, mU, k1, k2, eq_self, Nat.reduceEqDiff, Nat.reduceLeDiff, no_1, no_1024, pk_mul, nI_add, nm_ck, nI_clamp, nI_ltI, nI_leI, nI_eq, nb_b2, nb_b1, ↓nb_let, nm_z0, nm_z1, nb_II, nb_IR, nb_RI, nb_RR, nm_IL, nm_IQ, nm_RL, nm_RQ, nm_LI, nm_LR, nm_LL, nm_LQ, nm_QI, nm_QR, nm_QL, nm_QQ, nm_rr, nm_ii, nm_eqm, not_false_eq_true, pk_sub, nm_div, nm_shl, nm_shr, nm_ush, nm_or8, nm_or64, nm_or256, nm_m1, nm_m3, nm_m7, nm_m15, nm_m31, nm_m63, nm_m255, nm_m511, nm_m1023, nm_m2047, nm_m65535, Nat.reduceMod, Nat.reducePow, Nat.reduceAdd, Nat.reduceSub, Nat.reduceMul, nm_bo, nm_bi, nm_rc, nm_ic, nm_ri, nm_rl, nm_rq, nm_ql, nm_qi, nm_li, nm_us, nm_uu, nm_cp, nm_sa31, nm_sa7, nm_m127, nm_m2, nm_nz, nm_nzk, nm_eq32, nm_nzf, if_true, if_false, ↓reduceIte, if_pos, if_neg]
  · simp (disch := (first | assumption | decide | omega)) only [lM, mU, eq_self, Nat.reduceEqDiff, Nat.reduceLeDiff, no_1, no_1024, pk_mul, nI_add, nm_ck, nI_clamp, nI_ltI, nI_leI, nI_eq, nb_b2, nb_b1, ↓nb_let, nm_z0, nm_z1, nb_II, nb_IR, nb_RI, nb_RR, nm_IL, nm_IQ, nm_RL, nm_RQ, nm_LI, nm_LR, nm_LL, nm_LQ, nm_QI, nm_QR, nm_QL, nm_QQ, nm_rr, nm_ii, nm_eqm, not_false_eq_true, pk_sub, nm_div, nm_shl, nm_shr, nm_ush, nm_or8, nm_or64, nm_or256, nm_m1, nm_m3, nm_m7, nm_m15, nm_m31, nm_m63, nm_m255, nm_m511, nm_m1023, nm_m2047, nm_m65535, Nat.reduceMod, Nat.reducePow, Nat.reduceAdd, Nat.reduceSub, Nat.reduceMul, nm_bo, nm_bi, nm_rc, nm_ic, nm_ri, nm_rl, nm_rq, nm_ql, nm_qi, nm_li, nm_us, nm_uu, nm_cp, nm_sa31, nm_sa7, nm_m127, nm_m2, nm_nz, nm_nzk, nm_eq32, nm_nzf, if_true, if_false, ↓reduceIte, if_pos, if_neg]
  · simp (disch := (first | assumption | decide | omega)) only [lM, mU, eq_self, Nat.reduceEqDiff, Nat.reduceLeDiff, no_1, no_1024, pk_mul, nI_add, nm_ck, nI_clamp, nI_ltI, nI_leI, nI_eq, nb_b2, nb_b1, ↓nb_let, nm_z0, nm_z1, nb_II, nb_IR, nb_RI, nb_RR, nm_IL, nm_IQ, nm_RL, nm_RQ, nm_LI, nm_LR, nm_LL, nm_LQ, nm_QI, nm_QR, nm_QL, nm_QQ, nm_rr, nm_ii, nm_eqm, not_false_eq_true, pk_sub, nm_div, nm_shl, nm_shr, nm_ush, nm_or8, nm_or64, nm_or256, nm_m1, nm_m3, nm_m7, nm_m15, nm_m31, nm_m63, nm_m255, nm_m511, nm_m1023, nm_m2047, nm_m65535, Nat.reduceMod, Nat.reducePow, Nat.reduceAdd, Nat.reduceSub, Nat.reduceMul, nm_bo, nm_bi, nm_rc, nm_ic, nm_ri, nm_rl, nm_rq, nm_ql, nm_qi, nm_li, nm_us, nm_uu, nm_cp, nm_sa31, nm_sa7, nm_m127, nm_m2, nm_nz, nm_nzk, nm_eq32, nm_nzf, if_true, if_false, ↓reduceIte, if_pos, if_neg]
  · simp (disch := (first | assumption | decide | omega)) only [lM, mU, eq_self, Nat.reduceEqDiff, Nat.reduceLeDiff, no_1, no_1024, pk_mul, nI_add, nm_ck, nI_clamp, nI_ltI, nI_leI, nI_eq, nb_b2, nb_b1, ↓nb_let, nm_z0, nm_z1, nb_II, nb_IR, nb_RI, nb_RR, nm_IL, nm_IQ, nm_RL, nm_RQ, nm_LI, nm_LR, nm_LL, nm_LQ, nm_QI, nm_QR, nm_QL, nm_QQ, nm_rr, nm_ii, nm_eqm, not_false_eq_true, pk_sub, nm_div, nm_shl, nm_shr, nm_ush, nm_or8, nm_or64, nm_or256, nm_m1, nm_m3, nm_m7, nm_m15, nm_m31, nm_m63, nm_m255, nm_m511, nm_m1023, nm_m2047, nm_m65535, Nat.reduceMod, Nat.reducePow, Nat.reduceAdd, Nat.reduceSub, Nat.reduceMul, nm_bo, nm_bi, nm_rc, nm_ic, nm_ri, nm_rl, nm_rq, nm_ql, nm_qi, nm_li, nm_us, nm_uu, nm_cp, nm_sa31, nm_sa7, nm_m127, nm_m2, nm_nz, nm_nzk, nm_eq32, nm_nzf, if_true, if_false, ↓reduceIte, if_pos, if_neg]
  · simp (disch := (first | assumption | decide | omega)) only [lM, mU, eq_self, Nat.reduceEqDiff, Nat.reduceLeDiff, no_1, no_1024, pk_mul, nI_add, nm_ck, nI_clamp, nI_ltI, nI_leI, nI_eq, nb_b2, nb_b1, ↓nb_let, nm_z0, nm_z1, nb_II, nb_IR, nb_RI, nb_RR, nm_IL, nm_IQ, nm_RL, nm_RQ, nm_LI, nm_LR, nm_LL, nm_LQ, nm_QI, nm_QR, nm_QL, nm_QQ, nm_rr, nm_ii, nm_eqm, not_false_eq_true, pk_sub, nm_div, nm_shl, nm_shr, nm_ush, nm_or8, nm_or64, nm_or256, nm_m1, nm_m3, nm_m7, nm_m15, nm_m31, nm_m63, nm_m255, nm_m511, nm_m1023, nm_m2047, nm_m65535, Nat.reduceMod, Nat.reducePow, Nat.reduceAdd, Nat.reduceSub, Nat.reduceMul, nm_bo, nm_bi, nm_rc, nm_ic, nm_ri, nm_rl, nm_rq, nm_ql, nm_qi, nm_li, nm_us, nm_uu, nm_cp, nm_sa31, nm_sa7, nm_m127, nm_m2, nm_nz, nm_nzk, nm_eq32, nm_nzf, if_true, if_false, ↓reduceIte, if_pos, if_neg]
/-- a program is loaded into a running one -/
theorem rM_load {B : Nat} {M X : St × St} (h : rM B M X) {p : Nat} (hp : p < 16) (h1 : sR X.1 1 p = nI 1) {H : Nat} (hH : H ≤ 61440) {w u g b fr ri ho : Nat → Int32} {fu us : Int32} (hr : rQ w u g b fr ri ho fu us) (hfr : ∀ i : Nat, i < 64 * p ∨ 64 * p + 64 ≤ i → fr i = sR X.1 16 i) (hh : ∀ k : Nat, k < 60 → H ≤ k * 1024 → fr (64 * p + k) = -nI 1) : rM B (lM M w u g fu p H) (eX (lX X b fr ri ho us p H) p) := by
  obtain ⟨m1, m2, m3, m4, m5, m6, m7⟩ := h
  obtain ⟨c1, c2, c3, c4, c5, c6, c7, c8, c9, c10, c11⟩ := lX_rows X b fr ri ho us p H
  obtain ⟨d1, d2, d3, d4, d5, d6, d7⟩ := lX_ints X b fr ri ho us p H
  obtain ⟨f1, f2, f3, f4, f5, f6, f7, f8, f9, f10, f11, f12, f13⟩ := lM_rows M w u g fu p H
  generalize eX (lX X b fr ri ho us p H) p = X' at c1 c2 c3 c4 c5 c6 c7 c8 c9 c10 c11 d1 d2 d3 d4 d5 d6 d7
  generalize lM M w u g fu p H = M' at f1 f2 f3 f4 f5 f6 f7 f8 f9 f10 f11 f12 f13
  have r1 := c1 1 (by omega)
  have r2 := c1 2 (by omega)
  have r3 := c1 3 (by omega)
  have r4 := c1 4 (by omega)
  have r7 := c1 7 (by omega)
  have r11 := c1 11 (by omega)
  have r12 := c1 12 (by omega)
  have r14 := c1 14 (by omega)
  refine ⟨?_, ?_, rP_all m3 (p := p) ?_ (fun r hne => ⟨⟨fun i hi => ?_, fun i hi => ?_, fun i hi => ?_, fun i hi => ?_, ?_⟩, ⟨⟨?_, ?_, ?_, ?_, ?_, ?_, ?_, ?_⟩, fun i hi => ?_, ?_, fun i hi => ?_, ?_, fun i hi => ?_, fun i hi => ?_, fun i hi => ?_, ?_⟩⟩), ?_, ?_, ?_, ?_⟩
  · unfold rK
    rw [f2, f3, f4, c8, c9, c10, c11, f9, d3]
    exact hr
  · unfold rDD
    rw [f13, r14, c1 19 (by omega), c1 20 (by omega), c1 21 (by omega), c1 22 (by omega), c1 23 (by omega), c1 24 (by omega), c1 25 (by omega)]
    exact m2
  · obtain ⟨t, c', w0, b', e, ht, hc', hw, hb, he, a1, a2, a3, a4, a5, a6, a7, a8, a9, a10, a11, a12, a13, a14, a15, a16, a17, a18, a19, a20, a21⟩ := m3 p hp
    have t1 : t = 1 := nm_inI (by omega) (by omega) (a2.symm.trans h1)
    refine ⟨t, c', 0, H, H, ht, hc', by omega, hH, hH, ?_, ?_, ?_, ?_, ?_, fun z => by omega, fun z => ?_, ?_, ?_, ?_, ?_, ?_, ?_, ?_, ?_, fun k hk y => ?_, fun z => ⟨fun r hr => ?_, ?_⟩, fun z => ⟨fun k hk => ?_, ?_, fun y => by omega⟩, fun z => by omega, fun z => by omega, fun z => ?_⟩
    · rw [f7, nm_un (by omega), nm_un (by omega), nm_un (by omega)]; exact a1
    · rw [r1]; exact a2
    · rw [f7, nm_un (by omega), nm_un (by omega), nm_un (by omega), r2]; exact a3
    · rw [r2]; exact a4
    · rw [r2]; exact a5
    · rw [f7, nm_un (by omega), nm_un (by omega), nm_un (by omega)]; exact a7 z
    · rw [f7, nm_un (by omega), nm_un (by omega), nm_un (by omega)]; exact a8
    · rw [r4]; exact a9
    · rw [f7, nm_un (by omega), nm_un (by omega), nm_us]
    · rw [c4, nm_us]
    · rw [f7, nm_un (by omega), nm_us]
    · rw [c2, nm_us]
    · rw [f7, nm_us]
    · rw [c3, nm_us]
    · rw [c9]; exact hh k hk y
    · rw [f5, c5, rgl_i _ (by omega)]
      by_cases c : r = 2
      · rw [if_pos c, c, nm_us]
      · rw [if_neg c, nm_un (by omega), fl_i (by omega)]
    · rw [f5, c6, rgl_i _ (by omega), if_neg (by omega), nm_us]
    · rw [f6, c7, fl_i (by omega), fl_i (by omega)]
    · rw [f12, d6]; exact (if_pos rfl).trans (if_pos rfl).symm
    · rw [r7]; exact a21 z
  · rw [f7, nm_un (by omega), nm_un (by omega), nm_un (by omega)]
  · rw [f5, rgl_o _ (by omega)]
  · rw [f1 4 (by omega)]
  · rw [f6, fl_o (by omega)]
  · rw [f12]; exact up_o hne
  · rw [r1]
  · rw [r2]
  · rw [r3]
  · rw [r4]
  · rw [c2, nm_un hne]
  · rw [c3, nm_un hne]
  · rw [r7]
  · rw [c4, nm_un hne]
  · rw [c5, nm_un (by omega), fl_o (by omega)]
  · rw [c6, nm_un hne]
  · rw [r11]
  · rw [r12]
  · rw [c7, fl_o (by omega)]
  · rw [r14]
  · rw [c9, hfr _ (by omega)]
  · rw [d6]; exact up_o hne
  · rw [f8 2 (by omega) (by omega), r1]; exact m4
  · obtain ⟨g1, g2, g3, g4, g5, g6, g7, g8, g9, g10, g11⟩ := m5
    unfold rG
    rw [f8 3 (by omega) (by omega), f8 4 (by omega) (by omega), f8 5 (by omega) (by omega), f10, d1 1 (by omega) (by omega) (by omega), d1 2 (by omega) (by omega) (by omega), d1 3 (by omega) (by omega) (by omega), d2, f11, f11, d5, d5]
    exact ⟨g1, g2, g3, g4, g5, g6, g7, rfl, Or.inl rfl, g10, g11⟩
  · unfold rA
    rw [f8 1 (by omega) (by omega), d1 5 (by omega) (by omega) (by omega), f1 7 (by omega), c1 0 (by omega), f13]
    exact m6
  · unfold rTT
    rw [f13, c1 23 (by omega), c1 24 (by omega), c1 25 (by omega), c1 26 (by omega), c1 27 (by omega), c1 28 (by omega), c1 29 (by omega), c1 30 (by omega), c1 31 (by omega), c1 32 (by omega), d1 7 (by omega) (by omega) (by omega), d5]
    exact m7
