/-- the kernel's call 'exit' -/
theorem nq_exit (n : Nat) (hn : 1024 < n) {B p : Nat} {K : St × (St × (St × St))} {X : St × St} (h : cP B p K X) (a : Int32) : cO B p K X (nd_b1 (df_X6_finish n (nI p) (a &&& nI 255) K.2.2) (fun s => some (2199023255552, (K.1, (K.2.1, s))))) (nd_b1 (df_X16_end n (nI p) (a &&& nI 255) X) (fun s => df_X16_tell n (nI 2) s)) := by
  obtain ⟨h1, h2, h3, h4, h5, h6, h7⟩ := h
  obtain ⟨A, hA, rfl⟩ := nI_ex a
  rw [nm_m255 hA]
  obtain ⟨M', X', e1, e2, e3, ⟨k1, k2, k3, k4, k5, k6, k7⟩, e5⟩ := nk_finish n hn h1 h2 (c := A % 256) (by omega) h5
  have et : df_X16_tell n (nI 2) X' = some (nI 0, (pI X'.1 13 (nI 2), X'.2)) := by simp (disch := (first | assumption | decide | omega)) only [df_X16_tell_0, df_X16_tell, eq_self, Nat.reduceEqDiff, Nat.reduceLeDiff, nl_0, nl_13, no_1, no_1024, pk_mul, nI_add, nm_ck, nI_clamp, nI_ltI, nI_leI, nI_eq, nb_b2, nb_b1, ↓nb_let, nm_z0, nm_z1, nb_II, nb_IR, nb_RI, nb_RR, nm_IL, nm_IQ, nm_RL, nm_RQ, nm_LI, nm_LR, nm_LL, nm_LQ, nm_QI, nm_QR, nm_QL, nm_QQ, nm_rr, nm_ii, nm_eqm, not_false_eq_true, pk_sub, nm_div, nm_shl, nm_shr, nm_ush, nm_or8, nm_or64, nm_or256, nm_m1, nm_m3, nm_m7, nm_m15, nm_m31, nm_m63, nm_m255, nm_m511, nm_m1023, nm_m2047, nm_m65535, Nat.reduceMod, Nat.reducePow, Nat.reduceAdd, Nat.reduceSub, Nat.reduceMul, nm_bo, nm_bi, nm_rc, nm_ic, nm_ri, nm_rl, nm_rq, nm_ql, nm_qi, nm_li, nm_us, nm_uu, nm_cp, nm_sa31, nm_sa7, nm_m127, nm_m2, nm_nz, nm_nzk, nm_eq32, nm_nzf, if_true, if_false, ↓reduceIte, if_pos, if_neg]
  rw [e1, nb_b1, e2, nb_b1, et]
  exact ⟨_, _, K.1, M', _, rfl, rfl, e3, fun _ => rfl, Or.inr (Or.inr (Or.inl ⟨rfl, rfl⟩)), ⟨k1, k2, k3, k5, k6⟩, Or.inl ⟨Eq.trans e5 h6, k7.trans h7⟩, fun z => absurd rfl z, fun z => absurd (show nI 2 = nI 1 from z) (by decide)⟩
/-- the kernel's call 'random' -/
theorem nq_random (n : Nat) (hn : 1024 < n) {B p : Nat} {K : St × (St × (St × St))} {X : St × St} (h : cP B p K X) (h17 : sR X.1 9 (32 * p + 17) = nI 21) : cO B p K X (nd_b2 (df_X5_mustWait n (nI p) K) (fun q s => if q = nI 0 then nd_b2 (df_X6_takeRandom n s.2.2) (fun v m => some (v.toInt64, (s.1, (s.2.1, m)))) else some (1099511627776, s))) (df_X16_random n X) := by
  obtain ⟨h1, h2, h3, h4, h5, h6, h7⟩ := id h
  obtain ⟨m1, m2, m3, m4, m5, m6, m7⟩ := h1
  obtain ⟨t, c', w, b, e, ht, hc', hw, hb, he, a1, a2, a3, a4, a5, a6, a7, a8, a9, a10, a11, a12, a13, a14, a15, a16, a17, _⟩ := m3 p h2
  have t1 : t = 1 := nm_inI (by omega) (by omega) (a2.symm.trans h5)
  obtain ⟨r1, _⟩ := a17 (by omega)
  have r10 := r1 10 (by omega)
  have r12 := r1 12 (by omega)
  have r17 := (r1 17 (by omega)).trans h17
  have u1 : p * 33 + 10 < 528 := by omega
  have u2 : p * 33 + 12 < 528 := by omega
  have u3 : p * 33 + 17 < 528 := by omega
  have g10 : df_X5_argument n (nI p) (nI 10) K = some (sR X.1 9 (32 * p + 10), K) := by simp (disch := (first | assumption | decide | omega)) only [df_X5_argument_0, df_X5_argument, r10, eq_self, Nat.reduceEqDiff, Nat.reduceLeDiff, nl_3, nl_33, nl_528, no_1, no_1024, pk_mul, nI_add, nm_ck, nI_clamp, nI_ltI, nI_leI, nI_eq, nb_b2, nb_b1, ↓nb_let, nm_z0, nm_z1, nb_II, nb_IR, nb_RI, nb_RR, nm_IL, nm_IQ, nm_RL, nm_RQ, nm_LI, nm_LR, nm_LL, nm_LQ, nm_QI, nm_QR, nm_QL, nm_QQ, nm_rr, nm_ii, nm_eqm, not_false_eq_true, pk_sub, nm_div, nm_shl, nm_shr, nm_ush, nm_or8, nm_or64, nm_or256, nm_m1, nm_m3, nm_m7, nm_m15, nm_m31, nm_m63, nm_m255, nm_m511, nm_m1023, nm_m2047, nm_m65535, Nat.reduceMod, Nat.reducePow, Nat.reduceAdd, Nat.reduceSub, Nat.reduceMul, nm_bo, nm_bi, nm_rc, nm_ic, nm_ri, nm_rl, nm_rq, nm_ql, nm_qi, nm_li, nm_us, nm_uu, nm_cp, nm_sa31, nm_sa7, nm_m127, nm_m2, nm_nz, nm_nzk, nm_eq32, nm_nzf, if_true, if_false, ↓reduceIte, if_pos, if_neg]
  have g12 : df_X5_argument n (nI p) (nI 12) K = some (sR X.1 9 (32 * p + 12), K) := by simp (disch := (first | assumption | decide | omega)) only [df_X5_argument_0, df_X5_argument, r12, eq_self, Nat.reduceEqDiff, Nat.reduceLeDiff, nl_3, nl_33, nl_528, no_1, no_1024, pk_mul, nI_add, nm_ck, nI_clamp, nI_ltI, nI_leI, nI_eq, nb_b2, nb_b1, ↓nb_let, nm_z0, nm_z1, nb_II, nb_IR, nb_RI, nb_RR, nm_IL, nm_IQ, nm_RL, nm_RQ, nm_LI, nm_LR, nm_LL, nm_LQ, nm_QI, nm_QR, nm_QL, nm_QQ, nm_rr, nm_ii, nm_eqm, not_false_eq_true, pk_sub, nm_div, nm_shl, nm_shr, nm_ush, nm_or8, nm_or64, nm_or256, nm_m1, nm_m3, nm_m7, nm_m15, nm_m31, nm_m63, nm_m255, nm_m511, nm_m1023, nm_m2047, nm_m65535, Nat.reduceMod, Nat.reducePow, Nat.reduceAdd, Nat.reduceSub, Nat.reduceMul, nm_bo, nm_bi, nm_rc, nm_ic, nm_ri, nm_rl, nm_rq, nm_ql, nm_qi, nm_li, nm_us, nm_uu, nm_cp, nm_sa31, nm_sa7, nm_m127, nm_m2, nm_nz, nm_nzk, nm_eq32, nm_nzf, if_true, if_false, ↓reduceIte, if_pos, if_neg]
  have g17 : df_X5_argument n (nI p) (nI 17) K = some (nI 21, K) := by simp (disch := (first | assumption | decide | omega)) only [df_X5_argument_0, df_X5_argument, r17, eq_self, Nat.reduceEqDiff, Nat.reduceLeDiff, nl_3, nl_33, nl_528, no_1, no_1024, pk_mul, nI_add, nm_ck, nI_clamp, nI_ltI, nI_leI, nI_eq, nb_b2, nb_b1, ↓nb_let, nm_z0, nm_z1, nb_II, nb_IR, nb_RI, nb_RR, nm_IL, nm_IQ, nm_RL, nm_RQ, nm_LI, nm_LR, nm_LL, nm_LQ, nm_QI, nm_QR, nm_QL, nm_QQ, nm_rr, nm_ii, nm_eqm, not_false_eq_true, pk_sub, nm_div, nm_shl, nm_shr, nm_ush, nm_or8, nm_or64, nm_or256, nm_m1, nm_m3, nm_m7, nm_m15, nm_m31, nm_m63, nm_m255, nm_m511, nm_m1023, nm_m2047, nm_m65535, Nat.reduceMod, Nat.reducePow, Nat.reduceAdd, Nat.reduceSub, Nat.reduceMul, nm_bo, nm_bi, nm_rc, nm_ic, nm_ri, nm_rl, nm_rq, nm_ql, nm_qi, nm_li, nm_us, nm_uu, nm_cp, nm_sa31, nm_sa7, nm_m127, nm_m2, nm_nz, nm_nzk, nm_eq32, nm_nzf, if_true, if_false, ↓reduceIte, if_pos, if_neg]
  obtain ⟨⟨k, hk, x1, x2, x3⟩, my⟩ := id m6
  rw [mw_21C n h2 hk g10 g12 g17 x1, nb_b2]
  by_cases k0 : k = 0
  · subst k0
    rw [decide_eq_true rfl, bI_t, if_neg (by decide)]
    have e2 : df_X16_random n X = some (nI 0, (pI X.1 13 (nI 1), X.2)) := by
      simp (disch := (first | assumption | decide | omega)) only [df_X16_random, df_X16_random_0, df_X16_tell_0, df_X16_tell, x2, eq_self, Nat.reduceEqDiff, Nat.reduceLeDiff, nl_0, nl_1, nl_5, nl_13, no_1, no_1024, pk_mul, nI_add, nm_ck, nI_clamp, nI_ltI, nI_leI, nI_eq, nb_b2, nb_b1, ↓nb_let, nm_z0, nm_z1, nb_II, nb_IR, nb_RI, nb_RR, nm_IL, nm_IQ, nm_RL, nm_RQ, nm_LI, nm_LR, nm_LL, nm_LQ, nm_QI, nm_QR, nm_QL, nm_QQ, nm_rr, nm_ii, nm_eqm, not_false_eq_true, pk_sub, nm_div, nm_shl, nm_shr, nm_ush, nm_or8, nm_or64, nm_or256, nm_m1, nm_m3, nm_m7, nm_m15, nm_m31, nm_m63, nm_m255, nm_m511, nm_m1023, nm_m2047, nm_m65535, Nat.reduceMod, Nat.reducePow, Nat.reduceAdd, Nat.reduceSub, Nat.reduceMul, nm_bo, nm_bi, nm_rc, nm_ic, nm_ri, nm_rl, nm_rq, nm_ql, nm_qi, nm_li, nm_us, nm_uu, nm_cp, nm_sa31, nm_sa7, nm_m127, nm_m2, nm_nz, nm_nzk, nm_eq32, nm_nzf, if_true, if_false, ↓reduceIte, if_pos, if_neg]
    rw [e2]
    exact cO_w h (Or.inr (Or.inr (Or.inr h17)))
  · rw [decide_eq_false k0, bI_f, if_pos rfl, nk_randomC n (by omega) hk x1, nb_b2, nk_randomR n hn (by omega) hk x2, x3 0 (by omega)]
    refine ⟨_, _, K.1, _, _, rfl, rfl, ⟨m1, m2, m3, m4, m5, ⟨⟨k - 1, by omega, rfl, rfl, fun i hi => ?_⟩, my⟩, m7⟩, fun _ => rfl, Or.inl ⟨h4, rfl⟩, ⟨rfl, rfl, rfl, rfl, rfl⟩, Or.inl ⟨h6, h7⟩, fun _ => h5, fun z => absurd (h4.symm.trans z) (by decide)⟩
    show va_cpy (sR K.2.2.1 7) (sR K.2.2.1 7) 1 0 15 i = shk (sR X.1 0) (k - 1) i
    rw [va_i (by omega), show shk (sR X.1 0) (k - 1) i = sR X.1 0 (i + 1) from if_pos hi, show 1 + (i - 0) = i + 1 by omega]
    exact x3 (i + 1) (by omega)
/-- 'yield': who comes next -/
theorem nq_next (n : Nat) (hn : 1024 < n) {B p : Nat} {M X : St × St} (h : rM B M X) (hp : p < 16) (h1 : sR X.1 1 p = nI 1) (el : sI X.1 2 = nI p) : ∃ (q : Nat), q < 16 ∧ df_X6_nextReady n (nI p) M = some (nI q, M) ∧ df_X6_makeCurrent n (nI q) M = some (pI (pI M.1 3 (nI q)) 4 (nI q), M.2) ∧ df_X16_turn n X = some (pI (pI X.1 1 (nI q)) 2 (nI q), X.2) ∧ rM B (pI (pI M.1 3 (nI q)) 4 (nI q), M.2) (pI (pI X.1 1 (nI q)) 2 (nI q), X.2) := by
  have hst := rM_st h
  have nx := nk_next n hn hst hp
  have tu := nk_turn n hn (X := X) (fun q hq => by obtain ⟨t, h1, _, h3⟩ := hst q hq; exact ⟨t, h1, h3⟩) hp el
  have f17 : nr (sR X.1 1) p < 17 := by
    by_cases c : nr (sR X.1 1) p < 17
    · exact c
    · exfalso
      unfold nr at c
      obtain ⟨x1, x2, x3, x4⟩ := fN_le (fun k => decide (sR X.1 1 ((p + k) % 16) = nI 1)) 16 1
      have := of_decide_eq_false (x4 16 (by omega) (by omega))
      rw [show (p + 16) % 16 = p by omega] at this
      exact this h1
  rw [if_pos f17] at nx
  rw [if_pos f17, if_pos f17] at tu
  have q16 : (p + nr (sR X.1 1) p) % 16 < 16 := by omega
  generalize (p + nr (sR X.1 1) p) % 16 = q at nx tu q16
  have u1 : ¬ q < 0 := by omega
  have u2 : q < 2 ^ 31 := by omega
  exact ⟨q, q16, nx, by simp (disch := (first | assumption | decide | omega)) only [df_X6_makeCurrent_14, df_X6_makeCurrent_0, df_X6_makeCurrent, u1, eq_self, Nat.reduceEqDiff, Nat.reduceLeDiff, nl_0, nl_3, nl_4, no_1, no_1024, pk_mul, nI_add, nm_ck, nI_clamp, nI_ltI, nI_leI, nI_eq, nb_b2, nb_b1, ↓nb_let, nm_z0, nm_z1, nb_II, nb_IR, nb_RI, nb_RR, nm_IL, nm_IQ, nm_RL, nm_RQ, nm_LI, nm_LR, nm_LL, nm_LQ, nm_QI, nm_QR, nm_QL, nm_QQ, nm_rr, nm_ii, nm_eqm, not_false_eq_true, pk_sub, nm_div, nm_shl, nm_shr, nm_ush, nm_or8, nm_or64, nm_or256, nm_m1, nm_m3, nm_m7, nm_m15, nm_m31, nm_m63, nm_m255, nm_m511, nm_m1023, nm_m2047, nm_m65535, Nat.reduceMod, Nat.reducePow, Nat.reduceAdd, Nat.reduceSub, Nat.reduceMul, nm_bo, nm_bi, nm_rc, nm_ic, nm_ri, nm_rl, nm_rq, nm_ql, nm_qi, nm_li, nm_us, nm_uu, nm_cp, nm_sa31, nm_sa7, nm_m127, nm_m2, nm_nz, nm_nzk, nm_eq32, nm_nzf, if_true, if_false, ↓reduceIte, if_pos, if_neg], tu, rM_cur h (Or.inr ⟨q, q16, rfl⟩) ⟨q, q16, rfl⟩ (Or.inr rfl)⟩
