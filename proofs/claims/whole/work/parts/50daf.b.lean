/-- the kernel's call 'exit' -/
theorem nq_exit (n : Nat) (hn : 1024 < n) {B p : Nat} {K : St × (St × (St × St))} {X : St × St} (h : cP B p K X) (a : Int32) : cO B p K X (nd_b1 (df_X6_finish n (nI p) (a &&& nI 255) K.2.2) (fun s => some (2199023255552, (K.1, (K.2.1, s))))) (nd_b1 (df_X16_end n (nI p) (a &&& nI 255) X) (fun s => df_X16_tell n (nI 2) s)) := by
  obtain ⟨h1, h2, h3, h4, h5, h6, h7⟩ := h
  obtain ⟨A, hA, rfl⟩ := nI_ex a
  rw [nm_m255 hA]
  obtain ⟨M', X', e1, e2, e3, ⟨k1, k2, k3, k4, k5, k6, k7⟩, e5⟩ := nk_finish n hn h1 h2 (c := A % 256) (by omega) h5
  have et : df_X16_tell n (nI 2) X' = some (nI 0, (pI X'.1 13 (nI 2), X'.2)) := by simp (disch := (first | assumption | decide | omega)) only [df_X16_tell_0, df_X16_tell, eq_self, Nat.reduceEqDiff, Nat.reduceLeDiff, nl_0, nl_13, no_1, no_1024, pk_mul, nI_add, nm_ck, nI_clamp, nI_ltI, nI_leI, nI_eq, nb_b2, nb_b1, ↓nb_let, nm_z0, nm_z1, nb_II, nb_IR, nb_RI, nb_RR, nm_IL, nm_IQ, nm_RL, nm_RQ, nm_LI, nm_LR, nm_LL, nm_LQ, nm_QI, nm_QR, nm_QL, nm_QQ, nm_rr, nm_ii, nm_eqm, not_false_eq_true, pk_sub, nm_div, nm_shl, nm_shr, nm_ush, nm_or8, nm_or64, nm_or256, nm_m1, nm_m3, nm_m7, nm_m15, nm_m31, nm_m63, nm_m255, nm_m511, nm_m1023, nm_m2047, nm_m65535, Nat.reduceMod, Nat.reducePow, Nat.reduceAdd, Nat.reduceSub, Nat.reduceMul, nm_bo, nm_bi, nm_rc, nm_ic, nm_ri, nm_rl, nm_rq, nm_ql, nm_qi, nm_li, nm_us, nm_uu, nm_cp, nm_sa31, nm_sa7, nm_m127, nm_m2, nm_nz, nm_nzk, nm_eq32, nm_nzf, if_true, if_false, ↓reduceIte, if_pos, if_neg]
  rw [e1, nb_b1, e2, nb_b1, et]
  exact ⟨_, _, K.1, M', _, rfl, rfl, e3, fun _ => rfl, Or.inr (Or.inr (Or.inl ⟨rfl, rfl⟩)), ⟨k1, k2, k3, k5, k6⟩, Or.inl ⟨Eq.trans e5 h6, k7.trans h7⟩, fun z => absurd rfl z, fun z => absurd (show nI 2 = nI 1 from z) (by decide)⟩
/-- the kernel's call 'random' -/
theorem nq_random (n : Nat) (hn : 1024 < n) {B p : Nat} {K : St × (St × (St × St))} {X : St × St} (h : cP B p K X) (h17 : sR X.1 9 (32 * p + 17) = nI 21) : cO B p K X (nd_b2 (df_X5_mustWait n (nI p) K) (fun q s => if q = nI 0 then nd_b2 (df_X6_takeRandom n s.2.2) (fun v m => some (v.toInt64, (s.1, (s.2.1, m)))) else some (1099511627776, s))) (df_X16_random n X) := by
  obtain ⟨h1, h2, h3, h4, h5, h6, h7⟩ := id h
  obtain ⟨m1, m2, m3, m4, m5, m6, m7⟩ := h1
  obtain ⟨t, c', w, b, e, ht, hc', hw, hb, he, a1, a2, a3, a4, a5, a6, a7, a8, a9, a10, a11, a12, a13, a14, a15, a16, a17, _⟩ := m3 p h2
  have t1 : t = 1 := nm_inI (by omega) (by omega) (a2.symm.trans h5)
  obtain ⟨r1, _⟩ := a17 (by omega)
  have r10 := r1 10 (by omega)
  have r12 := r1 12 (by omega)
  have r17 := (r1 17 (by omega)).trans h17
  have u1 : p * 33 + 10 < 528 := by omega
  have u2 : p * 33 + 12 < 528 := by omega
  have u3 : p * 33 + 17 < 528 := by omega
  have g10 : df_X5_argument n (nI p) (nI 10) K = some (sR X.1 9 (32 * p + 10), K) := by simp (disch := (first | assumption | decide | omega)) only [df_X5_argument_0, df_X5_argument, r10, eq_self, Nat.reduceEqDiff, Nat.reduceLeDiff, nl_3, nl_33, nl_528, no_1, no_1024, pk_mul, nI_add, nm_ck, nI_clamp, nI_ltI, nI_leI, nI_eq, nb_b2, nb_b1, ↓nb_let, nm_z0, nm_z1, nb_II, nb_IR, nb_RI, nb_RR, nm_IL, nm_IQ, nm_RL, nm_RQ, nm_LI, nm_LR, nm_LL, nm_LQ, nm_QI, nm_QR, nm_QL, nm_QQ, nm_rr, nm_ii, nm_eqm, not_false_eq_true, pk_sub, nm_div, nm_shl, nm_shr, nm_ush, nm_or8, nm_or64, nm_or256, nm_m1, nm_m3, nm_m7, nm_m15, nm_m31, nm_m63, nm_m255, nm_m511, nm_m1023, nm_m2047, nm_m65535, Nat.reduceMod, Nat.reducePow, Nat.reduceAdd, Nat.reduceSub, Nat.reduceMul, nm_bo, nm_bi, nm_rc, nm_ic, nm_ri, nm_rl, nm_rq, nm_ql, nm_qi, nm_li, nm_us, nm_uu, nm_cp, nm_sa31, nm_sa7, nm_m127, nm_m2, nm_nz, nm_nzk, nm_eq32, nm_nzf, if_true, if_false, ↓reduceIte, if_pos, if_neg]
  have g12 : df_X5_argument n (nI p) (nI 12) K = some (sR X.1 9 (32 * p + 12), K) := by simp (disch := (first | assumption | decide | omega)) only [df_X5_argument_0, df_X5_argument, r12, eq_self, Nat.reduceEqDiff, Nat.reduceLeDiff, nl_3, nl_33, nl_528, no_1, no_1024, pk_mul, nI_add, nm_ck, nI_clamp, nI_ltI, nI_leI, nI_eq, nb_b2, nb_b1, ↓nb_let, nm_z0, nm_z1, nb_II, nb_IR, nb_RI, nb_RR, nm_IL, nm_IQ, nm_RL, nm_RQ, nm_LI, nm_LR, nm_LL, nm_LQ, nm_QI, nm_QR, nm_QL, nm_QQ, nm_rr, nm_ii, nm_eqm, not_false_eq_true, pk_sub, nm_div, nm_shl, nm_shr, nm_ush, nm_or8, nm_or64, nm_or256, nm_m1, nm_m3, nm_m7, nm_m15, nm_m31, nm_m63, nm_m255, nm_m511, nm_m1023, nm_m2047, nm_m65535, Nat.reduceMod, Nat.reducePow, Nat.reduceAdd, Nat.reduceSub, Nat.reduceMul, nm_bo, nm_bi, nm_rc, nm_ic, nm_ri, nm_rl, nm_rq, nm_ql, nm_qi, nm_li, nm_us, nm_uu, nm_cp, nm_sa31, nm_sa7, nm_m127, nm_m2, nm_nz, nm_nzk, nm_eq32, nm_nzf, if_true, if_false, ↓reduceIte, if_pos, if_neg]
  have g17 : df_X5_argument n (nI p) (nI 17) K = some (nI 21, K) := by simp (disch := (first | assumption | decide | omega)) only [df_X5_argument_0, df_X5_argument, r17, eq_self, Nat.reduceEqDiff, Nat.reduceLeDiff, nl_3, nl_33, nl_528, no_1, no_1024, pk_mul, nI_add, nm_ck, nI_clamp, nI_ltI, nI_leI, nI_eq, nb_b2, nb_b1, ↓nb_let, nm_z0, nm_z1, nb_II, nb_IR, nb_RI, nb_RR, nm_IL, nm_IQ, nm_RL, nm_RQ, nm_LI, nm_LR, nm_LL, nm_LQ, nm_QI, nm_QR, nm_QL, nm_QQ, nm_rr, nm_ii, nm_eqm, not_false_eq_true, pk_sub, nm_div, nm_shl, nm_shr, nm_ush, nm_or8, nm_or64, nm_or256, nm_m1, nm_m3, nm_m7, nm_m15, nm_m31, nm_m63, nm_m255, nm_m511, nm_m1023, nm_m2047, nm_m65535, Nat.reduceMod, Nat.reducePow, Nat.reduceAdd, Nat.reduceSub, Nat.reduceMul, nm_bo, nm_bi, nm_rc, nm_ic, nm_ri, nm_rl, nm_rq, nm_ql, nm_qi, nm_li, nm_us, nm_uu, nm_cp, nm_sa31, nm_sa7, nm_m127, nm_m2, nm_nz, nm_nzk, nm_eq32, nm_nzf, if_true, if_false, ↓reduceIte, if_pos, if_neg]
  obtain ⟨⟨k, hk, x1, x2, x3⟩, my⟩ := id m6
  rw [mw_21C n h2 hk g10 g12 g17 x1, nb_b2]
  by_cases k0 : k = 0
  · subst k0
    rw [decide_eq_true rfl, bI_t, if_neg (by decide)]
    have e2 : df_X16_random n X = some (nI 0, (pI X.1 13 (nI 1), X.2)) := by
      simp (disch := (first | assumption | decide | omega)) only [df_X16_random, df_X16_random_0, df_X16_tell_0, df_X16_tell, x2, eq_self, Nat.reduceEqDiff, Nat.reduceLeDiff, nl_0, nl_1, nl_5, nl_13, no_1, no_1024, pk_mul, nI_add, nm_ck, nI_clamp, nI_ltI, nI_leI, nI_eq, nb_b2, nb_b1, ↓nb_let, nm_z0, nm_z1, nb_II, nb_IR, nb_RI, nb_RR, nm_IL, nm_IQ, nm_RL, nm_RQ, nm_LI, nm_LR, nm_LL, nm_LQ, nm_QI, nm_QR, nm_QL, nm_QQ, nm_rr, nm_ii, nm_eqm, not_false_eq_true, pk_sub, nm_div, nm_shl, nm_shr, nm_ush, nm_or8, nm_or64, nm_or256, nm_m1, nm_m3, nm_m7, nm_m15, nm_m31, nm_m63, nm_m255, nm_m511, nm_m1023, nm_m2047, nm_m65535, Nat.reduceMod, Nat.reducePow, Nat.reduceAdd, Nat.reduceSub, Nat.reduceMul, nm_bo, nm_bi, nm_rc, nm_ic, nm_ri, nm_rl, nm_rq, nm_ql, nm_qi, nm_li, nm_us, nm_uu, nm_cp, nm_sa31, nm_sa7, nm_m127, nm_m2, nm_nz, nm_nzk, nm_eq32, nm_nzf, if_true, if_false, ↓reduceIte, if_pos, if_neg]
    rw [e2]
    exact cO_w h (Or.inr (Or.inr (Or.inr h17)))
  · rw [decide_eq_false k0, bI_f, if_pos rfl, nk_randomC n (by omega) hk x1, nb_b2, nk_randomR n hn (by omega) hk x2, x3 0 (by omega)]
    refine ⟨_, _, K.1, _, _, rfl, rfl, ⟨m1, m2, m3, m4, m5, ⟨⟨k - 1, by omega, rfl, rfl, fun i hi => ?_⟩, my⟩, m7⟩, fun _ => rfl, Or.inl ⟨h4, rfl⟩, ⟨rfl, rfl, rfl, rfl, rfl⟩, Or.inl ⟨h6, h7⟩, fun _ => h5, fun z => absurd (h4.symm.trans z) (by decide)⟩
    show va_cpy (sR K.2.2.1 7) (sR K.2.2.1 7) 1 0 15 i = shk (sR X.1 0) (k - 1) i
    rw [va_i (by omega), show shk (sR X.1 0) (k - 1) i = sR X.1 0 (i + 1) from if_pos hi, show 1 + (i - 0) = i + 1 by omega]
    exact x3 (i + 1) (by omega)
/-- 'yield': who comes next -/
theorem nq_next (n : Nat) (hn : 1024 < n) {B p : Nat} {M X : St × St} (h : rM B M X) (hp : p < 16) (h1 : sR X.1 1 p = nI 1) (el : sI X.1 2 = nI p) : ∃ (q : Nat), q < 16 ∧ df_X6_nextReady n (nI p) M = some (nI q, M) ∧ df_X6_makeCurrent n (nI q) M = some (pI (pI M.1 3 (nI q)) 4 (nI q), M.2) ∧ df_X16_turn n X = some (pI (pI X.1 1 (nI q)) 2 (nI q), X.2) ∧ rM B (pI (pI M.1 3 (nI q)) 4 (nI q), M.2) (pI (pI X.1 1 (nI q)) 2 (nI q), X.2) := by
  have hst := rM_st h
  have nx := nk_next n hn hst hp
  have tu := nk_turn n hn (X := X) (fun q hq => by obtain ⟨t, h1, _, h3⟩ := hst q hq; exact ⟨t, h1, h3⟩) hp el
  have f17 : nr (sR X.1 1) p < 17 := by
    by_cases c : nr (sR X.1 1) p < 17
    · exact c
    · exfalso
      unfold nr at c
      obtain ⟨x1, x2, x3, x4⟩ := fN_le (fun k => decide (sR X.1 1 ((p + k) % 16) = nI 1)) 16 1
      have := of_decide_eq_false (x4 16 (by omega) (by omega))
      rw [show (p + 16) % 16 = p by omega] at this
      exact this h1
  rw [if_pos f17] at nx
  rw [if_pos f17, if_pos f17] at tu
  have q16 : (p + nr (sR X.1 1) p) % 16 < 16 := by omega
  generalize (p + nr (sR X.1 1) p) % 16 = q at nx tu q16
  have u1 : ¬ q < 0 := by omega
  have u2 : q < 2 ^ 31 := by omega
  exact ⟨q, q16, nx, by simp (disch := (first | assumption | decide | omega)) only [df_X6_makeCurrent_14, df_X6_makeCurrent_0, df_X6_makeCurrent, u1, eq_self, Nat.reduceEqDiff, Nat.reduceLeDiff, nl_0, nl_3, nl_4, no_1, no_1024, pk_mul, nI_add, nm_ck, nI_clamp, nI_ltI, nI_leI, nI_eq, nb_b2, nb_b1, ↓nb_let, nm_z0, nm_z1, nb_II, nb_IR, nb_RI, nb_RR, nm_IL, nm_IQ, nm_RL, nm_RQ, nm_LI, nm_LR, nm_LL, nm_LQ, nm_QI, nm_QR, nm_QL, nm_QQ, nm_rr, nm_ii, nm_eqm, not_false_eq_true, pk_sub, nm_div, nm_shl, nm_shr, nm_ush, nm_or8, nm_or64, nm_or256, nm_m1, nm_m3, nm_m7, nm_m15, nm_m31, nm_m63, nm_m255, nm_m511, nm_m1023, nm_m2047, nm_m65535, Nat.reduceMod, Nat.reducePow, Nat.reduceAdd, Nat.reduceSub, Nat.reduceMul, nm_bo, nm_bi, nm_rc, nm_ic, nm_ri, nm_rl, nm_rq, nm_ql, nm_qi, nm_li, nm_us, nm_uu, nm_cp, nm_sa31, nm_sa7, nm_m127, nm_m2, nm_nz, nm_nzk, nm_eq32, nm_nzf, if_true, if_false, ↓reduceIte, if_pos, if_neg], tu, rM_cur h (Or.inr ⟨q, q16, rfl⟩) ⟨q, q16, rfl⟩ (Or.inr rfl)⟩

/-- one byte is put, in both -/
theorem nk_put1 (n : Nat) {M : St × St} {w u g b fr ri ho : Nat → Int32} {fu us : Int32} (h : rQ w u g b fr ri ho fu us) {p a f : Nat} (hp : p < 16) (ha : a < 65536) (hf : f < 256) (e : fr (64 * p + a / 1024) = nI f) (c : cF fr f = 1) (v : Int32) : ∃ w' : Nat → Int32, df_X6_put n (nI p) (nI a) (nI 255) v (mU M w u g fu) = some (mU M w' u g fu) ∧ rQ w' u g (pb b (65536 * p + a) v) fr ri ho fu us := by
  refine ⟨_, nk_cput n h hp ha hf e (nI 255) v, ?_⟩
  have e1 := pb_is b (p := p) (A := a) (j := 0) (by omega) v
  rw [Nat.add_zero, Nat.add_zero] at e1
  rw [e1]
  exact rQ_put h (by omega) hf e c (by omega) _
/-- bytes are put one after the other: the class's words fit the reference's -/
theorem nk_puts (n : Nat) {M : St × St} {w u g b fr ri ho : Nat → Int32} {fu us : Int32} (h : rQ w u g b fr ri ho fu us) {p a m : Nat} (hp : p < 16) (ha : a + m ≤ 65536) (hc : ∀ k : Nat, k < m → ∃ f : Nat, f < 256 ∧ fr (64 * p + (a + k) / 1024) = nI f ∧ cF fr f = 1) (v : Nat → Int32) : ∀ k : Nat, k ≤ m → ∃ w' : Nat → Int32, rQ w' u g (pbs b p a v k) fr ri ho fu us ∧ (k < m → ∃ w'' : Nat → Int32, df_X6_put n (nI p) (nI (a + k)) (nI 255) (v k) (mU M w' u g fu) = some (mU M w'' u g fu) ∧ rQ w'' u g (pbs b p a v (k + 1)) fr ri ho fu us) := by
  have st : ∀ (k : Nat) (w' : Nat → Int32), k < m → rQ w' u g (pbs b p a v k) fr ri ho fu us → ∃ w'' : Nat → Int32, df_X6_put n (nI p) (nI (a + k)) (nI 255) (v k) (mU M w' u g fu) = some (mU M w'' u g fu) ∧ rQ w'' u g (pbs b p a v (k + 1)) fr ri ho fu us := fun k w' hk hr => by
    obtain ⟨f, f1, f2, f3⟩ := hc k hk
    exact nk_put1 n hr hp (by omega) f1 f2 f3 (v k)
  intro k
  induction k with
  | zero => exact fun _ => ⟨w, h, fun hk => st 0 w hk h⟩
  | succ k ih =>
    intro hk
    obtain ⟨w', r1, r2⟩ := ih (by omega)
    obtain ⟨w'', r3, r4⟩ := r2 (by omega)
    exact ⟨w'', r4, fun hk => st (k + 1) w'' hk r4⟩

theorem b8_4 : b8 (nI 4) (nI 4) := ⟨4, by omega, rfl, by decide⟩
/-- how many bytes come: from a pipe -/
theorem cm_1 (n : Nat) {D : St} {X : St × St} {o N t L : Nat} (ho : o < 48) (ht : t < 8) (hN : N ≤ 512) (hL : L ≤ 512) (y5 : sR D 1 (o * 5) = nI 1) (y8 : sR D 1 (o * 5 + 2) = nI t) (l1 : sR D 2 (t * 4) = nI L) (y4 : sR X.1 19 o = nI 1) (y7 : sR X.1 20 o = nI t) (l2 : sR X.1 26 t = nI L) : df_X10_coming n (nI o) (nI N) D = some (nI (if L < N then L else N), D) ∧ df_X16_comes n (nI o) (nI N) X = some (nI (if L < N then L else N), X) := by
  have u1 : o * 5 < 240 := by omega
  have u2 : o * 5 < 2 ^ 31 := by omega
  have u3 : o * 5 + 2 < 240 := by omega
  have u4 : t * 4 < 32 := by omega
  have u5 : t * 4 < 2 ^ 31 := by omega
  have u6 : L < 2 ^ 31 := by omega
  have u7 : N < 2 ^ 31 := by omega
  have u8 : o < 2 ^ 31 := by omega
  have u9 : t < 2 ^ 31 := by omega
  have am : df_X10_amount n (nI o) D = some (nI L, D) := by simp (disch := (first | assumption | decide | omega)) only [df_X10_amount_60, df_X10_amount_0, df_X10_amount, Nat.add_zero, y5, y8, l1, eq_self, Nat.reduceEqDiff, Nat.reduceLeDiff, nl_0, nl_1, nl_2, nl_3, nl_4, nl_5, nl_32, nl_48, nl_240, no_1, no_1024, pk_mul, nI_add, nm_ck, nI_clamp, nI_ltI, nI_leI, nI_eq, nb_b2, nb_b1, ↓nb_let, nm_z0, nm_z1, nb_II, nb_IR, nb_RI, nb_RR, nm_IL, nm_IQ, nm_RL, nm_RQ, nm_LI, nm_LR, nm_LL, nm_LQ, nm_QI, nm_QR, nm_QL, nm_QQ, nm_rr, nm_ii, nm_eqm, not_false_eq_true, pk_sub, nm_div, nm_shl, nm_shr, nm_ush, nm_or8, nm_or64, nm_or256, nm_m1, nm_m3, nm_m7, nm_m15, nm_m31, nm_m63, nm_m255, nm_m511, nm_m1023, nm_m2047, nm_m65535, Nat.reduceMod, Nat.reducePow, Nat.reduceAdd, Nat.reduceSub, Nat.reduceMul, nm_bo, nm_bi, nm_rc, nm_ic, nm_ri, nm_rl, nm_rq, nm_ql, nm_qi, nm_li, nm_us, nm_uu, nm_cp, nm_sa31, nm_sa7, nm_m127, nm_m2, nm_nz, nm_nzk, nm_eq32, nm_nzf, if_true, if_false, ↓reduceIte, if_pos, if_neg]
  have of0 : df_X10_of n (nI o) (nI 0) D = some (nI 1, D) := by simp (disch := (first | assumption | decide | omega)) only [df_X10_of_0, df_X10_of, Nat.add_zero, y5, eq_self, Nat.reduceEqDiff, Nat.reduceLeDiff, nl_1, nl_5, nl_240, no_1, no_1024, pk_mul, nI_add, nm_ck, nI_clamp, nI_ltI, nI_leI, nI_eq, nb_b2, nb_b1, ↓nb_let, nm_z0, nm_z1, nb_II, nb_IR, nb_RI, nb_RR, nm_IL, nm_IQ, nm_RL, nm_RQ, nm_LI, nm_LR, nm_LL, nm_LQ, nm_QI, nm_QR, nm_QL, nm_QQ, nm_rr, nm_ii, nm_eqm, not_false_eq_true, pk_sub, nm_div, nm_shl, nm_shr, nm_ush, nm_or8, nm_or64, nm_or256, nm_m1, nm_m3, nm_m7, nm_m15, nm_m31, nm_m63, nm_m255, nm_m511, nm_m1023, nm_m2047, nm_m65535, Nat.reduceMod, Nat.reducePow, Nat.reduceAdd, Nat.reduceSub, Nat.reduceMul, nm_bo, nm_bi, nm_rc, nm_ic, nm_ri, nm_rl, nm_rq, nm_ql, nm_qi, nm_li, nm_us, nm_uu, nm_cp, nm_sa31, nm_sa7, nm_m127, nm_m2, nm_nz, nm_nzk, nm_eq32, nm_nzf, if_true, if_false, ↓reduceIte, if_pos, if_neg]
  by_cases c : L < N
  · have c' : ¬ N ≤ L := by omega
    rw [if_pos c]
    exact ⟨by simp (disch := (first | assumption | decide | omega)) only [df_X10_coming, df_X10_coming_0, df_X10_coming_80, am, of0, c, eq_self, Nat.reduceEqDiff, Nat.reduceLeDiff, nl_0, nl_3, nl_4, no_1, no_1024, pk_mul, nI_add, nm_ck, nI_clamp, nI_ltI, nI_leI, nI_eq, nb_b2, nb_b1, ↓nb_let, nm_z0, nm_z1, nb_II, nb_IR, nb_RI, nb_RR, nm_IL, nm_IQ, nm_RL, nm_RQ, nm_LI, nm_LR, nm_LL, nm_LQ, nm_QI, nm_QR, nm_QL, nm_QQ, nm_rr, nm_ii, nm_eqm, not_false_eq_true, pk_sub, nm_div, nm_shl, nm_shr, nm_ush, nm_or8, nm_or64, nm_or256, nm_m1, nm_m3, nm_m7, nm_m15, nm_m31, nm_m63, nm_m255, nm_m511, nm_m1023, nm_m2047, nm_m65535, Nat.reduceMod, Nat.reducePow, Nat.reduceAdd, Nat.reduceSub, Nat.reduceMul, nm_bo, nm_bi, nm_rc, nm_ic, nm_ri, nm_rl, nm_rq, nm_ql, nm_qi, nm_li, nm_us, nm_uu, nm_cp, nm_sa31, nm_sa7, nm_m127, nm_m2, nm_nz, nm_nzk, nm_eq32, nm_nzf, if_true, if_false, ↓reduceIte, if_pos, if_neg], by simp (disch := (first | assumption | decide | omega)) only [df_X16_comes, df_X16_comes_0, df_X16_comes_40, y4, y7, l2, c', eq_self, Nat.reduceEqDiff, Nat.reduceLeDiff, nl_0, nl_1, nl_3, nl_8, nl_16, nl_19, nl_20, nl_21, nl_26, nl_28, nl_48, no_1, no_1024, pk_mul, nI_add, nm_ck, nI_clamp, nI_ltI, nI_leI, nI_eq, nb_b2, nb_b1, ↓nb_let, nm_z0, nm_z1, nb_II, nb_IR, nb_RI, nb_RR, nm_IL, nm_IQ, nm_RL, nm_RQ, nm_LI, nm_LR, nm_LL, nm_LQ, nm_QI, nm_QR, nm_QL, nm_QQ, nm_rr, nm_ii, nm_eqm, not_false_eq_true, pk_sub, nm_div, nm_shl, nm_shr, nm_ush, nm_or8, nm_or64, nm_or256, nm_m1, nm_m3, nm_m7, nm_m15, nm_m31, nm_m63, nm_m255, nm_m511, nm_m1023, nm_m2047, nm_m65535, Nat.reduceMod, Nat.reducePow, Nat.reduceAdd, Nat.reduceSub, Nat.reduceMul, nm_bo, nm_bi, nm_rc, nm_ic, nm_ri, nm_rl, nm_rq, nm_ql, nm_qi, nm_li, nm_us, nm_uu, nm_cp, nm_sa31, nm_sa7, nm_m127, nm_m2, nm_nz, nm_nzk, nm_eq32, nm_nzf, if_true, if_false, ↓reduceIte, if_pos, if_neg]⟩
  · have c' : N ≤ L := by omega
    rw [if_neg c]
    exact ⟨by simp (disch := (first | assumption | decide | omega)) only [df_X10_coming, df_X10_coming_0, df_X10_coming_80, am, of0, c, eq_self, Nat.reduceEqDiff, Nat.reduceLeDiff, nl_0, nl_3, nl_4, no_1, no_1024, pk_mul, nI_add, nm_ck, nI_clamp, nI_ltI, nI_leI, nI_eq, nb_b2, nb_b1, ↓nb_let, nm_z0, nm_z1, nb_II, nb_IR, nb_RI, nb_RR, nm_IL, nm_IQ, nm_RL, nm_RQ, nm_LI, nm_LR, nm_LL, nm_LQ, nm_QI, nm_QR, nm_QL, nm_QQ, nm_rr, nm_ii, nm_eqm, not_false_eq_true, pk_sub, nm_div, nm_shl, nm_shr, nm_ush, nm_or8, nm_or64, nm_or256, nm_m1, nm_m3, nm_m7, nm_m15, nm_m31, nm_m63, nm_m255, nm_m511, nm_m1023, nm_m2047, nm_m65535, Nat.reduceMod, Nat.reducePow, Nat.reduceAdd, Nat.reduceSub, Nat.reduceMul, nm_bo, nm_bi, nm_rc, nm_ic, nm_ri, nm_rl, nm_rq, nm_ql, nm_qi, nm_li, nm_us, nm_uu, nm_cp, nm_sa31, nm_sa7, nm_m127, nm_m2, nm_nz, nm_nzk, nm_eq32, nm_nzf, if_true, if_false, ↓reduceIte, if_pos, if_neg], by simp (disch := (first | assumption | decide | omega)) only [df_X16_comes, df_X16_comes_0, df_X16_comes_40, y4, y7, l2, c', eq_self, Nat.reduceEqDiff, Nat.reduceLeDiff, nl_0, nl_1, nl_3, nl_8, nl_16, nl_19, nl_20, nl_21, nl_26, nl_28, nl_48, no_1, no_1024, pk_mul, nI_add, nm_ck, nI_clamp, nI_ltI, nI_leI, nI_eq, nb_b2, nb_b1, ↓nb_let, nm_z0, nm_z1, nb_II, nb_IR, nb_RI, nb_RR, nm_IL, nm_IQ, nm_RL, nm_RQ, nm_LI, nm_LR, nm_LL, nm_LQ, nm_QI, nm_QR, nm_QL, nm_QQ, nm_rr, nm_ii, nm_eqm, not_false_eq_true, pk_sub, nm_div, nm_shl, nm_shr, nm_ush, nm_or8, nm_or64, nm_or256, nm_m1, nm_m3, nm_m7, nm_m15, nm_m31, nm_m63, nm_m255, nm_m511, nm_m1023, nm_m2047, nm_m65535, Nat.reduceMod, Nat.reducePow, Nat.reduceAdd, Nat.reduceSub, Nat.reduceMul, nm_bo, nm_bi, nm_rc, nm_ic, nm_ri, nm_rl, nm_rq, nm_ql, nm_qi, nm_li, nm_us, nm_uu, nm_cp, nm_sa31, nm_sa7, nm_m127, nm_m2, nm_nz, nm_nzk, nm_eq32, nm_nzf, if_true, if_false, ↓reduceIte, if_pos, if_neg]⟩
/-- from a file -/
theorem cm_3 (n : Nat) {D : St} {X : St × St} {o N t L x : Nat} (ho : o < 48) (ht : t < 16) (hN : N ≤ 512) (hL : L ≤ 512) (hx : x ≤ 512) (y5 : sR D 1 (o * 5) = nI 3) (y8 : sR D 1 (o * 5 + 2) = nI t) (y12 : sR D 1 (o * 5 + 3) = nI x) (l1 : sR D 4 (t * 3) = nI L) (y4 : sR X.1 19 o = nI 3) (y7 : sR X.1 20 o = nI t) (l2 : sR X.1 28 t = nI L) (ex : sR X.1 21 o = nI x) : df_X10_coming n (nI o) (nI N) D = some (nI (if x ≤ L then (if L - x < N then L - x else N) else 0), D) ∧ df_X16_comes n (nI o) (nI N) X = some (nI (if x ≤ L then (if L - x < N then L - x else N) else 0), X) := by
  have u1 : o * 5 < 240 := by omega
  have u2 : o * 5 < 2 ^ 31 := by omega
  have u3 : o * 5 + 2 < 240 := by omega
  have u4 : t * 3 < 48 := by omega
  have u5 : t * 3 < 2 ^ 31 := by omega
  have u6 : L < 2 ^ 31 := by omega
  have u7 : N < 2 ^ 31 := by omega
  have u8 : o < 2 ^ 31 := by omega
  have u9 : t < 2 ^ 31 := by omega
  have u10 : o * 5 + 3 < 240 := by omega
  have am : df_X10_amount n (nI o) D = some (nI L, D) := by simp (disch := (first | assumption | decide | omega)) only [df_X10_amount_60, df_X10_amount_0, df_X10_amount, Nat.add_zero, y5, y8, l1, eq_self, Nat.reduceEqDiff, Nat.reduceLeDiff, nl_0, nl_1, nl_2, nl_3, nl_4, nl_5, nl_32, nl_48, nl_240, no_1, no_1024, pk_mul, nI_add, nm_ck, nI_clamp, nI_ltI, nI_leI, nI_eq, nb_b2, nb_b1, ↓nb_let, nm_z0, nm_z1, nb_II, nb_IR, nb_RI, nb_RR, nm_IL, nm_IQ, nm_RL, nm_RQ, nm_LI, nm_LR, nm_LL, nm_LQ, nm_QI, nm_QR, nm_QL, nm_QQ, nm_rr, nm_ii, nm_eqm, not_false_eq_true, pk_sub, nm_div, nm_shl, nm_shr, nm_ush, nm_or8, nm_or64, nm_or256, nm_m1, nm_m3, nm_m7, nm_m15, nm_m31, nm_m63, nm_m255, nm_m511, nm_m1023, nm_m2047, nm_m65535, Nat.reduceMod, Nat.reducePow, Nat.reduceAdd, Nat.reduceSub, Nat.reduceMul, nm_bo, nm_bi, nm_rc, nm_ic, nm_ri, nm_rl, nm_rq, nm_ql, nm_qi, nm_li, nm_us, nm_uu, nm_cp, nm_sa31, nm_sa7, nm_m127, nm_m2, nm_nz, nm_nzk, nm_eq32, nm_nzf, if_true, if_false, ↓reduceIte, if_pos, if_neg]
  have of0 : df_X10_of n (nI o) (nI 0) D = some (nI 3, D) := by simp (disch := (first | assumption | decide | omega)) only [df_X10_of_0, df_X10_of, Nat.add_zero, y5, eq_self, Nat.reduceEqDiff, Nat.reduceLeDiff, nl_1, nl_5, nl_240, no_1, no_1024, pk_mul, nI_add, nm_ck, nI_clamp, nI_ltI, nI_leI, nI_eq, nb_b2, nb_b1, ↓nb_let, nm_z0, nm_z1, nb_II, nb_IR, nb_RI, nb_RR, nm_IL, nm_IQ, nm_RL, nm_RQ, nm_LI, nm_LR, nm_LL, nm_LQ, nm_QI, nm_QR, nm_QL, nm_QQ, nm_rr, nm_ii, nm_eqm, not_false_eq_true, pk_sub, nm_div, nm_shl, nm_shr, nm_ush, nm_or8, nm_or64, nm_or256, nm_m1, nm_m3, nm_m7, nm_m15, nm_m31, nm_m63, nm_m255, nm_m511, nm_m1023, nm_m2047, nm_m65535, Nat.reduceMod, Nat.reducePow, Nat.reduceAdd, Nat.reduceSub, Nat.reduceMul, nm_bo, nm_bi, nm_rc, nm_ic, nm_ri, nm_rl, nm_rq, nm_ql, nm_qi, nm_li, nm_us, nm_uu, nm_cp, nm_sa31, nm_sa7, nm_m127, nm_m2, nm_nz, nm_nzk, nm_eq32, nm_nzf, if_true, if_false, ↓reduceIte, if_pos, if_neg]
  have of3 : df_X10_of n (nI o) (nI 3) D = some (nI x, D) := by simp (disch := (first | assumption | decide | omega)) only [df_X10_of_0, df_X10_of, y12, eq_self, Nat.reduceEqDiff, Nat.reduceLeDiff, nl_1, nl_5, nl_240, no_1, no_1024, pk_mul, nI_add, nm_ck, nI_clamp, nI_ltI, nI_leI, nI_eq, nb_b2, nb_b1, ↓nb_let, nm_z0, nm_z1, nb_II, nb_IR, nb_RI, nb_RR, nm_IL, nm_IQ, nm_RL, nm_RQ, nm_LI, nm_LR, nm_LL, nm_LQ, nm_QI, nm_QR, nm_QL, nm_QQ, nm_rr, nm_ii, nm_eqm, not_false_eq_true, pk_sub, nm_div, nm_shl, nm_shr, nm_ush, nm_or8, nm_or64, nm_or256, nm_m1, nm_m3, nm_m7, nm_m15, nm_m31, nm_m63, nm_m255, nm_m511, nm_m1023, nm_m2047, nm_m65535, Nat.reduceMod, Nat.reducePow, Nat.reduceAdd, Nat.reduceSub, Nat.reduceMul, nm_bo, nm_bi, nm_rc, nm_ic, nm_ri, nm_rl, nm_rq, nm_ql, nm_qi, nm_li, nm_us, nm_uu, nm_cp, nm_sa31, nm_sa7, nm_m127, nm_m2, nm_nz, nm_nzk, nm_eq32, nm_nzf, if_true, if_false, ↓reduceIte, if_pos, if_neg]
  by_cases c : x ≤ L
  · rw [if_pos c]
    have v1 : L - x < 2 ^ 31 := by omega
    have v2 : 0 ≤ L - x := by omega
    by_cases d : L - x < N
    · have d' : ¬ N ≤ L - x := by omega
      rw [if_pos d]
      refine ⟨?_, by simp (disch := (first | assumption | decide | omega)) only [df_X16_comes, df_X16_comes_0, df_X16_comes_120, y4, y7, l2, ex, v2, d', eq_self, Nat.reduceEqDiff, Nat.reduceLeDiff, nl_0, nl_1, nl_3, nl_8, nl_16, nl_19, nl_20, nl_21, nl_26, nl_28, nl_48, no_1, no_1024, pk_mul, nI_add, nm_ck, nI_clamp, nI_ltI, nI_leI, nI_eq, nb_b2, nb_b1, ↓nb_let, nm_z0, nm_z1, nb_II, nb_IR, nb_RI, nb_RR, nm_IL, nm_IQ, nm_RL, nm_RQ, nm_LI, nm_LR, nm_LL, nm_LQ, nm_QI, nm_QR, nm_QL, nm_QQ, nm_rr, nm_ii, nm_eqm, not_false_eq_true, pk_sub, nm_div, nm_shl, nm_shr, nm_ush, nm_or8, nm_or64, nm_or256, nm_m1, nm_m3, nm_m7, nm_m15, nm_m31, nm_m63, nm_m255, nm_m511, nm_m1023, nm_m2047, nm_m65535, Nat.reduceMod, Nat.reducePow, Nat.reduceAdd, Nat.reduceSub, Nat.reduceMul, nm_bo, nm_bi, nm_rc, nm_ic, nm_ri, nm_rl, nm_rq, nm_ql, nm_qi, nm_li, nm_us, nm_uu, nm_cp, nm_sa31, nm_sa7, nm_m127, nm_m2, nm_nz, nm_nzk, nm_eq32, nm_nzf, if_true, if_false, ↓reduceIte, if_pos, if_neg]⟩
      by_cases e : 0 < L - x
      · simp (disch := (first | assumption | decide | omega)) only [df_X10_coming, df_X10_coming_0, am, of0, of3, d, e, eq_self, Nat.reduceEqDiff, Nat.reduceLeDiff, nl_0, nl_3, nl_4, no_1, no_1024, pk_mul, nI_add, nm_ck, nI_clamp, nI_ltI, nI_leI, nI_eq, nb_b2, nb_b1, ↓nb_let, nm_z0, nm_z1, nb_II, nb_IR, nb_RI, nb_RR, nm_IL, nm_IQ, nm_RL, nm_RQ, nm_LI, nm_LR, nm_LL, nm_LQ, nm_QI, nm_QR, nm_QL, nm_QQ, nm_rr, nm_ii, nm_eqm, not_false_eq_true, pk_sub, nm_div, nm_shl, nm_shr, nm_ush, nm_or8, nm_or64, nm_or256, nm_m1, nm_m3, nm_m7, nm_m15, nm_m31, nm_m63, nm_m255, nm_m511, nm_m1023, nm_m2047, nm_m65535, Nat.reduceMod, Nat.reducePow, Nat.reduceAdd, Nat.reduceSub, Nat.reduceMul, nm_bo, nm_bi, nm_rc, nm_ic, nm_ri, nm_rl, nm_rq, nm_ql, nm_qi, nm_li, nm_us, nm_uu, nm_cp, nm_sa31, nm_sa7, nm_m127, nm_m2, nm_nz, nm_nzk, nm_eq32, nm_nzf, if_true, if_false, ↓reduceIte, if_pos, if_neg]
      · have e' : L - x = 0 := by omega
        rw [e'] at d ⊢
        simp (disch := (first | assumption | decide | omega)) only [df_X10_coming, df_X10_coming_0, am, of0, of3, e', d, Nat.lt_irrefl, eq_self, Nat.reduceEqDiff, Nat.reduceLeDiff, nl_0, nl_3, nl_4, no_1, no_1024, pk_mul, nI_add, nm_ck, nI_clamp, nI_ltI, nI_leI, nI_eq, nb_b2, nb_b1, ↓nb_let, nm_z0, nm_z1, nb_II, nb_IR, nb_RI, nb_RR, nm_IL, nm_IQ, nm_RL, nm_RQ, nm_LI, nm_LR, nm_LL, nm_LQ, nm_QI, nm_QR, nm_QL, nm_QQ, nm_rr, nm_ii, nm_eqm, not_false_eq_true, pk_sub, nm_div, nm_shl, nm_shr, nm_ush, nm_or8, nm_or64, nm_or256, nm_m1, nm_m3, nm_m7, nm_m15, nm_m31, nm_m63, nm_m255, nm_m511, nm_m1023, nm_m2047, nm_m65535, Nat.reduceMod, Nat.reducePow, Nat.reduceAdd, Nat.reduceSub, Nat.reduceMul, nm_bo, nm_bi, nm_rc, nm_ic, nm_ri, nm_rl, nm_rq, nm_ql, nm_qi, nm_li, nm_us, nm_uu, nm_cp, nm_sa31, nm_sa7, nm_m127, nm_m2, nm_nz, nm_nzk, nm_eq32, nm_nzf, if_true, if_false, ↓reduceIte, if_pos, if_neg]
    · have d' : N ≤ L - x := by omega
      rw [if_neg d]
      refine ⟨?_, by simp (disch := (first | assumption | decide | omega)) only [df_X16_comes, df_X16_comes_0, df_X16_comes_120, y4, y7, l2, ex, v2, d', eq_self, Nat.reduceEqDiff, Nat.reduceLeDiff, nl_0, nl_1, nl_3, nl_8, nl_16, nl_19, nl_20, nl_21, nl_26, nl_28, nl_48, no_1, no_1024, pk_mul, nI_add, nm_ck, nI_clamp, nI_ltI, nI_leI, nI_eq, nb_b2, nb_b1, ↓nb_let, nm_z0, nm_z1, nb_II, nb_IR, nb_RI, nb_RR, nm_IL, nm_IQ, nm_RL, nm_RQ, nm_LI, nm_LR, nm_LL, nm_LQ, nm_QI, nm_QR, nm_QL, nm_QQ, nm_rr, nm_ii, nm_eqm, not_false_eq_true, pk_sub, nm_div, nm_shl, nm_shr, nm_ush, nm_or8, nm_or64, nm_or256, nm_m1, nm_m3, nm_m7, nm_m15, nm_m31, nm_m63, nm_m255, nm_m511, nm_m1023, nm_m2047, nm_m65535, Nat.reduceMod, Nat.reducePow, Nat.reduceAdd, Nat.reduceSub, Nat.reduceMul, nm_bo, nm_bi, nm_rc, nm_ic, nm_ri, nm_rl, nm_rq, nm_ql, nm_qi, nm_li, nm_us, nm_uu, nm_cp, nm_sa31, nm_sa7, nm_m127, nm_m2, nm_nz, nm_nzk, nm_eq32, nm_nzf, if_true, if_false, ↓reduceIte, if_pos, if_neg]⟩
      by_cases e : 0 < N
      · simp (disch := (first | assumption | decide | omega)) only [df_X10_coming, df_X10_coming_0, am, of0, of3, d, e, eq_self, Nat.reduceEqDiff, Nat.reduceLeDiff, nl_0, nl_3, nl_4, no_1, no_1024, pk_mul, nI_add, nm_ck, nI_clamp, nI_ltI, nI_leI, nI_eq, nb_b2, nb_b1, ↓nb_let, nm_z0, nm_z1, nb_II, nb_IR, nb_RI, nb_RR, nm_IL, nm_IQ, nm_RL, nm_RQ, nm_LI, nm_LR, nm_LL, nm_LQ, nm_QI, nm_QR, nm_QL, nm_QQ, nm_rr, nm_ii, nm_eqm, not_false_eq_true, pk_sub, nm_div, nm_shl, nm_shr, nm_ush, nm_or8, nm_or64, nm_or256, nm_m1, nm_m3, nm_m7, nm_m15, nm_m31, nm_m63, nm_m255, nm_m511, nm_m1023, nm_m2047, nm_m65535, Nat.reduceMod, Nat.reducePow, Nat.reduceAdd, Nat.reduceSub, Nat.reduceMul, nm_bo, nm_bi, nm_rc, nm_ic, nm_ri, nm_rl, nm_rq, nm_ql, nm_qi, nm_li, nm_us, nm_uu, nm_cp, nm_sa31, nm_sa7, nm_m127, nm_m2, nm_nz, nm_nzk, nm_eq32, nm_nzf, if_true, if_false, ↓reduceIte, if_pos, if_neg]
      · have e' : N = 0 := by omega
        subst e'
        simp (disch := (first | assumption | decide | omega)) only [df_X10_coming, df_X10_coming_0, am, of0, of3, d, Nat.lt_irrefl, eq_self, Nat.reduceEqDiff, Nat.reduceLeDiff, nl_0, nl_3, nl_4, no_1, no_1024, pk_mul, nI_add, nm_ck, nI_clamp, nI_ltI, nI_leI, nI_eq, nb_b2, nb_b1, ↓nb_let, nm_z0, nm_z1, nb_II, nb_IR, nb_RI, nb_RR, nm_IL, nm_IQ, nm_RL, nm_RQ, nm_LI, nm_LR, nm_LL, nm_LQ, nm_QI, nm_QR, nm_QL, nm_QQ, nm_rr, nm_ii, nm_eqm, not_false_eq_true, pk_sub, nm_div, nm_shl, nm_shr, nm_ush, nm_or8, nm_or64, nm_or256, nm_m1, nm_m3, nm_m7, nm_m15, nm_m31, nm_m63, nm_m255, nm_m511, nm_m1023, nm_m2047, nm_m65535, Nat.reduceMod, Nat.reducePow, Nat.reduceAdd, Nat.reduceSub, Nat.reduceMul, nm_bo, nm_bi, nm_rc, nm_ic, nm_ri, nm_rl, nm_rq, nm_ql, nm_qi, nm_li, nm_us, nm_uu, nm_cp, nm_sa31, nm_sa7, nm_m127, nm_m2, nm_nz, nm_nzk, nm_eq32, nm_nzf, if_true, if_false, ↓reduceIte, if_pos, if_neg]
  · rw [if_neg c]
    have lt : nI L - nI x < nI N := by
      rw [Int32.lt_iff_toInt_lt, Int32.toInt_sub, nI_toInt u6, nI_toInt (by omega), nI_toInt u7, Int.bmod_eq_of_le (by omega) (by omega)]
      omega
    have l0 : ¬ nI 0 < nI L - nI x := by
      rw [Int32.lt_iff_toInt_lt, Int32.toInt_sub, nI_toInt u6, nI_toInt (by omega), nI_toInt (by omega), Int.bmod_eq_of_le (by omega) (by omega)]
      omega
    have l3 : ¬ nI 0 ≤ nI L - nI x := by
      rw [Int32.le_iff_toInt_le, Int32.toInt_sub, nI_toInt u6, nI_toInt (by omega), nI_toInt (by omega), Int.bmod_eq_of_le (by omega) (by omega)]
      omega
    exact ⟨by simp (disch := (first | assumption | decide | omega)) only [df_X10_coming, df_X10_coming_0, am, of0, of3, lt, l0, eq_self, Nat.reduceEqDiff, Nat.reduceLeDiff, nl_0, nl_3, nl_4, no_1, no_1024, pk_mul, nI_add, nm_ck, nI_clamp, nI_ltI, nI_leI, nI_eq, nb_b2, nb_b1, ↓nb_let, nm_z0, nm_z1, nb_II, nb_IR, nb_RI, nb_RR, nm_IL, nm_IQ, nm_RL, nm_RQ, nm_LI, nm_LR, nm_LL, nm_LQ, nm_QI, nm_QR, nm_QL, nm_QQ, nm_rr, nm_ii, nm_eqm, not_false_eq_true, pk_sub, nm_div, nm_shl, nm_shr, nm_ush, nm_or8, nm_or64, nm_or256, nm_m1, nm_m3, nm_m7, nm_m15, nm_m31, nm_m63, nm_m255, nm_m511, nm_m1023, nm_m2047, nm_m65535, Nat.reduceMod, Nat.reducePow, Nat.reduceAdd, Nat.reduceSub, Nat.reduceMul, nm_bo, nm_bi, nm_rc, nm_ic, nm_ri, nm_rl, nm_rq, nm_ql, nm_qi, nm_li, nm_us, nm_uu, nm_cp, nm_sa31, nm_sa7, nm_m127, nm_m2, nm_nz, nm_nzk, nm_eq32, nm_nzf, if_true, if_false, ↓reduceIte, if_pos, if_neg], by simp (disch := (first | assumption | decide | omega)) only [df_X16_comes, df_X16_comes_0, df_X16_comes_120, y4, y7, l2, ex, l3, eq_self, Nat.reduceEqDiff, Nat.reduceLeDiff, nl_0, nl_1, nl_3, nl_8, nl_16, nl_19, nl_20, nl_21, nl_26, nl_28, nl_48, no_1, no_1024, pk_mul, nI_add, nm_ck, nI_clamp, nI_ltI, nI_leI, nI_eq, nb_b2, nb_b1, ↓nb_let, nm_z0, nm_z1, nb_II, nb_IR, nb_RI, nb_RR, nm_IL, nm_IQ, nm_RL, nm_RQ, nm_LI, nm_LR, nm_LL, nm_LQ, nm_QI, nm_QR, nm_QL, nm_QQ, nm_rr, nm_ii, nm_eqm, not_false_eq_true, pk_sub, nm_div, nm_shl, nm_shr, nm_ush, nm_or8, nm_or64, nm_or256, nm_m1, nm_m3, nm_m7, nm_m15, nm_m31, nm_m63, nm_m255, nm_m511, nm_m1023, nm_m2047, nm_m65535, Nat.reduceMod, Nat.reducePow, Nat.reduceAdd, Nat.reduceSub, Nat.reduceMul, nm_bo, nm_bi, nm_rc, nm_ic, nm_ri, nm_rl, nm_rq, nm_ql, nm_qi, nm_li, nm_us, nm_uu, nm_cp, nm_sa31, nm_sa7, nm_m127, nm_m2, nm_nz, nm_nzk, nm_eq32, nm_nzf, if_true, if_false, ↓reduceIte, if_pos, if_neg]⟩
/-- from the console -/
theorem cm_4 (n : Nat) (hn : 1024 < n) {D : St} {X : St × St} {o N T : Nat} (ho : o < 48) (hN : N ≤ 512) (hT : T ≤ 512) (y5 : sR D 1 (o * 5) = nI 4) (y8 : ∃ t : Nat, t < 16 ∧ sR D 1 (o * 5 + 2) = nI t) (t1 : sI D 0 = nI T) (y4 : sR X.1 19 o = nI 4) (t2 : sI X.1 7 = nI T) (hb : ∀ i : Nat, i < T → b8 (sR D 7 i) (sR X.1 31 i)) : df_X10_coming n (nI o) (nI N) D = some (nI (fN (fun i => decide (sR X.1 31 i = nI 4)) 0 (if T < N then T else N)), D) ∧ df_X16_comes n (nI o) (nI N) X = some (nI (fN (fun i => decide (sR X.1 31 i = nI 4)) 0 (if T < N then T else N)), X) := by
  have u1 : o * 5 < 240 := by omega
  have u2 : o * 5 < 2 ^ 31 := by omega
  have u3 : o * 5 + 2 < 240 := by omega
  have u6 : T < 2 ^ 31 := by omega
  have u7 : N < 2 ^ 31 := by omega
  have u8 : o < 2 ^ 31 := by omega
  obtain ⟨t, ht, y8⟩ := y8
  have am : df_X10_amount n (nI o) D = some (nI T, D) := by simp (disch := (first | assumption | decide | omega)) only [df_X10_amount_60, df_X10_amount_0, df_X10_amount, Nat.add_zero, y5, y8, t1, eq_self, Nat.reduceEqDiff, Nat.reduceLeDiff, nl_0, nl_1, nl_2, nl_3, nl_4, nl_5, nl_32, nl_48, nl_240, no_1, no_1024, pk_mul, nI_add, nm_ck, nI_clamp, nI_ltI, nI_leI, nI_eq, nb_b2, nb_b1, ↓nb_let, nm_z0, nm_z1, nb_II, nb_IR, nb_RI, nb_RR, nm_IL, nm_IQ, nm_RL, nm_RQ, nm_LI, nm_LR, nm_LL, nm_LQ, nm_QI, nm_QR, nm_QL, nm_QQ, nm_rr, nm_ii, nm_eqm, not_false_eq_true, pk_sub, nm_div, nm_shl, nm_shr, nm_ush, nm_or8, nm_or64, nm_or256, nm_m1, nm_m3, nm_m7, nm_m15, nm_m31, nm_m63, nm_m255, nm_m511, nm_m1023, nm_m2047, nm_m65535, Nat.reduceMod, Nat.reducePow, Nat.reduceAdd, Nat.reduceSub, Nat.reduceMul, nm_bo, nm_bi, nm_rc, nm_ic, nm_ri, nm_rl, nm_rq, nm_ql, nm_qi, nm_li, nm_us, nm_uu, nm_cp, nm_sa31, nm_sa7, nm_m127, nm_m2, nm_nz, nm_nzk, nm_eq32, nm_nzf, if_true, if_false, ↓reduceIte, if_pos, if_neg]
  have of0 : df_X10_of n (nI o) (nI 0) D = some (nI 4, D) := by simp (disch := (first | assumption | decide | omega)) only [df_X10_of_0, df_X10_of, Nat.add_zero, y5, eq_self, Nat.reduceEqDiff, Nat.reduceLeDiff, nl_1, nl_5, nl_240, no_1, no_1024, pk_mul, nI_add, nm_ck, nI_clamp, nI_ltI, nI_leI, nI_eq, nb_b2, nb_b1, ↓nb_let, nm_z0, nm_z1, nb_II, nb_IR, nb_RI, nb_RR, nm_IL, nm_IQ, nm_RL, nm_RQ, nm_LI, nm_LR, nm_LL, nm_LQ, nm_QI, nm_QR, nm_QL, nm_QQ, nm_rr, nm_ii, nm_eqm, not_false_eq_true, pk_sub, nm_div, nm_shl, nm_shr, nm_ush, nm_or8, nm_or64, nm_or256, nm_m1, nm_m3, nm_m7, nm_m15, nm_m31, nm_m63, nm_m255, nm_m511, nm_m1023, nm_m2047, nm_m65535, Nat.reduceMod, Nat.reducePow, Nat.reduceAdd, Nat.reduceSub, Nat.reduceMul, nm_bo, nm_bi, nm_rc, nm_ic, nm_ri, nm_rl, nm_rq, nm_ql, nm_qi, nm_li, nm_us, nm_uu, nm_cp, nm_sa31, nm_sa7, nm_m127, nm_m2, nm_nz, nm_nzk, nm_eq32, nm_nzf, if_true, if_false, ↓reduceIte, if_pos, if_neg]
  have c0 : df_X10_coming n (nI o) (nI N) D = df_X10_coming_53 n n (nI (if T < N then T else N)) (nI 0) D := by
    by_cases c : T < N
    · rw [if_pos c]
      simp (disch := (first | assumption | decide | omega)) only [df_X10_coming, df_X10_coming_0, am, of0, c, eq_self, Nat.reduceEqDiff, Nat.reduceLeDiff, nl_0, nl_3, nl_4, no_1, no_1024, pk_mul, nI_add, nm_ck, nI_clamp, nI_ltI, nI_leI, nI_eq, nb_b2, nb_b1, ↓nb_let, nm_z0, nm_z1, nb_II, nb_IR, nb_RI, nb_RR, nm_IL, nm_IQ, nm_RL, nm_RQ, nm_LI, nm_LR, nm_LL, nm_LQ, nm_QI, nm_QR, nm_QL, nm_QQ, nm_rr, nm_ii, nm_eqm, not_false_eq_true, pk_sub, nm_div, nm_shl, nm_shr, nm_ush, nm_or8, nm_or64, nm_or256, nm_m1, nm_m3, nm_m7, nm_m15, nm_m31, nm_m63, nm_m255, nm_m511, nm_m1023, nm_m2047, nm_m65535, Nat.reduceMod, Nat.reducePow, Nat.reduceAdd, Nat.reduceSub, Nat.reduceMul, nm_bo, nm_bi, nm_rc, nm_ic, nm_ri, nm_rl, nm_rq, nm_ql, nm_qi, nm_li, nm_us, nm_uu, nm_cp, nm_sa31, nm_sa7, nm_m127, nm_m2, nm_nz, nm_nzk, nm_eq32, nm_nzf, if_true, if_false, ↓reduceIte, if_pos, if_neg]
    · rw [if_neg c]
      simp (disch := (first | assumption | decide | omega)) only [df_X10_coming, df_X10_coming_0, am, of0, c, eq_self, Nat.reduceEqDiff, Nat.reduceLeDiff, nl_0, nl_3, nl_4, no_1, no_1024, pk_mul, nI_add, nm_ck, nI_clamp, nI_ltI, nI_leI, nI_eq, nb_b2, nb_b1, ↓nb_let, nm_z0, nm_z1, nb_II, nb_IR, nb_RI, nb_RR, nm_IL, nm_IQ, nm_RL, nm_RQ, nm_LI, nm_LR, nm_LL, nm_LQ, nm_QI, nm_QR, nm_QL, nm_QQ, nm_rr, nm_ii, nm_eqm, not_false_eq_true, pk_sub, nm_div, nm_shl, nm_shr, nm_ush, nm_or8, nm_or64, nm_or256, nm_m1, nm_m3, nm_m7, nm_m15, nm_m31, nm_m63, nm_m255, nm_m511, nm_m1023, nm_m2047, nm_m65535, Nat.reduceMod, Nat.reducePow, Nat.reduceAdd, Nat.reduceSub, Nat.reduceMul, nm_bo, nm_bi, nm_rc, nm_ic, nm_ri, nm_rl, nm_rq, nm_ql, nm_qi, nm_li, nm_us, nm_uu, nm_cp, nm_sa31, nm_sa7, nm_m127, nm_m2, nm_nz, nm_nzk, nm_eq32, nm_nzf, if_true, if_false, ↓reduceIte, if_pos, if_neg]
  have r0 : df_X16_comes n (nI o) (nI N) X = df_X16_comes_123 n n (nI N) (nI 0) X := by
    simp (disch := (first | assumption | decide | omega)) only [df_X16_comes, df_X16_comes_0, y4, eq_self, Nat.reduceEqDiff, Nat.reduceLeDiff, nl_0, nl_1, nl_3, nl_8, nl_16, nl_19, nl_20, nl_21, nl_26, nl_28, nl_48, no_1, no_1024, pk_mul, nI_add, nm_ck, nI_clamp, nI_ltI, nI_leI, nI_eq, nb_b2, nb_b1, ↓nb_let, nm_z0, nm_z1, nb_II, nb_IR, nb_RI, nb_RR, nm_IL, nm_IQ, nm_RL, nm_RQ, nm_LI, nm_LR, nm_LL, nm_LQ, nm_QI, nm_QR, nm_QL, nm_QQ, nm_rr, nm_ii, nm_eqm, not_false_eq_true, pk_sub, nm_div, nm_shl, nm_shr, nm_ush, nm_or8, nm_or64, nm_or256, nm_m1, nm_m3, nm_m7, nm_m15, nm_m31, nm_m63, nm_m255, nm_m511, nm_m1023, nm_m2047, nm_m65535, Nat.reduceMod, Nat.reducePow, Nat.reduceAdd, Nat.reduceSub, Nat.reduceMul, nm_bo, nm_bi, nm_rc, nm_ic, nm_ri, nm_rl, nm_rq, nm_ql, nm_qi, nm_li, nm_us, nm_uu, nm_cp, nm_sa31, nm_sa7, nm_m127, nm_m2, nm_nz, nm_nzk, nm_eq32, nm_nzf, if_true, if_false, ↓reduceIte, if_pos, if_neg]
  have hW : (if T < N then T else N) ≤ T ∧ (if T < N then T else N) ≤ N ∧ ((if T < N then T else N) = T ∨ (if T < N then T else N) = N) := by
    by_cases c : T < N
    · rw [if_pos c]
      exact ⟨by omega, by omega, Or.inl rfl⟩
    · rw [if_neg c]
      exact ⟨by omega, by omega, Or.inr rfl⟩
  generalize (if T < N then T else N) = W at c0 hW
  obtain ⟨w1, w2, w3⟩ := hW
  have key : ∀ i : Nat, i < W → (sR D 7 i = nI 4 ↔ sR X.1 31 i = nI 4) := fun i hi => b8_eq (hb i (by omega)) b8_4
  have u9 : W < 2 ^ 31 := by omega
  obtain ⟨x1, x2, x3, x4⟩ := fN_le (fun i => decide (sR X.1 31 i = nI 4)) W 0
  rw [c0, r0]
  constructor
  · obtain ⟨m, hm⟩ := nm_ls (fun m i => df_X10_coming_53 n m (nI W) (nI i) D) (fun i => decide (sR X.1 31 i = nI 4)) 0 W n (by omega) (fun i m h0 hi c => by
      have c : ¬ sR D 7 i = nI 4 := fun z => of_decide_eq_false c ((key i (by omega)).mp z)
      have v1 : ¬ W ≤ i := by omega
      have v2 : i < 512 := by omega
      have v3 : i < 2 ^ 31 := by omega
      rw [show df_X10_coming_53 n (m + 1) = dF_X10_coming_53 n (df_X10_coming_53 n m) from rfl]
      generalize df_X10_coming_53 n m = G
      simp (disch := (first | assumption | decide | omega)) only [dF_X10_coming_53, v1, c, eq_self, Nat.reduceEqDiff, Nat.reduceLeDiff, nl_1, nl_4, nl_7, nl_512, no_1, no_1024, pk_mul, nI_add, nm_ck, nI_clamp, nI_ltI, nI_leI, nI_eq, nb_b2, nb_b1, ↓nb_let, nm_z0, nm_z1, nb_II, nb_IR, nb_RI, nb_RR, nm_IL, nm_IQ, nm_RL, nm_RQ, nm_LI, nm_LR, nm_LL, nm_LQ, nm_QI, nm_QR, nm_QL, nm_QQ, nm_rr, nm_ii, nm_eqm, not_false_eq_true, pk_sub, nm_div, nm_shl, nm_shr, nm_ush, nm_or8, nm_or64, nm_or256, nm_m1, nm_m3, nm_m7, nm_m15, nm_m31, nm_m63, nm_m255, nm_m511, nm_m1023, nm_m2047, nm_m65535, Nat.reduceMod, Nat.reducePow, Nat.reduceAdd, Nat.reduceSub, Nat.reduceMul, nm_bo, nm_bi, nm_rc, nm_ic, nm_ri, nm_rl, nm_rq, nm_ql, nm_qi, nm_li, nm_us, nm_uu, nm_cp, nm_sa31, nm_sa7, nm_m127, nm_m2, nm_nz, nm_nzk, nm_eq32, nm_nzf, if_true, if_false, ↓reduceIte, if_pos, if_neg])
    refine Eq.trans hm ?_
    show df_X10_coming_53 n (m + 1) (nI W) (nI (fN (fun i => decide (sR X.1 31 i = nI 4)) 0 W)) D = _
    rw [show df_X10_coming_53 n (m + 1) = dF_X10_coming_53 n (df_X10_coming_53 n m) from rfl]
    generalize df_X10_coming_53 n m = G
    have x3' : fN (fun i => decide (sR X.1 31 i = nI 4)) 0 W < W → sR X.1 31 (fN (fun i => decide (sR X.1 31 i = nI 4)) 0 W) = nI 4 := fun z => of_decide_eq_true (x3 (by omega))
    generalize fN (fun i => decide (sR X.1 31 i = nI 4)) 0 W = f at x2 x3'
    have v3 : f < 2 ^ 31 := by omega
    by_cases c : f < W
    · have v1 : ¬ W ≤ f := by omega
      have v2 : f < 512 := by omega
      have e := (key f c).mpr (x3' c)
      simp (disch := (first | assumption | decide | omega)) only [dF_X10_coming_53, v1, e, eq_self, Nat.reduceEqDiff, Nat.reduceLeDiff, nl_1, nl_4, nl_7, nl_512, no_1, no_1024, pk_mul, nI_add, nm_ck, nI_clamp, nI_ltI, nI_leI, nI_eq, nb_b2, nb_b1, ↓nb_let, nm_z0, nm_z1, nb_II, nb_IR, nb_RI, nb_RR, nm_IL, nm_IQ, nm_RL, nm_RQ, nm_LI, nm_LR, nm_LL, nm_LQ, nm_QI, nm_QR, nm_QL, nm_QQ, nm_rr, nm_ii, nm_eqm, not_false_eq_true, pk_sub, nm_div, nm_shl, nm_shr, nm_ush, nm_or8, nm_or64, nm_or256, nm_m1, nm_m3, nm_m7, nm_m15, nm_m31, nm_m63, nm_m255, nm_m511, nm_m1023, nm_m2047, nm_m65535, Nat.reduceMod, Nat.reducePow, Nat.reduceAdd, Nat.reduceSub, Nat.reduceMul, nm_bo, nm_bi, nm_rc, nm_ic, nm_ri, nm_rl, nm_rq, nm_ql, nm_qi, nm_li, nm_us, nm_uu, nm_cp, nm_sa31, nm_sa7, nm_m127, nm_m2, nm_nz, nm_nzk, nm_eq32, nm_nzf, if_true, if_false, ↓reduceIte, if_pos, if_neg]
    · have v1 : W ≤ f := by omega
      have e : f = W := by omega
      subst e
      simp (disch := (first | assumption | decide | omega)) only [dF_X10_coming_53, df_X10_coming_80, v1, eq_self, Nat.reduceEqDiff, Nat.reduceLeDiff, nl_1, nl_4, nl_7, nl_512, no_1, no_1024, pk_mul, nI_add, nm_ck, nI_clamp, nI_ltI, nI_leI, nI_eq, nb_b2, nb_b1, ↓nb_let, nm_z0, nm_z1, nb_II, nb_IR, nb_RI, nb_RR, nm_IL, nm_IQ, nm_RL, nm_RQ, nm_LI, nm_LR, nm_LL, nm_LQ, nm_QI, nm_QR, nm_QL, nm_QQ, nm_rr, nm_ii, nm_eqm, not_false_eq_true, pk_sub, nm_div, nm_shl, nm_shr, nm_ush, nm_or8, nm_or64, nm_or256, nm_m1, nm_m3, nm_m7, nm_m15, nm_m31, nm_m63, nm_m255, nm_m511, nm_m1023, nm_m2047, nm_m65535, Nat.reduceMod, Nat.reducePow, Nat.reduceAdd, Nat.reduceSub, Nat.reduceMul, nm_bo, nm_bi, nm_rc, nm_ic, nm_ri, nm_rl, nm_rq, nm_ql, nm_qi, nm_li, nm_us, nm_uu, nm_cp, nm_sa31, nm_sa7, nm_m127, nm_m2, nm_nz, nm_nzk, nm_eq32, nm_nzf, if_true, if_false, ↓reduceIte, if_pos, if_neg]
  · obtain ⟨m, hm⟩ := nm_ls (fun m i => df_X16_comes_123 n m (nI N) (nI i) X) (fun i => decide (sR X.1 31 i = nI 4)) 0 W n (by omega) (fun i m h0 hi c => by
      have c : ¬ sR X.1 31 i = nI 4 := of_decide_eq_false c
      have v1 : ¬ N ≤ i := by omega
      have v4 : ¬ T ≤ i := by omega
      have v2 : i < 512 := by omega
      have v3 : i < 2 ^ 31 := by omega
      rw [show df_X16_comes_123 n (m + 1) = dF_X16_comes_123 n (df_X16_comes_123 n m) from rfl]
      generalize df_X16_comes_123 n m = G
      simp (disch := (first | assumption | decide | omega)) only [dF_X16_comes_123, v1, t2, v4, c, eq_self, Nat.reduceEqDiff, Nat.reduceLeDiff, nl_1, nl_4, nl_7, nl_31, nl_512, no_1, no_1024, pk_mul, nI_add, nm_ck, nI_clamp, nI_ltI, nI_leI, nI_eq, nb_b2, nb_b1, ↓nb_let, nm_z0, nm_z1, nb_II, nb_IR, nb_RI, nb_RR, nm_IL, nm_IQ, nm_RL, nm_RQ, nm_LI, nm_LR, nm_LL, nm_LQ, nm_QI, nm_QR, nm_QL, nm_QQ, nm_rr, nm_ii, nm_eqm, not_false_eq_true, pk_sub, nm_div, nm_shl, nm_shr, nm_ush, nm_or8, nm_or64, nm_or256, nm_m1, nm_m3, nm_m7, nm_m15, nm_m31, nm_m63, nm_m255, nm_m511, nm_m1023, nm_m2047, nm_m65535, Nat.reduceMod, Nat.reducePow, Nat.reduceAdd, Nat.reduceSub, Nat.reduceMul, nm_bo, nm_bi, nm_rc, nm_ic, nm_ri, nm_rl, nm_rq, nm_ql, nm_qi, nm_li, nm_us, nm_uu, nm_cp, nm_sa31, nm_sa7, nm_m127, nm_m2, nm_nz, nm_nzk, nm_eq32, nm_nzf, if_true, if_false, ↓reduceIte, if_pos, if_neg])
    refine Eq.trans hm ?_
    show df_X16_comes_123 n (m + 1) (nI N) (nI (fN (fun i => decide (sR X.1 31 i = nI 4)) 0 W)) X = _
    rw [show df_X16_comes_123 n (m + 1) = dF_X16_comes_123 n (df_X16_comes_123 n m) from rfl]
    generalize df_X16_comes_123 n m = G
    have x3' : fN (fun i => decide (sR X.1 31 i = nI 4)) 0 W < W → sR X.1 31 (fN (fun i => decide (sR X.1 31 i = nI 4)) 0 W) = nI 4 := fun z => of_decide_eq_true (x3 (by omega))
    generalize fN (fun i => decide (sR X.1 31 i = nI 4)) 0 W = f at x2 x3'
    have v3 : f < 2 ^ 31 := by omega
    by_cases d : N ≤ f
    · simp (disch := (first | assumption | decide | omega)) only [dF_X16_comes_123, df_X16_comes_152, d, eq_self, Nat.reduceEqDiff, Nat.reduceLeDiff, nl_1, nl_4, nl_7, nl_31, nl_512, no_1, no_1024, pk_mul, nI_add, nm_ck, nI_clamp, nI_ltI, nI_leI, nI_eq, nb_b2, nb_b1, ↓nb_let, nm_z0, nm_z1, nb_II, nb_IR, nb_RI, nb_RR, nm_IL, nm_IQ, nm_RL, nm_RQ, nm_LI, nm_LR, nm_LL, nm_LQ, nm_QI, nm_QR, nm_QL, nm_QQ, nm_rr, nm_ii, nm_eqm, not_false_eq_true, pk_sub, nm_div, nm_shl, nm_shr, nm_ush, nm_or8, nm_or64, nm_or256, nm_m1, nm_m3, nm_m7, nm_m15, nm_m31, nm_m63, nm_m255, nm_m511, nm_m1023, nm_m2047, nm_m65535, Nat.reduceMod, Nat.reducePow, Nat.reduceAdd, Nat.reduceSub, Nat.reduceMul, nm_bo, nm_bi, nm_rc, nm_ic, nm_ri, nm_rl, nm_rq, nm_ql, nm_qi, nm_li, nm_us, nm_uu, nm_cp, nm_sa31, nm_sa7, nm_m127, nm_m2, nm_nz, nm_nzk, nm_eq32, nm_nzf, if_true, if_false, ↓reduceIte, if_pos, if_neg]
    · by_cases d2 : T ≤ f
      · simp (disch := (first | assumption | decide | omega)) only [dF_X16_comes_123, df_X16_comes_152, d, t2, d2, eq_self, Nat.reduceEqDiff, Nat.reduceLeDiff, nl_1, nl_4, nl_7, nl_31, nl_512, no_1, no_1024, pk_mul, nI_add, nm_ck, nI_clamp, nI_ltI, nI_leI, nI_eq, nb_b2, nb_b1, ↓nb_let, nm_z0, nm_z1, nb_II, nb_IR, nb_RI, nb_RR, nm_IL, nm_IQ, nm_RL, nm_RQ, nm_LI, nm_LR, nm_LL, nm_LQ, nm_QI, nm_QR, nm_QL, nm_QQ, nm_rr, nm_ii, nm_eqm, not_false_eq_true, pk_sub, nm_div, nm_shl, nm_shr, nm_ush, nm_or8, nm_or64, nm_or256, nm_m1, nm_m3, nm_m7, nm_m15, nm_m31, nm_m63, nm_m255, nm_m511, nm_m1023, nm_m2047, nm_m65535, Nat.reduceMod, Nat.reducePow, Nat.reduceAdd, Nat.reduceSub, Nat.reduceMul, nm_bo, nm_bi, nm_rc, nm_ic, nm_ri, nm_rl, nm_rq, nm_ql, nm_qi, nm_li, nm_us, nm_uu, nm_cp, nm_sa31, nm_sa7, nm_m127, nm_m2, nm_nz, nm_nzk, nm_eq32, nm_nzf, if_true, if_false, ↓reduceIte, if_pos, if_neg]
      · have c : f < W := by omega
        have v2 : f < 512 := by omega
        have e := x3' c
        simp (disch := (first | assumption | decide | omega)) only [dF_X16_comes_123, df_X16_comes_152, d, t2, d2, e, eq_self, Nat.reduceEqDiff, Nat.reduceLeDiff, nl_1, nl_4, nl_7, nl_31, nl_512, no_1, no_1024, pk_mul, nI_add, nm_ck, nI_clamp, nI_ltI, nI_leI, nI_eq, nb_b2, nb_b1, ↓nb_let, nm_z0, nm_z1, nb_II, nb_IR, nb_RI, nb_RR, nm_IL, nm_IQ, nm_RL, nm_RQ, nm_LI, nm_LR, nm_LL, nm_LQ, nm_QI, nm_QR, nm_QL, nm_QQ, nm_rr, nm_ii, nm_eqm, not_false_eq_true, pk_sub, nm_div, nm_shl, nm_shr, nm_ush, nm_or8, nm_or64, nm_or256, nm_m1, nm_m3, nm_m7, nm_m15, nm_m31, nm_m63, nm_m255, nm_m511, nm_m1023, nm_m2047, nm_m65535, Nat.reduceMod, Nat.reducePow, Nat.reduceAdd, Nat.reduceSub, Nat.reduceMul, nm_bo, nm_bi, nm_rc, nm_ic, nm_ri, nm_rl, nm_rq, nm_ql, nm_qi, nm_li, nm_us, nm_uu, nm_cp, nm_sa31, nm_sa7, nm_m127, nm_m2, nm_nz, nm_nzk, nm_eq32, nm_nzf, if_true, if_false, ↓reduceIte, if_pos, if_neg]

/-- k places from a on moved down by m -/
def svk (f : Nat → Int32) (a m k : Nat) : Nat → Int32 := fun j => if a ≤ j ∧ j < a + k then f (j + m) else f j
theorem svk_0 (f : Nat → Int32) (a m : Nat) : svk f a m 0 = f := by
  funext j
  exact if_neg (by omega)
theorem svk_s (f : Nat → Int32) (a m k : Nat) : upd (svk f a m k) (a + k) (svk f a m k (a + k + m)) = svk f a m (k + 1) := by
  funext j
  show (if j = a + k then (if a ≤ a + k + m ∧ a + k + m < a + k then f (a + k + m + m) else f (a + k + m)) else if a ≤ j ∧ j < a + k then f (j + m) else f j) = if a ≤ j ∧ j < a + (k + 1) then f (j + m) else f j
  rw [if_neg (show ¬ (a ≤ a + k + m ∧ a + k + m < a + k) by omega)]
  by_cases c : j = a + k
  · rw [if_pos c, if_pos (by omega), c]
  · rw [if_neg c]
    by_cases d : a ≤ j ∧ j < a + k
    · rw [if_pos d, if_pos (by omega)]
    · rw [if_neg d, if_neg (by omega)]
theorem svk_i {f : Nat → Int32} {a m k j : Nat} (h : a ≤ j ∧ j < a + k) : svk f a m k j = f (j + m) := if_pos h
theorem svk_o {f : Nat → Int32} {a m k j : Nat} (h : ¬ (a ≤ j ∧ j < a + k)) : svk f a m k j = f j := if_neg h
/-- bytes leave a pipe: the reference -/
theorem tk_R1 (n : Nat) (hn : 1024 < n) {X : St × St} {t L m : Nat} (ht : t < 8) (hL : L ≤ 512) (hm : m ≤ L) (l2 : sR X.1 26 t = nI L) : df_X16_read_235 n n (nI m) (nI t) (nI m) X = some (nI m, (pR (pR X.1 26 (upd (sR X.1 26) t (nI (L - m)))) 27 (svk (sR X.1 27) (512 * t) m (L - m)), X.2)) := by
  have u1 : t < 2 ^ 31 := by omega
  have u2 : L < 2 ^ 31 := by omega
  obtain ⟨q, hq⟩ := nm_lq (fun q k => df_X16_read_235 n q (nI m) (nI t) (nI (m + k)) (pR X.1 27 (svk (sR X.1 27) (512 * t) m k), X.2)) (L - m) n (by omega) (fun k q hk => by
    have v1 : ¬ L ≤ m + k := by omega
    have v2 : m + k < 2 ^ 31 := by omega
    have v3 : 512 * t + (m + k) < 4096 := by omega
    have v4 : 512 * t + (m + k) < 2 ^ 31 := by omega
    have v5 : m ≤ 512 * t + (m + k) := by omega
    have v6 : 512 * t + (m + k) - m = 512 * t + k := by omega
    have v7 : 512 * t + k < 4096 := by omega
    have v8 : 512 * t + k < 2 ^ 31 := by omega
    have vs := svk_s (sR X.1 27) (512 * t) m k
    rw [show 512 * t + k + m = 512 * t + (m + k) by omega] at vs
    show df_X16_read_235 n (q + 1) _ _ (nI (m + k)) _ = df_X16_read_235 n q _ _ (nI (m + k + 1)) _
    rw [show df_X16_read_235 n (q + 1) = dF_X16_read_235 n (df_X16_read_235 n q) from rfl]
    generalize df_X16_read_235 n q = G
    simp (disch := (first | assumption | decide | omega)) only [dF_X16_read_235, l2, v1, v6, vs, eq_self, Nat.reduceEqDiff, Nat.reduceLeDiff, nl_1, nl_8, nl_26, nl_27, nl_512, nl_4096, no_1, no_1024, pk_mul, nI_add, nm_ck, nI_clamp, nI_ltI, nI_leI, nI_eq, nb_b2, nb_b1, ↓nb_let, nm_z0, nm_z1, nb_II, nb_IR, nb_RI, nb_RR, nm_IL, nm_IQ, nm_RL, nm_RQ, nm_LI, nm_LR, nm_LL, nm_LQ, nm_QI, nm_QR, nm_QL, nm_QQ, nm_rr, nm_ii, nm_eqm, not_false_eq_true, pk_sub, nm_div, nm_shl, nm_shr, nm_ush, nm_or8, nm_or64, nm_or256, nm_m1, nm_m3, nm_m7, nm_m15, nm_m31, nm_m63, nm_m255, nm_m511, nm_m1023, nm_m2047, nm_m65535, Nat.reduceMod, Nat.reducePow, Nat.reduceAdd, Nat.reduceSub, Nat.reduceMul, nm_bo, nm_bi, nm_rc, nm_ic, nm_ri, nm_rl, nm_rq, nm_ql, nm_qi, nm_li, nm_us, nm_uu, nm_cp, nm_sa31, nm_sa7, nm_m127, nm_m2, nm_nz, nm_nzk, nm_eq32, nm_nzf, if_true, if_false, ↓reduceIte, if_pos, if_neg])
  rw [svk_0, nm_r0] at hq
  refine Eq.trans (b := df_X16_read_235 n n (nI m) (nI t) (nI (m + 0)) X) rfl (Eq.trans hq ?_)
  show df_X16_read_235 n (q + 1) _ _ (nI (m + (L - m))) _ = _
  rw [show m + (L - m) = L by omega, show df_X16_read_235 n (q + 1) = dF_X16_read_235 n (df_X16_read_235 n q) from rfl, nm_rc (a := 27) (b := 26) (by decide) |>.symm]
  generalize df_X16_read_235 n q = G
  generalize svk (sR X.1 27) (512 * t) m (L - m) = R
  simp (disch := (first | assumption | decide | omega)) only [dF_X16_read_235, df_X16_read_398, l2, Nat.le_refl, hm, eq_self, Nat.reduceEqDiff, Nat.reduceLeDiff, nl_1, nl_8, nl_26, nl_27, nl_512, nl_4096, no_1, no_1024, pk_mul, nI_add, nm_ck, nI_clamp, nI_ltI, nI_leI, nI_eq, nb_b2, nb_b1, ↓nb_let, nm_z0, nm_z1, nb_II, nb_IR, nb_RI, nb_RR, nm_IL, nm_IQ, nm_RL, nm_RQ, nm_LI, nm_LR, nm_LL, nm_LQ, nm_QI, nm_QR, nm_QL, nm_QQ, nm_rr, nm_ii, nm_eqm, not_false_eq_true, pk_sub, nm_div, nm_shl, nm_shr, nm_ush, nm_or8, nm_or64, nm_or256, nm_m1, nm_m3, nm_m7, nm_m15, nm_m31, nm_m63, nm_m255, nm_m511, nm_m1023, nm_m2047, nm_m65535, Nat.reduceMod, Nat.reducePow, Nat.reduceAdd, Nat.reduceSub, Nat.reduceMul, nm_bo, nm_bi, nm_rc, nm_ic, nm_ri, nm_rl, nm_rq, nm_ql, nm_qi, nm_li, nm_us, nm_uu, nm_cp, nm_sa31, nm_sa7, nm_m127, nm_m2, nm_nz, nm_nzk, nm_eq32, nm_nzf, if_true, if_false, ↓reduceIte, if_pos, if_neg]
/-- the class -/
theorem tk_C1 (n : Nat) {D : St} {o t L m oo N : Nat} (ho : o < 48) (ht : t < 8) (hL : L ≤ 512) (hm : m ≤ L) (hoo : oo < 512) (y5 : sR D 1 (o * 5) = nI 1) (y8 : sR D 1 (o * 5 + 2) = nI t) (l1 : sR D 2 (t * 4) = nI L) (l3 : sR D 2 (t * 4 + 3) = nI oo) : df_X10_taken n (nI o) (nI N) (nI m) D = some (pR D 2 (upd (upd (sR D 2) (t * 4) (nI (L - m))) (t * 4 + 3) (nI ((oo + m) % 512)))) := by
  have u1 : o * 5 < 240 := by omega
  have u2 : o * 5 < 2 ^ 31 := by omega
  have u3 : o * 5 + 2 < 240 := by omega
  have u4 : t * 4 < 32 := by omega
  have u5 : t * 4 < 2 ^ 31 := by omega
  have u6 : t * 4 + 3 < 32 := by omega
  have u7 : oo + m < 2 ^ 32 := by omega
  have of0 : df_X10_of n (nI o) (nI 0) D = some (nI 1, D) := by simp (disch := (first | assumption | decide | omega)) only [df_X10_of_0, df_X10_of, Nat.add_zero, y5, eq_self, Nat.reduceEqDiff, Nat.reduceLeDiff, nl_1, nl_5, nl_240, no_1, no_1024, pk_mul, nI_add, nm_ck, nI_clamp, nI_ltI, nI_leI, nI_eq, nb_b2, nb_b1, ↓nb_let, nm_z0, nm_z1, nb_II, nb_IR, nb_RI, nb_RR, nm_IL, nm_IQ, nm_RL, nm_RQ, nm_LI, nm_LR, nm_LL, nm_LQ, nm_QI, nm_QR, nm_QL, nm_QQ, nm_rr, nm_ii, nm_eqm, not_false_eq_true, pk_sub, nm_div, nm_shl, nm_shr, nm_ush, nm_or8, nm_or64, nm_or256, nm_m1, nm_m3, nm_m7, nm_m15, nm_m31, nm_m63, nm_m255, nm_m511, nm_m1023, nm_m2047, nm_m65535, Nat.reduceMod, Nat.reducePow, Nat.reduceAdd, Nat.reduceSub, Nat.reduceMul, nm_bo, nm_bi, nm_rc, nm_ic, nm_ri, nm_rl, nm_rq, nm_ql, nm_qi, nm_li, nm_us, nm_uu, nm_cp, nm_sa31, nm_sa7, nm_m127, nm_m2, nm_nz, nm_nzk, nm_eq32, nm_nzf, if_true, if_false, ↓reduceIte, if_pos, if_neg]
  have of2 : df_X10_of n (nI o) (nI 2) D = some (nI t, D) := by simp (disch := (first | assumption | decide | omega)) only [df_X10_of_0, df_X10_of, y8, eq_self, Nat.reduceEqDiff, Nat.reduceLeDiff, nl_1, nl_5, nl_240, no_1, no_1024, pk_mul, nI_add, nm_ck, nI_clamp, nI_ltI, nI_leI, nI_eq, nb_b2, nb_b1, ↓nb_let, nm_z0, nm_z1, nb_II, nb_IR, nb_RI, nb_RR, nm_IL, nm_IQ, nm_RL, nm_RQ, nm_LI, nm_LR, nm_LL, nm_LQ, nm_QI, nm_QR, nm_QL, nm_QQ, nm_rr, nm_ii, nm_eqm, not_false_eq_true, pk_sub, nm_div, nm_shl, nm_shr, nm_ush, nm_or8, nm_or64, nm_or256, nm_m1, nm_m3, nm_m7, nm_m15, nm_m31, nm_m63, nm_m255, nm_m511, nm_m1023, nm_m2047, nm_m65535, Nat.reduceMod, Nat.reducePow, Nat.reduceAdd, Nat.reduceSub, Nat.reduceMul, nm_bo, nm_bi, nm_rc, nm_ic, nm_ri, nm_rl, nm_rq, nm_ql, nm_qi, nm_li, nm_us, nm_uu, nm_cp, nm_sa31, nm_sa7, nm_m127, nm_m2, nm_nz, nm_nzk, nm_eq32, nm_nzf, if_true, if_false, ↓reduceIte, if_pos, if_neg]
  have r : upd (sR D 2) (t * 4) (nI (L - m)) (t * 4 + 3) = nI oo := (nm_un (by omega)).trans l3
  simp (disch := (first | assumption | decide | omega)) only [df_X10_taken, df_X10_taken_0, df_X10_taken_157, of0, of2, Nat.add_zero, l1, hm, r, eq_self, Nat.reduceEqDiff, Nat.reduceLeDiff, nl_0, nl_1, nl_2, nl_3, nl_4, nl_5, nl_32, nl_240, nl_511, no_1, no_1024, pk_mul, nI_add, nm_ck, nI_clamp, nI_ltI, nI_leI, nI_eq, nb_b2, nb_b1, ↓nb_let, nm_z0, nm_z1, nb_II, nb_IR, nb_RI, nb_RR, nm_IL, nm_IQ, nm_RL, nm_RQ, nm_LI, nm_LR, nm_LL, nm_LQ, nm_QI, nm_QR, nm_QL, nm_QQ, nm_rr, nm_ii, nm_eqm, not_false_eq_true, pk_sub, nm_div, nm_shl, nm_shr, nm_ush, nm_or8, nm_or64, nm_or256, nm_m1, nm_m3, nm_m7, nm_m15, nm_m31, nm_m63, nm_m255, nm_m511, nm_m1023, nm_m2047, nm_m65535, Nat.reduceMod, Nat.reducePow, Nat.reduceAdd, Nat.reduceSub, Nat.reduceMul, nm_bo, nm_bi, nm_rc, nm_ic, nm_ri, nm_rl, nm_rq, nm_ql, nm_qi, nm_li, nm_us, nm_uu, nm_cp, nm_sa31, nm_sa7, nm_m127, nm_m2, nm_nz, nm_nzk, nm_eq32, nm_nzf, if_true, if_false, ↓reduceIte, if_pos, if_neg]
theorem rM_tk1 {B : Nat} {M X : St × St} (h : rM B M X) {t L m oo : Nat} (ht : t < 8) (hL : L ≤ 512) (hm : m ≤ L) (hoo : oo < 512) (e23 : sR X.1 23 t = nI 1) (l1 : sR M.2 2 (t * 4) = nI L) (l3 : sR M.2 2 (t * 4 + 3) = nI oo) : rM B (M.1, pR M.2 2 (upd (upd (sR M.2 2) (t * 4) (nI (L - m))) (t * 4 + 3) (nI ((oo + m) % 512)))) (pR (pR X.1 26 (upd (sR X.1 26) t (nI (L - m)))) 27 (svk (sR X.1 27) (512 * t) m (L - m)), X.2) := by
  obtain ⟨m1, m2, m3, m4, m5, m6, m7⟩ := h
  refine ⟨m1, ?_, m3, m4, m5, m6, ?_⟩
  · obtain ⟨a1, a2, a3, a4⟩ := m2
    refine ⟨a1, a2, fun k hk => ?_, a4⟩
    show upd (upd (sR M.2 2) (t * 4) (nI (L - m))) (t * 4 + 3) (nI ((oo + m) % 512)) (k * 4 + 1) = _ ∧ upd (upd (sR M.2 2) (t * 4) (nI (L - m))) (t * 4 + 3) (nI ((oo + m) % 512)) (k * 4 + 2) = _ ∧ _
    rw [nm_un (by omega), nm_un (by omega), nm_un (by omega), nm_un (by omega)]
    exact a3 k hk
  · obtain ⟨t1, t2⟩ := m7
    refine ⟨fun k hk e => ?_, t2⟩
    have e : sR X.1 23 k = nI 1 := e
    obtain ⟨L', o', q1, q2, q3, q4, q5, q6⟩ := t1 k hk e
    show ∃ L2 o2 : Nat, L2 ≤ 512 ∧ o2 < 512 ∧ upd (upd (sR M.2 2) (t * 4) (nI (L - m))) (t * 4 + 3) (nI ((oo + m) % 512)) (k * 4) = nI L2 ∧ upd (sR X.1 26) t (nI (L - m)) k = nI L2 ∧ upd (upd (sR M.2 2) (t * 4) (nI (L - m))) (t * 4 + 3) (nI ((oo + m) % 512)) (k * 4 + 3) = nI o2 ∧ ∀ i : Nat, i < L2 → b8 (sR M.2 3 (k * 512 + (o2 + i) % 512)) (svk (sR X.1 27) (512 * t) m (L - m) (512 * k + i))
    by_cases c : k = t
    · subst c
      have eL : L' = L := nm_inI (by omega) (by omega) (q3.symm.trans l1)
      have eo : o' = oo := nm_inI (by omega) (by omega) (q5.symm.trans l3)
      subst eL eo
      refine ⟨L' - m, (o' + m) % 512, by omega, by omega, ?_, nm_us, nm_us, fun i hi => ?_⟩
      · rw [nm_un (by omega), nm_us]
      · rw [svk_i (by omega), show 512 * k + i + m = 512 * k + (m + i) by omega]
        have := q6 (m + i) (by omega)
        rw [show ((o' + m) % 512 + i) % 512 = (o' + (m + i)) % 512 by omega]
        exact this
    · refine ⟨L', o', q1, q2, ?_, ?_, ?_, fun i hi => ?_⟩
      · rw [nm_un (by omega), nm_un (by omega)]; exact q3
      · rw [nm_un c]; exact q4
      · rw [nm_un (by omega), nm_un (by omega)]; exact q5
      · rw [svk_o (by omega)]
        exact q6 i hi
/-- the console: the reference -/
theorem tk_R4 (n : Nat) (hn : 1024 < n) {X : St × St} {T m v : Nat} (hT : T ≤ 512) (hm : m ≤ T) (t2 : sI X.1 7 = nI T) : df_X16_read_355 n n (nI v) (nI m) (nI m) X = some (nI v, (pI (pR X.1 31 (svk (sR X.1 31) 0 m (T - m))) 7 (nI (T - m)), X.2)) := by
  have u2 : T < 2 ^ 31 := by omega
  obtain ⟨q, hq⟩ := nm_lq (fun q k => df_X16_read_355 n q (nI v) (nI m) (nI (m + k)) (pR X.1 31 (svk (sR X.1 31) 0 m k), X.2)) (T - m) n (by omega) (fun k q hk => by
    have v1 : ¬ T ≤ m + k := by omega
    have v2 : m + k < 2 ^ 31 := by omega
    have v3 : m + k < 512 := by omega
    have v5 : m ≤ m + k := by omega
    have v6 : m + k - m = k := by omega
    have v7 : k < 512 := by omega
    have v8 : k < 2 ^ 31 := by omega
    have vs := svk_s (sR X.1 31) 0 m k
    rw [Nat.zero_add, Nat.add_comm k m] at vs
    show df_X16_read_355 n (q + 1) _ _ (nI (m + k)) _ = df_X16_read_355 n q _ _ (nI (m + k + 1)) _
    rw [show df_X16_read_355 n (q + 1) = dF_X16_read_355 n (df_X16_read_355 n q) from rfl]
    generalize df_X16_read_355 n q = G
    simp (disch := (first | assumption | decide | omega)) only [dF_X16_read_355, t2, v1, v6, vs, eq_self, Nat.reduceEqDiff, Nat.reduceLeDiff, nl_1, nl_7, nl_31, nl_512, no_1, no_1024, pk_mul, nI_add, nm_ck, nI_clamp, nI_ltI, nI_leI, nI_eq, nb_b2, nb_b1, ↓nb_let, nm_z0, nm_z1, nb_II, nb_IR, nb_RI, nb_RR, nm_IL, nm_IQ, nm_RL, nm_RQ, nm_LI, nm_LR, nm_LL, nm_LQ, nm_QI, nm_QR, nm_QL, nm_QQ, nm_rr, nm_ii, nm_eqm, not_false_eq_true, pk_sub, nm_div, nm_shl, nm_shr, nm_ush, nm_or8, nm_or64, nm_or256, nm_m1, nm_m3, nm_m7, nm_m15, nm_m31, nm_m63, nm_m255, nm_m511, nm_m1023, nm_m2047, nm_m65535, Nat.reduceMod, Nat.reducePow, Nat.reduceAdd, Nat.reduceSub, Nat.reduceMul, nm_bo, nm_bi, nm_rc, nm_ic, nm_ri, nm_rl, nm_rq, nm_ql, nm_qi, nm_li, nm_us, nm_uu, nm_cp, nm_sa31, nm_sa7, nm_m127, nm_m2, nm_nz, nm_nzk, nm_eq32, nm_nzf, if_true, if_false, ↓reduceIte, if_pos, if_neg])
  rw [svk_0, nm_r0] at hq
  refine Eq.trans (b := df_X16_read_355 n n (nI v) (nI m) (nI (m + 0)) X) rfl (Eq.trans hq ?_)
  show df_X16_read_355 n (q + 1) _ _ (nI (m + (T - m))) _ = _
  rw [show m + (T - m) = T by omega, show df_X16_read_355 n (q + 1) = dF_X16_read_355 n (df_X16_read_355 n q) from rfl]
  generalize df_X16_read_355 n q = G
  generalize svk (sR X.1 31) 0 m (T - m) = R
  simp (disch := (first | assumption | decide | omega)) only [dF_X16_read_355, df_X16_read_398, t2, Nat.le_refl, hm, eq_self, Nat.reduceEqDiff, Nat.reduceLeDiff, nl_1, nl_7, nl_31, nl_512, no_1, no_1024, pk_mul, nI_add, nm_ck, nI_clamp, nI_ltI, nI_leI, nI_eq, nb_b2, nb_b1, ↓nb_let, nm_z0, nm_z1, nb_II, nb_IR, nb_RI, nb_RR, nm_IL, nm_IQ, nm_RL, nm_RQ, nm_LI, nm_LR, nm_LL, nm_LQ, nm_QI, nm_QR, nm_QL, nm_QQ, nm_rr, nm_ii, nm_eqm, not_false_eq_true, pk_sub, nm_div, nm_shl, nm_shr, nm_ush, nm_or8, nm_or64, nm_or256, nm_m1, nm_m3, nm_m7, nm_m15, nm_m31, nm_m63, nm_m255, nm_m511, nm_m1023, nm_m2047, nm_m65535, Nat.reduceMod, Nat.reducePow, Nat.reduceAdd, Nat.reduceSub, Nat.reduceMul, nm_bo, nm_bi, nm_rc, nm_ic, nm_ri, nm_rl, nm_rq, nm_ql, nm_qi, nm_li, nm_us, nm_uu, nm_cp, nm_sa31, nm_sa7, nm_m127, nm_m2, nm_nz, nm_nzk, nm_eq32, nm_nzf, if_true, if_false, ↓reduceIte, if_pos, if_neg]
/-- the console: the class -/
theorem tk_C4 (n : Nat) {D : St} {T m : Nat} (hT : T ≤ 512) (hm : m ≤ T) (t1 : sI D 0 = nI T) (hf : ∀ i : Nat, i < T → fits .byte (.int (sR D 7 i)) = true) : df_X10_taken_77 n (nI m) D = some (pI (pR D 7 (va_cpy (sR D 7) (sR D 7) m 0 (T - m))) 0 (nI (T - m))) := by
  have u1 : m + (T - m) ≤ 512 := by omega
  have u2 : 0 + (T - m) ≤ 512 := by omega
  have u3 : m < 2 ^ 31 := by omega
  have u4 : T - m < 2 ^ 31 := by omega
  have fa : ∀ {α : Type} (x : Option α), nd_fa .byte (sR D 7) m (T - m) x = x := fun x => if_pos (fun i hi => hf (m + i) (by omega))
  simp (disch := (first | assumption | decide | omega)) only [df_X10_taken_77, df_X10_taken_157, t1, hm, fa, eq_self, Nat.reduceEqDiff, Nat.reduceLeDiff, nl_0, nl_7, nl_512, no_1, no_1024, pk_mul, nI_add, nm_ck, nI_clamp, nI_ltI, nI_leI, nI_eq, nb_b2, nb_b1, ↓nb_let, nm_z0, nm_z1, nb_II, nb_IR, nb_RI, nb_RR, nm_IL, nm_IQ, nm_RL, nm_RQ, nm_LI, nm_LR, nm_LL, nm_LQ, nm_QI, nm_QR, nm_QL, nm_QQ, nm_rr, nm_ii, nm_eqm, not_false_eq_true, pk_sub, nm_div, nm_shl, nm_shr, nm_ush, nm_or8, nm_or64, nm_or256, nm_m1, nm_m3, nm_m7, nm_m15, nm_m31, nm_m63, nm_m255, nm_m511, nm_m1023, nm_m2047, nm_m65535, Nat.reduceMod, Nat.reducePow, Nat.reduceAdd, Nat.reduceSub, Nat.reduceMul, nm_bo, nm_bi, nm_rc, nm_ic, nm_ri, nm_rl, nm_rq, nm_ql, nm_qi, nm_li, nm_us, nm_uu, nm_cp, nm_sa31, nm_sa7, nm_m127, nm_m2, nm_nz, nm_nzk, nm_eq32, nm_nzf, if_true, if_false, ↓reduceIte, if_pos, if_neg]
theorem rM_tk4 {B : Nat} {M X : St × St} (h : rM B M X) {T m : Nat} (hT : T ≤ 512) (hm : m ≤ T) (t1 : sI M.2 0 = nI T) : rM B (M.1, pI (pR M.2 7 (va_cpy (sR M.2 7) (sR M.2 7) m 0 (T - m))) 0 (nI (T - m))) (pI (pR X.1 31 (svk (sR X.1 31) 0 m (T - m))) 7 (nI (T - m)), X.2) := by
  obtain ⟨m1, m2, m3, m4, m5, m6, p1, p2, p3, ⟨T', q1, q2, q3, q4⟩, p5⟩ := h
  have eT : T' = T := nm_inI (by omega) (by omega) (q2.symm.trans t1)
  subst eT
  refine ⟨m1, m2, m3, m4, m5, ⟨m6.1, m6.2.1, m6.2.2.1, m6.2.2.2.1, fun i hi => ?_, m6.2.2.2.2.2⟩, p1, p2, p3, ⟨T' - m, by omega, rfl, rfl, fun i hi => ?_⟩, p5⟩
  · show fb8 (va_cpy (sR M.2 7) (sR M.2 7) m 0 (T' - m) i)
    by_cases c : 0 ≤ i ∧ i < 0 + (T' - m)
    · rw [va_i c]; exact m6.2.2.2.2.1 _ (by omega)
    · rw [va_o c]; exact m6.2.2.2.2.1 i hi
  show b8 (va_cpy (sR M.2 7) (sR M.2 7) m 0 (T' - m) i) (svk (sR X.1 31) 0 m (T' - m) i)
  rw [va_i (by omega), svk_i (by omega), show m + (i - 0) = i + m by omega]
  exact q4 (i + m) (by omega)

theorem wrs_t {n p a m : Nat} {v : Nat → Int32} {X : St × St} (h : ∀ k : Nat, k ≤ m → ∃ (b' fr' ho' : Nat → Int32) (us' re' wr' : Int32), wrs n p a v k X = some (wX X b' fr' (sR X.1 17) ho' us' re' wr')) {k : Nat} (hk : k < m) {s : St × St} (hs : wrs n p a v k X = some s) : ∃ s' : St × St, df_X16_write n (nI p) (nI (a + k)) (v k) s = some s' ∧ wrs n p a v (k + 1) X = some s' := by
  obtain ⟨b', fr', ho', us', re', wr', e⟩ := h (k + 1) (by omega)
  have e' : nd_b1 (wrs n p a v k X) (fun s => df_X16_write n (nI p) (nI (a + k)) (v k) s) = some (wX X b' fr' (sR X.1 17) ho' us' re' wr') := e
  rw [hs, nb_b1] at e'
  exact ⟨_, e', e⟩
/-- reading's loop: the reference -/
theorem rd_R (n : Nat) {X : St × St} {p A N o m : Nat} {x6 : Int32} {v : Nat → Int32} (hn : m < n) {Y : St × St} (hY : wrs n p A v m X = some Y) (h : ∀ k : Nat, k ≤ m → ∃ (b' fr' ho' : Nat → Int32) (us' re' wr' : Int32), wrs n p A v k X = some (wX X b' fr' (sR X.1 17) ho' us' re' wr')) (hr : ∀ (k : Nat) (b' fr' ho' : Nat → Int32) (us' re' wr' : Int32) (g : Int32 → Int32 → Int32 → Int32 → Int32 → Int32 → St × St → Option (Int32 × (St × St))), k < m → dF_X16_read_124 n g (nI A) (nI N) (nI o) (nI m) x6 (nI k) (wX X b' fr' (sR X.1 17) ho' us' re' wr') = nd_b1 (df_X16_write n (nI p) (nI (A + k)) (v k) (wX X b' fr' (sR X.1 17) ho' us' re' wr')) (fun s => g (nI A) (nI N) (nI o) (nI m) x6 (nI (k + 1)) s)) : ∃ q : Nat, df_X16_read_124 n n (nI A) (nI N) (nI o) (nI m) x6 (nI 0) X = df_X16_read_124 n (q + 1) (nI A) (nI N) (nI o) (nI m) x6 (nI m) Y := by
  obtain ⟨q, s, es, f⟩ := nm_l1 (fun q k s => df_X16_read_124 n q (nI A) (nI N) (nI o) (nI m) x6 (nI k) s) (fun k s => wrs n p A v k X = some s) m n hn (fun k q s hk hs => by
    obtain ⟨s', q1, q2⟩ := wrs_t h hk hs
    obtain ⟨b', fr', ho', us', re', wr', e⟩ := h k (by omega)
    have es := Option.some.inj (hs.symm.trans e)
    subst es
    refine ⟨s', q2, ?_⟩
    show df_X16_read_124 n (q + 1) _ _ _ _ _ (nI k) _ = df_X16_read_124 n q _ _ _ _ _ (nI (k + 1)) _
    rw [show df_X16_read_124 n (q + 1) = dF_X16_read_124 n (df_X16_read_124 n q) from rfl, hr k b' fr' ho' us' re' wr' _ hk, q1, nb_b1]) X rfl
  have es := Option.some.inj (es.symm.trans hY)
  subst es
  exact ⟨q, f⟩
/-- reading's loop: the class -/
theorem rd_C (n : Nat) {K1 K2 : St} {M : St × St} {w u g b fr ri ho : Nat → Int32} {fu us : Int32} (h : rQ w u g b fr ri ho fu us) {p A N o m : Nat} (hn : m < n) (hm : m ≤ 512) (hp : p < 16) (ha : A + m ≤ 65536) (hc : ∀ k : Nat, k < m → ∃ f : Nat, f < 256 ∧ fr (64 * p + (A + k) / 1024) = nI f ∧ cF fr f = 1) {v : Nat → Int32} (hv : ∀ k : Nat, k < m → df_X10_comingByte n (nI o) (nI k) M.2 = some (v k, M.2)) : ∃ (q : Nat) (w' : Nat → Int32), rQ w' u g (pbs b p A v m) fr ri ho fu us ∧ df_X5_read_160 n n (nI p) (nI A) (nI N) (nI o) (nI m) (nI 0) (K1, (K2, mU M w u g fu)) = df_X5_read_160 n (q + 1) (nI p) (nI A) (nI N) (nI o) (nI m) (nI m) (K1, (K2, mU M w' u g fu)) := by
  obtain ⟨q, s, ⟨w', es, hr⟩, f⟩ := nm_l1 (fun q k s => df_X5_read_160 n q (nI p) (nI A) (nI N) (nI o) (nI m) (nI k) (K1, (K2, s))) (fun k s => ∃ w' : Nat → Int32, s = mU M w' u g fu ∧ rQ w' u g (pbs b p A v k) fr ri ho fu us) m n hn (fun k q s hk ⟨w', es, hr⟩ => by
    subst es
    obtain ⟨f, f1, f2, f3⟩ := hc k hk
    obtain ⟨w'', p1, p2⟩ := nk_put1 n (M := M) hr hp (a := A + k) (by omega) f1 f2 f3 (v k)
    have hv' : df_X10_comingByte n (nI o) (nI k) (mU M w' u g fu).2 = some (v k, (mU M w' u g fu).2) := hv k hk
    have v1 : ¬ m ≤ k := by omega
    have v2 : m < 2 ^ 31 := by omega
    have v3 : k < 2 ^ 31 := by omega
    refine ⟨_, ⟨w'', rfl, p2⟩, ?_⟩
    show df_X5_read_160 n (q + 1) _ _ _ _ _ (nI k) _ = df_X5_read_160 n q _ _ _ _ _ (nI (k + 1)) _
    rw [show df_X5_read_160 n (q + 1) = dF_X5_read_160 n (df_X5_read_160 n q) from rfl]
    generalize df_X5_read_160 n q = G
    generalize mU M w' u g fu = S at p1 hv'
    clear hr p2 h hc hv
    simp (disch := (first | assumption | decide | omega)) only [dF_X5_read_160, v1, hv', p1, eq_self, Nat.reduceEqDiff, Nat.reduceLeDiff, nl_1, nl_255, no_1, no_1024, pk_mul, nI_add, nm_ck, nI_clamp, nI_ltI, nI_leI, nI_eq, nb_b2, nb_b1, ↓nb_let, nm_z0, nm_z1, nb_II, nb_IR, nb_RI, nb_RR, nm_IL, nm_IQ, nm_RL, nm_RQ, nm_LI, nm_LR, nm_LL, nm_LQ, nm_QI, nm_QR, nm_QL, nm_QQ, nm_rr, nm_ii, nm_eqm, not_false_eq_true, pk_sub, nm_div, nm_shl, nm_shr, nm_ush, nm_or8, nm_or64, nm_or256, nm_m1, nm_m3, nm_m7, nm_m15, nm_m31, nm_m63, nm_m255, nm_m511, nm_m1023, nm_m2047, nm_m65535, Nat.reduceMod, Nat.reducePow, Nat.reduceAdd, Nat.reduceSub, Nat.reduceMul, nm_bo, nm_bi, nm_rc, nm_ic, nm_ri, nm_rl, nm_rq, nm_ql, nm_qi, nm_li, nm_us, nm_uu, nm_cp, nm_sa31, nm_sa7, nm_m127, nm_m2, nm_nz, nm_nzk, nm_eq32, nm_nzf, if_true, if_false, ↓reduceIte, if_pos, if_neg]) (mU M w u g fu) ⟨w, rfl, h⟩
  subst es
  exact ⟨q, w', hr, f⟩
theorem nar_255 : ∀ z : Fin 256, vp_nar .byte ((nI z.1).toInt8.toInt32) &&& nI 255 = nI z.1 := by decide +kernel
theorem b8_255 {v u : Int32} (h : b8 v u) : v &&& nI 255 = u := by
  obtain ⟨z, hz, e1, e2⟩ := h
  rw [e1, e2]
  exact nar_255 ⟨z, hz⟩
/-- the bytes that come: the class -/
theorem cb_1 (n : Nat) {D : St} {o t L oo k : Nat} {u : Int32} (ho : o < 48) (ht : t < 8) (hoo : oo < 512) (hk : k < 512) (y5 : sR D 1 (o * 5) = nI 1) (y8 : sR D 1 (o * 5 + 2) = nI t) (l3 : sR D 2 (t * 4 + 3) = nI oo) (hb : b8 (sR D 3 (t * 512 + (oo + k) % 512)) u) : df_X10_comingByte n (nI o) (nI k) D = some (u, D) := by
  have u1 : o * 5 < 240 := by omega
  have u2 : o * 5 < 2 ^ 31 := by omega
  have u3 : o * 5 + 2 < 240 := by omega
  have u4 : t * 4 + 3 < 32 := by omega
  have u5 : t * 512 + (oo + k) % 512 < 4096 := by omega
  have u6 : t * 512 + (oo + k) % 512 < 2 ^ 31 := by omega
  have u7 : oo + k < 2 ^ 32 := by omega
  have of0 : df_X10_of n (nI o) (nI 0) D = some (nI 1, D) := by simp (disch := (first | assumption | decide | omega)) only [df_X10_of_0, df_X10_of, Nat.add_zero, y5, eq_self, Nat.reduceEqDiff, Nat.reduceLeDiff, nl_1, nl_5, nl_240, no_1, no_1024, pk_mul, nI_add, nm_ck, nI_clamp, nI_ltI, nI_leI, nI_eq, nb_b2, nb_b1, ↓nb_let, nm_z0, nm_z1, nb_II, nb_IR, nb_RI, nb_RR, nm_IL, nm_IQ, nm_RL, nm_RQ, nm_LI, nm_LR, nm_LL, nm_LQ, nm_QI, nm_QR, nm_QL, nm_QQ, nm_rr, nm_ii, nm_eqm, not_false_eq_true, pk_sub, nm_div, nm_shl, nm_shr, nm_ush, nm_or8, nm_or64, nm_or256, nm_m1, nm_m3, nm_m7, nm_m15, nm_m31, nm_m63, nm_m255, nm_m511, nm_m1023, nm_m2047, nm_m65535, Nat.reduceMod, Nat.reducePow, Nat.reduceAdd, Nat.reduceSub, Nat.reduceMul, nm_bo, nm_bi, nm_rc, nm_ic, nm_ri, nm_rl, nm_rq, nm_ql, nm_qi, nm_li, nm_us, nm_uu, nm_cp, nm_sa31, nm_sa7, nm_m127, nm_m2, nm_nz, nm_nzk, nm_eq32, nm_nzf, if_true, if_false, ↓reduceIte, if_pos, if_neg]
  have e := b8_255 hb
  simp (disch := (first | assumption | decide | omega)) only [df_X10_comingByte_24, df_X10_comingByte_0, df_X10_comingByte, df_X10_byteOf_0, df_X10_byteOf, of0, Nat.add_zero, y5, y8, l3, e, eq_self, Nat.reduceEqDiff, Nat.reduceLeDiff, nl_0, nl_1, nl_2, nl_3, nl_4, nl_5, nl_7, nl_32, nl_240, nl_255, nl_511, nl_512, nl_4096, nl_8192, no_1, no_1024, pk_mul, nI_add, nm_ck, nI_clamp, nI_ltI, nI_leI, nI_eq, nb_b2, nb_b1, ↓nb_let, nm_z0, nm_z1, nb_II, nb_IR, nb_RI, nb_RR, nm_IL, nm_IQ, nm_RL, nm_RQ, nm_LI, nm_LR, nm_LL, nm_LQ, nm_QI, nm_QR, nm_QL, nm_QQ, nm_rr, nm_ii, nm_eqm, not_false_eq_true, pk_sub, nm_div, nm_shl, nm_shr, nm_ush, nm_or8, nm_or64, nm_or256, nm_m1, nm_m3, nm_m7, nm_m15, nm_m31, nm_m63, nm_m255, nm_m511, nm_m1023, nm_m2047, nm_m65535, Nat.reduceMod, Nat.reducePow, Nat.reduceAdd, Nat.reduceSub, Nat.reduceMul, nm_bo, nm_bi, nm_rc, nm_ic, nm_ri, nm_rl, nm_rq, nm_ql, nm_qi, nm_li, nm_us, nm_uu, nm_cp, nm_sa31, nm_sa7, nm_m127, nm_m2, nm_nz, nm_nzk, nm_eq32, nm_nzf, if_true, if_false, ↓reduceIte, if_pos, if_neg]
theorem cb_3 (n : Nat) {D : St} {o t x k : Nat} {u : Int32} (ho : o < 48) (ht : t < 16) (hx : x + k < 512) (y5 : sR D 1 (o * 5) = nI 3) (y8 : sR D 1 (o * 5 + 2) = nI t) (y12 : sR D 1 (o * 5 + 3) = nI x) (hb : b8 (sR D 5 (t * 512 + (x + k))) u) : df_X10_comingByte n (nI o) (nI k) D = some (u, D) := by
  have u1 : o * 5 < 240 := by omega
  have u2 : o * 5 < 2 ^ 31 := by omega
  have u3 : o * 5 + 2 < 240 := by omega
  have u5 : t * 512 + (x + k) < 8192 := by omega
  have u6 : t * 512 + (x + k) < 2 ^ 31 := by omega
  have u7 : x + k < 2 ^ 32 := by omega
  have u8 : (x + k) % 512 = x + k := by omega
  have u9 : o * 5 + 3 < 240 := by omega
  have of0 : df_X10_of n (nI o) (nI 0) D = some (nI 3, D) := by simp (disch := (first | assumption | decide | omega)) only [df_X10_of_0, df_X10_of, Nat.add_zero, y5, eq_self, Nat.reduceEqDiff, Nat.reduceLeDiff, nl_1, nl_5, nl_240, no_1, no_1024, pk_mul, nI_add, nm_ck, nI_clamp, nI_ltI, nI_leI, nI_eq, nb_b2, nb_b1, ↓nb_let, nm_z0, nm_z1, nb_II, nb_IR, nb_RI, nb_RR, nm_IL, nm_IQ, nm_RL, nm_RQ, nm_LI, nm_LR, nm_LL, nm_LQ, nm_QI, nm_QR, nm_QL, nm_QQ, nm_rr, nm_ii, nm_eqm, not_false_eq_true, pk_sub, nm_div, nm_shl, nm_shr, nm_ush, nm_or8, nm_or64, nm_or256, nm_m1, nm_m3, nm_m7, nm_m15, nm_m31, nm_m63, nm_m255, nm_m511, nm_m1023, nm_m2047, nm_m65535, Nat.reduceMod, Nat.reducePow, Nat.reduceAdd, Nat.reduceSub, Nat.reduceMul, nm_bo, nm_bi, nm_rc, nm_ic, nm_ri, nm_rl, nm_rq, nm_ql, nm_qi, nm_li, nm_us, nm_uu, nm_cp, nm_sa31, nm_sa7, nm_m127, nm_m2, nm_nz, nm_nzk, nm_eq32, nm_nzf, if_true, if_false, ↓reduceIte, if_pos, if_neg]
  have of3 : df_X10_of n (nI o) (nI 3) D = some (nI x, D) := by simp (disch := (first | assumption | decide | omega)) only [df_X10_of_0, df_X10_of, y12, eq_self, Nat.reduceEqDiff, Nat.reduceLeDiff, nl_1, nl_5, nl_240, no_1, no_1024, pk_mul, nI_add, nm_ck, nI_clamp, nI_ltI, nI_leI, nI_eq, nb_b2, nb_b1, ↓nb_let, nm_z0, nm_z1, nb_II, nb_IR, nb_RI, nb_RR, nm_IL, nm_IQ, nm_RL, nm_RQ, nm_LI, nm_LR, nm_LL, nm_LQ, nm_QI, nm_QR, nm_QL, nm_QQ, nm_rr, nm_ii, nm_eqm, not_false_eq_true, pk_sub, nm_div, nm_shl, nm_shr, nm_ush, nm_or8, nm_or64, nm_or256, nm_m1, nm_m3, nm_m7, nm_m15, nm_m31, nm_m63, nm_m255, nm_m511, nm_m1023, nm_m2047, nm_m65535, Nat.reduceMod, Nat.reducePow, Nat.reduceAdd, Nat.reduceSub, Nat.reduceMul, nm_bo, nm_bi, nm_rc, nm_ic, nm_ri, nm_rl, nm_rq, nm_ql, nm_qi, nm_li, nm_us, nm_uu, nm_cp, nm_sa31, nm_sa7, nm_m127, nm_m2, nm_nz, nm_nzk, nm_eq32, nm_nzf, if_true, if_false, ↓reduceIte, if_pos, if_neg]
  have e := b8_255 hb
  simp (disch := (first | assumption | decide | omega)) only [df_X10_comingByte_24, df_X10_comingByte_0, df_X10_comingByte, df_X10_byteOf_0, df_X10_byteOf, of0, of3, Nat.add_zero, y5, y8, u8, e, eq_self, Nat.reduceEqDiff, Nat.reduceLeDiff, nl_0, nl_1, nl_2, nl_3, nl_4, nl_5, nl_7, nl_32, nl_240, nl_255, nl_511, nl_512, nl_4096, nl_8192, no_1, no_1024, pk_mul, nI_add, nm_ck, nI_clamp, nI_ltI, nI_leI, nI_eq, nb_b2, nb_b1, ↓nb_let, nm_z0, nm_z1, nb_II, nb_IR, nb_RI, nb_RR, nm_IL, nm_IQ, nm_RL, nm_RQ, nm_LI, nm_LR, nm_LL, nm_LQ, nm_QI, nm_QR, nm_QL, nm_QQ, nm_rr, nm_ii, nm_eqm, not_false_eq_true, pk_sub, nm_div, nm_shl, nm_shr, nm_ush, nm_or8, nm_or64, nm_or256, nm_m1, nm_m3, nm_m7, nm_m15, nm_m31, nm_m63, nm_m255, nm_m511, nm_m1023, nm_m2047, nm_m65535, Nat.reduceMod, Nat.reducePow, Nat.reduceAdd, Nat.reduceSub, Nat.reduceMul, nm_bo, nm_bi, nm_rc, nm_ic, nm_ri, nm_rl, nm_rq, nm_ql, nm_qi, nm_li, nm_us, nm_uu, nm_cp, nm_sa31, nm_sa7, nm_m127, nm_m2, nm_nz, nm_nzk, nm_eq32, nm_nzf, if_true, if_false, ↓reduceIte, if_pos, if_neg]
theorem cb_4 (n : Nat) {D : St} {o t k : Nat} {u : Int32} (ho : o < 48) (hk : k < 512) (y5 : sR D 1 (o * 5) = nI 4) (y8 : sR D 1 (o * 5 + 2) = nI t) (hb : b8 (sR D 7 k) u) : df_X10_comingByte n (nI o) (nI k) D = some (u, D) := by
  have u1 : o * 5 < 240 := by omega
  have u2 : o * 5 < 2 ^ 31 := by omega
  have u3 : o * 5 + 2 < 240 := by omega
  have u7 : k < 2 ^ 32 := by omega
  have u6 : k < 2 ^ 31 := by omega
  have u8 : k % 512 = k := by omega
  have of0 : df_X10_of n (nI o) (nI 0) D = some (nI 4, D) := by simp (disch := (first | assumption | decide | omega)) only [df_X10_of_0, df_X10_of, Nat.add_zero, y5, eq_self, Nat.reduceEqDiff, Nat.reduceLeDiff, nl_1, nl_5, nl_240, no_1, no_1024, pk_mul, nI_add, nm_ck, nI_clamp, nI_ltI, nI_leI, nI_eq, nb_b2, nb_b1, ↓nb_let, nm_z0, nm_z1, nb_II, nb_IR, nb_RI, nb_RR, nm_IL, nm_IQ, nm_RL, nm_RQ, nm_LI, nm_LR, nm_LL, nm_LQ, nm_QI, nm_QR, nm_QL, nm_QQ, nm_rr, nm_ii, nm_eqm, not_false_eq_true, pk_sub, nm_div, nm_shl, nm_shr, nm_ush, nm_or8, nm_or64, nm_or256, nm_m1, nm_m3, nm_m7, nm_m15, nm_m31, nm_m63, nm_m255, nm_m511, nm_m1023, nm_m2047, nm_m65535, Nat.reduceMod, Nat.reducePow, Nat.reduceAdd, Nat.reduceSub, Nat.reduceMul, nm_bo, nm_bi, nm_rc, nm_ic, nm_ri, nm_rl, nm_rq, nm_ql, nm_qi, nm_li, nm_us, nm_uu, nm_cp, nm_sa31, nm_sa7, nm_m127, nm_m2, nm_nz, nm_nzk, nm_eq32, nm_nzf, if_true, if_false, ↓reduceIte, if_pos, if_neg]
  have e := b8_255 hb
  simp (disch := (first | assumption | decide | omega)) only [df_X10_comingByte_24, df_X10_comingByte_0, df_X10_comingByte, df_X10_byteOf_0, df_X10_byteOf, of0, Nat.add_zero, y5, y8, u8, e, eq_self, Nat.reduceEqDiff, Nat.reduceLeDiff, nl_0, nl_1, nl_2, nl_3, nl_4, nl_5, nl_7, nl_32, nl_240, nl_255, nl_511, nl_512, nl_4096, nl_8192, no_1, no_1024, pk_mul, nI_add, nm_ck, nI_clamp, nI_ltI, nI_leI, nI_eq, nb_b2, nb_b1, ↓nb_let, nm_z0, nm_z1, nb_II, nb_IR, nb_RI, nb_RR, nm_IL, nm_IQ, nm_RL, nm_RQ, nm_LI, nm_LR, nm_LL, nm_LQ, nm_QI, nm_QR, nm_QL, nm_QQ, nm_rr, nm_ii, nm_eqm, not_false_eq_true, pk_sub, nm_div, nm_shl, nm_shr, nm_ush, nm_or8, nm_or64, nm_or256, nm_m1, nm_m3, nm_m7, nm_m15, nm_m31, nm_m63, nm_m255, nm_m511, nm_m1023, nm_m2047, nm_m65535, Nat.reduceMod, Nat.reducePow, Nat.reduceAdd, Nat.reduceSub, Nat.reduceMul, nm_bo, nm_bi, nm_rc, nm_ic, nm_ri, nm_rl, nm_rq, nm_ql, nm_qi, nm_li, nm_us, nm_uu, nm_cp, nm_sa31, nm_sa7, nm_m127, nm_m2, nm_nz, nm_nzk, nm_eq32, nm_nzf, if_true, if_false, ↓reduceIte, if_pos, if_neg]

/-- what was written: pages, what is reserved -/
theorem rM_wrote {B : Nat} {M X : St × St} (h : rM B M X) {w u g b fr ho : Nat → Int32} {fu us re wn wr : Int32} (hr : rQ w u g b fr (sR X.1 17) ho fu us) (ho' : okR re) (hfr : ∀ j : Nat, j < 1024 → (fr j = -nI 1 ↔ sR X.1 16 j = -nI 1)) : rM B (pI (pI (mU M w u g fu).1 6 re) 7 wn, M.2) (wX X b fr (sR X.1 17) ho us re wr) := by
  obtain ⟨m1, m2, m3, m4, ⟨g1, g2, g3, g4, g5, g6, g7, g8, g9, g10⟩, m6, m7⟩ := h
  refine ⟨hr, m2, fun q hq => ?_, m4, ⟨g1, g2, g3, g4, g5, g6, g7, rfl, ho', g10⟩, m6, m7⟩
  exact rP1_ag (m3 q hq) ⟨fun _ _ => rfl, fun _ _ => rfl, fun _ _ => rfl, fun _ _ => rfl, rfl⟩ ⟨⟨rfl, rfl, rfl, rfl, rfl, rfl, rfl, rfl⟩, fun _ _ => rfl, rfl, fun _ _ => rfl, rfl, fun _ _ => rfl, fun _ _ => rfl, fun i hi => hfr (64 * q + i) (by omega), rfl⟩
/-- what reading takes, from each kind -/
theorem rd_T (n : Nat) (hn : 1024 < n) {B : Nat} {M X : St × St} (h : rM B M X) {o k t m N : Nat} (ho : o < 48) (ht : t < 16) (hN : N ≤ 512) (hmN : m ≤ N) (hk : k = 1 ∨ k = 3 ∨ k = 4) (ek : sR X.1 19 o = nI k) (et : sR X.1 20 o = nI t) (f1 : k = 1 → ∀ L : Nat, L ≤ 512 → sR X.1 26 t = nI L → m ≤ L) (f3 : k = 3 → ∀ x : Nat, x ≤ 512 → sR X.1 21 o = nI x → x + m ≤ 512) (f4 : k = 4 → ∀ T : Nat, T ≤ 512 → sI X.1 7 = nI T → m ≤ T) (A : Int32) : ∃ (D' : St) (X' : St × St), df_X10_taken n (nI o) (nI N) (nI m) M.2 = some D' ∧ (∀ g : Int32 → Int32 → Int32 → Int32 → Int32 → Int32 → St × St → Option (Int32 × (St × St)), dF_X16_read_124 n g A (nI N) (nI o) (nI m) (nI t) (nI m) X = some (nI m, X')) ∧ rM B (M.1, D') X' ∧ kX X X' ∧ sR X'.1 1 = sR X.1 1 := by
  have h0 := h
  obtain ⟨m1, m2, m3, m4, m5, m6, m7⟩ := h
  rcases m2.2.1 o ho with ⟨z1, _⟩ | ⟨kk, tt, y1, y2, y3, y4, y5, y6, y7, y8, y9, y10, y11, y12, y13, y14, y15⟩
  · rw [ek] at z1
    have := nm_inI (by omega) (by omega) z1
    omega
  have e1 : kk = k := nm_inI (by omega) (by omega) (y4.symm.trans ek)
  subst e1
  have e2 : tt = t := nm_inI (by omega) (by omega) (y7.symm.trans et)
  subst e2
  have u1 : o * 5 < 240 := by omega
  have u2 : o * 5 < 2 ^ 31 := by omega
  have u3 : o * 5 + 2 < 240 := by omega
  have u4 : o * 5 + 3 < 240 := by omega
  have u5 : o < 2 ^ 31 := by omega
  have u6 : m < 2 ^ 31 := by omega
  have u7 : N < 2 ^ 31 := by omega
  rcases hk with e | e | e
  · subst e
    have t8 := y9 (by omega)
    have e23 : sR X.1 23 tt = nI 1 := by
      have x1 : 0 < cE (sR X.1 19) (sR X.1 20) 1 tt := cN_p (P := fun j => decide (sR X.1 19 j = nI 1 ∧ sR X.1 20 j = nI tt)) (i := o) (decide_eq_true ⟨y4, y7⟩) ho
      rw [(m2.2.2.1 tt t8).2.2, decide_eq_true (by omega)]
      rfl
    obtain ⟨L, oo, hL, hoo, l1, l2, l3, _⟩ := m7.1 tt t8 e23
    have hm := f1 rfl L hL l2
    have tr := tk_R1 n hn (X := X) t8 hL hm l2
    refine ⟨_, _, tk_C1 n ho t8 hL hm hoo y5 y8 l1 l3, fun g => ?_, rM_tk1 h0 t8 hL hm hoo e23 l1 l3, ⟨rfl, rfl, rfl, rfl, rfl, rfl, rfl⟩, rfl⟩
    clear h0 m2 m3 m7
    simp (disch := (first | assumption | decide | omega)) only [dF_X16_read_124, Nat.le_refl, y4, tr, eq_self, Nat.reduceEqDiff, Nat.reduceLeDiff, nl_1, nl_3, nl_7, nl_12, nl_19, nl_21, nl_27, nl_29, nl_31, nl_48, nl_512, nl_4096, nl_8192, no_1, no_1024, pk_mul, nI_add, nm_ck, nI_clamp, nI_ltI, nI_leI, nI_eq, nb_b2, nb_b1, ↓nb_let, nm_z0, nm_z1, nb_II, nb_IR, nb_RI, nb_RR, nm_IL, nm_IQ, nm_RL, nm_RQ, nm_LI, nm_LR, nm_LL, nm_LQ, nm_QI, nm_QR, nm_QL, nm_QQ, nm_rr, nm_ii, nm_eqm, not_false_eq_true, pk_sub, nm_div, nm_shl, nm_shr, nm_ush, nm_or8, nm_or64, nm_or256, nm_m1, nm_m3, nm_m7, nm_m15, nm_m31, nm_m63, nm_m255, nm_m511, nm_m1023, nm_m2047, nm_m65535, Nat.reduceMod, Nat.reducePow, Nat.reduceAdd, Nat.reduceSub, Nat.reduceMul, nm_bo, nm_bi, nm_rc, nm_ic, nm_ri, nm_rl, nm_rq, nm_ql, nm_qi, nm_li, nm_us, nm_uu, nm_cp, nm_sa31, nm_sa7, nm_m127, nm_m2, nm_nz, nm_nzk, nm_eq32, nm_nzf, if_true, if_false, ↓reduceIte, if_pos, if_neg]
  · subst e
    obtain ⟨x, hx, ex⟩ := y15 rfl
    have hxm := f3 rfl x hx ex
    have op3 : sR M.2 1 (o * 5 + 3) = nI x := (y12 rfl).trans ex
    refine ⟨pR M.2 1 (upd (sR M.2 1) (o * 5 + 3) (nI (x + m))), (pR X.1 21 (upd (sR X.1 21) o (nI (x + m))), X.2), ?_, fun g => ?_, ⟨m1, rD_seek m2 ho hxm y4, m3, m4, m5, m6, m7⟩, ⟨rfl, rfl, rfl, rfl, rfl, rfl, rfl⟩, rfl⟩
    · have of0 : df_X10_of n (nI o) (nI 0) M.2 = some (nI 3, M.2) := by simp (disch := (first | assumption | decide | omega)) only [df_X10_of_0, df_X10_of, Nat.add_zero, y5, eq_self, Nat.reduceEqDiff, Nat.reduceLeDiff, nl_1, nl_5, nl_240, no_1, no_1024, pk_mul, nI_add, nm_ck, nI_clamp, nI_ltI, nI_leI, nI_eq, nb_b2, nb_b1, ↓nb_let, nm_z0, nm_z1, nb_II, nb_IR, nb_RI, nb_RR, nm_IL, nm_IQ, nm_RL, nm_RQ, nm_LI, nm_LR, nm_LL, nm_LQ, nm_QI, nm_QR, nm_QL, nm_QQ, nm_rr, nm_ii, nm_eqm, not_false_eq_true, pk_sub, nm_div, nm_shl, nm_shr, nm_ush, nm_or8, nm_or64, nm_or256, nm_m1, nm_m3, nm_m7, nm_m15, nm_m31, nm_m63, nm_m255, nm_m511, nm_m1023, nm_m2047, nm_m65535, Nat.reduceMod, Nat.reducePow, Nat.reduceAdd, Nat.reduceSub, Nat.reduceMul, nm_bo, nm_bi, nm_rc, nm_ic, nm_ri, nm_rl, nm_rq, nm_ql, nm_qi, nm_li, nm_us, nm_uu, nm_cp, nm_sa31, nm_sa7, nm_m127, nm_m2, nm_nz, nm_nzk, nm_eq32, nm_nzf, if_true, if_false, ↓reduceIte, if_pos, if_neg]
      have of2 : df_X10_of n (nI o) (nI 2) M.2 = some (nI tt, M.2) := by simp (disch := (first | assumption | decide | omega)) only [df_X10_of_0, df_X10_of, y8, eq_self, Nat.reduceEqDiff, Nat.reduceLeDiff, nl_1, nl_5, nl_240, no_1, no_1024, pk_mul, nI_add, nm_ck, nI_clamp, nI_ltI, nI_leI, nI_eq, nb_b2, nb_b1, ↓nb_let, nm_z0, nm_z1, nb_II, nb_IR, nb_RI, nb_RR, nm_IL, nm_IQ, nm_RL, nm_RQ, nm_LI, nm_LR, nm_LL, nm_LQ, nm_QI, nm_QR, nm_QL, nm_QQ, nm_rr, nm_ii, nm_eqm, not_false_eq_true, pk_sub, nm_div, nm_shl, nm_shr, nm_ush, nm_or8, nm_or64, nm_or256, nm_m1, nm_m3, nm_m7, nm_m15, nm_m31, nm_m63, nm_m255, nm_m511, nm_m1023, nm_m2047, nm_m65535, Nat.reduceMod, Nat.reducePow, Nat.reduceAdd, Nat.reduceSub, Nat.reduceMul, nm_bo, nm_bi, nm_rc, nm_ic, nm_ri, nm_rl, nm_rq, nm_ql, nm_qi, nm_li, nm_us, nm_uu, nm_cp, nm_sa31, nm_sa7, nm_m127, nm_m2, nm_nz, nm_nzk, nm_eq32, nm_nzf, if_true, if_false, ↓reduceIte, if_pos, if_neg]
      clear h0 m2 m3 m7
      simp (disch := (first | assumption | decide | omega)) only [df_X10_taken, df_X10_taken_0, df_X10_taken_157, of0, of2, op3, eq_self, Nat.reduceEqDiff, Nat.reduceLeDiff, nl_0, nl_1, nl_2, nl_3, nl_4, nl_5, nl_32, nl_240, nl_511, no_1, no_1024, pk_mul, nI_add, nm_ck, nI_clamp, nI_ltI, nI_leI, nI_eq, nb_b2, nb_b1, ↓nb_let, nm_z0, nm_z1, nb_II, nb_IR, nb_RI, nb_RR, nm_IL, nm_IQ, nm_RL, nm_RQ, nm_LI, nm_LR, nm_LL, nm_LQ, nm_QI, nm_QR, nm_QL, nm_QQ, nm_rr, nm_ii, nm_eqm, not_false_eq_true, pk_sub, nm_div, nm_shl, nm_shr, nm_ush, nm_or8, nm_or64, nm_or256, nm_m1, nm_m3, nm_m7, nm_m15, nm_m31, nm_m63, nm_m255, nm_m511, nm_m1023, nm_m2047, nm_m65535, Nat.reduceMod, Nat.reducePow, Nat.reduceAdd, Nat.reduceSub, Nat.reduceMul, nm_bo, nm_bi, nm_rc, nm_ic, nm_ri, nm_rl, nm_rq, nm_ql, nm_qi, nm_li, nm_us, nm_uu, nm_cp, nm_sa31, nm_sa7, nm_m127, nm_m2, nm_nz, nm_nzk, nm_eq32, nm_nzf, if_true, if_false, ↓reduceIte, if_pos, if_neg]
    · clear h0 m2 m3 m7
      simp (disch := (first | assumption | decide | omega)) only [dF_X16_read_124, df_X16_read_398, Nat.le_refl, y4, ex, eq_self, Nat.reduceEqDiff, Nat.reduceLeDiff, nl_1, nl_3, nl_7, nl_12, nl_19, nl_21, nl_27, nl_29, nl_31, nl_48, nl_512, nl_4096, nl_8192, no_1, no_1024, pk_mul, nI_add, nm_ck, nI_clamp, nI_ltI, nI_leI, nI_eq, nb_b2, nb_b1, ↓nb_let, nm_z0, nm_z1, nb_II, nb_IR, nb_RI, nb_RR, nm_IL, nm_IQ, nm_RL, nm_RQ, nm_LI, nm_LR, nm_LL, nm_LQ, nm_QI, nm_QR, nm_QL, nm_QQ, nm_rr, nm_ii, nm_eqm, not_false_eq_true, pk_sub, nm_div, nm_shl, nm_shr, nm_ush, nm_or8, nm_or64, nm_or256, nm_m1, nm_m3, nm_m7, nm_m15, nm_m31, nm_m63, nm_m255, nm_m511, nm_m1023, nm_m2047, nm_m65535, Nat.reduceMod, Nat.reducePow, Nat.reduceAdd, Nat.reduceSub, Nat.reduceMul, nm_bo, nm_bi, nm_rc, nm_ic, nm_ri, nm_rl, nm_rq, nm_ql, nm_qi, nm_li, nm_us, nm_uu, nm_cp, nm_sa31, nm_sa7, nm_m127, nm_m2, nm_nz, nm_nzk, nm_eq32, nm_nzf, if_true, if_false, ↓reduceIte, if_pos, if_neg]
  · subst e
    obtain ⟨T, hT, t1, t2, t3⟩ := m7.2.2.2.1
    have hm := f4 rfl T hT t2
    have of0 : df_X10_of n (nI o) (nI 0) M.2 = some (nI 4, M.2) := by simp (disch := (first | assumption | decide | omega)) only [df_X10_of_0, df_X10_of, Nat.add_zero, y5, eq_self, Nat.reduceEqDiff, Nat.reduceLeDiff, nl_1, nl_5, nl_240, no_1, no_1024, pk_mul, nI_add, nm_ck, nI_clamp, nI_ltI, nI_leI, nI_eq, nb_b2, nb_b1, ↓nb_let, nm_z0, nm_z1, nb_II, nb_IR, nb_RI, nb_RR, nm_IL, nm_IQ, nm_RL, nm_RQ, nm_LI, nm_LR, nm_LL, nm_LQ, nm_QI, nm_QR, nm_QL, nm_QQ, nm_rr, nm_ii, nm_eqm, not_false_eq_true, pk_sub, nm_div, nm_shl, nm_shr, nm_ush, nm_or8, nm_or64, nm_or256, nm_m1, nm_m3, nm_m7, nm_m15, nm_m31, nm_m63, nm_m255, nm_m511, nm_m1023, nm_m2047, nm_m65535, Nat.reduceMod, Nat.reducePow, Nat.reduceAdd, Nat.reduceSub, Nat.reduceMul, nm_bo, nm_bi, nm_rc, nm_ic, nm_ri, nm_rl, nm_rq, nm_ql, nm_qi, nm_li, nm_us, nm_uu, nm_cp, nm_sa31, nm_sa7, nm_m127, nm_m2, nm_nz, nm_nzk, nm_eq32, nm_nzf, if_true, if_false, ↓reduceIte, if_pos, if_neg]
    have of2 : df_X10_of n (nI o) (nI 2) M.2 = some (nI tt, M.2) := by simp (disch := (first | assumption | decide | omega)) only [df_X10_of_0, df_X10_of, y8, eq_self, Nat.reduceEqDiff, Nat.reduceLeDiff, nl_1, nl_5, nl_240, no_1, no_1024, pk_mul, nI_add, nm_ck, nI_clamp, nI_ltI, nI_leI, nI_eq, nb_b2, nb_b1, ↓nb_let, nm_z0, nm_z1, nb_II, nb_IR, nb_RI, nb_RR, nm_IL, nm_IQ, nm_RL, nm_RQ, nm_LI, nm_LR, nm_LL, nm_LQ, nm_QI, nm_QR, nm_QL, nm_QQ, nm_rr, nm_ii, nm_eqm, not_false_eq_true, pk_sub, nm_div, nm_shl, nm_shr, nm_ush, nm_or8, nm_or64, nm_or256, nm_m1, nm_m3, nm_m7, nm_m15, nm_m31, nm_m63, nm_m255, nm_m511, nm_m1023, nm_m2047, nm_m65535, Nat.reduceMod, Nat.reducePow, Nat.reduceAdd, Nat.reduceSub, Nat.reduceMul, nm_bo, nm_bi, nm_rc, nm_ic, nm_ri, nm_rl, nm_rq, nm_ql, nm_qi, nm_li, nm_us, nm_uu, nm_cp, nm_sa31, nm_sa7, nm_m127, nm_m2, nm_nz, nm_nzk, nm_eq32, nm_nzf, if_true, if_false, ↓reduceIte, if_pos, if_neg]
    have ft : ∀ i : Nat, i < T → fits .byte (.int (sR M.2 7 i)) = true := fun i hi => b8_fit (t3 i hi)
    have v1 : T < 2 ^ 31 := by omega
    by_cases c : N ≤ m ∨ T ≤ m
    · have tr := tk_R4 n hn (X := X) (v := m) hT hm t2
      have tc := tk_C4 n (D := M.2) hT hm t1 ft
      refine ⟨_, _, ?_, fun g => ?_, rM_tk4 h0 hT hm t1, ⟨rfl, rfl, rfl, rfl, rfl, rfl, rfl⟩, rfl⟩
      · clear h0 m2 m3 m7
        by_cases d : N ≤ m
        · simp (disch := (first | assumption | decide | omega)) only [df_X10_taken, df_X10_taken_0, df_X10_taken_76, of0, of2, d, tc, eq_self, Nat.reduceEqDiff, Nat.reduceLeDiff, nl_0, nl_1, nl_2, nl_3, nl_4, nl_5, nl_32, nl_240, nl_511, no_1, no_1024, pk_mul, nI_add, nm_ck, nI_clamp, nI_ltI, nI_leI, nI_eq, nb_b2, nb_b1, ↓nb_let, nm_z0, nm_z1, nb_II, nb_IR, nb_RI, nb_RR, nm_IL, nm_IQ, nm_RL, nm_RQ, nm_LI, nm_LR, nm_LL, nm_LQ, nm_QI, nm_QR, nm_QL, nm_QQ, nm_rr, nm_ii, nm_eqm, not_false_eq_true, pk_sub, nm_div, nm_shl, nm_shr, nm_ush, nm_or8, nm_or64, nm_or256, nm_m1, nm_m3, nm_m7, nm_m15, nm_m31, nm_m63, nm_m255, nm_m511, nm_m1023, nm_m2047, nm_m65535, Nat.reduceMod, Nat.reducePow, Nat.reduceAdd, Nat.reduceSub, Nat.reduceMul, nm_bo, nm_bi, nm_rc, nm_ic, nm_ri, nm_rl, nm_rq, nm_ql, nm_qi, nm_li, nm_us, nm_uu, nm_cp, nm_sa31, nm_sa7, nm_m127, nm_m2, nm_nz, nm_nzk, nm_eq32, nm_nzf, if_true, if_false, ↓reduceIte, if_pos, if_neg]
        · have d2 : T ≤ m := by omega
          simp (disch := (first | assumption | decide | omega)) only [df_X10_taken, df_X10_taken_0, df_X10_taken_76, of0, of2, d, t1, d2, tc, eq_self, Nat.reduceEqDiff, Nat.reduceLeDiff, nl_0, nl_1, nl_2, nl_3, nl_4, nl_5, nl_32, nl_240, nl_511, no_1, no_1024, pk_mul, nI_add, nm_ck, nI_clamp, nI_ltI, nI_leI, nI_eq, nb_b2, nb_b1, ↓nb_let, nm_z0, nm_z1, nb_II, nb_IR, nb_RI, nb_RR, nm_IL, nm_IQ, nm_RL, nm_RQ, nm_LI, nm_LR, nm_LL, nm_LQ, nm_QI, nm_QR, nm_QL, nm_QQ, nm_rr, nm_ii, nm_eqm, not_false_eq_true, pk_sub, nm_div, nm_shl, nm_shr, nm_ush, nm_or8, nm_or64, nm_or256, nm_m1, nm_m3, nm_m7, nm_m15, nm_m31, nm_m63, nm_m255, nm_m511, nm_m1023, nm_m2047, nm_m65535, Nat.reduceMod, Nat.reducePow, Nat.reduceAdd, Nat.reduceSub, Nat.reduceMul, nm_bo, nm_bi, nm_rc, nm_ic, nm_ri, nm_rl, nm_rq, nm_ql, nm_qi, nm_li, nm_us, nm_uu, nm_cp, nm_sa31, nm_sa7, nm_m127, nm_m2, nm_nz, nm_nzk, nm_eq32, nm_nzf, if_true, if_false, ↓reduceIte, if_pos, if_neg]
      · clear h0 m2 m3 m7
        by_cases d : N ≤ m
        · simp (disch := (first | assumption | decide | omega)) only [dF_X16_read_124, df_X16_read_347, df_X16_read_349, Nat.le_refl, y4, d, tr, eq_self, Nat.reduceEqDiff, Nat.reduceLeDiff, nl_1, nl_3, nl_7, nl_12, nl_19, nl_21, nl_27, nl_29, nl_31, nl_48, nl_512, nl_4096, nl_8192, no_1, no_1024, pk_mul, nI_add, nm_ck, nI_clamp, nI_ltI, nI_leI, nI_eq, nb_b2, nb_b1, ↓nb_let, nm_z0, nm_z1, nb_II, nb_IR, nb_RI, nb_RR, nm_IL, nm_IQ, nm_RL, nm_RQ, nm_LI, nm_LR, nm_LL, nm_LQ, nm_QI, nm_QR, nm_QL, nm_QQ, nm_rr, nm_ii, nm_eqm, not_false_eq_true, pk_sub, nm_div, nm_shl, nm_shr, nm_ush, nm_or8, nm_or64, nm_or256, nm_m1, nm_m3, nm_m7, nm_m15, nm_m31, nm_m63, nm_m255, nm_m511, nm_m1023, nm_m2047, nm_m65535, Nat.reduceMod, Nat.reducePow, Nat.reduceAdd, Nat.reduceSub, Nat.reduceMul, nm_bo, nm_bi, nm_rc, nm_ic, nm_ri, nm_rl, nm_rq, nm_ql, nm_qi, nm_li, nm_us, nm_uu, nm_cp, nm_sa31, nm_sa7, nm_m127, nm_m2, nm_nz, nm_nzk, nm_eq32, nm_nzf, if_true, if_false, ↓reduceIte, if_pos, if_neg]
        · have d2 : T ≤ m := by omega
          simp (disch := (first | assumption | decide | omega)) only [dF_X16_read_124, df_X16_read_347, df_X16_read_349, Nat.le_refl, y4, d, t2, d2, tr, eq_self, Nat.reduceEqDiff, Nat.reduceLeDiff, nl_1, nl_3, nl_7, nl_12, nl_19, nl_21, nl_27, nl_29, nl_31, nl_48, nl_512, nl_4096, nl_8192, no_1, no_1024, pk_mul, nI_add, nm_ck, nI_clamp, nI_ltI, nI_leI, nI_eq, nb_b2, nb_b1, ↓nb_let, nm_z0, nm_z1, nb_II, nb_IR, nb_RI, nb_RR, nm_IL, nm_IQ, nm_RL, nm_RQ, nm_LI, nm_LR, nm_LL, nm_LQ, nm_QI, nm_QR, nm_QL, nm_QQ, nm_rr, nm_ii, nm_eqm, not_false_eq_true, pk_sub, nm_div, nm_shl, nm_shr, nm_ush, nm_or8, nm_or64, nm_or256, nm_m1, nm_m3, nm_m7, nm_m15, nm_m31, nm_m63, nm_m255, nm_m511, nm_m1023, nm_m2047, nm_m65535, Nat.reduceMod, Nat.reducePow, Nat.reduceAdd, Nat.reduceSub, Nat.reduceMul, nm_bo, nm_bi, nm_rc, nm_ic, nm_ri, nm_rl, nm_rq, nm_ql, nm_qi, nm_li, nm_us, nm_uu, nm_cp, nm_sa31, nm_sa7, nm_m127, nm_m2, nm_nz, nm_nzk, nm_eq32, nm_nzf, if_true, if_false, ↓reduceIte, if_pos, if_neg]
    · have d : ¬ N ≤ m := fun z => c (Or.inl z)
      have d2 : ¬ T ≤ m := fun z => c (Or.inr z)
      have tr := tk_R4 n hn (X := X) (m := m + 1) (v := m) hT (by omega) t2
      have tc := tk_C4 n (D := M.2) (m := m + 1) hT (by omega) t1 ft
      refine ⟨_, _, ?_, fun g => ?_, rM_tk4 h0 hT (m := m + 1) (by omega) t1, ⟨rfl, rfl, rfl, rfl, rfl, rfl, rfl⟩, rfl⟩
      · clear h0 m2 m3 m7
        simp (disch := (first | assumption | decide | omega)) only [df_X10_taken, df_X10_taken_0, of0, of2, d, t1, d2, tc, eq_self, Nat.reduceEqDiff, Nat.reduceLeDiff, nl_0, nl_1, nl_2, nl_3, nl_4, nl_5, nl_32, nl_240, nl_511, no_1, no_1024, pk_mul, nI_add, nm_ck, nI_clamp, nI_ltI, nI_leI, nI_eq, nb_b2, nb_b1, ↓nb_let, nm_z0, nm_z1, nb_II, nb_IR, nb_RI, nb_RR, nm_IL, nm_IQ, nm_RL, nm_RQ, nm_LI, nm_LR, nm_LL, nm_LQ, nm_QI, nm_QR, nm_QL, nm_QQ, nm_rr, nm_ii, nm_eqm, not_false_eq_true, pk_sub, nm_div, nm_shl, nm_shr, nm_ush, nm_or8, nm_or64, nm_or256, nm_m1, nm_m3, nm_m7, nm_m15, nm_m31, nm_m63, nm_m255, nm_m511, nm_m1023, nm_m2047, nm_m65535, Nat.reduceMod, Nat.reducePow, Nat.reduceAdd, Nat.reduceSub, Nat.reduceMul, nm_bo, nm_bi, nm_rc, nm_ic, nm_ri, nm_rl, nm_rq, nm_ql, nm_qi, nm_li, nm_us, nm_uu, nm_cp, nm_sa31, nm_sa7, nm_m127, nm_m2, nm_nz, nm_nzk, nm_eq32, nm_nzf, if_true, if_false, ↓reduceIte, if_pos, if_neg]
      · clear h0 m2 m3 m7
        simp (disch := (first | assumption | decide | omega)) only [dF_X16_read_124, df_X16_read_349, Nat.le_refl, y4, d, t2, d2, tr, eq_self, Nat.reduceEqDiff, Nat.reduceLeDiff, nl_1, nl_3, nl_7, nl_12, nl_19, nl_21, nl_27, nl_29, nl_31, nl_48, nl_512, nl_4096, nl_8192, no_1, no_1024, pk_mul, nI_add, nm_ck, nI_clamp, nI_ltI, nI_leI, nI_eq, nb_b2, nb_b1, ↓nb_let, nm_z0, nm_z1, nb_II, nb_IR, nb_RI, nb_RR, nm_IL, nm_IQ, nm_RL, nm_RQ, nm_LI, nm_LR, nm_LL, nm_LQ, nm_QI, nm_QR, nm_QL, nm_QQ, nm_rr, nm_ii, nm_eqm, not_false_eq_true, pk_sub, nm_div, nm_shl, nm_shr, nm_ush, nm_or8, nm_or64, nm_or256, nm_m1, nm_m3, nm_m7, nm_m15, nm_m31, nm_m63, nm_m255, nm_m511, nm_m1023, nm_m2047, nm_m65535, Nat.reduceMod, Nat.reducePow, Nat.reduceAdd, Nat.reduceSub, Nat.reduceMul, nm_bo, nm_bi, nm_rc, nm_ic, nm_ri, nm_rl, nm_rq, nm_ql, nm_qi, nm_li, nm_us, nm_uu, nm_cp, nm_sa31, nm_sa7, nm_m127, nm_m2, nm_nz, nm_nzk, nm_eq32, nm_nzf, if_true, if_false, ↓reduceIte, if_pos, if_neg]

/-- what comes, from each kind: how many bytes and which -/
theorem rd_K (n : Nat) (hn : 1024 < n) {B : Nat} {M X : St × St} (h : rM B M X) {p : Nat} (h3 : sI X.1 12 = nI p) {o k t N A : Nat} (ho : o < 48) (ht : t < 16) (hN : N ≤ 512) (hk : k = 1 ∨ k = 3 ∨ k = 4) (ek : sR X.1 19 o = nI k) (et : sR X.1 20 o = nI t) : ∃ (m : Nat) (v : Nat → Int32), m ≤ N ∧ df_X10_coming n (nI o) (nI N) M.2 = some (nI m, M.2) ∧ df_X16_comes n (nI o) (nI N) X = some (nI m, X) ∧ (k = 1 → ∀ L : Nat, L ≤ 512 → sR X.1 26 t = nI L → m ≤ L) ∧ (k = 3 → ∀ x : Nat, x ≤ 512 → sR X.1 21 o = nI x → x + m ≤ 512) ∧ (k = 4 → ∀ T : Nat, T ≤ 512 → sI X.1 7 = nI T → m ≤ T) ∧ (∀ j : Nat, j < m → df_X10_comingByte n (nI o) (nI j) M.2 = some (v j, M.2)) ∧ ∀ (j : Nat) (b' fr' ho' : Nat → Int32) (us' re' wr' : Int32) (g : Int32 → Int32 → Int32 → Int32 → Int32 → Int32 → St × St → Option (Int32 × (St × St))), j < m → dF_X16_read_124 n g (nI A) (nI N) (nI o) (nI m) (nI t) (nI j) (wX X b' fr' (sR X.1 17) ho' us' re' wr') = nd_b1 (df_X16_write n (nI p) (nI (A + j)) (v j) (wX X b' fr' (sR X.1 17) ho' us' re' wr')) (fun s => g (nI A) (nI N) (nI o) (nI m) (nI t) (nI (j + 1)) s) := by
  obtain ⟨m1, m2, m3, m4, m5, m6, m7⟩ := h
  rcases m2.2.1 o ho with ⟨z1, _⟩ | ⟨kk, tt, y1, y2, y3, y4, y5, y6, y7, y8, y9, y10, y11, y12, y13, y14, y15⟩
  · rw [ek] at z1
    have := nm_inI (by omega) (by omega) z1
    omega
  have e1 : kk = k := nm_inI (by omega) (by omega) (y4.symm.trans ek)
  subst e1
  have e2 : tt = t := nm_inI (by omega) (by omega) (y7.symm.trans et)
  subst e2
  have u5 : o < 2 ^ 31 := by omega
  rcases hk with e | e | e
  · subst e
    have t8 := y9 (by omega)
    have e23 : sR X.1 23 tt = nI 1 := by
      have x1 : 0 < cE (sR X.1 19) (sR X.1 20) 1 tt := cN_p (P := fun j => decide (sR X.1 19 j = nI 1 ∧ sR X.1 20 j = nI tt)) (i := o) (decide_eq_true ⟨y4, y7⟩) ho
      rw [(m2.2.2.1 tt t8).2.2, decide_eq_true (by omega)]
      rfl
    obtain ⟨L, oo, hL, hoo, l1, l2, l3, l4⟩ := m7.1 tt t8 e23
    obtain ⟨c1, c2⟩ := cm_1 n (N := N) ho t8 hN hL y5 y8 l1 y4 y7 l2
    have hW : (if L < N then L else N) ≤ L ∧ (if L < N then L else N) ≤ N := by
      by_cases c : L < N
      · rw [if_pos c]; omega
      · rw [if_neg c]; omega
    generalize (if L < N then L else N) = m at c1 c2 hW
    refine ⟨m, fun j => sR X.1 27 (512 * tt + j), hW.2, c1, c2, fun _ L' hL' e => ?_, fun z => absurd z (by omega), fun z => absurd z (by omega), fun j hj => cb_1 n (L := L) ho t8 hoo (by omega) y5 y8 l3 (l4 j (by omega)), fun j b' fr' ho' us' re' wr' g hj => ?_⟩
    · have : L' = L := nm_inI (by omega) (by omega) (e.symm.trans l2)
      omega
    · have w12 : sI (wX X b' fr' (sR X.1 17) ho' us' re' wr').1 12 = nI p := h3
      have w19 : sR (wX X b' fr' (sR X.1 17) ho' us' re' wr').1 19 o = nI 1 := y4
      have w27 : sR (wX X b' fr' (sR X.1 17) ho' us' re' wr').1 27 (512 * tt + j) = sR X.1 27 (512 * tt + j) := rfl
      generalize wX X b' fr' (sR X.1 17) ho' us' re' wr' = Y at w12 w19 w27
      have v1 : ¬ m ≤ j := by omega
      have v2 : m < 2 ^ 31 := by omega
      have v3 : j < 2 ^ 31 := by omega
      have v4 : 512 * tt + j < 4096 := by omega
      have v5 : 512 * tt + j < 2 ^ 31 := by omega
      clear m2 m3 m7 l4 c1 c2
      simp (disch := (first | assumption | decide | omega)) only [dF_X16_read_124, df_X16_read_211, v1, w19, w12, w27, eq_self, Nat.reduceEqDiff, Nat.reduceLeDiff, nl_1, nl_3, nl_7, nl_12, nl_19, nl_21, nl_27, nl_29, nl_31, nl_48, nl_512, nl_4096, nl_8192, no_1, no_1024, pk_mul, nI_add, nm_ck, nI_clamp, nI_ltI, nI_leI, nI_eq, nb_b2, nb_b1, ↓nb_let, nm_z0, nm_z1, nb_II, nb_IR, nb_RI, nb_RR, nm_IL, nm_IQ, nm_RL, nm_RQ, nm_LI, nm_LR, nm_LL, nm_LQ, nm_QI, nm_QR, nm_QL, nm_QQ, nm_rr, nm_ii, nm_eqm, not_false_eq_true, pk_sub, nm_div, nm_shl, nm_shr, nm_ush, nm_or8, nm_or64, nm_or256, nm_m1, nm_m3, nm_m7, nm_m15, nm_m31, nm_m63, nm_m255, nm_m511, nm_m1023, nm_m2047, nm_m65535, Nat.reduceMod, Nat.reducePow, Nat.reduceAdd, Nat.reduceSub, Nat.reduceMul, nm_bo, nm_bi, nm_rc, nm_ic, nm_ri, nm_rl, nm_rq, nm_ql, nm_qi, nm_li, nm_us, nm_uu, nm_cp, nm_sa31, nm_sa7, nm_m127, nm_m2, nm_nz, nm_nzk, nm_eq32, nm_nzf, if_true, if_false, ↓reduceIte, if_pos, if_neg]
  · subst e
    obtain ⟨x, hx, ex⟩ := y15 rfl
    have op3 : sR M.2 1 (o * 5 + 3) = nI x := (y12 rfl).trans ex
    have isf : sR X.1 24 tt = nI 1 := by
      have x1 : 0 < cE (sR X.1 19) (sR X.1 20) 3 tt := cN_p (P := fun j => decide (sR X.1 19 j = nI 3 ∧ sR X.1 20 j = nI tt)) (i := o) (decide_eq_true ⟨y4, y7⟩) ho
      rw [(m2.2.2.2 tt y10).2.2.2, decide_eq_true (Or.inr x1)]
      rfl
    obtain ⟨L, hL, l1, l2, l4⟩ := m7.2.1 tt y10 isf
    obtain ⟨c1, c2⟩ := cm_3 n (N := N) ho y10 hN hL hx y5 y8 op3 l1 y4 y7 l2 ex
    have hW : (if x ≤ L then (if L - x < N then L - x else N) else 0) ≤ N ∧ ((if x ≤ L then (if L - x < N then L - x else N) else 0) = 0 ∨ x + (if x ≤ L then (if L - x < N then L - x else N) else 0) ≤ L) := by
      by_cases c : x ≤ L
      · rw [if_pos c]
        by_cases d : L - x < N
        · rw [if_pos d]; omega
        · rw [if_neg d]; omega
      · rw [if_neg c]; omega
    generalize (if x ≤ L then (if L - x < N then L - x else N) else 0) = m at c1 c2 hW
    refine ⟨m, fun j => sR X.1 29 (512 * tt + x + j), hW.1, c1, c2, fun z => absurd z (by omega), fun _ x' hx' e => ?_, fun z => absurd z (by omega), fun j hj => cb_3 n (x := x) ho y10 (by omega) y5 y8 op3 ?_, fun j b' fr' ho' us' re' wr' g hj => ?_⟩
    · have : x' = x := nm_inI (by omega) (by omega) (e.symm.trans ex)
      omega
    · have := l4 (x + j) (by omega)
      rw [show 512 * tt + (x + j) = 512 * tt + x + j by omega] at this
      exact this
    · have w12 : sI (wX X b' fr' (sR X.1 17) ho' us' re' wr').1 12 = nI p := h3
      have w19 : sR (wX X b' fr' (sR X.1 17) ho' us' re' wr').1 19 o = nI 3 := y4
      have w21 : sR (wX X b' fr' (sR X.1 17) ho' us' re' wr').1 21 o = nI x := ex
      have w29 : sR (wX X b' fr' (sR X.1 17) ho' us' re' wr').1 29 (512 * tt + x + j) = sR X.1 29 (512 * tt + x + j) := rfl
      generalize wX X b' fr' (sR X.1 17) ho' us' re' wr' = Y at w12 w19 w21 w29
      have v1 : ¬ m ≤ j := by omega
      have v2 : m < 2 ^ 31 := by omega
      have v3 : j < 2 ^ 31 := by omega
      have v4 : 512 * tt + x + j < 8192 := by omega
      have v5 : 512 * tt + x + j < 2 ^ 31 := by omega
      clear m2 m3 m7 l4 c1 c2
      simp (disch := (first | assumption | decide | omega)) only [dF_X16_read_124, df_X16_read_211, v1, w19, w21, w12, w29, eq_self, Nat.reduceEqDiff, Nat.reduceLeDiff, nl_1, nl_3, nl_7, nl_12, nl_19, nl_21, nl_27, nl_29, nl_31, nl_48, nl_512, nl_4096, nl_8192, no_1, no_1024, pk_mul, nI_add, nm_ck, nI_clamp, nI_ltI, nI_leI, nI_eq, nb_b2, nb_b1, ↓nb_let, nm_z0, nm_z1, nb_II, nb_IR, nb_RI, nb_RR, nm_IL, nm_IQ, nm_RL, nm_RQ, nm_LI, nm_LR, nm_LL, nm_LQ, nm_QI, nm_QR, nm_QL, nm_QQ, nm_rr, nm_ii, nm_eqm, not_false_eq_true, pk_sub, nm_div, nm_shl, nm_shr, nm_ush, nm_or8, nm_or64, nm_or256, nm_m1, nm_m3, nm_m7, nm_m15, nm_m31, nm_m63, nm_m255, nm_m511, nm_m1023, nm_m2047, nm_m65535, Nat.reduceMod, Nat.reducePow, Nat.reduceAdd, Nat.reduceSub, Nat.reduceMul, nm_bo, nm_bi, nm_rc, nm_ic, nm_ri, nm_rl, nm_rq, nm_ql, nm_qi, nm_li, nm_us, nm_uu, nm_cp, nm_sa31, nm_sa7, nm_m127, nm_m2, nm_nz, nm_nzk, nm_eq32, nm_nzf, if_true, if_false, ↓reduceIte, if_pos, if_neg]
  · subst e
    obtain ⟨T, hT, t1, t2, t3⟩ := m7.2.2.2.1
    obtain ⟨c1, c2⟩ := cm_4 n hn (N := N) ho hN hT y5 ⟨tt, y10, y8⟩ t1 y4 t2 t3
    have hW : fN (fun i => decide (sR X.1 31 i = nI 4)) 0 (if T < N then T else N) ≤ T ∧ fN (fun i => decide (sR X.1 31 i = nI 4)) 0 (if T < N then T else N) ≤ N := by
      have := (fN_le (fun i => decide (sR X.1 31 i = nI 4)) (if T < N then T else N) 0).2.1
      by_cases c : T < N
      · rw [if_pos c] at this ⊢; omega
      · rw [if_neg c] at this ⊢; omega
    generalize fN (fun i => decide (sR X.1 31 i = nI 4)) 0 (if T < N then T else N) = m at c1 c2 hW
    refine ⟨m, fun j => sR X.1 31 j, hW.2, c1, c2, fun z => absurd z (by omega), fun z => absurd z (by omega), fun _ T' hT' e => ?_, fun j hj => cb_4 n ho (by omega) y5 y8 (t3 j (by omega)), fun j b' fr' ho' us' re' wr' g hj => ?_⟩
    · have : T' = T := nm_inI (by omega) (by omega) (e.symm.trans t2)
      omega
    · have w12 : sI (wX X b' fr' (sR X.1 17) ho' us' re' wr').1 12 = nI p := h3
      have w19 : sR (wX X b' fr' (sR X.1 17) ho' us' re' wr').1 19 o = nI 4 := y4
      have w31 : sR (wX X b' fr' (sR X.1 17) ho' us' re' wr').1 31 j = sR X.1 31 j := rfl
      generalize wX X b' fr' (sR X.1 17) ho' us' re' wr' = Y at w12 w19 w31
      have v1 : ¬ m ≤ j := by omega
      have v2 : m < 2 ^ 31 := by omega
      have v3 : j < 2 ^ 31 := by omega
      have v4 : j < 512 := by omega
      clear m2 m3 m7 t3 c1 c2
      simp (disch := (first | assumption | decide | omega)) only [dF_X16_read_124, df_X16_read_211, v1, w19, w12, w31, eq_self, Nat.reduceEqDiff, Nat.reduceLeDiff, nl_1, nl_3, nl_7, nl_12, nl_19, nl_21, nl_27, nl_29, nl_31, nl_48, nl_512, nl_4096, nl_8192, no_1, no_1024, pk_mul, nI_add, nm_ck, nI_clamp, nI_ltI, nI_leI, nI_eq, nb_b2, nb_b1, ↓nb_let, nm_z0, nm_z1, nb_II, nb_IR, nb_RI, nb_RR, nm_IL, nm_IQ, nm_RL, nm_RQ, nm_LI, nm_LR, nm_LL, nm_LQ, nm_QI, nm_QR, nm_QL, nm_QQ, nm_rr, nm_ii, nm_eqm, not_false_eq_true, pk_sub, nm_div, nm_shl, nm_shr, nm_ush, nm_or8, nm_or64, nm_or256, nm_m1, nm_m3, nm_m7, nm_m15, nm_m31, nm_m63, nm_m255, nm_m511, nm_m1023, nm_m2047, nm_m65535, Nat.reduceMod, Nat.reducePow, Nat.reduceAdd, Nat.reduceSub, Nat.reduceMul, nm_bo, nm_bi, nm_rc, nm_ic, nm_ri, nm_rl, nm_rq, nm_ql, nm_qi, nm_li, nm_us, nm_uu, nm_cp, nm_sa31, nm_sa7, nm_m127, nm_m2, nm_nz, nm_nzk, nm_eq32, nm_nzf, if_true, if_false, ↓reduceIte, if_pos, if_neg]

theorem ma_f {X : St × St} {M : St × St} (h : rK M X) {p Z q : Nat} (hp : p < 16) (hm : ma X p Z q = true) : Z < 65536 ∧ ∃ f : Nat, f < 256 ∧ sR X.1 16 (64 * p + Z / 1024) = nI f := by
  unfold ma at hm
  by_cases d : Z < 65536
  · rw [decide_eq_true d, Bool.true_and] at hm
    refine ⟨d, ?_⟩
    rcases h.1 (64 * p + Z / 1024) (by omega) with ⟨y1, y2⟩ | ⟨f, r, y1, y2, y3, y4, _⟩
    · exfalso
      unfold mb at hm
      rw [y1] at hm
      simp at hm
    · exact ⟨f, y1, y4⟩
  · rw [decide_eq_false d, Bool.false_and] at hm
    exact nomatch hm
/-- reading, once it is known how many bytes come and that there are frames -/
theorem rd_E (n : Nat) (hn : 1024 < n) {B p : Nat} {K : St × (St × (St × St))} {X : St × St} (h : cP B p K X) {A N o k t m : Nat} {v : Nat → Int32} (ho : o < 48) (ht : t < 16) (hN : N ≤ 512) (hmN : m ≤ N) (hk : k = 1 ∨ k = 3 ∨ k = 4) (ek : sR X.1 19 o = nI k) (et : sR X.1 20 o = nI t) (f1 : k = 1 → ∀ L : Nat, L ≤ 512 → sR X.1 26 t = nI L → m ≤ L) (f3 : k = 3 → ∀ x : Nat, x ≤ 512 → sR X.1 21 o = nI x → x + m ≤ 512) (f4 : k = 4 → ∀ T : Nat, T ≤ 512 → sI X.1 7 = nI T → m ≤ T) (hv : ∀ j : Nat, j < m → df_X10_comingByte n (nI o) (nI j) K.2.2.2 = some (v j, K.2.2.2)) (hr : ∀ (j : Nat) (b' fr' ho' : Nat → Int32) (us' re' wr' : Int32) (g : Int32 → Int32 → Int32 → Int32 → Int32 → Int32 → St × St → Option (Int32 × (St × St))), j < m → dF_X16_read_124 n g (nI A) (nI N) (nI o) (nI m) (nI t) (nI j) (wX X b' fr' (sR X.1 17) ho' us' re' wr') = nd_b1 (df_X16_write n (nI p) (nI (A + j)) (v j) (wX X b' fr' (sR X.1 17) ho' us' re' wr')) (fun s => g (nI A) (nI N) (nI o) (nI m) (nI t) (nI (j + 1)) s)) {fa fb : Nat} (m1' : 1 ≤ m) (hA : A + m ≤ 65536) (ha : fa < 256) (hb : fb < 256) (ea : sR X.1 16 (64 * p + A / 1024) = nI fa) (eb : sR X.1 16 (64 * p + (A + m - 1) / 1024) = nI fb) (hw : cU (sR X.1 16) + wt (sR X.1 16) (64 * p + A / 1024) (64 * p + (A + m - 1) / 1024) ≤ 256) : ∃ M1 M2 : St × St, df_X6_own n (nI p) (nI A) K.2.2 = some (nI 1, M1) ∧ df_X6_own n (nI p) (nI (A + m - 1)) M1 = some (nI 1, M2) ∧ cO B p K X (df_X5_read_160 n n (nI p) (nI A) (nI N) (nI o) (nI m) (nI 0) (K.1, (K.2.1, M2))) (df_X16_read_124 n n (nI A) (nI N) (nI o) (nI m) (nI t) (nI 0) X) := by
  obtain ⟨h1, h2, h3, h4, h5, h6, h7⟩ := h
  have okr := h1.2.2.2.2.1.2.2.2.2.2.2.2.2.1
  have er : sI K.2.2.1 6 = sI X.1 4 := h1.2.2.2.2.1.2.2.2.2.2.2.2.1
  obtain ⟨M1, w, u, g, fu, fr, hho, us, o1, o2, q1, q2, q3, q4, q5, _, q7⟩ := nk_write n hn (M := K.2.2) (X := X) h1.1 (p := p) (a := A) (m := m) h2 m1' (by omega) hA ha hb ea eb hw okr (Or.inl h7)
  obtain ⟨q, w', r1, r2⟩ := rd_C n (K1 := K.1) (K2 := K.2.1) (M := K.2.2) q1 (N := N) (o := o) (show m < n by omega) (by omega) h2 hA q2 hv
  obtain ⟨q', s1⟩ := rd_R n (N := N) (o := o) (x6 := nI t) (show m < n by omega) (q3 v) (fun k hk => q7 v k hk) hr
  have hre : okR (rvs (sI X.1 4) A m) := okR_rvs okr A m
  have rm := rM_wrote h1 (wn := nI (p * 67108864 + A * 1024 + m)) (wr := wvs X (sI X.1 16) p A m) r1 hre (fun j hj => ⟨fun z => by
    by_cases c : sR X.1 16 j = -nI 1
    · exact c
    · exact absurd z (q5 j hj c), fun z => q4 j z hj⟩)
  obtain ⟨D', X', t1, t2, t3, t4, t5⟩ := rd_T n hn rm ho ht hN hmN hk ek et f1 f3 f4 (nI A)
  have nt := nk_note n (M := mU K.2.2 w' u g fu) (re := sI X.1 4) er okr h2 hA m1' (show m ≤ 512 by omega)
  have nt : df_X6_noteWrite n (nI p) (nI A) (nI m) (mU K.2.2 w' u g fu) = some (pI (pI (mU K.2.2 w' u g fu).1 6 (rvs (sI X.1 4) A m)) 7 (nI (p * 67108864 + A * 1024 + m)), K.2.2.2) := nt
  have t1 : df_X10_taken n (nI o) (nI N) (nI m) K.2.2.2 = some D' := t1
  refine ⟨M1, mU K.2.2 w u g fu, o1, o2, ?_⟩
  obtain ⟨j1, j2, j3, j4, j5, j6, j7⟩ := t4
  refine ⟨(nI m).toInt64, nI m, K.1, (pI (pI (mU K.2.2 w' u g fu).1 6 (rvs (sI X.1 4) A m)) 7 (nI (p * 67108864 + A * 1024 + m)), D'), X', ?_, ?_, t3, fun _ => rfl, Or.inl ⟨j4.trans h4, rfl⟩, ⟨j1, j2, j3, j5, j6⟩, Or.inr ⟨A, m, m1', by omega, hA, rfl, ?_⟩, fun _ => by rw [t5]; exact h5, fun z => absurd ((j4.trans h4).symm.trans z) (by decide)⟩
  · rw [r2, show df_X5_read_160 n (q + 1) = dF_X5_read_160 n (df_X5_read_160 n q) from rfl]
    generalize df_X5_read_160 n q = G
    have v2 : m < 2 ^ 31 := by omega
    clear rm t3 r1 r2 q1 q2 q3 q4 q5 q7 h1 hr hv s1
    generalize mU K.2.2 w' u g fu = S at nt
    simp (disch := (first | assumption | decide | omega)) only [dF_X5_read_160, Nat.le_refl, nt, t1, eq_self, Nat.reduceEqDiff, Nat.reduceLeDiff, nl_1, nl_255, no_1, no_1024, pk_mul, nI_add, nm_ck, nI_clamp, nI_ltI, nI_leI, nI_eq, nb_b2, nb_b1, ↓nb_let, nm_z0, nm_z1, nb_II, nb_IR, nb_RI, nb_RR, nm_IL, nm_IQ, nm_RL, nm_RQ, nm_LI, nm_LR, nm_LL, nm_LQ, nm_QI, nm_QR, nm_QL, nm_QQ, nm_rr, nm_ii, nm_eqm, not_false_eq_true, pk_sub, nm_div, nm_shl, nm_shr, nm_ush, nm_or8, nm_or64, nm_or256, nm_m1, nm_m3, nm_m7, nm_m15, nm_m31, nm_m63, nm_m255, nm_m511, nm_m1023, nm_m2047, nm_m65535, Nat.reduceMod, Nat.reducePow, Nat.reduceAdd, Nat.reduceSub, Nat.reduceMul, nm_bo, nm_bi, nm_rc, nm_ic, nm_ri, nm_rl, nm_rq, nm_ql, nm_qi, nm_li, nm_us, nm_uu, nm_cp, nm_sa31, nm_sa7, nm_m127, nm_m2, nm_nz, nm_nzk, nm_eq32, nm_nzf, if_true, if_false, ↓reduceIte, if_pos, if_neg]
  · rw [s1, show df_X16_read_124 n (q' + 1) = dF_X16_read_124 n (df_X16_read_124 n q') from rfl]
    exact t2 _
  · rw [j7]
    show wvs X (sI X.1 16) p A m = wvs X (nI 0) p A m
    rw [h7]

theorem rc_f (n : Nat) {K : St × (St × (St × St))} {p A N o r m y z : Nat} {a : Int32} (n512 : N ≤ 512) (ho : o < 48) (hr : r < 8) (r1 : ¬ r % 2 = 0) (hm : m ≤ 512) (ma1 : df_X6_mayAll n (nI p) (nI A) (nI N) (nI 2) K.2.2 = some (nI 1, K.2.2)) (o1 : df_X10_openingOf n (nI p) a K.2.2.2 = some (nI o, K.2.2.2)) (of4 : df_X10_of n (nI o) (nI 4) K.2.2.2 = some (nI r, K.2.2.2)) (rw1 : df_X10_readWaits n (nI o) (nI N) K.2.2.2 = some (nI 0, K.2.2.2)) (cC : df_X10_coming n (nI o) (nI N) K.2.2.2 = some (nI m, K.2.2.2)) (fF : df_X6_framesFor n (nI p) (nI A) (nI m) K.2.2 = some (nI y, K.2.2)) (fr : df_X6_framesFree n K.2.2 = some (nI z, K.2.2)) (hy : y < 2 ^ 31) (hz : z < 2 ^ 31) (w3 : ¬ y ≤ z) : df_X5_read n (nI p) a (nI A) (nI N) K = some (4398046511104, K) := by
  have n0 : ¬ N < 0 := by omega
  have ob : ¬ o < 0 := by omega
  have u1 : o < 2 ^ 31 := by omega
  have u2 : N < 2 ^ 31 := by omega
  have u5 : m < 2 ^ 31 := by omega
  have a1 : ¬ nI N < (0 : Int32) := fun z => by
    have z : nI N < nI 0 := z
    rw [nI_ltI u2 (by omega)] at z
    omega
  have a2 : nI N ≤ (512 : Int32) := by
    show nI N ≤ nI 512
    rw [nI_leI u2 (by omega)]
    exact n512
  have a3 : df_X6_mayAll n (nI p) (nI A) (nI N) 2 K.2.2 = some (nI 1, K.2.2) := ma1
  have a4 : ¬ nI o < (0 : Int32) := fun z => by
    have z : nI o < nI 0 := z
    rw [nI_ltI u1 (by omega)] at z
    omega
  have a5 : df_X10_of n (nI o) 4 K.2.2.2 = some (nI r, K.2.2.2) := of4
  have a6 : ¬ nI r &&& (1 : Int32) = 0 := fun z => by
    have z : nI r &&& nI 1 = nI 0 := z
    rw [nm_m1 (by omega)] at z
    exact r1 (nm_inI (by omega) (by omega) z)
  have a7 : df_X5_read n (nI p) a (nI A) (nI N) K = nd_b2 (df_X10_coming n (nI o) (nI N) K.2.2.2) (fun q23 s24 => nd_let (K.1, (K.2.1, (K.2.2.1, s24))) (fun s26 => nd_b2 (df_X6_framesFor n (nI p) (nI A) q23 s26.2.2) (fun q27 s28 => nd_let (s26.1, (s26.2.1, s28)) (fun s30 => nd_b2 (df_X6_framesFree n s30.2.2) (fun q31 s32 => nd_let (s30.1, (s30.2.1, s32)) (fun s34 => if q27 ≤ q31 then (if q23 ≤ 0 then (df_X5_read_157 n (nI p) (nI A) (nI N) (nI o) q23 s34) else (nd_b2 (df_X6_own n (nI p) (nI A) s34.2.2) (fun q55 s56 => nd_let (s34.1, (s34.2.1, s56)) (fun s58 => nd_b2 (df_X6_own n (nI p) ((nI A + q23) - 1) s58.2.2) (fun q59 s60 => nd_let (s58.1, (s58.2.1, s60)) (fun s62 => df_X5_read_157 n (nI p) (nI A) (nI N) (nI o) q23 s62)))))) else some (4398046511104, s34))))))) := by
    unfold df_X5_read df_X5_read_0
    rw [if_neg a1, if_pos a2, a3, nb_b2, nb_let, if_neg (show ¬ nI 1 = (0 : Int32) by decide), o1, nb_b2, nb_let, if_neg a4, a5, nb_b2, nb_let, if_neg a6, rw1, nb_b2, nb_let, if_pos (show nI 0 = (0 : Int32) from rfl)]
  rw [a7, cC, nb_b2, nb_let, fF, nb_b2, nb_let, fr, nb_b2, nb_let]
  rw [if_neg (show ¬ nI y ≤ nI z from fun q => by rw [nI_leI hy hz] at q; exact w3 q)]
theorem rc_0 (n : Nat) {K : St × (St × (St × St))} {p A N o r m y z : Nat} {a : Int32} (n512 : N ≤ 512) (ho : o < 48) (hr : r < 8) (r1 : ¬ r % 2 = 0) (hm : m ≤ 512) (ma1 : df_X6_mayAll n (nI p) (nI A) (nI N) (nI 2) K.2.2 = some (nI 1, K.2.2)) (o1 : df_X10_openingOf n (nI p) a K.2.2.2 = some (nI o, K.2.2.2)) (of4 : df_X10_of n (nI o) (nI 4) K.2.2.2 = some (nI r, K.2.2.2)) (rw1 : df_X10_readWaits n (nI o) (nI N) K.2.2.2 = some (nI 0, K.2.2.2)) (cC : df_X10_coming n (nI o) (nI N) K.2.2.2 = some (nI m, K.2.2.2)) (fF : df_X6_framesFor n (nI p) (nI A) (nI m) K.2.2 = some (nI y, K.2.2)) (fr : df_X6_framesFree n K.2.2 = some (nI z, K.2.2)) (hy : y < 2 ^ 31) (hz : z < 2 ^ 31) (w3 : y ≤ z) (w6 : m ≤ 0) : df_X5_read n (nI p) a (nI A) (nI N) K = df_X5_read_160 n n (nI p) (nI A) (nI N) (nI o) (nI m) (nI 0) K := by
  have n0 : ¬ N < 0 := by omega
  have ob : ¬ o < 0 := by omega
  have u1 : o < 2 ^ 31 := by omega
  have u2 : N < 2 ^ 31 := by omega
  have u5 : m < 2 ^ 31 := by omega
  have a1 : ¬ nI N < (0 : Int32) := fun z => by
    have z : nI N < nI 0 := z
    rw [nI_ltI u2 (by omega)] at z
    omega
  have a2 : nI N ≤ (512 : Int32) := by
    show nI N ≤ nI 512
    rw [nI_leI u2 (by omega)]
    exact n512
  have a3 : df_X6_mayAll n (nI p) (nI A) (nI N) 2 K.2.2 = some (nI 1, K.2.2) := ma1
  have a4 : ¬ nI o < (0 : Int32) := fun z => by
    have z : nI o < nI 0 := z
    rw [nI_ltI u1 (by omega)] at z
    omega
  have a5 : df_X10_of n (nI o) 4 K.2.2.2 = some (nI r, K.2.2.2) := of4
  have a6 : ¬ nI r &&& (1 : Int32) = 0 := fun z => by
    have z : nI r &&& nI 1 = nI 0 := z
    rw [nm_m1 (by omega)] at z
    exact r1 (nm_inI (by omega) (by omega) z)
  have a7 : df_X5_read n (nI p) a (nI A) (nI N) K = nd_b2 (df_X10_coming n (nI o) (nI N) K.2.2.2) (fun q23 s24 => nd_let (K.1, (K.2.1, (K.2.2.1, s24))) (fun s26 => nd_b2 (df_X6_framesFor n (nI p) (nI A) q23 s26.2.2) (fun q27 s28 => nd_let (s26.1, (s26.2.1, s28)) (fun s30 => nd_b2 (df_X6_framesFree n s30.2.2) (fun q31 s32 => nd_let (s30.1, (s30.2.1, s32)) (fun s34 => if q27 ≤ q31 then (if q23 ≤ 0 then (df_X5_read_157 n (nI p) (nI A) (nI N) (nI o) q23 s34) else (nd_b2 (df_X6_own n (nI p) (nI A) s34.2.2) (fun q55 s56 => nd_let (s34.1, (s34.2.1, s56)) (fun s58 => nd_b2 (df_X6_own n (nI p) ((nI A + q23) - 1) s58.2.2) (fun q59 s60 => nd_let (s58.1, (s58.2.1, s60)) (fun s62 => df_X5_read_157 n (nI p) (nI A) (nI N) (nI o) q23 s62)))))) else some (4398046511104, s34))))))) := by
    unfold df_X5_read df_X5_read_0
    rw [if_neg a1, if_pos a2, a3, nb_b2, nb_let, if_neg (show ¬ nI 1 = (0 : Int32) by decide), o1, nb_b2, nb_let, if_neg a4, a5, nb_b2, nb_let, if_neg a6, rw1, nb_b2, nb_let, if_pos (show nI 0 = (0 : Int32) from rfl)]
  rw [a7, cC, nb_b2, nb_let, fF, nb_b2, nb_let, fr, nb_b2, nb_let]
  rw [if_pos (show nI y ≤ nI z by rw [nI_leI hy hz]; exact w3), if_pos (show nI m ≤ (0 : Int32) from (show nI m ≤ nI 0 by rw [nI_leI u5 (by omega)]; exact w6))]
  rfl
theorem rc_1 (n : Nat) {K : St × (St × (St × St))} {p A N o r m y z : Nat} {a : Int32} (n512 : N ≤ 512) (ho : o < 48) (hr : r < 8) (r1 : ¬ r % 2 = 0) (hm : m ≤ 512) (ma1 : df_X6_mayAll n (nI p) (nI A) (nI N) (nI 2) K.2.2 = some (nI 1, K.2.2)) (o1 : df_X10_openingOf n (nI p) a K.2.2.2 = some (nI o, K.2.2.2)) (of4 : df_X10_of n (nI o) (nI 4) K.2.2.2 = some (nI r, K.2.2.2)) (rw1 : df_X10_readWaits n (nI o) (nI N) K.2.2.2 = some (nI 0, K.2.2.2)) (cC : df_X10_coming n (nI o) (nI N) K.2.2.2 = some (nI m, K.2.2.2)) (fF : df_X6_framesFor n (nI p) (nI A) (nI m) K.2.2 = some (nI y, K.2.2)) (fr : df_X6_framesFree n K.2.2 = some (nI z, K.2.2)) (hy : y < 2 ^ 31) (hz : z < 2 ^ 31) (w3 : y ≤ z) (w6 : ¬ m ≤ 0) {M1 M2 : St × St} (p1 : df_X6_own n (nI p) (nI A) K.2.2 = some (nI 1, M1)) (p2 : df_X6_own n (nI p) (nI (A + m - 1)) M1 = some (nI 1, M2)) : df_X5_read n (nI p) a (nI A) (nI N) K = df_X5_read_160 n n (nI p) (nI A) (nI N) (nI o) (nI m) (nI 0) (K.1, (K.2.1, M2)) := by
  have n0 : ¬ N < 0 := by omega
  have ob : ¬ o < 0 := by omega
  have u1 : o < 2 ^ 31 := by omega
  have u2 : N < 2 ^ 31 := by omega
  have u5 : m < 2 ^ 31 := by omega
  have w7 : 1 ≤ A + m := by omega
  have a1 : ¬ nI N < (0 : Int32) := fun z => by
    have z : nI N < nI 0 := z
    rw [nI_ltI u2 (by omega)] at z
    omega
  have a2 : nI N ≤ (512 : Int32) := by
    show nI N ≤ nI 512
    rw [nI_leI u2 (by omega)]
    exact n512
  have a3 : df_X6_mayAll n (nI p) (nI A) (nI N) 2 K.2.2 = some (nI 1, K.2.2) := ma1
  have a4 : ¬ nI o < (0 : Int32) := fun z => by
    have z : nI o < nI 0 := z
    rw [nI_ltI u1 (by omega)] at z
    omega
  have a5 : df_X10_of n (nI o) 4 K.2.2.2 = some (nI r, K.2.2.2) := of4
  have a6 : ¬ nI r &&& (1 : Int32) = 0 := fun z => by
    have z : nI r &&& nI 1 = nI 0 := z
    rw [nm_m1 (by omega)] at z
    exact r1 (nm_inI (by omega) (by omega) z)
  have a7 : df_X5_read n (nI p) a (nI A) (nI N) K = nd_b2 (df_X10_coming n (nI o) (nI N) K.2.2.2) (fun q23 s24 => nd_let (K.1, (K.2.1, (K.2.2.1, s24))) (fun s26 => nd_b2 (df_X6_framesFor n (nI p) (nI A) q23 s26.2.2) (fun q27 s28 => nd_let (s26.1, (s26.2.1, s28)) (fun s30 => nd_b2 (df_X6_framesFree n s30.2.2) (fun q31 s32 => nd_let (s30.1, (s30.2.1, s32)) (fun s34 => if q27 ≤ q31 then (if q23 ≤ 0 then (df_X5_read_157 n (nI p) (nI A) (nI N) (nI o) q23 s34) else (nd_b2 (df_X6_own n (nI p) (nI A) s34.2.2) (fun q55 s56 => nd_let (s34.1, (s34.2.1, s56)) (fun s58 => nd_b2 (df_X6_own n (nI p) ((nI A + q23) - 1) s58.2.2) (fun q59 s60 => nd_let (s58.1, (s58.2.1, s60)) (fun s62 => df_X5_read_157 n (nI p) (nI A) (nI N) (nI o) q23 s62)))))) else some (4398046511104, s34))))))) := by
    unfold df_X5_read df_X5_read_0
    rw [if_neg a1, if_pos a2, a3, nb_b2, nb_let, if_neg (show ¬ nI 1 = (0 : Int32) by decide), o1, nb_b2, nb_let, if_neg a4, a5, nb_b2, nb_let, if_neg a6, rw1, nb_b2, nb_let, if_pos (show nI 0 = (0 : Int32) from rfl)]
  rw [a7, cC, nb_b2, nb_let, fF, nb_b2, nb_let, fr, nb_b2, nb_let]
  have p3 : df_X6_own n (nI p) (nI A + nI m - 1) M1 = some (nI 1, M2) := by
    have : nI A + nI m - 1 = nI (A + m - 1) := by
      rw [nI_add]
      exact pk_sub w7
    rw [this]
    exact p2
  rw [if_pos (show nI y ≤ nI z by rw [nI_leI hy hz]; exact w3), if_neg (show ¬ nI m ≤ (0 : Int32) from fun q => by have q : nI m ≤ nI 0 := q; rw [nI_leI u5 (by omega)] at q; exact w6 q), p1, nb_b2, nb_let, p3, nb_b2, nb_let]
  rfl
theorem rr_f (n : Nat) {X : St × St} {p A N o r m y t : Nat} {a : Int32} (n512 : N ≤ 512) (ho : o < 48) (hr : r < 8) (r1 : ¬ r % 2 = 0) (h3 : sI X.1 12 = nI p) (ma2 : df_X16_mayAll n (nI p) (nI A) (nI N) (nI 2) X = some (nI 1, X)) (o2 : df_X16_openingOf n (nI p) a X = some (nI o, X)) (er : sR X.1 22 o = nI r) (rw2 : df_X16_waits n (nI o) (nI 1) (nI N) X = some (nI 0, X)) (cR : df_X16_comes n (nI o) (nI N) X = some (nI m, X)) (wa : df_X16_wanted n (nI p) (nI A) (nI m) X = some (nI y, X)) (y7 : sR X.1 20 o = nI t) (hF : df_X16_hasFrames n (nI y) X = some (nI 0, X)) : df_X16_read n a (nI A) (nI N) X = some (nI 0, (pI X.1 13 (nI 3), X.2)) := by
  have n0 : ¬ N < 0 := by omega
  have ob : ¬ o < 0 := by omega
  have u1 : o < 2 ^ 31 := by omega
  have u2 : N < 2 ^ 31 := by omega
  simp (disch := (first | assumption | decide | omega)) only [df_X16_read, df_X16_read_0, df_X16_tell_0, df_X16_tell, n0, n512, h3, ma2, o2, er, r1, rw2, cR, wa, hF, eq_self, Nat.reduceEqDiff, Nat.reduceLeDiff, nl_0, nl_1, nl_2, nl_3, nl_12, nl_13, nl_14, nl_20, nl_22, nl_48, nl_512, no_1, no_1024, pk_mul, nI_add, nm_ck, nI_clamp, nI_ltI, nI_leI, nI_eq, nb_b2, nb_b1, ↓nb_let, nm_z0, nm_z1, nb_II, nb_IR, nb_RI, nb_RR, nm_IL, nm_IQ, nm_RL, nm_RQ, nm_LI, nm_LR, nm_LL, nm_LQ, nm_QI, nm_QR, nm_QL, nm_QQ, nm_rr, nm_ii, nm_eqm, not_false_eq_true, pk_sub, nm_div, nm_shl, nm_shr, nm_ush, nm_or8, nm_or64, nm_or256, nm_m1, nm_m3, nm_m7, nm_m15, nm_m31, nm_m63, nm_m255, nm_m511, nm_m1023, nm_m2047, nm_m65535, Nat.reduceMod, Nat.reducePow, Nat.reduceAdd, Nat.reduceSub, Nat.reduceMul, nm_bo, nm_bi, nm_rc, nm_ic, nm_ri, nm_rl, nm_rq, nm_ql, nm_qi, nm_li, nm_us, nm_uu, nm_cp, nm_sa31, nm_sa7, nm_m127, nm_m2, nm_nz, nm_nzk, nm_eq32, nm_nzf, if_true, if_false, ↓reduceIte, if_pos, if_neg]
theorem rr_1 (n : Nat) {X : St × St} {p A N o r m y t : Nat} {a : Int32} (n512 : N ≤ 512) (ho : o < 48) (hr : r < 8) (r1 : ¬ r % 2 = 0) (h3 : sI X.1 12 = nI p) (ma2 : df_X16_mayAll n (nI p) (nI A) (nI N) (nI 2) X = some (nI 1, X)) (o2 : df_X16_openingOf n (nI p) a X = some (nI o, X)) (er : sR X.1 22 o = nI r) (rw2 : df_X16_waits n (nI o) (nI 1) (nI N) X = some (nI 0, X)) (cR : df_X16_comes n (nI o) (nI N) X = some (nI m, X)) (wa : df_X16_wanted n (nI p) (nI A) (nI m) X = some (nI y, X)) (y7 : sR X.1 20 o = nI t) (hF : df_X16_hasFrames n (nI y) X = some (nI 1, X)) : df_X16_read n a (nI A) (nI N) X = df_X16_read_124 n n (nI A) (nI N) (nI o) (nI m) (nI t) (nI 0) X := by
  have n0 : ¬ N < 0 := by omega
  have ob : ¬ o < 0 := by omega
  have u1 : o < 2 ^ 31 := by omega
  have u2 : N < 2 ^ 31 := by omega
  simp (disch := (first | assumption | decide | omega)) only [df_X16_read, df_X16_read_0, n0, n512, h3, ma2, o2, er, r1, rw2, cR, wa, hF, y7, eq_self, Nat.reduceEqDiff, Nat.reduceLeDiff, nl_0, nl_1, nl_2, nl_3, nl_12, nl_14, nl_20, nl_22, nl_48, nl_512, no_1, no_1024, pk_mul, nI_add, nm_ck, nI_clamp, nI_ltI, nI_leI, nI_eq, nb_b2, nb_b1, ↓nb_let, nm_z0, nm_z1, nb_II, nb_IR, nb_RI, nb_RR, nm_IL, nm_IQ, nm_RL, nm_RQ, nm_LI, nm_LR, nm_LL, nm_LQ, nm_QI, nm_QR, nm_QL, nm_QQ, nm_rr, nm_ii, nm_eqm, not_false_eq_true, pk_sub, nm_div, nm_shl, nm_shr, nm_ush, nm_or8, nm_or64, nm_or256, nm_m1, nm_m3, nm_m7, nm_m15, nm_m31, nm_m63, nm_m255, nm_m511, nm_m1023, nm_m2047, nm_m65535, Nat.reduceMod, Nat.reducePow, Nat.reduceAdd, Nat.reduceSub, Nat.reduceMul, nm_bo, nm_bi, nm_rc, nm_ic, nm_ri, nm_rl, nm_rq, nm_ql, nm_qi, nm_li, nm_us, nm_uu, nm_cp, nm_sa31, nm_sa7, nm_m127, nm_m2, nm_nz, nm_nzk, nm_eq32, nm_nzf, if_true, if_false, ↓reduceIte, if_pos, if_neg]
/-- the kernel's call 'read' -/
theorem nq_read (n : Nat) (hn : 1024 < n) {B p : Nat} {K : St × (St × (St × St))} {X : St × St} (h : cP B p K X) (h17 : sR X.1 9 (32 * p + 17) = nI 6) {a b c : Int32} (e10 : sR X.1 9 (32 * p + 10) = a) (e12 : sR X.1 9 (32 * p + 12) = c) : cO B p K X (df_X5_read n (nI p) a b c K) (df_X16_read n a b c X) := by
  obtain ⟨h1, h2, h3, h4, h5, h6, h7⟩ := id h
  obtain ⟨m1, m2, m3, m4, m5, m6, m7⟩ := id h1
  have ans : ∀ (w64 : Int64) (w : Int32), w64 = w.toInt64 → df_X5_read n (nI p) a b c K = some (w64, K) → df_X16_read n a b c X = some (w, X) → cO B p K X (df_X5_read n (nI p) a b c K) (df_X16_read n a b c X) := fun w64 w ew e1 e2 => by
    rw [e1, e2]
    exact cO_id h ew
  rcases sg_cases c with ⟨z, _⟩ | ⟨N, hN, z⟩
  · exact ans (-22) (-nI 22) (by decide) (by simp (disch := (first | assumption | decide | omega)) only [df_X5_read, df_X5_read_0, df_X5_read_13, z, eq_self, Nat.reduceEqDiff, Nat.reduceLeDiff, nl_0, nl_1, nl_2, nl_4, nl_14, nl_22, nl_512, nl_1099511627776, no_1, no_1024, pk_mul, nI_add, nm_ck, nI_clamp, nI_ltI, nI_leI, nI_eq, nb_b2, nb_b1, ↓nb_let, nm_z0, nm_z1, nb_II, nb_IR, nb_RI, nb_RR, nm_IL, nm_IQ, nm_RL, nm_RQ, nm_LI, nm_LR, nm_LL, nm_LQ, nm_QI, nm_QR, nm_QL, nm_QQ, nm_rr, nm_ii, nm_eqm, not_false_eq_true, pk_sub, nm_div, nm_shl, nm_shr, nm_ush, nm_or8, nm_or64, nm_or256, nm_m1, nm_m3, nm_m7, nm_m15, nm_m31, nm_m63, nm_m255, nm_m511, nm_m1023, nm_m2047, nm_m65535, Nat.reduceMod, Nat.reducePow, Nat.reduceAdd, Nat.reduceSub, Nat.reduceMul, nm_bo, nm_bi, nm_rc, nm_ic, nm_ri, nm_rl, nm_rq, nm_ql, nm_qi, nm_li, nm_us, nm_uu, nm_cp, nm_sa31, nm_sa7, nm_m127, nm_m2, nm_nz, nm_nzk, nm_eq32, nm_nzf, if_true, if_false, ↓reduceIte, if_pos, if_neg]) (by simp (disch := (first | assumption | decide | omega)) only [df_X16_read, df_X16_read_0, df_X16_read_11, z, eq_self, Nat.reduceEqDiff, Nat.reduceLeDiff, nl_0, nl_1, nl_2, nl_3, nl_12, nl_14, nl_20, nl_22, nl_48, nl_512, no_1, no_1024, pk_mul, nI_add, nm_ck, nI_clamp, nI_ltI, nI_leI, nI_eq, nb_b2, nb_b1, ↓nb_let, nm_z0, nm_z1, nb_II, nb_IR, nb_RI, nb_RR, nm_IL, nm_IQ, nm_RL, nm_RQ, nm_LI, nm_LR, nm_LL, nm_LQ, nm_QI, nm_QR, nm_QL, nm_QQ, nm_rr, nm_ii, nm_eqm, not_false_eq_true, pk_sub, nm_div, nm_shl, nm_shr, nm_ush, nm_or8, nm_or64, nm_or256, nm_m1, nm_m3, nm_m7, nm_m15, nm_m31, nm_m63, nm_m255, nm_m511, nm_m1023, nm_m2047, nm_m65535, Nat.reduceMod, Nat.reducePow, Nat.reduceAdd, Nat.reduceSub, Nat.reduceMul, nm_bo, nm_bi, nm_rc, nm_ic, nm_ri, nm_rl, nm_rq, nm_ql, nm_qi, nm_li, nm_us, nm_uu, nm_cp, nm_sa31, nm_sa7, nm_m127, nm_m2, nm_nz, nm_nzk, nm_eq32, nm_nzf, if_true, if_false, ↓reduceIte, if_pos, if_neg])
  have n0 : ¬ N < 0 := by omega
  by_cases n512 : ¬ N ≤ 512
  · rw [z] at ans ⊢
    exact ans (-22) (-nI 22) (by decide) (by simp (disch := (first | assumption | decide | omega)) only [df_X5_read, df_X5_read_0, df_X5_read_13, n0, n512, eq_self, Nat.reduceEqDiff, Nat.reduceLeDiff, nl_0, nl_1, nl_2, nl_4, nl_14, nl_22, nl_512, nl_1099511627776, no_1, no_1024, pk_mul, nI_add, nm_ck, nI_clamp, nI_ltI, nI_leI, nI_eq, nb_b2, nb_b1, ↓nb_let, nm_z0, nm_z1, nb_II, nb_IR, nb_RI, nb_RR, nm_IL, nm_IQ, nm_RL, nm_RQ, nm_LI, nm_LR, nm_LL, nm_LQ, nm_QI, nm_QR, nm_QL, nm_QQ, nm_rr, nm_ii, nm_eqm, not_false_eq_true, pk_sub, nm_div, nm_shl, nm_shr, nm_ush, nm_or8, nm_or64, nm_or256, nm_m1, nm_m3, nm_m7, nm_m15, nm_m31, nm_m63, nm_m255, nm_m511, nm_m1023, nm_m2047, nm_m65535, Nat.reduceMod, Nat.reducePow, Nat.reduceAdd, Nat.reduceSub, Nat.reduceMul, nm_bo, nm_bi, nm_rc, nm_ic, nm_ri, nm_rl, nm_rq, nm_ql, nm_qi, nm_li, nm_us, nm_uu, nm_cp, nm_sa31, nm_sa7, nm_m127, nm_m2, nm_nz, nm_nzk, nm_eq32, nm_nzf, if_true, if_false, ↓reduceIte, if_pos, if_neg]) (by simp (disch := (first | assumption | decide | omega)) only [df_X16_read, df_X16_read_0, df_X16_read_11, n0, n512, eq_self, Nat.reduceEqDiff, Nat.reduceLeDiff, nl_0, nl_1, nl_2, nl_3, nl_12, nl_14, nl_20, nl_22, nl_48, nl_512, no_1, no_1024, pk_mul, nI_add, nm_ck, nI_clamp, nI_ltI, nI_leI, nI_eq, nb_b2, nb_b1, ↓nb_let, nm_z0, nm_z1, nb_II, nb_IR, nb_RI, nb_RR, nm_IL, nm_IQ, nm_RL, nm_RQ, nm_LI, nm_LR, nm_LL, nm_LQ, nm_QI, nm_QR, nm_QL, nm_QQ, nm_rr, nm_ii, nm_eqm, not_false_eq_true, pk_sub, nm_div, nm_shl, nm_shr, nm_ush, nm_or8, nm_or64, nm_or256, nm_m1, nm_m3, nm_m7, nm_m15, nm_m31, nm_m63, nm_m255, nm_m511, nm_m1023, nm_m2047, nm_m65535, Nat.reduceMod, Nat.reducePow, Nat.reduceAdd, Nat.reduceSub, Nat.reduceMul, nm_bo, nm_bi, nm_rc, nm_ic, nm_ri, nm_rl, nm_rq, nm_ql, nm_qi, nm_li, nm_us, nm_uu, nm_cp, nm_sa31, nm_sa7, nm_m127, nm_m2, nm_nz, nm_nzk, nm_eq32, nm_nzf, if_true, if_false, ↓reduceIte, if_pos, if_neg])
  have n512 : N ≤ 512 := by omega
  obtain ⟨A, hA, eA⟩ := nI_ex b
  obtain ⟨ma1, ma2⟩ := nk_mayAll n (by omega) m1 h2 hA (show 2 < 8 by omega) (show N ≤ 1024 by omega)
  cases mm : mA X p A N 2 with
  | false =>
    rw [mm, bI_f] at ma1 ma2
    rw [z, eA] at ans ⊢
    exact ans (-14) (-nI 14) (by decide) (by simp (disch := (first | assumption | decide | omega)) only [df_X5_read, df_X5_read_0, n0, n512, ma1, eq_self, Nat.reduceEqDiff, Nat.reduceLeDiff, nl_0, nl_1, nl_2, nl_4, nl_14, nl_512, nl_1099511627776, no_1, no_1024, pk_mul, nI_add, nm_ck, nI_clamp, nI_ltI, nI_leI, nI_eq, nb_b2, nb_b1, ↓nb_let, nm_z0, nm_z1, nb_II, nb_IR, nb_RI, nb_RR, nm_IL, nm_IQ, nm_RL, nm_RQ, nm_LI, nm_LR, nm_LL, nm_LQ, nm_QI, nm_QR, nm_QL, nm_QQ, nm_rr, nm_ii, nm_eqm, not_false_eq_true, pk_sub, nm_div, nm_shl, nm_shr, nm_ush, nm_or8, nm_or64, nm_or256, nm_m1, nm_m3, nm_m7, nm_m15, nm_m31, nm_m63, nm_m255, nm_m511, nm_m1023, nm_m2047, nm_m65535, Nat.reduceMod, Nat.reducePow, Nat.reduceAdd, Nat.reduceSub, Nat.reduceMul, nm_bo, nm_bi, nm_rc, nm_ic, nm_ri, nm_rl, nm_rq, nm_ql, nm_qi, nm_li, nm_us, nm_uu, nm_cp, nm_sa31, nm_sa7, nm_m127, nm_m2, nm_nz, nm_nzk, nm_eq32, nm_nzf, if_true, if_false, ↓reduceIte, if_pos, if_neg]) (by simp (disch := (first | assumption | decide | omega)) only [df_X16_read, df_X16_read_0, n0, n512, h3, ma2, eq_self, Nat.reduceEqDiff, Nat.reduceLeDiff, nl_0, nl_1, nl_2, nl_3, nl_12, nl_14, nl_20, nl_22, nl_48, nl_512, no_1, no_1024, pk_mul, nI_add, nm_ck, nI_clamp, nI_ltI, nI_leI, nI_eq, nb_b2, nb_b1, ↓nb_let, nm_z0, nm_z1, nb_II, nb_IR, nb_RI, nb_RR, nm_IL, nm_IQ, nm_RL, nm_RQ, nm_LI, nm_LR, nm_LL, nm_LQ, nm_QI, nm_QR, nm_QL, nm_QQ, nm_rr, nm_ii, nm_eqm, not_false_eq_true, pk_sub, nm_div, nm_shl, nm_shr, nm_ush, nm_or8, nm_or64, nm_or256, nm_m1, nm_m3, nm_m7, nm_m15, nm_m31, nm_m63, nm_m255, nm_m511, nm_m1023, nm_m2047, nm_m65535, Nat.reduceMod, Nat.reducePow, Nat.reduceAdd, Nat.reduceSub, Nat.reduceMul, nm_bo, nm_bi, nm_rc, nm_ic, nm_ri, nm_rl, nm_rq, nm_ql, nm_qi, nm_li, nm_us, nm_uu, nm_cp, nm_sa31, nm_sa7, nm_m127, nm_m2, nm_nz, nm_nzk, nm_eq32, nm_nzf, if_true, if_false, ↓reduceIte, if_pos, if_neg])
  | true =>
  rw [mm, bI_t] at ma1 ma2
  have hm : ∀ j : Nat, j < N → ma X p (A + j) 2 = true := of_decide_eq_true mm
  rcases nk_opening n m2 h2 a with ⟨o1, o2, _⟩ | ⟨d, o, hd, ho, ed, de, kn, o1, o2⟩
  · rw [z, eA] at ans ⊢
    exact ans (-1) (-nI 1) (by decide) (by simp (disch := (first | assumption | decide | omega)) only [df_X5_read, df_X5_read_0, df_X5_read_67, n0, n512, ma1, o1, nm_ltm, eq_self, Nat.reduceEqDiff, Nat.reduceLeDiff, nl_0, nl_1, nl_2, nl_4, nl_14, nl_512, nl_1099511627776, no_1, no_1024, pk_mul, nI_add, nm_ck, nI_clamp, nI_ltI, nI_leI, nI_eq, nb_b2, nb_b1, ↓nb_let, nm_z0, nm_z1, nb_II, nb_IR, nb_RI, nb_RR, nm_IL, nm_IQ, nm_RL, nm_RQ, nm_LI, nm_LR, nm_LL, nm_LQ, nm_QI, nm_QR, nm_QL, nm_QQ, nm_rr, nm_ii, nm_eqm, not_false_eq_true, pk_sub, nm_div, nm_shl, nm_shr, nm_ush, nm_or8, nm_or64, nm_or256, nm_m1, nm_m3, nm_m7, nm_m15, nm_m31, nm_m63, nm_m255, nm_m511, nm_m1023, nm_m2047, nm_m65535, Nat.reduceMod, Nat.reducePow, Nat.reduceAdd, Nat.reduceSub, Nat.reduceMul, nm_bo, nm_bi, nm_rc, nm_ic, nm_ri, nm_rl, nm_rq, nm_ql, nm_qi, nm_li, nm_us, nm_uu, nm_cp, nm_sa31, nm_sa7, nm_m127, nm_m2, nm_nz, nm_nzk, nm_eq32, nm_nzf, if_true, if_false, ↓reduceIte, if_pos, if_neg]) (by simp (disch := (first | assumption | decide | omega)) only [df_X16_read, df_X16_read_0, df_X16_read_60, n0, n512, h3, ma2, o2, eq_self, Nat.reduceEqDiff, Nat.reduceLeDiff, nl_0, nl_1, nl_2, nl_3, nl_12, nl_14, nl_20, nl_22, nl_48, nl_512, no_1, no_1024, pk_mul, nI_add, nm_ck, nI_clamp, nI_ltI, nI_leI, nI_eq, nb_b2, nb_b1, ↓nb_let, nm_z0, nm_z1, nb_II, nb_IR, nb_RI, nb_RR, nm_IL, nm_IQ, nm_RL, nm_RQ, nm_LI, nm_LR, nm_LL, nm_LQ, nm_QI, nm_QR, nm_QL, nm_QQ, nm_rr, nm_ii, nm_eqm, not_false_eq_true, pk_sub, nm_div, nm_shl, nm_shr, nm_ush, nm_or8, nm_or64, nm_or256, nm_m1, nm_m3, nm_m7, nm_m15, nm_m31, nm_m63, nm_m255, nm_m511, nm_m1023, nm_m2047, nm_m65535, Nat.reduceMod, Nat.reducePow, Nat.reduceAdd, Nat.reduceSub, Nat.reduceMul, nm_bo, nm_bi, nm_rc, nm_ic, nm_ri, nm_rl, nm_rq, nm_ql, nm_qi, nm_li, nm_us, nm_uu, nm_cp, nm_sa31, nm_sa7, nm_m127, nm_m2, nm_nz, nm_nzk, nm_eq32, nm_nzf, if_true, if_false, ↓reduceIte, if_pos, if_neg])
  rcases m2.2.1 o ho with ⟨z1, _⟩ | ⟨k, t, y1, y2, y3, y4, y5, y6, y7, y8, y9, y10, y11, y12, y13, ⟨r, hr, er, er1, er2⟩, y15⟩
  · exact absurd z1 kn
  have ob : ¬ o < 0 := by omega
  have u1 : o < 2 ^ 31 := by omega
  have u3 : o * 5 + 4 < 240 := by omega
  have of4 : df_X10_of n (nI o) (nI 4) K.2.2.2 = some (nI r, K.2.2.2) := by
    have w : sR K.2.2.2 1 (o * 5 + 4) = nI r := y11.trans er
    simp (disch := (first | assumption | decide | omega)) only [df_X10_of_0, df_X10_of, w, eq_self, Nat.reduceEqDiff, Nat.reduceLeDiff, nl_1, nl_5, nl_240, no_1, no_1024, pk_mul, nI_add, nm_ck, nI_clamp, nI_ltI, nI_leI, nI_eq, nb_b2, nb_b1, ↓nb_let, nm_z0, nm_z1, nb_II, nb_IR, nb_RI, nb_RR, nm_IL, nm_IQ, nm_RL, nm_RQ, nm_LI, nm_LR, nm_LL, nm_LQ, nm_QI, nm_QR, nm_QL, nm_QQ, nm_rr, nm_ii, nm_eqm, not_false_eq_true, pk_sub, nm_div, nm_shl, nm_shr, nm_ush, nm_or8, nm_or64, nm_or256, nm_m1, nm_m3, nm_m7, nm_m15, nm_m31, nm_m63, nm_m255, nm_m511, nm_m1023, nm_m2047, nm_m65535, Nat.reduceMod, Nat.reducePow, Nat.reduceAdd, Nat.reduceSub, Nat.reduceMul, nm_bo, nm_bi, nm_rc, nm_ic, nm_ri, nm_rl, nm_rq, nm_ql, nm_qi, nm_li, nm_us, nm_uu, nm_cp, nm_sa31, nm_sa7, nm_m127, nm_m2, nm_nz, nm_nzk, nm_eq32, nm_nzf, if_true, if_false, ↓reduceIte, if_pos, if_neg]
  rw [z, eA] at ans ⊢
  by_cases r1 : r % 2 = 0
  · exact ans (-1) (-nI 1) (by decide) (by simp (disch := (first | assumption | decide | omega)) only [df_X5_read, df_X5_read_0, df_X5_read_67, n0, n512, ma1, o1, ob, of4, r1, eq_self, Nat.reduceEqDiff, Nat.reduceLeDiff, nl_0, nl_1, nl_2, nl_4, nl_14, nl_512, nl_1099511627776, no_1, no_1024, pk_mul, nI_add, nm_ck, nI_clamp, nI_ltI, nI_leI, nI_eq, nb_b2, nb_b1, ↓nb_let, nm_z0, nm_z1, nb_II, nb_IR, nb_RI, nb_RR, nm_IL, nm_IQ, nm_RL, nm_RQ, nm_LI, nm_LR, nm_LL, nm_LQ, nm_QI, nm_QR, nm_QL, nm_QQ, nm_rr, nm_ii, nm_eqm, not_false_eq_true, pk_sub, nm_div, nm_shl, nm_shr, nm_ush, nm_or8, nm_or64, nm_or256, nm_m1, nm_m3, nm_m7, nm_m15, nm_m31, nm_m63, nm_m255, nm_m511, nm_m1023, nm_m2047, nm_m65535, Nat.reduceMod, Nat.reducePow, Nat.reduceAdd, Nat.reduceSub, Nat.reduceMul, nm_bo, nm_bi, nm_rc, nm_ic, nm_ri, nm_rl, nm_rq, nm_ql, nm_qi, nm_li, nm_us, nm_uu, nm_cp, nm_sa31, nm_sa7, nm_m127, nm_m2, nm_nz, nm_nzk, nm_eq32, nm_nzf, if_true, if_false, ↓reduceIte, if_pos, if_neg]) (by simp (disch := (first | assumption | decide | omega)) only [df_X16_read, df_X16_read_0, df_X16_read_60, n0, n512, h3, ma2, o2, er, r1, eq_self, Nat.reduceEqDiff, Nat.reduceLeDiff, nl_0, nl_1, nl_2, nl_3, nl_12, nl_14, nl_20, nl_22, nl_48, nl_512, no_1, no_1024, pk_mul, nI_add, nm_ck, nI_clamp, nI_ltI, nI_leI, nI_eq, nb_b2, nb_b1, ↓nb_let, nm_z0, nm_z1, nb_II, nb_IR, nb_RI, nb_RR, nm_IL, nm_IQ, nm_RL, nm_RQ, nm_LI, nm_LR, nm_LL, nm_LQ, nm_QI, nm_QR, nm_QL, nm_QQ, nm_rr, nm_ii, nm_eqm, not_false_eq_true, pk_sub, nm_div, nm_shl, nm_shr, nm_ush, nm_or8, nm_or64, nm_or256, nm_m1, nm_m3, nm_m7, nm_m15, nm_m31, nm_m63, nm_m255, nm_m511, nm_m1023, nm_m2047, nm_m65535, Nat.reduceMod, Nat.reducePow, Nat.reduceAdd, Nat.reduceSub, Nat.reduceMul, nm_bo, nm_bi, nm_rc, nm_ic, nm_ri, nm_rl, nm_rq, nm_ql, nm_qi, nm_li, nm_us, nm_uu, nm_cp, nm_sa31, nm_sa7, nm_m127, nm_m2, nm_nz, nm_nzk, nm_eq32, nm_nzf, if_true, if_false, ↓reduceIte, if_pos, if_neg])
  have hk : k = 1 ∨ k = 3 ∨ k = 4 := by
    by_cases k2 : k = 2
    · rw [er2 k2] at r1
      exact absurd rfl r1
    · omega
  obtain ⟨bb, rw1, rw2⟩ := nk_readWaits n hn m2 (rTT_l m7) (rTT_t m7) ho kn n512
  cases bb with
  | true =>
    rw [bI_t] at rw1 rw2
    have c1 : df_X5_read n (nI p) a (nI A) (nI N) K = some (1099511627776, K) := by
      simp (disch := (first | assumption | decide | omega)) only [df_X5_read, df_X5_read_0, n0, n512, ma1, o1, ob, of4, r1, rw1, eq_self, Nat.reduceEqDiff, Nat.reduceLeDiff, nl_0, nl_1, nl_2, nl_4, nl_14, nl_512, nl_1099511627776, no_1, no_1024, pk_mul, nI_add, nm_ck, nI_clamp, nI_ltI, nI_leI, nI_eq, nb_b2, nb_b1, ↓nb_let, nm_z0, nm_z1, nb_II, nb_IR, nb_RI, nb_RR, nm_IL, nm_IQ, nm_RL, nm_RQ, nm_LI, nm_LR, nm_LL, nm_LQ, nm_QI, nm_QR, nm_QL, nm_QQ, nm_rr, nm_ii, nm_eqm, not_false_eq_true, pk_sub, nm_div, nm_shl, nm_shr, nm_ush, nm_or8, nm_or64, nm_or256, nm_m1, nm_m3, nm_m7, nm_m15, nm_m31, nm_m63, nm_m255, nm_m511, nm_m1023, nm_m2047, nm_m65535, Nat.reduceMod, Nat.reducePow, Nat.reduceAdd, Nat.reduceSub, Nat.reduceMul, nm_bo, nm_bi, nm_rc, nm_ic, nm_ri, nm_rl, nm_rq, nm_ql, nm_qi, nm_li, nm_us, nm_uu, nm_cp, nm_sa31, nm_sa7, nm_m127, nm_m2, nm_nz, nm_nzk, nm_eq32, nm_nzf, if_true, if_false, ↓reduceIte, if_pos, if_neg]
    have c2 : df_X16_read n a (nI A) (nI N) X = some (nI 0, (pI X.1 13 (nI 1), X.2)) := by
      simp (disch := (first | assumption | decide | omega)) only [df_X16_read, df_X16_read_0, df_X16_tell_0, df_X16_tell, n0, n512, h3, ma2, o2, er, r1, rw2, eq_self, Nat.reduceEqDiff, Nat.reduceLeDiff, nl_0, nl_1, nl_2, nl_3, nl_12, nl_13, nl_14, nl_20, nl_22, nl_48, nl_512, no_1, no_1024, pk_mul, nI_add, nm_ck, nI_clamp, nI_ltI, nI_leI, nI_eq, nb_b2, nb_b1, ↓nb_let, nm_z0, nm_z1, nb_II, nb_IR, nb_RI, nb_RR, nm_IL, nm_IQ, nm_RL, nm_RQ, nm_LI, nm_LR, nm_LL, nm_LQ, nm_QI, nm_QR, nm_QL, nm_QQ, nm_rr, nm_ii, nm_eqm, not_false_eq_true, pk_sub, nm_div, nm_shl, nm_shr, nm_ush, nm_or8, nm_or64, nm_or256, nm_m1, nm_m3, nm_m7, nm_m15, nm_m31, nm_m63, nm_m255, nm_m511, nm_m1023, nm_m2047, nm_m65535, Nat.reduceMod, Nat.reducePow, Nat.reduceAdd, Nat.reduceSub, Nat.reduceMul, nm_bo, nm_bi, nm_rc, nm_ic, nm_ri, nm_rl, nm_rq, nm_ql, nm_qi, nm_li, nm_us, nm_uu, nm_cp, nm_sa31, nm_sa7, nm_m127, nm_m2, nm_nz, nm_nzk, nm_eq32, nm_nzf, if_true, if_false, ↓reduceIte, if_pos, if_neg]
    rw [c1, c2]
    exact cO_w h (Or.inr (Or.inl ⟨Or.inl h17, d, o, N, hd, ho, n512, e10.trans ed, de, e12.trans z⟩))
  | false =>
  rw [bI_f] at rw1 rw2
  obtain ⟨m, v, hmN, cC, cR, f1, f3, f4, hv, hrr⟩ := rd_K n hn (A := A) h1 h3 ho y10 n512 hk y4 y7
  have fu := m1.2.2.2.1
  have us := m1.2.2.2.2
  have cu := cU_le (sR X.1 16)
  have u5 : m < 2 ^ 31 := by omega
  by_cases m0 : m = 0
  · subst m0
    obtain ⟨D', X', t1, t2, t3, ⟨j1, j2, j3, j4, j5, j6, j7⟩, t5⟩ := rd_T n hn h1 ho y10 n512 hmN hk y4 y7 f1 f3 f4 (nI A)
    have fF : df_X6_framesFor n (nI p) (nI A) (nI 0) K.2.2 = some (nI 0, K.2.2) := by simp (disch := (first | assumption | decide | omega)) only [df_X6_framesFor_97, df_X6_framesFor_95, df_X6_framesFor_61, df_X6_framesFor_0, df_X6_framesFor, Nat.lt_irrefl, eq_self, Nat.reduceEqDiff, Nat.reduceLeDiff, nl_0, nl_1, nl_2, nl_3, nl_6, nl_10, nl_31, nl_63, nl_256, nl_1024, no_1, no_1024, pk_mul, nI_add, nm_ck, nI_clamp, nI_ltI, nI_leI, nI_eq, nb_b2, nb_b1, ↓nb_let, nm_z0, nm_z1, nb_II, nb_IR, nb_RI, nb_RR, nm_IL, nm_IQ, nm_RL, nm_RQ, nm_LI, nm_LR, nm_LL, nm_LQ, nm_QI, nm_QR, nm_QL, nm_QQ, nm_rr, nm_ii, nm_eqm, not_false_eq_true, pk_sub, nm_div, nm_shl, nm_shr, nm_ush, nm_or8, nm_or64, nm_or256, nm_m1, nm_m3, nm_m7, nm_m15, nm_m31, nm_m63, nm_m255, nm_m511, nm_m1023, nm_m2047, nm_m65535, Nat.reduceMod, Nat.reducePow, Nat.reduceAdd, Nat.reduceSub, Nat.reduceMul, nm_bo, nm_bi, nm_rc, nm_ic, nm_ri, nm_rl, nm_rq, nm_ql, nm_qi, nm_li, nm_us, nm_uu, nm_cp, nm_sa31, nm_sa7, nm_m127, nm_m2, nm_nz, nm_nzk, nm_eq32, nm_nzf, if_true, if_false, ↓reduceIte, if_pos, if_neg]
    have wa : df_X16_wanted n (nI p) (nI A) (nI 0) X = some (nI 0, X) := by
      have e6 : ∃ F, df_X16_wanted_6 n n = dF_X16_wanted_6 n F := by
        obtain ⟨q, rfl⟩ : ∃ q : Nat, n = q + 1 := ⟨n - 1, by omega⟩
        exact ⟨_, rfl⟩
      obtain ⟨F, e6⟩ := e6
      refine Eq.trans (b := df_X16_wanted_6 n n (nI p) (nI A) (nI 0) (nI 0) (nI 0) X) rfl ?_
      rw [e6]
      simp (disch := (first | assumption | decide | omega)) only [dF_X16_wanted_6, Nat.le_refl, eq_self, Nat.reduceEqDiff, Nat.reduceLeDiff, nl_0, nl_64, nl_1024, no_1, no_1024, pk_mul, nI_add, nm_ck, nI_clamp, nI_ltI, nI_leI, nI_eq, nb_b2, nb_b1, ↓nb_let, nm_z0, nm_z1, nb_II, nb_IR, nb_RI, nb_RR, nm_IL, nm_IQ, nm_RL, nm_RQ, nm_LI, nm_LR, nm_LL, nm_LQ, nm_QI, nm_QR, nm_QL, nm_QQ, nm_rr, nm_ii, nm_eqm, not_false_eq_true, pk_sub, nm_div, nm_shl, nm_shr, nm_ush, nm_or8, nm_or64, nm_or256, nm_m1, nm_m3, nm_m7, nm_m15, nm_m31, nm_m63, nm_m255, nm_m511, nm_m1023, nm_m2047, nm_m65535, Nat.reduceMod, Nat.reducePow, Nat.reduceAdd, Nat.reduceSub, Nat.reduceMul, nm_bo, nm_bi, nm_rc, nm_ic, nm_ri, nm_rl, nm_rq, nm_ql, nm_qi, nm_li, nm_us, nm_uu, nm_cp, nm_sa31, nm_sa7, nm_m127, nm_m2, nm_nz, nm_nzk, nm_eq32, nm_nzf, if_true, if_false, ↓reduceIte, if_pos, if_neg]
    have e160 : ∃ F, df_X5_read_160 n n = dF_X5_read_160 n F := by
      obtain ⟨q, rfl⟩ : ∃ q : Nat, n = q + 1 := ⟨n - 1, by omega⟩
      exact ⟨_, rfl⟩
    have e124 : ∃ F, df_X16_read_124 n n = dF_X16_read_124 n F := by
      obtain ⟨q, rfl⟩ : ∃ q : Nat, n = q + 1 := ⟨n - 1, by omega⟩
      exact ⟨_, rfl⟩
    obtain ⟨F1, e160⟩ := e160
    obtain ⟨F2, e124⟩ := e124
    have nt : df_X6_noteWrite n (nI p) (nI A) (nI 0) K.2.2 = some K.2.2 := by simp (disch := (first | assumption | decide | omega)) only [df_X6_noteWrite_51, df_X6_noteWrite_0, df_X6_noteWrite, Nat.le_refl, eq_self, Nat.reduceEqDiff, Nat.reduceLeDiff, nl_0, nl_1, nl_4, nl_6, nl_7, nl_10, nl_26, nl_31, no_1, no_1024, pk_mul, nI_add, nm_ck, nI_clamp, nI_ltI, nI_leI, nI_eq, nb_b2, nb_b1, ↓nb_let, nm_z0, nm_z1, nb_II, nb_IR, nb_RI, nb_RR, nm_IL, nm_IQ, nm_RL, nm_RQ, nm_LI, nm_LR, nm_LL, nm_LQ, nm_QI, nm_QR, nm_QL, nm_QQ, nm_rr, nm_ii, nm_eqm, not_false_eq_true, pk_sub, nm_div, nm_shl, nm_shr, nm_ush, nm_or8, nm_or64, nm_or256, nm_m1, nm_m3, nm_m7, nm_m15, nm_m31, nm_m63, nm_m255, nm_m511, nm_m1023, nm_m2047, nm_m65535, Nat.reduceMod, Nat.reducePow, Nat.reduceAdd, Nat.reduceSub, Nat.reduceMul, nm_bo, nm_bi, nm_rc, nm_ic, nm_ri, nm_rl, nm_rq, nm_ql, nm_qi, nm_li, nm_us, nm_uu, nm_cp, nm_sa31, nm_sa7, nm_m127, nm_m2, nm_nz, nm_nzk, nm_eq32, nm_nzf, if_true, if_false, ↓reduceIte, if_pos, if_neg]
    have fr : df_X6_framesFree n K.2.2 = some (nI (256 - cU (sR X.1 16)), K.2.2) := by
      generalize cU (sR X.1 16) = x at fu cu
      simp (disch := (first | assumption | decide | omega)) only [df_X6_framesFree_0, df_X6_framesFree, fu, eq_self, Nat.reduceEqDiff, Nat.reduceLeDiff, nl_0, nl_256, no_1, no_1024, pk_mul, nI_add, nm_ck, nI_clamp, nI_ltI, nI_leI, nI_eq, nb_b2, nb_b1, ↓nb_let, nm_z0, nm_z1, nb_II, nb_IR, nb_RI, nb_RR, nm_IL, nm_IQ, nm_RL, nm_RQ, nm_LI, nm_LR, nm_LL, nm_LQ, nm_QI, nm_QR, nm_QL, nm_QQ, nm_rr, nm_ii, nm_eqm, not_false_eq_true, pk_sub, nm_div, nm_shl, nm_shr, nm_ush, nm_or8, nm_or64, nm_or256, nm_m1, nm_m3, nm_m7, nm_m15, nm_m31, nm_m63, nm_m255, nm_m511, nm_m1023, nm_m2047, nm_m65535, Nat.reduceMod, Nat.reducePow, Nat.reduceAdd, Nat.reduceSub, Nat.reduceMul, nm_bo, nm_bi, nm_rc, nm_ic, nm_ri, nm_rl, nm_rq, nm_ql, nm_qi, nm_li, nm_us, nm_uu, nm_cp, nm_sa31, nm_sa7, nm_m127, nm_m2, nm_nz, nm_nzk, nm_eq32, nm_nzf, if_true, if_false, ↓reduceIte, if_pos, if_neg]
    have hF : df_X16_hasFrames n (nI 0) X = some (nI 1, X) := by
      generalize cU (sR X.1 16) = x at us cu
      have w1 : ¬ 256 < x + 0 := by omega
      have w2 : ¬ 256 < x := by omega
      simp (disch := (first | assumption | decide | omega)) only [df_X16_hasFrames_17, df_X16_hasFrames_0, df_X16_hasFrames, us, w1, Nat.add_zero, w2, eq_self, Nat.reduceEqDiff, Nat.reduceLeDiff, nl_0, nl_1, nl_6, nl_256, no_1, no_1024, pk_mul, nI_add, nm_ck, nI_clamp, nI_ltI, nI_leI, nI_eq, nb_b2, nb_b1, ↓nb_let, nm_z0, nm_z1, nb_II, nb_IR, nb_RI, nb_RR, nm_IL, nm_IQ, nm_RL, nm_RQ, nm_LI, nm_LR, nm_LL, nm_LQ, nm_QI, nm_QR, nm_QL, nm_QQ, nm_rr, nm_ii, nm_eqm, not_false_eq_true, pk_sub, nm_div, nm_shl, nm_shr, nm_ush, nm_or8, nm_or64, nm_or256, nm_m1, nm_m3, nm_m7, nm_m15, nm_m31, nm_m63, nm_m255, nm_m511, nm_m1023, nm_m2047, nm_m65535, Nat.reduceMod, Nat.reducePow, Nat.reduceAdd, Nat.reduceSub, Nat.reduceMul, nm_bo, nm_bi, nm_rc, nm_ic, nm_ri, nm_rl, nm_rq, nm_ql, nm_qi, nm_li, nm_us, nm_uu, nm_cp, nm_sa31, nm_sa7, nm_m127, nm_m2, nm_nz, nm_nzk, nm_eq32, nm_nzf, if_true, if_false, ↓reduceIte, if_pos, if_neg]
    generalize cU (sR X.1 16) = x at fr cu
    have w3 : 0 ≤ 256 - x := by omega
    have w4 : 256 - x < 2 ^ 31 := by omega
    have c1 : df_X5_read n (nI p) a (nI A) (nI N) K = df_X5_read_160 n n (nI p) (nI A) (nI N) (nI o) (nI 0) (nI 0) K := by
      exact rc_0 n n512 ho hr r1 (by omega) ma1 o1 of4 rw1 cC fF fr (by omega) w4 w3 (Nat.le_refl 0)
    have c2 : df_X16_read n a (nI A) (nI N) X = df_X16_read_124 n n (nI A) (nI N) (nI o) (nI 0) (nI t) (nI 0) X := by
      exact rr_1 n n512 ho hr r1 h3 ma2 o2 er rw2 cR wa y7 hF
    rw [c1, c2, e124, t2, e160]
    have c3 : dF_X5_read_160 n F1 (nI p) (nI A) (nI N) (nI o) (nI 0) (nI 0) K = some ((nI 0).toInt64, (K.1, (K.2.1, (K.2.2.1, D')))) := by
      simp (disch := (first | assumption | decide | omega)) only [dF_X5_read_160, Nat.le_refl, nt, t1, eq_self, Nat.reduceEqDiff, Nat.reduceLeDiff, nl_1, nl_255, no_1, no_1024, pk_mul, nI_add, nm_ck, nI_clamp, nI_ltI, nI_leI, nI_eq, nb_b2, nb_b1, ↓nb_let, nm_z0, nm_z1, nb_II, nb_IR, nb_RI, nb_RR, nm_IL, nm_IQ, nm_RL, nm_RQ, nm_LI, nm_LR, nm_LL, nm_LQ, nm_QI, nm_QR, nm_QL, nm_QQ, nm_rr, nm_ii, nm_eqm, not_false_eq_true, pk_sub, nm_div, nm_shl, nm_shr, nm_ush, nm_or8, nm_or64, nm_or256, nm_m1, nm_m3, nm_m7, nm_m15, nm_m31, nm_m63, nm_m255, nm_m511, nm_m1023, nm_m2047, nm_m65535, Nat.reduceMod, Nat.reducePow, Nat.reduceAdd, Nat.reduceSub, Nat.reduceMul, nm_bo, nm_bi, nm_rc, nm_ic, nm_ri, nm_rl, nm_rq, nm_ql, nm_qi, nm_li, nm_us, nm_uu, nm_cp, nm_sa31, nm_sa7, nm_m127, nm_m2, nm_nz, nm_nzk, nm_eq32, nm_nzf, if_true, if_false, ↓reduceIte, if_pos, if_neg]
    rw [c3]
    exact ⟨_, nI 0, K.1, (K.2.2.1, D'), X', rfl, rfl, t3, fun _ => rfl, Or.inl ⟨j4.trans h4, rfl⟩, ⟨j1, j2, j3, j5, j6⟩, Or.inl ⟨h6, j7.trans h7⟩, fun _ => by rw [t5]; exact h5, fun y => absurd ((j4.trans h4).symm.trans y) (by decide)⟩
  · obtain ⟨_, fa, ha, ea⟩ := ma_f m1 h2 (hm 0 (by omega))
    rw [Nat.add_zero] at ea
    obtain ⟨hz, fb, hb, eb⟩ := ma_f m1 h2 (hm (m - 1) (by omega))
    have hA2 : A + m ≤ 65536 := by omega
    rw [show A + (m - 1) = A + m - 1 by omega] at eb
    obtain ⟨fF, wa⟩ := nk_wanted n hn m1 h2 (A := A) (m := m) (by omega) (by omega) hA2 ha hb ea eb
    have rE := fun hw => rd_E n hn h (A := A) ho y10 n512 hmN hk y4 y7 f1 f3 f4 hv hrr (by omega) hA2 ha hb ea eb hw
    have fr : df_X6_framesFree n K.2.2 = some (nI (256 - cU (sR X.1 16)), K.2.2) := by
      generalize cU (sR X.1 16) = x at fu cu
      simp (disch := (first | assumption | decide | omega)) only [df_X6_framesFree_0, df_X6_framesFree, fu, eq_self, Nat.reduceEqDiff, Nat.reduceLeDiff, nl_0, nl_256, no_1, no_1024, pk_mul, nI_add, nm_ck, nI_clamp, nI_ltI, nI_leI, nI_eq, nb_b2, nb_b1, ↓nb_let, nm_z0, nm_z1, nb_II, nb_IR, nb_RI, nb_RR, nm_IL, nm_IQ, nm_RL, nm_RQ, nm_LI, nm_LR, nm_LL, nm_LQ, nm_QI, nm_QR, nm_QL, nm_QQ, nm_rr, nm_ii, nm_eqm, not_false_eq_true, pk_sub, nm_div, nm_shl, nm_shr, nm_ush, nm_or8, nm_or64, nm_or256, nm_m1, nm_m3, nm_m7, nm_m15, nm_m31, nm_m63, nm_m255, nm_m511, nm_m1023, nm_m2047, nm_m65535, Nat.reduceMod, Nat.reducePow, Nat.reduceAdd, Nat.reduceSub, Nat.reduceMul, nm_bo, nm_bi, nm_rc, nm_ic, nm_ri, nm_rl, nm_rq, nm_ql, nm_qi, nm_li, nm_us, nm_uu, nm_cp, nm_sa31, nm_sa7, nm_m127, nm_m2, nm_nz, nm_nzk, nm_eq32, nm_nzf, if_true, if_false, ↓reduceIte, if_pos, if_neg]
    have wl : wt (sR X.1 16) (64 * p + A / 1024) (64 * p + (A + m - 1) / 1024) ≤ 2 := by
      unfold wt
      split <;> split <;> (try split) <;> omega
    generalize wt (sR X.1 16) (64 * p + A / 1024) (64 * p + (A + m - 1) / 1024) = y at fF wa rE wl
    have hF : df_X16_hasFrames n (nI y) X = some (if 256 < cU (sR X.1 16) + y then nI 0 else nI 1, X) := by
      generalize cU (sR X.1 16) = x at us cu
      have w1 : x + y < 2 ^ 31 := by omega
      by_cases w : 256 < x + y
      · simp (disch := (first | assumption | decide | omega)) only [df_X16_hasFrames_17, df_X16_hasFrames_0, df_X16_hasFrames, us, w, eq_self, Nat.reduceEqDiff, Nat.reduceLeDiff, nl_0, nl_1, nl_6, nl_256, no_1, no_1024, pk_mul, nI_add, nm_ck, nI_clamp, nI_ltI, nI_leI, nI_eq, nb_b2, nb_b1, ↓nb_let, nm_z0, nm_z1, nb_II, nb_IR, nb_RI, nb_RR, nm_IL, nm_IQ, nm_RL, nm_RQ, nm_LI, nm_LR, nm_LL, nm_LQ, nm_QI, nm_QR, nm_QL, nm_QQ, nm_rr, nm_ii, nm_eqm, not_false_eq_true, pk_sub, nm_div, nm_shl, nm_shr, nm_ush, nm_or8, nm_or64, nm_or256, nm_m1, nm_m3, nm_m7, nm_m15, nm_m31, nm_m63, nm_m255, nm_m511, nm_m1023, nm_m2047, nm_m65535, Nat.reduceMod, Nat.reducePow, Nat.reduceAdd, Nat.reduceSub, Nat.reduceMul, nm_bo, nm_bi, nm_rc, nm_ic, nm_ri, nm_rl, nm_rq, nm_ql, nm_qi, nm_li, nm_us, nm_uu, nm_cp, nm_sa31, nm_sa7, nm_m127, nm_m2, nm_nz, nm_nzk, nm_eq32, nm_nzf, if_true, if_false, ↓reduceIte, if_pos, if_neg]
      · simp (disch := (first | assumption | decide | omega)) only [df_X16_hasFrames_17, df_X16_hasFrames_0, df_X16_hasFrames, us, w, eq_self, Nat.reduceEqDiff, Nat.reduceLeDiff, nl_0, nl_1, nl_6, nl_256, no_1, no_1024, pk_mul, nI_add, nm_ck, nI_clamp, nI_ltI, nI_leI, nI_eq, nb_b2, nb_b1, ↓nb_let, nm_z0, nm_z1, nb_II, nb_IR, nb_RI, nb_RR, nm_IL, nm_IQ, nm_RL, nm_RQ, nm_LI, nm_LR, nm_LL, nm_LQ, nm_QI, nm_QR, nm_QL, nm_QQ, nm_rr, nm_ii, nm_eqm, not_false_eq_true, pk_sub, nm_div, nm_shl, nm_shr, nm_ush, nm_or8, nm_or64, nm_or256, nm_m1, nm_m3, nm_m7, nm_m15, nm_m31, nm_m63, nm_m255, nm_m511, nm_m1023, nm_m2047, nm_m65535, Nat.reduceMod, Nat.reducePow, Nat.reduceAdd, Nat.reduceSub, Nat.reduceMul, nm_bo, nm_bi, nm_rc, nm_ic, nm_ri, nm_rl, nm_rq, nm_ql, nm_qi, nm_li, nm_us, nm_uu, nm_cp, nm_sa31, nm_sa7, nm_m127, nm_m2, nm_nz, nm_nzk, nm_eq32, nm_nzf, if_true, if_false, ↓reduceIte, if_pos, if_neg]
    generalize cU (sR X.1 16) = x at fr cu hF rE
    have w4 : 256 - x < 2 ^ 31 := by omega
    have w5 : y < 2 ^ 31 := by omega
    have w6 : ¬ m ≤ 0 := by omega
    have w7 : 1 ≤ A + m := by omega
    by_cases w : 256 < x + y
    · rw [if_pos w] at hF
      have w3 : ¬ y ≤ 256 - x := by omega
      have c1 : df_X5_read n (nI p) a (nI A) (nI N) K = some (4398046511104, K) := by
        clear rE hrr hv
        exact rc_f n n512 ho hr r1 (by omega) ma1 o1 of4 rw1 cC fF fr w5 w4 w3
      have c2 : df_X16_read n a (nI A) (nI N) X = some (nI 0, (pI X.1 13 (nI 3), X.2)) := by
        clear rE hrr hv
        exact rr_f n n512 ho hr r1 h3 ma2 o2 er rw2 cR wa y7 hF
      rw [c1, c2]
      exact cO_f h
    · rw [if_neg w] at hF
      have w3 : y ≤ 256 - x := by omega
      obtain ⟨M1, M2, p1, p2, p3⟩ := rE (by omega)
      have c1 : df_X5_read n (nI p) a (nI A) (nI N) K = df_X5_read_160 n n (nI p) (nI A) (nI N) (nI o) (nI m) (nI 0) (K.1, (K.2.1, M2)) := by
        clear rE hrr hv p3
        exact rc_1 n n512 ho hr r1 (by omega) ma1 o1 of4 rw1 cC fF fr w5 w4 w3 w6 p1 p2
      have c2 : df_X16_read n a (nI A) (nI N) X = df_X16_read_124 n n (nI A) (nI N) (nI o) (nI m) (nI t) (nI 0) X := by
        clear rE hrr hv p3
        exact rr_1 n n512 ho hr r1 h3 ma2 o2 er rw2 cR wa y7 hF
      rw [c1, c2]
      exact p3

/-- how many are there, from the first and the second -/
theorem c2_fN (P : Nat → Bool) {N : Nat} : 2 ≤ cN P N ↔ fN P 0 N < N ∧ fN P (fN P 0 N + 1) (N - (fN P 0 N + 1)) < N := by
  obtain ⟨_, x2, x3, x4⟩ := fN_le P N 0
  generalize fN P 0 N = a at x2 x3 x4
  by_cases c : a < N
  · have pa := x3 (by omega)
    obtain ⟨y1, y2, y3, y4⟩ := fN_le P (N - (a + 1)) (a + 1)
    generalize fN P (a + 1) (N - (a + 1)) = b at y1 y2 y3 y4
    have u := cN_u (P := P) (Q := fun i => if i = a then false else P i) (j := a) (fun i hi => (if_neg hi).symm) c
    rw [pa, if_pos rfl] at u
    have u : cN (fun i => if i = a then false else P i) N + 1 = cN P N + 0 := u
    by_cases d : b < N
    · have z := cN_p (P := fun i => if i = a then false else P i) (i := b) (by
        show (if b = a then false else P b) = true
        rw [if_neg (by omega)]
        exact y3 (by omega)) d
      exact ⟨fun _ => ⟨c, d⟩, fun _ => by omega⟩
    · have z := cN_0 (P := fun i => if i = a then false else P i) (N := N) (fun i hi => by
        show (if i = a then false else P i) = false
        by_cases e : i = a
        · rw [if_pos e]
        · rw [if_neg e]
          by_cases f : i < a
          · exact x4 i (by omega) f
          · exact y4 i (by omega) (by omega))
      exact ⟨fun _ => by omega, fun w => absurd w.2 d⟩
  · have z := cN_0 (P := P) (N := N) (fun i hi => x4 i (by omega) (by omega))
    exact ⟨fun _ => by omega, fun w => absurd w.1 c⟩
/-- the second, once the first is taken -/
theorem fN_nx {P Q : Nat → Bool} {N a b : Nat} (ea : fN P 0 N = a) (ha : a < N) (eb : fN P (a + 1) (N - (a + 1)) = b) (hb : b < N) (hq : ∀ i : Nat, i < N → i ≠ a → Q i = P i) (qa : Q a = false) : fN Q 0 N = b := by
  obtain ⟨_, x2, x3, x4⟩ := fN_le P N 0
  obtain ⟨y1, y2, y3, y4⟩ := fN_le P (N - (a + 1)) (a + 1)
  rw [ea] at x2 x3 x4
  rw [eb] at y1 y2 y3 y4
  refine fN_is (by omega) (by omega) ?_ (fun i _ hi => ?_)
  · rw [hq b hb (by omega)]
    exact y3 (by omega)
  · by_cases e : i = a
    · rw [e]; exact qa
    · rw [hq i (by omega) e]
      by_cases f : i < a
      · exact x4 i (by omega) f
      · exact y4 i (by omega) hi
theorem cN_not (P : Nat → Bool) : ∀ N : Nat, cN (fun i => !P i) N + cN P N = N
  | 0 => rfl
  | N + 1 => by
    have ih := cN_not P N
    rw [cN_s, cN_s]
    cases P N
    · show cN (fun i => !P i) N + 1 + (cN P N + 0) = N + 1
      omega
    · show cN (fun i => !P i) N + 0 + (cN P N + 1) = N + 1
      omega
theorem nk_freeDescriptors (n : Nat) (hn : 1024 < n) {X : St × St} {p : Nat} (hp : p < 16) (h3 : sI X.1 12 = nI p) : df_X16_freeDescriptors n X = some (nI (cN (fd X p) 16), X) := by
  obtain ⟨m, hm⟩ := nm_lq (fun m k => df_X16_freeDescriptors_4 n m (nI (cN (fd X p) k)) (nI k) X) 16 n (by omega) (fun k m hk => by
    have u1 : p * 16 + k < 256 := by omega
    have u2 : p * 16 + k < 2 ^ 31 := by omega
    have u3 : k < 2 ^ 31 := by omega
    have u4 : 16 * p + k = p * 16 + k := by omega
    have k16 : ¬ 16 ≤ k := by omega
    rw [show df_X16_freeDescriptors_4 n (m + 1) = dF_X16_freeDescriptors_4 n (df_X16_freeDescriptors_4 n m) from rfl, cN_s]
    generalize df_X16_freeDescriptors_4 n m = G
    generalize cN (fd X p) k = y
    unfold fd
    by_cases c : sR X.1 14 (p * 16 + k) = -nI 1
    · rw [nm_dt c]
      simp (disch := (first | assumption | decide | omega)) only [dF_X16_freeDescriptors_4, df_X16_freeDescriptors_35, k16, h3, u4, c, eq_self, Nat.reduceEqDiff, Nat.reduceLeDiff, nl_1, nl_12, nl_14, nl_16, nl_256, no_1, no_1024, pk_mul, nI_add, nm_ck, nI_clamp, nI_ltI, nI_leI, nI_eq, nb_b2, nb_b1, ↓nb_let, nm_z0, nm_z1, nb_II, nb_IR, nb_RI, nb_RR, nm_IL, nm_IQ, nm_RL, nm_RQ, nm_LI, nm_LR, nm_LL, nm_LQ, nm_QI, nm_QR, nm_QL, nm_QQ, nm_rr, nm_ii, nm_eqm, not_false_eq_true, pk_sub, nm_div, nm_shl, nm_shr, nm_ush, nm_or8, nm_or64, nm_or256, nm_m1, nm_m3, nm_m7, nm_m15, nm_m31, nm_m63, nm_m255, nm_m511, nm_m1023, nm_m2047, nm_m65535, Nat.reduceMod, Nat.reducePow, Nat.reduceAdd, Nat.reduceSub, Nat.reduceMul, nm_bo, nm_bi, nm_rc, nm_ic, nm_ri, nm_rl, nm_rq, nm_ql, nm_qi, nm_li, nm_us, nm_uu, nm_cp, nm_sa31, nm_sa7, nm_m127, nm_m2, nm_nz, nm_nzk, nm_eq32, nm_nzf, if_true, if_false, ↓reduceIte, if_pos, if_neg]
    · rw [nm_df c]
      simp (disch := (first | assumption | decide | omega)) only [dF_X16_freeDescriptors_4, df_X16_freeDescriptors_35, k16, h3, u4, c, Nat.add_zero, eq_self, Nat.reduceEqDiff, Nat.reduceLeDiff, nl_1, nl_12, nl_14, nl_16, nl_256, no_1, no_1024, pk_mul, nI_add, nm_ck, nI_clamp, nI_ltI, nI_leI, nI_eq, nb_b2, nb_b1, ↓nb_let, nm_z0, nm_z1, nb_II, nb_IR, nb_RI, nb_RR, nm_IL, nm_IQ, nm_RL, nm_RQ, nm_LI, nm_LR, nm_LL, nm_LQ, nm_QI, nm_QR, nm_QL, nm_QQ, nm_rr, nm_ii, nm_eqm, not_false_eq_true, pk_sub, nm_div, nm_shl, nm_shr, nm_ush, nm_or8, nm_or64, nm_or256, nm_m1, nm_m3, nm_m7, nm_m15, nm_m31, nm_m63, nm_m255, nm_m511, nm_m1023, nm_m2047, nm_m65535, Nat.reduceMod, Nat.reducePow, Nat.reduceAdd, Nat.reduceSub, Nat.reduceMul, nm_bo, nm_bi, nm_rc, nm_ic, nm_ri, nm_rl, nm_rq, nm_ql, nm_qi, nm_li, nm_us, nm_uu, nm_cp, nm_sa31, nm_sa7, nm_m127, nm_m2, nm_nz, nm_nzk, nm_eq32, nm_nzf, if_true, if_false, ↓reduceIte, if_pos, if_neg])
  refine Eq.trans (b := df_X16_freeDescriptors_4 n n (nI 0) (nI 0) X) rfl (Eq.trans hm ?_)
  show df_X16_freeDescriptors_4 n (m + 1) _ (nI 16) X = _
  rw [show df_X16_freeDescriptors_4 n (m + 1) = dF_X16_freeDescriptors_4 n (df_X16_freeDescriptors_4 n m) from rfl]
  generalize df_X16_freeDescriptors_4 n m = G
  generalize cN (fd X p) 16 = y
  simp (disch := (first | assumption | decide | omega)) only [dF_X16_freeDescriptors_4, eq_self, Nat.reduceEqDiff, Nat.reduceLeDiff, nl_1, nl_12, nl_14, nl_16, nl_256, no_1, no_1024, pk_mul, nI_add, nm_ck, nI_clamp, nI_ltI, nI_leI, nI_eq, nb_b2, nb_b1, ↓nb_let, nm_z0, nm_z1, nb_II, nb_IR, nb_RI, nb_RR, nm_IL, nm_IQ, nm_RL, nm_RQ, nm_LI, nm_LR, nm_LL, nm_LQ, nm_QI, nm_QR, nm_QL, nm_QQ, nm_rr, nm_ii, nm_eqm, not_false_eq_true, pk_sub, nm_div, nm_shl, nm_shr, nm_ush, nm_or8, nm_or64, nm_or256, nm_m1, nm_m3, nm_m7, nm_m15, nm_m31, nm_m63, nm_m255, nm_m511, nm_m1023, nm_m2047, nm_m65535, Nat.reduceMod, Nat.reducePow, Nat.reduceAdd, Nat.reduceSub, Nat.reduceMul, nm_bo, nm_bi, nm_rc, nm_ic, nm_ri, nm_rl, nm_rq, nm_ql, nm_qi, nm_li, nm_us, nm_uu, nm_cp, nm_sa31, nm_sa7, nm_m127, nm_m2, nm_nz, nm_nzk, nm_eq32, nm_nzf, if_true, if_false, ↓reduceIte, if_pos, if_neg]
/-- which openings are free -/
def fop (X : St × St) (o : Nat) : Bool := decide (sR X.1 19 o ≤ nI 0)
theorem nk_openings (n : Nat) (hn : 1024 < n) {X : St × St} : df_X16_openings n X = some (nI (cN (fun o => !fop X o) 48), X) := by
  obtain ⟨m, hm⟩ := nm_lq (fun m k => df_X16_openings_4 n m (nI (cN (fun o => !fop X o) k)) (nI k) X) 48 n (by omega) (fun k m hk => by
    have u3 : k < 2 ^ 31 := by omega
    have k16 : ¬ 48 ≤ k := by omega
    rw [show df_X16_openings_4 n (m + 1) = dF_X16_openings_4 n (df_X16_openings_4 n m) from rfl, cN_s]
    generalize df_X16_openings_4 n m = G
    generalize cN (fun o => !fop X o) k = y
    unfold fop
    by_cases c : sR X.1 19 k ≤ nI 0
    · rw [decide_eq_true c]
      show _ = G (nI (y + 0)) (nI (k + 1)) X
      simp (disch := (first | assumption | decide | omega)) only [dF_X16_openings_4, df_X16_openings_26, k16, c, Nat.add_zero, eq_self, Nat.reduceEqDiff, Nat.reduceLeDiff, nl_0, nl_1, nl_19, nl_48, no_1, no_1024, pk_mul, nI_add, nm_ck, nI_clamp, nI_ltI, nI_leI, nI_eq, nb_b2, nb_b1, ↓nb_let, nm_z0, nm_z1, nb_II, nb_IR, nb_RI, nb_RR, nm_IL, nm_IQ, nm_RL, nm_RQ, nm_LI, nm_LR, nm_LL, nm_LQ, nm_QI, nm_QR, nm_QL, nm_QQ, nm_rr, nm_ii, nm_eqm, not_false_eq_true, pk_sub, nm_div, nm_shl, nm_shr, nm_ush, nm_or8, nm_or64, nm_or256, nm_m1, nm_m3, nm_m7, nm_m15, nm_m31, nm_m63, nm_m255, nm_m511, nm_m1023, nm_m2047, nm_m65535, Nat.reduceMod, Nat.reducePow, Nat.reduceAdd, Nat.reduceSub, Nat.reduceMul, nm_bo, nm_bi, nm_rc, nm_ic, nm_ri, nm_rl, nm_rq, nm_ql, nm_qi, nm_li, nm_us, nm_uu, nm_cp, nm_sa31, nm_sa7, nm_m127, nm_m2, nm_nz, nm_nzk, nm_eq32, nm_nzf, if_true, if_false, ↓reduceIte, if_pos, if_neg]
    · rw [decide_eq_false c]
      show _ = G (nI (y + 1)) (nI (k + 1)) X
      simp (disch := (first | assumption | decide | omega)) only [dF_X16_openings_4, df_X16_openings_26, k16, c, eq_self, Nat.reduceEqDiff, Nat.reduceLeDiff, nl_0, nl_1, nl_19, nl_48, no_1, no_1024, pk_mul, nI_add, nm_ck, nI_clamp, nI_ltI, nI_leI, nI_eq, nb_b2, nb_b1, ↓nb_let, nm_z0, nm_z1, nb_II, nb_IR, nb_RI, nb_RR, nm_IL, nm_IQ, nm_RL, nm_RQ, nm_LI, nm_LR, nm_LL, nm_LQ, nm_QI, nm_QR, nm_QL, nm_QQ, nm_rr, nm_ii, nm_eqm, not_false_eq_true, pk_sub, nm_div, nm_shl, nm_shr, nm_ush, nm_or8, nm_or64, nm_or256, nm_m1, nm_m3, nm_m7, nm_m15, nm_m31, nm_m63, nm_m255, nm_m511, nm_m1023, nm_m2047, nm_m65535, Nat.reduceMod, Nat.reducePow, Nat.reduceAdd, Nat.reduceSub, Nat.reduceMul, nm_bo, nm_bi, nm_rc, nm_ic, nm_ri, nm_rl, nm_rq, nm_ql, nm_qi, nm_li, nm_us, nm_uu, nm_cp, nm_sa31, nm_sa7, nm_m127, nm_m2, nm_nz, nm_nzk, nm_eq32, nm_nzf, if_true, if_false, ↓reduceIte, if_pos, if_neg])
  refine Eq.trans (b := df_X16_openings_4 n n (nI 0) (nI 0) X) rfl (Eq.trans hm ?_)
  show df_X16_openings_4 n (m + 1) _ (nI 48) X = _
  rw [show df_X16_openings_4 n (m + 1) = dF_X16_openings_4 n (df_X16_openings_4 n m) from rfl]
  generalize df_X16_openings_4 n m = G
  generalize cN (fun o => !fop X o) 48 = y
  simp (disch := (first | assumption | decide | omega)) only [dF_X16_openings_4, eq_self, Nat.reduceEqDiff, Nat.reduceLeDiff, nl_0, nl_1, nl_19, nl_48, no_1, no_1024, pk_mul, nI_add, nm_ck, nI_clamp, nI_ltI, nI_leI, nI_eq, nb_b2, nb_b1, ↓nb_let, nm_z0, nm_z1, nb_II, nb_IR, nb_RI, nb_RR, nm_IL, nm_IQ, nm_RL, nm_RQ, nm_LI, nm_LR, nm_LL, nm_LQ, nm_QI, nm_QR, nm_QL, nm_QQ, nm_rr, nm_ii, nm_eqm, not_false_eq_true, pk_sub, nm_div, nm_shl, nm_shr, nm_ush, nm_or8, nm_or64, nm_or256, nm_m1, nm_m3, nm_m7, nm_m15, nm_m31, nm_m63, nm_m255, nm_m511, nm_m1023, nm_m2047, nm_m65535, Nat.reduceMod, Nat.reducePow, Nat.reduceAdd, Nat.reduceSub, Nat.reduceMul, nm_bo, nm_bi, nm_rc, nm_ic, nm_ri, nm_rl, nm_rq, nm_ql, nm_qi, nm_li, nm_us, nm_uu, nm_cp, nm_sa31, nm_sa7, nm_m127, nm_m2, nm_nz, nm_nzk, nm_eq32, nm_nzf, if_true, if_false, ↓reduceIte, if_pos, if_neg]
theorem nk_openingsFree2 (n : Nat) (hn : 1024 < n) {D : St} {X : St × St} (h : rD (sR D 0) (sR D 1) (sR D 2) (sR D 4) (sR X.1 14) (sR X.1 19) (sR X.1 20) (sR X.1 21) (sR X.1 22) (sR X.1 23) (sR X.1 24) (sR X.1 25)) : df_X10_openingsFree n D = some (nI (cN (fop X) 48), D) := by
  have key : ∀ k : Nat, k < 48 → (sR D 1 (k * 5) = nI 0 ↔ sR X.1 19 k ≤ nI 0) := fun k hk => by
    obtain ⟨y1, y2⟩ := fo_le h hk
    exact y2.trans y1.symm
  obtain ⟨m, hm⟩ := nm_lq (fun m k => df_X10_openingsFree_4 n m (nI (cN (fop X) k)) (nI k) D) 48 n (by omega) (fun k m hk => by
    have u1 : k * 5 < 240 := by omega
    have u2 : k * 5 < 2 ^ 31 := by omega
    have u3 : k < 2 ^ 31 := by omega
    have k48 : ¬ 48 ≤ k := by omega
    rw [show df_X10_openingsFree_4 n (m + 1) = dF_X10_openingsFree_4 n (df_X10_openingsFree_4 n m) from rfl, cN_s]
    generalize df_X10_openingsFree_4 n m = G
    generalize cN (fop X) k = y
    unfold fop
    by_cases c : sR X.1 19 k ≤ nI 0
    · have c' := (key k hk).mpr c
      rw [nm_dt c]
      simp (disch := (first | assumption | decide | omega)) only [dF_X10_openingsFree_4, df_X10_openingsFree_22, df_X10_of_0, df_X10_of, k48, Nat.add_zero, c', eq_self, Nat.reduceEqDiff, Nat.reduceLeDiff, nl_0, nl_1, nl_5, nl_48, nl_240, no_1, no_1024, pk_mul, nI_add, nm_ck, nI_clamp, nI_ltI, nI_leI, nI_eq, nb_b2, nb_b1, ↓nb_let, nm_z0, nm_z1, nb_II, nb_IR, nb_RI, nb_RR, nm_IL, nm_IQ, nm_RL, nm_RQ, nm_LI, nm_LR, nm_LL, nm_LQ, nm_QI, nm_QR, nm_QL, nm_QQ, nm_rr, nm_ii, nm_eqm, not_false_eq_true, pk_sub, nm_div, nm_shl, nm_shr, nm_ush, nm_or8, nm_or64, nm_or256, nm_m1, nm_m3, nm_m7, nm_m15, nm_m31, nm_m63, nm_m255, nm_m511, nm_m1023, nm_m2047, nm_m65535, Nat.reduceMod, Nat.reducePow, Nat.reduceAdd, Nat.reduceSub, Nat.reduceMul, nm_bo, nm_bi, nm_rc, nm_ic, nm_ri, nm_rl, nm_rq, nm_ql, nm_qi, nm_li, nm_us, nm_uu, nm_cp, nm_sa31, nm_sa7, nm_m127, nm_m2, nm_nz, nm_nzk, nm_eq32, nm_nzf, if_true, if_false, ↓reduceIte, if_pos, if_neg]
    · have c' : ¬ sR D 1 (k * 5) = nI 0 := fun z => c ((key k hk).mp z)
      rw [nm_df c]
      simp (disch := (first | assumption | decide | omega)) only [dF_X10_openingsFree_4, df_X10_openingsFree_22, df_X10_of_0, df_X10_of, k48, Nat.add_zero, c', eq_self, Nat.reduceEqDiff, Nat.reduceLeDiff, nl_0, nl_1, nl_5, nl_48, nl_240, no_1, no_1024, pk_mul, nI_add, nm_ck, nI_clamp, nI_ltI, nI_leI, nI_eq, nb_b2, nb_b1, ↓nb_let, nm_z0, nm_z1, nb_II, nb_IR, nb_RI, nb_RR, nm_IL, nm_IQ, nm_RL, nm_RQ, nm_LI, nm_LR, nm_LL, nm_LQ, nm_QI, nm_QR, nm_QL, nm_QQ, nm_rr, nm_ii, nm_eqm, not_false_eq_true, pk_sub, nm_div, nm_shl, nm_shr, nm_ush, nm_or8, nm_or64, nm_or256, nm_m1, nm_m3, nm_m7, nm_m15, nm_m31, nm_m63, nm_m255, nm_m511, nm_m1023, nm_m2047, nm_m65535, Nat.reduceMod, Nat.reducePow, Nat.reduceAdd, Nat.reduceSub, Nat.reduceMul, nm_bo, nm_bi, nm_rc, nm_ic, nm_ri, nm_rl, nm_rq, nm_ql, nm_qi, nm_li, nm_us, nm_uu, nm_cp, nm_sa31, nm_sa7, nm_m127, nm_m2, nm_nz, nm_nzk, nm_eq32, nm_nzf, if_true, if_false, ↓reduceIte, if_pos, if_neg])
  refine Eq.trans (b := df_X10_openingsFree_4 n n (nI 0) (nI 0) D) rfl (Eq.trans hm ?_)
  show df_X10_openingsFree_4 n (m + 1) _ (nI 48) D = _
  rw [show df_X10_openingsFree_4 n (m + 1) = dF_X10_openingsFree_4 n (df_X10_openingsFree_4 n m) from rfl]
  generalize df_X10_openingsFree_4 n m = G
  generalize cN (fop X) 48 = y
  simp (disch := (first | assumption | decide | omega)) only [dF_X10_openingsFree_4, eq_self, Nat.reduceEqDiff, Nat.reduceLeDiff, nl_0, nl_1, nl_48, no_1, no_1024, pk_mul, nI_add, nm_ck, nI_clamp, nI_ltI, nI_leI, nI_eq, nb_b2, nb_b1, ↓nb_let, nm_z0, nm_z1, nb_II, nb_IR, nb_RI, nb_RR, nm_IL, nm_IQ, nm_RL, nm_RQ, nm_LI, nm_LR, nm_LL, nm_LQ, nm_QI, nm_QR, nm_QL, nm_QQ, nm_rr, nm_ii, nm_eqm, not_false_eq_true, pk_sub, nm_div, nm_shl, nm_shr, nm_ush, nm_or8, nm_or64, nm_or256, nm_m1, nm_m3, nm_m7, nm_m15, nm_m31, nm_m63, nm_m255, nm_m511, nm_m1023, nm_m2047, nm_m65535, Nat.reduceMod, Nat.reducePow, Nat.reduceAdd, Nat.reduceSub, Nat.reduceMul, nm_bo, nm_bi, nm_rc, nm_ic, nm_ri, nm_rl, nm_rq, nm_ql, nm_qi, nm_li, nm_us, nm_uu, nm_cp, nm_sa31, nm_sa7, nm_m127, nm_m2, nm_nz, nm_nzk, nm_eq32, nm_nzf, if_true, if_false, ↓reduceIte, if_pos, if_neg]
/-- the first free pipe -/
def fpi (X : St × St) : Nat := fN (fun k => decide (sR X.1 23 k = nI 0)) 0 8
theorem nk_freePipe (n : Nat) (hn : 1024 < n) {D : St} {X : St × St} (h : rD (sR D 0) (sR D 1) (sR D 2) (sR D 4) (sR X.1 14) (sR X.1 19) (sR X.1 20) (sR X.1 21) (sR X.1 22) (sR X.1 23) (sR X.1 24) (sR X.1 25)) : df_X10_freePipe n D = some (if fpi X < 8 then nI (fpi X) else -nI 1, D) ∧ ∀ v : Int32, df_X16_pipe_29 n n v (nI 0) X = df_X16_pipe_50 n v (nI (fpi X)) X := by
  have key : ∀ k : Nat, k < 8 → (sR D 2 (k * 4 + 1) + sR D 2 (k * 4 + 2) = nI 0 ↔ sR X.1 23 k = nI 0) := fun k hk => by
    obtain ⟨z1, z2, z3⟩ := h.2.2.1 k hk
    have l1 := cE_le (sR X.1 19) (sR X.1 20) 1 k
    have l2 := cE_le (sR X.1 19) (sR X.1 20) 2 k
    rw [z1, z2, z3]
    generalize cE (sR X.1 19) (sR X.1 20) 1 k = x at l1
    generalize cE (sR X.1 19) (sR X.1 20) 2 k = y at l2
    rw [nI_add]
    by_cases d : 0 < x + y
    · rw [decide_eq_true d]
      exact ⟨fun z => by have := nm_inI (by omega) (by omega) z; omega, fun z => absurd z (by decide)⟩
    · rw [decide_eq_false d, show x + y = 0 by omega]
      exact ⟨fun _ => rfl, fun _ => rfl⟩
  obtain ⟨x1, x2, x3, x4⟩ := fN_le (fun k => decide (sR X.1 23 k = nI 0)) 8 0
  have x3' : fpi X < 8 → sR X.1 23 (fpi X) = nI 0 := fun z => of_decide_eq_true (x3 z)
  have x2' : fpi X ≤ 8 := x2
  refine ⟨?_, fun v => ?_⟩
  · obtain ⟨m, hm⟩ := nm_ls (fun m k => df_X10_freePipe_2 n m (nI k) D) (fun k => decide (sR X.1 23 k = nI 0)) 0 8 n (by omega) (fun k m h0 hk c => by
      have c := of_decide_eq_false c
      have c' : ¬ sR D 2 (k * 4 + 1) + sR D 2 (k * 4 + 2) = nI 0 := fun z => c ((key k (by omega)).mp z)
      have u1 : k * 4 + 1 < 32 := by omega
      have u2 : k * 4 + 1 < 2 ^ 31 := by omega
      have u3 : k * 4 + 2 < 32 := by omega
      have u4 : k * 4 + 2 < 2 ^ 31 := by omega
      have u5 : k < 2 ^ 31 := by omega
      have k16 : ¬ 8 ≤ k := by omega
      rw [show df_X10_freePipe_2 n (m + 1) = dF_X10_freePipe_2 n (df_X10_freePipe_2 n m) from rfl]
      generalize df_X10_freePipe_2 n m = G
      simp (disch := (first | assumption | decide | omega)) only [dF_X10_freePipe_2, k16, c', eq_self, Nat.reduceEqDiff, Nat.reduceLeDiff, nl_0, nl_1, nl_2, nl_4, nl_8, nl_32, no_1, no_1024, pk_mul, nI_add, nm_ck, nI_clamp, nI_ltI, nI_leI, nI_eq, nb_b2, nb_b1, ↓nb_let, nm_z0, nm_z1, nb_II, nb_IR, nb_RI, nb_RR, nm_IL, nm_IQ, nm_RL, nm_RQ, nm_LI, nm_LR, nm_LL, nm_LQ, nm_QI, nm_QR, nm_QL, nm_QQ, nm_rr, nm_ii, nm_eqm, not_false_eq_true, pk_sub, nm_div, nm_shl, nm_shr, nm_ush, nm_or8, nm_or64, nm_or256, nm_m1, nm_m3, nm_m7, nm_m15, nm_m31, nm_m63, nm_m255, nm_m511, nm_m1023, nm_m2047, nm_m65535, Nat.reduceMod, Nat.reducePow, Nat.reduceAdd, Nat.reduceSub, Nat.reduceMul, nm_bo, nm_bi, nm_rc, nm_ic, nm_ri, nm_rl, nm_rq, nm_ql, nm_qi, nm_li, nm_us, nm_uu, nm_cp, nm_sa31, nm_sa7, nm_m127, nm_m2, nm_nz, nm_nzk, nm_eq32, nm_nzf, if_true, if_false, ↓reduceIte, if_pos, if_neg])
    refine Eq.trans (b := df_X10_freePipe_2 n n (nI 0) D) rfl (Eq.trans hm ?_)
    show df_X10_freePipe_2 n (m + 1) (nI (fpi X)) D = _
    generalize fpi X = k at x2' x3'
    rw [show df_X10_freePipe_2 n (m + 1) = dF_X10_freePipe_2 n (df_X10_freePipe_2 n m) from rfl]
    generalize df_X10_freePipe_2 n m = G
    have u5 : k < 2 ^ 31 := by omega
    by_cases c : k < 8
    · have z := (key k c).mpr (x3' c)
      have u1 : k * 4 + 1 < 32 := by omega
      have u2 : k * 4 + 1 < 2 ^ 31 := by omega
      have u3 : k * 4 + 2 < 32 := by omega
      have u4 : k * 4 + 2 < 2 ^ 31 := by omega
      have k16 : ¬ 8 ≤ k := by omega
      rw [if_pos c]
      simp (disch := (first | assumption | decide | omega)) only [dF_X10_freePipe_2, k16, z, eq_self, Nat.reduceEqDiff, Nat.reduceLeDiff, nl_0, nl_1, nl_2, nl_4, nl_8, nl_32, no_1, no_1024, pk_mul, nI_add, nm_ck, nI_clamp, nI_ltI, nI_leI, nI_eq, nb_b2, nb_b1, ↓nb_let, nm_z0, nm_z1, nb_II, nb_IR, nb_RI, nb_RR, nm_IL, nm_IQ, nm_RL, nm_RQ, nm_LI, nm_LR, nm_LL, nm_LQ, nm_QI, nm_QR, nm_QL, nm_QQ, nm_rr, nm_ii, nm_eqm, not_false_eq_true, pk_sub, nm_div, nm_shl, nm_shr, nm_ush, nm_or8, nm_or64, nm_or256, nm_m1, nm_m3, nm_m7, nm_m15, nm_m31, nm_m63, nm_m255, nm_m511, nm_m1023, nm_m2047, nm_m65535, Nat.reduceMod, Nat.reducePow, Nat.reduceAdd, Nat.reduceSub, Nat.reduceMul, nm_bo, nm_bi, nm_rc, nm_ic, nm_ri, nm_rl, nm_rq, nm_ql, nm_qi, nm_li, nm_us, nm_uu, nm_cp, nm_sa31, nm_sa7, nm_m127, nm_m2, nm_nz, nm_nzk, nm_eq32, nm_nzf, if_true, if_false, ↓reduceIte, if_pos, if_neg]
    · have k16 : 8 ≤ k := by omega
      rw [if_neg c]
      simp (disch := (first | assumption | decide | omega)) only [dF_X10_freePipe_2, k16, eq_self, Nat.reduceEqDiff, Nat.reduceLeDiff, nl_0, nl_1, nl_2, nl_4, nl_8, nl_32, no_1, no_1024, pk_mul, nI_add, nm_ck, nI_clamp, nI_ltI, nI_leI, nI_eq, nb_b2, nb_b1, ↓nb_let, nm_z0, nm_z1, nb_II, nb_IR, nb_RI, nb_RR, nm_IL, nm_IQ, nm_RL, nm_RQ, nm_LI, nm_LR, nm_LL, nm_LQ, nm_QI, nm_QR, nm_QL, nm_QQ, nm_rr, nm_ii, nm_eqm, not_false_eq_true, pk_sub, nm_div, nm_shl, nm_shr, nm_ush, nm_or8, nm_or64, nm_or256, nm_m1, nm_m3, nm_m7, nm_m15, nm_m31, nm_m63, nm_m255, nm_m511, nm_m1023, nm_m2047, nm_m65535, Nat.reduceMod, Nat.reducePow, Nat.reduceAdd, Nat.reduceSub, Nat.reduceMul, nm_bo, nm_bi, nm_rc, nm_ic, nm_ri, nm_rl, nm_rq, nm_ql, nm_qi, nm_li, nm_us, nm_uu, nm_cp, nm_sa31, nm_sa7, nm_m127, nm_m2, nm_nz, nm_nzk, nm_eq32, nm_nzf, if_true, if_false, ↓reduceIte, if_pos, if_neg]
  · obtain ⟨m, hm⟩ := nm_ls (fun m k => df_X16_pipe_29 n m v (nI k) X) (fun k => decide (sR X.1 23 k = nI 0)) 0 8 n (by omega) (fun k m h0 hk c => by
      have c : ¬ sR X.1 23 k = nI 0 := of_decide_eq_false c
      have u5 : k < 2 ^ 31 := by omega
      have u6 : k < 8 := by omega
      have k16 : ¬ 8 ≤ k := by omega
      rw [show df_X16_pipe_29 n (m + 1) = dF_X16_pipe_29 n (df_X16_pipe_29 n m) from rfl]
      generalize df_X16_pipe_29 n m = G
      simp (disch := (first | assumption | decide | omega)) only [dF_X16_pipe_29, k16, c, eq_self, Nat.reduceEqDiff, Nat.reduceLeDiff, nl_0, nl_1, nl_8, nl_23, no_1, no_1024, pk_mul, nI_add, nm_ck, nI_clamp, nI_ltI, nI_leI, nI_eq, nb_b2, nb_b1, ↓nb_let, nm_z0, nm_z1, nb_II, nb_IR, nb_RI, nb_RR, nm_IL, nm_IQ, nm_RL, nm_RQ, nm_LI, nm_LR, nm_LL, nm_LQ, nm_QI, nm_QR, nm_QL, nm_QQ, nm_rr, nm_ii, nm_eqm, not_false_eq_true, pk_sub, nm_div, nm_shl, nm_shr, nm_ush, nm_or8, nm_or64, nm_or256, nm_m1, nm_m3, nm_m7, nm_m15, nm_m31, nm_m63, nm_m255, nm_m511, nm_m1023, nm_m2047, nm_m65535, Nat.reduceMod, Nat.reducePow, Nat.reduceAdd, Nat.reduceSub, Nat.reduceMul, nm_bo, nm_bi, nm_rc, nm_ic, nm_ri, nm_rl, nm_rq, nm_ql, nm_qi, nm_li, nm_us, nm_uu, nm_cp, nm_sa31, nm_sa7, nm_m127, nm_m2, nm_nz, nm_nzk, nm_eq32, nm_nzf, if_true, if_false, ↓reduceIte, if_pos, if_neg])
    refine Eq.trans hm ?_
    show df_X16_pipe_29 n (m + 1) v (nI (fpi X)) X = _
    generalize fpi X = k at x2' x3'
    rw [show df_X16_pipe_29 n (m + 1) = dF_X16_pipe_29 n (df_X16_pipe_29 n m) from rfl]
    generalize df_X16_pipe_29 n m = G
    have u5 : k < 2 ^ 31 := by omega
    by_cases c : k < 8
    · have z := x3' c
      have k16 : ¬ 8 ≤ k := by omega
      simp (disch := (first | assumption | decide | omega)) only [dF_X16_pipe_29, k16, z, eq_self, Nat.reduceEqDiff, Nat.reduceLeDiff, nl_0, nl_1, nl_8, nl_23, no_1, no_1024, pk_mul, nI_add, nm_ck, nI_clamp, nI_ltI, nI_leI, nI_eq, nb_b2, nb_b1, ↓nb_let, nm_z0, nm_z1, nb_II, nb_IR, nb_RI, nb_RR, nm_IL, nm_IQ, nm_RL, nm_RQ, nm_LI, nm_LR, nm_LL, nm_LQ, nm_QI, nm_QR, nm_QL, nm_QQ, nm_rr, nm_ii, nm_eqm, not_false_eq_true, pk_sub, nm_div, nm_shl, nm_shr, nm_ush, nm_or8, nm_or64, nm_or256, nm_m1, nm_m3, nm_m7, nm_m15, nm_m31, nm_m63, nm_m255, nm_m511, nm_m1023, nm_m2047, nm_m65535, Nat.reduceMod, Nat.reducePow, Nat.reduceAdd, Nat.reduceSub, Nat.reduceMul, nm_bo, nm_bi, nm_rc, nm_ic, nm_ri, nm_rl, nm_rq, nm_ql, nm_qi, nm_li, nm_us, nm_uu, nm_cp, nm_sa31, nm_sa7, nm_m127, nm_m2, nm_nz, nm_nzk, nm_eq32, nm_nzf, if_true, if_false, ↓reduceIte, if_pos, if_neg]
    · have k16 : 8 ≤ k := by omega
      simp (disch := (first | assumption | decide | omega)) only [dF_X16_pipe_29, k16, eq_self, Nat.reduceEqDiff, Nat.reduceLeDiff, nl_0, nl_1, nl_8, nl_23, no_1, no_1024, pk_mul, nI_add, nm_ck, nI_clamp, nI_ltI, nI_leI, nI_eq, nb_b2, nb_b1, ↓nb_let, nm_z0, nm_z1, nb_II, nb_IR, nb_RI, nb_RR, nm_IL, nm_IQ, nm_RL, nm_RQ, nm_LI, nm_LR, nm_LL, nm_LQ, nm_QI, nm_QR, nm_QL, nm_QQ, nm_rr, nm_ii, nm_eqm, not_false_eq_true, pk_sub, nm_div, nm_shl, nm_shr, nm_ush, nm_or8, nm_or64, nm_or256, nm_m1, nm_m3, nm_m7, nm_m15, nm_m31, nm_m63, nm_m255, nm_m511, nm_m1023, nm_m2047, nm_m65535, Nat.reduceMod, Nat.reducePow, Nat.reduceAdd, Nat.reduceSub, Nat.reduceMul, nm_bo, nm_bi, nm_rc, nm_ic, nm_ri, nm_rl, nm_rq, nm_ql, nm_qi, nm_li, nm_us, nm_uu, nm_cp, nm_sa31, nm_sa7, nm_m127, nm_m2, nm_nz, nm_nzk, nm_eq32, nm_nzf, if_true, if_false, ↓reduceIte, if_pos, if_neg]
/-- one end of a pipe is opened, in both (pi0, pl0: the pipe's row and its length just before) -/
theorem pp_end (n : Nat) (hn : 1024 < n) {B p : Nat} {M X : St × St} (h : rM B M X) (hp : p < 16) (h3 : sI X.1 12 = nI p) (h5 : sR X.1 1 p = nI 1) {k t d : Nat} (hk : k = 1 ∨ k = 2) (ht : t < 8) (hd : d < 16) (ed : fN (fd X p) 0 16 = d) (hf : fo X < 48) {pi0 pl0 : Nat → Int32} (hpi : ∀ u s : Nat, u < 8 → 1 ≤ s → s ≤ 2 → pi0 (u * 4 + s) = sR M.2 2 (u * 4 + s)) (hT : ∀ u : Nat, u < 8 → (u = t ∨ sR X.1 23 u = nI 1) → ∃ L o : Nat, L ≤ 512 ∧ o < 512 ∧ pi0 (u * 4) = nI L ∧ pl0 u = nI L ∧ pi0 (u * 4 + 3) = nI o ∧ ∀ i : Nat, i < L → b8 (sR M.2 3 (u * 512 + (o + i) % 512)) (sR X.1 27 (512 * u + i))) : ∃ (D1 D' : St) (X1 X' : St × St), df_X10_open n (nI k) (nI t) (nI k) (pR M.2 2 pi0) = some (nI (fo X), D1) ∧ df_X10_linkTo n (nI p) (nI d) (nI (fo X)) D1 = some D' ∧ df_X16_opening n (nI k) (nI t) (nI k) (pR (pR X.1 23 (upd (sR X.1 23) t (nI 1))) 26 pl0, X.2) = some (nI (fo X), X1) ∧ df_X16_give n (nI (fo X)) X1 = some (nI d, X') ∧ rM B (M.1, D') X' ∧ kX X X' ∧ sR X'.1 1 = sR X.1 1 ∧ sR X'.1 19 = upd (sR X.1 19) (fo X) (nI k) ∧ sR X'.1 14 = upd (sR X.1 14) (p * 16 + d) (nI (fo X)) ∧ sR X'.1 23 = upd (sR X.1 23) t (nI 1) ∧ sR X'.1 16 = sR X.1 16 := by
  obtain ⟨m1, m2, m3, m4, m5, m6, m7⟩ := h
  have m2' : rD (sR M.2 0) (sR M.2 1) pi0 (sR M.2 4) (sR X.1 14) (sR X.1 19) (sR X.1 20) (sR X.1 21) (sR X.1 22) (sR X.1 23) (sR X.1 24) (sR X.1 25) := ⟨m2.1, m2.2.1, fun u hu => by rw [hpi u 1 hu (by omega) (by omega), hpi u 2 hu (by omega) (by omega)]; exact m2.2.2.1 u hu, m2.2.2.2⟩
  have o10 := nk_open10 n hn (D := pR M.2 2 pi0) (X := X) m2' hf (nI k) (nI t) (nI k)
  have o10 : df_X10_open n (nI k) (nI t) (nI k) (pR M.2 2 pi0) = nd_b1 (df_X10_hold n (nI k) (nI t) (nI 1) (pR (pR M.2 2 pi0) 1 (orw (sR M.2 1) (fo X) (nI k) (nI t) (nI k)))) (fun s => some (nI (fo X), s)) := o10
  have o16 := nk_opening16 n hn (X := (pR (pR X.1 23 (upd (sR X.1 23) t (nI 1))) 26 pl0, X.2)) hf (nI k) (nI t) (nI k)
  have o16 : df_X16_opening n (nI k) (nI t) (nI k) (pR (pR X.1 23 (upd (sR X.1 23) t (nI 1))) 26 pl0, X.2) = some (nI (fo X), (pR (pR (pR (pR (pR (pR X.1 23 (upd (sR X.1 23) t (nI 1))) 26 pl0) 19 (upd (sR X.1 19) (fo X) (nI k))) 20 (upd (sR X.1 20) (fo X) (nI t))) 21 (upd (sR X.1 21) (fo X) (nI 0))) 22 (upd (sR X.1 22) (fo X) (nI k)), X.2)) := o16
  obtain ⟨x1, x2, x3, x4⟩ := fN_le (fun o => decide (sR X.1 19 o ≤ nI 0)) 48 0
  have x3' : sR X.1 19 (fo X) ≤ nI 0 := of_decide_eq_true (x3 hf)
  obtain ⟨y1, y2, y3, y4⟩ := fN_le (fd X p) 16 0
  have free : sR X.1 14 (p * 16 + d) = -nI 1 := by
    have := y3 (by rw [ed]; omega)
    rw [ed] at this
    exact of_decide_eq_true this
  clear x1 x2 x3 x4 y1 y2 y3 y4
  generalize fo X = o at hf o10 o16 x3'
  have kd0 : sR X.1 19 o = nI 0 := (fo_le m2 hf).1.mp x3'
  have zk : pi0 (t * 4 + k) = nI (cE (sR X.1 19) (sR X.1 20) k t) := by
    obtain ⟨z1, z2, _⟩ := m2'.2.2.1 t ht
    rcases hk with e | e
    · rw [e]; exact z1
    · rw [e]; exact z2
  have cl := cE_le (sR X.1 19) (sR X.1 20) k t
  have u1 : p * 16 + d < 256 := by omega
  have ho := nk_hold2 n (D := pR (pR M.2 2 pi0) 1 (orw (sR M.2 1) o (nI k) (nI t) (nI k))) hk ht cl zk
  have ho : df_X10_hold n (nI k) (nI t) (nI 1) (pR (pR M.2 2 pi0) 1 (orw (sR M.2 1) o (nI k) (nI t) (nI k))) = some (pR (pR (pR M.2 2 pi0) 1 (orw (sR M.2 1) o (nI k) (nI t) (nI k))) 2 (upd pi0 (t * 4 + k) (nI (cE (sR X.1 19) (sR X.1 20) k t + 1)))) := ho
  rw [ho, nb_b1] at o10
  have w0 : orw (sR M.2 1) o (nI k) (nI t) (nI k) (o * 5) = nI k := by
    unfold orw
    rw [nm_un (by omega), nm_un (by omega), nm_un (by omega), nm_un (by omega), nm_us]
  have w1 : orw (sR M.2 1) o (nI k) (nI t) (nI k) (o * 5 + 1) = nI 0 := by
    unfold orw
    rw [nm_un (by omega), nm_un (by omega), nm_un (by omega), nm_us]
  have w2 : orw (sR M.2 1) o (nI k) (nI t) (nI k) (o * 5 + 2) = nI t := by
    unfold orw
    rw [nm_un (by omega), nm_un (by omega), nm_us]
  have w3 : orw (sR M.2 1) o (nI k) (nI t) (nI k) (o * 5 + 3) = nI 0 := by
    unfold orw
    rw [nm_un (by omega), nm_us]
  have w4 : orw (sR M.2 1) o (nI k) (nI t) (nI k) (o * 5 + 4) = nI k := by
    unfold orw
    rw [nm_us]
  have wo : ∀ j : Nat, j < 48 → j ≠ o → ∀ x : Nat, x < 5 → orw (sR M.2 1) o (nI k) (nI t) (nI k) (j * 5 + x) = sR M.2 1 (j * 5 + x) := fun j hj hne x hx => by
    unfold orw
    rw [nm_un (by omega), nm_un (by omega), nm_un (by omega), nm_un (by omega), nm_un (by omega)]
  generalize orw (sR M.2 1) o (nI k) (nI t) (nI k) = R at o10 w0 w1 w2 w3 w4 wo
  have lt := nk_linkTo n (D := pR (pR (pR M.2 2 pi0) 1 R) 2 (upd pi0 (t * 4 + k) (nI (cE (sR X.1 19) (sR X.1 20) k t + 1)))) hp hd hf (c := 0) (by omega) w1
  have lt : df_X10_linkTo n (nI p) (nI d) (nI o) (pR (pR (pR M.2 2 pi0) 1 R) 2 (upd pi0 (t * 4 + k) (nI (cE (sR X.1 19) (sR X.1 20) k t + 1)))) = some (dU (pR (pR (pR M.2 2 pi0) 1 R) 2 (upd pi0 (t * 4 + k) (nI (cE (sR X.1 19) (sR X.1 20) k t + 1)))) (upd (sR M.2 0) (p * 16 + d) (nI (o + 1))) (upd R (o * 5 + 1) (nI 1)) (upd pi0 (t * 4 + k) (nI (cE (sR X.1 19) (sR X.1 20) k t + 1))) (sR M.2 4)) := lt
  have rd := rD_open m2' (i := p * 16 + d) (o := o) (k := k) (t := t) (r := k) u1 hf (by omega) (by omega) (by omega) (fun _ => ht) (by omega) (fun e => e) (fun e => e) free kd0 (op' := upd R (o * 5 + 1) (nI 1)) (pi' := upd pi0 (t * 4 + k) (nI (cE (sR X.1 19) (sR X.1 20) k t + 1))) (fi' := sR M.2 4) (ip' := upd (sR X.1 23) t (nI 1)) (isf' := sR X.1 24) (nam' := sR X.1 25) (fun j hj hne x hx => by rw [nm_un (by omega)]; exact wo j hj hne x hx) ⟨by rw [nm_un (by omega)]; exact w0, nm_us, by rw [nm_un (by omega)]; exact w2, by rw [nm_un (by omega)]; exact w3, by rw [nm_un (by omega)]; exact w4⟩ (fun u s hu q1 q2 => by
    by_cases c : s = k ∧ u = t
    · rw [if_pos c, c.1, c.2, nm_us]
    · rw [if_neg c, nm_un (fun y => c (by omega))]) (fun u hu => ⟨by rw [if_neg (fun y => by omega)], (m2.2.2.2 u hu).2.2.1, (m2.2.2.2 u hu).2.1⟩) (fun u hu => by
    by_cases c : u = t
    · rw [if_pos ⟨by omega, c⟩, c, nm_us]
    · rw [if_neg (fun y => c y.2), nm_un c]) (fun u hu => ⟨fun y => by omega, fun _ => ⟨rfl, rfl⟩⟩)
  have fr := nk_freeDescriptor n hn (X := (pR (pR (pR (pR (pR (pR X.1 23 (upd (sR X.1 23) t (nI 1))) 26 pl0) 19 (upd (sR X.1 19) o (nI k))) 20 (upd (sR X.1 20) o (nI t))) 21 (upd (sR X.1 21) o (nI 0))) 22 (upd (sR X.1 22) o (nI k)), X.2)) hp h3
  have fr : df_X16_freeDescriptor n (pR (pR (pR (pR (pR (pR X.1 23 (upd (sR X.1 23) t (nI 1))) 26 pl0) 19 (upd (sR X.1 19) o (nI k))) 20 (upd (sR X.1 20) o (nI t))) 21 (upd (sR X.1 21) o (nI 0))) 22 (upd (sR X.1 22) o (nI k)), X.2) = some (cv (fN (fd X p) 0 16), (pR (pR (pR (pR (pR (pR X.1 23 (upd (sR X.1 23) t (nI 1))) 26 pl0) 19 (upd (sR X.1 19) o (nI k))) 20 (upd (sR X.1 20) o (nI t))) 21 (upd (sR X.1 21) o (nI 0))) 22 (upd (sR X.1 22) o (nI k)), X.2)) := fr
  rw [ed, cv_0 hd] at fr
  have u2 : 16 * p + d = p * 16 + d := by omega
  have u3 : p * 16 + d < 2 ^ 31 := by omega
  have gv : df_X16_give n (nI o) (pR (pR (pR (pR (pR (pR X.1 23 (upd (sR X.1 23) t (nI 1))) 26 pl0) 19 (upd (sR X.1 19) o (nI k))) 20 (upd (sR X.1 20) o (nI t))) 21 (upd (sR X.1 21) o (nI 0))) 22 (upd (sR X.1 22) o (nI k)), X.2) = some (nI d, (pR (pR (pR (pR (pR (pR (pR X.1 23 (upd (sR X.1 23) t (nI 1))) 26 pl0) 19 (upd (sR X.1 19) o (nI k))) 20 (upd (sR X.1 20) o (nI t))) 21 (upd (sR X.1 21) o (nI 0))) 22 (upd (sR X.1 22) o (nI k))) 14 (upd (sR X.1 14) (p * 16 + d) (nI o)), X.2)) := by
    unfold df_X16_give df_X16_give_0
    rw [fr, nb_b2]
    have e12 : sI (pR (pR (pR (pR (pR (pR X.1 23 (upd (sR X.1 23) t (nI 1))) 26 pl0) 19 (upd (sR X.1 19) o (nI k))) 20 (upd (sR X.1 20) o (nI t))) 21 (upd (sR X.1 21) o (nI 0))) 22 (upd (sR X.1 22) o (nI k))) 12 = nI p := h3
    have e14 : sR (pR (pR (pR (pR (pR (pR X.1 23 (upd (sR X.1 23) t (nI 1))) 26 pl0) 19 (upd (sR X.1 19) o (nI k))) 20 (upd (sR X.1 20) o (nI t))) 21 (upd (sR X.1 21) o (nI 0))) 22 (upd (sR X.1 22) o (nI k))) 14 = sR X.1 14 := rfl
    generalize pR (pR (pR (pR (pR (pR X.1 23 (upd (sR X.1 23) t (nI 1))) 26 pl0) 19 (upd (sR X.1 19) o (nI k))) 20 (upd (sR X.1 20) o (nI t))) 21 (upd (sR X.1 21) o (nI 0))) 22 (upd (sR X.1 22) o (nI k)) = T at e12 e14
    simp (disch := (first | assumption | decide | omega)) only [df_X16_give_0, e12, e14, u2, eq_self, Nat.reduceEqDiff, Nat.reduceLeDiff, nl_12, nl_14, nl_16, nl_256, no_1, no_1024, pk_mul, nI_add, nm_ck, nI_clamp, nI_ltI, nI_leI, nI_eq, nb_b2, nb_b1, ↓nb_let, nm_z0, nm_z1, nb_II, nb_IR, nb_RI, nb_RR, nm_IL, nm_IQ, nm_RL, nm_RQ, nm_LI, nm_LR, nm_LL, nm_LQ, nm_QI, nm_QR, nm_QL, nm_QQ, nm_rr, nm_ii, nm_eqm, not_false_eq_true, pk_sub, nm_div, nm_shl, nm_shr, nm_ush, nm_or8, nm_or64, nm_or256, nm_m1, nm_m3, nm_m7, nm_m15, nm_m31, nm_m63, nm_m255, nm_m511, nm_m1023, nm_m2047, nm_m65535, Nat.reduceMod, Nat.reducePow, Nat.reduceAdd, Nat.reduceSub, Nat.reduceMul, nm_bo, nm_bi, nm_rc, nm_ic, nm_ri, nm_rl, nm_rq, nm_ql, nm_qi, nm_li, nm_us, nm_uu, nm_cp, nm_sa31, nm_sa7, nm_m127, nm_m2, nm_nz, nm_nzk, nm_eq32, nm_nzf, if_true, if_false, ↓reduceIte, if_pos, if_neg]
  refine ⟨_, _, _, _, o10, lt, o16, gv, ⟨m1, rd, rP_all m3 (p := p) ?_ (fun r hr => ⟨⟨fun _ _ => rfl, fun _ _ => rfl, fun _ _ => rfl, fun _ _ => rfl, rfl⟩, ⟨⟨rfl, rfl, rfl, rfl, rfl, rfl, rfl, rfl⟩, fun _ _ => rfl, rfl, fun _ _ => rfl, rfl, fun _ _ => rfl, fun i hi => nm_un (by omega), fun _ _ => Iff.rfl, rfl⟩⟩), m4, m5, m6, ?_⟩, ⟨rfl, rfl, rfl, rfl, rfl, rfl, rfl⟩, rfl, rfl, rfl, rfl, rfl⟩
  · obtain ⟨t, c', w, b', e, ht, hc', hw, hb, he, a1, a2, a3, a4, a5, a6, a7, a8, a9, a10, a11, a12, a13, a14, a15, a16, a17, a18, a19, a20, a21⟩ := m3 p hp
    have t1 : t = 1 := nm_inI (by omega) (by omega) (a2.symm.trans h5)
    exact ⟨t, c', w, b', e, ht, hc', hw, hb, he, a1, a2, a3, a4, a5, a6, a7, a8, a9, a10, a11, a12, a13, a14, a15, a16, a17, a18, fun z => by omega, fun z => by omega, a21⟩
  · obtain ⟨t1, t2, t3⟩ := m7
    refine ⟨fun u hu e => ?_, t2, t3⟩
    have e : upd (sR X.1 23) t (nI 1) u = nI 1 := e
    obtain ⟨L, o', l1, l2, l3, l4, l5, l6⟩ := hT u hu (by
      by_cases c : u = t
      · exact Or.inl c
      · rw [nm_un c] at e; exact Or.inr e)
    refine ⟨L, o', l1, l2, ?_, l4, ?_, l6⟩
    · show upd pi0 (t * 4 + k) _ (u * 4) = nI L
      rw [nm_un (by omega)]; exact l3
    · show upd pi0 (t * 4 + k) _ (u * 4 + 3) = nI o'
      rw [nm_un (by omega)]; exact l5

theorem wvs_c {X Y : St × St} (e1 : sI Y.1 14 = sI X.1 14) (e2 : sI Y.1 15 = sI X.1 15) (wr : Int32) (p a : Nat) : ∀ k : Nat, wvs Y wr p a k = wvs X wr p a k
  | 0 => rfl
  | k + 1 => by
    show wv Y (wvs Y wr p a k) p (a + k) = wv X (wvs X wr p a k) p (a + k)
    rw [wvs_c e1 e2 wr p a k]
    unfold wv
    rw [e1, e2]
/-- whose page it is: the page alone counts -/
theorem own_pg (n : Nat) {p a b : Nat} (ha : a < 65536) (hb : b < 65536) (e : a / 1024 = b / 1024) (M : St × St) : df_X6_own n (nI p) (nI a) M = df_X6_own n (nI p) (nI b) M := by
  have k : ∀ c : Nat, c < 65536 → ((nI c).toUInt32 >>> ((10 : Int32).toUInt32 &&& Int32.toUInt32 31)).toInt32 = nI (c / 1024) := fun c hc => by simp (disch := (first | assumption | decide | omega)) only [eq_self, Nat.reduceEqDiff, Nat.reduceLeDiff, nl_10, nl_31, no_1, no_1024, pk_mul, nI_add, nm_ck, nI_clamp, nI_ltI, nI_leI, nI_eq, nb_b2, nb_b1, ↓nb_let, nm_z0, nm_z1, nb_II, nb_IR, nb_RI, nb_RR, nm_IL, nm_IQ, nm_RL, nm_RQ, nm_LI, nm_LR, nm_LL, nm_LQ, nm_QI, nm_QR, nm_QL, nm_QQ, nm_rr, nm_ii, nm_eqm, not_false_eq_true, pk_sub, nm_div, nm_shl, nm_shr, nm_ush, nm_or8, nm_or64, nm_or256, nm_m1, nm_m3, nm_m7, nm_m15, nm_m31, nm_m63, nm_m255, nm_m511, nm_m1023, nm_m2047, nm_m65535, Nat.reduceMod, Nat.reducePow, Nat.reduceAdd, Nat.reduceSub, Nat.reduceMul, nm_bo, nm_bi, nm_rc, nm_ic, nm_ri, nm_rl, nm_rq, nm_ql, nm_qi, nm_li, nm_us, nm_uu, nm_cp, nm_sa31, nm_sa7, nm_m127, nm_m2, nm_nz, nm_nzk, nm_eq32, nm_nzf, if_true, if_false, ↓reduceIte, if_pos, if_neg]
  unfold df_X6_own df_X6_own_0
  rw [k a ha, k b hb, e]
/-- the reference's eight bytes -/
theorem pp_R (n : Nat) (hn : 8 < n) {X : St × St} {p A d e : Nat} (h3 : sI X.1 12 = nI p) {v : Nat → Int32} (hv : v = fun k => (if k < 4 then nI d else nI e) >>> nI (8 * (k % 4))) {Y : St × St} (hY : wrs n p A v 8 X = some Y) (hk : ∀ k : Nat, k ≤ 8 → ∃ (b' fr' ho' : Nat → Int32) (us' re' wr' : Int32), wrs n p A v k X = some (wX X b' fr' (sR X.1 17) ho' us' re' wr')) : df_X16_pipe_142 n n (nI A) (nI d) (nI e) (nI 0) X = some (nI 0, Y) := by
  obtain ⟨m', s', ⟨i1, i2⟩, e⟩ := nm_l1 (S := St × St) (fun g k s => df_X16_pipe_142 n g (nI A) (nI d) (nI e) (nI k) s) (fun k s => wrs n p A v k X = some s ∧ sI s.1 12 = nI p) 8 n (by omega) (fun k g s hk' ⟨i1, i2⟩ => by
    obtain ⟨b', fr', ho', us', re', wr', e1⟩ := hk (k + 1) (by omega)
    have e1' : nd_b1 (wrs n p A v k X) (fun s => df_X16_write n (nI p) (nI (A + k)) (v k) s) = some (wX X b' fr' (sR X.1 17) ho' us' re' wr') := e1
    rw [i1, nb_b1] at e1'
    refine ⟨_, ⟨e1, h3⟩, ?_⟩
    have hs : 8 * (k - k / 4 * 4) % 32 = 8 * (k % 4) := by omega
    have k8 : ¬ 8 ≤ k := by omega
    have u1 : k < 2 ^ 31 := by omega
    have vk : v k = (if k < 4 then nI d else nI e) >>> nI (8 * (k % 4)) := by rw [hv]
    rw [vk] at e1'
    rw [show df_X16_pipe_142 n (g + 1) = dF_X16_pipe_142 n (df_X16_pipe_142 n g) from rfl]
    generalize df_X16_pipe_142 n g = G
    by_cases c : 4 ≤ k
    · rw [if_neg (by omega)] at e1'
      simp (disch := (first | assumption | decide | omega)) only [dF_X16_pipe_142, df_X16_pipe_170, k8, c, i2, hs, e1', eq_self, Nat.reduceEqDiff, Nat.reduceLeDiff, nl_0, nl_1, nl_4, nl_8, nl_12, nl_31, no_1, no_1024, pk_mul, nI_add, nm_ck, nI_clamp, nI_ltI, nI_leI, nI_eq, nb_b2, nb_b1, ↓nb_let, nm_z0, nm_z1, nb_II, nb_IR, nb_RI, nb_RR, nm_IL, nm_IQ, nm_RL, nm_RQ, nm_LI, nm_LR, nm_LL, nm_LQ, nm_QI, nm_QR, nm_QL, nm_QQ, nm_rr, nm_ii, nm_eqm, not_false_eq_true, pk_sub, nm_div, nm_shl, nm_shr, nm_ush, nm_or8, nm_or64, nm_or256, nm_m1, nm_m3, nm_m7, nm_m15, nm_m31, nm_m63, nm_m255, nm_m511, nm_m1023, nm_m2047, nm_m65535, Nat.reduceMod, Nat.reducePow, Nat.reduceAdd, Nat.reduceSub, Nat.reduceMul, nm_bo, nm_bi, nm_rc, nm_ic, nm_ri, nm_rl, nm_rq, nm_ql, nm_qi, nm_li, nm_us, nm_uu, nm_cp, nm_sa31, nm_sa7, nm_m127, nm_m2, nm_nz, nm_nzk, nm_eq32, nm_nzf, if_true, if_false, ↓reduceIte, if_pos, if_neg]
    · rw [if_pos (by omega)] at e1'
      simp (disch := (first | assumption | decide | omega)) only [dF_X16_pipe_142, df_X16_pipe_170, k8, c, i2, hs, e1', eq_self, Nat.reduceEqDiff, Nat.reduceLeDiff, nl_0, nl_1, nl_4, nl_8, nl_12, nl_31, no_1, no_1024, pk_mul, nI_add, nm_ck, nI_clamp, nI_ltI, nI_leI, nI_eq, nb_b2, nb_b1, ↓nb_let, nm_z0, nm_z1, nb_II, nb_IR, nb_RI, nb_RR, nm_IL, nm_IQ, nm_RL, nm_RQ, nm_LI, nm_LR, nm_LL, nm_LQ, nm_QI, nm_QR, nm_QL, nm_QQ, nm_rr, nm_ii, nm_eqm, not_false_eq_true, pk_sub, nm_div, nm_shl, nm_shr, nm_ush, nm_or8, nm_or64, nm_or256, nm_m1, nm_m3, nm_m7, nm_m15, nm_m31, nm_m63, nm_m255, nm_m511, nm_m1023, nm_m2047, nm_m65535, Nat.reduceMod, Nat.reducePow, Nat.reduceAdd, Nat.reduceSub, Nat.reduceMul, nm_bo, nm_bi, nm_rc, nm_ic, nm_ri, nm_rl, nm_rq, nm_ql, nm_qi, nm_li, nm_us, nm_uu, nm_cp, nm_sa31, nm_sa7, nm_m127, nm_m2, nm_nz, nm_nzk, nm_eq32, nm_nzf, if_true, if_false, ↓reduceIte, if_pos, if_neg]) X ⟨rfl, h3⟩
  refine Eq.trans e ?_
  rw [hY] at i1
  cases i1
  show df_X16_pipe_142 n (m' + 1) _ _ _ (nI 8) _ = _
  rw [show df_X16_pipe_142 n (m' + 1) = dF_X16_pipe_142 n (df_X16_pipe_142 n m') from rfl]
  generalize df_X16_pipe_142 n m' = G
  simp (disch := (first | assumption | decide | omega)) only [dF_X16_pipe_142, eq_self, Nat.reduceEqDiff, Nat.reduceLeDiff, nl_0, nl_4, nl_8, nl_12, no_1, no_1024, pk_mul, nI_add, nm_ck, nI_clamp, nI_ltI, nI_leI, nI_eq, nb_b2, nb_b1, ↓nb_let, nm_z0, nm_z1, nb_II, nb_IR, nb_RI, nb_RR, nm_IL, nm_IQ, nm_RL, nm_RQ, nm_LI, nm_LR, nm_LL, nm_LQ, nm_QI, nm_QR, nm_QL, nm_QQ, nm_rr, nm_ii, nm_eqm, not_false_eq_true, pk_sub, nm_div, nm_shl, nm_shr, nm_ush, nm_or8, nm_or64, nm_or256, nm_m1, nm_m3, nm_m7, nm_m15, nm_m31, nm_m63, nm_m255, nm_m511, nm_m1023, nm_m2047, nm_m65535, Nat.reduceMod, Nat.reducePow, Nat.reduceAdd, Nat.reduceSub, Nat.reduceMul, nm_bo, nm_bi, nm_rc, nm_ic, nm_ri, nm_rl, nm_rq, nm_ql, nm_qi, nm_li, nm_us, nm_uu, nm_cp, nm_sa31, nm_sa7, nm_m127, nm_m2, nm_nz, nm_nzk, nm_eq32, nm_nzf, if_true, if_false, ↓reduceIte, if_pos, if_neg]
theorem pbs_8 (b : Nat → Int32) {p A : Nat} (hal : A % 4 = 0) (x y : Int32) : pbs b p A (fun k => (if k < 4 then x else y) >>> nI (8 * (k % 4))) 8 = upd (upd b ((64 * p + A / 1024) * 256 + A / 4 % 256) (pw (b ((64 * p + A / 1024) * 256 + A / 4 % 256)) (8 * (A % 4)) (mk 2) x)) ((64 * p + (A + 4) / 1024) * 256 + (A + 4) / 4 % 256) (pw (upd b ((64 * p + A / 1024) * 256 + A / 4 % 256) (pw (b ((64 * p + A / 1024) * 256 + A / 4 % 256)) (8 * (A % 4)) (mk 2) x) ((64 * p + (A + 4) / 1024) * 256 + (A + 4) / 4 % 256)) (8 * ((A + 4) % 4)) (mk 2) y) := by
  rw [← pbs_k b (p := p) (A := A) (f := 2) (k := 4) (Or.inr (Or.inr ⟨rfl, rfl⟩)) hal x]
  rw [← pbs_k (pbs b p A (fun k => x >>> nI (8 * k)) 4) (p := p) (A := A + 4) (f := 2) (k := 4) (Or.inr (Or.inr ⟨rfl, rfl⟩)) (by omega) y]
  rfl
/-- the class: no room for a pipe -/
theorem pc_58 (n : Nat) {K : St × (St × (St × St))} {x1 x2 x3 y0 q : Int32} {x : Nat} (fp : df_X10_freePipe n K.2.2.2 = some (q, K.2.2.2)) (of : df_X10_openingsFree n K.2.2.2 = some (nI x, K.2.2.2)) (hx : x < 2 ^ 31) (c : y0 < 0 ∨ q < 0 ∨ ¬ 2 ≤ x) : df_X5_pipe_58 n x1 x2 x3 y0 K = some (-4, K) := by
  unfold df_X5_pipe_58
  rw [fp, nb_b2, nb_let]
  by_cases a : y0 < 0
  · rw [if_pos a]; rfl
  rw [if_neg a]
  by_cases b : q < 0
  · rw [if_pos b]; rfl
  rw [if_neg b]
  rw [of, nb_b2, nb_let]
  rw [if_neg (show ¬ (2 : Int32) ≤ nI x from fun z => by
    have z : nI 2 ≤ nI x := z
    rw [nI_leI (by omega) hx] at z
    rcases c with c | c | c
    · exact a c
    · exact b c
    · exact c z)]
  rfl
theorem pc_f (n : Nat) {K : St × (St × (St × St))} {x1 x2 x3 y0 q : Int32} {x y z : Nat} (fp : df_X10_freePipe n K.2.2.2 = some (q, K.2.2.2)) (of : df_X10_openingsFree n K.2.2.2 = some (nI x, K.2.2.2)) (e0 : ¬ y0 < 0) (t0 : ¬ q < 0) (x2' : (2 : Int32) ≤ nI x) (fF : df_X6_framesFor n x1 x2 8 K.2.2 = some (nI y, K.2.2)) (fr : df_X6_framesFree n K.2.2 = some (nI z, K.2.2)) (yz : ¬ nI y ≤ nI z) : df_X5_pipe_58 n x1 x2 x3 y0 K = some (4398046511104, K) := by
  unfold df_X5_pipe_58
  rw [fp, nb_b2, nb_let, if_neg e0, if_neg t0, of, nb_b2, nb_let, if_pos x2', fF, nb_b2, nb_let, fr, nb_b2, nb_let, if_neg yz]
theorem pc_1 (n : Nat) {K : St × (St × (St × St))} {x1 x2 x3 y0 q : Int32} {x y z : Nat} (fp : df_X10_freePipe n K.2.2.2 = some (q, K.2.2.2)) (of : df_X10_openingsFree n K.2.2.2 = some (nI x, K.2.2.2)) (e0 : ¬ y0 < 0) (t0 : ¬ q < 0) (x2' : (2 : Int32) ≤ nI x) (fF : df_X6_framesFor n x1 x2 8 K.2.2 = some (nI y, K.2.2)) (fr : df_X6_framesFree n K.2.2 = some (nI z, K.2.2)) (yz : nI y ≤ nI z) {M1 M2 M5 M6 M7 : St × St} {v1 v2 o o' : Int32} {D0 D1 D2 D3 D4 : St} (o1 : df_X6_own n x1 x2 K.2.2 = some (v1, M1)) (o2 : df_X6_own n x1 (x2 + 4) M1 = some (v2, M2)) (em : df_X10_emptyPipe n q M2.2 = some D0) (p1 : df_X10_open n 1 q 1 D0 = some (o, D1)) (l1 : df_X10_linkTo n x1 x3 o D1 = some D2) (p2 : df_X10_open n 2 q 2 D2 = some (o', D3)) (l2 : df_X10_linkTo n x1 y0 o' D3 = some D4) (u1 : df_X6_put n x1 x2 (-1) x3 (M2.1, D4) = some M5) (u2 : df_X6_put n x1 (x2 + 4) (-1) y0 M5 = some M6) (nt : df_X6_noteWrite n x1 x2 8 M6 = some M7) : df_X5_pipe_58 n x1 x2 x3 y0 K = some (0, (K.1, (K.2.1, M7))) := by
  unfold df_X5_pipe_58
  rw [fp, nb_b2, nb_let, if_neg e0, if_neg t0, of, nb_b2, nb_let, if_pos x2', fF, nb_b2, nb_let, fr, nb_b2, nb_let, if_pos yz, o1, nb_b2, nb_let, o2, nb_b2, nb_let, em, nb_b1, nb_let, p1, nb_b2, nb_let, l1, nb_b1, nb_let, p2, nb_b2, nb_let, l2, nb_b1, nb_let, u1, nb_b1, nb_let, u2, nb_b1, nb_let, nt, nb_b1, nb_let]
theorem pr_4 (n : Nat) {X : St × St} {v : Int32} {t x y : Nat} (hx : x < 2 ^ 31) (hy : y < 2 ^ 31) (ht : t < 2 ^ 31) (f1 : df_X16_freeDescriptors n X = some (nI x, X)) (f2 : df_X16_openings n X = some (nI y, X)) (c : x < 2 ∨ 46 < y ∨ t = 8) : df_X16_pipe_50 n v (nI t) X = some (-nI 4, X) := by
  by_cases a : x < 2
  · simp (disch := (first | assumption | decide | omega)) only [df_X16_pipe_50, df_X16_pipe_73, f1, a, eq_self, Nat.reduceEqDiff, Nat.reduceLeDiff, nl_0, nl_1, nl_2, nl_3, nl_4, nl_8, nl_12, nl_23, nl_26, nl_46, no_1, no_1024, pk_mul, nI_add, nm_ck, nI_clamp, nI_ltI, nI_leI, nI_eq, nb_b2, nb_b1, ↓nb_let, nm_z0, nm_z1, nb_II, nb_IR, nb_RI, nb_RR, nm_IL, nm_IQ, nm_RL, nm_RQ, nm_LI, nm_LR, nm_LL, nm_LQ, nm_QI, nm_QR, nm_QL, nm_QQ, nm_rr, nm_ii, nm_eqm, not_false_eq_true, pk_sub, nm_div, nm_shl, nm_shr, nm_ush, nm_or8, nm_or64, nm_or256, nm_m1, nm_m3, nm_m7, nm_m15, nm_m31, nm_m63, nm_m255, nm_m511, nm_m1023, nm_m2047, nm_m65535, Nat.reduceMod, Nat.reducePow, Nat.reduceAdd, Nat.reduceSub, Nat.reduceMul, nm_bo, nm_bi, nm_rc, nm_ic, nm_ri, nm_rl, nm_rq, nm_ql, nm_qi, nm_li, nm_us, nm_uu, nm_cp, nm_sa31, nm_sa7, nm_m127, nm_m2, nm_nz, nm_nzk, nm_eq32, nm_nzf, if_true, if_false, ↓reduceIte, if_pos, if_neg]
  by_cases b : 46 < y
  · simp (disch := (first | assumption | decide | omega)) only [df_X16_pipe_50, df_X16_pipe_73, f1, a, f2, b, eq_self, Nat.reduceEqDiff, Nat.reduceLeDiff, nl_0, nl_1, nl_2, nl_3, nl_4, nl_8, nl_12, nl_23, nl_26, nl_46, no_1, no_1024, pk_mul, nI_add, nm_ck, nI_clamp, nI_ltI, nI_leI, nI_eq, nb_b2, nb_b1, ↓nb_let, nm_z0, nm_z1, nb_II, nb_IR, nb_RI, nb_RR, nm_IL, nm_IQ, nm_RL, nm_RQ, nm_LI, nm_LR, nm_LL, nm_LQ, nm_QI, nm_QR, nm_QL, nm_QQ, nm_rr, nm_ii, nm_eqm, not_false_eq_true, pk_sub, nm_div, nm_shl, nm_shr, nm_ush, nm_or8, nm_or64, nm_or256, nm_m1, nm_m3, nm_m7, nm_m15, nm_m31, nm_m63, nm_m255, nm_m511, nm_m1023, nm_m2047, nm_m65535, Nat.reduceMod, Nat.reducePow, Nat.reduceAdd, Nat.reduceSub, Nat.reduceMul, nm_bo, nm_bi, nm_rc, nm_ic, nm_ri, nm_rl, nm_rq, nm_ql, nm_qi, nm_li, nm_us, nm_uu, nm_cp, nm_sa31, nm_sa7, nm_m127, nm_m2, nm_nz, nm_nzk, nm_eq32, nm_nzf, if_true, if_false, ↓reduceIte, if_pos, if_neg]
  have d : t = 8 := by omega
  simp (disch := (first | assumption | decide | omega)) only [df_X16_pipe_50, df_X16_pipe_73, f1, a, f2, b, d, eq_self, Nat.reduceEqDiff, Nat.reduceLeDiff, nl_0, nl_1, nl_2, nl_3, nl_4, nl_8, nl_12, nl_23, nl_26, nl_46, no_1, no_1024, pk_mul, nI_add, nm_ck, nI_clamp, nI_ltI, nI_leI, nI_eq, nb_b2, nb_b1, ↓nb_let, nm_z0, nm_z1, nb_II, nb_IR, nb_RI, nb_RR, nm_IL, nm_IQ, nm_RL, nm_RQ, nm_LI, nm_LR, nm_LL, nm_LQ, nm_QI, nm_QR, nm_QL, nm_QQ, nm_rr, nm_ii, nm_eqm, not_false_eq_true, pk_sub, nm_div, nm_shl, nm_shr, nm_ush, nm_or8, nm_or64, nm_or256, nm_m1, nm_m3, nm_m7, nm_m15, nm_m31, nm_m63, nm_m255, nm_m511, nm_m1023, nm_m2047, nm_m65535, Nat.reduceMod, Nat.reducePow, Nat.reduceAdd, Nat.reduceSub, Nat.reduceMul, nm_bo, nm_bi, nm_rc, nm_ic, nm_ri, nm_rl, nm_rq, nm_ql, nm_qi, nm_li, nm_us, nm_uu, nm_cp, nm_sa31, nm_sa7, nm_m127, nm_m2, nm_nz, nm_nzk, nm_eq32, nm_nzf, if_true, if_false, ↓reduceIte, if_pos, if_neg]
theorem pr_f (n : Nat) {X : St × St} {v : Int32} {t x y w p : Nat} (h3 : sI X.1 12 = nI p) (hx : x < 2 ^ 31) (hy : y < 2 ^ 31) (ht : t < 2 ^ 31) (f1 : df_X16_freeDescriptors n X = some (nI x, X)) (f2 : df_X16_openings n X = some (nI y, X)) (a : ¬ x < 2) (b : ¬ 46 < y) (d : ¬ t = 8) (wa : df_X16_wanted n (nI p) v (nI 8) X = some (nI w, X)) (hF : df_X16_hasFrames n (nI w) X = some (nI 0, X)) : df_X16_pipe_50 n v (nI t) X = some (nI 0, (pI X.1 13 (nI 3), X.2)) := by
  simp (disch := (first | assumption | decide | omega)) only [df_X16_pipe_50, df_X16_tell_0, df_X16_tell, f1, a, f2, b, d, h3, wa, hF, eq_self, Nat.reduceEqDiff, Nat.reduceLeDiff, nl_0, nl_1, nl_2, nl_3, nl_8, nl_12, nl_13, nl_23, nl_26, nl_46, no_1, no_1024, pk_mul, nI_add, nm_ck, nI_clamp, nI_ltI, nI_leI, nI_eq, nb_b2, nb_b1, ↓nb_let, nm_z0, nm_z1, nb_II, nb_IR, nb_RI, nb_RR, nm_IL, nm_IQ, nm_RL, nm_RQ, nm_LI, nm_LR, nm_LL, nm_LQ, nm_QI, nm_QR, nm_QL, nm_QQ, nm_rr, nm_ii, nm_eqm, not_false_eq_true, pk_sub, nm_div, nm_shl, nm_shr, nm_ush, nm_or8, nm_or64, nm_or256, nm_m1, nm_m3, nm_m7, nm_m15, nm_m31, nm_m63, nm_m255, nm_m511, nm_m1023, nm_m2047, nm_m65535, Nat.reduceMod, Nat.reducePow, Nat.reduceAdd, Nat.reduceSub, Nat.reduceMul, nm_bo, nm_bi, nm_rc, nm_ic, nm_ri, nm_rl, nm_rq, nm_ql, nm_qi, nm_li, nm_us, nm_uu, nm_cp, nm_sa31, nm_sa7, nm_m127, nm_m2, nm_nz, nm_nzk, nm_eq32, nm_nzf, if_true, if_false, ↓reduceIte, if_pos, if_neg]
theorem pr_1 (n : Nat) {X X1 X2 X3 X4 : St × St} {v o d o' e : Int32} {t x y w p : Nat} (h3 : sI X.1 12 = nI p) (hx : x < 2 ^ 31) (hy : y < 2 ^ 31) (ht : t < 8) (f1 : df_X16_freeDescriptors n X = some (nI x, X)) (f2 : df_X16_openings n X = some (nI y, X)) (a : ¬ x < 2) (b : ¬ 46 < y) (wa : df_X16_wanted n (nI p) v (nI 8) X = some (nI w, X)) (hF : df_X16_hasFrames n (nI w) X = some (nI 1, X)) (p1 : df_X16_opening n (nI 1) (nI t) (nI 1) (pR (pR X.1 23 (upd (sR X.1 23) t (nI 1))) 26 (upd (sR X.1 26) t (nI 0)), X.2) = some (o, X1)) (g1 : df_X16_give n o X1 = some (d, X2)) (p2 : df_X16_opening n (nI 2) (nI t) (nI 2) X2 = some (o', X3)) (g2 : df_X16_give n o' X3 = some (e, X4)) : df_X16_pipe_50 n v (nI t) X = df_X16_pipe_142 n n v d e (nI 0) X4 := by
  have d8 : ¬ t = 8 := by omega
  have u1 : t < 2 ^ 31 := by omega
  generalize hG : df_X16_pipe_142 n n = G
  simp (disch := (first | assumption | decide | omega)) only [df_X16_pipe_50, hG, f1, a, f2, b, d8, h3, wa, hF, p1, g1, p2, g2, eq_self, Nat.reduceEqDiff, Nat.reduceLeDiff, nl_0, nl_1, nl_2, nl_3, nl_8, nl_12, nl_23, nl_26, nl_46, no_1, no_1024, pk_mul, nI_add, nm_ck, nI_clamp, nI_ltI, nI_leI, nI_eq, nb_b2, nb_b1, ↓nb_let, nm_z0, nm_z1, nb_II, nb_IR, nb_RI, nb_RR, nm_IL, nm_IQ, nm_RL, nm_RQ, nm_LI, nm_LR, nm_LL, nm_LQ, nm_QI, nm_QR, nm_QL, nm_QQ, nm_rr, nm_ii, nm_eqm, not_false_eq_true, pk_sub, nm_div, nm_shl, nm_shr, nm_ush, nm_or8, nm_or64, nm_or256, nm_m1, nm_m3, nm_m7, nm_m15, nm_m31, nm_m63, nm_m255, nm_m511, nm_m1023, nm_m2047, nm_m65535, Nat.reduceMod, Nat.reducePow, Nat.reduceAdd, Nat.reduceSub, Nat.reduceMul, nm_bo, nm_bi, nm_rc, nm_ic, nm_ri, nm_rl, nm_rq, nm_ql, nm_qi, nm_li, nm_us, nm_uu, nm_cp, nm_sa31, nm_sa7, nm_m127, nm_m2, nm_nz, nm_nzk, nm_eq32, nm_nzf, if_true, if_false, ↓reduceIte, if_pos, if_neg]

