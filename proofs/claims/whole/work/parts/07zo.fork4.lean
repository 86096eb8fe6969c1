/-- the first absent one -/
def fa (X : St × St) : Nat := fN (fun q => decide (sR X.1 1 q = nI 0)) 0 16
theorem fk_find (n : Nat) (hn : 1024 < n) {K : St × (St × (St × St))} {X : St × St} (hst : ∀ q : Nat, q < 16 → ∃ t : Nat, t < 4 ∧ sR K.2.2.1 6 (q * 7) = nI t ∧ sR X.1 1 q = nI t) (p : Int32) : (df_X5_fork n p K = if fa X < 16 then nd_b1 (df_X6_fork n p (nI (fa X)) K.2.2) (fun s => nd_b1 (df_X10_share n p (nI (fa X)) s.2) (fun d => some ((nI (fa X)).toInt64, (K.1, (K.2.1, (s.1, d)))))) else some (-4, K)) ∧ (df_X16_fork n X = if fa X < 16 then nd_b1 (df_X16_begin n (nI (fa X)) X) (fun s => df_X16_fork_56 n n (nI (fa X)) (nI 0) (pR (pR s.1 1 (upd (sR s.1 1) (fa X) (nI 1))) 2 (upd (sR s.1 2) (fa X) (sI s.1 12)), s.2)) else some (-nI 4, X)) := by
  obtain ⟨x1, x2, x3, x4⟩ := fN_le (fun q => decide (sR X.1 1 q = nI 0)) 16 0
  constructor
  · obtain ⟨m, hm⟩ := nm_ls (fun m k => df_X5_fork_2 n m p (nI k) K) (fun q => decide (sR X.1 1 q = nI 0)) 0 16 n (by omega) (fun k m h0 hk c => by
      obtain ⟨t, ht, t1, t2⟩ := hst k (by omega)
      have u1 : k * 7 < 112 := by omega
      have u2 : k < 2 ^ 31 := by omega
      have u3 : t < 2 ^ 31 := by omega
      have k16 : ¬ 16 ≤ k := by omega
      have t0 : ¬ t = 0 := fun z => of_decide_eq_false c (by rw [t2, z])
      rw [show df_X5_fork_2 n (m + 1) = dF_X5_fork_2 n (df_X5_fork_2 n m) from rfl]
      simp (disch := (first | assumption | decide | omega)) only [dF_X5_fork_2, df_X6_status_0, df_X6_status, k16, Nat.add_zero, t1, t0, eq_self, Nat.reduceEqDiff, Nat.reduceLeDiff, nl_0, nl_1, nl_4, nl_6, nl_7, nl_16, nl_112, no_1, no_1024, pk_mul, nI_add, nm_ck, nI_clamp, nI_ltI, nI_leI, nI_eq, nb_b2, nb_b1, ↓nb_let, nm_z0, nm_z1, nb_II, nb_IR, nb_RI, nb_RR, nm_IL, nm_IQ, nm_RL, nm_RQ, nm_LI, nm_LR, nm_LL, nm_LQ, nm_QI, nm_QR, nm_QL, nm_QQ, nm_rr, nm_ii, nm_eqm, not_false_eq_true, pk_sub, nm_div, nm_shl, nm_shr, nm_ush, nm_or8, nm_or64, nm_or256, nm_m1, nm_m3, nm_m7, nm_m15, nm_m31, nm_m63, nm_m255, nm_m511, nm_m1023, nm_m2047, nm_m65535, Nat.reduceMod, Nat.reducePow, Nat.reduceAdd, Nat.reduceSub, Nat.reduceMul, nm_bo, nm_bi, nm_rc, nm_ic, nm_ri, nm_rl, nm_rq, nm_ql, nm_qi, nm_li, nm_us, nm_uu, nm_cp, nm_sa31, nm_sa7, nm_m127, nm_m2, nm_nz, nm_nzk, nm_eq32, nm_nzf, if_true, if_false, ↓reduceIte, if_pos, if_neg])
    refine Eq.trans (b := df_X5_fork_2 n n p (nI 0) K) rfl (Eq.trans hm ?_)
    show df_X5_fork_2 n (m + 1) p (nI (fa X)) K = _
    have x3' : fa X < 16 → sR X.1 1 (fa X) = nI 0 := fun z => of_decide_eq_true (x3 z)
    have x2' : fa X ≤ 16 := x2
    generalize fa X = f at x2' x3'
    rw [show df_X5_fork_2 n (m + 1) = dF_X5_fork_2 n (df_X5_fork_2 n m) from rfl]
    have u2 : f < 2 ^ 31 := by omega
    by_cases c : f < 16
    · rw [if_pos c]
      obtain ⟨t, ht, t1, t2⟩ := hst f c
      have t0 : t = 0 := nm_inI (by omega) (by omega) (t2.symm.trans (x3' c))
      subst t0
      have u1 : f * 7 < 112 := by omega
      have k16 : ¬ 16 ≤ f := by omega
      simp (disch := (first | assumption | decide | omega)) only [dF_X5_fork_2, df_X6_status_0, df_X6_status, k16, Nat.add_zero, t1, eq_self, Nat.reduceEqDiff, Nat.reduceLeDiff, nl_0, nl_1, nl_4, nl_6, nl_7, nl_16, nl_112, no_1, no_1024, pk_mul, nI_add, nm_ck, nI_clamp, nI_ltI, nI_leI, nI_eq, nb_b2, nb_b1, ↓nb_let, nm_z0, nm_z1, nb_II, nb_IR, nb_RI, nb_RR, nm_IL, nm_IQ, nm_RL, nm_RQ, nm_LI, nm_LR, nm_LL, nm_LQ, nm_QI, nm_QR, nm_QL, nm_QQ, nm_rr, nm_ii, nm_eqm, not_false_eq_true, pk_sub, nm_div, nm_shl, nm_shr, nm_ush, nm_or8, nm_or64, nm_or256, nm_m1, nm_m3, nm_m7, nm_m15, nm_m31, nm_m63, nm_m255, nm_m511, nm_m1023, nm_m2047, nm_m65535, Nat.reduceMod, Nat.reducePow, Nat.reduceAdd, Nat.reduceSub, Nat.reduceMul, nm_bo, nm_bi, nm_rc, nm_ic, nm_ri, nm_rl, nm_rq, nm_ql, nm_qi, nm_li, nm_us, nm_uu, nm_cp, nm_sa31, nm_sa7, nm_m127, nm_m2, nm_nz, nm_nzk, nm_eq32, nm_nzf, if_true, if_false, ↓reduceIte, if_pos, if_neg]
    · rw [if_neg c]
      have k16 : 16 ≤ f := by omega
      simp (disch := (first | assumption | decide | omega)) only [dF_X5_fork_2, k16, eq_self, Nat.reduceEqDiff, Nat.reduceLeDiff, nl_0, nl_1, nl_4, nl_16, no_1, no_1024, pk_mul, nI_add, nm_ck, nI_clamp, nI_ltI, nI_leI, nI_eq, nb_b2, nb_b1, ↓nb_let, nm_z0, nm_z1, nb_II, nb_IR, nb_RI, nb_RR, nm_IL, nm_IQ, nm_RL, nm_RQ, nm_LI, nm_LR, nm_LL, nm_LQ, nm_QI, nm_QR, nm_QL, nm_QQ, nm_rr, nm_ii, nm_eqm, not_false_eq_true, pk_sub, nm_div, nm_shl, nm_shr, nm_ush, nm_or8, nm_or64, nm_or256, nm_m1, nm_m3, nm_m7, nm_m15, nm_m31, nm_m63, nm_m255, nm_m511, nm_m1023, nm_m2047, nm_m65535, Nat.reduceMod, Nat.reducePow, Nat.reduceAdd, Nat.reduceSub, Nat.reduceMul, nm_bo, nm_bi, nm_rc, nm_ic, nm_ri, nm_rl, nm_rq, nm_ql, nm_qi, nm_li, nm_us, nm_uu, nm_cp, nm_sa31, nm_sa7, nm_m127, nm_m2, nm_nz, nm_nzk, nm_eq32, nm_nzf, if_true, if_false, ↓reduceIte, if_pos, if_neg]
  · obtain ⟨m, hm⟩ := nm_ls (fun m k => df_X16_fork_2 n m (nI k) X) (fun q => decide (sR X.1 1 q = nI 0)) 0 16 n (by omega) (fun k m h0 hk c => by
      have u2 : k < 2 ^ 31 := by omega
      have k16 : ¬ 16 ≤ k := by omega
      have t0 : ¬ sR X.1 1 k = nI 0 := of_decide_eq_false c
      rw [show df_X16_fork_2 n (m + 1) = dF_X16_fork_2 n (df_X16_fork_2 n m) from rfl]
      simp (disch := (first | assumption | decide | omega)) only [dF_X16_fork_2, k16, t0, eq_self, Nat.reduceEqDiff, Nat.reduceLeDiff, nl_0, nl_1, nl_16, no_1, no_1024, pk_mul, nI_add, nm_ck, nI_clamp, nI_ltI, nI_leI, nI_eq, nb_b2, nb_b1, ↓nb_let, nm_z0, nm_z1, nb_II, nb_IR, nb_RI, nb_RR, nm_IL, nm_IQ, nm_RL, nm_RQ, nm_LI, nm_LR, nm_LL, nm_LQ, nm_QI, nm_QR, nm_QL, nm_QQ, nm_rr, nm_ii, nm_eqm, not_false_eq_true, pk_sub, nm_div, nm_shl, nm_shr, nm_ush, nm_or8, nm_or64, nm_or256, nm_m1, nm_m3, nm_m7, nm_m15, nm_m31, nm_m63, nm_m255, nm_m511, nm_m1023, nm_m2047, nm_m65535, Nat.reduceMod, Nat.reducePow, Nat.reduceAdd, Nat.reduceSub, Nat.reduceMul, nm_bo, nm_bi, nm_rc, nm_ic, nm_ri, nm_rl, nm_rq, nm_ql, nm_qi, nm_li, nm_us, nm_uu, nm_cp, nm_sa31, nm_sa7, nm_m127, nm_m2, nm_nz, nm_nzk, nm_eq32, nm_nzf, if_true, if_false, ↓reduceIte, if_pos, if_neg])
    refine Eq.trans (b := df_X16_fork_2 n n (nI 0) X) rfl (Eq.trans hm ?_)
    show df_X16_fork_2 n (m + 1) (nI (fa X)) X = _
    have x3' : fa X < 16 → sR X.1 1 (fa X) = nI 0 := fun z => of_decide_eq_true (x3 z)
    have x2' : fa X ≤ 16 := x2
    generalize fa X = f at x2' x3'
    rw [show df_X16_fork_2 n (m + 1) = dF_X16_fork_2 n (df_X16_fork_2 n m) from rfl]
    have u2 : f < 2 ^ 31 := by omega
    by_cases c : f < 16
    · rw [if_pos c]
      have t0 := x3' c
      have k16 : ¬ 16 ≤ f := by omega
      have k16' : ¬ f = 16 := by omega
      simp (disch := (first | assumption | decide | omega)) only [dF_X16_fork_2, df_X16_fork_23, k16, t0, k16', eq_self, Nat.reduceEqDiff, Nat.reduceLeDiff, nl_0, nl_1, nl_2, nl_4, nl_12, nl_16, no_1, no_1024, pk_mul, nI_add, nm_ck, nI_clamp, nI_ltI, nI_leI, nI_eq, nb_b2, nb_b1, ↓nb_let, nm_z0, nm_z1, nb_II, nb_IR, nb_RI, nb_RR, nm_IL, nm_IQ, nm_RL, nm_RQ, nm_LI, nm_LR, nm_LL, nm_LQ, nm_QI, nm_QR, nm_QL, nm_QQ, nm_rr, nm_ii, nm_eqm, not_false_eq_true, pk_sub, nm_div, nm_shl, nm_shr, nm_ush, nm_or8, nm_or64, nm_or256, nm_m1, nm_m3, nm_m7, nm_m15, nm_m31, nm_m63, nm_m255, nm_m511, nm_m1023, nm_m2047, nm_m65535, Nat.reduceMod, Nat.reducePow, Nat.reduceAdd, Nat.reduceSub, Nat.reduceMul, nm_bo, nm_bi, nm_rc, nm_ic, nm_ri, nm_rl, nm_rq, nm_ql, nm_qi, nm_li, nm_us, nm_uu, nm_cp, nm_sa31, nm_sa7, nm_m127, nm_m2, nm_nz, nm_nzk, nm_eq32, nm_nzf, if_true, if_false, ↓reduceIte, if_pos, if_neg]
    · rw [if_neg c]
      have k16 : 16 ≤ f := by omega
      have k16' : f = 16 := by omega
      simp (disch := (first | assumption | decide | omega)) only [dF_X16_fork_2, df_X16_fork_23, k16, k16', eq_self, Nat.reduceEqDiff, Nat.reduceLeDiff, nl_0, nl_1, nl_2, nl_4, nl_12, nl_16, no_1, no_1024, pk_mul, nI_add, nm_ck, nI_clamp, nI_ltI, nI_leI, nI_eq, nb_b2, nb_b1, ↓nb_let, nm_z0, nm_z1, nb_II, nb_IR, nb_RI, nb_RR, nm_IL, nm_IQ, nm_RL, nm_RQ, nm_LI, nm_LR, nm_LL, nm_LQ, nm_QI, nm_QR, nm_QL, nm_QQ, nm_rr, nm_ii, nm_eqm, not_false_eq_true, pk_sub, nm_div, nm_shl, nm_shr, nm_ush, nm_or8, nm_or64, nm_or256, nm_m1, nm_m3, nm_m7, nm_m15, nm_m31, nm_m63, nm_m255, nm_m511, nm_m1023, nm_m2047, nm_m65535, Nat.reduceMod, Nat.reducePow, Nat.reduceAdd, Nat.reduceSub, Nat.reduceMul, nm_bo, nm_bi, nm_rc, nm_ic, nm_ri, nm_rl, nm_rq, nm_ql, nm_qi, nm_li, nm_us, nm_uu, nm_cp, nm_sa31, nm_sa7, nm_m127, nm_m2, nm_nz, nm_nzk, nm_eq32, nm_nzf, if_true, if_false, ↓reduceIte, if_pos, if_neg]
theorem va_pc (f : Nat → Int32) {p c j : Nat} (hne : p ≠ c) (hj : j < 16384) : va_cpy f f (16384 * p) (16384 * c) 16384 (16384 * c + j) = va_cpy f f (16384 * p) (16384 * c) 16384 (16384 * p + j) := by
  rw [va_i (by omega), va_o (by omega)]
  exact congrArg f (by omega)
theorem o32 {p c r : Nat} (hne : p ≠ c) (hr : r < 32) : ¬ (32 * c ≤ 32 * p + r ∧ 32 * p + r < 32 * c + 32) := by omega
theorem o16 {p c r : Nat} (hne : p ≠ c) (hr : r < 16) : ¬ (16 * c ≤ p * 16 + r ∧ p * 16 + r < 16 * c + 16) := by omega
/-- the child, in both machines -/
theorem nq_fork (n : Nat) (hn : 20000 < n) {B p : Nat} {K : St × (St × (St × St))} {X : St × St} (h : cP B p K X) : cO B p K X (df_X5_fork n (nI p) K) (df_X16_fork n X) := by
  obtain ⟨fC, fR⟩ := fk_find n (by omega) (K := K) (X := X) (rM_st h.1) (nI p)
  obtain ⟨x1, x2, x3, x4⟩ := fN_le (fun q => decide (sR X.1 1 q = nI 0)) 16 0
  have x3' : fa X < 16 → sR X.1 1 (fa X) = nI 0 := fun z => of_decide_eq_true (x3 z)
  generalize fa X = c at fC fR x3'
  rw [fC, fR]
  clear fC fR x1 x2 x3 x4
  by_cases c16 : c < 16
  · rw [if_pos c16, if_pos c16]
    have c0 := x3' c16
    obtain ⟨h1, h2, h3, h4, h5, h6, h7⟩ := h
    obtain ⟨m1, m2, m3, m4, m5, m6, m7⟩ := h1
    have hne : p ≠ c := fun z => by
      rw [z, c0] at h5
      exact absurd h5 (by decide)
    obtain ⟨t, c', w, b, e, ht, hc', hw, hb, he, a1, a2, a3, a4, a5, a6, a7, a8, a9, a10, a11, a12, a13, a14, a15, a16, a17, a18, a19, a20, a21⟩ := id (m3 p h2)
    have t1 : t = 1 := nm_inI (by omega) (by omega) (a2.symm.trans h5)
    obtain ⟨tc, _, _, _, _, htc, _, _, _, _, _, b2, _, _, _, _, _, _, _, _, _, _, _, _, _, _, _, _, b19, _⟩ := id (m3 c c16)
    have tc0 : tc = 0 := nm_inI (by omega) (by omega) (b2.symm.trans c0)
    obtain ⟨bf, bd⟩ := b19 (Or.inl tc0)
    have d16 : ∀ d : Nat, d < 16 → sR X.1 14 (16 * c + d) = -nI 1 := fun d hd => by
      have := bd d hd
      rw [Nat.mul_comm c 16] at this
      exact this
    -- the reference begins the child
    have be := nk_begin n (by omega) X c16
    have y1 := bg_r1 X c 32 16
    have y2 := bg_r2 X c 32 16
    have y3 := bg_r3 X c 32 16
    have y4 := bg_r4 X c 32 16
    have y5 := bg_r5 X c 32 16
    have y6 := bg_r6 X c 32 16
    have y7 := bg_r7 X c 32 16
    have y8 := bg_r8 X c 32 16
    have y9 := bg_r9 X c 32 16
    have y10 := bg_r10 X c 32 16
    have y11 := bg_r11 X c 32 16
    have y12 := bg_r12 X c 32 16
    have y13 := bg_r13 X c 32 16
    have y14 := (bg_r14 X c 32 16).trans (fl_id d16)
    have yo : ∀ k : Nat, k = 0 ∨ 15 ≤ k → sR (bg X c 32 16).1 k = sR X.1 k := fun k hk => bg_o X c 32 16 hk
    have yi := bg_i X c 32 16
    have yl := bg_l X c 32 16
    have yq := bg_q X c 32 16
    have yn := bg_2' X c 32 16
    rw [be, nb_b1]
    clear be
    generalize bg X c 32 16 = Y at *
    have e12 : sI Y.1 12 = nI p := (yi 12).trans h3
    have ew : sR Y.1 8 p = nI w := by rw [y8, nm_un hne]; exact a11
    rw [e12]
    -- pages
    have q0 : rQ (sR K.2.2.1 0) (sR K.2.2.1 1) (sR K.2.2.1 2) (va_cpy (sR Y.1 15) (sR Y.1 15) (16384 * p) (16384 * c) 16384) (sR Y.1 16) (sR Y.1 17) (sR Y.1 18) (sI K.2.2.1 0) (sI Y.1 6) := by
      rw [yo 15 (by omega), yo 16 (by omega), yo 17 (by omega), yo 18 (by omega), yi 6]
      refine rQ_ri m1 (fun _ _ _ => rfl) (fun _ _ => rfl) (fun i hi hn j hj => ?_)
      by_cases ci : 64 * c ≤ i ∧ i < 64 * c + 64
      · have := bf (i - 64 * c) (by omega)
        rw [show 64 * c + (i - 64 * c) = i by omega] at this
        exact absurd this hn
      · exact va_o (by omega)
    obtain ⟨u, fr, ri, ho, mm, mm', f1, f2, f3, f4, f5⟩ := fk_pages n (by omega) (S := (pR (pR (pR (pR (pR K.2.2.1 2 (va_cpy (sR K.2.2.1 2) (sR K.2.2.1 2) (64 * p) (64 * c) 64)) 3 (va_cpy (sR K.2.2.1 3) (sR K.2.2.1 3) (p * 33) (c * 33) 33)) 4 (va_cpy (sR K.2.2.1 4) (sR K.2.2.1 4) (p * 33) (c * 33) 33)) 5 (va_cpy (sR K.2.2.1 5) (sR K.2.2.1 5) (p * 16) (c * 16) 16)) 6 (ab (sR K.2.2.1 6) c 7), K.2.2.2)) (T := (pR (pR (pR (pR (pR (pR (pR (pR (pR (pR (pR Y.1 1 (upd (sR Y.1 1) c (nI 1))) 2 (upd (sR Y.1 2) c (nI p))) 5 (upd (sR Y.1 5) c (sR Y.1 5 p))) 6 (upd (sR Y.1 6) c (sR Y.1 6 p))) 8 (upd (sR Y.1 8) c (nI w))) 9 (upd (va_cpy (sR Y.1 9) (sR Y.1 9) (32 * p) (32 * c) 32) (32 * c + 10) (nI 0))) 10 (upd (sR Y.1 10) c (sR Y.1 10 p + nI 4))) 11 (va_cpy (sR Y.1 11) (sR Y.1 11) (32 * p) (32 * c) 32)) 12 (upd (sR Y.1 12) c (sR Y.1 12 p))) 13 (va_cpy (sR Y.1 13) (sR Y.1 13) (16 * p) (16 * c) 16)) 14 (va_cpy (sR Y.1 14) (sR Y.1 14) (16 * p) (16 * c) 16), Y.2)) h2 c16 hne (by simp only [nb_IR]; exact e12) (g0 := sR K.2.2.1 2) (b' := va_cpy (sR Y.1 15) (sR Y.1 15) (16384 * p) (16384 * c) 16384) (by simp only [nb_RR, nb_IR, Nat.reduceEqDiff, if_false, ↓reduceIte]; exact q0) (by simp only [nb_RR, Nat.reduceEqDiff, if_false, if_true, ↓reduceIte]) (fun j hj => va_pc (sR Y.1 15) hne hj) (fun k hk => by
      simp only [nb_RR, Nat.reduceEqDiff, if_false, ↓reduceIte]
      rw [yo 16 (by omega)]
      exact bf k hk)
    simp only [nb_RR, nb_IR, Nat.reduceEqDiff, if_false, if_true, ↓reduceIte] at f3 f4 f5
    rw [yi 6] at f3
    have eC := fk_C n (by omega) (X := X) h2 c16 hne a10 a12 a14 f1
    have eR := fk_R n hn h2 c16 hne hw e12 ew f2
    clear f1 f2
    obtain ⟨l, op, s1, s2⟩ := fk_share n (by omega) m2 h2 c16 hne bd
    rw [eC, nb_b1, s1, nb_b1, eR]
    clear eC eR s1
    have g1 := a17 (by omega)
    have g2 := a18 (Or.inl t1)
    rw [Nat.mul_comm 16 p, Nat.mul_comm 16 c]
    refine ⟨_, _, K.1, (fkM K.2.2 u (va_cpy (sR K.2.2.1 2) (sR K.2.2.1 2) (64 * p) (64 * c) 64) (upd (upd (va_cpy (sR K.2.2.1 3) (sR K.2.2.1 3) (p * 33) (c * 33) 33) (c * 33 + 10) (nI 0)) (c * 33 + 32) (sR K.2.2.1 3 (p * 33 + 32) + nI 4)) (va_cpy (sR K.2.2.1 4) (sR K.2.2.1 4) (p * 33) (c * 33) 33) (va_cpy (sR K.2.2.1 5) (sR K.2.2.1 5) (p * 16) (c * 16) 16) (upd (upd (upd (upd (upd (ab (sR K.2.2.1 6) c 7) (c * 7) (nI 1)) (c * 7 + 1) (nI p)) (c * 7 + 4) (nI w)) (c * 7 + 5) (nI b)) (c * 7 + 6) (nI e)) (vp_updL (sQ K.2.2.1 0) c (-1)), dU K.2.2.2 l op (sR K.2.2.2 2) (sR K.2.2.2 4)), _, rfl, rfl, ⟨?_, ?_, rP_all m3 (p := c) ?_ (fun r hr => ⟨?_, ?_⟩), ?_, ?_, ?_, ?_⟩, fun _ => rfl, Or.inl ⟨?_, rfl⟩, ⟨?_, ?_, ?_, ?_, ?_⟩, Or.inl ⟨?_, ?_⟩, fun _ => ?_, fun z => ?_⟩
    · unfold rK
      rw [fkX_15, fkX_16, fkX_17, fkX_18, fkX_i, fkM_o _ _ _ _ _ _ _ _ (Or.inl rfl), fkM_1, fkM_2, fkM_i, yi 6]
      exact f3
    · unfold rDD
      rw [fkX_14, y14, fkX_o _ _ _ _ _ _ _ _ _ _ _ _ _ _ _ _ (k := 19) (by omega), fkX_o _ _ _ _ _ _ _ _ _ _ _ _ _ _ _ _ (k := 20) (by omega), fkX_o _ _ _ _ _ _ _ _ _ _ _ _ _ _ _ _ (k := 21) (by omega), fkX_o _ _ _ _ _ _ _ _ _ _ _ _ _ _ _ _ (k := 22) (by omega), fkX_o _ _ _ _ _ _ _ _ _ _ _ _ _ _ _ _ (k := 23) (by omega), fkX_o _ _ _ _ _ _ _ _ _ _ _ _ _ _ _ _ (k := 24) (by omega), fkX_o _ _ _ _ _ _ _ _ _ _ _ _ _ _ _ _ (k := 25) (by omega), yo 19 (by omega), yo 20 (by omega), yo 21 (by omega), yo 22 (by omega), yo 23 (by omega), yo 24 (by omega), yo 25 (by omega)]
      exact s2
    · refine rP1_child (w := w) (b := b) (e := e) c16 h2 hne hw hb he ?_ ?_ ?_ ?_ ?_ ?_ ?_ ?_ ?_ ?_ ?_ ?_ ?_ ?_ (fun k hk q => ?_) (fun r hr => ?_) ?_ (fun k hk => ?_) ?_ (fun hw1 => ⟨fun r hr => ?_, ?_⟩)
      · rw [fkM_6, nm_un (by omega), nm_un (by omega), nm_un (by omega), nm_un (by omega), nm_us]
      · rw [fkM_6, nm_un (by omega), nm_un (by omega), nm_un (by omega), nm_us]
      · rw [fkM_6, nm_un (by omega), nm_un (by omega), nm_un (by omega), nm_un (by omega), nm_un (by omega), ab_i (by omega), if_neg (by omega)]
      · rw [fkM_6, nm_un (by omega), nm_un (by omega), nm_un (by omega), nm_un (by omega), nm_un (by omega), ab_i (by omega), if_neg (by omega)]
      · rw [fkM_6, nm_un (by omega), nm_un (by omega), nm_us]
      · rw [fkM_6, nm_un (by omega), nm_us]
      · rw [fkM_6, nm_us]
      · rw [fkX_1, nm_us]
      · rw [fkX_2, nm_us]
      · rw [fkX_o _ _ _ _ _ _ _ _ _ _ _ _ _ _ _ _ (k := 4) (by omega), y4, nm_us]
      · rw [fkX_8, nm_us]
      · rw [fkX_5, nm_us, y5, nm_un hne]; exact a13
      · rw [fkX_6, nm_us, y6, nm_un hne]; exact a15
      · rw [fkX_o _ _ _ _ _ _ _ _ _ _ _ _ _ _ _ _ (k := 7) (by omega), y7, nm_us]
      · rw [fkX_16, f4 k (by omega), yo 16 (by omega)]
        exact a16 k hk q
      · rw [fkM_3, fkX_9, nm_un (by omega)]
        by_cases r10 : r = 10
        · rw [r10, nm_us, nm_us]
        · rw [nm_un (by omega), nm_un (by omega), va_i (by omega), va_i (by omega), y9, show p * 33 + (c * 33 + r - c * 33) = p * 33 + r by omega, show 32 * p + (32 * c + r - 32 * c) = 32 * p + r by omega, fl_o (o32 hne hr)]
          exact g1.1 r hr
      · rw [fkM_3, fkX_10, nm_us, nm_us, y10, nm_un hne, g1.2]
      · rw [fkM_5, fkX_13, Nat.mul_comm 16 c, va_i (by omega), va_i (by omega), y13, show p * 16 + (c * 16 + k - c * 16) = p * 16 + k by omega, fl_o (o16 hne hk), g2.1 k hk, Nat.mul_comm p 16]
      · rw [fkM_q, fkX_q, yq]
        exact (if_pos rfl).trans (if_pos rfl).symm
      · rw [fkM_4, fkX_11, va_i (by omega), va_i (by omega), y11, show p * 33 + (c * 33 + r - c * 33) = p * 33 + r by omega, show 32 * p + (32 * c + r - 32 * c) = 32 * p + r by omega, fl_o (o32 hne hr)]
        exact (g2.2.2 hw1).1 r hr
      · rw [fkM_4, fkX_12, va_i (by omega), nm_us, y12, nm_un hne, show p * 33 + (c * 33 + 32 - c * 33) = p * 33 + 32 by omega]
        exact (g2.2.2 hw1).2
    · unfold agM
      rw [fkM_6, fkM_3, fkM_4, fkM_5, fkM_q]
      refine ⟨fun i hi => ?_, fun i hi => ?_, fun i hi => va_o (by omega), fun i hi => va_o (by omega), up_o hr⟩
      · rw [nm_un (by omega), nm_un (by omega), nm_un (by omega), nm_un (by omega), nm_un (by omega), ab_o (by omega)]
      · rw [nm_un (by omega), nm_un (by omega), va_o (by omega)]
    · unfold agX
      rw [fkX_1, fkX_2, fkX_5, fkX_6, fkX_8, fkX_9, fkX_10, fkX_11, fkX_12, fkX_13, fkX_14, fkX_16, fkX_q, fkX_o _ _ _ _ _ _ _ _ _ _ _ _ _ _ _ _ (k := 3) (by omega), fkX_o _ _ _ _ _ _ _ _ _ _ _ _ _ _ _ _ (k := 4) (by omega), fkX_o _ _ _ _ _ _ _ _ _ _ _ _ _ _ _ _ (k := 7) (by omega), y1, y2, y3, y4, y5, y6, y7, y8, y9, y10, y11, y12, y13, y14, yq]
      refine ⟨⟨?_, ?_, nm_un hr, nm_un hr, ?_, ?_, nm_un hr, ?_⟩, fun i hi => ?_, ?_, fun i hi => ?_, ?_, fun i hi => ?_, fun i hi => va_o (by omega), fun i hi => ?_, up_o hr⟩
      · rw [nm_un hr, nm_un hr]
      · rw [nm_un hr, nm_un hr]
      · rw [nm_un hr, nm_un hr]
      · rw [nm_un hr, nm_un hr]
      · rw [nm_un hr, nm_un hr]
      · rw [nm_un (by omega), va_o (by omega), fl_o (by omega)]
      · rw [nm_un hr, nm_un hr]
      · rw [va_o (by omega), fl_o (by omega)]
      · rw [nm_un hr, nm_un hr]
      · rw [va_o (by omega), fl_o (by omega)]
      · rw [f5 _ (by omega), yo 16 (by omega)]
    · rw [fkX_1, y1, nm_uu]
      refine Eq.trans (fkM_i _ _ _ _ _ _ _ _ _) (Eq.trans m4 (congrArg nI ?_))
      have := cW_ch (st := sR X.1 1) c16 (nI 1)
      rw [c0, nm_df (show ¬ nI 0 = nI 2 by decide), nm_df (show ¬ nI 1 = nI 2 by decide)] at this
      exact this.symm
    · unfold rG
      rw [fkX_i, fkX_i, fkX_i, fkX_i, fkX_l, fkX_l, fkM_i, fkM_i, fkM_i, fkM_i, fkM_l, fkM_l, yi, yi, yi, yi, yl, yl]
      exact m5
    · unfold rA
      rw [fkX_i, fkX_o _ _ _ _ _ _ _ _ _ _ _ _ _ _ _ _ (k := 0) (by omega), fkM_i, fkM_o _ _ _ _ _ _ _ _ (k := 7) (by omega), yi, yo 0 (by omega)]
      exact m6
    · unfold rTT
      rw [fkX_o _ _ _ _ _ _ _ _ _ _ _ _ _ _ _ _ (k := 23) (by omega), fkX_o _ _ _ _ _ _ _ _ _ _ _ _ _ _ _ _ (k := 24) (by omega), fkX_o _ _ _ _ _ _ _ _ _ _ _ _ _ _ _ _ (k := 25) (by omega), fkX_o _ _ _ _ _ _ _ _ _ _ _ _ _ _ _ _ (k := 26) (by omega), fkX_o _ _ _ _ _ _ _ _ _ _ _ _ _ _ _ _ (k := 27) (by omega), fkX_o _ _ _ _ _ _ _ _ _ _ _ _ _ _ _ _ (k := 28) (by omega), fkX_o _ _ _ _ _ _ _ _ _ _ _ _ _ _ _ _ (k := 29) (by omega), fkX_o _ _ _ _ _ _ _ _ _ _ _ _ _ _ _ _ (k := 30) (by omega), fkX_o _ _ _ _ _ _ _ _ _ _ _ _ _ _ _ _ (k := 31) (by omega), fkX_o _ _ _ _ _ _ _ _ _ _ _ _ _ _ _ _ (k := 32) (by omega), fkX_i, fkX_l, yi, yl, yo 23 (by omega), yo 24 (by omega), yo 25 (by omega), yo 26 (by omega), yo 27 (by omega), yo 28 (by omega), yo 29 (by omega), yo 30 (by omega), yo 31 (by omega), yo 32 (by omega)]
      exact m7
    · rw [fkX_i, yi]; exact h4
    · rw [fkX_2n, yn]
    · rw [fkX_i, yi]
    · rw [fkX_i, yi]
    · rw [fkX_i, yi]
    · rw [fkX_i, yi]
    · exact (fkM_i _ _ _ _ _ _ _ _ _).trans h6
    · rw [fkX_i, yi]; exact h7
    · rw [fkX_1, y1, nm_uu, nm_un hne]; exact h5
    · rw [fkX_i, yi] at z
      exact absurd (h4.symm.trans z) (by decide)
  · rw [if_neg c16, if_neg c16]
    exact cO_id h (by decide)
