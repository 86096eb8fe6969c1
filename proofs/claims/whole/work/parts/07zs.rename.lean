theorem fits_b : ∀ z : Fin 256, fits .byte (.int (vp_nar .byte ((nI z.1).toInt8.toInt32))) = true := by decide +kernel
theorem b8_fit {v u : Int32} (h : b8 v u) : fits .byte (.int v) = true := by
  obtain ⟨z, hz, _, e⟩ := h
  rw [e]
  exact fits_b ⟨z, hz⟩
theorem fb_va {f g : Nat → Int32} {b k j : Nat} (hf : ∀ i : Nat, i < k → fb8 (f i)) (hg : fb8 (g j)) : fb8 (va_cpy f g 0 b k j) := by
  by_cases c : b ≤ j ∧ j < b + k
  · rw [va_i c]
    exact hf _ (by omega)
  · rw [va_o c]
    exact hg
theorem fb_u {f : Nat → Int32} {j i : Nat} {v : Int32} (hv : fb8 v) (hg : fb8 (f i)) : fb8 (upd f j v i) := by
  by_cases c : i = j
  · rw [c, nm_us]; exact hv
  · rw [nm_un c]; exact hg
theorem vq_s {f h : Nat → Int32} {b k : Nat} : upd (va_cpy f h 0 b k) (b + k) (f k) = va_cpy f h 0 b (k + 1) := by
  funext j
  by_cases c : j = b + k
  · rw [c, nm_us, va_i (by omega)]
    exact congrArg f (by omega)
  · rw [nm_un c]
    by_cases d : b ≤ j ∧ j < b + k
    · rw [va_i d, va_i (by omega)]
    · rw [va_o d, va_o (by omega)]
theorem vq_0 (f h : Nat → Int32) (b : Nat) : va_cpy f h 0 b 0 = h := by
  funext j
  exact va_o (by omega)
theorem nk_entitle (n : Nat) (hn : 1024 < n) {X : St × St} {k : Nat} (hk : k < 16) : df_X16_entitle n (nI k) X = some (pR (pR X.1 30 (va_cpy (sR X.1 33) (sR X.1 30) 0 (16 * k) 16)) 25 (upd (sR X.1 25) k (nI 1)), X.2) := by
  have u1 : k < 2 ^ 31 := by omega
  obtain ⟨m, hm⟩ := nm_lq (fun m i => df_X16_entitle_9 n m (nI k) (nI i) (pR (pR X.1 25 (upd (sR X.1 25) k (nI 1))) 30 (va_cpy (sR X.1 33) (sR X.1 30) 0 (16 * k) i), X.2)) 16 n (by omega) (fun i m hi => by
    have u2 : i < 16 := hi
    have u3 : i < 2 ^ 31 := by omega
    have u4 : 16 * k + i < 256 := by omega
    have u5 : 16 * k + i < 2 ^ 31 := by omega
    have i16 : ¬ 16 ≤ i := by omega
    have vs := vq_s (f := sR X.1 33) (h := sR X.1 30) (b := 16 * k) (k := i)
    rw [show df_X16_entitle_9 n (m + 1) = dF_X16_entitle_9 n (df_X16_entitle_9 n m) from rfl]
    generalize df_X16_entitle_9 n m = G
    simp (disch := (first | assumption | decide | omega)) only [dF_X16_entitle_9, i16, vs, eq_self, Nat.reduceEqDiff, Nat.reduceLeDiff, nl_1, nl_16, nl_30, nl_33, nl_256, no_1, no_1024, pk_mul, nI_add, nm_ck, nI_clamp, nI_ltI, nI_leI, nI_eq, nb_b2, nb_b1, ↓nb_let, nm_z0, nm_z1, nb_II, nb_IR, nb_RI, nb_RR, nm_IL, nm_IQ, nm_RL, nm_RQ, nm_LI, nm_LR, nm_LL, nm_LQ, nm_QI, nm_QR, nm_QL, nm_QQ, nm_rr, nm_ii, nm_eqm, not_false_eq_true, pk_sub, nm_div, nm_shl, nm_shr, nm_ush, nm_or8, nm_or64, nm_or256, nm_m1, nm_m3, nm_m7, nm_m15, nm_m31, nm_m63, nm_m255, nm_m511, nm_m1023, nm_m2047, nm_m65535, Nat.reduceMod, Nat.reducePow, Nat.reduceAdd, Nat.reduceSub, Nat.reduceMul, nm_bo, nm_bi, nm_rc, nm_ic, nm_ri, nm_rl, nm_rq, nm_ql, nm_qi, nm_li, nm_us, nm_uu, nm_cp, nm_sa31, nm_sa7, nm_m127, nm_m2, nm_nz, nm_nzk, nm_eq32, nm_nzf, if_true, if_false, ↓reduceIte, if_pos, if_neg])
  rw [vq_0, show pR (pR X.1 25 (upd (sR X.1 25) k (nI 1))) 30 (sR X.1 30) = pR X.1 25 (upd (sR X.1 25) k (nI 1)) from nm_r0 (pR X.1 25 (upd (sR X.1 25) k (nI 1))) 30] at hm
  have e0 : df_X16_entitle n (nI k) X = df_X16_entitle_9 n n (nI k) (nI 0) (pR X.1 25 (upd (sR X.1 25) k (nI 1)), X.2) := by
    simp (disch := (first | assumption | decide | omega)) only [df_X16_entitle, df_X16_entitle_0, eq_self, Nat.reduceEqDiff, Nat.reduceLeDiff, nl_0, nl_1, nl_16, nl_25, no_1, no_1024, pk_mul, nI_add, nm_ck, nI_clamp, nI_ltI, nI_leI, nI_eq, nb_b2, nb_b1, ↓nb_let, nm_z0, nm_z1, nb_II, nb_IR, nb_RI, nb_RR, nm_IL, nm_IQ, nm_RL, nm_RQ, nm_LI, nm_LR, nm_LL, nm_LQ, nm_QI, nm_QR, nm_QL, nm_QQ, nm_rr, nm_ii, nm_eqm, not_false_eq_true, pk_sub, nm_div, nm_shl, nm_shr, nm_ush, nm_or8, nm_or64, nm_or256, nm_m1, nm_m3, nm_m7, nm_m15, nm_m31, nm_m63, nm_m255, nm_m511, nm_m1023, nm_m2047, nm_m65535, Nat.reduceMod, Nat.reducePow, Nat.reduceAdd, Nat.reduceSub, Nat.reduceMul, nm_bo, nm_bi, nm_rc, nm_ic, nm_ri, nm_rl, nm_rq, nm_ql, nm_qi, nm_li, nm_us, nm_uu, nm_cp, nm_sa31, nm_sa7, nm_m127, nm_m2, nm_nz, nm_nzk, nm_eq32, nm_nzf, if_true, if_false, ↓reduceIte, if_pos, if_neg]
  rw [e0]
  refine Eq.trans hm ?_
  show df_X16_entitle_9 n (m + 1) (nI k) (nI 16) _ = _
  rw [show df_X16_entitle_9 n (m + 1) = dF_X16_entitle_9 n (df_X16_entitle_9 n m) from rfl, nm_rc (a := 30) (b := 25) (by decide)]
  generalize df_X16_entitle_9 n m = G
  simp (disch := (first | assumption | decide | omega)) only [dF_X16_entitle_9, eq_self, Nat.reduceEqDiff, Nat.reduceLeDiff, nl_1, nl_16, nl_30, nl_33, nl_256, no_1, no_1024, pk_mul, nI_add, nm_ck, nI_clamp, nI_ltI, nI_leI, nI_eq, nb_b2, nb_b1, ↓nb_let, nm_z0, nm_z1, nb_II, nb_IR, nb_RI, nb_RR, nm_IL, nm_IQ, nm_RL, nm_RQ, nm_LI, nm_LR, nm_LL, nm_LQ, nm_QI, nm_QR, nm_QL, nm_QQ, nm_rr, nm_ii, nm_eqm, not_false_eq_true, pk_sub, nm_div, nm_shl, nm_shr, nm_ush, nm_or8, nm_or64, nm_or256, nm_m1, nm_m3, nm_m7, nm_m15, nm_m31, nm_m63, nm_m255, nm_m511, nm_m1023, nm_m2047, nm_m65535, Nat.reduceMod, Nat.reducePow, Nat.reduceAdd, Nat.reduceSub, Nat.reduceMul, nm_bo, nm_bi, nm_rc, nm_ic, nm_ri, nm_rl, nm_rq, nm_ql, nm_qi, nm_li, nm_us, nm_uu, nm_cp, nm_sa31, nm_sa7, nm_m127, nm_m2, nm_nz, nm_nzk, nm_eq32, nm_nzf, if_true, if_false, ↓reduceIte, if_pos, if_neg]
theorem nk_give (n : Nat) {E D : St} {k : Nat} (hk : k < 16) (hb : ∀ i : Nat, i < 16 → fits .byte (.int (sR E 0 i)) = true) : df_X10_giveName n (nI k) (E, D) = some (E, pR (pR D 4 (upd (sR D 4) (k * 3 + 2) (nI 1))) 6 (va_cpy (sR E 0) (sR D 6) 0 (k * 16) 16)) := by
  have u1 : k * 3 + 2 < 48 := by omega
  have u2 : k * 3 + 2 < 2 ^ 31 := by omega
  have u3 : k * 16 + 16 ≤ 256 := by omega
  have u4 : k * 16 < 2 ^ 31 := by omega
  have fa : ∀ {α : Type} (x : Option α), nd_fa .byte (sR E 0) 0 16 x = x := fun x => if_pos (fun i hi => by rw [Nat.zero_add]; exact hb i hi)
  simp (disch := (first | assumption | decide | omega)) only [df_X10_giveName_0, df_X10_giveName, fa, eq_self, Nat.reduceEqDiff, Nat.reduceLeDiff, nl_0, nl_1, nl_2, nl_3, nl_4, nl_6, nl_16, nl_48, nl_256, no_1, no_1024, pk_mul, nI_add, nm_ck, nI_clamp, nI_ltI, nI_leI, nI_eq, nb_b2, nb_b1, ↓nb_let, nm_z0, nm_z1, nb_II, nb_IR, nb_RI, nb_RR, nm_IL, nm_IQ, nm_RL, nm_RQ, nm_LI, nm_LR, nm_LL, nm_LQ, nm_QI, nm_QR, nm_QL, nm_QQ, nm_rr, nm_ii, nm_eqm, not_false_eq_true, pk_sub, nm_div, nm_shl, nm_shr, nm_ush, nm_or8, nm_or64, nm_or256, nm_m1, nm_m3, nm_m7, nm_m15, nm_m31, nm_m63, nm_m255, nm_m511, nm_m1023, nm_m2047, nm_m65535, Nat.reduceMod, Nat.reducePow, Nat.reduceAdd, Nat.reduceSub, Nat.reduceMul, nm_bo, nm_bi, nm_rc, nm_ic, nm_ri, nm_rl, nm_rq, nm_ql, nm_qi, nm_li, nm_us, nm_uu, nm_cp, nm_sa31, nm_sa7, nm_m127, nm_m2, nm_nz, nm_nzk, nm_eq32, nm_nzf, if_true, if_false, ↓reduceIte, if_pos, if_neg]
/-- names, once k1 has the name and k2 has lost it -/
theorem ren_M {B : Nat} {M X : St × St} (h : rM B M X) {k1 k2 : Nat} (h1 : k1 < 16) (e1 : sR X.1 25 k1 = nI 1) {f2 g2 : Nat → Int32} (d3 : ∀ i : Nat, i < 16 → b8 (f2 i) (g2 i)) {fi' nam' : Nat → Int32} (hf : ∀ j : Nat, j < 16 → fi' (j * 3) = sR M.2 4 (j * 3) ∧ fi' (j * 3 + 1) = sR M.2 4 (j * 3 + 1) ∧ fi' (j * 3 + 2) = nam' j) (hn : ∀ j : Nat, j < 16 → nam' j = if j = k1 then nI 1 else if j = k2 then nI 0 else sR X.1 25 j) : rM B (M.1, pR (pR M.2 4 fi') 6 (va_cpy f2 (sR M.2 6) 0 (k1 * 16) 16)) (pR (pR (pR (pR (pR (pR X.1 33 g2) 30 (va_cpy g2 (sR X.1 30) 0 (16 * k1) 16)) 25 nam') 19 (pcw (gk (sR X.1 14) (sR X.1 19)) (sR X.1 19) 48)) 23 (pcw (gp (pcw (gk (sR X.1 14) (sR X.1 19)) (sR X.1 19) 48) (sR X.1 20) (sR X.1 23)) (sR X.1 23) 8)) 24 (pcw (gf (pcw (gk (sR X.1 14) (sR X.1 19)) (sR X.1 19) 48) (sR X.1 20) (sR X.1 24) nam') (sR X.1 24) 16), X.2) := by
  have m2 := h.2.1
  refine rM_nam h (fun i hi => fb_va (fun j hj => b8_fit (d3 j hj)) (h.2.2.2.2.2.1.2.2.2.1 i hi)) (fun j hj => ⟨(hf j hj).1, (hf j hj).2.1, (hf j hj).2.2, ?_, fun e => ?_⟩) (fun k hk e i hi => ?_)
  · rw [hn j hj]
    by_cases c : j = k1
    · rw [if_pos c]; exact Or.inr rfl
    · rw [if_neg c]
      by_cases d : j = k2
      · rw [if_pos d]; exact Or.inl rfl
      · rw [if_neg d]; exact (m2.2.2.2 j hj).2.1
  · rw [hn j hj] at e
    by_cases c : j = k1
    · rw [c]; exact rD_n1 m2 h1 e1
    · rw [if_neg c] at e
      by_cases d : j = k2
      · rw [if_pos d] at e
        exact absurd e (by decide)
      · rw [if_neg d] at e
        exact rD_n1 m2 hj e
  · rw [hn k hk] at e
    by_cases c : k = k1
    · rw [c, va_i (by omega), va_i (by omega), show 0 + (k1 * 16 + i - k1 * 16) = i by omega, show 0 + (16 * k1 + i - 16 * k1) = i by omega]
      exact d3 i hi
    · rw [if_neg c] at e
      rw [va_o (by omega), va_o (by omega)]
      by_cases d : k = k2
      · rw [if_pos d] at e
        exact absurd e (by decide)
      · rw [if_neg d] at e
        exact h.2.2.2.2.2.2.2.2.1 k hk e i hi
theorem r87_C (n : Nat) {K1 K2 : St} {M : St × St} {k : Nat} (hk : k < 16) (hb : ∀ i : Nat, i < 16 → fits .byte (.int (sR K1 1 i)) = true) : df_X5_rename_87 n (nI k) (K1, (K2, M)) = some (0, (K1, (K2, (M.1, pR (pR M.2 4 (upd (sR M.2 4) (k * 3 + 2) (nI 1))) 6 (va_cpy (sR K1 1) (sR M.2 6) 0 (k * 16) 16))))) := by
  have gn := nk_give n (E := pR nd_st0 0 (sR K1 1)) (D := M.2) hk hb
  unfold df_X5_rename_87
  rw [gn, nb_b1, nb_let]
  show some (0, (pR K1 1 (sR K1 1), _)) = _
  rw [nm_r0]
  rfl
theorem r66_R (n : Nat) (hn : 1024 < n) {Y : St × St} {k : Nat} (hk : k < 16) : df_X16_rename_66 n (nI k) Y = nd_b1 (df_X16_sweep n (pR (pR Y.1 30 (va_cpy (sR Y.1 33) (sR Y.1 30) 0 (16 * k) 16)) 25 (upd (sR Y.1 25) k (nI 1)), Y.2)) (fun s => some (nI 0, s)) := by
  unfold df_X16_rename_66
  rw [nk_entitle n hn hk, nb_b1]
  rfl
/-- the kernel's call 'rename' -/
theorem nq_rename (n : Nat) (hn : 1024 < n) {B p : Nat} {K : St × (St × (St × St))} {X : St × St} (h : cP B p K X) (a b : Int32) : cO B p K X (df_X5_rename n (nI p) a b K) (df_X16_rename n a b X) := by
  obtain ⟨h1, h2, h3, h4, h5, h6, h7⟩ := h
  obtain ⟨v, f, g, e1, e2, e3, e4⟩ := nk_namet1 n hn h1.1 h2 h3 a (K1 := K.1) (K2 := K.2.1)
  have e1 : df_X5_readName_t1 n (nI p) a K = some (v, (pR K.1 0 f, K.2)) := e1
  have nz : ∀ w : Int32, (w = nI 0 ∨ w = -nI 14 ∨ w = -nI 22) → ¬ w = nI 0 → ¬ nI 0 ≤ w := fun w e4 v0 => by
    rcases e4 with e | e | e
    · exact absurd e v0
    · rw [e]; decide
    · rw [e]; decide
  by_cases v0 : v = nI 0
  · subst v0
    obtain ⟨w, f2, g2, d1, d2, d3, d4⟩ := nk_namet2 n hn (M := K.2.2) (X := (pR X.1 33 g, X.2)) h1.1 h2 h3 b (K1 := pR K.1 0 f) (K2 := K.2.1)
    have d1 : df_X5_readName_t2 n (nI p) b (pR K.1 0 f, K.2) = some (w, (pR (pR K.1 0 f) 1 f2, K.2)) := d1
    have d2 : df_X16_nameAt n b (pR X.1 33 g, X.2) = some (w, (pR (pR X.1 33 g) 33 g2, X.2)) := d2
    rw [nm_rr] at d2
    have h1' : rM B K.2.2 (pR X.1 33 g, X.2) := h1
    have h1'' : rM B K.2.2 (pR X.1 33 g2, X.2) := h1
    obtain ⟨q1, q2⟩ := nk_named n hn (E := pR nd_st0 0 f) h1'.2.1 h1'.2.2.2.2.2.2 e3
    obtain ⟨r1, r2⟩ := nk_named n hn (E := pR nd_st0 0 f2) h1''.2.1 h1''.2.2.2.2.2.2 d3
    have q1 : df_X10_fileNamed n (pR nd_st0 0 f, K.2.2.2) = some (cv (fnm (pR X.1 33 g, X.2) g), (pR nd_st0 0 f, K.2.2.2)) := q1
    have q2 : df_X16_named n (pR X.1 33 g, X.2) = some (cv (fnm (pR X.1 33 g, X.2) g), (pR X.1 33 g, X.2)) := q2
    have r1 : df_X10_fileNamed n (pR nd_st0 0 f2, K.2.2.2) = some (cv (fnm (pR X.1 33 g2, X.2) g2), (pR nd_st0 0 f2, K.2.2.2)) := r1
    have r2 : df_X16_named n (pR X.1 33 g2, X.2) = some (cv (fnm (pR X.1 33 g2, X.2) g2), (pR X.1 33 g2, X.2)) := r2
    have x2 := (fN_le (fun k => decide (sR X.1 25 k = nI 1 ∧ eqF (fun i => sR X.1 30 (16 * k + i)) g = 16)) 16 0)
    have x3 : fnm (pR X.1 33 g, X.2) g < 16 → sR X.1 25 (fnm (pR X.1 33 g, X.2) g) = nI 1 := fun z => (of_decide_eq_true (x2.2.2.1 z)).1
    clear x2
    generalize fnm (pR X.1 33 g, X.2) g = k1 at q1 q2 x3
    generalize fnm (pR X.1 33 g2, X.2) g2 = k2 at r1 r2
    have same : ∀ w : Int32, cO B p K X (some (w.toInt64, (pR (pR K.1 0 f) 1 f2, K.2))) (some (w, (pR X.1 33 g2, X.2))) := fun w => ⟨_, w, pR (pR K.1 0 f) 1 f2, K.2.2, _, rfl, rfl, h1'', fun _ => rfl, Or.inl ⟨h4, rfl⟩, ⟨rfl, rfl, rfl, rfl, rfl⟩, Or.inl ⟨h6, h7⟩, fun _ => h5, fun z => absurd (h4.symm.trans z) (by decide)⟩
    by_cases w0 : w = nI 0
    · subst w0
      have eC : df_X5_rename n (nI p) a b K = df_X5_rename_29 n (nI 0) (pR (pR K.1 0 f) 1 f2, K.2) := by
        simp (disch := (first | assumption | decide | omega)) only [df_X5_rename, df_X5_rename_0, e1, d1, eq_self, Nat.reduceEqDiff, Nat.reduceLeDiff, nl_0, no_1, no_1024, pk_mul, nI_add, nm_ck, nI_clamp, nI_ltI, nI_leI, nI_eq, nb_b2, nb_b1, ↓nb_let, nm_z0, nm_z1, nb_II, nb_IR, nb_RI, nb_RR, nm_IL, nm_IQ, nm_RL, nm_RQ, nm_LI, nm_LR, nm_LL, nm_LQ, nm_QI, nm_QR, nm_QL, nm_QQ, nm_rr, nm_ii, nm_eqm, not_false_eq_true, pk_sub, nm_div, nm_shl, nm_shr, nm_ush, nm_or8, nm_or64, nm_or256, nm_m1, nm_m3, nm_m7, nm_m15, nm_m31, nm_m63, nm_m255, nm_m511, nm_m1023, nm_m2047, nm_m65535, Nat.reduceMod, Nat.reducePow, Nat.reduceAdd, Nat.reduceSub, Nat.reduceMul, nm_bo, nm_bi, nm_rc, nm_ic, nm_ri, nm_rl, nm_rq, nm_ql, nm_qi, nm_li, nm_us, nm_uu, nm_cp, nm_sa31, nm_sa7, nm_m127, nm_m2, nm_nz, nm_nzk, nm_eq32, nm_nzf, if_true, if_false, ↓reduceIte, if_pos, if_neg]
      have i0 : pR (pR (pR K.1 0 f) 1 f2) 0 f = pR (pR K.1 0 f) 1 f2 := nm_r0 (pR (pR K.1 0 f) 1 f2) 0
      have i1 : pR (pR (pR K.1 0 f) 1 f2) 1 f2 = pR (pR K.1 0 f) 1 f2 := nm_rr _ _ _ _
      by_cases k16 : k1 < 16
      · rw [cv_0 k16] at q1 q2
        have u0 : 0 ≤ k1 := by omega
        have u1 : k1 < 2 ^ 31 := by omega
        have ek := x3 k16
        have fit : ∀ i : Nat, i < 16 → fits .byte (.int (sR (pR (pR K.1 0 f) 1 f2) 1 i)) = true := fun i hi => b8_fit (d3 i hi)
        by_cases j16 : k2 < 16
        · rw [cv_0 j16] at r1 r2
          have v1 : ¬ k2 < 0 := by omega
          have v2 : k2 < 2 ^ 31 := by omega
          have v3 : k2 * 3 + 2 < 48 := by omega
          have v4 : k2 * 3 + 2 < 2 ^ 31 := by omega
          have eC2 : df_X5_rename_29 n (nI 0) (pR (pR K.1 0 f) 1 f2, K.2) = df_X5_rename_87 n (nI k1) (pR (pR K.1 0 f) 1 f2, (K.2.1, (K.2.2.1, pR K.2.2.2 4 (upd (sR K.2.2.2 4) (k2 * 3 + 2) (nI 0))))) := by
            simp (disch := (first | assumption | decide | omega)) only [df_X5_rename_29, df_X10_loseName_0, df_X10_loseName, q1, r1, u0, v1, i0, i1, eq_self, Nat.reduceEqDiff, Nat.reduceLeDiff, nl_0, nl_1, nl_2, nl_3, nl_4, nl_48, no_1, no_1024, pk_mul, nI_add, nm_ck, nI_clamp, nI_ltI, nI_leI, nI_eq, nb_b2, nb_b1, ↓nb_let, nm_z0, nm_z1, nb_II, nb_IR, nb_RI, nb_RR, nm_IL, nm_IQ, nm_RL, nm_RQ, nm_LI, nm_LR, nm_LL, nm_LQ, nm_QI, nm_QR, nm_QL, nm_QQ, nm_rr, nm_ii, nm_eqm, not_false_eq_true, pk_sub, nm_div, nm_shl, nm_shr, nm_ush, nm_or8, nm_or64, nm_or256, nm_m1, nm_m3, nm_m7, nm_m15, nm_m31, nm_m63, nm_m255, nm_m511, nm_m1023, nm_m2047, nm_m65535, Nat.reduceMod, Nat.reducePow, Nat.reduceAdd, Nat.reduceSub, Nat.reduceMul, nm_bo, nm_bi, nm_rc, nm_ic, nm_ri, nm_rl, nm_rq, nm_ql, nm_qi, nm_li, nm_us, nm_uu, nm_cp, nm_sa31, nm_sa7, nm_m127, nm_m2, nm_nz, nm_nzk, nm_eq32, nm_nzf, if_true, if_false, ↓reduceIte, if_pos, if_neg]
          rw [eC, eC2, r87_C n k16 fit]
          by_cases kk : k2 = k1
          · subst kk
            have eR : df_X16_rename n a b X = df_X16_rename_66 n (nI k2) (pR X.1 33 g2, X.2) := by
              simp (disch := (first | assumption | decide | omega)) only [df_X16_rename, df_X16_rename_0, e2, q2, d2, r2, eq_self, Nat.reduceEqDiff, Nat.reduceLeDiff, nl_0, nl_1, nl_2, nl_16, nl_25, no_1, no_1024, pk_mul, nI_add, nm_ck, nI_clamp, nI_ltI, nI_leI, nI_eq, nb_b2, nb_b1, ↓nb_let, nm_z0, nm_z1, nb_II, nb_IR, nb_RI, nb_RR, nm_IL, nm_IQ, nm_RL, nm_RQ, nm_LI, nm_LR, nm_LL, nm_LQ, nm_QI, nm_QR, nm_QL, nm_QQ, nm_rr, nm_ii, nm_eqm, not_false_eq_true, pk_sub, nm_div, nm_shl, nm_shr, nm_ush, nm_or8, nm_or64, nm_or256, nm_m1, nm_m3, nm_m7, nm_m15, nm_m31, nm_m63, nm_m255, nm_m511, nm_m1023, nm_m2047, nm_m65535, Nat.reduceMod, Nat.reducePow, Nat.reduceAdd, Nat.reduceSub, Nat.reduceMul, nm_bo, nm_bi, nm_rc, nm_ic, nm_ri, nm_rl, nm_rq, nm_ql, nm_qi, nm_li, nm_us, nm_uu, nm_cp, nm_sa31, nm_sa7, nm_m127, nm_m2, nm_nz, nm_nzk, nm_eq32, nm_nzf, if_true, if_false, ↓reduceIte, if_pos, if_neg]
            rw [eR, r66_R n hn k16, nk_sweep n hn]
            exact ⟨0, nI 0, pR (pR K.1 0 f) 1 f2, _, _, rfl, rfl, ren_M h1 k16 ek (k2 := 16) d3 (fi' := upd (upd (sR K.2.2.2 4) (k2 * 3 + 2) (nI 0)) (k2 * 3 + 2) (nI 1)) (nam' := upd (sR X.1 25) k2 (nI 1)) (fun j hj => ⟨by rw [nm_un (by omega), nm_un (by omega)], by rw [nm_un (by omega), nm_un (by omega)], by
              by_cases c : j = k2
              · rw [c, nm_us, nm_us]
              · rw [nm_un (by omega), nm_un (by omega), nm_un c]
                exact (h1.2.1.2.2.2 j hj).2.2.1⟩) (fun j hj => by
              by_cases c : j = k2
              · rw [c, nm_us, if_pos rfl]
              · rw [nm_un c, if_neg c, if_neg (by omega)]), fun _ => rfl, Or.inl ⟨h4, by decide⟩, ⟨rfl, rfl, rfl, rfl, rfl⟩, Or.inl ⟨h6, h7⟩, fun _ => h5, fun z => absurd (h4.symm.trans z) (by decide)⟩
          · have eR : df_X16_rename n a b X = df_X16_rename_66 n (nI k1) (pR (pR X.1 33 g2) 25 (upd (sR X.1 25) k2 (nI 0)), X.2) := by
              simp (disch := (first | assumption | decide | omega)) only [df_X16_rename, df_X16_rename_0, e2, q2, d2, r2, kk, eq_self, Nat.reduceEqDiff, Nat.reduceLeDiff, nl_0, nl_1, nl_2, nl_16, nl_25, no_1, no_1024, pk_mul, nI_add, nm_ck, nI_clamp, nI_ltI, nI_leI, nI_eq, nb_b2, nb_b1, ↓nb_let, nm_z0, nm_z1, nb_II, nb_IR, nb_RI, nb_RR, nm_IL, nm_IQ, nm_RL, nm_RQ, nm_LI, nm_LR, nm_LL, nm_LQ, nm_QI, nm_QR, nm_QL, nm_QQ, nm_rr, nm_ii, nm_eqm, not_false_eq_true, pk_sub, nm_div, nm_shl, nm_shr, nm_ush, nm_or8, nm_or64, nm_or256, nm_m1, nm_m3, nm_m7, nm_m15, nm_m31, nm_m63, nm_m255, nm_m511, nm_m1023, nm_m2047, nm_m65535, Nat.reduceMod, Nat.reducePow, Nat.reduceAdd, Nat.reduceSub, Nat.reduceMul, nm_bo, nm_bi, nm_rc, nm_ic, nm_ri, nm_rl, nm_rq, nm_ql, nm_qi, nm_li, nm_us, nm_uu, nm_cp, nm_sa31, nm_sa7, nm_m127, nm_m2, nm_nz, nm_nzk, nm_eq32, nm_nzf, if_true, if_false, ↓reduceIte, if_pos, if_neg]
            rw [eR, r66_R n hn k16, nk_sweep n hn]
            have fin := ren_M h1 k16 ek (k2 := k2) d3 (fi' := upd (upd (sR K.2.2.2 4) (k2 * 3 + 2) (nI 0)) (k1 * 3 + 2) (nI 1)) (nam' := upd (upd (sR X.1 25) k2 (nI 0)) k1 (nI 1)) (fun j hj => ⟨by rw [nm_un (by omega), nm_un (by omega)], by rw [nm_un (by omega), nm_un (by omega)], by
              by_cases c : j = k1
              · rw [c, nm_us, nm_us]
              · rw [nm_un (by omega), nm_un c]
                by_cases d : j = k2
                · rw [d, nm_us, nm_us]
                · rw [nm_un (by omega), nm_un d]
                  exact (h1.2.1.2.2.2 j hj).2.2.1⟩) (fun j hj => by
              by_cases c : j = k1
              · rw [c, nm_us, if_pos rfl]
              · rw [nm_un c, if_neg c]
                by_cases d : j = k2
                · rw [d, nm_us, if_pos rfl]
                · rw [nm_un d, if_neg d])
            have y1 : pR (pR (pR (pR X.1 33 g2) 25 (upd (sR X.1 25) k2 (nI 0))) 30 (va_cpy g2 (sR X.1 30) 0 (16 * k1) 16)) 25 (upd (upd (sR X.1 25) k2 (nI 0)) k1 (nI 1)) = pR (pR (pR X.1 33 g2) 30 (va_cpy g2 (sR X.1 30) 0 (16 * k1) 16)) 25 (upd (upd (sR X.1 25) k2 (nI 0)) k1 (nI 1)) := by
              rw [nm_rc (a := 30) (b := 25) (by decide), nm_rr, nm_rc (a := 30) (b := 25) (by decide)]
            rw [← y1] at fin
            exact ⟨0, nI 0, pR (pR K.1 0 f) 1 f2, _, _, rfl, rfl, fin, fun _ => rfl, Or.inl ⟨h4, by decide⟩, ⟨rfl, rfl, rfl, rfl, rfl⟩, Or.inl ⟨h6, h7⟩, fun _ => h5, fun z => absurd (h4.symm.trans z) (by decide)⟩
        · rw [cv_1 j16] at r1 r2
          have eC2 : df_X5_rename_29 n (nI 0) (pR (pR K.1 0 f) 1 f2, K.2) = df_X5_rename_87 n (nI k1) (pR (pR K.1 0 f) 1 f2, K.2) := by
            simp (disch := (first | assumption | decide | omega)) only [df_X5_rename_29, q1, r1, u0, nm_ltm, i0, i1, eq_self, Nat.reduceEqDiff, Nat.reduceLeDiff, nl_0, nl_1, nl_2, no_1, no_1024, pk_mul, nI_add, nm_ck, nI_clamp, nI_ltI, nI_leI, nI_eq, nb_b2, nb_b1, ↓nb_let, nm_z0, nm_z1, nb_II, nb_IR, nb_RI, nb_RR, nm_IL, nm_IQ, nm_RL, nm_RQ, nm_LI, nm_LR, nm_LL, nm_LQ, nm_QI, nm_QR, nm_QL, nm_QQ, nm_rr, nm_ii, nm_eqm, not_false_eq_true, pk_sub, nm_div, nm_shl, nm_shr, nm_ush, nm_or8, nm_or64, nm_or256, nm_m1, nm_m3, nm_m7, nm_m15, nm_m31, nm_m63, nm_m255, nm_m511, nm_m1023, nm_m2047, nm_m65535, Nat.reduceMod, Nat.reducePow, Nat.reduceAdd, Nat.reduceSub, Nat.reduceMul, nm_bo, nm_bi, nm_rc, nm_ic, nm_ri, nm_rl, nm_rq, nm_ql, nm_qi, nm_li, nm_us, nm_uu, nm_cp, nm_sa31, nm_sa7, nm_m127, nm_m2, nm_nz, nm_nzk, nm_eq32, nm_nzf, if_true, if_false, ↓reduceIte, if_pos, if_neg]
          have eC3 := r87_C n (K1 := pR (pR K.1 0 f) 1 f2) (K2 := K.2.1) (M := K.2.2) k16 fit
          have eC3 : df_X5_rename_87 n (nI k1) (pR (pR K.1 0 f) 1 f2, K.2) = _ := eC3
          have eR : df_X16_rename n a b X = df_X16_rename_66 n (nI k1) (pR X.1 33 g2, X.2) := by
            simp (disch := (first | assumption | decide | omega)) only [df_X16_rename, df_X16_rename_0, e2, q2, d2, r2, eq_self, Nat.reduceEqDiff, Nat.reduceLeDiff, nl_0, nl_1, nl_2, nl_16, nl_25, no_1, no_1024, pk_mul, nI_add, nm_ck, nI_clamp, nI_ltI, nI_leI, nI_eq, nb_b2, nb_b1, ↓nb_let, nm_z0, nm_z1, nb_II, nb_IR, nb_RI, nb_RR, nm_IL, nm_IQ, nm_RL, nm_RQ, nm_LI, nm_LR, nm_LL, nm_LQ, nm_QI, nm_QR, nm_QL, nm_QQ, nm_rr, nm_ii, nm_eqm, not_false_eq_true, pk_sub, nm_div, nm_shl, nm_shr, nm_ush, nm_or8, nm_or64, nm_or256, nm_m1, nm_m3, nm_m7, nm_m15, nm_m31, nm_m63, nm_m255, nm_m511, nm_m1023, nm_m2047, nm_m65535, Nat.reduceMod, Nat.reducePow, Nat.reduceAdd, Nat.reduceSub, Nat.reduceMul, nm_bo, nm_bi, nm_rc, nm_ic, nm_ri, nm_rl, nm_rq, nm_ql, nm_qi, nm_li, nm_us, nm_uu, nm_cp, nm_sa31, nm_sa7, nm_m127, nm_m2, nm_nz, nm_nzk, nm_eq32, nm_nzf, if_true, if_false, ↓reduceIte, if_pos, if_neg]
          rw [eC, eC2, eC3, eR, r66_R n hn k16, nk_sweep n hn]
          exact ⟨0, nI 0, pR (pR K.1 0 f) 1 f2, _, _, rfl, rfl, ren_M h1 k16 ek (k2 := 16) d3 (fi' := upd (sR K.2.2.2 4) (k1 * 3 + 2) (nI 1)) (nam' := upd (sR X.1 25) k1 (nI 1)) (fun j hj => ⟨by rw [nm_un (by omega)], by rw [nm_un (by omega)], by
              by_cases c : j = k1
              · rw [c, nm_us, nm_us]
              · rw [nm_un (by omega), nm_un c]
                exact (h1.2.1.2.2.2 j hj).2.2.1⟩) (fun j hj => by
              by_cases c : j = k1
              · rw [c, nm_us, if_pos rfl]
              · rw [nm_un c, if_neg c, if_neg (by omega)]), fun _ => rfl, Or.inl ⟨h4, by decide⟩, ⟨rfl, rfl, rfl, rfl, rfl⟩, Or.inl ⟨h6, h7⟩, fun _ => h5, fun z => absurd (h4.symm.trans z) (by decide)⟩
      · rw [cv_1 k16] at q1 q2
        have z0 : ¬ (nI 0 : Int32) ≤ -nI 1 := by decide
        have eC2 : df_X5_rename_29 n (nI 0) (pR (pR K.1 0 f) 1 f2, K.2) = some (-2, (pR (pR K.1 0 f) 1 f2, K.2)) := by
          simp (disch := (first | assumption | decide | omega)) only [df_X5_rename_29, q1, z0, i0, eq_self, Nat.reduceEqDiff, Nat.reduceLeDiff, nl_0, nl_1, nl_2, no_1, no_1024, pk_mul, nI_add, nm_ck, nI_clamp, nI_ltI, nI_leI, nI_eq, nb_b2, nb_b1, ↓nb_let, nm_z0, nm_z1, nb_II, nb_IR, nb_RI, nb_RR, nm_IL, nm_IQ, nm_RL, nm_RQ, nm_LI, nm_LR, nm_LL, nm_LQ, nm_QI, nm_QR, nm_QL, nm_QQ, nm_rr, nm_ii, nm_eqm, not_false_eq_true, pk_sub, nm_div, nm_shl, nm_shr, nm_ush, nm_or8, nm_or64, nm_or256, nm_m1, nm_m3, nm_m7, nm_m15, nm_m31, nm_m63, nm_m255, nm_m511, nm_m1023, nm_m2047, nm_m65535, Nat.reduceMod, Nat.reducePow, Nat.reduceAdd, Nat.reduceSub, Nat.reduceMul, nm_bo, nm_bi, nm_rc, nm_ic, nm_ri, nm_rl, nm_rq, nm_ql, nm_qi, nm_li, nm_us, nm_uu, nm_cp, nm_sa31, nm_sa7, nm_m127, nm_m2, nm_nz, nm_nzk, nm_eq32, nm_nzf, if_true, if_false, ↓reduceIte, if_pos, if_neg]
        have eR : df_X16_rename n a b X = some (-nI 2, (pR X.1 33 g2, X.2)) := by
          simp (disch := (first | assumption | decide | omega)) only [df_X16_rename, df_X16_rename_0, e2, q2, d2, eq_self, Nat.reduceEqDiff, Nat.reduceLeDiff, nl_0, nl_1, nl_2, nl_16, nl_25, no_1, no_1024, pk_mul, nI_add, nm_ck, nI_clamp, nI_ltI, nI_leI, nI_eq, nb_b2, nb_b1, ↓nb_let, nm_z0, nm_z1, nb_II, nb_IR, nb_RI, nb_RR, nm_IL, nm_IQ, nm_RL, nm_RQ, nm_LI, nm_LR, nm_LL, nm_LQ, nm_QI, nm_QR, nm_QL, nm_QQ, nm_rr, nm_ii, nm_eqm, not_false_eq_true, pk_sub, nm_div, nm_shl, nm_shr, nm_ush, nm_or8, nm_or64, nm_or256, nm_m1, nm_m3, nm_m7, nm_m15, nm_m31, nm_m63, nm_m255, nm_m511, nm_m1023, nm_m2047, nm_m65535, Nat.reduceMod, Nat.reducePow, Nat.reduceAdd, Nat.reduceSub, Nat.reduceMul, nm_bo, nm_bi, nm_rc, nm_ic, nm_ri, nm_rl, nm_rq, nm_ql, nm_qi, nm_li, nm_us, nm_uu, nm_cp, nm_sa31, nm_sa7, nm_m127, nm_m2, nm_nz, nm_nzk, nm_eq32, nm_nzf, if_true, if_false, ↓reduceIte, if_pos, if_neg]
        rw [eC, eC2, eR, show (-2 : Int64) = (-nI 2).toInt64 by decide]
        exact same (-nI 2)
    · have w1 := nz w d4 w0
      have eC : df_X5_rename n (nI p) a b K = some (w.toInt64, (pR (pR K.1 0 f) 1 f2, K.2)) := by
        simp (disch := (first | assumption | decide | omega)) only [df_X5_rename, df_X5_rename_0, df_X5_rename_29, e1, d1, w0, eq_self, Nat.reduceEqDiff, Nat.reduceLeDiff, nl_0, nl_1, nl_2, no_1, no_1024, pk_mul, nI_add, nm_ck, nI_clamp, nI_ltI, nI_leI, nI_eq, nb_b2, nb_b1, ↓nb_let, nm_z0, nm_z1, nb_II, nb_IR, nb_RI, nb_RR, nm_IL, nm_IQ, nm_RL, nm_RQ, nm_LI, nm_LR, nm_LL, nm_LQ, nm_QI, nm_QR, nm_QL, nm_QQ, nm_rr, nm_ii, nm_eqm, not_false_eq_true, pk_sub, nm_div, nm_shl, nm_shr, nm_ush, nm_or8, nm_or64, nm_or256, nm_m1, nm_m3, nm_m7, nm_m15, nm_m31, nm_m63, nm_m255, nm_m511, nm_m1023, nm_m2047, nm_m65535, Nat.reduceMod, Nat.reducePow, Nat.reduceAdd, Nat.reduceSub, Nat.reduceMul, nm_bo, nm_bi, nm_rc, nm_ic, nm_ri, nm_rl, nm_rq, nm_ql, nm_qi, nm_li, nm_us, nm_uu, nm_cp, nm_sa31, nm_sa7, nm_m127, nm_m2, nm_nz, nm_nzk, nm_eq32, nm_nzf, if_true, if_false, ↓reduceIte, if_pos, if_neg]
      have eR : df_X16_rename n a b X = some (w, (pR X.1 33 g2, X.2)) := by
        simp (disch := (first | assumption | decide | omega)) only [df_X16_rename, df_X16_rename_0, e2, q2, d2, w1, eq_self, Nat.reduceEqDiff, Nat.reduceLeDiff, nl_0, nl_1, nl_2, nl_16, nl_25, no_1, no_1024, pk_mul, nI_add, nm_ck, nI_clamp, nI_ltI, nI_leI, nI_eq, nb_b2, nb_b1, ↓nb_let, nm_z0, nm_z1, nb_II, nb_IR, nb_RI, nb_RR, nm_IL, nm_IQ, nm_RL, nm_RQ, nm_LI, nm_LR, nm_LL, nm_LQ, nm_QI, nm_QR, nm_QL, nm_QQ, nm_rr, nm_ii, nm_eqm, not_false_eq_true, pk_sub, nm_div, nm_shl, nm_shr, nm_ush, nm_or8, nm_or64, nm_or256, nm_m1, nm_m3, nm_m7, nm_m15, nm_m31, nm_m63, nm_m255, nm_m511, nm_m1023, nm_m2047, nm_m65535, Nat.reduceMod, Nat.reducePow, Nat.reduceAdd, Nat.reduceSub, Nat.reduceMul, nm_bo, nm_bi, nm_rc, nm_ic, nm_ri, nm_rl, nm_rq, nm_ql, nm_qi, nm_li, nm_us, nm_uu, nm_cp, nm_sa31, nm_sa7, nm_m127, nm_m2, nm_nz, nm_nzk, nm_eq32, nm_nzf, if_true, if_false, ↓reduceIte, if_pos, if_neg]
      rw [eC, eR]
      exact same w
  · have v1 := nz v e4 v0
    have h1' : rM B K.2.2 (pR X.1 33 g, X.2) := h1
    have eC : df_X5_rename n (nI p) a b K = some (v.toInt64, (pR K.1 0 f, K.2)) := by
      simp (disch := (first | assumption | decide | omega)) only [df_X5_rename, df_X5_rename_0, df_X5_rename_29, e1, v0, eq_self, Nat.reduceEqDiff, Nat.reduceLeDiff, nl_0, nl_1, nl_2, no_1, no_1024, pk_mul, nI_add, nm_ck, nI_clamp, nI_ltI, nI_leI, nI_eq, nb_b2, nb_b1, ↓nb_let, nm_z0, nm_z1, nb_II, nb_IR, nb_RI, nb_RR, nm_IL, nm_IQ, nm_RL, nm_RQ, nm_LI, nm_LR, nm_LL, nm_LQ, nm_QI, nm_QR, nm_QL, nm_QQ, nm_rr, nm_ii, nm_eqm, not_false_eq_true, pk_sub, nm_div, nm_shl, nm_shr, nm_ush, nm_or8, nm_or64, nm_or256, nm_m1, nm_m3, nm_m7, nm_m15, nm_m31, nm_m63, nm_m255, nm_m511, nm_m1023, nm_m2047, nm_m65535, Nat.reduceMod, Nat.reducePow, Nat.reduceAdd, Nat.reduceSub, Nat.reduceMul, nm_bo, nm_bi, nm_rc, nm_ic, nm_ri, nm_rl, nm_rq, nm_ql, nm_qi, nm_li, nm_us, nm_uu, nm_cp, nm_sa31, nm_sa7, nm_m127, nm_m2, nm_nz, nm_nzk, nm_eq32, nm_nzf, if_true, if_false, ↓reduceIte, if_pos, if_neg]
    have eR : df_X16_rename n a b X = some (v, (pR X.1 33 g, X.2)) := by
      simp (disch := (first | assumption | decide | omega)) only [df_X16_rename, df_X16_rename_0, e2, v1, eq_self, Nat.reduceEqDiff, Nat.reduceLeDiff, nl_0, nl_1, nl_2, nl_16, nl_25, no_1, no_1024, pk_mul, nI_add, nm_ck, nI_clamp, nI_ltI, nI_leI, nI_eq, nb_b2, nb_b1, ↓nb_let, nm_z0, nm_z1, nb_II, nb_IR, nb_RI, nb_RR, nm_IL, nm_IQ, nm_RL, nm_RQ, nm_LI, nm_LR, nm_LL, nm_LQ, nm_QI, nm_QR, nm_QL, nm_QQ, nm_rr, nm_ii, nm_eqm, not_false_eq_true, pk_sub, nm_div, nm_shl, nm_shr, nm_ush, nm_or8, nm_or64, nm_or256, nm_m1, nm_m3, nm_m7, nm_m15, nm_m31, nm_m63, nm_m255, nm_m511, nm_m1023, nm_m2047, nm_m65535, Nat.reduceMod, Nat.reducePow, Nat.reduceAdd, Nat.reduceSub, Nat.reduceMul, nm_bo, nm_bi, nm_rc, nm_ic, nm_ri, nm_rl, nm_rq, nm_ql, nm_qi, nm_li, nm_us, nm_uu, nm_cp, nm_sa31, nm_sa7, nm_m127, nm_m2, nm_nz, nm_nzk, nm_eq32, nm_nzf, if_true, if_false, ↓reduceIte, if_pos, if_neg]
    rw [eC, eR]
    exact ⟨_, v, pR K.1 0 f, K.2.2, _, rfl, rfl, h1', fun _ => rfl, Or.inl ⟨h4, rfl⟩, ⟨rfl, rfl, rfl, rfl, rfl⟩, Or.inl ⟨h6, h7⟩, fun _ => h5, fun z => absurd (h4.symm.trans z) (by decide)⟩
