/-- what comes, from each kind: how many bytes and which -/
theorem rd_K (n : Nat) (hn : 1024 < n) {B : Nat} {M X : St × St} (h : rM B M X) {p : Nat} (h3 : sI X.1 12 = nI p) {o k t N A : Nat} (ho : o < 48) (ht : t < 16) (hN : N ≤ 512) (hk : k = 1 ∨ k = 3 ∨ k = 4) (ek : sR X.1 19 o = nI k) (et : sR X.1 20 o = nI t) : ∃ (m : Nat) (v : Nat → Int32), m ≤ N ∧ df_X10_coming n (nI o) (nI N) M.2 = some (nI m, M.2) ∧ df_X16_comes n (nI o) (nI N) X = some (nI m, X) ∧ (k = 1 → ∀ L : Nat, L ≤ 512 → sR X.1 26 t = nI L → m ≤ L) ∧ (k = 3 → ∀ x : Nat, x ≤ 512 → sR X.1 21 o = nI x → x + m ≤ 512) ∧ (k = 4 → ∀ T : Nat, T ≤ 512 → sI X.1 7 = nI T → m ≤ T) ∧ (∀ j : Nat, j < m → df_X10_comingByte n (nI o) (nI j) M.2 = some (v j, M.2)) ∧ ∀ (j : Nat) (b' fr' ho' : Nat → Int32) (us' re' wr' : Int32) (g : Int32 → Int32 → Int32 → Int32 → Int32 → Int32 → St × St → Option (Int32 × (St × St))), j < m → dF_X16_read_124 n g (nI A) (nI N) (nI o) (nI m) (nI t) (nI j) (wX X b' fr' (sR X.1 17) ho' us' re' wr') = nd_b1 (df_X16_write n (nI p) (nI (A + j)) (v j) (wX X b' fr' (sR X.1 17) ho' us' re' wr')) (fun s => g (nI A) (nI N) (nI o) (nI m) (nI t) (nI (j + 1)) s) := by
  obtain ⟨m1, m2, m3, m4, m5, m6, m7⟩ := h
  rcases m2.2.1 o ho with ⟨z1, _⟩ | ⟨kk, tt, y1, y2, y3, y4, y5, y6, y7, y8, y9, y10, y11, y12, y13, y14, y15⟩
  · rw [ek] at z1
    have := nm_inI (by omega) (by omega) z1
    omega
  have e1 : kk = k := nm_inI (by omega) (by omega) (y4.symm.trans ek)
  subst e1
  have e2 : tt = t := nm_inI (by omega) (by omega) (y7.symm.trans et)
  subst e2
  have u5 : o < 2 ^ 31 := by omega
  rcases hk with e | e | e
  · subst e
    have t8 := y9 (by omega)
    have e23 : sR X.1 23 tt = nI 1 := by
      have x1 : 0 < cE (sR X.1 19) (sR X.1 20) 1 tt := cN_p (P := fun j => decide (sR X.1 19 j = nI 1 ∧ sR X.1 20 j = nI tt)) (i := o) (decide_eq_true ⟨y4, y7⟩) ho
      rw [(m2.2.2.1 tt t8).2.2, decide_eq_true (by omega)]
      rfl
    obtain ⟨L, oo, hL, hoo, l1, l2, l3, l4⟩ := m7.1 tt t8 e23
    obtain ⟨c1, c2⟩ := cm_1 n (N := N) ho t8 hN hL y5 y8 l1 y4 y7 l2
    have hW : (if L < N then L else N) ≤ L ∧ (if L < N then L else N) ≤ N := by
      by_cases c : L < N
      · rw [if_pos c]; omega
      · rw [if_neg c]; omega
    generalize (if L < N then L else N) = m at c1 c2 hW
    refine ⟨m, fun j => sR X.1 27 (512 * tt + j), hW.2, c1, c2, fun _ L' hL' e => ?_, fun z => absurd z (by omega), fun z => absurd z (by omega), fun j hj => cb_1 n (L := L) ho t8 hoo (by omega) y5 y8 l3 (l4 j (by omega)), fun j b' fr' ho' us' re' wr' g hj => ?_⟩
    · have : L' = L := nm_inI (by omega) (by omega) (e.symm.trans l2)
      omega
    · have w12 : sI (wX X b' fr' (sR X.1 17) ho' us' re' wr').1 12 = nI p := h3
      have w19 : sR (wX X b' fr' (sR X.1 17) ho' us' re' wr').1 19 o = nI 1 := y4
      have w27 : sR (wX X b' fr' (sR X.1 17) ho' us' re' wr').1 27 (512 * tt + j) = sR X.1 27 (512 * tt + j) := rfl
      generalize wX X b' fr' (sR X.1 17) ho' us' re' wr' = Y at w12 w19 w27
      have v1 : ¬ m ≤ j := by omega
      have v2 : m < 2 ^ 31 := by omega
      have v3 : j < 2 ^ 31 := by omega
      have v4 : 512 * tt + j < 4096 := by omega
      have v5 : 512 * tt + j < 2 ^ 31 := by omega
      clear m2 m3 m7 l4 c1 c2
      simp (disch := (first | assumption | decide | omega)) only [dF_X16_read_124, df_X16_read_211, v1, w19, w12, w27, eq_self, Nat.reduceEqDiff, Nat.reduceLeDiff, nl_1, nl_3, nl_7, nl_12, nl_19, nl_21, nl_27, nl_29, nl_31, nl_48, nl_512, nl_4096, nl_8192, no_1, no_1024, pk_mul, nI_add, nm_ck, nI_clamp, nI_ltI, nI_leI, nI_eq, nb_b2, nb_b1, ↓nb_let, nm_z0, nm_z1, nb_II, nb_IR, nb_RI, nb_RR, nm_IL, nm_IQ, nm_RL, nm_RQ, nm_LI, nm_LR, nm_LL, nm_LQ, nm_QI, nm_QR, nm_QL, nm_QQ, nm_rr, nm_ii, nm_eqm, not_false_eq_true, pk_sub, nm_div, nm_shl, nm_shr, nm_ush, nm_or8, nm_or64, nm_or256, nm_m1, nm_m3, nm_m7, nm_m15, nm_m31, nm_m63, nm_m255, nm_m511, nm_m1023, nm_m2047, nm_m65535, Nat.reduceMod, Nat.reducePow, Nat.reduceAdd, Nat.reduceSub, Nat.reduceMul, nm_bo, nm_bi, nm_rc, nm_ic, nm_ri, nm_rl, nm_rq, nm_ql, nm_qi, nm_li, nm_us, nm_uu, nm_cp, nm_sa31, nm_sa7, nm_m127, nm_m2, nm_nz, nm_nzk, nm_eq32, nm_nzf, if_true, if_false, ↓reduceIte, if_pos, if_neg]
  · subst e
    obtain ⟨x, hx, ex⟩ := y15 rfl
    have op3 : sR M.2 1 (o * 5 + 3) = nI x := (y12 rfl).trans ex
    have isf : sR X.1 24 tt = nI 1 := by
      have x1 : 0 < cE (sR X.1 19) (sR X.1 20) 3 tt := cN_p (P := fun j => decide (sR X.1 19 j = nI 3 ∧ sR X.1 20 j = nI tt)) (i := o) (decide_eq_true ⟨y4, y7⟩) ho
      rw [(m2.2.2.2 tt y10).2.2.2, decide_eq_true (Or.inr x1)]
      rfl
    obtain ⟨L, hL, l1, l2, l4⟩ := m7.2.1 tt y10 isf
    obtain ⟨c1, c2⟩ := cm_3 n (N := N) ho y10 hN hL hx y5 y8 op3 l1 y4 y7 l2 ex
    have hW : (if x ≤ L then (if L - x < N then L - x else N) else 0) ≤ N ∧ ((if x ≤ L then (if L - x < N then L - x else N) else 0) = 0 ∨ x + (if x ≤ L then (if L - x < N then L - x else N) else 0) ≤ L) := by
      by_cases c : x ≤ L
      · rw [if_pos c]
        by_cases d : L - x < N
        · rw [if_pos d]; omega
        · rw [if_neg d]; omega
      · rw [if_neg c]; omega
    generalize (if x ≤ L then (if L - x < N then L - x else N) else 0) = m at c1 c2 hW
    refine ⟨m, fun j => sR X.1 29 (512 * tt + x + j), hW.1, c1, c2, fun z => absurd z (by omega), fun _ x' hx' e => ?_, fun z => absurd z (by omega), fun j hj => cb_3 n (x := x) ho y10 (by omega) y5 y8 op3 ?_, fun j b' fr' ho' us' re' wr' g hj => ?_⟩
    · have : x' = x := nm_inI (by omega) (by omega) (e.symm.trans ex)
      omega
    · have := l4 (x + j) (by omega)
      rw [show 512 * tt + (x + j) = 512 * tt + x + j by omega] at this
      exact this
    · have w12 : sI (wX X b' fr' (sR X.1 17) ho' us' re' wr').1 12 = nI p := h3
      have w19 : sR (wX X b' fr' (sR X.1 17) ho' us' re' wr').1 19 o = nI 3 := y4
      have w21 : sR (wX X b' fr' (sR X.1 17) ho' us' re' wr').1 21 o = nI x := ex
      have w29 : sR (wX X b' fr' (sR X.1 17) ho' us' re' wr').1 29 (512 * tt + x + j) = sR X.1 29 (512 * tt + x + j) := rfl
      generalize wX X b' fr' (sR X.1 17) ho' us' re' wr' = Y at w12 w19 w21 w29
      have v1 : ¬ m ≤ j := by omega
      have v2 : m < 2 ^ 31 := by omega
      have v3 : j < 2 ^ 31 := by omega
      have v4 : 512 * tt + x + j < 8192 := by omega
      have v5 : 512 * tt + x + j < 2 ^ 31 := by omega
      clear m2 m3 m7 l4 c1 c2
      simp (disch := (first | assumption | decide | omega)) only [dF_X16_read_124, df_X16_read_211, v1, w19, w21, w12, w29, eq_self, Nat.reduceEqDiff, Nat.reduceLeDiff, nl_1, nl_3, nl_7, nl_12, nl_19, nl_21, nl_27, nl_29, nl_31, nl_48, nl_512, nl_4096, nl_8192, no_1, no_1024, pk_mul, nI_add, nm_ck, nI_clamp, nI_ltI, nI_leI, nI_eq, nb_b2, nb_b1, ↓nb_let, nm_z0, nm_z1, nb_II, nb_IR, nb_RI, nb_RR, nm_IL, nm_IQ, nm_RL, nm_RQ, nm_LI, nm_LR, nm_LL, nm_LQ, nm_QI, nm_QR, nm_QL, nm_QQ, nm_rr, nm_ii, nm_eqm, not_false_eq_true, pk_sub, nm_div, nm_shl, nm_shr, nm_ush, nm_or8, nm_or64, nm_or256, nm_m1, nm_m3, nm_m7, nm_m15, nm_m31, nm_m63, nm_m255, nm_m511, nm_m1023, nm_m2047, nm_m65535, Nat.reduceMod, Nat.reducePow, Nat.reduceAdd, Nat.reduceSub, Nat.reduceMul, nm_bo, nm_bi, nm_rc, nm_ic, nm_ri, nm_rl, nm_rq, nm_ql, nm_qi, nm_li, nm_us, nm_uu, nm_cp, nm_sa31, nm_sa7, nm_m127, nm_m2, nm_nz, nm_nzk, nm_eq32, nm_nzf, if_true, if_false, ↓reduceIte, if_pos, if_neg]
  · subst e
    obtain ⟨T, hT, t1, t2, t3⟩ := m7.2.2.2.1
    obtain ⟨c1, c2⟩ := cm_4 n hn (N := N) ho hN hT y5 ⟨tt, y10, y8⟩ t1 y4 t2 t3
    have hW : fN (fun i => decide (sR X.1 31 i = nI 4)) 0 (if T < N then T else N) ≤ T ∧ fN (fun i => decide (sR X.1 31 i = nI 4)) 0 (if T < N then T else N) ≤ N := by
      have := (fN_le (fun i => decide (sR X.1 31 i = nI 4)) (if T < N then T else N) 0).2.1
      by_cases c : T < N
      · rw [if_pos c] at this ⊢; omega
      · rw [if_neg c] at this ⊢; omega
    generalize fN (fun i => decide (sR X.1 31 i = nI 4)) 0 (if T < N then T else N) = m at c1 c2 hW
    refine ⟨m, fun j => sR X.1 31 j, hW.2, c1, c2, fun z => absurd z (by omega), fun z => absurd z (by omega), fun _ T' hT' e => ?_, fun j hj => cb_4 n ho (by omega) y5 y8 (t3 j (by omega)), fun j b' fr' ho' us' re' wr' g hj => ?_⟩
    · have : T' = T := nm_inI (by omega) (by omega) (e.symm.trans t2)
      omega
    · have w12 : sI (wX X b' fr' (sR X.1 17) ho' us' re' wr').1 12 = nI p := h3
      have w19 : sR (wX X b' fr' (sR X.1 17) ho' us' re' wr').1 19 o = nI 4 := y4
      have w31 : sR (wX X b' fr' (sR X.1 17) ho' us' re' wr').1 31 j = sR X.1 31 j := rfl
      generalize wX X b' fr' (sR X.1 17) ho' us' re' wr' = Y at w12 w19 w31
      have v1 : ¬ m ≤ j := by omega
      have v2 : m < 2 ^ 31 := by omega
      have v3 : j < 2 ^ 31 := by omega
      have v4 : j < 512 := by omega
      clear m2 m3 m7 t3 c1 c2
      simp (disch := (first | assumption | decide | omega)) only [dF_X16_read_124, df_X16_read_211, v1, w19, w12, w31, eq_self, Nat.reduceEqDiff, Nat.reduceLeDiff, nl_1, nl_3, nl_7, nl_12, nl_19, nl_21, nl_27, nl_29, nl_31, nl_48, nl_512, nl_4096, nl_8192, no_1, no_1024, pk_mul, nI_add, nm_ck, nI_clamp, nI_ltI, nI_leI, nI_eq, nb_b2, nb_b1, ↓nb_let, nm_z0, nm_z1, nb_II, nb_IR, nb_RI, nb_RR, nm_IL, nm_IQ, nm_RL, nm_RQ, nm_LI, nm_LR, nm_LL, nm_LQ, nm_QI, nm_QR, nm_QL, nm_QQ, nm_rr, nm_ii, nm_eqm, not_false_eq_true, pk_sub, nm_div, nm_shl, nm_shr, nm_ush, nm_or8, nm_or64, nm_or256, nm_m1, nm_m3, nm_m7, nm_m15, nm_m31, nm_m63, nm_m255, nm_m511, nm_m1023, nm_m2047, nm_m65535, Nat.reduceMod, Nat.reducePow, Nat.reduceAdd, Nat.reduceSub, Nat.reduceMul, nm_bo, nm_bi, nm_rc, nm_ic, nm_ri, nm_rl, nm_rq, nm_ql, nm_qi, nm_li, nm_us, nm_uu, nm_cp, nm_sa31, nm_sa7, nm_m127, nm_m2, nm_nz, nm_nzk, nm_eq32, nm_nzf, if_true, if_false, ↓reduceIte, if_pos, if_neg]
