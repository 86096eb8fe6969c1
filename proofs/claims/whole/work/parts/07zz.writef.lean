/-- a file's bytes and its length change -/
theorem rM_wf {B : Nat} {M X : St × St} (h : rM B M X) {o t L P N : Nat} (ho : o < 48) (ht : t < 16) (ek : sR X.1 19 o = nI 3) (hP : P + N ≤ 512) (hL : L ≤ 512) {fd fb : Nat → Int32} (hf : ∀ j : Nat, j < L ∨ j < P + N → b8 (fd (t * 512 + j)) (fb (512 * t + j))) (h1 : ∀ i : Nat, ¬ (t * 512 ≤ i ∧ i < t * 512 + 512) → fd i = sR M.2 5 i) (h2 : ∀ i : Nat, ¬ (512 * t ≤ i ∧ i < 512 * t + 512) → fb i = sR X.1 29 i) (hy : ∀ i : Nat, i < 8192 → fb8 (fd i)) : rM B (M.1, pR (pR (pR M.2 1 (upd (sR M.2 1) (o * 5 + 3) (nI (P + N)))) 4 (upd (sR M.2 4) (t * 3) (nI (if L < P + N then P + N else L)))) 5 fd) (pR (pR (pR X.1 21 (upd (sR X.1 21) o (nI (P + N)))) 28 (upd (sR X.1 28) t (nI (if L < P + N then P + N else L)))) 29 fb, X.2) := by
  obtain ⟨m1, m2, m3, m4, m5, m6, m7⟩ := h
  refine ⟨m1, ?_, m3, m4, m5, ⟨m6.1, m6.2.1, hy, m6.2.2.2⟩, ?_⟩
  · have r := rD_nam (rD_seek m2 ho hP ek) (fi' := upd (sR M.2 4) (t * 3) (nI (if L < P + N then P + N else L))) (isf' := sR X.1 24) (nam' := sR X.1 25) (fun j hj => ⟨nm_un (by omega), (nm_un (by omega)).trans (m2.2.2.2 j hj).2.2.1, (m2.2.2.2 j hj).2.1, (m2.2.2.2 j hj).2.2.2⟩)
    exact r
  · obtain ⟨t1, t2, t3⟩ := m7
    refine ⟨t1, fun k hk e => ?_, t3⟩
    show ∃ L' : Nat, L' ≤ 512 ∧ upd (sR M.2 4) (t * 3) (nI (if L < P + N then P + N else L)) (k * 3) = nI L' ∧ upd (sR X.1 28) t (nI (if L < P + N then P + N else L)) k = nI L' ∧ ∀ i : Nat, i < L' → b8 (fd (k * 512 + i)) (fb (512 * k + i))
    by_cases c : k = t
    · rw [c, nm_us, nm_us]
      refine ⟨_, ?_, rfl, rfl, fun i hi => hf i ?_⟩
      · by_cases d : L < P + N
        · rw [if_pos d]; exact hP
        · rw [if_neg d]; exact hL
      · by_cases d : L < P + N
        · rw [if_pos d] at hi; exact Or.inr hi
        · rw [if_neg d] at hi; exact Or.inl hi
    · rw [nm_un (by omega), nm_un c]
      obtain ⟨L', q1, q2, q3, q4⟩ := t2 k hk e
      refine ⟨L', q1, q2, q3, fun i hi => ?_⟩
      rw [h1 _ (by omega), h2 _ (by omega)]
      exact q4 i hi
/-- room in a file: the class -/
theorem wf_C (n : Nat) (hn : 1024 < n) {D : St} {o t L P N : Nat} (ho : o < 48) (ht : t < 16) (hP : P + N ≤ 512) (hL : L ≤ 512) (e2 : sR D 1 (o * 5 + 2) = nI t) (el : sR D 4 (t * 3) = nI L) : df_X10_stretch n (nI o) (nI P) (nI N) D = some (pR (pR (pR D 1 (upd (sR D 1) (o * 5 + 3) (nI (P + N)))) 4 (upd (sR D 4) (t * 3) (nI (if L < P + N then P + N else L)))) 5 (fl (sR D 5) (t * 512 + L) (P - L) (vp_nar .byte 0))) := by
  have u1 : o * 5 + 2 < 240 := by omega
  have u2 : o * 5 + 3 < 240 := by omega
  have u3 : t * 3 < 48 := by omega
  have u4 : P + N < 2 ^ 31 := by omega
  have u5 : L < 2 ^ 31 := by omega
  have u6 : P < 2 ^ 31 := by omega
  obtain ⟨m, hm⟩ := nm_lq (fun m k => df_X10_stretch_25 n m (nI o) (nI P) (nI N) (nI t) (nI L) (nI (L + k)) (pR D 5 (fl (sR D 5) (t * 512 + L) k (vp_nar .byte 0)))) (P - L) n (by omega) (fun k m hk => by
    have v1 : ¬ P ≤ L + k := by omega
    have v2 : ¬ 512 ≤ L + k := by omega
    have v3 : t * 512 + (L + k) < 8192 := by omega
    have v4 : t * 512 + (L + k) < 2 ^ 31 := by omega
    have v5 : L + k < 2 ^ 31 := by omega
    have v6 : t * 512 + (L + k) = t * 512 + L + k := by omega
    rw [v6] at v3 v4
    have vs := fl_s (sR D 5) (t * 512 + L) k (vp_nar .byte 0)
    show df_X10_stretch_25 n (m + 1) _ _ _ _ _ (nI (L + k)) _ = df_X10_stretch_25 n m _ _ _ _ _ (nI (L + k + 1)) _
    rw [show df_X10_stretch_25 n (m + 1) = dF_X10_stretch_25 n (df_X10_stretch_25 n m) from rfl]
    generalize df_X10_stretch_25 n m = G
    generalize hzz : vp_nar .byte 0 = zz at vs
    have hz' : vp_nar .byte (nI 0) = zz := hzz
    clear e2 el
    simp (disch := (first | assumption | decide | omega)) only [dF_X10_stretch_25, v1, v2, v6, hz', vs, eq_self, Nat.reduceEqDiff, Nat.reduceLeDiff, nl_0, nl_1, nl_5, nl_512, nl_8192, no_1, no_1024, pk_mul, nI_add, nm_ck, nI_clamp, nI_ltI, nI_leI, nI_eq, nb_b2, nb_b1, ↓nb_let, nm_z0, nm_z1, nb_II, nb_IR, nb_RI, nb_RR, nm_IL, nm_IQ, nm_RL, nm_RQ, nm_LI, nm_LR, nm_LL, nm_LQ, nm_QI, nm_QR, nm_QL, nm_QQ, nm_rr, nm_ii, nm_eqm, not_false_eq_true, pk_sub, nm_div, nm_shl, nm_shr, nm_ush, nm_or8, nm_or64, nm_or256, nm_m1, nm_m3, nm_m7, nm_m15, nm_m31, nm_m63, nm_m255, nm_m511, nm_m1023, nm_m2047, nm_m65535, Nat.reduceMod, Nat.reducePow, Nat.reduceAdd, Nat.reduceSub, Nat.reduceMul, nm_bo, nm_bi, nm_rc, nm_ic, nm_ri, nm_rl, nm_rq, nm_ql, nm_qi, nm_li, nm_us, nm_uu, nm_cp, nm_sa31, nm_sa7, nm_m127, nm_m2, nm_nz, nm_nzk, nm_eq32, nm_nzf, if_true, if_false, ↓reduceIte, if_pos, if_neg])
  rw [fl_0, nm_r0] at hm
  have e0 : df_X10_stretch n (nI o) (nI P) (nI N) D = df_X10_stretch_25 n n (nI o) (nI P) (nI N) (nI t) (nI L) (nI (L + 0)) D := by
    rw [Nat.add_zero]
    simp (disch := (first | assumption | decide | omega)) only [df_X10_stretch, df_X10_stretch_0, df_X10_of_0, df_X10_of, e2, el, Nat.add_zero, eq_self, Nat.reduceEqDiff, Nat.reduceLeDiff, nl_0, nl_1, nl_2, nl_3, nl_4, nl_5, nl_48, nl_240, no_1, no_1024, pk_mul, nI_add, nm_ck, nI_clamp, nI_ltI, nI_leI, nI_eq, nb_b2, nb_b1, ↓nb_let, nm_z0, nm_z1, nb_II, nb_IR, nb_RI, nb_RR, nm_IL, nm_IQ, nm_RL, nm_RQ, nm_LI, nm_LR, nm_LL, nm_LQ, nm_QI, nm_QR, nm_QL, nm_QQ, nm_rr, nm_ii, nm_eqm, not_false_eq_true, pk_sub, nm_div, nm_shl, nm_shr, nm_ush, nm_or8, nm_or64, nm_or256, nm_m1, nm_m3, nm_m7, nm_m15, nm_m31, nm_m63, nm_m255, nm_m511, nm_m1023, nm_m2047, nm_m65535, Nat.reduceMod, Nat.reducePow, Nat.reduceAdd, Nat.reduceSub, Nat.reduceMul, nm_bo, nm_bi, nm_rc, nm_ic, nm_ri, nm_rl, nm_rq, nm_ql, nm_qi, nm_li, nm_us, nm_uu, nm_cp, nm_sa31, nm_sa7, nm_m127, nm_m2, nm_nz, nm_nzk, nm_eq32, nm_nzf, if_true, if_false, ↓reduceIte, if_pos, if_neg]
  rw [e0]
  refine Eq.trans hm ?_
  show df_X10_stretch_25 n (m + 1) _ _ _ _ _ (nI (L + (P - L))) _ = _
  rw [show df_X10_stretch_25 n (m + 1) = dF_X10_stretch_25 n (df_X10_stretch_25 n m) from rfl]
  generalize df_X10_stretch_25 n m = G
  generalize fl (sR D 5) (t * 512 + L) (P - L) (vp_nar .byte 0) = F
  have v1 : P ≤ L + (P - L) := by omega
  have v2 : L + (P - L) < 2 ^ 31 := by omega
  by_cases c : L < P + N
  · rw [if_pos c]
    simp (disch := (first | assumption | decide | omega)) only [dF_X10_stretch_25, df_X10_stretch_60, v1, c, Nat.add_zero, eq_self, Nat.reduceEqDiff, Nat.reduceLeDiff, nm_rc (a := 4) (b := 1) (by decide), nm_rc (a := 5) (b := 1) (by decide), nm_rc (a := 5) (b := 4) (by decide), nl_0, nl_1, nl_3, nl_4, nl_5, nl_48, nl_240, nl_512, nl_8192, no_1, no_1024, pk_mul, nI_add, nm_ck, nI_clamp, nI_ltI, nI_leI, nI_eq, nb_b2, nb_b1, ↓nb_let, nm_z0, nm_z1, nb_II, nb_IR, nb_RI, nb_RR, nm_IL, nm_IQ, nm_RL, nm_RQ, nm_LI, nm_LR, nm_LL, nm_LQ, nm_QI, nm_QR, nm_QL, nm_QQ, nm_rr, nm_ii, nm_eqm, not_false_eq_true, pk_sub, nm_div, nm_shl, nm_shr, nm_ush, nm_or8, nm_or64, nm_or256, nm_m1, nm_m3, nm_m7, nm_m15, nm_m31, nm_m63, nm_m255, nm_m511, nm_m1023, nm_m2047, nm_m65535, Nat.reduceMod, Nat.reducePow, Nat.reduceAdd, Nat.reduceSub, Nat.reduceMul, nm_bo, nm_bi, nm_rc, nm_ic, nm_ri, nm_rl, nm_rq, nm_ql, nm_qi, nm_li, nm_us, nm_uu, nm_cp, nm_sa31, nm_sa7, nm_m127, nm_m2, nm_nz, nm_nzk, nm_eq32, nm_nzf, if_true, if_false, ↓reduceIte, if_pos, if_neg]
  · rw [if_neg c]
    simp (disch := (first | assumption | decide | omega)) only [dF_X10_stretch_25, df_X10_stretch_60, v1, c, Nat.add_zero, eq_self, Nat.reduceEqDiff, Nat.reduceLeDiff, nm_rc (a := 4) (b := 1) (by decide), nm_rc (a := 5) (b := 1) (by decide), nm_rc (a := 5) (b := 4) (by decide), nl_0, nl_1, nl_3, nl_4, nl_5, nl_48, nl_240, nl_512, nl_8192, no_1, no_1024, pk_mul, nI_add, nm_ck, nI_clamp, nI_ltI, nI_leI, nI_eq, nb_b2, nb_b1, ↓nb_let, nm_z0, nm_z1, nb_II, nb_IR, nb_RI, nb_RR, nm_IL, nm_IQ, nm_RL, nm_RQ, nm_LI, nm_LR, nm_LL, nm_LQ, nm_QI, nm_QR, nm_QL, nm_QQ, nm_rr, nm_ii, nm_eqm, not_false_eq_true, pk_sub, nm_div, nm_shl, nm_shr, nm_ush, nm_or8, nm_or64, nm_or256, nm_m1, nm_m3, nm_m7, nm_m15, nm_m31, nm_m63, nm_m255, nm_m511, nm_m1023, nm_m2047, nm_m65535, Nat.reduceMod, Nat.reducePow, Nat.reduceAdd, Nat.reduceSub, Nat.reduceMul, nm_bo, nm_bi, nm_rc, nm_ic, nm_ri, nm_rl, nm_rq, nm_ql, nm_qi, nm_li, nm_us, nm_uu, nm_cp, nm_sa31, nm_sa7, nm_m127, nm_m2, nm_nz, nm_nzk, nm_eq32, nm_nzf, if_true, if_false, ↓reduceIte, if_pos, if_neg]
/-- the reference's zeros -/
theorem wf_R (n : Nat) (hn : 1024 < n) {X : St × St} {t L P N : Nat} {x1 x3 : Int32} (ht : t < 16) (hP : P + N ≤ 512) (hL : L ≤ 512) : df_X16_writeFile_57 n n x1 (nI t) x3 (nI N) (nI P) (nI L) X = df_X16_writeFile_87 n n x1 (nI t) x3 (nI N) (nI P) (nI 0) (pR X.1 29 (fl (sR X.1 29) (512 * t + L) (P - L) (nI 0)), X.2) := by
  have u5 : L < 2 ^ 31 := by omega
  have u6 : P < 2 ^ 31 := by omega
  obtain ⟨m, hm⟩ := nm_lq (fun m k => df_X16_writeFile_57 n m x1 (nI t) x3 (nI N) (nI P) (nI (L + k)) (pR X.1 29 (fl (sR X.1 29) (512 * t + L) k (nI 0)), X.2)) (P - L) n (by omega) (fun k m hk => by
    have v1 : ¬ P ≤ L + k := by omega
    have v3 : 512 * t + (L + k) < 8192 := by omega
    have v4 : 512 * t + (L + k) < 2 ^ 31 := by omega
    have v5 : L + k < 2 ^ 31 := by omega
    have v6 : 512 * t + (L + k) = 512 * t + L + k := by omega
    have vs := fl_s (sR X.1 29) (512 * t + L) k (nI 0)
    show df_X16_writeFile_57 n (m + 1) _ _ _ _ _ (nI (L + k)) _ = df_X16_writeFile_57 n m _ _ _ _ _ (nI (L + k + 1)) _
    rw [show df_X16_writeFile_57 n (m + 1) = dF_X16_writeFile_57 n (df_X16_writeFile_57 n m) from rfl]
    generalize df_X16_writeFile_57 n m = G
    simp (disch := (first | assumption | decide | omega)) only [dF_X16_writeFile_57, v1, v6, vs, eq_self, Nat.reduceEqDiff, Nat.reduceLeDiff, nl_0, nl_1, nl_29, nl_512, nl_8192, no_1, no_1024, pk_mul, nI_add, nm_ck, nI_clamp, nI_ltI, nI_leI, nI_eq, nb_b2, nb_b1, ↓nb_let, nm_z0, nm_z1, nb_II, nb_IR, nb_RI, nb_RR, nm_IL, nm_IQ, nm_RL, nm_RQ, nm_LI, nm_LR, nm_LL, nm_LQ, nm_QI, nm_QR, nm_QL, nm_QQ, nm_rr, nm_ii, nm_eqm, not_false_eq_true, pk_sub, nm_div, nm_shl, nm_shr, nm_ush, nm_or8, nm_or64, nm_or256, nm_m1, nm_m3, nm_m7, nm_m15, nm_m31, nm_m63, nm_m255, nm_m511, nm_m1023, nm_m2047, nm_m65535, Nat.reduceMod, Nat.reducePow, Nat.reduceAdd, Nat.reduceSub, Nat.reduceMul, nm_bo, nm_bi, nm_rc, nm_ic, nm_ri, nm_rl, nm_rq, nm_ql, nm_qi, nm_li, nm_us, nm_uu, nm_cp, nm_sa31, nm_sa7, nm_m127, nm_m2, nm_nz, nm_nzk, nm_eq32, nm_nzf, if_true, if_false, ↓reduceIte, if_pos, if_neg])
  rw [fl_0, nm_r0] at hm
  refine Eq.trans (b := df_X16_writeFile_57 n n x1 (nI t) x3 (nI N) (nI P) (nI (L + 0)) X) (by rw [Nat.add_zero]) (Eq.trans hm ?_)
  show df_X16_writeFile_57 n (m + 1) _ _ _ _ _ (nI (L + (P - L))) _ = _
  rw [show df_X16_writeFile_57 n (m + 1) = dF_X16_writeFile_57 n (df_X16_writeFile_57 n m) from rfl]
  generalize df_X16_writeFile_57 n m = G
  have v1 : P ≤ L + (P - L) := by omega
  have v2 : L + (P - L) < 2 ^ 31 := by omega
  simp (disch := (first | assumption | decide | omega)) only [dF_X16_writeFile_57, v1, eq_self, Nat.reduceEqDiff, Nat.reduceLeDiff, nl_0, nl_1, nl_29, nl_512, nl_8192, no_1, no_1024, pk_mul, nI_add, nm_ck, nI_clamp, nI_ltI, nI_leI, nI_eq, nb_b2, nb_b1, ↓nb_let, nm_z0, nm_z1, nb_II, nb_IR, nb_RI, nb_RR, nm_IL, nm_IQ, nm_RL, nm_RQ, nm_LI, nm_LR, nm_LL, nm_LQ, nm_QI, nm_QR, nm_QL, nm_QQ, nm_rr, nm_ii, nm_eqm, not_false_eq_true, pk_sub, nm_div, nm_shl, nm_shr, nm_ush, nm_or8, nm_or64, nm_or256, nm_m1, nm_m3, nm_m7, nm_m15, nm_m31, nm_m63, nm_m255, nm_m511, nm_m1023, nm_m2047, nm_m65535, Nat.reduceMod, Nat.reducePow, Nat.reduceAdd, Nat.reduceSub, Nat.reduceMul, nm_bo, nm_bi, nm_rc, nm_ic, nm_ri, nm_rl, nm_rq, nm_ql, nm_qi, nm_li, nm_us, nm_uu, nm_cp, nm_sa31, nm_sa7, nm_m127, nm_m2, nm_nz, nm_nzk, nm_eq32, nm_nzf, if_true, if_false, ↓reduceIte, if_pos, if_neg]
theorem wf_p {s L P N i e : Nat} (hP : P + N ≤ e) (h : ¬ (s ≤ i ∧ i < s + e)) : ¬ (s + L ≤ i ∧ i < s + L + (P - L)) := fun z => by
  rcases Nat.le_total L P with c | c
  · obtain ⟨q, rfl⟩ : ∃ q : Nat, P = L + q := ⟨P - L, by omega⟩
    rw [Nat.add_sub_cancel_left] at z
    exact h ⟨by omega, by omega⟩
  · rw [Nat.sub_eq_zero_of_le c] at z
    omega
theorem wf_o {t L P N i : Nat} (hP : P + N ≤ 512) (h : ¬ (t * 512 ≤ i ∧ i < t * 512 + 512)) : ¬ (t * 512 + L ≤ i ∧ i < t * 512 + L + (P - L)) := wf_p hP h
theorem wf_o' {t L P N i : Nat} (hP : P + N ≤ 512) (h : ¬ (512 * t ≤ i ∧ i < 512 * t + 512)) : ¬ (512 * t + L ≤ i ∧ i < 512 * t + L + (P - L)) := wf_p hP h
/-- the loop into a file -/
theorem wr_f (n : Nat) (hn : 1024 < n) {B p : Nat} {K1 K2 : St} {M X : St × St} (h : rM B M X) (hp : p < 16) (h3 : sI X.1 12 = nI p) {A N o t L P : Nat} (hA : A + N ≤ 65536) (hN1 : 1 ≤ N) (hm : ∀ j : Nat, j < N → ma X p (A + j) 1 = true) (ho : o < 48) (ht : t < 16) (ek : sR X.1 19 o = nI 3) (et : sR M.2 1 (o * 5 + 2) = nI t) (el : sR M.2 4 (t * 3) = nI L) (el' : sR X.1 28 t = nI L) (hL : L ≤ 512) (hP : P + N ≤ 512) (hf : ∀ i : Nat, i < L → b8 (sR M.2 5 (t * 512 + i)) (sR X.1 29 (512 * t + i))) : ∃ (D' : St) (X' : St × St), nd_b1 (df_X10_stretch n (nI o) (nI P) (nI N) M.2) (fun D => df_X5_write_185 n n (nI p) (nI A) (nI N) (nI o) (nI 3) (nI P) (nI 0) (K1, (K2, (M.1, D)))) = some ((nI N).toInt64, (K1, (K2, (M.1, D')))) ∧ df_X16_writeFile_57 n n (nI o) (nI t) (nI A) (nI N) (nI P) (nI L) X = some (nI N, X') ∧ rM B (M.1, D') X' ∧ kX X X' ∧ sR X'.1 1 = sR X.1 1 := by
  have sC := wf_C n hn (D := M.2) ho ht hP hL et el
  have sR' := wf_R n hn (X := X) (t := t) (L := L) (P := P) (N := N) (x1 := nI o) (x3 := nI A) ht hP hL
  rw [sC, nb_b1, sR']
  clear sC sR'
  have D1t : sR (pR (pR M.2 1 (upd (sR M.2 1) (o * 5 + 3) (nI (P + N)))) 4 (upd (sR M.2 4) (t * 3) (nI (if L < P + N then P + N else L)))) 1 (o * 5 + 2) = nI t := by
    show upd (sR M.2 1) (o * 5 + 3) _ (o * 5 + 2) = _
    rw [nm_un (by omega)]
    exact et
  obtain ⟨m, D', X', ⟨fd, fb, eD, eX, i1, i2, i3, i4⟩, f1, f2⟩ := nm_l2 (fun m k D => df_X5_write_185 n m (nI p) (nI A) (nI N) (nI o) (nI 3) (nI P) (nI k) (K1, (K2, (M.1, D)))) (fun m k Y => df_X16_writeFile_87 n m (nI o) (nI t) (nI A) (nI N) (nI P) (nI k) Y)
    (fun k D Y => ∃ fd fb : Nat → Int32, D = pR (pR (pR M.2 1 (upd (sR M.2 1) (o * 5 + 3) (nI (P + N)))) 4 (upd (sR M.2 4) (t * 3) (nI (if L < P + N then P + N else L)))) 5 fd ∧ Y = (pR X.1 29 fb, X.2) ∧ (∀ j : Nat, j < L ∨ j < P + k → b8 (fd (t * 512 + j)) (fb (512 * t + j))) ∧ (∀ i : Nat, ¬ (t * 512 ≤ i ∧ i < t * 512 + 512) → fd i = sR M.2 5 i) ∧ (∀ i : Nat, ¬ (512 * t ≤ i ∧ i < 512 * t + 512) → fb i = sR X.1 29 i) ∧ ∀ i : Nat, i < 8192 → fb8 (fd i)) N n (by omega) (fun k m D Y hk ⟨fd, fb, eD, eX, i1, i2, i3, i4⟩ => by
      subst eD eX
      have e12 : sI (pR X.1 29 fb, X.2).1 12 = nI p := h3
      obtain ⟨z, hz, z1, z2⟩ := nk_bz n (M := (M.1, pR (pR (pR M.2 1 (upd (sR M.2 1) (o * 5 + 3) (nI (P + N)))) 4 (upd (sR M.2 4) (t * 3) (nI (if L < P + N then P + N else L)))) 5 fd)) (X := X) (Y := (pR X.1 29 fb, X.2)) h.1 h.1 hp e12 (Z := A + k) (by omega) (hm k hk)
      refine ⟨_, _, ⟨upd fd (t * 512 + (P + k)) (vp_nar .byte ((nI z).toInt8.toInt32)), upd fb (512 * t + P + k) (nI z), rfl, rfl, fun j hj => ?_, fun i hi => ?_, fun i hi => ?_, fun i hi => fb_u (b8_fit (b8_z hz)) (i4 i hi)⟩, ?_, ?_⟩
      · by_cases c : j = P + k
        · rw [c, nm_us, show 512 * t + (P + k) = 512 * t + P + k by omega, nm_us]
          exact b8_z hz
        · rw [nm_un (by omega), nm_un (by omega)]
          exact i1 j (by omega)
      · rw [nm_un (by omega)]; exact i2 i hi
      · rw [nm_un (by omega)]; exact i3 i hi
      · have u1 : ¬ N ≤ k := by omega
        have u2 : N < 2 ^ 31 := by omega
        have u3 : k < 2 ^ 31 := by omega
        have u4 : t * 512 + (P + k) < 8192 := by omega
        have u5 : t * 512 + (P + k) < 2 ^ 31 := by omega
        have u6 : o * 5 + 2 < 240 := by omega
        have u7 : (P + k) % 512 = P + k := by omega
        have u8 : P + k < 2 ^ 32 := by omega
        show df_X5_write_185 n (m + 1) _ _ _ _ _ _ (nI k) _ = df_X5_write_185 n m _ _ _ _ _ _ (nI (k + 1)) _
        rw [show df_X5_write_185 n (m + 1) = dF_X5_write_185 n (df_X5_write_185 n m) from rfl]
        generalize df_X5_write_185 n m = G
        clear h hm i1 i2 i3 i4 hf
        generalize pR (pR M.2 1 (upd (sR M.2 1) (o * 5 + 3) (nI (P + N)))) 4 (upd (sR M.2 4) (t * 3) (nI (if L < P + N then P + N else L))) = D1 at D1t z1
        simp (disch := (first | assumption | decide | omega)) only [dF_X5_write_185, df_X5_write_260, df_X10_putFiled_0, df_X10_putFiled, df_X10_of_0, df_X10_of, u1, z1, D1t, u7, eq_self, Nat.reduceEqDiff, Nat.reduceLeDiff, nl_1, nl_2, nl_3, nl_4, nl_5, nl_240, nl_511, nl_512, nl_8192, no_1, no_1024, pk_mul, nI_add, nm_ck, nI_clamp, nI_ltI, nI_leI, nI_eq, nb_b2, nb_b1, ↓nb_let, nm_z0, nm_z1, nb_II, nb_IR, nb_RI, nb_RR, nm_IL, nm_IQ, nm_RL, nm_RQ, nm_LI, nm_LR, nm_LL, nm_LQ, nm_QI, nm_QR, nm_QL, nm_QQ, nm_rr, nm_ii, nm_eqm, not_false_eq_true, pk_sub, nm_div, nm_shl, nm_shr, nm_ush, nm_or8, nm_or64, nm_or256, nm_m1, nm_m3, nm_m7, nm_m15, nm_m31, nm_m63, nm_m255, nm_m511, nm_m1023, nm_m2047, nm_m65535, Nat.reduceMod, Nat.reducePow, Nat.reduceAdd, Nat.reduceSub, Nat.reduceMul, nm_bo, nm_bi, nm_rc, nm_ic, nm_ri, nm_rl, nm_rq, nm_ql, nm_qi, nm_li, nm_us, nm_uu, nm_cp, nm_sa31, nm_sa7, nm_m127, nm_m2, nm_nz, nm_nzk, nm_eq32, nm_nzf, if_true, if_false, ↓reduceIte, if_pos, if_neg]
      · have u1 : ¬ N ≤ k := by omega
        have u2 : N < 2 ^ 31 := by omega
        have u3 : k < 2 ^ 31 := by omega
        have u4 : 512 * t + P + k < 8192 := by omega
        have u5 : 512 * t + P + k < 2 ^ 31 := by omega
        show df_X16_writeFile_87 n (m + 1) _ _ _ _ _ (nI k) _ = df_X16_writeFile_87 n m _ _ _ _ _ (nI (k + 1)) _
        rw [show df_X16_writeFile_87 n (m + 1) = dF_X16_writeFile_87 n (df_X16_writeFile_87 n m) from rfl]
        generalize df_X16_writeFile_87 n m = G
        clear h hm i1 i2 i3 i4 hf
        simp (disch := (first | assumption | decide | omega)) only [dF_X16_writeFile_87, u1, z2, eq_self, Nat.reduceEqDiff, Nat.reduceLeDiff, nl_1, nl_16, nl_21, nl_28, nl_29, nl_48, nl_512, nl_8192, no_1, no_1024, pk_mul, nI_add, nm_ck, nI_clamp, nI_ltI, nI_leI, nI_eq, nb_b2, nb_b1, ↓nb_let, nm_z0, nm_z1, nb_II, nb_IR, nb_RI, nb_RR, nm_IL, nm_IQ, nm_RL, nm_RQ, nm_LI, nm_LR, nm_LL, nm_LQ, nm_QI, nm_QR, nm_QL, nm_QQ, nm_rr, nm_ii, nm_eqm, not_false_eq_true, pk_sub, nm_div, nm_shl, nm_shr, nm_ush, nm_or8, nm_or64, nm_or256, nm_m1, nm_m3, nm_m7, nm_m15, nm_m31, nm_m63, nm_m255, nm_m511, nm_m1023, nm_m2047, nm_m65535, Nat.reduceMod, Nat.reducePow, Nat.reduceAdd, Nat.reduceSub, Nat.reduceMul, nm_bo, nm_bi, nm_rc, nm_ic, nm_ri, nm_rl, nm_rq, nm_ql, nm_qi, nm_li, nm_us, nm_uu, nm_cp, nm_sa31, nm_sa7, nm_m127, nm_m2, nm_nz, nm_nzk, nm_eq32, nm_nzf, if_true, if_false, ↓reduceIte, if_pos, if_neg]) (pR (pR (pR M.2 1 (upd (sR M.2 1) (o * 5 + 3) (nI (P + N)))) 4 (upd (sR M.2 4) (t * 3) (nI (if L < P + N then P + N else L)))) 5 (fl (sR M.2 5) (t * 512 + L) (P - L) (vp_nar .byte 0))) (pR X.1 29 (fl (sR X.1 29) (512 * t + L) (P - L) (nI 0)), X.2) ⟨_, _, rfl, rfl, fun j hj => by
      by_cases c : j < L
      · rw [fl_o (by omega), fl_o (by omega)]
        exact hf j c
      · rw [fl_i (by omega), fl_i (by omega)]
        exact b8_0, fun i hi => fl_o (wf_o hP hi), fun i hi => fl_o (wf_o' hP hi), fun i hi => by
      by_cases c : t * 512 + L ≤ i ∧ i < t * 512 + L + (P - L)
      · rw [fl_i c]; exact b8_fit b8_0
      · rw [fl_o c]; exact h.2.2.2.2.2.1.2.2.1 i hi⟩
  subst eD eX
  have u2 : N < 2 ^ 31 := by omega
  have u3 : P + N < 2 ^ 31 := by omega
  have u4 : L < 2 ^ 31 := by omega
  have u5 : t < 2 ^ 31 := by omega
  have u6 : o < 2 ^ 31 := by omega
  refine ⟨_, _, Eq.trans f1 ?_, Eq.trans f2 ?_, rM_wf h ho ht ek hP hL i1 i2 i3 i4, ⟨rfl, rfl, rfl, rfl, rfl, rfl, rfl⟩, rfl⟩
  · show df_X5_write_185 n (m + 1) _ _ _ _ _ _ (nI N) _ = _
    rw [show df_X5_write_185 n (m + 1) = dF_X5_write_185 n (df_X5_write_185 n m) from rfl]
    generalize df_X5_write_185 n m = G
    simp (disch := (first | assumption | decide | omega)) only [dF_X5_write_185, Nat.le_refl, eq_self, Nat.reduceEqDiff, Nat.reduceLeDiff, nl_3, nl_4, no_1, no_1024, pk_mul, nI_add, nm_ck, nI_clamp, nI_ltI, nI_leI, nI_eq, nb_b2, nb_b1, ↓nb_let, nm_z0, nm_z1, nb_II, nb_IR, nb_RI, nb_RR, nm_IL, nm_IQ, nm_RL, nm_RQ, nm_LI, nm_LR, nm_LL, nm_LQ, nm_QI, nm_QR, nm_QL, nm_QQ, nm_rr, nm_ii, nm_eqm, not_false_eq_true, pk_sub, nm_div, nm_shl, nm_shr, nm_ush, nm_or8, nm_or64, nm_or256, nm_m1, nm_m3, nm_m7, nm_m15, nm_m31, nm_m63, nm_m255, nm_m511, nm_m1023, nm_m2047, nm_m65535, Nat.reduceMod, Nat.reducePow, Nat.reduceAdd, Nat.reduceSub, Nat.reduceMul, nm_bo, nm_bi, nm_rc, nm_ic, nm_ri, nm_rl, nm_rq, nm_ql, nm_qi, nm_li, nm_us, nm_uu, nm_cp, nm_sa31, nm_sa7, nm_m127, nm_m2, nm_nz, nm_nzk, nm_eq32, nm_nzf, if_true, if_false, ↓reduceIte, if_pos, if_neg]
  · show df_X16_writeFile_87 n (m + 1) _ _ _ _ _ (nI N) _ = _
    rw [show df_X16_writeFile_87 n (m + 1) = dF_X16_writeFile_87 n (df_X16_writeFile_87 n m) from rfl]
    generalize df_X16_writeFile_87 n m = G
    clear f1 f2 h hm i1 i2 i3 hf
    by_cases c : L < P + N
    · rw [if_pos c]
      have c' : ¬ P + N ≤ L := by omega
      simp (disch := (first | assumption | decide | omega)) only [dF_X16_writeFile_87, df_X16_writeFile_168, Nat.le_refl, el', c', eq_self, Nat.reduceEqDiff, Nat.reduceLeDiff, nm_rc (a := 28) (b := 21) (by decide), nm_rc (a := 29) (b := 21) (by decide), nm_rc (a := 29) (b := 28) (by decide), nl_1, nl_16, nl_21, nl_28, nl_29, nl_48, nl_512, nl_8192, no_1, no_1024, pk_mul, nI_add, nm_ck, nI_clamp, nI_ltI, nI_leI, nI_eq, nb_b2, nb_b1, ↓nb_let, nm_z0, nm_z1, nb_II, nb_IR, nb_RI, nb_RR, nm_IL, nm_IQ, nm_RL, nm_RQ, nm_LI, nm_LR, nm_LL, nm_LQ, nm_QI, nm_QR, nm_QL, nm_QQ, nm_rr, nm_ii, nm_eqm, not_false_eq_true, pk_sub, nm_div, nm_shl, nm_shr, nm_ush, nm_or8, nm_or64, nm_or256, nm_m1, nm_m3, nm_m7, nm_m15, nm_m31, nm_m63, nm_m255, nm_m511, nm_m1023, nm_m2047, nm_m65535, Nat.reduceMod, Nat.reducePow, Nat.reduceAdd, Nat.reduceSub, Nat.reduceMul, nm_bo, nm_bi, nm_rc, nm_ic, nm_ri, nm_rl, nm_rq, nm_ql, nm_qi, nm_li, nm_us, nm_uu, nm_cp, nm_sa31, nm_sa7, nm_m127, nm_m2, nm_nz, nm_nzk, nm_eq32, nm_nzf, if_true, if_false, ↓reduceIte, if_pos, if_neg]
    · rw [if_neg c]
      have c' : P + N ≤ L := by omega
      simp (disch := (first | assumption | decide | omega)) only [dF_X16_writeFile_87, df_X16_writeFile_168, Nat.le_refl, el', c', eq_self, Nat.reduceEqDiff, Nat.reduceLeDiff, nm_rc (a := 28) (b := 21) (by decide), nm_rc (a := 29) (b := 21) (by decide), nm_rc (a := 29) (b := 28) (by decide), nl_1, nl_16, nl_21, nl_28, nl_29, nl_48, nl_512, nl_8192, no_1, no_1024, pk_mul, nI_add, nm_ck, nI_clamp, nI_ltI, nI_leI, nI_eq, nb_b2, nb_b1, ↓nb_let, nm_z0, nm_z1, nb_II, nb_IR, nb_RI, nb_RR, nm_IL, nm_IQ, nm_RL, nm_RQ, nm_LI, nm_LR, nm_LL, nm_LQ, nm_QI, nm_QR, nm_QL, nm_QQ, nm_rr, nm_ii, nm_eqm, not_false_eq_true, pk_sub, nm_div, nm_shl, nm_shr, nm_ush, nm_or8, nm_or64, nm_or256, nm_m1, nm_m3, nm_m7, nm_m15, nm_m31, nm_m63, nm_m255, nm_m511, nm_m1023, nm_m2047, nm_m65535, Nat.reduceMod, Nat.reducePow, Nat.reduceAdd, Nat.reduceSub, Nat.reduceMul, nm_bo, nm_bi, nm_rc, nm_ic, nm_ri, nm_rl, nm_rq, nm_ql, nm_qi, nm_li, nm_us, nm_uu, nm_cp, nm_sa31, nm_sa7, nm_m127, nm_m2, nm_nz, nm_nzk, nm_eq32, nm_nzf, if_true, if_false, ↓reduceIte, if_pos, if_neg]
