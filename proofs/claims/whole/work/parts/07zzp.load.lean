/-- a program: the class's contents, and the reference's of that number -/
def rPg (P Q : St) (v T Z : Nat) : Prop := T ≤ 32768 ∧ Z ≤ 32768 ∧ (Z = T ∨ (T + 1023) / 1024 * 1024 < Z) ∧ sI P 0 = nI T ∧ sI P 1 = nI ((T + 1023) / 1024 * 1024) ∧ sI P 2 = nI Z ∧ sR Q 1 v = nI T ∧ sR Q 2 v = nI ((T + 1023) / 1024 * 1024) ∧ sR Q 3 v = nI Z ∧ ∀ i : Nat, i < Z → ∃ u : Int32, b8 (sR P 0 i) u ∧ ∀ n : Nat, df_X17_byteAt n (nI v) (nI i) Q = some (u, Q)
/-- how many pages its data take -/
def dpg (T Z : Nat) : Nat := (Z - (T + 1023) / 1024 * 1024 + 1023) / 1024
theorem lp_t (n : Nat) {P Q : St} {v T Z : Nat} (h : rPg P Q v T Z) : df_X8_textPages n P = some (nI ((T + 1023) / 1024), P) := by
  obtain ⟨h1, h2, h3, h4, h5, h6, h7, h8, h9, h10⟩ := h
  have s1 : T + 1024 - 1 = T + 1023 := by omega
  have u1 : T + 1023 < 2 ^ 31 := by omega
  simp (disch := (first | assumption | decide | omega)) only [df_X8_textPages_0, df_X8_textPages, h4, s1, eq_self, Nat.reduceEqDiff, Nat.reduceLeDiff, nl_0, nl_1, nl_1024, no_1, no_1024, pk_mul, nI_add, nm_ck, nI_clamp, nI_ltI, nI_leI, nI_eq, nb_b2, nb_b1, ↓nb_let, nm_z0, nm_z1, nb_II, nb_IR, nb_RI, nb_RR, nm_IL, nm_IQ, nm_RL, nm_RQ, nm_LI, nm_LR, nm_LL, nm_LQ, nm_QI, nm_QR, nm_QL, nm_QQ, nm_rr, nm_ii, nm_eqm, not_false_eq_true, pk_sub, nm_div, nm_shl, nm_shr, nm_ush, nm_or8, nm_or64, nm_or256, nm_m1, nm_m3, nm_m7, nm_m15, nm_m31, nm_m63, nm_m255, nm_m511, nm_m1023, nm_m2047, nm_m65535, Nat.reduceMod, Nat.reducePow, Nat.reduceAdd, Nat.reduceSub, Nat.reduceMul, nm_bo, nm_bi, nm_rc, nm_ic, nm_ri, nm_rl, nm_rq, nm_ql, nm_qi, nm_li, nm_us, nm_uu, nm_cp, nm_sa31, nm_sa7, nm_m127, nm_m2, nm_nz, nm_nzk, nm_eq32, nm_nzf, if_true, if_false, ↓reduceIte, if_pos, if_neg]
theorem lp_d (n : Nat) {P Q : St} {v T Z : Nat} (h : rPg P Q v T Z) : df_X8_dataPages n P = some (nI (dpg T Z), P) := by
  obtain ⟨h1, h2, h3, h4, h5, h6, h7, h8, h9, h10⟩ := h
  unfold dpg
  generalize hD : (T + 1023) / 1024 * 1024 = D at h5
  have d1 : D ≤ 32768 := by omega
  by_cases c : Z ≤ D
  · have e : (Z - D + 1023) / 1024 = 0 := by omega
    rw [e]
    simp (disch := (first | assumption | decide | omega)) only [df_X8_dataPages_34, df_X8_dataPages_0, df_X8_dataPages, h5, h6, c, eq_self, Nat.reduceEqDiff, Nat.reduceLeDiff, nl_0, nl_1, nl_2, nl_1024, no_1, no_1024, pk_mul, nI_add, nm_ck, nI_clamp, nI_ltI, nI_leI, nI_eq, nb_b2, nb_b1, ↓nb_let, nm_z0, nm_z1, nb_II, nb_IR, nb_RI, nb_RR, nm_IL, nm_IQ, nm_RL, nm_RQ, nm_LI, nm_LR, nm_LL, nm_LQ, nm_QI, nm_QR, nm_QL, nm_QQ, nm_rr, nm_ii, nm_eqm, not_false_eq_true, pk_sub, nm_div, nm_shl, nm_shr, nm_ush, nm_or8, nm_or64, nm_or256, nm_m1, nm_m3, nm_m7, nm_m15, nm_m31, nm_m63, nm_m255, nm_m511, nm_m1023, nm_m2047, nm_m65535, Nat.reduceMod, Nat.reducePow, Nat.reduceAdd, Nat.reduceSub, Nat.reduceMul, nm_bo, nm_bi, nm_rc, nm_ic, nm_ri, nm_rl, nm_rq, nm_ql, nm_qi, nm_li, nm_us, nm_uu, nm_cp, nm_sa31, nm_sa7, nm_m127, nm_m2, nm_nz, nm_nzk, nm_eq32, nm_nzf, if_true, if_false, ↓reduceIte, if_pos, if_neg]
  · have s1 : Z - D + 1024 - 1 = Z - D + 1023 := by omega
    have u1 : Z - D + 1023 < 2 ^ 31 := by omega
    have u2 : D ≤ Z := by omega
    simp (disch := (first | assumption | decide | omega)) only [df_X8_dataPages_34, df_X8_dataPages_0, df_X8_dataPages, h5, h6, c, s1, eq_self, Nat.reduceEqDiff, Nat.reduceLeDiff, nl_0, nl_1, nl_2, nl_1024, no_1, no_1024, pk_mul, nI_add, nm_ck, nI_clamp, nI_ltI, nI_leI, nI_eq, nb_b2, nb_b1, ↓nb_let, nm_z0, nm_z1, nb_II, nb_IR, nb_RI, nb_RR, nm_IL, nm_IQ, nm_RL, nm_RQ, nm_LI, nm_LR, nm_LL, nm_LQ, nm_QI, nm_QR, nm_QL, nm_QQ, nm_rr, nm_ii, nm_eqm, not_false_eq_true, pk_sub, nm_div, nm_shl, nm_shr, nm_ush, nm_or8, nm_or64, nm_or256, nm_m1, nm_m3, nm_m7, nm_m15, nm_m31, nm_m63, nm_m255, nm_m511, nm_m1023, nm_m2047, nm_m65535, Nat.reduceMod, Nat.reducePow, Nat.reduceAdd, Nat.reduceSub, Nat.reduceMul, nm_bo, nm_bi, nm_rc, nm_ic, nm_ri, nm_rl, nm_rq, nm_ql, nm_qi, nm_li, nm_us, nm_uu, nm_cp, nm_sa31, nm_sa7, nm_m127, nm_m2, nm_nz, nm_nzk, nm_eq32, nm_nzf, if_true, if_false, ↓reduceIte, if_pos, if_neg]
theorem lp_h (n : Nat) {P Q : St} {v T Z : Nat} (h : rPg P Q v T Z) : df_X8_heapStart n P = some (nI ((Z + 1023) / 1024 * 1024), P) := by
  obtain ⟨h1, h2, h3, h4, h5, h6, h7, h8, h9, h10⟩ := h
  have s1 : Z + 1024 - 1 = Z + 1023 := by omega
  have u1 : Z + 1023 < 2 ^ 31 := by omega
  simp (disch := (first | assumption | decide | omega)) only [df_X8_heapStart_0, df_X8_heapStart, h6, s1, eq_self, Nat.reduceEqDiff, Nat.reduceLeDiff, nl_1, nl_2, nl_1024, no_1, no_1024, pk_mul, nI_add, nm_ck, nI_clamp, nI_ltI, nI_leI, nI_eq, nb_b2, nb_b1, ↓nb_let, nm_z0, nm_z1, nb_II, nb_IR, nb_RI, nb_RR, nm_IL, nm_IQ, nm_RL, nm_RQ, nm_LI, nm_LR, nm_LL, nm_LQ, nm_QI, nm_QR, nm_QL, nm_QQ, nm_rr, nm_ii, nm_eqm, not_false_eq_true, pk_sub, nm_div, nm_shl, nm_shr, nm_ush, nm_or8, nm_or64, nm_or256, nm_m1, nm_m3, nm_m7, nm_m15, nm_m31, nm_m63, nm_m255, nm_m511, nm_m1023, nm_m2047, nm_m65535, Nat.reduceMod, Nat.reducePow, Nat.reduceAdd, Nat.reduceSub, Nat.reduceMul, nm_bo, nm_bi, nm_rc, nm_ic, nm_ri, nm_rl, nm_rq, nm_ql, nm_qi, nm_li, nm_us, nm_uu, nm_cp, nm_sa31, nm_sa7, nm_m127, nm_m2, nm_nz, nm_nzk, nm_eq32, nm_nzf, if_true, if_false, ↓reduceIte, if_pos, if_neg]
theorem lp_p (n : Nat) {P Q : St} {v T Z : Nat} (h : rPg P Q v T Z) : df_X6_pagesFor n P = some (nI ((T + 1023) / 1024 + dpg T Z + 4), P) := by
  have t := lp_t n h
  have d := lp_d n h
  generalize (T + 1023) / 1024 = a at t
  generalize dpg T Z = b at d
  simp (disch := (first | assumption | decide | omega)) only [df_X6_pagesFor_0, df_X6_pagesFor, t, d, eq_self, Nat.reduceEqDiff, Nat.reduceLeDiff, nl_4, no_1, no_1024, pk_mul, nI_add, nm_ck, nI_clamp, nI_ltI, nI_leI, nI_eq, nb_b2, nb_b1, ↓nb_let, nm_z0, nm_z1, nb_II, nb_IR, nb_RI, nb_RR, nm_IL, nm_IQ, nm_RL, nm_RQ, nm_LI, nm_LR, nm_LL, nm_LQ, nm_QI, nm_QR, nm_QL, nm_QQ, nm_rr, nm_ii, nm_eqm, not_false_eq_true, pk_sub, nm_div, nm_shl, nm_shr, nm_ush, nm_or8, nm_or64, nm_or256, nm_m1, nm_m3, nm_m7, nm_m15, nm_m31, nm_m63, nm_m255, nm_m511, nm_m1023, nm_m2047, nm_m65535, Nat.reduceMod, Nat.reducePow, Nat.reduceAdd, Nat.reduceSub, Nat.reduceMul, nm_bo, nm_bi, nm_rc, nm_ic, nm_ri, nm_rl, nm_rq, nm_ql, nm_qi, nm_li, nm_us, nm_uu, nm_cp, nm_sa31, nm_sa7, nm_m127, nm_m2, nm_nz, nm_nzk, nm_eq32, nm_nzf, if_true, if_false, ↓reduceIte, if_pos, if_neg]
theorem lq_s (n : Nat) {P Q : St} {v T Z : Nat} (hv : v < 4) (h : rPg P Q v T Z) : df_X17_dataSize n (nI v) Q = some (nI (Z - (T + 1023) / 1024 * 1024), Q) := by
  obtain ⟨h1, h2, h3, h4, h5, h6, h7, h8, h9, h10⟩ := h
  have u0 : v < 2 ^ 31 := by omega
  generalize hD : (T + 1023) / 1024 * 1024 = D at h8
  have d1 : D ≤ 32768 := by omega
  by_cases c : Z ≤ D
  · have e : Z - D = 0 := by omega
    rw [e]
    simp (disch := (first | assumption | decide | omega)) only [df_X17_dataSize_32, df_X17_dataSize_0, df_X17_dataSize, h8, h9, c, eq_self, Nat.reduceEqDiff, Nat.reduceLeDiff, nl_0, nl_2, nl_3, nl_4, no_1, no_1024, pk_mul, nI_add, nm_ck, nI_clamp, nI_ltI, nI_leI, nI_eq, nb_b2, nb_b1, ↓nb_let, nm_z0, nm_z1, nb_II, nb_IR, nb_RI, nb_RR, nm_IL, nm_IQ, nm_RL, nm_RQ, nm_LI, nm_LR, nm_LL, nm_LQ, nm_QI, nm_QR, nm_QL, nm_QQ, nm_rr, nm_ii, nm_eqm, not_false_eq_true, pk_sub, nm_div, nm_shl, nm_shr, nm_ush, nm_or8, nm_or64, nm_or256, nm_m1, nm_m3, nm_m7, nm_m15, nm_m31, nm_m63, nm_m255, nm_m511, nm_m1023, nm_m2047, nm_m65535, Nat.reduceMod, Nat.reducePow, Nat.reduceAdd, Nat.reduceSub, Nat.reduceMul, nm_bo, nm_bi, nm_rc, nm_ic, nm_ri, nm_rl, nm_rq, nm_ql, nm_qi, nm_li, nm_us, nm_uu, nm_cp, nm_sa31, nm_sa7, nm_m127, nm_m2, nm_nz, nm_nzk, nm_eq32, nm_nzf, if_true, if_false, ↓reduceIte, if_pos, if_neg]
  · have u2 : D ≤ Z := by omega
    simp (disch := (first | assumption | decide | omega)) only [df_X17_dataSize_32, df_X17_dataSize_0, df_X17_dataSize, h8, h9, c, eq_self, Nat.reduceEqDiff, Nat.reduceLeDiff, nl_0, nl_2, nl_3, nl_4, no_1, no_1024, pk_mul, nI_add, nm_ck, nI_clamp, nI_ltI, nI_leI, nI_eq, nb_b2, nb_b1, ↓nb_let, nm_z0, nm_z1, nb_II, nb_IR, nb_RI, nb_RR, nm_IL, nm_IQ, nm_RL, nm_RQ, nm_LI, nm_LR, nm_LL, nm_LQ, nm_QI, nm_QR, nm_QL, nm_QQ, nm_rr, nm_ii, nm_eqm, not_false_eq_true, pk_sub, nm_div, nm_shl, nm_shr, nm_ush, nm_or8, nm_or64, nm_or256, nm_m1, nm_m3, nm_m7, nm_m15, nm_m31, nm_m63, nm_m255, nm_m511, nm_m1023, nm_m2047, nm_m65535, Nat.reduceMod, Nat.reducePow, Nat.reduceAdd, Nat.reduceSub, Nat.reduceMul, nm_bo, nm_bi, nm_rc, nm_ic, nm_ri, nm_rl, nm_rq, nm_ql, nm_qi, nm_li, nm_us, nm_uu, nm_cp, nm_sa31, nm_sa7, nm_m127, nm_m2, nm_nz, nm_nzk, nm_eq32, nm_nzf, if_true, if_false, ↓reduceIte, if_pos, if_neg]
theorem lq_p (n : Nat) {P : St} {X : St × St} {v T Z : Nat} (hv : v < 4) (h : rPg P X.2 v T Z) : df_X16_pagesOf n (nI v) X = some (nI ((T + 1023) / 1024 + dpg T Z + 4), X) := by
  have d := lq_s n hv h
  obtain ⟨h1, h2, h3, h4, h5, h6, h7, h8, h9, h10⟩ := h
  have u0 : v < 2 ^ 31 := by omega
  unfold dpg
  have hD : Z - (T + 1023) / 1024 * 1024 ≤ 32768 := by omega
  generalize Z - (T + 1023) / 1024 * 1024 = a at d hD
  have u1 : T + 1023 < 2 ^ 31 := by omega
  have u2 : a + 1023 < 2 ^ 31 := by omega
  simp (disch := (first | assumption | decide | omega)) only [df_X16_pagesOf_0, df_X16_pagesOf, d, h7, eq_self, Nat.reduceEqDiff, Nat.reduceLeDiff, nl_1, nl_4, nl_1023, nl_1024, no_1, no_1024, pk_mul, nI_add, nm_ck, nI_clamp, nI_ltI, nI_leI, nI_eq, nb_b2, nb_b1, ↓nb_let, nm_z0, nm_z1, nb_II, nb_IR, nb_RI, nb_RR, nm_IL, nm_IQ, nm_RL, nm_RQ, nm_LI, nm_LR, nm_LL, nm_LQ, nm_QI, nm_QR, nm_QL, nm_QQ, nm_rr, nm_ii, nm_eqm, not_false_eq_true, pk_sub, nm_div, nm_shl, nm_shr, nm_ush, nm_or8, nm_or64, nm_or256, nm_m1, nm_m3, nm_m7, nm_m15, nm_m31, nm_m63, nm_m255, nm_m511, nm_m1023, nm_m2047, nm_m65535, Nat.reduceMod, Nat.reducePow, Nat.reduceAdd, Nat.reduceSub, Nat.reduceMul, nm_bo, nm_bi, nm_rc, nm_ic, nm_ri, nm_rl, nm_rq, nm_ql, nm_qi, nm_li, nm_us, nm_uu, nm_cp, nm_sa31, nm_sa7, nm_m127, nm_m2, nm_nz, nm_nzk, nm_eq32, nm_nzf, if_true, if_false, ↓reduceIte, if_pos, if_neg]
/-- a byte of the reference is put -/
theorem nk_put2 (n : Nat) {X : St × St} {b fr ri ho : Nat → Int32} {us : Int32} {p a : Nat} (hp : p < 16) (ha : a < 65536) (v : Int32) : df_X16_put n (nI (65536 * p + a)) v (xU X b fr ri ho us) = some (xU X (pb b (65536 * p + a) v) fr ri ho us) := by
  have hs : 8 * ((65536 * p + a) % 4) % 32 = 8 * ((65536 * p + a) % 4) := by omega
  simp (disch := omega) only [df_X16_put_0, df_X16_put, xU, pb, pw, hs, nm_rc (a := 16) (b := 15) (by decide), nm_rc (a := 17) (b := 15) (by decide), nm_rc (a := 17) (b := 16) (by decide), nm_rc (a := 18) (b := 15) (by decide), nm_rc (a := 18) (b := 16) (by decide), nm_rc (a := 18) (b := 17) (by decide), nl_1, nl_2, nl_3, nl_8, nl_15, nl_31, nl_255, nl_262144, no_1, no_1024, pk_mul, nI_add, nm_ck, nI_clamp, nI_ltI, nI_leI, nI_eq, nb_b2, nb_b1, nb_let, nm_z0, nm_z1, nb_II, nb_IR, nb_RI, nb_RR, nm_IL, nm_IQ, nm_RL, nm_RQ, nm_LI, nm_LR, nm_LL, nm_LQ, nm_QI, nm_QR, nm_QL, nm_QQ, nm_rr, nm_ii, nm_eqm, not_false_eq_true, pk_sub, nm_div, nm_shl, nm_shr, nm_ush, nm_or8, nm_or64, nm_or256, nm_m1, nm_m3, nm_m7, nm_m15, nm_m31, nm_m63, nm_m255, nm_m511, nm_m1023, nm_m2047, nm_m65535, Nat.reduceMod, Nat.reducePow, Nat.reduceAdd, Nat.reduceSub, Nat.reduceMul, nm_bo, nm_bi, nm_rc, nm_ic, nm_ri, nm_rl, nm_rq, nm_ql, nm_qi, nm_li, nm_us, nm_uu, nm_cp, nm_sa31, nm_sa7, nm_m127, nm_m2, nm_nz, nm_nzk, nm_eq32, nm_nzf, if_true, if_false, ↓reduceIte, if_pos, if_neg]
/-- the image is put, byte after byte -/
theorem ld_puts (n : Nat) (hn : 40000 < n) {M Y : St × St} {P s0 : St} {p v T Z : Nat} {w u g b fr ri ho : Nat → Int32} {fu us : Int32} (rq : rQ w u g b fr ri ho fu us) (hp : p < 16) (hv : v < 4) (pg : rPg P Y.2 v T Z) (hf : ∀ k : Nat, k < Z → ∃ f : Nat, f < 256 ∧ fr (64 * p + k / 1024) = nI f ∧ cF fr f = 1) (hz : ∀ k : Nat, k < Z → zb b (65536 * p + k)) : ∃ (m : Nat) (w' b' : Nat → Int32), rQ w' u g b' fr ri ho fu us ∧ df_X6_load_40 n n (nI p) (nI 0) (s0, (mU M w u g fu, P)) = df_X6_load_40 n (m + 1) (nI p) (nI Z) (s0, (mU M w' u g fu, P)) ∧ df_X16_load_161 n n (nI p) (nI v) (nI 0) (xU Y b fr ri ho us) = df_X16_load_161 n (m + 1) (nI p) (nI v) (nI Z) (xU Y b' fr ri ho us) := by
  have zl := pg.2.1
  obtain ⟨m, s', t', ⟨w', b', e1, e2, e3, e4⟩, r1, r2⟩ := nm_l2 (S := St × (St × St) × St) (T := St × St) (fun g' k s => df_X6_load_40 n g' (nI p) (nI k) s) (fun g' k t => df_X16_load_161 n g' (nI p) (nI v) (nI k) t) (fun k s t => ∃ w b : Nat → Int32, s = (s0, (mU M w u g fu, P)) ∧ t = xU Y b fr ri ho us ∧ rQ w u g b fr ri ho fu us ∧ ∀ j : Nat, k ≤ j → j < Z → zb b (65536 * p + j)) Z n (by omega) (fun k g' s t hk ⟨w, b, e1, e2, e3, e4⟩ => by
    subst e1 e2
    obtain ⟨h1, h2, h3, h4, h5, h6, h7, h8, h9, h10⟩ := pg
    obtain ⟨z, z1, z2⟩ := h10 k hk
    have z2 := z2 n
    obtain ⟨f, f1, f2, f3⟩ := hf k hk
    have k1 : ¬ Z ≤ k := by omega
    have u1 : k < 2 ^ 31 := by omega
    have u2 : Z < 2 ^ 31 := by omega
    have u3 : k < 32768 := by omega
    have u4 : v < 2 ^ 31 := by omega
    have u5 : 64 * p + k / 1024 < 1024 := by omega
    have u6 : 64 * p + k / 1024 < 2 ^ 31 := by omega
    have pr := nk_put2 n (X := Y) (b := b) (fr := fr) (ri := ri) (ho := ho) (us := us) hp (show k < 65536 by omega) z
    have t2 : sR (xU Y b fr ri ho us).2 3 v = nI Z := h9
    have t16 : sR (xU Y b fr ri ho us).1 16 (64 * p + k / 1024) = nI f := f2
    have t3 : df_X17_byteAt n (nI v) (nI k) (xU Y b fr ri ho us).2 = some (z, (xU Y b fr ri ho us).2) := z2
    have fm : ¬ nI f = -nI 1 := nk_ne (by omega)
    have R : df_X16_load_161 n (g' + 1) (nI p) (nI v) (nI k) (xU Y b fr ri ho us) = df_X16_load_161 n g' (nI p) (nI v) (nI (k + 1)) (xU Y (pb b (65536 * p + k) z) fr ri ho us) := by
      rw [show df_X16_load_161 n (g' + 1) = dF_X16_load_161 n (df_X16_load_161 n g') from rfl]
      generalize df_X16_load_161 n g' = G
      generalize xU Y b fr ri ho us = V at t2 t16 t3 pr
      generalize xU Y (pb b (65536 * p + k) z) fr ri ho us = V2 at pr
      clear e3 e4 hf hz h10
      simp (disch := (first | assumption | decide | omega)) only [dF_X16_load_161, df_X16_load_216, t2, k1, t16, fm, t3, pr, eq_self, Nat.reduceEqDiff, Nat.reduceLeDiff, nl_1, nl_3, nl_4, nl_5, nl_6, nl_16, nl_64, nl_1023, nl_1024, nl_65536, no_1, no_1024, pk_mul, nI_add, nm_ck, nI_clamp, nI_ltI, nI_leI, nI_eq, nb_b2, nb_b1, ↓nb_let, nm_z0, nm_z1, nb_II, nb_IR, nb_RI, nb_RR, nm_IL, nm_IQ, nm_RL, nm_RQ, nm_LI, nm_LR, nm_LL, nm_LQ, nm_QI, nm_QR, nm_QL, nm_QQ, nm_rr, nm_ii, nm_eqm, not_false_eq_true, pk_sub, nm_div, nm_shl, nm_shr, nm_ush, nm_or8, nm_or64, nm_or256, nm_m1, nm_m3, nm_m7, nm_m15, nm_m31, nm_m63, nm_m255, nm_m511, nm_m1023, nm_m2047, nm_m65535, Nat.reduceMod, Nat.reducePow, Nat.reduceAdd, Nat.reduceSub, Nat.reduceMul, nm_bo, nm_bi, nm_rc, nm_ic, nm_ri, nm_rl, nm_rq, nm_ql, nm_qi, nm_li, nm_us, nm_uu, nm_cp, nm_sa31, nm_sa7, nm_m127, nm_m2, nm_nz, nm_nzk, nm_eq32, nm_nzf, if_true, if_false, ↓reduceIte, if_pos, if_neg]
    by_cases c : sR P 0 k = nI 0
    · have z0 := (b8_n0 z1).mp c
      refine ⟨_, _, ⟨w, b, rfl, rfl, e3, fun j h1 h2 => e4 j (by omega) h2⟩, ?_, ?_⟩
      · show df_X6_load_40 n (g' + 1) (nI p) (nI k) _ = df_X6_load_40 n g' (nI p) (nI (k + 1)) _
        rw [show df_X6_load_40 n (g' + 1) = dF_X6_load_40 n (df_X6_load_40 n g') from rfl]
        generalize df_X6_load_40 n g' = G
        generalize mU M w u g fu = V
        clear e3 e4 hf hz h10 R
        simp (disch := (first | assumption | decide | omega)) only [dF_X6_load_40, df_X6_load_72, h6, k1, c, eq_self, Nat.reduceEqDiff, Nat.reduceLeDiff, nl_0, nl_1, nl_2, nl_255, nl_32768, no_1, no_1024, pk_mul, nI_add, nm_ck, nI_clamp, nI_ltI, nI_leI, nI_eq, nb_b2, nb_b1, ↓nb_let, nm_z0, nm_z1, nb_II, nb_IR, nb_RI, nb_RR, nm_IL, nm_IQ, nm_RL, nm_RQ, nm_LI, nm_LR, nm_LL, nm_LQ, nm_QI, nm_QR, nm_QL, nm_QQ, nm_rr, nm_ii, nm_eqm, not_false_eq_true, pk_sub, nm_div, nm_shl, nm_shr, nm_ush, nm_or8, nm_or64, nm_or256, nm_m1, nm_m3, nm_m7, nm_m15, nm_m31, nm_m63, nm_m255, nm_m511, nm_m1023, nm_m2047, nm_m65535, Nat.reduceMod, Nat.reducePow, Nat.reduceAdd, Nat.reduceSub, Nat.reduceMul, nm_bo, nm_bi, nm_rc, nm_ic, nm_ri, nm_rl, nm_rq, nm_ql, nm_qi, nm_li, nm_us, nm_uu, nm_cp, nm_sa31, nm_sa7, nm_m127, nm_m2, nm_nz, nm_nzk, nm_eq32, nm_nzf, if_true, if_false, ↓reduceIte, if_pos, if_neg]
      · rw [z0, zb_p (e4 k (by omega) hk)] at R
        exact R
    · have pc := nk_cput n (M := M) e3 hp (show k < 65536 by omega) f1 f2 (nI 255) (sR P 0 k)
      have rp := rQ_put e3 (show 64 * p + k / 1024 < 1024 by omega) f1 f2 f3 (show k / 4 % 256 < 256 by omega) (pw (b ((64 * p + k / 1024) * 256 + k / 4 % 256)) (8 * (k % 4)) (nI 255) (sR P 0 k))
      have e5 := pb_is b (p := p) (A := k) (j := 0) (by omega) (sR P 0 k)
      rw [Nat.add_zero, Nat.add_zero, pb_b8 z1] at e5
      rw [← e5] at rp
      generalize upd w (f * 256 + k / 4 % 256) (pw (b ((64 * p + k / 1024) * 256 + k / 4 % 256)) (8 * (k % 4)) (nI 255) (sR P 0 k)) = w2 at pc rp
      refine ⟨_, _, ⟨w2, pb b (65536 * p + k) z, rfl, rfl, rp, fun j h1 h2 => zb_k (e4 j (by omega) h2) (by omega) z⟩, ?_, R⟩
      show df_X6_load_40 n (g' + 1) (nI p) (nI k) _ = df_X6_load_40 n g' (nI p) (nI (k + 1)) _
      rw [show df_X6_load_40 n (g' + 1) = dF_X6_load_40 n (df_X6_load_40 n g') from rfl]
      generalize df_X6_load_40 n g' = G
      generalize mU M w u g fu = V at pc
      generalize mU M w2 u g fu = V2 at pc
      clear e3 e4 hf hz h10 R rp e5
      simp (disch := (first | assumption | decide | omega)) only [dF_X6_load_40, df_X6_load_72, h6, k1, c, pc, eq_self, Nat.reduceEqDiff, Nat.reduceLeDiff, nl_0, nl_1, nl_2, nl_255, nl_32768, no_1, no_1024, pk_mul, nI_add, nm_ck, nI_clamp, nI_ltI, nI_leI, nI_eq, nb_b2, nb_b1, ↓nb_let, nm_z0, nm_z1, nb_II, nb_IR, nb_RI, nb_RR, nm_IL, nm_IQ, nm_RL, nm_RQ, nm_LI, nm_LR, nm_LL, nm_LQ, nm_QI, nm_QR, nm_QL, nm_QQ, nm_rr, nm_ii, nm_eqm, not_false_eq_true, pk_sub, nm_div, nm_shl, nm_shr, nm_ush, nm_or8, nm_or64, nm_or256, nm_m1, nm_m3, nm_m7, nm_m15, nm_m31, nm_m63, nm_m255, nm_m511, nm_m1023, nm_m2047, nm_m65535, Nat.reduceMod, Nat.reducePow, Nat.reduceAdd, Nat.reduceSub, Nat.reduceMul, nm_bo, nm_bi, nm_rc, nm_ic, nm_ri, nm_rl, nm_rq, nm_ql, nm_qi, nm_li, nm_us, nm_uu, nm_cp, nm_sa31, nm_sa7, nm_m127, nm_m2, nm_nz, nm_nzk, nm_eq32, nm_nzf, if_true, if_false, ↓reduceIte, if_pos, if_neg]) _ _ ⟨w, b, rfl, rfl, rq, fun j _ h2 => hz j h2⟩
  subst e1 e2
  exact ⟨m, w', b', e3, r1, r2⟩
