def bw (x : Int32) (s : Nat) : Int32 := ((x.toUInt32 >>> ((nI s).toUInt32 &&& Int32.toUInt32 (nI 31))).toInt32) &&& nI 255
def hw (x : Int32) (s : Nat) : Int32 := ((x.toUInt32 >>> ((nI s).toUInt32 &&& Int32.toUInt32 (nI 31))).toInt32) &&& nI 65535
/-- the word that an address is in -/
def wd4 (X : St × St) (p A : Nat) : Int32 := sR X.1 15 ((64 * p + A / 1024) * 256 + A / 4 % 256)
theorem nk_rd (n : Nat) {M X : St × St} (h : rK M X) {p A f : Nat} (hp : p < 16) (hA : A < 65536) (hf : f < 256) (e : sR X.1 16 (64 * p + A / 1024) = nI f) : df_X6_byteAt n (nI p) (nI A) M = some (bw (wd4 X p A) (8 * (A % 4)), M) ∧ df_X6_halfAt n (nI p) (nI A) M = some (hw (wd4 X p A) (8 * (A / 2 % 2 * 2)), M) ∧ df_X6_wordAt n (nI p) (nI A) M = some (wd4 X p A, M) := by
  rcases h.1 (64 * p + A / 1024) (by omega) with q | ⟨f2, r2, a1, a2, a3, a4, a5, a6, a7⟩
  · rw [q.1] at e
    exact absurd e.symm (nk_ne (by omega))
  · have hx : p * 64 + A / 2 ^ 10 % 64 = 64 * p + A / 1024 := by omega
    have hy : (f2 * 8 + r2) / 2 ^ 3 = f2 := by omega
    have hz : f2 * 256 + A / 2 ^ 2 % 256 = f2 * 256 + A / 4 % 256 := by omega
    have hw1 := a7 (A / 4 % 256) (by omega)
    unfold bw hw wd4
    refine ⟨?_, ?_, ?_⟩
    · simp (disch := omega) only [df_X6_byteAt_0, df_X6_byteAt, hx, a6, hy, hz, hw1, nl_0, nl_2, nl_3, nl_6, nl_8, nl_10, nl_31, nl_63, nl_255, nl_1024, nl_65536, no_1, no_1024, pk_mul, nI_add, nm_ck, nI_clamp, nI_ltI, nI_leI, nI_eq, nb_b2, nb_b1, nb_let, nm_z0, nm_z1, nb_II, nb_IR, nb_RI, nb_RR, nm_IL, nm_IQ, nm_RL, nm_RQ, nm_LI, nm_LR, nm_LL, nm_LQ, nm_QI, nm_QR, nm_QL, nm_QQ, nm_rr, nm_ii, nm_eqm, not_false_eq_true, pk_sub, nm_div, nm_shl, nm_shr, nm_ush, nm_or8, nm_or64, nm_or256, nm_m1, nm_m3, nm_m7, nm_m15, nm_m31, nm_m63, nm_m255, nm_m511, nm_m1023, nm_m2047, nm_m65535, Nat.reduceMod, Nat.reducePow, Nat.reduceAdd, Nat.reduceSub, Nat.reduceMul, nm_bo, nm_bi, nm_rc, nm_ic, nm_ri, nm_rl, nm_rq, nm_ql, nm_qi, nm_li, nm_us, nm_uu, nm_cp, nm_sa31, nm_sa7, nm_m127, nm_m2, nm_nz, nm_nzk, nm_eq32, nm_nzf, if_true, if_false, ↓reduceIte, if_pos, if_neg]
    · simp (disch := omega) only [df_X6_halfAt_0, df_X6_halfAt, hx, a6, hy, hz, hw1, nl_0, nl_2, nl_3, nl_6, nl_8, nl_10, nl_31, nl_63, nl_255, nl_1024, nl_65535, nl_65536, no_1, no_1024, pk_mul, nI_add, nm_ck, nI_clamp, nI_ltI, nI_leI, nI_eq, nb_b2, nb_b1, nb_let, nm_z0, nm_z1, nb_II, nb_IR, nb_RI, nb_RR, nm_IL, nm_IQ, nm_RL, nm_RQ, nm_LI, nm_LR, nm_LL, nm_LQ, nm_QI, nm_QR, nm_QL, nm_QQ, nm_rr, nm_ii, nm_eqm, not_false_eq_true, pk_sub, nm_div, nm_shl, nm_shr, nm_ush, nm_or8, nm_or64, nm_or256, nm_m1, nm_m3, nm_m7, nm_m15, nm_m31, nm_m63, nm_m255, nm_m511, nm_m1023, nm_m2047, nm_m65535, Nat.reduceMod, Nat.reducePow, Nat.reduceAdd, Nat.reduceSub, Nat.reduceMul, nm_bo, nm_bi, nm_rc, nm_ic, nm_ri, nm_rl, nm_rq, nm_ql, nm_qi, nm_li, nm_us, nm_uu, nm_cp, nm_sa31, nm_sa7, nm_m127, nm_m2, nm_nz, nm_nzk, nm_eq32, nm_nzf, if_true, if_false, ↓reduceIte, if_pos, if_neg]
    · simp (disch := omega) only [df_X6_wordAt_0, df_X6_wordAt, hx, a6, hy, hz, hw1, nl_0, nl_2, nl_3, nl_6, nl_8, nl_10, nl_31, nl_63, nl_255, nl_1024, nl_65536, no_1, no_1024, pk_mul, nI_add, nm_ck, nI_clamp, nI_ltI, nI_leI, nI_eq, nb_b2, nb_b1, nb_let, nm_z0, nm_z1, nb_II, nb_IR, nb_RI, nb_RR, nm_IL, nm_IQ, nm_RL, nm_RQ, nm_LI, nm_LR, nm_LL, nm_LQ, nm_QI, nm_QR, nm_QL, nm_QQ, nm_rr, nm_ii, nm_eqm, not_false_eq_true, pk_sub, nm_div, nm_shl, nm_shr, nm_ush, nm_or8, nm_or64, nm_or256, nm_m1, nm_m3, nm_m7, nm_m15, nm_m31, nm_m63, nm_m255, nm_m511, nm_m1023, nm_m2047, nm_m65535, Nat.reduceMod, Nat.reducePow, Nat.reduceAdd, Nat.reduceSub, Nat.reduceMul, nm_bo, nm_bi, nm_rc, nm_ic, nm_ri, nm_rl, nm_rq, nm_ql, nm_qi, nm_li, nm_us, nm_uu, nm_cp, nm_sa31, nm_sa7, nm_m127, nm_m2, nm_nz, nm_nzk, nm_eq32, nm_nzf, if_true, if_false, ↓reduceIte, if_pos, if_neg]
theorem nk_gt (n : Nat) {X : St × St} {p A : Nat} (hp : p < 16) (hA : A < 65536) (h : sI X.1 12 = nI p) : df_X16_byteAt n (nI A) X = some (bw (wd4 X p A) (8 * (A % 4)), X) := by
  have hx : (65536 * p + A) / 2 ^ 2 = (64 * p + A / 1024) * 256 + A / 4 % 256 := by omega
  have hy : (65536 * p + A) % 4 = A % 4 := by omega
  unfold bw wd4
  simp (disch := omega) only [df_X16_byteAt_0, df_X16_byteAt, df_X16_get_0, df_X16_get, h, hx, hy, nl_2, nl_3, nl_8, nl_12, nl_15, nl_31, nl_255, nl_65536, nl_262144, no_1, no_1024, pk_mul, nI_add, nm_ck, nI_clamp, nI_ltI, nI_leI, nI_eq, nb_b2, nb_b1, nb_let, nm_z0, nm_z1, nb_II, nb_IR, nb_RI, nb_RR, nm_IL, nm_IQ, nm_RL, nm_RQ, nm_LI, nm_LR, nm_LL, nm_LQ, nm_QI, nm_QR, nm_QL, nm_QQ, nm_rr, nm_ii, nm_eqm, not_false_eq_true, pk_sub, nm_div, nm_shl, nm_shr, nm_ush, nm_or8, nm_or64, nm_or256, nm_m1, nm_m3, nm_m7, nm_m15, nm_m31, nm_m63, nm_m255, nm_m511, nm_m1023, nm_m2047, nm_m65535, Nat.reduceMod, Nat.reducePow, Nat.reduceAdd, Nat.reduceSub, Nat.reduceMul, nm_bo, nm_bi, nm_rc, nm_ic, nm_ri, nm_rl, nm_rq, nm_ql, nm_qi, nm_li, nm_us, nm_uu, nm_cp, nm_sa31, nm_sa7, nm_m127, nm_m2, nm_nz, nm_nzk, nm_eq32, nm_nzf, if_true, if_false, ↓reduceIte, if_pos, if_neg]
theorem wd_n {X : St × St} {p A : Nat} (k : Nat) (h : A % 4 + k < 4) : wd4 X p (A + k) = wd4 X p A := by
  unfold wd4
  rw [show (64 * p + (A + k) / 1024) * 256 + (A + k) / 4 % 256 = (64 * p + A / 1024) * 256 + A / 4 % 256 from by omega]
theorem gb_i8 (a : Int32) {i : Nat} (hi : i < 32) : gb a.toInt8.toInt32 i = if i < 8 then gb a i else gb a 7 := by
  unfold gb
  rw [Int8.toBitVec_toInt32, Int32.toBitVec_toInt8, BitVec.getLsbD_signExtend, decide_eq_true hi, Bool.true_and]
  by_cases c : i < 8
  · rw [if_pos c, if_pos c, BitVec.getLsbD_signExtend, decide_eq_true c, Bool.true_and, if_pos hi]
  · rw [if_neg c, if_neg c, BitVec.msb_eq_getLsbD_last, BitVec.getLsbD_signExtend]
    rfl
theorem gb_i16 (a : Int32) {i : Nat} (hi : i < 32) : gb a.toInt16.toInt32 i = if i < 16 then gb a i else gb a 15 := by
  unfold gb
  rw [Int16.toBitVec_toInt32, Int32.toBitVec_toInt16, BitVec.getLsbD_signExtend, decide_eq_true hi, Bool.true_and]
  by_cases c : i < 16
  · rw [if_pos c, if_pos c, BitVec.getLsbD_signExtend, decide_eq_true c, Bool.true_and, if_pos hi]
  · rw [if_neg c, if_neg c, BitVec.msb_eq_getLsbD_last, BitVec.getLsbD_signExtend]
    rfl
theorem lb_0 (y : Int32) : nI 0 ||| (y <<< nI 0) = y := by (apply gb_ext; apply all32; simp (disch := decide) only [gb_or, gb_and, gb_xor, gb_shl, gb_shr, gb_ush, gb_n, gb_m, gb_hi, Nat.reduceAdd, Nat.reduceSub, Nat.reduceLT, Nat.reduceLeDiff, Nat.testBit, Nat.reduceShiftRight, Nat.reduceBNe, Nat.reduceAnd, Nat.one_and_eq_mod_two, Nat.reduceMod, decide_true, decide_false, Bool.and_true, Bool.true_and, Bool.and_false, Bool.false_and, Bool.or_false, Bool.false_or, Bool.or_true, Bool.true_or, Bool.not_true, Bool.not_false, Bool.xor_true, Bool.xor_false, Bool.true_xor, Bool.false_xor, if_true, if_false, ↓reduceIte, and_self, bne_self_eq_false, Bool.or_self, Bool.and_self, Bool.not_not])
theorem lb_8 (y : Int32) : (y <<< nI 24) >>> nI 24 = y.toInt8.toInt32 := by
  apply gb_ext
  intro i hi
  rw [gb_shr (by decide) hi, gb_i8 y hi]
  by_cases c : i < 8
  · rw [if_pos (by omega), if_pos c, gb_shl (by decide), decide_eq_true (by omega), decide_eq_false (by omega), show 24 + i - 24 = i from by omega]
    rfl
  · rw [if_neg (by omega), if_neg c, gb_shl (by decide)]
    rfl
theorem lb_16 (y : Int32) : (y <<< nI 16) >>> nI 16 = y.toInt16.toInt32 := by
  apply gb_ext
  intro i hi
  rw [gb_shr (by decide) hi, gb_i16 y hi]
  by_cases c : i < 16
  · rw [if_pos (by omega), if_pos c, gb_shl (by decide), decide_eq_true (by omega), decide_eq_false (by omega), show 16 + i - 16 = i from by omega]
    rfl
  · rw [if_neg (by omega), if_neg c, gb_shl (by decide)]
    rfl
theorem lb_h0 (x : Int32) : bw x 0 ||| (bw x 8 <<< nI 8) = hw x 0 := by
  unfold bw hw
  (apply gb_ext; apply all32; simp (disch := decide) only [gb_or, gb_and, gb_xor, gb_shl, gb_shr, gb_ush, gb_n, gb_m, gb_hi, Nat.reduceAdd, Nat.reduceSub, Nat.reduceLT, Nat.reduceLeDiff, Nat.testBit, Nat.reduceShiftRight, Nat.reduceBNe, Nat.reduceAnd, Nat.one_and_eq_mod_two, Nat.reduceMod, decide_true, decide_false, Bool.and_true, Bool.true_and, Bool.and_false, Bool.false_and, Bool.or_false, Bool.false_or, Bool.or_true, Bool.true_or, Bool.not_true, Bool.not_false, Bool.xor_true, Bool.xor_false, Bool.true_xor, Bool.false_xor, if_true, if_false, ↓reduceIte, and_self, bne_self_eq_false, Bool.or_self, Bool.and_self, Bool.not_not])
theorem lb_h2 (x : Int32) : bw x 16 ||| (bw x 24 <<< nI 8) = hw x 16 := by
  unfold bw hw
  (apply gb_ext; apply all32; simp (disch := decide) only [gb_or, gb_and, gb_xor, gb_shl, gb_shr, gb_ush, gb_n, gb_m, gb_hi, Nat.reduceAdd, Nat.reduceSub, Nat.reduceLT, Nat.reduceLeDiff, Nat.testBit, Nat.reduceShiftRight, Nat.reduceBNe, Nat.reduceAnd, Nat.one_and_eq_mod_two, Nat.reduceMod, decide_true, decide_false, Bool.and_true, Bool.true_and, Bool.and_false, Bool.false_and, Bool.or_false, Bool.false_or, Bool.or_true, Bool.true_or, Bool.not_true, Bool.not_false, Bool.xor_true, Bool.xor_false, Bool.true_xor, Bool.false_xor, if_true, if_false, ↓reduceIte, and_self, bne_self_eq_false, Bool.or_self, Bool.and_self, Bool.not_not])
theorem lb_w (x : Int32) : hw x 0 ||| (hw x 16 <<< nI 16) = x := by
  unfold hw
  (apply gb_ext; apply all32; simp (disch := decide) only [gb_or, gb_and, gb_xor, gb_shl, gb_shr, gb_ush, gb_n, gb_m, gb_hi, Nat.reduceAdd, Nat.reduceSub, Nat.reduceLT, Nat.reduceLeDiff, Nat.testBit, Nat.reduceShiftRight, Nat.reduceBNe, Nat.reduceAnd, Nat.one_and_eq_mod_two, Nat.reduceMod, decide_true, decide_false, Bool.and_true, Bool.true_and, Bool.and_false, Bool.false_and, Bool.or_false, Bool.false_or, Bool.or_true, Bool.true_or, Bool.not_true, Bool.not_false, Bool.xor_true, Bool.xor_false, Bool.true_xor, Bool.false_xor, if_true, if_false, ↓reduceIte, and_self, bne_self_eq_false, Bool.or_self, Bool.and_self, Bool.not_not])
theorem lb_w4 (x : Int32) : ((bw x 0 ||| (bw x 8 <<< nI 8)) ||| (bw x 16 <<< nI 16)) ||| (bw x 24 <<< nI 24) = x := by
  unfold bw
  (apply gb_ext; apply all32; simp (disch := decide) only [gb_or, gb_and, gb_xor, gb_shl, gb_shr, gb_ush, gb_n, gb_m, gb_hi, Nat.reduceAdd, Nat.reduceSub, Nat.reduceLT, Nat.reduceLeDiff, Nat.testBit, Nat.reduceShiftRight, Nat.reduceBNe, Nat.reduceAnd, Nat.one_and_eq_mod_two, Nat.reduceMod, decide_true, decide_false, Bool.and_true, Bool.true_and, Bool.and_false, Bool.false_and, Bool.or_false, Bool.false_or, Bool.or_true, Bool.true_or, Bool.not_true, Bool.not_false, Bool.xor_true, Bool.xor_false, Bool.true_xor, Bool.false_xor, if_true, if_false, ↓reduceIte, and_self, bne_self_eq_false, Bool.or_self, Bool.and_self, Bool.not_not])
theorem lb_h {x : Int32} {A : Nat} (h : A % 2 = 0) : bw x (8 * (A % 4)) ||| (bw x (8 * ((A + 1) % 4)) <<< nI 8) = hw x (8 * (A / 2 % 2 * 2)) := by
  by_cases c : A % 4 = 0
  · rw [c, show (A + 1) % 4 = 1 from by omega, show A / 2 % 2 = 0 from by omega]
    exact lb_h0 x
  · rw [show A % 4 = 2 from by omega, show (A + 1) % 4 = 3 from by omega, show A / 2 % 2 = 1 from by omega]
    exact lb_h2 x
/-- a half, a word of the reference -/
theorem nk_half (n : Nat) {X : St × St} {p A : Nat} (hp : p < 16) (hA : A < 65536) (h : sI X.1 12 = nI p) (e : A % 2 = 0) : df_X16_half n (nI A) X = some (hw (wd4 X p A) (8 * (A / 2 % 2 * 2)), X) := by
  have g0 := nk_gt n hp hA h
  have g1 := nk_gt n (A := A + 1) hp (by omega) h
  rw [wd_n 1 (by omega)] at g1
  simp (disch := omega) only [df_X16_half_0, df_X16_half, g0, g1, lb_h e, nl_1, nl_8, nl_31, no_1, no_1024, pk_mul, nI_add, nm_ck, nI_clamp, nI_ltI, nI_leI, nI_eq, nb_b2, nb_b1, nb_let, nm_z0, nm_z1, nb_II, nb_IR, nb_RI, nb_RR, nm_IL, nm_IQ, nm_RL, nm_RQ, nm_LI, nm_LR, nm_LL, nm_LQ, nm_QI, nm_QR, nm_QL, nm_QQ, nm_rr, nm_ii, nm_eqm, not_false_eq_true, pk_sub, nm_div, nm_shl, nm_shr, nm_ush, nm_or8, nm_or64, nm_or256, nm_m1, nm_m3, nm_m7, nm_m15, nm_m31, nm_m63, nm_m255, nm_m511, nm_m1023, nm_m2047, nm_m65535, Nat.reduceMod, Nat.reducePow, Nat.reduceAdd, Nat.reduceSub, Nat.reduceMul, nm_bo, nm_bi, nm_rc, nm_ic, nm_ri, nm_rl, nm_rq, nm_ql, nm_qi, nm_li, nm_us, nm_uu, nm_cp, nm_sa31, nm_sa7, nm_m127, nm_m2, nm_nz, nm_nzk, nm_eq32, nm_nzf, if_true, if_false, ↓reduceIte, if_pos, if_neg]
theorem nk_word (n : Nat) {X : St × St} {p A : Nat} (hp : p < 16) (hA : A < 65536) (h : sI X.1 12 = nI p) (e : A % 4 = 0) : df_X16_word n (nI A) X = some (wd4 X p A, X) := by
  have g0 := nk_half n hp hA h (show A % 2 = 0 by omega)
  have g1 := nk_half n (A := A + 2) hp (by omega) h (show (A + 2) % 2 = 0 by omega)
  rw [wd_n 2 (by omega), show (A + 2) / 2 % 2 * 2 = 2 from by omega] at g1
  rw [show A / 2 % 2 * 2 = 0 from by omega] at g0
  simp (disch := omega) only [df_X16_word_0, df_X16_word, g0, g1, lb_w, nl_2, nl_16, nl_31, no_1, no_1024, pk_mul, nI_add, nm_ck, nI_clamp, nI_ltI, nI_leI, nI_eq, nb_b2, nb_b1, nb_let, nm_z0, nm_z1, nb_II, nb_IR, nb_RI, nb_RR, nm_IL, nm_IQ, nm_RL, nm_RQ, nm_LI, nm_LR, nm_LL, nm_LQ, nm_QI, nm_QR, nm_QL, nm_QQ, nm_rr, nm_ii, nm_eqm, not_false_eq_true, pk_sub, nm_div, nm_shl, nm_shr, nm_ush, nm_or8, nm_or64, nm_or256, nm_m1, nm_m3, nm_m7, nm_m15, nm_m31, nm_m63, nm_m255, nm_m511, nm_m1023, nm_m2047, nm_m65535, Nat.reduceMod, Nat.reducePow, Nat.reduceAdd, Nat.reduceSub, Nat.reduceMul, nm_bo, nm_bi, nm_rc, nm_ic, nm_ri, nm_rl, nm_rq, nm_ql, nm_qi, nm_li, nm_us, nm_uu, nm_cp, nm_sa31, nm_sa7, nm_m127, nm_m2, nm_nz, nm_nzk, nm_eq32, nm_nzf, if_true, if_false, ↓reduceIte, if_pos, if_neg]
