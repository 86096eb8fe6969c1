theorem nI_ex (x : Int32) : ∃ A : Nat, A < 2 ^ 32 ∧ x = nI A := ⟨x.toBitVec.toNat, x.toBitVec.isLt, by
  apply Int32.toBitVec_inj.mp
  apply BitVec.eq_of_toNat_eq
  rw [pk_tn x.toBitVec.isLt]⟩
theorem nm_neg {A : Nat} (h : 2 ^ 31 ≤ A) (h2 : A < 2 ^ 32) : nI A < nI 0 := by
  rw [Int32.lt_iff_toInt_lt]
  show (nI A).toBitVec.toInt < (nI 0).toBitVec.toInt
  rw [BitVec.toInt_eq_toNat_cond, BitVec.toInt_eq_toNat_cond, pk_tn h2, pk_tn (by omega)]
  split <;> split <;> omega
theorem nm_and {a b : Nat} (ha : a < 2 ^ 32) (hb : b < 2 ^ 32) : nI a &&& nI b = nI (a &&& b) := by
  apply Int32.toBitVec_inj.mp
  apply BitVec.eq_of_toNat_eq
  rw [Int32.toBitVec_and, BitVec.toNat_and, pk_tn ha, pk_tn hb, pk_tn (Nat.lt_of_le_of_lt Nat.and_le_left ha)]
theorem nm_land8 {f r q : Nat} (hr : r < 8) (hq : q < 8) : (f * 8 + r) &&& q = r &&& q := by
  apply Nat.eq_of_testBit_eq
  intro i
  rw [Nat.testBit_and, Nat.testBit_and]
  by_cases c : i < 3
  · rw [show f * 8 + r = 2 ^ 3 * f + r from by omega, Nat.testBit_two_pow_mul_add f (by omega), if_pos c]
  · rw [Nat.testBit_lt_two_pow (x := q) (Nat.lt_of_lt_of_le hq (show 2 ^ 3 ≤ 2 ^ i from Nat.pow_le_pow_right (by omega) (by omega))), Bool.and_false, Bool.and_false]
def bI (c : Bool) : Int32 := nI c.toNat
theorem bI_t : bI true = nI 1 := rfl
theorem bI_f : bI false = nI 0 := rfl
def mb (fr ri : Nat → Int32) (i q : Nat) : Bool := decide (¬ fr i = -nI 1) && decide (¬ (ri i).toNatClampNeg &&& q = 0)
def ma (X : St × St) (p A q : Nat) : Bool := decide (A < 65536) && mb (sR X.1 16) (sR X.1 17) (64 * p + A / 1024) q
theorem nk_may (n : Nat) {M X : St × St} (h : rK M X) {p A q : Nat} (hp : p < 16) (hA : A < 2 ^ 32) (hq : q < 8) : df_X6_may n (nI p) (nI A) (nI q) M = some (bI (ma X p A q), M) ∧ df_X16_may n (nI p) (nI A) (nI q) X = some (bI (ma X p A q), X) := by
  unfold ma mb
  by_cases c : A < 65536
  · rw [decide_eq_true c, Bool.true_and]
    have hx : p * 64 + A / 2 ^ 10 = 64 * p + A / 1024 := by omega
    rcases h.1 (64 * p + A / 1024) (by omega) with ⟨h1, h2⟩ | ⟨f, r, a1, a2, a3, a4, a5, a6, a7⟩
    · rw [h1, decide_eq_false (fun z => z rfl), Bool.false_and]
      constructor
      · have h0 : nI 0 &&& nI q = nI 0 := by rw [nm_and (by omega) (by omega), Nat.zero_and]
        simp (disch := omega) only [df_X6_may_31, df_X6_may_30, df_X6_may_0, df_X6_may, hx, h2, h0, bI_f, nl_0, nl_1, nl_2, nl_6, nl_10, nl_16, nl_31, nl_1024, no_1, no_1024, pk_mul, nI_add, nm_ck, nI_clamp, nI_ltI, nI_leI, nI_eq, nb_b2, nb_b1, nb_let, nm_z0, nm_z1, nb_II, nb_IR, nb_RI, nb_RR, nm_IL, nm_IQ, nm_RL, nm_RQ, nm_LI, nm_LR, nm_LL, nm_LQ, nm_QI, nm_QR, nm_QL, nm_QQ, nm_rr, nm_ii, nm_eqm, not_false_eq_true, pk_sub, nm_div, nm_shl, nm_shr, nm_ush, nm_or8, nm_or64, nm_or256, nm_m1, nm_m3, nm_m7, nm_m15, nm_m31, nm_m63, nm_m255, nm_m511, nm_m1023, nm_m2047, nm_m65535, Nat.reduceMod, Nat.reducePow, Nat.reduceAdd, Nat.reduceSub, Nat.reduceMul, nm_bo, nm_bi, nm_rc, nm_ic, nm_ri, nm_rl, nm_rq, nm_ql, nm_qi, nm_li, nm_us, nm_uu, nm_cp, nm_sa31, nm_sa7, nm_m127, nm_m2, nm_nz, nm_nzk, nm_eq32, nm_nzf, if_true, if_false, ↓reduceIte, if_pos, if_neg]
      · simp (disch := omega) only [df_X16_may_34, df_X16_may_33, df_X16_may_0, df_X16_may, df_X16_isThere_34, df_X16_isThere_33, df_X16_isThere_0, df_X16_isThere, h1, bI_f, nl_0, nl_1, nl_16, nl_17, nl_64, nl_1024, nl_65536, no_1, no_1024, pk_mul, nI_add, nm_ck, nI_clamp, nI_ltI, nI_leI, nI_eq, nb_b2, nb_b1, nb_let, nm_z0, nm_z1, nb_II, nb_IR, nb_RI, nb_RR, nm_IL, nm_IQ, nm_RL, nm_RQ, nm_LI, nm_LR, nm_LL, nm_LQ, nm_QI, nm_QR, nm_QL, nm_QQ, nm_rr, nm_ii, nm_eqm, not_false_eq_true, pk_sub, nm_div, nm_shl, nm_shr, nm_ush, nm_or8, nm_or64, nm_or256, nm_m1, nm_m3, nm_m7, nm_m15, nm_m31, nm_m63, nm_m255, nm_m511, nm_m1023, nm_m2047, nm_m65535, Nat.reduceMod, Nat.reducePow, Nat.reduceAdd, Nat.reduceSub, Nat.reduceMul, nm_bo, nm_bi, nm_rc, nm_ic, nm_ri, nm_rl, nm_rq, nm_ql, nm_qi, nm_li, nm_us, nm_uu, nm_cp, nm_sa31, nm_sa7, nm_m127, nm_m2, nm_nz, nm_nzk, nm_eq32, nm_nzf, if_true, if_false, ↓reduceIte, if_pos, if_neg]
    · rw [a4, decide_eq_true (nk_ne (by omega)), Bool.true_and, a5, nI_clamp (by omega)]
      have hg : nI (f * 8 + r) &&& nI q = nI (r &&& q) := by rw [nm_and (by omega) (by omega), nm_land8 a3 hq]
      have hr : nI r &&& nI q = nI (r &&& q) := nm_and (by omega) (by omega)
      have hl : r &&& q < 8 := Nat.lt_of_le_of_lt Nat.and_le_left a3
      generalize r &&& q = z at hg hr hl ⊢
      by_cases cz : z = 0
      · rw [decide_eq_false (fun y => y cz)]
        constructor
        · simp (disch := omega) only [df_X6_may_31, df_X6_may_30, df_X6_may_0, df_X6_may, hx, a6, hg, bI_f, nl_0, nl_1, nl_2, nl_6, nl_10, nl_16, nl_31, nl_1024, no_1, no_1024, pk_mul, nI_add, nm_ck, nI_clamp, nI_ltI, nI_leI, nI_eq, nb_b2, nb_b1, nb_let, nm_z0, nm_z1, nb_II, nb_IR, nb_RI, nb_RR, nm_IL, nm_IQ, nm_RL, nm_RQ, nm_LI, nm_LR, nm_LL, nm_LQ, nm_QI, nm_QR, nm_QL, nm_QQ, nm_rr, nm_ii, nm_eqm, not_false_eq_true, pk_sub, nm_div, nm_shl, nm_shr, nm_ush, nm_or8, nm_or64, nm_or256, nm_m1, nm_m3, nm_m7, nm_m15, nm_m31, nm_m63, nm_m255, nm_m511, nm_m1023, nm_m2047, nm_m65535, Nat.reduceMod, Nat.reducePow, Nat.reduceAdd, Nat.reduceSub, Nat.reduceMul, nm_bo, nm_bi, nm_rc, nm_ic, nm_ri, nm_rl, nm_rq, nm_ql, nm_qi, nm_li, nm_us, nm_uu, nm_cp, nm_sa31, nm_sa7, nm_m127, nm_m2, nm_nz, nm_nzk, nm_eq32, nm_nzf, if_true, if_false, ↓reduceIte, if_pos, if_neg]
        · simp (disch := omega) only [df_X16_may_34, df_X16_may_33, df_X16_may_0, df_X16_may, df_X16_isThere_34, df_X16_isThere_33, df_X16_isThere_0, df_X16_isThere, a4, a5, hr, bI_f, nl_0, nl_1, nl_16, nl_17, nl_64, nl_1024, nl_65536, no_1, no_1024, pk_mul, nI_add, nm_ck, nI_clamp, nI_ltI, nI_leI, nI_eq, nb_b2, nb_b1, nb_let, nm_z0, nm_z1, nb_II, nb_IR, nb_RI, nb_RR, nm_IL, nm_IQ, nm_RL, nm_RQ, nm_LI, nm_LR, nm_LL, nm_LQ, nm_QI, nm_QR, nm_QL, nm_QQ, nm_rr, nm_ii, nm_eqm, not_false_eq_true, pk_sub, nm_div, nm_shl, nm_shr, nm_ush, nm_or8, nm_or64, nm_or256, nm_m1, nm_m3, nm_m7, nm_m15, nm_m31, nm_m63, nm_m255, nm_m511, nm_m1023, nm_m2047, nm_m65535, Nat.reduceMod, Nat.reducePow, Nat.reduceAdd, Nat.reduceSub, Nat.reduceMul, nm_bo, nm_bi, nm_rc, nm_ic, nm_ri, nm_rl, nm_rq, nm_ql, nm_qi, nm_li, nm_us, nm_uu, nm_cp, nm_sa31, nm_sa7, nm_m127, nm_m2, nm_nz, nm_nzk, nm_eq32, nm_nzf, if_true, if_false, ↓reduceIte, if_pos, if_neg]
      · rw [decide_eq_true cz]
        constructor
        · simp (disch := omega) only [df_X6_may_31, df_X6_may_30, df_X6_may_0, df_X6_may, hx, a6, hg, bI_t, nl_0, nl_1, nl_2, nl_6, nl_10, nl_16, nl_31, nl_1024, no_1, no_1024, pk_mul, nI_add, nm_ck, nI_clamp, nI_ltI, nI_leI, nI_eq, nb_b2, nb_b1, nb_let, nm_z0, nm_z1, nb_II, nb_IR, nb_RI, nb_RR, nm_IL, nm_IQ, nm_RL, nm_RQ, nm_LI, nm_LR, nm_LL, nm_LQ, nm_QI, nm_QR, nm_QL, nm_QQ, nm_rr, nm_ii, nm_eqm, not_false_eq_true, pk_sub, nm_div, nm_shl, nm_shr, nm_ush, nm_or8, nm_or64, nm_or256, nm_m1, nm_m3, nm_m7, nm_m15, nm_m31, nm_m63, nm_m255, nm_m511, nm_m1023, nm_m2047, nm_m65535, Nat.reduceMod, Nat.reducePow, Nat.reduceAdd, Nat.reduceSub, Nat.reduceMul, nm_bo, nm_bi, nm_rc, nm_ic, nm_ri, nm_rl, nm_rq, nm_ql, nm_qi, nm_li, nm_us, nm_uu, nm_cp, nm_sa31, nm_sa7, nm_m127, nm_m2, nm_nz, nm_nzk, nm_eq32, nm_nzf, if_true, if_false, ↓reduceIte, if_pos, if_neg]
        · simp (disch := omega) only [df_X16_may_34, df_X16_may_33, df_X16_may_0, df_X16_may, df_X16_isThere_34, df_X16_isThere_33, df_X16_isThere_0, df_X16_isThere, a4, a5, hr, bI_t, nl_0, nl_1, nl_16, nl_17, nl_64, nl_1024, nl_65536, no_1, no_1024, pk_mul, nI_add, nm_ck, nI_clamp, nI_ltI, nI_leI, nI_eq, nb_b2, nb_b1, nb_let, nm_z0, nm_z1, nb_II, nb_IR, nb_RI, nb_RR, nm_IL, nm_IQ, nm_RL, nm_RQ, nm_LI, nm_LR, nm_LL, nm_LQ, nm_QI, nm_QR, nm_QL, nm_QQ, nm_rr, nm_ii, nm_eqm, not_false_eq_true, pk_sub, nm_div, nm_shl, nm_shr, nm_ush, nm_or8, nm_or64, nm_or256, nm_m1, nm_m3, nm_m7, nm_m15, nm_m31, nm_m63, nm_m255, nm_m511, nm_m1023, nm_m2047, nm_m65535, Nat.reduceMod, Nat.reducePow, Nat.reduceAdd, Nat.reduceSub, Nat.reduceMul, nm_bo, nm_bi, nm_rc, nm_ic, nm_ri, nm_rl, nm_rq, nm_ql, nm_qi, nm_li, nm_us, nm_uu, nm_cp, nm_sa31, nm_sa7, nm_m127, nm_m2, nm_nz, nm_nzk, nm_eq32, nm_nzf, if_true, if_false, ↓reduceIte, if_pos, if_neg]
  · rw [decide_eq_false c, Bool.false_and]
    constructor
    · simp (disch := omega) only [df_X6_may_31, df_X6_may_30, df_X6_may_0, df_X6_may, bI_f, nl_0, nl_1, nl_2, nl_6, nl_10, nl_16, nl_31, nl_1024, no_1, no_1024, pk_mul, nI_add, nm_ck, nI_clamp, nI_ltI, nI_leI, nI_eq, nb_b2, nb_b1, nb_let, nm_z0, nm_z1, nb_II, nb_IR, nb_RI, nb_RR, nm_IL, nm_IQ, nm_RL, nm_RQ, nm_LI, nm_LR, nm_LL, nm_LQ, nm_QI, nm_QR, nm_QL, nm_QQ, nm_rr, nm_ii, nm_eqm, not_false_eq_true, pk_sub, nm_div, nm_shl, nm_shr, nm_ush, nm_or8, nm_or64, nm_or256, nm_m1, nm_m3, nm_m7, nm_m15, nm_m31, nm_m63, nm_m255, nm_m511, nm_m1023, nm_m2047, nm_m65535, Nat.reduceMod, Nat.reducePow, Nat.reduceAdd, Nat.reduceSub, Nat.reduceMul, nm_bo, nm_bi, nm_rc, nm_ic, nm_ri, nm_rl, nm_rq, nm_ql, nm_qi, nm_li, nm_us, nm_uu, nm_cp, nm_sa31, nm_sa7, nm_m127, nm_m2, nm_nz, nm_nzk, nm_eq32, nm_nzf, if_true, if_false, ↓reduceIte, if_pos, if_neg]
    · by_cases d : A < 2 ^ 31
      · simp (disch := omega) only [df_X16_may_34, df_X16_may_33, df_X16_may_0, df_X16_may, df_X16_isThere_34, df_X16_isThere_33, df_X16_isThere_0, df_X16_isThere, bI_f, nl_0, nl_1, nl_16, nl_17, nl_64, nl_1024, nl_65536, no_1, no_1024, pk_mul, nI_add, nm_ck, nI_clamp, nI_ltI, nI_leI, nI_eq, nb_b2, nb_b1, nb_let, nm_z0, nm_z1, nb_II, nb_IR, nb_RI, nb_RR, nm_IL, nm_IQ, nm_RL, nm_RQ, nm_LI, nm_LR, nm_LL, nm_LQ, nm_QI, nm_QR, nm_QL, nm_QQ, nm_rr, nm_ii, nm_eqm, not_false_eq_true, pk_sub, nm_div, nm_shl, nm_shr, nm_ush, nm_or8, nm_or64, nm_or256, nm_m1, nm_m3, nm_m7, nm_m15, nm_m31, nm_m63, nm_m255, nm_m511, nm_m1023, nm_m2047, nm_m65535, Nat.reduceMod, Nat.reducePow, Nat.reduceAdd, Nat.reduceSub, Nat.reduceMul, nm_bo, nm_bi, nm_rc, nm_ic, nm_ri, nm_rl, nm_rq, nm_ql, nm_qi, nm_li, nm_us, nm_uu, nm_cp, nm_sa31, nm_sa7, nm_m127, nm_m2, nm_nz, nm_nzk, nm_eq32, nm_nzf, if_true, if_false, ↓reduceIte, if_pos, if_neg]
      · have hneg := nm_neg (A := A) (by omega) hA
        simp (disch := omega) only [df_X16_may_34, df_X16_may_33, df_X16_may_0, df_X16_may, df_X16_isThere_34, df_X16_isThere_33, df_X16_isThere_0, df_X16_isThere, hneg, bI_f, nl_0, nl_1, nl_16, nl_17, nl_64, nl_1024, nl_65536, no_1, no_1024, pk_mul, nI_add, nm_ck, nI_clamp, nI_ltI, nI_leI, nI_eq, nb_b2, nb_b1, nb_let, nm_z0, nm_z1, nb_II, nb_IR, nb_RI, nb_RR, nm_IL, nm_IQ, nm_RL, nm_RQ, nm_LI, nm_LR, nm_LL, nm_LQ, nm_QI, nm_QR, nm_QL, nm_QQ, nm_rr, nm_ii, nm_eqm, not_false_eq_true, pk_sub, nm_div, nm_shl, nm_shr, nm_ush, nm_or8, nm_or64, nm_or256, nm_m1, nm_m3, nm_m7, nm_m15, nm_m31, nm_m63, nm_m255, nm_m511, nm_m1023, nm_m2047, nm_m65535, Nat.reduceMod, Nat.reducePow, Nat.reduceAdd, Nat.reduceSub, Nat.reduceMul, nm_bo, nm_bi, nm_rc, nm_ic, nm_ri, nm_rl, nm_rq, nm_ql, nm_qi, nm_li, nm_us, nm_uu, nm_cp, nm_sa31, nm_sa7, nm_m127, nm_m2, nm_nz, nm_nzk, nm_eq32, nm_nzf, if_true, if_false, ↓reduceIte, if_pos, if_neg]
theorem ma_ex {M X : St × St} (h : rK M X) {p A q : Nat} (hp : p < 16) (c : ma X p A q = true) : A < 65536 ∧ ∃ f : Nat, f < 256 ∧ sR X.1 16 (64 * p + A / 1024) = nI f := by
  unfold ma mb at c
  by_cases hA : A < 65536
  · refine ⟨hA, ?_⟩
    rcases h.1 (64 * p + A / 1024) (by omega) with ⟨h1, h2⟩ | ⟨f, r, a1, a2, a3, a4, a5, a6, a7⟩
    · rw [h1, decide_eq_false (show ¬ ¬ (-nI 1 : Int32) = -nI 1 from fun z => z rfl), Bool.false_and, Bool.and_false] at c
      exact nomatch c
    · exact ⟨f, a1, a4⟩
  · rw [decide_eq_false hA, Bool.false_and] at c
    exact nomatch c
def mA (X : St × St) (p A m q : Nat) : Bool := decide (∀ j : Nat, j < m → ma X p (A + j) q = true)
theorem mA_is (X : St × St) {p A m q : Nat} (hm : 1 ≤ m) (h2 : m ≤ 1024) : mA X p A m q = (ma X p A q && ma X p (A + m - 1) q) := by
  unfold mA
  cases c1 : ma X p A q with
  | false => exact decide_eq_false (fun z => by have := z 0 (by omega); rw [Nat.add_zero, c1] at this; exact nomatch this)
  | true =>
    rw [Bool.true_and]
    cases c2 : ma X p (A + m - 1) q with
    | false => exact decide_eq_false (fun z => by have := z (m - 1) (by omega); rw [show A + (m - 1) = A + m - 1 from by omega, c2] at this; exact nomatch this)
    | true =>
      refine decide_eq_true (fun j hj => ?_)
      unfold ma at c1 c2 ⊢
      by_cases l1 : A < 65536
      · by_cases l2 : A + m - 1 < 65536
        · rw [decide_eq_true l1, Bool.true_and] at c1
          rw [decide_eq_true l2, Bool.true_and] at c2
          rw [decide_eq_true (show A + j < 65536 by omega), Bool.true_and]
          by_cases d : (A + j) / 1024 = A / 1024
          · rw [d]; exact c1
          · rw [show (A + j) / 1024 = (A + m - 1) / 1024 from by omega]; exact c2
        · rw [decide_eq_false l2, Bool.false_and] at c2
          exact nomatch c2
      · rw [decide_eq_false l1, Bool.false_and] at c1
        exact nomatch c1
theorem nk_mayAll (n : Nat) (hn : 1024 < n) {M X : St × St} (h : rK M X) {p A m q : Nat} (hp : p < 16) (hA : A < 2 ^ 32) (hq : q < 8) (hm : m ≤ 1024) : df_X6_mayAll n (nI p) (nI A) (nI m) (nI q) M = some (bI (mA X p A m q), M) ∧ df_X16_mayAll n (nI p) (nI A) (nI m) (nI q) X = some (bI (mA X p A m q), X) := by
  have m1 := nk_may n h hp hA hq
  constructor
  · by_cases c : m = 0
    · subst c
      rw [show mA X p A 0 q = true from decide_eq_true (fun j hj => absurd hj (by omega))]
      simp (disch := omega) only [df_X6_mayAll_35, df_X6_mayAll_30, df_X6_mayAll_34, df_X6_mayAll_0, df_X6_mayAll, bI_t, nl_0, nl_1, no_1, no_1024, pk_mul, nI_add, nm_ck, nI_clamp, nI_ltI, nI_leI, nI_eq, nb_b2, nb_b1, nb_let, nm_z0, nm_z1, nb_II, nb_IR, nb_RI, nb_RR, nm_IL, nm_IQ, nm_RL, nm_RQ, nm_LI, nm_LR, nm_LL, nm_LQ, nm_QI, nm_QR, nm_QL, nm_QQ, nm_rr, nm_ii, nm_eqm, not_false_eq_true, pk_sub, nm_div, nm_shl, nm_shr, nm_ush, nm_or8, nm_or64, nm_or256, nm_m1, nm_m3, nm_m7, nm_m15, nm_m31, nm_m63, nm_m255, nm_m511, nm_m1023, nm_m2047, nm_m65535, Nat.reduceMod, Nat.reducePow, Nat.reduceAdd, Nat.reduceSub, Nat.reduceMul, nm_bo, nm_bi, nm_rc, nm_ic, nm_ri, nm_rl, nm_rq, nm_ql, nm_qi, nm_li, nm_us, nm_uu, nm_cp, nm_sa31, nm_sa7, nm_m127, nm_m2, nm_nz, nm_nzk, nm_eq32, nm_nzf, if_true, if_false, ↓reduceIte, if_pos, if_neg]
    · rw [mA_is X (by omega) hm]
      cases c1 : ma X p A q with
      | false =>
        rw [c1] at m1
        simp (disch := omega) only [df_X6_mayAll_35, df_X6_mayAll_30, df_X6_mayAll_34, df_X6_mayAll_0, df_X6_mayAll, m1.1, bI_f, Bool.false_and, nl_0, nl_1, no_1, no_1024, pk_mul, nI_add, nm_ck, nI_clamp, nI_ltI, nI_leI, nI_eq, nb_b2, nb_b1, nb_let, nm_z0, nm_z1, nb_II, nb_IR, nb_RI, nb_RR, nm_IL, nm_IQ, nm_RL, nm_RQ, nm_LI, nm_LR, nm_LL, nm_LQ, nm_QI, nm_QR, nm_QL, nm_QQ, nm_rr, nm_ii, nm_eqm, not_false_eq_true, pk_sub, nm_div, nm_shl, nm_shr, nm_ush, nm_or8, nm_or64, nm_or256, nm_m1, nm_m3, nm_m7, nm_m15, nm_m31, nm_m63, nm_m255, nm_m511, nm_m1023, nm_m2047, nm_m65535, Nat.reduceMod, Nat.reducePow, Nat.reduceAdd, Nat.reduceSub, Nat.reduceMul, nm_bo, nm_bi, nm_rc, nm_ic, nm_ri, nm_rl, nm_rq, nm_ql, nm_qi, nm_li, nm_us, nm_uu, nm_cp, nm_sa31, nm_sa7, nm_m127, nm_m2, nm_nz, nm_nzk, nm_eq32, nm_nzf, if_true, if_false, ↓reduceIte, if_pos, if_neg]
      | true =>
        rw [c1] at m1
        obtain ⟨lA, _⟩ := ma_ex h hp c1
        have m2 := (nk_may n h (A := A + m - 1) hp (by omega) hq).1
        cases c2 : ma X p (A + m - 1) q with
        | false =>
          rw [c2] at m2
          simp (disch := omega) only [df_X6_mayAll_35, df_X6_mayAll_30, df_X6_mayAll_34, df_X6_mayAll_0, df_X6_mayAll, m1.1, m2, bI_t, bI_f, Bool.true_and, nl_0, nl_1, no_1, no_1024, pk_mul, nI_add, nm_ck, nI_clamp, nI_ltI, nI_leI, nI_eq, nb_b2, nb_b1, nb_let, nm_z0, nm_z1, nb_II, nb_IR, nb_RI, nb_RR, nm_IL, nm_IQ, nm_RL, nm_RQ, nm_LI, nm_LR, nm_LL, nm_LQ, nm_QI, nm_QR, nm_QL, nm_QQ, nm_rr, nm_ii, nm_eqm, not_false_eq_true, pk_sub, nm_div, nm_shl, nm_shr, nm_ush, nm_or8, nm_or64, nm_or256, nm_m1, nm_m3, nm_m7, nm_m15, nm_m31, nm_m63, nm_m255, nm_m511, nm_m1023, nm_m2047, nm_m65535, Nat.reduceMod, Nat.reducePow, Nat.reduceAdd, Nat.reduceSub, Nat.reduceMul, nm_bo, nm_bi, nm_rc, nm_ic, nm_ri, nm_rl, nm_rq, nm_ql, nm_qi, nm_li, nm_us, nm_uu, nm_cp, nm_sa31, nm_sa7, nm_m127, nm_m2, nm_nz, nm_nzk, nm_eq32, nm_nzf, if_true, if_false, ↓reduceIte, if_pos, if_neg]
        | true =>
          rw [c2] at m2
          simp (disch := omega) only [df_X6_mayAll_35, df_X6_mayAll_30, df_X6_mayAll_34, df_X6_mayAll_0, df_X6_mayAll, m1.1, m2, bI_t, Bool.true_and, nl_0, nl_1, no_1, no_1024, pk_mul, nI_add, nm_ck, nI_clamp, nI_ltI, nI_leI, nI_eq, nb_b2, nb_b1, nb_let, nm_z0, nm_z1, nb_II, nb_IR, nb_RI, nb_RR, nm_IL, nm_IQ, nm_RL, nm_RQ, nm_LI, nm_LR, nm_LL, nm_LQ, nm_QI, nm_QR, nm_QL, nm_QQ, nm_rr, nm_ii, nm_eqm, not_false_eq_true, pk_sub, nm_div, nm_shl, nm_shr, nm_ush, nm_or8, nm_or64, nm_or256, nm_m1, nm_m3, nm_m7, nm_m15, nm_m31, nm_m63, nm_m255, nm_m511, nm_m1023, nm_m2047, nm_m65535, Nat.reduceMod, Nat.reducePow, Nat.reduceAdd, Nat.reduceSub, Nat.reduceMul, nm_bo, nm_bi, nm_rc, nm_ic, nm_ri, nm_rl, nm_rq, nm_ql, nm_qi, nm_li, nm_us, nm_uu, nm_cp, nm_sa31, nm_sa7, nm_m127, nm_m2, nm_nz, nm_nzk, nm_eq32, nm_nzf, if_true, if_false, ↓reduceIte, if_pos, if_neg]
  · have D := nm_le (S := Int32) (fun g k s => df_X16_mayAll_6 n g (nI p) (nI A) (nI m) (nI q) s (nI k) X) (fun k s => s = bI (decide (∀ j : Nat, j < k → ma X p (A + j) q = true))) (fun o => o = some (bI (mA X p A m q), X)) m n (by omega) (fun k m' s hk hs => by
      subst hs
      by_cases d : ∀ j : Nat, j < k → ma X p (A + j) q = true
      · right
        have lk : A + k < 2 ^ 32 := by
          by_cases k0 : k = 0
          · omega
          · have := d 0 (by omega)
            have := (ma_ex h hp this).1
            omega
        have mk := (nk_may n h (A := A + k) hp lk hq).2
        refine ⟨_, rfl, ?_⟩
        rw [decide_eq_true d]
        have e : ma X p (A + k) q = decide (∀ j : Nat, j < k + 1 → ma X p (A + j) q = true) := by
          cases c2 : ma X p (A + k) q with
          | false => exact (decide_eq_false (fun z => by have := z k (by omega); rw [c2] at this; exact nomatch this)).symm
          | true => exact (decide_eq_true (fun j hj => by
              by_cases jk : j = k
              · rw [jk]; exact c2
              · exact d j (by omega))).symm
        rw [e] at mk
        rw [show df_X16_mayAll_6 n (m' + 1) = dF_X16_mayAll_6 n (df_X16_mayAll_6 n m') from rfl]
        simp (disch := omega) only [dF_X16_mayAll_6, bI_t, mk, nl_0, nl_1, no_1, no_1024, pk_mul, nI_add, nm_ck, nI_clamp, nI_ltI, nI_leI, nI_eq, nb_b2, nb_b1, nb_let, nm_z0, nm_z1, nb_II, nb_IR, nb_RI, nb_RR, nm_IL, nm_IQ, nm_RL, nm_RQ, nm_LI, nm_LR, nm_LL, nm_LQ, nm_QI, nm_QR, nm_QL, nm_QQ, nm_rr, nm_ii, nm_eqm, not_false_eq_true, pk_sub, nm_div, nm_shl, nm_shr, nm_ush, nm_or8, nm_or64, nm_or256, nm_m1, nm_m3, nm_m7, nm_m15, nm_m31, nm_m63, nm_m255, nm_m511, nm_m1023, nm_m2047, nm_m65535, Nat.reduceMod, Nat.reducePow, Nat.reduceAdd, Nat.reduceSub, Nat.reduceMul, nm_bo, nm_bi, nm_rc, nm_ic, nm_ri, nm_rl, nm_rq, nm_ql, nm_qi, nm_li, nm_us, nm_uu, nm_cp, nm_sa31, nm_sa7, nm_m127, nm_m2, nm_nz, nm_nzk, nm_eq32, nm_nzf, if_true, if_false, ↓reduceIte, if_pos, if_neg]
      · left
        rw [decide_eq_false d]
        have e : mA X p A m q = false := decide_eq_false (fun z => d (fun j hj => z j (by omega)))
        rw [e, show df_X16_mayAll_6 n (m' + 1) = dF_X16_mayAll_6 n (df_X16_mayAll_6 n m') from rfl]
        simp (disch := omega) only [dF_X16_mayAll_6, df_X16_mayAll_36, bI_f, nl_0, nl_1, no_1, no_1024, pk_mul, nI_add, nm_ck, nI_clamp, nI_ltI, nI_leI, nI_eq, nb_b2, nb_b1, nb_let, nm_z0, nm_z1, nb_II, nb_IR, nb_RI, nb_RR, nm_IL, nm_IQ, nm_RL, nm_RQ, nm_LI, nm_LR, nm_LL, nm_LQ, nm_QI, nm_QR, nm_QL, nm_QQ, nm_rr, nm_ii, nm_eqm, not_false_eq_true, pk_sub, nm_div, nm_shl, nm_shr, nm_ush, nm_or8, nm_or64, nm_or256, nm_m1, nm_m3, nm_m7, nm_m15, nm_m31, nm_m63, nm_m255, nm_m511, nm_m1023, nm_m2047, nm_m65535, Nat.reduceMod, Nat.reducePow, Nat.reduceAdd, Nat.reduceSub, Nat.reduceMul, nm_bo, nm_bi, nm_rc, nm_ic, nm_ri, nm_rl, nm_rq, nm_ql, nm_qi, nm_li, nm_us, nm_uu, nm_cp, nm_sa31, nm_sa7, nm_m127, nm_m2, nm_nz, nm_nzk, nm_eq32, nm_nzf, if_true, if_false, ↓reduceIte, if_pos, if_neg]) (fun m' s hs => by
      subst hs
      show _ = some (bI (mA X p A m q), X)
      unfold mA
      rw [show df_X16_mayAll_6 n (m' + 1) = dF_X16_mayAll_6 n (df_X16_mayAll_6 n m') from rfl]
      cases decide (∀ j : Nat, j < m → ma X p (A + j) q = true) with
      | true => simp (disch := omega) only [dF_X16_mayAll_6, df_X16_mayAll_36, bI_t, nl_0, nl_1, no_1, no_1024, pk_mul, nI_add, nm_ck, nI_clamp, nI_ltI, nI_leI, nI_eq, nb_b2, nb_b1, nb_let, nm_z0, nm_z1, nb_II, nb_IR, nb_RI, nb_RR, nm_IL, nm_IQ, nm_RL, nm_RQ, nm_LI, nm_LR, nm_LL, nm_LQ, nm_QI, nm_QR, nm_QL, nm_QQ, nm_rr, nm_ii, nm_eqm, not_false_eq_true, pk_sub, nm_div, nm_shl, nm_shr, nm_ush, nm_or8, nm_or64, nm_or256, nm_m1, nm_m3, nm_m7, nm_m15, nm_m31, nm_m63, nm_m255, nm_m511, nm_m1023, nm_m2047, nm_m65535, Nat.reduceMod, Nat.reducePow, Nat.reduceAdd, Nat.reduceSub, Nat.reduceMul, nm_bo, nm_bi, nm_rc, nm_ic, nm_ri, nm_rl, nm_rq, nm_ql, nm_qi, nm_li, nm_us, nm_uu, nm_cp, nm_sa31, nm_sa7, nm_m127, nm_m2, nm_nz, nm_nzk, nm_eq32, nm_nzf, if_true, if_false, ↓reduceIte, if_pos, if_neg]
      | false => simp (disch := omega) only [dF_X16_mayAll_6, df_X16_mayAll_36, bI_f, nl_0, nl_1, no_1, no_1024, pk_mul, nI_add, nm_ck, nI_clamp, nI_ltI, nI_leI, nI_eq, nb_b2, nb_b1, nb_let, nm_z0, nm_z1, nb_II, nb_IR, nb_RI, nb_RR, nm_IL, nm_IQ, nm_RL, nm_RQ, nm_LI, nm_LR, nm_LL, nm_LQ, nm_QI, nm_QR, nm_QL, nm_QQ, nm_rr, nm_ii, nm_eqm, not_false_eq_true, pk_sub, nm_div, nm_shl, nm_shr, nm_ush, nm_or8, nm_or64, nm_or256, nm_m1, nm_m3, nm_m7, nm_m15, nm_m31, nm_m63, nm_m255, nm_m511, nm_m1023, nm_m2047, nm_m65535, Nat.reduceMod, Nat.reducePow, Nat.reduceAdd, Nat.reduceSub, Nat.reduceMul, nm_bo, nm_bi, nm_rc, nm_ic, nm_ri, nm_rl, nm_rq, nm_ql, nm_qi, nm_li, nm_us, nm_uu, nm_cp, nm_sa31, nm_sa7, nm_m127, nm_m2, nm_nz, nm_nzk, nm_eq32, nm_nzf, if_true, if_false, ↓reduceIte, if_pos, if_neg]) (nI 1) (by rw [decide_eq_true (fun j hj => absurd hj (by omega))]; rfl)
    exact D
