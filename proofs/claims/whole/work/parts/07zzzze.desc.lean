/-- a descriptor, its opening, how many bytes and which, in both -/
theorem sg_desc (n : Nat) {B : Nat} {M X : St × St} (h : rM B M X) {p d : Nat} (hp : p < 16) (hd : d < 16) : (df_X10_openingOf n (nI p) (nI d) M.2 = some (-nI 1, M.2) ∧ sR X.1 14 (16 * p + d) = -nI 1) ∨ ∃ o k t L : Nat, o < 48 ∧ 1 ≤ k ∧ k ≤ 4 ∧ t < 16 ∧ (k ≤ 2 → t < 8) ∧ L ≤ 512 ∧ df_X10_openingOf n (nI p) (nI d) M.2 = some (nI o, M.2) ∧ sR X.1 14 (16 * p + d) = nI o ∧ sR M.2 1 (o * 5) = nI k ∧ sR X.1 19 o = nI k ∧ sR X.1 20 o = nI t ∧ sR M.2 1 (o * 5 + 1) = nI (cD (sR X.1 14) o) ∧ sR M.2 1 (o * 5 + 4) = sR X.1 22 o ∧ (k = 3 → sR M.2 1 (o * 5 + 3) = sR X.1 21 o) ∧ (k ≠ 3 → sR M.2 1 (o * 5 + 3) = nI 0) ∧ df_X10_amount n (nI o) M.2 = some (nI L, M.2) ∧ (k = 3 → sR X.1 28 t = nI L) ∧ (k = 4 → sI X.1 7 = nI L) ∧ (k ≤ 2 → sR X.1 26 t = nI L) ∧ ∀ i : Nat, i < L → ∃ z : Nat, df_X10_byteOf n (nI o) (nI i) M.2 = some (nI z, M.2) ∧ (k = 3 → sR X.1 29 (512 * t + i) = nI z) ∧ (k = 4 → sR X.1 31 i = nI z) ∧ (k ≤ 2 → sR X.1 27 (512 * t + i) = nI z) := by
  obtain ⟨m1, m2, m3, m4, m5, m6, m7⟩ := h
  have u1 : p < 2 ^ 31 := by omega
  have u2 : d < 2 ^ 31 := by omega
  have u3 : p * 16 + d < 256 := by omega
  have k1 : d < 16 := hd
  rcases m2.1 (p * 16 + d) u3 with ⟨a1, a2⟩ | ⟨o, ho, a1, a2⟩
  · refine Or.inl ⟨?_, by rw [show 16 * p + d = p * 16 + d by omega]; exact a1⟩
    have s1 : nI 0 - nI 1 = -nI 1 := by decide
    unfold df_X10_openingOf df_X10_openingOf_0 df_X10_openingOf_27
    rw [if_neg (rg_c (A := d) (k := 16) (by omega) (by omega) hd).1, if_pos (show nI d < (16 : Int32) from (show nI d < nI 16 by rw [nI_ltI u2 (by omega)]; exact hd)), show nI p * 16 + nI d = nI (p * 16 + d) by rw [show nI p * 16 = nI (p * 16) from pk_mul .., nI_add], nm_ck u3 (by omega), nI_clamp (by omega), a2]
    rfl
  · refine Or.inr ?_
    have op : df_X10_openingOf n (nI p) (nI d) M.2 = some (nI o, M.2) := by
      unfold df_X10_openingOf df_X10_openingOf_0 df_X10_openingOf_27
      rw [if_neg (rg_c (A := d) (k := 16) (by omega) (by omega) hd).1, if_pos (show nI d < (16 : Int32) from (show nI d < nI 16 by rw [nI_ltI u2 (by omega)]; exact hd)), show nI p * 16 + nI d = nI (p * 16 + d) by rw [show nI p * 16 = nI (p * 16) from pk_mul .., nI_add], nm_ck u3 (by omega), nI_clamp (by omega), a2, show nI (o + 1) - 1 = nI o from (pk_sub (show 1 ≤ o + 1 by omega)).trans (by rw [show o + 1 - 1 = o by omega])]
    have a1' : sR X.1 14 (16 * p + d) = nI o := by rw [show 16 * p + d = p * 16 + d by omega]; exact a1
    rcases m2.2.1 o ho with ⟨z1, z2, z3⟩ | ⟨k, t, y1, y2, y3, y4, y5, y6, y7, y8, y9, y10, y11, y12, y13, y14, y15⟩
    · have : 0 < cD (sR X.1 14) o := cN_p (P := fun i => decide (sR X.1 14 i = nI o)) (i := p * 16 + d) (decide_eq_true a1) u3
      omega
    · have u5 : o < 2 ^ 31 := by omega
      have u6 : o * 5 < 240 := by omega
      have u7 : o * 5 + 2 < 240 := by omega
      have u8 : t < 2 ^ 31 := by omega
      have hk : k = 1 ∨ k = 2 ∨ k = 3 ∨ k = 4 := by omega
      have pipe : k ≤ 2 → ∃ L : Nat, L ≤ 512 ∧ df_X10_amount n (nI o) M.2 = some (nI L, M.2) ∧ sR X.1 26 t = nI L ∧ ∀ i : Nat, i < L → ∃ z : Nat, df_X10_byteOf n (nI o) (nI i) M.2 = some (nI z, M.2) ∧ sR X.1 27 (512 * t + i) = nI z := fun k2 => by
        have t8 := y9 k2
        have e23 : sR X.1 23 t = nI 1 := by
          have x1 : 0 < cE (sR X.1 19) (sR X.1 20) k t := cN_p (P := fun j => decide (sR X.1 19 j = nI k ∧ sR X.1 20 j = nI t)) (i := o) (decide_eq_true ⟨y4, y7⟩) ho
          have hk12 : k = 1 ∨ k = 2 := by omega
          rw [(m2.2.2.1 t t8).2.2]
          rcases hk12 with rfl | rfl
          · rw [decide_eq_true (by omega)]; rfl
          · rw [decide_eq_true (by omega)]; rfl
        obtain ⟨L, oo, hL, hoo, l1, l2, l3, l4⟩ := m7.1 t t8 e23
        have n4 : ¬ nI k = nI 4 := fun z => by rw [nI_eq (by omega) (by omega)] at z; omega
        have n3 : ¬ nI k = nI 3 := fun z => by rw [nI_eq (by omega) (by omega)] at z; omega
        have v1 : t * 4 < 32 := by omega
        have v2 : t * 4 + 3 < 32 := by omega
        refine ⟨L, hL, ?_, l2, fun i hi => ?_⟩
        · simp (disch := (first | assumption | decide | omega)) only [df_X10_amount_60, df_X10_amount_0, df_X10_amount, y5, y8, n4, n3, l1, Nat.add_zero, eq_self, Nat.reduceEqDiff, Nat.reduceLeDiff, nl_0, nl_1, nl_2, nl_3, nl_4, nl_5, nl_32, nl_48, nl_240, no_1, no_1024, pk_mul, nI_add, nm_ck, nI_clamp, nI_ltI, nI_leI, nI_eq, nb_b2, nb_b1, ↓nb_let, nm_z0, nm_z1, nb_II, nb_IR, nb_RI, nb_RR, nm_IL, nm_IQ, nm_RL, nm_RQ, nm_LI, nm_LR, nm_LL, nm_LQ, nm_QI, nm_QR, nm_QL, nm_QQ, nm_rr, nm_ii, nm_eqm, not_false_eq_true, pk_sub, nm_div, nm_shl, nm_shr, nm_ush, nm_or8, nm_or64, nm_or256, nm_m1, nm_m3, nm_m7, nm_m15, nm_m31, nm_m63, nm_m255, nm_m511, nm_m1023, nm_m2047, nm_m65535, Nat.reduceMod, Nat.reducePow, Nat.reduceAdd, Nat.reduceSub, Nat.reduceMul, nm_bo, nm_bi, nm_rc, nm_ic, nm_ri, nm_rl, nm_rq, nm_ql, nm_qi, nm_li, nm_us, nm_uu, nm_cp, nm_sa31, nm_sa7, nm_m127, nm_m2, nm_nz, nm_nzk, nm_eq32, nm_nzf, if_true, if_false, ↓reduceIte, if_pos, if_neg]
        · obtain ⟨z, z1, z2, z3⟩ := l4 i hi
          have b255 := b8_255 ⟨z, z1, z2, z3⟩
          rw [z2] at b255
          refine ⟨z, ?_, z2⟩
          have v3 : i < 2 ^ 31 := by omega
          have v4 : oo + i < 2 ^ 32 := by omega
          have v5 : t * 512 + (oo + i) % 512 < 4096 := by omega
          have v6 : (oo + i) % 512 < 2 ^ 31 := by omega
          simp (disch := (first | assumption | decide | omega)) only [df_X10_byteOf_0, df_X10_byteOf, y5, y8, n4, n3, l3, b255, Nat.add_zero, eq_self, Nat.reduceEqDiff, Nat.reduceLeDiff, nl_0, nl_1, nl_2, nl_3, nl_4, nl_5, nl_7, nl_32, nl_240, nl_255, nl_511, nl_512, nl_4096, nl_8192, no_1, no_1024, pk_mul, nI_add, nm_ck, nI_clamp, nI_ltI, nI_leI, nI_eq, nb_b2, nb_b1, ↓nb_let, nm_z0, nm_z1, nb_II, nb_IR, nb_RI, nb_RR, nm_IL, nm_IQ, nm_RL, nm_RQ, nm_LI, nm_LR, nm_LL, nm_LQ, nm_QI, nm_QR, nm_QL, nm_QQ, nm_rr, nm_ii, nm_eqm, not_false_eq_true, pk_sub, nm_div, nm_shl, nm_shr, nm_ush, nm_or8, nm_or64, nm_or256, nm_m1, nm_m3, nm_m7, nm_m15, nm_m31, nm_m63, nm_m255, nm_m511, nm_m1023, nm_m2047, nm_m65535, Nat.reduceMod, Nat.reducePow, Nat.reduceAdd, Nat.reduceSub, Nat.reduceMul, nm_bo, nm_bi, nm_rc, nm_ic, nm_ri, nm_rl, nm_rq, nm_ql, nm_qi, nm_li, nm_us, nm_uu, nm_cp, nm_sa31, nm_sa7, nm_m127, nm_m2, nm_nz, nm_nzk, nm_eq32, nm_nzf, if_true, if_false, ↓reduceIte, if_pos, if_neg]
      rcases hk with rfl | rfl | rfl | rfl
      · obtain ⟨L, q1, q2, q3, q4⟩ := pipe (by omega)
        refine ⟨o, 1, t, L, ho, y1, y2, y10, y9, q1, op, a1', y5, y4, y7, y6, y11, y12, y13, q2, fun z => absurd z (by omega), fun z => absurd z (by omega), fun _ => q3, fun i hi => ?_⟩
        obtain ⟨z, z1, z2⟩ := q4 i hi
        exact ⟨z, z1, fun z => absurd z (by omega), fun z => absurd z (by omega), fun _ => z2⟩
      · obtain ⟨L, q1, q2, q3, q4⟩ := pipe (by omega)
        refine ⟨o, 2, t, L, ho, y1, y2, y10, y9, q1, op, a1', y5, y4, y7, y6, y11, y12, y13, q2, fun z => absurd z (by omega), fun z => absurd z (by omega), fun _ => q3, fun i hi => ?_⟩
        obtain ⟨z, z1, z2⟩ := q4 i hi
        exact ⟨z, z1, fun z => absurd z (by omega), fun z => absurd z (by omega), fun _ => z2⟩
      · have isf : sR X.1 24 t = nI 1 := by
          have x1 : 0 < cE (sR X.1 19) (sR X.1 20) 3 t := cN_p (P := fun j => decide (sR X.1 19 j = nI 3 ∧ sR X.1 20 j = nI t)) (i := o) (decide_eq_true ⟨y4, y7⟩) ho
          rw [(m2.2.2.2 t y10).2.2.2, decide_eq_true (Or.inr x1)]
          rfl
        obtain ⟨L, hL, l1, l2, l4⟩ := m7.2.1 t y10 isf
        have v1 : t * 3 < 48 := by omega
        refine ⟨o, 3, t, L, ho, y1, y2, y10, y9, hL, op, a1', y5, y4, y7, y6, y11, y12, y13, ?_, fun _ => l2, fun z => absurd z (by omega), fun z => absurd z (by omega), fun i hi => ?_⟩
        · simp (disch := (first | assumption | decide | omega)) only [df_X10_amount_60, df_X10_amount_0, df_X10_amount, y5, y8, l1, Nat.add_zero, eq_self, Nat.reduceEqDiff, Nat.reduceLeDiff, nl_0, nl_1, nl_2, nl_3, nl_4, nl_5, nl_32, nl_48, nl_240, no_1, no_1024, pk_mul, nI_add, nm_ck, nI_clamp, nI_ltI, nI_leI, nI_eq, nb_b2, nb_b1, ↓nb_let, nm_z0, nm_z1, nb_II, nb_IR, nb_RI, nb_RR, nm_IL, nm_IQ, nm_RL, nm_RQ, nm_LI, nm_LR, nm_LL, nm_LQ, nm_QI, nm_QR, nm_QL, nm_QQ, nm_rr, nm_ii, nm_eqm, not_false_eq_true, pk_sub, nm_div, nm_shl, nm_shr, nm_ush, nm_or8, nm_or64, nm_or256, nm_m1, nm_m3, nm_m7, nm_m15, nm_m31, nm_m63, nm_m255, nm_m511, nm_m1023, nm_m2047, nm_m65535, Nat.reduceMod, Nat.reducePow, Nat.reduceAdd, Nat.reduceSub, Nat.reduceMul, nm_bo, nm_bi, nm_rc, nm_ic, nm_ri, nm_rl, nm_rq, nm_ql, nm_qi, nm_li, nm_us, nm_uu, nm_cp, nm_sa31, nm_sa7, nm_m127, nm_m2, nm_nz, nm_nzk, nm_eq32, nm_nzf, if_true, if_false, ↓reduceIte, if_pos, if_neg]
        · obtain ⟨z, z1, z2, z3⟩ := l4 i hi
          have b255 := b8_255 ⟨z, z1, z2, z3⟩
          rw [z2] at b255
          refine ⟨z, ?_, fun _ => z2, fun z => absurd z (by omega), fun z => absurd z (by omega)⟩
          have v3 : i < 2 ^ 32 := by omega
          have v5 : t * 512 + i < 8192 := by omega
          have v6 : i % 512 = i := Nat.mod_eq_of_lt (by omega)
          have v7 : t * 512 + i < 2 ^ 31 := by omega
          simp (disch := (first | assumption | decide | omega)) only [df_X10_byteOf_0, df_X10_byteOf, y5, y8, v6, b255, Nat.add_zero, eq_self, Nat.reduceEqDiff, Nat.reduceLeDiff, nl_0, nl_1, nl_2, nl_3, nl_4, nl_5, nl_7, nl_32, nl_240, nl_255, nl_511, nl_512, nl_4096, nl_8192, no_1, no_1024, pk_mul, nI_add, nm_ck, nI_clamp, nI_ltI, nI_leI, nI_eq, nb_b2, nb_b1, ↓nb_let, nm_z0, nm_z1, nb_II, nb_IR, nb_RI, nb_RR, nm_IL, nm_IQ, nm_RL, nm_RQ, nm_LI, nm_LR, nm_LL, nm_LQ, nm_QI, nm_QR, nm_QL, nm_QQ, nm_rr, nm_ii, nm_eqm, not_false_eq_true, pk_sub, nm_div, nm_shl, nm_shr, nm_ush, nm_or8, nm_or64, nm_or256, nm_m1, nm_m3, nm_m7, nm_m15, nm_m31, nm_m63, nm_m255, nm_m511, nm_m1023, nm_m2047, nm_m65535, Nat.reduceMod, Nat.reducePow, Nat.reduceAdd, Nat.reduceSub, Nat.reduceMul, nm_bo, nm_bi, nm_rc, nm_ic, nm_ri, nm_rl, nm_rq, nm_ql, nm_qi, nm_li, nm_us, nm_uu, nm_cp, nm_sa31, nm_sa7, nm_m127, nm_m2, nm_nz, nm_nzk, nm_eq32, nm_nzf, if_true, if_false, ↓reduceIte, if_pos, if_neg]
      · obtain ⟨Ty, hT, t1, t2, t3⟩ := m7.2.2.2.1
        refine ⟨o, 4, t, Ty, ho, y1, y2, y10, y9, hT, op, a1', y5, y4, y7, y6, y11, y12, y13, ?_, fun z => absurd z (by omega), fun _ => t2, fun z => absurd z (by omega), fun i hi => ?_⟩
        · simp (disch := (first | assumption | decide | omega)) only [df_X10_amount_60, df_X10_amount_0, df_X10_amount, y5, y8, t1, Nat.add_zero, eq_self, Nat.reduceEqDiff, Nat.reduceLeDiff, nl_0, nl_1, nl_2, nl_3, nl_4, nl_5, nl_32, nl_48, nl_240, no_1, no_1024, pk_mul, nI_add, nm_ck, nI_clamp, nI_ltI, nI_leI, nI_eq, nb_b2, nb_b1, ↓nb_let, nm_z0, nm_z1, nb_II, nb_IR, nb_RI, nb_RR, nm_IL, nm_IQ, nm_RL, nm_RQ, nm_LI, nm_LR, nm_LL, nm_LQ, nm_QI, nm_QR, nm_QL, nm_QQ, nm_rr, nm_ii, nm_eqm, not_false_eq_true, pk_sub, nm_div, nm_shl, nm_shr, nm_ush, nm_or8, nm_or64, nm_or256, nm_m1, nm_m3, nm_m7, nm_m15, nm_m31, nm_m63, nm_m255, nm_m511, nm_m1023, nm_m2047, nm_m65535, Nat.reduceMod, Nat.reducePow, Nat.reduceAdd, Nat.reduceSub, Nat.reduceMul, nm_bo, nm_bi, nm_rc, nm_ic, nm_ri, nm_rl, nm_rq, nm_ql, nm_qi, nm_li, nm_us, nm_uu, nm_cp, nm_sa31, nm_sa7, nm_m127, nm_m2, nm_nz, nm_nzk, nm_eq32, nm_nzf, if_true, if_false, ↓reduceIte, if_pos, if_neg]
        · obtain ⟨z, z1, z2, z3⟩ := t3 i hi
          have b255 := b8_255 ⟨z, z1, z2, z3⟩
          rw [z2] at b255
          refine ⟨z, ?_, fun z => absurd z (by omega), fun _ => z2, fun z => absurd z (by omega)⟩
          have v3 : i < 2 ^ 32 := by omega
          have v5 : i < 512 := by omega
          have v6 : i % 512 = i := Nat.mod_eq_of_lt (by omega)
          have v7 : i < 2 ^ 31 := by omega
          simp (disch := (first | assumption | decide | omega)) only [df_X10_byteOf_0, df_X10_byteOf, y5, y8, v6, b255, Nat.add_zero, eq_self, Nat.reduceEqDiff, Nat.reduceLeDiff, nl_0, nl_1, nl_2, nl_3, nl_4, nl_5, nl_7, nl_32, nl_240, nl_255, nl_511, nl_512, nl_4096, nl_8192, no_1, no_1024, pk_mul, nI_add, nm_ck, nI_clamp, nI_ltI, nI_leI, nI_eq, nb_b2, nb_b1, ↓nb_let, nm_z0, nm_z1, nb_II, nb_IR, nb_RI, nb_RR, nm_IL, nm_IQ, nm_RL, nm_RQ, nm_LI, nm_LR, nm_LL, nm_LQ, nm_QI, nm_QR, nm_QL, nm_QQ, nm_rr, nm_ii, nm_eqm, not_false_eq_true, pk_sub, nm_div, nm_shl, nm_shr, nm_ush, nm_or8, nm_or64, nm_or256, nm_m1, nm_m3, nm_m7, nm_m15, nm_m31, nm_m63, nm_m255, nm_m511, nm_m1023, nm_m2047, nm_m65535, Nat.reduceMod, Nat.reducePow, Nat.reduceAdd, Nat.reduceSub, Nat.reduceMul, nm_bo, nm_bi, nm_rc, nm_ic, nm_ri, nm_rl, nm_rq, nm_ql, nm_qi, nm_li, nm_us, nm_uu, nm_cp, nm_sa31, nm_sa7, nm_m127, nm_m2, nm_nz, nm_nzk, nm_eq32, nm_nzf, if_true, if_false, ↓reduceIte, if_pos, if_neg]
theorem sg_held (n : Nat) (hn : 1024 < n) (X : St × St) (o : Nat) : df_X16_held n (nI o) X = some (nI (cD (sR X.1 14) o), X) := by
  obtain ⟨m, e⟩ := nm_lq (fun g k => df_X16_held_4 n g (nI o) (nI (cN (fun i => decide (sR X.1 14 i = nI o)) k)) (nI k) X) 256 n (by omega) (fun k m hk => by
    show dF_X16_held_4 n (df_X16_held_4 n m) (nI o) _ (nI k) X = _
    generalize df_X16_held_4 n m = G
    unfold dF_X16_held_4 df_X16_held_28
    rw [if_neg (show ¬ (256 : Int32) ≤ nI k from fun z => by have z : nI 256 ≤ nI k := z; rw [nI_leI (by omega) (by omega)] at z; omega), nm_ck hk (by omega), nI_clamp (by omega), nb_let, nb_let, show nI k + Int32.ofInt 1 = nI (k + 1) from nI_add .., cN_s]
    by_cases c : sR X.1 14 k = nI o
    · rw [if_pos c, decide_eq_true c, show nI (cN (fun i => decide (sR X.1 14 i = nI o)) k) + 1 = nI (cN (fun i => decide (sR X.1 14 i = nI o)) k + 1) from nI_add ..]
      rfl
    · rw [if_neg c, decide_eq_false c]
      rfl)
  refine Eq.trans e ?_
  show dF_X16_held_4 n (df_X16_held_4 n m) (nI o) _ (nI 256) X = _
  unfold dF_X16_held_4
  rw [if_pos (show (256 : Int32) ≤ nI 256 by decide)]
  rfl
/-- what the reference tells of a descriptor, as the class does -/
theorem sg_dtold (n : Nat) (hn : 1024 < n) {B : Nat} {M X : St × St} (h : rM B M X) {p d w : Nat} (hp : p < 16) (hd : d < 16) (hw : w ≤ 4) : (df_X10_openingOf n (nI p) (nI d) M.2 = some (-nI 1, M.2) ∧ df_X16_descriptor n (nI p) (nI d) (nI w) X = some (if w = 0 then 0 else -1, X)) ∨ ∃ (o : Nat) (r : Int32), o < 48 ∧ df_X10_openingOf n (nI p) (nI d) M.2 = some (nI o, M.2) ∧ df_X10_told n (nI o) (nI w) M.2 = some (r, M.2) ∧ df_X16_descriptor n (nI p) (nI d) (nI w) X = some (r, X) := by
  have u1 : p < 2 ^ 31 := by omega
  have u2 : d < 2 ^ 31 := by omega
  have w2 : w < 2 ^ 31 := by omega
  have u3 : 16 * p + d < 256 := by omega
  have k1 : ¬ 15 < p := by omega
  have k2 : ¬ 15 < d := by omega
  have k4 : w ≤ 4 := hw
  rcases sg_desc n h hp hd with ⟨a1, a2⟩ | ⟨o, k, t, L, ho, y1, y2, y3, y4, y5, y6, y7, y8, y9, y10, y11, y12, y13, y14, y15, y16, y17, y18, _⟩
  · refine Or.inl ⟨a1, ?_⟩
    by_cases w0 : w = 0
    · subst w0
      rw [if_pos rfl]
      simp (disch := (first | assumption | decide | omega)) only [df_X16_descriptor_29, df_X16_descriptor_163, df_X16_descriptor_186, df_X16_descriptor_59, df_X16_descriptor_0, df_X16_descriptor, a2, eq_self, Nat.reduceEqDiff, Nat.reduceLeDiff, nl_0, nl_1, nl_2, nl_3, nl_4, nl_7, nl_8, nl_14, nl_15, nl_16, nl_19, nl_20, nl_21, nl_22, nl_26, nl_28, nl_48, nl_256, no_1, no_1024, pk_mul, nI_add, nm_ck, nI_clamp, nI_ltI, nI_leI, nI_eq, nb_b2, nb_b1, ↓nb_let, nm_z0, nm_z1, nb_II, nb_IR, nb_RI, nb_RR, nm_IL, nm_IQ, nm_RL, nm_RQ, nm_LI, nm_LR, nm_LL, nm_LQ, nm_QI, nm_QR, nm_QL, nm_QQ, nm_rr, nm_ii, nm_eqm, not_false_eq_true, pk_sub, nm_div, nm_shl, nm_shr, nm_ush, nm_or8, nm_or64, nm_or256, nm_m1, nm_m3, nm_m7, nm_m15, nm_m31, nm_m63, nm_m255, nm_m511, nm_m1023, nm_m2047, nm_m65535, Nat.reduceMod, Nat.reducePow, Nat.reduceAdd, Nat.reduceSub, Nat.reduceMul, nm_bo, nm_bi, nm_rc, nm_ic, nm_ri, nm_rl, nm_rq, nm_ql, nm_qi, nm_li, nm_us, nm_uu, nm_cp, nm_sa31, nm_sa7, nm_m127, nm_m2, nm_nz, nm_nzk, nm_eq32, nm_nzf, if_true, if_false, ↓reduceIte, if_pos, if_neg]
    · have k3 : ¬ nI w = nI 0 := fun z => by rw [nI_eq w2 (by omega)] at z; exact w0 z
      rw [if_neg w0]
      simp (disch := (first | assumption | decide | omega)) only [df_X16_descriptor_29, df_X16_descriptor_163, df_X16_descriptor_186, df_X16_descriptor_59, df_X16_descriptor_0, df_X16_descriptor, a2, k3, eq_self, Nat.reduceEqDiff, Nat.reduceLeDiff, nl_0, nl_1, nl_2, nl_3, nl_4, nl_7, nl_8, nl_14, nl_15, nl_16, nl_19, nl_20, nl_21, nl_22, nl_26, nl_28, nl_48, nl_256, no_1, no_1024, pk_mul, nI_add, nm_ck, nI_clamp, nI_ltI, nI_leI, nI_eq, nb_b2, nb_b1, ↓nb_let, nm_z0, nm_z1, nb_II, nb_IR, nb_RI, nb_RR, nm_IL, nm_IQ, nm_RL, nm_RQ, nm_LI, nm_LR, nm_LL, nm_LQ, nm_QI, nm_QR, nm_QL, nm_QQ, nm_rr, nm_ii, nm_eqm, not_false_eq_true, pk_sub, nm_div, nm_shl, nm_shr, nm_ush, nm_or8, nm_or64, nm_or256, nm_m1, nm_m3, nm_m7, nm_m15, nm_m31, nm_m63, nm_m255, nm_m511, nm_m1023, nm_m2047, nm_m65535, Nat.reduceMod, Nat.reducePow, Nat.reduceAdd, Nat.reduceSub, Nat.reduceMul, nm_bo, nm_bi, nm_rc, nm_ic, nm_ri, nm_rl, nm_rq, nm_ql, nm_qi, nm_li, nm_us, nm_uu, nm_cp, nm_sa31, nm_sa7, nm_m127, nm_m2, nm_nz, nm_nzk, nm_eq32, nm_nzf, if_true, if_false, ↓reduceIte, if_pos, if_neg]
  · have u5 : o < 2 ^ 31 := by omega
    have n1 : ¬ nI o = -nI 1 := nk_ne u5
    have q0 : o * 5 < 240 := by omega
    have q1 : o * 5 + 1 < 240 := by omega
    have q3 : o * 5 + 3 < 240 := by omega
    have q4 : o * 5 + 4 < 240 := by omega
    have hW : w = 0 ∨ w = 1 ∨ w = 2 ∨ w = 3 ∨ w = 4 := by omega
    have hk : k = 1 ∨ k = 2 ∨ k = 3 ∨ k = 4 := by omega
    rcases hW with rfl | rfl | rfl | rfl | rfl
    · refine Or.inr ⟨o, nI k, ho, y6, ?_, ?_⟩
      · simp (disch := (first | assumption | decide | omega)) only [df_X10_told_0, df_X10_told, df_X10_of_0, df_X10_of, y8, Nat.add_zero, eq_self, Nat.reduceEqDiff, Nat.reduceLeDiff, nl_1, nl_2, nl_5, nl_240, no_1, no_1024, pk_mul, nI_add, nm_ck, nI_clamp, nI_ltI, nI_leI, nI_eq, nb_b2, nb_b1, ↓nb_let, nm_z0, nm_z1, nb_II, nb_IR, nb_RI, nb_RR, nm_IL, nm_IQ, nm_RL, nm_RQ, nm_LI, nm_LR, nm_LL, nm_LQ, nm_QI, nm_QR, nm_QL, nm_QQ, nm_rr, nm_ii, nm_eqm, not_false_eq_true, pk_sub, nm_div, nm_shl, nm_shr, nm_ush, nm_or8, nm_or64, nm_or256, nm_m1, nm_m3, nm_m7, nm_m15, nm_m31, nm_m63, nm_m255, nm_m511, nm_m1023, nm_m2047, nm_m65535, Nat.reduceMod, Nat.reducePow, Nat.reduceAdd, Nat.reduceSub, Nat.reduceMul, nm_bo, nm_bi, nm_rc, nm_ic, nm_ri, nm_rl, nm_rq, nm_ql, nm_qi, nm_li, nm_us, nm_uu, nm_cp, nm_sa31, nm_sa7, nm_m127, nm_m2, nm_nz, nm_nzk, nm_eq32, nm_nzf, if_true, if_false, ↓reduceIte, if_pos, if_neg]
      · simp (disch := (first | assumption | decide | omega)) only [df_X16_descriptor_29, df_X16_descriptor_163, df_X16_descriptor_186, df_X16_descriptor_59, df_X16_descriptor_0, df_X16_descriptor, y7, n1, y9, eq_self, Nat.reduceEqDiff, Nat.reduceLeDiff, nl_0, nl_1, nl_2, nl_3, nl_4, nl_7, nl_8, nl_14, nl_15, nl_16, nl_19, nl_20, nl_21, nl_22, nl_26, nl_28, nl_48, nl_256, no_1, no_1024, pk_mul, nI_add, nm_ck, nI_clamp, nI_ltI, nI_leI, nI_eq, nb_b2, nb_b1, ↓nb_let, nm_z0, nm_z1, nb_II, nb_IR, nb_RI, nb_RR, nm_IL, nm_IQ, nm_RL, nm_RQ, nm_LI, nm_LR, nm_LL, nm_LQ, nm_QI, nm_QR, nm_QL, nm_QQ, nm_rr, nm_ii, nm_eqm, not_false_eq_true, pk_sub, nm_div, nm_shl, nm_shr, nm_ush, nm_or8, nm_or64, nm_or256, nm_m1, nm_m3, nm_m7, nm_m15, nm_m31, nm_m63, nm_m255, nm_m511, nm_m1023, nm_m2047, nm_m65535, Nat.reduceMod, Nat.reducePow, Nat.reduceAdd, Nat.reduceSub, Nat.reduceMul, nm_bo, nm_bi, nm_rc, nm_ic, nm_ri, nm_rl, nm_rq, nm_ql, nm_qi, nm_li, nm_us, nm_uu, nm_cp, nm_sa31, nm_sa7, nm_m127, nm_m2, nm_nz, nm_nzk, nm_eq32, nm_nzf, if_true, if_false, ↓reduceIte, if_pos, if_neg]
    · have hh := sg_held n hn X o
      refine Or.inr ⟨o, nI (cD (sR X.1 14) o), ho, y6, ?_, ?_⟩
      · simp (disch := (first | assumption | decide | omega)) only [df_X10_told_0, df_X10_told, df_X10_of_0, df_X10_of, y11, eq_self, Nat.reduceEqDiff, Nat.reduceLeDiff, nl_1, nl_2, nl_5, nl_240, no_1, no_1024, pk_mul, nI_add, nm_ck, nI_clamp, nI_ltI, nI_leI, nI_eq, nb_b2, nb_b1, ↓nb_let, nm_z0, nm_z1, nb_II, nb_IR, nb_RI, nb_RR, nm_IL, nm_IQ, nm_RL, nm_RQ, nm_LI, nm_LR, nm_LL, nm_LQ, nm_QI, nm_QR, nm_QL, nm_QQ, nm_rr, nm_ii, nm_eqm, not_false_eq_true, pk_sub, nm_div, nm_shl, nm_shr, nm_ush, nm_or8, nm_or64, nm_or256, nm_m1, nm_m3, nm_m7, nm_m15, nm_m31, nm_m63, nm_m255, nm_m511, nm_m1023, nm_m2047, nm_m65535, Nat.reduceMod, Nat.reducePow, Nat.reduceAdd, Nat.reduceSub, Nat.reduceMul, nm_bo, nm_bi, nm_rc, nm_ic, nm_ri, nm_rl, nm_rq, nm_ql, nm_qi, nm_li, nm_us, nm_uu, nm_cp, nm_sa31, nm_sa7, nm_m127, nm_m2, nm_nz, nm_nzk, nm_eq32, nm_nzf, if_true, if_false, ↓reduceIte, if_pos, if_neg]
      · simp (disch := (first | assumption | decide | omega)) only [df_X16_descriptor_29, df_X16_descriptor_163, df_X16_descriptor_186, df_X16_descriptor_59, df_X16_descriptor_0, df_X16_descriptor, y7, n1, hh, eq_self, Nat.reduceEqDiff, Nat.reduceLeDiff, nl_0, nl_1, nl_2, nl_3, nl_4, nl_7, nl_8, nl_14, nl_15, nl_16, nl_19, nl_20, nl_21, nl_22, nl_26, nl_28, nl_48, nl_256, no_1, no_1024, pk_mul, nI_add, nm_ck, nI_clamp, nI_ltI, nI_leI, nI_eq, nb_b2, nb_b1, ↓nb_let, nm_z0, nm_z1, nb_II, nb_IR, nb_RI, nb_RR, nm_IL, nm_IQ, nm_RL, nm_RQ, nm_LI, nm_LR, nm_LL, nm_LQ, nm_QI, nm_QR, nm_QL, nm_QQ, nm_rr, nm_ii, nm_eqm, not_false_eq_true, pk_sub, nm_div, nm_shl, nm_shr, nm_ush, nm_or8, nm_or64, nm_or256, nm_m1, nm_m3, nm_m7, nm_m15, nm_m31, nm_m63, nm_m255, nm_m511, nm_m1023, nm_m2047, nm_m65535, Nat.reduceMod, Nat.reducePow, Nat.reduceAdd, Nat.reduceSub, Nat.reduceMul, nm_bo, nm_bi, nm_rc, nm_ic, nm_ri, nm_rl, nm_rq, nm_ql, nm_qi, nm_li, nm_us, nm_uu, nm_cp, nm_sa31, nm_sa7, nm_m127, nm_m2, nm_nz, nm_nzk, nm_eq32, nm_nzf, if_true, if_false, ↓reduceIte, if_pos, if_neg]
    · refine Or.inr ⟨o, nI L, ho, y6, ?_, ?_⟩
      · simp (disch := (first | assumption | decide | omega)) only [df_X10_told_0, df_X10_told, y15, eq_self, Nat.reduceEqDiff, Nat.reduceLeDiff, nl_1, nl_2, no_1, no_1024, pk_mul, nI_add, nm_ck, nI_clamp, nI_ltI, nI_leI, nI_eq, nb_b2, nb_b1, ↓nb_let, nm_z0, nm_z1, nb_II, nb_IR, nb_RI, nb_RR, nm_IL, nm_IQ, nm_RL, nm_RQ, nm_LI, nm_LR, nm_LL, nm_LQ, nm_QI, nm_QR, nm_QL, nm_QQ, nm_rr, nm_ii, nm_eqm, not_false_eq_true, pk_sub, nm_div, nm_shl, nm_shr, nm_ush, nm_or8, nm_or64, nm_or256, nm_m1, nm_m3, nm_m7, nm_m15, nm_m31, nm_m63, nm_m255, nm_m511, nm_m1023, nm_m2047, nm_m65535, Nat.reduceMod, Nat.reducePow, Nat.reduceAdd, Nat.reduceSub, Nat.reduceMul, nm_bo, nm_bi, nm_rc, nm_ic, nm_ri, nm_rl, nm_rq, nm_ql, nm_qi, nm_li, nm_us, nm_uu, nm_cp, nm_sa31, nm_sa7, nm_m127, nm_m2, nm_nz, nm_nzk, nm_eq32, nm_nzf, if_true, if_false, ↓reduceIte, if_pos, if_neg]
      · have v8 : t < 2 ^ 31 := by omega
        rcases hk with rfl | rfl | rfl | rfl
        · have t8 := y4 (by omega)
          have y18 := y18 (by omega)
          simp (disch := (first | assumption | decide | omega)) only [df_X16_descriptor_29, df_X16_descriptor_163, df_X16_descriptor_186, df_X16_descriptor_59, df_X16_descriptor_0, df_X16_descriptor, y7, n1, y9, y10, y18, eq_self, Nat.reduceEqDiff, Nat.reduceLeDiff, nl_0, nl_1, nl_2, nl_3, nl_4, nl_7, nl_8, nl_14, nl_15, nl_16, nl_19, nl_20, nl_21, nl_22, nl_26, nl_28, nl_48, nl_256, no_1, no_1024, pk_mul, nI_add, nm_ck, nI_clamp, nI_ltI, nI_leI, nI_eq, nb_b2, nb_b1, ↓nb_let, nm_z0, nm_z1, nb_II, nb_IR, nb_RI, nb_RR, nm_IL, nm_IQ, nm_RL, nm_RQ, nm_LI, nm_LR, nm_LL, nm_LQ, nm_QI, nm_QR, nm_QL, nm_QQ, nm_rr, nm_ii, nm_eqm, not_false_eq_true, pk_sub, nm_div, nm_shl, nm_shr, nm_ush, nm_or8, nm_or64, nm_or256, nm_m1, nm_m3, nm_m7, nm_m15, nm_m31, nm_m63, nm_m255, nm_m511, nm_m1023, nm_m2047, nm_m65535, Nat.reduceMod, Nat.reducePow, Nat.reduceAdd, Nat.reduceSub, Nat.reduceMul, nm_bo, nm_bi, nm_rc, nm_ic, nm_ri, nm_rl, nm_rq, nm_ql, nm_qi, nm_li, nm_us, nm_uu, nm_cp, nm_sa31, nm_sa7, nm_m127, nm_m2, nm_nz, nm_nzk, nm_eq32, nm_nzf, if_true, if_false, ↓reduceIte, if_pos, if_neg]
        · have t8 := y4 (by omega)
          have y18 := y18 (by omega)
          simp (disch := (first | assumption | decide | omega)) only [df_X16_descriptor_29, df_X16_descriptor_163, df_X16_descriptor_186, df_X16_descriptor_59, df_X16_descriptor_0, df_X16_descriptor, y7, n1, y9, y10, y18, eq_self, Nat.reduceEqDiff, Nat.reduceLeDiff, nl_0, nl_1, nl_2, nl_3, nl_4, nl_7, nl_8, nl_14, nl_15, nl_16, nl_19, nl_20, nl_21, nl_22, nl_26, nl_28, nl_48, nl_256, no_1, no_1024, pk_mul, nI_add, nm_ck, nI_clamp, nI_ltI, nI_leI, nI_eq, nb_b2, nb_b1, ↓nb_let, nm_z0, nm_z1, nb_II, nb_IR, nb_RI, nb_RR, nm_IL, nm_IQ, nm_RL, nm_RQ, nm_LI, nm_LR, nm_LL, nm_LQ, nm_QI, nm_QR, nm_QL, nm_QQ, nm_rr, nm_ii, nm_eqm, not_false_eq_true, pk_sub, nm_div, nm_shl, nm_shr, nm_ush, nm_or8, nm_or64, nm_or256, nm_m1, nm_m3, nm_m7, nm_m15, nm_m31, nm_m63, nm_m255, nm_m511, nm_m1023, nm_m2047, nm_m65535, Nat.reduceMod, Nat.reducePow, Nat.reduceAdd, Nat.reduceSub, Nat.reduceMul, nm_bo, nm_bi, nm_rc, nm_ic, nm_ri, nm_rl, nm_rq, nm_ql, nm_qi, nm_li, nm_us, nm_uu, nm_cp, nm_sa31, nm_sa7, nm_m127, nm_m2, nm_nz, nm_nzk, nm_eq32, nm_nzf, if_true, if_false, ↓reduceIte, if_pos, if_neg]
        · have y16 := y16 rfl
          simp (disch := (first | assumption | decide | omega)) only [df_X16_descriptor_29, df_X16_descriptor_163, df_X16_descriptor_186, df_X16_descriptor_59, df_X16_descriptor_0, df_X16_descriptor, y7, n1, y9, y10, y16, eq_self, Nat.reduceEqDiff, Nat.reduceLeDiff, nl_0, nl_1, nl_2, nl_3, nl_4, nl_7, nl_8, nl_14, nl_15, nl_16, nl_19, nl_20, nl_21, nl_22, nl_26, nl_28, nl_48, nl_256, no_1, no_1024, pk_mul, nI_add, nm_ck, nI_clamp, nI_ltI, nI_leI, nI_eq, nb_b2, nb_b1, ↓nb_let, nm_z0, nm_z1, nb_II, nb_IR, nb_RI, nb_RR, nm_IL, nm_IQ, nm_RL, nm_RQ, nm_LI, nm_LR, nm_LL, nm_LQ, nm_QI, nm_QR, nm_QL, nm_QQ, nm_rr, nm_ii, nm_eqm, not_false_eq_true, pk_sub, nm_div, nm_shl, nm_shr, nm_ush, nm_or8, nm_or64, nm_or256, nm_m1, nm_m3, nm_m7, nm_m15, nm_m31, nm_m63, nm_m255, nm_m511, nm_m1023, nm_m2047, nm_m65535, Nat.reduceMod, Nat.reducePow, Nat.reduceAdd, Nat.reduceSub, Nat.reduceMul, nm_bo, nm_bi, nm_rc, nm_ic, nm_ri, nm_rl, nm_rq, nm_ql, nm_qi, nm_li, nm_us, nm_uu, nm_cp, nm_sa31, nm_sa7, nm_m127, nm_m2, nm_nz, nm_nzk, nm_eq32, nm_nzf, if_true, if_false, ↓reduceIte, if_pos, if_neg]
        · have y17 := y17 rfl
          simp (disch := (first | assumption | decide | omega)) only [df_X16_descriptor_29, df_X16_descriptor_163, df_X16_descriptor_186, df_X16_descriptor_59, df_X16_descriptor_0, df_X16_descriptor, y7, n1, y9, y10, y17, eq_self, Nat.reduceEqDiff, Nat.reduceLeDiff, nl_0, nl_1, nl_2, nl_3, nl_4, nl_7, nl_8, nl_14, nl_15, nl_16, nl_19, nl_20, nl_21, nl_22, nl_26, nl_28, nl_48, nl_256, no_1, no_1024, pk_mul, nI_add, nm_ck, nI_clamp, nI_ltI, nI_leI, nI_eq, nb_b2, nb_b1, ↓nb_let, nm_z0, nm_z1, nb_II, nb_IR, nb_RI, nb_RR, nm_IL, nm_IQ, nm_RL, nm_RQ, nm_LI, nm_LR, nm_LL, nm_LQ, nm_QI, nm_QR, nm_QL, nm_QQ, nm_rr, nm_ii, nm_eqm, not_false_eq_true, pk_sub, nm_div, nm_shl, nm_shr, nm_ush, nm_or8, nm_or64, nm_or256, nm_m1, nm_m3, nm_m7, nm_m15, nm_m31, nm_m63, nm_m255, nm_m511, nm_m1023, nm_m2047, nm_m65535, Nat.reduceMod, Nat.reducePow, Nat.reduceAdd, Nat.reduceSub, Nat.reduceMul, nm_bo, nm_bi, nm_rc, nm_ic, nm_ri, nm_rl, nm_rq, nm_ql, nm_qi, nm_li, nm_us, nm_uu, nm_cp, nm_sa31, nm_sa7, nm_m127, nm_m2, nm_nz, nm_nzk, nm_eq32, nm_nzf, if_true, if_false, ↓reduceIte, if_pos, if_neg]
    · by_cases k3 : k = 3
      · have y13 := y13 k3
        subst k3
        refine Or.inr ⟨o, sR X.1 21 o, ho, y6, ?_, ?_⟩
        · simp (disch := (first | assumption | decide | omega)) only [df_X10_told_0, df_X10_told, df_X10_of_0, df_X10_of, y13, eq_self, Nat.reduceEqDiff, Nat.reduceLeDiff, nl_1, nl_2, nl_5, nl_240, no_1, no_1024, pk_mul, nI_add, nm_ck, nI_clamp, nI_ltI, nI_leI, nI_eq, nb_b2, nb_b1, ↓nb_let, nm_z0, nm_z1, nb_II, nb_IR, nb_RI, nb_RR, nm_IL, nm_IQ, nm_RL, nm_RQ, nm_LI, nm_LR, nm_LL, nm_LQ, nm_QI, nm_QR, nm_QL, nm_QQ, nm_rr, nm_ii, nm_eqm, not_false_eq_true, pk_sub, nm_div, nm_shl, nm_shr, nm_ush, nm_or8, nm_or64, nm_or256, nm_m1, nm_m3, nm_m7, nm_m15, nm_m31, nm_m63, nm_m255, nm_m511, nm_m1023, nm_m2047, nm_m65535, Nat.reduceMod, Nat.reducePow, Nat.reduceAdd, Nat.reduceSub, Nat.reduceMul, nm_bo, nm_bi, nm_rc, nm_ic, nm_ri, nm_rl, nm_rq, nm_ql, nm_qi, nm_li, nm_us, nm_uu, nm_cp, nm_sa31, nm_sa7, nm_m127, nm_m2, nm_nz, nm_nzk, nm_eq32, nm_nzf, if_true, if_false, ↓reduceIte, if_pos, if_neg]
        · simp (disch := (first | assumption | decide | omega)) only [df_X16_descriptor_29, df_X16_descriptor_163, df_X16_descriptor_186, df_X16_descriptor_59, df_X16_descriptor_0, df_X16_descriptor, y7, n1, y9, eq_self, Nat.reduceEqDiff, Nat.reduceLeDiff, nl_0, nl_1, nl_2, nl_3, nl_4, nl_7, nl_8, nl_14, nl_15, nl_16, nl_19, nl_20, nl_21, nl_22, nl_26, nl_28, nl_48, nl_256, no_1, no_1024, pk_mul, nI_add, nm_ck, nI_clamp, nI_ltI, nI_leI, nI_eq, nb_b2, nb_b1, ↓nb_let, nm_z0, nm_z1, nb_II, nb_IR, nb_RI, nb_RR, nm_IL, nm_IQ, nm_RL, nm_RQ, nm_LI, nm_LR, nm_LL, nm_LQ, nm_QI, nm_QR, nm_QL, nm_QQ, nm_rr, nm_ii, nm_eqm, not_false_eq_true, pk_sub, nm_div, nm_shl, nm_shr, nm_ush, nm_or8, nm_or64, nm_or256, nm_m1, nm_m3, nm_m7, nm_m15, nm_m31, nm_m63, nm_m255, nm_m511, nm_m1023, nm_m2047, nm_m65535, Nat.reduceMod, Nat.reducePow, Nat.reduceAdd, Nat.reduceSub, Nat.reduceMul, nm_bo, nm_bi, nm_rc, nm_ic, nm_ri, nm_rl, nm_rq, nm_ql, nm_qi, nm_li, nm_us, nm_uu, nm_cp, nm_sa31, nm_sa7, nm_m127, nm_m2, nm_nz, nm_nzk, nm_eq32, nm_nzf, if_true, if_false, ↓reduceIte, if_pos, if_neg]
      · have y14 := y14 k3
        have n3 : ¬ nI k = nI 3 := fun z => by rw [nI_eq (by omega) (by omega)] at z; exact k3 z
        refine Or.inr ⟨o, nI 0, ho, y6, ?_, ?_⟩
        · simp (disch := (first | assumption | decide | omega)) only [df_X10_told_0, df_X10_told, df_X10_of_0, df_X10_of, y14, eq_self, Nat.reduceEqDiff, Nat.reduceLeDiff, nl_1, nl_2, nl_5, nl_240, no_1, no_1024, pk_mul, nI_add, nm_ck, nI_clamp, nI_ltI, nI_leI, nI_eq, nb_b2, nb_b1, ↓nb_let, nm_z0, nm_z1, nb_II, nb_IR, nb_RI, nb_RR, nm_IL, nm_IQ, nm_RL, nm_RQ, nm_LI, nm_LR, nm_LL, nm_LQ, nm_QI, nm_QR, nm_QL, nm_QQ, nm_rr, nm_ii, nm_eqm, not_false_eq_true, pk_sub, nm_div, nm_shl, nm_shr, nm_ush, nm_or8, nm_or64, nm_or256, nm_m1, nm_m3, nm_m7, nm_m15, nm_m31, nm_m63, nm_m255, nm_m511, nm_m1023, nm_m2047, nm_m65535, Nat.reduceMod, Nat.reducePow, Nat.reduceAdd, Nat.reduceSub, Nat.reduceMul, nm_bo, nm_bi, nm_rc, nm_ic, nm_ri, nm_rl, nm_rq, nm_ql, nm_qi, nm_li, nm_us, nm_uu, nm_cp, nm_sa31, nm_sa7, nm_m127, nm_m2, nm_nz, nm_nzk, nm_eq32, nm_nzf, if_true, if_false, ↓reduceIte, if_pos, if_neg]
        · simp (disch := (first | assumption | decide | omega)) only [df_X16_descriptor_29, df_X16_descriptor_163, df_X16_descriptor_186, df_X16_descriptor_59, df_X16_descriptor_0, df_X16_descriptor, y7, n1, y9, n3, eq_self, Nat.reduceEqDiff, Nat.reduceLeDiff, nl_0, nl_1, nl_2, nl_3, nl_4, nl_7, nl_8, nl_14, nl_15, nl_16, nl_19, nl_20, nl_21, nl_22, nl_26, nl_28, nl_48, nl_256, no_1, no_1024, pk_mul, nI_add, nm_ck, nI_clamp, nI_ltI, nI_leI, nI_eq, nb_b2, nb_b1, ↓nb_let, nm_z0, nm_z1, nb_II, nb_IR, nb_RI, nb_RR, nm_IL, nm_IQ, nm_RL, nm_RQ, nm_LI, nm_LR, nm_LL, nm_LQ, nm_QI, nm_QR, nm_QL, nm_QQ, nm_rr, nm_ii, nm_eqm, not_false_eq_true, pk_sub, nm_div, nm_shl, nm_shr, nm_ush, nm_or8, nm_or64, nm_or256, nm_m1, nm_m3, nm_m7, nm_m15, nm_m31, nm_m63, nm_m255, nm_m511, nm_m1023, nm_m2047, nm_m65535, Nat.reduceMod, Nat.reducePow, Nat.reduceAdd, Nat.reduceSub, Nat.reduceMul, nm_bo, nm_bi, nm_rc, nm_ic, nm_ri, nm_rl, nm_rq, nm_ql, nm_qi, nm_li, nm_us, nm_uu, nm_cp, nm_sa31, nm_sa7, nm_m127, nm_m2, nm_nz, nm_nzk, nm_eq32, nm_nzf, if_true, if_false, ↓reduceIte, if_pos, if_neg]
    · refine Or.inr ⟨o, sR X.1 22 o, ho, y6, ?_, ?_⟩
      · simp (disch := (first | assumption | decide | omega)) only [df_X10_told_0, df_X10_told, df_X10_of_0, df_X10_of, y12, eq_self, Nat.reduceEqDiff, Nat.reduceLeDiff, nl_1, nl_2, nl_5, nl_240, no_1, no_1024, pk_mul, nI_add, nm_ck, nI_clamp, nI_ltI, nI_leI, nI_eq, nb_b2, nb_b1, ↓nb_let, nm_z0, nm_z1, nb_II, nb_IR, nb_RI, nb_RR, nm_IL, nm_IQ, nm_RL, nm_RQ, nm_LI, nm_LR, nm_LL, nm_LQ, nm_QI, nm_QR, nm_QL, nm_QQ, nm_rr, nm_ii, nm_eqm, not_false_eq_true, pk_sub, nm_div, nm_shl, nm_shr, nm_ush, nm_or8, nm_or64, nm_or256, nm_m1, nm_m3, nm_m7, nm_m15, nm_m31, nm_m63, nm_m255, nm_m511, nm_m1023, nm_m2047, nm_m65535, Nat.reduceMod, Nat.reducePow, Nat.reduceAdd, Nat.reduceSub, Nat.reduceMul, nm_bo, nm_bi, nm_rc, nm_ic, nm_ri, nm_rl, nm_rq, nm_ql, nm_qi, nm_li, nm_us, nm_uu, nm_cp, nm_sa31, nm_sa7, nm_m127, nm_m2, nm_nz, nm_nzk, nm_eq32, nm_nzf, if_true, if_false, ↓reduceIte, if_pos, if_neg]
      · simp (disch := (first | assumption | decide | omega)) only [df_X16_descriptor_29, df_X16_descriptor_163, df_X16_descriptor_186, df_X16_descriptor_59, df_X16_descriptor_0, df_X16_descriptor, y7, n1, y9, eq_self, Nat.reduceEqDiff, Nat.reduceLeDiff, nl_0, nl_1, nl_2, nl_3, nl_4, nl_7, nl_8, nl_14, nl_15, nl_16, nl_19, nl_20, nl_21, nl_22, nl_26, nl_28, nl_48, nl_256, no_1, no_1024, pk_mul, nI_add, nm_ck, nI_clamp, nI_ltI, nI_leI, nI_eq, nb_b2, nb_b1, ↓nb_let, nm_z0, nm_z1, nb_II, nb_IR, nb_RI, nb_RR, nm_IL, nm_IQ, nm_RL, nm_RQ, nm_LI, nm_LR, nm_LL, nm_LQ, nm_QI, nm_QR, nm_QL, nm_QQ, nm_rr, nm_ii, nm_eqm, not_false_eq_true, pk_sub, nm_div, nm_shl, nm_shr, nm_ush, nm_or8, nm_or64, nm_or256, nm_m1, nm_m3, nm_m7, nm_m15, nm_m31, nm_m63, nm_m255, nm_m511, nm_m1023, nm_m2047, nm_m65535, Nat.reduceMod, Nat.reducePow, Nat.reduceAdd, Nat.reduceSub, Nat.reduceMul, nm_bo, nm_bi, nm_rc, nm_ic, nm_ri, nm_rl, nm_rq, nm_ql, nm_qi, nm_li, nm_us, nm_uu, nm_cp, nm_sa31, nm_sa7, nm_m127, nm_m2, nm_nz, nm_nzk, nm_eq32, nm_nzf, if_true, if_false, ↓reduceIte, if_pos, if_neg]
/-- descriptor -/
theorem jc_descriptor (n T L : Nat) (hn : 70000 < n) (p d w : Int32) (σ : S12) (τ : S19) (h : jA n (tl σ) τ) : ∃ (v : Int32) (τ' : S19), df_X12_descriptor n T L p d w σ = some (v, σ) ∧ df_X19_descriptor n p d w τ = some (v, τ') ∧ jA n (tl σ) τ' ∧ kR τ τ' := by
  have n1 : ¬ nI 1 = (0 : Int32) := by decide
  have n0 : nI 0 = (0 : Int32) := rfl
  obtain ⟨P, hP, rfl⟩ := nI_ex p
  obtain ⟨D, hD, rfl⟩ := nI_ex d
  obtain ⟨W, hW, rfl⟩ := nI_ex w
  have iD : df_X19_in n (nI D).toInt64 0 15 () = some (if D ≤ 15 then nI 1 else nI 0, ()) := in_b n (b := 15) hD (by omega) rfl
  have i15 : df_X19_in n (nI P).toInt64 0 15 () = some (if P ≤ 15 then nI 1 else nI 0, ()) := in_b n (b := 15) hP (by omega) rfl
  have w0 : nI W = (0 : Int32) ↔ W = 0 := ⟨fun z => by
    have z : nI W = nI 0 := z
    by_cases y : W < 2 ^ 31
    · rw [nI_eq y (by omega)] at z; exact z
    · have := nm_neg (by omega) hW
      rw [z] at this
      exact absurd this (by decide), fun z => by rw [z]; rfl⟩
  have no32 : ∀ s : S19, df_X19_descriptor_32 n (nI D) (nI W) s = some (if W = 0 ∧ D ≤ 15 then 0 else -1, s) := fun s => by
    unfold df_X19_descriptor_32 df_X19_descriptor_52 df_X19_descriptor_53
    by_cases c : W = 0
    · rw [if_pos (w0.mpr c), iD, nb_b2]
      by_cases c2 : D ≤ 15
      · rw [if_pos c2, if_neg n1, if_pos ⟨c, c2⟩]
      · rw [if_neg c2, if_pos n0, if_neg (fun z => c2 z.2)]
    · rw [if_neg (fun z => c (w0.mp z)), if_neg (fun z => c z.1)]
  -- both refuse
  have bad : ¬ (D ≤ 15 ∧ W ≤ 4) → df_X12_descriptor n T L (nI P) (nI D) (nI W) σ = some (-1, σ) := fun z => by
    unfold df_X12_descriptor df_X12_descriptor_0 df_X12_descriptor_19
    by_cases c : D ≤ 15
    · obtain ⟨a1, a2⟩ := rg_c hD (k := 16) (by omega) (by omega)
      rw [if_neg a1, if_neg (show ¬ (16 : Int32) ≤ nI D from a2)]
      rcases rg_e hW (k := 4) (by omega) (fun y => z ⟨c, y⟩) with b | ⟨b1, b2⟩
      · rw [if_pos b]
      · rw [if_neg b1, if_neg (show ¬ nI W ≤ (4 : Int32) from b2)]
    · rcases rg_d hD (k := 16) (by omega) (by omega) with b | ⟨b1, b2⟩
      · rw [if_pos b]
      · rw [if_neg b1, if_pos (show (16 : Int32) ≤ nI D from b2)]
  have go : D ≤ 15 ∧ W ≤ 4 → df_X12_descriptor n T L (nI P) (nI D) (nI W) σ = nd_b2 (df_X12_isThere n T L (nI P) σ) (fun q5 s6 => if q5 = 0 then (df_X12_descriptor_48 n T L (nI W) (-1) s6) else (nd_b2 (df_X10_openingOf n (nI P) (nI D) s6.2.2.2.2.2.1.2.2.2) (fun q15 s16 => nd_let ((s6.1, (s6.2.1, (s6.2.2.1, (s6.2.2.2.1, (s6.2.2.2.2.1, ((s6.2.2.2.2.2.1.1, (s6.2.2.2.2.2.1.2.1, (s6.2.2.2.2.2.1.2.2.1, s16))), s6.2.2.2.2.2.2))))))) (fun s18 => df_X12_descriptor_48 n T L (nI W) q15 s18)))) := fun z => by
    obtain ⟨a1, a2⟩ := rg_c hD (k := 16) (by omega) (by omega)
    obtain ⟨b1, b2⟩ := rg_a hW (k := 4) (by omega) z.2
    unfold df_X12_descriptor df_X12_descriptor_0
    rw [if_neg a1, if_neg (show ¬ (16 : Int32) ≤ nI D from a2), if_neg b1, if_pos (show nI W ≤ (4 : Int32) from (show nI W ≤ nI 4 by rw [nI_leI (by omega) (by omega)]; exact z.2))]
  have m48 : ∀ s : S12, df_X12_descriptor_48 n T L (nI W) (-1) s = some (if W = 0 then 0 else -1, s) := fun s => by
    unfold df_X12_descriptor_48 df_X12_descriptor_64
    rw [if_neg (show ¬ (0 : Int32) ≤ -1 by decide)]
    by_cases c : W = 0
    · rw [if_pos (w0.mpr c), if_pos c]
    · rw [if_neg (fun z => c (w0.mp z)), if_neg c]
  have val : D ≤ 15 ∧ W ≤ 4 → (if W = 0 then 0 else -1 : Int32) = if W = 0 ∧ D ≤ 15 then 0 else -1 := fun z => by
    by_cases c : W = 0
    · rw [if_pos c, if_pos ⟨c, z.1⟩]
    · rw [if_neg c, if_neg (fun y => c y.1)]
  have nval : ¬ (D ≤ 15 ∧ W ≤ 4) → (-1 : Int32) = if W = 0 ∧ D ≤ 15 then 0 else -1 := fun z => by
    rw [if_neg (fun y => z ⟨y.2, by omega⟩)]
  rcases jc_shows n hn h with ⟨h1, h2, h3⟩ | ⟨vn, Q, V, N, T', e, c, lo, τ', h1, h2, h3, h4, h5, h6, h7, h8⟩
  · refine ⟨if W = 0 ∧ D ≤ 15 then 0 else -1, (pI τ.1 0 0, τ.2), ?_, ?_, jA_0 h 0, kR_0 τ 0⟩
    · by_cases c : D ≤ 15 ∧ W ≤ 4
      · rw [go c, it_0 n T L h1, nb_b2, if_pos rfl, m48, val c]
      · rw [bad c, ← nval c]
    · unfold df_X19_descriptor df_X19_descriptor_0
      rw [h2, nb_b2, if_pos n0, no32]
  · by_cases y : P < 16
    · by_cases c : D ≤ 15 ∧ W ≤ 4
      · rcases sg_dtold n (by omega) h5 y (show D < 16 by omega) c.2 with ⟨e1, e2⟩ | ⟨o, r, ho, e1, e2, e3⟩
        · refine ⟨if W = 0 then 0 else -1, τ', ?_, ?_, h8, h7⟩
          · have e1 : df_X10_openingOf n (nI P) (nI D) σ.2.2.2.2.2.1.2.2.2 = some (-nI 1, σ.2.2.2.2.2.1.2.2.2) := e1
            rw [go c, it_1 n T L h1 hP, nb_b2, if_pos y, if_neg n1, e1, nb_b2, nb_let, show -nI 1 = (-1 : Int32) from rfl, m48]
          · unfold df_X19_descriptor df_X19_descriptor_0 df_X19_descriptor_53
            rw [h2, nb_b2, if_neg n1, i15, nb_b2, if_pos (show P ≤ 15 by omega), if_neg n1, e2, nb_b2, nb_let]
        · refine ⟨r, τ', ?_, ?_, h8, h7⟩
          · have e1 : df_X10_openingOf n (nI P) (nI D) σ.2.2.2.2.2.1.2.2.2 = some (nI o, σ.2.2.2.2.2.1.2.2.2) := e1
            have e2 : df_X10_told n (nI o) (nI W) σ.2.2.2.2.2.1.2.2.2 = some (r, σ.2.2.2.2.2.1.2.2.2) := e2
            rw [go c, it_1 n T L h1 hP, nb_b2, if_pos y, if_neg n1, e1, nb_b2, nb_let]
            unfold df_X12_descriptor_48
            rw [if_pos (show (0 : Int32) ≤ nI o from (show nI 0 ≤ nI o by rw [nI_leI (by omega) (by omega)]; omega))]
            dsimp only
            rw [e2, nb_b2, nb_let]
          · unfold df_X19_descriptor df_X19_descriptor_0 df_X19_descriptor_53
            rw [h2, nb_b2, if_neg n1, i15, nb_b2, if_pos (show P ≤ 15 by omega), if_neg n1, e3, nb_b2, nb_let]
      · refine ⟨-1, τ', bad c, ?_, h8, h7⟩
        have e2 : df_X16_descriptor n (nI P) (nI D) (nI W) τ'.2.2.1.2 = some (-1, τ'.2.2.1.2) := by
          unfold df_X16_descriptor df_X16_descriptor_0 df_X16_descriptor_29
          obtain ⟨a1, a2⟩ := rg_a hP (k := 15) (by omega) (by omega)
          rw [if_neg a1, if_neg (show ¬ (15 : Int32) < nI P from a2)]
          by_cases c2 : D ≤ 15
          · obtain ⟨b1, b2⟩ := rg_a hD (k := 15) (by omega) c2
            rw [if_neg b1, if_neg (show ¬ (15 : Int32) < nI D from b2)]
            rcases rg_e hW (k := 4) (by omega) (fun y => c ⟨c2, y⟩) with b | ⟨b3, b4⟩
            · rw [if_pos b]
            · rw [if_neg b3, if_neg (show ¬ nI W ≤ (4 : Int32) from b4)]
          · rcases rg_b hD (k := 15) (by omega) c2 with b | ⟨b1, b2⟩
            · rw [if_pos b]
            · rw [if_neg b1, if_pos (show (15 : Int32) < nI D from b2)]
        unfold df_X19_descriptor df_X19_descriptor_0 df_X19_descriptor_53
        rw [h2, nb_b2, if_neg n1, i15, nb_b2, if_pos (show P ≤ 15 by omega), if_neg n1, e2, nb_b2, nb_let]
    · refine ⟨if W = 0 ∧ D ≤ 15 then 0 else -1, τ', ?_, ?_, h8, h7⟩
      · by_cases c : D ≤ 15 ∧ W ≤ 4
        · rw [go c, it_1 n T L h1 hP, nb_b2, if_neg y, if_pos n0, m48, val c]
        · rw [bad c, ← nval c]
      · unfold df_X19_descriptor df_X19_descriptor_0
        rw [h2, nb_b2, if_neg n1, i15, nb_b2, if_neg (show ¬ P ≤ 15 by omega), if_pos n0, no32]
/-- a byte of what a descriptor leads to, in both -/
theorem sg_byte (n : Nat) (hn : 1024 < n) {B : Nat} {M X : St × St} (h : rM B M X) {p d i : Nat} (hp : p < 16) (hd : d < 2 ^ 32) (hi : i < 2 ^ 32) : (∃ q : Int32, q < 0 ∧ df_X10_openingOf n (nI p) (nI d) M.2 = some (q, M.2) ∧ df_X16_heldByte n (nI p) (nI d) (nI i) X = some (-1, X)) ∨ ∃ (o L : Nat), o < 48 ∧ L ≤ 512 ∧ df_X10_openingOf n (nI p) (nI d) M.2 = some (nI o, M.2) ∧ df_X10_amount n (nI o) M.2 = some (nI L, M.2) ∧ ((¬ i < L ∧ df_X16_heldByte n (nI p) (nI d) (nI i) X = some (-1, X)) ∨ (i < L ∧ ∃ z : Nat, df_X10_byteOf n (nI o) (nI i) M.2 = some (nI z, M.2) ∧ df_X16_heldByte n (nI p) (nI d) (nI i) X = some (nI z, X))) := by
  have n1' : ∀ v : Int32, v ≤ 0 → df_X16_descriptor n (nI p) (nI d) 2 X = some (v, X) → df_X16_heldByte n (nI p) (nI d) (nI i) X = some (-1, X) := fun v hv e => by
    unfold df_X16_heldByte df_X16_heldByte_0 df_X16_heldByte_19
    rw [e, nb_b2]
    by_cases a : nI i < (0 : Int32)
    · rw [if_pos a]
    · rw [if_neg a, if_neg (show ¬ nI i < v from fun z => a (by
        rw [Int32.lt_iff_toInt_lt] at z ⊢
        rw [Int32.le_iff_toInt_le] at hv
        have : (0 : Int32).toInt = 0 := rfl
        omega))]
  by_cases hd' : d < 16
  · rcases sg_desc n h hp hd' with ⟨a1, a2⟩ | ⟨o, k, t, L, ho, y1, y2, y3, y4, y5, y6, y7, y8, y9, y10, y11, y12, y13, y14, y15, y16, y17, y18, y19⟩
    · refine Or.inl ⟨-nI 1, by decide, a1, ?_⟩
      rcases sg_dtold n hn h hp hd' (w := 2) (by omega) with ⟨_, e2⟩ | ⟨o, r, ho, e1, _⟩
      · exact n1' _ (by decide) e2
      · rw [a1] at e1
        injection e1 with e1
        injection e1 with e1
        exact absurd e1.symm (nk_ne (by omega))
    · refine Or.inr ⟨o, L, ho, y5, y6, y15, ?_⟩
      have e2 : df_X16_descriptor n (nI p) (nI d) 2 X = some (nI L, X) := by
        rcases sg_dtold n hn h hp hd' (w := 2) (by omega) with ⟨e1, _⟩ | ⟨o', r, ho', e1, e2, e3⟩
        · rw [y6] at e1
          injection e1 with e1
          injection e1 with e1
          exact absurd e1 (nk_ne (by omega))
        · rw [y6] at e1
          injection e1 with e1
          injection e1 with e1 _
          rw [← e1] at e2
          unfold df_X10_told df_X10_told_0 at e2
          rw [if_neg (show ¬ nI 2 = (1 : Int32) by decide), if_pos (show nI 2 = (2 : Int32) from rfl), y15, nb_b2] at e2
          injection e2 with e2
          injection e2 with e2 _
          rw [e2]
          exact e3
      by_cases c : i < L
      · refine Or.inr ⟨c, ?_⟩
        obtain ⟨z, z1, z2, z3, z4⟩ := y19 i c
        refine ⟨z, z1, ?_⟩
        have u1 : p < 2 ^ 31 := by omega
        have u2 : d < 2 ^ 31 := by omega
        have u3 : i < 2 ^ 31 := by omega
        have u4 : L < 2 ^ 31 := by omega
        have u5 : o < 2 ^ 31 := by omega
        have u6 : 16 * p + d < 256 := by omega
        have u7 : t < 2 ^ 31 := by omega
        have u8 : i < 512 := by omega
        have hk : k = 1 ∨ k = 2 ∨ k = 3 ∨ k = 4 := by omega
        have e2 : df_X16_descriptor n (nI p) (nI d) (nI 2) X = some (nI L, X) := e2
        rcases hk with rfl | rfl | rfl | rfl
        · have t8 := y4 (by omega)
          have z4 := z4 (by omega)
          have v : 512 * t + i < 4096 := by omega
          simp (disch := (first | assumption | decide | omega)) only [df_X16_heldByte_19, df_X16_heldByte_104, df_X16_heldByte_0, df_X16_heldByte, e2, y7, y9, y10, z4, eq_self, Nat.reduceEqDiff, Nat.reduceLeDiff, nl_0, nl_1, nl_2, nl_3, nl_4, nl_14, nl_16, nl_19, nl_20, nl_27, nl_29, nl_31, nl_48, nl_256, nl_512, nl_4096, nl_8192, no_1, no_1024, pk_mul, nI_add, nm_ck, nI_clamp, nI_ltI, nI_leI, nI_eq, nb_b2, nb_b1, ↓nb_let, nm_z0, nm_z1, nb_II, nb_IR, nb_RI, nb_RR, nm_IL, nm_IQ, nm_RL, nm_RQ, nm_LI, nm_LR, nm_LL, nm_LQ, nm_QI, nm_QR, nm_QL, nm_QQ, nm_rr, nm_ii, nm_eqm, not_false_eq_true, pk_sub, nm_div, nm_shl, nm_shr, nm_ush, nm_or8, nm_or64, nm_or256, nm_m1, nm_m3, nm_m7, nm_m15, nm_m31, nm_m63, nm_m255, nm_m511, nm_m1023, nm_m2047, nm_m65535, Nat.reduceMod, Nat.reducePow, Nat.reduceAdd, Nat.reduceSub, Nat.reduceMul, nm_bo, nm_bi, nm_rc, nm_ic, nm_ri, nm_rl, nm_rq, nm_ql, nm_qi, nm_li, nm_us, nm_uu, nm_cp, nm_sa31, nm_sa7, nm_m127, nm_m2, nm_nz, nm_nzk, nm_eq32, nm_nzf, if_true, if_false, ↓reduceIte, if_pos, if_neg]
        · have t8 := y4 (by omega)
          have z4 := z4 (by omega)
          have v : 512 * t + i < 4096 := by omega
          simp (disch := (first | assumption | decide | omega)) only [df_X16_heldByte_19, df_X16_heldByte_104, df_X16_heldByte_0, df_X16_heldByte, e2, y7, y9, y10, z4, eq_self, Nat.reduceEqDiff, Nat.reduceLeDiff, nl_0, nl_1, nl_2, nl_3, nl_4, nl_14, nl_16, nl_19, nl_20, nl_27, nl_29, nl_31, nl_48, nl_256, nl_512, nl_4096, nl_8192, no_1, no_1024, pk_mul, nI_add, nm_ck, nI_clamp, nI_ltI, nI_leI, nI_eq, nb_b2, nb_b1, ↓nb_let, nm_z0, nm_z1, nb_II, nb_IR, nb_RI, nb_RR, nm_IL, nm_IQ, nm_RL, nm_RQ, nm_LI, nm_LR, nm_LL, nm_LQ, nm_QI, nm_QR, nm_QL, nm_QQ, nm_rr, nm_ii, nm_eqm, not_false_eq_true, pk_sub, nm_div, nm_shl, nm_shr, nm_ush, nm_or8, nm_or64, nm_or256, nm_m1, nm_m3, nm_m7, nm_m15, nm_m31, nm_m63, nm_m255, nm_m511, nm_m1023, nm_m2047, nm_m65535, Nat.reduceMod, Nat.reducePow, Nat.reduceAdd, Nat.reduceSub, Nat.reduceMul, nm_bo, nm_bi, nm_rc, nm_ic, nm_ri, nm_rl, nm_rq, nm_ql, nm_qi, nm_li, nm_us, nm_uu, nm_cp, nm_sa31, nm_sa7, nm_m127, nm_m2, nm_nz, nm_nzk, nm_eq32, nm_nzf, if_true, if_false, ↓reduceIte, if_pos, if_neg]
        · have z2 := z2 rfl
          have v : 512 * t + i < 8192 := by omega
          simp (disch := (first | assumption | decide | omega)) only [df_X16_heldByte_19, df_X16_heldByte_104, df_X16_heldByte_0, df_X16_heldByte, e2, y7, y9, y10, z2, eq_self, Nat.reduceEqDiff, Nat.reduceLeDiff, nl_0, nl_1, nl_2, nl_3, nl_4, nl_14, nl_16, nl_19, nl_20, nl_27, nl_29, nl_31, nl_48, nl_256, nl_512, nl_4096, nl_8192, no_1, no_1024, pk_mul, nI_add, nm_ck, nI_clamp, nI_ltI, nI_leI, nI_eq, nb_b2, nb_b1, ↓nb_let, nm_z0, nm_z1, nb_II, nb_IR, nb_RI, nb_RR, nm_IL, nm_IQ, nm_RL, nm_RQ, nm_LI, nm_LR, nm_LL, nm_LQ, nm_QI, nm_QR, nm_QL, nm_QQ, nm_rr, nm_ii, nm_eqm, not_false_eq_true, pk_sub, nm_div, nm_shl, nm_shr, nm_ush, nm_or8, nm_or64, nm_or256, nm_m1, nm_m3, nm_m7, nm_m15, nm_m31, nm_m63, nm_m255, nm_m511, nm_m1023, nm_m2047, nm_m65535, Nat.reduceMod, Nat.reducePow, Nat.reduceAdd, Nat.reduceSub, Nat.reduceMul, nm_bo, nm_bi, nm_rc, nm_ic, nm_ri, nm_rl, nm_rq, nm_ql, nm_qi, nm_li, nm_us, nm_uu, nm_cp, nm_sa31, nm_sa7, nm_m127, nm_m2, nm_nz, nm_nzk, nm_eq32, nm_nzf, if_true, if_false, ↓reduceIte, if_pos, if_neg]
        · have z3 := z3 rfl
          simp (disch := (first | assumption | decide | omega)) only [df_X16_heldByte_19, df_X16_heldByte_104, df_X16_heldByte_0, df_X16_heldByte, e2, y7, y9, y10, z3, eq_self, Nat.reduceEqDiff, Nat.reduceLeDiff, nl_0, nl_1, nl_2, nl_3, nl_4, nl_14, nl_16, nl_19, nl_20, nl_27, nl_29, nl_31, nl_48, nl_256, nl_512, nl_4096, nl_8192, no_1, no_1024, pk_mul, nI_add, nm_ck, nI_clamp, nI_ltI, nI_leI, nI_eq, nb_b2, nb_b1, ↓nb_let, nm_z0, nm_z1, nb_II, nb_IR, nb_RI, nb_RR, nm_IL, nm_IQ, nm_RL, nm_RQ, nm_LI, nm_LR, nm_LL, nm_LQ, nm_QI, nm_QR, nm_QL, nm_QQ, nm_rr, nm_ii, nm_eqm, not_false_eq_true, pk_sub, nm_div, nm_shl, nm_shr, nm_ush, nm_or8, nm_or64, nm_or256, nm_m1, nm_m3, nm_m7, nm_m15, nm_m31, nm_m63, nm_m255, nm_m511, nm_m1023, nm_m2047, nm_m65535, Nat.reduceMod, Nat.reducePow, Nat.reduceAdd, Nat.reduceSub, Nat.reduceMul, nm_bo, nm_bi, nm_rc, nm_ic, nm_ri, nm_rl, nm_rq, nm_ql, nm_qi, nm_li, nm_us, nm_uu, nm_cp, nm_sa31, nm_sa7, nm_m127, nm_m2, nm_nz, nm_nzk, nm_eq32, nm_nzf, if_true, if_false, ↓reduceIte, if_pos, if_neg]
      · refine Or.inl ⟨c, ?_⟩
        unfold df_X16_heldByte df_X16_heldByte_0 df_X16_heldByte_19
        rw [e2, nb_b2]
        rcases rg_d hi (k := L) (by omega) c with b | ⟨b1, b2⟩
        · rw [if_pos b]
        · rw [if_neg b1, if_neg (show ¬ nI i < nI L from fun z => by rw [Int32.lt_iff_toInt_lt] at z; rw [Int32.le_iff_toInt_le] at b2; omega)]
  · refine Or.inl ⟨-1, by decide, ?_, ?_⟩
    · unfold df_X10_openingOf df_X10_openingOf_0 df_X10_openingOf_10 df_X10_openingOf_27
      rcases rg_d hd (k := 16) (by omega) hd' with b | ⟨b1, b2⟩
      · rw [if_pos b]
      · rw [if_neg b1, if_neg (show ¬ nI d < (16 : Int32) from fun z => by have z : nI d < nI 16 := z; rw [Int32.lt_iff_toInt_lt] at z; rw [Int32.le_iff_toInt_le] at b2; omega)]
    · refine n1' (-1) (by decide) ?_
      unfold df_X16_descriptor df_X16_descriptor_0 df_X16_descriptor_29
      obtain ⟨a1, a2⟩ := rg_a (A := p) (k := 15) (by omega) (by omega) (by omega)
      rw [if_neg a1, if_neg (show ¬ (15 : Int32) < nI p from a2)]
      rcases rg_b hd (k := 15) (by omega) (by omega) with b | ⟨b1, b2⟩
      · rw [if_pos b]
      · rw [if_neg b1, if_pos (show (15 : Int32) < nI d from b2)]
/-- held -/
theorem jc_held (n T L : Nat) (hn : 70000 < n) (p d i : Int32) (σ : S12) (τ : S19) (h : jA n (tl σ) τ) : ∃ (v : Int32) (τ' : S19), df_X12_held n T L p d i σ = some (v, σ) ∧ df_X19_held n p d i τ = some (v, τ') ∧ jA n (tl σ) τ' ∧ kR τ τ' := by
  have n1 : ¬ nI 1 = (0 : Int32) := by decide
  have n0 : nI 0 = (0 : Int32) := rfl
  obtain ⟨P, hP, rfl⟩ := nI_ex p
  obtain ⟨D, hD, rfl⟩ := nI_ex d
  obtain ⟨I, hI, rfl⟩ := nI_ex i
  have i15 : df_X19_in n (nI P).toInt64 0 15 () = some (if P ≤ 15 then nI 1 else nI 0, ()) := in_b n (b := 15) hP (by omega) rfl
  have m27 : ∀ (q : Int32) (s : S12), q < 0 → df_X12_held_27 n T L (nI I) q s = some (-1, s) := fun q s hq => by
    unfold df_X12_held_27 df_X12_held_57
    rw [if_pos hq]
  rcases jc_shows n hn h with ⟨h1, h2, h3⟩ | ⟨vn, Q, V, N, T', e, c, lo, τ', h1, h2, h3, h4, h5, h6, h7, h8⟩
  · refine ⟨-1, (pI τ.1 0 0, τ.2), ?_, ?_, jA_0 h 0, kR_0 τ 0⟩
    · unfold df_X12_held df_X12_held_0
      rw [it_0 n T L h1, nb_b2, if_pos rfl, m27 _ _ (by decide)]
    · unfold df_X19_held df_X19_held_0 df_X19_held_32 df_X19_held_33
      rw [h2, nb_b2, if_pos n0]
  · by_cases y : P < 16
    · have goC : ∀ (q : Int32), df_X10_openingOf n (nI P) (nI D) (tl σ).2.2.1.2.2.2 = some (q, (tl σ).2.2.1.2.2.2) → df_X12_held n T L (nI P) (nI D) (nI I) σ = df_X12_held_27 n T L (nI I) q σ := fun q e => by
        have e : df_X10_openingOf n (nI P) (nI D) σ.2.2.2.2.2.1.2.2.2 = some (q, σ.2.2.2.2.2.1.2.2.2) := e
        unfold df_X12_held df_X12_held_0
        rw [it_1 n T L h1 hP, nb_b2, if_pos y, if_neg n1, e, nb_b2, nb_let]
      have goR : ∀ (v : Int32), df_X16_heldByte n (nI P) (nI D) (nI I) τ'.2.2.1.2 = some (v, τ'.2.2.1.2) → df_X19_held n (nI P) (nI D) (nI I) τ = some (v, τ') := fun v e => by
        unfold df_X19_held df_X19_held_0 df_X19_held_33
        rw [h2, nb_b2, if_neg n1, i15, nb_b2, if_pos (show P ≤ 15 by omega), if_neg n1, e, nb_b2, nb_let]
      rcases sg_byte n (by omega) h5 y hD hI with ⟨q, q1, q2, q3⟩ | ⟨o, Lh, ho, hL, e1, e2, e3⟩
      · exact ⟨-1, τ', by rw [goC q q2, m27 _ _ q1], goR _ q3, h8, h7⟩
      · have e2 : df_X10_amount n (nI o) σ.2.2.2.2.2.1.2.2.2 = some (nI Lh, σ.2.2.2.2.2.1.2.2.2) := e2
        have o0 : ¬ nI o < (0 : Int32) := fun z => by rw [lz_0 (by omega)] at z; omega
        rcases e3 with ⟨c1, c2⟩ | ⟨c1, z, z1, z2⟩
        · refine ⟨-1, τ', ?_, goR _ c2, h8, h7⟩
          rw [goC _ e1]
          unfold df_X12_held_27 df_X12_held_57
          rw [if_neg o0]
          rcases rg_d hI (k := Lh) (by omega) c1 with b | ⟨b1, b2⟩
          · rw [if_pos b]
          · rw [if_neg b1, e2, nb_b2, nb_let, if_neg (show ¬ nI I < nI Lh from fun z => by rw [Int32.lt_iff_toInt_lt] at z; rw [Int32.le_iff_toInt_le] at b2; omega)]
        · refine ⟨nI z, τ', ?_, goR _ z2, h8, h7⟩
          have z1 : df_X10_byteOf n (nI o) (nI I) σ.2.2.2.2.2.1.2.2.2 = some (nI z, σ.2.2.2.2.2.1.2.2.2) := z1
          rw [goC _ e1]
          unfold df_X12_held_27
          rw [if_neg o0, if_neg (show ¬ nI I < (0 : Int32) from fun z => by rw [lz_0 hI] at z; omega), e2, nb_b2, nb_let, if_pos (show nI I < nI Lh by rw [nI_ltI (by omega) (by omega)]; exact c1)]
          dsimp only
          rw [z1, nb_b2, nb_let]
    · refine ⟨-1, τ', ?_, ?_, h8, h7⟩
      · unfold df_X12_held df_X12_held_0
        rw [it_1 n T L h1 hP, nb_b2, if_neg y, if_pos n0, m27 _ _ (by decide)]
      · unfold df_X19_held df_X19_held_0 df_X19_held_32 df_X19_held_33
        rw [h2, nb_b2, if_neg n1, i15, nb_b2, if_neg (show ¬ P ≤ 15 by omega), if_pos n0]
