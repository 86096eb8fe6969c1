/-- a byte of the tape, in both -/
theorem tb_z {R : Nat → Int32} (h : tbW R) {j : Nat} (hj : j < 32768) : ∃ z : Nat, z < 256 ∧ R j = vp_nar .byte ((nI z).toInt8.toInt32) ∧ R j &&& 255 = nI z := by
  obtain ⟨x, hx⟩ := h j hj
  have hz : x.toInt8.toBitVec.toNat < 256 := x.toInt8.toBitVec.isLt
  have e : (nI x.toInt8.toBitVec.toNat).toInt8 = x.toInt8 := by
    rw [show nI x.toInt8.toBitVec.toNat = Int32.ofNat x.toInt8.toBitVec.toNat from rfl, Int32.toInt8_ofNat']
    apply Int8.toBitVec_inj.1
    simp
  refine ⟨_, hz, by rw [hx, e], ?_⟩
  have q : vp_nar .byte ((nI x.toInt8.toBitVec.toNat).toInt8.toInt32) &&& nI 255 = nI x.toInt8.toBitVec.toNat := nar_255 ⟨_, hz⟩
  rw [e] at q
  rw [hx]
  exact q
theorem bz_C : ∀ z : Fin 256, (vp_nar .byte ((nI z.1).toInt8.toInt32) < 32 ↔ (z.1 < 32 ∨ 128 ≤ z.1)) ∧ (vp_nar .byte ((nI z.1).toInt8.toInt32) ≤ 126 ↔ (z.1 ≤ 126 ∨ 128 ≤ z.1)) ∧ (z.1 < 128 → vp_nar .byte ((nI z.1).toInt8.toInt32) = nI z.1) := by decide +kernel
theorem nch : ∀ z : Fin 256, vp_nar .char ((nI z.1).toUInt32.toUInt16.toUInt32.toInt32) = nI z.1 := by decide +kernel
/-- the first loop over the letters -/
theorem cp_1 (n Tp m i L z : Nat) {tpe Cd : St} (hi : i < 120) (hL : i < L) (hL2 : L ≤ 32768) (h4 : sI Cd 4 = nI L) (hz : 32 ≤ z) (hz2 : z ≤ 126) (ht : sR tpe 0 i = vp_nar .byte ((nI z).toInt8.toInt32)) : df_X2_compile_17 n Tp (m + 1) (nI i) (tpe, Cd) = df_X2_compile_17 n Tp m (nI (i + 1)) (tpe, Cd) := by
  have b := bz_C ⟨z, by omega⟩
  have b3 := b.2.2 (show z < 128 by omega)
  have ht : sR tpe 0 i = nI z := ht.trans b3
  have w : nI i + Int32.ofInt 1 = nI (i + 1) := by rw [show Int32.ofInt 1 = nI 1 from rfl, nI_add]
  simp (disch := (first | assumption | decide | omega)) only [(show df_X2_compile_17 n Tp (m + 1) = dF_X2_compile_17 n Tp (df_X2_compile_17 n Tp m) from rfl), dF_X2_compile_17, df_X2_compile_47, df_X2_compile_0, df_X2_compile, h4, ht, w, eq_self, Nat.reduceEqDiff, Nat.reduceLeDiff, nl_0, nl_1, nl_2, nl_4, nl_5, nl_8, nl_9, nl_32, nl_120, nl_126, nl_32768, no_1, no_1024, pk_mul, nI_add, nm_ck, nI_clamp, nI_ltI, nI_leI, nI_eq, nb_b2, nb_b1, ↓nb_let, nm_z0, nm_z1, nb_II, nb_IR, nb_RI, nb_RR, nm_IL, nm_IQ, nm_RL, nm_RQ, nm_LI, nm_LR, nm_LL, nm_LQ, nm_QI, nm_QR, nm_QL, nm_QQ, nm_rr, nm_ii, nm_eqm, not_false_eq_true, pk_sub, nm_div, nm_shl, nm_shr, nm_ush, nm_or8, nm_or64, nm_or256, nm_m1, nm_m3, nm_m7, nm_m15, nm_m31, nm_m63, nm_m255, nm_m511, nm_m1023, nm_m2047, nm_m65535, Nat.reduceMod, Nat.reducePow, Nat.reduceAdd, Nat.reduceSub, Nat.reduceMul, nm_bo, nm_bi, nm_rc, nm_ic, nm_ri, nm_rl, nm_rq, nm_ql, nm_qi, nm_li, nm_us, nm_uu, nm_cp, nm_sa31, nm_sa7, nm_m127, nm_m2, nm_nz, nm_nzk, nm_eq32, nm_nzf, if_true, if_false, ↓reduceIte, if_pos, if_neg]
theorem cp_b (n Tp m i L z : Nat) {tpe Cd : St} (hi : i ≤ 120) (hL : i < L) (hL2 : L ≤ 32768) (h4 : sI Cd 4 = nI L) (hz : z < 256) (hb : i = 120 ∨ z < 32 ∨ 126 < z) (ht : sR tpe 0 i = vp_nar .byte ((nI z).toInt8.toInt32)) : df_X2_compile_17 n Tp (m + 1) (nI i) (tpe, Cd) = some (nI (1 + 8 * i), (tpe, Cd)) := by
  have b := bz_C ⟨z, hz⟩
  have b1 := b.1
  have b2 := b.2.1
  rw [← ht] at b1 b2
  have b1 : sR tpe 0 i < 32 ↔ (z < 32 ∨ 128 ≤ z) := b1
  have b2 : sR tpe 0 i ≤ 126 ↔ (z ≤ 126 ∨ 128 ≤ z) := b2
  have ef : df_X2_compile_47 n Tp (nI i) (tpe, Cd) = some (nI (1 + 8 * i), (tpe, Cd)) := by
    simp (disch := (first | assumption | decide | omega)) only [df_X2_compile_47, eq_self, Nat.reduceEqDiff, Nat.reduceLeDiff, nl_1, nl_8, no_1, no_1024, pk_mul, nI_add, nm_ck, nI_clamp, nI_ltI, nI_leI, nI_eq, nb_b2, nb_b1, ↓nb_let, nm_z0, nm_z1, nb_II, nb_IR, nb_RI, nb_RR, nm_IL, nm_IQ, nm_RL, nm_RQ, nm_LI, nm_LR, nm_LL, nm_LQ, nm_QI, nm_QR, nm_QL, nm_QQ, nm_rr, nm_ii, nm_eqm, not_false_eq_true, pk_sub, nm_div, nm_shl, nm_shr, nm_ush, nm_or8, nm_or64, nm_or256, nm_m1, nm_m3, nm_m7, nm_m15, nm_m31, nm_m63, nm_m255, nm_m511, nm_m1023, nm_m2047, nm_m65535, Nat.reduceMod, Nat.reducePow, Nat.reduceAdd, Nat.reduceSub, Nat.reduceMul, nm_bo, nm_bi, nm_rc, nm_ic, nm_ri, nm_rl, nm_rq, nm_ql, nm_qi, nm_li, nm_us, nm_uu, nm_cp, nm_sa31, nm_sa7, nm_m127, nm_m2, nm_nz, nm_nzk, nm_eq32, nm_nzf, if_true, if_false, ↓reduceIte, if_pos, if_neg]
  by_cases c : i = 120
  · subst c
    simp (disch := (first | assumption | decide | omega)) only [(show df_X2_compile_17 n Tp (m + 1) = dF_X2_compile_17 n Tp (df_X2_compile_17 n Tp m) from rfl), dF_X2_compile_17, df_X2_compile_0, df_X2_compile, h4, ef, eq_self, Nat.reduceEqDiff, Nat.reduceLeDiff, nl_0, nl_1, nl_2, nl_4, nl_5, nl_8, nl_9, nl_32, nl_120, nl_126, nl_32768, no_1, no_1024, pk_mul, nI_add, nm_ck, nI_clamp, nI_ltI, nI_leI, nI_eq, nb_b2, nb_b1, ↓nb_let, nm_z0, nm_z1, nb_II, nb_IR, nb_RI, nb_RR, nm_IL, nm_IQ, nm_RL, nm_RQ, nm_LI, nm_LR, nm_LL, nm_LQ, nm_QI, nm_QR, nm_QL, nm_QQ, nm_rr, nm_ii, nm_eqm, not_false_eq_true, pk_sub, nm_div, nm_shl, nm_shr, nm_ush, nm_or8, nm_or64, nm_or256, nm_m1, nm_m3, nm_m7, nm_m15, nm_m31, nm_m63, nm_m255, nm_m511, nm_m1023, nm_m2047, nm_m65535, Nat.reduceMod, Nat.reducePow, Nat.reduceAdd, Nat.reduceSub, Nat.reduceMul, nm_bo, nm_bi, nm_rc, nm_ic, nm_ri, nm_rl, nm_rq, nm_ql, nm_qi, nm_li, nm_us, nm_uu, nm_cp, nm_sa31, nm_sa7, nm_m127, nm_m2, nm_nz, nm_nzk, nm_eq32, nm_nzf, if_true, if_false, ↓reduceIte, if_pos, if_neg]
  · have c2 : ¬ 120 ≤ i := by omega
    by_cases d : z < 32 ∨ 128 ≤ z
    · have b1 : sR tpe 0 i < nI 32 := b1.mpr d
      simp (disch := (first | assumption | decide | omega)) only [(show df_X2_compile_17 n Tp (m + 1) = dF_X2_compile_17 n Tp (df_X2_compile_17 n Tp m) from rfl), dF_X2_compile_17, df_X2_compile_0, df_X2_compile, h4, ef, b1, eq_self, Nat.reduceEqDiff, Nat.reduceLeDiff, nl_0, nl_1, nl_2, nl_4, nl_5, nl_8, nl_9, nl_32, nl_120, nl_126, nl_32768, no_1, no_1024, pk_mul, nI_add, nm_ck, nI_clamp, nI_ltI, nI_leI, nI_eq, nb_b2, nb_b1, ↓nb_let, nm_z0, nm_z1, nb_II, nb_IR, nb_RI, nb_RR, nm_IL, nm_IQ, nm_RL, nm_RQ, nm_LI, nm_LR, nm_LL, nm_LQ, nm_QI, nm_QR, nm_QL, nm_QQ, nm_rr, nm_ii, nm_eqm, not_false_eq_true, pk_sub, nm_div, nm_shl, nm_shr, nm_ush, nm_or8, nm_or64, nm_or256, nm_m1, nm_m3, nm_m7, nm_m15, nm_m31, nm_m63, nm_m255, nm_m511, nm_m1023, nm_m2047, nm_m65535, Nat.reduceMod, Nat.reducePow, Nat.reduceAdd, Nat.reduceSub, Nat.reduceMul, nm_bo, nm_bi, nm_rc, nm_ic, nm_ri, nm_rl, nm_rq, nm_ql, nm_qi, nm_li, nm_us, nm_uu, nm_cp, nm_sa31, nm_sa7, nm_m127, nm_m2, nm_nz, nm_nzk, nm_eq32, nm_nzf, if_true, if_false, ↓reduceIte, if_pos, if_neg]
    · have b1 : ¬ sR tpe 0 i < nI 32 := fun y => d (b1.mp y)
      have b2 : ¬ sR tpe 0 i ≤ nI 126 := fun y => by have := b2.mp y; omega
      simp (disch := (first | assumption | decide | omega)) only [(show df_X2_compile_17 n Tp (m + 1) = dF_X2_compile_17 n Tp (df_X2_compile_17 n Tp m) from rfl), dF_X2_compile_17, df_X2_compile_0, df_X2_compile, h4, ef, b1, b2, eq_self, Nat.reduceEqDiff, Nat.reduceLeDiff, nl_0, nl_1, nl_2, nl_4, nl_5, nl_8, nl_9, nl_32, nl_120, nl_126, nl_32768, no_1, no_1024, pk_mul, nI_add, nm_ck, nI_clamp, nI_ltI, nI_leI, nI_eq, nb_b2, nb_b1, ↓nb_let, nm_z0, nm_z1, nb_II, nb_IR, nb_RI, nb_RR, nm_IL, nm_IQ, nm_RL, nm_RQ, nm_LI, nm_LR, nm_LL, nm_LQ, nm_QI, nm_QR, nm_QL, nm_QQ, nm_rr, nm_ii, nm_eqm, not_false_eq_true, pk_sub, nm_div, nm_shl, nm_shr, nm_ush, nm_or8, nm_or64, nm_or256, nm_m1, nm_m3, nm_m7, nm_m15, nm_m31, nm_m63, nm_m255, nm_m511, nm_m1023, nm_m2047, nm_m65535, Nat.reduceMod, Nat.reducePow, Nat.reduceAdd, Nat.reduceSub, Nat.reduceMul, nm_bo, nm_bi, nm_rc, nm_ic, nm_ri, nm_rl, nm_rq, nm_ql, nm_qi, nm_li, nm_us, nm_uu, nm_cp, nm_sa31, nm_sa7, nm_m127, nm_m2, nm_nz, nm_nzk, nm_eq32, nm_nzf, if_true, if_false, ↓reduceIte, if_pos, if_neg]
def zC (Cd : St) : St := pI (pI (pI (pI (pI (pI Cd 5 0) 0 0) 1 0) 2 0) 9 0) 8 0
theorem cp_e (n Tp m L : Nat) {tpe Cd : St} (hL2 : L ≤ 32768) (h4 : sI Cd 4 = nI L) : df_X2_compile_17 n Tp (m + 1) (nI L) (tpe, Cd) = nd_b1 (df_X2_read n Tp (tpe, zC Cd)) (fun s => some (sI s.2 8, s)) := by
  show dF_X2_compile_17 n Tp (df_X2_compile_17 n Tp m) (nI L) (tpe, Cd) = _
  unfold dF_X2_compile_17
  rw [if_pos (show sI Cd 4 ≤ nI L by rw [h4, nI_leI (by omega) (by omega)]; omega)]
  rfl
theorem cp_0 (n Tp L : Nat) {tpe Cd : St} (hL2 : L ≤ 32768) : df_X2_compile n Tp (nI L) (tpe, Cd) = df_X2_compile_17 n Tp n (nI 0) (tpe, pI (pO Cd 0 (some Tp)) 4 (nI L)) := by
  unfold df_X2_compile df_X2_compile_0
  rw [nb_let, nb_let]
  rw [if_neg (show ¬ (32768 : Int32) < nI L from fun y => by have y : nI 32768 < nI L := y; rw [nI_ltI (by omega) (by omega)] at y; omega)]
  rfl
/-- the reference's -/
theorem cq_1 (n m k i L z : Nat) {T1 Y : St} {R : Nat → Int32} {X : St × St} (hi : i < 120) (hL : i < L) (hL2 : L ≤ 32768) (hz : 32 ≤ z) (hz2 : z ≤ 126) (ht : sR T1 0 i = nI z) : df_X15_compile_3 n (m + 1) (nI k) (nI L) (nI i) (T1, (pR Y 0 R, X)) = df_X15_compile_3 n m (nI k) (nI L) (nI (i + 1)) (T1, (pR Y 0 (upd R i (nI z)), X)) := by
  have e := nch ⟨z, by omega⟩
  have e : vp_nar .char ((nI z).toUInt32.toUInt16.toUInt32.toInt32) = nI z := e
  have w : nI i + Int32.ofInt 1 = nI (i + 1) := by rw [show Int32.ofInt 1 = nI 1 from rfl, nI_add]
  have c : ¬ i = 120 := by omega
  simp (disch := (first | assumption | decide | omega)) only [(show df_X15_compile_3 n (m + 1) = dF_X15_compile_3 n (df_X15_compile_3 n m) from rfl), dF_X15_compile_3, df_X15_compile_34, df_X15_compile_0, df_X15_compile, ht, w, e, eq_self, Nat.reduceEqDiff, Nat.reduceLeDiff, nl_0, nl_1, nl_2, nl_4, nl_6, nl_8, nl_32, nl_120, nl_126, nl_32768, no_1, no_1024, pk_mul, nI_add, nm_ck, nI_clamp, nI_ltI, nI_leI, nI_eq, nb_b2, nb_b1, ↓nb_let, nm_z0, nm_z1, nb_II, nb_IR, nb_RI, nb_RR, nm_IL, nm_IQ, nm_RL, nm_RQ, nm_LI, nm_LR, nm_LL, nm_LQ, nm_QI, nm_QR, nm_QL, nm_QQ, nm_rr, nm_ii, nm_eqm, not_false_eq_true, pk_sub, nm_div, nm_shl, nm_shr, nm_ush, nm_or8, nm_or64, nm_or256, nm_m1, nm_m3, nm_m7, nm_m15, nm_m31, nm_m63, nm_m255, nm_m511, nm_m1023, nm_m2047, nm_m65535, Nat.reduceMod, Nat.reducePow, Nat.reduceAdd, Nat.reduceSub, Nat.reduceMul, nm_bo, nm_bi, nm_rc, nm_ic, nm_ri, nm_rl, nm_rq, nm_ql, nm_qi, nm_li, nm_us, nm_uu, nm_cp, nm_sa31, nm_sa7, nm_m127, nm_m2, nm_nz, nm_nzk, nm_eq32, nm_nzf, if_true, if_false, ↓reduceIte, if_pos, if_neg]
theorem cq_b (n m k i L z : Nat) {T1 Y : St} {X : St × St} (hi : i ≤ 120) (hL : i < L) (hL2 : L ≤ 32768) (hz : z < 256) (hb : i = 120 ∨ z < 32 ∨ 126 < z) (ht : sR T1 0 i = nI z) : df_X15_compile_3 n (m + 1) (nI k) (nI L) (nI i) (T1, (Y, X)) = some (nI (1 + 8 * i), (T1, (Y, X))) := by
  have ef : df_X15_compile_34 n (nI i) (T1, (Y, X)) = some (nI (1 + 8 * i), (T1, (Y, X))) := by
    simp (disch := (first | assumption | decide | omega)) only [df_X15_compile_34, eq_self, Nat.reduceEqDiff, Nat.reduceLeDiff, nl_1, nl_8, no_1, no_1024, pk_mul, nI_add, nm_ck, nI_clamp, nI_ltI, nI_leI, nI_eq, nb_b2, nb_b1, ↓nb_let, nm_z0, nm_z1, nb_II, nb_IR, nb_RI, nb_RR, nm_IL, nm_IQ, nm_RL, nm_RQ, nm_LI, nm_LR, nm_LL, nm_LQ, nm_QI, nm_QR, nm_QL, nm_QQ, nm_rr, nm_ii, nm_eqm, not_false_eq_true, pk_sub, nm_div, nm_shl, nm_shr, nm_ush, nm_or8, nm_or64, nm_or256, nm_m1, nm_m3, nm_m7, nm_m15, nm_m31, nm_m63, nm_m255, nm_m511, nm_m1023, nm_m2047, nm_m65535, Nat.reduceMod, Nat.reducePow, Nat.reduceAdd, Nat.reduceSub, Nat.reduceMul, nm_bo, nm_bi, nm_rc, nm_ic, nm_ri, nm_rl, nm_rq, nm_ql, nm_qi, nm_li, nm_us, nm_uu, nm_cp, nm_sa31, nm_sa7, nm_m127, nm_m2, nm_nz, nm_nzk, nm_eq32, nm_nzf, if_true, if_false, ↓reduceIte, if_pos, if_neg]
  by_cases c : i = 120
  · subst c
    simp (disch := (first | assumption | decide | omega)) only [(show df_X15_compile_3 n (m + 1) = dF_X15_compile_3 n (df_X15_compile_3 n m) from rfl), dF_X15_compile_3, df_X15_compile_0, df_X15_compile, ht, ef, eq_self, Nat.reduceEqDiff, Nat.reduceLeDiff, nl_0, nl_1, nl_2, nl_4, nl_6, nl_8, nl_32, nl_120, nl_126, nl_32768, no_1, no_1024, pk_mul, nI_add, nm_ck, nI_clamp, nI_ltI, nI_leI, nI_eq, nb_b2, nb_b1, ↓nb_let, nm_z0, nm_z1, nb_II, nb_IR, nb_RI, nb_RR, nm_IL, nm_IQ, nm_RL, nm_RQ, nm_LI, nm_LR, nm_LL, nm_LQ, nm_QI, nm_QR, nm_QL, nm_QQ, nm_rr, nm_ii, nm_eqm, not_false_eq_true, pk_sub, nm_div, nm_shl, nm_shr, nm_ush, nm_or8, nm_or64, nm_or256, nm_m1, nm_m3, nm_m7, nm_m15, nm_m31, nm_m63, nm_m255, nm_m511, nm_m1023, nm_m2047, nm_m65535, Nat.reduceMod, Nat.reducePow, Nat.reduceAdd, Nat.reduceSub, Nat.reduceMul, nm_bo, nm_bi, nm_rc, nm_ic, nm_ri, nm_rl, nm_rq, nm_ql, nm_qi, nm_li, nm_us, nm_uu, nm_cp, nm_sa31, nm_sa7, nm_m127, nm_m2, nm_nz, nm_nzk, nm_eq32, nm_nzf, if_true, if_false, ↓reduceIte, if_pos, if_neg]
  · by_cases d : z < 32
    · simp (disch := (first | assumption | decide | omega)) only [(show df_X15_compile_3 n (m + 1) = dF_X15_compile_3 n (df_X15_compile_3 n m) from rfl), dF_X15_compile_3, df_X15_compile_0, df_X15_compile, ht, ef, eq_self, Nat.reduceEqDiff, Nat.reduceLeDiff, nl_0, nl_1, nl_2, nl_4, nl_6, nl_8, nl_32, nl_120, nl_126, nl_32768, no_1, no_1024, pk_mul, nI_add, nm_ck, nI_clamp, nI_ltI, nI_leI, nI_eq, nb_b2, nb_b1, ↓nb_let, nm_z0, nm_z1, nb_II, nb_IR, nb_RI, nb_RR, nm_IL, nm_IQ, nm_RL, nm_RQ, nm_LI, nm_LR, nm_LL, nm_LQ, nm_QI, nm_QR, nm_QL, nm_QQ, nm_rr, nm_ii, nm_eqm, not_false_eq_true, pk_sub, nm_div, nm_shl, nm_shr, nm_ush, nm_or8, nm_or64, nm_or256, nm_m1, nm_m3, nm_m7, nm_m15, nm_m31, nm_m63, nm_m255, nm_m511, nm_m1023, nm_m2047, nm_m65535, Nat.reduceMod, Nat.reducePow, Nat.reduceAdd, Nat.reduceSub, Nat.reduceMul, nm_bo, nm_bi, nm_rc, nm_ic, nm_ri, nm_rl, nm_rq, nm_ql, nm_qi, nm_li, nm_us, nm_uu, nm_cp, nm_sa31, nm_sa7, nm_m127, nm_m2, nm_nz, nm_nzk, nm_eq32, nm_nzf, if_true, if_false, ↓reduceIte, if_pos, if_neg]
    · have d2 : ¬ z ≤ 126 := by omega
      simp (disch := (first | assumption | decide | omega)) only [(show df_X15_compile_3 n (m + 1) = dF_X15_compile_3 n (df_X15_compile_3 n m) from rfl), dF_X15_compile_3, df_X15_compile_0, df_X15_compile, ht, ef, eq_self, Nat.reduceEqDiff, Nat.reduceLeDiff, nl_0, nl_1, nl_2, nl_4, nl_6, nl_8, nl_32, nl_120, nl_126, nl_32768, no_1, no_1024, pk_mul, nI_add, nm_ck, nI_clamp, nI_ltI, nI_leI, nI_eq, nb_b2, nb_b1, ↓nb_let, nm_z0, nm_z1, nb_II, nb_IR, nb_RI, nb_RR, nm_IL, nm_IQ, nm_RL, nm_RQ, nm_LI, nm_LR, nm_LL, nm_LQ, nm_QI, nm_QR, nm_QL, nm_QQ, nm_rr, nm_ii, nm_eqm, not_false_eq_true, pk_sub, nm_div, nm_shl, nm_shr, nm_ush, nm_or8, nm_or64, nm_or256, nm_m1, nm_m3, nm_m7, nm_m15, nm_m31, nm_m63, nm_m255, nm_m511, nm_m1023, nm_m2047, nm_m65535, Nat.reduceMod, Nat.reducePow, Nat.reduceAdd, Nat.reduceSub, Nat.reduceMul, nm_bo, nm_bi, nm_rc, nm_ic, nm_ri, nm_rl, nm_rq, nm_ql, nm_qi, nm_li, nm_us, nm_uu, nm_cp, nm_sa31, nm_sa7, nm_m127, nm_m2, nm_nz, nm_nzk, nm_eq32, nm_nzf, if_true, if_false, ↓reduceIte, if_pos, if_neg]
def zRd (Y : St) (L : Nat) : St := pI (pI (pI (pI (pI Y 0 (nI L)) 6 0) 5 0) 4 0) 1 0
def yS (Y : St) (k : Nat) : St := pR (pR Y 1 (upd (sR Y 1) k (nI 1))) 2 (upd (sR Y 2) k (sI Y 4))
theorem cq_e (n m k L : Nat) {T1 Y : St} {X : St × St} (hk : k < 8) (hL2 : L ≤ 32768) : df_X15_compile_3 n (m + 1) (nI k) (nI L) (nI L) (T1, (Y, X)) = nd_b2 (df_X15_read_24 n n (nI 0) (nI 0) (zRd Y L, X)) (fun q s => if sI s.1 6 ≤ 0 then df_X15_compile_102 n n (nI k) (nI 0) (T1, (yS s.1 k, s.2)) else some (sI s.1 6, (T1, s))) := by
  show dF_X15_compile_3 n (df_X15_compile_3 n m) (nI k) (nI L) (nI L) (T1, (Y, X)) = _
  unfold dF_X15_compile_3
  rw [if_pos (show nI L ≤ nI L by rw [nI_leI (by omega) (by omega)]; omega), nb_let]
  unfold df_X15_read df_X15_read_0
  rw [nb_let, nb_let, nb_let, nb_let]
  show nd_b2 (df_X15_read_24 n n (nI 0) (nI 0) (zRd Y L, X)) _ = _
  congr 1
  funext q s
  rw [nb_let]
  by_cases c : sI s.1 6 ≤ 0
  · rw [if_pos c, if_pos c, nm_ck (by omega) (by omega), nb_let, nm_ck (by omega) (by omega), nb_let, nI_clamp (by omega)]
    rfl
  · rw [if_neg c, if_neg c]
/-- the reference keeps what it read -/
def cK (k N : Nat) (Y0 Y : St) : Prop := (∀ r : Nat, ¬ r = 3 → ¬ r = 4 → sR Y r = sR Y0 r) ∧ (∀ r : Nat, ¬ r = 0 → sQ Y r = sQ Y0 r) ∧ (∀ j : Nat, sI Y j = sI Y0 j) ∧ (∀ t : Nat, t < N → sR Y 3 (120 * k + t) = sR Y0 5 t ∧ sQ Y 0 (120 * k + t) = sQ Y0 2 t ∧ sR Y 4 (120 * k + t) = nI (120 * k) + sR Y0 6 t) ∧ ∀ i : Nat, i < 120 * k ∨ 120 * k + 120 ≤ i → sR Y 3 i = sR Y0 3 i ∧ sR Y 4 i = sR Y0 4 i ∧ sQ Y 0 i = sQ Y0 0 i
theorem ck_1 (n m k t N : Nat) {T1 Y0 Y : St} {X : St × St} (hk : k < 8) (ht : t < N) (hN : N ≤ 120) (h4 : sI Y0 4 = nI N) (h : cK k t Y0 Y) : ∃ Y' : St, cK k (t + 1) Y0 Y' ∧ df_X15_compile_102 n (m + 1) (nI k) (nI t) (T1, (Y, X)) = df_X15_compile_102 n m (nI k) (nI (t + 1)) (T1, (Y', X)) := by
  obtain ⟨h1, h2, h3, h5, h6⟩ := h
  refine ⟨pR (pQ (pR Y 3 (upd (sR Y 3) (120 * k + t) (sR Y 5 t))) 0 (vp_updL (sQ Y 0) (120 * k + t) (sQ Y 2 t))) 4 (upd (sR Y 4) (120 * k + t) (nI (120 * k) + sR Y 6 t)), ⟨fun r a b => ?_, fun r a => ?_, h3, fun i hi => ?_, fun i hi => ?_⟩, ?_⟩
  · show (if r = 4 then _ else if r = 3 then _ else sR Y r) = _
    rw [if_neg b, if_neg a]
    exact h1 r a b
  · show (if r = 0 then _ else sQ Y r) = _
    rw [if_neg a]
    exact h2 r a
  · show upd (sR Y 3) (120 * k + t) (sR Y 5 t) (120 * k + i) = _ ∧ vp_updL (sQ Y 0) (120 * k + t) (sQ Y 2 t) (120 * k + i) = _ ∧ upd (sR Y 4) (120 * k + t) (nI (120 * k) + sR Y 6 t) (120 * k + i) = _
    by_cases e : i = t
    · subst e
      rw [nm_us, updL_s, nm_us, h1 5 (by omega) (by omega), h1 6 (by omega) (by omega), h2 2 (by omega)]
      exact ⟨rfl, rfl, rfl⟩
    · rw [nm_un (by omega), updL_n (by omega), nm_un (by omega)]
      exact h5 i (by omega)
  · show upd (sR Y 3) (120 * k + t) (sR Y 5 t) i = _ ∧ upd (sR Y 4) (120 * k + t) (nI (120 * k) + sR Y 6 t) i = _ ∧ vp_updL (sQ Y 0) (120 * k + t) (sQ Y 2 t) i = _
    rw [nm_un (by omega), updL_n (by omega), nm_un (by omega)]
    exact h6 i hi
  · show dF_X15_compile_102 n (df_X15_compile_102 n m) (nI k) (nI t) (T1, (Y, X)) = _
    unfold dF_X15_compile_102
    have e1 : (120 : Int32) * nI k = nI (120 * k) := by rw [show (120 : Int32) = nI 120 from rfl, pk_mul]
    have e4 : sI Y 4 = nI N := (h3 4).trans h4
    rw [if_neg (show ¬ sI Y 4 ≤ nI t from fun y => by rw [e4, nI_leI (by omega) (by omega)] at y; omega), e1, nI_add]
    rw [nm_ck (by omega) (by omega), nm_ck (by omega) (by omega), nb_let, nm_ck (by omega) (by omega), nm_ck (by omega) (by omega), nb_let, nm_ck (by omega) (by omega), nm_ck (by omega) (by omega), nb_let, nb_let, nI_clamp (by omega), nI_clamp (by omega), show nI t + Int32.ofInt 1 = nI (t + 1) by rw [show Int32.ofInt 1 = nI 1 from rfl, nI_add]]
    rfl
theorem ck_all (n k N : Nat) {T1 Y0 : St} {X : St × St} (hn : 130 < n) (hk : k < 8) (hN : N ≤ 120) (h4 : sI Y0 4 = nI N) : ∃ Y' : St, cK k N Y0 Y' ∧ df_X15_compile_102 n n (nI k) (nI 0) (T1, (Y0, X)) = some (0, (T1, (Y', X))) := by
  obtain ⟨m, Y', i, e⟩ := nm_l1 (fun m t Y => df_X15_compile_102 n m (nI k) (nI t) (T1, (Y, X))) (fun t Y => cK k t Y0 Y) N n (by omega) (fun t m Y ht h => ck_1 n m k t N hk ht hN h4 h) Y0 ⟨fun _ _ _ => rfl, fun _ _ => rfl, fun _ => rfl, fun t ht => by omega, fun _ _ => ⟨rfl, rfl, rfl⟩⟩
  refine ⟨Y', i, e.trans ?_⟩
  show dF_X15_compile_102 n (df_X15_compile_102 n m) (nI k) (nI N) (T1, (Y', X)) = _
  unfold dF_X15_compile_102
  rw [if_pos (show sI Y' 4 ≤ nI N by rw [i.2.2.1 4, h4, nI_leI (by omega) (by omega)]; omega)]
/-- compile, in both -/
theorem cp_all (n Tp k L : Nat) (hn : 1000 < n) (hk : k < 8) (hL2 : L ≤ 32768) {tpe T1 Cd Y : St} {X : St × St} (z : Nat → Nat) (hz : ∀ i : Nat, i < L → z i < 256 ∧ sR tpe 0 i = vp_nar .byte ((nI (z i)).toInt8.toInt32) ∧ sR T1 0 i = nI (z i)) : ∃ (f : Nat) (Cd' Y' : St), df_X2_compile n Tp (nI L) (tpe, Cd) = some (nI f, (tpe, Cd')) ∧ df_X15_compile n (nI k) (nI L) (T1, (Y, X)) = some (nI f, (T1, (Y', X))) ∧ f < 2 ^ 31 ∧ (0 < f → yFr Y Y') ∧ (f = 0 → (∃ (N : Nat) (pos : Nat → Nat), bCd n k N pos Cd' Y') ∧ sR Y' 1 = upd (sR Y 1) k (nI 1) ∧ ∀ k' : Nat, ¬ k' = k → k' < 8 → ySt k' Y Y') := by
  rw [cp_0 n Tp L hL2, show df_X15_compile n (nI k) (nI L) (T1, (Y, X)) = df_X15_compile_3 n n (nI k) (nI L) (nI 0) (T1, (Y, X)) from rfl]
  obtain ⟨C1, hC1⟩ : ∃ C1 : St, C1 = pI (pO Cd 0 (some Tp)) 4 (nI L) := ⟨_, rfl⟩
  rw [← hC1]
  have h4 : sI C1 4 = nI L := by rw [hC1]; rfl
  have hO : sO C1 0 = some Tp := by rw [hC1]; rfl
  obtain ⟨M, hM⟩ : ∃ M : Nat, M = min L 120 := ⟨_, rfl⟩
  obtain ⟨E, hE⟩ : ∃ E : Nat, E = fN (fun i => decide (z i < 32 ∨ 126 < z i)) 0 M := ⟨_, rfl⟩
  obtain ⟨_, x2, x3, x4⟩ := fN_le (fun i => decide (z i < 32 ∨ 126 < z i)) M 0
  rw [← hE] at x2 x3 x4
  have gd : ∀ i : Nat, i < E → 32 ≤ z i ∧ z i ≤ 126 := fun i hi => by
    have := of_decide_eq_false (x4 i (by omega) hi)
    omega
  have eC : ∃ m : Nat, df_X2_compile_17 n Tp n (nI 0) (tpe, C1) = df_X2_compile_17 n Tp (m + 1) (nI E) (tpe, C1) := nm_lq (fun m i => df_X2_compile_17 n Tp m (nI i) (tpe, C1)) E n (by omega) (fun i m hi => cp_1 n Tp m i L (z i) (by omega) (by omega) hL2 h4 (gd i hi).1 (gd i hi).2 (hz i (by omega)).2.1)
  obtain ⟨m, eC⟩ := eC
  obtain ⟨m2, R, hR, eR⟩ := nm_l1 (fun m i R => df_X15_compile_3 n m (nI k) (nI L) (nI i) (T1, (pR Y 0 R, X))) (fun i R => ∀ j : Nat, j < i → R j = nI (z j)) E n (by omega) (fun i m R hi h => ⟨upd R i (nI (z i)), fun j hj => by
    by_cases e : j = i
    · rw [e]; exact nm_us
    · rw [nm_un e]; exact h j (by omega), cq_1 n m k i L (z i) (by omega) (by omega) hL2 (gd i hi).1 (gd i hi).2 (hz i (by omega)).2.2⟩) (sR Y 0) (fun j hj => by omega)
  rw [nm_r0] at eR
  rw [eC, eR]
  by_cases c : E = L
  · -- the text is read
    have hL : L ≤ 120 := by omega
    subst c
    rw [cp_e n Tp m E hL2 h4, cq_e n m2 k E hk hL2]
    obtain ⟨kd, fr, e1⟩ := mC_of (zC C1) (cs := 0) (tp := 0) (os := 0) (ap := 0) (ft := 0) (pt := 0) rfl rfl rfl rfl rfl rfl
    obtain ⟨tk, st, e2⟩ := mR_of (zRd (pR Y 0 R) E) (ap := 0) (ts := 0) (op := 0) (ft := 0) rfl rfl rfl rfl
    have hT : txt n Tp E (fun i => if i < E then z i else 0) tpe (zC C1) (zRd (pR Y 0 R) E) := ⟨hO, h4, rfl, hL, by omega, fun i hi => by
      show 32 ≤ (if i < E then z i else 0) ∧ (if i < E then z i else 0) ≤ 126
      rw [if_pos hi]
      exact gd i hi, fun i => by
      show (if i < E then z i else 0) < 127
      by_cases y : i < E
      · rw [if_pos y]; have := (gd i y).2; omega
      · rw [if_neg y]; omega, fun i hi => by
      show sR tpe 0 i = nI (if i < E then z i else 0)
      rw [if_pos hi, (hz i hi).2.1]
      exact (bz_C ⟨z i, (hz i hi).1⟩).2.2 (show z i < 128 by have := (gd i hi).2; omega), fun i hi => by
      show R i = nI (if i < E then z i else 0)
      rw [if_pos hi]
      exact hR i hi⟩
    obtain ⟨p', κ, q, x, en⟩ := nx_e hT (Nat.zero_le E) 0 0 0 kd fr 0 0 (sL (zC C1) 0) (sR (zC C1) 0) (sR (zC C1) 1) (sR (zC C1) 2) (sR (zC C1) 3) (sR (zC C1) 4) (sQ (zC C1) 0)
    have J := (wAB X hT (E + 1)).1 0 121 n n 0 0 0 0 0 tk st kd fr [] (sL (zC C1) 0) (sL (zRd (pR Y 0 R) E) 0) (sR (zC C1) 0) (sR (zC C1) 1) (sR (zC C1) 2) (sR (zC C1) 3) (sR (zC C1) 4) (sR (zRd (pR Y 0 R) E) 5) (sR (zRd (pR Y 0 R) E) 6) (sR (zRd (pR Y 0 R) E) 7) (sQ (zC C1) 0) (sQ (zRd (pR Y 0 R) E) 2) (fun _ => 0) _ (by omega) (by omega) (by omega) (by omega) (by omega) ⟨⟨rfl, rfl, rfl, rfl⟩, Nat.zero_le _, by omega, Nat.le_refl _, Nat.le_refl _, by omega, by omega, by omega, by omega⟩ en
    have J : wEnd (zC C1) (zRd (pR Y 0 R) E) tpe X (df_X2_read_11 n Tp n (nI 1) (nI 1) (nI 121) (tpe, mC (zC C1) 0 0 0 p' κ q 0 0 x (sR (zC C1) 0) (sR (zC C1) 1) (sR (zC C1) 2) (sR (zC C1) 3) (sR (zC C1) 4) (sQ (zC C1) 0))) (df_X15_read_24 n n (nI 0) (nI 0) (mR (zRd (pR Y 0 R) E) 0 tk st 0 0 0 (sL (zRd (pR Y 0 R) E) 0) (sR (zRd (pR Y 0 R) E) 5) (sR (zRd (pR Y 0 R) E) 6) (sR (zRd (pR Y 0 R) E) 7) (sQ (zRd (pR Y 0 R) E) 2), X)) := J
    rw [← e2] at J
    have er : df_X2_read n Tp (tpe, zC C1) = df_X2_read_11 n Tp n (nI 1) (nI 1) (nI 121) (tpe, mC (zC C1) 0 0 0 p' κ q 0 0 x (sR (zC C1) 0) (sR (zC C1) 1) (sR (zC C1) 2) (sR (zC C1) 3) (sR (zC C1) 4) (sQ (zC C1) 0)) := by
      show nd_b1 (df_X2_next n Tp (tpe, zC C1)) _ = _
      rw [← e1] at en
      rw [en, nb_b1]
      rfl
    rw [er]
    obtain ⟨cs, tp, os, ap, kd, fr, ft, pt, nm, C, S, SA, F, T, A, x1, bp, tk, st, ts, op, tv, K, P, OA, N, j1, j2, j3, j4⟩ := J
    rw [j1, j2, nb_b1, nb_b2]
    by_cases f0 : ft = 0
    · obtain ⟨d, s, oc, ro, pos, g1, g2, g3, g4⟩ := j4 f0
      have k2 := g1.2.1.2.1
      subst f0
      rw [if_pos (show sI (mR (zRd (pR Y 0 R) E) bp tk st ts op 0 tv K P OA N) 6 ≤ 0 by show nI 0 ≤ nI 0; decide)]
      obtain ⟨Y', y1, y2⟩ := ck_all n k ts (T1 := T1) (Y0 := yS (mR (zRd (pR Y 0 R) E) bp tk st ts op 0 tv K P OA N) k) (X := X) (by omega) hk k2 rfl
      rw [y2]
      refine ⟨0, mC (zC C1) cs tp os ap kd fr 0 pt nm C S SA F T A, Y', rfl, rfl, by decide, fun y => by omega, fun _ => ⟨⟨os, _, bCd_1 n hn (l := ts) (K := K) (P := P) (Nn := N) (pos := pos) hk g4 rfl rfl g2 g3 g1.1 g1.2.1 g1.2.2 ?_ (fun t _ ht => ⟨(y1.2.2.2.1 t ht).1, (y1.2.2.2.1 t ht).2.1, fun q hq e => ?_⟩)⟩, ?_, fun k' hk' hk8 => ⟨?_, fun i a b => ?_⟩⟩⟩
      · rw [y1.1 2 (by omega) (by omega)]
        exact nm_us
      · rw [(y1.2.2.2.1 t ht).2.2]
        show nI (120 * k) + P t = _
        rw [e, nI_add]
      · rw [y1.1 1 (by omega) (by omega)]
        rfl
      · rw [y1.1 2 (by omega) (by omega)]
        exact nm_un hk'
      · exact y1.2.2.2.2 i (by omega)
    · rw [if_neg (show ¬ sI (mR (zRd (pR Y 0 R) E) bp tk st ts op ft tv K P OA N) 6 ≤ 0 from fun y => by have y : nI ft ≤ nI 0 := y; rw [nI_leI j3 (by omega)] at y; omega)]
      refine ⟨ft, _, _, rfl, rfl, j3, fun _ => ?_, fun y => absurd y f0⟩
      exact ⟨fun r a b => by
        rcases (show r = 1 ∨ r = 2 ∨ r = 3 ∨ r = 4 by omega) with rfl | rfl | rfl | rfl <;> rfl, rfl⟩
  · -- a letter that can't be, or too many
    have hb : E = 120 ∨ z E < 32 ∨ 126 < z E := by
      by_cases y : E < M
      · exact Or.inr (of_decide_eq_true (x3 (by omega)))
      · omega
    have hEL : E < L := by omega
    rw [cp_b n Tp m E L (z E) (by omega) hEL hL2 h4 (hz E hEL).1 hb (hz E hEL).2.1, cq_b n m2 k E L (z E) (by omega) hEL hL2 (hz E hEL).1 hb (hz E hEL).2.2]
    refine ⟨1 + 8 * E, _, _, rfl, rfl, by omega, fun _ => ⟨fun r a b => ?_, rfl⟩, fun y => by omega⟩
    rcases (show r = 1 ∨ r = 2 ∨ r = 3 ∨ r = 4 by omega) with rfl | rfl | rfl | rfl <;> rfl
/-- of m + 1 numbers below m two are the same -/
theorem pgn : ∀ (m : Nat) (f : Nat → Nat), (∀ i : Nat, i < m + 1 → f i < m) → ∃ i j : Nat, i < j ∧ j < m + 1 ∧ f i = f j := fun m => by
  induction m with
  | zero =>
    intro f h
    have := h 0 (by omega)
    omega
  | succ m ih =>
    intro f h
    by_cases c : ∃ i : Nat, i < m + 1 ∧ f i = f (m + 1)
    · obtain ⟨i, c1, c2⟩ := c
      exact ⟨i, m + 1, c1, by omega, c2⟩
    · have c : ∀ i : Nat, i < m + 1 → ¬ f i = f (m + 1) := fun i hi e => c ⟨i, hi, e⟩
      have hv := h (m + 1) (by omega)
      obtain ⟨i, j, h1, h2, h3⟩ := ih (fun i => if f i = m then f (m + 1) else f i) (fun i hi => by
        show (if f i = m then f (m + 1) else f i) < m
        have a := h i (by omega)
        have b := c i hi
        by_cases e : f i = m
        · rw [if_pos e]; omega
        · rw [if_neg e]; omega)
      have h3 : (if f i = m then f (m + 1) else f i) = (if f j = m then f (m + 1) else f j) := h3
      have ci := c i (by omega)
      have cj := c j h2
      refine ⟨i, j, h1, by omega, ?_⟩
      by_cases e1 : f i = m
      · by_cases e2 : f j = m
        · omega
        · rw [if_pos e1, if_neg e2] at h3
          omega
      · by_cases e2 : f j = m
        · rw [if_neg e1, if_pos e2] at h3
          omega
        · rw [if_neg e1, if_neg e2] at h3
          exact h3
/-- the condition that no break has -/
theorem isB (n T L i : Nat) (hn : 20 < n) (hi : i < 9) {σ : S12} (hr : ∀ k : Nat, k < 8 → σ.2.1 2 k = none ∨ ∃ j : Nat, j < 9 ∧ σ.2.1 2 k = some j) : (df_X12_isBreak n T L i σ = some (1, σ) ∧ ∃ k : Nat, k < 8 ∧ σ.2.1 2 k = some i) ∨ (df_X12_isBreak n T L i σ = some (0, σ) ∧ ∀ k : Nat, k < 8 → ¬ σ.2.1 2 k = some i) := by
  have st : ∀ k m : Nat, k < 8 → (σ.2.1 2 k = some i → df_X12_isBreak_2 n T L (m + 1) i (nI k) σ = some (1, σ)) ∧ (¬ σ.2.1 2 k = some i → df_X12_isBreak_2 n T L (m + 1) i (nI k) σ = df_X12_isBreak_2 n T L m i (nI (k + 1)) σ) := fun k m hk => by
    have w : nI k + Int32.ofInt 1 = nI (k + 1) := by rw [show Int32.ofInt 1 = nI 1 from rfl, nI_add]
    have e0 : df_X12_isBreak_2 n T L (m + 1) i (nI k) σ = nd_m (σ.2.1 2 k) (df_X12_isBreak_2 n T L m i (nI (k + 1)) σ) (fun j3 => nd_lt j3 9 (nd_lt i 9 (if j3 = i then some (1, σ) else df_X12_isBreak_2 n T L m i (nI (k + 1)) σ))) := by
      show dF_X12_isBreak_2 n T L (df_X12_isBreak_2 n T L m) i (nI k) σ = _
      unfold dF_X12_isBreak_2
      rw [if_neg (show ¬ (8 : Int32) ≤ nI k from fun y => by have y : nI 8 ≤ nI k := y; rw [nI_leI (by omega) (by omega)] at y; omega), nm_ck (by omega) (by omega), nI_clamp (by omega), w]
      rfl
    refine ⟨fun e => ?_, fun e => ?_⟩
    · rw [e0, e, nb_mS, nb_lt hi, nb_lt hi, if_pos rfl]
    · rw [e0]
      rcases hr k hk with y | ⟨j, y1, y2⟩
      · rw [y, nb_mN]
      · rw [y2, nb_mS, nb_lt y1, nb_lt hi, if_neg (fun z => e (by rw [y2, z]))]
  obtain ⟨m, e⟩ := nm_ls (fun m k => df_X12_isBreak_2 n T L m i (nI k) σ) (fun k => decide (σ.2.1 2 k = some i)) 0 8 n (by omega) (fun k m _ hk hP => (st k m (by omega)).2 (of_decide_eq_false hP))
  have e : df_X12_isBreak n T L i σ = df_X12_isBreak_2 n T L (m + 1) i (nI (fN (fun k => decide (σ.2.1 2 k = some i)) 0 8)) σ := e
  obtain ⟨_, x2, x3, x4⟩ := fN_le (fun k => decide (σ.2.1 2 k = some i)) 8 0
  generalize fN (fun k => decide (σ.2.1 2 k = some i)) 0 8 = E at e x2 x3 x4
  by_cases c : E < 8
  · have x3 := of_decide_eq_true (x3 (by omega))
    exact Or.inl ⟨e.trans ((st E m c).1 x3), E, c, x3⟩
  · refine Or.inr ⟨e.trans ?_, fun k hk => of_decide_eq_false (x4 k (by omega) (by omega))⟩
    rw [show E = 8 by omega]
    show dF_X12_isBreak_2 n T L (df_X12_isBreak_2 n T L m) i (nI 8) σ = _
    unfold dF_X12_isBreak_2
    exact if_pos (show (8 : Int32) ≤ nI 8 by decide)
theorem unC (n T L : Nat) (hn : 20 < n) {σ : S12} (hr : ∀ k : Nat, k < 8 → σ.2.1 2 k = none ∨ ∃ j : Nat, j < 9 ∧ σ.2.1 2 k = some j) (hp : ∀ i : Nat, i < 9 → σ.2.1 5 i = some i) : ∃ j : Nat, j < 9 ∧ df_X12_unusedCondition n T L σ = some (some j, σ) ∧ ∀ k : Nat, k < 8 → ¬ σ.2.1 2 k = some j := by
  have e32 : ∀ i : Nat, i < 9 → df_X12_unusedCondition_32 n T L (nI i) σ = some (some i, σ) := fun i hi => by
    unfold df_X12_unusedCondition_32
    rw [nm_ck (by omega) (by omega), nI_clamp (by omega), hp i hi, nb_mS]
  have g : ∀ d i m : Nat, i + d = 8 → d < m → (∀ i' : Nat, i' < i → ∃ k : Nat, k < 8 ∧ σ.2.1 2 k = some i') → ∃ j : Nat, j < 9 ∧ df_X12_unusedCondition_2 n T L m (nI i) σ = some (some j, σ) ∧ ∀ k : Nat, k < 8 → ¬ σ.2.1 2 k = some j := fun d => by
    induction d with
    | zero =>
      intro i m hi hm hu
      obtain ⟨m, rfl⟩ : ∃ j : Nat, m = j + 1 := ⟨m - 1, by omega⟩
      rw [show i = 8 by omega] at hu ⊢
      refine ⟨8, by omega, ?_, fun k hk e => ?_⟩
      · show dF_X12_unusedCondition_2 n T L (df_X12_unusedCondition_2 n T L m) (nI 8) σ = _
        unfold dF_X12_unusedCondition_2
        rw [if_pos (show (8 : Int32) ≤ nI 8 by decide)]
        exact e32 8 (by omega)
      · have hq : ∀ i' : Nat, ∃ k : Nat, i' < 9 → k < 8 ∧ σ.2.1 2 k = some i' := fun i' => by
          by_cases c : i' < 8
          · obtain ⟨k, a, b⟩ := hu i' c
            exact ⟨k, fun _ => ⟨a, b⟩⟩
          · exact ⟨k, fun y => ⟨hk, by rw [e, show i' = 8 by omega]⟩⟩
        obtain ⟨a, b, h1, h2, h3⟩ := pgn 8 (fun i' => Classical.choose (hq i')) (fun i' hi' => (Classical.choose_spec (hq i') hi').1)
        have s1 := (Classical.choose_spec (hq a) (by omega)).2
        have s2 := (Classical.choose_spec (hq b) h2).2
        have h3 : Classical.choose (hq a) = Classical.choose (hq b) := h3
        rw [h3, s2] at s1
        have := Option.some.inj s1
        omega
    | succ d ih =>
      intro i m hi hm hu
      obtain ⟨m, rfl⟩ : ∃ j : Nat, m = j + 1 := ⟨m - 1, by omega⟩
      have w : nI i + Int32.ofInt 1 = nI (i + 1) := by rw [show Int32.ofInt 1 = nI 1 from rfl, nI_add]
      have e0 : df_X12_unusedCondition_2 n T L (m + 1) (nI i) σ = nd_b2 (df_X12_isBreak n T L i σ) (fun q7 s8 => if q7 = 0 then df_X12_unusedCondition_32 n T L (nI i) s8 else df_X12_unusedCondition_2 n T L m (nI (i + 1)) s8) := by
        show dF_X12_unusedCondition_2 n T L (df_X12_unusedCondition_2 n T L m) (nI i) σ = _
        unfold dF_X12_unusedCondition_2
        rw [if_neg (show ¬ (8 : Int32) ≤ nI i from fun y => by have y : nI 8 ≤ nI i := y; rw [nI_leI (by omega) (by omega)] at y; omega), nm_ck (by omega) (by omega), nI_clamp (by omega), hp i (by omega), nb_mS, w]
        rfl
      rw [e0]
      rcases isB n T L i hn (by omega) hr with ⟨a, b⟩ | ⟨a, b⟩
      · rw [a, nb_b2, if_neg (by decide)]
        exact ih (i + 1) m (by omega) (by omega) (fun i' hi' => by
          by_cases c : i' = i
          · rw [c]; exact b
          · exact hu i' (by omega))
      · rw [a, nb_b2, if_pos rfl]
        exact ⟨i, by omega, e32 i (by omega), b⟩
  exact g 8 0 n (by omega) (by omega) (fun i' hi' => by omega)
/-- watch -/
theorem jj_watch (n T L : Nat) (hn : 70000 < n) (v : Int32) {σ : S12} {τ : S19} {x : Lb} (h : JJ n σ (τ, x)) : anT n x (df_X12_watch n T L v σ) (df_X19_watch n v τ) := by
  have inE : df_X19_in n v.toInt64 0 7 () = some (if (0 : Int) ≤ v.toInt ∧ v.toInt ≤ 7 then 1 else 0, ()) := nb_in32 n v 0 7
  by_cases c : 0 ≤ v.toInt ∧ v.toInt ≤ 7
  · obtain ⟨A, hA, rfl, _⟩ := ix_nI (k := 7) c.1 c.2
    rw [if_pos c] at inE
    obtain ⟨e1, e2, e3, e4, e5, ⟨Nb, pos, e6⟩, e7, e8⟩ := id h
    have e6 : bRk n (σ.2.1 2) (tl σ).2.2.2.2.2.2.1 τ.2.2.1.1 Nb pos := e6
    obtain ⟨j, hj, eu, hu⟩ := unC n T L (by omega) (σ := σ) (fun k hk => by
      rcases e6.1 k hk with ⟨a, _⟩ | ⟨j, a, b, _⟩
      · exact Or.inl a
      · exact Or.inr ⟨j, a, b⟩) e8.1.2.1
    obtain ⟨len, l1, l2, l3⟩ := ix_nI (k := 32768) e1.2.2.1 e1.2.2.2.1
    have l3 : (sI σ.1 0).toInt = (len : Int) := l3
    have ut : df_X12_useTape n T L σ = some (nI len, (pI (pI σ.1 0 0) 1 0, σ.2)) := by rw [← l2]; rfl
    have hz : ∀ i : Nat, ∃ z : Nat, i < len → z < 256 ∧ sR (pR nd_st0 0 (sR σ.2.2.2.1.2 7)) 0 i = vp_nar .byte ((nI z).toInt8.toInt32) ∧ sR (pR nd_st0 0 (sR τ.2.2.2.1 3)) 0 i = nI z := fun i => by
      by_cases ci : i < len
      · obtain ⟨z, z1, z2, z3⟩ := tb_z e8.1.2.2.1 (j := i) (by omega)
        exact ⟨z, fun _ => ⟨z1, z2, (e1.2.2.2.2.2 i (by omega)).trans z3⟩⟩
      · exact ⟨0, fun y => absurd y ci⟩
    obtain ⟨f, Cd', Y', c1, c2, c3, c4, c5⟩ := cp_all n T A len (by omega) (by omega) l1 (tpe := pR nd_st0 0 (sR σ.2.2.2.1.2 7)) (T1 := pR nd_st0 0 (sR τ.2.2.2.1 3)) (Cd := σ.2.2.2.2.2.2.2.2.2.1 j) (Y := τ.2.2.1.1) (X := τ.2.2.1.2) (fun i => Classical.choose (hz i)) (fun i hi => Classical.choose_spec (hz i) hi)
    obtain ⟨σ1, hσ1⟩ : ∃ σ1 : S12, σ1 = (pI (pI σ.1 0 0) 1 0, (σ.2.1, (σ.2.2.1, ((σ.2.2.2.1.1, pR σ.2.2.2.1.2 7 (sR σ.2.2.2.1.2 7)), (σ.2.2.2.2.1, (σ.2.2.2.2.2.1, (σ.2.2.2.2.2.2.1, (σ.2.2.2.2.2.2.2.1, (σ.2.2.2.2.2.2.2.2.1, ((fun i => if i = j then Cd' else σ.2.2.2.2.2.2.2.2.2.1 i), σ.2.2.2.2.2.2.2.2.2.2)))))))))) := ⟨_, rfl⟩
    have eC : df_X12_watch n T L (nI A) σ = if nI f = 0 then some (Sum.inl (nI f, (σ1.1, (pW σ1.2.1 2 (va_up (σ1.2.1 2) A (some j)), σ1.2.2)))) else some (Sum.inl (nI f, σ1)) := by
      unfold df_X12_watch df_X12_watch_0
      rw [if_neg (show ¬ nI A < (0 : Int32) from fun y => by have y : nI A < nI 0 := y; rw [nI_ltI (by omega) (by omega)] at y; omega), if_pos (show nI A < (8 : Int32) by show nI A < nI 8; rw [nI_ltI (by omega) (by omega)]; omega), eu, nb_b2, nb_mS, ut, nb_b2, nb_lt hj]
      dsimp only
      rw [c1, nb_b2, nb_let, nm_ck (by omega) (by omega), nb_let, nI_clamp (by omega)]
      rw [hσ1]
      rfl
    obtain ⟨τ1, hτ1⟩ : ∃ τ1 : S19, τ1 = (pI (pI (pI τ.1 0 0) 1 0) 2 0, (τ.2.1, ((Y', τ.2.2.1.2), (pR τ.2.2.2.1 3 (sR τ.2.2.2.1 3), τ.2.2.2.2)))) := ⟨_, rfl⟩
    have eR : df_X19_watch n (nI A) τ = some (nI f, τ1) := by
      unfold df_X19_watch df_X19_watch_0 df_X19_watch_18
      rw [inE, nb_b2, if_neg (by decide), nb_fails, nb_b2, if_pos (show (0 : Int32) = 0 ∧ (0 : Int32) = 0 from ⟨rfl, rfl⟩), if_pos rfl, if_pos rfl, if_pos rfl]
      dsimp only
      rw [show sI (pI τ.1 0 0) 1 = nI len by show sI τ.1 1 = _; rw [← e1.1]; exact l2, c2, nb_b2, nb_let, hτ1]
      rfl
    have rs : pR σ.2.2.2.1.2 7 (sR σ.2.2.2.1.2 7) = σ.2.2.2.1.2 := nm_r0 _ _
    have rs2 : pR τ.2.2.2.1 3 (sR τ.2.2.2.1 3) = τ.2.2.2.1 := nm_r0 _ _
    rw [rs] at hσ1
    rw [rs2] at hτ1
    have sj : ∀ k : Nat, ¬ k = 0 → ¬ k = 1 → ¬ k = 2 → sI τ1.1 k = sI τ.1 k := fun k k0 k1 k2 => by
      rw [hτ1]
      show sI (pI (pI (pI τ.1 0 0) 1 0) 2 0) k = _
      rw [nb_II, if_neg k2, nb_II, if_neg k1, nb_II, if_neg k0]
    have rtE : ∀ W : Rw, rt (σ1.1, (W, σ1.2.2)) τ1 := fun W => by
      rw [hσ1, hτ1]
      refine ⟨rfl, rfl, by show (0 : Int) ≤ (0 : Int32).toInt; decide, by show (0 : Int32).toInt ≤ 32768; decide, fun y => absurd rfl y, fun j hj => ?_⟩
      have hj : (j : Int) < (0 : Int32).toInt := hj
      have hj : (j : Int) < 0 := hj
      omega
    rw [eC, eR]
    by_cases cf : f = 0
    · subst cf
      obtain ⟨⟨N, ps, d1⟩, d2, d3⟩ := c5 rfl
      rw [if_pos (show nI 0 = (0 : Int32) from rfl)]
      refine Or.inr (Or.inr ⟨nI 0, _, τ1, rfl, rfl, by rw [hτ1]; rfl, rtE _, ?_⟩)
      refine ⟨rl_k e2 (by rw [hσ1]; show sI (pI (pI σ.1 0 0) 1 0) 2 = _; rw [nb_II, if_neg (by omega), nb_II, if_neg (by omega)]) (by rw [hσ1]) (sj 12 (by omega) (by omega) (by omega)) (by rw [hτ1]; rfl), ?_, ?_, ?_, ⟨fun k => if k = A then N else Nb k, fun k => if k = A then ps else pos k, fun k hk => ?_, fun k k' i hk hk' a b => ?_⟩, ?_, ?_⟩
      · rw [hσ1, hτ1]
        exact e3
      · rw [hσ1, hτ1]
        exact e4
      · rw [hσ1, hτ1]
        refine jA_u (τ := τ) e5 ⟨fun j j1 j2 => ?_, fun _ _ _ => rfl, fun _ => rfl, rfl⟩
        show sI (pI (pI (pI τ.1 0 0) 1 0) 2 0) j = _
        rw [nb_II, if_neg (by omega), nb_II, if_neg (by omega), nb_II, if_neg (by omega)]
      · rw [hσ1, hτ1]
        show ((if k = A then some j else σ.2.1 2 k) = none ∧ sR Y' 1 k = nI 0) ∨ ∃ i : Nat, i < 9 ∧ (if k = A then some j else σ.2.1 2 k) = some i ∧ sR Y' 1 k = nI 1 ∧ bCd n k (if k = A then N else Nb k) (if k = A then ps else pos k) (if i = j then Cd' else σ.2.2.2.2.2.2.2.2.2.1 i) Y'
        rw [d2]
        by_cases ck : k = A
        · subst ck
          rw [if_pos rfl, if_pos rfl, if_pos rfl, nm_us]
          exact Or.inr ⟨j, hj, rfl, rfl, by rw [if_pos rfl]; exact d1⟩
        · rw [if_neg ck, if_neg ck, if_neg ck, nm_un ck]
          rcases e6.1 k hk with y | ⟨i, y1, y2, y3, y4⟩
          · exact Or.inl y
          · refine Or.inr ⟨i, y1, y2, y3, ?_⟩
            rw [if_neg (fun z => hu k hk (by rw [y2, z]))]
            exact bCd_t y4 (cSt_r _) (d3 k ck hk)
      · rw [hσ1] at a b
        have a : (if k = A then some j else σ.2.1 2 k) = some i := a
        have b : (if k' = A then some j else σ.2.1 2 k') = some i := b
        by_cases ck : k = A
        · by_cases ck' : k' = A
          · omega
          · rw [if_pos ck] at a
            rw [if_neg ck', ← a] at b
            exact absurd b (hu k' hk')
        · by_cases ck' : k' = A
          · rw [if_pos ck'] at b
            rw [if_neg ck, ← b] at a
            exact absurd a (hu k hk)
          · rw [if_neg ck] at a
            rw [if_neg ck'] at b
            exact e6.2 k k' i hk hk' a b
      · rw [hσ1]
        exact e7.trans (sj 7 (by omega) (by omega) (by omega)).symm
      · rw [hσ1, hτ1]
        exact e8
    · rw [if_neg (show ¬ nI f = (0 : Int32) from fun y => cf (by have y : nI f = nI 0 := y; rw [nI_eq c3 (by omega)] at y; exact y))]
      have yf := c4 (by omega)
      refine Or.inr (Or.inr ⟨nI f, σ1, τ1, rfl, rfl, by rw [hτ1]; rfl, rtE σ1.2.1, ?_⟩)
      refine ⟨rl_k e2 (by rw [hσ1]; show sI (pI (pI σ.1 0 0) 1 0) 2 = _; rw [nb_II, if_neg (by omega), nb_II, if_neg (by omega)]) (by rw [hσ1]) (sj 12 (by omega) (by omega) (by omega)) (by rw [hτ1]; rfl), ?_, ?_, ?_, ⟨Nb, pos, fun k hk => ?_, fun k k' i hk hk' a b => ?_⟩, ?_, ?_⟩
      · rw [hσ1, hτ1]
        exact e3
      · rw [hσ1, hτ1]
        exact e4
      · rw [hσ1, hτ1]
        refine jA_u (τ := τ) e5 ⟨fun j j1 j2 => ?_, fun _ _ _ => rfl, fun _ => rfl, rfl⟩
        show sI (pI (pI (pI τ.1 0 0) 1 0) 2 0) j = _
        rw [nb_II, if_neg (by omega), nb_II, if_neg (by omega), nb_II, if_neg (by omega)]
      · rw [hσ1, hτ1]
        show (σ.2.1 2 k = none ∧ sR Y' 1 k = nI 0) ∨ ∃ i : Nat, i < 9 ∧ σ.2.1 2 k = some i ∧ sR Y' 1 k = nI 1 ∧ bCd n k (Nb k) (pos k) (if i = j then Cd' else σ.2.2.2.2.2.2.2.2.2.1 i) Y'
        rw [yf.1 1 (by omega) (by omega)]
        rcases e6.1 k hk with y | ⟨i, y1, y2, y3, y4⟩
        · exact Or.inl y
        · refine Or.inr ⟨i, y1, y2, y3, ?_⟩
          rw [if_neg (fun z => hu k hk (by rw [y2, z]))]
          exact bCd_t y4 (cSt_r _) (yFr_s yf k)
      · rw [hσ1] at a b
        exact e6.2 k k' i hk hk' a b
      · rw [hσ1]
        exact e7.trans (sj 7 (by omega) (by omega) (by omega)).symm
      · rw [hσ1, hτ1]
        exact e8
  · rw [if_neg c] at inE
    have eR : df_X19_watch n v τ = some (0, (pI τ.1 0 1, τ.2)) := by
      unfold df_X19_watch df_X19_watch_0 df_X19_watch_18
      rw [inE, nb_b2, if_pos rfl, nb_fails, nb_b2, if_neg (show ¬ ((1 : Int32) = 0 ∧ (0 : Int32) = 0) by decide), if_neg (show ¬ (1 : Int32) = 0 by decide), if_neg (show ¬ (1 : Int32) = 0 by decide)]
    have eC : df_X12_watch n T L v σ = some (Sum.inr ("java/lang/IllegalArgumentException", σ)) := by
      unfold df_X12_watch df_X12_watch_0 df_X12_watch_10
      by_cases y : v < 0
      · rw [if_pos y]
      · rw [if_neg y, if_neg (fun q => c ⟨by rw [nb_lt0] at y; omega, by rw [Int32.lt_iff_toInt_lt] at q; have q : v.toInt < 8 := q; omega⟩)]
    rw [eC, eR]
    exact Or.inl ⟨0, σ, _, rfl, rfl, rfl, JJ_0 h 1⟩
