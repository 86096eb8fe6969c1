theorem at_f (n : Nat) (w a b : Int32) {f k : Nat} (hf : f < 8) (h2 : ¬ f = 2) (hk : k < 32) (X : St × St) : df_X16_atomic n w (nI f) (nI k) a b X = some (nI 0, (pI X.1 11 (nI 2), X.2)) := by
  have k0 := at_0 n w (nI f) a b hk X
  have e : ∀ y : Int32, df_X16_atomic_46 n w (nI f) (nI k) a b y X = some (nI 0, (pI X.1 11 (nI 2), X.2)) := fun y => by
    simp (disch := omega) only [df_X16_atomic_46, df_X16_atomic_73, df_X16_illegal_0, df_X16_illegal, df_X16_meet_0, df_X16_meet, h2, eq_self, Nat.reduceEqDiff, Nat.reduceLeDiff, nl_0, nl_2, nl_5, nl_11, nl_20, no_1, no_1024, pk_mul, nI_add, nm_ck, nI_clamp, nI_ltI, nI_leI, nI_eq, nb_b2, nb_b1, ↓nb_let, nm_z0, nm_z1, nb_II, nb_IR, nb_RI, nb_RR, nm_IL, nm_IQ, nm_RL, nm_RQ, nm_LI, nm_LR, nm_LL, nm_LQ, nm_QI, nm_QR, nm_QL, nm_QQ, nm_rr, nm_ii, nm_eqm, not_false_eq_true, pk_sub, nm_div, nm_shl, nm_shr, nm_ush, nm_or8, nm_or64, nm_or256, nm_m1, nm_m3, nm_m7, nm_m15, nm_m31, nm_m63, nm_m255, nm_m511, nm_m1023, nm_m2047, nm_m65535, Nat.reduceMod, Nat.reducePow, Nat.reduceAdd, Nat.reduceSub, Nat.reduceMul, nm_bo, nm_bi, nm_rc, nm_ic, nm_ri, nm_rl, nm_rq, nm_ql, nm_qi, nm_li, nm_us, nm_uu, nm_cp, nm_sa31, nm_sa7, nm_m127, nm_m2, nm_nz, nm_nzk, nm_eq32, nm_nzf, if_true, if_false, ↓reduceIte, if_pos, if_neg]
  by_cases c : kn k
  · rw [k0.1 c, e]
  · rw [k0.2 c, e]
theorem pt7 (n : Nat) {W : Nat} (hW : W < 2 ^ 32) : df_X16_part n (nI W) 7 5 () = some (nI (W / 128 % 32), ()) := by
  simp (disch := omega) only [df_X16_part_0, df_X16_part, nl_1, nl_5, nl_7, nl_31, no_1, no_1024, pk_mul, nI_add, nm_ck, nI_clamp, nI_ltI, nI_leI, nI_eq, nb_b2, nb_b1, nb_let, nm_z0, nm_z1, nb_II, nb_IR, nb_RI, nb_RR, nm_IL, nm_IQ, nm_RL, nm_RQ, nm_LI, nm_LR, nm_LL, nm_LQ, nm_QI, nm_QR, nm_QL, nm_QQ, nm_rr, nm_ii, nm_eqm, not_false_eq_true, pk_sub, nm_div, nm_shl, nm_shr, nm_ush, nm_or8, nm_or64, nm_or256, nm_m1, nm_m3, nm_m7, nm_m15, nm_m31, nm_m63, nm_m255, nm_m511, nm_m1023, nm_m2047, nm_m65535, Nat.reduceMod, Nat.reducePow, Nat.reduceAdd, Nat.reduceSub, Nat.reduceMul, nm_bo, nm_bi, nm_rc, nm_ic, nm_ri, nm_rl, nm_rq, nm_ql, nm_qi, nm_li, nm_us, nm_uu, nm_cp, nm_sa31, nm_sa7, nm_m127, nm_m2, nm_nz, nm_nzk, nm_eq32, nm_nzf, if_true, if_false, ↓reduceIte, if_pos, if_neg]
theorem pt12 (n : Nat) {W : Nat} (hW : W < 2 ^ 32) : df_X16_part n (nI W) 12 3 () = some (nI (W / 4096 % 8), ()) := by
  simp (disch := omega) only [df_X16_part_0, df_X16_part, nl_1, nl_3, nl_12, nl_31, no_1, no_1024, pk_mul, nI_add, nm_ck, nI_clamp, nI_ltI, nI_leI, nI_eq, nb_b2, nb_b1, nb_let, nm_z0, nm_z1, nb_II, nb_IR, nb_RI, nb_RR, nm_IL, nm_IQ, nm_RL, nm_RQ, nm_LI, nm_LR, nm_LL, nm_LQ, nm_QI, nm_QR, nm_QL, nm_QQ, nm_rr, nm_ii, nm_eqm, not_false_eq_true, pk_sub, nm_div, nm_shl, nm_shr, nm_ush, nm_or8, nm_or64, nm_or256, nm_m1, nm_m3, nm_m7, nm_m15, nm_m31, nm_m63, nm_m255, nm_m511, nm_m1023, nm_m2047, nm_m65535, Nat.reduceMod, Nat.reducePow, Nat.reduceAdd, Nat.reduceSub, Nat.reduceMul, nm_bo, nm_bi, nm_rc, nm_ic, nm_ri, nm_rl, nm_rq, nm_ql, nm_qi, nm_li, nm_us, nm_uu, nm_cp, nm_sa31, nm_sa7, nm_m127, nm_m2, nm_nz, nm_nzk, nm_eq32, nm_nzf, if_true, if_false, ↓reduceIte, if_pos, if_neg]
theorem pt15 (n : Nat) {W : Nat} (hW : W < 2 ^ 32) : df_X16_part n (nI W) 15 5 () = some (nI (W / 32768 % 32), ()) := by
  simp (disch := omega) only [df_X16_part_0, df_X16_part, nl_1, nl_5, nl_15, nl_31, no_1, no_1024, pk_mul, nI_add, nm_ck, nI_clamp, nI_ltI, nI_leI, nI_eq, nb_b2, nb_b1, nb_let, nm_z0, nm_z1, nb_II, nb_IR, nb_RI, nb_RR, nm_IL, nm_IQ, nm_RL, nm_RQ, nm_LI, nm_LR, nm_LL, nm_LQ, nm_QI, nm_QR, nm_QL, nm_QQ, nm_rr, nm_ii, nm_eqm, not_false_eq_true, pk_sub, nm_div, nm_shl, nm_shr, nm_ush, nm_or8, nm_or64, nm_or256, nm_m1, nm_m3, nm_m7, nm_m15, nm_m31, nm_m63, nm_m255, nm_m511, nm_m1023, nm_m2047, nm_m65535, Nat.reduceMod, Nat.reducePow, Nat.reduceAdd, Nat.reduceSub, Nat.reduceMul, nm_bo, nm_bi, nm_rc, nm_ic, nm_ri, nm_rl, nm_rq, nm_ql, nm_qi, nm_li, nm_us, nm_uu, nm_cp, nm_sa31, nm_sa7, nm_m127, nm_m2, nm_nz, nm_nzk, nm_eq32, nm_nzf, if_true, if_false, ↓reduceIte, if_pos, if_neg]
theorem pt20 (n : Nat) {W : Nat} (hW : W < 2 ^ 32) : df_X16_part n (nI W) 20 5 () = some (nI (W / 1048576 % 32), ()) := by
  simp (disch := omega) only [df_X16_part_0, df_X16_part, nl_1, nl_5, nl_20, nl_31, no_1, no_1024, pk_mul, nI_add, nm_ck, nI_clamp, nI_ltI, nI_leI, nI_eq, nb_b2, nb_b1, nb_let, nm_z0, nm_z1, nb_II, nb_IR, nb_RI, nb_RR, nm_IL, nm_IQ, nm_RL, nm_RQ, nm_LI, nm_LR, nm_LL, nm_LQ, nm_QI, nm_QR, nm_QL, nm_QQ, nm_rr, nm_ii, nm_eqm, not_false_eq_true, pk_sub, nm_div, nm_shl, nm_shr, nm_ush, nm_or8, nm_or64, nm_or256, nm_m1, nm_m3, nm_m7, nm_m15, nm_m31, nm_m63, nm_m255, nm_m511, nm_m1023, nm_m2047, nm_m65535, Nat.reduceMod, Nat.reducePow, Nat.reduceAdd, Nat.reduceSub, Nat.reduceMul, nm_bo, nm_bi, nm_rc, nm_ic, nm_ri, nm_rl, nm_rq, nm_ql, nm_qi, nm_li, nm_us, nm_uu, nm_cp, nm_sa31, nm_sa7, nm_m127, nm_m2, nm_nz, nm_nzk, nm_eq32, nm_nzf, if_true, if_false, ↓reduceIte, if_pos, if_neg]
theorem pt25 (n : Nat) {W : Nat} (hW : W < 2 ^ 32) : df_X16_part n (nI W) 25 7 () = some (nI (W / 33554432), ()) := by
  have hg : W / 33554432 % 128 = W / 33554432 := by omega
  simp (disch := omega) only [df_X16_part_0, df_X16_part, hg, nl_1, nl_7, nl_25, nl_31, no_1, no_1024, pk_mul, nI_add, nm_ck, nI_clamp, nI_ltI, nI_leI, nI_eq, nb_b2, nb_b1, nb_let, nm_z0, nm_z1, nb_II, nb_IR, nb_RI, nb_RR, nm_IL, nm_IQ, nm_RL, nm_RQ, nm_LI, nm_LR, nm_LL, nm_LQ, nm_QI, nm_QR, nm_QL, nm_QQ, nm_rr, nm_ii, nm_eqm, not_false_eq_true, pk_sub, nm_div, nm_shl, nm_shr, nm_ush, nm_or8, nm_or64, nm_or256, nm_m1, nm_m3, nm_m7, nm_m15, nm_m31, nm_m63, nm_m255, nm_m511, nm_m1023, nm_m2047, nm_m65535, Nat.reduceMod, Nat.reducePow, Nat.reduceAdd, Nat.reduceSub, Nat.reduceMul, nm_bo, nm_bi, nm_rc, nm_ic, nm_ri, nm_rl, nm_rq, nm_ql, nm_qi, nm_li, nm_us, nm_uu, nm_cp, nm_sa31, nm_sa7, nm_m127, nm_m2, nm_nz, nm_nzk, nm_eq32, nm_nzf, if_true, if_false, ↓reduceIte, if_pos, if_neg]
theorem pt0 (n : Nat) {W : Nat} (hW : W < 2 ^ 32) : df_X16_part n (nI W) 0 7 () = some (nI (W % 128), ()) := by
  simp (disch := omega) only [df_X16_part_0, df_X16_part, Nat.div_one, nl_0, nl_1, nl_7, nl_31, no_1, no_1024, pk_mul, nI_add, nm_ck, nI_clamp, nI_ltI, nI_leI, nI_eq, nb_b2, nb_b1, nb_let, nm_z0, nm_z1, nb_II, nb_IR, nb_RI, nb_RR, nm_IL, nm_IQ, nm_RL, nm_RQ, nm_LI, nm_LR, nm_LL, nm_LQ, nm_QI, nm_QR, nm_QL, nm_QQ, nm_rr, nm_ii, nm_eqm, not_false_eq_true, pk_sub, nm_div, nm_shl, nm_shr, nm_ush, nm_or8, nm_or64, nm_or256, nm_m1, nm_m3, nm_m7, nm_m15, nm_m31, nm_m63, nm_m255, nm_m511, nm_m1023, nm_m2047, nm_m65535, Nat.reduceMod, Nat.reducePow, Nat.reduceAdd, Nat.reduceSub, Nat.reduceMul, nm_bo, nm_bi, nm_rc, nm_ic, nm_ri, nm_rl, nm_rq, nm_ql, nm_qi, nm_li, nm_us, nm_uu, nm_cp, nm_sa31, nm_sa7, nm_m127, nm_m2, nm_nz, nm_nzk, nm_eq32, nm_nzf, if_true, if_false, ↓reduceIte, if_pos, if_neg]
theorem wk_sw (n : Nat) {p : Nat} {X : St × St} (hp : p < 16) (a3 : sI X.1 12 = nI p) {W : Nat} (hW : W < 2 ^ 32) {va vb : Int32} (hva : sR X.1 9 (32 * p + W / 32768 % 32) = va) (hvb : sR X.1 9 (32 * p + W / 1048576 % 32) = vb) : df_X16_carry n (nI W) X = if (nI (W % 128)) = 3 then (nd_b2 (df_X16_loaded n ((nI (W / 4096 % 8))) ((va + ((nI W : Int32) >>> ((20 : Int32) &&& 31)))) X) (fun (q25 : Int32) (s26 : St × (St)) => nd_b1 (df_X16_become n ((nI (W / 128 % 32))) (q25) s26) (fun (s29 : St × (St)) => df_X16_carry_562 n  s29))) else (if (nI (W % 128)) = 15 then (if (nI (W / 4096 % 8)) ≤ 1 then (df_X16_carry_562 n  X) else (nd_b2 (df_X16_illegal n  X) (fun (q33 : Int32) (s34 : St × (St)) => df_X16_carry_562 n  s34))) else (if (nI (W % 128)) = 19 then (if (nI (W / 4096 % 8)) = 1 then (df_X16_carry_391 n ((nI W)) ((nI (W / 4096 % 8))) (va) ((nI (W / 33554432))) ((nI (W / 128 % 32))) X) else (if (nI (W / 4096 % 8)) = 5 then (df_X16_carry_391 n ((nI W)) ((nI (W / 4096 % 8))) (va) ((nI (W / 33554432))) ((nI (W / 128 % 32))) X) else (nd_b2 (df_X16_reckoned n ((nI (W / 4096 % 8))) (va) (((nI W : Int32) >>> ((20 : Int32) &&& 31))) ()) (fun (q48 : Int32) (s49 : Unit) => df_X16_carry_418 n ((nI (W / 128 % 32))) (q48) X)))) else (if (nI (W % 128)) = 23 then (nd_ck ((sI X.1 12)) 16 (nd_b1 (df_X16_become n ((nI (W / 128 % 32))) (((sR X.1 10 (Int32.toNatClampNeg (sI X.1 12))) + ((nI W) &&& (-4096)))) X) (fun (s54 : St × (St)) => df_X16_carry_562 n  s54))) else (if (nI (W % 128)) = 35 then (nd_b1 (df_X16_stored n ((nI (W / 4096 % 8))) ((va + ((((nI W : Int32) >>> ((20 : Int32) &&& 31)) &&& (-32)) ||| (nI (W / 128 % 32))))) (vb) X) (fun (s58 : St × (St)) => df_X16_carry_562 n  s58)) else (if (nI (W % 128)) = 47 then (nd_b2 (df_X16_atomic n ((nI W)) ((nI (W / 4096 % 8))) ((((nI (W / 33554432)) : Int32) >>> ((2 : Int32) &&& 31))) (va) (vb) X) (fun (q61 : Int32) (s62 : St × (St)) => nd_b1 (df_X16_become n ((nI (W / 128 % 32))) (q61) s62) (fun (s65 : St × (St)) => df_X16_carry_562 n  s65))) else (if (nI (W % 128)) = 51 then (if (nI (W / 33554432)) = 1 then (nd_b2 (df_X16_multiplied n ((nI (W / 4096 % 8))) (va) (vb) ()) (fun (q83 : Int32) (s84 : Unit) => df_X16_carry_502 n ((nI (W / 128 % 32))) (q83) X)) else (if (nI (W / 33554432)) = 0 then (if (nI (W / 4096 % 8)) = 1 then (df_X16_carry_469 n ((nI (W / 4096 % 8))) (va) (vb) ((nI (W / 33554432))) ((nI (W / 128 % 32))) X) else (if (nI (W / 4096 % 8)) = 5 then (df_X16_carry_469 n ((nI (W / 4096 % 8))) (va) (vb) ((nI (W / 33554432))) ((nI (W / 128 % 32))) X) else (nd_b2 (df_X16_reckoned n ((nI (W / 4096 % 8))) (va) (vb) ()) (fun (q80 : Int32) (s81 : Unit) => df_X16_carry_502 n ((nI (W / 128 % 32))) (q80) X)))) else (df_X16_carry_469 n ((nI (W / 4096 % 8))) (va) (vb) ((nI (W / 33554432))) ((nI (W / 128 % 32))) X))) else (if (nI (W % 128)) = 55 then (nd_b1 (df_X16_become n ((nI (W / 128 % 32))) (((nI W) &&& (-4096))) X) (fun (s88 : St × (St)) => df_X16_carry_562 n  s88)) else (if (nI (W % 128)) = 99 then (nd_b1 (df_X16_decide n ((nI W)) ((nI (W / 4096 % 8))) (va) (vb) X) (fun (s92 : St × (St)) => df_X16_carry_562 n  s92)) else (if (nI (W % 128)) = 103 then (if (nI (W / 4096 % 8)) = 0 then (df_X16_carry_304 n ((nI (W / 128 % 32))) (va) (((nI W : Int32) >>> ((20 : Int32) &&& 31))) X) else (nd_b2 (df_X16_illegal n  X) (fun (q100 : Int32) (s101 : St × (St)) => df_X16_carry_304 n ((nI (W / 128 % 32))) (va) (((nI W : Int32) >>> ((20 : Int32) &&& 31))) s101))) else (if (nI (W % 128)) = 111 then (nd_b1 (df_X16_become n ((nI (W / 128 % 32))) ((sI X.1 10)) X) (fun (s105 : St × (St)) => nd_ck ((sI s105.1 12)) 16 (nd_b2 (df_X16_bit n ((nI W)) (31) (1) (20) ()) (fun (q108 : Int32) (s109 : Unit) => nd_b2 (df_X16_bit n ((nI W)) (12) (8) (12) ()) (fun (q111 : Int32) (s112 : Unit) => nd_b2 (df_X16_bit n ((nI W)) (20) (1) (11) ()) (fun (q114 : Int32) (s115 : Unit) => nd_b2 (df_X16_bit n ((nI W)) (21) (10) (1) ()) (fun (q117 : Int32) (s118 : Unit) => nd_b2 (df_X16_signed n ((((q108 ||| q111) ||| q114) ||| q117)) (21) ()) (fun (q120 : Int32) (s121 : Unit) => nd_let (((pI s105.1 10 ((sR s105.1 10 (Int32.toNatClampNeg (sI s105.1 12))) + q120)), s105.2)) (fun (s123 : St × (St)) => df_X16_carry_562 n  s123))))))))) else (if (nI (W % 128)) = 115 then (nd_b2 (df_X16_system n ((nI W)) ((nI (W / 4096 % 8))) X) (fun (q125 : Int32) (s126 : St × (St)) => nd_b1 (df_X16_become n ((nI (W / 128 % 32))) (q125) s126) (fun (s129 : St × (St)) => df_X16_carry_562 n  s129))) else (nd_b2 (df_X16_illegal n  X) (fun (q131 : Int32) (s132 : St × (St)) => df_X16_carry_562 n  s132))))))))))))) := by
  have i1 : (32 * sI X.1 12) + nI (W / 32768 % 32) = nI (32 * p + W / 32768 % 32) := by rw [a3]; exact (congrArg (fun z => z + nI (W / 32768 % 32)) (pk_mul 32 p)).trans (nI_add _ _)
  have i2 : (32 * sI X.1 12) + nI (W / 1048576 % 32) = nI (32 * p + W / 1048576 % 32) := by rw [a3]; exact (congrArg (fun z => z + nI (W / 1048576 % 32)) (pk_mul 32 p)).trans (nI_add _ _)
  show df_X16_carry_0 n (nI W) X = _
  unfold df_X16_carry_0
  rw [pt7 n hW, nb_b2, pt12 n hW, nb_b2, pt15 n hW, nb_b2, i1, nm_ck (by omega) (by omega), nI_clamp (by omega), hva, nb_let, pt20 n hW, nb_b2, i2, nm_ck (by omega) (by omega), nI_clamp (by omega), hvb, nb_let, pt25 n hW, nb_b2, nb_let, pt0 n hW, nb_b2]
theorem wk_3 (n : Nat) (hn : 1024 < n) {p : Nat} {s : St × (St × St)} {X : St × St} (h : rHt p s X) {W : Nat} (hW : W < 2 ^ 32) (c3 : W % 128 = 3) : ∃ (t : Int32) (s' : St × (St × St)) (X' : St × St), df_X4_work n (nI W) s = some (t, s') ∧ df_X16_carry n (nI W) X = some X' ∧ oH p s X t s' X' := by
  have h0 := h
  obtain ⟨hp, a1, a2, a3, a4, a5, a6, a7, a8, a9, a10, a11, a12, a13, a14⟩ := h
  have ea := a7 (W / 32768 % 32) (by omega)
  have eb := a7 (W / 1048576 % 32) (by omega)
  have es := fun v => nk_set n hp a2 hW v
  have bec := fun v => nk_bec n hp a3 a6 (d := W / 128 % 32) (by omega) v
  have bec0 : ∀ (me : Nat) (v : Int32), 0 < me → me < 9 → df_X16_become n (nI (W / 128 % 32)) v (pI X.1 11 (nI me), X.2) = some (pI X.1 11 (nI me), X.2) := fun me v m1 m2 => nk_bec0 n (X := (pI X.1 11 (nI me), X.2)) rfl m1 m2 _ _
  have hg : W / 33554432 % 128 = W / 33554432 := by omega
  have hi : tm (nI 4) 2 := Or.inr (Or.inl ⟨rfl, rfl⟩)
  have hva : sR X.1 9 (32 * p + W / 32768 % 32) = sR s.2.1 3 (p * 33 + W / 32768 % 32) := ea.symm
  have hvb : sR X.1 9 (32 * p + W / 1048576 % 32) = sR s.2.1 3 (p * 33 + W / 1048576 % 32) := eb.symm
  generalize sR s.2.1 3 (p * 33 + W / 32768 % 32) = va at hva
  generalize sR s.2.1 3 (p * 33 + W / 1048576 % 32) = vb at hvb
  rw [hva] at ea
  rw [hvb] at eb
  have u1 : p * 33 + W / 32768 % 32 < 528 := by omega
  have u2 : p * 33 + W / 1048576 % 32 < 528 := by omega
  have u3 : p * 33 + W / 32768 % 32 < 2 ^ 31 := by omega
  have u4 : p * 33 + W / 1048576 % 32 < 2 ^ 31 := by omega
  have u5 : 32 * p + W / 32768 % 32 < 512 := by omega
  have u6 : 32 * p + W / 1048576 % 32 < 512 := by omega
  have u7 : 32 * p + W / 32768 % 32 < 2 ^ 31 := by omega
  have u8 : 32 * p + W / 1048576 % 32 < 2 ^ 31 := by omega
  have u9 : W / 4096 % 8 < 2 ^ 31 := by omega
  have u10 : W / 33554432 < 2 ^ 31 := by omega
  have u11 : W / 33554432 < 2 ^ 32 := by omega
  have u12 : p < 2 ^ 31 := by omega
  obtain ⟨A, hA, eA⟩ := nI_ex (va + (nI W >>> nI 20))
  obtain ⟨t, s', X', e1, e2, o⟩ := vO_h n h0 (nk_load n hn h0 hW (f := W / 4096 % 8) (by omega) hA)
  refine ⟨t, s', X', ?_, ?_, o⟩
  · simp (disch := (first | assumption | decide | omega)) only [df_X4_work, df_X4_work_0, a2, ea, eb, c3, eA, eq_self, Nat.reduceEqDiff, Nat.reduceLeDiff, nl_0, nl_1, nl_2, nl_3, nl_4, nl_5, nl_7, nl_12, nl_15, nl_19, nl_20, nl_23, nl_25, nl_31, nl_35, nl_47, nl_51, nl_55, nl_99, nl_103, nl_111, nl_115, nl_127, nl_528, nl_4096, no_1, no_1024, pk_mul, nI_add, nm_ck, nI_clamp, nI_ltI, nI_leI, nI_eq, nb_b2, nb_b1, ↓nb_let, nm_z0, nm_z1, nb_II, nb_IR, nb_RI, nb_RR, nm_IL, nm_IQ, nm_RL, nm_RQ, nm_LI, nm_LR, nm_LL, nm_LQ, nm_QI, nm_QR, nm_QL, nm_QQ, nm_rr, nm_ii, nm_eqm, not_false_eq_true, pk_sub, nm_div, nm_shl, nm_shr, nm_ush, nm_or8, nm_or64, nm_or256, nm_m1, nm_m3, nm_m7, nm_m15, nm_m31, nm_m63, nm_m255, nm_m511, nm_m1023, nm_m2047, nm_m65535, Nat.reduceMod, Nat.reducePow, Nat.reduceAdd, Nat.reduceSub, Nat.reduceMul, nm_bo, nm_bi, nm_rc, nm_ic, nm_ri, nm_rl, nm_rq, nm_ql, nm_qi, nm_li, nm_us, nm_uu, nm_cp, nm_sa31, nm_sa7, nm_m127, nm_m2, nm_nz, nm_nzk, nm_eq32, nm_nzf, if_true, if_false, ↓reduceIte, if_pos, if_neg]
    exact e1
  · (rw [wk_sw n hp a3 hW hva hvb]; simp (disch := (first | assumption | decide | omega)) only [df_X16_carry_562, a3, hva, hvb, c3, eA, eq_self, Nat.reduceEqDiff, Nat.reduceLeDiff, nl_0, nl_1, nl_2, nl_3, nl_5, nl_8, nl_10, nl_11, nl_12, nl_15, nl_16, nl_19, nl_20, nl_21, nl_23, nl_31, nl_32, nl_35, nl_47, nl_51, nl_55, nl_99, nl_103, nl_111, nl_115, nl_4096, no_1, no_1024, pk_mul, nI_add, nm_ck, nI_clamp, nI_ltI, nI_leI, nI_eq, nb_b2, nb_b1, ↓nb_let, nm_z0, nm_z1, nb_II, nb_IR, nb_RI, nb_RR, nm_IL, nm_IQ, nm_RL, nm_RQ, nm_LI, nm_LR, nm_LL, nm_LQ, nm_QI, nm_QR, nm_QL, nm_QQ, nm_rr, nm_ii, nm_eqm, not_false_eq_true, pk_sub, nm_div, nm_shl, nm_shr, nm_ush, nm_or8, nm_or64, nm_or256, nm_m1, nm_m3, nm_m7, nm_m15, nm_m31, nm_m63, nm_m255, nm_m511, nm_m1023, nm_m2047, nm_m65535, Nat.reduceMod, Nat.reducePow, Nat.reduceAdd, Nat.reduceSub, Nat.reduceMul, nm_bo, nm_bi, nm_rc, nm_ic, nm_ri, nm_rl, nm_rq, nm_ql, nm_qi, nm_li, nm_us, nm_uu, nm_cp, nm_sa31, nm_sa7, nm_m127, nm_m2, nm_nz, nm_nzk, nm_eq32, nm_nzf, if_true, if_false, ↓reduceIte, if_pos, if_neg])
    exact e2
theorem wk_15 (n : Nat) (hn : 1024 < n) {p : Nat} {s : St × (St × St)} {X : St × St} (h : rHt p s X) {W : Nat} (hW : W < 2 ^ 32) (c15 : W % 128 = 15) : ∃ (t : Int32) (s' : St × (St × St)) (X' : St × St), df_X4_work n (nI W) s = some (t, s') ∧ df_X16_carry n (nI W) X = some X' ∧ oH p s X t s' X' := by
  have h0 := h
  obtain ⟨hp, a1, a2, a3, a4, a5, a6, a7, a8, a9, a10, a11, a12, a13, a14⟩ := h
  have ea := a7 (W / 32768 % 32) (by omega)
  have eb := a7 (W / 1048576 % 32) (by omega)
  have es := fun v => nk_set n hp a2 hW v
  have bec := fun v => nk_bec n hp a3 a6 (d := W / 128 % 32) (by omega) v
  have bec0 : ∀ (me : Nat) (v : Int32), 0 < me → me < 9 → df_X16_become n (nI (W / 128 % 32)) v (pI X.1 11 (nI me), X.2) = some (pI X.1 11 (nI me), X.2) := fun me v m1 m2 => nk_bec0 n (X := (pI X.1 11 (nI me), X.2)) rfl m1 m2 _ _
  have hg : W / 33554432 % 128 = W / 33554432 := by omega
  have hi : tm (nI 4) 2 := Or.inr (Or.inl ⟨rfl, rfl⟩)
  have hva : sR X.1 9 (32 * p + W / 32768 % 32) = sR s.2.1 3 (p * 33 + W / 32768 % 32) := ea.symm
  have hvb : sR X.1 9 (32 * p + W / 1048576 % 32) = sR s.2.1 3 (p * 33 + W / 1048576 % 32) := eb.symm
  generalize sR s.2.1 3 (p * 33 + W / 32768 % 32) = va at hva
  generalize sR s.2.1 3 (p * 33 + W / 1048576 % 32) = vb at hvb
  rw [hva] at ea
  rw [hvb] at eb
  have u1 : p * 33 + W / 32768 % 32 < 528 := by omega
  have u2 : p * 33 + W / 1048576 % 32 < 528 := by omega
  have u3 : p * 33 + W / 32768 % 32 < 2 ^ 31 := by omega
  have u4 : p * 33 + W / 1048576 % 32 < 2 ^ 31 := by omega
  have u5 : 32 * p + W / 32768 % 32 < 512 := by omega
  have u6 : 32 * p + W / 1048576 % 32 < 512 := by omega
  have u7 : 32 * p + W / 32768 % 32 < 2 ^ 31 := by omega
  have u8 : 32 * p + W / 1048576 % 32 < 2 ^ 31 := by omega
  have u9 : W / 4096 % 8 < 2 ^ 31 := by omega
  have u10 : W / 33554432 < 2 ^ 31 := by omega
  have u11 : W / 33554432 < 2 ^ 32 := by omega
  have u12 : p < 2 ^ 31 := by omega
  by_cases cf : W / 4096 % 8 ≤ 1
  · have cf' : ¬ 1 < W / 4096 % 8 := by omega
    exact ⟨nI 0, s, X, by simp (disch := (first | assumption | decide | omega)) only [df_X4_work, df_X4_work_0, df_X4_work_346, a2, ea, eb, c15, cf', eq_self, Nat.reduceEqDiff, Nat.reduceLeDiff, nl_0, nl_1, nl_2, nl_3, nl_4, nl_5, nl_7, nl_12, nl_15, nl_19, nl_20, nl_23, nl_25, nl_31, nl_35, nl_47, nl_51, nl_55, nl_99, nl_103, nl_111, nl_115, nl_127, nl_528, nl_4096, no_1, no_1024, pk_mul, nI_add, nm_ck, nI_clamp, nI_ltI, nI_leI, nI_eq, nb_b2, nb_b1, ↓nb_let, nm_z0, nm_z1, nb_II, nb_IR, nb_RI, nb_RR, nm_IL, nm_IQ, nm_RL, nm_RQ, nm_LI, nm_LR, nm_LL, nm_LQ, nm_QI, nm_QR, nm_QL, nm_QQ, nm_rr, nm_ii, nm_eqm, not_false_eq_true, pk_sub, nm_div, nm_shl, nm_shr, nm_ush, nm_or8, nm_or64, nm_or256, nm_m1, nm_m3, nm_m7, nm_m15, nm_m31, nm_m63, nm_m255, nm_m511, nm_m1023, nm_m2047, nm_m65535, Nat.reduceMod, Nat.reducePow, Nat.reduceAdd, Nat.reduceSub, Nat.reduceMul, nm_bo, nm_bi, nm_rc, nm_ic, nm_ri, nm_rl, nm_rq, nm_ql, nm_qi, nm_li, nm_us, nm_uu, nm_cp, nm_sa31, nm_sa7, nm_m127, nm_m2, nm_nz, nm_nzk, nm_eq32, nm_nzf, if_true, if_false, ↓reduceIte, if_pos, if_neg], by (rw [wk_sw n hp a3 hW hva hvb]; simp (disch := (first | assumption | decide | omega)) only [df_X16_carry_562, a3, hva, hvb, c15, cf, eq_self, Nat.reduceEqDiff, Nat.reduceLeDiff, nl_0, nl_1, nl_2, nl_3, nl_5, nl_8, nl_10, nl_11, nl_12, nl_15, nl_16, nl_19, nl_20, nl_21, nl_23, nl_31, nl_32, nl_35, nl_47, nl_51, nl_55, nl_99, nl_103, nl_111, nl_115, nl_4096, no_1, no_1024, pk_mul, nI_add, nm_ck, nI_clamp, nI_ltI, nI_leI, nI_eq, nb_b2, nb_b1, ↓nb_let, nm_z0, nm_z1, nb_II, nb_IR, nb_RI, nb_RR, nm_IL, nm_IQ, nm_RL, nm_RQ, nm_LI, nm_LR, nm_LL, nm_LQ, nm_QI, nm_QR, nm_QL, nm_QQ, nm_rr, nm_ii, nm_eqm, not_false_eq_true, pk_sub, nm_div, nm_shl, nm_shr, nm_ush, nm_or8, nm_or64, nm_or256, nm_m1, nm_m3, nm_m7, nm_m15, nm_m31, nm_m63, nm_m255, nm_m511, nm_m1023, nm_m2047, nm_m65535, Nat.reduceMod, Nat.reducePow, Nat.reduceAdd, Nat.reduceSub, Nat.reduceMul, nm_bo, nm_bi, nm_rc, nm_ic, nm_ri, nm_rl, nm_rq, nm_ql, nm_qi, nm_li, nm_us, nm_uu, nm_cp, nm_sa31, nm_sa7, nm_m127, nm_m2, nm_nz, nm_nzk, nm_eq32, nm_nzf, if_true, if_false, ↓reduceIte, if_pos, if_neg]), oH_0 h0⟩
  · have cf' : 1 < W / 4096 % 8 := by omega
    exact ⟨nI 4, s, (pI X.1 11 (nI 2), X.2), by simp (disch := (first | assumption | decide | omega)) only [df_X4_work, df_X4_work_0, df_X4_work_346, a2, ea, eb, c15, cf', eq_self, Nat.reduceEqDiff, Nat.reduceLeDiff, nl_0, nl_1, nl_2, nl_3, nl_4, nl_5, nl_7, nl_12, nl_15, nl_19, nl_20, nl_23, nl_25, nl_31, nl_35, nl_47, nl_51, nl_55, nl_99, nl_103, nl_111, nl_115, nl_127, nl_528, nl_4096, no_1, no_1024, pk_mul, nI_add, nm_ck, nI_clamp, nI_ltI, nI_leI, nI_eq, nb_b2, nb_b1, ↓nb_let, nm_z0, nm_z1, nb_II, nb_IR, nb_RI, nb_RR, nm_IL, nm_IQ, nm_RL, nm_RQ, nm_LI, nm_LR, nm_LL, nm_LQ, nm_QI, nm_QR, nm_QL, nm_QQ, nm_rr, nm_ii, nm_eqm, not_false_eq_true, pk_sub, nm_div, nm_shl, nm_shr, nm_ush, nm_or8, nm_or64, nm_or256, nm_m1, nm_m3, nm_m7, nm_m15, nm_m31, nm_m63, nm_m255, nm_m511, nm_m1023, nm_m2047, nm_m65535, Nat.reduceMod, Nat.reducePow, Nat.reduceAdd, Nat.reduceSub, Nat.reduceMul, nm_bo, nm_bi, nm_rc, nm_ic, nm_ri, nm_rl, nm_rq, nm_ql, nm_qi, nm_li, nm_us, nm_uu, nm_cp, nm_sa31, nm_sa7, nm_m127, nm_m2, nm_nz, nm_nzk, nm_eq32, nm_nzf, if_true, if_false, ↓reduceIte, if_pos, if_neg], by (rw [wk_sw n hp a3 hW hva hvb]; simp (disch := (first | assumption | decide | omega)) only [df_X16_carry_562, df_X16_illegal_0, df_X16_illegal, df_X16_meet_0, df_X16_meet, a3, hva, hvb, c15, cf, eq_self, Nat.reduceEqDiff, Nat.reduceLeDiff, nl_0, nl_1, nl_2, nl_3, nl_5, nl_8, nl_10, nl_11, nl_12, nl_15, nl_16, nl_19, nl_20, nl_21, nl_23, nl_31, nl_32, nl_35, nl_47, nl_51, nl_55, nl_99, nl_103, nl_111, nl_115, nl_4096, no_1, no_1024, pk_mul, nI_add, nm_ck, nI_clamp, nI_ltI, nI_leI, nI_eq, nb_b2, nb_b1, ↓nb_let, nm_z0, nm_z1, nb_II, nb_IR, nb_RI, nb_RR, nm_IL, nm_IQ, nm_RL, nm_RQ, nm_LI, nm_LR, nm_LL, nm_LQ, nm_QI, nm_QR, nm_QL, nm_QQ, nm_rr, nm_ii, nm_eqm, not_false_eq_true, pk_sub, nm_div, nm_shl, nm_shr, nm_ush, nm_or8, nm_or64, nm_or256, nm_m1, nm_m3, nm_m7, nm_m15, nm_m31, nm_m63, nm_m255, nm_m511, nm_m1023, nm_m2047, nm_m65535, Nat.reduceMod, Nat.reducePow, Nat.reduceAdd, Nat.reduceSub, Nat.reduceMul, nm_bo, nm_bi, nm_rc, nm_ic, nm_ri, nm_rl, nm_rq, nm_ql, nm_qi, nm_li, nm_us, nm_uu, nm_cp, nm_sa31, nm_sa7, nm_m127, nm_m2, nm_nz, nm_nzk, nm_eq32, nm_nzf, if_true, if_false, ↓reduceIte, if_pos, if_neg]), oH_t hi⟩
theorem wk_19 (n : Nat) (hn : 1024 < n) {p : Nat} {s : St × (St × St)} {X : St × St} (h : rHt p s X) {W : Nat} (hW : W < 2 ^ 32) (c19 : W % 128 = 19) : ∃ (t : Int32) (s' : St × (St × St)) (X' : St × St), df_X4_work n (nI W) s = some (t, s') ∧ df_X16_carry n (nI W) X = some X' ∧ oH p s X t s' X' := by
  have h0 := h
  obtain ⟨hp, a1, a2, a3, a4, a5, a6, a7, a8, a9, a10, a11, a12, a13, a14⟩ := h
  have ea := a7 (W / 32768 % 32) (by omega)
  have eb := a7 (W / 1048576 % 32) (by omega)
  have es := fun v => nk_set n hp a2 hW v
  have bec := fun v => nk_bec n hp a3 a6 (d := W / 128 % 32) (by omega) v
  have bec0 : ∀ (me : Nat) (v : Int32), 0 < me → me < 9 → df_X16_become n (nI (W / 128 % 32)) v (pI X.1 11 (nI me), X.2) = some (pI X.1 11 (nI me), X.2) := fun me v m1 m2 => nk_bec0 n (X := (pI X.1 11 (nI me), X.2)) rfl m1 m2 _ _
  have hg : W / 33554432 % 128 = W / 33554432 := by omega
  have hi : tm (nI 4) 2 := Or.inr (Or.inl ⟨rfl, rfl⟩)
  have hva : sR X.1 9 (32 * p + W / 32768 % 32) = sR s.2.1 3 (p * 33 + W / 32768 % 32) := ea.symm
  have hvb : sR X.1 9 (32 * p + W / 1048576 % 32) = sR s.2.1 3 (p * 33 + W / 1048576 % 32) := eb.symm
  generalize sR s.2.1 3 (p * 33 + W / 32768 % 32) = va at hva
  generalize sR s.2.1 3 (p * 33 + W / 1048576 % 32) = vb at hvb
  rw [hva] at ea
  rw [hvb] at eb
  have u1 : p * 33 + W / 32768 % 32 < 528 := by omega
  have u2 : p * 33 + W / 1048576 % 32 < 528 := by omega
  have u3 : p * 33 + W / 32768 % 32 < 2 ^ 31 := by omega
  have u4 : p * 33 + W / 1048576 % 32 < 2 ^ 31 := by omega
  have u5 : 32 * p + W / 32768 % 32 < 512 := by omega
  have u6 : 32 * p + W / 1048576 % 32 < 512 := by omega
  have u7 : 32 * p + W / 32768 % 32 < 2 ^ 31 := by omega
  have u8 : 32 * p + W / 1048576 % 32 < 2 ^ 31 := by omega
  have u9 : W / 4096 % 8 < 2 ^ 31 := by omega
  have u10 : W / 33554432 < 2 ^ 31 := by omega
  have u11 : W / 33554432 < 2 ^ 32 := by omega
  have u12 : p < 2 ^ 31 := by omega
  have pt20' : df_X16_part n (nI W) (nI 20) (nI 5) () = some (nI (W / 1048576 % 32), ()) := pt20 n hW
  obtain ⟨w1, w2⟩ := nk_wn n h0 hW (f := W / 4096 % 8) (by omega) va
  by_cases cf : W / 4096 % 8 = 1 ∨ W / 4096 % 8 = 5
  · obtain ⟨t, s', X', e1, e2, o⟩ := vO_h n h0 (w1 cf)
    refine ⟨t, s', X', ?_, ?_, o⟩
    · simp (disch := (first | assumption | decide | omega)) only [df_X4_work, df_X4_work_0, a2, ea, eb, c19, eq_self, Nat.reduceEqDiff, Nat.reduceLeDiff, nl_0, nl_1, nl_2, nl_3, nl_4, nl_5, nl_7, nl_12, nl_15, nl_19, nl_20, nl_23, nl_25, nl_31, nl_35, nl_47, nl_51, nl_55, nl_99, nl_103, nl_111, nl_115, nl_127, nl_528, nl_4096, no_1, no_1024, pk_mul, nI_add, nm_ck, nI_clamp, nI_ltI, nI_leI, nI_eq, nb_b2, nb_b1, ↓nb_let, nm_z0, nm_z1, nb_II, nb_IR, nb_RI, nb_RR, nm_IL, nm_IQ, nm_RL, nm_RQ, nm_LI, nm_LR, nm_LL, nm_LQ, nm_QI, nm_QR, nm_QL, nm_QQ, nm_rr, nm_ii, nm_eqm, not_false_eq_true, pk_sub, nm_div, nm_shl, nm_shr, nm_ush, nm_or8, nm_or64, nm_or256, nm_m1, nm_m3, nm_m7, nm_m15, nm_m31, nm_m63, nm_m255, nm_m511, nm_m1023, nm_m2047, nm_m65535, Nat.reduceMod, Nat.reducePow, Nat.reduceAdd, Nat.reduceSub, Nat.reduceMul, nm_bo, nm_bi, nm_rc, nm_ic, nm_ri, nm_rl, nm_rq, nm_ql, nm_qi, nm_li, nm_us, nm_uu, nm_cp, nm_sa31, nm_sa7, nm_m127, nm_m2, nm_nz, nm_nzk, nm_eq32, nm_nzf, if_true, if_false, ↓reduceIte, if_pos, if_neg]
      exact e1
    · rcases cf with cf | cf
      · rw [cf] at e2
        (rw [wk_sw n hp a3 hW hva hvb]; simp (disch := (first | assumption | decide | omega)) only [df_X16_carry_391, df_X16_carry_418, df_X16_carry_562, a3, hva, hvb, c19, cf, hg, pt20', eq_self, Nat.reduceEqDiff, Nat.reduceLeDiff, nl_0, nl_1, nl_2, nl_3, nl_5, nl_8, nl_10, nl_11, nl_12, nl_15, nl_16, nl_19, nl_20, nl_21, nl_23, nl_31, nl_32, nl_35, nl_47, nl_51, nl_55, nl_99, nl_103, nl_111, nl_115, nl_4096, no_1, no_1024, pk_mul, nI_add, nm_ck, nI_clamp, nI_ltI, nI_leI, nI_eq, nb_b2, nb_b1, ↓nb_let, nm_z0, nm_z1, nb_II, nb_IR, nb_RI, nb_RR, nm_IL, nm_IQ, nm_RL, nm_RQ, nm_LI, nm_LR, nm_LL, nm_LQ, nm_QI, nm_QR, nm_QL, nm_QQ, nm_rr, nm_ii, nm_eqm, not_false_eq_true, pk_sub, nm_div, nm_shl, nm_shr, nm_ush, nm_or8, nm_or64, nm_or256, nm_m1, nm_m3, nm_m7, nm_m15, nm_m31, nm_m63, nm_m255, nm_m511, nm_m1023, nm_m2047, nm_m65535, Nat.reduceMod, Nat.reducePow, Nat.reduceAdd, Nat.reduceSub, Nat.reduceMul, nm_bo, nm_bi, nm_rc, nm_ic, nm_ri, nm_rl, nm_rq, nm_ql, nm_qi, nm_li, nm_us, nm_uu, nm_cp, nm_sa31, nm_sa7, nm_m127, nm_m2, nm_nz, nm_nzk, nm_eq32, nm_nzf, if_true, if_false, ↓reduceIte, if_pos, if_neg])
        exact e2
      · rw [cf] at e2
        (rw [wk_sw n hp a3 hW hva hvb]; simp (disch := (first | assumption | decide | omega)) only [df_X16_carry_391, df_X16_carry_418, df_X16_carry_562, a3, hva, hvb, c19, cf, hg, pt20', eq_self, Nat.reduceEqDiff, Nat.reduceLeDiff, nl_0, nl_1, nl_2, nl_3, nl_5, nl_8, nl_10, nl_11, nl_12, nl_15, nl_16, nl_19, nl_20, nl_21, nl_23, nl_31, nl_32, nl_35, nl_47, nl_51, nl_55, nl_99, nl_103, nl_111, nl_115, nl_4096, no_1, no_1024, pk_mul, nI_add, nm_ck, nI_clamp, nI_ltI, nI_leI, nI_eq, nb_b2, nb_b1, ↓nb_let, nm_z0, nm_z1, nb_II, nb_IR, nb_RI, nb_RR, nm_IL, nm_IQ, nm_RL, nm_RQ, nm_LI, nm_LR, nm_LL, nm_LQ, nm_QI, nm_QR, nm_QL, nm_QQ, nm_rr, nm_ii, nm_eqm, not_false_eq_true, pk_sub, nm_div, nm_shl, nm_shr, nm_ush, nm_or8, nm_or64, nm_or256, nm_m1, nm_m3, nm_m7, nm_m15, nm_m31, nm_m63, nm_m255, nm_m511, nm_m1023, nm_m2047, nm_m65535, Nat.reduceMod, Nat.reducePow, Nat.reduceAdd, Nat.reduceSub, Nat.reduceMul, nm_bo, nm_bi, nm_rc, nm_ic, nm_ri, nm_rl, nm_rq, nm_ql, nm_qi, nm_li, nm_us, nm_uu, nm_cp, nm_sa31, nm_sa7, nm_m127, nm_m2, nm_nz, nm_nzk, nm_eq32, nm_nzf, if_true, if_false, ↓reduceIte, if_pos, if_neg])
        exact e2
  · obtain ⟨v, e1, e2⟩ := w2 cf
    have f1 : ¬ W / 4096 % 8 = 1 := fun z => cf (Or.inl z)
    have f5 : ¬ W / 4096 % 8 = 5 := fun z => cf (Or.inr z)
    exact ⟨nI 0, _, _, by (simp (disch := (first | assumption | decide | omega)) only [df_X4_work, df_X4_work_0, a2, ea, eb, c19, e1, eq_self, Nat.reduceEqDiff, Nat.reduceLeDiff, nl_0, nl_1, nl_2, nl_3, nl_4, nl_5, nl_7, nl_12, nl_15, nl_19, nl_20, nl_23, nl_25, nl_31, nl_35, nl_47, nl_51, nl_55, nl_99, nl_103, nl_111, nl_115, nl_127, nl_528, nl_4096, no_1, no_1024, pk_mul, nI_add, nm_ck, nI_clamp, nI_ltI, nI_leI, nI_eq, nb_b2, nb_b1, ↓nb_let, nm_z0, nm_z1, nb_II, nb_IR, nb_RI, nb_RR, nm_IL, nm_IQ, nm_RL, nm_RQ, nm_LI, nm_LR, nm_LL, nm_LQ, nm_QI, nm_QR, nm_QL, nm_QQ, nm_rr, nm_ii, nm_eqm, not_false_eq_true, pk_sub, nm_div, nm_shl, nm_shr, nm_ush, nm_or8, nm_or64, nm_or256, nm_m1, nm_m3, nm_m7, nm_m15, nm_m31, nm_m63, nm_m255, nm_m511, nm_m1023, nm_m2047, nm_m65535, Nat.reduceMod, Nat.reducePow, Nat.reduceAdd, Nat.reduceSub, Nat.reduceMul, nm_bo, nm_bi, nm_rc, nm_ic, nm_ri, nm_rl, nm_rq, nm_ql, nm_qi, nm_li, nm_us, nm_uu, nm_cp, nm_sa31, nm_sa7, nm_m127, nm_m2, nm_nz, nm_nzk, nm_eq32, nm_nzf, if_true, if_false, ↓reduceIte, if_pos, if_neg] <;> rfl), by ((rw [wk_sw n hp a3 hW hva hvb]; simp (disch := (first | assumption | decide | omega)) only [df_X16_carry_418, df_X16_carry_562, a3, hva, hvb, c19, f1, f5, e2, bec, eq_self, Nat.reduceEqDiff, Nat.reduceLeDiff, nl_0, nl_1, nl_2, nl_3, nl_5, nl_8, nl_10, nl_11, nl_12, nl_15, nl_16, nl_19, nl_20, nl_21, nl_23, nl_31, nl_32, nl_35, nl_47, nl_51, nl_55, nl_99, nl_103, nl_111, nl_115, nl_4096, no_1, no_1024, pk_mul, nI_add, nm_ck, nI_clamp, nI_ltI, nI_leI, nI_eq, nb_b2, nb_b1, ↓nb_let, nm_z0, nm_z1, nb_II, nb_IR, nb_RI, nb_RR, nm_IL, nm_IQ, nm_RL, nm_RQ, nm_LI, nm_LR, nm_LL, nm_LQ, nm_QI, nm_QR, nm_QL, nm_QQ, nm_rr, nm_ii, nm_eqm, not_false_eq_true, pk_sub, nm_div, nm_shl, nm_shr, nm_ush, nm_or8, nm_or64, nm_or256, nm_m1, nm_m3, nm_m7, nm_m15, nm_m31, nm_m63, nm_m255, nm_m511, nm_m1023, nm_m2047, nm_m65535, Nat.reduceMod, Nat.reducePow, Nat.reduceAdd, Nat.reduceSub, Nat.reduceMul, nm_bo, nm_bi, nm_rc, nm_ic, nm_ri, nm_rl, nm_rq, nm_ql, nm_qi, nm_li, nm_us, nm_uu, nm_cp, nm_sa31, nm_sa7, nm_m127, nm_m2, nm_nz, nm_nzk, nm_eq32, nm_nzf, if_true, if_false, ↓reduceIte, if_pos, if_neg]) <;> rfl), oH_v h0 (by omega) v⟩
theorem wk_23 (n : Nat) (hn : 1024 < n) {p : Nat} {s : St × (St × St)} {X : St × St} (h : rHt p s X) {W : Nat} (hW : W < 2 ^ 32) (c23 : W % 128 = 23) : ∃ (t : Int32) (s' : St × (St × St)) (X' : St × St), df_X4_work n (nI W) s = some (t, s') ∧ df_X16_carry n (nI W) X = some X' ∧ oH p s X t s' X' := by
  have h0 := h
  obtain ⟨hp, a1, a2, a3, a4, a5, a6, a7, a8, a9, a10, a11, a12, a13, a14⟩ := h
  have ea := a7 (W / 32768 % 32) (by omega)
  have eb := a7 (W / 1048576 % 32) (by omega)
  have es := fun v => nk_set n hp a2 hW v
  have bec := fun v => nk_bec n hp a3 a6 (d := W / 128 % 32) (by omega) v
  have bec0 : ∀ (me : Nat) (v : Int32), 0 < me → me < 9 → df_X16_become n (nI (W / 128 % 32)) v (pI X.1 11 (nI me), X.2) = some (pI X.1 11 (nI me), X.2) := fun me v m1 m2 => nk_bec0 n (X := (pI X.1 11 (nI me), X.2)) rfl m1 m2 _ _
  have hg : W / 33554432 % 128 = W / 33554432 := by omega
  have hi : tm (nI 4) 2 := Or.inr (Or.inl ⟨rfl, rfl⟩)
  have hva : sR X.1 9 (32 * p + W / 32768 % 32) = sR s.2.1 3 (p * 33 + W / 32768 % 32) := ea.symm
  have hvb : sR X.1 9 (32 * p + W / 1048576 % 32) = sR s.2.1 3 (p * 33 + W / 1048576 % 32) := eb.symm
  generalize sR s.2.1 3 (p * 33 + W / 32768 % 32) = va at hva
  generalize sR s.2.1 3 (p * 33 + W / 1048576 % 32) = vb at hvb
  rw [hva] at ea
  rw [hvb] at eb
  have u1 : p * 33 + W / 32768 % 32 < 528 := by omega
  have u2 : p * 33 + W / 1048576 % 32 < 528 := by omega
  have u3 : p * 33 + W / 32768 % 32 < 2 ^ 31 := by omega
  have u4 : p * 33 + W / 1048576 % 32 < 2 ^ 31 := by omega
  have u5 : 32 * p + W / 32768 % 32 < 512 := by omega
  have u6 : 32 * p + W / 1048576 % 32 < 512 := by omega
  have u7 : 32 * p + W / 32768 % 32 < 2 ^ 31 := by omega
  have u8 : 32 * p + W / 1048576 % 32 < 2 ^ 31 := by omega
  have u9 : W / 4096 % 8 < 2 ^ 31 := by omega
  have u10 : W / 33554432 < 2 ^ 31 := by omega
  have u11 : W / 33554432 < 2 ^ 32 := by omega
  have u12 : p < 2 ^ 31 := by omega
  exact ⟨nI 0, _, _, by (simp (disch := (first | assumption | decide | omega)) only [df_X4_work, df_X4_work_0, a2, ea, eb, c23, a4, es, eq_self, Nat.reduceEqDiff, Nat.reduceLeDiff, nl_0, nl_1, nl_2, nl_3, nl_4, nl_5, nl_7, nl_12, nl_15, nl_19, nl_20, nl_23, nl_25, nl_31, nl_35, nl_47, nl_51, nl_55, nl_99, nl_103, nl_111, nl_115, nl_127, nl_528, nl_4096, no_1, no_1024, pk_mul, nI_add, nm_ck, nI_clamp, nI_ltI, nI_leI, nI_eq, nb_b2, nb_b1, ↓nb_let, nm_z0, nm_z1, nb_II, nb_IR, nb_RI, nb_RR, nm_IL, nm_IQ, nm_RL, nm_RQ, nm_LI, nm_LR, nm_LL, nm_LQ, nm_QI, nm_QR, nm_QL, nm_QQ, nm_rr, nm_ii, nm_eqm, not_false_eq_true, pk_sub, nm_div, nm_shl, nm_shr, nm_ush, nm_or8, nm_or64, nm_or256, nm_m1, nm_m3, nm_m7, nm_m15, nm_m31, nm_m63, nm_m255, nm_m511, nm_m1023, nm_m2047, nm_m65535, Nat.reduceMod, Nat.reducePow, Nat.reduceAdd, Nat.reduceSub, Nat.reduceMul, nm_bo, nm_bi, nm_rc, nm_ic, nm_ri, nm_rl, nm_rq, nm_ql, nm_qi, nm_li, nm_us, nm_uu, nm_cp, nm_sa31, nm_sa7, nm_m127, nm_m2, nm_nz, nm_nzk, nm_eq32, nm_nzf, if_true, if_false, ↓reduceIte, if_pos, if_neg] <;> rfl), by ((rw [wk_sw n hp a3 hW hva hvb]; simp (disch := (first | assumption | decide | omega)) only [df_X16_carry_562, a3, hva, hvb, c23, bec, eq_self, Nat.reduceEqDiff, Nat.reduceLeDiff, nl_0, nl_1, nl_2, nl_3, nl_5, nl_8, nl_10, nl_11, nl_12, nl_15, nl_16, nl_19, nl_20, nl_21, nl_23, nl_31, nl_32, nl_35, nl_47, nl_51, nl_55, nl_99, nl_103, nl_111, nl_115, nl_4096, no_1, no_1024, pk_mul, nI_add, nm_ck, nI_clamp, nI_ltI, nI_leI, nI_eq, nb_b2, nb_b1, ↓nb_let, nm_z0, nm_z1, nb_II, nb_IR, nb_RI, nb_RR, nm_IL, nm_IQ, nm_RL, nm_RQ, nm_LI, nm_LR, nm_LL, nm_LQ, nm_QI, nm_QR, nm_QL, nm_QQ, nm_rr, nm_ii, nm_eqm, not_false_eq_true, pk_sub, nm_div, nm_shl, nm_shr, nm_ush, nm_or8, nm_or64, nm_or256, nm_m1, nm_m3, nm_m7, nm_m15, nm_m31, nm_m63, nm_m255, nm_m511, nm_m1023, nm_m2047, nm_m65535, Nat.reduceMod, Nat.reducePow, Nat.reduceAdd, Nat.reduceSub, Nat.reduceMul, nm_bo, nm_bi, nm_rc, nm_ic, nm_ri, nm_rl, nm_rq, nm_ql, nm_qi, nm_li, nm_us, nm_uu, nm_cp, nm_sa31, nm_sa7, nm_m127, nm_m2, nm_nz, nm_nzk, nm_eq32, nm_nzf, if_true, if_false, ↓reduceIte, if_pos, if_neg]) <;> rfl), oH_v h0 (by omega) (sR X.1 10 p + (nI W &&& -nI 4096))⟩
theorem wk_35 (n : Nat) (hn : 1024 < n) {p : Nat} {s : St × (St × St)} {X : St × St} (h : rHt p s X) {W : Nat} (hW : W < 2 ^ 32) (c35 : W % 128 = 35) : ∃ (t : Int32) (s' : St × (St × St)) (X' : St × St), df_X4_work n (nI W) s = some (t, s') ∧ df_X16_carry n (nI W) X = some X' ∧ oH p s X t s' X' := by
  have h0 := h
  obtain ⟨hp, a1, a2, a3, a4, a5, a6, a7, a8, a9, a10, a11, a12, a13, a14⟩ := h
  have ea := a7 (W / 32768 % 32) (by omega)
  have eb := a7 (W / 1048576 % 32) (by omega)
  have es := fun v => nk_set n hp a2 hW v
  have bec := fun v => nk_bec n hp a3 a6 (d := W / 128 % 32) (by omega) v
  have bec0 : ∀ (me : Nat) (v : Int32), 0 < me → me < 9 → df_X16_become n (nI (W / 128 % 32)) v (pI X.1 11 (nI me), X.2) = some (pI X.1 11 (nI me), X.2) := fun me v m1 m2 => nk_bec0 n (X := (pI X.1 11 (nI me), X.2)) rfl m1 m2 _ _
  have hg : W / 33554432 % 128 = W / 33554432 := by omega
  have hi : tm (nI 4) 2 := Or.inr (Or.inl ⟨rfl, rfl⟩)
  have hva : sR X.1 9 (32 * p + W / 32768 % 32) = sR s.2.1 3 (p * 33 + W / 32768 % 32) := ea.symm
  have hvb : sR X.1 9 (32 * p + W / 1048576 % 32) = sR s.2.1 3 (p * 33 + W / 1048576 % 32) := eb.symm
  generalize sR s.2.1 3 (p * 33 + W / 32768 % 32) = va at hva
  generalize sR s.2.1 3 (p * 33 + W / 1048576 % 32) = vb at hvb
  rw [hva] at ea
  rw [hvb] at eb
  have u1 : p * 33 + W / 32768 % 32 < 528 := by omega
  have u2 : p * 33 + W / 1048576 % 32 < 528 := by omega
  have u3 : p * 33 + W / 32768 % 32 < 2 ^ 31 := by omega
  have u4 : p * 33 + W / 1048576 % 32 < 2 ^ 31 := by omega
  have u5 : 32 * p + W / 32768 % 32 < 512 := by omega
  have u6 : 32 * p + W / 1048576 % 32 < 512 := by omega
  have u7 : 32 * p + W / 32768 % 32 < 2 ^ 31 := by omega
  have u8 : 32 * p + W / 1048576 % 32 < 2 ^ 31 := by omega
  have u9 : W / 4096 % 8 < 2 ^ 31 := by omega
  have u10 : W / 33554432 < 2 ^ 31 := by omega
  have u11 : W / 33554432 < 2 ^ 32 := by omega
  have u12 : p < 2 ^ 31 := by omega
  obtain ⟨A, hA, eA⟩ := nI_ex (va + (((nI W >>> nI 20) &&& -nI 32) ||| nI (W / 128 % 32)))
  obtain ⟨t, s', X', e1, e2, o⟩ := nk_store n hn h0 (f := W / 4096 % 8) (by omega) hA vb
  exact ⟨t, s', X', by simp (disch := (first | assumption | decide | omega)) only [df_X4_work, df_X4_work_0, a2, ea, eb, c35, st_off, eA, e1, eq_self, Nat.reduceEqDiff, Nat.reduceLeDiff, nl_0, nl_1, nl_2, nl_3, nl_4, nl_5, nl_7, nl_12, nl_15, nl_19, nl_20, nl_23, nl_25, nl_31, nl_35, nl_47, nl_51, nl_55, nl_99, nl_103, nl_111, nl_115, nl_127, nl_528, nl_4096, no_1, no_1024, pk_mul, nI_add, nm_ck, nI_clamp, nI_ltI, nI_leI, nI_eq, nb_b2, nb_b1, ↓nb_let, nm_z0, nm_z1, nb_II, nb_IR, nb_RI, nb_RR, nm_IL, nm_IQ, nm_RL, nm_RQ, nm_LI, nm_LR, nm_LL, nm_LQ, nm_QI, nm_QR, nm_QL, nm_QQ, nm_rr, nm_ii, nm_eqm, not_false_eq_true, pk_sub, nm_div, nm_shl, nm_shr, nm_ush, nm_or8, nm_or64, nm_or256, nm_m1, nm_m3, nm_m7, nm_m15, nm_m31, nm_m63, nm_m255, nm_m511, nm_m1023, nm_m2047, nm_m65535, Nat.reduceMod, Nat.reducePow, Nat.reduceAdd, Nat.reduceSub, Nat.reduceMul, nm_bo, nm_bi, nm_rc, nm_ic, nm_ri, nm_rl, nm_rq, nm_ql, nm_qi, nm_li, nm_us, nm_uu, nm_cp, nm_sa31, nm_sa7, nm_m127, nm_m2, nm_nz, nm_nzk, nm_eq32, nm_nzf, if_true, if_false, ↓reduceIte, if_pos, if_neg], by (rw [wk_sw n hp a3 hW hva hvb]; simp (disch := (first | assumption | decide | omega)) only [df_X16_carry_562, a3, hva, hvb, c35, eA, e2, eq_self, Nat.reduceEqDiff, Nat.reduceLeDiff, nl_0, nl_1, nl_2, nl_3, nl_5, nl_8, nl_10, nl_11, nl_12, nl_15, nl_16, nl_19, nl_20, nl_21, nl_23, nl_31, nl_32, nl_35, nl_47, nl_51, nl_55, nl_99, nl_103, nl_111, nl_115, nl_4096, no_1, no_1024, pk_mul, nI_add, nm_ck, nI_clamp, nI_ltI, nI_leI, nI_eq, nb_b2, nb_b1, ↓nb_let, nm_z0, nm_z1, nb_II, nb_IR, nb_RI, nb_RR, nm_IL, nm_IQ, nm_RL, nm_RQ, nm_LI, nm_LR, nm_LL, nm_LQ, nm_QI, nm_QR, nm_QL, nm_QQ, nm_rr, nm_ii, nm_eqm, not_false_eq_true, pk_sub, nm_div, nm_shl, nm_shr, nm_ush, nm_or8, nm_or64, nm_or256, nm_m1, nm_m3, nm_m7, nm_m15, nm_m31, nm_m63, nm_m255, nm_m511, nm_m1023, nm_m2047, nm_m65535, Nat.reduceMod, Nat.reducePow, Nat.reduceAdd, Nat.reduceSub, Nat.reduceMul, nm_bo, nm_bi, nm_rc, nm_ic, nm_ri, nm_rl, nm_rq, nm_ql, nm_qi, nm_li, nm_us, nm_uu, nm_cp, nm_sa31, nm_sa7, nm_m127, nm_m2, nm_nz, nm_nzk, nm_eq32, nm_nzf, if_true, if_false, ↓reduceIte, if_pos, if_neg]), o⟩
theorem wk_47 (n : Nat) (hn : 1024 < n) {p : Nat} {s : St × (St × St)} {X : St × St} (h : rHt p s X) {W : Nat} (hW : W < 2 ^ 32) (c47 : W % 128 = 47) : ∃ (t : Int32) (s' : St × (St × St)) (X' : St × St), df_X4_work n (nI W) s = some (t, s') ∧ df_X16_carry n (nI W) X = some X' ∧ oH p s X t s' X' := by
  have h0 := h
  obtain ⟨hp, a1, a2, a3, a4, a5, a6, a7, a8, a9, a10, a11, a12, a13, a14⟩ := h
  have ea := a7 (W / 32768 % 32) (by omega)
  have eb := a7 (W / 1048576 % 32) (by omega)
  have es := fun v => nk_set n hp a2 hW v
  have bec := fun v => nk_bec n hp a3 a6 (d := W / 128 % 32) (by omega) v
  have bec0 : ∀ (me : Nat) (v : Int32), 0 < me → me < 9 → df_X16_become n (nI (W / 128 % 32)) v (pI X.1 11 (nI me), X.2) = some (pI X.1 11 (nI me), X.2) := fun me v m1 m2 => nk_bec0 n (X := (pI X.1 11 (nI me), X.2)) rfl m1 m2 _ _
  have hg : W / 33554432 % 128 = W / 33554432 := by omega
  have hi : tm (nI 4) 2 := Or.inr (Or.inl ⟨rfl, rfl⟩)
  have hva : sR X.1 9 (32 * p + W / 32768 % 32) = sR s.2.1 3 (p * 33 + W / 32768 % 32) := ea.symm
  have hvb : sR X.1 9 (32 * p + W / 1048576 % 32) = sR s.2.1 3 (p * 33 + W / 1048576 % 32) := eb.symm
  generalize sR s.2.1 3 (p * 33 + W / 32768 % 32) = va at hva
  generalize sR s.2.1 3 (p * 33 + W / 1048576 % 32) = vb at hvb
  rw [hva] at ea
  rw [hvb] at eb
  have u1 : p * 33 + W / 32768 % 32 < 528 := by omega
  have u2 : p * 33 + W / 1048576 % 32 < 528 := by omega
  have u3 : p * 33 + W / 32768 % 32 < 2 ^ 31 := by omega
  have u4 : p * 33 + W / 1048576 % 32 < 2 ^ 31 := by omega
  have u5 : 32 * p + W / 32768 % 32 < 512 := by omega
  have u6 : 32 * p + W / 1048576 % 32 < 512 := by omega
  have u7 : 32 * p + W / 32768 % 32 < 2 ^ 31 := by omega
  have u8 : 32 * p + W / 1048576 % 32 < 2 ^ 31 := by omega
  have u9 : W / 4096 % 8 < 2 ^ 31 := by omega
  have u10 : W / 33554432 < 2 ^ 31 := by omega
  have u11 : W / 33554432 < 2 ^ 32 := by omega
  have u12 : p < 2 ^ 31 := by omega
  have hk4 : W / 33554432 / 4 = W / 134217728 := by omega
  obtain ⟨A, hA, eA⟩ := nI_ex va
  rw [eA] at ea hva
  by_cases cf : W / 4096 % 8 = 2
  · obtain ⟨t, s', X', e1, e2, o⟩ := nk_atomic n hn h0 hW hA vb
    refine ⟨t, s', X', by simp (disch := (first | assumption | decide | omega)) only [df_X4_work, df_X4_work_0, df_X4_work_334, a2, ea, eb, c47, cf, e1, eq_self, Nat.reduceEqDiff, Nat.reduceLeDiff, nl_0, nl_1, nl_2, nl_3, nl_4, nl_5, nl_7, nl_12, nl_15, nl_19, nl_20, nl_23, nl_25, nl_31, nl_35, nl_47, nl_51, nl_55, nl_99, nl_103, nl_111, nl_115, nl_127, nl_528, nl_4096, no_1, no_1024, pk_mul, nI_add, nm_ck, nI_clamp, nI_ltI, nI_leI, nI_eq, nb_b2, nb_b1, ↓nb_let, nm_z0, nm_z1, nb_II, nb_IR, nb_RI, nb_RR, nm_IL, nm_IQ, nm_RL, nm_RQ, nm_LI, nm_LR, nm_LL, nm_LQ, nm_QI, nm_QR, nm_QL, nm_QQ, nm_rr, nm_ii, nm_eqm, not_false_eq_true, pk_sub, nm_div, nm_shl, nm_shr, nm_ush, nm_or8, nm_or64, nm_or256, nm_m1, nm_m3, nm_m7, nm_m15, nm_m31, nm_m63, nm_m255, nm_m511, nm_m1023, nm_m2047, nm_m65535, Nat.reduceMod, Nat.reducePow, Nat.reduceAdd, Nat.reduceSub, Nat.reduceMul, nm_bo, nm_bi, nm_rc, nm_ic, nm_ri, nm_rl, nm_rq, nm_ql, nm_qi, nm_li, nm_us, nm_uu, nm_cp, nm_sa31, nm_sa7, nm_m127, nm_m2, nm_nz, nm_nzk, nm_eq32, nm_nzf, if_true, if_false, ↓reduceIte, if_pos, if_neg], ?_, o⟩
    (rw [wk_sw n hp a3 hW hva hvb]; simp (disch := (first | assumption | decide | omega)) only [df_X16_carry_562, a3, hva, hvb, c47, cf, hg, hk4, eq_self, Nat.reduceEqDiff, Nat.reduceLeDiff, nl_0, nl_1, nl_2, nl_3, nl_5, nl_8, nl_10, nl_11, nl_12, nl_15, nl_16, nl_19, nl_20, nl_21, nl_23, nl_31, nl_32, nl_35, nl_47, nl_51, nl_55, nl_99, nl_103, nl_111, nl_115, nl_4096, no_1, no_1024, pk_mul, nI_add, nm_ck, nI_clamp, nI_ltI, nI_leI, nI_eq, nb_b2, nb_b1, ↓nb_let, nm_z0, nm_z1, nb_II, nb_IR, nb_RI, nb_RR, nm_IL, nm_IQ, nm_RL, nm_RQ, nm_LI, nm_LR, nm_LL, nm_LQ, nm_QI, nm_QR, nm_QL, nm_QQ, nm_rr, nm_ii, nm_eqm, not_false_eq_true, pk_sub, nm_div, nm_shl, nm_shr, nm_ush, nm_or8, nm_or64, nm_or256, nm_m1, nm_m3, nm_m7, nm_m15, nm_m31, nm_m63, nm_m255, nm_m511, nm_m1023, nm_m2047, nm_m65535, Nat.reduceMod, Nat.reducePow, Nat.reduceAdd, Nat.reduceSub, Nat.reduceMul, nm_bo, nm_bi, nm_rc, nm_ic, nm_ri, nm_rl, nm_rq, nm_ql, nm_qi, nm_li, nm_us, nm_uu, nm_cp, nm_sa31, nm_sa7, nm_m127, nm_m2, nm_nz, nm_nzk, nm_eq32, nm_nzf, if_true, if_false, ↓reduceIte, if_pos, if_neg])
    exact e2
  · have af := at_f n (nI W) (nI A) vb (f := W / 4096 % 8) (k := W / 134217728) (by omega) cf (by omega) X
    exact ⟨nI 4, s, (pI X.1 11 (nI 2), X.2), by simp (disch := (first | assumption | decide | omega)) only [df_X4_work, df_X4_work_0, df_X4_work_334, a2, ea, eb, c47, cf, eq_self, Nat.reduceEqDiff, Nat.reduceLeDiff, nl_0, nl_1, nl_2, nl_3, nl_4, nl_5, nl_7, nl_12, nl_15, nl_19, nl_20, nl_23, nl_25, nl_31, nl_35, nl_47, nl_51, nl_55, nl_99, nl_103, nl_111, nl_115, nl_127, nl_528, nl_4096, no_1, no_1024, pk_mul, nI_add, nm_ck, nI_clamp, nI_ltI, nI_leI, nI_eq, nb_b2, nb_b1, ↓nb_let, nm_z0, nm_z1, nb_II, nb_IR, nb_RI, nb_RR, nm_IL, nm_IQ, nm_RL, nm_RQ, nm_LI, nm_LR, nm_LL, nm_LQ, nm_QI, nm_QR, nm_QL, nm_QQ, nm_rr, nm_ii, nm_eqm, not_false_eq_true, pk_sub, nm_div, nm_shl, nm_shr, nm_ush, nm_or8, nm_or64, nm_or256, nm_m1, nm_m3, nm_m7, nm_m15, nm_m31, nm_m63, nm_m255, nm_m511, nm_m1023, nm_m2047, nm_m65535, Nat.reduceMod, Nat.reducePow, Nat.reduceAdd, Nat.reduceSub, Nat.reduceMul, nm_bo, nm_bi, nm_rc, nm_ic, nm_ri, nm_rl, nm_rq, nm_ql, nm_qi, nm_li, nm_us, nm_uu, nm_cp, nm_sa31, nm_sa7, nm_m127, nm_m2, nm_nz, nm_nzk, nm_eq32, nm_nzf, if_true, if_false, ↓reduceIte, if_pos, if_neg], by (rw [wk_sw n hp a3 hW hva hvb]; simp (disch := (first | assumption | decide | omega)) only [df_X16_carry_562, a3, hva, hvb, c47, hg, hk4, af, bec0, eq_self, Nat.reduceEqDiff, Nat.reduceLeDiff, nl_0, nl_1, nl_2, nl_3, nl_5, nl_8, nl_10, nl_11, nl_12, nl_15, nl_16, nl_19, nl_20, nl_21, nl_23, nl_31, nl_32, nl_35, nl_47, nl_51, nl_55, nl_99, nl_103, nl_111, nl_115, nl_4096, no_1, no_1024, pk_mul, nI_add, nm_ck, nI_clamp, nI_ltI, nI_leI, nI_eq, nb_b2, nb_b1, ↓nb_let, nm_z0, nm_z1, nb_II, nb_IR, nb_RI, nb_RR, nm_IL, nm_IQ, nm_RL, nm_RQ, nm_LI, nm_LR, nm_LL, nm_LQ, nm_QI, nm_QR, nm_QL, nm_QQ, nm_rr, nm_ii, nm_eqm, not_false_eq_true, pk_sub, nm_div, nm_shl, nm_shr, nm_ush, nm_or8, nm_or64, nm_or256, nm_m1, nm_m3, nm_m7, nm_m15, nm_m31, nm_m63, nm_m255, nm_m511, nm_m1023, nm_m2047, nm_m65535, Nat.reduceMod, Nat.reducePow, Nat.reduceAdd, Nat.reduceSub, Nat.reduceMul, nm_bo, nm_bi, nm_rc, nm_ic, nm_ri, nm_rl, nm_rq, nm_ql, nm_qi, nm_li, nm_us, nm_uu, nm_cp, nm_sa31, nm_sa7, nm_m127, nm_m2, nm_nz, nm_nzk, nm_eq32, nm_nzf, if_true, if_false, ↓reduceIte, if_pos, if_neg]), oH_t hi⟩
theorem wk_51 (n : Nat) (hn : 1024 < n) {p : Nat} {s : St × (St × St)} {X : St × St} (h : rHt p s X) {W : Nat} (hW : W < 2 ^ 32) (c51 : W % 128 = 51) : ∃ (t : Int32) (s' : St × (St × St)) (X' : St × St), df_X4_work n (nI W) s = some (t, s') ∧ df_X16_carry n (nI W) X = some X' ∧ oH p s X t s' X' := by
  have h0 := h
  obtain ⟨hp, a1, a2, a3, a4, a5, a6, a7, a8, a9, a10, a11, a12, a13, a14⟩ := h
  have ea := a7 (W / 32768 % 32) (by omega)
  have eb := a7 (W / 1048576 % 32) (by omega)
  have es := fun v => nk_set n hp a2 hW v
  have bec := fun v => nk_bec n hp a3 a6 (d := W / 128 % 32) (by omega) v
  have bec0 : ∀ (me : Nat) (v : Int32), 0 < me → me < 9 → df_X16_become n (nI (W / 128 % 32)) v (pI X.1 11 (nI me), X.2) = some (pI X.1 11 (nI me), X.2) := fun me v m1 m2 => nk_bec0 n (X := (pI X.1 11 (nI me), X.2)) rfl m1 m2 _ _
  have hg : W / 33554432 % 128 = W / 33554432 := by omega
  have hi : tm (nI 4) 2 := Or.inr (Or.inl ⟨rfl, rfl⟩)
  have hva : sR X.1 9 (32 * p + W / 32768 % 32) = sR s.2.1 3 (p * 33 + W / 32768 % 32) := ea.symm
  have hvb : sR X.1 9 (32 * p + W / 1048576 % 32) = sR s.2.1 3 (p * 33 + W / 1048576 % 32) := eb.symm
  generalize sR s.2.1 3 (p * 33 + W / 32768 % 32) = va at hva
  generalize sR s.2.1 3 (p * 33 + W / 1048576 % 32) = vb at hvb
  rw [hva] at ea
  rw [hvb] at eb
  have u1 : p * 33 + W / 32768 % 32 < 528 := by omega
  have u2 : p * 33 + W / 1048576 % 32 < 528 := by omega
  have u3 : p * 33 + W / 32768 % 32 < 2 ^ 31 := by omega
  have u4 : p * 33 + W / 1048576 % 32 < 2 ^ 31 := by omega
  have u5 : 32 * p + W / 32768 % 32 < 512 := by omega
  have u6 : 32 * p + W / 1048576 % 32 < 512 := by omega
  have u7 : 32 * p + W / 32768 % 32 < 2 ^ 31 := by omega
  have u8 : 32 * p + W / 1048576 % 32 < 2 ^ 31 := by omega
  have u9 : W / 4096 % 8 < 2 ^ 31 := by omega
  have u10 : W / 33554432 < 2 ^ 31 := by omega
  have u11 : W / 33554432 < 2 ^ 32 := by omega
  have u12 : p < 2 ^ 31 := by omega
  by_cases g1 : W / 33554432 = 1
  · obtain ⟨v, e1, e2⟩ := nk_mul n h0 hW (f := W / 4096 % 8) (by omega) va vb
    exact ⟨nI 0, _, _, by (simp (disch := (first | assumption | decide | omega)) only [df_X4_work, df_X4_work_0, df_X4_work_316, a2, ea, eb, c51, g1, e1, eq_self, Nat.reduceEqDiff, Nat.reduceLeDiff, nl_0, nl_1, nl_2, nl_3, nl_4, nl_5, nl_7, nl_12, nl_15, nl_19, nl_20, nl_23, nl_25, nl_31, nl_35, nl_47, nl_51, nl_55, nl_99, nl_103, nl_111, nl_115, nl_127, nl_528, nl_4096, no_1, no_1024, pk_mul, nI_add, nm_ck, nI_clamp, nI_ltI, nI_leI, nI_eq, nb_b2, nb_b1, ↓nb_let, nm_z0, nm_z1, nb_II, nb_IR, nb_RI, nb_RR, nm_IL, nm_IQ, nm_RL, nm_RQ, nm_LI, nm_LR, nm_LL, nm_LQ, nm_QI, nm_QR, nm_QL, nm_QQ, nm_rr, nm_ii, nm_eqm, not_false_eq_true, pk_sub, nm_div, nm_shl, nm_shr, nm_ush, nm_or8, nm_or64, nm_or256, nm_m1, nm_m3, nm_m7, nm_m15, nm_m31, nm_m63, nm_m255, nm_m511, nm_m1023, nm_m2047, nm_m65535, Nat.reduceMod, Nat.reducePow, Nat.reduceAdd, Nat.reduceSub, Nat.reduceMul, nm_bo, nm_bi, nm_rc, nm_ic, nm_ri, nm_rl, nm_rq, nm_ql, nm_qi, nm_li, nm_us, nm_uu, nm_cp, nm_sa31, nm_sa7, nm_m127, nm_m2, nm_nz, nm_nzk, nm_eq32, nm_nzf, if_true, if_false, ↓reduceIte, if_pos, if_neg] <;> rfl), by ((rw [wk_sw n hp a3 hW hva hvb]; simp (disch := (first | assumption | decide | omega)) only [df_X16_carry_502, df_X16_carry_562, a3, hva, hvb, c51, hg, g1, e2, bec, eq_self, Nat.reduceEqDiff, Nat.reduceLeDiff, nl_0, nl_1, nl_2, nl_3, nl_5, nl_8, nl_10, nl_11, nl_12, nl_15, nl_16, nl_19, nl_20, nl_21, nl_23, nl_31, nl_32, nl_35, nl_47, nl_51, nl_55, nl_99, nl_103, nl_111, nl_115, nl_4096, no_1, no_1024, pk_mul, nI_add, nm_ck, nI_clamp, nI_ltI, nI_leI, nI_eq, nb_b2, nb_b1, ↓nb_let, nm_z0, nm_z1, nb_II, nb_IR, nb_RI, nb_RR, nm_IL, nm_IQ, nm_RL, nm_RQ, nm_LI, nm_LR, nm_LL, nm_LQ, nm_QI, nm_QR, nm_QL, nm_QQ, nm_rr, nm_ii, nm_eqm, not_false_eq_true, pk_sub, nm_div, nm_shl, nm_shr, nm_ush, nm_or8, nm_or64, nm_or256, nm_m1, nm_m3, nm_m7, nm_m15, nm_m31, nm_m63, nm_m255, nm_m511, nm_m1023, nm_m2047, nm_m65535, Nat.reduceMod, Nat.reducePow, Nat.reduceAdd, Nat.reduceSub, Nat.reduceMul, nm_bo, nm_bi, nm_rc, nm_ic, nm_ri, nm_rl, nm_rq, nm_ql, nm_qi, nm_li, nm_us, nm_uu, nm_cp, nm_sa31, nm_sa7, nm_m127, nm_m2, nm_nz, nm_nzk, nm_eq32, nm_nzf, if_true, if_false, ↓reduceIte, if_pos, if_neg]) <;> rfl), oH_v h0 (by omega) v⟩
  obtain ⟨w1, w2, w3⟩ := nk_wr n h0 hW (f := W / 4096 % 8) (by omega) va vb
  by_cases g0 : W / 33554432 = 0
  · by_cases cf : W / 4096 % 8 = 1 ∨ W / 4096 % 8 = 5
    · obtain ⟨t, s', X', e1, e2, o⟩ := vO_h n h0 (w3 (Or.inl ⟨g0, cf⟩))
      refine ⟨t, s', X', ?_, ?_, o⟩
      · simp (disch := (first | assumption | decide | omega)) only [df_X4_work, df_X4_work_0, df_X4_work_316, a2, ea, eb, c51, g0, eq_self, Nat.reduceEqDiff, Nat.reduceLeDiff, nl_0, nl_1, nl_2, nl_3, nl_4, nl_5, nl_7, nl_12, nl_15, nl_19, nl_20, nl_23, nl_25, nl_31, nl_35, nl_47, nl_51, nl_55, nl_99, nl_103, nl_111, nl_115, nl_127, nl_528, nl_4096, no_1, no_1024, pk_mul, nI_add, nm_ck, nI_clamp, nI_ltI, nI_leI, nI_eq, nb_b2, nb_b1, ↓nb_let, nm_z0, nm_z1, nb_II, nb_IR, nb_RI, nb_RR, nm_IL, nm_IQ, nm_RL, nm_RQ, nm_LI, nm_LR, nm_LL, nm_LQ, nm_QI, nm_QR, nm_QL, nm_QQ, nm_rr, nm_ii, nm_eqm, not_false_eq_true, pk_sub, nm_div, nm_shl, nm_shr, nm_ush, nm_or8, nm_or64, nm_or256, nm_m1, nm_m3, nm_m7, nm_m15, nm_m31, nm_m63, nm_m255, nm_m511, nm_m1023, nm_m2047, nm_m65535, Nat.reduceMod, Nat.reducePow, Nat.reduceAdd, Nat.reduceSub, Nat.reduceMul, nm_bo, nm_bi, nm_rc, nm_ic, nm_ri, nm_rl, nm_rq, nm_ql, nm_qi, nm_li, nm_us, nm_uu, nm_cp, nm_sa31, nm_sa7, nm_m127, nm_m2, nm_nz, nm_nzk, nm_eq32, nm_nzf, if_true, if_false, ↓reduceIte, if_pos, if_neg]
        exact e1
      · rw [g0] at e2
        rcases cf with cf | cf
        · rw [cf] at e2
          (rw [wk_sw n hp a3 hW hva hvb]; simp (disch := (first | assumption | decide | omega)) only [df_X16_carry_469, df_X16_carry_488, df_X16_carry_502, df_X16_carry_562, a3, hva, hvb, c51, cf, hg, g0, eq_self, Nat.reduceEqDiff, Nat.reduceLeDiff, nl_0, nl_1, nl_2, nl_3, nl_5, nl_8, nl_10, nl_11, nl_12, nl_15, nl_16, nl_19, nl_20, nl_21, nl_23, nl_31, nl_32, nl_35, nl_47, nl_51, nl_55, nl_99, nl_103, nl_111, nl_115, nl_4096, no_1, no_1024, pk_mul, nI_add, nm_ck, nI_clamp, nI_ltI, nI_leI, nI_eq, nb_b2, nb_b1, ↓nb_let, nm_z0, nm_z1, nb_II, nb_IR, nb_RI, nb_RR, nm_IL, nm_IQ, nm_RL, nm_RQ, nm_LI, nm_LR, nm_LL, nm_LQ, nm_QI, nm_QR, nm_QL, nm_QQ, nm_rr, nm_ii, nm_eqm, not_false_eq_true, pk_sub, nm_div, nm_shl, nm_shr, nm_ush, nm_or8, nm_or64, nm_or256, nm_m1, nm_m3, nm_m7, nm_m15, nm_m31, nm_m63, nm_m255, nm_m511, nm_m1023, nm_m2047, nm_m65535, Nat.reduceMod, Nat.reducePow, Nat.reduceAdd, Nat.reduceSub, Nat.reduceMul, nm_bo, nm_bi, nm_rc, nm_ic, nm_ri, nm_rl, nm_rq, nm_ql, nm_qi, nm_li, nm_us, nm_uu, nm_cp, nm_sa31, nm_sa7, nm_m127, nm_m2, nm_nz, nm_nzk, nm_eq32, nm_nzf, if_true, if_false, ↓reduceIte, if_pos, if_neg])
          exact e2
        · rw [cf] at e2
          (rw [wk_sw n hp a3 hW hva hvb]; simp (disch := (first | assumption | decide | omega)) only [df_X16_carry_469, df_X16_carry_488, df_X16_carry_502, df_X16_carry_562, a3, hva, hvb, c51, cf, hg, g0, eq_self, Nat.reduceEqDiff, Nat.reduceLeDiff, nl_0, nl_1, nl_2, nl_3, nl_5, nl_8, nl_10, nl_11, nl_12, nl_15, nl_16, nl_19, nl_20, nl_21, nl_23, nl_31, nl_32, nl_35, nl_47, nl_51, nl_55, nl_99, nl_103, nl_111, nl_115, nl_4096, no_1, no_1024, pk_mul, nI_add, nm_ck, nI_clamp, nI_ltI, nI_leI, nI_eq, nb_b2, nb_b1, ↓nb_let, nm_z0, nm_z1, nb_II, nb_IR, nb_RI, nb_RR, nm_IL, nm_IQ, nm_RL, nm_RQ, nm_LI, nm_LR, nm_LL, nm_LQ, nm_QI, nm_QR, nm_QL, nm_QQ, nm_rr, nm_ii, nm_eqm, not_false_eq_true, pk_sub, nm_div, nm_shl, nm_shr, nm_ush, nm_or8, nm_or64, nm_or256, nm_m1, nm_m3, nm_m7, nm_m15, nm_m31, nm_m63, nm_m255, nm_m511, nm_m1023, nm_m2047, nm_m65535, Nat.reduceMod, Nat.reducePow, Nat.reduceAdd, Nat.reduceSub, Nat.reduceMul, nm_bo, nm_bi, nm_rc, nm_ic, nm_ri, nm_rl, nm_rq, nm_ql, nm_qi, nm_li, nm_us, nm_uu, nm_cp, nm_sa31, nm_sa7, nm_m127, nm_m2, nm_nz, nm_nzk, nm_eq32, nm_nzf, if_true, if_false, ↓reduceIte, if_pos, if_neg])
          exact e2
    · have f1 : ¬ W / 4096 % 8 = 1 := fun z => cf (Or.inl z)
      have f5 : ¬ W / 4096 % 8 = 5 := fun z => cf (Or.inr z)
      obtain ⟨v, e1, e2⟩ := w1 g0 f1 f5
      exact ⟨nI 0, _, _, by (simp (disch := (first | assumption | decide | omega)) only [df_X4_work, df_X4_work_0, df_X4_work_316, a2, ea, eb, c51, g0, e1, eq_self, Nat.reduceEqDiff, Nat.reduceLeDiff, nl_0, nl_1, nl_2, nl_3, nl_4, nl_5, nl_7, nl_12, nl_15, nl_19, nl_20, nl_23, nl_25, nl_31, nl_35, nl_47, nl_51, nl_55, nl_99, nl_103, nl_111, nl_115, nl_127, nl_528, nl_4096, no_1, no_1024, pk_mul, nI_add, nm_ck, nI_clamp, nI_ltI, nI_leI, nI_eq, nb_b2, nb_b1, ↓nb_let, nm_z0, nm_z1, nb_II, nb_IR, nb_RI, nb_RR, nm_IL, nm_IQ, nm_RL, nm_RQ, nm_LI, nm_LR, nm_LL, nm_LQ, nm_QI, nm_QR, nm_QL, nm_QQ, nm_rr, nm_ii, nm_eqm, not_false_eq_true, pk_sub, nm_div, nm_shl, nm_shr, nm_ush, nm_or8, nm_or64, nm_or256, nm_m1, nm_m3, nm_m7, nm_m15, nm_m31, nm_m63, nm_m255, nm_m511, nm_m1023, nm_m2047, nm_m65535, Nat.reduceMod, Nat.reducePow, Nat.reduceAdd, Nat.reduceSub, Nat.reduceMul, nm_bo, nm_bi, nm_rc, nm_ic, nm_ri, nm_rl, nm_rq, nm_ql, nm_qi, nm_li, nm_us, nm_uu, nm_cp, nm_sa31, nm_sa7, nm_m127, nm_m2, nm_nz, nm_nzk, nm_eq32, nm_nzf, if_true, if_false, ↓reduceIte, if_pos, if_neg] <;> rfl), by ((rw [wk_sw n hp a3 hW hva hvb]; simp (disch := (first | assumption | decide | omega)) only [df_X16_carry_502, df_X16_carry_562, a3, hva, hvb, c51, hg, g0, f1, f5, e2, bec, eq_self, Nat.reduceEqDiff, Nat.reduceLeDiff, nl_0, nl_1, nl_2, nl_3, nl_5, nl_8, nl_10, nl_11, nl_12, nl_15, nl_16, nl_19, nl_20, nl_21, nl_23, nl_31, nl_32, nl_35, nl_47, nl_51, nl_55, nl_99, nl_103, nl_111, nl_115, nl_4096, no_1, no_1024, pk_mul, nI_add, nm_ck, nI_clamp, nI_ltI, nI_leI, nI_eq, nb_b2, nb_b1, ↓nb_let, nm_z0, nm_z1, nb_II, nb_IR, nb_RI, nb_RR, nm_IL, nm_IQ, nm_RL, nm_RQ, nm_LI, nm_LR, nm_LL, nm_LQ, nm_QI, nm_QR, nm_QL, nm_QQ, nm_rr, nm_ii, nm_eqm, not_false_eq_true, pk_sub, nm_div, nm_shl, nm_shr, nm_ush, nm_or8, nm_or64, nm_or256, nm_m1, nm_m3, nm_m7, nm_m15, nm_m31, nm_m63, nm_m255, nm_m511, nm_m1023, nm_m2047, nm_m65535, Nat.reduceMod, Nat.reducePow, Nat.reduceAdd, Nat.reduceSub, Nat.reduceMul, nm_bo, nm_bi, nm_rc, nm_ic, nm_ri, nm_rl, nm_rq, nm_ql, nm_qi, nm_li, nm_us, nm_uu, nm_cp, nm_sa31, nm_sa7, nm_m127, nm_m2, nm_nz, nm_nzk, nm_eq32, nm_nzf, if_true, if_false, ↓reduceIte, if_pos, if_neg]) <;> rfl), oH_v h0 (by omega) v⟩
  by_cases g32 : W / 33554432 = 32
  · by_cases f0 : W / 4096 % 8 = 0
    · have e1 := w2 g32 f0
      rw [f0] at e1
      exact ⟨nI 0, _, _, by (simp (disch := (first | assumption | decide | omega)) only [df_X4_work, df_X4_work_0, df_X4_work_316, a2, ea, eb, c51, g32, f0, e1, eq_self, Nat.reduceEqDiff, Nat.reduceLeDiff, nl_0, nl_1, nl_2, nl_3, nl_4, nl_5, nl_7, nl_12, nl_15, nl_19, nl_20, nl_23, nl_25, nl_31, nl_35, nl_47, nl_51, nl_55, nl_99, nl_103, nl_111, nl_115, nl_127, nl_528, nl_4096, no_1, no_1024, pk_mul, nI_add, nm_ck, nI_clamp, nI_ltI, nI_leI, nI_eq, nb_b2, nb_b1, ↓nb_let, nm_z0, nm_z1, nb_II, nb_IR, nb_RI, nb_RR, nm_IL, nm_IQ, nm_RL, nm_RQ, nm_LI, nm_LR, nm_LL, nm_LQ, nm_QI, nm_QR, nm_QL, nm_QQ, nm_rr, nm_ii, nm_eqm, not_false_eq_true, pk_sub, nm_div, nm_shl, nm_shr, nm_ush, nm_or8, nm_or64, nm_or256, nm_m1, nm_m3, nm_m7, nm_m15, nm_m31, nm_m63, nm_m255, nm_m511, nm_m1023, nm_m2047, nm_m65535, Nat.reduceMod, Nat.reducePow, Nat.reduceAdd, Nat.reduceSub, Nat.reduceMul, nm_bo, nm_bi, nm_rc, nm_ic, nm_ri, nm_rl, nm_rq, nm_ql, nm_qi, nm_li, nm_us, nm_uu, nm_cp, nm_sa31, nm_sa7, nm_m127, nm_m2, nm_nz, nm_nzk, nm_eq32, nm_nzf, if_true, if_false, ↓reduceIte, if_pos, if_neg] <;> rfl), by ((rw [wk_sw n hp a3 hW hva hvb]; simp (disch := (first | assumption | decide | omega)) only [df_X16_carry_469, df_X16_carry_502, df_X16_carry_562, a3, hva, hvb, c51, hg, g32, f0, bec, eq_self, Nat.reduceEqDiff, Nat.reduceLeDiff, nl_0, nl_1, nl_2, nl_3, nl_5, nl_8, nl_10, nl_11, nl_12, nl_15, nl_16, nl_19, nl_20, nl_21, nl_23, nl_31, nl_32, nl_35, nl_47, nl_51, nl_55, nl_99, nl_103, nl_111, nl_115, nl_4096, no_1, no_1024, pk_mul, nI_add, nm_ck, nI_clamp, nI_ltI, nI_leI, nI_eq, nb_b2, nb_b1, ↓nb_let, nm_z0, nm_z1, nb_II, nb_IR, nb_RI, nb_RR, nm_IL, nm_IQ, nm_RL, nm_RQ, nm_LI, nm_LR, nm_LL, nm_LQ, nm_QI, nm_QR, nm_QL, nm_QQ, nm_rr, nm_ii, nm_eqm, not_false_eq_true, pk_sub, nm_div, nm_shl, nm_shr, nm_ush, nm_or8, nm_or64, nm_or256, nm_m1, nm_m3, nm_m7, nm_m15, nm_m31, nm_m63, nm_m255, nm_m511, nm_m1023, nm_m2047, nm_m65535, Nat.reduceMod, Nat.reducePow, Nat.reduceAdd, Nat.reduceSub, Nat.reduceMul, nm_bo, nm_bi, nm_rc, nm_ic, nm_ri, nm_rl, nm_rq, nm_ql, nm_qi, nm_li, nm_us, nm_uu, nm_cp, nm_sa31, nm_sa7, nm_m127, nm_m2, nm_nz, nm_nzk, nm_eq32, nm_nzf, if_true, if_false, ↓reduceIte, if_pos, if_neg]) <;> rfl), oH_v h0 (by omega) (va - vb)⟩
    · obtain ⟨t, s', X', e1, e2, o⟩ := vO_h n h0 (w3 (Or.inr (Or.inl ⟨g32, f0⟩)))
      refine ⟨t, s', X', ?_, ?_, o⟩
      · simp (disch := (first | assumption | decide | omega)) only [df_X4_work, df_X4_work_0, df_X4_work_316, a2, ea, eb, c51, g32, eq_self, Nat.reduceEqDiff, Nat.reduceLeDiff, nl_0, nl_1, nl_2, nl_3, nl_4, nl_5, nl_7, nl_12, nl_15, nl_19, nl_20, nl_23, nl_25, nl_31, nl_35, nl_47, nl_51, nl_55, nl_99, nl_103, nl_111, nl_115, nl_127, nl_528, nl_4096, no_1, no_1024, pk_mul, nI_add, nm_ck, nI_clamp, nI_ltI, nI_leI, nI_eq, nb_b2, nb_b1, ↓nb_let, nm_z0, nm_z1, nb_II, nb_IR, nb_RI, nb_RR, nm_IL, nm_IQ, nm_RL, nm_RQ, nm_LI, nm_LR, nm_LL, nm_LQ, nm_QI, nm_QR, nm_QL, nm_QQ, nm_rr, nm_ii, nm_eqm, not_false_eq_true, pk_sub, nm_div, nm_shl, nm_shr, nm_ush, nm_or8, nm_or64, nm_or256, nm_m1, nm_m3, nm_m7, nm_m15, nm_m31, nm_m63, nm_m255, nm_m511, nm_m1023, nm_m2047, nm_m65535, Nat.reduceMod, Nat.reducePow, Nat.reduceAdd, Nat.reduceSub, Nat.reduceMul, nm_bo, nm_bi, nm_rc, nm_ic, nm_ri, nm_rl, nm_rq, nm_ql, nm_qi, nm_li, nm_us, nm_uu, nm_cp, nm_sa31, nm_sa7, nm_m127, nm_m2, nm_nz, nm_nzk, nm_eq32, nm_nzf, if_true, if_false, ↓reduceIte, if_pos, if_neg]
        exact e1
      · rw [g32] at e2
        (rw [wk_sw n hp a3 hW hva hvb]; simp (disch := (first | assumption | decide | omega)) only [df_X16_carry_469, df_X16_carry_488, df_X16_carry_502, df_X16_carry_562, a3, hva, hvb, c51, hg, g32, f0, eq_self, Nat.reduceEqDiff, Nat.reduceLeDiff, nl_0, nl_1, nl_2, nl_3, nl_5, nl_8, nl_10, nl_11, nl_12, nl_15, nl_16, nl_19, nl_20, nl_21, nl_23, nl_31, nl_32, nl_35, nl_47, nl_51, nl_55, nl_99, nl_103, nl_111, nl_115, nl_4096, no_1, no_1024, pk_mul, nI_add, nm_ck, nI_clamp, nI_ltI, nI_leI, nI_eq, nb_b2, nb_b1, ↓nb_let, nm_z0, nm_z1, nb_II, nb_IR, nb_RI, nb_RR, nm_IL, nm_IQ, nm_RL, nm_RQ, nm_LI, nm_LR, nm_LL, nm_LQ, nm_QI, nm_QR, nm_QL, nm_QQ, nm_rr, nm_ii, nm_eqm, not_false_eq_true, pk_sub, nm_div, nm_shl, nm_shr, nm_ush, nm_or8, nm_or64, nm_or256, nm_m1, nm_m3, nm_m7, nm_m15, nm_m31, nm_m63, nm_m255, nm_m511, nm_m1023, nm_m2047, nm_m65535, Nat.reduceMod, Nat.reducePow, Nat.reduceAdd, Nat.reduceSub, Nat.reduceMul, nm_bo, nm_bi, nm_rc, nm_ic, nm_ri, nm_rl, nm_rq, nm_ql, nm_qi, nm_li, nm_us, nm_uu, nm_cp, nm_sa31, nm_sa7, nm_m127, nm_m2, nm_nz, nm_nzk, nm_eq32, nm_nzf, if_true, if_false, ↓reduceIte, if_pos, if_neg])
        exact e2
  · obtain ⟨t, s', X', e1, e2, o⟩ := vO_h n h0 (w3 (Or.inr (Or.inr ⟨g0, g32⟩)))
    refine ⟨t, s', X', ?_, ?_, o⟩
    · simp (disch := (first | assumption | decide | omega)) only [df_X4_work, df_X4_work_0, df_X4_work_316, a2, ea, eb, c51, g1, eq_self, Nat.reduceEqDiff, Nat.reduceLeDiff, nl_0, nl_1, nl_2, nl_3, nl_4, nl_5, nl_7, nl_12, nl_15, nl_19, nl_20, nl_23, nl_25, nl_31, nl_35, nl_47, nl_51, nl_55, nl_99, nl_103, nl_111, nl_115, nl_127, nl_528, nl_4096, no_1, no_1024, pk_mul, nI_add, nm_ck, nI_clamp, nI_ltI, nI_leI, nI_eq, nb_b2, nb_b1, ↓nb_let, nm_z0, nm_z1, nb_II, nb_IR, nb_RI, nb_RR, nm_IL, nm_IQ, nm_RL, nm_RQ, nm_LI, nm_LR, nm_LL, nm_LQ, nm_QI, nm_QR, nm_QL, nm_QQ, nm_rr, nm_ii, nm_eqm, not_false_eq_true, pk_sub, nm_div, nm_shl, nm_shr, nm_ush, nm_or8, nm_or64, nm_or256, nm_m1, nm_m3, nm_m7, nm_m15, nm_m31, nm_m63, nm_m255, nm_m511, nm_m1023, nm_m2047, nm_m65535, Nat.reduceMod, Nat.reducePow, Nat.reduceAdd, Nat.reduceSub, Nat.reduceMul, nm_bo, nm_bi, nm_rc, nm_ic, nm_ri, nm_rl, nm_rq, nm_ql, nm_qi, nm_li, nm_us, nm_uu, nm_cp, nm_sa31, nm_sa7, nm_m127, nm_m2, nm_nz, nm_nzk, nm_eq32, nm_nzf, if_true, if_false, ↓reduceIte, if_pos, if_neg]
      exact e1
    · (rw [wk_sw n hp a3 hW hva hvb]; simp (disch := (first | assumption | decide | omega)) only [df_X16_carry_469, df_X16_carry_488, df_X16_carry_502, df_X16_carry_562, a3, hva, hvb, c51, hg, g0, g1, g32, eq_self, Nat.reduceEqDiff, Nat.reduceLeDiff, nl_0, nl_1, nl_2, nl_3, nl_5, nl_8, nl_10, nl_11, nl_12, nl_15, nl_16, nl_19, nl_20, nl_21, nl_23, nl_31, nl_32, nl_35, nl_47, nl_51, nl_55, nl_99, nl_103, nl_111, nl_115, nl_4096, no_1, no_1024, pk_mul, nI_add, nm_ck, nI_clamp, nI_ltI, nI_leI, nI_eq, nb_b2, nb_b1, ↓nb_let, nm_z0, nm_z1, nb_II, nb_IR, nb_RI, nb_RR, nm_IL, nm_IQ, nm_RL, nm_RQ, nm_LI, nm_LR, nm_LL, nm_LQ, nm_QI, nm_QR, nm_QL, nm_QQ, nm_rr, nm_ii, nm_eqm, not_false_eq_true, pk_sub, nm_div, nm_shl, nm_shr, nm_ush, nm_or8, nm_or64, nm_or256, nm_m1, nm_m3, nm_m7, nm_m15, nm_m31, nm_m63, nm_m255, nm_m511, nm_m1023, nm_m2047, nm_m65535, Nat.reduceMod, Nat.reducePow, Nat.reduceAdd, Nat.reduceSub, Nat.reduceMul, nm_bo, nm_bi, nm_rc, nm_ic, nm_ri, nm_rl, nm_rq, nm_ql, nm_qi, nm_li, nm_us, nm_uu, nm_cp, nm_sa31, nm_sa7, nm_m127, nm_m2, nm_nz, nm_nzk, nm_eq32, nm_nzf, if_true, if_false, ↓reduceIte, if_pos, if_neg])
      exact e2
theorem wk_55 (n : Nat) (hn : 1024 < n) {p : Nat} {s : St × (St × St)} {X : St × St} (h : rHt p s X) {W : Nat} (hW : W < 2 ^ 32) (c55 : W % 128 = 55) : ∃ (t : Int32) (s' : St × (St × St)) (X' : St × St), df_X4_work n (nI W) s = some (t, s') ∧ df_X16_carry n (nI W) X = some X' ∧ oH p s X t s' X' := by
  have h0 := h
  obtain ⟨hp, a1, a2, a3, a4, a5, a6, a7, a8, a9, a10, a11, a12, a13, a14⟩ := h
  have ea := a7 (W / 32768 % 32) (by omega)
  have eb := a7 (W / 1048576 % 32) (by omega)
  have es := fun v => nk_set n hp a2 hW v
  have bec := fun v => nk_bec n hp a3 a6 (d := W / 128 % 32) (by omega) v
  have bec0 : ∀ (me : Nat) (v : Int32), 0 < me → me < 9 → df_X16_become n (nI (W / 128 % 32)) v (pI X.1 11 (nI me), X.2) = some (pI X.1 11 (nI me), X.2) := fun me v m1 m2 => nk_bec0 n (X := (pI X.1 11 (nI me), X.2)) rfl m1 m2 _ _
  have hg : W / 33554432 % 128 = W / 33554432 := by omega
  have hi : tm (nI 4) 2 := Or.inr (Or.inl ⟨rfl, rfl⟩)
  have hva : sR X.1 9 (32 * p + W / 32768 % 32) = sR s.2.1 3 (p * 33 + W / 32768 % 32) := ea.symm
  have hvb : sR X.1 9 (32 * p + W / 1048576 % 32) = sR s.2.1 3 (p * 33 + W / 1048576 % 32) := eb.symm
  generalize sR s.2.1 3 (p * 33 + W / 32768 % 32) = va at hva
  generalize sR s.2.1 3 (p * 33 + W / 1048576 % 32) = vb at hvb
  rw [hva] at ea
  rw [hvb] at eb
  have u1 : p * 33 + W / 32768 % 32 < 528 := by omega
  have u2 : p * 33 + W / 1048576 % 32 < 528 := by omega
  have u3 : p * 33 + W / 32768 % 32 < 2 ^ 31 := by omega
  have u4 : p * 33 + W / 1048576 % 32 < 2 ^ 31 := by omega
  have u5 : 32 * p + W / 32768 % 32 < 512 := by omega
  have u6 : 32 * p + W / 1048576 % 32 < 512 := by omega
  have u7 : 32 * p + W / 32768 % 32 < 2 ^ 31 := by omega
  have u8 : 32 * p + W / 1048576 % 32 < 2 ^ 31 := by omega
  have u9 : W / 4096 % 8 < 2 ^ 31 := by omega
  have u10 : W / 33554432 < 2 ^ 31 := by omega
  have u11 : W / 33554432 < 2 ^ 32 := by omega
  have u12 : p < 2 ^ 31 := by omega
  exact ⟨nI 0, _, _, by (simp (disch := (first | assumption | decide | omega)) only [df_X4_work, df_X4_work_0, a2, ea, eb, c55, es, eq_self, Nat.reduceEqDiff, Nat.reduceLeDiff, nl_0, nl_1, nl_2, nl_3, nl_4, nl_5, nl_7, nl_12, nl_15, nl_19, nl_20, nl_23, nl_25, nl_31, nl_35, nl_47, nl_51, nl_55, nl_99, nl_103, nl_111, nl_115, nl_127, nl_528, nl_4096, no_1, no_1024, pk_mul, nI_add, nm_ck, nI_clamp, nI_ltI, nI_leI, nI_eq, nb_b2, nb_b1, ↓nb_let, nm_z0, nm_z1, nb_II, nb_IR, nb_RI, nb_RR, nm_IL, nm_IQ, nm_RL, nm_RQ, nm_LI, nm_LR, nm_LL, nm_LQ, nm_QI, nm_QR, nm_QL, nm_QQ, nm_rr, nm_ii, nm_eqm, not_false_eq_true, pk_sub, nm_div, nm_shl, nm_shr, nm_ush, nm_or8, nm_or64, nm_or256, nm_m1, nm_m3, nm_m7, nm_m15, nm_m31, nm_m63, nm_m255, nm_m511, nm_m1023, nm_m2047, nm_m65535, Nat.reduceMod, Nat.reducePow, Nat.reduceAdd, Nat.reduceSub, Nat.reduceMul, nm_bo, nm_bi, nm_rc, nm_ic, nm_ri, nm_rl, nm_rq, nm_ql, nm_qi, nm_li, nm_us, nm_uu, nm_cp, nm_sa31, nm_sa7, nm_m127, nm_m2, nm_nz, nm_nzk, nm_eq32, nm_nzf, if_true, if_false, ↓reduceIte, if_pos, if_neg] <;> rfl), by ((rw [wk_sw n hp a3 hW hva hvb]; simp (disch := (first | assumption | decide | omega)) only [df_X16_carry_562, a3, hva, hvb, c55, bec, eq_self, Nat.reduceEqDiff, Nat.reduceLeDiff, nl_0, nl_1, nl_2, nl_3, nl_5, nl_8, nl_10, nl_11, nl_12, nl_15, nl_16, nl_19, nl_20, nl_21, nl_23, nl_31, nl_32, nl_35, nl_47, nl_51, nl_55, nl_99, nl_103, nl_111, nl_115, nl_4096, no_1, no_1024, pk_mul, nI_add, nm_ck, nI_clamp, nI_ltI, nI_leI, nI_eq, nb_b2, nb_b1, ↓nb_let, nm_z0, nm_z1, nb_II, nb_IR, nb_RI, nb_RR, nm_IL, nm_IQ, nm_RL, nm_RQ, nm_LI, nm_LR, nm_LL, nm_LQ, nm_QI, nm_QR, nm_QL, nm_QQ, nm_rr, nm_ii, nm_eqm, not_false_eq_true, pk_sub, nm_div, nm_shl, nm_shr, nm_ush, nm_or8, nm_or64, nm_or256, nm_m1, nm_m3, nm_m7, nm_m15, nm_m31, nm_m63, nm_m255, nm_m511, nm_m1023, nm_m2047, nm_m65535, Nat.reduceMod, Nat.reducePow, Nat.reduceAdd, Nat.reduceSub, Nat.reduceMul, nm_bo, nm_bi, nm_rc, nm_ic, nm_ri, nm_rl, nm_rq, nm_ql, nm_qi, nm_li, nm_us, nm_uu, nm_cp, nm_sa31, nm_sa7, nm_m127, nm_m2, nm_nz, nm_nzk, nm_eq32, nm_nzf, if_true, if_false, ↓reduceIte, if_pos, if_neg]) <;> rfl), oH_v h0 (by omega) (nI W &&& -nI 4096)⟩
theorem wk_99 (n : Nat) (hn : 1024 < n) {p : Nat} {s : St × (St × St)} {X : St × St} (h : rHt p s X) {W : Nat} (hW : W < 2 ^ 32) (c99 : W % 128 = 99) : ∃ (t : Int32) (s' : St × (St × St)) (X' : St × St), df_X4_work n (nI W) s = some (t, s') ∧ df_X16_carry n (nI W) X = some X' ∧ oH p s X t s' X' := by
  have h0 := h
  obtain ⟨hp, a1, a2, a3, a4, a5, a6, a7, a8, a9, a10, a11, a12, a13, a14⟩ := h
  have ea := a7 (W / 32768 % 32) (by omega)
  have eb := a7 (W / 1048576 % 32) (by omega)
  have es := fun v => nk_set n hp a2 hW v
  have bec := fun v => nk_bec n hp a3 a6 (d := W / 128 % 32) (by omega) v
  have bec0 : ∀ (me : Nat) (v : Int32), 0 < me → me < 9 → df_X16_become n (nI (W / 128 % 32)) v (pI X.1 11 (nI me), X.2) = some (pI X.1 11 (nI me), X.2) := fun me v m1 m2 => nk_bec0 n (X := (pI X.1 11 (nI me), X.2)) rfl m1 m2 _ _
  have hg : W / 33554432 % 128 = W / 33554432 := by omega
  have hi : tm (nI 4) 2 := Or.inr (Or.inl ⟨rfl, rfl⟩)
  have hva : sR X.1 9 (32 * p + W / 32768 % 32) = sR s.2.1 3 (p * 33 + W / 32768 % 32) := ea.symm
  have hvb : sR X.1 9 (32 * p + W / 1048576 % 32) = sR s.2.1 3 (p * 33 + W / 1048576 % 32) := eb.symm
  generalize sR s.2.1 3 (p * 33 + W / 32768 % 32) = va at hva
  generalize sR s.2.1 3 (p * 33 + W / 1048576 % 32) = vb at hvb
  rw [hva] at ea
  rw [hvb] at eb
  have u1 : p * 33 + W / 32768 % 32 < 528 := by omega
  have u2 : p * 33 + W / 1048576 % 32 < 528 := by omega
  have u3 : p * 33 + W / 32768 % 32 < 2 ^ 31 := by omega
  have u4 : p * 33 + W / 1048576 % 32 < 2 ^ 31 := by omega
  have u5 : 32 * p + W / 32768 % 32 < 512 := by omega
  have u6 : 32 * p + W / 1048576 % 32 < 512 := by omega
  have u7 : 32 * p + W / 32768 % 32 < 2 ^ 31 := by omega
  have u8 : 32 * p + W / 1048576 % 32 < 2 ^ 31 := by omega
  have u9 : W / 4096 % 8 < 2 ^ 31 := by omega
  have u10 : W / 33554432 < 2 ^ 31 := by omega
  have u11 : W / 33554432 < 2 ^ 32 := by omega
  have u12 : p < 2 ^ 31 := by omega
  obtain ⟨t, s', X', e1, e2, o⟩ := nk_branch n h0 hW (f := W / 4096 % 8) (by omega) va vb
  exact ⟨t, s', X', by simp (disch := (first | assumption | decide | omega)) only [df_X4_work, df_X4_work_0, a2, ea, eb, c99, e1, eq_self, Nat.reduceEqDiff, Nat.reduceLeDiff, nl_0, nl_1, nl_2, nl_3, nl_4, nl_5, nl_7, nl_12, nl_15, nl_19, nl_20, nl_23, nl_25, nl_31, nl_35, nl_47, nl_51, nl_55, nl_99, nl_103, nl_111, nl_115, nl_127, nl_528, nl_4096, no_1, no_1024, pk_mul, nI_add, nm_ck, nI_clamp, nI_ltI, nI_leI, nI_eq, nb_b2, nb_b1, ↓nb_let, nm_z0, nm_z1, nb_II, nb_IR, nb_RI, nb_RR, nm_IL, nm_IQ, nm_RL, nm_RQ, nm_LI, nm_LR, nm_LL, nm_LQ, nm_QI, nm_QR, nm_QL, nm_QQ, nm_rr, nm_ii, nm_eqm, not_false_eq_true, pk_sub, nm_div, nm_shl, nm_shr, nm_ush, nm_or8, nm_or64, nm_or256, nm_m1, nm_m3, nm_m7, nm_m15, nm_m31, nm_m63, nm_m255, nm_m511, nm_m1023, nm_m2047, nm_m65535, Nat.reduceMod, Nat.reducePow, Nat.reduceAdd, Nat.reduceSub, Nat.reduceMul, nm_bo, nm_bi, nm_rc, nm_ic, nm_ri, nm_rl, nm_rq, nm_ql, nm_qi, nm_li, nm_us, nm_uu, nm_cp, nm_sa31, nm_sa7, nm_m127, nm_m2, nm_nz, nm_nzk, nm_eq32, nm_nzf, if_true, if_false, ↓reduceIte, if_pos, if_neg], by (rw [wk_sw n hp a3 hW hva hvb]; simp (disch := (first | assumption | decide | omega)) only [df_X16_carry_562, a3, hva, hvb, c99, e2, eq_self, Nat.reduceEqDiff, Nat.reduceLeDiff, nl_0, nl_1, nl_2, nl_3, nl_5, nl_8, nl_10, nl_11, nl_12, nl_15, nl_16, nl_19, nl_20, nl_21, nl_23, nl_31, nl_32, nl_35, nl_47, nl_51, nl_55, nl_99, nl_103, nl_111, nl_115, nl_4096, no_1, no_1024, pk_mul, nI_add, nm_ck, nI_clamp, nI_ltI, nI_leI, nI_eq, nb_b2, nb_b1, ↓nb_let, nm_z0, nm_z1, nb_II, nb_IR, nb_RI, nb_RR, nm_IL, nm_IQ, nm_RL, nm_RQ, nm_LI, nm_LR, nm_LL, nm_LQ, nm_QI, nm_QR, nm_QL, nm_QQ, nm_rr, nm_ii, nm_eqm, not_false_eq_true, pk_sub, nm_div, nm_shl, nm_shr, nm_ush, nm_or8, nm_or64, nm_or256, nm_m1, nm_m3, nm_m7, nm_m15, nm_m31, nm_m63, nm_m255, nm_m511, nm_m1023, nm_m2047, nm_m65535, Nat.reduceMod, Nat.reducePow, Nat.reduceAdd, Nat.reduceSub, Nat.reduceMul, nm_bo, nm_bi, nm_rc, nm_ic, nm_ri, nm_rl, nm_rq, nm_ql, nm_qi, nm_li, nm_us, nm_uu, nm_cp, nm_sa31, nm_sa7, nm_m127, nm_m2, nm_nz, nm_nzk, nm_eq32, nm_nzf, if_true, if_false, ↓reduceIte, if_pos, if_neg]), o⟩
theorem wk_103 (n : Nat) (hn : 1024 < n) {p : Nat} {s : St × (St × St)} {X : St × St} (h : rHt p s X) {W : Nat} (hW : W < 2 ^ 32) (c103 : W % 128 = 103) : ∃ (t : Int32) (s' : St × (St × St)) (X' : St × St), df_X4_work n (nI W) s = some (t, s') ∧ df_X16_carry n (nI W) X = some X' ∧ oH p s X t s' X' := by
  have h0 := h
  obtain ⟨hp, a1, a2, a3, a4, a5, a6, a7, a8, a9, a10, a11, a12, a13, a14⟩ := h
  have ea := a7 (W / 32768 % 32) (by omega)
  have eb := a7 (W / 1048576 % 32) (by omega)
  have es := fun v => nk_set n hp a2 hW v
  have bec := fun v => nk_bec n hp a3 a6 (d := W / 128 % 32) (by omega) v
  have bec0 : ∀ (me : Nat) (v : Int32), 0 < me → me < 9 → df_X16_become n (nI (W / 128 % 32)) v (pI X.1 11 (nI me), X.2) = some (pI X.1 11 (nI me), X.2) := fun me v m1 m2 => nk_bec0 n (X := (pI X.1 11 (nI me), X.2)) rfl m1 m2 _ _
  have hg : W / 33554432 % 128 = W / 33554432 := by omega
  have hi : tm (nI 4) 2 := Or.inr (Or.inl ⟨rfl, rfl⟩)
  have hva : sR X.1 9 (32 * p + W / 32768 % 32) = sR s.2.1 3 (p * 33 + W / 32768 % 32) := ea.symm
  have hvb : sR X.1 9 (32 * p + W / 1048576 % 32) = sR s.2.1 3 (p * 33 + W / 1048576 % 32) := eb.symm
  generalize sR s.2.1 3 (p * 33 + W / 32768 % 32) = va at hva
  generalize sR s.2.1 3 (p * 33 + W / 1048576 % 32) = vb at hvb
  rw [hva] at ea
  rw [hvb] at eb
  have u1 : p * 33 + W / 32768 % 32 < 528 := by omega
  have u2 : p * 33 + W / 1048576 % 32 < 528 := by omega
  have u3 : p * 33 + W / 32768 % 32 < 2 ^ 31 := by omega
  have u4 : p * 33 + W / 1048576 % 32 < 2 ^ 31 := by omega
  have u5 : 32 * p + W / 32768 % 32 < 512 := by omega
  have u6 : 32 * p + W / 1048576 % 32 < 512 := by omega
  have u7 : 32 * p + W / 32768 % 32 < 2 ^ 31 := by omega
  have u8 : 32 * p + W / 1048576 % 32 < 2 ^ 31 := by omega
  have u9 : W / 4096 % 8 < 2 ^ 31 := by omega
  have u10 : W / 33554432 < 2 ^ 31 := by omega
  have u11 : W / 33554432 < 2 ^ 32 := by omega
  have u12 : p < 2 ^ 31 := by omega
  by_cases cf : W / 4096 % 8 = 0
  · exact ⟨nI 0, _, _, by (simp (disch := (first | assumption | decide | omega)) only [df_X4_work, df_X4_work_0, df_X4_jump_0, df_X4_jump, df_X4_work_229, a2, ea, eb, c103, cf, a5, es, eq_self, Nat.reduceEqDiff, Nat.reduceLeDiff, nl_0, nl_1, nl_2, nl_3, nl_4, nl_5, nl_7, nl_12, nl_15, nl_19, nl_20, nl_23, nl_25, nl_31, nl_35, nl_47, nl_51, nl_55, nl_99, nl_103, nl_111, nl_115, nl_127, nl_528, nl_4096, no_1, no_1024, pk_mul, nI_add, nm_ck, nI_clamp, nI_ltI, nI_leI, nI_eq, nb_b2, nb_b1, ↓nb_let, nm_z0, nm_z1, nb_II, nb_IR, nb_RI, nb_RR, nm_IL, nm_IQ, nm_RL, nm_RQ, nm_LI, nm_LR, nm_LL, nm_LQ, nm_QI, nm_QR, nm_QL, nm_QQ, nm_rr, nm_ii, nm_eqm, not_false_eq_true, pk_sub, nm_div, nm_shl, nm_shr, nm_ush, nm_or8, nm_or64, nm_or256, nm_m1, nm_m3, nm_m7, nm_m15, nm_m31, nm_m63, nm_m255, nm_m511, nm_m1023, nm_m2047, nm_m65535, Nat.reduceMod, Nat.reducePow, Nat.reduceAdd, Nat.reduceSub, Nat.reduceMul, nm_bo, nm_bi, nm_rc, nm_ic, nm_ri, nm_rl, nm_rq, nm_ql, nm_qi, nm_li, nm_us, nm_uu, nm_cp, nm_sa31, nm_sa7, nm_m127, nm_m2, nm_nz, nm_nzk, nm_eq32, nm_nzf, if_true, if_false, ↓reduceIte, if_pos, if_neg] <;> rfl), by ((rw [wk_sw n hp a3 hW hva hvb]; simp (disch := (first | assumption | decide | omega)) only [df_X16_carry_304, df_X16_carry_562, a3, hva, hvb, c103, cf, bec, eq_self, Nat.reduceEqDiff, Nat.reduceLeDiff, nl_0, nl_1, nl_2, nl_3, nl_5, nl_8, nl_10, nl_11, nl_12, nl_15, nl_16, nl_19, nl_20, nl_21, nl_23, nl_31, nl_32, nl_35, nl_47, nl_51, nl_55, nl_99, nl_103, nl_111, nl_115, nl_4096, no_1, no_1024, pk_mul, nI_add, nm_ck, nI_clamp, nI_ltI, nI_leI, nI_eq, nb_b2, nb_b1, ↓nb_let, nm_z0, nm_z1, nb_II, nb_IR, nb_RI, nb_RR, nm_IL, nm_IQ, nm_RL, nm_RQ, nm_LI, nm_LR, nm_LL, nm_LQ, nm_QI, nm_QR, nm_QL, nm_QQ, nm_rr, nm_ii, nm_eqm, not_false_eq_true, pk_sub, nm_div, nm_shl, nm_shr, nm_ush, nm_or8, nm_or64, nm_or256, nm_m1, nm_m3, nm_m7, nm_m15, nm_m31, nm_m63, nm_m255, nm_m511, nm_m1023, nm_m2047, nm_m65535, Nat.reduceMod, Nat.reducePow, Nat.reduceAdd, Nat.reduceSub, Nat.reduceMul, nm_bo, nm_bi, nm_rc, nm_ic, nm_ri, nm_rl, nm_rq, nm_ql, nm_qi, nm_li, nm_us, nm_uu, nm_cp, nm_sa31, nm_sa7, nm_m127, nm_m2, nm_nz, nm_nzk, nm_eq32, nm_nzf, if_true, if_false, ↓reduceIte, if_pos, if_neg]) <;> rfl), a5 ▸ oH_reg h0 (d := W / 128 % 32) (by omega) (sI s.1 3) ((va + (nI W >>> nI 20)) &&& -nI 2)⟩
  · refine ⟨nI 4, s, _, by simp (disch := (first | assumption | decide | omega)) only [df_X4_work, df_X4_work_0, df_X4_work_229, a2, ea, eb, c103, cf, eq_self, Nat.reduceEqDiff, Nat.reduceLeDiff, nl_0, nl_1, nl_2, nl_3, nl_4, nl_5, nl_7, nl_12, nl_15, nl_19, nl_20, nl_23, nl_25, nl_31, nl_35, nl_47, nl_51, nl_55, nl_99, nl_103, nl_111, nl_115, nl_127, nl_528, nl_4096, no_1, no_1024, pk_mul, nI_add, nm_ck, nI_clamp, nI_ltI, nI_leI, nI_eq, nb_b2, nb_b1, ↓nb_let, nm_z0, nm_z1, nb_II, nb_IR, nb_RI, nb_RR, nm_IL, nm_IQ, nm_RL, nm_RQ, nm_LI, nm_LR, nm_LL, nm_LQ, nm_QI, nm_QR, nm_QL, nm_QQ, nm_rr, nm_ii, nm_eqm, not_false_eq_true, pk_sub, nm_div, nm_shl, nm_shr, nm_ush, nm_or8, nm_or64, nm_or256, nm_m1, nm_m3, nm_m7, nm_m15, nm_m31, nm_m63, nm_m255, nm_m511, nm_m1023, nm_m2047, nm_m65535, Nat.reduceMod, Nat.reducePow, Nat.reduceAdd, Nat.reduceSub, Nat.reduceMul, nm_bo, nm_bi, nm_rc, nm_ic, nm_ri, nm_rl, nm_rq, nm_ql, nm_qi, nm_li, nm_us, nm_uu, nm_cp, nm_sa31, nm_sa7, nm_m127, nm_m2, nm_nz, nm_nzk, nm_eq32, nm_nzf, if_true, if_false, ↓reduceIte, if_pos, if_neg], by ((rw [wk_sw n hp a3 hW hva hvb]; simp (disch := (first | assumption | decide | omega)) only [df_X16_carry_304, df_X16_carry_562, df_X16_illegal_0, df_X16_illegal, df_X16_meet_0, df_X16_meet, a3, hva, hvb, c103, cf, bec0, eq_self, Nat.reduceEqDiff, Nat.reduceLeDiff, nl_0, nl_1, nl_2, nl_3, nl_5, nl_8, nl_10, nl_11, nl_12, nl_15, nl_16, nl_19, nl_20, nl_21, nl_23, nl_31, nl_32, nl_35, nl_47, nl_51, nl_55, nl_99, nl_103, nl_111, nl_115, nl_4096, no_1, no_1024, pk_mul, nI_add, nm_ck, nI_clamp, nI_ltI, nI_leI, nI_eq, nb_b2, nb_b1, ↓nb_let, nm_z0, nm_z1, nb_II, nb_IR, nb_RI, nb_RR, nm_IL, nm_IQ, nm_RL, nm_RQ, nm_LI, nm_LR, nm_LL, nm_LQ, nm_QI, nm_QR, nm_QL, nm_QQ, nm_rr, nm_ii, nm_eqm, not_false_eq_true, pk_sub, nm_div, nm_shl, nm_shr, nm_ush, nm_or8, nm_or64, nm_or256, nm_m1, nm_m3, nm_m7, nm_m15, nm_m31, nm_m63, nm_m255, nm_m511, nm_m1023, nm_m2047, nm_m65535, Nat.reduceMod, Nat.reducePow, Nat.reduceAdd, Nat.reduceSub, Nat.reduceMul, nm_bo, nm_bi, nm_rc, nm_ic, nm_ri, nm_rl, nm_rq, nm_ql, nm_qi, nm_li, nm_us, nm_uu, nm_cp, nm_sa31, nm_sa7, nm_m127, nm_m2, nm_nz, nm_nzk, nm_eq32, nm_nzf, if_true, if_false, ↓reduceIte, if_pos, if_neg]) <;> rfl), Or.inl ⟨2, (va + (nI W >>> nI 20)) &&& -nI 2, hi, rfl, ?_⟩⟩
    simp (disch := omega) only [df_X16_carry_562, nm_ic (a := 11) (b := 10) (by decide), no_1, no_1024, pk_mul, nI_add, nm_ck, nI_clamp, nI_ltI, nI_leI, nI_eq, nb_b2, nb_b1, nb_let, nm_z0, nm_z1, nb_II, nb_IR, nb_RI, nb_RR, nm_IL, nm_IQ, nm_RL, nm_RQ, nm_LI, nm_LR, nm_LL, nm_LQ, nm_QI, nm_QR, nm_QL, nm_QQ, nm_rr, nm_ii, nm_eqm, not_false_eq_true, pk_sub, nm_div, nm_shl, nm_shr, nm_ush, nm_or8, nm_or64, nm_or256, nm_m1, nm_m3, nm_m7, nm_m15, nm_m31, nm_m63, nm_m255, nm_m511, nm_m1023, nm_m2047, nm_m65535, Nat.reduceMod, Nat.reducePow, Nat.reduceAdd, Nat.reduceSub, Nat.reduceMul, nm_bo, nm_bi, nm_rc, nm_ic, nm_ri, nm_rl, nm_rq, nm_ql, nm_qi, nm_li, nm_us, nm_uu, nm_cp, nm_sa31, nm_sa7, nm_m127, nm_m2, nm_nz, nm_nzk, nm_eq32, nm_nzf, if_true, if_false, ↓reduceIte, if_pos, if_neg]
theorem wk_111 (n : Nat) (hn : 1024 < n) {p : Nat} {s : St × (St × St)} {X : St × St} (h : rHt p s X) {W : Nat} (hW : W < 2 ^ 32) (c111 : W % 128 = 111) : ∃ (t : Int32) (s' : St × (St × St)) (X' : St × St), df_X4_work n (nI W) s = some (t, s') ∧ df_X16_carry n (nI W) X = some X' ∧ oH p s X t s' X' := by
  have h0 := h
  obtain ⟨hp, a1, a2, a3, a4, a5, a6, a7, a8, a9, a10, a11, a12, a13, a14⟩ := h
  have ea := a7 (W / 32768 % 32) (by omega)
  have eb := a7 (W / 1048576 % 32) (by omega)
  have es := fun v => nk_set n hp a2 hW v
  have bec := fun v => nk_bec n hp a3 a6 (d := W / 128 % 32) (by omega) v
  have bec0 : ∀ (me : Nat) (v : Int32), 0 < me → me < 9 → df_X16_become n (nI (W / 128 % 32)) v (pI X.1 11 (nI me), X.2) = some (pI X.1 11 (nI me), X.2) := fun me v m1 m2 => nk_bec0 n (X := (pI X.1 11 (nI me), X.2)) rfl m1 m2 _ _
  have hg : W / 33554432 % 128 = W / 33554432 := by omega
  have hi : tm (nI 4) 2 := Or.inr (Or.inl ⟨rfl, rfl⟩)
  have hva : sR X.1 9 (32 * p + W / 32768 % 32) = sR s.2.1 3 (p * 33 + W / 32768 % 32) := ea.symm
  have hvb : sR X.1 9 (32 * p + W / 1048576 % 32) = sR s.2.1 3 (p * 33 + W / 1048576 % 32) := eb.symm
  generalize sR s.2.1 3 (p * 33 + W / 32768 % 32) = va at hva
  generalize sR s.2.1 3 (p * 33 + W / 1048576 % 32) = vb at hvb
  rw [hva] at ea
  rw [hvb] at eb
  have u1 : p * 33 + W / 32768 % 32 < 528 := by omega
  have u2 : p * 33 + W / 1048576 % 32 < 528 := by omega
  have u3 : p * 33 + W / 32768 % 32 < 2 ^ 31 := by omega
  have u4 : p * 33 + W / 1048576 % 32 < 2 ^ 31 := by omega
  have u5 : 32 * p + W / 32768 % 32 < 512 := by omega
  have u6 : 32 * p + W / 1048576 % 32 < 512 := by omega
  have u7 : 32 * p + W / 32768 % 32 < 2 ^ 31 := by omega
  have u8 : 32 * p + W / 1048576 % 32 < 2 ^ 31 := by omega
  have u9 : W / 4096 % 8 < 2 ^ 31 := by omega
  have u10 : W / 33554432 < 2 ^ 31 := by omega
  have u11 : W / 33554432 < 2 ^ 32 := by omega
  have u12 : p < 2 ^ 31 := by omega
  have sc2 : ∀ v : Int32, sI (sc p (W / 128 % 32) v s).1 2 = sR X.1 10 p := fun _ => a4
  have sx12 : ∀ v : Int32, sI (sx p (W / 128 % 32) v X).1 12 = nI p := fun _ => a3
  have sx10 : ∀ v : Int32, sR (sx p (W / 128 % 32) v X).1 10 = sR X.1 10 := fun _ => rfl
  obtain ⟨q1, q2, q3, q4, o, b1, b2, b3, b4, b5, b6⟩ := nk_joff n (nI W)
  exact ⟨nI 0, _, _, by (simp (disch := (first | assumption | decide | omega)) only [df_X4_work, df_X4_work_0, a2, ea, eb, c111, a5, es, b6, sc2, eq_self, Nat.reduceEqDiff, Nat.reduceLeDiff, nl_0, nl_1, nl_2, nl_3, nl_4, nl_5, nl_7, nl_12, nl_15, nl_19, nl_20, nl_23, nl_25, nl_31, nl_35, nl_47, nl_51, nl_55, nl_99, nl_103, nl_111, nl_115, nl_127, nl_528, nl_4096, no_1, no_1024, pk_mul, nI_add, nm_ck, nI_clamp, nI_ltI, nI_leI, nI_eq, nb_b2, nb_b1, ↓nb_let, nm_z0, nm_z1, nb_II, nb_IR, nb_RI, nb_RR, nm_IL, nm_IQ, nm_RL, nm_RQ, nm_LI, nm_LR, nm_LL, nm_LQ, nm_QI, nm_QR, nm_QL, nm_QQ, nm_rr, nm_ii, nm_eqm, not_false_eq_true, pk_sub, nm_div, nm_shl, nm_shr, nm_ush, nm_or8, nm_or64, nm_or256, nm_m1, nm_m3, nm_m7, nm_m15, nm_m31, nm_m63, nm_m255, nm_m511, nm_m1023, nm_m2047, nm_m65535, Nat.reduceMod, Nat.reducePow, Nat.reduceAdd, Nat.reduceSub, Nat.reduceMul, nm_bo, nm_bi, nm_rc, nm_ic, nm_ri, nm_rl, nm_rq, nm_ql, nm_qi, nm_li, nm_us, nm_uu, nm_cp, nm_sa31, nm_sa7, nm_m127, nm_m2, nm_nz, nm_nzk, nm_eq32, nm_nzf, if_true, if_false, ↓reduceIte, if_pos, if_neg] <;> rfl), by ((rw [wk_sw n hp a3 hW hva hvb]; simp (disch := (first | assumption | decide | omega)) only [df_X16_carry_562, a3, hva, hvb, c111, bec, b1, b2, b3, b4, b5, sx12, sx10, eq_self, Nat.reduceEqDiff, Nat.reduceLeDiff, nl_0, nl_1, nl_2, nl_3, nl_5, nl_8, nl_10, nl_11, nl_12, nl_15, nl_16, nl_19, nl_20, nl_21, nl_23, nl_31, nl_32, nl_35, nl_47, nl_51, nl_55, nl_99, nl_103, nl_111, nl_115, nl_4096, no_1, no_1024, pk_mul, nI_add, nm_ck, nI_clamp, nI_ltI, nI_leI, nI_eq, nb_b2, nb_b1, ↓nb_let, nm_z0, nm_z1, nb_II, nb_IR, nb_RI, nb_RR, nm_IL, nm_IQ, nm_RL, nm_RQ, nm_LI, nm_LR, nm_LL, nm_LQ, nm_QI, nm_QR, nm_QL, nm_QQ, nm_rr, nm_ii, nm_eqm, not_false_eq_true, pk_sub, nm_div, nm_shl, nm_shr, nm_ush, nm_or8, nm_or64, nm_or256, nm_m1, nm_m3, nm_m7, nm_m15, nm_m31, nm_m63, nm_m255, nm_m511, nm_m1023, nm_m2047, nm_m65535, Nat.reduceMod, Nat.reducePow, Nat.reduceAdd, Nat.reduceSub, Nat.reduceMul, nm_bo, nm_bi, nm_rc, nm_ic, nm_ri, nm_rl, nm_rq, nm_ql, nm_qi, nm_li, nm_us, nm_uu, nm_cp, nm_sa31, nm_sa7, nm_m127, nm_m2, nm_nz, nm_nzk, nm_eq32, nm_nzf, if_true, if_false, ↓reduceIte, if_pos, if_neg]) <;> rfl), a5 ▸ a4 ▸ oH_reg h0 (d := W / 128 % 32) (by omega) (sI s.1 3) (sI s.1 2 + o)⟩
theorem wk_115 (n : Nat) (hn : 1024 < n) {p : Nat} {s : St × (St × St)} {X : St × St} (h : rHt p s X) {W : Nat} (hW : W < 2 ^ 32) (c115 : W % 128 = 115) : ∃ (t : Int32) (s' : St × (St × St)) (X' : St × St), df_X4_work n (nI W) s = some (t, s') ∧ df_X16_carry n (nI W) X = some X' ∧ oH p s X t s' X' := by
  have h0 := h
  obtain ⟨hp, a1, a2, a3, a4, a5, a6, a7, a8, a9, a10, a11, a12, a13, a14⟩ := h
  have ea := a7 (W / 32768 % 32) (by omega)
  have eb := a7 (W / 1048576 % 32) (by omega)
  have es := fun v => nk_set n hp a2 hW v
  have bec := fun v => nk_bec n hp a3 a6 (d := W / 128 % 32) (by omega) v
  have bec0 : ∀ (me : Nat) (v : Int32), 0 < me → me < 9 → df_X16_become n (nI (W / 128 % 32)) v (pI X.1 11 (nI me), X.2) = some (pI X.1 11 (nI me), X.2) := fun me v m1 m2 => nk_bec0 n (X := (pI X.1 11 (nI me), X.2)) rfl m1 m2 _ _
  have hg : W / 33554432 % 128 = W / 33554432 := by omega
  have hi : tm (nI 4) 2 := Or.inr (Or.inl ⟨rfl, rfl⟩)
  have hva : sR X.1 9 (32 * p + W / 32768 % 32) = sR s.2.1 3 (p * 33 + W / 32768 % 32) := ea.symm
  have hvb : sR X.1 9 (32 * p + W / 1048576 % 32) = sR s.2.1 3 (p * 33 + W / 1048576 % 32) := eb.symm
  generalize sR s.2.1 3 (p * 33 + W / 32768 % 32) = va at hva
  generalize sR s.2.1 3 (p * 33 + W / 1048576 % 32) = vb at hvb
  rw [hva] at ea
  rw [hvb] at eb
  have u1 : p * 33 + W / 32768 % 32 < 528 := by omega
  have u2 : p * 33 + W / 1048576 % 32 < 528 := by omega
  have u3 : p * 33 + W / 32768 % 32 < 2 ^ 31 := by omega
  have u4 : p * 33 + W / 1048576 % 32 < 2 ^ 31 := by omega
  have u5 : 32 * p + W / 32768 % 32 < 512 := by omega
  have u6 : 32 * p + W / 1048576 % 32 < 512 := by omega
  have u7 : 32 * p + W / 32768 % 32 < 2 ^ 31 := by omega
  have u8 : 32 * p + W / 1048576 % 32 < 2 ^ 31 := by omega
  have u9 : W / 4096 % 8 < 2 ^ 31 := by omega
  have u10 : W / 33554432 < 2 ^ 31 := by omega
  have u11 : W / 33554432 < 2 ^ 32 := by omega
  have u12 : p < 2 ^ 31 := by omega
  obtain ⟨t, s', X', e1, e2, o⟩ := vO_h n h0 (nk_system n h0 hW (f := W / 4096 % 8) (by omega))
  refine ⟨t, s', X', ?_, ?_, o⟩
  · simp (disch := (first | assumption | decide | omega)) only [df_X4_work, df_X4_work_0, a2, ea, eb, c115, eq_self, Nat.reduceEqDiff, Nat.reduceLeDiff, nl_0, nl_1, nl_2, nl_3, nl_4, nl_5, nl_7, nl_12, nl_15, nl_19, nl_20, nl_23, nl_25, nl_31, nl_35, nl_47, nl_51, nl_55, nl_99, nl_103, nl_111, nl_115, nl_127, nl_528, nl_4096, no_1, no_1024, pk_mul, nI_add, nm_ck, nI_clamp, nI_ltI, nI_leI, nI_eq, nb_b2, nb_b1, ↓nb_let, nm_z0, nm_z1, nb_II, nb_IR, nb_RI, nb_RR, nm_IL, nm_IQ, nm_RL, nm_RQ, nm_LI, nm_LR, nm_LL, nm_LQ, nm_QI, nm_QR, nm_QL, nm_QQ, nm_rr, nm_ii, nm_eqm, not_false_eq_true, pk_sub, nm_div, nm_shl, nm_shr, nm_ush, nm_or8, nm_or64, nm_or256, nm_m1, nm_m3, nm_m7, nm_m15, nm_m31, nm_m63, nm_m255, nm_m511, nm_m1023, nm_m2047, nm_m65535, Nat.reduceMod, Nat.reducePow, Nat.reduceAdd, Nat.reduceSub, Nat.reduceMul, nm_bo, nm_bi, nm_rc, nm_ic, nm_ri, nm_rl, nm_rq, nm_ql, nm_qi, nm_li, nm_us, nm_uu, nm_cp, nm_sa31, nm_sa7, nm_m127, nm_m2, nm_nz, nm_nzk, nm_eq32, nm_nzf, if_true, if_false, ↓reduceIte, if_pos, if_neg]
    exact e1
  · (rw [wk_sw n hp a3 hW hva hvb]; simp (disch := (first | assumption | decide | omega)) only [df_X16_carry_562, a3, hva, hvb, c115, eq_self, Nat.reduceEqDiff, Nat.reduceLeDiff, nl_0, nl_1, nl_2, nl_3, nl_5, nl_8, nl_10, nl_11, nl_12, nl_15, nl_16, nl_19, nl_20, nl_21, nl_23, nl_31, nl_32, nl_35, nl_47, nl_51, nl_55, nl_99, nl_103, nl_111, nl_115, nl_4096, no_1, no_1024, pk_mul, nI_add, nm_ck, nI_clamp, nI_ltI, nI_leI, nI_eq, nb_b2, nb_b1, ↓nb_let, nm_z0, nm_z1, nb_II, nb_IR, nb_RI, nb_RR, nm_IL, nm_IQ, nm_RL, nm_RQ, nm_LI, nm_LR, nm_LL, nm_LQ, nm_QI, nm_QR, nm_QL, nm_QQ, nm_rr, nm_ii, nm_eqm, not_false_eq_true, pk_sub, nm_div, nm_shl, nm_shr, nm_ush, nm_or8, nm_or64, nm_or256, nm_m1, nm_m3, nm_m7, nm_m15, nm_m31, nm_m63, nm_m255, nm_m511, nm_m1023, nm_m2047, nm_m65535, Nat.reduceMod, Nat.reducePow, Nat.reduceAdd, Nat.reduceSub, Nat.reduceMul, nm_bo, nm_bi, nm_rc, nm_ic, nm_ri, nm_rl, nm_rq, nm_ql, nm_qi, nm_li, nm_us, nm_uu, nm_cp, nm_sa31, nm_sa7, nm_m127, nm_m2, nm_nz, nm_nzk, nm_eq32, nm_nzf, if_true, if_false, ↓reduceIte, if_pos, if_neg])
    exact e2
theorem wk_no (n : Nat) {p : Nat} {s : St × (St × St)} {X : St × St} (h : rHt p s X) {W : Nat} (hW : W < 2 ^ 32) (c3 : ¬ W % 128 = 3) (c15 : ¬ W % 128 = 15) (c19 : ¬ W % 128 = 19) (c23 : ¬ W % 128 = 23) (c35 : ¬ W % 128 = 35) (c47 : ¬ W % 128 = 47) (c51 : ¬ W % 128 = 51) (c55 : ¬ W % 128 = 55) (c99 : ¬ W % 128 = 99) (c103 : ¬ W % 128 = 103) (c111 : ¬ W % 128 = 111) (c115 : ¬ W % 128 = 115) : ∃ (t : Int32) (s' : St × (St × St)) (X' : St × St), df_X4_work n (nI W) s = some (t, s') ∧ df_X16_carry n (nI W) X = some X' ∧ oH p s X t s' X' := by
  have h0 := h
  obtain ⟨hp, a1, a2, a3, a4, a5, a6, a7, a8, a9, a10, a11, a12, a13, a14⟩ := h
  have ea := a7 (W / 32768 % 32) (by omega)
  have eb := a7 (W / 1048576 % 32) (by omega)
  have es := fun v => nk_set n hp a2 hW v
  have bec := fun v => nk_bec n hp a3 a6 (d := W / 128 % 32) (by omega) v
  have bec0 : ∀ (me : Nat) (v : Int32), 0 < me → me < 9 → df_X16_become n (nI (W / 128 % 32)) v (pI X.1 11 (nI me), X.2) = some (pI X.1 11 (nI me), X.2) := fun me v m1 m2 => nk_bec0 n (X := (pI X.1 11 (nI me), X.2)) rfl m1 m2 _ _
  have hg : W / 33554432 % 128 = W / 33554432 := by omega
  have hi : tm (nI 4) 2 := Or.inr (Or.inl ⟨rfl, rfl⟩)
  have hva : sR X.1 9 (32 * p + W / 32768 % 32) = sR s.2.1 3 (p * 33 + W / 32768 % 32) := ea.symm
  have hvb : sR X.1 9 (32 * p + W / 1048576 % 32) = sR s.2.1 3 (p * 33 + W / 1048576 % 32) := eb.symm
  generalize sR s.2.1 3 (p * 33 + W / 32768 % 32) = va at hva
  generalize sR s.2.1 3 (p * 33 + W / 1048576 % 32) = vb at hvb
  rw [hva] at ea
  rw [hvb] at eb
  have u1 : p * 33 + W / 32768 % 32 < 528 := by omega
  have u2 : p * 33 + W / 1048576 % 32 < 528 := by omega
  have u3 : p * 33 + W / 32768 % 32 < 2 ^ 31 := by omega
  have u4 : p * 33 + W / 1048576 % 32 < 2 ^ 31 := by omega
  have u5 : 32 * p + W / 32768 % 32 < 512 := by omega
  have u6 : 32 * p + W / 1048576 % 32 < 512 := by omega
  have u7 : 32 * p + W / 32768 % 32 < 2 ^ 31 := by omega
  have u8 : 32 * p + W / 1048576 % 32 < 2 ^ 31 := by omega
  have u9 : W / 4096 % 8 < 2 ^ 31 := by omega
  have u10 : W / 33554432 < 2 ^ 31 := by omega
  have u11 : W / 33554432 < 2 ^ 32 := by omega
  have u12 : p < 2 ^ 31 := by omega
  have u13 : W % 128 < 2 ^ 31 := by omega
  exact ⟨nI 4, s, (pI X.1 11 (nI 2), X.2), by simp (disch := (first | assumption | decide | omega)) only [df_X4_work, df_X4_work_0, a2, ea, eb, c3, c15, c19, c23, c35, c47, c51, c55, c99, c103, c111, c115, eq_self, Nat.reduceEqDiff, Nat.reduceLeDiff, nl_0, nl_1, nl_2, nl_3, nl_4, nl_5, nl_7, nl_12, nl_15, nl_19, nl_20, nl_23, nl_25, nl_31, nl_35, nl_47, nl_51, nl_55, nl_99, nl_103, nl_111, nl_115, nl_127, nl_528, nl_4096, no_1, no_1024, pk_mul, nI_add, nm_ck, nI_clamp, nI_ltI, nI_leI, nI_eq, nb_b2, nb_b1, ↓nb_let, nm_z0, nm_z1, nb_II, nb_IR, nb_RI, nb_RR, nm_IL, nm_IQ, nm_RL, nm_RQ, nm_LI, nm_LR, nm_LL, nm_LQ, nm_QI, nm_QR, nm_QL, nm_QQ, nm_rr, nm_ii, nm_eqm, not_false_eq_true, pk_sub, nm_div, nm_shl, nm_shr, nm_ush, nm_or8, nm_or64, nm_or256, nm_m1, nm_m3, nm_m7, nm_m15, nm_m31, nm_m63, nm_m255, nm_m511, nm_m1023, nm_m2047, nm_m65535, Nat.reduceMod, Nat.reducePow, Nat.reduceAdd, Nat.reduceSub, Nat.reduceMul, nm_bo, nm_bi, nm_rc, nm_ic, nm_ri, nm_rl, nm_rq, nm_ql, nm_qi, nm_li, nm_us, nm_uu, nm_cp, nm_sa31, nm_sa7, nm_m127, nm_m2, nm_nz, nm_nzk, nm_eq32, nm_nzf, if_true, if_false, ↓reduceIte, if_pos, if_neg], by (rw [wk_sw n hp a3 hW hva hvb]; simp (disch := (first | assumption | decide | omega)) only [df_X16_carry_562, df_X16_illegal_0, df_X16_illegal, df_X16_meet_0, df_X16_meet, a3, hva, hvb, c3, c15, c19, c23, c35, c47, c51, c55, c99, c103, c111, c115, eq_self, Nat.reduceEqDiff, Nat.reduceLeDiff, nl_0, nl_1, nl_2, nl_3, nl_5, nl_8, nl_10, nl_11, nl_12, nl_15, nl_16, nl_19, nl_20, nl_21, nl_23, nl_31, nl_32, nl_35, nl_47, nl_51, nl_55, nl_99, nl_103, nl_111, nl_115, nl_4096, no_1, no_1024, pk_mul, nI_add, nm_ck, nI_clamp, nI_ltI, nI_leI, nI_eq, nb_b2, nb_b1, ↓nb_let, nm_z0, nm_z1, nb_II, nb_IR, nb_RI, nb_RR, nm_IL, nm_IQ, nm_RL, nm_RQ, nm_LI, nm_LR, nm_LL, nm_LQ, nm_QI, nm_QR, nm_QL, nm_QQ, nm_rr, nm_ii, nm_eqm, not_false_eq_true, pk_sub, nm_div, nm_shl, nm_shr, nm_ush, nm_or8, nm_or64, nm_or256, nm_m1, nm_m3, nm_m7, nm_m15, nm_m31, nm_m63, nm_m255, nm_m511, nm_m1023, nm_m2047, nm_m65535, Nat.reduceMod, Nat.reducePow, Nat.reduceAdd, Nat.reduceSub, Nat.reduceMul, nm_bo, nm_bi, nm_rc, nm_ic, nm_ri, nm_rl, nm_rq, nm_ql, nm_qi, nm_li, nm_us, nm_uu, nm_cp, nm_sa31, nm_sa7, nm_m127, nm_m2, nm_nz, nm_nzk, nm_eq32, nm_nzf, if_true, if_false, ↓reduceIte, if_pos, if_neg]), oH_t hi⟩
/-- one instruction, carried out by both -/
theorem nk_work (n : Nat) (hn : 1024 < n) {p : Nat} {s : St × (St × St)} {X : St × St} (h : rHt p s X) {W : Nat} (hW : W < 2 ^ 32) : ∃ (t : Int32) (s' : St × (St × St)) (X' : St × St), df_X4_work n (nI W) s = some (t, s') ∧ df_X16_carry n (nI W) X = some X' ∧ oH p s X t s' X' := by
  by_cases c3 : W % 128 = 3
  · exact wk_3 n hn h hW c3
  by_cases c15 : W % 128 = 15
  · exact wk_15 n hn h hW c15
  by_cases c19 : W % 128 = 19
  · exact wk_19 n hn h hW c19
  by_cases c23 : W % 128 = 23
  · exact wk_23 n hn h hW c23
  by_cases c35 : W % 128 = 35
  · exact wk_35 n hn h hW c35
  by_cases c47 : W % 128 = 47
  · exact wk_47 n hn h hW c47
  by_cases c51 : W % 128 = 51
  · exact wk_51 n hn h hW c51
  by_cases c55 : W % 128 = 55
  · exact wk_55 n hn h hW c55
  by_cases c99 : W % 128 = 99
  · exact wk_99 n hn h hW c99
  by_cases c103 : W % 128 = 103
  · exact wk_103 n hn h hW c103
  by_cases c111 : W % 128 = 111
  · exact wk_111 n hn h hW c111
  by_cases c115 : W % 128 = 115
  · exact wk_115 n hn h hW c115
  exact wk_no n h hW c3 c15 c19 c23 c35 c47 c51 c55 c99 c103 c111 c115
