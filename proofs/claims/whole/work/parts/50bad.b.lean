theorem at_f (n : Nat) (w a b : Int32) {f k : Nat} (hf : f < 8) (h2 : ¬ f = 2) (hk : k < 32) (X : St × St) : df_X16_atomic n w (nI f) (nI k) a b X = some (nI 0, (pI X.1 11 (nI 2), X.2)) := by
  have k0 := at_0 n w (nI f) a b hk X
  have e : ∀ y : Int32, df_X16_atomic_46 n w (nI f) (nI k) a b y X = some (nI 0, (pI X.1 11 (nI 2), X.2)) := fun y => by
    simp (disch := omega) only [df_X16_atomic_46, df_X16_atomic_73, df_X16_illegal_0, df_X16_illegal, df_X16_meet_0, df_X16_meet, h2, eq_self, Nat.reduceEqDiff, Nat.reduceLeDiff, nl_0, nl_2, nl_5, nl_11, nl_20, no_1, no_1024, pk_mul, nI_add, nm_ck, nI_clamp, nI_ltI, nI_leI, nI_eq, nb_b2, nb_b1, ↓nb_let, nm_z0, nm_z1, nb_II, nb_IR, nb_RI, nb_RR, nm_IL, nm_IQ, nm_RL, nm_RQ, nm_LI, nm_LR, nm_LL, nm_LQ, nm_QI, nm_QR, nm_QL, nm_QQ, nm_rr, nm_ii, nm_eqm, not_false_eq_true, pk_sub, nm_div, nm_shl, nm_shr, nm_ush, nm_or8, nm_or64, nm_or256, nm_m1, nm_m3, nm_m7, nm_m15, nm_m31, nm_m63, nm_m255, nm_m511, nm_m1023, nm_m2047, nm_m65535, Nat.reduceMod, Nat.reducePow, Nat.reduceAdd, Nat.reduceSub, Nat.reduceMul, nm_bo, nm_bi, nm_rc, nm_ic, nm_ri, nm_rl, nm_rq, nm_ql, nm_qi, nm_li, nm_us, nm_uu, nm_cp, nm_sa31, nm_sa7, nm_m127, nm_m2, nm_nz, nm_nzk, nm_eq32, nm_nzf, if_true, if_false, ↓reduceIte, if_pos, if_neg]
  by_cases c : kn k
  · rw [k0.1 c, e]
  · rw [k0.2 c, e]
theorem pt7 (n : Nat) {W : Nat} (hW : W < 2 ^ 32) : df_X16_part n (nI W) 7 5 () = some (nI (W / 128 % 32), ()) := by
  simp (disch := omega) only [df_X16_part_0, df_X16_part, nl_1, nl_5, nl_7, nl_31, no_1, no_1024, pk_mul, nI_add, nm_ck, nI_clamp, nI_ltI, nI_leI, nI_eq, nb_b2, nb_b1, nb_let, nm_z0, nm_z1, nb_II, nb_IR, nb_RI, nb_RR, nm_IL, nm_IQ, nm_RL, nm_RQ, nm_LI, nm_LR, nm_LL, nm_LQ, nm_QI, nm_QR, nm_QL, nm_QQ, nm_rr, nm_ii, nm_eqm, not_false_eq_true, pk_sub, nm_div, nm_shl, nm_shr, nm_ush, nm_or8, nm_or64, nm_or256, nm_m1, nm_m3, nm_m7, nm_m15, nm_m31, nm_m63, nm_m255, nm_m511, nm_m1023, nm_m2047, nm_m65535, Nat.reduceMod, Nat.reducePow, Nat.reduceAdd, Nat.reduceSub, Nat.reduceMul, nm_bo, nm_bi, nm_rc, nm_ic, nm_ri, nm_rl, nm_rq, nm_ql, nm_qi, nm_li, nm_us, nm_uu, nm_cp, nm_sa31, nm_sa7, nm_m127, nm_m2, nm_nz, nm_nzk, nm_eq32, nm_nzf, if_true, if_false, ↓reduceIte, if_pos, if_neg]
theorem pt12 (n : Nat) {W : Nat} (hW : W < 2 ^ 32) : df_X16_part n (nI W) 12 3 () = some (nI (W / 4096 % 8), ()) := by
  simp (disch := omega) only [df_X16_part_0, df_X16_part, nl_1, nl_3, nl_12, nl_31, no_1, no_1024, pk_mul, nI_add, nm_ck, nI_clamp, nI_ltI, nI_leI, nI_eq, nb_b2, nb_b1, nb_let, nm_z0, nm_z1, nb_II, nb_IR, nb_RI, nb_RR, nm_IL, nm_IQ, nm_RL, nm_RQ, nm_LI, nm_LR, nm_LL, nm_LQ, nm_QI, nm_QR, nm_QL, nm_QQ, nm_rr, nm_ii, nm_eqm, not_false_eq_true, pk_sub, nm_div, nm_shl, nm_shr, nm_ush, nm_or8, nm_or64, nm_or256, nm_m1, nm_m3, nm_m7, nm_m15, nm_m31, nm_m63, nm_m255, nm_m511, nm_m1023, nm_m2047, nm_m65535, Nat.reduceMod, Nat.reducePow, Nat.reduceAdd, Nat.reduceSub, Nat.reduceMul, nm_bo, nm_bi, nm_rc, nm_ic, nm_ri, nm_rl, nm_rq, nm_ql, nm_qi, nm_li, nm_us, nm_uu, nm_cp, nm_sa31, nm_sa7, nm_m127, nm_m2, nm_nz, nm_nzk, nm_eq32, nm_nzf, if_true, if_false, ↓reduceIte, if_pos, if_neg]
theorem pt15 (n : Nat) {W : Nat} (hW : W < 2 ^ 32) : df_X16_part n (nI W) 15 5 () = some (nI (W / 32768 % 32), ()) := by
  simp (disch := omega) only [df_X16_part_0, df_X16_part, nl_1, nl_5, nl_15, nl_31, no_1, no_1024, pk_mul, nI_add, nm_ck, nI_clamp, nI_ltI, nI_leI, nI_eq, nb_b2, nb_b1, nb_let, nm_z0, nm_z1, nb_II, nb_IR, nb_RI, nb_RR, nm_IL, nm_IQ, nm_RL, nm_RQ, nm_LI, nm_LR, nm_LL, nm_LQ, nm_QI, nm_QR, nm_QL, nm_QQ, nm_rr, nm_ii, nm_eqm, not_false_eq_true, pk_sub, nm_div, nm_shl, nm_shr, nm_ush, nm_or8, nm_or64, nm_or256, nm_m1, nm_m3, nm_m7, nm_m15, nm_m31, nm_m63, nm_m255, nm_m511, nm_m1023, nm_m2047, nm_m65535, Nat.reduceMod, Nat.reducePow, Nat.reduceAdd, Nat.reduceSub, Nat.reduceMul, nm_bo, nm_bi, nm_rc, nm_ic, nm_ri, nm_rl, nm_rq, nm_ql, nm_qi, nm_li, nm_us, nm_uu, nm_cp, nm_sa31, nm_sa7, nm_m127, nm_m2, nm_nz, nm_nzk, nm_eq32, nm_nzf, if_true, if_false, ↓reduceIte, if_pos, if_neg]
theorem pt20 (n : Nat) {W : Nat} (hW : W < 2 ^ 32) : df_X16_part n (nI W) 20 5 () = some (nI (W / 1048576 % 32), ()) := by
  simp (disch := omega) only [df_X16_part_0, df_X16_part, nl_1, nl_5, nl_20, nl_31, no_1, no_1024, pk_mul, nI_add, nm_ck, nI_clamp, nI_ltI, nI_leI, nI_eq, nb_b2, nb_b1, nb_let, nm_z0, nm_z1, nb_II, nb_IR, nb_RI, nb_RR, nm_IL, nm_IQ, nm_RL, nm_RQ, nm_LI, nm_LR, nm_LL, nm_LQ, nm_QI, nm_QR, nm_QL, nm_QQ, nm_rr, nm_ii, nm_eqm, not_false_eq_true, pk_sub, nm_div, nm_shl, nm_shr, nm_ush, nm_or8, nm_or64, nm_or256, nm_m1, nm_m3, nm_m7, nm_m15, nm_m31, nm_m63, nm_m255, nm_m511, nm_m1023, nm_m2047, nm_m65535, Nat.reduceMod, Nat.reducePow, Nat.reduceAdd, Nat.reduceSub, Nat.reduceMul, nm_bo, nm_bi, nm_rc, nm_ic, nm_ri, nm_rl, nm_rq, nm_ql, nm_qi, nm_li, nm_us, nm_uu, nm_cp, nm_sa31, nm_sa7, nm_m127, nm_m2, nm_nz, nm_nzk, nm_eq32, nm_nzf, if_true, if_false, ↓reduceIte, if_pos, if_neg]
theorem pt25 (n : Nat) {W : Nat} (hW : W < 2 ^ 32) : df_X16_part n (nI W) 25 7 () = some (nI (W / 33554432), ()) := by
  have hg : W / 33554432 % 128 = W / 33554432 := by omega
  simp (disch := omega) only [df_X16_part_0, df_X16_part, hg, nl_1, nl_7, nl_25, nl_31, no_1, no_1024, pk_mul, nI_add, nm_ck, nI_clamp, nI_ltI, nI_leI, nI_eq, nb_b2, nb_b1, nb_let, nm_z0, nm_z1, nb_II, nb_IR, nb_RI, nb_RR, nm_IL, nm_IQ, nm_RL, nm_RQ, nm_LI, nm_LR, nm_LL, nm_LQ, nm_QI, nm_QR, nm_QL, nm_QQ, nm_rr, nm_ii, nm_eqm, not_false_eq_true, pk_sub, nm_div, nm_shl, nm_shr, nm_ush, nm_or8, nm_or64, nm_or256, nm_m1, nm_m3, nm_m7, nm_m15, nm_m31, nm_m63, nm_m255, nm_m511, nm_m1023, nm_m2047, nm_m65535, Nat.reduceMod, Nat.reducePow, Nat.reduceAdd, Nat.reduceSub, Nat.reduceMul, nm_bo, nm_bi, nm_rc, nm_ic, nm_ri, nm_rl, nm_rq, nm_ql, nm_qi, nm_li, nm_us, nm_uu, nm_cp, nm_sa31, nm_sa7, nm_m127, nm_m2, nm_nz, nm_nzk, nm_eq32, nm_nzf, if_true, if_false, ↓reduceIte, if_pos, if_neg]
theorem pt0 (n : Nat) {W : Nat} (hW : W < 2 ^ 32) : df_X16_part n (nI W) 0 7 () = some (nI (W % 128), ()) := by
  simp (disch := omega) only [df_X16_part_0, df_X16_part, Nat.div_one, nl_0, nl_1, nl_7, nl_31, no_1, no_1024, pk_mul, nI_add, nm_ck, nI_clamp, nI_ltI, nI_leI, nI_eq, nb_b2, nb_b1, nb_let, nm_z0, nm_z1, nb_II, nb_IR, nb_RI, nb_RR, nm_IL, nm_IQ, nm_RL, nm_RQ, nm_LI, nm_LR, nm_LL, nm_LQ, nm_QI, nm_QR, nm_QL, nm_QQ, nm_rr, nm_ii, nm_eqm, not_false_eq_true, pk_sub, nm_div, nm_shl, nm_shr, nm_ush, nm_or8, nm_or64, nm_or256, nm_m1, nm_m3, nm_m7, nm_m15, nm_m31, nm_m63, nm_m255, nm_m511, nm_m1023, nm_m2047, nm_m65535, Nat.reduceMod, Nat.reducePow, Nat.reduceAdd, Nat.reduceSub, Nat.reduceMul, nm_bo, nm_bi, nm_rc, nm_ic, nm_ri, nm_rl, nm_rq, nm_ql, nm_qi, nm_li, nm_us, nm_uu, nm_cp, nm_sa31, nm_sa7, nm_m127, nm_m2, nm_nz, nm_nzk, nm_eq32, nm_nzf, if_true, if_false, ↓reduceIte, if_pos, if_neg]
theorem wk_sw (n : Nat) {p : Nat} {X : St × St} (hp : p < 16) (a3 : sI X.1 12 = nI p) {W : Nat} (hW : W < 2 ^ 32) {va vb : Int32} (hva : sR X.1 9 (32 * p + W / 32768 % 32) = va) (hvb : sR X.1 9 (32 * p + W / 1048576 % 32) = vb) : df_X16_carry n (nI W) X = if (nI (W % 128)) = 3 then (nd_b2 (df_X16_loaded n ((nI (W / 4096 % 8))) ((va + ((nI W : Int32) >>> ((20 : Int32) &&& 31)))) X) (fun (q25 : Int32) (s26 : St × (St)) => nd_b1 (df_X16_become n ((nI (W / 128 % 32))) (q25) s26) (fun (s29 : St × (St)) => df_X16_carry_562 n  s29))) else (if (nI (W % 128)) = 15 then (if (nI (W / 4096 % 8)) ≤ 1 then (df_X16_carry_562 n  X) else (nd_b2 (df_X16_illegal n  X) (fun (q33 : Int32) (s34 : St × (St)) => df_X16_carry_562 n  s34))) else (if (nI (W % 128)) = 19 then (if (nI (W / 4096 % 8)) = 1 then (df_X16_carry_391 n ((nI W)) ((nI (W / 4096 % 8))) (va) ((nI (W / 33554432))) ((nI (W / 128 % 32))) X) else (if (nI (W / 4096 % 8)) = 5 then (df_X16_carry_391 n ((nI W)) ((nI (W / 4096 % 8))) (va) ((nI (W / 33554432))) ((nI (W / 128 % 32))) X) else (nd_b2 (df_X16_reckoned n ((nI (W / 4096 % 8))) (va) (((nI W : Int32) >>> ((20 : Int32) &&& 31))) ()) (fun (q48 : Int32) (s49 : Unit) => df_X16_carry_418 n ((nI (W / 128 % 32))) (q48) X)))) else (if (nI (W % 128)) = 23 then (nd_ck ((sI X.1 12)) 16 (nd_b1 (df_X16_become n ((nI (W / 128 % 32))) (((sR X.1 10 (Int32.toNatClampNeg (sI X.1 12))) + ((nI W) &&& (-4096)))) X) (fun (s54 : St × (St)) => df_X16_carry_562 n  s54))) else (if (nI (W % 128)) = 35 then (nd_b1 (df_X16_stored n ((nI (W / 4096 % 8))) ((va + ((((nI W : Int32) >>> ((20 : Int32) &&& 31)) &&& (-32)) ||| (nI (W / 128 % 32))))) (vb) X) (fun (s58 : St × (St)) => df_X16_carry_562 n  s58)) else (if (nI (W % 128)) = 47 then (nd_b2 (df_X16_atomic n ((nI W)) ((nI (W / 4096 % 8))) ((((nI (W / 33554432)) : Int32) >>> ((2 : Int32) &&& 31))) (va) (vb) X) (fun (q61 : Int32) (s62 : St × (St)) => nd_b1 (df_X16_become n ((nI (W / 128 % 32))) (q61) s62) (fun (s65 : St × (St)) => df_X16_carry_562 n  s65))) else (if (nI (W % 128)) = 51 then (if (nI (W / 33554432)) = 1 then (nd_b2 (df_X16_multiplied n ((nI (W / 4096 % 8))) (va) (vb) ()) (fun (q83 : Int32) (s84 : Unit) => df_X16_carry_502 n ((nI (W / 128 % 32))) (q83) X)) else (if (nI (W / 33554432)) = 0 then (if (nI (W / 4096 % 8)) = 1 then (df_X16_carry_469 n ((nI (W / 4096 % 8))) (va) (vb) ((nI (W / 33554432))) ((nI (W / 128 % 32))) X) else (if (nI (W / 4096 % 8)) = 5 then (df_X16_carry_469 n ((nI (W / 4096 % 8))) (va) (vb) ((nI (W / 33554432))) ((nI (W / 128 % 32))) X) else (nd_b2 (df_X16_reckoned n ((nI (W / 4096 % 8))) (va) (vb) ()) (fun (q80 : Int32) (s81 : Unit) => df_X16_carry_502 n ((nI (W / 128 % 32))) (q80) X)))) else (df_X16_carry_469 n ((nI (W / 4096 % 8))) (va) (vb) ((nI (W / 33554432))) ((nI (W / 128 % 32))) X))) else (if (nI (W % 128)) = 55 then (nd_b1 (df_X16_become n ((nI (W / 128 % 32))) (((nI W) &&& (-4096))) X) (fun (s88 : St × (St)) => df_X16_carry_562 n  s88)) else (if (nI (W % 128)) = 99 then (nd_b1 (df_X16_decide n ((nI W)) ((nI (W / 4096 % 8))) (va) (vb) X) (fun (s92 : St × (St)) => df_X16_carry_562 n  s92)) else (if (nI (W % 128)) = 103 then (if (nI (W / 4096 % 8)) = 0 then (df_X16_carry_304 n ((nI (W / 128 % 32))) (va) (((nI W : Int32) >>> ((20 : Int32) &&& 31))) X) else (nd_b2 (df_X16_illegal n  X) (fun (q100 : Int32) (s101 : St × (St)) => df_X16_carry_304 n ((nI (W / 128 % 32))) (va) (((nI W : Int32) >>> ((20 : Int32) &&& 31))) s101))) else (if (nI (W % 128)) = 111 then (nd_b1 (df_X16_become n ((nI (W / 128 % 32))) ((sI X.1 10)) X) (fun (s105 : St × (St)) => nd_ck ((sI s105.1 12)) 16 (nd_b2 (df_X16_bit n ((nI W)) (31) (1) (20) ()) (fun (q108 : Int32) (s109 : Unit) => nd_b2 (df_X16_bit n ((nI W)) (12) (8) (12) ()) (fun (q111 : Int32) (s112 : Unit) => nd_b2 (df_X16_bit n ((nI W)) (20) (1) (11) ()) (fun (q114 : Int32) (s115 : Unit) => nd_b2 (df_X16_bit n ((nI W)) (21) (10) (1) ()) (fun (q117 : Int32) (s118 : Unit) => nd_b2 (df_X16_signed n ((((q108 ||| q111) ||| q114) ||| q117)) (21) ()) (fun (q120 : Int32) (s121 : Unit) => nd_let (((pI s105.1 10 ((sR s105.1 10 (Int32.toNatClampNeg (sI s105.1 12))) + q120)), s105.2)) (fun (s123 : St × (St)) => df_X16_carry_562 n  s123))))))))) else (if (nI (W % 128)) = 115 then (nd_b2 (df_X16_system n ((nI W)) ((nI (W / 4096 % 8))) X) (fun (q125 : Int32) (s126 : St × (St)) => nd_b1 (df_X16_become n ((nI (W / 128 % 32))) (q125) s126) (fun (s129 : St × (St)) => df_X16_carry_562 n  s129))) else (nd_b2 (df_X16_illegal n  X) (fun (q131 : Int32) (s132 : St × (St)) => df_X16_carry_562 n  s132))))))))))))) := by
  have i1 : (32 * sI X.1 12) + nI (W / 32768 % 32) = nI (32 * p + W / 32768 % 32) := by rw [a3]; exact (congrArg (fun z => z + nI (W / 32768 % 32)) (pk_mul 32 p)).trans (nI_add _ _)
  have i2 : (32 * sI X.1 12) + nI (W / 1048576 % 32) = nI (32 * p + W / 1048576 % 32) := by rw [a3]; exact (congrArg (fun z => z + nI (W / 1048576 % 32)) (pk_mul 32 p)).trans (nI_add _ _)
  show df_X16_carry_0 n (nI W) X = _
  unfold df_X16_carry_0
  rw [pt7 n hW, nb_b2, pt12 n hW, nb_b2, pt15 n hW, nb_b2, i1, nm_ck (by omega) (by omega), nI_clamp (by omega), hva, nb_let, pt20 n hW, nb_b2, i2, nm_ck (by omega) (by omega), nI_clamp (by omega), hvb, nb_let, pt25 n hW, nb_b2, nb_let, pt0 n hW, nb_b2]
theorem wk_3 (n : Nat) (hn : 1024 < n) {p : Nat} {s : St × (St × St)} {X : St × St} (h : rHt p s X) {W : Nat} (hW : W < 2 ^ 32) (c3 : W % 128 = 3) : ∃ (t : Int32) (s' : St × (St × St)) (X' : St × St), df_X4_work n (nI W) s = some (t, s') ∧ df_X16_carry n (nI W) X = some X' ∧ oH p s X t s' X' := by
  have h0 := h
  obtain ⟨hp, a1, a2, a3, a4, a5, a6, a7, a8, a9, a10, a11, a12, a13, a14⟩ := h
  have ea := a7 (W / 32768 % 32) (by omega)
  have eb := a7 (W / 1048576 % 32) (by omega)
  have es := fun v => nk_set n hp a2 hW v
  have bec := fun v => nk_bec n hp a3 a6 (d := W / 128 % 32) (by omega) v
  have bec0 : ∀ (me : Nat) (v : Int32), 0 < me → me < 9 → df_X16_become n (nI (W / 128 % 32)) v (pI X.1 11 (nI me), X.2) = some (pI X.1 11 (nI me), X.2) := fun me v m1 m2 => nk_bec0 n (X := (pI X.1 11 (nI me), X.2)) rfl m1 m2 _ _
  have hg : W / 33554432 % 128 = W / 33554432 := by omega
  have hi : tm (nI 4) 2 := Or.inr (Or.inl ⟨rfl, rfl⟩)
  have hva : sR X.1 9 (32 * p + W / 32768 % 32) = sR s.2.1 3 (p * 33 + W / 32768 % 32) := ea.symm
  have hvb : sR X.1 9 (32 * p + W / 1048576 % 32) = sR s.2.1 3 (p * 33 + W / 1048576 % 32) := eb.symm
  generalize sR s.2.1 3 (p * 33 + W / 32768 % 32) = va at hva
  generalize sR s.2.1 3 (p * 33 + W / 1048576 % 32) = vb at hvb
  rw [hva] at ea
  rw [hvb] at eb
  have u1 : p * 33 + W / 32768 % 32 < 528 := by omega
  have u2 : p * 33 + W / 1048576 % 32 < 528 := by omega
  have u3 : p * 33 + W / 32768 % 32 < 2 ^ 31 := by omega
  have u4 : p * 33 + W / 1048576 % 32 < 2 ^ 31 := by omega
  have u5 : 32 * p + W / 32768 % 32 < 512 := by omega
  have u6 : 32 * p + W / 1048576 % 32 < 512 := by omega
  have u7 : 32 * p + W / 32768 % 32 < 2 ^ 31 := by omega
  have u8 : 32 * p + W / 1048576 % 32 < 2 ^ 31 := by omega
  have u9 : W / 4096 % 8 < 2 ^ 31 := by omega
  have u10 : W / 33554432 < 2 ^ 31 := by omega
  have u11 : W / 33554432 < 2 ^ 32 := by omega
  have u12 : p < 2 ^ 31 := by omega
  obtain ⟨A, hA, eA⟩ := nI_ex (va + (nI W >>> nI 20))
  obtain ⟨t, s', X', e1, e2, o⟩ := vO_h n h0 (nk_load n hn h0 hW (f := W / 4096 % 8) (by omega) hA)
  refine ⟨t, s', X', ?_, ?_, o⟩
  · simp (disch := (first | assumption | decide | omega)) only [df_X4_work, df_X4_work_0, a2, ea, eb, c3, eA, eq_self, Nat.reduceEqDiff, Nat.reduceLeDiff, nl_0, nl_1, nl_2, nl_3, nl_4, nl_5, nl_7, nl_12, nl_15, nl_19, nl_20, nl_23, nl_25, nl_31, nl_35, nl_47, nl_51, nl_55, nl_99, nl_103, nl_111, nl_115, nl_127, nl_528, nl_4096, no_1, no_1024, pk_mul, nI_add, nm_ck, nI_clamp, nI_ltI, nI_leI, nI_eq, nb_b2, nb_b1, ↓nb_let, nm_z0, nm_z1, nb_II, nb_IR, nb_RI, nb_RR, nm_IL, nm_IQ, nm_RL, nm_RQ, nm_LI, nm_LR, nm_LL, nm_LQ, nm_QI, nm_QR, nm_QL, nm_QQ, nm_rr, nm_ii, nm_eqm, not_false_eq_true, pk_sub, nm_div, nm_shl, nm_shr, nm_ush, nm_or8, nm_or64, nm_or256, nm_m1, nm_m3, nm_m7, nm_m15, nm_m31, nm_m63, nm_m255, nm_m511, nm_m1023, nm_m2047, nm_m65535, Nat.reduceMod, Nat.reducePow, Nat.reduceAdd, Nat.reduceSub, Nat.reduceMul, nm_bo, nm_bi, nm_rc, nm_ic, nm_ri, nm_rl, nm_rq, nm_ql, nm_qi, nm_li, nm_us, nm_uu, nm_cp, nm_sa31, nm_sa7, nm_m127, nm_m2, nm_nz, nm_nzk, nm_eq32, nm_nzf, if_true, if_false, ↓reduceIte, if_pos, if_neg]
    exact e1
  · (rw [wk_sw n hp a3 hW hva hvb]; simp (disch := (first | assumption | decide | omega)) only [df_X16_carry_562, a3, hva, hvb, c3, eA, eq_self, Nat.reduceEqDiff, Nat.reduceLeDiff, nl_0, nl_1, nl_2, nl_3, nl_5, nl_8, nl_10, nl_11, nl_12, nl_15, nl_16, nl_19, nl_20, nl_21, nl_23, nl_31, nl_32, nl_35, nl_47, nl_51, nl_55, nl_99, nl_103, nl_111, nl_115, nl_4096, no_1, no_1024, pk_mul, nI_add, nm_ck, nI_clamp, nI_ltI, nI_leI, nI_eq, nb_b2, nb_b1, ↓nb_let, nm_z0, nm_z1, nb_II, nb_IR, nb_RI, nb_RR, nm_IL, nm_IQ, nm_RL, nm_RQ, nm_LI, nm_LR, nm_LL, nm_LQ, nm_QI, nm_QR, nm_QL, nm_QQ, nm_rr, nm_ii, nm_eqm, not_false_eq_true, pk_sub, nm_div, nm_shl, nm_shr, nm_ush, nm_or8, nm_or64, nm_or256, nm_m1, nm_m3, nm_m7, nm_m15, nm_m31, nm_m63, nm_m255, nm_m511, nm_m1023, nm_m2047, nm_m65535, Nat.reduceMod, Nat.reducePow, Nat.reduceAdd, Nat.reduceSub, Nat.reduceMul, nm_bo, nm_bi, nm_rc, nm_ic, nm_ri, nm_rl, nm_rq, nm_ql, nm_qi, nm_li, nm_us, nm_uu, nm_cp, nm_sa31, nm_sa7, nm_m127, nm_m2, nm_nz, nm_nzk, nm_eq32, nm_nzf, if_true, if_false, ↓reduceIte, if_pos, if_neg])
    exact e2
theorem wk_15 (n : Nat) (hn : 1024 < n) {p : Nat} {s : St × (St × St)} {X : St × St} (h : rHt p s X) {W : Nat} (hW : W < 2 ^ 32) (c15 : W % 128 = 15) : ∃ (t : Int32) (s' : St × (St × St)) (X' : St × St), df_X4_work n (nI W) s = some (t, s') ∧ df_X16_carry n (nI W) X = some X' ∧ oH p s X t s' X' := by
  have h0 := h
  obtain ⟨hp, a1, a2, a3, a4, a5, a6, a7, a8, a9, a10, a11, a12, a13, a14⟩ := h
  have ea := a7 (W / 32768 % 32) (by omega)
  have eb := a7 (W / 1048576 % 32) (by omega)
  have es := fun v => nk_set n hp a2 hW v
  have bec := fun v => nk_bec n hp a3 a6 (d := W / 128 % 32) (by omega) v
  have bec0 : ∀ (me : Nat) (v : Int32), 0 < me → me < 9 → df_X16_become n (nI (W / 128 % 32)) v (pI X.1 11 (nI me), X.2) = some (pI X.1 11 (nI me), X.2) := fun me v m1 m2 => nk_bec0 n (X := (pI X.1 11 (nI me), X.2)) rfl m1 m2 _ _
  have hg : W / 33554432 % 128 = W / 33554432 := by omega
  have hi : tm (nI 4) 2 := Or.inr (Or.inl ⟨rfl, rfl⟩)
  have hva : sR X.1 9 (32 * p + W / 32768 % 32) = sR s.2.1 3 (p * 33 + W / 32768 % 32) := ea.symm
  have hvb : sR X.1 9 (32 * p + W / 1048576 % 32) = sR s.2.1 3 (p * 33 + W / 1048576 % 32) := eb.symm
  generalize sR s.2.1 3 (p * 33 + W / 32768 % 32) = va at hva
  generalize sR s.2.1 3 (p * 33 + W / 1048576 % 32) = vb at hvb
  rw [hva] at ea
  rw [hvb] at eb
  have u1 : p * 33 + W / 32768 % 32 < 528 := by omega
  have u2 : p * 33 + W / 1048576 % 32 < 528 := by omega
  have u3 : p * 33 + W / 32768 % 32 < 2 ^ 31 := by omega
  have u4 : p * 33 + W / 1048576 % 32 < 2 ^ 31 := by omega
  have u5 : 32 * p + W / 32768 % 32 < 512 := by omega
  have u6 : 32 * p + W / 1048576 % 32 < 512 := by omega
  have u7 : 32 * p + W / 32768 % 32 < 2 ^ 31 := by omega
  have u8 : 32 * p + W / 1048576 % 32 < 2 ^ 31 := by omega
  have u9 : W / 4096 % 8 < 2 ^ 31 := by omega
  have u10 : W / 33554432 < 2 ^ 31 := by omega
  have u11 : W / 33554432 < 2 ^ 32 := by omega
  have u12 : p < 2 ^ 31 := by omega
  by_cases cf : W / 4096 % 8 ≤ 1
  · have cf' : ¬ 1 < W / 4096 % 8 := by omega
    exact ⟨nI 0, s, X, by simp (disch := (first | assumption | decide | omega)) only [df_X4_work, df_X4_work_0, df_X4_work_346, a2, ea, eb, c15, cf', eq_self, Nat.reduceEqDiff, Nat.reduceLeDiff, nl_0, nl_1, nl_2, nl_3, nl_4, nl_5, nl_7, nl_12, nl_15, nl_19, nl_20, nl_23, nl_25, nl_31, nl_35, nl_47, nl_51, nl_55, nl_99, nl_103, nl_111, nl_115, nl_127, nl_528, nl_4096, no_1, no_1024, pk_mul, nI_add, nm_ck, nI_clamp, nI_ltI, nI_leI, nI_eq, nb_b2, nb_b1, ↓nb_let, nm_z0, nm_z1, nb_II, nb_IR, nb_RI, nb_RR, nm_IL, nm_IQ, nm_RL, nm_RQ, nm_LI, nm_LR, nm_LL, nm_LQ, nm_QI, nm_QR, nm_QL, nm_QQ, nm_rr, nm_ii, nm_eqm, not_false_eq_true, pk_sub, nm_div, nm_shl, nm_shr, nm_ush, nm_or8, nm_or64, nm_or256, nm_m1, nm_m3, nm_m7, nm_m15, nm_m31, nm_m63, nm_m255, nm_m511, nm_m1023, nm_m2047, nm_m65535, Nat.reduceMod, Nat.reducePow, Nat.reduceAdd, Nat.reduceSub, Nat.reduceMul, nm_bo, nm_bi, nm_rc, nm_ic, nm_ri, nm_rl, nm_rq, nm_ql, nm_qi, nm_li, nm_us, nm_uu, nm_cp, nm_sa31, nm_sa7, nm_m127, nm_m2, nm_nz, nm_nzk, nm_eq32, nm_nzf, if_true, if_false, ↓reduceIte, if_pos, if_neg], by (rw [wk_sw n hp a3 hW hva hvb]; simp (disch := (first | assumption | decide | omega)) only [df_X16_carry_562, a3, hva, hvb, c15, cf, eq_self, Nat.reduceEqDiff, Nat.reduceLeDiff, nl_0, nl_1, nl_2, nl_3, nl_5, nl_8, nl_10, nl_11, nl_12, nl_15, nl_16, nl_19, nl_20, nl_21, nl_23, nl_31, nl_32, nl_35, nl_47, nl_51, nl_55, nl_99, nl_103, nl_111, nl_115, nl_4096, no_1, no_1024, pk_mul, nI_add, nm_ck, nI_clamp, nI_ltI, nI_leI, nI_eq, nb_b2, nb_b1, ↓nb_let, nm_z0, nm_z1, nb_II, nb_IR, nb_RI, nb_RR, nm_IL, nm_IQ, nm_RL, nm_RQ, nm_LI, nm_LR, nm_LL, nm_LQ, nm_QI, nm_QR, nm_QL, nm_QQ, nm_rr, nm_ii, nm_eqm, not_false_eq_true, pk_sub, nm_div, nm_shl, nm_shr, nm_ush, nm_or8, nm_or64, nm_or256, nm_m1, nm_m3, nm_m7, nm_m15, nm_m31, nm_m63, nm_m255, nm_m511, nm_m1023, nm_m2047, nm_m65535, Nat.reduceMod, Nat.reducePow, Nat.reduceAdd, Nat.reduceSub, Nat.reduceMul, nm_bo, nm_bi, nm_rc, nm_ic, nm_ri, nm_rl, nm_rq, nm_ql, nm_qi, nm_li, nm_us, nm_uu, nm_cp, nm_sa31, nm_sa7, nm_m127, nm_m2, nm_nz, nm_nzk, nm_eq32, nm_nzf, if_true, if_false, ↓reduceIte, if_pos, if_neg]), oH_0 h0⟩
  · have cf' : 1 < W / 4096 % 8 := by omega
    exact ⟨nI 4, s, (pI X.1 11 (nI 2), X.2), by simp (disch := (first | assumption | decide | omega)) only [df_X4_work, df_X4_work_0, df_X4_work_346, a2, ea, eb, c15, cf', eq_self, Nat.reduceEqDiff, Nat.reduceLeDiff, nl_0, nl_1, nl_2, nl_3, nl_4, nl_5, nl_7, nl_12, nl_15, nl_19, nl_20, nl_23, nl_25, nl_31, nl_35, nl_47, nl_51, nl_55, nl_99, nl_103, nl_111, nl_115, nl_127, nl_528, nl_4096, no_1, no_1024, pk_mul, nI_add, nm_ck, nI_clamp, nI_ltI, nI_leI, nI_eq, nb_b2, nb_b1, ↓nb_let, nm_z0, nm_z1, nb_II, nb_IR, nb_RI, nb_RR, nm_IL, nm_IQ, nm_RL, nm_RQ, nm_LI, nm_LR, nm_LL, nm_LQ, nm_QI, nm_QR, nm_QL, nm_QQ, nm_rr, nm_ii, nm_eqm, not_false_eq_true, pk_sub, nm_div, nm_shl, nm_shr, nm_ush, nm_or8, nm_or64, nm_or256, nm_m1, nm_m3, nm_m7, nm_m15, nm_m31, nm_m63, nm_m255, nm_m511, nm_m1023, nm_m2047, nm_m65535, Nat.reduceMod, Nat.reducePow, Nat.reduceAdd, Nat.reduceSub, Nat.reduceMul, nm_bo, nm_bi, nm_rc, nm_ic, nm_ri, nm_rl, nm_rq, nm_ql, nm_qi, nm_li, nm_us, nm_uu, nm_cp, nm_sa31, nm_sa7, nm_m127, nm_m2, nm_nz, nm_nzk, nm_eq32, nm_nzf, if_true, if_false, ↓reduceIte, if_pos, if_neg], by (rw [wk_sw n hp a3 hW hva hvb]; simp (disch := (first | assumption | decide | omega)) only [df_X16_carry_562, df_X16_illegal_0, df_X16_illegal, df_X16_meet_0, df_X16_meet, a3, hva, hvb, c15, cf, eq_self, Nat.reduceEqDiff, Nat.reduceLeDiff, nl_0, nl_1, nl_2, nl_3, nl_5, nl_8, nl_10, nl_11, nl_12, nl_15, nl_16, nl_19, nl_20, nl_21, nl_23, nl_31, nl_32, nl_35, nl_47, nl_51, nl_55, nl_99, nl_103, nl_111, nl_115, nl_4096, no_1, no_1024, pk_mul, nI_add, nm_ck, nI_clamp, nI_ltI, nI_leI, nI_eq, nb_b2, nb_b1, ↓nb_let, nm_z0, nm_z1, nb_II, nb_IR, nb_RI, nb_RR, nm_IL, nm_IQ, nm_RL, nm_RQ, nm_LI, nm_LR, nm_LL, nm_LQ, nm_QI, nm_QR, nm_QL, nm_QQ, nm_rr, nm_ii, nm_eqm, not_false_eq_true, pk_sub, nm_div, nm_shl, nm_shr, nm_ush, nm_or8, nm_or64, nm_or256, nm_m1, nm_m3, nm_m7, nm_m15, nm_m31, nm_m63, nm_m255, nm_m511, nm_m1023, nm_m2047, nm_m65535, Nat.reduceMod, Nat.reducePow, Nat.reduceAdd, Nat.reduceSub, Nat.reduceMul, nm_bo, nm_bi, nm_rc, nm_ic, nm_ri, nm_rl, nm_rq, nm_ql, nm_qi, nm_li, nm_us, nm_uu, nm_cp, nm_sa31, nm_sa7, nm_m127, nm_m2, nm_nz, nm_nzk, nm_eq32, nm_nzf, if_true, if_false, ↓reduceIte, if_pos, if_neg]), oH_t hi⟩
theorem wk_19 (n : Nat) (hn : 1024 < n) {p : Nat} {s : St × (St × St)} {X : St × St} (h : rHt p s X) {W : Nat} (hW : W < 2 ^ 32) (c19 : W % 128 = 19) : ∃ (t : Int32) (s' : St × (St × St)) (X' : St × St), df_X4_work n (nI W) s = some (t, s') ∧ df_X16_carry n (nI W) X = some X' ∧ oH p s X t s' X' := by
  have h0 := h
  obtain ⟨hp, a1, a2, a3, a4, a5, a6, a7, a8, a9, a10, a11, a12, a13, a14⟩ := h
  have ea := a7 (W / 32768 % 32) (by omega)
  have eb := a7 (W / 1048576 % 32) (by omega)
  have es := fun v => nk_set n hp a2 hW v
  have bec := fun v => nk_bec n hp a3 a6 (d := W / 128 % 32) (by omega) v
  have bec0 : ∀ (me : Nat) (v : Int32), 0 < me → me < 9 → df_X16_become n (nI (W / 128 % 32)) v (pI X.1 11 (nI me), X.2) = some (pI X.1 11 (nI me), X.2) := fun me v m1 m2 => nk_bec0 n (X := (pI X.1 11 (nI me), X.2)) rfl m1 m2 _ _
  have hg : W / 33554432 % 128 = W / 33554432 := by omega
  have hi : tm (nI 4) 2 := Or.inr (Or.inl ⟨rfl, rfl⟩)
  have hva : sR X.1 9 (32 * p + W / 32768 % 32) = sR s.2.1 3 (p * 33 + W / 32768 % 32) := ea.symm
  have hvb : sR X.1 9 (32 * p + W / 1048576 % 32) = sR s.2.1 3 (p * 33 + W / 1048576 % 32) := eb.symm
  generalize sR s.2.1 3 (p * 33 + W / 32768 % 32) = va at hva
  generalize sR s.2.1 3 (p * 33 + W / 1048576 % 32) = vb at hvb
  rw [hva] at ea
  rw [hvb] at eb
  have u1 : p * 33 + W / 32768 % 32 < 528 := by omega
  have u2 : p * 33 + W / 1048576 % 32 < 528 := by omega
  have u3 : p * 33 + W / 32768 % 32 < 2 ^ 31 := by omega
  have u4 : p * 33 + W / 1048576 % 32 < 2 ^ 31 := by omega
  have u5 : 32 * p + W / 32768 % 32 < 512 := by omega
  have u6 : 32 * p + W / 1048576 % 32 < 512 := by omega
  have u7 : 32 * p + W / 32768 % 32 < 2 ^ 31 := by omega
  have u8 : 32 * p + W / 1048576 % 32 < 2 ^ 31 := by omega
  have u9 : W / 4096 % 8 < 2 ^ 31 := by omega
  have u10 : W / 33554432 < 2 ^ 31 := by omega
  have u11 : W / 33554432 < 2 ^ 32 := by omega
  have u12 : p < 2 ^ 31 := by omega
  have pt20' : df_X16_part n (nI W) (nI 20) (nI 5) () = some (nI (W / 1048576 % 32), ()) := pt20 n hW
  obtain ⟨w1, w2⟩ := nk_wn n h0 hW (f := W / 4096 % 8) (by omega) va
  by_cases cf : W / 4096 % 8 = 1 ∨ W / 4096 % 8 = 5
  · obtain ⟨t, s', X', e1, e2, o⟩ := vO_h n h0 (w1 cf)
    refine ⟨t, s', X', ?_, ?_, o⟩
    · simp (disch := (first | assumption | decide | omega)) only [df_X4_work, df_X4_work_0, a2, ea, eb, c19, eq_self, Nat.reduceEqDiff, Nat.reduceLeDiff, nl_0, nl_1, nl_2, nl_3, nl_4, nl_5, nl_7, nl_12, nl_15, nl_19, nl_20, nl_23, nl_25, nl_31, nl_35, nl_47, nl_51, nl_55, nl_99, nl_103, nl_111, nl_115, nl_127, nl_528, nl_4096, no_1, no_1024, pk_mul, nI_add, nm_ck, nI_clamp, nI_ltI, nI_leI, nI_eq, nb_b2, nb_b1, ↓nb_let, nm_z0, nm_z1, nb_II, nb_IR, nb_RI, nb_RR, nm_IL, nm_IQ, nm_RL, nm_RQ, nm_LI, nm_LR, nm_LL, nm_LQ, nm_QI, nm_QR, nm_QL, nm_QQ, nm_rr, nm_ii, nm_eqm, not_false_eq_true, pk_sub, nm_div, nm_shl, nm_shr, nm_ush, nm_or8, nm_or64, nm_or256, nm_m1, nm_m3, nm_m7, nm_m15, nm_m31, nm_m63, nm_m255, nm_m511, nm_m1023, nm_m2047, nm_m65535, Nat.reduceMod, Nat.reducePow, Nat.reduceAdd, Nat.reduceSub, Nat.reduceMul, nm_bo, nm_bi, nm_rc, nm_ic, nm_ri, nm_rl, nm_rq, nm_ql, nm_qi, nm_li, nm_us, nm_uu, nm_cp, nm_sa31, nm_sa7, nm_m127, nm_m2, nm_nz, nm_nzk, nm_eq32, nm_nzf, if_true, if_false, ↓reduceIte, if_pos, if_neg]
      exact e1
    · rcases cf with cf | cf
      · rw [cf] at e2
        (rw [wk_sw n hp a3 hW hva hvb]; simp (disch := (first | assumption | decide | omega)) only [df_X16_carry_391, df_X16_carry_418, df_X16_carry_562, a3, hva, hvb, c19, cf, hg, pt20', eq_self, Nat.reduceEqDiff, Nat.reduceLeDiff, nl_0, nl_1, nl_2, nl_3, nl_5, nl_8, nl_10, nl_11, nl_12, nl_15, nl_16, nl_19, nl_20, nl_21, nl_23, nl_31, nl_32, nl_35, nl_47, nl_51, nl_55, nl_99, nl_103, nl_111, nl_115, nl_4096, no_1, no_1024, pk_mul, nI_add, nm_ck, nI_clamp, nI_ltI, nI_leI, nI_eq, nb_b2, nb_b1, ↓nb_let, nm_z0, nm_z1, nb_II, nb_IR, nb_RI, nb_RR, nm_IL, nm_IQ, nm_RL, nm_RQ, nm_LI, nm_LR, nm_LL, nm_LQ, nm_QI, nm_QR, nm_QL, nm_QQ, nm_rr, nm_ii, nm_eqm, not_false_eq_true, pk_sub, nm_div, nm_shl, nm_shr, nm_ush, nm_or8, nm_or64, nm_or256, nm_m1, nm_m3, nm_m7, nm_m15, nm_m31, nm_m63, nm_m255, nm_m511, nm_m1023, nm_m2047, nm_m65535, Nat.reduceMod, Nat.reducePow, Nat.reduceAdd, Nat.reduceSub, Nat.reduceMul, nm_bo, nm_bi, nm_rc, nm_ic, nm_ri, nm_rl, nm_rq, nm_ql, nm_qi, nm_li, nm_us, nm_uu, nm_cp, nm_sa31, nm_sa7, nm_m127, nm_m2, nm_nz, nm_nzk, nm_eq32, nm_nzf, if_true, if_false, ↓reduceIte, if_pos, if_neg])
        exact e2
      · rw [cf] at e2
        (rw [wk_sw n hp a3 hW hva hvb]; simp (disch := (first | assumption | decide | omega)) only [df_X16_carry_391, df_X16_carry_418, df_X16_carry_562, a3, hva, hvb, c19, cf, hg, pt20', eq_self, Nat.reduceEqDiff, Nat.reduceLeDiff, nl_0, nl_1, nl_2, nl_3, nl_5, nl_8, nl_10, nl_11, nl_12, nl_15, nl_16, nl_19, nl_20, nl_21, nl_23, nl_31, nl_32, nl_35, nl_47, nl_51, nl_55, nl_99, nl_103, nl_111, nl_115, nl_4096, no_1, no_1024, pk_mul, nI_add, nm_ck, nI_clamp, nI_ltI, nI_leI, nI_eq, nb_b2, nb_b1, ↓nb_let, nm_z0, nm_z1, nb_II, nb_IR, nb_RI, nb_RR, nm_IL, nm_IQ, nm_RL, nm_RQ, nm_LI, nm_LR, nm_LL, nm_LQ, nm_QI, nm_QR, nm_QL, nm_QQ, nm_rr, nm_ii, nm_eqm, not_false_eq_true, pk_sub, nm_div, nm_shl, nm_shr, nm_ush, nm_or8, nm_or64, nm_or256, nm_m1, nm_m3, nm_m7, nm_m15, nm_m31, nm_m63, nm_m255, nm_m511, nm_m1023, nm_m2047, nm_m65535, Nat.reduceMod, Nat.reducePow, Nat.reduceAdd, Nat.reduceSub, Nat.reduceMul, nm_bo, nm_bi, nm_rc, nm_ic, nm_ri, nm_rl, nm_rq, nm_ql, nm_qi, nm_li, nm_us, nm_uu, nm_cp, nm_sa31, nm_sa7, nm_m127, nm_m2, nm_nz, nm_nzk, nm_eq32, nm_nzf, if_true, if_false, ↓reduceIte, if_pos, if_neg])
        exact e2
  · obtain ⟨v, e1, e2⟩ := w2 cf
    have f1 : ¬ W / 4096 % 8 = 1 := fun z => cf (Or.inl z)
    have f5 : ¬ W / 4096 % 8 = 5 := fun z => cf (Or.inr z)
    exact ⟨nI 0, _, _, by (simp (disch := (first | assumption | decide | omega)) only [df_X4_work, df_X4_work_0, a2, ea, eb, c19, e1, eq_self, Nat.reduceEqDiff, Nat.reduceLeDiff, nl_0, nl_1, nl_2, nl_3, nl_4, nl_5, nl_7, nl_12, nl_15, nl_19, nl_20, nl_23, nl_25, nl_31, nl_35, nl_47, nl_51, nl_55, nl_99, nl_103, nl_111, nl_115, nl_127, nl_528, nl_4096, no_1, no_1024, pk_mul, nI_add, nm_ck, nI_clamp, nI_ltI, nI_leI, nI_eq, nb_b2, nb_b1, ↓nb_let, nm_z0, nm_z1, nb_II, nb_IR, nb_RI, nb_RR, nm_IL, nm_IQ, nm_RL, nm_RQ, nm_LI, nm_LR, nm_LL, nm_LQ, nm_QI, nm_QR, nm_QL, nm_QQ, nm_rr, nm_ii, nm_eqm, not_false_eq_true, pk_sub, nm_div, nm_shl, nm_shr, nm_ush, nm_or8, nm_or64, nm_or256, nm_m1, nm_m3, nm_m7, nm_m15, nm_m31, nm_m63, nm_m255, nm_m511, nm_m1023, nm_m2047, nm_m65535, Nat.reduceMod, Nat.reducePow, Nat.reduceAdd, Nat.reduceSub, Nat.reduceMul, nm_bo, nm_bi, nm_rc, nm_ic, nm_ri, nm_rl, nm_rq, nm_ql, nm_qi, nm_li, nm_us, nm_uu, nm_cp, nm_sa31, nm_sa7, nm_m127, nm_m2, nm_nz, nm_nzk, nm_eq32, nm_nzf, if_true, if_false, ↓reduceIte, if_pos, if_neg] <;> rfl), by ((rw [wk_sw n hp a3 hW hva hvb]; simp (disch := (first | assumption | decide | omega)) only [df_X16_carry_418, df_X16_carry_562, a3, hva, hvb, c19, f1, f5, e2, bec, eq_self, Nat.reduceEqDiff, Nat.reduceLeDiff, nl_0, nl_1, nl_2, nl_3, nl_5, nl_8, nl_10, nl_11, nl_12, nl_15, nl_16, nl_19, nl_20, nl_21, nl_23, nl_31, nl_32, nl_35, nl_47, nl_51, nl_55, nl_99, nl_103, nl_111, nl_115, nl_4096, no_1, no_1024, pk_mul, nI_add, nm_ck, nI_clamp, nI_ltI, nI_leI, nI_eq, nb_b2, nb_b1, ↓nb_let, nm_z0, nm_z1, nb_II, nb_IR, nb_RI, nb_RR, nm_IL, nm_IQ, nm_RL, nm_RQ, nm_LI, nm_LR, nm_LL, nm_LQ, nm_QI, nm_QR, nm_QL, nm_QQ, nm_rr, nm_ii, nm_eqm, not_false_eq_true, pk_sub, nm_div, nm_shl, nm_shr, nm_ush, nm_or8, nm_or64, nm_or256, nm_m1, nm_m3, nm_m7, nm_m15, nm_m31, nm_m63, nm_m255, nm_m511, nm_m1023, nm_m2047, nm_m65535, Nat.reduceMod, Nat.reducePow, Nat.reduceAdd, Nat.reduceSub, Nat.reduceMul, nm_bo, nm_bi, nm_rc, nm_ic, nm_ri, nm_rl, nm_rq, nm_ql, nm_qi, nm_li, nm_us, nm_uu, nm_cp, nm_sa31, nm_sa7, nm_m127, nm_m2, nm_nz, nm_nzk, nm_eq32, nm_nzf, if_true, if_false, ↓reduceIte, if_pos, if_neg]) <;> rfl), oH_v h0 (by omega) v⟩
theorem wk_23 (n : Nat) (hn : 1024 < n) {p : Nat} {s : St × (St × St)} {X : St × St} (h : rHt p s X) {W : Nat} (hW : W < 2 ^ 32) (c23 : W % 128 = 23) : ∃ (t : Int32) (s' : St × (St × St)) (X' : St × St), df_X4_work n (nI W) s = some (t, s') ∧ df_X16_carry n (nI W) X = some X' ∧ oH p s X t s' X' := by
  have h0 := h
  obtain ⟨hp, a1, a2, a3, a4, a5, a6, a7, a8, a9, a10, a11, a12, a13, a14⟩ := h
  have ea := a7 (W / 32768 % 32) (by omega)
  have eb := a7 (W / 1048576 % 32) (by omega)
  have es := fun v => nk_set n hp a2 hW v
  have bec := fun v => nk_bec n hp a3 a6 (d := W / 128 % 32) (by omega) v
  have bec0 : ∀ (me : Nat) (v : Int32), 0 < me → me < 9 → df_X16_become n (nI (W / 128 % 32)) v (pI X.1 11 (nI me), X.2) = some (pI X.1 11 (nI me), X.2) := fun me v m1 m2 => nk_bec0 n (X := (pI X.1 11 (nI me), X.2)) rfl m1 m2 _ _
  have hg : W / 33554432 % 128 = W / 33554432 := by omega
  have hi : tm (nI 4) 2 := Or.inr (Or.inl ⟨rfl, rfl⟩)
  have hva : sR X.1 9 (32 * p + W / 32768 % 32) = sR s.2.1 3 (p * 33 + W / 32768 % 32) := ea.symm
  have hvb : sR X.1 9 (32 * p + W / 1048576 % 32) = sR s.2.1 3 (p * 33 + W / 1048576 % 32) := eb.symm
  generalize sR s.2.1 3 (p * 33 + W / 32768 % 32) = va at hva
  generalize sR s.2.1 3 (p * 33 + W / 1048576 % 32) = vb at hvb
  rw [hva] at ea
  rw [hvb] at eb
  have u1 : p * 33 + W / 32768 % 32 < 528 := by omega
  have u2 : p * 33 + W / 1048576 % 32 < 528 := by omega
  have u3 : p * 33 + W / 32768 % 32 < 2 ^ 31 := by omega
  have u4 : p * 33 + W / 1048576 % 32 < 2 ^ 31 := by omega
  have u5 : 32 * p + W / 32768 % 32 < 512 := by omega
  have u6 : 32 * p + W / 1048576 % 32 < 512 := by omega
  have u7 : 32 * p + W / 32768 % 32 < 2 ^ 31 := by omega
  have u8 : 32 * p + W / 1048576 % 32 < 2 ^ 31 := by omega
  have u9 : W / 4096 % 8 < 2 ^ 31 := by omega
  have u10 : W / 33554432 < 2 ^ 31 := by omega
  have u11 : W / 33554432 < 2 ^ 32 := by omega
  have u12 : p < 2 ^ 31 := by omega
  exact ⟨nI 0, _, _, by (simp (disch := (first | assumption | decide | omega)) only [df_X4_work, df_X4_work_0, a2, ea, eb, c23, a4, es, eq_self, Nat.reduceEqDiff, Nat.reduceLeDiff, nl_0, nl_1, nl_2, nl_3, nl_4, nl_5, nl_7, nl_12, nl_15, nl_19, nl_20, nl_23, nl_25, nl_31, nl_35, nl_47, nl_51, nl_55, nl_99, nl_103, nl_111, nl_115, nl_127, nl_528, nl_4096, no_1, no_1024, pk_mul, nI_add, nm_ck, nI_clamp, nI_ltI, nI_leI, nI_eq, nb_b2, nb_b1, ↓nb_let, nm_z0, nm_z1, nb_II, nb_IR, nb_RI, nb_RR, nm_IL, nm_IQ, nm_RL, nm_RQ, nm_LI, nm_LR, nm_LL, nm_LQ, nm_QI, nm_QR, nm_QL, nm_QQ, nm_rr, nm_ii, nm_eqm, not_false_eq_true, pk_sub, nm_div, nm_shl, nm_shr, nm_ush, nm_or8, nm_or64, nm_or256, nm_m1, nm_m3, nm_m7, nm_m15, nm_m31, nm_m63, nm_m255, nm_m511, nm_m1023, nm_m2047, nm_m65535, Nat.reduceMod, Nat.reducePow, Nat.reduceAdd, Nat.reduceSub, Nat.reduceMul, nm_bo, nm_bi, nm_rc, nm_ic, nm_ri, nm_rl, nm_rq, nm_ql, nm_qi, nm_li, nm_us, nm_uu, nm_cp, nm_sa31, nm_sa7, nm_m127, nm_m2, nm_nz, nm_nzk, nm_eq32, nm_nzf, if_true, if_false, ↓reduceIte, if_pos, if_neg] <;> rfl), by ((rw [wk_sw n hp a3 hW hva hvb]; simp (disch := (first | assumption | decide | omega)) only [df_X16_carry_562, a3, hva, hvb, c23, bec, eq_self, Nat.reduceEqDiff, Nat.reduceLeDiff, nl_0, nl_1, nl_2, nl_3, nl_5, nl_8, nl_10, nl_11, nl_12, nl_15, nl_16, nl_19, nl_20, nl_21, nl_23, nl_31, nl_32, nl_35, nl_47, nl_51, nl_55, nl_99, nl_103, nl_111, nl_115, nl_4096, no_1, no_1024, pk_mul, nI_add, nm_ck, nI_clamp, nI_ltI, nI_leI, nI_eq, nb_b2, nb_b1, ↓nb_let, nm_z0, nm_z1, nb_II, nb_IR, nb_RI, nb_RR, nm_IL, nm_IQ, nm_RL, nm_RQ, nm_LI, nm_LR, nm_LL, nm_LQ, nm_QI, nm_QR, nm_QL, nm_QQ, nm_rr, nm_ii, nm_eqm, not_false_eq_true, pk_sub, nm_div, nm_shl, nm_shr, nm_ush, nm_or8, nm_or64, nm_or256, nm_m1, nm_m3, nm_m7, nm_m15, nm_m31, nm_m63, nm_m255, nm_m511, nm_m1023, nm_m2047, nm_m65535, Nat.reduceMod, Nat.reducePow, Nat.reduceAdd, Nat.reduceSub, Nat.reduceMul, nm_bo, nm_bi, nm_rc, nm_ic, nm_ri, nm_rl, nm_rq, nm_ql, nm_qi, nm_li, nm_us, nm_uu, nm_cp, nm_sa31, nm_sa7, nm_m127, nm_m2, nm_nz, nm_nzk, nm_eq32, nm_nzf, if_true, if_false, ↓reduceIte, if_pos, if_neg]) <;> rfl), oH_v h0 (by omega) (sR X.1 10 p + (nI W &&& -nI 4096))⟩
theorem wk_35 (n : Nat) (hn : 1024 < n) {p : Nat} {s : St × (St × St)} {X : St × St} (h : rHt p s X) {W : Nat} (hW : W < 2 ^ 32) (c35 : W % 128 = 35) : ∃ (t : Int32) (s' : St × (St × St)) (X' : St × St), df_X4_work n (nI W) s = some (t, s') ∧ df_X16_carry n (nI W) X = some X' ∧ oH p s X t s' X' := by
  have h0 := h
  obtain ⟨hp, a1, a2, a3, a4, a5, a6, a7, a8, a9, a10, a11, a12, a13, a14⟩ := h
  have ea := a7 (W / 32768 % 32) (by omega)
  have eb := a7 (W / 1048576 % 32) (by omega)
  have es := fun v => nk_set n hp a2 hW v
  have bec := fun v => nk_bec n hp a3 a6 (d := W / 128 % 32) (by omega) v
  have bec0 : ∀ (me : Nat) (v : Int32), 0 < me → me < 9 → df_X16_become n (nI (W / 128 % 32)) v (pI X.1 11 (nI me), X.2) = some (pI X.1 11 (nI me), X.2) := fun me v m1 m2 => nk_bec0 n (X := (pI X.1 11 (nI me), X.2)) rfl m1 m2 _ _
  have hg : W / 33554432 % 128 = W / 33554432 := by omega
  have hi : tm (nI 4) 2 := Or.inr (Or.inl ⟨rfl, rfl⟩)
  have hva : sR X.1 9 (32 * p + W / 32768 % 32) = sR s.2.1 3 (p * 33 + W / 32768 % 32) := ea.symm
  have hvb : sR X.1 9 (32 * p + W / 1048576 % 32) = sR s.2.1 3 (p * 33 + W / 1048576 % 32) := eb.symm
  generalize sR s.2.1 3 (p * 33 + W / 32768 % 32) = va at hva
  generalize sR s.2.1 3 (p * 33 + W / 1048576 % 32) = vb at hvb
  rw [hva] at ea
  rw [hvb] at eb
  have u1 : p * 33 + W / 32768 % 32 < 528 := by omega
  have u2 : p * 33 + W / 1048576 % 32 < 528 := by omega
  have u3 : p * 33 + W / 32768 % 32 < 2 ^ 31 := by omega
  have u4 : p * 33 + W / 1048576 % 32 < 2 ^ 31 := by omega
  have u5 : 32 * p + W / 32768 % 32 < 512 := by omega
  have u6 : 32 * p + W / 1048576 % 32 < 512 := by omega
  have u7 : 32 * p + W / 32768 % 32 < 2 ^ 31 := by omega
  have u8 : 32 * p + W / 1048576 % 32 < 2 ^ 31 := by omega
  have u9 : W / 4096 % 8 < 2 ^ 31 := by omega
  have u10 : W / 33554432 < 2 ^ 31 := by omega
  have u11 : W / 33554432 < 2 ^ 32 := by omega
  have u12 : p < 2 ^ 31 := by omega
  obtain ⟨A, hA, eA⟩ := nI_ex (va + (((nI W >>> nI 20) &&& -nI 32) ||| nI (W / 128 % 32)))
  obtain ⟨t, s', X', e1, e2, o⟩ := nk_store n hn h0 (f := W / 4096 % 8) (by omega) hA vb
  exact ⟨t, s', X', by simp (disch := (first | assumption | decide | omega)) only [df_X4_work, df_X4_work_0, a2, ea, eb, c35, st_off, eA, e1, eq_self, Nat.reduceEqDiff, Nat.reduceLeDiff, nl_0, nl_1, nl_2, nl_3, nl_4, nl_5, nl_7, nl_12, nl_15, nl_19, nl_20, nl_23, nl_25, nl_31, nl_35, nl_47, nl_51, nl_55, nl_99, nl_103, nl_111, nl_115, nl_127, nl_528, nl_4096, no_1, no_1024, pk_mul, nI_add, nm_ck, nI_clamp, nI_ltI, nI_leI, nI_eq, nb_b2, nb_b1, ↓nb_let, nm_z0, nm_z1, nb_II, nb_IR, nb_RI, nb_RR, nm_IL, nm_IQ, nm_RL, nm_RQ, nm_LI, nm_LR, nm_LL, nm_LQ, nm_QI, nm_QR, nm_QL, nm_QQ, nm_rr, nm_ii, nm_eqm, not_false_eq_true, pk_sub, nm_div, nm_shl, nm_shr, nm_ush, nm_or8, nm_or64, nm_or256, nm_m1, nm_m3, nm_m7, nm_m15, nm_m31, nm_m63, nm_m255, nm_m511, nm_m1023, nm_m2047, nm_m65535, Nat.reduceMod, Nat.reducePow, Nat.reduceAdd, Nat.reduceSub, Nat.reduceMul, nm_bo, nm_bi, nm_rc, nm_ic, nm_ri, nm_rl, nm_rq, nm_ql, nm_qi, nm_li, nm_us, nm_uu, nm_cp, nm_sa31, nm_sa7, nm_m127, nm_m2, nm_nz, nm_nzk, nm_eq32, nm_nzf, if_true, if_false, ↓reduceIte, if_pos, if_neg], by (rw [wk_sw n hp a3 hW hva hvb]; simp (disch := (first | assumption | decide | omega)) only [df_X16_carry_562, a3, hva, hvb, c35, eA, e2, eq_self, Nat.reduceEqDiff, Nat.reduceLeDiff, nl_0, nl_1, nl_2, nl_3, nl_5, nl_8, nl_10, nl_11, nl_12, nl_15, nl_16, nl_19, nl_20, nl_21, nl_23, nl_31, nl_32, nl_35, nl_47, nl_51, nl_55, nl_99, nl_103, nl_111, nl_115, nl_4096, no_1, no_1024, pk_mul, nI_add, nm_ck, nI_clamp, nI_ltI, nI_leI, nI_eq, nb_b2, nb_b1, ↓nb_let, nm_z0, nm_z1, nb_II, nb_IR, nb_RI, nb_RR, nm_IL, nm_IQ, nm_RL, nm_RQ, nm_LI, nm_LR, nm_LL, nm_LQ, nm_QI, nm_QR, nm_QL, nm_QQ, nm_rr, nm_ii, nm_eqm, not_false_eq_true, pk_sub, nm_div, nm_shl, nm_shr, nm_ush, nm_or8, nm_or64, nm_or256, nm_m1, nm_m3, nm_m7, nm_m15, nm_m31, nm_m63, nm_m255, nm_m511, nm_m1023, nm_m2047, nm_m65535, Nat.reduceMod, Nat.reducePow, Nat.reduceAdd, Nat.reduceSub, Nat.reduceMul, nm_bo, nm_bi, nm_rc, nm_ic, nm_ri, nm_rl, nm_rq, nm_ql, nm_qi, nm_li, nm_us, nm_uu, nm_cp, nm_sa31, nm_sa7, nm_m127, nm_m2, nm_nz, nm_nzk, nm_eq32, nm_nzf, if_true, if_false, ↓reduceIte, if_pos, if_neg]), o⟩
theorem wk_47 (n : Nat) (hn : 1024 < n) {p : Nat} {s : St × (St × St)} {X : St × St} (h : rHt p s X) {W : Nat} (hW : W < 2 ^ 32) (c47 : W % 128 = 47) : ∃ (t : Int32) (s' : St × (St × St)) (X' : St × St), df_X4_work n (nI W) s = some (t, s') ∧ df_X16_carry n (nI W) X = some X' ∧ oH p s X t s' X' := by
  have h0 := h
  obtain ⟨hp, a1, a2, a3, a4, a5, a6, a7, a8, a9, a10, a11, a12, a13, a14⟩ := h
  have ea := a7 (W / 32768 % 32) (by omega)
  have eb := a7 (W / 1048576 % 32) (by omega)
  have es := fun v => nk_set n hp a2 hW v
  have bec := fun v => nk_bec n hp a3 a6 (d := W / 128 % 32) (by omega) v
  have bec0 : ∀ (me : Nat) (v : Int32), 0 < me → me < 9 → df_X16_become n (nI (W / 128 % 32)) v (pI X.1 11 (nI me), X.2) = some (pI X.1 11 (nI me), X.2) := fun me v m1 m2 => nk_bec0 n (X := (pI X.1 11 (nI me), X.2)) rfl m1 m2 _ _
  have hg : W / 33554432 % 128 = W / 33554432 := by omega
  have hi : tm (nI 4) 2 := Or.inr (Or.inl ⟨rfl, rfl⟩)
  have hva : sR X.1 9 (32 * p + W / 32768 % 32) = sR s.2.1 3 (p * 33 + W / 32768 % 32) := ea.symm
  have hvb : sR X.1 9 (32 * p + W / 1048576 % 32) = sR s.2.1 3 (p * 33 + W / 1048576 % 32) := eb.symm
  generalize sR s.2.1 3 (p * 33 + W / 32768 % 32) = va at hva
  generalize sR s.2.1 3 (p * 33 + W / 1048576 % 32) = vb at hvb
  rw [hva] at ea
  rw [hvb] at eb
  have u1 : p * 33 + W / 32768 % 32 < 528 := by omega
  have u2 : p * 33 + W / 1048576 % 32 < 528 := by omega
  have u3 : p * 33 + W / 32768 % 32 < 2 ^ 31 := by omega
  have u4 : p * 33 + W / 1048576 % 32 < 2 ^ 31 := by omega
  have u5 : 32 * p + W / 32768 % 32 < 512 := by omega
  have u6 : 32 * p + W / 1048576 % 32 < 512 := by omega
  have u7 : 32 * p + W / 32768 % 32 < 2 ^ 31 := by omega
  have u8 : 32 * p + W / 1048576 % 32 < 2 ^ 31 := by omega
  have u9 : W / 4096 % 8 < 2 ^ 31 := by omega
  have u10 : W / 33554432 < 2 ^ 31 := by omega
  have u11 : W / 33554432 < 2 ^ 32 := by omega
  have u12 : p < 2 ^ 31 := by omega
  have hk4 : W / 33554432 / 4 = W / 134217728 := by omega
  obtain ⟨A, hA, eA⟩ := nI_ex va
  rw [eA] at ea hva
  by_cases cf : W / 4096 % 8 = 2
  · obtain ⟨t, s', X', e1, e2, o⟩ := nk_atomic n hn h0 hW hA vb
    refine ⟨t, s', X', by simp (disch := (first | assumption | decide | omega)) only [df_X4_work, df_X4_work_0, df_X4_work_334, a2, ea, eb, c47, cf, e1, eq_self, Nat.reduceEqDiff, Nat.reduceLeDiff, nl_0, nl_1, nl_2, nl_3, nl_4, nl_5, nl_7, nl_12, nl_15, nl_19, nl_20, nl_23, nl_25, nl_31, nl_35, nl_47, nl_51, nl_55, nl_99, nl_103, nl_111, nl_115, nl_127, nl_528, nl_4096, no_1, no_1024, pk_mul, nI_add, nm_ck, nI_clamp, nI_ltI, nI_leI, nI_eq, nb_b2, nb_b1, ↓nb_let, nm_z0, nm_z1, nb_II, nb_IR, nb_RI, nb_RR, nm_IL, nm_IQ, nm_RL, nm_RQ, nm_LI, nm_LR, nm_LL, nm_LQ, nm_QI, nm_QR, nm_QL, nm_QQ, nm_rr, nm_ii, nm_eqm, not_false_eq_true, pk_sub, nm_div, nm_shl, nm_shr, nm_ush, nm_or8, nm_or64, nm_or256, nm_m1, nm_m3, nm_m7, nm_m15, nm_m31, nm_m63, nm_m255, nm_m511, nm_m1023, nm_m2047, nm_m65535, Nat.reduceMod, Nat.reducePow, Nat.reduceAdd, Nat.reduceSub, Nat.reduceMul, nm_bo, nm_bi, nm_rc, nm_ic, nm_ri, nm_rl, nm_rq, nm_ql, nm_qi, nm_li, nm_us, nm_uu, nm_cp, nm_sa31, nm_sa7, nm_m127, nm_m2, nm_nz, nm_nzk, nm_eq32, nm_nzf, if_true, if_false, ↓reduceIte, if_pos, if_neg], ?_, o⟩
    (rw [wk_sw n hp a3 hW hva hvb]; simp (disch := (first | assumption | decide | omega)) only [df_X16_carry_562, a3, hva, hvb, c47, cf, hg, hk4, eq_self, Nat.reduceEqDiff, Nat.reduceLeDiff, nl_0, nl_1, nl_2, nl_3, nl_5, nl_8, nl_10, nl_11, nl_12, nl_15, nl_16, nl_19, nl_20, nl_21, nl_23, nl_31, nl_32, nl_35, nl_47, nl_51, nl_55, nl_99, nl_103, nl_111, nl_115, nl_4096, no_1, no_1024, pk_mul, nI_add, nm_ck, nI_clamp, nI_ltI, nI_leI, nI_eq, nb_b2, nb_b1, ↓nb_let, nm_z0, nm_z1, nb_II, nb_IR, nb_RI, nb_RR, nm_IL, nm_IQ, nm_RL, nm_RQ, nm_LI, nm_LR, nm_LL, nm_LQ, nm_QI, nm_QR, nm_QL, nm_QQ, nm_rr, nm_ii, nm_eqm, not_false_eq_true, pk_sub, nm_div, nm_shl, nm_shr, nm_ush, nm_or8, nm_or64, nm_or256, nm_m1, nm_m3, nm_m7, nm_m15, nm_m31, nm_m63, nm_m255, nm_m511, nm_m1023, nm_m2047, nm_m65535, Nat.reduceMod, Nat.reducePow, Nat.reduceAdd, Nat.reduceSub, Nat.reduceMul, nm_bo, nm_bi, nm_rc, nm_ic, nm_ri, nm_rl, nm_rq, nm_ql, nm_qi, nm_li, nm_us, nm_uu, nm_cp, nm_sa31, nm_sa7, nm_m127, nm_m2, nm_nz, nm_nzk, nm_eq32, nm_nzf, if_true, if_false, ↓reduceIte, if_pos, if_neg])
    exact e2
  · have af := at_f n (nI W) (nI A) vb (f := W / 4096 % 8) (k := W / 134217728) (by omega) cf (by omega) X
    exact ⟨nI 4, s, (pI X.1 11 (nI 2), X.2), by simp (disch := (first | assumption | decide | omega)) only [df_X4_work, df_X4_work_0, df_X4_work_334, a2, ea, eb, c47, cf, eq_self, Nat.reduceEqDiff, Nat.reduceLeDiff, nl_0, nl_1, nl_2, nl_3, nl_4, nl_5, nl_7, nl_12, nl_15, nl_19, nl_20, nl_23, nl_25, nl_31, nl_35, nl_47, nl_51, nl_55, nl_99, nl_103, nl_111, nl_115, nl_127, nl_528, nl_4096, no_1, no_1024, pk_mul, nI_add, nm_ck, nI_clamp, nI_ltI, nI_leI, nI_eq, nb_b2, nb_b1, ↓nb_let, nm_z0, nm_z1, nb_II, nb_IR, nb_RI, nb_RR, nm_IL, nm_IQ, nm_RL, nm_RQ, nm_LI, nm_LR, nm_LL, nm_LQ, nm_QI, nm_QR, nm_QL, nm_QQ, nm_rr, nm_ii, nm_eqm, not_false_eq_true, pk_sub, nm_div, nm_shl, nm_shr, nm_ush, nm_or8, nm_or64, nm_or256, nm_m1, nm_m3, nm_m7, nm_m15, nm_m31, nm_m63, nm_m255, nm_m511, nm_m1023, nm_m2047, nm_m65535, Nat.reduceMod, Nat.reducePow, Nat.reduceAdd, Nat.reduceSub, Nat.reduceMul, nm_bo, nm_bi, nm_rc, nm_ic, nm_ri, nm_rl, nm_rq, nm_ql, nm_qi, nm_li, nm_us, nm_uu, nm_cp, nm_sa31, nm_sa7, nm_m127, nm_m2, nm_nz, nm_nzk, nm_eq32, nm_nzf, if_true, if_false, ↓reduceIte, if_pos, if_neg], by (rw [wk_sw n hp a3 hW hva hvb]; simp (disch := (first | assumption | decide | omega)) only [df_X16_carry_562, a3, hva, hvb, c47, hg, hk4, af, bec0, eq_self, Nat.reduceEqDiff, Nat.reduceLeDiff, nl_0, nl_1, nl_2, nl_3, nl_5, nl_8, nl_10, nl_11, nl_12, nl_15, nl_16, nl_19, nl_20, nl_21, nl_23, nl_31, nl_32, nl_35, nl_47, nl_51, nl_55, nl_99, nl_103, nl_111, nl_115, nl_4096, no_1, no_1024, pk_mul, nI_add, nm_ck, nI_clamp, nI_ltI, nI_leI, nI_eq, nb_b2, nb_b1, ↓nb_let, nm_z0, nm_z1, nb_II, nb_IR, nb_RI, nb_RR, nm_IL, nm_IQ, nm_RL, nm_RQ, nm_LI, nm_LR, nm_LL, nm_LQ, nm_QI, nm_QR, nm_QL, nm_QQ, nm_rr, nm_ii, nm_eqm, not_false_eq_true, pk_sub, nm_div, nm_shl, nm_shr, nm_ush, nm_or8, nm_or64, nm_or256, nm_m1, nm_m3, nm_m7, nm_m15, nm_m31, nm_m63, nm_m255, nm_m511, nm_m1023, nm_m2047, nm_m65535, Nat.reduceMod, Nat.reducePow, Nat.reduceAdd, Nat.reduceSub, Nat.reduceMul, nm_bo, nm_bi, nm_rc, nm_ic, nm_ri, nm_rl, nm_rq, nm_ql, nm_qi, nm_li, nm_us, nm_uu, nm_cp, nm_sa31, nm_sa7, nm_m127, nm_m2, nm_nz, nm_nzk, nm_eq32, nm_nzf, if_true, if_false, ↓reduceIte, if_pos, if_neg]), oH_t hi⟩
theorem wk_51 (n : Nat) (hn : 1024 < n) {p : Nat} {s : St × (St × St)} {X : St × St} (h : rHt p s X) {W : Nat} (hW : W < 2 ^ 32) (c51 : W % 128 = 51) : ∃ (t : Int32) (s' : St × (St × St)) (X' : St × St), df_X4_work n (nI W) s = some (t, s') ∧ df_X16_carry n (nI W) X = some X' ∧ oH p s X t s' X' := by
  have h0 := h
  obtain ⟨hp, a1, a2, a3, a4, a5, a6, a7, a8, a9, a10, a11, a12, a13, a14⟩ := h
  have ea := a7 (W / 32768 % 32) (by omega)
  have eb := a7 (W / 1048576 % 32) (by omega)
  have es := fun v => nk_set n hp a2 hW v
  have bec := fun v => nk_bec n hp a3 a6 (d := W / 128 % 32) (by omega) v
  have bec0 : ∀ (me : Nat) (v : Int32), 0 < me → me < 9 → df_X16_become n (nI (W / 128 % 32)) v (pI X.1 11 (nI me), X.2) = some (pI X.1 11 (nI me), X.2) := fun me v m1 m2 => nk_bec0 n (X := (pI X.1 11 (nI me), X.2)) rfl m1 m2 _ _
  have hg : W / 33554432 % 128 = W / 33554432 := by omega
  have hi : tm (nI 4) 2 := Or.inr (Or.inl ⟨rfl, rfl⟩)
  have hva : sR X.1 9 (32 * p + W / 32768 % 32) = sR s.2.1 3 (p * 33 + W / 32768 % 32) := ea.symm
  have hvb : sR X.1 9 (32 * p + W / 1048576 % 32) = sR s.2.1 3 (p * 33 + W / 1048576 % 32) := eb.symm
  generalize sR s.2.1 3 (p * 33 + W / 32768 % 32) = va at hva
  generalize sR s.2.1 3 (p * 33 + W / 1048576 % 32) = vb at hvb
  rw [hva] at ea
  rw [hvb] at eb
  have u1 : p * 33 + W / 32768 % 32 < 528 := by omega
  have u2 : p * 33 + W / 1048576 % 32 < 528 := by omega
  have u3 : p * 33 + W / 32768 % 32 < 2 ^ 31 := by omega
  have u4 : p * 33 + W / 1048576 % 32 < 2 ^ 31 := by omega
  have u5 : 32 * p + W / 32768 % 32 < 512 := by omega
  have u6 : 32 * p + W / 1048576 % 32 < 512 := by omega
  have u7 : 32 * p + W / 32768 % 32 < 2 ^ 31 := by omega
  have u8 : 32 * p + W / 1048576 % 32 < 2 ^ 31 := by omega
  have u9 : W / 4096 % 8 < 2 ^ 31 := by omega
  have u10 : W / 33554432 < 2 ^ 31 := by omega
  have u11 : W / 33554432 < 2 ^ 32 := by omega
  have u12 : p < 2 ^ 31 := by omega
  by_cases g1 : W / 33554432 = 1
  · obtain ⟨v, e1, e2⟩ := nk_mul n h0 hW (f := W / 4096 % 8) (by omega) va vb
    exact ⟨nI 0, _, _, by (simp (disch := (first | assumption | decide | omega)) only [df_X4_work, df_X4_work_0, df_X4_work_316, a2, ea, eb, c51, g1, e1, eq_self, Nat.reduceEqDiff, Nat.reduceLeDiff, nl_0, nl_1, nl_2, nl_3, nl_4, nl_5, nl_7, nl_12, nl_15, nl_19, nl_20, nl_23, nl_25, nl_31, nl_35, nl_47, nl_51, nl_55, nl_99, nl_103, nl_111, nl_115, nl_127, nl_528, nl_4096, no_1, no_1024, pk_mul, nI_add, nm_ck, nI_clamp, nI_ltI, nI_leI, nI_eq, nb_b2, nb_b1, ↓nb_let, nm_z0, nm_z1, nb_II, nb_IR, nb_RI, nb_RR, nm_IL, nm_IQ, nm_RL, nm_RQ, nm_LI, nm_LR, nm_LL, nm_LQ, nm_QI, nm_QR, nm_QL, nm_QQ, nm_rr, nm_ii, nm_eqm, not_false_eq_true, pk_sub, nm_div, nm_shl, nm_shr, nm_ush, nm_or8, nm_or64, nm_or256, nm_m1, nm_m3, nm_m7, nm_m15, nm_m31, nm_m63, nm_m255, nm_m511, nm_m1023, nm_m2047, nm_m65535, Nat.reduceMod, Nat.reducePow, Nat.reduceAdd, Nat.reduceSub, Nat.reduceMul, nm_bo, nm_bi, nm_rc, nm_ic, nm_ri, nm_rl, nm_rq, nm_ql, nm_qi, nm_li, nm_us, nm_uu, nm_cp, nm_sa31, nm_sa7, nm_m127, nm_m2, nm_nz, nm_nzk, nm_eq32, nm_nzf, if_true, if_false, ↓reduceIte, if_pos, if_neg] <;> rfl), by ((rw [wk_sw n hp a3 hW hva hvb]; simp (disch := (first | assumption | decide | omega)) only [df_X16_carry_502, df_X16_carry_562, a3, hva, hvb, c51, hg, g1, e2, bec, eq_self, Nat.reduceEqDiff, Nat.reduceLeDiff, nl_0, nl_1, nl_2, nl_3, nl_5, nl_8, nl_10, nl_11, nl_12, nl_15, nl_16, nl_19, nl_20, nl_21, nl_23, nl_31, nl_32, nl_35, nl_47, nl_51, nl_55, nl_99, nl_103, nl_111, nl_115, nl_4096, no_1, no_1024, pk_mul, nI_add, nm_ck, nI_clamp, nI_ltI, nI_leI, nI_eq, nb_b2, nb_b1, ↓nb_let, nm_z0, nm_z1, nb_II, nb_IR, nb_RI, nb_RR, nm_IL, nm_IQ, nm_RL, nm_RQ, nm_LI, nm_LR, nm_LL, nm_LQ, nm_QI, nm_QR, nm_QL, nm_QQ, nm_rr, nm_ii, nm_eqm, not_false_eq_true, pk_sub, nm_div, nm_shl, nm_shr, nm_ush, nm_or8, nm_or64, nm_or256, nm_m1, nm_m3, nm_m7, nm_m15, nm_m31, nm_m63, nm_m255, nm_m511, nm_m1023, nm_m2047, nm_m65535, Nat.reduceMod, Nat.reducePow, Nat.reduceAdd, Nat.reduceSub, Nat.reduceMul, nm_bo, nm_bi, nm_rc, nm_ic, nm_ri, nm_rl, nm_rq, nm_ql, nm_qi, nm_li, nm_us, nm_uu, nm_cp, nm_sa31, nm_sa7, nm_m127, nm_m2, nm_nz, nm_nzk, nm_eq32, nm_nzf, if_true, if_false, ↓reduceIte, if_pos, if_neg]) <;> rfl), oH_v h0 (by omega) v⟩
  obtain ⟨w1, w2, w3⟩ := nk_wr n h0 hW (f := W / 4096 % 8) (by omega) va vb
  by_cases g0 : W / 33554432 = 0
  · by_cases cf : W / 4096 % 8 = 1 ∨ W / 4096 % 8 = 5
    · obtain ⟨t, s', X', e1, e2, o⟩ := vO_h n h0 (w3 (Or.inl ⟨g0, cf⟩))
      refine ⟨t, s', X', ?_, ?_, o⟩
      · simp (disch := (first | assumption | decide | omega)) only [df_X4_work, df_X4_work_0, df_X4_work_316, a2, ea, eb, c51, g0, eq_self, Nat.reduceEqDiff, Nat.reduceLeDiff, nl_0, nl_1, nl_2, nl_3, nl_4, nl_5, nl_7, nl_12, nl_15, nl_19, nl_20, nl_23, nl_25, nl_31, nl_35, nl_47, nl_51, nl_55, nl_99, nl_103, nl_111, nl_115, nl_127, nl_528, nl_4096, no_1, no_1024, pk_mul, nI_add, nm_ck, nI_clamp, nI_ltI, nI_leI, nI_eq, nb_b2, nb_b1, ↓nb_let, nm_z0, nm_z1, nb_II, nb_IR, nb_RI, nb_RR, nm_IL, nm_IQ, nm_RL, nm_RQ, nm_LI, nm_LR, nm_LL, nm_LQ, nm_QI, nm_QR, nm_QL, nm_QQ, nm_rr, nm_ii, nm_eqm, not_false_eq_true, pk_sub, nm_div, nm_shl, nm_shr, nm_ush, nm_or8, nm_or64, nm_or256, nm_m1, nm_m3, nm_m7, nm_m15, nm_m31, nm_m63, nm_m255, nm_m511, nm_m1023, nm_m2047, nm_m65535, Nat.reduceMod, Nat.reducePow, Nat.reduceAdd, Nat.reduceSub, Nat.reduceMul, nm_bo, nm_bi, nm_rc, nm_ic, nm_ri, nm_rl, nm_rq, nm_ql, nm_qi, nm_li, nm_us, nm_uu, nm_cp, nm_sa31, nm_sa7, nm_m127, nm_m2, nm_nz, nm_nzk, nm_eq32, nm_nzf, if_true, if_false, ↓reduceIte, if_pos, if_neg]
        exact e1
      · rw [g0] at e2
        rcases cf with cf | cf
        · rw [cf] at e2
          (rw [wk_sw n hp a3 hW hva hvb]; simp (disch := (first | assumption | decide | omega)) only [df_X16_carry_469, df_X16_carry_488, df_X16_carry_502, df_X16_carry_562, a3, hva, hvb, c51, cf, hg, g0, eq_self, Nat.reduceEqDiff, Nat.reduceLeDiff, nl_0, nl_1, nl_2, nl_3, nl_5, nl_8, nl_10, nl_11, nl_12, nl_15, nl_16, nl_19, nl_20, nl_21, nl_23, nl_31, nl_32, nl_35, nl_47, nl_51, nl_55, nl_99, nl_103, nl_111, nl_115, nl_4096, no_1, no_1024, pk_mul, nI_add, nm_ck, nI_clamp, nI_ltI, nI_leI, nI_eq, nb_b2, nb_b1, ↓nb_let, nm_z0, nm_z1, nb_II, nb_IR, nb_RI, nb_RR, nm_IL, nm_IQ, nm_RL, nm_RQ, nm_LI, nm_LR, nm_LL, nm_LQ, nm_QI, nm_QR, nm_QL, nm_QQ, nm_rr, nm_ii, nm_eqm, not_false_eq_true, pk_sub, nm_div, nm_shl, nm_shr, nm_ush, nm_or8, nm_or64, nm_or256, nm_m1, nm_m3, nm_m7, nm_m15, nm_m31, nm_m63, nm_m255, nm_m511, nm_m1023, nm_m2047, nm_m65535, Nat.reduceMod, Nat.reducePow, Nat.reduceAdd, Nat.reduceSub, Nat.reduceMul, nm_bo, nm_bi, nm_rc, nm_ic, nm_ri, nm_rl, nm_rq, nm_ql, nm_qi, nm_li, nm_us, nm_uu, nm_cp, nm_sa31, nm_sa7, nm_m127, nm_m2, nm_nz, nm_nzk, nm_eq32, nm_nzf, if_true, if_false, ↓reduceIte, if_pos, if_neg])
          exact e2
        · rw [cf] at e2
          (rw [wk_sw n hp a3 hW hva hvb]; simp (disch := (first | assumption | decide | omega)) only [df_X16_carry_469, df_X16_carry_488, df_X16_carry_502, df_X16_carry_562, a3, hva, hvb, c51, cf, hg, g0, eq_self, Nat.reduceEqDiff, Nat.reduceLeDiff, nl_0, nl_1, nl_2, nl_3, nl_5, nl_8, nl_10, nl_11, nl_12, nl_15, nl_16, nl_19, nl_20, nl_21, nl_23, nl_31, nl_32, nl_35, nl_47, nl_51, nl_55, nl_99, nl_103, nl_111, nl_115, nl_4096, no_1, no_1024, pk_mul, nI_add, nm_ck, nI_clamp, nI_ltI, nI_leI, nI_eq, nb_b2, nb_b1, ↓nb_let, nm_z0, nm_z1, nb_II, nb_IR, nb_RI, nb_RR, nm_IL, nm_IQ, nm_RL, nm_RQ, nm_LI, nm_LR, nm_LL, nm_LQ, nm_QI, nm_QR, nm_QL, nm_QQ, nm_rr, nm_ii, nm_eqm, not_false_eq_true, pk_sub, nm_div, nm_shl, nm_shr, nm_ush, nm_or8, nm_or64, nm_or256, nm_m1, nm_m3, nm_m7, nm_m15, nm_m31, nm_m63, nm_m255, nm_m511, nm_m1023, nm_m2047, nm_m65535, Nat.reduceMod, Nat.reducePow, Nat.reduceAdd, Nat.reduceSub, Nat.reduceMul, nm_bo, nm_bi, nm_rc, nm_ic, nm_ri, nm_rl, nm_rq, nm_ql, nm_qi, nm_li, nm_us, nm_uu, nm_cp, nm_sa31, nm_sa7, nm_m127, nm_m2, nm_nz, nm_nzk, nm_eq32, nm_nzf, if_true, if_false, ↓reduceIte, if_pos, if_neg])
          exact e2
    · have f1 : ¬ W / 4096 % 8 = 1 := fun z => cf (Or.inl z)
      have f5 : ¬ W / 4096 % 8 = 5 := fun z => cf (Or.inr z)
      obtain ⟨v, e1, e2⟩ := w1 g0 f1 f5
      exact ⟨nI 0, _, _, by (simp (disch := (first | assumption | decide | omega)) only [df_X4_work, df_X4_work_0, df_X4_work_316, a2, ea, eb, c51, g0, e1, eq_self, Nat.reduceEqDiff, Nat.reduceLeDiff, nl_0, nl_1, nl_2, nl_3, nl_4, nl_5, nl_7, nl_12, nl_15, nl_19, nl_20, nl_23, nl_25, nl_31, nl_35, nl_47, nl_51, nl_55, nl_99, nl_103, nl_111, nl_115, nl_127, nl_528, nl_4096, no_1, no_1024, pk_mul, nI_add, nm_ck, nI_clamp, nI_ltI, nI_leI, nI_eq, nb_b2, nb_b1, ↓nb_let, nm_z0, nm_z1, nb_II, nb_IR, nb_RI, nb_RR, nm_IL, nm_IQ, nm_RL, nm_RQ, nm_LI, nm_LR, nm_LL, nm_LQ, nm_QI, nm_QR, nm_QL, nm_QQ, nm_rr, nm_ii, nm_eqm, not_false_eq_true, pk_sub, nm_div, nm_shl, nm_shr, nm_ush, nm_or8, nm_or64, nm_or256, nm_m1, nm_m3, nm_m7, nm_m15, nm_m31, nm_m63, nm_m255, nm_m511, nm_m1023, nm_m2047, nm_m65535, Nat.reduceMod, Nat.reducePow, Nat.reduceAdd, Nat.reduceSub, Nat.reduceMul, nm_bo, nm_bi, nm_rc, nm_ic, nm_ri, nm_rl, nm_rq, nm_ql, nm_qi, nm_li, nm_us, nm_uu, nm_cp, nm_sa31, nm_sa7, nm_m127, nm_m2, nm_nz, nm_nzk, nm_eq32, nm_nzf, if_true, if_false, ↓reduceIte, if_pos, if_neg] <;> rfl), by ((rw [wk_sw n hp a3 hW hva hvb]; simp (disch := (first | assumption | decide | omega)) only [df_X16_carry_502, df_X16_carry_562, a3, hva, hvb, c51, hg, g0, f1, f5, e2, bec, eq_self, Nat.reduceEqDiff, Nat.reduceLeDiff, nl_0, nl_1, nl_2, nl_3, nl_5, nl_8, nl_10, nl_11, nl_12, nl_15, nl_16, nl_19, nl_20, nl_21, nl_23, nl_31, nl_32, nl_35, nl_47, nl_51, nl_55, nl_99, nl_103, nl_111, nl_115, nl_4096, no_1, no_1024, pk_mul, nI_add, nm_ck, nI_clamp, nI_ltI, nI_leI, nI_eq, nb_b2, nb_b1, ↓nb_let, nm_z0, nm_z1, nb_II, nb_IR, nb_RI, nb_RR, nm_IL, nm_IQ, nm_RL, nm_RQ, nm_LI, nm_LR, nm_LL, nm_LQ, nm_QI, nm_QR, nm_QL, nm_QQ, nm_rr, nm_ii, nm_eqm, not_false_eq_true, pk_sub, nm_div, nm_shl, nm_shr, nm_ush, nm_or8, nm_or64, nm_or256, nm_m1, nm_m3, nm_m7, nm_m15, nm_m31, nm_m63, nm_m255, nm_m511, nm_m1023, nm_m2047, nm_m65535, Nat.reduceMod, Nat.reducePow, Nat.reduceAdd, Nat.reduceSub, Nat.reduceMul, nm_bo, nm_bi, nm_rc, nm_ic, nm_ri, nm_rl, nm_rq, nm_ql, nm_qi, nm_li, nm_us, nm_uu, nm_cp, nm_sa31, nm_sa7, nm_m127, nm_m2, nm_nz, nm_nzk, nm_eq32, nm_nzf, if_true, if_false, ↓reduceIte, if_pos, if_neg]) <;> rfl), oH_v h0 (by omega) v⟩
  by_cases g32 : W / 33554432 = 32
  · by_cases f0 : W / 4096 % 8 = 0
    · have e1 := w2 g32 f0
      rw [f0] at e1
      exact ⟨nI 0, _, _, by (simp (disch := (first | assumption | decide | omega)) only [df_X4_work, df_X4_work_0, df_X4_work_316, a2, ea, eb, c51, g32, f0, e1, eq_self, Nat.reduceEqDiff, Nat.reduceLeDiff, nl_0, nl_1, nl_2, nl_3, nl_4, nl_5, nl_7, nl_12, nl_15, nl_19, nl_20, nl_23, nl_25, nl_31, nl_35, nl_47, nl_51, nl_55, nl_99, nl_103, nl_111, nl_115, nl_127, nl_528, nl_4096, no_1, no_1024, pk_mul, nI_add, nm_ck, nI_clamp, nI_ltI, nI_leI, nI_eq, nb_b2, nb_b1, ↓nb_let, nm_z0, nm_z1, nb_II, nb_IR, nb_RI, nb_RR, nm_IL, nm_IQ, nm_RL, nm_RQ, nm_LI, nm_LR, nm_LL, nm_LQ, nm_QI, nm_QR, nm_QL, nm_QQ, nm_rr, nm_ii, nm_eqm, not_false_eq_true, pk_sub, nm_div, nm_shl, nm_shr, nm_ush, nm_or8, nm_or64, nm_or256, nm_m1, nm_m3, nm_m7, nm_m15, nm_m31, nm_m63, nm_m255, nm_m511, nm_m1023, nm_m2047, nm_m65535, Nat.reduceMod, Nat.reducePow, Nat.reduceAdd, Nat.reduceSub, Nat.reduceMul, nm_bo, nm_bi, nm_rc, nm_ic, nm_ri, nm_rl, nm_rq, nm_ql, nm_qi, nm_li, nm_us, nm_uu, nm_cp, nm_sa31, nm_sa7, nm_m127, nm_m2, nm_nz, nm_nzk, nm_eq32, nm_nzf, if_true, if_false, ↓reduceIte, if_pos, if_neg] <;> rfl), by ((rw [wk_sw n hp a3 hW hva hvb]; simp (disch := (first | assumption | decide | omega)) only [df_X16_carry_469, df_X16_carry_502, df_X16_carry_562, a3, hva, hvb, c51, hg, g32, f0, bec, eq_self, Nat.reduceEqDiff, Nat.reduceLeDiff, nl_0, nl_1, nl_2, nl_3, nl_5, nl_8, nl_10, nl_11, nl_12, nl_15, nl_16, nl_19, nl_20, nl_21, nl_23, nl_31, nl_32, nl_35, nl_47, nl_51, nl_55, nl_99, nl_103, nl_111, nl_115, nl_4096, no_1, no_1024, pk_mul, nI_add, nm_ck, nI_clamp, nI_ltI, nI_leI, nI_eq, nb_b2, nb_b1, ↓nb_let, nm_z0, nm_z1, nb_II, nb_IR, nb_RI, nb_RR, nm_IL, nm_IQ, nm_RL, nm_RQ, nm_LI, nm_LR, nm_LL, nm_LQ, nm_QI, nm_QR, nm_QL, nm_QQ, nm_rr, nm_ii, nm_eqm, not_false_eq_true, pk_sub, nm_div, nm_shl, nm_shr, nm_ush, nm_or8, nm_or64, nm_or256, nm_m1, nm_m3, nm_m7, nm_m15, nm_m31, nm_m63, nm_m255, nm_m511, nm_m1023, nm_m2047, nm_m65535, Nat.reduceMod, Nat.reducePow, Nat.reduceAdd, Nat.reduceSub, Nat.reduceMul, nm_bo, nm_bi, nm_rc, nm_ic, nm_ri, nm_rl, nm_rq, nm_ql, nm_qi, nm_li, nm_us, nm_uu, nm_cp, nm_sa31, nm_sa7, nm_m127, nm_m2, nm_nz, nm_nzk, nm_eq32, nm_nzf, if_true, if_false, ↓reduceIte, if_pos, if_neg]) <;> rfl), oH_v h0 (by omega) (va - vb)⟩
    · obtain ⟨t, s', X', e1, e2, o⟩ := vO_h n h0 (w3 (Or.inr (Or.inl ⟨g32, f0⟩)))
      refine ⟨t, s', X', ?_, ?_, o⟩
      · simp (disch := (first | assumption | decide | omega)) only [df_X4_work, df_X4_work_0, df_X4_work_316, a2, ea, eb, c51, g32, eq_self, Nat.reduceEqDiff, Nat.reduceLeDiff, nl_0, nl_1, nl_2, nl_3, nl_4, nl_5, nl_7, nl_12, nl_15, nl_19, nl_20, nl_23, nl_25, nl_31, nl_35, nl_47, nl_51, nl_55, nl_99, nl_103, nl_111, nl_115, nl_127, nl_528, nl_4096, no_1, no_1024, pk_mul, nI_add, nm_ck, nI_clamp, nI_ltI, nI_leI, nI_eq, nb_b2, nb_b1, ↓nb_let, nm_z0, nm_z1, nb_II, nb_IR, nb_RI, nb_RR, nm_IL, nm_IQ, nm_RL, nm_RQ, nm_LI, nm_LR, nm_LL, nm_LQ, nm_QI, nm_QR, nm_QL, nm_QQ, nm_rr, nm_ii, nm_eqm, not_false_eq_true, pk_sub, nm_div, nm_shl, nm_shr, nm_ush, nm_or8, nm_or64, nm_or256, nm_m1, nm_m3, nm_m7, nm_m15, nm_m31, nm_m63, nm_m255, nm_m511, nm_m1023, nm_m2047, nm_m65535, Nat.reduceMod, Nat.reducePow, Nat.reduceAdd, Nat.reduceSub, Nat.reduceMul, nm_bo, nm_bi, nm_rc, nm_ic, nm_ri, nm_rl, nm_rq, nm_ql, nm_qi, nm_li, nm_us, nm_uu, nm_cp, nm_sa31, nm_sa7, nm_m127, nm_m2, nm_nz, nm_nzk, nm_eq32, nm_nzf, if_true, if_false, ↓reduceIte, if_pos, if_neg]
        exact e1
      · rw [g32] at e2
        (rw [wk_sw n hp a3 hW hva hvb]; simp (disch := (first | assumption | decide | omega)) only [df_X16_carry_469, df_X16_carry_488, df_X16_carry_502, df_X16_carry_562, a3, hva, hvb, c51, hg, g32, f0, eq_self, Nat.reduceEqDiff, Nat.reduceLeDiff, nl_0, nl_1, nl_2, nl_3, nl_5, nl_8, nl_10, nl_11, nl_12, nl_15, nl_16, nl_19, nl_20, nl_21, nl_23, nl_31, nl_32, nl_35, nl_47, nl_51, nl_55, nl_99, nl_103, nl_111, nl_115, nl_4096, no_1, no_1024, pk_mul, nI_add, nm_ck, nI_clamp, nI_ltI, nI_leI, nI_eq, nb_b2, nb_b1, ↓nb_let, nm_z0, nm_z1, nb_II, nb_IR, nb_RI, nb_RR, nm_IL, nm_IQ, nm_RL, nm_RQ, nm_LI, nm_LR, nm_LL, nm_LQ, nm_QI, nm_QR, nm_QL, nm_QQ, nm_rr, nm_ii, nm_eqm, not_false_eq_true, pk_sub, nm_div, nm_shl, nm_shr, nm_ush, nm_or8, nm_or64, nm_or256, nm_m1, nm_m3, nm_m7, nm_m15, nm_m31, nm_m63, nm_m255, nm_m511, nm_m1023, nm_m2047, nm_m65535, Nat.reduceMod, Nat.reducePow, Nat.reduceAdd, Nat.reduceSub, Nat.reduceMul, nm_bo, nm_bi, nm_rc, nm_ic, nm_ri, nm_rl, nm_rq, nm_ql, nm_qi, nm_li, nm_us, nm_uu, nm_cp, nm_sa31, nm_sa7, nm_m127, nm_m2, nm_nz, nm_nzk, nm_eq32, nm_nzf, if_true, if_false, ↓reduceIte, if_pos, if_neg])
        exact e2
  · obtain ⟨t, s', X', e1, e2, o⟩ := vO_h n h0 (w3 (Or.inr (Or.inr ⟨g0, g32⟩)))
    refine ⟨t, s', X', ?_, ?_, o⟩
    · simp (disch := (first | assumption | decide | omega)) only [df_X4_work, df_X4_work_0, df_X4_work_316, a2, ea, eb, c51, g1, eq_self, Nat.reduceEqDiff, Nat.reduceLeDiff, nl_0, nl_1, nl_2, nl_3, nl_4, nl_5, nl_7, nl_12, nl_15, nl_19, nl_20, nl_23, nl_25, nl_31, nl_35, nl_47, nl_51, nl_55, nl_99, nl_103, nl_111, nl_115, nl_127, nl_528, nl_4096, no_1, no_1024, pk_mul, nI_add, nm_ck, nI_clamp, nI_ltI, nI_leI, nI_eq, nb_b2, nb_b1, ↓nb_let, nm_z0, nm_z1, nb_II, nb_IR, nb_RI, nb_RR, nm_IL, nm_IQ, nm_RL, nm_RQ, nm_LI, nm_LR, nm_LL, nm_LQ, nm_QI, nm_QR, nm_QL, nm_QQ, nm_rr, nm_ii, nm_eqm, not_false_eq_true, pk_sub, nm_div, nm_shl, nm_shr, nm_ush, nm_or8, nm_or64, nm_or256, nm_m1, nm_m3, nm_m7, nm_m15, nm_m31, nm_m63, nm_m255, nm_m511, nm_m1023, nm_m2047, nm_m65535, Nat.reduceMod, Nat.reducePow, Nat.reduceAdd, Nat.reduceSub, Nat.reduceMul, nm_bo, nm_bi, nm_rc, nm_ic, nm_ri, nm_rl, nm_rq, nm_ql, nm_qi, nm_li, nm_us, nm_uu, nm_cp, nm_sa31, nm_sa7, nm_m127, nm_m2, nm_nz, nm_nzk, nm_eq32, nm_nzf, if_true, if_false, ↓reduceIte, if_pos, if_neg]
      exact e1
    · (rw [wk_sw n hp a3 hW hva hvb]; simp (disch := (first | assumption | decide | omega)) only [df_X16_carry_469, df_X16_carry_488, df_X16_carry_502, df_X16_carry_562, a3, hva, hvb, c51, hg, g0, g1, g32, eq_self, Nat.reduceEqDiff, Nat.reduceLeDiff, nl_0, nl_1, nl_2, nl_3, nl_5, nl_8, nl_10, nl_11, nl_12, nl_15, nl_16, nl_19, nl_20, nl_21, nl_23, nl_31, nl_32, nl_35, nl_47, nl_51, nl_55, nl_99, nl_103, nl_111, nl_115, nl_4096, no_1, no_1024, pk_mul, nI_add, nm_ck, nI_clamp, nI_ltI, nI_leI, nI_eq, nb_b2, nb_b1, ↓nb_let, nm_z0, nm_z1, nb_II, nb_IR, nb_RI, nb_RR, nm_IL, nm_IQ, nm_RL, nm_RQ, nm_LI, nm_LR, nm_LL, nm_LQ, nm_QI, nm_QR, nm_QL, nm_QQ, nm_rr, nm_ii, nm_eqm, not_false_eq_true, pk_sub, nm_div, nm_shl, nm_shr, nm_ush, nm_or8, nm_or64, nm_or256, nm_m1, nm_m3, nm_m7, nm_m15, nm_m31, nm_m63, nm_m255, nm_m511, nm_m1023, nm_m2047, nm_m65535, Nat.reduceMod, Nat.reducePow, Nat.reduceAdd, Nat.reduceSub, Nat.reduceMul, nm_bo, nm_bi, nm_rc, nm_ic, nm_ri, nm_rl, nm_rq, nm_ql, nm_qi, nm_li, nm_us, nm_uu, nm_cp, nm_sa31, nm_sa7, nm_m127, nm_m2, nm_nz, nm_nzk, nm_eq32, nm_nzf, if_true, if_false, ↓reduceIte, if_pos, if_neg])
      exact e2
theorem wk_55 (n : Nat) (hn : 1024 < n) {p : Nat} {s : St × (St × St)} {X : St × St} (h : rHt p s X) {W : Nat} (hW : W < 2 ^ 32) (c55 : W % 128 = 55) : ∃ (t : Int32) (s' : St × (St × St)) (X' : St × St), df_X4_work n (nI W) s = some (t, s') ∧ df_X16_carry n (nI W) X = some X' ∧ oH p s X t s' X' := by
  have h0 := h
  obtain ⟨hp, a1, a2, a3, a4, a5, a6, a7, a8, a9, a10, a11, a12, a13, a14⟩ := h
  have ea := a7 (W / 32768 % 32) (by omega)
  have eb := a7 (W / 1048576 % 32) (by omega)
  have es := fun v => nk_set n hp a2 hW v
  have bec := fun v => nk_bec n hp a3 a6 (d := W / 128 % 32) (by omega) v
  have bec0 : ∀ (me : Nat) (v : Int32), 0 < me → me < 9 → df_X16_become n (nI (W / 128 % 32)) v (pI X.1 11 (nI me), X.2) = some (pI X.1 11 (nI me), X.2) := fun me v m1 m2 => nk_bec0 n (X := (pI X.1 11 (nI me), X.2)) rfl m1 m2 _ _
  have hg : W / 33554432 % 128 = W / 33554432 := by omega
  have hi : tm (nI 4) 2 := Or.inr (Or.inl ⟨rfl, rfl⟩)
  have hva : sR X.1 9 (32 * p + W / 32768 % 32) = sR s.2.1 3 (p * 33 + W / 32768 % 32) := ea.symm
  have hvb : sR X.1 9 (32 * p + W / 1048576 % 32) = sR s.2.1 3 (p * 33 + W / 1048576 % 32) := eb.symm
  generalize sR s.2.1 3 (p * 33 + W / 32768 % 32) = va at hva
  generalize sR s.2.1 3 (p * 33 + W / 1048576 % 32) = vb at hvb
  rw [hva] at ea
  rw [hvb] at eb
  have u1 : p * 33 + W / 32768 % 32 < 528 := by omega
  have u2 : p * 33 + W / 1048576 % 32 < 528 := by omega
  have u3 : p * 33 + W / 32768 % 32 < 2 ^ 31 := by omega
  have u4 : p * 33 + W / 1048576 % 32 < 2 ^ 31 := by omega
  have u5 : 32 * p + W / 32768 % 32 < 512 := by omega
  have u6 : 32 * p + W / 1048576 % 32 < 512 := by omega
  have u7 : 32 * p + W / 32768 % 32 < 2 ^ 31 := by omega
  have u8 : 32 * p + W / 1048576 % 32 < 2 ^ 31 := by omega
  have u9 : W / 4096 % 8 < 2 ^ 31 := by omega
  have u10 : W / 33554432 < 2 ^ 31 := by omega
  have u11 : W / 33554432 < 2 ^ 32 := by omega
  have u12 : p < 2 ^ 31 := by omega
  exact ⟨nI 0, _, _, by (simp (disch := (first | assumption | decide | omega)) only [df_X4_work, df_X4_work_0, a2, ea, eb, c55, es, eq_self, Nat.reduceEqDiff, Nat.reduceLeDiff, nl_0, nl_1, nl_2, nl_3, nl_4, nl_5, nl_7, nl_12, nl_15, nl_19, nl_20, nl_23, nl_25, nl_31, nl_35, nl_47, nl_51, nl_55, nl_99, nl_103, nl_111, nl_115, nl_127, nl_528, nl_4096, no_1, no_1024, pk_mul, nI_add, nm_ck, nI_clamp, nI_ltI, nI_leI, nI_eq, nb_b2, nb_b1, ↓nb_let, nm_z0, nm_z1, nb_II, nb_IR, nb_RI, nb_RR, nm_IL, nm_IQ, nm_RL, nm_RQ, nm_LI, nm_LR, nm_LL, nm_LQ, nm_QI, nm_QR, nm_QL, nm_QQ, nm_rr, nm_ii, nm_eqm, not_false_eq_true, pk_sub, nm_div, nm_shl, nm_shr, nm_ush, nm_or8, nm_or64, nm_or256, nm_m1, nm_m3, nm_m7, nm_m15, nm_m31, nm_m63, nm_m255, nm_m511, nm_m1023, nm_m2047, nm_m65535, Nat.reduceMod, Nat.reducePow, Nat.reduceAdd, Nat.reduceSub, Nat.reduceMul, nm_bo, nm_bi, nm_rc, nm_ic, nm_ri, nm_rl, nm_rq, nm_ql, nm_qi, nm_li, nm_us, nm_uu, nm_cp, nm_sa31, nm_sa7, nm_m127, nm_m2, nm_nz, nm_nzk, nm_eq32, nm_nzf, if_true, if_false, ↓reduceIte, if_pos, if_neg] <;> rfl), by ((rw [wk_sw n hp a3 hW hva hvb]; simp (disch := (first | assumption | decide | omega)) only [df_X16_carry_562, a3, hva, hvb, c55, bec, eq_self, Nat.reduceEqDiff, Nat.reduceLeDiff, nl_0, nl_1, nl_2, nl_3, nl_5, nl_8, nl_10, nl_11, nl_12, nl_15, nl_16, nl_19, nl_20, nl_21, nl_23, nl_31, nl_32, nl_35, nl_47, nl_51, nl_55, nl_99, nl_103, nl_111, nl_115, nl_4096, no_1, no_1024, pk_mul, nI_add, nm_ck, nI_clamp, nI_ltI, nI_leI, nI_eq, nb_b2, nb_b1, ↓nb_let, nm_z0, nm_z1, nb_II, nb_IR, nb_RI, nb_RR, nm_IL, nm_IQ, nm_RL, nm_RQ, nm_LI, nm_LR, nm_LL, nm_LQ, nm_QI, nm_QR, nm_QL, nm_QQ, nm_rr, nm_ii, nm_eqm, not_false_eq_true, pk_sub, nm_div, nm_shl, nm_shr, nm_ush, nm_or8, nm_or64, nm_or256, nm_m1, nm_m3, nm_m7, nm_m15, nm_m31, nm_m63, nm_m255, nm_m511, nm_m1023, nm_m2047, nm_m65535, Nat.reduceMod, Nat.reducePow, Nat.reduceAdd, Nat.reduceSub, Nat.reduceMul, nm_bo, nm_bi, nm_rc, nm_ic, nm_ri, nm_rl, nm_rq, nm_ql, nm_qi, nm_li, nm_us, nm_uu, nm_cp, nm_sa31, nm_sa7, nm_m127, nm_m2, nm_nz, nm_nzk, nm_eq32, nm_nzf, if_true, if_false, ↓reduceIte, if_pos, if_neg]) <;> rfl), oH_v h0 (by omega) (nI W &&& -nI 4096)⟩
theorem wk_99 (n : Nat) (hn : 1024 < n) {p : Nat} {s : St × (St × St)} {X : St × St} (h : rHt p s X) {W : Nat} (hW : W < 2 ^ 32) (c99 : W % 128 = 99) : ∃ (t : Int32) (s' : St × (St × St)) (X' : St × St), df_X4_work n (nI W) s = some (t, s') ∧ df_X16_carry n (nI W) X = some X' ∧ oH p s X t s' X' := by
  have h0 := h
  obtain ⟨hp, a1, a2, a3, a4, a5, a6, a7, a8, a9, a10, a11, a12, a13, a14⟩ := h
  have ea := a7 (W / 32768 % 32) (by omega)
  have eb := a7 (W / 1048576 % 32) (by omega)
  have es := fun v => nk_set n hp a2 hW v
  have bec := fun v => nk_bec n hp a3 a6 (d := W / 128 % 32) (by omega) v
  have bec0 : ∀ (me : Nat) (v : Int32), 0 < me → me < 9 → df_X16_become n (nI (W / 128 % 32)) v (pI X.1 11 (nI me), X.2) = some (pI X.1 11 (nI me), X.2) := fun me v m1 m2 => nk_bec0 n (X := (pI X.1 11 (nI me), X.2)) rfl m1 m2 _ _
  have hg : W / 33554432 % 128 = W / 33554432 := by omega
  have hi : tm (nI 4) 2 := Or.inr (Or.inl ⟨rfl, rfl⟩)
  have hva : sR X.1 9 (32 * p + W / 32768 % 32) = sR s.2.1 3 (p * 33 + W / 32768 % 32) := ea.symm
  have hvb : sR X.1 9 (32 * p + W / 1048576 % 32) = sR s.2.1 3 (p * 33 + W / 1048576 % 32) := eb.symm
  generalize sR s.2.1 3 (p * 33 + W / 32768 % 32) = va at hva
  generalize sR s.2.1 3 (p * 33 + W / 1048576 % 32) = vb at hvb
  rw [hva] at ea
  rw [hvb] at eb
  have u1 : p * 33 + W / 32768 % 32 < 528 := by omega
  have u2 : p * 33 + W / 1048576 % 32 < 528 := by omega
  have u3 : p * 33 + W / 32768 % 32 < 2 ^ 31 := by omega
  have u4 : p * 33 + W / 1048576 % 32 < 2 ^ 31 := by omega
  have u5 : 32 * p + W / 32768 % 32 < 512 := by omega
  have u6 : 32 * p + W / 1048576 % 32 < 512 := by omega
  have u7 : 32 * p + W / 32768 % 32 < 2 ^ 31 := by omega
  have u8 : 32 * p + W / 1048576 % 32 < 2 ^ 31 := by omega
  have u9 : W / 4096 % 8 < 2 ^ 31 := by omega
  have u10 : W / 33554432 < 2 ^ 31 := by omega
  have u11 : W / 33554432 < 2 ^ 32 := by omega
  have u12 : p < 2 ^ 31 := by omega
  obtain ⟨t, s', X', e1, e2, o⟩ := nk_branch n h0 hW (f := W / 4096 % 8) (by omega) va vb
  exact ⟨t, s', X', by simp (disch := (first | assumption | decide | omega)) only [df_X4_work, df_X4_work_0, a2, ea, eb, c99, e1, eq_self, Nat.reduceEqDiff, Nat.reduceLeDiff, nl_0, nl_1, nl_2, nl_3, nl_4, nl_5, nl_7, nl_12, nl_15, nl_19, nl_20, nl_23, nl_25, nl_31, nl_35, nl_47, nl_51, nl_55, nl_99, nl_103, nl_111, nl_115, nl_127, nl_528, nl_4096, no_1, no_1024, pk_mul, nI_add, nm_ck, nI_clamp, nI_ltI, nI_leI, nI_eq, nb_b2, nb_b1, ↓nb_let, nm_z0, nm_z1, nb_II, nb_IR, nb_RI, nb_RR, nm_IL, nm_IQ, nm_RL, nm_RQ, nm_LI, nm_LR, nm_LL, nm_LQ, nm_QI, nm_QR, nm_QL, nm_QQ, nm_rr, nm_ii, nm_eqm, not_false_eq_true, pk_sub, nm_div, nm_shl, nm_shr, nm_ush, nm_or8, nm_or64, nm_or256, nm_m1, nm_m3, nm_m7, nm_m15, nm_m31, nm_m63, nm_m255, nm_m511, nm_m1023, nm_m2047, nm_m65535, Nat.reduceMod, Nat.reducePow, Nat.reduceAdd, Nat.reduceSub, Nat.reduceMul, nm_bo, nm_bi, nm_rc, nm_ic, nm_ri, nm_rl, nm_rq, nm_ql, nm_qi, nm_li, nm_us, nm_uu, nm_cp, nm_sa31, nm_sa7, nm_m127, nm_m2, nm_nz, nm_nzk, nm_eq32, nm_nzf, if_true, if_false, ↓reduceIte, if_pos, if_neg], by (rw [wk_sw n hp a3 hW hva hvb]; simp (disch := (first | assumption | decide | omega)) only [df_X16_carry_562, a3, hva, hvb, c99, e2, eq_self, Nat.reduceEqDiff, Nat.reduceLeDiff, nl_0, nl_1, nl_2, nl_3, nl_5, nl_8, nl_10, nl_11, nl_12, nl_15, nl_16, nl_19, nl_20, nl_21, nl_23, nl_31, nl_32, nl_35, nl_47, nl_51, nl_55, nl_99, nl_103, nl_111, nl_115, nl_4096, no_1, no_1024, pk_mul, nI_add, nm_ck, nI_clamp, nI_ltI, nI_leI, nI_eq, nb_b2, nb_b1, ↓nb_let, nm_z0, nm_z1, nb_II, nb_IR, nb_RI, nb_RR, nm_IL, nm_IQ, nm_RL, nm_RQ, nm_LI, nm_LR, nm_LL, nm_LQ, nm_QI, nm_QR, nm_QL, nm_QQ, nm_rr, nm_ii, nm_eqm, not_false_eq_true, pk_sub, nm_div, nm_shl, nm_shr, nm_ush, nm_or8, nm_or64, nm_or256, nm_m1, nm_m3, nm_m7, nm_m15, nm_m31, nm_m63, nm_m255, nm_m511, nm_m1023, nm_m2047, nm_m65535, Nat.reduceMod, Nat.reducePow, Nat.reduceAdd, Nat.reduceSub, Nat.reduceMul, nm_bo, nm_bi, nm_rc, nm_ic, nm_ri, nm_rl, nm_rq, nm_ql, nm_qi, nm_li, nm_us, nm_uu, nm_cp, nm_sa31, nm_sa7, nm_m127, nm_m2, nm_nz, nm_nzk, nm_eq32, nm_nzf, if_true, if_false, ↓reduceIte, if_pos, if_neg]), o⟩
theorem wk_103 (n : Nat) (hn : 1024 < n) {p : Nat} {s : St × (St × St)} {X : St × St} (h : rHt p s X) {W : Nat} (hW : W < 2 ^ 32) (c103 : W % 128 = 103) : ∃ (t : Int32) (s' : St × (St × St)) (X' : St × St), df_X4_work n (nI W) s = some (t, s') ∧ df_X16_carry n (nI W) X = some X' ∧ oH p s X t s' X' := by
  have h0 := h
  obtain ⟨hp, a1, a2, a3, a4, a5, a6, a7, a8, a9, a10, a11, a12, a13, a14⟩ := h
  have ea := a7 (W / 32768 % 32) (by omega)
  have eb := a7 (W / 1048576 % 32) (by omega)
  have es := fun v => nk_set n hp a2 hW v
  have bec := fun v => nk_bec n hp a3 a6 (d := W / 128 % 32) (by omega) v
  have bec0 : ∀ (me : Nat) (v : Int32), 0 < me → me < 9 → df_X16_become n (nI (W / 128 % 32)) v (pI X.1 11 (nI me), X.2) = some (pI X.1 11 (nI me), X.2) := fun me v m1 m2 => nk_bec0 n (X := (pI X.1 11 (nI me), X.2)) rfl m1 m2 _ _
  have hg : W / 33554432 % 128 = W / 33554432 := by omega
  have hi : tm (nI 4) 2 := Or.inr (Or.inl ⟨rfl, rfl⟩)
  have hva : sR X.1 9 (32 * p + W / 32768 % 32) = sR s.2.1 3 (p * 33 + W / 32768 % 32) := ea.symm
  have hvb : sR X.1 9 (32 * p + W / 1048576 % 32) = sR s.2.1 3 (p * 33 + W / 1048576 % 32) := eb.symm
  generalize sR s.2.1 3 (p * 33 + W / 32768 % 32) = va at hva
  generalize sR s.2.1 3 (p * 33 + W / 1048576 % 32) = vb at hvb
  rw [hva] at ea
  rw [hvb] at eb
  have u1 : p * 33 + W / 32768 % 32 < 528 := by omega
  have u2 : p * 33 + W / 1048576 % 32 < 528 := by omega
  have u3 : p * 33 + W / 32768 % 32 < 2 ^ 31 := by omega
  have u4 : p * 33 + W / 1048576 % 32 < 2 ^ 31 := by omega
  have u5 : 32 * p + W / 32768 % 32 < 512 := by omega
  have u6 : 32 * p + W / 1048576 % 32 < 512 := by omega
  have u7 : 32 * p + W / 32768 % 32 < 2 ^ 31 := by omega
  have u8 : 32 * p + W / 1048576 % 32 < 2 ^ 31 := by omega
  have u9 : W / 4096 % 8 < 2 ^ 31 := by omega
  have u10 : W / 33554432 < 2 ^ 31 := by omega
  have u11 : W / 33554432 < 2 ^ 32 := by omega
  have u12 : p < 2 ^ 31 := by omega
  by_cases cf : W / 4096 % 8 = 0
  · exact ⟨nI 0, _, _, by (simp (disch := (first | assumption | decide | omega)) only [df_X4_work, df_X4_work_0, df_X4_jump_0, df_X4_jump, df_X4_work_229, a2, ea, eb, c103, cf, a5, es, eq_self, Nat.reduceEqDiff, Nat.reduceLeDiff, nl_0, nl_1, nl_2, nl_3, nl_4, nl_5, nl_7, nl_12, nl_15, nl_19, nl_20, nl_23, nl_25, nl_31, nl_35, nl_47, nl_51, nl_55, nl_99, nl_103, nl_111, nl_115, nl_127, nl_528, nl_4096, no_1, no_1024, pk_mul, nI_add, nm_ck, nI_clamp, nI_ltI, nI_leI, nI_eq, nb_b2, nb_b1, ↓nb_let, nm_z0, nm_z1, nb_II, nb_IR, nb_RI, nb_RR, nm_IL, nm_IQ, nm_RL, nm_RQ, nm_LI, nm_LR, nm_LL, nm_LQ, nm_QI, nm_QR, nm_QL, nm_QQ, nm_rr, nm_ii, nm_eqm, not_false_eq_true, pk_sub, nm_div, nm_shl, nm_shr, nm_ush, nm_or8, nm_or64, nm_or256, nm_m1, nm_m3, nm_m7, nm_m15, nm_m31, nm_m63, nm_m255, nm_m511, nm_m1023, nm_m2047, nm_m65535, Nat.reduceMod, Nat.reducePow, Nat.reduceAdd, Nat.reduceSub, Nat.reduceMul, nm_bo, nm_bi, nm_rc, nm_ic, nm_ri, nm_rl, nm_rq, nm_ql, nm_qi, nm_li, nm_us, nm_uu, nm_cp, nm_sa31, nm_sa7, nm_m127, nm_m2, nm_nz, nm_nzk, nm_eq32, nm_nzf, if_true, if_false, ↓reduceIte, if_pos, if_neg] <;> rfl), by ((rw [wk_sw n hp a3 hW hva hvb]; simp (disch := (first | assumption | decide | omega)) only [df_X16_carry_304, df_X16_carry_562, a3, hva, hvb, c103, cf, bec, eq_self, Nat.reduceEqDiff, Nat.reduceLeDiff, nl_0, nl_1, nl_2, nl_3, nl_5, nl_8, nl_10, nl_11, nl_12, nl_15, nl_16, nl_19, nl_20, nl_21, nl_23, nl_31, nl_32, nl_35, nl_47, nl_51, nl_55, nl_99, nl_103, nl_111, nl_115, nl_4096, no_1, no_1024, pk_mul, nI_add, nm_ck, nI_clamp, nI_ltI, nI_leI, nI_eq, nb_b2, nb_b1, ↓nb_let, nm_z0, nm_z1, nb_II, nb_IR, nb_RI, nb_RR, nm_IL, nm_IQ, nm_RL, nm_RQ, nm_LI, nm_LR, nm_LL, nm_LQ, nm_QI, nm_QR, nm_QL, nm_QQ, nm_rr, nm_ii, nm_eqm, not_false_eq_true, pk_sub, nm_div, nm_shl, nm_shr, nm_ush, nm_or8, nm_or64, nm_or256, nm_m1, nm_m3, nm_m7, nm_m15, nm_m31, nm_m63, nm_m255, nm_m511, nm_m1023, nm_m2047, nm_m65535, Nat.reduceMod, Nat.reducePow, Nat.reduceAdd, Nat.reduceSub, Nat.reduceMul, nm_bo, nm_bi, nm_rc, nm_ic, nm_ri, nm_rl, nm_rq, nm_ql, nm_qi, nm_li, nm_us, nm_uu, nm_cp, nm_sa31, nm_sa7, nm_m127, nm_m2, nm_nz, nm_nzk, nm_eq32, nm_nzf, if_true, if_false, ↓reduceIte, if_pos, if_neg]) <;> rfl), a5 ▸ oH_reg h0 (d := W / 128 % 32) (by omega) (sI s.1 3) ((va + (nI W >>> nI 20)) &&& -nI 2)⟩
  · refine ⟨nI 4, s, _, by simp (disch := (first | assumption | decide | omega)) only [df_X4_work, df_X4_work_0, df_X4_work_229, a2, ea, eb, c103, cf, eq_self, Nat.reduceEqDiff, Nat.reduceLeDiff, nl_0, nl_1, nl_2, nl_3, nl_4, nl_5, nl_7, nl_12, nl_15, nl_19, nl_20, nl_23, nl_25, nl_31, nl_35, nl_47, nl_51, nl_55, nl_99, nl_103, nl_111, nl_115, nl_127, nl_528, nl_4096, no_1, no_1024, pk_mul, nI_add, nm_ck, nI_clamp, nI_ltI, nI_leI, nI_eq, nb_b2, nb_b1, ↓nb_let, nm_z0, nm_z1, nb_II, nb_IR, nb_RI, nb_RR, nm_IL, nm_IQ, nm_RL, nm_RQ, nm_LI, nm_LR, nm_LL, nm_LQ, nm_QI, nm_QR, nm_QL, nm_QQ, nm_rr, nm_ii, nm_eqm, not_false_eq_true, pk_sub, nm_div, nm_shl, nm_shr, nm_ush, nm_or8, nm_or64, nm_or256, nm_m1, nm_m3, nm_m7, nm_m15, nm_m31, nm_m63, nm_m255, nm_m511, nm_m1023, nm_m2047, nm_m65535, Nat.reduceMod, Nat.reducePow, Nat.reduceAdd, Nat.reduceSub, Nat.reduceMul, nm_bo, nm_bi, nm_rc, nm_ic, nm_ri, nm_rl, nm_rq, nm_ql, nm_qi, nm_li, nm_us, nm_uu, nm_cp, nm_sa31, nm_sa7, nm_m127, nm_m2, nm_nz, nm_nzk, nm_eq32, nm_nzf, if_true, if_false, ↓reduceIte, if_pos, if_neg], by ((rw [wk_sw n hp a3 hW hva hvb]; simp (disch := (first | assumption | decide | omega)) only [df_X16_carry_304, df_X16_carry_562, df_X16_illegal_0, df_X16_illegal, df_X16_meet_0, df_X16_meet, a3, hva, hvb, c103, cf, bec0, eq_self, Nat.reduceEqDiff, Nat.reduceLeDiff, nl_0, nl_1, nl_2, nl_3, nl_5, nl_8, nl_10, nl_11, nl_12, nl_15, nl_16, nl_19, nl_20, nl_21, nl_23, nl_31, nl_32, nl_35, nl_47, nl_51, nl_55, nl_99, nl_103, nl_111, nl_115, nl_4096, no_1, no_1024, pk_mul, nI_add, nm_ck, nI_clamp, nI_ltI, nI_leI, nI_eq, nb_b2, nb_b1, ↓nb_let, nm_z0, nm_z1, nb_II, nb_IR, nb_RI, nb_RR, nm_IL, nm_IQ, nm_RL, nm_RQ, nm_LI, nm_LR, nm_LL, nm_LQ, nm_QI, nm_QR, nm_QL, nm_QQ, nm_rr, nm_ii, nm_eqm, not_false_eq_true, pk_sub, nm_div, nm_shl, nm_shr, nm_ush, nm_or8, nm_or64, nm_or256, nm_m1, nm_m3, nm_m7, nm_m15, nm_m31, nm_m63, nm_m255, nm_m511, nm_m1023, nm_m2047, nm_m65535, Nat.reduceMod, Nat.reducePow, Nat.reduceAdd, Nat.reduceSub, Nat.reduceMul, nm_bo, nm_bi, nm_rc, nm_ic, nm_ri, nm_rl, nm_rq, nm_ql, nm_qi, nm_li, nm_us, nm_uu, nm_cp, nm_sa31, nm_sa7, nm_m127, nm_m2, nm_nz, nm_nzk, nm_eq32, nm_nzf, if_true, if_false, ↓reduceIte, if_pos, if_neg]) <;> rfl), Or.inl ⟨2, (va + (nI W >>> nI 20)) &&& -nI 2, hi, rfl, ?_⟩⟩
    simp (disch := omega) only [df_X16_carry_562, nm_ic (a := 11) (b := 10) (by decide), no_1, no_1024, pk_mul, nI_add, nm_ck, nI_clamp, nI_ltI, nI_leI, nI_eq, nb_b2, nb_b1, nb_let, nm_z0, nm_z1, nb_II, nb_IR, nb_RI, nb_RR, nm_IL, nm_IQ, nm_RL, nm_RQ, nm_LI, nm_LR, nm_LL, nm_LQ, nm_QI, nm_QR, nm_QL, nm_QQ, nm_rr, nm_ii, nm_eqm, not_false_eq_true, pk_sub, nm_div, nm_shl, nm_shr, nm_ush, nm_or8, nm_or64, nm_or256, nm_m1, nm_m3, nm_m7, nm_m15, nm_m31, nm_m63, nm_m255, nm_m511, nm_m1023, nm_m2047, nm_m65535, Nat.reduceMod, Nat.reducePow, Nat.reduceAdd, Nat.reduceSub, Nat.reduceMul, nm_bo, nm_bi, nm_rc, nm_ic, nm_ri, nm_rl, nm_rq, nm_ql, nm_qi, nm_li, nm_us, nm_uu, nm_cp, nm_sa31, nm_sa7, nm_m127, nm_m2, nm_nz, nm_nzk, nm_eq32, nm_nzf, if_true, if_false, ↓reduceIte, if_pos, if_neg]
theorem wk_111 (n : Nat) (hn : 1024 < n) {p : Nat} {s : St × (St × St)} {X : St × St} (h : rHt p s X) {W : Nat} (hW : W < 2 ^ 32) (c111 : W % 128 = 111) : ∃ (t : Int32) (s' : St × (St × St)) (X' : St × St), df_X4_work n (nI W) s = some (t, s') ∧ df_X16_carry n (nI W) X = some X' ∧ oH p s X t s' X' := by
  have h0 := h
  obtain ⟨hp, a1, a2, a3, a4, a5, a6, a7, a8, a9, a10, a11, a12, a13, a14⟩ := h
  have ea := a7 (W / 32768 % 32) (by omega)
  have eb := a7 (W / 1048576 % 32) (by omega)
  have es := fun v => nk_set n hp a2 hW v
  have bec := fun v => nk_bec n hp a3 a6 (d := W / 128 % 32) (by omega) v
  have bec0 : ∀ (me : Nat) (v : Int32), 0 < me → me < 9 → df_X16_become n (nI (W / 128 % 32)) v (pI X.1 11 (nI me), X.2) = some (pI X.1 11 (nI me), X.2) := fun me v m1 m2 => nk_bec0 n (X := (pI X.1 11 (nI me), X.2)) rfl m1 m2 _ _
  have hg : W / 33554432 % 128 = W / 33554432 := by omega
  have hi : tm (nI 4) 2 := Or.inr (Or.inl ⟨rfl, rfl⟩)
  have hva : sR X.1 9 (32 * p + W / 32768 % 32) = sR s.2.1 3 (p * 33 + W / 32768 % 32) := ea.symm
  have hvb : sR X.1 9 (32 * p + W / 1048576 % 32) = sR s.2.1 3 (p * 33 + W / 1048576 % 32) := eb.symm
  generalize sR s.2.1 3 (p * 33 + W / 32768 % 32) = va at hva
  generalize sR s.2.1 3 (p * 33 + W / 1048576 % 32) = vb at hvb
  rw [hva] at ea
  rw [hvb] at eb
  have u1 : p * 33 + W / 32768 % 32 < 528 := by omega
  have u2 : p * 33 + W / 1048576 % 32 < 528 := by omega
  have u3 : p * 33 + W / 32768 % 32 < 2 ^ 31 := by omega
  have u4 : p * 33 + W / 1048576 % 32 < 2 ^ 31 := by omega
  have u5 : 32 * p + W / 32768 % 32 < 512 := by omega
  have u6 : 32 * p + W / 1048576 % 32 < 512 := by omega
  have u7 : 32 * p + W / 32768 % 32 < 2 ^ 31 := by omega
  have u8 : 32 * p + W / 1048576 % 32 < 2 ^ 31 := by omega
  have u9 : W / 4096 % 8 < 2 ^ 31 := by omega
  have u10 : W / 33554432 < 2 ^ 31 := by omega
  have u11 : W / 33554432 < 2 ^ 32 := by omega
  have u12 : p < 2 ^ 31 := by omega
  have sc2 : ∀ v : Int32, sI (sc p (W / 128 % 32) v s).1 2 = sR X.1 10 p := fun _ => a4
  have sx12 : ∀ v : Int32, sI (sx p (W / 128 % 32) v X).1 12 = nI p := fun _ => a3
  have sx10 : ∀ v : Int32, sR (sx p (W / 128 % 32) v X).1 10 = sR X.1 10 := fun _ => rfl
  obtain ⟨q1, q2, q3, q4, o, b1, b2, b3, b4, b5, b6⟩ := nk_joff n (nI W)
  exact ⟨nI 0, _, _, by (simp (disch := (first | assumption | decide | omega)) only [df_X4_work, df_X4_work_0, a2, ea, eb, c111, a5, es, b6, sc2, eq_self, Nat.reduceEqDiff, Nat.reduceLeDiff, nl_0, nl_1, nl_2, nl_3, nl_4, nl_5, nl_7, nl_12, nl_15, nl_19, nl_20, nl_23, nl_25, nl_31, nl_35, nl_47, nl_51, nl_55, nl_99, nl_103, nl_111, nl_115, nl_127, nl_528, nl_4096, no_1, no_1024, pk_mul, nI_add, nm_ck, nI_clamp, nI_ltI, nI_leI, nI_eq, nb_b2, nb_b1, ↓nb_let, nm_z0, nm_z1, nb_II, nb_IR, nb_RI, nb_RR, nm_IL, nm_IQ, nm_RL, nm_RQ, nm_LI, nm_LR, nm_LL, nm_LQ, nm_QI, nm_QR, nm_QL, nm_QQ, nm_rr, nm_ii, nm_eqm, not_false_eq_true, pk_sub, nm_div, nm_shl, nm_shr, nm_ush, nm_or8, nm_or64, nm_or256, nm_m1, nm_m3, nm_m7, nm_m15, nm_m31, nm_m63, nm_m255, nm_m511, nm_m1023, nm_m2047, nm_m65535, Nat.reduceMod, Nat.reducePow, Nat.reduceAdd, Nat.reduceSub, Nat.reduceMul, nm_bo, nm_bi, nm_rc, nm_ic, nm_ri, nm_rl, nm_rq, nm_ql, nm_qi, nm_li, nm_us, nm_uu, nm_cp, nm_sa31, nm_sa7, nm_m127, nm_m2, nm_nz, nm_nzk, nm_eq32, nm_nzf, if_true, if_false, ↓reduceIte, if_pos, if_neg] <;> rfl), by ((rw [wk_sw n hp a3 hW hva hvb]; simp (disch := (first | assumption | decide | omega)) only [df_X16_carry_562, a3, hva, hvb, c111, bec, b1, b2, b3, b4, b5, sx12, sx10, eq_self, Nat.reduceEqDiff, Nat.reduceLeDiff, nl_0, nl_1, nl_2, nl_3, nl_5, nl_8, nl_10, nl_11, nl_12, nl_15, nl_16, nl_19, nl_20, nl_21, nl_23, nl_31, nl_32, nl_35, nl_47, nl_51, nl_55, nl_99, nl_103, nl_111, nl_115, nl_4096, no_1, no_1024, pk_mul, nI_add, nm_ck, nI_clamp, nI_ltI, nI_leI, nI_eq, nb_b2, nb_b1, ↓nb_let, nm_z0, nm_z1, nb_II, nb_IR, nb_RI, nb_RR, nm_IL, nm_IQ, nm_RL, nm_RQ, nm_LI, nm_LR, nm_LL, nm_LQ, nm_QI, nm_QR, nm_QL, nm_QQ, nm_rr, nm_ii, nm_eqm, not_false_eq_true, pk_sub, nm_div, nm_shl, nm_shr, nm_ush, nm_or8, nm_or64, nm_or256, nm_m1, nm_m3, nm_m7, nm_m15, nm_m31, nm_m63, nm_m255, nm_m511, nm_m1023, nm_m2047, nm_m65535, Nat.reduceMod, Nat.reducePow, Nat.reduceAdd, Nat.reduceSub, Nat.reduceMul, nm_bo, nm_bi, nm_rc, nm_ic, nm_ri, nm_rl, nm_rq, nm_ql, nm_qi, nm_li, nm_us, nm_uu, nm_cp, nm_sa31, nm_sa7, nm_m127, nm_m2, nm_nz, nm_nzk, nm_eq32, nm_nzf, if_true, if_false, ↓reduceIte, if_pos, if_neg]) <;> rfl), a5 ▸ a4 ▸ oH_reg h0 (d := W / 128 % 32) (by omega) (sI s.1 3) (sI s.1 2 + o)⟩
theorem wk_115 (n : Nat) (hn : 1024 < n) {p : Nat} {s : St × (St × St)} {X : St × St} (h : rHt p s X) {W : Nat} (hW : W < 2 ^ 32) (c115 : W % 128 = 115) : ∃ (t : Int32) (s' : St × (St × St)) (X' : St × St), df_X4_work n (nI W) s = some (t, s') ∧ df_X16_carry n (nI W) X = some X' ∧ oH p s X t s' X' := by
  have h0 := h
  obtain ⟨hp, a1, a2, a3, a4, a5, a6, a7, a8, a9, a10, a11, a12, a13, a14⟩ := h
  have ea := a7 (W / 32768 % 32) (by omega)
  have eb := a7 (W / 1048576 % 32) (by omega)
  have es := fun v => nk_set n hp a2 hW v
  have bec := fun v => nk_bec n hp a3 a6 (d := W / 128 % 32) (by omega) v
  have bec0 : ∀ (me : Nat) (v : Int32), 0 < me → me < 9 → df_X16_become n (nI (W / 128 % 32)) v (pI X.1 11 (nI me), X.2) = some (pI X.1 11 (nI me), X.2) := fun me v m1 m2 => nk_bec0 n (X := (pI X.1 11 (nI me), X.2)) rfl m1 m2 _ _
  have hg : W / 33554432 % 128 = W / 33554432 := by omega
  have hi : tm (nI 4) 2 := Or.inr (Or.inl ⟨rfl, rfl⟩)
  have hva : sR X.1 9 (32 * p + W / 32768 % 32) = sR s.2.1 3 (p * 33 + W / 32768 % 32) := ea.symm
  have hvb : sR X.1 9 (32 * p + W / 1048576 % 32) = sR s.2.1 3 (p * 33 + W / 1048576 % 32) := eb.symm
  generalize sR s.2.1 3 (p * 33 + W / 32768 % 32) = va at hva
  generalize sR s.2.1 3 (p * 33 + W / 1048576 % 32) = vb at hvb
  rw [hva] at ea
  rw [hvb] at eb
  have u1 : p * 33 + W / 32768 % 32 < 528 := by omega
  have u2 : p * 33 + W / 1048576 % 32 < 528 := by omega
  have u3 : p * 33 + W / 32768 % 32 < 2 ^ 31 := by omega
  have u4 : p * 33 + W / 1048576 % 32 < 2 ^ 31 := by omega
  have u5 : 32 * p + W / 32768 % 32 < 512 := by omega
  have u6 : 32 * p + W / 1048576 % 32 < 512 := by omega
  have u7 : 32 * p + W / 32768 % 32 < 2 ^ 31 := by omega
  have u8 : 32 * p + W / 1048576 % 32 < 2 ^ 31 := by omega
  have u9 : W / 4096 % 8 < 2 ^ 31 := by omega
  have u10 : W / 33554432 < 2 ^ 31 := by omega
  have u11 : W / 33554432 < 2 ^ 32 := by omega
  have u12 : p < 2 ^ 31 := by omega
  obtain ⟨t, s', X', e1, e2, o⟩ := vO_h n h0 (nk_system n h0 hW (f := W / 4096 % 8) (by omega))
  refine ⟨t, s', X', ?_, ?_, o⟩
  · simp (disch := (first | assumption | decide | omega)) only [df_X4_work, df_X4_work_0, a2, ea, eb, c115, eq_self, Nat.reduceEqDiff, Nat.reduceLeDiff, nl_0, nl_1, nl_2, nl_3, nl_4, nl_5, nl_7, nl_12, nl_15, nl_19, nl_20, nl_23, nl_25, nl_31, nl_35, nl_47, nl_51, nl_55, nl_99, nl_103, nl_111, nl_115, nl_127, nl_528, nl_4096, no_1, no_1024, pk_mul, nI_add, nm_ck, nI_clamp, nI_ltI, nI_leI, nI_eq, nb_b2, nb_b1, ↓nb_let, nm_z0, nm_z1, nb_II, nb_IR, nb_RI, nb_RR, nm_IL, nm_IQ, nm_RL, nm_RQ, nm_LI, nm_LR, nm_LL, nm_LQ, nm_QI, nm_QR, nm_QL, nm_QQ, nm_rr, nm_ii, nm_eqm, not_false_eq_true, pk_sub, nm_div, nm_shl, nm_shr, nm_ush, nm_or8, nm_or64, nm_or256, nm_m1, nm_m3, nm_m7, nm_m15, nm_m31, nm_m63, nm_m255, nm_m511, nm_m1023, nm_m2047, nm_m65535, Nat.reduceMod, Nat.reducePow, Nat.reduceAdd, Nat.reduceSub, Nat.reduceMul, nm_bo, nm_bi, nm_rc, nm_ic, nm_ri, nm_rl, nm_rq, nm_ql, nm_qi, nm_li, nm_us, nm_uu, nm_cp, nm_sa31, nm_sa7, nm_m127, nm_m2, nm_nz, nm_nzk, nm_eq32, nm_nzf, if_true, if_false, ↓reduceIte, if_pos, if_neg]
    exact e1
  · (rw [wk_sw n hp a3 hW hva hvb]; simp (disch := (first | assumption | decide | omega)) only [df_X16_carry_562, a3, hva, hvb, c115, eq_self, Nat.reduceEqDiff, Nat.reduceLeDiff, nl_0, nl_1, nl_2, nl_3, nl_5, nl_8, nl_10, nl_11, nl_12, nl_15, nl_16, nl_19, nl_20, nl_21, nl_23, nl_31, nl_32, nl_35, nl_47, nl_51, nl_55, nl_99, nl_103, nl_111, nl_115, nl_4096, no_1, no_1024, pk_mul, nI_add, nm_ck, nI_clamp, nI_ltI, nI_leI, nI_eq, nb_b2, nb_b1, ↓nb_let, nm_z0, nm_z1, nb_II, nb_IR, nb_RI, nb_RR, nm_IL, nm_IQ, nm_RL, nm_RQ, nm_LI, nm_LR, nm_LL, nm_LQ, nm_QI, nm_QR, nm_QL, nm_QQ, nm_rr, nm_ii, nm_eqm, not_false_eq_true, pk_sub, nm_div, nm_shl, nm_shr, nm_ush, nm_or8, nm_or64, nm_or256, nm_m1, nm_m3, nm_m7, nm_m15, nm_m31, nm_m63, nm_m255, nm_m511, nm_m1023, nm_m2047, nm_m65535, Nat.reduceMod, Nat.reducePow, Nat.reduceAdd, Nat.reduceSub, Nat.reduceMul, nm_bo, nm_bi, nm_rc, nm_ic, nm_ri, nm_rl, nm_rq, nm_ql, nm_qi, nm_li, nm_us, nm_uu, nm_cp, nm_sa31, nm_sa7, nm_m127, nm_m2, nm_nz, nm_nzk, nm_eq32, nm_nzf, if_true, if_false, ↓reduceIte, if_pos, if_neg])
    exact e2
theorem wk_no (n : Nat) {p : Nat} {s : St × (St × St)} {X : St × St} (h : rHt p s X) {W : Nat} (hW : W < 2 ^ 32) (c3 : ¬ W % 128 = 3) (c15 : ¬ W % 128 = 15) (c19 : ¬ W % 128 = 19) (c23 : ¬ W % 128 = 23) (c35 : ¬ W % 128 = 35) (c47 : ¬ W % 128 = 47) (c51 : ¬ W % 128 = 51) (c55 : ¬ W % 128 = 55) (c99 : ¬ W % 128 = 99) (c103 : ¬ W % 128 = 103) (c111 : ¬ W % 128 = 111) (c115 : ¬ W % 128 = 115) : ∃ (t : Int32) (s' : St × (St × St)) (X' : St × St), df_X4_work n (nI W) s = some (t, s') ∧ df_X16_carry n (nI W) X = some X' ∧ oH p s X t s' X' := by
  have h0 := h
  obtain ⟨hp, a1, a2, a3, a4, a5, a6, a7, a8, a9, a10, a11, a12, a13, a14⟩ := h
  have ea := a7 (W / 32768 % 32) (by omega)
  have eb := a7 (W / 1048576 % 32) (by omega)
  have es := fun v => nk_set n hp a2 hW v
  have bec := fun v => nk_bec n hp a3 a6 (d := W / 128 % 32) (by omega) v
  have bec0 : ∀ (me : Nat) (v : Int32), 0 < me → me < 9 → df_X16_become n (nI (W / 128 % 32)) v (pI X.1 11 (nI me), X.2) = some (pI X.1 11 (nI me), X.2) := fun me v m1 m2 => nk_bec0 n (X := (pI X.1 11 (nI me), X.2)) rfl m1 m2 _ _
  have hg : W / 33554432 % 128 = W / 33554432 := by omega
  have hi : tm (nI 4) 2 := Or.inr (Or.inl ⟨rfl, rfl⟩)
  have hva : sR X.1 9 (32 * p + W / 32768 % 32) = sR s.2.1 3 (p * 33 + W / 32768 % 32) := ea.symm
  have hvb : sR X.1 9 (32 * p + W / 1048576 % 32) = sR s.2.1 3 (p * 33 + W / 1048576 % 32) := eb.symm
  generalize sR s.2.1 3 (p * 33 + W / 32768 % 32) = va at hva
  generalize sR s.2.1 3 (p * 33 + W / 1048576 % 32) = vb at hvb
  rw [hva] at ea
  rw [hvb] at eb
  have u1 : p * 33 + W / 32768 % 32 < 528 := by omega
  have u2 : p * 33 + W / 1048576 % 32 < 528 := by omega
  have u3 : p * 33 + W / 32768 % 32 < 2 ^ 31 := by omega
  have u4 : p * 33 + W / 1048576 % 32 < 2 ^ 31 := by omega
  have u5 : 32 * p + W / 32768 % 32 < 512 := by omega
  have u6 : 32 * p + W / 1048576 % 32 < 512 := by omega
  have u7 : 32 * p + W / 32768 % 32 < 2 ^ 31 := by omega
  have u8 : 32 * p + W / 1048576 % 32 < 2 ^ 31 := by omega
  have u9 : W / 4096 % 8 < 2 ^ 31 := by omega
  have u10 : W / 33554432 < 2 ^ 31 := by omega
  have u11 : W / 33554432 < 2 ^ 32 := by omega
  have u12 : p < 2 ^ 31 := by omega
  have u13 : W % 128 < 2 ^ 31 := by omega
  exact ⟨nI 4, s, (pI X.1 11 (nI 2), X.2), by simp (disch := (first | assumption | decide | omega)) only [df_X4_work, df_X4_work_0, a2, ea, eb, c3, c15, c19, c23, c35, c47, c51, c55, c99, c103, c111, c115, eq_self, Nat.reduceEqDiff, Nat.reduceLeDiff, nl_0, nl_1, nl_2, nl_3, nl_4, nl_5, nl_7, nl_12, nl_15, nl_19, nl_20, nl_23, nl_25, nl_31, nl_35, nl_47, nl_51, nl_55, nl_99, nl_103, nl_111, nl_115, nl_127, nl_528, nl_4096, no_1, no_1024, pk_mul, nI_add, nm_ck, nI_clamp, nI_ltI, nI_leI, nI_eq, nb_b2, nb_b1, ↓nb_let, nm_z0, nm_z1, nb_II, nb_IR, nb_RI, nb_RR, nm_IL, nm_IQ, nm_RL, nm_RQ, nm_LI, nm_LR, nm_LL, nm_LQ, nm_QI, nm_QR, nm_QL, nm_QQ, nm_rr, nm_ii, nm_eqm, not_false_eq_true, pk_sub, nm_div, nm_shl, nm_shr, nm_ush, nm_or8, nm_or64, nm_or256, nm_m1, nm_m3, nm_m7, nm_m15, nm_m31, nm_m63, nm_m255, nm_m511, nm_m1023, nm_m2047, nm_m65535, Nat.reduceMod, Nat.reducePow, Nat.reduceAdd, Nat.reduceSub, Nat.reduceMul, nm_bo, nm_bi, nm_rc, nm_ic, nm_ri, nm_rl, nm_rq, nm_ql, nm_qi, nm_li, nm_us, nm_uu, nm_cp, nm_sa31, nm_sa7, nm_m127, nm_m2, nm_nz, nm_nzk, nm_eq32, nm_nzf, if_true, if_false, ↓reduceIte, if_pos, if_neg], by (rw [wk_sw n hp a3 hW hva hvb]; simp (disch := (first | assumption | decide | omega)) only [df_X16_carry_562, df_X16_illegal_0, df_X16_illegal, df_X16_meet_0, df_X16_meet, a3, hva, hvb, c3, c15, c19, c23, c35, c47, c51, c55, c99, c103, c111, c115, eq_self, Nat.reduceEqDiff, Nat.reduceLeDiff, nl_0, nl_1, nl_2, nl_3, nl_5, nl_8, nl_10, nl_11, nl_12, nl_15, nl_16, nl_19, nl_20, nl_21, nl_23, nl_31, nl_32, nl_35, nl_47, nl_51, nl_55, nl_99, nl_103, nl_111, nl_115, nl_4096, no_1, no_1024, pk_mul, nI_add, nm_ck, nI_clamp, nI_ltI, nI_leI, nI_eq, nb_b2, nb_b1, ↓nb_let, nm_z0, nm_z1, nb_II, nb_IR, nb_RI, nb_RR, nm_IL, nm_IQ, nm_RL, nm_RQ, nm_LI, nm_LR, nm_LL, nm_LQ, nm_QI, nm_QR, nm_QL, nm_QQ, nm_rr, nm_ii, nm_eqm, not_false_eq_true, pk_sub, nm_div, nm_shl, nm_shr, nm_ush, nm_or8, nm_or64, nm_or256, nm_m1, nm_m3, nm_m7, nm_m15, nm_m31, nm_m63, nm_m255, nm_m511, nm_m1023, nm_m2047, nm_m65535, Nat.reduceMod, Nat.reducePow, Nat.reduceAdd, Nat.reduceSub, Nat.reduceMul, nm_bo, nm_bi, nm_rc, nm_ic, nm_ri, nm_rl, nm_rq, nm_ql, nm_qi, nm_li, nm_us, nm_uu, nm_cp, nm_sa31, nm_sa7, nm_m127, nm_m2, nm_nz, nm_nzk, nm_eq32, nm_nzf, if_true, if_false, ↓reduceIte, if_pos, if_neg]), oH_t hi⟩
/-- one instruction, carried out by both -/
theorem nk_work (n : Nat) (hn : 1024 < n) {p : Nat} {s : St × (St × St)} {X : St × St} (h : rHt p s X) {W : Nat} (hW : W < 2 ^ 32) : ∃ (t : Int32) (s' : St × (St × St)) (X' : St × St), df_X4_work n (nI W) s = some (t, s') ∧ df_X16_carry n (nI W) X = some X' ∧ oH p s X t s' X' := by
  by_cases c3 : W % 128 = 3
  · exact wk_3 n hn h hW c3
  by_cases c15 : W % 128 = 15
  · exact wk_15 n hn h hW c15
  by_cases c19 : W % 128 = 19
  · exact wk_19 n hn h hW c19
  by_cases c23 : W % 128 = 23
  · exact wk_23 n hn h hW c23
  by_cases c35 : W % 128 = 35
  · exact wk_35 n hn h hW c35
  by_cases c47 : W % 128 = 47
  · exact wk_47 n hn h hW c47
  by_cases c51 : W % 128 = 51
  · exact wk_51 n hn h hW c51
  by_cases c55 : W % 128 = 55
  · exact wk_55 n hn h hW c55
  by_cases c99 : W % 128 = 99
  · exact wk_99 n hn h hW c99
  by_cases c103 : W % 128 = 103
  · exact wk_103 n hn h hW c103
  by_cases c111 : W % 128 = 111
  · exact wk_111 n hn h hW c111
  by_cases c115 : W % 128 = 115
  · exact wk_115 n hn h hW c115
  exact wk_no n h hW c3 c15 c19 c23 c35 c47 c51 c55 c99 c103 c111 c115

theorem wk_0 (n : Nat) {p : Nat} {s : St × (St × St)} (hp : p < 16) (a2 : sI s.1 1 = nI (p * 33)) : df_X4_work n (nI 0) s = some (nI 4, s) := by
  have u1 : p * 33 + 0 < 528 := by omega
  have e : (nI 0 >>> nI 15) &&& nI 31 = nI 0 := by decide
  have e2 : (nI 0 >>> nI 20) &&& nI 31 = nI 0 := by decide
  have e3 : nI 0 &&& nI 127 = nI 0 := by decide
  simp (disch := (first | assumption | decide | omega)) only [df_X4_work, df_X4_work_0, a2, e, e2, e3, Nat.add_zero, eq_self, Nat.reduceEqDiff, Nat.reduceLeDiff, nl_0, nl_1, nl_2, nl_3, nl_4, nl_5, nl_7, nl_12, nl_15, nl_19, nl_20, nl_23, nl_25, nl_31, nl_35, nl_47, nl_51, nl_55, nl_99, nl_103, nl_111, nl_115, nl_127, nl_528, nl_4096, no_1, no_1024, pk_mul, nI_add, nm_ck, nI_clamp, nI_ltI, nI_leI, nI_eq, nb_b2, nb_b1, ↓nb_let, nm_z0, nm_z1, nb_II, nb_IR, nb_RI, nb_RR, nm_IL, nm_IQ, nm_RL, nm_RQ, nm_LI, nm_LR, nm_LL, nm_LQ, nm_QI, nm_QR, nm_QL, nm_QQ, nm_rr, nm_ii, nm_eqm, not_false_eq_true, pk_sub, nm_div, nm_shl, nm_shr, nm_ush, nm_or8, nm_or64, nm_or256, nm_m1, nm_m3, nm_m7, nm_m15, nm_m31, nm_m63, nm_m255, nm_m511, nm_m1023, nm_m2047, nm_m65535, Nat.reduceMod, Nat.reducePow, Nat.reduceAdd, Nat.reduceSub, Nat.reduceMul, nm_bo, nm_bi, nm_rc, nm_ic, nm_ri, nm_rl, nm_rq, nm_ql, nm_qi, nm_li, nm_us, nm_uu, nm_cp, nm_sa31, nm_sa7, nm_m127, nm_m2, nm_nz, nm_nzk, nm_eq32, nm_nzf, if_true, if_false, ↓reduceIte, if_pos, if_neg]
/-- an instruction's end, in both: a trap, or the place goes on -/
def oE (p : Nat) (s : St × (St × St)) (X : St × St) (oc : Option (Int32 × (St × (St × St)))) (or : Option (Int32 × (St × St))) : Prop := (∃ (t : Int32) (me : Nat) (nx : Int32), tm t me ∧ oc = some (t, s) ∧ or = some (nI me, (pI (pI X.1 10 nx) 11 (nI me), X.2))) ∨ ∃ (rg x w u g b fr ho : Nat → Int32) (fu us re wn wr nx : Int32), oc = some (nI 0, (pI s.1 3 nx, (pL (pR (hM s.2 rg w u g fu re wn).1 3 (upd rg (p * 33 + 32) nx)) 1 (sL s.2.1 1 + 1), s.2.2))) ∧ or = some (nI 0, (pL (pR (hX X x b fr ho us re wr nx).1 10 (upd (sR X.1 10) p nx)) 0 (sL X.1 0 + 1), X.2)) ∧ rgR p s X rg x ∧ rQ w u g b fr (sR X.1 17) ho fu us ∧ okR re ∧ (∀ j : Nat, j < 1024 → (fr j = -nI 1 ↔ sR X.1 16 j = -nI 1)) ∧ wrR X p wn wr
theorem nk_exec (n : Nat) (hn : 1024 < n) {p : Nat} {s : St × (St × St)} {X : St × St} (h : rHt p s X) {W : Nat} (hW : W < 2 ^ 32) : oE p s X (df_X4_step_146 n (nI W) s) (df_X16_step_146 n (nI W) X) := by
  have h0 := h
  obtain ⟨hp, a1, a2, a3, a4, a5, a6, a7, a8, a9, a10, a11, a12, a13, a14⟩ := h
  by_cases c0 : W = 0
  · subst c0
    have w0 := wk_0 n hp a2
    refine Or.inl ⟨nI 4, 2, sI X.1 10, Or.inr (Or.inl ⟨rfl, rfl⟩), ?_, ?_⟩
    · simp (disch := (first | assumption | decide | omega)) only [df_X4_step_146, df_X4_step_185, w0, eq_self, Nat.reduceEqDiff, Nat.reduceLeDiff, nl_0, nl_1, nl_3, nl_32, nl_528, no_1, no_1024, pk_mul, nI_add, nm_ck, nI_clamp, nI_ltI, nI_leI, nI_eq, nb_b2, nb_b1, ↓nb_let, nm_z0, nm_z1, nb_II, nb_IR, nb_RI, nb_RR, nm_IL, nm_IQ, nm_RL, nm_RQ, nm_LI, nm_LR, nm_LL, nm_LQ, nm_QI, nm_QR, nm_QL, nm_QQ, nm_rr, nm_ii, nm_eqm, not_false_eq_true, pk_sub, nm_div, nm_shl, nm_shr, nm_ush, nm_or8, nm_or64, nm_or256, nm_m1, nm_m3, nm_m7, nm_m15, nm_m31, nm_m63, nm_m255, nm_m511, nm_m1023, nm_m2047, nm_m65535, Nat.reduceMod, Nat.reducePow, Nat.reduceAdd, Nat.reduceSub, Nat.reduceMul, nm_bo, nm_bi, nm_rc, nm_ic, nm_ri, nm_rl, nm_rq, nm_ql, nm_qi, nm_li, nm_us, nm_uu, nm_cp, nm_sa31, nm_sa7, nm_m127, nm_m2, nm_nz, nm_nzk, nm_eq32, nm_nzf, if_true, if_false, ↓reduceIte, if_pos, if_neg]
    · rw [nm_i0]
      simp (disch := (first | assumption | decide | omega)) only [df_X16_step_146, df_X16_step_164, df_X16_illegal_0, df_X16_illegal, df_X16_meet_0, df_X16_meet, eq_self, Nat.reduceEqDiff, Nat.reduceLeDiff, nl_0, nl_1, nl_2, nl_10, nl_11, nl_12, nl_16, no_1, no_1024, pk_mul, nI_add, nm_ck, nI_clamp, nI_ltI, nI_leI, nI_eq, nb_b2, nb_b1, ↓nb_let, nm_z0, nm_z1, nb_II, nb_IR, nb_RI, nb_RR, nm_IL, nm_IQ, nm_RL, nm_RQ, nm_LI, nm_LR, nm_LL, nm_LQ, nm_QI, nm_QR, nm_QL, nm_QQ, nm_rr, nm_ii, nm_eqm, not_false_eq_true, pk_sub, nm_div, nm_shl, nm_shr, nm_ush, nm_or8, nm_or64, nm_or256, nm_m1, nm_m3, nm_m7, nm_m15, nm_m31, nm_m63, nm_m255, nm_m511, nm_m1023, nm_m2047, nm_m65535, Nat.reduceMod, Nat.reducePow, Nat.reduceAdd, Nat.reduceSub, Nat.reduceMul, nm_bo, nm_bi, nm_rc, nm_ic, nm_ri, nm_rl, nm_rq, nm_ql, nm_qi, nm_li, nm_us, nm_uu, nm_cp, nm_sa31, nm_sa7, nm_m127, nm_m2, nm_nz, nm_nzk, nm_eq32, nm_nzf, if_true, if_false, ↓reduceIte, if_pos, if_neg]
  · obtain ⟨t, s', X', e1, e2, o⟩ := nk_work n hn h0 hW
    rcases o with ⟨me, nx, ht, rfl, rfl⟩ | ⟨rfl, rg, x, w, u, g, b, fr, ho, fu, us, re, wn, wr, nx, rfl, rfl, o1, o2, o3, o4, o5⟩
    · refine Or.inl ⟨t, me, nx, ht, ?_, ?_⟩
      · have ht0 := tm_t ht
        simp (disch := (first | assumption | decide | omega)) only [df_X4_step_146, df_X4_step_185, e1, ht0, eq_self, Nat.reduceEqDiff, Nat.reduceLeDiff, nl_0, nl_1, nl_3, nl_32, nl_528, no_1, no_1024, pk_mul, nI_add, nm_ck, nI_clamp, nI_ltI, nI_leI, nI_eq, nb_b2, nb_b1, ↓nb_let, nm_z0, nm_z1, nb_II, nb_IR, nb_RI, nb_RR, nm_IL, nm_IQ, nm_RL, nm_RQ, nm_LI, nm_LR, nm_LL, nm_LQ, nm_QI, nm_QR, nm_QL, nm_QQ, nm_rr, nm_ii, nm_eqm, not_false_eq_true, pk_sub, nm_div, nm_shl, nm_shr, nm_ush, nm_or8, nm_or64, nm_or256, nm_m1, nm_m3, nm_m7, nm_m15, nm_m31, nm_m63, nm_m255, nm_m511, nm_m1023, nm_m2047, nm_m65535, Nat.reduceMod, Nat.reducePow, Nat.reduceAdd, Nat.reduceSub, Nat.reduceMul, nm_bo, nm_bi, nm_rc, nm_ic, nm_ri, nm_rl, nm_rq, nm_ql, nm_qi, nm_li, nm_us, nm_uu, nm_cp, nm_sa31, nm_sa7, nm_m127, nm_m2, nm_nz, nm_nzk, nm_eq32, nm_nzf, if_true, if_false, ↓reduceIte, if_pos, if_neg]
      · obtain ⟨m1, m2⟩ := tm_me ht
        have m3 : ¬ me ≤ 0 := by omega
        simp (disch := (first | assumption | decide | omega)) only [df_X16_step_146, df_X16_step_164, e2, c0, m3, eq_self, Nat.reduceEqDiff, Nat.reduceLeDiff, nl_0, nl_1, nl_10, nl_11, nl_12, nl_16, no_1, no_1024, pk_mul, nI_add, nm_ck, nI_clamp, nI_ltI, nI_leI, nI_eq, nb_b2, nb_b1, ↓nb_let, nm_z0, nm_z1, nb_II, nb_IR, nb_RI, nb_RR, nm_IL, nm_IQ, nm_RL, nm_RQ, nm_LI, nm_LR, nm_LL, nm_LQ, nm_QI, nm_QR, nm_QL, nm_QQ, nm_rr, nm_ii, nm_eqm, not_false_eq_true, pk_sub, nm_div, nm_shl, nm_shr, nm_ush, nm_or8, nm_or64, nm_or256, nm_m1, nm_m3, nm_m7, nm_m15, nm_m31, nm_m63, nm_m255, nm_m511, nm_m1023, nm_m2047, nm_m65535, Nat.reduceMod, Nat.reducePow, Nat.reduceAdd, Nat.reduceSub, Nat.reduceMul, nm_bo, nm_bi, nm_rc, nm_ic, nm_ri, nm_rl, nm_rq, nm_ql, nm_qi, nm_li, nm_us, nm_uu, nm_cp, nm_sa31, nm_sa7, nm_m127, nm_m2, nm_nz, nm_nzk, nm_eq32, nm_nzf, if_true, if_false, ↓reduceIte, if_pos, if_neg]
    · refine Or.inr ⟨rg, x, w, u, g, b, fr, ho, fu, us, re, wn, wr, nx, ?_, ?_, o1, o2, o3, o4, o5⟩
      · have f1 : sI (pI s.1 3 nx) 1 = nI (p * 33) := a2
        have f2 : sR (hM s.2 rg w u g fu re wn).1 3 = rg := rfl
        have f3 : ∀ z : Nat → Int32, sL (pR (hM s.2 rg w u g fu re wn).1 3 z) 1 = sL s.2.1 1 := fun _ => rfl
        have u1 : p * 33 + 32 < 528 := by omega
        simp (disch := (first | assumption | decide | omega)) only [df_X4_step_146, df_X4_step_185, e1, f1, f2, f3, eq_self, Nat.reduceEqDiff, Nat.reduceLeDiff, nl_0, nl_1, nl_3, nl_32, nl_528, no_1, no_1024, pk_mul, nI_add, nm_ck, nI_clamp, nI_ltI, nI_leI, nI_eq, nb_b2, nb_b1, ↓nb_let, nm_z0, nm_z1, nb_II, nb_IR, nb_RI, nb_RR, nm_IL, nm_IQ, nm_RL, nm_RQ, nm_LI, nm_LR, nm_LL, nm_LQ, nm_QI, nm_QR, nm_QL, nm_QQ, nm_rr, nm_ii, nm_eqm, not_false_eq_true, pk_sub, nm_div, nm_shl, nm_shr, nm_ush, nm_or8, nm_or64, nm_or256, nm_m1, nm_m3, nm_m7, nm_m15, nm_m31, nm_m63, nm_m255, nm_m511, nm_m1023, nm_m2047, nm_m65535, Nat.reduceMod, Nat.reducePow, Nat.reduceAdd, Nat.reduceSub, Nat.reduceMul, nm_bo, nm_bi, nm_rc, nm_ic, nm_ri, nm_rl, nm_rq, nm_ql, nm_qi, nm_li, nm_us, nm_uu, nm_cp, nm_sa31, nm_sa7, nm_m127, nm_m2, nm_nz, nm_nzk, nm_eq32, nm_nzf, if_true, if_false, ↓reduceIte, if_pos, if_neg]
        rfl
      · have f1 : sI (hX X x b fr ho us re wr nx).1 11 = nI 0 := a6
        have f2 : sI (hX X x b fr ho us re wr nx).1 12 = nI p := a3
        have f3 : sI (hX X x b fr ho us re wr nx).1 10 = nx := rfl
        have f4 : sR (hX X x b fr ho us re wr nx).1 10 = sR X.1 10 := rfl
        have f5 : ∀ z : Nat → Int32, sL (pR (hX X x b fr ho us re wr nx).1 10 z) 0 = sL X.1 0 := fun _ => rfl
        simp (disch := (first | assumption | decide | omega)) only [df_X16_step_146, df_X16_step_164, e2, c0, f1, f2, f3, f4, f5, eq_self, Nat.reduceEqDiff, Nat.reduceLeDiff, nl_0, nl_1, nl_10, nl_11, nl_12, nl_16, no_1, no_1024, pk_mul, nI_add, nm_ck, nI_clamp, nI_ltI, nI_leI, nI_eq, nb_b2, nb_b1, ↓nb_let, nm_z0, nm_z1, nb_II, nb_IR, nb_RI, nb_RR, nm_IL, nm_IQ, nm_RL, nm_RQ, nm_LI, nm_LR, nm_LL, nm_LQ, nm_QI, nm_QR, nm_QL, nm_QQ, nm_rr, nm_ii, nm_eqm, not_false_eq_true, pk_sub, nm_div, nm_shl, nm_shr, nm_ush, nm_or8, nm_or64, nm_or256, nm_m1, nm_m3, nm_m7, nm_m15, nm_m31, nm_m63, nm_m255, nm_m511, nm_m1023, nm_m2047, nm_m65535, Nat.reduceMod, Nat.reducePow, Nat.reduceAdd, Nat.reduceSub, Nat.reduceMul, nm_bo, nm_bi, nm_rc, nm_ic, nm_ri, nm_rl, nm_rq, nm_ql, nm_qi, nm_li, nm_us, nm_uu, nm_cp, nm_sa31, nm_sa7, nm_m127, nm_m2, nm_nz, nm_nzk, nm_eq32, nm_nzf, if_true, if_false, ↓reduceIte, if_pos, if_neg]
        rfl

/-- the reference's cells that no answer shows: the instruction's bits and size, what comes next, what was met -/
def zS (X : St × St) (a b c d : Int32) : St × St := (pI (pI (pI (pI X.1 8 a) 9 b) 10 c) 11 d, X.2)
theorem zS_id (X : St × St) : zS X (sI X.1 8) (sI X.1 9) (sI X.1 10) (sI X.1 11) = X := by
  unfold zS
  rw [nm_i0, nm_i0, nm_i0, nm_i0]
theorem z8 (X : St × St) (a b c d v : Int32) : (pI (zS X a b c d).1 8 v, (zS X a b c d).2) = zS X v b c d := by
  unfold zS
  simp (disch := omega) only [df_X16_step_30, nm_ic (a := 9) (b := 8) (by decide), nm_ic (a := 10) (b := 8) (by decide), nm_ic (a := 10) (b := 9) (by decide), nm_ic (a := 11) (b := 8) (by decide), nm_ic (a := 11) (b := 9) (by decide), nm_ic (a := 11) (b := 10) (by decide), nl_1, no_1, no_1024, pk_mul, nI_add, nm_ck, nI_clamp, nI_ltI, nI_leI, nI_eq, nb_b2, nb_b1, nb_let, nm_z0, nm_z1, nb_II, nb_IR, nb_RI, nb_RR, nm_IL, nm_IQ, nm_RL, nm_RQ, nm_LI, nm_LR, nm_LL, nm_LQ, nm_QI, nm_QR, nm_QL, nm_QQ, nm_rr, nm_ii, nm_eqm, not_false_eq_true, pk_sub, nm_div, nm_shl, nm_shr, nm_ush, nm_or8, nm_or64, nm_or256, nm_m1, nm_m3, nm_m7, nm_m15, nm_m31, nm_m63, nm_m255, nm_m511, nm_m1023, nm_m2047, nm_m65535, Nat.reduceMod, Nat.reducePow, Nat.reduceAdd, Nat.reduceSub, Nat.reduceMul, nm_bo, nm_bi, nm_rc, nm_ic, nm_ri, nm_rl, nm_rq, nm_ql, nm_qi, nm_li, nm_us, nm_uu, nm_cp, nm_sa31, nm_sa7, nm_m127, nm_m2, nm_nz, nm_nzk, nm_eq32, nm_nzf, if_true, if_false, ↓reduceIte, if_pos, if_neg]
theorem z9 (X : St × St) (a b c d v : Int32) : (pI (zS X a b c d).1 9 v, (zS X a b c d).2) = zS X a v c d := by
  unfold zS
  simp (disch := omega) only [df_X16_step_30, nm_ic (a := 9) (b := 8) (by decide), nm_ic (a := 10) (b := 8) (by decide), nm_ic (a := 10) (b := 9) (by decide), nm_ic (a := 11) (b := 8) (by decide), nm_ic (a := 11) (b := 9) (by decide), nm_ic (a := 11) (b := 10) (by decide), nl_1, no_1, no_1024, pk_mul, nI_add, nm_ck, nI_clamp, nI_ltI, nI_leI, nI_eq, nb_b2, nb_b1, nb_let, nm_z0, nm_z1, nb_II, nb_IR, nb_RI, nb_RR, nm_IL, nm_IQ, nm_RL, nm_RQ, nm_LI, nm_LR, nm_LL, nm_LQ, nm_QI, nm_QR, nm_QL, nm_QQ, nm_rr, nm_ii, nm_eqm, not_false_eq_true, pk_sub, nm_div, nm_shl, nm_shr, nm_ush, nm_or8, nm_or64, nm_or256, nm_m1, nm_m3, nm_m7, nm_m15, nm_m31, nm_m63, nm_m255, nm_m511, nm_m1023, nm_m2047, nm_m65535, Nat.reduceMod, Nat.reducePow, Nat.reduceAdd, Nat.reduceSub, Nat.reduceMul, nm_bo, nm_bi, nm_rc, nm_ic, nm_ri, nm_rl, nm_rq, nm_ql, nm_qi, nm_li, nm_us, nm_uu, nm_cp, nm_sa31, nm_sa7, nm_m127, nm_m2, nm_nz, nm_nzk, nm_eq32, nm_nzf, if_true, if_false, ↓reduceIte, if_pos, if_neg]
theorem z10 (X : St × St) (a b c d v : Int32) : (pI (zS X a b c d).1 10 v, (zS X a b c d).2) = zS X a b v d := by
  unfold zS
  simp (disch := omega) only [df_X16_step_30, nm_ic (a := 9) (b := 8) (by decide), nm_ic (a := 10) (b := 8) (by decide), nm_ic (a := 10) (b := 9) (by decide), nm_ic (a := 11) (b := 8) (by decide), nm_ic (a := 11) (b := 9) (by decide), nm_ic (a := 11) (b := 10) (by decide), nl_1, no_1, no_1024, pk_mul, nI_add, nm_ck, nI_clamp, nI_ltI, nI_leI, nI_eq, nb_b2, nb_b1, nb_let, nm_z0, nm_z1, nb_II, nb_IR, nb_RI, nb_RR, nm_IL, nm_IQ, nm_RL, nm_RQ, nm_LI, nm_LR, nm_LL, nm_LQ, nm_QI, nm_QR, nm_QL, nm_QQ, nm_rr, nm_ii, nm_eqm, not_false_eq_true, pk_sub, nm_div, nm_shl, nm_shr, nm_ush, nm_or8, nm_or64, nm_or256, nm_m1, nm_m3, nm_m7, nm_m15, nm_m31, nm_m63, nm_m255, nm_m511, nm_m1023, nm_m2047, nm_m65535, Nat.reduceMod, Nat.reducePow, Nat.reduceAdd, Nat.reduceSub, Nat.reduceMul, nm_bo, nm_bi, nm_rc, nm_ic, nm_ri, nm_rl, nm_rq, nm_ql, nm_qi, nm_li, nm_us, nm_uu, nm_cp, nm_sa31, nm_sa7, nm_m127, nm_m2, nm_nz, nm_nzk, nm_eq32, nm_nzf, if_true, if_false, ↓reduceIte, if_pos, if_neg]
theorem z11 (X : St × St) (a b c d v : Int32) : (pI (zS X a b c d).1 11 v, (zS X a b c d).2) = zS X a b c v := by
  unfold zS
  simp (disch := omega) only [df_X16_step_30, nm_ic (a := 9) (b := 8) (by decide), nm_ic (a := 10) (b := 8) (by decide), nm_ic (a := 10) (b := 9) (by decide), nm_ic (a := 11) (b := 8) (by decide), nm_ic (a := 11) (b := 9) (by decide), nm_ic (a := 11) (b := 10) (by decide), nl_1, no_1, no_1024, pk_mul, nI_add, nm_ck, nI_clamp, nI_ltI, nI_leI, nI_eq, nb_b2, nb_b1, nb_let, nm_z0, nm_z1, nb_II, nb_IR, nb_RI, nb_RR, nm_IL, nm_IQ, nm_RL, nm_RQ, nm_LI, nm_LR, nm_LL, nm_LQ, nm_QI, nm_QR, nm_QL, nm_QQ, nm_rr, nm_ii, nm_eqm, not_false_eq_true, pk_sub, nm_div, nm_shl, nm_shr, nm_ush, nm_or8, nm_or64, nm_or256, nm_m1, nm_m3, nm_m7, nm_m15, nm_m31, nm_m63, nm_m255, nm_m511, nm_m1023, nm_m2047, nm_m65535, Nat.reduceMod, Nat.reducePow, Nat.reduceAdd, Nat.reduceSub, Nat.reduceMul, nm_bo, nm_bi, nm_rc, nm_ic, nm_ri, nm_rl, nm_rq, nm_ql, nm_qi, nm_li, nm_us, nm_uu, nm_cp, nm_sa31, nm_sa7, nm_m127, nm_m2, nm_nz, nm_nzk, nm_eq32, nm_nzf, if_true, if_false, ↓reduceIte, if_pos, if_neg]
theorem zI8 (X : St × St) (a b c d : Int32) : sI (zS X a b c d).1 8 = a := Eq.trans (b := sI (pI (pI (pI (pI X.1 8 a) 9 b) 10 c) 11 d) 8) rfl rfl
theorem zI9 (X : St × St) (a b c d : Int32) : sI (zS X a b c d).1 9 = b := Eq.trans (b := sI (pI (pI (pI (pI X.1 8 a) 9 b) 10 c) 11 d) 9) rfl rfl
theorem zI10 (X : St × St) (a b c d : Int32) : sI (zS X a b c d).1 10 = c := Eq.trans (b := sI (pI (pI (pI (pI X.1 8 a) 9 b) 10 c) 11 d) 10) rfl rfl
theorem zI11 (X : St × St) (a b c d : Int32) : sI (zS X a b c d).1 11 = d := Eq.trans (b := sI (pI (pI (pI (pI X.1 8 a) 9 b) 10 c) 11 d) 11) rfl rfl
theorem zI12 (X : St × St) (a b c d : Int32) : sI (zS X a b c d).1 12 = sI X.1 12 := Eq.trans (b := sI (pI (pI (pI (pI X.1 8 a) 9 b) 10 c) 11 d) 12) rfl rfl
theorem zR (X : St × St) (a b c d : Int32) (k : Nat) : sR (zS X a b c d).1 k = sR X.1 k := Eq.trans (b := sR (pI (pI (pI (pI X.1 8 a) 9 b) 10 c) 11 d) k) rfl rfl
theorem ma_even (X : St × St) {p A q : Nat} (h : A % 2 = 0) : ma X p (A + 1) q = ma X p A q := by
  unfold ma
  by_cases c : A < 65536
  · rw [decide_eq_true c, decide_eq_true (show A + 1 < 65536 by omega), show (A + 1) / 1024 = A / 1024 from by omega]
  · rw [decide_eq_false c, decide_eq_false (show ¬ A + 1 < 65536 by omega), Bool.false_and, Bool.false_and]
theorem nk_fet (n : Nat) {M X : St × St} (h : rK M X) {p A : Nat} (hp : p < 16) (h12 : sI X.1 12 = nI p) (hA : A < 2 ^ 32) (e : A % 2 = 0) : df_X16_fetches n (nI A) X = some (bI (ma X p A 4), X) := by
  have m1 := (nk_may n h hp hA (q := 4) (by omega)).2
  have m2 := (nk_may n h hp (A := A + 1) (q := 4) (by omega) (by omega)).2
  rw [ma_even X e] at m2
  cases c : ma X p A 4 with
  | false =>
    rw [c] at m1
    simp (disch := (first | assumption | decide | omega)) only [df_X16_fetches_33, df_X16_fetches_32, df_X16_fetches_0, df_X16_fetches, h12, m1, bI_f, eq_self, Nat.reduceEqDiff, Nat.reduceLeDiff, nl_0, nl_1, nl_4, nl_12, no_1, no_1024, pk_mul, nI_add, nm_ck, nI_clamp, nI_ltI, nI_leI, nI_eq, nb_b2, nb_b1, ↓nb_let, nm_z0, nm_z1, nb_II, nb_IR, nb_RI, nb_RR, nm_IL, nm_IQ, nm_RL, nm_RQ, nm_LI, nm_LR, nm_LL, nm_LQ, nm_QI, nm_QR, nm_QL, nm_QQ, nm_rr, nm_ii, nm_eqm, not_false_eq_true, pk_sub, nm_div, nm_shl, nm_shr, nm_ush, nm_or8, nm_or64, nm_or256, nm_m1, nm_m3, nm_m7, nm_m15, nm_m31, nm_m63, nm_m255, nm_m511, nm_m1023, nm_m2047, nm_m65535, Nat.reduceMod, Nat.reducePow, Nat.reduceAdd, Nat.reduceSub, Nat.reduceMul, nm_bo, nm_bi, nm_rc, nm_ic, nm_ri, nm_rl, nm_rq, nm_ql, nm_qi, nm_li, nm_us, nm_uu, nm_cp, nm_sa31, nm_sa7, nm_m127, nm_m2, nm_nz, nm_nzk, nm_eq32, nm_nzf, if_true, if_false, ↓reduceIte, if_pos, if_neg]
  | true =>
    rw [c] at m1 m2
    simp (disch := (first | assumption | decide | omega)) only [df_X16_fetches_33, df_X16_fetches_32, df_X16_fetches_0, df_X16_fetches, h12, m1, m2, bI_t, eq_self, Nat.reduceEqDiff, Nat.reduceLeDiff, nl_0, nl_1, nl_4, nl_12, no_1, no_1024, pk_mul, nI_add, nm_ck, nI_clamp, nI_ltI, nI_leI, nI_eq, nb_b2, nb_b1, ↓nb_let, nm_z0, nm_z1, nb_II, nb_IR, nb_RI, nb_RR, nm_IL, nm_IQ, nm_RL, nm_RQ, nm_LI, nm_LR, nm_LL, nm_LQ, nm_QI, nm_QR, nm_QL, nm_QQ, nm_rr, nm_ii, nm_eqm, not_false_eq_true, pk_sub, nm_div, nm_shl, nm_shr, nm_ush, nm_or8, nm_or64, nm_or256, nm_m1, nm_m3, nm_m7, nm_m15, nm_m31, nm_m63, nm_m255, nm_m511, nm_m1023, nm_m2047, nm_m65535, Nat.reduceMod, Nat.reducePow, Nat.reduceAdd, Nat.reduceSub, Nat.reduceMul, nm_bo, nm_bi, nm_rc, nm_ic, nm_ri, nm_rl, nm_rq, nm_ql, nm_qi, nm_li, nm_us, nm_uu, nm_cp, nm_sa31, nm_sa7, nm_m127, nm_m2, nm_nz, nm_nzk, nm_eq32, nm_nzf, if_true, if_false, ↓reduceIte, if_pos, if_neg]
/-- two machines before an instruction of process p -/
def rPre (p : Nat) (M X : St × St) : Prop := p < 16 ∧ sI X.1 12 = nI p ∧ (∀ r : Nat, r < 32 → sR M.1 3 (p * 33 + r) = sR X.1 9 (32 * p + r)) ∧ sR M.1 3 (p * 33 + 32) = sR X.1 10 p ∧ rK M X ∧ sI M.1 6 = sI X.1 4 ∧ okR (sI X.1 4) ∧ sL M.1 0 = sL X.1 1 ∧ sL M.1 1 = sL X.1 0 ∧ sI X.1 16 = nI 0 ∧ sI M.1 7 = nI 0
theorem rPre_h {p : Nat} {M X : St × St} (h : rPre p M X) (H : St) (a b c : Int32) : rHt p (pI (pI (pI (pI H 0 (nI p)) 1 (nI (p * 33))) 2 (sR X.1 10 p)) 3 c, M) (zS X a b c (nI 0)) := by
  obtain ⟨hp, a3, a7, ap, a8, a9, a10, a11, a12, a13, a14⟩ := h
  exact ⟨hp, rfl, rfl, a3, rfl, rfl, rfl, a7, a8, a9, a10, a11, a12, a13, a14⟩
/-- what a step leaves -/
def oS (p : Nat) (M X : St × St) (oc : Option (Int32 × (St × (St × St)))) (or : Option (Int32 × (St × St))) : Prop := (∃ (t : Int32) (me : Nat) (H : St) (a b c : Int32), tm t me ∧ oc = some (t, (H, M)) ∧ or = some (nI me, zS X a b c (nI me)) ) ∨ (∃ (H : St) (a b c : Int32), oc = some (nI 11, (H, M)) ∧ or = some (nI 1, zS X a b c (nI 0))) ∨ ∃ (rg x w u g b fr ho : Nat → Int32) (fu us re wn wr nx a' b' : Int32) (H : St), oc = some (nI 0, (H, (pL (pR (hM M rg w u g fu re wn).1 3 (upd rg (p * 33 + 32) nx)) 1 (sL M.1 1 + 1), M.2))) ∧ or = some (nI 0, (pL (pR (hX (zS X a' b' nx (nI 0)) x b fr ho us re wr nx).1 10 (upd (sR X.1 10) p nx)) 0 (sL X.1 0 + 1), X.2)) ∧ rgR p (H, M) X rg x ∧ rQ w u g b fr (sR X.1 17) ho fu us ∧ okR re ∧ (∀ j : Nat, j < 1024 → (fr j = -nI 1 ↔ sR X.1 16 j = -nI 1)) ∧ wrR X p wn wr
theorem wvs_z (X : St × St) (a b c d wr : Int32) (p A : Nat) : ∀ k : Nat, wvs (zS X a b c d) wr p A k = wvs X wr p A k
  | 0 => rfl
  | k + 1 => by
    show wv (zS X a b c d) (wvs (zS X a b c d) wr p A k) p (A + k) = wv X (wvs X wr p A k) p (A + k)
    rw [wvs_z X a b c d wr p A k]
    rfl
theorem oE_s {p : Nat} {M X : St × St} {H : St} {a b c : Int32} {oc : Option (Int32 × (St × (St × St)))} {or : Option (Int32 × (St × St))} (z : oE p (H, M) (zS X a b c (nI 0)) oc or) : oS p M X oc or := by
  rcases z with ⟨t, me, nx, ht, e1, e2⟩ | ⟨rg, x, w, u, g, b1, fr, ho, fu, us, re, wn, wr, nx, e1, e2, o1, o2, o3, o4, o5⟩
  · refine Or.inl ⟨t, me, H, a, b, nx, ht, e1, ?_⟩
    rw [e2]
    refine congrArg (fun q => some (nI me, q)) ?_
    unfold zS
    simp (disch := omega) only [df_X16_step_30, nm_ic (a := 9) (b := 8) (by decide), nm_ic (a := 10) (b := 8) (by decide), nm_ic (a := 10) (b := 9) (by decide), nm_ic (a := 11) (b := 8) (by decide), nm_ic (a := 11) (b := 9) (by decide), nm_ic (a := 11) (b := 10) (by decide), nl_1, no_1, no_1024, pk_mul, nI_add, nm_ck, nI_clamp, nI_ltI, nI_leI, nI_eq, nb_b2, nb_b1, nb_let, nm_z0, nm_z1, nb_II, nb_IR, nb_RI, nb_RR, nm_IL, nm_IQ, nm_RL, nm_RQ, nm_LI, nm_LR, nm_LL, nm_LQ, nm_QI, nm_QR, nm_QL, nm_QQ, nm_rr, nm_ii, nm_eqm, not_false_eq_true, pk_sub, nm_div, nm_shl, nm_shr, nm_ush, nm_or8, nm_or64, nm_or256, nm_m1, nm_m3, nm_m7, nm_m15, nm_m31, nm_m63, nm_m255, nm_m511, nm_m1023, nm_m2047, nm_m65535, Nat.reduceMod, Nat.reducePow, Nat.reduceAdd, Nat.reduceSub, Nat.reduceMul, nm_bo, nm_bi, nm_rc, nm_ic, nm_ri, nm_rl, nm_rq, nm_ql, nm_qi, nm_li, nm_us, nm_uu, nm_cp, nm_sa31, nm_sa7, nm_m127, nm_m2, nm_nz, nm_nzk, nm_eq32, nm_nzf, if_true, if_false, ↓reduceIte, if_pos, if_neg]
  · refine Or.inr (Or.inr ⟨rg, x, w, u, g, b1, fr, ho, fu, us, re, wn, wr, nx, a, b, pI H 3 nx, e1, ?_, o1, o2, o3, o4, ?_⟩)
    · rw [e2]
      refine congrArg (fun q => some (nI 0, (pL (pR q 10 (upd (sR X.1 10) p nx)) 0 (sL X.1 0 + 1), X.2))) ?_
      unfold hX zS
      simp (disch := omega) only [df_X16_step_30, nm_rc (a := 15) (b := 9) (by decide), nm_rc (a := 16) (b := 9) (by decide), nm_rc (a := 16) (b := 15) (by decide), nm_rc (a := 18) (b := 9) (by decide), nm_rc (a := 18) (b := 15) (by decide), nm_rc (a := 18) (b := 16) (by decide), nm_ic (a := 6) (b := 4) (by decide), nm_ic (a := 8) (b := 4) (by decide), nm_ic (a := 8) (b := 6) (by decide), nm_ic (a := 9) (b := 4) (by decide), nm_ic (a := 9) (b := 6) (by decide), nm_ic (a := 9) (b := 8) (by decide), nm_ic (a := 10) (b := 4) (by decide), nm_ic (a := 10) (b := 6) (by decide), nm_ic (a := 10) (b := 8) (by decide), nm_ic (a := 10) (b := 9) (by decide), nm_ic (a := 11) (b := 4) (by decide), nm_ic (a := 11) (b := 6) (by decide), nm_ic (a := 11) (b := 8) (by decide), nm_ic (a := 11) (b := 9) (by decide), nm_ic (a := 11) (b := 10) (by decide), nm_ic (a := 16) (b := 4) (by decide), nm_ic (a := 16) (b := 6) (by decide), nm_ic (a := 16) (b := 8) (by decide), nm_ic (a := 16) (b := 9) (by decide), nm_ic (a := 16) (b := 10) (by decide), nm_ic (a := 16) (b := 11) (by decide), nl_1, no_1, no_1024, pk_mul, nI_add, nm_ck, nI_clamp, nI_ltI, nI_leI, nI_eq, nb_b2, nb_b1, nb_let, nm_z0, nm_z1, nb_II, nb_IR, nb_RI, nb_RR, nm_IL, nm_IQ, nm_RL, nm_RQ, nm_LI, nm_LR, nm_LL, nm_LQ, nm_QI, nm_QR, nm_QL, nm_QQ, nm_rr, nm_ii, nm_eqm, not_false_eq_true, pk_sub, nm_div, nm_shl, nm_shr, nm_ush, nm_or8, nm_or64, nm_or256, nm_m1, nm_m3, nm_m7, nm_m15, nm_m31, nm_m63, nm_m255, nm_m511, nm_m1023, nm_m2047, nm_m65535, Nat.reduceMod, Nat.reducePow, Nat.reduceAdd, Nat.reduceSub, Nat.reduceMul, nm_bo, nm_bi, nm_rc, nm_ic, nm_ri, nm_rl, nm_rq, nm_ql, nm_qi, nm_li, nm_us, nm_uu, nm_cp, nm_sa31, nm_sa7, nm_m127, nm_m2, nm_nz, nm_nzk, nm_eq32, nm_nzf, if_true, if_false, ↓reduceIte, if_pos, if_neg]
    · rcases o5 with o5 | ⟨A, k, k1, k2, k3, k4, k5⟩
      · exact Or.inl o5
      · exact Or.inr ⟨A, k, k1, k2, k3, k4, by rw [k5, wvs_z]⟩

theorem ex_ite {c : Prop} {i : Decidable c} {a b : Option (Int32 × Unit)} (ha : ∃ w : Int32, a = some (w, ())) (hb : ∃ w : Int32, b = some (w, ())) : ∃ w : Int32, @ite _ c i a b = some (w, ()) := by
  by_cases z : c
  · rw [if_pos z]; exact ha
  · rw [if_neg z]; exact hb
theorem z89 (X : St × St) (a b c d u v : Int32) : (pI (pI (zS X a b c d).1 8 u) 9 v, (zS X a b c d).2) = zS X u v c d := (congrArg (fun q => (pI q.1 9 v, q.2)) (z8 X a b c d u)).trans (z9 X u b c d v)
theorem z80 (X : St × St) (a b c d u w : Int32) : (pI (pI (zS X a b c d).1 8 u) 10 w, (zS X a b c d).2) = zS X u b w d := (congrArg (fun q => (pI q.1 10 w, q.2)) (z8 X a b c d u)).trans (z10 X u b c d w)
theorem z890 (X : St × St) (a b c d u v w : Int32) : (pI (pI (pI (zS X a b c d).1 8 u) 9 v) 10 w, (zS X a b c d).2) = zS X u v w d := (congrArg (fun q => (pI q.1 10 w, q.2)) (z89 X a b c d u v)).trans (z10 X u v c d w)
theorem ex_first (n : Nat) (h : Int32) : ∃ w : Int32, df_X4_expandedFirst n h () = some (w, ()) := by
  repeat' (first | apply ex_ite | exact ⟨_, rfl⟩)
theorem ex_second (n : Nat) (h : Int32) : ∃ w : Int32, df_X4_expandedSecond n h () = some (w, ()) := by
  repeat' (first | apply ex_ite | exact ⟨_, rfl⟩)
theorem ex_third (n : Nat) (h : Int32) : ∃ w : Int32, df_X4_expandedThird n h () = some (w, ()) := by
  repeat' (first | apply ex_ite | exact ⟨_, rfl⟩)
theorem ex_sums (n : Nat) (h : Int32) : ∃ w : Int32, df_X4_expandedSums n h () = some (w, ()) := by
  repeat' (first | apply ex_ite | exact ⟨_, rfl⟩)
theorem ex_some (n : Nat) (h : Int32) : ∃ w : Int32, df_X4_expanded n h () = some (w, ()) := by
  obtain ⟨w1, e1⟩ := ex_first n h
  obtain ⟨w2, e2⟩ := ex_second n h
  obtain ⟨w3, e3⟩ := ex_third n h
  obtain ⟨w4, e4⟩ := ex_sums n h
  simp only [df_X4_expanded, df_X4_expanded_0, df_X4_expanded_52, e1, e2, e3, e4, nb_b2]
  repeat' (first | split | exact ⟨_, rfl⟩)
theorem wd4_z (X : St × St) (a b c d : Int32) (p A : Nat) : wd4 (zS X a b c d) p A = wd4 X p A := rfl
theorem hf_z (n : Nat) {X : St × St} {p A : Nat} (hp : p < 16) (hA : A < 65536) (h : sI X.1 12 = nI p) (e : A % 2 = 0) {y : Int32} (hy : hw (wd4 X p A) (8 * (A / 2 % 2 * 2)) = y) (a b c d : Int32) : df_X16_half n (nI A) (zS X a b c d) = some (y, zS X a b c d) := by
  rw [nk_half n (X := zS X a b c d) hp hA h e, wd4_z, hy]
theorem s0_h (n : Nat) {p : Nat} {X : St × St} (hp : p < 16) (a3 : sI X.1 12 = nI p) {P : Nat} (hP : P < 2 ^ 32) (eP : sR X.1 10 p = nI P) (odd : P % 2 = 0) {Hn : Nat} (hHn : Hn < 65536) (fe : ∀ a b c d : Int32, df_X16_fetches n (nI P) (zS X a b c d) = some (nI 1, zS X a b c d)) (hf : ∀ a b c d : Int32, df_X16_half n (nI P) (zS X a b c d) = some (nI Hn, zS X a b c d)) (v8 v9 v10 v11 : Int32) : df_X16_step_0 n (zS X v8 v9 v10 v11) = if Hn % 4 = 3 then df_X16_step_57 n (nI P) (nI 4) (zS X (nI Hn) v9 v10 (nI 0)) else df_X16_step_57 n (nI P) (nI 2) (zS X (nI Hn) v9 v10 (nI 0)) := by
  have o1 : ¬ (nI P &&& 1 : Int32) = 1 := fun z => by
    have z : nI P &&& nI 1 = nI 1 := z
    rw [nm_m1 hP] at z
    have := nm_inI (by omega) (by omega) z
    omega
  have z11' : ∀ a b c d : Int32, (pI (zS X a b c d).1 11 0, (zS X a b c d).2) = zS X a b c (nI 0) := fun a b c d => z11 X a b c d (nI 0)
  have q3 : (nI Hn &&& 3 : Int32) = nI (Hn % 4) := nm_m3 (by omega)
  have n1 : ¬ (nI 1 : Int32) = 0 := by decide
  unfold df_X16_step_0
  rw [zI12, a3, nm_ck hp (by omega), nI_clamp (by omega), zR, eP, nb_let, nb_let, z11', if_neg o1, fe, nb_b2, if_neg n1, hf, nb_b2, nb_let, z8, zI8, q3]
  by_cases c : Hn % 4 = 3
  · rw [if_pos c, if_pos (show (nI (Hn % 4) : Int32) = 3 from congrArg nI c)]
    rfl
  · rw [if_neg c, if_neg (show ¬ (nI (Hn % 4) : Int32) = 3 from fun z => c (nm_inI (by omega) (by omega) z))]
    rfl
theorem s57_n (n : Nat) {X : St × St} {P : Nat} (fe2 : ∀ a b c d : Int32, df_X16_fetches n (nI (P + 2)) (zS X a b c d) = some (nI 0, zS X a b c d)) (a b c d : Int32) : df_X16_step_57 n (nI P) (nI 4) (zS X a b c d) = some (nI 1, zS X a (nI 4) c d) := by
  unfold df_X16_step_57
  rw [nb_let, z9, zI9, if_pos (show (nI 4 : Int32) = 4 from rfl), show (nI P + 2 : Int32) = nI (P + 2) from nI_add P 2, fe2, nb_b2, if_pos (show (nI 0 : Int32) = 0 from rfl)]
  rfl
theorem s57_y (n : Nat) {X : St × St} {P : Nat} (fe2 : ∀ a b c d : Int32, df_X16_fetches n (nI (P + 2)) (zS X a b c d) = some (nI 1, zS X a b c d)) (a b c d : Int32) : df_X16_step_57 n (nI P) (nI 4) (zS X a b c d) = df_X16_step_80 n (nI P) (zS X a (nI 4) c d) := by
  unfold df_X16_step_57
  rw [nb_let, z9, zI9, if_pos (show (nI 4 : Int32) = 4 from rfl), show (nI P + 2 : Int32) = nI (P + 2) from nI_add P 2, fe2, nb_b2, if_neg (show ¬ (nI 1 : Int32) = 0 from by decide)]
theorem s57_2 (n : Nat) {X : St × St} {P : Nat} (a b c d : Int32) : df_X16_step_57 n (nI P) (nI 2) (zS X a b c d) = df_X16_step_80 n (nI P) (zS X a (nI 2) c d) := by
  unfold df_X16_step_57
  rw [nb_let, z9, zI9, if_neg (show ¬ (nI 2 : Int32) = 4 from by decide)]
theorem s80_4 (n : Nat) {X : St × St} {P W : Nat} {y : Int32} (hfb : ∀ a b c d : Int32, df_X16_half n (nI (P + 2)) (zS X a b c d) = some (y, zS X a b c d)) {a : Int32} (eW : a ||| (y <<< nI 16) = nI W) (c d : Int32) : df_X16_step_80 n (nI P) (zS X a (nI 4) c d) = df_X16_step_111 n (nI P) (nI W) (zS X a (nI 4) c d) := by
  have e16 : (y <<< ((16 : Int32) &&& 31)) = y <<< nI 16 := congrArg (fun z => y <<< z) (by decide)
  unfold df_X16_step_80
  rw [zI9, if_pos (show (nI 4 : Int32) = 4 from rfl), show (nI P + 2 : Int32) = nI (P + 2) from nI_add P 2, hfb, nb_b2, zI8, e16, eW]
theorem s80_2 (n : Nat) {X : St × St} {P : Nat} (a c d : Int32) : df_X16_step_80 n (nI P) (zS X a (nI 2) c d) = df_X16_step_111 n (nI P) a (zS X a (nI 2) c d) := by
  unfold df_X16_step_80
  rw [zI9, if_neg (show ¬ (nI 2 : Int32) = 4 from by decide), zI8]
theorem s111_4 (n : Nat) {X : St × St} {P W : Nat} (a c d : Int32) : df_X16_step_111 n (nI P) (nI W) (zS X a (nI 4) c d) = df_X16_step_146 n (nI W) (zS X (nI W) (nI 4) (nI (P + 4)) d) := by
  unfold df_X16_step_111
  rw [nb_let, z8, nb_let, zI9, nI_add, z10, zI9, if_pos (show (nI 4 : Int32) = 4 from rfl), zI8]
theorem s111_2 (n : Nat) {X : St × St} {P Hn W : Nat} (ew : df_X16_expand n (nI Hn) () = some (nI W, ())) (a c d : Int32) : df_X16_step_111 n (nI P) (nI Hn) (zS X a (nI 2) c d) = df_X16_step_146 n (nI W) (zS X (nI Hn) (nI 2) (nI (P + 2)) d) := by
  unfold df_X16_step_111
  rw [nb_let, z8, nb_let, zI9, nI_add, z10, zI9, if_neg (show ¬ (nI 2 : Int32) = 4 from by decide), zI8, ew, nb_b2]
theorem st_odd (n : Nat) (hn : 1024 < n) {p : Nat} {M X : St × St} (h : rPre p M X) (H : St) {P : Nat} (hP : P < 2 ^ 32) (eP : sR X.1 10 p = nI P) (v8 v9 v10 v11 : Int32) (odd1 : P % 2 = 1) : oS p M X (df_X4_step n (nI p) (H, M)) (df_X16_step n (zS X v8 v9 v10 v11)) := by
  have h0 := h
  obtain ⟨hp, a3, a7, ap, a8, a9, a10, a11, a12, a13, a14⟩ := h
  rw [eP] at ap
  have u1 : p * 33 + 32 < 528 := by omega
  have u2 : p < 2 ^ 31 := by omega
  refine Or.inr (Or.inl ⟨(pI (pI (pI H 0 (nI p)) 1 (nI (p * 33))) 2 (nI P)), v8, v9, v10, ?_, ?_⟩)
  · simp (disch := (first | assumption | decide | omega)) only [df_X4_step, df_X4_step_0, df_X4_step_54, ap, odd1, eq_self, Nat.reduceEqDiff, Nat.reduceLeDiff, nl_0, nl_1, nl_2, nl_3, nl_4, nl_11, nl_16, nl_31, nl_32, nl_33, nl_528, no_1, no_1024, pk_mul, nI_add, nm_ck, nI_clamp, nI_ltI, nI_leI, nI_eq, nb_b2, nb_b1, ↓nb_let, nm_z0, nm_z1, nb_II, nb_IR, nb_RI, nb_RR, nm_IL, nm_IQ, nm_RL, nm_RQ, nm_LI, nm_LR, nm_LL, nm_LQ, nm_QI, nm_QR, nm_QL, nm_QQ, nm_rr, nm_ii, nm_eqm, not_false_eq_true, pk_sub, nm_div, nm_shl, nm_shr, nm_ush, nm_or8, nm_or64, nm_or256, nm_m1, nm_m3, nm_m7, nm_m15, nm_m31, nm_m63, nm_m255, nm_m511, nm_m1023, nm_m2047, nm_m65535, Nat.reduceMod, Nat.reducePow, Nat.reduceAdd, Nat.reduceSub, Nat.reduceMul, nm_bo, nm_bi, nm_rc, nm_ic, nm_ri, nm_rl, nm_rq, nm_ql, nm_qi, nm_li, nm_us, nm_uu, nm_cp, nm_sa31, nm_sa7, nm_m127, nm_m2, nm_nz, nm_nzk, nm_eq32, nm_nzf, if_true, if_false, ↓reduceIte, if_pos, if_neg]
  · simp (disch := (first | assumption | decide | omega)) only [df_X16_step, df_X16_step_0, df_X16_step_30, zI12, zR, a3, eP, odd1, z11, eq_self, Nat.reduceEqDiff, Nat.reduceLeDiff, nl_0, nl_1, nl_2, nl_3, nl_4, nl_8, nl_10, nl_11, nl_12, nl_16, no_1, no_1024, pk_mul, nI_add, nm_ck, nI_clamp, nI_ltI, nI_leI, nI_eq, nb_b2, nb_b1, ↓nb_let, nm_z0, nm_z1, nb_II, nb_IR, nb_RI, nb_RR, nm_IL, nm_IQ, nm_RL, nm_RQ, nm_LI, nm_LR, nm_LL, nm_LQ, nm_QI, nm_QR, nm_QL, nm_QQ, nm_rr, nm_ii, nm_eqm, not_false_eq_true, pk_sub, nm_div, nm_shl, nm_shr, nm_ush, nm_or8, nm_or64, nm_or256, nm_m1, nm_m3, nm_m7, nm_m15, nm_m31, nm_m63, nm_m255, nm_m511, nm_m1023, nm_m2047, nm_m65535, Nat.reduceMod, Nat.reducePow, Nat.reduceAdd, Nat.reduceSub, Nat.reduceMul, nm_bo, nm_bi, nm_rc, nm_ic, nm_ri, nm_rl, nm_rq, nm_ql, nm_qi, nm_li, nm_us, nm_uu, nm_cp, nm_sa31, nm_sa7, nm_m127, nm_m2, nm_nz, nm_nzk, nm_eq32, nm_nzf, if_true, if_false, ↓reduceIte, if_pos, if_neg]
theorem st_no (n : Nat) (hn : 1024 < n) {p : Nat} {M X : St × St} (h : rPre p M X) (H : St) {P : Nat} (hP : P < 2 ^ 32) (eP : sR X.1 10 p = nI P) (v8 v9 v10 v11 : Int32) (odd : P % 2 = 0) (cm : ma X p P 4 = false) : oS p M X (df_X4_step n (nI p) (H, M)) (df_X16_step n (zS X v8 v9 v10 v11)) := by
  have h0 := h
  obtain ⟨hp, a3, a7, ap, a8, a9, a10, a11, a12, a13, a14⟩ := h
  rw [eP] at ap
  have u1 : p * 33 + 32 < 528 := by omega
  have u2 : p < 2 ^ 31 := by omega
  have hm := (nk_may n a8 hp hP (q := 4) (by omega)).1
  have fe : ∀ a b c d : Int32, df_X16_fetches n (nI P) (zS X a b c d) = some (bI (ma X p P 4), zS X a b c d) := fun a b c d => nk_fet n (M := M) (X := zS X a b c d) a8 hp a3 hP odd
  have odd1 : ¬ P % 2 = 1 := by omega
  rw [cm] at hm
  simp only [cm] at fe
  refine Or.inr (Or.inl ⟨(pI (pI (pI H 0 (nI p)) 1 (nI (p * 33))) 2 (nI P)), v8, v9, v10, ?_, ?_⟩)
  · simp (disch := (first | assumption | decide | omega)) only [df_X4_step, df_X4_step_0, df_X4_step_54, ap, odd, hm, bI_f, eq_self, Nat.reduceEqDiff, Nat.reduceLeDiff, nl_0, nl_1, nl_2, nl_3, nl_4, nl_11, nl_16, nl_31, nl_32, nl_33, nl_528, no_1, no_1024, pk_mul, nI_add, nm_ck, nI_clamp, nI_ltI, nI_leI, nI_eq, nb_b2, nb_b1, ↓nb_let, nm_z0, nm_z1, nb_II, nb_IR, nb_RI, nb_RR, nm_IL, nm_IQ, nm_RL, nm_RQ, nm_LI, nm_LR, nm_LL, nm_LQ, nm_QI, nm_QR, nm_QL, nm_QQ, nm_rr, nm_ii, nm_eqm, not_false_eq_true, pk_sub, nm_div, nm_shl, nm_shr, nm_ush, nm_or8, nm_or64, nm_or256, nm_m1, nm_m3, nm_m7, nm_m15, nm_m31, nm_m63, nm_m255, nm_m511, nm_m1023, nm_m2047, nm_m65535, Nat.reduceMod, Nat.reducePow, Nat.reduceAdd, Nat.reduceSub, Nat.reduceMul, nm_bo, nm_bi, nm_rc, nm_ic, nm_ri, nm_rl, nm_rq, nm_ql, nm_qi, nm_li, nm_us, nm_uu, nm_cp, nm_sa31, nm_sa7, nm_m127, nm_m2, nm_nz, nm_nzk, nm_eq32, nm_nzf, if_true, if_false, ↓reduceIte, if_pos, if_neg]
  · simp (disch := (first | assumption | decide | omega)) only [df_X16_step, df_X16_step_0, df_X16_step_30, zI12, zR, a3, eP, odd1, z11, fe, bI_f, eq_self, Nat.reduceEqDiff, Nat.reduceLeDiff, nl_0, nl_1, nl_2, nl_3, nl_4, nl_8, nl_10, nl_11, nl_12, nl_16, no_1, no_1024, pk_mul, nI_add, nm_ck, nI_clamp, nI_ltI, nI_leI, nI_eq, nb_b2, nb_b1, ↓nb_let, nm_z0, nm_z1, nb_II, nb_IR, nb_RI, nb_RR, nm_IL, nm_IQ, nm_RL, nm_RQ, nm_LI, nm_LR, nm_LL, nm_LQ, nm_QI, nm_QR, nm_QL, nm_QQ, nm_rr, nm_ii, nm_eqm, not_false_eq_true, pk_sub, nm_div, nm_shl, nm_shr, nm_ush, nm_or8, nm_or64, nm_or256, nm_m1, nm_m3, nm_m7, nm_m15, nm_m31, nm_m63, nm_m255, nm_m511, nm_m1023, nm_m2047, nm_m65535, Nat.reduceMod, Nat.reducePow, Nat.reduceAdd, Nat.reduceSub, Nat.reduceMul, nm_bo, nm_bi, nm_rc, nm_ic, nm_ri, nm_rl, nm_rq, nm_ql, nm_qi, nm_li, nm_us, nm_uu, nm_cp, nm_sa31, nm_sa7, nm_m127, nm_m2, nm_nz, nm_nzk, nm_eq32, nm_nzf, if_true, if_false, ↓reduceIte, if_pos, if_neg]
theorem st_16 (n : Nat) (hn : 1024 < n) {p : Nat} {M X : St × St} (h : rPre p M X) (H : St) {P : Nat} (hP : P < 2 ^ 32) (eP : sR X.1 10 p = nI P) (v8 v9 v10 v11 : Int32) (odd : P % 2 = 0) (cm : ma X p P 4 = true) {Hn : Nat} (hHn : Hn < 2 ^ 16) (eH : hw (wd4 X p P) (8 * (P / 2 % 2 * 2)) = nI Hn) (c3 : ¬ Hn % 4 = 3) : oS p M X (df_X4_step n (nI p) (H, M)) (df_X16_step n (zS X v8 v9 v10 v11)) := by
  have h0 := h
  obtain ⟨hp, a3, a7, ap, a8, a9, a10, a11, a12, a13, a14⟩ := h
  rw [eP] at ap
  have u1 : p * 33 + 32 < 528 := by omega
  have u2 : p < 2 ^ 31 := by omega
  have hx := rPre_h h0 H
  rw [eP] at hx
  have hm := (nk_may n a8 hp hP (q := 4) (by omega)).1
  have fe : ∀ a b c d : Int32, df_X16_fetches n (nI P) (zS X a b c d) = some (bI (ma X p P 4), zS X a b c d) := fun a b c d => nk_fet n (M := M) (X := zS X a b c d) a8 hp a3 hP odd
  have odd1 : ¬ P % 2 = 1 := by omega
  rw [cm] at hm
  simp only [cm] at fe
  obtain ⟨lP, f0, hf0, ef0⟩ := ma_ex a8 hp cm
  have r2 := (nk_rd n a8 hp lP hf0 ef0).2.1
  have hf : ∀ a b c d : Int32, df_X16_half n (nI P) (zS X a b c d) = some (nI Hn, zS X a b c d) := hf_z n hp lP a3 odd eH
  rw [eH] at r2
  have u3 : Hn < 2 ^ 31 := by omega
  have u4 : Hn < 2 ^ 32 := by omega
  obtain ⟨wv0, ew⟩ := ex_some n (nI Hn)
  have ew2 := ew
  rw [nk_expand n Hn (by omega) c3] at ew2
  obtain ⟨W, hW, e⟩ := nI_ex wv0
  rw [e] at ew ew2
  have E := oE_s (nk_exec n hn (hx (nI Hn) (nI 2) (nI (P + 2))) hW)
  have e1 : df_X4_step n (nI p) (H, M) = df_X4_step_146 n (nI W) (pI (pI (pI (pI H 0 (nI p)) 1 (nI (p * 33))) 2 (nI P)) 3 (nI (P + 2)), M) := by
    simp (disch := (first | assumption | decide | omega)) only [df_X4_step, df_X4_step_0, ap, odd, hm, bI_t, r2, c3, ew, eq_self, Nat.reduceEqDiff, Nat.reduceLeDiff, nl_0, nl_1, nl_2, nl_3, nl_4, nl_11, nl_16, nl_31, nl_32, nl_33, nl_528, no_1, no_1024, pk_mul, nI_add, nm_ck, nI_clamp, nI_ltI, nI_leI, nI_eq, nb_b2, nb_b1, ↓nb_let, nm_z0, nm_z1, nb_II, nb_IR, nb_RI, nb_RR, nm_IL, nm_IQ, nm_RL, nm_RQ, nm_LI, nm_LR, nm_LL, nm_LQ, nm_QI, nm_QR, nm_QL, nm_QQ, nm_rr, nm_ii, nm_eqm, not_false_eq_true, pk_sub, nm_div, nm_shl, nm_shr, nm_ush, nm_or8, nm_or64, nm_or256, nm_m1, nm_m3, nm_m7, nm_m15, nm_m31, nm_m63, nm_m255, nm_m511, nm_m1023, nm_m2047, nm_m65535, Nat.reduceMod, Nat.reducePow, Nat.reduceAdd, Nat.reduceSub, Nat.reduceMul, nm_bo, nm_bi, nm_rc, nm_ic, nm_ri, nm_rl, nm_rq, nm_ql, nm_qi, nm_li, nm_us, nm_uu, nm_cp, nm_sa31, nm_sa7, nm_m127, nm_m2, nm_nz, nm_nzk, nm_eq32, nm_nzf, if_true, if_false, ↓reduceIte, if_pos, if_neg]
  have e2 : df_X16_step n (zS X v8 v9 v10 v11) = df_X16_step_146 n (nI W) (zS X (nI Hn) (nI 2) (nI (P + 2)) (nI 0)) := by
    refine Eq.trans (s0_h n hp a3 hP eP odd (by omega) fe hf v8 v9 v10 v11) ?_
    rw [if_neg c3, s57_2, s80_2, s111_2 n ew2]
  rw [e1, e2]
  exact E
theorem st_n2 (n : Nat) (hn : 1024 < n) {p : Nat} {M X : St × St} (h : rPre p M X) (H : St) {P : Nat} (hP : P < 2 ^ 32) (eP : sR X.1 10 p = nI P) (v8 v9 v10 v11 : Int32) (odd : P % 2 = 0) (cm : ma X p P 4 = true) {Hn : Nat} (hHn : Hn < 2 ^ 16) (eH : hw (wd4 X p P) (8 * (P / 2 % 2 * 2)) = nI Hn) (c3 : Hn % 4 = 3) (cm2 : ma X p (P + 2) 4 = false) : oS p M X (df_X4_step n (nI p) (H, M)) (df_X16_step n (zS X v8 v9 v10 v11)) := by
  have h0 := h
  obtain ⟨hp, a3, a7, ap, a8, a9, a10, a11, a12, a13, a14⟩ := h
  rw [eP] at ap
  have u1 : p * 33 + 32 < 528 := by omega
  have u2 : p < 2 ^ 31 := by omega
  have hm := (nk_may n a8 hp hP (q := 4) (by omega)).1
  have fe : ∀ a b c d : Int32, df_X16_fetches n (nI P) (zS X a b c d) = some (bI (ma X p P 4), zS X a b c d) := fun a b c d => nk_fet n (M := M) (X := zS X a b c d) a8 hp a3 hP odd
  have odd1 : ¬ P % 2 = 1 := by omega
  rw [cm] at hm
  simp only [cm] at fe
  obtain ⟨lP, f0, hf0, ef0⟩ := ma_ex a8 hp cm
  have r2 := (nk_rd n a8 hp lP hf0 ef0).2.1
  have hf : ∀ a b c d : Int32, df_X16_half n (nI P) (zS X a b c d) = some (nI Hn, zS X a b c d) := hf_z n hp lP a3 odd eH
  rw [eH] at r2
  have u3 : Hn < 2 ^ 31 := by omega
  have u4 : Hn < 2 ^ 32 := by omega
  have hm2 := (nk_may n a8 hp (A := P + 2) (q := 4) (by omega) (by omega)).1
  have fe2 : ∀ a b c d : Int32, df_X16_fetches n (nI (P + 2)) (zS X a b c d) = some (bI (ma X p (P + 2) 4), zS X a b c d) := fun a b c d => nk_fet n (M := M) (X := zS X a b c d) a8 hp a3 (by omega) (by omega)
  rw [cm2] at hm2
  simp only [cm2] at fe2
  refine Or.inr (Or.inl ⟨(pI (pI (pI H 0 (nI p)) 1 (nI (p * 33))) 2 (nI P)), nI Hn, nI 4, v10, ?_, ?_⟩)
  · simp (disch := (first | assumption | decide | omega)) only [df_X4_step, df_X4_step_0, ap, odd, hm, bI_t, r2, c3, hm2, bI_f, eq_self, Nat.reduceEqDiff, Nat.reduceLeDiff, nl_0, nl_1, nl_2, nl_3, nl_4, nl_11, nl_16, nl_31, nl_32, nl_33, nl_528, no_1, no_1024, pk_mul, nI_add, nm_ck, nI_clamp, nI_ltI, nI_leI, nI_eq, nb_b2, nb_b1, ↓nb_let, nm_z0, nm_z1, nb_II, nb_IR, nb_RI, nb_RR, nm_IL, nm_IQ, nm_RL, nm_RQ, nm_LI, nm_LR, nm_LL, nm_LQ, nm_QI, nm_QR, nm_QL, nm_QQ, nm_rr, nm_ii, nm_eqm, not_false_eq_true, pk_sub, nm_div, nm_shl, nm_shr, nm_ush, nm_or8, nm_or64, nm_or256, nm_m1, nm_m3, nm_m7, nm_m15, nm_m31, nm_m63, nm_m255, nm_m511, nm_m1023, nm_m2047, nm_m65535, Nat.reduceMod, Nat.reducePow, Nat.reduceAdd, Nat.reduceSub, Nat.reduceMul, nm_bo, nm_bi, nm_rc, nm_ic, nm_ri, nm_rl, nm_rq, nm_ql, nm_qi, nm_li, nm_us, nm_uu, nm_cp, nm_sa31, nm_sa7, nm_m127, nm_m2, nm_nz, nm_nzk, nm_eq32, nm_nzf, if_true, if_false, ↓reduceIte, if_pos, if_neg]
  · refine Eq.trans (s0_h n hp a3 hP eP odd (by omega) fe hf v8 v9 v10 v11) ?_
    rw [if_pos c3, s57_n n fe2]
theorem st_32 (n : Nat) (hn : 1024 < n) {p : Nat} {M X : St × St} (h : rPre p M X) (H : St) {P : Nat} (hP : P < 2 ^ 32) (eP : sR X.1 10 p = nI P) (v8 v9 v10 v11 : Int32) (odd : P % 2 = 0) (cm : ma X p P 4 = true) {Hn : Nat} (hHn : Hn < 2 ^ 16) (eH : hw (wd4 X p P) (8 * (P / 2 % 2 * 2)) = nI Hn) (c3 : Hn % 4 = 3) (cm2 : ma X p (P + 2) 4 = true) : oS p M X (df_X4_step n (nI p) (H, M)) (df_X16_step n (zS X v8 v9 v10 v11)) := by
  have h0 := h
  obtain ⟨hp, a3, a7, ap, a8, a9, a10, a11, a12, a13, a14⟩ := h
  rw [eP] at ap
  have u1 : p * 33 + 32 < 528 := by omega
  have u2 : p < 2 ^ 31 := by omega
  have hx := rPre_h h0 H
  rw [eP] at hx
  have hm := (nk_may n a8 hp hP (q := 4) (by omega)).1
  have fe : ∀ a b c d : Int32, df_X16_fetches n (nI P) (zS X a b c d) = some (bI (ma X p P 4), zS X a b c d) := fun a b c d => nk_fet n (M := M) (X := zS X a b c d) a8 hp a3 hP odd
  have odd1 : ¬ P % 2 = 1 := by omega
  rw [cm] at hm
  simp only [cm] at fe
  obtain ⟨lP, f0, hf0, ef0⟩ := ma_ex a8 hp cm
  have r2 := (nk_rd n a8 hp lP hf0 ef0).2.1
  have hf : ∀ a b c d : Int32, df_X16_half n (nI P) (zS X a b c d) = some (nI Hn, zS X a b c d) := hf_z n hp lP a3 odd eH
  rw [eH] at r2
  have u3 : Hn < 2 ^ 31 := by omega
  have u4 : Hn < 2 ^ 32 := by omega
  have hm2 := (nk_may n a8 hp (A := P + 2) (q := 4) (by omega) (by omega)).1
  have fe2 : ∀ a b c d : Int32, df_X16_fetches n (nI (P + 2)) (zS X a b c d) = some (bI (ma X p (P + 2) 4), zS X a b c d) := fun a b c d => nk_fet n (M := M) (X := zS X a b c d) a8 hp a3 (by omega) (by omega)
  rw [cm2] at hm2
  simp only [cm2] at fe2
  obtain ⟨lP2, f2, hf2, ef2⟩ := ma_ex a8 hp cm2
  have t2 := (nk_rd n a8 hp lP2 hf2 ef2).2.1
  generalize ey : hw (wd4 X p (P + 2)) (8 * ((P + 2) / 2 % 2 * 2)) = y at t2
  have hfb : ∀ a b c d : Int32, df_X16_half n (nI (P + 2)) (zS X a b c d) = some (y, zS X a b c d) := hf_z n hp lP2 a3 (by omega) ey
  obtain ⟨W, hW, eW⟩ := nI_ex (nI Hn ||| (y <<< nI 16))
  have E := oE_s (nk_exec n hn (hx (nI W) (nI 4) (nI (P + 4))) hW)
  have e1 : df_X4_step n (nI p) (H, M) = df_X4_step_146 n (nI W) (pI (pI (pI (pI H 0 (nI p)) 1 (nI (p * 33))) 2 (nI P)) 3 (nI (P + 4)), M) := by
    simp (disch := (first | assumption | decide | omega)) only [df_X4_step, df_X4_step_0, ap, odd, hm, bI_t, r2, c3, hm2, t2, eW, eq_self, Nat.reduceEqDiff, Nat.reduceLeDiff, nl_0, nl_1, nl_2, nl_3, nl_4, nl_11, nl_16, nl_31, nl_32, nl_33, nl_528, no_1, no_1024, pk_mul, nI_add, nm_ck, nI_clamp, nI_ltI, nI_leI, nI_eq, nb_b2, nb_b1, ↓nb_let, nm_z0, nm_z1, nb_II, nb_IR, nb_RI, nb_RR, nm_IL, nm_IQ, nm_RL, nm_RQ, nm_LI, nm_LR, nm_LL, nm_LQ, nm_QI, nm_QR, nm_QL, nm_QQ, nm_rr, nm_ii, nm_eqm, not_false_eq_true, pk_sub, nm_div, nm_shl, nm_shr, nm_ush, nm_or8, nm_or64, nm_or256, nm_m1, nm_m3, nm_m7, nm_m15, nm_m31, nm_m63, nm_m255, nm_m511, nm_m1023, nm_m2047, nm_m65535, Nat.reduceMod, Nat.reducePow, Nat.reduceAdd, Nat.reduceSub, Nat.reduceMul, nm_bo, nm_bi, nm_rc, nm_ic, nm_ri, nm_rl, nm_rq, nm_ql, nm_qi, nm_li, nm_us, nm_uu, nm_cp, nm_sa31, nm_sa7, nm_m127, nm_m2, nm_nz, nm_nzk, nm_eq32, nm_nzf, if_true, if_false, ↓reduceIte, if_pos, if_neg]
  have e2 : df_X16_step n (zS X v8 v9 v10 v11) = df_X16_step_146 n (nI W) (zS X (nI W) (nI 4) (nI (P + 4)) (nI 0)) := by
    refine Eq.trans (s0_h n hp a3 hP eP odd (by omega) fe hf v8 v9 v10 v11) ?_
    rw [if_pos c3, s57_y n fe2, s80_4 n hfb eW, s111_4]
  rw [e1, e2]
  exact E
/-- one step of the hart, both -/
theorem nk_step (n : Nat) (hn : 1024 < n) {p : Nat} {M X : St × St} (h : rPre p M X) (H : St) : oS p M X (df_X4_step n (nI p) (H, M)) (df_X16_step n X) := by
  have e0 : df_X16_step n X = df_X16_step n (zS X (sI X.1 8) (sI X.1 9) (sI X.1 10) (sI X.1 11)) := by rw [zS_id]
  rw [e0]
  obtain ⟨P, hP, eP⟩ := nI_ex (sR X.1 10 p)
  by_cases odd : P % 2 = 0
  · cases cm : ma X p P 4 with
    | false => exact st_no n hn h H hP eP _ _ _ _ odd cm
    | true =>
      obtain ⟨Hn, hHn, eH⟩ := pk_andE ((wd4 X p P).toUInt32 >>> ((nI (8 * (P / 2 % 2 * 2))).toUInt32 &&& Int32.toUInt32 (nI 31))).toInt32 (m := nI 65535) 16 (by decide)
      by_cases c3 : Hn % 4 = 3
      · cases cm2 : ma X p (P + 2) 4 with
        | false => exact st_n2 n hn h H hP eP _ _ _ _ odd cm hHn eH c3 cm2
        | true => exact st_32 n hn h H hP eP _ _ _ _ odd cm hHn eH c3 cm2
      · exact st_16 n hn h H hP eP _ _ _ _ odd cm hHn eH c3
  · exact st_odd n hn h H hP eP _ _ _ _ (by omega)

