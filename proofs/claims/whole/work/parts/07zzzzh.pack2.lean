theorem te_Rz (n : Nat) (hn : 0 < n) {i : Nat} (C : St) : df_X14_entry_282 n (nI i) C = some C := by
  obtain ⟨n', rfl⟩ : ∃ n' : Nat, n = n' + 1 := ⟨n - 1, by omega⟩
  unfold df_X14_entry_282 df_X14_entry_283
  rw [nb_let]
  show dF_X14_entry_291 (n' + 1) (df_X14_entry_291 (n' + 1) n') (nI i) _ C = _
  unfold dF_X14_entry_291
  rw [if_pos (show (0 : Int32) - 1 < 0 by decide)]
theorem te_C0 (n T : Nat) {i : Nat} {x3 : Int32} {s : St × St} (hi : i < 2048) (e : sR s.2 0 i = nI 0) : df_X3_putEntry_183 n T (nI i) x3 s = some s := by
  have u : i < 2 ^ 31 := by omega
  simp (disch := (first | assumption | decide | omega)) only [df_X3_putEntry_183, df_X3_putEntry_206, df_X3_putEntry_285, df_X3_putEntry_306, e, eq_self, Nat.reduceEqDiff, Nat.reduceLeDiff, nl_0, nl_1, nl_2, nl_3, nl_4, nl_2048, no_1, no_1024, pk_mul, nI_add, nm_ck, nI_clamp, nI_ltI, nI_leI, nI_eq, nb_b2, nb_b1, ↓nb_let, nm_z0, nm_z1, nb_II, nb_IR, nb_RI, nb_RR, nm_IL, nm_IQ, nm_RL, nm_RQ, nm_LI, nm_LR, nm_LL, nm_LQ, nm_QI, nm_QR, nm_QL, nm_QQ, nm_rr, nm_ii, nm_eqm, not_false_eq_true, pk_sub, nm_div, nm_shl, nm_shr, nm_ush, nm_or8, nm_or64, nm_or256, nm_m1, nm_m3, nm_m7, nm_m15, nm_m31, nm_m63, nm_m255, nm_m511, nm_m1023, nm_m2047, nm_m65535, Nat.reduceMod, Nat.reducePow, Nat.reduceAdd, Nat.reduceSub, Nat.reduceMul, nm_bo, nm_bi, nm_rc, nm_ic, nm_ri, nm_rl, nm_rq, nm_ql, nm_qi, nm_li, nm_us, nm_uu, nm_cp, nm_sa31, nm_sa7, nm_m127, nm_m2, nm_nz, nm_nzk, nm_eq32, nm_nzf, if_true, if_false, ↓reduceIte, if_pos, if_neg]
theorem te_C1 (n T : Nat) {i : Nat} {b : Int32} {a : Int64} {s : St × St} (hi : i < 2048) (e : sR s.2 0 i = nI 1) (eb : sR s.2 1 i = b) (ea : sQ s.2 1 i = a) : df_X3_putEntry_183 n T (nI i) (nI 0) s = nd_b1 (df_X3_putBytes n T a b s) (fun s => some s) := by
  have u : i < 2 ^ 31 := by omega
  simp (disch := (first | assumption | decide | omega)) only [df_X3_putEntry_183, df_X3_putEntry_206, df_X3_putEntry_285, df_X3_putEntry_306, e, eb, ea, eq_self, Nat.reduceEqDiff, Nat.reduceLeDiff, nl_0, nl_1, nl_2, nl_3, nl_4, nl_2048, no_1, no_1024, pk_mul, nI_add, nm_ck, nI_clamp, nI_ltI, nI_leI, nI_eq, nb_b2, nb_b1, ↓nb_let, nm_z0, nm_z1, nb_II, nb_IR, nb_RI, nb_RR, nm_IL, nm_IQ, nm_RL, nm_RQ, nm_LI, nm_LR, nm_LL, nm_LQ, nm_QI, nm_QR, nm_QL, nm_QQ, nm_rr, nm_ii, nm_eqm, not_false_eq_true, pk_sub, nm_div, nm_shl, nm_shr, nm_ush, nm_or8, nm_or64, nm_or256, nm_m1, nm_m3, nm_m7, nm_m15, nm_m31, nm_m63, nm_m255, nm_m511, nm_m1023, nm_m2047, nm_m65535, Nat.reduceMod, Nat.reducePow, Nat.reduceAdd, Nat.reduceSub, Nat.reduceMul, nm_bo, nm_bi, nm_rc, nm_ic, nm_ri, nm_rl, nm_rq, nm_ql, nm_qi, nm_li, nm_us, nm_uu, nm_cp, nm_sa31, nm_sa7, nm_m127, nm_m2, nm_nz, nm_nzk, nm_eq32, nm_nzf, if_true, if_false, ↓reduceIte, if_pos, if_neg]
theorem te_C1r (n T : Nat) {i r : Nat} {s : St × St} (hi : i < 2048) (h1 : 1 ≤ r) (h2 : r ≤ 20) (e : sR s.2 0 i = nI 1) : df_X3_putEntry_183 n T (nI i) (nI r) s = nd_b1 (df_X3_putVarint n T (nI r).toInt64 s) (fun s => some s) := by
  have u : i < 2 ^ 31 := by omega
  have k1 : ¬ r ≤ 0 := by omega
  have u2 : r < 2 ^ 31 := by omega
  simp (disch := (first | assumption | decide | omega)) only [df_X3_putEntry_183, df_X3_putEntry_306, e, eq_self, Nat.reduceEqDiff, Nat.reduceLeDiff, nl_0, nl_1, nl_2048, no_1, no_1024, pk_mul, nI_add, nm_ck, nI_clamp, nI_ltI, nI_leI, nI_eq, nb_b2, nb_b1, ↓nb_let, nm_z0, nm_z1, nb_II, nb_IR, nb_RI, nb_RR, nm_IL, nm_IQ, nm_RL, nm_RQ, nm_LI, nm_LR, nm_LL, nm_LQ, nm_QI, nm_QR, nm_QL, nm_QQ, nm_rr, nm_ii, nm_eqm, not_false_eq_true, pk_sub, nm_div, nm_shl, nm_shr, nm_ush, nm_or8, nm_or64, nm_or256, nm_m1, nm_m3, nm_m7, nm_m15, nm_m31, nm_m63, nm_m255, nm_m511, nm_m1023, nm_m2047, nm_m65535, Nat.reduceMod, Nat.reducePow, Nat.reduceAdd, Nat.reduceSub, Nat.reduceMul, nm_bo, nm_bi, nm_rc, nm_ic, nm_ri, nm_rl, nm_rq, nm_ql, nm_qi, nm_li, nm_us, nm_uu, nm_cp, nm_sa31, nm_sa7, nm_m127, nm_m2, nm_nz, nm_nzk, nm_eq32, nm_nzf, if_true, if_false, ↓reduceIte, if_pos, if_neg]
theorem te_C2 (n T : Nat) {i : Nat} {b x3 : Int32} {s : St × St} (hi : i < 2048) (e : sR s.2 0 i = nI 2) (eb : sR s.2 1 i = b) : df_X3_putEntry_183 n T (nI i) x3 s = nd_b1 (df_X3_putByte n T b s) (fun s => some s) := by
  have u : i < 2 ^ 31 := by omega
  simp (disch := (first | assumption | decide | omega)) only [df_X3_putEntry_183, df_X3_putEntry_206, df_X3_putEntry_285, df_X3_putEntry_306, e, eb, eq_self, Nat.reduceEqDiff, Nat.reduceLeDiff, nl_0, nl_1, nl_2, nl_3, nl_4, nl_2048, no_1, no_1024, pk_mul, nI_add, nm_ck, nI_clamp, nI_ltI, nI_leI, nI_eq, nb_b2, nb_b1, ↓nb_let, nm_z0, nm_z1, nb_II, nb_IR, nb_RI, nb_RR, nm_IL, nm_IQ, nm_RL, nm_RQ, nm_LI, nm_LR, nm_LL, nm_LQ, nm_QI, nm_QR, nm_QL, nm_QQ, nm_rr, nm_ii, nm_eqm, not_false_eq_true, pk_sub, nm_div, nm_shl, nm_shr, nm_ush, nm_or8, nm_or64, nm_or256, nm_m1, nm_m3, nm_m7, nm_m15, nm_m31, nm_m63, nm_m255, nm_m511, nm_m1023, nm_m2047, nm_m65535, Nat.reduceMod, Nat.reducePow, Nat.reduceAdd, Nat.reduceSub, Nat.reduceMul, nm_bo, nm_bi, nm_rc, nm_ic, nm_ri, nm_rl, nm_rq, nm_ql, nm_qi, nm_li, nm_us, nm_uu, nm_cp, nm_sa31, nm_sa7, nm_m127, nm_m2, nm_nz, nm_nzk, nm_eq32, nm_nzf, if_true, if_false, ↓reduceIte, if_pos, if_neg]
theorem te_C3 (n T : Nat) {i : Nat} {a : Int64} {s : St × St} (hi : i < 2048) (e : sR s.2 0 i = nI 3) (ea : sQ s.2 1 i = a) : df_X3_putEntry_183 n T (nI i) (nI 0) s = nd_b1 (df_X3_putVarint n T a s) (fun s => some s) := by
  have u : i < 2 ^ 31 := by omega
  simp (disch := (first | assumption | decide | omega)) only [df_X3_putEntry_183, df_X3_putEntry_206, df_X3_putEntry_285, df_X3_putEntry_306, e, ea, eq_self, Nat.reduceEqDiff, Nat.reduceLeDiff, nl_0, nl_1, nl_2, nl_3, nl_4, nl_2048, no_1, no_1024, pk_mul, nI_add, nm_ck, nI_clamp, nI_ltI, nI_leI, nI_eq, nb_b2, nb_b1, ↓nb_let, nm_z0, nm_z1, nb_II, nb_IR, nb_RI, nb_RR, nm_IL, nm_IQ, nm_RL, nm_RQ, nm_LI, nm_LR, nm_LL, nm_LQ, nm_QI, nm_QR, nm_QL, nm_QQ, nm_rr, nm_ii, nm_eqm, not_false_eq_true, pk_sub, nm_div, nm_shl, nm_shr, nm_ush, nm_or8, nm_or64, nm_or256, nm_m1, nm_m3, nm_m7, nm_m15, nm_m31, nm_m63, nm_m255, nm_m511, nm_m1023, nm_m2047, nm_m65535, Nat.reduceMod, Nat.reducePow, Nat.reduceAdd, Nat.reduceSub, Nat.reduceMul, nm_bo, nm_bi, nm_rc, nm_ic, nm_ri, nm_rl, nm_rq, nm_ql, nm_qi, nm_li, nm_us, nm_uu, nm_cp, nm_sa31, nm_sa7, nm_m127, nm_m2, nm_nz, nm_nzk, nm_eq32, nm_nzf, if_true, if_false, ↓reduceIte, if_pos, if_neg]
theorem te_C3r (n T : Nat) {i : Nat} {s : St × St} (hi : i < 2048) (e : sR s.2 0 i = nI 3) : df_X3_putEntry_183 n T (nI i) (nI 1) s = some s := by
  have u : i < 2 ^ 31 := by omega
  simp (disch := (first | assumption | decide | omega)) only [df_X3_putEntry_183, df_X3_putEntry_206, df_X3_putEntry_285, df_X3_putEntry_306, e, eq_self, Nat.reduceEqDiff, Nat.reduceLeDiff, nl_0, nl_1, nl_2, nl_3, nl_4, nl_2048, no_1, no_1024, pk_mul, nI_add, nm_ck, nI_clamp, nI_ltI, nI_leI, nI_eq, nb_b2, nb_b1, ↓nb_let, nm_z0, nm_z1, nb_II, nb_IR, nb_RI, nb_RR, nm_IL, nm_IQ, nm_RL, nm_RQ, nm_LI, nm_LR, nm_LL, nm_LQ, nm_QI, nm_QR, nm_QL, nm_QQ, nm_rr, nm_ii, nm_eqm, not_false_eq_true, pk_sub, nm_div, nm_shl, nm_shr, nm_ush, nm_or8, nm_or64, nm_or256, nm_m1, nm_m3, nm_m7, nm_m15, nm_m31, nm_m63, nm_m255, nm_m511, nm_m1023, nm_m2047, nm_m65535, Nat.reduceMod, Nat.reducePow, Nat.reduceAdd, Nat.reduceSub, Nat.reduceMul, nm_bo, nm_bi, nm_rc, nm_ic, nm_ri, nm_rl, nm_rq, nm_ql, nm_qi, nm_li, nm_us, nm_uu, nm_cp, nm_sa31, nm_sa7, nm_m127, nm_m2, nm_nz, nm_nzk, nm_eq32, nm_nzf, if_true, if_false, ↓reduceIte, if_pos, if_neg]
theorem te_C4 (n T : Nat) {i : Nat} {a : Int64} {x3 : Int32} {s : St × St} (hi : i < 2048) (e : sR s.2 0 i = nI 4) (ea : sQ s.2 1 i = a) : df_X3_putEntry_183 n T (nI i) x3 s = nd_b1 (df_X3_putBytes n T a (nI 4) s) (fun s => some s) := by
  have u : i < 2 ^ 31 := by omega
  simp (disch := (first | assumption | decide | omega)) only [df_X3_putEntry_183, df_X3_putEntry_206, df_X3_putEntry_285, df_X3_putEntry_306, e, ea, eq_self, Nat.reduceEqDiff, Nat.reduceLeDiff, nl_0, nl_1, nl_2, nl_3, nl_4, nl_2048, no_1, no_1024, pk_mul, nI_add, nm_ck, nI_clamp, nI_ltI, nI_leI, nI_eq, nb_b2, nb_b1, ↓nb_let, nm_z0, nm_z1, nb_II, nb_IR, nb_RI, nb_RR, nm_IL, nm_IQ, nm_RL, nm_RQ, nm_LI, nm_LR, nm_LL, nm_LQ, nm_QI, nm_QR, nm_QL, nm_QQ, nm_rr, nm_ii, nm_eqm, not_false_eq_true, pk_sub, nm_div, nm_shl, nm_shr, nm_ush, nm_or8, nm_or64, nm_or256, nm_m1, nm_m3, nm_m7, nm_m15, nm_m31, nm_m63, nm_m255, nm_m511, nm_m1023, nm_m2047, nm_m65535, Nat.reduceMod, Nat.reducePow, Nat.reduceAdd, Nat.reduceSub, Nat.reduceMul, nm_bo, nm_bi, nm_rc, nm_ic, nm_ri, nm_rl, nm_rq, nm_ql, nm_qi, nm_li, nm_us, nm_uu, nm_cp, nm_sa31, nm_sa7, nm_m127, nm_m2, nm_nz, nm_nzk, nm_eq32, nm_nzf, if_true, if_false, ↓reduceIte, if_pos, if_neg]
theorem te_R0 (n : Nat) (hn : 0 < n) {i : Nat} {C : St} (hi : i < 2048) (e : sR C 0 i = nI 0) : df_X14_entry_190 n (nI i) (nI 0) (nI 0) C = some C := by
  have u : i < 2 ^ 31 := by omega
  have z := te_Rz n hn (i := i) C
  simp (disch := (first | assumption | decide | omega)) only [df_X14_entry_190, df_X14_entry_200, df_X14_entry_220, df_X14_entry_245, e, z, eq_self, Nat.reduceEqDiff, Nat.reduceLeDiff, nl_0, nl_1, nl_2, nl_3, nl_4, nl_2048, no_1, no_1024, pk_mul, nI_add, nm_ck, nI_clamp, nI_ltI, nI_leI, nI_eq, nb_b2, nb_b1, ↓nb_let, nm_z0, nm_z1, nb_II, nb_IR, nb_RI, nb_RR, nm_IL, nm_IQ, nm_RL, nm_RQ, nm_LI, nm_LR, nm_LL, nm_LQ, nm_QI, nm_QR, nm_QL, nm_QQ, nm_rr, nm_ii, nm_eqm, not_false_eq_true, pk_sub, nm_div, nm_shl, nm_shr, nm_ush, nm_or8, nm_or64, nm_or256, nm_m1, nm_m3, nm_m7, nm_m15, nm_m31, nm_m63, nm_m255, nm_m511, nm_m1023, nm_m2047, nm_m65535, Nat.reduceMod, Nat.reducePow, Nat.reduceAdd, Nat.reduceSub, Nat.reduceMul, nm_bo, nm_bi, nm_rc, nm_ic, nm_ri, nm_rl, nm_rq, nm_ql, nm_qi, nm_li, nm_us, nm_uu, nm_cp, nm_sa31, nm_sa7, nm_m127, nm_m2, nm_nz, nm_nzk, nm_eq32, nm_nzf, if_true, if_false, ↓reduceIte, if_pos, if_neg]
theorem te_R1 (n : Nat) {i : Nat} {b : Int32} {C : St} (hi : i < 2048) (e : sR C 0 i = nI 1) (eb : sR C 1 i = b) : df_X14_entry_190 n (nI i) (nI 0) (nI 0) C = df_X14_entry_283 n (nI i) b C := by
  have u : i < 2 ^ 31 := by omega
  simp (disch := (first | assumption | decide | omega)) only [df_X14_entry_190, df_X14_entry_200, df_X14_entry_220, df_X14_entry_245, e, eb, eq_self, Nat.reduceEqDiff, Nat.reduceLeDiff, nl_0, nl_1, nl_2, nl_3, nl_4, nl_2048, no_1, no_1024, pk_mul, nI_add, nm_ck, nI_clamp, nI_ltI, nI_leI, nI_eq, nb_b2, nb_b1, ↓nb_let, nm_z0, nm_z1, nb_II, nb_IR, nb_RI, nb_RR, nm_IL, nm_IQ, nm_RL, nm_RQ, nm_LI, nm_LR, nm_LL, nm_LQ, nm_QI, nm_QR, nm_QL, nm_QQ, nm_rr, nm_ii, nm_eqm, not_false_eq_true, pk_sub, nm_div, nm_shl, nm_shr, nm_ush, nm_or8, nm_or64, nm_or256, nm_m1, nm_m3, nm_m7, nm_m15, nm_m31, nm_m63, nm_m255, nm_m511, nm_m1023, nm_m2047, nm_m65535, Nat.reduceMod, Nat.reducePow, Nat.reduceAdd, Nat.reduceSub, Nat.reduceMul, nm_bo, nm_bi, nm_rc, nm_ic, nm_ri, nm_rl, nm_rq, nm_ql, nm_qi, nm_li, nm_us, nm_uu, nm_cp, nm_sa31, nm_sa7, nm_m127, nm_m2, nm_nz, nm_nzk, nm_eq32, nm_nzf, if_true, if_false, ↓reduceIte, if_pos, if_neg]
theorem te_R1e (n : Nat) (hn : 0 < n) {i r : Nat} {C : St} (hi : i < 2048) (h1 : 1 ≤ r) (h2 : r ≤ 20) (e : sR C 0 i = nI 1) : df_X14_entry_200 n (nI i) (nI r) (nI 0) C = some C := by
  have u : i < 2 ^ 31 := by omega
  have u2 : r < 2 ^ 31 := by omega
  have k1 : ¬ nI r = nI 0 := fun z => by rw [nI_eq u2 (by omega)] at z; omega
  have z := te_Rz n hn (i := i) C
  simp (disch := (first | assumption | decide | omega)) only [df_X14_entry_200, df_X14_entry_220, df_X14_entry_245, e, k1, z, eq_self, Nat.reduceEqDiff, Nat.reduceLeDiff, nl_0, nl_1, nl_2, nl_3, nl_4, nl_2048, no_1, no_1024, pk_mul, nI_add, nm_ck, nI_clamp, nI_ltI, nI_leI, nI_eq, nb_b2, nb_b1, ↓nb_let, nm_z0, nm_z1, nb_II, nb_IR, nb_RI, nb_RR, nm_IL, nm_IQ, nm_RL, nm_RQ, nm_LI, nm_LR, nm_LL, nm_LQ, nm_QI, nm_QR, nm_QL, nm_QQ, nm_rr, nm_ii, nm_eqm, not_false_eq_true, pk_sub, nm_div, nm_shl, nm_shr, nm_ush, nm_or8, nm_or64, nm_or256, nm_m1, nm_m3, nm_m7, nm_m15, nm_m31, nm_m63, nm_m255, nm_m511, nm_m1023, nm_m2047, nm_m65535, Nat.reduceMod, Nat.reducePow, Nat.reduceAdd, Nat.reduceSub, Nat.reduceMul, nm_bo, nm_bi, nm_rc, nm_ic, nm_ri, nm_rl, nm_rq, nm_ql, nm_qi, nm_li, nm_us, nm_uu, nm_cp, nm_sa31, nm_sa7, nm_m127, nm_m2, nm_nz, nm_nzk, nm_eq32, nm_nzf, if_true, if_false, ↓reduceIte, if_pos, if_neg]
theorem te_R1r (n : Nat) {i r : Nat} {C : St} (h1 : 1 ≤ r) (h2 : r ≤ 20) : df_X14_entry_190 n (nI i) (nI r) (nI 0) C = nd_b1 (df_X14_varint n (nI r).toInt64 C) (fun s50 => df_X14_entry_200 n (nI i) (nI r) (nI 0) s50) := by
  unfold df_X14_entry_190
  rw [if_neg (show ¬ nI r ≤ (0 : Int32) from fun z => by have z : nI r ≤ nI 0 := z; rw [nI_leI (by omega) (by omega)] at z; omega)]
theorem te_R2 (n : Nat) {i : Nat} {b : Int32} {C : St} (hi : i < 2048) (e : sR C 0 i = nI 2) (eb : sR C 1 i = b) : df_X14_entry_190 n (nI i) (nI 0) (nI 0) C = nd_b1 (df_X14_put n b C) (fun s47 => df_X14_entry_220 n (nI i) (nI 0) (nI 0) s47) := by
  have u : i < 2 ^ 31 := by omega
  simp (disch := (first | assumption | decide | omega)) only [df_X14_entry_190, df_X14_entry_200, e, eb, eq_self, Nat.reduceEqDiff, Nat.reduceLeDiff, nl_0, nl_1, nl_2, nl_2048, no_1, no_1024, pk_mul, nI_add, nm_ck, nI_clamp, nI_ltI, nI_leI, nI_eq, nb_b2, nb_b1, ↓nb_let, nm_z0, nm_z1, nb_II, nb_IR, nb_RI, nb_RR, nm_IL, nm_IQ, nm_RL, nm_RQ, nm_LI, nm_LR, nm_LL, nm_LQ, nm_QI, nm_QR, nm_QL, nm_QQ, nm_rr, nm_ii, nm_eqm, not_false_eq_true, pk_sub, nm_div, nm_shl, nm_shr, nm_ush, nm_or8, nm_or64, nm_or256, nm_m1, nm_m3, nm_m7, nm_m15, nm_m31, nm_m63, nm_m255, nm_m511, nm_m1023, nm_m2047, nm_m65535, Nat.reduceMod, Nat.reducePow, Nat.reduceAdd, Nat.reduceSub, Nat.reduceMul, nm_bo, nm_bi, nm_rc, nm_ic, nm_ri, nm_rl, nm_rq, nm_ql, nm_qi, nm_li, nm_us, nm_uu, nm_cp, nm_sa31, nm_sa7, nm_m127, nm_m2, nm_nz, nm_nzk, nm_eq32, nm_nzf, if_true, if_false, ↓reduceIte, if_pos, if_neg]
theorem te_R2e (n : Nat) (hn : 0 < n) {i : Nat} {C : St} (hi : i < 2048) (e : sR C 0 i = nI 2) : df_X14_entry_220 n (nI i) (nI 0) (nI 0) C = some C := by
  have u : i < 2 ^ 31 := by omega
  have z := te_Rz n hn (i := i) C
  simp (disch := (first | assumption | decide | omega)) only [df_X14_entry_220, df_X14_entry_245, e, z, eq_self, Nat.reduceEqDiff, Nat.reduceLeDiff, nl_0, nl_1, nl_3, nl_4, nl_2048, no_1, no_1024, pk_mul, nI_add, nm_ck, nI_clamp, nI_ltI, nI_leI, nI_eq, nb_b2, nb_b1, ↓nb_let, nm_z0, nm_z1, nb_II, nb_IR, nb_RI, nb_RR, nm_IL, nm_IQ, nm_RL, nm_RQ, nm_LI, nm_LR, nm_LL, nm_LQ, nm_QI, nm_QR, nm_QL, nm_QQ, nm_rr, nm_ii, nm_eqm, not_false_eq_true, pk_sub, nm_div, nm_shl, nm_shr, nm_ush, nm_or8, nm_or64, nm_or256, nm_m1, nm_m3, nm_m7, nm_m15, nm_m31, nm_m63, nm_m255, nm_m511, nm_m1023, nm_m2047, nm_m65535, Nat.reduceMod, Nat.reducePow, Nat.reduceAdd, Nat.reduceSub, Nat.reduceMul, nm_bo, nm_bi, nm_rc, nm_ic, nm_ri, nm_rl, nm_rq, nm_ql, nm_qi, nm_li, nm_us, nm_uu, nm_cp, nm_sa31, nm_sa7, nm_m127, nm_m2, nm_nz, nm_nzk, nm_eq32, nm_nzf, if_true, if_false, ↓reduceIte, if_pos, if_neg]
theorem te_R3 (n : Nat) {i : Nat} {a : Int64} {C : St} (hi : i < 2048) (e : sR C 0 i = nI 3) (ea : sQ C 1 i = a) : df_X14_entry_190 n (nI i) (nI 0) (nI 0) C = nd_b1 (df_X14_varint n a C) (fun s43 => df_X14_entry_245 n (nI i) (nI 0) s43) := by
  have u : i < 2 ^ 31 := by omega
  simp (disch := (first | assumption | decide | omega)) only [df_X14_entry_190, df_X14_entry_200, df_X14_entry_220, e, ea, eq_self, Nat.reduceEqDiff, Nat.reduceLeDiff, nl_0, nl_1, nl_2, nl_3, nl_2048, no_1, no_1024, pk_mul, nI_add, nm_ck, nI_clamp, nI_ltI, nI_leI, nI_eq, nb_b2, nb_b1, ↓nb_let, nm_z0, nm_z1, nb_II, nb_IR, nb_RI, nb_RR, nm_IL, nm_IQ, nm_RL, nm_RQ, nm_LI, nm_LR, nm_LL, nm_LQ, nm_QI, nm_QR, nm_QL, nm_QQ, nm_rr, nm_ii, nm_eqm, not_false_eq_true, pk_sub, nm_div, nm_shl, nm_shr, nm_ush, nm_or8, nm_or64, nm_or256, nm_m1, nm_m3, nm_m7, nm_m15, nm_m31, nm_m63, nm_m255, nm_m511, nm_m1023, nm_m2047, nm_m65535, Nat.reduceMod, Nat.reducePow, Nat.reduceAdd, Nat.reduceSub, Nat.reduceMul, nm_bo, nm_bi, nm_rc, nm_ic, nm_ri, nm_rl, nm_rq, nm_ql, nm_qi, nm_li, nm_us, nm_uu, nm_cp, nm_sa31, nm_sa7, nm_m127, nm_m2, nm_nz, nm_nzk, nm_eq32, nm_nzf, if_true, if_false, ↓reduceIte, if_pos, if_neg]
theorem te_R3e (n : Nat) (hn : 0 < n) {i : Nat} {C : St} (hi : i < 2048) (e : sR C 0 i = nI 3) : df_X14_entry_245 n (nI i) (nI 0) C = some C := by
  have u : i < 2 ^ 31 := by omega
  have z := te_Rz n hn (i := i) C
  simp (disch := (first | assumption | decide | omega)) only [df_X14_entry_245, e, z, eq_self, Nat.reduceEqDiff, Nat.reduceLeDiff, nl_0, nl_1, nl_4, nl_2048, no_1, no_1024, pk_mul, nI_add, nm_ck, nI_clamp, nI_ltI, nI_leI, nI_eq, nb_b2, nb_b1, ↓nb_let, nm_z0, nm_z1, nb_II, nb_IR, nb_RI, nb_RR, nm_IL, nm_IQ, nm_RL, nm_RQ, nm_LI, nm_LR, nm_LL, nm_LQ, nm_QI, nm_QR, nm_QL, nm_QQ, nm_rr, nm_ii, nm_eqm, not_false_eq_true, pk_sub, nm_div, nm_shl, nm_shr, nm_ush, nm_or8, nm_or64, nm_or256, nm_m1, nm_m3, nm_m7, nm_m15, nm_m31, nm_m63, nm_m255, nm_m511, nm_m1023, nm_m2047, nm_m65535, Nat.reduceMod, Nat.reducePow, Nat.reduceAdd, Nat.reduceSub, Nat.reduceMul, nm_bo, nm_bi, nm_rc, nm_ic, nm_ri, nm_rl, nm_rq, nm_ql, nm_qi, nm_li, nm_us, nm_uu, nm_cp, nm_sa31, nm_sa7, nm_m127, nm_m2, nm_nz, nm_nzk, nm_eq32, nm_nzf, if_true, if_false, ↓reduceIte, if_pos, if_neg]
theorem te_R3r (n : Nat) (hn : 0 < n) {i : Nat} {C : St} (hi : i < 2048) (e : sR C 0 i = nI 3) : df_X14_entry_190 n (nI i) (nI 0) (nI 1) C = some C := by
  have u : i < 2 ^ 31 := by omega
  have z := te_Rz n hn (i := i) C
  simp (disch := (first | assumption | decide | omega)) only [df_X14_entry_190, df_X14_entry_200, df_X14_entry_220, df_X14_entry_245, e, z, eq_self, Nat.reduceEqDiff, Nat.reduceLeDiff, nl_0, nl_1, nl_2, nl_3, nl_4, nl_2048, no_1, no_1024, pk_mul, nI_add, nm_ck, nI_clamp, nI_ltI, nI_leI, nI_eq, nb_b2, nb_b1, ↓nb_let, nm_z0, nm_z1, nb_II, nb_IR, nb_RI, nb_RR, nm_IL, nm_IQ, nm_RL, nm_RQ, nm_LI, nm_LR, nm_LL, nm_LQ, nm_QI, nm_QR, nm_QL, nm_QQ, nm_rr, nm_ii, nm_eqm, not_false_eq_true, pk_sub, nm_div, nm_shl, nm_shr, nm_ush, nm_or8, nm_or64, nm_or256, nm_m1, nm_m3, nm_m7, nm_m15, nm_m31, nm_m63, nm_m255, nm_m511, nm_m1023, nm_m2047, nm_m65535, Nat.reduceMod, Nat.reducePow, Nat.reduceAdd, Nat.reduceSub, Nat.reduceMul, nm_bo, nm_bi, nm_rc, nm_ic, nm_ri, nm_rl, nm_rq, nm_ql, nm_qi, nm_li, nm_us, nm_uu, nm_cp, nm_sa31, nm_sa7, nm_m127, nm_m2, nm_nz, nm_nzk, nm_eq32, nm_nzf, if_true, if_false, ↓reduceIte, if_pos, if_neg]
theorem te_R4 (n : Nat) {i : Nat} {C : St} (hi : i < 2048) (e : sR C 0 i = nI 4) : df_X14_entry_190 n (nI i) (nI 0) (nI 0) C = df_X14_entry_283 n (nI i) (nI 4) C := by
  have u : i < 2 ^ 31 := by omega
  simp (disch := (first | assumption | decide | omega)) only [df_X14_entry_190, df_X14_entry_200, df_X14_entry_220, df_X14_entry_245, e, eq_self, Nat.reduceEqDiff, Nat.reduceLeDiff, nl_0, nl_1, nl_2, nl_3, nl_4, nl_2048, no_1, no_1024, pk_mul, nI_add, nm_ck, nI_clamp, nI_ltI, nI_leI, nI_eq, nb_b2, nb_b1, ↓nb_let, nm_z0, nm_z1, nb_II, nb_IR, nb_RI, nb_RR, nm_IL, nm_IQ, nm_RL, nm_RQ, nm_LI, nm_LR, nm_LL, nm_LQ, nm_QI, nm_QR, nm_QL, nm_QQ, nm_rr, nm_ii, nm_eqm, not_false_eq_true, pk_sub, nm_div, nm_shl, nm_shr, nm_ush, nm_or8, nm_or64, nm_or256, nm_m1, nm_m3, nm_m7, nm_m15, nm_m31, nm_m63, nm_m255, nm_m511, nm_m1023, nm_m2047, nm_m65535, Nat.reduceMod, Nat.reducePow, Nat.reduceAdd, Nat.reduceSub, Nat.reduceMul, nm_bo, nm_bi, nm_rc, nm_ic, nm_ri, nm_rl, nm_rq, nm_ql, nm_qi, nm_li, nm_us, nm_uu, nm_cp, nm_sa31, nm_sa7, nm_m127, nm_m2, nm_nz, nm_nzk, nm_eq32, nm_nzf, if_true, if_false, ↓reduceIte, if_pos, if_neg]
/-- up to the head, each kind -/
theorem th_C0 (n T : Nat) {i : Nat} {y : Int32} {a : Int64} {s : St × St} (hi : i < 2048) (e : sR s.2 0 i = nI 0 ∨ sR s.2 0 i = nI 2) (ea : sQ s.2 1 i = a) : df_X3_putEntry_29 n T (nI i) y s = df_X3_putEntry_144 n T (nI i) y (nI 0) a.toInt32 s := by
  have u : i < 2 ^ 31 := by omega
  rcases e with e | e
  · simp (disch := (first | assumption | decide | omega)) only [df_X3_putEntry_29, df_X3_putEntry_67, df_X3_putEntry_90, e, ea, eq_self, Nat.reduceEqDiff, Nat.reduceLeDiff, nl_0, nl_1, nl_2, nl_3, nl_2048, no_1, no_1024, pk_mul, nI_add, nm_ck, nI_clamp, nI_ltI, nI_leI, nI_eq, nb_b2, nb_b1, ↓nb_let, nm_z0, nm_z1, nb_II, nb_IR, nb_RI, nb_RR, nm_IL, nm_IQ, nm_RL, nm_RQ, nm_LI, nm_LR, nm_LL, nm_LQ, nm_QI, nm_QR, nm_QL, nm_QQ, nm_rr, nm_ii, nm_eqm, not_false_eq_true, pk_sub, nm_div, nm_shl, nm_shr, nm_ush, nm_or8, nm_or64, nm_or256, nm_m1, nm_m3, nm_m7, nm_m15, nm_m31, nm_m63, nm_m255, nm_m511, nm_m1023, nm_m2047, nm_m65535, Nat.reduceMod, Nat.reducePow, Nat.reduceAdd, Nat.reduceSub, Nat.reduceMul, nm_bo, nm_bi, nm_rc, nm_ic, nm_ri, nm_rl, nm_rq, nm_ql, nm_qi, nm_li, nm_us, nm_uu, nm_cp, nm_sa31, nm_sa7, nm_m127, nm_m2, nm_nz, nm_nzk, nm_eq32, nm_nzf, if_true, if_false, ↓reduceIte, if_pos, if_neg]
  · simp (disch := (first | assumption | decide | omega)) only [df_X3_putEntry_29, df_X3_putEntry_67, df_X3_putEntry_90, e, ea, eq_self, Nat.reduceEqDiff, Nat.reduceLeDiff, nl_0, nl_1, nl_2, nl_3, nl_2048, no_1, no_1024, pk_mul, nI_add, nm_ck, nI_clamp, nI_ltI, nI_leI, nI_eq, nb_b2, nb_b1, ↓nb_let, nm_z0, nm_z1, nb_II, nb_IR, nb_RI, nb_RR, nm_IL, nm_IQ, nm_RL, nm_RQ, nm_LI, nm_LR, nm_LL, nm_LQ, nm_QI, nm_QR, nm_QL, nm_QQ, nm_rr, nm_ii, nm_eqm, not_false_eq_true, pk_sub, nm_div, nm_shl, nm_shr, nm_ush, nm_or8, nm_or64, nm_or256, nm_m1, nm_m3, nm_m7, nm_m15, nm_m31, nm_m63, nm_m255, nm_m511, nm_m1023, nm_m2047, nm_m65535, Nat.reduceMod, Nat.reducePow, Nat.reduceAdd, Nat.reduceSub, Nat.reduceMul, nm_bo, nm_bi, nm_rc, nm_ic, nm_ri, nm_rl, nm_rq, nm_ql, nm_qi, nm_li, nm_us, nm_uu, nm_cp, nm_sa31, nm_sa7, nm_m127, nm_m2, nm_nz, nm_nzk, nm_eq32, nm_nzf, if_true, if_false, ↓reduceIte, if_pos, if_neg]
theorem th_C1 (n T : Nat) {i r : Nat} {y b : Int32} {s : St × St} (hi : i < 2048) (hr : r ≤ 20) (e : sR s.2 0 i = nI 1) (eb : sR s.2 1 i = b) (g : df_X3_sameTyped n (nI i) s.2 = some (nI r, s.2)) : df_X3_putEntry_29 n T (nI i) y s = df_X3_putEntry_144 n T (nI i) y (nI r) (if r = 0 then b else nI 0) s := by
  have u : i < 2 ^ 31 := by omega
  have u2 : r < 2 ^ 31 := by omega
  by_cases c : r = 0
  · subst c
    simp (disch := (first | assumption | decide | omega)) only [df_X3_putEntry_29, df_X3_putEntry_67, df_X3_putEntry_126, e, eb, g, eq_self, Nat.reduceEqDiff, Nat.reduceLeDiff, nl_0, nl_1, nl_2, nl_3, nl_2048, no_1, no_1024, pk_mul, nI_add, nm_ck, nI_clamp, nI_ltI, nI_leI, nI_eq, nb_b2, nb_b1, ↓nb_let, nm_z0, nm_z1, nb_II, nb_IR, nb_RI, nb_RR, nm_IL, nm_IQ, nm_RL, nm_RQ, nm_LI, nm_LR, nm_LL, nm_LQ, nm_QI, nm_QR, nm_QL, nm_QQ, nm_rr, nm_ii, nm_eqm, not_false_eq_true, pk_sub, nm_div, nm_shl, nm_shr, nm_ush, nm_or8, nm_or64, nm_or256, nm_m1, nm_m3, nm_m7, nm_m15, nm_m31, nm_m63, nm_m255, nm_m511, nm_m1023, nm_m2047, nm_m65535, Nat.reduceMod, Nat.reducePow, Nat.reduceAdd, Nat.reduceSub, Nat.reduceMul, nm_bo, nm_bi, nm_rc, nm_ic, nm_ri, nm_rl, nm_rq, nm_ql, nm_qi, nm_li, nm_us, nm_uu, nm_cp, nm_sa31, nm_sa7, nm_m127, nm_m2, nm_nz, nm_nzk, nm_eq32, nm_nzf, if_true, if_false, ↓reduceIte, if_pos, if_neg]
  · have k1 : ¬ r ≤ 0 := by omega
    rw [if_neg c]
    simp (disch := (first | assumption | decide | omega)) only [df_X3_putEntry_29, df_X3_putEntry_67, df_X3_putEntry_126, e, eb, g, eq_self, Nat.reduceEqDiff, Nat.reduceLeDiff, nl_0, nl_1, nl_2, nl_3, nl_2048, no_1, no_1024, pk_mul, nI_add, nm_ck, nI_clamp, nI_ltI, nI_leI, nI_eq, nb_b2, nb_b1, ↓nb_let, nm_z0, nm_z1, nb_II, nb_IR, nb_RI, nb_RR, nm_IL, nm_IQ, nm_RL, nm_RQ, nm_LI, nm_LR, nm_LL, nm_LQ, nm_QI, nm_QR, nm_QL, nm_QQ, nm_rr, nm_ii, nm_eqm, not_false_eq_true, pk_sub, nm_div, nm_shl, nm_shr, nm_ush, nm_or8, nm_or64, nm_or256, nm_m1, nm_m3, nm_m7, nm_m15, nm_m31, nm_m63, nm_m255, nm_m511, nm_m1023, nm_m2047, nm_m65535, Nat.reduceMod, Nat.reducePow, Nat.reduceAdd, Nat.reduceSub, Nat.reduceMul, nm_bo, nm_bi, nm_rc, nm_ic, nm_ri, nm_rl, nm_rq, nm_ql, nm_qi, nm_li, nm_us, nm_uu, nm_cp, nm_sa31, nm_sa7, nm_m127, nm_m2, nm_nz, nm_nzk, nm_eq32, nm_nzf, if_true, if_false, ↓reduceIte, if_pos, if_neg]
theorem th_C3 (n T : Nat) {i r : Nat} {y : Int32} {s : St × St} (hi : i < 2048) (e : sR s.2 0 i = nI 3) (g : df_X3_sameClock n (nI i) s.2 = some (nI r, s.2)) : df_X3_putEntry_29 n T (nI i) y s = df_X3_putEntry_144 n T (nI i) y (nI r) (nI r) s := by
  have u : i < 2 ^ 31 := by omega
  simp (disch := (first | assumption | decide | omega)) only [df_X3_putEntry_29, df_X3_putEntry_67, e, g, eq_self, Nat.reduceEqDiff, Nat.reduceLeDiff, nl_0, nl_1, nl_2, nl_3, nl_2048, no_1, no_1024, pk_mul, nI_add, nm_ck, nI_clamp, nI_ltI, nI_leI, nI_eq, nb_b2, nb_b1, ↓nb_let, nm_z0, nm_z1, nb_II, nb_IR, nb_RI, nb_RR, nm_IL, nm_IQ, nm_RL, nm_RQ, nm_LI, nm_LR, nm_LL, nm_LQ, nm_QI, nm_QR, nm_QL, nm_QQ, nm_rr, nm_ii, nm_eqm, not_false_eq_true, pk_sub, nm_div, nm_shl, nm_shr, nm_ush, nm_or8, nm_or64, nm_or256, nm_m1, nm_m3, nm_m7, nm_m15, nm_m31, nm_m63, nm_m255, nm_m511, nm_m1023, nm_m2047, nm_m65535, Nat.reduceMod, Nat.reducePow, Nat.reduceAdd, Nat.reduceSub, Nat.reduceMul, nm_bo, nm_bi, nm_rc, nm_ic, nm_ri, nm_rl, nm_rq, nm_ql, nm_qi, nm_li, nm_us, nm_uu, nm_cp, nm_sa31, nm_sa7, nm_m127, nm_m2, nm_nz, nm_nzk, nm_eq32, nm_nzf, if_true, if_false, ↓reduceIte, if_pos, if_neg]
theorem th_C4 (n T : Nat) {i : Nat} {y : Int32} {s : St × St} (hi : i < 2048) (e : sR s.2 0 i = nI 4) : df_X3_putEntry_29 n T (nI i) y s = df_X3_putEntry_144 n T (nI i) y (nI 0) (nI 0) s := by
  have u : i < 2 ^ 31 := by omega
  simp (disch := (first | assumption | decide | omega)) only [df_X3_putEntry_29, df_X3_putEntry_67, e, eq_self, Nat.reduceEqDiff, Nat.reduceLeDiff, nl_0, nl_1, nl_2, nl_3, nl_2048, no_1, no_1024, pk_mul, nI_add, nm_ck, nI_clamp, nI_ltI, nI_leI, nI_eq, nb_b2, nb_b1, ↓nb_let, nm_z0, nm_z1, nb_II, nb_IR, nb_RI, nb_RR, nm_IL, nm_IQ, nm_RL, nm_RQ, nm_LI, nm_LR, nm_LL, nm_LQ, nm_QI, nm_QR, nm_QL, nm_QQ, nm_rr, nm_ii, nm_eqm, not_false_eq_true, pk_sub, nm_div, nm_shl, nm_shr, nm_ush, nm_or8, nm_or64, nm_or256, nm_m1, nm_m3, nm_m7, nm_m15, nm_m31, nm_m63, nm_m255, nm_m511, nm_m1023, nm_m2047, nm_m65535, Nat.reduceMod, Nat.reducePow, Nat.reduceAdd, Nat.reduceSub, Nat.reduceMul, nm_bo, nm_bi, nm_rc, nm_ic, nm_ri, nm_rl, nm_rq, nm_ql, nm_qi, nm_li, nm_us, nm_uu, nm_cp, nm_sa31, nm_sa7, nm_m127, nm_m2, nm_nz, nm_nzk, nm_eq32, nm_nzf, if_true, if_false, ↓reduceIte, if_pos, if_neg]
theorem th_R0 (n : Nat) {i : Nat} {y : Int32} {a : Int64} {C : St} (hi : i < 2048) (e : sR C 0 i = nI 0 ∨ sR C 0 i = nI 2) (ea : sQ C 1 i = a) : df_X14_entry_31 n (nI i) y C = df_X14_entry_148 n (nI i) y (nI 0) (nI 0) a.toInt32 C := by
  have u : i < 2 ^ 31 := by omega
  rcases e with e | e
  · simp (disch := (first | assumption | decide | omega)) only [df_X14_entry_31, df_X14_entry_51, df_X14_entry_74, df_X14_entry_75, e, ea, eq_self, Nat.reduceEqDiff, Nat.reduceLeDiff, nl_0, nl_1, nl_3, nl_4, nl_2048, no_1, no_1024, pk_mul, nI_add, nm_ck, nI_clamp, nI_ltI, nI_leI, nI_eq, nb_b2, nb_b1, ↓nb_let, nm_z0, nm_z1, nb_II, nb_IR, nb_RI, nb_RR, nm_IL, nm_IQ, nm_RL, nm_RQ, nm_LI, nm_LR, nm_LL, nm_LQ, nm_QI, nm_QR, nm_QL, nm_QQ, nm_rr, nm_ii, nm_eqm, not_false_eq_true, pk_sub, nm_div, nm_shl, nm_shr, nm_ush, nm_or8, nm_or64, nm_or256, nm_m1, nm_m3, nm_m7, nm_m15, nm_m31, nm_m63, nm_m255, nm_m511, nm_m1023, nm_m2047, nm_m65535, Nat.reduceMod, Nat.reducePow, Nat.reduceAdd, Nat.reduceSub, Nat.reduceMul, nm_bo, nm_bi, nm_rc, nm_ic, nm_ri, nm_rl, nm_rq, nm_ql, nm_qi, nm_li, nm_us, nm_uu, nm_cp, nm_sa31, nm_sa7, nm_m127, nm_m2, nm_nz, nm_nzk, nm_eq32, nm_nzf, if_true, if_false, ↓reduceIte, if_pos, if_neg]
  · simp (disch := (first | assumption | decide | omega)) only [df_X14_entry_31, df_X14_entry_51, df_X14_entry_74, df_X14_entry_75, e, ea, eq_self, Nat.reduceEqDiff, Nat.reduceLeDiff, nl_0, nl_1, nl_3, nl_4, nl_2048, no_1, no_1024, pk_mul, nI_add, nm_ck, nI_clamp, nI_ltI, nI_leI, nI_eq, nb_b2, nb_b1, ↓nb_let, nm_z0, nm_z1, nb_II, nb_IR, nb_RI, nb_RR, nm_IL, nm_IQ, nm_RL, nm_RQ, nm_LI, nm_LR, nm_LL, nm_LQ, nm_QI, nm_QR, nm_QL, nm_QQ, nm_rr, nm_ii, nm_eqm, not_false_eq_true, pk_sub, nm_div, nm_shl, nm_shr, nm_ush, nm_or8, nm_or64, nm_or256, nm_m1, nm_m3, nm_m7, nm_m15, nm_m31, nm_m63, nm_m255, nm_m511, nm_m1023, nm_m2047, nm_m65535, Nat.reduceMod, Nat.reducePow, Nat.reduceAdd, Nat.reduceSub, Nat.reduceMul, nm_bo, nm_bi, nm_rc, nm_ic, nm_ri, nm_rl, nm_rq, nm_ql, nm_qi, nm_li, nm_us, nm_uu, nm_cp, nm_sa31, nm_sa7, nm_m127, nm_m2, nm_nz, nm_nzk, nm_eq32, nm_nzf, if_true, if_false, ↓reduceIte, if_pos, if_neg]
theorem th_R1 (n : Nat) {i r : Nat} {y b : Int32} {C : St} (hi : i < 2048) (hr : r ≤ 20) (e : sR C 0 i = nI 1) (eb : sR C 1 i = b) (g : df_X14_copyOf n (nI i) C = some (nI r, C)) : df_X14_entry_31 n (nI i) y C = df_X14_entry_148 n (nI i) y (nI r) (nI 0) (if r = 0 then b else nI 0) C := by
  have u : i < 2 ^ 31 := by omega
  have u2 : r < 2 ^ 31 := by omega
  by_cases c : r = 0
  · subst c
    simp (disch := (first | assumption | decide | omega)) only [df_X14_entry_31, df_X14_entry_51, df_X14_entry_74, df_X14_entry_75, e, eb, g, eq_self, Nat.reduceEqDiff, Nat.reduceLeDiff, nl_0, nl_1, nl_3, nl_4, nl_2048, no_1, no_1024, pk_mul, nI_add, nm_ck, nI_clamp, nI_ltI, nI_leI, nI_eq, nb_b2, nb_b1, ↓nb_let, nm_z0, nm_z1, nb_II, nb_IR, nb_RI, nb_RR, nm_IL, nm_IQ, nm_RL, nm_RQ, nm_LI, nm_LR, nm_LL, nm_LQ, nm_QI, nm_QR, nm_QL, nm_QQ, nm_rr, nm_ii, nm_eqm, not_false_eq_true, pk_sub, nm_div, nm_shl, nm_shr, nm_ush, nm_or8, nm_or64, nm_or256, nm_m1, nm_m3, nm_m7, nm_m15, nm_m31, nm_m63, nm_m255, nm_m511, nm_m1023, nm_m2047, nm_m65535, Nat.reduceMod, Nat.reducePow, Nat.reduceAdd, Nat.reduceSub, Nat.reduceMul, nm_bo, nm_bi, nm_rc, nm_ic, nm_ri, nm_rl, nm_rq, nm_ql, nm_qi, nm_li, nm_us, nm_uu, nm_cp, nm_sa31, nm_sa7, nm_m127, nm_m2, nm_nz, nm_nzk, nm_eq32, nm_nzf, if_true, if_false, ↓reduceIte, if_pos, if_neg]
  · have k1 : ¬ r ≤ 0 := by omega
    rw [if_neg c]
    simp (disch := (first | assumption | decide | omega)) only [df_X14_entry_31, df_X14_entry_51, df_X14_entry_74, df_X14_entry_75, e, eb, g, eq_self, Nat.reduceEqDiff, Nat.reduceLeDiff, nl_0, nl_1, nl_3, nl_4, nl_2048, no_1, no_1024, pk_mul, nI_add, nm_ck, nI_clamp, nI_ltI, nI_leI, nI_eq, nb_b2, nb_b1, ↓nb_let, nm_z0, nm_z1, nb_II, nb_IR, nb_RI, nb_RR, nm_IL, nm_IQ, nm_RL, nm_RQ, nm_LI, nm_LR, nm_LL, nm_LQ, nm_QI, nm_QR, nm_QL, nm_QQ, nm_rr, nm_ii, nm_eqm, not_false_eq_true, pk_sub, nm_div, nm_shl, nm_shr, nm_ush, nm_or8, nm_or64, nm_or256, nm_m1, nm_m3, nm_m7, nm_m15, nm_m31, nm_m63, nm_m255, nm_m511, nm_m1023, nm_m2047, nm_m65535, Nat.reduceMod, Nat.reducePow, Nat.reduceAdd, Nat.reduceSub, Nat.reduceMul, nm_bo, nm_bi, nm_rc, nm_ic, nm_ri, nm_rl, nm_rq, nm_ql, nm_qi, nm_li, nm_us, nm_uu, nm_cp, nm_sa31, nm_sa7, nm_m127, nm_m2, nm_nz, nm_nzk, nm_eq32, nm_nzf, if_true, if_false, ↓reduceIte, if_pos, if_neg]
theorem th_R3 (n : Nat) {i r : Nat} {y : Int32} {C : St} (hi : i < 2048) (hr : r < 2) (e : sR C 0 i = nI 3) (g : df_X14_isAsFar n (nI i) C = some (nI r, C)) : df_X14_entry_31 n (nI i) y C = df_X14_entry_148 n (nI i) y (nI 0) (nI r) (nI r) C := by
  have u : i < 2 ^ 31 := by omega
  have c : r = 0 ∨ r = 1 := by omega
  rcases c with rfl | rfl
  · simp (disch := (first | assumption | decide | omega)) only [df_X14_entry_31, df_X14_entry_51, df_X14_entry_74, df_X14_entry_75, e, g, eq_self, Nat.reduceEqDiff, Nat.reduceLeDiff, nl_0, nl_1, nl_3, nl_4, nl_2048, no_1, no_1024, pk_mul, nI_add, nm_ck, nI_clamp, nI_ltI, nI_leI, nI_eq, nb_b2, nb_b1, ↓nb_let, nm_z0, nm_z1, nb_II, nb_IR, nb_RI, nb_RR, nm_IL, nm_IQ, nm_RL, nm_RQ, nm_LI, nm_LR, nm_LL, nm_LQ, nm_QI, nm_QR, nm_QL, nm_QQ, nm_rr, nm_ii, nm_eqm, not_false_eq_true, pk_sub, nm_div, nm_shl, nm_shr, nm_ush, nm_or8, nm_or64, nm_or256, nm_m1, nm_m3, nm_m7, nm_m15, nm_m31, nm_m63, nm_m255, nm_m511, nm_m1023, nm_m2047, nm_m65535, Nat.reduceMod, Nat.reducePow, Nat.reduceAdd, Nat.reduceSub, Nat.reduceMul, nm_bo, nm_bi, nm_rc, nm_ic, nm_ri, nm_rl, nm_rq, nm_ql, nm_qi, nm_li, nm_us, nm_uu, nm_cp, nm_sa31, nm_sa7, nm_m127, nm_m2, nm_nz, nm_nzk, nm_eq32, nm_nzf, if_true, if_false, ↓reduceIte, if_pos, if_neg]
  · simp (disch := (first | assumption | decide | omega)) only [df_X14_entry_31, df_X14_entry_51, df_X14_entry_74, df_X14_entry_75, e, g, eq_self, Nat.reduceEqDiff, Nat.reduceLeDiff, nl_0, nl_1, nl_3, nl_4, nl_2048, no_1, no_1024, pk_mul, nI_add, nm_ck, nI_clamp, nI_ltI, nI_leI, nI_eq, nb_b2, nb_b1, ↓nb_let, nm_z0, nm_z1, nb_II, nb_IR, nb_RI, nb_RR, nm_IL, nm_IQ, nm_RL, nm_RQ, nm_LI, nm_LR, nm_LL, nm_LQ, nm_QI, nm_QR, nm_QL, nm_QQ, nm_rr, nm_ii, nm_eqm, not_false_eq_true, pk_sub, nm_div, nm_shl, nm_shr, nm_ush, nm_or8, nm_or64, nm_or256, nm_m1, nm_m3, nm_m7, nm_m15, nm_m31, nm_m63, nm_m255, nm_m511, nm_m1023, nm_m2047, nm_m65535, Nat.reduceMod, Nat.reducePow, Nat.reduceAdd, Nat.reduceSub, Nat.reduceMul, nm_bo, nm_bi, nm_rc, nm_ic, nm_ri, nm_rl, nm_rq, nm_ql, nm_qi, nm_li, nm_us, nm_uu, nm_cp, nm_sa31, nm_sa7, nm_m127, nm_m2, nm_nz, nm_nzk, nm_eq32, nm_nzf, if_true, if_false, ↓reduceIte, if_pos, if_neg]
theorem th_R4 (n : Nat) {i : Nat} {y : Int32} {C : St} (hi : i < 2048) (e : sR C 0 i = nI 4) : df_X14_entry_31 n (nI i) y C = df_X14_entry_148 n (nI i) y (nI 0) (nI 0) (nI 0) C := by
  have u : i < 2 ^ 31 := by omega
  simp (disch := (first | assumption | decide | omega)) only [df_X14_entry_31, df_X14_entry_51, df_X14_entry_74, df_X14_entry_75, e, eq_self, Nat.reduceEqDiff, Nat.reduceLeDiff, nl_0, nl_1, nl_3, nl_4, nl_2048, no_1, no_1024, pk_mul, nI_add, nm_ck, nI_clamp, nI_ltI, nI_leI, nI_eq, nb_b2, nb_b1, ↓nb_let, nm_z0, nm_z1, nb_II, nb_IR, nb_RI, nb_RR, nm_IL, nm_IQ, nm_RL, nm_RQ, nm_LI, nm_LR, nm_LL, nm_LQ, nm_QI, nm_QR, nm_QL, nm_QQ, nm_rr, nm_ii, nm_eqm, not_false_eq_true, pk_sub, nm_div, nm_shl, nm_shr, nm_ush, nm_or8, nm_or64, nm_or256, nm_m1, nm_m3, nm_m7, nm_m15, nm_m31, nm_m63, nm_m255, nm_m511, nm_m1023, nm_m2047, nm_m65535, Nat.reduceMod, Nat.reducePow, Nat.reduceAdd, Nat.reduceSub, Nat.reduceMul, nm_bo, nm_bi, nm_rc, nm_ic, nm_ri, nm_rl, nm_rq, nm_ql, nm_qi, nm_li, nm_us, nm_uu, nm_cp, nm_sa31, nm_sa7, nm_m127, nm_m2, nm_nz, nm_nzk, nm_eq32, nm_nzf, if_true, if_false, ↓reduceIte, if_pos, if_neg]
theorem pk_h2 (n T : Nat) (hn : 4096 < n) {N : Nat} {K t : Nat → Nat} {A : Nat → Int64} {B : Nat → Int32} {V0 C0 C : St} {s : St × St} {p i : Nat} (hR : pkR N K t A B V0 C0) (h : pkJ T p V0 C0 s C) (hi : i < N) (hp : p + 4 ≤ 32768) {x2 : Int32} (h2 : x2 = 0 ∨ x2 = 1) (x3 x4 k far : Int32) : ∃ (p1 : Nat) (s1 : St × St) (C1 : St), p1 ≤ p + 4 ∧ df_X3_putEntry_144 n T (nI i) x2 x3 x4 s = df_X3_putEntry_183 n T (nI i) x3 s1 ∧ df_X14_entry_148 n (nI i) x2 k far x4 C = df_X14_entry_190 n (nI i) k far C1 ∧ pkJ T p1 V0 C0 s1 C1 := by
  have N8 := hR.1
  have R1 := pkR_J hR h
  obtain ⟨_, _, _, ⟨i4, _⟩, i8, _⟩ := R1.2.2.2.2 i hi
  unfold df_X3_putEntry_144 df_X14_entry_148
  rw [nm_ck (by omega) (by omega), nm_ck (by omega) (by omega), nI_clamp (by omega), i4, i8]
  by_cases c : x2 = 0
  · rw [if_pos c, if_pos c]
    exact pk_head n T hn hR h hi hp h2 x3 x4 k far _ _
  · rw [if_neg c, if_neg c]
    exact pk_head n T hn hR h hi hp h2 x3 x4 k far _ _
/-- an entry, in both -/
theorem pk_entry (n T : Nat) (hn : 4096 < n) {N : Nat} {K t : Nat → Nat} {A : Nat → Int64} {B : Nat → Int32} {V0 C0 C : St} {s : St × St} {p i : Nat} (hR : pkR N K t A B V0 C0) (h : pkJ T p V0 C0 s C) (hi : i < N) (hp : p + 12 ≤ 32768) : ∃ (p' : Nat) (s' : St × St) (C' : St), p' ≤ p + 12 ∧ df_X3_putEntry n T (nI i) s = some s' ∧ df_X14_entry n (nI i) C = some C' ∧ pkJ T p' V0 C0 s' C' := by
  have N8 := hR.1
  have R1 := pkR_J hR h
  have v : i < 2048 := by omega
  have u : i < 2 ^ 31 := by omega
  obtain ⟨k5, _, hev, ⟨i4, i5, i6, i7⟩, i8, i9, ia, ib⟩ := R1.2.2.2.2 i hi
  -- the two begin alike
  have beg : ∃ y : Int32, (y = 0 ∨ y = 1) ∧ df_X3_putEntry n T (nI i) s = df_X3_putEntry_29 n T (nI i) y s ∧ df_X14_entry n (nI i) C = df_X14_entry_31 n (nI i) y C := by
    have fin : ∀ d : Int64, ∃ y : Int32, (y = 0 ∨ y = 1) ∧ df_X3_putEntry_20 n T (nI i) (Int64.ofNat (dT t i)) d s = df_X3_putEntry_29 n T (nI i) y s ∧ df_X14_entry_22 n (nI i) (Int64.ofNat (dT t i)) d C = df_X14_entry_31 n (nI i) y C := fun d => by
      unfold df_X3_putEntry_20 df_X14_entry_22
      by_cases c : lg_cmp (Int64.ofNat (dT t i)) d = (0 : Int32)
      · rw [if_pos c, if_pos c]; exact ⟨1, Or.inr rfl, rfl, rfl⟩
      · rw [if_neg c, if_neg c]; exact ⟨0, Or.inl rfl, rfl, rfl⟩
    by_cases c : i = 0
    · subst c
      obtain ⟨y, y1, y2, y3⟩ := fin 0
      refine ⟨y, y1, ?_, ?_⟩
      · unfold df_X3_putEntry df_X3_putEntry_0
        rw [pk_diff n R1 hi, nb_b2, nb_let, if_pos (show nI 0 = (0 : Int32) from rfl)]
        exact y2
      · unfold df_X14_entry df_X14_entry_0
        rw [nm_ck (by omega) (by omega), if_pos (show nI 0 = (0 : Int32) from rfl), nI_clamp (by omega), ia]
        exact y3
    · obtain ⟨y, y1, y2, y3⟩ := fin (Int64.ofNat (dT t (i - 1)))
      have c' : ¬ nI i = (0 : Int32) := fun z => by have z : nI i = nI 0 := z; rw [nI_eq u (by omega)] at z; exact c z
      have i1 : nI i - 1 = nI (i - 1) := pk_sub (show 1 ≤ i by omega)
      refine ⟨y, y1, ?_, ?_⟩
      · unfold df_X3_putEntry df_X3_putEntry_0
        rw [pk_diff n R1 hi, nb_b2, nb_let, if_neg c', i1, pk_diff n R1 (show i - 1 < N by omega), nb_b2, nb_let]
        exact y2
      · unfold df_X14_entry df_X14_entry_0
        rw [nm_ck v u, if_neg c', i1, nm_ck (by omega) (by omega), nI_clamp u, nI_clamp (by omega), ia, (R1.2.2.2.2 (i - 1) (by omega)).2.2.2.2.2.2.1]
        exact y3
  obtain ⟨y, y1, y2, y3⟩ := beg
  rw [y2, y3]
  have en : ∀ s2 : St × St, (fun s : St × St => some s) s2 = some s2 := fun _ => rfl
  have K0 : K i = 0 ∨ K i = 1 ∨ K i = 2 ∨ K i = 3 ∨ K i = 4 := by omega
  rcases K0 with k | k | k | k | k
  · rw [k] at i4 i8
    rw [th_C0 n T v (Or.inl i4) i6, th_R0 n v (Or.inl i8) ib]
    obtain ⟨p1, s1, C1, q1, q2, q3, q4⟩ := pk_h2 n T hn hR h hi (by omega) y1 (nI 0) (A i).toInt32 (nI 0) (nI 0)
    obtain ⟨_, _, _, ⟨g4, _⟩, g8, _⟩ := (pkR_J hR q4).2.2.2.2 i hi
    rw [k] at g4 g8
    rw [q2, q3, te_C0 n T v g4, te_R0 n (by omega) v g8]
    exact ⟨p1, s1, C1, by omega, rfl, rfl, q4⟩
  · rw [k] at i4 i8 hev
    obtain ⟨r, r1, r2, r3⟩ := pk_copy n R1 hi i 0 n n (Nat.le_refl i) (by omega) (by omega) (by omega)
    have r2 : df_X3_sameTyped n (nI i) s.2 = some (nI r, s.2) := r2
    have r3 : df_X14_copyOf n (nI i) C = some (nI r, C) := r3
    rw [th_C1 n T v r1 i4 i7 r2, th_R1 n v r1 i8 i9 r3]
    obtain ⟨p1, s1, C1, q1, q2, q3, q4⟩ := pk_h2 n T hn hR h hi (by omega) y1 (nI r) (if r = 0 then B i else nI 0) (nI r) (nI 0)
    obtain ⟨_, _, _, ⟨g4, _, g6, g7⟩, g8, g9, _, gb⟩ := (pkR_J hR q4).2.2.2.2 i hi
    rw [k] at g4 g8
    rw [q2, q3]
    by_cases c : r = 0
    · subst c
      obtain ⟨j, j1, j2⟩ : ∃ j : Nat, j ≤ 8 ∧ B i = nI j := by
        rcases hev with ⟨z, _⟩ | ⟨_, j, j1, j2⟩ | ⟨z, _⟩ | ⟨z, _⟩ | z
        · exact absurd z (by omega)
        · exact ⟨j, j1, j2⟩
        · exact absurd z (by omega)
        · exact absurd z (by omega)
        · exact absurd z (by omega)
      obtain ⟨s2, C2, f1, f2, f3⟩ := pk_bytes n T (hR.2.2.2.2 i hi).2.2.2.2.2.2.2 v j n n p1 s1 C1 (by omega) (by omega) (by omega) j1 q4
      rw [te_C1 n T v g4 g7 g6, te_R1 n v g8 g9, j2]
      refine ⟨p1 + j, s2, C2, by omega, ?_, ?_, f3⟩
      · unfold df_X3_putBytes df_X3_putBytes_0
        rw [nb_let]
        have f1 : df_X3_putBytes_5 n T n (A i) (nI j - 1) s1 = some s2 := f1
        rw [f1, nb_b1]
      · unfold df_X14_entry_283
        rw [nb_let]
        exact f2
    · obtain ⟨p2, s2, C2, f0, f1, f2, f3⟩ := pk_varN n T (by omega) (m := 1) (x := r) (by omega) (by omega) (by omega) (by omega) q4
      obtain ⟨_, _, _, _, h8, _⟩ := (pkR_J hR f3).2.2.2.2 i hi
      rw [k] at h8
      rw [te_C1r n T v (by omega) r1 g4, te_R1r n (by omega) r1, nI_64 (by omega), f1, f2, nb_b1, nb_b1, te_R1e n (by omega) v (by omega) r1 h8]
      exact ⟨p2, s2, C2, by omega, rfl, rfl, f3⟩
  · rw [k] at i4 i8
    rw [th_C0 n T v (Or.inr i4) i6, th_R0 n v (Or.inr i8) ib]
    obtain ⟨p1, s1, C1, q1, q2, q3, q4⟩ := pk_h2 n T hn hR h hi (by omega) y1 (nI 0) (A i).toInt32 (nI 0) (nI 0)
    obtain ⟨_, _, _, ⟨g4, _, g6, g7⟩, g8, g9, _⟩ := (pkR_J hR q4).2.2.2.2 i hi
    rw [k] at g4 g8
    obtain ⟨s2, C2, f1, f2, f3⟩ := pk_byte n T q4 (by omega) (B i)
    obtain ⟨_, _, _, _, h8, _⟩ := (pkR_J hR f3).2.2.2.2 i hi
    rw [k] at h8
    rw [q2, q3, te_C2 n T v g4 g7, te_R2 n v g8 g9, f1, f2, nb_b1, nb_b1, te_R2e n (by omega) v h8]
    exact ⟨p1 + 1, s2, C2, by omega, rfl, rfl, f3⟩
  · rw [k] at i4 i8 hev
    obtain ⟨r, r1, r2, r3⟩ := pk_clock n hn R1 hi
    rw [th_C3 n T v i4 r2, th_R3 n v r1 i8 r3]
    obtain ⟨p1, s1, C1, q1, q2, q3, q4⟩ := pk_h2 n T hn hR h hi (by omega) y1 (nI r) (nI r) (nI 0) (nI r)
    obtain ⟨_, _, _, ⟨g4, _, g6, g7⟩, g8, g9, _, gb⟩ := (pkR_J hR q4).2.2.2.2 i hi
    rw [k] at g4 g8
    rw [q2, q3]
    have c : r = 0 ∨ r = 1 := by omega
    rcases c with rfl | rfl
    · obtain ⟨b1, b2⟩ : 0 ≤ (A i).toInt ∧ (A i).toInt ≤ 1099511627776 := by
        rcases hev with ⟨z, _⟩ | ⟨z, _⟩ | ⟨z, _⟩ | ⟨_, z1, z2⟩ | z
        · exact absurd z (by omega)
        · exact absurd z (by omega)
        · exact absurd z (by omega)
        · exact ⟨z1, z2⟩
        · exact absurd z (by omega)
      have ea : A i = Int64.ofNat (A i).toInt.toNat := by
        apply Int64.toInt_inj.mp
        rw [lT (by omega)]
        omega
      obtain ⟨p2, s2, C2, f0, f1, f2, f3⟩ := pk_varN n T (by omega) (m := 6) (x := (A i).toInt.toNat) (by omega) (by omega) (by omega) (by omega) q4
      rw [← ea] at f1 f2
      obtain ⟨_, _, _, _, h8, _⟩ := (pkR_J hR f3).2.2.2.2 i hi
      rw [k] at h8
      rw [te_C3 n T v g4 g6, te_R3 n v g8 gb, f1, f2, nb_b1, nb_b1, te_R3e n (by omega) v h8]
      exact ⟨p2, s2, C2, by omega, rfl, rfl, f3⟩
    · rw [te_C3r n T v g4, te_R3r n (by omega) v g8]
      exact ⟨p1, s1, C1, by omega, rfl, rfl, q4⟩
  · rw [k] at i4 i8
    rw [th_C4 n T v i4, th_R4 n v i8]
    obtain ⟨p1, s1, C1, q1, q2, q3, q4⟩ := pk_h2 n T hn hR h hi (by omega) y1 (nI 0) (nI 0) (nI 0) (nI 0)
    obtain ⟨_, _, _, ⟨g4, _, g6, g7⟩, g8, g9, _, gb⟩ := (pkR_J hR q4).2.2.2.2 i hi
    rw [k] at g4 g8
    obtain ⟨s2, C2, f1, f2, f3⟩ := pk_bytes n T (hR.2.2.2.2 i hi).2.2.2.2.2.2.2 v 4 n n p1 s1 C1 (by omega) (by omega) (by omega) (by omega) q4
    rw [q2, q3, te_C4 n T v g4 g6, te_R4 n v g8]
    refine ⟨p1 + 4, s2, C2, by omega, ?_, ?_, f3⟩
    · unfold df_X3_putBytes df_X3_putBytes_0
      rw [nb_let]
      have f1 : df_X3_putBytes_5 n T n (A i) (nI 4 - 1) s1 = some s2 := f1
      rw [f1, nb_b1]
    · unfold df_X14_entry_283
      rw [nb_let]
      exact f2
