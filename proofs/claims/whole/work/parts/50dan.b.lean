/-- the rank of a sign between two, as the reference counts; the first of the lowest so far -/
def rk (o : Nat) : Nat := if o = 1 then 0 else if o = 2 then 1 else if o ≤ 8 then 2 else if o = 9 then 3 else if o = 10 then 4 else if o = 11 then 5 else if o ≤ 13 then 6 else if o ≤ 15 then 7 else 8
def foI (fo : Option (Nat × Nat)) : Int32 := match fo with | none => -nI 1 | some q => nI q.1
def uP (o r : Nat) (fo : Option (Nat × Nat)) : Option (Nat × Nat) := if 19 ≤ o then fo else match fo with | none => some (r, o) | some q => if rk o ≤ rk q.2 then some (r, o) else some q
def fok (Y : St) (fo : Option (Nat × Nat)) : Prop := ∀ q : Nat × Nat, fo = some q → q.1 < 960 ∧ 1 ≤ q.2 ∧ q.2 ≤ 18 ∧ sR Y 3 q.1 = nI (q.2 + 9)
theorem rk_R (n o : Nat) (h1 : 1 ≤ o) (h2 : o ≤ 18) : df_X15_rank n (nI (o + 9)) () = some (nI (rk o), ()) := by
  have ho : o = 1 ∨ o = 2 ∨ o = 3 ∨ o = 4 ∨ o = 5 ∨ o = 6 ∨ o = 7 ∨ o = 8 ∨ o = 9 ∨ o = 10 ∨ o = 11 ∨ o = 12 ∨ o = 13 ∨ o = 14 ∨ o = 15 ∨ o = 16 ∨ o = 17 ∨ o = 18 := by omega
  rcases ho with rfl | rfl | rfl | rfl | rfl | rfl | rfl | rfl | rfl | rfl | rfl | rfl | rfl | rfl | rfl | rfl | rfl | rfl
  all_goals simp (disch := (first | assumption | decide | omega)) only [df_X15_rank_84, df_X15_rank_0, df_X15_rank, rk, eq_self, Nat.reduceEqDiff, Nat.reduceLeDiff, nl_0, nl_1, nl_2, nl_3, nl_4, nl_5, nl_6, nl_7, nl_8, nl_10, nl_11, nl_18, nl_19, nl_20, nl_23, nl_25, no_1, no_1024, pk_mul, nI_add, nm_ck, nI_clamp, nI_ltI, nI_leI, nI_eq, nb_b2, nb_b1, ↓nb_let, nm_z0, nm_z1, nb_II, nb_IR, nb_RI, nb_RR, nm_IL, nm_IQ, nm_RL, nm_RQ, nm_LI, nm_LR, nm_LL, nm_LQ, nm_QI, nm_QR, nm_QL, nm_QQ, nm_rr, nm_ii, nm_eqm, not_false_eq_true, pk_sub, nm_div, nm_shl, nm_shr, nm_ush, nm_or8, nm_or64, nm_or256, nm_m1, nm_m3, nm_m7, nm_m15, nm_m31, nm_m63, nm_m255, nm_m511, nm_m1023, nm_m2047, nm_m65535, Nat.reduceMod, Nat.reducePow, Nat.reduceAdd, Nat.reduceSub, Nat.reduceMul, nm_bo, nm_bi, nm_rc, nm_ic, nm_ri, nm_rl, nm_rq, nm_ql, nm_qi, nm_li, nm_us, nm_uu, nm_cp, nm_sa31, nm_sa7, nm_m127, nm_m2, nm_nz, nm_nzk, nm_eq32, nm_nzf, if_true, if_false, ↓reduceIte, if_pos, if_neg]
theorem rk_le (o : Nat) : rk o ≤ 8 := by
  unfold rk
  repeat (first | omega | split)
theorem bw_R (n k : Nat) (h : k < 2 ^ 31) : df_X15_isBetween n (nI k) () = some (bI (decide (10 ≤ k ∧ k ≤ 27)), ()) := by
  by_cases a : k < 10
  · rw [decide_eq_false (by omega)]
    simp (disch := (first | assumption | decide | omega)) only [df_X15_isBetween_17, df_X15_isBetween_16, df_X15_isBetween_0, df_X15_isBetween, bI, eq_self, Nat.reduceEqDiff, Nat.reduceLeDiff, nl_0, nl_1, nl_10, nl_27, no_1, no_1024, pk_mul, nI_add, nm_ck, nI_clamp, nI_ltI, nI_leI, nI_eq, nb_b2, nb_b1, ↓nb_let, nm_z0, nm_z1, nb_II, nb_IR, nb_RI, nb_RR, nm_IL, nm_IQ, nm_RL, nm_RQ, nm_LI, nm_LR, nm_LL, nm_LQ, nm_QI, nm_QR, nm_QL, nm_QQ, nm_rr, nm_ii, nm_eqm, not_false_eq_true, pk_sub, nm_div, nm_shl, nm_shr, nm_ush, nm_or8, nm_or64, nm_or256, nm_m1, nm_m3, nm_m7, nm_m15, nm_m31, nm_m63, nm_m255, nm_m511, nm_m1023, nm_m2047, nm_m65535, Nat.reduceMod, Nat.reducePow, Nat.reduceAdd, Nat.reduceSub, Nat.reduceMul, nm_bo, nm_bi, nm_rc, nm_ic, nm_ri, nm_rl, nm_rq, nm_ql, nm_qi, nm_li, nm_us, nm_uu, nm_cp, nm_sa31, nm_sa7, nm_m127, nm_m2, nm_nz, nm_nzk, nm_eq32, nm_nzf, if_true, if_false, ↓reduceIte, if_pos, if_neg]
    rfl
  · by_cases b : 27 < k
    · rw [decide_eq_false (by omega)]
      simp (disch := (first | assumption | decide | omega)) only [df_X15_isBetween_17, df_X15_isBetween_16, df_X15_isBetween_0, df_X15_isBetween, bI, eq_self, Nat.reduceEqDiff, Nat.reduceLeDiff, nl_0, nl_1, nl_10, nl_27, no_1, no_1024, pk_mul, nI_add, nm_ck, nI_clamp, nI_ltI, nI_leI, nI_eq, nb_b2, nb_b1, ↓nb_let, nm_z0, nm_z1, nb_II, nb_IR, nb_RI, nb_RR, nm_IL, nm_IQ, nm_RL, nm_RQ, nm_LI, nm_LR, nm_LL, nm_LQ, nm_QI, nm_QR, nm_QL, nm_QQ, nm_rr, nm_ii, nm_eqm, not_false_eq_true, pk_sub, nm_div, nm_shl, nm_shr, nm_ush, nm_or8, nm_or64, nm_or256, nm_m1, nm_m3, nm_m7, nm_m15, nm_m31, nm_m63, nm_m255, nm_m511, nm_m1023, nm_m2047, nm_m65535, Nat.reduceMod, Nat.reducePow, Nat.reduceAdd, Nat.reduceSub, Nat.reduceMul, nm_bo, nm_bi, nm_rc, nm_ic, nm_ri, nm_rl, nm_rq, nm_ql, nm_qi, nm_li, nm_us, nm_uu, nm_cp, nm_sa31, nm_sa7, nm_m127, nm_m2, nm_nz, nm_nzk, nm_eq32, nm_nzf, if_true, if_false, ↓reduceIte, if_pos, if_neg]
      rfl
    · rw [decide_eq_true (by omega)]
      simp (disch := (first | assumption | decide | omega)) only [df_X15_isBetween_17, df_X15_isBetween_16, df_X15_isBetween_0, df_X15_isBetween, bI, eq_self, Nat.reduceEqDiff, Nat.reduceLeDiff, nl_0, nl_1, nl_10, nl_27, no_1, no_1024, pk_mul, nI_add, nm_ck, nI_clamp, nI_ltI, nI_leI, nI_eq, nb_b2, nb_b1, ↓nb_let, nm_z0, nm_z1, nb_II, nb_IR, nb_RI, nb_RR, nm_IL, nm_IQ, nm_RL, nm_RQ, nm_LI, nm_LR, nm_LL, nm_LQ, nm_QI, nm_QR, nm_QL, nm_QQ, nm_rr, nm_ii, nm_eqm, not_false_eq_true, pk_sub, nm_div, nm_shl, nm_shr, nm_ush, nm_or8, nm_or64, nm_or256, nm_m1, nm_m3, nm_m7, nm_m15, nm_m31, nm_m63, nm_m255, nm_m511, nm_m1023, nm_m2047, nm_m65535, Nat.reduceMod, Nat.reducePow, Nat.reduceAdd, Nat.reduceSub, Nat.reduceMul, nm_bo, nm_bi, nm_rc, nm_ic, nm_ri, nm_rl, nm_rq, nm_ql, nm_qi, nm_li, nm_us, nm_uu, nm_cp, nm_sa31, nm_sa7, nm_m127, nm_m2, nm_nz, nm_nzk, nm_eq32, nm_nzf, if_true, if_false, ↓reduceIte, if_pos, if_neg]
      rfl
/-- one turn of 'least' -/
theorem ls_opn (n m e x y : Nat) {r s : Int32} {Y : St} {X : St × St} (h1 : x < e) (h2 : e ≤ 960) (hk : sR Y 3 x = nI 30 ∨ sR Y 3 x = nI 32) (hp : sR Y 4 x = nI y) (hy : y < 2 ^ 30) : df_X15_least_8 n (m + 1) (nI e) r s (nI x) (Y, X) = df_X15_least_8 n m (nI e) r (nI 1) (nI (y + 1)) (Y, X) := by
  rcases hk with hk | hk
  · simp (disch := (first | assumption | decide | omega)) only [(show df_X15_least_8 n (m + 1) = dF_X15_least_8 n (df_X15_least_8 n m) from rfl), dF_X15_least_8, df_X15_least_103, df_X15_least_37, df_X15_least_101, df_X15_least_89, df_X15_least_86, df_X15_least_0, df_X15_least, hk, hp, eq_self, Nat.reduceEqDiff, Nat.reduceLeDiff, nl_0, nl_1, nl_3, nl_4, nl_10, nl_30, nl_32, nl_960, no_1, no_1024, pk_mul, nI_add, nm_ck, nI_clamp, nI_ltI, nI_leI, nI_eq, nb_b2, nb_b1, ↓nb_let, nm_z0, nm_z1, nb_II, nb_IR, nb_RI, nb_RR, nm_IL, nm_IQ, nm_RL, nm_RQ, nm_LI, nm_LR, nm_LL, nm_LQ, nm_QI, nm_QR, nm_QL, nm_QQ, nm_rr, nm_ii, nm_eqm, not_false_eq_true, pk_sub, nm_div, nm_shl, nm_shr, nm_ush, nm_or8, nm_or64, nm_or256, nm_m1, nm_m3, nm_m7, nm_m15, nm_m31, nm_m63, nm_m255, nm_m511, nm_m1023, nm_m2047, nm_m65535, Nat.reduceMod, Nat.reducePow, Nat.reduceAdd, Nat.reduceSub, Nat.reduceMul, nm_bo, nm_bi, nm_rc, nm_ic, nm_ri, nm_rl, nm_rq, nm_ql, nm_qi, nm_li, nm_us, nm_uu, nm_cp, nm_sa31, nm_sa7, nm_m127, nm_m2, nm_nz, nm_nzk, nm_eq32, nm_nzf, if_true, if_false, ↓reduceIte, if_pos, if_neg]
  · simp (disch := (first | assumption | decide | omega)) only [(show df_X15_least_8 n (m + 1) = dF_X15_least_8 n (df_X15_least_8 n m) from rfl), dF_X15_least_8, df_X15_least_103, df_X15_least_37, df_X15_least_101, df_X15_least_89, df_X15_least_86, df_X15_least_0, df_X15_least, hk, hp, eq_self, Nat.reduceEqDiff, Nat.reduceLeDiff, nl_0, nl_1, nl_3, nl_4, nl_10, nl_30, nl_32, nl_960, no_1, no_1024, pk_mul, nI_add, nm_ck, nI_clamp, nI_ltI, nI_leI, nI_eq, nb_b2, nb_b1, ↓nb_let, nm_z0, nm_z1, nb_II, nb_IR, nb_RI, nb_RR, nm_IL, nm_IQ, nm_RL, nm_RQ, nm_LI, nm_LR, nm_LL, nm_LQ, nm_QI, nm_QR, nm_QL, nm_QQ, nm_rr, nm_ii, nm_eqm, not_false_eq_true, pk_sub, nm_div, nm_shl, nm_shr, nm_ush, nm_or8, nm_or64, nm_or256, nm_m1, nm_m3, nm_m7, nm_m15, nm_m31, nm_m63, nm_m255, nm_m511, nm_m1023, nm_m2047, nm_m65535, Nat.reduceMod, Nat.reducePow, Nat.reduceAdd, Nat.reduceSub, Nat.reduceMul, nm_bo, nm_bi, nm_rc, nm_ic, nm_ri, nm_rl, nm_rq, nm_ql, nm_qi, nm_li, nm_us, nm_uu, nm_cp, nm_sa31, nm_sa7, nm_m127, nm_m2, nm_nz, nm_nzk, nm_eq32, nm_nzf, if_true, if_false, ↓reduceIte, if_pos, if_neg]
theorem ls_tok (n m e x k : Nat) {r : Int32} {Y : St} {X : St × St} (h1 : x < e) (h2 : e ≤ 960) (hk : sR Y 3 x = nI k) (k1 : ¬ k = 30) (k2 : ¬ k = 32) (k3 : k < 100) : df_X15_least_8 n (m + 1) (nI e) r (nI 0) (nI x) (Y, X) = df_X15_least_8 n m (nI e) r (if k < 10 then nI 1 else nI 0) (nI (x + 1)) (Y, X) := by
  by_cases c : 10 ≤ k
  · rw [if_neg (by omega)]
    simp (disch := (first | assumption | decide | omega)) only [(show df_X15_least_8 n (m + 1) = dF_X15_least_8 n (df_X15_least_8 n m) from rfl), dF_X15_least_8, df_X15_least_103, df_X15_least_37, df_X15_least_101, df_X15_least_89, df_X15_least_86, df_X15_least_0, df_X15_least, hk, eq_self, Nat.reduceEqDiff, Nat.reduceLeDiff, nl_0, nl_1, nl_3, nl_4, nl_10, nl_30, nl_32, nl_960, no_1, no_1024, pk_mul, nI_add, nm_ck, nI_clamp, nI_ltI, nI_leI, nI_eq, nb_b2, nb_b1, ↓nb_let, nm_z0, nm_z1, nb_II, nb_IR, nb_RI, nb_RR, nm_IL, nm_IQ, nm_RL, nm_RQ, nm_LI, nm_LR, nm_LL, nm_LQ, nm_QI, nm_QR, nm_QL, nm_QQ, nm_rr, nm_ii, nm_eqm, not_false_eq_true, pk_sub, nm_div, nm_shl, nm_shr, nm_ush, nm_or8, nm_or64, nm_or256, nm_m1, nm_m3, nm_m7, nm_m15, nm_m31, nm_m63, nm_m255, nm_m511, nm_m1023, nm_m2047, nm_m65535, Nat.reduceMod, Nat.reducePow, Nat.reduceAdd, Nat.reduceSub, Nat.reduceMul, nm_bo, nm_bi, nm_rc, nm_ic, nm_ri, nm_rl, nm_rq, nm_ql, nm_qi, nm_li, nm_us, nm_uu, nm_cp, nm_sa31, nm_sa7, nm_m127, nm_m2, nm_nz, nm_nzk, nm_eq32, nm_nzf, if_true, if_false, ↓reduceIte, if_pos, if_neg]
  · rw [if_pos (by omega)]
    simp (disch := (first | assumption | decide | omega)) only [(show df_X15_least_8 n (m + 1) = dF_X15_least_8 n (df_X15_least_8 n m) from rfl), dF_X15_least_8, df_X15_least_103, df_X15_least_37, df_X15_least_101, df_X15_least_89, df_X15_least_86, df_X15_least_0, df_X15_least, hk, eq_self, Nat.reduceEqDiff, Nat.reduceLeDiff, nl_0, nl_1, nl_3, nl_4, nl_10, nl_30, nl_32, nl_960, no_1, no_1024, pk_mul, nI_add, nm_ck, nI_clamp, nI_ltI, nI_leI, nI_eq, nb_b2, nb_b1, ↓nb_let, nm_z0, nm_z1, nb_II, nb_IR, nb_RI, nb_RR, nm_IL, nm_IQ, nm_RL, nm_RQ, nm_LI, nm_LR, nm_LL, nm_LQ, nm_QI, nm_QR, nm_QL, nm_QQ, nm_rr, nm_ii, nm_eqm, not_false_eq_true, pk_sub, nm_div, nm_shl, nm_shr, nm_ush, nm_or8, nm_or64, nm_or256, nm_m1, nm_m3, nm_m7, nm_m15, nm_m31, nm_m63, nm_m255, nm_m511, nm_m1023, nm_m2047, nm_m65535, Nat.reduceMod, Nat.reducePow, Nat.reduceAdd, Nat.reduceSub, Nat.reduceMul, nm_bo, nm_bi, nm_rc, nm_ic, nm_ri, nm_rl, nm_rq, nm_ql, nm_qi, nm_li, nm_us, nm_uu, nm_cp, nm_sa31, nm_sa7, nm_m127, nm_m2, nm_nz, nm_nzk, nm_eq32, nm_nzf, if_true, if_false, ↓reduceIte, if_pos, if_neg]
theorem ls_op (n m e x o : Nat) {fo : Option (Nat × Nat)} {Y : St} {X : St × St} (h1 : x < e) (h2 : e ≤ 960) (o1 : 1 ≤ o) (o2 : o ≤ 18) (hk : sR Y 3 x = nI (o + 9)) (hf : fok Y fo) : df_X15_least_8 n (m + 1) (nI e) (foI fo) (nI 1) (nI x) (Y, X) = df_X15_least_8 n m (nI e) (foI (uP o x fo)) (nI 0) (nI (x + 1)) (Y, X) := by
  have q30 : ¬ o + 9 = 30 := by omega
  have q32 : ¬ o + 9 = 32 := by omega
  have bw : df_X15_isBetween n (nI (o + 9)) () = some (nI 1, ()) := by rw [bw_R n (o + 9) (by omega), decide_eq_true (by omega)]; rfl
  have hr := rk_R n o o1 o2
  have hrl := rk_le o
  unfold uP
  rw [if_neg (by omega)]
  cases fo with
  | none =>
    show df_X15_least_8 n (m + 1) (nI e) (-nI 1) (nI 1) (nI x) (Y, X) = df_X15_least_8 n m (nI e) (nI x) (nI 0) (nI (x + 1)) (Y, X)
    simp (disch := (first | assumption | decide | omega)) only [(show df_X15_least_8 n (m + 1) = dF_X15_least_8 n (df_X15_least_8 n m) from rfl), dF_X15_least_8, df_X15_least_103, df_X15_least_37, df_X15_least_101, df_X15_least_89, df_X15_least_86, df_X15_least_0, df_X15_least, hk, bw, nm_ltm, eq_self, Nat.reduceEqDiff, Nat.reduceLeDiff, nl_0, nl_1, nl_3, nl_4, nl_10, nl_30, nl_32, nl_960, no_1, no_1024, pk_mul, nI_add, nm_ck, nI_clamp, nI_ltI, nI_leI, nI_eq, nb_b2, nb_b1, ↓nb_let, nm_z0, nm_z1, nb_II, nb_IR, nb_RI, nb_RR, nm_IL, nm_IQ, nm_RL, nm_RQ, nm_LI, nm_LR, nm_LL, nm_LQ, nm_QI, nm_QR, nm_QL, nm_QQ, nm_rr, nm_ii, nm_eqm, not_false_eq_true, pk_sub, nm_div, nm_shl, nm_shr, nm_ush, nm_or8, nm_or64, nm_or256, nm_m1, nm_m3, nm_m7, nm_m15, nm_m31, nm_m63, nm_m255, nm_m511, nm_m1023, nm_m2047, nm_m65535, Nat.reduceMod, Nat.reducePow, Nat.reduceAdd, Nat.reduceSub, Nat.reduceMul, nm_bo, nm_bi, nm_rc, nm_ic, nm_ri, nm_rl, nm_rq, nm_ql, nm_qi, nm_li, nm_us, nm_uu, nm_cp, nm_sa31, nm_sa7, nm_m127, nm_m2, nm_nz, nm_nzk, nm_eq32, nm_nzf, if_true, if_false, ↓reduceIte, if_pos, if_neg]
  | some q =>
    obtain ⟨a1, a2, a3, a4⟩ := hf q rfl
    have hq := rk_R n q.2 a2 a3
    have hql := rk_le q.2
    show df_X15_least_8 n (m + 1) (nI e) (nI q.1) (nI 1) (nI x) (Y, X) = df_X15_least_8 n m (nI e) (foI (if rk o ≤ rk q.2 then some (x, o) else some q)) (nI 0) (nI (x + 1)) (Y, X)
    by_cases c : rk o ≤ rk q.2
    · rw [if_pos c]
      show _ = df_X15_least_8 n m (nI e) (nI x) (nI 0) (nI (x + 1)) (Y, X)
      simp (disch := (first | assumption | decide | omega)) only [(show df_X15_least_8 n (m + 1) = dF_X15_least_8 n (df_X15_least_8 n m) from rfl), dF_X15_least_8, df_X15_least_103, df_X15_least_37, df_X15_least_101, df_X15_least_89, df_X15_least_86, df_X15_least_0, df_X15_least, hk, bw, hr, hq, a4, eq_self, Nat.reduceEqDiff, Nat.reduceLeDiff, nl_0, nl_1, nl_3, nl_4, nl_10, nl_30, nl_32, nl_960, no_1, no_1024, pk_mul, nI_add, nm_ck, nI_clamp, nI_ltI, nI_leI, nI_eq, nb_b2, nb_b1, ↓nb_let, nm_z0, nm_z1, nb_II, nb_IR, nb_RI, nb_RR, nm_IL, nm_IQ, nm_RL, nm_RQ, nm_LI, nm_LR, nm_LL, nm_LQ, nm_QI, nm_QR, nm_QL, nm_QQ, nm_rr, nm_ii, nm_eqm, not_false_eq_true, pk_sub, nm_div, nm_shl, nm_shr, nm_ush, nm_or8, nm_or64, nm_or256, nm_m1, nm_m3, nm_m7, nm_m15, nm_m31, nm_m63, nm_m255, nm_m511, nm_m1023, nm_m2047, nm_m65535, Nat.reduceMod, Nat.reducePow, Nat.reduceAdd, Nat.reduceSub, Nat.reduceMul, nm_bo, nm_bi, nm_rc, nm_ic, nm_ri, nm_rl, nm_rq, nm_ql, nm_qi, nm_li, nm_us, nm_uu, nm_cp, nm_sa31, nm_sa7, nm_m127, nm_m2, nm_nz, nm_nzk, nm_eq32, nm_nzf, if_true, if_false, ↓reduceIte, if_pos, if_neg]
    · rw [if_neg c]
      show _ = df_X15_least_8 n m (nI e) (nI q.1) (nI 0) (nI (x + 1)) (Y, X)
      simp (disch := (first | assumption | decide | omega)) only [(show df_X15_least_8 n (m + 1) = dF_X15_least_8 n (df_X15_least_8 n m) from rfl), dF_X15_least_8, df_X15_least_103, df_X15_least_37, df_X15_least_101, df_X15_least_89, df_X15_least_86, df_X15_least_0, df_X15_least, hk, bw, hr, hq, a4, eq_self, Nat.reduceEqDiff, Nat.reduceLeDiff, nl_0, nl_1, nl_3, nl_4, nl_10, nl_30, nl_32, nl_960, no_1, no_1024, pk_mul, nI_add, nm_ck, nI_clamp, nI_ltI, nI_leI, nI_eq, nb_b2, nb_b1, ↓nb_let, nm_z0, nm_z1, nb_II, nb_IR, nb_RI, nb_RR, nm_IL, nm_IQ, nm_RL, nm_RQ, nm_LI, nm_LR, nm_LL, nm_LQ, nm_QI, nm_QR, nm_QL, nm_QQ, nm_rr, nm_ii, nm_eqm, not_false_eq_true, pk_sub, nm_div, nm_shl, nm_shr, nm_ush, nm_or8, nm_or64, nm_or256, nm_m1, nm_m3, nm_m7, nm_m15, nm_m31, nm_m63, nm_m255, nm_m511, nm_m1023, nm_m2047, nm_m65535, Nat.reduceMod, Nat.reducePow, Nat.reduceAdd, Nat.reduceSub, Nat.reduceMul, nm_bo, nm_bi, nm_rc, nm_ic, nm_ri, nm_rl, nm_rq, nm_ql, nm_qi, nm_li, nm_us, nm_uu, nm_cp, nm_sa31, nm_sa7, nm_m127, nm_m2, nm_nz, nm_nzk, nm_eq32, nm_nzf, if_true, if_false, ↓reduceIte, if_pos, if_neg]
/-- what stays of the reference's conditions while one is worked at, with d frames below -/
def yE (d : Nat) (A B : St) : Prop := yFr A B ∧ sQ B 1 = sQ A 1 ∧ ∀ i : Nat, i < d → sR B 8 i = sR A 8 i ∧ sR B 9 i = sR A 9 i ∧ sR B 10 i = sR A 10 i ∧ sR B 11 i = sR A 11 i ∧ sQ B 3 i = sQ A 3 i
theorem yE_t {d : Nat} {A B C : St} (h : yE d A B) (g : yE d B C) : yE d A C := ⟨yFr_t h.1 g.1, g.2.1.trans h.2.1, fun i hi => ⟨(g.2.2 i hi).1.trans (h.2.2 i hi).1, (g.2.2 i hi).2.1.trans (h.2.2 i hi).2.1, (g.2.2 i hi).2.2.1.trans (h.2.2 i hi).2.2.1, (g.2.2 i hi).2.2.2.1.trans (h.2.2 i hi).2.2.2.1, (g.2.2 i hi).2.2.2.2.trans (h.2.2 i hi).2.2.2.2⟩⟩
theorem yE_l {t u : Nat} {A B : St} (h : yE t A B) (hu : u ≤ t) : yE u A B := ⟨h.1, h.2.1, fun i hi => h.2.2 i (by omega)⟩
theorem yFr_m {A B : St} (h1 : sR B 1 = sR A 1) (h2 : sR B 2 = sR A 2) (h3 : sR B 3 = sR A 3) (h4 : sR B 4 = sR A 4) (h5 : sQ B 0 = sQ A 0) : yFr A B := ⟨fun k a b => by
  have : k = 1 ∨ k = 2 ∨ k = 3 ∨ k = 4 := by omega
  rcases this with rfl | rfl | rfl | rfl
  · exact h1
  · exact h2
  · exact h3
  · exact h4, h5⟩
/-- begin, give, fail -/
def bgn (Y : St) (k : Nat) (a b : Int32) : St := pI (pR (pR (pR Y 8 (upd (sR Y 8) k a)) 9 (upd (sR Y 9) k b)) 11 (upd (sR Y 11) k (nI 0))) 7 (nI (k + 1))
def gvn (Y : St) (k : Nat) (v : Int64) : St := pI (pL Y 1 v) 7 (nI k)
theorem bgn_1 (n k : Nat) {a b : Int32} {Y : St} {X : St × St} (hk : k < 130) (h : sI Y 7 = nI k) : df_X15_begin n a b (Y, X) = some (bgn Y k a b, X) := by
  simp (disch := (first | assumption | decide | omega)) only [df_X15_begin_0, df_X15_begin, h, eq_self, Nat.reduceEqDiff, Nat.reduceLeDiff, nl_0, nl_1, nl_7, nl_8, nl_9, nl_11, nl_130, no_1, no_1024, pk_mul, nI_add, nm_ck, nI_clamp, nI_ltI, nI_leI, nI_eq, nb_b2, nb_b1, ↓nb_let, nm_z0, nm_z1, nb_II, nb_IR, nb_RI, nb_RR, nm_IL, nm_IQ, nm_RL, nm_RQ, nm_LI, nm_LR, nm_LL, nm_LQ, nm_QI, nm_QR, nm_QL, nm_QQ, nm_rr, nm_ii, nm_eqm, not_false_eq_true, pk_sub, nm_div, nm_shl, nm_shr, nm_ush, nm_or8, nm_or64, nm_or256, nm_m1, nm_m3, nm_m7, nm_m15, nm_m31, nm_m63, nm_m255, nm_m511, nm_m1023, nm_m2047, nm_m65535, Nat.reduceMod, Nat.reducePow, Nat.reduceAdd, Nat.reduceSub, Nat.reduceMul, nm_bo, nm_bi, nm_rc, nm_ic, nm_ri, nm_rl, nm_rq, nm_ql, nm_qi, nm_li, nm_us, nm_uu, nm_cp, nm_sa31, nm_sa7, nm_m127, nm_m2, nm_nz, nm_nzk, nm_eq32, nm_nzf, if_true, if_false, ↓reduceIte, if_pos, if_neg]
  rfl
theorem gv_1 (n k : Nat) {v : Int64} {Y : St} {X : St × St} (hk : k < 130) (h : sI Y 7 = nI (k + 1)) : df_X15_give n v (Y, X) = some (gvn Y k v, X) := by
  have w1 : nI (k + 1) - nI 1 = nI k := by rw [pk_sub (by omega)]; rfl
  simp (disch := (first | assumption | decide | omega)) only [df_X15_give_0, df_X15_give, h, w1, eq_self, Nat.reduceEqDiff, Nat.reduceLeDiff, nl_1, nl_7, no_1, no_1024, pk_mul, nI_add, nm_ck, nI_clamp, nI_ltI, nI_leI, nI_eq, nb_b2, nb_b1, ↓nb_let, nm_z0, nm_z1, nb_II, nb_IR, nb_RI, nb_RR, nm_IL, nm_IQ, nm_RL, nm_RQ, nm_LI, nm_LR, nm_LL, nm_LQ, nm_QI, nm_QR, nm_QL, nm_QQ, nm_rr, nm_ii, nm_eqm, not_false_eq_true, pk_sub, nm_div, nm_shl, nm_shr, nm_ush, nm_or8, nm_or64, nm_or256, nm_m1, nm_m3, nm_m7, nm_m15, nm_m31, nm_m63, nm_m255, nm_m511, nm_m1023, nm_m2047, nm_m65535, Nat.reduceMod, Nat.reducePow, Nat.reduceAdd, Nat.reduceSub, Nat.reduceMul, nm_bo, nm_bi, nm_rc, nm_ic, nm_ri, nm_rl, nm_rq, nm_ql, nm_qi, nm_li, nm_us, nm_uu, nm_cp, nm_sa31, nm_sa7, nm_m127, nm_m2, nm_nz, nm_nzk, nm_eq32, nm_nzf, if_true, if_false, ↓reduceIte, if_pos, if_neg]
  rfl
theorem bgn_E (Y : St) (k d : Nat) (a b : Int32) (h : d ≤ k) : yE d Y (bgn Y k a b) := ⟨yFr_m rfl rfl rfl rfl rfl, rfl, fun i hi => ⟨if_neg (by omega), if_neg (by omega), rfl, if_neg (by omega), rfl⟩⟩
theorem gvn_E (Y : St) (k d : Nat) (v : Int64) : yE d Y (gvn Y k v) := ⟨yFr_m rfl rfl rfl rfl rfl, rfl, fun i hi => ⟨rfl, rfl, rfl, rfl, rfl⟩⟩
/-- one turn of 'work' -/
theorem wkr_e (n m d x : Nat) {Y : St} {X : St × St} (hd : d < 130) (hx : x < 2000) (h7 : sI Y 7 = nI (d + 1)) (hs : sR Y 11 d = nI 0) : df_X15_work_18 n (m + 1) (nI x) (Y, X) = nd_b1 (df_X15_enter n (nI d) (Y, X)) (fun s => df_X15_work_18 n m (nI (x + 1)) s) := by
  have w1 : nI (d + 1) - nI 1 = nI d := by rw [pk_sub (by omega)]; rfl
  simp (disch := (first | assumption | decide | omega)) only [(show df_X15_work_18 n (m + 1) = dF_X15_work_18 n (df_X15_work_18 n m) from rfl), dF_X15_work_18, df_X15_work_91, df_X15_work_85, df_X15_work_0, df_X15_work, h7, hs, w1, eq_self, Nat.reduceEqDiff, Nat.reduceLeDiff, nl_0, nl_1, nl_7, nl_8, nl_11, nl_130, nl_2000, no_1, no_1024, pk_mul, nI_add, nm_ck, nI_clamp, nI_ltI, nI_leI, nI_eq, nb_b2, nb_b1, ↓nb_let, nm_z0, nm_z1, nb_II, nb_IR, nb_RI, nb_RR, nm_IL, nm_IQ, nm_RL, nm_RQ, nm_LI, nm_LR, nm_LL, nm_LQ, nm_QI, nm_QR, nm_QL, nm_QQ, nm_rr, nm_ii, nm_eqm, not_false_eq_true, pk_sub, nm_div, nm_shl, nm_shr, nm_ush, nm_or8, nm_or64, nm_or256, nm_m1, nm_m3, nm_m7, nm_m15, nm_m31, nm_m63, nm_m255, nm_m511, nm_m1023, nm_m2047, nm_m65535, Nat.reduceMod, Nat.reducePow, Nat.reduceAdd, Nat.reduceSub, Nat.reduceMul, nm_bo, nm_bi, nm_rc, nm_ic, nm_ri, nm_rl, nm_rq, nm_ql, nm_qi, nm_li, nm_us, nm_uu, nm_cp, nm_sa31, nm_sa7, nm_m127, nm_m2, nm_nz, nm_nzk, nm_eq32, nm_nzf, if_true, if_false, ↓reduceIte, if_pos, if_neg]
theorem wkr_h (n m d x : Nat) {Y : St} {X : St × St} (hd : d < 130) (hx : x < 2000) (h7 : sI Y 7 = nI (d + 1)) (hs : sR Y 11 d = nI 1) : df_X15_work_18 n (m + 1) (nI x) (Y, X) = nd_b1 (df_X15_half n (nI d) (Y, X)) (fun s => df_X15_work_18 n m (nI (x + 1)) s) := by
  have w1 : nI (d + 1) - nI 1 = nI d := by rw [pk_sub (by omega)]; rfl
  simp (disch := (first | assumption | decide | omega)) only [(show df_X15_work_18 n (m + 1) = dF_X15_work_18 n (df_X15_work_18 n m) from rfl), dF_X15_work_18, df_X15_work_91, df_X15_work_85, df_X15_work_0, df_X15_work, h7, hs, w1, eq_self, Nat.reduceEqDiff, Nat.reduceLeDiff, nl_0, nl_1, nl_7, nl_8, nl_11, nl_130, nl_2000, no_1, no_1024, pk_mul, nI_add, nm_ck, nI_clamp, nI_ltI, nI_leI, nI_eq, nb_b2, nb_b1, ↓nb_let, nm_z0, nm_z1, nb_II, nb_IR, nb_RI, nb_RR, nm_IL, nm_IQ, nm_RL, nm_RQ, nm_LI, nm_LR, nm_LL, nm_LQ, nm_QI, nm_QR, nm_QL, nm_QQ, nm_rr, nm_ii, nm_eqm, not_false_eq_true, pk_sub, nm_div, nm_shl, nm_shr, nm_ush, nm_or8, nm_or64, nm_or256, nm_m1, nm_m3, nm_m7, nm_m15, nm_m31, nm_m63, nm_m255, nm_m511, nm_m1023, nm_m2047, nm_m65535, Nat.reduceMod, Nat.reducePow, Nat.reduceAdd, Nat.reduceSub, Nat.reduceMul, nm_bo, nm_bi, nm_rc, nm_ic, nm_ri, nm_rl, nm_rq, nm_ql, nm_qi, nm_li, nm_us, nm_uu, nm_cp, nm_sa31, nm_sa7, nm_m127, nm_m2, nm_nz, nm_nzk, nm_eq32, nm_nzf, if_true, if_false, ↓reduceIte, if_pos, if_neg]
theorem wkr_j (n m d x : Nat) {Y : St} {X : St × St} (hd : d < 130) (hx : x < 2000) (h7 : sI Y 7 = nI (d + 1)) (hs : sR Y 11 d = nI 2) : df_X15_work_18 n (m + 1) (nI x) (Y, X) = nd_b1 (df_X15_join n (nI d) (Y, X)) (fun s => df_X15_work_18 n m (nI (x + 1)) s) := by
  have w1 : nI (d + 1) - nI 1 = nI d := by rw [pk_sub (by omega)]; rfl
  simp (disch := (first | assumption | decide | omega)) only [(show df_X15_work_18 n (m + 1) = dF_X15_work_18 n (df_X15_work_18 n m) from rfl), dF_X15_work_18, df_X15_work_91, df_X15_work_85, df_X15_work_0, df_X15_work, h7, hs, w1, eq_self, Nat.reduceEqDiff, Nat.reduceLeDiff, nl_0, nl_1, nl_7, nl_8, nl_11, nl_130, nl_2000, no_1, no_1024, pk_mul, nI_add, nm_ck, nI_clamp, nI_ltI, nI_leI, nI_eq, nb_b2, nb_b1, ↓nb_let, nm_z0, nm_z1, nb_II, nb_IR, nb_RI, nb_RR, nm_IL, nm_IQ, nm_RL, nm_RQ, nm_LI, nm_LR, nm_LL, nm_LQ, nm_QI, nm_QR, nm_QL, nm_QQ, nm_rr, nm_ii, nm_eqm, not_false_eq_true, pk_sub, nm_div, nm_shl, nm_shr, nm_ush, nm_or8, nm_or64, nm_or256, nm_m1, nm_m3, nm_m7, nm_m15, nm_m31, nm_m63, nm_m255, nm_m511, nm_m1023, nm_m2047, nm_m65535, Nat.reduceMod, Nat.reducePow, Nat.reduceAdd, Nat.reduceSub, Nat.reduceMul, nm_bo, nm_bi, nm_rc, nm_ic, nm_ri, nm_rl, nm_rq, nm_ql, nm_qi, nm_li, nm_us, nm_uu, nm_cp, nm_sa31, nm_sa7, nm_m127, nm_m2, nm_nz, nm_nzk, nm_eq32, nm_nzf, if_true, if_false, ↓reduceIte, if_pos, if_neg]
/-- the end -/
theorem wkr_0 (n m x : Nat) {Y : St} {X : St × St} (hx : x ≤ 2000) (h7 : sI Y 7 = nI 0) : df_X15_work_18 n (m + 1) (nI x) (Y, X) = some (sL Y 1, (Y, X)) := by
  by_cases c : x < 2000
  · simp (disch := (first | assumption | decide | omega)) only [(show df_X15_work_18 n (m + 1) = dF_X15_work_18 n (df_X15_work_18 n m) from rfl), dF_X15_work_18, df_X15_work_91, df_X15_work_85, df_X15_work_0, df_X15_work, h7, eq_self, Nat.reduceEqDiff, Nat.reduceLeDiff, nl_0, nl_1, nl_7, nl_8, nl_11, nl_130, nl_2000, no_1, no_1024, pk_mul, nI_add, nm_ck, nI_clamp, nI_ltI, nI_leI, nI_eq, nb_b2, nb_b1, ↓nb_let, nm_z0, nm_z1, nb_II, nb_IR, nb_RI, nb_RR, nm_IL, nm_IQ, nm_RL, nm_RQ, nm_LI, nm_LR, nm_LL, nm_LQ, nm_QI, nm_QR, nm_QL, nm_QQ, nm_rr, nm_ii, nm_eqm, not_false_eq_true, pk_sub, nm_div, nm_shl, nm_shr, nm_ush, nm_or8, nm_or64, nm_or256, nm_m1, nm_m3, nm_m7, nm_m15, nm_m31, nm_m63, nm_m255, nm_m511, nm_m1023, nm_m2047, nm_m65535, Nat.reduceMod, Nat.reducePow, Nat.reduceAdd, Nat.reduceSub, Nat.reduceMul, nm_bo, nm_bi, nm_rc, nm_ic, nm_ri, nm_rl, nm_rq, nm_ql, nm_qi, nm_li, nm_us, nm_uu, nm_cp, nm_sa31, nm_sa7, nm_m127, nm_m2, nm_nz, nm_nzk, nm_eq32, nm_nzf, if_true, if_false, ↓reduceIte, if_pos, if_neg]
  · rw [show x = 2000 by omega]
    simp (disch := (first | assumption | decide | omega)) only [(show df_X15_work_18 n (m + 1) = dF_X15_work_18 n (df_X15_work_18 n m) from rfl), dF_X15_work_18, df_X15_work_91, df_X15_work_85, df_X15_work_0, df_X15_work, h7, eq_self, Nat.reduceEqDiff, Nat.reduceLeDiff, nl_0, nl_1, nl_7, nl_8, nl_11, nl_130, nl_2000, no_1, no_1024, pk_mul, nI_add, nm_ck, nI_clamp, nI_ltI, nI_leI, nI_eq, nb_b2, nb_b1, ↓nb_let, nm_z0, nm_z1, nb_II, nb_IR, nb_RI, nb_RR, nm_IL, nm_IQ, nm_RL, nm_RQ, nm_LI, nm_LR, nm_LL, nm_LQ, nm_QI, nm_QR, nm_QL, nm_QQ, nm_rr, nm_ii, nm_eqm, not_false_eq_true, pk_sub, nm_div, nm_shl, nm_shr, nm_ush, nm_or8, nm_or64, nm_or256, nm_m1, nm_m3, nm_m7, nm_m15, nm_m31, nm_m63, nm_m255, nm_m511, nm_m1023, nm_m2047, nm_m65535, Nat.reduceMod, Nat.reducePow, Nat.reduceAdd, Nat.reduceSub, Nat.reduceMul, nm_bo, nm_bi, nm_rc, nm_ic, nm_ri, nm_rl, nm_rq, nm_ql, nm_qi, nm_li, nm_us, nm_uu, nm_cp, nm_sa31, nm_sa7, nm_m127, nm_m2, nm_nz, nm_nzk, nm_eq32, nm_nzf, if_true, if_false, ↓reduceIte, if_pos, if_neg]
/-- enter: into a bracket; otherwise by the lowest sign -/
theorem en_par (n d a b : Nat) {Y : St} {X : St × St} (hd : d < 130) (ha : a < 960) (hb : b ≤ 960) (hab : a < b) (h8 : sR Y 8 d = nI a) (h9 : sR Y 9 d = nI (b + 1)) (hk : sR Y 3 a = nI 30) (hp : sR Y 4 a = nI b) : df_X15_enter n (nI d) (Y, X) = some (pR (pR Y 8 (upd (sR Y 8) d (nI (a + 1)))) 9 (upd (sR Y 9) d (nI b)), X) := by
  have w1 : nI (b + 1) - nI 1 = nI b := by rw [pk_sub (by omega)]; rfl
  simp (disch := (first | assumption | decide | omega)) only [df_X15_enter_408, df_X15_enter_393, df_X15_enter_346, df_X15_enter_61, df_X15_enter_0, df_X15_enter, h8, h9, hk, hp, w1, eq_self, Nat.reduceEqDiff, Nat.reduceLeDiff, nl_0, nl_1, nl_2, nl_3, nl_4, nl_5, nl_6, nl_7, nl_8, nl_9, nl_10, nl_11, nl_12, nl_13, nl_14, nl_15, nl_16, nl_17, nl_18, nl_19, nl_20, nl_21, nl_22, nl_23, nl_24, nl_25, nl_26, nl_27, nl_28, nl_29, nl_30, nl_31, nl_32, nl_130, nl_960, no_1, no_1024, pk_mul, nI_add, nm_ck, nI_clamp, nI_ltI, nI_leI, nI_eq, nb_b2, nb_b1, ↓nb_let, nm_z0, nm_z1, nb_II, nb_IR, nb_RI, nb_RR, nm_IL, nm_IQ, nm_RL, nm_RQ, nm_LI, nm_LR, nm_LL, nm_LQ, nm_QI, nm_QR, nm_QL, nm_QQ, nm_rr, nm_ii, nm_eqm, not_false_eq_true, pk_sub, nm_div, nm_shl, nm_shr, nm_ush, nm_or8, nm_or64, nm_or256, nm_m1, nm_m3, nm_m7, nm_m15, nm_m31, nm_m63, nm_m255, nm_m511, nm_m1023, nm_m2047, nm_m65535, Nat.reduceMod, Nat.reducePow, Nat.reduceAdd, Nat.reduceSub, Nat.reduceMul, nm_bo, nm_bi, nm_rc, nm_ic, nm_ri, nm_rl, nm_rq, nm_ql, nm_qi, nm_li, nm_us, nm_uu, nm_cp, nm_sa31, nm_sa7, nm_m127, nm_m2, nm_nz, nm_nzk, nm_eq32, nm_nzf, if_true, if_false, ↓reduceIte, if_pos, if_neg]
theorem en_61 (n d a b k : Nat) {Y : St} {X : St × St} (hd : d < 130) (ha : a < 960) (hb : b ≤ 960) (hab : a < b) (h8 : sR Y 8 d = nI a) (h9 : sR Y 9 d = nI b) (hk : sR Y 3 a = nI k) (kk : k < 100) (hp : k = 30 → ∃ q : Nat, sR Y 4 a = nI q ∧ q + 1 < b) : df_X15_enter n (nI d) (Y, X) = df_X15_enter_61 n (nI d) (nI a) (nI k) (Y, X) := by
  by_cases c : k = 30
  · subst c
    obtain ⟨q, q1, q2⟩ := hp rfl
    have w1 : nI b - nI 1 = nI (b - 1) := pk_sub (by omega)
    have w2 : ¬ q = b - 1 := by omega
    unfold df_X15_enter df_X15_enter_0
    simp (disch := (first | assumption | decide | omega)) only [h8, h9, hk, q1, w1, eq_self, Nat.reduceEqDiff, Nat.reduceLeDiff, nl_0, nl_1, nl_30, no_1, no_1024, pk_mul, nI_add, nm_ck, nI_clamp, nI_ltI, nI_leI, nI_eq, nb_b2, nb_b1, ↓nb_let, nm_z0, nm_z1, nb_II, nb_IR, nb_RI, nb_RR, nm_IL, nm_IQ, nm_RL, nm_RQ, nm_LI, nm_LR, nm_LL, nm_LQ, nm_QI, nm_QR, nm_QL, nm_QQ, nm_rr, nm_ii, nm_eqm, not_false_eq_true, pk_sub, nm_div, nm_shl, nm_shr, nm_ush, nm_or8, nm_or64, nm_or256, nm_m1, nm_m3, nm_m7, nm_m15, nm_m31, nm_m63, nm_m255, nm_m511, nm_m1023, nm_m2047, nm_m65535, Nat.reduceMod, Nat.reducePow, Nat.reduceAdd, Nat.reduceSub, Nat.reduceMul, nm_bo, nm_bi, nm_rc, nm_ic, nm_ri, nm_rl, nm_rq, nm_ql, nm_qi, nm_li, nm_us, nm_uu, nm_cp, nm_sa31, nm_sa7, nm_m127, nm_m2, nm_nz, nm_nzk, nm_eq32, nm_nzf, if_true, if_false, ↓reduceIte, if_pos, if_neg]
  · unfold df_X15_enter df_X15_enter_0
    simp (disch := (first | assumption | decide | omega)) only [h8, h9, hk, eq_self, Nat.reduceEqDiff, Nat.reduceLeDiff, nl_0, nl_1, nl_30, no_1, no_1024, pk_mul, nI_add, nm_ck, nI_clamp, nI_ltI, nI_leI, nI_eq, nb_b2, nb_b1, ↓nb_let, nm_z0, nm_z1, nb_II, nb_IR, nb_RI, nb_RR, nm_IL, nm_IQ, nm_RL, nm_RQ, nm_LI, nm_LR, nm_LL, nm_LQ, nm_QI, nm_QR, nm_QL, nm_QQ, nm_rr, nm_ii, nm_eqm, not_false_eq_true, pk_sub, nm_div, nm_shl, nm_shr, nm_ush, nm_or8, nm_or64, nm_or256, nm_m1, nm_m3, nm_m7, nm_m15, nm_m31, nm_m63, nm_m255, nm_m511, nm_m1023, nm_m2047, nm_m65535, Nat.reduceMod, Nat.reducePow, Nat.reduceAdd, Nat.reduceSub, Nat.reduceMul, nm_bo, nm_bi, nm_rc, nm_ic, nm_ri, nm_rl, nm_rq, nm_ql, nm_qi, nm_li, nm_us, nm_uu, nm_cp, nm_sa31, nm_sa7, nm_m127, nm_m2, nm_nz, nm_nzk, nm_eq32, nm_nzf, if_true, if_false, ↓reduceIte, if_pos, if_neg]
theorem en_bin (n d a b k q : Nat) {Y : St} {X : St × St} (hd : d < 128) (ha : a < 960) (hb : b ≤ 960) (hq : q < 960) (h9 : sR Y 9 d = nI b) (h7 : sI Y 7 = nI (d + 1)) (hl : df_X15_least n (nI a) (nI b) (Y, X) = some (nI q, (Y, X))) : ∃ Y1 : St, df_X15_enter_61 n (nI d) (nI a) (nI k) (Y, X) = some (Y1, X) ∧ yE d Y Y1 ∧ sI Y1 7 = nI (d + 2) ∧ sR Y1 8 d = sR Y 8 d ∧ sR Y1 9 d = sR Y 9 d ∧ sR Y1 10 d = nI q ∧ sR Y1 11 d = nI 1 ∧ sR Y1 8 (d + 1) = nI a ∧ sR Y1 9 (d + 1) = nI q ∧ sR Y1 11 (d + 1) = nI 0 := by
  have nq : ¬ nI q < nI 0 := by rw [nI_ltI (by omega) (by omega)]; omega
  have hbg := bgn_1 n (d + 1) (a := nI a) (b := nI q) (Y := pR (pR Y 10 (upd (sR Y 10) d (nI q))) 11 (upd (sR Y 11) d (nI 1))) (X := X) (by omega) h7
  refine ⟨bgn (pR (pR Y 10 (upd (sR Y 10) d (nI q))) 11 (upd (sR Y 11) d (nI 1))) (d + 1) (nI a) (nI q), ?_, ⟨yFr_m rfl rfl rfl rfl rfl, rfl, fun i hi => ⟨if_neg (by omega), if_neg (by omega), if_neg (by omega), (if_neg (by omega)).trans (if_neg (by omega)), rfl⟩⟩, rfl, if_neg (by omega), if_neg (by omega), if_pos rfl, (if_neg (by omega)).trans (if_pos rfl), if_pos rfl, if_pos rfl, if_pos rfl⟩
  have hl' : ∀ f : Int32 → St × (St × St) → Option (St × (St × St)), nd_b2 (df_X15_least n (nI a) (sR Y 9 (nI d).toNatClampNeg) (Y, X)) f = f (nI q) (Y, X) := fun f => by rw [nI_clamp (by omega), h9, hl, nb_b2]
  unfold df_X15_enter_61
  rw [nm_ck (by omega) (by omega)]
  show nd_b2 (df_X15_least n (nI a) (sR Y 9 (nI d).toNatClampNeg) (Y, X)) _ = _
  rw [hl']
  simp (disch := (first | assumption | decide | omega)) only [hbg, nq, Nat.not_lt_zero, eq_self, Nat.reduceEqDiff, Nat.reduceLeDiff, nl_0, nl_1, no_1, no_1024, pk_mul, nI_add, nm_ck, nI_clamp, nI_ltI, nI_leI, nI_eq, nb_b2, nb_b1, ↓nb_let, nm_z0, nm_z1, nb_II, nb_IR, nb_RI, nb_RR, nm_IL, nm_IQ, nm_RL, nm_RQ, nm_LI, nm_LR, nm_LL, nm_LQ, nm_QI, nm_QR, nm_QL, nm_QQ, nm_rr, nm_ii, nm_eqm, not_false_eq_true, pk_sub, nm_div, nm_shl, nm_shr, nm_ush, nm_or8, nm_or64, nm_or256, nm_m1, nm_m3, nm_m7, nm_m15, nm_m31, nm_m63, nm_m255, nm_m511, nm_m1023, nm_m2047, nm_m65535, Nat.reduceMod, Nat.reducePow, Nat.reduceAdd, Nat.reduceSub, Nat.reduceMul, nm_bo, nm_bi, nm_rc, nm_ic, nm_ri, nm_rl, nm_rq, nm_ql, nm_qi, nm_li, nm_us, nm_uu, nm_cp, nm_sa31, nm_sa7, nm_m127, nm_m2, nm_nz, nm_nzk, nm_eq32, nm_nzf, if_true, if_false, ↓reduceIte, if_pos, if_neg]
def y2 (Y : St) (d : Nat) (a : Int32) : St := pR (pR Y 10 (upd (sR Y 10) d a)) 11 (upd (sR Y 11) d (nI 2))
theorem y2_E (Y : St) (d : Nat) (a : Int32) : yE d Y (y2 Y d a) := ⟨yFr_m rfl rfl rfl rfl rfl, rfl, fun i hi => ⟨rfl, rfl, if_neg (by omega), if_neg (by omega), rfl⟩⟩
/-- enter where no sign is between: what comes at once -/
theorem en_1 (n d a b : Nat) {Y : St} {X : St × St} (hd : d < 128) (ha : a < 960) (hb : b ≤ 960) (h9 : sR Y 9 d = nI b) (h7 : sI Y 7 = nI (d + 1)) (hl : df_X15_least n (nI a) (nI b) (Y, X) = some (-nI 1, (Y, X))) : df_X15_enter_61 n (nI d) (nI a) (nI 1) (Y, X) = some (gvn (y2 Y d (nI a)) d (sQ Y 0 a), X) := by
  have hg : ∀ v : Int64, df_X15_give n v (pR (pR Y 10 (upd (sR Y 10) d (nI a))) 11 (upd (sR Y 11) d (nI 2)), X) = some (gvn (y2 Y d (nI a)) d v, X) := fun v => gv_1 n d (Y := y2 Y d (nI a)) (by omega) h7
  unfold df_X15_enter_61
  simp (disch := (first | assumption | decide | omega)) only [df_X15_enter_408, h9, hl, nm_ltm, hg, eq_self, Nat.reduceEqDiff, Nat.reduceLeDiff, nl_0, nl_1, nl_2, nl_3, nl_4, nl_5, nl_6, nl_7, nl_8, nl_32, no_1, no_1024, pk_mul, nI_add, nm_ck, nI_clamp, nI_ltI, nI_leI, nI_eq, nb_b2, nb_b1, ↓nb_let, nm_z0, nm_z1, nb_II, nb_IR, nb_RI, nb_RR, nm_IL, nm_IQ, nm_RL, nm_RQ, nm_LI, nm_LR, nm_LL, nm_LQ, nm_QI, nm_QR, nm_QL, nm_QQ, nm_rr, nm_ii, nm_eqm, not_false_eq_true, pk_sub, nm_div, nm_shl, nm_shr, nm_ush, nm_or8, nm_or64, nm_or256, nm_m1, nm_m3, nm_m7, nm_m15, nm_m31, nm_m63, nm_m255, nm_m511, nm_m1023, nm_m2047, nm_m65535, Nat.reduceMod, Nat.reducePow, Nat.reduceAdd, Nat.reduceSub, Nat.reduceMul, nm_bo, nm_bi, nm_rc, nm_ic, nm_ri, nm_rl, nm_rq, nm_ql, nm_qi, nm_li, nm_us, nm_uu, nm_cp, nm_sa31, nm_sa7, nm_m127, nm_m2, nm_nz, nm_nzk, nm_eq32, nm_nzf, if_true, if_false, ↓reduceIte, if_pos, if_neg]
theorem en_2 (n d a b : Nat) {Y : St} {X : St × St} {v : Int32} (hv : df_X16_value n (sQ Y 0 a).toInt32 X = some (v, X)) (hd : d < 128) (ha : a < 960) (hb : b ≤ 960) (h9 : sR Y 9 d = nI b) (h7 : sI Y 7 = nI (d + 1)) (hl : df_X15_least n (nI a) (nI b) (Y, X) = some (-nI 1, (Y, X))) : df_X15_enter_61 n (nI d) (nI a) (nI 2) (Y, X) = some (gvn (y2 Y d (nI a)) d v.toInt64, X) := by
  have hg : ∀ v : Int64, df_X15_give n v (pR (pR Y 10 (upd (sR Y 10) d (nI a))) 11 (upd (sR Y 11) d (nI 2)), X) = some (gvn (y2 Y d (nI a)) d v, X) := fun v => gv_1 n d (Y := y2 Y d (nI a)) (by omega) h7
  unfold df_X15_enter_61
  simp (disch := (first | assumption | decide | omega)) only [df_X15_enter_408, h9, hl, nm_ltm, hg, hv, eq_self, Nat.reduceEqDiff, Nat.reduceLeDiff, nl_0, nl_1, nl_2, nl_3, nl_4, nl_5, nl_6, nl_7, nl_8, nl_32, no_1, no_1024, pk_mul, nI_add, nm_ck, nI_clamp, nI_ltI, nI_leI, nI_eq, nb_b2, nb_b1, ↓nb_let, nm_z0, nm_z1, nb_II, nb_IR, nb_RI, nb_RR, nm_IL, nm_IQ, nm_RL, nm_RQ, nm_LI, nm_LR, nm_LL, nm_LQ, nm_QI, nm_QR, nm_QL, nm_QQ, nm_rr, nm_ii, nm_eqm, not_false_eq_true, pk_sub, nm_div, nm_shl, nm_shr, nm_ush, nm_or8, nm_or64, nm_or256, nm_m1, nm_m3, nm_m7, nm_m15, nm_m31, nm_m63, nm_m255, nm_m511, nm_m1023, nm_m2047, nm_m65535, Nat.reduceMod, Nat.reducePow, Nat.reduceAdd, Nat.reduceSub, Nat.reduceMul, nm_bo, nm_bi, nm_rc, nm_ic, nm_ri, nm_rl, nm_rq, nm_ql, nm_qi, nm_li, nm_us, nm_uu, nm_cp, nm_sa31, nm_sa7, nm_m127, nm_m2, nm_nz, nm_nzk, nm_eq32, nm_nzf, if_true, if_false, ↓reduceIte, if_pos, if_neg]
theorem en_3 (n d a b : Nat) {Y : St} {X : St × St} {v : Int32} (hv : df_X16_value n (nI 32) X = some (v, X)) (hd : d < 128) (ha : a < 960) (hb : b ≤ 960) (h9 : sR Y 9 d = nI b) (h7 : sI Y 7 = nI (d + 1)) (hl : df_X15_least n (nI a) (nI b) (Y, X) = some (-nI 1, (Y, X))) : df_X15_enter_61 n (nI d) (nI a) (nI 3) (Y, X) = some (gvn (y2 Y d (nI a)) d v.toInt64, X) := by
  have hg : ∀ v : Int64, df_X15_give n v (pR (pR Y 10 (upd (sR Y 10) d (nI a))) 11 (upd (sR Y 11) d (nI 2)), X) = some (gvn (y2 Y d (nI a)) d v, X) := fun v => gv_1 n d (Y := y2 Y d (nI a)) (by omega) h7
  unfold df_X15_enter_61
  simp (disch := (first | assumption | decide | omega)) only [df_X15_enter_408, h9, hl, nm_ltm, hg, hv, eq_self, Nat.reduceEqDiff, Nat.reduceLeDiff, nl_0, nl_1, nl_2, nl_3, nl_4, nl_5, nl_6, nl_7, nl_8, nl_32, no_1, no_1024, pk_mul, nI_add, nm_ck, nI_clamp, nI_ltI, nI_leI, nI_eq, nb_b2, nb_b1, ↓nb_let, nm_z0, nm_z1, nb_II, nb_IR, nb_RI, nb_RR, nm_IL, nm_IQ, nm_RL, nm_RQ, nm_LI, nm_LR, nm_LL, nm_LQ, nm_QI, nm_QR, nm_QL, nm_QQ, nm_rr, nm_ii, nm_eqm, not_false_eq_true, pk_sub, nm_div, nm_shl, nm_shr, nm_ush, nm_or8, nm_or64, nm_or256, nm_m1, nm_m3, nm_m7, nm_m15, nm_m31, nm_m63, nm_m255, nm_m511, nm_m1023, nm_m2047, nm_m65535, Nat.reduceMod, Nat.reducePow, Nat.reduceAdd, Nat.reduceSub, Nat.reduceMul, nm_bo, nm_bi, nm_rc, nm_ic, nm_ri, nm_rl, nm_rq, nm_ql, nm_qi, nm_li, nm_us, nm_uu, nm_cp, nm_sa31, nm_sa7, nm_m127, nm_m2, nm_nz, nm_nzk, nm_eq32, nm_nzf, if_true, if_false, ↓reduceIte, if_pos, if_neg]
theorem en_4 (n d a b : Nat) {Y : St} {X : St × St} {v : Int64} (hv : df_X16_count n (nI 2) X = some (v, X)) (hd : d < 128) (ha : a < 960) (hb : b ≤ 960) (h9 : sR Y 9 d = nI b) (h7 : sI Y 7 = nI (d + 1)) (hl : df_X15_least n (nI a) (nI b) (Y, X) = some (-nI 1, (Y, X))) : df_X15_enter_61 n (nI d) (nI a) (nI 4) (Y, X) = some (gvn (y2 Y d (nI a)) d v, X) := by
  have hg : ∀ v : Int64, df_X15_give n v (pR (pR Y 10 (upd (sR Y 10) d (nI a))) 11 (upd (sR Y 11) d (nI 2)), X) = some (gvn (y2 Y d (nI a)) d v, X) := fun v => gv_1 n d (Y := y2 Y d (nI a)) (by omega) h7
  unfold df_X15_enter_61
  simp (disch := (first | assumption | decide | omega)) only [df_X15_enter_408, h9, hl, nm_ltm, hg, hv, eq_self, Nat.reduceEqDiff, Nat.reduceLeDiff, nl_0, nl_1, nl_2, nl_3, nl_4, nl_5, nl_6, nl_7, nl_8, nl_32, no_1, no_1024, pk_mul, nI_add, nm_ck, nI_clamp, nI_ltI, nI_leI, nI_eq, nb_b2, nb_b1, ↓nb_let, nm_z0, nm_z1, nb_II, nb_IR, nb_RI, nb_RR, nm_IL, nm_IQ, nm_RL, nm_RQ, nm_LI, nm_LR, nm_LL, nm_LQ, nm_QI, nm_QR, nm_QL, nm_QQ, nm_rr, nm_ii, nm_eqm, not_false_eq_true, pk_sub, nm_div, nm_shl, nm_shr, nm_ush, nm_or8, nm_or64, nm_or256, nm_m1, nm_m3, nm_m7, nm_m15, nm_m31, nm_m63, nm_m255, nm_m511, nm_m1023, nm_m2047, nm_m65535, Nat.reduceMod, Nat.reducePow, Nat.reduceAdd, Nat.reduceSub, Nat.reduceMul, nm_bo, nm_bi, nm_rc, nm_ic, nm_ri, nm_rl, nm_rq, nm_ql, nm_qi, nm_li, nm_us, nm_uu, nm_cp, nm_sa31, nm_sa7, nm_m127, nm_m2, nm_nz, nm_nzk, nm_eq32, nm_nzf, if_true, if_false, ↓reduceIte, if_pos, if_neg]
theorem en_5 (n d a b : Nat) {Y : St} {X : St × St} {v : Int32} (hv : df_X16_now n X = some (v, X)) (hd : d < 128) (ha : a < 960) (hb : b ≤ 960) (h9 : sR Y 9 d = nI b) (h7 : sI Y 7 = nI (d + 1)) (hl : df_X15_least n (nI a) (nI b) (Y, X) = some (-nI 1, (Y, X))) : df_X15_enter_61 n (nI d) (nI a) (nI 5) (Y, X) = some (gvn (y2 Y d (nI a)) d v.toInt64, X) := by
  have hg : ∀ v : Int64, df_X15_give n v (pR (pR Y 10 (upd (sR Y 10) d (nI a))) 11 (upd (sR Y 11) d (nI 2)), X) = some (gvn (y2 Y d (nI a)) d v, X) := fun v => gv_1 n d (Y := y2 Y d (nI a)) (by omega) h7
  unfold df_X15_enter_61
  simp (disch := (first | assumption | decide | omega)) only [df_X15_enter_408, h9, hl, nm_ltm, hg, hv, eq_self, Nat.reduceEqDiff, Nat.reduceLeDiff, nl_0, nl_1, nl_2, nl_3, nl_4, nl_5, nl_6, nl_7, nl_8, nl_32, no_1, no_1024, pk_mul, nI_add, nm_ck, nI_clamp, nI_ltI, nI_leI, nI_eq, nb_b2, nb_b1, ↓nb_let, nm_z0, nm_z1, nb_II, nb_IR, nb_RI, nb_RR, nm_IL, nm_IQ, nm_RL, nm_RQ, nm_LI, nm_LR, nm_LL, nm_LQ, nm_QI, nm_QR, nm_QL, nm_QQ, nm_rr, nm_ii, nm_eqm, not_false_eq_true, pk_sub, nm_div, nm_shl, nm_shr, nm_ush, nm_or8, nm_or64, nm_or256, nm_m1, nm_m3, nm_m7, nm_m15, nm_m31, nm_m63, nm_m255, nm_m511, nm_m1023, nm_m2047, nm_m65535, Nat.reduceMod, Nat.reducePow, Nat.reduceAdd, Nat.reduceSub, Nat.reduceMul, nm_bo, nm_bi, nm_rc, nm_ic, nm_ri, nm_rl, nm_rq, nm_ql, nm_qi, nm_li, nm_us, nm_uu, nm_cp, nm_sa31, nm_sa7, nm_m127, nm_m2, nm_nz, nm_nzk, nm_eq32, nm_nzf, if_true, if_false, ↓reduceIte, if_pos, if_neg]
theorem en_8 (n d a b : Nat) {Y : St} {X : St × St} (hd : d < 128) (ha : a < 960) (hb : b ≤ 960) (h9 : sR Y 9 d = nI b) (h7 : sI Y 7 = nI (d + 1)) (hl : df_X15_least n (nI a) (nI b) (Y, X) = some (-nI 1, (Y, X))) : df_X15_enter_61 n (nI d) (nI a) (nI 8) (Y, X) = some (gvn (y2 Y d (nI a)) d (sQ Y 1 a), X) := by
  have hg : ∀ v : Int64, df_X15_give n v (pR (pR Y 10 (upd (sR Y 10) d (nI a))) 11 (upd (sR Y 11) d (nI 2)), X) = some (gvn (y2 Y d (nI a)) d v, X) := fun v => gv_1 n d (Y := y2 Y d (nI a)) (by omega) h7
  unfold df_X15_enter_61
  simp (disch := (first | assumption | decide | omega)) only [df_X15_enter_408, h9, hl, nm_ltm, hg, eq_self, Nat.reduceEqDiff, Nat.reduceLeDiff, nl_0, nl_1, nl_2, nl_3, nl_4, nl_5, nl_6, nl_7, nl_8, nl_32, no_1, no_1024, pk_mul, nI_add, nm_ck, nI_clamp, nI_ltI, nI_leI, nI_eq, nb_b2, nb_b1, ↓nb_let, nm_z0, nm_z1, nb_II, nb_IR, nb_RI, nb_RR, nm_IL, nm_IQ, nm_RL, nm_RQ, nm_LI, nm_LR, nm_LL, nm_LQ, nm_QI, nm_QR, nm_QL, nm_QQ, nm_rr, nm_ii, nm_eqm, not_false_eq_true, pk_sub, nm_div, nm_shl, nm_shr, nm_ush, nm_or8, nm_or64, nm_or256, nm_m1, nm_m3, nm_m7, nm_m15, nm_m31, nm_m63, nm_m255, nm_m511, nm_m1023, nm_m2047, nm_m65535, Nat.reduceMod, Nat.reducePow, Nat.reduceAdd, Nat.reduceSub, Nat.reduceMul, nm_bo, nm_bi, nm_rc, nm_ic, nm_ri, nm_rl, nm_rq, nm_ql, nm_qi, nm_li, nm_us, nm_uu, nm_cp, nm_sa31, nm_sa7, nm_m127, nm_m2, nm_nz, nm_nzk, nm_eq32, nm_nzf, if_true, if_false, ↓reduceIte, if_pos, if_neg]
/-- what goes on inside -/
theorem eb_u (n d a b k : Nat) {Y : St} {X : St × St} (hk : k = 24 ∨ k = 28 ∨ k = 29) (hd : d < 128) (ha : a < 960) (hb : b ≤ 960) (hab : a < b) (h9 : sR Y 9 d = nI b) (h7 : sI Y 7 = nI (d + 1)) (hl : df_X15_least n (nI a) (nI b) (Y, X) = some (-nI 1, (Y, X))) : df_X15_enter_61 n (nI d) (nI a) (nI k) (Y, X) = some (bgn (y2 Y d (nI a)) (d + 1) (nI (a + 1)) (nI b), X) := by
  have hg : ∀ v u : Int32, df_X15_begin n v u (pR (pR Y 10 (upd (sR Y 10) d (nI a))) 11 (upd (sR Y 11) d (nI 2)), X) = some (bgn (y2 Y d (nI a)) (d + 1) v u, X) := fun v u => bgn_1 n (d + 1) (Y := y2 Y d (nI a)) (by omega) h7
  rcases hk with rfl | rfl | rfl
  · unfold df_X15_enter_61
    simp (disch := (first | assumption | decide | omega)) only [df_X15_enter_408, df_X15_enter_393, df_X15_enter_346, h9, hl, nm_ltm, hg, eq_self, Nat.reduceEqDiff, Nat.reduceLeDiff, nl_0, nl_1, nl_2, nl_3, nl_4, nl_5, nl_6, nl_7, nl_8, nl_9, nl_10, nl_11, nl_12, nl_13, nl_14, nl_15, nl_16, nl_17, nl_18, nl_19, nl_20, nl_21, nl_22, nl_23, nl_24, nl_25, nl_26, nl_27, nl_28, nl_29, nl_30, nl_31, nl_32, nl_33, nl_130, no_1, no_1024, pk_mul, nI_add, nm_ck, nI_clamp, nI_ltI, nI_leI, nI_eq, nb_b2, nb_b1, ↓nb_let, nm_z0, nm_z1, nb_II, nb_IR, nb_RI, nb_RR, nm_IL, nm_IQ, nm_RL, nm_RQ, nm_LI, nm_LR, nm_LL, nm_LQ, nm_QI, nm_QR, nm_QL, nm_QQ, nm_rr, nm_ii, nm_eqm, not_false_eq_true, pk_sub, nm_div, nm_shl, nm_shr, nm_ush, nm_or8, nm_or64, nm_or256, nm_m1, nm_m3, nm_m7, nm_m15, nm_m31, nm_m63, nm_m255, nm_m511, nm_m1023, nm_m2047, nm_m65535, Nat.reduceMod, Nat.reducePow, Nat.reduceAdd, Nat.reduceSub, Nat.reduceMul, nm_bo, nm_bi, nm_rc, nm_ic, nm_ri, nm_rl, nm_rq, nm_ql, nm_qi, nm_li, nm_us, nm_uu, nm_cp, nm_sa31, nm_sa7, nm_m127, nm_m2, nm_nz, nm_nzk, nm_eq32, nm_nzf, if_true, if_false, ↓reduceIte, if_pos, if_neg]
  · unfold df_X15_enter_61
    simp (disch := (first | assumption | decide | omega)) only [df_X15_enter_408, df_X15_enter_393, df_X15_enter_346, h9, hl, nm_ltm, hg, eq_self, Nat.reduceEqDiff, Nat.reduceLeDiff, nl_0, nl_1, nl_2, nl_3, nl_4, nl_5, nl_6, nl_7, nl_8, nl_9, nl_10, nl_11, nl_12, nl_13, nl_14, nl_15, nl_16, nl_17, nl_18, nl_19, nl_20, nl_21, nl_22, nl_23, nl_24, nl_25, nl_26, nl_27, nl_28, nl_29, nl_30, nl_31, nl_32, nl_33, nl_130, no_1, no_1024, pk_mul, nI_add, nm_ck, nI_clamp, nI_ltI, nI_leI, nI_eq, nb_b2, nb_b1, ↓nb_let, nm_z0, nm_z1, nb_II, nb_IR, nb_RI, nb_RR, nm_IL, nm_IQ, nm_RL, nm_RQ, nm_LI, nm_LR, nm_LL, nm_LQ, nm_QI, nm_QR, nm_QL, nm_QQ, nm_rr, nm_ii, nm_eqm, not_false_eq_true, pk_sub, nm_div, nm_shl, nm_shr, nm_ush, nm_or8, nm_or64, nm_or256, nm_m1, nm_m3, nm_m7, nm_m15, nm_m31, nm_m63, nm_m255, nm_m511, nm_m1023, nm_m2047, nm_m65535, Nat.reduceMod, Nat.reducePow, Nat.reduceAdd, Nat.reduceSub, Nat.reduceMul, nm_bo, nm_bi, nm_rc, nm_ic, nm_ri, nm_rl, nm_rq, nm_ql, nm_qi, nm_li, nm_us, nm_uu, nm_cp, nm_sa31, nm_sa7, nm_m127, nm_m2, nm_nz, nm_nzk, nm_eq32, nm_nzf, if_true, if_false, ↓reduceIte, if_pos, if_neg]
  · unfold df_X15_enter_61
    simp (disch := (first | assumption | decide | omega)) only [df_X15_enter_408, df_X15_enter_393, df_X15_enter_346, h9, hl, nm_ltm, hg, eq_self, Nat.reduceEqDiff, Nat.reduceLeDiff, nl_0, nl_1, nl_2, nl_3, nl_4, nl_5, nl_6, nl_7, nl_8, nl_9, nl_10, nl_11, nl_12, nl_13, nl_14, nl_15, nl_16, nl_17, nl_18, nl_19, nl_20, nl_21, nl_22, nl_23, nl_24, nl_25, nl_26, nl_27, nl_28, nl_29, nl_30, nl_31, nl_32, nl_33, nl_130, no_1, no_1024, pk_mul, nI_add, nm_ck, nI_clamp, nI_ltI, nI_leI, nI_eq, nb_b2, nb_b1, ↓nb_let, nm_z0, nm_z1, nb_II, nb_IR, nb_RI, nb_RR, nm_IL, nm_IQ, nm_RL, nm_RQ, nm_LI, nm_LR, nm_LL, nm_LQ, nm_QI, nm_QR, nm_QL, nm_QQ, nm_rr, nm_ii, nm_eqm, not_false_eq_true, pk_sub, nm_div, nm_shl, nm_shr, nm_ush, nm_or8, nm_or64, nm_or256, nm_m1, nm_m3, nm_m7, nm_m15, nm_m31, nm_m63, nm_m255, nm_m511, nm_m1023, nm_m2047, nm_m65535, Nat.reduceMod, Nat.reducePow, Nat.reduceAdd, Nat.reduceSub, Nat.reduceMul, nm_bo, nm_bi, nm_rc, nm_ic, nm_ri, nm_rl, nm_rq, nm_ql, nm_qi, nm_li, nm_us, nm_uu, nm_cp, nm_sa31, nm_sa7, nm_m127, nm_m2, nm_nz, nm_nzk, nm_eq32, nm_nzf, if_true, if_false, ↓reduceIte, if_pos, if_neg]
theorem eb_m (n d a b k : Nat) {Y : St} {X : St × St} (hk : k = 32) (hd : d < 128) (ha : a < 960) (hb : b ≤ 960) (hab : a < b) (h9 : sR Y 9 d = nI b) (h7 : sI Y 7 = nI (d + 1)) (hl : df_X15_least n (nI a) (nI b) (Y, X) = some (-nI 1, (Y, X))) : df_X15_enter_61 n (nI d) (nI a) (nI k) (Y, X) = some (bgn (y2 Y d (nI a)) (d + 1) (nI (a + 1)) (nI (b - 1)), X) := by
  have hg : ∀ v u : Int32, df_X15_begin n v u (pR (pR Y 10 (upd (sR Y 10) d (nI a))) 11 (upd (sR Y 11) d (nI 2)), X) = some (bgn (y2 Y d (nI a)) (d + 1) v u, X) := fun v u => bgn_1 n (d + 1) (Y := y2 Y d (nI a)) (by omega) h7
  have w1 : nI b - nI 1 = nI (b - 1) := pk_sub (by omega)
  subst hk
  · unfold df_X15_enter_61
    simp (disch := (first | assumption | decide | omega)) only [df_X15_enter_408, df_X15_enter_393, df_X15_enter_346, h9, hl, nm_ltm, hg, w1, eq_self, Nat.reduceEqDiff, Nat.reduceLeDiff, nl_0, nl_1, nl_2, nl_3, nl_4, nl_5, nl_6, nl_7, nl_8, nl_9, nl_10, nl_11, nl_12, nl_13, nl_14, nl_15, nl_16, nl_17, nl_18, nl_19, nl_20, nl_21, nl_22, nl_23, nl_24, nl_25, nl_26, nl_27, nl_28, nl_29, nl_30, nl_31, nl_32, nl_33, nl_130, no_1, no_1024, pk_mul, nI_add, nm_ck, nI_clamp, nI_ltI, nI_leI, nI_eq, nb_b2, nb_b1, ↓nb_let, nm_z0, nm_z1, nb_II, nb_IR, nb_RI, nb_RR, nm_IL, nm_IQ, nm_RL, nm_RQ, nm_LI, nm_LR, nm_LL, nm_LQ, nm_QI, nm_QR, nm_QL, nm_QQ, nm_rr, nm_ii, nm_eqm, not_false_eq_true, pk_sub, nm_div, nm_shl, nm_shr, nm_ush, nm_or8, nm_or64, nm_or256, nm_m1, nm_m3, nm_m7, nm_m15, nm_m31, nm_m63, nm_m255, nm_m511, nm_m1023, nm_m2047, nm_m65535, Nat.reduceMod, Nat.reducePow, Nat.reduceAdd, Nat.reduceSub, Nat.reduceMul, nm_bo, nm_bi, nm_rc, nm_ic, nm_ri, nm_rl, nm_rq, nm_ql, nm_qi, nm_li, nm_us, nm_uu, nm_cp, nm_sa31, nm_sa7, nm_m127, nm_m2, nm_nz, nm_nzk, nm_eq32, nm_nzf, if_true, if_false, ↓reduceIte, if_pos, if_neg]
theorem eb_w (n d a b k : Nat) {Y : St} {X : St × St} (hk : k = 6 ∨ k = 7 ∨ k = 9) (hd : d < 128) (ha : a < 960) (hb : b ≤ 960) (hab : a < b) (h9 : sR Y 9 d = nI b) (h7 : sI Y 7 = nI (d + 1)) (hl : df_X15_least n (nI a) (nI b) (Y, X) = some (-nI 1, (Y, X))) : df_X15_enter_61 n (nI d) (nI a) (nI k) (Y, X) = some (bgn (y2 Y d (nI a)) (d + 1) (nI (a + 2)) (nI (b - 1)), X) := by
  have hg : ∀ v u : Int32, df_X15_begin n v u (pR (pR Y 10 (upd (sR Y 10) d (nI a))) 11 (upd (sR Y 11) d (nI 2)), X) = some (bgn (y2 Y d (nI a)) (d + 1) v u, X) := fun v u => bgn_1 n (d + 1) (Y := y2 Y d (nI a)) (by omega) h7
  have w1 : nI b - nI 1 = nI (b - 1) := pk_sub (by omega)
  rcases hk with rfl | rfl | rfl
  · unfold df_X15_enter_61
    simp (disch := (first | assumption | decide | omega)) only [df_X15_enter_408, df_X15_enter_393, df_X15_enter_346, h9, hl, nm_ltm, hg, w1, eq_self, Nat.reduceEqDiff, Nat.reduceLeDiff, nl_0, nl_1, nl_2, nl_3, nl_4, nl_5, nl_6, nl_7, nl_8, nl_9, nl_10, nl_11, nl_12, nl_13, nl_14, nl_15, nl_16, nl_17, nl_18, nl_19, nl_20, nl_21, nl_22, nl_23, nl_24, nl_25, nl_26, nl_27, nl_28, nl_29, nl_30, nl_31, nl_32, nl_33, nl_130, no_1, no_1024, pk_mul, nI_add, nm_ck, nI_clamp, nI_ltI, nI_leI, nI_eq, nb_b2, nb_b1, ↓nb_let, nm_z0, nm_z1, nb_II, nb_IR, nb_RI, nb_RR, nm_IL, nm_IQ, nm_RL, nm_RQ, nm_LI, nm_LR, nm_LL, nm_LQ, nm_QI, nm_QR, nm_QL, nm_QQ, nm_rr, nm_ii, nm_eqm, not_false_eq_true, pk_sub, nm_div, nm_shl, nm_shr, nm_ush, nm_or8, nm_or64, nm_or256, nm_m1, nm_m3, nm_m7, nm_m15, nm_m31, nm_m63, nm_m255, nm_m511, nm_m1023, nm_m2047, nm_m65535, Nat.reduceMod, Nat.reducePow, Nat.reduceAdd, Nat.reduceSub, Nat.reduceMul, nm_bo, nm_bi, nm_rc, nm_ic, nm_ri, nm_rl, nm_rq, nm_ql, nm_qi, nm_li, nm_us, nm_uu, nm_cp, nm_sa31, nm_sa7, nm_m127, nm_m2, nm_nz, nm_nzk, nm_eq32, nm_nzf, if_true, if_false, ↓reduceIte, if_pos, if_neg]
  · unfold df_X15_enter_61
    simp (disch := (first | assumption | decide | omega)) only [df_X15_enter_408, df_X15_enter_393, df_X15_enter_346, h9, hl, nm_ltm, hg, w1, eq_self, Nat.reduceEqDiff, Nat.reduceLeDiff, nl_0, nl_1, nl_2, nl_3, nl_4, nl_5, nl_6, nl_7, nl_8, nl_9, nl_10, nl_11, nl_12, nl_13, nl_14, nl_15, nl_16, nl_17, nl_18, nl_19, nl_20, nl_21, nl_22, nl_23, nl_24, nl_25, nl_26, nl_27, nl_28, nl_29, nl_30, nl_31, nl_32, nl_33, nl_130, no_1, no_1024, pk_mul, nI_add, nm_ck, nI_clamp, nI_ltI, nI_leI, nI_eq, nb_b2, nb_b1, ↓nb_let, nm_z0, nm_z1, nb_II, nb_IR, nb_RI, nb_RR, nm_IL, nm_IQ, nm_RL, nm_RQ, nm_LI, nm_LR, nm_LL, nm_LQ, nm_QI, nm_QR, nm_QL, nm_QQ, nm_rr, nm_ii, nm_eqm, not_false_eq_true, pk_sub, nm_div, nm_shl, nm_shr, nm_ush, nm_or8, nm_or64, nm_or256, nm_m1, nm_m3, nm_m7, nm_m15, nm_m31, nm_m63, nm_m255, nm_m511, nm_m1023, nm_m2047, nm_m65535, Nat.reduceMod, Nat.reducePow, Nat.reduceAdd, Nat.reduceSub, Nat.reduceMul, nm_bo, nm_bi, nm_rc, nm_ic, nm_ri, nm_rl, nm_rq, nm_ql, nm_qi, nm_li, nm_us, nm_uu, nm_cp, nm_sa31, nm_sa7, nm_m127, nm_m2, nm_nz, nm_nzk, nm_eq32, nm_nzf, if_true, if_false, ↓reduceIte, if_pos, if_neg]
  · unfold df_X15_enter_61
    simp (disch := (first | assumption | decide | omega)) only [df_X15_enter_408, df_X15_enter_393, df_X15_enter_346, h9, hl, nm_ltm, hg, w1, eq_self, Nat.reduceEqDiff, Nat.reduceLeDiff, nl_0, nl_1, nl_2, nl_3, nl_4, nl_5, nl_6, nl_7, nl_8, nl_9, nl_10, nl_11, nl_12, nl_13, nl_14, nl_15, nl_16, nl_17, nl_18, nl_19, nl_20, nl_21, nl_22, nl_23, nl_24, nl_25, nl_26, nl_27, nl_28, nl_29, nl_30, nl_31, nl_32, nl_33, nl_130, no_1, no_1024, pk_mul, nI_add, nm_ck, nI_clamp, nI_ltI, nI_leI, nI_eq, nb_b2, nb_b1, ↓nb_let, nm_z0, nm_z1, nb_II, nb_IR, nb_RI, nb_RR, nm_IL, nm_IQ, nm_RL, nm_RQ, nm_LI, nm_LR, nm_LL, nm_LQ, nm_QI, nm_QR, nm_QL, nm_QQ, nm_rr, nm_ii, nm_eqm, not_false_eq_true, pk_sub, nm_div, nm_shl, nm_shr, nm_ush, nm_or8, nm_or64, nm_or256, nm_m1, nm_m3, nm_m7, nm_m15, nm_m31, nm_m63, nm_m255, nm_m511, nm_m1023, nm_m2047, nm_m65535, Nat.reduceMod, Nat.reducePow, Nat.reduceAdd, Nat.reduceSub, Nat.reduceMul, nm_bo, nm_bi, nm_rc, nm_ic, nm_ri, nm_rl, nm_rq, nm_ql, nm_qi, nm_li, nm_us, nm_uu, nm_cp, nm_sa31, nm_sa7, nm_m127, nm_m2, nm_nz, nm_nzk, nm_eq32, nm_nzf, if_true, if_false, ↓reduceIte, if_pos, if_neg]
/-- half: the left one has come -/
def y3 (Y : St) (d : Nat) : St := pQ Y 3 (vp_updL (sQ Y 3) d (sL Y 1))
theorem hf_cut (n d q o : Nat) {Y : St} {X : St × St} (ho : o = 1 ∨ o = 2) (hd : d < 128) (hq : q < 960) (h10 : sR Y 10 d = nI q) (hk : sR Y 3 q = nI (o + 9)) (h7 : sI Y 7 = nI (d + 1)) (hc : ¬ (sL Y 1 = 0 ↔ o = 1)) : df_X15_half n (nI d) (Y, X) = some (gvn (y3 Y d) d (if o = 1 then 1 else 0), X) := by
  have hg : ∀ v : Int64, df_X15_give n v (pQ Y 3 (vp_updL (sQ Y 3) d (sL Y 1)), X) = some (gvn (y3 Y d) d v, X) := fun v => gv_1 n d (Y := y3 Y d) (by omega) h7
  rcases ho with rfl | rfl
  · have c : ¬ sL Y 1 = 0 := fun z => hc ⟨fun _ => rfl, fun _ => z⟩
    simp (disch := (first | assumption | decide | omega)) only [df_X15_half_68, df_X15_half_64, df_X15_half_52, df_X15_half_37, df_X15_half_0, df_X15_half, h10, hk, hg, lc_eq, c, eq_self, Nat.reduceEqDiff, Nat.reduceLeDiff, nl_0, nl_1, nl_2, nl_3, nl_9, nl_10, nl_11, nl_130, nl_960, no_1, no_1024, pk_mul, nI_add, nm_ck, nI_clamp, nI_ltI, nI_leI, nI_eq, nb_b2, nb_b1, ↓nb_let, nm_z0, nm_z1, nb_II, nb_IR, nb_RI, nb_RR, nm_IL, nm_IQ, nm_RL, nm_RQ, nm_LI, nm_LR, nm_LL, nm_LQ, nm_QI, nm_QR, nm_QL, nm_QQ, nm_rr, nm_ii, nm_eqm, not_false_eq_true, pk_sub, nm_div, nm_shl, nm_shr, nm_ush, nm_or8, nm_or64, nm_or256, nm_m1, nm_m3, nm_m7, nm_m15, nm_m31, nm_m63, nm_m255, nm_m511, nm_m1023, nm_m2047, nm_m65535, Nat.reduceMod, Nat.reducePow, Nat.reduceAdd, Nat.reduceSub, Nat.reduceMul, nm_bo, nm_bi, nm_rc, nm_ic, nm_ri, nm_rl, nm_rq, nm_ql, nm_qi, nm_li, nm_us, nm_uu, nm_cp, nm_sa31, nm_sa7, nm_m127, nm_m2, nm_nz, nm_nzk, nm_eq32, nm_nzf, if_true, if_false, ↓reduceIte, if_pos, if_neg]
  · have c : sL Y 1 = 0 := Classical.byContradiction fun z => hc ⟨fun y => absurd y z, fun y => absurd y (by decide)⟩
    rw [c] at hg
    simp (disch := (first | assumption | decide | omega)) only [df_X15_half_68, df_X15_half_64, df_X15_half_52, df_X15_half_37, df_X15_half_0, df_X15_half, h10, hk, hg, lc_eq, c, eq_self, Nat.reduceEqDiff, Nat.reduceLeDiff, nl_0, nl_1, nl_2, nl_3, nl_9, nl_10, nl_11, nl_130, nl_960, no_1, no_1024, pk_mul, nI_add, nm_ck, nI_clamp, nI_ltI, nI_leI, nI_eq, nb_b2, nb_b1, ↓nb_let, nm_z0, nm_z1, nb_II, nb_IR, nb_RI, nb_RR, nm_IL, nm_IQ, nm_RL, nm_RQ, nm_LI, nm_LR, nm_LL, nm_LQ, nm_QI, nm_QR, nm_QL, nm_QQ, nm_rr, nm_ii, nm_eqm, not_false_eq_true, pk_sub, nm_div, nm_shl, nm_shr, nm_ush, nm_or8, nm_or64, nm_or256, nm_m1, nm_m3, nm_m7, nm_m15, nm_m31, nm_m63, nm_m255, nm_m511, nm_m1023, nm_m2047, nm_m65535, Nat.reduceMod, Nat.reducePow, Nat.reduceAdd, Nat.reduceSub, Nat.reduceMul, nm_bo, nm_bi, nm_rc, nm_ic, nm_ri, nm_rl, nm_rq, nm_ql, nm_qi, nm_li, nm_us, nm_uu, nm_cp, nm_sa31, nm_sa7, nm_m127, nm_m2, nm_nz, nm_nzk, nm_eq32, nm_nzf, if_true, if_false, ↓reduceIte, if_pos, if_neg]
theorem hf_on (n d q o b : Nat) {Y : St} {X : St × St} (o1 : 1 ≤ o) (o2 : o ≤ 18) (hd : d < 128) (hq : q < 959) (h10 : sR Y 10 d = nI q) (h9 : sR Y 9 d = nI b) (hk : sR Y 3 q = nI (o + 9)) (h7 : sI Y 7 = nI (d + 1)) (hc : o = 1 ∨ o = 2 → (sL Y 1 = 0 ↔ o = 1)) : df_X15_half n (nI d) (Y, X) = some (bgn (pR (y3 Y d) 11 (upd (sR Y 11) d (nI 2))) (d + 1) (nI (q + 1)) (nI b), X) := by
  have hg : ∀ v u : Int32, df_X15_begin n v u (pQ (pR Y 11 (upd (sR Y 11) d (nI 2))) 3 (vp_updL (sQ Y 3) d (sL Y 1)), X) = some (bgn (pR (y3 Y d) 11 (upd (sR Y 11) d (nI 2))) (d + 1) v u, X) := fun v u => bgn_1 n (d + 1) (Y := pR (y3 Y d) 11 (upd (sR Y 11) d (nI 2))) (by omega) h7
  by_cases c1 : o = 1
  · subst c1
    have c : sL Y 1 = 0 := (hc (Or.inl rfl)).mpr rfl
    rw [c] at hg
    simp (disch := (first | assumption | decide | omega)) only [df_X15_half_68, df_X15_half_64, df_X15_half_52, df_X15_half_37, df_X15_half_0, df_X15_half, h10, h9, hk, hg, lc_eq, c, eq_self, Nat.reduceEqDiff, Nat.reduceLeDiff, nl_0, nl_1, nl_2, nl_3, nl_9, nl_10, nl_11, nl_130, nl_960, no_1, no_1024, pk_mul, nI_add, nm_ck, nI_clamp, nI_ltI, nI_leI, nI_eq, nb_b2, nb_b1, ↓nb_let, nm_z0, nm_z1, nb_II, nb_IR, nb_RI, nb_RR, nm_IL, nm_IQ, nm_RL, nm_RQ, nm_LI, nm_LR, nm_LL, nm_LQ, nm_QI, nm_QR, nm_QL, nm_QQ, nm_rr, nm_ii, nm_eqm, not_false_eq_true, pk_sub, nm_div, nm_shl, nm_shr, nm_ush, nm_or8, nm_or64, nm_or256, nm_m1, nm_m3, nm_m7, nm_m15, nm_m31, nm_m63, nm_m255, nm_m511, nm_m1023, nm_m2047, nm_m65535, Nat.reduceMod, Nat.reducePow, Nat.reduceAdd, Nat.reduceSub, Nat.reduceMul, nm_bo, nm_bi, nm_rc, nm_ic, nm_ri, nm_rl, nm_rq, nm_ql, nm_qi, nm_li, nm_us, nm_uu, nm_cp, nm_sa31, nm_sa7, nm_m127, nm_m2, nm_nz, nm_nzk, nm_eq32, nm_nzf, if_true, if_false, ↓reduceIte, if_pos, if_neg]
  · by_cases c2 : o = 2
    · subst c2
      have c : ¬ sL Y 1 = 0 := fun z => absurd ((hc (Or.inr rfl)).mp z) (by decide)
      simp (disch := (first | assumption | decide | omega)) only [df_X15_half_68, df_X15_half_64, df_X15_half_52, df_X15_half_37, df_X15_half_0, df_X15_half, h10, h9, hk, hg, lc_eq, c, eq_self, Nat.reduceEqDiff, Nat.reduceLeDiff, nl_0, nl_1, nl_2, nl_3, nl_9, nl_10, nl_11, nl_130, nl_960, no_1, no_1024, pk_mul, nI_add, nm_ck, nI_clamp, nI_ltI, nI_leI, nI_eq, nb_b2, nb_b1, ↓nb_let, nm_z0, nm_z1, nb_II, nb_IR, nb_RI, nb_RR, nm_IL, nm_IQ, nm_RL, nm_RQ, nm_LI, nm_LR, nm_LL, nm_LQ, nm_QI, nm_QR, nm_QL, nm_QQ, nm_rr, nm_ii, nm_eqm, not_false_eq_true, pk_sub, nm_div, nm_shl, nm_shr, nm_ush, nm_or8, nm_or64, nm_or256, nm_m1, nm_m3, nm_m7, nm_m15, nm_m31, nm_m63, nm_m255, nm_m511, nm_m1023, nm_m2047, nm_m65535, Nat.reduceMod, Nat.reducePow, Nat.reduceAdd, Nat.reduceSub, Nat.reduceMul, nm_bo, nm_bi, nm_rc, nm_ic, nm_ri, nm_rl, nm_rq, nm_ql, nm_qi, nm_li, nm_us, nm_uu, nm_cp, nm_sa31, nm_sa7, nm_m127, nm_m2, nm_nz, nm_nzk, nm_eq32, nm_nzf, if_true, if_false, ↓reduceIte, if_pos, if_neg]
    · have c3 : ¬ o + 9 = 10 := by omega
      have c4 : ¬ o + 9 = 11 := by omega
      simp (disch := (first | assumption | decide | omega)) only [df_X15_half_68, df_X15_half_64, df_X15_half_52, df_X15_half_37, df_X15_half_0, df_X15_half, h10, h9, hk, hg, c3, c4, eq_self, Nat.reduceEqDiff, Nat.reduceLeDiff, nl_0, nl_1, nl_2, nl_3, nl_9, nl_10, nl_11, nl_130, nl_960, no_1, no_1024, pk_mul, nI_add, nm_ck, nI_clamp, nI_ltI, nI_leI, nI_eq, nb_b2, nb_b1, ↓nb_let, nm_z0, nm_z1, nb_II, nb_IR, nb_RI, nb_RR, nm_IL, nm_IQ, nm_RL, nm_RQ, nm_LI, nm_LR, nm_LL, nm_LQ, nm_QI, nm_QR, nm_QL, nm_QQ, nm_rr, nm_ii, nm_eqm, not_false_eq_true, pk_sub, nm_div, nm_shl, nm_shr, nm_ush, nm_or8, nm_or64, nm_or256, nm_m1, nm_m3, nm_m7, nm_m15, nm_m31, nm_m63, nm_m255, nm_m511, nm_m1023, nm_m2047, nm_m65535, Nat.reduceMod, Nat.reducePow, Nat.reduceAdd, Nat.reduceSub, Nat.reduceMul, nm_bo, nm_bi, nm_rc, nm_ic, nm_ri, nm_rl, nm_rq, nm_ql, nm_qi, nm_li, nm_us, nm_uu, nm_cp, nm_sa31, nm_sa7, nm_m127, nm_m2, nm_nz, nm_nzk, nm_eq32, nm_nzf, if_true, if_false, ↓reduceIte, if_pos, if_neg]
theorem tr_R (n : Nat) (b : Bool) : df_X15_truth n (bI b) () = some (if b = true then 1 else 0, ()) := by
  cases b with
  | false => simp (disch := (first | assumption | decide | omega)) only [df_X15_truth_9, df_X15_truth_0, df_X15_truth, bI, eq_self, Nat.reduceEqDiff, Nat.reduceLeDiff, nl_0, nl_1, no_1, no_1024, pk_mul, nI_add, nm_ck, nI_clamp, nI_ltI, nI_leI, nI_eq, nb_b2, nb_b1, ↓nb_let, nm_z0, nm_z1, nb_II, nb_IR, nb_RI, nb_RR, nm_IL, nm_IQ, nm_RL, nm_RQ, nm_LI, nm_LR, nm_LL, nm_LQ, nm_QI, nm_QR, nm_QL, nm_QQ, nm_rr, nm_ii, nm_eqm, not_false_eq_true, pk_sub, nm_div, nm_shl, nm_shr, nm_ush, nm_or8, nm_or64, nm_or256, nm_m1, nm_m3, nm_m7, nm_m15, nm_m31, nm_m63, nm_m255, nm_m511, nm_m1023, nm_m2047, nm_m65535, Nat.reduceMod, Nat.reducePow, Nat.reduceAdd, Nat.reduceSub, Nat.reduceMul, nm_bo, nm_bi, nm_rc, nm_ic, nm_ri, nm_rl, nm_rq, nm_ql, nm_qi, nm_li, nm_us, nm_uu, nm_cp, nm_sa31, nm_sa7, nm_m127, nm_m2, nm_nz, nm_nzk, nm_eq32, nm_nzf, if_true, if_false, ↓reduceIte, if_pos, if_neg]
  | true => simp (disch := (first | assumption | decide | omega)) only [df_X15_truth_9, df_X15_truth_0, df_X15_truth, bI, eq_self, Nat.reduceEqDiff, Nat.reduceLeDiff, nl_0, nl_1, no_1, no_1024, pk_mul, nI_add, nm_ck, nI_clamp, nI_ltI, nI_leI, nI_eq, nb_b2, nb_b1, ↓nb_let, nm_z0, nm_z1, nb_II, nb_IR, nb_RI, nb_RR, nm_IL, nm_IQ, nm_RL, nm_RQ, nm_LI, nm_LR, nm_LL, nm_LQ, nm_QI, nm_QR, nm_QL, nm_QQ, nm_rr, nm_ii, nm_eqm, not_false_eq_true, pk_sub, nm_div, nm_shl, nm_shr, nm_ush, nm_or8, nm_or64, nm_or256, nm_m1, nm_m3, nm_m7, nm_m15, nm_m31, nm_m63, nm_m255, nm_m511, nm_m1023, nm_m2047, nm_m65535, Nat.reduceMod, Nat.reducePow, Nat.reduceAdd, Nat.reduceSub, Nat.reduceMul, nm_bo, nm_bi, nm_rc, nm_ic, nm_ri, nm_rl, nm_rq, nm_ql, nm_qi, nm_li, nm_us, nm_uu, nm_cp, nm_sa31, nm_sa7, nm_m127, nm_m2, nm_nz, nm_nzk, nm_eq32, nm_nzf, if_true, if_false, ↓reduceIte, if_pos, if_neg]
theorem sh63 (x : Int64) : (x &&& 63).toInt32.toInt64 &&& 63 = x.toInt32.toInt64 &&& 63 := by
  apply Int64.toBitVec_inj.mp
  apply BitVec.eq_of_getLsbD_eq
  intro i hi
  have e : (63 : Int64).toBitVec = 63#64 := rfl
  have f : ∀ i : Nat, i < 64 → (63#64 : BitVec 64).getLsbD i = decide (i < 6) := by decide
  simp only [Int64.toBitVec_and, Int32.toBitVec_toInt64, Int64.toBitVec_toInt32, BitVec.getLsbD_and, BitVec.getLsbD_signExtend, e, f i hi]
  by_cases c : i < 6
  · simp only [c, hi, show i < 32 by omega, decide_true, Bool.true_and, Bool.and_true, if_true, f i hi]
  · simp only [c, decide_false, Bool.and_false]
theorem bo_o (n o : Nat) (h1 : 3 ≤ o) (h2 : o ≤ 18) (a b v : Int64) (hv : bV o a b = some v) : df_X15_both n (nI (o + 9)) a b () = some (v, ()) := by
  have ho : o = 3 ∨ o = 4 ∨ o = 5 ∨ o = 6 ∨ o = 7 ∨ o = 8 ∨ o = 9 ∨ o = 10 ∨ o = 11 ∨ o = 12 ∨ o = 13 ∨ o = 14 ∨ o = 15 ∨ o = 16 ∨ o = 17 ∨ o = 18 := by omega
  have t0 : df_X15_truth n (nI 0) () = some (0, ()) := tr_R n false
  have t1 : df_X15_truth n (nI 1) () = some (1, ()) := tr_R n true
  rcases ho with rfl | rfl | rfl | rfl | rfl | rfl | rfl | rfl | rfl | rfl | rfl | rfl | rfl | rfl | rfl | rfl
  · simp (disch := (first | assumption | decide | omega)) only [bV, eq_self, Nat.reduceEqDiff, Nat.reduceLeDiff, no_1, no_1024, pk_mul, nI_add, nm_ck, nI_clamp, nI_ltI, nI_leI, nI_eq, nb_b2, nb_b1, ↓nb_let, nm_z0, nm_z1, nb_II, nb_IR, nb_RI, nb_RR, nm_IL, nm_IQ, nm_RL, nm_RQ, nm_LI, nm_LR, nm_LL, nm_LQ, nm_QI, nm_QR, nm_QL, nm_QQ, nm_rr, nm_ii, nm_eqm, not_false_eq_true, pk_sub, nm_div, nm_shl, nm_shr, nm_ush, nm_or8, nm_or64, nm_or256, nm_m1, nm_m3, nm_m7, nm_m15, nm_m31, nm_m63, nm_m255, nm_m511, nm_m1023, nm_m2047, nm_m65535, Nat.reduceMod, Nat.reducePow, Nat.reduceAdd, Nat.reduceSub, Nat.reduceMul, nm_bo, nm_bi, nm_rc, nm_ic, nm_ri, nm_rl, nm_rq, nm_ql, nm_qi, nm_li, nm_us, nm_uu, nm_cp, nm_sa31, nm_sa7, nm_m127, nm_m2, nm_nz, nm_nzk, nm_eq32, nm_nzf, if_true, if_false, ↓reduceIte, if_pos, if_neg] at hv
    injection hv with hv
    subst hv
    by_cases c : a = b
    · rw [if_pos c]
      simp (disch := (first | assumption | decide | omega)) only [df_X15_both_95, df_X15_both_84, df_X15_both_110, df_X15_both_125, df_X15_both_140, df_X15_both_155, df_X15_both_170, df_X15_both_185, df_X15_both_0, df_X15_both, lc_eq, lgA, lgB, lgC, lgD, c, t0, t1, eq_self, Nat.reduceEqDiff, Nat.reduceLeDiff, nl_0, nl_1, nl_10, nl_11, nl_12, nl_13, nl_14, nl_15, nl_16, nl_17, nl_18, nl_19, nl_20, nl_21, nl_22, nl_23, nl_24, nl_25, nl_26, nl_63, no_1, no_1024, pk_mul, nI_add, nm_ck, nI_clamp, nI_ltI, nI_leI, nI_eq, nb_b2, nb_b1, ↓nb_let, nm_z0, nm_z1, nb_II, nb_IR, nb_RI, nb_RR, nm_IL, nm_IQ, nm_RL, nm_RQ, nm_LI, nm_LR, nm_LL, nm_LQ, nm_QI, nm_QR, nm_QL, nm_QQ, nm_rr, nm_ii, nm_eqm, not_false_eq_true, pk_sub, nm_div, nm_shl, nm_shr, nm_ush, nm_or8, nm_or64, nm_or256, nm_m1, nm_m3, nm_m7, nm_m15, nm_m31, nm_m63, nm_m255, nm_m511, nm_m1023, nm_m2047, nm_m65535, Nat.reduceMod, Nat.reducePow, Nat.reduceAdd, Nat.reduceSub, Nat.reduceMul, nm_bo, nm_bi, nm_rc, nm_ic, nm_ri, nm_rl, nm_rq, nm_ql, nm_qi, nm_li, nm_us, nm_uu, nm_cp, nm_sa31, nm_sa7, nm_m127, nm_m2, nm_nz, nm_nzk, nm_eq32, nm_nzf, if_true, if_false, ↓reduceIte, if_pos, if_neg]
    · rw [if_neg c]
      simp (disch := (first | assumption | decide | omega)) only [df_X15_both_95, df_X15_both_84, df_X15_both_110, df_X15_both_125, df_X15_both_140, df_X15_both_155, df_X15_both_170, df_X15_both_185, df_X15_both_0, df_X15_both, lc_eq, lgA, lgB, lgC, lgD, c, t0, t1, eq_self, Nat.reduceEqDiff, Nat.reduceLeDiff, nl_0, nl_1, nl_10, nl_11, nl_12, nl_13, nl_14, nl_15, nl_16, nl_17, nl_18, nl_19, nl_20, nl_21, nl_22, nl_23, nl_24, nl_25, nl_26, nl_63, no_1, no_1024, pk_mul, nI_add, nm_ck, nI_clamp, nI_ltI, nI_leI, nI_eq, nb_b2, nb_b1, ↓nb_let, nm_z0, nm_z1, nb_II, nb_IR, nb_RI, nb_RR, nm_IL, nm_IQ, nm_RL, nm_RQ, nm_LI, nm_LR, nm_LL, nm_LQ, nm_QI, nm_QR, nm_QL, nm_QQ, nm_rr, nm_ii, nm_eqm, not_false_eq_true, pk_sub, nm_div, nm_shl, nm_shr, nm_ush, nm_or8, nm_or64, nm_or256, nm_m1, nm_m3, nm_m7, nm_m15, nm_m31, nm_m63, nm_m255, nm_m511, nm_m1023, nm_m2047, nm_m65535, Nat.reduceMod, Nat.reducePow, Nat.reduceAdd, Nat.reduceSub, Nat.reduceMul, nm_bo, nm_bi, nm_rc, nm_ic, nm_ri, nm_rl, nm_rq, nm_ql, nm_qi, nm_li, nm_us, nm_uu, nm_cp, nm_sa31, nm_sa7, nm_m127, nm_m2, nm_nz, nm_nzk, nm_eq32, nm_nzf, if_true, if_false, ↓reduceIte, if_pos, if_neg]
  · simp (disch := (first | assumption | decide | omega)) only [bV, eq_self, Nat.reduceEqDiff, Nat.reduceLeDiff, no_1, no_1024, pk_mul, nI_add, nm_ck, nI_clamp, nI_ltI, nI_leI, nI_eq, nb_b2, nb_b1, ↓nb_let, nm_z0, nm_z1, nb_II, nb_IR, nb_RI, nb_RR, nm_IL, nm_IQ, nm_RL, nm_RQ, nm_LI, nm_LR, nm_LL, nm_LQ, nm_QI, nm_QR, nm_QL, nm_QQ, nm_rr, nm_ii, nm_eqm, not_false_eq_true, pk_sub, nm_div, nm_shl, nm_shr, nm_ush, nm_or8, nm_or64, nm_or256, nm_m1, nm_m3, nm_m7, nm_m15, nm_m31, nm_m63, nm_m255, nm_m511, nm_m1023, nm_m2047, nm_m65535, Nat.reduceMod, Nat.reducePow, Nat.reduceAdd, Nat.reduceSub, Nat.reduceMul, nm_bo, nm_bi, nm_rc, nm_ic, nm_ri, nm_rl, nm_rq, nm_ql, nm_qi, nm_li, nm_us, nm_uu, nm_cp, nm_sa31, nm_sa7, nm_m127, nm_m2, nm_nz, nm_nzk, nm_eq32, nm_nzf, if_true, if_false, ↓reduceIte, if_pos, if_neg] at hv
    injection hv with hv
    subst hv
    by_cases c : a = b
    · rw [if_pos c]
      simp (disch := (first | assumption | decide | omega)) only [df_X15_both_95, df_X15_both_84, df_X15_both_110, df_X15_both_125, df_X15_both_140, df_X15_both_155, df_X15_both_170, df_X15_both_185, df_X15_both_0, df_X15_both, lc_eq, lgA, lgB, lgC, lgD, c, t0, t1, eq_self, Nat.reduceEqDiff, Nat.reduceLeDiff, nl_0, nl_1, nl_10, nl_11, nl_12, nl_13, nl_14, nl_15, nl_16, nl_17, nl_18, nl_19, nl_20, nl_21, nl_22, nl_23, nl_24, nl_25, nl_26, nl_63, no_1, no_1024, pk_mul, nI_add, nm_ck, nI_clamp, nI_ltI, nI_leI, nI_eq, nb_b2, nb_b1, ↓nb_let, nm_z0, nm_z1, nb_II, nb_IR, nb_RI, nb_RR, nm_IL, nm_IQ, nm_RL, nm_RQ, nm_LI, nm_LR, nm_LL, nm_LQ, nm_QI, nm_QR, nm_QL, nm_QQ, nm_rr, nm_ii, nm_eqm, not_false_eq_true, pk_sub, nm_div, nm_shl, nm_shr, nm_ush, nm_or8, nm_or64, nm_or256, nm_m1, nm_m3, nm_m7, nm_m15, nm_m31, nm_m63, nm_m255, nm_m511, nm_m1023, nm_m2047, nm_m65535, Nat.reduceMod, Nat.reducePow, Nat.reduceAdd, Nat.reduceSub, Nat.reduceMul, nm_bo, nm_bi, nm_rc, nm_ic, nm_ri, nm_rl, nm_rq, nm_ql, nm_qi, nm_li, nm_us, nm_uu, nm_cp, nm_sa31, nm_sa7, nm_m127, nm_m2, nm_nz, nm_nzk, nm_eq32, nm_nzf, if_true, if_false, ↓reduceIte, if_pos, if_neg]
    · rw [if_neg c]
      simp (disch := (first | assumption | decide | omega)) only [df_X15_both_95, df_X15_both_84, df_X15_both_110, df_X15_both_125, df_X15_both_140, df_X15_both_155, df_X15_both_170, df_X15_both_185, df_X15_both_0, df_X15_both, lc_eq, lgA, lgB, lgC, lgD, c, t0, t1, eq_self, Nat.reduceEqDiff, Nat.reduceLeDiff, nl_0, nl_1, nl_10, nl_11, nl_12, nl_13, nl_14, nl_15, nl_16, nl_17, nl_18, nl_19, nl_20, nl_21, nl_22, nl_23, nl_24, nl_25, nl_26, nl_63, no_1, no_1024, pk_mul, nI_add, nm_ck, nI_clamp, nI_ltI, nI_leI, nI_eq, nb_b2, nb_b1, ↓nb_let, nm_z0, nm_z1, nb_II, nb_IR, nb_RI, nb_RR, nm_IL, nm_IQ, nm_RL, nm_RQ, nm_LI, nm_LR, nm_LL, nm_LQ, nm_QI, nm_QR, nm_QL, nm_QQ, nm_rr, nm_ii, nm_eqm, not_false_eq_true, pk_sub, nm_div, nm_shl, nm_shr, nm_ush, nm_or8, nm_or64, nm_or256, nm_m1, nm_m3, nm_m7, nm_m15, nm_m31, nm_m63, nm_m255, nm_m511, nm_m1023, nm_m2047, nm_m65535, Nat.reduceMod, Nat.reducePow, Nat.reduceAdd, Nat.reduceSub, Nat.reduceMul, nm_bo, nm_bi, nm_rc, nm_ic, nm_ri, nm_rl, nm_rq, nm_ql, nm_qi, nm_li, nm_us, nm_uu, nm_cp, nm_sa31, nm_sa7, nm_m127, nm_m2, nm_nz, nm_nzk, nm_eq32, nm_nzf, if_true, if_false, ↓reduceIte, if_pos, if_neg]
  · simp (disch := (first | assumption | decide | omega)) only [bV, eq_self, Nat.reduceEqDiff, Nat.reduceLeDiff, no_1, no_1024, pk_mul, nI_add, nm_ck, nI_clamp, nI_ltI, nI_leI, nI_eq, nb_b2, nb_b1, ↓nb_let, nm_z0, nm_z1, nb_II, nb_IR, nb_RI, nb_RR, nm_IL, nm_IQ, nm_RL, nm_RQ, nm_LI, nm_LR, nm_LL, nm_LQ, nm_QI, nm_QR, nm_QL, nm_QQ, nm_rr, nm_ii, nm_eqm, not_false_eq_true, pk_sub, nm_div, nm_shl, nm_shr, nm_ush, nm_or8, nm_or64, nm_or256, nm_m1, nm_m3, nm_m7, nm_m15, nm_m31, nm_m63, nm_m255, nm_m511, nm_m1023, nm_m2047, nm_m65535, Nat.reduceMod, Nat.reducePow, Nat.reduceAdd, Nat.reduceSub, Nat.reduceMul, nm_bo, nm_bi, nm_rc, nm_ic, nm_ri, nm_rl, nm_rq, nm_ql, nm_qi, nm_li, nm_us, nm_uu, nm_cp, nm_sa31, nm_sa7, nm_m127, nm_m2, nm_nz, nm_nzk, nm_eq32, nm_nzf, if_true, if_false, ↓reduceIte, if_pos, if_neg] at hv
    injection hv with hv
    subst hv
    by_cases c : b.toInt ≤ a.toInt
    · rw [if_pos c]
      simp (disch := (first | assumption | decide | omega)) only [df_X15_both_95, df_X15_both_84, df_X15_both_110, df_X15_both_125, df_X15_both_140, df_X15_both_155, df_X15_both_170, df_X15_both_185, df_X15_both_0, df_X15_both, lc_eq, lgA, lgB, lgC, lgD, c, t0, t1, eq_self, Nat.reduceEqDiff, Nat.reduceLeDiff, nl_0, nl_1, nl_10, nl_11, nl_12, nl_13, nl_14, nl_15, nl_16, nl_17, nl_18, nl_19, nl_20, nl_21, nl_22, nl_23, nl_24, nl_25, nl_26, nl_63, no_1, no_1024, pk_mul, nI_add, nm_ck, nI_clamp, nI_ltI, nI_leI, nI_eq, nb_b2, nb_b1, ↓nb_let, nm_z0, nm_z1, nb_II, nb_IR, nb_RI, nb_RR, nm_IL, nm_IQ, nm_RL, nm_RQ, nm_LI, nm_LR, nm_LL, nm_LQ, nm_QI, nm_QR, nm_QL, nm_QQ, nm_rr, nm_ii, nm_eqm, not_false_eq_true, pk_sub, nm_div, nm_shl, nm_shr, nm_ush, nm_or8, nm_or64, nm_or256, nm_m1, nm_m3, nm_m7, nm_m15, nm_m31, nm_m63, nm_m255, nm_m511, nm_m1023, nm_m2047, nm_m65535, Nat.reduceMod, Nat.reducePow, Nat.reduceAdd, Nat.reduceSub, Nat.reduceMul, nm_bo, nm_bi, nm_rc, nm_ic, nm_ri, nm_rl, nm_rq, nm_ql, nm_qi, nm_li, nm_us, nm_uu, nm_cp, nm_sa31, nm_sa7, nm_m127, nm_m2, nm_nz, nm_nzk, nm_eq32, nm_nzf, if_true, if_false, ↓reduceIte, if_pos, if_neg]
    · rw [if_neg c]
      simp (disch := (first | assumption | decide | omega)) only [df_X15_both_95, df_X15_both_84, df_X15_both_110, df_X15_both_125, df_X15_both_140, df_X15_both_155, df_X15_both_170, df_X15_both_185, df_X15_both_0, df_X15_both, lc_eq, lgA, lgB, lgC, lgD, c, t0, t1, eq_self, Nat.reduceEqDiff, Nat.reduceLeDiff, nl_0, nl_1, nl_10, nl_11, nl_12, nl_13, nl_14, nl_15, nl_16, nl_17, nl_18, nl_19, nl_20, nl_21, nl_22, nl_23, nl_24, nl_25, nl_26, nl_63, no_1, no_1024, pk_mul, nI_add, nm_ck, nI_clamp, nI_ltI, nI_leI, nI_eq, nb_b2, nb_b1, ↓nb_let, nm_z0, nm_z1, nb_II, nb_IR, nb_RI, nb_RR, nm_IL, nm_IQ, nm_RL, nm_RQ, nm_LI, nm_LR, nm_LL, nm_LQ, nm_QI, nm_QR, nm_QL, nm_QQ, nm_rr, nm_ii, nm_eqm, not_false_eq_true, pk_sub, nm_div, nm_shl, nm_shr, nm_ush, nm_or8, nm_or64, nm_or256, nm_m1, nm_m3, nm_m7, nm_m15, nm_m31, nm_m63, nm_m255, nm_m511, nm_m1023, nm_m2047, nm_m65535, Nat.reduceMod, Nat.reducePow, Nat.reduceAdd, Nat.reduceSub, Nat.reduceMul, nm_bo, nm_bi, nm_rc, nm_ic, nm_ri, nm_rl, nm_rq, nm_ql, nm_qi, nm_li, nm_us, nm_uu, nm_cp, nm_sa31, nm_sa7, nm_m127, nm_m2, nm_nz, nm_nzk, nm_eq32, nm_nzf, if_true, if_false, ↓reduceIte, if_pos, if_neg]
  · simp (disch := (first | assumption | decide | omega)) only [bV, eq_self, Nat.reduceEqDiff, Nat.reduceLeDiff, no_1, no_1024, pk_mul, nI_add, nm_ck, nI_clamp, nI_ltI, nI_leI, nI_eq, nb_b2, nb_b1, ↓nb_let, nm_z0, nm_z1, nb_II, nb_IR, nb_RI, nb_RR, nm_IL, nm_IQ, nm_RL, nm_RQ, nm_LI, nm_LR, nm_LL, nm_LQ, nm_QI, nm_QR, nm_QL, nm_QQ, nm_rr, nm_ii, nm_eqm, not_false_eq_true, pk_sub, nm_div, nm_shl, nm_shr, nm_ush, nm_or8, nm_or64, nm_or256, nm_m1, nm_m3, nm_m7, nm_m15, nm_m31, nm_m63, nm_m255, nm_m511, nm_m1023, nm_m2047, nm_m65535, Nat.reduceMod, Nat.reducePow, Nat.reduceAdd, Nat.reduceSub, Nat.reduceMul, nm_bo, nm_bi, nm_rc, nm_ic, nm_ri, nm_rl, nm_rq, nm_ql, nm_qi, nm_li, nm_us, nm_uu, nm_cp, nm_sa31, nm_sa7, nm_m127, nm_m2, nm_nz, nm_nzk, nm_eq32, nm_nzf, if_true, if_false, ↓reduceIte, if_pos, if_neg] at hv
    injection hv with hv
    subst hv
    by_cases c : b.toInt < a.toInt
    · rw [if_pos c]
      simp (disch := (first | assumption | decide | omega)) only [df_X15_both_95, df_X15_both_84, df_X15_both_110, df_X15_both_125, df_X15_both_140, df_X15_both_155, df_X15_both_170, df_X15_both_185, df_X15_both_0, df_X15_both, lc_eq, lgA, lgB, lgC, lgD, c, t0, t1, eq_self, Nat.reduceEqDiff, Nat.reduceLeDiff, nl_0, nl_1, nl_10, nl_11, nl_12, nl_13, nl_14, nl_15, nl_16, nl_17, nl_18, nl_19, nl_20, nl_21, nl_22, nl_23, nl_24, nl_25, nl_26, nl_63, no_1, no_1024, pk_mul, nI_add, nm_ck, nI_clamp, nI_ltI, nI_leI, nI_eq, nb_b2, nb_b1, ↓nb_let, nm_z0, nm_z1, nb_II, nb_IR, nb_RI, nb_RR, nm_IL, nm_IQ, nm_RL, nm_RQ, nm_LI, nm_LR, nm_LL, nm_LQ, nm_QI, nm_QR, nm_QL, nm_QQ, nm_rr, nm_ii, nm_eqm, not_false_eq_true, pk_sub, nm_div, nm_shl, nm_shr, nm_ush, nm_or8, nm_or64, nm_or256, nm_m1, nm_m3, nm_m7, nm_m15, nm_m31, nm_m63, nm_m255, nm_m511, nm_m1023, nm_m2047, nm_m65535, Nat.reduceMod, Nat.reducePow, Nat.reduceAdd, Nat.reduceSub, Nat.reduceMul, nm_bo, nm_bi, nm_rc, nm_ic, nm_ri, nm_rl, nm_rq, nm_ql, nm_qi, nm_li, nm_us, nm_uu, nm_cp, nm_sa31, nm_sa7, nm_m127, nm_m2, nm_nz, nm_nzk, nm_eq32, nm_nzf, if_true, if_false, ↓reduceIte, if_pos, if_neg]
    · rw [if_neg c]
      simp (disch := (first | assumption | decide | omega)) only [df_X15_both_95, df_X15_both_84, df_X15_both_110, df_X15_both_125, df_X15_both_140, df_X15_both_155, df_X15_both_170, df_X15_both_185, df_X15_both_0, df_X15_both, lc_eq, lgA, lgB, lgC, lgD, c, t0, t1, eq_self, Nat.reduceEqDiff, Nat.reduceLeDiff, nl_0, nl_1, nl_10, nl_11, nl_12, nl_13, nl_14, nl_15, nl_16, nl_17, nl_18, nl_19, nl_20, nl_21, nl_22, nl_23, nl_24, nl_25, nl_26, nl_63, no_1, no_1024, pk_mul, nI_add, nm_ck, nI_clamp, nI_ltI, nI_leI, nI_eq, nb_b2, nb_b1, ↓nb_let, nm_z0, nm_z1, nb_II, nb_IR, nb_RI, nb_RR, nm_IL, nm_IQ, nm_RL, nm_RQ, nm_LI, nm_LR, nm_LL, nm_LQ, nm_QI, nm_QR, nm_QL, nm_QQ, nm_rr, nm_ii, nm_eqm, not_false_eq_true, pk_sub, nm_div, nm_shl, nm_shr, nm_ush, nm_or8, nm_or64, nm_or256, nm_m1, nm_m3, nm_m7, nm_m15, nm_m31, nm_m63, nm_m255, nm_m511, nm_m1023, nm_m2047, nm_m65535, Nat.reduceMod, Nat.reducePow, Nat.reduceAdd, Nat.reduceSub, Nat.reduceMul, nm_bo, nm_bi, nm_rc, nm_ic, nm_ri, nm_rl, nm_rq, nm_ql, nm_qi, nm_li, nm_us, nm_uu, nm_cp, nm_sa31, nm_sa7, nm_m127, nm_m2, nm_nz, nm_nzk, nm_eq32, nm_nzf, if_true, if_false, ↓reduceIte, if_pos, if_neg]
  · simp (disch := (first | assumption | decide | omega)) only [bV, eq_self, Nat.reduceEqDiff, Nat.reduceLeDiff, no_1, no_1024, pk_mul, nI_add, nm_ck, nI_clamp, nI_ltI, nI_leI, nI_eq, nb_b2, nb_b1, ↓nb_let, nm_z0, nm_z1, nb_II, nb_IR, nb_RI, nb_RR, nm_IL, nm_IQ, nm_RL, nm_RQ, nm_LI, nm_LR, nm_LL, nm_LQ, nm_QI, nm_QR, nm_QL, nm_QQ, nm_rr, nm_ii, nm_eqm, not_false_eq_true, pk_sub, nm_div, nm_shl, nm_shr, nm_ush, nm_or8, nm_or64, nm_or256, nm_m1, nm_m3, nm_m7, nm_m15, nm_m31, nm_m63, nm_m255, nm_m511, nm_m1023, nm_m2047, nm_m65535, Nat.reduceMod, Nat.reducePow, Nat.reduceAdd, Nat.reduceSub, Nat.reduceMul, nm_bo, nm_bi, nm_rc, nm_ic, nm_ri, nm_rl, nm_rq, nm_ql, nm_qi, nm_li, nm_us, nm_uu, nm_cp, nm_sa31, nm_sa7, nm_m127, nm_m2, nm_nz, nm_nzk, nm_eq32, nm_nzf, if_true, if_false, ↓reduceIte, if_pos, if_neg] at hv
    injection hv with hv
    subst hv
    by_cases c : a.toInt ≤ b.toInt
    · rw [if_pos c]
      simp (disch := (first | assumption | decide | omega)) only [df_X15_both_95, df_X15_both_84, df_X15_both_110, df_X15_both_125, df_X15_both_140, df_X15_both_155, df_X15_both_170, df_X15_both_185, df_X15_both_0, df_X15_both, lc_eq, lgA, lgB, lgC, lgD, c, t0, t1, eq_self, Nat.reduceEqDiff, Nat.reduceLeDiff, nl_0, nl_1, nl_10, nl_11, nl_12, nl_13, nl_14, nl_15, nl_16, nl_17, nl_18, nl_19, nl_20, nl_21, nl_22, nl_23, nl_24, nl_25, nl_26, nl_63, no_1, no_1024, pk_mul, nI_add, nm_ck, nI_clamp, nI_ltI, nI_leI, nI_eq, nb_b2, nb_b1, ↓nb_let, nm_z0, nm_z1, nb_II, nb_IR, nb_RI, nb_RR, nm_IL, nm_IQ, nm_RL, nm_RQ, nm_LI, nm_LR, nm_LL, nm_LQ, nm_QI, nm_QR, nm_QL, nm_QQ, nm_rr, nm_ii, nm_eqm, not_false_eq_true, pk_sub, nm_div, nm_shl, nm_shr, nm_ush, nm_or8, nm_or64, nm_or256, nm_m1, nm_m3, nm_m7, nm_m15, nm_m31, nm_m63, nm_m255, nm_m511, nm_m1023, nm_m2047, nm_m65535, Nat.reduceMod, Nat.reducePow, Nat.reduceAdd, Nat.reduceSub, Nat.reduceMul, nm_bo, nm_bi, nm_rc, nm_ic, nm_ri, nm_rl, nm_rq, nm_ql, nm_qi, nm_li, nm_us, nm_uu, nm_cp, nm_sa31, nm_sa7, nm_m127, nm_m2, nm_nz, nm_nzk, nm_eq32, nm_nzf, if_true, if_false, ↓reduceIte, if_pos, if_neg]
    · rw [if_neg c]
      simp (disch := (first | assumption | decide | omega)) only [df_X15_both_95, df_X15_both_84, df_X15_both_110, df_X15_both_125, df_X15_both_140, df_X15_both_155, df_X15_both_170, df_X15_both_185, df_X15_both_0, df_X15_both, lc_eq, lgA, lgB, lgC, lgD, c, t0, t1, eq_self, Nat.reduceEqDiff, Nat.reduceLeDiff, nl_0, nl_1, nl_10, nl_11, nl_12, nl_13, nl_14, nl_15, nl_16, nl_17, nl_18, nl_19, nl_20, nl_21, nl_22, nl_23, nl_24, nl_25, nl_26, nl_63, no_1, no_1024, pk_mul, nI_add, nm_ck, nI_clamp, nI_ltI, nI_leI, nI_eq, nb_b2, nb_b1, ↓nb_let, nm_z0, nm_z1, nb_II, nb_IR, nb_RI, nb_RR, nm_IL, nm_IQ, nm_RL, nm_RQ, nm_LI, nm_LR, nm_LL, nm_LQ, nm_QI, nm_QR, nm_QL, nm_QQ, nm_rr, nm_ii, nm_eqm, not_false_eq_true, pk_sub, nm_div, nm_shl, nm_shr, nm_ush, nm_or8, nm_or64, nm_or256, nm_m1, nm_m3, nm_m7, nm_m15, nm_m31, nm_m63, nm_m255, nm_m511, nm_m1023, nm_m2047, nm_m65535, Nat.reduceMod, Nat.reducePow, Nat.reduceAdd, Nat.reduceSub, Nat.reduceMul, nm_bo, nm_bi, nm_rc, nm_ic, nm_ri, nm_rl, nm_rq, nm_ql, nm_qi, nm_li, nm_us, nm_uu, nm_cp, nm_sa31, nm_sa7, nm_m127, nm_m2, nm_nz, nm_nzk, nm_eq32, nm_nzf, if_true, if_false, ↓reduceIte, if_pos, if_neg]
  · simp (disch := (first | assumption | decide | omega)) only [bV, eq_self, Nat.reduceEqDiff, Nat.reduceLeDiff, no_1, no_1024, pk_mul, nI_add, nm_ck, nI_clamp, nI_ltI, nI_leI, nI_eq, nb_b2, nb_b1, ↓nb_let, nm_z0, nm_z1, nb_II, nb_IR, nb_RI, nb_RR, nm_IL, nm_IQ, nm_RL, nm_RQ, nm_LI, nm_LR, nm_LL, nm_LQ, nm_QI, nm_QR, nm_QL, nm_QQ, nm_rr, nm_ii, nm_eqm, not_false_eq_true, pk_sub, nm_div, nm_shl, nm_shr, nm_ush, nm_or8, nm_or64, nm_or256, nm_m1, nm_m3, nm_m7, nm_m15, nm_m31, nm_m63, nm_m255, nm_m511, nm_m1023, nm_m2047, nm_m65535, Nat.reduceMod, Nat.reducePow, Nat.reduceAdd, Nat.reduceSub, Nat.reduceMul, nm_bo, nm_bi, nm_rc, nm_ic, nm_ri, nm_rl, nm_rq, nm_ql, nm_qi, nm_li, nm_us, nm_uu, nm_cp, nm_sa31, nm_sa7, nm_m127, nm_m2, nm_nz, nm_nzk, nm_eq32, nm_nzf, if_true, if_false, ↓reduceIte, if_pos, if_neg] at hv
    injection hv with hv
    subst hv
    by_cases c : a.toInt < b.toInt
    · rw [if_pos c]
      simp (disch := (first | assumption | decide | omega)) only [df_X15_both_95, df_X15_both_84, df_X15_both_110, df_X15_both_125, df_X15_both_140, df_X15_both_155, df_X15_both_170, df_X15_both_185, df_X15_both_0, df_X15_both, lc_eq, lgA, lgB, lgC, lgD, c, t0, t1, eq_self, Nat.reduceEqDiff, Nat.reduceLeDiff, nl_0, nl_1, nl_10, nl_11, nl_12, nl_13, nl_14, nl_15, nl_16, nl_17, nl_18, nl_19, nl_20, nl_21, nl_22, nl_23, nl_24, nl_25, nl_26, nl_63, no_1, no_1024, pk_mul, nI_add, nm_ck, nI_clamp, nI_ltI, nI_leI, nI_eq, nb_b2, nb_b1, ↓nb_let, nm_z0, nm_z1, nb_II, nb_IR, nb_RI, nb_RR, nm_IL, nm_IQ, nm_RL, nm_RQ, nm_LI, nm_LR, nm_LL, nm_LQ, nm_QI, nm_QR, nm_QL, nm_QQ, nm_rr, nm_ii, nm_eqm, not_false_eq_true, pk_sub, nm_div, nm_shl, nm_shr, nm_ush, nm_or8, nm_or64, nm_or256, nm_m1, nm_m3, nm_m7, nm_m15, nm_m31, nm_m63, nm_m255, nm_m511, nm_m1023, nm_m2047, nm_m65535, Nat.reduceMod, Nat.reducePow, Nat.reduceAdd, Nat.reduceSub, Nat.reduceMul, nm_bo, nm_bi, nm_rc, nm_ic, nm_ri, nm_rl, nm_rq, nm_ql, nm_qi, nm_li, nm_us, nm_uu, nm_cp, nm_sa31, nm_sa7, nm_m127, nm_m2, nm_nz, nm_nzk, nm_eq32, nm_nzf, if_true, if_false, ↓reduceIte, if_pos, if_neg]
    · rw [if_neg c]
      simp (disch := (first | assumption | decide | omega)) only [df_X15_both_95, df_X15_both_84, df_X15_both_110, df_X15_both_125, df_X15_both_140, df_X15_both_155, df_X15_both_170, df_X15_both_185, df_X15_both_0, df_X15_both, lc_eq, lgA, lgB, lgC, lgD, c, t0, t1, eq_self, Nat.reduceEqDiff, Nat.reduceLeDiff, nl_0, nl_1, nl_10, nl_11, nl_12, nl_13, nl_14, nl_15, nl_16, nl_17, nl_18, nl_19, nl_20, nl_21, nl_22, nl_23, nl_24, nl_25, nl_26, nl_63, no_1, no_1024, pk_mul, nI_add, nm_ck, nI_clamp, nI_ltI, nI_leI, nI_eq, nb_b2, nb_b1, ↓nb_let, nm_z0, nm_z1, nb_II, nb_IR, nb_RI, nb_RR, nm_IL, nm_IQ, nm_RL, nm_RQ, nm_LI, nm_LR, nm_LL, nm_LQ, nm_QI, nm_QR, nm_QL, nm_QQ, nm_rr, nm_ii, nm_eqm, not_false_eq_true, pk_sub, nm_div, nm_shl, nm_shr, nm_ush, nm_or8, nm_or64, nm_or256, nm_m1, nm_m3, nm_m7, nm_m15, nm_m31, nm_m63, nm_m255, nm_m511, nm_m1023, nm_m2047, nm_m65535, Nat.reduceMod, Nat.reducePow, Nat.reduceAdd, Nat.reduceSub, Nat.reduceMul, nm_bo, nm_bi, nm_rc, nm_ic, nm_ri, nm_rl, nm_rq, nm_ql, nm_qi, nm_li, nm_us, nm_uu, nm_cp, nm_sa31, nm_sa7, nm_m127, nm_m2, nm_nz, nm_nzk, nm_eq32, nm_nzf, if_true, if_false, ↓reduceIte, if_pos, if_neg]
  · simp (disch := (first | assumption | decide | omega)) only [bV, eq_self, Nat.reduceEqDiff, Nat.reduceLeDiff, no_1, no_1024, pk_mul, nI_add, nm_ck, nI_clamp, nI_ltI, nI_leI, nI_eq, nb_b2, nb_b1, ↓nb_let, nm_z0, nm_z1, nb_II, nb_IR, nb_RI, nb_RR, nm_IL, nm_IQ, nm_RL, nm_RQ, nm_LI, nm_LR, nm_LL, nm_LQ, nm_QI, nm_QR, nm_QL, nm_QQ, nm_rr, nm_ii, nm_eqm, not_false_eq_true, pk_sub, nm_div, nm_shl, nm_shr, nm_ush, nm_or8, nm_or64, nm_or256, nm_m1, nm_m3, nm_m7, nm_m15, nm_m31, nm_m63, nm_m255, nm_m511, nm_m1023, nm_m2047, nm_m65535, Nat.reduceMod, Nat.reducePow, Nat.reduceAdd, Nat.reduceSub, Nat.reduceMul, nm_bo, nm_bi, nm_rc, nm_ic, nm_ri, nm_rl, nm_rq, nm_ql, nm_qi, nm_li, nm_us, nm_uu, nm_cp, nm_sa31, nm_sa7, nm_m127, nm_m2, nm_nz, nm_nzk, nm_eq32, nm_nzf, if_true, if_false, ↓reduceIte, if_pos, if_neg] at hv
    injection hv with hv
    subst hv
    simp (disch := (first | assumption | decide | omega)) only [df_X15_both_95, df_X15_both_84, df_X15_both_110, df_X15_both_125, df_X15_both_140, df_X15_both_155, df_X15_both_170, df_X15_both_185, df_X15_both_0, df_X15_both, sh63, eq_self, Nat.reduceEqDiff, Nat.reduceLeDiff, nl_0, nl_1, nl_10, nl_11, nl_12, nl_13, nl_14, nl_15, nl_16, nl_17, nl_18, nl_19, nl_20, nl_21, nl_22, nl_23, nl_24, nl_25, nl_26, nl_63, no_1, no_1024, pk_mul, nI_add, nm_ck, nI_clamp, nI_ltI, nI_leI, nI_eq, nb_b2, nb_b1, ↓nb_let, nm_z0, nm_z1, nb_II, nb_IR, nb_RI, nb_RR, nm_IL, nm_IQ, nm_RL, nm_RQ, nm_LI, nm_LR, nm_LL, nm_LQ, nm_QI, nm_QR, nm_QL, nm_QQ, nm_rr, nm_ii, nm_eqm, not_false_eq_true, pk_sub, nm_div, nm_shl, nm_shr, nm_ush, nm_or8, nm_or64, nm_or256, nm_m1, nm_m3, nm_m7, nm_m15, nm_m31, nm_m63, nm_m255, nm_m511, nm_m1023, nm_m2047, nm_m65535, Nat.reduceMod, Nat.reducePow, Nat.reduceAdd, Nat.reduceSub, Nat.reduceMul, nm_bo, nm_bi, nm_rc, nm_ic, nm_ri, nm_rl, nm_rq, nm_ql, nm_qi, nm_li, nm_us, nm_uu, nm_cp, nm_sa31, nm_sa7, nm_m127, nm_m2, nm_nz, nm_nzk, nm_eq32, nm_nzf, if_true, if_false, ↓reduceIte, if_pos, if_neg]
  · simp (disch := (first | assumption | decide | omega)) only [bV, eq_self, Nat.reduceEqDiff, Nat.reduceLeDiff, no_1, no_1024, pk_mul, nI_add, nm_ck, nI_clamp, nI_ltI, nI_leI, nI_eq, nb_b2, nb_b1, ↓nb_let, nm_z0, nm_z1, nb_II, nb_IR, nb_RI, nb_RR, nm_IL, nm_IQ, nm_RL, nm_RQ, nm_LI, nm_LR, nm_LL, nm_LQ, nm_QI, nm_QR, nm_QL, nm_QQ, nm_rr, nm_ii, nm_eqm, not_false_eq_true, pk_sub, nm_div, nm_shl, nm_shr, nm_ush, nm_or8, nm_or64, nm_or256, nm_m1, nm_m3, nm_m7, nm_m15, nm_m31, nm_m63, nm_m255, nm_m511, nm_m1023, nm_m2047, nm_m65535, Nat.reduceMod, Nat.reducePow, Nat.reduceAdd, Nat.reduceSub, Nat.reduceMul, nm_bo, nm_bi, nm_rc, nm_ic, nm_ri, nm_rl, nm_rq, nm_ql, nm_qi, nm_li, nm_us, nm_uu, nm_cp, nm_sa31, nm_sa7, nm_m127, nm_m2, nm_nz, nm_nzk, nm_eq32, nm_nzf, if_true, if_false, ↓reduceIte, if_pos, if_neg] at hv
    injection hv with hv
    subst hv
    simp (disch := (first | assumption | decide | omega)) only [df_X15_both_95, df_X15_both_84, df_X15_both_110, df_X15_both_125, df_X15_both_140, df_X15_both_155, df_X15_both_170, df_X15_both_185, df_X15_both_0, df_X15_both, sh63, eq_self, Nat.reduceEqDiff, Nat.reduceLeDiff, nl_0, nl_1, nl_10, nl_11, nl_12, nl_13, nl_14, nl_15, nl_16, nl_17, nl_18, nl_19, nl_20, nl_21, nl_22, nl_23, nl_24, nl_25, nl_26, nl_63, no_1, no_1024, pk_mul, nI_add, nm_ck, nI_clamp, nI_ltI, nI_leI, nI_eq, nb_b2, nb_b1, ↓nb_let, nm_z0, nm_z1, nb_II, nb_IR, nb_RI, nb_RR, nm_IL, nm_IQ, nm_RL, nm_RQ, nm_LI, nm_LR, nm_LL, nm_LQ, nm_QI, nm_QR, nm_QL, nm_QQ, nm_rr, nm_ii, nm_eqm, not_false_eq_true, pk_sub, nm_div, nm_shl, nm_shr, nm_ush, nm_or8, nm_or64, nm_or256, nm_m1, nm_m3, nm_m7, nm_m15, nm_m31, nm_m63, nm_m255, nm_m511, nm_m1023, nm_m2047, nm_m65535, Nat.reduceMod, Nat.reducePow, Nat.reduceAdd, Nat.reduceSub, Nat.reduceMul, nm_bo, nm_bi, nm_rc, nm_ic, nm_ri, nm_rl, nm_rq, nm_ql, nm_qi, nm_li, nm_us, nm_uu, nm_cp, nm_sa31, nm_sa7, nm_m127, nm_m2, nm_nz, nm_nzk, nm_eq32, nm_nzf, if_true, if_false, ↓reduceIte, if_pos, if_neg]
  · simp (disch := (first | assumption | decide | omega)) only [bV, eq_self, Nat.reduceEqDiff, Nat.reduceLeDiff, no_1, no_1024, pk_mul, nI_add, nm_ck, nI_clamp, nI_ltI, nI_leI, nI_eq, nb_b2, nb_b1, ↓nb_let, nm_z0, nm_z1, nb_II, nb_IR, nb_RI, nb_RR, nm_IL, nm_IQ, nm_RL, nm_RQ, nm_LI, nm_LR, nm_LL, nm_LQ, nm_QI, nm_QR, nm_QL, nm_QQ, nm_rr, nm_ii, nm_eqm, not_false_eq_true, pk_sub, nm_div, nm_shl, nm_shr, nm_ush, nm_or8, nm_or64, nm_or256, nm_m1, nm_m3, nm_m7, nm_m15, nm_m31, nm_m63, nm_m255, nm_m511, nm_m1023, nm_m2047, nm_m65535, Nat.reduceMod, Nat.reducePow, Nat.reduceAdd, Nat.reduceSub, Nat.reduceMul, nm_bo, nm_bi, nm_rc, nm_ic, nm_ri, nm_rl, nm_rq, nm_ql, nm_qi, nm_li, nm_us, nm_uu, nm_cp, nm_sa31, nm_sa7, nm_m127, nm_m2, nm_nz, nm_nzk, nm_eq32, nm_nzf, if_true, if_false, ↓reduceIte, if_pos, if_neg] at hv
    injection hv with hv
    subst hv
    simp (disch := (first | assumption | decide | omega)) only [df_X15_both_95, df_X15_both_84, df_X15_both_110, df_X15_both_125, df_X15_both_140, df_X15_both_155, df_X15_both_170, df_X15_both_185, df_X15_both_0, df_X15_both, sh63, eq_self, Nat.reduceEqDiff, Nat.reduceLeDiff, nl_0, nl_1, nl_10, nl_11, nl_12, nl_13, nl_14, nl_15, nl_16, nl_17, nl_18, nl_19, nl_20, nl_21, nl_22, nl_23, nl_24, nl_25, nl_26, nl_63, no_1, no_1024, pk_mul, nI_add, nm_ck, nI_clamp, nI_ltI, nI_leI, nI_eq, nb_b2, nb_b1, ↓nb_let, nm_z0, nm_z1, nb_II, nb_IR, nb_RI, nb_RR, nm_IL, nm_IQ, nm_RL, nm_RQ, nm_LI, nm_LR, nm_LL, nm_LQ, nm_QI, nm_QR, nm_QL, nm_QQ, nm_rr, nm_ii, nm_eqm, not_false_eq_true, pk_sub, nm_div, nm_shl, nm_shr, nm_ush, nm_or8, nm_or64, nm_or256, nm_m1, nm_m3, nm_m7, nm_m15, nm_m31, nm_m63, nm_m255, nm_m511, nm_m1023, nm_m2047, nm_m65535, Nat.reduceMod, Nat.reducePow, Nat.reduceAdd, Nat.reduceSub, Nat.reduceMul, nm_bo, nm_bi, nm_rc, nm_ic, nm_ri, nm_rl, nm_rq, nm_ql, nm_qi, nm_li, nm_us, nm_uu, nm_cp, nm_sa31, nm_sa7, nm_m127, nm_m2, nm_nz, nm_nzk, nm_eq32, nm_nzf, if_true, if_false, ↓reduceIte, if_pos, if_neg]
  · simp (disch := (first | assumption | decide | omega)) only [bV, eq_self, Nat.reduceEqDiff, Nat.reduceLeDiff, no_1, no_1024, pk_mul, nI_add, nm_ck, nI_clamp, nI_ltI, nI_leI, nI_eq, nb_b2, nb_b1, ↓nb_let, nm_z0, nm_z1, nb_II, nb_IR, nb_RI, nb_RR, nm_IL, nm_IQ, nm_RL, nm_RQ, nm_LI, nm_LR, nm_LL, nm_LQ, nm_QI, nm_QR, nm_QL, nm_QQ, nm_rr, nm_ii, nm_eqm, not_false_eq_true, pk_sub, nm_div, nm_shl, nm_shr, nm_ush, nm_or8, nm_or64, nm_or256, nm_m1, nm_m3, nm_m7, nm_m15, nm_m31, nm_m63, nm_m255, nm_m511, nm_m1023, nm_m2047, nm_m65535, Nat.reduceMod, Nat.reducePow, Nat.reduceAdd, Nat.reduceSub, Nat.reduceMul, nm_bo, nm_bi, nm_rc, nm_ic, nm_ri, nm_rl, nm_rq, nm_ql, nm_qi, nm_li, nm_us, nm_uu, nm_cp, nm_sa31, nm_sa7, nm_m127, nm_m2, nm_nz, nm_nzk, nm_eq32, nm_nzf, if_true, if_false, ↓reduceIte, if_pos, if_neg] at hv
    injection hv with hv
    subst hv
    simp (disch := (first | assumption | decide | omega)) only [df_X15_both_95, df_X15_both_84, df_X15_both_110, df_X15_both_125, df_X15_both_140, df_X15_both_155, df_X15_both_170, df_X15_both_185, df_X15_both_0, df_X15_both, sh63, eq_self, Nat.reduceEqDiff, Nat.reduceLeDiff, nl_0, nl_1, nl_10, nl_11, nl_12, nl_13, nl_14, nl_15, nl_16, nl_17, nl_18, nl_19, nl_20, nl_21, nl_22, nl_23, nl_24, nl_25, nl_26, nl_63, no_1, no_1024, pk_mul, nI_add, nm_ck, nI_clamp, nI_ltI, nI_leI, nI_eq, nb_b2, nb_b1, ↓nb_let, nm_z0, nm_z1, nb_II, nb_IR, nb_RI, nb_RR, nm_IL, nm_IQ, nm_RL, nm_RQ, nm_LI, nm_LR, nm_LL, nm_LQ, nm_QI, nm_QR, nm_QL, nm_QQ, nm_rr, nm_ii, nm_eqm, not_false_eq_true, pk_sub, nm_div, nm_shl, nm_shr, nm_ush, nm_or8, nm_or64, nm_or256, nm_m1, nm_m3, nm_m7, nm_m15, nm_m31, nm_m63, nm_m255, nm_m511, nm_m1023, nm_m2047, nm_m65535, Nat.reduceMod, Nat.reducePow, Nat.reduceAdd, Nat.reduceSub, Nat.reduceMul, nm_bo, nm_bi, nm_rc, nm_ic, nm_ri, nm_rl, nm_rq, nm_ql, nm_qi, nm_li, nm_us, nm_uu, nm_cp, nm_sa31, nm_sa7, nm_m127, nm_m2, nm_nz, nm_nzk, nm_eq32, nm_nzf, if_true, if_false, ↓reduceIte, if_pos, if_neg]
  · simp (disch := (first | assumption | decide | omega)) only [bV, eq_self, Nat.reduceEqDiff, Nat.reduceLeDiff, no_1, no_1024, pk_mul, nI_add, nm_ck, nI_clamp, nI_ltI, nI_leI, nI_eq, nb_b2, nb_b1, ↓nb_let, nm_z0, nm_z1, nb_II, nb_IR, nb_RI, nb_RR, nm_IL, nm_IQ, nm_RL, nm_RQ, nm_LI, nm_LR, nm_LL, nm_LQ, nm_QI, nm_QR, nm_QL, nm_QQ, nm_rr, nm_ii, nm_eqm, not_false_eq_true, pk_sub, nm_div, nm_shl, nm_shr, nm_ush, nm_or8, nm_or64, nm_or256, nm_m1, nm_m3, nm_m7, nm_m15, nm_m31, nm_m63, nm_m255, nm_m511, nm_m1023, nm_m2047, nm_m65535, Nat.reduceMod, Nat.reducePow, Nat.reduceAdd, Nat.reduceSub, Nat.reduceMul, nm_bo, nm_bi, nm_rc, nm_ic, nm_ri, nm_rl, nm_rq, nm_ql, nm_qi, nm_li, nm_us, nm_uu, nm_cp, nm_sa31, nm_sa7, nm_m127, nm_m2, nm_nz, nm_nzk, nm_eq32, nm_nzf, if_true, if_false, ↓reduceIte, if_pos, if_neg] at hv
    injection hv with hv
    subst hv
    simp (disch := (first | assumption | decide | omega)) only [df_X15_both_95, df_X15_both_84, df_X15_both_110, df_X15_both_125, df_X15_both_140, df_X15_both_155, df_X15_both_170, df_X15_both_185, df_X15_both_0, df_X15_both, sh63, eq_self, Nat.reduceEqDiff, Nat.reduceLeDiff, nl_0, nl_1, nl_10, nl_11, nl_12, nl_13, nl_14, nl_15, nl_16, nl_17, nl_18, nl_19, nl_20, nl_21, nl_22, nl_23, nl_24, nl_25, nl_26, nl_63, no_1, no_1024, pk_mul, nI_add, nm_ck, nI_clamp, nI_ltI, nI_leI, nI_eq, nb_b2, nb_b1, ↓nb_let, nm_z0, nm_z1, nb_II, nb_IR, nb_RI, nb_RR, nm_IL, nm_IQ, nm_RL, nm_RQ, nm_LI, nm_LR, nm_LL, nm_LQ, nm_QI, nm_QR, nm_QL, nm_QQ, nm_rr, nm_ii, nm_eqm, not_false_eq_true, pk_sub, nm_div, nm_shl, nm_shr, nm_ush, nm_or8, nm_or64, nm_or256, nm_m1, nm_m3, nm_m7, nm_m15, nm_m31, nm_m63, nm_m255, nm_m511, nm_m1023, nm_m2047, nm_m65535, Nat.reduceMod, Nat.reducePow, Nat.reduceAdd, Nat.reduceSub, Nat.reduceMul, nm_bo, nm_bi, nm_rc, nm_ic, nm_ri, nm_rl, nm_rq, nm_ql, nm_qi, nm_li, nm_us, nm_uu, nm_cp, nm_sa31, nm_sa7, nm_m127, nm_m2, nm_nz, nm_nzk, nm_eq32, nm_nzf, if_true, if_false, ↓reduceIte, if_pos, if_neg]
  · simp (disch := (first | assumption | decide | omega)) only [bV, eq_self, Nat.reduceEqDiff, Nat.reduceLeDiff, no_1, no_1024, pk_mul, nI_add, nm_ck, nI_clamp, nI_ltI, nI_leI, nI_eq, nb_b2, nb_b1, ↓nb_let, nm_z0, nm_z1, nb_II, nb_IR, nb_RI, nb_RR, nm_IL, nm_IQ, nm_RL, nm_RQ, nm_LI, nm_LR, nm_LL, nm_LQ, nm_QI, nm_QR, nm_QL, nm_QQ, nm_rr, nm_ii, nm_eqm, not_false_eq_true, pk_sub, nm_div, nm_shl, nm_shr, nm_ush, nm_or8, nm_or64, nm_or256, nm_m1, nm_m3, nm_m7, nm_m15, nm_m31, nm_m63, nm_m255, nm_m511, nm_m1023, nm_m2047, nm_m65535, Nat.reduceMod, Nat.reducePow, Nat.reduceAdd, Nat.reduceSub, Nat.reduceMul, nm_bo, nm_bi, nm_rc, nm_ic, nm_ri, nm_rl, nm_rq, nm_ql, nm_qi, nm_li, nm_us, nm_uu, nm_cp, nm_sa31, nm_sa7, nm_m127, nm_m2, nm_nz, nm_nzk, nm_eq32, nm_nzf, if_true, if_false, ↓reduceIte, if_pos, if_neg] at hv
    injection hv with hv
    subst hv
    simp (disch := (first | assumption | decide | omega)) only [df_X15_both_95, df_X15_both_84, df_X15_both_110, df_X15_both_125, df_X15_both_140, df_X15_both_155, df_X15_both_170, df_X15_both_185, df_X15_both_0, df_X15_both, sh63, eq_self, Nat.reduceEqDiff, Nat.reduceLeDiff, nl_0, nl_1, nl_10, nl_11, nl_12, nl_13, nl_14, nl_15, nl_16, nl_17, nl_18, nl_19, nl_20, nl_21, nl_22, nl_23, nl_24, nl_25, nl_26, nl_63, no_1, no_1024, pk_mul, nI_add, nm_ck, nI_clamp, nI_ltI, nI_leI, nI_eq, nb_b2, nb_b1, ↓nb_let, nm_z0, nm_z1, nb_II, nb_IR, nb_RI, nb_RR, nm_IL, nm_IQ, nm_RL, nm_RQ, nm_LI, nm_LR, nm_LL, nm_LQ, nm_QI, nm_QR, nm_QL, nm_QQ, nm_rr, nm_ii, nm_eqm, not_false_eq_true, pk_sub, nm_div, nm_shl, nm_shr, nm_ush, nm_or8, nm_or64, nm_or256, nm_m1, nm_m3, nm_m7, nm_m15, nm_m31, nm_m63, nm_m255, nm_m511, nm_m1023, nm_m2047, nm_m65535, Nat.reduceMod, Nat.reducePow, Nat.reduceAdd, Nat.reduceSub, Nat.reduceMul, nm_bo, nm_bi, nm_rc, nm_ic, nm_ri, nm_rl, nm_rq, nm_ql, nm_qi, nm_li, nm_us, nm_uu, nm_cp, nm_sa31, nm_sa7, nm_m127, nm_m2, nm_nz, nm_nzk, nm_eq32, nm_nzf, if_true, if_false, ↓reduceIte, if_pos, if_neg]
  · simp (disch := (first | assumption | decide | omega)) only [bV, eq_self, Nat.reduceEqDiff, Nat.reduceLeDiff, no_1, no_1024, pk_mul, nI_add, nm_ck, nI_clamp, nI_ltI, nI_leI, nI_eq, nb_b2, nb_b1, ↓nb_let, nm_z0, nm_z1, nb_II, nb_IR, nb_RI, nb_RR, nm_IL, nm_IQ, nm_RL, nm_RQ, nm_LI, nm_LR, nm_LL, nm_LQ, nm_QI, nm_QR, nm_QL, nm_QQ, nm_rr, nm_ii, nm_eqm, not_false_eq_true, pk_sub, nm_div, nm_shl, nm_shr, nm_ush, nm_or8, nm_or64, nm_or256, nm_m1, nm_m3, nm_m7, nm_m15, nm_m31, nm_m63, nm_m255, nm_m511, nm_m1023, nm_m2047, nm_m65535, Nat.reduceMod, Nat.reducePow, Nat.reduceAdd, Nat.reduceSub, Nat.reduceMul, nm_bo, nm_bi, nm_rc, nm_ic, nm_ri, nm_rl, nm_rq, nm_ql, nm_qi, nm_li, nm_us, nm_uu, nm_cp, nm_sa31, nm_sa7, nm_m127, nm_m2, nm_nz, nm_nzk, nm_eq32, nm_nzf, if_true, if_false, ↓reduceIte, if_pos, if_neg] at hv
    injection hv with hv
    subst hv
    simp (disch := (first | assumption | decide | omega)) only [df_X15_both_95, df_X15_both_84, df_X15_both_110, df_X15_both_125, df_X15_both_140, df_X15_both_155, df_X15_both_170, df_X15_both_185, df_X15_both_0, df_X15_both, sh63, eq_self, Nat.reduceEqDiff, Nat.reduceLeDiff, nl_0, nl_1, nl_10, nl_11, nl_12, nl_13, nl_14, nl_15, nl_16, nl_17, nl_18, nl_19, nl_20, nl_21, nl_22, nl_23, nl_24, nl_25, nl_26, nl_63, no_1, no_1024, pk_mul, nI_add, nm_ck, nI_clamp, nI_ltI, nI_leI, nI_eq, nb_b2, nb_b1, ↓nb_let, nm_z0, nm_z1, nb_II, nb_IR, nb_RI, nb_RR, nm_IL, nm_IQ, nm_RL, nm_RQ, nm_LI, nm_LR, nm_LL, nm_LQ, nm_QI, nm_QR, nm_QL, nm_QQ, nm_rr, nm_ii, nm_eqm, not_false_eq_true, pk_sub, nm_div, nm_shl, nm_shr, nm_ush, nm_or8, nm_or64, nm_or256, nm_m1, nm_m3, nm_m7, nm_m15, nm_m31, nm_m63, nm_m255, nm_m511, nm_m1023, nm_m2047, nm_m65535, Nat.reduceMod, Nat.reducePow, Nat.reduceAdd, Nat.reduceSub, Nat.reduceMul, nm_bo, nm_bi, nm_rc, nm_ic, nm_ri, nm_rl, nm_rq, nm_ql, nm_qi, nm_li, nm_us, nm_uu, nm_cp, nm_sa31, nm_sa7, nm_m127, nm_m2, nm_nz, nm_nzk, nm_eq32, nm_nzf, if_true, if_false, ↓reduceIte, if_pos, if_neg]
  · simp (disch := (first | assumption | decide | omega)) only [bV, eq_self, Nat.reduceEqDiff, Nat.reduceLeDiff, no_1, no_1024, pk_mul, nI_add, nm_ck, nI_clamp, nI_ltI, nI_leI, nI_eq, nb_b2, nb_b1, ↓nb_let, nm_z0, nm_z1, nb_II, nb_IR, nb_RI, nb_RR, nm_IL, nm_IQ, nm_RL, nm_RQ, nm_LI, nm_LR, nm_LL, nm_LQ, nm_QI, nm_QR, nm_QL, nm_QQ, nm_rr, nm_ii, nm_eqm, not_false_eq_true, pk_sub, nm_div, nm_shl, nm_shr, nm_ush, nm_or8, nm_or64, nm_or256, nm_m1, nm_m3, nm_m7, nm_m15, nm_m31, nm_m63, nm_m255, nm_m511, nm_m1023, nm_m2047, nm_m65535, Nat.reduceMod, Nat.reducePow, Nat.reduceAdd, Nat.reduceSub, Nat.reduceMul, nm_bo, nm_bi, nm_rc, nm_ic, nm_ri, nm_rl, nm_rq, nm_ql, nm_qi, nm_li, nm_us, nm_uu, nm_cp, nm_sa31, nm_sa7, nm_m127, nm_m2, nm_nz, nm_nzk, nm_eq32, nm_nzf, if_true, if_false, ↓reduceIte, if_pos, if_neg] at hv
    injection hv with hv
    subst hv
    simp (disch := (first | assumption | decide | omega)) only [df_X15_both_95, df_X15_both_84, df_X15_both_110, df_X15_both_125, df_X15_both_140, df_X15_both_155, df_X15_both_170, df_X15_both_185, df_X15_both_0, df_X15_both, sh63, eq_self, Nat.reduceEqDiff, Nat.reduceLeDiff, nl_0, nl_1, nl_10, nl_11, nl_12, nl_13, nl_14, nl_15, nl_16, nl_17, nl_18, nl_19, nl_20, nl_21, nl_22, nl_23, nl_24, nl_25, nl_26, nl_63, no_1, no_1024, pk_mul, nI_add, nm_ck, nI_clamp, nI_ltI, nI_leI, nI_eq, nb_b2, nb_b1, ↓nb_let, nm_z0, nm_z1, nb_II, nb_IR, nb_RI, nb_RR, nm_IL, nm_IQ, nm_RL, nm_RQ, nm_LI, nm_LR, nm_LL, nm_LQ, nm_QI, nm_QR, nm_QL, nm_QQ, nm_rr, nm_ii, nm_eqm, not_false_eq_true, pk_sub, nm_div, nm_shl, nm_shr, nm_ush, nm_or8, nm_or64, nm_or256, nm_m1, nm_m3, nm_m7, nm_m15, nm_m31, nm_m63, nm_m255, nm_m511, nm_m1023, nm_m2047, nm_m65535, Nat.reduceMod, Nat.reducePow, Nat.reduceAdd, Nat.reduceSub, Nat.reduceMul, nm_bo, nm_bi, nm_rc, nm_ic, nm_ri, nm_rl, nm_rq, nm_ql, nm_qi, nm_li, nm_us, nm_uu, nm_cp, nm_sa31, nm_sa7, nm_m127, nm_m2, nm_nz, nm_nzk, nm_eq32, nm_nzf, if_true, if_false, ↓reduceIte, if_pos, if_neg]
  · simp (disch := (first | assumption | decide | omega)) only [bV, eq_self, Nat.reduceEqDiff, Nat.reduceLeDiff, no_1, no_1024, pk_mul, nI_add, nm_ck, nI_clamp, nI_ltI, nI_leI, nI_eq, nb_b2, nb_b1, ↓nb_let, nm_z0, nm_z1, nb_II, nb_IR, nb_RI, nb_RR, nm_IL, nm_IQ, nm_RL, nm_RQ, nm_LI, nm_LR, nm_LL, nm_LQ, nm_QI, nm_QR, nm_QL, nm_QQ, nm_rr, nm_ii, nm_eqm, not_false_eq_true, pk_sub, nm_div, nm_shl, nm_shr, nm_ush, nm_or8, nm_or64, nm_or256, nm_m1, nm_m3, nm_m7, nm_m15, nm_m31, nm_m63, nm_m255, nm_m511, nm_m1023, nm_m2047, nm_m65535, Nat.reduceMod, Nat.reducePow, Nat.reduceAdd, Nat.reduceSub, Nat.reduceMul, nm_bo, nm_bi, nm_rc, nm_ic, nm_ri, nm_rl, nm_rq, nm_ql, nm_qi, nm_li, nm_us, nm_uu, nm_cp, nm_sa31, nm_sa7, nm_m127, nm_m2, nm_nz, nm_nzk, nm_eq32, nm_nzf, if_true, if_false, ↓reduceIte, if_pos, if_neg] at hv
    by_cases c : b = 0
    · rw [if_pos c] at hv
      exact nomatch hv
    · rw [if_neg c] at hv
      injection hv with hv
      subst hv
      simp (disch := (first | assumption | decide | omega)) only [df_X15_both_95, df_X15_both_84, df_X15_both_110, df_X15_both_125, df_X15_both_140, df_X15_both_155, df_X15_both_170, df_X15_both_185, df_X15_both_0, df_X15_both, nz64 c, eq_self, Nat.reduceEqDiff, Nat.reduceLeDiff, nl_0, nl_1, nl_10, nl_11, nl_12, nl_13, nl_14, nl_15, nl_16, nl_17, nl_18, nl_19, nl_20, nl_21, nl_22, nl_23, nl_24, nl_25, nl_26, nl_63, no_1, no_1024, pk_mul, nI_add, nm_ck, nI_clamp, nI_ltI, nI_leI, nI_eq, nb_b2, nb_b1, ↓nb_let, nm_z0, nm_z1, nb_II, nb_IR, nb_RI, nb_RR, nm_IL, nm_IQ, nm_RL, nm_RQ, nm_LI, nm_LR, nm_LL, nm_LQ, nm_QI, nm_QR, nm_QL, nm_QQ, nm_rr, nm_ii, nm_eqm, not_false_eq_true, pk_sub, nm_div, nm_shl, nm_shr, nm_ush, nm_or8, nm_or64, nm_or256, nm_m1, nm_m3, nm_m7, nm_m15, nm_m31, nm_m63, nm_m255, nm_m511, nm_m1023, nm_m2047, nm_m65535, Nat.reduceMod, Nat.reducePow, Nat.reduceAdd, Nat.reduceSub, Nat.reduceMul, nm_bo, nm_bi, nm_rc, nm_ic, nm_ri, nm_rl, nm_rq, nm_ql, nm_qi, nm_li, nm_us, nm_uu, nm_cp, nm_sa31, nm_sa7, nm_m127, nm_m2, nm_nz, nm_nzk, nm_eq32, nm_nzf, if_true, if_false, ↓reduceIte, if_pos, if_neg]
  · simp (disch := (first | assumption | decide | omega)) only [bV, eq_self, Nat.reduceEqDiff, Nat.reduceLeDiff, no_1, no_1024, pk_mul, nI_add, nm_ck, nI_clamp, nI_ltI, nI_leI, nI_eq, nb_b2, nb_b1, ↓nb_let, nm_z0, nm_z1, nb_II, nb_IR, nb_RI, nb_RR, nm_IL, nm_IQ, nm_RL, nm_RQ, nm_LI, nm_LR, nm_LL, nm_LQ, nm_QI, nm_QR, nm_QL, nm_QQ, nm_rr, nm_ii, nm_eqm, not_false_eq_true, pk_sub, nm_div, nm_shl, nm_shr, nm_ush, nm_or8, nm_or64, nm_or256, nm_m1, nm_m3, nm_m7, nm_m15, nm_m31, nm_m63, nm_m255, nm_m511, nm_m1023, nm_m2047, nm_m65535, Nat.reduceMod, Nat.reducePow, Nat.reduceAdd, Nat.reduceSub, Nat.reduceMul, nm_bo, nm_bi, nm_rc, nm_ic, nm_ri, nm_rl, nm_rq, nm_ql, nm_qi, nm_li, nm_us, nm_uu, nm_cp, nm_sa31, nm_sa7, nm_m127, nm_m2, nm_nz, nm_nzk, nm_eq32, nm_nzf, if_true, if_false, ↓reduceIte, if_pos, if_neg] at hv
    by_cases c : b = 0
    · rw [if_pos c] at hv
      exact nomatch hv
    · rw [if_neg c] at hv
      injection hv with hv
      subst hv
      simp (disch := (first | assumption | decide | omega)) only [df_X15_both_95, df_X15_both_84, df_X15_both_110, df_X15_both_125, df_X15_both_140, df_X15_both_155, df_X15_both_170, df_X15_both_185, df_X15_both_0, df_X15_both, nz64 c, eq_self, Nat.reduceEqDiff, Nat.reduceLeDiff, nl_0, nl_1, nl_10, nl_11, nl_12, nl_13, nl_14, nl_15, nl_16, nl_17, nl_18, nl_19, nl_20, nl_21, nl_22, nl_23, nl_24, nl_25, nl_26, nl_63, no_1, no_1024, pk_mul, nI_add, nm_ck, nI_clamp, nI_ltI, nI_leI, nI_eq, nb_b2, nb_b1, ↓nb_let, nm_z0, nm_z1, nb_II, nb_IR, nb_RI, nb_RR, nm_IL, nm_IQ, nm_RL, nm_RQ, nm_LI, nm_LR, nm_LL, nm_LQ, nm_QI, nm_QR, nm_QL, nm_QQ, nm_rr, nm_ii, nm_eqm, not_false_eq_true, pk_sub, nm_div, nm_shl, nm_shr, nm_ush, nm_or8, nm_or64, nm_or256, nm_m1, nm_m3, nm_m7, nm_m15, nm_m31, nm_m63, nm_m255, nm_m511, nm_m1023, nm_m2047, nm_m65535, Nat.reduceMod, Nat.reducePow, Nat.reduceAdd, Nat.reduceSub, Nat.reduceMul, nm_bo, nm_bi, nm_rc, nm_ic, nm_ri, nm_rl, nm_rq, nm_ql, nm_qi, nm_li, nm_us, nm_uu, nm_cp, nm_sa31, nm_sa7, nm_m127, nm_m2, nm_nz, nm_nzk, nm_eq32, nm_nzf, if_true, if_false, ↓reduceIte, if_pos, if_neg]
theorem bo_g (n o : Nat) (ho : o = 1 ∨ o = 2) (a b : Int64) : df_X15_both n (nI (o + 9)) a b () = some (tV b, ()) := by
  have t0 : df_X15_truth n (nI 0) () = some (0, ()) := tr_R n false
  have t1 : df_X15_truth n (nI 1) () = some (1, ()) := tr_R n true
  unfold tV
  rcases ho with rfl | rfl
  · by_cases c : b = 0
    · rw [if_pos c]
      simp (disch := (first | assumption | decide | omega)) only [df_X15_both_95, df_X15_both_84, df_X15_both_110, df_X15_both_125, df_X15_both_140, df_X15_both_155, df_X15_both_170, df_X15_both_185, df_X15_both_0, df_X15_both, lc_eq, c, t0, t1, eq_self, Nat.reduceEqDiff, Nat.reduceLeDiff, nl_0, nl_1, nl_10, nl_11, nl_12, nl_13, nl_14, nl_15, nl_16, nl_17, nl_18, nl_19, nl_20, nl_21, nl_22, nl_23, nl_24, nl_25, nl_26, nl_63, no_1, no_1024, pk_mul, nI_add, nm_ck, nI_clamp, nI_ltI, nI_leI, nI_eq, nb_b2, nb_b1, ↓nb_let, nm_z0, nm_z1, nb_II, nb_IR, nb_RI, nb_RR, nm_IL, nm_IQ, nm_RL, nm_RQ, nm_LI, nm_LR, nm_LL, nm_LQ, nm_QI, nm_QR, nm_QL, nm_QQ, nm_rr, nm_ii, nm_eqm, not_false_eq_true, pk_sub, nm_div, nm_shl, nm_shr, nm_ush, nm_or8, nm_or64, nm_or256, nm_m1, nm_m3, nm_m7, nm_m15, nm_m31, nm_m63, nm_m255, nm_m511, nm_m1023, nm_m2047, nm_m65535, Nat.reduceMod, Nat.reducePow, Nat.reduceAdd, Nat.reduceSub, Nat.reduceMul, nm_bo, nm_bi, nm_rc, nm_ic, nm_ri, nm_rl, nm_rq, nm_ql, nm_qi, nm_li, nm_us, nm_uu, nm_cp, nm_sa31, nm_sa7, nm_m127, nm_m2, nm_nz, nm_nzk, nm_eq32, nm_nzf, if_true, if_false, ↓reduceIte, if_pos, if_neg]
    · rw [if_neg c]
      simp (disch := (first | assumption | decide | omega)) only [df_X15_both_95, df_X15_both_84, df_X15_both_110, df_X15_both_125, df_X15_both_140, df_X15_both_155, df_X15_both_170, df_X15_both_185, df_X15_both_0, df_X15_both, lc_eq, c, t0, t1, eq_self, Nat.reduceEqDiff, Nat.reduceLeDiff, nl_0, nl_1, nl_10, nl_11, nl_12, nl_13, nl_14, nl_15, nl_16, nl_17, nl_18, nl_19, nl_20, nl_21, nl_22, nl_23, nl_24, nl_25, nl_26, nl_63, no_1, no_1024, pk_mul, nI_add, nm_ck, nI_clamp, nI_ltI, nI_leI, nI_eq, nb_b2, nb_b1, ↓nb_let, nm_z0, nm_z1, nb_II, nb_IR, nb_RI, nb_RR, nm_IL, nm_IQ, nm_RL, nm_RQ, nm_LI, nm_LR, nm_LL, nm_LQ, nm_QI, nm_QR, nm_QL, nm_QQ, nm_rr, nm_ii, nm_eqm, not_false_eq_true, pk_sub, nm_div, nm_shl, nm_shr, nm_ush, nm_or8, nm_or64, nm_or256, nm_m1, nm_m3, nm_m7, nm_m15, nm_m31, nm_m63, nm_m255, nm_m511, nm_m1023, nm_m2047, nm_m65535, Nat.reduceMod, Nat.reducePow, Nat.reduceAdd, Nat.reduceSub, Nat.reduceMul, nm_bo, nm_bi, nm_rc, nm_ic, nm_ri, nm_rl, nm_rq, nm_ql, nm_qi, nm_li, nm_us, nm_uu, nm_cp, nm_sa31, nm_sa7, nm_m127, nm_m2, nm_nz, nm_nzk, nm_eq32, nm_nzf, if_true, if_false, ↓reduceIte, if_pos, if_neg]
  · by_cases c : b = 0
    · rw [if_pos c]
      simp (disch := (first | assumption | decide | omega)) only [df_X15_both_95, df_X15_both_84, df_X15_both_110, df_X15_both_125, df_X15_both_140, df_X15_both_155, df_X15_both_170, df_X15_both_185, df_X15_both_0, df_X15_both, lc_eq, c, t0, t1, eq_self, Nat.reduceEqDiff, Nat.reduceLeDiff, nl_0, nl_1, nl_10, nl_11, nl_12, nl_13, nl_14, nl_15, nl_16, nl_17, nl_18, nl_19, nl_20, nl_21, nl_22, nl_23, nl_24, nl_25, nl_26, nl_63, no_1, no_1024, pk_mul, nI_add, nm_ck, nI_clamp, nI_ltI, nI_leI, nI_eq, nb_b2, nb_b1, ↓nb_let, nm_z0, nm_z1, nb_II, nb_IR, nb_RI, nb_RR, nm_IL, nm_IQ, nm_RL, nm_RQ, nm_LI, nm_LR, nm_LL, nm_LQ, nm_QI, nm_QR, nm_QL, nm_QQ, nm_rr, nm_ii, nm_eqm, not_false_eq_true, pk_sub, nm_div, nm_shl, nm_shr, nm_ush, nm_or8, nm_or64, nm_or256, nm_m1, nm_m3, nm_m7, nm_m15, nm_m31, nm_m63, nm_m255, nm_m511, nm_m1023, nm_m2047, nm_m65535, Nat.reduceMod, Nat.reducePow, Nat.reduceAdd, Nat.reduceSub, Nat.reduceMul, nm_bo, nm_bi, nm_rc, nm_ic, nm_ri, nm_rl, nm_rq, nm_ql, nm_qi, nm_li, nm_us, nm_uu, nm_cp, nm_sa31, nm_sa7, nm_m127, nm_m2, nm_nz, nm_nzk, nm_eq32, nm_nzf, if_true, if_false, ↓reduceIte, if_pos, if_neg]
    · rw [if_neg c]
      simp (disch := (first | assumption | decide | omega)) only [df_X15_both_95, df_X15_both_84, df_X15_both_110, df_X15_both_125, df_X15_both_140, df_X15_both_155, df_X15_both_170, df_X15_both_185, df_X15_both_0, df_X15_both, lc_eq, c, t0, t1, eq_self, Nat.reduceEqDiff, Nat.reduceLeDiff, nl_0, nl_1, nl_10, nl_11, nl_12, nl_13, nl_14, nl_15, nl_16, nl_17, nl_18, nl_19, nl_20, nl_21, nl_22, nl_23, nl_24, nl_25, nl_26, nl_63, no_1, no_1024, pk_mul, nI_add, nm_ck, nI_clamp, nI_ltI, nI_leI, nI_eq, nb_b2, nb_b1, ↓nb_let, nm_z0, nm_z1, nb_II, nb_IR, nb_RI, nb_RR, nm_IL, nm_IQ, nm_RL, nm_RQ, nm_LI, nm_LR, nm_LL, nm_LQ, nm_QI, nm_QR, nm_QL, nm_QQ, nm_rr, nm_ii, nm_eqm, not_false_eq_true, pk_sub, nm_div, nm_shl, nm_shr, nm_ush, nm_or8, nm_or64, nm_or256, nm_m1, nm_m3, nm_m7, nm_m15, nm_m31, nm_m63, nm_m255, nm_m511, nm_m1023, nm_m2047, nm_m65535, Nat.reduceMod, Nat.reducePow, Nat.reduceAdd, Nat.reduceSub, Nat.reduceMul, nm_bo, nm_bi, nm_rc, nm_ic, nm_ri, nm_rl, nm_rq, nm_ql, nm_qi, nm_li, nm_us, nm_uu, nm_cp, nm_sa31, nm_sa7, nm_m127, nm_m2, nm_nz, nm_nzk, nm_eq32, nm_nzf, if_true, if_false, ↓reduceIte, if_pos, if_neg]

theorem uP_h {o r : Nat} {fo : Option (Nat × Nat)} (h : 19 ≤ o) : uP o r fo = fo := if_pos h
theorem uP_n {o r : Nat} (h : o ≤ 18) : uP o r none = some (r, o) := by
  unfold uP
  rw [if_neg (by omega)]
theorem uP_a {o r : Nat} {q : Nat × Nat} (h : o ≤ 18) (c : rk o ≤ rk q.2) : uP o r (some q) = some (r, o) := by
  unfold uP
  rw [if_neg (by omega)]
  exact if_pos c
theorem uP_b {o r : Nat} {q : Nat × Nat} (c : 19 ≤ o ∨ ¬ rk o ≤ rk q.2) : uP o r (some q) = some q := by
  unfold uP
  by_cases h : 19 ≤ o
  · rw [if_pos h]
  · rw [if_neg h]
    exact if_neg (by omega)
theorem uP_3 {o r oa ra ob rb : Nat} {fo : Option (Nat × Nat)} (h : o ≤ 18) (hA : 19 ≤ oa ∨ rk o ≤ rk oa) (hB : 19 ≤ ob ∨ rk o < rk ob) : uP ob rb (uP o r (uP oa ra fo)) = uP o r fo := by
  have k : ∀ q : Nat × Nat, uP ob rb (uP o r (some q)) = uP o r (some q) := fun q => by
    by_cases c : rk o ≤ rk q.2
    · rw [uP_a h c]
      exact uP_b (by rcases hB with z | z; exact Or.inl z; exact Or.inr (by show ¬ rk ob ≤ rk o; omega))
    · rw [uP_b (Or.inr c)]
      exact uP_b (by rcases hB with z | z; exact Or.inl z; exact Or.inr (by omega))
  cases fo with
  | none =>
    by_cases a : 19 ≤ oa
    · rw [uP_h a, uP_n h]
      exact uP_b (by rcases hB with z | z; exact Or.inl z; exact Or.inr (by show ¬ rk ob ≤ rk o; omega))
    · rw [uP_n (by omega), k, uP_a h (by show rk o ≤ rk oa; omega), uP_n h]
  | some q =>
    by_cases a : 19 ≤ oa
    · rw [uP_h a, k]
    · by_cases c : rk oa ≤ rk q.2
      · rw [uP_a (by omega) c, k, uP_a h (by show rk o ≤ rk oa; omega), uP_a h (by omega)]
      · rw [uP_b (Or.inr c), k]
/-- what the reference's machine answers where a condition asks -/
def eR (n : Nat) (X : St × St) (E : Evn) : Prop := (∀ r : Nat, r ≤ 32 → ∃ v : Int32, df_X16_value n (nI r) X = some (v, X) ∧ v.toInt64 = E.1 r) ∧ df_X16_count n (nI 2) X = some (E.2.1, X) ∧ (∃ v : Int32, df_X16_now n X = some (v, X) ∧ v.toInt64 = E.2.2.1) ∧ ∀ (o k : Nat) (v : Int64) (Y : St), (o = 25 ∧ k = 32 ∨ o = 26 ∧ k = 7 ∨ o = 27 ∧ k = 6) → df_X15_access n (nI k) v (Y, X) = match E.2.2.2 o v with | some x => df_X15_give n x (Y, X) | none => df_X15_fail n (Y, X)
def fln (Y : St) : St := pI (pI (pL Y 1 0) 7 (nI 0)) 8 (nI 1)
theorem fl_1 (n : Nat) {Y : St} {X : St × St} : df_X15_fail n (Y, X) = some (fln Y, X) := by
  simp (disch := (first | assumption | decide | omega)) only [df_X15_fail_0, df_X15_fail, eq_self, Nat.reduceEqDiff, Nat.reduceLeDiff, nl_0, nl_1, nl_7, nl_8, no_1, no_1024, pk_mul, nI_add, nm_ck, nI_clamp, nI_ltI, nI_leI, nI_eq, nb_b2, nb_b1, ↓nb_let, nm_z0, nm_z1, nb_II, nb_IR, nb_RI, nb_RR, nm_IL, nm_IQ, nm_RL, nm_RQ, nm_LI, nm_LR, nm_LL, nm_LQ, nm_QI, nm_QR, nm_QL, nm_QQ, nm_rr, nm_ii, nm_eqm, not_false_eq_true, pk_sub, nm_div, nm_shl, nm_shr, nm_ush, nm_or8, nm_or64, nm_or256, nm_m1, nm_m3, nm_m7, nm_m15, nm_m31, nm_m63, nm_m255, nm_m511, nm_m1023, nm_m2047, nm_m65535, Nat.reduceMod, Nat.reducePow, Nat.reduceAdd, Nat.reduceSub, Nat.reduceMul, nm_bo, nm_bi, nm_rc, nm_ic, nm_ri, nm_rl, nm_rq, nm_ql, nm_qi, nm_li, nm_us, nm_uu, nm_cp, nm_sa31, nm_sa7, nm_m127, nm_m2, nm_nz, nm_nzk, nm_eq32, nm_nzf, if_true, if_false, ↓reduceIte, if_pos, if_neg]
  rfl
theorem fln_E (Y : St) : yE 0 Y (fln Y) := ⟨yFr_m rfl rfl rfl rfl rfl, rfl, fun i hi => by omega⟩
/-- join -/
theorem jo_un (n d a o k : Nat) {Y : St} {X : St × St} (hk : o = 19 ∧ k = 28 ∨ o = 20 ∧ k = 24 ∨ o = 21 ∧ k = 29) (hd : d < 128) (ha : a < 960) (h8 : sR Y 8 d = nI a) (h10 : sR Y 10 d = nI a) (h3 : sR Y 3 a = nI k) (h7 : sI Y 7 = nI (d + 1)) : df_X15_join n (nI d) (Y, X) = some (gvn Y d (uV o (sL Y 1)), X) := by
  have hg : ∀ v : Int64, df_X15_give n v (Y, X) = some (gvn Y d v, X) := fun v => gv_1 n d (by omega) h7
  have t0 : df_X15_truth n (nI 0) () = some (0, ()) := tr_R n false
  have t1 : df_X15_truth n (nI 1) () = some (1, ()) := tr_R n true
  rcases hk with ⟨rfl, rfl⟩ | ⟨rfl, rfl⟩ | ⟨rfl, rfl⟩
  · by_cases c : sL Y 1 = 0
    · simp (disch := (first | assumption | decide | omega)) only [df_X15_join_212, df_X15_join_131, df_X15_join_200, df_X15_join_186, df_X15_join_165, df_X15_join_85, df_X15_join_66, df_X15_join_43, df_X15_join_0, df_X15_join, h8, h10, h3, hg, t0, t1, lc_eq, c, uV, eq_self, Nat.reduceEqDiff, Nat.reduceLeDiff, nl_0, nl_1, nl_3, nl_6, nl_7, nl_8, nl_9, nl_10, nl_24, nl_26, nl_27, nl_28, nl_29, nl_32, nl_130, nl_960, no_1, no_1024, pk_mul, nI_add, nm_ck, nI_clamp, nI_ltI, nI_leI, nI_eq, nb_b2, nb_b1, ↓nb_let, nm_z0, nm_z1, nb_II, nb_IR, nb_RI, nb_RR, nm_IL, nm_IQ, nm_RL, nm_RQ, nm_LI, nm_LR, nm_LL, nm_LQ, nm_QI, nm_QR, nm_QL, nm_QQ, nm_rr, nm_ii, nm_eqm, not_false_eq_true, pk_sub, nm_div, nm_shl, nm_shr, nm_ush, nm_or8, nm_or64, nm_or256, nm_m1, nm_m3, nm_m7, nm_m15, nm_m31, nm_m63, nm_m255, nm_m511, nm_m1023, nm_m2047, nm_m65535, Nat.reduceMod, Nat.reducePow, Nat.reduceAdd, Nat.reduceSub, Nat.reduceMul, nm_bo, nm_bi, nm_rc, nm_ic, nm_ri, nm_rl, nm_rq, nm_ql, nm_qi, nm_li, nm_us, nm_uu, nm_cp, nm_sa31, nm_sa7, nm_m127, nm_m2, nm_nz, nm_nzk, nm_eq32, nm_nzf, if_true, if_false, ↓reduceIte, if_pos, if_neg]
    · simp (disch := (first | assumption | decide | omega)) only [df_X15_join_212, df_X15_join_131, df_X15_join_200, df_X15_join_186, df_X15_join_165, df_X15_join_85, df_X15_join_66, df_X15_join_43, df_X15_join_0, df_X15_join, h8, h10, h3, hg, t0, t1, lc_eq, c, uV, eq_self, Nat.reduceEqDiff, Nat.reduceLeDiff, nl_0, nl_1, nl_3, nl_6, nl_7, nl_8, nl_9, nl_10, nl_24, nl_26, nl_27, nl_28, nl_29, nl_32, nl_130, nl_960, no_1, no_1024, pk_mul, nI_add, nm_ck, nI_clamp, nI_ltI, nI_leI, nI_eq, nb_b2, nb_b1, ↓nb_let, nm_z0, nm_z1, nb_II, nb_IR, nb_RI, nb_RR, nm_IL, nm_IQ, nm_RL, nm_RQ, nm_LI, nm_LR, nm_LL, nm_LQ, nm_QI, nm_QR, nm_QL, nm_QQ, nm_rr, nm_ii, nm_eqm, not_false_eq_true, pk_sub, nm_div, nm_shl, nm_shr, nm_ush, nm_or8, nm_or64, nm_or256, nm_m1, nm_m3, nm_m7, nm_m15, nm_m31, nm_m63, nm_m255, nm_m511, nm_m1023, nm_m2047, nm_m65535, Nat.reduceMod, Nat.reducePow, Nat.reduceAdd, Nat.reduceSub, Nat.reduceMul, nm_bo, nm_bi, nm_rc, nm_ic, nm_ri, nm_rl, nm_rq, nm_ql, nm_qi, nm_li, nm_us, nm_uu, nm_cp, nm_sa31, nm_sa7, nm_m127, nm_m2, nm_nz, nm_nzk, nm_eq32, nm_nzf, if_true, if_false, ↓reduceIte, if_pos, if_neg]
  · simp (disch := (first | assumption | decide | omega)) only [df_X15_join_212, df_X15_join_131, df_X15_join_200, df_X15_join_186, df_X15_join_165, df_X15_join_85, df_X15_join_66, df_X15_join_43, df_X15_join_0, df_X15_join, h8, h10, h3, hg, uV, eq_self, Nat.reduceEqDiff, Nat.reduceLeDiff, nl_0, nl_1, nl_3, nl_6, nl_7, nl_8, nl_9, nl_10, nl_24, nl_26, nl_27, nl_28, nl_29, nl_32, nl_130, nl_960, no_1, no_1024, pk_mul, nI_add, nm_ck, nI_clamp, nI_ltI, nI_leI, nI_eq, nb_b2, nb_b1, ↓nb_let, nm_z0, nm_z1, nb_II, nb_IR, nb_RI, nb_RR, nm_IL, nm_IQ, nm_RL, nm_RQ, nm_LI, nm_LR, nm_LL, nm_LQ, nm_QI, nm_QR, nm_QL, nm_QQ, nm_rr, nm_ii, nm_eqm, not_false_eq_true, pk_sub, nm_div, nm_shl, nm_shr, nm_ush, nm_or8, nm_or64, nm_or256, nm_m1, nm_m3, nm_m7, nm_m15, nm_m31, nm_m63, nm_m255, nm_m511, nm_m1023, nm_m2047, nm_m65535, Nat.reduceMod, Nat.reducePow, Nat.reduceAdd, Nat.reduceSub, Nat.reduceMul, nm_bo, nm_bi, nm_rc, nm_ic, nm_ri, nm_rl, nm_rq, nm_ql, nm_qi, nm_li, nm_us, nm_uu, nm_cp, nm_sa31, nm_sa7, nm_m127, nm_m2, nm_nz, nm_nzk, nm_eq32, nm_nzf, if_true, if_false, ↓reduceIte, if_pos, if_neg]
  · simp (disch := (first | assumption | decide | omega)) only [df_X15_join_212, df_X15_join_131, df_X15_join_200, df_X15_join_186, df_X15_join_165, df_X15_join_85, df_X15_join_66, df_X15_join_43, df_X15_join_0, df_X15_join, h8, h10, h3, hg, uV, eq_self, Nat.reduceEqDiff, Nat.reduceLeDiff, nl_0, nl_1, nl_3, nl_6, nl_7, nl_8, nl_9, nl_10, nl_24, nl_26, nl_27, nl_28, nl_29, nl_32, nl_130, nl_960, no_1, no_1024, pk_mul, nI_add, nm_ck, nI_clamp, nI_ltI, nI_leI, nI_eq, nb_b2, nb_b1, ↓nb_let, nm_z0, nm_z1, nb_II, nb_IR, nb_RI, nb_RR, nm_IL, nm_IQ, nm_RL, nm_RQ, nm_LI, nm_LR, nm_LL, nm_LQ, nm_QI, nm_QR, nm_QL, nm_QQ, nm_rr, nm_ii, nm_eqm, not_false_eq_true, pk_sub, nm_div, nm_shl, nm_shr, nm_ush, nm_or8, nm_or64, nm_or256, nm_m1, nm_m3, nm_m7, nm_m15, nm_m31, nm_m63, nm_m255, nm_m511, nm_m1023, nm_m2047, nm_m65535, Nat.reduceMod, Nat.reducePow, Nat.reduceAdd, Nat.reduceSub, Nat.reduceMul, nm_bo, nm_bi, nm_rc, nm_ic, nm_ri, nm_rl, nm_rq, nm_ql, nm_qi, nm_li, nm_us, nm_uu, nm_cp, nm_sa31, nm_sa7, nm_m127, nm_m2, nm_nz, nm_nzk, nm_eq32, nm_nzf, if_true, if_false, ↓reduceIte, if_pos, if_neg]
theorem jo_mem (n d a b k : Nat) {Y Z : St} {X : St × St} (hk : k = 32 ∨ k = 7 ∨ k = 6) (hd : d < 128) (ha : a < 960) (hb : b < 960) (h8 : sR Y 8 d = nI b) (h10 : sR Y 10 d = nI a) (h3 : sR Y 3 a = nI k) (hx : df_X15_access n (nI k) (sL Y 1) (Y, X) = some (Z, X)) : df_X15_join n (nI d) (Y, X) = some (Z, X) := by
  have kk : ∀ y0 : Int32, y0 = nI 0 ∨ y0 = nI 1 → df_X15_join_43 n (nI a) (nI k) (sQ Y 3 d) (sL Y 1) y0 (Y, X) = some (Z, X) := fun y0 hy => by
    rcases hk with rfl | rfl | rfl
    all_goals (rcases hy with rfl | rfl)
    all_goals simp (disch := (first | assumption | decide | omega)) only [df_X15_join_43, df_X15_join_66, df_X15_join_131, df_X15_join_212, hx, eq_self, Nat.reduceEqDiff, Nat.reduceLeDiff, nl_0, nl_1, nl_6, nl_7, nl_9, nl_24, nl_26, nl_27, nl_28, nl_29, nl_32, nl_960, no_1, no_1024, pk_mul, nI_add, nm_ck, nI_clamp, nI_ltI, nI_leI, nI_eq, nb_b2, nb_b1, ↓nb_let, nm_z0, nm_z1, nb_II, nb_IR, nb_RI, nb_RR, nm_IL, nm_IQ, nm_RL, nm_RQ, nm_LI, nm_LR, nm_LL, nm_LQ, nm_QI, nm_QR, nm_QL, nm_QQ, nm_rr, nm_ii, nm_eqm, not_false_eq_true, pk_sub, nm_div, nm_shl, nm_shr, nm_ush, nm_or8, nm_or64, nm_or256, nm_m1, nm_m3, nm_m7, nm_m15, nm_m31, nm_m63, nm_m255, nm_m511, nm_m1023, nm_m2047, nm_m65535, Nat.reduceMod, Nat.reducePow, Nat.reduceAdd, Nat.reduceSub, Nat.reduceMul, nm_bo, nm_bi, nm_rc, nm_ic, nm_ri, nm_rl, nm_rq, nm_ql, nm_qi, nm_li, nm_us, nm_uu, nm_cp, nm_sa31, nm_sa7, nm_m127, nm_m2, nm_nz, nm_nzk, nm_eq32, nm_nzf, if_true, if_false, ↓reduceIte, if_pos, if_neg]
  by_cases c : a = b
  · subst c
    have q := kk (nI 1) (Or.inr rfl)
    unfold df_X15_join df_X15_join_0
    simp (disch := (first | assumption | decide | omega)) only [h8, h10, h3, q, eq_self, Nat.reduceEqDiff, Nat.reduceLeDiff, nl_0, nl_1, no_1, no_1024, pk_mul, nI_add, nm_ck, nI_clamp, nI_ltI, nI_leI, nI_eq, nb_b2, nb_b1, ↓nb_let, nm_z0, nm_z1, nb_II, nb_IR, nb_RI, nb_RR, nm_IL, nm_IQ, nm_RL, nm_RQ, nm_LI, nm_LR, nm_LL, nm_LQ, nm_QI, nm_QR, nm_QL, nm_QQ, nm_rr, nm_ii, nm_eqm, not_false_eq_true, pk_sub, nm_div, nm_shl, nm_shr, nm_ush, nm_or8, nm_or64, nm_or256, nm_m1, nm_m3, nm_m7, nm_m15, nm_m31, nm_m63, nm_m255, nm_m511, nm_m1023, nm_m2047, nm_m65535, Nat.reduceMod, Nat.reducePow, Nat.reduceAdd, Nat.reduceSub, Nat.reduceMul, nm_bo, nm_bi, nm_rc, nm_ic, nm_ri, nm_rl, nm_rq, nm_ql, nm_qi, nm_li, nm_us, nm_uu, nm_cp, nm_sa31, nm_sa7, nm_m127, nm_m2, nm_nz, nm_nzk, nm_eq32, nm_nzf, if_true, if_false, ↓reduceIte, if_pos, if_neg]
  · have q := kk (nI 0) (Or.inl rfl)
    unfold df_X15_join df_X15_join_0
    simp (disch := (first | assumption | decide | omega)) only [h8, h10, h3, q, eq_self, Nat.reduceEqDiff, Nat.reduceLeDiff, nl_0, nl_1, no_1, no_1024, pk_mul, nI_add, nm_ck, nI_clamp, nI_ltI, nI_leI, nI_eq, nb_b2, nb_b1, ↓nb_let, nm_z0, nm_z1, nb_II, nb_IR, nb_RI, nb_RR, nm_IL, nm_IQ, nm_RL, nm_RQ, nm_LI, nm_LR, nm_LL, nm_LQ, nm_QI, nm_QR, nm_QL, nm_QQ, nm_rr, nm_ii, nm_eqm, not_false_eq_true, pk_sub, nm_div, nm_shl, nm_shr, nm_ush, nm_or8, nm_or64, nm_or256, nm_m1, nm_m3, nm_m7, nm_m15, nm_m31, nm_m63, nm_m255, nm_m511, nm_m1023, nm_m2047, nm_m65535, Nat.reduceMod, Nat.reducePow, Nat.reduceAdd, Nat.reduceSub, Nat.reduceMul, nm_bo, nm_bi, nm_rc, nm_ic, nm_ri, nm_rl, nm_rq, nm_ql, nm_qi, nm_li, nm_us, nm_uu, nm_cp, nm_sa31, nm_sa7, nm_m127, nm_m2, nm_nz, nm_nzk, nm_eq32, nm_nzf, if_true, if_false, ↓reduceIte, if_pos, if_neg]
theorem jo_chg (n d a : Nat) {Y : St} {X : St × St} (hd : d < 128) (ha : a < 960) (h8 : sR Y 8 d = nI a) (h10 : sR Y 10 d = nI a) (h3 : sR Y 3 a = nI 9) (h7 : sI Y 7 = nI (d + 1)) : df_X15_join n (nI d) (Y, X) = some (gvn Y d (if sL Y 1 = sQ Y 1 a then 0 else 1), X) := by
  have hg : ∀ v : Int64, df_X15_give n v (Y, X) = some (gvn Y d v, X) := fun v => gv_1 n d (by omega) h7
  have t0 : df_X15_truth n (nI 0) () = some (0, ()) := tr_R n false
  have t1 : df_X15_truth n (nI 1) () = some (1, ()) := tr_R n true
  by_cases c : sL Y 1 = sQ Y 1 a
  · rw [if_pos c]
    simp (disch := (first | assumption | decide | omega)) only [df_X15_join_212, df_X15_join_131, df_X15_join_200, df_X15_join_186, df_X15_join_165, df_X15_join_85, df_X15_join_66, df_X15_join_43, df_X15_join_0, df_X15_join, h8, h10, h3, hg, t0, t1, lc_eq, c, eq_self, Nat.reduceEqDiff, Nat.reduceLeDiff, nl_0, nl_1, nl_3, nl_6, nl_7, nl_8, nl_9, nl_10, nl_24, nl_26, nl_27, nl_28, nl_29, nl_32, nl_130, nl_960, no_1, no_1024, pk_mul, nI_add, nm_ck, nI_clamp, nI_ltI, nI_leI, nI_eq, nb_b2, nb_b1, ↓nb_let, nm_z0, nm_z1, nb_II, nb_IR, nb_RI, nb_RR, nm_IL, nm_IQ, nm_RL, nm_RQ, nm_LI, nm_LR, nm_LL, nm_LQ, nm_QI, nm_QR, nm_QL, nm_QQ, nm_rr, nm_ii, nm_eqm, not_false_eq_true, pk_sub, nm_div, nm_shl, nm_shr, nm_ush, nm_or8, nm_or64, nm_or256, nm_m1, nm_m3, nm_m7, nm_m15, nm_m31, nm_m63, nm_m255, nm_m511, nm_m1023, nm_m2047, nm_m65535, Nat.reduceMod, Nat.reducePow, Nat.reduceAdd, Nat.reduceSub, Nat.reduceMul, nm_bo, nm_bi, nm_rc, nm_ic, nm_ri, nm_rl, nm_rq, nm_ql, nm_qi, nm_li, nm_us, nm_uu, nm_cp, nm_sa31, nm_sa7, nm_m127, nm_m2, nm_nz, nm_nzk, nm_eq32, nm_nzf, if_true, if_false, ↓reduceIte, if_pos, if_neg]
  · rw [if_neg c]
    simp (disch := (first | assumption | decide | omega)) only [df_X15_join_212, df_X15_join_131, df_X15_join_200, df_X15_join_186, df_X15_join_165, df_X15_join_85, df_X15_join_66, df_X15_join_43, df_X15_join_0, df_X15_join, h8, h10, h3, hg, t0, t1, lc_eq, c, eq_self, Nat.reduceEqDiff, Nat.reduceLeDiff, nl_0, nl_1, nl_3, nl_6, nl_7, nl_8, nl_9, nl_10, nl_24, nl_26, nl_27, nl_28, nl_29, nl_32, nl_130, nl_960, no_1, no_1024, pk_mul, nI_add, nm_ck, nI_clamp, nI_ltI, nI_leI, nI_eq, nb_b2, nb_b1, ↓nb_let, nm_z0, nm_z1, nb_II, nb_IR, nb_RI, nb_RR, nm_IL, nm_IQ, nm_RL, nm_RQ, nm_LI, nm_LR, nm_LL, nm_LQ, nm_QI, nm_QR, nm_QL, nm_QQ, nm_rr, nm_ii, nm_eqm, not_false_eq_true, pk_sub, nm_div, nm_shl, nm_shr, nm_ush, nm_or8, nm_or64, nm_or256, nm_m1, nm_m3, nm_m7, nm_m15, nm_m31, nm_m63, nm_m255, nm_m511, nm_m1023, nm_m2047, nm_m65535, Nat.reduceMod, Nat.reducePow, Nat.reduceAdd, Nat.reduceSub, Nat.reduceMul, nm_bo, nm_bi, nm_rc, nm_ic, nm_ri, nm_rl, nm_rq, nm_ql, nm_qi, nm_li, nm_us, nm_uu, nm_cp, nm_sa31, nm_sa7, nm_m127, nm_m2, nm_nz, nm_nzk, nm_eq32, nm_nzf, if_true, if_false, ↓reduceIte, if_pos, if_neg]
theorem jo_bin (n d a q o : Nat) {Y : St} {X : St × St} (o1 : 3 ≤ o) (o2 : o ≤ 18) (hd : d < 128) (ha : a < 960) (hq : q < 960) (hne : ¬ q = a) (h8 : sR Y 8 d = nI a) (h10 : sR Y 10 d = nI q) (h3 : sR Y 3 q = nI (o + 9)) (h7 : sI Y 7 = nI (d + 1)) : df_X15_join n (nI d) (Y, X) = some ((match bV o (sQ Y 3 d) (sL Y 1) with | some v => gvn Y d v | none => fln Y), X) := by
  have hg : ∀ v : Int64, df_X15_give n v (Y, X) = some (gvn Y d v, X) := fun v => gv_1 n d (by omega) h7
  have hf : df_X15_fail n (Y, X) = some (fln Y, X) := fl_1 n
  have hv := bo_o n o o1 o2 (sQ Y 3 d) (sL Y 1)
  by_cases c : o ≤ 16
  · have k1 : ∃ v : Int64, bV o (sQ Y 3 d) (sL Y 1) = some v := by
      have ho : o = 3 ∨ o = 4 ∨ o = 5 ∨ o = 6 ∨ o = 7 ∨ o = 8 ∨ o = 9 ∨ o = 10 ∨ o = 11 ∨ o = 12 ∨ o = 13 ∨ o = 14 ∨ o = 15 ∨ o = 16 := by omega
      rcases ho with rfl | rfl | rfl | rfl | rfl | rfl | rfl | rfl | rfl | rfl | rfl | rfl | rfl | rfl <;> exact ⟨_, rfl⟩
    obtain ⟨v, k1⟩ := k1
    have hv := hv v k1
    rw [k1]
    simp (disch := (first | assumption | decide | omega)) only [df_X15_join_212, df_X15_join_131, df_X15_join_200, df_X15_join_186, df_X15_join_165, df_X15_join_85, df_X15_join_66, df_X15_join_43, df_X15_join_0, df_X15_join, h8, h10, h3, hg, hv, eq_self, Nat.reduceEqDiff, Nat.reduceLeDiff, nl_0, nl_1, nl_3, nl_6, nl_7, nl_8, nl_9, nl_10, nl_24, nl_26, nl_27, nl_28, nl_29, nl_32, nl_130, nl_960, no_1, no_1024, pk_mul, nI_add, nm_ck, nI_clamp, nI_ltI, nI_leI, nI_eq, nb_b2, nb_b1, ↓nb_let, nm_z0, nm_z1, nb_II, nb_IR, nb_RI, nb_RR, nm_IL, nm_IQ, nm_RL, nm_RQ, nm_LI, nm_LR, nm_LL, nm_LQ, nm_QI, nm_QR, nm_QL, nm_QQ, nm_rr, nm_ii, nm_eqm, not_false_eq_true, pk_sub, nm_div, nm_shl, nm_shr, nm_ush, nm_or8, nm_or64, nm_or256, nm_m1, nm_m3, nm_m7, nm_m15, nm_m31, nm_m63, nm_m255, nm_m511, nm_m1023, nm_m2047, nm_m65535, Nat.reduceMod, Nat.reducePow, Nat.reduceAdd, Nat.reduceSub, Nat.reduceMul, nm_bo, nm_bi, nm_rc, nm_ic, nm_ri, nm_rl, nm_rq, nm_ql, nm_qi, nm_li, nm_us, nm_uu, nm_cp, nm_sa31, nm_sa7, nm_m127, nm_m2, nm_nz, nm_nzk, nm_eq32, nm_nzf, if_true, if_false, ↓reduceIte, if_pos, if_neg]
  · have ho : o = 17 ∨ o = 18 := by omega
    by_cases z : sL Y 1 = 0
    · have k1 : bV o (sQ Y 3 d) (sL Y 1) = none := by
        rcases ho with rfl | rfl
        · exact if_pos z
        · exact if_pos z
      rw [k1]
      rcases ho with rfl | rfl
      · simp (disch := (first | assumption | decide | omega)) only [df_X15_join_212, df_X15_join_131, df_X15_join_200, df_X15_join_186, df_X15_join_165, df_X15_join_85, df_X15_join_66, df_X15_join_43, df_X15_join_0, df_X15_join, h8, h10, h3, hf, lc_eq, z, eq_self, Nat.reduceEqDiff, Nat.reduceLeDiff, nl_0, nl_1, nl_3, nl_6, nl_7, nl_8, nl_9, nl_10, nl_24, nl_26, nl_27, nl_28, nl_29, nl_32, nl_130, nl_960, no_1, no_1024, pk_mul, nI_add, nm_ck, nI_clamp, nI_ltI, nI_leI, nI_eq, nb_b2, nb_b1, ↓nb_let, nm_z0, nm_z1, nb_II, nb_IR, nb_RI, nb_RR, nm_IL, nm_IQ, nm_RL, nm_RQ, nm_LI, nm_LR, nm_LL, nm_LQ, nm_QI, nm_QR, nm_QL, nm_QQ, nm_rr, nm_ii, nm_eqm, not_false_eq_true, pk_sub, nm_div, nm_shl, nm_shr, nm_ush, nm_or8, nm_or64, nm_or256, nm_m1, nm_m3, nm_m7, nm_m15, nm_m31, nm_m63, nm_m255, nm_m511, nm_m1023, nm_m2047, nm_m65535, Nat.reduceMod, Nat.reducePow, Nat.reduceAdd, Nat.reduceSub, Nat.reduceMul, nm_bo, nm_bi, nm_rc, nm_ic, nm_ri, nm_rl, nm_rq, nm_ql, nm_qi, nm_li, nm_us, nm_uu, nm_cp, nm_sa31, nm_sa7, nm_m127, nm_m2, nm_nz, nm_nzk, nm_eq32, nm_nzf, if_true, if_false, ↓reduceIte, if_pos, if_neg]
      · simp (disch := (first | assumption | decide | omega)) only [df_X15_join_212, df_X15_join_131, df_X15_join_200, df_X15_join_186, df_X15_join_165, df_X15_join_85, df_X15_join_66, df_X15_join_43, df_X15_join_0, df_X15_join, h8, h10, h3, hf, lc_eq, z, eq_self, Nat.reduceEqDiff, Nat.reduceLeDiff, nl_0, nl_1, nl_3, nl_6, nl_7, nl_8, nl_9, nl_10, nl_24, nl_26, nl_27, nl_28, nl_29, nl_32, nl_130, nl_960, no_1, no_1024, pk_mul, nI_add, nm_ck, nI_clamp, nI_ltI, nI_leI, nI_eq, nb_b2, nb_b1, ↓nb_let, nm_z0, nm_z1, nb_II, nb_IR, nb_RI, nb_RR, nm_IL, nm_IQ, nm_RL, nm_RQ, nm_LI, nm_LR, nm_LL, nm_LQ, nm_QI, nm_QR, nm_QL, nm_QQ, nm_rr, nm_ii, nm_eqm, not_false_eq_true, pk_sub, nm_div, nm_shl, nm_shr, nm_ush, nm_or8, nm_or64, nm_or256, nm_m1, nm_m3, nm_m7, nm_m15, nm_m31, nm_m63, nm_m255, nm_m511, nm_m1023, nm_m2047, nm_m65535, Nat.reduceMod, Nat.reducePow, Nat.reduceAdd, Nat.reduceSub, Nat.reduceMul, nm_bo, nm_bi, nm_rc, nm_ic, nm_ri, nm_rl, nm_rq, nm_ql, nm_qi, nm_li, nm_us, nm_uu, nm_cp, nm_sa31, nm_sa7, nm_m127, nm_m2, nm_nz, nm_nzk, nm_eq32, nm_nzf, if_true, if_false, ↓reduceIte, if_pos, if_neg]
    · have k1 : ∃ v : Int64, bV o (sQ Y 3 d) (sL Y 1) = some v := by
        rcases ho with rfl | rfl
        · exact ⟨_, if_neg z⟩
        · exact ⟨_, if_neg z⟩
      obtain ⟨v, k1⟩ := k1
      have hv := hv v k1
      rw [k1]
      rcases ho with rfl | rfl
      · simp (disch := (first | assumption | decide | omega)) only [df_X15_join_212, df_X15_join_131, df_X15_join_200, df_X15_join_186, df_X15_join_165, df_X15_join_85, df_X15_join_66, df_X15_join_43, df_X15_join_0, df_X15_join, h8, h10, h3, hg, hv, lc_eq, z, eq_self, Nat.reduceEqDiff, Nat.reduceLeDiff, nl_0, nl_1, nl_3, nl_6, nl_7, nl_8, nl_9, nl_10, nl_24, nl_26, nl_27, nl_28, nl_29, nl_32, nl_130, nl_960, no_1, no_1024, pk_mul, nI_add, nm_ck, nI_clamp, nI_ltI, nI_leI, nI_eq, nb_b2, nb_b1, ↓nb_let, nm_z0, nm_z1, nb_II, nb_IR, nb_RI, nb_RR, nm_IL, nm_IQ, nm_RL, nm_RQ, nm_LI, nm_LR, nm_LL, nm_LQ, nm_QI, nm_QR, nm_QL, nm_QQ, nm_rr, nm_ii, nm_eqm, not_false_eq_true, pk_sub, nm_div, nm_shl, nm_shr, nm_ush, nm_or8, nm_or64, nm_or256, nm_m1, nm_m3, nm_m7, nm_m15, nm_m31, nm_m63, nm_m255, nm_m511, nm_m1023, nm_m2047, nm_m65535, Nat.reduceMod, Nat.reducePow, Nat.reduceAdd, Nat.reduceSub, Nat.reduceMul, nm_bo, nm_bi, nm_rc, nm_ic, nm_ri, nm_rl, nm_rq, nm_ql, nm_qi, nm_li, nm_us, nm_uu, nm_cp, nm_sa31, nm_sa7, nm_m127, nm_m2, nm_nz, nm_nzk, nm_eq32, nm_nzf, if_true, if_false, ↓reduceIte, if_pos, if_neg]
      · simp (disch := (first | assumption | decide | omega)) only [df_X15_join_212, df_X15_join_131, df_X15_join_200, df_X15_join_186, df_X15_join_165, df_X15_join_85, df_X15_join_66, df_X15_join_43, df_X15_join_0, df_X15_join, h8, h10, h3, hg, hv, lc_eq, z, eq_self, Nat.reduceEqDiff, Nat.reduceLeDiff, nl_0, nl_1, nl_3, nl_6, nl_7, nl_8, nl_9, nl_10, nl_24, nl_26, nl_27, nl_28, nl_29, nl_32, nl_130, nl_960, no_1, no_1024, pk_mul, nI_add, nm_ck, nI_clamp, nI_ltI, nI_leI, nI_eq, nb_b2, nb_b1, ↓nb_let, nm_z0, nm_z1, nb_II, nb_IR, nb_RI, nb_RR, nm_IL, nm_IQ, nm_RL, nm_RQ, nm_LI, nm_LR, nm_LL, nm_LQ, nm_QI, nm_QR, nm_QL, nm_QQ, nm_rr, nm_ii, nm_eqm, not_false_eq_true, pk_sub, nm_div, nm_shl, nm_shr, nm_ush, nm_or8, nm_or64, nm_or256, nm_m1, nm_m3, nm_m7, nm_m15, nm_m31, nm_m63, nm_m255, nm_m511, nm_m1023, nm_m2047, nm_m65535, Nat.reduceMod, Nat.reducePow, Nat.reduceAdd, Nat.reduceSub, Nat.reduceMul, nm_bo, nm_bi, nm_rc, nm_ic, nm_ri, nm_rl, nm_rq, nm_ql, nm_qi, nm_li, nm_us, nm_uu, nm_cp, nm_sa31, nm_sa7, nm_m127, nm_m2, nm_nz, nm_nzk, nm_eq32, nm_nzf, if_true, if_false, ↓reduceIte, if_pos, if_neg]
theorem jo_log (n d a q o : Nat) {Y : St} {X : St × St} (ho : o = 1 ∨ o = 2) (hd : d < 128) (ha : a < 960) (hq : q < 960) (hne : ¬ q = a) (h8 : sR Y 8 d = nI a) (h10 : sR Y 10 d = nI q) (h3 : sR Y 3 q = nI (o + 9)) (h7 : sI Y 7 = nI (d + 1)) : df_X15_join n (nI d) (Y, X) = some (gvn Y d (tV (sL Y 1)), X) := by
  have hg : ∀ v : Int64, df_X15_give n v (Y, X) = some (gvn Y d v, X) := fun v => gv_1 n d (by omega) h7
  have hv := bo_g n o ho (sQ Y 3 d) (sL Y 1)
  rcases ho with rfl | rfl
  · simp (disch := (first | assumption | decide | omega)) only [df_X15_join_212, df_X15_join_131, df_X15_join_200, df_X15_join_186, df_X15_join_165, df_X15_join_85, df_X15_join_66, df_X15_join_43, df_X15_join_0, df_X15_join, h8, h10, h3, hg, hv, eq_self, Nat.reduceEqDiff, Nat.reduceLeDiff, nl_0, nl_1, nl_3, nl_6, nl_7, nl_8, nl_9, nl_10, nl_24, nl_26, nl_27, nl_28, nl_29, nl_32, nl_130, nl_960, no_1, no_1024, pk_mul, nI_add, nm_ck, nI_clamp, nI_ltI, nI_leI, nI_eq, nb_b2, nb_b1, ↓nb_let, nm_z0, nm_z1, nb_II, nb_IR, nb_RI, nb_RR, nm_IL, nm_IQ, nm_RL, nm_RQ, nm_LI, nm_LR, nm_LL, nm_LQ, nm_QI, nm_QR, nm_QL, nm_QQ, nm_rr, nm_ii, nm_eqm, not_false_eq_true, pk_sub, nm_div, nm_shl, nm_shr, nm_ush, nm_or8, nm_or64, nm_or256, nm_m1, nm_m3, nm_m7, nm_m15, nm_m31, nm_m63, nm_m255, nm_m511, nm_m1023, nm_m2047, nm_m65535, Nat.reduceMod, Nat.reducePow, Nat.reduceAdd, Nat.reduceSub, Nat.reduceMul, nm_bo, nm_bi, nm_rc, nm_ic, nm_ri, nm_rl, nm_rq, nm_ql, nm_qi, nm_li, nm_us, nm_uu, nm_cp, nm_sa31, nm_sa7, nm_m127, nm_m2, nm_nz, nm_nzk, nm_eq32, nm_nzf, if_true, if_false, ↓reduceIte, if_pos, if_neg]
  · simp (disch := (first | assumption | decide | omega)) only [df_X15_join_212, df_X15_join_131, df_X15_join_200, df_X15_join_186, df_X15_join_165, df_X15_join_85, df_X15_join_66, df_X15_join_43, df_X15_join_0, df_X15_join, h8, h10, h3, hg, hv, eq_self, Nat.reduceEqDiff, Nat.reduceLeDiff, nl_0, nl_1, nl_3, nl_6, nl_7, nl_8, nl_9, nl_10, nl_24, nl_26, nl_27, nl_28, nl_29, nl_32, nl_130, nl_960, no_1, no_1024, pk_mul, nI_add, nm_ck, nI_clamp, nI_ltI, nI_leI, nI_eq, nb_b2, nb_b1, ↓nb_let, nm_z0, nm_z1, nb_II, nb_IR, nb_RI, nb_RR, nm_IL, nm_IQ, nm_RL, nm_RQ, nm_LI, nm_LR, nm_LL, nm_LQ, nm_QI, nm_QR, nm_QL, nm_QQ, nm_rr, nm_ii, nm_eqm, not_false_eq_true, pk_sub, nm_div, nm_shl, nm_shr, nm_ush, nm_or8, nm_or64, nm_or256, nm_m1, nm_m3, nm_m7, nm_m15, nm_m31, nm_m63, nm_m255, nm_m511, nm_m1023, nm_m2047, nm_m65535, Nat.reduceMod, Nat.reducePow, Nat.reduceAdd, Nat.reduceSub, Nat.reduceMul, nm_bo, nm_bi, nm_rc, nm_ic, nm_ri, nm_rl, nm_rq, nm_ql, nm_qi, nm_li, nm_us, nm_uu, nm_cp, nm_sa31, nm_sa7, nm_m127, nm_m2, nm_nz, nm_nzk, nm_eq32, nm_nzf, if_true, if_false, ↓reduceIte, if_pos, if_neg]
theorem ls_end (n m e : Nat) {r s : Int32} {Y : St} {X : St × St} (h : e < 2 ^ 30) : df_X15_least_8 n (m + 1) (nI e) r s (nI e) (Y, X) = some (r, (Y, X)) := by
  simp (disch := (first | assumption | decide | omega)) only [(show df_X15_least_8 n (m + 1) = dF_X15_least_8 n (df_X15_least_8 n m) from rfl), dF_X15_least_8, df_X15_least_103, df_X15_least_37, df_X15_least_101, df_X15_least_89, df_X15_least_86, df_X15_least_0, df_X15_least, eq_self, Nat.reduceEqDiff, Nat.reduceLeDiff, nl_0, nl_1, nl_3, nl_4, nl_10, nl_30, nl_32, nl_960, no_1, no_1024, pk_mul, nI_add, nm_ck, nI_clamp, nI_ltI, nI_leI, nI_eq, nb_b2, nb_b1, ↓nb_let, nm_z0, nm_z1, nb_II, nb_IR, nb_RI, nb_RR, nm_IL, nm_IQ, nm_RL, nm_RQ, nm_LI, nm_LR, nm_LL, nm_LQ, nm_QI, nm_QR, nm_QL, nm_QQ, nm_rr, nm_ii, nm_eqm, not_false_eq_true, pk_sub, nm_div, nm_shl, nm_shr, nm_ush, nm_or8, nm_or64, nm_or256, nm_m1, nm_m3, nm_m7, nm_m15, nm_m31, nm_m63, nm_m255, nm_m511, nm_m1023, nm_m2047, nm_m65535, Nat.reduceMod, Nat.reducePow, Nat.reduceAdd, Nat.reduceSub, Nat.reduceMul, nm_bo, nm_bi, nm_rc, nm_ic, nm_ri, nm_rl, nm_rq, nm_ql, nm_qi, nm_li, nm_us, nm_uu, nm_cp, nm_sa31, nm_sa7, nm_m127, nm_m2, nm_nz, nm_nzk, nm_eq32, nm_nzf, if_true, if_false, ↓reduceIte, if_pos, if_neg]
/-- where a piece of the reference's lies; how 'least' goes over it; what 'work' gives -/
def plc (β f l : Nat) (K P : Nat → Int32) (N : Nat → Int64) (Y : St) : Prop := ∀ t : Nat, f ≤ t → t < l → sR Y 3 (β + t) = K t ∧ sQ Y 0 (β + t) = N t ∧ ∀ q : Nat, q ≤ 120 → P t = nI q → sR Y 4 (β + t) = nI (β + q)
def gRs (os ro f l : Nat) (K P : Nat → Int32) (N : Nat → Int64) : Prop := ∀ (n β e g : Nat) (Y : St) (X : St × St) (fo : Option (Nat × Nat)), plc β f l K P N Y → β + l ≤ e → e ≤ 960 → fok Y fo → l - f < g → ∃ g' : Nat, g ≤ g' + (l - f) ∧ df_X15_least_8 n g (nI e) (foI fo) (nI 0) (nI (β + f)) (Y, X) = df_X15_least_8 n g' (nI e) (foI (uP os (β + ro) fo)) (nI 1) (nI (β + l)) (Y, X)
def gRw (d : Dn) (f l j0 j1 : Nat) (K P : Nat → Int32) (N : Nat → Int64) (pos : Nat → Nat) : Prop := ∀ (n β : Nat) (X : St × St) (E : Evn) (w : Nat → Int64) (Y : St) (d' g x : Nat), 130 < n → eR n X E → plc β f l K P N Y → β + l ≤ 960 → (∀ j : Nat, j0 ≤ j → j < j1 → sQ Y 1 (β + pos j) = w j) → sI Y 7 = nI (d' + 1) → sR Y 8 d' = nI (β + f) → sR Y 9 d' = nI (β + l) → sR Y 11 d' = nI 0 → d' + (l - f) ≤ 127 → 3 * (l - f) < g → x + 3 * (l - f) ≤ 1999 → (∀ v : Int64, d E w = some v → ∃ (g' x' : Nat) (Y2 : St), g ≤ g' + 3 * (l - f) ∧ x' ≤ x + 3 * (l - f) ∧ yE d' Y Y2 ∧ sI Y2 7 = nI d' ∧ sL Y2 1 = v ∧ df_X15_work_18 n g (nI x) (Y, X) = df_X15_work_18 n g' (nI x') (Y2, X)) ∧ (d E w = none → ∃ Y2 : St, yE 0 Y Y2 ∧ df_X15_work_18 n g (nI x) (Y, X) = some (0, (Y2, X)))
def gR (d : Dn) (os ro f l j0 j1 : Nat) (K P : Nat → Int32) (N : Nat → Int64) (pos : Nat → Nat) : Prop := f < l ∧ l ≤ 120 ∧ j0 ≤ j1 ∧ (os ≤ 18 → 1 ≤ os ∧ f < ro ∧ ro < l ∧ K ro = nI (os + 9)) ∧ (∃ k : Nat, k < 100 ∧ K f = nI k ∧ (k = 30 → ∃ q : Nat, P f = nI q ∧ f < q ∧ q < l)) ∧ gRs os ro f l K P N ∧ gRw d f l j0 j1 K P N pos
theorem plc_w {β f l f' l' : Nat} {K P : Nat → Int32} {N : Nat → Int64} {Y : St} (h : plc β f l K P N Y) (h1 : f ≤ f') (h2 : l' ≤ l) : plc β f' l' K P N Y := fun t a b => h t (by omega) (by omega)
theorem plc_E {β f l d : Nat} {K P : Nat → Int32} {N : Nat → Int64} {Y Y' : St} (h : plc β f l K P N Y) (e : yE d Y Y') : plc β f l K P N Y' := fun t a b => by
  rw [e.1.1 3 (by omega) (by omega), e.1.1 4 (by omega) (by omega), e.1.2]
  exact h t a b
theorem gR_st {d : Dn} {os ro f l j0 j1 : Nat} {K P K' P' : Nat → Int32} {N N' : Nat → Int64} {pos pos' : Nat → Nat} (h : gR d os ro f l j0 j1 K P N pos) (hs : ∀ t : Nat, f ≤ t → t < l → K' t = K t ∧ P' t = P t ∧ N' t = N t) (hp : ∀ j : Nat, j0 ≤ j → j < j1 → pos' j = pos j) : gR d os ro f l j0 j1 K' P' N' pos' := by
  obtain ⟨h1, h2, h3, h4, ⟨k, k1, k2, k3⟩, h6, h7⟩ := h
  have pl : ∀ (β : Nat) (Y : St), plc β f l K' P' N' Y → plc β f l K P N Y := fun β Y q t a b => by
    have := hs t a b
    rw [← this.1, ← this.2.1, ← this.2.2]
    exact q t a b
  refine ⟨h1, h2, h3, fun a => ?_, ⟨k, k1, (hs f (by omega) h1).1.trans k2, fun a => ?_⟩, fun n β e g Y X fo q => h6 n β e g Y X fo (pl β Y q), fun n β X E w Y d' g x a1 a2 a3 a4 a5 => h7 n β X E w Y d' g x a1 a2 (pl β Y a3) a4 (fun j b1 b2 => by rw [← hp j b1 b2]; exact a5 j b1 b2)⟩
  · have := h4 a
    exact ⟨this.1, this.2.1, this.2.2.1, (hs ro (by omega) (by omega)).1.trans this.2.2.2⟩
  · obtain ⟨q, q1, q2⟩ := k3 a
    exact ⟨q, (hs f (by omega) h1).2.1.trans q1, q2⟩
theorem fok_n (Y : St) : fok Y none := fun _ z => nomatch z
/-- 'least' over the whole piece -/
theorem ls_R {os ro f l : Nat} {K P : Nat → Int32} {N : Nat → Int64} (h : gRs os ro f l K P N) (n β : Nat) (Y : St) (X : St × St) (hn : 130 < n) (hp : plc β f l K P N Y) (hl : l ≤ 120) (hb : β + l ≤ 960) : df_X15_least n (nI (β + f)) (nI (β + l)) (Y, X) = some (foI (uP os (β + ro) none), (Y, X)) := by
  obtain ⟨g', g1, g2⟩ := h n β (β + l) n Y X none hp (Nat.le_refl _) hb (fok_n Y) (by omega)
  obtain ⟨m, rfl⟩ : ∃ m : Nat, g' = m + 1 := ⟨g' - 1, by omega⟩
  show df_X15_least_8 n n (nI (β + l)) (-1) 0 (nI (β + f)) (Y, X) = _
  exact Eq.trans g2 (ls_end n m (β + l) (by omega))
theorem ls_N {os ro f l : Nat} {K P : Nat → Int32} {N : Nat → Int64} (h : gRs os ro f l K P N) (ho : 19 ≤ os) (n β : Nat) (Y : St) (X : St × St) (hn : 130 < n) (hp : plc β f l K P N Y) (hl : l ≤ 120) (hb : β + l ≤ 960) : df_X15_least n (nI (β + f)) (nI (β + l)) (Y, X) = some (-nI 1, (Y, X)) := by
  rw [ls_R h n β Y X hn hp hl hb, uP_h ho]
  rfl
/-- one token: a number, a register, pc, pid, count; what was before -/
theorem gR_leaf {f k j0 j1 : Nat} {K P : Nat → Int32} {N : Nat → Int64} {pos : Nat → Nat} (h : Evn → (Nat → Int64) → Int64) (hf : f < 120) (hj : j0 ≤ j1) (hk : 1 ≤ k) (hk2 : k ≤ 5) (hK : K f = nI k) (hv : ∀ (n β : Nat) (X : St × St) (E : Evn) (w : Nat → Int64) (Y : St) (d' : Nat), eR n X E → plc β f (f + 1) K P N Y → β + f < 960 → d' < 128 → sR Y 9 d' = nI (β + f + 1) → sI Y 7 = nI (d' + 1) → df_X15_least n (nI (β + f)) (nI (β + f + 1)) (Y, X) = some (-nI 1, (Y, X)) → df_X15_enter_61 n (nI d') (nI (β + f)) (nI k) (Y, X) = some (gvn (y2 Y d' (nI (β + f))) d' (h E w), X)) : gR (fun E w => some (h E w)) 20 0 f (f + 1) j0 j1 K P N pos := by
  have s1 : gRs 20 0 f (f + 1) K P N := fun n β e g Y X fo hp he he2 hfo hg => by
    obtain ⟨m, rfl⟩ : ∃ m : Nat, g = m + 1 := ⟨g - 1, by omega⟩
    refine ⟨m, by omega, ?_⟩
    rw [uP_h (by omega)]
    have q := ls_tok n m e (β + f) k (r := foI fo) (X := X) (by omega) he2 ((hp f (by omega) (by omega)).1.trans hK) (by omega) (by omega) (by omega)
    rw [if_pos (by omega)] at q
    exact q
  refine ⟨by omega, by omega, hj, fun z => by omega, ⟨k, by omega, hK, fun z => by omega⟩, s1, fun n β X E w Y d' g x hn hE hp hb hw h7 h8 h9 h11 hd hg hx => ⟨fun v z => ?_, fun z => (nomatch z)⟩⟩
  obtain ⟨m, rfl⟩ : ∃ m : Nat, g = m + 1 := ⟨g - 1, by omega⟩
  have z : some (h E w) = some v := z
  injection z with z
  subst z
  have hl := ls_N s1 (by omega) n β Y X hn hp (by omega) (by omega)
  have q1 := en_61 n d' (β + f) (β + (f + 1)) k (X := X) (by omega) (by omega) (by omega) (by omega) h8 h9 ((hp f (by omega) (by omega)).1.trans hK) (by omega) (fun z => by omega)
  have q2 := hv n β X E w Y d' hE hp (by omega) (by omega) h9 h7 hl
  refine ⟨m, x + 1, gvn (y2 Y d' (nI (β + f))) d' (h E w), by omega, by omega, yE_t (y2_E Y d' _) (gvn_E ..), rfl, rfl, ?_⟩
  rw [wkr_e n m d' x (by omega) (by omega) h7 h11, q1, q2, nb_b1]
/-- two pieces in a bracket's place: into it by begin, out of it by join -/
theorem gR_sub {d D : Dn} {os ro f a b l j0 j1 i0 i1 k : Nat} {K P : Nat → Int32} {N : Nat → Int64} {pos : Nat → Nat} (hi : gR d os ro a b i0 i1 K P N pos) (hfa : f < a) (hbl : b ≤ l) (hl : l ≤ 120) (hj : j0 ≤ i0) (hj2 : i1 ≤ j1) (hk : k < 100) (hK : K f = nI k) (hk30 : ¬ k = 30) (o : Nat) (ho : 19 ≤ o) (s1 : gRs o 0 f l K P N) (hen : ∀ (n β : Nat) (X : St × St) (Y : St) (d' : Nat), plc β f l K P N Y → β + l ≤ 960 → d' < 128 → sR Y 9 d' = nI (β + l) → sI Y 7 = nI (d' + 1) → df_X15_least n (nI (β + f)) (nI (β + l)) (Y, X) = some (-nI 1, (Y, X)) → df_X15_enter_61 n (nI d') (nI (β + f)) (nI k) (Y, X) = some (bgn (y2 Y d' (nI (β + f))) (d' + 1) (nI (β + a)) (nI (β + b)), X)) (hjo : ∀ (n β : Nat) (X : St × St) (E : Evn) (w : Nat → Int64) (Y : St) (d' : Nat) (v : Int64), eR n X E → β + l ≤ 960 → d' < 128 → (∀ j : Nat, j0 ≤ j → j < j1 → sQ Y 1 (β + pos j) = w j) → sR Y 8 d' = nI (β + f) → sR Y 10 d' = nI (β + f) → sR Y 3 (β + f) = nI k → sI Y 7 = nI (d' + 1) → d E w = some v → sL Y 1 = v → ((∀ u : Int64, D E w = some u → df_X15_join n (nI d') (Y, X) = some (gvn Y d' u, X)) ∧ (D E w = none → df_X15_join n (nI d') (Y, X) = some (fln Y, X)))) (hD : ∀ (E : Evn) (w : Nat → Int64), d E w = none → D E w = none) : gR D o 0 f l j0 j1 K P N pos := by
  obtain ⟨h1, h2, h3, h4, h5, h6, h7⟩ := hi
  refine ⟨by omega, hl, by omega, fun z => by omega, ⟨k, hk, hK, fun z => absurd z hk30⟩, s1, fun n β X E w Y d' g x hn hE hp hb hw e7 e8 e9 e11 hd hg hx => ?_⟩
  have hl := ls_N s1 ho n β Y X hn hp hl (by omega)
  have hKf : sR Y 3 (β + f) = nI k := (hp f (by omega) (by omega)).1.trans hK
  have q1 := en_61 n d' (β + f) (β + l) k (X := X) (by omega) (by omega) (by omega) (by omega) e8 e9 hKf hk (fun z => absurd z hk30)
  have q2 := hen n β X Y d' hp (by omega) (by omega) e9 e7 hl
  obtain ⟨m, rfl⟩ : ∃ m : Nat, g = m + 1 := ⟨g - 1, by omega⟩
  have q3 : df_X15_work_18 n (m + 1) (nI x) (Y, X) = df_X15_work_18 n m (nI (x + 1)) (bgn (y2 Y d' (nI (β + f))) (d' + 1) (nI (β + a)) (nI (β + b)), X) := by
    rw [wkr_e n m d' x (by omega) (by omega) e7 e11, q1, q2, nb_b1]
  have y0 : yE d' Y (bgn (y2 Y d' (nI (β + f))) (d' + 1) (nI (β + a)) (nI (β + b))) := yE_t (y2_E Y d' _) (bgn_E _ _ _ _ _ (by omega))
  have z8 : sR (bgn (y2 Y d' (nI (β + f))) (d' + 1) (nI (β + a)) (nI (β + b))) 8 d' = nI (β + f) := (if_neg (by omega)).trans e8
  have z10 : sR (bgn (y2 Y d' (nI (β + f))) (d' + 1) (nI (β + a)) (nI (β + b))) 10 d' = nI (β + f) := if_pos rfl
  have z11 : sR (bgn (y2 Y d' (nI (β + f))) (d' + 1) (nI (β + a)) (nI (β + b))) 11 d' = nI 2 := (if_neg (by omega)).trans (if_pos rfl)
  have z8' : sR (bgn (y2 Y d' (nI (β + f))) (d' + 1) (nI (β + a)) (nI (β + b))) 8 (d' + 1) = nI (β + a) := if_pos rfl
  have z9' : sR (bgn (y2 Y d' (nI (β + f))) (d' + 1) (nI (β + a)) (nI (β + b))) 9 (d' + 1) = nI (β + b) := if_pos rfl
  have z11' : sR (bgn (y2 Y d' (nI (β + f))) (d' + 1) (nI (β + a)) (nI (β + b))) 11 (d' + 1) = nI 0 := if_pos rfl
  have z7' : sI (bgn (y2 Y d' (nI (β + f))) (d' + 1) (nI (β + a)) (nI (β + b))) 7 = nI (d' + 1 + 1) := rfl
  generalize bgn (y2 Y d' (nI (β + f))) (d' + 1) (nI (β + a)) (nI (β + b)) = Y1 at q3 y0 z8 z10 z11 z8' z9' z11' z7'
  have w1 : ∀ j : Nat, i0 ≤ j → j < i1 → sQ Y1 1 (β + pos j) = w j := fun j a b => by rw [y0.2.1]; exact hw j (by omega) (by omega)
  have r := h7 n β X E w Y1 (d' + 1) m (x + 1) hn hE (plc_w (plc_E hp y0) (by omega) (by omega)) (by omega) w1 z7' z8' z9' z11' (by omega) (by omega) (by omega)
  cases hd2 : d E w with
  | none =>
    have hDn := hD E w hd2
    refine ⟨fun v z => by rw [hDn] at z; exact (nomatch z), fun _ => ?_⟩
    obtain ⟨Y2, r1, r2⟩ := r.2 hd2
    exact ⟨Y2, yE_t (yE_l y0 (by omega)) r1, q3.trans r2⟩
  | some v =>
    obtain ⟨g', x', Y2, r1, r2, r3, r4, r5, r6⟩ := r.1 v hd2
    obtain ⟨m', rfl⟩ : ∃ m' : Nat, g' = m' + 1 + 1 := ⟨g' - 2, by omega⟩
    have f3 := r3.2.2 d' (by omega)
    have jj := hjo n β X E w Y2 d' v hE (by omega) (by omega) (fun j a b => by rw [r3.2.1, y0.2.1]; exact hw j a b) (f3.1.trans z8) (f3.2.2.1.trans z10) (by rw [r3.1.1 3 (by omega) (by omega), y0.1.1 3 (by omega) (by omega)]; exact hKf) r4 hd2 r5
    have t1 := wkr_j n (m' + 1) d' x' (Y := Y2) (X := X) (by omega) (by omega) r4 (f3.2.2.2.1.trans z11)
    refine ⟨fun u z => ?_, fun z => ?_⟩
    · rw [jj.1 u z, nb_b1] at t1
      exact ⟨m' + 1, x' + 1, gvn Y2 d' u, by omega, by omega, yE_t y0 (yE_t (yE_l r3 (by omega)) (gvn_E ..)), rfl, rfl, q3.trans (r6.trans t1)⟩
    · rw [jj.2 z, nb_b1] at t1
      have t2 := wkr_0 n m' (x' + 1) (Y := fln Y2) (X := X) (by omega) rfl
      exact ⟨fln Y2, yE_t (yE_l y0 (by omega)) (yE_t (yE_l r3 (by omega)) (fln_E Y2)), q3.trans (r6.trans (t1.trans t2))⟩

theorem gR_un {d : Dn} {os ro f l j0 j1 o k : Nat} {K P : Nat → Int32} {N : Nat → Int64} {pos : Nat → Nat} (hok : o = 19 ∧ k = 28 ∨ o = 20 ∧ k = 24 ∨ o = 21 ∧ k = 29) (hi : gR d os ro (f + 1) l j0 j1 K P N pos) (ho : 19 ≤ os) (hK : K f = nI k) : gR (dnU o d) 19 0 f l j0 j1 K P N pos := by
  refine gR_sub hi (by omega) (Nat.le_refl _) hi.2.1 (Nat.le_refl _) (Nat.le_refl _) (k := k) (by omega) hK (by omega) 19 (by omega) ?_ ?_ ?_ ?_
  · intro n β e g Y X fo hp he he2 hfo hg
    have h1 := hi.1
    obtain ⟨m, rfl⟩ : ∃ m : Nat, g = m + 1 := ⟨g - 1, by omega⟩
    have q := ls_tok n m e (β + f) k (r := foI fo) (X := X) (by omega) he2 ((hp f (by omega) (by omega)).1.trans hK) (by omega) (by omega) (by omega)
    rw [if_neg (by omega)] at q
    obtain ⟨g', a1, a2⟩ := hi.2.2.2.2.2.1 n β e m Y X fo (plc_w hp (by omega) (Nat.le_refl _)) he he2 hfo (by omega)
    rw [uP_h ho] at a2
    rw [uP_h (by omega)]
    exact ⟨g', by omega, q.trans a2⟩
  · intro n β X Y d' hp hb hd e9 e7 hl
    exact eb_u n d' (β + f) (β + l) k (by omega) hd (by have := hi.1; omega) hb (by have := hi.1; omega) e9 e7 hl
  · intro n β X E w Y d' v hE hb hd hw e8 e10 e3 e7 hd2 hv
    refine ⟨fun u z => ?_, fun z => ?_⟩
    · rw [jo_un n d' (β + f) o k hok hd (by have := hi.1; omega) e8 e10 e3 e7]
      unfold dnU at z
      rw [hd2] at z
      have z : some (uV o v) = some u := z
      injection z with z
      rw [← z, hv]
    · unfold dnU at z
      rw [hd2] at z
      exact nomatch z
  · intro E w z
    unfold dnU
    rw [z]
    rfl
theorem gR_m1 {d : Dn} {os ro f q j0 j1 : Nat} {K P : Nat → Int32} {N : Nat → Int64} {pos : Nat → Nat} (hi : gR d os ro (f + 1) q j0 j1 K P N pos) (hq : q < 120) (hK : K f = nI 32) (hP : P f = nI q) : gR (dnM 25 d) 20 0 f (q + 1) j0 j1 K P N pos := by
  refine gR_sub hi (by omega) (by omega) (by omega) (Nat.le_refl _) (Nat.le_refl _) (k := 32) (by omega) hK (by omega) 20 (by omega) ?_ ?_ ?_ ?_
  · intro n β e g Y X fo hp he he2 hfo hg
    have h1 := hi.1
    obtain ⟨m, rfl⟩ : ∃ m : Nat, g = m + 1 := ⟨g - 1, by omega⟩
    have c := hp f (by omega) (by omega)
    rw [uP_h (by omega)]
    exact ⟨m, by omega, ls_opn n m e (β + f) (β + q) (by omega) he2 (Or.inr (c.1.trans hK)) (c.2.2 q (by omega) hP) (by omega)⟩
  · intro n β X Y d' hp hb hd e9 e7 hl
    exact eb_m n d' (β + f) (β + (q + 1)) 32 rfl hd (by have := hi.1; omega) hb (by have := hi.1; omega) e9 e7 hl
  · intro n β X E w Y d' v hE hb hd hw e8 e10 e3 e7 hd2 hv
    have ac := hE.2.2.2 25 32 v Y (Or.inl ⟨rfl, rfl⟩)
    refine ⟨fun u z => ?_, fun z => ?_⟩
    · unfold dnM at z
      rw [hd2] at z
      have z : E.2.2.2 25 v = some u := z
      rw [z] at ac
      exact jo_mem n d' (β + f) (β + f) 32 (Or.inl rfl) hd (by have := hi.1; omega) (by have := hi.1; omega) e8 e10 e3 (by rw [hv]; exact ac.trans (gv_1 n d' (by omega) e7))
    · unfold dnM at z
      rw [hd2] at z
      have z : E.2.2.2 25 v = none := z
      rw [z] at ac
      exact jo_mem n d' (β + f) (β + f) 32 (Or.inl rfl) hd (by have := hi.1; omega) (by have := hi.1; omega) e8 e10 e3 (by rw [hv]; exact ac.trans (fl_1 n))
  · intro E w z
    unfold dnM
    rw [z]
    rfl
theorem gR_m2 {d : Dn} {os ro f q j0 j1 o k : Nat} {K P : Nat → Int32} {N : Nat → Int64} {pos : Nat → Nat} (hok : o = 26 ∧ k = 7 ∨ o = 27 ∧ k = 6) (hi : gR d os ro (f + 2) q j0 j1 K P N pos) (hq : q < 120) (hK : K f = nI k) (hK2 : K (f + 1) = nI 32) (hP : P (f + 1) = nI q) : gR (dnM o d) 20 0 f (q + 1) j0 j1 K P N pos := by
  refine gR_sub hi (by omega) (by omega) (by omega) (Nat.le_refl _) (Nat.le_refl _) (k := k) (by omega) hK (by omega) 20 (by omega) ?_ ?_ ?_ ?_
  · intro n β e g Y X fo hp he he2 hfo hg
    have h1 := hi.1
    obtain ⟨m, rfl⟩ : ∃ m : Nat, g = m + 1 + 1 := ⟨g - 2, by omega⟩
    have c := hp (f + 1) (by omega) (by omega)
    have q1 := ls_tok n (m + 1) e (β + f) k (r := foI fo) (X := X) (by omega) he2 ((hp f (by omega) (by omega)).1.trans hK) (by omega) (by omega) (by omega)
    rw [if_pos (by omega)] at q1
    rw [uP_h (by omega)]
    exact ⟨m, by omega, q1.trans (ls_opn n m e (β + f + 1) (β + q) (by omega) he2 (Or.inr (c.1.trans hK2)) (c.2.2 q (by omega) hP) (by omega))⟩
  · intro n β X Y d' hp hb hd e9 e7 hl
    exact eb_w n d' (β + f) (β + (q + 1)) k (by omega) hd (by have := hi.1; omega) hb (by have := hi.1; omega) e9 e7 hl
  · intro n β X E w Y d' v hE hb hd hw e8 e10 e3 e7 hd2 hv
    have ac := hE.2.2.2 o k v Y (Or.inr hok)
    refine ⟨fun u z => ?_, fun z => ?_⟩
    · unfold dnM at z
      rw [hd2] at z
      have z : E.2.2.2 o v = some u := z
      rw [z] at ac
      exact jo_mem n d' (β + f) (β + f) k (by omega) hd (by have := hi.1; omega) (by have := hi.1; omega) e8 e10 e3 (by rw [hv]; exact ac.trans (gv_1 n d' (by omega) e7))
    · unfold dnM at z
      rw [hd2] at z
      have z : E.2.2.2 o v = none := z
      rw [z] at ac
      exact jo_mem n d' (β + f) (β + f) k (by omega) hd (by have := hi.1; omega) (by have := hi.1; omega) e8 e10 e3 (by rw [hv]; exact ac.trans (fl_1 n))
  · intro E w z
    unfold dnM
    rw [z]
    rfl
theorem gR_chg {d : Dn} {os ro f q j : Nat} {K P : Nat → Int32} {N : Nat → Int64} {pos : Nat → Nat} (hi : gR d os ro (f + 2) q (j + 1) (j + 1) K P N pos) (hq : q < 120) (hK : K f = nI 9) (hK2 : K (f + 1) = nI 30) (hP : P (f + 1) = nI q) (hpos : pos j = f) : gR (dnC j d) 20 0 f (q + 1) j (j + 1) K P N pos := by
  refine gR_sub hi (by omega) (by omega) (by omega) (by omega) (Nat.le_refl _) (k := 9) (by omega) hK (by omega) 20 (by omega) ?_ ?_ ?_ ?_
  · intro n β e g Y X fo hp he he2 hfo hg
    have h1 := hi.1
    obtain ⟨m, rfl⟩ : ∃ m : Nat, g = m + 1 + 1 := ⟨g - 2, by omega⟩
    have c := hp (f + 1) (by omega) (by omega)
    have q1 := ls_tok n (m + 1) e (β + f) 9 (r := foI fo) (X := X) (by omega) he2 ((hp f (by omega) (by omega)).1.trans hK) (by omega) (by omega) (by omega)
    rw [if_pos (by omega)] at q1
    rw [uP_h (by omega)]
    exact ⟨m, by omega, q1.trans (ls_opn n m e (β + f + 1) (β + q) (by omega) he2 (Or.inl (c.1.trans hK2)) (c.2.2 q (by omega) hP) (by omega))⟩
  · intro n β X Y d' hp hb hd e9 e7 hl
    exact eb_w n d' (β + f) (β + (q + 1)) 9 (by omega) hd (by have := hi.1; omega) hb (by have := hi.1; omega) e9 e7 hl
  · intro n β X E w Y d' v hE hb hd hw e8 e10 e3 e7 hd2 hv
    have k1 := jo_chg n d' (β + f) (X := X) hd (by have := hi.1; omega) e8 e10 e3 e7
    have k2 := hw j (Nat.le_refl _) (by omega)
    rw [hpos] at k2
    rw [hv, k2] at k1
    refine ⟨fun u z => ?_, fun z => ?_⟩
    · unfold dnC at z
      rw [hd2] at z
      have z : some (if v = w j then (0 : Int64) else 1) = some u := z
      injection z with z
      rw [← z]
      exact k1
    · unfold dnC at z
      rw [hd2] at z
      exact nomatch z
  · intro E w z
    unfold dnC
    rw [z]
    rfl
theorem gR_old {d : Dn} {os ro f q j : Nat} {K P : Nat → Int32} {N : Nat → Int64} {pos : Nat → Nat} (hi : gR d os ro (f + 2) q (j + 1) (j + 1) K P N pos) (hq : q < 120) (hK : K f = nI 8) (hK2 : K (f + 1) = nI 30) (hP : P (f + 1) = nI q) (hpos : pos j = f) : gR (fun _ w => some (w j)) 20 0 f (q + 1) j (j + 1) K P N pos := by
  have h1 := hi.1
  have s1 : gRs 20 0 f (q + 1) K P N := fun n β e g Y X fo hp he he2 hfo hg => by
    obtain ⟨m, rfl⟩ : ∃ m : Nat, g = m + 1 + 1 := ⟨g - 2, by omega⟩
    have c := hp (f + 1) (by omega) (by omega)
    have q1 := ls_tok n (m + 1) e (β + f) 8 (r := foI fo) (X := X) (by omega) he2 ((hp f (by omega) (by omega)).1.trans hK) (by omega) (by omega) (by omega)
    rw [if_pos (by omega)] at q1
    rw [uP_h (by omega)]
    exact ⟨m, by omega, q1.trans (ls_opn n m e (β + f + 1) (β + q) (by omega) he2 (Or.inl (c.1.trans hK2)) (c.2.2 q (by omega) hP) (by omega))⟩
  refine ⟨by omega, by omega, by omega, fun z => by omega, ⟨8, by omega, hK, fun z => by omega⟩, s1, fun n β X E w Y d' g x hn hE hp hb hw h7 h8 h9 h11 hd hg hx => ⟨fun v z => ?_, fun z => (nomatch z)⟩⟩
  obtain ⟨m, rfl⟩ : ∃ m : Nat, g = m + 1 := ⟨g - 1, by omega⟩
  have z : some (w j) = some v := z
  injection z with z
  subst z
  have hl := ls_N s1 (by omega) n β Y X hn hp (by omega) (by omega)
  have q1 := en_61 n d' (β + f) (β + (q + 1)) 8 (X := X) (by omega) (by omega) (by omega) (by omega) h8 h9 ((hp f (by omega) (by omega)).1.trans hK) (by omega) (fun z => by omega)
  have q2 := en_8 n d' (β + f) (β + (q + 1)) (X := X) (by omega) (by omega) (by omega) h9 h7 hl
  have k2 := hw j (Nat.le_refl _) (by omega)
  rw [hpos] at k2
  rw [k2] at q2
  refine ⟨m, x + 1, gvn (y2 Y d' (nI (β + f))) d' (w j), by omega, by omega, yE_t (y2_E Y d' _) (gvn_E ..), rfl, rfl, ?_⟩
  rw [wkr_e n m d' x (by omega) (by omega) h7 h11, q1, q2, nb_b1]
theorem gR_par {d : Dn} {os ro f q j0 j1 : Nat} {K P : Nat → Int32} {N : Nat → Int64} {pos : Nat → Nat} (hi : gR d os ro (f + 1) q j0 j1 K P N pos) (hq : q < 120) (hK : K f = nI 30) (hP : P f = nI q) : gR d 20 0 f (q + 1) j0 j1 K P N pos := by
  obtain ⟨h1, h2, h3, h4, h5, h6, h7⟩ := hi
  have s1 : gRs 20 0 f (q + 1) K P N := fun n β e g Y X fo hp he he2 hfo hg => by
    obtain ⟨m, rfl⟩ : ∃ m : Nat, g = m + 1 := ⟨g - 1, by omega⟩
    have c := hp f (by omega) (by omega)
    rw [uP_h (by omega)]
    exact ⟨m, by omega, ls_opn n m e (β + f) (β + q) (by omega) he2 (Or.inl (c.1.trans hK)) (c.2.2 q (by omega) hP) (by omega)⟩
  refine ⟨by omega, by omega, h3, fun z => by omega, ⟨30, by omega, hK, fun z => ⟨q, hP, by omega, by omega⟩⟩, s1, fun n β X E w Y d' g x hn hE hp hb hw e7 e8 e9 e11 hd hg hx => ?_⟩
  obtain ⟨m, rfl⟩ : ∃ m : Nat, g = m + 1 := ⟨g - 1, by omega⟩
  have c := hp f (by omega) (by omega)
  have q1 := en_par n d' (β + f) (β + q) (X := X) (by omega) (by omega) (by omega) (by omega) e8 e9 (c.1.trans hK) (c.2.2 q (by omega) hP)
  have q3 := wkr_e n m d' x (X := X) (by omega) (by omega) e7 e11
  rw [q1, nb_b1] at q3
  have y0 : yE d' Y (pR (pR Y 8 (upd (sR Y 8) d' (nI (β + f + 1)))) 9 (upd (sR Y 9) d' (nI (β + q)))) := ⟨yFr_m rfl rfl rfl rfl rfl, rfl, fun i hi => ⟨if_neg (by omega), if_neg (by omega), rfl, rfl, rfl⟩⟩
  have z8 : sR (pR (pR Y 8 (upd (sR Y 8) d' (nI (β + f + 1)))) 9 (upd (sR Y 9) d' (nI (β + q)))) 8 d' = nI (β + (f + 1)) := if_pos rfl
  have z9 : sR (pR (pR Y 8 (upd (sR Y 8) d' (nI (β + f + 1)))) 9 (upd (sR Y 9) d' (nI (β + q)))) 9 d' = nI (β + q) := if_pos rfl
  have z11 : sR (pR (pR Y 8 (upd (sR Y 8) d' (nI (β + f + 1)))) 9 (upd (sR Y 9) d' (nI (β + q)))) 11 d' = nI 0 := e11
  have z7 : sI (pR (pR Y 8 (upd (sR Y 8) d' (nI (β + f + 1)))) 9 (upd (sR Y 9) d' (nI (β + q)))) 7 = nI (d' + 1) := e7
  generalize pR (pR Y 8 (upd (sR Y 8) d' (nI (β + f + 1)))) 9 (upd (sR Y 9) d' (nI (β + q))) = Y1 at q3 y0 z8 z9 z11 z7
  have r := h7 n β X E w Y1 d' m (x + 1) hn hE (plc_w (plc_E hp y0) (by omega) (by omega)) (by omega) (fun j a b => by rw [y0.2.1]; exact hw j a b) z7 z8 z9 z11 (by omega) (by omega) (by omega)
  refine ⟨fun v z => ?_, fun z => ?_⟩
  · obtain ⟨g', x', Y2, r1, r2, r3, r4, r5, r6⟩ := r.1 v z
    exact ⟨g', x', Y2, by omega, by omega, yE_t y0 r3, r4, r5, q3.trans r6⟩
  · obtain ⟨Y2, r1, r2⟩ := r.2 z
    exact ⟨Y2, yE_t (yE_l y0 (by omega)) r1, q3.trans r2⟩
def dnO (o : Nat) (d f : Dn) : Dn := if o ≤ 2 then dnG o d f else dnB o d f
theorem fok_u {Y : St} {fo : Option (Nat × Nat)} {o r : Nat} (h : fok Y fo) (ho : o ≤ 18 → 1 ≤ o ∧ r < 960 ∧ sR Y 3 r = nI (o + 9)) : fok Y (uP o r fo) := by
  by_cases a : 19 ≤ o
  · rw [uP_h a]
    exact h
  · have b := ho (by omega)
    have k : fok Y (some (r, o)) := fun q z => by
      injection z with z
      rw [← z]
      exact ⟨b.2.1, b.1, by omega, b.2.2⟩
    cases fo with
    | none =>
      rw [uP_n (by omega)]
      exact k
    | some q =>
      by_cases c : rk o ≤ rk q.2
      · rw [uP_a (by omega) c]
        exact k
      · rw [uP_b (Or.inr c)]
        exact h
theorem gR_bin {d c : Dn} {oa ra oc rc o f m l j0 j j1 : Nat} {K P : Nat → Int32} {N : Nat → Int64} {pos : Nat → Nat} (o1 : 1 ≤ o) (o2 : o ≤ 18) (ha : gR d oa ra f m j0 j K P N pos) (hc : gR c oc rc (m + 1) l j j1 K P N pos) (hK : K m = nI (o + 9)) (hA : 19 ≤ oa ∨ rk o ≤ rk oa) (hC : 19 ≤ oc ∨ rk o < rk oc) : gR (dnO o d c) o m f l j0 j1 K P N pos := by
  obtain ⟨a1, a2, a3, a4, ⟨k, k1, k2, k3⟩, a6, a7⟩ := ha
  obtain ⟨c1, c2, c3, c4, c5, c6, c7⟩ := hc
  have s1 : gRs o m f l K P N := fun n β e g Y X fo hp he he2 hfo hg => by
    obtain ⟨g1, b1, b2⟩ := a6 n β e g Y X fo (plc_w hp (Nat.le_refl _) (by omega)) (by omega) he2 hfo (by omega)
    obtain ⟨m1, rfl⟩ : ∃ m1 : Nat, g1 = m1 + 1 := ⟨g1 - 1, by omega⟩
    have f1 : fok Y (uP oa (β + ra) fo) := fok_u hfo (fun z => by
      have := a4 z
      exact ⟨this.1, by omega, (hp ra (by omega) (by omega)).1.trans this.2.2.2⟩)
    have hk : sR Y 3 (β + m) = nI (o + 9) := (hp m (by omega) (by omega)).1.trans hK
    have b3 := ls_op n m1 e (β + m) o (X := X) (by omega) he2 o1 o2 hk f1
    have f2 : fok Y (uP o (β + m) (uP oa (β + ra) fo)) := fok_u f1 (fun z => ⟨o1, by omega, hk⟩)
    obtain ⟨g2, b4, b5⟩ := c6 n β e m1 Y X _ (plc_w hp (by omega) (Nat.le_refl _)) he he2 f2 (by omega)
    rw [uP_3 o2 hA hC] at b5
    exact ⟨g2, by omega, b2.trans (b3.trans b5)⟩
  refine ⟨by omega, c2, by omega, fun _ => ⟨o1, a1, by omega, hK⟩, ⟨k, k1, k2, fun z => ?_⟩, s1, fun n β X E w Y d' g x hn hE hp hb hw e7 e8 e9 e11 hd hg hx => ?_⟩
  · obtain ⟨q, q1, q2, q3⟩ := k3 z
    exact ⟨q, q1, q2, by omega⟩
  have hl := ls_R s1 n β Y X hn hp c2 (by omega)
  rw [uP_n o2] at hl
  have hpf := hp f (by omega) (by omega)
  have t1 := en_61 n d' (β + f) (β + l) k (X := X) (by omega) (by omega) (by omega) (by omega) e8 e9 (hpf.1.trans k2) k1 (fun z => by
    obtain ⟨q, q1, q2, q3⟩ := k3 z
    exact ⟨β + q, hpf.2.2 q (by omega) q1, by omega⟩)
  obtain ⟨Y1, t2, y0, z7, z8, z9, z10, z11, z8', z9', z11'⟩ := en_bin n d' (β + f) (β + l) k (β + m) (Y := Y) (X := X) (by omega) (by omega) (by omega) (by omega) e9 e7 hl
  obtain ⟨m1, rfl⟩ : ∃ m1 : Nat, g = m1 + 1 := ⟨g - 1, by omega⟩
  have q3 := wkr_e n m1 d' x (X := X) (by omega) (by omega) e7 e11
  rw [t1, t2, nb_b1] at q3
  have r := a7 n β X E w Y1 (d' + 1) m1 (x + 1) hn hE (plc_w (plc_E hp y0) (Nat.le_refl _) (by omega)) (by omega) (fun i a b => by rw [y0.2.1]; exact hw i a (by omega)) z7 z8' z9' z11' (by omega) (by omega) (by omega)
  have dN : d E w = none → dnO o d c E w = none := fun z => by
    unfold dnO dnG dnB
    by_cases y : o ≤ 2
    · rw [if_pos y]
      show (d E w).bind _ = none
      rw [z]
      rfl
    · rw [if_neg y]
      show (d E w).bind _ = none
      rw [z]
      rfl
  cases hd2 : d E w with
  | none =>
    refine ⟨fun v z => by rw [dN hd2] at z; exact (nomatch z), fun _ => ?_⟩
    obtain ⟨Y2, r1, r2⟩ := r.2 hd2
    exact ⟨Y2, yE_t (yE_l y0 (by omega)) r1, q3.trans r2⟩
  | some u =>
    obtain ⟨g', x', Y2, r1, r2, r3, r4, r5, r6⟩ := r.1 u hd2
    obtain ⟨m2, rfl⟩ : ∃ m2 : Nat, g' = m2 + 1 := ⟨g' - 1, by omega⟩
    have f3 := r3.2.2 d' (by omega)
    have yY : yE d' Y Y2 := yE_t y0 (yE_l r3 (by omega))
    have hk : sR Y2 3 (β + m) = nI (o + 9) := by
      rw [yY.1.1 3 (by omega) (by omega)]
      exact (hp m (by omega) (by omega)).1.trans hK
    have v10 : sR Y2 10 d' = nI (β + m) := f3.2.2.1.trans z10
    have v9 : sR Y2 9 d' = nI (β + l) := f3.2.1.trans (z9.trans e9)
    have v8 : sR Y2 8 d' = nI (β + f) := f3.1.trans (z8.trans e8)
    have t3 := wkr_h n m2 d' x' (Y := Y2) (X := X) (by omega) (by omega) r4 (f3.2.2.2.1.trans z11)
    by_cases cut : (o = 1 ∨ o = 2) ∧ ¬ (u = 0 ↔ o = 1)
    · have t4 := hf_cut n d' (β + m) o (Y := Y2) (X := X) cut.1 (by omega) (by omega) v10 hk r4 (by rw [r5]; exact cut.2)
      rw [t4, nb_b1] at t3
      have dv : dnO o d c E w = some (if o = 1 then 1 else 0) := by
        unfold dnO dnG
        rw [if_pos (by omega)]
        show (d E w).bind _ = _
        rw [hd2]
        show (if (u = 0 ↔ o = 1) then _ else _) = _
        rw [if_neg cut.2]
      rw [dv]
      refine ⟨fun v z => ?_, fun z => (nomatch z)⟩
      injection z with z
      subst z
      refine ⟨m2, x' + 1, _, by omega, by omega, yE_t yY (yE_t (show yE d' Y2 (y3 Y2 d') from ⟨yFr_m rfl rfl rfl rfl rfl, rfl, fun i hi => ⟨rfl, rfl, rfl, rfl, if_neg (by omega)⟩⟩) (gvn_E ..)), rfl, rfl, q3.trans (r6.trans t3)⟩
    · have hcut : o = 1 ∨ o = 2 → (sL Y2 1 = 0 ↔ o = 1) := fun z => by
        rw [r5]
        exact Classical.byContradiction fun y => cut ⟨z, y⟩
      have t4 := hf_on n d' (β + m) o (β + l) (Y := Y2) (X := X) o1 o2 (by omega) (by omega) v10 v9 hk r4 hcut
      rw [t4, nb_b1] at t3
      have y4 : yE d' Y2 (bgn (pR (y3 Y2 d') 11 (upd (sR Y2 11) d' (nI 2))) (d' + 1) (nI (β + m + 1)) (nI (β + l))) := ⟨yFr_m rfl rfl rfl rfl rfl, rfl, fun i hi => ⟨if_neg (by omega), if_neg (by omega), rfl, (if_neg (by omega)).trans (if_neg (by omega)), if_neg (by omega)⟩⟩
      have x8 : sR (bgn (pR (y3 Y2 d') 11 (upd (sR Y2 11) d' (nI 2))) (d' + 1) (nI (β + m + 1)) (nI (β + l))) 8 d' = nI (β + f) := (if_neg (by omega)).trans v8
      have x10 : sR (bgn (pR (y3 Y2 d') 11 (upd (sR Y2 11) d' (nI 2))) (d' + 1) (nI (β + m + 1)) (nI (β + l))) 10 d' = nI (β + m) := v10
      have x11 : sR (bgn (pR (y3 Y2 d') 11 (upd (sR Y2 11) d' (nI 2))) (d' + 1) (nI (β + m + 1)) (nI (β + l))) 11 d' = nI 2 := (if_neg (by omega)).trans (if_pos rfl)
      have xq : sQ (bgn (pR (y3 Y2 d') 11 (upd (sR Y2 11) d' (nI 2))) (d' + 1) (nI (β + m + 1)) (nI (β + l))) 3 d' = u := (if_pos rfl).trans r5
      have x8' : sR (bgn (pR (y3 Y2 d') 11 (upd (sR Y2 11) d' (nI 2))) (d' + 1) (nI (β + m + 1)) (nI (β + l))) 8 (d' + 1) = nI (β + (m + 1)) := if_pos rfl
      have x9' : sR (bgn (pR (y3 Y2 d') 11 (upd (sR Y2 11) d' (nI 2))) (d' + 1) (nI (β + m + 1)) (nI (β + l))) 9 (d' + 1) = nI (β + l) := if_pos rfl
      have x11' : sR (bgn (pR (y3 Y2 d') 11 (upd (sR Y2 11) d' (nI 2))) (d' + 1) (nI (β + m + 1)) (nI (β + l))) 11 (d' + 1) = nI 0 := if_pos rfl
      have x7' : sI (bgn (pR (y3 Y2 d') 11 (upd (sR Y2 11) d' (nI 2))) (d' + 1) (nI (β + m + 1)) (nI (β + l))) 7 = nI (d' + 1 + 1) := rfl
      generalize bgn (pR (y3 Y2 d') 11 (upd (sR Y2 11) d' (nI 2))) (d' + 1) (nI (β + m + 1)) (nI (β + l)) = Y3 at t3 y4 x8 x10 x11 xq x8' x9' x11' x7'
      have yY3 : yE d' Y Y3 := yE_t yY y4
      have s := c7 n β X E w Y3 (d' + 1) m2 (x' + 1) hn hE (plc_w (plc_E hp yY3) (by omega) (Nat.le_refl _)) hb (fun i a b => by rw [yY3.2.1]; exact hw i (by omega) b) x7' x8' x9' x11' (by omega) (by omega) (by omega)
      cases hc2 : c E w with
      | none =>
        have dv : dnO o d c E w = none := by
          unfold dnO dnG dnB
          by_cases y : o ≤ 2
          · rw [if_pos y]
            show (d E w).bind _ = none
            rw [hd2]
            show (if (u = 0 ↔ o = 1) then (c E w).bind _ else _) = none
            rw [if_pos (by rw [← r5]; exact hcut (by omega)), hc2]
            rfl
          · rw [if_neg y]
            show (d E w).bind _ = none
            rw [hd2]
            show (c E w).bind _ = none
            rw [hc2]
            rfl
        rw [dv]
        refine ⟨fun v z => (nomatch z), fun _ => ?_⟩
        obtain ⟨Y4, s1, s2⟩ := s.2 hc2
        exact ⟨Y4, yE_t (yE_l yY3 (by omega)) s1, q3.trans (r6.trans (t3.trans s2))⟩
      | some b =>
        obtain ⟨g4, x4, Y4, s1, s2, s3, s4, s5, s6⟩ := s.1 b hc2
        obtain ⟨m4, rfl⟩ : ∃ m4 : Nat, g4 = m4 + 1 + 1 := ⟨g4 - 2, by omega⟩
        have f4 := s3.2.2 d' (by omega)
        have yY4 : yE d' Y Y4 := yE_t yY3 (yE_l s3 (by omega))
        have hk4 : sR Y4 3 (β + m) = nI (o + 9) := by
          rw [yY4.1.1 3 (by omega) (by omega)]
          exact (hp m (by omega) (by omega)).1.trans hK
        have t5 := wkr_j n (m4 + 1) d' x4 (Y := Y4) (X := X) (by omega) (by omega) s4 (f4.2.2.2.1.trans x11)
        have w8 := f4.1.trans x8
        have w10 := f4.2.2.1.trans x10
        by_cases y : o ≤ 2
        · have t6 := jo_log n d' (β + f) (β + m) o (Y := Y4) (X := X) (by omega) (by omega) (by omega) (by omega) (by omega) w8 w10 hk4 s4
          rw [t6, nb_b1, s5] at t5
          have dv : dnO o d c E w = some (tV b) := by
            unfold dnO dnG
            rw [if_pos y]
            show (d E w).bind _ = _
            rw [hd2]
            show (if (u = 0 ↔ o = 1) then (c E w).bind _ else _) = _
            rw [if_pos (by rw [← r5]; exact hcut (by omega)), hc2]
            rfl
          rw [dv]
          refine ⟨fun v z => ?_, fun z => (nomatch z)⟩
          injection z with z
          subst z
          exact ⟨m4 + 1, x4 + 1, _, by omega, by omega, yE_t yY4 (gvn_E ..), rfl, rfl, q3.trans (r6.trans (t3.trans (s6.trans t5)))⟩
        · have t6 := jo_bin n d' (β + f) (β + m) o (Y := Y4) (X := X) (by omega) (by omega) (by omega) (by omega) (by omega) (by omega) w8 w10 hk4 s4
          rw [f4.2.2.2.2.trans xq, s5] at t6
          rw [t6, nb_b1] at t5
          have dv : dnO o d c E w = bV o u b := by
            unfold dnO dnB
            rw [if_neg y]
            show (d E w).bind _ = _
            rw [hd2]
            show (c E w).bind _ = _
            rw [hc2]
            rfl
          rw [dv]
          cases hb2 : bV o u b with
          | some v =>
            rw [hb2] at t5
            refine ⟨fun v' z => ?_, fun z => (nomatch z)⟩
            injection z with z
            subst z
            exact ⟨m4 + 1, x4 + 1, gvn Y4 d' v, by omega, by omega, yE_t yY4 (gvn_E ..), rfl, rfl, q3.trans (r6.trans (t3.trans (s6.trans t5)))⟩
          | none =>
            rw [hb2] at t5
            refine ⟨fun v z => (nomatch z), fun _ => ?_⟩
            have t7 := wkr_0 n m4 (x4 + 1) (Y := fln Y4) (X := X) (by omega) rfl
            exact ⟨fln Y4, yE_t (yE_l yY4 (by omega)) (fln_E Y4), q3.trans (r6.trans (t3.trans (s6.trans (t5.trans t7))))⟩

theorem b1_s {α : Type} (x : Option α) : nd_b1 x (fun s => some s) = x := by
  cases x with
  | none => rfl
  | some a => rfl
theorem lc_sp {z : Int64} (h0 : ¬ z.toInt < 0) (h1 : z.toInt < 65536) : ∃ k : Nat, k < 65536 ∧ z.toInt32 = nI k ∧ z = (nI k).toInt64 := by
  have e : z.toInt32.toInt = z.toInt := by
    rw [Int64.toInt_toInt32]
    exact Int.bmod_eq_of_le (by omega) (by omega)
  have e2 : z.toInt32 = nI z.toInt.toNat := by
    apply Int32.toInt_inj.mp
    rw [e, nI_toInt (by omega)]
    omega
  refine ⟨z.toInt.toNat, by omega, e2, ?_⟩
  rw [← e2]
  apply Int64.toInt_inj.mp
  rw [Int32.toInt_toInt64, e]
/-- how many bytes a sign reads -/
def szO (o : Nat) : Nat := if o = 25 then 4 else if o = 26 then 2 else 1
def gd (o : Nat) (v : Int64) : Prop := ¬ v.toInt < 0 ∧ v.toInt < 65536 ∧ v - v / (nI (szO o)).toInt64 * (nI (szO o)).toInt64 = 0
/-- what stands there -/
def rdZ (X : St × St) (p o A : Nat) : Int64 := if o = 25 then (wd4 X p A).toInt64 else if o = 26 then (hw (wd4 X p A) (8 * (A / 2 % 2 * 2))).toInt16.toInt32.toInt64 else (bw (wd4 X p A) (8 * (A % 4))).toInt64
theorem gd_al {o A : Nat} (h : (nI A).toInt64 - (nI A).toInt64 / (nI (szO o)).toInt64 * (nI (szO o)).toInt64 = 0) (hA : A < 65536) : A % szO o = 0 := by
  have e := congrArg Int64.toInt32 h
  rw [nm_r32] at e
  refine (nm_rem (A := A) (k := szO o) (by omega) ?_).mp e
  unfold szO
  repeat (first | omega | split)
theorem nz_sz (o : Nat) {α : Type} {x : Option α} : nd_nz (decide ((nI (szO o)).toInt64 = 0)) x = x := by
  refine nz64 ?_
  unfold szO
  repeat (first | decide | split)
/-- the class reads -/
theorem in_no (n o : Nat) {v : Int64} {Cd : St} {M : St × St} (ho : 25 ≤ o) (ho2 : o ≤ 27) (h : sI M.1 3 = -nI 1 ∨ ¬ gd o v) {a : Nat} (ha : sI M.1 3 = -nI 1 ∨ (a < 16 ∧ sI M.1 3 = nI a)) : df_X2_inSpace n (nI o) v (nd_st0, (Cd, M)) = some (0, (nd_st0, (pI Cd 3 (nI 1), M))) := by
  have e : df_X2_inSpace n (nI o) v (nd_st0, (Cd, M)) = df_X2_inSpace_27 n v (sI M.1 3) (nI (szO o)) (nd_st0, (Cd, M)) := by
    have q : o = 25 ∨ o = 26 ∨ o = 27 := by omega
    rcases q with rfl | rfl | rfl
    all_goals (unfold df_X2_inSpace df_X2_inSpace_0 szO; simp (disch := (first | assumption | decide | omega)) only [eq_self, Nat.reduceEqDiff, Nat.reduceLeDiff, nl_1, nl_2, nl_4, nl_25, nl_26, no_1, no_1024, pk_mul, nI_add, nm_ck, nI_clamp, nI_ltI, nI_leI, nI_eq, nb_b2, nb_b1, ↓nb_let, nm_z0, nm_z1, nb_II, nb_IR, nb_RI, nb_RR, nm_IL, nm_IQ, nm_RL, nm_RQ, nm_LI, nm_LR, nm_LL, nm_LQ, nm_QI, nm_QR, nm_QL, nm_QQ, nm_rr, nm_ii, nm_eqm, not_false_eq_true, pk_sub, nm_div, nm_shl, nm_shr, nm_ush, nm_or8, nm_or64, nm_or256, nm_m1, nm_m3, nm_m7, nm_m15, nm_m31, nm_m63, nm_m255, nm_m511, nm_m1023, nm_m2047, nm_m65535, Nat.reduceMod, Nat.reducePow, Nat.reduceAdd, Nat.reduceSub, Nat.reduceMul, nm_bo, nm_bi, nm_rc, nm_ic, nm_ri, nm_rl, nm_rq, nm_ql, nm_qi, nm_li, nm_us, nm_uu, nm_cp, nm_sa31, nm_sa7, nm_m127, nm_m2, nm_nz, nm_nzk, nm_eq32, nm_nzf, if_true, if_false, ↓reduceIte, if_pos, if_neg])
  rw [e]
  unfold df_X2_inSpace_27
  have f : df_X2_inSpace_71 n (nd_st0, (Cd, M)) = some (0, (nd_st0, (pI Cd 3 (nI 1), M))) := rfl
  rw [f, nz_sz]
  by_cases c : sI M.1 3 = -nI 1
  · rw [c, if_pos (by decide)]
  · rcases ha with ha | ⟨a1, a2⟩
    · exact absurd ha c
    have hg : ¬ gd o v := by
      rcases h with h | h
      · exact absurd h c
      · exact h
    rw [a2, if_neg (show ¬ nI a < 0 from fun z => by have z : nI a < nI 0 := z; rw [nI_ltI (by omega) (by omega)] at z; omega)]
    by_cases c1 : v.toInt < 0
    · rw [if_pos ((lcA v 0).mpr c1)]
    · rw [if_neg (fun z => c1 ((lcA v 0).mp z))]
      by_cases c2 : v.toInt < 65536
      · rw [if_neg (fun z => absurd ((lcB v 65536).mp z) (by rw [show (65536 : Int64).toInt = 65536 from rfl]; omega))]
        rw [if_neg (fun z => hg ⟨c1, c2, (lcE _ _).mp z⟩)]
      · rw [if_pos ((lcB v 65536).mpr (by rw [show (65536 : Int64).toInt = 65536 from rfl]; omega))]
theorem in_ya (n o : Nat) {v : Int64} {Cd : St} {M : St × St} {a A : Nat} (ho : 25 ≤ o) (ho2 : o ≤ 27) (ha : a < 16) (h3 : sI M.1 3 = nI a) (hg : gd o v) (hA : v.toInt32 = nI A) {q : Int32} (hm : df_X6_may n (nI a) (nI A) (nI 7) M = some (q, M)) : df_X2_inSpace n (nI o) v (nd_st0, (Cd, M)) = if q = nI 0 then some (0, (nd_st0, (pI Cd 3 (nI 1), M))) else if o = 25 then nd_b2 (df_X6_wordAt n (nI a) (nI A) M) (fun x s => some (x.toInt64, (nd_st0, (Cd, s)))) else if o = 26 then nd_b2 (df_X6_halfAt n (nI a) (nI A) M) (fun x s => some (x.toInt16.toInt32.toInt64, (nd_st0, (Cd, s)))) else nd_b2 (df_X6_byteAt n (nI a) (nI A) M) (fun x s => some (x.toInt64, (nd_st0, (Cd, s)))) := by
  have e : df_X2_inSpace n (nI o) v (nd_st0, (Cd, M)) = df_X2_inSpace_27 n v (sI M.1 3) (nI (szO o)) (nd_st0, (Cd, M)) := by
    have q : o = 25 ∨ o = 26 ∨ o = 27 := by omega
    rcases q with rfl | rfl | rfl
    all_goals (unfold df_X2_inSpace df_X2_inSpace_0 szO; simp (disch := (first | assumption | decide | omega)) only [eq_self, Nat.reduceEqDiff, Nat.reduceLeDiff, nl_1, nl_2, nl_4, nl_25, nl_26, no_1, no_1024, pk_mul, nI_add, nm_ck, nI_clamp, nI_ltI, nI_leI, nI_eq, nb_b2, nb_b1, ↓nb_let, nm_z0, nm_z1, nb_II, nb_IR, nb_RI, nb_RR, nm_IL, nm_IQ, nm_RL, nm_RQ, nm_LI, nm_LR, nm_LL, nm_LQ, nm_QI, nm_QR, nm_QL, nm_QQ, nm_rr, nm_ii, nm_eqm, not_false_eq_true, pk_sub, nm_div, nm_shl, nm_shr, nm_ush, nm_or8, nm_or64, nm_or256, nm_m1, nm_m3, nm_m7, nm_m15, nm_m31, nm_m63, nm_m255, nm_m511, nm_m1023, nm_m2047, nm_m65535, Nat.reduceMod, Nat.reducePow, Nat.reduceAdd, Nat.reduceSub, Nat.reduceMul, nm_bo, nm_bi, nm_rc, nm_ic, nm_ri, nm_rl, nm_rq, nm_ql, nm_qi, nm_li, nm_us, nm_uu, nm_cp, nm_sa31, nm_sa7, nm_m127, nm_m2, nm_nz, nm_nzk, nm_eq32, nm_nzf, if_true, if_false, ↓reduceIte, if_pos, if_neg])
  rw [e]
  unfold df_X2_inSpace_27
  have f : df_X2_inSpace_71 n (nd_st0, (Cd, M)) = some (0, (nd_st0, (pI Cd 3 (nI 1), M))) := rfl
  rw [nz_sz, h3, if_neg (show ¬ nI a < 0 from fun z => by have z : nI a < nI 0 := z; rw [nI_ltI (by omega) (by omega)] at z; omega), if_neg (fun z => hg.1 ((lcA v 0).mp z)), if_neg (fun z => absurd ((lcB v 65536).mp z) (by rw [show (65536 : Int64).toInt = 65536 from rfl]; have := hg.2.1; omega)), if_pos ((lcE _ _).mpr hg.2.2), hA]
  show nd_b2 (df_X6_may n (nI a) (nI A) (nI 7) M) _ = _
  rw [hm, nb_b2]
  have q : o = 25 ∨ o = 26 ∨ o = 27 := by omega
  rcases q with rfl | rfl | rfl
  · rfl
  · rfl
  · rfl
/-- the reference reads -/
theorem hs_no (n o : Nat) {v : Int64} {X : St × St} {sz : Nat} (hz : sz = szO o) (h : sI X.1 1 = -nI 1 ∨ ¬ gd o v) (hn : 1 < n) : df_X16_has n v (nI sz) X = some (nI 0, X) := by
  obtain ⟨m, em⟩ : ∃ m : Nat, n = m + 1 := ⟨n - 1, by omega⟩
  have f : df_X16_has_35 n v (nI sz) X = some (nI 0, X) := by
    show df_X16_has_41 n n v (nI sz) 0 0 X = _
    have e : df_X16_has_41 n n = dF_X16_has_41 n (df_X16_has_41 n m) := (congrArg (df_X16_has_41 n) em).trans rfl
    rw [e]
    unfold dF_X16_has_41 df_X16_has_73
    have z : ¬ nI sz ≤ 0 := fun z => by
      have z : nI sz ≤ nI 0 := z
      rw [hz, nm_nle0 (by unfold szO; repeat (first | omega | split))] at z
      revert z
      unfold szO
      repeat (first | omega | split)
    rw [if_neg z, if_pos rfl]
    exact nm_z0
  unfold df_X16_has df_X16_has_0
  rw [f, hz, nz_sz]
  by_cases c : sI X.1 1 = -nI 1
  · rw [if_pos (show sI X.1 1 = -1 from c)]
  · have hg : ¬ gd o v := by
      rcases h with h | h
      · exact absurd h c
      · exact h
    rw [if_neg (show ¬ sI X.1 1 = -1 from c)]
    by_cases c1 : v.toInt < 0
    · rw [if_pos ((lcA v 0).mpr c1)]
    · rw [if_neg (fun z => c1 ((lcA v 0).mp z))]
      by_cases c2 : v.toInt < 65536
      · rw [if_neg (fun z => absurd ((lcC v 65535).mp z) (by rw [show (65535 : Int64).toInt = 65535 from rfl]; omega)), if_neg (fun z => hg ⟨c1, c2, (lcE _ _).mp z⟩)]
      · rw [if_pos ((lcC v 65535).mpr (by rw [show (65535 : Int64).toInt = 65535 from rfl]; omega))]
theorem hs_ya (n o : Nat) {v : Int64} {X : St × St} {sz : Nat} (hz : sz = szO o) (c : ¬ sI X.1 1 = -nI 1) (hg : gd o v) : df_X16_has n v (nI sz) X = df_X16_has_41 n n v (nI sz) (nI 1) (nI 0) X := by
  unfold df_X16_has df_X16_has_0
  rw [hz, nz_sz, if_neg (show ¬ sI X.1 1 = -1 from c), if_neg (fun z => hg.1 ((lcA v 0).mp z)), if_neg (fun z => absurd ((lcC v 65535).mp z) (by rw [show (65535 : Int64).toInt = 65535 from rfl]; have := hg.2.1; omega)), if_pos ((lcE _ _).mpr hg.2.2)]
  rfl
theorem hs_t (n m i sz a A : Nat) {v : Int64} {X : St × St} (hi : i < sz) (hs : sz ≤ 4) (ha : a < 16) (h1 : sI X.1 1 = nI a) (hv : v.toInt32 = nI A) (hA : A + i < 65536) : df_X16_has_41 n (m + 1) v (nI sz) (nI 1) (nI i) X = df_X16_has_41 n m v (nI sz) (if sR X.1 16 (64 * a + (A + i) / 1024) = -1 then 0 else 1) (nI (i + 1)) X := by
  have t := nb_there n ha hA X
  simp (disch := (first | assumption | decide | omega)) only [(show df_X16_has_41 n (m + 1) = dF_X16_has_41 n (df_X16_has_41 n m) from rfl), dF_X16_has_41, df_X16_has_73, df_X16_has_36, df_X16_has_35, df_X16_has_0, df_X16_has, h1, hv, t, eq_self, Nat.reduceEqDiff, Nat.reduceLeDiff, nl_0, nl_1, nl_65535, no_1, no_1024, pk_mul, nI_add, nm_ck, nI_clamp, nI_ltI, nI_leI, nI_eq, nb_b2, nb_b1, ↓nb_let, nm_z0, nm_z1, nb_II, nb_IR, nb_RI, nb_RR, nm_IL, nm_IQ, nm_RL, nm_RQ, nm_LI, nm_LR, nm_LL, nm_LQ, nm_QI, nm_QR, nm_QL, nm_QQ, nm_rr, nm_ii, nm_eqm, not_false_eq_true, pk_sub, nm_div, nm_shl, nm_shr, nm_ush, nm_or8, nm_or64, nm_or256, nm_m1, nm_m3, nm_m7, nm_m15, nm_m31, nm_m63, nm_m255, nm_m511, nm_m1023, nm_m2047, nm_m65535, Nat.reduceMod, Nat.reducePow, Nat.reduceAdd, Nat.reduceSub, Nat.reduceMul, nm_bo, nm_bi, nm_rc, nm_ic, nm_ri, nm_rl, nm_rq, nm_ql, nm_qi, nm_li, nm_us, nm_uu, nm_cp, nm_sa31, nm_sa7, nm_m127, nm_m2, nm_nz, nm_nzk, nm_eq32, nm_nzf, if_true, if_false, ↓reduceIte, if_pos, if_neg]
theorem hs_e (n m sz : Nat) {v : Int64} {X : St × St} {q : Int32} (hq : q = nI 0 ∨ q = nI 1) (hs : sz < 2 ^ 30) : df_X16_has_41 n (m + 1) v (nI sz) q (nI sz) X = some (q, X) := by
  rcases hq with rfl | rfl
  · simp (disch := (first | assumption | decide | omega)) only [(show df_X16_has_41 n (m + 1) = dF_X16_has_41 n (df_X16_has_41 n m) from rfl), dF_X16_has_41, df_X16_has_73, df_X16_has_36, df_X16_has_35, df_X16_has_0, df_X16_has, eq_self, Nat.reduceEqDiff, Nat.reduceLeDiff, nl_0, nl_1, nl_65535, no_1, no_1024, pk_mul, nI_add, nm_ck, nI_clamp, nI_ltI, nI_leI, nI_eq, nb_b2, nb_b1, ↓nb_let, nm_z0, nm_z1, nb_II, nb_IR, nb_RI, nb_RR, nm_IL, nm_IQ, nm_RL, nm_RQ, nm_LI, nm_LR, nm_LL, nm_LQ, nm_QI, nm_QR, nm_QL, nm_QQ, nm_rr, nm_ii, nm_eqm, not_false_eq_true, pk_sub, nm_div, nm_shl, nm_shr, nm_ush, nm_or8, nm_or64, nm_or256, nm_m1, nm_m3, nm_m7, nm_m15, nm_m31, nm_m63, nm_m255, nm_m511, nm_m1023, nm_m2047, nm_m65535, Nat.reduceMod, Nat.reducePow, Nat.reduceAdd, Nat.reduceSub, Nat.reduceMul, nm_bo, nm_bi, nm_rc, nm_ic, nm_ri, nm_rl, nm_rq, nm_ql, nm_qi, nm_li, nm_us, nm_uu, nm_cp, nm_sa31, nm_sa7, nm_m127, nm_m2, nm_nz, nm_nzk, nm_eq32, nm_nzf, if_true, if_false, ↓reduceIte, if_pos, if_neg]
  · simp (disch := (first | assumption | decide | omega)) only [(show df_X16_has_41 n (m + 1) = dF_X16_has_41 n (df_X16_has_41 n m) from rfl), dF_X16_has_41, df_X16_has_73, df_X16_has_36, df_X16_has_35, df_X16_has_0, df_X16_has, eq_self, Nat.reduceEqDiff, Nat.reduceLeDiff, nl_0, nl_1, nl_65535, no_1, no_1024, pk_mul, nI_add, nm_ck, nI_clamp, nI_ltI, nI_leI, nI_eq, nb_b2, nb_b1, ↓nb_let, nm_z0, nm_z1, nb_II, nb_IR, nb_RI, nb_RR, nm_IL, nm_IQ, nm_RL, nm_RQ, nm_LI, nm_LR, nm_LL, nm_LQ, nm_QI, nm_QR, nm_QL, nm_QQ, nm_rr, nm_ii, nm_eqm, not_false_eq_true, pk_sub, nm_div, nm_shl, nm_shr, nm_ush, nm_or8, nm_or64, nm_or256, nm_m1, nm_m3, nm_m7, nm_m15, nm_m31, nm_m63, nm_m255, nm_m511, nm_m1023, nm_m2047, nm_m65535, Nat.reduceMod, Nat.reducePow, Nat.reduceAdd, Nat.reduceSub, Nat.reduceMul, nm_bo, nm_bi, nm_rc, nm_ic, nm_ri, nm_rl, nm_rq, nm_ql, nm_qi, nm_li, nm_us, nm_uu, nm_cp, nm_sa31, nm_sa7, nm_m127, nm_m2, nm_nz, nm_nzk, nm_eq32, nm_nzf, if_true, if_false, ↓reduceIte, if_pos, if_neg]
theorem hs_0 (n m sz i : Nat) {v : Int64} {X : St × St} : df_X16_has_41 n (m + 1) v (nI sz) 0 (nI i) X = some (nI 0, X) := by
  show dF_X16_has_41 n (df_X16_has_41 n m) v (nI sz) 0 (nI i) X = _
  unfold dF_X16_has_41 df_X16_has_73
  split
  · exact nm_z0
  · exact nm_z0
theorem cl_1 (n : Nat) {X : St × St} {p A f : Nat} (hp : p < 16) (hA : A < 65536) (h1 : sI X.1 1 = nI p) (hf : f < 256) (e : sR X.1 16 (64 * p + A / 1024) = nI f) : df_X16_cell n (nI A) X = some (bw (wd4 X p A) (8 * (A % 4)), X) := by
  have t := nb_there n hp hA X
  rw [e, if_neg (show ¬ nI f = -1 from fun z => nk_ne (by omega) z)] at t
  have g := nb_get n (A := 65536 * p + A) (by omega) X
  have i1 : (65536 * p + A) / 4 = (64 * p + A / 1024) * 256 + A / 4 % 256 := by omega
  have i2 : (65536 * p + A) % 4 = A % 4 := by omega
  have i3 : (8 : Int32) * nI (A % 4) = nI (8 * (A % 4)) := pk_mul ..
  rw [i1, i2, i3] at g
  have g : df_X16_get n (nI (65536 * p + A)) X = some (bw (wd4 X p A) (8 * (A % 4)), X) := g
  have t : df_X16_isThere n (nI p) (nI A) X = some (nI 1, X) := t
  simp (disch := (first | assumption | decide | omega)) only [df_X16_cell_0, df_X16_cell, df_X16_peek_23, df_X16_peek_0, df_X16_peek, h1, t, g, eq_self, Nat.reduceEqDiff, Nat.reduceLeDiff, nl_0, nl_1, nl_65536, no_1, no_1024, pk_mul, nI_add, nm_ck, nI_clamp, nI_ltI, nI_leI, nI_eq, nb_b2, nb_b1, ↓nb_let, nm_z0, nm_z1, nb_II, nb_IR, nb_RI, nb_RR, nm_IL, nm_IQ, nm_RL, nm_RQ, nm_LI, nm_LR, nm_LL, nm_LQ, nm_QI, nm_QR, nm_QL, nm_QQ, nm_rr, nm_ii, nm_eqm, not_false_eq_true, pk_sub, nm_div, nm_shl, nm_shr, nm_ush, nm_or8, nm_or64, nm_or256, nm_m1, nm_m3, nm_m7, nm_m15, nm_m31, nm_m63, nm_m255, nm_m511, nm_m1023, nm_m2047, nm_m65535, Nat.reduceMod, Nat.reducePow, Nat.reduceAdd, Nat.reduceSub, Nat.reduceMul, nm_bo, nm_bi, nm_rc, nm_ic, nm_ri, nm_rl, nm_rq, nm_ql, nm_qi, nm_li, nm_us, nm_uu, nm_cp, nm_sa31, nm_sa7, nm_m127, nm_m2, nm_nz, nm_nzk, nm_eq32, nm_nzf, if_true, if_false, ↓reduceIte, if_pos, if_neg]
theorem ac_t (n m i sz : Nat) {v : Int64} {Y : St} {X : St × St} {A : Nat} {x b : Int32} (hi : i < sz) (hs : sz ≤ 4) (hv : v.toInt32 = nI A) (hc : df_X16_cell n (nI (A + i)) X = some (b, X)) : df_X15_access_47 n (m + 1) v (nI sz) x (nI i) (Y, X) = df_X15_access_47 n m v (nI sz) (x ||| (b <<< nI (8 * i))) (nI (i + 1)) (Y, X) := by
  have e : 8 * i % 32 = 8 * i := by omega
  simp (disch := (first | assumption | decide | omega)) only [(show df_X15_access_47 n (m + 1) = dF_X15_access_47 n (df_X15_access_47 n m) from rfl), dF_X15_access_47, df_X15_access_105, df_X15_access_21, df_X15_access_0, df_X15_access, hv, hc, e, eq_self, Nat.reduceEqDiff, Nat.reduceLeDiff, nl_0, nl_1, nl_2, nl_4, nl_7, nl_8, nl_16, nl_31, nl_32, no_1, no_1024, pk_mul, nI_add, nm_ck, nI_clamp, nI_ltI, nI_leI, nI_eq, nb_b2, nb_b1, ↓nb_let, nm_z0, nm_z1, nb_II, nb_IR, nb_RI, nb_RR, nm_IL, nm_IQ, nm_RL, nm_RQ, nm_LI, nm_LR, nm_LL, nm_LQ, nm_QI, nm_QR, nm_QL, nm_QQ, nm_rr, nm_ii, nm_eqm, not_false_eq_true, pk_sub, nm_div, nm_shl, nm_shr, nm_ush, nm_or8, nm_or64, nm_or256, nm_m1, nm_m3, nm_m7, nm_m15, nm_m31, nm_m63, nm_m255, nm_m511, nm_m1023, nm_m2047, nm_m65535, Nat.reduceMod, Nat.reducePow, Nat.reduceAdd, Nat.reduceSub, Nat.reduceMul, nm_bo, nm_bi, nm_rc, nm_ic, nm_ri, nm_rl, nm_rq, nm_ql, nm_qi, nm_li, nm_us, nm_uu, nm_cp, nm_sa31, nm_sa7, nm_m127, nm_m2, nm_nz, nm_nzk, nm_eq32, nm_nzf, if_true, if_false, ↓reduceIte, if_pos, if_neg]
theorem ac_e (n m sz : Nat) {v : Int64} {Y : St} {X : St × St} {x : Int32} (hs : sz ≤ 4) : df_X15_access_47 n (m + 1) v (nI sz) x (nI sz) (Y, X) = df_X15_give n (if sz = 2 then (x <<< nI 16 >>> nI 16).toInt64 else x.toInt64) (Y, X) := by
  by_cases c : sz = 2
  · subst c
    rw [if_pos rfl]
    simp (disch := (first | assumption | decide | omega)) only [(show df_X15_access_47 n (m + 1) = dF_X15_access_47 n (df_X15_access_47 n m) from rfl), dF_X15_access_47, df_X15_access_105, df_X15_access_21, df_X15_access_0, df_X15_access, eq_self, Nat.reduceEqDiff, Nat.reduceLeDiff, nl_0, nl_1, nl_2, nl_4, nl_7, nl_8, nl_16, nl_31, nl_32, no_1, no_1024, pk_mul, nI_add, nm_ck, nI_clamp, nI_ltI, nI_leI, nI_eq, nb_b2, nb_b1, ↓nb_let, nm_z0, nm_z1, nb_II, nb_IR, nb_RI, nb_RR, nm_IL, nm_IQ, nm_RL, nm_RQ, nm_LI, nm_LR, nm_LL, nm_LQ, nm_QI, nm_QR, nm_QL, nm_QQ, nm_rr, nm_ii, nm_eqm, not_false_eq_true, pk_sub, nm_div, nm_shl, nm_shr, nm_ush, nm_or8, nm_or64, nm_or256, nm_m1, nm_m3, nm_m7, nm_m15, nm_m31, nm_m63, nm_m255, nm_m511, nm_m1023, nm_m2047, nm_m65535, Nat.reduceMod, Nat.reducePow, Nat.reduceAdd, Nat.reduceSub, Nat.reduceMul, nm_bo, nm_bi, nm_rc, nm_ic, nm_ri, nm_rl, nm_rq, nm_ql, nm_qi, nm_li, nm_us, nm_uu, nm_cp, nm_sa31, nm_sa7, nm_m127, nm_m2, nm_nz, nm_nzk, nm_eq32, nm_nzf, if_true, if_false, ↓reduceIte, if_pos, if_neg]
    exact b1_s _
  · rw [if_neg c]
    simp (disch := (first | assumption | decide | omega)) only [(show df_X15_access_47 n (m + 1) = dF_X15_access_47 n (df_X15_access_47 n m) from rfl), dF_X15_access_47, df_X15_access_105, df_X15_access_21, df_X15_access_0, df_X15_access, eq_self, Nat.reduceEqDiff, Nat.reduceLeDiff, nl_0, nl_1, nl_2, nl_4, nl_7, nl_8, nl_16, nl_31, nl_32, no_1, no_1024, pk_mul, nI_add, nm_ck, nI_clamp, nI_ltI, nI_leI, nI_eq, nb_b2, nb_b1, ↓nb_let, nm_z0, nm_z1, nb_II, nb_IR, nb_RI, nb_RR, nm_IL, nm_IQ, nm_RL, nm_RQ, nm_LI, nm_LR, nm_LL, nm_LQ, nm_QI, nm_QR, nm_QL, nm_QQ, nm_rr, nm_ii, nm_eqm, not_false_eq_true, pk_sub, nm_div, nm_shl, nm_shr, nm_ush, nm_or8, nm_or64, nm_or256, nm_m1, nm_m3, nm_m7, nm_m15, nm_m31, nm_m63, nm_m255, nm_m511, nm_m1023, nm_m2047, nm_m65535, Nat.reduceMod, Nat.reducePow, Nat.reduceAdd, Nat.reduceSub, Nat.reduceMul, nm_bo, nm_bi, nm_rc, nm_ic, nm_ri, nm_rl, nm_rq, nm_ql, nm_qi, nm_li, nm_us, nm_uu, nm_cp, nm_sa31, nm_sa7, nm_m127, nm_m2, nm_nz, nm_nzk, nm_eq32, nm_nzf, if_true, if_false, ↓reduceIte, if_pos, if_neg]
    exact b1_s _
theorem ac_0 (n o k : Nat) {v : Int64} {Y : St} {X : St × St} (hok : o = 25 ∧ k = 32 ∨ o = 26 ∧ k = 7 ∨ o = 27 ∧ k = 6) {q : Int32} (h : df_X16_has n v (nI (szO o)) X = some (q, X)) : df_X15_access n (nI k) v (Y, X) = if q = 0 then df_X15_fail n (Y, X) else df_X15_access_47 n n v (nI (szO o)) (nI 0) (nI 0) (Y, X) := by
  have e : df_X15_access n (nI k) v (Y, X) = df_X15_access_21 n v (nI (szO o)) (Y, X) := by
    rcases hok with ⟨rfl, rfl⟩ | ⟨rfl, rfl⟩ | ⟨rfl, rfl⟩
    all_goals (unfold df_X15_access df_X15_access_0 szO; simp (disch := (first | assumption | decide | omega)) only [eq_self, Nat.reduceEqDiff, Nat.reduceLeDiff, nl_1, nl_2, nl_4, nl_7, nl_32, no_1, no_1024, pk_mul, nI_add, nm_ck, nI_clamp, nI_ltI, nI_leI, nI_eq, nb_b2, nb_b1, ↓nb_let, nm_z0, nm_z1, nb_II, nb_IR, nb_RI, nb_RR, nm_IL, nm_IQ, nm_RL, nm_RQ, nm_LI, nm_LR, nm_LL, nm_LQ, nm_QI, nm_QR, nm_QL, nm_QQ, nm_rr, nm_ii, nm_eqm, not_false_eq_true, pk_sub, nm_div, nm_shl, nm_shr, nm_ush, nm_or8, nm_or64, nm_or256, nm_m1, nm_m3, nm_m7, nm_m15, nm_m31, nm_m63, nm_m255, nm_m511, nm_m1023, nm_m2047, nm_m65535, Nat.reduceMod, Nat.reducePow, Nat.reduceAdd, Nat.reduceSub, Nat.reduceMul, nm_bo, nm_bi, nm_rc, nm_ic, nm_ri, nm_rl, nm_rq, nm_ql, nm_qi, nm_li, nm_us, nm_uu, nm_cp, nm_sa31, nm_sa7, nm_m127, nm_m2, nm_nz, nm_nzk, nm_eq32, nm_nzf, if_true, if_false, ↓reduceIte, if_pos, if_neg])
  rw [e]
  unfold df_X15_access_21
  show nd_b2 (df_X16_has n v (nI (szO o)) X) _ = _
  rw [h, nb_b2]
  show (if q = 0 then nd_b1 (df_X15_fail n (Y, X)) (fun s => some s) else _) = _
  rw [b1_s]
  rfl

