theorem uP_h {o r : Nat} {fo : Option (Nat × Nat)} (h : 19 ≤ o) : uP o r fo = fo := if_pos h
theorem uP_n {o r : Nat} (h : o ≤ 18) : uP o r none = some (r, o) := by
  unfold uP
  rw [if_neg (by omega)]
theorem uP_a {o r : Nat} {q : Nat × Nat} (h : o ≤ 18) (c : rk o ≤ rk q.2) : uP o r (some q) = some (r, o) := by
  unfold uP
  rw [if_neg (by omega)]
  exact if_pos c
theorem uP_b {o r : Nat} {q : Nat × Nat} (c : 19 ≤ o ∨ ¬ rk o ≤ rk q.2) : uP o r (some q) = some q := by
  unfold uP
  by_cases h : 19 ≤ o
  · rw [if_pos h]
  · rw [if_neg h]
    exact if_neg (by omega)
theorem uP_3 {o r oa ra ob rb : Nat} {fo : Option (Nat × Nat)} (h : o ≤ 18) (hA : 19 ≤ oa ∨ rk o ≤ rk oa) (hB : 19 ≤ ob ∨ rk o < rk ob) : uP ob rb (uP o r (uP oa ra fo)) = uP o r fo := by
  have k : ∀ q : Nat × Nat, uP ob rb (uP o r (some q)) = uP o r (some q) := fun q => by
    by_cases c : rk o ≤ rk q.2
    · rw [uP_a h c]
      exact uP_b (by rcases hB with z | z; exact Or.inl z; exact Or.inr (by show ¬ rk ob ≤ rk o; omega))
    · rw [uP_b (Or.inr c)]
      exact uP_b (by rcases hB with z | z; exact Or.inl z; exact Or.inr (by omega))
  cases fo with
  | none =>
    by_cases a : 19 ≤ oa
    · rw [uP_h a, uP_n h]
      exact uP_b (by rcases hB with z | z; exact Or.inl z; exact Or.inr (by show ¬ rk ob ≤ rk o; omega))
    · rw [uP_n (by omega), k, uP_a h (by show rk o ≤ rk oa; omega), uP_n h]
  | some q =>
    by_cases a : 19 ≤ oa
    · rw [uP_h a, k]
    · by_cases c : rk oa ≤ rk q.2
      · rw [uP_a (by omega) c, k, uP_a h (by show rk o ≤ rk oa; omega), uP_a h (by omega)]
      · rw [uP_b (Or.inr c), k]
/-- what the reference's machine answers where a condition asks -/
def eR (n : Nat) (X : St × St) (E : Evn) : Prop := (∀ r : Nat, r ≤ 32 → ∃ v : Int32, df_X16_value n (nI r) X = some (v, X) ∧ v.toInt64 = E.1 r) ∧ df_X16_count n (nI 2) X = some (E.2.1, X) ∧ (∃ v : Int32, df_X16_now n X = some (v, X) ∧ v.toInt64 = E.2.2.1) ∧ ∀ (o k : Nat) (v : Int64) (Y : St), (o = 25 ∧ k = 32 ∨ o = 26 ∧ k = 7 ∨ o = 27 ∧ k = 6) → df_X15_access n (nI k) v (Y, X) = match E.2.2.2 o v with | some x => df_X15_give n x (Y, X) | none => df_X15_fail n (Y, X)
def fln (Y : St) : St := pI (pI (pL Y 1 0) 7 (nI 0)) 8 (nI 1)
theorem fl_1 (n : Nat) {Y : St} {X : St × St} : df_X15_fail n (Y, X) = some (fln Y, X) := by
  simp (disch := (first | assumption | decide | omega)) only [df_X15_fail_0, df_X15_fail, eq_self, Nat.reduceEqDiff, Nat.reduceLeDiff, nl_0, nl_1, nl_7, nl_8, no_1, no_1024, pk_mul, nI_add, nm_ck, nI_clamp, nI_ltI, nI_leI, nI_eq, nb_b2, nb_b1, ↓nb_let, nm_z0, nm_z1, nb_II, nb_IR, nb_RI, nb_RR, nm_IL, nm_IQ, nm_RL, nm_RQ, nm_LI, nm_LR, nm_LL, nm_LQ, nm_QI, nm_QR, nm_QL, nm_QQ, nm_rr, nm_ii, nm_eqm, not_false_eq_true, pk_sub, nm_div, nm_shl, nm_shr, nm_ush, nm_or8, nm_or64, nm_or256, nm_m1, nm_m3, nm_m7, nm_m15, nm_m31, nm_m63, nm_m255, nm_m511, nm_m1023, nm_m2047, nm_m65535, Nat.reduceMod, Nat.reducePow, Nat.reduceAdd, Nat.reduceSub, Nat.reduceMul, nm_bo, nm_bi, nm_rc, nm_ic, nm_ri, nm_rl, nm_rq, nm_ql, nm_qi, nm_li, nm_us, nm_uu, nm_cp, nm_sa31, nm_sa7, nm_m127, nm_m2, nm_nz, nm_nzk, nm_eq32, nm_nzf, if_true, if_false, ↓reduceIte, if_pos, if_neg]
  rfl
theorem fln_E (Y : St) : yE 0 Y (fln Y) := ⟨yFr_m rfl rfl rfl rfl rfl, rfl, fun i hi => by omega⟩
/-- join -/
theorem jo_un (n d a o k : Nat) {Y : St} {X : St × St} (hk : o = 19 ∧ k = 28 ∨ o = 20 ∧ k = 24 ∨ o = 21 ∧ k = 29) (hd : d < 128) (ha : a < 960) (h8 : sR Y 8 d = nI a) (h10 : sR Y 10 d = nI a) (h3 : sR Y 3 a = nI k) (h7 : sI Y 7 = nI (d + 1)) : df_X15_join n (nI d) (Y, X) = some (gvn Y d (uV o (sL Y 1)), X) := by
  have hg : ∀ v : Int64, df_X15_give n v (Y, X) = some (gvn Y d v, X) := fun v => gv_1 n d (by omega) h7
  have t0 : df_X15_truth n (nI 0) () = some (0, ()) := tr_R n false
  have t1 : df_X15_truth n (nI 1) () = some (1, ()) := tr_R n true
  rcases hk with ⟨rfl, rfl⟩ | ⟨rfl, rfl⟩ | ⟨rfl, rfl⟩
  · by_cases c : sL Y 1 = 0
    · simp (disch := (first | assumption | decide | omega)) only [df_X15_join_212, df_X15_join_131, df_X15_join_200, df_X15_join_186, df_X15_join_165, df_X15_join_85, df_X15_join_66, df_X15_join_43, df_X15_join_0, df_X15_join, h8, h10, h3, hg, t0, t1, lc_eq, c, uV, eq_self, Nat.reduceEqDiff, Nat.reduceLeDiff, nl_0, nl_1, nl_3, nl_6, nl_7, nl_8, nl_9, nl_10, nl_24, nl_26, nl_27, nl_28, nl_29, nl_32, nl_130, nl_960, no_1, no_1024, pk_mul, nI_add, nm_ck, nI_clamp, nI_ltI, nI_leI, nI_eq, nb_b2, nb_b1, ↓nb_let, nm_z0, nm_z1, nb_II, nb_IR, nb_RI, nb_RR, nm_IL, nm_IQ, nm_RL, nm_RQ, nm_LI, nm_LR, nm_LL, nm_LQ, nm_QI, nm_QR, nm_QL, nm_QQ, nm_rr, nm_ii, nm_eqm, not_false_eq_true, pk_sub, nm_div, nm_shl, nm_shr, nm_ush, nm_or8, nm_or64, nm_or256, nm_m1, nm_m3, nm_m7, nm_m15, nm_m31, nm_m63, nm_m255, nm_m511, nm_m1023, nm_m2047, nm_m65535, Nat.reduceMod, Nat.reducePow, Nat.reduceAdd, Nat.reduceSub, Nat.reduceMul, nm_bo, nm_bi, nm_rc, nm_ic, nm_ri, nm_rl, nm_rq, nm_ql, nm_qi, nm_li, nm_us, nm_uu, nm_cp, nm_sa31, nm_sa7, nm_m127, nm_m2, nm_nz, nm_nzk, nm_eq32, nm_nzf, if_true, if_false, ↓reduceIte, if_pos, if_neg]
    · simp (disch := (first | assumption | decide | omega)) only [df_X15_join_212, df_X15_join_131, df_X15_join_200, df_X15_join_186, df_X15_join_165, df_X15_join_85, df_X15_join_66, df_X15_join_43, df_X15_join_0, df_X15_join, h8, h10, h3, hg, t0, t1, lc_eq, c, uV, eq_self, Nat.reduceEqDiff, Nat.reduceLeDiff, nl_0, nl_1, nl_3, nl_6, nl_7, nl_8, nl_9, nl_10, nl_24, nl_26, nl_27, nl_28, nl_29, nl_32, nl_130, nl_960, no_1, no_1024, pk_mul, nI_add, nm_ck, nI_clamp, nI_ltI, nI_leI, nI_eq, nb_b2, nb_b1, ↓nb_let, nm_z0, nm_z1, nb_II, nb_IR, nb_RI, nb_RR, nm_IL, nm_IQ, nm_RL, nm_RQ, nm_LI, nm_LR, nm_LL, nm_LQ, nm_QI, nm_QR, nm_QL, nm_QQ, nm_rr, nm_ii, nm_eqm, not_false_eq_true, pk_sub, nm_div, nm_shl, nm_shr, nm_ush, nm_or8, nm_or64, nm_or256, nm_m1, nm_m3, nm_m7, nm_m15, nm_m31, nm_m63, nm_m255, nm_m511, nm_m1023, nm_m2047, nm_m65535, Nat.reduceMod, Nat.reducePow, Nat.reduceAdd, Nat.reduceSub, Nat.reduceMul, nm_bo, nm_bi, nm_rc, nm_ic, nm_ri, nm_rl, nm_rq, nm_ql, nm_qi, nm_li, nm_us, nm_uu, nm_cp, nm_sa31, nm_sa7, nm_m127, nm_m2, nm_nz, nm_nzk, nm_eq32, nm_nzf, if_true, if_false, ↓reduceIte, if_pos, if_neg]
  · simp (disch := (first | assumption | decide | omega)) only [df_X15_join_212, df_X15_join_131, df_X15_join_200, df_X15_join_186, df_X15_join_165, df_X15_join_85, df_X15_join_66, df_X15_join_43, df_X15_join_0, df_X15_join, h8, h10, h3, hg, uV, eq_self, Nat.reduceEqDiff, Nat.reduceLeDiff, nl_0, nl_1, nl_3, nl_6, nl_7, nl_8, nl_9, nl_10, nl_24, nl_26, nl_27, nl_28, nl_29, nl_32, nl_130, nl_960, no_1, no_1024, pk_mul, nI_add, nm_ck, nI_clamp, nI_ltI, nI_leI, nI_eq, nb_b2, nb_b1, ↓nb_let, nm_z0, nm_z1, nb_II, nb_IR, nb_RI, nb_RR, nm_IL, nm_IQ, nm_RL, nm_RQ, nm_LI, nm_LR, nm_LL, nm_LQ, nm_QI, nm_QR, nm_QL, nm_QQ, nm_rr, nm_ii, nm_eqm, not_false_eq_true, pk_sub, nm_div, nm_shl, nm_shr, nm_ush, nm_or8, nm_or64, nm_or256, nm_m1, nm_m3, nm_m7, nm_m15, nm_m31, nm_m63, nm_m255, nm_m511, nm_m1023, nm_m2047, nm_m65535, Nat.reduceMod, Nat.reducePow, Nat.reduceAdd, Nat.reduceSub, Nat.reduceMul, nm_bo, nm_bi, nm_rc, nm_ic, nm_ri, nm_rl, nm_rq, nm_ql, nm_qi, nm_li, nm_us, nm_uu, nm_cp, nm_sa31, nm_sa7, nm_m127, nm_m2, nm_nz, nm_nzk, nm_eq32, nm_nzf, if_true, if_false, ↓reduceIte, if_pos, if_neg]
  · simp (disch := (first | assumption | decide | omega)) only [df_X15_join_212, df_X15_join_131, df_X15_join_200, df_X15_join_186, df_X15_join_165, df_X15_join_85, df_X15_join_66, df_X15_join_43, df_X15_join_0, df_X15_join, h8, h10, h3, hg, uV, eq_self, Nat.reduceEqDiff, Nat.reduceLeDiff, nl_0, nl_1, nl_3, nl_6, nl_7, nl_8, nl_9, nl_10, nl_24, nl_26, nl_27, nl_28, nl_29, nl_32, nl_130, nl_960, no_1, no_1024, pk_mul, nI_add, nm_ck, nI_clamp, nI_ltI, nI_leI, nI_eq, nb_b2, nb_b1, ↓nb_let, nm_z0, nm_z1, nb_II, nb_IR, nb_RI, nb_RR, nm_IL, nm_IQ, nm_RL, nm_RQ, nm_LI, nm_LR, nm_LL, nm_LQ, nm_QI, nm_QR, nm_QL, nm_QQ, nm_rr, nm_ii, nm_eqm, not_false_eq_true, pk_sub, nm_div, nm_shl, nm_shr, nm_ush, nm_or8, nm_or64, nm_or256, nm_m1, nm_m3, nm_m7, nm_m15, nm_m31, nm_m63, nm_m255, nm_m511, nm_m1023, nm_m2047, nm_m65535, Nat.reduceMod, Nat.reducePow, Nat.reduceAdd, Nat.reduceSub, Nat.reduceMul, nm_bo, nm_bi, nm_rc, nm_ic, nm_ri, nm_rl, nm_rq, nm_ql, nm_qi, nm_li, nm_us, nm_uu, nm_cp, nm_sa31, nm_sa7, nm_m127, nm_m2, nm_nz, nm_nzk, nm_eq32, nm_nzf, if_true, if_false, ↓reduceIte, if_pos, if_neg]
theorem jo_mem (n d a b k : Nat) {Y Z : St} {X : St × St} (hk : k = 32 ∨ k = 7 ∨ k = 6) (hd : d < 128) (ha : a < 960) (hb : b < 960) (h8 : sR Y 8 d = nI b) (h10 : sR Y 10 d = nI a) (h3 : sR Y 3 a = nI k) (hx : df_X15_access n (nI k) (sL Y 1) (Y, X) = some (Z, X)) : df_X15_join n (nI d) (Y, X) = some (Z, X) := by
  have kk : ∀ y0 : Int32, y0 = nI 0 ∨ y0 = nI 1 → df_X15_join_43 n (nI a) (nI k) (sQ Y 3 d) (sL Y 1) y0 (Y, X) = some (Z, X) := fun y0 hy => by
    rcases hk with rfl | rfl | rfl
    all_goals (rcases hy with rfl | rfl)
    all_goals simp (disch := (first | assumption | decide | omega)) only [df_X15_join_43, df_X15_join_66, df_X15_join_131, df_X15_join_212, hx, eq_self, Nat.reduceEqDiff, Nat.reduceLeDiff, nl_0, nl_1, nl_6, nl_7, nl_9, nl_24, nl_26, nl_27, nl_28, nl_29, nl_32, nl_960, no_1, no_1024, pk_mul, nI_add, nm_ck, nI_clamp, nI_ltI, nI_leI, nI_eq, nb_b2, nb_b1, ↓nb_let, nm_z0, nm_z1, nb_II, nb_IR, nb_RI, nb_RR, nm_IL, nm_IQ, nm_RL, nm_RQ, nm_LI, nm_LR, nm_LL, nm_LQ, nm_QI, nm_QR, nm_QL, nm_QQ, nm_rr, nm_ii, nm_eqm, not_false_eq_true, pk_sub, nm_div, nm_shl, nm_shr, nm_ush, nm_or8, nm_or64, nm_or256, nm_m1, nm_m3, nm_m7, nm_m15, nm_m31, nm_m63, nm_m255, nm_m511, nm_m1023, nm_m2047, nm_m65535, Nat.reduceMod, Nat.reducePow, Nat.reduceAdd, Nat.reduceSub, Nat.reduceMul, nm_bo, nm_bi, nm_rc, nm_ic, nm_ri, nm_rl, nm_rq, nm_ql, nm_qi, nm_li, nm_us, nm_uu, nm_cp, nm_sa31, nm_sa7, nm_m127, nm_m2, nm_nz, nm_nzk, nm_eq32, nm_nzf, if_true, if_false, ↓reduceIte, if_pos, if_neg]
  by_cases c : a = b
  · subst c
    have q := kk (nI 1) (Or.inr rfl)
    unfold df_X15_join df_X15_join_0
    simp (disch := (first | assumption | decide | omega)) only [h8, h10, h3, q, eq_self, Nat.reduceEqDiff, Nat.reduceLeDiff, nl_0, nl_1, no_1, no_1024, pk_mul, nI_add, nm_ck, nI_clamp, nI_ltI, nI_leI, nI_eq, nb_b2, nb_b1, ↓nb_let, nm_z0, nm_z1, nb_II, nb_IR, nb_RI, nb_RR, nm_IL, nm_IQ, nm_RL, nm_RQ, nm_LI, nm_LR, nm_LL, nm_LQ, nm_QI, nm_QR, nm_QL, nm_QQ, nm_rr, nm_ii, nm_eqm, not_false_eq_true, pk_sub, nm_div, nm_shl, nm_shr, nm_ush, nm_or8, nm_or64, nm_or256, nm_m1, nm_m3, nm_m7, nm_m15, nm_m31, nm_m63, nm_m255, nm_m511, nm_m1023, nm_m2047, nm_m65535, Nat.reduceMod, Nat.reducePow, Nat.reduceAdd, Nat.reduceSub, Nat.reduceMul, nm_bo, nm_bi, nm_rc, nm_ic, nm_ri, nm_rl, nm_rq, nm_ql, nm_qi, nm_li, nm_us, nm_uu, nm_cp, nm_sa31, nm_sa7, nm_m127, nm_m2, nm_nz, nm_nzk, nm_eq32, nm_nzf, if_true, if_false, ↓reduceIte, if_pos, if_neg]
  · have q := kk (nI 0) (Or.inl rfl)
    unfold df_X15_join df_X15_join_0
    simp (disch := (first | assumption | decide | omega)) only [h8, h10, h3, q, eq_self, Nat.reduceEqDiff, Nat.reduceLeDiff, nl_0, nl_1, no_1, no_1024, pk_mul, nI_add, nm_ck, nI_clamp, nI_ltI, nI_leI, nI_eq, nb_b2, nb_b1, ↓nb_let, nm_z0, nm_z1, nb_II, nb_IR, nb_RI, nb_RR, nm_IL, nm_IQ, nm_RL, nm_RQ, nm_LI, nm_LR, nm_LL, nm_LQ, nm_QI, nm_QR, nm_QL, nm_QQ, nm_rr, nm_ii, nm_eqm, not_false_eq_true, pk_sub, nm_div, nm_shl, nm_shr, nm_ush, nm_or8, nm_or64, nm_or256, nm_m1, nm_m3, nm_m7, nm_m15, nm_m31, nm_m63, nm_m255, nm_m511, nm_m1023, nm_m2047, nm_m65535, Nat.reduceMod, Nat.reducePow, Nat.reduceAdd, Nat.reduceSub, Nat.reduceMul, nm_bo, nm_bi, nm_rc, nm_ic, nm_ri, nm_rl, nm_rq, nm_ql, nm_qi, nm_li, nm_us, nm_uu, nm_cp, nm_sa31, nm_sa7, nm_m127, nm_m2, nm_nz, nm_nzk, nm_eq32, nm_nzf, if_true, if_false, ↓reduceIte, if_pos, if_neg]
theorem jo_chg (n d a : Nat) {Y : St} {X : St × St} (hd : d < 128) (ha : a < 960) (h8 : sR Y 8 d = nI a) (h10 : sR Y 10 d = nI a) (h3 : sR Y 3 a = nI 9) (h7 : sI Y 7 = nI (d + 1)) : df_X15_join n (nI d) (Y, X) = some (gvn Y d (if sL Y 1 = sQ Y 1 a then 0 else 1), X) := by
  have hg : ∀ v : Int64, df_X15_give n v (Y, X) = some (gvn Y d v, X) := fun v => gv_1 n d (by omega) h7
  have t0 : df_X15_truth n (nI 0) () = some (0, ()) := tr_R n false
  have t1 : df_X15_truth n (nI 1) () = some (1, ()) := tr_R n true
  by_cases c : sL Y 1 = sQ Y 1 a
  · rw [if_pos c]
    simp (disch := (first | assumption | decide | omega)) only [df_X15_join_212, df_X15_join_131, df_X15_join_200, df_X15_join_186, df_X15_join_165, df_X15_join_85, df_X15_join_66, df_X15_join_43, df_X15_join_0, df_X15_join, h8, h10, h3, hg, t0, t1, lc_eq, c, eq_self, Nat.reduceEqDiff, Nat.reduceLeDiff, nl_0, nl_1, nl_3, nl_6, nl_7, nl_8, nl_9, nl_10, nl_24, nl_26, nl_27, nl_28, nl_29, nl_32, nl_130, nl_960, no_1, no_1024, pk_mul, nI_add, nm_ck, nI_clamp, nI_ltI, nI_leI, nI_eq, nb_b2, nb_b1, ↓nb_let, nm_z0, nm_z1, nb_II, nb_IR, nb_RI, nb_RR, nm_IL, nm_IQ, nm_RL, nm_RQ, nm_LI, nm_LR, nm_LL, nm_LQ, nm_QI, nm_QR, nm_QL, nm_QQ, nm_rr, nm_ii, nm_eqm, not_false_eq_true, pk_sub, nm_div, nm_shl, nm_shr, nm_ush, nm_or8, nm_or64, nm_or256, nm_m1, nm_m3, nm_m7, nm_m15, nm_m31, nm_m63, nm_m255, nm_m511, nm_m1023, nm_m2047, nm_m65535, Nat.reduceMod, Nat.reducePow, Nat.reduceAdd, Nat.reduceSub, Nat.reduceMul, nm_bo, nm_bi, nm_rc, nm_ic, nm_ri, nm_rl, nm_rq, nm_ql, nm_qi, nm_li, nm_us, nm_uu, nm_cp, nm_sa31, nm_sa7, nm_m127, nm_m2, nm_nz, nm_nzk, nm_eq32, nm_nzf, if_true, if_false, ↓reduceIte, if_pos, if_neg]
  · rw [if_neg c]
    simp (disch := (first | assumption | decide | omega)) only [df_X15_join_212, df_X15_join_131, df_X15_join_200, df_X15_join_186, df_X15_join_165, df_X15_join_85, df_X15_join_66, df_X15_join_43, df_X15_join_0, df_X15_join, h8, h10, h3, hg, t0, t1, lc_eq, c, eq_self, Nat.reduceEqDiff, Nat.reduceLeDiff, nl_0, nl_1, nl_3, nl_6, nl_7, nl_8, nl_9, nl_10, nl_24, nl_26, nl_27, nl_28, nl_29, nl_32, nl_130, nl_960, no_1, no_1024, pk_mul, nI_add, nm_ck, nI_clamp, nI_ltI, nI_leI, nI_eq, nb_b2, nb_b1, ↓nb_let, nm_z0, nm_z1, nb_II, nb_IR, nb_RI, nb_RR, nm_IL, nm_IQ, nm_RL, nm_RQ, nm_LI, nm_LR, nm_LL, nm_LQ, nm_QI, nm_QR, nm_QL, nm_QQ, nm_rr, nm_ii, nm_eqm, not_false_eq_true, pk_sub, nm_div, nm_shl, nm_shr, nm_ush, nm_or8, nm_or64, nm_or256, nm_m1, nm_m3, nm_m7, nm_m15, nm_m31, nm_m63, nm_m255, nm_m511, nm_m1023, nm_m2047, nm_m65535, Nat.reduceMod, Nat.reducePow, Nat.reduceAdd, Nat.reduceSub, Nat.reduceMul, nm_bo, nm_bi, nm_rc, nm_ic, nm_ri, nm_rl, nm_rq, nm_ql, nm_qi, nm_li, nm_us, nm_uu, nm_cp, nm_sa31, nm_sa7, nm_m127, nm_m2, nm_nz, nm_nzk, nm_eq32, nm_nzf, if_true, if_false, ↓reduceIte, if_pos, if_neg]
theorem jo_bin (n d a q o : Nat) {Y : St} {X : St × St} (o1 : 3 ≤ o) (o2 : o ≤ 18) (hd : d < 128) (ha : a < 960) (hq : q < 960) (hne : ¬ q = a) (h8 : sR Y 8 d = nI a) (h10 : sR Y 10 d = nI q) (h3 : sR Y 3 q = nI (o + 9)) (h7 : sI Y 7 = nI (d + 1)) : df_X15_join n (nI d) (Y, X) = some ((match bV o (sQ Y 3 d) (sL Y 1) with | some v => gvn Y d v | none => fln Y), X) := by
  have hg : ∀ v : Int64, df_X15_give n v (Y, X) = some (gvn Y d v, X) := fun v => gv_1 n d (by omega) h7
  have hf : df_X15_fail n (Y, X) = some (fln Y, X) := fl_1 n
  have hv := bo_o n o o1 o2 (sQ Y 3 d) (sL Y 1)
  by_cases c : o ≤ 16
  · have k1 : ∃ v : Int64, bV o (sQ Y 3 d) (sL Y 1) = some v := by
      have ho : o = 3 ∨ o = 4 ∨ o = 5 ∨ o = 6 ∨ o = 7 ∨ o = 8 ∨ o = 9 ∨ o = 10 ∨ o = 11 ∨ o = 12 ∨ o = 13 ∨ o = 14 ∨ o = 15 ∨ o = 16 := by omega
      rcases ho with rfl | rfl | rfl | rfl | rfl | rfl | rfl | rfl | rfl | rfl | rfl | rfl | rfl | rfl <;> exact ⟨_, rfl⟩
    obtain ⟨v, k1⟩ := k1
    have hv := hv v k1
    rw [k1]
    simp (disch := (first | assumption | decide | omega)) only [df_X15_join_212, df_X15_join_131, df_X15_join_200, df_X15_join_186, df_X15_join_165, df_X15_join_85, df_X15_join_66, df_X15_join_43, df_X15_join_0, df_X15_join, h8, h10, h3, hg, hv, eq_self, Nat.reduceEqDiff, Nat.reduceLeDiff, nl_0, nl_1, nl_3, nl_6, nl_7, nl_8, nl_9, nl_10, nl_24, nl_26, nl_27, nl_28, nl_29, nl_32, nl_130, nl_960, no_1, no_1024, pk_mul, nI_add, nm_ck, nI_clamp, nI_ltI, nI_leI, nI_eq, nb_b2, nb_b1, ↓nb_let, nm_z0, nm_z1, nb_II, nb_IR, nb_RI, nb_RR, nm_IL, nm_IQ, nm_RL, nm_RQ, nm_LI, nm_LR, nm_LL, nm_LQ, nm_QI, nm_QR, nm_QL, nm_QQ, nm_rr, nm_ii, nm_eqm, not_false_eq_true, pk_sub, nm_div, nm_shl, nm_shr, nm_ush, nm_or8, nm_or64, nm_or256, nm_m1, nm_m3, nm_m7, nm_m15, nm_m31, nm_m63, nm_m255, nm_m511, nm_m1023, nm_m2047, nm_m65535, Nat.reduceMod, Nat.reducePow, Nat.reduceAdd, Nat.reduceSub, Nat.reduceMul, nm_bo, nm_bi, nm_rc, nm_ic, nm_ri, nm_rl, nm_rq, nm_ql, nm_qi, nm_li, nm_us, nm_uu, nm_cp, nm_sa31, nm_sa7, nm_m127, nm_m2, nm_nz, nm_nzk, nm_eq32, nm_nzf, if_true, if_false, ↓reduceIte, if_pos, if_neg]
  · have ho : o = 17 ∨ o = 18 := by omega
    by_cases z : sL Y 1 = 0
    · have k1 : bV o (sQ Y 3 d) (sL Y 1) = none := by
        rcases ho with rfl | rfl
        · exact if_pos z
        · exact if_pos z
      rw [k1]
      rcases ho with rfl | rfl
      · simp (disch := (first | assumption | decide | omega)) only [df_X15_join_212, df_X15_join_131, df_X15_join_200, df_X15_join_186, df_X15_join_165, df_X15_join_85, df_X15_join_66, df_X15_join_43, df_X15_join_0, df_X15_join, h8, h10, h3, hf, lc_eq, z, eq_self, Nat.reduceEqDiff, Nat.reduceLeDiff, nl_0, nl_1, nl_3, nl_6, nl_7, nl_8, nl_9, nl_10, nl_24, nl_26, nl_27, nl_28, nl_29, nl_32, nl_130, nl_960, no_1, no_1024, pk_mul, nI_add, nm_ck, nI_clamp, nI_ltI, nI_leI, nI_eq, nb_b2, nb_b1, ↓nb_let, nm_z0, nm_z1, nb_II, nb_IR, nb_RI, nb_RR, nm_IL, nm_IQ, nm_RL, nm_RQ, nm_LI, nm_LR, nm_LL, nm_LQ, nm_QI, nm_QR, nm_QL, nm_QQ, nm_rr, nm_ii, nm_eqm, not_false_eq_true, pk_sub, nm_div, nm_shl, nm_shr, nm_ush, nm_or8, nm_or64, nm_or256, nm_m1, nm_m3, nm_m7, nm_m15, nm_m31, nm_m63, nm_m255, nm_m511, nm_m1023, nm_m2047, nm_m65535, Nat.reduceMod, Nat.reducePow, Nat.reduceAdd, Nat.reduceSub, Nat.reduceMul, nm_bo, nm_bi, nm_rc, nm_ic, nm_ri, nm_rl, nm_rq, nm_ql, nm_qi, nm_li, nm_us, nm_uu, nm_cp, nm_sa31, nm_sa7, nm_m127, nm_m2, nm_nz, nm_nzk, nm_eq32, nm_nzf, if_true, if_false, ↓reduceIte, if_pos, if_neg]
      · simp (disch := (first | assumption | decide | omega)) only [df_X15_join_212, df_X15_join_131, df_X15_join_200, df_X15_join_186, df_X15_join_165, df_X15_join_85, df_X15_join_66, df_X15_join_43, df_X15_join_0, df_X15_join, h8, h10, h3, hf, lc_eq, z, eq_self, Nat.reduceEqDiff, Nat.reduceLeDiff, nl_0, nl_1, nl_3, nl_6, nl_7, nl_8, nl_9, nl_10, nl_24, nl_26, nl_27, nl_28, nl_29, nl_32, nl_130, nl_960, no_1, no_1024, pk_mul, nI_add, nm_ck, nI_clamp, nI_ltI, nI_leI, nI_eq, nb_b2, nb_b1, ↓nb_let, nm_z0, nm_z1, nb_II, nb_IR, nb_RI, nb_RR, nm_IL, nm_IQ, nm_RL, nm_RQ, nm_LI, nm_LR, nm_LL, nm_LQ, nm_QI, nm_QR, nm_QL, nm_QQ, nm_rr, nm_ii, nm_eqm, not_false_eq_true, pk_sub, nm_div, nm_shl, nm_shr, nm_ush, nm_or8, nm_or64, nm_or256, nm_m1, nm_m3, nm_m7, nm_m15, nm_m31, nm_m63, nm_m255, nm_m511, nm_m1023, nm_m2047, nm_m65535, Nat.reduceMod, Nat.reducePow, Nat.reduceAdd, Nat.reduceSub, Nat.reduceMul, nm_bo, nm_bi, nm_rc, nm_ic, nm_ri, nm_rl, nm_rq, nm_ql, nm_qi, nm_li, nm_us, nm_uu, nm_cp, nm_sa31, nm_sa7, nm_m127, nm_m2, nm_nz, nm_nzk, nm_eq32, nm_nzf, if_true, if_false, ↓reduceIte, if_pos, if_neg]
    · have k1 : ∃ v : Int64, bV o (sQ Y 3 d) (sL Y 1) = some v := by
        rcases ho with rfl | rfl
        · exact ⟨_, if_neg z⟩
        · exact ⟨_, if_neg z⟩
      obtain ⟨v, k1⟩ := k1
      have hv := hv v k1
      rw [k1]
      rcases ho with rfl | rfl
      · simp (disch := (first | assumption | decide | omega)) only [df_X15_join_212, df_X15_join_131, df_X15_join_200, df_X15_join_186, df_X15_join_165, df_X15_join_85, df_X15_join_66, df_X15_join_43, df_X15_join_0, df_X15_join, h8, h10, h3, hg, hv, lc_eq, z, eq_self, Nat.reduceEqDiff, Nat.reduceLeDiff, nl_0, nl_1, nl_3, nl_6, nl_7, nl_8, nl_9, nl_10, nl_24, nl_26, nl_27, nl_28, nl_29, nl_32, nl_130, nl_960, no_1, no_1024, pk_mul, nI_add, nm_ck, nI_clamp, nI_ltI, nI_leI, nI_eq, nb_b2, nb_b1, ↓nb_let, nm_z0, nm_z1, nb_II, nb_IR, nb_RI, nb_RR, nm_IL, nm_IQ, nm_RL, nm_RQ, nm_LI, nm_LR, nm_LL, nm_LQ, nm_QI, nm_QR, nm_QL, nm_QQ, nm_rr, nm_ii, nm_eqm, not_false_eq_true, pk_sub, nm_div, nm_shl, nm_shr, nm_ush, nm_or8, nm_or64, nm_or256, nm_m1, nm_m3, nm_m7, nm_m15, nm_m31, nm_m63, nm_m255, nm_m511, nm_m1023, nm_m2047, nm_m65535, Nat.reduceMod, Nat.reducePow, Nat.reduceAdd, Nat.reduceSub, Nat.reduceMul, nm_bo, nm_bi, nm_rc, nm_ic, nm_ri, nm_rl, nm_rq, nm_ql, nm_qi, nm_li, nm_us, nm_uu, nm_cp, nm_sa31, nm_sa7, nm_m127, nm_m2, nm_nz, nm_nzk, nm_eq32, nm_nzf, if_true, if_false, ↓reduceIte, if_pos, if_neg]
      · simp (disch := (first | assumption | decide | omega)) only [df_X15_join_212, df_X15_join_131, df_X15_join_200, df_X15_join_186, df_X15_join_165, df_X15_join_85, df_X15_join_66, df_X15_join_43, df_X15_join_0, df_X15_join, h8, h10, h3, hg, hv, lc_eq, z, eq_self, Nat.reduceEqDiff, Nat.reduceLeDiff, nl_0, nl_1, nl_3, nl_6, nl_7, nl_8, nl_9, nl_10, nl_24, nl_26, nl_27, nl_28, nl_29, nl_32, nl_130, nl_960, no_1, no_1024, pk_mul, nI_add, nm_ck, nI_clamp, nI_ltI, nI_leI, nI_eq, nb_b2, nb_b1, ↓nb_let, nm_z0, nm_z1, nb_II, nb_IR, nb_RI, nb_RR, nm_IL, nm_IQ, nm_RL, nm_RQ, nm_LI, nm_LR, nm_LL, nm_LQ, nm_QI, nm_QR, nm_QL, nm_QQ, nm_rr, nm_ii, nm_eqm, not_false_eq_true, pk_sub, nm_div, nm_shl, nm_shr, nm_ush, nm_or8, nm_or64, nm_or256, nm_m1, nm_m3, nm_m7, nm_m15, nm_m31, nm_m63, nm_m255, nm_m511, nm_m1023, nm_m2047, nm_m65535, Nat.reduceMod, Nat.reducePow, Nat.reduceAdd, Nat.reduceSub, Nat.reduceMul, nm_bo, nm_bi, nm_rc, nm_ic, nm_ri, nm_rl, nm_rq, nm_ql, nm_qi, nm_li, nm_us, nm_uu, nm_cp, nm_sa31, nm_sa7, nm_m127, nm_m2, nm_nz, nm_nzk, nm_eq32, nm_nzf, if_true, if_false, ↓reduceIte, if_pos, if_neg]
theorem jo_log (n d a q o : Nat) {Y : St} {X : St × St} (ho : o = 1 ∨ o = 2) (hd : d < 128) (ha : a < 960) (hq : q < 960) (hne : ¬ q = a) (h8 : sR Y 8 d = nI a) (h10 : sR Y 10 d = nI q) (h3 : sR Y 3 q = nI (o + 9)) (h7 : sI Y 7 = nI (d + 1)) : df_X15_join n (nI d) (Y, X) = some (gvn Y d (tV (sL Y 1)), X) := by
  have hg : ∀ v : Int64, df_X15_give n v (Y, X) = some (gvn Y d v, X) := fun v => gv_1 n d (by omega) h7
  have hv := bo_g n o ho (sQ Y 3 d) (sL Y 1)
  rcases ho with rfl | rfl
  · simp (disch := (first | assumption | decide | omega)) only [df_X15_join_212, df_X15_join_131, df_X15_join_200, df_X15_join_186, df_X15_join_165, df_X15_join_85, df_X15_join_66, df_X15_join_43, df_X15_join_0, df_X15_join, h8, h10, h3, hg, hv, eq_self, Nat.reduceEqDiff, Nat.reduceLeDiff, nl_0, nl_1, nl_3, nl_6, nl_7, nl_8, nl_9, nl_10, nl_24, nl_26, nl_27, nl_28, nl_29, nl_32, nl_130, nl_960, no_1, no_1024, pk_mul, nI_add, nm_ck, nI_clamp, nI_ltI, nI_leI, nI_eq, nb_b2, nb_b1, ↓nb_let, nm_z0, nm_z1, nb_II, nb_IR, nb_RI, nb_RR, nm_IL, nm_IQ, nm_RL, nm_RQ, nm_LI, nm_LR, nm_LL, nm_LQ, nm_QI, nm_QR, nm_QL, nm_QQ, nm_rr, nm_ii, nm_eqm, not_false_eq_true, pk_sub, nm_div, nm_shl, nm_shr, nm_ush, nm_or8, nm_or64, nm_or256, nm_m1, nm_m3, nm_m7, nm_m15, nm_m31, nm_m63, nm_m255, nm_m511, nm_m1023, nm_m2047, nm_m65535, Nat.reduceMod, Nat.reducePow, Nat.reduceAdd, Nat.reduceSub, Nat.reduceMul, nm_bo, nm_bi, nm_rc, nm_ic, nm_ri, nm_rl, nm_rq, nm_ql, nm_qi, nm_li, nm_us, nm_uu, nm_cp, nm_sa31, nm_sa7, nm_m127, nm_m2, nm_nz, nm_nzk, nm_eq32, nm_nzf, if_true, if_false, ↓reduceIte, if_pos, if_neg]
  · simp (disch := (first | assumption | decide | omega)) only [df_X15_join_212, df_X15_join_131, df_X15_join_200, df_X15_join_186, df_X15_join_165, df_X15_join_85, df_X15_join_66, df_X15_join_43, df_X15_join_0, df_X15_join, h8, h10, h3, hg, hv, eq_self, Nat.reduceEqDiff, Nat.reduceLeDiff, nl_0, nl_1, nl_3, nl_6, nl_7, nl_8, nl_9, nl_10, nl_24, nl_26, nl_27, nl_28, nl_29, nl_32, nl_130, nl_960, no_1, no_1024, pk_mul, nI_add, nm_ck, nI_clamp, nI_ltI, nI_leI, nI_eq, nb_b2, nb_b1, ↓nb_let, nm_z0, nm_z1, nb_II, nb_IR, nb_RI, nb_RR, nm_IL, nm_IQ, nm_RL, nm_RQ, nm_LI, nm_LR, nm_LL, nm_LQ, nm_QI, nm_QR, nm_QL, nm_QQ, nm_rr, nm_ii, nm_eqm, not_false_eq_true, pk_sub, nm_div, nm_shl, nm_shr, nm_ush, nm_or8, nm_or64, nm_or256, nm_m1, nm_m3, nm_m7, nm_m15, nm_m31, nm_m63, nm_m255, nm_m511, nm_m1023, nm_m2047, nm_m65535, Nat.reduceMod, Nat.reducePow, Nat.reduceAdd, Nat.reduceSub, Nat.reduceMul, nm_bo, nm_bi, nm_rc, nm_ic, nm_ri, nm_rl, nm_rq, nm_ql, nm_qi, nm_li, nm_us, nm_uu, nm_cp, nm_sa31, nm_sa7, nm_m127, nm_m2, nm_nz, nm_nzk, nm_eq32, nm_nzf, if_true, if_false, ↓reduceIte, if_pos, if_neg]
theorem ls_end (n m e : Nat) {r s : Int32} {Y : St} {X : St × St} (h : e < 2 ^ 30) : df_X15_least_8 n (m + 1) (nI e) r s (nI e) (Y, X) = some (r, (Y, X)) := by
  simp (disch := (first | assumption | decide | omega)) only [(show df_X15_least_8 n (m + 1) = dF_X15_least_8 n (df_X15_least_8 n m) from rfl), dF_X15_least_8, df_X15_least_103, df_X15_least_37, df_X15_least_101, df_X15_least_89, df_X15_least_86, df_X15_least_0, df_X15_least, eq_self, Nat.reduceEqDiff, Nat.reduceLeDiff, nl_0, nl_1, nl_3, nl_4, nl_10, nl_30, nl_32, nl_960, no_1, no_1024, pk_mul, nI_add, nm_ck, nI_clamp, nI_ltI, nI_leI, nI_eq, nb_b2, nb_b1, ↓nb_let, nm_z0, nm_z1, nb_II, nb_IR, nb_RI, nb_RR, nm_IL, nm_IQ, nm_RL, nm_RQ, nm_LI, nm_LR, nm_LL, nm_LQ, nm_QI, nm_QR, nm_QL, nm_QQ, nm_rr, nm_ii, nm_eqm, not_false_eq_true, pk_sub, nm_div, nm_shl, nm_shr, nm_ush, nm_or8, nm_or64, nm_or256, nm_m1, nm_m3, nm_m7, nm_m15, nm_m31, nm_m63, nm_m255, nm_m511, nm_m1023, nm_m2047, nm_m65535, Nat.reduceMod, Nat.reducePow, Nat.reduceAdd, Nat.reduceSub, Nat.reduceMul, nm_bo, nm_bi, nm_rc, nm_ic, nm_ri, nm_rl, nm_rq, nm_ql, nm_qi, nm_li, nm_us, nm_uu, nm_cp, nm_sa31, nm_sa7, nm_m127, nm_m2, nm_nz, nm_nzk, nm_eq32, nm_nzf, if_true, if_false, ↓reduceIte, if_pos, if_neg]
/-- where a piece of the reference's lies; how 'least' goes over it; what 'work' gives -/
def plc (β f l : Nat) (K P : Nat → Int32) (N : Nat → Int64) (Y : St) : Prop := ∀ t : Nat, f ≤ t → t < l → sR Y 3 (β + t) = K t ∧ sQ Y 0 (β + t) = N t ∧ ∀ q : Nat, q ≤ 120 → P t = nI q → sR Y 4 (β + t) = nI (β + q)
def gRs (os ro f l : Nat) (K P : Nat → Int32) (N : Nat → Int64) : Prop := ∀ (n β e g : Nat) (Y : St) (X : St × St) (fo : Option (Nat × Nat)), plc β f l K P N Y → β + l ≤ e → e ≤ 960 → fok Y fo → l - f < g → ∃ g' : Nat, g ≤ g' + (l - f) ∧ df_X15_least_8 n g (nI e) (foI fo) (nI 0) (nI (β + f)) (Y, X) = df_X15_least_8 n g' (nI e) (foI (uP os (β + ro) fo)) (nI 1) (nI (β + l)) (Y, X)
def gRw (d : Dn) (f l j0 j1 : Nat) (K P : Nat → Int32) (N : Nat → Int64) (pos : Nat → Nat) : Prop := ∀ (n β : Nat) (X : St × St) (E : Evn) (w : Nat → Int64) (Y : St) (d' g x : Nat), 130 < n → eR n X E → plc β f l K P N Y → β + l ≤ 960 → (∀ j : Nat, j0 ≤ j → j < j1 → sQ Y 1 (β + pos j) = w j) → sI Y 7 = nI (d' + 1) → sR Y 8 d' = nI (β + f) → sR Y 9 d' = nI (β + l) → sR Y 11 d' = nI 0 → d' + (l - f) ≤ 127 → 3 * (l - f) < g → x + 3 * (l - f) ≤ 1999 → (∀ v : Int64, d E w = some v → ∃ (g' x' : Nat) (Y2 : St), g ≤ g' + 3 * (l - f) ∧ x' ≤ x + 3 * (l - f) ∧ yE d' Y Y2 ∧ sI Y2 7 = nI d' ∧ sL Y2 1 = v ∧ df_X15_work_18 n g (nI x) (Y, X) = df_X15_work_18 n g' (nI x') (Y2, X)) ∧ (d E w = none → ∃ Y2 : St, yE 0 Y Y2 ∧ df_X15_work_18 n g (nI x) (Y, X) = some (0, (Y2, X)))
def gR (d : Dn) (os ro f l j0 j1 : Nat) (K P : Nat → Int32) (N : Nat → Int64) (pos : Nat → Nat) : Prop := f < l ∧ l ≤ 120 ∧ j0 ≤ j1 ∧ (os ≤ 18 → 1 ≤ os ∧ f < ro ∧ ro < l ∧ K ro = nI (os + 9)) ∧ (∃ k : Nat, k < 100 ∧ K f = nI k ∧ (k = 30 → ∃ q : Nat, P f = nI q ∧ f < q ∧ q < l)) ∧ gRs os ro f l K P N ∧ gRw d f l j0 j1 K P N pos
theorem plc_w {β f l f' l' : Nat} {K P : Nat → Int32} {N : Nat → Int64} {Y : St} (h : plc β f l K P N Y) (h1 : f ≤ f') (h2 : l' ≤ l) : plc β f' l' K P N Y := fun t a b => h t (by omega) (by omega)
theorem plc_E {β f l d : Nat} {K P : Nat → Int32} {N : Nat → Int64} {Y Y' : St} (h : plc β f l K P N Y) (e : yE d Y Y') : plc β f l K P N Y' := fun t a b => by
  rw [e.1.1 3 (by omega) (by omega), e.1.1 4 (by omega) (by omega), e.1.2]
  exact h t a b
theorem gR_st {d : Dn} {os ro f l j0 j1 : Nat} {K P K' P' : Nat → Int32} {N N' : Nat → Int64} {pos pos' : Nat → Nat} (h : gR d os ro f l j0 j1 K P N pos) (hs : ∀ t : Nat, f ≤ t → t < l → K' t = K t ∧ P' t = P t ∧ N' t = N t) (hp : ∀ j : Nat, j0 ≤ j → j < j1 → pos' j = pos j) : gR d os ro f l j0 j1 K' P' N' pos' := by
  obtain ⟨h1, h2, h3, h4, ⟨k, k1, k2, k3⟩, h6, h7⟩ := h
  have pl : ∀ (β : Nat) (Y : St), plc β f l K' P' N' Y → plc β f l K P N Y := fun β Y q t a b => by
    have := hs t a b
    rw [← this.1, ← this.2.1, ← this.2.2]
    exact q t a b
  refine ⟨h1, h2, h3, fun a => ?_, ⟨k, k1, (hs f (by omega) h1).1.trans k2, fun a => ?_⟩, fun n β e g Y X fo q => h6 n β e g Y X fo (pl β Y q), fun n β X E w Y d' g x a1 a2 a3 a4 a5 => h7 n β X E w Y d' g x a1 a2 (pl β Y a3) a4 (fun j b1 b2 => by rw [← hp j b1 b2]; exact a5 j b1 b2)⟩
  · have := h4 a
    exact ⟨this.1, this.2.1, this.2.2.1, (hs ro (by omega) (by omega)).1.trans this.2.2.2⟩
  · obtain ⟨q, q1, q2⟩ := k3 a
    exact ⟨q, (hs f (by omega) h1).2.1.trans q1, q2⟩
theorem fok_n (Y : St) : fok Y none := fun _ z => nomatch z
/-- 'least' over the whole piece -/
theorem ls_R {os ro f l : Nat} {K P : Nat → Int32} {N : Nat → Int64} (h : gRs os ro f l K P N) (n β : Nat) (Y : St) (X : St × St) (hn : 130 < n) (hp : plc β f l K P N Y) (hl : l ≤ 120) (hb : β + l ≤ 960) : df_X15_least n (nI (β + f)) (nI (β + l)) (Y, X) = some (foI (uP os (β + ro) none), (Y, X)) := by
  obtain ⟨g', g1, g2⟩ := h n β (β + l) n Y X none hp (Nat.le_refl _) hb (fok_n Y) (by omega)
  obtain ⟨m, rfl⟩ : ∃ m : Nat, g' = m + 1 := ⟨g' - 1, by omega⟩
  show df_X15_least_8 n n (nI (β + l)) (-1) 0 (nI (β + f)) (Y, X) = _
  exact Eq.trans g2 (ls_end n m (β + l) (by omega))
theorem ls_N {os ro f l : Nat} {K P : Nat → Int32} {N : Nat → Int64} (h : gRs os ro f l K P N) (ho : 19 ≤ os) (n β : Nat) (Y : St) (X : St × St) (hn : 130 < n) (hp : plc β f l K P N Y) (hl : l ≤ 120) (hb : β + l ≤ 960) : df_X15_least n (nI (β + f)) (nI (β + l)) (Y, X) = some (-nI 1, (Y, X)) := by
  rw [ls_R h n β Y X hn hp hl hb, uP_h ho]
  rfl
/-- one token: a number, a register, pc, pid, count; what was before -/
theorem gR_leaf {f k j0 j1 : Nat} {K P : Nat → Int32} {N : Nat → Int64} {pos : Nat → Nat} (h : Evn → (Nat → Int64) → Int64) (hf : f < 120) (hj : j0 ≤ j1) (hk : 1 ≤ k) (hk2 : k ≤ 5) (hK : K f = nI k) (hv : ∀ (n β : Nat) (X : St × St) (E : Evn) (w : Nat → Int64) (Y : St) (d' : Nat), eR n X E → plc β f (f + 1) K P N Y → β + f < 960 → d' < 128 → sR Y 9 d' = nI (β + f + 1) → sI Y 7 = nI (d' + 1) → df_X15_least n (nI (β + f)) (nI (β + f + 1)) (Y, X) = some (-nI 1, (Y, X)) → df_X15_enter_61 n (nI d') (nI (β + f)) (nI k) (Y, X) = some (gvn (y2 Y d' (nI (β + f))) d' (h E w), X)) : gR (fun E w => some (h E w)) 20 0 f (f + 1) j0 j1 K P N pos := by
  have s1 : gRs 20 0 f (f + 1) K P N := fun n β e g Y X fo hp he he2 hfo hg => by
    obtain ⟨m, rfl⟩ : ∃ m : Nat, g = m + 1 := ⟨g - 1, by omega⟩
    refine ⟨m, by omega, ?_⟩
    rw [uP_h (by omega)]
    have q := ls_tok n m e (β + f) k (r := foI fo) (X := X) (by omega) he2 ((hp f (by omega) (by omega)).1.trans hK) (by omega) (by omega) (by omega)
    rw [if_pos (by omega)] at q
    exact q
  refine ⟨by omega, by omega, hj, fun z => by omega, ⟨k, by omega, hK, fun z => by omega⟩, s1, fun n β X E w Y d' g x hn hE hp hb hw h7 h8 h9 h11 hd hg hx => ⟨fun v z => ?_, fun z => (nomatch z)⟩⟩
  obtain ⟨m, rfl⟩ : ∃ m : Nat, g = m + 1 := ⟨g - 1, by omega⟩
  have z : some (h E w) = some v := z
  injection z with z
  subst z
  have hl := ls_N s1 (by omega) n β Y X hn hp (by omega) (by omega)
  have q1 := en_61 n d' (β + f) (β + (f + 1)) k (X := X) (by omega) (by omega) (by omega) (by omega) h8 h9 ((hp f (by omega) (by omega)).1.trans hK) (by omega) (fun z => by omega)
  have q2 := hv n β X E w Y d' hE hp (by omega) (by omega) h9 h7 hl
  refine ⟨m, x + 1, gvn (y2 Y d' (nI (β + f))) d' (h E w), by omega, by omega, yE_t (y2_E Y d' _) (gvn_E ..), rfl, rfl, ?_⟩
  rw [wkr_e n m d' x (by omega) (by omega) h7 h11, q1, q2, nb_b1]
/-- two pieces in a bracket's place: into it by begin, out of it by join -/
theorem gR_sub {d D : Dn} {os ro f a b l j0 j1 i0 i1 k : Nat} {K P : Nat → Int32} {N : Nat → Int64} {pos : Nat → Nat} (hi : gR d os ro a b i0 i1 K P N pos) (hfa : f < a) (hbl : b ≤ l) (hl : l ≤ 120) (hj : j0 ≤ i0) (hj2 : i1 ≤ j1) (hk : k < 100) (hK : K f = nI k) (hk30 : ¬ k = 30) (o : Nat) (ho : 19 ≤ o) (s1 : gRs o 0 f l K P N) (hen : ∀ (n β : Nat) (X : St × St) (Y : St) (d' : Nat), plc β f l K P N Y → β + l ≤ 960 → d' < 128 → sR Y 9 d' = nI (β + l) → sI Y 7 = nI (d' + 1) → df_X15_least n (nI (β + f)) (nI (β + l)) (Y, X) = some (-nI 1, (Y, X)) → df_X15_enter_61 n (nI d') (nI (β + f)) (nI k) (Y, X) = some (bgn (y2 Y d' (nI (β + f))) (d' + 1) (nI (β + a)) (nI (β + b)), X)) (hjo : ∀ (n β : Nat) (X : St × St) (E : Evn) (w : Nat → Int64) (Y : St) (d' : Nat) (v : Int64), eR n X E → β + l ≤ 960 → d' < 128 → (∀ j : Nat, j0 ≤ j → j < j1 → sQ Y 1 (β + pos j) = w j) → sR Y 8 d' = nI (β + f) → sR Y 10 d' = nI (β + f) → sR Y 3 (β + f) = nI k → sI Y 7 = nI (d' + 1) → d E w = some v → sL Y 1 = v → ((∀ u : Int64, D E w = some u → df_X15_join n (nI d') (Y, X) = some (gvn Y d' u, X)) ∧ (D E w = none → df_X15_join n (nI d') (Y, X) = some (fln Y, X)))) (hD : ∀ (E : Evn) (w : Nat → Int64), d E w = none → D E w = none) : gR D o 0 f l j0 j1 K P N pos := by
  obtain ⟨h1, h2, h3, h4, h5, h6, h7⟩ := hi
  refine ⟨by omega, hl, by omega, fun z => by omega, ⟨k, hk, hK, fun z => absurd z hk30⟩, s1, fun n β X E w Y d' g x hn hE hp hb hw e7 e8 e9 e11 hd hg hx => ?_⟩
  have hl := ls_N s1 ho n β Y X hn hp hl (by omega)
  have hKf : sR Y 3 (β + f) = nI k := (hp f (by omega) (by omega)).1.trans hK
  have q1 := en_61 n d' (β + f) (β + l) k (X := X) (by omega) (by omega) (by omega) (by omega) e8 e9 hKf hk (fun z => absurd z hk30)
  have q2 := hen n β X Y d' hp (by omega) (by omega) e9 e7 hl
  obtain ⟨m, rfl⟩ : ∃ m : Nat, g = m + 1 := ⟨g - 1, by omega⟩
  have q3 : df_X15_work_18 n (m + 1) (nI x) (Y, X) = df_X15_work_18 n m (nI (x + 1)) (bgn (y2 Y d' (nI (β + f))) (d' + 1) (nI (β + a)) (nI (β + b)), X) := by
    rw [wkr_e n m d' x (by omega) (by omega) e7 e11, q1, q2, nb_b1]
  have y0 : yE d' Y (bgn (y2 Y d' (nI (β + f))) (d' + 1) (nI (β + a)) (nI (β + b))) := yE_t (y2_E Y d' _) (bgn_E _ _ _ _ _ (by omega))
  have z8 : sR (bgn (y2 Y d' (nI (β + f))) (d' + 1) (nI (β + a)) (nI (β + b))) 8 d' = nI (β + f) := (if_neg (by omega)).trans e8
  have z10 : sR (bgn (y2 Y d' (nI (β + f))) (d' + 1) (nI (β + a)) (nI (β + b))) 10 d' = nI (β + f) := if_pos rfl
  have z11 : sR (bgn (y2 Y d' (nI (β + f))) (d' + 1) (nI (β + a)) (nI (β + b))) 11 d' = nI 2 := (if_neg (by omega)).trans (if_pos rfl)
  have z8' : sR (bgn (y2 Y d' (nI (β + f))) (d' + 1) (nI (β + a)) (nI (β + b))) 8 (d' + 1) = nI (β + a) := if_pos rfl
  have z9' : sR (bgn (y2 Y d' (nI (β + f))) (d' + 1) (nI (β + a)) (nI (β + b))) 9 (d' + 1) = nI (β + b) := if_pos rfl
  have z11' : sR (bgn (y2 Y d' (nI (β + f))) (d' + 1) (nI (β + a)) (nI (β + b))) 11 (d' + 1) = nI 0 := if_pos rfl
  have z7' : sI (bgn (y2 Y d' (nI (β + f))) (d' + 1) (nI (β + a)) (nI (β + b))) 7 = nI (d' + 1 + 1) := rfl
  generalize bgn (y2 Y d' (nI (β + f))) (d' + 1) (nI (β + a)) (nI (β + b)) = Y1 at q3 y0 z8 z10 z11 z8' z9' z11' z7'
  have w1 : ∀ j : Nat, i0 ≤ j → j < i1 → sQ Y1 1 (β + pos j) = w j := fun j a b => by rw [y0.2.1]; exact hw j (by omega) (by omega)
  have r := h7 n β X E w Y1 (d' + 1) m (x + 1) hn hE (plc_w (plc_E hp y0) (by omega) (by omega)) (by omega) w1 z7' z8' z9' z11' (by omega) (by omega) (by omega)
  cases hd2 : d E w with
  | none =>
    have hDn := hD E w hd2
    refine ⟨fun v z => by rw [hDn] at z; exact (nomatch z), fun _ => ?_⟩
    obtain ⟨Y2, r1, r2⟩ := r.2 hd2
    exact ⟨Y2, yE_t (yE_l y0 (by omega)) r1, q3.trans r2⟩
  | some v =>
    obtain ⟨g', x', Y2, r1, r2, r3, r4, r5, r6⟩ := r.1 v hd2
    obtain ⟨m', rfl⟩ : ∃ m' : Nat, g' = m' + 1 + 1 := ⟨g' - 2, by omega⟩
    have f3 := r3.2.2 d' (by omega)
    have jj := hjo n β X E w Y2 d' v hE (by omega) (by omega) (fun j a b => by rw [r3.2.1, y0.2.1]; exact hw j a b) (f3.1.trans z8) (f3.2.2.1.trans z10) (by rw [r3.1.1 3 (by omega) (by omega), y0.1.1 3 (by omega) (by omega)]; exact hKf) r4 hd2 r5
    have t1 := wkr_j n (m' + 1) d' x' (Y := Y2) (X := X) (by omega) (by omega) r4 (f3.2.2.2.1.trans z11)
    refine ⟨fun u z => ?_, fun z => ?_⟩
    · rw [jj.1 u z, nb_b1] at t1
      exact ⟨m' + 1, x' + 1, gvn Y2 d' u, by omega, by omega, yE_t y0 (yE_t (yE_l r3 (by omega)) (gvn_E ..)), rfl, rfl, q3.trans (r6.trans t1)⟩
    · rw [jj.2 z, nb_b1] at t1
      have t2 := wkr_0 n m' (x' + 1) (Y := fln Y2) (X := X) (by omega) rfl
      exact ⟨fln Y2, yE_t (yE_l y0 (by omega)) (yE_t (yE_l r3 (by omega)) (fln_E Y2)), q3.trans (r6.trans (t1.trans t2))⟩
