theorem fl_s0 (f : Nat → Int32) (k : Nat) (v : Int32) : upd (fl f 0 k v) k v = fl f 0 (k + 1) v := by
  have := fl_s f 0 k v
  rw [Nat.zero_add] at this
  exact this
theorem fl_p {f : Nat → Int32} {k j : Nat} {v : Int32} (h : j < k) : fl f 0 k v j = v := fl_i (by omega)
theorem br_63 (n : Nat) (hn : 1024 < n) (v : Int32) (Y : St × St) : df_X16_boot_63 n n v (nI 0) Y = df_X16_boot_92 n n v (nI 0) (pR (pR Y.1 16 (fl (sR Y.1 16) 0 1024 (-nI 1))) 18 (fl (sR Y.1 18) 0 1024 (nI 0)), Y.2) := by
  obtain ⟨m, hm⟩ := nm_lq (fun m k => df_X16_boot_63 n m v (nI k) (pR (pR Y.1 16 (fl (sR Y.1 16) 0 k (-nI 1))) 18 (fl (sR Y.1 18) 0 k (nI 0)), Y.2)) 1024 n hn (fun k m hk => by
    have k1 : ¬ 1024 ≤ k := by omega
    have u1 : k < 2 ^ 31 := by omega
    rw [show df_X16_boot_63 n (m + 1) = dF_X16_boot_63 n (df_X16_boot_63 n m) from rfl]
    generalize df_X16_boot_63 n m = G
    simp (disch := (first | assumption | decide | omega)) only [dF_X16_boot_63, k1, fl_s0, eq_self, Nat.reduceEqDiff, Nat.reduceLeDiff, nm_rc (a := 18) (b := 16) (by decide), nl_0, nl_1, nl_16, nl_18, nl_1024, no_1, no_1024, pk_mul, nI_add, nm_ck, nI_clamp, nI_ltI, nI_leI, nI_eq, nb_b2, nb_b1, ↓nb_let, nm_z0, nm_z1, nb_II, nb_IR, nb_RI, nb_RR, nm_IL, nm_IQ, nm_RL, nm_RQ, nm_LI, nm_LR, nm_LL, nm_LQ, nm_QI, nm_QR, nm_QL, nm_QQ, nm_rr, nm_ii, nm_eqm, not_false_eq_true, pk_sub, nm_div, nm_shl, nm_shr, nm_ush, nm_or8, nm_or64, nm_or256, nm_m1, nm_m3, nm_m7, nm_m15, nm_m31, nm_m63, nm_m255, nm_m511, nm_m1023, nm_m2047, nm_m65535, Nat.reduceMod, Nat.reducePow, Nat.reduceAdd, Nat.reduceSub, Nat.reduceMul, nm_bo, nm_bi, nm_rc, nm_ic, nm_ri, nm_rl, nm_rq, nm_ql, nm_qi, nm_li, nm_us, nm_uu, nm_cp, nm_sa31, nm_sa7, nm_m127, nm_m2, nm_nz, nm_nzk, nm_eq32, nm_nzf, if_true, if_false, ↓reduceIte, if_pos, if_neg])
  have e : (pR (pR Y.1 16 (fl (sR Y.1 16) 0 0 (-nI 1))) 18 (fl (sR Y.1 18) 0 0 (nI 0)), Y.2) = Y := by
    rw [fl_0, fl_0, nm_r0, nm_r0]
  rw [e] at hm
  refine Eq.trans hm ?_
  show df_X16_boot_63 n (m + 1) v (nI 1024) _ = _
  rw [show df_X16_boot_63 n (m + 1) = dF_X16_boot_63 n (df_X16_boot_63 n m) from rfl]
  generalize df_X16_boot_63 n m = G
  generalize hF : df_X16_boot_92 n n = F
  unfold dF_X16_boot_63
  rw [if_pos (show (1024 : Int32) ≤ nI 1024 by decide), hF]
  rfl
/-- so many processes have begun -/
def bF (X s : St × St) (k : Nat) : Prop := (∀ q : Nat, q < k → sR s.1 1 q = nI 0 ∧ sR s.1 2 q = -nI 1 ∧ sR s.1 4 q = nI 0 ∧ sR s.1 5 q = nI 0 ∧ sR s.1 6 q = nI 0 ∧ sR s.1 7 q = -nI 1 ∧ sR s.1 8 q = nI 0 ∧ sQ s.1 0 q = -1 ∧ (∀ i : Nat, i < 16 → sR s.1 13 (16 * q + i) = nI 0 ∧ sR s.1 14 (16 * q + i) = -nI 1)) ∧ (∀ j : Nat, j = 0 ∨ 15 ≤ j → sR s.1 j = sR X.1 j) ∧ (∀ i : Nat, sI s.1 i = sI X.1 i) ∧ (∀ i : Nat, sL s.1 i = sL X.1 i) ∧ s.2 = X.2
theorem bF_s {X s : St × St} {k : Nat} (h : bF X s k) : bF X (bg s k 32 16) (k + 1) := by
  obtain ⟨h1, h2, h3, h4, h5⟩ := h
  refine ⟨fun q hq => ?_, fun j hj => ?_, fun i => ?_, fun i => ?_, ?_⟩
  · rw [bg_r1, bg_r2, bg_r4, bg_r5, bg_r6, bg_r7, bg_r8, bg_q, bg_r13, bg_r14]
    by_cases c : q = k
    · subst c
      refine ⟨nm_us, nm_us, nm_us, nm_us, nm_us, nm_us, nm_us, if_pos rfl, fun i hi => ⟨fl_i (by omega), fl_i (by omega)⟩⟩
    · obtain ⟨a1, a2, a3, a4, a5, a6, a7, a8, a9⟩ := h1 q (by omega)
      rw [nm_un c, nm_un c, nm_un c, nm_un c, nm_un c, nm_un c, nm_un c, up_o c]
      exact ⟨a1, a2, a3, a4, a5, a6, a7, a8, fun i hi => ⟨(fl_o (by omega)).trans (a9 i hi).1, (fl_o (by omega)).trans (a9 i hi).2⟩⟩
  · rw [bg_o s k 32 16 hj]; exact h2 j hj
  · rw [bg_i]; exact h3 i
  · rw [bg_l]; exact h4 i
  · rw [bg_2']; exact h5
theorem br_92 (n : Nat) (hn : 1024 < n) (v : Int32) (Y : St × St) : ∃ s : St × St, bF Y s 16 ∧ df_X16_boot_92 n n v (nI 0) Y = df_X16_boot_111 n n v (nI 0) s := by
  obtain ⟨m, s, i1, e⟩ := nm_l1 (S := St × St) (fun g k s => df_X16_boot_92 n g v (nI k) s) (fun k s => bF Y s k) 16 n (by omega) (fun k g s hk i1 => by
    refine ⟨bg s k 32 16, bF_s i1, ?_⟩
    have k1 : ¬ 16 ≤ k := by omega
    have u1 : k < 2 ^ 31 := by omega
    have nb := nk_begin n hn s hk
    rw [show df_X16_boot_92 n (g + 1) = dF_X16_boot_92 n (df_X16_boot_92 n g) from rfl]
    generalize df_X16_boot_92 n g = G
    generalize bg s k 32 16 = T at nb
    simp (disch := (first | assumption | decide | omega)) only [dF_X16_boot_92, k1, nb, eq_self, Nat.reduceEqDiff, Nat.reduceLeDiff, nl_0, nl_1, nl_16, no_1, no_1024, pk_mul, nI_add, nm_ck, nI_clamp, nI_ltI, nI_leI, nI_eq, nb_b2, nb_b1, ↓nb_let, nm_z0, nm_z1, nb_II, nb_IR, nb_RI, nb_RR, nm_IL, nm_IQ, nm_RL, nm_RQ, nm_LI, nm_LR, nm_LL, nm_LQ, nm_QI, nm_QR, nm_QL, nm_QQ, nm_rr, nm_ii, nm_eqm, not_false_eq_true, pk_sub, nm_div, nm_shl, nm_shr, nm_ush, nm_or8, nm_or64, nm_or256, nm_m1, nm_m3, nm_m7, nm_m15, nm_m31, nm_m63, nm_m255, nm_m511, nm_m1023, nm_m2047, nm_m65535, Nat.reduceMod, Nat.reducePow, Nat.reduceAdd, Nat.reduceSub, Nat.reduceMul, nm_bo, nm_bi, nm_rc, nm_ic, nm_ri, nm_rl, nm_rq, nm_ql, nm_qi, nm_li, nm_us, nm_uu, nm_cp, nm_sa31, nm_sa7, nm_m127, nm_m2, nm_nz, nm_nzk, nm_eq32, nm_nzf, if_true, if_false, ↓reduceIte, if_pos, if_neg]) Y ⟨fun q hq => by omega, fun _ _ => rfl, fun _ => rfl, fun _ => rfl, rfl⟩
  refine ⟨s, i1, Eq.trans e ?_⟩
  show df_X16_boot_92 n (m + 1) v (nI 16) s = _
  rw [show df_X16_boot_92 n (m + 1) = dF_X16_boot_92 n (df_X16_boot_92 n m) from rfl]
  generalize df_X16_boot_92 n m = G
  generalize hF : df_X16_boot_111 n n = F
  unfold dF_X16_boot_92
  rw [if_pos (show (16 : Int32) ≤ nI 16 by decide), hF]
  rfl
theorem br_111 (n : Nat) (hn : 1024 < n) (v : Int32) (Y : St × St) : df_X16_boot_111 n n v (nI 0) Y = df_X16_boot_132 n n v (nI 0) (pR Y.1 19 (fl (sR Y.1 19) 0 48 (nI 0)), Y.2) := by
  obtain ⟨m, hm⟩ := nm_lq (fun m k => df_X16_boot_111 n m v (nI k) (pR Y.1 19 (fl (sR Y.1 19) 0 k (nI 0)), Y.2)) 48 n (by omega) (fun k m hk => by
    have k1 : ¬ 48 ≤ k := by omega
    have u1 : k < 2 ^ 31 := by omega
    rw [show df_X16_boot_111 n (m + 1) = dF_X16_boot_111 n (df_X16_boot_111 n m) from rfl]
    generalize df_X16_boot_111 n m = G
    simp (disch := (first | assumption | decide | omega)) only [dF_X16_boot_111, k1, fl_s0, eq_self, Nat.reduceEqDiff, Nat.reduceLeDiff, nl_0, nl_1, nl_19, nl_48, no_1, no_1024, pk_mul, nI_add, nm_ck, nI_clamp, nI_ltI, nI_leI, nI_eq, nb_b2, nb_b1, ↓nb_let, nm_z0, nm_z1, nb_II, nb_IR, nb_RI, nb_RR, nm_IL, nm_IQ, nm_RL, nm_RQ, nm_LI, nm_LR, nm_LL, nm_LQ, nm_QI, nm_QR, nm_QL, nm_QQ, nm_rr, nm_ii, nm_eqm, not_false_eq_true, pk_sub, nm_div, nm_shl, nm_shr, nm_ush, nm_or8, nm_or64, nm_or256, nm_m1, nm_m3, nm_m7, nm_m15, nm_m31, nm_m63, nm_m255, nm_m511, nm_m1023, nm_m2047, nm_m65535, Nat.reduceMod, Nat.reducePow, Nat.reduceAdd, Nat.reduceSub, Nat.reduceMul, nm_bo, nm_bi, nm_rc, nm_ic, nm_ri, nm_rl, nm_rq, nm_ql, nm_qi, nm_li, nm_us, nm_uu, nm_cp, nm_sa31, nm_sa7, nm_m127, nm_m2, nm_nz, nm_nzk, nm_eq32, nm_nzf, if_true, if_false, ↓reduceIte, if_pos, if_neg])
  rw [fl_0, nm_r0] at hm
  refine Eq.trans hm ?_
  show df_X16_boot_111 n (m + 1) v (nI 48) _ = _
  rw [show df_X16_boot_111 n (m + 1) = dF_X16_boot_111 n (df_X16_boot_111 n m) from rfl]
  generalize df_X16_boot_111 n m = G
  generalize hF : df_X16_boot_132 n n = F
  unfold dF_X16_boot_111
  rw [if_pos (show (48 : Int32) ≤ nI 48 by decide), hF]
  rfl
theorem br_132 (n : Nat) (hn : 1024 < n) (v : Int32) (Y : St × St) : df_X16_boot_132 n n v (nI 0) Y = df_X16_boot_153 n n v (nI 0) (pR Y.1 23 (fl (sR Y.1 23) 0 8 (nI 0)), Y.2) := by
  obtain ⟨m, hm⟩ := nm_lq (fun m k => df_X16_boot_132 n m v (nI k) (pR Y.1 23 (fl (sR Y.1 23) 0 k (nI 0)), Y.2)) 8 n (by omega) (fun k m hk => by
    have k1 : ¬ 8 ≤ k := by omega
    have u1 : k < 2 ^ 31 := by omega
    rw [show df_X16_boot_132 n (m + 1) = dF_X16_boot_132 n (df_X16_boot_132 n m) from rfl]
    generalize df_X16_boot_132 n m = G
    simp (disch := (first | assumption | decide | omega)) only [dF_X16_boot_132, k1, fl_s0, eq_self, Nat.reduceEqDiff, Nat.reduceLeDiff, nl_0, nl_1, nl_8, nl_23, no_1, no_1024, pk_mul, nI_add, nm_ck, nI_clamp, nI_ltI, nI_leI, nI_eq, nb_b2, nb_b1, ↓nb_let, nm_z0, nm_z1, nb_II, nb_IR, nb_RI, nb_RR, nm_IL, nm_IQ, nm_RL, nm_RQ, nm_LI, nm_LR, nm_LL, nm_LQ, nm_QI, nm_QR, nm_QL, nm_QQ, nm_rr, nm_ii, nm_eqm, not_false_eq_true, pk_sub, nm_div, nm_shl, nm_shr, nm_ush, nm_or8, nm_or64, nm_or256, nm_m1, nm_m3, nm_m7, nm_m15, nm_m31, nm_m63, nm_m255, nm_m511, nm_m1023, nm_m2047, nm_m65535, Nat.reduceMod, Nat.reducePow, Nat.reduceAdd, Nat.reduceSub, Nat.reduceMul, nm_bo, nm_bi, nm_rc, nm_ic, nm_ri, nm_rl, nm_rq, nm_ql, nm_qi, nm_li, nm_us, nm_uu, nm_cp, nm_sa31, nm_sa7, nm_m127, nm_m2, nm_nz, nm_nzk, nm_eq32, nm_nzf, if_true, if_false, ↓reduceIte, if_pos, if_neg])
  rw [fl_0, nm_r0] at hm
  refine Eq.trans hm ?_
  show df_X16_boot_132 n (m + 1) v (nI 8) _ = _
  rw [show df_X16_boot_132 n (m + 1) = dF_X16_boot_132 n (df_X16_boot_132 n m) from rfl]
  generalize df_X16_boot_132 n m = G
  generalize hF : df_X16_boot_153 n n = F
  unfold dF_X16_boot_132
  rw [if_pos (show (8 : Int32) ≤ nI 8 by decide), hF]
  rfl
/-- what follows the reference's loops -/
def btl (n : Nat) (v : Int32) (s : St × St) : Option (St × St) := nd_b1 (df_X16_load n (nI 0) v s) (fun s20 => nd_b2 (df_X16_opening n (nI 4) (nI 0) (nI 3) s20) (fun q s23 => df_X16_settle n (pR s23.1 14 (upd (upd (sR s23.1 14) 1 q) 0 q), s23.2)))
theorem br_153 (n : Nat) (hn : 1024 < n) (v : Int32) (Y : St × St) : df_X16_boot_153 n n v (nI 0) Y = btl n v (pR (pR (pR Y.1 24 (fl (sR Y.1 24) 0 16 (nI 0))) 25 (fl (sR Y.1 25) 0 16 (nI 0))) 1 (upd (sR Y.1 1) 0 (nI 1)), Y.2) := by
  obtain ⟨m, hm⟩ := nm_lq (fun m k => df_X16_boot_153 n m v (nI k) (pR (pR Y.1 24 (fl (sR Y.1 24) 0 k (nI 0))) 25 (fl (sR Y.1 25) 0 k (nI 0)), Y.2)) 16 n (by omega) (fun k m hk => by
    have k1 : ¬ 16 ≤ k := by omega
    have u1 : k < 2 ^ 31 := by omega
    rw [show df_X16_boot_153 n (m + 1) = dF_X16_boot_153 n (df_X16_boot_153 n m) from rfl]
    generalize df_X16_boot_153 n m = G
    simp (disch := (first | assumption | decide | omega)) only [dF_X16_boot_153, k1, fl_s0, eq_self, Nat.reduceEqDiff, Nat.reduceLeDiff, nm_rc (a := 25) (b := 24) (by decide), nl_0, nl_1, nl_3, nl_4, nl_14, nl_16, nl_24, nl_25, no_1, no_1024, pk_mul, nI_add, nm_ck, nI_clamp, nI_ltI, nI_leI, nI_eq, nb_b2, nb_b1, ↓nb_let, nm_z0, nm_z1, nb_II, nb_IR, nb_RI, nb_RR, nm_IL, nm_IQ, nm_RL, nm_RQ, nm_LI, nm_LR, nm_LL, nm_LQ, nm_QI, nm_QR, nm_QL, nm_QQ, nm_rr, nm_ii, nm_eqm, not_false_eq_true, pk_sub, nm_div, nm_shl, nm_shr, nm_ush, nm_or8, nm_or64, nm_or256, nm_m1, nm_m3, nm_m7, nm_m15, nm_m31, nm_m63, nm_m255, nm_m511, nm_m1023, nm_m2047, nm_m65535, Nat.reduceMod, Nat.reducePow, Nat.reduceAdd, Nat.reduceSub, Nat.reduceMul, nm_bo, nm_bi, nm_rc, nm_ic, nm_ri, nm_rl, nm_rq, nm_ql, nm_qi, nm_li, nm_us, nm_uu, nm_cp, nm_sa31, nm_sa7, nm_m127, nm_m2, nm_nz, nm_nzk, nm_eq32, nm_nzf, if_true, if_false, ↓reduceIte, if_pos, if_neg])
  have e : (pR (pR Y.1 24 (fl (sR Y.1 24) 0 0 (nI 0))) 25 (fl (sR Y.1 25) 0 0 (nI 0)), Y.2) = Y := by
    rw [fl_0, fl_0, nm_r0, nm_r0]
  rw [e] at hm
  refine Eq.trans hm ?_
  show df_X16_boot_153 n (m + 1) v (nI 16) _ = _
  rw [show df_X16_boot_153 n (m + 1) = dF_X16_boot_153 n (df_X16_boot_153 n m) from rfl]
  generalize df_X16_boot_153 n m = G
  have c0 : ∀ x : Option (St × St), nd_b1 x (fun s => some s) = x := fun x => by cases x <;> rfl
  have u1 : (0 : Nat) < 2 ^ 31 := by omega
  unfold btl
  generalize fl (sR Y.1 24) 0 16 (nI 0) = F1
  generalize fl (sR Y.1 25) 0 16 (nI 0) = F2
  simp (disch := (first | assumption | decide | omega)) only [dF_X16_boot_153, c0, eq_self, Nat.reduceEqDiff, Nat.reduceLeDiff, nl_0, nl_1, nl_3, nl_4, nl_14, nl_16, nl_24, nl_25, no_1, no_1024, pk_mul, nI_add, nm_ck, nI_clamp, nI_ltI, nI_leI, nI_eq, nb_b2, nb_b1, ↓nb_let, nm_z0, nm_z1, nb_II, nb_IR, nb_RI, nb_RR, nm_IL, nm_IQ, nm_RL, nm_RQ, nm_LI, nm_LR, nm_LL, nm_LQ, nm_QI, nm_QR, nm_QL, nm_QQ, nm_rr, nm_ii, nm_eqm, not_false_eq_true, pk_sub, nm_div, nm_shl, nm_shr, nm_ush, nm_or8, nm_or64, nm_or256, nm_m1, nm_m3, nm_m7, nm_m15, nm_m31, nm_m63, nm_m255, nm_m511, nm_m1023, nm_m2047, nm_m65535, Nat.reduceMod, Nat.reducePow, Nat.reduceAdd, Nat.reduceSub, Nat.reduceMul, nm_bo, nm_bi, nm_rc, nm_ic, nm_ri, nm_rl, nm_rq, nm_ql, nm_qi, nm_li, nm_us, nm_uu, nm_cp, nm_sa31, nm_sa7, nm_m127, nm_m2, nm_nz, nm_nzk, nm_eq32, nm_nzf, if_true, if_false, ↓reduceIte, if_pos, if_neg]
/-- the reference, before the program is loaded -/
theorem br_all (n : Nat) (hn : 1024 < n) (v : Int32) (X : St × St) : ∃ s : St × St, df_X16_boot n v X = btl n v s ∧ (∀ q : Nat, q < 16 → sR s.1 1 q = (if q = 0 then nI 1 else nI 0) ∧ sR s.1 2 q = -nI 1 ∧ sR s.1 4 q = nI 0 ∧ sR s.1 5 q = nI 0 ∧ sR s.1 6 q = nI 0 ∧ sR s.1 7 q = -nI 1 ∧ sR s.1 8 q = nI 0 ∧ sQ s.1 0 q = -1 ∧ (∀ i : Nat, i < 16 → sR s.1 13 (16 * q + i) = nI 0 ∧ sR s.1 14 (16 * q + i) = -nI 1)) ∧ (∀ i : Nat, i < 1024 → sR s.1 16 i = -nI 1 ∧ sR s.1 18 i = nI 0) ∧ (∀ o : Nat, o < 48 → sR s.1 19 o = nI 0) ∧ (∀ k : Nat, k < 8 → sR s.1 23 k = nI 0) ∧ (∀ k : Nat, k < 16 → sR s.1 24 k = nI 0 ∧ sR s.1 25 k = nI 0) ∧ (sI s.1 0 = nI 0 ∧ sI s.1 1 = -nI 1 ∧ sI s.1 2 = nI 15 ∧ sI s.1 3 = -nI 1 ∧ sI s.1 4 = -nI 1 ∧ sI s.1 5 = nI 0 ∧ sI s.1 6 = nI 0 ∧ sI s.1 7 = nI 0 ∧ sI s.1 14 = -nI 1) ∧ sL s.1 0 = 0 ∧ sL s.1 1 = 0 ∧ sL s.1 2 = 0 ∧ s.2 = X.2 := by
  have e0 : df_X16_boot n v X = df_X16_boot_63 n n v (nI 0) (pI (pL (pL (pL (pI (pI (pI (pI (pI (pI (pI (pI X.1 7 (nI 0)) 5 (nI 0)) 6 (nI 0)) 0 (nI 0)) 4 (-nI 1)) 3 (-nI 1)) 1 (-nI 1)) 2 (nI 15)) 2 0) 1 0) 0 0) 14 (-nI 1), X.2) := rfl
  have i0 : ∀ k : Nat, sR (pI (pL (pL (pL (pI (pI (pI (pI (pI (pI (pI (pI X.1 7 (nI 0)) 5 (nI 0)) 6 (nI 0)) 0 (nI 0)) 4 (-nI 1)) 3 (-nI 1)) 1 (-nI 1)) 2 (nI 15)) 2 0) 1 0) 0 0) 14 (-nI 1)) k = sR X.1 k := fun _ => rfl
  have ii : sI (pI (pL (pL (pL (pI (pI (pI (pI (pI (pI (pI (pI X.1 7 (nI 0)) 5 (nI 0)) 6 (nI 0)) 0 (nI 0)) 4 (-nI 1)) 3 (-nI 1)) 1 (-nI 1)) 2 (nI 15)) 2 0) 1 0) 0 0) 14 (-nI 1)) 0 = nI 0 ∧ sI (pI (pL (pL (pL (pI (pI (pI (pI (pI (pI (pI (pI X.1 7 (nI 0)) 5 (nI 0)) 6 (nI 0)) 0 (nI 0)) 4 (-nI 1)) 3 (-nI 1)) 1 (-nI 1)) 2 (nI 15)) 2 0) 1 0) 0 0) 14 (-nI 1)) 1 = -nI 1 ∧ sI (pI (pL (pL (pL (pI (pI (pI (pI (pI (pI (pI (pI X.1 7 (nI 0)) 5 (nI 0)) 6 (nI 0)) 0 (nI 0)) 4 (-nI 1)) 3 (-nI 1)) 1 (-nI 1)) 2 (nI 15)) 2 0) 1 0) 0 0) 14 (-nI 1)) 2 = nI 15 ∧ sI (pI (pL (pL (pL (pI (pI (pI (pI (pI (pI (pI (pI X.1 7 (nI 0)) 5 (nI 0)) 6 (nI 0)) 0 (nI 0)) 4 (-nI 1)) 3 (-nI 1)) 1 (-nI 1)) 2 (nI 15)) 2 0) 1 0) 0 0) 14 (-nI 1)) 3 = -nI 1 ∧ sI (pI (pL (pL (pL (pI (pI (pI (pI (pI (pI (pI (pI X.1 7 (nI 0)) 5 (nI 0)) 6 (nI 0)) 0 (nI 0)) 4 (-nI 1)) 3 (-nI 1)) 1 (-nI 1)) 2 (nI 15)) 2 0) 1 0) 0 0) 14 (-nI 1)) 4 = -nI 1 ∧ sI (pI (pL (pL (pL (pI (pI (pI (pI (pI (pI (pI (pI X.1 7 (nI 0)) 5 (nI 0)) 6 (nI 0)) 0 (nI 0)) 4 (-nI 1)) 3 (-nI 1)) 1 (-nI 1)) 2 (nI 15)) 2 0) 1 0) 0 0) 14 (-nI 1)) 5 = nI 0 ∧ sI (pI (pL (pL (pL (pI (pI (pI (pI (pI (pI (pI (pI X.1 7 (nI 0)) 5 (nI 0)) 6 (nI 0)) 0 (nI 0)) 4 (-nI 1)) 3 (-nI 1)) 1 (-nI 1)) 2 (nI 15)) 2 0) 1 0) 0 0) 14 (-nI 1)) 6 = nI 0 ∧ sI (pI (pL (pL (pL (pI (pI (pI (pI (pI (pI (pI (pI X.1 7 (nI 0)) 5 (nI 0)) 6 (nI 0)) 0 (nI 0)) 4 (-nI 1)) 3 (-nI 1)) 1 (-nI 1)) 2 (nI 15)) 2 0) 1 0) 0 0) 14 (-nI 1)) 7 = nI 0 ∧ sI (pI (pL (pL (pL (pI (pI (pI (pI (pI (pI (pI (pI X.1 7 (nI 0)) 5 (nI 0)) 6 (nI 0)) 0 (nI 0)) 4 (-nI 1)) 3 (-nI 1)) 1 (-nI 1)) 2 (nI 15)) 2 0) 1 0) 0 0) 14 (-nI 1)) 14 = -nI 1 := ⟨rfl, rfl, rfl, rfl, rfl, rfl, rfl, rfl, rfl⟩
  have ll : sL (pI (pL (pL (pL (pI (pI (pI (pI (pI (pI (pI (pI X.1 7 (nI 0)) 5 (nI 0)) 6 (nI 0)) 0 (nI 0)) 4 (-nI 1)) 3 (-nI 1)) 1 (-nI 1)) 2 (nI 15)) 2 0) 1 0) 0 0) 14 (-nI 1)) 0 = 0 ∧ sL (pI (pL (pL (pL (pI (pI (pI (pI (pI (pI (pI (pI X.1 7 (nI 0)) 5 (nI 0)) 6 (nI 0)) 0 (nI 0)) 4 (-nI 1)) 3 (-nI 1)) 1 (-nI 1)) 2 (nI 15)) 2 0) 1 0) 0 0) 14 (-nI 1)) 1 = 0 ∧ sL (pI (pL (pL (pL (pI (pI (pI (pI (pI (pI (pI (pI X.1 7 (nI 0)) 5 (nI 0)) 6 (nI 0)) 0 (nI 0)) 4 (-nI 1)) 3 (-nI 1)) 1 (-nI 1)) 2 (nI 15)) 2 0) 1 0) 0 0) 14 (-nI 1)) 2 = 0 := ⟨rfl, rfl, rfl⟩
  generalize pI (pL (pL (pL (pI (pI (pI (pI (pI (pI (pI (pI X.1 7 (nI 0)) 5 (nI 0)) 6 (nI 0)) 0 (nI 0)) 4 (-nI 1)) 3 (-nI 1)) 1 (-nI 1)) 2 (nI 15)) 2 0) 1 0) 0 0) 14 (-nI 1) = Y at e0 i0 ii ll
  rw [br_63 n hn] at e0
  obtain ⟨s, ⟨b1, b2, b3, b4, b5⟩, e1⟩ := br_92 n hn v (pR (pR Y 16 (fl (sR Y 16) 0 1024 (-nI 1))) 18 (fl (sR Y 18) 0 1024 (nI 0)), X.2)
  rw [e1, br_111 n hn, br_132 n hn, br_153 n hn] at e0
  have b16 : sR s.1 16 = fl (sR Y 16) 0 1024 (-nI 1) := b2 16 (by omega)
  have b18 : sR s.1 18 = fl (sR Y 18) 0 1024 (nI 0) := b2 18 (by omega)
  have b3 : ∀ i : Nat, sI s.1 i = sI Y i := b3
  have b4 : ∀ i : Nat, sL s.1 i = sL Y i := b4
  refine ⟨_, e0, fun q hq => ?_, fun i hi => ?_, fun o ho => fl_p (by omega), fun k hk => fl_p (by omega), fun k hk => ⟨fl_p (by omega), fl_p (by omega)⟩, ?_, ?_, ?_, ?_, b5⟩
  · obtain ⟨a1, a2, a3, a4, a5, a6, a7, a8, a9⟩ := b1 q hq
    refine ⟨?_, a2, a3, a4, a5, a6, a7, a8, a9⟩
    show upd (sR s.1 1) 0 (nI 1) q = _
    by_cases c : q = 0
    · rw [if_pos c, c, nm_us]
    · rw [if_neg c, nm_un c]; exact a1
  · exact ⟨(congrFun b16 i).trans (fl_p (by omega)), (congrFun b18 i).trans (fl_p (by omega))⟩
  · obtain ⟨c0, c1, c2, c3, c4, c5, c6, c7, c8⟩ := ii
    exact ⟨(b3 0).trans c0, (b3 1).trans c1, (b3 2).trans c2, (b3 3).trans c3, (b3 4).trans c4, (b3 5).trans c5, (b3 6).trans c6, (b3 7).trans c7, (b3 14).trans c8⟩
  · exact (b4 0).trans ll.1
  · exact (b4 1).trans ll.2.1
  · exact (b4 2).trans ll.2.2
