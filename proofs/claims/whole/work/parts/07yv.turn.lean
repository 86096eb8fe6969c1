/-- how far behind the last one the next READY one is; 17 without one -/
def nr (st : Nat → Int32) (la : Nat) : Nat := fN (fun k => decide (st ((la + k) % 16) = nI 1)) 1 16
theorem nr_le (st : Nat → Int32) (la : Nat) : 1 ≤ nr st la ∧ nr st la ≤ 17 ∧ (nr st la < 17 → st ((la + nr st la) % 16) = nI 1) := by
  obtain ⟨a, b, c, _⟩ := fN_le (fun k => decide (st ((la + k) % 16) = nI 1)) 16 1
  exact ⟨a, b, fun h => of_decide_eq_true (c h)⟩
theorem nk_next (n : Nat) (hn : 1024 < n) {M X : St × St} (hst : ∀ q : Nat, q < 16 → ∃ t : Nat, t < 4 ∧ sR M.1 6 (q * 7) = nI t ∧ sR X.1 1 q = nI t) {la : Nat} (hl : la < 16) : df_X6_nextReady n (nI la) M = some (if nr (sR X.1 1) la < 17 then nI ((la + nr (sR X.1 1) la) % 16) else -nI 1, M) := by
  obtain ⟨x1, x2, x3⟩ := nr_le (sR X.1 1) la
  obtain ⟨m, hm⟩ := nm_ls (fun m k => df_X6_nextReady_2 n m (nI la) (nI k) M) (fun k => decide (sR X.1 1 ((la + k) % 16) = nI 1)) 1 16 n (by omega) (fun k m h0 hk c => by
    have c := of_decide_eq_false c
    obtain ⟨t, ht, t1, t2⟩ := hst ((la + k) % 16) (by omega)
    rw [t2] at c
    have t1' : ¬ t = 1 := fun z => c (congrArg nI z)
    have k16 : ¬ 16 < k := by omega
    have u1 : (la + k) % 16 * 7 < 112 := by omega
    have u2 : (la + k) % 16 * 7 < 2 ^ 31 := by omega
    have u3 : k < 2 ^ 31 := by omega
    have u4 : la + k < 2 ^ 32 := by omega
    have u5 : t < 2 ^ 31 := by omega
    rw [show df_X6_nextReady_2 n (m + 1) = dF_X6_nextReady_2 n (df_X6_nextReady_2 n m) from rfl]
    simp (disch := (first | assumption | decide | omega)) only [dF_X6_nextReady_2, k16, Nat.add_zero, t1, t1', eq_self, Nat.reduceEqDiff, Nat.reduceLeDiff, nl_0, nl_1, nl_6, nl_7, nl_15, nl_16, nl_112, no_1, no_1024, pk_mul, nI_add, nm_ck, nI_clamp, nI_ltI, nI_leI, nI_eq, nb_b2, nb_b1, ↓nb_let, nm_z0, nm_z1, nb_II, nb_IR, nb_RI, nb_RR, nm_IL, nm_IQ, nm_RL, nm_RQ, nm_LI, nm_LR, nm_LL, nm_LQ, nm_QI, nm_QR, nm_QL, nm_QQ, nm_rr, nm_ii, nm_eqm, not_false_eq_true, pk_sub, nm_div, nm_shl, nm_shr, nm_ush, nm_or8, nm_or64, nm_or256, nm_m1, nm_m3, nm_m7, nm_m15, nm_m31, nm_m63, nm_m255, nm_m511, nm_m1023, nm_m2047, nm_m65535, Nat.reduceMod, Nat.reducePow, Nat.reduceAdd, Nat.reduceSub, Nat.reduceMul, nm_bo, nm_bi, nm_rc, nm_ic, nm_ri, nm_rl, nm_rq, nm_ql, nm_qi, nm_li, nm_us, nm_uu, nm_cp, nm_sa31, nm_sa7, nm_m127, nm_m2, nm_nz, nm_nzk, nm_eq32, nm_nzf, if_true, if_false, ↓reduceIte, if_pos, if_neg])
  have hm : df_X6_nextReady n (nI la) M = df_X6_nextReady_2 n (m + 1) (nI la) (nI (nr (sR X.1 1) la)) M := hm
  rw [hm, show df_X6_nextReady_2 n (m + 1) = dF_X6_nextReady_2 n (df_X6_nextReady_2 n m) from rfl]
  generalize nr (sR X.1 1) la = k at x1 x2 x3 ⊢
  by_cases c : k < 17
  · rw [if_pos c]
    obtain ⟨t, ht, t1, t2⟩ := hst ((la + k) % 16) (by omega)
    have e1 : sR M.1 6 ((la + k) % 16 * 7) = nI 1 := by rw [t1, ← t2]; exact x3 c
    have k16 : ¬ 16 < k := by omega
    have u1 : (la + k) % 16 * 7 < 112 := by omega
    have u2 : (la + k) % 16 * 7 < 2 ^ 31 := by omega
    have u3 : k < 2 ^ 31 := by omega
    have u4 : la + k < 2 ^ 32 := by omega
    simp (disch := (first | assumption | decide | omega)) only [dF_X6_nextReady_2, k16, Nat.add_zero, e1, eq_self, Nat.reduceEqDiff, Nat.reduceLeDiff, nl_0, nl_1, nl_6, nl_7, nl_15, nl_16, nl_112, no_1, no_1024, pk_mul, nI_add, nm_ck, nI_clamp, nI_ltI, nI_leI, nI_eq, nb_b2, nb_b1, ↓nb_let, nm_z0, nm_z1, nb_II, nb_IR, nb_RI, nb_RR, nm_IL, nm_IQ, nm_RL, nm_RQ, nm_LI, nm_LR, nm_LL, nm_LQ, nm_QI, nm_QR, nm_QL, nm_QQ, nm_rr, nm_ii, nm_eqm, not_false_eq_true, pk_sub, nm_div, nm_shl, nm_shr, nm_ush, nm_or8, nm_or64, nm_or256, nm_m1, nm_m3, nm_m7, nm_m15, nm_m31, nm_m63, nm_m255, nm_m511, nm_m1023, nm_m2047, nm_m65535, Nat.reduceMod, Nat.reducePow, Nat.reduceAdd, Nat.reduceSub, Nat.reduceMul, nm_bo, nm_bi, nm_rc, nm_ic, nm_ri, nm_rl, nm_rq, nm_ql, nm_qi, nm_li, nm_us, nm_uu, nm_cp, nm_sa31, nm_sa7, nm_m127, nm_m2, nm_nz, nm_nzk, nm_eq32, nm_nzf, if_true, if_false, ↓reduceIte, if_pos, if_neg]
  · rw [if_neg c]
    have k16 : 16 < k := by omega
    have u3 : k < 2 ^ 31 := by omega
    simp (disch := (first | assumption | decide | omega)) only [dF_X6_nextReady_2, k16, eq_self, Nat.reduceEqDiff, Nat.reduceLeDiff, nl_0, nl_1, nl_6, nl_7, nl_15, nl_16, nl_112, no_1, no_1024, pk_mul, nI_add, nm_ck, nI_clamp, nI_ltI, nI_leI, nI_eq, nb_b2, nb_b1, ↓nb_let, nm_z0, nm_z1, nb_II, nb_IR, nb_RI, nb_RR, nm_IL, nm_IQ, nm_RL, nm_RQ, nm_LI, nm_LR, nm_LL, nm_LQ, nm_QI, nm_QR, nm_QL, nm_QQ, nm_rr, nm_ii, nm_eqm, not_false_eq_true, pk_sub, nm_div, nm_shl, nm_shr, nm_ush, nm_or8, nm_or64, nm_or256, nm_m1, nm_m3, nm_m7, nm_m15, nm_m31, nm_m63, nm_m255, nm_m511, nm_m1023, nm_m2047, nm_m65535, Nat.reduceMod, Nat.reducePow, Nat.reduceAdd, Nat.reduceSub, Nat.reduceMul, nm_bo, nm_bi, nm_rc, nm_ic, nm_ri, nm_rl, nm_rq, nm_ql, nm_qi, nm_li, nm_us, nm_uu, nm_cp, nm_sa31, nm_sa7, nm_m127, nm_m2, nm_nz, nm_nzk, nm_eq32, nm_nzf, if_true, if_false, ↓reduceIte, if_pos, if_neg]
theorem nk_turn (n : Nat) (hn : 1024 < n) {X : St × St} (hst : ∀ q : Nat, q < 16 → ∃ t : Nat, t < 4 ∧ sR X.1 1 q = nI t) {la : Nat} (hl : la < 16) (el : sI X.1 2 = nI la) : df_X16_turn n X = some (pI (pI X.1 1 (if nr (sR X.1 1) la < 17 then nI ((la + nr (sR X.1 1) la) % 16) else -nI 1)) 2 (if nr (sR X.1 1) la < 17 then nI ((la + nr (sR X.1 1) la) % 16) else nI la), X.2) := by
  obtain ⟨x1, x2, x3⟩ := nr_le (sR X.1 1) la
  have md : ∀ k : Nat, la + k - (la + k) / 16 * 16 = (la + k) % 16 := fun k => by omega
  obtain ⟨m, hm⟩ := nm_ls (fun m k => df_X16_turn_7 n (m + 1) (nI k) (pI X.1 1 (-nI 1), X.2)) (fun k => decide (sR X.1 1 ((la + k) % 16) = nI 1)) 1 16 (n - 1) (by omega) (fun k m h0 hk c => by
    have c := of_decide_eq_false c
    obtain ⟨t, ht, t2⟩ := hst ((la + k) % 16) (by omega)
    rw [t2] at c
    have t1' : ¬ t = 1 := fun z => c (congrArg nI z)
    have k16 : ¬ 16 < k := by omega
    have u1 : (la + k) % 16 < 16 := by omega
    have u2 : (la + k) % 16 < 2 ^ 31 := by omega
    have u3 : k < 2 ^ 31 := by omega
    have u4 : la + k < 2 ^ 31 := by omega
    have u5 : t < 2 ^ 31 := by omega
    have mk := md k
    show df_X16_turn_7 n (m + 1 + 1) (nI k) _ = df_X16_turn_7 n (m + 1) (nI (k + 1)) _
    rw [show df_X16_turn_7 n (m + 1 + 1) = dF_X16_turn_7 n (df_X16_turn_7 n (m + 1)) from rfl]
    simp (disch := (first | assumption | decide | omega)) only [dF_X16_turn_7, df_X16_turn_47, k16, el, mk, t2, t1', eq_self, Nat.reduceEqDiff, Nat.reduceLeDiff, nl_1, nl_2, nl_16, no_1, no_1024, pk_mul, nI_add, nm_ck, nI_clamp, nI_ltI, nI_leI, nI_eq, nb_b2, nb_b1, ↓nb_let, nm_z0, nm_z1, nb_II, nb_IR, nb_RI, nb_RR, nm_IL, nm_IQ, nm_RL, nm_RQ, nm_LI, nm_LR, nm_LL, nm_LQ, nm_QI, nm_QR, nm_QL, nm_QQ, nm_rr, nm_ii, nm_eqm, not_false_eq_true, pk_sub, nm_div, nm_shl, nm_shr, nm_ush, nm_or8, nm_or64, nm_or256, nm_m1, nm_m3, nm_m7, nm_m15, nm_m31, nm_m63, nm_m255, nm_m511, nm_m1023, nm_m2047, nm_m65535, Nat.reduceMod, Nat.reducePow, Nat.reduceAdd, Nat.reduceSub, Nat.reduceMul, nm_bo, nm_bi, nm_rc, nm_ic, nm_ri, nm_rl, nm_rq, nm_ql, nm_qi, nm_li, nm_us, nm_uu, nm_cp, nm_sa31, nm_sa7, nm_m127, nm_m2, nm_nz, nm_nzk, nm_eq32, nm_nzf, if_true, if_false, ↓reduceIte, if_pos, if_neg])
  have e0 : df_X16_turn n X = df_X16_turn_7 n n (nI 1) (pI X.1 1 (-nI 1), X.2) := rfl
  have hm : df_X16_turn_7 n (n - 1 + 1) (nI 1) (pI X.1 1 (-nI 1), X.2) = df_X16_turn_7 n (m + 1 + 1) (nI (nr (sR X.1 1) la)) (pI X.1 1 (-nI 1), X.2) := hm
  rw [show n - 1 + 1 = n from by omega] at hm
  rw [e0, hm, show df_X16_turn_7 n (m + 1 + 1) = dF_X16_turn_7 n (dF_X16_turn_7 n (df_X16_turn_7 n m)) from rfl]
  generalize nr (sR X.1 1) la = k at x1 x2 x3 ⊢
  have u3 : k < 2 ^ 31 := by omega
  by_cases c : k < 17
  · rw [if_pos c, if_pos c]
    have e1 := x3 c
    have k16 : ¬ 16 < k := by omega
    have u1 : (la + k) % 16 < 16 := by omega
    have u2 : (la + k) % 16 < 2 ^ 31 := by omega
    have u4 : la + k < 2 ^ 31 := by omega
    have mk := md k
    by_cases k17 : 16 < k + 1
    · simp (disch := (first | assumption | decide | omega)) only [dF_X16_turn_7, df_X16_turn_47, df_X16_turn_56, df_X16_turn_76, k16, k17, el, mk, e1, eq_self, Nat.reduceEqDiff, Nat.reduceLeDiff, nm_ic (a := 2) (b := 1) (by decide), nl_1, nl_2, nl_16, no_1, no_1024, pk_mul, nI_add, nm_ck, nI_clamp, nI_ltI, nI_leI, nI_eq, nb_b2, nb_b1, ↓nb_let, nm_z0, nm_z1, nb_II, nb_IR, nb_RI, nb_RR, nm_IL, nm_IQ, nm_RL, nm_RQ, nm_LI, nm_LR, nm_LL, nm_LQ, nm_QI, nm_QR, nm_QL, nm_QQ, nm_rr, nm_ii, nm_eqm, not_false_eq_true, pk_sub, nm_div, nm_shl, nm_shr, nm_ush, nm_or8, nm_or64, nm_or256, nm_m1, nm_m3, nm_m7, nm_m15, nm_m31, nm_m63, nm_m255, nm_m511, nm_m1023, nm_m2047, nm_m65535, Nat.reduceMod, Nat.reducePow, Nat.reduceAdd, Nat.reduceSub, Nat.reduceMul, nm_bo, nm_bi, nm_rc, nm_ic, nm_ri, nm_rl, nm_rq, nm_ql, nm_qi, nm_li, nm_us, nm_uu, nm_cp, nm_sa31, nm_sa7, nm_m127, nm_m2, nm_nz, nm_nzk, nm_eq32, nm_nzf, if_true, if_false, ↓reduceIte, if_pos, if_neg]
    · simp (disch := (first | assumption | decide | omega)) only [dF_X16_turn_7, df_X16_turn_47, df_X16_turn_56, df_X16_turn_76, k16, k17, el, mk, e1, eq_self, Nat.reduceEqDiff, Nat.reduceLeDiff, nm_ic (a := 2) (b := 1) (by decide), nl_1, nl_2, nl_16, no_1, no_1024, pk_mul, nI_add, nm_ck, nI_clamp, nI_ltI, nI_leI, nI_eq, nb_b2, nb_b1, ↓nb_let, nm_z0, nm_z1, nb_II, nb_IR, nb_RI, nb_RR, nm_IL, nm_IQ, nm_RL, nm_RQ, nm_LI, nm_LR, nm_LL, nm_LQ, nm_QI, nm_QR, nm_QL, nm_QQ, nm_rr, nm_ii, nm_eqm, not_false_eq_true, pk_sub, nm_div, nm_shl, nm_shr, nm_ush, nm_or8, nm_or64, nm_or256, nm_m1, nm_m3, nm_m7, nm_m15, nm_m31, nm_m63, nm_m255, nm_m511, nm_m1023, nm_m2047, nm_m65535, Nat.reduceMod, Nat.reducePow, Nat.reduceAdd, Nat.reduceSub, Nat.reduceMul, nm_bo, nm_bi, nm_rc, nm_ic, nm_ri, nm_rl, nm_rq, nm_ql, nm_qi, nm_li, nm_us, nm_uu, nm_cp, nm_sa31, nm_sa7, nm_m127, nm_m2, nm_nz, nm_nzk, nm_eq32, nm_nzf, if_true, if_false, ↓reduceIte, if_pos, if_neg]
  · rw [if_neg c, if_neg c]
    have k16 : 16 < k := by omega
    simp (disch := (first | assumption | decide | omega)) only [dF_X16_turn_7, df_X16_turn_47, df_X16_turn_56, df_X16_turn_76, k16, el, eq_self, Nat.reduceEqDiff, Nat.reduceLeDiff, nm_ic (a := 2) (b := 1) (by decide), nl_1, nl_2, nl_16, no_1, no_1024, pk_mul, nI_add, nm_ck, nI_clamp, nI_ltI, nI_leI, nI_eq, nb_b2, nb_b1, ↓nb_let, nm_z0, nm_z1, nb_II, nb_IR, nb_RI, nb_RR, nm_IL, nm_IQ, nm_RL, nm_RQ, nm_LI, nm_LR, nm_LL, nm_LQ, nm_QI, nm_QR, nm_QL, nm_QQ, nm_rr, nm_ii, nm_eqm, not_false_eq_true, pk_sub, nm_div, nm_shl, nm_shr, nm_ush, nm_or8, nm_or64, nm_or256, nm_m1, nm_m3, nm_m7, nm_m15, nm_m31, nm_m63, nm_m255, nm_m511, nm_m1023, nm_m2047, nm_m65535, Nat.reduceMod, Nat.reducePow, Nat.reduceAdd, Nat.reduceSub, Nat.reduceMul, nm_bo, nm_bi, nm_rc, nm_ic, nm_ri, nm_rl, nm_rq, nm_ql, nm_qi, nm_li, nm_us, nm_uu, nm_cp, nm_sa31, nm_sa7, nm_m127, nm_m2, nm_nz, nm_nzk, nm_eq32, nm_nzf, if_true, if_false, ↓reduceIte, if_pos, if_neg]
/-- a current one is chosen: both -/
theorem nk_choose (n : Nat) (hn : 1024 < n) {M X : St × St} (hst : ∀ q : Nat, q < 16 → ∃ t : Nat, t < 4 ∧ sR M.1 6 (q * 7) = nI t ∧ sR X.1 1 q = nI t) {la : Nat} (hl : la < 16) (em : sI M.1 4 = nI la) : df_X6_chooseCurrent_22 n M = some (pI (pI M.1 3 (if nr (sR X.1 1) la < 17 then nI ((la + nr (sR X.1 1) la) % 16) else -nI 1)) 4 (if nr (sR X.1 1) la < 17 then nI ((la + nr (sR X.1 1) la) % 16) else nI la), M.2) := by
  have nx := nk_next n hn hst hl
  by_cases c : nr (sR X.1 1) la < 17
  · rw [if_pos c] at nx
    rw [if_pos c, if_pos c]
    have u1 : (la + nr (sR X.1 1) la) % 16 < 2 ^ 31 := by omega
    have u2 : ¬ (la + nr (sR X.1 1) la) % 16 < 0 := by omega
    generalize (la + nr (sR X.1 1) la) % 16 = q at nx u1 u2 ⊢
    simp (disch := (first | assumption | decide | omega)) only [df_X6_chooseCurrent_22, df_X6_chooseCurrent_34, df_X6_makeCurrent_14, df_X6_makeCurrent_0, df_X6_makeCurrent, em, nx, u2, eq_self, Nat.reduceEqDiff, Nat.reduceLeDiff, nl_0, nl_3, nl_4, no_1, no_1024, pk_mul, nI_add, nm_ck, nI_clamp, nI_ltI, nI_leI, nI_eq, nb_b2, nb_b1, ↓nb_let, nm_z0, nm_z1, nb_II, nb_IR, nb_RI, nb_RR, nm_IL, nm_IQ, nm_RL, nm_RQ, nm_LI, nm_LR, nm_LL, nm_LQ, nm_QI, nm_QR, nm_QL, nm_QQ, nm_rr, nm_ii, nm_eqm, not_false_eq_true, pk_sub, nm_div, nm_shl, nm_shr, nm_ush, nm_or8, nm_or64, nm_or256, nm_m1, nm_m3, nm_m7, nm_m15, nm_m31, nm_m63, nm_m255, nm_m511, nm_m1023, nm_m2047, nm_m65535, Nat.reduceMod, Nat.reducePow, Nat.reduceAdd, Nat.reduceSub, Nat.reduceMul, nm_bo, nm_bi, nm_rc, nm_ic, nm_ri, nm_rl, nm_rq, nm_ql, nm_qi, nm_li, nm_us, nm_uu, nm_cp, nm_sa31, nm_sa7, nm_m127, nm_m2, nm_nz, nm_nzk, nm_eq32, nm_nzf, if_true, if_false, ↓reduceIte, if_pos, if_neg]
  · rw [if_neg c] at nx
    rw [if_neg c, if_neg c, ← em]
    have e4 : pI (pI M.1 3 (-nI 1)) 4 (sI M.1 4) = pI M.1 3 (-nI 1) := nm_i0 (pI M.1 3 (-nI 1)) 4
    rw [e4]
    simp (disch := (first | assumption | decide | omega)) only [df_X6_chooseCurrent_22, df_X6_chooseCurrent_34, df_X6_makeCurrent_14, df_X6_makeCurrent_0, df_X6_makeCurrent, em, nx, nm_ltm, eq_self, Nat.reduceEqDiff, Nat.reduceLeDiff, nl_0, nl_3, nl_4, no_1, no_1024, pk_mul, nI_add, nm_ck, nI_clamp, nI_ltI, nI_leI, nI_eq, nb_b2, nb_b1, ↓nb_let, nm_z0, nm_z1, nb_II, nb_IR, nb_RI, nb_RR, nm_IL, nm_IQ, nm_RL, nm_RQ, nm_LI, nm_LR, nm_LL, nm_LQ, nm_QI, nm_QR, nm_QL, nm_QQ, nm_rr, nm_ii, nm_eqm, not_false_eq_true, pk_sub, nm_div, nm_shl, nm_shr, nm_ush, nm_or8, nm_or64, nm_or256, nm_m1, nm_m3, nm_m7, nm_m15, nm_m31, nm_m63, nm_m255, nm_m511, nm_m1023, nm_m2047, nm_m65535, Nat.reduceMod, Nat.reducePow, Nat.reduceAdd, Nat.reduceSub, Nat.reduceMul, nm_bo, nm_bi, nm_rc, nm_ic, nm_ri, nm_rl, nm_rq, nm_ql, nm_qi, nm_li, nm_us, nm_uu, nm_cp, nm_sa31, nm_sa7, nm_m127, nm_m2, nm_nz, nm_nzk, nm_eq32, nm_nzf, if_true, if_false, ↓reduceIte, if_pos, if_neg]
