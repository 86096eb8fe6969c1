theorem vc_s {f : Nat → Int32} {a b k : Nat} (h : ¬ (b ≤ a + k ∧ a + k < b + k)) : upd (va_cpy f f a b k) (b + k) (va_cpy f f a b k (a + k)) = va_cpy f f a b (k + 1) := by
  rw [va_o h]
  funext j
  by_cases c : j = b + k
  · rw [c, nm_us, va_i (by omega)]
    exact congrArg f (by omega)
  · rw [nm_un c]
    by_cases d : b ≤ j ∧ j < b + k
    · rw [va_i d, va_i (by omega)]
    · rw [va_o d, va_o (by omega)]
theorem vc_0 (f : Nat → Int32) (a b : Nat) : va_cpy f f a b 0 = f := by
  funext j
  exact va_o (by omega)
/-- registers and what is saved, copied to the child -/
theorem fk_56 (n : Nat) (hn : 1024 < n) {T : St × St} {p c w : Nat} (hp : p < 16) (hc : c < 16) (hne : p ≠ c) (hw : w < 2) (e12 : sI T.1 12 = nI p) (ew : sR T.1 8 p = nI w) : df_X16_fork_56 n n (nI c) (nI 0) T = df_X16_fork_210 n n (nI c) (nI 0) (pR (pR (pR (pR (pR (pR (pR T.1 5 (upd (sR T.1 5) c (sR T.1 5 p))) 6 (upd (sR T.1 6) c (sR T.1 6 p))) 8 (upd (sR T.1 8) c (nI w))) 9 (upd (va_cpy (sR T.1 9) (sR T.1 9) (32 * p) (32 * c) 32) (32 * c + 10) (nI 0))) 10 (upd (sR T.1 10) c (sR T.1 10 p + nI 4))) 11 (va_cpy (sR T.1 11) (sR T.1 11) (32 * p) (32 * c) 32)) 12 (upd (sR T.1 12) c (sR T.1 12 p)), T.2) := by
  obtain ⟨m, hm⟩ := nm_lq (fun m k => df_X16_fork_56 n m (nI c) (nI k) (pR (pR T.1 9 (va_cpy (sR T.1 9) (sR T.1 9) (32 * p) (32 * c) k)) 11 (va_cpy (sR T.1 11) (sR T.1 11) (32 * p) (32 * c) k), T.2)) 32 n (by omega) (fun k m hk => by
    have u1 : 32 * p + k < 512 := by omega
    have u2 : 32 * p + k < 2 ^ 31 := by omega
    have u3 : 32 * c + k < 512 := by omega
    have u4 : 32 * c + k < 2 ^ 31 := by omega
    have u5 : k < 2 ^ 31 := by omega
    have k32 : ¬ 32 ≤ k := by omega
    have v9 := vc_s (f := sR T.1 9) (a := 32 * p) (b := 32 * c) (k := k) (by omega)
    have v11 := vc_s (f := sR T.1 11) (a := 32 * p) (b := 32 * c) (k := k) (by omega)
    rw [show df_X16_fork_56 n (m + 1) = dF_X16_fork_56 n (df_X16_fork_56 n m) from rfl]
    simp (disch := (first | assumption | decide | omega)) only [dF_X16_fork_56, k32, e12, v9, v11, eq_self, Nat.reduceEqDiff, Nat.reduceLeDiff, nm_rc (a := 11) (b := 9) (by decide), nl_0, nl_1, nl_4, nl_5, nl_6, nl_8, nl_9, nl_10, nl_11, nl_12, nl_16, nl_32, nl_512, no_1, no_1024, pk_mul, nI_add, nm_ck, nI_clamp, nI_ltI, nI_leI, nI_eq, nb_b2, nb_b1, ↓nb_let, nm_z0, nm_z1, nb_II, nb_IR, nb_RI, nb_RR, nm_IL, nm_IQ, nm_RL, nm_RQ, nm_LI, nm_LR, nm_LL, nm_LQ, nm_QI, nm_QR, nm_QL, nm_QQ, nm_rr, nm_ii, nm_eqm, not_false_eq_true, pk_sub, nm_div, nm_shl, nm_shr, nm_ush, nm_or8, nm_or64, nm_or256, nm_m1, nm_m3, nm_m7, nm_m15, nm_m31, nm_m63, nm_m255, nm_m511, nm_m1023, nm_m2047, nm_m65535, Nat.reduceMod, Nat.reducePow, Nat.reduceAdd, Nat.reduceSub, Nat.reduceMul, nm_bo, nm_bi, nm_rc, nm_ic, nm_ri, nm_rl, nm_rq, nm_ql, nm_qi, nm_li, nm_us, nm_uu, nm_cp, nm_sa31, nm_sa7, nm_m127, nm_m2, nm_nz, nm_nzk, nm_eq32, nm_nzf, if_true, if_false, ↓reduceIte, if_pos, if_neg])
  rw [vc_0, vc_0, nm_r0, nm_r0] at hm
  have u1 : 32 * c + 10 < 512 := by omega
  have u2 : 32 * c + 10 < 2 ^ 31 := by omega
  have u3 : p < 2 ^ 31 := by omega
  have u4 : c < 2 ^ 31 := by omega
  refine Eq.trans hm ?_
  show df_X16_fork_56 n (m + 1) (nI c) (nI 32) _ = _
  rw [show df_X16_fork_56 n (m + 1) = dF_X16_fork_56 n (df_X16_fork_56 n m) from rfl]
  have cw : w = 0 ∨ w = 1 := by omega
  rcases cw with e | e
  · subst e
    simp (disch := (first | assumption | decide | omega)) only [dF_X16_fork_56, e12, ew, eq_self, Nat.reduceEqDiff, Nat.reduceLeDiff, nm_rc (a := 6) (b := 5) (by decide), nm_rc (a := 8) (b := 5) (by decide), nm_rc (a := 8) (b := 6) (by decide), nm_rc (a := 9) (b := 5) (by decide), nm_rc (a := 9) (b := 6) (by decide), nm_rc (a := 9) (b := 8) (by decide), nm_rc (a := 10) (b := 5) (by decide), nm_rc (a := 10) (b := 6) (by decide), nm_rc (a := 10) (b := 8) (by decide), nm_rc (a := 10) (b := 9) (by decide), nm_rc (a := 11) (b := 5) (by decide), nm_rc (a := 11) (b := 6) (by decide), nm_rc (a := 11) (b := 8) (by decide), nm_rc (a := 11) (b := 9) (by decide), nm_rc (a := 11) (b := 10) (by decide), nm_rc (a := 12) (b := 5) (by decide), nm_rc (a := 12) (b := 6) (by decide), nm_rc (a := 12) (b := 8) (by decide), nm_rc (a := 12) (b := 9) (by decide), nm_rc (a := 12) (b := 10) (by decide), nm_rc (a := 12) (b := 11) (by decide), nl_0, nl_1, nl_4, nl_5, nl_6, nl_8, nl_9, nl_10, nl_11, nl_12, nl_16, nl_32, nl_512, no_1, no_1024, pk_mul, nI_add, nm_ck, nI_clamp, nI_ltI, nI_leI, nI_eq, nb_b2, nb_b1, ↓nb_let, nm_z0, nm_z1, nb_II, nb_IR, nb_RI, nb_RR, nm_IL, nm_IQ, nm_RL, nm_RQ, nm_LI, nm_LR, nm_LL, nm_LQ, nm_QI, nm_QR, nm_QL, nm_QQ, nm_rr, nm_ii, nm_eqm, not_false_eq_true, pk_sub, nm_div, nm_shl, nm_shr, nm_ush, nm_or8, nm_or64, nm_or256, nm_m1, nm_m3, nm_m7, nm_m15, nm_m31, nm_m63, nm_m255, nm_m511, nm_m1023, nm_m2047, nm_m65535, Nat.reduceMod, Nat.reducePow, Nat.reduceAdd, Nat.reduceSub, Nat.reduceMul, nm_bo, nm_bi, nm_rc, nm_ic, nm_ri, nm_rl, nm_rq, nm_ql, nm_qi, nm_li, nm_us, nm_uu, nm_cp, nm_sa31, nm_sa7, nm_m127, nm_m2, nm_nz, nm_nzk, nm_eq32, nm_nzf, if_true, if_false, ↓reduceIte, if_pos, if_neg]
  · subst e
    simp (disch := (first | assumption | decide | omega)) only [dF_X16_fork_56, e12, ew, eq_self, Nat.reduceEqDiff, Nat.reduceLeDiff, nm_rc (a := 6) (b := 5) (by decide), nm_rc (a := 8) (b := 5) (by decide), nm_rc (a := 8) (b := 6) (by decide), nm_rc (a := 9) (b := 5) (by decide), nm_rc (a := 9) (b := 6) (by decide), nm_rc (a := 9) (b := 8) (by decide), nm_rc (a := 10) (b := 5) (by decide), nm_rc (a := 10) (b := 6) (by decide), nm_rc (a := 10) (b := 8) (by decide), nm_rc (a := 10) (b := 9) (by decide), nm_rc (a := 11) (b := 5) (by decide), nm_rc (a := 11) (b := 6) (by decide), nm_rc (a := 11) (b := 8) (by decide), nm_rc (a := 11) (b := 9) (by decide), nm_rc (a := 11) (b := 10) (by decide), nm_rc (a := 12) (b := 5) (by decide), nm_rc (a := 12) (b := 6) (by decide), nm_rc (a := 12) (b := 8) (by decide), nm_rc (a := 12) (b := 9) (by decide), nm_rc (a := 12) (b := 10) (by decide), nm_rc (a := 12) (b := 11) (by decide), nl_0, nl_1, nl_4, nl_5, nl_6, nl_8, nl_9, nl_10, nl_11, nl_12, nl_16, nl_32, nl_512, no_1, no_1024, pk_mul, nI_add, nm_ck, nI_clamp, nI_ltI, nI_leI, nI_eq, nb_b2, nb_b1, ↓nb_let, nm_z0, nm_z1, nb_II, nb_IR, nb_RI, nb_RR, nm_IL, nm_IQ, nm_RL, nm_RQ, nm_LI, nm_LR, nm_LL, nm_LQ, nm_QI, nm_QR, nm_QL, nm_QQ, nm_rr, nm_ii, nm_eqm, not_false_eq_true, pk_sub, nm_div, nm_shl, nm_shr, nm_ush, nm_or8, nm_or64, nm_or256, nm_m1, nm_m3, nm_m7, nm_m15, nm_m31, nm_m63, nm_m255, nm_m511, nm_m1023, nm_m2047, nm_m65535, Nat.reduceMod, Nat.reducePow, Nat.reduceAdd, Nat.reduceSub, Nat.reduceMul, nm_bo, nm_bi, nm_rc, nm_ic, nm_ri, nm_rl, nm_rq, nm_ql, nm_qi, nm_li, nm_us, nm_uu, nm_cp, nm_sa31, nm_sa7, nm_m127, nm_m2, nm_nz, nm_nzk, nm_eq32, nm_nzf, if_true, if_false, ↓reduceIte, if_pos, if_neg]
/-- handlers and descriptors -/
theorem fk_210 (n : Nat) (hn : 1024 < n) {T : St × St} {p c : Nat} (hp : p < 16) (hc : c < 16) (hne : p ≠ c) (e12 : sI T.1 12 = nI p) : df_X16_fork_210 n n (nI c) (nI 0) T = df_X16_fork_274 n n (nI c) (nI 0) (pR (pR T.1 13 (va_cpy (sR T.1 13) (sR T.1 13) (16 * p) (16 * c) 16)) 14 (va_cpy (sR T.1 14) (sR T.1 14) (16 * p) (16 * c) 16), T.2) := by
  obtain ⟨m, hm⟩ := nm_lq (fun m k => df_X16_fork_210 n m (nI c) (nI k) (pR (pR T.1 13 (va_cpy (sR T.1 13) (sR T.1 13) (16 * p) (16 * c) k)) 14 (va_cpy (sR T.1 14) (sR T.1 14) (16 * p) (16 * c) k), T.2)) 16 n (by omega) (fun k m hk => by
    have u1 : 16 * p + k < 256 := by omega
    have u2 : 16 * p + k < 2 ^ 31 := by omega
    have u3 : 16 * c + k < 256 := by omega
    have u4 : 16 * c + k < 2 ^ 31 := by omega
    have u5 : k < 2 ^ 31 := by omega
    have k16 : ¬ 16 ≤ k := by omega
    have v9 := vc_s (f := sR T.1 13) (a := 16 * p) (b := 16 * c) (k := k) (by omega)
    have v11 := vc_s (f := sR T.1 14) (a := 16 * p) (b := 16 * c) (k := k) (by omega)
    rw [show df_X16_fork_210 n (m + 1) = dF_X16_fork_210 n (df_X16_fork_210 n m) from rfl]
    simp (disch := (first | assumption | decide | omega)) only [dF_X16_fork_210, k16, e12, v9, v11, eq_self, Nat.reduceEqDiff, Nat.reduceLeDiff, nm_rc (a := 14) (b := 13) (by decide), nl_0, nl_1, nl_12, nl_13, nl_14, nl_16, nl_256, no_1, no_1024, pk_mul, nI_add, nm_ck, nI_clamp, nI_ltI, nI_leI, nI_eq, nb_b2, nb_b1, ↓nb_let, nm_z0, nm_z1, nb_II, nb_IR, nb_RI, nb_RR, nm_IL, nm_IQ, nm_RL, nm_RQ, nm_LI, nm_LR, nm_LL, nm_LQ, nm_QI, nm_QR, nm_QL, nm_QQ, nm_rr, nm_ii, nm_eqm, not_false_eq_true, pk_sub, nm_div, nm_shl, nm_shr, nm_ush, nm_or8, nm_or64, nm_or256, nm_m1, nm_m3, nm_m7, nm_m15, nm_m31, nm_m63, nm_m255, nm_m511, nm_m1023, nm_m2047, nm_m65535, Nat.reduceMod, Nat.reducePow, Nat.reduceAdd, Nat.reduceSub, Nat.reduceMul, nm_bo, nm_bi, nm_rc, nm_ic, nm_ri, nm_rl, nm_rq, nm_ql, nm_qi, nm_li, nm_us, nm_uu, nm_cp, nm_sa31, nm_sa7, nm_m127, nm_m2, nm_nz, nm_nzk, nm_eq32, nm_nzf, if_true, if_false, ↓reduceIte, if_pos, if_neg])
  rw [vc_0, vc_0, nm_r0, nm_r0] at hm
  refine Eq.trans hm ?_
  show df_X16_fork_210 n (m + 1) (nI c) (nI 16) _ = _
  rw [show df_X16_fork_210 n (m + 1) = dF_X16_fork_210 n (df_X16_fork_210 n m) from rfl]
  simp (disch := (first | assumption | decide | omega)) only [dF_X16_fork_210, eq_self, Nat.reduceEqDiff, Nat.reduceLeDiff, nl_0, nl_1, nl_12, nl_13, nl_14, nl_16, nl_256, no_1, no_1024, pk_mul, nI_add, nm_ck, nI_clamp, nI_ltI, nI_leI, nI_eq, nb_b2, nb_b1, ↓nb_let, nm_z0, nm_z1, nb_II, nb_IR, nb_RI, nb_RR, nm_IL, nm_IQ, nm_RL, nm_RQ, nm_LI, nm_LR, nm_LL, nm_LQ, nm_QI, nm_QR, nm_QL, nm_QQ, nm_rr, nm_ii, nm_eqm, not_false_eq_true, pk_sub, nm_div, nm_shl, nm_shr, nm_ush, nm_or8, nm_or64, nm_or256, nm_m1, nm_m3, nm_m7, nm_m15, nm_m31, nm_m63, nm_m255, nm_m511, nm_m1023, nm_m2047, nm_m65535, Nat.reduceMod, Nat.reducePow, Nat.reduceAdd, Nat.reduceSub, Nat.reduceMul, nm_bo, nm_bi, nm_rc, nm_ic, nm_ri, nm_rl, nm_rq, nm_ql, nm_qi, nm_li, nm_us, nm_uu, nm_cp, nm_sa31, nm_sa7, nm_m127, nm_m2, nm_nz, nm_nzk, nm_eq32, nm_nzf, if_true, if_false, ↓reduceIte, if_pos, if_neg]
/-- the words -/
theorem fk_358 (n : Nat) (hn : 20000 < n) {T : St × St} {p c : Nat} (hp : p < 16) (hc : c < 16) (hne : p ≠ c) (e12 : sI T.1 12 = nI p) : df_X16_fork_358 n n (nI c) (nI 0) T = some (nI c, (pR T.1 15 (va_cpy (sR T.1 15) (sR T.1 15) (16384 * p) (16384 * c) 16384), T.2)) := by
  obtain ⟨m, hm⟩ := nm_lq (fun m k => df_X16_fork_358 n m (nI c) (nI k) (pR T.1 15 (va_cpy (sR T.1 15) (sR T.1 15) (16384 * p) (16384 * c) k), T.2)) 16384 n (by omega) (fun k m hk => by
    have u1 : 16384 * p + k < 262144 := by omega
    have u2 : 16384 * p + k < 2 ^ 31 := by omega
    have u3 : 16384 * c + k < 262144 := by omega
    have u4 : 16384 * c + k < 2 ^ 31 := by omega
    have u5 : k < 2 ^ 31 := by omega
    have k16 : ¬ 16384 ≤ k := by omega
    have v9 := vc_s (f := sR T.1 15) (a := 16384 * p) (b := 16384 * c) (k := k) (by omega)
    rw [show df_X16_fork_358 n (m + 1) = dF_X16_fork_358 n (df_X16_fork_358 n m) from rfl]
    simp (disch := (first | assumption | decide | omega)) only [dF_X16_fork_358, k16, e12, v9, eq_self, Nat.reduceEqDiff, Nat.reduceLeDiff, nl_1, nl_12, nl_15, nl_16384, nl_262144, no_1, no_1024, pk_mul, nI_add, nm_ck, nI_clamp, nI_ltI, nI_leI, nI_eq, nb_b2, nb_b1, ↓nb_let, nm_z0, nm_z1, nb_II, nb_IR, nb_RI, nb_RR, nm_IL, nm_IQ, nm_RL, nm_RQ, nm_LI, nm_LR, nm_LL, nm_LQ, nm_QI, nm_QR, nm_QL, nm_QQ, nm_rr, nm_ii, nm_eqm, not_false_eq_true, pk_sub, nm_div, nm_shl, nm_shr, nm_ush, nm_or8, nm_or64, nm_or256, nm_m1, nm_m3, nm_m7, nm_m15, nm_m31, nm_m63, nm_m255, nm_m511, nm_m1023, nm_m2047, nm_m65535, Nat.reduceMod, Nat.reducePow, Nat.reduceAdd, Nat.reduceSub, Nat.reduceMul, nm_bo, nm_bi, nm_rc, nm_ic, nm_ri, nm_rl, nm_rq, nm_ql, nm_qi, nm_li, nm_us, nm_uu, nm_cp, nm_sa31, nm_sa7, nm_m127, nm_m2, nm_nz, nm_nzk, nm_eq32, nm_nzf, if_true, if_false, ↓reduceIte, if_pos, if_neg])
  rw [vc_0, nm_r0] at hm
  refine Eq.trans hm ?_
  show df_X16_fork_358 n (m + 1) (nI c) (nI 16384) _ = _
  rw [show df_X16_fork_358 n (m + 1) = dF_X16_fork_358 n (df_X16_fork_358 n m) from rfl]
  simp (disch := (first | assumption | decide | omega)) only [dF_X16_fork_358, eq_self, Nat.reduceEqDiff, Nat.reduceLeDiff, nl_1, nl_12, nl_15, nl_16384, nl_262144, no_1, no_1024, pk_mul, nI_add, nm_ck, nI_clamp, nI_ltI, nI_leI, nI_eq, nb_b2, nb_b1, ↓nb_let, nm_z0, nm_z1, nb_II, nb_IR, nb_RI, nb_RR, nm_IL, nm_IQ, nm_RL, nm_RQ, nm_LI, nm_LR, nm_LL, nm_LQ, nm_QI, nm_QR, nm_QL, nm_QQ, nm_rr, nm_ii, nm_eqm, not_false_eq_true, pk_sub, nm_div, nm_shl, nm_shr, nm_ush, nm_or8, nm_or64, nm_or256, nm_m1, nm_m3, nm_m7, nm_m15, nm_m31, nm_m63, nm_m255, nm_m511, nm_m1023, nm_m2047, nm_m65535, Nat.reduceMod, Nat.reducePow, Nat.reduceAdd, Nat.reduceSub, Nat.reduceMul, nm_bo, nm_bi, nm_rc, nm_ic, nm_ri, nm_rl, nm_rq, nm_ql, nm_qi, nm_li, nm_us, nm_uu, nm_cp, nm_sa31, nm_sa7, nm_m127, nm_m2, nm_nz, nm_nzk, nm_eq32, nm_nzf, if_true, if_false, ↓reduceIte, if_pos, if_neg]
/-- a page is shared -/
theorem rQ_share {w u g b fr ri ho : Nat → Int32} {fu us : Int32} (h : rQ w u g b fr ri ho fu us) {i i0 f : Nat} (hi : i < 1024) (hi0 : i0 < 1024) (hf : f < 256) (e : fr i = -nI 1) (e0 : fr i0 = nI f) (hb : ∀ j : Nat, j < 256 → b (i * 256 + j) = b (i0 * 256 + j)) : 1 ≤ cF fr f ∧ rQ w (upd u f (nI (cF fr f + 1))) (upd g i (g i0)) b (upd fr i (nI f)) (upd ri i (ri i0)) (upd ho f (nI (cF fr f + 1))) fu us := by
  have hne : i0 ≠ i := fun z => by
    rw [z, e] at e0
    exact nk_ne (by omega) e0.symm
  have pos : 0 < cF fr f := cN_p (P := fun j => decide (fr j = nI f)) (i := i0) (decide_eq_true e0) hi0
  obtain ⟨c1, c2⟩ := cF_stand hi hf e
  have cu := cU_ch hf c1
  rw [nm_dt pos, nm_dt (show 0 < cF (upd fr i (nI f)) f by omega)] at cu
  obtain ⟨h1, h2, h3, h4, h5⟩ := h
  refine ⟨by omega, fun k hk => ?_, fun a ha => ?_, fun a h0 ha => ?_, ?_, ?_⟩
  · by_cases c : k = i
    · right
      subst c
      rcases h1 i0 hi0 with q | ⟨f2, r2, a1, a2, a3, a4, a5, a6, a7⟩
      · rw [q.1] at e0
        exact absurd e0.symm (nk_ne (by omega))
      · have ef : f2 = f := nm_inI (by omega) (by omega) (by rw [← a4, e0])
        subst ef
        refine ⟨f2, r2, a1, a2, a3, nm_us, ?_, ?_, fun j hj => ?_⟩
        · rw [nm_us]; exact a5
        · rw [nm_us]; exact a6
        · rw [hb j hj]; exact a7 j hj
    · rw [nm_un c, nm_un c, nm_un c]
      exact h1 k hk
  · by_cases c : a = f
    · rw [c, nm_us, nm_us, c2]
      exact ⟨rfl, rfl⟩
    · rw [nm_un c, nm_un c, c1 a ha c]
      exact h2 a ha
  · rw [nm_un (by omega)]
    exact h3 a h0 ha
  · rw [h4]
    exact congrArg nI (by omega)
  · rw [h5]
    exact congrArg nI (by omega)
theorem rQ_ri {w u g b fr ri ri' ho : Nat → Int32} {fu us : Int32} (h : rQ w u g b fr ri ho fu us) (hr : ∀ i : Nat, i < 1024 → ¬ fr i = -nI 1 → ri' i = ri i) {g' b' : Nat → Int32} (hg : ∀ i : Nat, i < 1024 → g' i = g i) (hb : ∀ i : Nat, i < 1024 → ¬ fr i = -nI 1 → ∀ j : Nat, j < 256 → b' (i * 256 + j) = b (i * 256 + j)) : rQ w u g' b' fr ri' ho fu us := by
  obtain ⟨h1, h2⟩ := h
  refine ⟨fun i hi => ?_, h2⟩
  rcases h1 i hi with ⟨q1, q2⟩ | ⟨f2, r2, a1, a2, a3, a4, a5, a6, a7⟩
  · exact Or.inl ⟨q1, (hg i hi).trans q2⟩
  · have n : ¬ fr i = -nI 1 := fun z => nk_ne (by omega) (a4.symm.trans z)
    exact Or.inr ⟨f2, r2, a1, a2, a3, a4, (hr i hi n).trans a5, (hg i hi).trans a6, fun j hj => (a7 j hj).trans (hb i hi n j hj).symm⟩
/-- pages of the parent, shared with the child: both -/
theorem fk_pages (n : Nat) (hn : 1024 < n) {S T : St × St} {p c : Nat} (hp : p < 16) (hc : c < 16) (hne : p ≠ c) (e12 : sI T.1 12 = nI p) {g0 b' : Nat → Int32} (h : rQ (sR S.1 0) (sR S.1 1) g0 b' (sR T.1 16) (sR T.1 17) (sR T.1 18) (sI S.1 0) (sI T.1 6)) (hg : sR S.1 2 = va_cpy g0 g0 (64 * p) (64 * c) 64) (hb : ∀ j : Nat, j < 16384 → b' (16384 * c + j) = b' (16384 * p + j)) (hf : ∀ k : Nat, k < 64 → sR T.1 16 (64 * c + k) = -nI 1) : ∃ (u fr ri ho : Nat → Int32) (m m' : Nat), df_X6_fork_91 n n (nI p) (nI c) (nI 0) S = df_X6_fork_91 n (m + 1) (nI p) (nI c) (nI 64) (pR S.1 1 u, S.2) ∧ df_X16_fork_274 n n (nI c) (nI 0) T = df_X16_fork_274 n (m' + 1) (nI c) (nI 64) (pR (pR (pR T.1 16 fr) 17 ri) 18 ho, T.2) ∧ rQ (sR S.1 0) u (sR S.1 2) b' fr ri ho (sI S.1 0) (sI T.1 6) ∧ (∀ k : Nat, k < 64 → fr (64 * c + k) = sR T.1 16 (64 * p + k)) ∧ ∀ i : Nat, ¬ (64 * c ≤ i ∧ i < 64 * c + 64) → fr i = sR T.1 16 i := by
  obtain ⟨m, s, t, ⟨u, fr, ri, ho, es, et, i1, i2, i3, i4⟩, f1, f2⟩ := nm_l2 (fun m k s => df_X6_fork_91 n m (nI p) (nI c) (nI k) s) (fun m k t => df_X16_fork_274 n m (nI c) (nI k) t)
    (fun k s t => ∃ (u fr ri ho : Nat → Int32), s = (pR S.1 1 u, S.2) ∧ t = (pR (pR (pR T.1 16 fr) 17 ri) 18 ho, T.2) ∧ rQ (sR S.1 0) u (va_cpy g0 g0 (64 * p) (64 * c) k) b' fr ri ho (sI S.1 0) (sI T.1 6) ∧ (∀ j : Nat, j < k → fr (64 * c + j) = sR T.1 16 (64 * p + j)) ∧ (∀ j : Nat, k ≤ j → j < 64 → fr (64 * c + j) = -nI 1) ∧ ∀ i : Nat, ¬ (64 * c ≤ i ∧ i < 64 * c + 64) → fr i = sR T.1 16 i) 64 n (by omega) (fun k m s t hk ⟨u, fr, ri, ho, es, et, i1, i2, i3, i4⟩ => by
      subst es et
      have u1 : p * 64 + k = 64 * p + k := by omega
      have u2 : 64 * p + k < 1024 := by omega
      have u3 : 64 * p + k < 2 ^ 31 := by omega
      have u4 : 64 * c + k < 1024 := by omega
      have u5 : 64 * c + k < 2 ^ 31 := by omega
      have u6 : k < 2 ^ 31 := by omega
      have k64 : ¬ 64 ≤ k := by omega
      have q12 : sI (pR (pR (pR T.1 16 fr) 17 ri) 18 ho) 12 = nI p := e12
      have gk : sR S.1 2 (64 * p + k) = va_cpy g0 g0 (64 * p) (64 * c) k (64 * p + k) := by
        rw [hg, va_o (by omega), va_o (by omega)]
      have vs := vc_s (f := g0) (a := 64 * p) (b := 64 * c) (k := k) (by omega)
      have fk : fr (64 * p + k) = sR T.1 16 (64 * p + k) := i4 _ (by omega)
      rcases i1.1 (64 * p + k) u2 with ⟨y1, y2⟩ | ⟨f, r, y1, y2, y3, y4, y5, y6, y7⟩
      · rw [← gk] at y2
        refine ⟨_, _, ⟨u, fr, ri, ho, rfl, rfl, ?_, fun j hj => ?_, fun j h1 h2 => i3 j (by omega) h2, i4⟩, ?_, ?_⟩
        · rw [← vs, ← gk, y2]
          have z : va_cpy g0 g0 (64 * p) (64 * c) k (64 * c + k) = nI 0 := by
            rcases i1.1 (64 * c + k) u4 with ⟨x1, x2⟩ | ⟨f, r, x1, x2, x3, x4, _⟩
            · exact x2
            · exact absurd (x4.symm.trans (i3 k (by omega) hk)) (nk_ne (by omega))
          rw [← z, nm_u0]
          exact i1
        · by_cases cj : j = k
          · rw [cj, i3 k (by omega) hk, ← fk, y1]
          · exact i2 j (by omega)
        · show df_X6_fork_91 n (m + 1) _ _ _ _ = df_X6_fork_91 n m _ _ (nI (k + 1)) _
          rw [show df_X6_fork_91 n (m + 1) = dF_X6_fork_91 n (df_X6_fork_91 n m) from rfl]
          simp (disch := (first | assumption | decide | omega)) only [dF_X6_fork_91, df_X6_fork_133, k64, u1, y2, eq_self, Nat.reduceEqDiff, Nat.reduceLeDiff, nl_0, nl_1, nl_2, nl_3, nl_4, nl_5, nl_6, nl_7, nl_10, nl_16, nl_31, nl_32, nl_33, nl_64, nl_112, nl_256, nl_528, nl_1024, no_1, no_1024, pk_mul, nI_add, nm_ck, nI_clamp, nI_ltI, nI_leI, nI_eq, nb_b2, nb_b1, ↓nb_let, nm_z0, nm_z1, nb_II, nb_IR, nb_RI, nb_RR, nm_IL, nm_IQ, nm_RL, nm_RQ, nm_LI, nm_LR, nm_LL, nm_LQ, nm_QI, nm_QR, nm_QL, nm_QQ, nm_rr, nm_ii, nm_eqm, not_false_eq_true, pk_sub, nm_div, nm_shl, nm_shr, nm_ush, nm_or8, nm_or64, nm_or256, nm_m1, nm_m3, nm_m7, nm_m15, nm_m31, nm_m63, nm_m255, nm_m511, nm_m1023, nm_m2047, nm_m65535, Nat.reduceMod, Nat.reducePow, Nat.reduceAdd, Nat.reduceSub, Nat.reduceMul, nm_bo, nm_bi, nm_rc, nm_ic, nm_ri, nm_rl, nm_rq, nm_ql, nm_qi, nm_li, nm_us, nm_uu, nm_cp, nm_sa31, nm_sa7, nm_m127, nm_m2, nm_nz, nm_nzk, nm_eq32, nm_nzf, if_true, if_false, ↓reduceIte, if_pos, if_neg]
        · show df_X16_fork_274 n (m + 1) _ _ _ = df_X16_fork_274 n m _ (nI (k + 1)) _
          rw [show df_X16_fork_274 n (m + 1) = dF_X16_fork_274 n (df_X16_fork_274 n m) from rfl]
          simp (disch := (first | assumption | decide | omega)) only [dF_X16_fork_274, df_X16_fork_350, k64, e12, y1, eq_self, Nat.reduceEqDiff, Nat.reduceLeDiff, nl_0, nl_1, nl_12, nl_16, nl_17, nl_64, nl_1024, no_1, no_1024, pk_mul, nI_add, nm_ck, nI_clamp, nI_ltI, nI_leI, nI_eq, nb_b2, nb_b1, ↓nb_let, nm_z0, nm_z1, nb_II, nb_IR, nb_RI, nb_RR, nm_IL, nm_IQ, nm_RL, nm_RQ, nm_LI, nm_LR, nm_LL, nm_LQ, nm_QI, nm_QR, nm_QL, nm_QQ, nm_rr, nm_ii, nm_eqm, not_false_eq_true, pk_sub, nm_div, nm_shl, nm_shr, nm_ush, nm_or8, nm_or64, nm_or256, nm_m1, nm_m3, nm_m7, nm_m15, nm_m31, nm_m63, nm_m255, nm_m511, nm_m1023, nm_m2047, nm_m65535, Nat.reduceMod, Nat.reducePow, Nat.reduceAdd, Nat.reduceSub, Nat.reduceMul, nm_bo, nm_bi, nm_rc, nm_ic, nm_ri, nm_rl, nm_rq, nm_ql, nm_qi, nm_li, nm_us, nm_uu, nm_cp, nm_sa31, nm_sa7, nm_m127, nm_m2, nm_nz, nm_nzk, nm_eq32, nm_nzf, if_true, if_false, ↓reduceIte, if_pos, if_neg]
      · have y6' := y6
        rw [← gk] at y6
        obtain ⟨pos, sh⟩ := rQ_share i1 u4 u2 y1 (i3 k (by omega) hk) y4 (fun j hj => by
          have := hb (k * 256 + j) (by omega)
          rw [show 16384 * c + (k * 256 + j) = (64 * c + k) * 256 + j by omega, show 16384 * p + (k * 256 + j) = (64 * p + k) * 256 + j by omega] at this
          exact this)
        obtain ⟨uf, hf'⟩ := i1.2.1 f y1
        have cl := cF_le fr f
        have w1 : (f * 8 + r) / 2 ^ 3 = f := by omega
        have w2 : f * 8 + r < 2 ^ 31 := by omega
        have w3 : ¬ f * 8 + r = 0 := by omega
        have w4 : f < 2 ^ 31 := by omega
        have w5 : f < 1024 := by omega
        refine ⟨_, _, ⟨upd u f (nI (cF fr f + 1)), upd fr (64 * c + k) (nI f), upd ri (64 * c + k) (ri (64 * p + k)), upd ho f (nI (cF fr f + 1)), rfl, rfl, ?_, fun j hj => ?_, fun j h1 h2 => ?_, fun i hi => ?_⟩, ?_, ?_⟩
        · rw [← vs]
          exact sh
        · by_cases cj : j = k
          · rw [cj, nm_us, ← fk, y4]
          · rw [nm_un (by omega)]; exact i2 j (by omega)
        · rw [nm_un (by omega)]; exact i3 j (by omega) h2
        · rw [nm_un (by omega)]; exact i4 i hi
        · show df_X6_fork_91 n (m + 1) _ _ _ _ = df_X6_fork_91 n m _ _ (nI (k + 1)) _
          rw [show df_X6_fork_91 n (m + 1) = dF_X6_fork_91 n (df_X6_fork_91 n m) from rfl]
          generalize cF fr f = x at *
          simp (disch := (first | assumption | decide | omega)) only [dF_X6_fork_91, df_X6_fork_133, k64, u1, y6, w1, w3, uf, eq_self, Nat.reduceEqDiff, Nat.reduceLeDiff, nl_0, nl_1, nl_2, nl_3, nl_4, nl_5, nl_6, nl_7, nl_10, nl_16, nl_31, nl_32, nl_33, nl_64, nl_112, nl_256, nl_528, nl_1024, no_1, no_1024, pk_mul, nI_add, nm_ck, nI_clamp, nI_ltI, nI_leI, nI_eq, nb_b2, nb_b1, ↓nb_let, nm_z0, nm_z1, nb_II, nb_IR, nb_RI, nb_RR, nm_IL, nm_IQ, nm_RL, nm_RQ, nm_LI, nm_LR, nm_LL, nm_LQ, nm_QI, nm_QR, nm_QL, nm_QQ, nm_rr, nm_ii, nm_eqm, not_false_eq_true, pk_sub, nm_div, nm_shl, nm_shr, nm_ush, nm_or8, nm_or64, nm_or256, nm_m1, nm_m3, nm_m7, nm_m15, nm_m31, nm_m63, nm_m255, nm_m511, nm_m1023, nm_m2047, nm_m65535, Nat.reduceMod, Nat.reducePow, Nat.reduceAdd, Nat.reduceSub, Nat.reduceMul, nm_bo, nm_bi, nm_rc, nm_ic, nm_ri, nm_rl, nm_rq, nm_ql, nm_qi, nm_li, nm_us, nm_uu, nm_cp, nm_sa31, nm_sa7, nm_m127, nm_m2, nm_nz, nm_nzk, nm_eq32, nm_nzf, if_true, if_false, ↓reduceIte, if_pos, if_neg]
        · show df_X16_fork_274 n (m + 1) _ _ _ = df_X16_fork_274 n m _ (nI (k + 1)) _
          rw [show df_X16_fork_274 n (m + 1) = dF_X16_fork_274 n (df_X16_fork_274 n m) from rfl]
          generalize cF fr f = x at *
          have x0 : ¬ x = 0 := by omega
          have x1 : x < 2 ^ 31 := by omega
          simp (disch := (first | assumption | decide | omega)) only [dF_X16_fork_274, df_X16_fork_350, df_X16_stand_26, df_X16_stand_0, df_X16_stand, k64, e12, y4, hf', x0, eq_self, Nat.reduceEqDiff, Nat.reduceLeDiff, nm_rc (a := 17) (b := 16) (by decide), nm_rc (a := 18) (b := 16) (by decide), nm_rc (a := 18) (b := 17) (by decide), nl_0, nl_1, nl_6, nl_12, nl_16, nl_17, nl_18, nl_64, nl_1024, no_1, no_1024, pk_mul, nI_add, nm_ck, nI_clamp, nI_ltI, nI_leI, nI_eq, nb_b2, nb_b1, ↓nb_let, nm_z0, nm_z1, nb_II, nb_IR, nb_RI, nb_RR, nm_IL, nm_IQ, nm_RL, nm_RQ, nm_LI, nm_LR, nm_LL, nm_LQ, nm_QI, nm_QR, nm_QL, nm_QQ, nm_rr, nm_ii, nm_eqm, not_false_eq_true, pk_sub, nm_div, nm_shl, nm_shr, nm_ush, nm_or8, nm_or64, nm_or256, nm_m1, nm_m3, nm_m7, nm_m15, nm_m31, nm_m63, nm_m255, nm_m511, nm_m1023, nm_m2047, nm_m65535, Nat.reduceMod, Nat.reducePow, Nat.reduceAdd, Nat.reduceSub, Nat.reduceMul, nm_bo, nm_bi, nm_rc, nm_ic, nm_ri, nm_rl, nm_rq, nm_ql, nm_qi, nm_li, nm_us, nm_uu, nm_cp, nm_sa31, nm_sa7, nm_m127, nm_m2, nm_nz, nm_nzk, nm_eq32, nm_nzf, if_true, if_false, ↓reduceIte, if_pos, if_neg]) S T ⟨_, _, _, _, by rw [nm_r0], by rw [nm_r0, nm_r0, nm_r0], by rw [vc_0]; exact h, fun j hj => by omega, fun j _ h2 => hf j h2, fun _ _ => rfl⟩
  subst es et
  refine ⟨u, fr, ri, ho, m, m, f1, f2, ?_, i2, i4⟩
  rw [hg]
  exact i1
