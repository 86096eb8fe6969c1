theorem mU_id (M : St × St) : mU M (sR M.1 0) (sR M.1 1) (sR M.1 2) (sI M.1 0) = M := by
  unfold mU
  rw [nm_r0, nm_r0, nm_r0, nm_i0]
theorem xU_id (X : St × St) : xU X (sR X.1 15) (sR X.1 16) (sR X.1 17) (sR X.1 18) (sI X.1 6) = X := by
  unfold xU
  rw [nm_r0, nm_r0, nm_r0, nm_r0, nm_i0]
theorem mU_mU (M : St × St) (w u g w' u' g' : Nat → Int32) (fu fu' : Int32) : mU (mU M w u g fu) w' u' g' fu' = mU M w' u' g' fu' := by
  unfold mU
  simp (disch := omega) only [nm_ri, nm_rc, nm_rr, nm_ii]
theorem xU_xU (X : St × St) (b fr ri ho b' fr' ri' ho' : Nat → Int32) (us us' : Int32) : xU (xU X b fr ri ho us) b' fr' ri' ho' us' = xU X b' fr' ri' ho' us' := by
  unfold xU
  simp (disch := omega) only [nm_ri, nm_rc, nm_rr, nm_ii]
theorem mU_w (M : St × St) (u g : Nat → Int32) (fu : Int32) : mU M (sR M.1 0) u g fu = (pI (pR (pR M.1 1 u) 2 g) 0 fu, M.2) := by
  unfold mU
  rw [nm_r0]
theorem xU_fh (X : St × St) (fr ho : Nat → Int32) (us : Int32) : xU X (sR X.1 15) fr (sR X.1 17) ho us = (pI (pR (pR X.1 16 fr) 18 ho) 6 us, X.2) := by
  unfold xU
  rw [nm_r0, show pR (pR X.1 16 fr) 17 (sR X.1 17) = pR X.1 16 fr from nm_r0 (pR X.1 16 fr) 17]
/-- the rows when a page leaves its frame -/
theorem rQ_leave {w u g b fr ri ho : Nat → Int32} {fu us : Int32} (h : rQ w u g b fr ri ho fu us) {i f : Nat} (hi : i < 1024) (hf : f < 256) (e : fr i = nI f) : 1 ≤ cF fr f ∧ rQ w (upd u f (nI (cF fr f - 1))) (upd g i (nI 0)) b (upd fr i (-nI 1)) ri (upd ho f (nI (cF fr f - 1))) (if cF fr f = 1 then fu - nI 1 else fu) (if cF fr f = 1 then us - nI 1 else us) := by
  obtain ⟨h1, h2, h3, h4, h5⟩ := h
  obtain ⟨c1, c2⟩ := cF_leave hi hf e
  have cu := cU_ch hf c1
  have e1 : cF fr f - 1 = cF (upd fr i (-nI 1)) f := by omega
  refine ⟨by omega, fun j hj => ?_, fun a ha => ?_, fun a h0 ha => ?_, ?_, ?_⟩
  · by_cases c : j = i
    · left
      rw [c, nm_us, nm_us]
      exact ⟨rfl, rfl⟩
    · rw [nm_un c, nm_un c]
      exact h1 j hj
  · by_cases c : a = f
    · rw [c, nm_us, nm_us, e1]
      exact ⟨rfl, rfl⟩
    · rw [nm_un c, nm_un c, c1 a ha c]
      exact h2 a ha
  · rw [nm_un (by omega)]
    exact h3 a h0 ha
  · by_cases c : cF fr f = 1
    · rw [if_pos c, h4]
      rw [nm_dt (show 0 < cF fr f by omega), nm_df (show ¬ 0 < cF (upd fr i (-nI 1)) f by omega)] at cu
      rw [pk_sub (by omega)]
      exact congrArg nI (by omega)
    · rw [if_neg c, h4]
      rw [nm_dt (show 0 < cF fr f by omega), nm_dt (show 0 < cF (upd fr i (-nI 1)) f by omega)] at cu
      exact congrArg nI (by omega)
  · by_cases c : cF fr f = 1
    · rw [if_pos c, h5]
      rw [nm_dt (show 0 < cF fr f by omega), nm_df (show ¬ 0 < cF (upd fr i (-nI 1)) f by omega)] at cu
      rw [pk_sub (by omega)]
      exact congrArg nI (by omega)
    · rw [if_neg c, h5]
      rw [nm_dt (show 0 < cF fr f by omega), nm_dt (show 0 < cF (upd fr i (-nI 1)) f by omega)] at cu
      exact congrArg nI (by omega)
/-- a page is dropped in both -/
theorem nk_leave (n : Nat) {M X : St × St} (h : rK M X) {p k : Nat} (hp : p < 16) (hk : k < 64) : ∃ (u g : Nat → Int32) (fu : Int32) (ho : Nat → Int32) (us : Int32), df_X6_dropPage n (nI p) (nI k) M = some (mU M (sR M.1 0) u g fu) ∧ df_X16_leave n (nI (64 * p + k)) X = some (xU X (sR X.1 15) (upd (sR X.1 16) (64 * p + k) (-nI 1)) (sR X.1 17) ho us) ∧ rQ (sR M.1 0) u g (sR X.1 15) (upd (sR X.1 16) (64 * p + k) (-nI 1)) (sR X.1 17) ho fu us := by
  have hi : p * 64 + k = 64 * p + k := by omega
  rcases h.1 (64 * p + k) (by omega) with ⟨e1, e2⟩ | ⟨f, r, hf, r1, r2, e1, e2, e3, e4⟩
  · have hu : upd (sR X.1 16) (64 * p + k) (-nI 1) = sR X.1 16 := by rw [← e1, nm_u0]
    rw [hu]
    refine ⟨sR M.1 1, sR M.1 2, sI M.1 0, sR X.1 18, sI X.1 6, ?_, ?_, h⟩
    · rw [mU_id]
      simp (disch := omega) only [df_X6_dropPage_67, df_X6_dropPage_0, df_X6_dropPage, hi, e2, Nat.mod_eq_of_lt, nl_0, nl_1, nl_2, nl_3, nl_6, nl_31, nl_63, nl_256, nl_1024, no_1, no_1024, pk_mul, nI_add, nm_ck, nI_clamp, nI_ltI, nI_leI, nI_eq, nb_b2, nb_b1, nb_let, nm_z0, nm_z1, nb_II, nb_IR, nb_RI, nb_RR, nm_IL, nm_IQ, nm_RL, nm_RQ, nm_LI, nm_LR, nm_LL, nm_LQ, nm_QI, nm_QR, nm_QL, nm_QQ, nm_rr, nm_ii, nm_eqm, not_false_eq_true, pk_sub, nm_div, nm_shl, nm_shr, nm_ush, nm_or8, nm_or64, nm_or256, nm_m1, nm_m3, nm_m7, nm_m15, nm_m31, nm_m63, nm_m255, nm_m511, nm_m1023, nm_m2047, nm_m65535, Nat.reduceMod, Nat.reducePow, Nat.reduceAdd, Nat.reduceSub, Nat.reduceMul, nm_bo, nm_bi, nm_rc, nm_ic, nm_ri, nm_rl, nm_rq, nm_ql, nm_qi, nm_li, nm_us, nm_uu, nm_cp, nm_sa31, nm_sa7, nm_m127, nm_m2, nm_nz, nm_nzk, nm_eq32, nm_nzf, if_true, if_false, ↓reduceIte, if_pos, if_neg]
    · rw [xU_id]
      simp (disch := omega) only [df_X16_leave_49, df_X16_leave_0, df_X16_leave, e1, nl_0, nl_1, nl_6, nl_16, nl_18, nl_1024, no_1, no_1024, pk_mul, nI_add, nm_ck, nI_clamp, nI_ltI, nI_leI, nI_eq, nb_b2, nb_b1, nb_let, nm_z0, nm_z1, nb_II, nb_IR, nb_RI, nb_RR, nm_IL, nm_IQ, nm_RL, nm_RQ, nm_LI, nm_LR, nm_LL, nm_LQ, nm_QI, nm_QR, nm_QL, nm_QQ, nm_rr, nm_ii, nm_eqm, not_false_eq_true, pk_sub, nm_div, nm_shl, nm_shr, nm_ush, nm_or8, nm_or64, nm_or256, nm_m1, nm_m3, nm_m7, nm_m15, nm_m31, nm_m63, nm_m255, nm_m511, nm_m1023, nm_m2047, nm_m65535, Nat.reduceMod, Nat.reducePow, Nat.reduceAdd, Nat.reduceSub, Nat.reduceMul, nm_bo, nm_bi, nm_rc, nm_ic, nm_ri, nm_rl, nm_rq, nm_ql, nm_qi, nm_li, nm_us, nm_uu, nm_cp, nm_sa31, nm_sa7, nm_m127, nm_m2, nm_nz, nm_nzk, nm_eq32, nm_nzf, if_true, if_false, ↓reduceIte, if_pos, if_neg]
  · obtain ⟨c1, c2⟩ := rQ_leave h (i := 64 * p + k) (by omega) hf e1
    obtain ⟨u1, u2⟩ := h.2.1 f hf
    have cl := cF_le (sR X.1 16) f
    have hz : (f * 8 + r) / 8 = f := by omega
    refine ⟨_, _, _, _, _, ?_, ?_, c2⟩
    · rw [mU_w]
      simp (disch := omega) only [df_X6_dropPage_67, df_X6_dropPage_0, df_X6_dropPage, hi, e3, hz, u1, nm_eqz, Nat.mod_eq_of_lt, nl_0, nl_1, nl_2, nl_3, nl_6, nl_31, nl_63, nl_256, nl_1024, no_1, no_1024, pk_mul, nI_add, nm_ck, nI_clamp, nI_ltI, nI_leI, nI_eq, nb_b2, nb_b1, nb_let, nm_z0, nm_z1, nb_II, nb_IR, nb_RI, nb_RR, nm_IL, nm_IQ, nm_RL, nm_RQ, nm_LI, nm_LR, nm_LL, nm_LQ, nm_QI, nm_QR, nm_QL, nm_QQ, nm_rr, nm_ii, nm_eqm, not_false_eq_true, pk_sub, nm_div, nm_shl, nm_shr, nm_ush, nm_or8, nm_or64, nm_or256, nm_m1, nm_m3, nm_m7, nm_m15, nm_m31, nm_m63, nm_m255, nm_m511, nm_m1023, nm_m2047, nm_m65535, Nat.reduceMod, Nat.reducePow, Nat.reduceAdd, Nat.reduceSub, Nat.reduceMul, nm_bo, nm_bi, nm_rc, nm_ic, nm_ri, nm_rl, nm_rq, nm_ql, nm_qi, nm_li, nm_us, nm_uu, nm_cp, nm_sa31, nm_sa7, nm_m127, nm_m2, nm_nz, nm_nzk, nm_eq32, nm_nzf, if_true, if_false, ↓reduceIte, if_pos, if_neg]
      by_cases c : cF (sR X.1 16) f = 1
      · rw [if_pos (by omega), if_pos c]
      · rw [if_neg (by omega), if_neg c]
        exact congrArg (fun z => some (z, M.2)) (nm_i0 _ 0).symm
    · rw [xU_fh]
      simp (disch := omega) only [df_X16_leave_49, df_X16_leave_0, df_X16_leave, e1, u2, nm_eqz, nl_0, nl_1, nl_6, nl_16, nl_18, nl_1024, no_1, no_1024, pk_mul, nI_add, nm_ck, nI_clamp, nI_ltI, nI_leI, nI_eq, nb_b2, nb_b1, nb_let, nm_z0, nm_z1, nb_II, nb_IR, nb_RI, nb_RR, nm_IL, nm_IQ, nm_RL, nm_RQ, nm_LI, nm_LR, nm_LL, nm_LQ, nm_QI, nm_QR, nm_QL, nm_QQ, nm_rr, nm_ii, nm_eqm, not_false_eq_true, pk_sub, nm_div, nm_shl, nm_shr, nm_ush, nm_or8, nm_or64, nm_or256, nm_m1, nm_m3, nm_m7, nm_m15, nm_m31, nm_m63, nm_m255, nm_m511, nm_m1023, nm_m2047, nm_m65535, Nat.reduceMod, Nat.reducePow, Nat.reduceAdd, Nat.reduceSub, Nat.reduceMul, nm_bo, nm_bi, nm_rc, nm_ic, nm_ri, nm_rl, nm_rq, nm_ql, nm_qi, nm_li, nm_us, nm_uu, nm_cp, nm_sa31, nm_sa7, nm_m127, nm_m2, nm_nz, nm_nzk, nm_eq32, nm_nzf, if_true, if_false, ↓reduceIte, if_pos, if_neg]
      by_cases c : cF (sR X.1 16) f = 1
      · rw [if_pos (by omega), if_pos c]
      · rw [if_neg (by omega), if_neg c]
        exact congrArg (fun z => some (z, X.2)) (nm_i0 _ 6).symm
/-- all pages of a process are dropped in both -/
theorem nk_leaveAll (n : Nat) (hn : 64 < n) {M X : St × St} (h : rK M X) {p : Nat} (hp : p < 16) : ∃ (u g : Nat → Int32) (fu : Int32) (fr ho : Nat → Int32) (us : Int32), df_X6_dropPages n (nI p) M = some (mU M (sR M.1 0) u g fu) ∧ df_X16_leaveAll n (nI p) X = some (xU X (sR X.1 15) fr (sR X.1 17) ho us) ∧ rQ (sR M.1 0) u g (sR X.1 15) fr (sR X.1 17) ho fu us ∧ (∀ k : Nat, k < 64 → fr (64 * p + k) = -nI 1) ∧ ∀ i : Nat, ¬ (64 * p ≤ i ∧ i < 64 * p + 64) → fr i = sR X.1 16 i := by
  obtain ⟨m, s, t, ⟨u, g, fu, fr, ho, us, rfl, rfl, i1, i2, i3⟩, e, f⟩ := nm_l2 (fun m k s => df_X6_dropPages_2 n m (nI p) (nI k) s) (fun m k s => df_X16_leaveAll_2 n m (nI p) (nI k) s)
    (fun k s t => ∃ (u g : Nat → Int32) (fu : Int32) (fr ho : Nat → Int32) (us : Int32), s = mU M (sR M.1 0) u g fu ∧ t = xU X (sR X.1 15) fr (sR X.1 17) ho us ∧ rQ (sR M.1 0) u g (sR X.1 15) fr (sR X.1 17) ho fu us ∧ (∀ j : Nat, j < k → fr (64 * p + j) = -nI 1) ∧ ∀ i : Nat, ¬ (64 * p ≤ i ∧ i < 64 * p + 64) → fr i = sR X.1 16 i) 64 n hn (fun k m s t hk ⟨u, g, fu, fr, ho, us, e1, e2, i1, i2, i3⟩ => by
      subst e1 e2
      obtain ⟨u', g', fu', ho', us', a1, a2, a3⟩ := nk_leave n (M := mU M (sR M.1 0) u g fu) (X := xU X (sR X.1 15) fr (sR X.1 17) ho us) i1 hp hk
      refine ⟨_, _, ⟨u', g', fu', upd fr (64 * p + k) (-nI 1), ho', us', rfl, rfl, a3, fun j hj => ?_, fun i hi => ?_⟩, ?_, ?_⟩
      · by_cases c : j = k
        · rw [c, nm_us]
        · rw [nm_un (by omega)]
          exact i2 j (by omega)
      · rw [nm_un (by omega)]
        exact i3 i hi
      · simp (disch := omega) only [(show df_X6_dropPages_2 n (m + 1) = dF_X6_dropPages_2 n (df_X6_dropPages_2 n m) from rfl), dF_X6_dropPages_2, df_X6_dropPages_0, df_X6_dropPages, a1, nl_0, nl_1, nl_64, no_1, no_1024, pk_mul, nI_add, nm_ck, nI_clamp, nI_ltI, nI_leI, nI_eq, nb_b2, nb_b1, nb_let, nm_z0, nm_z1, nb_II, nb_IR, nb_RI, nb_RR, nm_IL, nm_IQ, nm_RL, nm_RQ, nm_LI, nm_LR, nm_LL, nm_LQ, nm_QI, nm_QR, nm_QL, nm_QQ, nm_rr, nm_ii, nm_eqm, not_false_eq_true, pk_sub, nm_div, nm_shl, nm_shr, nm_ush, nm_or8, nm_or64, nm_or256, nm_m1, nm_m3, nm_m7, nm_m15, nm_m31, nm_m63, nm_m255, nm_m511, nm_m1023, nm_m2047, nm_m65535, Nat.reduceMod, Nat.reducePow, Nat.reduceAdd, Nat.reduceSub, Nat.reduceMul, nm_bo, nm_bi, nm_rc, nm_ic, nm_ri, nm_rl, nm_rq, nm_ql, nm_qi, nm_li, nm_us, nm_uu, nm_cp, nm_sa31, nm_sa7, nm_m127, nm_m2, nm_nz, nm_nzk, nm_eq32, nm_nzf, if_true, if_false, ↓reduceIte, if_pos, if_neg]
        rw [mU_mU]
        rfl
      · simp (disch := omega) only [(show df_X16_leaveAll_2 n (m + 1) = dF_X16_leaveAll_2 n (df_X16_leaveAll_2 n m) from rfl), dF_X16_leaveAll_2, df_X16_leaveAll_0, df_X16_leaveAll, a2, nl_0, nl_1, nl_64, no_1, no_1024, pk_mul, nI_add, nm_ck, nI_clamp, nI_ltI, nI_leI, nI_eq, nb_b2, nb_b1, nb_let, nm_z0, nm_z1, nb_II, nb_IR, nb_RI, nb_RR, nm_IL, nm_IQ, nm_RL, nm_RQ, nm_LI, nm_LR, nm_LL, nm_LQ, nm_QI, nm_QR, nm_QL, nm_QQ, nm_rr, nm_ii, nm_eqm, not_false_eq_true, pk_sub, nm_div, nm_shl, nm_shr, nm_ush, nm_or8, nm_or64, nm_or256, nm_m1, nm_m3, nm_m7, nm_m15, nm_m31, nm_m63, nm_m255, nm_m511, nm_m1023, nm_m2047, nm_m65535, Nat.reduceMod, Nat.reducePow, Nat.reduceAdd, Nat.reduceSub, Nat.reduceMul, nm_bo, nm_bi, nm_rc, nm_ic, nm_ri, nm_rl, nm_rq, nm_ql, nm_qi, nm_li, nm_us, nm_uu, nm_cp, nm_sa31, nm_sa7, nm_m127, nm_m2, nm_nz, nm_nzk, nm_eq32, nm_nzf, if_true, if_false, ↓reduceIte, if_pos, if_neg]
        rw [xU_xU]
        rfl) M X ⟨sR M.1 1, sR M.1 2, sI M.1 0, sR X.1 16, sR X.1 18, sI X.1 6, (mU_id M).symm, (xU_id X).symm, h, fun j hj => absurd hj (by omega), fun _ _ => rfl⟩
  refine ⟨u, g, fu, fr, ho, us, Eq.trans e ?_, Eq.trans f ?_, i1, i2, i3⟩
  · simp (disch := omega) only [(show df_X6_dropPages_2 n (m + 1) = dF_X6_dropPages_2 n (df_X6_dropPages_2 n m) from rfl), dF_X6_dropPages_2, df_X6_dropPages_0, df_X6_dropPages, nl_0, nl_1, nl_64, no_1, no_1024, pk_mul, nI_add, nm_ck, nI_clamp, nI_ltI, nI_leI, nI_eq, nb_b2, nb_b1, nb_let, nm_z0, nm_z1, nb_II, nb_IR, nb_RI, nb_RR, nm_IL, nm_IQ, nm_RL, nm_RQ, nm_LI, nm_LR, nm_LL, nm_LQ, nm_QI, nm_QR, nm_QL, nm_QQ, nm_rr, nm_ii, nm_eqm, not_false_eq_true, pk_sub, nm_div, nm_shl, nm_shr, nm_ush, nm_or8, nm_or64, nm_or256, nm_m1, nm_m3, nm_m7, nm_m15, nm_m31, nm_m63, nm_m255, nm_m511, nm_m1023, nm_m2047, nm_m65535, Nat.reduceMod, Nat.reducePow, Nat.reduceAdd, Nat.reduceSub, Nat.reduceMul, nm_bo, nm_bi, nm_rc, nm_ic, nm_ri, nm_rl, nm_rq, nm_ql, nm_qi, nm_li, nm_us, nm_uu, nm_cp, nm_sa31, nm_sa7, nm_m127, nm_m2, nm_nz, nm_nzk, nm_eq32, nm_nzf, if_true, if_false, ↓reduceIte, if_pos, if_neg]
  · simp (disch := omega) only [(show df_X16_leaveAll_2 n (m + 1) = dF_X16_leaveAll_2 n (df_X16_leaveAll_2 n m) from rfl), dF_X16_leaveAll_2, df_X16_leaveAll_0, df_X16_leaveAll, nl_0, nl_1, nl_64, no_1, no_1024, pk_mul, nI_add, nm_ck, nI_clamp, nI_ltI, nI_leI, nI_eq, nb_b2, nb_b1, nb_let, nm_z0, nm_z1, nb_II, nb_IR, nb_RI, nb_RR, nm_IL, nm_IQ, nm_RL, nm_RQ, nm_LI, nm_LR, nm_LL, nm_LQ, nm_QI, nm_QR, nm_QL, nm_QQ, nm_rr, nm_ii, nm_eqm, not_false_eq_true, pk_sub, nm_div, nm_shl, nm_shr, nm_ush, nm_or8, nm_or64, nm_or256, nm_m1, nm_m3, nm_m7, nm_m15, nm_m31, nm_m63, nm_m255, nm_m511, nm_m1023, nm_m2047, nm_m65535, Nat.reduceMod, Nat.reducePow, Nat.reduceAdd, Nat.reduceSub, Nat.reduceMul, nm_bo, nm_bi, nm_rc, nm_ic, nm_ri, nm_rl, nm_rq, nm_ql, nm_qi, nm_li, nm_us, nm_uu, nm_cp, nm_sa31, nm_sa7, nm_m127, nm_m2, nm_nz, nm_nzk, nm_eq32, nm_nzf, if_true, if_false, ↓reduceIte, if_pos, if_neg]
