/-- the kernel's call 'pipe' -/
theorem nq_pipe (n : Nat) (hn : 1024 < n) {B p : Nat} {K : St × (St × (St × St))} {X : St × St} (h : cP B p K X) (a : Int32) : cO B p K X (df_X5_pipe n (nI p) a K) (df_X16_pipe n a X) := by
  obtain ⟨h1, h2, h3, h4, h5, h6, h7⟩ := id h
  obtain ⟨m1, m2, m3, m4, m5, m6, m7⟩ := id h1
  have ans : ∀ (w64 : Int64) (w : Int32), w64 = w.toInt64 → df_X5_pipe n (nI p) a K = some (w64, K) → df_X16_pipe n a X = some (w, X) → cO B p K X (df_X5_pipe n (nI p) a K) (df_X16_pipe n a X) := fun w64 w ew e1 e2 => by
    rw [e1, e2]
    exact cO_id h ew
  obtain ⟨A, hA, eA⟩ := nI_ex a
  rw [eA] at ans ⊢
  have rem : (nI A - nI A / nI 4 * nI 4 = nI 0) ↔ A % 4 = 0 := nm_rem hA (by omega)
  by_cases al : ¬ A % 4 = 0
  · have r2 : ¬ (nI A - nI A / nI 4 * nI 4 = nI 0) := fun z => al (rem.mp z)
    exact ans (-22) (-nI 22) (by decide) (by simp (disch := (first | assumption | decide | omega)) only [df_X5_pipe, df_X5_pipe_0, al, eq_self, Nat.reduceEqDiff, Nat.reduceLeDiff, nl_0, nl_1, nl_2, nl_3, nl_8, nl_14, nl_22, no_1, no_1024, pk_mul, nI_add, nm_ck, nI_clamp, nI_ltI, nI_leI, nI_eq, nb_b2, nb_b1, ↓nb_let, nm_z0, nm_z1, nb_II, nb_IR, nb_RI, nb_RR, nm_IL, nm_IQ, nm_RL, nm_RQ, nm_LI, nm_LR, nm_LL, nm_LQ, nm_QI, nm_QR, nm_QL, nm_QQ, nm_rr, nm_ii, nm_eqm, not_false_eq_true, pk_sub, nm_div, nm_shl, nm_shr, nm_ush, nm_or8, nm_or64, nm_or256, nm_m1, nm_m3, nm_m7, nm_m15, nm_m31, nm_m63, nm_m255, nm_m511, nm_m1023, nm_m2047, nm_m65535, Nat.reduceMod, Nat.reducePow, Nat.reduceAdd, Nat.reduceSub, Nat.reduceMul, nm_bo, nm_bi, nm_rc, nm_ic, nm_ri, nm_rl, nm_rq, nm_ql, nm_qi, nm_li, nm_us, nm_uu, nm_cp, nm_sa31, nm_sa7, nm_m127, nm_m2, nm_nz, nm_nzk, nm_eq32, nm_nzf, if_true, if_false, ↓reduceIte, if_pos, if_neg]) (by simp (disch := (first | assumption | decide | omega)) only [df_X16_pipe, df_X16_pipe_0, r2, eq_self, Nat.reduceEqDiff, Nat.reduceLeDiff, nl_0, nl_2, nl_4, nl_8, nl_12, nl_14, nl_22, no_1, no_1024, pk_mul, nI_add, nm_ck, nI_clamp, nI_ltI, nI_leI, nI_eq, nb_b2, nb_b1, ↓nb_let, nm_z0, nm_z1, nb_II, nb_IR, nb_RI, nb_RR, nm_IL, nm_IQ, nm_RL, nm_RQ, nm_LI, nm_LR, nm_LL, nm_LQ, nm_QI, nm_QR, nm_QL, nm_QQ, nm_rr, nm_ii, nm_eqm, not_false_eq_true, pk_sub, nm_div, nm_shl, nm_shr, nm_ush, nm_or8, nm_or64, nm_or256, nm_m1, nm_m3, nm_m7, nm_m15, nm_m31, nm_m63, nm_m255, nm_m511, nm_m1023, nm_m2047, nm_m65535, Nat.reduceMod, Nat.reducePow, Nat.reduceAdd, Nat.reduceSub, Nat.reduceMul, nm_bo, nm_bi, nm_rc, nm_ic, nm_ri, nm_rl, nm_rq, nm_ql, nm_qi, nm_li, nm_us, nm_uu, nm_cp, nm_sa31, nm_sa7, nm_m127, nm_m2, nm_nz, nm_nzk, nm_eq32, nm_nzf, if_true, if_false, ↓reduceIte, if_pos, if_neg])
  have al : A % 4 = 0 := by omega
  have r2 := rem.mpr al
  have a3 : nI A &&& (3 : Int32) = 0 := by
    show nI A &&& nI 3 = nI 0
    rw [nm_m3 (by omega), al]
  obtain ⟨ma1, ma2⟩ := nk_mayAll n (by omega) m1 h2 hA (show 2 < 8 by omega) (show 8 ≤ 1024 by omega)
  cases mm : mA X p A 8 2 with
  | false =>
    rw [mm, bI_f] at ma1 ma2
    exact ans (-14) (-nI 14) (by decide) (by simp (disch := (first | assumption | decide | omega)) only [df_X5_pipe, df_X5_pipe_0, al, ma1, eq_self, Nat.reduceEqDiff, Nat.reduceLeDiff, nl_0, nl_1, nl_2, nl_3, nl_8, nl_14, nl_22, no_1, no_1024, pk_mul, nI_add, nm_ck, nI_clamp, nI_ltI, nI_leI, nI_eq, nb_b2, nb_b1, ↓nb_let, nm_z0, nm_z1, nb_II, nb_IR, nb_RI, nb_RR, nm_IL, nm_IQ, nm_RL, nm_RQ, nm_LI, nm_LR, nm_LL, nm_LQ, nm_QI, nm_QR, nm_QL, nm_QQ, nm_rr, nm_ii, nm_eqm, not_false_eq_true, pk_sub, nm_div, nm_shl, nm_shr, nm_ush, nm_or8, nm_or64, nm_or256, nm_m1, nm_m3, nm_m7, nm_m15, nm_m31, nm_m63, nm_m255, nm_m511, nm_m1023, nm_m2047, nm_m65535, Nat.reduceMod, Nat.reducePow, Nat.reduceAdd, Nat.reduceSub, Nat.reduceMul, nm_bo, nm_bi, nm_rc, nm_ic, nm_ri, nm_rl, nm_rq, nm_ql, nm_qi, nm_li, nm_us, nm_uu, nm_cp, nm_sa31, nm_sa7, nm_m127, nm_m2, nm_nz, nm_nzk, nm_eq32, nm_nzf, if_true, if_false, ↓reduceIte, if_pos, if_neg]) (by simp (disch := (first | assumption | decide | omega)) only [df_X16_pipe, df_X16_pipe_0, r2, h3, ma2, eq_self, Nat.reduceEqDiff, Nat.reduceLeDiff, nl_0, nl_2, nl_4, nl_8, nl_12, nl_14, nl_22, no_1, no_1024, pk_mul, nI_add, nm_ck, nI_clamp, nI_ltI, nI_leI, nI_eq, nb_b2, nb_b1, ↓nb_let, nm_z0, nm_z1, nb_II, nb_IR, nb_RI, nb_RR, nm_IL, nm_IQ, nm_RL, nm_RQ, nm_LI, nm_LR, nm_LL, nm_LQ, nm_QI, nm_QR, nm_QL, nm_QQ, nm_rr, nm_ii, nm_eqm, not_false_eq_true, pk_sub, nm_div, nm_shl, nm_shr, nm_ush, nm_or8, nm_or64, nm_or256, nm_m1, nm_m3, nm_m7, nm_m15, nm_m31, nm_m63, nm_m255, nm_m511, nm_m1023, nm_m2047, nm_m65535, Nat.reduceMod, Nat.reducePow, Nat.reduceAdd, Nat.reduceSub, Nat.reduceMul, nm_bo, nm_bi, nm_rc, nm_ic, nm_ri, nm_rl, nm_rq, nm_ql, nm_qi, nm_li, nm_us, nm_uu, nm_cp, nm_sa31, nm_sa7, nm_m127, nm_m2, nm_nz, nm_nzk, nm_eq32, nm_nzf, if_true, if_false, ↓reduceIte, if_pos, if_neg])
  | true =>
  rw [mm, bI_t] at ma1 ma2
  have hm : ∀ j : Nat, j < 8 → ma X p (A + j) 2 = true := of_decide_eq_true mm
  obtain ⟨fp, p29⟩ := nk_freePipe n hn (D := K.2.2.2) (X := X) m2
  have of := nk_openingsFree2 n hn (D := K.2.2.2) (X := X) m2
  have f1 := nk_freeDescriptors n hn (X := X) h2 h3
  have f2 := nk_openings n hn (X := X)
  have l1 := nk_freeLink n hn (D := K.2.2.2) (X := X) m2.1 h2 (f := 0) (by omega)
  have c16 := c2_fN (fd X p) (N := 16)
  have c48 := c2_fN (fop X) (N := 48)
  have cn := cN_not (fop X) 48
  have cl1 := cN_le (fd X p) 16
  obtain ⟨_, b2, b3, b4⟩ := fN_le (fd X p) 16 0
  have R0 : df_X16_pipe n (nI A) X = df_X16_pipe_50 n (nI A) (nI (fpi X)) X := by
    rw [← p29 (nI A)]
    generalize hG : df_X16_pipe_29 n n = G
    simp (disch := (first | assumption | decide | omega)) only [df_X16_pipe, df_X16_pipe_0, hG, r2, h3, ma2, eq_self, Nat.reduceEqDiff, Nat.reduceLeDiff, nl_0, nl_2, nl_4, nl_8, nl_12, nl_14, nl_22, no_1, no_1024, pk_mul, nI_add, nm_ck, nI_clamp, nI_ltI, nI_leI, nI_eq, nb_b2, nb_b1, ↓nb_let, nm_z0, nm_z1, nb_II, nb_IR, nb_RI, nb_RR, nm_IL, nm_IQ, nm_RL, nm_RQ, nm_LI, nm_LR, nm_LL, nm_LQ, nm_QI, nm_QR, nm_QL, nm_QQ, nm_rr, nm_ii, nm_eqm, not_false_eq_true, pk_sub, nm_div, nm_shl, nm_shr, nm_ush, nm_or8, nm_or64, nm_or256, nm_m1, nm_m3, nm_m7, nm_m15, nm_m31, nm_m63, nm_m255, nm_m511, nm_m1023, nm_m2047, nm_m65535, Nat.reduceMod, Nat.reducePow, Nat.reduceAdd, Nat.reduceSub, Nat.reduceMul, nm_bo, nm_bi, nm_rc, nm_ic, nm_ri, nm_rl, nm_rq, nm_ql, nm_qi, nm_li, nm_us, nm_uu, nm_cp, nm_sa31, nm_sa7, nm_m127, nm_m2, nm_nz, nm_nzk, nm_eq32, nm_nzf, if_true, if_false, ↓reduceIte, if_pos, if_neg]
  have t8 : fpi X ≤ 8 := (fN_le (fun k => decide (sR X.1 23 k = nI 0)) 8 0).2.1
  have t23 : fpi X < 8 → sR X.1 23 (fpi X) = nI 0 := fun z => of_decide_eq_true ((fN_le (fun k => decide (sR X.1 23 k = nI 0)) 8 0).2.2.1 z)
  have ma1' : df_X6_mayAll n (nI p) (nI A) 8 2 K.2.2 = some (nI 1, K.2.2) := ma1
  have l1' : df_X10_freeLink n (nI p) 0 K.2.2.2 = some (cv (fN (fd X p) 0 16), K.2.2.2) := l1
  have C0 : df_X5_pipe n (nI p) (nI A) K = if 0 ≤ cv (fN (fd X p) 0 16) then nd_b2 (df_X10_freeLink n (nI p) (cv (fN (fd X p) 0 16) + 1) K.2.2.2) (fun q12 s13 => nd_let (K.1, (K.2.1, (K.2.2.1, s13))) (fun s15 => df_X5_pipe_58 n (nI p) (nI A) (cv (fN (fd X p) 0 16)) q12 s15)) else df_X5_pipe_58 n (nI p) (nI A) (cv (fN (fd X p) 0 16)) (-1) K := by
    unfold df_X5_pipe df_X5_pipe_0
    rw [if_pos a3, ma1', nb_b2, nb_let, if_neg (show ¬ nI 1 = (0 : Int32) by decide), l1', nb_b2, nb_let]
  generalize hd : fN (fd X p) 0 16 = d at l1' C0 c16 b2 b3 b4
  generalize ht : fpi X = t at R0 t8 t23 fp
  have cx : cN (fop X) 48 ≤ 48 := cN_le _ _
  have u4 : ∀ w : Nat, w < 2 ^ 31 → (nI w < (0 : Int32)) = False := fun w hw => by
    show (nI w < nI 0) = False
    rw [nI_ltI hw (by omega)]
    exact eq_false (by omega)
  by_cases ok : (d < 16 ∧ fN (fd X p) (d + 1) (16 - (d + 1)) < 16) ∧ t < 8 ∧ 2 ≤ cN (fop X) 48
  · obtain ⟨⟨d16, e16⟩, tt8, x2⟩ := ok
    have l2 := nk_freeLink n hn (D := K.2.2.2) (X := X) m2.1 h2 (f := d + 1) (by omega)
    generalize he : fN (fd X p) (d + 1) (16 - (d + 1)) = e at l2 e16 c16
    rw [cv_0 e16] at l2
    rw [cv_0 d16] at C0
    rw [if_pos (show (0 : Int32) ≤ nI d from (show nI 0 ≤ nI d by rw [nI_leI (by omega) (by omega)]; omega)), show nI d + 1 = nI (d + 1) from nI_add .., l2, nb_b2, nb_let] at C0
    rw [if_pos tt8] at fp
    have x2' : (2 : Int32) ≤ nI (cN (fop X) 48) := by
      show nI 2 ≤ nI (cN (fop X) 48)
      rw [nI_leI (by omega) (by omega)]
      exact x2
    have cc : ¬ cN (fd X p) 16 < 2 := by
      have := c16.mpr ⟨d16, e16⟩
      omega
    have co : ¬ 46 < cN (fun o => !fop X o) 48 := by omega
    obtain ⟨_, fa, ha, ea⟩ := ma_f m1 h2 (hm 0 (by omega))
    rw [Nat.add_zero] at ea
    obtain ⟨hz, fb, hb, eb⟩ := ma_f m1 h2 (hm 7 (by omega))
    have hA2 : A + 8 ≤ 65536 := by omega
    rw [show A + 7 = A + 8 - 1 by omega] at eb
    obtain ⟨fF, wa⟩ := nk_wanted n hn m1 h2 (A := A) (m := 8) (by omega) (by omega) hA2 ha hb ea eb
    have fu := m1.2.2.2.1
    have us := m1.2.2.2.2
    have cu := cU_le (sR X.1 16)
    have fr : df_X6_framesFree n K.2.2 = some (nI (256 - cU (sR X.1 16)), K.2.2) := by
      generalize cU (sR X.1 16) = x at fu cu
      simp (disch := (first | assumption | decide | omega)) only [df_X6_framesFree_0, df_X6_framesFree, fu, eq_self, Nat.reduceEqDiff, Nat.reduceLeDiff, nl_0, nl_256, no_1, no_1024, pk_mul, nI_add, nm_ck, nI_clamp, nI_ltI, nI_leI, nI_eq, nb_b2, nb_b1, ↓nb_let, nm_z0, nm_z1, nb_II, nb_IR, nb_RI, nb_RR, nm_IL, nm_IQ, nm_RL, nm_RQ, nm_LI, nm_LR, nm_LL, nm_LQ, nm_QI, nm_QR, nm_QL, nm_QQ, nm_rr, nm_ii, nm_eqm, not_false_eq_true, pk_sub, nm_div, nm_shl, nm_shr, nm_ush, nm_or8, nm_or64, nm_or256, nm_m1, nm_m3, nm_m7, nm_m15, nm_m31, nm_m63, nm_m255, nm_m511, nm_m1023, nm_m2047, nm_m65535, Nat.reduceMod, Nat.reducePow, Nat.reduceAdd, Nat.reduceSub, Nat.reduceMul, nm_bo, nm_bi, nm_rc, nm_ic, nm_ri, nm_rl, nm_rq, nm_ql, nm_qi, nm_li, nm_us, nm_uu, nm_cp, nm_sa31, nm_sa7, nm_m127, nm_m2, nm_nz, nm_nzk, nm_eq32, nm_nzf, if_true, if_false, ↓reduceIte, if_pos, if_neg]
    have wl : wt (sR X.1 16) (64 * p + A / 1024) (64 * p + (A + 8 - 1) / 1024) ≤ 2 := by
      unfold wt
      split <;> split <;> (try split) <;> omega
    generalize hy : wt (sR X.1 16) (64 * p + A / 1024) (64 * p + (A + 8 - 1) / 1024) = y at fF wa wl
    have hF : df_X16_hasFrames n (nI y) X = some (if 256 < cU (sR X.1 16) + y then nI 0 else nI 1, X) := by
      generalize cU (sR X.1 16) = x at us cu
      have w1 : x + y < 2 ^ 31 := by omega
      by_cases w : 256 < x + y
      · simp (disch := (first | assumption | decide | omega)) only [df_X16_hasFrames_17, df_X16_hasFrames_0, df_X16_hasFrames, us, w, eq_self, Nat.reduceEqDiff, Nat.reduceLeDiff, nl_0, nl_1, nl_6, nl_256, no_1, no_1024, pk_mul, nI_add, nm_ck, nI_clamp, nI_ltI, nI_leI, nI_eq, nb_b2, nb_b1, ↓nb_let, nm_z0, nm_z1, nb_II, nb_IR, nb_RI, nb_RR, nm_IL, nm_IQ, nm_RL, nm_RQ, nm_LI, nm_LR, nm_LL, nm_LQ, nm_QI, nm_QR, nm_QL, nm_QQ, nm_rr, nm_ii, nm_eqm, not_false_eq_true, pk_sub, nm_div, nm_shl, nm_shr, nm_ush, nm_or8, nm_or64, nm_or256, nm_m1, nm_m3, nm_m7, nm_m15, nm_m31, nm_m63, nm_m255, nm_m511, nm_m1023, nm_m2047, nm_m65535, Nat.reduceMod, Nat.reducePow, Nat.reduceAdd, Nat.reduceSub, Nat.reduceMul, nm_bo, nm_bi, nm_rc, nm_ic, nm_ri, nm_rl, nm_rq, nm_ql, nm_qi, nm_li, nm_us, nm_uu, nm_cp, nm_sa31, nm_sa7, nm_m127, nm_m2, nm_nz, nm_nzk, nm_eq32, nm_nzf, if_true, if_false, ↓reduceIte, if_pos, if_neg]
      · simp (disch := (first | assumption | decide | omega)) only [df_X16_hasFrames_17, df_X16_hasFrames_0, df_X16_hasFrames, us, w, eq_self, Nat.reduceEqDiff, Nat.reduceLeDiff, nl_0, nl_1, nl_6, nl_256, no_1, no_1024, pk_mul, nI_add, nm_ck, nI_clamp, nI_ltI, nI_leI, nI_eq, nb_b2, nb_b1, ↓nb_let, nm_z0, nm_z1, nb_II, nb_IR, nb_RI, nb_RR, nm_IL, nm_IQ, nm_RL, nm_RQ, nm_LI, nm_LR, nm_LL, nm_LQ, nm_QI, nm_QR, nm_QL, nm_QQ, nm_rr, nm_ii, nm_eqm, not_false_eq_true, pk_sub, nm_div, nm_shl, nm_shr, nm_ush, nm_or8, nm_or64, nm_or256, nm_m1, nm_m3, nm_m7, nm_m15, nm_m31, nm_m63, nm_m255, nm_m511, nm_m1023, nm_m2047, nm_m65535, Nat.reduceMod, Nat.reducePow, Nat.reduceAdd, Nat.reduceSub, Nat.reduceMul, nm_bo, nm_bi, nm_rc, nm_ic, nm_ri, nm_rl, nm_rq, nm_ql, nm_qi, nm_li, nm_us, nm_uu, nm_cp, nm_sa31, nm_sa7, nm_m127, nm_m2, nm_nz, nm_nzk, nm_eq32, nm_nzf, if_true, if_false, ↓reduceIte, if_pos, if_neg]
    have fF' : df_X6_framesFor n (nI p) (nI A) 8 K.2.2 = some (nI y, K.2.2) := fF
    have e0 : ¬ nI e < (0 : Int32) := by rw [u4 e (by omega)]; exact id
    have t0 : ¬ nI t < (0 : Int32) := by rw [u4 t (by omega)]; exact id
    rw [C0, R0]
    by_cases w : 256 < cU (sR X.1 16) + y
    · rw [if_pos w] at hF
      rw [pc_f n fp of e0 t0 x2' fF' fr (fun q => by rw [nI_leI (by omega) (by omega)] at q; omega), pr_f n h3 (by omega) (by omega) (by omega) f1 f2 cc co (by omega) wa hF]
      exact cO_f h
    · rw [if_neg w] at hF
      -- the first end
      have fo1 : fo X < 48 := (c48.mp x2).1
      have emp : df_X10_emptyPipe n (nI t) K.2.2.2 = some (pR K.2.2.2 2 (upd (upd (sR K.2.2.2 2) (t * 4) (nI 0)) (t * 4 + 3) (nI 0))) := by
        have v1 : t * 4 < 32 := by omega
        have v2 : t * 4 + 3 < 32 := by omega
        have v3 : t * 4 + 3 < 2 ^ 31 := by omega
        have v4 : t * 4 < 2 ^ 31 := by omega
        simp (disch := (first | assumption | decide | omega)) only [df_X10_emptyPipe_0, df_X10_emptyPipe, Nat.add_zero, eq_self, Nat.reduceEqDiff, Nat.reduceLeDiff, nl_0, nl_2, nl_3, nl_4, nl_32, no_1, no_1024, pk_mul, nI_add, nm_ck, nI_clamp, nI_ltI, nI_leI, nI_eq, nb_b2, nb_b1, ↓nb_let, nm_z0, nm_z1, nb_II, nb_IR, nb_RI, nb_RR, nm_IL, nm_IQ, nm_RL, nm_RQ, nm_LI, nm_LR, nm_LL, nm_LQ, nm_QI, nm_QR, nm_QL, nm_QQ, nm_rr, nm_ii, nm_eqm, not_false_eq_true, pk_sub, nm_div, nm_shl, nm_shr, nm_ush, nm_or8, nm_or64, nm_or256, nm_m1, nm_m3, nm_m7, nm_m15, nm_m31, nm_m63, nm_m255, nm_m511, nm_m1023, nm_m2047, nm_m65535, Nat.reduceMod, Nat.reducePow, Nat.reduceAdd, Nat.reduceSub, Nat.reduceMul, nm_bo, nm_bi, nm_rc, nm_ic, nm_ri, nm_rl, nm_rq, nm_ql, nm_qi, nm_li, nm_us, nm_uu, nm_cp, nm_sa31, nm_sa7, nm_m127, nm_m2, nm_nz, nm_nzk, nm_eq32, nm_nzf, if_true, if_false, ↓reduceIte, if_pos, if_neg]
      obtain ⟨D1, D2, X1, X2, q1, q2, q3, q4, q5, q6, q7, q8, q9, q10, q11⟩ := pp_end n hn h1 h2 h3 h5 (k := 1) (t := t) (d := d) (Or.inl rfl) tt8 d16 hd fo1 (pi0 := upd (upd (sR K.2.2.2 2) (t * 4) (nI 0)) (t * 4 + 3) (nI 0)) (pl0 := upd (sR X.1 26) t (nI 0)) (fun u s hu s1 s2 => by rw [nm_un (by omega), nm_un (by omega)]) (fun u hu c => by
        by_cases d : u = t
        · rw [d]
          exact ⟨0, 0, by omega, by omega, by rw [nm_un (by omega), nm_us], nm_us, nm_us, fun i hi => by omega⟩
        · obtain ⟨L, o, l1, l2, l3, l4, l5, l6⟩ := m7.1 u hu (c.resolve_left d)
          exact ⟨L, o, l1, l2, by rw [nm_un (by omega), nm_un (by omega)]; exact l3, by rw [nm_un d]; exact l4, by rw [nm_un (by omega), nm_un (by omega)]; exact l5, l6⟩)
      -- the second
      have hd2 : fN (fd X2 p) 0 16 = e := fN_nx hd d16 he e16 (fun i hi hne => by
        show decide (sR X2.1 14 (p * 16 + i) = -nI 1) = decide (sR X.1 14 (p * 16 + i) = -nI 1)
        rw [q9, nm_un (by omega)]) (by
        show decide (sR X2.1 14 (p * 16 + d) = -nI 1) = false
        rw [q9, nm_us]
        exact decide_eq_false (nk_ne (by omega)))
      have fo2 : fo X2 < 48 := by
        have z := c48.mp x2
        have := fN_nx (P := fop X) (Q := fop X2) (N := 48) rfl z.1 rfl z.2 (fun i hi hne => by
          show decide (sR X2.1 19 i ≤ nI 0) = decide (sR X.1 19 i ≤ nI 0)
          rw [q8, nm_un (show i ≠ fo X from hne)]) (by
          show decide (sR X2.1 19 (fo X) ≤ nI 0) = false
          rw [q8, nm_us]
          decide)
        have this : fo X2 = _ := this
        rw [this]
        exact z.2
      obtain ⟨k1, k2, k3, k4, k5, k6, k7⟩ := q6
      obtain ⟨D3, D4, X3, X4, r1, r2', r3, r4, r5, r6, r7, r8, r9, r10, r11⟩ := pp_end n hn q5 h2 (k3.trans h3) (by rw [q7]; exact h5) (k := 2) (t := t) (d := e) (Or.inr rfl) tt8 e16 hd2 fo2 (pi0 := sR D2 2) (pl0 := sR X2.1 26) (fun _ _ _ _ _ => rfl) (fun u hu c => q5.2.2.2.2.2.2.1 u hu (by
        rcases c with c | c
        · rw [q10, c, nm_us]
        · exact c))
      have e23 : upd (sR X2.1 23) t (nI 1) = sR X2.1 23 := by rw [q10, nm_uu]
      rw [e23, nm_r0, nm_r0] at r3
      rw [nm_r0] at r1
      obtain ⟨j1, j2, j3, j4, j5, j6, j7⟩ := r6
      have e12 : sI X4.1 12 = nI p := (j3.trans k3).trans h3
      have e16' : sI X4.1 16 = nI 0 := (j7.trans k7).trans h7
      have row : sR X4.1 16 = sR X.1 16 := r11.trans q11
      have okr := r5.2.2.2.2.1.2.2.2.2.2.2.2.2.1
      have er : sI K.2.2.1 6 = sI X4.1 4 := r5.2.2.2.2.1.2.2.2.2.2.2.2.1
      obtain ⟨M1, w', u, g, fu', fr', ho', us', z1, z2, z3, z4, z5, z6, z7, z8, z9⟩ := nk_write n hn (M := K.2.2) (X := X4) r5.1 (p := p) (a := A) (m := 8) h2 (by omega) (by omega) hA2 ha hb (by rw [row]; exact ea) (by rw [row]; exact eb) (by rw [row, hy]; omega) okr (Or.inl e16')
      rw [own_pg n (p := p) (show A + 8 - 1 < 65536 by omega) (show A + 4 < 65536 by omega) (by omega) M1] at z2
      obtain ⟨fa', hfa, efa, cfa⟩ := z4 0 (by omega)
      rw [Nat.add_zero] at efa
      obtain ⟨fb', hfb, efb, cfb⟩ := z4 4 (by omega)
      have y1 := nk_cput n (M := (K.2.2.1, D4)) z3 h2 (show A < 65536 by omega) hfa efa (mk 2) (nI d)
      have y2 := rQ_put z3 (show 64 * p + A / 1024 < 1024 by omega) hfa efa cfa (show A / 4 % 256 < 256 by omega) (pw (sR X4.1 15 ((64 * p + A / 1024) * 256 + A / 4 % 256)) (8 * (A % 4)) (mk 2) (nI d))
      have y3 := nk_cput n (M := (K.2.2.1, D4)) y2 h2 (show A + 4 < 65536 by omega) hfb efb (mk 2) (nI e)
      have y4 := rQ_put y2 (show 64 * p + (A + 4) / 1024 < 1024 by omega) hfb efb cfb (show (A + 4) / 4 % 256 < 256 by omega) (pw (upd (sR X4.1 15) ((64 * p + A / 1024) * 256 + A / 4 % 256) (pw (sR X4.1 15 ((64 * p + A / 1024) * 256 + A / 4 % 256)) (8 * (A % 4)) (mk 2) (nI d)) ((64 * p + (A + 4) / 1024) * 256 + (A + 4) / 4 % 256)) (8 * ((A + 4) % 4)) (mk 2) (nI e))
      rw [← pbs_8 (sR X4.1 15) al (nI d) (nI e)] at y4
      generalize upd w' (fa' * 256 + A / 4 % 256) (pw (sR X4.1 15 ((64 * p + A / 1024) * 256 + A / 4 % 256)) (8 * (A % 4)) (mk 2) (nI d)) = w1 at y1 y3 y4
      generalize upd w1 (fb' * 256 + (A + 4) / 4 % 256) (pw (upd (sR X4.1 15) ((64 * p + A / 1024) * 256 + A / 4 % 256) (pw (sR X4.1 15 ((64 * p + A / 1024) * 256 + A / 4 % 256)) (8 * (A % 4)) (mk 2) (nI d)) ((64 * p + (A + 4) / 1024) * 256 + (A + 4) / 4 % 256)) (8 * ((A + 4) % 4)) (mk 2) (nI e)) = w2 at y3 y4
      have nt := nk_note n (M := mU (K.2.2.1, D4) w2 u g fu') (re := sI X4.1 4) er okr h2 hA2 (by omega) (by omega)
      have hre : okR (rvs (sI X4.1 4) A 8) := okR_rvs okr A 8
      have rm := rM_wrote r5 (wn := nI (p * 67108864 + A * 1024 + 8)) (wr := wvs X4 (sI X4.1 16) p A 8) y4 hre (fun j hj => ⟨fun z => by
        by_cases c : sR X4.1 16 j = -nI 1
        · exact c
        · exact absurd z (z7 j hj c), fun z => z6 j z hj⟩)
      have pr := pp_R n (by omega) (d := d) (e := e) e12 rfl (z5 _) (z9 _)
      have ew : wvs X4 (sI X4.1 16) p A 8 = wvs X (nI 0) p A 8 := by rw [e16', wvs_c (j5.trans k5) (j6.trans k6)]
      rw [ew] at rm pr
      generalize hwr : wvs X (nI 0) p A 8 = wr at rm pr
      have c1 := pc_1 n (x1 := nI p) (x2 := nI A) (x3 := nI d) (y0 := nI e) fp of e0 t0 x2' fF' fr (by rw [nI_leI (by omega) (by omega)]; omega) z1 (show df_X6_own n (nI p) (nI A + 4) M1 = _ from (show nI A + 4 = nI (A + 4) from nI_add ..) ▸ z2) (show df_X10_emptyPipe n (nI t) (mU K.2.2 w' u g fu').2 = _ from emp) q1 q2 r1 r2' (show df_X6_put n (nI p) (nI A) (-1) (nI d) ((mU K.2.2 w' u g fu').1, D4) = _ from y1) (show df_X6_put n (nI p) (nI A + 4) (-1) (nI e) _ = _ from (show nI A + 4 = nI (A + 4) from nI_add ..) ▸ y3) nt
      have c2 := pr_1 n h3 (by omega) (by omega) tt8 f1 f2 cc co wa hF q3 q4 r3 r4
      rw [show (K.1, (K.2.1, (K.2.2.1, K.2.2.2))) = K from rfl, c1, c2, pr]
      refine ⟨0, nI 0, K.1, _, _, rfl, rfl, rm, fun _ => rfl, Or.inl ⟨(j4.trans k4).trans h4, by decide⟩, ⟨j1.trans k1, j2.trans k2, j3.trans k3, j5.trans k5, j6.trans k6⟩, Or.inr ⟨A, 8, by omega, by omega, hA2, rfl, hwr.symm⟩, fun _ => (congrFun (r7.trans q7) p).trans h5, fun y => absurd (((j4.trans k4).trans h4).symm.trans y) (by decide)⟩
  · have R4 : df_X16_pipe n (nI A) X = some (-nI 4, X) := by
      rw [R0]
      refine pr_4 n (by omega) (by omega) (by omega) f1 f2 ?_
      by_cases c : 2 ≤ cN (fd X p) 16
      · by_cases c' : t < 8
        · have : ¬ 2 ≤ cN (fop X) 48 := fun z => ok ⟨c16.mp c, c', z⟩
          omega
        · omega
      · omega
    have C4 : df_X5_pipe n (nI p) (nI A) K = some (-4, K) := by
      rw [C0]
      by_cases d16 : d < 16
      · have l2 := nk_freeLink n hn (D := K.2.2.2) (X := X) m2.1 h2 (f := d + 1) (by omega)
        rw [cv_0 d16, if_pos (show (0 : Int32) ≤ nI d from (show nI 0 ≤ nI d by rw [nI_leI (by omega) (by omega)]; omega)), show nI d + 1 = nI (d + 1) from nI_add .., l2, nb_b2, nb_let]
        refine pc_58 n (K := K) fp of (by omega) ?_
        by_cases e16 : fN (fd X p) (d + 1) (16 - (d + 1)) < 16
        · by_cases c' : t < 8
          · exact Or.inr (Or.inr (fun z => ok ⟨⟨d16, e16⟩, c', z⟩))
          · rw [if_neg c']
            exact Or.inr (Or.inl (by decide))
        · rw [cv_1 e16]
          exact Or.inl (by decide)
      · rw [cv_1 d16, if_neg (by decide)]
        exact pc_58 n (K := K) fp of (by omega) (Or.inl (by decide))
    exact ans (-4) (-nI 4) (by decide) C4 R4
