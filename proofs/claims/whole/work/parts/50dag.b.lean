/-- the kernel's call 'pipe' -/
theorem nq_pipe (n : Nat) (hn : 1024 < n) {B p : Nat} {K : St × (St × (St × St))} {X : St × St} (h : cP B p K X) (a : Int32) : cO B p K X (df_X5_pipe n (nI p) a K) (df_X16_pipe n a X) := by
  obtain ⟨h1, h2, h3, h4, h5, h6, h7⟩ := id h
  obtain ⟨m1, m2, m3, m4, m5, m6, m7⟩ := id h1
  have ans : ∀ (w64 : Int64) (w : Int32), w64 = w.toInt64 → df_X5_pipe n (nI p) a K = some (w64, K) → df_X16_pipe n a X = some (w, X) → cO B p K X (df_X5_pipe n (nI p) a K) (df_X16_pipe n a X) := fun w64 w ew e1 e2 => by
    rw [e1, e2]
    exact cO_id h ew
  obtain ⟨A, hA, eA⟩ := nI_ex a
  rw [eA] at ans ⊢
  have rem : (nI A - nI A / nI 4 * nI 4 = nI 0) ↔ A % 4 = 0 := nm_rem hA (by omega)
  by_cases al : ¬ A % 4 = 0
  · have r2 : ¬ (nI A - nI A / nI 4 * nI 4 = nI 0) := fun z => al (rem.mp z)
    exact ans (-22) (-nI 22) (by decide) (by simp (disch := (first | assumption | decide | omega)) only [df_X5_pipe, df_X5_pipe_0, al, eq_self, Nat.reduceEqDiff, Nat.reduceLeDiff, nl_0, nl_1, nl_2, nl_3, nl_8, nl_14, nl_22, no_1, no_1024, pk_mul, nI_add, nm_ck, nI_clamp, nI_ltI, nI_leI, nI_eq, nb_b2, nb_b1, ↓nb_let, nm_z0, nm_z1, nb_II, nb_IR, nb_RI, nb_RR, nm_IL, nm_IQ, nm_RL, nm_RQ, nm_LI, nm_LR, nm_LL, nm_LQ, nm_QI, nm_QR, nm_QL, nm_QQ, nm_rr, nm_ii, nm_eqm, not_false_eq_true, pk_sub, nm_div, nm_shl, nm_shr, nm_ush, nm_or8, nm_or64, nm_or256, nm_m1, nm_m3, nm_m7, nm_m15, nm_m31, nm_m63, nm_m255, nm_m511, nm_m1023, nm_m2047, nm_m65535, Nat.reduceMod, Nat.reducePow, Nat.reduceAdd, Nat.reduceSub, Nat.reduceMul, nm_bo, nm_bi, nm_rc, nm_ic, nm_ri, nm_rl, nm_rq, nm_ql, nm_qi, nm_li, nm_us, nm_uu, nm_cp, nm_sa31, nm_sa7, nm_m127, nm_m2, nm_nz, nm_nzk, nm_eq32, nm_nzf, if_true, if_false, ↓reduceIte, if_pos, if_neg]) (by simp (disch := (first | assumption | decide | omega)) only [df_X16_pipe, df_X16_pipe_0, r2, eq_self, Nat.reduceEqDiff, Nat.reduceLeDiff, nl_0, nl_2, nl_4, nl_8, nl_12, nl_14, nl_22, no_1, no_1024, pk_mul, nI_add, nm_ck, nI_clamp, nI_ltI, nI_leI, nI_eq, nb_b2, nb_b1, ↓nb_let, nm_z0, nm_z1, nb_II, nb_IR, nb_RI, nb_RR, nm_IL, nm_IQ, nm_RL, nm_RQ, nm_LI, nm_LR, nm_LL, nm_LQ, nm_QI, nm_QR, nm_QL, nm_QQ, nm_rr, nm_ii, nm_eqm, not_false_eq_true, pk_sub, nm_div, nm_shl, nm_shr, nm_ush, nm_or8, nm_or64, nm_or256, nm_m1, nm_m3, nm_m7, nm_m15, nm_m31, nm_m63, nm_m255, nm_m511, nm_m1023, nm_m2047, nm_m65535, Nat.reduceMod, Nat.reducePow, Nat.reduceAdd, Nat.reduceSub, Nat.reduceMul, nm_bo, nm_bi, nm_rc, nm_ic, nm_ri, nm_rl, nm_rq, nm_ql, nm_qi, nm_li, nm_us, nm_uu, nm_cp, nm_sa31, nm_sa7, nm_m127, nm_m2, nm_nz, nm_nzk, nm_eq32, nm_nzf, if_true, if_false, ↓reduceIte, if_pos, if_neg])
  have al : A % 4 = 0 := by omega
  have r2 := rem.mpr al
  have a3 : nI A &&& (3 : Int32) = 0 := by
    show nI A &&& nI 3 = nI 0
    rw [nm_m3 (by omega), al]
  obtain ⟨ma1, ma2⟩ := nk_mayAll n (by omega) m1 h2 hA (show 2 < 8 by omega) (show 8 ≤ 1024 by omega)
  cases mm : mA X p A 8 2 with
  | false =>
    rw [mm, bI_f] at ma1 ma2
    exact ans (-14) (-nI 14) (by decide) (by simp (disch := (first | assumption | decide | omega)) only [df_X5_pipe, df_X5_pipe_0, al, ma1, eq_self, Nat.reduceEqDiff, Nat.reduceLeDiff, nl_0, nl_1, nl_2, nl_3, nl_8, nl_14, nl_22, no_1, no_1024, pk_mul, nI_add, nm_ck, nI_clamp, nI_ltI, nI_leI, nI_eq, nb_b2, nb_b1, ↓nb_let, nm_z0, nm_z1, nb_II, nb_IR, nb_RI, nb_RR, nm_IL, nm_IQ, nm_RL, nm_RQ, nm_LI, nm_LR, nm_LL, nm_LQ, nm_QI, nm_QR, nm_QL, nm_QQ, nm_rr, nm_ii, nm_eqm, not_false_eq_true, pk_sub, nm_div, nm_shl, nm_shr, nm_ush, nm_or8, nm_or64, nm_or256, nm_m1, nm_m3, nm_m7, nm_m15, nm_m31, nm_m63, nm_m255, nm_m511, nm_m1023, nm_m2047, nm_m65535, Nat.reduceMod, Nat.reducePow, Nat.reduceAdd, Nat.reduceSub, Nat.reduceMul, nm_bo, nm_bi, nm_rc, nm_ic, nm_ri, nm_rl, nm_rq, nm_ql, nm_qi, nm_li, nm_us, nm_uu, nm_cp, nm_sa31, nm_sa7, nm_m127, nm_m2, nm_nz, nm_nzk, nm_eq32, nm_nzf, if_true, if_false, ↓reduceIte, if_pos, if_neg]) (by simp (disch := (first | assumption | decide | omega)) only [df_X16_pipe, df_X16_pipe_0, r2, h3, ma2, eq_self, Nat.reduceEqDiff, Nat.reduceLeDiff, nl_0, nl_2, nl_4, nl_8, nl_12, nl_14, nl_22, no_1, no_1024, pk_mul, nI_add, nm_ck, nI_clamp, nI_ltI, nI_leI, nI_eq, nb_b2, nb_b1, ↓nb_let, nm_z0, nm_z1, nb_II, nb_IR, nb_RI, nb_RR, nm_IL, nm_IQ, nm_RL, nm_RQ, nm_LI, nm_LR, nm_LL, nm_LQ, nm_QI, nm_QR, nm_QL, nm_QQ, nm_rr, nm_ii, nm_eqm, not_false_eq_true, pk_sub, nm_div, nm_shl, nm_shr, nm_ush, nm_or8, nm_or64, nm_or256, nm_m1, nm_m3, nm_m7, nm_m15, nm_m31, nm_m63, nm_m255, nm_m511, nm_m1023, nm_m2047, nm_m65535, Nat.reduceMod, Nat.reducePow, Nat.reduceAdd, Nat.reduceSub, Nat.reduceMul, nm_bo, nm_bi, nm_rc, nm_ic, nm_ri, nm_rl, nm_rq, nm_ql, nm_qi, nm_li, nm_us, nm_uu, nm_cp, nm_sa31, nm_sa7, nm_m127, nm_m2, nm_nz, nm_nzk, nm_eq32, nm_nzf, if_true, if_false, ↓reduceIte, if_pos, if_neg])
  | true =>
  rw [mm, bI_t] at ma1 ma2
  have hm : ∀ j : Nat, j < 8 → ma X p (A + j) 2 = true := of_decide_eq_true mm
  obtain ⟨fp, p29⟩ := nk_freePipe n hn (D := K.2.2.2) (X := X) m2
  have of := nk_openingsFree2 n hn (D := K.2.2.2) (X := X) m2
  have f1 := nk_freeDescriptors n hn (X := X) h2 h3
  have f2 := nk_openings n hn (X := X)
  have l1 := nk_freeLink n hn (D := K.2.2.2) (X := X) m2.1 h2 (f := 0) (by omega)
  have c16 := c2_fN (fd X p) (N := 16)
  have c48 := c2_fN (fop X) (N := 48)
  have cn := cN_not (fop X) 48
  have cl1 := cN_le (fd X p) 16
  obtain ⟨_, b2, b3, b4⟩ := fN_le (fd X p) 16 0
  have R0 : df_X16_pipe n (nI A) X = df_X16_pipe_50 n (nI A) (nI (fpi X)) X := by
    rw [← p29 (nI A)]
    generalize hG : df_X16_pipe_29 n n = G
    simp (disch := (first | assumption | decide | omega)) only [df_X16_pipe, df_X16_pipe_0, hG, r2, h3, ma2, eq_self, Nat.reduceEqDiff, Nat.reduceLeDiff, nl_0, nl_2, nl_4, nl_8, nl_12, nl_14, nl_22, no_1, no_1024, pk_mul, nI_add, nm_ck, nI_clamp, nI_ltI, nI_leI, nI_eq, nb_b2, nb_b1, ↓nb_let, nm_z0, nm_z1, nb_II, nb_IR, nb_RI, nb_RR, nm_IL, nm_IQ, nm_RL, nm_RQ, nm_LI, nm_LR, nm_LL, nm_LQ, nm_QI, nm_QR, nm_QL, nm_QQ, nm_rr, nm_ii, nm_eqm, not_false_eq_true, pk_sub, nm_div, nm_shl, nm_shr, nm_ush, nm_or8, nm_or64, nm_or256, nm_m1, nm_m3, nm_m7, nm_m15, nm_m31, nm_m63, nm_m255, nm_m511, nm_m1023, nm_m2047, nm_m65535, Nat.reduceMod, Nat.reducePow, Nat.reduceAdd, Nat.reduceSub, Nat.reduceMul, nm_bo, nm_bi, nm_rc, nm_ic, nm_ri, nm_rl, nm_rq, nm_ql, nm_qi, nm_li, nm_us, nm_uu, nm_cp, nm_sa31, nm_sa7, nm_m127, nm_m2, nm_nz, nm_nzk, nm_eq32, nm_nzf, if_true, if_false, ↓reduceIte, if_pos, if_neg]
  have t8 : fpi X ≤ 8 := (fN_le (fun k => decide (sR X.1 23 k = nI 0)) 8 0).2.1
  have t23 : fpi X < 8 → sR X.1 23 (fpi X) = nI 0 := fun z => of_decide_eq_true ((fN_le (fun k => decide (sR X.1 23 k = nI 0)) 8 0).2.2.1 z)
  have ma1' : df_X6_mayAll n (nI p) (nI A) 8 2 K.2.2 = some (nI 1, K.2.2) := ma1
  have l1' : df_X10_freeLink n (nI p) 0 K.2.2.2 = some (cv (fN (fd X p) 0 16), K.2.2.2) := l1
  have C0 : df_X5_pipe n (nI p) (nI A) K = if 0 ≤ cv (fN (fd X p) 0 16) then nd_b2 (df_X10_freeLink n (nI p) (cv (fN (fd X p) 0 16) + 1) K.2.2.2) (fun q12 s13 => nd_let (K.1, (K.2.1, (K.2.2.1, s13))) (fun s15 => df_X5_pipe_58 n (nI p) (nI A) (cv (fN (fd X p) 0 16)) q12 s15)) else df_X5_pipe_58 n (nI p) (nI A) (cv (fN (fd X p) 0 16)) (-1) K := by
    unfold df_X5_pipe df_X5_pipe_0
    rw [if_pos a3, ma1', nb_b2, nb_let, if_neg (show ¬ nI 1 = (0 : Int32) by decide), l1', nb_b2, nb_let]
  generalize hd : fN (fd X p) 0 16 = d at l1' C0 c16 b2 b3 b4
  generalize ht : fpi X = t at R0 t8 t23 fp
  have cx : cN (fop X) 48 ≤ 48 := cN_le _ _
  have u4 : ∀ w : Nat, w < 2 ^ 31 → (nI w < (0 : Int32)) = False := fun w hw => by
    show (nI w < nI 0) = False
    rw [nI_ltI hw (by omega)]
    exact eq_false (by omega)
  by_cases ok : (d < 16 ∧ fN (fd X p) (d + 1) (16 - (d + 1)) < 16) ∧ t < 8 ∧ 2 ≤ cN (fop X) 48
  · obtain ⟨⟨d16, e16⟩, tt8, x2⟩ := ok
    have l2 := nk_freeLink n hn (D := K.2.2.2) (X := X) m2.1 h2 (f := d + 1) (by omega)
    generalize he : fN (fd X p) (d + 1) (16 - (d + 1)) = e at l2 e16 c16
    rw [cv_0 e16] at l2
    rw [cv_0 d16] at C0
    rw [if_pos (show (0 : Int32) ≤ nI d from (show nI 0 ≤ nI d by rw [nI_leI (by omega) (by omega)]; omega)), show nI d + 1 = nI (d + 1) from nI_add .., l2, nb_b2, nb_let] at C0
    rw [if_pos tt8] at fp
    have x2' : (2 : Int32) ≤ nI (cN (fop X) 48) := by
      show nI 2 ≤ nI (cN (fop X) 48)
      rw [nI_leI (by omega) (by omega)]
      exact x2
    have cc : ¬ cN (fd X p) 16 < 2 := by
      have := c16.mpr ⟨d16, e16⟩
      omega
    have co : ¬ 46 < cN (fun o => !fop X o) 48 := by omega
    obtain ⟨_, fa, ha, ea⟩ := ma_f m1 h2 (hm 0 (by omega))
    rw [Nat.add_zero] at ea
    obtain ⟨hz, fb, hb, eb⟩ := ma_f m1 h2 (hm 7 (by omega))
    have hA2 : A + 8 ≤ 65536 := by omega
    rw [show A + 7 = A + 8 - 1 by omega] at eb
    obtain ⟨fF, wa⟩ := nk_wanted n hn m1 h2 (A := A) (m := 8) (by omega) (by omega) hA2 ha hb ea eb
    have fu := m1.2.2.2.1
    have us := m1.2.2.2.2
    have cu := cU_le (sR X.1 16)
    have fr : df_X6_framesFree n K.2.2 = some (nI (256 - cU (sR X.1 16)), K.2.2) := by
      generalize cU (sR X.1 16) = x at fu cu
      simp (disch := (first | assumption | decide | omega)) only [df_X6_framesFree_0, df_X6_framesFree, fu, eq_self, Nat.reduceEqDiff, Nat.reduceLeDiff, nl_0, nl_256, no_1, no_1024, pk_mul, nI_add, nm_ck, nI_clamp, nI_ltI, nI_leI, nI_eq, nb_b2, nb_b1, ↓nb_let, nm_z0, nm_z1, nb_II, nb_IR, nb_RI, nb_RR, nm_IL, nm_IQ, nm_RL, nm_RQ, nm_LI, nm_LR, nm_LL, nm_LQ, nm_QI, nm_QR, nm_QL, nm_QQ, nm_rr, nm_ii, nm_eqm, not_false_eq_true, pk_sub, nm_div, nm_shl, nm_shr, nm_ush, nm_or8, nm_or64, nm_or256, nm_m1, nm_m3, nm_m7, nm_m15, nm_m31, nm_m63, nm_m255, nm_m511, nm_m1023, nm_m2047, nm_m65535, Nat.reduceMod, Nat.reducePow, Nat.reduceAdd, Nat.reduceSub, Nat.reduceMul, nm_bo, nm_bi, nm_rc, nm_ic, nm_ri, nm_rl, nm_rq, nm_ql, nm_qi, nm_li, nm_us, nm_uu, nm_cp, nm_sa31, nm_sa7, nm_m127, nm_m2, nm_nz, nm_nzk, nm_eq32, nm_nzf, if_true, if_false, ↓reduceIte, if_pos, if_neg]
    have wl : wt (sR X.1 16) (64 * p + A / 1024) (64 * p + (A + 8 - 1) / 1024) ≤ 2 := by
      unfold wt
      split <;> split <;> (try split) <;> omega
    generalize hy : wt (sR X.1 16) (64 * p + A / 1024) (64 * p + (A + 8 - 1) / 1024) = y at fF wa wl
    have hF : df_X16_hasFrames n (nI y) X = some (if 256 < cU (sR X.1 16) + y then nI 0 else nI 1, X) := by
      generalize cU (sR X.1 16) = x at us cu
      have w1 : x + y < 2 ^ 31 := by omega
      by_cases w : 256 < x + y
      · simp (disch := (first | assumption | decide | omega)) only [df_X16_hasFrames_17, df_X16_hasFrames_0, df_X16_hasFrames, us, w, eq_self, Nat.reduceEqDiff, Nat.reduceLeDiff, nl_0, nl_1, nl_6, nl_256, no_1, no_1024, pk_mul, nI_add, nm_ck, nI_clamp, nI_ltI, nI_leI, nI_eq, nb_b2, nb_b1, ↓nb_let, nm_z0, nm_z1, nb_II, nb_IR, nb_RI, nb_RR, nm_IL, nm_IQ, nm_RL, nm_RQ, nm_LI, nm_LR, nm_LL, nm_LQ, nm_QI, nm_QR, nm_QL, nm_QQ, nm_rr, nm_ii, nm_eqm, not_false_eq_true, pk_sub, nm_div, nm_shl, nm_shr, nm_ush, nm_or8, nm_or64, nm_or256, nm_m1, nm_m3, nm_m7, nm_m15, nm_m31, nm_m63, nm_m255, nm_m511, nm_m1023, nm_m2047, nm_m65535, Nat.reduceMod, Nat.reducePow, Nat.reduceAdd, Nat.reduceSub, Nat.reduceMul, nm_bo, nm_bi, nm_rc, nm_ic, nm_ri, nm_rl, nm_rq, nm_ql, nm_qi, nm_li, nm_us, nm_uu, nm_cp, nm_sa31, nm_sa7, nm_m127, nm_m2, nm_nz, nm_nzk, nm_eq32, nm_nzf, if_true, if_false, ↓reduceIte, if_pos, if_neg]
      · simp (disch := (first | assumption | decide | omega)) only [df_X16_hasFrames_17, df_X16_hasFrames_0, df_X16_hasFrames, us, w, eq_self, Nat.reduceEqDiff, Nat.reduceLeDiff, nl_0, nl_1, nl_6, nl_256, no_1, no_1024, pk_mul, nI_add, nm_ck, nI_clamp, nI_ltI, nI_leI, nI_eq, nb_b2, nb_b1, ↓nb_let, nm_z0, nm_z1, nb_II, nb_IR, nb_RI, nb_RR, nm_IL, nm_IQ, nm_RL, nm_RQ, nm_LI, nm_LR, nm_LL, nm_LQ, nm_QI, nm_QR, nm_QL, nm_QQ, nm_rr, nm_ii, nm_eqm, not_false_eq_true, pk_sub, nm_div, nm_shl, nm_shr, nm_ush, nm_or8, nm_or64, nm_or256, nm_m1, nm_m3, nm_m7, nm_m15, nm_m31, nm_m63, nm_m255, nm_m511, nm_m1023, nm_m2047, nm_m65535, Nat.reduceMod, Nat.reducePow, Nat.reduceAdd, Nat.reduceSub, Nat.reduceMul, nm_bo, nm_bi, nm_rc, nm_ic, nm_ri, nm_rl, nm_rq, nm_ql, nm_qi, nm_li, nm_us, nm_uu, nm_cp, nm_sa31, nm_sa7, nm_m127, nm_m2, nm_nz, nm_nzk, nm_eq32, nm_nzf, if_true, if_false, ↓reduceIte, if_pos, if_neg]
    have fF' : df_X6_framesFor n (nI p) (nI A) 8 K.2.2 = some (nI y, K.2.2) := fF
    have e0 : ¬ nI e < (0 : Int32) := by rw [u4 e (by omega)]; exact id
    have t0 : ¬ nI t < (0 : Int32) := by rw [u4 t (by omega)]; exact id
    rw [C0, R0]
    by_cases w : 256 < cU (sR X.1 16) + y
    · rw [if_pos w] at hF
      rw [pc_f n fp of e0 t0 x2' fF' fr (fun q => by rw [nI_leI (by omega) (by omega)] at q; omega), pr_f n h3 (by omega) (by omega) (by omega) f1 f2 cc co (by omega) wa hF]
      exact cO_f h
    · rw [if_neg w] at hF
      -- the first end
      have fo1 : fo X < 48 := (c48.mp x2).1
      have emp : df_X10_emptyPipe n (nI t) K.2.2.2 = some (pR K.2.2.2 2 (upd (upd (sR K.2.2.2 2) (t * 4) (nI 0)) (t * 4 + 3) (nI 0))) := by
        have v1 : t * 4 < 32 := by omega
        have v2 : t * 4 + 3 < 32 := by omega
        have v3 : t * 4 + 3 < 2 ^ 31 := by omega
        have v4 : t * 4 < 2 ^ 31 := by omega
        simp (disch := (first | assumption | decide | omega)) only [df_X10_emptyPipe_0, df_X10_emptyPipe, Nat.add_zero, eq_self, Nat.reduceEqDiff, Nat.reduceLeDiff, nl_0, nl_2, nl_3, nl_4, nl_32, no_1, no_1024, pk_mul, nI_add, nm_ck, nI_clamp, nI_ltI, nI_leI, nI_eq, nb_b2, nb_b1, ↓nb_let, nm_z0, nm_z1, nb_II, nb_IR, nb_RI, nb_RR, nm_IL, nm_IQ, nm_RL, nm_RQ, nm_LI, nm_LR, nm_LL, nm_LQ, nm_QI, nm_QR, nm_QL, nm_QQ, nm_rr, nm_ii, nm_eqm, not_false_eq_true, pk_sub, nm_div, nm_shl, nm_shr, nm_ush, nm_or8, nm_or64, nm_or256, nm_m1, nm_m3, nm_m7, nm_m15, nm_m31, nm_m63, nm_m255, nm_m511, nm_m1023, nm_m2047, nm_m65535, Nat.reduceMod, Nat.reducePow, Nat.reduceAdd, Nat.reduceSub, Nat.reduceMul, nm_bo, nm_bi, nm_rc, nm_ic, nm_ri, nm_rl, nm_rq, nm_ql, nm_qi, nm_li, nm_us, nm_uu, nm_cp, nm_sa31, nm_sa7, nm_m127, nm_m2, nm_nz, nm_nzk, nm_eq32, nm_nzf, if_true, if_false, ↓reduceIte, if_pos, if_neg]
      obtain ⟨D1, D2, X1, X2, q1, q2, q3, q4, q5, q6, q7, q8, q9, q10, q11⟩ := pp_end n hn h1 h2 h3 h5 (k := 1) (t := t) (d := d) (Or.inl rfl) tt8 d16 hd fo1 (pi0 := upd (upd (sR K.2.2.2 2) (t * 4) (nI 0)) (t * 4 + 3) (nI 0)) (pl0 := upd (sR X.1 26) t (nI 0)) (fun u s hu s1 s2 => by rw [nm_un (by omega), nm_un (by omega)]) (fun u hu c => by
        by_cases d : u = t
        · rw [d]
          exact ⟨0, 0, by omega, by omega, by rw [nm_un (by omega), nm_us], nm_us, nm_us, fun i hi => by omega⟩
        · obtain ⟨L, o, l1, l2, l3, l4, l5, l6⟩ := m7.1 u hu (c.resolve_left d)
          exact ⟨L, o, l1, l2, by rw [nm_un (by omega), nm_un (by omega)]; exact l3, by rw [nm_un d]; exact l4, by rw [nm_un (by omega), nm_un (by omega)]; exact l5, l6⟩)
      -- the second
      have hd2 : fN (fd X2 p) 0 16 = e := fN_nx hd d16 he e16 (fun i hi hne => by
        show decide (sR X2.1 14 (p * 16 + i) = -nI 1) = decide (sR X.1 14 (p * 16 + i) = -nI 1)
        rw [q9, nm_un (by omega)]) (by
        show decide (sR X2.1 14 (p * 16 + d) = -nI 1) = false
        rw [q9, nm_us]
        exact decide_eq_false (nk_ne (by omega)))
      have fo2 : fo X2 < 48 := by
        have z := c48.mp x2
        have := fN_nx (P := fop X) (Q := fop X2) (N := 48) rfl z.1 rfl z.2 (fun i hi hne => by
          show decide (sR X2.1 19 i ≤ nI 0) = decide (sR X.1 19 i ≤ nI 0)
          rw [q8, nm_un (show i ≠ fo X from hne)]) (by
          show decide (sR X2.1 19 (fo X) ≤ nI 0) = false
          rw [q8, nm_us]
          decide)
        have this : fo X2 = _ := this
        rw [this]
        exact z.2
      obtain ⟨k1, k2, k3, k4, k5, k6, k7⟩ := q6
      obtain ⟨D3, D4, X3, X4, r1, r2', r3, r4, r5, r6, r7, r8, r9, r10, r11⟩ := pp_end n hn q5 h2 (k3.trans h3) (by rw [q7]; exact h5) (k := 2) (t := t) (d := e) (Or.inr rfl) tt8 e16 hd2 fo2 (pi0 := sR D2 2) (pl0 := sR X2.1 26) (fun _ _ _ _ _ => rfl) (fun u hu c => q5.2.2.2.2.2.2.1 u hu (by
        rcases c with c | c
        · rw [q10, c, nm_us]
        · exact c))
      have e23 : upd (sR X2.1 23) t (nI 1) = sR X2.1 23 := by rw [q10, nm_uu]
      rw [e23, nm_r0, nm_r0] at r3
      rw [nm_r0] at r1
      obtain ⟨j1, j2, j3, j4, j5, j6, j7⟩ := r6
      have e12 : sI X4.1 12 = nI p := (j3.trans k3).trans h3
      have e16' : sI X4.1 16 = nI 0 := (j7.trans k7).trans h7
      have row : sR X4.1 16 = sR X.1 16 := r11.trans q11
      have okr := r5.2.2.2.2.1.2.2.2.2.2.2.2.2.1
      have er : sI K.2.2.1 6 = sI X4.1 4 := r5.2.2.2.2.1.2.2.2.2.2.2.2.1
      obtain ⟨M1, w', u, g, fu', fr', ho', us', z1, z2, z3, z4, z5, z6, z7, z8, z9⟩ := nk_write n hn (M := K.2.2) (X := X4) r5.1 (p := p) (a := A) (m := 8) h2 (by omega) (by omega) hA2 ha hb (by rw [row]; exact ea) (by rw [row]; exact eb) (by rw [row, hy]; omega) okr (Or.inl e16')
      rw [own_pg n (p := p) (show A + 8 - 1 < 65536 by omega) (show A + 4 < 65536 by omega) (by omega) M1] at z2
      obtain ⟨fa', hfa, efa, cfa⟩ := z4 0 (by omega)
      rw [Nat.add_zero] at efa
      obtain ⟨fb', hfb, efb, cfb⟩ := z4 4 (by omega)
      have y1 := nk_cput n (M := (K.2.2.1, D4)) z3 h2 (show A < 65536 by omega) hfa efa (mk 2) (nI d)
      have y2 := rQ_put z3 (show 64 * p + A / 1024 < 1024 by omega) hfa efa cfa (show A / 4 % 256 < 256 by omega) (pw (sR X4.1 15 ((64 * p + A / 1024) * 256 + A / 4 % 256)) (8 * (A % 4)) (mk 2) (nI d))
      have y3 := nk_cput n (M := (K.2.2.1, D4)) y2 h2 (show A + 4 < 65536 by omega) hfb efb (mk 2) (nI e)
      have y4 := rQ_put y2 (show 64 * p + (A + 4) / 1024 < 1024 by omega) hfb efb cfb (show (A + 4) / 4 % 256 < 256 by omega) (pw (upd (sR X4.1 15) ((64 * p + A / 1024) * 256 + A / 4 % 256) (pw (sR X4.1 15 ((64 * p + A / 1024) * 256 + A / 4 % 256)) (8 * (A % 4)) (mk 2) (nI d)) ((64 * p + (A + 4) / 1024) * 256 + (A + 4) / 4 % 256)) (8 * ((A + 4) % 4)) (mk 2) (nI e))
      rw [← pbs_8 (sR X4.1 15) al (nI d) (nI e)] at y4
      generalize upd w' (fa' * 256 + A / 4 % 256) (pw (sR X4.1 15 ((64 * p + A / 1024) * 256 + A / 4 % 256)) (8 * (A % 4)) (mk 2) (nI d)) = w1 at y1 y3 y4
      generalize upd w1 (fb' * 256 + (A + 4) / 4 % 256) (pw (upd (sR X4.1 15) ((64 * p + A / 1024) * 256 + A / 4 % 256) (pw (sR X4.1 15 ((64 * p + A / 1024) * 256 + A / 4 % 256)) (8 * (A % 4)) (mk 2) (nI d)) ((64 * p + (A + 4) / 1024) * 256 + (A + 4) / 4 % 256)) (8 * ((A + 4) % 4)) (mk 2) (nI e)) = w2 at y3 y4
      have nt := nk_note n (M := mU (K.2.2.1, D4) w2 u g fu') (re := sI X4.1 4) er okr h2 hA2 (by omega) (by omega)
      have hre : okR (rvs (sI X4.1 4) A 8) := okR_rvs okr A 8
      have rm := rM_wrote r5 (wn := nI (p * 67108864 + A * 1024 + 8)) (wr := wvs X4 (sI X4.1 16) p A 8) y4 hre (fun j hj => ⟨fun z => by
        by_cases c : sR X4.1 16 j = -nI 1
        · exact c
        · exact absurd z (z7 j hj c), fun z => z6 j z hj⟩)
      have pr := pp_R n (by omega) (d := d) (e := e) e12 rfl (z5 _) (z9 _)
      have ew : wvs X4 (sI X4.1 16) p A 8 = wvs X (nI 0) p A 8 := by rw [e16', wvs_c (j5.trans k5) (j6.trans k6)]
      rw [ew] at rm pr
      generalize hwr : wvs X (nI 0) p A 8 = wr at rm pr
      have c1 := pc_1 n (x1 := nI p) (x2 := nI A) (x3 := nI d) (y0 := nI e) fp of e0 t0 x2' fF' fr (by rw [nI_leI (by omega) (by omega)]; omega) z1 (show df_X6_own n (nI p) (nI A + 4) M1 = _ from (show nI A + 4 = nI (A + 4) from nI_add ..) ▸ z2) (show df_X10_emptyPipe n (nI t) (mU K.2.2 w' u g fu').2 = _ from emp) q1 q2 r1 r2' (show df_X6_put n (nI p) (nI A) (-1) (nI d) ((mU K.2.2 w' u g fu').1, D4) = _ from y1) (show df_X6_put n (nI p) (nI A + 4) (-1) (nI e) _ = _ from (show nI A + 4 = nI (A + 4) from nI_add ..) ▸ y3) nt
      have c2 := pr_1 n h3 (by omega) (by omega) tt8 f1 f2 cc co wa hF q3 q4 r3 r4
      rw [show (K.1, (K.2.1, (K.2.2.1, K.2.2.2))) = K from rfl, c1, c2, pr]
      refine ⟨0, nI 0, K.1, _, _, rfl, rfl, rm, fun _ => rfl, Or.inl ⟨(j4.trans k4).trans h4, by decide⟩, ⟨j1.trans k1, j2.trans k2, j3.trans k3, j5.trans k5, j6.trans k6⟩, Or.inr ⟨A, 8, by omega, by omega, hA2, rfl, hwr.symm⟩, fun _ => (congrFun (r7.trans q7) p).trans h5, fun y => absurd (((j4.trans k4).trans h4).symm.trans y) (by decide)⟩
  · have R4 : df_X16_pipe n (nI A) X = some (-nI 4, X) := by
      rw [R0]
      refine pr_4 n (by omega) (by omega) (by omega) f1 f2 ?_
      by_cases c : 2 ≤ cN (fd X p) 16
      · by_cases c' : t < 8
        · have : ¬ 2 ≤ cN (fop X) 48 := fun z => ok ⟨c16.mp c, c', z⟩
          omega
        · omega
      · omega
    have C4 : df_X5_pipe n (nI p) (nI A) K = some (-4, K) := by
      rw [C0]
      by_cases d16 : d < 16
      · have l2 := nk_freeLink n hn (D := K.2.2.2) (X := X) m2.1 h2 (f := d + 1) (by omega)
        rw [cv_0 d16, if_pos (show (0 : Int32) ≤ nI d from (show nI 0 ≤ nI d by rw [nI_leI (by omega) (by omega)]; omega)), show nI d + 1 = nI (d + 1) from nI_add .., l2, nb_b2, nb_let]
        refine pc_58 n (K := K) fp of (by omega) ?_
        by_cases e16 : fN (fd X p) (d + 1) (16 - (d + 1)) < 16
        · by_cases c' : t < 8
          · exact Or.inr (Or.inr (fun z => ok ⟨⟨d16, e16⟩, c', z⟩))
          · rw [if_neg c']
            exact Or.inr (Or.inl (by decide))
        · rw [cv_1 e16]
          exact Or.inl (by decide)
      · rw [cv_1 d16, if_neg (by decide)]
        exact pc_58 n (K := K) fp of (by omega) (Or.inl (by decide))
    exact ans (-4) (-nI 4) (by decide) C4 R4

theorem cN_or (P Q : Nat → Bool) : ∀ N : Nat, cN (fun k => P k || Q k) N ≤ cN P N + cN Q N
  | 0 => Nat.le_refl 0
  | N + 1 => by
    have ih := cN_or P Q N
    rw [cN_s, cN_s, cN_s]
    cases P N <;> cases Q N <;> simp only [Bool.or_true, Bool.or_false, Bool.toNat_true, Bool.toNat_false] <;> omega
theorem cN_lt (a : Nat) : ∀ N : Nat, cN (fun k => decide (k < a)) N ≤ a ∧ cN (fun k => decide (k < a)) N ≤ N
  | 0 => ⟨Nat.zero_le a, Nat.le_refl 0⟩
  | N + 1 => by
    have ih := cN_lt a N
    rw [cN_s]
    by_cases c : N < a
    · rw [decide_eq_true c]
      show cN (fun k => decide (k < a)) N + 1 ≤ a ∧ cN (fun k => decide (k < a)) N + 1 ≤ N + 1
      omega
    · rw [decide_eq_false c]
      show cN (fun k => decide (k < a)) N + 0 ≤ a ∧ cN (fun k => decide (k < a)) N + 0 ≤ N + 1
      omega
/-- one page less -/
theorem cU_rm {fr : Nat → Int32} {i f : Nat} (hi : i < 1024) (hf : f < 256) (e : fr i = nI f) : cU fr ≤ cU (upd fr i (-nI 1)) + 1 ∧ (1 < cF fr f → cU fr ≤ cU (upd fr i (-nI 1))) := by
  obtain ⟨c1, c2⟩ := cF_leave hi hf e
  have u := cU_ch (fr := fr) (fs := upd fr i (-nI 1)) hf c1
  have l : ∀ b : Bool, b.toNat ≤ 1 := fun b => by cases b <;> decide
  have l1 := l (decide (0 < cF fr f))
  have l2 := l (decide (0 < cF (upd fr i (-nI 1)) f))
  rw [decide_eq_true (show 0 < cF fr f by omega)] at u
  have u : cU (upd fr i (-nI 1)) + 1 = cU fr + (decide (0 < cF (upd fr i (-nI 1)) f)).toNat := u
  refine ⟨by omega, fun z => ?_⟩
  rw [decide_eq_true (show 0 < cF (upd fr i (-nI 1)) f by omega)] at u
  have u : cU (upd fr i (-nI 1)) + 1 = cU fr + 1 := u
  omega
/-- pages that were not there want a frame each, at the most -/
theorem cU_more {fr0 : Nat → Int32} {s : Nat} : ∀ (m : Nat) (fr : Nat → Int32), s + m ≤ 1024 → (∀ i : Nat, ¬ (s ≤ i ∧ i < s + m) → fr i = fr0 i) → (∀ k : Nat, k < m → fr0 (s + k) = -nI 1) → (∀ k : Nat, k < m → fr (s + k) = -nI 1 ∨ ∃ f : Nat, f < 256 ∧ fr (s + k) = nI f) → cU fr ≤ cU fr0 + cN (fun k => decide (¬ fr (s + k) = -nI 1)) m
  | 0, fr, _, h1, _, _ => by
    have : fr = fr0 := funext (fun i => h1 i (by omega))
    rw [this]
    exact Nat.le_add_right _ _
  | m + 1, fr, hs, h1, h2, h3 => by
    have ih := cU_more (fr0 := fr0) (s := s) m (upd fr (s + m) (-nI 1)) (by omega) (fun i hi => by
      by_cases c : i = s + m
      · rw [c, nm_us]; exact (h2 m (by omega)).symm
      · rw [nm_un c]; exact h1 i (by omega)) (fun k hk => h2 k (by omega)) (fun k hk => by rw [nm_un (by omega)]; exact h3 k (by omega))
    have ec : cN (fun k => decide (¬ upd fr (s + m) (-nI 1) (s + k) = -nI 1)) m = cN (fun k => decide (¬ fr (s + k) = -nI 1)) m := cN_c (fun k hk => by rw [nm_un (by omega)])
    rw [ec] at ih
    rw [cN_s]
    rcases h3 m (by omega) with z | ⟨f, hf, z⟩
    · have e : upd fr (s + m) (-nI 1) = fr := by
        funext i
        by_cases c : i = s + m
        · rw [c, nm_us, z]
        · rw [nm_un c]
      rw [e] at ih
      exact Nat.le_trans ih (Nat.add_le_add_left (Nat.le_add_right _ _) _)
    · have r := (cU_rm (fr := fr) (i := s + m) (by omega) hf z).1
      rw [decide_eq_true (show ¬ fr (s + m) = -nI 1 by rw [z]; exact nk_ne (by omega))]
      show _ ≤ cU fr0 + (cN (fun k => decide (¬ fr (s + k) = -nI 1)) m + 1)
      omega
/-- and where they took as many as they are, no two share one -/
theorem cF_lone {fr0 fr : Nat → Int32} {s m c : Nat} (hs : s + m ≤ 1024) (h1 : ∀ i : Nat, ¬ (s ≤ i ∧ i < s + m) → fr i = fr0 i) (h2 : ∀ k : Nat, k < m → fr0 (s + k) = -nI 1) (h3 : ∀ k : Nat, k < m → fr (s + k) = -nI 1 ∨ ∃ f : Nat, f < 256 ∧ fr (s + k) = nI f) (hc : cN (fun k => decide (¬ fr (s + k) = -nI 1)) m ≤ c) (hu : cU fr = cU fr0 + c) {k f : Nat} (hk : k < m) (hf : f < 256) (e : fr (s + k) = nI f) : cF fr f = 1 := by
  have p0 := cF_pos (fr := fr) (i := s + k) (by omega) e
  by_cases z : 1 < cF fr f
  · exfalso
    have r := (cU_rm (fr := fr) (i := s + k) (by omega) hf e).2 z
    have mo := cU_more (fr0 := fr0) (s := s) m (upd fr (s + k) (-nI 1)) hs (fun i hi => by rw [nm_un (by omega)]; exact h1 i hi) h2 (fun j hj => by
      by_cases c : j = k
      · rw [c, nm_us]; exact Or.inl rfl
      · rw [nm_un (by omega)]; exact h3 j hj)
    have u := cN_u (P := fun j => decide (¬ fr (s + j) = -nI 1)) (Q := fun j => decide (¬ upd fr (s + k) (-nI 1) (s + j) = -nI 1)) (j := k) (fun i hi => by rw [nm_un (by omega)]) (N := m) hk
    rw [nm_us, decide_eq_true (show ¬ fr (s + k) = -nI 1 by rw [e]; exact nk_ne (by omega)), decide_eq_false (show ¬ ¬ (-nI 1 : Int32) = -nI 1 from fun y => y rfl)] at u
    have u : cN (fun j => decide (¬ upd fr (s + k) (-nI 1) (s + j) = -nI 1)) m + 1 = cN (fun j => decide (¬ fr (s + j) = -nI 1)) m + 0 := u
    omega
  · omega
/-- pages that go leave no more frames in use -/
theorem cU_drop {fr fr' : Nat → Int32} (h : ∀ i : Nat, fr' i = -nI 1 ∨ fr' i = fr i) : cU fr' ≤ cU fr := cN_mono (fun f hf z => by
  have z := of_decide_eq_true z
  obtain ⟨i, hi, e⟩ := cN_ex (P := fun i => decide (fr' i = nI f)) z
  have e := of_decide_eq_true e
  rcases h i with y | y
  · exact absurd (e.symm.trans y) (nk_ne (by omega))
  · exact decide_eq_true (cF_pos (i := i) hi (y.symm.trans e)))
/-- bytes of a word that are put one after the other: in which order doesn't matter -/
theorem pw_ne (x v : Int32) {a b : Nat} (ha : a < 4) (hb : b < 4) (h : a ≠ b) : pw (pw x (8 * a) (nI 255) v) (8 * b) (nI 255) (nI 0) = pw (pw x (8 * b) (nI 255) (nI 0)) (8 * a) (nI 255) v := by
  have ha : a = 0 ∨ a = 1 ∨ a = 2 ∨ a = 3 := by omega
  have hb : b = 0 ∨ b = 1 ∨ b = 2 ∨ b = 3 := by omega
  unfold pw
  rcases ha with e | e | e | e <;> rcases hb with d | d | d | d <;> first | (exfalso; omega) | (rw [e, d]; simp only [Nat.mul_zero, Nat.reduceMul]; (apply gb_ext; apply all32; simp (disch := decide) only [gb_or, gb_and, gb_xor, gb_shl, gb_shr, gb_ush, gb_n, gb_m, gb_hi, Nat.reduceAdd, Nat.reduceSub, Nat.reduceLT, Nat.reduceLeDiff, Nat.testBit, Nat.reduceShiftRight, Nat.reduceBNe, Nat.reduceAnd, Nat.one_and_eq_mod_two, Nat.reduceMod, decide_true, decide_false, Bool.and_true, Bool.true_and, Bool.and_false, Bool.false_and, Bool.or_false, Bool.false_or, Bool.or_true, Bool.true_or, Bool.not_true, Bool.not_false, Bool.xor_true, Bool.xor_false, Bool.true_xor, Bool.false_xor, if_true, if_false, ↓reduceIte, and_self, bne_self_eq_false, Bool.or_self, Bool.and_self, Bool.not_not]))
/-- a byte that is nothing -/
def zb (b : Nat → Int32) (A : Nat) : Prop := pw (b (A / 4)) (8 * (A % 4)) (nI 255) (nI 0) = b (A / 4)
theorem zb_0 {b : Nat → Int32} {A : Nat} (h : b (A / 4) = nI 0) : zb b A := by
  unfold zb
  rw [h]
  have : A % 4 = 0 ∨ A % 4 = 1 ∨ A % 4 = 2 ∨ A % 4 = 3 := by omega
  rcases this with e | e | e | e <;> (rw [e]; decide)
theorem zb_p {b : Nat → Int32} {A : Nat} (h : zb b A) : pb b A (nI 0) = b := by
  unfold zb at h
  unfold pb
  rw [h]
  funext j
  by_cases c : j = A / 4
  · rw [c, nm_us]
  · rw [nm_un c]
theorem zb_k {b : Nat → Int32} {A C : Nat} (h : zb b C) (hne : A ≠ C) (v : Int32) : zb (pb b A v) C := by
  unfold zb at h ⊢
  unfold pb
  by_cases c : C / 4 = A / 4
  · rw [c, nm_us]
    rw [c] at h
    rw [pw_ne _ _ (by omega) (by omega) (by omega), h]
  · rw [nm_un c]
    exact h
theorem b8_and : ∀ z : Fin 256, (vp_nar .byte ((nI z.1).toInt8.toInt32)) &&& nI 255 = nI z.1 &&& nI 255 := by decide +kernel
theorem b8_zz : ∀ z : Fin 256, (vp_nar .byte ((nI z.1).toInt8.toInt32)) = nI 0 ↔ nI z.1 = nI 0 := by decide +kernel
theorem pb_b8 {s u : Int32} (h : b8 s u) (b : Nat → Int32) (A : Nat) : pb b A s = pb b A u := by
  obtain ⟨z, hz, e1, e2⟩ := h
  unfold pb pw
  rw [e1, e2, b8_and ⟨z, hz⟩]
theorem b8_n0 {s u : Int32} (h : b8 s u) : s = nI 0 ↔ u = nI 0 := by
  obtain ⟨z, hz, e1, e2⟩ := h
  rw [e1, e2]
  exact b8_zz ⟨z, hz⟩

/-- a program: the class's contents, and the reference's of that number -/
def rPg (P Q : St) (v T Z : Nat) : Prop := T ≤ 32768 ∧ Z ≤ 32768 ∧ (Z = T ∨ (T + 1023) / 1024 * 1024 < Z) ∧ sI P 0 = nI T ∧ sI P 1 = nI ((T + 1023) / 1024 * 1024) ∧ sI P 2 = nI Z ∧ sR Q 1 v = nI T ∧ sR Q 2 v = nI ((T + 1023) / 1024 * 1024) ∧ sR Q 3 v = nI Z ∧ ∀ i : Nat, i < Z → ∃ u : Int32, b8 (sR P 0 i) u ∧ ∀ n : Nat, df_X17_byteAt n (nI v) (nI i) Q = some (u, Q)
/-- how many pages its data take -/
def dpg (T Z : Nat) : Nat := (Z - (T + 1023) / 1024 * 1024 + 1023) / 1024
theorem lp_t (n : Nat) {P Q : St} {v T Z : Nat} (h : rPg P Q v T Z) : df_X8_textPages n P = some (nI ((T + 1023) / 1024), P) := by
  obtain ⟨h1, h2, h3, h4, h5, h6, h7, h8, h9, h10⟩ := h
  have s1 : T + 1024 - 1 = T + 1023 := by omega
  have u1 : T + 1023 < 2 ^ 31 := by omega
  simp (disch := (first | assumption | decide | omega)) only [df_X8_textPages_0, df_X8_textPages, h4, s1, eq_self, Nat.reduceEqDiff, Nat.reduceLeDiff, nl_0, nl_1, nl_1024, no_1, no_1024, pk_mul, nI_add, nm_ck, nI_clamp, nI_ltI, nI_leI, nI_eq, nb_b2, nb_b1, ↓nb_let, nm_z0, nm_z1, nb_II, nb_IR, nb_RI, nb_RR, nm_IL, nm_IQ, nm_RL, nm_RQ, nm_LI, nm_LR, nm_LL, nm_LQ, nm_QI, nm_QR, nm_QL, nm_QQ, nm_rr, nm_ii, nm_eqm, not_false_eq_true, pk_sub, nm_div, nm_shl, nm_shr, nm_ush, nm_or8, nm_or64, nm_or256, nm_m1, nm_m3, nm_m7, nm_m15, nm_m31, nm_m63, nm_m255, nm_m511, nm_m1023, nm_m2047, nm_m65535, Nat.reduceMod, Nat.reducePow, Nat.reduceAdd, Nat.reduceSub, Nat.reduceMul, nm_bo, nm_bi, nm_rc, nm_ic, nm_ri, nm_rl, nm_rq, nm_ql, nm_qi, nm_li, nm_us, nm_uu, nm_cp, nm_sa31, nm_sa7, nm_m127, nm_m2, nm_nz, nm_nzk, nm_eq32, nm_nzf, if_true, if_false, ↓reduceIte, if_pos, if_neg]
theorem lp_d (n : Nat) {P Q : St} {v T Z : Nat} (h : rPg P Q v T Z) : df_X8_dataPages n P = some (nI (dpg T Z), P) := by
  obtain ⟨h1, h2, h3, h4, h5, h6, h7, h8, h9, h10⟩ := h
  unfold dpg
  generalize hD : (T + 1023) / 1024 * 1024 = D at h5
  have d1 : D ≤ 32768 := by omega
  by_cases c : Z ≤ D
  · have e : (Z - D + 1023) / 1024 = 0 := by omega
    rw [e]
    simp (disch := (first | assumption | decide | omega)) only [df_X8_dataPages_34, df_X8_dataPages_0, df_X8_dataPages, h5, h6, c, eq_self, Nat.reduceEqDiff, Nat.reduceLeDiff, nl_0, nl_1, nl_2, nl_1024, no_1, no_1024, pk_mul, nI_add, nm_ck, nI_clamp, nI_ltI, nI_leI, nI_eq, nb_b2, nb_b1, ↓nb_let, nm_z0, nm_z1, nb_II, nb_IR, nb_RI, nb_RR, nm_IL, nm_IQ, nm_RL, nm_RQ, nm_LI, nm_LR, nm_LL, nm_LQ, nm_QI, nm_QR, nm_QL, nm_QQ, nm_rr, nm_ii, nm_eqm, not_false_eq_true, pk_sub, nm_div, nm_shl, nm_shr, nm_ush, nm_or8, nm_or64, nm_or256, nm_m1, nm_m3, nm_m7, nm_m15, nm_m31, nm_m63, nm_m255, nm_m511, nm_m1023, nm_m2047, nm_m65535, Nat.reduceMod, Nat.reducePow, Nat.reduceAdd, Nat.reduceSub, Nat.reduceMul, nm_bo, nm_bi, nm_rc, nm_ic, nm_ri, nm_rl, nm_rq, nm_ql, nm_qi, nm_li, nm_us, nm_uu, nm_cp, nm_sa31, nm_sa7, nm_m127, nm_m2, nm_nz, nm_nzk, nm_eq32, nm_nzf, if_true, if_false, ↓reduceIte, if_pos, if_neg]
  · have s1 : Z - D + 1024 - 1 = Z - D + 1023 := by omega
    have u1 : Z - D + 1023 < 2 ^ 31 := by omega
    have u2 : D ≤ Z := by omega
    simp (disch := (first | assumption | decide | omega)) only [df_X8_dataPages_34, df_X8_dataPages_0, df_X8_dataPages, h5, h6, c, s1, eq_self, Nat.reduceEqDiff, Nat.reduceLeDiff, nl_0, nl_1, nl_2, nl_1024, no_1, no_1024, pk_mul, nI_add, nm_ck, nI_clamp, nI_ltI, nI_leI, nI_eq, nb_b2, nb_b1, ↓nb_let, nm_z0, nm_z1, nb_II, nb_IR, nb_RI, nb_RR, nm_IL, nm_IQ, nm_RL, nm_RQ, nm_LI, nm_LR, nm_LL, nm_LQ, nm_QI, nm_QR, nm_QL, nm_QQ, nm_rr, nm_ii, nm_eqm, not_false_eq_true, pk_sub, nm_div, nm_shl, nm_shr, nm_ush, nm_or8, nm_or64, nm_or256, nm_m1, nm_m3, nm_m7, nm_m15, nm_m31, nm_m63, nm_m255, nm_m511, nm_m1023, nm_m2047, nm_m65535, Nat.reduceMod, Nat.reducePow, Nat.reduceAdd, Nat.reduceSub, Nat.reduceMul, nm_bo, nm_bi, nm_rc, nm_ic, nm_ri, nm_rl, nm_rq, nm_ql, nm_qi, nm_li, nm_us, nm_uu, nm_cp, nm_sa31, nm_sa7, nm_m127, nm_m2, nm_nz, nm_nzk, nm_eq32, nm_nzf, if_true, if_false, ↓reduceIte, if_pos, if_neg]
theorem lp_h (n : Nat) {P Q : St} {v T Z : Nat} (h : rPg P Q v T Z) : df_X8_heapStart n P = some (nI ((Z + 1023) / 1024 * 1024), P) := by
  obtain ⟨h1, h2, h3, h4, h5, h6, h7, h8, h9, h10⟩ := h
  have s1 : Z + 1024 - 1 = Z + 1023 := by omega
  have u1 : Z + 1023 < 2 ^ 31 := by omega
  simp (disch := (first | assumption | decide | omega)) only [df_X8_heapStart_0, df_X8_heapStart, h6, s1, eq_self, Nat.reduceEqDiff, Nat.reduceLeDiff, nl_1, nl_2, nl_1024, no_1, no_1024, pk_mul, nI_add, nm_ck, nI_clamp, nI_ltI, nI_leI, nI_eq, nb_b2, nb_b1, ↓nb_let, nm_z0, nm_z1, nb_II, nb_IR, nb_RI, nb_RR, nm_IL, nm_IQ, nm_RL, nm_RQ, nm_LI, nm_LR, nm_LL, nm_LQ, nm_QI, nm_QR, nm_QL, nm_QQ, nm_rr, nm_ii, nm_eqm, not_false_eq_true, pk_sub, nm_div, nm_shl, nm_shr, nm_ush, nm_or8, nm_or64, nm_or256, nm_m1, nm_m3, nm_m7, nm_m15, nm_m31, nm_m63, nm_m255, nm_m511, nm_m1023, nm_m2047, nm_m65535, Nat.reduceMod, Nat.reducePow, Nat.reduceAdd, Nat.reduceSub, Nat.reduceMul, nm_bo, nm_bi, nm_rc, nm_ic, nm_ri, nm_rl, nm_rq, nm_ql, nm_qi, nm_li, nm_us, nm_uu, nm_cp, nm_sa31, nm_sa7, nm_m127, nm_m2, nm_nz, nm_nzk, nm_eq32, nm_nzf, if_true, if_false, ↓reduceIte, if_pos, if_neg]
theorem lp_p (n : Nat) {P Q : St} {v T Z : Nat} (h : rPg P Q v T Z) : df_X6_pagesFor n P = some (nI ((T + 1023) / 1024 + dpg T Z + 4), P) := by
  have t := lp_t n h
  have d := lp_d n h
  generalize (T + 1023) / 1024 = a at t
  generalize dpg T Z = b at d
  simp (disch := (first | assumption | decide | omega)) only [df_X6_pagesFor_0, df_X6_pagesFor, t, d, eq_self, Nat.reduceEqDiff, Nat.reduceLeDiff, nl_4, no_1, no_1024, pk_mul, nI_add, nm_ck, nI_clamp, nI_ltI, nI_leI, nI_eq, nb_b2, nb_b1, ↓nb_let, nm_z0, nm_z1, nb_II, nb_IR, nb_RI, nb_RR, nm_IL, nm_IQ, nm_RL, nm_RQ, nm_LI, nm_LR, nm_LL, nm_LQ, nm_QI, nm_QR, nm_QL, nm_QQ, nm_rr, nm_ii, nm_eqm, not_false_eq_true, pk_sub, nm_div, nm_shl, nm_shr, nm_ush, nm_or8, nm_or64, nm_or256, nm_m1, nm_m3, nm_m7, nm_m15, nm_m31, nm_m63, nm_m255, nm_m511, nm_m1023, nm_m2047, nm_m65535, Nat.reduceMod, Nat.reducePow, Nat.reduceAdd, Nat.reduceSub, Nat.reduceMul, nm_bo, nm_bi, nm_rc, nm_ic, nm_ri, nm_rl, nm_rq, nm_ql, nm_qi, nm_li, nm_us, nm_uu, nm_cp, nm_sa31, nm_sa7, nm_m127, nm_m2, nm_nz, nm_nzk, nm_eq32, nm_nzf, if_true, if_false, ↓reduceIte, if_pos, if_neg]
theorem lq_s (n : Nat) {P Q : St} {v T Z : Nat} (hv : v < 4) (h : rPg P Q v T Z) : df_X17_dataSize n (nI v) Q = some (nI (Z - (T + 1023) / 1024 * 1024), Q) := by
  obtain ⟨h1, h2, h3, h4, h5, h6, h7, h8, h9, h10⟩ := h
  have u0 : v < 2 ^ 31 := by omega
  generalize hD : (T + 1023) / 1024 * 1024 = D at h8
  have d1 : D ≤ 32768 := by omega
  by_cases c : Z ≤ D
  · have e : Z - D = 0 := by omega
    rw [e]
    simp (disch := (first | assumption | decide | omega)) only [df_X17_dataSize_32, df_X17_dataSize_0, df_X17_dataSize, h8, h9, c, eq_self, Nat.reduceEqDiff, Nat.reduceLeDiff, nl_0, nl_2, nl_3, nl_4, no_1, no_1024, pk_mul, nI_add, nm_ck, nI_clamp, nI_ltI, nI_leI, nI_eq, nb_b2, nb_b1, ↓nb_let, nm_z0, nm_z1, nb_II, nb_IR, nb_RI, nb_RR, nm_IL, nm_IQ, nm_RL, nm_RQ, nm_LI, nm_LR, nm_LL, nm_LQ, nm_QI, nm_QR, nm_QL, nm_QQ, nm_rr, nm_ii, nm_eqm, not_false_eq_true, pk_sub, nm_div, nm_shl, nm_shr, nm_ush, nm_or8, nm_or64, nm_or256, nm_m1, nm_m3, nm_m7, nm_m15, nm_m31, nm_m63, nm_m255, nm_m511, nm_m1023, nm_m2047, nm_m65535, Nat.reduceMod, Nat.reducePow, Nat.reduceAdd, Nat.reduceSub, Nat.reduceMul, nm_bo, nm_bi, nm_rc, nm_ic, nm_ri, nm_rl, nm_rq, nm_ql, nm_qi, nm_li, nm_us, nm_uu, nm_cp, nm_sa31, nm_sa7, nm_m127, nm_m2, nm_nz, nm_nzk, nm_eq32, nm_nzf, if_true, if_false, ↓reduceIte, if_pos, if_neg]
  · have u2 : D ≤ Z := by omega
    simp (disch := (first | assumption | decide | omega)) only [df_X17_dataSize_32, df_X17_dataSize_0, df_X17_dataSize, h8, h9, c, eq_self, Nat.reduceEqDiff, Nat.reduceLeDiff, nl_0, nl_2, nl_3, nl_4, no_1, no_1024, pk_mul, nI_add, nm_ck, nI_clamp, nI_ltI, nI_leI, nI_eq, nb_b2, nb_b1, ↓nb_let, nm_z0, nm_z1, nb_II, nb_IR, nb_RI, nb_RR, nm_IL, nm_IQ, nm_RL, nm_RQ, nm_LI, nm_LR, nm_LL, nm_LQ, nm_QI, nm_QR, nm_QL, nm_QQ, nm_rr, nm_ii, nm_eqm, not_false_eq_true, pk_sub, nm_div, nm_shl, nm_shr, nm_ush, nm_or8, nm_or64, nm_or256, nm_m1, nm_m3, nm_m7, nm_m15, nm_m31, nm_m63, nm_m255, nm_m511, nm_m1023, nm_m2047, nm_m65535, Nat.reduceMod, Nat.reducePow, Nat.reduceAdd, Nat.reduceSub, Nat.reduceMul, nm_bo, nm_bi, nm_rc, nm_ic, nm_ri, nm_rl, nm_rq, nm_ql, nm_qi, nm_li, nm_us, nm_uu, nm_cp, nm_sa31, nm_sa7, nm_m127, nm_m2, nm_nz, nm_nzk, nm_eq32, nm_nzf, if_true, if_false, ↓reduceIte, if_pos, if_neg]
theorem lq_p (n : Nat) {P : St} {X : St × St} {v T Z : Nat} (hv : v < 4) (h : rPg P X.2 v T Z) : df_X16_pagesOf n (nI v) X = some (nI ((T + 1023) / 1024 + dpg T Z + 4), X) := by
  have d := lq_s n hv h
  obtain ⟨h1, h2, h3, h4, h5, h6, h7, h8, h9, h10⟩ := h
  have u0 : v < 2 ^ 31 := by omega
  unfold dpg
  have hD : Z - (T + 1023) / 1024 * 1024 ≤ 32768 := by omega
  generalize Z - (T + 1023) / 1024 * 1024 = a at d hD
  have u1 : T + 1023 < 2 ^ 31 := by omega
  have u2 : a + 1023 < 2 ^ 31 := by omega
  simp (disch := (first | assumption | decide | omega)) only [df_X16_pagesOf_0, df_X16_pagesOf, d, h7, eq_self, Nat.reduceEqDiff, Nat.reduceLeDiff, nl_1, nl_4, nl_1023, nl_1024, no_1, no_1024, pk_mul, nI_add, nm_ck, nI_clamp, nI_ltI, nI_leI, nI_eq, nb_b2, nb_b1, ↓nb_let, nm_z0, nm_z1, nb_II, nb_IR, nb_RI, nb_RR, nm_IL, nm_IQ, nm_RL, nm_RQ, nm_LI, nm_LR, nm_LL, nm_LQ, nm_QI, nm_QR, nm_QL, nm_QQ, nm_rr, nm_ii, nm_eqm, not_false_eq_true, pk_sub, nm_div, nm_shl, nm_shr, nm_ush, nm_or8, nm_or64, nm_or256, nm_m1, nm_m3, nm_m7, nm_m15, nm_m31, nm_m63, nm_m255, nm_m511, nm_m1023, nm_m2047, nm_m65535, Nat.reduceMod, Nat.reducePow, Nat.reduceAdd, Nat.reduceSub, Nat.reduceMul, nm_bo, nm_bi, nm_rc, nm_ic, nm_ri, nm_rl, nm_rq, nm_ql, nm_qi, nm_li, nm_us, nm_uu, nm_cp, nm_sa31, nm_sa7, nm_m127, nm_m2, nm_nz, nm_nzk, nm_eq32, nm_nzf, if_true, if_false, ↓reduceIte, if_pos, if_neg]
/-- a byte of the reference is put -/
theorem nk_put2 (n : Nat) {X : St × St} {b fr ri ho : Nat → Int32} {us : Int32} {p a : Nat} (hp : p < 16) (ha : a < 65536) (v : Int32) : df_X16_put n (nI (65536 * p + a)) v (xU X b fr ri ho us) = some (xU X (pb b (65536 * p + a) v) fr ri ho us) := by
  have hs : 8 * ((65536 * p + a) % 4) % 32 = 8 * ((65536 * p + a) % 4) := by omega
  simp (disch := omega) only [df_X16_put_0, df_X16_put, xU, pb, pw, hs, nm_rc (a := 16) (b := 15) (by decide), nm_rc (a := 17) (b := 15) (by decide), nm_rc (a := 17) (b := 16) (by decide), nm_rc (a := 18) (b := 15) (by decide), nm_rc (a := 18) (b := 16) (by decide), nm_rc (a := 18) (b := 17) (by decide), nl_1, nl_2, nl_3, nl_8, nl_15, nl_31, nl_255, nl_262144, no_1, no_1024, pk_mul, nI_add, nm_ck, nI_clamp, nI_ltI, nI_leI, nI_eq, nb_b2, nb_b1, nb_let, nm_z0, nm_z1, nb_II, nb_IR, nb_RI, nb_RR, nm_IL, nm_IQ, nm_RL, nm_RQ, nm_LI, nm_LR, nm_LL, nm_LQ, nm_QI, nm_QR, nm_QL, nm_QQ, nm_rr, nm_ii, nm_eqm, not_false_eq_true, pk_sub, nm_div, nm_shl, nm_shr, nm_ush, nm_or8, nm_or64, nm_or256, nm_m1, nm_m3, nm_m7, nm_m15, nm_m31, nm_m63, nm_m255, nm_m511, nm_m1023, nm_m2047, nm_m65535, Nat.reduceMod, Nat.reducePow, Nat.reduceAdd, Nat.reduceSub, Nat.reduceMul, nm_bo, nm_bi, nm_rc, nm_ic, nm_ri, nm_rl, nm_rq, nm_ql, nm_qi, nm_li, nm_us, nm_uu, nm_cp, nm_sa31, nm_sa7, nm_m127, nm_m2, nm_nz, nm_nzk, nm_eq32, nm_nzf, if_true, if_false, ↓reduceIte, if_pos, if_neg]
/-- the image is put, byte after byte -/
theorem ld_puts (n : Nat) (hn : 40000 < n) {M Y : St × St} {P s0 : St} {p v T Z : Nat} {w u g b fr ri ho : Nat → Int32} {fu us : Int32} (rq : rQ w u g b fr ri ho fu us) (hp : p < 16) (hv : v < 4) (pg : rPg P Y.2 v T Z) (hf : ∀ k : Nat, k < Z → ∃ f : Nat, f < 256 ∧ fr (64 * p + k / 1024) = nI f ∧ cF fr f = 1) (hz : ∀ k : Nat, k < Z → zb b (65536 * p + k)) : ∃ (m : Nat) (w' b' : Nat → Int32), rQ w' u g b' fr ri ho fu us ∧ df_X6_load_40 n n (nI p) (nI 0) (s0, (mU M w u g fu, P)) = df_X6_load_40 n (m + 1) (nI p) (nI Z) (s0, (mU M w' u g fu, P)) ∧ df_X16_load_161 n n (nI p) (nI v) (nI 0) (xU Y b fr ri ho us) = df_X16_load_161 n (m + 1) (nI p) (nI v) (nI Z) (xU Y b' fr ri ho us) := by
  have zl := pg.2.1
  obtain ⟨m, s', t', ⟨w', b', e1, e2, e3, e4⟩, r1, r2⟩ := nm_l2 (S := St × (St × St) × St) (T := St × St) (fun g' k s => df_X6_load_40 n g' (nI p) (nI k) s) (fun g' k t => df_X16_load_161 n g' (nI p) (nI v) (nI k) t) (fun k s t => ∃ w b : Nat → Int32, s = (s0, (mU M w u g fu, P)) ∧ t = xU Y b fr ri ho us ∧ rQ w u g b fr ri ho fu us ∧ ∀ j : Nat, k ≤ j → j < Z → zb b (65536 * p + j)) Z n (by omega) (fun k g' s t hk ⟨w, b, e1, e2, e3, e4⟩ => by
    subst e1 e2
    obtain ⟨h1, h2, h3, h4, h5, h6, h7, h8, h9, h10⟩ := pg
    obtain ⟨z, z1, z2⟩ := h10 k hk
    have z2 := z2 n
    obtain ⟨f, f1, f2, f3⟩ := hf k hk
    have k1 : ¬ Z ≤ k := by omega
    have u1 : k < 2 ^ 31 := by omega
    have u2 : Z < 2 ^ 31 := by omega
    have u3 : k < 32768 := by omega
    have u4 : v < 2 ^ 31 := by omega
    have u5 : 64 * p + k / 1024 < 1024 := by omega
    have u6 : 64 * p + k / 1024 < 2 ^ 31 := by omega
    have pr := nk_put2 n (X := Y) (b := b) (fr := fr) (ri := ri) (ho := ho) (us := us) hp (show k < 65536 by omega) z
    have t2 : sR (xU Y b fr ri ho us).2 3 v = nI Z := h9
    have t16 : sR (xU Y b fr ri ho us).1 16 (64 * p + k / 1024) = nI f := f2
    have t3 : df_X17_byteAt n (nI v) (nI k) (xU Y b fr ri ho us).2 = some (z, (xU Y b fr ri ho us).2) := z2
    have fm : ¬ nI f = -nI 1 := nk_ne (by omega)
    have R : df_X16_load_161 n (g' + 1) (nI p) (nI v) (nI k) (xU Y b fr ri ho us) = df_X16_load_161 n g' (nI p) (nI v) (nI (k + 1)) (xU Y (pb b (65536 * p + k) z) fr ri ho us) := by
      rw [show df_X16_load_161 n (g' + 1) = dF_X16_load_161 n (df_X16_load_161 n g') from rfl]
      generalize df_X16_load_161 n g' = G
      generalize xU Y b fr ri ho us = V at t2 t16 t3 pr
      generalize xU Y (pb b (65536 * p + k) z) fr ri ho us = V2 at pr
      clear e3 e4 hf hz h10
      simp (disch := (first | assumption | decide | omega)) only [dF_X16_load_161, df_X16_load_216, t2, k1, t16, fm, t3, pr, eq_self, Nat.reduceEqDiff, Nat.reduceLeDiff, nl_1, nl_3, nl_4, nl_5, nl_6, nl_16, nl_64, nl_1023, nl_1024, nl_65536, no_1, no_1024, pk_mul, nI_add, nm_ck, nI_clamp, nI_ltI, nI_leI, nI_eq, nb_b2, nb_b1, ↓nb_let, nm_z0, nm_z1, nb_II, nb_IR, nb_RI, nb_RR, nm_IL, nm_IQ, nm_RL, nm_RQ, nm_LI, nm_LR, nm_LL, nm_LQ, nm_QI, nm_QR, nm_QL, nm_QQ, nm_rr, nm_ii, nm_eqm, not_false_eq_true, pk_sub, nm_div, nm_shl, nm_shr, nm_ush, nm_or8, nm_or64, nm_or256, nm_m1, nm_m3, nm_m7, nm_m15, nm_m31, nm_m63, nm_m255, nm_m511, nm_m1023, nm_m2047, nm_m65535, Nat.reduceMod, Nat.reducePow, Nat.reduceAdd, Nat.reduceSub, Nat.reduceMul, nm_bo, nm_bi, nm_rc, nm_ic, nm_ri, nm_rl, nm_rq, nm_ql, nm_qi, nm_li, nm_us, nm_uu, nm_cp, nm_sa31, nm_sa7, nm_m127, nm_m2, nm_nz, nm_nzk, nm_eq32, nm_nzf, if_true, if_false, ↓reduceIte, if_pos, if_neg]
    by_cases c : sR P 0 k = nI 0
    · have z0 := (b8_n0 z1).mp c
      refine ⟨_, _, ⟨w, b, rfl, rfl, e3, fun j h1 h2 => e4 j (by omega) h2⟩, ?_, ?_⟩
      · show df_X6_load_40 n (g' + 1) (nI p) (nI k) _ = df_X6_load_40 n g' (nI p) (nI (k + 1)) _
        rw [show df_X6_load_40 n (g' + 1) = dF_X6_load_40 n (df_X6_load_40 n g') from rfl]
        generalize df_X6_load_40 n g' = G
        generalize mU M w u g fu = V
        clear e3 e4 hf hz h10 R
        simp (disch := (first | assumption | decide | omega)) only [dF_X6_load_40, df_X6_load_72, h6, k1, c, eq_self, Nat.reduceEqDiff, Nat.reduceLeDiff, nl_0, nl_1, nl_2, nl_255, nl_32768, no_1, no_1024, pk_mul, nI_add, nm_ck, nI_clamp, nI_ltI, nI_leI, nI_eq, nb_b2, nb_b1, ↓nb_let, nm_z0, nm_z1, nb_II, nb_IR, nb_RI, nb_RR, nm_IL, nm_IQ, nm_RL, nm_RQ, nm_LI, nm_LR, nm_LL, nm_LQ, nm_QI, nm_QR, nm_QL, nm_QQ, nm_rr, nm_ii, nm_eqm, not_false_eq_true, pk_sub, nm_div, nm_shl, nm_shr, nm_ush, nm_or8, nm_or64, nm_or256, nm_m1, nm_m3, nm_m7, nm_m15, nm_m31, nm_m63, nm_m255, nm_m511, nm_m1023, nm_m2047, nm_m65535, Nat.reduceMod, Nat.reducePow, Nat.reduceAdd, Nat.reduceSub, Nat.reduceMul, nm_bo, nm_bi, nm_rc, nm_ic, nm_ri, nm_rl, nm_rq, nm_ql, nm_qi, nm_li, nm_us, nm_uu, nm_cp, nm_sa31, nm_sa7, nm_m127, nm_m2, nm_nz, nm_nzk, nm_eq32, nm_nzf, if_true, if_false, ↓reduceIte, if_pos, if_neg]
      · rw [z0, zb_p (e4 k (by omega) hk)] at R
        exact R
    · have pc := nk_cput n (M := M) e3 hp (show k < 65536 by omega) f1 f2 (nI 255) (sR P 0 k)
      have rp := rQ_put e3 (show 64 * p + k / 1024 < 1024 by omega) f1 f2 f3 (show k / 4 % 256 < 256 by omega) (pw (b ((64 * p + k / 1024) * 256 + k / 4 % 256)) (8 * (k % 4)) (nI 255) (sR P 0 k))
      have e5 := pb_is b (p := p) (A := k) (j := 0) (by omega) (sR P 0 k)
      rw [Nat.add_zero, Nat.add_zero, pb_b8 z1] at e5
      rw [← e5] at rp
      generalize upd w (f * 256 + k / 4 % 256) (pw (b ((64 * p + k / 1024) * 256 + k / 4 % 256)) (8 * (k % 4)) (nI 255) (sR P 0 k)) = w2 at pc rp
      refine ⟨_, _, ⟨w2, pb b (65536 * p + k) z, rfl, rfl, rp, fun j h1 h2 => zb_k (e4 j (by omega) h2) (by omega) z⟩, ?_, R⟩
      show df_X6_load_40 n (g' + 1) (nI p) (nI k) _ = df_X6_load_40 n g' (nI p) (nI (k + 1)) _
      rw [show df_X6_load_40 n (g' + 1) = dF_X6_load_40 n (df_X6_load_40 n g') from rfl]
      generalize df_X6_load_40 n g' = G
      generalize mU M w u g fu = V at pc
      generalize mU M w2 u g fu = V2 at pc
      clear e3 e4 hf hz h10 R rp e5
      simp (disch := (first | assumption | decide | omega)) only [dF_X6_load_40, df_X6_load_72, h6, k1, c, pc, eq_self, Nat.reduceEqDiff, Nat.reduceLeDiff, nl_0, nl_1, nl_2, nl_255, nl_32768, no_1, no_1024, pk_mul, nI_add, nm_ck, nI_clamp, nI_ltI, nI_leI, nI_eq, nb_b2, nb_b1, ↓nb_let, nm_z0, nm_z1, nb_II, nb_IR, nb_RI, nb_RR, nm_IL, nm_IQ, nm_RL, nm_RQ, nm_LI, nm_LR, nm_LL, nm_LQ, nm_QI, nm_QR, nm_QL, nm_QQ, nm_rr, nm_ii, nm_eqm, not_false_eq_true, pk_sub, nm_div, nm_shl, nm_shr, nm_ush, nm_or8, nm_or64, nm_or256, nm_m1, nm_m3, nm_m7, nm_m15, nm_m31, nm_m63, nm_m255, nm_m511, nm_m1023, nm_m2047, nm_m65535, Nat.reduceMod, Nat.reducePow, Nat.reduceAdd, Nat.reduceSub, Nat.reduceMul, nm_bo, nm_bi, nm_rc, nm_ic, nm_ri, nm_rl, nm_rq, nm_ql, nm_qi, nm_li, nm_us, nm_uu, nm_cp, nm_sa31, nm_sa7, nm_m127, nm_m2, nm_nz, nm_nzk, nm_eq32, nm_nzf, if_true, if_false, ↓reduceIte, if_pos, if_neg]) _ _ ⟨w, b, rfl, rfl, rq, fun j _ h2 => hz j h2⟩
  subst e1 e2
  exact ⟨m, w', b', e3, r1, r2⟩

theorem o_tk {t k : Nat} (ht : t ≤ 64) (hk : k ≤ 40) : t * 1024 + k * 1024 < 2 ^ 31 := by omega
theorem lr_59 (n : Nat) (hn : 1024 < n) {Y Y1 : St × St} {p v T : Nat} (hT : T ≤ 32768) (hY : nps n p 5 0 ((T + 1023) / 1024) Y = some Y1) : df_X16_load_59 n n (nI p) (nI v) (nI T) (nI 0) Y = df_X16_load_89 n n (nI p) (nI v) (nI 0) Y1 := by
  obtain ⟨m, s', i1, e⟩ := nm_l1 (S := St × St) (fun g k s => df_X16_load_59 n g (nI p) (nI v) (nI T) (nI (k * 1024)) s) (fun k s => nps n p 5 0 k Y = some s) ((T + 1023) / 1024) n (by omega) (fun k g s hk i1 => by
    obtain ⟨s', e1, e2⟩ := nps_t hY hk i1
    rw [Nat.zero_add] at e1
    refine ⟨s', e2, ?_⟩
    have k1 : ¬ T ≤ k * 1024 := by omega
    have k2 : k * 1024 / 1024 = k := by omega
    have k3 : k * 1024 + 1024 = (k + 1) * 1024 := by omega
    have u1 : k * 1024 < 2 ^ 31 := by omega
    have u2 : T < 2 ^ 31 := by omega
    rw [show df_X16_load_59 n (g + 1) = dF_X16_load_59 n (df_X16_load_59 n g) from rfl]
    generalize df_X16_load_59 n g = G
    simp (disch := (first | assumption | decide | omega)) only [dF_X16_load_59, k1, k2, e1, k3, eq_self, Nat.reduceEqDiff, Nat.reduceLeDiff, nl_0, nl_5, nl_1024, no_1, no_1024, pk_mul, nI_add, nm_ck, nI_clamp, nI_ltI, nI_leI, nI_eq, nb_b2, nb_b1, ↓nb_let, nm_z0, nm_z1, nb_II, nb_IR, nb_RI, nb_RR, nm_IL, nm_IQ, nm_RL, nm_RQ, nm_LI, nm_LR, nm_LL, nm_LQ, nm_QI, nm_QR, nm_QL, nm_QQ, nm_rr, nm_ii, nm_eqm, not_false_eq_true, pk_sub, nm_div, nm_shl, nm_shr, nm_ush, nm_or8, nm_or64, nm_or256, nm_m1, nm_m3, nm_m7, nm_m15, nm_m31, nm_m63, nm_m255, nm_m511, nm_m1023, nm_m2047, nm_m65535, Nat.reduceMod, Nat.reducePow, Nat.reduceAdd, Nat.reduceSub, Nat.reduceMul, nm_bo, nm_bi, nm_rc, nm_ic, nm_ri, nm_rl, nm_rq, nm_ql, nm_qi, nm_li, nm_us, nm_uu, nm_cp, nm_sa31, nm_sa7, nm_m127, nm_m2, nm_nz, nm_nzk, nm_eq32, nm_nzf, if_true, if_false, ↓reduceIte, if_pos, if_neg]) Y rfl
  rw [hY] at i1
  cases i1
  refine Eq.trans (b := df_X16_load_59 n n (nI p) (nI v) (nI T) (nI (0 * 1024)) Y) (by rw [Nat.zero_mul]) (Eq.trans e ?_)
  show df_X16_load_59 n (m + 1) (nI p) (nI v) (nI T) (nI ((T + 1023) / 1024 * 1024)) Y1 = _
  have k1 : T ≤ (T + 1023) / 1024 * 1024 := by omega
  have u1 : (T + 1023) / 1024 * 1024 < 2 ^ 31 := by omega
  have u2 : T < 2 ^ 31 := by omega
  generalize (T + 1023) / 1024 * 1024 = D at k1 u1
  rw [show df_X16_load_59 n (m + 1) = dF_X16_load_59 n (df_X16_load_59 n m) from rfl]
  generalize df_X16_load_59 n m = G
  generalize hF : df_X16_load_89 n n = F
  unfold dF_X16_load_59
  rw [if_pos (by rw [nI_leI u2 u1]; exact k1), hF]
  rfl
theorem lr_89 (n : Nat) (hn : 1024 < n) {Y Y1 : St × St} {p v t d : Nat} (hv : v < 4) (ht : t ≤ 64) (hd : d ≤ 32768) (ds : df_X17_dataSize n (nI v) Y.2 = some (nI d, Y.2)) (e2 : sR Y.2 2 v = nI (t * 1024)) (hY : nps n p 3 t ((d + 1023) / 1024) Y = some Y1) (hk : ∀ j : Nat, j ≤ (d + 1023) / 1024 → ∃ s : St × St, nps n p 3 t j Y = some s ∧ s.2 = Y.2) : df_X16_load_89 n n (nI p) (nI v) (nI 0) Y = df_X16_load_137 n n (nI p) (nI v) (nI 60) Y1 := by
  have u4 : v < 2 ^ 31 := by omega
  have u2 : d < 2 ^ 31 := by omega
  obtain ⟨m, s', ⟨i1, i2⟩, e⟩ := nm_l1 (S := St × St) (fun g k s => df_X16_load_89 n g (nI p) (nI v) (nI (k * 1024)) s) (fun k s => nps n p 3 t k Y = some s ∧ s.2 = Y.2) ((d + 1023) / 1024) n (by omega) (fun k g s hk' ⟨i1, i2⟩ => by
    obtain ⟨s', e1, e3⟩ := nps_t hY hk' i1
    obtain ⟨s'', y1, y2⟩ := hk (k + 1) (by omega)
    rw [e3] at y1
    cases y1
    refine ⟨s', ⟨e3, y2⟩, ?_⟩
    have k1 : ¬ d ≤ k * 1024 := by omega
    have k2 : (t * 1024 + k * 1024) / 1024 = t + k := by omega
    have k3 : k * 1024 + 1024 = (k + 1) * 1024 := by omega
    have u1 : k * 1024 < 2 ^ 31 := by omega
    have u3 : t * 1024 + k * 1024 < 2 ^ 31 := o_tk ht (show k ≤ 40 by omega)
    rw [← i2] at ds e2
    have es : (s.1, s.2) = s := rfl
    rw [show df_X16_load_89 n (g + 1) = dF_X16_load_89 n (df_X16_load_89 n g) from rfl]
    generalize df_X16_load_89 n g = G
    clear hY hk i1 e3
    simp (disch := (first | assumption | decide | omega)) only [dF_X16_load_89, ds, k1, e2, k2, e1, k3, eq_self, Nat.reduceEqDiff, Nat.reduceLeDiff, nl_2, nl_3, nl_4, nl_60, nl_1024, no_1, no_1024, pk_mul, nI_add, nm_ck, nI_clamp, nI_ltI, nI_leI, nI_eq, nb_b2, nb_b1, ↓nb_let, nm_z0, nm_z1, nb_II, nb_IR, nb_RI, nb_RR, nm_IL, nm_IQ, nm_RL, nm_RQ, nm_LI, nm_LR, nm_LL, nm_LQ, nm_QI, nm_QR, nm_QL, nm_QQ, nm_rr, nm_ii, nm_eqm, not_false_eq_true, pk_sub, nm_div, nm_shl, nm_shr, nm_ush, nm_or8, nm_or64, nm_or256, nm_m1, nm_m3, nm_m7, nm_m15, nm_m31, nm_m63, nm_m255, nm_m511, nm_m1023, nm_m2047, nm_m65535, Nat.reduceMod, Nat.reducePow, Nat.reduceAdd, Nat.reduceSub, Nat.reduceMul, nm_bo, nm_bi, nm_rc, nm_ic, nm_ri, nm_rl, nm_rq, nm_ql, nm_qi, nm_li, nm_us, nm_uu, nm_cp, nm_sa31, nm_sa7, nm_m127, nm_m2, nm_nz, nm_nzk, nm_eq32, nm_nzf, if_true, if_false, ↓reduceIte, if_pos, if_neg]) Y ⟨rfl, rfl⟩
  rw [hY] at i1
  cases i1
  refine Eq.trans (b := df_X16_load_89 n n (nI p) (nI v) (nI (0 * 1024)) Y) (by rw [Nat.zero_mul]) (Eq.trans e ?_)
  show df_X16_load_89 n (m + 1) (nI p) (nI v) (nI ((d + 1023) / 1024 * 1024)) Y1 = _
  have k1 : d ≤ (d + 1023) / 1024 * 1024 := by omega
  have u1 : (d + 1023) / 1024 * 1024 < 2 ^ 31 := by omega
  generalize (d + 1023) / 1024 * 1024 = D at k1 u1
  rw [show df_X16_load_89 n (m + 1) = dF_X16_load_89 n (df_X16_load_89 n m) from rfl]
  generalize df_X16_load_89 n m = G
  generalize hF : df_X16_load_137 n n = F
  rw [← i2] at ds
  unfold dF_X16_load_89
  rw [ds, nb_b2, nb_let, if_pos (by rw [nI_leI u2 u1]; exact k1), hF]
  rfl
theorem lr_137 (n : Nat) (hn : 1024 < n) {Y Y1 : St × St} {p v : Nat} (hY : nps n p 3 60 4 Y = some Y1) : df_X16_load_137 n n (nI p) (nI v) (nI 60) Y = df_X16_load_161 n n (nI p) (nI v) (nI 0) Y1 := by
  obtain ⟨m, s', i1, e⟩ := nm_l1 (S := St × St) (fun g k s => df_X16_load_137 n g (nI p) (nI v) (nI (60 + k)) s) (fun k s => nps n p 3 60 k Y = some s) 4 n (by omega) (fun k g s hk i1 => by
    obtain ⟨s', e1, e2⟩ := nps_t hY hk i1
    refine ⟨s', e2, ?_⟩
    have k1 : ¬ 64 ≤ 60 + k := by omega
    have k3 : 60 + k + 1 = 60 + (k + 1) := by omega
    have u1 : 60 + k < 2 ^ 31 := by omega
    rw [show df_X16_load_137 n (g + 1) = dF_X16_load_137 n (df_X16_load_137 n g) from rfl]
    generalize df_X16_load_137 n g = G
    simp (disch := (first | assumption | decide | omega)) only [dF_X16_load_137, k1, e1, k3, eq_self, Nat.reduceEqDiff, Nat.reduceLeDiff, nl_0, nl_1, nl_3, nl_64, no_1, no_1024, pk_mul, nI_add, nm_ck, nI_clamp, nI_ltI, nI_leI, nI_eq, nb_b2, nb_b1, ↓nb_let, nm_z0, nm_z1, nb_II, nb_IR, nb_RI, nb_RR, nm_IL, nm_IQ, nm_RL, nm_RQ, nm_LI, nm_LR, nm_LL, nm_LQ, nm_QI, nm_QR, nm_QL, nm_QQ, nm_rr, nm_ii, nm_eqm, not_false_eq_true, pk_sub, nm_div, nm_shl, nm_shr, nm_ush, nm_or8, nm_or64, nm_or256, nm_m1, nm_m3, nm_m7, nm_m15, nm_m31, nm_m63, nm_m255, nm_m511, nm_m1023, nm_m2047, nm_m65535, Nat.reduceMod, Nat.reducePow, Nat.reduceAdd, Nat.reduceSub, Nat.reduceMul, nm_bo, nm_bi, nm_rc, nm_ic, nm_ri, nm_rl, nm_rq, nm_ql, nm_qi, nm_li, nm_us, nm_uu, nm_cp, nm_sa31, nm_sa7, nm_m127, nm_m2, nm_nz, nm_nzk, nm_eq32, nm_nzf, if_true, if_false, ↓reduceIte, if_pos, if_neg]) Y rfl
  rw [hY] at i1
  cases i1
  refine Eq.trans e ?_
  show df_X16_load_137 n (m + 1) (nI p) (nI v) (nI (60 + 4)) Y1 = _
  rw [show df_X16_load_137 n (m + 1) = dF_X16_load_137 n (df_X16_load_137 n m) from rfl]
  generalize df_X16_load_137 n m = G
  generalize hF : df_X16_load_161 n n = F
  unfold dF_X16_load_137
  rw [if_pos (show (64 : Int32) ≤ nI (60 + 4) by decide), hF]
  rfl
/-- a program's first registers, in the class -/
def rgl (f : Nat → Int32) (p k : Nat) : Nat → Int32 := fun i => if p * 33 ≤ i ∧ i < p * 33 + k then (if i = p * 33 + 2 then nI 65536 else nI 0) else f i
theorem rgl_0 (f : Nat → Int32) (p : Nat) : rgl f p 0 = f := by
  funext i
  exact if_neg (by omega)
theorem rgl_s (f : Nat → Int32) (p k : Nat) (v : Int32) (hv : v = if k = 2 then nI 65536 else nI 0) : upd (rgl f p k) (p * 33 + k) v = rgl f p (k + 1) := by
  funext i
  unfold rgl
  by_cases c : i = p * 33 + k
  · rw [c, nm_us, if_pos (by omega), hv]
    by_cases d : k = 2
    · rw [if_pos d, if_pos (by omega)]
    · rw [if_neg d, if_neg (by omega)]
  · rw [nm_un c]
    by_cases d : p * 33 ≤ i ∧ i < p * 33 + k
    · rw [if_pos d, if_pos (show p * 33 ≤ i ∧ i < p * 33 + (k + 1) by omega)]
    · rw [if_neg d, if_neg (show ¬ (p * 33 ≤ i ∧ i < p * 33 + (k + 1)) by omega)]
theorem rgl_i (f : Nat → Int32) {p r : Nat} (hr : r < 33) : rgl f p 33 (p * 33 + r) = if r = 2 then nI 65536 else nI 0 := by
  unfold rgl
  rw [if_pos (by omega)]
  by_cases c : r = 2
  · rw [if_pos c, if_pos (by omega)]
  · rw [if_neg c, if_neg (by omega)]
theorem rgl_o (f : Nat → Int32) {p i : Nat} (hi : ¬ (p * 33 ≤ i ∧ i < p * 33 + 33)) : rgl f p 33 i = f i := if_neg hi
/-- behind the image: the class's registers, handlers, heap -/
theorem lc_80 (n : Nat) (hn : 1024 < n) {V : St × St} {P Q s0 : St} {p v T Z : Nat} (hp : p < 16) (pg : rPg P Q v T Z) : df_X6_load_80 n n (nI p) (nI 0) (s0, (V, P)) = some (s0, ((pI (pQ (pR (pR (pR V.1 3 (rgl (sR V.1 3) p 33)) 5 (fl (sR V.1 5) (p * 16) 16 (nI 0))) 6 (upd (upd (upd (sR V.1 6) (p * 7 + 4) (nI 0)) (p * 7 + 5) (nI ((Z + 1023) / 1024 * 1024))) (p * 7 + 6) (nI ((Z + 1023) / 1024 * 1024)))) 0 (vp_updL (sQ V.1 0) p (-1))) 6 (-nI 1), V.2), P)) := by
  obtain ⟨m, hm⟩ := nm_lq (fun m k => df_X6_load_80 n m (nI p) (nI k) (s0, ((pR V.1 3 (rgl (sR V.1 3) p k), V.2), P))) 33 n (by omega) (fun k m hk => by
    have u1 : p * 33 + k < 528 := by omega
    have u2 : p * 33 + k < 2 ^ 31 := by omega
    have u3 : k < 2 ^ 31 := by omega
    have k1 : ¬ 33 ≤ k := by omega
    rw [show df_X6_load_80 n (m + 1) = dF_X6_load_80 n (df_X6_load_80 n m) from rfl]
    generalize df_X6_load_80 n m = G
    by_cases c : k = 2
    · have e := rgl_s (sR V.1 3) p k (nI 65536) (by rw [if_pos c])
      simp (disch := (first | assumption | decide | omega)) only [dF_X6_load_80, df_X6_load_107, k1, c, e, eq_self, Nat.reduceEqDiff, Nat.reduceLeDiff, nl_0, nl_1, nl_2, nl_3, nl_33, nl_528, nl_65536, no_1, no_1024, pk_mul, nI_add, nm_ck, nI_clamp, nI_ltI, nI_leI, nI_eq, nb_b2, nb_b1, ↓nb_let, nm_z0, nm_z1, nb_II, nb_IR, nb_RI, nb_RR, nm_IL, nm_IQ, nm_RL, nm_RQ, nm_LI, nm_LR, nm_LL, nm_LQ, nm_QI, nm_QR, nm_QL, nm_QQ, nm_rr, nm_ii, nm_eqm, not_false_eq_true, pk_sub, nm_div, nm_shl, nm_shr, nm_ush, nm_or8, nm_or64, nm_or256, nm_m1, nm_m3, nm_m7, nm_m15, nm_m31, nm_m63, nm_m255, nm_m511, nm_m1023, nm_m2047, nm_m65535, Nat.reduceMod, Nat.reducePow, Nat.reduceAdd, Nat.reduceSub, Nat.reduceMul, nm_bo, nm_bi, nm_rc, nm_ic, nm_ri, nm_rl, nm_rq, nm_ql, nm_qi, nm_li, nm_us, nm_uu, nm_cp, nm_sa31, nm_sa7, nm_m127, nm_m2, nm_nz, nm_nzk, nm_eq32, nm_nzf, if_true, if_false, ↓reduceIte, if_pos, if_neg]
      rw [c] at e
      rw [e]
    · have e := rgl_s (sR V.1 3) p k (nI 0) (by rw [if_neg c])
      simp (disch := (first | assumption | decide | omega)) only [dF_X6_load_80, df_X6_load_107, k1, c, e, eq_self, Nat.reduceEqDiff, Nat.reduceLeDiff, nl_0, nl_1, nl_2, nl_3, nl_33, nl_528, nl_65536, no_1, no_1024, pk_mul, nI_add, nm_ck, nI_clamp, nI_ltI, nI_leI, nI_eq, nb_b2, nb_b1, ↓nb_let, nm_z0, nm_z1, nb_II, nb_IR, nb_RI, nb_RR, nm_IL, nm_IQ, nm_RL, nm_RQ, nm_LI, nm_LR, nm_LL, nm_LQ, nm_QI, nm_QR, nm_QL, nm_QQ, nm_rr, nm_ii, nm_eqm, not_false_eq_true, pk_sub, nm_div, nm_shl, nm_shr, nm_ush, nm_or8, nm_or64, nm_or256, nm_m1, nm_m3, nm_m7, nm_m15, nm_m31, nm_m63, nm_m255, nm_m511, nm_m1023, nm_m2047, nm_m65535, Nat.reduceMod, Nat.reducePow, Nat.reduceAdd, Nat.reduceSub, Nat.reduceMul, nm_bo, nm_bi, nm_rc, nm_ic, nm_ri, nm_rl, nm_rq, nm_ql, nm_qi, nm_li, nm_us, nm_uu, nm_cp, nm_sa31, nm_sa7, nm_m127, nm_m2, nm_nz, nm_nzk, nm_eq32, nm_nzf, if_true, if_false, ↓reduceIte, if_pos, if_neg])
  rw [rgl_0, nm_r0] at hm
  refine Eq.trans hm ?_
  clear hm
  show df_X6_load_80 n (m + 1) (nI p) (nI 33) _ = _
  have hs := lp_h n pg
  generalize (Z + 1023) / 1024 * 1024 = H at hs
  generalize rgl (sR V.1 3) p 33 = R
  rw [show df_X6_load_80 n (m + 1) = dF_X6_load_80 n (df_X6_load_80 n m) from rfl]
  generalize df_X6_load_80 n m = G
  obtain ⟨m', hm⟩ := nm_lq (fun m k => df_X6_load_116 n m (nI p) (nI k) (s0, ((pR (pR V.1 3 R) 5 (fl (sR V.1 5) (p * 16) k (nI 0)), V.2), P))) 16 n (by omega) (fun k m hk => by
    have u1 : p * 16 + k < 256 := by omega
    have u2 : p * 16 + k < 2 ^ 31 := by omega
    have u3 : k < 2 ^ 31 := by omega
    have k1 : ¬ 16 ≤ k := by omega
    rw [show df_X6_load_116 n (m + 1) = dF_X6_load_116 n (df_X6_load_116 n m) from rfl]
    generalize df_X6_load_116 n m = G
    simp (disch := (first | assumption | decide | omega)) only [dF_X6_load_116, k1, fl_s, eq_self, Nat.reduceEqDiff, Nat.reduceLeDiff, nl_0, nl_1, nl_4, nl_5, nl_6, nl_7, nl_16, nl_112, nl_256, no_1, no_1024, pk_mul, nI_add, nm_ck, nI_clamp, nI_ltI, nI_leI, nI_eq, nb_b2, nb_b1, ↓nb_let, nm_z0, nm_z1, nb_II, nb_IR, nb_RI, nb_RR, nm_IL, nm_IQ, nm_RL, nm_RQ, nm_LI, nm_LR, nm_LL, nm_LQ, nm_QI, nm_QR, nm_QL, nm_QQ, nm_rr, nm_ii, nm_eqm, not_false_eq_true, pk_sub, nm_div, nm_shl, nm_shr, nm_ush, nm_or8, nm_or64, nm_or256, nm_m1, nm_m3, nm_m7, nm_m15, nm_m31, nm_m63, nm_m255, nm_m511, nm_m1023, nm_m2047, nm_m65535, Nat.reduceMod, Nat.reducePow, Nat.reduceAdd, Nat.reduceSub, Nat.reduceMul, nm_bo, nm_bi, nm_rc, nm_ic, nm_ri, nm_rl, nm_rq, nm_ql, nm_qi, nm_li, nm_us, nm_uu, nm_cp, nm_sa31, nm_sa7, nm_m127, nm_m2, nm_nz, nm_nzk, nm_eq32, nm_nzf, if_true, if_false, ↓reduceIte, if_pos, if_neg])
  rw [fl_0] at hm
  have e5 : pR (pR V.1 3 R) 5 (sR V.1 5) = pR V.1 3 R := by
    rw [show sR V.1 5 = sR (pR V.1 3 R) 5 from rfl, nm_r0]
  rw [e5] at hm
  generalize fl (sR V.1 5) (p * 16) 16 (nI 0) = F at hm
  unfold dF_X6_load_80
  rw [if_pos (show (33 : Int32) ≤ nI 33 by decide)]
  refine Eq.trans hm ?_
  clear hm
  show df_X6_load_116 n (m' + 1) (nI p) (nI 16) _ = _
  rw [show df_X6_load_116 n (m' + 1) = dF_X6_load_116 n (df_X6_load_116 n m') from rfl]
  generalize df_X6_load_116 n m' = G'
  have u1 : p * 7 + 4 < 112 := by omega
  have u2 : p * 7 + 4 < 2 ^ 31 := by omega
  have u3 : p * 7 + 5 < 112 := by omega
  have u4 : p * 7 + 5 < 2 ^ 31 := by omega
  have u5 : p * 7 + 6 < 112 := by omega
  have u6 : p * 7 + 6 < 2 ^ 31 := by omega
  have u7 : p < 2 ^ 31 := by omega
  simp (disch := (first | assumption | decide | omega)) only [dF_X6_load_116, hs, eq_self, Nat.reduceEqDiff, Nat.reduceLeDiff, nl_0, nl_1, nl_4, nl_5, nl_6, nl_7, nl_16, nl_112, nl_256, no_1, no_1024, pk_mul, nI_add, nm_ck, nI_clamp, nI_ltI, nI_leI, nI_eq, nb_b2, nb_b1, ↓nb_let, nm_z0, nm_z1, nb_II, nb_IR, nb_RI, nb_RR, nm_IL, nm_IQ, nm_RL, nm_RQ, nm_LI, nm_LR, nm_LL, nm_LQ, nm_QI, nm_QR, nm_QL, nm_QQ, nm_rr, nm_ii, nm_eqm, not_false_eq_true, pk_sub, nm_div, nm_shl, nm_shr, nm_ush, nm_or8, nm_or64, nm_or256, nm_m1, nm_m3, nm_m7, nm_m15, nm_m31, nm_m63, nm_m255, nm_m511, nm_m1023, nm_m2047, nm_m65535, Nat.reduceMod, Nat.reducePow, Nat.reduceAdd, Nat.reduceSub, Nat.reduceMul, nm_bo, nm_bi, nm_rc, nm_ic, nm_ri, nm_rl, nm_rq, nm_ql, nm_qi, nm_li, nm_us, nm_uu, nm_cp, nm_sa31, nm_sa7, nm_m127, nm_m2, nm_nz, nm_nzk, nm_eq32, nm_nzf, if_true, if_false, ↓reduceIte, if_pos, if_neg]

/-- the reference's machine as a program is loaded into it -/
def lX (X : St × St) (b fr ri ho : Nat → Int32) (us : Int32) (p H : Nat) : St × St := (pR (pR (xU (pR (pR X.1 9 (upd (fl (sR X.1 9) (32 * p) 32 (nI 0)) (32 * p + 2) (nI 65536))) 10 (upd (sR X.1 10) p (nI 0)), X.2) b fr ri ho us).1 6 (upd (sR X.1 6) p (nI H))) 5 (upd (sR X.1 5) p (nI H)), X.2)
/-- and the class's -/
def lM (M : St × St) (w u g : Nat → Int32) (fu : Int32) (p H : Nat) : St × St := (pI (pQ (pR (pR (pR (mU M w u g fu).1 3 (rgl (sR M.1 3) p 33)) 5 (fl (sR M.1 5) (p * 16) 16 (nI 0))) 6 (upd (upd (upd (sR M.1 6) (p * 7 + 4) (nI 0)) (p * 7 + 5) (nI H)) (p * 7 + 6) (nI H))) 0 (vp_updL (sQ M.1 0) p (-1))) 6 (-nI 1), M.2)
theorem lr_2 (n : Nat) (hn : 1024 < n) {X : St × St} {p v T : Nat} (hp : p < 16) (hv : v < 4) (e1 : sR X.2 1 v = nI T) : df_X16_load n (nI p) (nI v) X = df_X16_load_59 n n (nI p) (nI v) (nI T) (nI 0) (pR (pR X.1 9 (upd (fl (sR X.1 9) (32 * p) 32 (nI 0)) (32 * p + 2) (nI 65536))) 10 (upd (sR X.1 10) p (nI 0)), X.2) := by
  obtain ⟨m, hm⟩ := nm_lq (fun m k => df_X16_load_2 n m (nI p) (nI v) (nI k) (pR X.1 9 (fl (sR X.1 9) (32 * p) k (nI 0)), X.2)) 32 n (by omega) (fun k m hk => by
    have u1 : 32 * p + k < 512 := by omega
    have u2 : 32 * p + k < 2 ^ 31 := by omega
    have u3 : k < 2 ^ 31 := by omega
    have k1 : ¬ 32 ≤ k := by omega
    rw [show df_X16_load_2 n (m + 1) = dF_X16_load_2 n (df_X16_load_2 n m) from rfl]
    generalize df_X16_load_2 n m = G
    simp (disch := (first | assumption | decide | omega)) only [dF_X16_load_2, k1, fl_s, eq_self, Nat.reduceEqDiff, Nat.reduceLeDiff, nl_0, nl_1, nl_2, nl_4, nl_9, nl_10, nl_16, nl_32, nl_512, nl_65536, no_1, no_1024, pk_mul, nI_add, nm_ck, nI_clamp, nI_ltI, nI_leI, nI_eq, nb_b2, nb_b1, ↓nb_let, nm_z0, nm_z1, nb_II, nb_IR, nb_RI, nb_RR, nm_IL, nm_IQ, nm_RL, nm_RQ, nm_LI, nm_LR, nm_LL, nm_LQ, nm_QI, nm_QR, nm_QL, nm_QQ, nm_rr, nm_ii, nm_eqm, not_false_eq_true, pk_sub, nm_div, nm_shl, nm_shr, nm_ush, nm_or8, nm_or64, nm_or256, nm_m1, nm_m3, nm_m7, nm_m15, nm_m31, nm_m63, nm_m255, nm_m511, nm_m1023, nm_m2047, nm_m65535, Nat.reduceMod, Nat.reducePow, Nat.reduceAdd, Nat.reduceSub, Nat.reduceMul, nm_bo, nm_bi, nm_rc, nm_ic, nm_ri, nm_rl, nm_rq, nm_ql, nm_qi, nm_li, nm_us, nm_uu, nm_cp, nm_sa31, nm_sa7, nm_m127, nm_m2, nm_nz, nm_nzk, nm_eq32, nm_nzf, if_true, if_false, ↓reduceIte, if_pos, if_neg])
  rw [fl_0, nm_r0] at hm
  refine Eq.trans (b := df_X16_load_2 n n (nI p) (nI v) (nI 0) X) rfl (Eq.trans hm ?_)
  show df_X16_load_2 n (m + 1) (nI p) (nI v) (nI 32) _ = _
  rw [show df_X16_load_2 n (m + 1) = dF_X16_load_2 n (df_X16_load_2 n m) from rfl]
  generalize df_X16_load_2 n m = G
  generalize hF : df_X16_load_59 n n = F
  have u1 : 32 * p + 2 < 512 := by omega
  have u2 : 32 * p + 2 < 2 ^ 31 := by omega
  have u3 : p < 2 ^ 31 := by omega
  have u4 : v < 2 ^ 31 := by omega
  generalize fl (sR X.1 9) (32 * p) 32 (nI 0) = R
  simp (disch := (first | assumption | decide | omega)) only [dF_X16_load_2, hF, e1, eq_self, Nat.reduceEqDiff, Nat.reduceLeDiff, nl_0, nl_1, nl_2, nl_4, nl_9, nl_10, nl_16, nl_32, nl_512, nl_65536, no_1, no_1024, pk_mul, nI_add, nm_ck, nI_clamp, nI_ltI, nI_leI, nI_eq, nb_b2, nb_b1, ↓nb_let, nm_z0, nm_z1, nb_II, nb_IR, nb_RI, nb_RR, nm_IL, nm_IQ, nm_RL, nm_RQ, nm_LI, nm_LR, nm_LL, nm_LQ, nm_QI, nm_QR, nm_QL, nm_QQ, nm_rr, nm_ii, nm_eqm, not_false_eq_true, pk_sub, nm_div, nm_shl, nm_shr, nm_ush, nm_or8, nm_or64, nm_or256, nm_m1, nm_m3, nm_m7, nm_m15, nm_m31, nm_m63, nm_m255, nm_m511, nm_m1023, nm_m2047, nm_m65535, Nat.reduceMod, Nat.reducePow, Nat.reduceAdd, Nat.reduceSub, Nat.reduceMul, nm_bo, nm_bi, nm_rc, nm_ic, nm_ri, nm_rl, nm_rq, nm_ql, nm_qi, nm_li, nm_us, nm_uu, nm_cp, nm_sa31, nm_sa7, nm_m127, nm_m2, nm_nz, nm_nzk, nm_eq32, nm_nzf, if_true, if_false, ↓reduceIte, if_pos, if_neg]
theorem lr_161 (n : Nat) {Y : St × St} {g : Int32 → Int32 → Int32 → (St × St) → Option (St × St)} {p v Z : Nat} (hp : p < 16) (hv : v < 4) (hZ : Z ≤ 32768) (e3 : sR Y.2 3 v = nI Z) : dF_X16_load_161 n g (nI p) (nI v) (nI Z) Y = some (pR (pR Y.1 6 (upd (sR Y.1 6) p (nI ((Z + 1023) / 1024 * 1024)))) 5 (upd (sR Y.1 5) p (nI ((Z + 1023) / 1024 * 1024))), Y.2) := by
  have u3 : p < 2 ^ 31 := by omega
  have u4 : v < 2 ^ 31 := by omega
  have u5 : Z + 1023 < 2 ^ 31 := by omega
  have u6 : Z < 2 ^ 31 := by omega
  simp (disch := (first | assumption | decide | omega)) only [dF_X16_load_161, e3, Nat.le_refl, eq_self, Nat.reduceEqDiff, Nat.reduceLeDiff, nl_1, nl_3, nl_4, nl_5, nl_6, nl_16, nl_64, nl_1023, nl_1024, nl_65536, no_1, no_1024, pk_mul, nI_add, nm_ck, nI_clamp, nI_ltI, nI_leI, nI_eq, nb_b2, nb_b1, ↓nb_let, nm_z0, nm_z1, nb_II, nb_IR, nb_RI, nb_RR, nm_IL, nm_IQ, nm_RL, nm_RQ, nm_LI, nm_LR, nm_LL, nm_LQ, nm_QI, nm_QR, nm_QL, nm_QQ, nm_rr, nm_ii, nm_eqm, not_false_eq_true, pk_sub, nm_div, nm_shl, nm_shr, nm_ush, nm_or8, nm_or64, nm_or256, nm_m1, nm_m3, nm_m7, nm_m15, nm_m31, nm_m63, nm_m255, nm_m511, nm_m1023, nm_m2047, nm_m65535, Nat.reduceMod, Nat.reducePow, Nat.reduceAdd, Nat.reduceSub, Nat.reduceMul, nm_bo, nm_bi, nm_rc, nm_ic, nm_ri, nm_rl, nm_rq, nm_ql, nm_qi, nm_li, nm_us, nm_uu, nm_cp, nm_sa31, nm_sa7, nm_m127, nm_m2, nm_nz, nm_nzk, nm_eq32, nm_nzf, if_true, if_false, ↓reduceIte, if_pos, if_neg]
theorem lcl_0 (n : Nat) {M M1 M2 M3 : St × St} {P s0 : St} {p a c d : Nat} {x1 : Int32} (t : df_X8_textPages n P = some (nI a, P)) (d' : df_X8_dataPages n P = some (nI c, P)) (e1 : sI P 1 = nI (a * 1024)) (ha : a ≤ 64) (p1 : df_X6_addPages n x1 (nI 0) (nI a) (nI 5) M = some M1) (p2 : df_X6_addPages n x1 (nI a) (nI c) (nI 3) M1 = some M2) (p3 : df_X6_addPages n x1 (nI 60) (nI 4) (nI 3) M2 = some M3) : df_X6_load n x1 (s0, (M, P)) = df_X6_load_40 n n x1 (nI 0) (s0, (M3, P)) := by
  generalize hF : df_X6_load_40 n n = F
  have u1 : a * 1024 < 2 ^ 31 := by omega
  have u2 : a * 1024 / 1024 = a := by omega
  simp (disch := (first | assumption | decide | omega)) only [df_X6_load, df_X6_load_0, hF, t, d', e1, u2, p1, p2, p3, eq_self, Nat.reduceEqDiff, Nat.reduceLeDiff, nl_0, nl_1, nl_3, nl_4, nl_5, nl_60, nl_1024, no_1, no_1024, pk_mul, nI_add, nm_ck, nI_clamp, nI_ltI, nI_leI, nI_eq, nb_b2, nb_b1, ↓nb_let, nm_z0, nm_z1, nb_II, nb_IR, nb_RI, nb_RR, nm_IL, nm_IQ, nm_RL, nm_RQ, nm_LI, nm_LR, nm_LL, nm_LQ, nm_QI, nm_QR, nm_QL, nm_QQ, nm_rr, nm_ii, nm_eqm, not_false_eq_true, pk_sub, nm_div, nm_shl, nm_shr, nm_ush, nm_or8, nm_or64, nm_or256, nm_m1, nm_m3, nm_m7, nm_m15, nm_m31, nm_m63, nm_m255, nm_m511, nm_m1023, nm_m2047, nm_m65535, Nat.reduceMod, Nat.reducePow, Nat.reduceAdd, Nat.reduceSub, Nat.reduceMul, nm_bo, nm_bi, nm_rc, nm_ic, nm_ri, nm_rl, nm_rq, nm_ql, nm_qi, nm_li, nm_us, nm_uu, nm_cp, nm_sa31, nm_sa7, nm_m127, nm_m2, nm_nz, nm_nzk, nm_eq32, nm_nzf, if_true, if_false, ↓reduceIte, if_pos, if_neg]
theorem lc_40 (n : Nat) {g : Int32 → (Int32 → (St × (St × St) × St) → Option (St × (St × St) × St))} {M : St × St} {P s0 : St} {x1 : Int32} {Z : Nat} (hZ : Z ≤ 32768) (e2 : sI P 2 = nI Z) : dF_X6_load_40 n g x1 (nI Z) (s0, (M, P)) = df_X6_load_80 n n x1 (nI 0) (s0, (M, P)) := by
  generalize hF : df_X6_load_80 n n = F
  have u6 : Z < 2 ^ 31 := by omega
  simp (disch := (first | assumption | decide | omega)) only [dF_X6_load_40, hF, e2, Nat.le_refl, eq_self, Nat.reduceEqDiff, Nat.reduceLeDiff, nl_0, nl_2, nl_255, nl_32768, no_1, no_1024, pk_mul, nI_add, nm_ck, nI_clamp, nI_ltI, nI_leI, nI_eq, nb_b2, nb_b1, ↓nb_let, nm_z0, nm_z1, nb_II, nb_IR, nb_RI, nb_RR, nm_IL, nm_IQ, nm_RL, nm_RQ, nm_LI, nm_LR, nm_LL, nm_LQ, nm_QI, nm_QR, nm_QL, nm_QQ, nm_rr, nm_ii, nm_eqm, not_false_eq_true, pk_sub, nm_div, nm_shl, nm_shr, nm_ush, nm_or8, nm_or64, nm_or256, nm_m1, nm_m3, nm_m7, nm_m15, nm_m31, nm_m63, nm_m255, nm_m511, nm_m1023, nm_m2047, nm_m65535, Nat.reduceMod, Nat.reducePow, Nat.reduceAdd, Nat.reduceSub, Nat.reduceMul, nm_bo, nm_bi, nm_rc, nm_ic, nm_ri, nm_rl, nm_rq, nm_ql, nm_qi, nm_li, nm_us, nm_uu, nm_cp, nm_sa31, nm_sa7, nm_m127, nm_m2, nm_nz, nm_nzk, nm_eq32, nm_nzf, if_true, if_false, ↓reduceIte, if_pos, if_neg]
theorem c4_60 : cN (fun k => decide (60 ≤ k)) 64 = 4 := by decide
/-- a program is loaded, in both -/
theorem nk_loadP (n : Nat) (hn : 40000 < n) {M X : St × St} {P s0 : St} {p v T Z : Nat} (h : rK M X) (hp : p < 16) (hv : v < 4) (pg : rPg P X.2 v T Z) (hno : ∀ k : Nat, k < 64 → sR X.1 16 (64 * p + k) = -nI 1) (hc : cU (sR X.1 16) + ((T + 1023) / 1024 + dpg T Z + 4) ≤ 256) : ∃ (w u g : Nat → Int32) (fu : Int32) (b fr ri ho : Nat → Int32) (us : Int32), rQ w u g b fr ri ho fu us ∧ (∀ i : Nat, i < 64 * p ∨ 64 * p + 64 ≤ i → fr i = sR X.1 16 i) ∧ (∀ k : Nat, k < 60 → (Z + 1023) / 1024 * 1024 ≤ k * 1024 → fr (64 * p + k) = -nI 1) ∧ df_X6_load n (nI p) (s0, (M, P)) = some (s0, (lM M w u g fu p ((Z + 1023) / 1024 * 1024), P)) ∧ df_X16_load n (nI p) (nI v) X = some (lX X b fr ri ho us p ((Z + 1023) / 1024 * 1024)) := by
  have lt := lp_t n pg
  have ld := lp_d n pg
  have ls := lq_s n hv pg
  have tl : (T + 1023) / 1024 + dpg T Z ≤ 32 ∧ (Z + 1023) / 1024 ≤ (T + 1023) / 1024 + dpg T Z ∧ (T + 1023) / 1024 + dpg T Z ≤ (Z + 1023) / 1024 := by
    obtain ⟨h1, h2, h3, _⟩ := pg
    unfold dpg
    rcases h3 with e | e <;> omega
  have ed : dpg T Z = (Z - (T + 1023) / 1024 * 1024 + 1023) / 1024 := rfl
  have hd : Z - (T + 1023) / 1024 * 1024 ≤ 32768 := by have := pg.2.1; omega
  have e1 := pg.2.2.2.2.2.2.1
  have e2 := pg.2.2.2.2.2.2.2.1
  have e3 := pg.2.2.2.2.2.2.2.2.1
  have hT := pg.1
  have hZ := pg.2.1
  have R0 := lr_2 n (by omega) (X := X) hp hv e1
  have rK0 : rK M (pR (pR X.1 9 (upd (fl (sR X.1 9) (32 * p) 32 (nI 0)) (32 * p + 2) (nI 65536))) 10 (upd (sR X.1 10) p (nI 0)), X.2) := h
  have hno0 : ∀ k : Nat, k < 64 → sR (pR (pR X.1 9 (upd (fl (sR X.1 9) (32 * p) 32 (nI 0)) (32 * p + 2) (nI 65536))) 10 (upd (sR X.1 10) p (nI 0)), X.2).1 16 (64 * p + k) = -nI 1 := hno
  have hc0 : cU (sR (pR (pR X.1 9 (upd (fl (sR X.1 9) (32 * p) 32 (nI 0)) (32 * p + 2) (nI 65536))) 10 (upd (sR X.1 10) p (nI 0)), X.2).1 16) + ((T + 1023) / 1024 + dpg T Z + 4) ≤ 256 := hc
  have e16 : sR (pR (pR X.1 9 (upd (fl (sR X.1 9) (32 * p) 32 (nI 0)) (32 * p + 2) (nI 65536))) 10 (upd (sR X.1 10) p (nI 0)), X.2).1 16 = sR X.1 16 := rfl
  have pgY : rPg P (pR (pR X.1 9 (upd (fl (sR X.1 9) (32 * p) 32 (nI 0)) (32 * p + 2) (nI 65536))) 10 (upd (sR X.1 10) p (nI 0)), X.2).2 v T Z := pg
  have eX : ∀ (b fr ri ho : Nat → Int32) (us : Int32) (H : Nat), lX X b fr ri ho us p H = (pR (pR (xU (pR (pR X.1 9 (upd (fl (sR X.1 9) (32 * p) 32 (nI 0)) (32 * p + 2) (nI 65536))) 10 (upd (sR X.1 10) p (nI 0)), X.2) b fr ri ho us).1 6 (upd (sR X.1 6) p (nI H))) 5 (upd (sR X.1 5) p (nI H)), X.2) := fun _ _ _ _ _ _ => rfl
  have y2 : (pR (pR X.1 9 (upd (fl (sR X.1 9) (32 * p) 32 (nI 0)) (32 * p + 2) (nI 65536))) 10 (upd (sR X.1 10) p (nI 0)), X.2).2 = X.2 := rfl
  have y6 : sR (pR (pR X.1 9 (upd (fl (sR X.1 9) (32 * p) 32 (nI 0)) (32 * p + 2) (nI 65536))) 10 (upd (sR X.1 10) p (nI 0)), X.2).1 6 = sR X.1 6 := rfl
  have y5 : sR (pR (pR X.1 9 (upd (fl (sR X.1 9) (32 * p) 32 (nI 0)) (32 * p + 2) (nI 65536))) 10 (upd (sR X.1 10) p (nI 0)), X.2).1 5 = sR X.1 5 := rfl
  generalize (pR (pR X.1 9 (upd (fl (sR X.1 9) (32 * p) 32 (nI 0)) (32 * p + 2) (nI 65536))) 10 (upd (sR X.1 10) p (nI 0)), X.2) = Y at R0 rK0 hno0 hc0 e16 pgY eX y2 y6 y5
  rw [e16] at hc0
  generalize ht : (T + 1023) / 1024 = t at lt ld ls tl ed hd hc hc0
  generalize hq : dpg T Z = q at ld tl hc hc0 ed
  -- the text's pages
  obtain ⟨w1, u1, g1, fu1, b1, fr1, ri1, ho1, us1, a1, n1, ⟨i1, j1, k1, l1⟩⟩ := nk_addPages n (by omega) (M := M) (X := Y) rK0 (p := p) (a := 0) (c := t) (r := 5) hp (by omega) (by omega) (by omega) (by rw [e16]; omega) (fun k _ hk => hno0 k (by omega))
  rw [e16] at j1
  -- the data's
  have hab2 : ∀ k : Nat, t ≤ k → k < 64 → fr1 (64 * p + k) = -nI 1 := fun k x1 x2 => by
    rw [(l1 _ (by omega)).1]
    exact hno0 k (by omega)
  have A2 : ∀ j : Nat, j ≤ q → ∃ (w u g : Nat → Int32) (fu : Int32) (b fr ri ho : Nat → Int32) (us : Int32), df_X6_addPages n (nI p) (nI t) (nI j) (nI 3) (mU M w1 u1 g1 fu1) = some (mU (mU M w1 u1 g1 fu1) w u g fu) ∧ nps n p 3 t j (xU Y b1 fr1 ri1 ho1 us1) = some (xU (xU Y b1 fr1 ri1 ho1 us1) b fr ri ho us) ∧ iP (mU M w1 u1 g1 fu1) (xU Y b1 fr1 ri1 ho1 us1) p 3 t j w u g fu b fr ri ho us := fun j hj => nk_addPages n (by omega) (M := mU M w1 u1 g1 fu1) (X := xU Y b1 fr1 ri1 ho1 us1) i1 (p := p) (a := t) (c := j) (r := 3) hp (by omega) (by omega) (by omega) (show cU fr1 + j ≤ 256 by omega) (fun k x1 x2 => hab2 k x1 (by omega))
  obtain ⟨w2, u2, g2, fu2, b2, fr2, ri2, ho2, us2, a2, n2, ⟨i2, j2, k2, l2⟩⟩ := A2 q (Nat.le_refl q)
  have j2 : cU fr2 = cU fr1 + q := j2
  have l2 : ∀ i : Nat, ¬ (64 * p + t ≤ i ∧ i < 64 * p + t + q) → fr2 i = fr1 i ∧ ri2 i = ri1 i ∧ ∀ x : Nat, x < 256 → b2 (i * 256 + x) = b1 (i * 256 + x) := l2
  have hk2 : ∀ j : Nat, j ≤ q → ∃ s : St × St, nps n p 3 t j (xU Y b1 fr1 ri1 ho1 us1) = some s ∧ s.2 = (xU Y b1 fr1 ri1 ho1 us1).2 := fun j hj => by
    obtain ⟨_, _, _, _, b, fr, ri, ho, us, _, e, _⟩ := A2 j hj
    exact ⟨_, e, rfl⟩
  clear A2
  rw [mU_mU] at a2
  rw [xU_xU] at n2
  -- the stack's
  have hab3 : ∀ k : Nat, t + q ≤ k → k < 64 → fr2 (64 * p + k) = -nI 1 := fun k x1 x2 => by
    rw [(l2 _ (by omega)).1]
    exact hab2 k (by omega) x2
  obtain ⟨w3, u3, g3, fu3, b3, fr3, ri3, ho3, us3, a3, n3, ⟨i3, j3, k3, l3⟩⟩ := nk_addPages n (by omega) (M := mU M w2 u2 g2 fu2) (X := xU Y b2 fr2 ri2 ho2 us2) i2 (p := p) (a := 60) (c := 4) (r := 3) hp (by omega) (by omega) (by omega) (show cU fr2 + 4 ≤ 256 by omega) (fun k x1 x2 => hab3 k (by omega) (by omega))
  have j3 : cU fr3 = cU fr2 + 4 := j3
  have l3 : ∀ i : Nat, ¬ (64 * p + 60 ≤ i ∧ i < 64 * p + 60 + 4) → fr3 i = fr2 i ∧ ri3 i = ri2 i ∧ ∀ x : Nat, x < 256 → b3 (i * 256 + x) = b2 (i * 256 + x) := l3
  rw [mU_mU] at a3
  rw [xU_xU] at n3
  -- what stands now
  have out : ∀ i : Nat, ¬ (64 * p ≤ i ∧ i < 64 * p + 64) → fr3 i = sR X.1 16 i := fun i hi => by
    rw [(l3 i (by omega)).1, (l2 i (by omega)).1, (l1 i (by omega)).1, e16]
  have gone : ∀ k : Nat, t + q ≤ k → k < 60 → fr3 (64 * p + k) = -nI 1 := fun k x1 x2 => by
    rw [(l3 _ (by omega)).1]
    exact hab3 k x1 (by omega)
  have inn : ∀ k : Nat, k < t + q → (∃ f : Nat, f < 256 ∧ fr3 (64 * p + k) = nI f) ∧ ∀ x : Nat, x < 256 → b3 ((64 * p + k) * 256 + x) = nI 0 := fun k hk => by
    obtain ⟨y1, _, y3⟩ := l3 (64 * p + k) (by omega)
    rw [y1]
    by_cases c : k < t
    · obtain ⟨z1, _, z3⟩ := l2 (64 * p + k) (by omega)
      obtain ⟨v1, _, v3⟩ := k1 k (by omega) (by omega)
      rw [z1]
      exact ⟨v1, fun x hx => by rw [y3 x hx, z3 x hx]; exact v3 x hx⟩
    · obtain ⟨v1, _, v3⟩ := k2 k (by omega) (by omega)
      exact ⟨v1, fun x hx => by rw [y3 x hx]; exact v3 x hx⟩
  have cnt : cN (fun k => decide (¬ fr3 (64 * p + k) = -nI 1)) 64 ≤ t + q + 4 := by
    have m1 := cN_mono (P := fun k => decide (¬ fr3 (64 * p + k) = -nI 1)) (Q := fun k => decide (k < t + q) || decide (60 ≤ k)) (N := 64) (fun k hk z => by
      have z := of_decide_eq_true z
      by_cases c : k < t + q
      · rw [decide_eq_true c]; rfl
      · by_cases c' : 60 ≤ k
        · rw [decide_eq_true c', Bool.or_true]
        · exact absurd (gone k (by omega) (by omega)) z)
    have m2 := cN_or (fun k => decide (k < t + q)) (fun k => decide (60 ≤ k)) 64
    have m3 := (cN_lt (t + q) 64).1
    rw [c4_60] at m2
    omega
  have lone : ∀ k f : Nat, k < 64 → f < 256 → fr3 (64 * p + k) = nI f → cF fr3 f = 1 := fun k f hk hf e => cF_lone (fr0 := sR X.1 16) (s := 64 * p) (m := 64) (c := t + q + 4) (by omega) out hno (fun j hj => by
    rcases i3.1 (64 * p + j) (by omega) with z | ⟨f', _, z1, _, _, z2, _⟩
    · exact Or.inl z.1
    · exact Or.inr ⟨f', z1, z2⟩) cnt (by omega) hk hf e
  obtain ⟨m, w', b', r1, r2, r3⟩ := ld_puts n hn (M := M) (Y := Y) (P := P) (s0 := s0) i3 hp hv pgY (fun k hk => by
    obtain ⟨⟨f, x1, x2⟩, _⟩ := inn (k / 1024) (by omega)
    exact ⟨f, x1, x2, lone (k / 1024) f (by omega) x1 x2⟩) (fun k hk => by
    have z := (inn (k / 1024) (by omega)).2 (k / 4 % 256) (by omega)
    refine zb_0 ?_
    rw [show (65536 * p + k) / 4 = (64 * p + k / 1024) * 256 + k / 4 % 256 from by omega]
    exact z)
  refine ⟨w', u3, g3, fu3, b', fr3, ri3, ho3, us3, r1, fun i hi => out i (by omega), fun k x1 x2 => gone k (by omega) x1, ?_, ?_⟩
  · have c0 := lcl_0 n (M := M) (P := P) (s0 := s0) (p := p) (d := 0) (x1 := nI p) lt ld (by rw [pg.2.2.2.2.1, ht]) (by omega) a1 a2 a3
    rw [c0, r2, show df_X6_load_40 n (m + 1) = dF_X6_load_40 n (df_X6_load_40 n m) from rfl, lc_40 n hZ pg.2.2.2.2.2.1, lc_80 n (by omega) hp pg]
    rfl
  · rw [← ht] at n1
    rw [R0, lr_59 n (by omega) hT n1]
    have ed' : q = (Z - t * 1024 + 1023) / 1024 := ed
    rw [ed'] at n2 hk2
    rw [lr_89 n (by omega) (Y := xU Y b1 fr1 ri1 ho1 us1) hv (by omega) hd (by show df_X17_dataSize n (nI v) Y.2 = some (nI (Z - t * 1024), Y.2); rw [y2]; exact ls) (by show sR Y.2 2 v = nI (t * 1024); rw [y2, e2, ht]) n2 hk2, lr_137 n (by omega) n3, r3, show df_X16_load_161 n (m + 1) = dF_X16_load_161 n (df_X16_load_161 n m) from rfl, lr_161 n hp hv hZ (by show sR Y.2 3 v = nI Z; rw [y2]; exact e3), eX]
    show some (pR (pR (xU Y b' fr3 ri3 ho3 us3).1 6 (upd (sR Y.1 6) p _)) 5 (upd (sR Y.1 5) p _), Y.2) = _
    rw [y6, y5, y2]

/-- the pages of a running one go -/
theorem rM_pg {B : Nat} {M X : St × St} (h : rM B M X) {p : Nat} (hp : p < 16) (h1 : sR X.1 1 p = nI 1) {w u g b fr ri ho : Nat → Int32} {fu us : Int32} (hr : rQ w u g b fr ri ho fu us) (hfr : ∀ i : Nat, ¬ (64 * p ≤ i ∧ i < 64 * p + 64) → fr i = sR X.1 16 i) (hh : ∀ k : Nat, k < 64 → fr (64 * p + k) = -nI 1) : rM B (mU M w u g fu) (xU X b fr ri ho us) := by
  obtain ⟨m1, m2, m3, m4, m5, m6, m7⟩ := h
  refine ⟨hr, m2, rP_all m3 (p := p) ?_ (fun r hr => ⟨⟨fun _ _ => rfl, fun _ _ => rfl, fun _ _ => rfl, fun _ _ => rfl, rfl⟩, ⟨⟨rfl, rfl, rfl, rfl, rfl, rfl, rfl, rfl⟩, fun _ _ => rfl, rfl, fun _ _ => rfl, rfl, fun _ _ => rfl, fun _ _ => rfl, fun i hi => ?_, rfl⟩⟩), m4, m5, m6, m7⟩
  · obtain ⟨t, c', w, b', e, ht, hc', hw, hb, he, a1, a2, a3, a4, a5, a6, a7, a8, a9, a10, a11, a12, a13, a14, a15, a16, a17, a18, a19, a20, a21⟩ := m3 p hp
    have t1 : t = 1 := nm_inI (by omega) (by omega) (a2.symm.trans h1)
    exact ⟨t, c', w, b', e, ht, hc', hw, hb, he, a1, a2, a3, a4, a5, a6, a7, a8, a9, a10, a11, a12, a13, a14, a15, fun k hk _ => hh k (by omega), a17, a18, fun z => by omega, fun z => by omega, a21⟩
  · show fr (64 * r + i) = _ ↔ sR X.1 16 (64 * r + i) = _
    rw [hfr _ (by omega)]
/-- behind the load: handlers, within, since, reserved, outcome -/
def eX (X : St × St) (p : Nat) : St × St := (pI (pI (pQ (pR (pR X.1 13 (fl (sR X.1 13) (16 * p) 16 (nI 0))) 8 (upd (sR X.1 8) p (nI 0))) 0 (vp_updL (sQ X.1 0) p (-1))) 4 (-nI 1)) 13 (nI 2), X.2)
theorem er_58 (n : Nat) (hn : 1024 < n) {X : St × St} {p : Nat} (hp : p < 16) (h3 : sI X.1 12 = nI p) : df_X16_exec_58 n n (nI 0) X = some (nI 0, eX X p) := by
  obtain ⟨m, hm⟩ := nm_lq (fun m k => df_X16_exec_58 n m (nI k) (pR X.1 13 (fl (sR X.1 13) (16 * p) k (nI 0)), X.2)) 16 n (by omega) (fun k m hk => by
    have u1 : 16 * p + k < 256 := by omega
    have u2 : 16 * p + k < 2 ^ 31 := by omega
    have u3 : k < 2 ^ 31 := by omega
    have k1 : ¬ 16 ≤ k := by omega
    rw [show df_X16_exec_58 n (m + 1) = dF_X16_exec_58 n (df_X16_exec_58 n m) from rfl]
    generalize df_X16_exec_58 n m = G
    simp (disch := (first | assumption | decide | omega)) only [dF_X16_exec_58, k1, h3, fl_s, eq_self, Nat.reduceEqDiff, Nat.reduceLeDiff, nl_0, nl_1, nl_2, nl_4, nl_8, nl_12, nl_13, nl_16, nl_256, no_1, no_1024, pk_mul, nI_add, nm_ck, nI_clamp, nI_ltI, nI_leI, nI_eq, nb_b2, nb_b1, ↓nb_let, nm_z0, nm_z1, nb_II, nb_IR, nb_RI, nb_RR, nm_IL, nm_IQ, nm_RL, nm_RQ, nm_LI, nm_LR, nm_LL, nm_LQ, nm_QI, nm_QR, nm_QL, nm_QQ, nm_rr, nm_ii, nm_eqm, not_false_eq_true, pk_sub, nm_div, nm_shl, nm_shr, nm_ush, nm_or8, nm_or64, nm_or256, nm_m1, nm_m3, nm_m7, nm_m15, nm_m31, nm_m63, nm_m255, nm_m511, nm_m1023, nm_m2047, nm_m65535, Nat.reduceMod, Nat.reducePow, Nat.reduceAdd, Nat.reduceSub, Nat.reduceMul, nm_bo, nm_bi, nm_rc, nm_ic, nm_ri, nm_rl, nm_rq, nm_ql, nm_qi, nm_li, nm_us, nm_uu, nm_cp, nm_sa31, nm_sa7, nm_m127, nm_m2, nm_nz, nm_nzk, nm_eq32, nm_nzf, if_true, if_false, ↓reduceIte, if_pos, if_neg])
  rw [fl_0, nm_r0] at hm
  refine Eq.trans hm ?_
  show df_X16_exec_58 n (m + 1) (nI 16) _ = _
  rw [show df_X16_exec_58 n (m + 1) = dF_X16_exec_58 n (df_X16_exec_58 n m) from rfl]
  generalize df_X16_exec_58 n m = G
  have u3 : p < 2 ^ 31 := by omega
  unfold eX
  generalize fl (sR X.1 13) (16 * p) 16 (nI 0) = R
  simp (disch := (first | assumption | decide | omega)) only [dF_X16_exec_58, df_X16_tell_0, df_X16_tell, h3, eq_self, Nat.reduceEqDiff, Nat.reduceLeDiff, nl_0, nl_1, nl_2, nl_4, nl_8, nl_12, nl_13, nl_16, nl_256, no_1, no_1024, pk_mul, nI_add, nm_ck, nI_clamp, nI_ltI, nI_leI, nI_eq, nb_b2, nb_b1, ↓nb_let, nm_z0, nm_z1, nb_II, nb_IR, nb_RI, nb_RR, nm_IL, nm_IQ, nm_RL, nm_RQ, nm_LI, nm_LR, nm_LL, nm_LQ, nm_QI, nm_QR, nm_QL, nm_QQ, nm_rr, nm_ii, nm_eqm, not_false_eq_true, pk_sub, nm_div, nm_shl, nm_shr, nm_ush, nm_or8, nm_or64, nm_or256, nm_m1, nm_m3, nm_m7, nm_m15, nm_m31, nm_m63, nm_m255, nm_m511, nm_m1023, nm_m2047, nm_m65535, Nat.reduceMod, Nat.reducePow, Nat.reduceAdd, Nat.reduceSub, Nat.reduceMul, nm_bo, nm_bi, nm_rc, nm_ic, nm_ri, nm_rl, nm_rq, nm_ql, nm_qi, nm_li, nm_us, nm_uu, nm_cp, nm_sa31, nm_sa7, nm_m127, nm_m2, nm_nz, nm_nzk, nm_eq32, nm_nzf, if_true, if_false, ↓reduceIte, if_pos, if_neg]
theorem lX_rows (X : St × St) (b fr ri ho : Nat → Int32) (us : Int32) (p H : Nat) : (∀ k : Nat, k = 1 ∨ k = 2 ∨ k = 3 ∨ k = 4 ∨ k = 7 ∨ k = 11 ∨ k = 12 ∨ k = 14 ∨ (19 ≤ k) ∨ k = 0 → sR (eX (lX X b fr ri ho us p H) p).1 k = sR X.1 k) ∧ sR (eX (lX X b fr ri ho us p H) p).1 5 = upd (sR X.1 5) p (nI H) ∧ sR (eX (lX X b fr ri ho us p H) p).1 6 = upd (sR X.1 6) p (nI H) ∧ sR (eX (lX X b fr ri ho us p H) p).1 8 = upd (sR X.1 8) p (nI 0) ∧ sR (eX (lX X b fr ri ho us p H) p).1 9 = upd (fl (sR X.1 9) (32 * p) 32 (nI 0)) (32 * p + 2) (nI 65536) ∧ sR (eX (lX X b fr ri ho us p H) p).1 10 = upd (sR X.1 10) p (nI 0) ∧ sR (eX (lX X b fr ri ho us p H) p).1 13 = fl (sR X.1 13) (16 * p) 16 (nI 0) ∧ sR (eX (lX X b fr ri ho us p H) p).1 15 = b ∧ sR (eX (lX X b fr ri ho us p H) p).1 16 = fr ∧ sR (eX (lX X b fr ri ho us p H) p).1 17 = ri ∧ sR (eX (lX X b fr ri ho us p H) p).1 18 = ho := by
  refine ⟨fun k hk => ?_, ?_, ?_, ?_, ?_, ?_, ?_, ?_, ?_, ?_, ?_⟩
  · have k5 : ¬ k = 5 := by omega
    have k6 : ¬ k = 6 := by omega
    have k8 : ¬ k = 8 := by omega
    have k9 : ¬ k = 9 := by omega
    have k10 : ¬ k = 10 := by omega
    have k13 : ¬ k = 13 := by omega
    have k15 : ¬ k = 15 := by omega
    have k16 : ¬ k = 16 := by omega
    have k17 : ¬ k = 17 := by omega
    have k18 : ¬ k = 18 := by omega
    simp (disch := (first | assumption | decide | omega)) only [eX, lX, xU, k5, k6, k8, k9, k10, k13, k15, k16, k17, k18, eq_self, Nat.reduceEqDiff, Nat.reduceLeDiff, no_1, no_1024, pk_mul, nI_add, nm_ck, nI_clamp, nI_ltI, nI_leI, nI_eq, nb_b2, nb_b1, ↓nb_let, nm_z0, nm_z1, nb_II, nb_IR, nb_RI, nb_RR, nm_IL, nm_IQ, nm_RL, nm_RQ, nm_LI, nm_LR, nm_LL, nm_LQ, nm_QI, nm_QR, nm_QL, nm_QQ, nm_rr, nm_ii, nm_eqm, not_false_eq_true, pk_sub, nm_div, nm_shl, nm_shr, nm_ush, nm_or8, nm_or64, nm_or256, nm_m1, nm_m3, nm_m7, nm_m15, nm_m31, nm_m63, nm_m255, nm_m511, nm_m1023, nm_m2047, nm_m65535, Nat.reduceMod, Nat.reducePow, Nat.reduceAdd, Nat.reduceSub, Nat.reduceMul, nm_bo, nm_bi, nm_rc, nm_ic, nm_ri, nm_rl, nm_rq, nm_ql, nm_qi, nm_li, nm_us, nm_uu, nm_cp, nm_sa31, nm_sa7, nm_m127, nm_m2, nm_nz, nm_nzk, nm_eq32, nm_nzf, if_true, if_false, ↓reduceIte, if_pos, if_neg]
  all_goals simp (disch := (first | assumption | decide | omega)) only [eX, lX, xU, eq_self, Nat.reduceEqDiff, Nat.reduceLeDiff, no_1, no_1024, pk_mul, nI_add, nm_ck, nI_clamp, nI_ltI, nI_leI, nI_eq, nb_b2, nb_b1, ↓nb_let, nm_z0, nm_z1, nb_II, nb_IR, nb_RI, nb_RR, nm_IL, nm_IQ, nm_RL, nm_RQ, nm_LI, nm_LR, nm_LL, nm_LQ, nm_QI, nm_QR, nm_QL, nm_QQ, nm_rr, nm_ii, nm_eqm, not_false_eq_true, pk_sub, nm_div, nm_shl, nm_shr, nm_ush, nm_or8, nm_or64, nm_or256, nm_m1, nm_m3, nm_m7, nm_m15, nm_m31, nm_m63, nm_m255, nm_m511, nm_m1023, nm_m2047, nm_m65535, Nat.reduceMod, Nat.reducePow, Nat.reduceAdd, Nat.reduceSub, Nat.reduceMul, nm_bo, nm_bi, nm_rc, nm_ic, nm_ri, nm_rl, nm_rq, nm_ql, nm_qi, nm_li, nm_us, nm_uu, nm_cp, nm_sa31, nm_sa7, nm_m127, nm_m2, nm_nz, nm_nzk, nm_eq32, nm_nzf, if_true, if_false, ↓reduceIte, if_pos, if_neg]
theorem lX_ints (X : St × St) (b fr ri ho : Nat → Int32) (us : Int32) (p H : Nat) : (∀ k : Nat, ¬ k = 4 → ¬ k = 6 → ¬ k = 13 → sI (eX (lX X b fr ri ho us p H) p).1 k = sI X.1 k) ∧ sI (eX (lX X b fr ri ho us p H) p).1 4 = -nI 1 ∧ sI (eX (lX X b fr ri ho us p H) p).1 6 = us ∧ sI (eX (lX X b fr ri ho us p H) p).1 13 = nI 2 ∧ (∀ k : Nat, sL (eX (lX X b fr ri ho us p H) p).1 k = sL X.1 k) ∧ sQ (eX (lX X b fr ri ho us p H) p).1 0 = vp_updL (sQ X.1 0) p (-1) ∧ (eX (lX X b fr ri ho us p H) p).2 = X.2 := by
  refine ⟨fun k k1 k2 k3 => ?_, ?_, ?_, ?_, fun k => ?_, ?_, rfl⟩
  · simp (disch := (first | assumption | decide | omega)) only [eX, lX, xU, k1, k2, k3, eq_self, Nat.reduceEqDiff, Nat.reduceLeDiff, no_1, no_1024, pk_mul, nI_add, nm_ck, nI_clamp, nI_ltI, nI_leI, nI_eq, nb_b2, nb_b1, ↓nb_let, nm_z0, nm_z1, nb_II, nb_IR, nb_RI, nb_RR, nm_IL, nm_IQ, nm_RL, nm_RQ, nm_LI, nm_LR, nm_LL, nm_LQ, nm_QI, nm_QR, nm_QL, nm_QQ, nm_rr, nm_ii, nm_eqm, not_false_eq_true, pk_sub, nm_div, nm_shl, nm_shr, nm_ush, nm_or8, nm_or64, nm_or256, nm_m1, nm_m3, nm_m7, nm_m15, nm_m31, nm_m63, nm_m255, nm_m511, nm_m1023, nm_m2047, nm_m65535, Nat.reduceMod, Nat.reducePow, Nat.reduceAdd, Nat.reduceSub, Nat.reduceMul, nm_bo, nm_bi, nm_rc, nm_ic, nm_ri, nm_rl, nm_rq, nm_ql, nm_qi, nm_li, nm_us, nm_uu, nm_cp, nm_sa31, nm_sa7, nm_m127, nm_m2, nm_nz, nm_nzk, nm_eq32, nm_nzf, if_true, if_false, ↓reduceIte, if_pos, if_neg]
  all_goals simp (disch := (first | assumption | decide | omega)) only [eX, lX, xU, eq_self, Nat.reduceEqDiff, Nat.reduceLeDiff, no_1, no_1024, pk_mul, nI_add, nm_ck, nI_clamp, nI_ltI, nI_leI, nI_eq, nb_b2, nb_b1, ↓nb_let, nm_z0, nm_z1, nb_II, nb_IR, nb_RI, nb_RR, nm_IL, nm_IQ, nm_RL, nm_RQ, nm_LI, nm_LR, nm_LL, nm_LQ, nm_QI, nm_QR, nm_QL, nm_QQ, nm_rr, nm_ii, nm_eqm, not_false_eq_true, pk_sub, nm_div, nm_shl, nm_shr, nm_ush, nm_or8, nm_or64, nm_or256, nm_m1, nm_m3, nm_m7, nm_m15, nm_m31, nm_m63, nm_m255, nm_m511, nm_m1023, nm_m2047, nm_m65535, Nat.reduceMod, Nat.reducePow, Nat.reduceAdd, Nat.reduceSub, Nat.reduceMul, nm_bo, nm_bi, nm_rc, nm_ic, nm_ri, nm_rl, nm_rq, nm_ql, nm_qi, nm_li, nm_us, nm_uu, nm_cp, nm_sa31, nm_sa7, nm_m127, nm_m2, nm_nz, nm_nzk, nm_eq32, nm_nzf, if_true, if_false, ↓reduceIte, if_pos, if_neg]
theorem lM_rows (M : St × St) (w u g : Nat → Int32) (fu : Int32) (p H : Nat) : (∀ k : Nat, k = 4 ∨ 7 ≤ k → sR (lM M w u g fu p H).1 k = sR M.1 k) ∧ sR (lM M w u g fu p H).1 0 = w ∧ sR (lM M w u g fu p H).1 1 = u ∧ sR (lM M w u g fu p H).1 2 = g ∧ sR (lM M w u g fu p H).1 3 = rgl (sR M.1 3) p 33 ∧ sR (lM M w u g fu p H).1 5 = fl (sR M.1 5) (p * 16) 16 (nI 0) ∧ sR (lM M w u g fu p H).1 6 = upd (upd (upd (sR M.1 6) (p * 7 + 4) (nI 0)) (p * 7 + 5) (nI H)) (p * 7 + 6) (nI H) ∧ (∀ k : Nat, ¬ k = 0 → ¬ k = 6 → sI (lM M w u g fu p H).1 k = sI M.1 k) ∧ sI (lM M w u g fu p H).1 0 = fu ∧ sI (lM M w u g fu p H).1 6 = -nI 1 ∧ (∀ k : Nat, sL (lM M w u g fu p H).1 k = sL M.1 k) ∧ sQ (lM M w u g fu p H).1 0 = vp_updL (sQ M.1 0) p (-1) ∧ (lM M w u g fu p H).2 = M.2 := by
  refine ⟨fun k hk => ?_, ?_, ?_, ?_, ?_, ?_, ?_, fun k k1 k2 => ?_, ?_, ?_, fun k => ?_, ?_, rfl⟩
  · have k0 : ¬ k = 0 := by omega
    have k1 : ¬ k = 1 := by omega
    have k2 : ¬ k = 2 := by omega
    have k3 : ¬ k = 3 := by omega
    have k5 : ¬ k = 5 := by omega
    have k6 : ¬ k = 6 := by omega
    simp (disch := (first | assumption | decide | omega)) only [lM, mU, k0, k1, k2, k3, k5, k6, eq_self, Nat.reduceEqDiff, Nat.reduceLeDiff, no_1, no_1024, pk_mul, nI_add, nm_ck, nI_clamp, nI_ltI, nI_leI, nI_eq, nb_b2, nb_b1, ↓nb_let, nm_z0, nm_z1, nb_II, nb_IR, nb_RI, nb_RR, nm_IL, nm_IQ, nm_RL, nm_RQ, nm_LI, nm_LR, nm_LL, nm_LQ, nm_QI, nm_QR, nm_QL, nm_QQ, nm_rr, nm_ii, nm_eqm, not_false_eq_true, pk_sub, nm_div, nm_shl, nm_shr, nm_ush, nm_or8, nm_or64, nm_or256, nm_m1, nm_m3, nm_m7, nm_m15, nm_m31, nm_m63, nm_m255, nm_m511, nm_m1023, nm_m2047, nm_m65535, Nat.reduceMod, Nat.reducePow, Nat.reduceAdd, Nat.reduceSub, Nat.reduceMul, nm_bo, nm_bi, nm_rc, nm_ic, nm_ri, nm_rl, nm_rq, nm_ql, nm_qi, nm_li, nm_us, nm_uu, nm_cp, nm_sa31, nm_sa7, nm_m127, nm_m2, nm_nz, nm_nzk, nm_eq32, nm_nzf, if_true, if_false, ↓reduceIte, if_pos, if_neg]
  · simp (disch := (first | assumption | decide | omega)) only [lM, mU, eq_self, Nat.reduceEqDiff, Nat.reduceLeDiff, no_1, no_1024, pk_mul, nI_add, nm_ck, nI_clamp, nI_ltI, nI_leI, nI_eq, nb_b2, nb_b1, ↓nb_let, nm_z0, nm_z1, nb_II, nb_IR, nb_RI, nb_RR, nm_IL, nm_IQ, nm_RL, nm_RQ, nm_LI, nm_LR, nm_LL, nm_LQ, nm_QI, nm_QR, nm_QL, nm_QQ, nm_rr, nm_ii, nm_eqm, not_false_eq_true, pk_sub, nm_div, nm_shl, nm_shr, nm_ush, nm_or8, nm_or64, nm_or256, nm_m1, nm_m3, nm_m7, nm_m15, nm_m31, nm_m63, nm_m255, nm_m511, nm_m1023, nm_m2047, nm_m65535, Nat.reduceMod, Nat.reducePow, Nat.reduceAdd, Nat.reduceSub, Nat.reduceMul, nm_bo, nm_bi, nm_rc, nm_ic, nm_ri, nm_rl, nm_rq, nm_ql, nm_qi, nm_li, nm_us, nm_uu, nm_cp, nm_sa31, nm_sa7, nm_m127, nm_m2, nm_nz, nm_nzk, nm_eq32, nm_nzf, if_true, if_false, ↓reduceIte, if_pos, if_neg]
  · simp (disch := (first | assumption | decide | omega)) only [lM, mU, eq_self, Nat.reduceEqDiff, Nat.reduceLeDiff, no_1, no_1024, pk_mul, nI_add, nm_ck, nI_clamp, nI_ltI, nI_leI, nI_eq, nb_b2, nb_b1, ↓nb_let, nm_z0, nm_z1, nb_II, nb_IR, nb_RI, nb_RR, nm_IL, nm_IQ, nm_RL, nm_RQ, nm_LI, nm_LR, nm_LL, nm_LQ, nm_QI, nm_QR, nm_QL, nm_QQ, nm_rr, nm_ii, nm_eqm, not_false_eq_true, pk_sub, nm_div, nm_shl, nm_shr, nm_ush, nm_or8, nm_or64, nm_or256, nm_m1, nm_m3, nm_m7, nm_m15, nm_m31, nm_m63, nm_m255, nm_m511, nm_m1023, nm_m2047, nm_m65535, Nat.reduceMod, Nat.reducePow, Nat.reduceAdd, Nat.reduceSub, Nat.reduceMul, nm_bo, nm_bi, nm_rc, nm_ic, nm_ri, nm_rl, nm_rq, nm_ql, nm_qi, nm_li, nm_us, nm_uu, nm_cp, nm_sa31, nm_sa7, nm_m127, nm_m2, nm_nz, nm_nzk, nm_eq32, nm_nzf, if_true, if_false, ↓reduceIte, if_pos, if_neg]
  · simp (disch := (first | assumption | decide | omega)) only [lM, mU, eq_self, Nat.reduceEqDiff, Nat.reduceLeDiff, no_1, no_1024, pk_mul, nI_add, nm_ck, nI_clamp, nI_ltI, nI_leI, nI_eq, nb_b2, nb_b1, ↓nb_let, nm_z0, nm_z1, nb_II, nb_IR, nb_RI, nb_RR, nm_IL, nm_IQ, nm_RL, nm_RQ, nm_LI, nm_LR, nm_LL, nm_LQ, nm_QI, nm_QR, nm_QL, nm_QQ, nm_rr, nm_ii, nm_eqm, not_false_eq_true, pk_sub, nm_div, nm_shl, nm_shr, nm_ush, nm_or8, nm_or64, nm_or256, nm_m1, nm_m3, nm_m7, nm_m15, nm_m31, nm_m63, nm_m255, nm_m511, nm_m1023, nm_m2047, nm_m65535, Nat.reduceMod, Nat.reducePow, Nat.reduceAdd, Nat.reduceSub, Nat.reduceMul, nm_bo, nm_bi, nm_rc, nm_ic, nm_ri, nm_rl, nm_rq, nm_ql, nm_qi, nm_li, nm_us, nm_uu, nm_cp, nm_sa31, nm_sa7, nm_m127, nm_m2, nm_nz, nm_nzk, nm_eq32, nm_nzf, if_true, if_false, ↓reduceIte, if_pos, if_neg]
  · simp (disch := (first | assumption | decide | omega)) only [lM, mU, eq_self, Nat.reduceEqDiff, Nat.reduceLeDiff, no_1, no_1024, pk_mul, nI_add, nm_ck, nI_clamp, nI_ltI, nI_leI, nI_eq, nb_b2, nb_b1, ↓nb_let, nm_z0, nm_z1, nb_II, nb_IR, nb_RI, nb_RR, nm_IL, nm_IQ, nm_RL, nm_RQ, nm_LI, nm_LR, nm_LL, nm_LQ, nm_QI, nm_QR, nm_QL, nm_QQ, nm_rr, nm_ii, nm_eqm, not_false_eq_true, pk_sub, nm_div, nm_shl, nm_shr, nm_ush, nm_or8, nm_or64, nm_or256, nm_m1, nm_m3, nm_m7, nm_m15, nm_m31, nm_m63, nm_m255, nm_m511, nm_m1023, nm_m2047, nm_m65535, Nat.reduceMod, Nat.reducePow, Nat.reduceAdd, Nat.reduceSub, Nat.reduceMul, nm_bo, nm_bi, nm_rc, nm_ic, nm_ri, nm_rl, nm_rq, nm_ql, nm_qi, nm_li, nm_us, nm_uu, nm_cp, nm_sa31, nm_sa7, nm_m127, nm_m2, nm_nz, nm_nzk, nm_eq32, nm_nzf, if_true, if_false, ↓reduceIte, if_pos, if_neg]
  · simp (disch := (first | assumption | decide | omega)) only [lM, mU, eq_self, Nat.reduceEqDiff, Nat.reduceLeDiff, no_1, no_1024, pk_mul, nI_add, nm_ck, nI_clamp, nI_ltI, nI_leI, nI_eq, nb_b2, nb_b1, ↓nb_let, nm_z0, nm_z1, nb_II, nb_IR, nb_RI, nb_RR, nm_IL, nm_IQ, nm_RL, nm_RQ, nm_LI, nm_LR, nm_LL, nm_LQ, nm_QI, nm_QR, nm_QL, nm_QQ, nm_rr, nm_ii, nm_eqm, not_false_eq_true, pk_sub, nm_div, nm_shl, nm_shr, nm_ush, nm_or8, nm_or64, nm_or256, nm_m1, nm_m3, nm_m7, nm_m15, nm_m31, nm_m63, nm_m255, nm_m511, nm_m1023, nm_m2047, nm_m65535, Nat.reduceMod, Nat.reducePow, Nat.reduceAdd, Nat.reduceSub, Nat.reduceMul, nm_bo, nm_bi, nm_rc, nm_ic, nm_ri, nm_rl, nm_rq, nm_ql, nm_qi, nm_li, nm_us, nm_uu, nm_cp, nm_sa31, nm_sa7, nm_m127, nm_m2, nm_nz, nm_nzk, nm_eq32, nm_nzf, if_true, if_false, ↓reduceIte, if_pos, if_neg]
  · simp (disch := (first | assumption | decide | omega)) only [lM, mU, eq_self, Nat.reduceEqDiff, Nat.reduceLeDiff, no_1, no_1024, pk_mul, nI_add, nm_ck, nI_clamp, nI_ltI, nI_leI, nI_eq, nb_b2, nb_b1, ↓nb_let, nm_z0, nm_z1, nb_II, nb_IR, nb_RI, nb_RR, nm_IL, nm_IQ, nm_RL, nm_RQ, nm_LI, nm_LR, nm_LL, nm_LQ, nm_QI, nm_QR, nm_QL, nm_QQ, nm_rr, nm_ii, nm_eqm, not_false_eq_true, pk_sub, nm_div, nm_shl, nm_shr, nm_ush, nm_or8, nm_or64, nm_or256, nm_m1, nm_m3, nm_m7, nm_m15, nm_m31, nm_m63, nm_m255, nm_m511, nm_m1023, nm_m2047, nm_m65535, Nat.reduceMod, Nat.reducePow, Nat.reduceAdd, Nat.reduceSub, Nat.reduceMul, nm_bo, nm_bi, nm_rc, nm_ic, nm_ri, nm_rl, nm_rq, nm_ql, nm_qi, nm_li, nm_us, nm_uu, nm_cp, nm_sa31, nm_sa7, nm_m127, nm_m2, nm_nz, nm_nzk, nm_eq32, nm_nzf, if_true, if_false, ↓reduceIte, if_pos, if_neg]
  · simp (disch := (first | assumption | decide | omega)) only [lM, mU, k1, k2, eq_self, Nat.reduceEqDiff, Nat.reduceLeDiff, no_1, no_1024, pk_mul, nI_add, nm_ck, nI_clamp, nI_ltI, nI_leI, nI_eq, nb_b2, nb_b1, ↓nb_let, nm_z0, nm_z1, nb_II, nb_IR, nb_RI, nb_RR, nm_IL, nm_IQ, nm_RL, nm_RQ, nm_LI, nm_LR, nm_LL, nm_LQ, nm_QI, nm_QR, nm_QL, nm_QQ, nm_rr, nm_ii, nm_eqm, not_false_eq_true, pk_sub, nm_div, nm_shl, nm_shr, nm_ush, nm_or8, nm_or64, nm_or256, nm_m1, nm_m3, nm_m7, nm_m15, nm_m31, nm_m63, nm_m255, nm_m511, nm_m1023, nm_m2047, nm_m65535, Nat.reduceMod, Nat.reducePow, Nat.reduceAdd, Nat.reduceSub, Nat.reduceMul, nm_bo, nm_bi, nm_rc, nm_ic, nm_ri, nm_rl, nm_rq, nm_ql, nm_qi, nm_li, nm_us, nm_uu, nm_cp, nm_sa31, nm_sa7, nm_m127, nm_m2, nm_nz, nm_nzk, nm_eq32, nm_nzf, if_true, if_false, ↓reduceIte, if_pos, if_neg]
  · simp (disch := (first | assumption | decide | omega)) only [lM, mU, eq_self, Nat.reduceEqDiff, Nat.reduceLeDiff, no_1, no_1024, pk_mul, nI_add, nm_ck, nI_clamp, nI_ltI, nI_leI, nI_eq, nb_b2, nb_b1, ↓nb_let, nm_z0, nm_z1, nb_II, nb_IR, nb_RI, nb_RR, nm_IL, nm_IQ, nm_RL, nm_RQ, nm_LI, nm_LR, nm_LL, nm_LQ, nm_QI, nm_QR, nm_QL, nm_QQ, nm_rr, nm_ii, nm_eqm, not_false_eq_true, pk_sub, nm_div, nm_shl, nm_shr, nm_ush, nm_or8, nm_or64, nm_or256, nm_m1, nm_m3, nm_m7, nm_m15, nm_m31, nm_m63, nm_m255, nm_m511, nm_m1023, nm_m2047, nm_m65535, Nat.reduceMod, Nat.reducePow, Nat.reduceAdd, Nat.reduceSub, Nat.reduceMul, nm_bo, nm_bi, nm_rc, nm_ic, nm_ri, nm_rl, nm_rq, nm_ql, nm_qi, nm_li, nm_us, nm_uu, nm_cp, nm_sa31, nm_sa7, nm_m127, nm_m2, nm_nz, nm_nzk, nm_eq32, nm_nzf, if_true, if_false, ↓reduceIte, if_pos, if_neg]
  · simp (disch := (first | assumption | decide | omega)) only [lM, mU, eq_self, Nat.reduceEqDiff, Nat.reduceLeDiff, no_1, no_1024, pk_mul, nI_add, nm_ck, nI_clamp, nI_ltI, nI_leI, nI_eq, nb_b2, nb_b1, ↓nb_let, nm_z0, nm_z1, nb_II, nb_IR, nb_RI, nb_RR, nm_IL, nm_IQ, nm_RL, nm_RQ, nm_LI, nm_LR, nm_LL, nm_LQ, nm_QI, nm_QR, nm_QL, nm_QQ, nm_rr, nm_ii, nm_eqm, not_false_eq_true, pk_sub, nm_div, nm_shl, nm_shr, nm_ush, nm_or8, nm_or64, nm_or256, nm_m1, nm_m3, nm_m7, nm_m15, nm_m31, nm_m63, nm_m255, nm_m511, nm_m1023, nm_m2047, nm_m65535, Nat.reduceMod, Nat.reducePow, Nat.reduceAdd, Nat.reduceSub, Nat.reduceMul, nm_bo, nm_bi, nm_rc, nm_ic, nm_ri, nm_rl, nm_rq, nm_ql, nm_qi, nm_li, nm_us, nm_uu, nm_cp, nm_sa31, nm_sa7, nm_m127, nm_m2, nm_nz, nm_nzk, nm_eq32, nm_nzf, if_true, if_false, ↓reduceIte, if_pos, if_neg]
  · simp (disch := (first | assumption | decide | omega)) only [lM, mU, eq_self, Nat.reduceEqDiff, Nat.reduceLeDiff, no_1, no_1024, pk_mul, nI_add, nm_ck, nI_clamp, nI_ltI, nI_leI, nI_eq, nb_b2, nb_b1, ↓nb_let, nm_z0, nm_z1, nb_II, nb_IR, nb_RI, nb_RR, nm_IL, nm_IQ, nm_RL, nm_RQ, nm_LI, nm_LR, nm_LL, nm_LQ, nm_QI, nm_QR, nm_QL, nm_QQ, nm_rr, nm_ii, nm_eqm, not_false_eq_true, pk_sub, nm_div, nm_shl, nm_shr, nm_ush, nm_or8, nm_or64, nm_or256, nm_m1, nm_m3, nm_m7, nm_m15, nm_m31, nm_m63, nm_m255, nm_m511, nm_m1023, nm_m2047, nm_m65535, Nat.reduceMod, Nat.reducePow, Nat.reduceAdd, Nat.reduceSub, Nat.reduceMul, nm_bo, nm_bi, nm_rc, nm_ic, nm_ri, nm_rl, nm_rq, nm_ql, nm_qi, nm_li, nm_us, nm_uu, nm_cp, nm_sa31, nm_sa7, nm_m127, nm_m2, nm_nz, nm_nzk, nm_eq32, nm_nzf, if_true, if_false, ↓reduceIte, if_pos, if_neg]
  · simp (disch := (first | assumption | decide | omega)) only [lM, mU, eq_self, Nat.reduceEqDiff, Nat.reduceLeDiff, no_1, no_1024, pk_mul, nI_add, nm_ck, nI_clamp, nI_ltI, nI_leI, nI_eq, nb_b2, nb_b1, ↓nb_let, nm_z0, nm_z1, nb_II, nb_IR, nb_RI, nb_RR, nm_IL, nm_IQ, nm_RL, nm_RQ, nm_LI, nm_LR, nm_LL, nm_LQ, nm_QI, nm_QR, nm_QL, nm_QQ, nm_rr, nm_ii, nm_eqm, not_false_eq_true, pk_sub, nm_div, nm_shl, nm_shr, nm_ush, nm_or8, nm_or64, nm_or256, nm_m1, nm_m3, nm_m7, nm_m15, nm_m31, nm_m63, nm_m255, nm_m511, nm_m1023, nm_m2047, nm_m65535, Nat.reduceMod, Nat.reducePow, Nat.reduceAdd, Nat.reduceSub, Nat.reduceMul, nm_bo, nm_bi, nm_rc, nm_ic, nm_ri, nm_rl, nm_rq, nm_ql, nm_qi, nm_li, nm_us, nm_uu, nm_cp, nm_sa31, nm_sa7, nm_m127, nm_m2, nm_nz, nm_nzk, nm_eq32, nm_nzf, if_true, if_false, ↓reduceIte, if_pos, if_neg]
/-- a program is loaded into a running one -/
theorem rM_load {B : Nat} {M X : St × St} (h : rM B M X) {p : Nat} (hp : p < 16) (h1 : sR X.1 1 p = nI 1) {H : Nat} (hH : H ≤ 61440) {w u g b fr ri ho : Nat → Int32} {fu us : Int32} (hr : rQ w u g b fr ri ho fu us) (hfr : ∀ i : Nat, i < 64 * p ∨ 64 * p + 64 ≤ i → fr i = sR X.1 16 i) (hh : ∀ k : Nat, k < 60 → H ≤ k * 1024 → fr (64 * p + k) = -nI 1) : rM B (lM M w u g fu p H) (eX (lX X b fr ri ho us p H) p) := by
  obtain ⟨m1, m2, m3, m4, m5, m6, m7⟩ := h
  obtain ⟨c1, c2, c3, c4, c5, c6, c7, c8, c9, c10, c11⟩ := lX_rows X b fr ri ho us p H
  obtain ⟨d1, d2, d3, d4, d5, d6, d7⟩ := lX_ints X b fr ri ho us p H
  obtain ⟨f1, f2, f3, f4, f5, f6, f7, f8, f9, f10, f11, f12, f13⟩ := lM_rows M w u g fu p H
  generalize eX (lX X b fr ri ho us p H) p = X' at c1 c2 c3 c4 c5 c6 c7 c8 c9 c10 c11 d1 d2 d3 d4 d5 d6 d7
  generalize lM M w u g fu p H = M' at f1 f2 f3 f4 f5 f6 f7 f8 f9 f10 f11 f12 f13
  have r1 := c1 1 (by omega)
  have r2 := c1 2 (by omega)
  have r3 := c1 3 (by omega)
  have r4 := c1 4 (by omega)
  have r7 := c1 7 (by omega)
  have r11 := c1 11 (by omega)
  have r12 := c1 12 (by omega)
  have r14 := c1 14 (by omega)
  refine ⟨?_, ?_, rP_all m3 (p := p) ?_ (fun r hne => ⟨⟨fun i hi => ?_, fun i hi => ?_, fun i hi => ?_, fun i hi => ?_, ?_⟩, ⟨⟨?_, ?_, ?_, ?_, ?_, ?_, ?_, ?_⟩, fun i hi => ?_, ?_, fun i hi => ?_, ?_, fun i hi => ?_, fun i hi => ?_, fun i hi => ?_, ?_⟩⟩), ?_, ?_, ?_, ?_⟩
  · unfold rK
    rw [f2, f3, f4, c8, c9, c10, c11, f9, d3]
    exact hr
  · unfold rDD
    rw [f13, r14, c1 19 (by omega), c1 20 (by omega), c1 21 (by omega), c1 22 (by omega), c1 23 (by omega), c1 24 (by omega), c1 25 (by omega)]
    exact m2
  · obtain ⟨t, c', w0, b', e, ht, hc', hw, hb, he, a1, a2, a3, a4, a5, a6, a7, a8, a9, a10, a11, a12, a13, a14, a15, a16, a17, a18, a19, a20, a21⟩ := m3 p hp
    have t1 : t = 1 := nm_inI (by omega) (by omega) (a2.symm.trans h1)
    refine ⟨t, c', 0, H, H, ht, hc', by omega, hH, hH, ?_, ?_, ?_, ?_, ?_, fun z => by omega, fun z => ?_, ?_, ?_, ?_, ?_, ?_, ?_, ?_, ?_, fun k hk y => ?_, fun z => ⟨fun r hr => ?_, ?_⟩, fun z => ⟨fun k hk => ?_, ?_, fun y => by omega⟩, fun z => by omega, fun z => by omega, fun z => ?_⟩
    · rw [f7, nm_un (by omega), nm_un (by omega), nm_un (by omega)]; exact a1
    · rw [r1]; exact a2
    · rw [f7, nm_un (by omega), nm_un (by omega), nm_un (by omega), r2]; exact a3
    · rw [r2]; exact a4
    · rw [r2]; exact a5
    · rw [f7, nm_un (by omega), nm_un (by omega), nm_un (by omega)]; exact a7 z
    · rw [f7, nm_un (by omega), nm_un (by omega), nm_un (by omega)]; exact a8
    · rw [r4]; exact a9
    · rw [f7, nm_un (by omega), nm_un (by omega), nm_us]
    · rw [c4, nm_us]
    · rw [f7, nm_un (by omega), nm_us]
    · rw [c2, nm_us]
    · rw [f7, nm_us]
    · rw [c3, nm_us]
    · rw [c9]; exact hh k hk y
    · rw [f5, c5, rgl_i _ (by omega)]
      by_cases c : r = 2
      · rw [if_pos c, c, nm_us]
      · rw [if_neg c, nm_un (by omega), fl_i (by omega)]
    · rw [f5, c6, rgl_i _ (by omega), if_neg (by omega), nm_us]
    · rw [f6, c7, fl_i (by omega), fl_i (by omega)]
    · rw [f12, d6]; exact (if_pos rfl).trans (if_pos rfl).symm
    · rw [r7]; exact a21 z
  · rw [f7, nm_un (by omega), nm_un (by omega), nm_un (by omega)]
  · rw [f5, rgl_o _ (by omega)]
  · rw [f1 4 (by omega)]
  · rw [f6, fl_o (by omega)]
  · rw [f12]; exact up_o hne
  · rw [r1]
  · rw [r2]
  · rw [r3]
  · rw [r4]
  · rw [c2, nm_un hne]
  · rw [c3, nm_un hne]
  · rw [r7]
  · rw [c4, nm_un hne]
  · rw [c5, nm_un (by omega), fl_o (by omega)]
  · rw [c6, nm_un hne]
  · rw [r11]
  · rw [r12]
  · rw [c7, fl_o (by omega)]
  · rw [r14]
  · rw [c9, hfr _ (by omega)]
  · rw [d6]; exact up_o hne
  · rw [f8 2 (by omega) (by omega), r1]; exact m4
  · obtain ⟨g1, g2, g3, g4, g5, g6, g7, g8, g9, g10, g11⟩ := m5
    unfold rG
    rw [f8 3 (by omega) (by omega), f8 4 (by omega) (by omega), f8 5 (by omega) (by omega), f10, d1 1 (by omega) (by omega) (by omega), d1 2 (by omega) (by omega) (by omega), d1 3 (by omega) (by omega) (by omega), d2, f11, f11, d5, d5]
    exact ⟨g1, g2, g3, g4, g5, g6, g7, rfl, Or.inl rfl, g10, g11⟩
  · unfold rA
    rw [f8 1 (by omega) (by omega), d1 5 (by omega) (by omega) (by omega), f1 7 (by omega), c1 0 (by omega), f13]
    exact m6
  · unfold rTT
    rw [f13, c1 23 (by omega), c1 24 (by omega), c1 25 (by omega), c1 26 (by omega), c1 27 (by omega), c1 28 (by omega), c1 29 (by omega), c1 30 (by omega), c1 31 (by omega), c1 32 (by omega), d1 7 (by omega) (by omega) (by omega), d5]
    exact m7

/-- behind a call, in the world with the programs -/
def cB (B p : Nat) (s : St × Rw × (St × (St × (St × (St)))) × (St) × (St) × (Nat → St) × (Nat → St) × (Nat → St × (St))) (X : St × St) (oc : Option (Int64 × (St × Rw × (St × (St × (St × (St)))) × (St) × (St) × (Nat → St) × (Nat → St) × (Nat → St × (St))))) (or : Option (Int32 × (St × St))) : Prop := ∃ (v64 : Int64) (K' : St × (St × (St × St))), oc = some (v64, (s.1, (s.2.1, (K', s.2.2.2)))) ∧ cO B p s.2.2.1 X (some (v64, K')) or
/-- the four programs of both machines -/
def rPp (s : St × Rw × (St × (St × (St × (St)))) × (St) × (St) × (Nat → St) × (Nat → St) × (Nat → St × (St))) (Q : St) : Prop := sO s.2.2.1.1 0 = some 34 ∧ ∀ v : Nat, v < 4 → (s.2.1 0 v = none ∧ sR Q 0 v = nI 0) ∨ ∃ j T Z : Nat, j < 9 ∧ s.2.1 0 v = some j ∧ ¬ sR Q 0 v = nI 0 ∧ rPg (s.2.2.2.2.2.1 j) Q v T Z
theorem cB_id {B p : Nat} {s : St × Rw × (St × (St × (St × (St)))) × (St) × (St) × (Nat → St) × (Nat → St) × (Nat → St × (St))} {X : St × St} (h : cP B p s.2.2.1 X) {v64 : Int64} {v : Int32} (hv : v64 = v.toInt64) : cB B p s X (some (v64, s)) (some (v, X)) := ⟨v64, s.2.2.1, rfl, cO_id h hv⟩
theorem ec_p {s : Nat → St} {j : Nat} : (fun i => if i = j then s j else s i) = s := by
  funext i
  by_cases c : i = j
  · rw [if_pos c, c]
  · rw [if_neg c]
theorem ec_p2 {s : Nat → St} {j : Nat} : (fun i => if i = j then s j else if i = j then s j else s i) = s := by
  funext i
  by_cases c : i = j
  · rw [if_pos c, c]
  · rw [if_neg c, if_neg c]
theorem ec_4 (n : Nat) {s : St × Rw × (St × (St × (St × (St)))) × (St) × (St) × (Nat → St) × (Nat → St) × (Nat → St × (St))} {x1 : Int32} {j y z : Nat} (hj : j < 9) (ff : df_X6_framesFree n s.2.2.1.2.2 = some (nI z, s.2.2.1.2.2)) (pf : df_X6_pagesFor n (s.2.2.2.2.2.1 j) = some (nI y, s.2.2.2.2.2.1 j)) (yz : ¬ nI y ≤ nI z) : df_X5_exec_23 n x1 (some j) s = some (-4, s) := by
  simp only [df_X5_exec_23, nb_mS, ff, nb_b2, nb_let, nb_lt hj, pf, ec_p, if_neg yz]
theorem ec_1 (n : Nat) {s : St × Rw × (St × (St × (St × (St)))) × (St) × (St) × (Nat → St) × (Nat → St) × (Nat → St × (St))} {x1 : Int32} {j y z : Nat} (hj : j < 9) (ff : df_X6_framesFree n s.2.2.1.2.2 = some (nI z, s.2.2.1.2.2)) (pf : df_X6_pagesFor n (s.2.2.2.2.2.1 j) = some (nI y, s.2.2.2.2.2.1 j)) (yz : nI y ≤ nI z) {M1 M2 : St × St} (dp : df_X6_dropPages n x1 s.2.2.1.2.2 = some M1) (ld : df_X6_load n x1 (nd_st0, (M1, s.2.2.2.2.2.1 j)) = some (nd_st0, (M2, s.2.2.2.2.2.1 j))) : df_X5_exec_23 n x1 (some j) s = some (2199023255552, (s.1, (s.2.1, ((s.2.2.1.1, (s.2.2.1.2.1, M2)), s.2.2.2)))) := by
  simp only [df_X5_exec_23, nb_mS, ff, nb_b2, nb_let, nb_lt hj, pf, ec_p, if_pos yz, dp, nb_b1, if_true, ↓reduceIte, ld, ec_p2]
theorem er_0 (n : Nat) {X : St × St} {v y p : Nat} (hv : v < 4) (h3 : sI X.1 12 = nI p) (a0 : ¬ sR X.2 0 v = nI 0) (pf : df_X16_pagesOf n (nI v) X = some (nI y, X)) (hF : df_X16_hasFrames n (nI y) X = some (nI 0, X)) : df_X16_exec n (nI v) X = some (-nI 4, X) := by
  have u1 : v < 2 ^ 31 := by omega
  have u2 : ¬ v < 0 := by omega
  have u3 : ¬ 3 < v := by omega
  simp (disch := (first | assumption | decide | omega)) only [df_X16_exec, df_X16_exec_0, u2, u3, a0, pf, hF, eq_self, Nat.reduceEqDiff, Nat.reduceLeDiff, nl_0, nl_3, nl_4, nl_12, no_1, no_1024, pk_mul, nI_add, nm_ck, nI_clamp, nI_ltI, nI_leI, nI_eq, nb_b2, nb_b1, ↓nb_let, nm_z0, nm_z1, nb_II, nb_IR, nb_RI, nb_RR, nm_IL, nm_IQ, nm_RL, nm_RQ, nm_LI, nm_LR, nm_LL, nm_LQ, nm_QI, nm_QR, nm_QL, nm_QQ, nm_rr, nm_ii, nm_eqm, not_false_eq_true, pk_sub, nm_div, nm_shl, nm_shr, nm_ush, nm_or8, nm_or64, nm_or256, nm_m1, nm_m3, nm_m7, nm_m15, nm_m31, nm_m63, nm_m255, nm_m511, nm_m1023, nm_m2047, nm_m65535, Nat.reduceMod, Nat.reducePow, Nat.reduceAdd, Nat.reduceSub, Nat.reduceMul, nm_bo, nm_bi, nm_rc, nm_ic, nm_ri, nm_rl, nm_rq, nm_ql, nm_qi, nm_li, nm_us, nm_uu, nm_cp, nm_sa31, nm_sa7, nm_m127, nm_m2, nm_nz, nm_nzk, nm_eq32, nm_nzf, if_true, if_false, ↓reduceIte, if_pos, if_neg]
theorem er_1 (n : Nat) {X X1 X2 : St × St} {v y p : Nat} (hv : v < 4) (h3 : sI X.1 12 = nI p) (a0 : ¬ sR X.2 0 v = nI 0) (pf : df_X16_pagesOf n (nI v) X = some (nI y, X)) (hF : df_X16_hasFrames n (nI y) X = some (nI 1, X)) (la : df_X16_leaveAll n (nI p) X = some X1) (h4 : sI X1.1 12 = nI p) (ld : df_X16_load n (nI p) (nI v) X1 = some X2) : df_X16_exec n (nI v) X = df_X16_exec_58 n n (nI 0) X2 := by
  have u1 : v < 2 ^ 31 := by omega
  have u2 : ¬ v < 0 := by omega
  have u3 : ¬ 3 < v := by omega
  generalize hG : df_X16_exec_58 n n = G
  simp (disch := (first | assumption | decide | omega)) only [df_X16_exec, df_X16_exec_0, hG, u2, u3, a0, pf, hF, h3, la, h4, ld, eq_self, Nat.reduceEqDiff, Nat.reduceLeDiff, nl_0, nl_3, nl_4, nl_12, no_1, no_1024, pk_mul, nI_add, nm_ck, nI_clamp, nI_ltI, nI_leI, nI_eq, nb_b2, nb_b1, ↓nb_let, nm_z0, nm_z1, nb_II, nb_IR, nb_RI, nb_RR, nm_IL, nm_IQ, nm_RL, nm_RQ, nm_LI, nm_LR, nm_LL, nm_LQ, nm_QI, nm_QR, nm_QL, nm_QQ, nm_rr, nm_ii, nm_eqm, not_false_eq_true, pk_sub, nm_div, nm_shl, nm_shr, nm_ush, nm_or8, nm_or64, nm_or256, nm_m1, nm_m3, nm_m7, nm_m15, nm_m31, nm_m63, nm_m255, nm_m511, nm_m1023, nm_m2047, nm_m65535, Nat.reduceMod, Nat.reducePow, Nat.reduceAdd, Nat.reduceSub, Nat.reduceMul, nm_bo, nm_bi, nm_rc, nm_ic, nm_ri, nm_rl, nm_rq, nm_ql, nm_qi, nm_li, nm_us, nm_uu, nm_cp, nm_sa31, nm_sa7, nm_m127, nm_m2, nm_nz, nm_nzk, nm_eq32, nm_nzf, if_true, if_false, ↓reduceIte, if_pos, if_neg]
/-- the kernel's call 'exec' -/
theorem nq_exec (n : Nat) (hn : 40000 < n) {B p : Nat} {s : St × Rw × (St × (St × (St × (St)))) × (St) × (St) × (Nat → St) × (Nat → St) × (Nat → St × (St))} {X : St × St} (h : cP B p s.2.2.1 X) (hP : rPp s X.2) (a : Int32) : cB B p s X (df_X5_exec n (nI p) a s) (df_X16_exec n a X) := by
  obtain ⟨h1, h2, h3, h4, h5, h6, h7⟩ := id h
  have ans : ∀ (w64 : Int64) (w : Int32), w64 = w.toInt64 → df_X5_exec n (nI p) a s = some (w64, s) → df_X16_exec n a X = some (w, X) → cB B p s X (df_X5_exec n (nI p) a s) (df_X16_exec n a X) := fun w64 w ew e1 e2 => by
    rw [e1, e2]
    exact cB_id h ew
  have none2 : ∀ x1 : Int32, df_X5_exec_23 n x1 none s = some (-2, s) := fun x1 => rfl
  rcases sg_cases a with ⟨z, _⟩ | ⟨v, hv, z⟩
  · exact ans (-2) (-nI 2) (by decide) (by simp (disch := (first | assumption | decide | omega)) only [df_X5_exec, df_X5_exec_0, df_X5_exec_13, z, none2, eq_self, Nat.reduceEqDiff, Nat.reduceLeDiff, nl_0, nl_4, nl_34, no_1, no_1024, pk_mul, nI_add, nm_ck, nI_clamp, nI_ltI, nI_leI, nI_eq, nb_b2, nb_b1, ↓nb_let, nm_z0, nm_z1, nb_II, nb_IR, nb_RI, nb_RR, nm_IL, nm_IQ, nm_RL, nm_RQ, nm_LI, nm_LR, nm_LL, nm_LQ, nm_QI, nm_QR, nm_QL, nm_QQ, nm_rr, nm_ii, nm_eqm, not_false_eq_true, pk_sub, nm_div, nm_shl, nm_shr, nm_ush, nm_or8, nm_or64, nm_or256, nm_m1, nm_m3, nm_m7, nm_m15, nm_m31, nm_m63, nm_m255, nm_m511, nm_m1023, nm_m2047, nm_m65535, Nat.reduceMod, Nat.reducePow, Nat.reduceAdd, Nat.reduceSub, Nat.reduceMul, nm_bo, nm_bi, nm_rc, nm_ic, nm_ri, nm_rl, nm_rq, nm_ql, nm_qi, nm_li, nm_us, nm_uu, nm_cp, nm_sa31, nm_sa7, nm_m127, nm_m2, nm_nz, nm_nzk, nm_eq32, nm_nzf, if_true, if_false, ↓reduceIte, if_pos, if_neg]) (by simp (disch := (first | assumption | decide | omega)) only [df_X16_exec, df_X16_exec_0, df_X16_exec_21, z, eq_self, Nat.reduceEqDiff, Nat.reduceLeDiff, nl_0, nl_2, nl_3, nl_4, nl_12, no_1, no_1024, pk_mul, nI_add, nm_ck, nI_clamp, nI_ltI, nI_leI, nI_eq, nb_b2, nb_b1, ↓nb_let, nm_z0, nm_z1, nb_II, nb_IR, nb_RI, nb_RR, nm_IL, nm_IQ, nm_RL, nm_RQ, nm_LI, nm_LR, nm_LL, nm_LQ, nm_QI, nm_QR, nm_QL, nm_QQ, nm_rr, nm_ii, nm_eqm, not_false_eq_true, pk_sub, nm_div, nm_shl, nm_shr, nm_ush, nm_or8, nm_or64, nm_or256, nm_m1, nm_m3, nm_m7, nm_m15, nm_m31, nm_m63, nm_m255, nm_m511, nm_m1023, nm_m2047, nm_m65535, Nat.reduceMod, Nat.reducePow, Nat.reduceAdd, Nat.reduceSub, Nat.reduceMul, nm_bo, nm_bi, nm_rc, nm_ic, nm_ri, nm_rl, nm_rq, nm_ql, nm_qi, nm_li, nm_us, nm_uu, nm_cp, nm_sa31, nm_sa7, nm_m127, nm_m2, nm_nz, nm_nzk, nm_eq32, nm_nzf, if_true, if_false, ↓reduceIte, if_pos, if_neg])
  rw [z] at ans ⊢
  have v0 : ¬ v < 0 := by omega
  have h34 : sO s.2.2.1.1 0 = some 34 := hP.1
  by_cases v4 : v < 4
  · have v3 : ¬ 3 < v := by omega
    have C0 : df_X5_exec n (nI p) (nI v) s = df_X5_exec_23 n (nI p) (s.2.1 0 v) s := by
      unfold df_X5_exec df_X5_exec_0
      rw [if_neg (show ¬ nI v < (0 : Int32) from fun q => by have q : nI v < nI 0 := q; rw [nI_ltI (by omega) (by omega)] at q; omega), if_pos h34, if_pos (show nI v < (4 : Int32) from (show nI v < nI 4 by rw [nI_ltI (by omega) (by omega)]; exact v4)), nm_ck (by omega) (by omega), nI_clamp (by omega)]
      cases s.2.1 0 v <;> rfl
    rcases hP.2 v v4 with ⟨p1, p2⟩ | ⟨j, T, Z, hj, p1, p2, pg⟩
    · exact ans (-2) (-nI 2) (by decide) (by rw [C0, p1]; exact none2 _) (by simp (disch := (first | assumption | decide | omega)) only [df_X16_exec, df_X16_exec_0, df_X16_exec_21, v0, v3, p2, eq_self, Nat.reduceEqDiff, Nat.reduceLeDiff, nl_0, nl_2, nl_3, nl_4, nl_12, no_1, no_1024, pk_mul, nI_add, nm_ck, nI_clamp, nI_ltI, nI_leI, nI_eq, nb_b2, nb_b1, ↓nb_let, nm_z0, nm_z1, nb_II, nb_IR, nb_RI, nb_RR, nm_IL, nm_IQ, nm_RL, nm_RQ, nm_LI, nm_LR, nm_LL, nm_LQ, nm_QI, nm_QR, nm_QL, nm_QQ, nm_rr, nm_ii, nm_eqm, not_false_eq_true, pk_sub, nm_div, nm_shl, nm_shr, nm_ush, nm_or8, nm_or64, nm_or256, nm_m1, nm_m3, nm_m7, nm_m15, nm_m31, nm_m63, nm_m255, nm_m511, nm_m1023, nm_m2047, nm_m65535, Nat.reduceMod, Nat.reducePow, Nat.reduceAdd, Nat.reduceSub, Nat.reduceMul, nm_bo, nm_bi, nm_rc, nm_ic, nm_ri, nm_rl, nm_rq, nm_ql, nm_qi, nm_li, nm_us, nm_uu, nm_cp, nm_sa31, nm_sa7, nm_m127, nm_m2, nm_nz, nm_nzk, nm_eq32, nm_nzf, if_true, if_false, ↓reduceIte, if_pos, if_neg])
    · rw [p1] at C0
      have m1 := h1.1
      have fu := m1.2.2.2.1
      have us := m1.2.2.2.2
      have cu := cU_le (sR X.1 16)
      have pc := lp_p n pg
      have pr := lq_p n v4 pg
      have fr : df_X6_framesFree n s.2.2.1.2.2 = some (nI (256 - cU (sR X.1 16)), s.2.2.1.2.2) := by
        generalize cU (sR X.1 16) = x at fu cu
        simp (disch := (first | assumption | decide | omega)) only [df_X6_framesFree_0, df_X6_framesFree, fu, eq_self, Nat.reduceEqDiff, Nat.reduceLeDiff, nl_0, nl_256, no_1, no_1024, pk_mul, nI_add, nm_ck, nI_clamp, nI_ltI, nI_leI, nI_eq, nb_b2, nb_b1, ↓nb_let, nm_z0, nm_z1, nb_II, nb_IR, nb_RI, nb_RR, nm_IL, nm_IQ, nm_RL, nm_RQ, nm_LI, nm_LR, nm_LL, nm_LQ, nm_QI, nm_QR, nm_QL, nm_QQ, nm_rr, nm_ii, nm_eqm, not_false_eq_true, pk_sub, nm_div, nm_shl, nm_shr, nm_ush, nm_or8, nm_or64, nm_or256, nm_m1, nm_m3, nm_m7, nm_m15, nm_m31, nm_m63, nm_m255, nm_m511, nm_m1023, nm_m2047, nm_m65535, Nat.reduceMod, Nat.reducePow, Nat.reduceAdd, Nat.reduceSub, Nat.reduceMul, nm_bo, nm_bi, nm_rc, nm_ic, nm_ri, nm_rl, nm_rq, nm_ql, nm_qi, nm_li, nm_us, nm_uu, nm_cp, nm_sa31, nm_sa7, nm_m127, nm_m2, nm_nz, nm_nzk, nm_eq32, nm_nzf, if_true, if_false, ↓reduceIte, if_pos, if_neg]
      have yl : (T + 1023) / 1024 + dpg T Z + 4 ≤ 100 := by
        obtain ⟨q1, q2, q3, _⟩ := pg
        unfold dpg
        rcases q3 with e | e <;> omega
      have nl := nk_loadP n hn (M := s.2.2.1.2.2) (X := X) (P := s.2.2.2.2.2.1 j) (s0 := nd_st0) (p := p) (v := v) (T := T) (Z := Z)
      generalize hy : (T + 1023) / 1024 + dpg T Z + 4 = y at pc pr yl
      have hF : df_X16_hasFrames n (nI y) X = some (if 256 < cU (sR X.1 16) + y then nI 0 else nI 1, X) := by
        generalize cU (sR X.1 16) = x at us cu
        have w1 : x + y < 2 ^ 31 := by omega
        by_cases w : 256 < x + y
        · simp (disch := (first | assumption | decide | omega)) only [df_X16_hasFrames_17, df_X16_hasFrames_0, df_X16_hasFrames, us, w, eq_self, Nat.reduceEqDiff, Nat.reduceLeDiff, nl_0, nl_1, nl_6, nl_256, no_1, no_1024, pk_mul, nI_add, nm_ck, nI_clamp, nI_ltI, nI_leI, nI_eq, nb_b2, nb_b1, ↓nb_let, nm_z0, nm_z1, nb_II, nb_IR, nb_RI, nb_RR, nm_IL, nm_IQ, nm_RL, nm_RQ, nm_LI, nm_LR, nm_LL, nm_LQ, nm_QI, nm_QR, nm_QL, nm_QQ, nm_rr, nm_ii, nm_eqm, not_false_eq_true, pk_sub, nm_div, nm_shl, nm_shr, nm_ush, nm_or8, nm_or64, nm_or256, nm_m1, nm_m3, nm_m7, nm_m15, nm_m31, nm_m63, nm_m255, nm_m511, nm_m1023, nm_m2047, nm_m65535, Nat.reduceMod, Nat.reducePow, Nat.reduceAdd, Nat.reduceSub, Nat.reduceMul, nm_bo, nm_bi, nm_rc, nm_ic, nm_ri, nm_rl, nm_rq, nm_ql, nm_qi, nm_li, nm_us, nm_uu, nm_cp, nm_sa31, nm_sa7, nm_m127, nm_m2, nm_nz, nm_nzk, nm_eq32, nm_nzf, if_true, if_false, ↓reduceIte, if_pos, if_neg]
        · simp (disch := (first | assumption | decide | omega)) only [df_X16_hasFrames_17, df_X16_hasFrames_0, df_X16_hasFrames, us, w, eq_self, Nat.reduceEqDiff, Nat.reduceLeDiff, nl_0, nl_1, nl_6, nl_256, no_1, no_1024, pk_mul, nI_add, nm_ck, nI_clamp, nI_ltI, nI_leI, nI_eq, nb_b2, nb_b1, ↓nb_let, nm_z0, nm_z1, nb_II, nb_IR, nb_RI, nb_RR, nm_IL, nm_IQ, nm_RL, nm_RQ, nm_LI, nm_LR, nm_LL, nm_LQ, nm_QI, nm_QR, nm_QL, nm_QQ, nm_rr, nm_ii, nm_eqm, not_false_eq_true, pk_sub, nm_div, nm_shl, nm_shr, nm_ush, nm_or8, nm_or64, nm_or256, nm_m1, nm_m3, nm_m7, nm_m15, nm_m31, nm_m63, nm_m255, nm_m511, nm_m1023, nm_m2047, nm_m65535, Nat.reduceMod, Nat.reducePow, Nat.reduceAdd, Nat.reduceSub, Nat.reduceMul, nm_bo, nm_bi, nm_rc, nm_ic, nm_ri, nm_rl, nm_rq, nm_ql, nm_qi, nm_li, nm_us, nm_uu, nm_cp, nm_sa31, nm_sa7, nm_m127, nm_m2, nm_nz, nm_nzk, nm_eq32, nm_nzf, if_true, if_false, ↓reduceIte, if_pos, if_neg]
      by_cases w : 256 < cU (sR X.1 16) + y
      · rw [if_pos w] at hF
        exact ans (-4) (-nI 4) (by decide) (by rw [C0]; exact ec_4 n hj fr pc (fun q => by rw [nI_leI (by omega) (by omega)] at q; omega)) (er_0 n v4 h3 p2 pr hF)
      · rw [if_neg w] at hF
        obtain ⟨u0, g0, fu0, fr0, ho0, us0, x1, x2, x3, x4, x5⟩ := nk_leaveAll n (by omega) m1 h2
        have cd : cU fr0 ≤ cU (sR X.1 16) := cU_drop (fun i => by
          by_cases c : 64 * p ≤ i ∧ i < 64 * p + 64
          · left
            have := x4 (i - 64 * p) (by omega)
            rw [show 64 * p + (i - 64 * p) = i by omega] at this
            exact this
          · exact Or.inr (x5 i c))
        have rm0 := rM_pg h1 h2 h5 x3 x5 x4
        obtain ⟨w', u', g', fu', b', fr', ri', ho', us', q1, q2, q3, q4, q5⟩ := nk_loadP n hn (M := mU s.2.2.1.2.2 (sR s.2.2.1.2.2.1 0) u0 g0 fu0) (X := xU X (sR X.1 15) fr0 (sR X.1 17) ho0 us0) (P := s.2.2.2.2.2.1 j) (s0 := nd_st0) (p := p) (v := v) (T := T) (Z := Z) x3 h2 v4 pg x4 (show cU fr0 + _ ≤ 256 by rw [hy]; omega)
        have rm := rM_load rm0 h2 (show sR (xU X (sR X.1 15) fr0 (sR X.1 17) ho0 us0).1 1 p = nI 1 from h5) (H := (Z + 1023) / 1024 * 1024) (by have := pg.2.1; omega) q1 q2 q3
        have li := lX_ints (xU X (sR X.1 15) fr0 (sR X.1 17) ho0 us0) b' fr' ri' ho' us' p ((Z + 1023) / 1024 * 1024)
        have lr := (lX_rows (xU X (sR X.1 15) fr0 (sR X.1 17) ho0 us0) b' fr' ri' ho' us' p ((Z + 1023) / 1024 * 1024)).1 1 (by omega)
        have lm := (lM_rows (mU s.2.2.1.2.2 (sR s.2.2.1.2.2.1 0) u0 g0 fu0) w' u' g' fu' p ((Z + 1023) / 1024 * 1024)).2.2.2.2.2.2.2.1 7 (by omega) (by omega)
        have C1 := ec_1 n (s := s) (x1 := nI p) hj fr pc (by rw [nI_leI (by omega) (by omega)]; omega) x1 q4
        have e12 : sI (lX (xU X (sR X.1 15) fr0 (sR X.1 17) ho0 us0) b' fr' ri' ho' us' p ((Z + 1023) / 1024 * 1024)).1 12 = nI p := h3
        have R1 := er_1 n v4 h3 p2 pr hF x2 (show sI (xU X (sR X.1 15) fr0 (sR X.1 17) ho0 us0).1 12 = nI p from h3) q5
        rw [er_58 n (by omega) h2 e12] at R1
        rw [C0, C1, R1]
        obtain ⟨d1, d2, d3, d4, d5, d6, d7⟩ := li
        generalize eX (lX (xU X (sR X.1 15) fr0 (sR X.1 17) ho0 us0) b' fr' ri' ho' us' p ((Z + 1023) / 1024 * 1024)) p = X' at rm d1 d4 d7 lr
        generalize lM (mU s.2.2.1.2.2 (sR s.2.2.1.2.2.1 0) u0 g0 fu0) w' u' g' fu' p ((Z + 1023) / 1024 * 1024) = M' at rm lm
        exact ⟨_, _, rfl, _, nI 0, s.2.2.1.1, M', X', rfl, rfl, rm, fun _ => rfl, Or.inr (Or.inr (Or.inl ⟨d4, rfl⟩)), ⟨d7, d1 0 (by omega) (by omega) (by omega), d1 12 (by omega) (by omega) (by omega), d1 14 (by omega) (by omega) (by omega), d1 15 (by omega) (by omega) (by omega)⟩, Or.inl ⟨lm.trans h6, (d1 16 (by omega) (by omega) (by omega)).trans h7⟩, fun y => absurd d4 y, fun y => absurd (d4.symm.trans y) (by decide)⟩
  · have v3 : 3 < v := by omega
    exact ans (-2) (-nI 2) (by decide) (by simp (disch := (first | assumption | decide | omega)) only [df_X5_exec, df_X5_exec_0, df_X5_exec_13, v0, h34, v4, none2, eq_self, Nat.reduceEqDiff, Nat.reduceLeDiff, nl_0, nl_4, nl_34, no_1, no_1024, pk_mul, nI_add, nm_ck, nI_clamp, nI_ltI, nI_leI, nI_eq, nb_b2, nb_b1, ↓nb_let, nm_z0, nm_z1, nb_II, nb_IR, nb_RI, nb_RR, nm_IL, nm_IQ, nm_RL, nm_RQ, nm_LI, nm_LR, nm_LL, nm_LQ, nm_QI, nm_QR, nm_QL, nm_QQ, nm_rr, nm_ii, nm_eqm, not_false_eq_true, pk_sub, nm_div, nm_shl, nm_shr, nm_ush, nm_or8, nm_or64, nm_or256, nm_m1, nm_m3, nm_m7, nm_m15, nm_m31, nm_m63, nm_m255, nm_m511, nm_m1023, nm_m2047, nm_m65535, Nat.reduceMod, Nat.reducePow, Nat.reduceAdd, Nat.reduceSub, Nat.reduceMul, nm_bo, nm_bi, nm_rc, nm_ic, nm_ri, nm_rl, nm_rq, nm_ql, nm_qi, nm_li, nm_us, nm_uu, nm_cp, nm_sa31, nm_sa7, nm_m127, nm_m2, nm_nz, nm_nzk, nm_eq32, nm_nzf, if_true, if_false, ↓reduceIte, if_pos, if_neg]) (by simp (disch := (first | assumption | decide | omega)) only [df_X16_exec, df_X16_exec_0, df_X16_exec_21, v0, v3, eq_self, Nat.reduceEqDiff, Nat.reduceLeDiff, nl_0, nl_2, nl_3, nl_4, nl_12, no_1, no_1024, pk_mul, nI_add, nm_ck, nI_clamp, nI_ltI, nI_leI, nI_eq, nb_b2, nb_b1, ↓nb_let, nm_z0, nm_z1, nb_II, nb_IR, nb_RI, nb_RR, nm_IL, nm_IQ, nm_RL, nm_RQ, nm_LI, nm_LR, nm_LL, nm_LQ, nm_QI, nm_QR, nm_QL, nm_QQ, nm_rr, nm_ii, nm_eqm, not_false_eq_true, pk_sub, nm_div, nm_shl, nm_shr, nm_ush, nm_or8, nm_or64, nm_or256, nm_m1, nm_m3, nm_m7, nm_m15, nm_m31, nm_m63, nm_m255, nm_m511, nm_m1023, nm_m2047, nm_m65535, Nat.reduceMod, Nat.reducePow, Nat.reduceAdd, Nat.reduceSub, Nat.reduceMul, nm_bo, nm_bi, nm_rc, nm_ic, nm_ri, nm_rl, nm_rq, nm_ql, nm_qi, nm_li, nm_us, nm_uu, nm_cp, nm_sa31, nm_sa7, nm_m127, nm_m2, nm_nz, nm_nzk, nm_eq32, nm_nzf, if_true, if_false, ↓reduceIte, if_pos, if_neg])

/-- a register of a running one changes -/
theorem rM_reg {B : Nat} {M X : St × St} (h : rM B M X) {p r : Nat} (hp : p < 16) (hr : r < 32) (h1 : sR X.1 1 p = nI 1) (v : Int32) : rM B (pR M.1 3 (upd (sR M.1 3) (p * 33 + r) v), M.2) (pR X.1 9 (upd (sR X.1 9) (32 * p + r) v), X.2) := by
  obtain ⟨m1, m2, m3, m4, m5, m6, m7⟩ := h
  refine ⟨m1, m2, rP_all m3 (p := p) ?_ (fun q hq => ⟨⟨fun _ _ => rfl, fun i hi => nm_un (by omega), fun _ _ => rfl, fun _ _ => rfl, rfl⟩, ⟨⟨rfl, rfl, rfl, rfl, rfl, rfl, rfl, rfl⟩, fun i hi => nm_un (by omega), rfl, fun _ _ => rfl, rfl, fun _ _ => rfl, fun _ _ => rfl, fun _ _ => Iff.rfl, rfl⟩⟩), m4, m5, m6, m7⟩
  obtain ⟨t, c', w, b', e, ht, hc', hw, hb, he, a1, a2, a3, a4, a5, a6, a7, a8, a9, a10, a11, a12, a13, a14, a15, a16, a17, a18, a19, a20, a21⟩ := m3 p hp
  have t1 : t = 1 := nm_inI (by omega) (by omega) (a2.symm.trans h1)
  obtain ⟨g1, g2⟩ := a17 (by omega)
  refine ⟨t, c', w, b', e, ht, hc', hw, hb, he, a1, a2, a3, a4, a5, a6, a7, a8, a9, a10, a11, a12, a13, a14, a15, a16, fun _ => ⟨fun i hi => ?_, (nm_un (by omega)).trans g2⟩, a18, a19, fun z => by omega, a21⟩
  show upd (sR M.1 3) (p * 33 + r) v (p * 33 + i) = upd (sR X.1 9) (32 * p + r) v (32 * p + i)
  by_cases c : i = r
  · rw [c, nm_us, nm_us]
  · rw [nm_un (by omega), nm_un (by omega)]
    exact g1 i hi
theorem cB_of {B p : Nat} {s : St × Rw × (St × (St × (St × (St)))) × (St) × (St) × (Nat → St) × (Nat → St) × (Nat → St × (St))} {X : St × St} {oc : Option (Int64 × (St × (St × (St × St))))} {or : Option (Int32 × (St × St))} (h : cO B p s.2.2.1 X oc or) : cB (B + 512) p s X (nd_b2 oc (fun q s' => nd_let (s.1, (s.2.1, (s', s.2.2.2))) (fun s'' => some (q, s'')))) (nd_b2 or (fun q s => some (q, s))) := by
  obtain ⟨v64, v, K1, M', X', e1, e2, r⟩ := cO_up h (show B ≤ B + 512 by omega)
  rw [e1, e2]
  exact ⟨v64, _, rfl, v64, v, K1, M', X', rfl, rfl, r⟩
theorem cB_oq {B p : Nat} {s : St × Rw × (St × (St × (St × (St)))) × (St) × (St) × (Nat → St) × (Nat → St) × (Nat → St × (St))} {X : St × St} {oc : Option (Int64 × (St × (St × (St × St))))} {or : Option (Int32 × (St × St))} (h : cO (B + 512) p s.2.2.1 X oc or) : cB (B + 512) p s X (nd_b2 oc (fun q s' => nd_let (s.1, (s.2.1, (s', s.2.2.2))) (fun s'' => some (q, s'')))) (nd_b2 or (fun q s => some (q, s))) := by
  obtain ⟨v64, v, K1, M', X', e1, e2, r⟩ := h
  rw [e1, e2]
  exact ⟨v64, _, rfl, v64, v, K1, M', X', rfl, rfl, r⟩
theorem cB_up {B p : Nat} {s : St × Rw × (St × (St × (St × (St)))) × (St) × (St) × (Nat → St) × (Nat → St) × (Nat → St × (St))} {X : St × St} {oc : Option (Int64 × (St × Rw × (St × (St × (St × (St)))) × (St) × (St) × (Nat → St) × (Nat → St) × (Nat → St × (St))))} {or : Option (Int32 × (St × St))} (h : cB B p s X oc or) : cB (B + 512) p s X oc or := by
  obtain ⟨v64, K', e, c⟩ := h
  exact ⟨v64, K', e, cO_up c (by omega)⟩
theorem cB_ex {B p : Nat} {s : St × Rw × (St × (St × (St × (St)))) × (St) × (St) × (Nat → St) × (Nat → St) × (Nat → St × (St))} {X : St × St} {oc : Option (Int64 × (St × Rw × (St × (St × (St × (St)))) × (St) × (St) × (Nat → St) × (Nat → St) × (Nat → St × (St))))} {or : Option (Int32 × (St × St))} (h : cB B p s X oc or) : cB (B + 512) p s X (nd_b2 oc (fun q s' => some (q, s'))) (nd_b2 or (fun q s => some (q, s))) := by
  obtain ⟨v64, K', e, c⟩ := cB_up h
  obtain ⟨w64, v, K1, M', X', e1, e2, r⟩ := c
  rw [e, e2]
  exact ⟨v64, K', rfl, w64, v, K1, M', X', e1, rfl, r⟩
theorem cB_fin {B p : Nat} {s : St × Rw × (St × (St × (St × (St)))) × (St) × (St) × (Nat → St) × (Nat → St) × (Nat → St × (St))} {X : St × St} {x : Option (St × St)} {y : Option (St × St)} {T : St × St → Option (Int32 × (St × St))} (h : cO B p s.2.2.1 X (nd_b1 x (fun m => some (2199023255552, (s.2.2.1.1, (s.2.2.1.2.1, m))))) (nd_b1 y T)) : cB (B + 512) p s X (nd_b1 x (fun s19 => nd_let (s.1, (s.2.1, ((s.2.2.1.1, (s.2.2.1.2.1, s19)), s.2.2.2))) (fun s21 => some (2199023255552, s21)))) (nd_b1 y (fun s3 => nd_b2 (T s3) (fun q s => some (q, s)))) := by
  obtain ⟨v64, v, K1, M', X', e1, e2, r⟩ := cO_up h (show B ≤ B + 512 by omega)
  cases x with
  | none => exact nomatch e1
  | some m =>
    cases y with
    | none => exact nomatch e2
    | some m' =>
      have e2 : T m' = some (v, X') := e2
      rw [nb_b1, nb_b1, e2]
      exact ⟨_, _, rfl, v64, v, K1, M', X', e1, rfl, r⟩
theorem cB_rnd (n : Nat) {B p : Nat} {s : St × Rw × (St × (St × (St × (St)))) × (St) × (St) × (Nat → St) × (Nat → St) × (Nat → St × (St))} {X : St × St} {x : Option (Int32 × (St × (St × (St × St))))} {T : St × St → Option (Int32 × (St × St))} {or : Option (Int32 × (St × St))} (h : cO B p s.2.2.1 X (nd_b2 x (fun q s => if q = nI 0 then nd_b2 (T s.2.2) (fun v m => some (v.toInt64, (s.1, (s.2.1, m)))) else some (1099511627776, s))) or) : cB (B + 512) p s X (nd_b2 x (fun q120 s121 => nd_let (s.1, (s.2.1, (s121, s.2.2.2))) (fun s123 => if q120 = 0 then nd_b2 (T s123.2.2.1.2.2) (fun q125 s126 => nd_let (s123.1, (s123.2.1, ((s123.2.2.1.1, (s123.2.2.1.2.1, s126)), s123.2.2.2))) (fun s128 => df_X5_answerOf_357 n q125.toInt64 s128)) else df_X5_answerOf_357 n 1099511627776 s123))) (nd_b2 or (fun q s => some (q, s))) := by
  obtain ⟨v64, v, K1, M', X', e1, e2, r⟩ := cO_up h (show B ≤ B + 512 by omega)
  rw [e2]
  cases x with
  | none => exact nomatch e1
  | some y =>
    obtain ⟨q, K'⟩ := y
    rw [nb_b2] at e1
    rw [nb_b2, nb_let]
    by_cases c : q = nI 0
    · rw [if_pos c] at e1
      rw [if_pos (show q = 0 from c)]
      dsimp only
      cases ht : T K'.2.2 with
      | none =>
        rw [ht] at e1
        exact nomatch e1
      | some z =>
        obtain ⟨a, m⟩ := z
        rw [ht] at e1
        exact ⟨_, _, rfl, v64, v, K1, M', X', e1, rfl, r⟩
    · rw [if_neg c] at e1
      rw [if_neg (show ¬ q = 0 from c)]
      exact ⟨_, _, rfl, v64, v, K1, M', X', e1, rfl, r⟩
/-- the kernel's call 'clock' -/
theorem nq_clock {B p : Nat} {K : St × (St × (St × St))} {X : St × St} (h : cP B p K X) : cO B p K X (some ((sL K.2.2.1 0).toInt32.toInt64, (K.1, (K.2.1, (pR K.2.2.1 3 (upd (sR K.2.2.1 3) (p * 33 + 11) (((sL K.2.2.1 0) >>> ((32 : Int32).toInt64 &&& 63)).toInt32)), K.2.2.2))))) (some ((sL X.1 1).toInt32, (pR X.1 9 (upd (sR X.1 9) (32 * p + 11) (((sL X.1 1) >>> ((32 : Int32).toInt64 &&& 63)).toInt32)), X.2))) := by
  obtain ⟨h1, h2, h3, h4, h5, h6, h7⟩ := h
  have ec : sL K.2.2.1 0 = sL X.1 1 := h1.2.2.2.2.1.2.2.2.2.2.2.2.2.2.1
  rw [ec]
  exact ⟨_, _, K.1, _, _, rfl, rfl, rM_reg h1 h2 (by omega) h5 _, fun _ => rfl, Or.inl ⟨h4, rfl⟩, ⟨rfl, rfl, rfl, rfl, rfl⟩, Or.inl ⟨h6, h7⟩, fun _ => h5, fun z => absurd (h4.symm.trans z) (by decide)⟩
/-- the class's arguments of a call -/
theorem ar_4 (n : Nat) {B p : Nat} {K : St × (St × (St × St))} {X : St × St} (h : rM B K.2.2 X) (hp : p < 16) (h5 : sR X.1 1 p = nI 1) {a b d c : Int32} (e10 : sR X.1 9 (32 * p + 10) = a) (e11 : sR X.1 9 (32 * p + 11) = b) (e12 : sR X.1 9 (32 * p + 12) = d) (e17 : sR X.1 9 (32 * p + 17) = c) : df_X5_argument n (nI p) 10 K = some (a, K) ∧ df_X5_argument n (nI p) 11 K = some (b, K) ∧ df_X5_argument n (nI p) 12 K = some (d, K) ∧ df_X5_argument n (nI p) 17 K = some (c, K) := by
  obtain ⟨t, c', w, b', e, ht, hc', hw, hb, he, a1, a2, a3, a4, a5, a6, a7, a8, a9, a10, a11, a12, a13, a14, a15, a16, a17, _⟩ := h.2.2.1 p hp
  have t1 : t = 1 := nm_inI (by omega) (by omega) (a2.symm.trans h5)
  obtain ⟨r1, _⟩ := a17 (by omega)
  have r10 := (r1 10 (by omega)).trans e10
  have r11 := (r1 11 (by omega)).trans e11
  have r12 := (r1 12 (by omega)).trans e12
  have r17 := (r1 17 (by omega)).trans e17
  have u1 : p * 33 + 10 < 528 := by omega
  have u2 : p * 33 + 11 < 528 := by omega
  have u3 : p * 33 + 12 < 528 := by omega
  have u4 : p * 33 + 17 < 528 := by omega
  refine ⟨?_, ?_, ?_, ?_⟩
  · show df_X5_argument n (nI p) (nI 10) K = _
    simp (disch := (first | assumption | decide | omega)) only [df_X5_argument_0, df_X5_argument, r10, eq_self, Nat.reduceEqDiff, Nat.reduceLeDiff, nl_3, nl_33, nl_528, no_1, no_1024, pk_mul, nI_add, nm_ck, nI_clamp, nI_ltI, nI_leI, nI_eq, nb_b2, nb_b1, ↓nb_let, nm_z0, nm_z1, nb_II, nb_IR, nb_RI, nb_RR, nm_IL, nm_IQ, nm_RL, nm_RQ, nm_LI, nm_LR, nm_LL, nm_LQ, nm_QI, nm_QR, nm_QL, nm_QQ, nm_rr, nm_ii, nm_eqm, not_false_eq_true, pk_sub, nm_div, nm_shl, nm_shr, nm_ush, nm_or8, nm_or64, nm_or256, nm_m1, nm_m3, nm_m7, nm_m15, nm_m31, nm_m63, nm_m255, nm_m511, nm_m1023, nm_m2047, nm_m65535, Nat.reduceMod, Nat.reducePow, Nat.reduceAdd, Nat.reduceSub, Nat.reduceMul, nm_bo, nm_bi, nm_rc, nm_ic, nm_ri, nm_rl, nm_rq, nm_ql, nm_qi, nm_li, nm_us, nm_uu, nm_cp, nm_sa31, nm_sa7, nm_m127, nm_m2, nm_nz, nm_nzk, nm_eq32, nm_nzf, if_true, if_false, ↓reduceIte, if_pos, if_neg]
  · show df_X5_argument n (nI p) (nI 11) K = _
    simp (disch := (first | assumption | decide | omega)) only [df_X5_argument_0, df_X5_argument, r11, eq_self, Nat.reduceEqDiff, Nat.reduceLeDiff, nl_3, nl_33, nl_528, no_1, no_1024, pk_mul, nI_add, nm_ck, nI_clamp, nI_ltI, nI_leI, nI_eq, nb_b2, nb_b1, ↓nb_let, nm_z0, nm_z1, nb_II, nb_IR, nb_RI, nb_RR, nm_IL, nm_IQ, nm_RL, nm_RQ, nm_LI, nm_LR, nm_LL, nm_LQ, nm_QI, nm_QR, nm_QL, nm_QQ, nm_rr, nm_ii, nm_eqm, not_false_eq_true, pk_sub, nm_div, nm_shl, nm_shr, nm_ush, nm_or8, nm_or64, nm_or256, nm_m1, nm_m3, nm_m7, nm_m15, nm_m31, nm_m63, nm_m255, nm_m511, nm_m1023, nm_m2047, nm_m65535, Nat.reduceMod, Nat.reducePow, Nat.reduceAdd, Nat.reduceSub, Nat.reduceMul, nm_bo, nm_bi, nm_rc, nm_ic, nm_ri, nm_rl, nm_rq, nm_ql, nm_qi, nm_li, nm_us, nm_uu, nm_cp, nm_sa31, nm_sa7, nm_m127, nm_m2, nm_nz, nm_nzk, nm_eq32, nm_nzf, if_true, if_false, ↓reduceIte, if_pos, if_neg]
  · show df_X5_argument n (nI p) (nI 12) K = _
    simp (disch := (first | assumption | decide | omega)) only [df_X5_argument_0, df_X5_argument, r12, eq_self, Nat.reduceEqDiff, Nat.reduceLeDiff, nl_3, nl_33, nl_528, no_1, no_1024, pk_mul, nI_add, nm_ck, nI_clamp, nI_ltI, nI_leI, nI_eq, nb_b2, nb_b1, ↓nb_let, nm_z0, nm_z1, nb_II, nb_IR, nb_RI, nb_RR, nm_IL, nm_IQ, nm_RL, nm_RQ, nm_LI, nm_LR, nm_LL, nm_LQ, nm_QI, nm_QR, nm_QL, nm_QQ, nm_rr, nm_ii, nm_eqm, not_false_eq_true, pk_sub, nm_div, nm_shl, nm_shr, nm_ush, nm_or8, nm_or64, nm_or256, nm_m1, nm_m3, nm_m7, nm_m15, nm_m31, nm_m63, nm_m255, nm_m511, nm_m1023, nm_m2047, nm_m65535, Nat.reduceMod, Nat.reducePow, Nat.reduceAdd, Nat.reduceSub, Nat.reduceMul, nm_bo, nm_bi, nm_rc, nm_ic, nm_ri, nm_rl, nm_rq, nm_ql, nm_qi, nm_li, nm_us, nm_uu, nm_cp, nm_sa31, nm_sa7, nm_m127, nm_m2, nm_nz, nm_nzk, nm_eq32, nm_nzf, if_true, if_false, ↓reduceIte, if_pos, if_neg]
  · show df_X5_argument n (nI p) (nI 17) K = _
    simp (disch := (first | assumption | decide | omega)) only [df_X5_argument_0, df_X5_argument, r17, eq_self, Nat.reduceEqDiff, Nat.reduceLeDiff, nl_3, nl_33, nl_528, no_1, no_1024, pk_mul, nI_add, nm_ck, nI_clamp, nI_ltI, nI_leI, nI_eq, nb_b2, nb_b1, ↓nb_let, nm_z0, nm_z1, nb_II, nb_IR, nb_RI, nb_RR, nm_IL, nm_IQ, nm_RL, nm_RQ, nm_LI, nm_LR, nm_LL, nm_LQ, nm_QI, nm_QR, nm_QL, nm_QQ, nm_rr, nm_ii, nm_eqm, not_false_eq_true, pk_sub, nm_div, nm_shl, nm_shr, nm_ush, nm_or8, nm_or64, nm_or256, nm_m1, nm_m3, nm_m7, nm_m15, nm_m31, nm_m63, nm_m255, nm_m511, nm_m1023, nm_m2047, nm_m65535, Nat.reduceMod, Nat.reducePow, Nat.reduceAdd, Nat.reduceSub, Nat.reduceMul, nm_bo, nm_bi, nm_rc, nm_ic, nm_ri, nm_rl, nm_rq, nm_ql, nm_qi, nm_li, nm_us, nm_uu, nm_cp, nm_sa31, nm_sa7, nm_m127, nm_m2, nm_nz, nm_nzk, nm_eq32, nm_nzf, if_true, if_false, ↓reduceIte, if_pos, if_neg]
/-- the kernel's answer, in both, but to 'yield' -/
theorem nq_ao (n : Nat) (hn : 40000 < n) {B p : Nat} {s : St × Rw × (St × (St × (St × (St)))) × (St) × (St) × (Nat → St) × (Nat → St) × (Nat → St × (St))} {X : St × St} (h : cP B p s.2.2.1 X) (hP : rPp s X.2) (hB : B + 512 < 2 ^ 62) {a b d c : Int32} (e10 : sR X.1 9 (32 * p + 10) = a) (e11 : sR X.1 9 (32 * p + 11) = b) (e12 : sR X.1 9 (32 * p + 12) = d) (e17 : sR X.1 9 (32 * p + 17) = c) (hy : ¬ c = 15) : cB (B + 512) p s X (df_X5_answerOf n (nI p) s) (df_X16_answer n c a b d X) := by
  obtain ⟨h1, h2, h3, h4, h5, h6, h7⟩ := id h
  obtain ⟨g10, g11, g12, g17⟩ := ar_4 n h1 h2 h5 e10 e11 e12 e17
  unfold df_X5_answerOf df_X5_answerOf_0 df_X16_answer df_X16_answer_0
  rw [g10, nb_b2, nb_let, g11, nb_b2, nb_let, g12, nb_b2, nb_let, g17, nb_b2, nb_let, h3]
  by_cases c0 : c = 0
  · rw [if_pos c0, if_pos c0]
    exact cB_fin (nq_exit n (by omega) h a)
  rw [if_neg c0, if_neg c0]
  by_cases c1 : c = 1
  · rw [if_pos c1, if_pos c1]
    exact cB_of (nq_fork n (by omega) h)
  rw [if_neg c1, if_neg c1]
  by_cases c2 : c = 2
  · rw [if_pos c2, if_pos c2]
    exact cB_ex (nq_exec n hn h hP a)
  rw [if_neg c2, if_neg c2]
  by_cases c3 : c = 3
  · rw [if_pos c3, if_pos c3]
    exact cB_of (nq_wait n (by omega) h (e17.trans c3))
  rw [if_neg c3, if_neg c3]
  by_cases c4 : c = 4
  · rw [if_pos c4, if_pos c4]
    exact cB_up (cB_id h rfl)
  rw [if_neg c4, if_neg c4]
  by_cases c5 : c = 5
  · rw [if_pos c5, if_pos c5]
    exact cB_of (nq_pipe n (by omega) h a)
  rw [if_neg c5, if_neg c5]
  by_cases c6 : c = 6
  · rw [if_pos c6, if_pos c6]
    exact cB_of (nq_read n (by omega) h (e17.trans c6) e10 e12)
  rw [if_neg c6, if_neg c6]
  by_cases c7 : c = 7
  · rw [if_pos c7, if_pos c7]
    exact cB_oq (nq_write n (by omega) h hB (e17.trans c7) e10 e12)
  rw [if_neg c7, if_neg c7]
  by_cases c8 : c = 8
  · rw [if_pos c8, if_pos c8]
    exact cB_of (nq_close n (by omega) h a)
  rw [if_neg c8, if_neg c8]
  by_cases c9 : c = 9
  · rw [if_pos c9, if_pos c9]
    exact cB_of (nq_dup n (by omega) h a b)
  rw [if_neg c9, if_neg c9]
  by_cases c10 : c = 10
  · rw [if_pos c10, if_pos c10]
    exact cB_of (nq_open n (by omega) h a b)
  rw [if_neg c10, if_neg c10]
  by_cases c11 : c = 11
  · rw [if_pos c11, if_pos c11]
    exact cB_of (nq_unlink n (by omega) h a)
  rw [if_neg c11, if_neg c11]
  by_cases c12 : c = 12
  · rw [if_pos c12, if_pos c12]
    exact cB_of (nq_seek n h a b d)
  rw [if_neg c12, if_neg c12]
  by_cases c13 : c = 13
  · rw [if_pos c13, if_pos c13]
    exact cB_of (nq_rename n (by omega) h a b)
  rw [if_neg c13, if_neg c13]
  by_cases c14 : c = 14
  · rw [if_pos c14, if_pos c14]
    exact cB_of (nq_grow n (by omega) h a)
  rw [if_neg c14, if_neg c14]
  by_cases c15 : c = 15
  · exact absurd c15 hy
  rw [if_neg c15, if_neg c15]
  by_cases c16 : c = 16
  · rw [if_pos c16, if_pos c16]
    exact cB_of (nq_signal n h a b)
  rw [if_neg c16, if_neg c16]
  by_cases c17 : c = 17
  · rw [if_pos c17, if_pos c17]
    exact cB_of (nq_handle n h a b)
  rw [if_neg c17, if_neg c17]
  by_cases c18 : c = 18
  · rw [if_pos c18, if_pos c18]
    exact cB_of (nq_back n (by omega) h)
  rw [if_neg c18, if_neg c18]
  by_cases c19 : c = 19
  · rw [if_pos c19, if_pos c19]
    exact cB_of (nq_sleep n h (e17.trans c19) a)
  rw [if_neg c19, if_neg c19]
  by_cases c20 : c = 20
  · rw [if_pos c20, if_pos c20]
    have u1 : p * 33 + 11 < 528 := by omega
    have u2 : p * 33 + 11 < 2 ^ 31 := by omega
    have u3 : 32 * p + 11 < 512 := by omega
    have u4 : 32 * p + 11 < 2 ^ 31 := by omega
    have k1 : nI p * 33 + 11 = nI (p * 33 + 11) := by simp (disch := (first | assumption | decide | omega)) only [eq_self, Nat.reduceEqDiff, Nat.reduceLeDiff, nl_11, nl_33, no_1, no_1024, pk_mul, nI_add, nm_ck, nI_clamp, nI_ltI, nI_leI, nI_eq, nb_b2, nb_b1, ↓nb_let, nm_z0, nm_z1, nb_II, nb_IR, nb_RI, nb_RR, nm_IL, nm_IQ, nm_RL, nm_RQ, nm_LI, nm_LR, nm_LL, nm_LQ, nm_QI, nm_QR, nm_QL, nm_QQ, nm_rr, nm_ii, nm_eqm, not_false_eq_true, pk_sub, nm_div, nm_shl, nm_shr, nm_ush, nm_or8, nm_or64, nm_or256, nm_m1, nm_m3, nm_m7, nm_m15, nm_m31, nm_m63, nm_m255, nm_m511, nm_m1023, nm_m2047, nm_m65535, Nat.reduceMod, Nat.reducePow, Nat.reduceAdd, Nat.reduceSub, Nat.reduceMul, nm_bo, nm_bi, nm_rc, nm_ic, nm_ri, nm_rl, nm_rq, nm_ql, nm_qi, nm_li, nm_us, nm_uu, nm_cp, nm_sa31, nm_sa7, nm_m127, nm_m2, nm_nz, nm_nzk, nm_eq32, nm_nzf, if_true, if_false, ↓reduceIte, if_pos, if_neg]
    have k2 : 32 * nI p + 11 = nI (32 * p + 11) := by simp (disch := (first | assumption | decide | omega)) only [eq_self, Nat.reduceEqDiff, Nat.reduceLeDiff, nl_11, nl_32, no_1, no_1024, pk_mul, nI_add, nm_ck, nI_clamp, nI_ltI, nI_leI, nI_eq, nb_b2, nb_b1, ↓nb_let, nm_z0, nm_z1, nb_II, nb_IR, nb_RI, nb_RR, nm_IL, nm_IQ, nm_RL, nm_RQ, nm_LI, nm_LR, nm_LL, nm_LQ, nm_QI, nm_QR, nm_QL, nm_QQ, nm_rr, nm_ii, nm_eqm, not_false_eq_true, pk_sub, nm_div, nm_shl, nm_shr, nm_ush, nm_or8, nm_or64, nm_or256, nm_m1, nm_m3, nm_m7, nm_m15, nm_m31, nm_m63, nm_m255, nm_m511, nm_m1023, nm_m2047, nm_m65535, Nat.reduceMod, Nat.reducePow, Nat.reduceAdd, Nat.reduceSub, Nat.reduceMul, nm_bo, nm_bi, nm_rc, nm_ic, nm_ri, nm_rl, nm_rq, nm_ql, nm_qi, nm_li, nm_us, nm_uu, nm_cp, nm_sa31, nm_sa7, nm_m127, nm_m2, nm_nz, nm_nzk, nm_eq32, nm_nzf, if_true, if_false, ↓reduceIte, if_pos, if_neg]
    rw [k1, k2, nm_ck u1 u2, nm_ck u3 u4, nI_clamp u2, nI_clamp u4, nb_let, nb_let]
    exact cB_up ⟨_, _, rfl, nq_clock h⟩
  rw [if_neg c20, if_neg c20]
  by_cases c21 : c = 21
  · rw [if_pos c21, if_pos c21]
    exact cB_rnd n (nq_random n (by omega) h (e17.trans c21))
  rw [if_neg c21, if_neg c21]
  exact cB_up (cB_id h (by decide))

theorem wrR_c {X Y : St × St} (e1 : sI Y.1 14 = sI X.1 14) (e2 : sI Y.1 15 = sI X.1 15) {p : Nat} {wn wr : Int32} (h : wrR Y p wn wr) : wrR X p wn wr := by
  rcases h with z | ⟨a, k, h1, h2, h3, h4, h5⟩
  · exact Or.inl z
  · exact Or.inr ⟨a, k, h1, h2, h3, h4, by rw [h5, wvs_c e1 e2]⟩
/-- 'yield', with the number that comes -/
theorem nq_next2 (n : Nat) (hn : 1024 < n) {B p : Nat} {M X : St × St} (h : rM B M X) (hp : p < 16) (h1 : sR X.1 1 p = nI 1) (el : sI X.1 2 = nI p) : (p + nr (sR X.1 1) p) % 16 < 16 ∧ df_X6_nextReady n (nI p) M = some (nI ((p + nr (sR X.1 1) p) % 16), M) ∧ df_X16_turn n X = some (pI (pI X.1 1 (nI ((p + nr (sR X.1 1) p) % 16))) 2 (nI ((p + nr (sR X.1 1) p) % 16)), X.2) := by
  have hst := rM_st h
  have nx := nk_next n hn hst hp
  have tu := nk_turn n hn (X := X) (fun q hq => by obtain ⟨t, h1, _, h3⟩ := hst q hq; exact ⟨t, h1, h3⟩) hp el
  have f17 : nr (sR X.1 1) p < 17 := by
    by_cases c : nr (sR X.1 1) p < 17
    · exact c
    · exfalso
      unfold nr at c
      obtain ⟨x1, x2, x3, x4⟩ := fN_le (fun k => decide (sR X.1 1 ((p + k) % 16) = nI 1)) 16 1
      have := of_decide_eq_false (x4 16 (by omega) (by omega))
      rw [show (p + 16) % 16 = p by omega] at this
      exact this h1
  rw [if_pos f17] at nx
  rw [if_pos f17, if_pos f17] at tu
  exact ⟨by omega, nx, tu⟩
/-- what a call leaves: an answer and the register, or a trap -/
def cT (B p : Nat) (s : St × Rw × (St × (St × (St × (St)))) × (St) × (St) × (Nat → St) × (Nat → St) × (Nat → St × (St))) (X : St × St) (t : Int32) (K : St × (St × (St × St))) (or : Nat → Option (St × St)) (n : Nat) : Prop := ∃ X' : St × St, rM B K.2.2 X' ∧ (∀ i : Nat, sO K.1 i = sO s.2.2.1.1 i) ∧ K.2.1 = s.2.2.1.2.1 ∧ (X'.2 = X.2 ∧ sI X'.1 0 = sI X.1 0 ∧ sI X'.1 12 = sI X.1 12 ∧ sI X'.1 14 = sI X.1 14 ∧ sI X'.1 15 = sI X.1 15) ∧ wrR X p (sI K.2.2.1 7) (sI X'.1 16) ∧ ((t = nI 0 ∧ or n = some X') ∨ (t = nI 7 ∧ sR X'.1 1 p = nI 1 ∧ or n = df_X16_trap n (nI 7) X'))
theorem ca_R (n : Nat) {X X' : St × St} {p : Nat} (hp : p < 16) (h3 : sI X.1 12 = nI p) {v : Int32} (ea : df_X16_answer n (sR X.1 9 (32 * p + 17)) (sR X.1 9 (32 * p + 10)) (sR X.1 9 (32 * p + 11)) (sR X.1 9 (32 * p + 12)) (pI X.1 13 (nI 0), X.2) = some (v, X')) (h3' : sI X'.1 12 = nI p) : (sI X'.1 13 = nI 2 → df_X16_call n X = some X') ∧ (sI X'.1 13 = nI 3 → df_X16_call n X = df_X16_trap n (nI 7) X') ∧ (sI X'.1 13 = nI 1 → df_X16_call n X = some (pR (pR X'.1 1 (upd (sR X'.1 1) p (nI 2))) 7 (upd (sR X'.1 7) p (sR X.1 9 (32 * p + 17))), X'.2)) ∧ (sI X'.1 13 = nI 0 → df_X16_call n X = if sR X.1 9 (32 * p + 17) = nI 15 then df_X16_turn n (pR (pR X'.1 9 (upd (sR X'.1 9) (32 * p + 10) v)) 10 (upd (sR X'.1 10) p (sR X'.1 10 p + nI 4)), X'.2) else some (pR (pR X'.1 9 (upd (sR X'.1 9) (32 * p + 10) v)) 10 (upd (sR X'.1 10) p (sR X'.1 10 p + nI 4)), X'.2)) := by
  have u1 : 32 * p + 17 < 512 := by omega
  have u2 : 32 * p + 10 < 512 := by omega
  have u3 : 32 * p + 11 < 512 := by omega
  have u4 : 32 * p + 12 < 512 := by omega
  have u5 : p < 2 ^ 31 := by omega
  have v1 : 32 * p + 17 < 2 ^ 31 := by omega
  have v2 : 32 * p + 10 < 2 ^ 31 := by omega
  have v3 : 32 * p + 11 < 2 ^ 31 := by omega
  have v4 : 32 * p + 12 < 2 ^ 31 := by omega
  have c0 : ∀ x : Option (St × St), nd_b1 x (fun s => some s) = x := fun x => by cases x <;> rfl
  generalize hz : sR X.1 9 (32 * p + 17) = z at ea
  refine ⟨fun e => ?_, fun e => ?_, fun e => ?_, fun e => ?_⟩
  · simp (disch := (first | assumption | decide | omega)) only [df_X16_call, df_X16_call_0, h3, hz, ea, e, eq_self, Nat.reduceEqDiff, Nat.reduceLeDiff, nl_0, nl_1, nl_2, nl_3, nl_4, nl_7, nl_9, nl_10, nl_11, nl_12, nl_13, nl_15, nl_16, nl_17, nl_32, nl_512, no_1, no_1024, pk_mul, nI_add, nm_ck, nI_clamp, nI_ltI, nI_leI, nI_eq, nb_b2, nb_b1, ↓nb_let, nm_z0, nm_z1, nb_II, nb_IR, nb_RI, nb_RR, nm_IL, nm_IQ, nm_RL, nm_RQ, nm_LI, nm_LR, nm_LL, nm_LQ, nm_QI, nm_QR, nm_QL, nm_QQ, nm_rr, nm_ii, nm_eqm, not_false_eq_true, pk_sub, nm_div, nm_shl, nm_shr, nm_ush, nm_or8, nm_or64, nm_or256, nm_m1, nm_m3, nm_m7, nm_m15, nm_m31, nm_m63, nm_m255, nm_m511, nm_m1023, nm_m2047, nm_m65535, Nat.reduceMod, Nat.reducePow, Nat.reduceAdd, Nat.reduceSub, Nat.reduceMul, nm_bo, nm_bi, nm_rc, nm_ic, nm_ri, nm_rl, nm_rq, nm_ql, nm_qi, nm_li, nm_us, nm_uu, nm_cp, nm_sa31, nm_sa7, nm_m127, nm_m2, nm_nz, nm_nzk, nm_eq32, nm_nzf, if_true, if_false, ↓reduceIte, if_pos, if_neg]
  · simp (disch := (first | assumption | decide | omega)) only [df_X16_call, df_X16_call_0, h3, hz, ea, e, c0, eq_self, Nat.reduceEqDiff, Nat.reduceLeDiff, nl_0, nl_1, nl_2, nl_3, nl_4, nl_7, nl_9, nl_10, nl_11, nl_12, nl_13, nl_15, nl_16, nl_17, nl_32, nl_512, no_1, no_1024, pk_mul, nI_add, nm_ck, nI_clamp, nI_ltI, nI_leI, nI_eq, nb_b2, nb_b1, ↓nb_let, nm_z0, nm_z1, nb_II, nb_IR, nb_RI, nb_RR, nm_IL, nm_IQ, nm_RL, nm_RQ, nm_LI, nm_LR, nm_LL, nm_LQ, nm_QI, nm_QR, nm_QL, nm_QQ, nm_rr, nm_ii, nm_eqm, not_false_eq_true, pk_sub, nm_div, nm_shl, nm_shr, nm_ush, nm_or8, nm_or64, nm_or256, nm_m1, nm_m3, nm_m7, nm_m15, nm_m31, nm_m63, nm_m255, nm_m511, nm_m1023, nm_m2047, nm_m65535, Nat.reduceMod, Nat.reducePow, Nat.reduceAdd, Nat.reduceSub, Nat.reduceMul, nm_bo, nm_bi, nm_rc, nm_ic, nm_ri, nm_rl, nm_rq, nm_ql, nm_qi, nm_li, nm_us, nm_uu, nm_cp, nm_sa31, nm_sa7, nm_m127, nm_m2, nm_nz, nm_nzk, nm_eq32, nm_nzf, if_true, if_false, ↓reduceIte, if_pos, if_neg]
  · simp (disch := (first | assumption | decide | omega)) only [df_X16_call, df_X16_call_0, h3, hz, ea, e, h3', eq_self, Nat.reduceEqDiff, Nat.reduceLeDiff, nl_0, nl_1, nl_2, nl_3, nl_4, nl_7, nl_9, nl_10, nl_11, nl_12, nl_13, nl_15, nl_16, nl_17, nl_32, nl_512, no_1, no_1024, pk_mul, nI_add, nm_ck, nI_clamp, nI_ltI, nI_leI, nI_eq, nb_b2, nb_b1, ↓nb_let, nm_z0, nm_z1, nb_II, nb_IR, nb_RI, nb_RR, nm_IL, nm_IQ, nm_RL, nm_RQ, nm_LI, nm_LR, nm_LL, nm_LQ, nm_QI, nm_QR, nm_QL, nm_QQ, nm_rr, nm_ii, nm_eqm, not_false_eq_true, pk_sub, nm_div, nm_shl, nm_shr, nm_ush, nm_or8, nm_or64, nm_or256, nm_m1, nm_m3, nm_m7, nm_m15, nm_m31, nm_m63, nm_m255, nm_m511, nm_m1023, nm_m2047, nm_m65535, Nat.reduceMod, Nat.reducePow, Nat.reduceAdd, Nat.reduceSub, Nat.reduceMul, nm_bo, nm_bi, nm_rc, nm_ic, nm_ri, nm_rl, nm_rq, nm_ql, nm_qi, nm_li, nm_us, nm_uu, nm_cp, nm_sa31, nm_sa7, nm_m127, nm_m2, nm_nz, nm_nzk, nm_eq32, nm_nzf, if_true, if_false, ↓reduceIte, if_pos, if_neg]
  · by_cases c : z = nI 15
    · rw [if_pos c]
      rw [c] at ea
      simp (disch := (first | assumption | decide | omega)) only [df_X16_call, df_X16_call_0, df_X16_call_164, h3, hz, ea, e, h3', c, c0, eq_self, Nat.reduceEqDiff, Nat.reduceLeDiff, nl_0, nl_1, nl_2, nl_3, nl_4, nl_7, nl_9, nl_10, nl_11, nl_12, nl_13, nl_15, nl_16, nl_17, nl_32, nl_512, no_1, no_1024, pk_mul, nI_add, nm_ck, nI_clamp, nI_ltI, nI_leI, nI_eq, nb_b2, nb_b1, ↓nb_let, nm_z0, nm_z1, nb_II, nb_IR, nb_RI, nb_RR, nm_IL, nm_IQ, nm_RL, nm_RQ, nm_LI, nm_LR, nm_LL, nm_LQ, nm_QI, nm_QR, nm_QL, nm_QQ, nm_rr, nm_ii, nm_eqm, not_false_eq_true, pk_sub, nm_div, nm_shl, nm_shr, nm_ush, nm_or8, nm_or64, nm_or256, nm_m1, nm_m3, nm_m7, nm_m15, nm_m31, nm_m63, nm_m255, nm_m511, nm_m1023, nm_m2047, nm_m65535, Nat.reduceMod, Nat.reducePow, Nat.reduceAdd, Nat.reduceSub, Nat.reduceMul, nm_bo, nm_bi, nm_rc, nm_ic, nm_ri, nm_rl, nm_rq, nm_ql, nm_qi, nm_li, nm_us, nm_uu, nm_cp, nm_sa31, nm_sa7, nm_m127, nm_m2, nm_nz, nm_nzk, nm_eq32, nm_nzf, if_true, if_false, ↓reduceIte, if_pos, if_neg]
    · rw [if_neg c]
      simp (disch := (first | assumption | decide | omega)) only [df_X16_call, df_X16_call_0, df_X16_call_164, h3, hz, ea, e, h3', c, eq_self, Nat.reduceEqDiff, Nat.reduceLeDiff, nl_0, nl_1, nl_2, nl_3, nl_4, nl_7, nl_9, nl_10, nl_11, nl_12, nl_13, nl_15, nl_16, nl_17, nl_32, nl_512, no_1, no_1024, pk_mul, nI_add, nm_ck, nI_clamp, nI_ltI, nI_leI, nI_eq, nb_b2, nb_b1, ↓nb_let, nm_z0, nm_z1, nb_II, nb_IR, nb_RI, nb_RR, nm_IL, nm_IQ, nm_RL, nm_RQ, nm_LI, nm_LR, nm_LL, nm_LQ, nm_QI, nm_QR, nm_QL, nm_QQ, nm_rr, nm_ii, nm_eqm, not_false_eq_true, pk_sub, nm_div, nm_shl, nm_shr, nm_ush, nm_or8, nm_or64, nm_or256, nm_m1, nm_m3, nm_m7, nm_m15, nm_m31, nm_m63, nm_m255, nm_m511, nm_m1023, nm_m2047, nm_m65535, Nat.reduceMod, Nat.reducePow, Nat.reduceAdd, Nat.reduceSub, Nat.reduceMul, nm_bo, nm_bi, nm_rc, nm_ic, nm_ri, nm_rl, nm_rq, nm_ql, nm_qi, nm_li, nm_us, nm_uu, nm_cp, nm_sa31, nm_sa7, nm_m127, nm_m2, nm_nz, nm_nzk, nm_eq32, nm_nzf, if_true, if_false, ↓reduceIte, if_pos, if_neg]
/-- a call of the kernel, in both -/
theorem nq_call (n : Nat) (hn : 40000 < n) {B p : Nat} {s : St × Rw × (St × (St × (St × (St)))) × (St) × (St) × (Nat → St) × (Nat → St) × (Nat → St × (St))} {X : St × St} (h1 : rM B s.2.2.1.2.2 X) (h2 : p < 16) (h3 : sI X.1 12 = nI p) (h5 : sR X.1 1 p = nI 1) (h6 : sI s.2.2.1.2.2.1 7 = nI 0) (h7 : sI X.1 16 = nI 0) (hl : sI X.1 2 = nI p) (hP : rPp s X.2) (hB : B + 512 < 2 ^ 62) : ∃ (v64 : Int64) (K' : St × (St × (St × St))) (t : Int32) (K'' : St × (St × (St × St))), df_X5_answerOf n (nI p) s = some (v64, (s.1, (s.2.1, (K', s.2.2.2)))) ∧ df_X5_answer n (nI p) v64 K' = some (t, K'') ∧ cT (B + 512) p s X t K'' (fun n => df_X16_call n X) n := by
  have h : cP B p s.2.2.1 (pI X.1 13 (nI 0), X.2) := ⟨h1, h2, h3, rfl, h5, h6, h7⟩
  by_cases hy : sR X.1 9 (32 * p + 17) = nI 15
  · have x0 : df_X16_answer n (sR X.1 9 (32 * p + 17)) (sR X.1 9 (32 * p + 10)) (sR X.1 9 (32 * p + 11)) (sR X.1 9 (32 * p + 12)) (pI X.1 13 (nI 0), X.2) = some (nI 0, (pI X.1 13 (nI 0), X.2)) := by
      rw [hy]
      generalize sR X.1 9 (32 * p + 10) = a
      generalize sR X.1 9 (32 * p + 11) = b
      generalize sR X.1 9 (32 * p + 12) = d
      unfold df_X16_answer df_X16_answer_0
      rw [if_neg (by decide), if_neg (by decide), if_neg (by decide), if_neg (by decide), if_neg (by decide), if_neg (by decide), if_neg (by decide), if_neg (by decide), if_neg (by decide), if_neg (by decide), if_neg (by decide), if_neg (by decide), if_neg (by decide), if_neg (by decide), if_neg (by decide), if_pos (by decide)]
      rfl
    have R := (ca_R n h2 h3 x0 h3).2.2.2 rfl
    rw [if_pos hy] at R
    have ra := rM_ans h.1 h2 h5 (nI 0)
    have ns := nq_next2 n (by omega) h1 h2 h5 hl
    have nt := (nq_next2 n (by omega) ra h2 h5 hl).2.2
    obtain ⟨q16, q1, _⟩ := ns
    have nt : df_X16_turn n (pR (pR (pI X.1 13 (nI 0)) 9 (upd (sR X.1 9) (32 * p + 10) (nI 0))) 10 (upd (sR X.1 10) p (sR X.1 10 p + nI 4)), X.2) = some (pI (pI (pR (pR (pI X.1 13 (nI 0)) 9 (upd (sR X.1 9) (32 * p + 10) (nI 0))) 10 (upd (sR X.1 10) p (sR X.1 10 p + nI 4))) 1 (nI ((p + nr (sR X.1 1) p) % 16))) 2 (nI ((p + nr (sR X.1 1) p) % 16)), X.2) := nt
    have R : df_X16_call n X = df_X16_turn n (pR (pR (pI X.1 13 (nI 0)) 9 (upd (sR X.1 9) (32 * p + 10) (nI 0))) 10 (upd (sR X.1 10) p (sR X.1 10 p + nI 4)), X.2) := R
    rw [nt] at R
    generalize (p + nr (sR X.1 1) p) % 16 = q at q16 q1 R
    have rc := rM_up (rM_cur ra (Or.inr ⟨q, q16, rfl⟩) ⟨q, q16, rfl⟩ (Or.inr rfl)) (show B ≤ B + 512 by omega)
    have u1 : ¬ q < 0 := by omega
    have u2 : q < 2 ^ 31 := by omega
    have mc : df_X6_makeCurrent n (nI q) s.2.2.1.2.2 = some (pI (pI s.2.2.1.2.2.1 3 (nI q)) 4 (nI q), s.2.2.1.2.2.2) := by simp (disch := (first | assumption | decide | omega)) only [df_X6_makeCurrent_14, df_X6_makeCurrent_0, df_X6_makeCurrent, u1, eq_self, Nat.reduceEqDiff, Nat.reduceLeDiff, nl_0, nl_3, nl_4, no_1, no_1024, pk_mul, nI_add, nm_ck, nI_clamp, nI_ltI, nI_leI, nI_eq, nb_b2, nb_b1, ↓nb_let, nm_z0, nm_z1, nb_II, nb_IR, nb_RI, nb_RR, nm_IL, nm_IQ, nm_RL, nm_RQ, nm_LI, nm_LR, nm_LL, nm_LQ, nm_QI, nm_QR, nm_QL, nm_QQ, nm_rr, nm_ii, nm_eqm, not_false_eq_true, pk_sub, nm_div, nm_shl, nm_shr, nm_ush, nm_or8, nm_or64, nm_or256, nm_m1, nm_m3, nm_m7, nm_m15, nm_m31, nm_m63, nm_m255, nm_m511, nm_m1023, nm_m2047, nm_m65535, Nat.reduceMod, Nat.reducePow, Nat.reduceAdd, Nat.reduceSub, Nat.reduceMul, nm_bo, nm_bi, nm_rc, nm_ic, nm_ri, nm_rl, nm_rq, nm_ql, nm_qi, nm_li, nm_us, nm_uu, nm_cp, nm_sa31, nm_sa7, nm_m127, nm_m2, nm_nz, nm_nzk, nm_eq32, nm_nzf, if_true, if_false, ↓reduceIte, if_pos, if_neg]
    obtain ⟨g10, g11, g12, g17⟩ := ar_4 n (K := s.2.2.1) h1 h2 h5 rfl rfl rfl hy
    have C : df_X5_answerOf n (nI p) s = some (0, (s.1, (s.2.1, ((s.2.2.1.1, (s.2.2.1.2.1, (pI (pI s.2.2.1.2.2.1 3 (nI q)) 4 (nI q), s.2.2.1.2.2.2))), s.2.2.2)))) := by
      unfold df_X5_answerOf df_X5_answerOf_0
      rw [g10, nb_b2, nb_let, g11, nb_b2, nb_let, g12, nb_b2, nb_let, g17, nb_b2, nb_let]
      rw [if_neg (by decide), if_neg (by decide), if_neg (by decide), if_neg (by decide), if_neg (by decide), if_neg (by decide), if_neg (by decide), if_neg (by decide), if_neg (by decide), if_neg (by decide), if_neg (by decide), if_neg (by decide), if_neg (by decide), if_neg (by decide), if_neg (by decide), if_pos (by decide), q1, nb_b2, nb_let, mc, nb_b1, nb_let]
    have A := (an_C n (K := (s.2.2.1.1, (s.2.2.1.2.1, (pI (pI s.2.2.1.2.2.1 3 (nI q)) 4 (nI q), s.2.2.1.2.2.2)))) h2).1 (nI 0)
    refine ⟨0, _, _, _, C, A, _, rc, fun _ => rfl, rfl, ⟨rfl, rfl, rfl, rfl, rfl⟩, Or.inl ⟨h6, h7⟩, Or.inl ⟨rfl, R⟩⟩
  · obtain ⟨v64, K', e, w64, v, K1, M', X', e1, e2, r1, r2, r3, r4, r5, r6, r7⟩ := nq_ao n hn h hP hB (a := sR X.1 9 (32 * p + 10)) (b := sR X.1 9 (32 * p + 11)) (d := sR X.1 9 (32 * p + 12)) (c := sR X.1 9 (32 * p + 17)) rfl rfl rfl rfl hy
    cases e1
    obtain ⟨R2, R3, R1, R0⟩ := ca_R n h2 h3 e2 (r4.2.2.1.trans h3)
    obtain ⟨A0, A3, A2, A1⟩ := an_C n (K := (K1, (s.2.2.1.2.1, M'))) h2
    have r5 : wrR X p (sI M'.1 7) (sI X'.1 16) := wrR_c (X := X) (Y := (pI X.1 13 (nI 0), X.2)) rfl rfl r5
    rcases r3 with ⟨o1, o2⟩ | ⟨o1, o2⟩ | ⟨o1, o2⟩ | ⟨o1, o2⟩
    · subst o2
      have t1 := r6 (by rw [o1]; decide)
      have R := R0 o1
      rw [if_neg hy] at R
      exact ⟨_, _, _, _, e, A0 v, _, rM_ans r1 h2 t1 v, r2, rfl, r4, r5, Or.inl ⟨rfl, R⟩⟩
    · subst o2
      have t1 := r6 (by rw [o1]; decide)
      obtain ⟨w1, w2⟩ := r7 o1
      have w2 : sR X'.1 9 (32 * p + 17) = sR X.1 9 (32 * p + 17) := w2
      have R := R1 o1
      rw [← w2] at R
      exact ⟨_, _, _, _, e, A1 _ r1.2.2.2.1, _, rM_wait r1 h2 t1 w1, r2, rfl, r4, r5, Or.inl ⟨rfl, R⟩⟩
    · subst o2
      exact ⟨_, _, _, _, e, A2, X', r1, r2, rfl, r4, r5, Or.inl ⟨rfl, R2 o1⟩⟩
    · subst o2
      exact ⟨_, _, _, _, e, A3, X', r1, r2, rfl, r4, r5, Or.inr ⟨rfl, r6 (by rw [o1]; decide), R3 o1⟩⟩

/-- a handler is entered, in both -/
theorem rM_enter {B : Nat} {M X : St × St} (h : rM B M X) {p s : Nat} (hp : p < 16) (hs : s < 16) (h1 : sR X.1 1 p = nI 1) : rM B (pR (pR (pR M.1 3 (upd (upd (sR M.1 3) (p * 33 + 10) (nI s)) (p * 33 + 32) (sR M.1 5 (p * 16 + s)))) 4 (va_cpy (sR M.1 3) (sR M.1 4) (p * 33) (p * 33) 33)) 6 (upd (sR M.1 6) (p * 7 + 4) (nI 1)), M.2) (pR (pR (pR (pR (pR X.1 8 (upd (sR X.1 8) p (nI 1))) 9 (upd (sR X.1 9) (32 * p + 10) (nI s))) 10 (upd (sR X.1 10) p (sR X.1 13 (16 * p + s)))) 11 (cpx (sR X.1 11) (sR X.1 9) (32 * p) 32)) 12 (upd (sR X.1 12) p (sR X.1 10 p)), X.2) := by
  obtain ⟨m1, m2, m3, m4, m5, m6, m7⟩ := h
  refine ⟨m1, m2, rP_all m3 (p := p) ?_ (fun q hq => ⟨⟨fun i hi => nm_un (by omega), fun i hi => ?_, fun i hi => va_o (by omega), fun _ _ => rfl, rfl⟩, ⟨⟨rfl, rfl, rfl, rfl, rfl, rfl, rfl, nm_un hq⟩, fun i hi => nm_un (by omega), nm_un hq, fun i hi => cpx_o (by omega), nm_un hq, fun _ _ => rfl, fun _ _ => rfl, fun _ _ => Iff.rfl, rfl⟩⟩), m4, m5, m6, m7⟩
  · obtain ⟨t, c', w, b', e, ht, hc', hw, hb, he, a1, a2, a3, a4, a5, a6, a7, a8, a9, a10, a11, a12, a13, a14, a15, a16, a17, a18, a19, a20, a21⟩ := m3 p hp
    have t1 : t = 1 := nm_inI (by omega) (by omega) (a2.symm.trans h1)
    obtain ⟨g1, g2⟩ := a17 (by omega)
    obtain ⟨k1, k2, _⟩ := a18 (Or.inl t1)
    refine ⟨t, c', 1, b', e, ht, hc', by omega, hb, he, (nm_un (by omega)).trans a1, a2, (nm_un (by omega)).trans a3, a4, a5, fun z => by omega, fun z => (nm_un (by omega)).trans (a7 z), (nm_un (by omega)).trans a8, a9, nm_us, nm_us, (nm_un (by omega)).trans a12, a13, (nm_un (by omega)).trans a14, a15, a16, fun _ => ⟨fun r hr => ?_, ?_⟩, fun _ => ⟨k1, k2, fun _ => ⟨fun r hr => ?_, ?_⟩⟩, fun z => by omega, fun z => by omega, a21⟩
    · show upd (upd (sR M.1 3) (p * 33 + 10) _) (p * 33 + 32) _ (p * 33 + r) = upd (sR X.1 9) (32 * p + 10) _ (32 * p + r)
      rw [nm_un (by omega)]
      by_cases c : r = 10
      · rw [c, nm_us, nm_us]
      · rw [nm_un (by omega), nm_un (by omega)]
        exact g1 r hr
    · show upd (upd (sR M.1 3) (p * 33 + 10) _) (p * 33 + 32) _ (p * 33 + 32) = upd (sR X.1 10) p _ p
      rw [nm_us, nm_us]
      exact k1 s hs
    · show va_cpy _ _ _ _ _ (p * 33 + r) = cpx _ _ _ _ (32 * p + r)
      rw [va_i (by omega), cpx_i (by omega), show p * 33 + (p * 33 + r - p * 33) = p * 33 + r by omega]
      exact g1 r hr
    · show va_cpy _ _ _ _ _ (p * 33 + 32) = upd _ _ _ p
      rw [va_i (by omega), nm_us, show p * 33 + (p * 33 + 32 - p * 33) = p * 33 + 32 by omega]
      exact g2
  · show upd (upd (sR M.1 3) (p * 33 + 10) _) (p * 33 + 32) _ (q * 33 + i) = _
    rw [nm_un (by omega), nm_un (by omega)]
/-- a step of the hart leaves the two machines tied -/
theorem hX_rows (X : St × St) (x b fr ho pl : Nat → Int32) (us re wr nx a' b' : Int32) (z : Int64) : (∀ k : Nat, ¬ k = 9 → ¬ k = 10 → ¬ k = 15 → ¬ k = 16 → ¬ k = 18 → sR (pL (pR (hX (zS X a' b' nx (nI 0)) x b fr ho us re wr nx).1 10 pl) 0 z) k = sR X.1 k) ∧ sR (pL (pR (hX (zS X a' b' nx (nI 0)) x b fr ho us re wr nx).1 10 pl) 0 z) 9 = x ∧ sR (pL (pR (hX (zS X a' b' nx (nI 0)) x b fr ho us re wr nx).1 10 pl) 0 z) 10 = pl ∧ sR (pL (pR (hX (zS X a' b' nx (nI 0)) x b fr ho us re wr nx).1 10 pl) 0 z) 15 = b ∧ sR (pL (pR (hX (zS X a' b' nx (nI 0)) x b fr ho us re wr nx).1 10 pl) 0 z) 16 = fr ∧ sR (pL (pR (hX (zS X a' b' nx (nI 0)) x b fr ho us re wr nx).1 10 pl) 0 z) 18 = ho ∧ (∀ k : Nat, ¬ k = 4 → ¬ k = 6 → ¬ k = 8 → ¬ k = 9 → ¬ k = 10 → ¬ k = 11 → ¬ k = 16 → sI (pL (pR (hX (zS X a' b' nx (nI 0)) x b fr ho us re wr nx).1 10 pl) 0 z) k = sI X.1 k) ∧ sI (pL (pR (hX (zS X a' b' nx (nI 0)) x b fr ho us re wr nx).1 10 pl) 0 z) 4 = re ∧ sI (pL (pR (hX (zS X a' b' nx (nI 0)) x b fr ho us re wr nx).1 10 pl) 0 z) 6 = us ∧ sI (pL (pR (hX (zS X a' b' nx (nI 0)) x b fr ho us re wr nx).1 10 pl) 0 z) 16 = wr ∧ (∀ k : Nat, ¬ k = 0 → sL (pL (pR (hX (zS X a' b' nx (nI 0)) x b fr ho us re wr nx).1 10 pl) 0 z) k = sL X.1 k) ∧ sL (pL (pR (hX (zS X a' b' nx (nI 0)) x b fr ho us re wr nx).1 10 pl) 0 z) 0 = z ∧ ∀ k : Nat, sQ (pL (pR (hX (zS X a' b' nx (nI 0)) x b fr ho us re wr nx).1 10 pl) 0 z) k = sQ X.1 k := by
  refine ⟨fun k k1 k2 k3 k4 k5 => ?_, ?_, ?_, ?_, ?_, ?_, fun k k1 k2 k3 k4 k5 k6 k7 => ?_, ?_, ?_, ?_, fun k k1 => ?_, ?_, fun k => ?_⟩
  · simp (disch := (first | assumption | decide | omega)) only [hX, zS, k1, k2, k3, k4, k5, eq_self, Nat.reduceEqDiff, Nat.reduceLeDiff, no_1, no_1024, pk_mul, nI_add, nm_ck, nI_clamp, nI_ltI, nI_leI, nI_eq, nb_b2, nb_b1, ↓nb_let, nm_z0, nm_z1, nb_II, nb_IR, nb_RI, nb_RR, nm_IL, nm_IQ, nm_RL, nm_RQ, nm_LI, nm_LR, nm_LL, nm_LQ, nm_QI, nm_QR, nm_QL, nm_QQ, nm_rr, nm_ii, nm_eqm, not_false_eq_true, pk_sub, nm_div, nm_shl, nm_shr, nm_ush, nm_or8, nm_or64, nm_or256, nm_m1, nm_m3, nm_m7, nm_m15, nm_m31, nm_m63, nm_m255, nm_m511, nm_m1023, nm_m2047, nm_m65535, Nat.reduceMod, Nat.reducePow, Nat.reduceAdd, Nat.reduceSub, Nat.reduceMul, nm_bo, nm_bi, nm_rc, nm_ic, nm_ri, nm_rl, nm_rq, nm_ql, nm_qi, nm_li, nm_us, nm_uu, nm_cp, nm_sa31, nm_sa7, nm_m127, nm_m2, nm_nz, nm_nzk, nm_eq32, nm_nzf, if_true, if_false, ↓reduceIte, if_pos, if_neg]
  · simp (disch := (first | assumption | decide | omega)) only [hX, zS, eq_self, Nat.reduceEqDiff, Nat.reduceLeDiff, no_1, no_1024, pk_mul, nI_add, nm_ck, nI_clamp, nI_ltI, nI_leI, nI_eq, nb_b2, nb_b1, ↓nb_let, nm_z0, nm_z1, nb_II, nb_IR, nb_RI, nb_RR, nm_IL, nm_IQ, nm_RL, nm_RQ, nm_LI, nm_LR, nm_LL, nm_LQ, nm_QI, nm_QR, nm_QL, nm_QQ, nm_rr, nm_ii, nm_eqm, not_false_eq_true, pk_sub, nm_div, nm_shl, nm_shr, nm_ush, nm_or8, nm_or64, nm_or256, nm_m1, nm_m3, nm_m7, nm_m15, nm_m31, nm_m63, nm_m255, nm_m511, nm_m1023, nm_m2047, nm_m65535, Nat.reduceMod, Nat.reducePow, Nat.reduceAdd, Nat.reduceSub, Nat.reduceMul, nm_bo, nm_bi, nm_rc, nm_ic, nm_ri, nm_rl, nm_rq, nm_ql, nm_qi, nm_li, nm_us, nm_uu, nm_cp, nm_sa31, nm_sa7, nm_m127, nm_m2, nm_nz, nm_nzk, nm_eq32, nm_nzf, if_true, if_false, ↓reduceIte, if_pos, if_neg]
  · simp (disch := (first | assumption | decide | omega)) only [hX, zS, eq_self, Nat.reduceEqDiff, Nat.reduceLeDiff, no_1, no_1024, pk_mul, nI_add, nm_ck, nI_clamp, nI_ltI, nI_leI, nI_eq, nb_b2, nb_b1, ↓nb_let, nm_z0, nm_z1, nb_II, nb_IR, nb_RI, nb_RR, nm_IL, nm_IQ, nm_RL, nm_RQ, nm_LI, nm_LR, nm_LL, nm_LQ, nm_QI, nm_QR, nm_QL, nm_QQ, nm_rr, nm_ii, nm_eqm, not_false_eq_true, pk_sub, nm_div, nm_shl, nm_shr, nm_ush, nm_or8, nm_or64, nm_or256, nm_m1, nm_m3, nm_m7, nm_m15, nm_m31, nm_m63, nm_m255, nm_m511, nm_m1023, nm_m2047, nm_m65535, Nat.reduceMod, Nat.reducePow, Nat.reduceAdd, Nat.reduceSub, Nat.reduceMul, nm_bo, nm_bi, nm_rc, nm_ic, nm_ri, nm_rl, nm_rq, nm_ql, nm_qi, nm_li, nm_us, nm_uu, nm_cp, nm_sa31, nm_sa7, nm_m127, nm_m2, nm_nz, nm_nzk, nm_eq32, nm_nzf, if_true, if_false, ↓reduceIte, if_pos, if_neg]
  · simp (disch := (first | assumption | decide | omega)) only [hX, zS, eq_self, Nat.reduceEqDiff, Nat.reduceLeDiff, no_1, no_1024, pk_mul, nI_add, nm_ck, nI_clamp, nI_ltI, nI_leI, nI_eq, nb_b2, nb_b1, ↓nb_let, nm_z0, nm_z1, nb_II, nb_IR, nb_RI, nb_RR, nm_IL, nm_IQ, nm_RL, nm_RQ, nm_LI, nm_LR, nm_LL, nm_LQ, nm_QI, nm_QR, nm_QL, nm_QQ, nm_rr, nm_ii, nm_eqm, not_false_eq_true, pk_sub, nm_div, nm_shl, nm_shr, nm_ush, nm_or8, nm_or64, nm_or256, nm_m1, nm_m3, nm_m7, nm_m15, nm_m31, nm_m63, nm_m255, nm_m511, nm_m1023, nm_m2047, nm_m65535, Nat.reduceMod, Nat.reducePow, Nat.reduceAdd, Nat.reduceSub, Nat.reduceMul, nm_bo, nm_bi, nm_rc, nm_ic, nm_ri, nm_rl, nm_rq, nm_ql, nm_qi, nm_li, nm_us, nm_uu, nm_cp, nm_sa31, nm_sa7, nm_m127, nm_m2, nm_nz, nm_nzk, nm_eq32, nm_nzf, if_true, if_false, ↓reduceIte, if_pos, if_neg]
  · simp (disch := (first | assumption | decide | omega)) only [hX, zS, eq_self, Nat.reduceEqDiff, Nat.reduceLeDiff, no_1, no_1024, pk_mul, nI_add, nm_ck, nI_clamp, nI_ltI, nI_leI, nI_eq, nb_b2, nb_b1, ↓nb_let, nm_z0, nm_z1, nb_II, nb_IR, nb_RI, nb_RR, nm_IL, nm_IQ, nm_RL, nm_RQ, nm_LI, nm_LR, nm_LL, nm_LQ, nm_QI, nm_QR, nm_QL, nm_QQ, nm_rr, nm_ii, nm_eqm, not_false_eq_true, pk_sub, nm_div, nm_shl, nm_shr, nm_ush, nm_or8, nm_or64, nm_or256, nm_m1, nm_m3, nm_m7, nm_m15, nm_m31, nm_m63, nm_m255, nm_m511, nm_m1023, nm_m2047, nm_m65535, Nat.reduceMod, Nat.reducePow, Nat.reduceAdd, Nat.reduceSub, Nat.reduceMul, nm_bo, nm_bi, nm_rc, nm_ic, nm_ri, nm_rl, nm_rq, nm_ql, nm_qi, nm_li, nm_us, nm_uu, nm_cp, nm_sa31, nm_sa7, nm_m127, nm_m2, nm_nz, nm_nzk, nm_eq32, nm_nzf, if_true, if_false, ↓reduceIte, if_pos, if_neg]
  · simp (disch := (first | assumption | decide | omega)) only [hX, zS, eq_self, Nat.reduceEqDiff, Nat.reduceLeDiff, no_1, no_1024, pk_mul, nI_add, nm_ck, nI_clamp, nI_ltI, nI_leI, nI_eq, nb_b2, nb_b1, ↓nb_let, nm_z0, nm_z1, nb_II, nb_IR, nb_RI, nb_RR, nm_IL, nm_IQ, nm_RL, nm_RQ, nm_LI, nm_LR, nm_LL, nm_LQ, nm_QI, nm_QR, nm_QL, nm_QQ, nm_rr, nm_ii, nm_eqm, not_false_eq_true, pk_sub, nm_div, nm_shl, nm_shr, nm_ush, nm_or8, nm_or64, nm_or256, nm_m1, nm_m3, nm_m7, nm_m15, nm_m31, nm_m63, nm_m255, nm_m511, nm_m1023, nm_m2047, nm_m65535, Nat.reduceMod, Nat.reducePow, Nat.reduceAdd, Nat.reduceSub, Nat.reduceMul, nm_bo, nm_bi, nm_rc, nm_ic, nm_ri, nm_rl, nm_rq, nm_ql, nm_qi, nm_li, nm_us, nm_uu, nm_cp, nm_sa31, nm_sa7, nm_m127, nm_m2, nm_nz, nm_nzk, nm_eq32, nm_nzf, if_true, if_false, ↓reduceIte, if_pos, if_neg]
  · simp (disch := (first | assumption | decide | omega)) only [hX, zS, k1, k2, k3, k4, k5, k6, k7, eq_self, Nat.reduceEqDiff, Nat.reduceLeDiff, no_1, no_1024, pk_mul, nI_add, nm_ck, nI_clamp, nI_ltI, nI_leI, nI_eq, nb_b2, nb_b1, ↓nb_let, nm_z0, nm_z1, nb_II, nb_IR, nb_RI, nb_RR, nm_IL, nm_IQ, nm_RL, nm_RQ, nm_LI, nm_LR, nm_LL, nm_LQ, nm_QI, nm_QR, nm_QL, nm_QQ, nm_rr, nm_ii, nm_eqm, not_false_eq_true, pk_sub, nm_div, nm_shl, nm_shr, nm_ush, nm_or8, nm_or64, nm_or256, nm_m1, nm_m3, nm_m7, nm_m15, nm_m31, nm_m63, nm_m255, nm_m511, nm_m1023, nm_m2047, nm_m65535, Nat.reduceMod, Nat.reducePow, Nat.reduceAdd, Nat.reduceSub, Nat.reduceMul, nm_bo, nm_bi, nm_rc, nm_ic, nm_ri, nm_rl, nm_rq, nm_ql, nm_qi, nm_li, nm_us, nm_uu, nm_cp, nm_sa31, nm_sa7, nm_m127, nm_m2, nm_nz, nm_nzk, nm_eq32, nm_nzf, if_true, if_false, ↓reduceIte, if_pos, if_neg]
  · simp (disch := (first | assumption | decide | omega)) only [hX, zS, eq_self, Nat.reduceEqDiff, Nat.reduceLeDiff, no_1, no_1024, pk_mul, nI_add, nm_ck, nI_clamp, nI_ltI, nI_leI, nI_eq, nb_b2, nb_b1, ↓nb_let, nm_z0, nm_z1, nb_II, nb_IR, nb_RI, nb_RR, nm_IL, nm_IQ, nm_RL, nm_RQ, nm_LI, nm_LR, nm_LL, nm_LQ, nm_QI, nm_QR, nm_QL, nm_QQ, nm_rr, nm_ii, nm_eqm, not_false_eq_true, pk_sub, nm_div, nm_shl, nm_shr, nm_ush, nm_or8, nm_or64, nm_or256, nm_m1, nm_m3, nm_m7, nm_m15, nm_m31, nm_m63, nm_m255, nm_m511, nm_m1023, nm_m2047, nm_m65535, Nat.reduceMod, Nat.reducePow, Nat.reduceAdd, Nat.reduceSub, Nat.reduceMul, nm_bo, nm_bi, nm_rc, nm_ic, nm_ri, nm_rl, nm_rq, nm_ql, nm_qi, nm_li, nm_us, nm_uu, nm_cp, nm_sa31, nm_sa7, nm_m127, nm_m2, nm_nz, nm_nzk, nm_eq32, nm_nzf, if_true, if_false, ↓reduceIte, if_pos, if_neg]
  · simp (disch := (first | assumption | decide | omega)) only [hX, zS, eq_self, Nat.reduceEqDiff, Nat.reduceLeDiff, no_1, no_1024, pk_mul, nI_add, nm_ck, nI_clamp, nI_ltI, nI_leI, nI_eq, nb_b2, nb_b1, ↓nb_let, nm_z0, nm_z1, nb_II, nb_IR, nb_RI, nb_RR, nm_IL, nm_IQ, nm_RL, nm_RQ, nm_LI, nm_LR, nm_LL, nm_LQ, nm_QI, nm_QR, nm_QL, nm_QQ, nm_rr, nm_ii, nm_eqm, not_false_eq_true, pk_sub, nm_div, nm_shl, nm_shr, nm_ush, nm_or8, nm_or64, nm_or256, nm_m1, nm_m3, nm_m7, nm_m15, nm_m31, nm_m63, nm_m255, nm_m511, nm_m1023, nm_m2047, nm_m65535, Nat.reduceMod, Nat.reducePow, Nat.reduceAdd, Nat.reduceSub, Nat.reduceMul, nm_bo, nm_bi, nm_rc, nm_ic, nm_ri, nm_rl, nm_rq, nm_ql, nm_qi, nm_li, nm_us, nm_uu, nm_cp, nm_sa31, nm_sa7, nm_m127, nm_m2, nm_nz, nm_nzk, nm_eq32, nm_nzf, if_true, if_false, ↓reduceIte, if_pos, if_neg]
  · simp (disch := (first | assumption | decide | omega)) only [hX, zS, eq_self, Nat.reduceEqDiff, Nat.reduceLeDiff, no_1, no_1024, pk_mul, nI_add, nm_ck, nI_clamp, nI_ltI, nI_leI, nI_eq, nb_b2, nb_b1, ↓nb_let, nm_z0, nm_z1, nb_II, nb_IR, nb_RI, nb_RR, nm_IL, nm_IQ, nm_RL, nm_RQ, nm_LI, nm_LR, nm_LL, nm_LQ, nm_QI, nm_QR, nm_QL, nm_QQ, nm_rr, nm_ii, nm_eqm, not_false_eq_true, pk_sub, nm_div, nm_shl, nm_shr, nm_ush, nm_or8, nm_or64, nm_or256, nm_m1, nm_m3, nm_m7, nm_m15, nm_m31, nm_m63, nm_m255, nm_m511, nm_m1023, nm_m2047, nm_m65535, Nat.reduceMod, Nat.reducePow, Nat.reduceAdd, Nat.reduceSub, Nat.reduceMul, nm_bo, nm_bi, nm_rc, nm_ic, nm_ri, nm_rl, nm_rq, nm_ql, nm_qi, nm_li, nm_us, nm_uu, nm_cp, nm_sa31, nm_sa7, nm_m127, nm_m2, nm_nz, nm_nzk, nm_eq32, nm_nzf, if_true, if_false, ↓reduceIte, if_pos, if_neg]
  · simp (disch := (first | assumption | decide | omega)) only [hX, zS, k1, eq_self, Nat.reduceEqDiff, Nat.reduceLeDiff, no_1, no_1024, pk_mul, nI_add, nm_ck, nI_clamp, nI_ltI, nI_leI, nI_eq, nb_b2, nb_b1, ↓nb_let, nm_z0, nm_z1, nb_II, nb_IR, nb_RI, nb_RR, nm_IL, nm_IQ, nm_RL, nm_RQ, nm_LI, nm_LR, nm_LL, nm_LQ, nm_QI, nm_QR, nm_QL, nm_QQ, nm_rr, nm_ii, nm_eqm, not_false_eq_true, pk_sub, nm_div, nm_shl, nm_shr, nm_ush, nm_or8, nm_or64, nm_or256, nm_m1, nm_m3, nm_m7, nm_m15, nm_m31, nm_m63, nm_m255, nm_m511, nm_m1023, nm_m2047, nm_m65535, Nat.reduceMod, Nat.reducePow, Nat.reduceAdd, Nat.reduceSub, Nat.reduceMul, nm_bo, nm_bi, nm_rc, nm_ic, nm_ri, nm_rl, nm_rq, nm_ql, nm_qi, nm_li, nm_us, nm_uu, nm_cp, nm_sa31, nm_sa7, nm_m127, nm_m2, nm_nz, nm_nzk, nm_eq32, nm_nzf, if_true, if_false, ↓reduceIte, if_pos, if_neg]
  · simp (disch := (first | assumption | decide | omega)) only [hX, zS, eq_self, Nat.reduceEqDiff, Nat.reduceLeDiff, no_1, no_1024, pk_mul, nI_add, nm_ck, nI_clamp, nI_ltI, nI_leI, nI_eq, nb_b2, nb_b1, ↓nb_let, nm_z0, nm_z1, nb_II, nb_IR, nb_RI, nb_RR, nm_IL, nm_IQ, nm_RL, nm_RQ, nm_LI, nm_LR, nm_LL, nm_LQ, nm_QI, nm_QR, nm_QL, nm_QQ, nm_rr, nm_ii, nm_eqm, not_false_eq_true, pk_sub, nm_div, nm_shl, nm_shr, nm_ush, nm_or8, nm_or64, nm_or256, nm_m1, nm_m3, nm_m7, nm_m15, nm_m31, nm_m63, nm_m255, nm_m511, nm_m1023, nm_m2047, nm_m65535, Nat.reduceMod, Nat.reducePow, Nat.reduceAdd, Nat.reduceSub, Nat.reduceMul, nm_bo, nm_bi, nm_rc, nm_ic, nm_ri, nm_rl, nm_rq, nm_ql, nm_qi, nm_li, nm_us, nm_uu, nm_cp, nm_sa31, nm_sa7, nm_m127, nm_m2, nm_nz, nm_nzk, nm_eq32, nm_nzf, if_true, if_false, ↓reduceIte, if_pos, if_neg]
  · simp (disch := (first | assumption | decide | omega)) only [hX, zS, eq_self, Nat.reduceEqDiff, Nat.reduceLeDiff, no_1, no_1024, pk_mul, nI_add, nm_ck, nI_clamp, nI_ltI, nI_leI, nI_eq, nb_b2, nb_b1, ↓nb_let, nm_z0, nm_z1, nb_II, nb_IR, nb_RI, nb_RR, nm_IL, nm_IQ, nm_RL, nm_RQ, nm_LI, nm_LR, nm_LL, nm_LQ, nm_QI, nm_QR, nm_QL, nm_QQ, nm_rr, nm_ii, nm_eqm, not_false_eq_true, pk_sub, nm_div, nm_shl, nm_shr, nm_ush, nm_or8, nm_or64, nm_or256, nm_m1, nm_m3, nm_m7, nm_m15, nm_m31, nm_m63, nm_m255, nm_m511, nm_m1023, nm_m2047, nm_m65535, Nat.reduceMod, Nat.reducePow, Nat.reduceAdd, Nat.reduceSub, Nat.reduceMul, nm_bo, nm_bi, nm_rc, nm_ic, nm_ri, nm_rl, nm_rq, nm_ql, nm_qi, nm_li, nm_us, nm_uu, nm_cp, nm_sa31, nm_sa7, nm_m127, nm_m2, nm_nz, nm_nzk, nm_eq32, nm_nzf, if_true, if_false, ↓reduceIte, if_pos, if_neg]
theorem hM_rows (M : St × St) (rg w u g R : Nat → Int32) (fu re wn : Int32) (z : Int64) : (∀ k : Nat, 4 ≤ k → sR (pL (pR (hM M rg w u g fu re wn).1 3 R) 1 z) k = sR M.1 k) ∧ sR (pL (pR (hM M rg w u g fu re wn).1 3 R) 1 z) 0 = w ∧ sR (pL (pR (hM M rg w u g fu re wn).1 3 R) 1 z) 1 = u ∧ sR (pL (pR (hM M rg w u g fu re wn).1 3 R) 1 z) 2 = g ∧ sR (pL (pR (hM M rg w u g fu re wn).1 3 R) 1 z) 3 = R ∧ (∀ k : Nat, ¬ k = 0 → ¬ k = 6 → ¬ k = 7 → sI (pL (pR (hM M rg w u g fu re wn).1 3 R) 1 z) k = sI M.1 k) ∧ sI (pL (pR (hM M rg w u g fu re wn).1 3 R) 1 z) 0 = fu ∧ sI (pL (pR (hM M rg w u g fu re wn).1 3 R) 1 z) 6 = re ∧ sI (pL (pR (hM M rg w u g fu re wn).1 3 R) 1 z) 7 = wn ∧ sL (pL (pR (hM M rg w u g fu re wn).1 3 R) 1 z) 0 = sL M.1 0 ∧ sL (pL (pR (hM M rg w u g fu re wn).1 3 R) 1 z) 1 = z ∧ ∀ k : Nat, sQ (pL (pR (hM M rg w u g fu re wn).1 3 R) 1 z) k = sQ M.1 k := by
  refine ⟨fun k hk => ?_, ?_, ?_, ?_, ?_, fun k k1 k2 k3 => ?_, ?_, ?_, ?_, ?_, ?_, fun k => ?_⟩
  · have k0 : ¬ k = 0 := by omega
    have k1 : ¬ k = 1 := by omega
    have k2 : ¬ k = 2 := by omega
    have k3 : ¬ k = 3 := by omega
    simp (disch := (first | assumption | decide | omega)) only [hM, k0, k1, k2, k3, eq_self, Nat.reduceEqDiff, Nat.reduceLeDiff, no_1, no_1024, pk_mul, nI_add, nm_ck, nI_clamp, nI_ltI, nI_leI, nI_eq, nb_b2, nb_b1, ↓nb_let, nm_z0, nm_z1, nb_II, nb_IR, nb_RI, nb_RR, nm_IL, nm_IQ, nm_RL, nm_RQ, nm_LI, nm_LR, nm_LL, nm_LQ, nm_QI, nm_QR, nm_QL, nm_QQ, nm_rr, nm_ii, nm_eqm, not_false_eq_true, pk_sub, nm_div, nm_shl, nm_shr, nm_ush, nm_or8, nm_or64, nm_or256, nm_m1, nm_m3, nm_m7, nm_m15, nm_m31, nm_m63, nm_m255, nm_m511, nm_m1023, nm_m2047, nm_m65535, Nat.reduceMod, Nat.reducePow, Nat.reduceAdd, Nat.reduceSub, Nat.reduceMul, nm_bo, nm_bi, nm_rc, nm_ic, nm_ri, nm_rl, nm_rq, nm_ql, nm_qi, nm_li, nm_us, nm_uu, nm_cp, nm_sa31, nm_sa7, nm_m127, nm_m2, nm_nz, nm_nzk, nm_eq32, nm_nzf, if_true, if_false, ↓reduceIte, if_pos, if_neg]
  · simp (disch := (first | assumption | decide | omega)) only [hM, eq_self, Nat.reduceEqDiff, Nat.reduceLeDiff, no_1, no_1024, pk_mul, nI_add, nm_ck, nI_clamp, nI_ltI, nI_leI, nI_eq, nb_b2, nb_b1, ↓nb_let, nm_z0, nm_z1, nb_II, nb_IR, nb_RI, nb_RR, nm_IL, nm_IQ, nm_RL, nm_RQ, nm_LI, nm_LR, nm_LL, nm_LQ, nm_QI, nm_QR, nm_QL, nm_QQ, nm_rr, nm_ii, nm_eqm, not_false_eq_true, pk_sub, nm_div, nm_shl, nm_shr, nm_ush, nm_or8, nm_or64, nm_or256, nm_m1, nm_m3, nm_m7, nm_m15, nm_m31, nm_m63, nm_m255, nm_m511, nm_m1023, nm_m2047, nm_m65535, Nat.reduceMod, Nat.reducePow, Nat.reduceAdd, Nat.reduceSub, Nat.reduceMul, nm_bo, nm_bi, nm_rc, nm_ic, nm_ri, nm_rl, nm_rq, nm_ql, nm_qi, nm_li, nm_us, nm_uu, nm_cp, nm_sa31, nm_sa7, nm_m127, nm_m2, nm_nz, nm_nzk, nm_eq32, nm_nzf, if_true, if_false, ↓reduceIte, if_pos, if_neg]
  · simp (disch := (first | assumption | decide | omega)) only [hM, eq_self, Nat.reduceEqDiff, Nat.reduceLeDiff, no_1, no_1024, pk_mul, nI_add, nm_ck, nI_clamp, nI_ltI, nI_leI, nI_eq, nb_b2, nb_b1, ↓nb_let, nm_z0, nm_z1, nb_II, nb_IR, nb_RI, nb_RR, nm_IL, nm_IQ, nm_RL, nm_RQ, nm_LI, nm_LR, nm_LL, nm_LQ, nm_QI, nm_QR, nm_QL, nm_QQ, nm_rr, nm_ii, nm_eqm, not_false_eq_true, pk_sub, nm_div, nm_shl, nm_shr, nm_ush, nm_or8, nm_or64, nm_or256, nm_m1, nm_m3, nm_m7, nm_m15, nm_m31, nm_m63, nm_m255, nm_m511, nm_m1023, nm_m2047, nm_m65535, Nat.reduceMod, Nat.reducePow, Nat.reduceAdd, Nat.reduceSub, Nat.reduceMul, nm_bo, nm_bi, nm_rc, nm_ic, nm_ri, nm_rl, nm_rq, nm_ql, nm_qi, nm_li, nm_us, nm_uu, nm_cp, nm_sa31, nm_sa7, nm_m127, nm_m2, nm_nz, nm_nzk, nm_eq32, nm_nzf, if_true, if_false, ↓reduceIte, if_pos, if_neg]
  · simp (disch := (first | assumption | decide | omega)) only [hM, eq_self, Nat.reduceEqDiff, Nat.reduceLeDiff, no_1, no_1024, pk_mul, nI_add, nm_ck, nI_clamp, nI_ltI, nI_leI, nI_eq, nb_b2, nb_b1, ↓nb_let, nm_z0, nm_z1, nb_II, nb_IR, nb_RI, nb_RR, nm_IL, nm_IQ, nm_RL, nm_RQ, nm_LI, nm_LR, nm_LL, nm_LQ, nm_QI, nm_QR, nm_QL, nm_QQ, nm_rr, nm_ii, nm_eqm, not_false_eq_true, pk_sub, nm_div, nm_shl, nm_shr, nm_ush, nm_or8, nm_or64, nm_or256, nm_m1, nm_m3, nm_m7, nm_m15, nm_m31, nm_m63, nm_m255, nm_m511, nm_m1023, nm_m2047, nm_m65535, Nat.reduceMod, Nat.reducePow, Nat.reduceAdd, Nat.reduceSub, Nat.reduceMul, nm_bo, nm_bi, nm_rc, nm_ic, nm_ri, nm_rl, nm_rq, nm_ql, nm_qi, nm_li, nm_us, nm_uu, nm_cp, nm_sa31, nm_sa7, nm_m127, nm_m2, nm_nz, nm_nzk, nm_eq32, nm_nzf, if_true, if_false, ↓reduceIte, if_pos, if_neg]
  · simp (disch := (first | assumption | decide | omega)) only [hM, eq_self, Nat.reduceEqDiff, Nat.reduceLeDiff, no_1, no_1024, pk_mul, nI_add, nm_ck, nI_clamp, nI_ltI, nI_leI, nI_eq, nb_b2, nb_b1, ↓nb_let, nm_z0, nm_z1, nb_II, nb_IR, nb_RI, nb_RR, nm_IL, nm_IQ, nm_RL, nm_RQ, nm_LI, nm_LR, nm_LL, nm_LQ, nm_QI, nm_QR, nm_QL, nm_QQ, nm_rr, nm_ii, nm_eqm, not_false_eq_true, pk_sub, nm_div, nm_shl, nm_shr, nm_ush, nm_or8, nm_or64, nm_or256, nm_m1, nm_m3, nm_m7, nm_m15, nm_m31, nm_m63, nm_m255, nm_m511, nm_m1023, nm_m2047, nm_m65535, Nat.reduceMod, Nat.reducePow, Nat.reduceAdd, Nat.reduceSub, Nat.reduceMul, nm_bo, nm_bi, nm_rc, nm_ic, nm_ri, nm_rl, nm_rq, nm_ql, nm_qi, nm_li, nm_us, nm_uu, nm_cp, nm_sa31, nm_sa7, nm_m127, nm_m2, nm_nz, nm_nzk, nm_eq32, nm_nzf, if_true, if_false, ↓reduceIte, if_pos, if_neg]
  · simp (disch := (first | assumption | decide | omega)) only [hM, k1, k2, k3, eq_self, Nat.reduceEqDiff, Nat.reduceLeDiff, no_1, no_1024, pk_mul, nI_add, nm_ck, nI_clamp, nI_ltI, nI_leI, nI_eq, nb_b2, nb_b1, ↓nb_let, nm_z0, nm_z1, nb_II, nb_IR, nb_RI, nb_RR, nm_IL, nm_IQ, nm_RL, nm_RQ, nm_LI, nm_LR, nm_LL, nm_LQ, nm_QI, nm_QR, nm_QL, nm_QQ, nm_rr, nm_ii, nm_eqm, not_false_eq_true, pk_sub, nm_div, nm_shl, nm_shr, nm_ush, nm_or8, nm_or64, nm_or256, nm_m1, nm_m3, nm_m7, nm_m15, nm_m31, nm_m63, nm_m255, nm_m511, nm_m1023, nm_m2047, nm_m65535, Nat.reduceMod, Nat.reducePow, Nat.reduceAdd, Nat.reduceSub, Nat.reduceMul, nm_bo, nm_bi, nm_rc, nm_ic, nm_ri, nm_rl, nm_rq, nm_ql, nm_qi, nm_li, nm_us, nm_uu, nm_cp, nm_sa31, nm_sa7, nm_m127, nm_m2, nm_nz, nm_nzk, nm_eq32, nm_nzf, if_true, if_false, ↓reduceIte, if_pos, if_neg]
  · simp (disch := (first | assumption | decide | omega)) only [hM, eq_self, Nat.reduceEqDiff, Nat.reduceLeDiff, no_1, no_1024, pk_mul, nI_add, nm_ck, nI_clamp, nI_ltI, nI_leI, nI_eq, nb_b2, nb_b1, ↓nb_let, nm_z0, nm_z1, nb_II, nb_IR, nb_RI, nb_RR, nm_IL, nm_IQ, nm_RL, nm_RQ, nm_LI, nm_LR, nm_LL, nm_LQ, nm_QI, nm_QR, nm_QL, nm_QQ, nm_rr, nm_ii, nm_eqm, not_false_eq_true, pk_sub, nm_div, nm_shl, nm_shr, nm_ush, nm_or8, nm_or64, nm_or256, nm_m1, nm_m3, nm_m7, nm_m15, nm_m31, nm_m63, nm_m255, nm_m511, nm_m1023, nm_m2047, nm_m65535, Nat.reduceMod, Nat.reducePow, Nat.reduceAdd, Nat.reduceSub, Nat.reduceMul, nm_bo, nm_bi, nm_rc, nm_ic, nm_ri, nm_rl, nm_rq, nm_ql, nm_qi, nm_li, nm_us, nm_uu, nm_cp, nm_sa31, nm_sa7, nm_m127, nm_m2, nm_nz, nm_nzk, nm_eq32, nm_nzf, if_true, if_false, ↓reduceIte, if_pos, if_neg]
  · simp (disch := (first | assumption | decide | omega)) only [hM, eq_self, Nat.reduceEqDiff, Nat.reduceLeDiff, no_1, no_1024, pk_mul, nI_add, nm_ck, nI_clamp, nI_ltI, nI_leI, nI_eq, nb_b2, nb_b1, ↓nb_let, nm_z0, nm_z1, nb_II, nb_IR, nb_RI, nb_RR, nm_IL, nm_IQ, nm_RL, nm_RQ, nm_LI, nm_LR, nm_LL, nm_LQ, nm_QI, nm_QR, nm_QL, nm_QQ, nm_rr, nm_ii, nm_eqm, not_false_eq_true, pk_sub, nm_div, nm_shl, nm_shr, nm_ush, nm_or8, nm_or64, nm_or256, nm_m1, nm_m3, nm_m7, nm_m15, nm_m31, nm_m63, nm_m255, nm_m511, nm_m1023, nm_m2047, nm_m65535, Nat.reduceMod, Nat.reducePow, Nat.reduceAdd, Nat.reduceSub, Nat.reduceMul, nm_bo, nm_bi, nm_rc, nm_ic, nm_ri, nm_rl, nm_rq, nm_ql, nm_qi, nm_li, nm_us, nm_uu, nm_cp, nm_sa31, nm_sa7, nm_m127, nm_m2, nm_nz, nm_nzk, nm_eq32, nm_nzf, if_true, if_false, ↓reduceIte, if_pos, if_neg]
  · simp (disch := (first | assumption | decide | omega)) only [hM, eq_self, Nat.reduceEqDiff, Nat.reduceLeDiff, no_1, no_1024, pk_mul, nI_add, nm_ck, nI_clamp, nI_ltI, nI_leI, nI_eq, nb_b2, nb_b1, ↓nb_let, nm_z0, nm_z1, nb_II, nb_IR, nb_RI, nb_RR, nm_IL, nm_IQ, nm_RL, nm_RQ, nm_LI, nm_LR, nm_LL, nm_LQ, nm_QI, nm_QR, nm_QL, nm_QQ, nm_rr, nm_ii, nm_eqm, not_false_eq_true, pk_sub, nm_div, nm_shl, nm_shr, nm_ush, nm_or8, nm_or64, nm_or256, nm_m1, nm_m3, nm_m7, nm_m15, nm_m31, nm_m63, nm_m255, nm_m511, nm_m1023, nm_m2047, nm_m65535, Nat.reduceMod, Nat.reducePow, Nat.reduceAdd, Nat.reduceSub, Nat.reduceMul, nm_bo, nm_bi, nm_rc, nm_ic, nm_ri, nm_rl, nm_rq, nm_ql, nm_qi, nm_li, nm_us, nm_uu, nm_cp, nm_sa31, nm_sa7, nm_m127, nm_m2, nm_nz, nm_nzk, nm_eq32, nm_nzf, if_true, if_false, ↓reduceIte, if_pos, if_neg]
  · simp (disch := (first | assumption | decide | omega)) only [hM, eq_self, Nat.reduceEqDiff, Nat.reduceLeDiff, no_1, no_1024, pk_mul, nI_add, nm_ck, nI_clamp, nI_ltI, nI_leI, nI_eq, nb_b2, nb_b1, ↓nb_let, nm_z0, nm_z1, nb_II, nb_IR, nb_RI, nb_RR, nm_IL, nm_IQ, nm_RL, nm_RQ, nm_LI, nm_LR, nm_LL, nm_LQ, nm_QI, nm_QR, nm_QL, nm_QQ, nm_rr, nm_ii, nm_eqm, not_false_eq_true, pk_sub, nm_div, nm_shl, nm_shr, nm_ush, nm_or8, nm_or64, nm_or256, nm_m1, nm_m3, nm_m7, nm_m15, nm_m31, nm_m63, nm_m255, nm_m511, nm_m1023, nm_m2047, nm_m65535, Nat.reduceMod, Nat.reducePow, Nat.reduceAdd, Nat.reduceSub, Nat.reduceMul, nm_bo, nm_bi, nm_rc, nm_ic, nm_ri, nm_rl, nm_rq, nm_ql, nm_qi, nm_li, nm_us, nm_uu, nm_cp, nm_sa31, nm_sa7, nm_m127, nm_m2, nm_nz, nm_nzk, nm_eq32, nm_nzf, if_true, if_false, ↓reduceIte, if_pos, if_neg]
  · simp (disch := (first | assumption | decide | omega)) only [hM, eq_self, Nat.reduceEqDiff, Nat.reduceLeDiff, no_1, no_1024, pk_mul, nI_add, nm_ck, nI_clamp, nI_ltI, nI_leI, nI_eq, nb_b2, nb_b1, ↓nb_let, nm_z0, nm_z1, nb_II, nb_IR, nb_RI, nb_RR, nm_IL, nm_IQ, nm_RL, nm_RQ, nm_LI, nm_LR, nm_LL, nm_LQ, nm_QI, nm_QR, nm_QL, nm_QQ, nm_rr, nm_ii, nm_eqm, not_false_eq_true, pk_sub, nm_div, nm_shl, nm_shr, nm_ush, nm_or8, nm_or64, nm_or256, nm_m1, nm_m3, nm_m7, nm_m15, nm_m31, nm_m63, nm_m255, nm_m511, nm_m1023, nm_m2047, nm_m65535, Nat.reduceMod, Nat.reducePow, Nat.reduceAdd, Nat.reduceSub, Nat.reduceMul, nm_bo, nm_bi, nm_rc, nm_ic, nm_ri, nm_rl, nm_rq, nm_ql, nm_qi, nm_li, nm_us, nm_uu, nm_cp, nm_sa31, nm_sa7, nm_m127, nm_m2, nm_nz, nm_nzk, nm_eq32, nm_nzf, if_true, if_false, ↓reduceIte, if_pos, if_neg]
  · simp (disch := (first | assumption | decide | omega)) only [hM, eq_self, Nat.reduceEqDiff, Nat.reduceLeDiff, no_1, no_1024, pk_mul, nI_add, nm_ck, nI_clamp, nI_ltI, nI_leI, nI_eq, nb_b2, nb_b1, ↓nb_let, nm_z0, nm_z1, nb_II, nb_IR, nb_RI, nb_RR, nm_IL, nm_IQ, nm_RL, nm_RQ, nm_LI, nm_LR, nm_LL, nm_LQ, nm_QI, nm_QR, nm_QL, nm_QQ, nm_rr, nm_ii, nm_eqm, not_false_eq_true, pk_sub, nm_div, nm_shl, nm_shr, nm_ush, nm_or8, nm_or64, nm_or256, nm_m1, nm_m3, nm_m7, nm_m15, nm_m31, nm_m63, nm_m255, nm_m511, nm_m1023, nm_m2047, nm_m65535, Nat.reduceMod, Nat.reducePow, Nat.reduceAdd, Nat.reduceSub, Nat.reduceMul, nm_bo, nm_bi, nm_rc, nm_ic, nm_ri, nm_rl, nm_rq, nm_ql, nm_qi, nm_li, nm_us, nm_uu, nm_cp, nm_sa31, nm_sa7, nm_m127, nm_m2, nm_nz, nm_nzk, nm_eq32, nm_nzf, if_true, if_false, ↓reduceIte, if_pos, if_neg]
theorem rP_al2 {M M' X X' : St × St} (m3 : ∀ q : Nat, q < 16 → rP1 M X q) {p : Nat} (hp : rP1 M' X' p) (ho : ∀ r : Nat, r < 16 → r ≠ p → agM M M' r ∧ agX X X' r) : ∀ q : Nat, q < 16 → rP1 M' X' q := fun q hq => by
  by_cases c : q = p
  · rw [c]; exact hp
  · exact rP1_ag (m3 q hq) (ho q hq c).1 (ho q hq c).2
theorem rM_step {B : Nat} {M X : St × St} (h : rM B M X) {p : Nat} (hp : p < 16) (h1 : sR X.1 1 p = nI 1) {H : St} {rg x w u g b fr ho : Nat → Int32} {fu us re wn wr nx a' b' : Int32} (r1 : rgR p (H, M) X rg x) (r2 : rQ w u g b fr (sR X.1 17) ho fu us) (r3 : okR re) (r4 : ∀ j : Nat, j < 1024 → (fr j = -nI 1 ↔ sR X.1 16 j = -nI 1)) : rM B (pL (pR (hM M rg w u g fu re wn).1 3 (upd rg (p * 33 + 32) nx)) 1 (sL M.1 1 + 1), M.2) (pL (pR (hX (zS X a' b' nx (nI 0)) x b fr ho us re wr nx).1 10 (upd (sR X.1 10) p nx)) 0 (sL X.1 0 + 1), X.2) := by
  obtain ⟨m1, m2, m3, m4, m5, m6, m7⟩ := h
  obtain ⟨c1, c2, c3, c4, c5, c6, c7, c8, c9, c10, c11, c12, c13⟩ := hX_rows X x b fr ho (upd (sR X.1 10) p nx) us re wr nx a' b' (sL X.1 0 + 1)
  obtain ⟨f1, f2, f3, f4, f5, f6, f7, f8, f9, f10, f11, f12⟩ := hM_rows M rg w u g (upd rg (p * 33 + 32) nx) fu re wn (sL M.1 1 + 1)
  generalize pL (pR (hX (zS X a' b' nx (nI 0)) x b fr ho us re wr nx).1 10 (upd (sR X.1 10) p nx)) 0 (sL X.1 0 + 1) = X' at c1 c2 c3 c4 c5 c6 c7 c8 c9 c10 c11 c12 c13
  generalize pL (pR (hM M rg w u g fu re wn).1 3 (upd rg (p * 33 + 32) nx)) 1 (sL M.1 1 + 1) = M' at f1 f2 f3 f4 f5 f6 f7 f8 f9 f10 f11 f12
  have R : ∀ k : Nat, k = 0 ∨ k = 1 ∨ k = 2 ∨ k = 3 ∨ k = 4 ∨ k = 5 ∨ k = 6 ∨ k = 7 ∨ k = 8 ∨ k = 11 ∨ k = 12 ∨ k = 13 ∨ k = 14 ∨ k = 17 ∨ 19 ≤ k → sR X' k = sR X.1 k := fun k hk => c1 k (by omega) (by omega) (by omega) (by omega) (by omega)
  have I : ∀ k : Nat, k = 1 ∨ k = 2 ∨ k = 3 ∨ k = 5 ∨ k = 7 → sI X' k = sI X.1 k := fun k hk => c7 k (by omega) (by omega) (by omega) (by omega) (by omega) (by omega) (by omega)
  obtain ⟨s1, s2, s3⟩ := r1
  have s2 : ∀ i : Nat, i < p * 33 ∨ p * 33 + 32 ≤ i → rg i = sR M.1 3 i := s2
  refine ⟨?_, ?_, rP_al2 m3 (p := p) ?_ (fun r hr16 hne => ⟨⟨fun i hi => ?_, fun i hi => ?_, fun i hi => ?_, fun i hi => ?_, ?_⟩, ⟨⟨?_, ?_, ?_, ?_, ?_, ?_, ?_, ?_⟩, fun i hi => ?_, ?_, fun i hi => ?_, ?_, fun i hi => ?_, fun i hi => ?_, fun i hi => ?_, ?_⟩⟩), ?_, ?_, ?_, ?_⟩
  · show rQ (sR M' 0) (sR M' 1) (sR M' 2) (sR X' 15) (sR X' 16) (sR X' 17) (sR X' 18) (sI M' 0) (sI X' 6)
    rw [f2, f3, f4, c4, c5, R 17 (by omega), c6, f7, c9]
    exact r2
  · show rD _ _ _ _ (sR X' 14) (sR X' 19) (sR X' 20) (sR X' 21) (sR X' 22) (sR X' 23) (sR X' 24) (sR X' 25)
    rw [R 14 (by omega), R 19 (by omega), R 20 (by omega), R 21 (by omega), R 22 (by omega), R 23 (by omega), R 24 (by omega), R 25 (by omega)]
    exact m2
  · obtain ⟨t, c', w0, b', e, ht, hc', hw, hb, he, a1, a2, a3, a4, a5, a6, a7, a8, a9, a10, a11, a12, a13, a14, a15, a16, a17, a18, a19, a20, a21⟩ := m3 p hp
    have t1 : t = 1 := nm_inI (by omega) (by omega) (a2.symm.trans h1)
    refine ⟨t, c', w0, b', e, ht, hc', hw, hb, he, ?_, ?_, ?_, ?_, ?_, fun z => by omega, fun z => ?_, ?_, ?_, ?_, ?_, ?_, ?_, ?_, ?_, fun k hk y => ?_, fun z => ⟨fun r hr => ?_, ?_⟩, fun z => ⟨fun k hk => ?_, ?_, fun y => ⟨fun r hr => ?_, ?_⟩⟩, fun z => by omega, fun z => by omega, fun z => ?_⟩
    · show sR M' 6 _ = _
      rw [f1 6 (by omega)]; exact a1
    · show sR X' 1 p = _
      rw [R 1 (by omega)]; exact a2
    · show sR M' 6 _ = sR X' 2 p
      rw [f1 6 (by omega), R 2 (by omega)]; exact a3
    · show okP (sR X' 2 p)
      rw [R 2 (by omega)]; exact a4
    · show ¬ sR X' 2 p = _
      rw [R 2 (by omega)]; exact a5
    · show sR M' 6 _ = _
      rw [f1 6 (by omega)]; exact a7 z
    · show sR M' 6 _ = _
      rw [f1 6 (by omega)]; exact a8
    · show sR X' 4 p = _
      rw [R 4 (by omega)]; exact a9
    · show sR M' 6 _ = _
      rw [f1 6 (by omega)]; exact a10
    · show sR X' 8 p = _
      rw [R 8 (by omega)]; exact a11
    · show sR M' 6 _ = _
      rw [f1 6 (by omega)]; exact a12
    · show sR X' 5 p = _
      rw [R 5 (by omega)]; exact a13
    · show sR M' 6 _ = _
      rw [f1 6 (by omega)]; exact a14
    · show sR X' 6 p = _
      rw [R 6 (by omega)]; exact a15
    · show sR X' 16 _ = _
      rw [c5]; exact (r4 _ (by omega)).mpr (a16 k hk y)
    · show sR M' 3 _ = sR X' 9 _
      rw [f5, c2, nm_un (by omega)]; exact s1 r hr
    · show sR M' 3 _ = sR X' 10 _
      rw [f5, c3, nm_us, nm_us]
    · show sR M' 5 _ = sR X' 13 _
      rw [f1 5 (by omega), R 13 (by omega)]; exact (a18 z).1 k hk
    · show sQ M' 0 p = sQ X' 0 p
      rw [f12, c13]; exact (a18 z).2.1
    · show sR M' 4 _ = sR X' 11 _
      rw [f1 4 (by omega), R 11 (by omega)]; exact ((a18 z).2.2 y).1 r hr
    · show sR M' 4 _ = sR X' 12 _
      rw [f1 4 (by omega), R 12 (by omega)]; exact ((a18 z).2.2 y).2
    · show sR X' 7 p = _
      rw [R 7 (by omega)]; exact a21 z
  · show sR M' 6 _ = _
    rw [f1 6 (by omega)]
  · show sR M' 3 _ = _
    rw [f5, nm_un (by omega), s2 _ (by omega)]
  · show sR M' 4 _ = _
    rw [f1 4 (by omega)]
  · show sR M' 5 _ = _
    rw [f1 5 (by omega)]
  · show sQ M' 0 r = _
    rw [f12]
  · show sR X' 1 r = _
    rw [R 1 (by omega)]
  · show sR X' 2 r = _
    rw [R 2 (by omega)]
  · show sR X' 3 r = _
    rw [R 3 (by omega)]
  · show sR X' 4 r = _
    rw [R 4 (by omega)]
  · show sR X' 5 r = _
    rw [R 5 (by omega)]
  · show sR X' 6 r = _
    rw [R 6 (by omega)]
  · show sR X' 7 r = _
    rw [R 7 (by omega)]
  · show sR X' 8 r = _
    rw [R 8 (by omega)]
  · show sR X' 9 _ = _
    rw [c2, s3 _ (by omega)]
  · show sR X' 10 r = _
    rw [c3, nm_un hne]
  · show sR X' 11 _ = _
    rw [R 11 (by omega)]
  · show sR X' 12 r = _
    rw [R 12 (by omega)]
  · show sR X' 13 _ = _
    rw [R 13 (by omega)]
  · show sR X' 14 _ = _
    rw [R 14 (by omega)]
  · show sR X' 16 _ = _ ↔ _
    rw [c5]; exact r4 _ (by omega)
  · show sQ X' 0 r = _
    rw [c13]
  · show sI M' 2 = nI (cW (sR X' 1))
    rw [f6 2 (by omega) (by omega) (by omega), R 1 (by omega)]; exact m4
  · obtain ⟨g1, g2, g3, g4, g5, g6, g7, g8, g9, g10, g11⟩ := m5
    show sI M' 3 = sI X' 1 ∧ okP (sI X' 1) ∧ sI M' 4 = sI X' 2 ∧ (∃ l : Nat, l < 16 ∧ sI X' 2 = nI l) ∧ (sI X' 1 = -nI 1 ∨ sI X' 2 = sI X' 1) ∧ sI M' 5 = sI X' 3 ∧ okP (sI X' 3) ∧ sI M' 6 = sI X' 4 ∧ okR (sI X' 4) ∧ sL M' 0 = sL X' 1 ∧ sL M' 1 = sL X' 0
    rw [f6 3 (by omega) (by omega) (by omega), f6 4 (by omega) (by omega) (by omega), f6 5 (by omega) (by omega) (by omega), I 1 (by omega), I 2 (by omega), I 3 (by omega), f8, c8, f10, f11, c11 1 (by omega), c12]
    exact ⟨g1, g2, g3, g4, g5, g6, g7, rfl, r3, g10, by rw [g11]⟩
  · show (∃ k : Nat, k ≤ 16 ∧ sI M' 1 = nI k ∧ sI X' 5 = nI k ∧ ∀ i : Nat, i < k → sR M' 7 i = sR X' 0 i) ∧ okY M.2
    rw [f6 1 (by omega) (by omega) (by omega), I 5 (by omega), f1 7 (by omega), R 0 (by omega)]
    exact m6
  · show rT B _ _ _ _ _ _ _ _ _ (sR X' 23) (sR X' 24) (sR X' 25) (sR X' 26) (sR X' 27) (sR X' 28) (sR X' 29) (sR X' 30) (sR X' 31) (sR X' 32) (sI X' 7) (sL X' 2)
    rw [R 23 (by omega), R 24 (by omega), R 25 (by omega), R 26 (by omega), R 27 (by omega), R 28 (by omega), R 29 (by omega), R 30 (by omega), R 31 (by omega), R 32 (by omega), I 7 (by omega), c11 2 (by omega)]
    exact m7

