/-- a byte comes into a pipe -/
theorem rM_pp {B : Nat} {M X : St × St} (h : rM B M X) {t L o : Nat} (ht : t < 8) (hL : L < 512) (ho : o < 512) (e23 : sR X.1 23 t = nI 1) (l1 : sR M.2 2 (t * 4) = nI L) (l2 : sR X.1 26 t = nI L) (l3 : sR M.2 2 (t * 4 + 3) = nI o) {v u : Int32} (hv : b8 v u) : rM B (M.1, pR (pR M.2 2 (upd (sR M.2 2) (t * 4) (nI (L + 1)))) 3 (upd (sR M.2 3) (t * 512 + (o + L) % 512) v)) (pR (pR X.1 26 (upd (sR X.1 26) t (nI (L + 1)))) 27 (upd (sR X.1 27) (512 * t + L) u), X.2) := by
  obtain ⟨m1, m2, m3, m4, m5, m6, m7⟩ := h
  refine ⟨m1, ?_, m3, m4, m5, ⟨m6.1, fun i hi => fb_u (b8_fit hv) (m6.2.1 i hi), m6.2.2⟩, ?_⟩
  · obtain ⟨a1, a2, a3, a4⟩ := m2
    refine ⟨a1, a2, fun k hk => ?_, a4⟩
    show upd (sR M.2 2) (t * 4) (nI (L + 1)) (k * 4 + 1) = _ ∧ upd (sR M.2 2) (t * 4) (nI (L + 1)) (k * 4 + 2) = _ ∧ _
    rw [nm_un (by omega), nm_un (by omega)]
    exact a3 k hk
  · obtain ⟨t1, t2⟩ := m7
    refine ⟨fun k hk e => ?_, t2⟩
    have e : sR X.1 23 k = nI 1 := e
    obtain ⟨L', o', q1, q2, q3, q4, q5, q6⟩ := t1 k hk e
    by_cases c : k = t
    · subst c
      have eL : L' = L := nm_inI (by omega) (by omega) (q3.symm.trans l1)
      have eo : o' = o := nm_inI (by omega) (by omega) (q5.symm.trans l3)
      subst eL eo
      refine ⟨L' + 1, o', by omega, q2, nm_us, nm_us, (nm_un (by omega)).trans q5, fun i hi => ?_⟩
      show b8 (upd (sR M.2 3) (k * 512 + (o' + L') % 512) v (k * 512 + (o' + i) % 512)) (upd (sR X.1 27) (512 * k + L') u (512 * k + i))
      by_cases d : i = L'
      · rw [d, nm_us, nm_us]
        exact hv
      · rw [nm_un (by omega), nm_un (by omega)]
        exact q6 i (by omega)
    · refine ⟨L', o', q1, q2, (nm_un (by omega)).trans q3, (nm_un c).trans q4, (nm_un (by omega)).trans q5, fun i hi => ?_⟩
      show b8 (upd (sR M.2 3) (t * 512 + (o + L) % 512) v (k * 512 + (o' + i) % 512)) (upd (sR X.1 27) (512 * t + L) u (512 * k + i))
      rw [nm_un (by omega), nm_un (by omega)]
      exact q6 i hi
/-- a byte is shown -/
theorem rM_sh {B : Nat} {M X : St × St} (h : rM B M X) {v u : Int32} (hv : b8 v u) : ∃ S : Nat, S ≤ B ∧ sL M.2 0 = Int64.ofNat S ∧ sL X.1 2 = Int64.ofNat S ∧ rM (B + 1) (M.1, pL (pR M.2 8 (upd (sR M.2 8) (S % 2048) v)) 0 (Int64.ofNat (S + 1))) (pL (pR X.1 32 (if S < 2048 then upd (sR X.1 32) S u else upd (shk (sR X.1 32) 2047) 2047 u)) 2 (Int64.ofNat (S + 1)), X.2) := by
  obtain ⟨m1, m2, m3, m4, m5, m6, t1, t2, t3, t4, t5, S, hS, t6, t7⟩ := h
  refine ⟨S, hS, t5.trans t6, t6, m1, m2, m3, m4, m5, ⟨m6.1, m6.2.1, m6.2.2.1, m6.2.2.2.1, m6.2.2.2.2.1, fun i hi => fb_u (b8_fit hv) (m6.2.2.2.2.2 i hi)⟩, t1, t2, t3, t4, rfl, S + 1, by omega, rfl, ?_⟩
  exact rSh_s (S := S) (sh := sR M.2 8) (sw := sR X.1 32) t7 hv
theorem rM_up {B C : Nat} {M X : St × St} (h : rM B M X) (hc : B ≤ C) : rM C M X := by
  obtain ⟨m1, m2, m3, m4, m5, m6, t1, t2, t3, t4, t5, S, hS, t6, t7⟩ := h
  exact ⟨m1, m2, m3, m4, m5, m6, t1, t2, t3, t4, t5, S, by omega, t6, t7⟩
/-- a byte that may be read, wherever the things stand -/
theorem nk_bz (n : Nat) {M X Y : St × St} (h : rK M X) (hy : rK M Y) {p Z : Nat} (hp : p < 16) (e12 : sI Y.1 12 = nI p) (hZ : Z < 2 ^ 32) (hm : ma X p Z 1 = true) : ∃ z : Nat, z < 256 ∧ df_X6_byteAt n (nI p) (nI Z) M = some (nI z, M) ∧ df_X16_byteAt n (nI Z) Y = some (nI z, Y) := by
  rcases nk_nb n hy hp e12 Z with ⟨y1, _⟩ | ⟨z, hz, _, _, y3, y4⟩
  · have := (nk_may n h hp hZ (show 1 < 8 by omega)).1
    rw [hm, y1] at this
    have := congrArg Prod.fst (Option.some.inj this)
    exact absurd (show nI 0 = nI 1 from this) (by decide)
  · exact ⟨z, hz, y3, y4⟩
/-- the loop into a pipe -/
theorem wr_p (n : Nat) (hn : 1024 < n) {B p : Nat} {K1 K2 : St} {M X : St × St} (h : rM B M X) (hp : p < 16) (h3 : sI X.1 12 = nI p) {A N o t L : Nat} (hA : A + N ≤ 65536) (hN : N ≤ 512) (hm : ∀ j : Nat, j < N → ma X p (A + j) 1 = true) (ho : o < 48) (ht : t < 8) (ek : sR X.1 19 o = nI 2) (et : sR X.1 20 o = nI t) (el : sR X.1 26 t = nI L) (hL : L + N ≤ 512) : ∃ (D' : St) (X' : St × St), df_X5_write_185 n n (nI p) (nI A) (nI N) (nI o) (nI 2) (nI 0) (nI 0) (K1, (K2, M)) = some ((nI N).toInt64, (K1, (K2, (M.1, D')))) ∧ df_X16_write7_137 n n (nI A) (nI N) (nI o) (nI t) (nI 0) X = some (nI N, X') ∧ rM B (M.1, D') X' ∧ kX X X' ∧ sR X'.1 1 = sR X.1 1 := by
  obtain ⟨m, D', X', ⟨i1, i2, i3, i4, i5, i6⟩, f1, f2⟩ := nm_l2 (fun m k D => df_X5_write_185 n m (nI p) (nI A) (nI N) (nI o) (nI 2) (nI 0) (nI k) (K1, (K2, (M.1, D)))) (fun m k Y => df_X16_write7_137 n m (nI A) (nI N) (nI o) (nI t) (nI k) Y)
    (fun k D Y => rM B (M.1, D) Y ∧ kX X Y ∧ sR Y.1 1 = sR X.1 1 ∧ sR Y.1 19 = sR X.1 19 ∧ sR Y.1 20 = sR X.1 20 ∧ sR Y.1 26 t = nI (L + k)) N n (by omega) (fun k m D Y hk ⟨i1, i2, i3, i4, i5, i6⟩ => by
      have e12 : sI Y.1 12 = nI p := i2.2.2.1.trans h3
      obtain ⟨z, hz, z1, z2⟩ := nk_bz n (M := (M.1, D)) (X := X) (Y := Y) h.1 i1.1 hp e12 (Z := A + k) (by omega) (hm k hk)
      have ek' : sR Y.1 19 o = nI 2 := by rw [i4]; exact ek
      have et' : sR Y.1 20 o = nI t := by rw [i5]; exact et
      rcases i1.2.1.2.1 o ho with ⟨w1, _⟩ | ⟨kk, tt, y1, y2, y3, y4, y5, y6, y7, y8, _⟩
      · rw [ek'] at w1
        exact absurd w1 (by decide)
      have e1 : tt = t := nm_inI (by omega) (by omega) (y7.symm.trans et')
      subst e1
      have y8 : sR D 1 (o * 5 + 2) = nI tt := y8
      have e2 : kk = 2 := nm_inI (by omega) (by omega) (y4.symm.trans ek')
      subst e2
      have e23 : sR Y.1 23 tt = nI 1 := by
        have x1 : 0 < cE (sR Y.1 19) (sR Y.1 20) 2 tt := cN_p (P := fun j => decide (sR Y.1 19 j = nI 2 ∧ sR Y.1 20 j = nI tt)) (i := o) (decide_eq_true ⟨y4, y7⟩) ho
        rw [(i1.2.1.2.2.1 tt ht).2.2, decide_eq_true (by omega)]
        rfl
      obtain ⟨L', oo, q1, q2, q3, q4, q5, _⟩ := i1.2.2.2.2.2.2.1 tt ht e23
      have eL : L' = L + k := nm_inI (by omega) (by omega) (q4.symm.trans i6)
      subst eL
      have q3 : sR D 2 (tt * 4) = nI (L + k) := q3
      have q5 : sR D 2 (tt * 4 + 3) = nI oo := q5
      have fin := rM_pp i1 ht (L := L + k) (o := oo) (by omega) q2 e23 q3 i6 q5 (b8_z hz)
      refine ⟨_, _, ⟨fin, kX_t i2 ⟨rfl, rfl, rfl, rfl, rfl, rfl, rfl⟩, i3, i4, i5, ?_⟩, ?_, ?_⟩
      · show upd (sR Y.1 26) tt (nI (L + k + 1)) tt = _
        rw [nm_us]
        exact congrArg nI (by omega)
      · have u1 : ¬ N ≤ k := by omega
        have u2 : N < 2 ^ 31 := by omega
        have u3 : k < 2 ^ 31 := by omega
        have u4 : tt * 4 < 32 := by omega
        have u5 : tt * 4 + 3 < 32 := by omega
        have u6 : o * 5 + 2 < 240 := by omega
        have u7 : tt * 512 + (oo + (L + k)) % 512 < 4096 := by omega
        have u8 : tt * 512 + (oo + (L + k)) % 512 < 2 ^ 31 := by omega
        have u9 : oo + (L + k) < 2 ^ 32 := by omega
        show df_X5_write_185 n (m + 1) _ _ _ _ _ _ (nI k) _ = df_X5_write_185 n m _ _ _ _ _ _ (nI (k + 1)) _
        rw [show df_X5_write_185 n (m + 1) = dF_X5_write_185 n (df_X5_write_185 n m) from rfl]
        generalize df_X5_write_185 n m = G
        clear fin i1 h hm
        simp (disch := (first | assumption | decide | omega)) only [dF_X5_write_185, df_X5_write_260, df_X10_putPiped_0, df_X10_putPiped, df_X10_of_0, df_X10_of, u1, z1, y8, q3, q5, Nat.add_zero, eq_self, Nat.reduceEqDiff, Nat.reduceLeDiff, nm_rc (a := 3) (b := 2) (by decide), nl_0, nl_1, nl_2, nl_3, nl_4, nl_5, nl_32, nl_240, nl_511, nl_512, nl_4096, no_1, no_1024, pk_mul, nI_add, nm_ck, nI_clamp, nI_ltI, nI_leI, nI_eq, nb_b2, nb_b1, ↓nb_let, nm_z0, nm_z1, nb_II, nb_IR, nb_RI, nb_RR, nm_IL, nm_IQ, nm_RL, nm_RQ, nm_LI, nm_LR, nm_LL, nm_LQ, nm_QI, nm_QR, nm_QL, nm_QQ, nm_rr, nm_ii, nm_eqm, not_false_eq_true, pk_sub, nm_div, nm_shl, nm_shr, nm_ush, nm_or8, nm_or64, nm_or256, nm_m1, nm_m3, nm_m7, nm_m15, nm_m31, nm_m63, nm_m255, nm_m511, nm_m1023, nm_m2047, nm_m65535, Nat.reduceMod, Nat.reducePow, Nat.reduceAdd, Nat.reduceSub, Nat.reduceMul, nm_bo, nm_bi, nm_rc, nm_ic, nm_ri, nm_rl, nm_rq, nm_ql, nm_qi, nm_li, nm_us, nm_uu, nm_cp, nm_sa31, nm_sa7, nm_m127, nm_m2, nm_nz, nm_nzk, nm_eq32, nm_nzf, if_true, if_false, ↓reduceIte, if_pos, if_neg]
      · have u1 : ¬ N ≤ k := by omega
        have u2 : N < 2 ^ 31 := by omega
        have u3 : k < 2 ^ 31 := by omega
        have u4 : 512 * tt + (L + k) < 4096 := by omega
        have u5 : 512 * tt + (L + k) < 2 ^ 31 := by omega
        have u6 : tt < 2 ^ 31 := by omega
        show df_X16_write7_137 n (m + 1) _ _ _ _ (nI k) _ = df_X16_write7_137 n m _ _ _ _ (nI (k + 1)) _
        rw [show df_X16_write7_137 n (m + 1) = dF_X16_write7_137 n (df_X16_write7_137 n m) from rfl]
        generalize df_X16_write7_137 n m = G
        clear fin i1 h hm
        simp (disch := (first | assumption | decide | omega)) only [dF_X16_write7_137, df_X16_write7_207, u1, ek', z2, i6, eq_self, Nat.reduceEqDiff, Nat.reduceLeDiff, nm_rc (a := 27) (b := 26) (by decide), nl_1, nl_4, nl_8, nl_19, nl_26, nl_27, nl_48, nl_512, nl_4096, no_1, no_1024, pk_mul, nI_add, nm_ck, nI_clamp, nI_ltI, nI_leI, nI_eq, nb_b2, nb_b1, ↓nb_let, nm_z0, nm_z1, nb_II, nb_IR, nb_RI, nb_RR, nm_IL, nm_IQ, nm_RL, nm_RQ, nm_LI, nm_LR, nm_LL, nm_LQ, nm_QI, nm_QR, nm_QL, nm_QQ, nm_rr, nm_ii, nm_eqm, not_false_eq_true, pk_sub, nm_div, nm_shl, nm_shr, nm_ush, nm_or8, nm_or64, nm_or256, nm_m1, nm_m3, nm_m7, nm_m15, nm_m31, nm_m63, nm_m255, nm_m511, nm_m1023, nm_m2047, nm_m65535, Nat.reduceMod, Nat.reducePow, Nat.reduceAdd, Nat.reduceSub, Nat.reduceMul, nm_bo, nm_bi, nm_rc, nm_ic, nm_ri, nm_rl, nm_rq, nm_ql, nm_qi, nm_li, nm_us, nm_uu, nm_cp, nm_sa31, nm_sa7, nm_m127, nm_m2, nm_nz, nm_nzk, nm_eq32, nm_nzf, if_true, if_false, ↓reduceIte, if_pos, if_neg]) M.2 X ⟨h, kX_r X, rfl, rfl, rfl, el⟩
  have u2 : N < 2 ^ 31 := by omega
  refine ⟨D', X', Eq.trans f1 ?_, Eq.trans f2 ?_, i1, i2, i3⟩
  · show df_X5_write_185 n (m + 1) _ _ _ _ _ _ (nI N) _ = _
    rw [show df_X5_write_185 n (m + 1) = dF_X5_write_185 n (df_X5_write_185 n m) from rfl]
    generalize df_X5_write_185 n m = G
    simp (disch := (first | assumption | decide | omega)) only [dF_X5_write_185, Nat.le_refl, eq_self, Nat.reduceEqDiff, Nat.reduceLeDiff, nl_3, nl_4, no_1, no_1024, pk_mul, nI_add, nm_ck, nI_clamp, nI_ltI, nI_leI, nI_eq, nb_b2, nb_b1, ↓nb_let, nm_z0, nm_z1, nb_II, nb_IR, nb_RI, nb_RR, nm_IL, nm_IQ, nm_RL, nm_RQ, nm_LI, nm_LR, nm_LL, nm_LQ, nm_QI, nm_QR, nm_QL, nm_QQ, nm_rr, nm_ii, nm_eqm, not_false_eq_true, pk_sub, nm_div, nm_shl, nm_shr, nm_ush, nm_or8, nm_or64, nm_or256, nm_m1, nm_m3, nm_m7, nm_m15, nm_m31, nm_m63, nm_m255, nm_m511, nm_m1023, nm_m2047, nm_m65535, Nat.reduceMod, Nat.reducePow, Nat.reduceAdd, Nat.reduceSub, Nat.reduceMul, nm_bo, nm_bi, nm_rc, nm_ic, nm_ri, nm_rl, nm_rq, nm_ql, nm_qi, nm_li, nm_us, nm_uu, nm_cp, nm_sa31, nm_sa7, nm_m127, nm_m2, nm_nz, nm_nzk, nm_eq32, nm_nzf, if_true, if_false, ↓reduceIte, if_pos, if_neg]
  · show df_X16_write7_137 n (m + 1) _ _ _ _ (nI N) _ = _
    rw [show df_X16_write7_137 n (m + 1) = dF_X16_write7_137 n (df_X16_write7_137 n m) from rfl]
    generalize df_X16_write7_137 n m = G
    simp (disch := (first | assumption | decide | omega)) only [dF_X16_write7_137, Nat.le_refl, eq_self, Nat.reduceEqDiff, Nat.reduceLeDiff, nl_1, nl_4, nl_8, nl_19, nl_26, nl_27, nl_48, nl_512, nl_4096, no_1, no_1024, pk_mul, nI_add, nm_ck, nI_clamp, nI_ltI, nI_leI, nI_eq, nb_b2, nb_b1, ↓nb_let, nm_z0, nm_z1, nb_II, nb_IR, nb_RI, nb_RR, nm_IL, nm_IQ, nm_RL, nm_RQ, nm_LI, nm_LR, nm_LL, nm_LQ, nm_QI, nm_QR, nm_QL, nm_QQ, nm_rr, nm_ii, nm_eqm, not_false_eq_true, pk_sub, nm_div, nm_shl, nm_shr, nm_ush, nm_or8, nm_or64, nm_or256, nm_m1, nm_m3, nm_m7, nm_m15, nm_m31, nm_m63, nm_m255, nm_m511, nm_m1023, nm_m2047, nm_m65535, Nat.reduceMod, Nat.reducePow, Nat.reduceAdd, Nat.reduceSub, Nat.reduceMul, nm_bo, nm_bi, nm_rc, nm_ic, nm_ri, nm_rl, nm_rq, nm_ql, nm_qi, nm_li, nm_us, nm_uu, nm_cp, nm_sa31, nm_sa7, nm_m127, nm_m2, nm_nz, nm_nzk, nm_eq32, nm_nzf, if_true, if_false, ↓reduceIte, if_pos, if_neg]
/-- the loop to the console -/
theorem wr_c (n : Nat) (hn : 20000 < n) {B p : Nat} {K1 K2 : St} {M X : St × St} (h : rM B M X) (hB : B + 512 < 2 ^ 62) (hp : p < 16) (h3 : sI X.1 12 = nI p) {A N o : Nat} {t : Int32} (hA : A + N ≤ 65536) (hN : N ≤ 512) (hm : ∀ j : Nat, j < N → ma X p (A + j) 1 = true) (ho : o < 48) (ek : sR X.1 19 o = nI 4) : ∃ (D' : St) (X' : St × St), df_X5_write_185 n n (nI p) (nI A) (nI N) (nI o) (nI 4) (nI 0) (nI 0) (K1, (K2, M)) = some ((nI N).toInt64, (K1, (K2, (M.1, D')))) ∧ df_X16_write7_137 n n (nI A) (nI N) (nI o) t (nI 0) X = some (nI N, X') ∧ rM (B + N) (M.1, D') X' ∧ kX X X' ∧ sR X'.1 1 = sR X.1 1 := by
  obtain ⟨m, D', X', ⟨i1, i2, i3, i4⟩, f1, f2⟩ := nm_l2 (fun m k D => df_X5_write_185 n m (nI p) (nI A) (nI N) (nI o) (nI 4) (nI 0) (nI k) (K1, (K2, (M.1, D)))) (fun m k Y => df_X16_write7_137 n m (nI A) (nI N) (nI o) t (nI k) Y)
    (fun k D Y => rM (B + k) (M.1, D) Y ∧ kX X Y ∧ sR Y.1 1 = sR X.1 1 ∧ sR Y.1 19 = sR X.1 19) N n (by omega) (fun k m D Y hk ⟨i1, i2, i3, i4⟩ => by
      have e12 : sI Y.1 12 = nI p := i2.2.2.1.trans h3
      obtain ⟨z, hz, z1, z2⟩ := nk_bz n (M := (M.1, D)) (X := X) (Y := Y) h.1 i1.1 hp e12 (Z := A + k) (by omega) (hm k hk)
      have ek' : sR Y.1 19 o = nI 4 := by rw [i4]; exact ek
      obtain ⟨S, hS, s1, s2, s3⟩ := rM_sh i1 (b8_z hz)
      have sc := sh_C n (D := D) (S := S) s1 (nI z)
      have sr := sh_R n hn (X := Y) (S := S) (by omega) s2 (nI z)
      refine ⟨_, _, ⟨s3, kX_t i2 ⟨rfl, rfl, rfl, rfl, rfl, rfl, rfl⟩, i3, i4⟩, ?_, ?_⟩
      · have u1 : ¬ N ≤ k := by omega
        have u2 : N < 2 ^ 31 := by omega
        have u3 : k < 2 ^ 31 := by omega
        show df_X5_write_185 n (m + 1) _ _ _ _ _ _ (nI k) _ = df_X5_write_185 n m _ _ _ _ _ _ (nI (k + 1)) _
        rw [show df_X5_write_185 n (m + 1) = dF_X5_write_185 n (df_X5_write_185 n m) from rfl]
        generalize df_X5_write_185 n m = G
        clear s3 i1 h hm sr
        simp (disch := (first | assumption | decide | omega)) only [dF_X5_write_185, df_X5_write_260, u1, z1, sc, eq_self, Nat.reduceEqDiff, Nat.reduceLeDiff, nl_1, nl_3, nl_4, no_1, no_1024, pk_mul, nI_add, nm_ck, nI_clamp, nI_ltI, nI_leI, nI_eq, nb_b2, nb_b1, ↓nb_let, nm_z0, nm_z1, nb_II, nb_IR, nb_RI, nb_RR, nm_IL, nm_IQ, nm_RL, nm_RQ, nm_LI, nm_LR, nm_LL, nm_LQ, nm_QI, nm_QR, nm_QL, nm_QQ, nm_rr, nm_ii, nm_eqm, not_false_eq_true, pk_sub, nm_div, nm_shl, nm_shr, nm_ush, nm_or8, nm_or64, nm_or256, nm_m1, nm_m3, nm_m7, nm_m15, nm_m31, nm_m63, nm_m255, nm_m511, nm_m1023, nm_m2047, nm_m65535, Nat.reduceMod, Nat.reducePow, Nat.reduceAdd, Nat.reduceSub, Nat.reduceMul, nm_bo, nm_bi, nm_rc, nm_ic, nm_ri, nm_rl, nm_rq, nm_ql, nm_qi, nm_li, nm_us, nm_uu, nm_cp, nm_sa31, nm_sa7, nm_m127, nm_m2, nm_nz, nm_nzk, nm_eq32, nm_nzf, if_true, if_false, ↓reduceIte, if_pos, if_neg]
      · have u1 : ¬ N ≤ k := by omega
        have u2 : N < 2 ^ 31 := by omega
        have u3 : k < 2 ^ 31 := by omega
        have u6 : o < 2 ^ 31 := by omega
        show df_X16_write7_137 n (m + 1) _ _ _ _ (nI k) _ = df_X16_write7_137 n m _ _ _ _ (nI (k + 1)) _
        rw [show df_X16_write7_137 n (m + 1) = dF_X16_write7_137 n (df_X16_write7_137 n m) from rfl]
        generalize df_X16_write7_137 n m = G
        clear s3 i1 h hm sc
        generalize (if S < 2048 then upd (sR Y.1 32) S (nI z) else upd (shk (sR Y.1 32) 2047) 2047 (nI z)) = R at sr
        simp (disch := (first | assumption | decide | omega)) only [dF_X16_write7_137, df_X16_write7_207, u1, ek', z2, sr, eq_self, Nat.reduceEqDiff, Nat.reduceLeDiff, nl_1, nl_4, nl_8, nl_19, nl_26, nl_27, nl_48, nl_512, nl_4096, no_1, no_1024, pk_mul, nI_add, nm_ck, nI_clamp, nI_ltI, nI_leI, nI_eq, nb_b2, nb_b1, ↓nb_let, nm_z0, nm_z1, nb_II, nb_IR, nb_RI, nb_RR, nm_IL, nm_IQ, nm_RL, nm_RQ, nm_LI, nm_LR, nm_LL, nm_LQ, nm_QI, nm_QR, nm_QL, nm_QQ, nm_rr, nm_ii, nm_eqm, not_false_eq_true, pk_sub, nm_div, nm_shl, nm_shr, nm_ush, nm_or8, nm_or64, nm_or256, nm_m1, nm_m3, nm_m7, nm_m15, nm_m31, nm_m63, nm_m255, nm_m511, nm_m1023, nm_m2047, nm_m65535, Nat.reduceMod, Nat.reducePow, Nat.reduceAdd, Nat.reduceSub, Nat.reduceMul, nm_bo, nm_bi, nm_rc, nm_ic, nm_ri, nm_rl, nm_rq, nm_ql, nm_qi, nm_li, nm_us, nm_uu, nm_cp, nm_sa31, nm_sa7, nm_m127, nm_m2, nm_nz, nm_nzk, nm_eq32, nm_nzf, if_true, if_false, ↓reduceIte, if_pos, if_neg]) M.2 X ⟨h, kX_r X, rfl, rfl⟩
  have u2 : N < 2 ^ 31 := by omega
  refine ⟨D', X', Eq.trans f1 ?_, Eq.trans f2 ?_, i1, i2, i3⟩
  · show df_X5_write_185 n (m + 1) _ _ _ _ _ _ (nI N) _ = _
    rw [show df_X5_write_185 n (m + 1) = dF_X5_write_185 n (df_X5_write_185 n m) from rfl]
    generalize df_X5_write_185 n m = G
    simp (disch := (first | assumption | decide | omega)) only [dF_X5_write_185, Nat.le_refl, eq_self, Nat.reduceEqDiff, Nat.reduceLeDiff, nl_3, nl_4, no_1, no_1024, pk_mul, nI_add, nm_ck, nI_clamp, nI_ltI, nI_leI, nI_eq, nb_b2, nb_b1, ↓nb_let, nm_z0, nm_z1, nb_II, nb_IR, nb_RI, nb_RR, nm_IL, nm_IQ, nm_RL, nm_RQ, nm_LI, nm_LR, nm_LL, nm_LQ, nm_QI, nm_QR, nm_QL, nm_QQ, nm_rr, nm_ii, nm_eqm, not_false_eq_true, pk_sub, nm_div, nm_shl, nm_shr, nm_ush, nm_or8, nm_or64, nm_or256, nm_m1, nm_m3, nm_m7, nm_m15, nm_m31, nm_m63, nm_m255, nm_m511, nm_m1023, nm_m2047, nm_m65535, Nat.reduceMod, Nat.reducePow, Nat.reduceAdd, Nat.reduceSub, Nat.reduceMul, nm_bo, nm_bi, nm_rc, nm_ic, nm_ri, nm_rl, nm_rq, nm_ql, nm_qi, nm_li, nm_us, nm_uu, nm_cp, nm_sa31, nm_sa7, nm_m127, nm_m2, nm_nz, nm_nzk, nm_eq32, nm_nzf, if_true, if_false, ↓reduceIte, if_pos, if_neg]
  · show df_X16_write7_137 n (m + 1) _ _ _ _ (nI N) _ = _
    rw [show df_X16_write7_137 n (m + 1) = dF_X16_write7_137 n (df_X16_write7_137 n m) from rfl]
    generalize df_X16_write7_137 n m = G
    simp (disch := (first | assumption | decide | omega)) only [dF_X16_write7_137, Nat.le_refl, eq_self, Nat.reduceEqDiff, Nat.reduceLeDiff, nl_1, nl_4, nl_8, nl_19, nl_26, nl_27, nl_48, nl_512, nl_4096, no_1, no_1024, pk_mul, nI_add, nm_ck, nI_clamp, nI_ltI, nI_leI, nI_eq, nb_b2, nb_b1, ↓nb_let, nm_z0, nm_z1, nb_II, nb_IR, nb_RI, nb_RR, nm_IL, nm_IQ, nm_RL, nm_RQ, nm_LI, nm_LR, nm_LL, nm_LQ, nm_QI, nm_QR, nm_QL, nm_QQ, nm_rr, nm_ii, nm_eqm, not_false_eq_true, pk_sub, nm_div, nm_shl, nm_shr, nm_ush, nm_or8, nm_or64, nm_or256, nm_m1, nm_m3, nm_m7, nm_m15, nm_m31, nm_m63, nm_m255, nm_m511, nm_m1023, nm_m2047, nm_m65535, Nat.reduceMod, Nat.reducePow, Nat.reduceAdd, Nat.reduceSub, Nat.reduceMul, nm_bo, nm_bi, nm_rc, nm_ic, nm_ri, nm_rl, nm_rq, nm_ql, nm_qi, nm_li, nm_us, nm_uu, nm_cp, nm_sa31, nm_sa7, nm_m127, nm_m2, nm_nz, nm_nzk, nm_eq32, nm_nzf, if_true, if_false, ↓reduceIte, if_pos, if_neg]
