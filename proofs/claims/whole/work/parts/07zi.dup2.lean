theorem rM_de0 {B : Nat} {M X : St × St} (h : rM B M X) {p : Nat} (hp : p < 16) (h1 : sR X.1 1 p = nI 1) {l op pi fi de : Nat → Int32} (hk : kpL (sR M.2 2) (sR M.2 4) pi fi) (hr : rD l op pi fi de (sR X.1 19) (sR X.1 20) (sR X.1 21) (sR X.1 22) (sR X.1 23) (sR X.1 24) (sR X.1 25)) (hde : ∀ i : Nat, i < p * 16 ∨ p * 16 + 16 ≤ i → de i = sR X.1 14 i) : rM B (M.1, dU M.2 l op pi fi) (pR X.1 14 de, X.2) := by
  have := rM_de h hp h1 hk hr hde (fun _ _ e => e) (fun _ _ e => e)
  rw [show pR (pR X.1 14 de) 19 (sR X.1 19) = pR X.1 14 de from nm_r0 (pR X.1 14 de) 19, show pR (pR X.1 14 de) 23 (sR X.1 23) = pR X.1 14 de from nm_r0 (pR X.1 14 de) 23, show pR (pR X.1 14 de) 24 (sR X.1 24) = pR X.1 14 de from nm_r0 (pR X.1 14 de) 24] at this
  exact this
theorem nk_linkTo (n : Nat) {D : St} {p e o c : Nat} (hp : p < 16) (he : e < 16) (ho : o < 48) (hc : c < 2 ^ 30) (ec : sR D 1 (o * 5 + 1) = nI c) : df_X10_linkTo n (nI p) (nI e) (nI o) D = some (dU D (upd (sR D 0) (p * 16 + e) (nI (o + 1))) (upd (sR D 1) (o * 5 + 1) (nI (c + 1))) (sR D 2) (sR D 4)) := by
  have u1 : p * 16 + e < 256 := by omega
  have u2 : p * 16 + e < 2 ^ 31 := by omega
  have u3 : o * 5 + 1 < 240 := by omega
  have u4 : o * 5 + 1 < 2 ^ 31 := by omega
  unfold dU
  rw [show pR (pR (pR D 0 (upd (sR D 0) (p * 16 + e) (nI (o + 1)))) 1 (upd (sR D 1) (o * 5 + 1) (nI (c + 1)))) 2 (sR D 2) = pR (pR D 0 (upd (sR D 0) (p * 16 + e) (nI (o + 1)))) 1 (upd (sR D 1) (o * 5 + 1) (nI (c + 1))) from nm_r0 (pR (pR D 0 (upd (sR D 0) (p * 16 + e) (nI (o + 1)))) 1 (upd (sR D 1) (o * 5 + 1) (nI (c + 1)))) 2, show pR (pR (pR D 0 (upd (sR D 0) (p * 16 + e) (nI (o + 1)))) 1 (upd (sR D 1) (o * 5 + 1) (nI (c + 1)))) 4 (sR D 4) = pR (pR D 0 (upd (sR D 0) (p * 16 + e) (nI (o + 1)))) 1 (upd (sR D 1) (o * 5 + 1) (nI (c + 1))) from nm_r0 (pR (pR D 0 (upd (sR D 0) (p * 16 + e) (nI (o + 1)))) 1 (upd (sR D 1) (o * 5 + 1) (nI (c + 1)))) 4]
  simp (disch := (first | assumption | decide | omega)) only [df_X10_linkTo_0, df_X10_linkTo, ec, eq_self, Nat.reduceEqDiff, Nat.reduceLeDiff, nl_0, nl_1, nl_5, nl_16, nl_240, nl_256, no_1, no_1024, pk_mul, nI_add, nm_ck, nI_clamp, nI_ltI, nI_leI, nI_eq, nb_b2, nb_b1, ↓nb_let, nm_z0, nm_z1, nb_II, nb_IR, nb_RI, nb_RR, nm_IL, nm_IQ, nm_RL, nm_RQ, nm_LI, nm_LR, nm_LL, nm_LQ, nm_QI, nm_QR, nm_QL, nm_QQ, nm_rr, nm_ii, nm_eqm, not_false_eq_true, pk_sub, nm_div, nm_shl, nm_shr, nm_ush, nm_or8, nm_or64, nm_or256, nm_m1, nm_m3, nm_m7, nm_m15, nm_m31, nm_m63, nm_m255, nm_m511, nm_m1023, nm_m2047, nm_m65535, Nat.reduceMod, Nat.reducePow, Nat.reduceAdd, Nat.reduceSub, Nat.reduceMul, nm_bo, nm_bi, nm_rc, nm_ic, nm_ri, nm_rl, nm_rq, nm_ql, nm_qi, nm_li, nm_us, nm_uu, nm_cp, nm_sa31, nm_sa7, nm_m127, nm_m2, nm_nz, nm_nzk, nm_eq32, nm_nzf, if_true, if_false, ↓reduceIte, if_pos, if_neg]
theorem rD_c {l op pi fi de kd th po rt ip isf nam : Nat → Int32} (h : rD l op pi fi de kd th po rt ip isf nam) {o : Nat} (ho : o < 48) (hk : ¬ kd o = nI 0) : op (o * 5 + 1) = nI (cD de o) := by
  rcases h.2.1 o ho with ⟨z1, _⟩ | ⟨k, t, y1, y2, y3, y4, y5, y6, _⟩
  · exact absurd z1 hk
  · exact y6
/-- 'dup' to another descriptor -/
theorem dup_1 (n : Nat) (hn : 1024 < n) {B p : Nat} {K : St × (St × (St × St))} {X : St × St} (h : cP B p K X) {d o e : Nat} (hd : d < 16) (ho : o < 48) (he : e < 16) (hne : e ≠ d) (ed : sR X.1 14 (p * 16 + d) = nI o) (kn : ¬ sR X.1 19 o = nI 0) : cO B p K X (nd_b1 (df_X10_close n (nI p) (nI e) K.2.2.2) (fun s => nd_b1 (df_X10_linkTo n (nI p) (nI e) (nI o) s) (fun s => some ((nI e).toInt64, (K.1, (K.2.1, (K.2.2.1, s))))))) (nd_b1 (df_X16_sweep n (pR X.1 14 (upd (sR X.1 14) (p * 16 + e) (nI o)), X.2)) (fun s => some (nI e, s))) := by
  obtain ⟨h1, h2, h3, h4, h5, h6, h7⟩ := h
  have m2 := h1.2.1
  obtain ⟨l, op, pi, fi, c1, c2, c3⟩ := nk_close n m2 h2 he
  have i1 : p * 16 + e < 256 := by omega
  have de1 : upd (sR X.1 14) (p * 16 + e) (-nI 1) (p * 16 + d) = nI o := (nm_un (by omega)).trans ed
  have pos : 0 < cD (upd (sR X.1 14) (p * 16 + e) (-nI 1)) o := cN_p (P := fun j => decide (upd (sR X.1 14) (p * 16 + e) (-nI 1) j = nI o)) (i := p * 16 + d) (decide_eq_true de1) (by omega)
  obtain ⟨kk, hkk, ek⟩ := rD_k m2 ho
  have kn1 : ¬ pcw (gk (upd (sR X.1 14) (p * 16 + e) (-nI 1)) (sR X.1 19)) (sR X.1 19) 48 o = nI 0 := by
    rw [pcw_y _ _ ho, gk_is hkk ek, if_neg (by omega), ← ek]
    exact kn
  have lk := rD_link c3 i1 ho nm_us kn1
  rw [nm_uu] at lk
  have cl := cD_le (upd (sR X.1 14) (p * 16 + e) (-nI 1)) o
  have ec := rD_c c3 ho kn1
  have e2 := nk_linkTo n (D := dU K.2.2.2 l op pi fi) h2 he ho (c := cD (upd (sR X.1 14) (p * 16 + e) (-nI 1)) o) (by omega) ec
  rw [dU_dU] at e2
  obtain ⟨q1, q2⟩ := cD_stand (de := upd (sR X.1 14) (p * 16 + e) (-nI 1)) i1 ho nm_us
  rw [nm_uu] at q1 q2
  have sw := nk_sweep n hn (pR X.1 14 (upd (sR X.1 14) (p * 16 + e) (nI o)), X.2)
  have fin := sw_eq m2 lk (fun o' ho' => by
    obtain ⟨k', hk', ek'⟩ := rD_k m2 ho'
    rw [pcw_y _ _ ho', pcw_y _ _ ho', gk_is hk' ek', gk_is hk' ek']
    by_cases c : o' = o
    · subst c
      rw [if_neg (by omega), if_neg (by omega)]
    · rw [q1 o' ho' c])
  rw [c1, nb_b1, e2, nb_b1, sw, nb_b1]
  exact ⟨_, _, K.1, _, _, rfl, rfl, rM_de h1 h2 h5 c2 fin (fun i hi => nm_un (by omega)) (fun k hk e => rD_p m2 (de' := sR X.1 14) hk e) (fun k hk e => rD_f m2 hk e), fun _ => rfl, Or.inl ⟨h4, rfl⟩, ⟨rfl, rfl, rfl, rfl, rfl⟩, Or.inl ⟨h6, h7⟩, fun _ => h5, fun z => absurd (h4.symm.trans z) (by decide)⟩
theorem m1_cases {b : Int32} (h : b < nI 0) (g : ¬ b < -nI 1) : b = -nI 1 := by
  rw [Int32.lt_iff_toInt_lt] at h g
  have e : (-nI 1 : Int32).toInt = -1 := by decide
  have z : (nI 0 : Int32).toInt = 0 := by decide
  exact Int32.toInt_inj.mp (by omega)
/-- the kernel's call 'dup' -/
theorem nq_dup (n : Nat) (hn : 1024 < n) {B p : Nat} {K : St × (St × (St × St))} {X : St × St} (h : cP B p K X) (a b : Int32) : cO B p K X (df_X5_duplicate n (nI p) a b K) (df_X16_dup n a b X) := by
  obtain ⟨h1, h2, h3, h4, h5, h6, h7⟩ := id h
  have m2 := h1.2.1
  have z0 : ¬ (nI 0 : Int32) ≤ -nI 1 := by decide
  have inv : df_X5_duplicate n (nI p) a b K = some (-22, K) → df_X16_dup n a b X = some (-nI 22, X) → cO B p K X (df_X5_duplicate n (nI p) a b K) (df_X16_dup n a b X) := fun e1 e2 => by
    rw [e1, e2]
    exact cO_id h (by decide)
  rcases sg_cases b with ⟨z, _⟩ | ⟨A, hA, z⟩
  · by_cases c : b < -nI 1
    · exact inv (by simp (disch := (first | assumption | decide | omega)) only [df_X5_duplicate_11, df_X5_duplicate_91, df_X5_duplicate_52, df_X5_duplicate_0, df_X5_duplicate, c, eq_self, Nat.reduceEqDiff, Nat.reduceLeDiff, nl_0, nl_1, nl_4, nl_16, nl_22, no_1, no_1024, pk_mul, nI_add, nm_ck, nI_clamp, nI_ltI, nI_leI, nI_eq, nb_b2, nb_b1, ↓nb_let, nm_z0, nm_z1, nb_II, nb_IR, nb_RI, nb_RR, nm_IL, nm_IQ, nm_RL, nm_RQ, nm_LI, nm_LR, nm_LL, nm_LQ, nm_QI, nm_QR, nm_QL, nm_QQ, nm_rr, nm_ii, nm_eqm, not_false_eq_true, pk_sub, nm_div, nm_shl, nm_shr, nm_ush, nm_or8, nm_or64, nm_or256, nm_m1, nm_m3, nm_m7, nm_m15, nm_m31, nm_m63, nm_m255, nm_m511, nm_m1023, nm_m2047, nm_m65535, Nat.reduceMod, Nat.reducePow, Nat.reduceAdd, Nat.reduceSub, Nat.reduceMul, nm_bo, nm_bi, nm_rc, nm_ic, nm_ri, nm_rl, nm_rq, nm_ql, nm_qi, nm_li, nm_us, nm_uu, nm_cp, nm_sa31, nm_sa7, nm_m127, nm_m2, nm_nz, nm_nzk, nm_eq32, nm_nzf, if_true, if_false, ↓reduceIte, if_pos, if_neg]) (by simp (disch := (first | assumption | decide | omega)) only [df_X16_dup_11, df_X16_dup_53, df_X16_dup_0, df_X16_dup, c, eq_self, Nat.reduceEqDiff, Nat.reduceLeDiff, nl_0, nl_1, nl_4, nl_12, nl_14, nl_15, nl_16, nl_22, nl_256, no_1, no_1024, pk_mul, nI_add, nm_ck, nI_clamp, nI_ltI, nI_leI, nI_eq, nb_b2, nb_b1, ↓nb_let, nm_z0, nm_z1, nb_II, nb_IR, nb_RI, nb_RR, nm_IL, nm_IQ, nm_RL, nm_RQ, nm_LI, nm_LR, nm_LL, nm_LQ, nm_QI, nm_QR, nm_QL, nm_QQ, nm_rr, nm_ii, nm_eqm, not_false_eq_true, pk_sub, nm_div, nm_shl, nm_shr, nm_ush, nm_or8, nm_or64, nm_or256, nm_m1, nm_m3, nm_m7, nm_m15, nm_m31, nm_m63, nm_m255, nm_m511, nm_m1023, nm_m2047, nm_m65535, Nat.reduceMod, Nat.reducePow, Nat.reduceAdd, Nat.reduceSub, Nat.reduceMul, nm_bo, nm_bi, nm_rc, nm_ic, nm_ri, nm_rl, nm_rq, nm_ql, nm_qi, nm_li, nm_us, nm_uu, nm_cp, nm_sa31, nm_sa7, nm_m127, nm_m2, nm_nz, nm_nzk, nm_eq32, nm_nzf, if_true, if_false, ↓reduceIte, if_pos, if_neg])
    · have := m1_cases z c
      subst this
      have lm : (-nI 1 : Int32) < nI 16 := by decide
      have lm2 : (-nI 1 : Int32) ≤ nI 15 := by decide
      rcases nk_opening n m2 h2 a with ⟨o1, o2, _⟩ | ⟨d, o, hd, ho, ed, de, kn, o1, o2⟩
      · have e1 : df_X5_duplicate n (nI p) a (-nI 1) K = some (-1, K) := by simp (disch := (first | assumption | decide | omega)) only [df_X5_duplicate_11, df_X5_duplicate_91, df_X5_duplicate_52, df_X5_duplicate_0, df_X5_duplicate, c, lm, o1, z0, eq_self, Nat.reduceEqDiff, Nat.reduceLeDiff, nl_0, nl_1, nl_4, nl_16, nl_22, no_1, no_1024, pk_mul, nI_add, nm_ck, nI_clamp, nI_ltI, nI_leI, nI_eq, nb_b2, nb_b1, ↓nb_let, nm_z0, nm_z1, nb_II, nb_IR, nb_RI, nb_RR, nm_IL, nm_IQ, nm_RL, nm_RQ, nm_LI, nm_LR, nm_LL, nm_LQ, nm_QI, nm_QR, nm_QL, nm_QQ, nm_rr, nm_ii, nm_eqm, not_false_eq_true, pk_sub, nm_div, nm_shl, nm_shr, nm_ush, nm_or8, nm_or64, nm_or256, nm_m1, nm_m3, nm_m7, nm_m15, nm_m31, nm_m63, nm_m255, nm_m511, nm_m1023, nm_m2047, nm_m65535, Nat.reduceMod, Nat.reducePow, Nat.reduceAdd, Nat.reduceSub, Nat.reduceMul, nm_bo, nm_bi, nm_rc, nm_ic, nm_ri, nm_rl, nm_rq, nm_ql, nm_qi, nm_li, nm_us, nm_uu, nm_cp, nm_sa31, nm_sa7, nm_m127, nm_m2, nm_nz, nm_nzk, nm_eq32, nm_nzf, if_true, if_false, ↓reduceIte, if_pos, if_neg]
        have e2 : df_X16_dup n a (-nI 1) X = some (-nI 1, X) := by simp (disch := (first | assumption | decide | omega)) only [df_X16_dup_11, df_X16_dup_53, df_X16_dup_0, df_X16_dup, c, lm2, h3, o2, eq_self, Nat.reduceEqDiff, Nat.reduceLeDiff, nl_0, nl_1, nl_4, nl_12, nl_14, nl_15, nl_16, nl_22, nl_256, no_1, no_1024, pk_mul, nI_add, nm_ck, nI_clamp, nI_ltI, nI_leI, nI_eq, nb_b2, nb_b1, ↓nb_let, nm_z0, nm_z1, nb_II, nb_IR, nb_RI, nb_RR, nm_IL, nm_IQ, nm_RL, nm_RQ, nm_LI, nm_LR, nm_LL, nm_LQ, nm_QI, nm_QR, nm_QL, nm_QQ, nm_rr, nm_ii, nm_eqm, not_false_eq_true, pk_sub, nm_div, nm_shl, nm_shr, nm_ush, nm_or8, nm_or64, nm_or256, nm_m1, nm_m3, nm_m7, nm_m15, nm_m31, nm_m63, nm_m255, nm_m511, nm_m1023, nm_m2047, nm_m65535, Nat.reduceMod, Nat.reducePow, Nat.reduceAdd, Nat.reduceSub, Nat.reduceMul, nm_bo, nm_bi, nm_rc, nm_ic, nm_ri, nm_rl, nm_rq, nm_ql, nm_qi, nm_li, nm_us, nm_uu, nm_cp, nm_sa31, nm_sa7, nm_m127, nm_m2, nm_nz, nm_nzk, nm_eq32, nm_nzf, if_true, if_false, ↓reduceIte, if_pos, if_neg]
        rw [e1, e2]
        exact cO_id h (by decide)
      · have fl := nk_freeLink n hn (D := K.2.2.2) (X := X) m2.1 h2 (show 0 ≤ 16 by omega)
        have fr := nk_freeDescriptor n hn h2 h3
        obtain ⟨x1, x2, x3, x4⟩ := fN_le (fd X p) 16 0
        have x3' : fN (fd X p) 0 16 < 16 → sR X.1 14 (p * 16 + fN (fd X p) 0 16) = -nI 1 := fun z => of_decide_eq_true (x3 (by omega))
        have fl : df_X10_freeLink n (nI p) (nI 0) K.2.2.2 = some (cv (fN (fd X p) 0 16), K.2.2.2) := fl
        generalize fN (fd X p) 0 16 = f at fl fr x3'
        have u1 : 0 ≤ o := by omega
        have u2 : o < 2 ^ 31 := by omega
        by_cases f16 : f < 16
        · rw [cv_0 f16] at fl fr
          have ef := x3' f16
          have fne : ¬ f = d := fun y => by
            rw [y, de] at ef
            exact nk_ne (by omega) ef
          have u3 : 0 ≤ f := by omega
          have u4 : f < 2 ^ 31 := by omega
          have u5 : d < 2 ^ 31 := by omega
          have u6 : 16 * p + f = p * 16 + f := by omega
          have u7 : p * 16 + f < 256 := by omega
          have u8 : p * 16 + f < 2 ^ 31 := by omega
          subst ed
          have l0 : sR K.2.2.2 0 (p * 16 + f) = nI 0 := by
            rcases m2.1 (p * 16 + f) u7 with ⟨_, y⟩ | ⟨o', ho', y, _⟩
            · exact y
            · exact absurd (y.symm.trans ef) (nk_ne (by omega))
          have cl0 := nk_close0 n h2 f16 l0
          have cl := cD_le (sR X.1 14) o
          have lt := nk_linkTo n (D := K.2.2.2) h2 f16 ho (c := cD (sR X.1 14) o) (by omega) (rD_c m2 ho kn)
          have lk := rD_link m2 u7 ho ef kn
          refine ⟨(nI f).toInt64, nI f, K.1, _, _, ?_, ?_, rM_de0 h1 h2 h5 (kpL_r _ _) lk (fun i hi => nm_un (by omega)), fun _ => rfl, Or.inl ⟨h4, rfl⟩, ⟨rfl, rfl, rfl, rfl, rfl⟩, Or.inl ⟨h6, h7⟩, fun _ => h5, fun z => absurd (h4.symm.trans z) (by decide)⟩
          · simp (disch := (first | assumption | decide | omega)) only [df_X5_duplicate_11, df_X5_duplicate_91, df_X5_duplicate_52, df_X5_duplicate_0, df_X5_duplicate, c, lm, o1, u1, z0, fl, u3, fne, cl0, lt, eq_self, Nat.reduceEqDiff, Nat.reduceLeDiff, nl_0, nl_1, nl_4, nl_16, nl_22, no_1, no_1024, pk_mul, nI_add, nm_ck, nI_clamp, nI_ltI, nI_leI, nI_eq, nb_b2, nb_b1, ↓nb_let, nm_z0, nm_z1, nb_II, nb_IR, nb_RI, nb_RR, nm_IL, nm_IQ, nm_RL, nm_RQ, nm_LI, nm_LR, nm_LL, nm_LQ, nm_QI, nm_QR, nm_QL, nm_QQ, nm_rr, nm_ii, nm_eqm, not_false_eq_true, pk_sub, nm_div, nm_shl, nm_shr, nm_ush, nm_or8, nm_or64, nm_or256, nm_m1, nm_m3, nm_m7, nm_m15, nm_m31, nm_m63, nm_m255, nm_m511, nm_m1023, nm_m2047, nm_m65535, Nat.reduceMod, Nat.reducePow, Nat.reduceAdd, Nat.reduceSub, Nat.reduceMul, nm_bo, nm_bi, nm_rc, nm_ic, nm_ri, nm_rl, nm_rq, nm_ql, nm_qi, nm_li, nm_us, nm_uu, nm_cp, nm_sa31, nm_sa7, nm_m127, nm_m2, nm_nz, nm_nzk, nm_eq32, nm_nzf, if_true, if_false, ↓reduceIte, if_pos, if_neg]
          · simp (disch := (first | assumption | decide | omega)) only [df_X16_dup_11, df_X16_dup_53, df_X16_dup_0, df_X16_dup, df_X16_give_0, df_X16_give, c, lm2, h3, o2, z0, fr, u6, eq_self, Nat.reduceEqDiff, Nat.reduceLeDiff, nl_0, nl_1, nl_4, nl_12, nl_14, nl_15, nl_16, nl_22, nl_256, no_1, no_1024, pk_mul, nI_add, nm_ck, nI_clamp, nI_ltI, nI_leI, nI_eq, nb_b2, nb_b1, ↓nb_let, nm_z0, nm_z1, nb_II, nb_IR, nb_RI, nb_RR, nm_IL, nm_IQ, nm_RL, nm_RQ, nm_LI, nm_LR, nm_LL, nm_LQ, nm_QI, nm_QR, nm_QL, nm_QQ, nm_rr, nm_ii, nm_eqm, not_false_eq_true, pk_sub, nm_div, nm_shl, nm_shr, nm_ush, nm_or8, nm_or64, nm_or256, nm_m1, nm_m3, nm_m7, nm_m15, nm_m31, nm_m63, nm_m255, nm_m511, nm_m1023, nm_m2047, nm_m65535, Nat.reduceMod, Nat.reducePow, Nat.reduceAdd, Nat.reduceSub, Nat.reduceMul, nm_bo, nm_bi, nm_rc, nm_ic, nm_ri, nm_rl, nm_rq, nm_ql, nm_qi, nm_li, nm_us, nm_uu, nm_cp, nm_sa31, nm_sa7, nm_m127, nm_m2, nm_nz, nm_nzk, nm_eq32, nm_nzf, if_true, if_false, ↓reduceIte, if_pos, if_neg]
        · rw [cv_1 f16] at fl fr
          have e1 : df_X5_duplicate n (nI p) a (-nI 1) K = some (-4, K) := by simp (disch := (first | assumption | decide | omega)) only [df_X5_duplicate_11, df_X5_duplicate_91, df_X5_duplicate_52, df_X5_duplicate_0, df_X5_duplicate, c, lm, o1, u1, z0, fl, eq_self, Nat.reduceEqDiff, Nat.reduceLeDiff, nl_0, nl_1, nl_4, nl_16, nl_22, no_1, no_1024, pk_mul, nI_add, nm_ck, nI_clamp, nI_ltI, nI_leI, nI_eq, nb_b2, nb_b1, ↓nb_let, nm_z0, nm_z1, nb_II, nb_IR, nb_RI, nb_RR, nm_IL, nm_IQ, nm_RL, nm_RQ, nm_LI, nm_LR, nm_LL, nm_LQ, nm_QI, nm_QR, nm_QL, nm_QQ, nm_rr, nm_ii, nm_eqm, not_false_eq_true, pk_sub, nm_div, nm_shl, nm_shr, nm_ush, nm_or8, nm_or64, nm_or256, nm_m1, nm_m3, nm_m7, nm_m15, nm_m31, nm_m63, nm_m255, nm_m511, nm_m1023, nm_m2047, nm_m65535, Nat.reduceMod, Nat.reducePow, Nat.reduceAdd, Nat.reduceSub, Nat.reduceMul, nm_bo, nm_bi, nm_rc, nm_ic, nm_ri, nm_rl, nm_rq, nm_ql, nm_qi, nm_li, nm_us, nm_uu, nm_cp, nm_sa31, nm_sa7, nm_m127, nm_m2, nm_nz, nm_nzk, nm_eq32, nm_nzf, if_true, if_false, ↓reduceIte, if_pos, if_neg]
          have e2 : df_X16_dup n a (-nI 1) X = some (-nI 4, X) := by simp (disch := (first | assumption | decide | omega)) only [df_X16_dup_11, df_X16_dup_53, df_X16_dup_0, df_X16_dup, c, lm2, h3, o2, z0, fr, eq_self, Nat.reduceEqDiff, Nat.reduceLeDiff, nl_0, nl_1, nl_4, nl_12, nl_14, nl_15, nl_16, nl_22, nl_256, no_1, no_1024, pk_mul, nI_add, nm_ck, nI_clamp, nI_ltI, nI_leI, nI_eq, nb_b2, nb_b1, ↓nb_let, nm_z0, nm_z1, nb_II, nb_IR, nb_RI, nb_RR, nm_IL, nm_IQ, nm_RL, nm_RQ, nm_LI, nm_LR, nm_LL, nm_LQ, nm_QI, nm_QR, nm_QL, nm_QQ, nm_rr, nm_ii, nm_eqm, not_false_eq_true, pk_sub, nm_div, nm_shl, nm_shr, nm_ush, nm_or8, nm_or64, nm_or256, nm_m1, nm_m3, nm_m7, nm_m15, nm_m31, nm_m63, nm_m255, nm_m511, nm_m1023, nm_m2047, nm_m65535, Nat.reduceMod, Nat.reducePow, Nat.reduceAdd, Nat.reduceSub, Nat.reduceMul, nm_bo, nm_bi, nm_rc, nm_ic, nm_ri, nm_rl, nm_rq, nm_ql, nm_qi, nm_li, nm_us, nm_uu, nm_cp, nm_sa31, nm_sa7, nm_m127, nm_m2, nm_nz, nm_nzk, nm_eq32, nm_nzf, if_true, if_false, ↓reduceIte, if_pos, if_neg]
          rw [e1, e2]
          exact cO_id h (by decide)
  · subst z
    have nm : ¬ nI A < -nI 1 := by
      rw [Int32.lt_iff_toInt_lt, nI_toInt hA, show (-nI 1 : Int32).toInt = -1 by decide]
      omega
    by_cases A16 : A < 16
    · have A15 : A ≤ 15 := by omega
      have u0 : 0 ≤ A := by omega
      rcases nk_opening n m2 h2 a with ⟨o1, o2, _⟩ | ⟨d, o, hd, ho, ed, de, kn, o1, o2⟩
      · have e1 : df_X5_duplicate n (nI p) a (nI A) K = some (-1, K) := by simp (disch := (first | assumption | decide | omega)) only [df_X5_duplicate_11, df_X5_duplicate_91, df_X5_duplicate_52, df_X5_duplicate_0, df_X5_duplicate, nm, A16, o1, z0, eq_self, Nat.reduceEqDiff, Nat.reduceLeDiff, nl_0, nl_1, nl_4, nl_16, nl_22, no_1, no_1024, pk_mul, nI_add, nm_ck, nI_clamp, nI_ltI, nI_leI, nI_eq, nb_b2, nb_b1, ↓nb_let, nm_z0, nm_z1, nb_II, nb_IR, nb_RI, nb_RR, nm_IL, nm_IQ, nm_RL, nm_RQ, nm_LI, nm_LR, nm_LL, nm_LQ, nm_QI, nm_QR, nm_QL, nm_QQ, nm_rr, nm_ii, nm_eqm, not_false_eq_true, pk_sub, nm_div, nm_shl, nm_shr, nm_ush, nm_or8, nm_or64, nm_or256, nm_m1, nm_m3, nm_m7, nm_m15, nm_m31, nm_m63, nm_m255, nm_m511, nm_m1023, nm_m2047, nm_m65535, Nat.reduceMod, Nat.reducePow, Nat.reduceAdd, Nat.reduceSub, Nat.reduceMul, nm_bo, nm_bi, nm_rc, nm_ic, nm_ri, nm_rl, nm_rq, nm_ql, nm_qi, nm_li, nm_us, nm_uu, nm_cp, nm_sa31, nm_sa7, nm_m127, nm_m2, nm_nz, nm_nzk, nm_eq32, nm_nzf, if_true, if_false, ↓reduceIte, if_pos, if_neg]
        have e2 : df_X16_dup n a (nI A) X = some (-nI 1, X) := by simp (disch := (first | assumption | decide | omega)) only [df_X16_dup_11, df_X16_dup_53, df_X16_dup_0, df_X16_dup, nm, A15, h3, o2, eq_self, Nat.reduceEqDiff, Nat.reduceLeDiff, nl_0, nl_1, nl_4, nl_12, nl_14, nl_15, nl_16, nl_22, nl_256, no_1, no_1024, pk_mul, nI_add, nm_ck, nI_clamp, nI_ltI, nI_leI, nI_eq, nb_b2, nb_b1, ↓nb_let, nm_z0, nm_z1, nb_II, nb_IR, nb_RI, nb_RR, nm_IL, nm_IQ, nm_RL, nm_RQ, nm_LI, nm_LR, nm_LL, nm_LQ, nm_QI, nm_QR, nm_QL, nm_QQ, nm_rr, nm_ii, nm_eqm, not_false_eq_true, pk_sub, nm_div, nm_shl, nm_shr, nm_ush, nm_or8, nm_or64, nm_or256, nm_m1, nm_m3, nm_m7, nm_m15, nm_m31, nm_m63, nm_m255, nm_m511, nm_m1023, nm_m2047, nm_m65535, Nat.reduceMod, Nat.reducePow, Nat.reduceAdd, Nat.reduceSub, Nat.reduceMul, nm_bo, nm_bi, nm_rc, nm_ic, nm_ri, nm_rl, nm_rq, nm_ql, nm_qi, nm_li, nm_us, nm_uu, nm_cp, nm_sa31, nm_sa7, nm_m127, nm_m2, nm_nz, nm_nzk, nm_eq32, nm_nzf, if_true, if_false, ↓reduceIte, if_pos, if_neg]
        rw [e1, e2]
        exact cO_id h (by decide)
      · subst ed
        have u1 : 0 ≤ o := by omega
        have u2 : o < 2 ^ 31 := by omega
        have u5 : d < 2 ^ 31 := by omega
        have u6 : 16 * p + A = p * 16 + A := by omega
        have u7 : p * 16 + A < 256 := by omega
        have u8 : p * 16 + A < 2 ^ 31 := by omega
        by_cases Ad : A = d
        · subst Ad
          have sw := nk_sweep n hn (pR X.1 14 (upd (sR X.1 14) (p * 16 + A) (nI o)), X.2)
          have eu : upd (sR X.1 14) (p * 16 + A) (nI o) = sR X.1 14 := by rw [← de, nm_u0]
          have fin := rM_de h1 h2 h5 (kpL_r _ _) (rD_sweep m2) (fun _ _ => rfl) (fun k hk e => rD_p m2 (de' := sR X.1 14) hk e) (fun k hk e => rD_f m2 hk e)
          rw [dU_id] at fin
          refine ⟨(nI A).toInt64, nI A, K.1, K.2.2, _, ?_, ?_, fin, fun _ => rfl, Or.inl ⟨h4, rfl⟩, ⟨rfl, rfl, rfl, rfl, rfl⟩, Or.inl ⟨h6, h7⟩, fun _ => h5, fun z => absurd (h4.symm.trans z) (by decide)⟩
          · simp (disch := (first | assumption | decide | omega)) only [df_X5_duplicate_11, df_X5_duplicate_91, df_X5_duplicate_52, df_X5_duplicate_0, df_X5_duplicate, nm, A16, o1, u1, u0, eq_self, Nat.reduceEqDiff, Nat.reduceLeDiff, nl_0, nl_1, nl_4, nl_16, nl_22, no_1, no_1024, pk_mul, nI_add, nm_ck, nI_clamp, nI_ltI, nI_leI, nI_eq, nb_b2, nb_b1, ↓nb_let, nm_z0, nm_z1, nb_II, nb_IR, nb_RI, nb_RR, nm_IL, nm_IQ, nm_RL, nm_RQ, nm_LI, nm_LR, nm_LL, nm_LQ, nm_QI, nm_QR, nm_QL, nm_QQ, nm_rr, nm_ii, nm_eqm, not_false_eq_true, pk_sub, nm_div, nm_shl, nm_shr, nm_ush, nm_or8, nm_or64, nm_or256, nm_m1, nm_m3, nm_m7, nm_m15, nm_m31, nm_m63, nm_m255, nm_m511, nm_m1023, nm_m2047, nm_m65535, Nat.reduceMod, Nat.reducePow, Nat.reduceAdd, Nat.reduceSub, Nat.reduceMul, nm_bo, nm_bi, nm_rc, nm_ic, nm_ri, nm_rl, nm_rq, nm_ql, nm_qi, nm_li, nm_us, nm_uu, nm_cp, nm_sa31, nm_sa7, nm_m127, nm_m2, nm_nz, nm_nzk, nm_eq32, nm_nzf, if_true, if_false, ↓reduceIte, if_pos, if_neg]
          · rw [eu] at sw
            simp (disch := (first | assumption | decide | omega)) only [df_X16_dup_11, df_X16_dup_53, df_X16_dup_0, df_X16_dup, nm, A15, h3, o2, u0, u6, eu, sw, eq_self, Nat.reduceEqDiff, Nat.reduceLeDiff, nl_0, nl_1, nl_4, nl_12, nl_14, nl_15, nl_16, nl_22, nl_256, no_1, no_1024, pk_mul, nI_add, nm_ck, nI_clamp, nI_ltI, nI_leI, nI_eq, nb_b2, nb_b1, ↓nb_let, nm_z0, nm_z1, nb_II, nb_IR, nb_RI, nb_RR, nm_IL, nm_IQ, nm_RL, nm_RQ, nm_LI, nm_LR, nm_LL, nm_LQ, nm_QI, nm_QR, nm_QL, nm_QQ, nm_rr, nm_ii, nm_eqm, not_false_eq_true, pk_sub, nm_div, nm_shl, nm_shr, nm_ush, nm_or8, nm_or64, nm_or256, nm_m1, nm_m3, nm_m7, nm_m15, nm_m31, nm_m63, nm_m255, nm_m511, nm_m1023, nm_m2047, nm_m65535, Nat.reduceMod, Nat.reducePow, Nat.reduceAdd, Nat.reduceSub, Nat.reduceMul, nm_bo, nm_bi, nm_rc, nm_ic, nm_ri, nm_rl, nm_rq, nm_ql, nm_qi, nm_li, nm_us, nm_uu, nm_cp, nm_sa31, nm_sa7, nm_m127, nm_m2, nm_nz, nm_nzk, nm_eq32, nm_nzf, if_true, if_false, ↓reduceIte, if_pos, if_neg]
        · have e1 : df_X5_duplicate n (nI p) (nI d) (nI A) K = (nd_b1 (df_X10_close n (nI p) (nI A) K.2.2.2) (fun s => nd_b1 (df_X10_linkTo n (nI p) (nI A) (nI o) s) (fun s => some ((nI A).toInt64, (K.1, (K.2.1, (K.2.2.1, s))))))) := by
            simp (disch := (first | assumption | decide | omega)) only [df_X5_duplicate_11, df_X5_duplicate_91, df_X5_duplicate_52, df_X5_duplicate_0, df_X5_duplicate, nm, A16, o1, u1, u0, Ad, eq_self, Nat.reduceEqDiff, Nat.reduceLeDiff, nl_0, nl_1, nl_4, nl_16, nl_22, no_1, no_1024, pk_mul, nI_add, nm_ck, nI_clamp, nI_ltI, nI_leI, nI_eq, nb_b2, nb_b1, ↓nb_let, nm_z0, nm_z1, nb_II, nb_IR, nb_RI, nb_RR, nm_IL, nm_IQ, nm_RL, nm_RQ, nm_LI, nm_LR, nm_LL, nm_LQ, nm_QI, nm_QR, nm_QL, nm_QQ, nm_rr, nm_ii, nm_eqm, not_false_eq_true, pk_sub, nm_div, nm_shl, nm_shr, nm_ush, nm_or8, nm_or64, nm_or256, nm_m1, nm_m3, nm_m7, nm_m15, nm_m31, nm_m63, nm_m255, nm_m511, nm_m1023, nm_m2047, nm_m65535, Nat.reduceMod, Nat.reducePow, Nat.reduceAdd, Nat.reduceSub, Nat.reduceMul, nm_bo, nm_bi, nm_rc, nm_ic, nm_ri, nm_rl, nm_rq, nm_ql, nm_qi, nm_li, nm_us, nm_uu, nm_cp, nm_sa31, nm_sa7, nm_m127, nm_m2, nm_nz, nm_nzk, nm_eq32, nm_nzf, if_true, if_false, ↓reduceIte, if_pos, if_neg]
          have e2 : df_X16_dup n (nI d) (nI A) X = (nd_b1 (df_X16_sweep n (pR X.1 14 (upd (sR X.1 14) (p * 16 + A) (nI o)), X.2)) (fun s => some (nI A, s))) := by
            simp (disch := (first | assumption | decide | omega)) only [df_X16_dup_11, df_X16_dup_53, df_X16_dup_0, df_X16_dup, nm, A15, h3, o2, u0, u6, eq_self, Nat.reduceEqDiff, Nat.reduceLeDiff, nl_0, nl_1, nl_4, nl_12, nl_14, nl_15, nl_16, nl_22, nl_256, no_1, no_1024, pk_mul, nI_add, nm_ck, nI_clamp, nI_ltI, nI_leI, nI_eq, nb_b2, nb_b1, ↓nb_let, nm_z0, nm_z1, nb_II, nb_IR, nb_RI, nb_RR, nm_IL, nm_IQ, nm_RL, nm_RQ, nm_LI, nm_LR, nm_LL, nm_LQ, nm_QI, nm_QR, nm_QL, nm_QQ, nm_rr, nm_ii, nm_eqm, not_false_eq_true, pk_sub, nm_div, nm_shl, nm_shr, nm_ush, nm_or8, nm_or64, nm_or256, nm_m1, nm_m3, nm_m7, nm_m15, nm_m31, nm_m63, nm_m255, nm_m511, nm_m1023, nm_m2047, nm_m65535, Nat.reduceMod, Nat.reducePow, Nat.reduceAdd, Nat.reduceSub, Nat.reduceMul, nm_bo, nm_bi, nm_rc, nm_ic, nm_ri, nm_rl, nm_rq, nm_ql, nm_qi, nm_li, nm_us, nm_uu, nm_cp, nm_sa31, nm_sa7, nm_m127, nm_m2, nm_nz, nm_nzk, nm_eq32, nm_nzf, if_true, if_false, ↓reduceIte, if_pos, if_neg]
          rw [e1, e2]
          exact dup_1 n hn h hd ho A16 Ad de kn
    · have A15 : ¬ A ≤ 15 := by omega
      exact inv (by simp (disch := (first | assumption | decide | omega)) only [df_X5_duplicate_11, df_X5_duplicate_91, df_X5_duplicate_52, df_X5_duplicate_0, df_X5_duplicate, nm, A16, eq_self, Nat.reduceEqDiff, Nat.reduceLeDiff, nl_0, nl_1, nl_4, nl_16, nl_22, no_1, no_1024, pk_mul, nI_add, nm_ck, nI_clamp, nI_ltI, nI_leI, nI_eq, nb_b2, nb_b1, ↓nb_let, nm_z0, nm_z1, nb_II, nb_IR, nb_RI, nb_RR, nm_IL, nm_IQ, nm_RL, nm_RQ, nm_LI, nm_LR, nm_LL, nm_LQ, nm_QI, nm_QR, nm_QL, nm_QQ, nm_rr, nm_ii, nm_eqm, not_false_eq_true, pk_sub, nm_div, nm_shl, nm_shr, nm_ush, nm_or8, nm_or64, nm_or256, nm_m1, nm_m3, nm_m7, nm_m15, nm_m31, nm_m63, nm_m255, nm_m511, nm_m1023, nm_m2047, nm_m65535, Nat.reduceMod, Nat.reducePow, Nat.reduceAdd, Nat.reduceSub, Nat.reduceMul, nm_bo, nm_bi, nm_rc, nm_ic, nm_ri, nm_rl, nm_rq, nm_ql, nm_qi, nm_li, nm_us, nm_uu, nm_cp, nm_sa31, nm_sa7, nm_m127, nm_m2, nm_nz, nm_nzk, nm_eq32, nm_nzf, if_true, if_false, ↓reduceIte, if_pos, if_neg]) (by simp (disch := (first | assumption | decide | omega)) only [df_X16_dup_11, df_X16_dup_53, df_X16_dup_0, df_X16_dup, nm, A15, eq_self, Nat.reduceEqDiff, Nat.reduceLeDiff, nl_0, nl_1, nl_4, nl_12, nl_14, nl_15, nl_16, nl_22, nl_256, no_1, no_1024, pk_mul, nI_add, nm_ck, nI_clamp, nI_ltI, nI_leI, nI_eq, nb_b2, nb_b1, ↓nb_let, nm_z0, nm_z1, nb_II, nb_IR, nb_RI, nb_RR, nm_IL, nm_IQ, nm_RL, nm_RQ, nm_LI, nm_LR, nm_LL, nm_LQ, nm_QI, nm_QR, nm_QL, nm_QQ, nm_rr, nm_ii, nm_eqm, not_false_eq_true, pk_sub, nm_div, nm_shl, nm_shr, nm_ush, nm_or8, nm_or64, nm_or256, nm_m1, nm_m3, nm_m7, nm_m15, nm_m31, nm_m63, nm_m255, nm_m511, nm_m1023, nm_m2047, nm_m65535, Nat.reduceMod, Nat.reducePow, Nat.reduceAdd, Nat.reduceSub, Nat.reduceMul, nm_bo, nm_bi, nm_rc, nm_ic, nm_ri, nm_rl, nm_rq, nm_ql, nm_qi, nm_li, nm_us, nm_uu, nm_cp, nm_sa31, nm_sa7, nm_m127, nm_m2, nm_nz, nm_nzk, nm_eq32, nm_nzf, if_true, if_false, ↓reduceIte, if_pos, if_neg])
