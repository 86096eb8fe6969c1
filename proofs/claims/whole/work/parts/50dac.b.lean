theorem rM_de0 {B : Nat} {M X : St × St} (h : rM B M X) {p : Nat} (hp : p < 16) (h1 : sR X.1 1 p = nI 1) {l op pi fi de : Nat → Int32} (hk : kpL (sR M.2 2) (sR M.2 4) pi fi) (hr : rD l op pi fi de (sR X.1 19) (sR X.1 20) (sR X.1 21) (sR X.1 22) (sR X.1 23) (sR X.1 24) (sR X.1 25)) (hde : ∀ i : Nat, i < p * 16 ∨ p * 16 + 16 ≤ i → de i = sR X.1 14 i) : rM B (M.1, dU M.2 l op pi fi) (pR X.1 14 de, X.2) := by
  have := rM_de h hp h1 hk hr hde (fun _ _ e => e) (fun _ _ e => e)
  rw [show pR (pR X.1 14 de) 19 (sR X.1 19) = pR X.1 14 de from nm_r0 (pR X.1 14 de) 19, show pR (pR X.1 14 de) 23 (sR X.1 23) = pR X.1 14 de from nm_r0 (pR X.1 14 de) 23, show pR (pR X.1 14 de) 24 (sR X.1 24) = pR X.1 14 de from nm_r0 (pR X.1 14 de) 24] at this
  exact this
theorem nk_linkTo (n : Nat) {D : St} {p e o c : Nat} (hp : p < 16) (he : e < 16) (ho : o < 48) (hc : c < 2 ^ 30) (ec : sR D 1 (o * 5 + 1) = nI c) : df_X10_linkTo n (nI p) (nI e) (nI o) D = some (dU D (upd (sR D 0) (p * 16 + e) (nI (o + 1))) (upd (sR D 1) (o * 5 + 1) (nI (c + 1))) (sR D 2) (sR D 4)) := by
  have u1 : p * 16 + e < 256 := by omega
  have u2 : p * 16 + e < 2 ^ 31 := by omega
  have u3 : o * 5 + 1 < 240 := by omega
  have u4 : o * 5 + 1 < 2 ^ 31 := by omega
  unfold dU
  rw [show pR (pR (pR D 0 (upd (sR D 0) (p * 16 + e) (nI (o + 1)))) 1 (upd (sR D 1) (o * 5 + 1) (nI (c + 1)))) 2 (sR D 2) = pR (pR D 0 (upd (sR D 0) (p * 16 + e) (nI (o + 1)))) 1 (upd (sR D 1) (o * 5 + 1) (nI (c + 1))) from nm_r0 (pR (pR D 0 (upd (sR D 0) (p * 16 + e) (nI (o + 1)))) 1 (upd (sR D 1) (o * 5 + 1) (nI (c + 1)))) 2, show pR (pR (pR D 0 (upd (sR D 0) (p * 16 + e) (nI (o + 1)))) 1 (upd (sR D 1) (o * 5 + 1) (nI (c + 1)))) 4 (sR D 4) = pR (pR D 0 (upd (sR D 0) (p * 16 + e) (nI (o + 1)))) 1 (upd (sR D 1) (o * 5 + 1) (nI (c + 1))) from nm_r0 (pR (pR D 0 (upd (sR D 0) (p * 16 + e) (nI (o + 1)))) 1 (upd (sR D 1) (o * 5 + 1) (nI (c + 1)))) 4]
  simp (disch := (first | assumption | decide | omega)) only [df_X10_linkTo_0, df_X10_linkTo, ec, eq_self, Nat.reduceEqDiff, Nat.reduceLeDiff, nl_0, nl_1, nl_5, nl_16, nl_240, nl_256, no_1, no_1024, pk_mul, nI_add, nm_ck, nI_clamp, nI_ltI, nI_leI, nI_eq, nb_b2, nb_b1, ↓nb_let, nm_z0, nm_z1, nb_II, nb_IR, nb_RI, nb_RR, nm_IL, nm_IQ, nm_RL, nm_RQ, nm_LI, nm_LR, nm_LL, nm_LQ, nm_QI, nm_QR, nm_QL, nm_QQ, nm_rr, nm_ii, nm_eqm, not_false_eq_true, pk_sub, nm_div, nm_shl, nm_shr, nm_ush, nm_or8, nm_or64, nm_or256, nm_m1, nm_m3, nm_m7, nm_m15, nm_m31, nm_m63, nm_m255, nm_m511, nm_m1023, nm_m2047, nm_m65535, Nat.reduceMod, Nat.reducePow, Nat.reduceAdd, Nat.reduceSub, Nat.reduceMul, nm_bo, nm_bi, nm_rc, nm_ic, nm_ri, nm_rl, nm_rq, nm_ql, nm_qi, nm_li, nm_us, nm_uu, nm_cp, nm_sa31, nm_sa7, nm_m127, nm_m2, nm_nz, nm_nzk, nm_eq32, nm_nzf, if_true, if_false, ↓reduceIte, if_pos, if_neg]
theorem rD_c {l op pi fi de kd th po rt ip isf nam : Nat → Int32} (h : rD l op pi fi de kd th po rt ip isf nam) {o : Nat} (ho : o < 48) (hk : ¬ kd o = nI 0) : op (o * 5 + 1) = nI (cD de o) := by
  rcases h.2.1 o ho with ⟨z1, _⟩ | ⟨k, t, y1, y2, y3, y4, y5, y6, _⟩
  · exact absurd z1 hk
  · exact y6
/-- 'dup' to another descriptor -/
theorem dup_1 (n : Nat) (hn : 1024 < n) {B p : Nat} {K : St × (St × (St × St))} {X : St × St} (h : cP B p K X) {d o e : Nat} (hd : d < 16) (ho : o < 48) (he : e < 16) (hne : e ≠ d) (ed : sR X.1 14 (p * 16 + d) = nI o) (kn : ¬ sR X.1 19 o = nI 0) : cO B p K X (nd_b1 (df_X10_close n (nI p) (nI e) K.2.2.2) (fun s => nd_b1 (df_X10_linkTo n (nI p) (nI e) (nI o) s) (fun s => some ((nI e).toInt64, (K.1, (K.2.1, (K.2.2.1, s))))))) (nd_b1 (df_X16_sweep n (pR X.1 14 (upd (sR X.1 14) (p * 16 + e) (nI o)), X.2)) (fun s => some (nI e, s))) := by
  obtain ⟨h1, h2, h3, h4, h5, h6, h7⟩ := h
  have m2 := h1.2.1
  obtain ⟨l, op, pi, fi, c1, c2, c3⟩ := nk_close n m2 h2 he
  have i1 : p * 16 + e < 256 := by omega
  have de1 : upd (sR X.1 14) (p * 16 + e) (-nI 1) (p * 16 + d) = nI o := (nm_un (by omega)).trans ed
  have pos : 0 < cD (upd (sR X.1 14) (p * 16 + e) (-nI 1)) o := cN_p (P := fun j => decide (upd (sR X.1 14) (p * 16 + e) (-nI 1) j = nI o)) (i := p * 16 + d) (decide_eq_true de1) (by omega)
  obtain ⟨kk, hkk, ek⟩ := rD_k m2 ho
  have kn1 : ¬ pcw (gk (upd (sR X.1 14) (p * 16 + e) (-nI 1)) (sR X.1 19)) (sR X.1 19) 48 o = nI 0 := by
    rw [pcw_y _ _ ho, gk_is hkk ek, if_neg (by omega), ← ek]
    exact kn
  have lk := rD_link c3 i1 ho nm_us kn1
  rw [nm_uu] at lk
  have cl := cD_le (upd (sR X.1 14) (p * 16 + e) (-nI 1)) o
  have ec := rD_c c3 ho kn1
  have e2 := nk_linkTo n (D := dU K.2.2.2 l op pi fi) h2 he ho (c := cD (upd (sR X.1 14) (p * 16 + e) (-nI 1)) o) (by omega) ec
  rw [dU_dU] at e2
  obtain ⟨q1, q2⟩ := cD_stand (de := upd (sR X.1 14) (p * 16 + e) (-nI 1)) i1 ho nm_us
  rw [nm_uu] at q1 q2
  have sw := nk_sweep n hn (pR X.1 14 (upd (sR X.1 14) (p * 16 + e) (nI o)), X.2)
  have fin := sw_eq m2 lk (fun o' ho' => by
    obtain ⟨k', hk', ek'⟩ := rD_k m2 ho'
    rw [pcw_y _ _ ho', pcw_y _ _ ho', gk_is hk' ek', gk_is hk' ek']
    by_cases c : o' = o
    · subst c
      rw [if_neg (by omega), if_neg (by omega)]
    · rw [q1 o' ho' c])
  rw [c1, nb_b1, e2, nb_b1, sw, nb_b1]
  exact ⟨_, _, K.1, _, _, rfl, rfl, rM_de h1 h2 h5 c2 fin (fun i hi => nm_un (by omega)) (fun k hk e => rD_p m2 (de' := sR X.1 14) hk e) (fun k hk e => rD_f m2 hk e), fun _ => rfl, Or.inl ⟨h4, rfl⟩, ⟨rfl, rfl, rfl, rfl, rfl⟩, Or.inl ⟨h6, h7⟩, fun _ => h5, fun z => absurd (h4.symm.trans z) (by decide)⟩
theorem m1_cases {b : Int32} (h : b < nI 0) (g : ¬ b < -nI 1) : b = -nI 1 := by
  rw [Int32.lt_iff_toInt_lt] at h g
  have e : (-nI 1 : Int32).toInt = -1 := by decide
  have z : (nI 0 : Int32).toInt = 0 := by decide
  exact Int32.toInt_inj.mp (by omega)
/-- the kernel's call 'dup' -/
theorem nq_dup (n : Nat) (hn : 1024 < n) {B p : Nat} {K : St × (St × (St × St))} {X : St × St} (h : cP B p K X) (a b : Int32) : cO B p K X (df_X5_duplicate n (nI p) a b K) (df_X16_dup n a b X) := by
  obtain ⟨h1, h2, h3, h4, h5, h6, h7⟩ := id h
  have m2 := h1.2.1
  have z0 : ¬ (nI 0 : Int32) ≤ -nI 1 := by decide
  have inv : df_X5_duplicate n (nI p) a b K = some (-22, K) → df_X16_dup n a b X = some (-nI 22, X) → cO B p K X (df_X5_duplicate n (nI p) a b K) (df_X16_dup n a b X) := fun e1 e2 => by
    rw [e1, e2]
    exact cO_id h (by decide)
  rcases sg_cases b with ⟨z, _⟩ | ⟨A, hA, z⟩
  · by_cases c : b < -nI 1
    · exact inv (by simp (disch := (first | assumption | decide | omega)) only [df_X5_duplicate_11, df_X5_duplicate_91, df_X5_duplicate_52, df_X5_duplicate_0, df_X5_duplicate, c, eq_self, Nat.reduceEqDiff, Nat.reduceLeDiff, nl_0, nl_1, nl_4, nl_16, nl_22, no_1, no_1024, pk_mul, nI_add, nm_ck, nI_clamp, nI_ltI, nI_leI, nI_eq, nb_b2, nb_b1, ↓nb_let, nm_z0, nm_z1, nb_II, nb_IR, nb_RI, nb_RR, nm_IL, nm_IQ, nm_RL, nm_RQ, nm_LI, nm_LR, nm_LL, nm_LQ, nm_QI, nm_QR, nm_QL, nm_QQ, nm_rr, nm_ii, nm_eqm, not_false_eq_true, pk_sub, nm_div, nm_shl, nm_shr, nm_ush, nm_or8, nm_or64, nm_or256, nm_m1, nm_m3, nm_m7, nm_m15, nm_m31, nm_m63, nm_m255, nm_m511, nm_m1023, nm_m2047, nm_m65535, Nat.reduceMod, Nat.reducePow, Nat.reduceAdd, Nat.reduceSub, Nat.reduceMul, nm_bo, nm_bi, nm_rc, nm_ic, nm_ri, nm_rl, nm_rq, nm_ql, nm_qi, nm_li, nm_us, nm_uu, nm_cp, nm_sa31, nm_sa7, nm_m127, nm_m2, nm_nz, nm_nzk, nm_eq32, nm_nzf, if_true, if_false, ↓reduceIte, if_pos, if_neg]) (by simp (disch := (first | assumption | decide | omega)) only [df_X16_dup_11, df_X16_dup_53, df_X16_dup_0, df_X16_dup, c, eq_self, Nat.reduceEqDiff, Nat.reduceLeDiff, nl_0, nl_1, nl_4, nl_12, nl_14, nl_15, nl_16, nl_22, nl_256, no_1, no_1024, pk_mul, nI_add, nm_ck, nI_clamp, nI_ltI, nI_leI, nI_eq, nb_b2, nb_b1, ↓nb_let, nm_z0, nm_z1, nb_II, nb_IR, nb_RI, nb_RR, nm_IL, nm_IQ, nm_RL, nm_RQ, nm_LI, nm_LR, nm_LL, nm_LQ, nm_QI, nm_QR, nm_QL, nm_QQ, nm_rr, nm_ii, nm_eqm, not_false_eq_true, pk_sub, nm_div, nm_shl, nm_shr, nm_ush, nm_or8, nm_or64, nm_or256, nm_m1, nm_m3, nm_m7, nm_m15, nm_m31, nm_m63, nm_m255, nm_m511, nm_m1023, nm_m2047, nm_m65535, Nat.reduceMod, Nat.reducePow, Nat.reduceAdd, Nat.reduceSub, Nat.reduceMul, nm_bo, nm_bi, nm_rc, nm_ic, nm_ri, nm_rl, nm_rq, nm_ql, nm_qi, nm_li, nm_us, nm_uu, nm_cp, nm_sa31, nm_sa7, nm_m127, nm_m2, nm_nz, nm_nzk, nm_eq32, nm_nzf, if_true, if_false, ↓reduceIte, if_pos, if_neg])
    · have := m1_cases z c
      subst this
      have lm : (-nI 1 : Int32) < nI 16 := by decide
      have lm2 : (-nI 1 : Int32) ≤ nI 15 := by decide
      rcases nk_opening n m2 h2 a with ⟨o1, o2, _⟩ | ⟨d, o, hd, ho, ed, de, kn, o1, o2⟩
      · have e1 : df_X5_duplicate n (nI p) a (-nI 1) K = some (-1, K) := by simp (disch := (first | assumption | decide | omega)) only [df_X5_duplicate_11, df_X5_duplicate_91, df_X5_duplicate_52, df_X5_duplicate_0, df_X5_duplicate, c, lm, o1, z0, eq_self, Nat.reduceEqDiff, Nat.reduceLeDiff, nl_0, nl_1, nl_4, nl_16, nl_22, no_1, no_1024, pk_mul, nI_add, nm_ck, nI_clamp, nI_ltI, nI_leI, nI_eq, nb_b2, nb_b1, ↓nb_let, nm_z0, nm_z1, nb_II, nb_IR, nb_RI, nb_RR, nm_IL, nm_IQ, nm_RL, nm_RQ, nm_LI, nm_LR, nm_LL, nm_LQ, nm_QI, nm_QR, nm_QL, nm_QQ, nm_rr, nm_ii, nm_eqm, not_false_eq_true, pk_sub, nm_div, nm_shl, nm_shr, nm_ush, nm_or8, nm_or64, nm_or256, nm_m1, nm_m3, nm_m7, nm_m15, nm_m31, nm_m63, nm_m255, nm_m511, nm_m1023, nm_m2047, nm_m65535, Nat.reduceMod, Nat.reducePow, Nat.reduceAdd, Nat.reduceSub, Nat.reduceMul, nm_bo, nm_bi, nm_rc, nm_ic, nm_ri, nm_rl, nm_rq, nm_ql, nm_qi, nm_li, nm_us, nm_uu, nm_cp, nm_sa31, nm_sa7, nm_m127, nm_m2, nm_nz, nm_nzk, nm_eq32, nm_nzf, if_true, if_false, ↓reduceIte, if_pos, if_neg]
        have e2 : df_X16_dup n a (-nI 1) X = some (-nI 1, X) := by simp (disch := (first | assumption | decide | omega)) only [df_X16_dup_11, df_X16_dup_53, df_X16_dup_0, df_X16_dup, c, lm2, h3, o2, eq_self, Nat.reduceEqDiff, Nat.reduceLeDiff, nl_0, nl_1, nl_4, nl_12, nl_14, nl_15, nl_16, nl_22, nl_256, no_1, no_1024, pk_mul, nI_add, nm_ck, nI_clamp, nI_ltI, nI_leI, nI_eq, nb_b2, nb_b1, ↓nb_let, nm_z0, nm_z1, nb_II, nb_IR, nb_RI, nb_RR, nm_IL, nm_IQ, nm_RL, nm_RQ, nm_LI, nm_LR, nm_LL, nm_LQ, nm_QI, nm_QR, nm_QL, nm_QQ, nm_rr, nm_ii, nm_eqm, not_false_eq_true, pk_sub, nm_div, nm_shl, nm_shr, nm_ush, nm_or8, nm_or64, nm_or256, nm_m1, nm_m3, nm_m7, nm_m15, nm_m31, nm_m63, nm_m255, nm_m511, nm_m1023, nm_m2047, nm_m65535, Nat.reduceMod, Nat.reducePow, Nat.reduceAdd, Nat.reduceSub, Nat.reduceMul, nm_bo, nm_bi, nm_rc, nm_ic, nm_ri, nm_rl, nm_rq, nm_ql, nm_qi, nm_li, nm_us, nm_uu, nm_cp, nm_sa31, nm_sa7, nm_m127, nm_m2, nm_nz, nm_nzk, nm_eq32, nm_nzf, if_true, if_false, ↓reduceIte, if_pos, if_neg]
        rw [e1, e2]
        exact cO_id h (by decide)
      · have fl := nk_freeLink n hn (D := K.2.2.2) (X := X) m2.1 h2 (show 0 ≤ 16 by omega)
        have fr := nk_freeDescriptor n hn h2 h3
        obtain ⟨x1, x2, x3, x4⟩ := fN_le (fd X p) 16 0
        have x3' : fN (fd X p) 0 16 < 16 → sR X.1 14 (p * 16 + fN (fd X p) 0 16) = -nI 1 := fun z => of_decide_eq_true (x3 (by omega))
        have fl : df_X10_freeLink n (nI p) (nI 0) K.2.2.2 = some (cv (fN (fd X p) 0 16), K.2.2.2) := fl
        generalize fN (fd X p) 0 16 = f at fl fr x3'
        have u1 : 0 ≤ o := by omega
        have u2 : o < 2 ^ 31 := by omega
        by_cases f16 : f < 16
        · rw [cv_0 f16] at fl fr
          have ef := x3' f16
          have fne : ¬ f = d := fun y => by
            rw [y, de] at ef
            exact nk_ne (by omega) ef
          have u3 : 0 ≤ f := by omega
          have u4 : f < 2 ^ 31 := by omega
          have u5 : d < 2 ^ 31 := by omega
          have u6 : 16 * p + f = p * 16 + f := by omega
          have u7 : p * 16 + f < 256 := by omega
          have u8 : p * 16 + f < 2 ^ 31 := by omega
          subst ed
          have l0 : sR K.2.2.2 0 (p * 16 + f) = nI 0 := by
            rcases m2.1 (p * 16 + f) u7 with ⟨_, y⟩ | ⟨o', ho', y, _⟩
            · exact y
            · exact absurd (y.symm.trans ef) (nk_ne (by omega))
          have cl0 := nk_close0 n h2 f16 l0
          have cl := cD_le (sR X.1 14) o
          have lt := nk_linkTo n (D := K.2.2.2) h2 f16 ho (c := cD (sR X.1 14) o) (by omega) (rD_c m2 ho kn)
          have lk := rD_link m2 u7 ho ef kn
          refine ⟨(nI f).toInt64, nI f, K.1, _, _, ?_, ?_, rM_de0 h1 h2 h5 (kpL_r _ _) lk (fun i hi => nm_un (by omega)), fun _ => rfl, Or.inl ⟨h4, rfl⟩, ⟨rfl, rfl, rfl, rfl, rfl⟩, Or.inl ⟨h6, h7⟩, fun _ => h5, fun z => absurd (h4.symm.trans z) (by decide)⟩
          · simp (disch := (first | assumption | decide | omega)) only [df_X5_duplicate_11, df_X5_duplicate_91, df_X5_duplicate_52, df_X5_duplicate_0, df_X5_duplicate, c, lm, o1, u1, z0, fl, u3, fne, cl0, lt, eq_self, Nat.reduceEqDiff, Nat.reduceLeDiff, nl_0, nl_1, nl_4, nl_16, nl_22, no_1, no_1024, pk_mul, nI_add, nm_ck, nI_clamp, nI_ltI, nI_leI, nI_eq, nb_b2, nb_b1, ↓nb_let, nm_z0, nm_z1, nb_II, nb_IR, nb_RI, nb_RR, nm_IL, nm_IQ, nm_RL, nm_RQ, nm_LI, nm_LR, nm_LL, nm_LQ, nm_QI, nm_QR, nm_QL, nm_QQ, nm_rr, nm_ii, nm_eqm, not_false_eq_true, pk_sub, nm_div, nm_shl, nm_shr, nm_ush, nm_or8, nm_or64, nm_or256, nm_m1, nm_m3, nm_m7, nm_m15, nm_m31, nm_m63, nm_m255, nm_m511, nm_m1023, nm_m2047, nm_m65535, Nat.reduceMod, Nat.reducePow, Nat.reduceAdd, Nat.reduceSub, Nat.reduceMul, nm_bo, nm_bi, nm_rc, nm_ic, nm_ri, nm_rl, nm_rq, nm_ql, nm_qi, nm_li, nm_us, nm_uu, nm_cp, nm_sa31, nm_sa7, nm_m127, nm_m2, nm_nz, nm_nzk, nm_eq32, nm_nzf, if_true, if_false, ↓reduceIte, if_pos, if_neg]
          · simp (disch := (first | assumption | decide | omega)) only [df_X16_dup_11, df_X16_dup_53, df_X16_dup_0, df_X16_dup, df_X16_give_0, df_X16_give, c, lm2, h3, o2, z0, fr, u6, eq_self, Nat.reduceEqDiff, Nat.reduceLeDiff, nl_0, nl_1, nl_4, nl_12, nl_14, nl_15, nl_16, nl_22, nl_256, no_1, no_1024, pk_mul, nI_add, nm_ck, nI_clamp, nI_ltI, nI_leI, nI_eq, nb_b2, nb_b1, ↓nb_let, nm_z0, nm_z1, nb_II, nb_IR, nb_RI, nb_RR, nm_IL, nm_IQ, nm_RL, nm_RQ, nm_LI, nm_LR, nm_LL, nm_LQ, nm_QI, nm_QR, nm_QL, nm_QQ, nm_rr, nm_ii, nm_eqm, not_false_eq_true, pk_sub, nm_div, nm_shl, nm_shr, nm_ush, nm_or8, nm_or64, nm_or256, nm_m1, nm_m3, nm_m7, nm_m15, nm_m31, nm_m63, nm_m255, nm_m511, nm_m1023, nm_m2047, nm_m65535, Nat.reduceMod, Nat.reducePow, Nat.reduceAdd, Nat.reduceSub, Nat.reduceMul, nm_bo, nm_bi, nm_rc, nm_ic, nm_ri, nm_rl, nm_rq, nm_ql, nm_qi, nm_li, nm_us, nm_uu, nm_cp, nm_sa31, nm_sa7, nm_m127, nm_m2, nm_nz, nm_nzk, nm_eq32, nm_nzf, if_true, if_false, ↓reduceIte, if_pos, if_neg]
        · rw [cv_1 f16] at fl fr
          have e1 : df_X5_duplicate n (nI p) a (-nI 1) K = some (-4, K) := by simp (disch := (first | assumption | decide | omega)) only [df_X5_duplicate_11, df_X5_duplicate_91, df_X5_duplicate_52, df_X5_duplicate_0, df_X5_duplicate, c, lm, o1, u1, z0, fl, eq_self, Nat.reduceEqDiff, Nat.reduceLeDiff, nl_0, nl_1, nl_4, nl_16, nl_22, no_1, no_1024, pk_mul, nI_add, nm_ck, nI_clamp, nI_ltI, nI_leI, nI_eq, nb_b2, nb_b1, ↓nb_let, nm_z0, nm_z1, nb_II, nb_IR, nb_RI, nb_RR, nm_IL, nm_IQ, nm_RL, nm_RQ, nm_LI, nm_LR, nm_LL, nm_LQ, nm_QI, nm_QR, nm_QL, nm_QQ, nm_rr, nm_ii, nm_eqm, not_false_eq_true, pk_sub, nm_div, nm_shl, nm_shr, nm_ush, nm_or8, nm_or64, nm_or256, nm_m1, nm_m3, nm_m7, nm_m15, nm_m31, nm_m63, nm_m255, nm_m511, nm_m1023, nm_m2047, nm_m65535, Nat.reduceMod, Nat.reducePow, Nat.reduceAdd, Nat.reduceSub, Nat.reduceMul, nm_bo, nm_bi, nm_rc, nm_ic, nm_ri, nm_rl, nm_rq, nm_ql, nm_qi, nm_li, nm_us, nm_uu, nm_cp, nm_sa31, nm_sa7, nm_m127, nm_m2, nm_nz, nm_nzk, nm_eq32, nm_nzf, if_true, if_false, ↓reduceIte, if_pos, if_neg]
          have e2 : df_X16_dup n a (-nI 1) X = some (-nI 4, X) := by simp (disch := (first | assumption | decide | omega)) only [df_X16_dup_11, df_X16_dup_53, df_X16_dup_0, df_X16_dup, c, lm2, h3, o2, z0, fr, eq_self, Nat.reduceEqDiff, Nat.reduceLeDiff, nl_0, nl_1, nl_4, nl_12, nl_14, nl_15, nl_16, nl_22, nl_256, no_1, no_1024, pk_mul, nI_add, nm_ck, nI_clamp, nI_ltI, nI_leI, nI_eq, nb_b2, nb_b1, ↓nb_let, nm_z0, nm_z1, nb_II, nb_IR, nb_RI, nb_RR, nm_IL, nm_IQ, nm_RL, nm_RQ, nm_LI, nm_LR, nm_LL, nm_LQ, nm_QI, nm_QR, nm_QL, nm_QQ, nm_rr, nm_ii, nm_eqm, not_false_eq_true, pk_sub, nm_div, nm_shl, nm_shr, nm_ush, nm_or8, nm_or64, nm_or256, nm_m1, nm_m3, nm_m7, nm_m15, nm_m31, nm_m63, nm_m255, nm_m511, nm_m1023, nm_m2047, nm_m65535, Nat.reduceMod, Nat.reducePow, Nat.reduceAdd, Nat.reduceSub, Nat.reduceMul, nm_bo, nm_bi, nm_rc, nm_ic, nm_ri, nm_rl, nm_rq, nm_ql, nm_qi, nm_li, nm_us, nm_uu, nm_cp, nm_sa31, nm_sa7, nm_m127, nm_m2, nm_nz, nm_nzk, nm_eq32, nm_nzf, if_true, if_false, ↓reduceIte, if_pos, if_neg]
          rw [e1, e2]
          exact cO_id h (by decide)
  · subst z
    have nm : ¬ nI A < -nI 1 := by
      rw [Int32.lt_iff_toInt_lt, nI_toInt hA, show (-nI 1 : Int32).toInt = -1 by decide]
      omega
    by_cases A16 : A < 16
    · have A15 : A ≤ 15 := by omega
      have u0 : 0 ≤ A := by omega
      rcases nk_opening n m2 h2 a with ⟨o1, o2, _⟩ | ⟨d, o, hd, ho, ed, de, kn, o1, o2⟩
      · have e1 : df_X5_duplicate n (nI p) a (nI A) K = some (-1, K) := by simp (disch := (first | assumption | decide | omega)) only [df_X5_duplicate_11, df_X5_duplicate_91, df_X5_duplicate_52, df_X5_duplicate_0, df_X5_duplicate, nm, A16, o1, z0, eq_self, Nat.reduceEqDiff, Nat.reduceLeDiff, nl_0, nl_1, nl_4, nl_16, nl_22, no_1, no_1024, pk_mul, nI_add, nm_ck, nI_clamp, nI_ltI, nI_leI, nI_eq, nb_b2, nb_b1, ↓nb_let, nm_z0, nm_z1, nb_II, nb_IR, nb_RI, nb_RR, nm_IL, nm_IQ, nm_RL, nm_RQ, nm_LI, nm_LR, nm_LL, nm_LQ, nm_QI, nm_QR, nm_QL, nm_QQ, nm_rr, nm_ii, nm_eqm, not_false_eq_true, pk_sub, nm_div, nm_shl, nm_shr, nm_ush, nm_or8, nm_or64, nm_or256, nm_m1, nm_m3, nm_m7, nm_m15, nm_m31, nm_m63, nm_m255, nm_m511, nm_m1023, nm_m2047, nm_m65535, Nat.reduceMod, Nat.reducePow, Nat.reduceAdd, Nat.reduceSub, Nat.reduceMul, nm_bo, nm_bi, nm_rc, nm_ic, nm_ri, nm_rl, nm_rq, nm_ql, nm_qi, nm_li, nm_us, nm_uu, nm_cp, nm_sa31, nm_sa7, nm_m127, nm_m2, nm_nz, nm_nzk, nm_eq32, nm_nzf, if_true, if_false, ↓reduceIte, if_pos, if_neg]
        have e2 : df_X16_dup n a (nI A) X = some (-nI 1, X) := by simp (disch := (first | assumption | decide | omega)) only [df_X16_dup_11, df_X16_dup_53, df_X16_dup_0, df_X16_dup, nm, A15, h3, o2, eq_self, Nat.reduceEqDiff, Nat.reduceLeDiff, nl_0, nl_1, nl_4, nl_12, nl_14, nl_15, nl_16, nl_22, nl_256, no_1, no_1024, pk_mul, nI_add, nm_ck, nI_clamp, nI_ltI, nI_leI, nI_eq, nb_b2, nb_b1, ↓nb_let, nm_z0, nm_z1, nb_II, nb_IR, nb_RI, nb_RR, nm_IL, nm_IQ, nm_RL, nm_RQ, nm_LI, nm_LR, nm_LL, nm_LQ, nm_QI, nm_QR, nm_QL, nm_QQ, nm_rr, nm_ii, nm_eqm, not_false_eq_true, pk_sub, nm_div, nm_shl, nm_shr, nm_ush, nm_or8, nm_or64, nm_or256, nm_m1, nm_m3, nm_m7, nm_m15, nm_m31, nm_m63, nm_m255, nm_m511, nm_m1023, nm_m2047, nm_m65535, Nat.reduceMod, Nat.reducePow, Nat.reduceAdd, Nat.reduceSub, Nat.reduceMul, nm_bo, nm_bi, nm_rc, nm_ic, nm_ri, nm_rl, nm_rq, nm_ql, nm_qi, nm_li, nm_us, nm_uu, nm_cp, nm_sa31, nm_sa7, nm_m127, nm_m2, nm_nz, nm_nzk, nm_eq32, nm_nzf, if_true, if_false, ↓reduceIte, if_pos, if_neg]
        rw [e1, e2]
        exact cO_id h (by decide)
      · subst ed
        have u1 : 0 ≤ o := by omega
        have u2 : o < 2 ^ 31 := by omega
        have u5 : d < 2 ^ 31 := by omega
        have u6 : 16 * p + A = p * 16 + A := by omega
        have u7 : p * 16 + A < 256 := by omega
        have u8 : p * 16 + A < 2 ^ 31 := by omega
        by_cases Ad : A = d
        · subst Ad
          have sw := nk_sweep n hn (pR X.1 14 (upd (sR X.1 14) (p * 16 + A) (nI o)), X.2)
          have eu : upd (sR X.1 14) (p * 16 + A) (nI o) = sR X.1 14 := by rw [← de, nm_u0]
          have fin := rM_de h1 h2 h5 (kpL_r _ _) (rD_sweep m2) (fun _ _ => rfl) (fun k hk e => rD_p m2 (de' := sR X.1 14) hk e) (fun k hk e => rD_f m2 hk e)
          rw [dU_id] at fin
          refine ⟨(nI A).toInt64, nI A, K.1, K.2.2, _, ?_, ?_, fin, fun _ => rfl, Or.inl ⟨h4, rfl⟩, ⟨rfl, rfl, rfl, rfl, rfl⟩, Or.inl ⟨h6, h7⟩, fun _ => h5, fun z => absurd (h4.symm.trans z) (by decide)⟩
          · simp (disch := (first | assumption | decide | omega)) only [df_X5_duplicate_11, df_X5_duplicate_91, df_X5_duplicate_52, df_X5_duplicate_0, df_X5_duplicate, nm, A16, o1, u1, u0, eq_self, Nat.reduceEqDiff, Nat.reduceLeDiff, nl_0, nl_1, nl_4, nl_16, nl_22, no_1, no_1024, pk_mul, nI_add, nm_ck, nI_clamp, nI_ltI, nI_leI, nI_eq, nb_b2, nb_b1, ↓nb_let, nm_z0, nm_z1, nb_II, nb_IR, nb_RI, nb_RR, nm_IL, nm_IQ, nm_RL, nm_RQ, nm_LI, nm_LR, nm_LL, nm_LQ, nm_QI, nm_QR, nm_QL, nm_QQ, nm_rr, nm_ii, nm_eqm, not_false_eq_true, pk_sub, nm_div, nm_shl, nm_shr, nm_ush, nm_or8, nm_or64, nm_or256, nm_m1, nm_m3, nm_m7, nm_m15, nm_m31, nm_m63, nm_m255, nm_m511, nm_m1023, nm_m2047, nm_m65535, Nat.reduceMod, Nat.reducePow, Nat.reduceAdd, Nat.reduceSub, Nat.reduceMul, nm_bo, nm_bi, nm_rc, nm_ic, nm_ri, nm_rl, nm_rq, nm_ql, nm_qi, nm_li, nm_us, nm_uu, nm_cp, nm_sa31, nm_sa7, nm_m127, nm_m2, nm_nz, nm_nzk, nm_eq32, nm_nzf, if_true, if_false, ↓reduceIte, if_pos, if_neg]
          · rw [eu] at sw
            simp (disch := (first | assumption | decide | omega)) only [df_X16_dup_11, df_X16_dup_53, df_X16_dup_0, df_X16_dup, nm, A15, h3, o2, u0, u6, eu, sw, eq_self, Nat.reduceEqDiff, Nat.reduceLeDiff, nl_0, nl_1, nl_4, nl_12, nl_14, nl_15, nl_16, nl_22, nl_256, no_1, no_1024, pk_mul, nI_add, nm_ck, nI_clamp, nI_ltI, nI_leI, nI_eq, nb_b2, nb_b1, ↓nb_let, nm_z0, nm_z1, nb_II, nb_IR, nb_RI, nb_RR, nm_IL, nm_IQ, nm_RL, nm_RQ, nm_LI, nm_LR, nm_LL, nm_LQ, nm_QI, nm_QR, nm_QL, nm_QQ, nm_rr, nm_ii, nm_eqm, not_false_eq_true, pk_sub, nm_div, nm_shl, nm_shr, nm_ush, nm_or8, nm_or64, nm_or256, nm_m1, nm_m3, nm_m7, nm_m15, nm_m31, nm_m63, nm_m255, nm_m511, nm_m1023, nm_m2047, nm_m65535, Nat.reduceMod, Nat.reducePow, Nat.reduceAdd, Nat.reduceSub, Nat.reduceMul, nm_bo, nm_bi, nm_rc, nm_ic, nm_ri, nm_rl, nm_rq, nm_ql, nm_qi, nm_li, nm_us, nm_uu, nm_cp, nm_sa31, nm_sa7, nm_m127, nm_m2, nm_nz, nm_nzk, nm_eq32, nm_nzf, if_true, if_false, ↓reduceIte, if_pos, if_neg]
        · have e1 : df_X5_duplicate n (nI p) (nI d) (nI A) K = (nd_b1 (df_X10_close n (nI p) (nI A) K.2.2.2) (fun s => nd_b1 (df_X10_linkTo n (nI p) (nI A) (nI o) s) (fun s => some ((nI A).toInt64, (K.1, (K.2.1, (K.2.2.1, s))))))) := by
            simp (disch := (first | assumption | decide | omega)) only [df_X5_duplicate_11, df_X5_duplicate_91, df_X5_duplicate_52, df_X5_duplicate_0, df_X5_duplicate, nm, A16, o1, u1, u0, Ad, eq_self, Nat.reduceEqDiff, Nat.reduceLeDiff, nl_0, nl_1, nl_4, nl_16, nl_22, no_1, no_1024, pk_mul, nI_add, nm_ck, nI_clamp, nI_ltI, nI_leI, nI_eq, nb_b2, nb_b1, ↓nb_let, nm_z0, nm_z1, nb_II, nb_IR, nb_RI, nb_RR, nm_IL, nm_IQ, nm_RL, nm_RQ, nm_LI, nm_LR, nm_LL, nm_LQ, nm_QI, nm_QR, nm_QL, nm_QQ, nm_rr, nm_ii, nm_eqm, not_false_eq_true, pk_sub, nm_div, nm_shl, nm_shr, nm_ush, nm_or8, nm_or64, nm_or256, nm_m1, nm_m3, nm_m7, nm_m15, nm_m31, nm_m63, nm_m255, nm_m511, nm_m1023, nm_m2047, nm_m65535, Nat.reduceMod, Nat.reducePow, Nat.reduceAdd, Nat.reduceSub, Nat.reduceMul, nm_bo, nm_bi, nm_rc, nm_ic, nm_ri, nm_rl, nm_rq, nm_ql, nm_qi, nm_li, nm_us, nm_uu, nm_cp, nm_sa31, nm_sa7, nm_m127, nm_m2, nm_nz, nm_nzk, nm_eq32, nm_nzf, if_true, if_false, ↓reduceIte, if_pos, if_neg]
          have e2 : df_X16_dup n (nI d) (nI A) X = (nd_b1 (df_X16_sweep n (pR X.1 14 (upd (sR X.1 14) (p * 16 + A) (nI o)), X.2)) (fun s => some (nI A, s))) := by
            simp (disch := (first | assumption | decide | omega)) only [df_X16_dup_11, df_X16_dup_53, df_X16_dup_0, df_X16_dup, nm, A15, h3, o2, u0, u6, eq_self, Nat.reduceEqDiff, Nat.reduceLeDiff, nl_0, nl_1, nl_4, nl_12, nl_14, nl_15, nl_16, nl_22, nl_256, no_1, no_1024, pk_mul, nI_add, nm_ck, nI_clamp, nI_ltI, nI_leI, nI_eq, nb_b2, nb_b1, ↓nb_let, nm_z0, nm_z1, nb_II, nb_IR, nb_RI, nb_RR, nm_IL, nm_IQ, nm_RL, nm_RQ, nm_LI, nm_LR, nm_LL, nm_LQ, nm_QI, nm_QR, nm_QL, nm_QQ, nm_rr, nm_ii, nm_eqm, not_false_eq_true, pk_sub, nm_div, nm_shl, nm_shr, nm_ush, nm_or8, nm_or64, nm_or256, nm_m1, nm_m3, nm_m7, nm_m15, nm_m31, nm_m63, nm_m255, nm_m511, nm_m1023, nm_m2047, nm_m65535, Nat.reduceMod, Nat.reducePow, Nat.reduceAdd, Nat.reduceSub, Nat.reduceMul, nm_bo, nm_bi, nm_rc, nm_ic, nm_ri, nm_rl, nm_rq, nm_ql, nm_qi, nm_li, nm_us, nm_uu, nm_cp, nm_sa31, nm_sa7, nm_m127, nm_m2, nm_nz, nm_nzk, nm_eq32, nm_nzf, if_true, if_false, ↓reduceIte, if_pos, if_neg]
          rw [e1, e2]
          exact dup_1 n hn h hd ho A16 Ad de kn
    · have A15 : ¬ A ≤ 15 := by omega
      exact inv (by simp (disch := (first | assumption | decide | omega)) only [df_X5_duplicate_11, df_X5_duplicate_91, df_X5_duplicate_52, df_X5_duplicate_0, df_X5_duplicate, nm, A16, eq_self, Nat.reduceEqDiff, Nat.reduceLeDiff, nl_0, nl_1, nl_4, nl_16, nl_22, no_1, no_1024, pk_mul, nI_add, nm_ck, nI_clamp, nI_ltI, nI_leI, nI_eq, nb_b2, nb_b1, ↓nb_let, nm_z0, nm_z1, nb_II, nb_IR, nb_RI, nb_RR, nm_IL, nm_IQ, nm_RL, nm_RQ, nm_LI, nm_LR, nm_LL, nm_LQ, nm_QI, nm_QR, nm_QL, nm_QQ, nm_rr, nm_ii, nm_eqm, not_false_eq_true, pk_sub, nm_div, nm_shl, nm_shr, nm_ush, nm_or8, nm_or64, nm_or256, nm_m1, nm_m3, nm_m7, nm_m15, nm_m31, nm_m63, nm_m255, nm_m511, nm_m1023, nm_m2047, nm_m65535, Nat.reduceMod, Nat.reducePow, Nat.reduceAdd, Nat.reduceSub, Nat.reduceMul, nm_bo, nm_bi, nm_rc, nm_ic, nm_ri, nm_rl, nm_rq, nm_ql, nm_qi, nm_li, nm_us, nm_uu, nm_cp, nm_sa31, nm_sa7, nm_m127, nm_m2, nm_nz, nm_nzk, nm_eq32, nm_nzf, if_true, if_false, ↓reduceIte, if_pos, if_neg]) (by simp (disch := (first | assumption | decide | omega)) only [df_X16_dup_11, df_X16_dup_53, df_X16_dup_0, df_X16_dup, nm, A15, eq_self, Nat.reduceEqDiff, Nat.reduceLeDiff, nl_0, nl_1, nl_4, nl_12, nl_14, nl_15, nl_16, nl_22, nl_256, no_1, no_1024, pk_mul, nI_add, nm_ck, nI_clamp, nI_ltI, nI_leI, nI_eq, nb_b2, nb_b1, ↓nb_let, nm_z0, nm_z1, nb_II, nb_IR, nb_RI, nb_RR, nm_IL, nm_IQ, nm_RL, nm_RQ, nm_LI, nm_LR, nm_LL, nm_LQ, nm_QI, nm_QR, nm_QL, nm_QQ, nm_rr, nm_ii, nm_eqm, not_false_eq_true, pk_sub, nm_div, nm_shl, nm_shr, nm_ush, nm_or8, nm_or64, nm_or256, nm_m1, nm_m3, nm_m7, nm_m15, nm_m31, nm_m63, nm_m255, nm_m511, nm_m1023, nm_m2047, nm_m65535, Nat.reduceMod, Nat.reducePow, Nat.reduceAdd, Nat.reduceSub, Nat.reduceMul, nm_bo, nm_bi, nm_rc, nm_ic, nm_ri, nm_rl, nm_rq, nm_ql, nm_qi, nm_li, nm_us, nm_uu, nm_cp, nm_sa31, nm_sa7, nm_m127, nm_m2, nm_nz, nm_nzk, nm_eq32, nm_nzf, if_true, if_false, ↓reduceIte, if_pos, if_neg])

theorem lc_0 (z : Int64) : lg_cmp z 0 < nI 0 ↔ z.toInt < 0 := by
  have e0 : (0 : Int64).toInt = 0 := by decide
  unfold lg_cmp
  by_cases c : (0 : Int64) < z
  · rw [if_pos c]
    rw [Int64.lt_iff_toInt_lt] at c
    exact ⟨fun y => absurd y (by decide), fun y => by omega⟩
  · rw [if_neg c]
    rw [Int64.lt_iff_toInt_lt] at c
    by_cases d : z = 0
    · rw [if_pos d, d]
      exact ⟨fun y => absurd y (by decide), fun y => absurd y (by decide)⟩
    · rw [if_neg d]
      have : z.toInt ≠ 0 := fun y => d (Int64.toInt_inj.mp (by omega))
      exact ⟨fun _ => by omega, fun _ => by decide⟩
theorem lc_512 (z : Int64) : lg_cmp z 512 ≤ nI 0 ↔ z.toInt ≤ 512 := by
  have e0 : (512 : Int64).toInt = 512 := by decide
  unfold lg_cmp
  by_cases c : (512 : Int64) < z
  · rw [if_pos c]
    rw [Int64.lt_iff_toInt_lt] at c
    exact ⟨fun y => absurd y (by decide), fun y => by omega⟩
  · rw [if_neg c]
    rw [Int64.lt_iff_toInt_lt] at c
    by_cases d : z = 512
    · rw [if_pos d, d]
      exact ⟨fun y => by decide, fun y => by decide⟩
    · rw [if_neg d]
      exact ⟨fun _ => by omega, fun _ => by decide⟩
theorem lc_sm {z : Int64} (h0 : ¬ z.toInt < 0) (h1 : z.toInt ≤ 512) : ∃ k : Nat, k ≤ 512 ∧ z.toInt32 = nI k ∧ z = z.toInt32.toInt64 := by
  have e : z.toInt32.toInt = z.toInt := by
    rw [Int64.toInt_toInt32]
    exact Int.bmod_eq_of_le (by omega) (by omega)
  refine ⟨z.toInt.toNat, by omega, ?_, ?_⟩
  · apply Int32.toInt_inj.mp
    rw [e, nI_toInt (by omega)]
    omega
  · apply Int64.toInt_inj.mp
    rw [Int32.toInt_toInt64, e]
theorem rD_seek {l op pi fi de kd th po rt ip isf nam : Nat → Int32} (h : rD l op pi fi de kd th po rt ip isf nam) {o x : Nat} (ho : o < 48) (hx : x ≤ 512) (hk : kd o = nI 3) : rD l (upd op (o * 5 + 3) (nI x)) pi fi de kd th (upd po o (nI x)) rt ip isf nam := by
  obtain ⟨h1, h2, h3, h4⟩ := h
  refine ⟨h1, fun j hj => ?_, h3, h4⟩
  rw [nm_un (show j * 5 ≠ o * 5 + 3 by omega), nm_un (show j * 5 + 1 ≠ o * 5 + 3 by omega), nm_un (show j * 5 + 2 ≠ o * 5 + 3 by omega), nm_un (show j * 5 + 4 ≠ o * 5 + 3 by omega)]
  by_cases c : j = o
  · subst c
    rcases h2 j hj with z | ⟨k, t, y1, y2, y3, y4, y5, y6, y7, y8, y9, y10, y11, y12, y13, y14, y15⟩
    · exact Or.inl z
    · right
      have k3 : k = 3 := nm_inI (by omega) (by omega) (y4.symm.trans hk)
      rw [nm_us, nm_us]
      exact ⟨k, t, y1, y2, y3, y4, y5, y6, y7, y8, y9, y10, y11, fun _ => rfl, fun z => absurd k3 z, y14, fun _ => ⟨x, hx, rfl⟩⟩
  · rw [nm_un (show j * 5 + 3 ≠ o * 5 + 3 by omega), nm_un c]
    exact h2 j hj
/-- the kernel's call 'seek' -/
theorem nq_seek (n : Nat) {B p : Nat} {K : St × (St × (St × St))} {X : St × St} (h : cP B p K X) (a b c : Int32) : cO B p K X (df_X5_seek n (nI p) a b c K) (df_X16_seek n a b c X) := by
  obtain ⟨h1, h2, h3, h4, h5, h6, h7⟩ := id h
  obtain ⟨m1, m2, m3, m4, m5, m6, m7⟩ := id h1
  have inv : df_X5_seek n (nI p) a b c K = some (-22, K) → df_X16_seek n a b c X = some (-nI 22, X) → cO B p K X (df_X5_seek n (nI p) a b c K) (df_X16_seek n a b c X) := fun e1 e2 => by
    rw [e1, e2]
    exact cO_id h (by decide)
  have bad : df_X5_seek n (nI p) a b c K = some (-1, K) → df_X16_seek n a b c X = some (-nI 1, X) → cO B p K X (df_X5_seek n (nI p) a b c K) (df_X16_seek n a b c X) := fun e1 e2 => by
    rw [e1, e2]
    exact cO_id h (by decide)
  rcases sg_cases c with ⟨z, _⟩ | ⟨A, hA, z⟩
  · exact inv (by simp (disch := (first | assumption | decide | omega)) only [df_X5_seek_11, df_X5_seek_45, df_X5_seek_109, df_X5_seek_93, df_X5_seek_90, df_X5_seek_0, df_X5_seek, z, eq_self, Nat.reduceEqDiff, Nat.reduceLeDiff, nl_0, nl_1, nl_2, nl_3, nl_22, nl_512, no_1, no_1024, pk_mul, nI_add, nm_ck, nI_clamp, nI_ltI, nI_leI, nI_eq, nb_b2, nb_b1, ↓nb_let, nm_z0, nm_z1, nb_II, nb_IR, nb_RI, nb_RR, nm_IL, nm_IQ, nm_RL, nm_RQ, nm_LI, nm_LR, nm_LL, nm_LQ, nm_QI, nm_QR, nm_QL, nm_QQ, nm_rr, nm_ii, nm_eqm, not_false_eq_true, pk_sub, nm_div, nm_shl, nm_shr, nm_ush, nm_or8, nm_or64, nm_or256, nm_m1, nm_m3, nm_m7, nm_m15, nm_m31, nm_m63, nm_m255, nm_m511, nm_m1023, nm_m2047, nm_m65535, Nat.reduceMod, Nat.reducePow, Nat.reduceAdd, Nat.reduceSub, Nat.reduceMul, nm_bo, nm_bi, nm_rc, nm_ic, nm_ri, nm_rl, nm_rq, nm_ql, nm_qi, nm_li, nm_us, nm_uu, nm_cp, nm_sa31, nm_sa7, nm_m127, nm_m2, nm_nz, nm_nzk, nm_eq32, nm_nzf, if_true, if_false, ↓reduceIte, if_pos, if_neg]) (by simp (disch := (first | assumption | decide | omega)) only [df_X16_seek_9, df_X16_seek_40, df_X16_seek_100, df_X16_seek_79, df_X16_seek_0, df_X16_seek, z, eq_self, Nat.reduceEqDiff, Nat.reduceLeDiff, nl_0, nl_1, nl_2, nl_3, nl_12, nl_16, nl_19, nl_20, nl_21, nl_22, nl_28, nl_48, nl_512, no_1, no_1024, pk_mul, nI_add, nm_ck, nI_clamp, nI_ltI, nI_leI, nI_eq, nb_b2, nb_b1, ↓nb_let, nm_z0, nm_z1, nb_II, nb_IR, nb_RI, nb_RR, nm_IL, nm_IQ, nm_RL, nm_RQ, nm_LI, nm_LR, nm_LL, nm_LQ, nm_QI, nm_QR, nm_QL, nm_QQ, nm_rr, nm_ii, nm_eqm, not_false_eq_true, pk_sub, nm_div, nm_shl, nm_shr, nm_ush, nm_or8, nm_or64, nm_or256, nm_m1, nm_m3, nm_m7, nm_m15, nm_m31, nm_m63, nm_m255, nm_m511, nm_m1023, nm_m2047, nm_m65535, Nat.reduceMod, Nat.reducePow, Nat.reduceAdd, Nat.reduceSub, Nat.reduceMul, nm_bo, nm_bi, nm_rc, nm_ic, nm_ri, nm_rl, nm_rq, nm_ql, nm_qi, nm_li, nm_us, nm_uu, nm_cp, nm_sa31, nm_sa7, nm_m127, nm_m2, nm_nz, nm_nzk, nm_eq32, nm_nzf, if_true, if_false, ↓reduceIte, if_pos, if_neg])
  · subst z
    have A0 : ¬ A < 0 := by omega
    by_cases A2 : A ≤ 2
    · rcases nk_opening n m2 h2 a with ⟨o1, o2, _⟩ | ⟨d, o, hd, ho, ed, de, kn, o1, o2⟩
      · exact bad (by simp (disch := (first | assumption | decide | omega)) only [df_X5_seek_11, df_X5_seek_45, df_X5_seek_109, df_X5_seek_93, df_X5_seek_90, df_X5_seek_0, df_X5_seek, A0, A2, o1, nm_ltm, eq_self, Nat.reduceEqDiff, Nat.reduceLeDiff, nl_0, nl_1, nl_2, nl_3, nl_22, nl_512, no_1, no_1024, pk_mul, nI_add, nm_ck, nI_clamp, nI_ltI, nI_leI, nI_eq, nb_b2, nb_b1, ↓nb_let, nm_z0, nm_z1, nb_II, nb_IR, nb_RI, nb_RR, nm_IL, nm_IQ, nm_RL, nm_RQ, nm_LI, nm_LR, nm_LL, nm_LQ, nm_QI, nm_QR, nm_QL, nm_QQ, nm_rr, nm_ii, nm_eqm, not_false_eq_true, pk_sub, nm_div, nm_shl, nm_shr, nm_ush, nm_or8, nm_or64, nm_or256, nm_m1, nm_m3, nm_m7, nm_m15, nm_m31, nm_m63, nm_m255, nm_m511, nm_m1023, nm_m2047, nm_m65535, Nat.reduceMod, Nat.reducePow, Nat.reduceAdd, Nat.reduceSub, Nat.reduceMul, nm_bo, nm_bi, nm_rc, nm_ic, nm_ri, nm_rl, nm_rq, nm_ql, nm_qi, nm_li, nm_us, nm_uu, nm_cp, nm_sa31, nm_sa7, nm_m127, nm_m2, nm_nz, nm_nzk, nm_eq32, nm_nzf, if_true, if_false, ↓reduceIte, if_pos, if_neg]) (by simp (disch := (first | assumption | decide | omega)) only [df_X16_seek_9, df_X16_seek_40, df_X16_seek_100, df_X16_seek_79, df_X16_seek_0, df_X16_seek, A0, A2, h3, o2, eq_self, Nat.reduceEqDiff, Nat.reduceLeDiff, nl_0, nl_1, nl_2, nl_3, nl_12, nl_16, nl_19, nl_20, nl_21, nl_22, nl_28, nl_48, nl_512, no_1, no_1024, pk_mul, nI_add, nm_ck, nI_clamp, nI_ltI, nI_leI, nI_eq, nb_b2, nb_b1, ↓nb_let, nm_z0, nm_z1, nb_II, nb_IR, nb_RI, nb_RR, nm_IL, nm_IQ, nm_RL, nm_RQ, nm_LI, nm_LR, nm_LL, nm_LQ, nm_QI, nm_QR, nm_QL, nm_QQ, nm_rr, nm_ii, nm_eqm, not_false_eq_true, pk_sub, nm_div, nm_shl, nm_shr, nm_ush, nm_or8, nm_or64, nm_or256, nm_m1, nm_m3, nm_m7, nm_m15, nm_m31, nm_m63, nm_m255, nm_m511, nm_m1023, nm_m2047, nm_m65535, Nat.reduceMod, Nat.reducePow, Nat.reduceAdd, Nat.reduceSub, Nat.reduceMul, nm_bo, nm_bi, nm_rc, nm_ic, nm_ri, nm_rl, nm_rq, nm_ql, nm_qi, nm_li, nm_us, nm_uu, nm_cp, nm_sa31, nm_sa7, nm_m127, nm_m2, nm_nz, nm_nzk, nm_eq32, nm_nzf, if_true, if_false, ↓reduceIte, if_pos, if_neg])
      · have u1 : ¬ o < 0 := by omega
        have u2 : o < 2 ^ 31 := by omega
        have u3 : o * 5 < 240 := by omega
        have u4 : o * 5 < 2 ^ 31 := by omega
        have u5 : o * 5 + 3 < 240 := by omega
        have u6 : o * 5 + 3 < 2 ^ 31 := by omega
        have u7 : o * 5 + 2 < 240 := by omega
        have u8 : o * 5 + 2 < 2 ^ 31 := by omega
        rcases m2.2.1 o ho with ⟨z1, _⟩ | ⟨k, t, y1, y2, y3, y4, y5, y6, y7, y8, y9, y10, y11, y12, y13, y14, y15⟩
        · exact absurd z1 kn
        have u9 : k < 2 ^ 31 := by omega
        by_cases k3 : k = 3
        · subst k3
          have y12 := y12 rfl
          -- the end, with the place z
          have tail : ∀ z : Int64, cO B p K X (df_X5_seek_93 n (nI o) z K) (if lg_cmp z 0 < nI 0 then some (-nI 1, X) else if lg_cmp z 512 ≤ nI 0 then some (z.toInt32, (pR X.1 21 (upd (sR X.1 21) o z.toInt32), X.2)) else some (-nI 1, X)) := fun z => by
            by_cases c0 : z.toInt < 0
            · have c0' := (lc_0 z).mpr c0
              rw [if_pos c0']
              have e1 : df_X5_seek_93 n (nI o) z K = some (-1, K) := by simp (disch := (first | assumption | decide | omega)) only [df_X5_seek_93, df_X5_seek_109, c0', eq_self, Nat.reduceEqDiff, Nat.reduceLeDiff, nl_0, nl_1, nl_512, no_1, no_1024, pk_mul, nI_add, nm_ck, nI_clamp, nI_ltI, nI_leI, nI_eq, nb_b2, nb_b1, ↓nb_let, nm_z0, nm_z1, nb_II, nb_IR, nb_RI, nb_RR, nm_IL, nm_IQ, nm_RL, nm_RQ, nm_LI, nm_LR, nm_LL, nm_LQ, nm_QI, nm_QR, nm_QL, nm_QQ, nm_rr, nm_ii, nm_eqm, not_false_eq_true, pk_sub, nm_div, nm_shl, nm_shr, nm_ush, nm_or8, nm_or64, nm_or256, nm_m1, nm_m3, nm_m7, nm_m15, nm_m31, nm_m63, nm_m255, nm_m511, nm_m1023, nm_m2047, nm_m65535, Nat.reduceMod, Nat.reducePow, Nat.reduceAdd, Nat.reduceSub, Nat.reduceMul, nm_bo, nm_bi, nm_rc, nm_ic, nm_ri, nm_rl, nm_rq, nm_ql, nm_qi, nm_li, nm_us, nm_uu, nm_cp, nm_sa31, nm_sa7, nm_m127, nm_m2, nm_nz, nm_nzk, nm_eq32, nm_nzf, if_true, if_false, ↓reduceIte, if_pos, if_neg]
              rw [e1]
              exact cO_id h (by decide)
            · have c0' : ¬ lg_cmp z 0 < nI 0 := fun y => c0 ((lc_0 z).mp y)
              rw [if_neg c0']
              by_cases c1 : z.toInt ≤ 512
              · have c1' := (lc_512 z).mpr c1
                rw [if_pos c1']
                obtain ⟨x, hx, x1, x2⟩ := lc_sm c0 c1
                refine ⟨z, z.toInt32, K.1, (K.2.2.1, pR K.2.2.2 1 (upd (sR K.2.2.2 1) (o * 5 + 3) z.toInt32)), _, ?_, rfl, ⟨m1, ?_, m3, m4, m5, m6, m7⟩, fun _ => rfl, Or.inl ⟨h4, x2⟩, ⟨rfl, rfl, rfl, rfl, rfl⟩, Or.inl ⟨h6, h7⟩, fun _ => h5, fun y => absurd (h4.symm.trans y) (by decide)⟩
                · simp (disch := (first | assumption | decide | omega)) only [df_X5_seek_93, df_X10_seek_0, df_X10_seek, c0', c1', eq_self, Nat.reduceEqDiff, Nat.reduceLeDiff, nl_0, nl_1, nl_3, nl_5, nl_240, nl_512, no_1, no_1024, pk_mul, nI_add, nm_ck, nI_clamp, nI_ltI, nI_leI, nI_eq, nb_b2, nb_b1, ↓nb_let, nm_z0, nm_z1, nb_II, nb_IR, nb_RI, nb_RR, nm_IL, nm_IQ, nm_RL, nm_RQ, nm_LI, nm_LR, nm_LL, nm_LQ, nm_QI, nm_QR, nm_QL, nm_QQ, nm_rr, nm_ii, nm_eqm, not_false_eq_true, pk_sub, nm_div, nm_shl, nm_shr, nm_ush, nm_or8, nm_or64, nm_or256, nm_m1, nm_m3, nm_m7, nm_m15, nm_m31, nm_m63, nm_m255, nm_m511, nm_m1023, nm_m2047, nm_m65535, Nat.reduceMod, Nat.reducePow, Nat.reduceAdd, Nat.reduceSub, Nat.reduceMul, nm_bo, nm_bi, nm_rc, nm_ic, nm_ri, nm_rl, nm_rq, nm_ql, nm_qi, nm_li, nm_us, nm_uu, nm_cp, nm_sa31, nm_sa7, nm_m127, nm_m2, nm_nz, nm_nzk, nm_eq32, nm_nzf, if_true, if_false, ↓reduceIte, if_pos, if_neg]
                · rw [x1]
                  exact rD_seek m2 ho hx y4
              · have c1' : ¬ lg_cmp z 512 ≤ nI 0 := fun y => c1 ((lc_512 z).mp y)
                rw [if_neg c1']
                have e1 : df_X5_seek_93 n (nI o) z K = some (-1, K) := by simp (disch := (first | assumption | decide | omega)) only [df_X5_seek_93, df_X5_seek_109, c0', c1', eq_self, Nat.reduceEqDiff, Nat.reduceLeDiff, nl_0, nl_1, nl_512, no_1, no_1024, pk_mul, nI_add, nm_ck, nI_clamp, nI_ltI, nI_leI, nI_eq, nb_b2, nb_b1, ↓nb_let, nm_z0, nm_z1, nb_II, nb_IR, nb_RI, nb_RR, nm_IL, nm_IQ, nm_RL, nm_RQ, nm_LI, nm_LR, nm_LL, nm_LQ, nm_QI, nm_QR, nm_QL, nm_QQ, nm_rr, nm_ii, nm_eqm, not_false_eq_true, pk_sub, nm_div, nm_shl, nm_shr, nm_ush, nm_or8, nm_or64, nm_or256, nm_m1, nm_m3, nm_m7, nm_m15, nm_m31, nm_m63, nm_m255, nm_m511, nm_m1023, nm_m2047, nm_m65535, Nat.reduceMod, Nat.reducePow, Nat.reduceAdd, Nat.reduceSub, Nat.reduceMul, nm_bo, nm_bi, nm_rc, nm_ic, nm_ri, nm_rl, nm_rq, nm_ql, nm_qi, nm_li, nm_us, nm_uu, nm_cp, nm_sa31, nm_sa7, nm_m127, nm_m2, nm_nz, nm_nzk, nm_eq32, nm_nzf, if_true, if_false, ↓reduceIte, if_pos, if_neg]
                rw [e1]
                exact cO_id h (by decide)
          have t16 : t < 2 ^ 31 := by omega
          have ref : ∀ y0 : Int64, df_X16_seek_79 n b (nI o) y0 X = (if lg_cmp (y0 + b.toInt64) 0 < nI 0 then some (-nI 1, X) else if lg_cmp (y0 + b.toInt64) 512 ≤ nI 0 then some ((y0 + b.toInt64).toInt32, (pR X.1 21 (upd (sR X.1 21) o (y0 + b.toInt64).toInt32), X.2)) else some (-nI 1, X)) := fun y0 => by
            simp (disch := (first | assumption | decide | omega)) only [df_X16_seek_79, df_X16_seek_100, eq_self, Nat.reduceEqDiff, Nat.reduceLeDiff, nl_0, nl_1, nl_21, nl_48, nl_512, no_1, no_1024, pk_mul, nI_add, nm_ck, nI_clamp, nI_ltI, nI_leI, nI_eq, nb_b2, nb_b1, ↓nb_let, nm_z0, nm_z1, nb_II, nb_IR, nb_RI, nb_RR, nm_IL, nm_IQ, nm_RL, nm_RQ, nm_LI, nm_LR, nm_LL, nm_LQ, nm_QI, nm_QR, nm_QL, nm_QQ, nm_rr, nm_ii, nm_eqm, not_false_eq_true, pk_sub, nm_div, nm_shl, nm_shr, nm_ush, nm_or8, nm_or64, nm_or256, nm_m1, nm_m3, nm_m7, nm_m15, nm_m31, nm_m63, nm_m255, nm_m511, nm_m1023, nm_m2047, nm_m65535, Nat.reduceMod, Nat.reducePow, Nat.reduceAdd, Nat.reduceSub, Nat.reduceMul, nm_bo, nm_bi, nm_rc, nm_ic, nm_ri, nm_rl, nm_rq, nm_ql, nm_qi, nm_li, nm_us, nm_uu, nm_cp, nm_sa31, nm_sa7, nm_m127, nm_m2, nm_nz, nm_nzk, nm_eq32, nm_nzf, if_true, if_false, ↓reduceIte, if_pos, if_neg]
          have ca : A = 0 ∨ A = 1 ∨ A = 2 := by omega
          rcases ca with e | e | e
          · subst e
            have := tail b.toInt64
            have e1 : df_X5_seek n (nI p) a b (nI 0) K = df_X5_seek_93 n (nI o) b.toInt64 K := by
              simp (disch := (first | assumption | decide | omega)) only [df_X5_seek, df_X5_seek_0, df_X10_of_0, df_X10_of, o1, u1, Nat.add_zero, y5, eq_self, Nat.reduceEqDiff, Nat.reduceLeDiff, nl_0, nl_1, nl_2, nl_3, nl_5, nl_240, no_1, no_1024, pk_mul, nI_add, nm_ck, nI_clamp, nI_ltI, nI_leI, nI_eq, nb_b2, nb_b1, ↓nb_let, nm_z0, nm_z1, nb_II, nb_IR, nb_RI, nb_RR, nm_IL, nm_IQ, nm_RL, nm_RQ, nm_LI, nm_LR, nm_LL, nm_LQ, nm_QI, nm_QR, nm_QL, nm_QQ, nm_rr, nm_ii, nm_eqm, not_false_eq_true, pk_sub, nm_div, nm_shl, nm_shr, nm_ush, nm_or8, nm_or64, nm_or256, nm_m1, nm_m3, nm_m7, nm_m15, nm_m31, nm_m63, nm_m255, nm_m511, nm_m1023, nm_m2047, nm_m65535, Nat.reduceMod, Nat.reducePow, Nat.reduceAdd, Nat.reduceSub, Nat.reduceMul, nm_bo, nm_bi, nm_rc, nm_ic, nm_ri, nm_rl, nm_rq, nm_ql, nm_qi, nm_li, nm_us, nm_uu, nm_cp, nm_sa31, nm_sa7, nm_m127, nm_m2, nm_nz, nm_nzk, nm_eq32, nm_nzf, if_true, if_false, ↓reduceIte, if_pos, if_neg]
            have e2 : df_X16_seek n a b (nI 0) X = df_X16_seek_79 n b (nI o) 0 X := by
              simp (disch := (first | assumption | decide | omega)) only [df_X16_seek, df_X16_seek_0, h3, o2, y4, eq_self, Nat.reduceEqDiff, Nat.reduceLeDiff, nl_0, nl_1, nl_2, nl_3, nl_12, nl_16, nl_19, nl_20, nl_21, nl_28, nl_48, no_1, no_1024, pk_mul, nI_add, nm_ck, nI_clamp, nI_ltI, nI_leI, nI_eq, nb_b2, nb_b1, ↓nb_let, nm_z0, nm_z1, nb_II, nb_IR, nb_RI, nb_RR, nm_IL, nm_IQ, nm_RL, nm_RQ, nm_LI, nm_LR, nm_LL, nm_LQ, nm_QI, nm_QR, nm_QL, nm_QQ, nm_rr, nm_ii, nm_eqm, not_false_eq_true, pk_sub, nm_div, nm_shl, nm_shr, nm_ush, nm_or8, nm_or64, nm_or256, nm_m1, nm_m3, nm_m7, nm_m15, nm_m31, nm_m63, nm_m255, nm_m511, nm_m1023, nm_m2047, nm_m65535, Nat.reduceMod, Nat.reducePow, Nat.reduceAdd, Nat.reduceSub, Nat.reduceMul, nm_bo, nm_bi, nm_rc, nm_ic, nm_ri, nm_rl, nm_rq, nm_ql, nm_qi, nm_li, nm_us, nm_uu, nm_cp, nm_sa31, nm_sa7, nm_m127, nm_m2, nm_nz, nm_nzk, nm_eq32, nm_nzf, if_true, if_false, ↓reduceIte, if_pos, if_neg]
            rw [e1, e2, ref, Int64.zero_add]
            exact this
          · subst e
            have := tail ((sR X.1 21 o).toInt64 + b.toInt64)
            have e1 : df_X5_seek n (nI p) a b (nI 1) K = df_X5_seek_93 n (nI o) ((sR X.1 21 o).toInt64 + b.toInt64) K := by
              rw [Int64.add_comm]
              simp (disch := (first | assumption | decide | omega)) only [df_X5_seek, df_X5_seek_0, df_X5_seek_90, df_X10_of_0, df_X10_of, o1, u1, Nat.add_zero, y5, y12, eq_self, Nat.reduceEqDiff, Nat.reduceLeDiff, nl_0, nl_1, nl_2, nl_3, nl_5, nl_240, no_1, no_1024, pk_mul, nI_add, nm_ck, nI_clamp, nI_ltI, nI_leI, nI_eq, nb_b2, nb_b1, ↓nb_let, nm_z0, nm_z1, nb_II, nb_IR, nb_RI, nb_RR, nm_IL, nm_IQ, nm_RL, nm_RQ, nm_LI, nm_LR, nm_LL, nm_LQ, nm_QI, nm_QR, nm_QL, nm_QQ, nm_rr, nm_ii, nm_eqm, not_false_eq_true, pk_sub, nm_div, nm_shl, nm_shr, nm_ush, nm_or8, nm_or64, nm_or256, nm_m1, nm_m3, nm_m7, nm_m15, nm_m31, nm_m63, nm_m255, nm_m511, nm_m1023, nm_m2047, nm_m65535, Nat.reduceMod, Nat.reducePow, Nat.reduceAdd, Nat.reduceSub, Nat.reduceMul, nm_bo, nm_bi, nm_rc, nm_ic, nm_ri, nm_rl, nm_rq, nm_ql, nm_qi, nm_li, nm_us, nm_uu, nm_cp, nm_sa31, nm_sa7, nm_m127, nm_m2, nm_nz, nm_nzk, nm_eq32, nm_nzf, if_true, if_false, ↓reduceIte, if_pos, if_neg]
            have e2 : df_X16_seek n a b (nI 1) X = df_X16_seek_79 n b (nI o) (sR X.1 21 o).toInt64 X := by
              simp (disch := (first | assumption | decide | omega)) only [df_X16_seek, df_X16_seek_0, h3, o2, y4, eq_self, Nat.reduceEqDiff, Nat.reduceLeDiff, nl_0, nl_1, nl_2, nl_3, nl_12, nl_16, nl_19, nl_20, nl_21, nl_28, nl_48, no_1, no_1024, pk_mul, nI_add, nm_ck, nI_clamp, nI_ltI, nI_leI, nI_eq, nb_b2, nb_b1, ↓nb_let, nm_z0, nm_z1, nb_II, nb_IR, nb_RI, nb_RR, nm_IL, nm_IQ, nm_RL, nm_RQ, nm_LI, nm_LR, nm_LL, nm_LQ, nm_QI, nm_QR, nm_QL, nm_QQ, nm_rr, nm_ii, nm_eqm, not_false_eq_true, pk_sub, nm_div, nm_shl, nm_shr, nm_ush, nm_or8, nm_or64, nm_or256, nm_m1, nm_m3, nm_m7, nm_m15, nm_m31, nm_m63, nm_m255, nm_m511, nm_m1023, nm_m2047, nm_m65535, Nat.reduceMod, Nat.reducePow, Nat.reduceAdd, Nat.reduceSub, Nat.reduceMul, nm_bo, nm_bi, nm_rc, nm_ic, nm_ri, nm_rl, nm_rq, nm_ql, nm_qi, nm_li, nm_us, nm_uu, nm_cp, nm_sa31, nm_sa7, nm_m127, nm_m2, nm_nz, nm_nzk, nm_eq32, nm_nzf, if_true, if_false, ↓reduceIte, if_pos, if_neg]
            rw [e1, e2, ref]
            exact this
          · subst e
            have isf : sR X.1 24 t = nI 1 := by
              have x1 : 0 < cE (sR X.1 19) (sR X.1 20) 3 t := cN_p (P := fun j => decide (sR X.1 19 j = nI 3 ∧ sR X.1 20 j = nI t)) (i := o) (decide_eq_true ⟨y4, y7⟩) ho
              rw [(m2.2.2.2 t y10).2.2.2, decide_eq_true (Or.inr x1)]
              rfl
            obtain ⟨L, hL, l1, l2, _⟩ := m7.2.1 t y10 isf
            have u10 : t * 3 < 48 := by omega
            have u11 : t * 3 < 2 ^ 31 := by omega
            have := tail ((nI L).toInt64 + b.toInt64)
            have e1 : df_X5_seek n (nI p) a b (nI 2) K = df_X5_seek_93 n (nI o) ((nI L).toInt64 + b.toInt64) K := by
              rw [Int64.add_comm]
              simp (disch := (first | assumption | decide | omega)) only [df_X5_seek, df_X5_seek_0, df_X5_seek_90, df_X10_of_0, df_X10_of, df_X10_amount_60, df_X10_amount_0, df_X10_amount, o1, u1, Nat.add_zero, y5, y8, l1, eq_self, Nat.reduceEqDiff, Nat.reduceLeDiff, nl_0, nl_1, nl_2, nl_3, nl_4, nl_5, nl_32, nl_48, nl_240, no_1, no_1024, pk_mul, nI_add, nm_ck, nI_clamp, nI_ltI, nI_leI, nI_eq, nb_b2, nb_b1, ↓nb_let, nm_z0, nm_z1, nb_II, nb_IR, nb_RI, nb_RR, nm_IL, nm_IQ, nm_RL, nm_RQ, nm_LI, nm_LR, nm_LL, nm_LQ, nm_QI, nm_QR, nm_QL, nm_QQ, nm_rr, nm_ii, nm_eqm, not_false_eq_true, pk_sub, nm_div, nm_shl, nm_shr, nm_ush, nm_or8, nm_or64, nm_or256, nm_m1, nm_m3, nm_m7, nm_m15, nm_m31, nm_m63, nm_m255, nm_m511, nm_m1023, nm_m2047, nm_m65535, Nat.reduceMod, Nat.reducePow, Nat.reduceAdd, Nat.reduceSub, Nat.reduceMul, nm_bo, nm_bi, nm_rc, nm_ic, nm_ri, nm_rl, nm_rq, nm_ql, nm_qi, nm_li, nm_us, nm_uu, nm_cp, nm_sa31, nm_sa7, nm_m127, nm_m2, nm_nz, nm_nzk, nm_eq32, nm_nzf, if_true, if_false, ↓reduceIte, if_pos, if_neg]
            have e2 : df_X16_seek n a b (nI 2) X = df_X16_seek_79 n b (nI o) (nI L).toInt64 X := by
              simp (disch := (first | assumption | decide | omega)) only [df_X16_seek, df_X16_seek_0, h3, o2, y4, y7, l2, eq_self, Nat.reduceEqDiff, Nat.reduceLeDiff, nl_0, nl_1, nl_2, nl_3, nl_12, nl_16, nl_19, nl_20, nl_21, nl_28, nl_48, no_1, no_1024, pk_mul, nI_add, nm_ck, nI_clamp, nI_ltI, nI_leI, nI_eq, nb_b2, nb_b1, ↓nb_let, nm_z0, nm_z1, nb_II, nb_IR, nb_RI, nb_RR, nm_IL, nm_IQ, nm_RL, nm_RQ, nm_LI, nm_LR, nm_LL, nm_LQ, nm_QI, nm_QR, nm_QL, nm_QQ, nm_rr, nm_ii, nm_eqm, not_false_eq_true, pk_sub, nm_div, nm_shl, nm_shr, nm_ush, nm_or8, nm_or64, nm_or256, nm_m1, nm_m3, nm_m7, nm_m15, nm_m31, nm_m63, nm_m255, nm_m511, nm_m1023, nm_m2047, nm_m65535, Nat.reduceMod, Nat.reducePow, Nat.reduceAdd, Nat.reduceSub, Nat.reduceMul, nm_bo, nm_bi, nm_rc, nm_ic, nm_ri, nm_rl, nm_rq, nm_ql, nm_qi, nm_li, nm_us, nm_uu, nm_cp, nm_sa31, nm_sa7, nm_m127, nm_m2, nm_nz, nm_nzk, nm_eq32, nm_nzf, if_true, if_false, ↓reduceIte, if_pos, if_neg]
            rw [e1, e2, ref]
            exact this
        · exact bad (by simp (disch := (first | assumption | decide | omega)) only [df_X5_seek_11, df_X5_seek_45, df_X5_seek_109, df_X5_seek_93, df_X5_seek_90, df_X5_seek_0, df_X5_seek, df_X10_of_0, df_X10_of, A0, A2, o1, u1, Nat.add_zero, y5, k3, eq_self, Nat.reduceEqDiff, Nat.reduceLeDiff, nl_0, nl_1, nl_2, nl_3, nl_5, nl_22, nl_240, nl_512, no_1, no_1024, pk_mul, nI_add, nm_ck, nI_clamp, nI_ltI, nI_leI, nI_eq, nb_b2, nb_b1, ↓nb_let, nm_z0, nm_z1, nb_II, nb_IR, nb_RI, nb_RR, nm_IL, nm_IQ, nm_RL, nm_RQ, nm_LI, nm_LR, nm_LL, nm_LQ, nm_QI, nm_QR, nm_QL, nm_QQ, nm_rr, nm_ii, nm_eqm, not_false_eq_true, pk_sub, nm_div, nm_shl, nm_shr, nm_ush, nm_or8, nm_or64, nm_or256, nm_m1, nm_m3, nm_m7, nm_m15, nm_m31, nm_m63, nm_m255, nm_m511, nm_m1023, nm_m2047, nm_m65535, Nat.reduceMod, Nat.reducePow, Nat.reduceAdd, Nat.reduceSub, Nat.reduceMul, nm_bo, nm_bi, nm_rc, nm_ic, nm_ri, nm_rl, nm_rq, nm_ql, nm_qi, nm_li, nm_us, nm_uu, nm_cp, nm_sa31, nm_sa7, nm_m127, nm_m2, nm_nz, nm_nzk, nm_eq32, nm_nzf, if_true, if_false, ↓reduceIte, if_pos, if_neg]) (by simp (disch := (first | assumption | decide | omega)) only [df_X16_seek_9, df_X16_seek_40, df_X16_seek_100, df_X16_seek_79, df_X16_seek_0, df_X16_seek, A0, A2, h3, o2, y4, k3, eq_self, Nat.reduceEqDiff, Nat.reduceLeDiff, nl_0, nl_1, nl_2, nl_3, nl_12, nl_16, nl_19, nl_20, nl_21, nl_22, nl_28, nl_48, nl_512, no_1, no_1024, pk_mul, nI_add, nm_ck, nI_clamp, nI_ltI, nI_leI, nI_eq, nb_b2, nb_b1, ↓nb_let, nm_z0, nm_z1, nb_II, nb_IR, nb_RI, nb_RR, nm_IL, nm_IQ, nm_RL, nm_RQ, nm_LI, nm_LR, nm_LL, nm_LQ, nm_QI, nm_QR, nm_QL, nm_QQ, nm_rr, nm_ii, nm_eqm, not_false_eq_true, pk_sub, nm_div, nm_shl, nm_shr, nm_ush, nm_or8, nm_or64, nm_or256, nm_m1, nm_m3, nm_m7, nm_m15, nm_m31, nm_m63, nm_m255, nm_m511, nm_m1023, nm_m2047, nm_m65535, Nat.reduceMod, Nat.reducePow, Nat.reduceAdd, Nat.reduceSub, Nat.reduceMul, nm_bo, nm_bi, nm_rc, nm_ic, nm_ri, nm_rl, nm_rq, nm_ql, nm_qi, nm_li, nm_us, nm_uu, nm_cp, nm_sa31, nm_sa7, nm_m127, nm_m2, nm_nz, nm_nzk, nm_eq32, nm_nzf, if_true, if_false, ↓reduceIte, if_pos, if_neg])
    · exact inv (by simp (disch := (first | assumption | decide | omega)) only [df_X5_seek_11, df_X5_seek_45, df_X5_seek_109, df_X5_seek_93, df_X5_seek_90, df_X5_seek_0, df_X5_seek, A0, A2, eq_self, Nat.reduceEqDiff, Nat.reduceLeDiff, nl_0, nl_1, nl_2, nl_3, nl_22, nl_512, no_1, no_1024, pk_mul, nI_add, nm_ck, nI_clamp, nI_ltI, nI_leI, nI_eq, nb_b2, nb_b1, ↓nb_let, nm_z0, nm_z1, nb_II, nb_IR, nb_RI, nb_RR, nm_IL, nm_IQ, nm_RL, nm_RQ, nm_LI, nm_LR, nm_LL, nm_LQ, nm_QI, nm_QR, nm_QL, nm_QQ, nm_rr, nm_ii, nm_eqm, not_false_eq_true, pk_sub, nm_div, nm_shl, nm_shr, nm_ush, nm_or8, nm_or64, nm_or256, nm_m1, nm_m3, nm_m7, nm_m15, nm_m31, nm_m63, nm_m255, nm_m511, nm_m1023, nm_m2047, nm_m65535, Nat.reduceMod, Nat.reducePow, Nat.reduceAdd, Nat.reduceSub, Nat.reduceMul, nm_bo, nm_bi, nm_rc, nm_ic, nm_ri, nm_rl, nm_rq, nm_ql, nm_qi, nm_li, nm_us, nm_uu, nm_cp, nm_sa31, nm_sa7, nm_m127, nm_m2, nm_nz, nm_nzk, nm_eq32, nm_nzf, if_true, if_false, ↓reduceIte, if_pos, if_neg]) (by simp (disch := (first | assumption | decide | omega)) only [df_X16_seek_9, df_X16_seek_40, df_X16_seek_100, df_X16_seek_79, df_X16_seek_0, df_X16_seek, A0, A2, eq_self, Nat.reduceEqDiff, Nat.reduceLeDiff, nl_0, nl_1, nl_2, nl_3, nl_12, nl_16, nl_19, nl_20, nl_21, nl_22, nl_28, nl_48, nl_512, no_1, no_1024, pk_mul, nI_add, nm_ck, nI_clamp, nI_ltI, nI_leI, nI_eq, nb_b2, nb_b1, ↓nb_let, nm_z0, nm_z1, nb_II, nb_IR, nb_RI, nb_RR, nm_IL, nm_IQ, nm_RL, nm_RQ, nm_LI, nm_LR, nm_LL, nm_LQ, nm_QI, nm_QR, nm_QL, nm_QQ, nm_rr, nm_ii, nm_eqm, not_false_eq_true, pk_sub, nm_div, nm_shl, nm_shr, nm_ush, nm_or8, nm_or64, nm_or256, nm_m1, nm_m3, nm_m7, nm_m15, nm_m31, nm_m63, nm_m255, nm_m511, nm_m1023, nm_m2047, nm_m65535, Nat.reduceMod, Nat.reducePow, Nat.reduceAdd, Nat.reduceSub, Nat.reduceMul, nm_bo, nm_bi, nm_rc, nm_ic, nm_ri, nm_rl, nm_rq, nm_ql, nm_qi, nm_li, nm_us, nm_uu, nm_cp, nm_sa31, nm_sa7, nm_m127, nm_m2, nm_nz, nm_nzk, nm_eq32, nm_nzf, if_true, if_false, ↓reduceIte, if_pos, if_neg])

theorem nps_s {n q r a : Nat} {X Z : St × St} : ∀ {c : Nat}, nps n q r a c X = some Z → ∀ j : Nat, j ≤ c → ∃ s : St × St, nps n q r a j X = some s
  | 0, h, j, hj => by
    have : j = 0 := by omega
    subst this
    exact ⟨Z, h⟩
  | c + 1, h, j, hj => by
    by_cases e : j = c + 1
    · subst e
      exact ⟨Z, h⟩
    · have h : nd_b1 (nps n q r a c X) (fun s => df_X16_newPage n (nI q) (nI (a + c)) (nI r) s) = some Z := h
      cases g : nps n q r a c X with
      | none =>
        rw [g] at h
        exact nomatch h
      | some s => exact nps_s g j (by omega)
/-- one more page -/
theorem nps_t {n q r a c : Nat} {X Z s : St × St} (h : nps n q r a c X = some Z) {j : Nat} (hj : j < c) (hs : nps n q r a j X = some s) : ∃ s' : St × St, df_X16_newPage n (nI q) (nI (a + j)) (nI r) s = some s' ∧ nps n q r a (j + 1) X = some s' := by
  obtain ⟨s', e⟩ := nps_s h (j + 1) (by omega)
  have e' : nd_b1 (nps n q r a j X) (fun s => df_X16_newPage n (nI q) (nI (a + j)) (nI r) s) = some s' := e
  rw [hs, nb_b1] at e'
  exact ⟨s', e', e⟩
/-- pages from one on are dropped in both -/
theorem nk_leaves (n : Nat) {M X : St × St} (h : rK M X) {p a : Nat} (hp : p < 16) : ∀ k : Nat, a + k ≤ 64 → ∃ (u g : Nat → Int32) (fu : Int32) (fr ho : Nat → Int32) (us : Int32), rQ (sR M.1 0) u g (sR X.1 15) fr (sR X.1 17) ho fu us ∧ (∀ j : Nat, a ≤ j → j < a + k → fr (64 * p + j) = -nI 1) ∧ (∀ i : Nat, ¬ (64 * p + a ≤ i ∧ i < 64 * p + a + k) → fr i = sR X.1 16 i) ∧ (a + k < 64 → ∃ (u' g' : Nat → Int32) (fu' : Int32) (ho' : Nat → Int32) (us' : Int32), df_X6_dropPage n (nI p) (nI (a + k)) (mU M (sR M.1 0) u g fu) = some (mU M (sR M.1 0) u' g' fu') ∧ df_X16_leave n (nI (64 * p + (a + k))) (xU X (sR X.1 15) fr (sR X.1 17) ho us) = some (xU X (sR X.1 15) (upd fr (64 * p + (a + k)) (-nI 1)) (sR X.1 17) ho' us') ∧ rQ (sR M.1 0) u' g' (sR X.1 15) (upd fr (64 * p + (a + k)) (-nI 1)) (sR X.1 17) ho' fu' us') := by
  have st : ∀ (k : Nat) (u g : Nat → Int32) (fu : Int32) (fr ho : Nat → Int32) (us : Int32), a + k < 64 → rQ (sR M.1 0) u g (sR X.1 15) fr (sR X.1 17) ho fu us → ∃ (u' g' : Nat → Int32) (fu' : Int32) (ho' : Nat → Int32) (us' : Int32), df_X6_dropPage n (nI p) (nI (a + k)) (mU M (sR M.1 0) u g fu) = some (mU M (sR M.1 0) u' g' fu') ∧ df_X16_leave n (nI (64 * p + (a + k))) (xU X (sR X.1 15) fr (sR X.1 17) ho us) = some (xU X (sR X.1 15) (upd fr (64 * p + (a + k)) (-nI 1)) (sR X.1 17) ho' us') ∧ rQ (sR M.1 0) u' g' (sR X.1 15) (upd fr (64 * p + (a + k)) (-nI 1)) (sR X.1 17) ho' fu' us' := fun k u g fu fr ho us hk hr => by
    obtain ⟨u', g', fu', ho', us', a1, a2, a3⟩ := nk_leave n (M := mU M (sR M.1 0) u g fu) (X := xU X (sR X.1 15) fr (sR X.1 17) ho us) hr hp hk
    have a1 : df_X6_dropPage n (nI p) (nI (a + k)) (mU M (sR M.1 0) u g fu) = some (mU (mU M (sR M.1 0) u g fu) (sR M.1 0) u' g' fu') := a1
    have a2 : df_X16_leave n (nI (64 * p + (a + k))) (xU X (sR X.1 15) fr (sR X.1 17) ho us) = some (xU (xU X (sR X.1 15) fr (sR X.1 17) ho us) (sR X.1 15) (upd fr (64 * p + (a + k)) (-nI 1)) (sR X.1 17) ho' us') := a2
    rw [mU_mU] at a1
    rw [xU_xU] at a2
    exact ⟨u', g', fu', ho', us', a1, a2, a3⟩
  intro k
  induction k with
  | zero =>
    intro hk
    exact ⟨_, _, _, _, _, _, h, fun j h1 h2 => by omega, fun i _ => rfl, fun h64 => st 0 _ _ _ _ _ _ h64 h⟩
  | succ k ih =>
    intro hk
    obtain ⟨u, g, fu, fr, ho, us, i1, i2, i3, i4⟩ := ih (by omega)
    obtain ⟨u', g', fu', ho', us', e1, e2, e3⟩ := i4 (by omega)
    refine ⟨u', g', fu', upd fr (64 * p + (a + k)) (-nI 1), ho', us', e3, fun j h1 h2 => ?_, fun i hi => ?_, fun h64 => st (k + 1) _ _ _ _ _ _ h64 e3⟩
    · by_cases c : j = a + k
      · rw [c, nm_us]
      · rw [nm_un (by omega)]; exact i2 j h1 (by omega)
    · rw [nm_un (by omega)]; exact i3 i (by omega)
/-- the pages of a running one and its heap's end change -/
theorem rM_heap {B : Nat} {M X : St × St} (h : rM B M X) {p a : Nat} (hp : p < 16) (h1 : sR X.1 1 p = nI 1) (ha : a ≤ 61440) {w u g b fr ri ho : Nat → Int32} {fu us : Int32} (hr : rQ w u g b fr ri ho fu us) (hfr : ∀ i : Nat, i < 64 * p ∨ 64 * p + 64 ≤ i → fr i = sR X.1 16 i) (hh : ∀ k : Nat, k < 60 → a ≤ k * 1024 → fr (64 * p + k) = -nI 1) : rM B (pR (mU M w u g fu).1 6 (upd (sR M.1 6) (p * 7 + 6) (nI a)), M.2) (pR (xU X b fr ri ho us).1 6 (upd (sR X.1 6) p (nI a)), X.2) := by
  obtain ⟨m1, m2, m3, m4, m5, m6, m7⟩ := h
  refine ⟨hr, m2, rP_all m3 (p := p) ?_ (fun r hr => ⟨⟨fun i hi => nm_un (by omega), fun _ _ => rfl, fun _ _ => rfl, fun _ _ => rfl, rfl⟩, ⟨⟨rfl, rfl, rfl, rfl, rfl, nm_un hr, rfl, rfl⟩, fun _ _ => rfl, rfl, fun _ _ => rfl, rfl, fun _ _ => rfl, fun _ _ => rfl, fun i hi => ?_, rfl⟩⟩), m4, m5, m6, m7⟩
  · obtain ⟨t, c', w, b', e, ht, hc', hw, hb, he, a1, a2, a3, a4, a5, a6, a7, a8, a9, a10, a11, a12, a13, a14, a15, a16, a17, a18, a19, a20, a21⟩ := m3 p hp
    have t1 : t = 1 := nm_inI (by omega) (by omega) (a2.symm.trans h1)
    exact ⟨t, c', w, b', a, ht, hc', hw, hb, ha, (nm_un (by omega)).trans a1, a2, (nm_un (by omega)).trans a3, a4, a5, fun z => by omega, fun z => (nm_un (by omega)).trans (a7 z), (nm_un (by omega)).trans a8, a9, (nm_un (by omega)).trans a10, a11, (nm_un (by omega)).trans a12, a13, nm_us, nm_us, hh, a17, a18, fun z => by omega, fun z => by omega, a21⟩
  · show fr (64 * r + i) = _ ↔ sR X.1 16 (64 * r + i) = _
    rw [hfr _ (by omega)]
theorem gr_C (n : Nat) {K : St × (St × (St × St))} {p A b e G H x : Nat} {d : Int32} (hp : p < 16) (eb : sR K.2.2.1 6 (p * 7 + 5) = nI b) (ee : sR K.2.2.1 6 (p * 7 + 6) = nI e) (he : e ≤ 61440) (Ab : ¬ A < b) (hb : b ≤ 61440) (A2 : A ≤ 60416) (hH : (e + 1023) / 1024 = H) (hG : (A + 1023) / 1024 = G) (hx : x ≤ 256) (fu : sI K.2.2.1 0 = nI x) (ed : nI G - nI H = d) : df_X5_grow n (nI p) (nI A) K = if d ≤ nI (256 - x) then nd_b1 (df_X6_addPages n (nI p) (nI H) d (nI 3) K.2.2) (fun s => df_X5_grow_108 n n (nI p) (nI A) (nI e) (nI H) (nI G) (K.1, (K.2.1, s))) else some (-4, K) := by
  have u1 : p * 7 + 5 < 112 := by omega
  have u2 : p * 7 + 5 < 2 ^ 31 := by omega
  have u3 : p * 7 + 6 < 112 := by omega
  have u4 : p * 7 + 6 < 2 ^ 31 := by omega
  have s1 : e + 1024 - 1 = e + 1023 := by omega
  have s2 : A + 1024 - 1 = A + 1023 := by omega
  have u6 : A < 2 ^ 31 := by omega
  have u7 : b < 2 ^ 31 := by omega
  have u8 : e + 1023 < 2 ^ 31 := by omega
  have u9 : A + 1023 < 2 ^ 31 := by omega
  have u10 : 1 ≤ e + 1024 := by omega
  have u11 : 1 ≤ A + 1024 := by omega
  clear he hb
  simp (disch := (first | assumption | decide | omega)) only [df_X5_grow, df_X5_grow_0, df_X6_framesFree_0, df_X6_framesFree, eb, ee, Ab, A2, s1, s2, hH, hG, fu, ed, eq_self, Nat.reduceEqDiff, Nat.reduceLeDiff, nl_0, nl_1, nl_3, nl_4, nl_5, nl_6, nl_7, nl_112, nl_256, nl_1024, nl_60416, no_1, no_1024, pk_mul, nI_add, nm_ck, nI_clamp, nI_ltI, nI_leI, nI_eq, nb_b2, nb_b1, ↓nb_let, nm_z0, nm_z1, nb_II, nb_IR, nb_RI, nb_RR, nm_IL, nm_IQ, nm_RL, nm_RQ, nm_LI, nm_LR, nm_LL, nm_LQ, nm_QI, nm_QR, nm_QL, nm_QQ, nm_rr, nm_ii, nm_eqm, not_false_eq_true, pk_sub, nm_div, nm_shl, nm_shr, nm_ush, nm_or8, nm_or64, nm_or256, nm_m1, nm_m3, nm_m7, nm_m15, nm_m31, nm_m63, nm_m255, nm_m511, nm_m1023, nm_m2047, nm_m65535, Nat.reduceMod, Nat.reducePow, Nat.reduceAdd, Nat.reduceSub, Nat.reduceMul, nm_bo, nm_bi, nm_rc, nm_ic, nm_ri, nm_rl, nm_rq, nm_ql, nm_qi, nm_li, nm_us, nm_uu, nm_cp, nm_sa31, nm_sa7, nm_m127, nm_m2, nm_nz, nm_nzk, nm_eq32, nm_nzf, if_true, if_false, ↓reduceIte, if_pos, if_neg]
theorem gr_R (n : Nat) {X : St × St} {p A b e G H : Nat} (hp : p < 16) (h3 : sI X.1 12 = nI p) (eb' : sR X.1 5 p = nI b) (ee' : sR X.1 6 p = nI e) (he : e ≤ 61440) (Ab : ¬ A < b) (hb : b ≤ 61440) (A2 : A ≤ 60416) (hH : (e + 1023) / 1024 = H) (hG : (A + 1023) / 1024 = G) : df_X16_grow n (nI A) X = if G ≤ H then df_X16_grow_72 n n (nI A) (nI H) (nI G) (nI H) X else nd_b2 (df_X16_hasFrames n (nI (G - H)) X) (fun v s => if v = 0 then some (-nI 4, s) else df_X16_grow_72 n n (nI A) (nI H) (nI G) (nI H) s) := by
  have u5 : p < 2 ^ 31 := by omega
  have u6 : A < 2 ^ 31 := by omega
  have u7 : b < 2 ^ 31 := by omega
  have u8 : e + 1023 < 2 ^ 31 := by omega
  have u9 : A + 1023 < 2 ^ 31 := by omega
  have v2 : H < 2 ^ 31 := by omega
  have v4 : G < 2 ^ 31 := by omega
  by_cases c : G ≤ H
  · rw [if_pos c]
    simp (disch := (first | assumption | decide | omega)) only [df_X16_grow, df_X16_grow_0, df_X16_grow_69, h3, eb', ee', Ab, A2, hH, hG, c, eq_self, Nat.reduceEqDiff, Nat.reduceLeDiff, nl_0, nl_4, nl_5, nl_6, nl_12, nl_16, nl_1023, nl_1024, nl_60416, no_1, no_1024, pk_mul, nI_add, nm_ck, nI_clamp, nI_ltI, nI_leI, nI_eq, nb_b2, nb_b1, ↓nb_let, nm_z0, nm_z1, nb_II, nb_IR, nb_RI, nb_RR, nm_IL, nm_IQ, nm_RL, nm_RQ, nm_LI, nm_LR, nm_LL, nm_LQ, nm_QI, nm_QR, nm_QL, nm_QQ, nm_rr, nm_ii, nm_eqm, not_false_eq_true, pk_sub, nm_div, nm_shl, nm_shr, nm_ush, nm_or8, nm_or64, nm_or256, nm_m1, nm_m3, nm_m7, nm_m15, nm_m31, nm_m63, nm_m255, nm_m511, nm_m1023, nm_m2047, nm_m65535, Nat.reduceMod, Nat.reducePow, Nat.reduceAdd, Nat.reduceSub, Nat.reduceMul, nm_bo, nm_bi, nm_rc, nm_ic, nm_ri, nm_rl, nm_rq, nm_ql, nm_qi, nm_li, nm_us, nm_uu, nm_cp, nm_sa31, nm_sa7, nm_m127, nm_m2, nm_nz, nm_nzk, nm_eq32, nm_nzf, if_true, if_false, ↓reduceIte, if_pos, if_neg]
  · rw [if_neg c]
    have u10 : H ≤ G := by omega
    simp (disch := (first | assumption | decide | omega)) only [df_X16_grow, df_X16_grow_0, df_X16_grow_69, h3, eb', ee', Ab, A2, hH, hG, c, eq_self, Nat.reduceEqDiff, Nat.reduceLeDiff, nl_0, nl_4, nl_5, nl_6, nl_12, nl_16, nl_1023, nl_1024, nl_60416, no_1, no_1024, pk_mul, nI_add, nm_ck, nI_clamp, nI_ltI, nI_leI, nI_eq, nb_b2, nb_b1, ↓nb_let, nm_z0, nm_z1, nb_II, nb_IR, nb_RI, nb_RR, nm_IL, nm_IQ, nm_RL, nm_RQ, nm_LI, nm_LR, nm_LL, nm_LQ, nm_QI, nm_QR, nm_QL, nm_QQ, nm_rr, nm_ii, nm_eqm, not_false_eq_true, pk_sub, nm_div, nm_shl, nm_shr, nm_ush, nm_or8, nm_or64, nm_or256, nm_m1, nm_m3, nm_m7, nm_m15, nm_m31, nm_m63, nm_m255, nm_m511, nm_m1023, nm_m2047, nm_m65535, Nat.reduceMod, Nat.reducePow, Nat.reduceAdd, Nat.reduceSub, Nat.reduceMul, nm_bo, nm_bi, nm_rc, nm_ic, nm_ri, nm_rl, nm_rq, nm_ql, nm_qi, nm_li, nm_us, nm_uu, nm_cp, nm_sa31, nm_sa7, nm_m127, nm_m2, nm_nz, nm_nzk, nm_eq32, nm_nzf, if_true, if_false, ↓reduceIte, if_pos, if_neg]
    rfl
theorem gr_108 (n : Nat) {g : Int32 → Int32 → Int32 → Int32 → Int32 → St × (St × (St × St)) → Option (Int64 × (St × (St × (St × St))))} {K : St × (St × (St × St))} {p A e H G : Nat} (hp : p < 16) (hH : H < 2 ^ 31) (hG : G < 2 ^ 31) (c : H ≤ G) : dF_X5_grow_108 n g (nI p) (nI A) (nI e) (nI H) (nI G) K = some ((nI e).toInt64, (K.1, (K.2.1, (pR K.2.2.1 6 (upd (sR K.2.2.1 6) (p * 7 + 6) (nI A)), K.2.2.2)))) := by
  have u3 : p * 7 + 6 < 112 := by omega
  have u4 : p * 7 + 6 < 2 ^ 31 := by omega
  simp (disch := (first | assumption | decide | omega)) only [dF_X5_grow_108, c, eq_self, Nat.reduceEqDiff, Nat.reduceLeDiff, nl_1, nl_6, nl_7, nl_112, no_1, no_1024, pk_mul, nI_add, nm_ck, nI_clamp, nI_ltI, nI_leI, nI_eq, nb_b2, nb_b1, ↓nb_let, nm_z0, nm_z1, nb_II, nb_IR, nb_RI, nb_RR, nm_IL, nm_IQ, nm_RL, nm_RQ, nm_LI, nm_LR, nm_LL, nm_LQ, nm_QI, nm_QR, nm_QL, nm_QQ, nm_rr, nm_ii, nm_eqm, not_false_eq_true, pk_sub, nm_div, nm_shl, nm_shr, nm_ush, nm_or8, nm_or64, nm_or256, nm_m1, nm_m3, nm_m7, nm_m15, nm_m31, nm_m63, nm_m255, nm_m511, nm_m1023, nm_m2047, nm_m65535, Nat.reduceMod, Nat.reducePow, Nat.reduceAdd, Nat.reduceSub, Nat.reduceMul, nm_bo, nm_bi, nm_rc, nm_ic, nm_ri, nm_rl, nm_rq, nm_ql, nm_qi, nm_li, nm_us, nm_uu, nm_cp, nm_sa31, nm_sa7, nm_m127, nm_m2, nm_nz, nm_nzk, nm_eq32, nm_nzf, if_true, if_false, ↓reduceIte, if_pos, if_neg]
theorem gr_98 (n : Nat) {g : Int32 → Int32 → Int32 → St × St → Option (Int32 × (St × St))} {X : St × St} {p A e H G : Nat} (hp : p < 16) (h3 : sI X.1 12 = nI p) (ee' : sR X.1 6 p = nI e) (hH : H < 2 ^ 31) (hG : G < 2 ^ 31) (c : H ≤ G) : dF_X16_grow_98 n g (nI A) (nI H) (nI G) X = some (nI e, (pR X.1 6 (upd (sR X.1 6) p (nI A)), X.2)) := by
  have u3 : p < 2 ^ 31 := by omega
  simp (disch := (first | assumption | decide | omega)) only [dF_X16_grow_98, c, h3, ee', eq_self, Nat.reduceEqDiff, Nat.reduceLeDiff, nl_1, nl_6, nl_12, nl_16, nl_64, no_1, no_1024, pk_mul, nI_add, nm_ck, nI_clamp, nI_ltI, nI_leI, nI_eq, nb_b2, nb_b1, ↓nb_let, nm_z0, nm_z1, nb_II, nb_IR, nb_RI, nb_RR, nm_IL, nm_IQ, nm_RL, nm_RQ, nm_LI, nm_LR, nm_LL, nm_LQ, nm_QI, nm_QR, nm_QL, nm_QQ, nm_rr, nm_ii, nm_eqm, not_false_eq_true, pk_sub, nm_div, nm_shl, nm_shr, nm_ush, nm_or8, nm_or64, nm_or256, nm_m1, nm_m3, nm_m7, nm_m15, nm_m31, nm_m63, nm_m255, nm_m511, nm_m1023, nm_m2047, nm_m65535, Nat.reduceMod, Nat.reducePow, Nat.reduceAdd, Nat.reduceSub, Nat.reduceMul, nm_bo, nm_bi, nm_rc, nm_ic, nm_ri, nm_rl, nm_rq, nm_ql, nm_qi, nm_li, nm_us, nm_uu, nm_cp, nm_sa31, nm_sa7, nm_m127, nm_m2, nm_nz, nm_nzk, nm_eq32, nm_nzf, if_true, if_false, ↓reduceIte, if_pos, if_neg]
theorem gr_a0 (n : Nat) (hn : 1024 < n) {M : St × St} {p G H : Nat} (hH : H < 2 ^ 31) (hG : G < 2 ^ 31) (c : G ≤ H) : df_X6_addPages n (nI p) (nI H) (nI G - nI H) (nI 3) M = some M := by
  have sm : nI H + (nI G - nI H) = nI G := by
    rw [Int32.add_comm, Int32.sub_add_cancel]
  have e6 : ∃ F, df_X6_addPages_6 n n = dF_X6_addPages_6 n F := by
    obtain ⟨m, rfl⟩ : ∃ m : Nat, n = m + 1 := ⟨n - 1, by omega⟩
    exact ⟨_, rfl⟩
  obtain ⟨F, e6⟩ := e6
  refine Eq.trans (b := df_X6_addPages_6 n n (nI p) (nI H) (nI G - nI H) (nI 3) (nI H) (nI 0) M) rfl ?_
  rw [e6]
  generalize nI G - nI H = d at sm
  simp (disch := (first | assumption | decide | omega)) only [dF_X6_addPages_6, df_X6_addPages_117, sm, c, eq_self, Nat.reduceEqDiff, Nat.reduceLeDiff, nl_0, nl_1, nl_64, nl_256, no_1, no_1024, pk_mul, nI_add, nm_ck, nI_clamp, nI_ltI, nI_leI, nI_eq, nb_b2, nb_b1, ↓nb_let, nm_z0, nm_z1, nb_II, nb_IR, nb_RI, nb_RR, nm_IL, nm_IQ, nm_RL, nm_RQ, nm_LI, nm_LR, nm_LL, nm_LQ, nm_QI, nm_QR, nm_QL, nm_QQ, nm_rr, nm_ii, nm_eqm, not_false_eq_true, pk_sub, nm_div, nm_shl, nm_shr, nm_ush, nm_or8, nm_or64, nm_or256, nm_m1, nm_m3, nm_m7, nm_m15, nm_m31, nm_m63, nm_m255, nm_m511, nm_m1023, nm_m2047, nm_m65535, Nat.reduceMod, Nat.reducePow, Nat.reduceAdd, Nat.reduceSub, Nat.reduceMul, nm_bo, nm_bi, nm_rc, nm_ic, nm_ri, nm_rl, nm_rq, nm_ql, nm_qi, nm_li, nm_us, nm_uu, nm_cp, nm_sa31, nm_sa7, nm_m127, nm_m2, nm_nz, nm_nzk, nm_eq32, nm_nzf, if_true, if_false, ↓reduceIte, if_pos, if_neg]
theorem gr_72 (n : Nat) {g : Int32 → Int32 → Int32 → Int32 → St × St → Option (Int32 × (St × St))} {X : St × St} {A H G k : Nat} (hk : k < 2 ^ 31) (hG : G < 2 ^ 31) (c : G ≤ k) : dF_X16_grow_72 n g (nI A) (nI H) (nI G) (nI k) X = df_X16_grow_98 n n (nI A) (nI H) (nI G) X := by
  simp (disch := (first | assumption | decide | omega)) only [dF_X16_grow_72, c, eq_self, Nat.reduceEqDiff, Nat.reduceLeDiff, nl_1, nl_3, nl_12, no_1, no_1024, pk_mul, nI_add, nm_ck, nI_clamp, nI_ltI, nI_leI, nI_eq, nb_b2, nb_b1, ↓nb_let, nm_z0, nm_z1, nb_II, nb_IR, nb_RI, nb_RR, nm_IL, nm_IQ, nm_RL, nm_RQ, nm_LI, nm_LR, nm_LL, nm_LQ, nm_QI, nm_QR, nm_QL, nm_QQ, nm_rr, nm_ii, nm_eqm, not_false_eq_true, pk_sub, nm_div, nm_shl, nm_shr, nm_ush, nm_or8, nm_or64, nm_or256, nm_m1, nm_m3, nm_m7, nm_m15, nm_m31, nm_m63, nm_m255, nm_m511, nm_m1023, nm_m2047, nm_m65535, Nat.reduceMod, Nat.reducePow, Nat.reduceAdd, Nat.reduceSub, Nat.reduceMul, nm_bo, nm_bi, nm_rc, nm_ic, nm_ri, nm_rl, nm_rq, nm_ql, nm_qi, nm_li, nm_us, nm_uu, nm_cp, nm_sa31, nm_sa7, nm_m127, nm_m2, nm_nz, nm_nzk, nm_eq32, nm_nzf, if_true, if_false, ↓reduceIte, if_pos, if_neg]
theorem gr_le {G H x : Nat} (hH : H < 2 ^ 31) (hG : G < 2 ^ 31) (hx : x < 2 ^ 31) (c : G ≤ H) : nI G - nI H ≤ nI x := by
  rw [Int32.le_iff_toInt_le, Int32.toInt_sub, nI_toInt hG, nI_toInt hH, nI_toInt hx, Int.bmod_eq_of_le (by omega) (by omega)]
  omega
/-- the kernel's call 'grow' where the heap becomes smaller -/
theorem grow_s (n : Nat) (hn : 1024 < n) {B p : Nat} {K : St × (St × (St × St))} {X : St × St} (h : cP B p K X) {A b e G H : Nat} (eb : sR K.2.2.1 6 (p * 7 + 5) = nI b) (eb' : sR X.1 5 p = nI b) (ee : sR K.2.2.1 6 (p * 7 + 6) = nI e) (ee' : sR X.1 6 p = nI e) (he : e ≤ 61440) (Ab : ¬ A < b) (hb : b ≤ 61440) (A2 : A ≤ 60416) (hH : (e + 1023) / 1024 = H) (hG : (A + 1023) / 1024 = G) (c : G ≤ H) (a16 : ∀ k : Nat, k < 60 → e ≤ k * 1024 → sR X.1 16 (64 * p + k) = -nI 1) : cO B p K X (df_X5_grow n (nI p) (nI A) K) (df_X16_grow n (nI A) X) := by
  obtain ⟨h1, h2, h3, h4, h5, h6, h7⟩ := id h
  obtain ⟨m1, m2, m3, m4, m5, m6, m7⟩ := id h1
  have u1 : p * 7 + 5 < 112 := by omega
  have u2 : p * 7 + 5 < 2 ^ 31 := by omega
  have u3 : p * 7 + 6 < 112 := by omega
  have u4 : p * 7 + 6 < 2 ^ 31 := by omega
  have u5 : p < 2 ^ 31 := by omega
  have hd : H ≤ 60 := by omega
  have hs : G ≤ 59 := by omega
  have v2 : H < 2 ^ 31 := by omega
  have v4 : G < 2 ^ 31 := by omega
  obtain ⟨m, s', t', ⟨u, g, fu', fr, ho, us', es, et, i1, i2, i3⟩, f1, f2⟩ := nm_l2 (fun m k s => df_X5_grow_108 n m (nI p) (nI A) (nI e) (nI H) (nI (G + k)) (K.1, (K.2.1, s))) (fun m k t => df_X16_grow_98 n m (nI A) (nI H) (nI (G + k)) t)
    (fun k s t => ∃ (u g : Nat → Int32) (fu : Int32) (fr ho : Nat → Int32) (us : Int32), s = mU K.2.2 (sR K.2.2.1 0) u g fu ∧ t = xU X (sR X.1 15) fr (sR X.1 17) ho us ∧ rQ (sR K.2.2.1 0) u g (sR X.1 15) fr (sR X.1 17) ho fu us ∧ (∀ j : Nat, G ≤ j → j < G + k → fr (64 * p + j) = -nI 1) ∧ ∀ i : Nat, ¬ (64 * p + G ≤ i ∧ i < 64 * p + G + k) → fr i = sR X.1 16 i) (H - G) n (by omega) (fun k m s t hk ⟨u, g, fu', fr, ho, us', es, et, i1, i2, i3⟩ => by
      subst es et
      have v0 : G + k < 64 := by omega
      obtain ⟨u', g', fu2, ho', us2, x1, x2, x3⟩ := nk_leave n (M := mU K.2.2 (sR K.2.2.1 0) u g fu') (X := xU X (sR X.1 15) fr (sR X.1 17) ho us') i1 h2 v0
      have v1 : ¬ H ≤ G + k := by omega
      have v3 : G + k < 2 ^ 31 := by omega
      refine ⟨_, _, ⟨u', g', fu2, upd fr (64 * p + (G + k)) (-nI 1), ho', us2, rfl, rfl, x3, fun j q1 q2 => ?_, fun i q1 => ?_⟩, ?_, ?_⟩
      · by_cases cj : j = G + k
        · rw [cj, nm_us]
        · rw [nm_un (by omega)]; exact i2 j q1 (by omega)
      · rw [nm_un (by omega)]; exact i3 i (by omega)
      · show df_X5_grow_108 n (m + 1) _ _ _ _ (nI (G + k)) _ = df_X5_grow_108 n m _ _ _ _ (nI (G + k + 1)) _
        rw [show df_X5_grow_108 n (m + 1) = dF_X5_grow_108 n (df_X5_grow_108 n m) from rfl]
        generalize df_X5_grow_108 n m = F
        simp (disch := (first | assumption | decide | omega)) only [dF_X5_grow_108, v1, x1, eq_self, Nat.reduceEqDiff, Nat.reduceLeDiff, nl_1, nl_6, nl_7, nl_112, no_1, no_1024, pk_mul, nI_add, nm_ck, nI_clamp, nI_ltI, nI_leI, nI_eq, nb_b2, nb_b1, ↓nb_let, nm_z0, nm_z1, nb_II, nb_IR, nb_RI, nb_RR, nm_IL, nm_IQ, nm_RL, nm_RQ, nm_LI, nm_LR, nm_LL, nm_LQ, nm_QI, nm_QR, nm_QL, nm_QQ, nm_rr, nm_ii, nm_eqm, not_false_eq_true, pk_sub, nm_div, nm_shl, nm_shr, nm_ush, nm_or8, nm_or64, nm_or256, nm_m1, nm_m3, nm_m7, nm_m15, nm_m31, nm_m63, nm_m255, nm_m511, nm_m1023, nm_m2047, nm_m65535, Nat.reduceMod, Nat.reducePow, Nat.reduceAdd, Nat.reduceSub, Nat.reduceMul, nm_bo, nm_bi, nm_rc, nm_ic, nm_ri, nm_rl, nm_rq, nm_ql, nm_qi, nm_li, nm_us, nm_uu, nm_cp, nm_sa31, nm_sa7, nm_m127, nm_m2, nm_nz, nm_nzk, nm_eq32, nm_nzf, if_true, if_false, ↓reduceIte, if_pos, if_neg]
        rw [mU_mU]
        rfl
      · show df_X16_grow_98 n (m + 1) _ _ (nI (G + k)) _ = df_X16_grow_98 n m _ _ (nI (G + k + 1)) _
        have p12 : sI (xU X (sR X.1 15) fr (sR X.1 17) ho us').1 12 = nI p := h3
        rw [show df_X16_grow_98 n (m + 1) = dF_X16_grow_98 n (df_X16_grow_98 n m) from rfl]
        simp (disch := (first | assumption | decide | omega)) only [dF_X16_grow_98, v1, p12, x2, eq_self, Nat.reduceEqDiff, Nat.reduceLeDiff, nl_1, nl_6, nl_12, nl_16, nl_64, no_1, no_1024, pk_mul, nI_add, nm_ck, nI_clamp, nI_ltI, nI_leI, nI_eq, nb_b2, nb_b1, ↓nb_let, nm_z0, nm_z1, nb_II, nb_IR, nb_RI, nb_RR, nm_IL, nm_IQ, nm_RL, nm_RQ, nm_LI, nm_LR, nm_LL, nm_LQ, nm_QI, nm_QR, nm_QL, nm_QQ, nm_rr, nm_ii, nm_eqm, not_false_eq_true, pk_sub, nm_div, nm_shl, nm_shr, nm_ush, nm_or8, nm_or64, nm_or256, nm_m1, nm_m3, nm_m7, nm_m15, nm_m31, nm_m63, nm_m255, nm_m511, nm_m1023, nm_m2047, nm_m65535, Nat.reduceMod, Nat.reducePow, Nat.reduceAdd, Nat.reduceSub, Nat.reduceMul, nm_bo, nm_bi, nm_rc, nm_ic, nm_ri, nm_rl, nm_rq, nm_ql, nm_qi, nm_li, nm_us, nm_uu, nm_cp, nm_sa31, nm_sa7, nm_m127, nm_m2, nm_nz, nm_nzk, nm_eq32, nm_nzf, if_true, if_false, ↓reduceIte, if_pos, if_neg]
        rw [xU_xU]
        rfl) K.2.2 X ⟨_, _, _, _, _, _, (mU_id K.2.2).symm, (xU_id X).symm, m1, fun j q1 q2 => by omega, fun _ _ => rfl⟩
  subst es et
  have f1 : df_X5_grow_108 n n (nI p) (nI A) (nI e) (nI H) (nI (G + 0)) K = df_X5_grow_108 n (m + 1) (nI p) (nI A) (nI e) (nI H) (nI (G + (H - G))) (K.1, (K.2.1, mU K.2.2 (sR K.2.2.1 0) u g fu')) := f1
  have f2 : df_X16_grow_98 n n (nI A) (nI H) (nI (G + 0)) X = df_X16_grow_98 n (m + 1) (nI A) (nI H) (nI (G + (H - G))) (xU X (sR X.1 15) fr (sR X.1 17) ho us') := f2
  rw [show G + (H - G) = H by omega, Nat.add_zero] at f1 f2
  have fin := rM_heap h1 h2 h5 (a := A) (by omega) i1 (fun i hi => i3 i (by omega)) (fun k hk q => by
    by_cases ck : k < H
    · exact i2 k (by omega) (by omega)
    · rw [i3 _ (by omega)]
      exact a16 k hk (by omega))
  have fu := m1.2.2.2.1
  have cu := cU_le (sR X.1 16)
  generalize cU (sR X.1 16) = x at fu cu
  have p12 : sI (xU X (sR X.1 15) fr (sR X.1 17) ho us').1 12 = nI p := h3
  have p6 : sR (xU X (sR X.1 15) fr (sR X.1 17) ho us').1 6 p = nI e := ee'
  refine ⟨(nI e).toInt64, nI e, K.1, _, _, ?_, ?_, fin, fun _ => rfl, Or.inl ⟨h4, rfl⟩, ⟨rfl, rfl, rfl, rfl, rfl⟩, Or.inl ⟨h6, h7⟩, fun _ => h5, fun z => absurd (h4.symm.trans z) (by decide)⟩
  · rw [gr_C n h2 eb ee he Ab hb A2 hH hG cu fu rfl, if_pos (gr_le v2 v4 (by omega) c), gr_a0 n hn v2 v4 c, nb_b1]
    refine Eq.trans f1 ?_
    rw [show df_X5_grow_108 n (m + 1) = dF_X5_grow_108 n (df_X5_grow_108 n m) from rfl, gr_108 n h2 v2 v2 (Nat.le_refl H)]
    rfl
  · have e72 : ∃ F, df_X16_grow_72 n n = dF_X16_grow_72 n F := by
      obtain ⟨m, rfl⟩ : ∃ m : Nat, n = m + 1 := ⟨n - 1, by omega⟩
      exact ⟨_, rfl⟩
    obtain ⟨F, e72⟩ := e72
    rw [gr_R n h2 h3 eb' ee' he Ab hb A2 hH hG, if_pos c, e72, gr_72 n v2 v4 c, f2, show df_X16_grow_98 n (m + 1) = dF_X16_grow_98 n (df_X16_grow_98 n m) from rfl, gr_98 n h2 p12 p6 v2 v2 (Nat.le_refl H)]
    rfl
/-- where it grows -/
theorem grow_g (n : Nat) (hn : 1024 < n) {B p : Nat} {K : St × (St × (St × St))} {X : St × St} (h : cP B p K X) {A b e G H : Nat} (eb : sR K.2.2.1 6 (p * 7 + 5) = nI b) (eb' : sR X.1 5 p = nI b) (ee : sR K.2.2.1 6 (p * 7 + 6) = nI e) (ee' : sR X.1 6 p = nI e) (he : e ≤ 61440) (Ab : ¬ A < b) (hb : b ≤ 61440) (A2 : A ≤ 60416) (hH : (e + 1023) / 1024 = H) (hG : (A + 1023) / 1024 = G) (c : ¬ G ≤ H) (a16 : ∀ k : Nat, k < 60 → e ≤ k * 1024 → sR X.1 16 (64 * p + k) = -nI 1) : cO B p K X (df_X5_grow n (nI p) (nI A) K) (df_X16_grow n (nI A) X) := by
  obtain ⟨h1, h2, h3, h4, h5, h6, h7⟩ := id h
  obtain ⟨m1, m2, m3, m4, m5, m6, m7⟩ := id h1
  have hs : G ≤ 59 := by omega
  have v2 : H < 2 ^ 31 := by omega
  have v4 : G < 2 ^ 31 := by omega
  have u12 : H ≤ G := by omega
  have fu := m1.2.2.2.1
  have us := m1.2.2.2.2
  have cu := cU_le (sR X.1 16)
  have ap := fun (hc : cU (sR X.1 16) + (G - H) ≤ 256) => nk_addPages n hn (M := K.2.2) (X := X) m1 (p := p) (a := H) (c := G - H) (r := 3) h2 (by omega) (by omega) (by omega) hc (fun k q1 q2 => a16 k (by omega) (by omega))
  have any : ∀ j : Nat, j ≤ G - H → cU (sR X.1 16) + (G - H) ≤ 256 → ∃ (b fr ri ho : Nat → Int32) (us : Int32), nps n p 3 H j X = some (xU X b fr ri ho us) := fun j hj hc => by
    obtain ⟨_, _, _, _, b', fr', ri', ho', us', _, q, _⟩ := nk_addPages n hn (M := K.2.2) (X := X) m1 (p := p) (a := H) (c := j) (r := 3) h2 (by omega) (by omega) (by omega) (by omega) (fun k q1 q2 => a16 k (by omega) (by omega))
    exact ⟨b', fr', ri', ho', us', q⟩
  generalize cU (sR X.1 16) = x at fu us cu ap any
  have hF : df_X16_hasFrames n (nI (G - H)) X = some (if 256 < x + (G - H) then nI 0 else nI 1, X) := by
    have w1 : x + (G - H) < 2 ^ 31 := by omega
    by_cases w : 256 < x + (G - H)
    · simp (disch := (first | assumption | decide | omega)) only [df_X16_hasFrames_17, df_X16_hasFrames_0, df_X16_hasFrames, us, w, eq_self, Nat.reduceEqDiff, Nat.reduceLeDiff, nl_0, nl_1, nl_6, nl_256, no_1, no_1024, pk_mul, nI_add, nm_ck, nI_clamp, nI_ltI, nI_leI, nI_eq, nb_b2, nb_b1, ↓nb_let, nm_z0, nm_z1, nb_II, nb_IR, nb_RI, nb_RR, nm_IL, nm_IQ, nm_RL, nm_RQ, nm_LI, nm_LR, nm_LL, nm_LQ, nm_QI, nm_QR, nm_QL, nm_QQ, nm_rr, nm_ii, nm_eqm, not_false_eq_true, pk_sub, nm_div, nm_shl, nm_shr, nm_ush, nm_or8, nm_or64, nm_or256, nm_m1, nm_m3, nm_m7, nm_m15, nm_m31, nm_m63, nm_m255, nm_m511, nm_m1023, nm_m2047, nm_m65535, Nat.reduceMod, Nat.reducePow, Nat.reduceAdd, Nat.reduceSub, Nat.reduceMul, nm_bo, nm_bi, nm_rc, nm_ic, nm_ri, nm_rl, nm_rq, nm_ql, nm_qi, nm_li, nm_us, nm_uu, nm_cp, nm_sa31, nm_sa7, nm_m127, nm_m2, nm_nz, nm_nzk, nm_eq32, nm_nzf, if_true, if_false, ↓reduceIte, if_pos, if_neg]
    · simp (disch := (first | assumption | decide | omega)) only [df_X16_hasFrames_17, df_X16_hasFrames_0, df_X16_hasFrames, us, w, eq_self, Nat.reduceEqDiff, Nat.reduceLeDiff, nl_0, nl_1, nl_6, nl_256, no_1, no_1024, pk_mul, nI_add, nm_ck, nI_clamp, nI_ltI, nI_leI, nI_eq, nb_b2, nb_b1, ↓nb_let, nm_z0, nm_z1, nb_II, nb_IR, nb_RI, nb_RR, nm_IL, nm_IQ, nm_RL, nm_RQ, nm_LI, nm_LR, nm_LL, nm_LQ, nm_QI, nm_QR, nm_QL, nm_QQ, nm_rr, nm_ii, nm_eqm, not_false_eq_true, pk_sub, nm_div, nm_shl, nm_shr, nm_ush, nm_or8, nm_or64, nm_or256, nm_m1, nm_m3, nm_m7, nm_m15, nm_m31, nm_m63, nm_m255, nm_m511, nm_m1023, nm_m2047, nm_m65535, Nat.reduceMod, Nat.reducePow, Nat.reduceAdd, Nat.reduceSub, Nat.reduceMul, nm_bo, nm_bi, nm_rc, nm_ic, nm_ri, nm_rl, nm_rq, nm_ql, nm_qi, nm_li, nm_us, nm_uu, nm_cp, nm_sa31, nm_sa7, nm_m127, nm_m2, nm_nz, nm_nzk, nm_eq32, nm_nzf, if_true, if_false, ↓reduceIte, if_pos, if_neg]
  have eC := gr_C n h2 eb ee he Ab hb A2 hH hG cu fu (show nI G - nI H = nI (G - H) from pk_sub u12)
  have eR := gr_R n h2 h3 eb' ee' he Ab hb A2 hH hG
  rw [if_neg c, hF, nb_b2] at eR
  by_cases w : 256 < x + (G - H)
  · rw [if_neg (show ¬ nI (G - H) ≤ nI (256 - x) from fun z => by rw [nI_leI (by omega) (by omega)] at z; omega)] at eC
    rw [if_pos w, if_pos (show nI 0 = 0 by decide)] at eR
    rw [eC, eR]
    exact cO_id h (by decide)
  · rw [if_neg w, if_neg (show ¬ nI 1 = 0 by decide)] at eR
    obtain ⟨wd, u, g, fu', bb, fr, ri, ho, us', p1, p2, i1, i2, i3, i4⟩ := ap (by omega)
    rw [if_pos (show nI (G - H) ≤ nI (256 - x) by rw [nI_leI (by omega) (by omega)]; omega), p1, nb_b1] at eC
    have fin := rM_heap h1 h2 h5 (a := A) (by omega) i1 (fun i hi => (i4 i (by omega)).1) (fun k hk q => by
      rw [(i4 (64 * p + k) (by omega)).1]
      exact a16 k hk (by omega))
    have p12 : sI (xU X bb fr ri ho us').1 12 = nI p := h3
    have p6 : sR (xU X bb fr ri ho us').1 6 p = nI e := ee'
    refine ⟨(nI e).toInt64, nI e, K.1, _, _, ?_, ?_, fin, fun _ => rfl, Or.inl ⟨h4, rfl⟩, ⟨rfl, rfl, rfl, rfl, rfl⟩, Or.inl ⟨h6, h7⟩, fun _ => h5, fun z => absurd (h4.symm.trans z) (by decide)⟩
    · have e108 : ∃ F, df_X5_grow_108 n n = dF_X5_grow_108 n F := by
        obtain ⟨m, rfl⟩ : ∃ m : Nat, n = m + 1 := ⟨n - 1, by omega⟩
        exact ⟨_, rfl⟩
      obtain ⟨F, e108⟩ := e108
      rw [eC, e108, gr_108 n h2 v2 v4 u12]
      rfl
    · obtain ⟨m, s', es, f2⟩ := nm_l1 (fun m k t => df_X16_grow_72 n m (nI A) (nI H) (nI G) (nI (H + k)) t) (fun k s => nps n p 3 H k X = some s) (G - H) n (by omega) (fun k m s hk hs => by
        obtain ⟨s', q1, q2⟩ := nps_t p2 hk hs
        have v1 : ¬ G ≤ H + k := by omega
        have v3 : H + k < 2 ^ 31 := by omega
        have hs2 : sI s.1 12 = nI p := by
          obtain ⟨b', fr', ri', ho', us2, q⟩ := any k (by omega) (by omega)
          have := Option.some.inj (hs.symm.trans q)
          subst this
          exact h3
        refine ⟨s', q2, ?_⟩
        show df_X16_grow_72 n (m + 1) _ _ _ (nI (H + k)) _ = df_X16_grow_72 n m _ _ _ (nI (H + k + 1)) _
        rw [show df_X16_grow_72 n (m + 1) = dF_X16_grow_72 n (df_X16_grow_72 n m) from rfl]
        generalize df_X16_grow_72 n m = F
        clear p1 p2 any ap fin
        simp (disch := (first | assumption | decide | omega)) only [dF_X16_grow_72, v1, hs2, q1, eq_self, Nat.reduceEqDiff, Nat.reduceLeDiff, nl_1, nl_3, nl_12, no_1, no_1024, pk_mul, nI_add, nm_ck, nI_clamp, nI_ltI, nI_leI, nI_eq, nb_b2, nb_b1, ↓nb_let, nm_z0, nm_z1, nb_II, nb_IR, nb_RI, nb_RR, nm_IL, nm_IQ, nm_RL, nm_RQ, nm_LI, nm_LR, nm_LL, nm_LQ, nm_QI, nm_QR, nm_QL, nm_QQ, nm_rr, nm_ii, nm_eqm, not_false_eq_true, pk_sub, nm_div, nm_shl, nm_shr, nm_ush, nm_or8, nm_or64, nm_or256, nm_m1, nm_m3, nm_m7, nm_m15, nm_m31, nm_m63, nm_m255, nm_m511, nm_m1023, nm_m2047, nm_m65535, Nat.reduceMod, Nat.reducePow, Nat.reduceAdd, Nat.reduceSub, Nat.reduceMul, nm_bo, nm_bi, nm_rc, nm_ic, nm_ri, nm_rl, nm_rq, nm_ql, nm_qi, nm_li, nm_us, nm_uu, nm_cp, nm_sa31, nm_sa7, nm_m127, nm_m2, nm_nz, nm_nzk, nm_eq32, nm_nzf, if_true, if_false, ↓reduceIte, if_pos, if_neg]) X rfl
      have es := Option.some.inj (es.symm.trans p2)
      subst es
      have f2 : df_X16_grow_72 n n (nI A) (nI H) (nI G) (nI (H + 0)) X = df_X16_grow_72 n (m + 1) (nI A) (nI H) (nI G) (nI (H + (G - H))) (xU X bb fr ri ho us') := f2
      rw [show H + (G - H) = G by omega, Nat.add_zero] at f2
      have e98 : ∃ F, df_X16_grow_98 n n = dF_X16_grow_98 n F := by
        obtain ⟨m, rfl⟩ : ∃ m : Nat, n = m + 1 := ⟨n - 1, by omega⟩
        exact ⟨_, rfl⟩
      obtain ⟨F, e98⟩ := e98
      rw [eR, f2, show df_X16_grow_72 n (m + 1) = dF_X16_grow_72 n (df_X16_grow_72 n m) from rfl, gr_72 n v4 v4 (Nat.le_refl G), e98, gr_98 n h2 p12 p6 v2 v4 u12]
      rfl
/-- the kernel's call 'grow' -/
theorem nq_grow (n : Nat) (hn : 1024 < n) {B p : Nat} {K : St × (St × (St × St))} {X : St × St} (h : cP B p K X) (a : Int32) : cO B p K X (df_X5_grow n (nI p) a K) (df_X16_grow n a X) := by
  have h2 := h.2.1
  have h3 := h.2.2.1
  obtain ⟨t, c', w, b, e, ht, hc', hw, hb, he, a1, a2, a3, a4, a5, a6, a7, a8, a9, a10, a11, a12, a13, a14, a15, a16, _⟩ := h.1.2.2.1 p h2
  have inv : df_X5_grow n (nI p) a K = some (-22, K) → df_X16_grow n a X = some (-nI 22, X) → cO B p K X (df_X5_grow n (nI p) a K) (df_X16_grow n a X) := fun e1 e2 => by
    rw [e1, e2]
    exact cO_id h (by decide)
  have u1 : p * 7 + 5 < 112 := by omega
  have u2 : p * 7 + 5 < 2 ^ 31 := by omega
  have u3 : p * 7 + 6 < 112 := by omega
  have u4 : p * 7 + 6 < 2 ^ 31 := by omega
  have u5 : p < 2 ^ 31 := by omega
  rcases sg_cases a with ⟨z, _⟩ | ⟨A, hA, z⟩
  · have zb : a < nI b := by
      rw [Int32.lt_iff_toInt_lt] at z ⊢
      rw [nI_toInt (by omega)] at z ⊢
      omega
    exact inv (by simp (disch := (first | assumption | decide | omega)) only [df_X5_grow, df_X5_grow_0, df_X5_grow_38, a12, a14, zb, eq_self, Nat.reduceEqDiff, Nat.reduceLeDiff, nl_1, nl_3, nl_4, nl_5, nl_6, nl_7, nl_22, nl_112, nl_1024, nl_60416, no_1, no_1024, pk_mul, nI_add, nm_ck, nI_clamp, nI_ltI, nI_leI, nI_eq, nb_b2, nb_b1, ↓nb_let, nm_z0, nm_z1, nb_II, nb_IR, nb_RI, nb_RR, nm_IL, nm_IQ, nm_RL, nm_RQ, nm_LI, nm_LR, nm_LL, nm_LQ, nm_QI, nm_QR, nm_QL, nm_QQ, nm_rr, nm_ii, nm_eqm, not_false_eq_true, pk_sub, nm_div, nm_shl, nm_shr, nm_ush, nm_or8, nm_or64, nm_or256, nm_m1, nm_m3, nm_m7, nm_m15, nm_m31, nm_m63, nm_m255, nm_m511, nm_m1023, nm_m2047, nm_m65535, Nat.reduceMod, Nat.reducePow, Nat.reduceAdd, Nat.reduceSub, Nat.reduceMul, nm_bo, nm_bi, nm_rc, nm_ic, nm_ri, nm_rl, nm_rq, nm_ql, nm_qi, nm_li, nm_us, nm_uu, nm_cp, nm_sa31, nm_sa7, nm_m127, nm_m2, nm_nz, nm_nzk, nm_eq32, nm_nzf, if_true, if_false, ↓reduceIte, if_pos, if_neg]) (by simp (disch := (first | assumption | decide | omega)) only [df_X16_grow, df_X16_grow_0, df_X16_grow_20, h3, a13, zb, eq_self, Nat.reduceEqDiff, Nat.reduceLeDiff, nl_0, nl_4, nl_5, nl_6, nl_12, nl_16, nl_22, nl_1023, nl_1024, nl_60416, no_1, no_1024, pk_mul, nI_add, nm_ck, nI_clamp, nI_ltI, nI_leI, nI_eq, nb_b2, nb_b1, ↓nb_let, nm_z0, nm_z1, nb_II, nb_IR, nb_RI, nb_RR, nm_IL, nm_IQ, nm_RL, nm_RQ, nm_LI, nm_LR, nm_LL, nm_LQ, nm_QI, nm_QR, nm_QL, nm_QQ, nm_rr, nm_ii, nm_eqm, not_false_eq_true, pk_sub, nm_div, nm_shl, nm_shr, nm_ush, nm_or8, nm_or64, nm_or256, nm_m1, nm_m3, nm_m7, nm_m15, nm_m31, nm_m63, nm_m255, nm_m511, nm_m1023, nm_m2047, nm_m65535, Nat.reduceMod, Nat.reducePow, Nat.reduceAdd, Nat.reduceSub, Nat.reduceMul, nm_bo, nm_bi, nm_rc, nm_ic, nm_ri, nm_rl, nm_rq, nm_ql, nm_qi, nm_li, nm_us, nm_uu, nm_cp, nm_sa31, nm_sa7, nm_m127, nm_m2, nm_nz, nm_nzk, nm_eq32, nm_nzf, if_true, if_false, ↓reduceIte, if_pos, if_neg])
  · subst z
    have u6 : b < 2 ^ 31 := by omega
    by_cases Ab : A < b
    · exact inv (by simp (disch := (first | assumption | decide | omega)) only [df_X5_grow, df_X5_grow_0, df_X5_grow_38, a12, a14, Ab, eq_self, Nat.reduceEqDiff, Nat.reduceLeDiff, nl_1, nl_3, nl_4, nl_5, nl_6, nl_7, nl_22, nl_112, nl_1024, nl_60416, no_1, no_1024, pk_mul, nI_add, nm_ck, nI_clamp, nI_ltI, nI_leI, nI_eq, nb_b2, nb_b1, ↓nb_let, nm_z0, nm_z1, nb_II, nb_IR, nb_RI, nb_RR, nm_IL, nm_IQ, nm_RL, nm_RQ, nm_LI, nm_LR, nm_LL, nm_LQ, nm_QI, nm_QR, nm_QL, nm_QQ, nm_rr, nm_ii, nm_eqm, not_false_eq_true, pk_sub, nm_div, nm_shl, nm_shr, nm_ush, nm_or8, nm_or64, nm_or256, nm_m1, nm_m3, nm_m7, nm_m15, nm_m31, nm_m63, nm_m255, nm_m511, nm_m1023, nm_m2047, nm_m65535, Nat.reduceMod, Nat.reducePow, Nat.reduceAdd, Nat.reduceSub, Nat.reduceMul, nm_bo, nm_bi, nm_rc, nm_ic, nm_ri, nm_rl, nm_rq, nm_ql, nm_qi, nm_li, nm_us, nm_uu, nm_cp, nm_sa31, nm_sa7, nm_m127, nm_m2, nm_nz, nm_nzk, nm_eq32, nm_nzf, if_true, if_false, ↓reduceIte, if_pos, if_neg]) (by simp (disch := (first | assumption | decide | omega)) only [df_X16_grow, df_X16_grow_0, df_X16_grow_20, h3, a13, Ab, eq_self, Nat.reduceEqDiff, Nat.reduceLeDiff, nl_0, nl_4, nl_5, nl_6, nl_12, nl_16, nl_22, nl_1023, nl_1024, nl_60416, no_1, no_1024, pk_mul, nI_add, nm_ck, nI_clamp, nI_ltI, nI_leI, nI_eq, nb_b2, nb_b1, ↓nb_let, nm_z0, nm_z1, nb_II, nb_IR, nb_RI, nb_RR, nm_IL, nm_IQ, nm_RL, nm_RQ, nm_LI, nm_LR, nm_LL, nm_LQ, nm_QI, nm_QR, nm_QL, nm_QQ, nm_rr, nm_ii, nm_eqm, not_false_eq_true, pk_sub, nm_div, nm_shl, nm_shr, nm_ush, nm_or8, nm_or64, nm_or256, nm_m1, nm_m3, nm_m7, nm_m15, nm_m31, nm_m63, nm_m255, nm_m511, nm_m1023, nm_m2047, nm_m65535, Nat.reduceMod, Nat.reducePow, Nat.reduceAdd, Nat.reduceSub, Nat.reduceMul, nm_bo, nm_bi, nm_rc, nm_ic, nm_ri, nm_rl, nm_rq, nm_ql, nm_qi, nm_li, nm_us, nm_uu, nm_cp, nm_sa31, nm_sa7, nm_m127, nm_m2, nm_nz, nm_nzk, nm_eq32, nm_nzf, if_true, if_false, ↓reduceIte, if_pos, if_neg])
    by_cases A2 : A ≤ 60416
    · by_cases c : (A + 1023) / 1024 ≤ (e + 1023) / 1024
      · exact grow_s n hn h a12 a13 a14 a15 he Ab hb A2 rfl rfl c a16
      · exact grow_g n hn h a12 a13 a14 a15 he Ab hb A2 rfl rfl c a16
    · exact inv (by simp (disch := (first | assumption | decide | omega)) only [df_X5_grow, df_X5_grow_0, df_X5_grow_38, a12, a14, Ab, A2, eq_self, Nat.reduceEqDiff, Nat.reduceLeDiff, nl_1, nl_3, nl_4, nl_5, nl_6, nl_7, nl_22, nl_112, nl_1024, nl_60416, no_1, no_1024, pk_mul, nI_add, nm_ck, nI_clamp, nI_ltI, nI_leI, nI_eq, nb_b2, nb_b1, ↓nb_let, nm_z0, nm_z1, nb_II, nb_IR, nb_RI, nb_RR, nm_IL, nm_IQ, nm_RL, nm_RQ, nm_LI, nm_LR, nm_LL, nm_LQ, nm_QI, nm_QR, nm_QL, nm_QQ, nm_rr, nm_ii, nm_eqm, not_false_eq_true, pk_sub, nm_div, nm_shl, nm_shr, nm_ush, nm_or8, nm_or64, nm_or256, nm_m1, nm_m3, nm_m7, nm_m15, nm_m31, nm_m63, nm_m255, nm_m511, nm_m1023, nm_m2047, nm_m65535, Nat.reduceMod, Nat.reducePow, Nat.reduceAdd, Nat.reduceSub, Nat.reduceMul, nm_bo, nm_bi, nm_rc, nm_ic, nm_ri, nm_rl, nm_rq, nm_ql, nm_qi, nm_li, nm_us, nm_uu, nm_cp, nm_sa31, nm_sa7, nm_m127, nm_m2, nm_nz, nm_nzk, nm_eq32, nm_nzf, if_true, if_false, ↓reduceIte, if_pos, if_neg]) (by simp (disch := (first | assumption | decide | omega)) only [df_X16_grow, df_X16_grow_0, df_X16_grow_20, h3, a13, Ab, A2, eq_self, Nat.reduceEqDiff, Nat.reduceLeDiff, nl_0, nl_4, nl_5, nl_6, nl_12, nl_16, nl_22, nl_1023, nl_1024, nl_60416, no_1, no_1024, pk_mul, nI_add, nm_ck, nI_clamp, nI_ltI, nI_leI, nI_eq, nb_b2, nb_b1, ↓nb_let, nm_z0, nm_z1, nb_II, nb_IR, nb_RI, nb_RR, nm_IL, nm_IQ, nm_RL, nm_RQ, nm_LI, nm_LR, nm_LL, nm_LQ, nm_QI, nm_QR, nm_QL, nm_QQ, nm_rr, nm_ii, nm_eqm, not_false_eq_true, pk_sub, nm_div, nm_shl, nm_shr, nm_ush, nm_or8, nm_or64, nm_or256, nm_m1, nm_m3, nm_m7, nm_m15, nm_m31, nm_m63, nm_m255, nm_m511, nm_m1023, nm_m2047, nm_m65535, Nat.reduceMod, Nat.reducePow, Nat.reduceAdd, Nat.reduceSub, Nat.reduceMul, nm_bo, nm_bi, nm_rc, nm_ic, nm_ri, nm_rl, nm_rq, nm_ql, nm_qi, nm_li, nm_us, nm_uu, nm_cp, nm_sa31, nm_sa7, nm_m127, nm_m2, nm_nz, nm_nzk, nm_eq32, nm_nzf, if_true, if_false, ↓reduceIte, if_pos, if_neg])

theorem vc_s {f : Nat → Int32} {a b k : Nat} (h : ¬ (b ≤ a + k ∧ a + k < b + k)) : upd (va_cpy f f a b k) (b + k) (va_cpy f f a b k (a + k)) = va_cpy f f a b (k + 1) := by
  rw [va_o h]
  funext j
  by_cases c : j = b + k
  · rw [c, nm_us, va_i (by omega)]
    exact congrArg f (by omega)
  · rw [nm_un c]
    by_cases d : b ≤ j ∧ j < b + k
    · rw [va_i d, va_i (by omega)]
    · rw [va_o d, va_o (by omega)]
theorem vc_0 (f : Nat → Int32) (a b : Nat) : va_cpy f f a b 0 = f := by
  funext j
  exact va_o (by omega)
/-- registers and what is saved, copied to the child -/
theorem fk_56 (n : Nat) (hn : 1024 < n) {T : St × St} {p c w : Nat} (hp : p < 16) (hc : c < 16) (hne : p ≠ c) (hw : w < 2) (e12 : sI T.1 12 = nI p) (ew : sR T.1 8 p = nI w) : df_X16_fork_56 n n (nI c) (nI 0) T = df_X16_fork_210 n n (nI c) (nI 0) (pR (pR (pR (pR (pR (pR (pR T.1 5 (upd (sR T.1 5) c (sR T.1 5 p))) 6 (upd (sR T.1 6) c (sR T.1 6 p))) 8 (upd (sR T.1 8) c (nI w))) 9 (upd (va_cpy (sR T.1 9) (sR T.1 9) (32 * p) (32 * c) 32) (32 * c + 10) (nI 0))) 10 (upd (sR T.1 10) c (sR T.1 10 p + nI 4))) 11 (va_cpy (sR T.1 11) (sR T.1 11) (32 * p) (32 * c) 32)) 12 (upd (sR T.1 12) c (sR T.1 12 p)), T.2) := by
  obtain ⟨m, hm⟩ := nm_lq (fun m k => df_X16_fork_56 n m (nI c) (nI k) (pR (pR T.1 9 (va_cpy (sR T.1 9) (sR T.1 9) (32 * p) (32 * c) k)) 11 (va_cpy (sR T.1 11) (sR T.1 11) (32 * p) (32 * c) k), T.2)) 32 n (by omega) (fun k m hk => by
    have u1 : 32 * p + k < 512 := by omega
    have u2 : 32 * p + k < 2 ^ 31 := by omega
    have u3 : 32 * c + k < 512 := by omega
    have u4 : 32 * c + k < 2 ^ 31 := by omega
    have u5 : k < 2 ^ 31 := by omega
    have k32 : ¬ 32 ≤ k := by omega
    have v9 := vc_s (f := sR T.1 9) (a := 32 * p) (b := 32 * c) (k := k) (by omega)
    have v11 := vc_s (f := sR T.1 11) (a := 32 * p) (b := 32 * c) (k := k) (by omega)
    rw [show df_X16_fork_56 n (m + 1) = dF_X16_fork_56 n (df_X16_fork_56 n m) from rfl]
    simp (disch := (first | assumption | decide | omega)) only [dF_X16_fork_56, k32, e12, v9, v11, eq_self, Nat.reduceEqDiff, Nat.reduceLeDiff, nm_rc (a := 11) (b := 9) (by decide), nl_0, nl_1, nl_4, nl_5, nl_6, nl_8, nl_9, nl_10, nl_11, nl_12, nl_16, nl_32, nl_512, no_1, no_1024, pk_mul, nI_add, nm_ck, nI_clamp, nI_ltI, nI_leI, nI_eq, nb_b2, nb_b1, ↓nb_let, nm_z0, nm_z1, nb_II, nb_IR, nb_RI, nb_RR, nm_IL, nm_IQ, nm_RL, nm_RQ, nm_LI, nm_LR, nm_LL, nm_LQ, nm_QI, nm_QR, nm_QL, nm_QQ, nm_rr, nm_ii, nm_eqm, not_false_eq_true, pk_sub, nm_div, nm_shl, nm_shr, nm_ush, nm_or8, nm_or64, nm_or256, nm_m1, nm_m3, nm_m7, nm_m15, nm_m31, nm_m63, nm_m255, nm_m511, nm_m1023, nm_m2047, nm_m65535, Nat.reduceMod, Nat.reducePow, Nat.reduceAdd, Nat.reduceSub, Nat.reduceMul, nm_bo, nm_bi, nm_rc, nm_ic, nm_ri, nm_rl, nm_rq, nm_ql, nm_qi, nm_li, nm_us, nm_uu, nm_cp, nm_sa31, nm_sa7, nm_m127, nm_m2, nm_nz, nm_nzk, nm_eq32, nm_nzf, if_true, if_false, ↓reduceIte, if_pos, if_neg])
  rw [vc_0, vc_0, nm_r0, nm_r0] at hm
  have u1 : 32 * c + 10 < 512 := by omega
  have u2 : 32 * c + 10 < 2 ^ 31 := by omega
  have u3 : p < 2 ^ 31 := by omega
  have u4 : c < 2 ^ 31 := by omega
  refine Eq.trans hm ?_
  show df_X16_fork_56 n (m + 1) (nI c) (nI 32) _ = _
  rw [show df_X16_fork_56 n (m + 1) = dF_X16_fork_56 n (df_X16_fork_56 n m) from rfl]
  have cw : w = 0 ∨ w = 1 := by omega
  rcases cw with e | e
  · subst e
    simp (disch := (first | assumption | decide | omega)) only [dF_X16_fork_56, e12, ew, eq_self, Nat.reduceEqDiff, Nat.reduceLeDiff, nm_rc (a := 6) (b := 5) (by decide), nm_rc (a := 8) (b := 5) (by decide), nm_rc (a := 8) (b := 6) (by decide), nm_rc (a := 9) (b := 5) (by decide), nm_rc (a := 9) (b := 6) (by decide), nm_rc (a := 9) (b := 8) (by decide), nm_rc (a := 10) (b := 5) (by decide), nm_rc (a := 10) (b := 6) (by decide), nm_rc (a := 10) (b := 8) (by decide), nm_rc (a := 10) (b := 9) (by decide), nm_rc (a := 11) (b := 5) (by decide), nm_rc (a := 11) (b := 6) (by decide), nm_rc (a := 11) (b := 8) (by decide), nm_rc (a := 11) (b := 9) (by decide), nm_rc (a := 11) (b := 10) (by decide), nm_rc (a := 12) (b := 5) (by decide), nm_rc (a := 12) (b := 6) (by decide), nm_rc (a := 12) (b := 8) (by decide), nm_rc (a := 12) (b := 9) (by decide), nm_rc (a := 12) (b := 10) (by decide), nm_rc (a := 12) (b := 11) (by decide), nl_0, nl_1, nl_4, nl_5, nl_6, nl_8, nl_9, nl_10, nl_11, nl_12, nl_16, nl_32, nl_512, no_1, no_1024, pk_mul, nI_add, nm_ck, nI_clamp, nI_ltI, nI_leI, nI_eq, nb_b2, nb_b1, ↓nb_let, nm_z0, nm_z1, nb_II, nb_IR, nb_RI, nb_RR, nm_IL, nm_IQ, nm_RL, nm_RQ, nm_LI, nm_LR, nm_LL, nm_LQ, nm_QI, nm_QR, nm_QL, nm_QQ, nm_rr, nm_ii, nm_eqm, not_false_eq_true, pk_sub, nm_div, nm_shl, nm_shr, nm_ush, nm_or8, nm_or64, nm_or256, nm_m1, nm_m3, nm_m7, nm_m15, nm_m31, nm_m63, nm_m255, nm_m511, nm_m1023, nm_m2047, nm_m65535, Nat.reduceMod, Nat.reducePow, Nat.reduceAdd, Nat.reduceSub, Nat.reduceMul, nm_bo, nm_bi, nm_rc, nm_ic, nm_ri, nm_rl, nm_rq, nm_ql, nm_qi, nm_li, nm_us, nm_uu, nm_cp, nm_sa31, nm_sa7, nm_m127, nm_m2, nm_nz, nm_nzk, nm_eq32, nm_nzf, if_true, if_false, ↓reduceIte, if_pos, if_neg]
  · subst e
    simp (disch := (first | assumption | decide | omega)) only [dF_X16_fork_56, e12, ew, eq_self, Nat.reduceEqDiff, Nat.reduceLeDiff, nm_rc (a := 6) (b := 5) (by decide), nm_rc (a := 8) (b := 5) (by decide), nm_rc (a := 8) (b := 6) (by decide), nm_rc (a := 9) (b := 5) (by decide), nm_rc (a := 9) (b := 6) (by decide), nm_rc (a := 9) (b := 8) (by decide), nm_rc (a := 10) (b := 5) (by decide), nm_rc (a := 10) (b := 6) (by decide), nm_rc (a := 10) (b := 8) (by decide), nm_rc (a := 10) (b := 9) (by decide), nm_rc (a := 11) (b := 5) (by decide), nm_rc (a := 11) (b := 6) (by decide), nm_rc (a := 11) (b := 8) (by decide), nm_rc (a := 11) (b := 9) (by decide), nm_rc (a := 11) (b := 10) (by decide), nm_rc (a := 12) (b := 5) (by decide), nm_rc (a := 12) (b := 6) (by decide), nm_rc (a := 12) (b := 8) (by decide), nm_rc (a := 12) (b := 9) (by decide), nm_rc (a := 12) (b := 10) (by decide), nm_rc (a := 12) (b := 11) (by decide), nl_0, nl_1, nl_4, nl_5, nl_6, nl_8, nl_9, nl_10, nl_11, nl_12, nl_16, nl_32, nl_512, no_1, no_1024, pk_mul, nI_add, nm_ck, nI_clamp, nI_ltI, nI_leI, nI_eq, nb_b2, nb_b1, ↓nb_let, nm_z0, nm_z1, nb_II, nb_IR, nb_RI, nb_RR, nm_IL, nm_IQ, nm_RL, nm_RQ, nm_LI, nm_LR, nm_LL, nm_LQ, nm_QI, nm_QR, nm_QL, nm_QQ, nm_rr, nm_ii, nm_eqm, not_false_eq_true, pk_sub, nm_div, nm_shl, nm_shr, nm_ush, nm_or8, nm_or64, nm_or256, nm_m1, nm_m3, nm_m7, nm_m15, nm_m31, nm_m63, nm_m255, nm_m511, nm_m1023, nm_m2047, nm_m65535, Nat.reduceMod, Nat.reducePow, Nat.reduceAdd, Nat.reduceSub, Nat.reduceMul, nm_bo, nm_bi, nm_rc, nm_ic, nm_ri, nm_rl, nm_rq, nm_ql, nm_qi, nm_li, nm_us, nm_uu, nm_cp, nm_sa31, nm_sa7, nm_m127, nm_m2, nm_nz, nm_nzk, nm_eq32, nm_nzf, if_true, if_false, ↓reduceIte, if_pos, if_neg]
/-- handlers and descriptors -/
theorem fk_210 (n : Nat) (hn : 1024 < n) {T : St × St} {p c : Nat} (hp : p < 16) (hc : c < 16) (hne : p ≠ c) (e12 : sI T.1 12 = nI p) : df_X16_fork_210 n n (nI c) (nI 0) T = df_X16_fork_274 n n (nI c) (nI 0) (pR (pR T.1 13 (va_cpy (sR T.1 13) (sR T.1 13) (16 * p) (16 * c) 16)) 14 (va_cpy (sR T.1 14) (sR T.1 14) (16 * p) (16 * c) 16), T.2) := by
  obtain ⟨m, hm⟩ := nm_lq (fun m k => df_X16_fork_210 n m (nI c) (nI k) (pR (pR T.1 13 (va_cpy (sR T.1 13) (sR T.1 13) (16 * p) (16 * c) k)) 14 (va_cpy (sR T.1 14) (sR T.1 14) (16 * p) (16 * c) k), T.2)) 16 n (by omega) (fun k m hk => by
    have u1 : 16 * p + k < 256 := by omega
    have u2 : 16 * p + k < 2 ^ 31 := by omega
    have u3 : 16 * c + k < 256 := by omega
    have u4 : 16 * c + k < 2 ^ 31 := by omega
    have u5 : k < 2 ^ 31 := by omega
    have k16 : ¬ 16 ≤ k := by omega
    have v9 := vc_s (f := sR T.1 13) (a := 16 * p) (b := 16 * c) (k := k) (by omega)
    have v11 := vc_s (f := sR T.1 14) (a := 16 * p) (b := 16 * c) (k := k) (by omega)
    rw [show df_X16_fork_210 n (m + 1) = dF_X16_fork_210 n (df_X16_fork_210 n m) from rfl]
    simp (disch := (first | assumption | decide | omega)) only [dF_X16_fork_210, k16, e12, v9, v11, eq_self, Nat.reduceEqDiff, Nat.reduceLeDiff, nm_rc (a := 14) (b := 13) (by decide), nl_0, nl_1, nl_12, nl_13, nl_14, nl_16, nl_256, no_1, no_1024, pk_mul, nI_add, nm_ck, nI_clamp, nI_ltI, nI_leI, nI_eq, nb_b2, nb_b1, ↓nb_let, nm_z0, nm_z1, nb_II, nb_IR, nb_RI, nb_RR, nm_IL, nm_IQ, nm_RL, nm_RQ, nm_LI, nm_LR, nm_LL, nm_LQ, nm_QI, nm_QR, nm_QL, nm_QQ, nm_rr, nm_ii, nm_eqm, not_false_eq_true, pk_sub, nm_div, nm_shl, nm_shr, nm_ush, nm_or8, nm_or64, nm_or256, nm_m1, nm_m3, nm_m7, nm_m15, nm_m31, nm_m63, nm_m255, nm_m511, nm_m1023, nm_m2047, nm_m65535, Nat.reduceMod, Nat.reducePow, Nat.reduceAdd, Nat.reduceSub, Nat.reduceMul, nm_bo, nm_bi, nm_rc, nm_ic, nm_ri, nm_rl, nm_rq, nm_ql, nm_qi, nm_li, nm_us, nm_uu, nm_cp, nm_sa31, nm_sa7, nm_m127, nm_m2, nm_nz, nm_nzk, nm_eq32, nm_nzf, if_true, if_false, ↓reduceIte, if_pos, if_neg])
  rw [vc_0, vc_0, nm_r0, nm_r0] at hm
  refine Eq.trans hm ?_
  show df_X16_fork_210 n (m + 1) (nI c) (nI 16) _ = _
  rw [show df_X16_fork_210 n (m + 1) = dF_X16_fork_210 n (df_X16_fork_210 n m) from rfl]
  simp (disch := (first | assumption | decide | omega)) only [dF_X16_fork_210, eq_self, Nat.reduceEqDiff, Nat.reduceLeDiff, nl_0, nl_1, nl_12, nl_13, nl_14, nl_16, nl_256, no_1, no_1024, pk_mul, nI_add, nm_ck, nI_clamp, nI_ltI, nI_leI, nI_eq, nb_b2, nb_b1, ↓nb_let, nm_z0, nm_z1, nb_II, nb_IR, nb_RI, nb_RR, nm_IL, nm_IQ, nm_RL, nm_RQ, nm_LI, nm_LR, nm_LL, nm_LQ, nm_QI, nm_QR, nm_QL, nm_QQ, nm_rr, nm_ii, nm_eqm, not_false_eq_true, pk_sub, nm_div, nm_shl, nm_shr, nm_ush, nm_or8, nm_or64, nm_or256, nm_m1, nm_m3, nm_m7, nm_m15, nm_m31, nm_m63, nm_m255, nm_m511, nm_m1023, nm_m2047, nm_m65535, Nat.reduceMod, Nat.reducePow, Nat.reduceAdd, Nat.reduceSub, Nat.reduceMul, nm_bo, nm_bi, nm_rc, nm_ic, nm_ri, nm_rl, nm_rq, nm_ql, nm_qi, nm_li, nm_us, nm_uu, nm_cp, nm_sa31, nm_sa7, nm_m127, nm_m2, nm_nz, nm_nzk, nm_eq32, nm_nzf, if_true, if_false, ↓reduceIte, if_pos, if_neg]
/-- the words -/
theorem fk_358 (n : Nat) (hn : 20000 < n) {T : St × St} {p c : Nat} (hp : p < 16) (hc : c < 16) (hne : p ≠ c) (e12 : sI T.1 12 = nI p) : df_X16_fork_358 n n (nI c) (nI 0) T = some (nI c, (pR T.1 15 (va_cpy (sR T.1 15) (sR T.1 15) (16384 * p) (16384 * c) 16384), T.2)) := by
  obtain ⟨m, hm⟩ := nm_lq (fun m k => df_X16_fork_358 n m (nI c) (nI k) (pR T.1 15 (va_cpy (sR T.1 15) (sR T.1 15) (16384 * p) (16384 * c) k), T.2)) 16384 n (by omega) (fun k m hk => by
    have u1 : 16384 * p + k < 262144 := by omega
    have u2 : 16384 * p + k < 2 ^ 31 := by omega
    have u3 : 16384 * c + k < 262144 := by omega
    have u4 : 16384 * c + k < 2 ^ 31 := by omega
    have u5 : k < 2 ^ 31 := by omega
    have k16 : ¬ 16384 ≤ k := by omega
    have v9 := vc_s (f := sR T.1 15) (a := 16384 * p) (b := 16384 * c) (k := k) (by omega)
    rw [show df_X16_fork_358 n (m + 1) = dF_X16_fork_358 n (df_X16_fork_358 n m) from rfl]
    simp (disch := (first | assumption | decide | omega)) only [dF_X16_fork_358, k16, e12, v9, eq_self, Nat.reduceEqDiff, Nat.reduceLeDiff, nl_1, nl_12, nl_15, nl_16384, nl_262144, no_1, no_1024, pk_mul, nI_add, nm_ck, nI_clamp, nI_ltI, nI_leI, nI_eq, nb_b2, nb_b1, ↓nb_let, nm_z0, nm_z1, nb_II, nb_IR, nb_RI, nb_RR, nm_IL, nm_IQ, nm_RL, nm_RQ, nm_LI, nm_LR, nm_LL, nm_LQ, nm_QI, nm_QR, nm_QL, nm_QQ, nm_rr, nm_ii, nm_eqm, not_false_eq_true, pk_sub, nm_div, nm_shl, nm_shr, nm_ush, nm_or8, nm_or64, nm_or256, nm_m1, nm_m3, nm_m7, nm_m15, nm_m31, nm_m63, nm_m255, nm_m511, nm_m1023, nm_m2047, nm_m65535, Nat.reduceMod, Nat.reducePow, Nat.reduceAdd, Nat.reduceSub, Nat.reduceMul, nm_bo, nm_bi, nm_rc, nm_ic, nm_ri, nm_rl, nm_rq, nm_ql, nm_qi, nm_li, nm_us, nm_uu, nm_cp, nm_sa31, nm_sa7, nm_m127, nm_m2, nm_nz, nm_nzk, nm_eq32, nm_nzf, if_true, if_false, ↓reduceIte, if_pos, if_neg])
  rw [vc_0, nm_r0] at hm
  refine Eq.trans hm ?_
  show df_X16_fork_358 n (m + 1) (nI c) (nI 16384) _ = _
  rw [show df_X16_fork_358 n (m + 1) = dF_X16_fork_358 n (df_X16_fork_358 n m) from rfl]
  simp (disch := (first | assumption | decide | omega)) only [dF_X16_fork_358, eq_self, Nat.reduceEqDiff, Nat.reduceLeDiff, nl_1, nl_12, nl_15, nl_16384, nl_262144, no_1, no_1024, pk_mul, nI_add, nm_ck, nI_clamp, nI_ltI, nI_leI, nI_eq, nb_b2, nb_b1, ↓nb_let, nm_z0, nm_z1, nb_II, nb_IR, nb_RI, nb_RR, nm_IL, nm_IQ, nm_RL, nm_RQ, nm_LI, nm_LR, nm_LL, nm_LQ, nm_QI, nm_QR, nm_QL, nm_QQ, nm_rr, nm_ii, nm_eqm, not_false_eq_true, pk_sub, nm_div, nm_shl, nm_shr, nm_ush, nm_or8, nm_or64, nm_or256, nm_m1, nm_m3, nm_m7, nm_m15, nm_m31, nm_m63, nm_m255, nm_m511, nm_m1023, nm_m2047, nm_m65535, Nat.reduceMod, Nat.reducePow, Nat.reduceAdd, Nat.reduceSub, Nat.reduceMul, nm_bo, nm_bi, nm_rc, nm_ic, nm_ri, nm_rl, nm_rq, nm_ql, nm_qi, nm_li, nm_us, nm_uu, nm_cp, nm_sa31, nm_sa7, nm_m127, nm_m2, nm_nz, nm_nzk, nm_eq32, nm_nzf, if_true, if_false, ↓reduceIte, if_pos, if_neg]
/-- a page is shared -/
theorem rQ_share {w u g b fr ri ho : Nat → Int32} {fu us : Int32} (h : rQ w u g b fr ri ho fu us) {i i0 f : Nat} (hi : i < 1024) (hi0 : i0 < 1024) (hf : f < 256) (e : fr i = -nI 1) (e0 : fr i0 = nI f) (hb : ∀ j : Nat, j < 256 → b (i * 256 + j) = b (i0 * 256 + j)) : 1 ≤ cF fr f ∧ rQ w (upd u f (nI (cF fr f + 1))) (upd g i (g i0)) b (upd fr i (nI f)) (upd ri i (ri i0)) (upd ho f (nI (cF fr f + 1))) fu us := by
  have hne : i0 ≠ i := fun z => by
    rw [z, e] at e0
    exact nk_ne (by omega) e0.symm
  have pos : 0 < cF fr f := cN_p (P := fun j => decide (fr j = nI f)) (i := i0) (decide_eq_true e0) hi0
  obtain ⟨c1, c2⟩ := cF_stand hi hf e
  have cu := cU_ch hf c1
  rw [nm_dt pos, nm_dt (show 0 < cF (upd fr i (nI f)) f by omega)] at cu
  obtain ⟨h1, h2, h3, h4, h5⟩ := h
  refine ⟨by omega, fun k hk => ?_, fun a ha => ?_, fun a h0 ha => ?_, ?_, ?_⟩
  · by_cases c : k = i
    · right
      subst c
      rcases h1 i0 hi0 with q | ⟨f2, r2, a1, a2, a3, a4, a5, a6, a7⟩
      · rw [q.1] at e0
        exact absurd e0.symm (nk_ne (by omega))
      · have ef : f2 = f := nm_inI (by omega) (by omega) (by rw [← a4, e0])
        subst ef
        refine ⟨f2, r2, a1, a2, a3, nm_us, ?_, ?_, fun j hj => ?_⟩
        · rw [nm_us]; exact a5
        · rw [nm_us]; exact a6
        · rw [hb j hj]; exact a7 j hj
    · rw [nm_un c, nm_un c, nm_un c]
      exact h1 k hk
  · by_cases c : a = f
    · rw [c, nm_us, nm_us, c2]
      exact ⟨rfl, rfl⟩
    · rw [nm_un c, nm_un c, c1 a ha c]
      exact h2 a ha
  · rw [nm_un (by omega)]
    exact h3 a h0 ha
  · rw [h4]
    exact congrArg nI (by omega)
  · rw [h5]
    exact congrArg nI (by omega)
theorem rQ_ri {w u g b fr ri ri' ho : Nat → Int32} {fu us : Int32} (h : rQ w u g b fr ri ho fu us) (hr : ∀ i : Nat, i < 1024 → ¬ fr i = -nI 1 → ri' i = ri i) {g' b' : Nat → Int32} (hg : ∀ i : Nat, i < 1024 → g' i = g i) (hb : ∀ i : Nat, i < 1024 → ¬ fr i = -nI 1 → ∀ j : Nat, j < 256 → b' (i * 256 + j) = b (i * 256 + j)) : rQ w u g' b' fr ri' ho fu us := by
  obtain ⟨h1, h2⟩ := h
  refine ⟨fun i hi => ?_, h2⟩
  rcases h1 i hi with ⟨q1, q2⟩ | ⟨f2, r2, a1, a2, a3, a4, a5, a6, a7⟩
  · exact Or.inl ⟨q1, (hg i hi).trans q2⟩
  · have n : ¬ fr i = -nI 1 := fun z => nk_ne (by omega) (a4.symm.trans z)
    exact Or.inr ⟨f2, r2, a1, a2, a3, a4, (hr i hi n).trans a5, (hg i hi).trans a6, fun j hj => (a7 j hj).trans (hb i hi n j hj).symm⟩
/-- pages of the parent, shared with the child: both -/
theorem fk_pages (n : Nat) (hn : 1024 < n) {S T : St × St} {p c : Nat} (hp : p < 16) (hc : c < 16) (hne : p ≠ c) (e12 : sI T.1 12 = nI p) {g0 b' : Nat → Int32} (h : rQ (sR S.1 0) (sR S.1 1) g0 b' (sR T.1 16) (sR T.1 17) (sR T.1 18) (sI S.1 0) (sI T.1 6)) (hg : sR S.1 2 = va_cpy g0 g0 (64 * p) (64 * c) 64) (hb : ∀ j : Nat, j < 16384 → b' (16384 * c + j) = b' (16384 * p + j)) (hf : ∀ k : Nat, k < 64 → sR T.1 16 (64 * c + k) = -nI 1) : ∃ (u fr ri ho : Nat → Int32) (m m' : Nat), df_X6_fork_91 n n (nI p) (nI c) (nI 0) S = df_X6_fork_91 n (m + 1) (nI p) (nI c) (nI 64) (pR S.1 1 u, S.2) ∧ df_X16_fork_274 n n (nI c) (nI 0) T = df_X16_fork_274 n (m' + 1) (nI c) (nI 64) (pR (pR (pR T.1 16 fr) 17 ri) 18 ho, T.2) ∧ rQ (sR S.1 0) u (sR S.1 2) b' fr ri ho (sI S.1 0) (sI T.1 6) ∧ (∀ k : Nat, k < 64 → fr (64 * c + k) = sR T.1 16 (64 * p + k)) ∧ ∀ i : Nat, ¬ (64 * c ≤ i ∧ i < 64 * c + 64) → fr i = sR T.1 16 i := by
  obtain ⟨m, s, t, ⟨u, fr, ri, ho, es, et, i1, i2, i3, i4⟩, f1, f2⟩ := nm_l2 (fun m k s => df_X6_fork_91 n m (nI p) (nI c) (nI k) s) (fun m k t => df_X16_fork_274 n m (nI c) (nI k) t)
    (fun k s t => ∃ (u fr ri ho : Nat → Int32), s = (pR S.1 1 u, S.2) ∧ t = (pR (pR (pR T.1 16 fr) 17 ri) 18 ho, T.2) ∧ rQ (sR S.1 0) u (va_cpy g0 g0 (64 * p) (64 * c) k) b' fr ri ho (sI S.1 0) (sI T.1 6) ∧ (∀ j : Nat, j < k → fr (64 * c + j) = sR T.1 16 (64 * p + j)) ∧ (∀ j : Nat, k ≤ j → j < 64 → fr (64 * c + j) = -nI 1) ∧ ∀ i : Nat, ¬ (64 * c ≤ i ∧ i < 64 * c + 64) → fr i = sR T.1 16 i) 64 n (by omega) (fun k m s t hk ⟨u, fr, ri, ho, es, et, i1, i2, i3, i4⟩ => by
      subst es et
      have u1 : p * 64 + k = 64 * p + k := by omega
      have u2 : 64 * p + k < 1024 := by omega
      have u3 : 64 * p + k < 2 ^ 31 := by omega
      have u4 : 64 * c + k < 1024 := by omega
      have u5 : 64 * c + k < 2 ^ 31 := by omega
      have u6 : k < 2 ^ 31 := by omega
      have k64 : ¬ 64 ≤ k := by omega
      have q12 : sI (pR (pR (pR T.1 16 fr) 17 ri) 18 ho) 12 = nI p := e12
      have gk : sR S.1 2 (64 * p + k) = va_cpy g0 g0 (64 * p) (64 * c) k (64 * p + k) := by
        rw [hg, va_o (by omega), va_o (by omega)]
      have vs := vc_s (f := g0) (a := 64 * p) (b := 64 * c) (k := k) (by omega)
      have fk : fr (64 * p + k) = sR T.1 16 (64 * p + k) := i4 _ (by omega)
      rcases i1.1 (64 * p + k) u2 with ⟨y1, y2⟩ | ⟨f, r, y1, y2, y3, y4, y5, y6, y7⟩
      · rw [← gk] at y2
        refine ⟨_, _, ⟨u, fr, ri, ho, rfl, rfl, ?_, fun j hj => ?_, fun j h1 h2 => i3 j (by omega) h2, i4⟩, ?_, ?_⟩
        · rw [← vs, ← gk, y2]
          have z : va_cpy g0 g0 (64 * p) (64 * c) k (64 * c + k) = nI 0 := by
            rcases i1.1 (64 * c + k) u4 with ⟨x1, x2⟩ | ⟨f, r, x1, x2, x3, x4, _⟩
            · exact x2
            · exact absurd (x4.symm.trans (i3 k (by omega) hk)) (nk_ne (by omega))
          rw [← z, nm_u0]
          exact i1
        · by_cases cj : j = k
          · rw [cj, i3 k (by omega) hk, ← fk, y1]
          · exact i2 j (by omega)
        · show df_X6_fork_91 n (m + 1) _ _ _ _ = df_X6_fork_91 n m _ _ (nI (k + 1)) _
          rw [show df_X6_fork_91 n (m + 1) = dF_X6_fork_91 n (df_X6_fork_91 n m) from rfl]
          simp (disch := (first | assumption | decide | omega)) only [dF_X6_fork_91, df_X6_fork_133, k64, u1, y2, eq_self, Nat.reduceEqDiff, Nat.reduceLeDiff, nl_0, nl_1, nl_2, nl_3, nl_4, nl_5, nl_6, nl_7, nl_10, nl_16, nl_31, nl_32, nl_33, nl_64, nl_112, nl_256, nl_528, nl_1024, no_1, no_1024, pk_mul, nI_add, nm_ck, nI_clamp, nI_ltI, nI_leI, nI_eq, nb_b2, nb_b1, ↓nb_let, nm_z0, nm_z1, nb_II, nb_IR, nb_RI, nb_RR, nm_IL, nm_IQ, nm_RL, nm_RQ, nm_LI, nm_LR, nm_LL, nm_LQ, nm_QI, nm_QR, nm_QL, nm_QQ, nm_rr, nm_ii, nm_eqm, not_false_eq_true, pk_sub, nm_div, nm_shl, nm_shr, nm_ush, nm_or8, nm_or64, nm_or256, nm_m1, nm_m3, nm_m7, nm_m15, nm_m31, nm_m63, nm_m255, nm_m511, nm_m1023, nm_m2047, nm_m65535, Nat.reduceMod, Nat.reducePow, Nat.reduceAdd, Nat.reduceSub, Nat.reduceMul, nm_bo, nm_bi, nm_rc, nm_ic, nm_ri, nm_rl, nm_rq, nm_ql, nm_qi, nm_li, nm_us, nm_uu, nm_cp, nm_sa31, nm_sa7, nm_m127, nm_m2, nm_nz, nm_nzk, nm_eq32, nm_nzf, if_true, if_false, ↓reduceIte, if_pos, if_neg]
        · show df_X16_fork_274 n (m + 1) _ _ _ = df_X16_fork_274 n m _ (nI (k + 1)) _
          rw [show df_X16_fork_274 n (m + 1) = dF_X16_fork_274 n (df_X16_fork_274 n m) from rfl]
          simp (disch := (first | assumption | decide | omega)) only [dF_X16_fork_274, df_X16_fork_350, k64, e12, y1, eq_self, Nat.reduceEqDiff, Nat.reduceLeDiff, nl_0, nl_1, nl_12, nl_16, nl_17, nl_64, nl_1024, no_1, no_1024, pk_mul, nI_add, nm_ck, nI_clamp, nI_ltI, nI_leI, nI_eq, nb_b2, nb_b1, ↓nb_let, nm_z0, nm_z1, nb_II, nb_IR, nb_RI, nb_RR, nm_IL, nm_IQ, nm_RL, nm_RQ, nm_LI, nm_LR, nm_LL, nm_LQ, nm_QI, nm_QR, nm_QL, nm_QQ, nm_rr, nm_ii, nm_eqm, not_false_eq_true, pk_sub, nm_div, nm_shl, nm_shr, nm_ush, nm_or8, nm_or64, nm_or256, nm_m1, nm_m3, nm_m7, nm_m15, nm_m31, nm_m63, nm_m255, nm_m511, nm_m1023, nm_m2047, nm_m65535, Nat.reduceMod, Nat.reducePow, Nat.reduceAdd, Nat.reduceSub, Nat.reduceMul, nm_bo, nm_bi, nm_rc, nm_ic, nm_ri, nm_rl, nm_rq, nm_ql, nm_qi, nm_li, nm_us, nm_uu, nm_cp, nm_sa31, nm_sa7, nm_m127, nm_m2, nm_nz, nm_nzk, nm_eq32, nm_nzf, if_true, if_false, ↓reduceIte, if_pos, if_neg]
      · have y6' := y6
        rw [← gk] at y6
        obtain ⟨pos, sh⟩ := rQ_share i1 u4 u2 y1 (i3 k (by omega) hk) y4 (fun j hj => by
          have := hb (k * 256 + j) (by omega)
          rw [show 16384 * c + (k * 256 + j) = (64 * c + k) * 256 + j by omega, show 16384 * p + (k * 256 + j) = (64 * p + k) * 256 + j by omega] at this
          exact this)
        obtain ⟨uf, hf'⟩ := i1.2.1 f y1
        have cl := cF_le fr f
        have w1 : (f * 8 + r) / 2 ^ 3 = f := by omega
        have w2 : f * 8 + r < 2 ^ 31 := by omega
        have w3 : ¬ f * 8 + r = 0 := by omega
        have w4 : f < 2 ^ 31 := by omega
        have w5 : f < 1024 := by omega
        refine ⟨_, _, ⟨upd u f (nI (cF fr f + 1)), upd fr (64 * c + k) (nI f), upd ri (64 * c + k) (ri (64 * p + k)), upd ho f (nI (cF fr f + 1)), rfl, rfl, ?_, fun j hj => ?_, fun j h1 h2 => ?_, fun i hi => ?_⟩, ?_, ?_⟩
        · rw [← vs]
          exact sh
        · by_cases cj : j = k
          · rw [cj, nm_us, ← fk, y4]
          · rw [nm_un (by omega)]; exact i2 j (by omega)
        · rw [nm_un (by omega)]; exact i3 j (by omega) h2
        · rw [nm_un (by omega)]; exact i4 i hi
        · show df_X6_fork_91 n (m + 1) _ _ _ _ = df_X6_fork_91 n m _ _ (nI (k + 1)) _
          rw [show df_X6_fork_91 n (m + 1) = dF_X6_fork_91 n (df_X6_fork_91 n m) from rfl]
          generalize cF fr f = x at *
          simp (disch := (first | assumption | decide | omega)) only [dF_X6_fork_91, df_X6_fork_133, k64, u1, y6, w1, w3, uf, eq_self, Nat.reduceEqDiff, Nat.reduceLeDiff, nl_0, nl_1, nl_2, nl_3, nl_4, nl_5, nl_6, nl_7, nl_10, nl_16, nl_31, nl_32, nl_33, nl_64, nl_112, nl_256, nl_528, nl_1024, no_1, no_1024, pk_mul, nI_add, nm_ck, nI_clamp, nI_ltI, nI_leI, nI_eq, nb_b2, nb_b1, ↓nb_let, nm_z0, nm_z1, nb_II, nb_IR, nb_RI, nb_RR, nm_IL, nm_IQ, nm_RL, nm_RQ, nm_LI, nm_LR, nm_LL, nm_LQ, nm_QI, nm_QR, nm_QL, nm_QQ, nm_rr, nm_ii, nm_eqm, not_false_eq_true, pk_sub, nm_div, nm_shl, nm_shr, nm_ush, nm_or8, nm_or64, nm_or256, nm_m1, nm_m3, nm_m7, nm_m15, nm_m31, nm_m63, nm_m255, nm_m511, nm_m1023, nm_m2047, nm_m65535, Nat.reduceMod, Nat.reducePow, Nat.reduceAdd, Nat.reduceSub, Nat.reduceMul, nm_bo, nm_bi, nm_rc, nm_ic, nm_ri, nm_rl, nm_rq, nm_ql, nm_qi, nm_li, nm_us, nm_uu, nm_cp, nm_sa31, nm_sa7, nm_m127, nm_m2, nm_nz, nm_nzk, nm_eq32, nm_nzf, if_true, if_false, ↓reduceIte, if_pos, if_neg]
        · show df_X16_fork_274 n (m + 1) _ _ _ = df_X16_fork_274 n m _ (nI (k + 1)) _
          rw [show df_X16_fork_274 n (m + 1) = dF_X16_fork_274 n (df_X16_fork_274 n m) from rfl]
          generalize cF fr f = x at *
          have x0 : ¬ x = 0 := by omega
          have x1 : x < 2 ^ 31 := by omega
          simp (disch := (first | assumption | decide | omega)) only [dF_X16_fork_274, df_X16_fork_350, df_X16_stand_26, df_X16_stand_0, df_X16_stand, k64, e12, y4, hf', x0, eq_self, Nat.reduceEqDiff, Nat.reduceLeDiff, nm_rc (a := 17) (b := 16) (by decide), nm_rc (a := 18) (b := 16) (by decide), nm_rc (a := 18) (b := 17) (by decide), nl_0, nl_1, nl_6, nl_12, nl_16, nl_17, nl_18, nl_64, nl_1024, no_1, no_1024, pk_mul, nI_add, nm_ck, nI_clamp, nI_ltI, nI_leI, nI_eq, nb_b2, nb_b1, ↓nb_let, nm_z0, nm_z1, nb_II, nb_IR, nb_RI, nb_RR, nm_IL, nm_IQ, nm_RL, nm_RQ, nm_LI, nm_LR, nm_LL, nm_LQ, nm_QI, nm_QR, nm_QL, nm_QQ, nm_rr, nm_ii, nm_eqm, not_false_eq_true, pk_sub, nm_div, nm_shl, nm_shr, nm_ush, nm_or8, nm_or64, nm_or256, nm_m1, nm_m3, nm_m7, nm_m15, nm_m31, nm_m63, nm_m255, nm_m511, nm_m1023, nm_m2047, nm_m65535, Nat.reduceMod, Nat.reducePow, Nat.reduceAdd, Nat.reduceSub, Nat.reduceMul, nm_bo, nm_bi, nm_rc, nm_ic, nm_ri, nm_rl, nm_rq, nm_ql, nm_qi, nm_li, nm_us, nm_uu, nm_cp, nm_sa31, nm_sa7, nm_m127, nm_m2, nm_nz, nm_nzk, nm_eq32, nm_nzf, if_true, if_false, ↓reduceIte, if_pos, if_neg]) S T ⟨_, _, _, _, by rw [nm_r0], by rw [nm_r0, nm_r0, nm_r0], by rw [vc_0]; exact h, fun j hj => by omega, fun j _ h2 => hf j h2, fun _ _ => rfl⟩
  subst es et
  refine ⟨u, fr, ri, ho, m, m, f1, f2, ?_, i2, i4⟩
  rw [hg]
  exact i1

theorem fk_share (n : Nat) (hn : 1024 < n) {D : St} {de kd th po rt ip isf nam : Nat → Int32} (h : rD (sR D 0) (sR D 1) (sR D 2) (sR D 4) de kd th po rt ip isf nam) {p c : Nat} (hp : p < 16) (hc : c < 16) (hne : p ≠ c) (hd : ∀ d : Nat, d < 16 → de (c * 16 + d) = -nI 1) : ∃ l op : Nat → Int32, df_X10_share n (nI p) (nI c) D = some (dU D l op (sR D 2) (sR D 4)) ∧ rD l op (sR D 2) (sR D 4) (va_cpy de de (p * 16) (c * 16) 16) kd th po rt ip isf nam := by
  obtain ⟨m, D', ⟨l, op, eD, hr⟩, e⟩ := nm_l1 (S := St) (fun g k D => df_X10_share_2 n g (nI p) (nI c) (nI k) D) (fun k D' => ∃ l op : Nat → Int32, D' = dU D l op (sR D 2) (sR D 4) ∧ rD l op (sR D 2) (sR D 4) (va_cpy de de (p * 16) (c * 16) k) kd th po rt ip isf nam) 16 n (by omega) (fun k m s hk ⟨l, op, eD, hr⟩ => by
    subst eD
    have u1 : p * 16 + k < 256 := by omega
    have u2 : p * 16 + k < 2 ^ 31 := by omega
    have u3 : k < 2 ^ 31 := by omega
    have k16 : ¬ 16 ≤ k := by omega
    have k0 : ¬ k < 0 := by omega
    have k16' : k < 16 := hk
    have u4 : c * 16 + k < 256 := by omega
    have vs := vc_s (f := de) (a := p * 16) (b := c * 16) (k := k) (by omega)
    have ck : va_cpy de de (p * 16) (c * 16) k (c * 16 + k) = -nI 1 := by
      rw [va_o (by omega)]; exact hd k hk
    rcases hr.1 (p * 16 + k) u1 with ⟨y1, y2⟩ | ⟨o, ho, y1, y2⟩
    · refine ⟨_, ⟨l, op, rfl, ?_⟩, ?_⟩
      · rw [← vs, y1, ← ck, nm_u0]
        exact hr
      · have y2' : sR (dU D l op (sR D 2) (sR D 4)) 0 (p * 16 + k) = nI 0 := y2
        have z0 : (nI 0 - nI 1 : Int32) = -nI 1 := by decide
        show df_X10_share_2 n (m + 1) _ _ _ _ = df_X10_share_2 n m _ _ (nI (k + 1)) _
        rw [show df_X10_share_2 n (m + 1) = dF_X10_share_2 n (df_X10_share_2 n m) from rfl]
        generalize dU D l op (sR D 2) (sR D 4) = E at y2'
        simp (disch := (first | assumption | decide | omega)) only [dF_X10_share_2, df_X10_share_29, df_X10_openingOf_27, df_X10_openingOf_10, df_X10_openingOf_0, df_X10_openingOf, k16, k0, k16', y2', z0, nm_ltm, eq_self, Nat.reduceEqDiff, Nat.reduceLeDiff, nl_0, nl_1, nl_16, nl_256, no_1, no_1024, pk_mul, nI_add, nm_ck, nI_clamp, nI_ltI, nI_leI, nI_eq, nb_b2, nb_b1, ↓nb_let, nm_z0, nm_z1, nb_II, nb_IR, nb_RI, nb_RR, nm_IL, nm_IQ, nm_RL, nm_RQ, nm_LI, nm_LR, nm_LL, nm_LQ, nm_QI, nm_QR, nm_QL, nm_QQ, nm_rr, nm_ii, nm_eqm, not_false_eq_true, pk_sub, nm_div, nm_shl, nm_shr, nm_ush, nm_or8, nm_or64, nm_or256, nm_m1, nm_m3, nm_m7, nm_m15, nm_m31, nm_m63, nm_m255, nm_m511, nm_m1023, nm_m2047, nm_m65535, Nat.reduceMod, Nat.reducePow, Nat.reduceAdd, Nat.reduceSub, Nat.reduceMul, nm_bo, nm_bi, nm_rc, nm_ic, nm_ri, nm_rl, nm_rq, nm_ql, nm_qi, nm_li, nm_us, nm_uu, nm_cp, nm_sa31, nm_sa7, nm_m127, nm_m2, nm_nz, nm_nzk, nm_eq32, nm_nzf, if_true, if_false, ↓reduceIte, if_pos, if_neg]
    · have kn : ¬ kd o = nI 0 := fun z => by
        have p0 : 0 < cD (va_cpy de de (p * 16) (c * 16) k) o := cN_p (P := fun j => decide (va_cpy de de (p * 16) (c * 16) k j = nI o)) (i := p * 16 + k) (decide_eq_true y1) u1
        rcases hr.2.1 o ho with ⟨z1, z2, z3⟩ | ⟨k, t, w1, w2, w3, w4, _⟩
        · omega
        · have := nm_inI (by omega) (by omega) (w4.symm.trans z)
          omega
      have lk := rD_link hr u4 ho ck kn
      have cl := cD_le (va_cpy de de (p * 16) (c * 16) k) o
      have lt := nk_linkTo n (D := dU D l op (sR D 2) (sR D 4)) hc hk ho (c := cD (va_cpy de de (p * 16) (c * 16) k) o) (by omega) (rD_c hr ho kn)
      rw [dU_dU] at lt
      have lt : df_X10_linkTo n (nI c) (nI k) (nI o) (dU D l op (sR D 2) (sR D 4)) = some (dU D (upd l (c * 16 + k) (nI (o + 1))) (upd op (o * 5 + 1) (nI (cD (va_cpy de de (p * 16) (c * 16) k) o + 1))) (sR D 2) (sR D 4)) := lt
      refine ⟨_, ⟨upd l (c * 16 + k) (nI (o + 1)), upd op (o * 5 + 1) (nI (cD (va_cpy de de (p * 16) (c * 16) k) o + 1)), rfl, ?_⟩, ?_⟩
      · rw [← vs, y1]
        exact lk
      · have y2' : sR (dU D l op (sR D 2) (sR D 4)) 0 (p * 16 + k) = nI (o + 1) := y2
        have o0 : ¬ o < 0 := by omega
        have o1 : o < 2 ^ 31 := by omega
        have o2 : o + 1 < 2 ^ 31 := by omega
        show df_X10_share_2 n (m + 1) _ _ _ _ = df_X10_share_2 n m _ _ (nI (k + 1)) _
        rw [show df_X10_share_2 n (m + 1) = dF_X10_share_2 n (df_X10_share_2 n m) from rfl]
        generalize dU D l op (sR D 2) (sR D 4) = E at y2' lt
        simp (disch := (first | assumption | decide | omega)) only [dF_X10_share_2, df_X10_share_29, df_X10_openingOf_27, df_X10_openingOf_10, df_X10_openingOf_0, df_X10_openingOf, k16, k0, k16', y2', Nat.add_sub_cancel, o0, lt, eq_self, Nat.reduceEqDiff, Nat.reduceLeDiff, nl_0, nl_1, nl_16, nl_256, no_1, no_1024, pk_mul, nI_add, nm_ck, nI_clamp, nI_ltI, nI_leI, nI_eq, nb_b2, nb_b1, ↓nb_let, nm_z0, nm_z1, nb_II, nb_IR, nb_RI, nb_RR, nm_IL, nm_IQ, nm_RL, nm_RQ, nm_LI, nm_LR, nm_LL, nm_LQ, nm_QI, nm_QR, nm_QL, nm_QQ, nm_rr, nm_ii, nm_eqm, not_false_eq_true, pk_sub, nm_div, nm_shl, nm_shr, nm_ush, nm_or8, nm_or64, nm_or256, nm_m1, nm_m3, nm_m7, nm_m15, nm_m31, nm_m63, nm_m255, nm_m511, nm_m1023, nm_m2047, nm_m65535, Nat.reduceMod, Nat.reducePow, Nat.reduceAdd, Nat.reduceSub, Nat.reduceMul, nm_bo, nm_bi, nm_rc, nm_ic, nm_ri, nm_rl, nm_rq, nm_ql, nm_qi, nm_li, nm_us, nm_uu, nm_cp, nm_sa31, nm_sa7, nm_m127, nm_m2, nm_nz, nm_nzk, nm_eq32, nm_nzf, if_true, if_false, ↓reduceIte, if_pos, if_neg]) D ⟨sR D 0, sR D 1, (dU_id D).symm, by rw [vc_0]; exact h⟩
  subst eD
  refine ⟨l, op, Eq.trans e ?_, hr⟩
  show df_X10_share_2 n (m + 1) _ _ (nI 16) _ = _
  rw [show df_X10_share_2 n (m + 1) = dF_X10_share_2 n (df_X10_share_2 n m) from rfl]
  simp (disch := (first | assumption | decide | omega)) only [dF_X10_share_2, eq_self, Nat.reduceEqDiff, Nat.reduceLeDiff, nl_0, nl_16, no_1, no_1024, pk_mul, nI_add, nm_ck, nI_clamp, nI_ltI, nI_leI, nI_eq, nb_b2, nb_b1, ↓nb_let, nm_z0, nm_z1, nb_II, nb_IR, nb_RI, nb_RR, nm_IL, nm_IQ, nm_RL, nm_RQ, nm_LI, nm_LR, nm_LL, nm_LQ, nm_QI, nm_QR, nm_QL, nm_QQ, nm_rr, nm_ii, nm_eqm, not_false_eq_true, pk_sub, nm_div, nm_shl, nm_shr, nm_ush, nm_or8, nm_or64, nm_or256, nm_m1, nm_m3, nm_m7, nm_m15, nm_m31, nm_m63, nm_m255, nm_m511, nm_m1023, nm_m2047, nm_m65535, Nat.reduceMod, Nat.reducePow, Nat.reduceAdd, Nat.reduceSub, Nat.reduceMul, nm_bo, nm_bi, nm_rc, nm_ic, nm_ri, nm_rl, nm_rq, nm_ql, nm_qi, nm_li, nm_us, nm_uu, nm_cp, nm_sa31, nm_sa7, nm_m127, nm_m2, nm_nz, nm_nzk, nm_eq32, nm_nzf, if_true, if_false, ↓reduceIte, if_pos, if_neg]
/-- the class's fork, up to the pages -/
theorem fk_0 (n : Nat) (hn : 1024 < n) (M : St × St) {p c : Nat} (hp : p < 16) (hc : c < 16) : df_X6_fork n (nI p) (nI c) M = df_X6_fork_91 n n (nI p) (nI c) (nI 0) (pR (pR (pR (pR (pR M.1 2 (va_cpy (sR M.1 2) (sR M.1 2) (64 * p) (64 * c) 64)) 3 (va_cpy (sR M.1 3) (sR M.1 3) (p * 33) (c * 33) 33)) 4 (va_cpy (sR M.1 4) (sR M.1 4) (p * 33) (c * 33) 33)) 5 (va_cpy (sR M.1 5) (sR M.1 5) (p * 16) (c * 16) 16)) 6 (ab (sR M.1 6) c 7), M.2) := by
  have mk := nk_makeAbsent n hn M hc
  have u1 : p * 33 + 33 ≤ 528 := by omega
  have u2 : c * 33 + 33 ≤ 528 := by omega
  have u3 : p * 16 + 16 ≤ 256 := by omega
  have u4 : c * 16 + 16 ≤ 256 := by omega
  have u5 : 64 * p + 64 ≤ 1024 := by omega
  have u6 : 64 * c + 64 ≤ 1024 := by omega
  have u7 : p * 2 ^ 6 = 64 * p := by omega
  have u8 : c * 2 ^ 6 = 64 * c := by omega
  have u9 : p * 64 = 64 * p := by omega
  have u10 : c * 64 = 64 * c := by omega
  simp (disch := (first | assumption | decide | omega)) only [df_X6_fork, df_X6_fork_0, mk, u7, u8, u9, u10, eq_self, Nat.reduceEqDiff, Nat.reduceLeDiff, nm_rc (a := 3) (b := 2) (by decide), nm_rc (a := 4) (b := 2) (by decide), nm_rc (a := 4) (b := 3) (by decide), nm_rc (a := 5) (b := 2) (by decide), nm_rc (a := 5) (b := 3) (by decide), nm_rc (a := 5) (b := 4) (by decide), nm_rc (a := 6) (b := 2) (by decide), nm_rc (a := 6) (b := 3) (by decide), nm_rc (a := 6) (b := 4) (by decide), nm_rc (a := 6) (b := 5) (by decide), nl_0, nl_2, nl_3, nl_4, nl_5, nl_6, nl_16, nl_31, nl_33, nl_64, nl_256, nl_528, nl_1024, no_1, no_1024, pk_mul, nI_add, nm_ck, nI_clamp, nI_ltI, nI_leI, nI_eq, nb_b2, nb_b1, ↓nb_let, nm_z0, nm_z1, nb_II, nb_IR, nb_RI, nb_RR, nm_IL, nm_IQ, nm_RL, nm_RQ, nm_LI, nm_LR, nm_LL, nm_LQ, nm_QI, nm_QR, nm_QL, nm_QQ, nm_rr, nm_ii, nm_eqm, not_false_eq_true, pk_sub, nm_div, nm_shl, nm_shr, nm_ush, nm_or8, nm_or64, nm_or256, nm_m1, nm_m3, nm_m7, nm_m15, nm_m31, nm_m63, nm_m255, nm_m511, nm_m1023, nm_m2047, nm_m65535, Nat.reduceMod, Nat.reducePow, Nat.reduceAdd, Nat.reduceSub, Nat.reduceMul, nm_bo, nm_bi, nm_rc, nm_ic, nm_ri, nm_rl, nm_rq, nm_ql, nm_qi, nm_li, nm_us, nm_uu, nm_cp, nm_sa31, nm_sa7, nm_m127, nm_m2, nm_nz, nm_nzk, nm_eq32, nm_nzf, if_true, if_false, ↓reduceIte, if_pos, if_neg]
theorem fk_1 (n : Nat) {S : St × St} {p c w b e : Nat} (hp : p < 16) (hc : c < 16) (g : Int32 → Int32 → Int32 → St × St → Option (St × St)) (e4 : sR S.1 6 (p * 7 + 4) = nI w) (e5 : sR S.1 6 (p * 7 + 5) = nI b) (e6 : sR S.1 6 (p * 7 + 6) = nI e) (hne : p ≠ c) : dF_X6_fork_91 n g (nI p) (nI c) (nI 64) S = some (pQ (pR (pR S.1 3 (upd (upd (sR S.1 3) (c * 33 + 10) (nI 0)) (c * 33 + 32) (sR S.1 3 (c * 33 + 32) + nI 4))) 6 (upd (upd (upd (upd (upd (sR S.1 6) (c * 7) (nI 1)) (c * 7 + 1) (nI p)) (c * 7 + 4) (nI w)) (c * 7 + 5) (nI b)) (c * 7 + 6) (nI e))) 0 (vp_updL (sQ S.1 0) c (-1)), S.2) := by
  have u1 : c * 7 < 112 := by omega
  have u2 : c * 7 + 1 < 112 := by omega
  have u3 : c * 7 + 4 < 112 := by omega
  have u4 : c * 7 + 5 < 112 := by omega
  have u5 : c * 7 + 6 < 112 := by omega
  have u6 : p * 7 + 4 < 112 := by omega
  have u7 : p * 7 + 5 < 112 := by omega
  have u8 : p * 7 + 6 < 112 := by omega
  have u9 : c * 33 + 10 < 528 := by omega
  have u10 : c * 33 + 32 < 528 := by omega
  have u11 : c < 2 ^ 31 := by omega
  have r4 : upd (upd (sR S.1 6) (c * 7) (nI 1)) (c * 7 + 1) (nI p) (p * 7 + 4) = nI w := by rw [nm_un (by omega), nm_un (by omega)]; exact e4
  have r5 : upd (upd (upd (sR S.1 6) (c * 7) (nI 1)) (c * 7 + 1) (nI p)) (c * 7 + 4) (nI w) (p * 7 + 5) = nI b := by rw [nm_un (by omega), nm_un (by omega), nm_un (by omega)]; exact e5
  have r6 : upd (upd (upd (upd (sR S.1 6) (c * 7) (nI 1)) (c * 7 + 1) (nI p)) (c * 7 + 4) (nI w)) (c * 7 + 5) (nI b) (p * 7 + 6) = nI e := by rw [nm_un (by omega), nm_un (by omega), nm_un (by omega), nm_un (by omega)]; exact e6
  have r32 : upd (sR S.1 3) (c * 33 + 10) (nI 0) (c * 33 + 32) = sR S.1 3 (c * 33 + 32) := nm_un (by omega)
  simp (disch := (first | assumption | decide | omega)) only [dF_X6_fork_91, Nat.add_zero, r4, r5, r6, r32, eq_self, Nat.reduceEqDiff, Nat.reduceLeDiff, nm_rc (a := 6) (b := 3) (by decide), nl_0, nl_1, nl_2, nl_3, nl_4, nl_5, nl_6, nl_7, nl_10, nl_16, nl_31, nl_32, nl_33, nl_64, nl_112, nl_256, nl_528, nl_1024, no_1, no_1024, pk_mul, nI_add, nm_ck, nI_clamp, nI_ltI, nI_leI, nI_eq, nb_b2, nb_b1, ↓nb_let, nm_z0, nm_z1, nb_II, nb_IR, nb_RI, nb_RR, nm_IL, nm_IQ, nm_RL, nm_RQ, nm_LI, nm_LR, nm_LL, nm_LQ, nm_QI, nm_QR, nm_QL, nm_QQ, nm_rr, nm_ii, nm_eqm, not_false_eq_true, pk_sub, nm_div, nm_shl, nm_shr, nm_ush, nm_or8, nm_or64, nm_or256, nm_m1, nm_m3, nm_m7, nm_m15, nm_m31, nm_m63, nm_m255, nm_m511, nm_m1023, nm_m2047, nm_m65535, Nat.reduceMod, Nat.reducePow, Nat.reduceAdd, Nat.reduceSub, Nat.reduceMul, nm_bo, nm_bi, nm_rc, nm_ic, nm_ri, nm_rl, nm_rq, nm_ql, nm_qi, nm_li, nm_us, nm_uu, nm_cp, nm_sa31, nm_sa7, nm_m127, nm_m2, nm_nz, nm_nzk, nm_eq32, nm_nzf, if_true, if_false, ↓reduceIte, if_pos, if_neg]
/-- the child in both -/
theorem rP1_child {M X : St × St} {p c w b e : Nat} (hc : c < 16) (hp : p < 16) (hne : p ≠ c) (hw : w < 2) (hb : b ≤ 61440) (he : e ≤ 61440) (s0 : sR M.1 6 (c * 7) = nI 1) (s1 : sR M.1 6 (c * 7 + 1) = nI p) (s2 : sR M.1 6 (c * 7 + 2) = nI 0) (s3 : sR M.1 6 (c * 7 + 3) = nI 0) (s4 : sR M.1 6 (c * 7 + 4) = nI w) (s5 : sR M.1 6 (c * 7 + 5) = nI b) (s6 : sR M.1 6 (c * 7 + 6) = nI e) (x1 : sR X.1 1 c = nI 1) (x2 : sR X.1 2 c = nI p) (x4 : sR X.1 4 c = nI 0) (x8 : sR X.1 8 c = nI w) (x5 : sR X.1 5 c = nI b) (x6 : sR X.1 6 c = nI e) (x7 : sR X.1 7 c = -nI 1) (hf : ∀ k : Nat, k < 60 → e ≤ k * 1024 → sR X.1 16 (64 * c + k) = -nI 1) (hr : ∀ r : Nat, r < 32 → sR M.1 3 (c * 33 + r) = sR X.1 9 (32 * c + r)) (hpl : sR M.1 3 (c * 33 + 32) = sR X.1 10 c) (hh : ∀ k : Nat, k < 16 → sR M.1 5 (c * 16 + k) = sR X.1 13 (16 * c + k)) (hq : sQ M.1 0 c = sQ X.1 0 c) (hs : w = 1 → (∀ r : Nat, r < 32 → sR M.1 4 (c * 33 + r) = sR X.1 11 (32 * c + r)) ∧ sR M.1 4 (c * 33 + 32) = sR X.1 12 c) : rP1 M X c := by
  refine ⟨1, 0, w, b, e, by omega, by omega, hw, hb, he, s0, x1, s1.trans x2.symm, Or.inr ⟨p, hp, x2⟩, ?_, fun z => by omega, fun _ => s2, s3, x4, s4, x8, s5, x5, s6, x6, hf, fun _ => ⟨hr, hpl⟩, fun _ => ⟨hh, hq, hs⟩, fun z => by omega, fun z => by omega, fun _ => x7⟩
  rw [x2]
  exact fun z => hne (nm_inI (by omega) (by omega) z)

/-- the reference's rows that a fork changes -/
def fkX (Y : St × St) (r1 r2 r5 r6 r8 r9 r10 r11 r12 r13 r14 r15 r16 r17 r18 : Nat → Int32) : St × St := ((pR (pR (pR (pR (pR (pR (pR (pR (pR (pR (pR (pR (pR (pR (pR Y.1 1 r1) 2 r2) 5 r5) 6 r6) 8 r8) 9 r9) 10 r10) 11 r11) 12 r12) 13 r13) 14 r14) 15 r15) 16 r16) 17 r17) 18 r18), Y.2)
theorem fkX_1 (Y : St × St) (r1 r2 r5 r6 r8 r9 r10 r11 r12 r13 r14 r15 r16 r17 r18 : Nat → Int32) : sR (fkX Y r1 r2 r5 r6 r8 r9 r10 r11 r12 r13 r14 r15 r16 r17 r18).1 1 = r1 := by
  unfold fkX
  rw [nb_RR, if_neg (show ¬ (1 : Nat) = 18 by decide), nb_RR, if_neg (show ¬ (1 : Nat) = 17 by decide), nb_RR, if_neg (show ¬ (1 : Nat) = 16 by decide), nb_RR, if_neg (show ¬ (1 : Nat) = 15 by decide), nb_RR, if_neg (show ¬ (1 : Nat) = 14 by decide), nb_RR, if_neg (show ¬ (1 : Nat) = 13 by decide), nb_RR, if_neg (show ¬ (1 : Nat) = 12 by decide), nb_RR, if_neg (show ¬ (1 : Nat) = 11 by decide), nb_RR, if_neg (show ¬ (1 : Nat) = 10 by decide), nb_RR, if_neg (show ¬ (1 : Nat) = 9 by decide), nb_RR, if_neg (show ¬ (1 : Nat) = 8 by decide), nb_RR, if_neg (show ¬ (1 : Nat) = 6 by decide), nb_RR, if_neg (show ¬ (1 : Nat) = 5 by decide), nb_RR, if_neg (show ¬ (1 : Nat) = 2 by decide), nb_RR, if_pos rfl]
theorem fkX_2 (Y : St × St) (r1 r2 r5 r6 r8 r9 r10 r11 r12 r13 r14 r15 r16 r17 r18 : Nat → Int32) : sR (fkX Y r1 r2 r5 r6 r8 r9 r10 r11 r12 r13 r14 r15 r16 r17 r18).1 2 = r2 := by
  unfold fkX
  rw [nb_RR, if_neg (show ¬ (2 : Nat) = 18 by decide), nb_RR, if_neg (show ¬ (2 : Nat) = 17 by decide), nb_RR, if_neg (show ¬ (2 : Nat) = 16 by decide), nb_RR, if_neg (show ¬ (2 : Nat) = 15 by decide), nb_RR, if_neg (show ¬ (2 : Nat) = 14 by decide), nb_RR, if_neg (show ¬ (2 : Nat) = 13 by decide), nb_RR, if_neg (show ¬ (2 : Nat) = 12 by decide), nb_RR, if_neg (show ¬ (2 : Nat) = 11 by decide), nb_RR, if_neg (show ¬ (2 : Nat) = 10 by decide), nb_RR, if_neg (show ¬ (2 : Nat) = 9 by decide), nb_RR, if_neg (show ¬ (2 : Nat) = 8 by decide), nb_RR, if_neg (show ¬ (2 : Nat) = 6 by decide), nb_RR, if_neg (show ¬ (2 : Nat) = 5 by decide), nb_RR, if_pos rfl]
theorem fkX_5 (Y : St × St) (r1 r2 r5 r6 r8 r9 r10 r11 r12 r13 r14 r15 r16 r17 r18 : Nat → Int32) : sR (fkX Y r1 r2 r5 r6 r8 r9 r10 r11 r12 r13 r14 r15 r16 r17 r18).1 5 = r5 := by
  unfold fkX
  rw [nb_RR, if_neg (show ¬ (5 : Nat) = 18 by decide), nb_RR, if_neg (show ¬ (5 : Nat) = 17 by decide), nb_RR, if_neg (show ¬ (5 : Nat) = 16 by decide), nb_RR, if_neg (show ¬ (5 : Nat) = 15 by decide), nb_RR, if_neg (show ¬ (5 : Nat) = 14 by decide), nb_RR, if_neg (show ¬ (5 : Nat) = 13 by decide), nb_RR, if_neg (show ¬ (5 : Nat) = 12 by decide), nb_RR, if_neg (show ¬ (5 : Nat) = 11 by decide), nb_RR, if_neg (show ¬ (5 : Nat) = 10 by decide), nb_RR, if_neg (show ¬ (5 : Nat) = 9 by decide), nb_RR, if_neg (show ¬ (5 : Nat) = 8 by decide), nb_RR, if_neg (show ¬ (5 : Nat) = 6 by decide), nb_RR, if_pos rfl]
theorem fkX_6 (Y : St × St) (r1 r2 r5 r6 r8 r9 r10 r11 r12 r13 r14 r15 r16 r17 r18 : Nat → Int32) : sR (fkX Y r1 r2 r5 r6 r8 r9 r10 r11 r12 r13 r14 r15 r16 r17 r18).1 6 = r6 := by
  unfold fkX
  rw [nb_RR, if_neg (show ¬ (6 : Nat) = 18 by decide), nb_RR, if_neg (show ¬ (6 : Nat) = 17 by decide), nb_RR, if_neg (show ¬ (6 : Nat) = 16 by decide), nb_RR, if_neg (show ¬ (6 : Nat) = 15 by decide), nb_RR, if_neg (show ¬ (6 : Nat) = 14 by decide), nb_RR, if_neg (show ¬ (6 : Nat) = 13 by decide), nb_RR, if_neg (show ¬ (6 : Nat) = 12 by decide), nb_RR, if_neg (show ¬ (6 : Nat) = 11 by decide), nb_RR, if_neg (show ¬ (6 : Nat) = 10 by decide), nb_RR, if_neg (show ¬ (6 : Nat) = 9 by decide), nb_RR, if_neg (show ¬ (6 : Nat) = 8 by decide), nb_RR, if_pos rfl]
theorem fkX_8 (Y : St × St) (r1 r2 r5 r6 r8 r9 r10 r11 r12 r13 r14 r15 r16 r17 r18 : Nat → Int32) : sR (fkX Y r1 r2 r5 r6 r8 r9 r10 r11 r12 r13 r14 r15 r16 r17 r18).1 8 = r8 := by
  unfold fkX
  rw [nb_RR, if_neg (show ¬ (8 : Nat) = 18 by decide), nb_RR, if_neg (show ¬ (8 : Nat) = 17 by decide), nb_RR, if_neg (show ¬ (8 : Nat) = 16 by decide), nb_RR, if_neg (show ¬ (8 : Nat) = 15 by decide), nb_RR, if_neg (show ¬ (8 : Nat) = 14 by decide), nb_RR, if_neg (show ¬ (8 : Nat) = 13 by decide), nb_RR, if_neg (show ¬ (8 : Nat) = 12 by decide), nb_RR, if_neg (show ¬ (8 : Nat) = 11 by decide), nb_RR, if_neg (show ¬ (8 : Nat) = 10 by decide), nb_RR, if_neg (show ¬ (8 : Nat) = 9 by decide), nb_RR, if_pos rfl]
theorem fkX_9 (Y : St × St) (r1 r2 r5 r6 r8 r9 r10 r11 r12 r13 r14 r15 r16 r17 r18 : Nat → Int32) : sR (fkX Y r1 r2 r5 r6 r8 r9 r10 r11 r12 r13 r14 r15 r16 r17 r18).1 9 = r9 := by
  unfold fkX
  rw [nb_RR, if_neg (show ¬ (9 : Nat) = 18 by decide), nb_RR, if_neg (show ¬ (9 : Nat) = 17 by decide), nb_RR, if_neg (show ¬ (9 : Nat) = 16 by decide), nb_RR, if_neg (show ¬ (9 : Nat) = 15 by decide), nb_RR, if_neg (show ¬ (9 : Nat) = 14 by decide), nb_RR, if_neg (show ¬ (9 : Nat) = 13 by decide), nb_RR, if_neg (show ¬ (9 : Nat) = 12 by decide), nb_RR, if_neg (show ¬ (9 : Nat) = 11 by decide), nb_RR, if_neg (show ¬ (9 : Nat) = 10 by decide), nb_RR, if_pos rfl]
theorem fkX_10 (Y : St × St) (r1 r2 r5 r6 r8 r9 r10 r11 r12 r13 r14 r15 r16 r17 r18 : Nat → Int32) : sR (fkX Y r1 r2 r5 r6 r8 r9 r10 r11 r12 r13 r14 r15 r16 r17 r18).1 10 = r10 := by
  unfold fkX
  rw [nb_RR, if_neg (show ¬ (10 : Nat) = 18 by decide), nb_RR, if_neg (show ¬ (10 : Nat) = 17 by decide), nb_RR, if_neg (show ¬ (10 : Nat) = 16 by decide), nb_RR, if_neg (show ¬ (10 : Nat) = 15 by decide), nb_RR, if_neg (show ¬ (10 : Nat) = 14 by decide), nb_RR, if_neg (show ¬ (10 : Nat) = 13 by decide), nb_RR, if_neg (show ¬ (10 : Nat) = 12 by decide), nb_RR, if_neg (show ¬ (10 : Nat) = 11 by decide), nb_RR, if_pos rfl]
theorem fkX_11 (Y : St × St) (r1 r2 r5 r6 r8 r9 r10 r11 r12 r13 r14 r15 r16 r17 r18 : Nat → Int32) : sR (fkX Y r1 r2 r5 r6 r8 r9 r10 r11 r12 r13 r14 r15 r16 r17 r18).1 11 = r11 := by
  unfold fkX
  rw [nb_RR, if_neg (show ¬ (11 : Nat) = 18 by decide), nb_RR, if_neg (show ¬ (11 : Nat) = 17 by decide), nb_RR, if_neg (show ¬ (11 : Nat) = 16 by decide), nb_RR, if_neg (show ¬ (11 : Nat) = 15 by decide), nb_RR, if_neg (show ¬ (11 : Nat) = 14 by decide), nb_RR, if_neg (show ¬ (11 : Nat) = 13 by decide), nb_RR, if_neg (show ¬ (11 : Nat) = 12 by decide), nb_RR, if_pos rfl]
theorem fkX_12 (Y : St × St) (r1 r2 r5 r6 r8 r9 r10 r11 r12 r13 r14 r15 r16 r17 r18 : Nat → Int32) : sR (fkX Y r1 r2 r5 r6 r8 r9 r10 r11 r12 r13 r14 r15 r16 r17 r18).1 12 = r12 := by
  unfold fkX
  rw [nb_RR, if_neg (show ¬ (12 : Nat) = 18 by decide), nb_RR, if_neg (show ¬ (12 : Nat) = 17 by decide), nb_RR, if_neg (show ¬ (12 : Nat) = 16 by decide), nb_RR, if_neg (show ¬ (12 : Nat) = 15 by decide), nb_RR, if_neg (show ¬ (12 : Nat) = 14 by decide), nb_RR, if_neg (show ¬ (12 : Nat) = 13 by decide), nb_RR, if_pos rfl]
theorem fkX_13 (Y : St × St) (r1 r2 r5 r6 r8 r9 r10 r11 r12 r13 r14 r15 r16 r17 r18 : Nat → Int32) : sR (fkX Y r1 r2 r5 r6 r8 r9 r10 r11 r12 r13 r14 r15 r16 r17 r18).1 13 = r13 := by
  unfold fkX
  rw [nb_RR, if_neg (show ¬ (13 : Nat) = 18 by decide), nb_RR, if_neg (show ¬ (13 : Nat) = 17 by decide), nb_RR, if_neg (show ¬ (13 : Nat) = 16 by decide), nb_RR, if_neg (show ¬ (13 : Nat) = 15 by decide), nb_RR, if_neg (show ¬ (13 : Nat) = 14 by decide), nb_RR, if_pos rfl]
theorem fkX_14 (Y : St × St) (r1 r2 r5 r6 r8 r9 r10 r11 r12 r13 r14 r15 r16 r17 r18 : Nat → Int32) : sR (fkX Y r1 r2 r5 r6 r8 r9 r10 r11 r12 r13 r14 r15 r16 r17 r18).1 14 = r14 := by
  unfold fkX
  rw [nb_RR, if_neg (show ¬ (14 : Nat) = 18 by decide), nb_RR, if_neg (show ¬ (14 : Nat) = 17 by decide), nb_RR, if_neg (show ¬ (14 : Nat) = 16 by decide), nb_RR, if_neg (show ¬ (14 : Nat) = 15 by decide), nb_RR, if_pos rfl]
theorem fkX_15 (Y : St × St) (r1 r2 r5 r6 r8 r9 r10 r11 r12 r13 r14 r15 r16 r17 r18 : Nat → Int32) : sR (fkX Y r1 r2 r5 r6 r8 r9 r10 r11 r12 r13 r14 r15 r16 r17 r18).1 15 = r15 := by
  unfold fkX
  rw [nb_RR, if_neg (show ¬ (15 : Nat) = 18 by decide), nb_RR, if_neg (show ¬ (15 : Nat) = 17 by decide), nb_RR, if_neg (show ¬ (15 : Nat) = 16 by decide), nb_RR, if_pos rfl]
theorem fkX_16 (Y : St × St) (r1 r2 r5 r6 r8 r9 r10 r11 r12 r13 r14 r15 r16 r17 r18 : Nat → Int32) : sR (fkX Y r1 r2 r5 r6 r8 r9 r10 r11 r12 r13 r14 r15 r16 r17 r18).1 16 = r16 := by
  unfold fkX
  rw [nb_RR, if_neg (show ¬ (16 : Nat) = 18 by decide), nb_RR, if_neg (show ¬ (16 : Nat) = 17 by decide), nb_RR, if_pos rfl]
theorem fkX_17 (Y : St × St) (r1 r2 r5 r6 r8 r9 r10 r11 r12 r13 r14 r15 r16 r17 r18 : Nat → Int32) : sR (fkX Y r1 r2 r5 r6 r8 r9 r10 r11 r12 r13 r14 r15 r16 r17 r18).1 17 = r17 := by
  unfold fkX
  rw [nb_RR, if_neg (show ¬ (17 : Nat) = 18 by decide), nb_RR, if_pos rfl]
theorem fkX_18 (Y : St × St) (r1 r2 r5 r6 r8 r9 r10 r11 r12 r13 r14 r15 r16 r17 r18 : Nat → Int32) : sR (fkX Y r1 r2 r5 r6 r8 r9 r10 r11 r12 r13 r14 r15 r16 r17 r18).1 18 = r18 := by
  unfold fkX
  rw [nb_RR, if_pos rfl]
theorem fkX_o (Y : St × St) (r1 r2 r5 r6 r8 r9 r10 r11 r12 r13 r14 r15 r16 r17 r18 : Nat → Int32) {k : Nat} (h : k = 0 ∨ k = 3 ∨ k = 4 ∨ k = 7 ∨ 19 ≤ k) : sR (fkX Y r1 r2 r5 r6 r8 r9 r10 r11 r12 r13 r14 r15 r16 r17 r18).1 k = sR Y.1 k := by
  unfold fkX
  rw [nb_RR, if_neg (show ¬ (k : Nat) = 18 by omega), nb_RR, if_neg (show ¬ (k : Nat) = 17 by omega), nb_RR, if_neg (show ¬ (k : Nat) = 16 by omega), nb_RR, if_neg (show ¬ (k : Nat) = 15 by omega), nb_RR, if_neg (show ¬ (k : Nat) = 14 by omega), nb_RR, if_neg (show ¬ (k : Nat) = 13 by omega), nb_RR, if_neg (show ¬ (k : Nat) = 12 by omega), nb_RR, if_neg (show ¬ (k : Nat) = 11 by omega), nb_RR, if_neg (show ¬ (k : Nat) = 10 by omega), nb_RR, if_neg (show ¬ (k : Nat) = 9 by omega), nb_RR, if_neg (show ¬ (k : Nat) = 8 by omega), nb_RR, if_neg (show ¬ (k : Nat) = 6 by omega), nb_RR, if_neg (show ¬ (k : Nat) = 5 by omega), nb_RR, if_neg (show ¬ (k : Nat) = 2 by omega), nb_RR, if_neg (show ¬ (k : Nat) = 1 by omega)]
theorem fkX_i (Y : St × St) (r1 r2 r5 r6 r8 r9 r10 r11 r12 r13 r14 r15 r16 r17 r18 : Nat → Int32) (k : Nat) : sI (fkX Y r1 r2 r5 r6 r8 r9 r10 r11 r12 r13 r14 r15 r16 r17 r18).1 k = sI Y.1 k := by
  unfold fkX
  simp only [nb_IR]
theorem fkX_l (Y : St × St) (r1 r2 r5 r6 r8 r9 r10 r11 r12 r13 r14 r15 r16 r17 r18 : Nat → Int32) (k : Nat) : sL (fkX Y r1 r2 r5 r6 r8 r9 r10 r11 r12 r13 r14 r15 r16 r17 r18).1 k = sL Y.1 k := by
  unfold fkX
  simp only [nm_LR]
theorem fkX_q (Y : St × St) (r1 r2 r5 r6 r8 r9 r10 r11 r12 r13 r14 r15 r16 r17 r18 : Nat → Int32) : sQ (fkX Y r1 r2 r5 r6 r8 r9 r10 r11 r12 r13 r14 r15 r16 r17 r18).1 0 = sQ Y.1 0 := by
  unfold fkX
  simp only [nm_QR]
theorem fkX_2n (Y : St × St) (r1 r2 r5 r6 r8 r9 r10 r11 r12 r13 r14 r15 r16 r17 r18 : Nat → Int32) : (fkX Y r1 r2 r5 r6 r8 r9 r10 r11 r12 r13 r14 r15 r16 r17 r18).2 = Y.2 := by
  unfold fkX
  rfl
def fkM (M : St × St) (r1 r2 r3 r4 r5 r6 : Nat → Int32) (sl : Nat → Int64) : St := pQ (pR (pR (pR (pR (pR (pR M.1 1 r1) 2 r2) 3 r3) 4 r4) 5 r5) 6 r6) 0 sl
theorem fkM_1 (M : St × St) (r1 r2 r3 r4 r5 r6 : Nat → Int32) (sl : Nat → Int64) : sR (fkM M r1 r2 r3 r4 r5 r6 sl) 1 = r1 := by
  unfold fkM
  rw [nm_RQ, nb_RR, if_neg (show ¬ (1 : Nat) = 6 by decide), nb_RR, if_neg (show ¬ (1 : Nat) = 5 by decide), nb_RR, if_neg (show ¬ (1 : Nat) = 4 by decide), nb_RR, if_neg (show ¬ (1 : Nat) = 3 by decide), nb_RR, if_neg (show ¬ (1 : Nat) = 2 by decide), nb_RR, if_pos rfl]
theorem fkM_2 (M : St × St) (r1 r2 r3 r4 r5 r6 : Nat → Int32) (sl : Nat → Int64) : sR (fkM M r1 r2 r3 r4 r5 r6 sl) 2 = r2 := by
  unfold fkM
  rw [nm_RQ, nb_RR, if_neg (show ¬ (2 : Nat) = 6 by decide), nb_RR, if_neg (show ¬ (2 : Nat) = 5 by decide), nb_RR, if_neg (show ¬ (2 : Nat) = 4 by decide), nb_RR, if_neg (show ¬ (2 : Nat) = 3 by decide), nb_RR, if_pos rfl]
theorem fkM_3 (M : St × St) (r1 r2 r3 r4 r5 r6 : Nat → Int32) (sl : Nat → Int64) : sR (fkM M r1 r2 r3 r4 r5 r6 sl) 3 = r3 := by
  unfold fkM
  rw [nm_RQ, nb_RR, if_neg (show ¬ (3 : Nat) = 6 by decide), nb_RR, if_neg (show ¬ (3 : Nat) = 5 by decide), nb_RR, if_neg (show ¬ (3 : Nat) = 4 by decide), nb_RR, if_pos rfl]
theorem fkM_4 (M : St × St) (r1 r2 r3 r4 r5 r6 : Nat → Int32) (sl : Nat → Int64) : sR (fkM M r1 r2 r3 r4 r5 r6 sl) 4 = r4 := by
  unfold fkM
  rw [nm_RQ, nb_RR, if_neg (show ¬ (4 : Nat) = 6 by decide), nb_RR, if_neg (show ¬ (4 : Nat) = 5 by decide), nb_RR, if_pos rfl]
theorem fkM_5 (M : St × St) (r1 r2 r3 r4 r5 r6 : Nat → Int32) (sl : Nat → Int64) : sR (fkM M r1 r2 r3 r4 r5 r6 sl) 5 = r5 := by
  unfold fkM
  rw [nm_RQ, nb_RR, if_neg (show ¬ (5 : Nat) = 6 by decide), nb_RR, if_pos rfl]
theorem fkM_6 (M : St × St) (r1 r2 r3 r4 r5 r6 : Nat → Int32) (sl : Nat → Int64) : sR (fkM M r1 r2 r3 r4 r5 r6 sl) 6 = r6 := by
  unfold fkM
  rw [nm_RQ, nb_RR, if_pos rfl]
theorem fkM_o (M : St × St) (r1 r2 r3 r4 r5 r6 : Nat → Int32) (sl : Nat → Int64) {k : Nat} (h : k = 0 ∨ 7 ≤ k) : sR (fkM M r1 r2 r3 r4 r5 r6 sl) k = sR M.1 k := by
  unfold fkM
  rw [nm_RQ, nb_RR, if_neg (show ¬ (k : Nat) = 6 by omega), nb_RR, if_neg (show ¬ (k : Nat) = 5 by omega), nb_RR, if_neg (show ¬ (k : Nat) = 4 by omega), nb_RR, if_neg (show ¬ (k : Nat) = 3 by omega), nb_RR, if_neg (show ¬ (k : Nat) = 2 by omega), nb_RR, if_neg (show ¬ (k : Nat) = 1 by omega)]
theorem fkM_i (M : St × St) (r1 r2 r3 r4 r5 r6 : Nat → Int32) (sl : Nat → Int64) (k : Nat) : sI (fkM M r1 r2 r3 r4 r5 r6 sl) k = sI M.1 k := by
  unfold fkM
  simp only [nm_IQ, nb_IR]
theorem fkM_l (M : St × St) (r1 r2 r3 r4 r5 r6 : Nat → Int32) (sl : Nat → Int64) (k : Nat) : sL (fkM M r1 r2 r3 r4 r5 r6 sl) k = sL M.1 k := by
  unfold fkM
  simp only [nm_LQ, nm_LR]
theorem fkM_q (M : St × St) (r1 r2 r3 r4 r5 r6 : Nat → Int32) (sl : Nat → Int64) : sQ (fkM M r1 r2 r3 r4 r5 r6 sl) 0 = sl := by
  unfold fkM
  rw [nm_QQ, if_pos rfl]
/-- the class's fork -/
theorem fk_C (n : Nat) (hn : 1024 < n) {M X : St × St} {p c w b e : Nat} (hp : p < 16) (hc : c < 16) (hne : p ≠ c) (e4 : sR M.1 6 (p * 7 + 4) = nI w) (e5 : sR M.1 6 (p * 7 + 5) = nI b) (e6 : sR M.1 6 (p * 7 + 6) = nI e) {u : Nat → Int32} {m : Nat} (h : df_X6_fork_91 n n (nI p) (nI c) (nI 0) (pR (pR (pR (pR (pR M.1 2 (va_cpy (sR M.1 2) (sR M.1 2) (64 * p) (64 * c) 64)) 3 (va_cpy (sR M.1 3) (sR M.1 3) (p * 33) (c * 33) 33)) 4 (va_cpy (sR M.1 4) (sR M.1 4) (p * 33) (c * 33) 33)) 5 (va_cpy (sR M.1 5) (sR M.1 5) (p * 16) (c * 16) 16)) 6 (ab (sR M.1 6) c 7), M.2) = df_X6_fork_91 n (m + 1) (nI p) (nI c) (nI 64) (pR (pR (pR (pR (pR (pR M.1 2 (va_cpy (sR M.1 2) (sR M.1 2) (64 * p) (64 * c) 64)) 3 (va_cpy (sR M.1 3) (sR M.1 3) (p * 33) (c * 33) 33)) 4 (va_cpy (sR M.1 4) (sR M.1 4) (p * 33) (c * 33) 33)) 5 (va_cpy (sR M.1 5) (sR M.1 5) (p * 16) (c * 16) 16)) 6 (ab (sR M.1 6) c 7)) 1 u, M.2)) : df_X6_fork n (nI p) (nI c) M = some (fkM M u (va_cpy (sR M.1 2) (sR M.1 2) (64 * p) (64 * c) 64) (upd (upd (va_cpy (sR M.1 3) (sR M.1 3) (p * 33) (c * 33) 33) (c * 33 + 10) (nI 0)) (c * 33 + 32) (sR M.1 3 (p * 33 + 32) + nI 4)) (va_cpy (sR M.1 4) (sR M.1 4) (p * 33) (c * 33) 33) (va_cpy (sR M.1 5) (sR M.1 5) (p * 16) (c * 16) 16) (upd (upd (upd (upd (upd (ab (sR M.1 6) c 7) (c * 7) (nI 1)) (c * 7 + 1) (nI p)) (c * 7 + 4) (nI w)) (c * 7 + 5) (nI b)) (c * 7 + 6) (nI e)) (vp_updL (sQ M.1 0) c (-1)), M.2) := by
  have r3 : va_cpy (sR M.1 3) (sR M.1 3) (p * 33) (c * 33) 33 (c * 33 + 32) = sR M.1 3 (p * 33 + 32) := by
    rw [va_i (by omega)]
    exact congrArg (sR M.1 3) (by omega)
  have k := fk_1 n (S := (pR (pR (pR (pR (pR (pR M.1 2 (va_cpy (sR M.1 2) (sR M.1 2) (64 * p) (64 * c) 64)) 3 (va_cpy (sR M.1 3) (sR M.1 3) (p * 33) (c * 33) 33)) 4 (va_cpy (sR M.1 4) (sR M.1 4) (p * 33) (c * 33) 33)) 5 (va_cpy (sR M.1 5) (sR M.1 5) (p * 16) (c * 16) 16)) 6 (ab (sR M.1 6) c 7)) 1 u, M.2)) hp hc (df_X6_fork_91 n m) (w := w) (b := b) (e := e) (show ab (sR M.1 6) c 7 (p * 7 + 4) = nI w from (ab_o (by omega)).trans e4) (show ab (sR M.1 6) c 7 (p * 7 + 5) = nI b from (ab_o (by omega)).trans e5) (show ab (sR M.1 6) c 7 (p * 7 + 6) = nI e from (ab_o (by omega)).trans e6) hne
  rw [fk_0 n hn M hp hc, h, show df_X6_fork_91 n (m + 1) = dF_X6_fork_91 n (df_X6_fork_91 n m) from rfl, k]
  unfold fkM
  refine congrArg (fun z => some (z, M.2)) ?_
  simp only [nb_RR, Nat.reduceEqDiff, if_false, if_true, ↓reduceIte, nm_QR, r3, nm_rc (a := 6) (b := 1) (by decide), nm_rc (a := 5) (b := 1) (by decide), nm_rc (a := 4) (b := 1) (by decide), nm_rc (a := 3) (b := 1) (by decide), nm_rc (a := 2) (b := 1) (by decide), nm_rc (a := 6) (b := 3) (by decide), nm_rc (a := 5) (b := 3) (by decide), nm_rc (a := 4) (b := 3) (by decide), nm_rr]
/-- the reference's fork, once the child is begun -/
theorem fk_R (n : Nat) (hn : 20000 < n) {Y : St × St} {p c w : Nat} (hp : p < 16) (hc : c < 16) (hne : p ≠ c) (hw : w < 2) (e12 : sI Y.1 12 = nI p) (ew : sR Y.1 8 p = nI w) {fr ri ho : Nat → Int32} {m : Nat} (h : df_X16_fork_274 n n (nI c) (nI 0) (pR (pR (pR (pR (pR (pR (pR (pR (pR (pR (pR Y.1 1 (upd (sR Y.1 1) c (nI 1))) 2 (upd (sR Y.1 2) c (nI p))) 5 (upd (sR Y.1 5) c (sR Y.1 5 p))) 6 (upd (sR Y.1 6) c (sR Y.1 6 p))) 8 (upd (sR Y.1 8) c (nI w))) 9 (upd (va_cpy (sR Y.1 9) (sR Y.1 9) (32 * p) (32 * c) 32) (32 * c + 10) (nI 0))) 10 (upd (sR Y.1 10) c (sR Y.1 10 p + nI 4))) 11 (va_cpy (sR Y.1 11) (sR Y.1 11) (32 * p) (32 * c) 32)) 12 (upd (sR Y.1 12) c (sR Y.1 12 p))) 13 (va_cpy (sR Y.1 13) (sR Y.1 13) (16 * p) (16 * c) 16)) 14 (va_cpy (sR Y.1 14) (sR Y.1 14) (16 * p) (16 * c) 16), Y.2) = df_X16_fork_274 n (m + 1) (nI c) (nI 64) (pR (pR (pR (pR (pR (pR (pR (pR (pR (pR (pR (pR (pR (pR Y.1 1 (upd (sR Y.1 1) c (nI 1))) 2 (upd (sR Y.1 2) c (nI p))) 5 (upd (sR Y.1 5) c (sR Y.1 5 p))) 6 (upd (sR Y.1 6) c (sR Y.1 6 p))) 8 (upd (sR Y.1 8) c (nI w))) 9 (upd (va_cpy (sR Y.1 9) (sR Y.1 9) (32 * p) (32 * c) 32) (32 * c + 10) (nI 0))) 10 (upd (sR Y.1 10) c (sR Y.1 10 p + nI 4))) 11 (va_cpy (sR Y.1 11) (sR Y.1 11) (32 * p) (32 * c) 32)) 12 (upd (sR Y.1 12) c (sR Y.1 12 p))) 13 (va_cpy (sR Y.1 13) (sR Y.1 13) (16 * p) (16 * c) 16)) 14 (va_cpy (sR Y.1 14) (sR Y.1 14) (16 * p) (16 * c) 16)) 16 fr) 17 ri) 18 ho, Y.2)) : df_X16_fork_56 n n (nI c) (nI 0) (pR (pR Y.1 1 (upd (sR Y.1 1) c (nI 1))) 2 (upd (sR Y.1 2) c (nI p)), Y.2) = some (nI c, fkX Y (upd (sR Y.1 1) c (nI 1)) (upd (sR Y.1 2) c (nI p)) (upd (sR Y.1 5) c (sR Y.1 5 p)) (upd (sR Y.1 6) c (sR Y.1 6 p)) (upd (sR Y.1 8) c (nI w)) (upd (va_cpy (sR Y.1 9) (sR Y.1 9) (32 * p) (32 * c) 32) (32 * c + 10) (nI 0)) (upd (sR Y.1 10) c (sR Y.1 10 p + nI 4)) (va_cpy (sR Y.1 11) (sR Y.1 11) (32 * p) (32 * c) 32) (upd (sR Y.1 12) c (sR Y.1 12 p)) (va_cpy (sR Y.1 13) (sR Y.1 13) (16 * p) (16 * c) 16) (va_cpy (sR Y.1 14) (sR Y.1 14) (16 * p) (16 * c) 16) (va_cpy (sR Y.1 15) (sR Y.1 15) (16384 * p) (16384 * c) 16384) fr ri ho) := by
  have a1 := fk_56 n (by omega) (T := (pR (pR Y.1 1 (upd (sR Y.1 1) c (nI 1))) 2 (upd (sR Y.1 2) c (nI p)), Y.2)) hp hc hne hw e12 ew
  simp only [nb_RR, Nat.reduceEqDiff, if_false, ↓reduceIte] at a1
  rw [a1]
  clear a1
  have a2 := fk_210 n (by omega) (T := (pR (pR (pR (pR (pR (pR (pR (pR (pR Y.1 1 (upd (sR Y.1 1) c (nI 1))) 2 (upd (sR Y.1 2) c (nI p))) 5 (upd (sR Y.1 5) c (sR Y.1 5 p))) 6 (upd (sR Y.1 6) c (sR Y.1 6 p))) 8 (upd (sR Y.1 8) c (nI w))) 9 (upd (va_cpy (sR Y.1 9) (sR Y.1 9) (32 * p) (32 * c) 32) (32 * c + 10) (nI 0))) 10 (upd (sR Y.1 10) c (sR Y.1 10 p + nI 4))) 11 (va_cpy (sR Y.1 11) (sR Y.1 11) (32 * p) (32 * c) 32)) 12 (upd (sR Y.1 12) c (sR Y.1 12 p)), Y.2)) hp hc hne (by simp only [nb_IR]; exact e12)
  simp only [nb_RR, Nat.reduceEqDiff, if_false, ↓reduceIte] at a2
  rw [a2, h]
  clear a2 h
  rw [show df_X16_fork_274 n (m + 1) = dF_X16_fork_274 n (df_X16_fork_274 n m) from rfl]
  generalize df_X16_fork_274 n m = F
  generalize hT : (pR (pR (pR (pR (pR (pR (pR (pR (pR (pR (pR (pR (pR (pR Y.1 1 (upd (sR Y.1 1) c (nI 1))) 2 (upd (sR Y.1 2) c (nI p))) 5 (upd (sR Y.1 5) c (sR Y.1 5 p))) 6 (upd (sR Y.1 6) c (sR Y.1 6 p))) 8 (upd (sR Y.1 8) c (nI w))) 9 (upd (va_cpy (sR Y.1 9) (sR Y.1 9) (32 * p) (32 * c) 32) (32 * c + 10) (nI 0))) 10 (upd (sR Y.1 10) c (sR Y.1 10 p + nI 4))) 11 (va_cpy (sR Y.1 11) (sR Y.1 11) (32 * p) (32 * c) 32)) 12 (upd (sR Y.1 12) c (sR Y.1 12 p))) 13 (va_cpy (sR Y.1 13) (sR Y.1 13) (16 * p) (16 * c) 16)) 14 (va_cpy (sR Y.1 14) (sR Y.1 14) (16 * p) (16 * c) 16)) 16 fr) 17 ri) 18 ho : St) = T
  have t12 : sI T 12 = nI p := by rw [← hT]; simp only [nb_IR]; exact e12
  have t15 : sR T 15 = sR Y.1 15 := by rw [← hT]; simp only [nb_RR, Nat.reduceEqDiff, if_false, ↓reduceIte]
  have e1 : dF_X16_fork_274 n F (nI c) (nI 64) (T, Y.2) = df_X16_fork_358 n n (nI c) (nI 0) (T, Y.2) := by
    simp (disch := (first | assumption | decide | omega)) only [dF_X16_fork_274, eq_self, Nat.reduceEqDiff, Nat.reduceLeDiff, nl_0, nl_1, nl_12, nl_16, nl_17, nl_64, nl_1024, no_1, no_1024, pk_mul, nI_add, nm_ck, nI_clamp, nI_ltI, nI_leI, nI_eq, nb_b2, nb_b1, ↓nb_let, nm_z0, nm_z1, nb_II, nb_IR, nb_RI, nb_RR, nm_IL, nm_IQ, nm_RL, nm_RQ, nm_LI, nm_LR, nm_LL, nm_LQ, nm_QI, nm_QR, nm_QL, nm_QQ, nm_rr, nm_ii, nm_eqm, not_false_eq_true, pk_sub, nm_div, nm_shl, nm_shr, nm_ush, nm_or8, nm_or64, nm_or256, nm_m1, nm_m3, nm_m7, nm_m15, nm_m31, nm_m63, nm_m255, nm_m511, nm_m1023, nm_m2047, nm_m65535, Nat.reduceMod, Nat.reducePow, Nat.reduceAdd, Nat.reduceSub, Nat.reduceMul, nm_bo, nm_bi, nm_rc, nm_ic, nm_ri, nm_rl, nm_rq, nm_ql, nm_qi, nm_li, nm_us, nm_uu, nm_cp, nm_sa31, nm_sa7, nm_m127, nm_m2, nm_nz, nm_nzk, nm_eq32, nm_nzf, if_true, if_false, ↓reduceIte, if_pos, if_neg]
  rw [e1, fk_358 n hn (T := (T, Y.2)) hp hc hne t12]
  show some (nI c, (pR T 15 (va_cpy (sR T 15) (sR T 15) (16384 * p) (16384 * c) 16384), Y.2)) = _
  rw [t15, ← hT]
  unfold fkX
  rw [nm_rc (a := 18) (b := 15) (by decide), nm_rc (a := 17) (b := 15) (by decide), nm_rc (a := 16) (b := 15) (by decide)]

/-- the first absent one -/
def fa (X : St × St) : Nat := fN (fun q => decide (sR X.1 1 q = nI 0)) 0 16
theorem fk_find (n : Nat) (hn : 1024 < n) {K : St × (St × (St × St))} {X : St × St} (hst : ∀ q : Nat, q < 16 → ∃ t : Nat, t < 4 ∧ sR K.2.2.1 6 (q * 7) = nI t ∧ sR X.1 1 q = nI t) (p : Int32) : (df_X5_fork n p K = if fa X < 16 then nd_b1 (df_X6_fork n p (nI (fa X)) K.2.2) (fun s => nd_b1 (df_X10_share n p (nI (fa X)) s.2) (fun d => some ((nI (fa X)).toInt64, (K.1, (K.2.1, (s.1, d)))))) else some (-4, K)) ∧ (df_X16_fork n X = if fa X < 16 then nd_b1 (df_X16_begin n (nI (fa X)) X) (fun s => df_X16_fork_56 n n (nI (fa X)) (nI 0) (pR (pR s.1 1 (upd (sR s.1 1) (fa X) (nI 1))) 2 (upd (sR s.1 2) (fa X) (sI s.1 12)), s.2)) else some (-nI 4, X)) := by
  obtain ⟨x1, x2, x3, x4⟩ := fN_le (fun q => decide (sR X.1 1 q = nI 0)) 16 0
  constructor
  · obtain ⟨m, hm⟩ := nm_ls (fun m k => df_X5_fork_2 n m p (nI k) K) (fun q => decide (sR X.1 1 q = nI 0)) 0 16 n (by omega) (fun k m h0 hk c => by
      obtain ⟨t, ht, t1, t2⟩ := hst k (by omega)
      have u1 : k * 7 < 112 := by omega
      have u2 : k < 2 ^ 31 := by omega
      have u3 : t < 2 ^ 31 := by omega
      have k16 : ¬ 16 ≤ k := by omega
      have t0 : ¬ t = 0 := fun z => of_decide_eq_false c (by rw [t2, z])
      rw [show df_X5_fork_2 n (m + 1) = dF_X5_fork_2 n (df_X5_fork_2 n m) from rfl]
      simp (disch := (first | assumption | decide | omega)) only [dF_X5_fork_2, df_X6_status_0, df_X6_status, k16, Nat.add_zero, t1, t0, eq_self, Nat.reduceEqDiff, Nat.reduceLeDiff, nl_0, nl_1, nl_4, nl_6, nl_7, nl_16, nl_112, no_1, no_1024, pk_mul, nI_add, nm_ck, nI_clamp, nI_ltI, nI_leI, nI_eq, nb_b2, nb_b1, ↓nb_let, nm_z0, nm_z1, nb_II, nb_IR, nb_RI, nb_RR, nm_IL, nm_IQ, nm_RL, nm_RQ, nm_LI, nm_LR, nm_LL, nm_LQ, nm_QI, nm_QR, nm_QL, nm_QQ, nm_rr, nm_ii, nm_eqm, not_false_eq_true, pk_sub, nm_div, nm_shl, nm_shr, nm_ush, nm_or8, nm_or64, nm_or256, nm_m1, nm_m3, nm_m7, nm_m15, nm_m31, nm_m63, nm_m255, nm_m511, nm_m1023, nm_m2047, nm_m65535, Nat.reduceMod, Nat.reducePow, Nat.reduceAdd, Nat.reduceSub, Nat.reduceMul, nm_bo, nm_bi, nm_rc, nm_ic, nm_ri, nm_rl, nm_rq, nm_ql, nm_qi, nm_li, nm_us, nm_uu, nm_cp, nm_sa31, nm_sa7, nm_m127, nm_m2, nm_nz, nm_nzk, nm_eq32, nm_nzf, if_true, if_false, ↓reduceIte, if_pos, if_neg])
    refine Eq.trans (b := df_X5_fork_2 n n p (nI 0) K) rfl (Eq.trans hm ?_)
    show df_X5_fork_2 n (m + 1) p (nI (fa X)) K = _
    have x3' : fa X < 16 → sR X.1 1 (fa X) = nI 0 := fun z => of_decide_eq_true (x3 z)
    have x2' : fa X ≤ 16 := x2
    generalize fa X = f at x2' x3'
    rw [show df_X5_fork_2 n (m + 1) = dF_X5_fork_2 n (df_X5_fork_2 n m) from rfl]
    have u2 : f < 2 ^ 31 := by omega
    by_cases c : f < 16
    · rw [if_pos c]
      obtain ⟨t, ht, t1, t2⟩ := hst f c
      have t0 : t = 0 := nm_inI (by omega) (by omega) (t2.symm.trans (x3' c))
      subst t0
      have u1 : f * 7 < 112 := by omega
      have k16 : ¬ 16 ≤ f := by omega
      simp (disch := (first | assumption | decide | omega)) only [dF_X5_fork_2, df_X6_status_0, df_X6_status, k16, Nat.add_zero, t1, eq_self, Nat.reduceEqDiff, Nat.reduceLeDiff, nl_0, nl_1, nl_4, nl_6, nl_7, nl_16, nl_112, no_1, no_1024, pk_mul, nI_add, nm_ck, nI_clamp, nI_ltI, nI_leI, nI_eq, nb_b2, nb_b1, ↓nb_let, nm_z0, nm_z1, nb_II, nb_IR, nb_RI, nb_RR, nm_IL, nm_IQ, nm_RL, nm_RQ, nm_LI, nm_LR, nm_LL, nm_LQ, nm_QI, nm_QR, nm_QL, nm_QQ, nm_rr, nm_ii, nm_eqm, not_false_eq_true, pk_sub, nm_div, nm_shl, nm_shr, nm_ush, nm_or8, nm_or64, nm_or256, nm_m1, nm_m3, nm_m7, nm_m15, nm_m31, nm_m63, nm_m255, nm_m511, nm_m1023, nm_m2047, nm_m65535, Nat.reduceMod, Nat.reducePow, Nat.reduceAdd, Nat.reduceSub, Nat.reduceMul, nm_bo, nm_bi, nm_rc, nm_ic, nm_ri, nm_rl, nm_rq, nm_ql, nm_qi, nm_li, nm_us, nm_uu, nm_cp, nm_sa31, nm_sa7, nm_m127, nm_m2, nm_nz, nm_nzk, nm_eq32, nm_nzf, if_true, if_false, ↓reduceIte, if_pos, if_neg]
    · rw [if_neg c]
      have k16 : 16 ≤ f := by omega
      simp (disch := (first | assumption | decide | omega)) only [dF_X5_fork_2, k16, eq_self, Nat.reduceEqDiff, Nat.reduceLeDiff, nl_0, nl_1, nl_4, nl_16, no_1, no_1024, pk_mul, nI_add, nm_ck, nI_clamp, nI_ltI, nI_leI, nI_eq, nb_b2, nb_b1, ↓nb_let, nm_z0, nm_z1, nb_II, nb_IR, nb_RI, nb_RR, nm_IL, nm_IQ, nm_RL, nm_RQ, nm_LI, nm_LR, nm_LL, nm_LQ, nm_QI, nm_QR, nm_QL, nm_QQ, nm_rr, nm_ii, nm_eqm, not_false_eq_true, pk_sub, nm_div, nm_shl, nm_shr, nm_ush, nm_or8, nm_or64, nm_or256, nm_m1, nm_m3, nm_m7, nm_m15, nm_m31, nm_m63, nm_m255, nm_m511, nm_m1023, nm_m2047, nm_m65535, Nat.reduceMod, Nat.reducePow, Nat.reduceAdd, Nat.reduceSub, Nat.reduceMul, nm_bo, nm_bi, nm_rc, nm_ic, nm_ri, nm_rl, nm_rq, nm_ql, nm_qi, nm_li, nm_us, nm_uu, nm_cp, nm_sa31, nm_sa7, nm_m127, nm_m2, nm_nz, nm_nzk, nm_eq32, nm_nzf, if_true, if_false, ↓reduceIte, if_pos, if_neg]
  · obtain ⟨m, hm⟩ := nm_ls (fun m k => df_X16_fork_2 n m (nI k) X) (fun q => decide (sR X.1 1 q = nI 0)) 0 16 n (by omega) (fun k m h0 hk c => by
      have u2 : k < 2 ^ 31 := by omega
      have k16 : ¬ 16 ≤ k := by omega
      have t0 : ¬ sR X.1 1 k = nI 0 := of_decide_eq_false c
      rw [show df_X16_fork_2 n (m + 1) = dF_X16_fork_2 n (df_X16_fork_2 n m) from rfl]
      simp (disch := (first | assumption | decide | omega)) only [dF_X16_fork_2, k16, t0, eq_self, Nat.reduceEqDiff, Nat.reduceLeDiff, nl_0, nl_1, nl_16, no_1, no_1024, pk_mul, nI_add, nm_ck, nI_clamp, nI_ltI, nI_leI, nI_eq, nb_b2, nb_b1, ↓nb_let, nm_z0, nm_z1, nb_II, nb_IR, nb_RI, nb_RR, nm_IL, nm_IQ, nm_RL, nm_RQ, nm_LI, nm_LR, nm_LL, nm_LQ, nm_QI, nm_QR, nm_QL, nm_QQ, nm_rr, nm_ii, nm_eqm, not_false_eq_true, pk_sub, nm_div, nm_shl, nm_shr, nm_ush, nm_or8, nm_or64, nm_or256, nm_m1, nm_m3, nm_m7, nm_m15, nm_m31, nm_m63, nm_m255, nm_m511, nm_m1023, nm_m2047, nm_m65535, Nat.reduceMod, Nat.reducePow, Nat.reduceAdd, Nat.reduceSub, Nat.reduceMul, nm_bo, nm_bi, nm_rc, nm_ic, nm_ri, nm_rl, nm_rq, nm_ql, nm_qi, nm_li, nm_us, nm_uu, nm_cp, nm_sa31, nm_sa7, nm_m127, nm_m2, nm_nz, nm_nzk, nm_eq32, nm_nzf, if_true, if_false, ↓reduceIte, if_pos, if_neg])
    refine Eq.trans (b := df_X16_fork_2 n n (nI 0) X) rfl (Eq.trans hm ?_)
    show df_X16_fork_2 n (m + 1) (nI (fa X)) X = _
    have x3' : fa X < 16 → sR X.1 1 (fa X) = nI 0 := fun z => of_decide_eq_true (x3 z)
    have x2' : fa X ≤ 16 := x2
    generalize fa X = f at x2' x3'
    rw [show df_X16_fork_2 n (m + 1) = dF_X16_fork_2 n (df_X16_fork_2 n m) from rfl]
    have u2 : f < 2 ^ 31 := by omega
    by_cases c : f < 16
    · rw [if_pos c]
      have t0 := x3' c
      have k16 : ¬ 16 ≤ f := by omega
      have k16' : ¬ f = 16 := by omega
      simp (disch := (first | assumption | decide | omega)) only [dF_X16_fork_2, df_X16_fork_23, k16, t0, k16', eq_self, Nat.reduceEqDiff, Nat.reduceLeDiff, nl_0, nl_1, nl_2, nl_4, nl_12, nl_16, no_1, no_1024, pk_mul, nI_add, nm_ck, nI_clamp, nI_ltI, nI_leI, nI_eq, nb_b2, nb_b1, ↓nb_let, nm_z0, nm_z1, nb_II, nb_IR, nb_RI, nb_RR, nm_IL, nm_IQ, nm_RL, nm_RQ, nm_LI, nm_LR, nm_LL, nm_LQ, nm_QI, nm_QR, nm_QL, nm_QQ, nm_rr, nm_ii, nm_eqm, not_false_eq_true, pk_sub, nm_div, nm_shl, nm_shr, nm_ush, nm_or8, nm_or64, nm_or256, nm_m1, nm_m3, nm_m7, nm_m15, nm_m31, nm_m63, nm_m255, nm_m511, nm_m1023, nm_m2047, nm_m65535, Nat.reduceMod, Nat.reducePow, Nat.reduceAdd, Nat.reduceSub, Nat.reduceMul, nm_bo, nm_bi, nm_rc, nm_ic, nm_ri, nm_rl, nm_rq, nm_ql, nm_qi, nm_li, nm_us, nm_uu, nm_cp, nm_sa31, nm_sa7, nm_m127, nm_m2, nm_nz, nm_nzk, nm_eq32, nm_nzf, if_true, if_false, ↓reduceIte, if_pos, if_neg]
    · rw [if_neg c]
      have k16 : 16 ≤ f := by omega
      have k16' : f = 16 := by omega
      simp (disch := (first | assumption | decide | omega)) only [dF_X16_fork_2, df_X16_fork_23, k16, k16', eq_self, Nat.reduceEqDiff, Nat.reduceLeDiff, nl_0, nl_1, nl_2, nl_4, nl_12, nl_16, no_1, no_1024, pk_mul, nI_add, nm_ck, nI_clamp, nI_ltI, nI_leI, nI_eq, nb_b2, nb_b1, ↓nb_let, nm_z0, nm_z1, nb_II, nb_IR, nb_RI, nb_RR, nm_IL, nm_IQ, nm_RL, nm_RQ, nm_LI, nm_LR, nm_LL, nm_LQ, nm_QI, nm_QR, nm_QL, nm_QQ, nm_rr, nm_ii, nm_eqm, not_false_eq_true, pk_sub, nm_div, nm_shl, nm_shr, nm_ush, nm_or8, nm_or64, nm_or256, nm_m1, nm_m3, nm_m7, nm_m15, nm_m31, nm_m63, nm_m255, nm_m511, nm_m1023, nm_m2047, nm_m65535, Nat.reduceMod, Nat.reducePow, Nat.reduceAdd, Nat.reduceSub, Nat.reduceMul, nm_bo, nm_bi, nm_rc, nm_ic, nm_ri, nm_rl, nm_rq, nm_ql, nm_qi, nm_li, nm_us, nm_uu, nm_cp, nm_sa31, nm_sa7, nm_m127, nm_m2, nm_nz, nm_nzk, nm_eq32, nm_nzf, if_true, if_false, ↓reduceIte, if_pos, if_neg]
theorem va_pc (f : Nat → Int32) {p c j : Nat} (hne : p ≠ c) (hj : j < 16384) : va_cpy f f (16384 * p) (16384 * c) 16384 (16384 * c + j) = va_cpy f f (16384 * p) (16384 * c) 16384 (16384 * p + j) := by
  rw [va_i (by omega), va_o (by omega)]
  exact congrArg f (by omega)
theorem o32 {p c r : Nat} (hne : p ≠ c) (hr : r < 32) : ¬ (32 * c ≤ 32 * p + r ∧ 32 * p + r < 32 * c + 32) := by omega
theorem o16 {p c r : Nat} (hne : p ≠ c) (hr : r < 16) : ¬ (16 * c ≤ p * 16 + r ∧ p * 16 + r < 16 * c + 16) := by omega
/-- the child, in both machines -/
theorem nq_fork (n : Nat) (hn : 20000 < n) {B p : Nat} {K : St × (St × (St × St))} {X : St × St} (h : cP B p K X) : cO B p K X (df_X5_fork n (nI p) K) (df_X16_fork n X) := by
  obtain ⟨fC, fR⟩ := fk_find n (by omega) (K := K) (X := X) (rM_st h.1) (nI p)
  obtain ⟨x1, x2, x3, x4⟩ := fN_le (fun q => decide (sR X.1 1 q = nI 0)) 16 0
  have x3' : fa X < 16 → sR X.1 1 (fa X) = nI 0 := fun z => of_decide_eq_true (x3 z)
  generalize fa X = c at fC fR x3'
  rw [fC, fR]
  clear fC fR x1 x2 x3 x4
  by_cases c16 : c < 16
  · rw [if_pos c16, if_pos c16]
    have c0 := x3' c16
    obtain ⟨h1, h2, h3, h4, h5, h6, h7⟩ := h
    obtain ⟨m1, m2, m3, m4, m5, m6, m7⟩ := h1
    have hne : p ≠ c := fun z => by
      rw [z, c0] at h5
      exact absurd h5 (by decide)
    obtain ⟨t, c', w, b, e, ht, hc', hw, hb, he, a1, a2, a3, a4, a5, a6, a7, a8, a9, a10, a11, a12, a13, a14, a15, a16, a17, a18, a19, a20, a21⟩ := id (m3 p h2)
    have t1 : t = 1 := nm_inI (by omega) (by omega) (a2.symm.trans h5)
    obtain ⟨tc, _, _, _, _, htc, _, _, _, _, _, b2, _, _, _, _, _, _, _, _, _, _, _, _, _, _, _, _, b19, _⟩ := id (m3 c c16)
    have tc0 : tc = 0 := nm_inI (by omega) (by omega) (b2.symm.trans c0)
    obtain ⟨bf, bd⟩ := b19 (Or.inl tc0)
    have d16 : ∀ d : Nat, d < 16 → sR X.1 14 (16 * c + d) = -nI 1 := fun d hd => by
      have := bd d hd
      rw [Nat.mul_comm c 16] at this
      exact this
    -- the reference begins the child
    have be := nk_begin n (by omega) X c16
    have y1 := bg_r1 X c 32 16
    have y2 := bg_r2 X c 32 16
    have y3 := bg_r3 X c 32 16
    have y4 := bg_r4 X c 32 16
    have y5 := bg_r5 X c 32 16
    have y6 := bg_r6 X c 32 16
    have y7 := bg_r7 X c 32 16
    have y8 := bg_r8 X c 32 16
    have y9 := bg_r9 X c 32 16
    have y10 := bg_r10 X c 32 16
    have y11 := bg_r11 X c 32 16
    have y12 := bg_r12 X c 32 16
    have y13 := bg_r13 X c 32 16
    have y14 := (bg_r14 X c 32 16).trans (fl_id d16)
    have yo : ∀ k : Nat, k = 0 ∨ 15 ≤ k → sR (bg X c 32 16).1 k = sR X.1 k := fun k hk => bg_o X c 32 16 hk
    have yi := bg_i X c 32 16
    have yl := bg_l X c 32 16
    have yq := bg_q X c 32 16
    have yn := bg_2' X c 32 16
    rw [be, nb_b1]
    clear be
    generalize bg X c 32 16 = Y at *
    have e12 : sI Y.1 12 = nI p := (yi 12).trans h3
    have ew : sR Y.1 8 p = nI w := by rw [y8, nm_un hne]; exact a11
    rw [e12]
    -- pages
    have q0 : rQ (sR K.2.2.1 0) (sR K.2.2.1 1) (sR K.2.2.1 2) (va_cpy (sR Y.1 15) (sR Y.1 15) (16384 * p) (16384 * c) 16384) (sR Y.1 16) (sR Y.1 17) (sR Y.1 18) (sI K.2.2.1 0) (sI Y.1 6) := by
      rw [yo 15 (by omega), yo 16 (by omega), yo 17 (by omega), yo 18 (by omega), yi 6]
      refine rQ_ri m1 (fun _ _ _ => rfl) (fun _ _ => rfl) (fun i hi hn j hj => ?_)
      by_cases ci : 64 * c ≤ i ∧ i < 64 * c + 64
      · have := bf (i - 64 * c) (by omega)
        rw [show 64 * c + (i - 64 * c) = i by omega] at this
        exact absurd this hn
      · exact va_o (by omega)
    obtain ⟨u, fr, ri, ho, mm, mm', f1, f2, f3, f4, f5⟩ := fk_pages n (by omega) (S := (pR (pR (pR (pR (pR K.2.2.1 2 (va_cpy (sR K.2.2.1 2) (sR K.2.2.1 2) (64 * p) (64 * c) 64)) 3 (va_cpy (sR K.2.2.1 3) (sR K.2.2.1 3) (p * 33) (c * 33) 33)) 4 (va_cpy (sR K.2.2.1 4) (sR K.2.2.1 4) (p * 33) (c * 33) 33)) 5 (va_cpy (sR K.2.2.1 5) (sR K.2.2.1 5) (p * 16) (c * 16) 16)) 6 (ab (sR K.2.2.1 6) c 7), K.2.2.2)) (T := (pR (pR (pR (pR (pR (pR (pR (pR (pR (pR (pR Y.1 1 (upd (sR Y.1 1) c (nI 1))) 2 (upd (sR Y.1 2) c (nI p))) 5 (upd (sR Y.1 5) c (sR Y.1 5 p))) 6 (upd (sR Y.1 6) c (sR Y.1 6 p))) 8 (upd (sR Y.1 8) c (nI w))) 9 (upd (va_cpy (sR Y.1 9) (sR Y.1 9) (32 * p) (32 * c) 32) (32 * c + 10) (nI 0))) 10 (upd (sR Y.1 10) c (sR Y.1 10 p + nI 4))) 11 (va_cpy (sR Y.1 11) (sR Y.1 11) (32 * p) (32 * c) 32)) 12 (upd (sR Y.1 12) c (sR Y.1 12 p))) 13 (va_cpy (sR Y.1 13) (sR Y.1 13) (16 * p) (16 * c) 16)) 14 (va_cpy (sR Y.1 14) (sR Y.1 14) (16 * p) (16 * c) 16), Y.2)) h2 c16 hne (by simp only [nb_IR]; exact e12) (g0 := sR K.2.2.1 2) (b' := va_cpy (sR Y.1 15) (sR Y.1 15) (16384 * p) (16384 * c) 16384) (by simp only [nb_RR, nb_IR, Nat.reduceEqDiff, if_false, ↓reduceIte]; exact q0) (by simp only [nb_RR, Nat.reduceEqDiff, if_false, if_true, ↓reduceIte]) (fun j hj => va_pc (sR Y.1 15) hne hj) (fun k hk => by
      simp only [nb_RR, Nat.reduceEqDiff, if_false, ↓reduceIte]
      rw [yo 16 (by omega)]
      exact bf k hk)
    simp only [nb_RR, nb_IR, Nat.reduceEqDiff, if_false, if_true, ↓reduceIte] at f3 f4 f5
    rw [yi 6] at f3
    have eC := fk_C n (by omega) (X := X) h2 c16 hne a10 a12 a14 f1
    have eR := fk_R n hn h2 c16 hne hw e12 ew f2
    clear f1 f2
    obtain ⟨l, op, s1, s2⟩ := fk_share n (by omega) m2 h2 c16 hne bd
    rw [eC, nb_b1, s1, nb_b1, eR]
    clear eC eR s1
    have g1 := a17 (by omega)
    have g2 := a18 (Or.inl t1)
    rw [Nat.mul_comm 16 p, Nat.mul_comm 16 c]
    refine ⟨_, _, K.1, (fkM K.2.2 u (va_cpy (sR K.2.2.1 2) (sR K.2.2.1 2) (64 * p) (64 * c) 64) (upd (upd (va_cpy (sR K.2.2.1 3) (sR K.2.2.1 3) (p * 33) (c * 33) 33) (c * 33 + 10) (nI 0)) (c * 33 + 32) (sR K.2.2.1 3 (p * 33 + 32) + nI 4)) (va_cpy (sR K.2.2.1 4) (sR K.2.2.1 4) (p * 33) (c * 33) 33) (va_cpy (sR K.2.2.1 5) (sR K.2.2.1 5) (p * 16) (c * 16) 16) (upd (upd (upd (upd (upd (ab (sR K.2.2.1 6) c 7) (c * 7) (nI 1)) (c * 7 + 1) (nI p)) (c * 7 + 4) (nI w)) (c * 7 + 5) (nI b)) (c * 7 + 6) (nI e)) (vp_updL (sQ K.2.2.1 0) c (-1)), dU K.2.2.2 l op (sR K.2.2.2 2) (sR K.2.2.2 4)), _, rfl, rfl, ⟨?_, ?_, rP_all m3 (p := c) ?_ (fun r hr => ⟨?_, ?_⟩), ?_, ?_, ?_, ?_⟩, fun _ => rfl, Or.inl ⟨?_, rfl⟩, ⟨?_, ?_, ?_, ?_, ?_⟩, Or.inl ⟨?_, ?_⟩, fun _ => ?_, fun z => ?_⟩
    · unfold rK
      rw [fkX_15, fkX_16, fkX_17, fkX_18, fkX_i, fkM_o _ _ _ _ _ _ _ _ (Or.inl rfl), fkM_1, fkM_2, fkM_i, yi 6]
      exact f3
    · unfold rDD
      rw [fkX_14, y14, fkX_o _ _ _ _ _ _ _ _ _ _ _ _ _ _ _ _ (k := 19) (by omega), fkX_o _ _ _ _ _ _ _ _ _ _ _ _ _ _ _ _ (k := 20) (by omega), fkX_o _ _ _ _ _ _ _ _ _ _ _ _ _ _ _ _ (k := 21) (by omega), fkX_o _ _ _ _ _ _ _ _ _ _ _ _ _ _ _ _ (k := 22) (by omega), fkX_o _ _ _ _ _ _ _ _ _ _ _ _ _ _ _ _ (k := 23) (by omega), fkX_o _ _ _ _ _ _ _ _ _ _ _ _ _ _ _ _ (k := 24) (by omega), fkX_o _ _ _ _ _ _ _ _ _ _ _ _ _ _ _ _ (k := 25) (by omega), yo 19 (by omega), yo 20 (by omega), yo 21 (by omega), yo 22 (by omega), yo 23 (by omega), yo 24 (by omega), yo 25 (by omega)]
      exact s2
    · refine rP1_child (w := w) (b := b) (e := e) c16 h2 hne hw hb he ?_ ?_ ?_ ?_ ?_ ?_ ?_ ?_ ?_ ?_ ?_ ?_ ?_ ?_ (fun k hk q => ?_) (fun r hr => ?_) ?_ (fun k hk => ?_) ?_ (fun hw1 => ⟨fun r hr => ?_, ?_⟩)
      · rw [fkM_6, nm_un (by omega), nm_un (by omega), nm_un (by omega), nm_un (by omega), nm_us]
      · rw [fkM_6, nm_un (by omega), nm_un (by omega), nm_un (by omega), nm_us]
      · rw [fkM_6, nm_un (by omega), nm_un (by omega), nm_un (by omega), nm_un (by omega), nm_un (by omega), ab_i (by omega), if_neg (by omega)]
      · rw [fkM_6, nm_un (by omega), nm_un (by omega), nm_un (by omega), nm_un (by omega), nm_un (by omega), ab_i (by omega), if_neg (by omega)]
      · rw [fkM_6, nm_un (by omega), nm_un (by omega), nm_us]
      · rw [fkM_6, nm_un (by omega), nm_us]
      · rw [fkM_6, nm_us]
      · rw [fkX_1, nm_us]
      · rw [fkX_2, nm_us]
      · rw [fkX_o _ _ _ _ _ _ _ _ _ _ _ _ _ _ _ _ (k := 4) (by omega), y4, nm_us]
      · rw [fkX_8, nm_us]
      · rw [fkX_5, nm_us, y5, nm_un hne]; exact a13
      · rw [fkX_6, nm_us, y6, nm_un hne]; exact a15
      · rw [fkX_o _ _ _ _ _ _ _ _ _ _ _ _ _ _ _ _ (k := 7) (by omega), y7, nm_us]
      · rw [fkX_16, f4 k (by omega), yo 16 (by omega)]
        exact a16 k hk q
      · rw [fkM_3, fkX_9, nm_un (by omega)]
        by_cases r10 : r = 10
        · rw [r10, nm_us, nm_us]
        · rw [nm_un (by omega), nm_un (by omega), va_i (by omega), va_i (by omega), y9, show p * 33 + (c * 33 + r - c * 33) = p * 33 + r by omega, show 32 * p + (32 * c + r - 32 * c) = 32 * p + r by omega, fl_o (o32 hne hr)]
          exact g1.1 r hr
      · rw [fkM_3, fkX_10, nm_us, nm_us, y10, nm_un hne, g1.2]
      · rw [fkM_5, fkX_13, Nat.mul_comm 16 c, va_i (by omega), va_i (by omega), y13, show p * 16 + (c * 16 + k - c * 16) = p * 16 + k by omega, fl_o (o16 hne hk), g2.1 k hk, Nat.mul_comm p 16]
      · rw [fkM_q, fkX_q, yq]
        exact (if_pos rfl).trans (if_pos rfl).symm
      · rw [fkM_4, fkX_11, va_i (by omega), va_i (by omega), y11, show p * 33 + (c * 33 + r - c * 33) = p * 33 + r by omega, show 32 * p + (32 * c + r - 32 * c) = 32 * p + r by omega, fl_o (o32 hne hr)]
        exact (g2.2.2 hw1).1 r hr
      · rw [fkM_4, fkX_12, va_i (by omega), nm_us, y12, nm_un hne, show p * 33 + (c * 33 + 32 - c * 33) = p * 33 + 32 by omega]
        exact (g2.2.2 hw1).2
    · unfold agM
      rw [fkM_6, fkM_3, fkM_4, fkM_5, fkM_q]
      refine ⟨fun i hi => ?_, fun i hi => ?_, fun i hi => va_o (by omega), fun i hi => va_o (by omega), up_o hr⟩
      · rw [nm_un (by omega), nm_un (by omega), nm_un (by omega), nm_un (by omega), nm_un (by omega), ab_o (by omega)]
      · rw [nm_un (by omega), nm_un (by omega), va_o (by omega)]
    · unfold agX
      rw [fkX_1, fkX_2, fkX_5, fkX_6, fkX_8, fkX_9, fkX_10, fkX_11, fkX_12, fkX_13, fkX_14, fkX_16, fkX_q, fkX_o _ _ _ _ _ _ _ _ _ _ _ _ _ _ _ _ (k := 3) (by omega), fkX_o _ _ _ _ _ _ _ _ _ _ _ _ _ _ _ _ (k := 4) (by omega), fkX_o _ _ _ _ _ _ _ _ _ _ _ _ _ _ _ _ (k := 7) (by omega), y1, y2, y3, y4, y5, y6, y7, y8, y9, y10, y11, y12, y13, y14, yq]
      refine ⟨⟨?_, ?_, nm_un hr, nm_un hr, ?_, ?_, nm_un hr, ?_⟩, fun i hi => ?_, ?_, fun i hi => ?_, ?_, fun i hi => ?_, fun i hi => va_o (by omega), fun i hi => ?_, up_o hr⟩
      · rw [nm_un hr, nm_un hr]
      · rw [nm_un hr, nm_un hr]
      · rw [nm_un hr, nm_un hr]
      · rw [nm_un hr, nm_un hr]
      · rw [nm_un hr, nm_un hr]
      · rw [nm_un (by omega), va_o (by omega), fl_o (by omega)]
      · rw [nm_un hr, nm_un hr]
      · rw [va_o (by omega), fl_o (by omega)]
      · rw [nm_un hr, nm_un hr]
      · rw [va_o (by omega), fl_o (by omega)]
      · rw [f5 _ (by omega), yo 16 (by omega)]
    · rw [fkX_1, y1, nm_uu]
      refine Eq.trans (fkM_i _ _ _ _ _ _ _ _ _) (Eq.trans m4 (congrArg nI ?_))
      have := cW_ch (st := sR X.1 1) c16 (nI 1)
      rw [c0, nm_df (show ¬ nI 0 = nI 2 by decide), nm_df (show ¬ nI 1 = nI 2 by decide)] at this
      exact this.symm
    · unfold rG
      rw [fkX_i, fkX_i, fkX_i, fkX_i, fkX_l, fkX_l, fkM_i, fkM_i, fkM_i, fkM_i, fkM_l, fkM_l, yi, yi, yi, yi, yl, yl]
      exact m5
    · unfold rA
      rw [fkX_i, fkX_o _ _ _ _ _ _ _ _ _ _ _ _ _ _ _ _ (k := 0) (by omega), fkM_i, fkM_o _ _ _ _ _ _ _ _ (k := 7) (by omega), yi, yo 0 (by omega)]
      exact m6
    · unfold rTT
      rw [fkX_o _ _ _ _ _ _ _ _ _ _ _ _ _ _ _ _ (k := 23) (by omega), fkX_o _ _ _ _ _ _ _ _ _ _ _ _ _ _ _ _ (k := 24) (by omega), fkX_o _ _ _ _ _ _ _ _ _ _ _ _ _ _ _ _ (k := 25) (by omega), fkX_o _ _ _ _ _ _ _ _ _ _ _ _ _ _ _ _ (k := 26) (by omega), fkX_o _ _ _ _ _ _ _ _ _ _ _ _ _ _ _ _ (k := 27) (by omega), fkX_o _ _ _ _ _ _ _ _ _ _ _ _ _ _ _ _ (k := 28) (by omega), fkX_o _ _ _ _ _ _ _ _ _ _ _ _ _ _ _ _ (k := 29) (by omega), fkX_o _ _ _ _ _ _ _ _ _ _ _ _ _ _ _ _ (k := 30) (by omega), fkX_o _ _ _ _ _ _ _ _ _ _ _ _ _ _ _ _ (k := 31) (by omega), fkX_o _ _ _ _ _ _ _ _ _ _ _ _ _ _ _ _ (k := 32) (by omega), fkX_i, fkX_l, yi, yl, yo 23 (by omega), yo 24 (by omega), yo 25 (by omega), yo 26 (by omega), yo 27 (by omega), yo 28 (by omega), yo 29 (by omega), yo 30 (by omega), yo 31 (by omega), yo 32 (by omega)]
      exact m7
    · rw [fkX_i, yi]; exact h4
    · rw [fkX_2n, yn]
    · rw [fkX_i, yi]
    · rw [fkX_i, yi]
    · rw [fkX_i, yi]
    · rw [fkX_i, yi]
    · exact (fkM_i _ _ _ _ _ _ _ _ _).trans h6
    · rw [fkX_i, yi]; exact h7
    · rw [fkX_1, y1, nm_uu, nm_un hne]; exact h5
    · rw [fkX_i, yi] at z
      exact absurd (h4.symm.trans z) (by decide)
  · rw [if_neg c16, if_neg c16]
    exact cO_id h (by decide)

