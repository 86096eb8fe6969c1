/-- a call's answer comes into the register -/
theorem rM_ans {B : Nat} {M X : St × St} (h : rM B M X) {p : Nat} (hp : p < 16) (h1 : sR X.1 1 p = nI 1) (v : Int32) : rM B (pR M.1 3 (upd (upd (sR M.1 3) (p * 33 + 10) v) (p * 33 + 32) (sR M.1 3 (p * 33 + 32) + nI 4)), M.2) (pR (pR X.1 9 (upd (sR X.1 9) (32 * p + 10) v)) 10 (upd (sR X.1 10) p (sR X.1 10 p + nI 4)), X.2) := by
  obtain ⟨m1, m2, m3, m4, m5, m6, m7⟩ := h
  refine ⟨m1, m2, rP_all m3 (p := p) ?_ (fun r hr => ⟨⟨fun _ _ => rfl, fun i hi => ?_, fun _ _ => rfl, fun _ _ => rfl, rfl⟩, ⟨⟨rfl, rfl, rfl, rfl, rfl, rfl, rfl, rfl⟩, fun i hi => nm_un (by omega), nm_un hr, fun _ _ => rfl, rfl, fun _ _ => rfl, fun _ _ => rfl, fun _ _ => Iff.rfl, rfl⟩⟩), m4, m5, m6, m7⟩
  · obtain ⟨t, c', w, b', e, ht, hc', hw, hb, he, a1, a2, a3, a4, a5, a6, a7, a8, a9, a10, a11, a12, a13, a14, a15, a16, a17, a18, a19, a20, a21⟩ := m3 p hp
    have t1 : t = 1 := nm_inI (by omega) (by omega) (a2.symm.trans h1)
    obtain ⟨g1, g2⟩ := a17 (by omega)
    refine ⟨t, c', w, b', e, ht, hc', hw, hb, he, a1, a2, a3, a4, a5, a6, a7, a8, a9, a10, a11, a12, a13, a14, a15, a16, fun _ => ⟨fun r hr => ?_, ?_⟩, a18, a19, fun z => by omega, a21⟩
    · show upd (upd (sR M.1 3) (p * 33 + 10) v) (p * 33 + 32) _ (p * 33 + r) = upd (sR X.1 9) (32 * p + 10) v (32 * p + r)
      rw [nm_un (by omega)]
      by_cases c : r = 10
      · rw [c, nm_us, nm_us]
      · rw [nm_un (by omega), nm_un (by omega)]
        exact g1 r hr
    · show upd (upd (sR M.1 3) (p * 33 + 10) v) (p * 33 + 32) _ (p * 33 + 32) = upd (sR X.1 10) p _ p
      rw [nm_us, nm_us, g2]
  · show upd (upd (sR M.1 3) (p * 33 + 10) v) (p * 33 + 32) _ (r * 33 + i) = _
    rw [nm_un (by omega), nm_un (by omega)]
/-- it WAITS -/
theorem rM_wait {B : Nat} {M X : St × St} (h : rM B M X) {p : Nat} (hp : p < 16) (h1 : sR X.1 1 p = nI 1) (hw : wtD X p) : rM B (pI (pR M.1 6 (upd (sR M.1 6) (p * 7) (nI 2))) 2 (nI (cW (sR X.1 1) + 1)), M.2) (pR (pR X.1 1 (upd (sR X.1 1) p (nI 2))) 7 (upd (sR X.1 7) p (sR X.1 9 (32 * p + 17))), X.2) := by
  obtain ⟨m1, m2, m3, m4, m5, m6, m7⟩ := h
  refine ⟨m1, m2, rP_all m3 (p := p) ?_ (fun r hr => ⟨⟨fun i hi => nm_un (by omega), fun _ _ => rfl, fun _ _ => rfl, fun _ _ => rfl, rfl⟩, ⟨⟨nm_un hr, rfl, rfl, rfl, rfl, rfl, nm_un hr, rfl⟩, fun _ _ => rfl, rfl, fun _ _ => rfl, rfl, fun _ _ => rfl, fun _ _ => rfl, fun _ _ => Iff.rfl, rfl⟩⟩), ?_, m5, m6, m7⟩
  · obtain ⟨t, c', w, b', e, ht, hc', hw', hb, he, a1, a2, a3, a4, a5, a6, a7, a8, a9, a10, a11, a12, a13, a14, a15, a16, a17, a18, a19, a20, a21⟩ := m3 p hp
    have t1 : t = 1 := nm_inI (by omega) (by omega) (a2.symm.trans h1)
    exact ⟨2, c', w, b', e, by omega, hc', hw', hb, he, nm_us, nm_us, (nm_un (by omega)).trans a3, a4, a5, fun z => by omega, fun _ => (nm_un (by omega)).trans (a7 (by omega)), (nm_un (by omega)).trans a8, a9, (nm_un (by omega)).trans a10, a11, (nm_un (by omega)).trans a12, a13, (nm_un (by omega)).trans a14, a15, a16, fun _ => a17 (by omega), fun _ => a18 (Or.inl t1), fun z => by omega, fun _ => ⟨nm_us, hw⟩, fun z => absurd rfl z⟩
  · have := cW_ch (st := sR X.1 1) hp (nI 2)
    rw [h1, nm_df (show ¬ nI 1 = nI 2 by decide), nm_dt rfl] at this
    exact congrArg nI this.symm
theorem lc_eq (a b : Int64) : lg_cmp a b = nI 0 ↔ a = b := by
  unfold lg_cmp
  by_cases c : b < a
  · rw [if_pos c]
    refine ⟨fun z => absurd z (by decide), fun z => ?_⟩
    rw [z, Int64.lt_iff_toInt_lt] at c
    omega
  · rw [if_neg c]
    by_cases d : a = b
    · rw [if_pos d]
      exact ⟨fun _ => d, fun _ => rfl⟩
    · rw [if_neg d]
      exact ⟨fun z => absurd z (by decide), fun z => absurd z d⟩
theorem sm_64 (v : Int32) : ¬ v.toInt64 = 4398046511104 ∧ ¬ v.toInt64 = 1099511627776 ∧ ¬ v.toInt64 = 2199023255552 := by
  have l := Int32.toInt_lt v
  have e : v.toInt64.toInt = v.toInt := Int32.toInt_toInt64 v
  refine ⟨fun z => ?_, fun z => ?_, fun z => ?_⟩
  · rw [z, show (4398046511104 : Int64).toInt = 4398046511104 by decide] at e
    omega
  · rw [z, show (1099511627776 : Int64).toInt = 1099511627776 by decide] at e
    omega
  · rw [z, show (2199023255552 : Int64).toInt = 2199023255552 by decide] at e
    omega
/-- the class's 'answer' -/
theorem an_C (n : Nat) {K : St × (St × (St × St))} {p : Nat} (hp : p < 16) : (∀ v : Int32, df_X5_answer n (nI p) v.toInt64 K = some (nI 0, (K.1, (K.2.1, (pR K.2.2.1 3 (upd (upd (sR K.2.2.1 3) (p * 33 + 10) v) (p * 33 + 32) (sR K.2.2.1 3 (p * 33 + 32) + nI 4)), K.2.2.2))))) ∧ df_X5_answer n (nI p) 4398046511104 K = some (nI 7, K) ∧ df_X5_answer n (nI p) 2199023255552 K = some (nI 0, K) ∧ ∀ x : Nat, sI K.2.2.1 2 = nI x → df_X5_answer n (nI p) 1099511627776 K = some (nI 0, (K.1, (K.2.1, (pI (pR K.2.2.1 6 (upd (sR K.2.2.1 6) (p * 7) (nI 2))) 2 (nI (x + 1)), K.2.2.2)))) := by
  have u1 : p * 33 + 10 < 528 := by omega
  have u2 : p * 33 + 32 < 528 := by omega
  have u3 : p * 7 < 112 := by omega
  have u4 : p * 7 < 2 ^ 31 := by omega
  refine ⟨fun v => ?_, ?_, ?_, fun x hx => ?_⟩
  · obtain ⟨s1, s2, s3⟩ := sm_64 v
    have c1 : ¬ lg_cmp v.toInt64 4398046511104 = nI 0 := fun z => s1 ((lc_eq _ _).mp z)
    have c2 : ¬ lg_cmp v.toInt64 1099511627776 = nI 0 := fun z => s2 ((lc_eq _ _).mp z)
    have c3 : ¬ lg_cmp v.toInt64 2199023255552 = nI 0 := fun z => s3 ((lc_eq _ _).mp z)
    have r1 : upd (sR K.2.2.1 3) (p * 33 + 10) v (p * 33 + 32) = sR K.2.2.1 3 (p * 33 + 32) := nm_un (by omega)
    have r2 : v.toInt64.toInt32 = v := Int32.toInt32_toInt64 v
    simp (disch := (first | assumption | decide | omega)) only [df_X5_answer_85, df_X5_answer_0, df_X5_answer, c1, c2, c3, r1, r2, eq_self, Nat.reduceEqDiff, Nat.reduceLeDiff, nl_0, nl_1, nl_2, nl_3, nl_4, nl_6, nl_7, nl_10, nl_32, nl_33, nl_112, nl_528, nl_1099511627776, nl_2199023255552, no_1, no_1024, pk_mul, nI_add, nm_ck, nI_clamp, nI_ltI, nI_leI, nI_eq, nb_b2, nb_b1, ↓nb_let, nm_z0, nm_z1, nb_II, nb_IR, nb_RI, nb_RR, nm_IL, nm_IQ, nm_RL, nm_RQ, nm_LI, nm_LR, nm_LL, nm_LQ, nm_QI, nm_QR, nm_QL, nm_QQ, nm_rr, nm_ii, nm_eqm, not_false_eq_true, pk_sub, nm_div, nm_shl, nm_shr, nm_ush, nm_or8, nm_or64, nm_or256, nm_m1, nm_m3, nm_m7, nm_m15, nm_m31, nm_m63, nm_m255, nm_m511, nm_m1023, nm_m2047, nm_m65535, Nat.reduceMod, Nat.reducePow, Nat.reduceAdd, Nat.reduceSub, Nat.reduceMul, nm_bo, nm_bi, nm_rc, nm_ic, nm_ri, nm_rl, nm_rq, nm_ql, nm_qi, nm_li, nm_us, nm_uu, nm_cp, nm_sa31, nm_sa7, nm_m127, nm_m2, nm_nz, nm_nzk, nm_eq32, nm_nzf, if_true, if_false, ↓reduceIte, if_pos, if_neg]
  · have c1 := (lc_eq 4398046511104 4398046511104).mpr rfl
    simp (disch := (first | assumption | decide | omega)) only [df_X5_answer_85, df_X5_answer_0, df_X5_answer, c1, eq_self, Nat.reduceEqDiff, Nat.reduceLeDiff, nl_0, nl_1, nl_2, nl_3, nl_4, nl_6, nl_7, nl_10, nl_32, nl_33, nl_112, nl_528, nl_1099511627776, nl_2199023255552, no_1, no_1024, pk_mul, nI_add, nm_ck, nI_clamp, nI_ltI, nI_leI, nI_eq, nb_b2, nb_b1, ↓nb_let, nm_z0, nm_z1, nb_II, nb_IR, nb_RI, nb_RR, nm_IL, nm_IQ, nm_RL, nm_RQ, nm_LI, nm_LR, nm_LL, nm_LQ, nm_QI, nm_QR, nm_QL, nm_QQ, nm_rr, nm_ii, nm_eqm, not_false_eq_true, pk_sub, nm_div, nm_shl, nm_shr, nm_ush, nm_or8, nm_or64, nm_or256, nm_m1, nm_m3, nm_m7, nm_m15, nm_m31, nm_m63, nm_m255, nm_m511, nm_m1023, nm_m2047, nm_m65535, Nat.reduceMod, Nat.reducePow, Nat.reduceAdd, Nat.reduceSub, Nat.reduceMul, nm_bo, nm_bi, nm_rc, nm_ic, nm_ri, nm_rl, nm_rq, nm_ql, nm_qi, nm_li, nm_us, nm_uu, nm_cp, nm_sa31, nm_sa7, nm_m127, nm_m2, nm_nz, nm_nzk, nm_eq32, nm_nzf, if_true, if_false, ↓reduceIte, if_pos, if_neg]
  · have c1 : ¬ lg_cmp 2199023255552 4398046511104 = nI 0 := fun z => absurd ((lc_eq _ _).mp z) (by decide)
    have c2 : ¬ lg_cmp 2199023255552 1099511627776 = nI 0 := fun z => absurd ((lc_eq _ _).mp z) (by decide)
    have c3 := (lc_eq 2199023255552 2199023255552).mpr rfl
    simp (disch := (first | assumption | decide | omega)) only [df_X5_answer_85, df_X5_answer_0, df_X5_answer, c1, c2, c3, eq_self, Nat.reduceEqDiff, Nat.reduceLeDiff, nl_0, nl_1, nl_2, nl_3, nl_4, nl_6, nl_7, nl_10, nl_32, nl_33, nl_112, nl_528, nl_1099511627776, nl_2199023255552, no_1, no_1024, pk_mul, nI_add, nm_ck, nI_clamp, nI_ltI, nI_leI, nI_eq, nb_b2, nb_b1, ↓nb_let, nm_z0, nm_z1, nb_II, nb_IR, nb_RI, nb_RR, nm_IL, nm_IQ, nm_RL, nm_RQ, nm_LI, nm_LR, nm_LL, nm_LQ, nm_QI, nm_QR, nm_QL, nm_QQ, nm_rr, nm_ii, nm_eqm, not_false_eq_true, pk_sub, nm_div, nm_shl, nm_shr, nm_ush, nm_or8, nm_or64, nm_or256, nm_m1, nm_m3, nm_m7, nm_m15, nm_m31, nm_m63, nm_m255, nm_m511, nm_m1023, nm_m2047, nm_m65535, Nat.reduceMod, Nat.reducePow, Nat.reduceAdd, Nat.reduceSub, Nat.reduceMul, nm_bo, nm_bi, nm_rc, nm_ic, nm_ri, nm_rl, nm_rq, nm_ql, nm_qi, nm_li, nm_us, nm_uu, nm_cp, nm_sa31, nm_sa7, nm_m127, nm_m2, nm_nz, nm_nzk, nm_eq32, nm_nzf, if_true, if_false, ↓reduceIte, if_pos, if_neg]
  · have c1 : ¬ lg_cmp 1099511627776 4398046511104 = nI 0 := fun z => absurd ((lc_eq _ _).mp z) (by decide)
    have c2 := (lc_eq 1099511627776 1099511627776).mpr rfl
    simp (disch := (first | assumption | decide | omega)) only [df_X5_answer_85, df_X5_answer_0, df_X5_answer, c1, c2, Nat.add_zero, hx, eq_self, Nat.reduceEqDiff, Nat.reduceLeDiff, nl_0, nl_1, nl_2, nl_3, nl_4, nl_6, nl_7, nl_10, nl_32, nl_33, nl_112, nl_528, nl_1099511627776, nl_2199023255552, no_1, no_1024, pk_mul, nI_add, nm_ck, nI_clamp, nI_ltI, nI_leI, nI_eq, nb_b2, nb_b1, ↓nb_let, nm_z0, nm_z1, nb_II, nb_IR, nb_RI, nb_RR, nm_IL, nm_IQ, nm_RL, nm_RQ, nm_LI, nm_LR, nm_LL, nm_LQ, nm_QI, nm_QR, nm_QL, nm_QQ, nm_rr, nm_ii, nm_eqm, not_false_eq_true, pk_sub, nm_div, nm_shl, nm_shr, nm_ush, nm_or8, nm_or64, nm_or256, nm_m1, nm_m3, nm_m7, nm_m15, nm_m31, nm_m63, nm_m255, nm_m511, nm_m1023, nm_m2047, nm_m65535, Nat.reduceMod, Nat.reducePow, Nat.reduceAdd, Nat.reduceSub, Nat.reduceMul, nm_bo, nm_bi, nm_rc, nm_ic, nm_ri, nm_rl, nm_rq, nm_ql, nm_qi, nm_li, nm_us, nm_uu, nm_cp, nm_sa31, nm_sa7, nm_m127, nm_m2, nm_nz, nm_nzk, nm_eq32, nm_nzf, if_true, if_false, ↓reduceIte, if_pos, if_neg]
