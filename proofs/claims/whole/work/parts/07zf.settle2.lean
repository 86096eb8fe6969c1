theorem cW_ch {st : Nat → Int32} {q : Nat} (hq : q < 16) (v : Int32) : cW (upd st q v) + (decide (st q = nI 2)).toNat = cW st + (decide (v = nI 2)).toNat := by
  have := cN_u (P := fun j => decide (st j = nI 2)) (Q := fun j => decide (upd st q v j = nI 2)) (j := q) (fun j hj => by rw [nm_un hj]) (N := 16) hq
  rw [nm_us] at this
  exact this
theorem cW_le (st : Nat → Int32) : cW st ≤ 16 := cN_le _ _
/-- a WAITING one becomes READY -/
theorem rM_wake {B : Nat} {M X : St × St} (h : rM B M X) {q : Nat} (hq : q < 16) (h2 : sR X.1 1 q = nI 2) : rM B (pI (pR M.1 6 (upd (sR M.1 6) (q * 7) (nI 1))) 2 (nI (cW (sR X.1 1) - 1)), M.2) (pR (pR X.1 1 (upd (sR X.1 1) q (nI 1))) 7 (upd (sR X.1 7) q (-nI 1)), X.2) := by
  obtain ⟨m1, m2, m3, m4, m5, m6, m7⟩ := h
  refine ⟨m1, m2, fun r hr => ?_, ?_, m5, m6, m7⟩
  · by_cases c : r = q
    · subst c
      obtain ⟨t, c, w, b, e, ht, hc, hw, hb, he, a1, a2, a3, a4, a5, a6, a7, a8, a9, a10, a11, a12, a13, a14, a15, a16, a17, a18, a19, a20, a21⟩ := m3 r hr
      have k2 : t = 2 := nm_inI (by omega) (by omega) (a2.symm.trans h2)
      subst k2
      exact ⟨1, c, w, b, e, by omega, hc, hw, hb, he, nm_us, nm_us, (nm_un (by omega)).trans a3, a4, a5, fun z => absurd z (by omega), fun _ => (nm_un (by omega)).trans (a7 (by omega)), (nm_un (by omega)).trans a8, a9, (nm_un (by omega)).trans a10, a11, (nm_un (by omega)).trans a12, a13, (nm_un (by omega)).trans a14, a15, a16, fun _ => a17 (by omega), fun _ => a18 (by omega), fun z => by omega, fun z => absurd z (by omega), fun _ => nm_us⟩
    · exact rP1_ag (m3 r hr) ⟨fun i hi => nm_un (by omega), fun _ _ => rfl, fun _ _ => rfl, fun _ _ => rfl, rfl⟩ ⟨⟨nm_un c, rfl, rfl, rfl, rfl, rfl, nm_un c, rfl⟩, fun _ _ => rfl, rfl, fun _ _ => rfl, rfl, fun _ _ => rfl, fun _ _ => rfl, fun _ _ => Iff.rfl, rfl⟩
  · have := cW_ch (st := sR X.1 1) hq (nI 1)
    rw [nm_dt h2, nm_df (show ¬ nI 1 = nI 2 by decide)] at this
    exact congrArg nI (show cW (sR X.1 1) - 1 = cW (upd (sR X.1 1) q (nI 1)) by omega)
/-- the current one is chosen, in both -/
theorem rM_cur {B : Nat} {M X : St × St} (h : rM B M X) {v l : Int32} (hv : okP v) (hl : ∃ k : Nat, k < 16 ∧ l = nI k) (hvl : v = -nI 1 ∨ l = v) : rM B (pI (pI M.1 3 v) 4 l, M.2) (pI (pI X.1 1 v) 2 l, X.2) := by
  obtain ⟨m1, m2, m3, m4, ⟨g1, g2, g3, g4, g5, g6, g7, g8⟩, m6, m7⟩ := h
  exact ⟨m1, m2, m3, m4, ⟨rfl, hv, rfl, hl, hvl, g6, g7, g8⟩, m6, m7⟩
theorem nk_chooseB (n : Nat) (hn : 1024 < n) {B : Nat} {M X : St × St} (h : rM B M X) : ∃ M' X' : St × St, df_X6_chooseCurrent n M = some M' ∧ (∀ g : Int32 → St × St → Option (St × St), dF_X16_settle_2 n g (nI 16) X = some X') ∧ rM B M' X' ∧ kX X X' ∧ kM M M' ∧ ((M' = M ∧ X' = X ∧ ∃ a : Nat, a < 16 ∧ sI X.1 1 = nI a ∧ sR X.1 1 a = nI 1) ∨ ((sI X.1 1 = -nI 1 ∨ ∃ a : Nat, a < 16 ∧ sI X.1 1 = nI a ∧ ¬ sR X.1 1 a = nI 1) ∧ ∃ v l : Int32, X' = (pI (pI X.1 1 v) 2 l, X.2) ∧ M' = (pI (pI M.1 3 v) 4 l, M.2) ∧ (v = -nI 1 → (∀ q : Nat, q < 16 → ¬ sR X.1 1 q = nI 1) ∧ l = sI X.1 2) ∧ ∀ a : Nat, a < 16 → v = nI a → sR X.1 1 a = nI 1)) := by
  have hst := rM_st h
  obtain ⟨g1, g2, g3, ⟨la, hla, g4⟩, g5, g6, g7, g8⟩ := h.2.2.2.2.1
  have em := g3.trans g4
  have ch := nk_choose n hn hst hla em
  have tu := nk_turn n hn (X := X) (fun q hq => by obtain ⟨t, h1, _, h3⟩ := hst q hq; exact ⟨t, h1, h3⟩) hla g4
  have key : ∀ q : Nat, q < 16 → ¬ nr (sR X.1 1) la < 17 → ¬ sR X.1 1 q = nI 1 := fun q hq hn e => by
    unfold nr at hn
    obtain ⟨x1, x2, x3, x4⟩ := fN_le (fun k => decide (sR X.1 1 ((la + k) % 16) = nI 1)) 16 1
    have := x4 (if q ≤ la then q + 16 - la else q - la) (by split <;> omega) (by split <;> omega)
    have := of_decide_eq_false this
    refine this ?_
    rw [show (la + if q ≤ la then q + 16 - la else q - la) % 16 = q by split <;> omega]
    exact e
  have nl := (nr_le (sR X.1 1) la).2.2
  generalize nr (sR X.1 1) la = f at ch tu key nl
  have fin : rM B (pI (pI M.1 3 (if f < 17 then nI ((la + f) % 16) else -nI 1)) 4 (if f < 17 then nI ((la + f) % 16) else nI la), M.2) (pI (pI X.1 1 (if f < 17 then nI ((la + f) % 16) else -nI 1)) 2 (if f < 17 then nI ((la + f) % 16) else nI la), X.2) := by
    by_cases c : f < 17
    · rw [if_pos c, if_pos c]
      exact rM_cur h (Or.inr ⟨_, by omega, rfl⟩) ⟨_, by omega, rfl⟩ (Or.inr rfl)
    · rw [if_neg c, if_neg c]
      exact rM_cur h (Or.inl rfl) ⟨la, hla, rfl⟩ (Or.inl rfl)
  have last : ∃ v l : Int32, (pI (pI X.1 1 (if f < 17 then nI ((la + f) % 16) else -nI 1)) 2 (if f < 17 then nI ((la + f) % 16) else nI la), X.2) = (pI (pI X.1 1 v) 2 l, X.2) ∧ (pI (pI M.1 3 (if f < 17 then nI ((la + f) % 16) else -nI 1)) 4 (if f < 17 then nI ((la + f) % 16) else nI la), M.2) = (pI (pI M.1 3 v) 4 l, M.2) ∧ (v = -nI 1 → (∀ q : Nat, q < 16 → ¬ sR X.1 1 q = nI 1) ∧ l = sI X.1 2) ∧ ∀ a : Nat, a < 16 → v = nI a → sR X.1 1 a = nI 1 := by
    refine ⟨_, _, rfl, rfl, fun z => ?_, fun a ha z => ?_⟩
    · by_cases c : f < 17
      · rw [if_pos c] at z
        exact absurd z (nk_ne (by omega))
      · rw [if_neg c]
        exact ⟨fun q hq => key q hq c, g4.symm⟩
    · by_cases c : f < 17
      · rw [if_pos c] at z
        have : (la + f) % 16 = a := nm_inI (by omega) (by omega) z
        rw [← this]; exact nl c
      · rw [if_neg c] at z
        exact absurd z.symm (nk_ne (by omega))
  rcases g2 with z | ⟨a, ha, z⟩
  · have z' := g1.trans z
    refine ⟨_, _, ?_, fun g => ?_, fin, ⟨rfl, rfl, rfl, rfl, rfl, rfl, rfl⟩, rfl, Or.inr ⟨Or.inl z, last⟩⟩
    · simp (disch := (first | assumption | decide | omega)) only [df_X6_chooseCurrent, df_X6_chooseCurrent_0, z', nm_ltm, ch, eq_self, Nat.reduceEqDiff, Nat.reduceLeDiff, nl_0, nl_1, nl_3, nl_15, no_1, no_1024, pk_mul, nI_add, nm_ck, nI_clamp, nI_ltI, nI_leI, nI_eq, nb_b2, nb_b1, ↓nb_let, nm_z0, nm_z1, nb_II, nb_IR, nb_RI, nb_RR, nm_IL, nm_IQ, nm_RL, nm_RQ, nm_LI, nm_LR, nm_LL, nm_LQ, nm_QI, nm_QR, nm_QL, nm_QQ, nm_rr, nm_ii, nm_eqm, not_false_eq_true, pk_sub, nm_div, nm_shl, nm_shr, nm_ush, nm_or8, nm_or64, nm_or256, nm_m1, nm_m3, nm_m7, nm_m15, nm_m31, nm_m63, nm_m255, nm_m511, nm_m1023, nm_m2047, nm_m65535, Nat.reduceMod, Nat.reducePow, Nat.reduceAdd, Nat.reduceSub, Nat.reduceMul, nm_bo, nm_bi, nm_rc, nm_ic, nm_ri, nm_rl, nm_rq, nm_ql, nm_qi, nm_li, nm_us, nm_uu, nm_cp, nm_sa31, nm_sa7, nm_m127, nm_m2, nm_nz, nm_nzk, nm_eq32, nm_nzf, if_true, if_false, ↓reduceIte, if_pos, if_neg]
    · simp (disch := (first | assumption | decide | omega)) only [dF_X16_settle_2, df_X16_settle_79, z, tu, eq_self, Nat.reduceEqDiff, Nat.reduceLeDiff, nl_0, nl_1, nl_2, nl_16, no_1, no_1024, pk_mul, nI_add, nm_ck, nI_clamp, nI_ltI, nI_leI, nI_eq, nb_b2, nb_b1, ↓nb_let, nm_z0, nm_z1, nb_II, nb_IR, nb_RI, nb_RR, nm_IL, nm_IQ, nm_RL, nm_RQ, nm_LI, nm_LR, nm_LL, nm_LQ, nm_QI, nm_QR, nm_QL, nm_QQ, nm_rr, nm_ii, nm_eqm, not_false_eq_true, pk_sub, nm_div, nm_shl, nm_shr, nm_ush, nm_or8, nm_or64, nm_or256, nm_m1, nm_m3, nm_m7, nm_m15, nm_m31, nm_m63, nm_m255, nm_m511, nm_m1023, nm_m2047, nm_m65535, Nat.reduceMod, Nat.reducePow, Nat.reduceAdd, Nat.reduceSub, Nat.reduceMul, nm_bo, nm_bi, nm_rc, nm_ic, nm_ri, nm_rl, nm_rq, nm_ql, nm_qi, nm_li, nm_us, nm_uu, nm_cp, nm_sa31, nm_sa7, nm_m127, nm_m2, nm_nz, nm_nzk, nm_eq32, nm_nzf, if_true, if_false, ↓reduceIte, if_pos, if_neg]
  · have z' := g1.trans z
    have u1 : a < 2 ^ 31 := by omega
    have u2 : ¬ a < 0 := by omega
    have u3 : a % 16 = a := by omega
    have u4 : a * 7 < 112 := by omega
    obtain ⟨t, ht, t1, t2⟩ := hst a ha
    have u5 : t < 2 ^ 31 := by omega
    by_cases c : t = 1
    · rw [c] at t1 t2
      refine ⟨M, X, ?_, fun g => ?_, h, ⟨rfl, rfl, rfl, rfl, rfl, rfl, rfl⟩, rfl, Or.inl ⟨rfl, rfl, a, ha, z, t2⟩⟩
      · simp (disch := (first | assumption | decide | omega)) only [df_X6_chooseCurrent, df_X6_chooseCurrent_0, df_X6_chooseCurrent_34, df_X6_status_0, df_X6_status, z', u2, u3, Nat.add_zero, t1, eq_self, Nat.reduceEqDiff, Nat.reduceLeDiff, nl_0, nl_1, nl_3, nl_6, nl_7, nl_15, nl_112, no_1, no_1024, pk_mul, nI_add, nm_ck, nI_clamp, nI_ltI, nI_leI, nI_eq, nb_b2, nb_b1, ↓nb_let, nm_z0, nm_z1, nb_II, nb_IR, nb_RI, nb_RR, nm_IL, nm_IQ, nm_RL, nm_RQ, nm_LI, nm_LR, nm_LL, nm_LQ, nm_QI, nm_QR, nm_QL, nm_QQ, nm_rr, nm_ii, nm_eqm, not_false_eq_true, pk_sub, nm_div, nm_shl, nm_shr, nm_ush, nm_or8, nm_or64, nm_or256, nm_m1, nm_m3, nm_m7, nm_m15, nm_m31, nm_m63, nm_m255, nm_m511, nm_m1023, nm_m2047, nm_m65535, Nat.reduceMod, Nat.reducePow, Nat.reduceAdd, Nat.reduceSub, Nat.reduceMul, nm_bo, nm_bi, nm_rc, nm_ic, nm_ri, nm_rl, nm_rq, nm_ql, nm_qi, nm_li, nm_us, nm_uu, nm_cp, nm_sa31, nm_sa7, nm_m127, nm_m2, nm_nz, nm_nzk, nm_eq32, nm_nzf, if_true, if_false, ↓reduceIte, if_pos, if_neg]
      · simp (disch := (first | assumption | decide | omega)) only [dF_X16_settle_2, df_X16_settle_79, z, t2, eq_self, Nat.reduceEqDiff, Nat.reduceLeDiff, nl_0, nl_1, nl_2, nl_16, no_1, no_1024, pk_mul, nI_add, nm_ck, nI_clamp, nI_ltI, nI_leI, nI_eq, nb_b2, nb_b1, ↓nb_let, nm_z0, nm_z1, nb_II, nb_IR, nb_RI, nb_RR, nm_IL, nm_IQ, nm_RL, nm_RQ, nm_LI, nm_LR, nm_LL, nm_LQ, nm_QI, nm_QR, nm_QL, nm_QQ, nm_rr, nm_ii, nm_eqm, not_false_eq_true, pk_sub, nm_div, nm_shl, nm_shr, nm_ush, nm_or8, nm_or64, nm_or256, nm_m1, nm_m3, nm_m7, nm_m15, nm_m31, nm_m63, nm_m255, nm_m511, nm_m1023, nm_m2047, nm_m65535, Nat.reduceMod, Nat.reducePow, Nat.reduceAdd, Nat.reduceSub, Nat.reduceMul, nm_bo, nm_bi, nm_rc, nm_ic, nm_ri, nm_rl, nm_rq, nm_ql, nm_qi, nm_li, nm_us, nm_uu, nm_cp, nm_sa31, nm_sa7, nm_m127, nm_m2, nm_nz, nm_nzk, nm_eq32, nm_nzf, if_true, if_false, ↓reduceIte, if_pos, if_neg]
    · refine ⟨_, _, ?_, fun g => ?_, fin, ⟨rfl, rfl, rfl, rfl, rfl, rfl, rfl⟩, rfl, Or.inr ⟨Or.inr ⟨a, ha, z, fun y => c (nm_inI (by omega) (by omega) (t2.symm.trans y))⟩, last⟩⟩
      · simp (disch := (first | assumption | decide | omega)) only [df_X6_chooseCurrent, df_X6_chooseCurrent_0, df_X6_chooseCurrent_34, df_X6_status_0, df_X6_status, z', u2, u3, Nat.add_zero, t1, c, ch, eq_self, Nat.reduceEqDiff, Nat.reduceLeDiff, nl_0, nl_1, nl_3, nl_6, nl_7, nl_15, nl_112, no_1, no_1024, pk_mul, nI_add, nm_ck, nI_clamp, nI_ltI, nI_leI, nI_eq, nb_b2, nb_b1, ↓nb_let, nm_z0, nm_z1, nb_II, nb_IR, nb_RI, nb_RR, nm_IL, nm_IQ, nm_RL, nm_RQ, nm_LI, nm_LR, nm_LL, nm_LQ, nm_QI, nm_QR, nm_QL, nm_QQ, nm_rr, nm_ii, nm_eqm, not_false_eq_true, pk_sub, nm_div, nm_shl, nm_shr, nm_ush, nm_or8, nm_or64, nm_or256, nm_m1, nm_m3, nm_m7, nm_m15, nm_m31, nm_m63, nm_m255, nm_m511, nm_m1023, nm_m2047, nm_m65535, Nat.reduceMod, Nat.reducePow, Nat.reduceAdd, Nat.reduceSub, Nat.reduceMul, nm_bo, nm_bi, nm_rc, nm_ic, nm_ri, nm_rl, nm_rq, nm_ql, nm_qi, nm_li, nm_us, nm_uu, nm_cp, nm_sa31, nm_sa7, nm_m127, nm_m2, nm_nz, nm_nzk, nm_eq32, nm_nzf, if_true, if_false, ↓reduceIte, if_pos, if_neg]
      · simp (disch := (first | assumption | decide | omega)) only [dF_X16_settle_2, df_X16_settle_79, z, t2, c, tu, eq_self, Nat.reduceEqDiff, Nat.reduceLeDiff, nl_0, nl_1, nl_2, nl_16, no_1, no_1024, pk_mul, nI_add, nm_ck, nI_clamp, nI_ltI, nI_leI, nI_eq, nb_b2, nb_b1, ↓nb_let, nm_z0, nm_z1, nb_II, nb_IR, nb_RI, nb_RR, nm_IL, nm_IQ, nm_RL, nm_RQ, nm_LI, nm_LR, nm_LL, nm_LQ, nm_QI, nm_QR, nm_QL, nm_QQ, nm_rr, nm_ii, nm_eqm, not_false_eq_true, pk_sub, nm_div, nm_shl, nm_shr, nm_ush, nm_or8, nm_or64, nm_or256, nm_m1, nm_m3, nm_m7, nm_m15, nm_m31, nm_m63, nm_m255, nm_m511, nm_m1023, nm_m2047, nm_m65535, Nat.reduceMod, Nat.reducePow, Nat.reduceAdd, Nat.reduceSub, Nat.reduceMul, nm_bo, nm_bi, nm_rc, nm_ic, nm_ri, nm_rl, nm_rq, nm_ql, nm_qi, nm_li, nm_us, nm_uu, nm_cp, nm_sa31, nm_sa7, nm_m127, nm_m2, nm_nz, nm_nzk, nm_eq32, nm_nzf, if_true, if_false, ↓reduceIte, if_pos, if_neg]
/-- the class's turn, one that WAITS -/
theorem st_C (n : Nat) {G : Int32 → St × (St × (St × St)) → Option (St × (St × (St × St)))} {K : St × (St × (St × St))} {q x : Nat} (hq : q < 16) (x0 : ¬ x ≤ 0) (hx : x ≤ 16) (m4 : sI K.2.2.1 2 = nI x) (t1 : sR K.2.2.1 6 (q * 7) = nI 2) {f : Nat} (hf : f < 16) (k1 : df_X6_takeable n (nI q) K.2.2 = some (nI f, K.2.2)) : dF_X5_settle_2 n G (nI q) K = if f = 0 then nd_b2 (df_X5_mustWait n (nI q) K) (fun v s => if v = 0 then df_X5_settle_49 n G (nI q) s else df_X5_settle_74 n G (nI q) s) else df_X5_settle_49 n G (nI q) K := by
  have u1 : q * 7 < 112 := by omega
  have u2 : q < 2 ^ 31 := by omega
  have u4 : q * 7 < 2 ^ 31 := by omega
  have u5 : x < 2 ^ 31 := by omega
  have u6 : f < 2 ^ 31 := by omega
  have q16 : ¬ 16 ≤ q := by omega
  by_cases f0 : f = 0
  · subst f0
    rw [if_pos rfl]
    simp (disch := (first | assumption | decide | omega)) only [dF_X5_settle_2, df_X6_status_0, df_X6_status, q16, m4, x0, Nat.add_zero, t1, k1, eq_self, Nat.reduceEqDiff, Nat.reduceLeDiff, nl_0, nl_2, nl_6, nl_7, nl_16, nl_112, no_1, no_1024, pk_mul, nI_add, nm_ck, nI_clamp, nI_ltI, nI_leI, nI_eq, nb_b2, nb_b1, ↓nb_let, nm_z0, nm_z1, nb_II, nb_IR, nb_RI, nb_RR, nm_IL, nm_IQ, nm_RL, nm_RQ, nm_LI, nm_LR, nm_LL, nm_LQ, nm_QI, nm_QR, nm_QL, nm_QQ, nm_rr, nm_ii, nm_eqm, not_false_eq_true, pk_sub, nm_div, nm_shl, nm_shr, nm_ush, nm_or8, nm_or64, nm_or256, nm_m1, nm_m3, nm_m7, nm_m15, nm_m31, nm_m63, nm_m255, nm_m511, nm_m1023, nm_m2047, nm_m65535, Nat.reduceMod, Nat.reducePow, Nat.reduceAdd, Nat.reduceSub, Nat.reduceMul, nm_bo, nm_bi, nm_rc, nm_ic, nm_ri, nm_rl, nm_rq, nm_ql, nm_qi, nm_li, nm_us, nm_uu, nm_cp, nm_sa31, nm_sa7, nm_m127, nm_m2, nm_nz, nm_nzk, nm_eq32, nm_nzf, if_true, if_false, ↓reduceIte, if_pos, if_neg]
  · rw [if_neg f0]
    simp (disch := (first | assumption | decide | omega)) only [dF_X5_settle_2, df_X6_status_0, df_X6_status, q16, m4, x0, Nat.add_zero, t1, k1, f0, eq_self, Nat.reduceEqDiff, Nat.reduceLeDiff, nl_0, nl_2, nl_6, nl_7, nl_16, nl_112, no_1, no_1024, pk_mul, nI_add, nm_ck, nI_clamp, nI_ltI, nI_leI, nI_eq, nb_b2, nb_b1, ↓nb_let, nm_z0, nm_z1, nb_II, nb_IR, nb_RI, nb_RR, nm_IL, nm_IQ, nm_RL, nm_RQ, nm_LI, nm_LR, nm_LL, nm_LQ, nm_QI, nm_QR, nm_QL, nm_QQ, nm_rr, nm_ii, nm_eqm, not_false_eq_true, pk_sub, nm_div, nm_shl, nm_shr, nm_ush, nm_or8, nm_or64, nm_or256, nm_m1, nm_m3, nm_m7, nm_m15, nm_m31, nm_m63, nm_m255, nm_m511, nm_m1023, nm_m2047, nm_m65535, Nat.reduceMod, Nat.reducePow, Nat.reduceAdd, Nat.reduceSub, Nat.reduceMul, nm_bo, nm_bi, nm_rc, nm_ic, nm_ri, nm_rl, nm_rq, nm_ql, nm_qi, nm_li, nm_us, nm_uu, nm_cp, nm_sa31, nm_sa7, nm_m127, nm_m2, nm_nz, nm_nzk, nm_eq32, nm_nzf, if_true, if_false, ↓reduceIte, if_pos, if_neg]
theorem st_49 (n : Nat) {G : Int32 → St × (St × (St × St)) → Option (St × (St × (St × St)))} {K : St × (St × (St × St))} {q x : Nat} (hq : q < 16) (x0 : ¬ x ≤ 0) (hx : x ≤ 16) (m4 : sI K.2.2.1 2 = nI x) : df_X5_settle_49 n G (nI q) K = G (nI (q + 1)) (K.1, (K.2.1, (pI (pR K.2.2.1 6 (upd (sR K.2.2.1 6) (q * 7) (nI 1))) 2 (nI (x - 1)), K.2.2.2))) := by
  have u1 : q * 7 < 112 := by omega
  have u2 : q < 2 ^ 31 := by omega
  have u4 : q * 7 < 2 ^ 31 := by omega
  have u5 : 1 ≤ x := by omega
  simp (disch := (first | assumption | decide | omega)) only [df_X5_settle_49, df_X5_settle_74, Nat.add_zero, m4, eq_self, Nat.reduceEqDiff, Nat.reduceLeDiff, nl_0, nl_1, nl_2, nl_6, nl_7, nl_112, no_1, no_1024, pk_mul, nI_add, nm_ck, nI_clamp, nI_ltI, nI_leI, nI_eq, nb_b2, nb_b1, ↓nb_let, nm_z0, nm_z1, nb_II, nb_IR, nb_RI, nb_RR, nm_IL, nm_IQ, nm_RL, nm_RQ, nm_LI, nm_LR, nm_LL, nm_LQ, nm_QI, nm_QR, nm_QL, nm_QQ, nm_rr, nm_ii, nm_eqm, not_false_eq_true, pk_sub, nm_div, nm_shl, nm_shr, nm_ush, nm_or8, nm_or64, nm_or256, nm_m1, nm_m3, nm_m7, nm_m15, nm_m31, nm_m63, nm_m255, nm_m511, nm_m1023, nm_m2047, nm_m65535, Nat.reduceMod, Nat.reducePow, Nat.reduceAdd, Nat.reduceSub, Nat.reduceMul, nm_bo, nm_bi, nm_rc, nm_ic, nm_ri, nm_rl, nm_rq, nm_ql, nm_qi, nm_li, nm_us, nm_uu, nm_cp, nm_sa31, nm_sa7, nm_m127, nm_m2, nm_nz, nm_nzk, nm_eq32, nm_nzf, if_true, if_false, ↓reduceIte, if_pos, if_neg]
/-- one turn of 'settle' -/
theorem nk_settleT (n : Nat) (hn : 1024 < n) {B : Nat} {K : St × (St × (St × St))} {X : St × St} (h : rM B K.2.2 X) {q : Nat} (hq : q < 16) : ∃ M' X' : St × St, (∀ m : Nat, df_X5_settle_2 n (m + 1 + 1) (nI q) K = df_X5_settle_2 n (m + 1) (nI (q + 1)) (K.1, (K.2.1, M')) ∧ df_X16_settle_2 n (m + 1) (nI q) X = df_X16_settle_2 n m (nI (q + 1)) X') ∧ rM B M' X' ∧ kX X X' ∧ kM K.2.2 M' ∧ ((M' = K.2.2 ∧ X' = X) ∨ (sR X.1 1 q = nI 2 ∧ M' = (pI (pR K.2.2.1 6 (upd (sR K.2.2.1 6) (q * 7) (nI 1))) 2 (nI (cW (sR X.1 1) - 1)), K.2.2.2) ∧ X' = (pR (pR X.1 1 (upd (sR X.1 1) q (nI 1))) 7 (upd (sR X.1 7) q (-nI 1)), X.2))) ∧ (sR X'.1 1 q = nI 2 → df_X16_waitsStill n (nI q) X = some (nI 1, X) ∧ df_X16_takeable n (nI q) X = some (nI 0, X)) := by
  have hst := rM_st h
  obtain ⟨t, ht, t1, t2⟩ := hst q hq
  have m4 := h.2.2.2.1
  have cl := cW_le (sR X.1 1)
  have u1 : q * 7 < 112 := by omega
  have u2 : q < 2 ^ 31 := by omega
  have u3 : t < 2 ^ 31 := by omega
  have u4 : q * 7 < 2 ^ 31 := by omega
  have q16 : ¬ 16 ≤ q := by omega
  by_cases k2 : t = 2
  · subst k2
    obtain ⟨b, w1, w2⟩ := nk_mustWait n hn h hq t2
    have hp := h.2.2.1 q hq
    obtain ⟨t', c, w, b', e, ht', hc, hw, hb, he, a1, a2, a3, a4, a5, a6, a7, a8, a9, a10, a11, _⟩ := hp
    obtain ⟨k1, k2, k3⟩ := nk_takeable n hn hq hc hw a8 a10 a9 a11
    have k1 : df_X6_takeable n (nI q) K.2.2 = some (nI (tk (2 * c) w), K.2.2) := k1
    have c1 : 0 < cW (sR X.1 1) := cN_p (P := fun j => decide (sR X.1 1 j = nI 2)) (i := q) (decide_eq_true t2) hq
    have wk := rM_wake h hq t2
    generalize cW (sR X.1 1) = x at m4 cl c1 wk ⊢
    have c0 : ¬ x ≤ 0 := by omega
    generalize tk (2 * c) w = f at k1 k2 k3
    have u5 : x < 2 ^ 31 := by omega
    have u6 : f < 2 ^ 31 := by omega
    have u7 : 1 ≤ x := by omega
    by_cases f0 : f = 0
    · subst f0
      cases b with
      | true =>
        rw [bI_t] at w1 w2
        refine ⟨K.2.2, X, fun m => ⟨?_, ?_⟩, h, ⟨rfl, rfl, rfl, rfl, rfl, rfl, rfl⟩, rfl, Or.inl ⟨rfl, rfl⟩, fun _ => ⟨w2, k2⟩⟩
        · rw [show df_X5_settle_2 n (m + 1 + 1) = dF_X5_settle_2 n (df_X5_settle_2 n (m + 1)) from rfl]
          generalize df_X5_settle_2 n (m + 1) = G
          rw [st_C n hq c0 cl m4 t1 k3 k1, if_pos rfl, w1, nb_b2]
          simp (disch := (first | assumption | decide | omega)) only [df_X5_settle_74, eq_self, Nat.reduceEqDiff, Nat.reduceLeDiff, nl_1, no_1, no_1024, pk_mul, nI_add, nm_ck, nI_clamp, nI_ltI, nI_leI, nI_eq, nb_b2, nb_b1, ↓nb_let, nm_z0, nm_z1, nb_II, nb_IR, nb_RI, nb_RR, nm_IL, nm_IQ, nm_RL, nm_RQ, nm_LI, nm_LR, nm_LL, nm_LQ, nm_QI, nm_QR, nm_QL, nm_QQ, nm_rr, nm_ii, nm_eqm, not_false_eq_true, pk_sub, nm_div, nm_shl, nm_shr, nm_ush, nm_or8, nm_or64, nm_or256, nm_m1, nm_m3, nm_m7, nm_m15, nm_m31, nm_m63, nm_m255, nm_m511, nm_m1023, nm_m2047, nm_m65535, Nat.reduceMod, Nat.reducePow, Nat.reduceAdd, Nat.reduceSub, Nat.reduceMul, nm_bo, nm_bi, nm_rc, nm_ic, nm_ri, nm_rl, nm_rq, nm_ql, nm_qi, nm_li, nm_us, nm_uu, nm_cp, nm_sa31, nm_sa7, nm_m127, nm_m2, nm_nz, nm_nzk, nm_eq32, nm_nzf, if_true, if_false, ↓reduceIte, if_pos, if_neg]
        · rw [show df_X16_settle_2 n (m + 1) = dF_X16_settle_2 n (df_X16_settle_2 n m) from rfl]
          simp (disch := (first | assumption | decide | omega)) only [dF_X16_settle_2, df_X16_settle_51, q16, t2, w2, k2, eq_self, Nat.reduceEqDiff, Nat.reduceLeDiff, nl_0, nl_1, nl_2, nl_16, no_1, no_1024, pk_mul, nI_add, nm_ck, nI_clamp, nI_ltI, nI_leI, nI_eq, nb_b2, nb_b1, ↓nb_let, nm_z0, nm_z1, nb_II, nb_IR, nb_RI, nb_RR, nm_IL, nm_IQ, nm_RL, nm_RQ, nm_LI, nm_LR, nm_LL, nm_LQ, nm_QI, nm_QR, nm_QL, nm_QQ, nm_rr, nm_ii, nm_eqm, not_false_eq_true, pk_sub, nm_div, nm_shl, nm_shr, nm_ush, nm_or8, nm_or64, nm_or256, nm_m1, nm_m3, nm_m7, nm_m15, nm_m31, nm_m63, nm_m255, nm_m511, nm_m1023, nm_m2047, nm_m65535, Nat.reduceMod, Nat.reducePow, Nat.reduceAdd, Nat.reduceSub, Nat.reduceMul, nm_bo, nm_bi, nm_rc, nm_ic, nm_ri, nm_rl, nm_rq, nm_ql, nm_qi, nm_li, nm_us, nm_uu, nm_cp, nm_sa31, nm_sa7, nm_m127, nm_m2, nm_nz, nm_nzk, nm_eq32, nm_nzf, if_true, if_false, ↓reduceIte, if_pos, if_neg]
      | false =>
        rw [bI_f] at w1 w2
        refine ⟨_, _, fun m => ⟨?_, ?_⟩, wk, ⟨rfl, rfl, rfl, rfl, rfl, rfl, rfl⟩, rfl, Or.inr ⟨t2, rfl, rfl⟩, fun z => absurd ((nm_us).symm.trans z) (by decide)⟩
        · rw [show df_X5_settle_2 n (m + 1 + 1) = dF_X5_settle_2 n (df_X5_settle_2 n (m + 1)) from rfl]
          generalize df_X5_settle_2 n (m + 1) = G
          rw [st_C n hq c0 cl m4 t1 k3 k1, if_pos rfl, w1, nb_b2]
          exact st_49 n hq c0 cl m4
        · rw [show df_X16_settle_2 n (m + 1) = dF_X16_settle_2 n (df_X16_settle_2 n m) from rfl]
          simp (disch := (first | assumption | decide | omega)) only [dF_X16_settle_2, df_X16_settle_51, df_X16_settle_37, q16, t2, w2, eq_self, Nat.reduceEqDiff, Nat.reduceLeDiff, nl_0, nl_1, nl_2, nl_7, nl_16, no_1, no_1024, pk_mul, nI_add, nm_ck, nI_clamp, nI_ltI, nI_leI, nI_eq, nb_b2, nb_b1, ↓nb_let, nm_z0, nm_z1, nb_II, nb_IR, nb_RI, nb_RR, nm_IL, nm_IQ, nm_RL, nm_RQ, nm_LI, nm_LR, nm_LL, nm_LQ, nm_QI, nm_QR, nm_QL, nm_QQ, nm_rr, nm_ii, nm_eqm, not_false_eq_true, pk_sub, nm_div, nm_shl, nm_shr, nm_ush, nm_or8, nm_or64, nm_or256, nm_m1, nm_m3, nm_m7, nm_m15, nm_m31, nm_m63, nm_m255, nm_m511, nm_m1023, nm_m2047, nm_m65535, Nat.reduceMod, Nat.reducePow, Nat.reduceAdd, Nat.reduceSub, Nat.reduceMul, nm_bo, nm_bi, nm_rc, nm_ic, nm_ri, nm_rl, nm_rq, nm_ql, nm_qi, nm_li, nm_us, nm_uu, nm_cp, nm_sa31, nm_sa7, nm_m127, nm_m2, nm_nz, nm_nzk, nm_eq32, nm_nzf, if_true, if_false, ↓reduceIte, if_pos, if_neg]
    · refine ⟨_, _, fun m => ⟨?_, ?_⟩, wk, ⟨rfl, rfl, rfl, rfl, rfl, rfl, rfl⟩, rfl, Or.inr ⟨t2, rfl, rfl⟩, fun z => absurd ((nm_us).symm.trans z) (by decide)⟩
      · rw [show df_X5_settle_2 n (m + 1 + 1) = dF_X5_settle_2 n (df_X5_settle_2 n (m + 1)) from rfl]
        generalize df_X5_settle_2 n (m + 1) = G
        rw [st_C n hq c0 cl m4 t1 k3 k1, if_neg f0]
        exact st_49 n hq c0 cl m4
      · rw [show df_X16_settle_2 n (m + 1) = dF_X16_settle_2 n (df_X16_settle_2 n m) from rfl]
        cases b with
        | true =>
          rw [bI_t] at w2
          simp (disch := (first | assumption | decide | omega)) only [dF_X16_settle_2, df_X16_settle_51, df_X16_settle_37, q16, t2, w2, k2, f0, eq_self, Nat.reduceEqDiff, Nat.reduceLeDiff, nl_0, nl_1, nl_2, nl_7, nl_16, no_1, no_1024, pk_mul, nI_add, nm_ck, nI_clamp, nI_ltI, nI_leI, nI_eq, nb_b2, nb_b1, ↓nb_let, nm_z0, nm_z1, nb_II, nb_IR, nb_RI, nb_RR, nm_IL, nm_IQ, nm_RL, nm_RQ, nm_LI, nm_LR, nm_LL, nm_LQ, nm_QI, nm_QR, nm_QL, nm_QQ, nm_rr, nm_ii, nm_eqm, not_false_eq_true, pk_sub, nm_div, nm_shl, nm_shr, nm_ush, nm_or8, nm_or64, nm_or256, nm_m1, nm_m3, nm_m7, nm_m15, nm_m31, nm_m63, nm_m255, nm_m511, nm_m1023, nm_m2047, nm_m65535, Nat.reduceMod, Nat.reducePow, Nat.reduceAdd, Nat.reduceSub, Nat.reduceMul, nm_bo, nm_bi, nm_rc, nm_ic, nm_ri, nm_rl, nm_rq, nm_ql, nm_qi, nm_li, nm_us, nm_uu, nm_cp, nm_sa31, nm_sa7, nm_m127, nm_m2, nm_nz, nm_nzk, nm_eq32, nm_nzf, if_true, if_false, ↓reduceIte, if_pos, if_neg]
        | false =>
          rw [bI_f] at w2
          simp (disch := (first | assumption | decide | omega)) only [dF_X16_settle_2, df_X16_settle_51, df_X16_settle_37, q16, t2, w2, eq_self, Nat.reduceEqDiff, Nat.reduceLeDiff, nl_0, nl_1, nl_2, nl_7, nl_16, no_1, no_1024, pk_mul, nI_add, nm_ck, nI_clamp, nI_ltI, nI_leI, nI_eq, nb_b2, nb_b1, ↓nb_let, nm_z0, nm_z1, nb_II, nb_IR, nb_RI, nb_RR, nm_IL, nm_IQ, nm_RL, nm_RQ, nm_LI, nm_LR, nm_LL, nm_LQ, nm_QI, nm_QR, nm_QL, nm_QQ, nm_rr, nm_ii, nm_eqm, not_false_eq_true, pk_sub, nm_div, nm_shl, nm_shr, nm_ush, nm_or8, nm_or64, nm_or256, nm_m1, nm_m3, nm_m7, nm_m15, nm_m31, nm_m63, nm_m255, nm_m511, nm_m1023, nm_m2047, nm_m65535, Nat.reduceMod, Nat.reducePow, Nat.reduceAdd, Nat.reduceSub, Nat.reduceMul, nm_bo, nm_bi, nm_rc, nm_ic, nm_ri, nm_rl, nm_rq, nm_ql, nm_qi, nm_li, nm_us, nm_uu, nm_cp, nm_sa31, nm_sa7, nm_m127, nm_m2, nm_nz, nm_nzk, nm_eq32, nm_nzf, if_true, if_false, ↓reduceIte, if_pos, if_neg]
  · refine ⟨K.2.2, X, fun m => ⟨?_, ?_⟩, h, ⟨rfl, rfl, rfl, rfl, rfl, rfl, rfl⟩, rfl, Or.inl ⟨rfl, rfl⟩, fun z => absurd (nm_inI (by omega) (by omega) (t2.symm.trans z)) k2⟩
    · generalize cW (sR X.1 1) = x at m4 cl
      have u5 : x < 2 ^ 31 := by omega
      by_cases c0 : x ≤ 0
      · rw [show df_X5_settle_2 n (m + 1 + 1) = dF_X5_settle_2 n (df_X5_settle_2 n (m + 1)) from rfl, show df_X5_settle_2 n (m + 1) = dF_X5_settle_2 n (df_X5_settle_2 n m) from rfl]
        generalize df_X5_settle_2 n m = G
        by_cases q15 : 16 ≤ q + 1
        · have u6 : q + 1 < 2 ^ 31 := by omega
          simp (disch := (first | assumption | decide | omega)) only [dF_X5_settle_2, q16, q15, m4, c0, eq_self, Nat.reduceEqDiff, Nat.reduceLeDiff, nl_0, nl_2, nl_16, no_1, no_1024, pk_mul, nI_add, nm_ck, nI_clamp, nI_ltI, nI_leI, nI_eq, nb_b2, nb_b1, ↓nb_let, nm_z0, nm_z1, nb_II, nb_IR, nb_RI, nb_RR, nm_IL, nm_IQ, nm_RL, nm_RQ, nm_LI, nm_LR, nm_LL, nm_LQ, nm_QI, nm_QR, nm_QL, nm_QQ, nm_rr, nm_ii, nm_eqm, not_false_eq_true, pk_sub, nm_div, nm_shl, nm_shr, nm_ush, nm_or8, nm_or64, nm_or256, nm_m1, nm_m3, nm_m7, nm_m15, nm_m31, nm_m63, nm_m255, nm_m511, nm_m1023, nm_m2047, nm_m65535, Nat.reduceMod, Nat.reducePow, Nat.reduceAdd, Nat.reduceSub, Nat.reduceMul, nm_bo, nm_bi, nm_rc, nm_ic, nm_ri, nm_rl, nm_rq, nm_ql, nm_qi, nm_li, nm_us, nm_uu, nm_cp, nm_sa31, nm_sa7, nm_m127, nm_m2, nm_nz, nm_nzk, nm_eq32, nm_nzf, if_true, if_false, ↓reduceIte, if_pos, if_neg]
        · have u6 : q + 1 < 2 ^ 31 := by omega
          simp (disch := (first | assumption | decide | omega)) only [dF_X5_settle_2, q16, q15, m4, c0, eq_self, Nat.reduceEqDiff, Nat.reduceLeDiff, nl_0, nl_2, nl_16, no_1, no_1024, pk_mul, nI_add, nm_ck, nI_clamp, nI_ltI, nI_leI, nI_eq, nb_b2, nb_b1, ↓nb_let, nm_z0, nm_z1, nb_II, nb_IR, nb_RI, nb_RR, nm_IL, nm_IQ, nm_RL, nm_RQ, nm_LI, nm_LR, nm_LL, nm_LQ, nm_QI, nm_QR, nm_QL, nm_QQ, nm_rr, nm_ii, nm_eqm, not_false_eq_true, pk_sub, nm_div, nm_shl, nm_shr, nm_ush, nm_or8, nm_or64, nm_or256, nm_m1, nm_m3, nm_m7, nm_m15, nm_m31, nm_m63, nm_m255, nm_m511, nm_m1023, nm_m2047, nm_m65535, Nat.reduceMod, Nat.reducePow, Nat.reduceAdd, Nat.reduceSub, Nat.reduceMul, nm_bo, nm_bi, nm_rc, nm_ic, nm_ri, nm_rl, nm_rq, nm_ql, nm_qi, nm_li, nm_us, nm_uu, nm_cp, nm_sa31, nm_sa7, nm_m127, nm_m2, nm_nz, nm_nzk, nm_eq32, nm_nzf, if_true, if_false, ↓reduceIte, if_pos, if_neg]
      · rw [show df_X5_settle_2 n (m + 1 + 1) = dF_X5_settle_2 n (df_X5_settle_2 n (m + 1)) from rfl]
        generalize df_X5_settle_2 n (m + 1) = G
        simp (disch := (first | assumption | decide | omega)) only [dF_X5_settle_2, df_X5_settle_74, df_X6_status_0, df_X6_status, q16, m4, c0, Nat.add_zero, t1, k2, eq_self, Nat.reduceEqDiff, Nat.reduceLeDiff, nl_0, nl_1, nl_2, nl_6, nl_7, nl_16, nl_112, no_1, no_1024, pk_mul, nI_add, nm_ck, nI_clamp, nI_ltI, nI_leI, nI_eq, nb_b2, nb_b1, ↓nb_let, nm_z0, nm_z1, nb_II, nb_IR, nb_RI, nb_RR, nm_IL, nm_IQ, nm_RL, nm_RQ, nm_LI, nm_LR, nm_LL, nm_LQ, nm_QI, nm_QR, nm_QL, nm_QQ, nm_rr, nm_ii, nm_eqm, not_false_eq_true, pk_sub, nm_div, nm_shl, nm_shr, nm_ush, nm_or8, nm_or64, nm_or256, nm_m1, nm_m3, nm_m7, nm_m15, nm_m31, nm_m63, nm_m255, nm_m511, nm_m1023, nm_m2047, nm_m65535, Nat.reduceMod, Nat.reducePow, Nat.reduceAdd, Nat.reduceSub, Nat.reduceMul, nm_bo, nm_bi, nm_rc, nm_ic, nm_ri, nm_rl, nm_rq, nm_ql, nm_qi, nm_li, nm_us, nm_uu, nm_cp, nm_sa31, nm_sa7, nm_m127, nm_m2, nm_nz, nm_nzk, nm_eq32, nm_nzf, if_true, if_false, ↓reduceIte, if_pos, if_neg]
    · rw [show df_X16_settle_2 n (m + 1) = dF_X16_settle_2 n (df_X16_settle_2 n m) from rfl]
      simp (disch := (first | assumption | decide | omega)) only [dF_X16_settle_2, df_X16_settle_51, q16, t2, k2, eq_self, Nat.reduceEqDiff, Nat.reduceLeDiff, nl_0, nl_1, nl_2, nl_16, no_1, no_1024, pk_mul, nI_add, nm_ck, nI_clamp, nI_ltI, nI_leI, nI_eq, nb_b2, nb_b1, ↓nb_let, nm_z0, nm_z1, nb_II, nb_IR, nb_RI, nb_RR, nm_IL, nm_IQ, nm_RL, nm_RQ, nm_LI, nm_LR, nm_LL, nm_LQ, nm_QI, nm_QR, nm_QL, nm_QQ, nm_rr, nm_ii, nm_eqm, not_false_eq_true, pk_sub, nm_div, nm_shl, nm_shr, nm_ush, nm_or8, nm_or64, nm_or256, nm_m1, nm_m3, nm_m7, nm_m15, nm_m31, nm_m63, nm_m255, nm_m511, nm_m1023, nm_m2047, nm_m65535, Nat.reduceMod, Nat.reducePow, Nat.reduceAdd, Nat.reduceSub, Nat.reduceMul, nm_bo, nm_bi, nm_rc, nm_ic, nm_ri, nm_rl, nm_rq, nm_ql, nm_qi, nm_li, nm_us, nm_uu, nm_cp, nm_sa31, nm_sa7, nm_m127, nm_m2, nm_nz, nm_nzk, nm_eq32, nm_nzf, if_true, if_false, ↓reduceIte, if_pos, if_neg]
theorem kX_r (X : St × St) : kX X X := ⟨rfl, rfl, rfl, rfl, rfl, rfl, rfl⟩
theorem kX_t {X Y Z : St × St} (h : kX X Y) (g : kX Y Z) : kX X Z := by
  obtain ⟨k1, k2, k3, k4, k5, k6, k7⟩ := g
  obtain ⟨j1, j2, j3, j4, j5, j6, j7⟩ := h
  exact ⟨k1.trans j1, k2.trans j2, k3.trans j3, k4.trans j4, k5.trans j5, k6.trans j6, k7.trans j7⟩
theorem kM_t {X Y Z : St × St} (h : kM X Y) (g : kM Y Z) : kM X Z := Eq.trans g h
/-- 'settle', in both -/
theorem nk_settle (n : Nat) (hn : 1024 < n) {B : Nat} {K : St × (St × (St × St))} {X : St × St} (h : rM B K.2.2 X) : ∃ M' X' : St × St, df_X5_settle n K = some (K.1, (K.2.1, M')) ∧ df_X16_settle n X = some X' ∧ rM B M' X' ∧ kX X X' ∧ kM K.2.2 M' := by
  obtain ⟨n1, rfl⟩ : ∃ n1 : Nat, n = n1 + 1 := ⟨n - 1, by omega⟩
  obtain ⟨m, s, t, ⟨i1, i2, i3⟩, e1, e2⟩ := nm_l2 (fun m k s => df_X5_settle_2 (n1 + 1) (m + 1) (nI k) (K.1, (K.2.1, s))) (fun m k t => df_X16_settle_2 (n1 + 1) (m + 1) (nI k) t) (fun k s t => rM B s t ∧ kX X t ∧ kM K.2.2 s) 16 n1 (by omega) (fun k m s t hk ⟨i1, i2, i3⟩ => by
    obtain ⟨M', X', f1, f2, f3, f4, _⟩ := nk_settleT (n1 + 1) hn (K := (K.1, (K.2.1, s))) i1 hk
    exact ⟨M', X', ⟨f2, kX_t i2 f3, kM_t i3 f4⟩, (f1 m).1, (f1 (m + 1)).2⟩) K.2.2 X ⟨h, kX_r X, rfl⟩
  obtain ⟨M', X', f1, f2, f3, f4, f5, _⟩ := nk_chooseB (n1 + 1) hn i1
  refine ⟨M', X', ?_, ?_, f3, kX_t i2 f4, kM_t i3 f5⟩
  · refine Eq.trans (b := df_X5_settle_2 (n1 + 1) (n1 + 1) (nI 0) K) rfl ?_
    refine Eq.trans e1 ?_
    show df_X5_settle_2 (n1 + 1) (m + 1 + 1) (nI 16) _ = _
    rw [show df_X5_settle_2 (n1 + 1) (m + 1 + 1) = dF_X5_settle_2 (n1 + 1) (df_X5_settle_2 (n1 + 1) (m + 1)) from rfl]
    simp (disch := (first | assumption | decide | omega)) only [dF_X5_settle_2, df_X5_settle_80, f1, eq_self, Nat.reduceEqDiff, Nat.reduceLeDiff, nl_0, nl_2, nl_16, no_1, no_1024, pk_mul, nI_add, nm_ck, nI_clamp, nI_ltI, nI_leI, nI_eq, nb_b2, nb_b1, ↓nb_let, nm_z0, nm_z1, nb_II, nb_IR, nb_RI, nb_RR, nm_IL, nm_IQ, nm_RL, nm_RQ, nm_LI, nm_LR, nm_LL, nm_LQ, nm_QI, nm_QR, nm_QL, nm_QQ, nm_rr, nm_ii, nm_eqm, not_false_eq_true, pk_sub, nm_div, nm_shl, nm_shr, nm_ush, nm_or8, nm_or64, nm_or256, nm_m1, nm_m3, nm_m7, nm_m15, nm_m31, nm_m63, nm_m255, nm_m511, nm_m1023, nm_m2047, nm_m65535, Nat.reduceMod, Nat.reducePow, Nat.reduceAdd, Nat.reduceSub, Nat.reduceMul, nm_bo, nm_bi, nm_rc, nm_ic, nm_ri, nm_rl, nm_rq, nm_ql, nm_qi, nm_li, nm_us, nm_uu, nm_cp, nm_sa31, nm_sa7, nm_m127, nm_m2, nm_nz, nm_nzk, nm_eq32, nm_nzf, if_true, if_false, ↓reduceIte, if_pos, if_neg]
  · refine Eq.trans (b := df_X16_settle_2 (n1 + 1) (n1 + 1) (nI 0) X) rfl ?_
    exact Eq.trans e2 (f2 _)
