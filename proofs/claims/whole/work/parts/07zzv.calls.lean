theorem wrR_c {X Y : St × St} (e1 : sI Y.1 14 = sI X.1 14) (e2 : sI Y.1 15 = sI X.1 15) {p : Nat} {wn wr : Int32} (h : wrR Y p wn wr) : wrR X p wn wr := by
  rcases h with z | ⟨a, k, h1, h2, h3, h4, h5⟩
  · exact Or.inl z
  · exact Or.inr ⟨a, k, h1, h2, h3, h4, by rw [h5, wvs_c e1 e2]⟩
/-- 'yield', with the number that comes -/
theorem nq_next2 (n : Nat) (hn : 1024 < n) {B p : Nat} {M X : St × St} (h : rM B M X) (hp : p < 16) (h1 : sR X.1 1 p = nI 1) (el : sI X.1 2 = nI p) : (p + nr (sR X.1 1) p) % 16 < 16 ∧ df_X6_nextReady n (nI p) M = some (nI ((p + nr (sR X.1 1) p) % 16), M) ∧ df_X16_turn n X = some (pI (pI X.1 1 (nI ((p + nr (sR X.1 1) p) % 16))) 2 (nI ((p + nr (sR X.1 1) p) % 16)), X.2) := by
  have hst := rM_st h
  have nx := nk_next n hn hst hp
  have tu := nk_turn n hn (X := X) (fun q hq => by obtain ⟨t, h1, _, h3⟩ := hst q hq; exact ⟨t, h1, h3⟩) hp el
  have f17 : nr (sR X.1 1) p < 17 := by
    by_cases c : nr (sR X.1 1) p < 17
    · exact c
    · exfalso
      unfold nr at c
      obtain ⟨x1, x2, x3, x4⟩ := fN_le (fun k => decide (sR X.1 1 ((p + k) % 16) = nI 1)) 16 1
      have := of_decide_eq_false (x4 16 (by omega) (by omega))
      rw [show (p + 16) % 16 = p by omega] at this
      exact this h1
  rw [if_pos f17] at nx
  rw [if_pos f17, if_pos f17] at tu
  exact ⟨by omega, nx, tu⟩
/-- what a call leaves: an answer and the register, or a trap -/
def cT (B p : Nat) (s : St × Rw × (St × (St × (St × (St)))) × (St) × (St) × (Nat → St) × (Nat → St) × (Nat → St × (St))) (X : St × St) (t : Int32) (K : St × (St × (St × St))) (or : Nat → Option (St × St)) (n : Nat) : Prop := ∃ X' : St × St, rM B K.2.2 X' ∧ (∀ i : Nat, sO K.1 i = sO s.2.2.1.1 i) ∧ K.2.1 = s.2.2.1.2.1 ∧ (X'.2 = X.2 ∧ sI X'.1 0 = sI X.1 0 ∧ sI X'.1 12 = sI X.1 12 ∧ sI X'.1 14 = sI X.1 14 ∧ sI X'.1 15 = sI X.1 15) ∧ wrR X p (sI K.2.2.1 7) (sI X'.1 16) ∧ ((t = nI 0 ∧ or n = some X') ∨ (t = nI 7 ∧ sR X'.1 1 p = nI 1 ∧ or n = df_X16_trap n (nI 7) X'))
theorem ca_R (n : Nat) {X X' : St × St} {p : Nat} (hp : p < 16) (h3 : sI X.1 12 = nI p) {v : Int32} (ea : df_X16_answer n (sR X.1 9 (32 * p + 17)) (sR X.1 9 (32 * p + 10)) (sR X.1 9 (32 * p + 11)) (sR X.1 9 (32 * p + 12)) (pI X.1 13 (nI 0), X.2) = some (v, X')) (h3' : sI X'.1 12 = nI p) : (sI X'.1 13 = nI 2 → df_X16_call n X = some X') ∧ (sI X'.1 13 = nI 3 → df_X16_call n X = df_X16_trap n (nI 7) X') ∧ (sI X'.1 13 = nI 1 → df_X16_call n X = some (pR (pR X'.1 1 (upd (sR X'.1 1) p (nI 2))) 7 (upd (sR X'.1 7) p (sR X.1 9 (32 * p + 17))), X'.2)) ∧ (sI X'.1 13 = nI 0 → df_X16_call n X = if sR X.1 9 (32 * p + 17) = nI 15 then df_X16_turn n (pR (pR X'.1 9 (upd (sR X'.1 9) (32 * p + 10) v)) 10 (upd (sR X'.1 10) p (sR X'.1 10 p + nI 4)), X'.2) else some (pR (pR X'.1 9 (upd (sR X'.1 9) (32 * p + 10) v)) 10 (upd (sR X'.1 10) p (sR X'.1 10 p + nI 4)), X'.2)) := by
  have u1 : 32 * p + 17 < 512 := by omega
  have u2 : 32 * p + 10 < 512 := by omega
  have u3 : 32 * p + 11 < 512 := by omega
  have u4 : 32 * p + 12 < 512 := by omega
  have u5 : p < 2 ^ 31 := by omega
  have v1 : 32 * p + 17 < 2 ^ 31 := by omega
  have v2 : 32 * p + 10 < 2 ^ 31 := by omega
  have v3 : 32 * p + 11 < 2 ^ 31 := by omega
  have v4 : 32 * p + 12 < 2 ^ 31 := by omega
  have c0 : ∀ x : Option (St × St), nd_b1 x (fun s => some s) = x := fun x => by cases x <;> rfl
  generalize hz : sR X.1 9 (32 * p + 17) = z at ea
  refine ⟨fun e => ?_, fun e => ?_, fun e => ?_, fun e => ?_⟩
  · simp (disch := (first | assumption | decide | omega)) only [df_X16_call, df_X16_call_0, h3, hz, ea, e, eq_self, Nat.reduceEqDiff, Nat.reduceLeDiff, nl_0, nl_1, nl_2, nl_3, nl_4, nl_7, nl_9, nl_10, nl_11, nl_12, nl_13, nl_15, nl_16, nl_17, nl_32, nl_512, no_1, no_1024, pk_mul, nI_add, nm_ck, nI_clamp, nI_ltI, nI_leI, nI_eq, nb_b2, nb_b1, ↓nb_let, nm_z0, nm_z1, nb_II, nb_IR, nb_RI, nb_RR, nm_IL, nm_IQ, nm_RL, nm_RQ, nm_LI, nm_LR, nm_LL, nm_LQ, nm_QI, nm_QR, nm_QL, nm_QQ, nm_rr, nm_ii, nm_eqm, not_false_eq_true, pk_sub, nm_div, nm_shl, nm_shr, nm_ush, nm_or8, nm_or64, nm_or256, nm_m1, nm_m3, nm_m7, nm_m15, nm_m31, nm_m63, nm_m255, nm_m511, nm_m1023, nm_m2047, nm_m65535, Nat.reduceMod, Nat.reducePow, Nat.reduceAdd, Nat.reduceSub, Nat.reduceMul, nm_bo, nm_bi, nm_rc, nm_ic, nm_ri, nm_rl, nm_rq, nm_ql, nm_qi, nm_li, nm_us, nm_uu, nm_cp, nm_sa31, nm_sa7, nm_m127, nm_m2, nm_nz, nm_nzk, nm_eq32, nm_nzf, if_true, if_false, ↓reduceIte, if_pos, if_neg]
  · simp (disch := (first | assumption | decide | omega)) only [df_X16_call, df_X16_call_0, h3, hz, ea, e, c0, eq_self, Nat.reduceEqDiff, Nat.reduceLeDiff, nl_0, nl_1, nl_2, nl_3, nl_4, nl_7, nl_9, nl_10, nl_11, nl_12, nl_13, nl_15, nl_16, nl_17, nl_32, nl_512, no_1, no_1024, pk_mul, nI_add, nm_ck, nI_clamp, nI_ltI, nI_leI, nI_eq, nb_b2, nb_b1, ↓nb_let, nm_z0, nm_z1, nb_II, nb_IR, nb_RI, nb_RR, nm_IL, nm_IQ, nm_RL, nm_RQ, nm_LI, nm_LR, nm_LL, nm_LQ, nm_QI, nm_QR, nm_QL, nm_QQ, nm_rr, nm_ii, nm_eqm, not_false_eq_true, pk_sub, nm_div, nm_shl, nm_shr, nm_ush, nm_or8, nm_or64, nm_or256, nm_m1, nm_m3, nm_m7, nm_m15, nm_m31, nm_m63, nm_m255, nm_m511, nm_m1023, nm_m2047, nm_m65535, Nat.reduceMod, Nat.reducePow, Nat.reduceAdd, Nat.reduceSub, Nat.reduceMul, nm_bo, nm_bi, nm_rc, nm_ic, nm_ri, nm_rl, nm_rq, nm_ql, nm_qi, nm_li, nm_us, nm_uu, nm_cp, nm_sa31, nm_sa7, nm_m127, nm_m2, nm_nz, nm_nzk, nm_eq32, nm_nzf, if_true, if_false, ↓reduceIte, if_pos, if_neg]
  · simp (disch := (first | assumption | decide | omega)) only [df_X16_call, df_X16_call_0, h3, hz, ea, e, h3', eq_self, Nat.reduceEqDiff, Nat.reduceLeDiff, nl_0, nl_1, nl_2, nl_3, nl_4, nl_7, nl_9, nl_10, nl_11, nl_12, nl_13, nl_15, nl_16, nl_17, nl_32, nl_512, no_1, no_1024, pk_mul, nI_add, nm_ck, nI_clamp, nI_ltI, nI_leI, nI_eq, nb_b2, nb_b1, ↓nb_let, nm_z0, nm_z1, nb_II, nb_IR, nb_RI, nb_RR, nm_IL, nm_IQ, nm_RL, nm_RQ, nm_LI, nm_LR, nm_LL, nm_LQ, nm_QI, nm_QR, nm_QL, nm_QQ, nm_rr, nm_ii, nm_eqm, not_false_eq_true, pk_sub, nm_div, nm_shl, nm_shr, nm_ush, nm_or8, nm_or64, nm_or256, nm_m1, nm_m3, nm_m7, nm_m15, nm_m31, nm_m63, nm_m255, nm_m511, nm_m1023, nm_m2047, nm_m65535, Nat.reduceMod, Nat.reducePow, Nat.reduceAdd, Nat.reduceSub, Nat.reduceMul, nm_bo, nm_bi, nm_rc, nm_ic, nm_ri, nm_rl, nm_rq, nm_ql, nm_qi, nm_li, nm_us, nm_uu, nm_cp, nm_sa31, nm_sa7, nm_m127, nm_m2, nm_nz, nm_nzk, nm_eq32, nm_nzf, if_true, if_false, ↓reduceIte, if_pos, if_neg]
  · by_cases c : z = nI 15
    · rw [if_pos c]
      rw [c] at ea
      simp (disch := (first | assumption | decide | omega)) only [df_X16_call, df_X16_call_0, df_X16_call_164, h3, hz, ea, e, h3', c, c0, eq_self, Nat.reduceEqDiff, Nat.reduceLeDiff, nl_0, nl_1, nl_2, nl_3, nl_4, nl_7, nl_9, nl_10, nl_11, nl_12, nl_13, nl_15, nl_16, nl_17, nl_32, nl_512, no_1, no_1024, pk_mul, nI_add, nm_ck, nI_clamp, nI_ltI, nI_leI, nI_eq, nb_b2, nb_b1, ↓nb_let, nm_z0, nm_z1, nb_II, nb_IR, nb_RI, nb_RR, nm_IL, nm_IQ, nm_RL, nm_RQ, nm_LI, nm_LR, nm_LL, nm_LQ, nm_QI, nm_QR, nm_QL, nm_QQ, nm_rr, nm_ii, nm_eqm, not_false_eq_true, pk_sub, nm_div, nm_shl, nm_shr, nm_ush, nm_or8, nm_or64, nm_or256, nm_m1, nm_m3, nm_m7, nm_m15, nm_m31, nm_m63, nm_m255, nm_m511, nm_m1023, nm_m2047, nm_m65535, Nat.reduceMod, Nat.reducePow, Nat.reduceAdd, Nat.reduceSub, Nat.reduceMul, nm_bo, nm_bi, nm_rc, nm_ic, nm_ri, nm_rl, nm_rq, nm_ql, nm_qi, nm_li, nm_us, nm_uu, nm_cp, nm_sa31, nm_sa7, nm_m127, nm_m2, nm_nz, nm_nzk, nm_eq32, nm_nzf, if_true, if_false, ↓reduceIte, if_pos, if_neg]
    · rw [if_neg c]
      simp (disch := (first | assumption | decide | omega)) only [df_X16_call, df_X16_call_0, df_X16_call_164, h3, hz, ea, e, h3', c, eq_self, Nat.reduceEqDiff, Nat.reduceLeDiff, nl_0, nl_1, nl_2, nl_3, nl_4, nl_7, nl_9, nl_10, nl_11, nl_12, nl_13, nl_15, nl_16, nl_17, nl_32, nl_512, no_1, no_1024, pk_mul, nI_add, nm_ck, nI_clamp, nI_ltI, nI_leI, nI_eq, nb_b2, nb_b1, ↓nb_let, nm_z0, nm_z1, nb_II, nb_IR, nb_RI, nb_RR, nm_IL, nm_IQ, nm_RL, nm_RQ, nm_LI, nm_LR, nm_LL, nm_LQ, nm_QI, nm_QR, nm_QL, nm_QQ, nm_rr, nm_ii, nm_eqm, not_false_eq_true, pk_sub, nm_div, nm_shl, nm_shr, nm_ush, nm_or8, nm_or64, nm_or256, nm_m1, nm_m3, nm_m7, nm_m15, nm_m31, nm_m63, nm_m255, nm_m511, nm_m1023, nm_m2047, nm_m65535, Nat.reduceMod, Nat.reducePow, Nat.reduceAdd, Nat.reduceSub, Nat.reduceMul, nm_bo, nm_bi, nm_rc, nm_ic, nm_ri, nm_rl, nm_rq, nm_ql, nm_qi, nm_li, nm_us, nm_uu, nm_cp, nm_sa31, nm_sa7, nm_m127, nm_m2, nm_nz, nm_nzk, nm_eq32, nm_nzf, if_true, if_false, ↓reduceIte, if_pos, if_neg]
/-- a call of the kernel, in both -/
theorem nq_call (n : Nat) (hn : 40000 < n) {B p : Nat} {s : St × Rw × (St × (St × (St × (St)))) × (St) × (St) × (Nat → St) × (Nat → St) × (Nat → St × (St))} {X : St × St} (h1 : rM B s.2.2.1.2.2 X) (h2 : p < 16) (h3 : sI X.1 12 = nI p) (h5 : sR X.1 1 p = nI 1) (h6 : sI s.2.2.1.2.2.1 7 = nI 0) (h7 : sI X.1 16 = nI 0) (hl : sI X.1 2 = nI p) (hP : rPp s X.2) (hB : B + 512 < 2 ^ 62) : ∃ (v64 : Int64) (K' : St × (St × (St × St))) (t : Int32) (K'' : St × (St × (St × St))), df_X5_answerOf n (nI p) s = some (v64, (s.1, (s.2.1, (K', s.2.2.2)))) ∧ df_X5_answer n (nI p) v64 K' = some (t, K'') ∧ cT (B + 512) p s X t K'' (fun n => df_X16_call n X) n := by
  have h : cP B p s.2.2.1 (pI X.1 13 (nI 0), X.2) := ⟨h1, h2, h3, rfl, h5, h6, h7⟩
  by_cases hy : sR X.1 9 (32 * p + 17) = nI 15
  · have x0 : df_X16_answer n (sR X.1 9 (32 * p + 17)) (sR X.1 9 (32 * p + 10)) (sR X.1 9 (32 * p + 11)) (sR X.1 9 (32 * p + 12)) (pI X.1 13 (nI 0), X.2) = some (nI 0, (pI X.1 13 (nI 0), X.2)) := by
      rw [hy]
      generalize sR X.1 9 (32 * p + 10) = a
      generalize sR X.1 9 (32 * p + 11) = b
      generalize sR X.1 9 (32 * p + 12) = d
      unfold df_X16_answer df_X16_answer_0
      rw [if_neg (by decide), if_neg (by decide), if_neg (by decide), if_neg (by decide), if_neg (by decide), if_neg (by decide), if_neg (by decide), if_neg (by decide), if_neg (by decide), if_neg (by decide), if_neg (by decide), if_neg (by decide), if_neg (by decide), if_neg (by decide), if_neg (by decide), if_pos (by decide)]
      rfl
    have R := (ca_R n h2 h3 x0 h3).2.2.2 rfl
    rw [if_pos hy] at R
    have ra := rM_ans h.1 h2 h5 (nI 0)
    have ns := nq_next2 n (by omega) h1 h2 h5 hl
    have nt := (nq_next2 n (by omega) ra h2 h5 hl).2.2
    obtain ⟨q16, q1, _⟩ := ns
    have nt : df_X16_turn n (pR (pR (pI X.1 13 (nI 0)) 9 (upd (sR X.1 9) (32 * p + 10) (nI 0))) 10 (upd (sR X.1 10) p (sR X.1 10 p + nI 4)), X.2) = some (pI (pI (pR (pR (pI X.1 13 (nI 0)) 9 (upd (sR X.1 9) (32 * p + 10) (nI 0))) 10 (upd (sR X.1 10) p (sR X.1 10 p + nI 4))) 1 (nI ((p + nr (sR X.1 1) p) % 16))) 2 (nI ((p + nr (sR X.1 1) p) % 16)), X.2) := nt
    have R : df_X16_call n X = df_X16_turn n (pR (pR (pI X.1 13 (nI 0)) 9 (upd (sR X.1 9) (32 * p + 10) (nI 0))) 10 (upd (sR X.1 10) p (sR X.1 10 p + nI 4)), X.2) := R
    rw [nt] at R
    generalize (p + nr (sR X.1 1) p) % 16 = q at q16 q1 R
    have rc := rM_up (rM_cur ra (Or.inr ⟨q, q16, rfl⟩) ⟨q, q16, rfl⟩ (Or.inr rfl)) (show B ≤ B + 512 by omega)
    have u1 : ¬ q < 0 := by omega
    have u2 : q < 2 ^ 31 := by omega
    have mc : df_X6_makeCurrent n (nI q) s.2.2.1.2.2 = some (pI (pI s.2.2.1.2.2.1 3 (nI q)) 4 (nI q), s.2.2.1.2.2.2) := by simp (disch := (first | assumption | decide | omega)) only [df_X6_makeCurrent_14, df_X6_makeCurrent_0, df_X6_makeCurrent, u1, eq_self, Nat.reduceEqDiff, Nat.reduceLeDiff, nl_0, nl_3, nl_4, no_1, no_1024, pk_mul, nI_add, nm_ck, nI_clamp, nI_ltI, nI_leI, nI_eq, nb_b2, nb_b1, ↓nb_let, nm_z0, nm_z1, nb_II, nb_IR, nb_RI, nb_RR, nm_IL, nm_IQ, nm_RL, nm_RQ, nm_LI, nm_LR, nm_LL, nm_LQ, nm_QI, nm_QR, nm_QL, nm_QQ, nm_rr, nm_ii, nm_eqm, not_false_eq_true, pk_sub, nm_div, nm_shl, nm_shr, nm_ush, nm_or8, nm_or64, nm_or256, nm_m1, nm_m3, nm_m7, nm_m15, nm_m31, nm_m63, nm_m255, nm_m511, nm_m1023, nm_m2047, nm_m65535, Nat.reduceMod, Nat.reducePow, Nat.reduceAdd, Nat.reduceSub, Nat.reduceMul, nm_bo, nm_bi, nm_rc, nm_ic, nm_ri, nm_rl, nm_rq, nm_ql, nm_qi, nm_li, nm_us, nm_uu, nm_cp, nm_sa31, nm_sa7, nm_m127, nm_m2, nm_nz, nm_nzk, nm_eq32, nm_nzf, if_true, if_false, ↓reduceIte, if_pos, if_neg]
    obtain ⟨g10, g11, g12, g17⟩ := ar_4 n (K := s.2.2.1) h1 h2 h5 rfl rfl rfl hy
    have C : df_X5_answerOf n (nI p) s = some (0, (s.1, (s.2.1, ((s.2.2.1.1, (s.2.2.1.2.1, (pI (pI s.2.2.1.2.2.1 3 (nI q)) 4 (nI q), s.2.2.1.2.2.2))), s.2.2.2)))) := by
      unfold df_X5_answerOf df_X5_answerOf_0
      rw [g10, nb_b2, nb_let, g11, nb_b2, nb_let, g12, nb_b2, nb_let, g17, nb_b2, nb_let]
      rw [if_neg (by decide), if_neg (by decide), if_neg (by decide), if_neg (by decide), if_neg (by decide), if_neg (by decide), if_neg (by decide), if_neg (by decide), if_neg (by decide), if_neg (by decide), if_neg (by decide), if_neg (by decide), if_neg (by decide), if_neg (by decide), if_neg (by decide), if_pos (by decide), q1, nb_b2, nb_let, mc, nb_b1, nb_let]
    have A := (an_C n (K := (s.2.2.1.1, (s.2.2.1.2.1, (pI (pI s.2.2.1.2.2.1 3 (nI q)) 4 (nI q), s.2.2.1.2.2.2)))) h2).1 (nI 0)
    refine ⟨0, _, _, _, C, A, _, rc, fun _ => rfl, rfl, ⟨rfl, rfl, rfl, rfl, rfl⟩, Or.inl ⟨h6, h7⟩, Or.inl ⟨rfl, R⟩⟩
  · obtain ⟨v64, K', e, w64, v, K1, M', X', e1, e2, r1, r2, r3, r4, r5, r6, r7⟩ := nq_ao n hn h hP hB (a := sR X.1 9 (32 * p + 10)) (b := sR X.1 9 (32 * p + 11)) (d := sR X.1 9 (32 * p + 12)) (c := sR X.1 9 (32 * p + 17)) rfl rfl rfl rfl hy
    cases e1
    obtain ⟨R2, R3, R1, R0⟩ := ca_R n h2 h3 e2 (r4.2.2.1.trans h3)
    obtain ⟨A0, A3, A2, A1⟩ := an_C n (K := (K1, (s.2.2.1.2.1, M'))) h2
    have r5 : wrR X p (sI M'.1 7) (sI X'.1 16) := wrR_c (X := X) (Y := (pI X.1 13 (nI 0), X.2)) rfl rfl r5
    rcases r3 with ⟨o1, o2⟩ | ⟨o1, o2⟩ | ⟨o1, o2⟩ | ⟨o1, o2⟩
    · subst o2
      have t1 := r6 (by rw [o1]; decide)
      have R := R0 o1
      rw [if_neg hy] at R
      exact ⟨_, _, _, _, e, A0 v, _, rM_ans r1 h2 t1 v, r2, rfl, r4, r5, Or.inl ⟨rfl, R⟩⟩
    · subst o2
      have t1 := r6 (by rw [o1]; decide)
      obtain ⟨w1, w2⟩ := r7 o1
      have w2 : sR X'.1 9 (32 * p + 17) = sR X.1 9 (32 * p + 17) := w2
      have R := R1 o1
      rw [← w2] at R
      exact ⟨_, _, _, _, e, A1 _ r1.2.2.2.1, _, rM_wait r1 h2 t1 w1, r2, rfl, r4, r5, Or.inl ⟨rfl, R⟩⟩
    · subst o2
      exact ⟨_, _, _, _, e, A2, X', r1, r2, rfl, r4, r5, Or.inl ⟨rfl, R2 o1⟩⟩
    · subst o2
      exact ⟨_, _, _, _, e, A3, X', r1, r2, rfl, r4, r5, Or.inr ⟨rfl, r6 (by rw [o1]; decide), R3 o1⟩⟩
