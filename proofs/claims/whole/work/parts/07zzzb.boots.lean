theorem c2_256 : cN (fun i => decide (i < 2)) 256 = 2 := by decide +kernel
/-- descriptors and openings as a machine begins -/
theorem bD {l op pi fi de kd th po rt ip isf nam : Nat → Int32} (hl : ∀ i : Nat, i < 256 → l i = if i < 2 then nI 1 else nI 0) (hde : ∀ i : Nat, i < 256 → de i = if i < 2 then nI 0 else -nI 1) (hop : ∀ o : Nat, o < 48 → op (o * 5) = if o = 0 then nI 4 else nI 0) (o1 : op 1 = nI 2) (o2 : op 2 = nI 0) (o3 : op 3 = nI 0) (o4 : op 4 = nI 3) (hkd : ∀ o : Nat, o < 48 → kd o = if o = 0 then nI 4 else nI 0) (hth : th 0 = nI 0) (hrt : rt 0 = nI 3) (hpi : ∀ k : Nat, k < 32 → pi k = nI 0) (hfi : ∀ k : Nat, k < 48 → fi k = nI 0) (hip : ∀ k : Nat, k < 8 → ip k = nI 0) (hisf : ∀ k : Nat, k < 16 → isf k = nI 0 ∧ nam k = nI 0) : rD l op pi fi de kd th po rt ip isf nam := by
  have c0 : cD de 0 = 2 := by
    refine Eq.trans ?_ c2_256
    refine cN_c (fun i hi => ?_)
    show decide (de i = nI 0) = decide (i < 2)
    rw [hde i hi]
    by_cases c : i < 2
    · rw [if_pos c, decide_eq_true rfl, decide_eq_true c]
    · rw [if_neg c, decide_eq_false c]
      exact decide_eq_false (by decide)
  have co : ∀ o : Nat, o < 48 → o ≠ 0 → cD de o = 0 := fun o ho hne => cN_0 (fun i hi => by
    show decide (de i = nI o) = false
    rw [hde i hi]
    refine decide_eq_false (fun z => ?_)
    by_cases c : i < 2
    · rw [if_pos c] at z
      have := nm_inI (by omega) (by omega) z
      omega
    · rw [if_neg c] at z
      exact nk_ne (by omega) z.symm)
  have ce : ∀ s k : Nat, 1 ≤ s → s ≤ 3 → cE kd th s k = 0 := fun s k h1 h3 => cN_0 (fun i hi => by
    show decide (kd i = nI s ∧ th i = nI k) = false
    refine decide_eq_false (fun z => ?_)
    have z1 := z.1
    rw [hkd i hi] at z1
    by_cases c : i = 0
    · rw [if_pos c] at z1
      have := nm_inI (by omega) (by omega) z1
      omega
    · rw [if_neg c] at z1
      have := nm_inI (by omega) (by omega) z1
      omega)
  refine ⟨fun i hi => ?_, fun o ho => ?_, fun k hk => ?_, fun k hk => ?_⟩
  · rw [hde i hi, hl i hi]
    by_cases c : i < 2
    · rw [if_pos c, if_pos c]
      exact Or.inr ⟨0, by omega, rfl, rfl⟩
    · rw [if_neg c, if_neg c]
      exact Or.inl ⟨rfl, rfl⟩
  · by_cases c : o = 0
    · subst c
      right
      refine ⟨4, 0, by omega, by omega, by omega, (hkd 0 ho).trans (if_pos rfl), (hop 0 ho).trans (if_pos rfl), ?_, hth, ?_, by omega, by omega, ?_, by omega, fun _ => ?_, ⟨3, by omega, hrt, by omega, by omega⟩, by omega⟩
      · rw [c0]; exact o1
      · exact o2
      · rw [hrt]; exact o4
      · exact o3
    · left
      exact ⟨(hkd o ho).trans (if_neg c), (hop o ho).trans (if_neg c), co o ho c⟩
  · rw [ce 1 k (by omega) (by omega), ce 2 k (by omega) (by omega)]
    exact ⟨hpi _ (by omega), hpi _ (by omega), hip k hk⟩
  · rw [ce 3 k (by omega) (by omega), (hisf k hk).2]
    refine ⟨hfi _ (by omega), Or.inl rfl, hfi _ (by omega), ?_⟩
    rw [(hisf k hk).1, decide_eq_false (show ¬ ((nI 0 : Int32) = nI 1 ∨ 0 < 0) from fun y => by rcases y with y | y; exact absurd y (by decide); omega)]
    rfl
/-- the reference's machine before it settles first -/
def bX (s : St × St) (b fr ri ho : Nat → Int32) (us : Int32) (H : Nat) : St × St := (pR (pR (pR (pR (pR (lX s b fr ri ho us 0 H).1 19 (upd (sR s.1 19) 0 (nI 4))) 20 (upd (sR s.1 20) 0 (nI 0))) 21 (upd (sR s.1 21) 0 (nI 0))) 22 (upd (sR s.1 22) 0 (nI 3))) 14 (upd (upd (sR s.1 14) 1 (nI 0)) 0 (nI 0)), s.2)
theorem bX_rows (X : St × St) (b fr ri ho : Nat → Int32) (us : Int32) (H : Nat) : (∀ k : Nat, k = 1 ∨ k = 2 ∨ k = 3 ∨ k = 4 ∨ k = 7 ∨ k = 8 ∨ k = 11 ∨ k = 12 ∨ k = 13 ∨ (23 ≤ k) ∨ k = 0 → sR (bX X b fr ri ho us H).1 k = sR X.1 k) ∧ sR (bX X b fr ri ho us H).1 5 = upd (sR X.1 5) 0 (nI H) ∧ sR (bX X b fr ri ho us H).1 6 = upd (sR X.1 6) 0 (nI H) ∧ sR (bX X b fr ri ho us H).1 9 = upd (fl (sR X.1 9) (32 * 0) 32 (nI 0)) (32 * 0 + 2) (nI 65536) ∧ sR (bX X b fr ri ho us H).1 10 = upd (sR X.1 10) 0 (nI 0) ∧ sR (bX X b fr ri ho us H).1 14 = upd (upd (sR X.1 14) 1 (nI 0)) 0 (nI 0) ∧ sR (bX X b fr ri ho us H).1 15 = b ∧ sR (bX X b fr ri ho us H).1 16 = fr ∧ sR (bX X b fr ri ho us H).1 17 = ri ∧ sR (bX X b fr ri ho us H).1 18 = ho ∧ sR (bX X b fr ri ho us H).1 19 = upd (sR X.1 19) 0 (nI 4) ∧ sR (bX X b fr ri ho us H).1 20 = upd (sR X.1 20) 0 (nI 0) ∧ sR (bX X b fr ri ho us H).1 21 = upd (sR X.1 21) 0 (nI 0) ∧ sR (bX X b fr ri ho us H).1 22 = upd (sR X.1 22) 0 (nI 3) ∧ (∀ k : Nat, ¬ k = 6 → sI (bX X b fr ri ho us H).1 k = sI X.1 k) ∧ sI (bX X b fr ri ho us H).1 6 = us ∧ (∀ k : Nat, sL (bX X b fr ri ho us H).1 k = sL X.1 k) ∧ (∀ k : Nat, sQ (bX X b fr ri ho us H).1 k = sQ X.1 k) ∧ (bX X b fr ri ho us H).2 = X.2 := by
  refine ⟨fun k hk => ?_, ?_, ?_, ?_, ?_, ?_, ?_, ?_, ?_, ?_, ?_, ?_, ?_, ?_, fun k k1 => ?_, ?_, fun k => ?_, fun k => ?_, rfl⟩
  · have k5 : ¬ k = 5 := by omega
    have k6 : ¬ k = 6 := by omega
    have k9 : ¬ k = 9 := by omega
    have k10 : ¬ k = 10 := by omega
    have k14 : ¬ k = 14 := by omega
    have k15 : ¬ k = 15 := by omega
    have k16 : ¬ k = 16 := by omega
    have k17 : ¬ k = 17 := by omega
    have k18 : ¬ k = 18 := by omega
    have k19 : ¬ k = 19 := by omega
    have k20 : ¬ k = 20 := by omega
    have k21 : ¬ k = 21 := by omega
    have k22 : ¬ k = 22 := by omega
    simp (disch := (first | assumption | decide | omega)) only [bX, lX, xU, k5, k6, k9, k10, k14, k15, k16, k17, k18, k19, k20, k21, k22, eq_self, Nat.reduceEqDiff, Nat.reduceLeDiff, no_1, no_1024, pk_mul, nI_add, nm_ck, nI_clamp, nI_ltI, nI_leI, nI_eq, nb_b2, nb_b1, ↓nb_let, nm_z0, nm_z1, nb_II, nb_IR, nb_RI, nb_RR, nm_IL, nm_IQ, nm_RL, nm_RQ, nm_LI, nm_LR, nm_LL, nm_LQ, nm_QI, nm_QR, nm_QL, nm_QQ, nm_rr, nm_ii, nm_eqm, not_false_eq_true, pk_sub, nm_div, nm_shl, nm_shr, nm_ush, nm_or8, nm_or64, nm_or256, nm_m1, nm_m3, nm_m7, nm_m15, nm_m31, nm_m63, nm_m255, nm_m511, nm_m1023, nm_m2047, nm_m65535, Nat.reduceMod, Nat.reducePow, Nat.reduceAdd, Nat.reduceSub, Nat.reduceMul, nm_bo, nm_bi, nm_rc, nm_ic, nm_ri, nm_rl, nm_rq, nm_ql, nm_qi, nm_li, nm_us, nm_uu, nm_cp, nm_sa31, nm_sa7, nm_m127, nm_m2, nm_nz, nm_nzk, nm_eq32, nm_nzf, if_true, if_false, ↓reduceIte, if_pos, if_neg]
  · simp (disch := (first | assumption | decide | omega)) only [bX, lX, xU, eq_self, Nat.reduceEqDiff, Nat.reduceLeDiff, no_1, no_1024, pk_mul, nI_add, nm_ck, nI_clamp, nI_ltI, nI_leI, nI_eq, nb_b2, nb_b1, ↓nb_let, nm_z0, nm_z1, nb_II, nb_IR, nb_RI, nb_RR, nm_IL, nm_IQ, nm_RL, nm_RQ, nm_LI, nm_LR, nm_LL, nm_LQ, nm_QI, nm_QR, nm_QL, nm_QQ, nm_rr, nm_ii, nm_eqm, not_false_eq_true, pk_sub, nm_div, nm_shl, nm_shr, nm_ush, nm_or8, nm_or64, nm_or256, nm_m1, nm_m3, nm_m7, nm_m15, nm_m31, nm_m63, nm_m255, nm_m511, nm_m1023, nm_m2047, nm_m65535, Nat.reduceMod, Nat.reducePow, Nat.reduceAdd, Nat.reduceSub, Nat.reduceMul, nm_bo, nm_bi, nm_rc, nm_ic, nm_ri, nm_rl, nm_rq, nm_ql, nm_qi, nm_li, nm_us, nm_uu, nm_cp, nm_sa31, nm_sa7, nm_m127, nm_m2, nm_nz, nm_nzk, nm_eq32, nm_nzf, if_true, if_false, ↓reduceIte, if_pos, if_neg]
  · simp (disch := (first | assumption | decide | omega)) only [bX, lX, xU, eq_self, Nat.reduceEqDiff, Nat.reduceLeDiff, no_1, no_1024, pk_mul, nI_add, nm_ck, nI_clamp, nI_ltI, nI_leI, nI_eq, nb_b2, nb_b1, ↓nb_let, nm_z0, nm_z1, nb_II, nb_IR, nb_RI, nb_RR, nm_IL, nm_IQ, nm_RL, nm_RQ, nm_LI, nm_LR, nm_LL, nm_LQ, nm_QI, nm_QR, nm_QL, nm_QQ, nm_rr, nm_ii, nm_eqm, not_false_eq_true, pk_sub, nm_div, nm_shl, nm_shr, nm_ush, nm_or8, nm_or64, nm_or256, nm_m1, nm_m3, nm_m7, nm_m15, nm_m31, nm_m63, nm_m255, nm_m511, nm_m1023, nm_m2047, nm_m65535, Nat.reduceMod, Nat.reducePow, Nat.reduceAdd, Nat.reduceSub, Nat.reduceMul, nm_bo, nm_bi, nm_rc, nm_ic, nm_ri, nm_rl, nm_rq, nm_ql, nm_qi, nm_li, nm_us, nm_uu, nm_cp, nm_sa31, nm_sa7, nm_m127, nm_m2, nm_nz, nm_nzk, nm_eq32, nm_nzf, if_true, if_false, ↓reduceIte, if_pos, if_neg]
  · simp (disch := (first | assumption | decide | omega)) only [bX, lX, xU, eq_self, Nat.reduceEqDiff, Nat.reduceLeDiff, no_1, no_1024, pk_mul, nI_add, nm_ck, nI_clamp, nI_ltI, nI_leI, nI_eq, nb_b2, nb_b1, ↓nb_let, nm_z0, nm_z1, nb_II, nb_IR, nb_RI, nb_RR, nm_IL, nm_IQ, nm_RL, nm_RQ, nm_LI, nm_LR, nm_LL, nm_LQ, nm_QI, nm_QR, nm_QL, nm_QQ, nm_rr, nm_ii, nm_eqm, not_false_eq_true, pk_sub, nm_div, nm_shl, nm_shr, nm_ush, nm_or8, nm_or64, nm_or256, nm_m1, nm_m3, nm_m7, nm_m15, nm_m31, nm_m63, nm_m255, nm_m511, nm_m1023, nm_m2047, nm_m65535, Nat.reduceMod, Nat.reducePow, Nat.reduceAdd, Nat.reduceSub, Nat.reduceMul, nm_bo, nm_bi, nm_rc, nm_ic, nm_ri, nm_rl, nm_rq, nm_ql, nm_qi, nm_li, nm_us, nm_uu, nm_cp, nm_sa31, nm_sa7, nm_m127, nm_m2, nm_nz, nm_nzk, nm_eq32, nm_nzf, if_true, if_false, ↓reduceIte, if_pos, if_neg]
  · simp (disch := (first | assumption | decide | omega)) only [bX, lX, xU, eq_self, Nat.reduceEqDiff, Nat.reduceLeDiff, no_1, no_1024, pk_mul, nI_add, nm_ck, nI_clamp, nI_ltI, nI_leI, nI_eq, nb_b2, nb_b1, ↓nb_let, nm_z0, nm_z1, nb_II, nb_IR, nb_RI, nb_RR, nm_IL, nm_IQ, nm_RL, nm_RQ, nm_LI, nm_LR, nm_LL, nm_LQ, nm_QI, nm_QR, nm_QL, nm_QQ, nm_rr, nm_ii, nm_eqm, not_false_eq_true, pk_sub, nm_div, nm_shl, nm_shr, nm_ush, nm_or8, nm_or64, nm_or256, nm_m1, nm_m3, nm_m7, nm_m15, nm_m31, nm_m63, nm_m255, nm_m511, nm_m1023, nm_m2047, nm_m65535, Nat.reduceMod, Nat.reducePow, Nat.reduceAdd, Nat.reduceSub, Nat.reduceMul, nm_bo, nm_bi, nm_rc, nm_ic, nm_ri, nm_rl, nm_rq, nm_ql, nm_qi, nm_li, nm_us, nm_uu, nm_cp, nm_sa31, nm_sa7, nm_m127, nm_m2, nm_nz, nm_nzk, nm_eq32, nm_nzf, if_true, if_false, ↓reduceIte, if_pos, if_neg]
  · simp (disch := (first | assumption | decide | omega)) only [bX, lX, xU, eq_self, Nat.reduceEqDiff, Nat.reduceLeDiff, no_1, no_1024, pk_mul, nI_add, nm_ck, nI_clamp, nI_ltI, nI_leI, nI_eq, nb_b2, nb_b1, ↓nb_let, nm_z0, nm_z1, nb_II, nb_IR, nb_RI, nb_RR, nm_IL, nm_IQ, nm_RL, nm_RQ, nm_LI, nm_LR, nm_LL, nm_LQ, nm_QI, nm_QR, nm_QL, nm_QQ, nm_rr, nm_ii, nm_eqm, not_false_eq_true, pk_sub, nm_div, nm_shl, nm_shr, nm_ush, nm_or8, nm_or64, nm_or256, nm_m1, nm_m3, nm_m7, nm_m15, nm_m31, nm_m63, nm_m255, nm_m511, nm_m1023, nm_m2047, nm_m65535, Nat.reduceMod, Nat.reducePow, Nat.reduceAdd, Nat.reduceSub, Nat.reduceMul, nm_bo, nm_bi, nm_rc, nm_ic, nm_ri, nm_rl, nm_rq, nm_ql, nm_qi, nm_li, nm_us, nm_uu, nm_cp, nm_sa31, nm_sa7, nm_m127, nm_m2, nm_nz, nm_nzk, nm_eq32, nm_nzf, if_true, if_false, ↓reduceIte, if_pos, if_neg]
  · simp (disch := (first | assumption | decide | omega)) only [bX, lX, xU, eq_self, Nat.reduceEqDiff, Nat.reduceLeDiff, no_1, no_1024, pk_mul, nI_add, nm_ck, nI_clamp, nI_ltI, nI_leI, nI_eq, nb_b2, nb_b1, ↓nb_let, nm_z0, nm_z1, nb_II, nb_IR, nb_RI, nb_RR, nm_IL, nm_IQ, nm_RL, nm_RQ, nm_LI, nm_LR, nm_LL, nm_LQ, nm_QI, nm_QR, nm_QL, nm_QQ, nm_rr, nm_ii, nm_eqm, not_false_eq_true, pk_sub, nm_div, nm_shl, nm_shr, nm_ush, nm_or8, nm_or64, nm_or256, nm_m1, nm_m3, nm_m7, nm_m15, nm_m31, nm_m63, nm_m255, nm_m511, nm_m1023, nm_m2047, nm_m65535, Nat.reduceMod, Nat.reducePow, Nat.reduceAdd, Nat.reduceSub, Nat.reduceMul, nm_bo, nm_bi, nm_rc, nm_ic, nm_ri, nm_rl, nm_rq, nm_ql, nm_qi, nm_li, nm_us, nm_uu, nm_cp, nm_sa31, nm_sa7, nm_m127, nm_m2, nm_nz, nm_nzk, nm_eq32, nm_nzf, if_true, if_false, ↓reduceIte, if_pos, if_neg]
  · simp (disch := (first | assumption | decide | omega)) only [bX, lX, xU, eq_self, Nat.reduceEqDiff, Nat.reduceLeDiff, no_1, no_1024, pk_mul, nI_add, nm_ck, nI_clamp, nI_ltI, nI_leI, nI_eq, nb_b2, nb_b1, ↓nb_let, nm_z0, nm_z1, nb_II, nb_IR, nb_RI, nb_RR, nm_IL, nm_IQ, nm_RL, nm_RQ, nm_LI, nm_LR, nm_LL, nm_LQ, nm_QI, nm_QR, nm_QL, nm_QQ, nm_rr, nm_ii, nm_eqm, not_false_eq_true, pk_sub, nm_div, nm_shl, nm_shr, nm_ush, nm_or8, nm_or64, nm_or256, nm_m1, nm_m3, nm_m7, nm_m15, nm_m31, nm_m63, nm_m255, nm_m511, nm_m1023, nm_m2047, nm_m65535, Nat.reduceMod, Nat.reducePow, Nat.reduceAdd, Nat.reduceSub, Nat.reduceMul, nm_bo, nm_bi, nm_rc, nm_ic, nm_ri, nm_rl, nm_rq, nm_ql, nm_qi, nm_li, nm_us, nm_uu, nm_cp, nm_sa31, nm_sa7, nm_m127, nm_m2, nm_nz, nm_nzk, nm_eq32, nm_nzf, if_true, if_false, ↓reduceIte, if_pos, if_neg]
  · simp (disch := (first | assumption | decide | omega)) only [bX, lX, xU, eq_self, Nat.reduceEqDiff, Nat.reduceLeDiff, no_1, no_1024, pk_mul, nI_add, nm_ck, nI_clamp, nI_ltI, nI_leI, nI_eq, nb_b2, nb_b1, ↓nb_let, nm_z0, nm_z1, nb_II, nb_IR, nb_RI, nb_RR, nm_IL, nm_IQ, nm_RL, nm_RQ, nm_LI, nm_LR, nm_LL, nm_LQ, nm_QI, nm_QR, nm_QL, nm_QQ, nm_rr, nm_ii, nm_eqm, not_false_eq_true, pk_sub, nm_div, nm_shl, nm_shr, nm_ush, nm_or8, nm_or64, nm_or256, nm_m1, nm_m3, nm_m7, nm_m15, nm_m31, nm_m63, nm_m255, nm_m511, nm_m1023, nm_m2047, nm_m65535, Nat.reduceMod, Nat.reducePow, Nat.reduceAdd, Nat.reduceSub, Nat.reduceMul, nm_bo, nm_bi, nm_rc, nm_ic, nm_ri, nm_rl, nm_rq, nm_ql, nm_qi, nm_li, nm_us, nm_uu, nm_cp, nm_sa31, nm_sa7, nm_m127, nm_m2, nm_nz, nm_nzk, nm_eq32, nm_nzf, if_true, if_false, ↓reduceIte, if_pos, if_neg]
  · simp (disch := (first | assumption | decide | omega)) only [bX, lX, xU, eq_self, Nat.reduceEqDiff, Nat.reduceLeDiff, no_1, no_1024, pk_mul, nI_add, nm_ck, nI_clamp, nI_ltI, nI_leI, nI_eq, nb_b2, nb_b1, ↓nb_let, nm_z0, nm_z1, nb_II, nb_IR, nb_RI, nb_RR, nm_IL, nm_IQ, nm_RL, nm_RQ, nm_LI, nm_LR, nm_LL, nm_LQ, nm_QI, nm_QR, nm_QL, nm_QQ, nm_rr, nm_ii, nm_eqm, not_false_eq_true, pk_sub, nm_div, nm_shl, nm_shr, nm_ush, nm_or8, nm_or64, nm_or256, nm_m1, nm_m3, nm_m7, nm_m15, nm_m31, nm_m63, nm_m255, nm_m511, nm_m1023, nm_m2047, nm_m65535, Nat.reduceMod, Nat.reducePow, Nat.reduceAdd, Nat.reduceSub, Nat.reduceMul, nm_bo, nm_bi, nm_rc, nm_ic, nm_ri, nm_rl, nm_rq, nm_ql, nm_qi, nm_li, nm_us, nm_uu, nm_cp, nm_sa31, nm_sa7, nm_m127, nm_m2, nm_nz, nm_nzk, nm_eq32, nm_nzf, if_true, if_false, ↓reduceIte, if_pos, if_neg]
  · simp (disch := (first | assumption | decide | omega)) only [bX, lX, xU, eq_self, Nat.reduceEqDiff, Nat.reduceLeDiff, no_1, no_1024, pk_mul, nI_add, nm_ck, nI_clamp, nI_ltI, nI_leI, nI_eq, nb_b2, nb_b1, ↓nb_let, nm_z0, nm_z1, nb_II, nb_IR, nb_RI, nb_RR, nm_IL, nm_IQ, nm_RL, nm_RQ, nm_LI, nm_LR, nm_LL, nm_LQ, nm_QI, nm_QR, nm_QL, nm_QQ, nm_rr, nm_ii, nm_eqm, not_false_eq_true, pk_sub, nm_div, nm_shl, nm_shr, nm_ush, nm_or8, nm_or64, nm_or256, nm_m1, nm_m3, nm_m7, nm_m15, nm_m31, nm_m63, nm_m255, nm_m511, nm_m1023, nm_m2047, nm_m65535, Nat.reduceMod, Nat.reducePow, Nat.reduceAdd, Nat.reduceSub, Nat.reduceMul, nm_bo, nm_bi, nm_rc, nm_ic, nm_ri, nm_rl, nm_rq, nm_ql, nm_qi, nm_li, nm_us, nm_uu, nm_cp, nm_sa31, nm_sa7, nm_m127, nm_m2, nm_nz, nm_nzk, nm_eq32, nm_nzf, if_true, if_false, ↓reduceIte, if_pos, if_neg]
  · simp (disch := (first | assumption | decide | omega)) only [bX, lX, xU, eq_self, Nat.reduceEqDiff, Nat.reduceLeDiff, no_1, no_1024, pk_mul, nI_add, nm_ck, nI_clamp, nI_ltI, nI_leI, nI_eq, nb_b2, nb_b1, ↓nb_let, nm_z0, nm_z1, nb_II, nb_IR, nb_RI, nb_RR, nm_IL, nm_IQ, nm_RL, nm_RQ, nm_LI, nm_LR, nm_LL, nm_LQ, nm_QI, nm_QR, nm_QL, nm_QQ, nm_rr, nm_ii, nm_eqm, not_false_eq_true, pk_sub, nm_div, nm_shl, nm_shr, nm_ush, nm_or8, nm_or64, nm_or256, nm_m1, nm_m3, nm_m7, nm_m15, nm_m31, nm_m63, nm_m255, nm_m511, nm_m1023, nm_m2047, nm_m65535, Nat.reduceMod, Nat.reducePow, Nat.reduceAdd, Nat.reduceSub, Nat.reduceMul, nm_bo, nm_bi, nm_rc, nm_ic, nm_ri, nm_rl, nm_rq, nm_ql, nm_qi, nm_li, nm_us, nm_uu, nm_cp, nm_sa31, nm_sa7, nm_m127, nm_m2, nm_nz, nm_nzk, nm_eq32, nm_nzf, if_true, if_false, ↓reduceIte, if_pos, if_neg]
  · simp (disch := (first | assumption | decide | omega)) only [bX, lX, xU, eq_self, Nat.reduceEqDiff, Nat.reduceLeDiff, no_1, no_1024, pk_mul, nI_add, nm_ck, nI_clamp, nI_ltI, nI_leI, nI_eq, nb_b2, nb_b1, ↓nb_let, nm_z0, nm_z1, nb_II, nb_IR, nb_RI, nb_RR, nm_IL, nm_IQ, nm_RL, nm_RQ, nm_LI, nm_LR, nm_LL, nm_LQ, nm_QI, nm_QR, nm_QL, nm_QQ, nm_rr, nm_ii, nm_eqm, not_false_eq_true, pk_sub, nm_div, nm_shl, nm_shr, nm_ush, nm_or8, nm_or64, nm_or256, nm_m1, nm_m3, nm_m7, nm_m15, nm_m31, nm_m63, nm_m255, nm_m511, nm_m1023, nm_m2047, nm_m65535, Nat.reduceMod, Nat.reducePow, Nat.reduceAdd, Nat.reduceSub, Nat.reduceMul, nm_bo, nm_bi, nm_rc, nm_ic, nm_ri, nm_rl, nm_rq, nm_ql, nm_qi, nm_li, nm_us, nm_uu, nm_cp, nm_sa31, nm_sa7, nm_m127, nm_m2, nm_nz, nm_nzk, nm_eq32, nm_nzf, if_true, if_false, ↓reduceIte, if_pos, if_neg]
  · simp (disch := (first | assumption | decide | omega)) only [bX, lX, xU, eq_self, Nat.reduceEqDiff, Nat.reduceLeDiff, no_1, no_1024, pk_mul, nI_add, nm_ck, nI_clamp, nI_ltI, nI_leI, nI_eq, nb_b2, nb_b1, ↓nb_let, nm_z0, nm_z1, nb_II, nb_IR, nb_RI, nb_RR, nm_IL, nm_IQ, nm_RL, nm_RQ, nm_LI, nm_LR, nm_LL, nm_LQ, nm_QI, nm_QR, nm_QL, nm_QQ, nm_rr, nm_ii, nm_eqm, not_false_eq_true, pk_sub, nm_div, nm_shl, nm_shr, nm_ush, nm_or8, nm_or64, nm_or256, nm_m1, nm_m3, nm_m7, nm_m15, nm_m31, nm_m63, nm_m255, nm_m511, nm_m1023, nm_m2047, nm_m65535, Nat.reduceMod, Nat.reducePow, Nat.reduceAdd, Nat.reduceSub, Nat.reduceMul, nm_bo, nm_bi, nm_rc, nm_ic, nm_ri, nm_rl, nm_rq, nm_ql, nm_qi, nm_li, nm_us, nm_uu, nm_cp, nm_sa31, nm_sa7, nm_m127, nm_m2, nm_nz, nm_nzk, nm_eq32, nm_nzf, if_true, if_false, ↓reduceIte, if_pos, if_neg]
  · simp (disch := (first | assumption | decide | omega)) only [bX, lX, xU, k1, eq_self, Nat.reduceEqDiff, Nat.reduceLeDiff, no_1, no_1024, pk_mul, nI_add, nm_ck, nI_clamp, nI_ltI, nI_leI, nI_eq, nb_b2, nb_b1, ↓nb_let, nm_z0, nm_z1, nb_II, nb_IR, nb_RI, nb_RR, nm_IL, nm_IQ, nm_RL, nm_RQ, nm_LI, nm_LR, nm_LL, nm_LQ, nm_QI, nm_QR, nm_QL, nm_QQ, nm_rr, nm_ii, nm_eqm, not_false_eq_true, pk_sub, nm_div, nm_shl, nm_shr, nm_ush, nm_or8, nm_or64, nm_or256, nm_m1, nm_m3, nm_m7, nm_m15, nm_m31, nm_m63, nm_m255, nm_m511, nm_m1023, nm_m2047, nm_m65535, Nat.reduceMod, Nat.reducePow, Nat.reduceAdd, Nat.reduceSub, Nat.reduceMul, nm_bo, nm_bi, nm_rc, nm_ic, nm_ri, nm_rl, nm_rq, nm_ql, nm_qi, nm_li, nm_us, nm_uu, nm_cp, nm_sa31, nm_sa7, nm_m127, nm_m2, nm_nz, nm_nzk, nm_eq32, nm_nzf, if_true, if_false, ↓reduceIte, if_pos, if_neg]
  · simp (disch := (first | assumption | decide | omega)) only [bX, lX, xU, eq_self, Nat.reduceEqDiff, Nat.reduceLeDiff, no_1, no_1024, pk_mul, nI_add, nm_ck, nI_clamp, nI_ltI, nI_leI, nI_eq, nb_b2, nb_b1, ↓nb_let, nm_z0, nm_z1, nb_II, nb_IR, nb_RI, nb_RR, nm_IL, nm_IQ, nm_RL, nm_RQ, nm_LI, nm_LR, nm_LL, nm_LQ, nm_QI, nm_QR, nm_QL, nm_QQ, nm_rr, nm_ii, nm_eqm, not_false_eq_true, pk_sub, nm_div, nm_shl, nm_shr, nm_ush, nm_or8, nm_or64, nm_or256, nm_m1, nm_m3, nm_m7, nm_m15, nm_m31, nm_m63, nm_m255, nm_m511, nm_m1023, nm_m2047, nm_m65535, Nat.reduceMod, Nat.reducePow, Nat.reduceAdd, Nat.reduceSub, Nat.reduceMul, nm_bo, nm_bi, nm_rc, nm_ic, nm_ri, nm_rl, nm_rq, nm_ql, nm_qi, nm_li, nm_us, nm_uu, nm_cp, nm_sa31, nm_sa7, nm_m127, nm_m2, nm_nz, nm_nzk, nm_eq32, nm_nzf, if_true, if_false, ↓reduceIte, if_pos, if_neg]
  · simp (disch := (first | assumption | decide | omega)) only [bX, lX, xU, eq_self, Nat.reduceEqDiff, Nat.reduceLeDiff, no_1, no_1024, pk_mul, nI_add, nm_ck, nI_clamp, nI_ltI, nI_leI, nI_eq, nb_b2, nb_b1, ↓nb_let, nm_z0, nm_z1, nb_II, nb_IR, nb_RI, nb_RR, nm_IL, nm_IQ, nm_RL, nm_RQ, nm_LI, nm_LR, nm_LL, nm_LQ, nm_QI, nm_QR, nm_QL, nm_QQ, nm_rr, nm_ii, nm_eqm, not_false_eq_true, pk_sub, nm_div, nm_shl, nm_shr, nm_ush, nm_or8, nm_or64, nm_or256, nm_m1, nm_m3, nm_m7, nm_m15, nm_m31, nm_m63, nm_m255, nm_m511, nm_m1023, nm_m2047, nm_m65535, Nat.reduceMod, Nat.reducePow, Nat.reduceAdd, Nat.reduceSub, Nat.reduceMul, nm_bo, nm_bi, nm_rc, nm_ic, nm_ri, nm_rl, nm_rq, nm_ql, nm_qi, nm_li, nm_us, nm_uu, nm_cp, nm_sa31, nm_sa7, nm_m127, nm_m2, nm_nz, nm_nzk, nm_eq32, nm_nzf, if_true, if_false, ↓reduceIte, if_pos, if_neg]
  · simp (disch := (first | assumption | decide | omega)) only [bX, lX, xU, eq_self, Nat.reduceEqDiff, Nat.reduceLeDiff, no_1, no_1024, pk_mul, nI_add, nm_ck, nI_clamp, nI_ltI, nI_leI, nI_eq, nb_b2, nb_b1, ↓nb_let, nm_z0, nm_z1, nb_II, nb_IR, nb_RI, nb_RR, nm_IL, nm_IQ, nm_RL, nm_RQ, nm_LI, nm_LR, nm_LL, nm_LQ, nm_QI, nm_QR, nm_QL, nm_QQ, nm_rr, nm_ii, nm_eqm, not_false_eq_true, pk_sub, nm_div, nm_shl, nm_shr, nm_ush, nm_or8, nm_or64, nm_or256, nm_m1, nm_m3, nm_m7, nm_m15, nm_m31, nm_m63, nm_m255, nm_m511, nm_m1023, nm_m2047, nm_m65535, Nat.reduceMod, Nat.reducePow, Nat.reduceAdd, Nat.reduceSub, Nat.reduceMul, nm_bo, nm_bi, nm_rc, nm_ic, nm_ri, nm_rl, nm_rq, nm_ql, nm_qi, nm_li, nm_us, nm_uu, nm_cp, nm_sa31, nm_sa7, nm_m127, nm_m2, nm_nz, nm_nzk, nm_eq32, nm_nzf, if_true, if_false, ↓reduceIte, if_pos, if_neg]
/-- nobody WAITS: settling only chooses -/
theorem st_nW (n : Nat) (hn : 1024 < n) {X X' : St × St} (h : ∀ q : Nat, q < 16 → ¬ sR X.1 1 q = nI 2) (hc : ∀ g : Int32 → St × St → Option (St × St), dF_X16_settle_2 n g (nI 16) X = some X') : df_X16_settle n X = some X' := by
  obtain ⟨m, hm⟩ := nm_lq (fun m k => df_X16_settle_2 n m (nI k) X) 16 n (by omega) (fun k m hk => by
    have k1 : ¬ 16 ≤ k := by omega
    have u1 : k < 2 ^ 31 := by omega
    have k2 := h k hk
    rw [show df_X16_settle_2 n (m + 1) = dF_X16_settle_2 n (df_X16_settle_2 n m) from rfl]
    generalize df_X16_settle_2 n m = G
    simp (disch := (first | assumption | decide | omega)) only [dF_X16_settle_2, df_X16_settle_51, k1, k2, eq_self, Nat.reduceEqDiff, Nat.reduceLeDiff, nl_0, nl_1, nl_2, nl_16, no_1, no_1024, pk_mul, nI_add, nm_ck, nI_clamp, nI_ltI, nI_leI, nI_eq, nb_b2, nb_b1, ↓nb_let, nm_z0, nm_z1, nb_II, nb_IR, nb_RI, nb_RR, nm_IL, nm_IQ, nm_RL, nm_RQ, nm_LI, nm_LR, nm_LL, nm_LQ, nm_QI, nm_QR, nm_QL, nm_QQ, nm_rr, nm_ii, nm_eqm, not_false_eq_true, pk_sub, nm_div, nm_shl, nm_shr, nm_ush, nm_or8, nm_or64, nm_or256, nm_m1, nm_m3, nm_m7, nm_m15, nm_m31, nm_m63, nm_m255, nm_m511, nm_m1023, nm_m2047, nm_m65535, Nat.reduceMod, Nat.reducePow, Nat.reduceAdd, Nat.reduceSub, Nat.reduceMul, nm_bo, nm_bi, nm_rc, nm_ic, nm_ri, nm_rl, nm_rq, nm_ql, nm_qi, nm_li, nm_us, nm_uu, nm_cp, nm_sa31, nm_sa7, nm_m127, nm_m2, nm_nz, nm_nzk, nm_eq32, nm_nzf, if_true, if_false, ↓reduceIte, if_pos, if_neg])
  refine Eq.trans (b := df_X16_settle_2 n n (nI 0) X) rfl (Eq.trans hm ?_)
  exact hc _
theorem cM_rows (M : St × St) (D : St) : (∀ k : Nat, k = 0 ∨ (3 ≤ k ∧ ¬ k = 6) → sR (cM M D).1 k = sR M.1 k) ∧ sR (cM M D).1 1 = nd_fl 256 0 (sR M.1 1) ∧ sR (cM M D).1 2 = nd_fl 1024 0 (sR M.1 2) ∧ sR (cM M D).1 6 = abk (sR M.1 6) 16 ∧ sI (cM M D).1 0 = nI 0 ∧ sI (cM M D).1 1 = nI 0 ∧ sI (cM M D).1 2 = nI 0 ∧ sI (cM M D).1 3 = -nI 1 ∧ sI (cM M D).1 4 = nI 15 ∧ sI (cM M D).1 5 = -nI 1 ∧ sI (cM M D).1 7 = nI 0 ∧ sL (cM M D).1 0 = 0 ∧ sL (cM M D).1 1 = 0 ∧ (cM M D).2 = D := by
  refine ⟨fun k hk => ?_, ?_, ?_, ?_, rfl, rfl, rfl, rfl, rfl, rfl, rfl, rfl, rfl, rfl⟩
  · have k1 : ¬ k = 1 := by omega
    have k2 : ¬ k = 2 := by omega
    have k6 : ¬ k = 6 := by omega
    simp (disch := (first | assumption | decide | omega)) only [cM, k1, k2, k6, eq_self, Nat.reduceEqDiff, Nat.reduceLeDiff, no_1, no_1024, pk_mul, nI_add, nm_ck, nI_clamp, nI_ltI, nI_leI, nI_eq, nb_b2, nb_b1, ↓nb_let, nm_z0, nm_z1, nb_II, nb_IR, nb_RI, nb_RR, nm_IL, nm_IQ, nm_RL, nm_RQ, nm_LI, nm_LR, nm_LL, nm_LQ, nm_QI, nm_QR, nm_QL, nm_QQ, nm_rr, nm_ii, nm_eqm, not_false_eq_true, pk_sub, nm_div, nm_shl, nm_shr, nm_ush, nm_or8, nm_or64, nm_or256, nm_m1, nm_m3, nm_m7, nm_m15, nm_m31, nm_m63, nm_m255, nm_m511, nm_m1023, nm_m2047, nm_m65535, Nat.reduceMod, Nat.reducePow, Nat.reduceAdd, Nat.reduceSub, Nat.reduceMul, nm_bo, nm_bi, nm_rc, nm_ic, nm_ri, nm_rl, nm_rq, nm_ql, nm_qi, nm_li, nm_us, nm_uu, nm_cp, nm_sa31, nm_sa7, nm_m127, nm_m2, nm_nz, nm_nzk, nm_eq32, nm_nzf, if_true, if_false, ↓reduceIte, if_pos, if_neg]
  · simp (disch := (first | assumption | decide | omega)) only [cM, eq_self, Nat.reduceEqDiff, Nat.reduceLeDiff, no_1, no_1024, pk_mul, nI_add, nm_ck, nI_clamp, nI_ltI, nI_leI, nI_eq, nb_b2, nb_b1, ↓nb_let, nm_z0, nm_z1, nb_II, nb_IR, nb_RI, nb_RR, nm_IL, nm_IQ, nm_RL, nm_RQ, nm_LI, nm_LR, nm_LL, nm_LQ, nm_QI, nm_QR, nm_QL, nm_QQ, nm_rr, nm_ii, nm_eqm, not_false_eq_true, pk_sub, nm_div, nm_shl, nm_shr, nm_ush, nm_or8, nm_or64, nm_or256, nm_m1, nm_m3, nm_m7, nm_m15, nm_m31, nm_m63, nm_m255, nm_m511, nm_m1023, nm_m2047, nm_m65535, Nat.reduceMod, Nat.reducePow, Nat.reduceAdd, Nat.reduceSub, Nat.reduceMul, nm_bo, nm_bi, nm_rc, nm_ic, nm_ri, nm_rl, nm_rq, nm_ql, nm_qi, nm_li, nm_us, nm_uu, nm_cp, nm_sa31, nm_sa7, nm_m127, nm_m2, nm_nz, nm_nzk, nm_eq32, nm_nzf, if_true, if_false, ↓reduceIte, if_pos, if_neg]
  · simp (disch := (first | assumption | decide | omega)) only [cM, eq_self, Nat.reduceEqDiff, Nat.reduceLeDiff, no_1, no_1024, pk_mul, nI_add, nm_ck, nI_clamp, nI_ltI, nI_leI, nI_eq, nb_b2, nb_b1, ↓nb_let, nm_z0, nm_z1, nb_II, nb_IR, nb_RI, nb_RR, nm_IL, nm_IQ, nm_RL, nm_RQ, nm_LI, nm_LR, nm_LL, nm_LQ, nm_QI, nm_QR, nm_QL, nm_QQ, nm_rr, nm_ii, nm_eqm, not_false_eq_true, pk_sub, nm_div, nm_shl, nm_shr, nm_ush, nm_or8, nm_or64, nm_or256, nm_m1, nm_m3, nm_m7, nm_m15, nm_m31, nm_m63, nm_m255, nm_m511, nm_m1023, nm_m2047, nm_m65535, Nat.reduceMod, Nat.reducePow, Nat.reduceAdd, Nat.reduceSub, Nat.reduceMul, nm_bo, nm_bi, nm_rc, nm_ic, nm_ri, nm_rl, nm_rq, nm_ql, nm_qi, nm_li, nm_us, nm_uu, nm_cp, nm_sa31, nm_sa7, nm_m127, nm_m2, nm_nz, nm_nzk, nm_eq32, nm_nzf, if_true, if_false, ↓reduceIte, if_pos, if_neg]
  · simp (disch := (first | assumption | decide | omega)) only [cM, eq_self, Nat.reduceEqDiff, Nat.reduceLeDiff, no_1, no_1024, pk_mul, nI_add, nm_ck, nI_clamp, nI_ltI, nI_leI, nI_eq, nb_b2, nb_b1, ↓nb_let, nm_z0, nm_z1, nb_II, nb_IR, nb_RI, nb_RR, nm_IL, nm_IQ, nm_RL, nm_RQ, nm_LI, nm_LR, nm_LL, nm_LQ, nm_QI, nm_QR, nm_QL, nm_QQ, nm_rr, nm_ii, nm_eqm, not_false_eq_true, pk_sub, nm_div, nm_shl, nm_shr, nm_ush, nm_or8, nm_or64, nm_or256, nm_m1, nm_m3, nm_m7, nm_m15, nm_m31, nm_m63, nm_m255, nm_m511, nm_m1023, nm_m2047, nm_m65535, Nat.reduceMod, Nat.reducePow, Nat.reduceAdd, Nat.reduceSub, Nat.reduceMul, nm_bo, nm_bi, nm_rc, nm_ic, nm_ri, nm_rl, nm_rq, nm_ql, nm_qi, nm_li, nm_us, nm_uu, nm_cp, nm_sa31, nm_sa7, nm_m127, nm_m2, nm_nz, nm_nzk, nm_eq32, nm_nzf, if_true, if_false, ↓reduceIte, if_pos, if_neg]
/-- the two machines as they begin, before a process is chosen -/
theorem rM_boot {M s : St × St} {D' : St} {w u g b fr ri ho : Nat → Int32} {fu us : Int32} {H : Nat} (hH : H ≤ 61440) (d0 : ∀ i : Nat, i < 256 → sR D' 0 i = if i < 2 then nI 1 else nI 0) (d1 : ∀ o : Nat, o < 48 → sR D' 1 (o * 5) = if o = 0 then nI 4 else nI 0) (d11 : sR D' 1 1 = nI 2) (d12 : sR D' 1 2 = nI 0) (d13 : sR D' 1 3 = nI 0) (d14 : sR D' 1 4 = nI 3) (d2 : ∀ k : Nat, k < 32 → sR D' 2 k = nI 0) (d4 : ∀ k : Nat, k < 48 → sR D' 4 k = nI 0) (di : sI D' 0 = nI 0) (dl : sL D' 0 = 0) (dy : okY D') (f1 : ∀ q : Nat, q < 16 → sR s.1 1 q = (if q = 0 then nI 1 else nI 0) ∧ sR s.1 2 q = -nI 1 ∧ sR s.1 4 q = nI 0 ∧ sR s.1 5 q = nI 0 ∧ sR s.1 6 q = nI 0 ∧ sR s.1 7 q = -nI 1 ∧ sR s.1 8 q = nI 0 ∧ sQ s.1 0 q = -1 ∧ (∀ i : Nat, i < 16 → sR s.1 13 (16 * q + i) = nI 0 ∧ sR s.1 14 (16 * q + i) = -nI 1)) (f16 : ∀ i : Nat, i < 1024 → sR s.1 16 i = -nI 1) (f19 : ∀ o : Nat, o < 48 → sR s.1 19 o = nI 0) (f23 : ∀ k : Nat, k < 8 → sR s.1 23 k = nI 0) (f24 : ∀ k : Nat, k < 16 → sR s.1 24 k = nI 0 ∧ sR s.1 25 k = nI 0) (ii : sI s.1 0 = nI 0 ∧ sI s.1 1 = -nI 1 ∧ sI s.1 2 = nI 15 ∧ sI s.1 3 = -nI 1 ∧ sI s.1 4 = -nI 1 ∧ sI s.1 5 = nI 0 ∧ sI s.1 6 = nI 0 ∧ sI s.1 7 = nI 0 ∧ sI s.1 14 = -nI 1) (l0 : sL s.1 0 = 0) (l1 : sL s.1 1 = 0) (l2 : sL s.1 2 = 0) (hr : rQ w u g b fr ri ho fu us) (hfr : ∀ i : Nat, i < 64 * 0 ∨ 64 * 0 + 64 ≤ i → fr i = sR s.1 16 i) (hh : ∀ k : Nat, k < 60 → H ≤ k * 1024 → fr (64 * 0 + k) = -nI 1) : rM 0 (pR (lM (cM M D') w u g fu 0 H).1 6 (upd (sR (lM (cM M D') w u g fu 0 H).1 6) 0 (nI 1)), (lM (cM M D') w u g fu 0 H).2) (bX s b fr ri ho us H) := by
  obtain ⟨c1, c5, c6, c9, c10, c14, c15, c16, c17, c18, c19, c20, c21, c22, cI, cI6, cL, cQ, cX⟩ := bX_rows s b fr ri ho us H
  obtain ⟨g1, g2, g3, g4, g5, g6, g7, g8, g9, g10, g11, g12, g13⟩ := lM_rows (cM M D') w u g fu 0 H
  obtain ⟨k1, k2, k3, k4, k5, k6, k7, k8, k9, k10, k11, k12, k13, k14⟩ := cM_rows M D'
  obtain ⟨i0, i1, i2, i3, i4, i5, i6, i7, i14⟩ := ii
  generalize bX s b fr ri ho us H = X at c1 c5 c6 c9 c10 c14 c15 c16 c17 c18 c19 c20 c21 c22 cI cI6 cL cQ cX
  generalize lM (cM M D') w u g fu 0 H = N at g1 g2 g3 g4 g5 g6 g7 g8 g9 g10 g11 g12 g13
  have n6 : sR (pR N.1 6 (upd (sR N.1 6) 0 (nI 1))) 6 = upd (upd (upd (upd (abk (sR M.1 6) 16) (0 * 7 + 4) (nI 0)) (0 * 7 + 5) (nI H)) (0 * 7 + 6) (nI H)) 0 (nI 1) := by
    show upd (sR N.1 6) 0 (nI 1) = _
    rw [g7, k4]
  refine ⟨?_, ?_, fun q hq => ?_, ?_, ?_, ?_, ?_⟩
  · show rQ (sR N.1 0) (sR N.1 1) (sR N.1 2) (sR X.1 15) (sR X.1 16) (sR X.1 17) (sR X.1 18) (sI N.1 0) (sI X.1 6)
    rw [g2, g3, g4, c15, c16, c17, c18, g9, cI6]
    exact hr
  · show rD (sR N.2 0) (sR N.2 1) (sR N.2 2) (sR N.2 4) (sR X.1 14) (sR X.1 19) (sR X.1 20) (sR X.1 21) (sR X.1 22) (sR X.1 23) (sR X.1 24) (sR X.1 25)
    rw [g13, k14, c14, c19, c20, c21, c22, c1 23 (by omega), c1 24 (by omega), c1 25 (by omega)]
    refine bD d0 (fun i hi => ?_) d1 d11 d12 d13 d14 (fun o ho => ?_) nm_us nm_us d2 d4 f23 f24
    · by_cases c : i = 0
      · rw [c, if_pos (by omega), nm_us]
      · rw [nm_un c]
        by_cases d : i = 1
        · rw [d, if_pos (by omega), nm_us]
        · rw [nm_un d, if_neg (by omega)]
          have := ((f1 (i / 16) (by omega)).2.2.2.2.2.2.2.2 (i % 16) (by omega)).2
          rw [show 16 * (i / 16) + i % 16 = i by omega] at this
          exact this
    · by_cases c : o = 0
      · rw [c, if_pos rfl, nm_us]
      · rw [if_neg c, nm_un c]
        exact f19 o ho
  · obtain ⟨a1, a2, a3, a4, a5, a6, a7, a8, a9⟩ := f1 q hq
    by_cases c : q = 0
    · subst c
      refine ⟨1, 0, 0, H, H, by omega, by omega, by omega, hH, hH, ?_, ?_, ?_, ?_, ?_, fun z => by omega, fun z => ?_, ?_, ?_, ?_, ?_, ?_, ?_, ?_, ?_, fun k hk y => ?_, fun z => ⟨fun r hr => ?_, ?_⟩, fun z => ⟨fun k hk => ?_, ?_, fun y => by omega⟩, fun z => by omega, fun z => by omega, fun z => ?_⟩
      · show sR (pR N.1 6 (upd (sR N.1 6) 0 (nI 1))) 6 (0 * 7) = _
        rw [n6]; exact nm_us
      · rw [c1 1 (by omega)]; exact a1.trans (if_pos rfl)
      · show sR (pR N.1 6 (upd (sR N.1 6) 0 (nI 1))) 6 (0 * 7 + 1) = _
        rw [n6, c1 2 (by omega), a2, nm_un (by omega), nm_un (by omega), nm_un (by omega), nm_un (by omega)]
        exact abk_i _ (by omega) (by omega)
      · rw [c1 2 (by omega)]; exact Or.inl a2
      · rw [c1 2 (by omega), a2]; exact fun z => nk_ne (by omega) z.symm
      · show sR (pR N.1 6 (upd (sR N.1 6) 0 (nI 1))) 6 (0 * 7 + 2) = _
        rw [n6, nm_un (by omega), nm_un (by omega), nm_un (by omega), nm_un (by omega)]
        exact abk_i _ (by omega) (by omega)
      · show sR (pR N.1 6 (upd (sR N.1 6) 0 (nI 1))) 6 (0 * 7 + 3) = _
        rw [n6, nm_un (by omega), nm_un (by omega), nm_un (by omega), nm_un (by omega)]
        exact abk_i _ (by omega) (by omega)
      · rw [c1 4 (by omega)]; exact a3
      · show sR (pR N.1 6 (upd (sR N.1 6) 0 (nI 1))) 6 (0 * 7 + 4) = _
        rw [n6, nm_un (by omega), nm_un (by omega), nm_un (by omega)]; exact nm_us
      · rw [c1 8 (by omega)]; exact a7
      · show sR (pR N.1 6 (upd (sR N.1 6) 0 (nI 1))) 6 (0 * 7 + 5) = _
        rw [n6, nm_un (by omega), nm_un (by omega)]; exact nm_us
      · rw [c5]; exact nm_us
      · show sR (pR N.1 6 (upd (sR N.1 6) 0 (nI 1))) 6 (0 * 7 + 6) = _
        rw [n6, nm_un (by omega)]; exact nm_us
      · rw [c6]; exact nm_us
      · rw [c16]; exact hh k hk y
      · show sR N.1 3 (0 * 33 + r) = _
        rw [g5, c9, rgl_i _ (by omega)]
        by_cases c : r = 2
        · rw [if_pos c, c]; exact nm_us.symm
        · rw [if_neg c, nm_un (by omega), fl_i (by omega)]
      · show sR N.1 3 (0 * 33 + 32) = _
        rw [g5, c10, rgl_i _ (by omega), if_neg (by omega)]; exact nm_us.symm
      · show sR N.1 5 (0 * 16 + k) = _
        rw [g6, c1 13 (by omega), fl_i (by omega)]; exact (a9 k hk).1.symm
      · show sQ N.1 0 0 = _
        rw [g12, cQ, a8]; exact if_pos rfl
      · rw [c1 7 (by omega)]; exact a6
    · have ab : ∀ i : Nat, i < 7 → sR (pR N.1 6 (upd (sR N.1 6) 0 (nI 1))) 6 (q * 7 + i) = if i = 1 then -nI 1 else nI 0 := fun i hi => by
        rw [n6, nm_un (by omega), nm_un (by omega), nm_un (by omega), nm_un (by omega)]
        exact abk_i _ hq hi
      have a1 : sR s.1 1 q = nI 0 := a1.trans (if_neg c)
      have pg : ∀ k : Nat, k < 64 → sR X.1 16 (64 * q + k) = -nI 1 := fun k hk => by
        rw [c16, hfr _ (by omega)]
        exact f16 _ (by omega)
      refine ⟨0, 0, 0, 0, 0, by omega, by omega, by omega, by omega, by omega, (ab 0 (by omega)).trans (if_neg (by omega)), ?_, ?_, ?_, ?_, fun z => by omega, fun z => (ab 2 (by omega)).trans (if_neg (by omega)), (ab 3 (by omega)).trans (if_neg (by omega)), ?_, (ab 4 (by omega)).trans (if_neg (by omega)), ?_, (ab 5 (by omega)).trans (if_neg (by omega)), ?_, (ab 6 (by omega)).trans (if_neg (by omega)), ?_, fun k hk y => pg k (by omega), fun z => absurd rfl z, fun z => by omega, fun z => ⟨pg, fun d hd => ?_⟩, fun z => by omega, fun z => ?_⟩
      · rw [c1 1 (by omega)]; exact a1
      · refine (ab 1 (by omega)).trans ((if_pos rfl).trans ?_)
        rw [c1 2 (by omega)]; exact a2.symm
      · rw [c1 2 (by omega)]; exact Or.inl a2
      · rw [c1 2 (by omega), a2]; exact fun z => nk_ne (by omega) z.symm
      · rw [c1 4 (by omega)]; exact a3
      · rw [c1 8 (by omega)]; exact a7
      · rw [c5, nm_un c]; exact a4
      · rw [c6, nm_un c]; exact a5
      · rw [c14, nm_un (by omega), nm_un (by omega), show q * 16 + d = 16 * q + d by omega]
        exact (a9 d hd).2
      · rw [c1 7 (by omega)]; exact a6
  · show sI N.1 2 = nI (cW (sR X.1 1))
    rw [g8 2 (by omega) (by omega), k7, c1 1 (by omega)]
    have : cW (sR s.1 1) = 0 := cN_0 (fun q hq => by
      refine decide_eq_false (fun z => ?_)
      rw [(f1 q hq).1] at z
      by_cases c : q = 0
      · rw [if_pos c] at z; exact absurd z (by decide)
      · rw [if_neg c] at z; exact absurd z (by decide))
    rw [this]
  · show sI N.1 3 = sI X.1 1 ∧ okP (sI X.1 1) ∧ sI N.1 4 = sI X.1 2 ∧ (∃ l : Nat, l < 16 ∧ sI X.1 2 = nI l) ∧ (sI X.1 1 = -nI 1 ∨ sI X.1 2 = sI X.1 1) ∧ sI N.1 5 = sI X.1 3 ∧ okP (sI X.1 3) ∧ sI N.1 6 = sI X.1 4 ∧ okR (sI X.1 4) ∧ sL N.1 0 = sL X.1 1 ∧ sL N.1 1 = sL X.1 0
    rw [g8 3 (by omega) (by omega), g8 4 (by omega) (by omega), g8 5 (by omega) (by omega), g10, g11, g11, k8, k9, k10, k12, k13, cI 1 (by omega), cI 2 (by omega), cI 3 (by omega), cI 4 (by omega), cL, cL, i1, i2, i3, i4, l0, l1]
    exact ⟨rfl, Or.inl rfl, rfl, ⟨15, by omega, rfl⟩, Or.inl rfl, rfl, Or.inl rfl, rfl, Or.inl rfl, rfl, rfl⟩
  · show (∃ k : Nat, k ≤ 16 ∧ sI N.1 1 = nI k ∧ sI X.1 5 = nI k ∧ ∀ i : Nat, i < k → sR N.1 7 i = sR X.1 0 i) ∧ okY N.2
    rw [g8 1 (by omega) (by omega), k6, cI 5 (by omega), i5, g13, k14]
    exact ⟨⟨0, by omega, rfl, rfl, fun i hi => by omega⟩, dy⟩
  · show rT 0 (sR N.2 2) (sR N.2 3) (sR N.2 4) (sR N.2 5) (sR N.2 6) (sR N.2 7) (sR N.2 8) (sI N.2 0) (sL N.2 0) (sR X.1 23) (sR X.1 24) (sR X.1 25) (sR X.1 26) (sR X.1 27) (sR X.1 28) (sR X.1 29) (sR X.1 30) (sR X.1 31) (sR X.1 32) (sI X.1 7) (sL X.1 2)
    rw [g13, k14, di, dl, cI 7 (by omega), i7, cL, l2, c1 23 (by omega), c1 24 (by omega), c1 25 (by omega)]
    refine ⟨fun k hk e => ?_, fun k hk e => ?_, fun k hk e => ?_, ⟨0, by omega, rfl, rfl, fun i hi => by omega⟩, rfl, ⟨0, by omega, rfl, fun i hi => by omega⟩⟩
    · rw [f23 k hk] at e; exact absurd e (by decide)
    · rw [(f24 k hk).1] at e; exact absurd e (by decide)
    · rw [(f24 k hk).2] at e; exact absurd e (by decide)
/-- both machines begin with a program -/
theorem nk_boot (n : Nat) (hn : 40000 < n) {M X : St × St} {P s0 : St} {v T Z : Nat} (oy : okY M.2) (hv : v < 4) (pg : rPg P X.2 v T Z) : ∃ M' X' : St × St, df_X6_start n (s0, (M, P)) = some (s0, (M', P)) ∧ df_X16_boot n (nI v) X = some X' ∧ rM 0 M' X' ∧ X'.2 = X.2 ∧ sI X'.1 0 = nI 0 ∧ sI X'.1 14 = -nI 1 ∧ sI M'.1 7 = nI 0 ∧ sI X'.1 1 = nI 0 ∧ sR X'.1 1 0 = nI 1 ∧ ∀ q : Nat, q < 16 → ¬ sR X'.1 1 q = nI 2 := by
  obtain ⟨D', hD, d0, d1, d11, d12, d13, d14, d2, d4, di, dl, dy⟩ := cs_D n (by omega) M.2
  obtain ⟨s, e0, f1, f2, f19, f23, f24, ii, l0, l1, l2, s2⟩ := br_all n (by omega) (nI v) X
  obtain ⟨k1, k2, k3, k4, k5, k6, k7, k8, k9, k10, k11, k12, k13, k14⟩ := cM_rows M D'
  have cF0 : ∀ f : Nat, f < 256 → cF (sR s.1 16) f = 0 := fun f hf => cN_0 (fun i hi => decide_eq_false (fun z => by
    rw [(f2 i hi).1] at z
    exact nk_ne (by omega) z.symm))
  have cU0 : cU (sR s.1 16) = 0 := cN_0 (fun f hf => decide_eq_false (by rw [cF0 f hf]; omega))
  have rk : rK (cM M D') s := by
    show rQ (sR (cM M D').1 0) (sR (cM M D').1 1) (sR (cM M D').1 2) (sR s.1 15) (sR s.1 16) (sR s.1 17) (sR s.1 18) (sI (cM M D').1 0) (sI s.1 6)
    rw [k2, k3, k5, ii.2.2.2.2.2.2.1]
    exact ⟨fun i hi => Or.inl ⟨(f2 i hi).1, nf_i hi⟩, fun f hf => ⟨by rw [cF0 f hf]; exact nf_i hf, by rw [cF0 f hf]; exact (f2 f (by omega)).2⟩, fun f h1 h2 => (f2 f h2).2, by rw [cU0], by rw [cU0]⟩
  have yl : (T + 1023) / 1024 + dpg T Z + 4 ≤ 100 := by
    obtain ⟨q1, q2, q3, _⟩ := pg
    unfold dpg
    rcases q3 with e | e <;> omega
  obtain ⟨w, u, g, fu, b, fr, ri, ho, us, q1, q2, q3, q4, q5⟩ := nk_loadP n hn (M := cM M D') (X := s) (P := P) (s0 := s0) (p := 0) (v := v) (T := T) (Z := Z) rk (by omega) hv (by rw [s2]; exact pg) (fun k hk => (f2 _ (by omega)).1) (by rw [cU0]; omega)
  have hH : (Z + 1023) / 1024 * 1024 ≤ 61440 := by have := pg.2.1; omega
  generalize (Z + 1023) / 1024 * 1024 = H at q3 q4 q5 hH
  have rm := rM_boot (M := M) hH d0 d1 d11 d12 d13 d14 d2 d4 di dl (dy oy) f1 (fun i hi => (f2 i hi).1) f19 f23 f24 ii l0 l1 l2 q1 q2 q3
  obtain ⟨c1, _, _, _, _, _, _, _, _, _, _, _, _, _, cI, _, _, _, cX⟩ := bX_rows s b fr ri ho us H
  have fo0 : fo (lX s b fr ri ho us 0 H) = 0 := fN_is (by omega) (by omega) (decide_eq_true (by show sR s.1 19 0 ≤ nI 0; rw [f19 0 (by omega)]; decide)) (fun i _ hi => by omega)
  have o16 := nk_opening16 n (by omega) (X := lX s b fr ri ho us 0 H) (by rw [fo0]; omega) (nI 4) (nI 0) (nI 3)
  rw [fo0] at o16
  obtain ⟨M', X', x1, x2, x3, x4, x5, x6⟩ := nk_chooseB n (by omega) rm
  have st1 : ∀ q : Nat, q < 16 → sR (bX s b fr ri ho us H).1 1 q = if q = 0 then nI 1 else nI 0 := fun q hq => by
    rw [c1 1 (by omega)]; exact (f1 q hq).1
  have st2 : ∀ q : Nat, q < 16 → ¬ sR (bX s b fr ri ho us H).1 1 q = nI 2 := fun q hq z => by
    rw [st1 q hq] at z
    by_cases c : q = 0
    · rw [if_pos c] at z; exact absurd z (by decide)
    · rw [if_neg c] at z; exact absurd z (by decide)
  have se := st_nW n (by omega) st2 x2
  have R : df_X16_boot n (nI v) X = some X' := by
    rw [e0]
    unfold btl
    rw [q5, nb_b1, o16, nb_b2]
    exact se
  have C : df_X6_start n (s0, (M, P)) = some (s0, (M', P)) := by
    rw [cs_M n (by omega) hD, q4, nb_b1, x1, nb_b1]
  obtain ⟨y1, y2, y3, y4, y5, y6, y7⟩ := x4
  have e1 : sI (bX s b fr ri ho us H).1 1 = -nI 1 := (cI 1 (by omega)).trans ii.2.1
  rcases x6 with ⟨_, _, a, ha, z1, z2⟩ | ⟨_, vv, l, z1, z2, z3, z4⟩
  · exact absurd (z1.symm.trans e1) (nk_ne (by omega))
  · have ev : sI X'.1 1 = vv := by rw [z1]; rfl
    have er : sR X'.1 1 = sR (bX s b fr ri ho us H).1 1 := by rw [z1]; rfl
    have v0 : vv = nI 0 := by
      have := x3.2.2.2.2.1.2.1
      rw [ev] at this
      rcases this with y | ⟨a, ha, y⟩
      · have := (z3 y).1 0 (by omega)
        rw [st1 0 (by omega)] at this
        exact absurd rfl this
      · have := z4 a ha y
        rw [st1 a ha] at this
        by_cases c : a = 0
        · rw [y, c]
        · rw [if_neg c] at this; exact absurd this (by decide)
    have m7 : sI (pR (lM (cM M D') w u g fu 0 H).1 6 (upd (sR (lM (cM M D') w u g fu 0 H).1 6) 0 (nI 1))) 7 = nI 0 := ((lM_rows (cM M D') w u g fu 0 H).2.2.2.2.2.2.2.1 7 (by omega) (by omega)).trans k11
    exact ⟨M', X', C, R, x3, (y1.trans cX).trans s2, (y2.trans (cI 0 (by omega))).trans ii.1, (y5.trans (cI 14 (by omega))).trans ii.2.2.2.2.2.2.2.2, Eq.trans x5 m7, ev.trans v0, by rw [er]; exact (st1 0 (by omega)).trans (if_pos rfl), fun q hq => by rw [er]; exact st2 q hq⟩
