theorem cD_stand {de : Nat → Int32} {i o : Nat} (hi : i < 256) (ho : o < 48) (e : de i = -nI 1) : (∀ a : Nat, a < 48 → a ≠ o → cD (upd de i (nI o)) a = cD de a) ∧ cD (upd de i (nI o)) o = cD de o + 1 := by
  refine ⟨fun a ha hne => ?_, ?_⟩
  · have := cD_ch de (nI o) hi a
    rw [e, nm_df (show ¬ nI o = nI a from fun z => hne (nm_inI (by omega) (by omega) z).symm), nm_df (show ¬ (-nI 1 : Int32) = nI a from fun z => nk_ne (by omega) z.symm)] at this
    omega
  · have := cD_ch de (nI o) hi o
    rw [e, nm_dt rfl, nm_df (show ¬ (-nI 1 : Int32) = nI o from fun z => nk_ne (by omega) z.symm)] at this
    omega
/-- one more descriptor to an opening -/
theorem rD_link {l op pi fi de kd th po rt ip isf nam : Nat → Int32} (h : rD l op pi fi de kd th po rt ip isf nam) {i o : Nat} (hi : i < 256) (ho : o < 48) (e : de i = -nI 1) (hk : ¬ kd o = nI 0) : rD (upd l i (nI (o + 1))) (upd op (o * 5 + 1) (nI (cD de o + 1))) pi fi (upd de i (nI o)) kd th po rt ip isf nam := by
  obtain ⟨h1, h2, h3, h4⟩ := h
  obtain ⟨c1, c2⟩ := cD_stand hi ho e
  refine ⟨fun j hj => ?_, fun j hj => ?_, h3, h4⟩
  · by_cases c : j = i
    · right
      rw [c, nm_us, nm_us]
      exact ⟨o, ho, rfl, rfl⟩
    · rw [nm_un c, nm_un c]; exact h1 j hj
  · by_cases c : j = o
    · subst c
      rcases h2 j hj with ⟨z1, _⟩ | ⟨k, t, y1, y2, y3, y4, y5, y6, y7, y8, y9, y10, y11, y12, y13, y14, y15⟩
      · exact absurd z1 hk
      · right
        rw [c2, nm_un (show j * 5 ≠ j * 5 + 1 by omega), nm_us, nm_un (show j * 5 + 2 ≠ j * 5 + 1 by omega), nm_un (show j * 5 + 4 ≠ j * 5 + 1 by omega), nm_un (show j * 5 + 3 ≠ j * 5 + 1 by omega)]
        exact ⟨k, t, y1, y2, by omega, y4, y5, rfl, y7, y8, y9, y10, y11, y12, y13, y14, y15⟩
    · rw [c1 j hj c, nm_un (show j * 5 ≠ o * 5 + 1 by omega), nm_un (show j * 5 + 1 ≠ o * 5 + 1 by omega), nm_un (show j * 5 + 2 ≠ o * 5 + 1 by omega), nm_un (show j * 5 + 4 ≠ o * 5 + 1 by omega), nm_un (show j * 5 + 3 ≠ o * 5 + 1 by omega)]
      exact h2 j hj
/-- a free descriptor -/
def fd (X : St × St) (p d : Nat) : Bool := decide (sR X.1 14 (p * 16 + d) = -nI 1)
theorem nk_freeLink (n : Nat) (hn : 1024 < n) {D : St} {X : St × St} (h : ∀ i : Nat, i < 256 → (sR X.1 14 i = -nI 1 ∧ sR D 0 i = nI 0) ∨ ∃ o : Nat, o < 48 ∧ sR X.1 14 i = nI o ∧ sR D 0 i = nI (o + 1)) {p f : Nat} (hp : p < 16) (hf : f ≤ 16) : df_X10_freeLink n (nI p) (nI f) D = some (cv (fN (fd X p) f (16 - f)), D) := by
  have l0 : ∀ d : Nat, d < 16 → (fd X p d = true ↔ sR D 0 (p * 16 + d) = nI 0) := fun d hd => by
    unfold fd
    rw [decide_eq_true_iff]
    rcases h (p * 16 + d) (by omega) with ⟨z1, z2⟩ | ⟨o, ho, z1, z2⟩
    · exact ⟨fun _ => z2, fun _ => z1⟩
    · exact ⟨fun z => absurd (z1.symm.trans z) (nk_ne (by omega)), fun z => by have := nm_inI (by omega) (by omega) (z2.symm.trans z); omega⟩
  obtain ⟨x1, x2, x3, x4⟩ := fN_le (fd X p) (16 - f) f
  obtain ⟨m, hm⟩ := nm_ls (fun m k => df_X10_freeLink_6 n m (nI p) (nI k) D) (fd X p) f (16 - f) n (by omega) (fun k m h0 hk c => by
    have u1 : p * 16 + k < 256 := by omega
    have u2 : p * 16 + k < 2 ^ 31 := by omega
    have u3 : k < 2 ^ 31 := by omega
    have k16 : ¬ 16 ≤ k := by omega
    have c0 : ¬ sR D 0 (p * 16 + k) = nI 0 := fun z => by rw [(l0 k (by omega)).mpr z] at c; exact nomatch c
    rw [show df_X10_freeLink_6 n (m + 1) = dF_X10_freeLink_6 n (df_X10_freeLink_6 n m) from rfl]
    simp (disch := (first | assumption | decide | omega)) only [dF_X10_freeLink_6, k16, c0, eq_self, Nat.reduceEqDiff, Nat.reduceLeDiff, nl_0, nl_1, nl_16, nl_256, no_1, no_1024, pk_mul, nI_add, nm_ck, nI_clamp, nI_ltI, nI_leI, nI_eq, nb_b2, nb_b1, ↓nb_let, nm_z0, nm_z1, nb_II, nb_IR, nb_RI, nb_RR, nm_IL, nm_IQ, nm_RL, nm_RQ, nm_LI, nm_LR, nm_LL, nm_LQ, nm_QI, nm_QR, nm_QL, nm_QQ, nm_rr, nm_ii, nm_eqm, not_false_eq_true, pk_sub, nm_div, nm_shl, nm_shr, nm_ush, nm_or8, nm_or64, nm_or256, nm_m1, nm_m3, nm_m7, nm_m15, nm_m31, nm_m63, nm_m255, nm_m511, nm_m1023, nm_m2047, nm_m65535, Nat.reduceMod, Nat.reducePow, Nat.reduceAdd, Nat.reduceSub, Nat.reduceMul, nm_bo, nm_bi, nm_rc, nm_ic, nm_ri, nm_rl, nm_rq, nm_ql, nm_qi, nm_li, nm_us, nm_uu, nm_cp, nm_sa31, nm_sa7, nm_m127, nm_m2, nm_nz, nm_nzk, nm_eq32, nm_nzf, if_true, if_false, ↓reduceIte, if_pos, if_neg])
  have e0 : df_X10_freeLink n (nI p) (nI f) D = df_X10_freeLink_6 n n (nI p) (nI f) D := by
    have u1 : f < 2 ^ 31 := by omega
    by_cases c : 0 < f
    · simp (disch := (first | assumption | decide | omega)) only [df_X10_freeLink, df_X10_freeLink_0, c, eq_self, Nat.reduceEqDiff, Nat.reduceLeDiff, nl_0, no_1, no_1024, pk_mul, nI_add, nm_ck, nI_clamp, nI_ltI, nI_leI, nI_eq, nb_b2, nb_b1, ↓nb_let, nm_z0, nm_z1, nb_II, nb_IR, nb_RI, nb_RR, nm_IL, nm_IQ, nm_RL, nm_RQ, nm_LI, nm_LR, nm_LL, nm_LQ, nm_QI, nm_QR, nm_QL, nm_QQ, nm_rr, nm_ii, nm_eqm, not_false_eq_true, pk_sub, nm_div, nm_shl, nm_shr, nm_ush, nm_or8, nm_or64, nm_or256, nm_m1, nm_m3, nm_m7, nm_m15, nm_m31, nm_m63, nm_m255, nm_m511, nm_m1023, nm_m2047, nm_m65535, Nat.reduceMod, Nat.reducePow, Nat.reduceAdd, Nat.reduceSub, Nat.reduceMul, nm_bo, nm_bi, nm_rc, nm_ic, nm_ri, nm_rl, nm_rq, nm_ql, nm_qi, nm_li, nm_us, nm_uu, nm_cp, nm_sa31, nm_sa7, nm_m127, nm_m2, nm_nz, nm_nzk, nm_eq32, nm_nzf, if_true, if_false, ↓reduceIte, if_pos, if_neg]
    · have : f = 0 := by omega
      subst this
      simp (disch := (first | assumption | decide | omega)) only [df_X10_freeLink, df_X10_freeLink_0, Nat.lt_irrefl, eq_self, Nat.reduceEqDiff, Nat.reduceLeDiff, nl_0, no_1, no_1024, pk_mul, nI_add, nm_ck, nI_clamp, nI_ltI, nI_leI, nI_eq, nb_b2, nb_b1, ↓nb_let, nm_z0, nm_z1, nb_II, nb_IR, nb_RI, nb_RR, nm_IL, nm_IQ, nm_RL, nm_RQ, nm_LI, nm_LR, nm_LL, nm_LQ, nm_QI, nm_QR, nm_QL, nm_QQ, nm_rr, nm_ii, nm_eqm, not_false_eq_true, pk_sub, nm_div, nm_shl, nm_shr, nm_ush, nm_or8, nm_or64, nm_or256, nm_m1, nm_m3, nm_m7, nm_m15, nm_m31, nm_m63, nm_m255, nm_m511, nm_m1023, nm_m2047, nm_m65535, Nat.reduceMod, Nat.reducePow, Nat.reduceAdd, Nat.reduceSub, Nat.reduceMul, nm_bo, nm_bi, nm_rc, nm_ic, nm_ri, nm_rl, nm_rq, nm_ql, nm_qi, nm_li, nm_us, nm_uu, nm_cp, nm_sa31, nm_sa7, nm_m127, nm_m2, nm_nz, nm_nzk, nm_eq32, nm_nzf, if_true, if_false, ↓reduceIte, if_pos, if_neg]
  rw [e0]
  refine Eq.trans hm ?_
  show df_X10_freeLink_6 n (m + 1) (nI p) (nI (fN (fd X p) f (16 - f))) D = _
  rw [show df_X10_freeLink_6 n (m + 1) = dF_X10_freeLink_6 n (df_X10_freeLink_6 n m) from rfl]
  have x3' : fN (fd X p) f (16 - f) < 16 → sR D 0 (p * 16 + fN (fd X p) f (16 - f)) = nI 0 := fun z => (l0 _ z).mp (x3 (by omega))
  generalize fN (fd X p) f (16 - f) = k at x2 x3'
  have u3 : k < 2 ^ 31 := by omega
  by_cases c : k < 16
  · have x3 := x3' c
    have k16 : ¬ 16 ≤ k := by omega
    have u1 : p * 16 + k < 256 := by omega
    have u2 : p * 16 + k < 2 ^ 31 := by omega
    rw [cv_0 c]
    simp (disch := (first | assumption | decide | omega)) only [dF_X10_freeLink_6, k16, x3, eq_self, Nat.reduceEqDiff, Nat.reduceLeDiff, nl_0, nl_1, nl_16, nl_256, no_1, no_1024, pk_mul, nI_add, nm_ck, nI_clamp, nI_ltI, nI_leI, nI_eq, nb_b2, nb_b1, ↓nb_let, nm_z0, nm_z1, nb_II, nb_IR, nb_RI, nb_RR, nm_IL, nm_IQ, nm_RL, nm_RQ, nm_LI, nm_LR, nm_LL, nm_LQ, nm_QI, nm_QR, nm_QL, nm_QQ, nm_rr, nm_ii, nm_eqm, not_false_eq_true, pk_sub, nm_div, nm_shl, nm_shr, nm_ush, nm_or8, nm_or64, nm_or256, nm_m1, nm_m3, nm_m7, nm_m15, nm_m31, nm_m63, nm_m255, nm_m511, nm_m1023, nm_m2047, nm_m65535, Nat.reduceMod, Nat.reducePow, Nat.reduceAdd, Nat.reduceSub, Nat.reduceMul, nm_bo, nm_bi, nm_rc, nm_ic, nm_ri, nm_rl, nm_rq, nm_ql, nm_qi, nm_li, nm_us, nm_uu, nm_cp, nm_sa31, nm_sa7, nm_m127, nm_m2, nm_nz, nm_nzk, nm_eq32, nm_nzf, if_true, if_false, ↓reduceIte, if_pos, if_neg]
  · have k16 : 16 ≤ k := by omega
    rw [cv_1 c]
    simp (disch := (first | assumption | decide | omega)) only [dF_X10_freeLink_6, k16, eq_self, Nat.reduceEqDiff, Nat.reduceLeDiff, nl_0, nl_1, nl_16, nl_256, no_1, no_1024, pk_mul, nI_add, nm_ck, nI_clamp, nI_ltI, nI_leI, nI_eq, nb_b2, nb_b1, ↓nb_let, nm_z0, nm_z1, nb_II, nb_IR, nb_RI, nb_RR, nm_IL, nm_IQ, nm_RL, nm_RQ, nm_LI, nm_LR, nm_LL, nm_LQ, nm_QI, nm_QR, nm_QL, nm_QQ, nm_rr, nm_ii, nm_eqm, not_false_eq_true, pk_sub, nm_div, nm_shl, nm_shr, nm_ush, nm_or8, nm_or64, nm_or256, nm_m1, nm_m3, nm_m7, nm_m15, nm_m31, nm_m63, nm_m255, nm_m511, nm_m1023, nm_m2047, nm_m65535, Nat.reduceMod, Nat.reducePow, Nat.reduceAdd, Nat.reduceSub, Nat.reduceMul, nm_bo, nm_bi, nm_rc, nm_ic, nm_ri, nm_rl, nm_rq, nm_ql, nm_qi, nm_li, nm_us, nm_uu, nm_cp, nm_sa31, nm_sa7, nm_m127, nm_m2, nm_nz, nm_nzk, nm_eq32, nm_nzf, if_true, if_false, ↓reduceIte, if_pos, if_neg]
theorem nk_freeDescriptor (n : Nat) (hn : 1024 < n) {X : St × St} {p : Nat} (hp : p < 16) (e12 : sI X.1 12 = nI p) : df_X16_freeDescriptor n X = some (cv (fN (fd X p) 0 16), X) := by
  obtain ⟨x1, x2, x3, x4⟩ := fN_le (fd X p) 16 0
  obtain ⟨m, hm⟩ := nm_ls (fun m k => df_X16_freeDescriptor_2 n m (nI k) X) (fd X p) 0 16 n (by omega) (fun k m h0 hk c => by
    have u1 : 16 * p + k < 256 := by omega
    have u2 : 16 * p + k < 2 ^ 31 := by omega
    have u3 : k < 2 ^ 31 := by omega
    have u4 : 16 * p + k = p * 16 + k := by omega
    have k16 : ¬ 16 ≤ k := by omega
    have c0 : ¬ sR X.1 14 (p * 16 + k) = -nI 1 := of_decide_eq_false c
    rw [show df_X16_freeDescriptor_2 n (m + 1) = dF_X16_freeDescriptor_2 n (df_X16_freeDescriptor_2 n m) from rfl]
    simp (disch := (first | assumption | decide | omega)) only [dF_X16_freeDescriptor_2, k16, e12, u4, c0, eq_self, Nat.reduceEqDiff, Nat.reduceLeDiff, nl_1, nl_12, nl_14, nl_16, nl_256, no_1, no_1024, pk_mul, nI_add, nm_ck, nI_clamp, nI_ltI, nI_leI, nI_eq, nb_b2, nb_b1, ↓nb_let, nm_z0, nm_z1, nb_II, nb_IR, nb_RI, nb_RR, nm_IL, nm_IQ, nm_RL, nm_RQ, nm_LI, nm_LR, nm_LL, nm_LQ, nm_QI, nm_QR, nm_QL, nm_QQ, nm_rr, nm_ii, nm_eqm, not_false_eq_true, pk_sub, nm_div, nm_shl, nm_shr, nm_ush, nm_or8, nm_or64, nm_or256, nm_m1, nm_m3, nm_m7, nm_m15, nm_m31, nm_m63, nm_m255, nm_m511, nm_m1023, nm_m2047, nm_m65535, Nat.reduceMod, Nat.reducePow, Nat.reduceAdd, Nat.reduceSub, Nat.reduceMul, nm_bo, nm_bi, nm_rc, nm_ic, nm_ri, nm_rl, nm_rq, nm_ql, nm_qi, nm_li, nm_us, nm_uu, nm_cp, nm_sa31, nm_sa7, nm_m127, nm_m2, nm_nz, nm_nzk, nm_eq32, nm_nzf, if_true, if_false, ↓reduceIte, if_pos, if_neg])
  refine Eq.trans (b := df_X16_freeDescriptor_2 n n (nI 0) X) rfl (Eq.trans hm ?_)
  show df_X16_freeDescriptor_2 n (m + 1) (nI (fN (fd X p) 0 16)) X = _
  rw [show df_X16_freeDescriptor_2 n (m + 1) = dF_X16_freeDescriptor_2 n (df_X16_freeDescriptor_2 n m) from rfl]
  have x3' : fN (fd X p) 0 16 < 16 → sR X.1 14 (p * 16 + fN (fd X p) 0 16) = -nI 1 := fun z => of_decide_eq_true (x3 (by omega))
  generalize fN (fd X p) 0 16 = k at x2 x3'
  have u3 : k < 2 ^ 31 := by omega
  by_cases c : k < 16
  · have x3 := x3' c
    have k16 : ¬ 16 ≤ k := by omega
    have u1 : 16 * p + k < 256 := by omega
    have u2 : 16 * p + k < 2 ^ 31 := by omega
    have u4 : 16 * p + k = p * 16 + k := by omega
    rw [cv_0 c]
    simp (disch := (first | assumption | decide | omega)) only [dF_X16_freeDescriptor_2, df_X16_freeDescriptor_32, df_X16_freeDescriptor_43, k16, e12, u4, x3, eq_self, Nat.reduceEqDiff, Nat.reduceLeDiff, nl_1, nl_12, nl_14, nl_16, nl_256, no_1, no_1024, pk_mul, nI_add, nm_ck, nI_clamp, nI_ltI, nI_leI, nI_eq, nb_b2, nb_b1, ↓nb_let, nm_z0, nm_z1, nb_II, nb_IR, nb_RI, nb_RR, nm_IL, nm_IQ, nm_RL, nm_RQ, nm_LI, nm_LR, nm_LL, nm_LQ, nm_QI, nm_QR, nm_QL, nm_QQ, nm_rr, nm_ii, nm_eqm, not_false_eq_true, pk_sub, nm_div, nm_shl, nm_shr, nm_ush, nm_or8, nm_or64, nm_or256, nm_m1, nm_m3, nm_m7, nm_m15, nm_m31, nm_m63, nm_m255, nm_m511, nm_m1023, nm_m2047, nm_m65535, Nat.reduceMod, Nat.reducePow, Nat.reduceAdd, Nat.reduceSub, Nat.reduceMul, nm_bo, nm_bi, nm_rc, nm_ic, nm_ri, nm_rl, nm_rq, nm_ql, nm_qi, nm_li, nm_us, nm_uu, nm_cp, nm_sa31, nm_sa7, nm_m127, nm_m2, nm_nz, nm_nzk, nm_eq32, nm_nzf, if_true, if_false, ↓reduceIte, if_pos, if_neg]
  · have k16 : 16 ≤ k := by omega
    rw [cv_1 c]
    simp (disch := (first | assumption | decide | omega)) only [dF_X16_freeDescriptor_2, df_X16_freeDescriptor_32, df_X16_freeDescriptor_43, k16, eq_self, Nat.reduceEqDiff, Nat.reduceLeDiff, nl_1, nl_12, nl_14, nl_16, nl_256, no_1, no_1024, pk_mul, nI_add, nm_ck, nI_clamp, nI_ltI, nI_leI, nI_eq, nb_b2, nb_b1, ↓nb_let, nm_z0, nm_z1, nb_II, nb_IR, nb_RI, nb_RR, nm_IL, nm_IQ, nm_RL, nm_RQ, nm_LI, nm_LR, nm_LL, nm_LQ, nm_QI, nm_QR, nm_QL, nm_QQ, nm_rr, nm_ii, nm_eqm, not_false_eq_true, pk_sub, nm_div, nm_shl, nm_shr, nm_ush, nm_or8, nm_or64, nm_or256, nm_m1, nm_m3, nm_m7, nm_m15, nm_m31, nm_m63, nm_m255, nm_m511, nm_m1023, nm_m2047, nm_m65535, Nat.reduceMod, Nat.reducePow, Nat.reduceAdd, Nat.reduceSub, Nat.reduceMul, nm_bo, nm_bi, nm_rc, nm_ic, nm_ri, nm_rl, nm_rq, nm_ql, nm_qi, nm_li, nm_us, nm_uu, nm_cp, nm_sa31, nm_sa7, nm_m127, nm_m2, nm_nz, nm_nzk, nm_eq32, nm_nzf, if_true, if_false, ↓reduceIte, if_pos, if_neg]
/-- the descriptors of a running one change -/
theorem rM_de {B : Nat} {M X : St × St} (h : rM B M X) {p : Nat} (hp : p < 16) (h1 : sR X.1 1 p = nI 1) {l op pi fi de kd ip isf : Nat → Int32} (hk : kpL (sR M.2 2) (sR M.2 4) pi fi) (hr : rD l op pi fi de kd (sR X.1 20) (sR X.1 21) (sR X.1 22) ip isf (sR X.1 25)) (hde : ∀ i : Nat, i < p * 16 ∨ p * 16 + 16 ≤ i → de i = sR X.1 14 i) (hip : ∀ k : Nat, k < 8 → ip k = nI 1 → sR X.1 23 k = nI 1) (hisf : ∀ k : Nat, k < 16 → isf k = nI 1 → sR X.1 24 k = nI 1) : rM B (M.1, dU M.2 l op pi fi) (pR (pR (pR (pR X.1 14 de) 19 kd) 23 ip) 24 isf, X.2) := by
  obtain ⟨m1, m2, m3, m4, m5, m6, m7⟩ := h
  refine ⟨m1, hr, rP_all m3 (p := p) ?_ (fun r hr => ⟨⟨fun _ _ => rfl, fun _ _ => rfl, fun _ _ => rfl, fun _ _ => rfl, rfl⟩, ⟨⟨rfl, rfl, rfl, rfl, rfl, rfl, rfl, rfl⟩, fun _ _ => rfl, rfl, fun _ _ => rfl, rfl, fun _ _ => rfl, fun i hi => hde _ (by omega), fun _ _ => Iff.rfl, rfl⟩⟩), m4, m5, m6, rT_go m7 hk hip hisf⟩
  obtain ⟨t, c', w, b', e, ht, hc', hw, hb, he, a1, a2, a3, a4, a5, a6, a7, a8, a9, a10, a11, a12, a13, a14, a15, a16, a17, a18, a19, a20, a21⟩ := m3 p hp
  have t1 : t = 1 := nm_inI (by omega) (by omega) (a2.symm.trans h1)
  exact ⟨t, c', w, b', e, ht, hc', hw, hb, he, a1, a2, a3, a4, a5, a6, a7, a8, a9, a10, a11, a12, a13, a14, a15, a16, a17, a18, fun z => by omega, fun z => by omega, a21⟩
/-- the kernel's call 'close' -/
theorem nq_close (n : Nat) (hn : 1024 < n) {B p : Nat} {K : St × (St × (St × St))} {X : St × St} (h : cP B p K X) (a : Int32) : cO B p K X (df_X5_close n (nI p) a K) (df_X16_close n a X) := by
  obtain ⟨h1, h2, h3, h4, h5, h6, h7⟩ := id h
  have m2 := h1.2.1
  have z0 : ¬ (nI 0 : Int32) ≤ -nI 1 := by decide
  rcases nk_opening n m2 h2 a with ⟨o1, o2, _⟩ | ⟨d, o, hd, ho, ed, de, kn, o1, o2⟩
  · have e1 : df_X5_close n (nI p) a K = some (-1, K) := by simp (disch := (first | assumption | decide | omega)) only [df_X5_close_0, df_X5_close, o1, z0, eq_self, Nat.reduceEqDiff, Nat.reduceLeDiff, nl_0, nl_1, no_1, no_1024, pk_mul, nI_add, nm_ck, nI_clamp, nI_ltI, nI_leI, nI_eq, nb_b2, nb_b1, ↓nb_let, nm_z0, nm_z1, nb_II, nb_IR, nb_RI, nb_RR, nm_IL, nm_IQ, nm_RL, nm_RQ, nm_LI, nm_LR, nm_LL, nm_LQ, nm_QI, nm_QR, nm_QL, nm_QQ, nm_rr, nm_ii, nm_eqm, not_false_eq_true, pk_sub, nm_div, nm_shl, nm_shr, nm_ush, nm_or8, nm_or64, nm_or256, nm_m1, nm_m3, nm_m7, nm_m15, nm_m31, nm_m63, nm_m255, nm_m511, nm_m1023, nm_m2047, nm_m65535, Nat.reduceMod, Nat.reducePow, Nat.reduceAdd, Nat.reduceSub, Nat.reduceMul, nm_bo, nm_bi, nm_rc, nm_ic, nm_ri, nm_rl, nm_rq, nm_ql, nm_qi, nm_li, nm_us, nm_uu, nm_cp, nm_sa31, nm_sa7, nm_m127, nm_m2, nm_nz, nm_nzk, nm_eq32, nm_nzf, if_true, if_false, ↓reduceIte, if_pos, if_neg]
    have e2 : df_X16_close n a X = some (-nI 1, X) := by simp (disch := (first | assumption | decide | omega)) only [df_X16_close_0, df_X16_close, h3, o2, eq_self, Nat.reduceEqDiff, Nat.reduceLeDiff, nl_0, nl_1, nl_12, nl_14, nl_16, nl_256, no_1, no_1024, pk_mul, nI_add, nm_ck, nI_clamp, nI_ltI, nI_leI, nI_eq, nb_b2, nb_b1, ↓nb_let, nm_z0, nm_z1, nb_II, nb_IR, nb_RI, nb_RR, nm_IL, nm_IQ, nm_RL, nm_RQ, nm_LI, nm_LR, nm_LL, nm_LQ, nm_QI, nm_QR, nm_QL, nm_QQ, nm_rr, nm_ii, nm_eqm, not_false_eq_true, pk_sub, nm_div, nm_shl, nm_shr, nm_ush, nm_or8, nm_or64, nm_or256, nm_m1, nm_m3, nm_m7, nm_m15, nm_m31, nm_m63, nm_m255, nm_m511, nm_m1023, nm_m2047, nm_m65535, Nat.reduceMod, Nat.reducePow, Nat.reduceAdd, Nat.reduceSub, Nat.reduceMul, nm_bo, nm_bi, nm_rc, nm_ic, nm_ri, nm_rl, nm_rq, nm_ql, nm_qi, nm_li, nm_us, nm_uu, nm_cp, nm_sa31, nm_sa7, nm_m127, nm_m2, nm_nz, nm_nzk, nm_eq32, nm_nzf, if_true, if_false, ↓reduceIte, if_pos, if_neg]
    rw [e1, e2]
    exact cO_id h (by decide)
  · subst ed
    obtain ⟨l, op, pi, fi, c1, c2, c3⟩ := nk_close n m2 h2 hd
    have sw := nk_sweep n hn (pR X.1 14 (upd (sR X.1 14) (p * 16 + d) (-nI 1)), X.2)
    have u1 : 16 * p + d = p * 16 + d := by omega
    have u2 : p * 16 + d < 256 := by omega
    have u3 : p * 16 + d < 2 ^ 31 := by omega
    have u4 : o < 2 ^ 31 := by omega
    have u5 : 0 ≤ o := by omega
    refine ⟨0, nI 0, K.1, _, _, ?_, ?_, rM_de h1 h2 h5 c2 c3 (fun i hi => nm_un (by omega)) (fun k hk e => rD_p m2 (de' := sR X.1 14) hk e) (fun k hk e => rD_f m2 hk e), fun _ => rfl, Or.inl ⟨h4, by decide⟩, ⟨rfl, rfl, rfl, rfl, rfl⟩, Or.inl ⟨h6, h7⟩, fun _ => h5, fun z => absurd (h4.symm.trans z) (by decide)⟩
    · simp (disch := (first | assumption | decide | omega)) only [df_X5_close_0, df_X5_close, o1, u5, c1, eq_self, Nat.reduceEqDiff, Nat.reduceLeDiff, nl_0, nl_1, no_1, no_1024, pk_mul, nI_add, nm_ck, nI_clamp, nI_ltI, nI_leI, nI_eq, nb_b2, nb_b1, ↓nb_let, nm_z0, nm_z1, nb_II, nb_IR, nb_RI, nb_RR, nm_IL, nm_IQ, nm_RL, nm_RQ, nm_LI, nm_LR, nm_LL, nm_LQ, nm_QI, nm_QR, nm_QL, nm_QQ, nm_rr, nm_ii, nm_eqm, not_false_eq_true, pk_sub, nm_div, nm_shl, nm_shr, nm_ush, nm_or8, nm_or64, nm_or256, nm_m1, nm_m3, nm_m7, nm_m15, nm_m31, nm_m63, nm_m255, nm_m511, nm_m1023, nm_m2047, nm_m65535, Nat.reduceMod, Nat.reducePow, Nat.reduceAdd, Nat.reduceSub, Nat.reduceMul, nm_bo, nm_bi, nm_rc, nm_ic, nm_ri, nm_rl, nm_rq, nm_ql, nm_qi, nm_li, nm_us, nm_uu, nm_cp, nm_sa31, nm_sa7, nm_m127, nm_m2, nm_nz, nm_nzk, nm_eq32, nm_nzf, if_true, if_false, ↓reduceIte, if_pos, if_neg]
    · simp (disch := (first | assumption | decide | omega)) only [df_X16_close_0, df_X16_close, h3, o2, u1, eq_self, Nat.reduceEqDiff, Nat.reduceLeDiff, nl_0, nl_1, nl_12, nl_14, nl_16, nl_256, no_1, no_1024, pk_mul, nI_add, nm_ck, nI_clamp, nI_ltI, nI_leI, nI_eq, nb_b2, nb_b1, ↓nb_let, nm_z0, nm_z1, nb_II, nb_IR, nb_RI, nb_RR, nm_IL, nm_IQ, nm_RL, nm_RQ, nm_LI, nm_LR, nm_LL, nm_LQ, nm_QI, nm_QR, nm_QL, nm_QQ, nm_rr, nm_ii, nm_eqm, not_false_eq_true, pk_sub, nm_div, nm_shl, nm_shr, nm_ush, nm_or8, nm_or64, nm_or256, nm_m1, nm_m3, nm_m7, nm_m15, nm_m31, nm_m63, nm_m255, nm_m511, nm_m1023, nm_m2047, nm_m65535, Nat.reduceMod, Nat.reducePow, Nat.reduceAdd, Nat.reduceSub, Nat.reduceMul, nm_bo, nm_bi, nm_rc, nm_ic, nm_ri, nm_rl, nm_rq, nm_ql, nm_qi, nm_li, nm_us, nm_uu, nm_cp, nm_sa31, nm_sa7, nm_m127, nm_m2, nm_nz, nm_nzk, nm_eq32, nm_nzf, if_true, if_false, ↓reduceIte, if_pos, if_neg]
      rw [sw]
      rfl
