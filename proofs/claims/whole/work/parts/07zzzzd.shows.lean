theorem it_1 (n T L : Nat) {σ : S12} (h : sI (tl σ).1 0 = nI 1) {P : Nat} (hP : P < 2 ^ 32) : df_X12_isThere n T L (nI P) σ = some (if P < 16 then nI 1 else nI 0, σ) := by
  have b1 : ¬ sI σ.2.2.2.2.1 0 = 0 := by
    rw [show sI σ.2.2.2.2.1 0 = nI 1 from h]; decide
  unfold df_X12_isThere df_X12_isThere_0 df_X12_isThere_24 df_X12_isThere_25
  rw [if_neg b1]
  by_cases y : P < 2 ^ 31
  · rw [if_neg (show ¬ nI P < (0 : Int32) from fun z => by rw [lz_0 hP] at z; omega)]
    by_cases y2 : P < 16
    · rw [if_neg (show ¬ (16 : Int32) ≤ nI P from fun z => by have z : nI 16 ≤ nI P := z; rw [nI_leI (by omega) y] at z; omega), if_pos y2, nz_1]
      rfl
    · rw [if_pos (show (16 : Int32) ≤ nI P from (show nI 16 ≤ nI P by rw [nI_leI (by omega) y]; omega)), if_neg y2, nz_0]
      rfl
  · rw [if_pos (show nI P < (0 : Int32) by rw [lz_0 hP]; omega), if_neg (by omega), nz_0]
    rfl
theorem it_0 (n T L : Nat) {σ : S12} (h : sI (tl σ).1 0 = nI 0) (p : Int32) : df_X12_isThere n T L p σ = some (0, σ) := by
  unfold df_X12_isThere df_X12_isThere_0 df_X12_isThere_24 df_X12_isThere_25
  rw [if_pos (show sI σ.2.2.2.2.1 0 = 0 from h), nz_0]
theorem rg_a {A k : Nat} (hA : A < 2 ^ 32) (hk : k < 2 ^ 31) (d : A ≤ k) : ¬ nI A < (0 : Int32) ∧ ¬ nI k < nI A := ⟨fun z => by rw [lz_0 hA] at z; omega, fun z => by rw [nI_ltI hk (by omega)] at z; omega⟩
theorem rg_b {A k : Nat} (hA : A < 2 ^ 32) (hk : k < 2 ^ 31) (d : ¬ A ≤ k) : nI A < (0 : Int32) ∨ (¬ nI A < (0 : Int32) ∧ nI k < nI A) := by
  by_cases y : A < 2 ^ 31
  · exact Or.inr ⟨fun z => by rw [lz_0 hA] at z; omega, by rw [nI_ltI hk y]; omega⟩
  · exact Or.inl (by rw [lz_0 hA]; omega)
theorem rg_c {A k : Nat} (hA : A < 2 ^ 32) (hk : k < 2 ^ 31) (d : A < k) : ¬ nI A < (0 : Int32) ∧ ¬ nI k ≤ nI A := ⟨fun z => by rw [lz_0 hA] at z; omega, fun z => by rw [nI_leI hk (by omega)] at z; omega⟩
theorem rg_d {A k : Nat} (hA : A < 2 ^ 32) (hk : k < 2 ^ 31) (d : ¬ A < k) : nI A < (0 : Int32) ∨ (¬ nI A < (0 : Int32) ∧ nI k ≤ nI A) := by
  by_cases y : A < 2 ^ 31
  · exact Or.inr ⟨fun z => by rw [lz_0 hA] at z; omega, by rw [nI_leI hk y]; omega⟩
  · exact Or.inl (by rw [lz_0 hA]; omega)
theorem rg_e {A k : Nat} (hA : A < 2 ^ 32) (hk : k < 2 ^ 31) (d : ¬ A ≤ k) : nI A < (0 : Int32) ∨ (¬ nI A < (0 : Int32) ∧ ¬ nI A ≤ nI k) := by
  by_cases y : A < 2 ^ 31
  · exact Or.inr ⟨fun z => by rw [lz_0 hA] at z; omega, fun z => by rw [nI_leI y hk] at z; omega⟩
  · exact Or.inl (by rw [lz_0 hA]; omega)
/-- a register, in both -/
theorem sg_reg (n : Nat) {B : Nat} {M X : St × St} (h : rM B M X) {p R : Nat} (hp : p < 16) (hR : R < 33) : ∃ r : Int32, df_X6_registerOf n (nI p) (nI R) M = some (r, M) ∧ df_X16_register n (nI p) (nI R) X = some (r, X) := by
  obtain ⟨t, c, w, b, e, t4, _, _, _, _, e1, e2, _, _, _, _, _, _, _, _, _, _, _, _, _, _, hr, _⟩ := h.2.2.1 p hp
  have u1 : p < 2 ^ 31 := by omega
  have u2 : R < 2 ^ 31 := by omega
  have u3 : t < 2 ^ 31 := by omega
  have u4 : p * 7 < 112 := by omega
  have u5 : p * 33 + R < 528 := by omega
  have k1 : ¬ 15 < p := by omega
  have k2 : ¬ 32 < R := by omega
  by_cases t0 : t = 0
  · subst t0
    refine ⟨nI 0, ?_, ?_⟩
    · simp (disch := (first | assumption | decide | omega)) only [df_X6_registerOf_23, df_X6_registerOf_0, df_X6_registerOf, df_X6_status_0, df_X6_status, e1, Nat.add_zero, eq_self, Nat.reduceEqDiff, Nat.reduceLeDiff, nl_0, nl_3, nl_6, nl_7, nl_33, nl_112, nl_528, no_1, no_1024, pk_mul, nI_add, nm_ck, nI_clamp, nI_ltI, nI_leI, nI_eq, nb_b2, nb_b1, ↓nb_let, nm_z0, nm_z1, nb_II, nb_IR, nb_RI, nb_RR, nm_IL, nm_IQ, nm_RL, nm_RQ, nm_LI, nm_LR, nm_LL, nm_LQ, nm_QI, nm_QR, nm_QL, nm_QQ, nm_rr, nm_ii, nm_eqm, not_false_eq_true, pk_sub, nm_div, nm_shl, nm_shr, nm_ush, nm_or8, nm_or64, nm_or256, nm_m1, nm_m3, nm_m7, nm_m15, nm_m31, nm_m63, nm_m255, nm_m511, nm_m1023, nm_m2047, nm_m65535, Nat.reduceMod, Nat.reducePow, Nat.reduceAdd, Nat.reduceSub, Nat.reduceMul, nm_bo, nm_bi, nm_rc, nm_ic, nm_ri, nm_rl, nm_rq, nm_ql, nm_qi, nm_li, nm_us, nm_uu, nm_cp, nm_sa31, nm_sa7, nm_m127, nm_m2, nm_nz, nm_nzk, nm_eq32, nm_nzf, if_true, if_false, ↓reduceIte, if_pos, if_neg]
    · simp (disch := (first | assumption | decide | omega)) only [df_X16_register_59, df_X16_register_29, df_X16_register_0, df_X16_register, e2, eq_self, Nat.reduceEqDiff, Nat.reduceLeDiff, nl_0, nl_1, nl_9, nl_10, nl_15, nl_16, nl_32, nl_512, no_1, no_1024, pk_mul, nI_add, nm_ck, nI_clamp, nI_ltI, nI_leI, nI_eq, nb_b2, nb_b1, ↓nb_let, nm_z0, nm_z1, nb_II, nb_IR, nb_RI, nb_RR, nm_IL, nm_IQ, nm_RL, nm_RQ, nm_LI, nm_LR, nm_LL, nm_LQ, nm_QI, nm_QR, nm_QL, nm_QQ, nm_rr, nm_ii, nm_eqm, not_false_eq_true, pk_sub, nm_div, nm_shl, nm_shr, nm_ush, nm_or8, nm_or64, nm_or256, nm_m1, nm_m3, nm_m7, nm_m15, nm_m31, nm_m63, nm_m255, nm_m511, nm_m1023, nm_m2047, nm_m65535, Nat.reduceMod, Nat.reducePow, Nat.reduceAdd, Nat.reduceSub, Nat.reduceMul, nm_bo, nm_bi, nm_rc, nm_ic, nm_ri, nm_rl, nm_rq, nm_ql, nm_qi, nm_li, nm_us, nm_uu, nm_cp, nm_sa31, nm_sa7, nm_m127, nm_m2, nm_nz, nm_nzk, nm_eq32, nm_nzf, if_true, if_false, ↓reduceIte, if_pos, if_neg]
  · obtain ⟨r1, r2⟩ := hr t0
    have k3 : ¬ nI t = nI 0 := fun z => by rw [nI_eq u3 (by omega)] at z; exact t0 z
    by_cases c : R = 32
    · subst c
      refine ⟨sR X.1 10 p, ?_, ?_⟩
      · rw [← r2]
        simp (disch := (first | assumption | decide | omega)) only [df_X6_registerOf_23, df_X6_registerOf_0, df_X6_registerOf, df_X6_status_0, df_X6_status, e1, Nat.add_zero, k3, eq_self, Nat.reduceEqDiff, Nat.reduceLeDiff, nl_0, nl_3, nl_6, nl_7, nl_33, nl_112, nl_528, no_1, no_1024, pk_mul, nI_add, nm_ck, nI_clamp, nI_ltI, nI_leI, nI_eq, nb_b2, nb_b1, ↓nb_let, nm_z0, nm_z1, nb_II, nb_IR, nb_RI, nb_RR, nm_IL, nm_IQ, nm_RL, nm_RQ, nm_LI, nm_LR, nm_LL, nm_LQ, nm_QI, nm_QR, nm_QL, nm_QQ, nm_rr, nm_ii, nm_eqm, not_false_eq_true, pk_sub, nm_div, nm_shl, nm_shr, nm_ush, nm_or8, nm_or64, nm_or256, nm_m1, nm_m3, nm_m7, nm_m15, nm_m31, nm_m63, nm_m255, nm_m511, nm_m1023, nm_m2047, nm_m65535, Nat.reduceMod, Nat.reducePow, Nat.reduceAdd, Nat.reduceSub, Nat.reduceMul, nm_bo, nm_bi, nm_rc, nm_ic, nm_ri, nm_rl, nm_rq, nm_ql, nm_qi, nm_li, nm_us, nm_uu, nm_cp, nm_sa31, nm_sa7, nm_m127, nm_m2, nm_nz, nm_nzk, nm_eq32, nm_nzf, if_true, if_false, ↓reduceIte, if_pos, if_neg]
      · simp (disch := (first | assumption | decide | omega)) only [df_X16_register_59, df_X16_register_29, df_X16_register_0, df_X16_register, e2, k3, eq_self, Nat.reduceEqDiff, Nat.reduceLeDiff, nl_0, nl_1, nl_9, nl_10, nl_15, nl_16, nl_32, nl_512, no_1, no_1024, pk_mul, nI_add, nm_ck, nI_clamp, nI_ltI, nI_leI, nI_eq, nb_b2, nb_b1, ↓nb_let, nm_z0, nm_z1, nb_II, nb_IR, nb_RI, nb_RR, nm_IL, nm_IQ, nm_RL, nm_RQ, nm_LI, nm_LR, nm_LL, nm_LQ, nm_QI, nm_QR, nm_QL, nm_QQ, nm_rr, nm_ii, nm_eqm, not_false_eq_true, pk_sub, nm_div, nm_shl, nm_shr, nm_ush, nm_or8, nm_or64, nm_or256, nm_m1, nm_m3, nm_m7, nm_m15, nm_m31, nm_m63, nm_m255, nm_m511, nm_m1023, nm_m2047, nm_m65535, Nat.reduceMod, Nat.reducePow, Nat.reduceAdd, Nat.reduceSub, Nat.reduceMul, nm_bo, nm_bi, nm_rc, nm_ic, nm_ri, nm_rl, nm_rq, nm_ql, nm_qi, nm_li, nm_us, nm_uu, nm_cp, nm_sa31, nm_sa7, nm_m127, nm_m2, nm_nz, nm_nzk, nm_eq32, nm_nzf, if_true, if_false, ↓reduceIte, if_pos, if_neg]
    · have k4 : R < 32 := by omega
      have k5 : ¬ nI R = nI 32 := fun z => by rw [nI_eq u2 (by omega)] at z; exact c z
      have u6 : 32 * p + R < 512 := by omega
      refine ⟨sR X.1 9 (32 * p + R), ?_, ?_⟩
      · rw [← r1 R k4]
        simp (disch := (first | assumption | decide | omega)) only [df_X6_registerOf_23, df_X6_registerOf_0, df_X6_registerOf, df_X6_status_0, df_X6_status, e1, Nat.add_zero, k3, eq_self, Nat.reduceEqDiff, Nat.reduceLeDiff, nl_0, nl_3, nl_6, nl_7, nl_33, nl_112, nl_528, no_1, no_1024, pk_mul, nI_add, nm_ck, nI_clamp, nI_ltI, nI_leI, nI_eq, nb_b2, nb_b1, ↓nb_let, nm_z0, nm_z1, nb_II, nb_IR, nb_RI, nb_RR, nm_IL, nm_IQ, nm_RL, nm_RQ, nm_LI, nm_LR, nm_LL, nm_LQ, nm_QI, nm_QR, nm_QL, nm_QQ, nm_rr, nm_ii, nm_eqm, not_false_eq_true, pk_sub, nm_div, nm_shl, nm_shr, nm_ush, nm_or8, nm_or64, nm_or256, nm_m1, nm_m3, nm_m7, nm_m15, nm_m31, nm_m63, nm_m255, nm_m511, nm_m1023, nm_m2047, nm_m65535, Nat.reduceMod, Nat.reducePow, Nat.reduceAdd, Nat.reduceSub, Nat.reduceMul, nm_bo, nm_bi, nm_rc, nm_ic, nm_ri, nm_rl, nm_rq, nm_ql, nm_qi, nm_li, nm_us, nm_uu, nm_cp, nm_sa31, nm_sa7, nm_m127, nm_m2, nm_nz, nm_nzk, nm_eq32, nm_nzf, if_true, if_false, ↓reduceIte, if_pos, if_neg]
      · simp (disch := (first | assumption | decide | omega)) only [df_X16_register_59, df_X16_register_29, df_X16_register_0, df_X16_register, e2, k3, k5, eq_self, Nat.reduceEqDiff, Nat.reduceLeDiff, nl_0, nl_1, nl_9, nl_10, nl_15, nl_16, nl_32, nl_512, no_1, no_1024, pk_mul, nI_add, nm_ck, nI_clamp, nI_ltI, nI_leI, nI_eq, nb_b2, nb_b1, ↓nb_let, nm_z0, nm_z1, nb_II, nb_IR, nb_RI, nb_RR, nm_IL, nm_IQ, nm_RL, nm_RQ, nm_LI, nm_LR, nm_LL, nm_LQ, nm_QI, nm_QR, nm_QL, nm_QQ, nm_rr, nm_ii, nm_eqm, not_false_eq_true, pk_sub, nm_div, nm_shl, nm_shr, nm_ush, nm_or8, nm_or64, nm_or256, nm_m1, nm_m3, nm_m7, nm_m15, nm_m31, nm_m63, nm_m255, nm_m511, nm_m1023, nm_m2047, nm_m65535, Nat.reduceMod, Nat.reducePow, Nat.reduceAdd, Nat.reduceSub, Nat.reduceMul, nm_bo, nm_bi, nm_rc, nm_ic, nm_ri, nm_rl, nm_rq, nm_ql, nm_qi, nm_li, nm_us, nm_uu, nm_cp, nm_sa31, nm_sa7, nm_m127, nm_m2, nm_nz, nm_nzk, nm_eq32, nm_nzf, if_true, if_false, ↓reduceIte, if_pos, if_neg]
theorem sg_reg0 (n : Nat) (X : St × St) {p R : Nat} (hp : p < 2 ^ 32) (hR : R < 2 ^ 32) (d : ¬ (p < 16 ∧ R < 33)) : df_X16_register n (nI p) (nI R) X = some (0, X) := by
  unfold df_X16_register df_X16_register_0 df_X16_register_29 df_X16_register_59
  by_cases a : p ≤ 15
  · obtain ⟨a1, a2⟩ := rg_a hp (k := 15) (by omega) a
    rw [if_neg a1, if_neg (show ¬ (15 : Int32) < nI p from a2)]
    rcases rg_b hR (k := 32) (by omega) (by omega) with b | ⟨b1, b2⟩
    · rw [if_pos b]
    · rw [if_neg b1, if_pos (show (32 : Int32) < nI R from b2)]
  · rcases rg_b hp (k := 15) (by omega) a with b | ⟨b1, b2⟩
    · rw [if_pos b]
    · rw [if_neg b1, if_pos (show (15 : Int32) < nI p from b2)]
/-- register -/
theorem jc_register (n T L : Nat) (hn : 70000 < n) (p r : Int32) (σ : S12) (τ : S19) (h : jA n (tl σ) τ) : ∃ (v : Int32) (τ' : S19), df_X12_register n T L p r σ = some (v, σ) ∧ df_X19_register n p r τ = some (v, τ') ∧ jA n (tl σ) τ' ∧ kR τ τ' := by
  have n1 : ¬ nI 1 = (0 : Int32) := by decide
  rcases jc_shows n hn h with ⟨h1, h2, h3⟩ | ⟨vn, Q, V, N, T', e, c, lo, τ', h1, h2, h3, h4, h5, h6, h7, h8⟩
  · refine ⟨0, (pI τ.1 0 0, τ.2), ?_, ?_, jA_0 h 0, kR_0 τ 0⟩
    · unfold df_X12_register df_X12_register_0 df_X12_register_33 df_X12_register_34
      rw [it_0 n T L h1, nb_b2, if_pos rfl]
    · unfold df_X19_register df_X19_register_0 df_X19_register_20
      rw [h2, nb_b2, if_pos (show nI 0 = (0 : Int32) from rfl)]
  · obtain ⟨P, hP, rfl⟩ := nI_ex p
    obtain ⟨R, hR, rfl⟩ := nI_ex r
    by_cases d : P < 16 ∧ R < 33
    · obtain ⟨v, e1, e2⟩ := sg_reg n h5 d.1 d.2
      refine ⟨v, τ', ?_, ?_, h8, h7⟩
      · obtain ⟨a1, a2⟩ := rg_c hR (k := 33) (by omega) d.2
        have e1 : df_X6_registerOf n (nI P) (nI R) σ.2.2.2.2.2.1.2.2 = some (v, σ.2.2.2.2.2.1.2.2) := e1
        unfold df_X12_register df_X12_register_0 df_X12_register_34
        rw [it_1 n T L h1 hP, nb_b2, if_pos d.1, if_neg n1, if_neg a1, if_neg (show ¬ (33 : Int32) ≤ nI R from a2), e1, nb_b2, nb_let]
      · unfold df_X19_register df_X19_register_0 df_X19_register_20
        rw [h2, nb_b2, if_neg n1, e2, nb_b2, nb_let]
    · refine ⟨0, τ', ?_, ?_, h8, h7⟩
      · unfold df_X12_register df_X12_register_0 df_X12_register_33 df_X12_register_34
        rw [it_1 n T L h1 hP, nb_b2]
        by_cases y : P < 16
        · rw [if_pos y, if_neg n1]
          rcases rg_d hR (k := 33) (by omega) (fun z => d ⟨y, z⟩) with b | ⟨b1, b2⟩
          · rw [if_pos b]
          · rw [if_neg b1, if_pos (show (33 : Int32) ≤ nI R from b2)]
        · rw [if_neg y, if_pos (show nI 0 = (0 : Int32) from rfl)]
      · unfold df_X19_register df_X19_register_0 df_X19_register_20
        rw [h2, nb_b2, if_neg n1, sg_reg0 n _ hP hR d, nb_b2, nb_let]
/-- how many pages a process has, in both -/
def pgB (X : St × St) (p k : Nat) : Bool := !decide (sR X.1 16 (64 * p + k) = -nI 1)
theorem sg_pgs (n : Nat) (hn : 1024 < n) {B : Nat} {M X : St × St} (h : rM B M X) {p W : Nat} (hp : p < 16) (hW : W ≤ 7) : df_X6_pagesOf n (nI p) M = some (nI (cN (pgB X p) 64), M) ∧ ∃ m : Nat, df_X16_process n (nI p) (nI W) X = df_X16_process_27 n (m + 1) (nI p) (nI W) (nI (cN (pgB X p) 64)) (nI 64) X := by
  have hk : ∀ k : Nat, k < 64 → (sR X.1 16 (64 * p + k) = -nI 1 ∧ sR M.1 2 (64 * p + k) = nI 0) ∨ ((¬ sR X.1 16 (64 * p + k) = -nI 1) ∧ ¬ sR M.1 2 (64 * p + k) = nI 0) := fun k hk => by
    rcases h.1.1 (64 * p + k) (by omega) with a | ⟨f, r, f1, f2, f3, f4, f5, f6, f7⟩
    · exact Or.inl a
    · exact Or.inr ⟨by rw [f4]; exact nk_ne (by omega), by rw [f6]; exact nI_ne0 (by omega) (by omega)⟩
  have cle : ∀ k : Nat, k ≤ 64 → cN (pgB X p) k ≤ 64 := fun k hk => Nat.le_trans (cN_le _ _) hk
  constructor
  · obtain ⟨m, e⟩ := nm_lq (fun g k => df_X6_pagesOf_4 n g (nI p) (nI (cN (pgB X p) k)) (nI k) M) 64 n (by omega) (fun k m hk' => by
      have u1 : p < 2 ^ 31 := by omega
      have u2 : k < 2 ^ 31 := by omega
      have or_ : (nI p <<< ((6 : Int32) &&& 31)) ||| nI k = nI (64 * p + k) := nb_or hp hk'
      show dF_X6_pagesOf_4 n (df_X6_pagesOf_4 n m) (nI p) (nI (cN (pgB X p) k)) (nI k) M = df_X6_pagesOf_4 n m (nI p) (nI (cN (pgB X p) (k + 1))) (nI (k + 1)) M
      generalize df_X6_pagesOf_4 n m = G
      unfold dF_X6_pagesOf_4 df_X6_pagesOf_27
      rw [if_neg (show ¬ (64 : Int32) ≤ nI k from fun z => by have z : nI 64 ≤ nI k := z; rw [nI_leI (by omega) u2] at z; omega), or_, nm_ck (by omega) (by omega), nI_clamp (by omega), show nI k + Int32.ofInt 1 = nI (k + 1) from nI_add .., cN_s]
      rcases hk k hk' with ⟨a, b⟩ | ⟨a, b⟩
      · rw [if_pos (show sR M.1 2 (64 * p + k) = 0 from b), nb_let, show pgB X p k = false by unfold pgB; rw [decide_eq_true a]; rfl]
        rfl
      · rw [if_neg (show ¬ sR M.1 2 (64 * p + k) = 0 from b), nb_let, nb_let, show pgB X p k = true by unfold pgB; rw [decide_eq_false a]; rfl, show nI (cN (pgB X p) k) + Int32.ofInt 1 = nI (cN (pgB X p) k + 1) from nI_add ..]
        rfl)
    refine Eq.trans e ?_
    show dF_X6_pagesOf_4 n (df_X6_pagesOf_4 n m) (nI p) (nI (cN (pgB X p) 64)) (nI 64) M = _
    unfold dF_X6_pagesOf_4
    rw [if_pos (show (64 : Int32) ≤ nI 64 by decide)]
  · obtain ⟨m, e⟩ := nm_lq (fun g k => df_X16_process_27 n g (nI p) (nI W) (nI (cN (pgB X p) k)) (nI k) X) 64 n (by omega) (fun k m hk' => by
      have u2 : k < 2 ^ 31 := by omega
      show dF_X16_process_27 n (df_X16_process_27 n m) (nI p) (nI W) (nI (cN (pgB X p) k)) (nI k) X = df_X16_process_27 n m (nI p) (nI W) (nI (cN (pgB X p) (k + 1))) (nI (k + 1)) X
      generalize df_X16_process_27 n m = G
      unfold dF_X16_process_27 df_X16_process_57
      rw [if_neg (show ¬ (64 : Int32) ≤ nI k from fun z => by have z : nI 64 ≤ nI k := z; rw [nI_leI (by omega) u2] at z; omega), show (64 : Int32) * nI p + nI k = nI (64 * p + k) by rw [show (64 : Int32) * nI p = nI (64 * p) from pk_mul .., nI_add], nm_ck (by omega) (by omega), nI_clamp (by omega), show nI k + Int32.ofInt 1 = nI (k + 1) from nI_add .., cN_s, nb_let, nb_let]
      rcases hk k hk' with ⟨a, b⟩ | ⟨a, b⟩
      · rw [if_pos (show sR X.1 16 (64 * p + k) = -1 from a), show pgB X p k = false by unfold pgB; rw [decide_eq_true a]; rfl]
        rfl
      · rw [if_neg (show ¬ sR X.1 16 (64 * p + k) = -1 from a), show pgB X p k = true by unfold pgB; rw [decide_eq_false a]; rfl, show nI (cN (pgB X p) k) + 1 = nI (cN (pgB X p) k + 1) from nI_add ..]
        rfl)
    refine ⟨m, ?_⟩
    unfold df_X16_process df_X16_process_0
    obtain ⟨a1, a2⟩ := rg_a (A := p) (k := 15) (by omega) (by omega) (by omega)
    obtain ⟨b1, b2⟩ := rg_a (A := W) (k := 7) (by omega) (by omega) (by omega)
    rw [if_neg a1, if_neg (show ¬ (15 : Int32) < nI p from a2), if_neg b1, if_pos (show nI W ≤ (7 : Int32) from (show nI W ≤ nI 7 by rw [nI_leI (by omega) (by omega)]; exact hW))]
    exact e
/-- what is told of a process, in both -/
theorem sg_told (n : Nat) (hn : 1024 < n) {B : Nat} {M X : St × St} (h : rM B M X) {p W : Nat} (hp : p < 16) (hW : W ≤ 7) : ∃ r : Int32, df_X6_told n (nI p) (nI W) M = some (r, M) ∧ df_X16_process n (nI p) (nI W) X = some (r, X) := by
  obtain ⟨g1, m, g2⟩ := sg_pgs n hn h hp hW
  obtain ⟨t, c, w, b, e, t4, c5, w2, b6, e6, e1, e2, e3, e4, e5, ee, en, f1, f2, f3, f4, f5, f6, f7, f8, _, hr, _, _, hw, hw2⟩ := h.2.2.1 p hp
  have u1 : p < 2 ^ 31 := by omega
  have u3 : t < 2 ^ 31 := by omega
  have v0 : p * 7 < 112 := by omega
  have v1 : p * 7 + 1 < 112 := by omega
  have v2 : p * 7 + 2 < 112 := by omega
  have v3 : p * 7 + 3 < 112 := by omega
  have v4 : p * 7 + 4 < 112 := by omega
  have v6 : p * 7 + 6 < 112 := by omega
  rw [g2]
  show ∃ r : Int32, _ ∧ dF_X16_process_27 n (df_X16_process_27 n m) (nI p) (nI W) (nI (cN (pgB X p) 64)) (nI 64) X = some (r, X)
  generalize df_X16_process_27 n m = G
  have q64 : ¬ ¬ (64 : Int32) ≤ nI 64 := fun z => z (by decide)
  have hWs : W = 0 ∨ W = 1 ∨ W = 2 ∨ W = 3 ∨ W = 4 ∨ W = 5 ∨ W = 6 ∨ W = 7 := by omega
  unfold dF_X16_process_27
  rw [if_pos (show (64 : Int32) ≤ nI 64 by decide)]
  rcases hWs with rfl | rfl | rfl | rfl | rfl | rfl | rfl | rfl
  · refine ⟨nI t, ?_, ?_⟩
    · simp (disch := (first | assumption | decide | omega)) only [df_X6_told_72, df_X6_told_0, df_X6_told, e1, Nat.add_zero, eq_self, Nat.reduceEqDiff, Nat.reduceLeDiff, nl_1, nl_2, nl_3, nl_5, nl_6, nl_7, nl_17, nl_33, nl_112, nl_528, no_1, no_1024, pk_mul, nI_add, nm_ck, nI_clamp, nI_ltI, nI_leI, nI_eq, nb_b2, nb_b1, ↓nb_let, nm_z0, nm_z1, nb_II, nb_IR, nb_RI, nb_RR, nm_IL, nm_IQ, nm_RL, nm_RQ, nm_LI, nm_LR, nm_LL, nm_LQ, nm_QI, nm_QR, nm_QL, nm_QQ, nm_rr, nm_ii, nm_eqm, not_false_eq_true, pk_sub, nm_div, nm_shl, nm_shr, nm_ush, nm_or8, nm_or64, nm_or256, nm_m1, nm_m3, nm_m7, nm_m15, nm_m31, nm_m63, nm_m255, nm_m511, nm_m1023, nm_m2047, nm_m65535, Nat.reduceMod, Nat.reducePow, Nat.reduceAdd, Nat.reduceSub, Nat.reduceMul, nm_bo, nm_bi, nm_rc, nm_ic, nm_ri, nm_rl, nm_rq, nm_ql, nm_qi, nm_li, nm_us, nm_uu, nm_cp, nm_sa31, nm_sa7, nm_m127, nm_m2, nm_nz, nm_nzk, nm_eq32, nm_nzf, if_true, if_false, ↓reduceIte, if_pos, if_neg]
    · simp (disch := (first | assumption | decide | omega)) only [df_X16_process_20, df_X16_process_142, df_X16_process_164, df_X16_process_57, df_X16_process_0, df_X16_process, e2, eq_self, Nat.reduceEqDiff, Nat.reduceLeDiff, nl_0, nl_1, nl_7, nl_15, no_1, no_1024, pk_mul, nI_add, nm_ck, nI_clamp, nI_ltI, nI_leI, nI_eq, nb_b2, nb_b1, ↓nb_let, nm_z0, nm_z1, nb_II, nb_IR, nb_RI, nb_RR, nm_IL, nm_IQ, nm_RL, nm_RQ, nm_LI, nm_LR, nm_LL, nm_LQ, nm_QI, nm_QR, nm_QL, nm_QQ, nm_rr, nm_ii, nm_eqm, not_false_eq_true, pk_sub, nm_div, nm_shl, nm_shr, nm_ush, nm_or8, nm_or64, nm_or256, nm_m1, nm_m3, nm_m7, nm_m15, nm_m31, nm_m63, nm_m255, nm_m511, nm_m1023, nm_m2047, nm_m65535, Nat.reduceMod, Nat.reducePow, Nat.reduceAdd, Nat.reduceSub, Nat.reduceMul, nm_bo, nm_bi, nm_rc, nm_ic, nm_ri, nm_rl, nm_rq, nm_ql, nm_qi, nm_li, nm_us, nm_uu, nm_cp, nm_sa31, nm_sa7, nm_m127, nm_m2, nm_nz, nm_nzk, nm_eq32, nm_nzf, if_true, if_false, ↓reduceIte, if_pos, if_neg]
  · refine ⟨sR X.1 2 p, ?_, ?_⟩
    · simp (disch := (first | assumption | decide | omega)) only [df_X6_told_72, df_X6_told_0, df_X6_told, e3, eq_self, Nat.reduceEqDiff, Nat.reduceLeDiff, nl_1, nl_2, nl_3, nl_5, nl_6, nl_7, nl_17, nl_33, nl_112, nl_528, no_1, no_1024, pk_mul, nI_add, nm_ck, nI_clamp, nI_ltI, nI_leI, nI_eq, nb_b2, nb_b1, ↓nb_let, nm_z0, nm_z1, nb_II, nb_IR, nb_RI, nb_RR, nm_IL, nm_IQ, nm_RL, nm_RQ, nm_LI, nm_LR, nm_LL, nm_LQ, nm_QI, nm_QR, nm_QL, nm_QQ, nm_rr, nm_ii, nm_eqm, not_false_eq_true, pk_sub, nm_div, nm_shl, nm_shr, nm_ush, nm_or8, nm_or64, nm_or256, nm_m1, nm_m3, nm_m7, nm_m15, nm_m31, nm_m63, nm_m255, nm_m511, nm_m1023, nm_m2047, nm_m65535, Nat.reduceMod, Nat.reducePow, Nat.reduceAdd, Nat.reduceSub, Nat.reduceMul, nm_bo, nm_bi, nm_rc, nm_ic, nm_ri, nm_rl, nm_rq, nm_ql, nm_qi, nm_li, nm_us, nm_uu, nm_cp, nm_sa31, nm_sa7, nm_m127, nm_m2, nm_nz, nm_nzk, nm_eq32, nm_nzf, if_true, if_false, ↓reduceIte, if_pos, if_neg]
    · simp (disch := (first | assumption | decide | omega)) only [df_X16_process_20, df_X16_process_142, df_X16_process_164, df_X16_process_57, df_X16_process_0, df_X16_process, e2, eq_self, Nat.reduceEqDiff, Nat.reduceLeDiff, nl_0, nl_1, nl_7, nl_15, no_1, no_1024, pk_mul, nI_add, nm_ck, nI_clamp, nI_ltI, nI_leI, nI_eq, nb_b2, nb_b1, ↓nb_let, nm_z0, nm_z1, nb_II, nb_IR, nb_RI, nb_RR, nm_IL, nm_IQ, nm_RL, nm_RQ, nm_LI, nm_LR, nm_LL, nm_LQ, nm_QI, nm_QR, nm_QL, nm_QQ, nm_rr, nm_ii, nm_eqm, not_false_eq_true, pk_sub, nm_div, nm_shl, nm_shr, nm_ush, nm_or8, nm_or64, nm_or256, nm_m1, nm_m3, nm_m7, nm_m15, nm_m31, nm_m63, nm_m255, nm_m511, nm_m1023, nm_m2047, nm_m65535, Nat.reduceMod, Nat.reducePow, Nat.reduceAdd, Nat.reduceSub, Nat.reduceMul, nm_bo, nm_bi, nm_rc, nm_ic, nm_ri, nm_rl, nm_rq, nm_ql, nm_qi, nm_li, nm_us, nm_uu, nm_cp, nm_sa31, nm_sa7, nm_m127, nm_m2, nm_nz, nm_nzk, nm_eq32, nm_nzf, if_true, if_false, ↓reduceIte, if_pos, if_neg]
  · by_cases t3 : t = 3
    · obtain ⟨z, z1, z2, z3⟩ := ee t3
      subst t3
      refine ⟨nI z, ?_, ?_⟩
      · simp (disch := (first | assumption | decide | omega)) only [df_X6_told_72, df_X6_told_0, df_X6_told, z2, eq_self, Nat.reduceEqDiff, Nat.reduceLeDiff, nl_1, nl_2, nl_3, nl_5, nl_6, nl_7, nl_17, nl_33, nl_112, nl_528, no_1, no_1024, pk_mul, nI_add, nm_ck, nI_clamp, nI_ltI, nI_leI, nI_eq, nb_b2, nb_b1, ↓nb_let, nm_z0, nm_z1, nb_II, nb_IR, nb_RI, nb_RR, nm_IL, nm_IQ, nm_RL, nm_RQ, nm_LI, nm_LR, nm_LL, nm_LQ, nm_QI, nm_QR, nm_QL, nm_QQ, nm_rr, nm_ii, nm_eqm, not_false_eq_true, pk_sub, nm_div, nm_shl, nm_shr, nm_ush, nm_or8, nm_or64, nm_or256, nm_m1, nm_m3, nm_m7, nm_m15, nm_m31, nm_m63, nm_m255, nm_m511, nm_m1023, nm_m2047, nm_m65535, Nat.reduceMod, Nat.reducePow, Nat.reduceAdd, Nat.reduceSub, Nat.reduceMul, nm_bo, nm_bi, nm_rc, nm_ic, nm_ri, nm_rl, nm_rq, nm_ql, nm_qi, nm_li, nm_us, nm_uu, nm_cp, nm_sa31, nm_sa7, nm_m127, nm_m2, nm_nz, nm_nzk, nm_eq32, nm_nzf, if_true, if_false, ↓reduceIte, if_pos, if_neg]
      · simp (disch := (first | assumption | decide | omega)) only [df_X16_process_20, df_X16_process_142, df_X16_process_164, df_X16_process_57, df_X16_process_0, df_X16_process, e2, z3, eq_self, Nat.reduceEqDiff, Nat.reduceLeDiff, nl_0, nl_1, nl_7, nl_15, no_1, no_1024, pk_mul, nI_add, nm_ck, nI_clamp, nI_ltI, nI_leI, nI_eq, nb_b2, nb_b1, ↓nb_let, nm_z0, nm_z1, nb_II, nb_IR, nb_RI, nb_RR, nm_IL, nm_IQ, nm_RL, nm_RQ, nm_LI, nm_LR, nm_LL, nm_LQ, nm_QI, nm_QR, nm_QL, nm_QQ, nm_rr, nm_ii, nm_eqm, not_false_eq_true, pk_sub, nm_div, nm_shl, nm_shr, nm_ush, nm_or8, nm_or64, nm_or256, nm_m1, nm_m3, nm_m7, nm_m15, nm_m31, nm_m63, nm_m255, nm_m511, nm_m1023, nm_m2047, nm_m65535, Nat.reduceMod, Nat.reducePow, Nat.reduceAdd, Nat.reduceSub, Nat.reduceMul, nm_bo, nm_bi, nm_rc, nm_ic, nm_ri, nm_rl, nm_rq, nm_ql, nm_qi, nm_li, nm_us, nm_uu, nm_cp, nm_sa31, nm_sa7, nm_m127, nm_m2, nm_nz, nm_nzk, nm_eq32, nm_nzf, if_true, if_false, ↓reduceIte, if_pos, if_neg]
    · have k3 : ¬ nI t = nI 3 := fun z => by rw [nI_eq u3 (by omega)] at z; exact t3 z
      have en := en t3
      refine ⟨nI 0, ?_, ?_⟩
      · simp (disch := (first | assumption | decide | omega)) only [df_X6_told_72, df_X6_told_0, df_X6_told, en, eq_self, Nat.reduceEqDiff, Nat.reduceLeDiff, nl_1, nl_2, nl_3, nl_5, nl_6, nl_7, nl_17, nl_33, nl_112, nl_528, no_1, no_1024, pk_mul, nI_add, nm_ck, nI_clamp, nI_ltI, nI_leI, nI_eq, nb_b2, nb_b1, ↓nb_let, nm_z0, nm_z1, nb_II, nb_IR, nb_RI, nb_RR, nm_IL, nm_IQ, nm_RL, nm_RQ, nm_LI, nm_LR, nm_LL, nm_LQ, nm_QI, nm_QR, nm_QL, nm_QQ, nm_rr, nm_ii, nm_eqm, not_false_eq_true, pk_sub, nm_div, nm_shl, nm_shr, nm_ush, nm_or8, nm_or64, nm_or256, nm_m1, nm_m3, nm_m7, nm_m15, nm_m31, nm_m63, nm_m255, nm_m511, nm_m1023, nm_m2047, nm_m65535, Nat.reduceMod, Nat.reducePow, Nat.reduceAdd, Nat.reduceSub, Nat.reduceMul, nm_bo, nm_bi, nm_rc, nm_ic, nm_ri, nm_rl, nm_rq, nm_ql, nm_qi, nm_li, nm_us, nm_uu, nm_cp, nm_sa31, nm_sa7, nm_m127, nm_m2, nm_nz, nm_nzk, nm_eq32, nm_nzf, if_true, if_false, ↓reduceIte, if_pos, if_neg]
      · simp (disch := (first | assumption | decide | omega)) only [df_X16_process_20, df_X16_process_142, df_X16_process_164, df_X16_process_57, df_X16_process_0, df_X16_process, e2, k3, eq_self, Nat.reduceEqDiff, Nat.reduceLeDiff, nl_0, nl_1, nl_3, nl_7, nl_15, no_1, no_1024, pk_mul, nI_add, nm_ck, nI_clamp, nI_ltI, nI_leI, nI_eq, nb_b2, nb_b1, ↓nb_let, nm_z0, nm_z1, nb_II, nb_IR, nb_RI, nb_RR, nm_IL, nm_IQ, nm_RL, nm_RQ, nm_LI, nm_LR, nm_LL, nm_LQ, nm_QI, nm_QR, nm_QL, nm_QQ, nm_rr, nm_ii, nm_eqm, not_false_eq_true, pk_sub, nm_div, nm_shl, nm_shr, nm_ush, nm_or8, nm_or64, nm_or256, nm_m1, nm_m3, nm_m7, nm_m15, nm_m31, nm_m63, nm_m255, nm_m511, nm_m1023, nm_m2047, nm_m65535, Nat.reduceMod, Nat.reducePow, Nat.reduceAdd, Nat.reduceSub, Nat.reduceMul, nm_bo, nm_bi, nm_rc, nm_ic, nm_ri, nm_rl, nm_rq, nm_ql, nm_qi, nm_li, nm_us, nm_uu, nm_cp, nm_sa31, nm_sa7, nm_m127, nm_m2, nm_nz, nm_nzk, nm_eq32, nm_nzf, if_true, if_false, ↓reduceIte, if_pos, if_neg]
  · refine ⟨nI (2 * c), ?_, ?_⟩
    · simp (disch := (first | assumption | decide | omega)) only [df_X6_told_72, df_X6_told_0, df_X6_told, f1, eq_self, Nat.reduceEqDiff, Nat.reduceLeDiff, nl_1, nl_2, nl_3, nl_5, nl_6, nl_7, nl_17, nl_33, nl_112, nl_528, no_1, no_1024, pk_mul, nI_add, nm_ck, nI_clamp, nI_ltI, nI_leI, nI_eq, nb_b2, nb_b1, ↓nb_let, nm_z0, nm_z1, nb_II, nb_IR, nb_RI, nb_RR, nm_IL, nm_IQ, nm_RL, nm_RQ, nm_LI, nm_LR, nm_LL, nm_LQ, nm_QI, nm_QR, nm_QL, nm_QQ, nm_rr, nm_ii, nm_eqm, not_false_eq_true, pk_sub, nm_div, nm_shl, nm_shr, nm_ush, nm_or8, nm_or64, nm_or256, nm_m1, nm_m3, nm_m7, nm_m15, nm_m31, nm_m63, nm_m255, nm_m511, nm_m1023, nm_m2047, nm_m65535, Nat.reduceMod, Nat.reducePow, Nat.reduceAdd, Nat.reduceSub, Nat.reduceMul, nm_bo, nm_bi, nm_rc, nm_ic, nm_ri, nm_rl, nm_rq, nm_ql, nm_qi, nm_li, nm_us, nm_uu, nm_cp, nm_sa31, nm_sa7, nm_m127, nm_m2, nm_nz, nm_nzk, nm_eq32, nm_nzf, if_true, if_false, ↓reduceIte, if_pos, if_neg]
    · simp (disch := (first | assumption | decide | omega)) only [df_X16_process_20, df_X16_process_142, df_X16_process_164, df_X16_process_57, df_X16_process_0, df_X16_process, f2, eq_self, Nat.reduceEqDiff, Nat.reduceLeDiff, nl_0, nl_1, nl_7, nl_15, no_1, no_1024, pk_mul, nI_add, nm_ck, nI_clamp, nI_ltI, nI_leI, nI_eq, nb_b2, nb_b1, ↓nb_let, nm_z0, nm_z1, nb_II, nb_IR, nb_RI, nb_RR, nm_IL, nm_IQ, nm_RL, nm_RQ, nm_LI, nm_LR, nm_LL, nm_LQ, nm_QI, nm_QR, nm_QL, nm_QQ, nm_rr, nm_ii, nm_eqm, not_false_eq_true, pk_sub, nm_div, nm_shl, nm_shr, nm_ush, nm_or8, nm_or64, nm_or256, nm_m1, nm_m3, nm_m7, nm_m15, nm_m31, nm_m63, nm_m255, nm_m511, nm_m1023, nm_m2047, nm_m65535, Nat.reduceMod, Nat.reducePow, Nat.reduceAdd, Nat.reduceSub, Nat.reduceMul, nm_bo, nm_bi, nm_rc, nm_ic, nm_ri, nm_rl, nm_rq, nm_ql, nm_qi, nm_li, nm_us, nm_uu, nm_cp, nm_sa31, nm_sa7, nm_m127, nm_m2, nm_nz, nm_nzk, nm_eq32, nm_nzf, if_true, if_false, ↓reduceIte, if_pos, if_neg]
  · have hw01 : w = 0 ∨ w = 1 := by omega
    refine ⟨nI w, ?_, ?_⟩
    · simp (disch := (first | assumption | decide | omega)) only [df_X6_told_72, df_X6_told_0, df_X6_told, f3, eq_self, Nat.reduceEqDiff, Nat.reduceLeDiff, nl_1, nl_2, nl_3, nl_5, nl_6, nl_7, nl_17, nl_33, nl_112, nl_528, no_1, no_1024, pk_mul, nI_add, nm_ck, nI_clamp, nI_ltI, nI_leI, nI_eq, nb_b2, nb_b1, ↓nb_let, nm_z0, nm_z1, nb_II, nb_IR, nb_RI, nb_RR, nm_IL, nm_IQ, nm_RL, nm_RQ, nm_LI, nm_LR, nm_LL, nm_LQ, nm_QI, nm_QR, nm_QL, nm_QQ, nm_rr, nm_ii, nm_eqm, not_false_eq_true, pk_sub, nm_div, nm_shl, nm_shr, nm_ush, nm_or8, nm_or64, nm_or256, nm_m1, nm_m3, nm_m7, nm_m15, nm_m31, nm_m63, nm_m255, nm_m511, nm_m1023, nm_m2047, nm_m65535, Nat.reduceMod, Nat.reducePow, Nat.reduceAdd, Nat.reduceSub, Nat.reduceMul, nm_bo, nm_bi, nm_rc, nm_ic, nm_ri, nm_rl, nm_rq, nm_ql, nm_qi, nm_li, nm_us, nm_uu, nm_cp, nm_sa31, nm_sa7, nm_m127, nm_m2, nm_nz, nm_nzk, nm_eq32, nm_nzf, if_true, if_false, ↓reduceIte, if_pos, if_neg]
    · rcases hw01 with rfl | rfl
      · simp (disch := (first | assumption | decide | omega)) only [df_X16_process_20, df_X16_process_142, df_X16_process_164, df_X16_process_57, df_X16_process_0, df_X16_process, f4, eq_self, Nat.reduceEqDiff, Nat.reduceLeDiff, nl_0, nl_1, nl_7, nl_15, no_1, no_1024, pk_mul, nI_add, nm_ck, nI_clamp, nI_ltI, nI_leI, nI_eq, nb_b2, nb_b1, ↓nb_let, nm_z0, nm_z1, nb_II, nb_IR, nb_RI, nb_RR, nm_IL, nm_IQ, nm_RL, nm_RQ, nm_LI, nm_LR, nm_LL, nm_LQ, nm_QI, nm_QR, nm_QL, nm_QQ, nm_rr, nm_ii, nm_eqm, not_false_eq_true, pk_sub, nm_div, nm_shl, nm_shr, nm_ush, nm_or8, nm_or64, nm_or256, nm_m1, nm_m3, nm_m7, nm_m15, nm_m31, nm_m63, nm_m255, nm_m511, nm_m1023, nm_m2047, nm_m65535, Nat.reduceMod, Nat.reducePow, Nat.reduceAdd, Nat.reduceSub, Nat.reduceMul, nm_bo, nm_bi, nm_rc, nm_ic, nm_ri, nm_rl, nm_rq, nm_ql, nm_qi, nm_li, nm_us, nm_uu, nm_cp, nm_sa31, nm_sa7, nm_m127, nm_m2, nm_nz, nm_nzk, nm_eq32, nm_nzf, if_true, if_false, ↓reduceIte, if_pos, if_neg]
      · simp (disch := (first | assumption | decide | omega)) only [df_X16_process_20, df_X16_process_142, df_X16_process_164, df_X16_process_57, df_X16_process_0, df_X16_process, f4, eq_self, Nat.reduceEqDiff, Nat.reduceLeDiff, nl_0, nl_1, nl_7, nl_15, no_1, no_1024, pk_mul, nI_add, nm_ck, nI_clamp, nI_ltI, nI_leI, nI_eq, nb_b2, nb_b1, ↓nb_let, nm_z0, nm_z1, nb_II, nb_IR, nb_RI, nb_RR, nm_IL, nm_IQ, nm_RL, nm_RQ, nm_LI, nm_LR, nm_LL, nm_LQ, nm_QI, nm_QR, nm_QL, nm_QQ, nm_rr, nm_ii, nm_eqm, not_false_eq_true, pk_sub, nm_div, nm_shl, nm_shr, nm_ush, nm_or8, nm_or64, nm_or256, nm_m1, nm_m3, nm_m7, nm_m15, nm_m31, nm_m63, nm_m255, nm_m511, nm_m1023, nm_m2047, nm_m65535, Nat.reduceMod, Nat.reducePow, Nat.reduceAdd, Nat.reduceSub, Nat.reduceMul, nm_bo, nm_bi, nm_rc, nm_ic, nm_ri, nm_rl, nm_rq, nm_ql, nm_qi, nm_li, nm_us, nm_uu, nm_cp, nm_sa31, nm_sa7, nm_m127, nm_m2, nm_nz, nm_nzk, nm_eq32, nm_nzf, if_true, if_false, ↓reduceIte, if_pos, if_neg]
  · refine ⟨nI (cN (pgB X p) 64), ?_, ?_⟩
    · simp (disch := (first | assumption | decide | omega)) only [df_X6_told_72, df_X6_told_0, df_X6_told, g1, eq_self, Nat.reduceEqDiff, Nat.reduceLeDiff, nl_1, nl_2, nl_3, nl_5, nl_6, nl_7, nl_17, nl_33, nl_112, nl_528, no_1, no_1024, pk_mul, nI_add, nm_ck, nI_clamp, nI_ltI, nI_leI, nI_eq, nb_b2, nb_b1, ↓nb_let, nm_z0, nm_z1, nb_II, nb_IR, nb_RI, nb_RR, nm_IL, nm_IQ, nm_RL, nm_RQ, nm_LI, nm_LR, nm_LL, nm_LQ, nm_QI, nm_QR, nm_QL, nm_QQ, nm_rr, nm_ii, nm_eqm, not_false_eq_true, pk_sub, nm_div, nm_shl, nm_shr, nm_ush, nm_or8, nm_or64, nm_or256, nm_m1, nm_m3, nm_m7, nm_m15, nm_m31, nm_m63, nm_m255, nm_m511, nm_m1023, nm_m2047, nm_m65535, Nat.reduceMod, Nat.reducePow, Nat.reduceAdd, Nat.reduceSub, Nat.reduceMul, nm_bo, nm_bi, nm_rc, nm_ic, nm_ri, nm_rl, nm_rq, nm_ql, nm_qi, nm_li, nm_us, nm_uu, nm_cp, nm_sa31, nm_sa7, nm_m127, nm_m2, nm_nz, nm_nzk, nm_eq32, nm_nzf, if_true, if_false, ↓reduceIte, if_pos, if_neg]
    · simp (disch := (first | assumption | decide | omega)) only [df_X16_process_20, df_X16_process_142, df_X16_process_164, df_X16_process_57, df_X16_process_0, df_X16_process, g1, eq_self, Nat.reduceEqDiff, Nat.reduceLeDiff, nl_0, nl_1, nl_7, nl_15, no_1, no_1024, pk_mul, nI_add, nm_ck, nI_clamp, nI_ltI, nI_leI, nI_eq, nb_b2, nb_b1, ↓nb_let, nm_z0, nm_z1, nb_II, nb_IR, nb_RI, nb_RR, nm_IL, nm_IQ, nm_RL, nm_RQ, nm_LI, nm_LR, nm_LL, nm_LQ, nm_QI, nm_QR, nm_QL, nm_QQ, nm_rr, nm_ii, nm_eqm, not_false_eq_true, pk_sub, nm_div, nm_shl, nm_shr, nm_ush, nm_or8, nm_or64, nm_or256, nm_m1, nm_m3, nm_m7, nm_m15, nm_m31, nm_m63, nm_m255, nm_m511, nm_m1023, nm_m2047, nm_m65535, Nat.reduceMod, Nat.reducePow, Nat.reduceAdd, Nat.reduceSub, Nat.reduceMul, nm_bo, nm_bi, nm_rc, nm_ic, nm_ri, nm_rl, nm_rq, nm_ql, nm_qi, nm_li, nm_us, nm_uu, nm_cp, nm_sa31, nm_sa7, nm_m127, nm_m2, nm_nz, nm_nzk, nm_eq32, nm_nzf, if_true, if_false, ↓reduceIte, if_pos, if_neg]
  · refine ⟨nI e, ?_, ?_⟩
    · simp (disch := (first | assumption | decide | omega)) only [df_X6_told_72, df_X6_told_0, df_X6_told, f7, eq_self, Nat.reduceEqDiff, Nat.reduceLeDiff, nl_1, nl_2, nl_3, nl_5, nl_6, nl_7, nl_17, nl_33, nl_112, nl_528, no_1, no_1024, pk_mul, nI_add, nm_ck, nI_clamp, nI_ltI, nI_leI, nI_eq, nb_b2, nb_b1, ↓nb_let, nm_z0, nm_z1, nb_II, nb_IR, nb_RI, nb_RR, nm_IL, nm_IQ, nm_RL, nm_RQ, nm_LI, nm_LR, nm_LL, nm_LQ, nm_QI, nm_QR, nm_QL, nm_QQ, nm_rr, nm_ii, nm_eqm, not_false_eq_true, pk_sub, nm_div, nm_shl, nm_shr, nm_ush, nm_or8, nm_or64, nm_or256, nm_m1, nm_m3, nm_m7, nm_m15, nm_m31, nm_m63, nm_m255, nm_m511, nm_m1023, nm_m2047, nm_m65535, Nat.reduceMod, Nat.reducePow, Nat.reduceAdd, Nat.reduceSub, Nat.reduceMul, nm_bo, nm_bi, nm_rc, nm_ic, nm_ri, nm_rl, nm_rq, nm_ql, nm_qi, nm_li, nm_us, nm_uu, nm_cp, nm_sa31, nm_sa7, nm_m127, nm_m2, nm_nz, nm_nzk, nm_eq32, nm_nzf, if_true, if_false, ↓reduceIte, if_pos, if_neg]
    · simp (disch := (first | assumption | decide | omega)) only [df_X16_process_20, df_X16_process_142, df_X16_process_164, df_X16_process_57, df_X16_process_0, df_X16_process, f8, eq_self, Nat.reduceEqDiff, Nat.reduceLeDiff, nl_0, nl_1, nl_7, nl_15, no_1, no_1024, pk_mul, nI_add, nm_ck, nI_clamp, nI_ltI, nI_leI, nI_eq, nb_b2, nb_b1, ↓nb_let, nm_z0, nm_z1, nb_II, nb_IR, nb_RI, nb_RR, nm_IL, nm_IQ, nm_RL, nm_RQ, nm_LI, nm_LR, nm_LL, nm_LQ, nm_QI, nm_QR, nm_QL, nm_QQ, nm_rr, nm_ii, nm_eqm, not_false_eq_true, pk_sub, nm_div, nm_shl, nm_shr, nm_ush, nm_or8, nm_or64, nm_or256, nm_m1, nm_m3, nm_m7, nm_m15, nm_m31, nm_m63, nm_m255, nm_m511, nm_m1023, nm_m2047, nm_m65535, Nat.reduceMod, Nat.reducePow, Nat.reduceAdd, Nat.reduceSub, Nat.reduceMul, nm_bo, nm_bi, nm_rc, nm_ic, nm_ri, nm_rl, nm_rq, nm_ql, nm_qi, nm_li, nm_us, nm_uu, nm_cp, nm_sa31, nm_sa7, nm_m127, nm_m2, nm_nz, nm_nzk, nm_eq32, nm_nzf, if_true, if_false, ↓reduceIte, if_pos, if_neg]
  · by_cases t2 : t = 2
    · have hwx := hw t2
      obtain ⟨r1, r2⟩ := hr (by omega)
      have v7 : p * 33 + 17 < 528 := by omega
      have r17 := r1 17 (by omega)
      subst t2
      refine ⟨sR X.1 9 (32 * p + 17), ?_, ?_⟩
      · simp (disch := (first | assumption | decide | omega)) only [df_X6_told_72, df_X6_told_0, df_X6_told, df_X6_status_0, df_X6_status, e1, Nat.add_zero, r17, eq_self, Nat.reduceEqDiff, Nat.reduceLeDiff, nl_0, nl_1, nl_2, nl_3, nl_5, nl_6, nl_7, nl_17, nl_33, nl_112, nl_528, no_1, no_1024, pk_mul, nI_add, nm_ck, nI_clamp, nI_ltI, nI_leI, nI_eq, nb_b2, nb_b1, ↓nb_let, nm_z0, nm_z1, nb_II, nb_IR, nb_RI, nb_RR, nm_IL, nm_IQ, nm_RL, nm_RQ, nm_LI, nm_LR, nm_LL, nm_LQ, nm_QI, nm_QR, nm_QL, nm_QQ, nm_rr, nm_ii, nm_eqm, not_false_eq_true, pk_sub, nm_div, nm_shl, nm_shr, nm_ush, nm_or8, nm_or64, nm_or256, nm_m1, nm_m3, nm_m7, nm_m15, nm_m31, nm_m63, nm_m255, nm_m511, nm_m1023, nm_m2047, nm_m65535, Nat.reduceMod, Nat.reducePow, Nat.reduceAdd, Nat.reduceSub, Nat.reduceMul, nm_bo, nm_bi, nm_rc, nm_ic, nm_ri, nm_rl, nm_rq, nm_ql, nm_qi, nm_li, nm_us, nm_uu, nm_cp, nm_sa31, nm_sa7, nm_m127, nm_m2, nm_nz, nm_nzk, nm_eq32, nm_nzf, if_true, if_false, ↓reduceIte, if_pos, if_neg]
      · rw [← hwx.1]
        simp (disch := (first | assumption | decide | omega)) only [df_X16_process_20, df_X16_process_142, df_X16_process_164, df_X16_process_57, df_X16_process_0, df_X16_process, e2, eq_self, Nat.reduceEqDiff, Nat.reduceLeDiff, nl_0, nl_1, nl_7, nl_15, no_1, no_1024, pk_mul, nI_add, nm_ck, nI_clamp, nI_ltI, nI_leI, nI_eq, nb_b2, nb_b1, ↓nb_let, nm_z0, nm_z1, nb_II, nb_IR, nb_RI, nb_RR, nm_IL, nm_IQ, nm_RL, nm_RQ, nm_LI, nm_LR, nm_LL, nm_LQ, nm_QI, nm_QR, nm_QL, nm_QQ, nm_rr, nm_ii, nm_eqm, not_false_eq_true, pk_sub, nm_div, nm_shl, nm_shr, nm_ush, nm_or8, nm_or64, nm_or256, nm_m1, nm_m3, nm_m7, nm_m15, nm_m31, nm_m63, nm_m255, nm_m511, nm_m1023, nm_m2047, nm_m65535, Nat.reduceMod, Nat.reducePow, Nat.reduceAdd, Nat.reduceSub, Nat.reduceMul, nm_bo, nm_bi, nm_rc, nm_ic, nm_ri, nm_rl, nm_rq, nm_ql, nm_qi, nm_li, nm_us, nm_uu, nm_cp, nm_sa31, nm_sa7, nm_m127, nm_m2, nm_nz, nm_nzk, nm_eq32, nm_nzf, if_true, if_false, ↓reduceIte, if_pos, if_neg]
    · have k3 : ¬ nI t = nI 2 := fun z => by rw [nI_eq u3 (by omega)] at z; exact t2 z
      have hw2 := hw2 t2
      refine ⟨-nI 1, ?_, ?_⟩
      · simp (disch := (first | assumption | decide | omega)) only [df_X6_told_72, df_X6_told_0, df_X6_told, df_X6_status_0, df_X6_status, e1, Nat.add_zero, k3, eq_self, Nat.reduceEqDiff, Nat.reduceLeDiff, nl_0, nl_1, nl_2, nl_3, nl_5, nl_6, nl_7, nl_17, nl_33, nl_112, nl_528, no_1, no_1024, pk_mul, nI_add, nm_ck, nI_clamp, nI_ltI, nI_leI, nI_eq, nb_b2, nb_b1, ↓nb_let, nm_z0, nm_z1, nb_II, nb_IR, nb_RI, nb_RR, nm_IL, nm_IQ, nm_RL, nm_RQ, nm_LI, nm_LR, nm_LL, nm_LQ, nm_QI, nm_QR, nm_QL, nm_QQ, nm_rr, nm_ii, nm_eqm, not_false_eq_true, pk_sub, nm_div, nm_shl, nm_shr, nm_ush, nm_or8, nm_or64, nm_or256, nm_m1, nm_m3, nm_m7, nm_m15, nm_m31, nm_m63, nm_m255, nm_m511, nm_m1023, nm_m2047, nm_m65535, Nat.reduceMod, Nat.reducePow, Nat.reduceAdd, Nat.reduceSub, Nat.reduceMul, nm_bo, nm_bi, nm_rc, nm_ic, nm_ri, nm_rl, nm_rq, nm_ql, nm_qi, nm_li, nm_us, nm_uu, nm_cp, nm_sa31, nm_sa7, nm_m127, nm_m2, nm_nz, nm_nzk, nm_eq32, nm_nzf, if_true, if_false, ↓reduceIte, if_pos, if_neg]
      · rw [← hw2]
        simp (disch := (first | assumption | decide | omega)) only [df_X16_process_20, df_X16_process_142, df_X16_process_164, df_X16_process_57, df_X16_process_0, df_X16_process, e2, eq_self, Nat.reduceEqDiff, Nat.reduceLeDiff, nl_0, nl_1, nl_7, nl_15, no_1, no_1024, pk_mul, nI_add, nm_ck, nI_clamp, nI_ltI, nI_leI, nI_eq, nb_b2, nb_b1, ↓nb_let, nm_z0, nm_z1, nb_II, nb_IR, nb_RI, nb_RR, nm_IL, nm_IQ, nm_RL, nm_RQ, nm_LI, nm_LR, nm_LL, nm_LQ, nm_QI, nm_QR, nm_QL, nm_QQ, nm_rr, nm_ii, nm_eqm, not_false_eq_true, pk_sub, nm_div, nm_shl, nm_shr, nm_ush, nm_or8, nm_or64, nm_or256, nm_m1, nm_m3, nm_m7, nm_m15, nm_m31, nm_m63, nm_m255, nm_m511, nm_m1023, nm_m2047, nm_m65535, Nat.reduceMod, Nat.reducePow, Nat.reduceAdd, Nat.reduceSub, Nat.reduceMul, nm_bo, nm_bi, nm_rc, nm_ic, nm_ri, nm_rl, nm_rq, nm_ql, nm_qi, nm_li, nm_us, nm_uu, nm_cp, nm_sa31, nm_sa7, nm_m127, nm_m2, nm_nz, nm_nzk, nm_eq32, nm_nzf, if_true, if_false, ↓reduceIte, if_pos, if_neg]
/-- process -/
theorem jc_process (n T L : Nat) (hn : 70000 < n) (p w : Int32) (σ : S12) (τ : S19) (h : jA n (tl σ) τ) : ∃ (v : Int32) (τ' : S19), df_X12_process n T L p w σ = some (v, σ) ∧ df_X19_process n p w τ = some (v, τ') ∧ jA n (tl σ) τ' ∧ kR τ τ' := by
  have n1 : ¬ nI 1 = (0 : Int32) := by decide
  have n0 : nI 0 = (0 : Int32) := rfl
  obtain ⟨P, hP, rfl⟩ := nI_ex p
  obtain ⟨W, hW, rfl⟩ := nI_ex w
  have i6 : df_X19_in n (nI W).toInt64 0 6 () = some (if W ≤ 6 then nI 1 else nI 0, ()) := in_b n (b := 6) hW (by omega) rfl
  have i15 : df_X19_in n (nI P).toInt64 0 15 () = some (if P ≤ 15 then nI 1 else nI 0, ()) := in_b n (b := 15) hP (by omega) rfl
  -- the machine isn't asked
  have no31 : ∀ s : S19, df_X19_process_31 n (nI W) s = some (if W = 1 ∨ ¬ W ≤ 6 then -1 else 0, s) := fun s => by
    unfold df_X19_process_31 df_X19_process_48 df_X19_process_53
    by_cases w1 : W = 1
    · rw [w1, if_pos (show nI 1 = (1 : Int32) from rfl), if_pos (Or.inl rfl)]
    · rw [if_neg (show ¬ nI W = (1 : Int32) from fun z => by
        have z : nI W = nI 1 := z
        by_cases y : W < 2 ^ 31
        · rw [nI_eq y (by omega)] at z; exact w1 z
        · have := nm_neg (by omega) hW
          rw [z] at this
          exact absurd this (by decide)), i6, nb_b2]
      by_cases w6 : W ≤ 6
      · rw [if_pos w6, if_neg n1, if_neg (fun z => z.elim w1 (fun y => y w6))]
      · rw [if_neg w6, if_pos n0, if_pos (Or.inr w6)]
  have noC : (df_X12_isThere n T L (nI P) σ = some (0, σ)) → df_X12_process n T L (nI P) (nI W) σ = some (if W = 1 ∨ ¬ W ≤ 6 then -1 else 0, σ) := fun e => by
    unfold df_X12_process df_X12_process_0 df_X12_process_10 df_X12_process_31 df_X12_process_36
    by_cases w7 : W ≤ 7
    · obtain ⟨a1, a2⟩ := rg_a hW (k := 7) (by omega) w7
      rw [if_neg a1, if_pos (show nI W ≤ (7 : Int32) from (show nI W ≤ nI 7 by rw [nI_leI (by omega) (by omega)]; exact w7)), e, nb_b2, if_pos rfl]
      by_cases w1 : W = 1
      · rw [w1, if_pos (show nI 1 = (1 : Int32) from rfl), if_pos (Or.inl rfl)]
      · rw [if_neg (show ¬ nI W = (1 : Int32) from fun z => by have z : nI W = nI 1 := z; rw [nI_eq (by omega) (by omega)] at z; exact w1 z)]
        by_cases w7 : W = 7
        · rw [w7, if_pos (show nI 7 = (7 : Int32) from rfl), if_pos (Or.inr (by omega))]
        · rw [if_neg (show ¬ nI W = (7 : Int32) from fun z => by have z : nI W = nI 7 := z; rw [nI_eq (by omega) (by omega)] at z; exact w7 z), if_neg (by omega)]
    · rw [if_pos (show W = 1 ∨ ¬ W ≤ 6 from Or.inr (by omega))]
      rcases rg_e hW (k := 7) (by omega) w7 with b | ⟨b1, b2⟩
      · rw [if_pos b]
      · rw [if_neg b1, if_neg (show ¬ nI W ≤ (7 : Int32) from b2)]
  rcases jc_shows n hn h with ⟨h1, h2, h3⟩ | ⟨vn, Q, V, N, T', e, c, lo, τ', h1, h2, h3, h4, h5, h6, h7, h8⟩
  · refine ⟨_, (pI τ.1 0 0, τ.2), noC (it_0 n T L h1 _), ?_, jA_0 h 0, kR_0 τ 0⟩
    unfold df_X19_process df_X19_process_0
    rw [h2, nb_b2, if_pos n0, no31]
  · by_cases y : P < 16
    · by_cases w7 : W ≤ 7
      · obtain ⟨v, e1, e2⟩ := sg_told n (by omega) h5 y w7
        refine ⟨v, τ', ?_, ?_, h8, h7⟩
        · obtain ⟨a1, a2⟩ := rg_a hW (k := 7) (by omega) w7
          have e1 : df_X6_told n (nI P) (nI W) σ.2.2.2.2.2.1.2.2 = some (v, σ.2.2.2.2.2.1.2.2) := e1
          unfold df_X12_process df_X12_process_0
          rw [if_neg a1, if_pos (show nI W ≤ (7 : Int32) from (show nI W ≤ nI 7 by rw [nI_leI (by omega) (by omega)]; exact w7)), it_1 n T L h1 hP, nb_b2, if_pos y, if_neg n1, e1, nb_b2, nb_let]
        · unfold df_X19_process df_X19_process_0 df_X19_process_53
          rw [h2, nb_b2, if_neg n1, i15, nb_b2, if_pos (show P ≤ 15 by omega), if_neg n1, e2, nb_b2, nb_let]
      · refine ⟨-1, τ', ?_, ?_, h8, h7⟩
        · unfold df_X12_process df_X12_process_0 df_X12_process_10
          rcases rg_e hW (k := 7) (by omega) w7 with b | ⟨b1, b2⟩
          · rw [if_pos b]
          · rw [if_neg b1, if_neg (show ¬ nI W ≤ (7 : Int32) from b2)]
        · unfold df_X19_process df_X19_process_0 df_X19_process_53
          have e2 : df_X16_process n (nI P) (nI W) τ'.2.2.1.2 = some (-1, τ'.2.2.1.2) := by
            unfold df_X16_process df_X16_process_0 df_X16_process_20
            obtain ⟨a1, a2⟩ := rg_a hP (k := 15) (by omega) (by omega)
            rw [if_neg a1, if_neg (show ¬ (15 : Int32) < nI P from a2)]
            rcases rg_e hW (k := 7) (by omega) w7 with b | ⟨b1, b2⟩
            · rw [if_pos b]
            · rw [if_neg b1, if_neg (show ¬ nI W ≤ (7 : Int32) from b2)]
          rw [h2, nb_b2, if_neg n1, i15, nb_b2, if_pos (show P ≤ 15 by omega), if_neg n1, e2, nb_b2, nb_let]
    · refine ⟨_, τ', noC ?_, ?_, h8, h7⟩
      · rw [it_1 n T L h1 hP, if_neg y]
        rfl
      · unfold df_X19_process df_X19_process_0
        rw [h2, nb_b2, if_neg n1, i15, nb_b2, if_neg (show ¬ P ≤ 15 by omega), if_pos n0, no31]
theorem rK_e {M X : St × St} (h : rK M X) : rme M X := fun p k hp hk => by
  rcases h.1 (64 * p + k) (by omega) with a | ⟨f, r, f1, f2, f3, f4, f5, f6, f7⟩
  · exact Or.inl a
  · refine Or.inr ⟨f, r, f1, f2, f3, f4, f5, by rw [f6, show f * 8 = 8 * f by omega], fun j hj => ?_⟩
    rw [show 256 * f + j = f * 256 + j by omega, show 16384 * p + 256 * k + j = (64 * p + k) * 256 + j by omega]
    exact f7 j hj
/-- peek -/
theorem jc_peek (n T L : Nat) (hn : 70000 < n) (p a : Int32) (σ : S12) (τ : S19) (h : jA n (tl σ) τ) : ∃ (v : Int32) (τ' : S19), df_X12_peek n T L p a σ = some (v, σ) ∧ df_X19_peek n p a τ = some (v, τ') ∧ jA n (tl σ) τ' ∧ kR τ τ' := by
  have n1 : ¬ nI 1 = (0 : Int32) := by decide
  have n1' : ¬ (1 : Int32) = 0 := by decide
  have n0 : nI 0 = (0 : Int32) := rfl
  obtain ⟨P, hP, rfl⟩ := nI_ex p
  obtain ⟨A, hA, rfl⟩ := nI_ex a
  have i15 : df_X19_in n (nI P).toInt64 0 15 () = some (if P ≤ 15 then nI 1 else nI 0, ()) := in_b n (b := 15) hP (by omega) rfl
  rcases jc_shows n hn h with ⟨h1, h2, h3⟩ | ⟨vn, Q, V, N, T', e, c, lo, τ', h1, h2, h3, h4, h5, h6, h7, h8⟩
  · refine ⟨-1, (pI τ.1 0 0, τ.2), ?_, ?_, jA_0 h 0, kR_0 τ 0⟩
    · unfold df_X12_peek df_X12_peek_0 df_X12_peek_36 df_X12_peek_37
      rw [it_0 n T L h1, nb_b2, if_pos rfl]
    · unfold df_X19_peek df_X19_peek_0 df_X19_peek_31 df_X19_peek_32
      rw [h2, nb_b2, if_pos n0]
  · by_cases y : P < 16
    · have key : (df_X6_may n (nI P) (nI A) 7 (tl σ).2.2.1.2.2 = some (0, (tl σ).2.2.1.2.2) ∧ df_X16_peek n (nI P) (nI A) τ'.2.2.1.2 = some (-1, τ'.2.2.1.2)) ∨ ∃ v : Int32, df_X6_may n (nI P) (nI A) 7 (tl σ).2.2.1.2.2 = some (1, (tl σ).2.2.1.2.2) ∧ df_X6_byteAt n (nI P) (nI A) (tl σ).2.2.1.2.2 = some (v, (tl σ).2.2.1.2.2) ∧ df_X16_peek n (nI P) (nI A) τ'.2.2.1.2 = some (v, τ'.2.2.1.2) := by
        by_cases z : A < 65536
        · exact nb_peekIn n y z _ _ (rK_e h5.1)
        · have m7 := (nk_may n h5.1 y hA (q := 7) (by omega)).1
          have mf : ma τ'.2.2.1.2 P A 7 = false := by
            cases q : ma τ'.2.2.1.2 P A 7 with
            | false => rfl
            | true => exact absurd (ma_ex h5.1 y q).1 z
          rw [mf] at m7
          refine Or.inl ⟨m7, ?_⟩
          unfold df_X16_peek df_X16_peek_0 df_X16_isThere df_X16_isThere_0 df_X16_isThere_33 df_X16_isThere_34
          rcases rg_d hA (k := 65536) (by omega) z with b | ⟨b1, b2⟩
          · rw [if_pos b, nz_0, nb_b2, if_pos rfl]
            rfl
          · rw [if_neg b1, if_pos (show (65536 : Int32) ≤ nI A from b2), nz_0, nb_b2, if_pos rfl]
            rfl
      rcases key with ⟨k1, k2⟩ | ⟨v, k1, k2, k3⟩
      · refine ⟨-1, τ', ?_, ?_, h8, h7⟩
        · have k1 : df_X6_may n (nI P) (nI A) 7 σ.2.2.2.2.2.1.2.2 = some (0, σ.2.2.2.2.2.1.2.2) := k1
          unfold df_X12_peek df_X12_peek_0 df_X12_peek_36 df_X12_peek_37
          rw [it_1 n T L h1 hP, nb_b2, if_pos y, if_neg n1, k1, nb_b2, nb_let, if_pos rfl]
        · unfold df_X19_peek df_X19_peek_0 df_X19_peek_32
          rw [h2, nb_b2, if_neg n1, i15, nb_b2, if_pos (show P ≤ 15 by omega), if_neg n1, k2, nb_b2, nb_let]
      · refine ⟨v, τ', ?_, ?_, h8, h7⟩
        · have k1 : df_X6_may n (nI P) (nI A) 7 σ.2.2.2.2.2.1.2.2 = some (1, σ.2.2.2.2.2.1.2.2) := k1
          have k2 : df_X6_byteAt n (nI P) (nI A) σ.2.2.2.2.2.1.2.2 = some (v, σ.2.2.2.2.2.1.2.2) := k2
          unfold df_X12_peek df_X12_peek_0 df_X12_peek_37
          rw [it_1 n T L h1 hP, nb_b2, if_pos y, if_neg n1, k1, nb_b2, nb_let, if_neg n1']
          dsimp only
          rw [k2, nb_b2, nb_let]
        · unfold df_X19_peek df_X19_peek_0 df_X19_peek_32
          rw [h2, nb_b2, if_neg n1, i15, nb_b2, if_pos (show P ≤ 15 by omega), if_neg n1, k3, nb_b2, nb_let]
    · refine ⟨-1, τ', ?_, ?_, h8, h7⟩
      · unfold df_X12_peek df_X12_peek_0 df_X12_peek_36 df_X12_peek_37
        rw [it_1 n T L h1 hP, nb_b2, if_neg y, if_pos n0]
      · unfold df_X19_peek df_X19_peek_0 df_X19_peek_31 df_X19_peek_32
        rw [h2, nb_b2, if_neg n1, i15, nb_b2, if_neg (show ¬ P ≤ 15 by omega), if_pos n0]
