/-- behind an operand -/
theorem ordT20 : ∀ l : List Nat, ordT 20 l := fun l => by
  match l with
  | [] => exact True.intro
  | o :: _ =>
    show 22 ≤ o ∨ (19 ≤ o ∧ 19 ≤ 20) ∨ (o ≤ 18 ∧ (19 ≤ 20 ∨ rk o < rk 20))
    by_cases h : o ≤ 18
    · exact Or.inr (Or.inr ⟨h, Or.inl (by omega)⟩)
    · exact Or.inr (Or.inl ⟨by omega, by omega⟩)
theorem pop_B (n ρ : Nat) (hρ : ρ ≤ 9) (hn : 130 < n) {l : List Nat} {L p cs ts os pt : Nat} {C : Nat → Int32} {A : Nat → Int64} {F T K P : Nat → Int32} {N : Nat → Int64} {pos : Nat → Nat} {S SA OA : Nat → Int32} (hI : iB l L p cs ts os pt C A F T K P N pos S SA OA) (B : St) (ap kd fr pt' : Nat) (nm : Int64) : ∃ (l' : List Nat) (c' t' j' σ' s' oc' ro' cs' : Nat) (d' : Dn) (C' : Nat → Int32) (A' : Nat → Int64), df_X2_popTo n (nI ρ) (mC B cs l.length os ap kd fr 0 pt' nm C S SA F T A) = some (mC B cs' l'.length os ap kd fr 0 pt' nm C' S SA F T A') ∧ frs C' A' F T K P N pos S SA OA l' c' t' j' σ' ∧ gJ d' s' oc' ro' c' cs' t' ts j' os C' A' F T K P N pos ∧ (19 ≤ oc' ∨ ρ ≤ rk oc' + 1) ∧ endT ρ l' ∧ (hOb l' = true → os = j') ∧ nOp l' = nOp l ∧ tpO l' = tpO l ∧ cs' + l'.length ≤ 2 * pt ∧ l'.length ≤ pt ∧ σ' + s' ≤ pt := by
  obtain ⟨c, t, j, σ, s, d, h1, h2, h3, h4, h5, h6, h7, h8, h9, h10, h11⟩ := hI
  obtain ⟨l', c', t', j', σ', s', oc', ro', cs', d', C', A', a1, a2, a3, a4, a5, a6, a7, a8, a9, a10, a11, a12⟩ := pop_all n ρ hρ (B := B) (os := os) (ap := ap) (kd := kd) (fr := fr) (pt := pt') (nm := nm) l n cs c t j σ s 20 0 d C A (by omega) h1 h2 (ordT20 l) h3 (Or.inl (by omega)) (by omega) (by omega)
  exact ⟨l', c', t', j', σ', s', oc', ro', cs', d', C', A', a1, a2, a3, a4, a5, a6, a7, a8, by omega, by omega, by omega⟩
theorem lp_e (n Tp m k : Nat) {tpe : St} {u : St} {B : St} {cs tp os ap fr pt : Nat} {nm : Int64} {C S SA F T : Nat → Int32} {A : Nat → Int64} {cz : Nat} {D : Nat → Int32} {Z : Nat → Int64} (hk : k < 1000) (h : df_X2_popTo n (nI 0) (mC B cs tp os ap 0 fr 0 pt nm C S SA F T A) = some (mC B cz 0 os ap 0 fr 0 pt nm D S SA F T Z)) : df_X2_read_11 n Tp (m + 1) (nI 0) (nI 1) (nI (k + 1)) (tpe, mC B cs tp os ap 0 fr 0 pt nm C S SA F T A) = df_X2_read_11 n Tp m (nI 0) (nI 0) (nI k) (tpe, mC B cz 0 os ap 0 fr 0 pt nm D S SA F T Z) := by
  have w : nI (k + 1) + Int32.ofInt (-1) = nI k := m1I (by omega) (by omega)
  simp (disch := (first | assumption | decide | omega)) only [(show df_X2_read_11 n Tp (m + 1) = dF_X2_read_11 n Tp (df_X2_read_11 n Tp m) from rfl), dF_X2_read_11, df_X2_read_78, df_X2_read_72, df_X2_read_0, df_X2_read, mC_i0, mC_i1, mC_i2, mC_i5, mC_i6, mC_i7, mC_i8, mC_i9, mC_l, mC_r0, mC_r1, mC_r2, mC_r3, mC_r4, mC_q, mC_o, mC_i4, mC_wi0, mC_wi1, mC_wi2, mC_wi5, mC_wi6, mC_wi7, mC_wi8, mC_wi9, mC_wl, mC_wr0, mC_wr1, mC_wr2, mC_wr3, mC_wr4, mC_wq, h, w, eq_self, Nat.reduceEqDiff, Nat.reduceLeDiff, nl_0, nl_1, nl_6, nl_8, nl_121, no_1, no_1024, pk_mul, nI_add, nm_ck, nI_clamp, nI_ltI, nI_leI, nI_eq, nb_b2, nb_b1, ↓nb_let, nm_z0, nm_z1, nb_II, nb_IR, nb_RI, nb_RR, nm_IL, nm_IQ, nm_RL, nm_RQ, nm_LI, nm_LR, nm_LL, nm_LQ, nm_QI, nm_QR, nm_QL, nm_QQ, nm_rr, nm_ii, nm_eqm, not_false_eq_true, pk_sub, nm_div, nm_shl, nm_shr, nm_ush, nm_or8, nm_or64, nm_or256, nm_m1, nm_m3, nm_m7, nm_m15, nm_m31, nm_m63, nm_m255, nm_m511, nm_m1023, nm_m2047, nm_m65535, Nat.reduceMod, Nat.reducePow, Nat.reduceAdd, Nat.reduceSub, Nat.reduceMul, nm_bo, nm_bi, nm_rc, nm_ic, nm_ri, nm_rl, nm_rq, nm_ql, nm_qi, nm_li, nm_us, nm_uu, nm_cp, nm_sa31, nm_sa7, nm_m127, nm_m2, nm_nz, nm_nzk, nm_eq32, nm_nzf, if_true, if_false, ↓reduceIte, if_pos, if_neg]
theorem lp_e1 (n Tp m k kk : Nat) {tpe : St} {B : St} {cs tp os ap fr pt : Nat} {nm : Int64} {C S SA F T : Nat → Int32} {A : Nat → Int64} {cz : Nat} {D : Nat → Int32} {Z : Nat → Int64} (hk : k < 1000) (hkk : kk < 100) (h : df_X2_popTo n (nI 0) (mC B cs tp os ap 0 fr 0 pt nm C S SA F T A) = some (mC B cz (kk + 1) os ap 0 fr 0 pt nm D S SA F T Z)) : df_X2_read_11 n Tp (m + 1) (nI 0) (nI 1) (nI (k + 1)) (tpe, mC B cs tp os ap 0 fr 0 pt nm C S SA F T A) = df_X2_read_11 n Tp m (nI 0) (nI 0) (nI k) (tpe, mC B cz (kk + 1) os ap 0 fr (1 + 8 * fr) pt nm D S SA F T Z) := by
  have w : nI (k + 1) + Int32.ofInt (-1) = nI k := m1I (by omega) (by omega)
  have e := bl_1 n 1 (B := B) (cs := cz) (tp := kk + 1) (os := os) (ap := ap) (kd := 0) (fr := fr) (pt := pt) (nm := nm) (C := D) (S := S) (SA := SA) (F := F) (T := T) (A := Z)
  simp (disch := (first | assumption | decide | omega)) only [(show df_X2_read_11 n Tp (m + 1) = dF_X2_read_11 n Tp (df_X2_read_11 n Tp m) from rfl), dF_X2_read_11, df_X2_read_78, df_X2_read_72, df_X2_read_0, df_X2_read, mC_i0, mC_i1, mC_i2, mC_i5, mC_i6, mC_i7, mC_i8, mC_i9, mC_l, mC_r0, mC_r1, mC_r2, mC_r3, mC_r4, mC_q, mC_o, mC_i4, mC_wi0, mC_wi1, mC_wi2, mC_wi5, mC_wi6, mC_wi7, mC_wi8, mC_wi9, mC_wl, mC_wr0, mC_wr1, mC_wr2, mC_wr3, mC_wr4, mC_wq, h, w, e, eq_self, Nat.reduceEqDiff, Nat.reduceLeDiff, nl_0, nl_1, nl_6, nl_8, nl_121, no_1, no_1024, pk_mul, nI_add, nm_ck, nI_clamp, nI_ltI, nI_leI, nI_eq, nb_b2, nb_b1, ↓nb_let, nm_z0, nm_z1, nb_II, nb_IR, nb_RI, nb_RR, nm_IL, nm_IQ, nm_RL, nm_RQ, nm_LI, nm_LR, nm_LL, nm_LQ, nm_QI, nm_QR, nm_QL, nm_QQ, nm_rr, nm_ii, nm_eqm, not_false_eq_true, pk_sub, nm_div, nm_shl, nm_shr, nm_ush, nm_or8, nm_or64, nm_or256, nm_m1, nm_m3, nm_m7, nm_m15, nm_m31, nm_m63, nm_m255, nm_m511, nm_m1023, nm_m2047, nm_m65535, Nat.reduceMod, Nat.reducePow, Nat.reduceAdd, Nat.reduceSub, Nat.reduceMul, nm_bo, nm_bi, nm_rc, nm_ic, nm_ri, nm_rl, nm_rq, nm_ql, nm_qi, nm_li, nm_us, nm_uu, nm_cp, nm_sa31, nm_sa7, nm_m127, nm_m2, nm_nz, nm_nzk, nm_eq32, nm_nzf, if_true, if_false, ↓reduceIte, if_pos, if_neg]
theorem lp_z (n Tp m : Nat) (x1 x3 : Int32) (u : St × St) : df_X2_read_11 n Tp (m + 1) x1 (nI 0) x3 u = some u := by
  show dF_X2_read_11 n Tp (df_X2_read_11 n Tp m) x1 (nI 0) x3 u = _
  unfold dF_X2_read_11 df_X2_read_78
  split
  · rfl
  · exact if_pos rfl
theorem goB_n {n Tp L : Nat} {z : Nat → Nat} {tpe BC BR : St} {X : St × St} {g : Nat} (hT : txt n Tp L z tpe BC BR) {p q p' k m m2 pt os cs ts : Nat} {l : List Nat} {x w : Int64} {C : Nat → Int32} {A : Nat → Int64} {F T K P : Nat → Int32} {N : Nat → Int64} {pos : Nat → Nat} {S SA OA : Nat → Int32} (hI : iB l L p cs ts os pt C A F T K P N pos S SA OA) (hg : L - p < g + 1) (hk : L - p < k + 1) (hk2 : k + 1 ≤ 121) (hm : k + 1 < m + 2) (hm2 : L - p < m2 + 1) (pq : p ≤ q) (qp : q < p') (pL : p' ≤ L) {τ tk st : Nat} {tv : Int64} (hq : q = qS z L p) (hqL : q < L) (h32 : ¬ z q = 32) (hR : df_X15_scan n (mR BR q tk st ts (nOp l) 0 tv K P OA N, X) = some (mR BR p' τ q ts (nOp l) 0 w K P OA N, X)) (hτ : τ < 100) (hne : 0 < nOp l → ¬ τ = (if tpO l ≤ 24 then 31 else 33)) : df_X15_read_24 n (m2 + 1) (nI pt) (nI 1) (mR BR p tk st ts (nOp l) 0 tv K P OA N, X) = df_X15_read_126 n (df_X15_read_24 n m2) (nI pt) (nI 1) (mR BR p' τ q ts (nOp l) 0 w K P OA N, X) := by
  obtain ⟨T1, T2, T3, T4, T5, T6, T7, T8, T9⟩ := id hT
  obtain ⟨c, t, j, σ, s, d, h1, h2, h3, h4, h5, h6, h7, h8, h9, h10, h11⟩ := hI
  have fO := (frs_O l c t j σ h1).2.2
  have k2 := h2.2.1.1
  generalize hop : nOp l = op at hR hne fO h5 ⊢
  match op with
  | 0 => exact go_1a n m2 L p q p' τ w (nI pt) T3 T4 T5 T6 T9 h11 hq.symm hqL h32 hR
  | op + 1 =>
    obtain ⟨y, f1, f2, f3, f4, f5⟩ := fO (by omega)
    rw [Nat.add_sub_cancel] at f1
    have hne := hne (by omega)
    by_cases c24 : tpO l ≤ 24
    · rw [if_pos c24] at f5 hne
      rw [go_1b n m2 L p q p' τ y 30 w (nI pt) T3 T4 T5 T6 T9 h11 hq.symm hqL h32 hR (by omega) f1 (by omega) f5 (Or.inl rfl), if_pos rfl]
      exact r119_n n 31 (nI pt) hne hτ (by omega)
    · rw [if_neg c24] at f5 hne
      rw [go_1b n m2 L p q p' τ y 32 w (nI pt) T3 T4 T5 T6 T9 h11 hq.symm hqL h32 hR (by omega) f1 (by omega) f5 (Or.inr rfl), if_neg (by omega)]
      exact r119_n n 33 (nI pt) hne hτ (by omega)
theorem goB_c {n Tp L : Nat} {z : Nat → Nat} {tpe BC BR : St} {X : St × St} {g : Nat} (hT : txt n Tp L z tpe BC BR) {p q p' k m m2 pt os cs ts : Nat} {l : List Nat} {x w : Int64} {C : Nat → Int32} {A : Nat → Int64} {F T K P : Nat → Int32} {N : Nat → Int64} {pos : Nat → Nat} {S SA OA : Nat → Int32} (hI : iB l L p cs ts os pt C A F T K P N pos S SA OA) (hg : L - p < g + 1) (hk : L - p < k + 1) (hk2 : k + 1 ≤ 121) (hm : k + 1 < m + 2) (hm2 : L - p < m2 + 1) (pq : p ≤ q) (qp : q < p') (pL : p' ≤ L) {τ tk st : Nat} {tv : Int64} (hq : q = qS z L p) (hqL : q < L) (h32 : ¬ z q = 32) (hR : df_X15_scan n (mR BR q tk st ts (nOp l) 0 tv K P OA N, X) = some (mR BR p' τ q ts (nOp l) 0 w K P OA N, X)) (h0 : 0 < nOp l) (hτ : τ = (if tpO l ≤ 24 then 31 else 33)) : df_X15_read_24 n (m2 + 1) (nI pt) (nI 1) (mR BR p tk st ts (nOp l) 0 tv K P OA N, X) = df_X15_read_262 n (df_X15_read_24 n m2) (nI pt) (nI 1) (nI 1) (nI 0) (nI 1) (mR BR p' τ q ts (nOp l) 0 w K P OA N, X) := by
  obtain ⟨T1, T2, T3, T4, T5, T6, T7, T8, T9⟩ := id hT
  obtain ⟨c, t, j, σ, s, d, h1, h2, h3, h4, h5, h6, h7, h8, h9, h10, h11⟩ := hI
  have fO := (frs_O l c t j σ h1).2.2
  have k2 := h2.2.1.1
  generalize hop : nOp l = op at hR fO h5 h0 ⊢
  match op with
  | 0 => omega
  | op + 1 =>
    obtain ⟨y, f1, f2, f3, f4, f5⟩ := fO (by omega)
    rw [Nat.add_sub_cancel] at f1
    by_cases c24 : tpO l ≤ 24
    · rw [if_pos c24] at f5 hτ
      subst hτ
      rw [go_1b n m2 L p q p' 31 y 30 w (nI pt) T3 T4 T5 T6 T9 h11 hq.symm hqL h32 hR (by omega) f1 (by omega) f5 (Or.inl rfl), if_pos rfl]
      exact r119_s n 31 (nI pt) (Or.inl rfl)
    · rw [if_neg c24] at f5 hτ
      subst hτ
      rw [go_1b n m2 L p q p' 33 y 32 w (nI pt) T3 T4 T5 T6 T9 h11 hq.symm hqL h32 hR (by omega) f1 (by omega) f5 (Or.inr rfl), if_neg (by omega)]
      exact r119_s n 33 (nI pt) (Or.inr rfl)
/-- what can't stand there -/
theorem sB_b {n Tp L : Nat} {z : Nat → Nat} {tpe BC BR : St} {X : St × St} {g : Nat} (hT : txt n Tp L z tpe BC BR) {p q p' k m m2 pt os cs ts : Nat} {l : List Nat} {x w : Int64} {C : Nat → Int32} {A : Nat → Int64} {F T K P : Nat → Int32} {N : Nat → Int64} {pos : Nat → Nat} {S SA OA : Nat → Int32} (hI : iB l L p cs ts os pt C A F T K P N pos S SA OA) (hg : L - p < g + 1) (hk : L - p < k + 1) (hk2 : k + 1 ≤ 121) (hm : k + 1 < m + 2) (hm2 : L - p < m2 + 1) (pq : p ≤ q) (qp : q < p') (pL : p' ≤ L) {τ tk st : Nat} {tv : Int64} (hq : q = qS z L p) (hqL : q < L) (h32 : ¬ z q = 32) (hR : df_X15_scan n (mR BR q tk st ts (nOp l) 0 tv K P OA N, X) = some (mR BR p' τ q ts (nOp l) 0 w K P OA N, X)) {κ : Nat} (hκ : 0 < κ) (hκ2 : κ < 100) (hτ : τ < 100) (hne : 0 < nOp l → ¬ τ = (if tpO l ≤ 24 then 31 else 33)) (hbt : ¬ (10 ≤ τ ∧ τ ≤ 27)) {cs2 tp2 pt2 : Nat} {C2 S2 SA2 F2 T2 : Nat → Int32} {A2 : Nat → Int64} {x2 : Int64} (hto : df_X2_takeOperator n Tp (tpe, mC BC cs l.length os p' κ q 0 pt x C S SA F T A) = df_X2_takeOperator_148 n Tp (nI 0) (tpe, mC BC cs2 tp2 os p' κ q (1 + 8 * q) pt2 x2 C2 S2 SA2 F2 T2 A2)) : wEnd BC BR tpe X (df_X2_read_11 n Tp (m + 2) (nI 0) (nI 1) (nI (k + 1)) (tpe, mC BC cs l.length os p' κ q 0 pt x C S SA F T A)) (df_X15_read_24 n (m2 + 1) (nI pt) (nI 1) (mR BR p tk st ts (nOp l) 0 tv K P OA N, X)) := by
  have hL := hT.2.2.2.1
  rw [goB_n (x := 0) hT hI hg hk hk2 hm hm2 pq qp pL hq hqL h32 hR hτ hne]
  obtain ⟨x5, r⟩ := r126_bn n (nI pt) (G := df_X15_read_24 n m2) (B := BR) (ap := p') (tk := τ) (st := q) (ts := ts) (op := nOp l) (ft := 0) (tv := w) (K := K) (P := P) (OA := OA) (N := N) (X := X) hbt hτ
  rw [r, r262_0 n (nI 1) (nI pt) (nI 0) x5 (by omega)]
  exact wB_f hT m k 0 hκ hκ2 hto (by omega) pL (by omega) (by omega) (by omega) rfl
/-- the end of the text -/
theorem sB_E {n Tp L : Nat} {z : Nat → Nat} {tpe BC BR : St} {X : St × St} (hT : txt n Tp L z tpe BC BR) {p k m m2 pt os cs ts tk st : Nat} {l : List Nat} {x tv : Int64} {C : Nat → Int32} {A : Nat → Int64} {F T K P : Nat → Int32} {N : Nat → Int64} {pos : Nat → Nat} {S SA OA : Nat → Int32} (hI : iB l L p cs ts os pt C A F T K P N pos S SA OA) (hk : L - p < k + 1) (hk2 : k + 1 ≤ 121) (hq : L = qS z L p) : wEnd BC BR tpe X (df_X2_read_11 n Tp (m + 2) (nI 0) (nI 1) (nI (k + 1)) (tpe, mC BC cs l.length os L 0 L 0 pt x C S SA F T A)) (df_X15_read_24 n (m2 + 1) (nI pt) (nI 1) (mR BR p tk st ts (nOp l) 0 tv K P OA N, X)) := by
  obtain ⟨T1, T2, T3, T4, T5, T6, T7, T8, T9⟩ := id hT
  obtain ⟨l', c', t', j', σ', s', oc', ro', cs', d', C', A', a1, a2, a3, a4, a5, a6, a7, a8, a9, a10, a11⟩ := pop_B n 0 (by omega) T5 hI BC L 0 L pt x
  obtain ⟨c, t, j, σ, s, d, h1, h2, h3, h4, h5, h6, h7, h8, h9, h10, h11⟩ := hI
  rw [go_E n m2 L p _ (nI 1) T3 T4 T5 T6 T9 h11 hq.symm]
  match l', a1, a2, a5, a7, a9, a10 with
  | [], a1, a2, a5, a7, a9, a10 =>
    have a7 : nOp l = 0 := a7.symm
    obtain ⟨z1, z2, z3, z4⟩ := a2
    subst z1
    subst z2
    subst z3
    rw [lp_e n Tp (m + 1) k (by omega) a1 (u := BC), lp_z, a7, r463_1]
    exact ⟨cs', 0, os, L, 0, L, 0, pt, x, C', S, SA, F, T, A', nI pt, L, tk, st, ts, 0, tv, K, P, OA, N, rfl, rfl, by decide, fun _ => ⟨d', s', oc', ro', pos, a3, by omega, by omega, by omega⟩⟩
  | o :: r, a1, a2, a5, a7, a9, a10 =>
    have o22 : 22 ≤ o := by
      rcases a5 with e | ⟨e, e2⟩
      · exact e
      · omega
    rw [nOp_o o22] at a7
    have hl1 : r.length + 1 ≤ pt := a10
    rw [lp_e1 n Tp (m + 1) k r.length (by omega) (by omega) a1, lp_z, r463_e n L 1 _ T3 (by omega) (by omega) (Or.inr (by omega))]
    exact wE_f (by omega) (by omega)
theorem sB_s {n Tp L : Nat} {z : Nat → Nat} {tpe BC BR : St} {X : St × St} {g : Nat} (hT : txt n Tp L z tpe BC BR) (ihA : wA n Tp L tpe BC BR X g) {p q p' k m m2 pt os cs ts : Nat} {l : List Nat} {x w : Int64} {C : Nat → Int32} {A : Nat → Int64} {F T K P : Nat → Int32} {N : Nat → Int64} {pos : Nat → Nat} {S SA OA : Nat → Int32} (hI : iB l L p cs ts os pt C A F T K P N pos S SA OA) (hg : L - p < g + 1) (hk : L - p < k + 1) (hk2 : k + 1 ≤ 121) (hm : k + 1 < m + 2) (hm2 : L - p < m2 + 1) (pq : p ≤ q) (qp : q < p') (pL : p' ≤ L) {s tk st : Nat} {tv : Int64} (hs1 : 1 ≤ s) (hs2 : s ≤ 18) (hc : 3 ≤ s) (hq : q = qS z L p) (hqL : q < L) (h32 : ¬ z q = 32) (hR : df_X15_scan n (mR BR q tk st ts (nOp l) 0 tv K P OA N, X) = some (mR BR p' (s + 9) q ts (nOp l) 0 w K P OA N, X)) : wEnd BC BR tpe X (df_X2_read_11 n Tp (m + 2) (nI 0) (nI 1) (nI (k + 1)) (tpe, mC BC cs l.length os p' 3 q 0 pt (nI s).toInt64 C S SA F T A)) (df_X15_read_24 n (m2 + 1) (nI pt) (nI 1) (mR BR p tk st ts (nOp l) 0 tv K P OA N, X)) := by
  have hn := hT.2.2.2.2.1
  have hL := hT.2.2.2.1
  have rb := rkC_b hs1 hs2
  have rl := rk_le s
  have i1 : pt ≤ 40 := by obtain ⟨c, t, j, σ, s, d, h1, h2, h3, h4, h5, h6, h7, h8, h9, h10, h11⟩ := hI; exact h6
  have i2 : nOp l ≤ 8 ∧ 2 * os ≤ pt ∧ ts ≤ p ∧ cs + l.length ≤ 2 * pt ∧ l.length ≤ pt := by obtain ⟨c, t, j, σ, s, d, h1, h2, h3, h4, h5, h6, h7, h8, h9, h10, h11⟩ := hI; exact ⟨h5, h9, h10, h7, h8⟩
  rw [goB_n (x := 0) hT hI hg hk hk2 hm hm2 pq qp pL hq hqL h32 hR (by omega) (fun _ => by split <;> omega), r126_b n (nI pt) (by omega) (by omega)]
  by_cases hp : pt < 40
  · obtain ⟨l', c', t', j', σ', s', oc', ro', cs', d', C', A', a1, a2, a3, a4, a5, a6, a7, a8, a9, a10, a11⟩ := pop_B n (rkC s) (by omega) hn hI BC p' 3 q (pt + 1) (nI s).toInt64
    rw [r262_t n pt (nI 1) hp (by omega) (by omega), r397 n _ (by omega) (by omega), show stT (s + 9) = 0 by unfold stT; rw [if_neg (by omega), if_neg (by omega), if_neg (by omega)]]
    have tw := tr_s n Tp s l'.length cs' (tpe := tpe) hc hs2 hp (by omega) (by omega) a1
    obtain ⟨p3, κ3, q3, x3, e⟩ := nx_e hT pL cs' (l'.length + 1) os 3 q 0 (pt + 1) (nI s).toInt64 C' (upd S l'.length (nI s)) (upd SA l'.length (nI cs')) F T A'
    rw [lp_o n Tp (m + 1) k (by omega) (by omega) (by omega) (tw.trans (t148 n Tp 1 (by omega) e))]
    have f := ihA p' k (m + 1) m2 (pt + 1) os cs' (ts + 1) (σ' + s') (s + 9) q 3 q (s :: l') (nI s).toInt64 w C' (upd S l'.length (nI s)) (upd SA l'.length (nI cs')) F T (upd K ts (nI (s + 9))) (upd P ts (-nI 1)) OA A' (vp_updL N ts w) pos _ (by omega) (by omega) (by omega) (by omega) (by omega) (iB_s (p := p) a2 a3 hs1 hs2 hc a4 a5 a6 (by omega) hp a9 a10 a11 (by omega) (by omega) (by omega) pL) e
    rw [nOp_u (by omega), a7] at f
    exact f
  · have hp40 : pt = 40 := by omega
    subst hp40
    rw [r262_3 n (nI 1) (nI 0) (by omega) (by omega) (by omega)]
    obtain ⟨c, t, j, σ, s', d, h1, h2, h3, h4, h5, h6, h7, h8, h9, h10, h11⟩ := hI
    have k1 := h2.1.1
    obtain ⟨kk, A', ep⟩ := pop_f n (rkC s) (by omega) (B := BC) (cs := cs) (os := os) (ap := p') (kd := 3) (fr := q) (ft := 3 + 8 * q) (pt := 41) (nm := (nI s).toInt64) (by omega) (by omega) l n c t j σ A (by omega) h1 (by omega) (by omega)
    exact wB_f hT m k 1 (by omega) (by omega) (tr_f n Tp s kk hs1 hs2 (by omega) ep) (by omega) pL (by omega) (by omega) (by omega) rfl
theorem sB_g {n Tp L : Nat} {z : Nat → Nat} {tpe BC BR : St} {X : St × St} {g : Nat} (hT : txt n Tp L z tpe BC BR) (ihA : wA n Tp L tpe BC BR X g) {p q p' k m m2 pt os cs ts : Nat} {l : List Nat} {x w : Int64} {C : Nat → Int32} {A : Nat → Int64} {F T K P : Nat → Int32} {N : Nat → Int64} {pos : Nat → Nat} {S SA OA : Nat → Int32} (hI : iB l L p cs ts os pt C A F T K P N pos S SA OA) (hg : L - p < g + 1) (hk : L - p < k + 1) (hk2 : k + 1 ≤ 121) (hm : k + 1 < m + 2) (hm2 : L - p < m2 + 1) (pq : p ≤ q) (qp : q < p') (pL : p' ≤ L) {s tk st : Nat} {tv : Int64} (hs1 : 1 ≤ s) (hs2 : s ≤ 18) (hc : s ≤ 2) (hq : q = qS z L p) (hqL : q < L) (h32 : ¬ z q = 32) (hR : df_X15_scan n (mR BR q tk st ts (nOp l) 0 tv K P OA N, X) = some (mR BR p' (s + 9) q ts (nOp l) 0 w K P OA N, X)) : wEnd BC BR tpe X (df_X2_read_11 n Tp (m + 2) (nI 0) (nI 1) (nI (k + 1)) (tpe, mC BC cs l.length os p' 3 q 0 pt (nI s).toInt64 C S SA F T A)) (df_X15_read_24 n (m2 + 1) (nI pt) (nI 1) (mR BR p tk st ts (nOp l) 0 tv K P OA N, X)) := by
  have hn := hT.2.2.2.2.1
  have hL := hT.2.2.2.1
  have rb := rkC_b hs1 hs2
  have rl := rk_le s
  have i1 : pt ≤ 40 := by obtain ⟨c, t, j, σ, s, d, h1, h2, h3, h4, h5, h6, h7, h8, h9, h10, h11⟩ := hI; exact h6
  have i2 : nOp l ≤ 8 ∧ 2 * os ≤ pt ∧ ts ≤ p ∧ cs + l.length ≤ 2 * pt ∧ l.length ≤ pt := by obtain ⟨c, t, j, σ, s, d, h1, h2, h3, h4, h5, h6, h7, h8, h9, h10, h11⟩ := hI; exact ⟨h5, h9, h10, h7, h8⟩
  rw [goB_n (x := 0) hT hI hg hk hk2 hm hm2 pq qp pL hq hqL h32 hR (by omega) (fun _ => by split <;> omega), r126_b n (nI pt) (by omega) (by omega)]
  by_cases hp : pt < 40
  · obtain ⟨l', c', t', j', σ', s', oc', ro', cs', d', C', A', a1, a2, a3, a4, a5, a6, a7, a8, a9, a10, a11⟩ := pop_B n (rkC s) (by omega) hn hI BC p' 3 q (pt + 1) (nI s).toInt64
    rw [r262_t n pt (nI 1) hp (by omega) (by omega), r397 n _ (by omega) (by omega), show stT (s + 9) = 0 by unfold stT; rw [if_neg (by omega), if_neg (by omega), if_neg (by omega)]]
    have tw := tr_g n Tp s l'.length cs' (tpe := tpe) (by omega) hp (by omega) (by omega) a1
    obtain ⟨p3, κ3, q3, x3, e⟩ := nx_e hT pL (cs' + 1) (l'.length + 1) os 3 q 0 (pt + 1) (nI s).toInt64 (upd C' cs' (nI (36 - s))) (upd S l'.length (nI s)) (upd SA l'.length (nI cs')) F T (vp_updL A' cs' 0)
    rw [lp_o n Tp (m + 1) k (by omega) (by omega) (by omega) (tw.trans (t148 n Tp 1 (by omega) e))]
    have f := ihA p' k (m + 1) m2 (pt + 1) os (cs' + 1) (ts + 1) (σ' + s') (s + 9) q 3 q (s :: l') (nI s).toInt64 w (upd C' cs' (nI (36 - s))) (upd S l'.length (nI s)) (upd SA l'.length (nI cs')) F T (upd K ts (nI (s + 9))) (upd P ts (-nI 1)) OA (vp_updL A' cs' 0) (vp_updL N ts w) pos _ (by omega) (by omega) (by omega) (by omega) (by omega) (iB_g (p := p) a2 a3 hs1 hs2 hc a4 a5 a6 (by omega) hp a9 a10 a11 (by omega) (by omega) (by omega) pL) e
    rw [nOp_u (by omega), a7] at f
    exact f
  · have hp40 : pt = 40 := by omega
    subst hp40
    rw [r262_3 n (nI 1) (nI 0) (by omega) (by omega) (by omega)]
    obtain ⟨c, t, j, σ, s', d, h1, h2, h3, h4, h5, h6, h7, h8, h9, h10, h11⟩ := hI
    have k1 := h2.1.1
    obtain ⟨kk, A', ep⟩ := pop_f n (rkC s) (by omega) (B := BC) (cs := cs) (os := os) (ap := p') (kd := 3) (fr := q) (ft := 3 + 8 * q) (pt := 41) (nm := (nI s).toInt64) (by omega) (by omega) l n c t j σ A (by omega) h1 (by omega) (by omega)
    exact wB_f hT m k 1 (by omega) (by omega) (tr_f n Tp s kk hs1 hs2 (by omega) ep) (by omega) pL (by omega) (by omega) (by omega) rfl
theorem sB_c28 {n Tp L : Nat} {z : Nat → Nat} {tpe BC BR : St} {X : St × St} {g : Nat} (hT : txt n Tp L z tpe BC BR) (ihB : wB n Tp L tpe BC BR X g) {p q p' k m m2 pt os cs ts : Nat} {l : List Nat} {x w : Int64} {C : Nat → Int32} {A : Nat → Int64} {F T K P : Nat → Int32} {N : Nat → Int64} {pos : Nat → Nat} {S SA OA : Nat → Int32} (hI : iB l L p cs ts os pt C A F T K P N pos S SA OA) (hg : L - p < g + 1) (hk : L - p < k + 1) (hk2 : k + 1 ≤ 121) (hm : k + 1 < m + 2) (hm2 : L - p < m2 + 1) (pq : p ≤ q) (qp : q < p') (pL : p' ≤ L) {tk st : Nat} {tv : Int64} (hq : q = qS z L p) (hqL : q < L) (h32 : ¬ z q = 32) (hR : df_X15_scan n (mR BR q tk st ts (nOp l) 0 tv K P OA N, X) = some (mR BR p' 31 q ts (nOp l) 0 w K P OA N, X)) : wEnd BC BR tpe X (df_X2_read_11 n Tp (m + 2) (nI 0) (nI 1) (nI (k + 1)) (tpe, mC BC cs l.length os p' 3 q 0 pt (nI 28).toInt64 C S SA F T A)) (df_X15_read_24 n (m2 + 1) (nI pt) (nI 1) (mR BR p tk st ts (nOp l) 0 tv K P OA N, X)) := by
  have hn := hT.2.2.2.2.1
  have hL := hT.2.2.2.1
  have i1 : pt ≤ 40 ∧ nOp l ≤ 8 ∧ 2 * os ≤ pt ∧ ts ≤ p := by obtain ⟨c, t, j, σ, s, d, h1, h2, h3, h4, h5, h6, h7, h8, h9, h10, h11⟩ := hI; exact ⟨h6, h5, h9, h10⟩
  obtain ⟨l', c', t', j', σ', s', oc', ro', cs', d', C', A', a1, a2, a3, a4, a5, a6, a7, a8, a9, a10, a11⟩ := pop_B n 0 (by omega) hn hI BC p' 3 q pt (nI 28).toInt64
  match l', a1, a2, a5, a6, a7, a8, a9, a10 with
  | [], a1, a2, a5, a6, a7, a8, a9, a10 =>
    have a7 : nOp l = 0 := a7.symm
    exact sB_b hT hI hg hk hk2 hm hm2 pq qp pL hq hqL h32 hR (by omega) (by omega) (by omega) (fun y => by omega) (by omega) (tr_c28 n Tp (tc_0 n 0 cs' a1))
  | o :: r, a1, a2, a5, a6, a7, a8, a9, a10 =>
    have o22 : 22 ≤ o := by
      rcases a5 with e | ⟨e, e2⟩
      · exact e
      · omega
    obtain ⟨_, _, _, _, hS, _, o27, _⟩ := frs_le _ c' t' j' σ' a2 o r rfl
    have a8 : tpO l = o := by rw [← a8]; exact if_pos o22
    rw [nOp_o o22] at a7
    have hl1 : r.length + 1 ≤ pt := a10
    have hl2 : cs' + (r.length + 1) ≤ 2 * pt := a9
    by_cases hc : o ≤ 24
    · rw [goB_c (x := 0) hT hI hg hk hk2 hm hm2 pq qp pL hq hqL h32 hR (by omega) (by rw [a8, if_pos hc]), ← a7]
      rcases (show o = 22 ∨ o = 23 ∨ o = 24 by omega) with rfl | rfl | rfl
      · obtain ⟨y, c3, t3, j3, σ3, y1, y2, y3, y4, y5, y6⟩ := cl_22 w a2 a3 a6 (by omega)
        rw [r262_s n y (nI pt) (nI 1) (by omega) (by omega) (by omega) (by omega) y1 y2]
        have tw := tr_c28 n Tp (tpe := tpe) (tc_22 n cs' r.length (by omega) hS a1)
        obtain ⟨p3, κ3, q3, x3, e⟩ := nx_e hT pL cs' r.length os 3 q 0 pt (nI 28).toInt64 C' S SA F T A'
        rw [lp_o n Tp (m + 1) k (by omega) (by omega) (by omega) (tw.trans (t148 n Tp 0 (by omega) e))]
        exact ihB p' k (m + 1) m2 pt os cs' (ts + 1) 31 q 3 q r (nI 28).toInt64 w C' S SA F T (upd K ts (nI 31)) (upd (upd P y (nI ts)) ts (nI y)) OA A' (vp_updL N ts w) pos _ (by omega) (by omega) (by omega) (by omega) (by omega) ⟨c3, t3, j3, σ3, s', _, y3, y4, y6, by omega, by omega, by omega, by omega, by omega, by omega, by omega, pL⟩ e
      · obtain ⟨i0, i40, hSA, y, c3, t3, j3, σ3, y1, y2, y3, y4, y5, y6⟩ := cl_23 w (by omega) a2 a3 a6 (by omega)
        rw [r262_s n y (nI pt) (nI 1) (by omega) (by omega) (by omega) (by omega) y1 y2]
        have tw := tr_c28 n Tp (tpe := tpe) (tc_23 n cs' r.length i0 (by omega) hS hSA i40 a1)
        obtain ⟨p3, κ3, q3, x3, e⟩ := nx_e hT pL cs' r.length os 3 q 0 pt (nI 28).toInt64 C' S SA F (upd T i0 (nI cs')) A'
        rw [lp_o n Tp (m + 1) k (by omega) (by omega) (by omega) (tw.trans (t148 n Tp 0 (by omega) e))]
        exact ihB p' k (m + 1) m2 pt os cs' (ts + 1) 31 q 3 q r (nI 28).toInt64 w C' S SA F (upd T i0 (nI cs')) (upd K ts (nI 31)) (upd (upd P y (nI ts)) ts (nI y)) OA A' (vp_updL N ts w) pos _ (by omega) (by omega) (by omega) (by omega) (by omega) ⟨c3, t3, j3, σ3, s', _, y3, y4, y6, by omega, by omega, by omega, by omega, by omega, by omega, by omega, pL⟩ e
      · obtain ⟨i0, i40, hSA, y, c3, t3, j3, σ3, y1, y2, y3, y4, y5, y6⟩ := cl_24 w (by omega) a2 a3 a6 (by omega)
        rw [r262_s n y (nI pt) (nI 1) (by omega) (by omega) (by omega) (by omega) y1 y2]
        have tw := tr_c28 n Tp (tpe := tpe) (tc_24 n cs' r.length i0 (by omega) (by omega) hS hSA i40 a1)
        obtain ⟨p3, κ3, q3, x3, e⟩ := nx_e hT pL (cs' + 1) r.length os 3 q 0 pt (nI 28).toInt64 (upd C' cs' (nI 24)) S SA F (upd T i0 (nI cs')) (vp_updL A' cs' (nI i0).toInt64)
        rw [lp_o n Tp (m + 1) k (by omega) (by omega) (by omega) (tw.trans (t148 n Tp 0 (by omega) e))]
        exact ihB p' k (m + 1) m2 pt os (cs' + 1) (ts + 1) 31 q 3 q r (nI 28).toInt64 w (upd C' cs' (nI 24)) S SA F (upd T i0 (nI cs')) (upd K ts (nI 31)) (upd (upd P y (nI ts)) ts (nI y)) OA (vp_updL A' cs' (nI i0).toInt64) (vp_updL N ts w) pos _ (by omega) (by omega) (by omega) (by omega) (by omega) ⟨c3, t3, j3, σ3, s', _, y3, y4, y6, by omega, by omega, by omega, by omega, by omega, by omega, by omega, pL⟩ e
    · exact sB_b hT hI hg hk hk2 hm hm2 pq qp pL hq hqL h32 hR (by omega) (by omega) (by omega) (fun _ => by rw [a8, if_neg hc]; omega) (by omega) (tr_c28 n Tp (tc_b n 0 cs' r.length o (by omega) hS (by omega) (by omega) (by omega) a1))
theorem sB_c29 {n Tp L : Nat} {z : Nat → Nat} {tpe BC BR : St} {X : St × St} {g : Nat} (hT : txt n Tp L z tpe BC BR) (ihB : wB n Tp L tpe BC BR X g) {p q p' k m m2 pt os cs ts : Nat} {l : List Nat} {x w : Int64} {C : Nat → Int32} {A : Nat → Int64} {F T K P : Nat → Int32} {N : Nat → Int64} {pos : Nat → Nat} {S SA OA : Nat → Int32} (hI : iB l L p cs ts os pt C A F T K P N pos S SA OA) (hg : L - p < g + 1) (hk : L - p < k + 1) (hk2 : k + 1 ≤ 121) (hm : k + 1 < m + 2) (hm2 : L - p < m2 + 1) (pq : p ≤ q) (qp : q < p') (pL : p' ≤ L) {tk st : Nat} {tv : Int64} (hq : q = qS z L p) (hqL : q < L) (h32 : ¬ z q = 32) (hR : df_X15_scan n (mR BR q tk st ts (nOp l) 0 tv K P OA N, X) = some (mR BR p' 33 q ts (nOp l) 0 w K P OA N, X)) : wEnd BC BR tpe X (df_X2_read_11 n Tp (m + 2) (nI 0) (nI 1) (nI (k + 1)) (tpe, mC BC cs l.length os p' 3 q 0 pt (nI 29).toInt64 C S SA F T A)) (df_X15_read_24 n (m2 + 1) (nI pt) (nI 1) (mR BR p tk st ts (nOp l) 0 tv K P OA N, X)) := by
  have hn := hT.2.2.2.2.1
  have hL := hT.2.2.2.1
  have i1 : pt ≤ 40 ∧ nOp l ≤ 8 ∧ 2 * os ≤ pt ∧ ts ≤ p := by obtain ⟨c, t, j, σ, s, d, h1, h2, h3, h4, h5, h6, h7, h8, h9, h10, h11⟩ := hI; exact ⟨h6, h5, h9, h10⟩
  obtain ⟨l', c', t', j', σ', s', oc', ro', cs', d', C', A', a1, a2, a3, a4, a5, a6, a7, a8, a9, a10, a11⟩ := pop_B n 0 (by omega) hn hI BC p' 3 q pt (nI 29).toInt64
  match l', a1, a2, a5, a6, a7, a8, a9, a10 with
  | [], a1, a2, a5, a6, a7, a8, a9, a10 =>
    have a7 : nOp l = 0 := a7.symm
    exact sB_b hT hI hg hk hk2 hm hm2 pq qp pL hq hqL h32 hR (by omega) (by omega) (by omega) (fun y => by omega) (by omega) (tr_c29 n Tp (tc_0 n 1 cs' a1))
  | o :: r, a1, a2, a5, a6, a7, a8, a9, a10 =>
    have o22 : 22 ≤ o := by
      rcases a5 with e | ⟨e, e2⟩
      · exact e
      · omega
    obtain ⟨_, _, _, _, hS, _, o27, _⟩ := frs_le _ c' t' j' σ' a2 o r rfl
    have a8 : tpO l = o := by rw [← a8]; exact if_pos o22
    rw [nOp_o o22] at a7
    have hl1 : r.length + 1 ≤ pt := a10
    have hl2 : cs' + (r.length + 1) ≤ 2 * pt := a9
    by_cases hc : 25 ≤ o
    · rw [goB_c (x := 0) hT hI hg hk hk2 hm hm2 pq qp pL hq hqL h32 hR (by omega) (by rw [a8, if_neg (by omega)]), ← a7]
      rcases (show o = 25 ∨ o = 26 ∨ o = 27 by omega) with rfl | rfl | rfl
      · obtain ⟨y, c3, t3, j3, σ3, y1, y2, y3, y4, y5, y6⟩ := cl_25 w (SA r.length).toInt64 a2 a3 a6 (by omega)
        rw [r262_s n y (nI pt) (nI 1) (by omega) (by omega) (by omega) (by omega) y1 y2]
        have tw := tr_c29 n Tp (tpe := tpe) (tc_25 n cs' r.length (by omega) (by omega) hS a1)
        obtain ⟨p3, κ3, q3, x3, e⟩ := nx_e hT pL (cs' + 1) r.length os 3 q 0 pt (nI 29).toInt64 (upd C' cs' (nI 25)) S SA F T (vp_updL A' cs' (SA r.length).toInt64)
        rw [lp_o n Tp (m + 1) k (by omega) (by omega) (by omega) (tw.trans (t148 n Tp 0 (by omega) e))]
        exact ihB p' k (m + 1) m2 pt os (cs' + 1) (ts + 1) 33 q 3 q r (nI 29).toInt64 w (upd C' cs' (nI 25)) S SA F T (upd K ts (nI 33)) (upd (upd P y (nI ts)) ts (nI y)) OA (vp_updL A' cs' (SA r.length).toInt64) (vp_updL N ts w) pos _ (by omega) (by omega) (by omega) (by omega) (by omega) ⟨c3, t3, j3, σ3, s', _, y3, y4, y6, by omega, by omega, by omega, by omega, by omega, by omega, by omega, pL⟩ e
      · obtain ⟨y, c3, t3, j3, σ3, y1, y2, y3, y4, y5, y6⟩ := cl_26 w (SA r.length).toInt64 a2 a3 a6 (by omega)
        rw [r262_s n y (nI pt) (nI 1) (by omega) (by omega) (by omega) (by omega) y1 y2]
        have tw := tr_c29 n Tp (tpe := tpe) (tc_26 n cs' r.length (by omega) (by omega) hS a1)
        obtain ⟨p3, κ3, q3, x3, e⟩ := nx_e hT pL (cs' + 1) r.length os 3 q 0 pt (nI 29).toInt64 (upd C' cs' (nI 26)) S SA F T (vp_updL A' cs' (SA r.length).toInt64)
        rw [lp_o n Tp (m + 1) k (by omega) (by omega) (by omega) (tw.trans (t148 n Tp 0 (by omega) e))]
        exact ihB p' k (m + 1) m2 pt os (cs' + 1) (ts + 1) 33 q 3 q r (nI 29).toInt64 w (upd C' cs' (nI 26)) S SA F T (upd K ts (nI 33)) (upd (upd P y (nI ts)) ts (nI y)) OA (vp_updL A' cs' (SA r.length).toInt64) (vp_updL N ts w) pos _ (by omega) (by omega) (by omega) (by omega) (by omega) ⟨c3, t3, j3, σ3, s', _, y3, y4, y6, by omega, by omega, by omega, by omega, by omega, by omega, by omega, pL⟩ e
      · obtain ⟨y, c3, t3, j3, σ3, y1, y2, y3, y4, y5, y6⟩ := cl_27 w (SA r.length).toInt64 a2 a3 a6 (by omega)
        rw [r262_s n y (nI pt) (nI 1) (by omega) (by omega) (by omega) (by omega) y1 y2]
        have tw := tr_c29 n Tp (tpe := tpe) (tc_27 n cs' r.length (by omega) (by omega) hS a1)
        obtain ⟨p3, κ3, q3, x3, e⟩ := nx_e hT pL (cs' + 1) r.length os 3 q 0 pt (nI 29).toInt64 (upd C' cs' (nI 27)) S SA F T (vp_updL A' cs' (SA r.length).toInt64)
        rw [lp_o n Tp (m + 1) k (by omega) (by omega) (by omega) (tw.trans (t148 n Tp 0 (by omega) e))]
        exact ihB p' k (m + 1) m2 pt os (cs' + 1) (ts + 1) 33 q 3 q r (nI 29).toInt64 w (upd C' cs' (nI 27)) S SA F T (upd K ts (nI 33)) (upd (upd P y (nI ts)) ts (nI y)) OA (vp_updL A' cs' (SA r.length).toInt64) (vp_updL N ts w) pos _ (by omega) (by omega) (by omega) (by omega) (by omega) ⟨c3, t3, j3, σ3, s', _, y3, y4, y6, by omega, by omega, by omega, by omega, by omega, by omega, by omega, pL⟩ e
    · exact sB_b hT hI hg hk hk2 hm hm2 pq qp pL hq hqL h32 hR (by omega) (by omega) (by omega) (fun _ => by rw [a8, if_pos (by omega)]; omega) (by omega) (tr_c29 n Tp (tc_b n 1 cs' r.length o (by omega) hS (by omega) (by omega) (by omega) a1))
theorem sB_all {n Tp L : Nat} {z : Nat → Nat} {tpe BC BR : St} {X : St × St} {g : Nat} (hT : txt n Tp L z tpe BC BR) (ihA : wA n Tp L tpe BC BR X g) (ihB : wB n Tp L tpe BC BR X g) : wB n Tp L tpe BC BR X (g + 1) := by
  intro p k m m2 pt os cs ts tk st kd fr l nm tv C S SA F T K P OA A N pos u hg hk hk2 hm hm2 hI hu
  obtain ⟨T1, T2, T3, T4, T5, T6, T7, T8, T9⟩ := id hT
  have i9 : p ≤ L := by obtain ⟨c, t, j, σ, s, d, h1, h2, h3, h4, h5, h6, h7, h8, h9, h10, h11⟩ := hI; exact h11
  obtain ⟨k, rfl⟩ : ∃ j : Nat, k = j + 1 := ⟨k - 1, by omega⟩
  obtain ⟨m, rfl⟩ : ∃ j : Nat, m = j + 2 := ⟨m - 2, by omega⟩
  obtain ⟨m2, rfl⟩ : ∃ j : Nat, m2 = j + 1 := ⟨m2 - 1, by omega⟩
  obtain ⟨q, p', κ, s, τ, μ, gg, v, e1, e2, e3, e4, e5, e6⟩ := tk_all n Tp L p T1 T2 T3 T4 T5 T6 T7 T8 T9 i9
  obtain ⟨x, hN, hN1, hN3⟩ := e5 cs l.length os kd fr 0 pt nm C S SA F T A
  rw [hN] at hu
  obtain rfl := Option.some.inj hu
  rcases e6 with ⟨z1, z2, z3⟩ | ⟨hqL, hqp, h32, hR2, hd⟩
  · subst z1
    subst z3
    subst z2
    exact sB_E hT hI hk hk2 e1
  obtain ⟨d1, d2, d3, d4, d5, d6, d7, d8⟩ := tk_v hd
  obtain ⟨w, hR, hR1, hR22⟩ := hR2 tk st ts (nOp l) 0 tv K P OA N X
  rcases hd with ⟨rfl, rfl⟩ | ⟨rfl, ht, hM⟩ | ⟨rfl, h1, h2, h3⟩ | ⟨rfl, rfl⟩
  · exact sB_b hT hI hg hk hk2 hm hm2 e2 hqp e4 e1 hqL h32 hR (by omega) (by omega) (by omega) (fun _ => by split <;> omega) (by omega) (tr_b n Tp (by omega) (by omega))
  · unfold tkT at ht
    exact sB_b hT hI hg hk hk2 hm hm2 e2 hqp e4 e1 hqL h32 hR (by omega) (by omega) (by omega) (fun _ => by split <;> omega) (by omega) (tr_b n Tp (by omega) (by omega))
  · have hx : x = (nI s).toInt64 := hN3 rfl
    subst hx
    have e := tS_v h1 h2
    rw [← h3] at e
    rcases e with ⟨e, f⟩ | e | e | e | e | ⟨e, f⟩ | ⟨e, f⟩
    · subst f
      by_cases c : 3 ≤ s
      · exact sB_s (x := 0) hT ihA hI hg hk hk2 hm hm2 e2 hqp e4 h1 e c e1 hqL h32 hR
      · exact sB_g (x := 0) hT ihA hI hg hk hk2 hm hm2 e2 hqp e4 h1 e (by omega) e1 hqL h32 hR
    · exact sB_b hT hI hg hk hk2 hm hm2 e2 hqp e4 e1 hqL h32 hR (by omega) (by omega) (by omega) (fun _ => by split <;> omega) (by omega) (tr_bs n Tp s (by omega) (by omega) (by omega) (by omega))
    · exact sB_b hT hI hg hk hk2 hm hm2 e2 hqp e4 e1 hqL h32 hR (by omega) (by omega) (by omega) (fun _ => by split <;> omega) (by omega) (tr_bs n Tp s (by omega) (by omega) (by omega) (by omega))
    · exact sB_b hT hI hg hk hk2 hm hm2 e2 hqp e4 e1 hqL h32 hR (by omega) (by omega) (by omega) (fun _ => by split <;> omega) (by omega) (tr_bs n Tp s (by omega) (by omega) (by omega) (by omega))
    · exact sB_b hT hI hg hk hk2 hm hm2 e2 hqp e4 e1 hqL h32 hR (by omega) (by omega) (by omega) (fun _ => by split <;> omega) (by omega) (tr_bs n Tp s (by omega) (by omega) (by omega) (by omega))
    · subst e
      subst f
      exact sB_c28 (x := 0) hT ihB hI hg hk hk2 hm hm2 e2 hqp e4 e1 hqL h32 hR
    · subst e
      subst f
      exact sB_c29 (x := 0) hT ihB hI hg hk hk2 hm hm2 e2 hqp e4 e1 hqL h32 hR
  · exact sB_b hT hI hg hk hk2 hm hm2 e2 hqp e4 e1 hqL h32 hR (by omega) (by omega) (by omega) (fun _ => by split <;> omega) (by omega) (tr_b n Tp (by omega) (by omega))
theorem wAB {n Tp L : Nat} {z : Nat → Nat} {tpe BC BR : St} (X : St × St) (hT : txt n Tp L z tpe BC BR) : ∀ g : Nat, wA n Tp L tpe BC BR X g ∧ wB n Tp L tpe BC BR X g := fun g => by
  induction g with
  | zero =>
    refine ⟨?_, ?_⟩
    · intro p k m m2 pt os cs ts σ tk st kd fr l nm tv C S SA F T K P OA A N pos u hg
      omega
    · intro p k m m2 pt os cs ts tk st kd fr l nm tv C S SA F T K P OA A N pos u hg
      omega
  | succ g ih => exact ⟨sA_all hT ih.1 ih.2, sB_all hT ih.1 ih.2⟩
