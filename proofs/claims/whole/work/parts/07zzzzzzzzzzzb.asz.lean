/-- both have assembled: what the calls want of it -/
def ASZ (n : Nat) (M T : St) (rc : Option (Int32 × (St × (St × St) × St))) (rr : Option (Int32 × (St × St))) : Prop := ∃ (Q2 U2 P2 S2 : St) (t z co m : Nat) (row : Nat → Int32), rc = some (0, (M, ((Q2, U2), P2))) ∧ rr = some (0, (T, S2)) ∧ df_X13_textSize n S2 = some (nI t, S2) ∧ df_X13_dataBegin n S2 = some (nI (bsN t), S2) ∧ df_X13_end n S2 = some (nI z, S2) ∧ df_X13_countOf n 1 S2 = some (nI co, S2) ∧ df_X13_addresses n S2 = some ((m, row), S2) ∧ m ≤ 10986 ∧ sI P2 0 = nI t ∧ sI P2 1 = nI (bsN t) ∧ sI P2 2 = nI z ∧ sI P2 3 = nI co ∧ sI P2 4 = nI m ∧ (∀ k : Nat, k < m → row k = sR P2 1 k) ∧ t ≤ 32768 ∧ z ≤ 32768 ∧ (z = t ∨ bsN t < z) ∧ ∀ fm : Nat, fm ≤ 98304 → ∃ S3 : St, df_X13_put_ n (nI fm) S2 = some S3 ∧ (∀ i : Nat, i < z → ∃ b l : Nat, b < 256 ∧ l < 2 ^ 22 ∧ sR P2 0 i = vp_nar .byte ((nI b).toInt8.toInt32) ∧ sR S3 9 (fm + i) = nI (l * 256 + b) ∧ ∀ n : Nat, 40000 < n → df_X8_lineOf n (nI i) P2 = some (nI l, P2)) ∧ (∀ j : Nat, j < fm ∨ fm + 32768 ≤ j → sR S3 9 j = sR S2 9 j)
theorem lam_mn (X : Nat → Nat) : ∀ m k : Nat, lam X k ≤ lam X (k + m) := fun m => by
  induction m with
  | zero => intro k; exact Nat.le_refl _
  | succ m ih =>
    intro k
    have := ih k
    rw [show k + (m + 1) = (k + m) + 1 from rfl, lam_n]
    omega
theorem AS_Z {n L : Nat} {c : Nat → Nat} {M U P T : St} {rc : Option (Int32 × (St × (St × St) × St))} {rr : Option (Int32 × (St × St))} (hn : 70000 < n) (hL : L ≤ 32768) (h : ASG n L c M U P T rc rr) : ASZ n M T rc rr := by
  obtain ⟨p, Bz, B0, sn, lu, ln, se, co, SW0, LW, cs, ns, C, A, NM, BK, bs, ws, nl, NR, LB0, sc, X, nL, nS, PAz, BY, Ds, Qs, Es, Zs, Ls, Fs, N0, NP, lv, sg, Q1, U1, S1, W, Q2, U2, P2, S2, hR, hp0, hp1, hX, hlv, hsg, hLD, big, hrc, hrr, o1, o2, o3, i0, i1, i2, i3, i4, r1, e1, e2, hWc, hWl, hv, ⟨B', ct, ap, gr, PA, OU, OF, hB, h5, hS⟩, hput⟩ := h
  obtain ⟨a1, a2, a3, a4, a5, a6, a7, a8, a9, a10, a11, a12, a13, a14, a15⟩ := hR
  obtain ⟨t1, t2, t3, t4, t5, t6, t7, t8, t9, t10⟩ := a1
  obtain ⟨b1, b2, b3, b4, b5, b6, b7, b8, b9⟩ := hB
  obtain ⟨_, q0, q1, q3, hU', u6, q7, q8, q9⟩ := hLD
  have hnm := NLB_l t10.2
  have hnL : nL ≤ 16500 := by omega
  have hX' : ∀ k : Nat, k < nL → X k < 2 ^ 20 := fun k hk => by have := (t7 k hk).2.1; omega
  have k3 : sI (pI S2 1 1) 3 = nI nL := (SR_3 hS).trans b4
  have k4 : sI (pI S2 1 1) 4 = nI (lay Ds Zs BY lv nS).1 := (SR_4 hS).trans b6
  have k5 : sI (pI S2 1 1) 5 = nI (lay Ds Zs BY lv nS).2 := (SR_5 hS).trans h5
  have k6 : ∀ k : Nat, k < nL → sR (pI S2 1 1) 6 k = nI (X k) := fun k hk => by
    show sR S2 6 k = _
    rw [SR_r6 hS]
    exact b5 k hk
  have k7 : sR (pI S2 1 1) 7 = W := (SR_r7 hS).trans b8
  generalize hlay : lay Ds Zs BY lv nS = ly at *
  have lb : ly.1 ≤ 32768 ∧ ly.2 ≤ 32768 ∧ (szA ly = ly.1 ∨ bsN ly.1 < szA ly) := by
    unfold szA at big ⊢
    unfold bsN at big ⊢
    by_cases y : ly.2 = 0
    · rw [if_pos y] at big ⊢
      omega
    · rw [if_neg y] at big ⊢
      omega
  have eB : df_X13_base n (pI S2 1 1) = some (nI (bsN ly.1), pI S2 1 1) := by
    unfold df_X13_base df_X13_base_0
    rw [k4]
    have e : ((((nI ly.1 + 1023) / 1024) * 1024 : Int32)) = nI (bsN ly.1) := bs_R (by omega)
    rw [e]
  have eA : df_X13_all n (pI S2 1 1) = some (nI (szA ly), pI S2 1 1) := by
    unfold df_X13_all df_X13_all_0 df_X13_all_34
    rw [if_neg (show ¬ sI (pI S2 1 1) 1 = 0 from (by decide : ¬ (1 : Int32) = 0)), k5, k4, eB, nb_b2, k5]
    rw [← szA_n (t := ly.1) (d := ly.2) (by omega)]
    split <;> rfl
  have cc := (cou_0 (n := n) hnL k3 k6 hX' nL 0 n (by omega) (by omega)).2
  have ad := adr_1 (n := n) (by omega) hnL k3 k6 hX' (by omega)
  rw [k4, k7] at ad
  have hlab := lcs_R (V := vlO (nI ly.1) X W) (R := sR U1 6) (R1 := sR P 1) (R2 := fun _ => 0) (nL := nL) (fun k hk y => by
    have l1 := lam_mn X (nL - (k + 1)) (k + 1)
    rw [show k + 1 + (nL - (k + 1)) = nL by omega, lam_n, if_neg y] at l1
    rw [u6 (lam X k) 4 (by omega) (by omega) (by omega)]
    exact (t6 k hk y).2.2) hv (by omega) nL (Nat.le_refl _)
  rw [← t4] at hlab
  refine ⟨Q2, U2, P2, pI S2 1 1, ly.1, szA ly, co, nmd X nL, _, hrc, hrr, ?_, ?_, ?_, ?_, ad, by omega, i0, i1, i2, i3, by rw [i4, hlab.1], fun k hk => by rw [r1]; exact (hlab.2 k hk).symm, lb.1, big, lb.2.2, fun fm hfm => ?_⟩
  · unfold df_X13_textSize df_X13_textSize_0
    rw [k4]
  · unfold df_X13_dataBegin df_X13_dataBegin_0
    rw [eB, nb_b2]
  · unfold df_X13_end df_X13_end_0
    rw [eA, nb_b2]
  · unfold df_X13_countOf df_X13_countOf_0
    have : nL - lam X nL = co := by omega
    rw [this] at cc
    exact cc
  · obtain ⟨B3, S3, ct3, ap3, gr3, PA3, OU3, OF3, w1, w2, w3, w4, w5, w6, w7⟩ := hput fm hfm
    exact ⟨S3, w1, w6, w7⟩
