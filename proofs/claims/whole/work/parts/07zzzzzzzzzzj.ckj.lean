/-- the reference: the line of a place -/
theorem lnO_4 {n L : Nat} {c : Nat → Nat} {S : St} (hL : L ≤ 32768) (h127 : ∀ i : Nat, c i < 127) (htx : ∀ i : Nat, i < L → sR S 2 i = nI (c i)) {q : Nat} (hq : q ≤ L) : ∀ (m x g : Nat), x + m = q → m < g → df_X13_lineOf_4 n g (nI q) (nI (nlC c x + 1)) (nI x) S = some (nI (nlC c q + 1), S) := fun m => by
  induction m with
  | zero =>
    intro x g h1 h2
    obtain ⟨g, rfl⟩ : ∃ k : Nat, g = k + 1 := ⟨g - 1, by omega⟩
    have : x = q := by omega
    subst this
    show dF_X13_lineOf_4 n (df_X13_lineOf_4 n g) (nI x) (nI (nlC c x + 1)) (nI x) S = _
    unfold dF_X13_lineOf_4
    rw [if_pos (zle (Nat.le_refl x) (by omega))]
  | succ m ih =>
    intro x g h1 h2
    obtain ⟨g, rfl⟩ : ∃ k : Nat, g = k + 1 := ⟨g - 1, by omega⟩
    have hx := h127 x
    show dF_X13_lineOf_4 n (df_X13_lineOf_4 n g) (nI q) (nI (nlC c x + 1)) (nI x) S = _
    unfold dF_X13_lineOf_4 df_X13_lineOf_27
    rw [if_neg (znle (show x < q by omega) (by omega)), nm_ck (by omega) (by omega), nI_clamp (by omega), htx x (by omega)]
    have hi := ih (x + 1) g (by omega) (by omega)
    by_cases y : c x = 10
    · rw [if_pos (show nI (c x) = 10 from congrArg nI y), nb_let, show nI x + Int32.ofInt 1 = nI (x + 1) from nI_add x 1, show nI (nlC c x + 1) + 1 = nI (nlC c x + 1 + 1) from nI_add (nlC c x + 1) 1]
      have e : nlC c (x + 1) = nlC c x + 1 := by
        show nlC c x + (if c x = 10 then 1 else 0) = _
        rw [if_pos y]
      rw [e] at hi
      exact hi
    · rw [if_neg (show ¬ nI (c x) = 10 from zne (b := 10) y (by omega) (by omega)), nb_let, show nI x + Int32.ofInt 1 = nI (x + 1) from nI_add x 1]
      have e : nlC c (x + 1) = nlC c x := by
        show nlC c x + (if c x = 10 then 1 else 0) = _
        rw [if_neg y, Nat.add_zero]
      rw [e] at hi
      exact hi
theorem lnO {n L : Nat} {c : Nat → Nat} {S : St} (hn : 70000 < n) (hL : L ≤ 32768) (h127 : ∀ i : Nat, c i < 127) (htx : ∀ i : Nat, i < L → sR S 2 i = nI (c i)) {q : Nat} (hq : q ≤ L) : df_X13_lineOf n (nI q) S = some (nI (nlC c q + 1), S) := lnO_4 (n := n) hL h127 htx hq q 0 n (by omega) (by omega)
/-- the image, statement by statement -/
def imC (f0 : Nat → Int32) (ad : Nat → Nat) (BB : Nat → List Int32) : Nat → (Nat → Int32)
  | 0 => f0
  | s + 1 => wrC (imC f0 ad BB s) (ad s) (BB s)
theorem sF_l {D : Dt} {V : Tp → Int32 × Bool} {ad : Int32} {l : Nat} : sF D V ad l ≤ 10 := by
  have v : ∀ ms dv ok : Bool, vF ms dv ok ≤ 10 := by decide
  unfold sF
  split
  · split
    · omega
    · exact v _ _ _
  · split
    · exact v _ _ _
    · split
      · exact v _ _ _
      · split
        · exact v _ _ _
        · split
          · exact liF_l _
          · omega
/-- a state of the reference in which only what again() writes is new -/
def BEQ (B B' : St) : Prop := (∀ j : Nat, ¬ j = 13 → ¬ j = 14 → ¬ j = 15 → ¬ j = 16 → ¬ j = 17 → sI B' j = sI B j) ∧ B'.2 = B.2
theorem BEQ_r {B : St} : BEQ B B := ⟨fun _ _ _ _ _ _ => rfl, rfl⟩
theorem BEQ_t {B B' B2 : St} (h : BEQ B B') (h' : BEQ B' B2) : BEQ B B2 := ⟨fun j a b c d e => (h'.1 j a b c d e).trans (h.1 j a b c d e), h'.2.trans h.2⟩
theorem BEQ_x {B : St} (v : Int32) (s : Nat) (ad : Int32) (se : Nat) (μ : Int32) : BEQ B (BX (pI B 13 v) s ad se μ) := ⟨fun j a b c d e => by
  show (if j = 15 then μ else if j = 14 then nI se else if j = 17 then ad else if j = 16 then nI s else if j = 13 then v else B.1 j) = B.1 j
  rw [if_neg c, if_neg b, if_neg e, if_neg d, if_neg a], rfl⟩
theorem bzz {α : Type} (b : Bool) {x : Option α} : nd_f .boolean (bI b) (nd_z .boolean (bI b) x) = x := by
  cases b <;> exact (if_pos (by decide)).trans (if_pos (by decide))
/-- what both say when a statement can't be put -/
def CKF (n : Nat) (M Q : St) (cs nl ns : Nat) (C A NM NR LB : Nat → Int32) (U B T : St) (FF Ls : Nat → Nat) (nS : Nat) (rc : Option (St × (St × St) × St)) (rr : Option (Int32 × (St × St))) : Prop := ∃ (t e : Nat) (U' P' S1 : St), t < nS ∧ ¬ FF t = 0 ∧ rc = some (M, ((pI (pI Q 3 (nI (Ls t))) 2 (nI (FF t)), U'), P')) ∧ URD U' cs nl ns C A NM NR LB ∧ sO U' = sO U ∧ sR U' 7 = sR U 7 ∧ rr = some (nI (FF t) + 16 * nI (Ls t), (T, pI S1 1 0)) ∧ ∃ B' : St, FL e B' (nI (FF t) + 16 * nI (Ls t)) S1 ∧ BEQ B B'
theorem fl_nz {f l : Nat} (h : 1 ≤ f) (hf : f ≤ 15) (hl : l ≤ 40000) : ¬ nI f + 16 * nI l = 0 := by
  rw [show (16 : Int32) = nI 16 from rfl, pk_mul, nI_add]
  exact zne (b := 0) (by omega) (by omega) (by omega)
theorem chk_J {n L : Nat} {c : Nat → Nat} {B0 : St} (hX : TXT n L c B0) {X : Nat → Nat} {nL nS Tz : Nat} {OF W : Nat → Int32} (hK : XOK L c X nL) {BY OU PA : Nat → Int32} {Ds : Nat → Dt} {Qs Es Zs Fs Ls N0 AA of : Nat → Nat} (hnS : nS ≤ 8194) (hT : Tz ≤ 2 ^ 30) (hst : ∀ s : Nat, s < nS → SRD n L c X nL W BY s (Ds s) (Qs s) (Es s) (Zs s) (Fs s) (N0 s) (AA s) ∧ PA s = nI (AA s * 2 ^ 17 + Qs s) ∧ OF s = nI (of s) ∧ Ls s = nlC c (Qs s) + 1) (FF adS : Nat → Nat) (BB : Nat → List Int32) (hFF : ∀ s : Nat, s < nS → adS s = of s + (if Zs s = 1 then bsN Tz else 0) ∧ FF s = sF (Ds s) (VV c X (Es s) nL (Qs s) (nI Tz) (nI (adS s)) W) (nI (adS s)) (AA s % 4)) {sn : Nat} (hsn : sn = mu Ds nS) {M Q P : St} {cs nl ns : Nat} {C A NM NR LB : Nat → Int32} (q0 : sI Q 0 = nI sn) (q2 : sI Q 2 = 0) (hrow : ∀ s : Nat, s < nS → ¬ (Ds s).1 = 9 → sR Q 0 (8 * mu Ds s) = nI (Ls s) ∧ sR Q 0 (8 * mu Ds s + 4) = nI (Ds s).1 ∧ (Ds s).1 ≤ 8) (hput : ∀ s : Nat, s < nS → ¬ (Ds s).1 = 9 → ∀ (v : Int32) (U : St) (f : Nat → Int32), URD U cs nl ns C A NM NR LB → PUTD M (pI Q 3 v) P cs nl ns C A NM NR LB (adS s) (FF s) (BB s) U f (ptK n (mu Ds s) (Ds s).1 (M, ((pI Q 3 v, U), pR P 0 f)))) (h9 : ∀ s : Nat, s < nS → (Ds s).1 = 9 → BB s = []) (f0 : Nat → Int32) (T : St) : ∀ (m s g g' : Nat) (v : Int32) (U B S : St) (ct ap : Nat) (gr : Bool), s + m = nS → sn < g + mu Ds s → m < g' → URD U cs nl ns C A NM NR LB → RBd L c X nL nS Tz OF W B → SR B ct gr PA BY OU 0 ap S → CKF n M Q cs nl ns C A NM NR LB U B T FF Ls nS (df_X1_putAll_10 n g (nI (mu Ds s)) (M, ((pI Q 3 v, U), pR P 0 (imC f0 adS BB s)))) (df_X13_assemble_84 n g' (nI s) (T, S)) ∨ ∃ (v' : Int32) (U' B' S' : St) (ct' ap' : Nat) (gr' : Bool), df_X1_putAll_10 n g (nI (mu Ds s)) (M, ((pI Q 3 v, U), pR P 0 (imC f0 adS BB s))) = some (M, ((pI Q 3 v', U'), pR P 0 (imC f0 adS BB nS))) ∧ URD U' cs nl ns C A NM NR LB ∧ sO U' = sO U ∧ sR U' 7 = sR U 7 ∧ df_X13_assemble_84 n g' (nI s) (T, S) = some (0, (T, pI S' 1 1)) ∧ RBd L c X nL nS Tz OF W B' ∧ SR B' ct' gr' PA BY OU 0 ap' S' ∧ BEQ B B' ∧ (∀ t : Nat, s ≤ t → t < nS → FF t = 0) := fun m => by
  have hmu := mu_l Ds nS
  induction m with
  | zero =>
    intro s g g' v U B S ct ap gr h1 h2 h3 hU hB h
    have : s = nS := by omega
    subst this
    obtain ⟨g, rfl⟩ : ∃ k : Nat, g = k + 1 := ⟨g - 1, by omega⟩
    obtain ⟨g', rfl⟩ : ∃ k : Nat, g' = k + 1 := ⟨g' - 1, by omega⟩
    refine Or.inr ⟨v, U, B, S, ct, ap, gr, ?_, hU, rfl, rfl, ?_, hB, h, BEQ_r, fun t t1 t2 => absurd t1 (by omega)⟩
    · exact pA_0 (Q := pI Q 3 v) q0 (by omega) (by omega) (Or.inl (by omega))
    · show dF_X13_assemble_84 n (df_X13_assemble_84 n g') (nI s) (T, S) = _
      unfold dF_X13_assemble_84 df_X13_assemble_129 df_X13_assemble_142
      rw [show sI ((T, S) : St × St).2 2 = nI s from (SR_2 h).trans hB.2.2.1, if_pos (zle (Nat.le_refl s) (by omega)), if_pos (show sI ((T, S) : St × St).2 12 = 0 from SR_12 h)]
      refine (bzz true).trans ?_
      rw [nb_let]
      rw [show sI ((T, pI S 1 1) : St × St).2 12 = 0 from (show sI S 12 = 0 from SR_12 h)]
  | succ m ih =>
    intro s g g' v U B S ct ap gr h1 h2 h3 hU hB h
    obtain ⟨g', rfl⟩ : ∃ k : Nat, g' = k + 1 := ⟨g' - 1, by omega⟩
    obtain ⟨⟨c1, c2, c3, c4, c5, c6, c7, c8, c9, lw, lv, sz, ba, X0, W0, d1, d2, d3, d4, d5⟩, hP, hO, hLs⟩ := hst s (by omega)
    obtain ⟨had, hF⟩ := hFF s (by omega)
    have hL := hX.2.1
    have qb : Qs s < 131072 := by omega
    obtain ⟨p1, p2, p3, p4⟩ := pla_1 c1 qb
    have nl1 := nlC_l c (Qs s)
    have fl1 : FF s ≤ 10 := by rw [hF]; exact sF_l
    have hB1 : RBd L c X nL nS Tz OF W (pI B 13 (nI (Ls s))) := ⟨hB.1, hB.2.1, hB.2.2.1, hB.2.2.2.1, hB.2.2.2.2.1, hB.2.2.2.2.2.1, hB.2.2.2.2.2.2.1, hB.2.2.2.2.2.2.2.1, hB.2.2.2.2.2.2.2.2.1, Ls s, rfl, by omega⟩
    have h13 := SR_p13 h (nI (Ls s))
    obtain ⟨S1, r1, r2, r3⟩ := again_R hX hB1 hK h13 (s := s) (q := Qs s) (e := Es s) (se := Zs s) (A := AA s) (of := of s) (n0 := N0 s) (D := Ds s) (by omega) hP c1 c2 c6 c7 c8 hO hT d1 c9 d2 d3 d4 d5 (μ := 2) (Or.inr (Or.inl rfl)) (fun w => absurd w (show ¬ nI 2 = 3 by decide))
    rw [← had, ← hF] at r2 r3
    have r2 := r2 rfl
    have r3 : FF s = 0 → _ := fun w => r3 (fun _ => w)
    have eR : df_X13_assemble_84 n (g' + 1) (nI s) (T, S) = df_X13_assemble_84 n g' (nI (s + 1)) (T, S1) := by
      show dF_X13_assemble_84 n (df_X13_assemble_84 n g') (nI s) (T, S) = _
      unfold dF_X13_assemble_84
      rw [show sI ((T, S) : St × St).2 2 = nI nS from (SR_2 h).trans hB.2.2.1, if_neg (znle (show s < nS by omega) (by omega)), if_pos (show sI ((T, S) : St × St).2 12 = 0 from SR_12 h), nm_ck (by omega) (by omega), nI_clamp (by omega)]
      rw [show sR ((T, S) : St × St).2 3 s = nI (AA s * 2 ^ 17 + Qs s) from (congrFun (SR_r3 h) s).trans hP, p1]
      rw [show df_X13_lineOf n (nI (Qs s)) ((T, S) : St × St).2 = some (nI (nlC c (Qs s) + 1), S) from lnO hX.1 hL hX.2.2.1 (fun i hi => by rw [SR_r2 h]; exact hB.2.1 i hi) (by omega), nb_b2, nb_let, nb_let, ← hLs]
      rw [show df_X13_again n (nI s) 2 ((T, pI S 13 (nI (Ls s))) : St × St).2 = some S1 from r1, nb_b1, nb_let, nb_let, show nI s + Int32.ofInt 1 = nI (s + 1) from nI_add s 1]
    rw [eR]
    have hB2 : RBd L c X nL nS Tz OF W (BX (pI B 13 (nI (Ls s))) s (nI (adS s)) (Zs s) (nI 2)) := hB1
    -- the reference with a fault
    have refF : ¬ FF s = 0 → df_X13_assemble_84 n g' (nI (s + 1)) (T, S1) = some (nI (FF s) + 16 * nI (Ls s), (T, pI S1 1 0)) ∧ ∃ B' : St, FL (Es s) B' (nI (FF s) + 16 * nI (Ls s)) S1 ∧ BEQ B B' := fun w => by
      have fl := r2 w
      have nz : ¬ nI (FF s) + 16 * nI (Ls s) = 0 := fl_nz (by omega) (by omega) (by omega)
      have i12 : sI S1 12 = nI (FF s) + 16 * nI (Ls s) := (FL_f fl).1
      refine ⟨?_, _, fl, BEQ_x _ _ _ _ _⟩
      · obtain ⟨g', rfl⟩ : ∃ k : Nat, g' = k + 1 := ⟨g' - 1, by omega⟩
        show dF_X13_assemble_84 n (df_X13_assemble_84 n g') (nI (s + 1)) (T, S1) = _
        unfold dF_X13_assemble_84 df_X13_assemble_129 df_X13_assemble_142
        have nz2 : ¬ sI ((T, S1) : St × St).2 12 = 0 := by rw [show sI ((T, S1) : St × St).2 12 = _ from i12]; exact nz
        have z0 : nd_f .boolean 0 (nd_z .boolean 0 (nd_let ((T, pI S1 1 0) : St × St) (fun (s24 : St × (St)) => some (((sI s24.2 12) : Int32), s24)))) = some (nI (FF s) + 16 * nI (Ls s), (T, pI S1 1 0)) := by
          refine (bzz false).trans ?_
          rw [nb_let]
          rw [show sI ((T, pI S1 1 0) : St × St).2 12 = _ from i12]
        split
        · exact z0
        · exact z0
    by_cases k9 : (Ds s).1 = 9
    · -- no row in the class
      have f0' : FF s = 0 := by
        rw [hF]
        exact (if_neg (by omega)).trans ((if_neg (by omega)).trans ((if_neg (by omega)).trans ((if_neg (by omega)).trans (if_neg (by omega)))))
      obtain ⟨ct1, p1', gr1, x1, x2, x3⟩ := r3 f0'
      rw [if_neg (show ¬ (2 : Nat) = 3 by decide)] at x3
      have em : mu Ds (s + 1) = mu Ds s := by
        show mu Ds s + (if (Ds s).1 = 9 then 0 else 1) = _
        rw [if_pos k9, Nat.add_zero]
      have ei : imC f0 adS BB (s + 1) = imC f0 adS BB s := by
        show wrC (imC f0 adS BB s) (adS s) (BB s) = _
        rw [h9 s (by omega) k9]
        rfl
      have hi := ih (s + 1) g g' v U _ S1 ct1 p1' gr1 (by omega) (by omega) (by omega) hU hB2 x3
      rw [em, ei] at hi
      rcases hi with ⟨t, e, U', P', S2, y1, y2, y3, y4, y5, y6, y7, B2, y8, y9⟩ | ⟨v', U', B', S', ct', ap', gr', y1, y2, y3, y4, y5, y6, y7, y8, y9⟩
      · exact Or.inl ⟨t, e, U', P', S2, y1, y2, y3, y4, y5, y6, y7, B2, y8, BEQ_t (BEQ_x _ _ _ _ _) y9⟩
      · refine Or.inr ⟨v', U', B', S', ct', ap', gr', y1, y2, y3, y4, y5, y6, y7, BEQ_t (BEQ_x _ _ _ _ _) y8, fun t t1 t2 => ?_⟩
        by_cases w : t = s
        · rw [w]; exact f0'
        · exact y9 t (by omega) t2
    · obtain ⟨w0, w4, w8⟩ := hrow s (by omega) k9
      have mi := mu_i (Ds := Ds) (show s < nS by omega) k9
      have em : mu Ds (s + 1) = mu Ds s + 1 := by
        show mu Ds s + (if (Ds s).1 = 9 then 0 else 1) = _
        rw [if_neg k9]
      obtain ⟨g, rfl⟩ : ∃ k : Nat, g = k + 1 + 1 := ⟨g - 2, by omega⟩
      obtain ⟨U1, f1, z1, z2, z3, z4, z5⟩ := hput s (by omega) k9 (nI (Ls s)) U (imC f0 adS BB s) hU
      have eC : df_X1_putAll_10 n (g + 1 + 1) (nI (mu Ds s)) (M, ((pI Q 3 v, U), pR P 0 (imC f0 adS BB s))) = df_X1_putAll_10 n (g + 1) (nI (mu Ds s + 1)) (M, ((pI (pI Q 3 (nI (Ls s))) 2 (nI (FF s)), U1), pR P 0 f1)) := by
        rw [pA_1 (Q := pI Q 3 v) (ln := nI (Ls s)) q0 (by omega) (by omega) q2 w0 w4 w8, pI_33, z1, nb_b1]
      rw [eC]
      by_cases f0' : FF s = 0
      · obtain ⟨ct1, p1', gr1, x1, x2, x3⟩ := r3 f0'
        rw [if_neg (show ¬ (2 : Nat) = 3 by decide)] at x3
        have hi := ih (s + 1) (g + 1) g' (nI (Ls s)) U1 _ S1 ct1 p1' gr1 (by omega) (by omega) (by omega) z2 hB2 x3
        rw [f0', show nI 0 = 0 from rfl, pI_z2 (Q := pI Q 3 (nI (Ls s))) q2, z5 f0', ← em]
        rcases hi with ⟨t, e, U', P', S2, y1, y2, y3, y4, y5, y6, y7, B2, y8, y9⟩ | ⟨v', U', B', S', ct', ap', gr', y1, y2, y3, y4, y5, y6, y7, y8, y9⟩
        · exact Or.inl ⟨t, e, U', P', S2, y1, y2, y3, y4, y5.trans z3, y6.trans z4, y7, B2, y8, BEQ_t (BEQ_x _ _ _ _ _) y9⟩
        · refine Or.inr ⟨v', U', B', S', ct', ap', gr', y1, y2, y3.trans z3, y4.trans z4, y5, y6, y7, BEQ_t (BEQ_x _ _ _ _ _) y8, fun t t1 t2 => ?_⟩
          by_cases w : t = s
          · rw [w]; exact f0'
          · exact y9 t (by omega) t2
      · obtain ⟨R1, R2⟩ := refF f0'
        refine Or.inl ⟨s, Es s, U1, pR P 0 f1, S1, by omega, f0', ?_, z2, z3, z4, R1, R2⟩
        exact pA_0 (Q := pI (pI Q 3 (nI (Ls s))) 2 (nI (FF s))) q0 (by omega) (by omega) (Or.inr (show ¬ nI (FF s) = 0 from zne (b := 0) f0' (by omega) (by omega)))
