theorem SR_p1 {B : St} {ct : Nat} {gr : Bool} {PA BY OU : Nat → Int32} {ft : Int32} {ap : Nat} {S : St} (h : SR B ct gr PA BY OU ft ap S) (v : Int32) : SR (pI B 1 v) ct gr PA BY OU ft ap (pI S 1 v) := by
  obtain ⟨ms, dv, ls, sg, vl, PL, tk, fr, to, nm, rfl⟩ := h
  refine ⟨ms, dv, ls, sg, vl, PL, tk, fr, to, nm, Prod.ext (funext fun j => ?_) rfl⟩
  show (if j = 1 then v else _) = _
  by_cases h : j = 1
  · subst h; rfl
  · unfold uR xR yR pI
    simp only [if_neg h]
/-- faults and bytes of the statements, once all is laid out -/
def stV (c X : Nat → Nat) (nL nS : Nat) (BY : Nat → Int32) (Ds : Nat → Dt) (Qs Es Zs lv : Nat → Nat) (W : Nat → Int32) (s : Nat) : Tp → Int32 × Bool := VV c X (Es s) nL (Qs s) (nI (lay Ds Zs BY lv nS).1) (nI (adN Zs (ofs Ds Zs BY lv) (lay Ds Zs BY lv nS).1 s)) W
def stF (c X : Nat → Nat) (nL nS : Nat) (BY : Nat → Int32) (Ds : Nat → Dt) (Qs Es Zs lv : Nat → Nat) (W : Nat → Int32) (s : Nat) : Nat := sF (Ds s) (stV c X nL nS BY Ds Qs Es Zs lv W s) (nI (adN Zs (ofs Ds Zs BY lv) (lay Ds Zs BY lv nS).1 s)) (lv s)
def stB (c X : Nat → Nat) (nL nS : Nat) (BY : Nat → Int32) (Ds : Nat → Dt) (Qs Es Zs lv : Nat → Nat) (W : Nat → Int32) (s : Nat) : List Int32 := sB (Ds s) (stV c X nL nS BY Ds Qs Es Zs lv W s) (nI (adN Zs (ofs Ds Zs BY lv) (lay Ds Zs BY lv nS).1 s)) (lv s)
/-- both have put and checked all -/
def OKD (n L : Nat) (c : Nat → Nat) (Bz : St) (cs ns : Nat) (C A NM : Nat → Int32) (nl : Nat) (NR : Nat → Int32) (X : Nat → Nat) (nL nS : Nat) (BY : Nat → Int32) (Ds : Nat → Dt) (Qs Es Zs Fs N0 lv : Nat → Nat) (M Q U P T : St) (f0 : Nat → Int32) (rc : Option (St × (St × St) × St)) (rr : Option (Int32 × (St × St))) : Prop := ∃ (W OF PA OU : Nat → Int32) (B' S' U' : St) (v' : Int32) (ct ap : Nat) (gr : Bool), rc = some (M, ((pI Q 3 v', U'), pR P 0 (imC f0 (adN Zs (ofs Ds Zs BY lv) (lay Ds Zs BY lv nS).1) (stB c X nL nS BY Ds Qs Es Zs lv W) nS))) ∧ URD U' cs nl ns C A NM NR (sR U 6) ∧ sO U' = sO U ∧ sR U' 7 = sR U 7 ∧ rr = some (0, (T, pI S' 1 1)) ∧ RBd L c X nL nS (lay Ds Zs BY lv nS).1 OF W B' ∧ sI B' 5 = nI (lay Ds Zs BY lv nS).2 ∧ SR B' ct gr PA BY OU 0 ap S' ∧ (∀ s : Nat, s < nS → PA s = nI (AAl Zs Fs lv s * 2 ^ 17 + Qs s)) ∧ (∀ s : Nat, s < nS → OF s = nI (ofs Ds Zs BY lv s)) ∧ (∀ k : Nat, k < nL → X k / 131072 = 2 → W k = sR Bz 7 k) ∧ (∀ k : Nat, k < nL → ¬ X k / 131072 = 2 → W k = nI (labV X (lay Ds Zs BY lv) N0 nS k)) ∧ (∀ k : Nat, k < nL → ¬ X k / 131072 = 2 → sR U 6 (5 * lam X k + 2) = vlO (nI (lay Ds Zs BY lv nS).1) X W k) ∧ (∀ s : Nat, s < nS → stF c X nL nS BY Ds Qs Es Zs lv W s = 0) ∧ (∀ s : Nat, s < nS → SRD n L c X nL W BY s (Ds s) (Qs s) (Es s) (Zs s) (Fs s) (N0 s) (AAl Zs Fs lv s))
/-- the same fault in both -/
def SFT (M T : St) (rc : Option (St × (St × St) × St)) (rr : Option (Int32 × (St × St))) : Prop := ∃ (f l : Nat) (Q' U' P' S' : St), 1 ≤ f ∧ f ≤ 15 ∧ l ≤ 40000 ∧ rc = some (M, ((Q', U'), P')) ∧ sI Q' 2 = nI f ∧ sI Q' 3 = nI l ∧ rr = some (nI f + 16 * nI l, (T, S')) ∧ sI S' 1 = 0 ∧ sI S' 12 = nI f + 16 * nI l
theorem CK_J {n L : Nat} {c : Nat → Nat} {p : Nat} {Bz : St} {sn lu ln se co : Nat} {SW0 LW : Nat → Int32} {cs ns : Nat} {C A NM BK : Nat → Int32} {bs ws : Nat → Nat} {nl : Nat} {NR LB0 : Nat → Int32} {sc X : Nat → Nat} {nL nS : Nat} {PAz BY : Nat → Int32} {Ds : Nat → Dt} {Qs Es Zs Ls Fs N0 : Nat → Nat} {NP : Nat → Nat → Int32} (hR : READ n L c p Bz sn lu ln se co SW0 LW cs ns C A NM BK bs ws nl NR LB0 sc X nL nS PAz BY Ds Qs Es Zs Ls Fs N0 NP) (hp : p ≤ 32769) {B0 : St} (hX : TXT n L c B0) {lv : Nat → Nat} (hlv : lvK Ds Fs lv nS) {sg : Nat → Nat} (hsg : (∀ i : Nat, i < mu Ds nS → sg i < nS ∧ mu Ds (sg i) = i ∧ ¬ (Ds (sg i)).1 = 9) ∧ sg (mu Ds nS) = nS) {Q U S : St} (hD : LD n L c Bz sn SW0 cs ns C A NM nl NR LB0 X nL nS BY Ds Qs Zs Fs N0 sg lv Q U S) (qL : sR Q 1 = LW) (q2 : sI Q 2 = 0) (hsz : szA (lay Ds Zs BY lv nS) ≤ 32768) (M P T : St) (f0 : Nat → Int32) : SFT M T (df_X1_putAll_10 n n 0 (M, ((Q, U), pR P 0 f0))) (df_X13_assemble_84 n n 0 (T, pI S 1 1)) ∨ OKD n L c Bz cs ns C A NM nl NR X nL nS BY Ds Qs Es Zs Fs N0 lv M Q U P T f0 (df_X1_putAll_10 n n 0 (M, ((Q, U), pR P 0 f0))) (df_X13_assemble_84 n n 0 (T, pI S 1 1)) := by
  obtain ⟨hZ, hl2⟩ := RD_Z hR (by omega) hlv
  obtain ⟨a1, a2, a3, a4, a5, a6, a7, a8, a9, a10, a11, a12, a13, a14, a15, a16, a17, a18, a19⟩ := id hR
  obtain ⟨t1, t2, t3, t4, t5, t6, t7, t8, t9, t10⟩ := a1
  obtain ⟨⟨B, ct, gr, PA, OU, ap, OF, W, hS, hPA, hB, h5, hOF, hWc, hWl, hpl⟩, q0, q1, q3, hU, u6, q7, q8, q9⟩ := hD
  obtain ⟨sg1, sg2⟩ := hsg
  have hn := hX.1
  have hmu := mu_l Ds nS
  have hlm := lam_le X nL
  have layb := lay_l (Ds := Ds) (Zs := Zs) (BY := BY) (lv := lv) (Fs := Fs) nS hZ
  have hstr : ∀ s : Nat, s < nS → STr n L c X nL (sR Bz 7) SW0 LW C A ns bs ws cs lu (mu Ds s) (PAz s) (BY s) (Ds s) (Qs s) (Es s) (Zs s) (Ls s) (Fs s) (N0 s) (NP s) := fun s hs => (a15 s hs).1
  have sgi : ∀ s : Nat, s < nS → ¬ (Ds s).1 = 9 → mu Ds s < sn ∧ sg (mu Ds s) = s := fun s hs h9 => by
    have m1 := mu_i (Ds := Ds) hs h9
    have hlt : mu Ds s < sn := by omega
    refine ⟨hlt, ?_⟩
    obtain ⟨w1, w2, w3⟩ := sg1 (mu Ds s) (by omega)
    rcases Nat.lt_trichotomy (sg (mu Ds s)) s with w | w | w
    · have := mu_i (Ds := Ds) w w3; omega
    · exact w
    · have := mu_i (Ds := Ds) w h9; omega
  have hTT : ∀ (U' : St) (s : Nat), s < nS → URD U' cs nl ns C A NM NR (sR U 6) → TT c X nL (Qs s) (nI (lay Ds Zs BY lv nS).1) W (NP s) ns bs ws U' := fun U' s hs hU' => by
    obtain ⟨c1, c2, c3, c4, c5, c6, c6', c7, c8, c9, c10, c11, c12, c13⟩ := hstr s hs
    obtain ⟨v1, v2, v3, v4, v5, v6, v7, v8, v9⟩ := hU'
    exact TT_1 (n0 := N0 s) (LB := LB0) (NR := NR) (NM := NM) (W0 := sR Bz 7) (by omega) t2 hWc t5 c8 c9 c10 c11 v5 v6 (fun j hj => by rw [v7]; exact u6 j 3 (by omega) (by omega) (by omega)) (fun k hk h2 => by rw [v7]; exact hpl k hk h2)
  have hSRD : ∀ s : Nat, s < nS → SRD n L c X nL W BY s (Ds s) (Qs s) (Es s) (Zs s) (Fs s) (N0 s) (AAl Zs Fs lv s) := fun s hs => by
    obtain ⟨c1, c2, c3, c4, c5, c6, c6', c7, c8, c9, c10, c11, ⟨lw, lv9, sz, ba, X0, W0, d1, d2, d3, d4, d5, d6, d7⟩, c13⟩ := hstr s hs
    obtain ⟨y1, y2, y3, y4⟩ := AAl_1 (Zs := Zs) (Fs := Fs) (lv := lv) c2 c3 (hl2 s hs)
    obtain ⟨l1, l2, l3, l4⟩ := hlv s hs
    have zk := hZ s hs
    refine ⟨y1, y2, y4, c3, ?_, c4, c5, c6, c8, lw, lv9, sz, ba, X0, W0, d1, fun k hk => ⟨(d2 k hk).1, fun h2 => ((d2 k hk).2 h2).trans (hWc k (by omega) h2).symm⟩, d3, by omega, ?_⟩
    · rcases zk with ⟨h1, h2, _⟩ | ⟨h1, h2, _⟩ | ⟨h1, h2, _⟩ | ⟨h1, h2, h3, h4, _⟩
      · exact ⟨fun _ => Or.inl h1, fun _ => by omega⟩
      · exact ⟨fun _ => Or.inr h1, fun _ => by omega⟩
      · exact ⟨fun w => by omega, fun w => by omega⟩
      · exact ⟨fun w => by omega, fun w => by omega⟩
    · rw [y3]
      by_cases z1 : (Ds s).1 = 1
      · rw [d6 z1]; exact l1 z1
      · by_cases z2 : (Ds s).1 = 2
        · rw [d7 z2]; exact l2 z2
        · have := l3 z1 z2; omega
  have hB1 : RBd L c X nL nS (lay Ds Zs BY lv nS).1 OF W (pI B 1 1) := hB
  have key := chk_J (n := n) (L := L) (c := c) hX (X := X) (nL := nL) (nS := nS) (Tz := (lay Ds Zs BY lv nS).1) (OF := OF) (W := W) ⟨by omega, fun k hk => ⟨(t7 k hk).2.1, by have := (t7 k hk).1; omega, (t7 k hk).2.2⟩⟩ (BY := BY) (OU := OU) (PA := PA) (Ds := Ds) (Qs := Qs) (Es := Es) (Zs := Zs) (Fs := Fs) (Ls := Ls) (N0 := N0) (AA := AAl Zs Fs lv) (of := ofs Ds Zs BY lv) (by omega) (by omega) (fun s hs => ⟨hSRD s hs, hPA s hs, hOF s hs, (hstr s hs).2.2.2.2.2.2.2.1⟩) (stF c X nL nS BY Ds Qs Es Zs lv W) (adN Zs (ofs Ds Zs BY lv) (lay Ds Zs BY lv nS).1) (stB c X nL nS BY Ds Qs Es Zs lv W) (fun s hs => by
    obtain ⟨c1, c2, c3, c4⟩ := hstr s hs
    obtain ⟨y1, y2, y3, y4⟩ := AAl_1 (Zs := Zs) (Fs := Fs) (lv := lv) c2 c3 (hl2 s hs)
    rw [y3]
    exact ⟨rfl, rfl⟩) (sn := sn) a13 (M := M) (Q := Q) (P := P) (cs := cs) (nl := nl) (ns := ns) (C := C) (A := A) (NM := NM) (NR := NR) (LB := sR U 6) q0 q2 (fun s hs h9 => by
    obtain ⟨i1, i2⟩ := sgi s hs h9
    obtain ⟨c1, c2, c3, c4, c5, c6, c6', c7, c8, c9, c10, c11, c12, c13⟩ := hstr s hs
    rcases c13 with z | ⟨z, le, b, cd, lt, s0, s1, u0, u1, r1, r2, r3, r4, r5, r6, r7, r8, r9, r10⟩
    · exact absurd z.1 h9
    · rw [Nat.mul_comm (mu Ds s) 8] at r1 r4
      exact ⟨(q1 (mu Ds s) 0 i1 (by omega) (by omega) (by omega)).trans r1, (q1 (mu Ds s) 4 i1 (by omega) (by omega) (by omega)).trans r4, z⟩) (fun s hs h9 v U' f hU' => by
    obtain ⟨i1, i2⟩ := sgi s hs h9
    have r23 := q3 (mu Ds s) i1
    rw [i2] at r23
    exact PT1 (Q := pI Q 3 v) hn (hstr s hs) (by omega) (hZ s hs) h9 (fun x x8 x2 x3 => q1 (mu Ds s) x i1 x8 x2 x3) r23.1 r23.2 qL (ad_ok hs hsz) (by omega) q2 (fun U9 hU9 => hTT U9 s hs hU9) hU' M P f) (fun s hs h9 => by
    obtain ⟨c1, c2, c3, c4, c5, c6, c6', c7, c8, c9, c10, c11, c12, c13⟩ := hstr s hs
    rcases c13 with z | ⟨z, _⟩
    · exact ((if_neg (by omega)).trans ((if_neg (by omega)).trans ((if_neg (by omega)).trans ((if_neg (by omega)).trans (if_neg (by omega)))))).trans z.2.1
    · omega) f0 T nS 0 n n (sI Q 3) U (pI B 1 1) (pI S 1 1) ct ap gr (by omega) (by show sn < n + 0; omega) (by omega) hU hB1 (SR_p1 hS 1)
  rw [pI_s] at key
  rcases key with ⟨t, e, U', P', S1, y1, y2, y3, y4, y5, y6, y7, B2, y8, y9⟩ | ⟨v', U', B', S', ct', ap', gr', y1, y2, y3, y4, y5, y6, y7, y8, y9⟩
  · left
    have f10 : stF c X nL nS BY Ds Qs Es Zs lv W t ≤ 10 := sF_l
    have hLt : Ls t ≤ 40000 := by
      obtain ⟨c1, c2, c3, c4, c5, c6, c6', c7, c8⟩ := hstr t y1
      have := nlC_l c (Qs t)
      have := hX.2.1
      omega
    exact ⟨stF c X nL nS BY Ds Qs Es Zs lv W t, Ls t, _, U', P', pI S1 1 0, by omega, by omega, hLt, y3, rfl, rfl, y7, rfl, (FL_f y8).1⟩
  · right
    exact ⟨W, OF, PA, OU, B', S', U', v', ct', ap', gr', y1, y2, y3, y4, y5, y6, (y8.1 5 (by decide) (by decide) (by decide) (by decide) (by decide)).trans h5, y7, hPA, hOF, hWc, hWl, hpl, fun s hs => y9 s (Nat.zero_le _) hs, hSRD⟩
