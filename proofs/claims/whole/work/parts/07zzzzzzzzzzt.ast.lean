theorem rmR_x {OU0 : Nat → Int32} {fm : Nat} {ad : Nat → Nat} {BB : Nat → List Int32} {sz Ls : Nat → Nat} {j : Nat} (hj : j < fm ∨ fm + 32768 ≤ j) : ∀ m : Nat, (∀ t : Nat, t < m → (BB t).length ≤ sz t ∧ ad t + sz t ≤ 32768) → rmR OU0 fm ad BB sz Ls m j = OU0 j := fun m => by
  induction m with
  | zero => intro _; rfl
  | succ m ih =>
    intro h
    obtain ⟨h1, h2⟩ := h m (by omega)
    show orL (wrL (rmR OU0 fm ad BB sz Ls m) (fm + ad m) (BB m)) (fm + ad m) (sz m) (Ls m) j = _
    rw [orL_p, if_neg (show ¬ (fm + ad m ≤ j ∧ j < fm + ad m + sz m) by omega), wrL_p, if_neg (show ¬ (fm + ad m ≤ j ∧ j < fm + ad m + (BB m).length) by omega)]
    exact ih (fun t ht => h t (by omega))
/-- both have assembled: the program that was made -/
def ASG (n L : Nat) (c : Nat → Nat) (M U P T : St) (rc : Option (Int32 × (St × (St × St) × St))) (rr : Option (Int32 × (St × St))) : Prop := ∃ (p : Nat) (Bz B0 : St) (sn lu ln se co : Nat) (SW0 LW : Nat → Int32) (cs ns : Nat) (C A NM BK : Nat → Int32) (bs ws : Nat → Nat) (nl : Nat) (NR LB0 : Nat → Int32) (sc X : Nat → Nat) (nL nS : Nat) (PAz BY : Nat → Int32) (Ds : Nat → Dt) (Qs Es Zs Ls Fs N0 : Nat → Nat) (NP : Nat → Nat → Int32) (lv sg : Nat → Nat) (Q1 U1 S1 : St) (W : Nat → Int32) (Q2 U2 P2 S2 : St), READ n L c p Bz sn lu ln se co SW0 LW cs ns C A NM BK bs ws nl NR LB0 sc X nL nS PAz BY Ds Qs Es Zs Ls Fs N0 NP ∧ L ≤ p ∧ p ≤ L + 1 ∧ TXT n L c B0 ∧ lvK Ds Fs lv nS ∧ ((∀ i : Nat, i < mu Ds nS → sg i < nS ∧ mu Ds (sg i) = i ∧ ¬ (Ds (sg i)).1 = 9) ∧ sg (mu Ds nS) = nS) ∧ LD n L c Bz sn SW0 cs ns C A NM nl NR LB0 X nL nS BY Ds Qs Zs Fs N0 sg lv Q1 U1 S1 ∧ szA (lay Ds Zs BY lv nS) ≤ 32768 ∧ rc = some (0, (M, ((Q2, U2), P2))) ∧ rr = some (0, (T, pI S2 1 1)) ∧ sO U2 = sO U ∧ sR U2 7 = sR U 7 ∧ sR U2 6 = sR U1 6 ∧ sI P2 0 = nI (lay Ds Zs BY lv nS).1 ∧ sI P2 1 = nI (bsN (lay Ds Zs BY lv nS).1) ∧ sI P2 2 = nI (szA (lay Ds Zs BY lv nS)) ∧ sI P2 3 = nI co ∧ sI P2 4 = nI (lcS (sR U1 6) (sR P 1) nl).1 ∧ sR P2 1 = (lcS (sR U1 6) (sR P 1) nl).2 ∧ P2.2.1 = P.2.1 ∧ P2.2.2.2 = P.2.2.2 ∧ (∀ k : Nat, k < nL → X k / 131072 = 2 → W k = sR Bz 7 k) ∧ (∀ k : Nat, k < nL → ¬ X k / 131072 = 2 → W k = nI (labV X (lay Ds Zs BY lv) N0 nS k)) ∧ (∀ k : Nat, k < nL → ¬ X k / 131072 = 2 → sR U1 6 (5 * lam X k + 2) = vlO (nI (lay Ds Zs BY lv nS).1) X W k) ∧ (∃ (B' : St) (ct ap : Nat) (gr : Bool) (PA OU OF : Nat → Int32), RBd L c X nL nS (lay Ds Zs BY lv nS).1 OF W B' ∧ sI B' 5 = nI (lay Ds Zs BY lv nS).2 ∧ SR B' ct gr PA BY OU 0 ap S2) ∧ ∀ fm : Nat, fm ≤ 98304 → ∃ (B3 S3 : St) (ct ap : Nat) (gr : Bool) (PA OU OF : Nat → Int32), df_X13_put_ n (nI fm) (pI S2 1 1) = some S3 ∧ RBd L c X nL nS (lay Ds Zs BY lv nS).1 OF W B3 ∧ sI B3 1 = 1 ∧ sI B3 5 = nI (lay Ds Zs BY lv nS).2 ∧ SR B3 ct gr PA BY OU 0 ap S3 ∧ (∀ i : Nat, i < szA (lay Ds Zs BY lv nS) → ∃ z l : Nat, z < 256 ∧ l < 2 ^ 22 ∧ sR P2 0 i = vp_nar .byte ((nI z).toInt8.toInt32) ∧ sR S3 9 (fm + i) = nI (l * 256 + z) ∧ ∀ n : Nat, 40000 < n → df_X8_lineOf n (nI i) P2 = some (nI l, P2)) ∧ (∀ j : Nat, j < fm ∨ fm + 32768 ≤ j → sR S3 9 j = sR S2 9 j)
theorem AS_J {n L : Nat} {c : Nat → Nat} {M U P T : St} {rc : Option (Int32 × (St × (St × St) × St))} {rr : Option (Int32 × (St × St))} (h : ASUC n L c M U P T rc rr) : ASG n L c M U P T rc rr := by
  obtain ⟨p, Bz, B0, sn, lu, ln, se, co, SW0, LW, cs, ns, C, A, NM, BK, bs, ws, nl, NR, LB0, sc, X, nL, nS, PAz, BY, Ds, Qs, Es, Zs, Ls, Fs, N0, NP, lv, sg, Q1, U1, S1, rcx, hR, hp0, hp1, hX, hlv, hsg, hD, g1, g2, g6, o1, o2, big, eC, hK⟩ := h
  obtain ⟨W, OF, PA, OU, B', S', U', v', ct, ap, gr, k1, k2, k3, k4, k5, k6, k7, k8, k9, k10, k11, k12, k13, k14, k15⟩ := hK
  have hL := hX.2.1
  have hn := hX.1
  obtain ⟨hZ, hl2⟩ := RD_Z hR (by omega) hlv
  obtain ⟨a1, a2, a3, a4, a5, a6, a7, a8, a9, a10, a11, a12, a13, a14, a15, a16, a17, a18, a19⟩ := id hR
  obtain ⟨t1, t2, t3, t4, t5, t6, t7, t8, t9, t10⟩ := a1
  obtain ⟨hRef, q0, q1, q3, hU, u6, q7, q8, q9⟩ := id hD
  obtain ⟨sg1, sg2⟩ := id hsg
  have hmu := mu_l Ds nS
  have hlm := lam_le X nL
  have layb := lay_l (Ds := Ds) (Zs := Zs) (BY := BY) (lv := lv) (Fs := Fs) nS hZ
  have hstr : ∀ s : Nat, s < nS → STr n L c X nL (sR Bz 7) SW0 LW C A ns bs ws cs lu (mu Ds s) (PAz s) (BY s) (Ds s) (Qs s) (Es s) (Zs s) (Ls s) (Fs s) (N0 s) (NP s) := fun s hs => (a15 s hs).1
  have e9 : sI Q1 9 = nI (szA (lay Ds Zs BY lv nS)) := by
    rw [q9]
    exact szA_n (by omega)
  have u9 : sI U' 9 = nI nl := k2.2.1
  have ur6 : sR U' 6 = sR U1 6 := k2.2.2.2.2.2.2.1
  obtain ⟨P2, d1, d2⟩ := dsC (n := n) (nl := nl) (sn := sn) (M := M) (Q := pI Q1 3 v') (U := U') (P := pR P 0 (imC (nd_fl 32768 (vp_nar .byte 0) (sR P 0)) (adN Zs (ofs Ds Zs BY lv) (lay Ds Zs BY lv nS).1) (stB c X nL nS BY Ds Qs Es Zs lv W) nS)) hn q0 (by omega) u9 (by omega)
  obtain ⟨m5, m2, m3, m4, m1, mI, mR, mx, my⟩ := d2
  rw [ur6] at m4 m1
  have eRc : rc = some (0, (M, ((pI Q1 3 v', U'), P2))) := by
    rw [eC, k1, nb_b1]
    unfold df_X1_make_118 df_X1_make_130 df_X1_make_153
    rw [if_pos (show sI ((M, ((pI Q1 3 v', U'), pR P 0 (imC (nd_fl 32768 (vp_nar .byte 0) (sR P 0)) (adN Zs (ofs Ds Zs BY lv) (lay Ds Zs BY lv nS).1) (stB c X nL nS BY Ds Qs Es Zs lv W) nS))) : St × (St × St) × St).2.1.1 2 = 0 from g2), d1, nb_b1, if_pos (show sI ((M, ((pI Q1 3 v', U'), P2)) : St × (St × St) × St).2.1.1 2 = 0 from g2)]
  have hsz0 : ∀ s : Nat, s < nS → 0 < szN (Ds s) (BY s) (lv s) (ofs Ds Zs BY lv s) → mu Ds s < sn ∧ sg (mu Ds s) = s := fun s hs hpos => by
    have h9 : ¬ (Ds s).1 = 9 := fun w => by
      have := (sz_1 (hZ s hs) (ofs Ds Zs BY lv s)).2.1 w
      omega
    have m1 := mu_i (Ds := Ds) hs h9
    have hlt : mu Ds s < sn := by omega
    refine ⟨hlt, ?_⟩
    obtain ⟨w1, w2, w3⟩ := sg1 (mu Ds s) (by omega)
    rcases Nat.lt_trichotomy (sg (mu Ds s)) s with w | w | w
    · have := mu_i (Ds := Ds) w w3; omega
    · exact w
    · have := mu_i (Ds := Ds) w h9; omega
  have hrows : ∀ i : Nat, i < sn → sR Q1 0 (8 * i + 2) = nI (adN Zs (ofs Ds Zs BY lv) (lay Ds Zs BY lv nS).1 (sg i)) ∧ sR Q1 0 (8 * i + 3) = nI (szN (Ds (sg i)) (BY (sg i)) (lv (sg i)) (ofs Ds Zs BY lv (sg i))) ∧ sR Q1 0 (8 * i) = nI (Ls (sg i)) ∧ sg i < nS ∧ mu Ds (sg i) = i := fun i hi => by
    obtain ⟨w1, w2, w3⟩ := sg1 i (by omega)
    refine ⟨(q3 i hi).1, (q3 i hi).2, ?_, w1, w2⟩
    obtain ⟨c1, c2, c3, c4, c5, c6, c6', c7, c8, c9, c10, c11, c12, c13⟩ := hstr (sg i) w1
    rcases c13 with z | ⟨z, le, b, cd, lt, s0, s1, u0, u1, r1, r2⟩
    · exact absurd z.1 w3
    · rw [w2, Nat.mul_comm i 8] at r1
      exact (q1 i 0 hi (by omega) (by omega) (by omega)).trans r1
  have hLs : ∀ s : Nat, s < nS → Ls s ≤ 40000 := fun s hs => by
    obtain ⟨c1, c2, c3, c4, c5, c6, c6', c7, c8⟩ := hstr s hs
    have := nlC_l c (Qs s)
    omega
  have hBB : ∀ s : Nat, s < nS → (stB c X nL nS BY Ds Qs Es Zs lv W s).length ≤ szN (Ds s) (BY s) (lv s) (ofs Ds Zs BY lv s) ∧ adN Zs (ofs Ds Zs BY lv) (lay Ds Zs BY lv nS).1 s + szN (Ds s) (BY s) (lv s) (ofs Ds Zs BY lv s) ≤ 32768 := fun s hs => by
    refine ⟨?_, ad_ok hs big⟩
    unfold stB
    rw [sB_l]
    exact sZ_le (hstr s hs) (by omega) (hZ s hs) _
  have p0 : sI P2 0 = nI (lay Ds Zs BY lv nS).1 := (mI 0 (by decide) (by decide)).trans q7
  have p1 : sI P2 1 = nI (bsN (lay Ds Zs BY lv nS).1) := (mI 1 (by decide) (by decide)).trans q8
  have p2 : sI P2 2 = nI (szA (lay Ds Zs BY lv nS)) := (mI 2 (by decide) (by decide)).trans e9
  have p3 : sI P2 3 = nI co := (mI 3 (by decide) (by decide)).trans g6
  have hsz : szA ((lay Ds Zs BY lv nS).1, (lay Ds Zs BY lv nS).2) ≤ 32768 := big
  refine ⟨p, Bz, B0, sn, lu, ln, se, co, SW0, LW, cs, ns, C, A, NM, BK, bs, ws, nl, NR, LB0, sc, X, nL, nS, PAz, BY, Ds, Qs, Es, Zs, Ls, Fs, N0, NP, lv, sg, Q1, U1, S1, W, pI Q1 3 v', U', P2, S', hR, hp0, hp1, hX, hlv, hsg, hD, big, eRc, k5, k3.trans o1, k4.trans o2, ur6, p0, p1, p2, p3, m4, m1, mx, my, k11, k12, k13, ⟨B', ct, ap, gr, PA, OU, OF, k6, k7, k8⟩, fun fm hfm => ?_⟩
  have hB1 : RBd L c X nL nS (lay Ds Zs BY lv nS).1 OF W (pI B' 1 1) := k6
  obtain ⟨B3, S3, ct3, ap3, gr3, w1, w2, w3, w4, w5⟩ := wr_J (n := n) hX (X := X) (nL := nL) (nS := nS) (Tz := (lay Ds Zs BY lv nS).1) (dz := (lay Ds Zs BY lv nS).2) (OF := OF) (W := W) ⟨by omega, fun k hk => ⟨(t7 k hk).2.1, by have := (t7 k hk).1; omega, (t7 k hk).2.2⟩⟩ (BY := BY) (PA := PA) (Ds := Ds) (Qs := Qs) (Es := Es) (Zs := Zs) (Fs := Fs) (N0 := N0) (AA := AAl Zs Fs lv) (of := ofs Ds Zs BY lv) (lv := lv) (Ls := Ls) (ad := adN Zs (ofs Ds Zs BY lv) (lay Ds Zs BY lv nS).1) (sz := fun s => szN (Ds s) (BY s) (lv s) (ofs Ds Zs BY lv s)) (BB := stB c X nL nS BY Ds Qs Es Zs lv W) (fm := fm) hfm (by omega) (by omega) (fun s hs => by
    obtain ⟨c1, c2, c3, c4, c5, c6, c6', c7, c8⟩ := hstr s hs
    obtain ⟨y1, y2, y3, y4⟩ := AAl_1 (Zs := Zs) (Fs := Fs) (lv := lv) c2 c3 (hl2 s hs)
    exact ⟨k15 s hs, k9 s hs, k10 s hs, c7, y3, hZ s hs, rfl, rfl, sZ_le (hstr s hs) (by omega) (hZ s hs) _, (hBB s hs).2, rfl, (a15 s hs).2.2⟩) (B := pI B' 1 1) (S := pI S' 1 1) (OU := OU) hB1 rfl k7 hsz (SR_p1 k8 1)
  have hPG := PG_J (ad := adN Zs (ofs Ds Zs BY lv) (lay Ds Zs BY lv nS).1) (sz := fun s => szN (Ds s) (BY s) (lv s) (ofs Ds Zs BY lv s)) (Ls := Ls) (fun s hs => ⟨rfl, rfl⟩) big (sn := sn) (by omega) (sg := sg) (SW := sR Q1 0) hrows hsz0 hLs (BB := stB c X nL nS BY Ds Qs Es Zs lv W) hBB (P := P2) (g0 := sR P 0) p0 p1 p2 m5 m2 m3 ((mR 0 (by decide) (by decide) (by decide)).trans pR_e) fm OU
  refine ⟨B3, S3, ct3, ap3, gr3, PA, _, OF, w1, w2, w4, w5, w3, fun i hi => ?_, fun j hj => ?_⟩
  · obtain ⟨z, l, y1, y2, y3, y4, y5⟩ := hPG i hi
    exact ⟨z, l, y1, y2, y3, by rw [SR_r9 w3]; exact y4, y5⟩
  · rw [SR_r9 w3, SR_r9 k8, rmR_x hj nS (fun t ht => hBB t ht)]
    exact if_neg (by omega)
