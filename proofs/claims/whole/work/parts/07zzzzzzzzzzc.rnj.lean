/-- levels, and the reference's rows with them -/
def lvK (Ds : Nat → Dt) (Fs lv : Nat → Nat) (nS : Nat) : Prop := ∀ s : Nat, s < nS → ((Ds s).1 = 1 → lv s ≤ 1) ∧ ((Ds s).1 = 2 → lv s ≤ 2) ∧ (¬ (Ds s).1 = 1 → ¬ (Ds s).1 = 2 → lv s = 0) ∧ Fs s % 4 ≤ lv s
def AAl (Zs Fs lv : Nat → Nat) (s : Nat) : Nat := 4 * Zs s + Fs s / 8 * 8 + lv s
theorem AAl_1 {Zs Fs lv : Nat → Nat} {s : Nat} (hz : Zs s < 2) (hf : Fs s = 0 ∨ Fs s = 8 ∨ Fs s = 16 ∨ Fs s = 25) (hl : lv s ≤ 2) : AAl Zs Fs lv s < 64 ∧ AAl Zs Fs lv s / 4 % 2 = Zs s ∧ AAl Zs Fs lv s % 4 = lv s ∧ AAl Zs Fs lv s / 8 = Fs s / 8 := by
  unfold AAl
  rcases hf with h | h | h | h <;> (rw [h]; omega)
/-- one round begins: both states -/
def RJ (n L : Nat) (c : Nat → Nat) (Bz : St) (sn : Nat) (SW0 : Nat → Int32) (cs ns : Nat) (C A NM : Nat → Int32) (nl : Nat) (NR LB0 : Nat → Int32) (X : Nat → Nat) (nL nS : Nat) (BY : Nat → Int32) (Ds : Nat → Dt) (Qs Zs Fs sg lv : Nat → Nat) (Q U S : St) : Prop := (∃ (B : St) (ct : Nat) (gr : Bool) (PA OU : Nat → Int32) (ap : Nat), SR B ct gr PA BY OU 0 ap S ∧ (∀ s : Nat, s < nS → PA s = nI (AAl Zs Fs lv s * 2 ^ 17 + Qs s)) ∧ sI B 0 = nI L ∧ (∀ i : Nat, i < L → sR B 2 i = nI (c i)) ∧ sI B 2 = nI nS ∧ sI B 3 = nI nL ∧ (∀ k : Nat, k < nL → sR B 6 k = nI (X k)) ∧ (∀ k : Nat, k < nL → X k / 131072 = 2 → sR B 7 k = sR Bz 7 k) ∧ cstS B ∧ (∃ l : Nat, sI B 13 = nI l ∧ l ≤ 40000)) ∧ sI Q 0 = nI sn ∧ (∀ i x : Nat, i < sn → x < 8 → ¬ x = 2 → ¬ x = 3 → sR Q 0 (8 * i + x) = SW0 (8 * i + x)) ∧ (∀ i : Nat, i < sn → ¬ (Ds (sg i)).1 = 8 → sR Q 0 (8 * i + 3) = nI (szN (Ds (sg i)) (BY (sg i)) (lv (sg i)) 0)) ∧ URD U cs nl ns C A NM NR (sR U 6) ∧ (∀ j x : Nat, j < nl → x < 5 → ¬ x = 2 → sR U 6 (5 * j + x) = LB0 (5 * j + x))
/-- all is laid out: both states -/
def LD (n L : Nat) (c : Nat → Nat) (Bz : St) (sn : Nat) (SW0 : Nat → Int32) (cs ns : Nat) (C A NM : Nat → Int32) (nl : Nat) (NR LB0 : Nat → Int32) (X : Nat → Nat) (nL nS : Nat) (BY : Nat → Int32) (Ds : Nat → Dt) (Qs Zs Fs N0 sg lv : Nat → Nat) (Q U S : St) : Prop := (∃ (B : St) (ct : Nat) (gr : Bool) (PA OU : Nat → Int32) (ap : Nat) (OF W : Nat → Int32), SR B ct gr PA BY OU 0 ap S ∧ (∀ s : Nat, s < nS → PA s = nI (AAl Zs Fs lv s * 2 ^ 17 + Qs s)) ∧ RBd L c X nL nS (lay Ds Zs BY lv nS).1 OF W B ∧ sI B 5 = nI (lay Ds Zs BY lv nS).2 ∧ (∀ s : Nat, s < nS → OF s = nI (ofs Ds Zs BY lv s)) ∧ (∀ k : Nat, k < nL → X k / 131072 = 2 → W k = sR Bz 7 k) ∧ (∀ k : Nat, k < nL → ¬ X k / 131072 = 2 → W k = nI (labV X (lay Ds Zs BY lv) N0 nS k)) ∧ (∀ k : Nat, k < nL → ¬ X k / 131072 = 2 → sR U 6 (5 * lam X k + 2) = vlO (nI (lay Ds Zs BY lv nS).1) X W k)) ∧ sI Q 0 = nI sn ∧ (∀ i x : Nat, i < sn → x < 8 → ¬ x = 2 → ¬ x = 3 → sR Q 0 (8 * i + x) = SW0 (8 * i + x)) ∧ (∀ i : Nat, i < sn → sR Q 0 (8 * i + 2) = nI (adN Zs (ofs Ds Zs BY lv) (lay Ds Zs BY lv nS).1 (sg i)) ∧ sR Q 0 (8 * i + 3) = nI (szN (Ds (sg i)) (BY (sg i)) (lv (sg i)) (ofs Ds Zs BY lv (sg i)))) ∧ URD U cs nl ns C A NM NR (sR U 6) ∧ (∀ j x : Nat, j < nl → x < 5 → ¬ x = 2 → sR U 6 (5 * j + x) = LB0 (5 * j + x)) ∧ sI Q 7 = nI (lay Ds Zs BY lv nS).1 ∧ sI Q 8 = nI (bsN (lay Ds Zs BY lv nS).1) ∧ sI Q 9 = (if nI (lay Ds Zs BY lv nS).2 ≤ 0 then nI (lay Ds Zs BY lv nS).1 else nI (bsN (lay Ds Zs BY lv nS).1) + nI (lay Ds Zs BY lv nS).2)
theorem pR_i0 {S : St} {f : Nat → Int32} {v : Int32} : sR (pI (pR S 0 f) 9 v) 0 = f := (pR_e : sR (pR S 0 f) 0 = f)
theorem URD_6 {U : St} {cs nl ns : Nat} {C A NM NR LB f : Nat → Int32} (h : URD U cs nl ns C A NM NR LB) : URD (pR U 6 f) cs nl ns C A NM NR f := ⟨h.1, h.2.1, h.2.2.1, h.2.2.2.1, h.2.2.2.2.1, h.2.2.2.2.2.1, pR_e, h.2.2.2.2.2.2.2.1, h.2.2.2.2.2.2.2.2⟩
theorem szN_o {D : Dt} {bb : Int32} {l o o' : Nat} (h : ¬ D.1 = 8) : szN D bb l o = szN D bb l o' := by
  unfold szN
  rw [if_neg h, if_neg h]
theorem SR_yL {B : St} {ct : Nat} {gr : Bool} {PA BY OU : Nat → Int32} {ft : Int32} {ap : Nat} {S : St} (h : SR B ct gr PA BY OU ft ap S) (t d : Nat) (OF W : Nat → Int32) : SR (yL B t d OF W) ct gr PA BY OU ft ap (yL S t d OF W) := by
  obtain ⟨ms, dv, ls, sg, vl, PL, tk, fr, to, nm, rfl⟩ := h
  refine ⟨ms, dv, ls, sg, vl, PL, tk, fr, to, nm, Prod.ext (funext fun j => ?_) (Prod.ext rfl (Prod.ext (funext fun j => ?_) rfl))⟩
  · show (if j = 4 then nI t else if j = 5 then nI d else _) = _
    by_cases h4 : j = 4
    · subst h4; rfl
    · by_cases h5 : j = 5
      · subst h5; rfl
      · unfold uR xR yR yL
        simp only [if_neg h4, if_neg h5]
  · show (if j = 4 then OF else if j = 7 then W else _) = _
    by_cases h4 : j = 4
    · subst h4; rfl
    · by_cases h7 : j = 7
      · subst h7; rfl
      · unfold uR xR yR yL
        simp only [if_neg h4, if_neg h7]
/-- what READ says of the lengths -/
theorem RD_Z {n L : Nat} {c : Nat → Nat} {p : Nat} {Bz : St} {sn lu ln se co : Nat} {SW0 LW : Nat → Int32} {cs ns : Nat} {C A NM BK : Nat → Int32} {bs ws : Nat → Nat} {nl : Nat} {NR LB0 : Nat → Int32} {sc X : Nat → Nat} {nL nS : Nat} {PAz BY : Nat → Int32} {Ds : Nat → Dt} {Qs Es Zs Ls Fs N0 : Nat → Nat} {NP : Nat → Nat → Int32} (hR : READ n L c p Bz sn lu ln se co SW0 LW cs ns C A NM BK bs ws nl NR LB0 sc X nL nS PAz BY Ds Qs Es Zs Ls Fs N0 NP) (hp : p ≤ 40000) {lv : Nat → Nat} (hlv : lvK Ds Fs lv nS) : (∀ s : Nat, s < nS → ZK (Ds s) (BY s) (Fs s) (lv s)) ∧ (∀ s : Nat, s < nS → lv s ≤ 2) := by
  obtain ⟨a1, a2, a3, a4, a5, a6, a7, a8, a9, a10, a11, a12, a13, a14, a15, a16, a17, a18, a19⟩ := hR
  constructor
  · intro s hs
    obtain ⟨l1, l2, l3, l4⟩ := hlv s hs
    exact STr_z (a15 s hs).1 (by omega) (lv s) l1 l2 l3
  · intro s hs
    obtain ⟨l1, l2, l3, l4⟩ := hlv s hs
    by_cases z : (Ds s).1 = 1
    · have := l1 z; omega
    · by_cases y : (Ds s).1 = 2
      · have := l2 y; omega
      · have := l3 z y; omega
/-- addresses in both -/
theorem RJ_L {n L : Nat} {c : Nat → Nat} {p : Nat} {Bz : St} {sn lu ln se co : Nat} {SW0 LW : Nat → Int32} {cs ns : Nat} {C A NM BK : Nat → Int32} {bs ws : Nat → Nat} {nl : Nat} {NR LB0 : Nat → Int32} {sc X : Nat → Nat} {nL nS : Nat} {PAz BY : Nat → Int32} {Ds : Nat → Dt} {Qs Es Zs Ls Fs N0 : Nat → Nat} {NP : Nat → Nat → Int32} (hR : READ n L c p Bz sn lu ln se co SW0 LW cs ns C A NM BK bs ws nl NR LB0 sc X nL nS PAz BY Ds Qs Es Zs Ls Fs N0 NP) (hp : p ≤ 32769) (hn : 70000 < n) {lv : Nat → Nat} (hlv : lvK Ds Fs lv nS) {sg : Nat → Nat} (hsg : (∀ i : Nat, i < mu Ds nS → sg i < nS ∧ mu Ds (sg i) = i ∧ ¬ (Ds (sg i)).1 = 9) ∧ sg (mu Ds nS) = nS) {Q U S : St} (hJ : RJ n L c Bz sn SW0 cs ns C A NM nl NR LB0 X nL nS BY Ds Qs Zs Fs sg lv Q U S) : ∃ Q1 U1 S1 : St, df_X1_findAddresses n (Q, U) = some (Q1, U1) ∧ df_X13_layout n S = some S1 ∧ LD n L c Bz sn SW0 cs ns C A NM nl NR LB0 X nL nS BY Ds Qs Zs Fs N0 sg lv Q1 U1 S1 ∧ (∀ j : Nat, ¬ j = 7 → ¬ j = 8 → ¬ j = 9 → sI Q1 j = sI Q j) ∧ sR Q1 1 = sR Q 1 ∧ sO U1 = sO U ∧ sR U1 7 = sR U 7 := by
  obtain ⟨hZ, hl2⟩ := RD_Z hR (by omega) hlv
  obtain ⟨a1, a2, a3, a4, a5, a6, a7, a8, a9, a10, a11, a12, a13, a14, a15, a16, a17, a18, a19⟩ := id hR
  obtain ⟨t1, t2, t3, t4, t5, t6, t7, t8, t9, t10⟩ := a1
  obtain ⟨⟨B, ct, gr, PA, OU, ap, hS, hPA, b0, b2, bn, b3, b6, b7, bc, bl⟩, q0, q1, q2, hU, u6⟩ := hJ
  obtain ⟨sg1, sg2⟩ := hsg
  have hmu := mu_l Ds nS
  have hlm := lam_le X nL
  have sgm : ∀ i : Nat, i ≤ sn → sg i ≤ nS ∧ mu Ds (sg i) = i := fun i hi => by
    by_cases z : i < sn
    · obtain ⟨w1, w2, w3⟩ := sg1 i (by omega)
      exact ⟨by omega, w2⟩
    · have : i = mu Ds nS := by omega
      rw [this, sg2]
      exact ⟨Nat.le_refl _, rfl⟩
  obtain ⟨ek, hek⟩ := ek_ex X nL
  rw [← t4] at hek
  have ekm : ∀ j j' : Nat, j < j' → j' < nl → ek j < ek j' := fun j j' h1 h2 => Nat.not_le.mp fun w => by
    obtain ⟨x1, x2, x3⟩ := hek j (by omega)
    obtain ⟨y1, y2, y3⟩ := hek j' h2
    have := lam_m X (ek j - ek j') (ek j')
    rw [show ek j' + (ek j - ek j') = ek j by omega] at this
    omega
  have eke : ∀ k : Nat, k < nL → ¬ X k / 131072 = 2 → lam X k < nl ∧ ek (lam X k) = k := fun k hk h2 => by
    have l1 := lam_l hk h2
    rw [← t4] at l1
    refine ⟨l1, ?_⟩
    obtain ⟨y1, y2, y3⟩ := hek (lam X k) l1
    rcases Nat.lt_trichotomy (ek (lam X k)) k with w | w | w
    · have := lam_i (X := X) y3 w; omega
    · exact w
    · have := lam_i (X := X) h2 w; omega
  have hstr : ∀ s : Nat, s < nS → STr n L c X nL (sR Bz 7) SW0 LW C A ns bs ws cs lu (mu Ds s) (PAz s) (BY s) (Ds s) (Qs s) (Es s) (Zs s) (Ls s) (Fs s) (N0 s) (NP s) := fun s hs => (a15 s hs).1
  have layb := lay_l (Ds := Ds) (Zs := Zs) (BY := BY) (lv := lv) (Fs := Fs) nS hZ
  have hF : ∀ i : Nat, i < sn → lay Ds Zs BY lv (sg (i + 1)) = lay Ds Zs BY lv (sg i + 1) := fun i hi => by
    obtain ⟨w1, w2, w3⟩ := sg1 i (by omega)
    refine lay_e (Zs := Zs) hZ (sgm (i + 1) (by omega)).1 (by omega) ?_
    rw [(sgm (i + 1) (by omega)).2, mu_s, if_neg w3, w2]
  have row : ∀ i : Nat, i < sn → SW0 (8 * i + 1) = nI (Zs (sg i)) ∧ SW0 (8 * i + 4) = nI (Ds (sg i)).1 ∧ (Ds (sg i)).1 ≤ 8 ∧ Zs (sg i) < 2 ∧ ((Ds (sg i)).1 = 8 → ∃ k : Nat, k ≤ 10 ∧ SW0 (8 * i + 5) = (1 : Int32) <<< (nI k &&& 31) ∧ BY (sg i) = -1 - nI k) := fun i hi => by
    obtain ⟨w1, w2, w3⟩ := sg1 i (by omega)
    obtain ⟨c1, c2, c3, c4, c5, c6, c6', c7, c8, c9, c10, c11, c12, c13⟩ := hstr (sg i) w1
    rcases c13 with z | ⟨z, le, b, cd, lt, s0, s1, u0, u1, r1, r2, r3, r4, r5, r6, r7, r8, r9, r10⟩
    · exact absurd z.1 w3
    · rw [w2, Nat.mul_comm i 8] at r1 r2 r3 r4 r5 r6 r7
      refine ⟨r2, r4, z, c2, fun h8 => ?_⟩
      rcases r8 with h | h | h | h | h | h | h | h | h
      iterate 8 (exact absurd h.1 (by omega))
      obtain ⟨k1, k2, k3, k, k4, k5, k6, k7⟩ := h
      exact ⟨k, k4, by rw [r5, k6], k7⟩
  have hfa := fa_C (n := n) (Q := Q) (U := U) (sn := sn) (nl := nl) hn q0 hU.2.1 (by omega) (by omega) (fun j => sc (ek j)) (fun j => if X (ek j) / 131072 = 1 ∨ X (ek j) / 131072 = 4 then 1 else 0) (fun j => by show (if _ then 1 else 0) < 2; split <;> omega) (fun j j' h1 h2 => a17 _ _ (ekm j j' h1 h2) (hek j' h2).1) (fun j hj => a18 _ (hek j hj).1) (fun j hj => by
    obtain ⟨y1, y2, y3⟩ := hek j hj
    obtain ⟨l1, l2, l3⟩ := t6 (ek j) y1 y3
    rw [y2] at l1 l2
    refine ⟨?_, ?_⟩
    · rw [show 5 * j = 5 * j + 0 by omega, u6 j 0 hj (by omega) (by omega), show 5 * j + 0 = 5 * j by omega]; exact l1
    · rw [u6 j 1 hj (by omega) (by omega)]; exact l2) (fun i => lay Ds Zs BY lv (sg i)) (by
    have : lay Ds Zs BY lv (sg 0) = lay Ds Zs BY lv 0 := lay_e (Zs := Zs) hZ (sgm 0 (by omega)).1 (by omega) (sgm 0 (by omega)).2
    exact this) (by
    show (lay Ds Zs BY lv (sg sn)).1 ≤ 2 ^ 30
    rw [a13, sg2]; omega) (fun i => Zs (sg i)) (fun i => (Ds (sg i)).1) (fun i => szN (Ds (sg i)) (BY (sg i)) (lv (sg i)) (ofs Ds Zs BY lv (sg i))) (fun i => ofs Ds Zs BY lv (sg i)) (fun i hi => by
    obtain ⟨w1, w2, w3⟩ := sg1 i (by omega)
    obtain ⟨r1, r2, r3, r4, r5⟩ := row i hi
    obtain ⟨z1, z2, z3, z4, z5⟩ := sz_1 (hZ (sg i) w1) (ofs Ds Zs BY lv (sg i))
    refine ⟨r4, rfl, ?_, by rw [q1 i 1 hi (by omega) (by omega) (by omega)]; exact r1, by rw [q1 i 4 hi (by omega) (by omega) (by omega)]; exact r2, by omega, fun h8 => ?_, fun h8 => ?_⟩
    · show lay Ds Zs BY lv (sg (i + 1)) = _
      rw [hF i hi]
      show (if Zs (sg i) = 1 then _ else _) = (if Zs (sg i) = 1 then _ else _)
      by_cases y : Zs (sg i) = 1
      · rw [if_pos y, if_pos y]
        have : ofs Ds Zs BY lv (sg i) = (lay Ds Zs BY lv (sg i)).2 := if_pos y
        rw [this]
      · rw [if_neg y, if_neg y]
        have : ofs Ds Zs BY lv (sg i) = (lay Ds Zs BY lv (sg i)).1 := if_neg y
        rw [this]
    · obtain ⟨k, k1, k2, k3⟩ := r5 h8
      have am := al_m ⟨k, by omega⟩
      rw [z3 h8, q1 i 5 hi (by omega) (by omega) (by omega), k2, k3]
      rw [show ((1 : Int32) <<< ((-1 - (-1 - nI k)) &&& 31)) - 1 = nI (2 ^ k - 1) from am.1, show (1 : Int32) <<< (nI k &&& 31) - 1 = nI (2 ^ k - 1) from am.2.1]
    · rw [q2 i hi h8]
      exact congrArg nI (szN_o h8)) (fun j => if X (ek j) / 131072 = 1 ∨ X (ek j) / 131072 = 4 then (lay Ds Zs BY lv (sg (sc (ek j)))).2 else (lay Ds Zs BY lv (sg (sc (ek j)))).1) (fun j hj => by
    show (if X (ek j) / 131072 = 1 ∨ X (ek j) / 131072 = 4 then _ else _) = if (if X (ek j) / 131072 = 1 ∨ X (ek j) / 131072 = 4 then 1 else 0) = 0 then _ else _
    by_cases y : X (ek j) / 131072 = 1 ∨ X (ek j) / 131072 = 4
    · rw [if_pos y, if_pos y, if_neg (show ¬ (1 : Nat) = 0 by decide)]
    · rw [if_neg y, if_neg y, if_pos (show (0 : Nat) = 0 from rfl)])
  have esn : sg sn = nS := by rw [a13, sg2]
  have hly := ly_R (n := n) (S := S) (nS := nS) (nL := nL) (X := X) (Ds := Ds) (Zs := Zs) (Qs := Qs) (Fs := Fs) (N0 := N0) (AA := AAl Zs Fs lv) (BY := BY) (lv := lv) hn ⟨(SR_2 hS).trans bn, (SR_3 hS).trans b3, by omega, by omega, fun k hk => ⟨by rw [SR_r6 hS]; exact b6 k hk, by have := (t7 k hk).2.1; omega, by have := (t7 k hk).1; omega⟩, a16, fun s hs => by
    obtain ⟨c1, c2, c3, c4, c5, c6, c6', c7, c8, c9, c10, c11, c12, c13⟩ := hstr s hs
    obtain ⟨g1, g2, g3, g4⟩ := AAl_1 (Zs := Zs) (Fs := Fs) (lv := lv) c2 c3 (hl2 s hs)
    exact ⟨by rw [SR_r3 hS]; exact hPA s hs, g1, by have := (a15 s hs).2.1; omega, g2, g3, g4, by rw [SR_r5 hS], hZ s hs, c8, c9, c10⟩⟩
  have hyL := SR_yL hS (lay Ds Zs BY lv nS).1 (lay Ds Zs BY lv nS).2 (fun i => if i < nS then nI (ofs Ds Zs BY lv i) else sR S 4 i) (fun k => if k < nL ∧ ¬ X k / 131072 = 2 then nI (labV X (lay Ds Zs BY lv) N0 nS k) else sR S 7 k)
  simp only [esn] at hfa
  refine ⟨_, _, _, hfa, hly, ⟨⟨yL B (lay Ds Zs BY lv nS).1 (lay Ds Zs BY lv nS).2 (fun i => if i < nS then nI (ofs Ds Zs BY lv i) else sR S 4 i) (fun k => if k < nL ∧ ¬ X k / 131072 = 2 then nI (labV X (lay Ds Zs BY lv) N0 nS k) else sR S 7 k), ct, gr, PA, OU, ap, (fun i => if i < nS then nI (ofs Ds Zs BY lv i) else sR S 4 i), (fun k => if k < nL ∧ ¬ X k / 131072 = 2 then nI (labV X (lay Ds Zs BY lv) N0 nS k) else sR S 7 k), hyL, hPA, ⟨b0, b2, bn, b3, b6, rfl, rfl, rfl, bc, bl⟩, rfl, fun s hs => if_pos hs, fun k hk h2 => ?_, fun k hk h2 => if_pos ⟨hk, h2⟩, fun k hk h2 => ?_⟩, q0, fun i x hi hx h2 h3 => ?_, fun i hi => ⟨?_, ?_⟩, by rw [pR_e]; exact URD_6 hU, fun j x hj hx h2 => ?_, rfl, rfl, rfl⟩, fun j h7 h8 h9 => ?_, rfl, rfl, rfl⟩
  · show (if k < nL ∧ ¬ X k / 131072 = 2 then _ else sR S 7 k) = _
    rw [if_neg (fun u => u.2 h2), SR_r7 hS]; exact b7 k hk h2
  · obtain ⟨l1, l2⟩ := eke k hk h2
    rw [pR_e]
    have e1 : lay Ds Zs BY lv (sg (sc k)) = lay Ds Zs BY lv (sK N0 nS k) := lay_e (Zs := Zs) hZ (sgm (sc k) (a18 k hk)).1 (sK_1 N0 nS k).1 (by rw [(sgm (sc k) (a18 k hk)).2, sK_m a13 a18 a19 hk])
    unfold vlO
    dsimp only
    rw [if_pos (show k < nL ∧ ¬ X k / 131072 = 2 from ⟨hk, h2⟩)]
    have ed : (5 * lam X k + 2) / 5 = lam X k := by omega
    have em : (5 * lam X k + 2) % 5 = 2 := by omega
    have ev : LBf (sR U 6) (fun j => if X (ek j) / 131072 = 1 ∨ X (ek j) / 131072 = 4 then (lay Ds Zs BY lv (sg (sc (ek j)))).2 else (lay Ds Zs BY lv (sg (sc (ek j)))).1) nl (5 * lam X k + 2) = nI (labV X (lay Ds Zs BY lv) N0 nS k) := by
      unfold LBf
      rw [if_pos ⟨by omega, em⟩, ed]
      dsimp only
      rw [l2, e1]
      rfl
    unfold LBm
    by_cases y : X k / 131072 = 1 ∨ X k / 131072 = 4
    · rw [if_pos ⟨by omega, em, by rw [ed]; dsimp only; rw [l2, if_pos y]⟩, if_pos y, ev, bs_R (by omega), Int32.add_comm]
    · rw [if_neg (fun u => by rw [ed] at u; dsimp only at u; rw [l2, if_neg y] at u; omega), if_neg y, ev]
  · rw [pR_i0]
    unfold SWm
    rw [if_neg (by omega), SWf_r hx h2 h3]
    exact q1 i x hi hx h2 h3
  · rw [pR_i0]
    have ed : (8 * i + 2) / 8 = i := by omega
    have ev : SWf (sR Q 0) (fun i => ofs Ds Zs BY lv (sg i)) (fun i => szN (Ds (sg i)) (BY (sg i)) (lv (sg i)) (ofs Ds Zs BY lv (sg i))) sn (8 * i + 2) = nI (ofs Ds Zs BY lv (sg i)) := by
      unfold SWf
      rw [if_pos ⟨by omega, by omega⟩, ed]
    unfold SWm adN
    by_cases y : Zs (sg i) = 1
    · rw [if_pos ⟨by omega, by omega, by rw [ed]; exact y⟩, if_pos y, ev, nI_add]
    · rw [if_neg (fun u => by rw [ed] at u; exact y u.2.2), if_neg y, ev]
      rfl
  · rw [pR_i0]
    unfold SWm
    rw [if_neg (by omega)]
    unfold SWf
    rw [if_neg (by omega), if_pos ⟨by omega, by omega⟩, show (8 * i + 3) / 8 = i by omega]
  · rw [pR_e]
    unfold LBm
    rw [if_neg (by omega), LBf_r hx h2]
    exact u6 j x hj hx h2
  · show (if j = 9 then _ else (if j = 8 then _ else (if j = 7 then _ else sI Q j))) = sI Q j
    rw [if_neg h9, if_neg h8, if_neg h7]
