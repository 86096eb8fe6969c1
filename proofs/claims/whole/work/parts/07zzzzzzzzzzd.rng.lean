theorem any_s {f : Nat → Bool} : ∀ n : Nat, anyF f n = true ↔ ∃ k : Nat, k < n ∧ f k = true := fun n => by
  induction n with
  | zero => exact ⟨fun h => absurd (show false = true from h) (by decide), fun ⟨k, h, _⟩ => absurd h (Nat.not_lt_zero k)⟩
  | succ n ih =>
    show (anyF f n || f n) = true ↔ _
    rw [Bool.or_eq_true]
    constructor
    · intro h
      rcases h with h | h
      · obtain ⟨k, h1, h2⟩ := ih.mp h
        exact ⟨k, by omega, h2⟩
      · exact ⟨n, by omega, h⟩
    · intro ⟨k, h1, h2⟩
      by_cases y : k = n
      · rw [y] at h2; exact Or.inr h2
      · exact Or.inl (ih.mpr ⟨k, by omega, h2⟩)
def msr (Ds : Nat → Dt) (lv : Nat → Nat) : Nat → Nat
  | 0 => 0
  | s + 1 => msr Ds lv s + (if (Ds s).1 = 1 ∨ (Ds s).1 = 2 then 2 - lv s else 0)
theorem msr_m {Ds : Nat → Dt} {lv : Nat → Nat} : ∀ n : Nat, msr Ds lv n ≤ 2 * mu Ds n := fun n => by
  induction n with
  | zero => exact Nat.le_refl 0
  | succ n ih =>
    show msr Ds lv n + (if (Ds n).1 = 1 ∨ (Ds n).1 = 2 then 2 - lv n else 0) ≤ 2 * (mu Ds n + (if (Ds n).1 = 9 then 0 else 1))
    by_cases y : (Ds n).1 = 1 ∨ (Ds n).1 = 2
    · rw [if_pos y, if_neg (by omega)]; omega
    · rw [if_neg y]
      split <;> omega
theorem msr_l {Ds : Nat → Dt} {lv lv' : Nat → Nat} : ∀ n : Nat, (∀ s : Nat, s < n → lv s ≤ lv' s) → msr Ds lv' n ≤ msr Ds lv n := fun n => by
  induction n with
  | zero => intro _; exact Nat.le_refl 0
  | succ n ih =>
    intro h
    have i1 := ih (fun s hs => h s (by omega))
    have := h n (by omega)
    show msr Ds lv' n + (if (Ds n).1 = 1 ∨ (Ds n).1 = 2 then 2 - lv' n else 0) ≤ msr Ds lv n + (if (Ds n).1 = 1 ∨ (Ds n).1 = 2 then 2 - lv n else 0)
    split <;> omega
theorem msr_s {Ds : Nat → Dt} {lv lv' : Nat → Nat} : ∀ n : Nat, (∀ s : Nat, s < n → lv s ≤ lv' s) → ∀ k : Nat, k < n → ((Ds k).1 = 1 ∨ (Ds k).1 = 2) → lv k < lv' k → lv k < 2 → msr Ds lv' n < msr Ds lv n := fun n => by
  induction n with
  | zero => intro _ k hk; exact absurd hk (Nat.not_lt_zero k)
  | succ n ih =>
    intro h k hk hd hl h2
    have hn := h n (by omega)
    show msr Ds lv' n + (if (Ds n).1 = 1 ∨ (Ds n).1 = 2 then 2 - lv' n else 0) < msr Ds lv n + (if (Ds n).1 = 1 ∨ (Ds n).1 = 2 then 2 - lv n else 0)
    by_cases y : k = n
    · subst y
      have i1 := msr_l (Ds := Ds) k (fun s hs => h s (by omega))
      rw [if_pos hd, if_pos hd]
      omega
    · have i1 := ih (fun s hs => h s (by omega)) k (by omega) hd hl h2
      split <;> omega
theorem tr_0 {ms dv : Bool} : decide (trO ms dv = 0) = (!ms && !dv) := by
  cases ms <;> cases dv <;> rfl
theorem grl (n : Nat) : df_X1_growingLetter n 1 2 () = some (75, ()) ∧ df_X1_growingLetter n 2 2 () = some (76, ()) ∧ df_X1_growingLetter n 2 4 () = some (84, ()) := by
  unfold df_X1_growingLetter df_X1_growingLetter_0 df_X1_growingLetter_17 df_X1_growingLetter_40
  refine ⟨?_, ?_, ?_⟩
  · rw [if_pos rfl, if_pos rfl]; exact nar_z (by decide)
  · rw [if_neg (show ¬ (2 : Int32) = 1 by decide), if_pos rfl]; exact nar_z (by decide)
  · rw [if_neg (show ¬ (2 : Int32) = 1 by decide), if_neg (show ¬ (4 : Int32) = 2 by decide), if_pos rfl]; exact nar_z (by decide)
theorem gw_e {D : Dt} {bb : Int32} {c X : Nat → Nat} {nL T q e ad l off : Nat} {W : Nat → Int32} (h1 : D.1 = 1 → l ≤ 1) (h2 : D.1 = 2 → l ≤ 2) (hz : D.1 = 1 ∨ D.1 = 2 → szN D bb l off = 2 * 2 ^ l) : gwF c X nL T W D q e ad l = (gcd2 D.1 (szN D bb l off) && (decide (trO (mV (VV c X e nL q (nI T) (nI ad) W) (dQ D) (dN D)) (dV (VV c X e nL q (nI T) (nI ad) W) (dQ D) (dN D)) = 0) && !lfO (hpO (decide (D.1 = 1)) l) (zV (VV c X e nL q (nI T) (nI ad) W) (dQ D) (dN D) - nI ad))) := by
  unfold gwF sG
  rw [tr_0]
  generalize mV (VV c X e nL q (nI T) (nI ad) W) (dQ D) (dN D) = ms
  generalize dV (VV c X e nL q (nI T) (nI ad) W) (dQ D) (dN D) = dv
  generalize zV (VV c X e nL q (nI T) (nI ad) W) (dQ D) (dN D) - nI ad = w
  by_cases hd : D.1 = 1 ∨ D.1 = 2
  · rw [decide_eq_true hd, Bool.true_and, hz hd]
    by_cases d1 : D.1 = 1
    · have := h1 d1
      rw [d1, if_pos rfl]
      rcases (show l = 0 ∨ l = 1 by omega) with y | y
      · subst y
        have e : offO 0 w = w := rfl
        rw [e]
        cases ms <;> cases dv <;> rfl
      · subst y
        have e : gcd2 1 (2 * 2 ^ 1) = false := rfl
        rw [e]
        cases ms <;> cases dv <;> rfl
    · have d2 : D.1 = 2 := by omega
      have := h2 d2
      rw [d2, if_neg (show ¬ (2 : Nat) = 1 by decide)]
      rcases (show l = 0 ∨ l = 1 ∨ l = 2 by omega) with y | y | y
      · subst y
        have e : offO 0 w = w := rfl
        rw [e]
        cases ms <;> cases dv <;> rfl
      · subst y
        have e : offO 1 w = w := rfl
        rw [e]
        cases ms <;> cases dv <;> rfl
      · subst y
        have e : gcd2 2 (2 * 2 ^ 2) = false := rfl
        rw [e]
        cases ms <;> cases dv <;> rfl
  · rw [decide_eq_false hd, Bool.false_and]
    have e : gcd2 D.1 (szN D bb l off) = false := decide_eq_false (by omega)
    rw [e, Bool.false_and]
/-- growing in both -/
theorem LD_G {n L : Nat} {c : Nat → Nat} {p : Nat} {Bz : St} {sn lu ln se co : Nat} {SW0 LW : Nat → Int32} {cs ns : Nat} {C A NM BK : Nat → Int32} {bs ws : Nat → Nat} {nl : Nat} {NR LB0 : Nat → Int32} {sc X : Nat → Nat} {nL nS : Nat} {PAz BY : Nat → Int32} {Ds : Nat → Dt} {Qs Es Zs Ls Fs N0 : Nat → Nat} {NP : Nat → Nat → Int32} (hR : READ n L c p Bz sn lu ln se co SW0 LW cs ns C A NM BK bs ws nl NR LB0 sc X nL nS PAz BY Ds Qs Es Zs Ls Fs N0 NP) (hp : p ≤ 32769) {B0 : St} (hX : TXT n L c B0) {lv : Nat → Nat} (hlv : lvK Ds Fs lv nS) {sg : Nat → Nat} (hsg : (∀ i : Nat, i < mu Ds nS → sg i < nS ∧ mu Ds (sg i) = i ∧ ¬ (Ds (sg i)).1 = 9) ∧ sg (mu Ds nS) = nS) {Q U S : St} (hD : LD n L c Bz sn SW0 cs ns C A NM nl NR LB0 X nL nS BY Ds Qs Zs Fs N0 sg lv Q U S) (hcs : cs ≤ 32832) (G : Int32 → St → Option St) : ∃ (b : Bool) (lv' : Nat → Nat) (Q2 U2 S2 : St), df_X1_grow n (Q, U) = some (bI b, (Q2, U2)) ∧ df_X13_stretch_19 n G n 0 0 S = G (bI b) S2 ∧ (b = false → LD n L c Bz sn SW0 cs ns C A NM nl NR LB0 X nL nS BY Ds Qs Zs Fs N0 sg lv Q2 U2 S2) ∧ (b = true → lvK Ds Fs lv' nS ∧ RJ n L c Bz sn SW0 cs ns C A NM nl NR LB0 X nL nS BY Ds Qs Zs Fs sg lv' Q2 U2 S2 ∧ msr Ds lv' nS < msr Ds lv nS) ∧ (∀ j : Nat, sI Q2 j = sI Q j) ∧ sR Q2 1 = sR Q 1 ∧ sO U2 = sO U ∧ sR U2 7 = sR U 7 := by
  obtain ⟨hZ, hl2⟩ := RD_Z hR (by omega) hlv
  obtain ⟨a1, a2, a3, a4, a5, a6, a7, a8, a9, a10, a11, a12, a13, a14, a15, a16, a17, a18, a19⟩ := id hR
  obtain ⟨t1, t2, t3, t4, t5, t6, t7, t8, t9, t10⟩ := a1
  obtain ⟨⟨B, ct, gr, PA, OU, ap, OF, W, hS, hPA, hB, h5, hOF, hWc, hWl, hpl⟩, q0, q1, q2, hU, u6, q7, q8, q9⟩ := hD
  obtain ⟨sg1, sg2⟩ := hsg
  have hn := hX.1
  have hmu := mu_l Ds nS
  have hlm := lam_le X nL
  have layb := lay_l (Ds := Ds) (Zs := Zs) (BY := BY) (lv := lv) (Fs := Fs) nS hZ
  have hstr : ∀ s : Nat, s < nS → STr n L c X nL (sR Bz 7) SW0 LW C A ns bs ws cs lu (mu Ds s) (PAz s) (BY s) (Ds s) (Qs s) (Es s) (Zs s) (Ls s) (Fs s) (N0 s) (NP s) := fun s hs => (a15 s hs).1
  have sgi : ∀ s : Nat, s < nS → ¬ (Ds s).1 = 9 → mu Ds s < sn ∧ sg (mu Ds s) = s := fun s hs h9 => by
    have m1 := mu_i (Ds := Ds) hs h9
    have hlt : mu Ds s < sn := by omega
    refine ⟨hlt, ?_⟩
    obtain ⟨w1, w2, w3⟩ := sg1 (mu Ds s) (by omega)
    rcases Nat.lt_trichotomy (sg (mu Ds s)) s with w | w | w
    · have := mu_i (Ds := Ds) w w3; omega
    · exact w
    · have := mu_i (Ds := Ds) w h9; omega
  -- which ones grow
  obtain ⟨gG, hgG⟩ : ∃ gG : Nat → Bool, ∀ s : Nat, gG s = gwF c X nL (lay Ds Zs BY lv nS).1 W (Ds s) (Qs s) (Es s) (adN Zs (ofs Ds Zs BY lv) (lay Ds Zs BY lv nS).1 s) (lv s) := ⟨_, fun _ => rfl⟩
  have kG : ∀ s : Nat, gG s = true → ((Ds s).1 = 1 ∨ (Ds s).1 = 2) ∧ lv s < (if (Ds s).1 = 1 then 1 else 2) := fun s h => by
    rw [hgG] at h
    unfold gwF sG at h
    rw [Bool.and_eq_true, Bool.and_eq_true, Bool.and_eq_true, Bool.and_eq_true, decide_eq_true_eq, decide_eq_true_eq] at h
    exact ⟨h.1, h.2.2.2.1⟩
  have hTT : ∀ (U' : St) (s : Nat), s < nS → URD U' cs nl ns C A NM NR (sR U 6) → TT c X nL (Qs s) (nI (lay Ds Zs BY lv nS).1) W (NP s) ns bs ws U' := fun U' s hs hU' => by
    obtain ⟨c1, c2, c3, c4, c5, c6, c6', c7, c8, c9, c10, c11, c12, c13⟩ := hstr s hs
    obtain ⟨v1, v2, v3, v4, v5, v6, v7, v8, v9⟩ := hU'
    exact TT_1 (n0 := N0 s) (LB := LB0) (NR := NR) (NM := NM) (W0 := sR Bz 7) (by omega) t2 hWc t5 c8 c9 c10 c11 v5 v6 (fun j hj => by rw [v7]; exact u6 j 3 (by omega) (by omega) (by omega)) (fun k hk h2 => by rw [v7]; exact hpl k hk h2)
  have cdK : ∀ s : Nat, s < nS → ((Ds s).1 = 1 ∨ (Ds s).1 = 2) → ∃ (s0 m : Nat) (P : Nat → Tp), (Ds s).2.2.2.1 = [(m, P)] ∧ SW0 (8 * mu Ds s + 6) = nI s0 ∧ CR (NP s) c (Es s) C A s0 ns bs ws m P C A ∧ C (s0 + m) = 21 ∧ s0 + m < cs ∧ one P m := fun s hs hd => by
    obtain ⟨c1, c2, c3, c4, c5, c6, c6', c7, c8, c9, c10, c11, c12, c13⟩ := hstr s hs
    rcases c13 with z | ⟨z, le, b, cd, lt, s0, s1, u0, u1, r1, r2, r3, r4, r5, r6, r7, r8, r9, r10⟩
    · exact absurd z.1 (by omega)
    · rw [Nat.mul_comm (mu Ds s) 8] at r6
      have fin : cd = nI s0 → CDo (NP s) c (Es s) ns bs ws C A s0 (Ds s).2.2.2.1 s1 → (∃ (m : Nat) (P : Nat → Tp), (Ds s).2.2.2.1 = [(m, P)]) → ∃ (s0 m : Nat) (P : Nat → Tp), (Ds s).2.2.2.1 = [(m, P)] ∧ SW0 (8 * mu Ds s + 6) = nI s0 ∧ CR (NP s) c (Es s) C A s0 ns bs ws m P C A ∧ C (s0 + m) = 21 ∧ s0 + m < cs ∧ one P m := fun e1 e2 e3 => by
        obtain ⟨m, P, e3⟩ := e3
        rw [e3] at e2
        obtain ⟨⟨f1, f2, f3, f4⟩, f5⟩ := e2
        have f4 : s0 + m + 1 = s1 := f4
        exact ⟨s0, m, P, e3, by rw [r6, e1], f1, f2, by omega, f5 (m, P) (List.mem_singleton.mpr rfl)⟩
      rcases r8 with h | h | h | h | h | h | h | h | h
      · exact absurd h.1 (by omega)
      · obtain ⟨k1, k2, k3, k4, k5, k6, k7, k8, k9⟩ := h
        exact fin k6 k7 k8
      · obtain ⟨k1, k2, k3, k4, k5, k6, k7, k8⟩ := h
        exact fin k5 k6 k7
      iterate 6 (exact absurd h.1 (by omega))
  have rowk : ∀ i : Nat, i < sn → sR Q 0 (8 * i + 4) = nI (Ds (sg i)).1 ∧ (Ds (sg i)).1 ≤ 8 := fun i hi => by
    obtain ⟨w1, w2, w3⟩ := sg1 i (by omega)
    obtain ⟨c1, c2, c3, c4, c5, c6, c6', c7, c8, c9, c10, c11, c12, c13⟩ := hstr (sg i) w1
    rcases c13 with z | ⟨z, le, b, cd, lt, s0, s1, u0, u1, r1, r2, r3, r4, r5, r6, r7, r8, r9, r10⟩
    · exact absurd z.1 w3
    · rw [w2, Nat.mul_comm i 8] at r4
      rw [q1 i 4 hi (by omega) (by omega) (by omega)]
      exact ⟨r4, z⟩
  -- the class
  obtain ⟨U2, g1, g2, g3, g4⟩ := gr_4 (n := n) (Q := Q) (sn := sn) (cs := cs) (nl := nl) (ns := ns) (C := C) (A := A) (NM := NM) (NR := NR) (LB := sR U 6) (SW := sR Q 0) q0 (by omega) (fun i => (Ds (sg i)).1) (fun i => szN (Ds (sg i)) (BY (sg i)) (lv (sg i)) (ofs Ds Zs BY lv (sg i))) (fun i => hpO (decide ((Ds (sg i)).1 = 1)) (lv (sg i))) (fun i => zV (VV c X (Es (sg i)) nL (Qs (sg i)) (nI (lay Ds Zs BY lv nS).1) (nI (adN Zs (ofs Ds Zs BY lv) (lay Ds Zs BY lv nS).1 (sg i))) W) (dQ (Ds (sg i))) (dN (Ds (sg i)))) (fun i => trO (mV (VV c X (Es (sg i)) nL (Qs (sg i)) (nI (lay Ds Zs BY lv nS).1) (nI (adN Zs (ofs Ds Zs BY lv) (lay Ds Zs BY lv nS).1 (sg i))) W) (dQ (Ds (sg i))) (dN (Ds (sg i)))) (dV (VV c X (Es (sg i)) nL (Qs (sg i)) (nI (lay Ds Zs BY lv nS).1) (nI (adN Zs (ofs Ds Zs BY lv) (lay Ds Zs BY lv nS).1 (sg i))) W) (dQ (Ds (sg i))) (dN (Ds (sg i))))) (fun i => lfO (hpO (decide ((Ds (sg i)).1 = 1)) (lv (sg i))) (zV (VV c X (Es (sg i)) nL (Qs (sg i)) (nI (lay Ds Zs BY lv nS).1) (nI (adN Zs (ofs Ds Zs BY lv) (lay Ds Zs BY lv nS).1 (sg i))) W) (dQ (Ds (sg i))) (dN (Ds (sg i))) - nI (adN Zs (ofs Ds Zs BY lv) (lay Ds Zs BY lv nS).1 (sg i)))) (fun i => gG (sg i)) (fun i hi => by
    obtain ⟨w1, w2, w3⟩ := sg1 i (by omega)
    obtain ⟨k1, k2⟩ := rowk i hi
    obtain ⟨z1, z2, z3, z4, z5⟩ := sz_1 (hZ (sg i) w1) (ofs Ds Zs BY lv (sg i))
    obtain ⟨l1, l2, l3, l4⟩ := hlv (sg i) w1
    refine ⟨by omega, by omega, k1, (q2 i hi).2, ?_, fun hg => ?_⟩
    · rw [hgG]
      exact gw_e l1 l2 z4
    · have hk12 := of_decide_eq_true hg
      have hd : (Ds (sg i)).1 = 1 ∨ (Ds (sg i)).1 = 2 := by omega
      obtain ⟨s0, m, P, e1, e2, e3, e4, e5, e6⟩ := cdK (sg i) w1 hd
      rw [w2] at e2
      have eQ : dQ (Ds (sg i)) = P := by unfold dQ; rw [e1]
      have eN : dN (Ds (sg i)) = m := by unfold dN; rw [e1]
      have ez := z4 hd
      refine ⟨fun U' hU' => ?_, ?_, ?_⟩
      · rw [q1 i 6 hi (by omega) (by omega) (by omega), e2, (q2 i hi).1, eQ, eN]
        exact ev_C hn hU' (hTT U' (sg i) w1 hU') e3 e4 e5 e6
      · show df_X1_growingLetter n (nI (Ds (sg i)).1) (nI (szN (Ds (sg i)) (BY (sg i)) (lv (sg i)) (ofs Ds Zs BY lv (sg i)))) () = some (nI (hpO (decide ((Ds (sg i)).1 = 1)) (lv (sg i))), ())
        rw [ez] at hk12 ⊢
        rcases hd with hd | hd
        · have l0 : lv (sg i) = 0 := by
            have := l1 hd
            rcases (show lv (sg i) = 0 ∨ lv (sg i) = 1 by omega) with y | y
            · exact y
            · rw [y, hd] at hk12; omega
          rw [l0, hd]; exact (grl n).1
        · have lb := l2 hd
          rcases (show lv (sg i) = 0 ∨ lv (sg i) = 1 ∨ lv (sg i) = 2 by omega) with y | y | y
          · rw [y, hd]; exact (grl n).2.1
          · rw [y, hd]; exact (grl n).2.2
          · rw [y, hd] at hk12; omega
      · rw [(q2 i hi).1]
        show df_X7_fits n (nI (hpO (decide ((Ds (sg i)).1 = 1)) (lv (sg i)))) _ () = some (bI (lfO (hpO (decide ((Ds (sg i)).1 = 1)) (lv (sg i))) _), ())
        rw [ez] at hk12
        rcases hd with hd | hd
        · have l0 : lv (sg i) = 0 := by
            have := l1 hd
            rcases (show lv (sg i) = 0 ∨ lv (sg i) = 1 by omega) with y | y
            · exact y
            · rw [y, hd] at hk12; omega
          rw [l0, hd]; exact fit_K n _
        · have lb := l2 hd
          rcases (show lv (sg i) = 0 ∨ lv (sg i) = 1 ∨ lv (sg i) = 2 by omega) with y | y | y
          · rw [y, hd]; exact fit_L n _
          · rw [y, hd]; exact fit_T n _
          · rw [y, hd] at hk12; omega) sn 0 n U (by omega) (by omega) hU
  rw [SWg_0, nm_r0] at g1
  -- the reference
  obtain ⟨B', S2, ct', ap', gr', r1, r2, r3, r4, r5, r6, r7⟩ := st_19 (n := n) (L := L) (c := c) hX (X := X) (nL := nL) (nS := nS) (T := (lay Ds Zs BY lv nS).1) (OF := OF) (W := W) ⟨by omega, fun k hk => ⟨(t7 k hk).2.1, by have := (t7 k hk).1; omega, (t7 k hk).2.2⟩⟩ (BY := BY) (OU := OU) (PA0 := PA) (Ds := Ds) (Qs := Qs) (Es := Es) (Zs := Zs) (Fs := Fs) (N0 := N0) (AA := AAl Zs Fs lv) (of := ofs Ds Zs BY lv) G (by omega) (by omega) (fun s hs => by
    obtain ⟨c1, c2, c3, c4, c5, c6, c6', c7, c8, c9, c10, c11, ⟨lw, lv9, sz, ba, X0, W0, d1, d2, d3, d4, d5, d6, d7⟩, c13⟩ := hstr s hs
    obtain ⟨y1, y2, y3, y4⟩ := AAl_1 (Zs := Zs) (Fs := Fs) (lv := lv) c2 c3 (hl2 s hs)
    obtain ⟨l1, l2, l3, l4⟩ := hlv s hs
    have zk := hZ s hs
    refine ⟨⟨y1, y2, y4, c3, ?_, c4, c5, c6, c8, lw, lv9, sz, ba, X0, W0, d1, fun k hk => ⟨(d2 k hk).1, fun h2 => ((d2 k hk).2 h2).trans (hWc k (by omega) h2).symm⟩, d3, by omega, ?_⟩, hPA s hs, hOF s hs⟩
    · rcases zk with ⟨h1, h2, _⟩ | ⟨h1, h2, _⟩ | ⟨h1, h2, _⟩ | ⟨h1, h2, h3, h4, _⟩
      · exact ⟨fun _ => Or.inl h1, fun _ => by omega⟩
      · exact ⟨fun _ => Or.inr h1, fun _ => by omega⟩
      · exact ⟨fun w => by omega, fun w => by omega⟩
      · exact ⟨fun w => by omega, fun w => by omega⟩
    · rw [y3]
      by_cases z1 : (Ds s).1 = 1
      · rw [d6 z1]; exact l1 z1
      · by_cases z2 : (Ds s).1 = 2
        · rw [d7 z2]; exact l2 z2
        · have := l3 z1 z2; omega) gG (fun s hs => by
    obtain ⟨c1, c2, c3, c4⟩ := hstr s hs
    obtain ⟨y1, y2, y3, y4⟩ := AAl_1 (Zs := Zs) (Fs := Fs) (lv := lv) c2 c3 (hl2 s hs)
    rw [hgG, y3]
    rfl) nS 0 n B S ct ap gr (by omega) (by omega) hB (by rw [PAg_0]; exact hS)
  have ean : anyF (fun i => gG (sg i)) sn = anyF gG nS := by
    have e : anyF (fun i => gG (sg i)) sn = true ↔ anyF gG nS = true := by
      rw [any_s, any_s]
      constructor
      · intro ⟨i, h1, h2⟩
        exact ⟨sg i, (sg1 i (by omega)).1, h2⟩
      · intro ⟨s, h1, h2⟩
        obtain ⟨y1, y2⟩ := sgi s h1 (by have := (kG s h2).1; omega)
        exact ⟨mu Ds s, y1, by show gG (sg (mu Ds s)) = true; rw [y2]; exact h2⟩
    cases h1 : anyF (fun i => gG (sg i)) sn <;> cases h2 : anyF gG nS
    · rfl
    · exact absurd (e.mpr h2) (by rw [h1]; decide)
    · exact absurd (e.mp h1) (by rw [h2]; decide)
    · rfl
  rw [ean] at g1
  have uR6 := g2.2.2.2.2.2.2.1
  refine ⟨anyF gG nS, fun s => if gG s = true then lv s + 1 else lv s, _, U2, S2, g1, r1, fun hb => ?_, fun hb => ?_, fun j => rfl, rfl, g3, g4⟩
  · -- none grows
    have none : ∀ s : Nat, s < nS → gG s = false := fun s hs => by
      cases hh : gG s with
      | false => rfl
      | true => exact absurd ((any_s nS).mpr ⟨s, hs, hh⟩) (by rw [hb]; decide)
    have ePA : PAg PA (AAl Zs Fs lv) Qs gG nS = PA := funext fun x => if_neg (fun u => by rw [none x u.1] at u; exact absurd u.2 (by decide))
    have eSW : SWg (sR Q 0) (fun i => gG (sg i)) (fun i => szN (Ds (sg i)) (BY (sg i)) (lv (sg i)) (ofs Ds Zs BY lv (sg i))) sn = sR Q 0 := funext fun x => if_neg (fun u => by
      have := none (sg (x / 8)) (sg1 (x / 8) (by omega)).1
      have u3 : gG (sg (x / 8)) = true := u.2.2
      rw [this] at u3; exact absurd u3 (by decide))
    rw [eSW, nm_r0]
    rw [ePA] at r3
    exact ⟨⟨B', ct', gr', PA, OU, ap', OF, W, r3, hPA, r2, by rw [r6]; exact h5, hOF, hWc, hWl, fun k hk h2 => by rw [uR6]; exact hpl k hk h2⟩, q0, q1, q2, by rw [uR6]; exact g2, fun j x hj hx h2 => by rw [uR6]; exact u6 j x hj hx h2, q7, q8, q9⟩
  · -- some grow
    obtain ⟨sx, x1, x2⟩ := (any_s nS).mp hb
    have hl' : lvK Ds Fs (fun s => if gG s = true then lv s + 1 else lv s) nS := fun s hs => by
      obtain ⟨l1, l2, l3, l4⟩ := hlv s hs
      show ((Ds s).1 = 1 → (if gG s = true then lv s + 1 else lv s) ≤ 1) ∧ ((Ds s).1 = 2 → (if gG s = true then lv s + 1 else lv s) ≤ 2) ∧ (¬ (Ds s).1 = 1 → ¬ (Ds s).1 = 2 → (if gG s = true then lv s + 1 else lv s) = 0) ∧ Fs s % 4 ≤ (if gG s = true then lv s + 1 else lv s)
      by_cases y : gG s = true
      · rw [if_pos y]
        obtain ⟨k1, k2⟩ := kG s y
        refine ⟨fun w => ?_, fun w => ?_, fun w w' => by omega, by omega⟩
        · rw [if_pos w] at k2; omega
        · rw [if_neg (by omega)] at k2; omega
      · rw [if_neg y]
        exact ⟨l1, l2, l3, l4⟩
    refine ⟨hl', ⟨⟨B', ct', gr', _, OU, ap', r3, fun s hs => ?_, r2.1, r2.2.1, r2.2.2.1, r2.2.2.2.1, r2.2.2.2.2.1, fun k hk h2 => by rw [r2.2.2.2.2.2.2.2.1]; exact hWc k hk h2, r2.2.2.2.2.2.2.2.2.1, r2.2.2.2.2.2.2.2.2.2⟩, q0, fun i x hi hx h2 h3 => ?_, fun i hi h8 => ?_, by rw [uR6]; exact g2, fun j x hj hx h2 => by rw [uR6]; exact u6 j x hj hx h2⟩, ?_⟩
    · unfold PAg AAl
      dsimp only
      by_cases y : gG s = true
      · rw [if_pos ⟨hs, y⟩, if_pos y]
        exact congrArg nI (by omega)
      · rw [if_neg (fun u => y u.2), if_neg y]
        exact hPA s hs
    · rw [pR_e]
      show SWg _ _ _ _ _ = _
      unfold SWg
      rw [if_neg (by omega)]
      exact q1 i x hi hx h2 h3
    · rw [pR_e]
      obtain ⟨w1, w2, w3⟩ := sg1 i (by omega)
      obtain ⟨z1, z2, z3, z4, z5⟩ := sz_1 (hZ (sg i) w1) (ofs Ds Zs BY lv (sg i))
      unfold SWg
      rw [show (8 * i + 3) / 8 = i by omega]
      dsimp only
      by_cases y : gG (sg i) = true
      · rw [if_pos ⟨hi, by omega, y⟩, if_pos y, z4 (kG (sg i) y).1]
        have e : szN (Ds (sg i)) (BY (sg i)) (lv (sg i) + 1) 0 = 2 * 2 ^ (lv (sg i) + 1) := if_pos (kG (sg i) y).1
        rw [e, Nat.pow_succ]
        exact congrArg nI (by omega)
      · rw [if_neg (fun u => y u.2.2), if_neg y, (q2 i hi).2]
        exact congrArg nI (szN_o h8)
    · refine msr_s nS (fun s hs => ?_) sx x1 (kG sx x2).1 ?_ ?_
      · show lv s ≤ if gG s = true then lv s + 1 else lv s
        split <;> omega
      · show lv sx < if gG sx = true then lv sx + 1 else lv sx
        rw [if_pos x2]; omega
      · have := (kG sx x2).2
        split at this <;> omega
