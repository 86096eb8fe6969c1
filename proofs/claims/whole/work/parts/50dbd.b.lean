theorem any_s {f : Nat → Bool} : ∀ n : Nat, anyF f n = true ↔ ∃ k : Nat, k < n ∧ f k = true := fun n => by
  induction n with
  | zero => exact ⟨fun h => absurd (show false = true from h) (by decide), fun ⟨k, h, _⟩ => absurd h (Nat.not_lt_zero k)⟩
  | succ n ih =>
    show (anyF f n || f n) = true ↔ _
    rw [Bool.or_eq_true]
    constructor
    · intro h
      rcases h with h | h
      · obtain ⟨k, h1, h2⟩ := ih.mp h
        exact ⟨k, by omega, h2⟩
      · exact ⟨n, by omega, h⟩
    · intro ⟨k, h1, h2⟩
      by_cases y : k = n
      · rw [y] at h2; exact Or.inr h2
      · exact Or.inl (ih.mpr ⟨k, by omega, h2⟩)
def msr (Ds : Nat → Dt) (lv : Nat → Nat) : Nat → Nat
  | 0 => 0
  | s + 1 => msr Ds lv s + (if (Ds s).1 = 1 ∨ (Ds s).1 = 2 then 2 - lv s else 0)
theorem msr_m {Ds : Nat → Dt} {lv : Nat → Nat} : ∀ n : Nat, msr Ds lv n ≤ 2 * mu Ds n := fun n => by
  induction n with
  | zero => exact Nat.le_refl 0
  | succ n ih =>
    show msr Ds lv n + (if (Ds n).1 = 1 ∨ (Ds n).1 = 2 then 2 - lv n else 0) ≤ 2 * (mu Ds n + (if (Ds n).1 = 9 then 0 else 1))
    by_cases y : (Ds n).1 = 1 ∨ (Ds n).1 = 2
    · rw [if_pos y, if_neg (by omega)]; omega
    · rw [if_neg y]
      split <;> omega
theorem msr_l {Ds : Nat → Dt} {lv lv' : Nat → Nat} : ∀ n : Nat, (∀ s : Nat, s < n → lv s ≤ lv' s) → msr Ds lv' n ≤ msr Ds lv n := fun n => by
  induction n with
  | zero => intro _; exact Nat.le_refl 0
  | succ n ih =>
    intro h
    have i1 := ih (fun s hs => h s (by omega))
    have := h n (by omega)
    show msr Ds lv' n + (if (Ds n).1 = 1 ∨ (Ds n).1 = 2 then 2 - lv' n else 0) ≤ msr Ds lv n + (if (Ds n).1 = 1 ∨ (Ds n).1 = 2 then 2 - lv n else 0)
    split <;> omega
theorem msr_s {Ds : Nat → Dt} {lv lv' : Nat → Nat} : ∀ n : Nat, (∀ s : Nat, s < n → lv s ≤ lv' s) → ∀ k : Nat, k < n → ((Ds k).1 = 1 ∨ (Ds k).1 = 2) → lv k < lv' k → lv k < 2 → msr Ds lv' n < msr Ds lv n := fun n => by
  induction n with
  | zero => intro _ k hk; exact absurd hk (Nat.not_lt_zero k)
  | succ n ih =>
    intro h k hk hd hl h2
    have hn := h n (by omega)
    show msr Ds lv' n + (if (Ds n).1 = 1 ∨ (Ds n).1 = 2 then 2 - lv' n else 0) < msr Ds lv n + (if (Ds n).1 = 1 ∨ (Ds n).1 = 2 then 2 - lv n else 0)
    by_cases y : k = n
    · subst y
      have i1 := msr_l (Ds := Ds) k (fun s hs => h s (by omega))
      rw [if_pos hd, if_pos hd]
      omega
    · have i1 := ih (fun s hs => h s (by omega)) k (by omega) hd hl h2
      split <;> omega
theorem tr_0 {ms dv : Bool} : decide (trO ms dv = 0) = (!ms && !dv) := by
  cases ms <;> cases dv <;> rfl
theorem grl (n : Nat) : df_X1_growingLetter n 1 2 () = some (75, ()) ∧ df_X1_growingLetter n 2 2 () = some (76, ()) ∧ df_X1_growingLetter n 2 4 () = some (84, ()) := by
  unfold df_X1_growingLetter df_X1_growingLetter_0 df_X1_growingLetter_17 df_X1_growingLetter_40
  refine ⟨?_, ?_, ?_⟩
  · rw [if_pos rfl, if_pos rfl]; exact nar_z (by decide)
  · rw [if_neg (show ¬ (2 : Int32) = 1 by decide), if_pos rfl]; exact nar_z (by decide)
  · rw [if_neg (show ¬ (2 : Int32) = 1 by decide), if_neg (show ¬ (4 : Int32) = 2 by decide), if_pos rfl]; exact nar_z (by decide)
theorem gw_e {D : Dt} {bb : Int32} {c X : Nat → Nat} {nL T q e ad l off : Nat} {W : Nat → Int32} (h1 : D.1 = 1 → l ≤ 1) (h2 : D.1 = 2 → l ≤ 2) (hz : D.1 = 1 ∨ D.1 = 2 → szN D bb l off = 2 * 2 ^ l) : gwF c X nL T W D q e ad l = (gcd2 D.1 (szN D bb l off) && (decide (trO (mV (VV c X e nL q (nI T) (nI ad) W) (dQ D) (dN D)) (dV (VV c X e nL q (nI T) (nI ad) W) (dQ D) (dN D)) = 0) && !lfO (hpO (decide (D.1 = 1)) l) (zV (VV c X e nL q (nI T) (nI ad) W) (dQ D) (dN D) - nI ad))) := by
  unfold gwF sG
  rw [tr_0]
  generalize mV (VV c X e nL q (nI T) (nI ad) W) (dQ D) (dN D) = ms
  generalize dV (VV c X e nL q (nI T) (nI ad) W) (dQ D) (dN D) = dv
  generalize zV (VV c X e nL q (nI T) (nI ad) W) (dQ D) (dN D) - nI ad = w
  by_cases hd : D.1 = 1 ∨ D.1 = 2
  · rw [decide_eq_true hd, Bool.true_and, hz hd]
    by_cases d1 : D.1 = 1
    · have := h1 d1
      rw [d1, if_pos rfl]
      rcases (show l = 0 ∨ l = 1 by omega) with y | y
      · subst y
        have e : offO 0 w = w := rfl
        rw [e]
        cases ms <;> cases dv <;> rfl
      · subst y
        have e : gcd2 1 (2 * 2 ^ 1) = false := rfl
        rw [e]
        cases ms <;> cases dv <;> rfl
    · have d2 : D.1 = 2 := by omega
      have := h2 d2
      rw [d2, if_neg (show ¬ (2 : Nat) = 1 by decide)]
      rcases (show l = 0 ∨ l = 1 ∨ l = 2 by omega) with y | y | y
      · subst y
        have e : offO 0 w = w := rfl
        rw [e]
        cases ms <;> cases dv <;> rfl
      · subst y
        have e : offO 1 w = w := rfl
        rw [e]
        cases ms <;> cases dv <;> rfl
      · subst y
        have e : gcd2 2 (2 * 2 ^ 2) = false := rfl
        rw [e]
        cases ms <;> cases dv <;> rfl
  · rw [decide_eq_false hd, Bool.false_and]
    have e : gcd2 D.1 (szN D bb l off) = false := decide_eq_false (by omega)
    rw [e, Bool.false_and]
/-- growing in both -/
theorem LD_G {n L : Nat} {c : Nat → Nat} {p : Nat} {Bz : St} {sn lu ln se co : Nat} {SW0 LW : Nat → Int32} {cs ns : Nat} {C A NM BK : Nat → Int32} {bs ws : Nat → Nat} {nl : Nat} {NR LB0 : Nat → Int32} {sc X : Nat → Nat} {nL nS : Nat} {PAz BY : Nat → Int32} {Ds : Nat → Dt} {Qs Es Zs Ls Fs N0 : Nat → Nat} {NP : Nat → Nat → Int32} (hR : READ n L c p Bz sn lu ln se co SW0 LW cs ns C A NM BK bs ws nl NR LB0 sc X nL nS PAz BY Ds Qs Es Zs Ls Fs N0 NP) (hp : p ≤ 32769) {B0 : St} (hX : TXT n L c B0) {lv : Nat → Nat} (hlv : lvK Ds Fs lv nS) {sg : Nat → Nat} (hsg : (∀ i : Nat, i < mu Ds nS → sg i < nS ∧ mu Ds (sg i) = i ∧ ¬ (Ds (sg i)).1 = 9) ∧ sg (mu Ds nS) = nS) {Q U S : St} (hD : LD n L c Bz sn SW0 cs ns C A NM nl NR LB0 X nL nS BY Ds Qs Zs Fs N0 sg lv Q U S) (hcs : cs ≤ 32832) (G : Int32 → St → Option St) : ∃ (b : Bool) (lv' : Nat → Nat) (Q2 U2 S2 : St), df_X1_grow n (Q, U) = some (bI b, (Q2, U2)) ∧ df_X13_stretch_19 n G n 0 0 S = G (bI b) S2 ∧ (b = false → LD n L c Bz sn SW0 cs ns C A NM nl NR LB0 X nL nS BY Ds Qs Zs Fs N0 sg lv Q2 U2 S2) ∧ (b = true → lvK Ds Fs lv' nS ∧ RJ n L c Bz sn SW0 cs ns C A NM nl NR LB0 X nL nS BY Ds Qs Zs Fs sg lv' Q2 U2 S2 ∧ msr Ds lv' nS < msr Ds lv nS) ∧ (∀ j : Nat, sI Q2 j = sI Q j) ∧ sR Q2 1 = sR Q 1 ∧ sO U2 = sO U ∧ sR U2 7 = sR U 7 := by
  obtain ⟨hZ, hl2⟩ := RD_Z hR (by omega) hlv
  obtain ⟨a1, a2, a3, a4, a5, a6, a7, a8, a9, a10, a11, a12, a13, a14, a15, a16, a17, a18, a19⟩ := id hR
  obtain ⟨t1, t2, t3, t4, t5, t6, t7, t8, t9, t10⟩ := a1
  obtain ⟨⟨B, ct, gr, PA, OU, ap, OF, W, hS, hPA, hB, h5, hOF, hWc, hWl, hpl⟩, q0, q1, q2, hU, u6, q7, q8, q9⟩ := hD
  obtain ⟨sg1, sg2⟩ := hsg
  have hn := hX.1
  have hmu := mu_l Ds nS
  have hlm := lam_le X nL
  have layb := lay_l (Ds := Ds) (Zs := Zs) (BY := BY) (lv := lv) (Fs := Fs) nS hZ
  have hstr : ∀ s : Nat, s < nS → STr n L c X nL (sR Bz 7) SW0 LW C A ns bs ws cs lu (mu Ds s) (PAz s) (BY s) (Ds s) (Qs s) (Es s) (Zs s) (Ls s) (Fs s) (N0 s) (NP s) := fun s hs => (a15 s hs).1
  have sgi : ∀ s : Nat, s < nS → ¬ (Ds s).1 = 9 → mu Ds s < sn ∧ sg (mu Ds s) = s := fun s hs h9 => by
    have m1 := mu_i (Ds := Ds) hs h9
    have hlt : mu Ds s < sn := by omega
    refine ⟨hlt, ?_⟩
    obtain ⟨w1, w2, w3⟩ := sg1 (mu Ds s) (by omega)
    rcases Nat.lt_trichotomy (sg (mu Ds s)) s with w | w | w
    · have := mu_i (Ds := Ds) w w3; omega
    · exact w
    · have := mu_i (Ds := Ds) w h9; omega
  -- which ones grow
  obtain ⟨gG, hgG⟩ : ∃ gG : Nat → Bool, ∀ s : Nat, gG s = gwF c X nL (lay Ds Zs BY lv nS).1 W (Ds s) (Qs s) (Es s) (adN Zs (ofs Ds Zs BY lv) (lay Ds Zs BY lv nS).1 s) (lv s) := ⟨_, fun _ => rfl⟩
  have kG : ∀ s : Nat, gG s = true → ((Ds s).1 = 1 ∨ (Ds s).1 = 2) ∧ lv s < (if (Ds s).1 = 1 then 1 else 2) := fun s h => by
    rw [hgG] at h
    unfold gwF sG at h
    rw [Bool.and_eq_true, Bool.and_eq_true, Bool.and_eq_true, Bool.and_eq_true, decide_eq_true_eq, decide_eq_true_eq] at h
    exact ⟨h.1, h.2.2.2.1⟩
  have hTT : ∀ (U' : St) (s : Nat), s < nS → URD U' cs nl ns C A NM NR (sR U 6) → TT c X nL (Qs s) (nI (lay Ds Zs BY lv nS).1) W (NP s) ns bs ws U' := fun U' s hs hU' => by
    obtain ⟨c1, c2, c3, c4, c5, c6, c6', c7, c8, c9, c10, c11, c12, c13⟩ := hstr s hs
    obtain ⟨v1, v2, v3, v4, v5, v6, v7, v8, v9⟩ := hU'
    exact TT_1 (n0 := N0 s) (LB := LB0) (NR := NR) (NM := NM) (W0 := sR Bz 7) (by omega) t2 hWc t5 c8 c9 c10 c11 v5 v6 (fun j hj => by rw [v7]; exact u6 j 3 (by omega) (by omega) (by omega)) (fun k hk h2 => by rw [v7]; exact hpl k hk h2)
  have cdK : ∀ s : Nat, s < nS → ((Ds s).1 = 1 ∨ (Ds s).1 = 2) → ∃ (s0 m : Nat) (P : Nat → Tp), (Ds s).2.2.2.1 = [(m, P)] ∧ SW0 (8 * mu Ds s + 6) = nI s0 ∧ CR (NP s) c (Es s) C A s0 ns bs ws m P C A ∧ C (s0 + m) = 21 ∧ s0 + m < cs ∧ one P m := fun s hs hd => by
    obtain ⟨c1, c2, c3, c4, c5, c6, c6', c7, c8, c9, c10, c11, c12, c13⟩ := hstr s hs
    rcases c13 with z | ⟨z, le, b, cd, lt, s0, s1, u0, u1, r1, r2, r3, r4, r5, r6, r7, r8, r9, r10⟩
    · exact absurd z.1 (by omega)
    · rw [Nat.mul_comm (mu Ds s) 8] at r6
      have fin : cd = nI s0 → CDo (NP s) c (Es s) ns bs ws C A s0 (Ds s).2.2.2.1 s1 → (∃ (m : Nat) (P : Nat → Tp), (Ds s).2.2.2.1 = [(m, P)]) → ∃ (s0 m : Nat) (P : Nat → Tp), (Ds s).2.2.2.1 = [(m, P)] ∧ SW0 (8 * mu Ds s + 6) = nI s0 ∧ CR (NP s) c (Es s) C A s0 ns bs ws m P C A ∧ C (s0 + m) = 21 ∧ s0 + m < cs ∧ one P m := fun e1 e2 e3 => by
        obtain ⟨m, P, e3⟩ := e3
        rw [e3] at e2
        obtain ⟨⟨f1, f2, f3, f4⟩, f5⟩ := e2
        have f4 : s0 + m + 1 = s1 := f4
        exact ⟨s0, m, P, e3, by rw [r6, e1], f1, f2, by omega, f5 (m, P) (List.mem_singleton.mpr rfl)⟩
      rcases r8 with h | h | h | h | h | h | h | h | h
      · exact absurd h.1 (by omega)
      · obtain ⟨k1, k2, k3, k4, k5, k6, k7, k8, k9⟩ := h
        exact fin k6 k7 k8
      · obtain ⟨k1, k2, k3, k4, k5, k6, k7, k8⟩ := h
        exact fin k5 k6 k7
      iterate 6 (exact absurd h.1 (by omega))
  have rowk : ∀ i : Nat, i < sn → sR Q 0 (8 * i + 4) = nI (Ds (sg i)).1 ∧ (Ds (sg i)).1 ≤ 8 := fun i hi => by
    obtain ⟨w1, w2, w3⟩ := sg1 i (by omega)
    obtain ⟨c1, c2, c3, c4, c5, c6, c6', c7, c8, c9, c10, c11, c12, c13⟩ := hstr (sg i) w1
    rcases c13 with z | ⟨z, le, b, cd, lt, s0, s1, u0, u1, r1, r2, r3, r4, r5, r6, r7, r8, r9, r10⟩
    · exact absurd z.1 w3
    · rw [w2, Nat.mul_comm i 8] at r4
      rw [q1 i 4 hi (by omega) (by omega) (by omega)]
      exact ⟨r4, z⟩
  -- the class
  obtain ⟨U2, g1, g2, g3, g4⟩ := gr_4 (n := n) (Q := Q) (sn := sn) (cs := cs) (nl := nl) (ns := ns) (C := C) (A := A) (NM := NM) (NR := NR) (LB := sR U 6) (SW := sR Q 0) q0 (by omega) (fun i => (Ds (sg i)).1) (fun i => szN (Ds (sg i)) (BY (sg i)) (lv (sg i)) (ofs Ds Zs BY lv (sg i))) (fun i => hpO (decide ((Ds (sg i)).1 = 1)) (lv (sg i))) (fun i => zV (VV c X (Es (sg i)) nL (Qs (sg i)) (nI (lay Ds Zs BY lv nS).1) (nI (adN Zs (ofs Ds Zs BY lv) (lay Ds Zs BY lv nS).1 (sg i))) W) (dQ (Ds (sg i))) (dN (Ds (sg i)))) (fun i => trO (mV (VV c X (Es (sg i)) nL (Qs (sg i)) (nI (lay Ds Zs BY lv nS).1) (nI (adN Zs (ofs Ds Zs BY lv) (lay Ds Zs BY lv nS).1 (sg i))) W) (dQ (Ds (sg i))) (dN (Ds (sg i)))) (dV (VV c X (Es (sg i)) nL (Qs (sg i)) (nI (lay Ds Zs BY lv nS).1) (nI (adN Zs (ofs Ds Zs BY lv) (lay Ds Zs BY lv nS).1 (sg i))) W) (dQ (Ds (sg i))) (dN (Ds (sg i))))) (fun i => lfO (hpO (decide ((Ds (sg i)).1 = 1)) (lv (sg i))) (zV (VV c X (Es (sg i)) nL (Qs (sg i)) (nI (lay Ds Zs BY lv nS).1) (nI (adN Zs (ofs Ds Zs BY lv) (lay Ds Zs BY lv nS).1 (sg i))) W) (dQ (Ds (sg i))) (dN (Ds (sg i))) - nI (adN Zs (ofs Ds Zs BY lv) (lay Ds Zs BY lv nS).1 (sg i)))) (fun i => gG (sg i)) (fun i hi => by
    obtain ⟨w1, w2, w3⟩ := sg1 i (by omega)
    obtain ⟨k1, k2⟩ := rowk i hi
    obtain ⟨z1, z2, z3, z4, z5⟩ := sz_1 (hZ (sg i) w1) (ofs Ds Zs BY lv (sg i))
    obtain ⟨l1, l2, l3, l4⟩ := hlv (sg i) w1
    refine ⟨by omega, by omega, k1, (q2 i hi).2, ?_, fun hg => ?_⟩
    · rw [hgG]
      exact gw_e l1 l2 z4
    · have hk12 := of_decide_eq_true hg
      have hd : (Ds (sg i)).1 = 1 ∨ (Ds (sg i)).1 = 2 := by omega
      obtain ⟨s0, m, P, e1, e2, e3, e4, e5, e6⟩ := cdK (sg i) w1 hd
      rw [w2] at e2
      have eQ : dQ (Ds (sg i)) = P := by unfold dQ; rw [e1]
      have eN : dN (Ds (sg i)) = m := by unfold dN; rw [e1]
      have ez := z4 hd
      refine ⟨fun U' hU' => ?_, ?_, ?_⟩
      · rw [q1 i 6 hi (by omega) (by omega) (by omega), e2, (q2 i hi).1, eQ, eN]
        exact ev_C hn hU' (hTT U' (sg i) w1 hU') e3 e4 e5 e6
      · show df_X1_growingLetter n (nI (Ds (sg i)).1) (nI (szN (Ds (sg i)) (BY (sg i)) (lv (sg i)) (ofs Ds Zs BY lv (sg i)))) () = some (nI (hpO (decide ((Ds (sg i)).1 = 1)) (lv (sg i))), ())
        rw [ez] at hk12 ⊢
        rcases hd with hd | hd
        · have l0 : lv (sg i) = 0 := by
            have := l1 hd
            rcases (show lv (sg i) = 0 ∨ lv (sg i) = 1 by omega) with y | y
            · exact y
            · rw [y, hd] at hk12; omega
          rw [l0, hd]; exact (grl n).1
        · have lb := l2 hd
          rcases (show lv (sg i) = 0 ∨ lv (sg i) = 1 ∨ lv (sg i) = 2 by omega) with y | y | y
          · rw [y, hd]; exact (grl n).2.1
          · rw [y, hd]; exact (grl n).2.2
          · rw [y, hd] at hk12; omega
      · rw [(q2 i hi).1]
        show df_X7_fits n (nI (hpO (decide ((Ds (sg i)).1 = 1)) (lv (sg i)))) _ () = some (bI (lfO (hpO (decide ((Ds (sg i)).1 = 1)) (lv (sg i))) _), ())
        rw [ez] at hk12
        rcases hd with hd | hd
        · have l0 : lv (sg i) = 0 := by
            have := l1 hd
            rcases (show lv (sg i) = 0 ∨ lv (sg i) = 1 by omega) with y | y
            · exact y
            · rw [y, hd] at hk12; omega
          rw [l0, hd]; exact fit_K n _
        · have lb := l2 hd
          rcases (show lv (sg i) = 0 ∨ lv (sg i) = 1 ∨ lv (sg i) = 2 by omega) with y | y | y
          · rw [y, hd]; exact fit_L n _
          · rw [y, hd]; exact fit_T n _
          · rw [y, hd] at hk12; omega) sn 0 n U (by omega) (by omega) hU
  rw [SWg_0, nm_r0] at g1
  -- the reference
  obtain ⟨B', S2, ct', ap', gr', r1, r2, r3, r4, r5, r6, r7⟩ := st_19 (n := n) (L := L) (c := c) hX (X := X) (nL := nL) (nS := nS) (T := (lay Ds Zs BY lv nS).1) (OF := OF) (W := W) ⟨by omega, fun k hk => ⟨(t7 k hk).2.1, by have := (t7 k hk).1; omega, (t7 k hk).2.2⟩⟩ (BY := BY) (OU := OU) (PA0 := PA) (Ds := Ds) (Qs := Qs) (Es := Es) (Zs := Zs) (Fs := Fs) (N0 := N0) (AA := AAl Zs Fs lv) (of := ofs Ds Zs BY lv) G (by omega) (by omega) (fun s hs => by
    obtain ⟨c1, c2, c3, c4, c5, c6, c6', c7, c8, c9, c10, c11, ⟨lw, lv9, sz, ba, X0, W0, d1, d2, d3, d4, d5, d6, d7⟩, c13⟩ := hstr s hs
    obtain ⟨y1, y2, y3, y4⟩ := AAl_1 (Zs := Zs) (Fs := Fs) (lv := lv) c2 c3 (hl2 s hs)
    obtain ⟨l1, l2, l3, l4⟩ := hlv s hs
    have zk := hZ s hs
    refine ⟨⟨y1, y2, y4, c3, ?_, c4, c5, c6, c8, lw, lv9, sz, ba, X0, W0, d1, fun k hk => ⟨(d2 k hk).1, fun h2 => ((d2 k hk).2 h2).trans (hWc k (by omega) h2).symm⟩, d3, by omega, ?_⟩, hPA s hs, hOF s hs⟩
    · rcases zk with ⟨h1, h2, _⟩ | ⟨h1, h2, _⟩ | ⟨h1, h2, _⟩ | ⟨h1, h2, h3, h4, _⟩
      · exact ⟨fun _ => Or.inl h1, fun _ => by omega⟩
      · exact ⟨fun _ => Or.inr h1, fun _ => by omega⟩
      · exact ⟨fun w => by omega, fun w => by omega⟩
      · exact ⟨fun w => by omega, fun w => by omega⟩
    · rw [y3]
      by_cases z1 : (Ds s).1 = 1
      · rw [d6 z1]; exact l1 z1
      · by_cases z2 : (Ds s).1 = 2
        · rw [d7 z2]; exact l2 z2
        · have := l3 z1 z2; omega) gG (fun s hs => by
    obtain ⟨c1, c2, c3, c4⟩ := hstr s hs
    obtain ⟨y1, y2, y3, y4⟩ := AAl_1 (Zs := Zs) (Fs := Fs) (lv := lv) c2 c3 (hl2 s hs)
    rw [hgG, y3]
    rfl) nS 0 n B S ct ap gr (by omega) (by omega) hB (by rw [PAg_0]; exact hS)
  have ean : anyF (fun i => gG (sg i)) sn = anyF gG nS := by
    have e : anyF (fun i => gG (sg i)) sn = true ↔ anyF gG nS = true := by
      rw [any_s, any_s]
      constructor
      · intro ⟨i, h1, h2⟩
        exact ⟨sg i, (sg1 i (by omega)).1, h2⟩
      · intro ⟨s, h1, h2⟩
        obtain ⟨y1, y2⟩ := sgi s h1 (by have := (kG s h2).1; omega)
        exact ⟨mu Ds s, y1, by show gG (sg (mu Ds s)) = true; rw [y2]; exact h2⟩
    cases h1 : anyF (fun i => gG (sg i)) sn <;> cases h2 : anyF gG nS
    · rfl
    · exact absurd (e.mpr h2) (by rw [h1]; decide)
    · exact absurd (e.mp h1) (by rw [h2]; decide)
    · rfl
  rw [ean] at g1
  have uR6 := g2.2.2.2.2.2.2.1
  refine ⟨anyF gG nS, fun s => if gG s = true then lv s + 1 else lv s, _, U2, S2, g1, r1, fun hb => ?_, fun hb => ?_, fun j => rfl, rfl, g3, g4⟩
  · -- none grows
    have none : ∀ s : Nat, s < nS → gG s = false := fun s hs => by
      cases hh : gG s with
      | false => rfl
      | true => exact absurd ((any_s nS).mpr ⟨s, hs, hh⟩) (by rw [hb]; decide)
    have ePA : PAg PA (AAl Zs Fs lv) Qs gG nS = PA := funext fun x => if_neg (fun u => by rw [none x u.1] at u; exact absurd u.2 (by decide))
    have eSW : SWg (sR Q 0) (fun i => gG (sg i)) (fun i => szN (Ds (sg i)) (BY (sg i)) (lv (sg i)) (ofs Ds Zs BY lv (sg i))) sn = sR Q 0 := funext fun x => if_neg (fun u => by
      have := none (sg (x / 8)) (sg1 (x / 8) (by omega)).1
      have u3 : gG (sg (x / 8)) = true := u.2.2
      rw [this] at u3; exact absurd u3 (by decide))
    rw [eSW, nm_r0]
    rw [ePA] at r3
    exact ⟨⟨B', ct', gr', PA, OU, ap', OF, W, r3, hPA, r2, by rw [r6]; exact h5, hOF, hWc, hWl, fun k hk h2 => by rw [uR6]; exact hpl k hk h2⟩, q0, q1, q2, by rw [uR6]; exact g2, fun j x hj hx h2 => by rw [uR6]; exact u6 j x hj hx h2, q7, q8, q9⟩
  · -- some grow
    obtain ⟨sx, x1, x2⟩ := (any_s nS).mp hb
    have hl' : lvK Ds Fs (fun s => if gG s = true then lv s + 1 else lv s) nS := fun s hs => by
      obtain ⟨l1, l2, l3, l4⟩ := hlv s hs
      show ((Ds s).1 = 1 → (if gG s = true then lv s + 1 else lv s) ≤ 1) ∧ ((Ds s).1 = 2 → (if gG s = true then lv s + 1 else lv s) ≤ 2) ∧ (¬ (Ds s).1 = 1 → ¬ (Ds s).1 = 2 → (if gG s = true then lv s + 1 else lv s) = 0) ∧ Fs s % 4 ≤ (if gG s = true then lv s + 1 else lv s)
      by_cases y : gG s = true
      · rw [if_pos y]
        obtain ⟨k1, k2⟩ := kG s y
        refine ⟨fun w => ?_, fun w => ?_, fun w w' => by omega, by omega⟩
        · rw [if_pos w] at k2; omega
        · rw [if_neg (by omega)] at k2; omega
      · rw [if_neg y]
        exact ⟨l1, l2, l3, l4⟩
    refine ⟨hl', ⟨⟨B', ct', gr', _, OU, ap', r3, fun s hs => ?_, r2.1, r2.2.1, r2.2.2.1, r2.2.2.2.1, r2.2.2.2.2.1, fun k hk h2 => by rw [r2.2.2.2.2.2.2.2.1]; exact hWc k hk h2, r2.2.2.2.2.2.2.2.2.1, r2.2.2.2.2.2.2.2.2.2⟩, q0, fun i x hi hx h2 h3 => ?_, fun i hi h8 => ?_, by rw [uR6]; exact g2, fun j x hj hx h2 => by rw [uR6]; exact u6 j x hj hx h2⟩, ?_⟩
    · unfold PAg AAl
      dsimp only
      by_cases y : gG s = true
      · rw [if_pos ⟨hs, y⟩, if_pos y]
        exact congrArg nI (by omega)
      · rw [if_neg (fun u => y u.2), if_neg y]
        exact hPA s hs
    · rw [pR_e]
      show SWg _ _ _ _ _ = _
      unfold SWg
      rw [if_neg (by omega)]
      exact q1 i x hi hx h2 h3
    · rw [pR_e]
      obtain ⟨w1, w2, w3⟩ := sg1 i (by omega)
      obtain ⟨z1, z2, z3, z4, z5⟩ := sz_1 (hZ (sg i) w1) (ofs Ds Zs BY lv (sg i))
      unfold SWg
      rw [show (8 * i + 3) / 8 = i by omega]
      dsimp only
      by_cases y : gG (sg i) = true
      · rw [if_pos ⟨hi, by omega, y⟩, if_pos y, z4 (kG (sg i) y).1]
        have e : szN (Ds (sg i)) (BY (sg i)) (lv (sg i) + 1) 0 = 2 * 2 ^ (lv (sg i) + 1) := if_pos (kG (sg i) y).1
        rw [e, Nat.pow_succ]
        exact congrArg nI (by omega)
      · rw [if_neg (fun u => y u.2.2), if_neg y, (q2 i hi).2]
        exact congrArg nI (szN_o h8)
    · refine msr_s nS (fun s hs => ?_) sx x1 (kG sx x2).1 ?_ ?_
      · show lv s ≤ if gG s = true then lv s + 1 else lv s
        split <;> omega
      · show lv sx < if gG sx = true then lv sx + 1 else lv sx
        rw [if_pos x2]; omega
      · have := (kG sx x2).2
        split at this <;> omega

/-- the first round's levels -/
theorem RJ_0 {n L : Nat} {c : Nat → Nat} {p : Nat} {Bz : St} {sn lu ln se co : Nat} {SW0 LW : Nat → Int32} {cs ns : Nat} {C A NM BK : Nat → Int32} {bs ws : Nat → Nat} {nl : Nat} {NR LB0 : Nat → Int32} {sc X : Nat → Nat} {nL nS : Nat} {PAz BY : Nat → Int32} {Ds : Nat → Dt} {Qs Es Zs Ls Fs N0 : Nat → Nat} {NP : Nat → Nat → Int32} (hR : READ n L c p Bz sn lu ln se co SW0 LW cs ns C A NM BK bs ws nl NR LB0 sc X nL nS PAz BY Ds Qs Es Zs Ls Fs N0 NP) (hp : p ≤ 32769) {sg : Nat → Nat} (hsg : (∀ i : Nat, i < mu Ds nS → sg i < nS ∧ mu Ds (sg i) = i ∧ ¬ (Ds (sg i)).1 = 9) ∧ sg (mu Ds nS) = nS) {Q U S : St} {OU : Nat → Int32} {ct : Nat} {gr : Bool} {ap : Nat} (hS : SR Bz ct gr PAz BY OU 0 ap S) (b0 : sI Bz 0 = nI L) (b2 : ∀ i : Nat, i < L → sR Bz 2 i = nI (c i)) (q0 : sI Q 0 = nI sn) (q1 : sR Q 0 = SW0) (hU : URD U cs nl ns C A NM NR LB0) : lvK Ds Fs (fun s => Fs s % 4) nS ∧ RJ n L c Bz sn SW0 cs ns C A NM nl NR LB0 X nL nS BY Ds Qs Zs Fs sg (fun s => Fs s % 4) Q U S := by
  obtain ⟨a1, a2, a3, a4, a5, a6, a7, a8, a9, a10, a11, a12, a13, a14, a15, a16, a17, a18, a19⟩ := id hR
  obtain ⟨sg1, sg2⟩ := hsg
  have hstr : ∀ s : Nat, s < nS → STr n L c X nL (sR Bz 7) SW0 LW C A ns bs ws cs lu (mu Ds s) (PAz s) (BY s) (Ds s) (Qs s) (Es s) (Zs s) (Ls s) (Fs s) (N0 s) (NP s) := fun s hs => (a15 s hs).1
  have kinds : ∀ s : Nat, s < nS → ((Ds s).1 = 1 → Fs s = 8) ∧ ((Ds s).1 = 2 → Fs s = 16 ∨ Fs s = 25) ∧ (¬ (Ds s).1 = 1 → ¬ (Ds s).1 = 2 → Fs s = 0) := fun s hs => by
    obtain ⟨c1, c2, c3, c4, c5, c6, c6', c7, c8, c9, c10, c11, c12, c13⟩ := hstr s hs
    rcases c13 with z | ⟨z, le, b, cd, lt, s0, s1, u0, u1, r1, r2, r3, r4, r5, r6, r7, r8, r9, r10⟩
    · exact ⟨fun w => by omega, fun w => by omega, fun _ _ => z.2.2.2⟩
    · rcases r8 with h | h | h | h | h | h | h | h | h
      · exact ⟨fun w => by have := h.1; omega, fun w => by have := h.1; omega, fun _ _ => h.2.1⟩
      · exact ⟨fun w => h.2.1, fun w => by have := h.1; omega, fun w => absurd h.1 w⟩
      · exact ⟨fun w => by have := h.1; omega, fun w => by rcases h.2.1 with u | u; exact Or.inl u.1; exact Or.inr u.1, fun _ w => absurd h.1 w⟩
      iterate 6 (exact ⟨fun w => by have := h.1; omega, fun w => by have := h.1; omega, fun _ _ => h.2.1⟩)
  have hlv : lvK Ds Fs (fun s => Fs s % 4) nS := fun s hs => by
    obtain ⟨k1, k2, k3⟩ := kinds s hs
    refine ⟨fun w => ?_, fun w => ?_, fun w w' => ?_, Nat.le_refl _⟩
    · show Fs s % 4 ≤ 1
      rw [k1 w]; decide
    · show Fs s % 4 ≤ 2
      rcases k2 w with u | u <;> (rw [u]; decide)
    · show Fs s % 4 = 0
      rw [k3 w w']
  obtain ⟨hZ, hl2⟩ := RD_Z hR (by omega) hlv
  refine ⟨hlv, ⟨Bz, ct, gr, PAz, OU, ap, hS, fun s hs => ?_, b0, b2, a2, a3, a4, fun _ _ _ => rfl, a8, ln + 1, a5, by have := nlC_l c p; omega⟩, q0, fun i x _ _ _ _ => by rw [q1], fun i hi h8 => ?_, ?_, fun j x _ _ _ => by rw [hU.2.2.2.2.2.2.1]⟩
  · obtain ⟨c1, c2, c3, c4⟩ := hstr s hs
    rw [c1]
    show nI ((4 * Zs s + Fs s) * 2 ^ 17 + Qs s) = nI ((4 * Zs s + Fs s / 8 * 8 + Fs s % 4) * 2 ^ 17 + Qs s)
    exact congrArg nI (by rcases c3 with u | u | u | u <;> (rw [u]))
  · obtain ⟨w1, w2, w3⟩ := sg1 i (by omega)
    obtain ⟨c1, c2, c3, c4, c5, c6, c6', c7, c8, c9, c10, c11, c12, c13⟩ := hstr (sg i) w1
    obtain ⟨z1, z2, z3, z4, z5⟩ := sz_1 (hZ (sg i) w1) 0
    rcases c13 with z | ⟨z, le, b, cd, lt, s0, s1, u0, u1, r1, r2, r3, r4, r5, r6, r7, r8, r9, r10⟩
    · exact absurd z.1 w3
    · rw [w2, Nat.mul_comm i 8] at r3
      rw [q1, r3]
      rcases r8 with h | h | h | h | h | h | h | h | h
      · obtain ⟨k1, k2, k3, k4, k5, k6⟩ := h
        rw [← k5]; exact (z5 (by omega) (by omega) (by omega)).symm
      · obtain ⟨k1, k2, k3, k4, k5⟩ := h
        rw [k4, z4 (Or.inl k1)]
        show nI 2 = nI (2 * 2 ^ (Fs (sg i) % 4))
        rw [k2]
      · obtain ⟨k1, k2, k3⟩ := h
        rw [z4 (Or.inr k1)]
        show le = nI (2 * 2 ^ (Fs (sg i) % 4))
        rcases k2 with u | u
        · rw [u.1, u.2]
        · rw [u.1, u.2]
      · obtain ⟨k1, k2, k3, k4, k5, k6⟩ := h
        rw [← k5]; exact (z5 (by omega) (by omega) (by omega)).symm
      · obtain ⟨k1, k2, k3, k4, k5, k6, k7⟩ := h
        rw [← k6]; exact (z5 (by omega) (by omega) (by omega)).symm
      · obtain ⟨k1, k2, k3, k4, k5, k6, k7⟩ := h
        rw [← k6]; exact (z5 (by omega) (by omega) (by omega)).symm
      · obtain ⟨k1, k2, k3, k4, k5⟩ := h
        rw [← k4]; exact (z5 (by omega) (by omega) (by omega)).symm
      · obtain ⟨k1, k2, k3, k, k4, k5, k6⟩ := h
        rw [← k6]; exact (z5 (by omega) (by omega) (by omega)).symm
      · exact absurd h.1 h8
  · rw [hU.2.2.2.2.2.2.1]; exact hU
/-- all rounds -/
theorem ly_all {n L : Nat} {c : Nat → Nat} {p : Nat} {Bz : St} {sn lu ln se co : Nat} {SW0 LW : Nat → Int32} {cs ns : Nat} {C A NM BK : Nat → Int32} {bs ws : Nat → Nat} {nl : Nat} {NR LB0 : Nat → Int32} {sc X : Nat → Nat} {nL nS : Nat} {PAz BY : Nat → Int32} {Ds : Nat → Dt} {Qs Es Zs Ls Fs N0 : Nat → Nat} {NP : Nat → Nat → Int32} (hR : READ n L c p Bz sn lu ln se co SW0 LW cs ns C A NM BK bs ws nl NR LB0 sc X nL nS PAz BY Ds Qs Es Zs Ls Fs N0 NP) (hp : p ≤ 32769) {B0 : St} (hX : TXT n L c B0) {sg : Nat → Nat} (hsg : (∀ i : Nat, i < mu Ds nS → sg i < nS ∧ mu Ds (sg i) = i ∧ ¬ (Ds (sg i)).1 = 9) ∧ sg (mu Ds nS) = nS) (hcs : cs ≤ 32832) : ∀ (N : Nat) (lv : Nat → Nat) (x2 g g' : Nat) (Q U S : St), msr Ds lv nS < N → msr Ds lv nS ≤ x2 → x2 < 2 ^ 20 → N < g → N < g' → lvK Ds Fs lv nS → RJ n L c Bz sn SW0 cs ns C A NM nl NR LB0 X nL nS BY Ds Qs Zs Fs sg lv Q U S → ∃ (lv' : Nat → Nat) (Q' U' S' : St), df_X1_layOut_9 n g 1 (nI x2) (Q, U) = some (Q', U') ∧ df_X13_stretch_7 n g' 1 S = some S' ∧ lvK Ds Fs lv' nS ∧ LD n L c Bz sn SW0 cs ns C A NM nl NR LB0 X nL nS BY Ds Qs Zs Fs N0 sg lv' Q' U' S' ∧ (∀ j : Nat, ¬ j = 7 → ¬ j = 8 → ¬ j = 9 → sI Q' j = sI Q j) ∧ sR Q' 1 = sR Q 1 ∧ sO U' = sO U ∧ sR U' 7 = sR U 7 := fun N => by
  induction N with
  | zero => intro lv x2 g g' Q U S h; exact absurd h (Nat.not_lt_zero _)
  | succ N ih =>
    intro lv x2 g g' Q U S hN hx hx2 hg hg' hlv hJ
    obtain ⟨g, rfl⟩ : ∃ k : Nat, g = k + 1 + 1 := ⟨g - 2, by omega⟩
    obtain ⟨g', rfl⟩ : ∃ k : Nat, g' = k + 1 + 1 := ⟨g' - 2, by omega⟩
    obtain ⟨Q1, U1, S1, f1, f2, f3, f4, f5, f6, f7⟩ := RJ_L hR hp hX.1 hlv hsg hJ
    obtain ⟨b, lv', Q2, U2, S2, g1, g2, g3, g4, g5, g6, g7, g8⟩ := LD_G hR hp hX hlv hsg f3 hcs (df_X13_stretch_7 n (g' + 1))
    have eC : df_X1_layOut_9 n (g + 1 + 1) 1 (nI x2) (Q, U) = df_X1_layOut_9 n (g + 1) (bI b) (nI x2 + Int32.ofInt (-1)) (Q2, U2) := by
      show dF_X1_layOut_9 n (df_X1_layOut_9 n (g + 1)) 1 (nI x2) (Q, U) = _
      unfold dF_X1_layOut_9
      rw [if_neg (show ¬ (1 : Int32) = 0 by decide), if_neg (show ¬ nI x2 < (0 : Int32) from znl (b := 0) (Nat.zero_le _) (by omega)), f1, nb_b1, g1, nb_b2, nb_let]
    have eR : df_X13_stretch_7 n (g' + 1 + 1) 1 S = df_X13_stretch_7 n (g' + 1) (bI b) S2 := by
      show dF_X13_stretch_7 n (df_X13_stretch_7 n (g' + 1)) 1 S = _
      unfold dF_X13_stretch_7
      rw [if_neg (show ¬ (1 : Int32) = 0 by decide), f2, nb_b1]
      exact g2
    have keep : ∀ j : Nat, ¬ j = 7 → ¬ j = 8 → ¬ j = 9 → sI Q2 j = sI Q j := fun j h7 h8 h9 => (g5 j).trans (f4 j h7 h8 h9)
    cases hb : b with
    | false =>
      rw [hb] at eC eR
      refine ⟨lv, Q2, U2, S2, ?_, ?_, hlv, g3 hb, keep, g6.trans f5, g7.trans f6, g8.trans f7⟩
      · rw [eC]
        show dF_X1_layOut_9 n (df_X1_layOut_9 n g) (bI false) (nI x2 + Int32.ofInt (-1)) (Q2, U2) = _
        unfold dF_X1_layOut_9 df_X1_layOut_32
        rw [if_pos (show bI false = 0 from rfl)]
      · rw [eR]
        show dF_X13_stretch_7 n (df_X13_stretch_7 n g') (bI false) S2 = _
        unfold dF_X13_stretch_7
        rw [if_pos (show bI false = 0 from rfl)]
    | true =>
      rw [hb] at eC eR
      obtain ⟨k1, k2, k3⟩ := g4 hb
      obtain ⟨lv9, Q', U', S', t1, t2, t3, t4, t5, t6, t7, t8⟩ := ih lv' (x2 - 1) (g + 1) (g' + 1) Q2 U2 S2 (by omega) (by omega) (by omega) (by omega) (by omega) k1 k2
      refine ⟨lv9, Q', U', S', ?_, ?_, t3, t4, fun j h7 h8 h9 => (t5 j h7 h8 h9).trans (keep j h7 h8 h9), t6.trans (g6.trans f5), t7.trans (g7.trans f6), t8.trans (g8.trans f7)⟩
      · rw [eC, w1_s (by omega)]
        exact t1
      · rw [eR]
        exact t2

/-- the class: bytes that are put -/
def wrC : (Nat → Int32) → Nat → List Int32 → (Nat → Int32)
  | f, _, [] => f
  | f, a, b :: bs => wrC (upd f a (btI b)) (a + 1) bs
theorem wrC_a : ∀ (xs ys : List Int32) (f : Nat → Int32) (a : Nat), wrC f a (xs ++ ys) = wrC (wrC f a xs) (a + xs.length) ys := fun xs => by
  induction xs with
  | nil => intro ys f a; rfl
  | cons x xs ih =>
    intro ys f a
    show wrC (upd f a (btI x)) (a + 1) (xs ++ ys) = wrC (wrC (upd f a (btI x)) (a + 1) xs) (a + (xs.length + 1)) ys
    rw [ih, show a + 1 + xs.length = a + (xs.length + 1) by omega]
theorem shr_24 (w : Int32) : (w >>> ((16 : Int32) &&& 31)) >>> ((8 : Int32) &&& 31) = w >>> ((8 * nI 3) &&& 31) := by
  rw [show (16 : Int32) &&& 31 = nI 16 by decide, show (8 : Int32) &&& 31 = nI 8 by decide, show ((8 : Int32) * nI 3) &&& 31 = nI 24 by decide]
  apply Int32.toBitVec_inj.mp
  rw [Int32.toBitVec_shiftRight, Int32.toBitVec_shiftRight, Int32.toBitVec_shiftRight, BitVec.sshiftRight_eq', BitVec.sshiftRight_eq', BitVec.sshiftRight_eq', nm_sh 16 (by omega), nm_sh 8 (by omega), nm_sh 24 (by omega)]
  exact (BitVec.sshiftRight_add (x := w.toBitVec) (m := 16) (n := 8)).symm
theorem shr_0 (w : Int32) : w >>> ((8 * nI 0) &&& 31) = w := by
  rw [show ((8 : Int32) * nI 0) &&& 31 = nI 0 by decide]
  apply Int32.toBitVec_inj.mp
  rw [Int32.toBitVec_shiftRight, BitVec.sshiftRight_eq', nm_sh 0 (by omega)]
  exact BitVec.sshiftRight_zero
theorem by2_K (w : Int32) : byK w 2 0 = by2 w := by
  show [w >>> ((8 * nI 0) &&& 31), w >>> ((8 * nI 1) &&& 31)] = by2 w
  rw [shr_0]
  rfl
theorem by4_K (w : Int32) : byK w 4 0 = by4 w := by
  show [w >>> ((8 * nI 0) &&& 31), w >>> ((8 * nI 1) &&& 31), w >>> ((8 * nI 2) &&& 31), w >>> ((8 * nI 3) &&& 31)] = [w, w >>> ((8 : Int32) &&& 31), w >>> ((16 : Int32) &&& 31), (w >>> ((16 : Int32) &&& 31)) >>> ((8 : Int32) &&& 31)]
  rw [shr_0, shr_24]
  rfl
theorem ptC_3 {n : Nat} {M : St} {QU : St × St} {P : St} {a len : Nat} (b : Int32) (ha : a + len ≤ 32768) : ∀ (k i g : Nat) (f : Nat → Int32), i + k = len → k < g → df_X1_put_3 n g (nI a) (nI len) b (nI i) (M, (QU, pR P 0 f)) = some (M, (QU, pR P 0 (wrC f (a + i) (byK b k i)))) := fun k => by
  induction k with
  | zero =>
    intro i g f h1 h2
    obtain ⟨g, rfl⟩ : ∃ m : Nat, g = m + 1 := ⟨g - 1, by omega⟩
    show dF_X1_put_3 n (df_X1_put_3 n g) (nI a) (nI len) b (nI i) (M, (QU, pR P 0 f)) = _
    unfold dF_X1_put_3
    rw [if_pos (zle (show len ≤ i by omega) (by omega))]
    rfl
  | succ k ih =>
    intro i g f h1 h2
    obtain ⟨g, rfl⟩ : ∃ m : Nat, g = m + 1 := ⟨g - 1, by omega⟩
    show dF_X1_put_3 n (df_X1_put_3 n g) (nI a) (nI len) b (nI i) (M, (QU, pR P 0 f)) = _
    unfold dF_X1_put_3 df_X1_put_46
    rw [if_neg (znle (show i < len by omega) (by omega)), nI_add, if_neg (show ¬ nI (a + i) < 0 from znl (b := 0) (Nat.zero_le _) (by omega)), if_neg (show ¬ (32768 : Int32) ≤ nI (a + i) from znle (a := 32768) (by omega) (by omega)), nm_ck (by omega) (by omega), nI_clamp (by omega)]
    rw [nb_let, nb_let, show nI i + Int32.ofInt 1 = nI (i + 1) from nI_add i 1]
    rw [show ((M, (QU, pR P 0 f)) : St × (St × St) × St).1 = M from rfl, show ((M, (QU, pR P 0 f)) : St × (St × St) × St).2.1 = QU from rfl, show ((M, (QU, pR P 0 f)) : St × (St × St) × St).2.2 = pR P 0 f from rfl, pR_2, pR_e]
    have := ih (i + 1) g (upd f (a + i) (btI (b >>> ((8 * nI i) &&& 31)))) (by omega) (by omega)
    exact this
/-- what put does -/
theorem ptC {n : Nat} {M : St} {QU : St × St} {P : St} {a len : Nat} (hn : 70000 < n) (b : Int32) (ha : a + len ≤ 32768) (f : Nat → Int32) : df_X1_put n (nI a) (nI len) b (M, (QU, pR P 0 f)) = some (M, (QU, pR P 0 (wrC f a (byK b len 0)))) := ptC_3 (n := n) b ha len 0 n f (by omega) (by omega)
theorem pI_22 {Q : St} {u v : Int32} : pI (pI Q 2 u) 2 v = pI Q 2 v := Prod.ext (funext fun j => by
  show (if j = 2 then v else if j = 2 then u else Q.1 j) = if j = 2 then v else Q.1 j
  split <;> rfl) rfl
theorem pI_z2 {Q : St} (h : sI Q 2 = 0) : pI Q 2 0 = Q := by
  have := pI_s Q 2
  rw [h] at this
  exact this
/-- an expression's value, and the fault that it has -/
theorem wkC {n : Nat} {Q U : St} (h2 : sI Q 2 = 0) {cd hr z : Int32} {ms dv : Bool} {S' : Nat → Int32} (h : df_X9_evaluate n cd hr U = some (z, vC U 1 (trO ms dv) S')) : df_X1_worked n cd hr (Q, U) = some (z, (pI Q 2 (trO ms dv), vC U 1 (trO ms dv) S')) := by
  unfold df_X1_worked df_X1_worked_0 df_X1_worked_31
  rw [show df_X9_evaluate n cd hr (Q, U).2 = _ from h, nb_b2, nb_let]
  by_cases t : trO ms dv = 0
  · rw [if_pos (show sI ((Q, U).1, vC U 1 (trO ms dv) S').2 11 = 0 from t), t, pI_z2 h2]
  · rw [if_neg (show ¬ sI ((Q, U).1, vC U 1 (trO ms dv) S').2 11 = 0 from t)]
    rw [show df_X1_blame n (sI ((Q, U).1, vC U 1 (trO ms dv) S').2 11) ((Q, U).1, vC U 1 (trO ms dv) S') = some (pI Q 2 (trO ms dv), vC U 1 (trO ms dv) S') from bl_X1 _ h2, nb_b1]
theorem ckC {n : Nat} {Q U : St} {l : Nat} (hl : ltO l = true) (v : Int32) {ms dv : Bool} : df_X1_checked n (nI l) v (pI Q 2 (trO ms dv), U) = some (lbO l v, (pI Q 2 (nI (vF ms dv (lfO l v))), U)) := by
  unfold df_X1_checked df_X1_checked_0 df_X1_checked_14
  rw [lfO_C n hl, nb_b2, lbO_C n hl]
  cases hf : lfO l v with
  | true =>
    rw [if_neg (show ¬ bI true = 0 by decide), nb_b2]
    cases ms <;> cases dv <;> rfl
  | false =>
    rw [if_pos (show bI false = 0 from rfl)]
    by_cases t : trO ms dv = 0
    · rw [bl_X1 10 (show sI (pI Q 2 (trO ms dv)) 2 = 0 from t), nb_b1, nb_b2, pI_22]
      have : ms = false ∧ dv = false := by cases ms <;> cases dv <;> first | exact ⟨rfl, rfl⟩ | exact absurd t (by decide)
      rw [this.1, this.2]
      rfl
    · have hb : df_X1_blame n 10 (pI Q 2 (trO ms dv), U) = some (pI Q 2 (trO ms dv), U) := by
        unfold df_X1_blame df_X1_blame_0 df_X1_blame_12
        rw [if_neg (show ¬ sI (pI Q 2 (trO ms dv), U).1 2 = 0 from t)]
      rw [hb, nb_b1, nb_b2]
      cases ms with
      | true => rfl
      | false =>
        cases dv with
        | true => rfl
        | false => exact absurd rfl t
theorem vF_t {ms dv : Bool} : trO ms dv = nI (vF ms dv true) := by cases ms <;> cases dv <;> rfl
/-- a statement has been put, in the class -/
def PUTD (M Q P : St) (cs nl ns : Nat) (C A NM NR LB : Nat → Int32) (ad F : Nat) (bsx : List Int32) (U : St) (f : Nat → Int32) (r : Option (St × (St × St) × St)) : Prop := ∃ (U' : St) (f' : Nat → Int32), r = some (M, ((pI Q 2 (nI F), U'), pR P 0 f')) ∧ URD U' cs nl ns C A NM NR LB ∧ sO U' = sO U ∧ sR U' 7 = sR U 7 ∧ (F = 0 → f' = wrC f ad bsx)
theorem ptP {n : Nat} {M Q U P : St} {cs nl ns : Nat} {C A NM NR LB : Nat → Int32} (hn : 70000 < n) (hU : URD U cs nl ns C A NM NR LB) (h2 : sI Q 2 = 0) {i : Nat} (hi : i < 8194) {ad len l : Nat} {b cd z : Int32} {ms dv : Bool} (r2 : sR Q 0 (8 * i + 2) = nI ad) (r3 : sR Q 0 (8 * i + 3) = nI len) (r5 : sR Q 0 (8 * i + 5) = b) (r6 : sR Q 0 (8 * i + 6) = cd) (r7 : sR Q 0 (8 * i + 7) = nI l) (hl : l = 0 ∨ ltO l = true) (hlen : len = 2 ∨ len = 4) (ha : ad + len ≤ 32768) (hev : ¬ l = 0 → ∃ S' : Nat → Int32, df_X9_evaluate n cd (nI ad) U = some (z, vC U 1 (trO ms dv) S')) (f : Nat → Int32) : PUTD M Q P cs nl ns C A NM NR LB ad (if l = 0 then 0 else vF ms dv (lfO l (vtO l (nI ad) z))) (if len = 4 then by4 (if l = 0 then b else b ||| lbO l (vtO l (nI ad) z)) else by2 (if l = 0 then b else b ||| lbO l (vtO l (nI ad) z))) U f (df_X1_putPlain n (nI (8 * i)) (M, ((Q, U), pR P 0 f))) := by
  have l128 : l < 128 := by
    rcases hl with h | h
    · omega
    · have := of_decide_eq_true h; omega
  have fin : ∀ (w : Int32) (Q1 U1 : St), sR Q1 0 = sR Q 0 → df_X1_putPlain_80 n (nI (8 * i)) w (nI ad) (M, ((Q1, U1), pR P 0 f)) = some (M, ((Q1, U1), pR P 0 (wrC f ad (if len = 4 then by4 w else by2 w)))) := fun w Q1 U1 hq => by
    unfold df_X1_putPlain_80
    rw [show nI (8 * i) + 3 = nI (8 * i + 3) from nI_add (8 * i) 3, nm_ck (by omega) (by omega), nI_clamp (by omega)]
    rw [show sR ((M, ((Q1, U1), pR P 0 f)) : St × (St × St) × St).2.1.1 0 = sR Q 0 from hq, r3, ptC hn w ha f, nb_b1]
    rcases hlen with h | h <;> subst h
    · rw [by2_K, if_neg (show ¬ (2 : Nat) = 4 by decide)]
    · rw [by4_K, if_pos rfl]
  have eQ : sR ((M, ((Q, U), pR P 0 f)) : St × (St × St) × St).2.1.1 0 = sR Q 0 := rfl
  unfold df_X1_putPlain df_X1_putPlain_0
  rw [show nI (8 * i) + 5 = nI (8 * i + 5) from nI_add (8 * i) 5, show nI (8 * i) + 2 = nI (8 * i + 2) from nI_add (8 * i) 2, show nI (8 * i) + 7 = nI (8 * i + 7) from nI_add (8 * i) 7, show nI (8 * i) + 6 = nI (8 * i + 6) from nI_add (8 * i) 6]
  rw [nm_ck (by omega) (by omega), nI_clamp (by omega), eQ, r5, nb_let, nm_ck (by omega) (by omega), nI_clamp (by omega), r2, nb_let, nm_ck (by omega) (by omega), nI_clamp (by omega), r7, show (nI l).toUInt32.toUInt16.toUInt32.toInt32 = nI l from ch_16 ⟨l, l128⟩, nb_let]
  by_cases l0 : l = 0
  · rw [if_pos (show nI l = 0 from congrArg nI l0), if_pos l0, if_pos l0, fin b Q U rfl]
    exact ⟨U, _, by rw [show nI 0 = 0 from rfl, pI_z2 h2], hU, rfl, rfl, fun _ => rfl⟩
  · obtain ⟨S', e1⟩ := hev l0
    have hl1 : ltO l = true := by rcases hl with h | h; exact absurd h l0; exact h
    rw [if_neg (show ¬ nI l = 0 from zne (b := 0) l0 (by omega) (by omega)), nm_ck (by omega) (by omega), nI_clamp (by omega), r6]
    rw [show df_X1_worked n cd (nI ad) ((M, ((Q, U), pR P 0 f)) : St × (St × St) × St).2.1 = _ from wkC h2 e1, nb_b2, nb_let, isT_1 n l128, nb_b2]
    have fin2 : ∀ v : Int32, df_X1_putPlain_75 n (nI (8 * i)) (nI ad) b (nI l) v (M, ((pI Q 2 (trO ms dv), vC U 1 (trO ms dv) S'), pR P 0 f)) = some (M, ((pI Q 2 (nI (vF ms dv (lfO l v))), vC U 1 (trO ms dv) S'), pR P 0 (wrC f ad (if len = 4 then by4 (b ||| lbO l v) else by2 (b ||| lbO l v))))) := fun v => by
      unfold df_X1_putPlain_75
      rw [show df_X1_checked n (nI l) v ((M, ((pI Q 2 (trO ms dv), vC U 1 (trO ms dv) S'), pR P 0 f)) : St × (St × St) × St).2.1 = _ from ckC hl1 v, nb_b2, nb_let, nb_let]
      exact fin (b ||| lbO l v) (pI Q 2 (nI (vF ms dv (lfO l v)))) (vC U 1 (trO ms dv) S') rfl
    rw [if_neg l0, if_neg l0]
    by_cases tg : l = 84 ∨ l = 74 ∨ l = 75 ∨ l = 76
    · rw [decide_eq_true tg, if_neg (show ¬ bI true = 0 by decide)]
      have ev : vtO l (nI ad) z = z - nI ad := if_pos (decide_eq_true tg)
      rw [ev]
      exact ⟨vC U 1 (trO ms dv) S', _, fin2 (z - nI ad), URD_v hU 1 _ S', rfl, rfl, fun _ => rfl⟩
    · rw [decide_eq_false tg, if_pos (show bI false = 0 from rfl)]
      have ev : vtO l (nI ad) z = z := if_neg (fun h => tg (of_decide_eq_true h))
      rw [ev]
      exact ⟨vC U 1 (trO ms dv) S', _, fin2 z, URD_v hU 1 _ S', rfl, rfl, fun _ => rfl⟩

theorem grl_4 (n : Nat) : df_X1_growingLetter n 1 4 () = some (74, ()) := by
  unfold df_X1_growingLetter df_X1_growingLetter_0 df_X1_growingLetter_17 df_X1_growingLetter_40
  rw [if_pos rfl, if_neg (show ¬ (4 : Int32) = 2 by decide)]; exact nar_z (by decide)
theorem hi_9 (n : Nat) (v : Int32) : df_X9_high n v () = some (hiO v, ()) := rfl
theorem by2_l (w : Int32) : (by2 w).length = 2 := rfl
theorem by4_l (w : Int32) : (by4 w).length = 4 := rfl
theorem ptG {n : Nat} {M Q U P : St} {cs nl ns : Nat} {C A NM NR LB : Nat → Int32} (hn : 70000 < n) (hU : URD U cs nl ns C A NM NR LB) (h2 : sI Q 2 = 0) {i : Nat} (hi : i < 8194) {ad l kd : Nat} {b cd z : Int32} {ms dv : Bool} (r2 : sR Q 0 (8 * i + 2) = nI ad) (r3 : sR Q 0 (8 * i + 3) = nI (2 * 2 ^ l)) (r4 : sR Q 0 (8 * i + 4) = nI kd) (r5 : sR Q 0 (8 * i + 5) = b) (r6 : sR Q 0 (8 * i + 6) = cd) (hk : (kd = 1 ∧ l ≤ 1 ∧ (b = 111 ∨ b = 239)) ∨ (kd = 2 ∧ l ≤ 2)) (ha : ad + 2 * 2 ^ l ≤ 32768) (hev : ∃ S' : Nat → Int32, df_X9_evaluate n cd (nI ad) U = some (z, vC U 1 (trO ms dv) S')) (f : Nat → Int32) : PUTD M Q P cs nl ns C A NM NR LB ad (vF ms dv (lfO (hpO (decide (kd = 1)) l) (offO l (z - nI ad)))) (if kd = 1 then hopL l ((b >>> ((7 : Int32) &&& 31)) &&& 31) (z - nI ad) else brnC l b (z - nI ad)) U f (df_X1_putGrown n (nI (8 * i)) (M, ((Q, U), pR P 0 f))) := by
  obtain ⟨S', e1⟩ := hev
  have hUv := URD_v hU 1 (trO ms dv) S'
  have t171 : ∀ (w : Int32) (kd len lt : Nat), ad + len ≤ 32768 → df_X1_growingLetter n (nI kd) (nI len) () = some (nI lt, ()) → ltO lt = true → df_X1_putGrown_171 n w (nI ad) (nI len) (nI kd) (z - nI ad) (M, ((pI Q 2 (trO ms dv), vC U 1 (trO ms dv) S'), pR P 0 f)) = some (M, ((pI Q 2 (nI (vF ms dv (lfO lt (z - nI ad)))), vC U 1 (trO ms dv) S'), pR P 0 (wrC f ad (byK (w ||| lbO lt (z - nI ad)) len 0)))) := fun w kd len lt ha hg hl => by
    unfold df_X1_putGrown_171
    rw [hg, nb_b2, show df_X1_checked n (nI lt) (z - nI ad) ((M, ((pI Q 2 (trO ms dv), vC U 1 (trO ms dv) S'), pR P 0 f)) : St × (St × St) × St).2.1 = _ from ckC hl (z - nI ad), nb_b2, nb_let]
    exact (congrArg (fun o => nd_b1 o (fun (s25 : St × (St × (St)) × (St)) => some s25)) (ptC hn (w ||| lbO lt (z - nI ad)) ha f)).trans nb_b1
  have eQ : sR ((M, ((Q, U), pR P 0 f)) : St × (St × St) × St).2.1.1 0 = sR Q 0 := rfl
  unfold df_X1_putGrown df_X1_putGrown_0 df_X1_putGrown_142
  rw [show nI (8 * i) + 5 = nI (8 * i + 5) from nI_add (8 * i) 5, show nI (8 * i) + 2 = nI (8 * i + 2) from nI_add (8 * i) 2, show nI (8 * i) + 3 = nI (8 * i + 3) from nI_add (8 * i) 3, show nI (8 * i) + 4 = nI (8 * i + 4) from nI_add (8 * i) 4, show nI (8 * i) + 6 = nI (8 * i + 6) from nI_add (8 * i) 6]
  rw [nm_ck (by omega) (by omega), nI_clamp (by omega), eQ, r5, nb_let, nm_ck (by omega) (by omega), nI_clamp (by omega), r2, nb_let, nm_ck (by omega) (by omega), nI_clamp (by omega), r3, nb_let, nm_ck (by omega) (by omega), nI_clamp (by omega), r4, nb_let, nm_ck (by omega) (by omega), nI_clamp (by omega), r6]
  rw [show df_X1_worked n cd (nI ad) ((M, ((Q, U), pR P 0 f)) : St × (St × St) × St).2.1 = _ from wkC h2 e1, nb_b2, nb_let, nb_let]
  rcases hk with ⟨k1, k2, k3⟩ | ⟨k1, k2⟩
  · subst k1
    rw [if_pos rfl, decide_eq_true rfl]
    have : l = 0 ∨ l = 1 := by omega
    rcases this with u | u <;> subst u
    · rw [if_neg (show ¬ nI (2 * 2 ^ 0) = 8 by decide), if_pos (show nI (2 * 2 ^ 0) = 2 from rfl), if_pos (show nI 1 = 1 from rfl)]
      rcases k3 with u | u <;> subst u
      · rw [if_pos (show ((111 : Int32) >>> ((7 : Int32) &&& 31)) &&& 31 = 0 by decide)]
        refine ⟨_, _, t171 40961 1 2 75 ha (grl n).1 rfl, hUv, rfl, rfl, fun _ => ?_⟩
        rw [by2_K]
        rfl
      · rw [if_neg (show ¬ ((239 : Int32) >>> ((7 : Int32) &&& 31)) &&& 31 = 0 by decide)]
        refine ⟨_, _, t171 8193 1 2 75 ha (grl n).1 rfl, hUv, rfl, rfl, fun _ => ?_⟩
        rw [by2_K]
        rfl
    · rw [if_neg (show ¬ nI (2 * 2 ^ 1) = 8 by decide), if_neg (show ¬ nI (2 * 2 ^ 1) = 2 by decide)]
      refine ⟨_, _, t171 b 1 4 74 ha (grl_4 n) rfl, hUv, rfl, rfl, fun _ => ?_⟩
      rw [by4_K]
      rcases k3 with u | u <;> subst u <;> rfl
  · subst k1
    rw [if_neg (show ¬ (2 : Nat) = 1 by decide), decide_eq_false (show ¬ (2 : Nat) = 1 by decide)]
    have : l = 0 ∨ l = 1 ∨ l = 2 := by omega
    rcases this with u | u | u <;> subst u
    · rw [if_neg (show ¬ nI (2 * 2 ^ 0) = 8 by decide), if_pos (show nI (2 * 2 ^ 0) = 2 from rfl), if_neg (show ¬ nI 2 = 1 by decide), plr_q, nb_b2, nb_let]
      refine ⟨_, _, t171 _ 2 2 76 ha (grl n).2.1 rfl, hUv, rfl, rfl, fun _ => ?_⟩
      rw [by2_K]
      rfl
    · rw [if_neg (show ¬ nI (2 * 2 ^ 1) = 8 by decide), if_neg (show ¬ nI (2 * 2 ^ 1) = 2 by decide)]
      refine ⟨_, _, t171 b 2 4 84 ha (grl n).2.2 rfl, hUv, rfl, rfl, fun _ => ?_⟩
      rw [by4_K]
      rfl
    · rw [if_pos (show nI (2 * 2 ^ 2) = 8 from rfl), (pl_T n 8).1, nb_b2]
      have ha8 : ad + 8 ≤ 32768 := ha
      rw [show df_X1_put n (nI ad) 4 ((b ^^^ 4096) ||| plT 8) (M, ((pI Q 2 (trO ms dv), vC U 1 (trO ms dv) S'), pR P 0 f)) = _ from ptC (len := 4) hn _ (by omega) f, nb_b1]
      rw [show df_X1_checked n 74 (z - nI ad - 4) ((M, ((pI Q 2 (trO ms dv), vC U 1 (trO ms dv) S'), pR P 0 (wrC f ad (byK ((b ^^^ 4096) ||| plT 8) 4 0)))) : St × (St × St) × St).2.1 = _ from ckC (l := 74) rfl (z - nI ad - 4), nb_b2, nb_let]
      rw [show nI ad + 4 = nI (ad + 4) from nI_add ad 4]
      refine ⟨vC U 1 (trO ms dv) S', wrC (wrC f ad (byK ((b ^^^ 4096) ||| plT 8) 4 0)) (ad + 4) (byK (111 ||| lbO 74 (z - nI ad - 4)) 4 0), ?_, hUv, rfl, rfl, fun _ => ?_⟩
      · exact (congrArg (fun o => nd_b1 o (fun (s25 : St × (St × (St)) × (St)) => some s25)) (ptC (len := 4) hn (111 ||| lbO 74 (z - nI ad - 4)) (by omega) _)).trans nb_b1
      · rw [by4_K, by4_K]
        exact (wrC_a (by4 ((b ^^^ 4096) ||| plT 8)) (by4 (111 ||| plJ (z - nI ad - 4))) f ad).symm
theorem ptA {n : Nat} {M Q U P : St} {cs nl ns : Nat} {C A NM NR LB : Nat → Int32} (hn : 70000 < n) (hU : URD U cs nl ns C A NM NR LB) (h2 : sI Q 2 = 0) {i : Nat} (hi : i < 8194) {ad : Nat} {b cd z : Int32} {ms dv : Bool} (r2 : sR Q 0 (8 * i + 2) = nI ad) (r5 : sR Q 0 (8 * i + 5) = b) (r6 : sR Q 0 (8 * i + 6) = cd) (ha : ad + 8 ≤ 32768) (hev : ∃ S' : Nat → Int32, df_X9_evaluate n cd (nI ad) U = some (z, vC U 1 (trO ms dv) S')) (f : Nat → Int32) : PUTD M Q P cs nl ns C A NM NR LB ad (vF ms dv true) (by4 (b ||| hiO (z - nI ad) <<< ((12 : Int32) &&& 31)) ++ by4 ((19 ||| ((b >>> ((7 : Int32) &&& 31)) &&& 31) <<< ((7 : Int32) &&& 31)) ||| ((b >>> ((7 : Int32) &&& 31)) &&& 31) <<< ((15 : Int32) &&& 31) ||| loO (z - nI ad) <<< ((20 : Int32) &&& 31))) U f (df_X1_putAddress n (nI (8 * i)) (M, ((Q, U), pR P 0 f))) := by
  obtain ⟨S', e1⟩ := hev
  have hUv := URD_v hU 1 (trO ms dv) S'
  have eQ : sR ((M, ((Q, U), pR P 0 f)) : St × (St × St) × St).2.1.1 0 = sR Q 0 := rfl
  unfold df_X1_putAddress df_X1_putAddress_0
  rw [show nI (8 * i) + 5 = nI (8 * i + 5) from nI_add (8 * i) 5, show nI (8 * i) + 2 = nI (8 * i + 2) from nI_add (8 * i) 2, show nI (8 * i) + 6 = nI (8 * i + 6) from nI_add (8 * i) 6]
  rw [nm_ck (by omega) (by omega), nI_clamp (by omega), eQ, r2, nb_let, nm_ck (by omega) (by omega), nI_clamp (by omega), r5, nb_let, nm_ck (by omega) (by omega), nI_clamp (by omega), r6]
  rw [show df_X1_worked n cd (nI ad) ((M, ((Q, U), pR P 0 f)) : St × (St × St) × St).2.1 = _ from wkC h2 e1, nb_b2, nb_let, nb_let, nm_ck (by omega) (by omega), hi_9, nb_b2, plr_U, nb_b2]
  rw [show sR ((M, ((pI Q 2 (trO ms dv), vC U 1 (trO ms dv) S'), pR P 0 f)) : St × (St × St) × St).2.1.1 0 (8 * i + 5) = b from r5]
  rw [show df_X1_put n (nI ad) 4 (b ||| hiO (z - nI ad) <<< ((12 : Int32) &&& 31)) (M, ((pI Q 2 (trO ms dv), vC U 1 (trO ms dv) S'), pR P 0 f)) = _ from ptC (len := 4) hn _ (by omega) f, nb_b1, lo_9, nb_b2, plr_I, nb_b2, show nI ad + 4 = nI (ad + 4) from nI_add ad 4]
  refine ⟨vC U 1 (trO ms dv) S', wrC (wrC f ad (byK (b ||| hiO (z - nI ad) <<< ((12 : Int32) &&& 31)) 4 0)) (ad + 4) (byK ((19 ||| ((b >>> ((7 : Int32) &&& 31)) &&& 31) <<< ((7 : Int32) &&& 31)) ||| ((b >>> ((7 : Int32) &&& 31)) &&& 31) <<< ((15 : Int32) &&& 31) ||| loO (z - nI ad) <<< ((20 : Int32) &&& 31)) 4 0), ?_, hUv, rfl, rfl, fun _ => ?_⟩
  · rw [← vF_t]
    exact (congrArg (fun o => nd_b1 o (fun (s25 : St × (St × (St)) × (St)) => some s25)) (ptC (len := 4) hn _ (by omega) _)).trans nb_b1
  · rw [by4_K, by4_K]
    exact (wrC_a (by4 _) (by4 _) f ad).symm
theorem ptN {n : Nat} {M Q U P : St} {cs nl ns : Nat} {C A NM NR LB : Nat → Int32} (hn : 70000 < n) (hU : URD U cs nl ns C A NM NR LB) (h2 : sI Q 2 = 0) {i : Nat} (hi : i < 8194) {ad : Nat} {b v : Int32} (r2 : sR Q 0 (8 * i + 2) = nI ad) (r3 : sR Q 0 (8 * i + 3) = nI (numB b v).length) (r5 : sR Q 0 (8 * i + 5) = b) (r6 : sR Q 0 (8 * i + 6) = v) (ha : ad + (numB b v).length ≤ 32768) (f : Nat → Int32) : PUTD M Q P cs nl ns C A NM NR LB ad 0 (numB b v) U f (df_X1_putNumber n (nI (8 * i)) (M, ((Q, U), pR P 0 f))) := by
  have eQ : sR ((M, ((Q, U), pR P 0 f)) : St × (St × St) × St).2.1.1 0 = sR Q 0 := rfl
  have fin : ∀ f' : Nat → Int32, f' = wrC f ad (numB b v) → PUTD M Q P cs nl ns C A NM NR LB ad 0 (numB b v) U f (some (M, ((Q, U), pR P 0 f'))) := fun f' h => ⟨U, f', by rw [show nI 0 = 0 from rfl, pI_z2 h2], hU, rfl, rfl, fun _ => h⟩
  unfold df_X1_putNumber df_X1_putNumber_0 df_X1_putNumber_176
  rw [show nI (8 * i) + 5 = nI (8 * i + 5) from nI_add (8 * i) 5, show nI (8 * i) + 2 = nI (8 * i + 2) from nI_add (8 * i) 2, show nI (8 * i) + 3 = nI (8 * i + 3) from nI_add (8 * i) 3, show nI (8 * i) + 6 = nI (8 * i + 6) from nI_add (8 * i) 6]
  rw [nm_ck (by omega) (by omega), nI_clamp (by omega), eQ, r2, nb_let, nm_ck (by omega) (by omega), nI_clamp (by omega), r3, nb_let, nm_ck (by omega) (by omega), nI_clamp (by omega), r5, nb_let, nm_ck (by omega) (by omega), nI_clamp (by omega), r6, nb_let]
  by_cases c1 : fzO (-32) 31 1 v = true ∧ ¬ b = 0
  · have e : numB b v = by2 ((16385 ||| b <<< ((7 : Int32) &&& 31)) ||| plN v) := if_pos c1
    have e2 : (numB b v).length = 2 := by rw [e]; rfl
    rw [e2] at ha
    rw [e2, if_pos (show nI 2 = 2 from rfl), (pl_N n v).1, nb_b2]
    rw [show df_X1_put n (nI ad) 2 ((16385 ||| b <<< ((7 : Int32) &&& 31)) ||| plN v) (M, ((Q, U), pR P 0 f)) = _ from ptC (len := 2) hn _ ha f, nb_b1]
    exact fin _ (by rw [e, by2_K])
  · by_cases c2 : fzO (-2048) 2047 1 v = true
    · have e : numB b v = by4 ((19 ||| b <<< ((7 : Int32) &&& 31)) ||| v <<< ((20 : Int32) &&& 31)) := (if_neg c1).trans (if_pos c2)
      have e2 : (numB b v).length = 4 := by rw [e]; rfl
      rw [e2] at ha
      rw [e2, if_neg (show ¬ nI 4 = 2 by decide), fit_I, nb_b2, c2, if_neg (show ¬ bI true = 0 by decide), plr_I, nb_b2]
      rw [show df_X1_put n (nI ad) 4 ((19 ||| b <<< ((7 : Int32) &&& 31)) ||| v <<< ((20 : Int32) &&& 31)) (M, ((Q, U), pR P 0 f)) = _ from ptC (len := 4) hn _ ha f, nb_b1]
      exact fin _ (by rw [e, by4_K])
    · have e : numB b v = by4 ((55 ||| b <<< ((7 : Int32) &&& 31)) ||| hiO v <<< ((12 : Int32) &&& 31)) ++ (if loO v = 0 then [] else by4 ((19 ||| b <<< ((7 : Int32) &&& 31)) ||| b <<< ((15 : Int32) &&& 31) ||| loO v <<< ((20 : Int32) &&& 31))) := (if_neg c1).trans (if_neg c2)
      have c3 : fzO (-2048) 2047 1 v = false := by
        cases h : fzO (-2048) 2047 1 v
        · rfl
        · exact absurd h c2
      by_cases c4 : loO v = 0
      · rw [if_pos c4, List.append_nil] at e
        have e2 : (numB b v).length = 4 := by rw [e]; rfl
        rw [e2] at ha
        rw [e2, if_neg (show ¬ nI 4 = 2 by decide), fit_I, nb_b2, c3, if_pos (show bI false = 0 from rfl), hi_9, nb_b2, plr_U, nb_b2]
        rw [show df_X1_put n (nI ad) 4 ((55 ||| b <<< ((7 : Int32) &&& 31)) ||| hiO v <<< ((12 : Int32) &&& 31)) (M, ((Q, U), pR P 0 f)) = _ from ptC (len := 4) hn _ ha f, nb_b1, if_neg (show ¬ nI 4 = 8 by decide)]
        exact fin _ (by rw [e, by4_K])
      · rw [if_neg c4] at e
        have e2 : (numB b v).length = 8 := by rw [e]; rfl
        rw [e2] at ha
        rw [e2, if_neg (show ¬ nI 8 = 2 by decide), fit_I, nb_b2, c3, if_pos (show bI false = 0 from rfl), hi_9, nb_b2, plr_U, nb_b2]
        rw [show df_X1_put n (nI ad) 4 ((55 ||| b <<< ((7 : Int32) &&& 31)) ||| hiO v <<< ((12 : Int32) &&& 31)) (M, ((Q, U), pR P 0 f)) = _ from ptC (len := 4) hn _ (by omega) f, nb_b1, if_pos (show nI 8 = 8 from rfl), lo_9, nb_b2, plr_I, nb_b2, show nI ad + 4 = nI (ad + 4) from nI_add ad 4]
        rw [show df_X1_put n (nI (ad + 4)) 4 ((19 ||| b <<< ((7 : Int32) &&& 31)) ||| b <<< ((15 : Int32) &&& 31) ||| loO v <<< ((20 : Int32) &&& 31)) (M, ((Q, U), pR P 0 (wrC f ad (byK ((55 ||| b <<< ((7 : Int32) &&& 31)) ||| hiO v <<< ((12 : Int32) &&& 31)) 4 0)))) = _ from ptC (len := 4) hn _ (by omega) _, nb_b1]
        exact fin _ (by rw [e, by4_K, by4_K]; exact (wrC_a (by4 _) (by4 _) f ad).symm)

theorem bh_6 {n : Nat} {U : St} {cs : Nat} {C : Nat → Int32} (u5 : sI U 5 = nI cs) (u0 : sR U 0 = C) (hcs : cs ≤ 32832) {t : Nat} (ht : t < cs) (h21 : C t = 21) : ∀ (j x g : Nat), x + j = t → j < g → (∀ i : Nat, x ≤ i → i < t → ¬ C i = 21) → df_X9_behind_6 n g (nI x) U = some (nI (t + 1), U) := fun j => by
  induction j with
  | zero =>
    intro x g h1 h2 h3
    obtain ⟨g, rfl⟩ : ∃ m : Nat, g = m + 1 := ⟨g - 1, by omega⟩
    have : x = t := by omega
    subst this
    show dF_X9_behind_6 n (df_X9_behind_6 n g) (nI x) U = _
    unfold dF_X9_behind_6 df_X9_behind_31
    rw [u5, if_neg (znle ht (by omega)), nm_ck (by omega) (by omega), nI_clamp (by omega), u0, if_pos h21, show nI x + 1 = nI (x + 1) from nI_add x 1]
  | succ j ih =>
    intro x g h1 h2 h3
    obtain ⟨g, rfl⟩ : ∃ m : Nat, g = m + 1 := ⟨g - 1, by omega⟩
    show dF_X9_behind_6 n (df_X9_behind_6 n g) (nI x) U = _
    unfold dF_X9_behind_6
    rw [u5, if_neg (znle (show x < cs by omega) (by omega)), nm_ck (by omega) (by omega), nI_clamp (by omega), u0, if_neg (h3 x (by omega) (by omega)), nb_let, show nI x + Int32.ofInt 1 = nI (x + 1) from nI_add x 1]
    exact ih (x + 1) g (by omega) (by omega) (fun i i1 i2 => h3 i (by omega) i2)
theorem bhC {n : Nat} {U : St} {cs nl ns : Nat} {C A NM NR LB : Nat → Int32} (hn : 70000 < n) (hU : URD U cs nl ns C A NM NR LB) {NP : Nat → Int32} {c : Nat → Nat} {e : Nat} {bs ws : Nat → Nat} {s0 m : Nat} {P : Nat → Tp} (hC : CR NP c e C A s0 ns bs ws m P C A) (h21 : C (s0 + m) = 21) (hm : s0 + m < cs) : df_X9_behind n (nI s0) U = some (nI (s0 + m + 1), U) := by
  obtain ⟨u5, u9, u0, u1, u3, ur5, u6, hcs, hns⟩ := hU
  unfold df_X9_behind df_X9_behind_0
  have e0 : (if (0 : Int32) < nI s0 then nI s0 else 0) = nI s0 := by
    by_cases h : s0 = 0
    · rw [h]; rfl
    · rw [if_pos (show (0 : Int32) < nI s0 from zlt (a := 0) (by omega) (by omega))]
  rw [e0, nb_let]
  refine bh_6 u5 u0 hcs hm h21 m s0 n rfl (by omega) (fun i i1 i2 => ?_)
  have h1 := (hC.2 (i - s0) (by omega)).1
  have h2 := (CR_P hC (i - s0) (by omega)).2.1
  rw [show s0 + (i - s0) = i by omega] at h1
  rw [h1]
  exact zne (b := 21) (by omega) (by omega) (by omega)
theorem liF_c {V : Tp → Int32 × Bool} {x : Nat × (Nat → Tp)} {xs : List (Nat × (Nat → Tp))} : liF V (x :: xs) = if vF (mV V x.2 x.1) (dV V x.2 x.1) true = 0 then liF V xs else vF (mV V x.2 x.1) (dV V x.2 x.1) true := rfl
theorem liF_l {V : Tp → Int32 × Bool} : ∀ xs : List (Nat × (Nat → Tp)), liF V xs ≤ 10 := fun xs => by
  induction xs with
  | nil => exact Nat.zero_le _
  | cons x xs ih =>
    rw [liF_c]
    split
    · exact ih
    · generalize mV V x.2 x.1 = ms
      generalize dV V x.2 x.1 = dv
      cases ms <;> cases dv <;> decide
theorem ptL_33 {n : Nat} {M Q P : St} {cs nl ns : Nat} {C A NM NR LB : Nat → Int32} (hn : 70000 < n) (h2 : sI Q 2 = 0) {c X : Nat → Nat} {e nL q : Nat} {ts : Int32} {W NP : Nat → Int32} {bs ws : Nat → Nat} (hT : ∀ U : St, URD U cs nl ns C A NM NR LB → TT c X nL q ts W NP ns bs ws U) {i : Nat} (hi : i < 8194) {ad len k s1 : Nat} (hk : k = 1 ∨ k = 2 ∨ k = 4) (r3 : sR Q 0 (8 * i + 3) = nI len) (ha : ad + len ≤ 32768) (hs1 : s1 ≤ cs) : ∀ (ys : List (Nat × (Nat → Tp))) (s0 j g : Nat) (U : St) (f : Nat → Int32), CDS NP c e ns bs ws C A s0 ys s1 → (∀ y : Nat × (Nat → Tp), y ∈ ys → one y.2 y.1) → k * j + k * ys.length = len → ys.length < g → URD U cs nl ns C A NM NR LB → PUTD M Q P cs nl ns C A NM NR LB (ad + k * j) (liF (VV c X e nL q ts (nI ad) W) ys) (liB (VV c X e nL q ts (nI ad) W) k ys) U f (df_X1_putList_33 n g (nI (8 * i)) (nI k) (nI s0) (nI ad) (nI (k * j)) (M, ((Q, U), pR P 0 f))) := fun ys => by
  induction ys with
  | nil =>
    intro s0 j g U f hC ho hl hg hU
    obtain ⟨g, rfl⟩ : ∃ m : Nat, g = m + 1 := ⟨g - 1, by omega⟩
    have hl : k * j + k * 0 = len := hl
    refine ⟨U, f, ?_, hU, rfl, rfl, fun _ => rfl⟩
    show dF_X1_putList_33 n (df_X1_putList_33 n g) (nI (8 * i)) (nI k) (nI s0) (nI ad) (nI (k * j)) (M, ((Q, U), pR P 0 f)) = _
    unfold dF_X1_putList_33 df_X1_putList_96
    rw [show nI (8 * i) + 3 = nI (8 * i + 3) from nI_add (8 * i) 3, nm_ck (by omega) (by omega), nI_clamp (by omega), show sR ((M, ((Q, U), pR P 0 f)) : St × (St × St) × St).2.1.1 0 (8 * i + 3) = nI len from r3, if_pos (zle (show len ≤ k * j by omega) (by omega))]
    rw [show nI (liF (VV c X e nL q ts (nI ad) W) []) = 0 from rfl, pI_z2 h2]
  | cons y ys ih =>
    intro s0 j g U f hC ho hl hg hU
    obtain ⟨g, rfl⟩ : ∃ m : Nat, g = m + 1 := ⟨g - 1, by omega⟩
    have hg : ys.length + 1 < g + 1 := hg
    have hl : k * j + k * (ys.length + 1) = len := hl
    obtain ⟨a1, a2, a3, a4⟩ := hC
    have le1 : s0 + y.1 + 1 ≤ s1 := CDS_l a4
    have k1 : 1 ≤ k := by omega
    have kk : k * (ys.length + 1) = k * ys.length + k := Nat.mul_succ k ys.length
    have kj : k * (j + 1) = k * j + k := Nat.mul_succ k j
    obtain ⟨S', e1⟩ := ev_C (hr := nI ad) hn hU (hT U hU) a1 a2 (by omega) (ho y (List.mem_cons_self ..))
    have e2 := bhC hn (URD_v hU 1 (trO (mV (VV c X e nL q ts (nI ad) W) y.2 y.1) (dV (VV c X e nL q ts (nI ad) W) y.2 y.1)) S') a1 a2 (by omega)
    have hUv := URD_v hU 1 (trO (mV (VV c X e nL q ts (nI ad) W) y.2 y.1) (dV (VV c X e nL q ts (nI ad) W) y.2 y.1)) S'
    rw [liF_c]
    show PUTD M Q P cs nl ns C A NM NR LB (ad + k * j) _ (byK (zV (VV c X e nL q ts (nI ad) W) y.2 y.1) k 0 ++ liB (VV c X e nL q ts (nI ad) W) k ys) U f (dF_X1_putList_33 n (df_X1_putList_33 n g) (nI (8 * i)) (nI k) (nI s0) (nI ad) (nI (k * j)) (M, ((Q, U), pR P 0 f)))
    generalize mV (VV c X e nL q ts (nI ad) W) y.2 y.1 = ms at *
    generalize dV (VV c X e nL q ts (nI ad) W) y.2 y.1 = dv at *
    generalize zV (VV c X e nL q ts (nI ad) W) y.2 y.1 = z at *
    have emx : (if (1 : Int32) < nI k then nI k else 1) = nI k := by
      rcases hk with h | h | h <;> subst h <;> rfl
    unfold dF_X1_putList_33 df_X1_putList_96
    rw [show nI (8 * i) + 3 = nI (8 * i + 3) from nI_add (8 * i) 3, nm_ck (by omega) (by omega), nI_clamp (by omega), show sR ((M, ((Q, U), pR P 0 f)) : St × (St × St) × St).2.1.1 0 (8 * i + 3) = nI len from r3, if_neg (znle (show k * j < len by omega) (by omega)), if_pos (show sI ((M, ((Q, U), pR P 0 f)) : St × (St × St) × St).2.1.1 2 = 0 from h2)]
    rw [show df_X1_worked n (nI s0) (nI ad) ((M, ((Q, U), pR P 0 f)) : St × (St × St) × St).2.1 = _ from wkC h2 e1, nb_b2, nb_let, nI_add]
    rw [show df_X1_put n (nI (ad + k * j)) (nI k) z (M, ((pI Q 2 (trO ms dv), vC U 1 (trO ms dv) S'), pR P 0 f)) = _ from ptC hn z (by omega) f, nb_b1]
    rw [show df_X9_behind n (nI s0) ((M, ((pI Q 2 (trO ms dv), vC U 1 (trO ms dv) S'), pR P 0 (wrC f (ad + k * j) (byK z k 0)))) : St × (St × St) × St).2.1.2 = _ from e2, nb_b2, nb_let, nb_let, emx, nI_add, ← kj]
    show PUTD M Q P cs nl ns C A NM NR LB (ad + k * j) _ (byK z k 0 ++ liB (VV c X e nL q ts (nI ad) W) k ys) U f (df_X1_putList_33 n g (nI (8 * i)) (nI k) (nI (s0 + y.1 + 1)) (nI ad) (nI (k * (j + 1))) (M, ((pI Q 2 (trO ms dv), vC U 1 (trO ms dv) S'), pR P 0 (wrC f (ad + k * j) (byK z k 0)))))
    by_cases v0 : vF ms dv true = 0
    · rw [if_pos v0, vF_t, v0, show nI 0 = 0 from rfl, pI_z2 h2]
      rw [vF_t, v0] at hUv
      obtain ⟨U', f', b1, b2, b3, b4, b5⟩ := ih (s0 + y.1 + 1) (j + 1) g (vC U 1 (nI 0) S') (wrC f (ad + k * j) (byK z k 0)) a4 (fun y' hy' => ho y' (List.mem_cons_of_mem _ hy')) (by omega) (by omega) hUv
      refine ⟨U', f', b1, b2, b3, b4, fun F0 => ?_⟩
      rw [b5 F0, wrC_a, byK_l, kj, Nat.add_assoc]
    · rw [if_neg v0, vF_t]
      rw [vF_t] at hUv
      have v10 : vF ms dv true ≤ 10 := by cases ms <;> cases dv <;> decide
      refine ⟨vC U 1 (nI (vF ms dv true)) S', wrC f (ad + k * j) (byK z k 0), ?_, hUv, rfl, rfl, fun F0 => absurd F0 v0⟩
      obtain ⟨g, rfl⟩ : ∃ m : Nat, g = m + 1 := ⟨g - 1, by omega⟩
      show dF_X1_putList_33 n (df_X1_putList_33 n g) (nI (8 * i)) (nI k) (nI (s0 + y.1 + 1)) (nI ad) (nI (k * (j + 1))) _ = _
      unfold dF_X1_putList_33 df_X1_putList_96
      rw [show nI (8 * i) + 3 = nI (8 * i + 3) from nI_add (8 * i) 3, nm_ck (by omega) (by omega), nI_clamp (by omega), show sR ((M, ((pI Q 2 (nI (vF ms dv true)), vC U 1 (nI (vF ms dv true)) S'), pR P 0 (wrC f (ad + k * j) (byK z k 0)))) : St × (St × St) × St).2.1.1 0 (8 * i + 3) = nI len from r3]
      split
      · rfl
      · rw [if_neg (show ¬ sI ((M, ((pI Q 2 (nI (vF ms dv true)), vC U 1 (nI (vF ms dv true)) S'), pR P 0 (wrC f (ad + k * j) (byK z k 0)))) : St × (St × St) × St).2.1.1 2 = 0 from (zne (b := 0) v0 (by omega) (by omega) : ¬ nI (vF ms dv true) = nI 0))]
theorem ptL {n : Nat} {M Q U P : St} {cs nl ns : Nat} {C A NM NR LB : Nat → Int32} (hn : 70000 < n) (hU : URD U cs nl ns C A NM NR LB) (h2 : sI Q 2 = 0) {c X : Nat → Nat} {e nL q : Nat} {ts : Int32} {W NP : Nat → Int32} {bs ws : Nat → Nat} (hT : ∀ U : St, URD U cs nl ns C A NM NR LB → TT c X nL q ts W NP ns bs ws U) {i : Nat} (hi : i < 8194) {ad k s0 s1 : Nat} {ys : List (Nat × (Nat → Tp))} (hk : k = 1 ∨ k = 2 ∨ k = 4) (r2 : sR Q 0 (8 * i + 2) = nI ad) (r3 : sR Q 0 (8 * i + 3) = nI (k * ys.length)) (r5 : sR Q 0 (8 * i + 5) = nI k) (r6 : sR Q 0 (8 * i + 6) = nI s0) (ha : ad + k * ys.length ≤ 32768) (hs1 : s1 ≤ cs) (hC : CDo NP c e ns bs ws C A s0 ys s1) (hys : ys.length ≤ 32768) (f : Nat → Int32) : PUTD M Q P cs nl ns C A NM NR LB ad (liF (VV c X e nL q ts (nI ad) W) ys) (liB (VV c X e nL q ts (nI ad) W) k ys) U f (df_X1_putList n (nI (8 * i)) (M, ((Q, U), pR P 0 f))) := by
  have eQ : sR ((M, ((Q, U), pR P 0 f)) : St × (St × St) × St).2.1.1 0 = sR Q 0 := rfl
  unfold df_X1_putList df_X1_putList_0
  rw [show nI (8 * i) + 5 = nI (8 * i + 5) from nI_add (8 * i) 5, show nI (8 * i) + 2 = nI (8 * i + 2) from nI_add (8 * i) 2, show nI (8 * i) + 6 = nI (8 * i + 6) from nI_add (8 * i) 6]
  rw [nm_ck (by omega) (by omega), nI_clamp (by omega), eQ, r5, nb_let, nm_ck (by omega) (by omega), nI_clamp (by omega), r6, nb_let, nm_ck (by omega) (by omega), nI_clamp (by omega), r2, nb_let]
  have := ptL_33 (M := M) (P := P) (nl := nl) (NM := NM) (NR := NR) (LB := LB) (X := X) (nL := nL) (q := q) (ts := ts) (W := W) hn h2 hT hi hk r3 ha hs1 ys s0 0 n U f hC.1 hC.2 (by rw [Nat.mul_zero, Nat.zero_add]) (by omega) hU
  exact this
theorem byte_m (w : Int32) : ∃ z : Nat, z < 256 ∧ w &&& 255 = nI z ∧ btI w = btI (nI z) := by
  obtain ⟨A, hA, rfl⟩ := nI_ex w
  refine ⟨A % 256, by omega, nm_m255 hA, ?_⟩
  have e : (nI A).toInt8 = (nI (A % 256)).toInt8 := by
    show Int32.toInt8 (Int32.ofNat A) = Int32.toInt8 (Int32.ofNat (A % 256))
    rw [Int32.toInt8_ofNat', Int32.toInt8_ofNat']
    apply Int8.toBitVec_inj.mp
    show BitVec.ofNat 8 A = BitVec.ofNat 8 (A % 256)
    apply BitVec.eq_of_toNat_eq
    rw [BitVec.toNat_ofNat, BitVec.toNat_ofNat]
    omega
  unfold btI
  rw [e]
theorem byte_0 : ∀ z : Fin 256, btI (btI (nI z.1)) = btI (nI z.1) ∧ btI (nI z.1) &&& 255 = nI z.1 := by unfold btI; decide +kernel
theorem byte_2 (v : Int32) : btI (btI v) = btI v := by
  obtain ⟨z, h1, h2, h3⟩ := byte_m v
  rw [h3]
  exact (byte_0 ⟨z, h1⟩).1
theorem ptT_2 {n : Nat} {M Q U P : St} {i : Nat} (hi : i < 8194) {ad len u0 : Nat} (r2 : sR Q 0 (8 * i + 2) = nI ad) (r3 : sR Q 0 (8 * i + 3) = nI len) (r6 : sR Q 0 (8 * i + 6) = nI u0) (ha : ad + len ≤ 32768) (hu : u0 + len ≤ 32832) (hn : 70000 < n) : ∀ (xs : List Int32) (j g : Nat) (f : Nat → Int32), j + xs.length = len → xs.length < g → (∀ x : Nat, x < xs.length → sR Q 1 (u0 + j + x) = btI (xs.getD x 0)) → df_X1_putTexts_2 n g (nI (8 * i)) (nI j) (M, ((Q, U), pR P 0 f)) = some (M, ((Q, U), pR P 0 (wrC f (ad + j) xs))) := fun xs => by
  induction xs with
  | nil =>
    intro j g f h1 h2 h3
    obtain ⟨g, rfl⟩ : ∃ m : Nat, g = m + 1 := ⟨g - 1, by omega⟩
    have h1 : j + 0 = len := h1
    show dF_X1_putTexts_2 n (df_X1_putTexts_2 n g) (nI (8 * i)) (nI j) (M, ((Q, U), pR P 0 f)) = _
    unfold dF_X1_putTexts_2
    rw [show nI (8 * i) + 3 = nI (8 * i + 3) from nI_add (8 * i) 3, nm_ck (by omega) (by omega), nI_clamp (by omega), show sR ((M, ((Q, U), pR P 0 f)) : St × (St × St) × St).2.1.1 0 (8 * i + 3) = nI len from r3, if_pos (zle (show len ≤ j by omega) (by omega))]
    rfl
  | cons x xs ih =>
    intro j g f h1 h2 h3
    obtain ⟨g, rfl⟩ : ∃ m : Nat, g = m + 1 := ⟨g - 1, by omega⟩
    have h1 : j + (xs.length + 1) = len := h1
    have h2 : xs.length + 1 < g + 1 := h2
    have eQ : sR ((M, ((Q, U), pR P 0 f)) : St × (St × St) × St).2.1.1 0 = sR Q 0 := rfl
    have e1 : sR Q 1 (u0 + j) = btI x := h3 0 (Nat.succ_pos _)
    show dF_X1_putTexts_2 n (df_X1_putTexts_2 n g) (nI (8 * i)) (nI j) (M, ((Q, U), pR P 0 f)) = _
    unfold dF_X1_putTexts_2 df_X1_putTexts_65
    rw [show nI (8 * i) + 3 = nI (8 * i + 3) from nI_add (8 * i) 3, show nI (8 * i) + 6 = nI (8 * i + 6) from nI_add (8 * i) 6, show nI (8 * i) + 2 = nI (8 * i + 2) from nI_add (8 * i) 2, nm_ck (by omega) (by omega), nI_clamp (by omega), eQ, r3, if_neg (znle (show j < len by omega) (by omega)), nm_ck (by omega) (by omega), nI_clamp (by omega), r6, nI_add, nb_let, if_neg (show ¬ nI (u0 + j) < 0 from znl (b := 0) (Nat.zero_le _) (by omega)), if_neg (show ¬ (32832 : Int32) ≤ nI (u0 + j) from znle (a := 32832) (by omega) (by omega)), nm_ck (by omega) (by omega), nm_ck (by omega) (by omega), nI_clamp (by omega), r2, nI_clamp (by omega), nI_add]
    rw [show sR ((M, ((Q, U), pR P 0 f)) : St × (St × St) × St).2.1.1 1 (u0 + j) = btI x from e1]
    rw [show df_X1_put n (nI (ad + j)) 1 (btI x) (M, ((Q, U), pR P 0 f)) = _ from ptC (len := 1) hn (btI x) (by omega) f, nb_b1, nb_let, show nI j + Int32.ofInt 1 = nI (j + 1) from nI_add j 1]
    have := ih (j + 1) g (wrC f (ad + j) (byK (btI x) 1 0)) (by omega) (by omega) (fun y hy => by
      have := h3 (y + 1) (Nat.succ_lt_succ hy)
      rw [show u0 + (j + 1) + y = u0 + j + (y + 1) by omega]
      exact this)
    refine this.trans ?_
    show some (M, ((Q, U), pR P 0 (wrC (upd f (ad + j) (btI (btI x >>> ((8 * nI 0) &&& 31)))) (ad + (j + 1)) xs))) = some (M, ((Q, U), pR P 0 (wrC (upd f (ad + j) (btI x)) (ad + j + 1) xs)))
    rw [shr_0, byte_2, Nat.add_assoc]
theorem ptX {n : Nat} {M Q U P : St} {cs nl ns : Nat} {C A NM NR LB : Nat → Int32} (hn : 70000 < n) (hU : URD U cs nl ns C A NM NR LB) (h2 : sI Q 2 = 0) {i : Nat} (hi : i < 8194) {ad u0 : Nat} {xs : List Int32} (r2 : sR Q 0 (8 * i + 2) = nI ad) (r3 : sR Q 0 (8 * i + 3) = nI xs.length) (r6 : sR Q 0 (8 * i + 6) = nI u0) (ha : ad + xs.length ≤ 32768) (hu : u0 + xs.length ≤ 32832) (hL : ∀ x : Nat, x < xs.length → sR Q 1 (u0 + x) = btI (xs.getD x 0)) (f : Nat → Int32) : PUTD M Q P cs nl ns C A NM NR LB ad 0 xs U f (df_X1_putTexts n (nI (8 * i)) (M, ((Q, U), pR P 0 f))) := by
  refine ⟨U, wrC f ad xs, ?_, hU, rfl, rfl, fun _ => rfl⟩
  have := ptT_2 (M := M) (U := U) (P := P) hi r2 r3 r6 ha hu hn xs 0 n f (by omega) (by omega) hL
  rw [show nI 0 = 0 from rfl, pI_z2 h2]
  exact this

theorem pI_33 {Q : St} {u v : Int32} : pI (pI Q 3 u) 3 v = pI Q 3 v := Prod.ext (funext fun j => by
  show (if j = 3 then v else if j = 3 then u else Q.1 j) = if j = 3 then v else Q.1 j
  split <;> rfl) rfl
/-- which method puts a statement -/
def ptK (n i kd : Nat) (s : St × (St × St) × St) : Option (St × (St × St) × St) := if kd = 0 then df_X1_putPlain n (nI (8 * i)) s else if kd = 1 ∨ kd = 2 then df_X1_putGrown n (nI (8 * i)) s else if kd = 3 then df_X1_putAddress n (nI (8 * i)) s else if kd = 4 then df_X1_putNumber n (nI (8 * i)) s else if kd = 5 then df_X1_putList n (nI (8 * i)) s else if kd = 6 then df_X1_putTexts n (nI (8 * i)) s else some s
theorem pA_0 {n g i sn : Nat} {M Q U P : St} (h0 : sI Q 0 = nI sn) (hsn : sn ≤ 8194) (hi : i < 2 ^ 30) (h : sn ≤ i ∨ ¬ sI Q 2 = 0) : df_X1_putAll_10 n (g + 1) (nI i) (M, ((Q, U), P)) = some (M, ((Q, U), P)) := by
  show dF_X1_putAll_10 n (df_X1_putAll_10 n g) (nI i) (M, ((Q, U), P)) = _
  unfold dF_X1_putAll_10 df_X1_putAll_152
  rw [show sI ((M, ((Q, U), P)) : St × (St × St) × St).2.1.1 0 = nI sn from h0]
  by_cases y : sn ≤ i
  · rw [if_pos (zle y (by omega))]
  · rw [if_neg (znle (show i < sn by omega) (by omega)), if_neg (show ¬ sI ((M, ((Q, U), P)) : St × (St × St) × St).2.1.1 2 = 0 from h.resolve_left y)]
theorem pA_1 {n g i sn kd : Nat} {M Q U P : St} {ln : Int32} (h0 : sI Q 0 = nI sn) (hsn : sn ≤ 8194) (hi : i < sn) (h2 : sI Q 2 = 0) (r0 : sR Q 0 (8 * i) = ln) (r4 : sR Q 0 (8 * i + 4) = nI kd) (hk : kd ≤ 8) : df_X1_putAll_10 n (g + 1) (nI i) (M, ((Q, U), P)) = nd_b1 (ptK n i kd (M, ((pI Q 3 ln, U), P))) (fun s => df_X1_putAll_10 n g (nI (i + 1)) s) := by
  show dF_X1_putAll_10 n (df_X1_putAll_10 n g) (nI i) (M, ((Q, U), P)) = _
  unfold dF_X1_putAll_10 df_X1_putAll_101 df_X1_putAll_146
  rw [show sI ((M, ((Q, U), P)) : St × (St × St) × St).2.1.1 0 = nI sn from h0, if_neg (znle hi (by omega)), if_pos (show sI ((M, ((Q, U), P)) : St × (St × St) × St).2.1.1 2 = 0 from h2), ix8z i, nb_let, show nI (8 * i) + 0 = nI (8 * i + 0) from nI_add (8 * i) 0, show nI (8 * i) + 4 = nI (8 * i + 4) from nI_add (8 * i) 4, nm_ck (by omega) (by omega), nb_let, nm_ck (by omega) (by omega), nI_clamp (by omega), nI_clamp (by omega)]
  rw [show sR ((M, ((Q, U), P)) : St × (St × St) × St).2.1.1 0 (8 * i + 0) = ln from r0]
  rw [show sR ((M, ((pI Q 3 ln, U), P)) : St × (St × St) × St).2.1.1 0 (8 * i + 4) = nI kd from r4]
  have st : ∀ s : St × (St × St) × St, nd_let (nI i + Int32.ofInt 1) (fun (z12 : Int32) => df_X1_putAll_10 n g z12 s) = df_X1_putAll_10 n g (nI (i + 1)) s := fun s => by
    rw [nb_let, show nI i + Int32.ofInt 1 = nI (i + 1) from nI_add i 1]
  simp only [st]
  unfold ptK
  by_cases d0 : kd = 0
  · rw [if_pos (show nI kd = 0 from congrArg nI d0), if_pos d0]
  rw [if_neg (show ¬ nI kd = 0 from zne (b := 0) d0 (by omega) (by omega)), if_neg d0]
  by_cases d1 : kd = 1
  · rw [if_pos (show nI kd = 1 from congrArg nI d1), if_pos (show kd = 1 ∨ kd = 2 from Or.inl d1)]
  rw [if_neg (show ¬ nI kd = 1 from zne (b := 1) d1 (by omega) (by omega))]
  by_cases d2 : kd = 2
  · rw [if_pos (show nI kd = 2 from congrArg nI d2), if_pos (show kd = 1 ∨ kd = 2 from Or.inr d2)]
  rw [if_neg (show ¬ nI kd = 2 from zne (b := 2) d2 (by omega) (by omega)), if_neg (show ¬ (kd = 1 ∨ kd = 2) by omega)]
  by_cases d3 : kd = 3
  · rw [if_pos (show nI kd = 3 from congrArg nI d3), if_pos d3]
  rw [if_neg (show ¬ nI kd = 3 from zne (b := 3) d3 (by omega) (by omega)), if_neg d3]
  by_cases d4 : kd = 4
  · rw [if_pos (show nI kd = 4 from congrArg nI d4), if_pos d4]
  rw [if_neg (show ¬ nI kd = 4 from zne (b := 4) d4 (by omega) (by omega)), if_neg d4]
  by_cases d5 : kd = 5
  · rw [if_pos (show nI kd = 5 from congrArg nI d5), if_pos d5]
  rw [if_neg (show ¬ nI kd = 5 from zne (b := 5) d5 (by omega) (by omega)), if_neg d5]
  by_cases d6 : kd = 6
  · rw [if_pos (show nI kd = 6 from congrArg nI d6), if_pos d6]
  rw [if_neg (show ¬ nI kd = 6 from zne (b := 6) d6 (by omega) (by omega)), if_neg d6, nb_b1]
theorem lay_m {Ds : Nat → Dt} {Zs : Nat → Nat} {BY : Nat → Int32} {lv : Nat → Nat} : ∀ (j s : Nat), (lay Ds Zs BY lv s).1 ≤ (lay Ds Zs BY lv (s + j)).1 ∧ (lay Ds Zs BY lv s).2 ≤ (lay Ds Zs BY lv (s + j)).2 := fun j => by
  induction j with
  | zero => intro s; exact ⟨Nat.le_refl _, Nat.le_refl _⟩
  | succ j ih =>
    intro s
    obtain ⟨i1, i2⟩ := ih s
    show _ ≤ (if Zs (s + j) = 1 then ((lay Ds Zs BY lv (s + j)).1, _) else (_, (lay Ds Zs BY lv (s + j)).2) : Nat × Nat).1 ∧ _ ≤ (if Zs (s + j) = 1 then ((lay Ds Zs BY lv (s + j)).1, _) else (_, (lay Ds Zs BY lv (s + j)).2) : Nat × Nat).2
    by_cases y : Zs (s + j) = 1
    · rw [if_pos y]; exact ⟨i1, Nat.le_trans i2 (Nat.le_add_right _ _)⟩
    · rw [if_neg y]; exact ⟨Nat.le_trans i1 (Nat.le_add_right _ _), i2⟩
/-- every statement lies in the image -/
def szA (l : Nat × Nat) : Nat := if l.2 = 0 then l.1 else bsN l.1 + l.2
theorem ad_ok {Ds : Nat → Dt} {Zs : Nat → Nat} {BY : Nat → Int32} {lv : Nat → Nat} {nS s : Nat} (hs : s < nS) (h : szA (lay Ds Zs BY lv nS) ≤ 32768) : adN Zs (ofs Ds Zs BY lv) (lay Ds Zs BY lv nS).1 s + szN (Ds s) (BY s) (lv s) (ofs Ds Zs BY lv s) ≤ 32768 := by
  have h1 := lay_m (Ds := Ds) (Zs := Zs) (BY := BY) (lv := lv) (nS - (s + 1)) (s + 1)
  rw [show s + 1 + (nS - (s + 1)) = nS by omega] at h1
  unfold szA at h
  unfold adN ofs
  by_cases y : Zs s = 1
  · have e : lay Ds Zs BY lv (s + 1) = ((lay Ds Zs BY lv s).1, (lay Ds Zs BY lv s).2 + szN (Ds s) (BY s) (lv s) (lay Ds Zs BY lv s).2) := if_pos y
    rw [e] at h1
    have h1 : (lay Ds Zs BY lv s).1 ≤ (lay Ds Zs BY lv nS).1 ∧ (lay Ds Zs BY lv s).2 + szN (Ds s) (BY s) (lv s) (lay Ds Zs BY lv s).2 ≤ (lay Ds Zs BY lv nS).2 := h1
    rw [if_pos y, if_pos y]
    by_cases w : (lay Ds Zs BY lv nS).2 = 0
    · rw [if_pos w] at h
      unfold bsN
      omega
    · rw [if_neg w] at h
      omega
  · have e : lay Ds Zs BY lv (s + 1) = ((lay Ds Zs BY lv s).1 + szN (Ds s) (BY s) (lv s) (lay Ds Zs BY lv s).1, (lay Ds Zs BY lv s).2) := if_neg y
    rw [e] at h1
    have h1 : (lay Ds Zs BY lv s).1 + szN (Ds s) (BY s) (lv s) (lay Ds Zs BY lv s).1 ≤ (lay Ds Zs BY lv nS).1 ∧ (lay Ds Zs BY lv s).2 ≤ (lay Ds Zs BY lv nS).2 := h1
    rw [if_neg y, if_neg y]
    by_cases w : (lay Ds Zs BY lv nS).2 = 0
    · rw [if_pos w] at h
      omega
    · rw [if_neg w] at h
      unfold bsN at h
      omega
theorem PUTD_c {M Q P : St} {cs nl ns : Nat} {C A NM NR LB : Nat → Int32} {ad F F' : Nat} {bsx bsx' : List Int32} {U : St} {f : Nat → Int32} {r : Option (St × (St × St) × St)} (h1 : F = F') (h2 : F = 0 → bsx = bsx') (h : PUTD M Q P cs nl ns C A NM NR LB ad F bsx U f r) : PUTD M Q P cs nl ns C A NM NR LB ad F' bsx' U f r := by
  subst h1
  obtain ⟨U', f', a1, a2, a3, a4, a5⟩ := h
  exact ⟨U', f', a1, a2, a3, a4, fun z => by rw [← h2 z]; exact a5 z⟩
/-- one statement is put, in the class -/
theorem PT1 {n L : Nat} {c X : Nat → Nat} {nL : Nat} {Wz SW0 LW C A : Nat → Int32} {ns : Nat} {bs ws : Nat → Nat} {cs lu i : Nat} {pa bb : Int32} {D : Dt} {q e se ln fl n0 : Nat} {NP : Nat → Int32} (hn : 70000 < n) (hs : STr n L c X nL Wz SW0 LW C A ns bs ws cs lu i pa bb D q e se ln fl n0 NP) (hlu : lu ≤ 32832) {l : Nat} (hz : ZK D bb fl l) (d9 : ¬ D.1 = 9) {Q : St} (rr : ∀ x : Nat, x < 8 → ¬ x = 2 → ¬ x = 3 → sR Q 0 (8 * i + x) = SW0 (8 * i + x)) {ad off : Nat} (r2 : sR Q 0 (8 * i + 2) = nI ad) (r3 : sR Q 0 (8 * i + 3) = nI (szN D bb l off)) (hL1 : sR Q 1 = LW) (ha : ad + szN D bb l off ≤ 32768) (hi : i < 8194) (h2 : sI Q 2 = 0) {nl : Nat} {NM NR LB W : Nat → Int32} {ts : Int32} (hT : ∀ U : St, URD U cs nl ns C A NM NR LB → TT c X nL q ts W NP ns bs ws U) {U : St} (hU : URD U cs nl ns C A NM NR LB) (M P : St) (f : Nat → Int32) : PUTD M Q P cs nl ns C A NM NR LB ad (sF D (VV c X e nL q ts (nI ad) W) (nI ad) l) (sB D (VV c X e nL q ts (nI ad) W) (nI ad) l) U f (ptK n i D.1 (M, ((Q, U), pR P 0 f))) := by
  obtain ⟨c1, c2, c3, c4, c5, c6, c6', c7, c8, c9, c10, c11, c12, c13⟩ := hs
  obtain ⟨z1, z2, z3, z4, z5⟩ := sz_1 hz off
  rcases c13 with z | ⟨z, le, b, cd, lt, s0, s1, u0, u1, w0, w1, w3, w4, w5, w6, w7, w8, w9, w10⟩
  · exact absurd z.1 d9
  rw [Nat.mul_comm i 8] at w0 w1 w3 w4 w5 w6 w7
  have v4 := (rr 4 (by omega) (by omega) (by omega)).trans w4
  have v5 := (rr 5 (by omega) (by omega) (by omega)).trans w5
  have v6 := (rr 6 (by omega) (by omega) (by omega)).trans w6
  have v7 := (rr 7 (by omega) (by omega) (by omega)).trans w7
  have ev : cd = nI s0 → CDo NP c e ns bs ws C A s0 D.2.2.2.1 s1 → (∃ (m : Nat) (P : Nat → Tp), D.2.2.2.1 = [(m, P)]) → ∃ S' : Nat → Int32, df_X9_evaluate n cd (nI ad) U = some (zV (VV c X e nL q ts (nI ad) W) (dQ D) (dN D), vC U 1 (trO (mV (VV c X e nL q ts (nI ad) W) (dQ D) (dN D)) (dV (VV c X e nL q ts (nI ad) W) (dQ D) (dN D))) S') := fun e1 e2 e3 => by
    obtain ⟨m, P', e3⟩ := e3
    have eQ : dQ D = P' := by unfold dQ; rw [e3]
    have eN : dN D = m := by unfold dN; rw [e3]
    rw [e3] at e2
    obtain ⟨⟨f1, f2, f3, f4⟩, f5⟩ := e2
    have f4 : s0 + m + 1 = s1 := f4
    rw [eQ, eN, e1]
    exact ev_C hn hU (hT U hU) f1 f2 (by omega) (f5 (m, P') (List.mem_singleton.mpr rfl))
  generalize hV : VV c X e nL q ts (nI ad) W = V at *
  rcases w8 with h | h | h | h | h | h | h | h | h
  · obtain ⟨k1, k2, k3, k4, k5, k6, k7, k8⟩ := h
    have le1 : nI (szN D bb l off) = le := (z5 (by omega) (by omega) (by omega)).trans k5
    obtain ⟨len, hlen, e1, e2⟩ : ∃ len : Nat, (len = 2 ∨ len = 4) ∧ le = nI len ∧ (len = 4 ↔ D.2.1 &&& 3 = 3) := by
      by_cases y : D.2.1 &&& 3 = 3
      · exact ⟨4, Or.inr rfl, by rw [k4, if_pos y], fun _ => y, fun _ => rfl⟩
      · exact ⟨2, Or.inl rfl, by rw [k4, if_neg y], fun w => absurd w (by decide), fun w => absurd w y⟩
    have hsz : szN D bb l off = len := by
      rw [e1] at le1
      exact (nI_eq (by omega) (by omega)).mp le1
    rw [hsz] at ha r3
    have := ptP (M := M) (P := P) hn hU h2 hi r2 r3 v5 v6 (v7.trans k6) k7 hlen ha (fun l0 => ev (k8 l0).1 (k8 l0).2.1 (k8 l0).2.2) f
    have eK : ptK n i D.1 (M, ((Q, U), pR P 0 f)) = df_X1_putPlain n (nI (8 * i)) (M, ((Q, U), pR P 0 f)) := if_pos k1
    rw [eK]
    refine PUTD_c ?_ (fun _ => ?_) this
    · exact (if_pos k1).symm
    · have eB : sB D V (nI ad) l = (if D.2.2.1 = 0 then byZ D.2.1 D.2.1 else byZ D.2.1 (D.2.1 ||| lbO D.2.2.1 (vtO D.2.2.1 (nI ad) (zV V (dQ D) (dN D))))) := if_pos k1
      rw [eB, k3]
      unfold byZ
      by_cases y : D.2.1 &&& 3 = 3
      · rw [if_pos (e2.mpr y), if_pos y, if_pos y]
        split <;> rfl
      · rw [if_neg (fun w => y (e2.mp w)), if_neg y, if_neg y]
        split <;> rfl
  · obtain ⟨k1, k2, k3, k4, k5, k6, k7, k8, k9⟩ := h
    have l1 : l ≤ 1 := by
      rcases hz with y | y | y | y
      · exact y.2.2.1
      · exact absurd y.1 (by omega)
      · exact absurd y.1 (by omega)
      · exact absurd k1 y.1
    rw [z4 (Or.inl k1)] at ha r3
    have := ptG (M := M) (P := P) hn hU h2 hi r2 r3 v4 v5 v6 (Or.inl ⟨k1, l1, k3.2⟩) ha (ev k6 k7 k8) f
    have eK : ptK n i D.1 (M, ((Q, U), pR P 0 f)) = df_X1_putGrown n (nI (8 * i)) (M, ((Q, U), pR P 0 f)) := (if_neg (by omega)).trans (if_pos (Or.inl k1))
    rw [eK]
    refine PUTD_c ?_ (fun _ => ?_) this
    · have eF : sF D V (nI ad) l = vF (mV V (dQ D) (dN D)) (dV V (dQ D) (dN D)) (lfO (hpO true l) (zV V (dQ D) (dN D) - nI ad)) := (if_neg (by omega)).trans (if_pos k1)
      rw [eF, decide_eq_true k1]
      unfold offO
      rw [if_neg (show ¬ l = 2 by omega)]
    · have eB : sB D V (nI ad) l = hopL l ((D.2.1 >>> ((7 : Int32) &&& 31)) &&& 31) (zV V (dQ D) (dN D) - nI ad) := (if_neg (by omega)).trans (if_pos k1)
      rw [eB, if_pos k1, k3.1]
  · obtain ⟨k1, k2, k3, k4, k5, k6, k7, k8⟩ := h
    have l1 : l ≤ 2 := by
      rcases hz with y | y | y | y
      · exact absurd y.1 (by omega)
      · exact y.2.2.1
      · exact absurd y.1 (by omega)
      · exact absurd k1 y.2.1
    rw [z4 (Or.inr k1)] at ha r3
    have := ptG (M := M) (P := P) hn hU h2 hi r2 r3 v4 v5 v6 (Or.inr ⟨k1, l1⟩) ha (ev k5 k6 k7) f
    have eK : ptK n i D.1 (M, ((Q, U), pR P 0 f)) = df_X1_putGrown n (nI (8 * i)) (M, ((Q, U), pR P 0 f)) := (if_neg (by omega)).trans (if_pos (Or.inr k1))
    rw [eK]
    refine PUTD_c ?_ (fun _ => ?_) this
    · have eF : sF D V (nI ad) l = vF (mV V (dQ D) (dN D)) (dV V (dQ D) (dN D)) (lfO (hpO false l) (offO l (zV V (dQ D) (dN D) - nI ad))) := (if_neg (by omega)).trans ((if_neg (by omega)).trans (if_pos k1))
      rw [eF, decide_eq_false (show ¬ D.1 = 1 by omega)]
    · have eB : sB D V (nI ad) l = brnC l D.2.1 (zV V (dQ D) (dN D) - nI ad) := (if_neg (by omega)).trans ((if_neg (by omega)).trans (if_pos k1))
      rw [eB, if_neg (show ¬ D.1 = 1 by omega), k3]
  · obtain ⟨k1, k2, k3, k4, k5, k6, k7, k8, k9⟩ := h
    have le1 : nI (szN D bb l off) = nI 8 := ((z5 (by omega) (by omega) (by omega)).trans k5).trans k4
    have hsz : szN D bb l off = 8 := (nI_eq (by omega) (by omega)).mp le1
    rw [hsz] at ha
    have := ptA (M := M) (P := P) hn hU h2 hi r2 v5 v6 ha (ev k7 k8 k9) f
    have eK : ptK n i D.1 (M, ((Q, U), pR P 0 f)) = df_X1_putAddress n (nI (8 * i)) (M, ((Q, U), pR P 0 f)) := (if_neg (by omega)).trans ((if_neg (by omega)).trans (if_pos k1))
    rw [eK]
    refine PUTD_c ?_ (fun _ => ?_) this
    · exact ((if_neg (by omega)).trans ((if_neg (by omega)).trans ((if_neg (by omega)).trans (if_pos k1)))).symm
    · rw [k3]
      exact ((if_neg (by omega)).trans ((if_neg (by omega)).trans ((if_neg (by omega)).trans (if_pos k1)))).symm
  · obtain ⟨k1, k2, k3, k4, k5, k6, k7, k8⟩ := h
    have hnl := numB_l b cd
    have le1 : nI (szN D bb l off) = nI (numB b cd).length := ((z5 (by omega) (by omega) (by omega)).trans k6).trans k5
    have hsz : szN D bb l off = (numB b cd).length := (nI_eq (by omega) (by omega)).mp le1
    rw [hsz] at ha r3
    have := ptN (M := M) (P := P) hn hU h2 hi r2 r3 v5 v6 ha f
    have eK : ptK n i D.1 (M, ((Q, U), pR P 0 f)) = df_X1_putNumber n (nI (8 * i)) (M, ((Q, U), pR P 0 f)) := (if_neg (by omega)).trans ((if_neg (by omega)).trans ((if_neg (by omega)).trans (if_pos k1)))
    rw [eK]
    refine PUTD_c ?_ (fun _ => ?_) this
    · exact ((if_neg (by omega)).trans ((if_neg (by omega)).trans ((if_neg (by omega)).trans ((if_neg (by omega)).trans (if_neg (by omega)))))).symm
    · rw [← k8]
      exact ((if_neg (by omega)).trans ((if_neg (by omega)).trans ((if_neg (by omega)).trans ((if_neg (by omega)).trans (if_neg (by omega)))))).symm
  · obtain ⟨k1, k2, k3, k4, k5, k6, k7, k8, k9, k10⟩ := h
    have le1 : nI (szN D bb l off) = nI (D.2.2.1 * D.2.2.2.1.length) := ((z5 (by omega) (by omega) (by omega)).trans k6).trans k5
    have lb : D.2.2.1 * D.2.2.2.1.length ≤ 4 * 32768 := Nat.mul_le_mul (by omega) k10
    have hsz : szN D bb l off = D.2.2.1 * D.2.2.2.1.length := (nI_eq (by omega) (by omega)).mp le1
    rw [hsz] at ha r3
    have := ptL (M := M) (P := P) (W := W) hn hU h2 hT hi k3 r2 r3 (v5.trans k4) (v6.trans k8) ha w9 k9 k10 f
    rw [hV] at this
    have eK : ptK n i D.1 (M, ((Q, U), pR P 0 f)) = df_X1_putList n (nI (8 * i)) (M, ((Q, U), pR P 0 f)) := (if_neg (by omega)).trans ((if_neg (by omega)).trans ((if_neg (by omega)).trans ((if_neg (by omega)).trans (if_pos k1))))
    rw [eK]
    refine PUTD_c ?_ (fun _ => ?_) this
    · exact ((if_neg (by omega)).trans ((if_neg (by omega)).trans ((if_neg (by omega)).trans ((if_neg (by omega)).trans (if_pos k1))))).symm
    · exact ((if_neg (by omega)).trans ((if_neg (by omega)).trans ((if_neg (by omega)).trans ((if_neg (by omega)).trans (if_pos k1))))).symm
  · obtain ⟨k1, k2, k3, k4, k5, k6, k7, k8⟩ := h
    have le1 : nI (szN D bb l off) = nI D.2.2.2.2.length := ((z5 (by omega) (by omega) (by omega)).trans k4).trans k3
    have hsz : szN D bb l off = D.2.2.2.2.length := (nI_eq (by omega) (by omega)).mp le1
    rw [hsz] at ha r3
    have := ptX (M := M) (P := P) hn hU h2 hi r2 r3 (v6.trans k6) ha (by omega) (fun x hx => by rw [hL1]; exact k8 x hx) f
    have eK : ptK n i D.1 (M, ((Q, U), pR P 0 f)) = df_X1_putTexts n (nI (8 * i)) (M, ((Q, U), pR P 0 f)) := (if_neg (by omega)).trans ((if_neg (by omega)).trans ((if_neg (by omega)).trans ((if_neg (by omega)).trans ((if_neg (by omega)).trans (if_pos k1)))))
    rw [eK]
    refine PUTD_c ?_ (fun _ => ?_) this
    · exact ((if_neg (by omega)).trans ((if_neg (by omega)).trans ((if_neg (by omega)).trans ((if_neg (by omega)).trans (if_neg (by omega)))))).symm
    · exact ((if_neg (by omega)).trans ((if_neg (by omega)).trans ((if_neg (by omega)).trans ((if_neg (by omega)).trans (if_neg (by omega)))))).symm
  all_goals
    obtain ⟨k1, k2, ⟨k3, k4⟩, k5⟩ := h
    have eK : ptK n i D.1 (M, ((Q, U), pR P 0 f)) = some (M, ((Q, U), pR P 0 f)) := (if_neg (by omega)).trans ((if_neg (by omega)).trans ((if_neg (by omega)).trans ((if_neg (by omega)).trans ((if_neg (by omega)).trans (if_neg (by omega))))))
    have eF : sF D V (nI ad) l = 0 := ((if_neg (by omega)).trans ((if_neg (by omega)).trans ((if_neg (by omega)).trans ((if_neg (by omega)).trans (if_neg (by omega))))))
    have eB : sB D V (nI ad) l = [] := ((if_neg (by omega)).trans ((if_neg (by omega)).trans ((if_neg (by omega)).trans ((if_neg (by omega)).trans (if_neg (by omega)))))).trans k4
    rw [eK, eF, eB]
    exact ⟨U, f, by rw [show nI 0 = 0 from rfl, pI_z2 h2], hU, rfl, rfl, fun _ => rfl⟩

/-- the reference: the line of a place -/
theorem lnO_4 {n L : Nat} {c : Nat → Nat} {S : St} (hL : L ≤ 32768) (h127 : ∀ i : Nat, c i < 127) (htx : ∀ i : Nat, i < L → sR S 2 i = nI (c i)) {q : Nat} (hq : q ≤ L) : ∀ (m x g : Nat), x + m = q → m < g → df_X13_lineOf_4 n g (nI q) (nI (nlC c x + 1)) (nI x) S = some (nI (nlC c q + 1), S) := fun m => by
  induction m with
  | zero =>
    intro x g h1 h2
    obtain ⟨g, rfl⟩ : ∃ k : Nat, g = k + 1 := ⟨g - 1, by omega⟩
    have : x = q := by omega
    subst this
    show dF_X13_lineOf_4 n (df_X13_lineOf_4 n g) (nI x) (nI (nlC c x + 1)) (nI x) S = _
    unfold dF_X13_lineOf_4
    rw [if_pos (zle (Nat.le_refl x) (by omega))]
  | succ m ih =>
    intro x g h1 h2
    obtain ⟨g, rfl⟩ : ∃ k : Nat, g = k + 1 := ⟨g - 1, by omega⟩
    have hx := h127 x
    show dF_X13_lineOf_4 n (df_X13_lineOf_4 n g) (nI q) (nI (nlC c x + 1)) (nI x) S = _
    unfold dF_X13_lineOf_4 df_X13_lineOf_27
    rw [if_neg (znle (show x < q by omega) (by omega)), nm_ck (by omega) (by omega), nI_clamp (by omega), htx x (by omega)]
    have hi := ih (x + 1) g (by omega) (by omega)
    by_cases y : c x = 10
    · rw [if_pos (show nI (c x) = 10 from congrArg nI y), nb_let, show nI x + Int32.ofInt 1 = nI (x + 1) from nI_add x 1, show nI (nlC c x + 1) + 1 = nI (nlC c x + 1 + 1) from nI_add (nlC c x + 1) 1]
      have e : nlC c (x + 1) = nlC c x + 1 := by
        show nlC c x + (if c x = 10 then 1 else 0) = _
        rw [if_pos y]
      rw [e] at hi
      exact hi
    · rw [if_neg (show ¬ nI (c x) = 10 from zne (b := 10) y (by omega) (by omega)), nb_let, show nI x + Int32.ofInt 1 = nI (x + 1) from nI_add x 1]
      have e : nlC c (x + 1) = nlC c x := by
        show nlC c x + (if c x = 10 then 1 else 0) = _
        rw [if_neg y, Nat.add_zero]
      rw [e] at hi
      exact hi
theorem lnO {n L : Nat} {c : Nat → Nat} {S : St} (hn : 70000 < n) (hL : L ≤ 32768) (h127 : ∀ i : Nat, c i < 127) (htx : ∀ i : Nat, i < L → sR S 2 i = nI (c i)) {q : Nat} (hq : q ≤ L) : df_X13_lineOf n (nI q) S = some (nI (nlC c q + 1), S) := lnO_4 (n := n) hL h127 htx hq q 0 n (by omega) (by omega)
/-- the image, statement by statement -/
def imC (f0 : Nat → Int32) (ad : Nat → Nat) (BB : Nat → List Int32) : Nat → (Nat → Int32)
  | 0 => f0
  | s + 1 => wrC (imC f0 ad BB s) (ad s) (BB s)
theorem sF_l {D : Dt} {V : Tp → Int32 × Bool} {ad : Int32} {l : Nat} : sF D V ad l ≤ 10 := by
  have v : ∀ ms dv ok : Bool, vF ms dv ok ≤ 10 := by decide
  unfold sF
  split
  · split
    · omega
    · exact v _ _ _
  · split
    · exact v _ _ _
    · split
      · exact v _ _ _
      · split
        · exact v _ _ _
        · split
          · exact liF_l _
          · omega
/-- a state of the reference in which only what again() writes is new -/
def BEQ (B B' : St) : Prop := (∀ j : Nat, ¬ j = 13 → ¬ j = 14 → ¬ j = 15 → ¬ j = 16 → ¬ j = 17 → sI B' j = sI B j) ∧ B'.2 = B.2
theorem BEQ_r {B : St} : BEQ B B := ⟨fun _ _ _ _ _ _ => rfl, rfl⟩
theorem BEQ_t {B B' B2 : St} (h : BEQ B B') (h' : BEQ B' B2) : BEQ B B2 := ⟨fun j a b c d e => (h'.1 j a b c d e).trans (h.1 j a b c d e), h'.2.trans h.2⟩
theorem BEQ_x {B : St} (v : Int32) (s : Nat) (ad : Int32) (se : Nat) (μ : Int32) : BEQ B (BX (pI B 13 v) s ad se μ) := ⟨fun j a b c d e => by
  show (if j = 15 then μ else if j = 14 then nI se else if j = 17 then ad else if j = 16 then nI s else if j = 13 then v else B.1 j) = B.1 j
  rw [if_neg c, if_neg b, if_neg e, if_neg d, if_neg a], rfl⟩
theorem bzz {α : Type} (b : Bool) {x : Option α} : nd_f .boolean (bI b) (nd_z .boolean (bI b) x) = x := by
  cases b <;> exact (if_pos (by decide)).trans (if_pos (by decide))
/-- what both say when a statement can't be put -/
def CKF (n : Nat) (M Q : St) (cs nl ns : Nat) (C A NM NR LB : Nat → Int32) (U B T : St) (FF Ls : Nat → Nat) (nS : Nat) (rc : Option (St × (St × St) × St)) (rr : Option (Int32 × (St × St))) : Prop := ∃ (t e : Nat) (U' P' S1 : St), t < nS ∧ ¬ FF t = 0 ∧ rc = some (M, ((pI (pI Q 3 (nI (Ls t))) 2 (nI (FF t)), U'), P')) ∧ URD U' cs nl ns C A NM NR LB ∧ sO U' = sO U ∧ sR U' 7 = sR U 7 ∧ rr = some (nI (FF t) + 16 * nI (Ls t), (T, pI S1 1 0)) ∧ ∃ B' : St, FL e B' (nI (FF t) + 16 * nI (Ls t)) S1 ∧ BEQ B B'
theorem fl_nz {f l : Nat} (h : 1 ≤ f) (hf : f ≤ 15) (hl : l ≤ 40000) : ¬ nI f + 16 * nI l = 0 := by
  rw [show (16 : Int32) = nI 16 from rfl, pk_mul, nI_add]
  exact zne (b := 0) (by omega) (by omega) (by omega)
theorem chk_J {n L : Nat} {c : Nat → Nat} {B0 : St} (hX : TXT n L c B0) {X : Nat → Nat} {nL nS Tz : Nat} {OF W : Nat → Int32} (hK : XOK L c X nL) {BY OU PA : Nat → Int32} {Ds : Nat → Dt} {Qs Es Zs Fs Ls N0 AA of : Nat → Nat} (hnS : nS ≤ 8194) (hT : Tz ≤ 2 ^ 30) (hst : ∀ s : Nat, s < nS → SRD n L c X nL W BY s (Ds s) (Qs s) (Es s) (Zs s) (Fs s) (N0 s) (AA s) ∧ PA s = nI (AA s * 2 ^ 17 + Qs s) ∧ OF s = nI (of s) ∧ Ls s = nlC c (Qs s) + 1) (FF adS : Nat → Nat) (BB : Nat → List Int32) (hFF : ∀ s : Nat, s < nS → adS s = of s + (if Zs s = 1 then bsN Tz else 0) ∧ FF s = sF (Ds s) (VV c X (Es s) nL (Qs s) (nI Tz) (nI (adS s)) W) (nI (adS s)) (AA s % 4)) {sn : Nat} (hsn : sn = mu Ds nS) {M Q P : St} {cs nl ns : Nat} {C A NM NR LB : Nat → Int32} (q0 : sI Q 0 = nI sn) (q2 : sI Q 2 = 0) (hrow : ∀ s : Nat, s < nS → ¬ (Ds s).1 = 9 → sR Q 0 (8 * mu Ds s) = nI (Ls s) ∧ sR Q 0 (8 * mu Ds s + 4) = nI (Ds s).1 ∧ (Ds s).1 ≤ 8) (hput : ∀ s : Nat, s < nS → ¬ (Ds s).1 = 9 → ∀ (v : Int32) (U : St) (f : Nat → Int32), URD U cs nl ns C A NM NR LB → PUTD M (pI Q 3 v) P cs nl ns C A NM NR LB (adS s) (FF s) (BB s) U f (ptK n (mu Ds s) (Ds s).1 (M, ((pI Q 3 v, U), pR P 0 f)))) (h9 : ∀ s : Nat, s < nS → (Ds s).1 = 9 → BB s = []) (f0 : Nat → Int32) (T : St) : ∀ (m s g g' : Nat) (v : Int32) (U B S : St) (ct ap : Nat) (gr : Bool), s + m = nS → sn < g + mu Ds s → m < g' → URD U cs nl ns C A NM NR LB → RBd L c X nL nS Tz OF W B → SR B ct gr PA BY OU 0 ap S → CKF n M Q cs nl ns C A NM NR LB U B T FF Ls nS (df_X1_putAll_10 n g (nI (mu Ds s)) (M, ((pI Q 3 v, U), pR P 0 (imC f0 adS BB s)))) (df_X13_assemble_84 n g' (nI s) (T, S)) ∨ ∃ (v' : Int32) (U' B' S' : St) (ct' ap' : Nat) (gr' : Bool), df_X1_putAll_10 n g (nI (mu Ds s)) (M, ((pI Q 3 v, U), pR P 0 (imC f0 adS BB s))) = some (M, ((pI Q 3 v', U'), pR P 0 (imC f0 adS BB nS))) ∧ URD U' cs nl ns C A NM NR LB ∧ sO U' = sO U ∧ sR U' 7 = sR U 7 ∧ df_X13_assemble_84 n g' (nI s) (T, S) = some (0, (T, pI S' 1 1)) ∧ RBd L c X nL nS Tz OF W B' ∧ SR B' ct' gr' PA BY OU 0 ap' S' ∧ BEQ B B' ∧ (∀ t : Nat, s ≤ t → t < nS → FF t = 0) := fun m => by
  have hmu := mu_l Ds nS
  induction m with
  | zero =>
    intro s g g' v U B S ct ap gr h1 h2 h3 hU hB h
    have : s = nS := by omega
    subst this
    obtain ⟨g, rfl⟩ : ∃ k : Nat, g = k + 1 := ⟨g - 1, by omega⟩
    obtain ⟨g', rfl⟩ : ∃ k : Nat, g' = k + 1 := ⟨g' - 1, by omega⟩
    refine Or.inr ⟨v, U, B, S, ct, ap, gr, ?_, hU, rfl, rfl, ?_, hB, h, BEQ_r, fun t t1 t2 => absurd t1 (by omega)⟩
    · exact pA_0 (Q := pI Q 3 v) q0 (by omega) (by omega) (Or.inl (by omega))
    · show dF_X13_assemble_84 n (df_X13_assemble_84 n g') (nI s) (T, S) = _
      unfold dF_X13_assemble_84 df_X13_assemble_129 df_X13_assemble_142
      rw [show sI ((T, S) : St × St).2 2 = nI s from (SR_2 h).trans hB.2.2.1, if_pos (zle (Nat.le_refl s) (by omega)), if_pos (show sI ((T, S) : St × St).2 12 = 0 from SR_12 h)]
      refine (bzz true).trans ?_
      rw [nb_let]
      rw [show sI ((T, pI S 1 1) : St × St).2 12 = 0 from (show sI S 12 = 0 from SR_12 h)]
  | succ m ih =>
    intro s g g' v U B S ct ap gr h1 h2 h3 hU hB h
    obtain ⟨g', rfl⟩ : ∃ k : Nat, g' = k + 1 := ⟨g' - 1, by omega⟩
    obtain ⟨⟨c1, c2, c3, c4, c5, c6, c7, c8, c9, lw, lv, sz, ba, X0, W0, d1, d2, d3, d4, d5⟩, hP, hO, hLs⟩ := hst s (by omega)
    obtain ⟨had, hF⟩ := hFF s (by omega)
    have hL := hX.2.1
    have qb : Qs s < 131072 := by omega
    obtain ⟨p1, p2, p3, p4⟩ := pla_1 c1 qb
    have nl1 := nlC_l c (Qs s)
    have fl1 : FF s ≤ 10 := by rw [hF]; exact sF_l
    have hB1 : RBd L c X nL nS Tz OF W (pI B 13 (nI (Ls s))) := ⟨hB.1, hB.2.1, hB.2.2.1, hB.2.2.2.1, hB.2.2.2.2.1, hB.2.2.2.2.2.1, hB.2.2.2.2.2.2.1, hB.2.2.2.2.2.2.2.1, hB.2.2.2.2.2.2.2.2.1, Ls s, rfl, by omega⟩
    have h13 := SR_p13 h (nI (Ls s))
    obtain ⟨S1, r1, r2, r3⟩ := again_R hX hB1 hK h13 (s := s) (q := Qs s) (e := Es s) (se := Zs s) (A := AA s) (of := of s) (n0 := N0 s) (D := Ds s) (by omega) hP c1 c2 c6 c7 c8 hO hT d1 c9 d2 d3 d4 d5 (μ := 2) (Or.inr (Or.inl rfl)) (fun w => absurd w (show ¬ nI 2 = 3 by decide))
    rw [← had, ← hF] at r2 r3
    have r2 := r2 rfl
    have r3 : FF s = 0 → _ := fun w => r3 (fun _ => w)
    have eR : df_X13_assemble_84 n (g' + 1) (nI s) (T, S) = df_X13_assemble_84 n g' (nI (s + 1)) (T, S1) := by
      show dF_X13_assemble_84 n (df_X13_assemble_84 n g') (nI s) (T, S) = _
      unfold dF_X13_assemble_84
      rw [show sI ((T, S) : St × St).2 2 = nI nS from (SR_2 h).trans hB.2.2.1, if_neg (znle (show s < nS by omega) (by omega)), if_pos (show sI ((T, S) : St × St).2 12 = 0 from SR_12 h), nm_ck (by omega) (by omega), nI_clamp (by omega)]
      rw [show sR ((T, S) : St × St).2 3 s = nI (AA s * 2 ^ 17 + Qs s) from (congrFun (SR_r3 h) s).trans hP, p1]
      rw [show df_X13_lineOf n (nI (Qs s)) ((T, S) : St × St).2 = some (nI (nlC c (Qs s) + 1), S) from lnO hX.1 hL hX.2.2.1 (fun i hi => by rw [SR_r2 h]; exact hB.2.1 i hi) (by omega), nb_b2, nb_let, nb_let, ← hLs]
      rw [show df_X13_again n (nI s) 2 ((T, pI S 13 (nI (Ls s))) : St × St).2 = some S1 from r1, nb_b1, nb_let, nb_let, show nI s + Int32.ofInt 1 = nI (s + 1) from nI_add s 1]
    rw [eR]
    have hB2 : RBd L c X nL nS Tz OF W (BX (pI B 13 (nI (Ls s))) s (nI (adS s)) (Zs s) (nI 2)) := hB1
    -- the reference with a fault
    have refF : ¬ FF s = 0 → df_X13_assemble_84 n g' (nI (s + 1)) (T, S1) = some (nI (FF s) + 16 * nI (Ls s), (T, pI S1 1 0)) ∧ ∃ B' : St, FL (Es s) B' (nI (FF s) + 16 * nI (Ls s)) S1 ∧ BEQ B B' := fun w => by
      have fl := r2 w
      have nz : ¬ nI (FF s) + 16 * nI (Ls s) = 0 := fl_nz (by omega) (by omega) (by omega)
      have i12 : sI S1 12 = nI (FF s) + 16 * nI (Ls s) := (FL_f fl).1
      refine ⟨?_, _, fl, BEQ_x _ _ _ _ _⟩
      · obtain ⟨g', rfl⟩ : ∃ k : Nat, g' = k + 1 := ⟨g' - 1, by omega⟩
        show dF_X13_assemble_84 n (df_X13_assemble_84 n g') (nI (s + 1)) (T, S1) = _
        unfold dF_X13_assemble_84 df_X13_assemble_129 df_X13_assemble_142
        have nz2 : ¬ sI ((T, S1) : St × St).2 12 = 0 := by rw [show sI ((T, S1) : St × St).2 12 = _ from i12]; exact nz
        have z0 : nd_f .boolean 0 (nd_z .boolean 0 (nd_let ((T, pI S1 1 0) : St × St) (fun (s24 : St × (St)) => some (((sI s24.2 12) : Int32), s24)))) = some (nI (FF s) + 16 * nI (Ls s), (T, pI S1 1 0)) := by
          refine (bzz false).trans ?_
          rw [nb_let]
          rw [show sI ((T, pI S1 1 0) : St × St).2 12 = _ from i12]
        split
        · exact z0
        · exact z0
    by_cases k9 : (Ds s).1 = 9
    · -- no row in the class
      have f0' : FF s = 0 := by
        rw [hF]
        exact (if_neg (by omega)).trans ((if_neg (by omega)).trans ((if_neg (by omega)).trans ((if_neg (by omega)).trans (if_neg (by omega)))))
      obtain ⟨ct1, p1', gr1, x1, x2, x3⟩ := r3 f0'
      rw [if_neg (show ¬ (2 : Nat) = 3 by decide)] at x3
      have em : mu Ds (s + 1) = mu Ds s := by
        show mu Ds s + (if (Ds s).1 = 9 then 0 else 1) = _
        rw [if_pos k9, Nat.add_zero]
      have ei : imC f0 adS BB (s + 1) = imC f0 adS BB s := by
        show wrC (imC f0 adS BB s) (adS s) (BB s) = _
        rw [h9 s (by omega) k9]
        rfl
      have hi := ih (s + 1) g g' v U _ S1 ct1 p1' gr1 (by omega) (by omega) (by omega) hU hB2 x3
      rw [em, ei] at hi
      rcases hi with ⟨t, e, U', P', S2, y1, y2, y3, y4, y5, y6, y7, B2, y8, y9⟩ | ⟨v', U', B', S', ct', ap', gr', y1, y2, y3, y4, y5, y6, y7, y8, y9⟩
      · exact Or.inl ⟨t, e, U', P', S2, y1, y2, y3, y4, y5, y6, y7, B2, y8, BEQ_t (BEQ_x _ _ _ _ _) y9⟩
      · refine Or.inr ⟨v', U', B', S', ct', ap', gr', y1, y2, y3, y4, y5, y6, y7, BEQ_t (BEQ_x _ _ _ _ _) y8, fun t t1 t2 => ?_⟩
        by_cases w : t = s
        · rw [w]; exact f0'
        · exact y9 t (by omega) t2
    · obtain ⟨w0, w4, w8⟩ := hrow s (by omega) k9
      have mi := mu_i (Ds := Ds) (show s < nS by omega) k9
      have em : mu Ds (s + 1) = mu Ds s + 1 := by
        show mu Ds s + (if (Ds s).1 = 9 then 0 else 1) = _
        rw [if_neg k9]
      obtain ⟨g, rfl⟩ : ∃ k : Nat, g = k + 1 + 1 := ⟨g - 2, by omega⟩
      obtain ⟨U1, f1, z1, z2, z3, z4, z5⟩ := hput s (by omega) k9 (nI (Ls s)) U (imC f0 adS BB s) hU
      have eC : df_X1_putAll_10 n (g + 1 + 1) (nI (mu Ds s)) (M, ((pI Q 3 v, U), pR P 0 (imC f0 adS BB s))) = df_X1_putAll_10 n (g + 1) (nI (mu Ds s + 1)) (M, ((pI (pI Q 3 (nI (Ls s))) 2 (nI (FF s)), U1), pR P 0 f1)) := by
        rw [pA_1 (Q := pI Q 3 v) (ln := nI (Ls s)) q0 (by omega) (by omega) q2 w0 w4 w8, pI_33, z1, nb_b1]
      rw [eC]
      by_cases f0' : FF s = 0
      · obtain ⟨ct1, p1', gr1, x1, x2, x3⟩ := r3 f0'
        rw [if_neg (show ¬ (2 : Nat) = 3 by decide)] at x3
        have hi := ih (s + 1) (g + 1) g' (nI (Ls s)) U1 _ S1 ct1 p1' gr1 (by omega) (by omega) (by omega) z2 hB2 x3
        rw [f0', show nI 0 = 0 from rfl, pI_z2 (Q := pI Q 3 (nI (Ls s))) q2, z5 f0', ← em]
        rcases hi with ⟨t, e, U', P', S2, y1, y2, y3, y4, y5, y6, y7, B2, y8, y9⟩ | ⟨v', U', B', S', ct', ap', gr', y1, y2, y3, y4, y5, y6, y7, y8, y9⟩
        · exact Or.inl ⟨t, e, U', P', S2, y1, y2, y3, y4, y5.trans z3, y6.trans z4, y7, B2, y8, BEQ_t (BEQ_x _ _ _ _ _) y9⟩
        · refine Or.inr ⟨v', U', B', S', ct', ap', gr', y1, y2, y3.trans z3, y4.trans z4, y5, y6, y7, BEQ_t (BEQ_x _ _ _ _ _) y8, fun t t1 t2 => ?_⟩
          by_cases w : t = s
          · rw [w]; exact f0'
          · exact y9 t (by omega) t2
      · obtain ⟨R1, R2⟩ := refF f0'
        refine Or.inl ⟨s, Es s, U1, pR P 0 f1, S1, by omega, f0', ?_, z2, z3, z4, R1, R2⟩
        exact pA_0 (Q := pI (pI Q 3 (nI (Ls s))) 2 (nI (FF s))) q0 (by omega) (by omega) (Or.inr (show ¬ nI (FF s) = 0 from zne (b := 0) f0' (by omega) (by omega)))

theorem SR_p1 {B : St} {ct : Nat} {gr : Bool} {PA BY OU : Nat → Int32} {ft : Int32} {ap : Nat} {S : St} (h : SR B ct gr PA BY OU ft ap S) (v : Int32) : SR (pI B 1 v) ct gr PA BY OU ft ap (pI S 1 v) := by
  obtain ⟨ms, dv, ls, sg, vl, PL, tk, fr, to, nm, rfl⟩ := h
  refine ⟨ms, dv, ls, sg, vl, PL, tk, fr, to, nm, Prod.ext (funext fun j => ?_) rfl⟩
  show (if j = 1 then v else _) = _
  by_cases h : j = 1
  · subst h; rfl
  · unfold uR xR yR pI
    simp only [if_neg h]
/-- faults and bytes of the statements, once all is laid out -/
def stV (c X : Nat → Nat) (nL nS : Nat) (BY : Nat → Int32) (Ds : Nat → Dt) (Qs Es Zs lv : Nat → Nat) (W : Nat → Int32) (s : Nat) : Tp → Int32 × Bool := VV c X (Es s) nL (Qs s) (nI (lay Ds Zs BY lv nS).1) (nI (adN Zs (ofs Ds Zs BY lv) (lay Ds Zs BY lv nS).1 s)) W
def stF (c X : Nat → Nat) (nL nS : Nat) (BY : Nat → Int32) (Ds : Nat → Dt) (Qs Es Zs lv : Nat → Nat) (W : Nat → Int32) (s : Nat) : Nat := sF (Ds s) (stV c X nL nS BY Ds Qs Es Zs lv W s) (nI (adN Zs (ofs Ds Zs BY lv) (lay Ds Zs BY lv nS).1 s)) (lv s)
def stB (c X : Nat → Nat) (nL nS : Nat) (BY : Nat → Int32) (Ds : Nat → Dt) (Qs Es Zs lv : Nat → Nat) (W : Nat → Int32) (s : Nat) : List Int32 := sB (Ds s) (stV c X nL nS BY Ds Qs Es Zs lv W s) (nI (adN Zs (ofs Ds Zs BY lv) (lay Ds Zs BY lv nS).1 s)) (lv s)
/-- both have put and checked all -/
def OKD (n L : Nat) (c : Nat → Nat) (Bz : St) (cs ns : Nat) (C A NM : Nat → Int32) (nl : Nat) (NR : Nat → Int32) (X : Nat → Nat) (nL nS : Nat) (BY : Nat → Int32) (Ds : Nat → Dt) (Qs Es Zs Fs N0 lv : Nat → Nat) (M Q U P T : St) (f0 : Nat → Int32) (rc : Option (St × (St × St) × St)) (rr : Option (Int32 × (St × St))) : Prop := ∃ (W OF PA OU : Nat → Int32) (B' S' U' : St) (v' : Int32) (ct ap : Nat) (gr : Bool), rc = some (M, ((pI Q 3 v', U'), pR P 0 (imC f0 (adN Zs (ofs Ds Zs BY lv) (lay Ds Zs BY lv nS).1) (stB c X nL nS BY Ds Qs Es Zs lv W) nS))) ∧ URD U' cs nl ns C A NM NR (sR U 6) ∧ sO U' = sO U ∧ sR U' 7 = sR U 7 ∧ rr = some (0, (T, pI S' 1 1)) ∧ RBd L c X nL nS (lay Ds Zs BY lv nS).1 OF W B' ∧ sI B' 5 = nI (lay Ds Zs BY lv nS).2 ∧ SR B' ct gr PA BY OU 0 ap S' ∧ (∀ s : Nat, s < nS → PA s = nI (AAl Zs Fs lv s * 2 ^ 17 + Qs s)) ∧ (∀ s : Nat, s < nS → OF s = nI (ofs Ds Zs BY lv s)) ∧ (∀ k : Nat, k < nL → X k / 131072 = 2 → W k = sR Bz 7 k) ∧ (∀ k : Nat, k < nL → ¬ X k / 131072 = 2 → W k = nI (labV X (lay Ds Zs BY lv) N0 nS k)) ∧ (∀ k : Nat, k < nL → ¬ X k / 131072 = 2 → sR U 6 (5 * lam X k + 2) = vlO (nI (lay Ds Zs BY lv nS).1) X W k) ∧ (∀ s : Nat, s < nS → stF c X nL nS BY Ds Qs Es Zs lv W s = 0) ∧ (∀ s : Nat, s < nS → SRD n L c X nL W BY s (Ds s) (Qs s) (Es s) (Zs s) (Fs s) (N0 s) (AAl Zs Fs lv s))
/-- the same fault in both -/
def SFT (M T : St) (rc : Option (St × (St × St) × St)) (rr : Option (Int32 × (St × St))) : Prop := ∃ (f l : Nat) (Q' U' P' S' : St), 1 ≤ f ∧ f ≤ 15 ∧ l ≤ 40000 ∧ rc = some (M, ((Q', U'), P')) ∧ sI Q' 2 = nI f ∧ sI Q' 3 = nI l ∧ rr = some (nI f + 16 * nI l, (T, S')) ∧ sI S' 1 = 0 ∧ sI S' 12 = nI f + 16 * nI l
theorem CK_J {n L : Nat} {c : Nat → Nat} {p : Nat} {Bz : St} {sn lu ln se co : Nat} {SW0 LW : Nat → Int32} {cs ns : Nat} {C A NM BK : Nat → Int32} {bs ws : Nat → Nat} {nl : Nat} {NR LB0 : Nat → Int32} {sc X : Nat → Nat} {nL nS : Nat} {PAz BY : Nat → Int32} {Ds : Nat → Dt} {Qs Es Zs Ls Fs N0 : Nat → Nat} {NP : Nat → Nat → Int32} (hR : READ n L c p Bz sn lu ln se co SW0 LW cs ns C A NM BK bs ws nl NR LB0 sc X nL nS PAz BY Ds Qs Es Zs Ls Fs N0 NP) (hp : p ≤ 32769) {B0 : St} (hX : TXT n L c B0) {lv : Nat → Nat} (hlv : lvK Ds Fs lv nS) {sg : Nat → Nat} (hsg : (∀ i : Nat, i < mu Ds nS → sg i < nS ∧ mu Ds (sg i) = i ∧ ¬ (Ds (sg i)).1 = 9) ∧ sg (mu Ds nS) = nS) {Q U S : St} (hD : LD n L c Bz sn SW0 cs ns C A NM nl NR LB0 X nL nS BY Ds Qs Zs Fs N0 sg lv Q U S) (qL : sR Q 1 = LW) (q2 : sI Q 2 = 0) (hsz : szA (lay Ds Zs BY lv nS) ≤ 32768) (M P T : St) (f0 : Nat → Int32) : SFT M T (df_X1_putAll_10 n n 0 (M, ((Q, U), pR P 0 f0))) (df_X13_assemble_84 n n 0 (T, pI S 1 1)) ∨ OKD n L c Bz cs ns C A NM nl NR X nL nS BY Ds Qs Es Zs Fs N0 lv M Q U P T f0 (df_X1_putAll_10 n n 0 (M, ((Q, U), pR P 0 f0))) (df_X13_assemble_84 n n 0 (T, pI S 1 1)) := by
  obtain ⟨hZ, hl2⟩ := RD_Z hR (by omega) hlv
  obtain ⟨a1, a2, a3, a4, a5, a6, a7, a8, a9, a10, a11, a12, a13, a14, a15, a16, a17, a18, a19⟩ := id hR
  obtain ⟨t1, t2, t3, t4, t5, t6, t7, t8, t9, t10⟩ := a1
  obtain ⟨⟨B, ct, gr, PA, OU, ap, OF, W, hS, hPA, hB, h5, hOF, hWc, hWl, hpl⟩, q0, q1, q3, hU, u6, q7, q8, q9⟩ := hD
  obtain ⟨sg1, sg2⟩ := hsg
  have hn := hX.1
  have hmu := mu_l Ds nS
  have hlm := lam_le X nL
  have layb := lay_l (Ds := Ds) (Zs := Zs) (BY := BY) (lv := lv) (Fs := Fs) nS hZ
  have hstr : ∀ s : Nat, s < nS → STr n L c X nL (sR Bz 7) SW0 LW C A ns bs ws cs lu (mu Ds s) (PAz s) (BY s) (Ds s) (Qs s) (Es s) (Zs s) (Ls s) (Fs s) (N0 s) (NP s) := fun s hs => (a15 s hs).1
  have sgi : ∀ s : Nat, s < nS → ¬ (Ds s).1 = 9 → mu Ds s < sn ∧ sg (mu Ds s) = s := fun s hs h9 => by
    have m1 := mu_i (Ds := Ds) hs h9
    have hlt : mu Ds s < sn := by omega
    refine ⟨hlt, ?_⟩
    obtain ⟨w1, w2, w3⟩ := sg1 (mu Ds s) (by omega)
    rcases Nat.lt_trichotomy (sg (mu Ds s)) s with w | w | w
    · have := mu_i (Ds := Ds) w w3; omega
    · exact w
    · have := mu_i (Ds := Ds) w h9; omega
  have hTT : ∀ (U' : St) (s : Nat), s < nS → URD U' cs nl ns C A NM NR (sR U 6) → TT c X nL (Qs s) (nI (lay Ds Zs BY lv nS).1) W (NP s) ns bs ws U' := fun U' s hs hU' => by
    obtain ⟨c1, c2, c3, c4, c5, c6, c6', c7, c8, c9, c10, c11, c12, c13⟩ := hstr s hs
    obtain ⟨v1, v2, v3, v4, v5, v6, v7, v8, v9⟩ := hU'
    exact TT_1 (n0 := N0 s) (LB := LB0) (NR := NR) (NM := NM) (W0 := sR Bz 7) (by omega) t2 hWc t5 c8 c9 c10 c11 v5 v6 (fun j hj => by rw [v7]; exact u6 j 3 (by omega) (by omega) (by omega)) (fun k hk h2 => by rw [v7]; exact hpl k hk h2)
  have hSRD : ∀ s : Nat, s < nS → SRD n L c X nL W BY s (Ds s) (Qs s) (Es s) (Zs s) (Fs s) (N0 s) (AAl Zs Fs lv s) := fun s hs => by
    obtain ⟨c1, c2, c3, c4, c5, c6, c6', c7, c8, c9, c10, c11, ⟨lw, lv9, sz, ba, X0, W0, d1, d2, d3, d4, d5, d6, d7⟩, c13⟩ := hstr s hs
    obtain ⟨y1, y2, y3, y4⟩ := AAl_1 (Zs := Zs) (Fs := Fs) (lv := lv) c2 c3 (hl2 s hs)
    obtain ⟨l1, l2, l3, l4⟩ := hlv s hs
    have zk := hZ s hs
    refine ⟨y1, y2, y4, c3, ?_, c4, c5, c6, c8, lw, lv9, sz, ba, X0, W0, d1, fun k hk => ⟨(d2 k hk).1, fun h2 => ((d2 k hk).2 h2).trans (hWc k (by omega) h2).symm⟩, d3, by omega, ?_⟩
    · rcases zk with ⟨h1, h2, _⟩ | ⟨h1, h2, _⟩ | ⟨h1, h2, _⟩ | ⟨h1, h2, h3, h4, _⟩
      · exact ⟨fun _ => Or.inl h1, fun _ => by omega⟩
      · exact ⟨fun _ => Or.inr h1, fun _ => by omega⟩
      · exact ⟨fun w => by omega, fun w => by omega⟩
      · exact ⟨fun w => by omega, fun w => by omega⟩
    · rw [y3]
      by_cases z1 : (Ds s).1 = 1
      · rw [d6 z1]; exact l1 z1
      · by_cases z2 : (Ds s).1 = 2
        · rw [d7 z2]; exact l2 z2
        · have := l3 z1 z2; omega
  have hB1 : RBd L c X nL nS (lay Ds Zs BY lv nS).1 OF W (pI B 1 1) := hB
  have key := chk_J (n := n) (L := L) (c := c) hX (X := X) (nL := nL) (nS := nS) (Tz := (lay Ds Zs BY lv nS).1) (OF := OF) (W := W) ⟨by omega, fun k hk => ⟨(t7 k hk).2.1, by have := (t7 k hk).1; omega, (t7 k hk).2.2⟩⟩ (BY := BY) (OU := OU) (PA := PA) (Ds := Ds) (Qs := Qs) (Es := Es) (Zs := Zs) (Fs := Fs) (Ls := Ls) (N0 := N0) (AA := AAl Zs Fs lv) (of := ofs Ds Zs BY lv) (by omega) (by omega) (fun s hs => ⟨hSRD s hs, hPA s hs, hOF s hs, (hstr s hs).2.2.2.2.2.2.2.1⟩) (stF c X nL nS BY Ds Qs Es Zs lv W) (adN Zs (ofs Ds Zs BY lv) (lay Ds Zs BY lv nS).1) (stB c X nL nS BY Ds Qs Es Zs lv W) (fun s hs => by
    obtain ⟨c1, c2, c3, c4⟩ := hstr s hs
    obtain ⟨y1, y2, y3, y4⟩ := AAl_1 (Zs := Zs) (Fs := Fs) (lv := lv) c2 c3 (hl2 s hs)
    rw [y3]
    exact ⟨rfl, rfl⟩) (sn := sn) a13 (M := M) (Q := Q) (P := P) (cs := cs) (nl := nl) (ns := ns) (C := C) (A := A) (NM := NM) (NR := NR) (LB := sR U 6) q0 q2 (fun s hs h9 => by
    obtain ⟨i1, i2⟩ := sgi s hs h9
    obtain ⟨c1, c2, c3, c4, c5, c6, c6', c7, c8, c9, c10, c11, c12, c13⟩ := hstr s hs
    rcases c13 with z | ⟨z, le, b, cd, lt, s0, s1, u0, u1, r1, r2, r3, r4, r5, r6, r7, r8, r9, r10⟩
    · exact absurd z.1 h9
    · rw [Nat.mul_comm (mu Ds s) 8] at r1 r4
      exact ⟨(q1 (mu Ds s) 0 i1 (by omega) (by omega) (by omega)).trans r1, (q1 (mu Ds s) 4 i1 (by omega) (by omega) (by omega)).trans r4, z⟩) (fun s hs h9 v U' f hU' => by
    obtain ⟨i1, i2⟩ := sgi s hs h9
    have r23 := q3 (mu Ds s) i1
    rw [i2] at r23
    exact PT1 (Q := pI Q 3 v) hn (hstr s hs) (by omega) (hZ s hs) h9 (fun x x8 x2 x3 => q1 (mu Ds s) x i1 x8 x2 x3) r23.1 r23.2 qL (ad_ok hs hsz) (by omega) q2 (fun U9 hU9 => hTT U9 s hs hU9) hU' M P f) (fun s hs h9 => by
    obtain ⟨c1, c2, c3, c4, c5, c6, c6', c7, c8, c9, c10, c11, c12, c13⟩ := hstr s hs
    rcases c13 with z | ⟨z, _⟩
    · exact ((if_neg (by omega)).trans ((if_neg (by omega)).trans ((if_neg (by omega)).trans ((if_neg (by omega)).trans (if_neg (by omega)))))).trans z.2.1
    · omega) f0 T nS 0 n n (sI Q 3) U (pI B 1 1) (pI S 1 1) ct ap gr (by omega) (by show sn < n + 0; omega) (by omega) hU hB1 (SR_p1 hS 1)
  rw [pI_s] at key
  rcases key with ⟨t, e, U', P', S1, y1, y2, y3, y4, y5, y6, y7, B2, y8, y9⟩ | ⟨v', U', B', S', ct', ap', gr', y1, y2, y3, y4, y5, y6, y7, y8, y9⟩
  · left
    have f10 : stF c X nL nS BY Ds Qs Es Zs lv W t ≤ 10 := sF_l
    have hLt : Ls t ≤ 40000 := by
      obtain ⟨c1, c2, c3, c4, c5, c6, c6', c7, c8⟩ := hstr t y1
      have := nlC_l c (Qs t)
      have := hX.2.1
      omega
    exact ⟨stF c X nL nS BY Ds Qs Es Zs lv W t, Ls t, _, U', P', pI S1 1 0, by omega, by omega, hLt, y3, rfl, rfl, y7, rfl, (FL_f y8).1⟩
  · right
    exact ⟨W, OF, PA, OU, B', S', U', v', ct', ap', gr', y1, y2, y3, y4, y5, y6, (y8.1 5 (by decide) (by decide) (by decide) (by decide) (by decide)).trans h5, y7, hPA, hOF, hWc, hWl, hpl, fun s hs => y9 s (Nat.zero_le _) hs, hSRD⟩

/-- the reference, once the text is read -/
def asR (n : Nat) (T S : St) : Option (Int32 × (St × St)) := nd_b1 (df_X13_stretch n S) (fun (s11 : St) => nd_b2 (df_X13_all n (pI s11 1 1)) (fun (q15 : Int32) (s16 : St) => if q15 ≤ 32768 then (df_X13_assemble_82 n (T, s16)) else (df_X13_assemble_82 n (T, pI s16 12 7))))
/-- the same fault, as both answer it -/
theorem fl_ps {f l : Nat} (h1 : 1 ≤ f) (h2 : f ≤ 15) (h3 : l ≤ 40000) : 0 < (nI f + 16 * nI l).toInt := by
  rw [show (16 : Int32) = nI 16 from rfl, pk_mul, nI_add, nI_toInt (by omega)]
  omega
def SFM (M T : St) (rc : Option (Int32 × (St × (St × St) × St))) (rr : Option (Int32 × (St × St))) : Prop := ∃ (r : Int32) (Q' U' P' S' : St), 0 < r.toInt ∧ rc = some (r, (M, ((Q', U'), P'))) ∧ rr = some (r, (T, S')) ∧ sI S' 1 = 0
/-- both have assembled -/
def ASUC (n L : Nat) (c : Nat → Nat) (M U P T : St) (rc : Option (Int32 × (St × (St × St) × St))) (rr : Option (Int32 × (St × St))) : Prop := ∃ (p : Nat) (Bz B0 : St) (sn lu ln se co : Nat) (SW0 LW : Nat → Int32) (cs ns : Nat) (C A NM BK : Nat → Int32) (bs ws : Nat → Nat) (nl : Nat) (NR LB0 : Nat → Int32) (sc X : Nat → Nat) (nL nS : Nat) (PAz BY : Nat → Int32) (Ds : Nat → Dt) (Qs Es Zs Ls Fs N0 : Nat → Nat) (NP : Nat → Nat → Int32) (lv sg : Nat → Nat) (Q1 U1 S1 : St) (rcx : Option (St × (St × St) × St)), READ n L c p Bz sn lu ln se co SW0 LW cs ns C A NM BK bs ws nl NR LB0 sc X nL nS PAz BY Ds Qs Es Zs Ls Fs N0 NP ∧ L ≤ p ∧ p ≤ L + 1 ∧ TXT n L c B0 ∧ lvK Ds Fs lv nS ∧ ((∀ i : Nat, i < mu Ds nS → sg i < nS ∧ mu Ds (sg i) = i ∧ ¬ (Ds (sg i)).1 = 9) ∧ sg (mu Ds nS) = nS) ∧ LD n L c Bz sn SW0 cs ns C A NM nl NR LB0 X nL nS BY Ds Qs Zs Fs N0 sg lv Q1 U1 S1 ∧ sR Q1 1 = LW ∧ sI Q1 2 = 0 ∧ sI Q1 6 = nI co ∧ sO U1 = sO U ∧ sR U1 7 = sR U 7 ∧ szA (lay Ds Zs BY lv nS) ≤ 32768 ∧ rc = nd_b1 rcx (fun s18 => df_X1_make_118 n s18) ∧ OKD n L c Bz cs ns C A NM nl NR X nL nS BY Ds Qs Es Zs Fs N0 lv M Q1 U1 P T (nd_fl 32768 (vp_nar .byte 0) (sR P 0)) rcx rr
theorem szA_n {t d : Nat} (h : t + d ≤ 2 ^ 30) : (if nI d ≤ 0 then nI t else nI (bsN t) + nI d) = nI (szA (t, d)) := by
  unfold szA
  by_cases y : d = 0
  · rw [if_pos (show nI d ≤ 0 from by rw [y]; decide), if_pos (show (t, d).2 = 0 from y)]
  · rw [if_neg (show ¬ nI d ≤ 0 from znle (b := 0) (by omega) (by omega)), if_neg (show ¬ (t, d).2 = 0 from y), nI_add]
theorem MK_1 {n L : Nat} {c : Nat → Nat} {p : Nat} {Q U S : St} (hn : 70000 < n) (hL : L ≤ 32768) (h127 : ∀ i : Nat, c i < 127) (hend : ∀ i : Nat, L ≤ i → c i = 10) (hch : ∀ i : Nat, c i = 9 ∨ c i = 10 ∨ 32 ≤ c i) (h : RDfin n L c p Q U S) (hp0 : L ≤ p) (hp1 : p ≤ L + 1) (M P T : St) : SFM M T (df_X1_make_90 n (M, ((Q, U), P))) (asR n T S) ∨ ASUC n L c M U P T (df_X1_make_90 n (M, ((Q, U), P))) (asR n T S) := by
  obtain ⟨B, Bq, B0, sn, lu, ln, lx, se, co, od, SW, LW, cs, ns, C, A, NM, BK, bs, ws, nl, NR, LB, sc, X, nL, nS, PA, BY, OU, Ds, Qs, Es, Zs, Ls, Fs, N0, NP, e0, tp, st, fx, Sx, ap, kd, fr, nm, ct, gr, hR, hQ, hU, hS, o8, r7, b0, b2⟩ := h
  have hX : TXT n L c B0 := ⟨hn, hL, h127, hend, hch, o8, r7⟩
  obtain ⟨sg, hsg⟩ := sg_ex Ds nS
  have hR' : READ n L c p (pI B 6 0) sn lu ln se co SW LW cs ns C A NM BK bs ws nl NR LB sc X nL nS PA BY Ds Qs Es Zs Ls Fs N0 NP := hR
  obtain ⟨a1, a2, a3, a4, a5, a6, a7, a8, a9, a10, a11, a12, a13, a14, a15, a16, a17, a18, a19⟩ := id hR'
  obtain ⟨t1, t2, t3, t4, t5, t6, t7, t8, t9, t10⟩ := a1
  have hU0 : URD U cs nl ns C A NM NR LB := by
    rw [hU]
    exact ⟨rfl, rfl, rfl, rfl, rfl, rfl, rfl, by omega, by omega⟩
  have i0 : sI Q 0 = nI sn := by rw [hQ]; rfl
  have i2 : sI Q 2 = 0 := by rw [hQ]; rfl
  have i6 : sI Q 6 = nI co := by rw [hQ]; rfl
  have j0 : sR Q 0 = SW := by rw [hQ]; rfl
  have j1 : sR Q 1 = LW := by rw [hQ]; rfl
  obtain ⟨hlv0, hJ⟩ := RJ_0 hR' (by omega) hsg (SR_p6 hS 0) b0 b2 i0 j0 hU0
  have hmu := mu_l Ds nS
  have hms := msr_m (Ds := Ds) (lv := fun s => Fs s % 4) nS
  obtain ⟨lv, Q1, U1, S1, f1, f2, f3, f4, f5, f6, f7, f8⟩ := ly_all hR' (by omega) hX hsg (by omega) (2 * sn + 1) (fun s => Fs s % 4) (2 * sn) n n Q U (pI S 6 0) (by omega) (by omega) (by omega) (by omega) (by omega) hlv0 hJ
  obtain ⟨hZ, hl2⟩ := RD_Z hR' (by omega) f3
  have layb := lay_l (Ds := Ds) (Zs := Zs) (BY := BY) (lv := lv) (Fs := Fs) nS hZ
  have g2 : sI Q1 2 = 0 := (f5 2 (by decide) (by decide) (by decide)).trans i2
  have g6 : sI Q1 6 = nI co := (f5 6 (by decide) (by decide) (by decide)).trans i6
  have g1 : sR Q1 1 = LW := f6.trans j1
  obtain ⟨⟨B', ct', gr', PA', OU', ap', OF, W, hS', hPA, hB, h5, hOF, hWc, hWl, hpl⟩, q0, q1, q3, hU', u6, q7, q8, q9⟩ := id f4
  have eSz : sI Q1 9 = nI (szA (lay Ds Zs BY lv nS)) := by
    rw [q9]
    exact szA_n (by omega)
  have eL : df_X1_layOut n (Q, U) = some (Q1, U1) := by
    unfold df_X1_layOut df_X1_layOut_0
    rw [nb_let, show sI ((Q, U) : St × St).1 0 = nI sn from i0, show (2 : Int32) = nI 2 from rfl, pk_mul]
    exact f1
  have eA : df_X13_all n (pI S1 1 1) = some (nI (szA (lay Ds Zs BY lv nS)), pI S1 1 1) := by
    have k4 : sI S1 4 = nI (lay Ds Zs BY lv nS).1 := (SR_4 hS').trans hB.2.2.2.2.2.1
    have k5 : sI S1 5 = nI (lay Ds Zs BY lv nS).2 := (SR_5 hS').trans h5
    unfold df_X13_all df_X13_all_0 df_X13_all_34 df_X13_base df_X13_base_0
    rw [if_neg (show ¬ sI (pI S1 1 1) 1 = 0 from (by decide : ¬ (1 : Int32) = 0)), show sI (pI S1 1 1) 5 = nI (lay Ds Zs BY lv nS).2 from k5, show sI (pI S1 1 1) 4 = nI (lay Ds Zs BY lv nS).1 from k4, nb_b2, show sI (pI S1 1 1) 5 = nI (lay Ds Zs BY lv nS).2 from k5]
    have e1 : ((((nI (lay Ds Zs BY lv nS).1 + 1023) / 1024) * 1024 : Int32)) = nI (bsN (lay Ds Zs BY lv nS).1) := bs_R (by omega)
    rw [e1, ← szA_n (t := (lay Ds Zs BY lv nS).1) (d := (lay Ds Zs BY lv nS).2) (by omega)]
    split <;> rfl
  have eR : asR n T S = if nI (szA (lay Ds Zs BY lv nS)) ≤ 32768 then df_X13_assemble_82 n (T, pI S1 1 1) else df_X13_assemble_82 n (T, pI (pI S1 1 1) 12 7) := by
    unfold asR df_X13_stretch df_X13_stretch_0
    rw [nb_let, f2, nb_b1, eA, nb_b2]
  have szb : szA (lay Ds Zs BY lv nS) < 2 ^ 31 := by
    unfold szA bsN
    split <;> omega
  by_cases big : szA (lay Ds Zs BY lv nS) ≤ 32768
  · have eC : df_X1_make_90 n (M, ((Q, U), P)) = nd_b1 (df_X1_putAll_10 n n 0 (M, ((Q1, U1), pR P 0 (nd_fl 32768 (vp_nar .byte 0) (sR P 0))))) (fun s18 => df_X1_make_118 n s18) := by
      unfold df_X1_make_90
      rw [if_pos (show sI ((M, ((Q, U), P)) : St × (St × St) × St).2.1.1 2 = 0 from i2)]
      rw [show df_X1_layOut n ((M, ((Q, U), P)) : St × (St × St) × St).2.1 = _ from eL, nb_b1, nb_let, if_pos (show sI ((M, ((Q1, U1), P)) : St × (St × St) × St).2.1.1 9 ≤ 32768 by rw [show sI ((M, ((Q1, U1), P)) : St × (St × St) × St).2.1.1 9 = _ from eSz]; exact zle (b := 32768) big (by omega))]
      rfl
    rw [if_pos (show nI (szA (lay Ds Zs BY lv nS)) ≤ 32768 from zle (b := 32768) big (by omega))] at eR
    have key := CK_J hR' (by omega) hX f3 hsg f4 g1 g2 big M P T (nd_fl 32768 (vp_nar .byte 0) (sR P 0))
    have eR : asR n T S = df_X13_assemble_84 n n 0 (T, pI S1 1 1) := eR
    rw [← eR] at key
    rcases key with ⟨f, l, Q', U', P', S', k1, k2, k3, k4, k5, k6, k7, k8, k9⟩ | key
    · left
      have nz : 0 < (nI f + 16 * nI l).toInt := fl_ps k1 k2 k3
      refine ⟨nI f + 16 * nI l, Q', U', P', S', nz, ?_, k7, k8⟩
      rw [eC, k4, nb_b1]
      have nf : ¬ sI ((M, ((Q', U'), P')) : St × (St × St) × St).2.1.1 2 = 0 := by
        rw [show sI ((M, ((Q', U'), P')) : St × (St × St) × St).2.1.1 2 = _ from k5]
        exact zne (b := 0) (by omega) (by omega) (by omega)
      unfold df_X1_make_118 df_X1_make_130 df_X1_make_153
      rw [if_neg nf, if_neg nf]
      rw [show sI ((M, ((Q', U'), P')) : St × (St × St) × St).2.1.1 2 = _ from k5, show sI ((M, ((Q', U'), P')) : St × (St × St) × St).2.1.1 3 = _ from k6]
    · right
      exact ⟨p, pI B 6 0, B0, sn, lu, ln, se, co, SW, LW, cs, ns, C, A, NM, BK, bs, ws, nl, NR, LB, sc, X, nL, nS, PA, BY, Ds, Qs, Es, Zs, Ls, Fs, N0, NP, lv, sg, Q1, U1, S1, _, hR', hp0, hp1, hX, f3, hsg, f4, g1, g2, g6, f7, f8, big, eC, key⟩
  · left
    refine ⟨7, Q1, U1, P, pI (pI (pI S1 1 1) 12 7) 1 0, by decide, ?_, ?_, rfl⟩
    · unfold df_X1_make_90
      rw [if_pos (show sI ((M, ((Q, U), P)) : St × (St × St) × St).2.1.1 2 = 0 from i2)]
      rw [show df_X1_layOut n ((M, ((Q, U), P)) : St × (St × St) × St).2.1 = _ from eL, nb_b1, nb_let, if_neg (show ¬ sI ((M, ((Q1, U1), P)) : St × (St × St) × St).2.1.1 9 ≤ 32768 by rw [show sI ((M, ((Q1, U1), P)) : St × (St × St) × St).2.1.1 9 = _ from eSz]; exact znle (b := 32768) (by omega) szb)]
    · rw [eR, if_neg (show ¬ nI (szA (lay Ds Zs BY lv nS)) ≤ 32768 from znle (b := 32768) (by omega) szb)]
      obtain ⟨g, hg⟩ : ∃ g : Nat, n = g + 1 := ⟨n - 1, by omega⟩
      have e84 : df_X13_assemble_82 n (T, pI (pI S1 1 1) 12 7) = dF_X13_assemble_84 n (df_X13_assemble_84 n g) 0 (T, pI (pI S1 1 1) 12 7) := by
        show df_X13_assemble_84 n n 0 (T, pI (pI S1 1 1) 12 7) = _
        have : ∀ m : Nat, m = g + 1 → df_X13_assemble_84 n m 0 (T, pI (pI S1 1 1) 12 7) = dF_X13_assemble_84 n (df_X13_assemble_84 n g) 0 (T, pI (pI S1 1 1) 12 7) := fun m hm => by subst hm; rfl
        exact this n hg
      rw [e84]
      have n12 : ¬ sI ((T, pI (pI S1 1 1) 12 7) : St × St).2 12 = 0 := (by decide : ¬ (7 : Int32) = 0)
      have z0 : nd_f .boolean 0 (nd_z .boolean 0 (nd_let ((T, pI (pI (pI S1 1 1) 12 7) 1 0) : St × St) (fun (s24 : St × (St)) => some (((sI s24.2 12) : Int32), s24)))) = some (7, (T, pI (pI (pI S1 1 1) 12 7) 1 0)) := by
        refine (bzz false).trans ?_
        rw [nb_let]
        rfl
      unfold dF_X13_assemble_84 df_X13_assemble_129 df_X13_assemble_142
      split
      · exact z0
      · exact z0

/-- how many bytes a statement puts -/
theorem liB_l {V : Tp → Int32 × Bool} {k : Nat} : ∀ xs : List (Nat × (Nat → Tp)), (liB V k xs).length = k * xs.length := fun xs => by
  induction xs with
  | nil => rfl
  | cons x xs ih =>
    show (byK (zV V x.2 x.1) k 0 ++ liB V k xs).length = k * (xs.length + 1)
    rw [List.length_append, byK_l, ih, Nat.mul_succ, Nat.add_comm]
theorem sB_l {D : Dt} {V : Tp → Int32 × Bool} {ad : Int32} {l : Nat} : (sB D V ad l).length = sZ D l := by
  unfold sB sZ
  by_cases d0 : D.1 = 0
  · rw [if_pos d0, if_pos d0]
    unfold byZ
    by_cases y : D.2.1 &&& 3 = 3
    · rw [if_pos y, if_pos y, if_pos y]
      split <;> rfl
    · rw [if_neg y, if_neg y, if_neg y]
      split <;> rfl
  rw [if_neg d0, if_neg d0]
  by_cases d1 : D.1 = 1
  · rw [if_pos d1, if_pos d1]
    unfold hopL
    split <;> rfl
  rw [if_neg d1, if_neg d1]
  by_cases d2 : D.1 = 2
  · rw [if_pos d2, if_pos d2]
    unfold brnC
    by_cases l0 : l = 0
    · rw [if_pos l0, if_pos l0]; rfl
    · rw [if_neg l0, if_neg l0]
      by_cases l1 : l = 1
      · rw [if_pos l1, if_pos l1]; rfl
      · rw [if_neg l1, if_neg l1]; rfl
  rw [if_neg d2, if_neg d2]
  by_cases d3 : D.1 = 3
  · rw [if_pos d3, if_pos d3]; rfl
  rw [if_neg d3, if_neg d3]
  by_cases d5 : D.1 = 5
  · rw [if_pos d5, if_pos d5]
    exact liB_l _
  rw [if_neg d5, if_neg d5]
theorem sZ_le {n L : Nat} {c X : Nat → Nat} {nL : Nat} {W SW LW C A : Nat → Int32} {ns : Nat} {bs ws : Nat → Nat} {cs lu i : Nat} {pa bb : Int32} {D : Dt} {q e se ln fl n0 : Nat} {NP : Nat → Int32} (h : STr n L c X nL W SW LW C A ns bs ws cs lu i pa bb D q e se ln fl n0 NP) (hlu : lu ≤ 32832) {l : Nat} (hz : ZK D bb fl l) (off : Nat) : sZ D l ≤ szN D bb l off := by
  obtain ⟨c1, c2, c3, c4, c5, c6, c6', c7, c8, c9, c10, c11, c12, c13⟩ := h
  obtain ⟨z1, z2, z3, z4, z5⟩ := sz_1 hz off
  have oth : ¬ D.1 = 0 → ¬ D.1 = 1 → ¬ D.1 = 2 → ¬ D.1 = 3 → ¬ D.1 = 5 → sZ D l = D.2.2.2.2.length := fun w0 w1 w2 w3 w5 => (if_neg w0).trans ((if_neg w1).trans ((if_neg w2).trans ((if_neg w3).trans (if_neg w5))))
  have eqn : ∀ m : Nat, m < 2 ^ 20 → nI (szN D bb l off) = nI m → szN D bb l off = m := fun m hm he => (nI_eq (by omega) (by omega)).mp he
  rcases c13 with z | ⟨z, le, b, cd, lt, s0, s1, u0, u1, w0, w1, w3, w4, w5, w6, w7, w8, w9, w10⟩
  · rw [oth (by omega) (by omega) (by omega) (by omega) (by omega), z.2.1]; exact Nat.zero_le _
  rcases w8 with h | h | h | h | h | h | h | h | h
  · obtain ⟨k1, k2, k3, k4, k5, k6, k7, k8⟩ := h
    have e := (z5 (by omega) (by omega) (by omega)).trans (k5.trans k4)
    have e0 : sZ D l = if D.2.1 &&& 3 = 3 then 4 else 2 := if_pos k1
    rw [e0]
    by_cases y : D.2.1 &&& 3 = 3
    · rw [if_pos y] at e ⊢
      rw [eqn 4 (by omega) e]; exact Nat.le_refl _
    · rw [if_neg y] at e ⊢
      rw [eqn 2 (by omega) e]; exact Nat.le_refl _
  · have e0 : sZ D l = if l = 0 then 2 else 4 := (if_neg (by omega)).trans (if_pos h.1)
    have l1 : l ≤ 1 := by
      rcases hz with y | y | y | y
      · exact y.2.2.1
      · exact absurd y.1 (by omega)
      · exact absurd y.1 (by omega)
      · exact absurd h.1 y.1
    rw [e0, z4 (Or.inl h.1)]
    rcases (show l = 0 ∨ l = 1 by omega) with y | y <;> subst y <;> decide
  · have e0 : sZ D l = if l = 0 then 2 else if l = 1 then 4 else 8 := (if_neg (by omega)).trans ((if_neg (by omega)).trans (if_pos h.1))
    have l1 : l ≤ 2 := by
      rcases hz with y | y | y | y
      · exact absurd y.1 (by omega)
      · exact y.2.2.1
      · exact absurd y.1 (by omega)
      · exact absurd h.1 y.2.1
    rw [e0, z4 (Or.inr h.1)]
    rcases (show l = 0 ∨ l = 1 ∨ l = 2 by omega) with y | y | y <;> subst y <;> decide
  · obtain ⟨k1, k2, k3, k4, k5, k6, k7, k8, k9⟩ := h
    have e := (z5 (by omega) (by omega) (by omega)).trans (k5.trans k4)
    have e0 : sZ D l = 8 := (if_neg (by omega)).trans ((if_neg (by omega)).trans ((if_neg (by omega)).trans (if_pos k1)))
    rw [e0, eqn 8 (by omega) e]; exact Nat.le_refl _
  · obtain ⟨k1, k2, k3, k4, k5, k6, k7, k8⟩ := h
    have e := (z5 (by omega) (by omega) (by omega)).trans (k6.trans k5)
    have hnl := numB_l b cd
    rw [oth (by omega) (by omega) (by omega) (by omega) (by omega), k8, eqn _ (by omega) e]; exact Nat.le_refl _
  · obtain ⟨k1, k2, k3, k4, k5, k6, k7, k8, k9, k10⟩ := h
    have e := (z5 (by omega) (by omega) (by omega)).trans (k6.trans k5)
    have lb : D.2.2.1 * D.2.2.2.1.length ≤ 4 * 32768 := Nat.mul_le_mul (by omega) k10
    have e0 : sZ D l = D.2.2.1 * D.2.2.2.1.length := (if_neg (by omega)).trans ((if_neg (by omega)).trans ((if_neg (by omega)).trans ((if_neg (by omega)).trans (if_pos k1))))
    rw [e0, eqn _ (by omega) e]; exact Nat.le_refl _
  · obtain ⟨k1, k2, k3, k4, k5, k6, k7, k8⟩ := h
    have e := (z5 (by omega) (by omega) (by omega)).trans (k4.trans k3)
    rw [oth (by omega) (by omega) (by omega) (by omega) (by omega), eqn _ (by omega) e]; exact Nat.le_refl _
  · rw [oth (by have := h.1; omega) (by have := h.1; omega) (by have := h.1; omega) (by have := h.1; omega) (by have := h.1; omega), h.2.2.1.2]; exact Nat.zero_le _
  · rw [oth (by have := h.1; omega) (by have := h.1; omega) (by have := h.1; omega) (by have := h.1; omega) (by have := h.1; omega), h.2.2.1.2]; exact Nat.zero_le _
theorem SR_w9 {B : St} {ct : Nat} {gr : Bool} {PA BY OU : Nat → Int32} {ft : Int32} {ap : Nat} {S : St} (h : SR B ct gr PA BY OU ft ap S) (v : Nat → Int32) : SR B ct gr PA BY v ft ap (pR S 9 v) := by
  obtain ⟨ms, dv, ls, sg, vl, PL, tk, fr, to, nm, rfl⟩ := h
  refine ⟨ms, dv, ls, sg, vl, PL, tk, fr, to, nm, Prod.ext rfl (Prod.ext rfl (Prod.ext (funext fun j => ?_) rfl))⟩
  show (if j = 9 then v else _) = _
  by_cases h : j = 9
  · subst h; rfl
  · unfold uR xR yR
    simp only [if_neg h]
theorem SR_p19 {B : St} {ct : Nat} {gr : Bool} {PA BY OU : Nat → Int32} {ft : Int32} {ap : Nat} {S : St} (h : SR B ct gr PA BY OU ft ap S) (v : Int32) : SR (pI B 19 v) ct gr PA BY OU ft ap (pI S 19 v) := by
  obtain ⟨ms, dv, ls, sg, vl, PL, tk, fr, to, nm, rfl⟩ := h
  refine ⟨ms, dv, ls, sg, vl, PL, tk, fr, to, nm, Prod.ext (funext fun j => ?_) rfl⟩
  show (if j = 19 then v else _) = _
  by_cases h : j = 19
  · subst h; rfl
  · unfold uR xR yR pI
    simp only [if_neg h]
theorem SR_pO {B : St} {ct : Nat} {gr : Bool} {PA BY OU : Nat → Int32} {ft : Int32} {ap : Nat} {S : St} (h : SR B ct gr PA BY OU ft ap S) (o : Option Nat) : SR (pO B 0 o) ct gr PA BY OU ft ap (pO S 0 o) := by
  obtain ⟨ms, dv, ls, sg, vl, PL, tk, fr, to, nm, rfl⟩ := h
  exact ⟨ms, dv, ls, sg, vl, PL, tk, fr, to, nm, rfl⟩
/-- lines in the reference's row -/
def orL (OU : Nat → Int32) (a k ln : Nat) : Nat → Int32 := fun i => if a ≤ i ∧ i < a + k then OU i ||| (nI ln <<< ((8 : Int32) &&& 31)) else OU i
theorem orL_s {OU : Nat → Int32} {a k ln : Nat} : orL (upd OU a (OU a ||| (nI ln <<< ((8 : Int32) &&& 31)))) (a + 1) k ln = orL OU a (k + 1) ln := funext fun i => by
  unfold orL
  by_cases y : i = a
  · subst y
    rw [if_neg (show ¬ (i + 1 ≤ i ∧ i < i + 1 + k) by omega), if_pos (show i ≤ i ∧ i < i + (k + 1) by omega), up_e]
  · rw [up_n y]
    by_cases z : a ≤ i ∧ i < a + (k + 1)
    · rw [if_pos (show a + 1 ≤ i ∧ i < a + 1 + k by omega), if_pos z]
    · rw [if_neg (show ¬ (a + 1 ≤ i ∧ i < a + 1 + k) by omega), if_neg z]
theorem orL_0 {OU : Nat → Int32} {a ln : Nat} : orL OU a 0 ln = OU := funext fun i => if_neg (by omega)
theorem wr_112 {n : Nat} {B : St} {ct : Nat} {gr : Bool} {PA BY : Nat → Int32} {ap s A q : Nat} {D : Dt} {fl l off bg : Nat} (hs : s < 11000) (hP : PA s = nI (A * 2 ^ 17 + q)) (hA : A < 64) (hq : q < 131072) (hZ : ZK D (BY s) fl l) (hfl : A / 8 = fl / 8) (hl : A % 4 = l) (h4 : sR B 4 s = nI off) (h19 : sI B 19 = nI bg) (hb : bg + szN D (BY s) l off ≤ 131072) (G : Int32 → Int32 → Int32 → Int32 → St → Option St) (x2 x4 : Int32) (ln : Nat) : ∀ (m x g : Nat) (OU : Nat → Int32) (S : St), x + m = szN D (BY s) l off → m < g → SR B ct gr PA BY OU 0 ap S → ∃ S' : St, df_X13_put__112 n G g x2 (nI ln) x4 (nI s) (nI x) S = G x2 (nI ln) x4 (nI (s + 1)) S' ∧ SR B ct gr PA BY (orL OU (bg + x) m ln) 0 ap S' := fun m => by
  induction m with
  | zero =>
    intro x g OU S h1 h2 h
    obtain ⟨g, rfl⟩ : ∃ k : Nat, g = k + 1 := ⟨g - 1, by omega⟩
    refine ⟨S, ?_, by rw [orL_0]; exact h⟩
    show dF_X13_put__112 n G (df_X13_put__112 n G g) x2 (nI ln) x4 (nI s) (nI x) S = _
    unfold dF_X13_put__112
    have e4 : sR S 4 s = nI off := by rw [SR_r4 h]; exact h4
    rw [nm_ck hs (by omega), nI_clamp (by omega), e4, (sz_R (n := n) hs ((congrFun (SR_r3 h) s).trans hP) hA hq (congrFun (SR_r5 h) s) hZ hfl hl).1, nb_b2, if_pos (zle (show szN D (BY s) l off ≤ x by omega) (by omega)), nb_let, show nI s + Int32.ofInt 1 = nI (s + 1) from nI_add s 1]
  | succ m ih =>
    intro x g OU S h1 h2 h
    obtain ⟨g, rfl⟩ : ∃ k : Nat, g = k + 1 := ⟨g - 1, by omega⟩
    have e4 : sR S 4 s = nI off := by rw [SR_r4 h]; exact h4
    have h9 := SR_w9 h (upd OU (bg + x) (OU (bg + x) ||| (nI ln <<< ((8 : Int32) &&& 31))))
    obtain ⟨S', r1, r2⟩ := ih (x + 1) g _ _ (by omega) (by omega) h9
    refine ⟨S', ?_, ?_⟩
    · show dF_X13_put__112 n G (df_X13_put__112 n G g) x2 (nI ln) x4 (nI s) (nI x) S = _
      unfold dF_X13_put__112
      rw [nm_ck hs (by omega), nI_clamp (by omega), e4, (sz_R (n := n) hs ((congrFun (SR_r3 h) s).trans hP) hA hq (congrFun (SR_r5 h) s) hZ hfl hl).1, nb_b2, if_neg (znle (show x < szN D (BY s) l off by omega) (by omega)), SR_19 h, h19, nI_add, nm_ck (by omega) (by omega), nm_ck (by omega) (by omega), nI_clamp (by omega), SR_r9 h, nb_let, nb_let, show nI x + Int32.ofInt 1 = nI (x + 1) from nI_add x 1]
      exact r1
    · rw [show bg + (x + 1) = bg + x + 1 by omega, orL_s] at r2
      exact r2

theorem adr_R {n L : Nat} {c X : Nat → Nat} {nL nS T : Nat} {OF W : Nat → Int32} {B : St} (hB : RBd L c X nL nS T OF W B) {ct : Nat} {gr : Bool} {PA BY OU : Nat → Int32} {ap : Nat} {S : St} (h : SR B ct gr PA BY OU 0 ap S) {s q se A of : Nat} (hs : s < 11000) (hPA : PA s = nI (A * 2 ^ 17 + q)) (hA : A < 64) (hZ : A / 4 % 2 = se) (qb : q < 131072) (hof : OF s = nI of) (hT : T ≤ 2 ^ 30) : df_X13_addressOf n (nI s) S = some (nI (of + (if se = 1 then bsN T else 0)), S) := by
  obtain ⟨b0, b2, bn, b3, b6, b4, bo, bw, bc, bl⟩ := hB
  obtain ⟨p1, p2, p3, p4⟩ := pla_1 hA qb
  have sec : df_X13_sectionOf n (nI s) S = some (nI se, S) := by
    unfold df_X13_sectionOf df_X13_sectionOf_0
    rw [nm_ck hs (by omega), nI_clamp (by omega), SR_r3 h, hPA, p2, hZ]
  unfold df_X13_addressOf df_X13_addressOf_0 df_X13_addressOf_23
  have r4 : sR S 4 = OF := (SR_r4 h).trans bo
  rw [nm_ck hs (by omega), sec, nb_b2, nI_clamp (by omega), r4, hof]
  by_cases y : se = 1
  · rw [if_pos (show nI se = 1 from congrArg nI y)]
    unfold df_X13_base df_X13_base_0
    rw [nb_b2, show sI S 4 = nI T from (SR_4 h).trans b4]
    have e1 : ((((nI T + 1023) / 1024) * 1024 : Int32)) = nI (bsN T) := bs_R hT
    rw [e1, nI_add, if_pos y]
  · rw [if_neg (show ¬ nI se = 1 from zne (b := 1) y (by omega) (by omega)), if_neg y]
    rw [show nI of + 0 = nI (of + 0) from Int32.add_zero _]
/-- the reference: one statement is written, with its line -/
theorem wr_44 {n L : Nat} {c : Nat → Nat} {B0 : St} (hX : TXT n L c B0) {X : Nat → Nat} {nL nS Tz : Nat} {OF W : Nat → Int32} (hK : XOK L c X nL) {BY PA : Nat → Int32} {D : Dt} {s q e se fl n0 A of l fm ad : Nat} (hs : s < 11000) (hT : Tz ≤ 2 ^ 30) (hD : SRD n L c X nL W BY s D q e se fl n0 A) (hP : PA s = nI (A * 2 ^ 17 + q)) (hO : OF s = nI of) (hl : A % 4 = l) (hZ : ZK D (BY s) fl l) (had : ad = of + (if se = 1 then bsN Tz else 0)) (hzz : sZ D l ≤ szN D (BY s) l of) (hf9 : fm ≤ 98304) (hfm : ad + szN D (BY s) l of ≤ 32768) (G : Int32 → Int32 → Int32 → Int32 → St → Option St) {B : St} (hB : RBd L c X nL nS Tz OF W B) (o11' : sO B 0 = some 11) {ct : Nat} {gr : Bool} {OU : Nat → Int32} {ap : Nat} {S : St} (h : SR B ct gr PA BY OU 0 ap S) : ∀ (m x g : Nat), x + m = q → m < g → ∃ (B' S' : St) (ct' ap' : Nat) (gr' : Bool), df_X13_put__44 n G g (nI fm) (nI (nlC c x + 1)) (nI x) (nI s) S = G (nI fm) (nI (nlC c q + 1)) (nI q) (nI (s + 1)) S' ∧ RBd L c X nL nS Tz OF W B' ∧ sO B' 0 = some 11 ∧ SR B' ct' gr' PA BY (orL (wrL OU (fm + ad) (sB D (VV c X e nL q (nI Tz) (nI ad) W) (nI ad) l)) (fm + ad) (szN D (BY s) l of) (nlC c q + 1)) 0 ap' S' ∧ sI B' 1 = sI B 1 ∧ sI B' 5 = sI B 5 := fun m => by
  obtain ⟨c1, c2, c3, c4, c5, c6, c7, c8, c9, lw, lv, sz, ba, X0, W0, d1, d2, d3, d4, d5⟩ := hD
  have hL := hX.2.1
  have hn := hX.1
  have qb : q < 131072 := by omega
  obtain ⟨p1, p2, p3, p4⟩ := pla_1 c1 qb
  have zb := (sz_1 hZ of).1
  induction m with
  | zero =>
    intro x g h1 h2
    obtain ⟨g, rfl⟩ : ∃ k : Nat, g = k + 1 := ⟨g - 1, by omega⟩
    have : x = q := by omega
    subst this
    have hB1 : RBd L c X nL nS Tz OF W (pI B 19 (nI (fm + ad))) := hB
    have h19 := SR_p19 h (nI (fm + ad))
    obtain ⟨S1, r1, r2, r3⟩ := again_R hX hB1 hK h19 (s := s) (q := x) (e := e) (se := se) (A := A) (of := of) (n0 := n0) (D := D) hs hP c1 c2 c6 c7 c8 hO hT d1 c9 d2 d3 d4 d5 (μ := 3) (Or.inr (Or.inr rfl)) (fun _ => ⟨o11', fm + ad, rfl, by rw [hl]; omega⟩)
    obtain ⟨ct1, ap1, gr1, x1, x2, x3⟩ := r3 (fun w => absurd w (by decide))
    rw [if_pos rfl, ← had, hl, show (sI (pI B 19 (nI (fm + ad))) 19).toNatClampNeg = fm + ad from nI_clamp (by omega)] at x3
    obtain ⟨S2, t1, t2⟩ := wr_112 (n := n) (B := BX (pI B 19 (nI (fm + ad))) s (nI ad) se (nI 3)) (PA := PA) (BY := BY) (A := A) (q := x) (D := D) (fl := fl) (l := l) (off := of) (bg := fm + ad) hs hP c1 qb hZ c3 hl (show sR B 4 s = nI of by rw [hB.2.2.2.2.2.2.1]; exact hO) rfl (by omega) G (nI fm) (nI x) (nlC c x + 1) (szN D (BY s) l of) 0 n _ S1 (by omega) (by omega) x3
    refine ⟨BX (pI B 19 (nI (fm + ad))) s (nI ad) se (nI 3), S2, ct1, ap1, gr1, ?_, hB1, o11', t2, rfl, rfl⟩
    show dF_X13_put__44 n G (df_X13_put__44 n G g) (nI fm) (nI (nlC c x + 1)) (nI x) (nI s) S = _
    unfold dF_X13_put__44
    rw [nm_ck hs (by omega), nI_clamp (by omega), SR_r3 h, hP, p1, if_pos (zle (Nat.le_refl x) (by omega)), adr_R hB h hs hP c1 c2 qb hO hT, nb_b2, nb_let, ← had, nI_add]
    rw [show df_X13_again n (nI s) 3 (pI S 19 (nI (fm + ad))) = some S1 from r1, nb_b1]
    exact t1
  | succ m ih =>
    intro x g h1 h2
    obtain ⟨g, rfl⟩ : ∃ k : Nat, g = k + 1 := ⟨g - 1, by omega⟩
    have hx := hX.2.2.1 x
    obtain ⟨B', S', ct', ap', gr', y1, y2⟩ := ih (x + 1) g (by omega) (by omega)
    refine ⟨B', S', ct', ap', gr', ?_, y2⟩
    show dF_X13_put__44 n G (df_X13_put__44 n G g) (nI fm) (nI (nlC c x + 1)) (nI x) (nI s) S = _
    unfold dF_X13_put__44 df_X13_put__79
    rw [nm_ck hs (by omega), nI_clamp (by omega), SR_r3 h, hP, p1, if_neg (znle (show x < q by omega) (by omega)), nm_ck (by omega) (by omega), nI_clamp (by omega), show sR S 2 x = nI (c x) by rw [SR_r2 h]; exact hB.2.1 x (by omega)]
    by_cases y : c x = 10
    · have e : nlC c (x + 1) = nlC c x + 1 := by
        show nlC c x + (if c x = 10 then 1 else 0) = _
        rw [if_pos y]
      rw [e] at y1
      rw [if_pos (show nI (c x) = 10 from congrArg nI y), nb_let, show nI x + Int32.ofInt 1 = nI (x + 1) from nI_add x 1, show nI (nlC c x + 1) + 1 = nI (nlC c x + 1 + 1) from nI_add (nlC c x + 1) 1]
      exact y1
    · have e : nlC c (x + 1) = nlC c x := by
        show nlC c x + (if c x = 10 then 1 else 0) = _
        rw [if_neg y, Nat.add_zero]
      rw [e] at y1
      rw [if_neg (show ¬ nI (c x) = 10 from zne (b := 10) y (by omega) (by omega)), nb_let, show nI x + Int32.ofInt 1 = nI (x + 1) from nI_add x 1]
      exact y1
/-- the reference's row, statement by statement -/
def rmR (OU0 : Nat → Int32) (fm : Nat) (ad : Nat → Nat) (BB : Nat → List Int32) (sz Ls : Nat → Nat) : Nat → (Nat → Int32)
  | 0 => OU0
  | s + 1 => orL (wrL (rmR OU0 fm ad BB sz Ls s) (fm + ad s) (BB s)) (fm + ad s) (sz s) (Ls s)
theorem wr_35 {n L : Nat} {c : Nat → Nat} {B0 : St} (hX : TXT n L c B0) {X : Nat → Nat} {nL nS Tz : Nat} {OF W : Nat → Int32} (hK : XOK L c X nL) {BY PA : Nat → Int32} {Ds : Nat → Dt} {Qs Es Zs Fs N0 AA of lv Ls ad sz : Nat → Nat} {BB : Nat → List Int32} {fm : Nat} (hf9 : fm ≤ 98304) (hnS : nS ≤ 8200) (hT : Tz ≤ 2 ^ 30) (hst : ∀ s : Nat, s < nS → SRD n L c X nL W BY s (Ds s) (Qs s) (Es s) (Zs s) (Fs s) (N0 s) (AA s) ∧ PA s = nI (AA s * 2 ^ 17 + Qs s) ∧ OF s = nI (of s) ∧ Ls s = nlC c (Qs s) + 1 ∧ AA s % 4 = lv s ∧ ZK (Ds s) (BY s) (Fs s) (lv s) ∧ ad s = of s + (if Zs s = 1 then bsN Tz else 0) ∧ sz s = szN (Ds s) (BY s) (lv s) (of s) ∧ sZ (Ds s) (lv s) ≤ sz s ∧ ad s + sz s ≤ 32768 ∧ BB s = sB (Ds s) (VV c X (Es s) nL (Qs s) (nI Tz) (nI (ad s)) W) (nI (ad s)) (lv s) ∧ ∀ t : Nat, t < s → Qs t < Qs s) (OU0 : Nat → Int32) : ∀ (m s x g : Nat) (B S : St) (ct ap : Nat) (gr : Bool), s + m = nS → m < g → (s < nS → x ≤ Qs s) → RBd L c X nL nS Tz OF W B → sO B 0 = some 11 → SR B ct gr PA BY (rmR OU0 fm ad BB sz Ls s) 0 ap S → ∃ (B' S' : St) (ct' ap' : Nat) (gr' : Bool), df_X13_put__35 n g (nI fm) (nI (nlC c x + 1)) (nI x) (nI s) S = some S' ∧ RBd L c X nL nS Tz OF W B' ∧ sO B' 0 = some 11 ∧ SR B' ct' gr' PA BY (rmR OU0 fm ad BB sz Ls nS) 0 ap' S' ∧ sI B' 1 = sI B 1 ∧ sI B' 5 = sI B 5 := fun m => by
  induction m with
  | zero =>
    intro s x g B S ct ap gr h1 h2 h3 hB ho h
    have : s = nS := by omega
    subst this
    obtain ⟨g, rfl⟩ : ∃ k : Nat, g = k + 1 := ⟨g - 1, by omega⟩
    refine ⟨B, S, ct, ap, gr, ?_, hB, ho, h, rfl, rfl⟩
    show dF_X13_put__35 n (df_X13_put__35 n g) (nI fm) (nI (nlC c x + 1)) (nI x) (nI s) S = _
    unfold dF_X13_put__35
    rw [SR_2 h, hB.2.2.1, if_pos (zle (Nat.le_refl s) (by omega))]
  | succ m ih =>
    intro s x g B S ct ap gr h1 h2 h3 hB ho h
    obtain ⟨g, rfl⟩ : ∃ k : Nat, g = k + 1 := ⟨g - 1, by omega⟩
    obtain ⟨a1, a2, a3, a4, a5, a6, a7, a8, a9, a10, a11, a12⟩ := hst s (by omega)
    have hL := hX.2.1
    have hn := hX.1
    have q3 : Qs s + 3 ≤ Es s ∧ Es s ≤ L := ⟨a1.2.2.2.2.2.1, a1.2.2.2.2.2.2.1⟩
    have hxq := h3 (by omega)
    obtain ⟨B1, S1, ct1, ap1, gr1, y1, y2, y3, y4, y5, y6⟩ := wr_44 hX hK (l := lv s) (fm := fm) (ad := ad s) (by omega) hT a1 a2 a3 a5 a6 a7 (by rw [← a8]; exact a9) hf9 (by rw [← a8]; exact a10) (df_X13_put__35 n g) hB ho h (Qs s - x) x n (by omega) (by omega)
    rw [← a8, ← a4, ← a11] at y4
    have nx : s + 1 < nS → Qs s ≤ Qs (s + 1) := fun w => by
      have := (hst (s + 1) w).2.2.2.2.2.2.2.2.2.2.2 s (by omega)
      omega
    obtain ⟨B', S', ct', ap', gr', z1, z2, z3, z4, z5, z6⟩ := ih (s + 1) (Qs s) g B1 S1 ct1 ap1 gr1 (by omega) (by omega) nx y2 y3 y4
    refine ⟨B', S', ct', ap', gr', ?_, z2, z3, z4, z5.trans y5, z6.trans y6⟩
    show dF_X13_put__35 n (df_X13_put__35 n g) (nI fm) (nI (nlC c x + 1)) (nI x) (nI s) S = _
    unfold dF_X13_put__35
    rw [SR_2 h, hB.2.2.1, if_neg (znle (show s < nS by omega) (by omega)), y1]
    exact z1

/-- the reference: the row is emptied, then written -/
def zrL (OU : Nat → Int32) (a k : Nat) : Nat → Int32 := fun i => if a ≤ i ∧ i < a + k then 0 else OU i
theorem zrL_0 {OU : Nat → Int32} {a : Nat} : zrL OU a 0 = OU := funext fun i => if_neg (by omega)
theorem zrL_s {OU : Nat → Int32} {a k : Nat} : upd (zrL OU a k) (a + k) 0 = zrL OU a (k + 1) := funext fun i => by
  unfold zrL
  by_cases y : i = a + k
  · subst y
    rw [up_e, if_pos (show a ≤ a + k ∧ a + k < a + (k + 1) by omega)]
  · rw [up_n y]
    by_cases z : a ≤ i ∧ i < a + k
    · rw [if_pos z, if_pos (show a ≤ i ∧ i < a + (k + 1) by omega)]
    · rw [if_neg z, if_neg (show ¬ (a ≤ i ∧ i < a + (k + 1)) by omega)]
theorem all_R {n : Nat} {B : St} {ct : Nat} {gr : Bool} {PA BY OU : Nat → Int32} {ft : Int32} {ap : Nat} {S : St} (h : SR B ct gr PA BY OU ft ap S) {t d : Nat} (h1 : sI B 1 = 1) (h4 : sI B 4 = nI t) (h5 : sI B 5 = nI d) (hb : t + d ≤ 2 ^ 30) : df_X13_all n S = some (nI (szA (t, d)), S) := by
  have k1 : sI S 1 = 1 := (SR_1 h).trans h1
  have k4 : sI S 4 = nI t := (SR_4 h).trans h4
  have k5 : sI S 5 = nI d := (SR_5 h).trans h5
  unfold df_X13_all df_X13_all_0 df_X13_all_34 df_X13_base df_X13_base_0
  rw [if_neg (show ¬ sI S 1 = 0 by rw [k1]; decide), k5, k4, nb_b2, k5]
  have e1 : ((((nI t + 1023) / 1024) * 1024 : Int32)) = nI (bsN t) := bs_R (by omega)
  rw [e1, ← szA_n (t := t) (d := d) hb]
  split <;> rfl
theorem wr_2 {n : Nat} {B : St} {ct : Nat} {gr : Bool} {PA BY OU : Nat → Int32} {ap t d fm : Nat} (h1 : sI B 1 = 1) (h4 : sI B 4 = nI t) (h5 : sI B 5 = nI d) (hb : t + d ≤ 2 ^ 30) (hfm : fm + szA (t, d) ≤ 131072) : ∀ (m x g : Nat) (S : St), x + m = szA (t, d) → m < g → SR B ct gr PA BY (zrL OU fm x) 0 ap S → ∃ S' : St, df_X13_put__2 n g (nI fm) (nI x) S = df_X13_put__35 n n (nI fm) 1 0 0 (pO S' 0 (some 11)) ∧ SR B ct gr PA BY (zrL OU fm (szA (t, d))) 0 ap S' := fun m => by
  induction m with
  | zero =>
    intro x g S e1 e2 h
    obtain ⟨g, rfl⟩ : ∃ k : Nat, g = k + 1 := ⟨g - 1, by omega⟩
    have : x = szA (t, d) := by omega
    subst this
    refine ⟨S, ?_, h⟩
    show dF_X13_put__2 n (df_X13_put__2 n g) (nI fm) (nI (szA (t, d))) S = _
    unfold dF_X13_put__2
    rw [all_R h h1 h4 h5 hb, nb_b2, if_pos (zle (Nat.le_refl _) (by omega)), nb_let]
  | succ m ih =>
    intro x g S e1 e2 h
    obtain ⟨g, rfl⟩ : ∃ k : Nat, g = k + 1 := ⟨g - 1, by omega⟩
    have h9 := SR_w9 h (upd (zrL OU fm x) (fm + x) 0)
    rw [zrL_s] at h9
    obtain ⟨S', r1, r2⟩ := ih (x + 1) g _ (by omega) (by omega) h9
    refine ⟨S', ?_, r2⟩
    show dF_X13_put__2 n (df_X13_put__2 n g) (nI fm) (nI x) S = _
    unfold dF_X13_put__2
    rw [all_R h h1 h4 h5 hb, nb_b2, if_neg (znle (show x < szA (t, d) by omega) (by omega)), nI_add, nm_ck (by omega) (by omega), nI_clamp (by omega), SR_r9 h, nb_let, nb_let, show nI x + Int32.ofInt 1 = nI (x + 1) from nI_add x 1, zrL_s]
    exact r1
/-- all of put(row, from) -/
theorem wr_J {n L : Nat} {c : Nat → Nat} {B0 : St} (hX : TXT n L c B0) {X : Nat → Nat} {nL nS Tz dz : Nat} {OF W : Nat → Int32} (hK : XOK L c X nL) {BY PA : Nat → Int32} {Ds : Nat → Dt} {Qs Es Zs Fs N0 AA of lv Ls ad sz : Nat → Nat} {BB : Nat → List Int32} {fm : Nat} (hf9 : fm ≤ 98304) (hnS : nS ≤ 8200) (hT : Tz + dz ≤ 2 ^ 30) (hst : ∀ s : Nat, s < nS → SRD n L c X nL W BY s (Ds s) (Qs s) (Es s) (Zs s) (Fs s) (N0 s) (AA s) ∧ PA s = nI (AA s * 2 ^ 17 + Qs s) ∧ OF s = nI (of s) ∧ Ls s = nlC c (Qs s) + 1 ∧ AA s % 4 = lv s ∧ ZK (Ds s) (BY s) (Fs s) (lv s) ∧ ad s = of s + (if Zs s = 1 then bsN Tz else 0) ∧ sz s = szN (Ds s) (BY s) (lv s) (of s) ∧ sZ (Ds s) (lv s) ≤ sz s ∧ ad s + sz s ≤ 32768 ∧ BB s = sB (Ds s) (VV c X (Es s) nL (Qs s) (nI Tz) (nI (ad s)) W) (nI (ad s)) (lv s) ∧ ∀ t : Nat, t < s → Qs t < Qs s) {B S : St} {OU : Nat → Int32} {ct ap : Nat} {gr : Bool} (hB : RBd L c X nL nS Tz OF W B) (h1 : sI B 1 = 1) (h5 : sI B 5 = nI dz) (hz : szA (Tz, dz) ≤ 32768) (h : SR B ct gr PA BY OU 0 ap S) : ∃ (B' S' : St) (ct' ap' : Nat) (gr' : Bool), df_X13_put_ n (nI fm) S = some S' ∧ RBd L c X nL nS Tz OF W B' ∧ SR B' ct' gr' PA BY (rmR (zrL OU fm (szA (Tz, dz))) fm ad BB sz Ls nS) 0 ap' S' ∧ sI B' 1 = 1 ∧ sI B' 5 = nI dz := by
  have hn := hX.1
  have h0 : SR B ct gr PA BY (zrL OU fm 0) 0 ap S := by rw [zrL_0]; exact h
  obtain ⟨S1, r1, r2⟩ := wr_2 (n := n) (t := Tz) (d := dz) (fm := fm) h1 hB.2.2.2.2.2.1 h5 hT (by omega) (szA (Tz, dz)) 0 n S (by omega) (by omega) h0
  have hB1 : RBd L c X nL nS Tz OF W (pO B 0 (some 11)) := hB
  obtain ⟨B', S', ct', ap', gr', z1, z2, z3, z4, z5, z6⟩ := wr_35 hX hK hf9 hnS (by omega) hst (zrL OU fm (szA (Tz, dz))) nS 0 0 n (pO B 0 (some 11)) (pO S1 0 (some 11)) ct ap gr (by omega) (by omega) (fun _ => Nat.zero_le _) hB1 rfl (SR_pO r2 (some 11))
  exact ⟨B', S', ct', ap', gr', r1.trans z1, z2, z4, z5.trans h1, z6.trans h5⟩

/-- the class's description of a program: statements, labels -/
def dsS (SW R2 R3 : Nat → Int32) : Nat → Nat × (Nat → Int32) × (Nat → Int32)
  | 0 => (0, R2, R3)
  | i + 1 => if SW (8 * i + 3) ≤ 0 then dsS SW R2 R3 i else ((dsS SW R2 R3 i).1 + 1, upd (dsS SW R2 R3 i).2.1 (dsS SW R2 R3 i).1 (SW (8 * i + 2)), upd (dsS SW R2 R3 i).2.2 (dsS SW R2 R3 i).1 (SW (8 * i)))
def lcS (LB R1 : Nat → Int32) : Nat → Nat × (Nat → Int32)
  | 0 => (0, R1)
  | j + 1 => if LB (5 * j + 4) = 1 ∧ (lcS LB R1 j).1 < 10986 then ((lcS LB R1 j).1 + 1, upd (lcS LB R1 j).2 (lcS LB R1 j).1 (LB (5 * j + 2))) else lcS LB R1 j
theorem dsS_l {SW R2 R3 : Nat → Int32} : ∀ i : Nat, (dsS SW R2 R3 i).1 ≤ i := fun i => by
  induction i with
  | zero => exact Nat.le_refl _
  | succ i ih =>
    unfold dsS
    split
    · omega
    · show (dsS SW R2 R3 i).1 + 1 ≤ i + 1
      omega
theorem lcS_l {LB R1 : Nat → Int32} : ∀ j : Nat, (lcS LB R1 j).1 ≤ 10986 := fun j => by
  induction j with
  | zero => exact Nat.zero_le _
  | succ j ih =>
    unfold lcS
    split
    · rename_i h
      show (lcS LB R1 j).1 + 1 ≤ 10986
      omega
    · exact ih
/-- what a description is, field by field -/
def DSC (Pd P' : St) (k : Nat) (R2 R3 : Nat → Int32) (m : Nat) (R1 : Nat → Int32) : Prop := sI P' 5 = nI k ∧ sR P' 2 = R2 ∧ sR P' 3 = R3 ∧ sI P' 4 = nI m ∧ sR P' 1 = R1 ∧ (∀ j : Nat, ¬ j = 5 → ¬ j = 4 → sI P' j = sI Pd j) ∧ (∀ j : Nat, ¬ j = 1 → ¬ j = 2 → ¬ j = 3 → sR P' j = sR Pd j) ∧ P'.2.1 = Pd.2.1 ∧ P'.2.2.2 = Pd.2.2.2
theorem sR_pI {S : St} {k : Nat} {v : Int32} (j : Nat) : sR (pI S k v) j = sR S j := rfl
theorem sI_pR {S : St} {k : Nat} {f : Nat → Int32} (j : Nat) : sI (pR S k f) j = sI S j := rfl
theorem sI_ne {S : St} {k j : Nat} {v : Int32} (h : ¬ j = k) : sI (pI S k v) j = sI S j := if_neg h
theorem sR_ne {S : St} {k j : Nat} {f : Nat → Int32} (h : ¬ j = k) : sR (pR S k f) j = sR S j := if_neg h
theorem adS_1 {n : Nat} {Pd P' : St} {k : Nat} {R2 R3 : Nat → Int32} {m : Nat} {R1 : Nat → Int32} (h : DSC Pd P' k R2 R3 m R1) (hk : k < 8194) (a l : Int32) : ∃ P2 : St, df_X8_addStatement n a l P' = some P2 ∧ DSC Pd P2 (k + 1) (upd R2 k a) (upd R3 k l) m R1 := by
  obtain ⟨h5, h2, h3, h4, h1, hI, hR, e1, e2⟩ := h
  refine ⟨pI (pR (pR P' 2 (upd R2 k a)) 3 (upd R3 k l)) 5 (nI (k + 1)), ?_, rfl, ?_, ?_, ?_, ?_, fun j j5 j4 => ?_, fun j j1 j2 j3 => ?_, e1, e2⟩
  · unfold df_X8_addStatement df_X8_addStatement_0 df_X8_addStatement_42
    rw [h5, if_neg (show ¬ (8194 : Int32) ≤ nI k from znle (a := 8194) hk (by omega)), nm_ck hk (by omega), nI_clamp (by omega), h2, nb_let, sI_pR, h5, nm_ck hk (by omega), nI_clamp (by omega), sR_ne (show ¬ (3 : Nat) = 2 by decide), h3, nb_let, sI_pR, sI_pR, h5, show nI k + 1 = nI (k + 1) from nI_add k 1, nb_let]
  · rw [sR_pI, sR_ne (show ¬ (2 : Nat) = 3 by decide)]; exact pR_e
  · rw [sR_pI]; exact pR_e
  · rw [sI_ne (show ¬ (4 : Nat) = 5 by decide)]; exact h4
  · rw [sR_pI, sR_ne (show ¬ (1 : Nat) = 3 by decide), sR_ne (show ¬ (1 : Nat) = 2 by decide)]; exact h1
  · rw [sI_ne j5]; exact hI j j5 j4
  · rw [sR_pI, sR_ne j3, sR_ne j2]; exact hR j j1 j2 j3
theorem adL_1 {n : Nat} {Pd P' : St} {k : Nat} {R2 R3 : Nat → Int32} {m : Nat} {R1 : Nat → Int32} (h : DSC Pd P' k R2 R3 m R1) (hm : m ≤ 10986) (a : Int32) : ∃ P2 : St, df_X8_addLabel n a P' = some P2 ∧ DSC Pd P2 k R2 R3 (if m < 10986 then m + 1 else m) (if m < 10986 then upd R1 m a else R1) := by
  obtain ⟨h5, h2, h3, h4, h1, hI, hR, e1, e2⟩ := id h
  by_cases y : m < 10986
  · rw [if_pos y, if_pos y]
    refine ⟨pI (pR P' 1 (upd R1 m a)) 4 (nI (m + 1)), ?_, ?_, ?_, ?_, rfl, ?_, fun j j5 j4 => ?_, fun j j1 j2 j3 => ?_, e1, e2⟩
    · unfold df_X8_addLabel df_X8_addLabel_0 df_X8_addLabel_32
      rw [h4, if_neg (show ¬ (10986 : Int32) ≤ nI m from znle (a := 10986) y (by omega)), nm_ck y (by omega), nI_clamp (by omega), h1, nb_let, sI_pR, h4, show nI m + 1 = nI (m + 1) from nI_add m 1, nb_let]
    · rw [sI_ne (show ¬ (5 : Nat) = 4 by decide)]; exact h5
    · rw [sR_pI, sR_ne (show ¬ (2 : Nat) = 1 by decide)]; exact h2
    · rw [sR_pI, sR_ne (show ¬ (3 : Nat) = 1 by decide)]; exact h3
    · rw [sR_pI]; exact pR_e
    · rw [sI_ne j4]; exact hI j j5 j4
    · rw [sR_pI, sR_ne j1]; exact hR j j1 j2 j3
  · rw [if_neg y, if_neg y]
    refine ⟨P', ?_, h⟩
    unfold df_X8_addLabel df_X8_addLabel_0 df_X8_addLabel_32
    rw [h4, if_pos (show (10986 : Int32) ≤ nI m from zle (a := 10986) (by omega) (by omega))]
theorem ds_76 {n nl : Nat} {M Q U Pd : St} (h9 : sI U 9 = nI nl) (hnl : nl ≤ 16384) {k : Nat} {R2 R3 R1 : Nat → Int32} : ∀ (m j g : Nat) (P' : St), j + m = nl → m < g → DSC Pd P' k R2 R3 (lcS (sR U 6) R1 j).1 (lcS (sR U 6) R1 j).2 → ∃ P2 : St, df_X1_describe_76 n g (nI (5 * j)) (M, ((Q, U), P')) = some (M, ((Q, U), P2)) ∧ DSC Pd P2 k R2 R3 (lcS (sR U 6) R1 nl).1 (lcS (sR U 6) R1 nl).2 := fun m => by
  induction m with
  | zero =>
    intro j g P' h1 h2 h
    have : j = nl := by omega
    subst this
    obtain ⟨g, rfl⟩ : ∃ k : Nat, g = k + 1 := ⟨g - 1, by omega⟩
    refine ⟨P', ?_, h⟩
    show dF_X1_describe_76 n (df_X1_describe_76 n g) (nI (5 * j)) (M, ((Q, U), P')) = _
    unfold dF_X1_describe_76
    rw [show sI ((M, ((Q, U), P')) : St × (St × St) × St).2.1.2 9 = nI j from h9, show nI j * 5 = nI (5 * j) from by rw [show (5 : Int32) = nI 5 from rfl, pk_mul, Nat.mul_comm], if_pos (zle (Nat.le_refl _) (by omega))]
  | succ m ih =>
    intro j g P' h1 h2 h
    obtain ⟨g, rfl⟩ : ∃ k : Nat, g = k + 1 := ⟨g - 1, by omega⟩
    have go : ∀ P3 : St, DSC Pd P3 k R2 R3 (lcS (sR U 6) R1 (j + 1)).1 (lcS (sR U 6) R1 (j + 1)).2 → ∃ P2 : St, df_X1_describe_119 n (df_X1_describe_76 n g) (nI (5 * j)) (M, ((Q, U), P3)) = some (M, ((Q, U), P2)) ∧ DSC Pd P2 k R2 R3 (lcS (sR U 6) R1 nl).1 (lcS (sR U 6) R1 nl).2 := fun P3 h3 => by
      obtain ⟨P2, r1, r2⟩ := ih (j + 1) g P3 (by omega) (by omega) h3
      refine ⟨P2, ?_, r2⟩
      unfold df_X1_describe_119
      rw [nb_let, show nI (5 * j) + Int32.ofInt 5 = nI (5 * j + 5) from nI_add (5 * j) 5]
      exact r1
    have hl := lcS_l (LB := sR U 6) (R1 := R1) j
    show ∃ P2 : St, dF_X1_describe_76 n (df_X1_describe_76 n g) (nI (5 * j)) (M, ((Q, U), P')) = _ ∧ _
    unfold dF_X1_describe_76
    rw [show sI ((M, ((Q, U), P')) : St × (St × St) × St).2.1.2 9 = nI nl from h9, show nI nl * 5 = nI (5 * nl) from by rw [show (5 : Int32) = nI 5 from rfl, pk_mul, Nat.mul_comm], if_neg (znle (show 5 * j < 5 * nl by omega) (by omega)), show nI (5 * j) + 4 = nI (5 * j + 4) from nI_add (5 * j) 4, show nI (5 * j) + 2 = nI (5 * j + 2) from nI_add (5 * j) 2, nm_ck (by omega) (by omega), nI_clamp (by omega)]
    by_cases y : sR U 6 (5 * j + 4) = 1
    · rw [if_pos (show sR ((M, ((Q, U), P')) : St × (St × St) × St).2.1.2 6 (5 * j + 4) = 1 from y), nm_ck (by omega) (by omega), nI_clamp (by omega)]
      obtain ⟨P3, r1, r2⟩ := adL_1 (n := n) h hl (sR U 6 (5 * j + 2))
      rw [show df_X8_addLabel n (sR ((M, ((Q, U), P')) : St × (St × St) × St).2.1.2 6 (5 * j + 2)) ((M, ((Q, U), P')) : St × (St × St) × St).2.2 = some P3 from r1, nb_b1, nb_let]
      refine go P3 ?_
      by_cases w : (lcS (sR U 6) R1 j).1 < 10986
      · have e : lcS (sR U 6) R1 (j + 1) = ((lcS (sR U 6) R1 j).1 + 1, upd (lcS (sR U 6) R1 j).2 (lcS (sR U 6) R1 j).1 (sR U 6 (5 * j + 2))) := if_pos ⟨y, w⟩
        rw [if_pos w, if_pos w] at r2
        rw [e]
        exact r2
      · have e : lcS (sR U 6) R1 (j + 1) = lcS (sR U 6) R1 j := if_neg (fun z => w z.2)
        rw [if_neg w, if_neg w] at r2
        rw [e]
        exact r2
    · rw [if_neg (show ¬ sR ((M, ((Q, U), P')) : St × (St × St) × St).2.1.2 6 (5 * j + 4) = 1 from y)]
      have e : lcS (sR U 6) R1 (j + 1) = lcS (sR U 6) R1 j := if_neg (fun z => y z.1)
      refine go P' ?_
      rw [e]
      exact h
theorem ds_26 {n nl sn : Nat} {M Q U Pd : St} (hn : 70000 < n) (h0 : sI Q 0 = nI sn) (hsn : sn ≤ 8194) (h9 : sI U 9 = nI nl) (hnl : nl ≤ 16384) {R2 R3 R1 : Nat → Int32} : ∀ (m i g : Nat) (P' : St), i + m = sn → m < g → DSC Pd P' (dsS (sR Q 0) R2 R3 i).1 (dsS (sR Q 0) R2 R3 i).2.1 (dsS (sR Q 0) R2 R3 i).2.2 0 R1 → ∃ P2 : St, df_X1_describe_26 n g (nI (8 * i)) (M, ((Q, U), P')) = some (M, ((Q, U), P2)) ∧ DSC Pd P2 (dsS (sR Q 0) R2 R3 sn).1 (dsS (sR Q 0) R2 R3 sn).2.1 (dsS (sR Q 0) R2 R3 sn).2.2 (lcS (sR U 6) R1 nl).1 (lcS (sR U 6) R1 nl).2 := fun m => by
  induction m with
  | zero =>
    intro i g P' h1 h2 h
    have : i = sn := by omega
    subst this
    obtain ⟨g, rfl⟩ : ∃ k : Nat, g = k + 1 := ⟨g - 1, by omega⟩
    obtain ⟨P2, r1, r2⟩ := ds_76 (n := n) (M := M) (Q := Q) (U := U) (R1 := R1) h9 hnl nl 0 n P' (by omega) (by omega) h
    refine ⟨P2, ?_, r2⟩
    show dF_X1_describe_26 n (df_X1_describe_26 n g) (nI (8 * i)) (M, ((Q, U), P')) = _
    unfold dF_X1_describe_26
    rw [show sI ((M, ((Q, U), P')) : St × (St × St) × St).2.1.1 0 = nI i from h0, ix8z i, if_pos (zle (Nat.le_refl _) (by omega))]
    exact r1
  | succ m ih =>
    intro i g P' h1 h2 h
    obtain ⟨g, rfl⟩ : ∃ k : Nat, g = k + 1 := ⟨g - 1, by omega⟩
    have hl := dsS_l (SW := sR Q 0) (R2 := R2) (R3 := R3) i
    have go : ∀ P3 : St, DSC Pd P3 (dsS (sR Q 0) R2 R3 (i + 1)).1 (dsS (sR Q 0) R2 R3 (i + 1)).2.1 (dsS (sR Q 0) R2 R3 (i + 1)).2.2 0 R1 → ∃ P2 : St, df_X1_describe_68 n (df_X1_describe_26 n g) (nI (8 * i)) (M, ((Q, U), P3)) = some (M, ((Q, U), P2)) ∧ DSC Pd P2 (dsS (sR Q 0) R2 R3 sn).1 (dsS (sR Q 0) R2 R3 sn).2.1 (dsS (sR Q 0) R2 R3 sn).2.2 (lcS (sR U 6) R1 nl).1 (lcS (sR U 6) R1 nl).2 := fun P3 h3 => by
      obtain ⟨P2, r1, r2⟩ := ih (i + 1) g P3 (by omega) (by omega) h3
      refine ⟨P2, ?_, r2⟩
      unfold df_X1_describe_68
      rw [nb_let, show nI (8 * i) + Int32.ofInt 8 = nI (8 * i + 8) from nI_add (8 * i) 8]
      exact r1
    show ∃ P2 : St, dF_X1_describe_26 n (df_X1_describe_26 n g) (nI (8 * i)) (M, ((Q, U), P')) = _ ∧ _
    unfold dF_X1_describe_26
    rw [show sI ((M, ((Q, U), P')) : St × (St × St) × St).2.1.1 0 = nI sn from h0, ix8z sn, if_neg (znle (show 8 * i < 8 * sn by omega) (by omega)), show nI (8 * i) + 3 = nI (8 * i + 3) from nI_add (8 * i) 3, show nI (8 * i) + 2 = nI (8 * i + 2) from nI_add (8 * i) 2, show nI (8 * i) + 0 = nI (8 * i + 0) from nI_add (8 * i) 0, nm_ck (by omega) (by omega), nI_clamp (by omega)]
    by_cases y : sR Q 0 (8 * i + 3) ≤ 0
    · rw [if_pos (show sR ((M, ((Q, U), P')) : St × (St × St) × St).2.1.1 0 (8 * i + 3) ≤ 0 from y)]
      have e : dsS (sR Q 0) R2 R3 (i + 1) = dsS (sR Q 0) R2 R3 i := if_pos y
      refine go P' ?_
      rw [e]
      exact h
    · rw [if_neg (show ¬ sR ((M, ((Q, U), P')) : St × (St × St) × St).2.1.1 0 (8 * i + 3) ≤ 0 from y), nm_ck (by omega) (by omega), nm_ck (by omega) (by omega), nI_clamp (by omega), nI_clamp (by omega)]
      obtain ⟨P3, r1, r2⟩ := adS_1 (n := n) h (by omega) (sR Q 0 (8 * i + 2)) (sR Q 0 (8 * i))
      rw [show df_X8_addStatement n (sR ((M, ((Q, U), P')) : St × (St × St) × St).2.1.1 0 (8 * i + 2)) (sR ((M, ((Q, U), P')) : St × (St × St) × St).2.1.1 0 (8 * i + 0)) ((M, ((Q, U), P')) : St × (St × St) × St).2.2 = some P3 from r1, nb_b1, nb_let]
      have e : dsS (sR Q 0) R2 R3 (i + 1) = ((dsS (sR Q 0) R2 R3 i).1 + 1, upd (dsS (sR Q 0) R2 R3 i).2.1 (dsS (sR Q 0) R2 R3 i).1 (sR Q 0 (8 * i + 2)), upd (dsS (sR Q 0) R2 R3 i).2.2 (dsS (sR Q 0) R2 R3 i).1 (sR Q 0 (8 * i))) := if_neg y
      refine go P3 ?_
      rw [e]
      exact r2
/-- describe(), all of it -/
theorem dsC {n nl sn : Nat} {M Q U P : St} (hn : 70000 < n) (h0 : sI Q 0 = nI sn) (hsn : sn ≤ 8194) (h9 : sI U 9 = nI nl) (hnl : nl ≤ 16384) : ∃ P2 : St, df_X1_describe n (M, ((Q, U), P)) = some (M, ((Q, U), P2)) ∧ DSC (pI (pI (pI (pI P 0 (sI Q 7)) 1 (sI Q 8)) 2 (sI Q 9)) 3 (sI Q 6)) P2 (dsS (sR Q 0) (sR P 2) (sR P 3) sn).1 (dsS (sR Q 0) (sR P 2) (sR P 3) sn).2.1 (dsS (sR Q 0) (sR P 2) (sR P 3) sn).2.2 (lcS (sR U 6) (sR P 1) nl).1 (lcS (sR U 6) (sR P 1) nl).2 := by
  have hD : DSC (pI (pI (pI (pI P 0 (sI Q 7)) 1 (sI Q 8)) 2 (sI Q 9)) 3 (sI Q 6)) (pI (pI (pI (pI (pI (pI P 0 (sI Q 7)) 1 (sI Q 8)) 2 (sI Q 9)) 4 0) 5 0) 3 (sI Q 6)) 0 (sR P 2) (sR P 3) 0 (sR P 1) := by
    refine ⟨rfl, rfl, rfl, rfl, rfl, fun j j5 j4 => ?_, fun _ _ _ _ => rfl, rfl, rfl⟩
    by_cases y : j = 3
    · subst y; rfl
    · rw [sI_ne y, sI_ne y, sI_ne j5, sI_ne j4]
  obtain ⟨P2, r1, r2⟩ := ds_26 (n := n) (M := M) (Q := Q) (U := U) (R2 := sR P 2) (R3 := sR P 3) (R1 := sR P 1) hn h0 hsn h9 hnl sn 0 n _ (by omega) (by omega) hD
  exact ⟨P2, r1, r2⟩

/-- bytes at a place -/
theorem wrC_p : ∀ (xs : List Int32) (f : Nat → Int32) (a i : Nat), wrC f a xs i = if a ≤ i ∧ i < a + xs.length then btI (xs.getD (i - a) 0) else f i := fun xs => by
  induction xs with
  | nil =>
    intro f a i
    rw [if_neg (show ¬ (a ≤ i ∧ i < a + ([] : List Int32).length) by show ¬ (a ≤ i ∧ i < a + 0); omega)]
    rfl
  | cons x xs ih =>
    intro f a i
    show wrC (upd f a (btI x)) (a + 1) xs i = if a ≤ i ∧ i < a + (xs.length + 1) then btI ((x :: xs).getD (i - a) 0) else f i
    rw [ih]
    by_cases y : i = a
    · subst y
      rw [if_neg (show ¬ (i + 1 ≤ i ∧ i < i + 1 + xs.length) by omega), if_pos (show i ≤ i ∧ i < i + (xs.length + 1) by omega), up_e, Nat.sub_self]
      rfl
    · by_cases z : a ≤ i ∧ i < a + (xs.length + 1)
      · rw [if_pos (show a + 1 ≤ i ∧ i < a + 1 + xs.length by omega), if_pos z, show i - a = (i - (a + 1)) + 1 by omega]
        rfl
      · rw [if_neg (show ¬ (a + 1 ≤ i ∧ i < a + 1 + xs.length) by omega), if_neg z, up_n y]
theorem wrL_p : ∀ (xs : List Int32) (f : Nat → Int32) (a i : Nat), wrL f a xs i = if a ≤ i ∧ i < a + xs.length then (xs.getD (i - a) 0) &&& 255 else f i := fun xs => by
  induction xs with
  | nil =>
    intro f a i
    rw [if_neg (show ¬ (a ≤ i ∧ i < a + ([] : List Int32).length) by show ¬ (a ≤ i ∧ i < a + 0); omega)]
    rfl
  | cons x xs ih =>
    intro f a i
    show wrL (upd f a (x &&& 255)) (a + 1) xs i = if a ≤ i ∧ i < a + (xs.length + 1) then ((x :: xs).getD (i - a) 0) &&& 255 else f i
    rw [ih]
    by_cases y : i = a
    · subst y
      rw [if_neg (show ¬ (i + 1 ≤ i ∧ i < i + 1 + xs.length) by omega), if_pos (show i ≤ i ∧ i < i + (xs.length + 1) by omega), up_e, Nat.sub_self]
      rfl
    · by_cases z : a ≤ i ∧ i < a + (xs.length + 1)
      · rw [if_pos (show a + 1 ≤ i ∧ i < a + 1 + xs.length by omega), if_pos z, show i - a = (i - (a + 1)) + 1 by omega]
        rfl
      · rw [if_neg (show ¬ (a + 1 ≤ i ∧ i < a + 1 + xs.length) by omega), if_neg z, up_n y]
/-- no statement lies there -/
theorem imC_o {f0 : Nat → Int32} {ad : Nat → Nat} {BB : Nat → List Int32} {i : Nat} : ∀ m : Nat, (∀ t : Nat, t < m → ¬ (ad t ≤ i ∧ i < ad t + (BB t).length)) → imC f0 ad BB m i = f0 i := fun m => by
  induction m with
  | zero => intro _; rfl
  | succ m ih =>
    intro h
    show wrC (imC f0 ad BB m) (ad m) (BB m) i = _
    rw [wrC_p, if_neg (h m (by omega))]
    exact ih (fun t ht => h t (by omega))
theorem imC_i {f0 : Nat → Int32} {ad : Nat → Nat} {BB : Nat → List Int32} {i s : Nat} : ∀ m : Nat, s < m → (∀ t : Nat, t < m → ad t ≤ i → i < ad t + (BB t).length → t = s) → imC f0 ad BB m i = if ad s ≤ i ∧ i < ad s + (BB s).length then btI ((BB s).getD (i - ad s) 0) else f0 i := fun m => by
  induction m with
  | zero => intro h; exact absurd h (Nat.not_lt_zero _)
  | succ m ih =>
    intro h hu
    show wrC (imC f0 ad BB m) (ad m) (BB m) i = _
    rw [wrC_p]
    by_cases y : m = s
    · subst y
      rw [imC_o m (fun t ht w => by have := hu t (by omega) w.1 w.2; omega)]
    · rw [if_neg (fun w => y (hu m (by omega) w.1 w.2))]
      exact ih (by omega) (fun t ht => hu t (by omega))
theorem orL_p {OU : Nat → Int32} {a k ln i : Nat} : orL OU a k ln i = if a ≤ i ∧ i < a + k then OU i ||| (nI ln <<< ((8 : Int32) &&& 31)) else OU i := rfl
theorem rmR_o {OU0 : Nat → Int32} {fm : Nat} {ad : Nat → Nat} {BB : Nat → List Int32} {sz Ls : Nat → Nat} {i : Nat} : ∀ m : Nat, (∀ t : Nat, t < m → (BB t).length ≤ sz t ∧ ¬ (ad t ≤ i ∧ i < ad t + sz t)) → rmR OU0 fm ad BB sz Ls m (fm + i) = OU0 (fm + i) := fun m => by
  induction m with
  | zero => intro _; rfl
  | succ m ih =>
    intro h
    obtain ⟨h1, h2⟩ := h m (by omega)
    show orL (wrL (rmR OU0 fm ad BB sz Ls m) (fm + ad m) (BB m)) (fm + ad m) (sz m) (Ls m) (fm + i) = _
    rw [orL_p, if_neg (show ¬ (fm + ad m ≤ fm + i ∧ fm + i < fm + ad m + sz m) by omega), wrL_p, if_neg (show ¬ (fm + ad m ≤ fm + i ∧ fm + i < fm + ad m + (BB m).length) by omega)]
    exact ih (fun t ht => h t (by omega))
theorem rmR_i {OU0 : Nat → Int32} {fm : Nat} {ad : Nat → Nat} {BB : Nat → List Int32} {sz Ls : Nat → Nat} {i s : Nat} (hi : ad s ≤ i ∧ i < ad s + sz s) : ∀ m : Nat, s < m → (∀ t : Nat, t < m → (BB t).length ≤ sz t ∧ (ad t ≤ i → i < ad t + sz t → t = s)) → rmR OU0 fm ad BB sz Ls m (fm + i) = (if i < ad s + (BB s).length then (BB s).getD (i - ad s) 0 &&& 255 else OU0 (fm + i)) ||| (nI (Ls s) <<< ((8 : Int32) &&& 31)) := fun m => by
  induction m with
  | zero => intro h; exact absurd h (Nat.not_lt_zero _)
  | succ m ih =>
    intro h hu
    obtain ⟨h1, h2⟩ := hu m (by omega)
    show orL (wrL (rmR OU0 fm ad BB sz Ls m) (fm + ad m) (BB m)) (fm + ad m) (sz m) (Ls m) (fm + i) = _
    by_cases y : m = s
    · subst y
      rw [orL_p, if_pos (show fm + ad m ≤ fm + i ∧ fm + i < fm + ad m + sz m by omega), wrL_p, rmR_o m (fun t ht => ⟨(hu t (by omega)).1, fun w => by have := (hu t (by omega)).2 w.1 w.2; omega⟩)]
      congr 1
      by_cases w : i < ad m + (BB m).length
      · rw [if_pos w, if_pos (show fm + ad m ≤ fm + i ∧ fm + i < fm + ad m + (BB m).length by omega), show fm + i - (fm + ad m) = i - ad m by omega]
      · rw [if_neg w, if_neg (show ¬ (fm + ad m ≤ fm + i ∧ fm + i < fm + ad m + (BB m).length) by omega)]
    · have no : ¬ (ad m ≤ i ∧ i < ad m + sz m) := fun w => y (h2 w.1 w.2)
      rw [orL_p, if_neg (show ¬ (fm + ad m ≤ fm + i ∧ fm + i < fm + ad m + sz m) by omega), wrL_p, if_neg (show ¬ (fm + ad m ≤ fm + i ∧ fm + i < fm + ad m + (BB m).length) by omega)]
      exact ih (by omega) (fun t ht => hu t (by omega))
theorem or_8 {z l : Nat} (hz : z < 256) (hl : l < 2 ^ 22) : nI z ||| (nI l <<< ((8 : Int32) &&& 31)) = nI (l * 256 + z) := by
  rw [show ((8 : Int32) &&& 31) = nI 8 from by decide, nm_shl (by omega) (by omega), Int32.or_comm]
  exact nm_orG 8 (show z < 2 ^ 8 from hz) (by omega)
/-- the same byte and the line, at a place that a statement has -/
theorem byte_J {x : Int32} {l : Nat} (hl : l < 2 ^ 22) : ∃ z : Nat, z < 256 ∧ btI x = vp_nar .byte ((nI z).toInt8.toInt32) ∧ (x &&& 255) ||| (nI l <<< ((8 : Int32) &&& 31)) = nI (l * 256 + z) := by
  obtain ⟨z, h1, h2, h3⟩ := byte_m x
  exact ⟨z, h1, h3, by rw [h2]; exact or_8 h1 hl⟩
theorem byte_Z {l : Nat} (hl : l < 2 ^ 22) : vp_nar .byte 0 = vp_nar .byte ((nI 0).toInt8.toInt32) ∧ (0 : Int32) ||| (nI l <<< ((8 : Int32) &&& 31)) = nI (l * 256 + 0) := ⟨by decide, or_8 (z := 0) (by omega) hl⟩
/-- the class: the line of a place -/
theorem ln_34 {n : Nat} {P : St} {cnt i κ : Nat} {pl ln : Nat → Nat} (h5 : sI P 5 = nI cnt) (hc : cnt ≤ 8194) (h2 : ∀ k : Nat, k < cnt → sR P 2 k = nI (pl k) ∧ pl k ≤ 65536 ∧ sR P 3 k = nI (ln k)) (hi : i ≤ 65536) (hκ : κ < cnt) (hp : pl κ ≤ i) (hu : ∀ k : Nat, k < cnt → ¬ k = κ → pl k ≤ i → pl k < pl κ) : ∀ (m x g : Nat) (b : Option Nat), x + m = cnt → m < g → ((b = none ∧ x ≤ κ) ∨ ∃ b' : Nat, b = some b' ∧ b' < x ∧ pl b' ≤ i ∧ (κ < x → b' = κ)) → df_X8_lineOf_34 n g (nI i) (match b with | none => -1 | some b' => nI b') (nI x) P = some (nI (ln κ), P) := fun m => by
  induction m with
  | zero =>
    intro x g b e1 e2 hb
    obtain ⟨g, rfl⟩ : ∃ k : Nat, g = k + 1 := ⟨g - 1, by omega⟩
    rcases hb with ⟨b1, b2⟩ | ⟨b', b1, b2, b3, b4⟩
    · omega
    · have := b4 (by omega)
      subst this
      subst b1
      show dF_X8_lineOf_34 n (df_X8_lineOf_34 n g) (nI i) (nI b') (nI x) P = _
      unfold dF_X8_lineOf_34 df_X8_lineOf_93
      rw [h5, if_pos (zle (show cnt ≤ x by omega) (by omega)), if_pos (show (0 : Int32) ≤ nI b' from zle (a := 0) (Nat.zero_le _) (by omega)), nm_ck (by omega) (by omega), nI_clamp (by omega), (h2 b' hκ).2.2]
  | succ m ih =>
    intro x g b e1 e2 hb
    obtain ⟨g, rfl⟩ : ∃ k : Nat, g = k + 1 := ⟨g - 1, by omega⟩
    obtain ⟨p1, p2, p3⟩ := h2 x (by omega)
    have keep : ∀ b2 : Option Nat, ((b2 = none ∧ x + 1 ≤ κ) ∨ ∃ b' : Nat, b2 = some b' ∧ b' < x + 1 ∧ pl b' ≤ i ∧ (κ < x + 1 → b' = κ)) → df_X8_lineOf_73 n (df_X8_lineOf_34 n g) (nI i) (match b2 with | none => -1 | some b' => nI b') (nI x) P = some (nI (ln κ), P) := fun b2 hb2 => by
      unfold df_X8_lineOf_73
      rw [nb_let, show nI x + Int32.ofInt 1 = nI (x + 1) from nI_add x 1]
      exact ih (x + 1) g b2 (by omega) (by omega) hb2
    show dF_X8_lineOf_34 n (df_X8_lineOf_34 n g) (nI i) _ (nI x) P = _
    unfold dF_X8_lineOf_34 df_X8_lineOf_71
    rw [h5, if_neg (znle (show x < cnt by omega) (by omega)), nm_ck (by omega) (by omega), nI_clamp (by omega), p1]
    by_cases y : i < pl x
    · rw [if_pos (zlt y (by omega))]
      refine keep b ?_
      rcases hb with ⟨b1, b2⟩ | ⟨b', b1, b2, b3, b4⟩
      · refine Or.inl ⟨b1, ?_⟩
        by_cases w : x = κ
        · subst w; omega
        · omega
      · refine Or.inr ⟨b', b1, by omega, b3, fun w => ?_⟩
        by_cases w2 : x = κ
        · subst w2; omega
        · exact b4 (by omega)
    · rw [if_neg (znl (by omega) (by omega))]
      rcases hb with ⟨b1, b2⟩ | ⟨b', b1, b2, b3, b4⟩
      · subst b1
        dsimp only
        rw [if_pos (show (-1 : Int32) < 0 by decide)]
        refine keep (some x) (Or.inr ⟨x, rfl, by omega, by omega, fun w => ?_⟩)
        omega
      · subst b1
        obtain ⟨r1, r2, r3⟩ := h2 b' (by omega)
        dsimp only
        rw [if_neg (show ¬ nI b' < 0 from znl (b := 0) (Nat.zero_le _) (by omega)), nm_ck (by omega) (by omega), nm_ck (by omega) (by omega), nI_clamp (by omega), r1]
        by_cases w : pl x ≤ pl b'
        · rw [if_pos (zle w (by omega))]
          refine keep (some b') (Or.inr ⟨b', rfl, by omega, b3, fun w2 => ?_⟩)
          by_cases w3 : κ < x
          · exact b4 w3
          · have : x = κ := by omega
            subst this
            have := hu b' (by omega) (by omega) b3
            omega
        · rw [if_neg (znle (show pl b' < pl x by omega) (by omega))]
          refine keep (some x) (Or.inr ⟨x, rfl, by omega, by omega, fun w2 => ?_⟩)
          by_cases w3 : x = κ
          · exact w3
          · have w4 := b4 (by omega)
            have := hu x (by omega) w3 (by omega)
            rw [w4] at w
            omega

/-- the entries of a description -/
theorem dsS_s {SW R2 R3 : Nat → Int32} {i : Nat} : ((dsS SW R2 R3 (i + 1)).1 = (dsS SW R2 R3 i).1 ∧ SW (8 * i + 3) ≤ 0) ∨ ((dsS SW R2 R3 (i + 1)).1 = (dsS SW R2 R3 i).1 + 1 ∧ ¬ SW (8 * i + 3) ≤ 0) := by
  by_cases y : SW (8 * i + 3) ≤ 0
  · have e : dsS SW R2 R3 (i + 1) = dsS SW R2 R3 i := if_pos y
    exact Or.inl ⟨by rw [e], y⟩
  · have e : dsS SW R2 R3 (i + 1) = ((dsS SW R2 R3 i).1 + 1, upd (dsS SW R2 R3 i).2.1 (dsS SW R2 R3 i).1 (SW (8 * i + 2)), upd (dsS SW R2 R3 i).2.2 (dsS SW R2 R3 i).1 (SW (8 * i))) := if_neg y
    exact Or.inr ⟨by rw [e], y⟩
theorem ds_e {SW R2 R3 : Nat → Int32} : ∀ (m i : Nat), i < m → ¬ SW (8 * i + 3) ≤ 0 → (dsS SW R2 R3 i).1 < (dsS SW R2 R3 m).1 ∧ (dsS SW R2 R3 m).2.1 (dsS SW R2 R3 i).1 = SW (8 * i + 2) ∧ (dsS SW R2 R3 m).2.2 (dsS SW R2 R3 i).1 = SW (8 * i) := fun m => by
  induction m with
  | zero => intro i h; exact absurd h (Nat.not_lt_zero _)
  | succ m ih =>
    intro i h hi
    by_cases y : SW (8 * m + 3) ≤ 0
    · have e : dsS SW R2 R3 (m + 1) = dsS SW R2 R3 m := if_pos y
      rw [e]
      have : ¬ i = m := fun w => by subst w; exact hi y
      exact ih i (by omega) hi
    · have e : dsS SW R2 R3 (m + 1) = ((dsS SW R2 R3 m).1 + 1, upd (dsS SW R2 R3 m).2.1 (dsS SW R2 R3 m).1 (SW (8 * m + 2)), upd (dsS SW R2 R3 m).2.2 (dsS SW R2 R3 m).1 (SW (8 * m))) := if_neg y
      rw [e]
      by_cases w : i = m
      · subst w
        exact ⟨Nat.lt_succ_self _, up_e, up_e⟩
      · obtain ⟨a1, a2, a3⟩ := ih i (by omega) hi
        refine ⟨Nat.lt_succ_of_lt a1, ?_, ?_⟩
        · exact (up_n (by omega)).trans a2
        · exact (up_n (by omega)).trans a3
/-- where statements lie -/
def inS (ad sz : Nat → Nat) (s i : Nat) : Prop := ad s ≤ i ∧ i < ad s + sz s
theorem cov_1 {Ds : Nat → Dt} {Zs : Nat → Nat} {BY : Nat → Int32} {lv : Nat → Nat} {i : Nat} : ∀ m : Nat, i < (lay Ds Zs BY lv m).1 → ∃ s : Nat, s < m ∧ ¬ Zs s = 1 ∧ (lay Ds Zs BY lv s).1 ≤ i ∧ i < (lay Ds Zs BY lv s).1 + szN (Ds s) (BY s) (lv s) (lay Ds Zs BY lv s).1 := fun m => by
  induction m with
  | zero => intro h; exact absurd h (Nat.not_lt_zero _)
  | succ m ih =>
    intro h
    by_cases y : Zs m = 1
    · have e : lay Ds Zs BY lv (m + 1) = ((lay Ds Zs BY lv m).1, (lay Ds Zs BY lv m).2 + szN (Ds m) (BY m) (lv m) (lay Ds Zs BY lv m).2) := if_pos y
      rw [e] at h
      obtain ⟨s, h1, h2⟩ := ih h
      exact ⟨s, by omega, h2⟩
    · have e : lay Ds Zs BY lv (m + 1) = ((lay Ds Zs BY lv m).1 + szN (Ds m) (BY m) (lv m) (lay Ds Zs BY lv m).1, (lay Ds Zs BY lv m).2) := if_neg y
      rw [e] at h
      have h : i < (lay Ds Zs BY lv m).1 + szN (Ds m) (BY m) (lv m) (lay Ds Zs BY lv m).1 := h
      by_cases w : i < (lay Ds Zs BY lv m).1
      · obtain ⟨s, h1, h2⟩ := ih w
        exact ⟨s, by omega, h2⟩
      · exact ⟨m, by omega, y, by omega, h⟩
theorem cov_2 {Ds : Nat → Dt} {Zs : Nat → Nat} {BY : Nat → Int32} {lv : Nat → Nat} {i : Nat} : ∀ m : Nat, i < (lay Ds Zs BY lv m).2 → ∃ s : Nat, s < m ∧ Zs s = 1 ∧ (lay Ds Zs BY lv s).2 ≤ i ∧ i < (lay Ds Zs BY lv s).2 + szN (Ds s) (BY s) (lv s) (lay Ds Zs BY lv s).2 := fun m => by
  induction m with
  | zero => intro h; exact absurd h (Nat.not_lt_zero _)
  | succ m ih =>
    intro h
    by_cases y : Zs m = 1
    · have e : lay Ds Zs BY lv (m + 1) = ((lay Ds Zs BY lv m).1, (lay Ds Zs BY lv m).2 + szN (Ds m) (BY m) (lv m) (lay Ds Zs BY lv m).2) := if_pos y
      rw [e] at h
      have h : i < (lay Ds Zs BY lv m).2 + szN (Ds m) (BY m) (lv m) (lay Ds Zs BY lv m).2 := h
      by_cases w : i < (lay Ds Zs BY lv m).2
      · obtain ⟨s, h1, h2⟩ := ih w
        exact ⟨s, by omega, h2⟩
      · exact ⟨m, by omega, y, by omega, h⟩
    · have e : lay Ds Zs BY lv (m + 1) = ((lay Ds Zs BY lv m).1 + szN (Ds m) (BY m) (lv m) (lay Ds Zs BY lv m).1, (lay Ds Zs BY lv m).2) := if_neg y
      rw [e] at h
      obtain ⟨s, h1, h2⟩ := ih h
      exact ⟨s, by omega, h2⟩
theorem bsN_l (t : Nat) : t ≤ bsN t := by unfold bsN; omega
/-- all that is to be known of where statements lie -/
theorem lie {Ds : Nat → Dt} {Zs : Nat → Nat} {BY : Nat → Int32} {lv : Nat → Nat} {nS : Nat} {ad sz : Nat → Nat} (had : ∀ s : Nat, s < nS → ad s = adN Zs (ofs Ds Zs BY lv) (lay Ds Zs BY lv nS).1 s ∧ sz s = szN (Ds s) (BY s) (lv s) (ofs Ds Zs BY lv s)) : (∀ s i : Nat, s < nS → inS ad sz s i → (i < (lay Ds Zs BY lv nS).1 ∨ bsN (lay Ds Zs BY lv nS).1 ≤ i)) ∧ (∀ s t i : Nat, s < nS → t < nS → inS ad sz s i → inS ad sz t i → s = t) ∧ (∀ i : Nat, i < szA (lay Ds Zs BY lv nS) → (i < (lay Ds Zs BY lv nS).1 ∨ bsN (lay Ds Zs BY lv nS).1 ≤ i) → ∃ s : Nat, s < nS ∧ inS ad sz s i) := by
  have hb := bsN_l (lay Ds Zs BY lv nS).1
  have tx : ∀ s t : Nat, s < t → t ≤ nS → ¬ Zs s = 1 → ad s = (lay Ds Zs BY lv s).1 ∧ sz s = szN (Ds s) (BY s) (lv s) (lay Ds Zs BY lv s).1 ∧ ad s + sz s ≤ (lay Ds Zs BY lv t).1 := fun s t h1 h2 h3 => by
    obtain ⟨e1, e2⟩ := had s (by omega)
    have e : lay Ds Zs BY lv (s + 1) = ((lay Ds Zs BY lv s).1 + szN (Ds s) (BY s) (lv s) (lay Ds Zs BY lv s).1, (lay Ds Zs BY lv s).2) := if_neg h3
    have h4 := (lay_m (Ds := Ds) (Zs := Zs) (BY := BY) (lv := lv) (t - (s + 1)) (s + 1)).1
    rw [show s + 1 + (t - (s + 1)) = t by omega, e] at h4
    have h4 : (lay Ds Zs BY lv s).1 + szN (Ds s) (BY s) (lv s) (lay Ds Zs BY lv s).1 ≤ (lay Ds Zs BY lv t).1 := h4
    unfold adN ofs at e1
    unfold ofs at e2
    rw [if_neg h3, if_neg h3] at e1
    rw [if_neg h3] at e2
    exact ⟨by omega, e2, by omega⟩
  have dx : ∀ s t : Nat, s < t → t ≤ nS → Zs s = 1 → ad s = bsN (lay Ds Zs BY lv nS).1 + (lay Ds Zs BY lv s).2 ∧ sz s = szN (Ds s) (BY s) (lv s) (lay Ds Zs BY lv s).2 ∧ ad s + sz s ≤ bsN (lay Ds Zs BY lv nS).1 + (lay Ds Zs BY lv t).2 := fun s t h1 h2 h3 => by
    obtain ⟨e1, e2⟩ := had s (by omega)
    have e : lay Ds Zs BY lv (s + 1) = ((lay Ds Zs BY lv s).1, (lay Ds Zs BY lv s).2 + szN (Ds s) (BY s) (lv s) (lay Ds Zs BY lv s).2) := if_pos h3
    have h4 := (lay_m (Ds := Ds) (Zs := Zs) (BY := BY) (lv := lv) (t - (s + 1)) (s + 1)).2
    rw [show s + 1 + (t - (s + 1)) = t by omega, e] at h4
    have h4 : (lay Ds Zs BY lv s).2 + szN (Ds s) (BY s) (lv s) (lay Ds Zs BY lv s).2 ≤ (lay Ds Zs BY lv t).2 := h4
    unfold adN ofs at e1
    unfold ofs at e2
    rw [if_pos h3, if_pos h3] at e1
    rw [if_pos h3] at e2
    exact ⟨by omega, e2, by omega⟩
  have two : ∀ s t i : Nat, s < t → t < nS → inS ad sz s i → inS ad sz t i → False := fun s t i h1 h2 h3 h4 => by
    unfold inS at h3 h4
    by_cases y : Zs s = 1
    · obtain ⟨a1, a2, a3⟩ := dx s t h1 (by omega) y
      by_cases z : Zs t = 1
      · obtain ⟨b1, b2, b3⟩ := dx t nS h2 (by omega) z
        omega
      · obtain ⟨b1, b2, b3⟩ := tx t nS h2 (by omega) z
        omega
    · obtain ⟨a1, a2, a3⟩ := tx s t h1 (by omega) y
      by_cases z : Zs t = 1
      · obtain ⟨b1, b2, b3⟩ := dx t nS h2 (by omega) z
        obtain ⟨c1, c2, c3⟩ := tx s nS (by omega) (by omega) y
        omega
      · obtain ⟨b1, b2, b3⟩ := tx t nS h2 (by omega) z
        omega
  refine ⟨fun s i hs h => ?_, fun s t i hs ht h1 h2 => ?_, fun i hi hr => ?_⟩
  · unfold inS at h
    by_cases y : Zs s = 1
    · obtain ⟨a1, a2, a3⟩ := dx s nS hs (Nat.le_refl _) y
      right; omega
    · obtain ⟨a1, a2, a3⟩ := tx s nS hs (Nat.le_refl _) y
      left; omega
  · rcases Nat.lt_trichotomy s t with w | w | w
    · exact absurd (two s t i w ht h1 h2) id
    · exact w
    · exact absurd (two t s i w hs h2 h1) id
  · rcases hr with hr | hr
    · obtain ⟨s, s1, s2, s3, s4⟩ := cov_1 nS hr
      obtain ⟨a1, a2, a3⟩ := tx s nS s1 (Nat.le_refl _) s2
      exact ⟨s, s1, by omega, by omega⟩
    · have hd : i - bsN (lay Ds Zs BY lv nS).1 < (lay Ds Zs BY lv nS).2 := by
        unfold szA at hi
        by_cases w : (lay Ds Zs BY lv nS).2 = 0
        · rw [if_pos w] at hi
          omega
        · rw [if_neg w] at hi
          omega
      obtain ⟨s, s1, s2, s3, s4⟩ := cov_2 nS hd
      obtain ⟨a1, a2, a3⟩ := dx s nS s1 (Nat.le_refl _) s2
      exact ⟨s, s1, by omega, by omega⟩

/-- bytes and lines of a program, in both -/
theorem PG_J {Ds : Nat → Dt} {Zs : Nat → Nat} {BY : Nat → Int32} {lv : Nat → Nat} {nS : Nat} {ad sz Ls : Nat → Nat} (had : ∀ s : Nat, s < nS → ad s = adN Zs (ofs Ds Zs BY lv) (lay Ds Zs BY lv nS).1 s ∧ sz s = szN (Ds s) (BY s) (lv s) (ofs Ds Zs BY lv s)) (hsz : szA (lay Ds Zs BY lv nS) ≤ 32768) {sn : Nat} (hsn : sn ≤ 8194) {sg : Nat → Nat} {SW R2 R3 : Nat → Int32} (rows : ∀ i : Nat, i < sn → SW (8 * i + 2) = nI (ad (sg i)) ∧ SW (8 * i + 3) = nI (sz (sg i)) ∧ SW (8 * i) = nI (Ls (sg i)) ∧ sg i < nS ∧ mu Ds (sg i) = i) (hrow : ∀ s : Nat, s < nS → 0 < sz s → mu Ds s < sn ∧ sg (mu Ds s) = s) (hLs : ∀ s : Nat, s < nS → Ls s ≤ 40000) {BB : Nat → List Int32} (hBB : ∀ s : Nat, s < nS → (BB s).length ≤ sz s ∧ ad s + sz s ≤ 32768) {P : St} {g0 : Nat → Int32} (p0 : sI P 0 = nI (lay Ds Zs BY lv nS).1) (p1 : sI P 1 = nI (bsN (lay Ds Zs BY lv nS).1)) (p2 : sI P 2 = nI (szA (lay Ds Zs BY lv nS))) (p5 : sI P 5 = nI (dsS SW R2 R3 sn).1) (r2 : sR P 2 = (dsS SW R2 R3 sn).2.1) (r3 : sR P 3 = (dsS SW R2 R3 sn).2.2) (r0 : sR P 0 = imC (nd_fl 32768 (vp_nar .byte 0) g0) ad BB nS) (fm : Nat) (OU : Nat → Int32) : ∀ i : Nat, i < szA (lay Ds Zs BY lv nS) → ∃ z l : Nat, z < 256 ∧ l < 2 ^ 22 ∧ sR P 0 i = vp_nar .byte ((nI z).toInt8.toInt32) ∧ rmR (zrL OU fm (szA (lay Ds Zs BY lv nS))) fm ad BB sz Ls nS (fm + i) = nI (l * 256 + z) ∧ ∀ n : Nat, 40000 < n → df_X8_lineOf n (nI i) P = some (nI l, P) := fun i hi => by
  obtain ⟨L1, L2, L3⟩ := lie had
  have hb := bsN_l (lay Ds Zs BY lv nS).1
  have tz : (lay Ds Zs BY lv nS).1 ≤ szA (lay Ds Zs BY lv nS) := by
    unfold szA
    split <;> omega
  have bz : bsN (lay Ds Zs BY lv nS).1 ≤ 33792 := by
    unfold bsN
    omega
  have f00 : nd_fl 32768 (vp_nar .byte 0) g0 i = vp_nar .byte 0 := if_pos (by omega)
  have z00 : zrL OU fm (szA (lay Ds Zs BY lv nS)) (fm + i) = 0 := if_pos (by omega)
  have hcn := dsS_l (SW := SW) (R2 := R2) (R3 := R3) sn
  by_cases gap : i < (lay Ds Zs BY lv nS).1 ∨ bsN (lay Ds Zs BY lv nS).1 ≤ i
  · obtain ⟨s, hs, hin⟩ := L3 i hi gap
    have hin' : ad s ≤ i ∧ i < ad s + sz s := hin
    have ls1 := hLs s hs
    have uq : ∀ t : Nat, t < nS → ad t ≤ i → i < ad t + sz t → t = s := fun t ht h1 h2 => L2 t s i ht hs ⟨h1, h2⟩ hin
    have eC : sR P 0 i = if ad s ≤ i ∧ i < ad s + (BB s).length then btI ((BB s).getD (i - ad s) 0) else vp_nar .byte 0 := by
      rw [r0, imC_i nS hs (fun t ht h1 h2 => uq t ht h1 (by have := (hBB t ht).1; omega)), f00]
    have eR := rmR_i (OU0 := zrL OU fm (szA (lay Ds Zs BY lv nS))) (fm := fm) (Ls := Ls) hin' nS hs (fun t ht => ⟨(hBB t ht).1, uq t ht⟩)
    rw [z00] at eR
    have lin : ∀ n : Nat, 40000 < n → df_X8_lineOf n (nI i) P = some (nI (Ls s), P) := fun n hn => by
      obtain ⟨m1, m2⟩ := hrow s hs (by omega)
      obtain ⟨q2, q3, q0, q4, q5⟩ := rows (mu Ds s) m1
      rw [m2] at q2 q3 q0
      have pos : ¬ SW (8 * mu Ds s + 3) ≤ 0 := by
        rw [q3]
        exact znle (b := 0) (by omega) (by have := (hBB s hs).2; omega)
      obtain ⟨k1, k2, k3⟩ := ds_e (SW := SW) (R2 := R2) (R3 := R3) sn (mu Ds s) m1 pos
      obtain ⟨e, he⟩ := inv_ex (fun i => (dsS SW R2 R3 i).1) (fun i => by rcases dsS_s (SW := SW) (R2 := R2) (R3 := R3) (i := i) with w | w; exact Or.inl w.1; exact Or.inr w.1) rfl sn
      have ent : ∀ k : Nat, k < (dsS SW R2 R3 sn).1 → e k < sn ∧ (dsS SW R2 R3 (e k)).1 = k ∧ ¬ SW (8 * e k + 3) ≤ 0 := fun k hk => by
        obtain ⟨g1, g2, g3⟩ := he k hk
        have g2 : (dsS SW R2 R3 (e k)).1 = k := g2
        have g3 : (dsS SW R2 R3 (e k + 1)).1 = k + 1 := g3
        refine ⟨g1, g2, ?_⟩
        rcases dsS_s (SW := SW) (R2 := R2) (R3 := R3) (i := e k) with w | w
        · omega
        · exact w.2
      have rw1 : ∀ k : Nat, k < (dsS SW R2 R3 sn).1 → sR P 2 k = nI (ad (sg (e k))) ∧ ad (sg (e k)) ≤ 65536 ∧ sR P 3 k = nI (Ls (sg (e k))) := fun k hk => by
        obtain ⟨g1, g2, g3⟩ := ent k hk
        obtain ⟨j1, j2, j3⟩ := ds_e (SW := SW) (R2 := R2) (R3 := R3) sn (e k) g1 g3
        rw [g2] at j2 j3
        obtain ⟨v2, v3, v0, v4, v5⟩ := rows (e k) g1
        rw [r2, r3, j2, j3, v2, v0]
        exact ⟨rfl, by have := (hBB (sg (e k)) v4).2; omega, rfl⟩
      have pk : ad (sg (e (dsS SW R2 R3 (mu Ds s)).1)) = ad s := by
        obtain ⟨w1, w2, w3⟩ := rw1 _ k1
        rw [r2, k2, q2] at w1
        exact ((nI_eq (by have := (hBB s hs).2; omega) (by omega)).mp w1).symm
      have lk : nI (Ls (sg (e (dsS SW R2 R3 (mu Ds s)).1))) = nI (Ls s) := by
        obtain ⟨w1, w2, w3⟩ := rw1 _ k1
        rw [r3, k3, q0] at w3
        exact w3.symm
      have l34 := ln_34 (n := n) (P := P) (cnt := (dsS SW R2 R3 sn).1) (i := i) (κ := (dsS SW R2 R3 (mu Ds s)).1) (pl := fun k => ad (sg (e k))) (ln := fun k => Ls (sg (e k))) p5 (by omega) rw1 (by omega) k1 (by show ad (sg (e _)) ≤ i; rw [pk]; exact hin'.1) (fun k hk hne hle => by
        show ad (sg (e k)) < ad (sg (e _))
        rw [pk]
        have hle : ad (sg (e k)) ≤ i := hle
        refine Nat.lt_of_not_le (fun w => hne ?_)
        obtain ⟨g1, g2, g3⟩ := ent k hk
        obtain ⟨v2, v3, v0, v4, v5⟩ := rows (e k) g1
        have spos : 0 < sz (sg (e k)) := by
          refine Nat.pos_of_ne_zero (fun w0 => g3 ?_)
          rw [v3, w0]
          decide
        have same := L2 (sg (e k)) s (ad (sg (e k))) v4 hs ⟨Nat.le_refl _, by omega⟩ ⟨w, by omega⟩
        rw [same] at v5
        rw [← g2, v5]) (dsS SW R2 R3 sn).1 0 n none (by omega) (by omega) (Or.inl ⟨rfl, Nat.zero_le _⟩)
      have l34 : df_X8_lineOf_34 n n (nI i) (-1) 0 P = some (nI (Ls s), P) := l34.trans (by rw [lk])
      unfold df_X8_lineOf df_X8_lineOf_0 df_X8_lineOf_30
      rw [if_neg (show ¬ nI i < 0 from znl (b := 0) (Nat.zero_le _) (by omega)), p2, if_neg (znle hi (by omega)), p0]
      rcases gap with w | w
      · rw [if_pos (zlt w (by omega))]
        exact l34
      · rw [if_neg (znl (show (lay Ds Zs BY lv nS).1 ≤ i by omega) (by omega)), p1, if_pos (zle w (by omega))]
        exact l34
    by_cases y : i < ad s + (BB s).length
    · obtain ⟨z, z1, z2, z3⟩ := byte_J (x := (BB s).getD (i - ad s) 0) (l := Ls s) (by omega)
      rw [if_pos y, z3] at eR
      rw [if_pos ⟨hin'.1, y⟩, z2] at eC
      exact ⟨z, Ls s, z1, by omega, eC, eR, lin⟩
    · obtain ⟨z2, z3⟩ := byte_Z (l := Ls s) (by omega)
      rw [if_neg y, z3] at eR
      rw [if_neg (fun w => y w.2), z2] at eC
      exact ⟨0, Ls s, by omega, by omega, eC, eR, lin⟩
  · have no : ∀ t : Nat, t < nS → ¬ (ad t ≤ i ∧ i < ad t + sz t) := fun t ht w => gap (L1 t i ht w)
    have eC : sR P 0 i = vp_nar .byte 0 := by
      rw [r0, imC_o nS (fun t ht w => no t ht ⟨w.1, by have := (hBB t ht).1; omega⟩), f00]
    have eR : rmR (zrL OU fm (szA (lay Ds Zs BY lv nS))) fm ad BB sz Ls nS (fm + i) = 0 := (rmR_o nS (fun t ht => ⟨(hBB t ht).1, no t ht⟩)).trans z00
    refine ⟨0, 0, by omega, by omega, eC.trans (by decide), eR, fun n hn => ?_⟩
    unfold df_X8_lineOf df_X8_lineOf_0 df_X8_lineOf_28
    rw [if_neg (show ¬ nI i < 0 from znl (b := 0) (Nat.zero_le _) (by omega)), p2, if_neg (znle hi (by omega)), p0, if_neg (znl (show (lay Ds Zs BY lv nS).1 ≤ i by omega) (by omega)), p1, if_neg (znle (show i < bsN (lay Ds Zs BY lv nS).1 by omega) (by omega))]
    rfl

theorem rmR_x {OU0 : Nat → Int32} {fm : Nat} {ad : Nat → Nat} {BB : Nat → List Int32} {sz Ls : Nat → Nat} {j : Nat} (hj : j < fm ∨ fm + 32768 ≤ j) : ∀ m : Nat, (∀ t : Nat, t < m → (BB t).length ≤ sz t ∧ ad t + sz t ≤ 32768) → rmR OU0 fm ad BB sz Ls m j = OU0 j := fun m => by
  induction m with
  | zero => intro _; rfl
  | succ m ih =>
    intro h
    obtain ⟨h1, h2⟩ := h m (by omega)
    show orL (wrL (rmR OU0 fm ad BB sz Ls m) (fm + ad m) (BB m)) (fm + ad m) (sz m) (Ls m) j = _
    rw [orL_p, if_neg (show ¬ (fm + ad m ≤ j ∧ j < fm + ad m + sz m) by omega), wrL_p, if_neg (show ¬ (fm + ad m ≤ j ∧ j < fm + ad m + (BB m).length) by omega)]
    exact ih (fun t ht => h t (by omega))
/-- both have assembled: the program that was made -/
def ASG (n L : Nat) (c : Nat → Nat) (M U P T : St) (rc : Option (Int32 × (St × (St × St) × St))) (rr : Option (Int32 × (St × St))) : Prop := ∃ (p : Nat) (Bz B0 : St) (sn lu ln se co : Nat) (SW0 LW : Nat → Int32) (cs ns : Nat) (C A NM BK : Nat → Int32) (bs ws : Nat → Nat) (nl : Nat) (NR LB0 : Nat → Int32) (sc X : Nat → Nat) (nL nS : Nat) (PAz BY : Nat → Int32) (Ds : Nat → Dt) (Qs Es Zs Ls Fs N0 : Nat → Nat) (NP : Nat → Nat → Int32) (lv sg : Nat → Nat) (Q1 U1 S1 : St) (W : Nat → Int32) (Q2 U2 P2 S2 : St), READ n L c p Bz sn lu ln se co SW0 LW cs ns C A NM BK bs ws nl NR LB0 sc X nL nS PAz BY Ds Qs Es Zs Ls Fs N0 NP ∧ L ≤ p ∧ p ≤ L + 1 ∧ TXT n L c B0 ∧ lvK Ds Fs lv nS ∧ ((∀ i : Nat, i < mu Ds nS → sg i < nS ∧ mu Ds (sg i) = i ∧ ¬ (Ds (sg i)).1 = 9) ∧ sg (mu Ds nS) = nS) ∧ LD n L c Bz sn SW0 cs ns C A NM nl NR LB0 X nL nS BY Ds Qs Zs Fs N0 sg lv Q1 U1 S1 ∧ szA (lay Ds Zs BY lv nS) ≤ 32768 ∧ rc = some (0, (M, ((Q2, U2), P2))) ∧ rr = some (0, (T, pI S2 1 1)) ∧ sO U2 = sO U ∧ sR U2 7 = sR U 7 ∧ sR U2 6 = sR U1 6 ∧ sI P2 0 = nI (lay Ds Zs BY lv nS).1 ∧ sI P2 1 = nI (bsN (lay Ds Zs BY lv nS).1) ∧ sI P2 2 = nI (szA (lay Ds Zs BY lv nS)) ∧ sI P2 3 = nI co ∧ sI P2 4 = nI (lcS (sR U1 6) (sR P 1) nl).1 ∧ sR P2 1 = (lcS (sR U1 6) (sR P 1) nl).2 ∧ P2.2.1 = P.2.1 ∧ P2.2.2.2 = P.2.2.2 ∧ (∀ k : Nat, k < nL → X k / 131072 = 2 → W k = sR Bz 7 k) ∧ (∀ k : Nat, k < nL → ¬ X k / 131072 = 2 → W k = nI (labV X (lay Ds Zs BY lv) N0 nS k)) ∧ (∀ k : Nat, k < nL → ¬ X k / 131072 = 2 → sR U1 6 (5 * lam X k + 2) = vlO (nI (lay Ds Zs BY lv nS).1) X W k) ∧ (∃ (B' : St) (ct ap : Nat) (gr : Bool) (PA OU OF : Nat → Int32), RBd L c X nL nS (lay Ds Zs BY lv nS).1 OF W B' ∧ sI B' 5 = nI (lay Ds Zs BY lv nS).2 ∧ SR B' ct gr PA BY OU 0 ap S2) ∧ ∀ fm : Nat, fm ≤ 98304 → ∃ (B3 S3 : St) (ct ap : Nat) (gr : Bool) (PA OU OF : Nat → Int32), df_X13_put_ n (nI fm) (pI S2 1 1) = some S3 ∧ RBd L c X nL nS (lay Ds Zs BY lv nS).1 OF W B3 ∧ sI B3 1 = 1 ∧ sI B3 5 = nI (lay Ds Zs BY lv nS).2 ∧ SR B3 ct gr PA BY OU 0 ap S3 ∧ (∀ i : Nat, i < szA (lay Ds Zs BY lv nS) → ∃ z l : Nat, z < 256 ∧ l < 2 ^ 22 ∧ sR P2 0 i = vp_nar .byte ((nI z).toInt8.toInt32) ∧ sR S3 9 (fm + i) = nI (l * 256 + z) ∧ ∀ n : Nat, 40000 < n → df_X8_lineOf n (nI i) P2 = some (nI l, P2)) ∧ (∀ j : Nat, j < fm ∨ fm + 32768 ≤ j → sR S3 9 j = sR S2 9 j)
theorem AS_J {n L : Nat} {c : Nat → Nat} {M U P T : St} {rc : Option (Int32 × (St × (St × St) × St))} {rr : Option (Int32 × (St × St))} (h : ASUC n L c M U P T rc rr) : ASG n L c M U P T rc rr := by
  obtain ⟨p, Bz, B0, sn, lu, ln, se, co, SW0, LW, cs, ns, C, A, NM, BK, bs, ws, nl, NR, LB0, sc, X, nL, nS, PAz, BY, Ds, Qs, Es, Zs, Ls, Fs, N0, NP, lv, sg, Q1, U1, S1, rcx, hR, hp0, hp1, hX, hlv, hsg, hD, g1, g2, g6, o1, o2, big, eC, hK⟩ := h
  obtain ⟨W, OF, PA, OU, B', S', U', v', ct, ap, gr, k1, k2, k3, k4, k5, k6, k7, k8, k9, k10, k11, k12, k13, k14, k15⟩ := hK
  have hL := hX.2.1
  have hn := hX.1
  obtain ⟨hZ, hl2⟩ := RD_Z hR (by omega) hlv
  obtain ⟨a1, a2, a3, a4, a5, a6, a7, a8, a9, a10, a11, a12, a13, a14, a15, a16, a17, a18, a19⟩ := id hR
  obtain ⟨t1, t2, t3, t4, t5, t6, t7, t8, t9, t10⟩ := a1
  obtain ⟨hRef, q0, q1, q3, hU, u6, q7, q8, q9⟩ := id hD
  obtain ⟨sg1, sg2⟩ := id hsg
  have hmu := mu_l Ds nS
  have hlm := lam_le X nL
  have layb := lay_l (Ds := Ds) (Zs := Zs) (BY := BY) (lv := lv) (Fs := Fs) nS hZ
  have hstr : ∀ s : Nat, s < nS → STr n L c X nL (sR Bz 7) SW0 LW C A ns bs ws cs lu (mu Ds s) (PAz s) (BY s) (Ds s) (Qs s) (Es s) (Zs s) (Ls s) (Fs s) (N0 s) (NP s) := fun s hs => (a15 s hs).1
  have e9 : sI Q1 9 = nI (szA (lay Ds Zs BY lv nS)) := by
    rw [q9]
    exact szA_n (by omega)
  have u9 : sI U' 9 = nI nl := k2.2.1
  have ur6 : sR U' 6 = sR U1 6 := k2.2.2.2.2.2.2.1
  obtain ⟨P2, d1, d2⟩ := dsC (n := n) (nl := nl) (sn := sn) (M := M) (Q := pI Q1 3 v') (U := U') (P := pR P 0 (imC (nd_fl 32768 (vp_nar .byte 0) (sR P 0)) (adN Zs (ofs Ds Zs BY lv) (lay Ds Zs BY lv nS).1) (stB c X nL nS BY Ds Qs Es Zs lv W) nS)) hn q0 (by omega) u9 (by omega)
  obtain ⟨m5, m2, m3, m4, m1, mI, mR, mx, my⟩ := d2
  rw [ur6] at m4 m1
  have eRc : rc = some (0, (M, ((pI Q1 3 v', U'), P2))) := by
    rw [eC, k1, nb_b1]
    unfold df_X1_make_118 df_X1_make_130 df_X1_make_153
    rw [if_pos (show sI ((M, ((pI Q1 3 v', U'), pR P 0 (imC (nd_fl 32768 (vp_nar .byte 0) (sR P 0)) (adN Zs (ofs Ds Zs BY lv) (lay Ds Zs BY lv nS).1) (stB c X nL nS BY Ds Qs Es Zs lv W) nS))) : St × (St × St) × St).2.1.1 2 = 0 from g2), d1, nb_b1, if_pos (show sI ((M, ((pI Q1 3 v', U'), P2)) : St × (St × St) × St).2.1.1 2 = 0 from g2)]
  have hsz0 : ∀ s : Nat, s < nS → 0 < szN (Ds s) (BY s) (lv s) (ofs Ds Zs BY lv s) → mu Ds s < sn ∧ sg (mu Ds s) = s := fun s hs hpos => by
    have h9 : ¬ (Ds s).1 = 9 := fun w => by
      have := (sz_1 (hZ s hs) (ofs Ds Zs BY lv s)).2.1 w
      omega
    have m1 := mu_i (Ds := Ds) hs h9
    have hlt : mu Ds s < sn := by omega
    refine ⟨hlt, ?_⟩
    obtain ⟨w1, w2, w3⟩ := sg1 (mu Ds s) (by omega)
    rcases Nat.lt_trichotomy (sg (mu Ds s)) s with w | w | w
    · have := mu_i (Ds := Ds) w w3; omega
    · exact w
    · have := mu_i (Ds := Ds) w h9; omega
  have hrows : ∀ i : Nat, i < sn → sR Q1 0 (8 * i + 2) = nI (adN Zs (ofs Ds Zs BY lv) (lay Ds Zs BY lv nS).1 (sg i)) ∧ sR Q1 0 (8 * i + 3) = nI (szN (Ds (sg i)) (BY (sg i)) (lv (sg i)) (ofs Ds Zs BY lv (sg i))) ∧ sR Q1 0 (8 * i) = nI (Ls (sg i)) ∧ sg i < nS ∧ mu Ds (sg i) = i := fun i hi => by
    obtain ⟨w1, w2, w3⟩ := sg1 i (by omega)
    refine ⟨(q3 i hi).1, (q3 i hi).2, ?_, w1, w2⟩
    obtain ⟨c1, c2, c3, c4, c5, c6, c6', c7, c8, c9, c10, c11, c12, c13⟩ := hstr (sg i) w1
    rcases c13 with z | ⟨z, le, b, cd, lt, s0, s1, u0, u1, r1, r2⟩
    · exact absurd z.1 w3
    · rw [w2, Nat.mul_comm i 8] at r1
      exact (q1 i 0 hi (by omega) (by omega) (by omega)).trans r1
  have hLs : ∀ s : Nat, s < nS → Ls s ≤ 40000 := fun s hs => by
    obtain ⟨c1, c2, c3, c4, c5, c6, c6', c7, c8⟩ := hstr s hs
    have := nlC_l c (Qs s)
    omega
  have hBB : ∀ s : Nat, s < nS → (stB c X nL nS BY Ds Qs Es Zs lv W s).length ≤ szN (Ds s) (BY s) (lv s) (ofs Ds Zs BY lv s) ∧ adN Zs (ofs Ds Zs BY lv) (lay Ds Zs BY lv nS).1 s + szN (Ds s) (BY s) (lv s) (ofs Ds Zs BY lv s) ≤ 32768 := fun s hs => by
    refine ⟨?_, ad_ok hs big⟩
    unfold stB
    rw [sB_l]
    exact sZ_le (hstr s hs) (by omega) (hZ s hs) _
  have p0 : sI P2 0 = nI (lay Ds Zs BY lv nS).1 := (mI 0 (by decide) (by decide)).trans q7
  have p1 : sI P2 1 = nI (bsN (lay Ds Zs BY lv nS).1) := (mI 1 (by decide) (by decide)).trans q8
  have p2 : sI P2 2 = nI (szA (lay Ds Zs BY lv nS)) := (mI 2 (by decide) (by decide)).trans e9
  have p3 : sI P2 3 = nI co := (mI 3 (by decide) (by decide)).trans g6
  have hsz : szA ((lay Ds Zs BY lv nS).1, (lay Ds Zs BY lv nS).2) ≤ 32768 := big
  refine ⟨p, Bz, B0, sn, lu, ln, se, co, SW0, LW, cs, ns, C, A, NM, BK, bs, ws, nl, NR, LB0, sc, X, nL, nS, PAz, BY, Ds, Qs, Es, Zs, Ls, Fs, N0, NP, lv, sg, Q1, U1, S1, W, pI Q1 3 v', U', P2, S', hR, hp0, hp1, hX, hlv, hsg, hD, big, eRc, k5, k3.trans o1, k4.trans o2, ur6, p0, p1, p2, p3, m4, m1, mx, my, k11, k12, k13, ⟨B', ct, ap, gr, PA, OU, OF, k6, k7, k8⟩, fun fm hfm => ?_⟩
  have hB1 : RBd L c X nL nS (lay Ds Zs BY lv nS).1 OF W (pI B' 1 1) := k6
  obtain ⟨B3, S3, ct3, ap3, gr3, w1, w2, w3, w4, w5⟩ := wr_J (n := n) hX (X := X) (nL := nL) (nS := nS) (Tz := (lay Ds Zs BY lv nS).1) (dz := (lay Ds Zs BY lv nS).2) (OF := OF) (W := W) ⟨by omega, fun k hk => ⟨(t7 k hk).2.1, by have := (t7 k hk).1; omega, (t7 k hk).2.2⟩⟩ (BY := BY) (PA := PA) (Ds := Ds) (Qs := Qs) (Es := Es) (Zs := Zs) (Fs := Fs) (N0 := N0) (AA := AAl Zs Fs lv) (of := ofs Ds Zs BY lv) (lv := lv) (Ls := Ls) (ad := adN Zs (ofs Ds Zs BY lv) (lay Ds Zs BY lv nS).1) (sz := fun s => szN (Ds s) (BY s) (lv s) (ofs Ds Zs BY lv s)) (BB := stB c X nL nS BY Ds Qs Es Zs lv W) (fm := fm) hfm (by omega) (by omega) (fun s hs => by
    obtain ⟨c1, c2, c3, c4, c5, c6, c6', c7, c8⟩ := hstr s hs
    obtain ⟨y1, y2, y3, y4⟩ := AAl_1 (Zs := Zs) (Fs := Fs) (lv := lv) c2 c3 (hl2 s hs)
    exact ⟨k15 s hs, k9 s hs, k10 s hs, c7, y3, hZ s hs, rfl, rfl, sZ_le (hstr s hs) (by omega) (hZ s hs) _, (hBB s hs).2, rfl, (a15 s hs).2.2⟩) (B := pI B' 1 1) (S := pI S' 1 1) (OU := OU) hB1 rfl k7 hsz (SR_p1 k8 1)
  have hPG := PG_J (ad := adN Zs (ofs Ds Zs BY lv) (lay Ds Zs BY lv nS).1) (sz := fun s => szN (Ds s) (BY s) (lv s) (ofs Ds Zs BY lv s)) (Ls := Ls) (fun s hs => ⟨rfl, rfl⟩) big (sn := sn) (by omega) (sg := sg) (SW := sR Q1 0) hrows hsz0 hLs (BB := stB c X nL nS BY Ds Qs Es Zs lv W) hBB (P := P2) (g0 := sR P 0) p0 p1 p2 m5 m2 m3 ((mR 0 (by decide) (by decide) (by decide)).trans pR_e) fm OU
  refine ⟨B3, S3, ct3, ap3, gr3, PA, _, OF, w1, w2, w4, w5, w3, fun i hi => ?_, fun j hj => ?_⟩
  · obtain ⟨z, l, y1, y2, y3, y4, y5⟩ := hPG i hi
    exact ⟨z, l, y1, y2, y3, by rw [SR_r9 w3]; exact y4, y5⟩
  · rw [SR_r9 w3, SR_r9 k8, rmR_x hj nS (fun t ht => hBB t ht)]
    exact if_neg (by omega)

/-- both states at the start of a text -/
theorem uC_eq {U : St} {ap kd fr e0 cs tp st ns nl : Nat} {fx : Bool} (h0 : sI U 0 = nI ap) (h1 : sI U 1 = nI e0) (h2 : sI U 2 = nI kd) (h3 : sI U 3 = nI fr) (h5 : sI U 5 = nI cs) (h6 : sI U 6 = nI tp) (h7 : sI U 7 = nI st) (h8 : sI U 8 = nI ns) (h9 : sI U 9 = nI nl) (h10 : sI U 10 = bI fx) : U = uC (xC (bC U e0 nl (sR U 5) (sR U 6)) cs tp st ns fx (sR U 0) (sR U 1) (sR U 2) (sR U 3) (sR U 4)) ap kd fr (sI U 4) := Prod.ext (funext fun j => by
  show U.1 j = if j = 0 then nI ap else if j = 2 then nI kd else if j = 3 then nI fr else if j = 4 then sI U 4 else if j = 5 then nI cs else if j = 6 then nI tp else if j = 7 then nI st else if j = 8 then nI ns else if j = 10 then bI fx else if j = 1 then nI e0 else if j = 9 then nI nl else U.1 j
  by_cases a0 : j = 0
  · rw [if_pos a0, a0]; exact h0
  rw [if_neg a0]
  by_cases a2 : j = 2
  · rw [if_pos a2, a2]; exact h2
  rw [if_neg a2]
  by_cases a3 : j = 3
  · rw [if_pos a3, a3]; exact h3
  rw [if_neg a3]
  by_cases a4 : j = 4
  · rw [if_pos a4, a4]; exact rfl
  rw [if_neg a4]
  by_cases a5 : j = 5
  · rw [if_pos a5, a5]; exact h5
  rw [if_neg a5]
  by_cases a6 : j = 6
  · rw [if_pos a6, a6]; exact h6
  rw [if_neg a6]
  by_cases a7 : j = 7
  · rw [if_pos a7, a7]; exact h7
  rw [if_neg a7]
  by_cases a8 : j = 8
  · rw [if_pos a8, a8]; exact h8
  rw [if_neg a8]
  by_cases a10 : j = 10
  · rw [if_pos a10, a10]; exact h10
  rw [if_neg a10]
  by_cases a1 : j = 1
  · rw [if_pos a1, a1]; exact h1
  rw [if_neg a1]
  by_cases a9 : j = 9
  · rw [if_pos a9, a9]; exact h9
  rw [if_neg a9]) (Prod.ext rfl (Prod.ext (funext fun j => by
  show U.2.2.1 j = if j = 0 then sR U 0 else if j = 1 then sR U 1 else if j = 2 then sR U 2 else if j = 3 then sR U 3 else if j = 4 then sR U 4 else if j = 5 then sR U 5 else if j = 6 then sR U 6 else U.2.2.1 j
  by_cases a0 : j = 0
  · rw [if_pos a0, a0]; rfl
  rw [if_neg a0]
  by_cases a1 : j = 1
  · rw [if_pos a1, a1]; rfl
  rw [if_neg a1]
  by_cases a2 : j = 2
  · rw [if_pos a2, a2]; rfl
  rw [if_neg a2]
  by_cases a3 : j = 3
  · rw [if_pos a3, a3]; rfl
  rw [if_neg a3]
  by_cases a4 : j = 4
  · rw [if_pos a4, a4]; rfl
  rw [if_neg a4]
  by_cases a5 : j = 5
  · rw [if_pos a5, a5]; rfl
  rw [if_neg a5]
  by_cases a6 : j = 6
  · rw [if_pos a6, a6]; rfl
  rw [if_neg a6]) rfl))
theorem qC_eq {Q : St} {sn lu ln se co : Nat} {ft : Int32} (h0 : sI Q 0 = nI sn) (h1 : sI Q 1 = nI lu) (h2 : sI Q 2 = ft) (h3 : sI Q 3 = nI ln) (h4 : sI Q 4 = nI se) (h6 : sI Q 6 = nI co) : Q = qC Q sn lu ft ln se (sI Q 5) co (sR Q 0) (sR Q 1) := Prod.ext (funext fun j => by
  show Q.1 j = if j = 0 then nI sn else if j = 1 then nI lu else if j = 2 then ft else if j = 3 then nI ln else if j = 4 then nI se else if j = 5 then sI Q 5 else if j = 6 then nI co else Q.1 j
  by_cases a0 : j = 0
  · rw [if_pos a0, a0]; exact h0
  rw [if_neg a0]
  by_cases a1 : j = 1
  · rw [if_pos a1, a1]; exact h1
  rw [if_neg a1]
  by_cases a2 : j = 2
  · rw [if_pos a2, a2]; exact h2
  rw [if_neg a2]
  by_cases a3 : j = 3
  · rw [if_pos a3, a3]; exact h3
  rw [if_neg a3]
  by_cases a4 : j = 4
  · rw [if_pos a4, a4]; exact h4
  rw [if_neg a4]
  by_cases a5 : j = 5
  · rw [if_pos a5, a5]; exact rfl
  rw [if_neg a5]
  by_cases a6 : j = 6
  · rw [if_pos a6, a6]; exact h6
  rw [if_neg a6]) (Prod.ext rfl (Prod.ext (funext fun j => by
  show Q.2.2.1 j = if j = 0 then sR Q 0 else if j = 1 then sR Q 1 else Q.2.2.1 j
  by_cases a0 : j = 0
  · rw [if_pos a0, a0]; rfl
  rw [if_neg a0]
  by_cases a1 : j = 1
  · rw [if_pos a1, a1]; rfl
  rw [if_neg a1]) rfl))
theorem SR_eq {S : St} {ct ap tk fr to sg vl : Nat} {ft : Int32} {gr ms dv ls : Bool} (h7 : sI S 7 = nI ap) (h8 : sI S 8 = nI tk) (h9 : sI S 9 = nI fr) (h10 : sI S 10 = nI to) (h12 : sI S 12 = ft) (h18 : sI S 18 = nI ct) (h20 : sI S 20 = bI gr) (h21 : sI S 21 = bI ms) (h22 : sI S 22 = bI dv) (h23 : sI S 23 = bI ls) (h24 : sI S 24 = nI sg) (h25 : sI S 25 = nI vl) : SR S ct gr (sR S 3) (sR S 5) (sR S 9) ft ap S := ⟨ms, dv, ls, sg, vl, sR S 8, tk, fr, to, sI S 11, Prod.ext (funext fun j => by
  show S.1 j = if j = 7 then nI ap else if j = 8 then nI tk else if j = 9 then nI fr else if j = 10 then nI to else if j = 11 then sI S 11 else if j = 12 then ft else if j = 21 then bI ms else if j = 22 then bI dv else if j = 23 then bI ls else if j = 24 then nI sg else if j = 25 then nI vl else if j = 18 then nI ct else if j = 20 then bI gr else S.1 j
  by_cases a7 : j = 7
  · rw [if_pos a7, a7]; exact h7
  rw [if_neg a7]
  by_cases a8 : j = 8
  · rw [if_pos a8, a8]; exact h8
  rw [if_neg a8]
  by_cases a9 : j = 9
  · rw [if_pos a9, a9]; exact h9
  rw [if_neg a9]
  by_cases a10 : j = 10
  · rw [if_pos a10, a10]; exact h10
  rw [if_neg a10]
  by_cases a11 : j = 11
  · rw [if_pos a11, a11]; exact rfl
  rw [if_neg a11]
  by_cases a12 : j = 12
  · rw [if_pos a12, a12]; exact h12
  rw [if_neg a12]
  by_cases a21 : j = 21
  · rw [if_pos a21, a21]; exact h21
  rw [if_neg a21]
  by_cases a22 : j = 22
  · rw [if_pos a22, a22]; exact h22
  rw [if_neg a22]
  by_cases a23 : j = 23
  · rw [if_pos a23, a23]; exact h23
  rw [if_neg a23]
  by_cases a24 : j = 24
  · rw [if_pos a24, a24]; exact h24
  rw [if_neg a24]
  by_cases a25 : j = 25
  · rw [if_pos a25, a25]; exact h25
  rw [if_neg a25]
  by_cases a18 : j = 18
  · rw [if_pos a18, a18]; exact h18
  rw [if_neg a18]
  by_cases a20 : j = 20
  · rw [if_pos a20, a20]; exact h20
  rw [if_neg a20]) (Prod.ext rfl (Prod.ext (funext fun j => by
  show S.2.2.1 j = if j = 8 then sR S 8 else if j = 3 then sR S 3 else if j = 5 then sR S 5 else if j = 9 then sR S 9 else S.2.2.1 j
  by_cases a8 : j = 8
  · rw [if_pos a8, a8]; rfl
  rw [if_neg a8]
  by_cases a3 : j = 3
  · rw [if_pos a3, a3]; rfl
  rw [if_neg a3]
  by_cases a5 : j = 5
  · rw [if_pos a5, a5]; rfl
  rw [if_neg a5]
  by_cases a9 : j = 9
  · rw [if_pos a9, a9]; rfl
  rw [if_neg a9]) rfl))⟩
theorem RD_0 {n L : Nat} {c : Nat → Nat} {Q U S : St} {fx gr ms dv ls : Bool} (q0 : sI Q 0 = 0) (q1 : sI Q 1 = 0) (q2 : sI Q 2 = 0) (q3 : sI Q 3 = 0) (q4 : sI Q 4 = 0) (q6 : sI Q 6 = 0) (u5 : sI U 5 = 0) (u8 : sI U 8 = 0) (u9 : sI U 9 = 0) (u10 : sI U 10 = bI fx) (r4 : ∀ h : Nat, h < 256 → sR U 4 h = 0) (r5 : ∀ d : Nat, d < 20 → sR U 5 d = 0) (uo : sO U 0 = some 8) (r7 : ∀ i : Nat, i < L → sR U 7 i = nI (c i)) (s7 : sI S 7 = 0) (s13 : sI S 13 = 1) (s14 : sI S 14 = 0) (s2 : sI S 2 = 0) (s3 : sI S 3 = 0) (s12 : sI S 12 = 0) (s20 : sI S 20 = bI gr) (s21 : sI S 21 = bI ms) (s22 : sI S 22 = bI dv) (s23 : sI S 23 = bI ls) (s0 : sI S 0 = nI L) (sr2 : ∀ i : Nat, i < L → sR S 2 i = nI (c i)) (hc : cstS S) : RDst n L c 0 Q U S := by
  obtain ⟨ap, _, hap⟩ := nI_ex (sI U 0)
  obtain ⟨e0, _, he0⟩ := nI_ex (sI U 1)
  obtain ⟨kd, _, hkd⟩ := nI_ex (sI U 2)
  obtain ⟨fr, _, hfr⟩ := nI_ex (sI U 3)
  obtain ⟨tp, _, htp⟩ := nI_ex (sI U 6)
  obtain ⟨st, _, hst⟩ := nI_ex (sI U 7)
  obtain ⟨tk, _, htk⟩ := nI_ex (sI S 8)
  obtain ⟨f9, _, hf9⟩ := nI_ex (sI S 9)
  obtain ⟨to, _, hto⟩ := nI_ex (sI S 10)
  obtain ⟨ct, _, hct⟩ := nI_ex (sI S 18)
  obtain ⟨sg, _, hsg⟩ := nI_ex (sI S 24)
  obtain ⟨vl, _, hvl⟩ := nI_ex (sI S 25)
  have eU := uC_eq (U := U) (cs := 0) (ns := 0) (nl := 0) hap he0 hkd hfr u5 htp hst u8 u9 u10
  have eQ := qC_eq (Q := Q) (sn := 0) (lu := 0) (ln := 0) (se := 0) (co := 0) (ft := 0) q0 q1 q2 q3 q4 q6
  have hS := SR_eq (S := S) (ap := 0) (ft := 0) s7 htk hf9 hto s12 hct s20 s21 s22 s23 hsg hvl
  refine ⟨S, Q, U, 0, 0, 0, 0, 0, sI Q 5, sR Q 0, sR Q 1, 0, 0, sR U 0, sR U 1, sR U 3, sR U 4, fun _ => 0, fun _ => 0, 0, sR U 5, sR U 6, fun _ => 0, fun _ => 0, 0, 0, sR S 3, sR S 5, sR S 9, fun _ => (9, 0, 0, [], []), fun _ => 0, fun _ => 0, fun _ => 0, fun _ => 0, fun _ => 0, fun _ => 0, fun _ _ => 0, e0, tp, st, fx, sR U 2, ap, kd, fr, sI U 4, ct, gr, ?_, eQ, eU, hS, uo, r7, s0, sr2⟩
  refine ⟨⟨⟨by omega, fun i hi => absurd hi (Nat.not_lt_zero _), fun h hh => r4 h hh, fun i j hi => absurd hi (Nat.not_lt_zero _), fun i hi => absurd hi (Nat.not_lt_zero _)⟩, fun id hid => absurd hid (Nat.not_lt_zero _), fun k hk => absurd hk (Nat.not_lt_zero _), rfl, fun d hd => ⟨r5 (10 + d) (by omega), r5 d (by omega), fun k hk => absurd hk (Nat.not_lt_zero _)⟩, fun k hk => absurd hk (Nat.not_lt_zero _), fun k hk => absurd hk (Nat.not_lt_zero _), fun i j _ hj => absurd hj (Nat.not_lt_zero _), by omega, ⟨by omega, ⟨fun _ => false, fun v hv => absurd (show false = true from hv) (by decide), Nat.zero_le _⟩⟩⟩, s2, s3, fun k hk => absurd hk (Nat.not_lt_zero _), s13, s14, by omega, hc, rfl, by omega, by omega, by omega, rfl, rfl, fun s hs => absurd hs (Nat.not_lt_zero _), fun s t _ ht => absurd ht (Nat.not_lt_zero _), fun k k' _ hk => absurd hk (Nat.not_lt_zero _), fun k hk => absurd hk (Nat.not_lt_zero _), fun k s hk => absurd hk (Nat.not_lt_zero _)⟩

