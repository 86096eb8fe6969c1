/-- the first round's levels -/
theorem RJ_0 {n L : Nat} {c : Nat → Nat} {p : Nat} {Bz : St} {sn lu ln se co : Nat} {SW0 LW : Nat → Int32} {cs ns : Nat} {C A NM BK : Nat → Int32} {bs ws : Nat → Nat} {nl : Nat} {NR LB0 : Nat → Int32} {sc X : Nat → Nat} {nL nS : Nat} {PAz BY : Nat → Int32} {Ds : Nat → Dt} {Qs Es Zs Ls Fs N0 : Nat → Nat} {NP : Nat → Nat → Int32} (hR : READ n L c p Bz sn lu ln se co SW0 LW cs ns C A NM BK bs ws nl NR LB0 sc X nL nS PAz BY Ds Qs Es Zs Ls Fs N0 NP) (hp : p ≤ 32769) {sg : Nat → Nat} (hsg : (∀ i : Nat, i < mu Ds nS → sg i < nS ∧ mu Ds (sg i) = i ∧ ¬ (Ds (sg i)).1 = 9) ∧ sg (mu Ds nS) = nS) {Q U S : St} {OU : Nat → Int32} {ct : Nat} {gr : Bool} {ap : Nat} (hS : SR Bz ct gr PAz BY OU 0 ap S) (b0 : sI Bz 0 = nI L) (b2 : ∀ i : Nat, i < L → sR Bz 2 i = nI (c i)) (q0 : sI Q 0 = nI sn) (q1 : sR Q 0 = SW0) (hU : URD U cs nl ns C A NM NR LB0) : lvK Ds Fs (fun s => Fs s % 4) nS ∧ RJ n L c Bz sn SW0 cs ns C A NM nl NR LB0 X nL nS BY Ds Qs Zs Fs sg (fun s => Fs s % 4) Q U S := by
  obtain ⟨a1, a2, a3, a4, a5, a6, a7, a8, a9, a10, a11, a12, a13, a14, a15, a16, a17, a18, a19⟩ := id hR
  obtain ⟨sg1, sg2⟩ := hsg
  have hstr : ∀ s : Nat, s < nS → STr n L c X nL (sR Bz 7) SW0 LW C A ns bs ws cs lu (mu Ds s) (PAz s) (BY s) (Ds s) (Qs s) (Es s) (Zs s) (Ls s) (Fs s) (N0 s) (NP s) := fun s hs => (a15 s hs).1
  have kinds : ∀ s : Nat, s < nS → ((Ds s).1 = 1 → Fs s = 8) ∧ ((Ds s).1 = 2 → Fs s = 16 ∨ Fs s = 25) ∧ (¬ (Ds s).1 = 1 → ¬ (Ds s).1 = 2 → Fs s = 0) := fun s hs => by
    obtain ⟨c1, c2, c3, c4, c5, c6, c6', c7, c8, c9, c10, c11, c12, c13⟩ := hstr s hs
    rcases c13 with z | ⟨z, le, b, cd, lt, s0, s1, u0, u1, r1, r2, r3, r4, r5, r6, r7, r8, r9, r10⟩
    · exact ⟨fun w => by omega, fun w => by omega, fun _ _ => z.2.2.2⟩
    · rcases r8 with h | h | h | h | h | h | h | h | h
      · exact ⟨fun w => by have := h.1; omega, fun w => by have := h.1; omega, fun _ _ => h.2.1⟩
      · exact ⟨fun w => h.2.1, fun w => by have := h.1; omega, fun w => absurd h.1 w⟩
      · exact ⟨fun w => by have := h.1; omega, fun w => by rcases h.2.1 with u | u; exact Or.inl u.1; exact Or.inr u.1, fun _ w => absurd h.1 w⟩
      iterate 6 (exact ⟨fun w => by have := h.1; omega, fun w => by have := h.1; omega, fun _ _ => h.2.1⟩)
  have hlv : lvK Ds Fs (fun s => Fs s % 4) nS := fun s hs => by
    obtain ⟨k1, k2, k3⟩ := kinds s hs
    refine ⟨fun w => ?_, fun w => ?_, fun w w' => ?_, Nat.le_refl _⟩
    · show Fs s % 4 ≤ 1
      rw [k1 w]; decide
    · show Fs s % 4 ≤ 2
      rcases k2 w with u | u <;> (rw [u]; decide)
    · show Fs s % 4 = 0
      rw [k3 w w']
  obtain ⟨hZ, hl2⟩ := RD_Z hR (by omega) hlv
  refine ⟨hlv, ⟨Bz, ct, gr, PAz, OU, ap, hS, fun s hs => ?_, b0, b2, a2, a3, a4, fun _ _ _ => rfl, a8, ln + 1, a5, by have := nlC_l c p; omega⟩, q0, fun i x _ _ _ _ => by rw [q1], fun i hi h8 => ?_, ?_, fun j x _ _ _ => by rw [hU.2.2.2.2.2.2.1]⟩
  · obtain ⟨c1, c2, c3, c4⟩ := hstr s hs
    rw [c1]
    show nI ((4 * Zs s + Fs s) * 2 ^ 17 + Qs s) = nI ((4 * Zs s + Fs s / 8 * 8 + Fs s % 4) * 2 ^ 17 + Qs s)
    exact congrArg nI (by rcases c3 with u | u | u | u <;> (rw [u]))
  · obtain ⟨w1, w2, w3⟩ := sg1 i (by omega)
    obtain ⟨c1, c2, c3, c4, c5, c6, c6', c7, c8, c9, c10, c11, c12, c13⟩ := hstr (sg i) w1
    obtain ⟨z1, z2, z3, z4, z5⟩ := sz_1 (hZ (sg i) w1) 0
    rcases c13 with z | ⟨z, le, b, cd, lt, s0, s1, u0, u1, r1, r2, r3, r4, r5, r6, r7, r8, r9, r10⟩
    · exact absurd z.1 w3
    · rw [w2, Nat.mul_comm i 8] at r3
      rw [q1, r3]
      rcases r8 with h | h | h | h | h | h | h | h | h
      · obtain ⟨k1, k2, k3, k4, k5, k6⟩ := h
        rw [← k5]; exact (z5 (by omega) (by omega) (by omega)).symm
      · obtain ⟨k1, k2, k3, k4, k5⟩ := h
        rw [k4, z4 (Or.inl k1)]
        show nI 2 = nI (2 * 2 ^ (Fs (sg i) % 4))
        rw [k2]
      · obtain ⟨k1, k2, k3⟩ := h
        rw [z4 (Or.inr k1)]
        show le = nI (2 * 2 ^ (Fs (sg i) % 4))
        rcases k2 with u | u
        · rw [u.1, u.2]
        · rw [u.1, u.2]
      · obtain ⟨k1, k2, k3, k4, k5, k6⟩ := h
        rw [← k5]; exact (z5 (by omega) (by omega) (by omega)).symm
      · obtain ⟨k1, k2, k3, k4, k5, k6, k7⟩ := h
        rw [← k6]; exact (z5 (by omega) (by omega) (by omega)).symm
      · obtain ⟨k1, k2, k3, k4, k5, k6, k7⟩ := h
        rw [← k6]; exact (z5 (by omega) (by omega) (by omega)).symm
      · obtain ⟨k1, k2, k3, k4, k5⟩ := h
        rw [← k4]; exact (z5 (by omega) (by omega) (by omega)).symm
      · obtain ⟨k1, k2, k3, k, k4, k5, k6⟩ := h
        rw [← k6]; exact (z5 (by omega) (by omega) (by omega)).symm
      · exact absurd h.1 h8
  · rw [hU.2.2.2.2.2.2.1]; exact hU
/-- all rounds -/
theorem ly_all {n L : Nat} {c : Nat → Nat} {p : Nat} {Bz : St} {sn lu ln se co : Nat} {SW0 LW : Nat → Int32} {cs ns : Nat} {C A NM BK : Nat → Int32} {bs ws : Nat → Nat} {nl : Nat} {NR LB0 : Nat → Int32} {sc X : Nat → Nat} {nL nS : Nat} {PAz BY : Nat → Int32} {Ds : Nat → Dt} {Qs Es Zs Ls Fs N0 : Nat → Nat} {NP : Nat → Nat → Int32} (hR : READ n L c p Bz sn lu ln se co SW0 LW cs ns C A NM BK bs ws nl NR LB0 sc X nL nS PAz BY Ds Qs Es Zs Ls Fs N0 NP) (hp : p ≤ 32769) {B0 : St} (hX : TXT n L c B0) {sg : Nat → Nat} (hsg : (∀ i : Nat, i < mu Ds nS → sg i < nS ∧ mu Ds (sg i) = i ∧ ¬ (Ds (sg i)).1 = 9) ∧ sg (mu Ds nS) = nS) (hcs : cs ≤ 32832) : ∀ (N : Nat) (lv : Nat → Nat) (x2 g g' : Nat) (Q U S : St), msr Ds lv nS < N → msr Ds lv nS ≤ x2 → x2 < 2 ^ 20 → N < g → N < g' → lvK Ds Fs lv nS → RJ n L c Bz sn SW0 cs ns C A NM nl NR LB0 X nL nS BY Ds Qs Zs Fs sg lv Q U S → ∃ (lv' : Nat → Nat) (Q' U' S' : St), df_X1_layOut_9 n g 1 (nI x2) (Q, U) = some (Q', U') ∧ df_X13_stretch_7 n g' 1 S = some S' ∧ lvK Ds Fs lv' nS ∧ LD n L c Bz sn SW0 cs ns C A NM nl NR LB0 X nL nS BY Ds Qs Zs Fs N0 sg lv' Q' U' S' ∧ (∀ j : Nat, ¬ j = 7 → ¬ j = 8 → ¬ j = 9 → sI Q' j = sI Q j) ∧ sR Q' 1 = sR Q 1 ∧ sO U' = sO U ∧ sR U' 7 = sR U 7 := fun N => by
  induction N with
  | zero => intro lv x2 g g' Q U S h; exact absurd h (Nat.not_lt_zero _)
  | succ N ih =>
    intro lv x2 g g' Q U S hN hx hx2 hg hg' hlv hJ
    obtain ⟨g, rfl⟩ : ∃ k : Nat, g = k + 1 + 1 := ⟨g - 2, by omega⟩
    obtain ⟨g', rfl⟩ : ∃ k : Nat, g' = k + 1 + 1 := ⟨g' - 2, by omega⟩
    obtain ⟨Q1, U1, S1, f1, f2, f3, f4, f5, f6, f7⟩ := RJ_L hR hp hX.1 hlv hsg hJ
    obtain ⟨b, lv', Q2, U2, S2, g1, g2, g3, g4, g5, g6, g7, g8⟩ := LD_G hR hp hX hlv hsg f3 hcs (df_X13_stretch_7 n (g' + 1))
    have eC : df_X1_layOut_9 n (g + 1 + 1) 1 (nI x2) (Q, U) = df_X1_layOut_9 n (g + 1) (bI b) (nI x2 + Int32.ofInt (-1)) (Q2, U2) := by
      show dF_X1_layOut_9 n (df_X1_layOut_9 n (g + 1)) 1 (nI x2) (Q, U) = _
      unfold dF_X1_layOut_9
      rw [if_neg (show ¬ (1 : Int32) = 0 by decide), if_neg (show ¬ nI x2 < (0 : Int32) from znl (b := 0) (Nat.zero_le _) (by omega)), f1, nb_b1, g1, nb_b2, nb_let]
    have eR : df_X13_stretch_7 n (g' + 1 + 1) 1 S = df_X13_stretch_7 n (g' + 1) (bI b) S2 := by
      show dF_X13_stretch_7 n (df_X13_stretch_7 n (g' + 1)) 1 S = _
      unfold dF_X13_stretch_7
      rw [if_neg (show ¬ (1 : Int32) = 0 by decide), f2, nb_b1]
      exact g2
    have keep : ∀ j : Nat, ¬ j = 7 → ¬ j = 8 → ¬ j = 9 → sI Q2 j = sI Q j := fun j h7 h8 h9 => (g5 j).trans (f4 j h7 h8 h9)
    cases hb : b with
    | false =>
      rw [hb] at eC eR
      refine ⟨lv, Q2, U2, S2, ?_, ?_, hlv, g3 hb, keep, g6.trans f5, g7.trans f6, g8.trans f7⟩
      · rw [eC]
        show dF_X1_layOut_9 n (df_X1_layOut_9 n g) (bI false) (nI x2 + Int32.ofInt (-1)) (Q2, U2) = _
        unfold dF_X1_layOut_9 df_X1_layOut_32
        rw [if_pos (show bI false = 0 from rfl)]
      · rw [eR]
        show dF_X13_stretch_7 n (df_X13_stretch_7 n g') (bI false) S2 = _
        unfold dF_X13_stretch_7
        rw [if_pos (show bI false = 0 from rfl)]
    | true =>
      rw [hb] at eC eR
      obtain ⟨k1, k2, k3⟩ := g4 hb
      obtain ⟨lv9, Q', U', S', t1, t2, t3, t4, t5, t6, t7, t8⟩ := ih lv' (x2 - 1) (g + 1) (g' + 1) Q2 U2 S2 (by omega) (by omega) (by omega) (by omega) (by omega) k1 k2
      refine ⟨lv9, Q', U', S', ?_, ?_, t3, t4, fun j h7 h8 h9 => (t5 j h7 h8 h9).trans (keep j h7 h8 h9), t6.trans (g6.trans f5), t7.trans (g7.trans f6), t8.trans (g8.trans f7)⟩
      · rw [eC, w1_s (by omega)]
        exact t1
      · rw [eR]
        exact t2
