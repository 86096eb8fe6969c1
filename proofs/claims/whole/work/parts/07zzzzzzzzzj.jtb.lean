/-- near labels and rows of labels, as both tables grow -/
def dgP (c X : Nat → Nat) (d k : Nat) : Bool := decide (3 ≤ X k / 131072) && decide (c (X k % 131072) = 48 + d)
def NRI (c X : Nat → Nat) (nL : Nat) (NR LB : Nat → Int32) : Prop := ∀ d : Nat, d ≤ 9 → NR (10 + d) = nI (lmF X (frF false (dgP c X d) nL)) ∧ NR d = nI (lmF X (frF true (dgP c X d) nL)) ∧ ∀ k : Nat, k < nL → dgP c X d k = true → LB (5 * lam X k + 3) = nI (lmF X (frF true (fun j => dgP c X d j && decide (k < j)) nL))
def LBI (X : Nat → Nat) (nL : Nat) (LB : Nat → Int32) (sc : Nat → Nat) : Prop := ∀ k : Nat, k < nL → ¬ X k / 131072 = 2 → LB (5 * lam X k) = nI (sc k) ∧ LB (5 * lam X k + 1) = nI (if X k / 131072 = 1 ∨ X k / 131072 = 4 then 1 else 0) ∧ LB (5 * lam X k + 4) = nI (if X k / 131072 < 2 then 1 else 0)
theorem lam_nw {X : Nat → Nat} {nL w k : Nat} (h : k ≤ nL) : lam (nwF X nL w) k = lam X k := lam_c k (fun i hi => nw_2 (by omega))
theorem lmF_nw {X : Nat → Nat} {nL w f : Nat} (h : f ≤ nL) : lmF (nwF X nL w) f = lmF X f := by
  unfold lmF
  by_cases z : f = 0
  · rw [if_pos z, if_pos z]
  · rw [if_neg z, if_neg z, lam_nw (by omega)]
theorem dgP_nw {c X : Nat → Nat} {nL w d k : Nat} (h : k < nL) : dgP c (nwF X nL w) d k = dgP c X d k := by
  unfold dgP
  rw [nw_2 h]
theorem dg_3 {c X : Nat → Nat} {d k : Nat} (h : dgP c X d k = true) : 3 ≤ X k / 131072 ∧ c (X k % 131072) = 48 + d := by
  unfold dgP at h
  rw [Bool.and_eq_true, decide_eq_true_eq, decide_eq_true_eq] at h
  exact h
theorem fr_nw {c X : Nat → Nat} {nL w d : Nat} {fw : Bool} : frF fw (dgP c (nwF X nL w) d) nL = frF fw (dgP c X d) nL := fr_c nL (fun i hi => dgP_nw hi)
theorem fr_nx {c X : Nat → Nat} {nL w d k : Nat} : frF true (fun j => dgP c (nwF X nL w) d j && decide (k < j)) nL = frF true (fun j => dgP c X d j && decide (k < j)) nL := fr_c nL (fun i hi => by
  show (dgP c (nwF X nL w) d i && decide (k < i)) = (dgP c X d i && decide (k < i))
  rw [dgP_nw hi])
theorem fr_f {fw : Bool} {P : Nat → Bool} {n : Nat} (h : P n = false) : frF fw P (n + 1) = frF fw P n := if_neg (fun z => by rw [h] at z; exact absurd z.1 (by decide))
theorem lrow_o {LB : Nat → Int32} {nl : Nat} {a b d : Int32} {i : Nat} (h : i < 5 * nl) : lrow LB nl a b d i = LB i := by
  unfold lrow
  rw [up_n (by omega), up_n (by omega), up_n (by omega), up_n (by omega), up_n (by omega)]
theorem lrow_i {LB : Nat → Int32} {nl : Nat} {a b d : Int32} : lrow LB nl a b d (5 * nl) = a ∧ lrow LB nl a b d (5 * nl + 1) = b ∧ lrow LB nl a b d (5 * nl + 3) = 0 ∧ lrow LB nl a b d (5 * nl + 4) = d := by
  unfold lrow
  refine ⟨?_, ?_, ?_, up_e⟩
  · rw [up_n (by omega), up_n (by omega), up_n (by omega), up_n (by omega), up_e]
  · rw [up_n (by omega), up_n (by omega), up_n (by omega), up_e]
  · rw [up_n (by omega), up_e]
/-- an entry that is no digit -/
theorem NRI_o {c X : Nat → Nat} {nL : Nat} {NR LB LB' : Nat → Int32} (h : NRI c X nL NR LB) {w : Nat} (hw : w / 131072 < 3) (hL : ∀ i : Nat, i < 5 * lam X nL → LB' i = LB i) : NRI c (nwF X nL w) (nL + 1) NR LB' := fun d hd => by
  obtain ⟨a1, a2, a3⟩ := h d hd
  have pf : dgP c (nwF X nL w) d nL = false := by
    unfold dgP
    rw [nw_1, decide_eq_false (by omega)]; rfl
  refine ⟨?_, ?_, fun k hk hp => ?_⟩
  · rw [fr_f pf, fr_nw, lmF_nw (fr_l _ _ _)]; exact a1
  · rw [fr_f pf, fr_nw, lmF_nw (fr_l _ _ _)]; exact a2
  · by_cases z : k = nL
    · rw [z, pf] at hp; exact absurd hp (by decide)
    · have kl : k < nL := by omega
      rw [dgP_nw kl] at hp
      have n2 := (dg_3 hp).1
      have := lam_l kl (show ¬ X k / 131072 = 2 by omega)
      rw [lam_nw (by omega), hL _ (by omega), fr_f (show (dgP c (nwF X nL w) d nL && decide (k < nL)) = false by rw [pf]; rfl), fr_nx, lmF_nw (fr_l _ _ _)]
      exact a3 k kl hp
theorem lmF_0 {X : Nat → Nat} {f : Nat} : lmF X f = 0 ↔ f = 0 := by
  unfold lmF
  by_cases z : f = 0
  · rw [if_pos z]; exact ⟨fun _ => z, fun _ => rfl⟩
  · rw [if_neg z]; exact ⟨fun w => absurd w (by omega), fun w => absurd w z⟩
theorem lmF_l {X : Nat → Nat} {f nL : Nat} (h : f ≤ nL) : lmF X f ≤ lam X nL + 1 := by
  unfold lmF
  by_cases z : f = 0
  · rw [if_pos z]; omega
  · rw [if_neg z]
    have := lam_m X (nL - (f - 1)) (f - 1)
    rw [show f - 1 + (nL - (f - 1)) = nL by omega] at this
    omega
theorem lam_i {X : Nat → Nat} {i j : Nat} (hi : ¬ X i / 131072 = 2) (h : i < j) : lam X i < lam X j := by
  have := lam_l (X := X) (k := i) (nL := j) h hi
  exact this
/-- a digit's label -/
theorem NRI_d {c X : Nat → Nat} {nL : Nat} {NR LB : Nat → Int32} (h : NRI c X nL NR LB) {w d0 : Nat} (hw : 3 ≤ w / 131072) (hd0 : d0 ≤ 9) (hc : c (w % 131072) = 48 + d0) (hl : lam X nL ≤ 16384) (a b : Int32) : (NR (10 + d0) = 0 → NRI c (nwF X nL w) (nL + 1) (upd (upd NR d0 (nI (lam X nL + 1))) (10 + d0) (nI (lam X nL + 1))) (lrow LB (lam X nL) a b 0)) ∧ (∀ j : Nat, j < 16384 → NR (10 + d0) = nI (j + 1) → j < lam X nL ∧ NRI c (nwF X nL w) (nL + 1) (upd NR (10 + d0) (nI (lam X nL + 1))) (upd (lrow LB (lam X nL) a b 0) (5 * j + 3) (nI (lam X nL + 1)))) := by
  have pn : ∀ d : Nat, dgP c (nwF X nL w) d nL = decide (d = d0) := fun d => by
    unfold dgP
    rw [nw_1, decide_eq_true hw, hc, Bool.true_and]
    exact decide_eq_decide.mpr ⟨fun z => by omega, fun z => by omega⟩
  have lmn : lmF (nwF X nL w) (nL + 1) = lam X nL + 1 := by
    unfold lmF
    rw [if_neg (by omega), Nat.add_sub_cancel, lam_nw (Nat.le_refl _)]
  obtain ⟨b1, b2, b3⟩ := h d0 hd0
  have fl := fr_l false (dgP c X d0) nL
  have lb := lmF_l (X := X) fl
  have last0 : frF true (fun j => dgP c (nwF X nL w) d0 j && decide (nL < j)) (nL + 1) = 0 := (fr_z true _ (nL + 1)).mpr (fun j hj => by
    show (dgP c (nwF X nL w) d0 j && decide (nL < j)) = false
    rw [decide_eq_false (by omega), Bool.and_false])
  have latest : frF false (dgP c (nwF X nL w) d0) (nL + 1) = nL + 1 := fr_u false _ (nL + 1) nL (by omega) (by rw [pn, decide_eq_true rfl]) (fun _ j j1 j2 => by omega) (fun z => absurd z (by decide))
  constructor
  · intro z d hd
    rw [b1, show (0 : Int32) = nI 0 from rfl, nI_eq (by omega) (by omega), lmF_0] at z
    have no := (fr_z false (dgP c X d0) nL).mp z
    by_cases y : d = d0
    · subst y
      refine ⟨?_, ?_, fun k hk hp => ?_⟩
      · rw [up_e, latest, lmn]
      · rw [up_n (by omega), up_e, fr_u true _ (nL + 1) nL (by omega) (by rw [pn, decide_eq_true rfl]) (fun z => absurd z (by decide)) (fun _ j hj => by rw [dgP_nw hj]; exact no j hj), lmn]
      · by_cases u : k = nL
        · subst u
          rw [last0, lam_nw (Nat.le_refl _), (lrow_i).2.2.1]
          rfl
        · rw [dgP_nw (by omega), no k (by omega)] at hp
          exact absurd hp (by decide)
    · obtain ⟨a1, a2, a3⟩ := h d hd
      have pf : dgP c (nwF X nL w) d nL = false := by rw [pn, decide_eq_false y]
      refine ⟨?_, ?_, fun k hk hp => ?_⟩
      · rw [up_n (by omega), up_n (by omega), fr_f pf, fr_nw, lmF_nw (fr_l _ _ _)]; exact a1
      · rw [up_n (by omega), up_n (by omega), fr_f pf, fr_nw, lmF_nw (fr_l _ _ _)]; exact a2
      · by_cases u : k = nL
        · rw [u, pf] at hp; exact absurd hp (by decide)
        · have kl : k < nL := by omega
          rw [dgP_nw kl] at hp
          have n2 := (dg_3 hp).1
          have := lam_l kl (show ¬ X k / 131072 = 2 by omega)
          rw [lam_nw (by omega), lrow_o (by omega), fr_f (show (dgP c (nwF X nL w) d nL && decide (k < nL)) = false by rw [pf]; rfl), fr_nx, lmF_nw (fr_l _ _ _)]
          exact a3 k kl hp
  · intro j hj z
    rw [b1, nI_eq (by omega) (by omega)] at z
    obtain ⟨kl, hkl⟩ : ∃ kl : Nat, frF false (dgP c X d0) nL = kl + 1 := by
      cases hf : frF false (dgP c X d0) nL with
      | zero => rw [hf] at z; exact absurd (show 0 = j + 1 from z) (by omega)
      | succ k => exact ⟨k, rfl⟩
    obtain ⟨s1, s2, s3, _⟩ := fr_s false _ nL kl hkl
    have s3 := s3 rfl
    have hj2 : j = lam X kl := by
      rw [hkl] at z
      unfold lmF at z
      rw [if_neg (by omega), Nat.add_sub_cancel] at z
      omega
    have n2 := (dg_3 s2).1
    have jl := lam_l s1 (show ¬ X kl / 131072 = 2 by omega)
    rw [← hj2] at jl
    refine ⟨jl, fun d hd => ?_⟩
    have oth : ∀ k : Nat, k < nL → ¬ k = kl → ¬ X k / 131072 = 2 → ¬ 5 * lam X k + 3 = 5 * j + 3 := fun k k1 k2 k3 z2 => by
      rcases Nat.lt_or_gt_of_ne k2 with u | u
      · have := lam_i (X := X) k3 u
        omega
      · have := lam_i (X := X) (show ¬ X kl / 131072 = 2 by omega) u
        omega
    by_cases y : d = d0
    · subst y
      refine ⟨?_, ?_, fun k hk hp => ?_⟩
      · rw [up_e, latest, lmn]
      · have pos : 0 < frF true (dgP c X d) nL := Nat.pos_of_ne_zero fun u => by
          have := (fr_z true (dgP c X d) nL).mp u kl s1
          rw [s2] at this
          exact absurd this (by decide)
        rw [up_n (by omega), show frF true (dgP c (nwF X nL w) d) (nL + 1) = frF true (dgP c (nwF X nL w) d) nL from if_neg (fun u => u.2 ⟨rfl, by rw [fr_nw]; exact pos⟩), fr_nw, lmF_nw (fr_l _ _ _)]
        exact b2
      · by_cases u : k = nL
        · subst u
          rw [last0, lam_nw (Nat.le_refl _), up_n (by omega), (lrow_i).2.2.1]
          rfl
        · have kn : k < nL := by omega
          rw [dgP_nw kn] at hp
          have k3 := (dg_3 hp).1
          have klt := lam_l kn (show ¬ X k / 131072 = 2 by omega)
          rw [lam_nw (by omega)]
          by_cases v : k = kl
          · subst v
            rw [← hj2, up_e, fr_u true _ (nL + 1) nL (by omega) (by
              show (dgP c (nwF X nL w) d nL && decide (k < nL)) = true
              rw [pn, decide_eq_true rfl, decide_eq_true kn]; rfl) (fun z => absurd z (by decide)) (fun _ i hi => by
              show (dgP c (nwF X nL w) d i && decide (k < i)) = false
              rw [dgP_nw hi]
              by_cases t : k < i
              · rw [s3 i t hi]; rfl
              · rw [decide_eq_false t, Bool.and_false]), lmn]
          · have klt2 : k < kl := Nat.lt_of_le_of_ne (Nat.not_lt.mp fun t => by have := s3 k t kn; rw [hp] at this; exact absurd this (by decide)) v
            have pos : 0 < frF true (fun j => dgP c (nwF X nL w) d j && decide (k < j)) nL := Nat.pos_of_ne_zero fun t => by
              have := (fr_z true _ nL).mp t kl s1
              have this : (dgP c (nwF X nL w) d kl && decide (k < kl)) = false := this
              rw [dgP_nw s1, s2, decide_eq_true klt2] at this
              exact absurd this (by decide)
            rw [up_n (oth k kn v (by omega)), lrow_o (by omega), show frF true (fun j => dgP c (nwF X nL w) d j && decide (k < j)) (nL + 1) = frF true (fun j => dgP c (nwF X nL w) d j && decide (k < j)) nL from if_neg (fun u => u.2 ⟨rfl, pos⟩), fr_nx, lmF_nw (fr_l _ _ _)]
            exact b3 k kn hp
    · obtain ⟨a1, a2, a3⟩ := h d hd
      have pf : dgP c (nwF X nL w) d nL = false := by rw [pn, decide_eq_false y]
      refine ⟨?_, ?_, fun k hk hp => ?_⟩
      · rw [up_n (by omega), fr_f pf, fr_nw, lmF_nw (fr_l _ _ _)]; exact a1
      · rw [up_n (by omega), fr_f pf, fr_nw, lmF_nw (fr_l _ _ _)]; exact a2
      · by_cases u : k = nL
        · rw [u, pf] at hp; exact absurd hp (by decide)
        · have kn : k < nL := by omega
          rw [dgP_nw kn] at hp
          have k3 := dg_3 hp
          have klt := lam_l kn (show ¬ X k / 131072 = 2 by omega)
          have v : ¬ k = kl := fun t => by
            subst t
            have := (dg_3 s2).2
            omega
          rw [lam_nw (by omega), up_n (oth k kn v (by omega)), lrow_o (by omega), fr_f (show (dgP c (nwF X nL w) d nL && decide (k < nL)) = false by rw [pf]; rfl), fr_nx, lmF_nw (fr_l _ _ _)]
          exact a3 k kn hp
/-- rows of labels: one more -/
theorem LBI_l {X : Nat → Nat} {nL : Nat} {LB LB' : Nat → Int32} {sc : Nat → Nat} (h : LBI X nL LB sc) {w s : Nat} (hw : ¬ w / 131072 = 2) (hL : ∀ i : Nat, i < 5 * lam X nL → ¬ i % 5 = 3 → LB' i = LB i) (h0 : LB' (5 * lam X nL) = nI s) (h1 : LB' (5 * lam X nL + 1) = nI (if w / 131072 = 1 ∨ w / 131072 = 4 then 1 else 0)) (h4 : LB' (5 * lam X nL + 4) = nI (if w / 131072 < 2 then 1 else 0)) : LBI (nwF X nL w) (nL + 1) LB' (nwF sc nL s) := fun k hk hx => by
  by_cases z : k = nL
  · subst z
    rw [nw_1, nw_1, lam_nw (Nat.le_refl _)]
    exact ⟨h0, h1, h4⟩
  · have kl : k < nL := by omega
    rw [nw_2 kl] at hx ⊢
    have := lam_l kl hx
    rw [nw_2 kl, lam_nw (by omega), hL _ (by omega) (by omega), hL _ (by omega) (by omega), hL _ (by omega) (by omega)]
    exact h k kl hx
theorem LBI_c {X : Nat → Nat} {nL : Nat} {LB : Nat → Int32} {sc : Nat → Nat} (h : LBI X nL LB sc) {w s : Nat} (hw : w / 131072 = 2) : LBI (nwF X nL w) (nL + 1) LB (nwF sc nL s) := fun k hk hx => by
  by_cases z : k = nL
  · subst z
    rw [nw_1] at hx
    exact absurd hw hx
  · have kl : k < nL := by omega
    rw [nw_2 kl] at hx ⊢
    rw [nw_2 kl, lam_nw (by omega)]
    exact h k kl hx
theorem lam_n1 {X : Nat → Nat} {nL w : Nat} : lam (nwF X nL w) (nL + 1) = lam X nL + (if w / 131072 = 2 then 0 else 1) := by
  show lam (nwF X nL w) nL + (if nwF X nL w nL / 131072 = 2 then 0 else 1) = _
  rw [nw_1, lam_nw (Nat.le_refl _)]
