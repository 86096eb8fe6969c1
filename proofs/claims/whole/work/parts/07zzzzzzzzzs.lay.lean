/-- layout: how long a statement is, where it lies in its section -/
def szN (D : Dt) (bb : Int32) (l off : Nat) : Nat := if D.1 = 1 ∨ D.1 = 2 then 2 * 2 ^ l else if D.1 = 8 then ((-nI off) &&& (((1 : Int32) <<< ((-1 - bb) &&& 31)) - 1)).toNatClampNeg else bb.toNatClampNeg
def lay (Ds : Nat → Dt) (Zs : Nat → Nat) (BY : Nat → Int32) (lv : Nat → Nat) : Nat → Nat × Nat
  | 0 => (0, 0)
  | s + 1 => if Zs s = 1 then ((lay Ds Zs BY lv s).1, (lay Ds Zs BY lv s).2 + szN (Ds s) (BY s) (lv s) (lay Ds Zs BY lv s).2) else ((lay Ds Zs BY lv s).1 + szN (Ds s) (BY s) (lv s) (lay Ds Zs BY lv s).1, (lay Ds Zs BY lv s).2)
def ofs (Ds : Nat → Dt) (Zs : Nat → Nat) (BY : Nat → Int32) (lv : Nat → Nat) (s : Nat) : Nat := if Zs s = 1 then (lay Ds Zs BY lv s).2 else (lay Ds Zs BY lv s).1
/-- what of a statement matters for its length -/
def ZK (D : Dt) (bb : Int32) (fl l : Nat) : Prop := (D.1 = 1 ∧ fl = 8 ∧ l ≤ 1 ∧ ∃ k : Nat, k ≤ 8 ∧ bb = nI k) ∨ (D.1 = 2 ∧ (fl = 16 ∨ fl = 25) ∧ l ≤ 2 ∧ ∃ k : Nat, k ≤ 8 ∧ bb = nI k) ∨ (D.1 = 8 ∧ fl = 0 ∧ l = 0 ∧ ∃ k : Nat, k ≤ 10 ∧ bb = -1 - nI k) ∨ (¬ D.1 = 1 ∧ ¬ D.1 = 2 ∧ ¬ D.1 = 8 ∧ fl = 0 ∧ l = 0 ∧ ∃ m : Nat, m ≤ 131072 ∧ bb = nI m ∧ (D.1 = 9 → m = 0))
theorem numB_l (d v : Int32) : (numB d v).length ≤ 8 := by
  unfold numB
  split
  · exact Nat.le_of_ble_eq_true rfl
  · split
    · exact Nat.le_of_ble_eq_true rfl
    · rw [List.length_append]
      split
      · exact Nat.le_of_ble_eq_true rfl
      · exact Nat.le_of_ble_eq_true rfl
theorem STr_z {n L : Nat} {c X : Nat → Nat} {nL : Nat} {W SW LW C A : Nat → Int32} {ns : Nat} {bs ws : Nat → Nat} {cs lu i : Nat} {pa bb : Int32} {D : Dt} {q e se ln fl n0 : Nat} {NP : Nat → Int32} (h : STr n L c X nL W SW LW C A ns bs ws cs lu i pa bb D q e se ln fl n0 NP) (hlu : lu ≤ 131072) (l : Nat) (h1 : D.1 = 1 → l ≤ 1) (h2 : D.1 = 2 → l ≤ 2) (h3 : ¬ D.1 = 1 → ¬ D.1 = 2 → l = 0) : ZK D bb fl l := by
  obtain ⟨a1, a2, a3, a4, a5, a6, a6', a7, a8, a9, a10, a11, a12, a13⟩ := h
  rcases a13 with ⟨z1, z2, z3, z4⟩ | ⟨z, le, b, cd, lt, s0, s1, u0, u1, c1, c2, c3, c4, c5, c6, c7, c8, c9, c10⟩
  · exact Or.inr (Or.inr (Or.inr ⟨by omega, by omega, by omega, z4, h3 (by omega) (by omega), 0, by omega, z3, fun _ => rfl⟩))
  · rcases c8 with h | h | h | h | h | h | h | h | h
    · obtain ⟨k1, k2, k3, k4, k5, k6⟩ := h
      refine Or.inr (Or.inr (Or.inr ⟨by omega, by omega, by omega, k2, h3 (by omega) (by omega), (if D.2.1 &&& 3 = 3 then 4 else 2), ?_, ?_, by omega⟩))
      · split <;> omega
      · rw [k5, k4]; split <;> rfl
    · exact Or.inl ⟨h.1, h.2.1, h1 h.1, h.2.2.2.2.2.2.2.2⟩
    · refine Or.inr (Or.inl ⟨h.1, ?_, h2 h.1, h.2.2.2.2.2.2.2⟩)
      rcases h.2.1 with w | w
      · exact Or.inl w.1
      · exact Or.inr w.1
    · obtain ⟨k1, k2, k3, k4, k5, k6⟩ := h
      exact Or.inr (Or.inr (Or.inr ⟨by omega, by omega, by omega, k2, h3 (by omega) (by omega), 8, by omega, by rw [k5, k4], by omega⟩))
    · obtain ⟨k1, k2, k3, k4, k5, k6, k7⟩ := h
      exact Or.inr (Or.inr (Or.inr ⟨by omega, by omega, by omega, k2, h3 (by omega) (by omega), (numB b cd).length, by have := numB_l b cd; omega, by rw [k6, k5], by omega⟩))
    · obtain ⟨k1, k2, k3, k4, k5, k6, k7, k8, k9, k10⟩ := h
      refine Or.inr (Or.inr (Or.inr ⟨by omega, by omega, by omega, k2, h3 (by omega) (by omega), D.2.2.1 * D.2.2.2.1.length, ?_, by rw [k6, k5], by omega⟩))
      rcases k3 with w | w | w <;> (rw [w]; omega)
    · obtain ⟨k1, k2, k3, k4, k5, k6, k7, k8⟩ := h
      exact Or.inr (Or.inr (Or.inr ⟨by omega, by omega, by omega, k2, h3 (by omega) (by omega), D.2.2.2.2.length, by omega, by rw [k4, k3], by omega⟩))
    · obtain ⟨k1, k2, k3, k, k4, k5, k6⟩ := h
      exact Or.inr (Or.inr (Or.inr ⟨by omega, by omega, by omega, k2, h3 (by omega) (by omega), k, by omega, by rw [k6, k5], by omega⟩))
    · obtain ⟨k1, k2, k3, k, k4, k5, k6, k7⟩ := h
      exact Or.inr (Or.inr (Or.inl ⟨k1, k2, h3 (by omega) (by omega), k, k4, k7⟩))
theorem al_m : ∀ k : Fin 11, ((1 : Int32) <<< ((-1 - (-1 - nI k.1)) &&& 31)) - 1 = nI (2 ^ k.1 - 1) ∧ (1 : Int32) <<< (nI k.1 &&& 31) - 1 = nI (2 ^ k.1 - 1) ∧ 2 ^ k.1 ≤ 1024 ∧ 1 ≤ 2 ^ k.1 := by decide +kernel
theorem and_b (x : Int32) {m : Nat} (hm : m < 2 ^ 31) : ∃ r : Nat, r ≤ m ∧ x &&& nI m = nI r := by
  obtain ⟨A, hA, e⟩ := nI_ex x
  refine ⟨A &&& m, Nat.and_le_right, ?_⟩
  rw [e]
  apply Int32.toBitVec_inj.mp
  show (BitVec.ofInt 32 (A : Int)) &&& (BitVec.ofInt 32 (m : Int)) = BitVec.ofInt 32 ((A &&& m : Nat) : Int)
  rw [BitVec.ofInt_natCast, BitVec.ofInt_natCast, BitVec.ofInt_natCast]
  apply BitVec.eq_of_toNat_eq
  rw [BitVec.toNat_and, BitVec.toNat_ofNat, BitVec.toNat_ofNat, BitVec.toNat_ofNat, Nat.mod_eq_of_lt hA, Nat.mod_eq_of_lt (by omega), Nat.mod_eq_of_lt (Nat.lt_of_le_of_lt Nat.and_le_left hA)]
/-- a length is small, and is what both count -/
theorem sz_1 {D : Dt} {bb : Int32} {fl l : Nat} (h : ZK D bb fl l) (off : Nat) : szN D bb l off ≤ 131072 ∧ (D.1 = 9 → szN D bb l off = 0) ∧ (D.1 = 8 → nI (szN D bb l off) = (-nI off) &&& (((1 : Int32) <<< ((-1 - bb) &&& 31)) - 1)) ∧ (D.1 = 1 ∨ D.1 = 2 → szN D bb l off = 2 * 2 ^ l) ∧ (¬ D.1 = 1 → ¬ D.1 = 2 → ¬ D.1 = 8 → nI (szN D bb l off) = bb) := by
  rcases h with ⟨h1, h2, h3, _⟩ | ⟨h1, h2, h3, _⟩ | ⟨h1, h2, h3, k, hk, hb⟩ | ⟨h1, h2, h3, h4, h5, m, hm, hb, h9⟩
  · have e : szN D bb l off = 2 * 2 ^ l := if_pos (Or.inl h1)
    have : l = 0 ∨ l = 1 := by omega
    refine ⟨?_, by omega, by omega, fun _ => e, fun w => absurd h1 w⟩
    rw [e]
    rcases this with w | w <;> (rw [w]; decide)
  · have e : szN D bb l off = 2 * 2 ^ l := if_pos (Or.inr h1)
    have : l = 0 ∨ l = 1 ∨ l = 2 := by omega
    refine ⟨?_, by omega, by omega, fun _ => e, fun _ w => absurd h1 w⟩
    rw [e]
    rcases this with w | w | w <;> (rw [w]; decide)
  · have e : szN D bb l off = ((-nI off) &&& (((1 : Int32) <<< ((-1 - bb) &&& 31)) - 1)).toNatClampNeg := (if_neg (by omega)).trans (if_pos h1)
    have ha := al_m ⟨k, by omega⟩
    rw [← hb] at ha
    have ha1 : ((1 : Int32) <<< ((-1 - bb) &&& 31)) - 1 = nI (2 ^ k - 1) := ha.1
    have ha3 : 2 ^ k ≤ 1024 ∧ 1 ≤ 2 ^ k := ha.2.2
    obtain ⟨r, hr, er⟩ := and_b (-nI off) (m := 2 ^ k - 1) (by omega)
    rw [e, ha1, er, nI_clamp (by omega)]
    exact ⟨by omega, by omega, fun _ => rfl, by omega, fun _ _ w => absurd h1 w⟩
  · have e : szN D bb l off = bb.toNatClampNeg := (if_neg (by omega)).trans (if_neg h3)
    rw [e, hb, nI_clamp (by omega)]
    exact ⟨by omega, fun w => h9 w, fun w => absurd w h3, by omega, fun _ _ _ => rfl⟩
theorem lay_l {Ds : Nat → Dt} {Zs : Nat → Nat} {BY : Nat → Int32} {lv Fs : Nat → Nat} : ∀ s : Nat, (∀ i : Nat, i < s → ZK (Ds i) (BY i) (Fs i) (lv i)) → (lay Ds Zs BY lv s).1 + (lay Ds Zs BY lv s).2 ≤ s * 131072 := fun s => by
  induction s with
  | zero => intro _; exact Nat.le_refl 0
  | succ s ih =>
    intro h
    have i1 := ih (fun i hi => h i (by omega))
    have h1 := (sz_1 (h s (by omega)) (lay Ds Zs BY lv s).1).1
    have h2 := (sz_1 (h s (by omega)) (lay Ds Zs BY lv s).2).1
    show (if Zs s = 1 then _ else _ : Nat × Nat).1 + (if Zs s = 1 then _ else _ : Nat × Nat).2 ≤ _
    split
    · show (lay Ds Zs BY lv s).1 + ((lay Ds Zs BY lv s).2 + _) ≤ _
      omega
    · show (lay Ds Zs BY lv s).1 + _ + (lay Ds Zs BY lv s).2 ≤ _
      omega
theorem lay_mu {Ds : Nat → Dt} {Zs : Nat → Nat} {BY : Nat → Int32} {lv Fs : Nat → Nat} {nS : Nat} (h : ∀ i : Nat, i < nS → ZK (Ds i) (BY i) (Fs i) (lv i)) : ∀ j s : Nat, s + j ≤ nS → mu Ds s = mu Ds (s + j) → lay Ds Zs BY lv (s + j) = lay Ds Zs BY lv s := fun j => by
  induction j with
  | zero => intro s _ _; rfl
  | succ j ih =>
    intro s hs hm
    have m1 := mu_m Ds j s
    have e : mu Ds (s + (j + 1)) = mu Ds (s + j) + (if (Ds (s + j)).1 = 9 then 0 else 1) := rfl
    have h9 : (Ds (s + j)).1 = 9 := Classical.byContradiction fun w => by
      rw [if_neg w] at e; omega
    rw [if_pos h9] at e
    have z1 := (sz_1 (h (s + j) (by omega)) (lay Ds Zs BY lv (s + j)).1).2.1 h9
    have z2 := (sz_1 (h (s + j) (by omega)) (lay Ds Zs BY lv (s + j)).2).2.1 h9
    have i1 := ih s (by omega) (by omega)
    rw [← i1]
    show (if Zs (s + j) = 1 then ((lay Ds Zs BY lv (s + j)).1, (lay Ds Zs BY lv (s + j)).2 + szN (Ds (s + j)) (BY (s + j)) (lv (s + j)) (lay Ds Zs BY lv (s + j)).2) else ((lay Ds Zs BY lv (s + j)).1 + szN (Ds (s + j)) (BY (s + j)) (lv (s + j)) (lay Ds Zs BY lv (s + j)).1, (lay Ds Zs BY lv (s + j)).2)) = _
    rw [z1, z2, Nat.add_zero, Nat.add_zero]
    split <;> rfl
theorem lay_e {Ds : Nat → Dt} {Zs : Nat → Nat} {BY : Nat → Int32} {lv Fs : Nat → Nat} {nS : Nat} (h : ∀ i : Nat, i < nS → ZK (Ds i) (BY i) (Fs i) (lv i)) {s t : Nat} (hs : s ≤ nS) (ht : t ≤ nS) (hm : mu Ds s = mu Ds t) : lay Ds Zs BY lv s = lay Ds Zs BY lv t := by
  by_cases z : s ≤ t
  · have := lay_mu (Zs := Zs) h (t - s) s (by omega) (by rw [show s + (t - s) = t by omega]; exact hm)
    rw [show s + (t - s) = t by omega] at this
    exact this.symm
  · have := lay_mu (Zs := Zs) h (s - t) t (by omega) (by rw [show t + (s - t) = s by omega]; exact hm.symm)
    rw [show t + (s - t) = s by omega] at this
    exact this
/-- a counting row turned round -/
theorem inv_ex (f : Nat → Nat) (hs : ∀ s : Nat, f (s + 1) = f s ∨ f (s + 1) = f s + 1) (h0 : f 0 = 0) : ∀ n : Nat, ∃ g : Nat → Nat, ∀ j : Nat, j < f n → g j < n ∧ f (g j) = j ∧ f (g j + 1) = j + 1 := fun n => by
  induction n with
  | zero => exact ⟨fun _ => 0, fun j hj => by omega⟩
  | succ n ih =>
    obtain ⟨g, hg⟩ := ih
    rcases hs n with h | h
    · exact ⟨g, fun j hj => by
        obtain ⟨a, b, d⟩ := hg j (by omega)
        exact ⟨by omega, b, d⟩⟩
    · refine ⟨nwF g (f n) n, fun j hj => ?_⟩
      by_cases z : j = f n
      · subst z
        rw [nw_1]
        exact ⟨by omega, rfl, h⟩
      · rw [nw_2 (by omega)]
        obtain ⟨a, b, d⟩ := hg j (by omega)
        exact ⟨by omega, b, d⟩
theorem sg_ex (Ds : Nat → Dt) (nS : Nat) : ∃ sg : Nat → Nat, (∀ i : Nat, i < mu Ds nS → sg i < nS ∧ mu Ds (sg i) = i ∧ ¬ (Ds (sg i)).1 = 9) ∧ sg (mu Ds nS) = nS := by
  obtain ⟨g, hg⟩ := inv_ex (mu Ds) (fun s => by
    show mu Ds s + (if (Ds s).1 = 9 then 0 else 1) = mu Ds s ∨ mu Ds s + (if (Ds s).1 = 9 then 0 else 1) = mu Ds s + 1
    split
    · exact Or.inl rfl
    · exact Or.inr rfl) rfl nS
  refine ⟨nwF g (mu Ds nS) nS, fun i hi => ?_, nw_1⟩
  rw [nw_2 hi]
  obtain ⟨a, b, d⟩ := hg i hi
  refine ⟨a, b, fun w => ?_⟩
  rw [mu_s, if_pos w, b] at d
  omega
theorem ek_ex (X : Nat → Nat) (nL : Nat) : ∃ ek : Nat → Nat, ∀ j : Nat, j < lam X nL → ek j < nL ∧ lam X (ek j) = j ∧ ¬ X (ek j) / 131072 = 2 := by
  obtain ⟨g, hg⟩ := inv_ex (lam X) (fun s => by
    show lam X s + (if X s / 131072 = 2 then 0 else 1) = lam X s ∨ lam X s + (if X s / 131072 = 2 then 0 else 1) = lam X s + 1
    split
    · exact Or.inl rfl
    · exact Or.inr rfl) rfl nL
  refine ⟨g, fun j hj => ?_⟩
  obtain ⟨a, b, d⟩ := hg j hj
  refine ⟨a, b, fun w => ?_⟩
  have e : lam X (g j + 1) = lam X (g j) + (if X (g j) / 131072 = 2 then 0 else 1) := rfl
  rw [e, if_pos w, b] at d
  omega
/-- the statement before which a label stands, in the reference -/
def sK (N0 : Nat → Nat) (nS k : Nat) : Nat := fN (fun s => decide (k < N0 s)) 0 nS
theorem sK_1 (N0 : Nat → Nat) (nS k : Nat) : sK N0 nS k ≤ nS ∧ (sK N0 nS k < nS → k < N0 (sK N0 nS k)) ∧ ∀ s : Nat, s < sK N0 nS k → N0 s ≤ k := by
  obtain ⟨a, b, d, f⟩ := fN_le (fun s => decide (k < N0 s)) nS 0
  refine ⟨by unfold sK; omega, fun h => ?_, fun s hs => ?_⟩
  · have := d (by unfold sK at h; omega)
    exact of_decide_eq_true this
  · have := f s (Nat.zero_le _) hs
    exact Nat.not_lt.mp (of_decide_eq_false this)
theorem sK_m {N0 sc : Nat → Nat} {Ds : Nat → Dt} {nS nL sn k : Nat} (hsn : sn = mu Ds nS) (h1 : ∀ k : Nat, k < nL → sc k ≤ sn) (h2 : ∀ k s : Nat, k < nL → s < nS → (k < N0 s → sc k ≤ mu Ds s) ∧ (N0 s ≤ k → mu Ds (s + 1) ≤ sc k)) (hk : k < nL) : mu Ds (sK N0 nS k) = sc k := by
  obtain ⟨a, b, d⟩ := sK_1 N0 nS k
  have up : sc k ≤ mu Ds (sK N0 nS k) := by
    by_cases z : sK N0 nS k < nS
    · exact (h2 k _ hk z).1 (b z)
    · rw [show sK N0 nS k = nS by omega, ← hsn]; exact h1 k hk
  by_cases z : sK N0 nS k = 0
  · rw [z] at up ⊢
    have : mu Ds 0 = 0 := rfl
    omega
  · have := (h2 k (sK N0 nS k - 1) hk (by omega)).2 (d _ (by omega))
    rw [show sK N0 nS k - 1 + 1 = sK N0 nS k by omega] at this
    omega
