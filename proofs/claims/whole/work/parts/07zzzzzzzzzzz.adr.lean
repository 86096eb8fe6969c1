/-- the reference's addresses(): a new row of ints, and what it holds; its address is not known here -/
def dF_X13_addresses_12 (n : Nat) (ln : Nat) (g12 : Int32 → Int32 → ((Nat → Int32) × St) → Option ((Nat → Int32) × St)) (x2 : Int32) (x3 : Int32) (s0 : (Nat → Int32) × St) : Option ((Nat → Int32) × St) := if (sI s0.2 3) ≤ x3 then (some s0) else (nd_ck (x3) 16500 (if ((((sR s0.2 6 (Int32.toNatClampNeg x3)) : Int32) >>> ((17 : Int32) &&& 31)) : Int32) < 2 then (nd_b2 (df_X13_valueOf n (x3) s0.2) (fun (q : Int32) (s : St) => nd_ck (x2) ln (g12 (x2 + 1) (x3 + 1) (upd s0.1 (Int32.toNatClampNeg x2) q, s)))) else (g12 (x2) (x3 + 1) s0)))
def df_X13_addresses_12 (n : Nat) (ln : Nat) : Nat → Int32 → Int32 → ((Nat → Int32) × St) → Option ((Nat → Int32) × St)
  | 0 => fun _ _ _ => none
  | k + 1 => dF_X13_addresses_12 n ln (df_X13_addresses_12 n ln k)
def df_X13_addresses (n : Nat) (s0 : St) : Option ((Nat × (Nat → Int32)) × St) := nd_b2 (df_X13_countOf n (0) s0) (fun (q : Int32) (s : St) => if 0 ≤ q.toInt ∧ q.toInt ≤ 10986 then (nd_b1 (df_X13_addresses_12 n (Int32.toNatClampNeg q) n (0) (0) (fun _ => 0, s)) (fun (r : (Nat → Int32) × St) => some ((Int32.toNatClampNeg q, r.1), r.2))) else none)
/-- what it holds -/
def adR (X : Nat → Nat) (V : Nat → Int32) (R : Nat → Int32) : Nat → Nat → Int32
  | 0 => R
  | k + 1 => if X k / 131072 < 2 then upd (adR X V R k) (nmd X k) (V k) else adR X V R k
theorem nmd_l (X : Nat → Nat) : ∀ k : Nat, nmd X k ≤ k := fun k => by
  induction k with
  | zero => exact Nat.le_refl 0
  | succ k ih =>
    show nmd X k + (if X k / 131072 < 2 then 1 else 0) ≤ k + 1
    split <;> omega
theorem nmd_n (X : Nat → Nat) (k : Nat) : nmd X (k + 1) = nmd X k + (if X k / 131072 < 2 then 1 else 0) := rfl
theorem nmd_m (X : Nat → Nat) : ∀ m k : Nat, nmd X k ≤ nmd X (k + m) := fun m => by
  induction m with
  | zero => intro k; exact Nat.le_refl _
  | succ m ih =>
    intro k
    have := ih k
    rw [show k + (m + 1) = (k + m) + 1 from rfl, nmd_n]
    omega
theorem lam_n (X : Nat → Nat) (k : Nat) : lam X (k + 1) = lam X k + (if X k / 131072 = 2 then 0 else 1) := rfl
/-- countOf(false), countOf(true) -/
theorem cou_0 {n nL : Nat} {X : Nat → Nat} {S : St} (hL : nL ≤ 16500) (h3 : sI S 3 = nI nL) (h6 : ∀ k : Nat, k < nL → sR S 6 k = nI (X k)) (hX : ∀ k : Nat, k < nL → X k < 2 ^ 20) : ∀ m k g : Nat, k + m = nL → m < g → df_X13_countOf_4 n g 0 (nI (nmd X k)) (nI k) S = some (nI (nmd X nL), S) ∧ df_X13_countOf_4 n g 1 (nI (k - lam X k)) (nI k) S = some (nI (nL - lam X nL), S) := fun m => by
  induction m with
  | zero =>
    intro k g h1 h2
    obtain ⟨g, rfl⟩ : ∃ k : Nat, g = k + 1 := ⟨g - 1, by omega⟩
    have e : k = nL := by omega
    subst e
    constructor
    · show dF_X13_countOf_4 n (df_X13_countOf_4 n g) 0 (nI (nmd X k)) (nI k) S = _
      unfold dF_X13_countOf_4
      rw [h3, if_pos (zle (Nat.le_refl k) (by omega))]
    · show dF_X13_countOf_4 n (df_X13_countOf_4 n g) 1 (nI (k - lam X k)) (nI k) S = _
      unfold dF_X13_countOf_4
      rw [h3, if_pos (zle (Nat.le_refl k) (by omega))]
  | succ m ih =>
    intro k g h1 h2
    obtain ⟨g, rfl⟩ : ∃ k : Nat, g = k + 1 := ⟨g - 1, by omega⟩
    have x2 := hX k (by omega)
    have s1 : (nI (X k) : Int32) >>> ((17 : Int32) &&& 31) = nI (X k / 131072) := pk_shrN (by omega) _ 17 (by decide)
    obtain ⟨i1, i2⟩ := ih (k + 1) g (by omega) (by omega)
    rw [nmd_n] at i1
    rw [lam_n] at i2
    have ll := lam_le X k
    have nl := nmd_l X k
    constructor
    · show dF_X13_countOf_4 n (df_X13_countOf_4 n g) 0 (nI (nmd X k)) (nI k) S = _
      unfold dF_X13_countOf_4 df_X13_countOf_59
      rw [h3, if_neg (znle (show k < nL by omega) (by omega)), if_pos rfl, nm_ck (by omega) (by omega), nI_clamp (by omega), h6 k (by omega), s1]
      by_cases y : X k / 131072 < 2
      · rw [if_pos y] at i1
        rw [if_neg (show ¬ (2 : Int32) ≤ nI (X k / 131072) from znle (a := 2) y (by omega)), nb_let, show nI k + Int32.ofInt 1 = nI (k + 1) from nI_add k 1, show nI (nmd X k) + 1 = nI (nmd X k + 1) from nI_add _ 1]
        exact i1
      · rw [if_neg y] at i1
        rw [if_pos (show (2 : Int32) ≤ nI (X k / 131072) from zle (a := 2) (by omega) (by omega)), nb_let, show nI k + Int32.ofInt 1 = nI (k + 1) from nI_add k 1]
        exact i1
    · show dF_X13_countOf_4 n (df_X13_countOf_4 n g) 1 (nI (k - lam X k)) (nI k) S = _
      unfold dF_X13_countOf_4 df_X13_countOf_59
      rw [h3, if_neg (znle (show k < nL by omega) (by omega)), if_neg (show ¬ (1 : Int32) = 0 by decide), nm_ck (by omega) (by omega), nI_clamp (by omega), h6 k (by omega), s1]
      by_cases y : X k / 131072 = 2
      · rw [if_pos y, show k + 1 - (lam X k + 0) = k - lam X k + 1 by omega] at i2
        rw [if_pos (show nI (X k / 131072) = (2 : Int32) from congrArg nI y), nb_let, show nI k + Int32.ofInt 1 = nI (k + 1) from nI_add k 1, show nI (k - lam X k) + 1 = nI (k - lam X k + 1) from nI_add _ 1]
        exact i2
      · rw [if_neg y, show k + 1 - (lam X k + 1) = k - lam X k by omega] at i2
        rw [if_neg (show ¬ nI (X k / 131072) = (2 : Int32) from zne (b := 2) y (by omega) (by omega)), nb_let, show nI k + Int32.ofInt 1 = nI (k + 1) from nI_add k 1]
        exact i2
/-- addresses() -/
theorem adr_12 {n nL : Nat} {X : Nat → Nat} {S : St} (hL : nL ≤ 16500) (h3 : sI S 3 = nI nL) (h6 : ∀ k : Nat, k < nL → sR S 6 k = nI (X k)) (hX : ∀ k : Nat, k < nL → X k < 2 ^ 20) : ∀ m k g : Nat, k + m = nL → m < g → df_X13_addresses_12 n (nmd X nL) g (nI (nmd X k)) (nI k) (adR X (vlO (sI S 4) X (sR S 7)) (fun _ => 0) k, S) = some (adR X (vlO (sI S 4) X (sR S 7)) (fun _ => 0) nL, S) := fun m => by
  induction m with
  | zero =>
    intro k g h1 h2
    obtain ⟨g, rfl⟩ : ∃ k : Nat, g = k + 1 := ⟨g - 1, by omega⟩
    have e : k = nL := by omega
    subst e
    show dF_X13_addresses_12 n (nmd X k) (df_X13_addresses_12 n (nmd X k) g) (nI (nmd X k)) (nI k) (adR X (vlO (sI S 4) X (sR S 7)) (fun _ => 0) k, S) = _
    unfold dF_X13_addresses_12
    rw [show sI ((adR X (vlO (sI S 4) X (sR S 7)) (fun _ => 0) k, S) : (Nat → Int32) × St).2 3 = nI k from h3, if_pos (zle (Nat.le_refl k) (by omega))]
  | succ m ih =>
    intro k g h1 h2
    obtain ⟨g, rfl⟩ : ∃ k : Nat, g = k + 1 := ⟨g - 1, by omega⟩
    have x2 := hX k (by omega)
    have s1 : (nI (X k) : Int32) >>> ((17 : Int32) &&& 31) = nI (X k / 131072) := pk_shrN (by omega) _ 17 (by decide)
    have i1 := ih (k + 1) g (by omega) (by omega)
    have nl := nmd_l X k
    have nm := nmd_m X m (k + 1)
    rw [show k + 1 + m = nL by omega] at nm
    rw [nmd_n] at i1 nm
    rw [show adR X (vlO (sI S 4) X (sR S 7)) (fun _ => 0) (k + 1) = (if X k / 131072 < 2 then upd (adR X (vlO (sI S 4) X (sR S 7)) (fun _ => 0) k) (nmd X k) (vlO (sI S 4) X (sR S 7) k) else adR X (vlO (sI S 4) X (sR S 7)) (fun _ => 0) k) from rfl] at i1
    show dF_X13_addresses_12 n (nmd X nL) (df_X13_addresses_12 n (nmd X nL) g) (nI (nmd X k)) (nI k) (adR X (vlO (sI S 4) X (sR S 7)) (fun _ => 0) k, S) = _
    unfold dF_X13_addresses_12
    rw [show sI ((adR X (vlO (sI S 4) X (sR S 7)) (fun _ => 0) k, S) : (Nat → Int32) × St).2 3 = nI nL from h3, if_neg (znle (show k < nL by omega) (by omega)), nm_ck (by omega) (by omega), nI_clamp (by omega), show sR ((adR X (vlO (sI S 4) X (sR S 7)) (fun _ => 0) k, S) : (Nat → Int32) × St).2 6 k = nI (X k) from h6 k (by omega), s1, show nI k + 1 = nI (k + 1) from nI_add k 1]
    by_cases y : X k / 131072 < 2
    · rw [if_pos y, if_pos y] at i1
      rw [if_pos y] at nm
      rw [if_pos (show nI (X k / 131072) < (2 : Int32) from zlt (b := 2) y (by omega)), show df_X13_valueOf n (nI k) ((adR X (vlO (sI S 4) X (sR S 7)) (fun _ => 0) k, S) : (Nat → Int32) × St).2 = _ from vo_1 k nL X (by omega) hL ⟨h6 k (by omega), x2⟩, nb_b2, nm_ck (by omega) (by omega), nI_clamp (by omega), show nI (nmd X k) + 1 = nI (nmd X k + 1) from nI_add _ 1]
      exact i1
    · rw [if_neg y, if_neg y] at i1
      rw [if_neg (show ¬ nI (X k / 131072) < (2 : Int32) from znl (b := 2) (by omega) (by omega))]
      exact i1
theorem adr_1 {n nL : Nat} {X : Nat → Nat} {S : St} (hn : 20000 < n) (hL : nL ≤ 16500) (h3 : sI S 3 = nI nL) (h6 : ∀ k : Nat, k < nL → sR S 6 k = nI (X k)) (hX : ∀ k : Nat, k < nL → X k < 2 ^ 20) (hb : nmd X nL ≤ 10986) : df_X13_addresses n S = some ((nmd X nL, adR X (vlO (sI S 4) X (sR S 7)) (fun _ => 0) nL), S) := by
  have c0 := (cou_0 (n := n) hL h3 h6 hX nL 0 n (by omega) (by omega)).1
  have a0 := adr_12 (n := n) hL h3 h6 hX nL 0 n (by omega) (by omega)
  have nl := nmd_l X nL
  unfold df_X13_addresses df_X13_countOf df_X13_countOf_0
  rw [show df_X13_countOf_4 n n 0 0 0 S = some (nI (nmd X nL), S) from c0, nb_b2, nI_toInt (by omega), if_pos ⟨by omega, by omega⟩, nI_clamp (by omega), show df_X13_addresses_12 n (nmd X nL) n 0 0 (fun _ => 0, S) = _ from a0, nb_b1]
/-- the class's row of labels is the same -/
theorem lcs_n {R R1 : Nat → Int32} (j : Nat) : lcS R R1 (j + 1) = if R (5 * j + 4) = 1 ∧ (lcS R R1 j).1 < 10986 then ((lcS R R1 j).1 + 1, upd (lcS R R1 j).2 (lcS R R1 j).1 (R (5 * j + 2))) else lcS R R1 j := rfl
theorem lcs_R {X : Nat → Nat} {V : Nat → Int32} {R R1 R2 : Nat → Int32} {nL : Nat} (h4 : ∀ k : Nat, k < nL → ¬ X k / 131072 = 2 → R (5 * lam X k + 4) = nI (if X k / 131072 < 2 then 1 else 0)) (h2 : ∀ k : Nat, k < nL → ¬ X k / 131072 = 2 → R (5 * lam X k + 2) = V k) (hb : nmd X nL ≤ 10986) : ∀ k : Nat, k ≤ nL → (lcS R R1 (lam X k)).1 = nmd X k ∧ ∀ i : Nat, i < nmd X k → (lcS R R1 (lam X k)).2 i = adR X V R2 k i := fun k => by
  induction k with
  | zero => intro _; exact ⟨rfl, fun i hi => absurd hi (Nat.not_lt_zero _)⟩
  | succ k ih =>
    intro hk
    obtain ⟨i1, i2⟩ := ih (by omega)
    have nm := nmd_m X (nL - (k + 1)) (k + 1)
    rw [show k + 1 + (nL - (k + 1)) = nL by omega] at nm
    rw [nmd_n] at nm
    rw [lam_n, nmd_n, show adR X V R2 (k + 1) = (if X k / 131072 < 2 then upd (adR X V R2 k) (nmd X k) (V k) else adR X V R2 k) from rfl]
    by_cases y : X k / 131072 = 2
    · rw [if_pos y, if_neg (by omega), if_neg (by omega)]
      exact ⟨i1, i2⟩
    · rw [if_neg y, lcs_n, h4 k (by omega) y, h2 k (by omega) y, i1]
      by_cases z : X k / 131072 < 2
      · rw [if_pos z] at nm
        rw [if_pos z, if_pos (show nI 1 = (1 : Int32) ∧ nmd X k < 10986 from ⟨rfl, by omega⟩), if_pos z]
        refine ⟨rfl, fun i hi => ?_⟩
        show upd (lcS R R1 (lam X k)).2 (nmd X k) (V k) i = upd (adR X V R2 k) (nmd X k) (V k) i
        by_cases w : i = nmd X k
        · rw [w, up_e, up_e]
        · rw [up_n w, up_n w]
          exact i2 i (by omega)
      · rw [if_neg z, if_neg (show ¬ (nI 0 = (1 : Int32) ∧ nmd X k < 10986) from fun h => absurd h.1 (by decide)), if_neg z]
        exact ⟨i1, i2⟩
