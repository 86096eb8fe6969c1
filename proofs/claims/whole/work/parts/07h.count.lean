theorem nb_on1' {k : Nat} (h : k < 2147483647) : Int32.ofNat k + 1 = Int32.ofNat (k + 1) := nb_on1 h
/-- how many of the first k breaks are there -/
def cn (f : Nat → Option Nat) : Nat → Nat
  | 0 => 0
  | k + 1 => cn f k + if (f k).isSome then 1 else 0
theorem nb_cn (f : Nat → Option Nat) : ∀ k : Nat, cn f k ≤ k := by
  intro k
  induction k with
  | zero => exact Nat.le_refl 0
  | succ k ih => show cn f k + (if (f k).isSome then 1 else 0) ≤ k + 1; split <;> omega
theorem nb_bt (n T L : Nat) (σ : S12) : ∀ m k g : Nat, k + m = 8 → m < g → df_X12_breaksThere_4 n T L g (Int32.ofNat (cn (σ.2.1 2) k)) (Int32.ofNat k) σ = some (Int32.ofNat (cn (σ.2.1 2) 8), σ) := by
  intro m
  induction m with
  | zero =>
    intro k g hk hg
    obtain ⟨g, rfl⟩ : ∃ z, g = z + 1 := ⟨g - 1, by omega⟩
    obtain rfl : k = 8 := by omega
    show dF_X12_breaksThere_4 n T L (df_X12_breaksThere_4 n T L g) _ _ σ = _
    unfold dF_X12_breaksThere_4
    rw [if_pos (by decide)]
  | succ m ih =>
    intro k g hk hg
    obtain ⟨g, rfl⟩ : ∃ z, g = z + 1 := ⟨g - 1, by omega⟩
    have e := nb_on (k := k) (by omega)
    have hc := nb_cn (σ.2.1 2) k
    show dF_X12_breaksThere_4 n T L (df_X12_breaksThere_4 n T L g) _ _ σ = _
    unfold dF_X12_breaksThere_4 df_X12_breaksThere_22
    rw [if_neg (show ¬ (8 : Int32) ≤ Int32.ofNat k from by rw [Int32.le_iff_toInt_le, e, show (8 : Int32).toInt = 8 from by decide]; omega), nb_ck (by omega) (by omega), nb_onat (by omega)]
    have h := ih (k + 1) g (by omega) (by omega)
    cases hs : σ.2.1 2 k with
    | none =>
      have hz : cn (σ.2.1 2) (k + 1) = cn (σ.2.1 2) k := by show cn (σ.2.1 2) k + (if (σ.2.1 2 k).isSome then 1 else 0) = _; rw [hs]; rfl
      rw [hz] at h
      rw [nb_mN, nb_let, nb_on1 (by omega)]
      exact h
    | some j =>
      have hz : cn (σ.2.1 2) (k + 1) = cn (σ.2.1 2) k + 1 := by show cn (σ.2.1 2) k + (if (σ.2.1 2 k).isSome then 1 else 0) = _; rw [hs]; rfl
      rw [hz] at h
      rw [nb_mS, nb_let, nb_let, nb_on1 (by omega), nb_on1 (by omega)]
      exact h
theorem nb_sz (n : Nat) (σ : S12) (s : St × (St × St)) (hb : ∀ k : Nat, k < 8 → sR s.1 1 k = if (σ.2.1 2 k).isSome then 1 else 0) : ∀ m k g : Nat, k + m = 8 → m < g → df_X15_size_4 n g (Int32.ofNat (cn (σ.2.1 2) k)) (Int32.ofNat k) s = some (Int32.ofNat (cn (σ.2.1 2) 8), s) := by
  intro m
  induction m with
  | zero =>
    intro k g hk hg
    obtain ⟨g, rfl⟩ : ∃ z, g = z + 1 := ⟨g - 1, by omega⟩
    obtain rfl : k = 8 := by omega
    show dF_X15_size_4 n (df_X15_size_4 n g) _ _ s = _
    unfold dF_X15_size_4
    rw [if_pos (by decide)]
  | succ m ih =>
    intro k g hk hg
    obtain ⟨g, rfl⟩ : ∃ z, g = z + 1 := ⟨g - 1, by omega⟩
    have e := nb_on (k := k) (by omega)
    have hc := nb_cn (σ.2.1 2) k
    show dF_X15_size_4 n (df_X15_size_4 n g) _ _ s = _
    unfold dF_X15_size_4 df_X15_size_26
    rw [if_neg (show ¬ (8 : Int32) ≤ Int32.ofNat k from by rw [Int32.le_iff_toInt_le, e, show (8 : Int32).toInt = 8 from by decide]; omega), nb_ck (by omega) (by omega), nb_onat (by omega), hb k (by omega)]
    have h := ih (k + 1) g (by omega) (by omega)
    cases hs : σ.2.1 2 k with
    | none =>
      have hz : cn (σ.2.1 2) (k + 1) = cn (σ.2.1 2) k := by show cn (σ.2.1 2) k + (if (σ.2.1 2 k).isSome then 1 else 0) = _; rw [hs]; rfl
      rw [hz] at h
      rw [if_pos (show (if (none : Option Nat).isSome then (1 : Int32) else 0) = 0 from rfl), nb_let, nb_on1 (by omega)]
      exact h
    | some j =>
      have hz : cn (σ.2.1 2) (k + 1) = cn (σ.2.1 2) k + 1 := by show cn (σ.2.1 2) k + (if (σ.2.1 2 k).isSome then 1 else 0) = _; rw [hs]; rfl
      rw [hz] at h
      rw [if_neg (show ¬ (if (some j : Option Nat).isSome then (1 : Int32) else 0) = 0 from (by decide : ¬ (1 : Int32) = 0)), nb_let, nb_on1 (by omega), nb_on1' (by omega)]
      exact h
theorem nb_count15 (n T L : Nat) (σ : S12) (τ : S19) (h : sI σ.1 0 = sI τ.1 1) : ∃ r : Int64, df_X12_count n T L 15 σ = some (r, σ) ∧ df_X19_count n 15 τ = some (r, (pI τ.1 0 0, τ.2)) := by
  refine ⟨(sI σ.1 0).toInt64, ?_, ?_⟩
  · unfold df_X12_count df_X12_count_0
    rw [if_pos rfl]
  · unfold df_X19_count df_X19_count_0 df_X19_count_12 df_X19_count_39
    rw [if_pos rfl, nb_let, if_pos rfl, h]
    rfl
theorem nb_count16 (n T L : Nat) (hn : 9 ≤ n) (σ : S12) (τ : S19) (h : rb σ τ) : ∃ r : Int64, df_X12_count n T L 16 σ = some (r, σ) ∧ df_X19_count n 16 τ = some (r, (pI τ.1 0 0, τ.2)) := by
  have h1 : df_X12_breaksThere n T L σ = some (Int32.ofNat (cn (σ.2.1 2) 8), σ) := nb_bt n T L σ 8 0 n (by omega) (by omega)
  have h2 : df_X15_size n τ.2.2.1 = some (Int32.ofNat (cn (σ.2.1 2) 8), τ.2.2.1) := nb_sz n σ τ.2.2.1 h 8 0 n (by omega) (by omega)
  refine ⟨(Int32.ofNat (cn (σ.2.1 2) 8)).toInt64, ?_, ?_⟩
  · unfold df_X12_count df_X12_count_0
    rw [if_neg (by decide), if_pos rfl, h1, nb_b2]
  · unfold df_X19_count df_X19_count_0 df_X19_count_12 df_X19_count_39
    rw [if_neg (by decide), if_pos rfl, nb_let, if_neg (by decide)]
    dsimp only
    rw [h2, nb_b2, nb_let]
