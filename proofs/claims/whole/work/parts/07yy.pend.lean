theorem ev16 {x : Int32} (h0 : gb x 0 = false) (h : ∀ i : Nat, 16 ≤ i → i < 32 → gb x i = false) : ∃ c : Nat, c < 32768 ∧ x = nI (2 * c) := by
  obtain ⟨R, hR, rfl⟩ := nI_ex x
  have l : R < 2 ^ 16 := Nat.lt_pow_two_of_testBit R (fun i hi => by
    by_cases c : i < 32
    · rw [← gb_n (k := R) c]
      exact h i hi c
    · exact Nat.testBit_lt_two_pow (Nat.lt_of_lt_of_le hR (Nat.pow_le_pow_right (by omega) (by omega))))
  rw [gb_n (by omega), Nat.testBit_zero] at h0
  have e := of_decide_eq_false h0
  exact ⟨R / 2, by omega, congrArg nI (by omega)⟩
theorem gb_ev {c i : Nat} (hc : c < 32768) (h : i = 0 ∨ 16 ≤ i) (hi : i < 32) : gb (nI (2 * c)) i = false := by
  rw [gb_n hi]
  rcases h with e | e
  · rw [e, Nat.testBit_zero]
    exact decide_eq_false (by omega)
  · exact Nat.testBit_lt_two_pow (Nat.lt_of_lt_of_le (show 2 * c < 2 ^ 16 by omega) (Nat.pow_le_pow_right (by omega) e))
/-- a signal comes -/
theorem pend_or {c b : Nat} (hc : c < 32768) (h1 : 1 ≤ b) (hb : b < 16) : ∃ c' : Nat, c' < 32768 ∧ nI (2 * c) ||| (nI 1 <<< nI b) = nI (2 * c') := by
  have one : ∀ j : Nat, j < 32 → j ≠ 0 → gb (nI 1) j = false := fun j hj hne => by
    rw [gb_n hj]
    exact Nat.testBit_lt_two_pow (Nat.lt_of_lt_of_le (show 1 < 2 ^ 1 by decide) (Nat.pow_le_pow_right (by omega) (by omega)))
  refine ev16 ?_ (fun i hi h32 => ?_)
  · rw [gb_or, gb_ev hc (Or.inl rfl) (by omega), gb_shl (by omega), decide_eq_true (show 0 < b by omega), Bool.not_true, Bool.and_false, Bool.false_and]
    rfl
  · rw [gb_or, gb_ev hc (Or.inr hi) h32, gb_shl (by omega), one (i - b) (by omega) (by omega), Bool.and_false]
    rfl
/-- a signal is taken -/
theorem pend_clr {c : Nat} (hc : c < 32768) (m : Int32) : ∃ c' : Nat, c' < 32768 ∧ nI (2 * c) &&& m = nI (2 * c') := by
  refine ev16 ?_ (fun i hi h32 => ?_)
  · rw [gb_and, gb_ev hc (Or.inl rfl) (by omega), Bool.false_and]
  · rw [gb_and, gb_ev hc (Or.inr hi) h32, Bool.false_and]
