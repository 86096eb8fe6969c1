/-- descriptors -/
def rd (M X : St × St) : Prop := ∀ i : Nat, i < 256 → sR M.2 0 i - 1 = sR X.1 14 i
theorem nb_openingOf (n : Nat) {P : Nat} (hP : P < 16) (d : Int32) (M X : St × St) (h : rd M X) : ∃ v : Int32, df_X10_openingOf n (nI P) d M.2 = some (v, M.2) ∧ df_X16_openingOf n (nI P) d X = some (v, X) := by
  unfold df_X10_openingOf df_X10_openingOf_0 df_X10_openingOf_10 df_X10_openingOf_27 df_X16_openingOf df_X16_openingOf_0 df_X16_openingOf_24 df_X16_openingOf_25
  by_cases a : d < 0
  · rw [if_pos a, if_pos a]
    exact ⟨_, rfl, rfl⟩
  · rw [if_neg a, if_neg a]
    obtain ⟨D, hD, rfl⟩ := nI_of a
    by_cases b : D < 16
    · rw [if_pos (show nI D < (16 : Int32) from nI_lt (b := 16) b (by omega)), if_neg (show ¬ (16 : Int32) ≤ nI D from nI_ge (b := 16) b (by omega)), show (16 : Int32) = nI 16 from rfl, pk_mul, pk_mul, nI_add, nI_add, show P * 16 + D = 16 * P + D from by omega]
      have e : (nI (16 * P + D)).toInt = ((16 * P + D : Nat) : Int) := nI_toInt (by omega)
      rw [nb_ck (by omega) (by omega), nb_ck (by omega) (by omega), nI_clamp (by omega), h _ (by omega)]
      exact ⟨_, rfl, rfl⟩
    · rw [if_neg (show ¬ nI D < (16 : Int32) from nI_nlt (b := 16) (by omega) hD), if_pos (show (16 : Int32) ≤ nI D from nI_le (a := 16) (by omega) hD)]
      exact ⟨_, rfl, rfl⟩
