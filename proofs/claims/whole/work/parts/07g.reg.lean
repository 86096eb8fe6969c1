/-- registers, places and states of the two machines -/
def rg (M : St × St) (X : St × St) : Prop := ∀ p : Nat, p < 16 → sR M.1 6 (7 * p) = sR X.1 1 p ∧ sR M.1 3 (33 * p + 32) = sR X.1 10 p ∧ ∀ r : Nat, r < 32 → sR M.1 3 (33 * p + r) = sR X.1 9 (32 * p + r)
theorem nb_ma {p r : Int32} {K : Int32} {k : Int} (hK : K.toInt = k) (k0 : 0 ≤ k) (k1 : k ≤ 64) (h0 : 0 ≤ p.toInt) (h1 : p.toInt ≤ 15) (r0 : 0 ≤ r.toInt) (r1 : r.toInt ≤ 64) : (p * K + r).toInt = p.toInt * k + r.toInt := by
  have hb : 0 ≤ p.toInt * k := Int.mul_nonneg h0 k0
  have hc : p.toInt * k ≤ 15 * 64 := Int.mul_le_mul h1 k1 k0 (by omega)
  have e1 : (p * K).toInt = p.toInt * k := by
    rw [Int32.toInt_mul, hK]
    exact Int.bmod_eq_of_le (by omega) (by omega)
  rw [Int32.toInt_add, e1]
  exact Int.bmod_eq_of_le (by omega) (by omega)
theorem nb_register (n : Nat) (p r : Int32) (M X : St × St) (h : rg M X) (hp : 0 ≤ p.toInt ∧ p.toInt ≤ 15) (hr : 0 ≤ r.toInt ∧ r.toInt ≤ 32) : ∃ v : Int32, df_X6_registerOf n p r M = some (v, M) ∧ df_X16_register n p r X = some (v, X) := by
  have hn := nb_nat hp.1
  have hm := nb_nat hr.1
  obtain ⟨g1, g2, g3⟩ := h (Int32.toNatClampNeg p) (by omega)
  have e7 : (p * 7 + 0).toInt = p.toInt * 7 + (0 : Int32).toInt := nb_ma (by decide) (by decide) (by decide) hp.1 hp.2 (by decide) (by decide)
  have e7 : (p * 7 + 0).toInt = p.toInt * 7 := by rw [e7, show (0 : Int32).toInt = 0 from by decide]; omega
  have n7 : Int32.toNatClampNeg (p * 7 + 0) = 7 * Int32.toNatClampNeg p := by
    have := nb_nat (k := p * 7 + 0) (by omega)
    omega
  have e33 : (p * 33 + r).toInt = p.toInt * 33 + r.toInt := nb_ma (by decide) (by decide) (by decide) hp.1 hp.2 hr.1 (by omega)
  have n33 : Int32.toNatClampNeg (p * 33 + r) = 33 * Int32.toNatClampNeg p + Int32.toNatClampNeg r := by
    have := nb_nat (k := p * 33 + r) (by omega)
    omega
  unfold df_X6_registerOf df_X6_registerOf_0 df_X6_registerOf_23 df_X6_status df_X6_status_0 df_X16_register df_X16_register_0 df_X16_register_29 df_X16_register_59
  rw [nb_ck (by omega) (by omega), nb_b2, n7, g1]
  rw [if_neg (show ¬ p < 0 from by rw [nb_lt0]; omega), if_neg (show ¬ (15 : Int32) < p from by rw [Int32.lt_iff_toInt_lt, show (15 : Int32).toInt = 15 from by decide]; omega), if_neg (show ¬ r < 0 from by rw [nb_lt0]; omega), if_neg (show ¬ (32 : Int32) < r from by rw [Int32.lt_iff_toInt_lt, show (32 : Int32).toInt = 32 from by decide]; omega), nb_ck hp.1 (by omega)]
  by_cases c : sR X.1 1 (Int32.toNatClampNeg p) = 0
  · rw [if_pos c, if_pos c]
    exact ⟨_, rfl, rfl⟩
  · rw [if_neg c, if_neg c, nb_ck (by omega) (by omega), n33]
    by_cases d : r = 32
    · have d2 : Int32.toNatClampNeg r = 32 := by rw [d]; rfl
      rw [if_pos d, nb_ck hp.1 (by omega), d2, g2]
      exact ⟨_, rfl, rfl⟩
    · have d2 : r.toInt ≠ 32 := fun z => d (Int32.toInt_inj.mp (by rw [z]; decide))
      have e32 : (32 * p + r).toInt = p.toInt * 32 + r.toInt := by
        rw [Int32.mul_comm]
        exact nb_ma (by decide) (by decide) (by decide) hp.1 hp.2 hr.1 (by omega)
      have n32 : Int32.toNatClampNeg (32 * p + r) = 32 * Int32.toNatClampNeg p + Int32.toNatClampNeg r := by
        have := nb_nat (k := 32 * p + r) (by omega)
        omega
      rw [if_neg d, nb_ck (by omega) (by omega), n32, g3 _ (by omega)]
      exact ⟨_, rfl, rfl⟩
