theorem nb_mN {α : Type} {x : Option α} {k : Nat → Option α} : nd_m none x k = x := rfl
theorem nb_mS {α : Type} {x : Option α} {k : Nat → Option α} {j : Nat} : nd_m (some j) x k = k j := rfl
theorem nb_lt {α : Type} {j n : Nat} {x : Option α} (h : j < n) : nd_lt j n x = x := if_pos h
theorem nb_o {α : Type} {o : Option Nat} {a : Nat} {x : Option α} (h : o = some a) : nd_o o a x = x := if_pos h
theorem nb_l {α : Type} {o : Lx} {y : Nat × Nat × (Nat → Int32)} {k : Nat × Nat × (Nat → Int32) → Option α} (h : o = some y) : nd_l o k = k y := by subst h; rfl
theorem nb_program (n T L : Nat) (p w : Int32) (σ : S12) (τ : S19 × Lb) (h : rp σ τ) : ∃ r : Int32, df_X12_program n T L p w σ = some (r, σ) ∧ df_X19_program n p w τ = some (r, ((pI τ.1.1 0 0, τ.1.2), τ.2)) := by
  unfold df_X12_program df_X12_program_0 df_X19_program df_X19_program_0 df_X19_program_86
  rw [nb_pOf, nb_b2, nb_let, nb_isP]
  by_cases c : 0 ≤ p.toInt ∧ p.toInt ≤ 3
  · rw [if_pos c]
    have hq := h.2 (Int32.toNatClampNeg p) (by have := nb_nat c.1; omega)
    cases hs : σ.2.1 1 (Int32.toNatClampNeg p) with
    | none =>
      rw [hs] at hq
      have hq : sR τ.1.1 0 (Int32.toNatClampNeg p) = 0 := hq
      rw [if_neg (fun z => z.2.2 hq), nb_mN, nb_b2, nb_let, nb_nil]
      exact ⟨_, rfl, rfl⟩
    | some j =>
      rw [hs] at hq
      obtain ⟨hj, hn, x, hx, q1, q2, q3, q4, q5, q6, q7, q8, q9⟩ := hq
      rw [if_pos ⟨c.1, c.2, hn⟩, nb_mS, nb_b2, nb_let, nb_one]
      by_cases w0 : w = 0
      · rw [if_pos w0, if_pos w0, nb_lt hj, nb_ck c.1 (by omega)]
        exact ⟨_, rfl, by rw [← q1]; rfl⟩
      · rw [if_neg w0, if_neg w0]
        by_cases w1 : w = 1
        · rw [if_pos w1, if_pos w1, nb_lt hj, nb_ck c.1 (by omega)]
          exact ⟨_, rfl, by rw [← q2]; rfl⟩
        · rw [if_neg w1, if_neg w1]
          by_cases w2 : w = 2
          · rw [if_pos w2, if_pos w2, nb_lt hj, nb_ck c.1 (by omega)]
            exact ⟨_, rfl, by rw [← q3]; rfl⟩
          · rw [if_neg w2, if_neg w2]
            by_cases w3 : w = 3
            · rw [if_pos w3, if_pos w3, nb_lt hj]
              dsimp only
              rw [nb_o (show sO (pI τ.1.1 0 0) 0 = some 96 from h.1), nb_ck c.1 (by omega), nb_l hx]
              exact ⟨_, rfl, by rw [← q7]⟩
            · rw [if_neg w3, if_neg w3]
              by_cases w4 : w = 4
              · rw [if_pos w4, if_pos w4, nb_lt hj, nb_ck c.1 (by omega)]
                exact ⟨_, rfl, by rw [← q4]; rfl⟩
              · rw [if_neg w4, if_neg w4]
                exact ⟨_, rfl, rfl⟩
  · rw [if_neg c, if_neg (fun z => c ⟨z.1, z.2.1⟩), nb_mN, nb_b2, nb_let, nb_nil]
    exact ⟨_, rfl, rfl⟩
theorem nb_label (n T L : Nat) (p k : Int32) (σ : S12) (τ : S19 × Lb) (h : rp σ τ) : ∃ r : Int32, df_X12_label n T L p k σ = some (r, σ) ∧ df_X19_label n p k τ = some (r, ((pI τ.1.1 0 0, τ.1.2), τ.2)) := by
  unfold df_X12_label df_X12_label_0 df_X12_label_22 df_X12_label_32 df_X19_label df_X19_label_0 df_X19_label_39 df_X19_label_40
  rw [nb_pOf, nb_b2, nb_let, nb_isP]
  by_cases c : 0 ≤ p.toInt ∧ p.toInt ≤ 3
  · rw [if_pos c]
    have hq := h.2 (Int32.toNatClampNeg p) (by have := nb_nat c.1; omega)
    cases hs : σ.2.1 1 (Int32.toNatClampNeg p) with
    | none =>
      rw [hs] at hq
      have hq : sR τ.1.1 0 (Int32.toNatClampNeg p) = 0 := hq
      rw [if_neg (fun z => z.2.2 hq), nb_mN, nb_b2, nb_let, nb_nil]
      exact ⟨_, rfl, rfl⟩
    | some j =>
      rw [hs] at hq
      obtain ⟨hj, hn, x, hx, q1, q2, q3, q4, q5, q6, q7, q8, q9⟩ := hq
      have hl : (sI (σ.2.2.2.2.2.2.2.2.1 j) 4).toInt = x.2.1 := by rw [← q7]; exact Int32.toInt_ofNat_of_lt (by omega)
      rw [if_pos ⟨c.1, c.2, hn⟩, nb_mS, nb_b2, nb_let, nb_one]
      by_cases a : k < 0
      · rw [if_pos a, if_pos a]
        exact ⟨_, rfl, rfl⟩
      · have ha : 0 ≤ k.toInt := by rw [nb_lt0] at a; omega
        have ho : sO (pI τ.1.1 0 0) 0 = some 96 := h.1
        rw [if_neg a, if_neg a, nb_lt hj]
        dsimp only
        rw [nb_o ho, nb_ck c.1 (by omega), nb_l hx, q7]
        by_cases b : k < sI (σ.2.2.2.2.2.2.2.2.1 j) 4
        · have hb := Int32.lt_iff_toInt_lt.mp b
          rw [if_pos b, if_neg (fun z => by have := Int32.le_iff_toInt_le.mp z; omega), nb_ck ha (by omega), nb_o ho, nb_ck c.1 (by omega), nb_l hx, nb_ck ha (by omega)]
          refine ⟨_, rfl, ?_⟩
          rw [q9 _ (by have := nb_nat ha; omega)]
        · rw [if_neg b, if_pos (Int32.le_iff_toInt_le.mpr (by rw [Int32.lt_iff_toInt_lt] at b; omega))]
          exact ⟨_, rfl, rfl⟩
  · rw [if_neg c, if_neg (fun z => c ⟨z.1, z.2.1⟩), nb_mN, nb_b2, nb_let, nb_nil]
    exact ⟨_, rfl, rfl⟩
