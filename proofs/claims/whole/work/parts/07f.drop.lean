theorem nb_fails (n : Nat) (a b : Int32) (s : S19) : df_X19_fails n a b s = some (if a = 0 ∧ b = 0 then 0 else 1, (pI s.1 0 (if a = 0 then (if b = 0 then 0 else 2) else 1), s.2)) := by
  unfold df_X19_fails df_X19_fails_0 df_X19_fails_18 df_X19_fails_33
  by_cases x : a = 0
  · rw [if_pos x, if_pos x]
    by_cases y : b = 0
    · rw [if_pos y, if_pos y, if_pos ⟨x, y⟩, nb_let, if_pos (show sI (pI s.1 0 0) 0 ≤ 0 from (by decide : (0 : Int32) ≤ 0)), nb_z0]
    · rw [if_neg y, if_neg y, if_neg (fun z => y z.2), nb_let, if_neg (show ¬ sI (pI s.1 0 2) 0 ≤ 0 from (by decide : ¬ (2 : Int32) ≤ 0)), nb_z1]
  · rw [if_neg x, if_neg x, if_neg (fun z => x z.1), nb_let, if_neg (show ¬ sI (pI s.1 0 1) 0 ≤ 0 from (by decide : ¬ (1 : Int32) ≤ 0)), nb_z1]
theorem nb_dr15 (n : Nat) (k v : Int32) (s : St × (St × St)) (c : 0 ≤ k.toInt ∧ k.toInt ≤ 7) (hv : sR s.1 1 (Int32.toNatClampNeg k) = v) (hb : v = 0 ∨ v = 1) : df_X15_drop n k s = some (v, (pR s.1 1 (upd (sR s.1 1) (Int32.toNatClampNeg k) (vp_nar .boolean 0)), s.2)) := by
  unfold df_X15_drop df_X15_drop_0
  rw [nb_ck c.1 (by omega), nb_let, nb_ck c.1 (by omega), nb_let, hv]
  rcases hb with rfl | rfl
  · rw [nb_z0]
  · rw [nb_z1]
/-- the breaks that are there -/
def rb (σ : S12) (τ : S19) : Prop := ∀ k : Nat, k < 8 → sR τ.2.2.1.1 1 k = if (σ.2.1 2 k).isSome then 1 else 0
theorem nb_drop (n T L : Nat) (k : Int32) (σ : S12) (τ : S19) (h : rb σ τ) : (¬ (0 ≤ k.toInt ∧ k.toInt ≤ 7) → df_X12_drop n T L k σ = some (Sum.inr ("java/lang/IllegalArgumentException", σ)) ∧ df_X19_drop n k τ = some (0, (pI τ.1 0 1, τ.2))) ∧ ((0 ≤ k.toInt ∧ k.toInt ≤ 7) → ∃ (r : Int32) (σ' : S12) (τ' : S19), df_X12_drop n T L k σ = some (Sum.inl (r, σ')) ∧ df_X19_drop n k τ = some (r, τ') ∧ sI τ'.1 0 = 0 ∧ rb σ' τ') := by
  have hin : df_X19_in n k.toInt64 0 7 () = some (if 0 ≤ k.toInt ∧ k.toInt ≤ 7 then 1 else 0, ()) := nb_in32 n k 0 7
  have c8 : (k < 8) ↔ k.toInt < 8 := by rw [Int32.lt_iff_toInt_lt]; rfl
  unfold df_X12_drop df_X12_drop_0 df_X12_drop_10 df_X12_drop_32 df_X19_drop df_X19_drop_0 df_X19_drop_18 df_X19_drop_40 df_X19_drop_41
  rw [hin]
  constructor
  · intro c
    rw [if_neg c, nb_b2, nb_nil, nb_fails, nb_b2]
    constructor
    · by_cases a : k < 0
      · rw [if_pos a]
      · rw [if_neg a, if_neg (by rw [nb_lt0] at a; rw [c8]; omega)]
    · rw [if_neg (by decide), nb_one, nb_z0]
  · intro c
    have hn := nb_nat c.1
    have hk := h (Int32.toNatClampNeg k) (by omega)
    rw [if_pos c, nb_b2, nb_one, nb_fails, nb_b2]
    rw [if_pos (show (0 : Int32) = 0 ∧ (0 : Int32) = 0 from ⟨rfl, rfl⟩), nb_nil]
    rw [if_neg (by rw [nb_lt0]; omega), if_pos (c8.mpr (by omega)), nb_ck c.1 (by omega)]
    have keep : ∀ (S : Rw) (f : Nat → Int32), (∀ j : Nat, j < 8 → f j = if (S 2 j).isSome then 1 else 0) → ∀ j : Nat, j < 8 → upd f (Int32.toNatClampNeg k) (vp_nar .boolean 0) j = if (pW S 2 (va_up (S 2) (Int32.toNatClampNeg k) none) 2 j).isSome then 1 else 0 := fun S f hf j hj => by
      show (if j = Int32.toNatClampNeg k then _ else _) = if ((if j = Int32.toNatClampNeg k then none else S 2 j) : Option Nat).isSome then 1 else 0
      by_cases z : j = Int32.toNatClampNeg k
      · rw [if_pos z, if_pos z]
        rfl
      · rw [if_neg z, if_neg z]
        exact hf j hj
    cases hs : σ.2.1 2 (Int32.toNatClampNeg k) with
    | none =>
      rw [hs] at hk
      have hk : sR τ.2.2.1.1 1 (Int32.toNatClampNeg k) = 0 := hk
      rw [nb_mN, nb_ck c.1 (by omega), nb_let, nb_z0, nb_dr15 n k 0 τ.2.2.1 c hk (Or.inl rfl), nb_b2, nb_let, nb_nil, nb_z0]
      exact ⟨0, _, _, rfl, rfl, rfl, keep σ.2.1 (sR τ.2.2.1.1 1) h⟩
    | some j =>
      rw [hs] at hk
      have hk : sR τ.2.2.1.1 1 (Int32.toNatClampNeg k) = 1 := hk
      rw [nb_mS, nb_ck c.1 (by omega), nb_let, nb_z1, nb_dr15 n k 1 τ.2.2.1 c hk (Or.inr rfl), nb_b2, nb_let, nb_one, nb_z1]
      exact ⟨1, _, _, rfl, rfl, rfl, keep σ.2.1 (sR τ.2.2.1.1 1) h⟩
