abbrev S12 : Type := St × Rw × (St) × (St × (St)) × (St) × (St × (St × (St × (St)))) × (St) × (St) × (Nat → St) × (Nat → St) × (Nat → St × (St))
abbrev S19 : Type := St × (St) × (St × (St × (St))) × (St) × (St)
theorem nb_z0 {α : Type} {x : Option α} : nd_z .boolean 0 x = x := if_pos (by decide)
theorem nb_z1 {α : Type} {x : Option α} : nd_z .boolean 1 x = x := if_pos (by decide)
theorem nb_ck {α : Type} {i : Int32} {n : Nat} {x : Option α} (h0 : 0 ≤ i.toInt) (h1 : i.toInt < (n : Int)) : nd_ck i n x = x := if_pos ⟨h0, h1⟩
theorem nb_II (σ : St) (k j : Nat) (v : Int32) : sI (pI σ k v) j = if j = k then v else sI σ j := rfl
theorem nb_IR (σ : St) (k j : Nat) (v : Nat → Int32) : sI (pR σ k v) j = sI σ j := rfl
theorem nb_RI (σ : St) (k j : Nat) (v : Int32) : sR (pI σ k v) j = sR σ j := rfl
theorem nb_RR (σ : St) (k j : Nat) (v : Nat → Int32) : sR (pR σ k v) j = if j = k then v else sR σ j := rfl
/-- the reference's 'in' -/
theorem nb_in (n : Nat) (v a b : Int64) : df_X19_in n v a b () = some (if a ≤ v ∧ v ≤ b then 1 else 0, ()) := by
  unfold df_X19_in df_X19_in_0 df_X19_in_17 df_X19_in_18
  by_cases c : v < a
  · rw [if_pos ((lg_cmp_lt v a).mpr c), nb_z0, if_neg (fun h => absurd (Int64.lt_iff_toInt_lt.mp c) (by have := Int64.le_iff_toInt_le.mp h.1; omega))]
  · rw [if_neg (fun h => c ((lg_cmp_lt v a).mp h))]
    by_cases d : b < v
    · rw [if_pos ((lg_cmp_gt v b).mpr d), nb_z0, if_neg (fun h => absurd (Int64.lt_iff_toInt_lt.mp d) (by have := Int64.le_iff_toInt_le.mp h.2; omega))]
    · rw [if_neg (fun h => d ((lg_cmp_gt v b).mp h)), nb_z1, if_pos]
      rw [Int64.lt_iff_toInt_lt] at c d
      exact ⟨Int64.le_iff_toInt_le.mpr (by omega), Int64.le_iff_toInt_le.mpr (by omega)⟩
theorem nb_in32 (n : Nat) (v a b : Int32) : df_X19_in n v.toInt64 a.toInt64 b.toInt64 () = some (if a.toInt ≤ v.toInt ∧ v.toInt ≤ b.toInt then 1 else 0, ()) := by
  have h : ∀ x y : Int32, x.toInt64 ≤ y.toInt64 ↔ x.toInt ≤ y.toInt := fun x y => by rw [Int64.le_iff_toInt_le, Int32.toInt_toInt64, Int32.toInt_toInt64]
  rw [nb_in]
  by_cases c : a.toInt ≤ v.toInt ∧ v.toInt ≤ b.toInt
  · rw [if_pos c, if_pos ⟨(h a v).mpr c.1, (h v b).mpr c.2⟩]
  · rw [if_neg c, if_neg (fun d => c ⟨(h a v).mp d.1, (h v b).mp d.2⟩)]
/-- the tapes: as many bytes, the same bytes, and 'end' may be called in both or in neither -/
def rt (σ : S12) (τ : S19) : Prop := sI σ.1 0 = sI τ.1 1 ∧ sI σ.1 1 = sI τ.1 2 ∧ 0 ≤ (sI σ.1 0).toInt ∧ (sI σ.1 0).toInt ≤ 32768 ∧ (¬ sI σ.1 1 = 0 → 20 ≤ (sI σ.1 0).toInt) ∧ ∀ j : Nat, (j : Int) < (sI σ.1 0).toInt → sR τ.2.2.2.1 3 j = sR σ.2.2.2.1.2 7 j &&& 255
theorem nb_end (n T L : Nat) (v : Int32) (σ : S12) (τ : S19) (h : rt σ τ) : ∃ (r : Int32) (σ' : S12) (τ' : S19), df_X12_end n T L v σ = some (r, σ') ∧ df_X19_end n v τ = some (r, τ') ∧ rt σ' τ' := by
  obtain ⟨h1, h2, h3, h4, h5, h6⟩ := h
  have hin : df_X19_in n v.toInt64 0 20 () = some (if 0 ≤ v.toInt ∧ v.toInt ≤ 20 then 1 else 0, ()) := nb_in32 n v 0 20
  have c0 : (v < 0) ↔ v.toInt < 0 := by rw [Int32.lt_iff_toInt_lt]; rfl
  have c20 : (20 < v) ↔ 20 < v.toInt := by rw [Int32.lt_iff_toInt_lt]; rfl
  have e12 : df_X12_end n T L v σ = if v.toInt < 0 ∨ 20 < v.toInt ∨ sI σ.1 1 = 0 then some (-1, σ) else some (sI σ.1 0 - (20 - v), (pI (pI σ.1 0 (sI σ.1 0 - (20 - v))) 1 0, σ.2)) := by
    unfold df_X12_end df_X12_end_0 df_X12_end_17
    by_cases a : v < 0
    · rw [if_pos a, if_pos (Or.inl (c0.mp a))]
    · rw [if_neg a]
      by_cases b : 20 < v
      · rw [if_pos b, if_pos (Or.inr (Or.inl (c20.mp b)))]
      · rw [if_neg b]
        by_cases d : sI σ.1 1 = 0
        · rw [if_pos d, if_pos (Or.inr (Or.inr d))]
        · rw [if_neg d, if_neg (fun h => by rcases h with h | h | h; exact a (c0.mpr h); exact b (c20.mpr h); exact d h)]
          rfl
  have e19 : df_X19_end n v τ = if v.toInt < 0 ∨ 20 < v.toInt ∨ sI τ.1 2 = 0 then some (-1, (pI τ.1 0 0, τ.2)) else some (sI τ.1 1 - (20 - v), (pI (pI (pI τ.1 0 0) 1 (sI τ.1 1 - (20 - v))) 2 0, τ.2)) := by
    unfold df_X19_end df_X19_end_0 df_X19_end_24
    show (if sI τ.1 2 = 0 then _ else _) = _
    by_cases d : sI τ.1 2 = 0
    · rw [if_pos d, if_pos (Or.inr (Or.inr d))]
    · rw [if_neg d]
      rw [hin]
      by_cases a : 0 ≤ v.toInt ∧ v.toInt ≤ 20
      · rw [if_pos a, if_neg (fun h => by rcases h with h | h | h; omega; omega; exact d h)]
        rfl
      · rw [if_neg a, if_pos (by by_cases z : v.toInt < 0; exact Or.inl z; exact Or.inr (Or.inl (by omega)))]
        rfl
  rw [e12, e19, ← h1, ← h2]
  by_cases c : v.toInt < 0 ∨ 20 < v.toInt ∨ sI σ.1 1 = 0
  · rw [if_pos c, if_pos c]
    exact ⟨_, _, _, rfl, rfl, h1, h2, h3, h4, h5, h6⟩
  · rw [if_neg c, if_neg c]
    have hc : ¬ sI σ.1 1 = 0 := fun h => c (Or.inr (Or.inr h))
    have h20 := h5 hc
    have hd : (20 - v : Int32).toInt = 20 - v.toInt := by
      rw [Int32.toInt_sub, show (20 : Int32).toInt = 20 from by decide]
      exact Int.bmod_eq_of_le (by omega) (by omega)
    have hs : (sI σ.1 0 - (20 - v)).toInt = (sI σ.1 0).toInt - (20 - v.toInt) := by
      rw [Int32.toInt_sub, hd]
      exact Int.bmod_eq_of_le (by omega) (by omega)
    refine ⟨_, _, _, rfl, rfl, rfl, rfl, ?_, ?_, fun h => absurd rfl h, fun j hj => h6 j ?_⟩
    · show 0 ≤ (sI σ.1 0 - (20 - v)).toInt
      omega
    · show (sI σ.1 0 - (20 - v)).toInt ≤ 32768
      omega
    · have hj : (j : Int) < (sI σ.1 0 - (20 - v)).toInt := hj
      omega
