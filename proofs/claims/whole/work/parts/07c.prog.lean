theorem nb_let {α β : Type} {x : α} {k : α → Option β} : nd_let x k = k x := rfl
theorem nb_b2 {α γ β : Type} {z : α} {w : γ} {k : α → γ → Option β} : nd_b2 (some (z, w)) k = k z w := rfl
theorem nb_b1 {α β : Type} {z : α} {k : α → Option β} : nd_b1 (some z) k = k z := rfl
theorem nb_one {α : Type} {x y : α} : (if (1 : Int32) = 0 then x else y) = y := if_neg (by decide)
theorem nb_nil {α : Type} {x y : α} : (if (0 : Int32) = 0 then x else y) = x := if_pos rfl
theorem nb_reason (n T L : Nat) (σ : S12) (τ : S19) (h : sI σ.2.2.2.2.1 7 = sI τ.1 7) : ∃ r : Int32, df_X12_reason n T L σ = some (r, σ) ∧ df_X19_reason n τ = some (r, (pI τ.1 0 0, τ.2)) := ⟨_, rfl, by rw [h]; rfl⟩
/-- the packed logs: as many bytes, the same -/
def rl (σ : S12) (τ : S19) : Prop := sI σ.1 2 = sI τ.1 12 ∧ (sI σ.1 2).toInt ≤ 32768 ∧ ∀ j : Nat, (j : Int) < (sI σ.1 2).toInt → sR τ.1 10 j = sR σ.2.2.1 0 j &&& 255
theorem nb_nat {k : Int32} (h : 0 ≤ k.toInt) : ((Int32.toNatClampNeg k : Nat) : Int) = k.toInt := by
  show ((k.toInt.toNat : Nat) : Int) = k.toInt
  omega
theorem nb_lt0 {k : Int32} : (k < 0) ↔ k.toInt < 0 := by rw [Int32.lt_iff_toInt_lt]; rfl
theorem nb_logByte (n T L : Nat) (k : Int32) (σ : S12) (τ : S19) (h : rl σ τ) : ∃ r : Int32, df_X12_logByte n T L k σ = some (r, σ) ∧ df_X19_logByte n k τ = some (r, (pI τ.1 0 0, τ.2)) := by
  obtain ⟨h1, h2, h3⟩ := h
  unfold df_X12_logByte df_X12_logByte_0 df_X12_logByte_12 df_X12_logByte_26 df_X19_logByte df_X19_logByte_0 df_X19_logByte_17 df_X19_logByte_27
  by_cases a : k < 0
  · rw [if_pos a]
    refine ⟨_, rfl, ?_⟩
    show (if k < 0 then _ else _) = _
    rw [if_pos a]
  · rw [if_neg a]
    have ha : 0 ≤ k.toInt := by rw [nb_lt0] at a; omega
    by_cases b : k < sI σ.1 2
    · have hb := Int32.lt_iff_toInt_lt.mp b
      rw [if_pos b, nb_ck ha (by omega)]
      refine ⟨_, rfl, ?_⟩
      show (if k < 0 then _ else (if k < sI τ.1 12 then _ else _)) = _
      rw [if_neg a, ← h1, if_pos b, nb_ck ha (by omega)]
      show some (sR τ.1 10 (Int32.toNatClampNeg k), _) = _
      rw [h3 _ (by rw [nb_nat ha]; exact hb)]
    · rw [if_neg b]
      refine ⟨_, rfl, ?_⟩
      show (if k < 0 then _ else (if k < sI τ.1 12 then _ else _)) = _
      rw [if_neg a, ← h1, if_neg b]
theorem nb_isP (n : Nat) (p : Int32) (s : S19) : df_X19_isProgram n p s = some (if 0 ≤ p.toInt ∧ p.toInt ≤ 3 ∧ ¬ sR s.1 0 (Int32.toNatClampNeg p) = 0 then 1 else 0, s) := by
  unfold df_X19_isProgram df_X19_isProgram_0 df_X19_isProgram_25 df_X19_isProgram_26
  rw [show df_X19_in n p.toInt64 0 3 () = some (if 0 ≤ p.toInt ∧ p.toInt ≤ 3 then 1 else 0, ()) from nb_in32 n p 0 3]
  by_cases c : 0 ≤ p.toInt ∧ p.toInt ≤ 3
  · rw [if_pos c]
    rw [nb_b2, nb_one, nb_ck c.1 (by omega)]
    by_cases d : sR s.1 0 (Int32.toNatClampNeg p) = 0
    · rw [if_pos d, nb_z0, if_neg (fun h => h.2.2 d)]
    · rw [if_neg d, nb_z1, if_pos ⟨c.1, c.2, d⟩]
  · rw [if_neg c]
    rw [nb_b2, nb_nil, nb_z0, if_neg (fun h => c ⟨h.1, h.2.1⟩)]
theorem nb_hasB (n : Nat) (p k : Int32) (s : S19) : df_X19_hasByte n p k s = some (if (0 ≤ p.toInt ∧ p.toInt ≤ 3 ∧ ¬ sR s.1 0 (Int32.toNatClampNeg p) = 0) ∧ 0 ≤ k.toInt ∧ k.toInt < (sR s.1 3 (Int32.toNatClampNeg p)).toInt then 1 else 0, s) := by
  unfold df_X19_hasByte df_X19_hasByte_0 df_X19_hasByte_26 df_X19_hasByte_27
  rw [nb_isP]
  by_cases c : 0 ≤ p.toInt ∧ p.toInt ≤ 3 ∧ ¬ sR s.1 0 (Int32.toNatClampNeg p) = 0
  · rw [if_pos c]
    rw [nb_b2, nb_one]
    by_cases a : k < 0
    · rw [if_pos a, nb_z0, if_neg (fun h => by have := nb_lt0.mp a; omega)]
    · have ha : 0 ≤ k.toInt := by rw [nb_lt0] at a; omega
      rw [if_neg a, nb_ck c.1 (by omega)]
      by_cases b : sR s.1 3 (Int32.toNatClampNeg p) ≤ k
      · rw [if_pos b, nb_z0, if_neg (fun h => by have := Int32.le_iff_toInt_le.mp b; omega)]
      · rw [if_neg b, nb_z1, if_pos]
        rw [Int32.le_iff_toInt_le] at b
        exact ⟨c, ha, by omega⟩
  · rw [if_neg c]
    rw [nb_b2, nb_nil, nb_z0, if_neg (fun h => c h.1)]
theorem nb_pOf (n T L : Nat) (p : Int32) (s : S12) : df_X12_programOf n T L p s = some (if 0 ≤ p.toInt ∧ p.toInt ≤ 3 then s.2.1 1 (Int32.toNatClampNeg p) else none, s) := by
  unfold df_X12_programOf df_X12_programOf_0 df_X12_programOf_9 df_X12_programOf_19
  by_cases a : p < 0
  · rw [if_pos a, if_neg (fun h => by have := nb_lt0.mp a; omega)]
    rfl
  · have ha : 0 ≤ p.toInt := by rw [nb_lt0] at a; omega
    rw [if_neg a]
    by_cases b : p < 4
    · have hb : p.toInt < 4 := Int32.lt_iff_toInt_lt.mp b
      rw [if_pos b, nb_ck ha (by omega), if_pos ⟨ha, by omega⟩]
      cases s.2.1 1 (Int32.toNatClampNeg p) <;> rfl
    · rw [if_neg b, if_neg (fun h => b (Int32.lt_iff_toInt_lt.mpr (by show p.toInt < 4; omega)))]
      rfl
/-- a program of the class (its contents) and of the reference (its number) -/
def rq (P : St) (q : Nat) (τ : S19) (x : Nat × Nat × (Nat → Int32)) : Prop := sR τ.1 1 q = sI P 0 ∧ sR τ.1 2 q = sI P 1 ∧ sR τ.1 3 q = sI P 2 ∧ sR τ.1 4 q = sI P 3 ∧ (sI P 2).toInt ≤ 32768 ∧ (∀ k : Nat, (k : Int) < (sI P 2).toInt → sR τ.2.1 9 (32768 * q + k) &&& 255 = sR P 0 k &&& 255) ∧ Int32.ofNat x.2.1 = sI P 4 ∧ x.2.1 ≤ 10986 ∧ ∀ k : Nat, k < x.2.1 → x.2.2 k = sR P 1 k
/-- the four programs -/
def rp (σ : S12) (τ : S19 × Lb) : Prop := sO τ.1.1 0 = some 96 ∧ ∀ q : Nat, q < 4 → match σ.2.1 1 q with
  | none => sR τ.1.1 0 q = 0
  | some j => j < 9 ∧ (¬ sR τ.1.1 0 q = 0) ∧ ∃ x, τ.2 q = some x ∧ rq (σ.2.2.2.2.2.2.2.2.1 j) q τ.1 x
theorem nb_at {p k : Int32} (h0 : 0 ≤ p.toInt) (h1 : p.toInt ≤ 3) (k0 : 0 ≤ k.toInt) (k1 : k.toInt < 32768) : ((32768 * p) + k).toInt = 32768 * p.toInt + k.toInt ∧ Int32.toNatClampNeg ((32768 * p) + k) = 32768 * Int32.toNatClampNeg p + Int32.toNatClampNeg k := by
  have e1 : (32768 * p).toInt = 32768 * p.toInt := by
    rw [Int32.toInt_mul, show (32768 : Int32).toInt = 32768 from by decide]
    exact Int.bmod_eq_of_le (by omega) (by omega)
  have e2 : ((32768 * p) + k).toInt = 32768 * p.toInt + k.toInt := by
    rw [Int32.toInt_add, e1]
    exact Int.bmod_eq_of_le (by omega) (by omega)
  refine ⟨e2, ?_⟩
  show ((32768 * p) + k).toInt.toNat = 32768 * p.toInt.toNat + k.toInt.toNat
  omega
theorem nb_image (n T L : Nat) (p k : Int32) (σ : S12) (τ : S19 × Lb) (h : rp σ τ) : ∃ r : Int32, df_X12_image n T L p k σ = some (r, σ) ∧ df_X19_image n p k τ.1 = some (r, (pI τ.1.1 0 0, τ.1.2)) := by
  unfold df_X12_image df_X12_image_0 df_X12_image_22 df_X12_image_36 df_X19_image df_X19_image_0 df_X19_image_33
  rw [nb_pOf]
  have hb := nb_hasB n p k (pI τ.1.1 0 0, τ.1.2)
  by_cases c : 0 ≤ p.toInt ∧ p.toInt ≤ 3
  · rw [if_pos c]
    have hq := h.2 (Int32.toNatClampNeg p) (by have := nb_nat c.1; omega)
    cases hs : σ.2.1 1 (Int32.toNatClampNeg p) with
    | none =>
      rw [hs] at hq
      have hq : sR τ.1.1 0 (Int32.toNatClampNeg p) = 0 := hq
      rw [if_neg (fun z => z.1.2.2 hq)] at hb
      refine ⟨-1, rfl, ?_⟩
      rw [nb_let, hb, nb_b2, nb_nil]
    | some j =>
      rw [hs] at hq
      obtain ⟨hj, hn, x, hx, q1, q2, q3, q4, q5, q6, q7, q8, q9⟩ := hq
      show ∃ r : Int32, (if k < 0 then _ else nd_lt j 9 _) = _ ∧ _
      by_cases a : k < 0
      · rw [if_pos a]
        rw [if_neg (fun z => by have := nb_lt0.mp a; omega)] at hb
        refine ⟨-1, rfl, ?_⟩
        rw [nb_let, hb, nb_b2, nb_nil]
      · have ha : 0 ≤ k.toInt := by rw [nb_lt0] at a; omega
        rw [if_neg a]
        unfold nd_lt
        rw [if_pos hj]
        by_cases b : k < sI (σ.2.2.2.2.2.2.2.2.1 j) 2
        · have hb2 := Int32.lt_iff_toInt_lt.mp b
          rw [if_pos b, nb_ck ha (by omega)]
          rw [if_pos ⟨⟨c.1, c.2, hn⟩, ha, by show k.toInt < (sR τ.1.1 3 (Int32.toNatClampNeg p)).toInt; rw [q3]; exact hb2⟩] at hb
          obtain ⟨e1, e2⟩ := nb_at c.1 c.2 ha (by omega)
          refine ⟨_, rfl, ?_⟩
          rw [nb_let, hb, nb_b2, nb_one, nb_ck (by omega) (by omega)]
          show some (sR τ.1.2.1 9 (Int32.toNatClampNeg ((32768 * p) + k)) &&& 255, _) = _
          rw [e2, q6 _ (by rw [nb_nat ha]; exact hb2)]
        · rw [if_neg b]
          rw [if_neg (fun z => b (Int32.lt_iff_toInt_lt.mpr (by have := z.2.2; rw [← q3]; exact this)))] at hb
          refine ⟨-1, rfl, ?_⟩
          rw [nb_let, hb, nb_b2, nb_nil]
  · rw [if_neg c]
    rw [if_neg (fun z => c ⟨z.1.1, z.1.2.1⟩)] at hb
    refine ⟨-1, rfl, ?_⟩
    rw [nb_let, hb, nb_b2, nb_nil]
