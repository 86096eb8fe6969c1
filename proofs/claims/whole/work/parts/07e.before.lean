theorem nb_on {k : Nat} (h : k < 2147483648) : (Int32.ofNat k).toInt = k := Int32.toInt_ofNat_of_lt h
theorem nb_onat {k : Nat} (h : k < 2147483648) : Int32.toNatClampNeg (Int32.ofNat k) = k := by
  show (Int32.ofNat k).toInt.toNat = k
  rw [nb_on h]
  omega
theorem nb_onle {k j : Nat} (h : k < 2147483648) (g : j < 2147483648) : (Int32.ofNat k ≤ Int32.ofNat j) ↔ k ≤ j := by
  rw [Int32.le_iff_toInt_le, nb_on h, nb_on g]
  omega
theorem nb_on1 {k : Nat} (h : k < 2147483647) : Int32.ofNat k + Int32.ofInt 1 = Int32.ofNat (k + 1) := by
  apply Int32.toInt_inj.mp
  rw [nv_inc (by rw [nb_on (by omega)]; omega) (by rw [nb_on (by omega)]; omega), nb_on (by omega), nb_on (by omega)]
  omega
/-- the best label so far, behind the one numbered k -/
def nx (f : Nat → Int32) (a best : Int32) (k : Nat) : Int32 := if a < f k then best else if best = -1 then Int32.ofNat k else if f k < f (Int32.toNatClampNeg best) then best else Int32.ofNat k
def okb (N : Nat) (b : Int32) : Prop := b = -1 ∨ (0 ≤ b.toInt ∧ b.toInt < N)
theorem nb_nx {f : Nat → Int32} {a b : Int32} {k N : Nat} (hk : k < N) (hN : N ≤ 10986) (h : okb N b) : okb N (nx f a b k) := by
  have ho : okb N (Int32.ofNat k) := Or.inr (by rw [nb_on (by omega)]; omega)
  unfold nx
  split
  · exact h
  · split
    · exact ho
    · split
      · exact h
      · exact ho
theorem nb_lu1 (n m : Nat) (a b : Int32) (k N : Nat) (P : St) (hN : sI P 4 = Int32.ofNat N) (hN2 : N ≤ 10986) (hk : k < N) (hb : okb N b) : df_X8_labelUpTo_4 n (m + 1) a b (Int32.ofNat k) P = df_X8_labelUpTo_4 n m a (nx (sR P 1) a b k) (Int32.ofNat (k + 1)) P := by
  show dF_X8_labelUpTo_4 n (df_X8_labelUpTo_4 n m) a b (Int32.ofNat k) P = _
  have c43 : ∀ y : Int32, df_X8_labelUpTo_43 n (df_X8_labelUpTo_4 n m) a y (Int32.ofNat k) P = df_X8_labelUpTo_4 n m a y (Int32.ofNat (k + 1)) P := fun y => by
    unfold df_X8_labelUpTo_43
    rw [nb_let, nb_on1 (by omega)]
  have e := nb_on (k := k) (by omega)
  unfold dF_X8_labelUpTo_4 df_X8_labelUpTo_41 nx
  simp only [c43]
  rw [hN, if_neg (by rw [nb_onle (by omega) (by omega)]; omega), nb_ck (by omega) (by omega), nb_onat (by omega)]
  by_cases c1 : a < sR P 1 k
  · rw [if_pos c1, if_pos c1]
  · rw [if_neg c1, if_neg c1]
    rcases hb with hb | hb
    · rw [if_pos (by rw [hb]; decide), if_pos hb]
    · have hx : ¬ b = -1 := fun z => by rw [z] at hb; exact absurd hb.1 (by decide)
      rw [if_neg (by rw [nb_lt0]; omega), if_neg hx, nb_ck (by omega) (by omega), nb_ck hb.1 (by omega)]
      by_cases c2 : sR P 1 k < sR P 1 (Int32.toNatClampNeg b)
      · rw [if_pos c2, if_pos c2]
      · rw [if_neg c2, if_neg c2]
theorem nb_be1 (n m : Nat) (p a b : Int32) (k : Nat) (S : S19 × Lb) (x : Nat × Nat × (Nat → Int32)) (hp : 0 ≤ p.toInt ∧ p.toInt ≤ 3) (hi : ¬ sR S.1.1 0 (Int32.toNatClampNeg p) = 0) (ho : sO S.1.1 0 = some 96) (hx : S.2 (Int32.toNatClampNeg p) = some x) (hN2 : x.2.1 ≤ 10986) (hk : k < x.2.1) (hb : okb x.2.1 b) : df_X19_before_10 n (m + 1) p a b (Int32.ofNat k) S = df_X19_before_10 n m p a (nx x.2.2 a b k) (Int32.ofNat (k + 1)) S := by
  show dF_X19_before_10 n (df_X19_before_10 n m) p a b (Int32.ofNat k) S = _
  have c74 : ∀ y : Int32, df_X19_before_74 n (df_X19_before_10 n m) p a (Int32.ofNat k) y S = df_X19_before_10 n m p a y (Int32.ofNat (k + 1)) S := fun y => by
    unfold df_X19_before_74
    rw [nb_let, nb_on1 (by omega)]
  have e := nb_on (k := k) (by omega)
  unfold dF_X19_before_10 df_X19_before_73 df_X19_before_68 nx
  rw [nb_isP, if_pos ⟨hp.1, hp.2, hi⟩, nb_b2, nb_let]
  dsimp only
  simp only [c74]
  rw [nb_one, nb_o ho, nb_ck hp.1 (by omega), nb_l hx, if_neg (by rw [nb_onle (by omega) (by omega)]; omega), nb_o ho, nb_ck hp.1 (by omega), nb_l hx, nb_ck (by omega) (by omega), nb_onat (by omega)]
  by_cases c1 : a < x.2.2 k
  · rw [if_pos c1, if_pos c1]
  · rw [if_neg c1, if_neg c1]
    rcases hb with hb | hb
    · rw [if_pos hb, if_pos hb]
    · have hx2 : ¬ b = -1 := fun z => by rw [z] at hb; exact absurd hb.1 (by decide)
      rw [if_neg hx2, if_neg hx2, nb_o ho, nb_ck hp.1 (by omega), nb_l hx, nb_ck (by omega) (by omega), nb_o ho, nb_ck hp.1 (by omega), nb_l hx, nb_ck hb.1 (by omega)]
      by_cases c2 : x.2.2 k < x.2.2 (Int32.toNatClampNeg b)
      · rw [if_pos c2, if_pos c2]
      · rw [if_neg c2, if_neg c2]
theorem nb_bel (n : Nat) (p a : Int32) (P : St) (S : S19 × Lb) (x : Nat × Nat × (Nat → Int32)) (hN : sI P 4 = Int32.ofNat x.2.1) (hp : 0 ≤ p.toInt ∧ p.toInt ≤ 3) (hi : ¬ sR S.1.1 0 (Int32.toNatClampNeg p) = 0) (ho : sO S.1.1 0 = some 96) (hx : S.2 (Int32.toNatClampNeg p) = some x) (hN2 : x.2.1 ≤ 10986) (hf : ∀ k : Nat, k < x.2.1 → x.2.2 k = sR P 1 k) : ∀ (m k f g : Nat) (b : Int32), k + m = x.2.1 → m < f → m < g → okb x.2.1 b → ∃ r : Int32, df_X8_labelUpTo_4 n f a b (Int32.ofNat k) P = some (r, P) ∧ df_X19_before_10 n g p a b (Int32.ofNat k) S = some (r, S) := by
  intro m
  induction m with
  | zero =>
    intro k f g b hk hmf hmg hb
    obtain ⟨f, rfl⟩ : ∃ z, f = z + 1 := ⟨f - 1, by omega⟩
    obtain ⟨g, rfl⟩ : ∃ z, g = z + 1 := ⟨g - 1, by omega⟩
    refine ⟨b, ?_, ?_⟩
    · show dF_X8_labelUpTo_4 n (df_X8_labelUpTo_4 n f) a b (Int32.ofNat k) P = _
      unfold dF_X8_labelUpTo_4
      rw [hN, if_pos (by rw [nb_onle (by omega) (by omega)]; omega)]
    · show dF_X19_before_10 n (df_X19_before_10 n g) p a b (Int32.ofNat k) S = _
      unfold dF_X19_before_10 df_X19_before_81
      rw [nb_isP, if_pos ⟨hp.1, hp.2, hi⟩, nb_b2, nb_let]
      dsimp only
      rw [nb_one, nb_o ho, nb_ck hp.1 (by omega), nb_l hx, if_pos (by rw [nb_onle (by omega) (by omega)]; omega)]
  | succ m ih =>
    intro k f g b hk hmf hmg hb
    obtain ⟨f, rfl⟩ : ∃ z, f = z + 1 := ⟨f - 1, by omega⟩
    obtain ⟨g, rfl⟩ : ∃ z, g = z + 1 := ⟨g - 1, by omega⟩
    rw [nb_lu1 n f a b k x.2.1 P hN hN2 (by omega) hb, nb_be1 n g p a b k S x hp hi ho hx hN2 (by omega) hb]
    have he : nx x.2.2 a b k = nx (sR P 1) a b k := by
      unfold nx
      rw [hf k (by omega)]
      by_cases c : b = -1
      · rw [if_pos c, if_pos c]
      · rcases hb with hb | hb
        · exact absurd hb c
        · rw [hf (Int32.toNatClampNeg b) (by have := nb_nat hb.1; omega)]
    rw [he]
    exact ih (k + 1) f g _ (by omega) (by omega) (by omega) (by rw [← he]; exact nb_nx (by omega) hN2 hb)
theorem nb_before (n T L : Nat) (hn : 10987 ≤ n) (p a : Int32) (σ : S12) (τ : S19 × Lb) (h : rp σ τ) : ∃ (r : Int32) (σ' : S12), df_X12_before n T L p a σ = some (r, σ') ∧ df_X19_before n p a τ = some (r, ((pI τ.1.1 0 0, τ.1.2), τ.2)) ∧ σ' = σ := by
  unfold df_X12_before df_X12_before_0 df_X12_before_19 df_X19_before df_X19_before_0
  rw [nb_pOf, nb_b2, nb_let]
  obtain ⟨N, rfl⟩ : ∃ z, n = z + 1 := ⟨n - 1, by omega⟩
  have hout : ¬ (0 ≤ p.toInt ∧ p.toInt ≤ 3 ∧ ¬ sR τ.1.1 0 (Int32.toNatClampNeg p) = 0) → df_X19_before_10 (N + 1) (N + 1) p a (-1) 0 ((pI τ.1.1 0 0, τ.1.2), τ.2) = some (-1, ((pI τ.1.1 0 0, τ.1.2), τ.2)) := fun c => by
    show dF_X19_before_10 (N + 1) (df_X19_before_10 (N + 1) N) p a (-1) 0 ((pI τ.1.1 0 0, τ.1.2), τ.2) = _
    unfold dF_X19_before_10 df_X19_before_81
    rw [nb_isP]
    dsimp only
    rw [if_neg (show ¬ (0 ≤ p.toInt ∧ p.toInt ≤ 3 ∧ ¬ sR (pI τ.1.1 0 0) 0 (Int32.toNatClampNeg p) = 0) from c), nb_b2, nb_let, nb_nil]
  by_cases c : 0 ≤ p.toInt ∧ p.toInt ≤ 3
  · rw [if_pos c]
    have hq := h.2 (Int32.toNatClampNeg p) (by have := nb_nat c.1; omega)
    cases hs : σ.2.1 1 (Int32.toNatClampNeg p) with
    | none =>
      rw [hs] at hq
      have hq : sR τ.1.1 0 (Int32.toNatClampNeg p) = 0 := hq
      rw [nb_mN]
      exact ⟨_, _, rfl, hout (fun z => z.2.2 hq), rfl⟩
    | some j =>
      rw [hs] at hq
      obtain ⟨hj, hi, x, hx, q1, q2, q3, q4, q5, q6, q7, q8, q9⟩ := hq
      obtain ⟨r, e1, e2⟩ := nb_bel (N + 1) p a (σ.2.2.2.2.2.2.2.2.1 j) ((pI τ.1.1 0 0, τ.1.2), τ.2) x q7.symm c hi h.1 hx q8 q9 x.2.1 0 (N + 1) (N + 1) (-1) (by omega) (by omega) (by omega) (Or.inl rfl)
      rw [nb_mS, nb_lt hj]
      have e0 : df_X8_labelUpTo (N + 1) a (σ.2.2.2.2.2.2.2.2.1 j) = some (r, σ.2.2.2.2.2.2.2.2.1 j) := e1
      rw [e0, nb_b2, nb_let]
      refine ⟨r, _, rfl, e2, ?_⟩
      have hf : (fun i => if i = j then σ.2.2.2.2.2.2.2.2.1 j else σ.2.2.2.2.2.2.2.2.1 i) = σ.2.2.2.2.2.2.2.2.1 := by
        funext i
        by_cases z : i = j
        · rw [if_pos z, z]
        · rw [if_neg z]
      rw [hf]
  · rw [if_neg c, nb_mN]
    exact ⟨_, _, rfl, hout (fun z => c ⟨z.1, z.2.1⟩), rfl⟩
