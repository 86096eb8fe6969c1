theorem lcm (a b : Int64) : (a.toInt < b.toInt ∧ lg_cmp a b = -nI 1) ∨ (a.toInt = b.toInt ∧ lg_cmp a b = nI 0) ∨ (b.toInt < a.toInt ∧ lg_cmp a b = nI 1) := by
  unfold lg_cmp
  by_cases c : b < a
  · rw [if_pos c]
    rw [Int64.lt_iff_toInt_lt] at c
    exact Or.inr (Or.inr ⟨c, rfl⟩)
  · rw [if_neg c]
    rw [Int64.lt_iff_toInt_lt] at c
    by_cases d : a = b
    · rw [if_pos d, d]
      exact Or.inr (Or.inl ⟨rfl, rfl⟩)
    · rw [if_neg d]
      have : a.toInt ≠ b.toInt := fun y => d (Int64.toInt_inj.mp y)
      exact Or.inl ⟨by omega, rfl⟩
theorem lcA (a b : Int64) : lg_cmp a b < (0 : Int32) ↔ a.toInt < b.toInt := by
  rcases lcm a b with ⟨x, y⟩ | ⟨x, y⟩ | ⟨x, y⟩
  · rw [y]; exact ⟨fun _ => x, fun _ => by decide⟩
  · rw [y]; exact ⟨fun z => absurd z (by decide), fun z => by omega⟩
  · rw [y]; exact ⟨fun z => absurd z (by decide), fun z => by omega⟩
theorem lcB (a b : Int64) : (0 : Int32) ≤ lg_cmp a b ↔ b.toInt ≤ a.toInt := by
  rcases lcm a b with ⟨x, y⟩ | ⟨x, y⟩ | ⟨x, y⟩
  · rw [y]; exact ⟨fun z => absurd z (by decide), fun z => by omega⟩
  · rw [y]; exact ⟨fun _ => by omega, fun _ => by decide⟩
  · rw [y]; exact ⟨fun _ => by omega, fun _ => by decide⟩
theorem lcC (a b : Int64) : (0 : Int32) < lg_cmp a b ↔ b.toInt < a.toInt := by
  rcases lcm a b with ⟨x, y⟩ | ⟨x, y⟩ | ⟨x, y⟩
  · rw [y]; exact ⟨fun z => absurd z (by decide), fun z => by omega⟩
  · rw [y]; exact ⟨fun z => absurd z (by decide), fun z => by omega⟩
  · rw [y]; exact ⟨fun _ => x, fun _ => by decide⟩
theorem lcD (a b : Int64) : lg_cmp a b ≤ (0 : Int32) ↔ a.toInt ≤ b.toInt := by
  rcases lcm a b with ⟨x, y⟩ | ⟨x, y⟩ | ⟨x, y⟩
  · rw [y]; exact ⟨fun _ => by omega, fun _ => by decide⟩
  · rw [y]; exact ⟨fun _ => by omega, fun _ => by decide⟩
  · rw [y]; exact ⟨fun z => absurd z (by decide), fun z => by omega⟩
theorem lcE (a b : Int64) : lg_cmp a b = (0 : Int32) ↔ a = b := by
  rcases lcm a b with ⟨x, y⟩ | ⟨x, y⟩ | ⟨x, y⟩
  · rw [y]; exact ⟨fun z => absurd z (by decide), fun z => by rw [z] at x; omega⟩
  · rw [y]; exact ⟨fun _ => Int64.toInt_inj.mp x, fun _ => rfl⟩
  · rw [y]; exact ⟨fun z => absurd z (by decide), fun z => by rw [z] at x; omega⟩
theorem in_64 (n : Nat) (x a b : Int64) : df_X19_in n x a b () = some (if a.toInt ≤ x.toInt ∧ x.toInt ≤ b.toInt then nI 1 else nI 0, ()) := by
  unfold df_X19_in df_X19_in_0 df_X19_in_17 df_X19_in_18
  by_cases c : x.toInt < a.toInt
  · rw [if_pos ((lcA x a).mpr c), if_neg (by omega)]
    exact nm_z0
  · rw [if_neg (fun z => c ((lcA x a).mp z))]
    by_cases d : b.toInt < x.toInt
    · rw [if_pos ((lcC x b).mpr d), if_neg (by omega)]
      exact nm_z0
    · rw [if_neg (fun z => d ((lcC x b).mp z)), if_pos (by omega)]
      exact nm_z1
theorem to_64 (b : Int32) : b.toInt64.toInt = b.toInt := Int32.toInt_toInt64 b
theorem nz_n {α : Type} {x : Option α} {p : Prop} [Decidable p] : nd_z .boolean (if p then nI 1 else nI 0) x = x := by
  by_cases c : p
  · rw [if_pos c]; exact nm_z1
  · rw [if_neg c]; exact nm_z0
theorem b1_lt (b : Int32) : b < 1 ↔ b.toInt < 1 := by rw [Int32.lt_iff_toInt_lt]; rfl
theorem b8_lt (b : Int32) : (8 : Int32) < b ↔ 8 < b.toInt := by rw [Int32.lt_iff_toInt_lt]; rfl
theorem b31_lt (b : Int32) : (31 : Int32) < b ↔ 31 < b.toInt := by rw [Int32.lt_iff_toInt_lt]; rfl
theorem b8_le (b : Int32) : (8 : Int32) ≤ b ↔ 8 ≤ b.toInt := by rw [Int32.le_iff_toInt_le]; rfl
theorem b7_le (b : Int32) : b ≤ (7 : Int32) ↔ b.toInt ≤ 7 := by rw [Int32.le_iff_toInt_le]; rfl
/-- a number of few bits -/
theorem ix_nI {b : Int32} {k : Nat} (h : 0 ≤ b.toInt) (h1 : b.toInt ≤ k) : ∃ j : Nat, j ≤ k ∧ b = nI j ∧ b.toInt = j := by
  have lt := Int32.toInt_lt b
  refine ⟨b.toInt.toNat, by omega, Int32.toInt_inj.mp ?_, by omega⟩
  rw [nI_toInt (by omega)]
  omega
theorem ix_32 {x : Int64} {k : Nat} (hk : k < 2 ^ 31) (h : 0 ≤ x.toInt) (h1 : x.toInt ≤ k) : ∃ j : Nat, j ≤ k ∧ x.toInt32 = nI j := by
  refine ⟨x.toInt.toNat, by omega, ?_⟩
  have e : x = Int64.ofInt (x.toInt.toNat : Int) := by
    rw [show (x.toInt.toNat : Int) = x.toInt by omega, Int64.ofInt_toInt]
  apply Int32.toInt_inj.mp
  rw [nI_toInt (by omega), Int64.toInt_toInt32]
  rw [Int.bmod_eq_of_le (by omega) (by omega)]
  omega
/-- what may come, as each side asks it -/
def sdd (k : Int32) (x : Int64) (b : Int32) : Prop := (k = 0 ∧ 0 ≤ x.toInt ∧ x.toInt ≤ 15) ∨ (k = 1 ∧ 1 ≤ b.toInt ∧ b.toInt ≤ 8) ∨ (k = 2 ∧ (0 ≤ x.toInt ∧ x.toInt ≤ 15) ∧ 1 ≤ b.toInt ∧ b.toInt ≤ 31) ∨ (k = 3 ∧ 0 ≤ x.toInt ∧ x.toInt ≤ 1099511627776) ∨ k = 4
theorem sd_R (n : Nat) (k : Int32) (x : Int64) (b : Int32) : (sdd k x b → df_X19_isSaid n k x b () = some (nI 1, ())) ∧ (¬ sdd k x b → df_X19_isSaid n k x b () = some (nI 0, ())) := by
  unfold df_X19_isSaid df_X19_isSaid_0 df_X19_isSaid_94 df_X19_isSaid_64 df_X19_isSaid_94
  have e0 : (0 : Int64).toInt = 0 := by decide
  have e1 : (1 : Int64).toInt = 1 := by decide
  have e8 : (8 : Int64).toInt = 8 := by decide
  have e15 : (15 : Int64).toInt = 15 := by decide
  have e31 : (31 : Int64).toInt = 31 := by decide
  have eL : (1099511627776 : Int64).toInt = 1099511627776 := by decide
  have n01 : ¬ (1 : Int32) = 0 := by decide
  have n02 : ¬ (2 : Int32) = 0 := by decide
  have n03 : ¬ (3 : Int32) = 0 := by decide
  have n04 : ¬ (4 : Int32) = 0 := by decide
  have n12 : ¬ (2 : Int32) = 1 := by decide
  have n13 : ¬ (3 : Int32) = 1 := by decide
  have n14 : ¬ (4 : Int32) = 1 := by decide
  have n23 : ¬ (3 : Int32) = 2 := by decide
  have n24 : ¬ (4 : Int32) = 2 := by decide
  have n34 : ¬ (4 : Int32) = 3 := by decide
  have i01 : ¬ nI 1 = (0 : Int32) := by decide
  have m1 : ∀ {α : Type} {y : Option α}, nd_z .boolean (1 : Int32) y = y := nm_z1
  have m0 : ∀ {α : Type} {y : Option α}, nd_z .boolean (0 : Int32) y = y := nm_z0
  rw [in_64, in_64, in_64, in_64, to_64, e0, e1, e8, e15, e31, eL, nb_b2, nb_b2, nb_b2, nb_b2, nb_b2, nz_n, nz_n, nz_n, m1, m0]
  unfold sdd
  by_cases k0 : k = 0
  · subst k0
    rw [if_pos rfl]
    exact ⟨fun h => by rw [if_pos (by rcases h with h | h | h | h | h; exact h.2; exact absurd h.1.symm n01; exact absurd h.1.symm n02; exact absurd h.1.symm n03; exact absurd h.symm n04)], fun h => by rw [if_neg (fun z => h (Or.inl ⟨rfl, z⟩))]⟩
  · rw [if_neg k0]
    by_cases k1 : k = 1
    · subst k1
      rw [if_pos rfl]
      exact ⟨fun h => by rw [if_pos (by rcases h with h | h | h | h | h; exact absurd h.1 n01; exact h.2; exact absurd h.1.symm n12; exact absurd h.1.symm n13; exact absurd h.symm n14)], fun h => by rw [if_neg (fun z => h (Or.inr (Or.inl ⟨rfl, z⟩)))]⟩
    · rw [if_neg k1]
      by_cases k2 : k = 2
      · subst k2
        rw [if_pos rfl]
        by_cases c : 0 ≤ x.toInt ∧ x.toInt ≤ 15
        · rw [if_pos c, if_neg i01]
          by_cases d : 1 ≤ b.toInt ∧ b.toInt ≤ 31
          · rw [if_pos d, if_neg i01]
            exact ⟨fun _ => rfl, fun h => absurd (Or.inr (Or.inr (Or.inl ⟨rfl, c, d⟩))) h⟩
          · rw [if_neg d, if_pos (show nI 0 = (0 : Int32) from rfl)]
            exact ⟨fun h => by rcases h with h | h | h | h | h; exact absurd h.1 n02; exact absurd h.1 n12; exact absurd h.2.2 d; exact absurd h.1.symm n23; exact absurd h.symm n24, fun _ => rfl⟩
        · rw [if_neg c, if_pos (show nI 0 = (0 : Int32) from rfl)]
          exact ⟨fun h => by rcases h with h | h | h | h | h; exact absurd h.1 n02; exact absurd h.1 n12; exact absurd h.2.1 c; exact absurd h.1.symm n23; exact absurd h.symm n24, fun _ => rfl⟩
      · rw [if_neg k2]
        by_cases k3 : k = 3
        · subst k3
          rw [if_pos rfl]
          exact ⟨fun h => by rw [if_pos (by rcases h with h | h | h | h | h; exact absurd h.1 n03; exact absurd h.1 n13; exact absurd h.1 n23; exact h.2; exact absurd h.symm n34)], fun h => by rw [if_neg (fun z => h (Or.inr (Or.inr (Or.inr (Or.inl ⟨rfl, z⟩)))))]⟩
        · rw [if_neg k3]
          by_cases k4 : k = 4
          · rw [if_pos k4]
            exact ⟨fun _ => rfl, fun h => absurd (Or.inr (Or.inr (Or.inr (Or.inr k4)))) h⟩
          · rw [if_neg k4]
            exact ⟨fun h => by rcases h with h | h | h | h | h; exact absurd h.1 k0; exact absurd h.1 k1; exact absurd h.1 k2; exact absurd h.1 k3; exact absurd h k4, fun _ => rfl⟩
theorem sd_C (n : Nat) (k : Int32) (x : Int64) (b : Int32) : (sdd k x b → df_X3_isEvent n k x b () = some (nI 1, ())) ∧ (¬ sdd k x b → df_X3_isEvent n k x b () = some (nI 0, ())) := by
  have e0 : (0 : Int64).toInt = 0 := by decide
  have e16 : (16 : Int64).toInt = 16 := by decide
  have eL : (1099511627776 : Int64).toInt = 1099511627776 := by decide
  have m1 : ∀ {α : Type} {y : Option α}, nd_z .boolean (1 : Int32) y = y := nm_z1
  have m0 : ∀ {α : Type} {y : Option α}, nd_z .boolean (0 : Int32) y = y := nm_z0
  unfold df_X3_isEvent df_X3_isEvent_0 df_X3_isEvent_50 df_X3_isEvent_51 df_X3_isEvent_67 df_X3_isEvent_68 df_X3_isEvent_98 df_X3_isEvent_99 df_X3_isEvent_118 df_X3_isEvent_119 df_X3_isEvent_130
  simp only [lcA, lcB, lcC, e0, e16, eL, b1_lt, b8_lt, b31_lt, m0, m1]
  unfold sdd
  by_cases k0 : k = 0
  · subst k0
    rw [if_pos rfl]
    refine ⟨fun h => ?_, fun h => ?_⟩
    · have h : 0 ≤ x.toInt ∧ x.toInt ≤ 15 := by
        rcases h with h | h | h | h | h
        · exact h.2
        · exact absurd h.1.symm (by decide)
        · exact absurd h.1.symm (by decide)
        · exact absurd h.1.symm (by decide)
        · exact absurd h.symm (by decide)
      rw [if_neg (by omega), if_neg (by omega)]; rfl
    · by_cases c : x.toInt < 0
      · rw [if_pos c]; rfl
      · rw [if_neg c, if_pos (by have : ¬ x.toInt ≤ 15 := fun z => h (Or.inl ⟨rfl, by omega, z⟩); omega)]; rfl
  · rw [if_neg k0]
    by_cases k1 : k = 1
    · subst k1
      rw [if_pos rfl]
      refine ⟨fun h => ?_, fun h => ?_⟩
      · have h : 1 ≤ b.toInt ∧ b.toInt ≤ 8 := by
          rcases h with h | h | h | h | h
          · exact absurd h.1 (by decide)
          · exact h.2
          · exact absurd h.1.symm (by decide)
          · exact absurd h.1.symm (by decide)
          · exact absurd h.symm (by decide)
        rw [if_neg (by omega), if_neg (by omega)]; rfl
      · by_cases c : b.toInt < 1
        · rw [if_pos c]; rfl
        · rw [if_neg c, if_pos (by have : ¬ b.toInt ≤ 8 := fun z => h (Or.inr (Or.inl ⟨rfl, by omega, z⟩)); omega)]; rfl
    · rw [if_neg k1]
      by_cases k2 : k = 2
      · subst k2
        rw [if_pos rfl]
        refine ⟨fun h => ?_, fun h => ?_⟩
        · have h : (0 ≤ x.toInt ∧ x.toInt ≤ 15) ∧ 1 ≤ b.toInt ∧ b.toInt ≤ 31 := by
            rcases h with h | h | h | h | h
            · exact absurd h.1 (by decide)
            · exact absurd h.1 (by decide)
            · exact h.2
            · exact absurd h.1.symm (by decide)
            · exact absurd h.symm (by decide)
          rw [if_neg (by omega), if_neg (by omega), if_neg (by omega), if_neg (by omega)]; rfl
        · by_cases c : x.toInt < 0
          · rw [if_pos c]; rfl
          · rw [if_neg c]
            by_cases c2 : 16 ≤ x.toInt
            · rw [if_pos c2]; rfl
            · rw [if_neg c2]
              by_cases c3 : b.toInt < 1
              · rw [if_pos c3]; rfl
              · rw [if_neg c3, if_pos (by have : ¬ b.toInt ≤ 31 := fun z => h (Or.inr (Or.inr (Or.inl ⟨rfl, ⟨by omega, by omega⟩, by omega, z⟩))); omega)]; rfl
      · rw [if_neg k2]
        by_cases k3 : k = 3
        · subst k3
          rw [if_pos rfl]
          refine ⟨fun h => ?_, fun h => ?_⟩
          · have h : 0 ≤ x.toInt ∧ x.toInt ≤ 1099511627776 := by
              rcases h with h | h | h | h | h
              · exact absurd h.1 (by decide)
              · exact absurd h.1 (by decide)
              · exact absurd h.1 (by decide)
              · exact h.2
              · exact absurd h.symm (by decide)
            rw [if_neg (by omega), if_neg (by omega)]; rfl
          · by_cases c : x.toInt < 0
            · rw [if_pos c]; rfl
            · rw [if_neg c, if_pos (by have : ¬ x.toInt ≤ 1099511627776 := fun z => h (Or.inr (Or.inr (Or.inr (Or.inl ⟨rfl, by omega, z⟩)))); omega)]; rfl
        · rw [if_neg k3]
          by_cases k4 : k = 4
          · rw [if_pos k4]
            exact ⟨fun _ => rfl, fun h => absurd (Or.inr (Or.inr (Or.inr (Or.inr k4)))) h⟩
          · rw [if_neg k4]
            exact ⟨fun h => by rcases h with h | h | h | h | h; exact absurd h.1 k0; exact absurd h.1 k1; exact absurd h.1 k2; exact absurd h.1 k3; exact absurd h k4, fun _ => rfl⟩
/-- what counts of an event, in both -/
theorem sd_V (n : Nat) (k : Int32) (x : Int64) (b : Int32) (h : sdd k x b) : ∃ (K : Nat) (A : Int64) (B : Int32), K < 5 ∧ k = nI K ∧ df_X3_first n k x b () = some (A, ()) ∧ df_X3_second n k b () = some (B, ()) ∧ evV K A B ∧ ∀ s : S19, (if k = 1 then nd_b2 (df_X19_low n x b ()) (fun q27 _ => df_X19_outside_115 n k b k q27 s) else (if k = 4 then nd_b2 (df_X19_low n x 4 ()) (fun q24 _ => df_X19_outside_115 n k b k q24 s) else df_X19_outside_115 n k b k x s)) = df_X19_outside_131 n k A B s := by
  rcases h with ⟨rfl, h1, h2⟩ | ⟨rfl, h1, h2⟩ | ⟨rfl, ⟨h1, h2⟩, h3, h4⟩ | ⟨rfl, h1, h2⟩ | rfl
  · obtain ⟨j, j1, j2⟩ := ix_32 (k := 15) (by omega) h1 h2
    exact ⟨0, x, 0, by omega, rfl, rfl, rfl, Or.inl ⟨rfl, j, by omega, j2⟩, fun s => rfl⟩
  · obtain ⟨j, j1, j2, j3⟩ := ix_nI (k := 8) (by omega) h2
    by_cases c : b.toInt ≤ 7
    · refine ⟨1, x &&& (((1 : Int64) <<< ((8 * b).toInt64 &&& 63)) - 1), b, by omega, rfl, ?_, rfl, Or.inr (Or.inl ⟨rfl, j, j1, j2⟩), fun s => ?_⟩
      · unfold df_X3_first df_X3_first_0
        rw [if_pos rfl, if_neg (fun z => by rw [b8_le] at z; omega)]
      · unfold df_X19_low df_X19_low_0 df_X19_low_20
        rw [if_pos rfl, if_pos ((b7_le b).mpr c), nb_b2]
        rfl
    · refine ⟨1, x, b, by omega, rfl, ?_, rfl, Or.inr (Or.inl ⟨rfl, j, j1, j2⟩), fun s => ?_⟩
      · unfold df_X3_first df_X3_first_0
        rw [if_pos rfl, if_pos (by rw [b8_le]; omega)]
        rfl
      · unfold df_X19_low df_X19_low_0 df_X19_low_20
        rw [if_pos rfl, if_neg (fun z => c ((b7_le b).mp z)), nb_b2]
        rfl
  · obtain ⟨q, q1, q2⟩ := ix_32 (k := 15) (by omega) h1 h2
    obtain ⟨j, j1, j2, j3⟩ := ix_nI (k := 31) (by omega) h4
    exact ⟨2, x, b, by omega, rfl, rfl, rfl, Or.inr (Or.inr (Or.inl ⟨rfl, q, j, by omega, by omega, by omega, q2, j2⟩)), fun s => rfl⟩
  · exact ⟨3, x, 0, by omega, rfl, rfl, rfl, Or.inr (Or.inr (Or.inr (Or.inl ⟨rfl, h1, h2⟩))), fun s => rfl⟩
  · refine ⟨4, x &&& 4294967295, 0, by omega, rfl, rfl, rfl, Or.inr (Or.inr (Or.inr (Or.inr rfl))), fun s => ?_⟩
    unfold df_X19_low df_X19_low_0 df_X19_low_20
    rw [if_neg (show ¬ (4 : Int32) = 1 by decide), if_pos rfl, if_pos (show (4 : Int32) ≤ 7 by decide), nb_b2, show ((1 : Int64) <<< ((8 * 4 : Int32).toInt64 &&& 63)) - 1 = 4294967295 by decide]
    rfl
theorem mx4 (f : Rw) : nd_mix 4 f f = f := by
  funext i
  by_cases c : i < 4
  · exact if_pos c
  · exact if_neg c
theorem pl_tl (σ : S12) : pl σ (tl σ) = σ := by
  show (σ.1, nd_mix 4 σ.2.1 σ.2.1, σ.2.2) = σ
  rw [mx4]
theorem jM_t {n vn : Nat} {Q V : St} {N T e c k : Nat} {lo : Nat → Nat} {t t' : S11} {τ : S19} (h : jM n vn Q V N T e c k lo t τ) (g : cI n vn Q V N T e c lo t') (h6 : sI t'.1 6 = sI t.1 6) : jM n vn Q V N T e c k lo t' τ := by
  obtain ⟨hI, hL, hev, hv, h4, hk, hX, h10, h14, hS, h11⟩ := h
  exact ⟨g, hL, hev, hv, h4, hk, hX, h10, h14, hS, h6.trans h11.1, h11.2⟩
/-- what comes from outside, where the machine has been booted -/
theorem jm_out (n : Nat) (hn : 70000 < n) {vn : Nat} {Q V : St} {N T e c k : Nat} {lo : Nat → Nat} {t : S11} {τ : S19} (h : jM n vn Q V N T e c k lo t τ) {K : Nat} (hK : K < 5) {A : Int64} {B : Int32} (hv : evV K A B) (kk bb : Int32) (xx : Int64) (hs : ∀ s : S19, (if kk = 1 then nd_b2 (df_X19_low n xx bb ()) (fun q27 _ => df_X19_outside_115 n kk bb kk q27 s) else (if kk = 4 then nd_b2 (df_X19_low n xx 4 ()) (fun q24 _ => df_X19_outside_115 n kk bb kk q24 s) else df_X19_outside_115 n kk bb kk xx s)) = df_X19_outside_131 n (nI K) A B s) : ∃ (r : Int32) (t' : S11) (τ' : S19) (V' : St) (N' T' e' c' k' : Nat) (lo' : Nat → Nat), df_X11_come n (nI K) A B t = some (r, t') ∧ df_X19_outside_37 n kk xx bb 0 0 τ = some (r, τ') ∧ jM n vn Q V' N' T' e' c' k' lo' t' τ' ∧ kC t t' ∧ kR τ τ' ∧ sI τ'.1 0 = 0 := by
  have h0 := jm_0 h 0
  obtain ⟨hI, hL, hev, hvn, ⟨h4, h5, h6⟩, hk, hX, h10, h14, hS, h11⟩ := id h
  obtain ⟨hV, hC, hs', hP, hce, c3, c4, c5, hA, hCp, hW⟩ := id hI
  obtain ⟨l1, l2, l3, l4, l5, l6, l7, l8⟩ := id hC
  have fl : ∀ G : Int32 → S19 → Option (Int32 × S19), nd_b2 (df_X19_fails n 0 0 τ) G = G 0 (pI τ.1 0 0, τ.2) := fun G => by
    rw [nb_fails, nb_b2, if_pos (show (0 : Int32) = 0 ∧ (0 : Int32) = 0 from ⟨rfl, rfl⟩), if_pos rfl, if_pos rfl]
  have e5 : sI (pI τ.1 0 0) 5 = nI c := h5
  have e6 : sI (pI τ.1 0 0) 6 = nI e := h6
  have e9 : sI (pI τ.1 0 0) 9 = nI (T - N) := hS.1
  have e8 : sI (pI τ.1 0 0) 8 = nI N := hL.1
  have ue : e < 2 ^ 31 := by omega
  have uN : N < 2 ^ 31 := by omega
  have uT : T < 2 ^ 31 := by omega
  have uc : c < 2 ^ 31 := by omega
  by_cases ce : c = e
  · subst ce
    by_cases tn : T = N
    · subst tn
      by_cases n8 : T < 2048
      · obtain ⟨X', r1, r2⟩ := jm_come n hn h0 (Nat.le_refl c)
        obtain ⟨r, s', rr, q1, q2, q3, q4⟩ := co_1 n (by omega) hI n8 hK hv
        obtain ⟨X2, x1, x2, x3, x4⟩ := q2 X' r2.2.2.2.2.2.2.1
        have r14 : sI X'.1 14 = -nI 1 := r2.2.2.2.2.2.2.2.2.1
        obtain ⟨w0, w1⟩ := rc_rec n (τ := (pI (pI τ.1 0 0) 10 (nI (lo (c + 1))), (τ.2.1, ((τ.2.2.1.1, X'), τ.2.2.2)))) r2.2.1 n8 h6 rr x1
        have lc : lo (c + 1) = T := l5.2.2 (c + 1) (by omega)
        have go : df_X19_outside_37 n kk xx bb 0 0 τ = df_X19_outside_131 n (nI K) A B (pI (pI τ.1 0 0) 10 (nI (lo (c + 1))), (τ.2.1, ((τ.2.2.1.1, X'), τ.2.2.2))) := by
          unfold df_X19_outside_37
          rw [fl, if_pos rfl, e5, e6, if_pos rfl, e9, if_pos (show nI (T - T) ≤ (0 : Int32) by rw [Nat.sub_self]; decide), e8, if_neg (show ¬ nI T = (2048 : Int32) from fun z => by have z : nI T = nI 2048 := z; rw [nI_eq uN (by omega)] at z; omega), r1, nb_b1, hs]
        rcases rr with z | z
        · obtain ⟨d1, d2⟩ := q3 z
          have hX2 := x3 z
          refine ⟨nI 1, s', (pI (pI τ.1 0 0) 10 (nI (lo (c + 1))), (τ.2.1, ((τ.2.2.1.1, X'), τ.2.2.2))), V, T, T, c, c, c, lo, ?_, ?_, jM_t r2 d1 (d2.1 6 (by omega)), kC_f d2, kR_m τ _ _ _, rfl⟩
          · rw [q1, if_pos z]
          · rw [go]
            unfold df_X19_outside_131 df_X19_outside_142
            rw [w0 z, nb_b2, if_pos (show nI 0 = (0 : Int32) from rfl), hX2]
            rfl
        · obtain ⟨d1, d2, d3, d4, d5⟩ := q4 z
          obtain ⟨a1, a2, a3, a4, a5, a6, a7⟩ := aT_r (pI (pI τ.1 0 0) 10 (nI (lo (c + 1)))) T c K A B
          obtain ⟨f1, f2⟩ := aT_e (T := pI (pI τ.1 0 0) 10 (nI (lo (c + 1)))) (N := T) (e := c) hK (a := A) (b := B)
          have z0 : ¬ r = nI 0 := by rw [z]; decide
          refine ⟨nI 0, s', (aT (pI (pI τ.1 0 0) 10 (nI (lo (c + 1)))) T c K A B, (τ.2.1, ((τ.2.2.1.1, X2), τ.2.2.2))), aV V T c K A B, T + 1, T + 1, c, c, c, loA lo c T, ?_, ?_, ⟨d1, rLg_a r2.2.1 n8 hK hv, fun i hi => ?_, hvn, ⟨(a7 4 (by omega) (by omega)).trans h4, (a7 5 (by omega) (by omega)).trans h5, (a7 6 (by omega) (by omega)).trans h6⟩, Nat.le_refl c, x4 z, ?_, x2.trans r14, ⟨?_, fun i hi => by omega⟩, ?_⟩, ?_, ?_, (a7 0 (by omega) (by omega)).trans rfl⟩
          · rw [q1, if_neg z0]
          · rw [go]
            unfold df_X19_outside_131 df_X19_outside_142
            rw [w1 z, nb_b2, if_neg (show ¬ nI 1 = (0 : Int32) by decide)]
            rfl
          · by_cases y : i = T
            · rw [y]
              refine f2.trans ?_
              obtain ⟨r1, r2, r3, r4, r5, r6⟩ := aV_r V T c K A B
              unfold evK
              rw [r1, r3, r4, nm_us, ul_s, nm_us, nI_clamp (by omega)]
            · refine (f1 i (by omega)).trans ((hev i (by omega)).trans ?_)
              obtain ⟨r1, r2, r3, r4, r5, r6⟩ := aV_r V T c K A B
              unfold evK
              rw [r1, r3, r4, nm_un y, up_o y, nm_un y]
          · refine a6.trans ?_
            rw [show loA lo c T (c + 1) = T + 1 from if_neg (by omega)]
          · refine (a7 9 (by omega) (by omega)).trans ?_
            refine Eq.trans e9 ?_
            rw [Nat.sub_self, Nat.sub_self]
          · rw [d2 6 (by omega)]
            have a11 : sI (aT (pI (pI τ.1 0 0) 10 (nI (lo (c + 1)))) T c K A B) 11 = sI τ.1 11 := (a7 11 (by omega) (by omega)).trans rfl
            show sI t.1 6 = sI (aT (pI (pI τ.1 0 0) 10 (nI (lo (c + 1)))) T c K A B) 11 ∧ okB (sI (aT (pI (pI τ.1 0 0) 10 (nI (lo (c + 1)))) T c K A B) 11)
            rw [a11]
            exact h11
          · exact ⟨d2 0 (by omega), d2 7 (by omega), d3, fun r _ => by rw [d4], congrArg Prod.fst d5, congrArg (fun p => p.2.1) d5⟩
          · refine ⟨fun j hj => ?_, fun j hj => ?_, fun j => rfl, rfl, rfl, rfl⟩
            · refine (a7 j (by omega) (by omega)).trans ?_
              rw [nb_II, if_neg (by omega), nb_II, if_neg (by omega)]
            · show sR (aT (pI (pI τ.1 0 0) 10 (nI (lo (c + 1)))) T c K A B) j = _
              unfold aT
              show sR (pR (pR (pQ (pR _ 5 _) 0 _) 6 _) 7 _) j = _
              rw [nb_RR, if_neg (by omega), nb_RR, if_neg (by omega), nm_RQ, nb_RR, if_neg (by omega)]
              rfl
      · refine ⟨3, t, (pI τ.1 0 0, τ.2), V, T, T, c, c, k, lo, ?_, ?_, h0, kC_r t, kR_0 τ 0, rfl⟩
        · unfold df_X11_come df_X11_come_0
          have l8' : ¬ nI T < (2048 : Int32) := fun z => by have z : nI T < nI 2048 := z; rw [nI_ltI uN (by omega)] at z; omega
          rw [c3, c4, if_pos rfl]
          rcases hV with ⟨o1, o2⟩ | ⟨o1, o2⟩
          · rw [if_pos o1, o2, l1, l2, if_pos (show nI T ≤ nI T by rw [nI_leI uN uN]; exact Nat.le_refl T), if_neg l8']
          · rw [if_neg (show ¬ sO t.1 0 = some 27 by rw [o1]; decide), if_pos o1, o2, l1, l2, if_pos (show nI T ≤ nI T by rw [nI_leI uN uN]; exact Nat.le_refl T), if_neg l8']
        · unfold df_X19_outside_37
          rw [fl, if_pos rfl, e5, e6, if_pos rfl, e9, if_pos (show nI (T - T) ≤ (0 : Int32) by rw [Nat.sub_self]; decide), e8, if_pos (show nI T = (2048 : Int32) from (show nI T = nI 2048 by rw [show T = 2048 by omega]))]
    · refine ⟨2, t, (pI τ.1 0 0, τ.2), V, N, T, c, c, k, lo, ?_, ?_, h0, kC_r t, kR_0 τ 0, rfl⟩
      · unfold df_X11_come df_X11_come_0 df_X11_come_28
        have l8' : ¬ nI T ≤ nI N := fun z => by rw [nI_leI uT uN] at z; omega
        rw [c3, c4, if_pos rfl]
        rcases hV with ⟨o1, o2⟩ | ⟨o1, o2⟩
        · rw [if_pos o1, o2, l1, l2, if_neg l8']
        · rw [if_neg (show ¬ sO t.1 0 = some 27 by rw [o1]; decide), if_pos o1, o2, l1, l2, if_neg l8']
      · unfold df_X19_outside_37 df_X19_outside_63
        rw [fl, if_pos rfl, e5, e6, if_pos rfl, e9, if_neg (show ¬ nI (T - N) ≤ (0 : Int32) from fun z => by have z : nI (T - N) ≤ nI 0 := z; rw [nI_leI (by omega) (by omega)] at z; omega)]
  · refine ⟨2, t, (pI τ.1 0 0, τ.2), V, N, T, e, c, k, lo, ?_, ?_, h0, kC_r t, kR_0 τ 0, rfl⟩
    · unfold df_X11_come df_X11_come_0 df_X11_come_28
      rw [c3, c4, if_neg (show ¬ nI c = nI e from fun z => by rw [nI_eq uc ue] at z; exact ce z)]
    · unfold df_X19_outside_37 df_X19_outside_63
      rw [fl, if_pos rfl, e5, e6, if_neg (show ¬ nI c = nI e from fun z => by rw [nI_eq uc ue] at z; exact ce z)]
/-- outside -/
theorem jc_outside (n T L : Nat) (hn : 70000 < n) (k : Int32) (x : Int64) (b : Int32) (σ : S12) (τ : S19) (h : jA n (tl σ) τ) : (df_X12_outside n T L k x b σ = some (Sum.inr ("java/lang/IllegalArgumentException", σ)) ∧ df_X19_outside n k x b τ = some (0, (pI τ.1 0 1, τ.2))) ∨ (df_X12_outside n T L k x b σ = some (Sum.inr ("java/lang/IllegalStateException", σ)) ∧ df_X19_outside n k x b τ = some (0, (pI τ.1 0 2, τ.2))) ∨ ∃ (r : Int32) (t' : S11) (τ' : S19), df_X12_outside n T L k x b σ = some (Sum.inl (r, pl σ t')) ∧ df_X19_outside n k x b τ = some (r, τ') ∧ sI τ'.1 0 = 0 ∧ jA n t' τ' ∧ kC (tl σ) t' ∧ kR τ τ' := by
  have n1 : ¬ nI 1 = (0 : Int32) := by decide
  by_cases s : sdd k x b
  · have sC := (sd_C n k x b).1 s
    have sR := (sd_R n k x b).1 s
    obtain ⟨K, A, B, hK, ek, v1, v2, v3, v4⟩ := sd_V n k x b s
    obtain ⟨h0, ⟨h1, h2, h3⟩ | ⟨h1, h2, vn, Q, V, N, T', e, c, k', lo, h3⟩⟩ := h
    · refine Or.inr (Or.inl ⟨?_, ?_⟩)
      · unfold df_X12_outside df_X12_outside_0
        rw [sC, nb_b2, if_neg n1, if_pos (show sI σ.2.2.2.2.1 0 = 0 from h1)]
      · unfold df_X19_outside df_X19_outside_0 df_X19_outside_20 df_X19_outside_37
        rw [sR, nb_b2, if_neg n1, if_neg n1, if_pos (show sI τ.1 3 = 0 from h2), nb_fails, nb_b2]
        rfl
    · refine Or.inr (Or.inr ?_)
      obtain ⟨r, t', τ', V', N', T'', e', c', k'', lo', g1, g2, g3, g4, g5, g6⟩ := jm_out n hn h3 hK v3 k b x (fun s => by rw [v4 s, ek])
      refine ⟨r, t', τ', ?_, ?_, g6, ⟨sp2_k h0 g4, Or.inr ⟨g4.1.trans h1, (g5.1 3 (by omega)).trans h2, vn, Q, V', N', T'', e', c', k'', lo', g3⟩⟩, g4, g5⟩
      · unfold df_X12_outside df_X12_outside_0
        have b1 : ¬ sI σ.2.2.2.2.1 0 = 0 := by
          rw [show sI σ.2.2.2.2.1 0 = nI 1 from h1]; decide
        have g1 : df_X11_come n k A B (σ.2.2.2.2.1, σ.2.1, σ.2.2.2.2.2.1, σ.2.2.2.2.2.2.1, σ.2.2.2.2.2.2.2.1, σ.2.2.2.2.2.2.2.2.1, σ.2.2.2.2.2.2.2.2.2.1, σ.2.2.2.2.2.2.2.2.2.2) = some (r, t') := by rw [ek]; exact g1
        rw [sC, nb_b2, if_neg n1, if_neg b1, v1, nb_b2, v2, nb_b2, g1, nb_b2, nb_let]
        rfl
      · unfold df_X19_outside df_X19_outside_0 df_X19_outside_20 df_X19_outside_36
        rw [sR, nb_b2, if_neg n1, if_neg n1, if_neg (show ¬ sI τ.1 3 = 0 by rw [h2]; decide)]
        exact g2
  · have sC := (sd_C n k x b).2 s
    have sR := (sd_R n k x b).2 s
    refine Or.inl ⟨?_, ?_⟩
    · unfold df_X12_outside df_X12_outside_0
      rw [sC, nb_b2, if_pos (show nI 0 = (0 : Int32) from rfl)]
    · unfold df_X19_outside df_X19_outside_0 df_X19_outside_20 df_X19_outside_36 df_X19_outside_37
      rw [sR, nb_b2, if_pos (show nI 0 = (0 : Int32) from rfl), if_pos (show nI 0 = (0 : Int32) from rfl), nb_fails, nb_b2]
      rfl
