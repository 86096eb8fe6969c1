/-- strange letters: the line of the first one, or 0 -/
def stG (c : Nat → Nat) : Nat → Nat → Nat → Nat
  | 0, _, _ => 0
  | m + 1, x, l => if c x = 9 ∨ c x = 10 ∨ (32 ≤ c x ∧ c x ≤ 126) then stG c m (x + 1) (if c x = 10 then l + 1 else l) else l
theorem stG_n {c : Nat → Nat} (m x l : Nat) : stG c (m + 1) x l = if c x = 9 ∨ c x = 10 ∨ (32 ≤ c x ∧ c x ≤ 126) then stG c m (x + 1) (if c x = 10 then l + 1 else l) else l := rfl
theorem stG_l {c : Nat → Nat} : ∀ m x l : Nat, stG c m x l = 0 ∨ (l ≤ stG c m x l ∧ stG c m x l ≤ l + m) := fun m => by
  induction m with
  | zero => intro x l; exact Or.inl rfl
  | succ m ih =>
    intro x l
    unfold stG
    split
    · have := ih (x + 1) (if c x = 10 then l + 1 else l)
      split at this <;> rename_i h <;> simp only [h, if_true, if_false] <;> omega
    · omega
theorem stG_0 {c : Nat → Nat} : ∀ m x l : Nat, 0 < l → stG c m x l = 0 → ∀ i : Nat, x ≤ i → i < x + m → c i = 9 ∨ c i = 10 ∨ (32 ≤ c i ∧ c i ≤ 126) := fun m => by
  induction m with
  | zero => intro x l hl h i h1 h2; omega
  | succ m ih =>
    intro x l hl h i h1 h2
    unfold stG at h
    split at h
    · rename_i hx
      by_cases w : i = x
      · subst w; exact hx
      · exact ih (x + 1) (if c x = 10 then l + 1 else l) (by split <;> omega) h i (by omega) (by omega)
    · omega
theorem str_R {n L : Nat} {c : Nat → Nat} {τ : S19} (hL : L ≤ 32768) (h256 : ∀ i : Nat, i < L → c i < 256) (t1 : sI τ.1 1 = nI L) (t3 : ∀ i : Nat, i < L → sR τ.2.2.2.1 3 i = nI (c i)) : ∀ m x g l : Nat, x + m = L → m < g → l + m < 2 ^ 20 → df_X19_strange_4 n g (nI l) (nI x) τ = some (nI (stG c m x l), τ) := fun m => by
  induction m with
  | zero =>
    intro x g l h1 h2 h3
    obtain ⟨g, rfl⟩ : ∃ k : Nat, g = k + 1 := ⟨g - 1, by omega⟩
    show dF_X19_strange_4 n (df_X19_strange_4 n g) (nI l) (nI x) τ = _
    unfold dF_X19_strange_4
    rw [t1, if_pos (zle (show L ≤ x by omega) (by omega))]
    rfl
  | succ m ih =>
    intro x g l h1 h2 h3
    obtain ⟨g, rfl⟩ : ∃ k : Nat, g = k + 1 := ⟨g - 1, by omega⟩
    have hx := h256 x (by omega)
    have tx := t3 x (by omega)
    have go : df_X19_strange_55 n (df_X19_strange_4 n g) (nI l) (nI x) τ = some (nI (stG c m (x + 1) (if c x = 10 then l + 1 else l)), τ) := by
      unfold df_X19_strange_55 df_X19_strange_73
      rw [nm_ck (by omega) (by omega), nI_clamp (by omega), tx]
      by_cases y : c x = 10
      · rw [if_pos (show nI (c x) = 10 from congrArg nI y), nb_let, show nI x + Int32.ofInt 1 = nI (x + 1) from nI_add x 1, show nI l + 1 = nI (l + 1) from nI_add l 1, if_pos y]
        exact ih (x + 1) g (l + 1) (by omega) (by omega) (by omega)
      · rw [if_neg (show ¬ nI (c x) = 10 from zne (b := 10) y (by omega) (by omega)), nb_let, show nI x + Int32.ofInt 1 = nI (x + 1) from nI_add x 1, if_neg y]
        exact ih (x + 1) g l (by omega) (by omega) (by omega)
    show dF_X19_strange_4 n (df_X19_strange_4 n g) (nI l) (nI x) τ = _
    unfold dF_X19_strange_4
    rw [t1, if_neg (znle (show x < L by omega) (by omega)), nm_ck (by omega) (by omega), nI_clamp (by omega), tx]
    by_cases y1 : c x = 9
    · rw [if_pos (show nI (c x) = 9 from congrArg nI y1), go]
      rw [stG_n, if_pos (Or.inl y1)]
    rw [if_neg (show ¬ nI (c x) = 9 from zne (b := 9) y1 (by omega) (by omega)), nm_ck (by omega) (by omega)]
    by_cases y2 : c x = 10
    · rw [if_pos (show nI (c x) = 10 from congrArg nI y2), go]
      rw [stG_n, if_pos (Or.inr (Or.inl y2))]
    rw [if_neg (show ¬ nI (c x) = 10 from zne (b := 10) y2 (by omega) (by omega)), nm_ck (by omega) (by omega)]
    have hin : df_X19_in n (nI (c x)).toInt64 32 126 () = some (if (32 : Int) ≤ (nI (c x)).toInt ∧ (nI (c x)).toInt ≤ 126 then 1 else 0, ()) := nb_in32 n (nI (c x)) 32 126
    rw [hin, nb_b2, nI_toInt (by omega)]
    by_cases y3 : 32 ≤ c x ∧ c x ≤ 126
    · rw [if_pos (show (32 : Int) ≤ ((c x : Nat) : Int) ∧ ((c x : Nat) : Int) ≤ 126 by omega), if_neg (show ¬ (1 : Int32) = 0 by decide), go]
      rw [stG_n, if_pos (Or.inr (Or.inr y3))]
    · rw [if_neg (show ¬ ((32 : Int) ≤ ((c x : Nat) : Int) ∧ ((c x : Nat) : Int) ≤ 126) by omega), if_pos rfl]
      rw [stG_n, if_neg (show ¬ (c x = 9 ∨ c x = 10 ∨ (32 ≤ c x ∧ c x ≤ 126)) by omega)]
theorem bz_10 : ∀ z : Fin 256, (vp_nar .byte ((nI z.1).toInt8.toInt32) = 10 ↔ z.1 = 10) ∧ (vp_nar .byte ((nI z.1).toInt8.toInt32) = 9 ↔ z.1 = 9) := by decide +kernel
theorem stg_s {n g : Nat} {Q U : St} {a b c : Int32} (h : ¬ sI Q 2 = 0) (hg : 0 < g) : df_X1_start_43 n g a b c (Q, U) = some (Q, U) := by
  obtain ⟨g, rfl⟩ : ∃ k : Nat, g = k + 1 := ⟨g - 1, by omega⟩
  show dF_X1_start_43 n (df_X1_start_43 n g) a b c (Q, U) = _
  unfold dF_X1_start_43 df_X1_start_112
  rw [if_neg (show ¬ sI ((Q, U) : St × St).1 2 = 0 from h)]
  split <;> rfl
theorem stg_C {n L : Nat} {c : Nat → Nat} {Q U : St} (hL : L ≤ 32768) (h256 : ∀ i : Nat, i < L → c i < 256) (r7 : ∀ i : Nat, i < L → sR U 7 i = vp_nar .byte ((nI (c i)).toInt8.toInt32)) (q2 : sI Q 2 = 0) : ∀ m x g l : Nat, x + m = L → m < g → 0 < l → l + m < 2 ^ 20 → df_X1_start_43 n g (nI L) (nI l) (nI x) (Q, U) = some (if stG c m x l = 0 then (Q, U) else (pI (pI Q 2 1) 3 (nI (stG c m x l)), U)) := fun m => by
  induction m with
  | zero =>
    intro x g l h1 h2 h3 h4
    obtain ⟨g, rfl⟩ : ∃ k : Nat, g = k + 1 := ⟨g - 1, by omega⟩
    show dF_X1_start_43 n (df_X1_start_43 n g) (nI L) (nI l) (nI x) (Q, U) = _
    unfold dF_X1_start_43 df_X1_start_112
    rw [if_pos (zle (show L ≤ x by omega) (by omega))]
    rfl
  | succ m ih =>
    intro x g l h1 h2 h3 h4
    obtain ⟨g, rfl⟩ : ∃ k : Nat, g = k + 1 := ⟨g - 1, by omega⟩
    have hx := h256 x (by omega)
    have rx := r7 x (by omega)
    obtain ⟨z1, z2, z3⟩ := bz_C ⟨c x, hx⟩
    obtain ⟨z4, z5⟩ := bz_10 ⟨c x, hx⟩
    have z1 : vp_nar .byte ((nI (c x)).toInt8.toInt32) < 32 ↔ (c x < 32 ∨ 128 ≤ c x) := z1
    have z2 : vp_nar .byte ((nI (c x)).toInt8.toInt32) ≤ 126 ↔ (c x ≤ 126 ∨ 128 ≤ c x) := z2
    have z4 : vp_nar .byte ((nI (c x)).toInt8.toInt32) = 10 ↔ c x = 10 := z4
    have z5 : vp_nar .byte ((nI (c x)).toInt8.toInt32) = 9 ↔ c x = 9 := z5
    have go : ∀ l' : Nat, l' = (if c x = 10 then l + 1 else l) → df_X1_start_106 n (df_X1_start_43 n g) (nI L) (nI l') (nI x) (Q, U) = some (if stG c m (x + 1) (if c x = 10 then l + 1 else l) = 0 then (Q, U) else (pI (pI Q 2 1) 3 (nI (stG c m (x + 1) (if c x = 10 then l + 1 else l))), U)) := fun l' hl' => by
      unfold df_X1_start_106
      rw [nb_let, show nI x + Int32.ofInt 1 = nI (x + 1) from nI_add x 1, ← hl']
      exact ih (x + 1) g l' (by omega) (by omega) (by rw [hl']; split <;> omega) (by rw [hl']; split <;> omega)
    have bad : ¬ (c x = 9 ∨ c x = 10 ∨ (32 ≤ c x ∧ c x ≤ 126)) → df_X1_start_96 n (df_X1_start_43 n g) (nI L) (nI l) (nI x) (Q, U) = some (if stG c (m + 1) x l = 0 then (Q, U) else (pI (pI Q 2 1) 3 (nI (stG c (m + 1) x l)), U)) := fun hb => by
      rw [stG_n, if_neg hb, if_neg (show ¬ l = 0 by omega)]
      unfold df_X1_start_96 df_X1_blame df_X1_blame_0 df_X1_blame_12
      rw [if_pos (show sI ((Q, U) : St × St).1 2 = 0 from q2), nb_let, nb_b1, nb_let]
      unfold df_X1_start_106
      rw [nb_let]
      exact stg_s (Q := pI (pI Q 2 1) 3 (nI l)) (show ¬ (1 : Int32) = 0 by decide) (by omega)
    show dF_X1_start_43 n (df_X1_start_43 n g) (nI L) (nI l) (nI x) (Q, U) = _
    unfold dF_X1_start_43
    rw [if_neg (znle (show x < L by omega) (by omega)), if_pos (show sI ((Q, U) : St × St).1 2 = 0 from q2), nm_ck (by omega) (by omega), nb_let, nI_clamp (by omega), show sR ((Q, U) : St × St).2 7 x = vp_nar .byte ((nI (c x)).toInt8.toInt32) from rx]
    by_cases y1 : c x = 10
    · rw [if_pos (z4.mpr y1), nb_let, show nI l + Int32.ofInt 1 = nI (l + 1) from nI_add l 1]
      refine (go (l + 1) (if_pos y1).symm).trans ?_
      rw [stG_n, if_pos (show c x = 9 ∨ c x = 10 ∨ (32 ≤ c x ∧ c x ≤ 126) from Or.inr (Or.inl y1))]
    rw [if_neg (fun h => y1 (z4.mp h))]
    by_cases y2 : c x = 9
    · rw [if_pos (z5.mpr y2)]
      refine (go l (if_neg y1).symm).trans ?_
      rw [stG_n, if_pos (show c x = 9 ∨ c x = 10 ∨ (32 ≤ c x ∧ c x ≤ 126) from Or.inl y2)]
    rw [if_neg (fun h => y2 (z5.mp h))]
    by_cases y3 : c x < 32 ∨ 128 ≤ c x
    · rw [if_pos (z1.mpr y3)]
      exact bad (by omega)
    rw [if_neg (fun h => y3 (z1.mp h))]
    by_cases y4 : c x ≤ 126
    · rw [if_pos (z2.mpr (Or.inl y4))]
      refine (go l (if_neg y1).symm).trans ?_
      rw [stG_n, if_pos (show c x = 9 ∨ c x = 10 ∨ (32 ≤ c x ∧ c x ≤ 126) from Or.inr (Or.inr ⟨by omega, y4⟩))]
    · rw [if_neg (fun h => by have := z2.mp h; omega)]
      exact bad (by omega)
/-- the class's make, if a letter is strange -/
theorem MAKs {n L : Nat} {c : Nat → Nat} {M Q U P : St} (hn : 70000 < n) (hL : L ≤ 32768) (h256 : ∀ i : Nat, i < L → c i < 256) (r7 : ∀ i : Nat, i < L → sR U 7 i = vp_nar .byte ((nI (c i)).toInt8.toInt32)) (hs : ¬ stG c L 0 1 = 0) : ∃ Q' U' : St, df_X1_make n (nI L) (M, ((Q, U), P)) = some (1 + 16 * nI (stG c L 0 1), (M, ((Q', U'), P))) := by
  have e0 := stg_C (n := n) (Q := pI (pI (pI (pI (pI (pI Q 0 0) 1 0) 2 0) 3 0) 4 0) 6 0) (U := pR (pR (pI (pI (pI (pO U 0 (some 8)) 5 0) 8 0) 9 0) 4 (nd_fl 256 0 (sR U 4))) 5 (nd_fl 20 0 (sR U 5))) hL h256 r7 rfl L 0 n 1 (by omega) (by omega) (by omega) (by omega)
  rw [if_neg hs] at e0
  generalize hq : pI (pI (pI (pI (pI (pI (pI (pI Q 0 0) 1 0) 2 0) 3 0) 4 0) 6 0) 2 1) 3 (nI (stG c L 0 1)) = Q' at e0
  generalize hu : pR (pR (pI (pI (pI (pO U 0 (some 8)) 5 0) 8 0) 9 0) 4 (nd_fl 256 0 (sR U 4))) 5 (nd_fl 20 0 (sR U 5)) = U' at e0
  have e1 : df_X1_start n (nI L) (Q, U) = some (Q', U') := by
    rw [← e0, ← hu]
    rfl
  have f2 : sI Q' 2 = 1 := by rw [← hq]; rfl
  have f3 : sI Q' 3 = nI (stG c L 0 1) := by rw [← hq]; rfl
  have nf : ¬ sI ((M, ((Q', U'), P)) : St × (St × St) × St).2.1.1 2 = 0 := by
    rw [show sI ((M, ((Q', U'), P)) : St × (St × St) × St).2.1.1 2 = _ from f2]
    decide
  refine ⟨Q', U', ?_⟩
  unfold df_X1_make df_X1_make_0
  rw [show df_X1_start n (nI L) ((M, ((Q, U), P)) : St × (St × St) × St).2.1 = _ from e1, nb_b1, nb_let]
  obtain ⟨g, hg⟩ : ∃ g : Nat, n = g + 1 := ⟨n - 1, by omega⟩
  have e2 : ∀ k : Nat, k = g + 1 → df_X1_make_12 n k (nI L) 0 0 (M, ((Q', U'), P)) = df_X1_make_90 n (M, ((Q', U'), P)) := fun k hk => by
    subst hk
    show dF_X1_make_12 n (df_X1_make_12 n g) (nI L) 0 0 (M, ((Q', U'), P)) = _
    unfold dF_X1_make_12
    rw [if_neg nf]
    split <;> rfl
  rw [show df_X1_make_12 n n (nI L) 0 0 (M, ((Q', U'), P)) = _ from e2 n hg]
  unfold df_X1_make_90 df_X1_make_118 df_X1_make_130 df_X1_make_153
  rw [if_neg nf, if_neg nf, if_neg nf, show sI ((M, ((Q', U'), P)) : St × (St × St) × St).2.1.1 2 = _ from f2, show sI ((M, ((Q', U'), P)) : St × (St × St) × St).2.1.1 3 = _ from f3]
