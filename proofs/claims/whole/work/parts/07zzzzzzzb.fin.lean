/-- the reference's table of names: a word against another, the first that is alike, what it is worth -/
def alk (c : Nat → Nat) (q l o : Nat) : Bool := decide (∀ t : Nat, t < l → c (o + t) = c (q + t)) && !aP (c (o + l))
theorem al_3 {n L e : Nat} {c : Nat → Nat} {BC BR : St} (hT : atx n L e c BC BR) (q l o ap tk fr to : Nat) (nm : Int32) (hq : q + l ≤ L) (ho : o < 2 ^ 20) : ∀ j i g : Nat, i + j = l → j < g → (∀ t : Nat, t < i → c (o + t) = c (q + t)) → df_X13_isAlike_3 n g (nI q) (nI (q + l)) (nI o) (nI (q + i)) (uR BR ap tk fr to nm) = some (bI (alk c q l o), uR BR ap tk fr to nm) := fun j => by
  obtain ⟨hn, hL, heL, h127, hend, hce, hO, h1, htC, h0, htR, hch⟩ := id hT
  have z1 : ∀ (b : Bool) (x : Option (Int32 × St)), nd_z .boolean (bI b) x = x := fun b x => by cases b <;> exact nar_z (by decide)
  induction j with
  | zero =>
    intro i g h1 h2 h3
    obtain ⟨g, rfl⟩ : ∃ k : Nat, g = k + 1 := ⟨g - 1, by omega⟩
    have e : i = l := by omega
    subst e
    have ca := ca_13 hT (o + i) ap tk fr to nm (by omega)
    have ip := ip_13 n (c := c (o + i)) (by have := h127 (o + i); omega)
    have es : alk c q i o = !aP (c (o + i)) := by unfold alk; rw [decide_eq_true h3, Bool.true_and]
    show dF_X13_isAlike_3 n (df_X13_isAlike_3 n g) (nI q) (nI (q + i)) (nI o) (nI (q + i)) (uR BR ap tk fr to nm) = _
    unfold dF_X13_isAlike_3 df_X13_isAlike_57
    rw [if_pos (zle (Nat.le_refl (q + i)) (by omega)), show nI o + nI (q + i) - nI q = nI (o + i) by rw [nI_add, pk_sub (by omega)]; exact congrArg nI (by omega), ca, nb_b2, ip, nb_b2, es]
    cases aP (c (o + i)) with
    | false =>
      rw [if_pos (show bI false = 0 from rfl), show (1 : Int32) = bI true from rfl, z1]
      rfl
    | true =>
      rw [if_neg (show ¬ bI true = 0 by decide), show (0 : Int32) = bI false from rfl, z1]
      rfl
  | succ j ih =>
    intro i g h1 h2 h3
    obtain ⟨g, rfl⟩ : ∃ k : Nat, g = k + 1 := ⟨g - 1, by omega⟩
    have ca := ca_13 hT (o + i) ap tk fr to nm (by omega)
    have c1 := h127 (o + i)
    have c2 := h127 (q + i)
    show dF_X13_isAlike_3 n (df_X13_isAlike_3 n g) (nI q) (nI (q + l)) (nI o) (nI (q + i)) (uR BR ap tk fr to nm) = _
    unfold dF_X13_isAlike_3
    rw [if_neg (znle (show q + i < q + l by omega) (by omega)), show nI o + nI (q + i) - nI q = nI (o + i) by rw [nI_add, pk_sub (by omega)]; exact congrArg nI (by omega), ca, nb_b2, nm_ck (by omega) (by omega), nI_clamp (by omega), uR_r, htR (q + i) (by omega)]
    by_cases y : c (o + i) = c (q + i)
    · rw [if_pos (congrArg nI y), nb_let, show nI (q + i) + Int32.ofInt 1 = nI (q + (i + 1)) from nI_add (q + i) 1]
      exact ih (i + 1) g (by omega) (by omega) (fun t ht => by
        by_cases z : t = i
        · rw [z]; exact y
        · exact h3 t (by omega))
    · rw [if_neg (zne y (by omega) (by omega)), show alk c q l o = false by unfold alk; rw [decide_eq_false (fun w => y (w i (by omega))), Bool.false_and]]
      rfl
theorem al_1 {n L e : Nat} {c : Nat → Nat} {BC BR : St} (hT : atx n L e c BC BR) (q l o ap tk fr to : Nat) (nm : Int32) (hq : q + l ≤ L) (ho : o < 2 ^ 20) : df_X13_isAlike n (nI q) (nI (q + l)) (nI o) (uR BR ap tk fr to nm) = some (bI (alk c q l o), uR BR ap tk fr to nm) := by
  have hn := hT.1
  have hL := hT.2.1
  exact al_3 hT q l o ap tk fr to nm hq ho l 0 n (by omega) (by omega) (fun t ht => absurd ht (Nat.not_lt_zero t))
/-- the rows: X k is place and kind of entry k -/
def fiP (c : Nat → Nat) (X : Nat → Nat) (q l : Nat) : Nat → Bool := fun k => decide (X k / 131072 < 3) && alk c q l (X k % 131072)
theorem fi_1 {n L e : Nat} {c : Nat → Nat} {BC BR : St} (hT : atx n L e c BC BR) (q l ap tk fr to : Nat) (nm : Int32) (hq : q + l ≤ L) (nL : Nat) (X : Nat → Nat) (hL : nL ≤ 16500) (h3 : sI BR 3 = nI nL) (hX : ∀ k : Nat, k < nL → sR BR 6 k = nI (X k) ∧ X k < 2 ^ 20) : df_X13_find n (nI q) (nI (q + l)) (uR BR ap tk fr to nm) = some (if fN (fiP c X q l) 0 nL < nL then nI (fN (fiP c X q l) 0 nL) else -1, uR BR ap tk fr to nm) := by
  have hn := hT.1
  have sh : ∀ k : Nat, k < nL → (nI (X k) : Int32) >>> ((17 : Int32) &&& 31) = nI (X k / 131072) ∧ nI (X k) &&& 131071 = nI (X k % 131072) := fun k hk => by
    have := (hX k hk).2
    exact ⟨pk_shrN (by omega) _ 17 (by decide), pk_andN (by omega) 17 (by decide)⟩
  have turn : ∀ (k m : Nat), k < nL → df_X13_find_2 n (m + 1) (nI q) (nI (q + l)) (nI k) (uR BR ap tk fr to nm) = if fiP c X q l k = true then some (nI k, uR BR ap tk fr to nm) else df_X13_find_2 n m (nI q) (nI (q + l)) (nI (k + 1)) (uR BR ap tk fr to nm) := fun k m hk => by
    obtain ⟨x1, x2⟩ := hX k hk
    obtain ⟨s1, s2⟩ := sh k hk
    have al := al_1 hT q l (X k % 131072) ap tk fr to nm hq (by omega)
    have go : df_X13_find_44 n (df_X13_find_2 n m) (nI q) (nI (q + l)) (nI k) (uR BR ap tk fr to nm) = df_X13_find_2 n m (nI q) (nI (q + l)) (nI (k + 1)) (uR BR ap tk fr to nm) := by
      unfold df_X13_find_44
      rw [nb_let, show nI k + Int32.ofInt 1 = nI (k + 1) from nI_add k 1]
    show dF_X13_find_2 n (df_X13_find_2 n m) (nI q) (nI (q + l)) (nI k) (uR BR ap tk fr to nm) = _
    unfold dF_X13_find_2 fiP
    rw [uR_i3, h3, if_neg (znle hk (by omega)), nm_ck (by omega) (by omega), nI_clamp (by omega), uR_r, x1, s1, s2]
    by_cases y : X k / 131072 < 3
    · rw [if_neg (show ¬ (3 : Int32) ≤ nI (X k / 131072) from znle (a := 3) y (by omega)), nm_ck (by omega) (by omega), al, nb_b2, decide_eq_true y, Bool.true_and]
      cases alk c q l (X k % 131072) with
      | false => rw [if_pos (show bI false = 0 from rfl), go, if_neg (by decide)]
      | true => rw [if_neg (show ¬ bI true = 0 by decide), if_pos rfl]
    · rw [if_pos (show (3 : Int32) ≤ nI (X k / 131072) from zle (a := 3) (by omega) (by omega)), go, decide_eq_false y, Bool.false_and, if_neg (by decide)]
  obtain ⟨m, em⟩ := nm_ls (fun g i => df_X13_find_2 n g (nI q) (nI (q + l)) (nI i) (uR BR ap tk fr to nm)) (fiP c X q l) 0 nL n (by omega) (fun k m k1 k2 k3 => by
    show df_X13_find_2 n (m + 1) (nI q) (nI (q + l)) (nI k) (uR BR ap tk fr to nm) = _
    rw [turn k m (by omega), k3, if_neg (by decide)])
  refine Eq.trans (show _ = df_X13_find_2 n n (nI q) (nI (q + l)) (nI 0) (uR BR ap tk fr to nm) from rfl) (Eq.trans em ?_)
  obtain ⟨f1, f2, f3, f4⟩ := fN_le (fiP c X q l) nL 0
  generalize fN (fiP c X q l) 0 nL = f at f1 f2 f3 f4
  by_cases y : f < nL
  · show df_X13_find_2 n (m + 1) (nI q) (nI (q + l)) (nI f) (uR BR ap tk fr to nm) = _
    rw [turn f m y, f3 (by omega), if_pos rfl, if_pos y]
  · have e : f = nL := by omega
    subst e
    rw [if_neg (Nat.lt_irrefl _)]
    show dF_X13_find_2 n (df_X13_find_2 n m) (nI q) (nI (q + l)) (nI f) (uR BR ap tk fr to nm) = _
    unfold dF_X13_find_2
    rw [uR_i3, h3, if_pos (zle (Nat.le_refl f) (by omega))]
/-- what an entry is worth -/
def bseO (ts : Int32) : Int32 := ((ts + 1023) / 1024) * 1024
def vlO (ts : Int32) (X : Nat → Nat) (W : Nat → Int32) (k : Nat) : Int32 := if X k / 131072 = 1 ∨ X k / 131072 = 4 then bseO ts + W k else W k
theorem vo_1 {n : Nat} {S : St} (k nL : Nat) (X : Nat → Nat) (hk : k < nL) (hL : nL ≤ 16500) (hX : sR S 6 k = nI (X k) ∧ X k < 2 ^ 20) : df_X13_valueOf n (nI k) S = some (vlO (sI S 4) X (sR S 7) k, S) := by
  obtain ⟨x1, x2⟩ := hX
  have s1 : (nI (X k) : Int32) >>> ((17 : Int32) &&& 31) = nI (X k / 131072) := pk_shrN (by omega) _ 17 (by decide)
  have t34 : df_X13_valueOf_34 n (nI k) S = some (bseO (sI S 4) + sR S 7 k, S) := by
    unfold df_X13_valueOf_34 df_X13_base df_X13_base_0 df_X13_valueOf_54
    rw [nb_b2, nm_ck (by omega) (by omega), nI_clamp (by omega)]
    rfl
  unfold df_X13_valueOf df_X13_valueOf_0 df_X13_valueOf_54 vlO
  rw [nm_ck (by omega) (by omega), nI_clamp (by omega), x1, s1, nb_let, t34, nm_ck (by omega) (by omega)]
  by_cases y2 : X k / 131072 = 2
  · rw [if_pos (show nI (X k / 131072) = (2 : Int32) from congrArg nI y2), if_neg (by omega)]
  rw [if_neg (show ¬ nI (X k / 131072) = (2 : Int32) from zne (b := 2) y2 (by omega) (by omega))]
  by_cases y1 : X k / 131072 = 1
  · rw [if_pos (show nI (X k / 131072) = (1 : Int32) from congrArg nI y1), if_pos (Or.inl y1)]
  rw [if_neg (show ¬ nI (X k / 131072) = (1 : Int32) from zne (b := 1) y1 (by omega) (by omega))]
  by_cases y4 : X k / 131072 = 4
  · rw [if_pos (show nI (X k / 131072) = (4 : Int32) from congrArg nI y4), if_pos (Or.inr y4)]
  · rw [if_neg (show ¬ nI (X k / 131072) = (4 : Int32) from zne (b := 4) y4 (by omega) (by omega)), if_neg (by omega)]
