/-- a piece in both -/
def gJ (d : Dn) (s os ro b b' f l j0 j1 : Nat) (C : Nat → Int32) (A : Nat → Int64) (F T K P : Nat → Int32) (N : Nat → Int64) (pos : Nat → Nat) : Prop := gC d s b b' j0 j1 C A T ∧ gR d os ro f l j0 j1 K P N pos ∧ gO b b' f l j0 j1 C A F T K P N pos
/-- signs that wait: how many opened; whether one of them remembers; the last that opened -/
def nOp : List Nat → Nat
  | [] => 0
  | o :: r => (if 22 ≤ o then 1 else 0) + nOp r
def hOb : List Nat → Bool
  | [] => false
  | o :: r => decide (o = 23 ∨ o = 24) || hOb r
def tpO : List Nat → Nat
  | [] => 0
  | o :: r => if 22 ≤ o then o else tpO r
def sgL : List Nat → Nat → Nat
  | [], _ => 0
  | o :: r, i => if i = r.length then o else sgL r i
def tU (o : Nat) : Nat := if o = 19 then 28 else if o = 20 then 24 else 29
def ordB (o : Nat) : List Nat → Prop
  | [] => True
  | o' :: _ => 22 ≤ o' ∨ (o' ≤ 18 ∧ rk o' < rk o)
def ordT (os : Nat) : List Nat → Prop
  | [] => True
  | o' :: _ => 22 ≤ o' ∨ (19 ≤ o' ∧ 19 ≤ os) ∨ (o' ≤ 18 ∧ (19 ≤ os ∨ rk o' < rk os))
def frm (C : Nat → Int32) (A : Nat → Int64) (F T K P : Nat → Int32) (N : Nat → Int64) (pos : Nat → Nat) (S SA OA : Nat → Int32) (o : Nat) (r : List Nat) (c' t' j' σ' c t j σ : Nat) : Prop :=
  (1 ≤ o ∧ o ≤ 18 ∧ ordB o r ∧ (hOb r = true → j = j') ∧ ∃ (d : Dn) (s os ro m u : Nat), gJ d s os ro c' m t' u j' j C A F T K P N pos ∧ (19 ≤ os ∨ rk o ≤ rk os) ∧ K u = nI (o + 9) ∧ t = u + 1 ∧ σ = σ' + s ∧ ((o ≤ 2 ∧ C m = nI (36 - o) ∧ c = m + 1 ∧ SA r.length = nI m) ∨ (3 ≤ o ∧ c = m)))
  ∨ (19 ≤ o ∧ o ≤ 21 ∧ c = c' ∧ j = j' ∧ σ = σ' ∧ t = t' + 1 ∧ K t' = nI (tU o))
  ∨ (22 ≤ o ∧ o ≤ 27 ∧ σ = σ' ∧ (((o = 22 ∨ o = 25) ∧ c = c' ∧ j = j' ∧ t = t' + 1 ∧ K t' = nI (if o = 22 then 30 else 32) ∧ OA (nOp r) = nI t')
    ∨ ((o = 26 ∨ o = 27) ∧ c = c' ∧ j = j' ∧ t = t' + 2 ∧ K t' = nI (33 - o) ∧ K (t' + 1) = nI 32 ∧ OA (nOp r) = nI (t' + 1))
    ∨ ((o = 23 ∨ o = 24) ∧ t = t' + 2 ∧ K t' = nI (o - 15) ∧ K (t' + 1) = nI 30 ∧ OA (nOp r) = nI (t' + 1) ∧ j = j' + 1 ∧ j' < 40 ∧ pos j' = t' ∧ SA r.length = nI j' ∧ F j' = nI c ∧ hOb r = false ∧ ((o = 23 ∧ c = c' + 1 ∧ C c' = nI 23 ∧ A c' = (nI j').toInt64) ∨ (o = 24 ∧ c = c')))))
def frs (C : Nat → Int32) (A : Nat → Int64) (F T K P : Nat → Int32) (N : Nat → Int64) (pos : Nat → Nat) (S SA OA : Nat → Int32) : List Nat → Nat → Nat → Nat → Nat → Prop
  | [], c, t, j, σ => c = 0 ∧ t = 0 ∧ j = 0 ∧ σ = 0
  | o :: r, c, t, j, σ => S r.length = nI o ∧ ∃ c' t' j' σ' : Nat, frs C A F T K P N pos S SA OA r c' t' j' σ' ∧ frm C A F T K P N pos S SA OA o r c' t' j' σ' c t j σ
theorem gJ_st {d : Dn} {s os ro b b' f l j0 j1 : Nat} {C : Nat → Int32} {A : Nat → Int64} {F T K P : Nat → Int32} {N : Nat → Int64} {pos : Nat → Nat} {C' : Nat → Int32} {A' : Nat → Int64} {F' T' K' P' : Nat → Int32} {N' : Nat → Int64} {pos' : Nat → Nat} (h : gJ d s os ro b b' f l j0 j1 C A F T K P N pos) (hC : ∀ i : Nat, b ≤ i → i < b' → C' i = C i ∧ A' i = A i) (hF : ∀ j : Nat, j0 ≤ j → j < j1 → F' j = F j ∧ T' j = T j ∧ pos' j = pos j) (hK : ∀ t : Nat, f ≤ t → t < l → K' t = K t ∧ P' t = P t ∧ N' t = N t) : gJ d s os ro b b' f l j0 j1 C' A' F' T' K' P' N' pos' := by
  obtain ⟨h1, h2, h3, h4⟩ := h
  refine ⟨gC_st h1 hC (fun j a b => (hF j a b).2.1), gR_st h2 hK (fun j a b => (hF j a b).2.2), fun j a b => ?_, fun t a b q => ?_⟩
  · obtain ⟨d', s', os', ro', q, b1, b2, a1, a2, a3, a4, a5, a6, a7, a8, a9, a10, a11⟩ := h3 j a b
    have e := hF j a b
    have w := a10.1
    have v := a6.1
    refine ⟨d', s', os', ro', q, b1, b2, a1, a2, a3, e.1.trans a4, e.2.1.trans a5, gC_st a6 (fun i x y => hC i (by omega) (by omega)) (fun i x y => by omega), ?_⟩
    rw [e.2.2]
    exact ⟨a7, a8, (hK _ (by omega) (by omega)).2.1.trans a9, gR_st a10 (fun t x y => hK t (by omega) (by omega)) (fun i x y => by omega), by rw [(hK (pos j) a7 (by omega)).1]; exact a11⟩
  · rw [(hK t a b).1] at q
    obtain ⟨j, x1, x2, x3⟩ := h4 t a b q
    exact ⟨j, x1, x2, (hF j x1 x2).2.2.trans x3⟩
theorem frs_le {C : Nat → Int32} {A : Nat → Int64} {F T K P : Nat → Int32} {N : Nat → Int64} {pos : Nat → Nat} {S SA OA : Nat → Int32} : ∀ (l : List Nat) (c t j σ : Nat), frs C A F T K P N pos S SA OA l c t j σ → ∀ o r, l = o :: r → ∃ c' t' j' σ' : Nat, S r.length = nI o ∧ 1 ≤ o ∧ o ≤ 27 ∧ c' ≤ c ∧ t' < t ∧ j' ≤ j ∧ σ' ≤ σ ∧ frs C A F T K P N pos S SA OA r c' t' j' σ' ∧ frm C A F T K P N pos S SA OA o r c' t' j' σ' c t j σ := fun l c t j σ h o r e => by
  subst e
  obtain ⟨h1, c', t', j', σ', h2, h3⟩ := h
  refine ⟨c', t', j', σ', h1, ?_⟩
  rcases h3 with ⟨a1, a2, a3, a4, d, s, os, ro, m, u, a5, a6, a7, a8, a9, a10⟩ | ⟨a1, a2, a3, a4, a5, a6, a7⟩ | ⟨a1, a2, a3, a4⟩
  · have k1 := a5.1.1
    have k2 := a5.2.1.1
    have k3 := a5.1.2.2.1
    exact ⟨by omega, by omega, by omega, by omega, by omega, by omega, h2, Or.inl ⟨a1, a2, a3, a4, d, s, os, ro, m, u, a5, a6, a7, a8, a9, a10⟩⟩
  · exact ⟨by omega, by omega, by omega, by omega, by omega, by omega, h2, Or.inr (Or.inl ⟨a1, a2, a3, a4, a5, a6, a7⟩)⟩
  · refine ⟨by omega, by omega, ?_, ?_, ?_, by omega, h2, Or.inr (Or.inr ⟨a1, a2, a3, a4⟩)⟩
    · rcases a4 with a4 | a4 | a4 <;> omega
    · rcases a4 with a4 | a4 | a4 <;> omega
    · rcases a4 with a4 | a4 | a4 <;> omega
theorem frs_st {C : Nat → Int32} {A : Nat → Int64} {F T K P : Nat → Int32} {N : Nat → Int64} {pos : Nat → Nat} {S SA OA S' SA' OA' : Nat → Int32} {C' : Nat → Int32} {A' : Nat → Int64} {F' T' K' P' : Nat → Int32} {N' : Nat → Int64} {pos' : Nat → Nat} : ∀ (l : List Nat) (c t j σ : Nat), frs C A F T K P N pos S SA OA l c t j σ → (∀ i : Nat, i < c → C' i = C i ∧ A' i = A i) → (∀ i : Nat, i < j → F' i = F i ∧ T' i = T i ∧ pos' i = pos i) → (∀ i : Nat, i < t → K' i = K i ∧ P' i = P i ∧ N' i = N i) → (∀ i : Nat, i < l.length → S' i = S i ∧ SA' i = SA i) → (∀ i : Nat, i < nOp l → OA' i = OA i) → frs C' A' F' T' K' P' N' pos' S' SA' OA' l c t j σ := fun l => by
  induction l with
  | nil => intro c t j σ h _ _ _ _ _; exact h
  | cons o r ih =>
    intro c t j σ h hC hF hK hS hO
    have hl : (o :: r).length = r.length + 1 := rfl
    obtain ⟨c', t', j', σ', h1, o1, o27, l1, l2, l3, _, h2, h3⟩ := frs_le _ c t j σ h o r rfl
    have hn : nOp r ≤ nOp (o :: r) := Nat.le_add_left ..
    have sl := hS r.length (by omega)
    refine ⟨sl.1.trans h1, c', t', j', σ', ih c' t' j' σ' h2 (fun i hi => hC i (by omega)) (fun i hi => hF i (by omega)) (fun i hi => hK i (by omega)) (fun i hi => hS i (by omega)) (fun i hi => hO i (by omega)), ?_⟩
    rcases h3 with ⟨a1, a2, a3, a4, d, s, os, ro, m, u, a5, a6, a7, a8, a9, a10⟩ | ⟨a1, a2, a3, a4, a5, a6, a7⟩ | ⟨a1, a2, a3, a4⟩
    · have k1 := a5.1.1
      have k2 := a5.2.1.1
      refine Or.inl ⟨a1, a2, a3, a4, d, s, os, ro, m, u, gJ_st a5 (fun i x y => hC i (by omega)) (fun i x y => hF i y) (fun i x y => hK i (by omega)), a6, (hK u (by omega)).1.trans a7, a8, a9, ?_⟩
      rcases a10 with ⟨b1, b2, b3, b4⟩ | b
      · exact Or.inl ⟨b1, (hC m (by omega)).1.trans b2, b3, sl.2.trans b4⟩
      · exact Or.inr b
    · exact Or.inr (Or.inl ⟨a1, a2, a3, a4, a5, a6, (hK t' (by omega)).1.trans a7⟩)
    · have on : nOp r < nOp (o :: r) := by
        show nOp r < (if 22 ≤ o then 1 else 0) + nOp r
        rw [if_pos a1]
        omega
      have oa := hO (nOp r) on
      refine Or.inr (Or.inr ⟨a1, a2, a3, ?_⟩)
      rcases a4 with ⟨b1, b2, b3, b4, b5, b6⟩ | ⟨b1, b2, b3, b4, b5, b6, b7⟩ | ⟨b1, b2, b3, b4, b5, b6, b7, b8, b9, b10, b11, b12⟩
      · exact Or.inl ⟨b1, b2, b3, b4, (hK t' (by omega)).1.trans b5, oa.trans b6⟩
      · exact Or.inr (Or.inl ⟨b1, b2, b3, b4, (hK t' (by omega)).1.trans b5, (hK (t' + 1) (by omega)).1.trans b6, oa.trans b7⟩)
      · have fj := hF j' (by omega)
        refine Or.inr (Or.inr ⟨b1, b2, (hK t' (by omega)).1.trans b3, (hK (t' + 1) (by omega)).1.trans b4, oa.trans b5, b6, b7, fj.2.2.trans b8, sl.2.trans b9, fj.1.trans b10, b11, ?_⟩)
        rcases b12 with ⟨d1, d2, d3, d4⟩ | b
        · exact Or.inl ⟨d1, d2, (hC c' (by omega)).1.trans d3, (hC c' (by omega)).2.trans d4⟩
        · exact Or.inr b
/-- the signs as a row -/
theorem frs_S {C : Nat → Int32} {A : Nat → Int64} {F T K P : Nat → Int32} {N : Nat → Int64} {pos : Nat → Nat} {S SA OA : Nat → Int32} : ∀ (l : List Nat) (c t j σ : Nat), frs C A F T K P N pos S SA OA l c t j σ → (∀ i : Nat, i < l.length → S i = nI (sgL l i) ∧ sgL l i < 100) ∧ cN (fun i => decide (22 ≤ sgL l i ∧ sgL l i ≤ 27)) l.length = nOp l ∧ (cN (fun i => decide (23 ≤ sgL l i ∧ sgL l i ≤ 24)) l.length = 0 ↔ hOb l = false) ∧ nOp l ≤ l.length := fun l => by
  induction l with
  | nil => intro c t j σ _; exact ⟨fun i hi => absurd hi (Nat.not_lt_zero i), rfl, ⟨fun _ => rfl, fun _ => rfl⟩, Nat.le_refl _⟩
  | cons o r ih =>
    intro c t j σ h
    obtain ⟨c', t', j', σ', h1, o1, o27, _, _, _, _, h2, _⟩ := frs_le _ c t j σ h o r rfl
    obtain ⟨i1, i2, i3, i4⟩ := ih c' t' j' σ' h2
    have top : sgL (o :: r) r.length = o := if_pos rfl
    have low : ∀ i : Nat, i < r.length → sgL (o :: r) i = sgL r i := fun i hi => if_neg (by omega)
    have ls : (o :: r).length = r.length + 1 := rfl
    have cc : ∀ a b : Nat, cN (fun i => decide (a ≤ sgL (o :: r) i ∧ sgL (o :: r) i ≤ b)) (o :: r).length = cN (fun i => decide (a ≤ sgL r i ∧ sgL r i ≤ b)) r.length + (decide (a ≤ o ∧ o ≤ b)).toNat := fun a b => by
      show cN _ (r.length + 1) = _
      rw [cN_s, cN_c (P := fun i => decide (a ≤ sgL (o :: r) i ∧ sgL (o :: r) i ≤ b)) (Q := fun i => decide (a ≤ sgL r i ∧ sgL r i ≤ b)) (N := r.length) (fun i hi => by show decide _ = decide _; rw [low i hi])]
      show _ + (decide (a ≤ sgL (o :: r) r.length ∧ sgL (o :: r) r.length ≤ b)).toNat = _
      rw [top]
    refine ⟨fun i hi => ?_, ?_, ?_, ?_⟩
    · by_cases y : i = r.length
      · subst y
        rw [top]
        exact ⟨h1, by omega⟩
      · rw [low i (by omega)]
        exact i1 i (by omega)
    · rw [cc, i2]
      show _ = (if 22 ≤ o then 1 else 0) + nOp r
      by_cases y : 22 ≤ o
      · rw [if_pos y, nm_dt ⟨y, o27⟩]; omega
      · rw [if_neg y, nm_df (fun z => y z.1)]; omega
    · rw [cc]
      show _ ↔ (decide (o = 23 ∨ o = 24) || hOb r) = false
      by_cases y : o = 23 ∨ o = 24
      · rw [nm_dt (by omega), decide_eq_true y]
        exact ⟨fun z => absurd z (by omega), fun z => absurd z (by rw [Bool.true_or]; decide)⟩
      · rw [nm_df (by omega), decide_eq_false y, Bool.false_or, Nat.add_zero]
        exact i3
    · show (if 22 ≤ o then 1 else 0) + nOp r ≤ r.length + 1
      split <;> omega
/-- the token before a place is no 'old', 'changed' -/
theorem frs_K {C : Nat → Int32} {A : Nat → Int64} {F T K P : Nat → Int32} {N : Nat → Int64} {pos : Nat → Nat} {S SA OA : Nat → Int32} (l : List Nat) (c t j σ : Nat) (h : frs C A F T K P N pos S SA OA l c t j σ) : t = 0 ∨ ∃ k : Nat, 10 ≤ k ∧ k < 100 ∧ K (t - 1) = nI k := by
  cases l with
  | nil => exact Or.inl h.2.1
  | cons o r =>
    obtain ⟨_, c', t', j', σ', _, h3⟩ := h
    rcases h3 with ⟨a1, a2, a3, a4, d, s, os, ro, m, u, a5, a6, a7, a8, a9, a10⟩ | ⟨a1, a2, a3, a4, a5, a6, a7⟩ | ⟨a1, a2, a3, a4⟩
    · exact Or.inr ⟨o + 9, by omega, by omega, by rw [a8]; exact a7⟩
    · refine Or.inr ⟨tU o, ?_, ?_, by rw [a6]; exact a7⟩
      · unfold tU; repeat (first | omega | split)
      · unfold tU; repeat (first | omega | split)
    · rcases a4 with ⟨b1, b2, b3, b4, b5, b6⟩ | ⟨b1, b2, b3, b4, b5, b6, b7⟩ | ⟨b1, b2, b3, b4, b5, b6, b7, b8, b9, b10, b11, b12⟩
      · refine Or.inr ⟨if o = 22 then 30 else 32, by split <;> omega, by split <;> omega, by rw [b4]; exact b5⟩
      · exact Or.inr ⟨32, by omega, by omega, by rw [b4]; exact b6⟩
      · exact Or.inr ⟨30, by omega, by omega, by rw [b2]; exact b4⟩
/-- the brackets, as the reference keeps them -/
theorem frs_O {C : Nat → Int32} {A : Nat → Int64} {F T K P : Nat → Int32} {N : Nat → Int64} {pos : Nat → Nat} {S SA OA : Nat → Int32} : ∀ (l : List Nat) (c t j σ : Nat), frs C A F T K P N pos S SA OA l c t j σ → (∀ i : Nat, i < nOp l → ∃ y k : Nat, OA i = nI y ∧ y < t ∧ k < 100 ∧ (0 < y → K (y - 1) = nI k) ∧ (0 < y → (k = 8 ∨ k = 9) → hOb l = true)) ∧ (hOb l = true → ∃ i y : Nat, i < nOp l ∧ OA i = nI (y + 1) ∧ y + 1 < t ∧ (K y = nI 8 ∨ K y = nI 9)) ∧ (0 < nOp l → ∃ y : Nat, OA (nOp l - 1) = nI y ∧ y < t ∧ 22 ≤ tpO l ∧ tpO l ≤ 27 ∧ K y = nI (if tpO l ≤ 24 then 30 else 32)) := fun l => by
  induction l with
  | nil => intro c t j σ _; exact ⟨fun i hi => absurd hi (Nat.not_lt_zero i), fun h => absurd h (by decide), fun h => absurd h (by decide)⟩
  | cons o r ih =>
    intro c t j σ h
    obtain ⟨c', t', j', σ', h1, o1, o27, l1, l2, l3, _, h2, h3⟩ := frs_le _ c t j σ h o r rfl
    obtain ⟨i1, i2, i3⟩ := ih c' t' j' σ' h2
    by_cases y : 22 ≤ o
    · have hn : nOp (o :: r) = 1 + nOp r := by show (if 22 ≤ o then 1 else 0) + nOp r = _; rw [if_pos y]
      have ht : tpO (o :: r) = o := if_pos y
      have kk := frs_K r c' t' j' σ' h2
      have up : ∀ i : Nat, i < nOp r → ∃ y k : Nat, OA i = nI y ∧ y < t ∧ k < 100 ∧ (0 < y → K (y - 1) = nI k) ∧ (0 < y → (k = 8 ∨ k = 9) → hOb (o :: r) = true) := fun i hi => by
        obtain ⟨y, k, x1, x2, x3, x4, x5⟩ := i1 i hi
        exact ⟨y, k, x1, by omega, x3, x4, fun p q => by show (decide (o = 23 ∨ o = 24) || hOb r) = true; rw [x5 p q, Bool.or_true]⟩
      have dn : hOb r = true → ∃ i y : Nat, i < nOp (o :: r) ∧ OA i = nI (y + 1) ∧ y + 1 < t ∧ (K y = nI 8 ∨ K y = nI 9) := fun z => by
        obtain ⟨i, y, x1, x2, x3, x4⟩ := i2 z
        exact ⟨i, y, by omega, x2, by omega, x4⟩
      have hO : hOb (o :: r) = (decide (o = 23 ∨ o = 24) || hOb r) := rfl
      rw [hn, ht, show 1 + nOp r - 1 = nOp r by omega]
      rw [hn] at dn
      rcases h3 with ⟨a1, a2, _⟩ | ⟨a1, a2, _⟩ | ⟨a1, a2, a3, a4⟩
      · omega
      · omega
      · rcases a4 with ⟨b1, b2, b3, b4, b5, b6⟩ | ⟨b1, b2, b3, b4, b5, b6, b7⟩ | ⟨b1, b2, b3, b4, b5, b6, b7, b8, b9, b10, b11, b12⟩
        · refine ⟨fun i hi => ?_, fun z => ?_, fun _ => ⟨t', b6, by omega, y, o27, ?_⟩⟩
          · by_cases e : i = nOp r
            · subst e
              rcases kk with k0 | ⟨k, k1, k2, k3⟩
              · exact ⟨t', 0, b6, by omega, by omega, fun z => by omega, fun z => by omega⟩
              · exact ⟨t', k, b6, by omega, k2, fun _ => k3, fun _ q => by omega⟩
            · exact up i (by omega)
          · rw [hO, decide_eq_false (by omega), Bool.false_or] at z
            exact dn z
          · rw [b5]
            rcases b1 with b1 | b1
            · rw [if_pos b1, if_pos (by omega)]
            · rw [if_neg (by omega), if_neg (by omega)]
        · refine ⟨fun i hi => ?_, fun z => ?_, fun _ => ⟨t' + 1, b7, by omega, y, o27, ?_⟩⟩
          · by_cases e : i = nOp r
            · subst e
              exact ⟨t' + 1, 33 - o, b7, by omega, by omega, fun _ => b5, fun _ q => by omega⟩
            · exact up i (by omega)
          · rw [hO, decide_eq_false (by omega), Bool.false_or] at z
            exact dn z
          · rw [b6, if_neg (by omega)]
        · have hh : hOb (o :: r) = true := by rw [hO, decide_eq_true b1]; rfl
          refine ⟨fun i hi => ?_, fun z => ⟨nOp r, t', by omega, b5, by omega, ?_⟩, fun _ => ⟨t' + 1, b5, by omega, y, o27, ?_⟩⟩
          · by_cases e : i = nOp r
            · subst e
              exact ⟨t' + 1, o - 15, b5, by omega, by omega, fun _ => b3, fun _ _ => hh⟩
            · exact up i (by omega)
          · rw [b3]
            rcases b1 with b1 | b1
            · exact Or.inl (by rw [b1])
            · exact Or.inr (by rw [b1])
          · rw [b4, if_pos (by omega)]
    · have hn : nOp (o :: r) = nOp r := by show (if 22 ≤ o then 1 else 0) + nOp r = _; rw [if_neg y, Nat.zero_add]
      have ht : tpO (o :: r) = tpO r := if_neg y
      have hO : hOb (o :: r) = hOb r := by show (decide (o = 23 ∨ o = 24) || hOb r) = _; rw [decide_eq_false (by omega), Bool.false_or]
      rw [hn, ht, hO]
      refine ⟨fun i hi => ?_, fun z => ?_, fun z => ?_⟩
      · obtain ⟨y, k, x1, x2, x3⟩ := i1 i hi
        exact ⟨y, k, x1, by omega, x3⟩
      · obtain ⟨i, y, x1, x2, x3, x4⟩ := i2 z
        exact ⟨i, y, x1, x2, by omega, x4⟩
      · obtain ⟨y, x1, x2, x3⟩ := i3 z
        exact ⟨y, x1, by omega, x3⟩
theorem re_R (n : Nat) (hn : 20 < n) {B : St} {ap tk st ts ft : Nat} {tv : Int64} {K P OA : Nat → Int32} {N : Nat → Int64} {X : St × St} {C : Nat → Int32} {A : Nat → Int64} {F T S SA : Nat → Int32} {pos : Nat → Nat} {l : List Nat} {cc jj σ : Nat} (h : frs C A F T K P N pos S SA OA l cc ts jj σ) (h8 : nOp l ≤ 8) (ht : ts ≤ 120) : df_X15_remembers n (mR B ap tk st ts (nOp l) ft tv K P OA N, X) = some (bI (hOb l), (mR B ap tk st ts (nOp l) ft tv K P OA N, X)) := by
  obtain ⟨o1, o2, _⟩ := frs_O l cc ts jj σ h
  have key : ∀ k i g : Nat, ∀ b : Bool, i + k = nOp l → k < g → (b = true → hOb l = true) → (hOb l = true → b = true ∨ ∃ i' y : Nat, i ≤ i' ∧ i' < nOp l ∧ OA i' = nI (y + 1) ∧ y + 1 < ts ∧ (K y = nI 8 ∨ K y = nI 9)) → df_X15_remembers_4 n g (bI b) (nI i) (mR B ap tk st ts (nOp l) ft tv K P OA N, X) = some (bI (hOb l), (mR B ap tk st ts (nOp l) ft tv K P OA N, X)) := fun k => by
    induction k with
    | zero =>
      intro i g b hi hg hb hb2
      obtain ⟨m, rfl⟩ : ∃ m : Nat, g = m + 1 := ⟨g - 1, by omega⟩
      have e : b = hOb l := by
        cases b with
        | true => exact (hb rfl).symm
        | false =>
          cases hh : hOb l with
          | false => rfl
          | true =>
            rcases hb2 hh with z | ⟨i', y, x1, x2, _⟩
            · exact absurd z (by decide)
            · omega
      subst e
      rw [show i = nOp l by omega]
      have nz : ∀ x : Option (Int32 × (St × (St × St))), nd_z .boolean (bI (hOb l)) x = x := fun x => by
        cases hOb l with
        | true => exact nm_z1
        | false => exact nm_z0
      show dF_X15_remembers_4 n (df_X15_remembers_4 n m) _ _ _ = _
      unfold dF_X15_remembers_4
      rw [if_pos (show sI (mR B ap tk st ts (nOp l) ft tv K P OA N) 5 ≤ nI (nOp l) from (show nI (nOp l) ≤ nI (nOp l) from (nI_leI (by omega) (by omega)).mpr (Nat.le_refl _)))]
      exact nz _
    | succ k ih =>
      intro i g b hi hg hb hb2
      obtain ⟨m, rfl⟩ : ∃ m : Nat, g = m + 1 := ⟨g - 1, by omega⟩
      have i10 : i < nOp l := by omega
      cases b with
      | true =>
        have st : df_X15_remembers_4 n (m + 1) (bI true) (nI i) (mR B ap tk st ts (nOp l) ft tv K P OA N, X) = df_X15_remembers_4 n m (bI true) (nI (i + 1)) (mR B ap tk st ts (nOp l) ft tv K P OA N, X) := by
          show dF_X15_remembers_4 n (df_X15_remembers_4 n m) (nI 1) (nI i) _ = df_X15_remembers_4 n m (nI 1) (nI (i + 1)) _
          unfold dF_X15_remembers_4
          simp (disch := (first | assumption | decide | omega)) only [df_X15_remembers_66, df_X15_remembers_61, df_X15_remembers_65, mR_i1, mR_i2, mR_i3, mR_i4, mR_i5, mR_i6, mR_l, mR_r5, mR_r6, mR_r7, mR_q, mR_o, mR_i0, mR_r0, mR_wi1, mR_wi2, mR_wi3, mR_wi4, mR_wi5, mR_wi6, mR_wl, mR_wr5, mR_wr6, mR_wr7, mR_wq, eq_self, Nat.reduceEqDiff, Nat.reduceLeDiff, nl_0, nl_1, no_1, no_1024, pk_mul, nI_add, nm_ck, nI_clamp, nI_ltI, nI_leI, nI_eq, nb_b2, nb_b1, ↓nb_let, nm_z0, nm_z1, nb_II, nb_IR, nb_RI, nb_RR, nm_IL, nm_IQ, nm_RL, nm_RQ, nm_LI, nm_LR, nm_LL, nm_LQ, nm_QI, nm_QR, nm_QL, nm_QQ, nm_rr, nm_ii, nm_eqm, not_false_eq_true, pk_sub, nm_div, nm_shl, nm_shr, nm_ush, nm_or8, nm_or64, nm_or256, nm_m1, nm_m3, nm_m7, nm_m15, nm_m31, nm_m63, nm_m255, nm_m511, nm_m1023, nm_m2047, nm_m65535, Nat.reduceMod, Nat.reducePow, Nat.reduceAdd, Nat.reduceSub, Nat.reduceMul, nm_bo, nm_bi, nm_rc, nm_ic, nm_ri, nm_rl, nm_rq, nm_ql, nm_qi, nm_li, nm_us, nm_uu, nm_cp, nm_sa31, nm_sa7, nm_m127, nm_m2, nm_nz, nm_nzk, nm_eq32, nm_nzf, if_true, if_false, ↓reduceIte, if_pos, if_neg]
        rw [st]
        exact ih (i + 1) m true (by omega) (by omega) hb (fun _ => Or.inl rfl)
      | false =>
        obtain ⟨y, k2, x1, x2, x3, x4, x5⟩ := o1 i i10
        by_cases y0 : 0 < y
        · have w : nI y - nI 1 = nI (y - 1) := pk_sub y0
          have x4 := x4 y0
          by_cases k8 : k2 = 8 ∨ k2 = 9
          · have st : df_X15_remembers_4 n (m + 1) (bI false) (nI i) (mR B ap tk st ts (nOp l) ft tv K P OA N, X) = df_X15_remembers_4 n m (bI true) (nI (i + 1)) (mR B ap tk st ts (nOp l) ft tv K P OA N, X) := by
              show dF_X15_remembers_4 n (df_X15_remembers_4 n m) (nI 0) (nI i) _ = df_X15_remembers_4 n m (nI 1) (nI (i + 1)) _
              unfold dF_X15_remembers_4
              rcases k8 with e | e
              · subst e
                simp (disch := (first | assumption | decide | omega)) only [df_X15_remembers_66, df_X15_remembers_61, df_X15_remembers_65, mR_i1, mR_i2, mR_i3, mR_i4, mR_i5, mR_i6, mR_l, mR_r5, mR_r6, mR_r7, mR_q, mR_o, mR_i0, mR_r0, mR_wi1, mR_wi2, mR_wi3, mR_wi4, mR_wi5, mR_wi6, mR_wl, mR_wr5, mR_wr6, mR_wr7, mR_wq, x1, w, x4, eq_self, Nat.reduceEqDiff, Nat.reduceLeDiff, nl_0, nl_1, nl_8, nl_9, no_1, no_1024, pk_mul, nI_add, nm_ck, nI_clamp, nI_ltI, nI_leI, nI_eq, nb_b2, nb_b1, ↓nb_let, nm_z0, nm_z1, nb_II, nb_IR, nb_RI, nb_RR, nm_IL, nm_IQ, nm_RL, nm_RQ, nm_LI, nm_LR, nm_LL, nm_LQ, nm_QI, nm_QR, nm_QL, nm_QQ, nm_rr, nm_ii, nm_eqm, not_false_eq_true, pk_sub, nm_div, nm_shl, nm_shr, nm_ush, nm_or8, nm_or64, nm_or256, nm_m1, nm_m3, nm_m7, nm_m15, nm_m31, nm_m63, nm_m255, nm_m511, nm_m1023, nm_m2047, nm_m65535, Nat.reduceMod, Nat.reducePow, Nat.reduceAdd, Nat.reduceSub, Nat.reduceMul, nm_bo, nm_bi, nm_rc, nm_ic, nm_ri, nm_rl, nm_rq, nm_ql, nm_qi, nm_li, nm_us, nm_uu, nm_cp, nm_sa31, nm_sa7, nm_m127, nm_m2, nm_nz, nm_nzk, nm_eq32, nm_nzf, if_true, if_false, ↓reduceIte, if_pos, if_neg]
              · subst e
                simp (disch := (first | assumption | decide | omega)) only [df_X15_remembers_66, df_X15_remembers_61, df_X15_remembers_65, mR_i1, mR_i2, mR_i3, mR_i4, mR_i5, mR_i6, mR_l, mR_r5, mR_r6, mR_r7, mR_q, mR_o, mR_i0, mR_r0, mR_wi1, mR_wi2, mR_wi3, mR_wi4, mR_wi5, mR_wi6, mR_wl, mR_wr5, mR_wr6, mR_wr7, mR_wq, x1, w, x4, eq_self, Nat.reduceEqDiff, Nat.reduceLeDiff, nl_0, nl_1, nl_8, nl_9, no_1, no_1024, pk_mul, nI_add, nm_ck, nI_clamp, nI_ltI, nI_leI, nI_eq, nb_b2, nb_b1, ↓nb_let, nm_z0, nm_z1, nb_II, nb_IR, nb_RI, nb_RR, nm_IL, nm_IQ, nm_RL, nm_RQ, nm_LI, nm_LR, nm_LL, nm_LQ, nm_QI, nm_QR, nm_QL, nm_QQ, nm_rr, nm_ii, nm_eqm, not_false_eq_true, pk_sub, nm_div, nm_shl, nm_shr, nm_ush, nm_or8, nm_or64, nm_or256, nm_m1, nm_m3, nm_m7, nm_m15, nm_m31, nm_m63, nm_m255, nm_m511, nm_m1023, nm_m2047, nm_m65535, Nat.reduceMod, Nat.reducePow, Nat.reduceAdd, Nat.reduceSub, Nat.reduceMul, nm_bo, nm_bi, nm_rc, nm_ic, nm_ri, nm_rl, nm_rq, nm_ql, nm_qi, nm_li, nm_us, nm_uu, nm_cp, nm_sa31, nm_sa7, nm_m127, nm_m2, nm_nz, nm_nzk, nm_eq32, nm_nzf, if_true, if_false, ↓reduceIte, if_pos, if_neg]
            rw [st]
            exact ih (i + 1) m true (by omega) (by omega) (fun _ => x5 y0 k8) (fun _ => Or.inl rfl)
          · have st : df_X15_remembers_4 n (m + 1) (bI false) (nI i) (mR B ap tk st ts (nOp l) ft tv K P OA N, X) = df_X15_remembers_4 n m (bI false) (nI (i + 1)) (mR B ap tk st ts (nOp l) ft tv K P OA N, X) := by
              show dF_X15_remembers_4 n (df_X15_remembers_4 n m) (nI 0) (nI i) _ = df_X15_remembers_4 n m (nI 0) (nI (i + 1)) _
              have k8a : ¬ k2 = 8 := fun z => k8 (Or.inl z)
              have k8b : ¬ k2 = 9 := fun z => k8 (Or.inr z)
              unfold dF_X15_remembers_4
              simp (disch := (first | assumption | decide | omega)) only [df_X15_remembers_66, df_X15_remembers_61, df_X15_remembers_65, mR_i1, mR_i2, mR_i3, mR_i4, mR_i5, mR_i6, mR_l, mR_r5, mR_r6, mR_r7, mR_q, mR_o, mR_i0, mR_r0, mR_wi1, mR_wi2, mR_wi3, mR_wi4, mR_wi5, mR_wi6, mR_wl, mR_wr5, mR_wr6, mR_wr7, mR_wq, x1, w, x4, eq_self, Nat.reduceEqDiff, Nat.reduceLeDiff, nl_0, nl_1, nl_8, nl_9, no_1, no_1024, pk_mul, nI_add, nm_ck, nI_clamp, nI_ltI, nI_leI, nI_eq, nb_b2, nb_b1, ↓nb_let, nm_z0, nm_z1, nb_II, nb_IR, nb_RI, nb_RR, nm_IL, nm_IQ, nm_RL, nm_RQ, nm_LI, nm_LR, nm_LL, nm_LQ, nm_QI, nm_QR, nm_QL, nm_QQ, nm_rr, nm_ii, nm_eqm, not_false_eq_true, pk_sub, nm_div, nm_shl, nm_shr, nm_ush, nm_or8, nm_or64, nm_or256, nm_m1, nm_m3, nm_m7, nm_m15, nm_m31, nm_m63, nm_m255, nm_m511, nm_m1023, nm_m2047, nm_m65535, Nat.reduceMod, Nat.reducePow, Nat.reduceAdd, Nat.reduceSub, Nat.reduceMul, nm_bo, nm_bi, nm_rc, nm_ic, nm_ri, nm_rl, nm_rq, nm_ql, nm_qi, nm_li, nm_us, nm_uu, nm_cp, nm_sa31, nm_sa7, nm_m127, nm_m2, nm_nz, nm_nzk, nm_eq32, nm_nzf, if_true, if_false, ↓reduceIte, if_pos, if_neg]
            rw [st]
            refine ih (i + 1) m false (by omega) (by omega) hb (fun z => ?_)
            rcases hb2 z with q | ⟨i', y', z1, z2, z3, z4, z5⟩
            · exact absurd q (by decide)
            · refine Or.inr ⟨i', y', ?_, z2, z3, z4, z5⟩
              have : ¬ i' = i := fun e => by
                rw [e, x1, nI_eq (by omega) (by omega)] at z3
                rw [show y - 1 = y' by omega] at x4
                rw [x4] at z5
                rcases z5 with z5 | z5
                · rw [nI_eq (by omega) (by omega)] at z5; omega
                · rw [nI_eq (by omega) (by omega)] at z5; omega
              omega
        · have st : df_X15_remembers_4 n (m + 1) (bI false) (nI i) (mR B ap tk st ts (nOp l) ft tv K P OA N, X) = df_X15_remembers_4 n m (bI false) (nI (i + 1)) (mR B ap tk st ts (nOp l) ft tv K P OA N, X) := by
            show dF_X15_remembers_4 n (df_X15_remembers_4 n m) (nI 0) (nI i) _ = df_X15_remembers_4 n m (nI 0) (nI (i + 1)) _
            have y00 : y = 0 := by omega
            subst y00
            unfold dF_X15_remembers_4
            simp (disch := (first | assumption | decide | omega)) only [df_X15_remembers_66, df_X15_remembers_61, df_X15_remembers_65, mR_i1, mR_i2, mR_i3, mR_i4, mR_i5, mR_i6, mR_l, mR_r5, mR_r6, mR_r7, mR_q, mR_o, mR_i0, mR_r0, mR_wi1, mR_wi2, mR_wi3, mR_wi4, mR_wi5, mR_wi6, mR_wl, mR_wr5, mR_wr6, mR_wr7, mR_wq, x1, eq_self, Nat.reduceEqDiff, Nat.reduceLeDiff, nl_0, nl_1, no_1, no_1024, pk_mul, nI_add, nm_ck, nI_clamp, nI_ltI, nI_leI, nI_eq, nb_b2, nb_b1, ↓nb_let, nm_z0, nm_z1, nb_II, nb_IR, nb_RI, nb_RR, nm_IL, nm_IQ, nm_RL, nm_RQ, nm_LI, nm_LR, nm_LL, nm_LQ, nm_QI, nm_QR, nm_QL, nm_QQ, nm_rr, nm_ii, nm_eqm, not_false_eq_true, pk_sub, nm_div, nm_shl, nm_shr, nm_ush, nm_or8, nm_or64, nm_or256, nm_m1, nm_m3, nm_m7, nm_m15, nm_m31, nm_m63, nm_m255, nm_m511, nm_m1023, nm_m2047, nm_m65535, Nat.reduceMod, Nat.reducePow, Nat.reduceAdd, Nat.reduceSub, Nat.reduceMul, nm_bo, nm_bi, nm_rc, nm_ic, nm_ri, nm_rl, nm_rq, nm_ql, nm_qi, nm_li, nm_us, nm_uu, nm_cp, nm_sa31, nm_sa7, nm_m127, nm_m2, nm_nz, nm_nzk, nm_eq32, nm_nzf, if_true, if_false, ↓reduceIte, if_pos, if_neg]
          rw [st]
          refine ih (i + 1) m false (by omega) (by omega) hb (fun z => ?_)
          rcases hb2 z with q | ⟨i', y', z1, z2, z3, z4, z5⟩
          · exact absurd q (by decide)
          · refine Or.inr ⟨i', y', ?_, z2, z3, z4, z5⟩
            have : ¬ i' = i := fun e => by
              rw [e, x1, nI_eq (by omega) (by omega)] at z3
              omega
            omega
  exact key (nOp l) 0 n false (by omega) (by omega) (fun z => absurd z (by decide)) (fun z => by
    obtain ⟨i, y, z1, z2, z3, z4⟩ := o2 z
    exact Or.inr ⟨i, y, by omega, z1, z2, z3, z4⟩)
