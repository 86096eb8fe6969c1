/-- the class's tables against the reference's: what a name, a near label is worth -/
def lam (X : Nat → Nat) : Nat → Nat
  | 0 => 0
  | k + 1 => lam X k + (if X k / 131072 = 2 then 0 else 1)
theorem lam_m (X : Nat → Nat) : ∀ j k : Nat, lam X k ≤ lam X (k + j) := fun j => by
  induction j with
  | zero => intro k; exact Nat.le_refl _
  | succ j ih =>
    intro k
    have := ih k
    show lam X k ≤ lam X (k + j) + (if X (k + j) / 131072 = 2 then 0 else 1)
    omega
theorem lam_l {X : Nat → Nat} {k nL : Nat} (h : k < nL) (hk : ¬ X k / 131072 = 2) : lam X k < lam X nL := by
  have a := lam_m X (nL - (k + 1)) (k + 1)
  rw [show k + 1 + (nL - (k + 1)) = nL by omega] at a
  have b : lam X (k + 1) = lam X k + 1 := by show lam X k + (if X k / 131072 = 2 then 0 else 1) = _; rw [if_neg hk]
  omega
theorem re_c {l a b d e a' b' d' e' : Nat} (h0 : 0 < l → a = a') (h1 : 1 < l → b = b') (h2 : 2 < l → d = d') (h3 : 3 < l → e = e') : reS l a b d e = reS l a' b' d' e' := by
  by_cases y : l < 2 ∨ 4 < l
  · unfold reS
    rw [if_neg (show ¬ (l = 4 ∧ a = 122 ∧ b = 101 ∧ d = 114 ∧ e = 111) by omega), if_neg (show ¬ (l = 2 ∧ a = 114 ∧ b = 97) by omega), if_neg (show ¬ (l = 2 ∧ a = 115 ∧ b = 112) by omega), if_neg (show ¬ (l = 2 ∧ a = 103 ∧ b = 112) by omega), if_neg (show ¬ (l = 2 ∧ a = 116 ∧ b = 112) by omega), if_neg (show ¬ (l = 2 ∧ a = 102 ∧ b = 112) by omega), if_pos (show l < 2 ∨ 3 < l by omega), if_neg (show ¬ (l = 4 ∧ a' = 122 ∧ b' = 101 ∧ d' = 114 ∧ e' = 111) by omega), if_neg (show ¬ (l = 2 ∧ a' = 114 ∧ b' = 97) by omega), if_neg (show ¬ (l = 2 ∧ a' = 115 ∧ b' = 112) by omega), if_neg (show ¬ (l = 2 ∧ a' = 103 ∧ b' = 112) by omega), if_neg (show ¬ (l = 2 ∧ a' = 116 ∧ b' = 112) by omega), if_neg (show ¬ (l = 2 ∧ a' = 102 ∧ b' = 112) by omega), if_pos (show l < 2 ∨ 3 < l by omega)]
  · have h0 := h0 (by omega)
    have h1 := h1 (by omega)
    subst h0
    subst h1
    by_cases y2 : l = 2
    · subst y2
      exact (ts2 a b d e).trans (ts2 a b d' e').symm
    have h2 := h2 (by omega)
    subst h2
    by_cases y3 : l = 3
    · subst y3
      exact (ts3 a b d e).trans (ts3 a b d e').symm
    have h3 := h3 (by omega)
    subst h3
    rfl
theorem nk_W {c X : Nat → Nat} {nL b l q l' : Nat} (h : sW c b l q l') : nmK c X nL b l = nmK c X nL q l' := by
  obtain ⟨e, h⟩ := h
  subst e
  unfold nmK
  rw [re_c (l := l) (a := c b) (b := c (b + 1)) (d := c (b + 2)) (e := c (b + 3)) (a' := c q) (b' := c (q + 1)) (d' := c (q + 2)) (e' := c (q + 3)) (fun z => h 0 z) (fun z => h 1 z) (fun z => h 2 z) (fun z => h 3 z), show fiP c X b l = fiP c X q l from funext fun k => by
    unfold fiP alk
    congr 2
    exact decide_eq_decide.mpr ⟨fun z t ht => (z t ht).trans (h t ht), fun z t ht => (z t ht).trans (h t ht).symm⟩]
theorem o117_y {n : Nat} {B : St} {tp : Nat} {tr : Int32} {S : Nat → Int32} (j : Nat) (hj : j < 16384) : df_X9_operand_117 n (nI j) (vC B tp tr S) = some (sR B 6 (5 * j + 2), vC B tp tr S) := by
  unfold df_X9_operand_117
  rw [if_pos (show (0 : Int32) ≤ nI j from zle (a := 0) (Nat.zero_le j) (by omega)), show nI j * (5 : Int32) = nI (5 * j) from (pk_mul j 5).trans (congrArg nI (Nat.mul_comm j 5)), show nI (5 * j) + (2 : Int32) = nI (5 * j + 2) from nI_add (5 * j) 2, nm_ck (by omega) (by omega), nI_clamp (by omega), vC_r6]
theorem o117_n {n : Nat} {B : St} {tp : Nat} {tr : Int32} {S : Nat → Int32} {x : Int32} (h : ¬ 0 ≤ x) : df_X9_operand_117 n x (vC B tp tr S) = some (0, vC B tp 8 S) := by
  unfold df_X9_operand_117
  rw [if_neg h, vC_w11, nb_let]
/-- the class's label that an entry of the reference is, 1 more, or 0 -/
def lmF (X : Nat → Nat) (f : Nat) : Nat := if f = 0 then 0 else lam X (f - 1) + 1
/-- both tables say the same -/
def TT (c X : Nat → Nat) (nL st : Nat) (ts : Int32) (W : Nat → Int32) (NRp : Nat → Int32) (ns : Nat) (bs ws : Nat → Nat) (B : St) : Prop := lam X nL ≤ 16384 ∧ (∀ id : Nat, id < ns → (nmK c X nL (bs id) (ws id) < nL ∧ X (nmK c X nL (bs id) (ws id)) / 131072 = 2 → sR B 3 (5 * id + 2) = 1 ∧ sR B 3 (5 * id + 3) = W (nmK c X nL (bs id) (ws id))) ∧ (nmK c X nL (bs id) (ws id) < nL ∧ ¬ X (nmK c X nL (bs id) (ws id)) / 131072 = 2 → sR B 3 (5 * id + 2) = 2 ∧ sR B 3 (5 * id + 3) = nI (lam X (nmK c X nL (bs id) (ws id)))) ∧ (¬ nmK c X nL (bs id) (ws id) < nL → sR B 3 (5 * id + 2) = 0)) ∧ (∀ k : Nat, k < nL → ¬ X k / 131072 = 2 → sR B 6 (5 * lam X k + 2) = vlO ts X W k) ∧ (∀ d : Nat, d ≤ 9 → NRp (10 + d) = nI (lmF X (frF false (nrP c X st d false) nL)) ∧ (NRp (10 + d) = 0 → sR B 5 d = nI (lmF X (frF true (nrP c X st d true) nL))) ∧ ∀ j : Nat, j < 16384 → NRp (10 + d) = nI (j + 1) → sR B 6 (5 * j + 3) = nI (lmF X (frF true (nrP c X st d true) nL)))
theorem fr_P (fw : Bool) (P : Nat → Bool) : ∀ k : Nat, 0 < frF fw P k → P (frF fw P k - 1) = true := fun k => by
  induction k with
  | zero => intro h; exact absurd h (Nat.lt_irrefl 0)
  | succ k ih =>
    intro h
    by_cases y : P k = true ∧ ¬ (fw = true ∧ 0 < frF fw P k)
    · rw [show frF fw P (k + 1) = k + 1 from if_pos y]
      exact y.1
    · rw [show frF fw P (k + 1) = frF fw P k from if_neg y] at h ⊢
      exact ih h
theorem o113_1 {n : Nat} {B : St} {tp : Nat} {tr : Int32} {S : Nat → Int32} {c X : Nat → Nat} {nL st d : Nat} {fw : Bool} {ts : Int32} {W : Nat → Int32} (hl : lam X nL ≤ 16384) (hp : ∀ k : Nat, k < nL → ¬ X k / 131072 = 2 → sR B 6 (5 * lam X k + 2) = vlO ts X W k) : df_X9_operand_117 n (nI (lmF X (frF fw (nrP c X st d fw) nL)) - 1) (vC B tp tr S) = some ((if 0 < frF fw (nrP c X st d fw) nL then (vlO ts X W (frF fw (nrP c X st d fw) nL - 1), false) else ((0 : Int32), true)).1, vC B tp (if (if 0 < frF fw (nrP c X st d fw) nL then (vlO ts X W (frF fw (nrP c X st d fw) nL - 1), false) else ((0 : Int32), true)).2 = true then 8 else tr) S) := by
  have fl := fr_l fw (nrP c X st d fw) nL
  have fp := fr_P fw (nrP c X st d fw) nL
  generalize frF fw (nrP c X st d fw) nL = f at fl fp
  unfold lmF
  by_cases y : f = 0
  · rw [if_pos y, if_neg (show ¬ 0 < f by omega), o117_n (show ¬ (0 : Int32) ≤ nI 0 - 1 by decide), if_pos rfl]
  · have P1 := fp (by omega)
    have k2 : ¬ X (f - 1) / 131072 = 2 := fun z => by
      unfold nrP at P1
      rw [decide_eq_false (by omega), Bool.false_and] at P1
      exact absurd P1 (by decide)
    have ll := lam_l (X := X) (k := f - 1) (nL := nL) (by omega) k2
    rw [if_neg y, if_pos (show 0 < f by omega), show nI (lam X (f - 1) + 1) - (1 : Int32) = nI (lam X (f - 1)) from pk_sub (b := 1) (by omega), o117_y _ (by omega), hp _ (by omega) k2, if_neg (show ¬ false = true by decide)]
theorem evH_1 {n : Nat} {B : St} {hr : Int32} {c X : Nat → Nat} {e nL st : Nat} {ts : Int32} {W NRp C0 A0 : Nat → Int32} {s0 ns m : Nat} {bs ws : Nat → Nat} {P : Nat → Tp} (hns : ns ≤ 16384) (hC : CR NRp c e C0 A0 s0 ns bs ws m P (sR B 0) (sR B 1)) (hTT : TT c X nL st ts W NRp ns bs ws B) : evH n B hr (VV c X e nL st ts hr W) s0 m P := by
  intro i hi h16 tp tr S
  obtain ⟨c1, a1, a2, a3, a4, a5⟩ := hC.2 i hi
  obtain ⟨T1, T2, T3, T4⟩ := hTT
  rw [c1]
  generalize P i = o at a1 a2 a3 a4 a5 h16
  obtain ⟨κ, q, v⟩ := o
  have a5 : 1 ≤ κ ∧ κ ≤ 20 ∧ ¬ κ = 15 ∧ (κ = 19 ∨ κ = 20 → v ≤ 9) := a5
  have h16 : 16 ≤ κ := h16
  show df_X9_operand n (nI κ) (sR B 1 (s0 + i)) hr (vC B tp tr S) = _
  have cc : κ = 16 ∨ κ = 17 ∨ κ = 18 ∨ κ = 19 ∨ κ = 20 := by omega
  unfold df_X9_operand df_X9_operand_0
  rcases cc with z | z | z | z | z
  · subst z
    rw [if_pos (show nI 16 = (16 : Int32) from rfl), a1 rfl]
    rfl
  · subst z
    obtain ⟨id, e1, e2, e3⟩ := a2 rfl
    have e3 : sW c (bs id) (ws id) q (eT c e q - q) := e3
    have kW := nk_W (X := X) (nL := nL) e3
    obtain ⟨t1, t2, t3⟩ := T2 id e2
    rw [kW] at t1 t2 t3
    rw [if_neg (show ¬ nI 17 = (16 : Int32) by decide), if_neg (show ¬ nI 17 = (18 : Int32) by decide), if_pos (show nI 17 = (17 : Int32) from rfl), e1, show nI id * (5 : Int32) = nI (5 * id) from (pk_mul id 5).trans (congrArg nI (Nat.mul_comm id 5)), show nI (5 * id) + (2 : Int32) = nI (5 * id + 2) from nI_add (5 * id) 2, show nI (5 * id) + (3 : Int32) = nI (5 * id + 3) from nI_add (5 * id) 3, nm_ck (by omega) (by omega), nI_clamp (by omega), vC_r3, nb_let, nm_ck (by omega) (by omega), nI_clamp (by omega), nm_ck (by omega) (by omega)]
    have ev : VV c X e nL st ts hr W (17, q, v) = if nmK c X nL q (eT c e q - q) < nL then (vlO ts X W (nmK c X nL q (eT c e q - q)), false) else (0, true) := rfl
    rw [ev]
    unfold df_X9_operand_71
    by_cases y : nmK c X nL q (eT c e q - q) < nL
    · rw [if_pos y]
      by_cases w : X (nmK c X nL q (eT c e q - q)) / 131072 = 2
      · obtain ⟨u1, u2⟩ := t1 ⟨y, w⟩
        rw [u1, if_pos rfl, u2, show vlO ts X W (nmK c X nL q (eT c e q - q)) = W (nmK c X nL q (eT c e q - q)) from if_neg (by omega)]
        rfl
      · obtain ⟨u1, u2⟩ := t2 ⟨y, w⟩
        have ll := lam_l y w
        rw [u1, if_neg (show ¬ (2 : Int32) = 1 by decide), if_pos rfl, u2, o117_y _ (by omega), T3 _ y w]
        rfl
    · rw [if_neg y, t3 y, if_neg (show ¬ (0 : Int32) = 1 by decide), if_neg (show ¬ (0 : Int32) = 2 by decide), o117_n (show ¬ (0 : Int32) ≤ -1 by decide)]
      rfl
  · subst z
    rw [if_neg (show ¬ nI 18 = (16 : Int32) by decide), if_pos (show nI 18 = (18 : Int32) from rfl)]
    rfl
  · subst z
    have v9 := a5.2.2.2 (Or.inl rfl)
    obtain ⟨u1, u2, u3⟩ := T4 v v9
    have α := a3 rfl
    have α : sR B 1 (s0 + i) = if NRp (10 + v) - 1 < 0 then -1 - nI v else NRp (10 + v) - 1 := α
    have ev : VV c X e nL st ts hr W (19, q, v) = if 0 < frF true (nrP c X st v true) nL then (vlO ts X W (frF true (nrP c X st v true) nL - 1), false) else (0, true) := rfl
    have fin := o113_1 (n := n) (B := B) (tp := tp) (tr := tr) (S := S) (c := c) (X := X) (nL := nL) (st := st) (d := v) (fw := true) (ts := ts) (W := W) T1 T3
    rw [if_neg (show ¬ nI 19 = (16 : Int32) by decide), if_neg (show ¬ nI 19 = (18 : Int32) by decide), if_neg (show ¬ nI 19 = (17 : Int32) by decide), if_neg (show ¬ nI 19 = (20 : Int32) by decide), ev]
    unfold df_X9_operand_113
    have fl := fr_l false (nrP c X st v false) nL
    have fP := fr_P false (nrP c X st v false) nL
    generalize frF false (nrP c X st v false) nL = f at u1 fl fP
    by_cases y : f = 0
    · have u1 : NRp (10 + v) = 0 := by rw [u1, y]; rfl
      rw [u1, if_pos (show (0 : Int32) - 1 < 0 by decide)] at α
      have neg : ¬ (0 : Int32) ≤ -1 - nI v := by
        intro z
        rw [Int32.le_iff_toInt_le, show (-1 : Int32) - nI v = nI 0 - nI (1 + v) by rw [← nI_add, show (-1 : Int32) = nI 0 - nI 1 by decide, Int32.sub_sub], pk_sub_toInt (by omega) (by omega)] at z
        have z : (0 : Int) ≤ ((0 : Nat) : Int) - ((1 + v : Nat) : Int) := z
        omega
      have idx : (-1 : Int32) - (-1 - nI v) = nI v := by rw [Int32.sub_eq_add_neg (-1) (-1 - nI v), Int32.neg_sub, Int32.add_comm, Int32.sub_add_cancel]
      rw [α, if_neg neg, idx, nm_ck (by omega) (by omega), nI_clamp (by omega), vC_r5, u2 u1, nb_let]
      exact fin
    · have P1 := fP (by omega)
      have k2 : ¬ X (f - 1) / 131072 = 2 := fun z => by
        unfold nrP at P1
        rw [decide_eq_false (by omega), Bool.false_and] at P1
        exact absurd P1 (by decide)
      have ll := lam_l (X := X) (k := f - 1) (nL := nL) (by omega) k2
      have u1 : NRp (10 + v) = nI (lam X (f - 1) + 1) := by rw [u1]; unfold lmF; rw [if_neg y]
      have u4 := u3 (lam X (f - 1)) (by omega) u1
      rw [u1, show nI (lam X (f - 1) + 1) - (1 : Int32) = nI (lam X (f - 1)) from pk_sub (b := 1) (by omega), if_neg (show ¬ nI (lam X (f - 1)) < (0 : Int32) from znl (b := 0) (Nat.zero_le _) (by omega))] at α
      rw [α, if_pos (show (0 : Int32) ≤ nI (lam X (f - 1)) from zle (a := 0) (Nat.zero_le _) (by omega)), show nI (lam X (f - 1)) * (5 : Int32) = nI (5 * lam X (f - 1)) from (pk_mul _ 5).trans (congrArg nI (Nat.mul_comm _ 5)), show nI (5 * lam X (f - 1)) + (3 : Int32) = nI (5 * lam X (f - 1) + 3) from nI_add _ 3, nm_ck (by omega) (by omega), nI_clamp (by omega), vC_r6, u4, nb_let]
      exact fin
  · subst z
    have v9 := a5.2.2.2 (Or.inr rfl)
    obtain ⟨u1, u2, u3⟩ := T4 v v9
    have α : sR B 1 (s0 + i) = NRp (10 + v) - 1 := a4 rfl
    have ev : VV c X e nL st ts hr W (20, q, v) = if 0 < frF false (nrP c X st v false) nL then (vlO ts X W (frF false (nrP c X st v false) nL - 1), false) else (0, true) := rfl
    have fin := o113_1 (n := n) (B := B) (tp := tp) (tr := tr) (S := S) (c := c) (X := X) (nL := nL) (st := st) (d := v) (fw := false) (ts := ts) (W := W) T1 T3
    rw [if_neg (show ¬ nI 20 = (16 : Int32) by decide), if_neg (show ¬ nI 20 = (18 : Int32) by decide), if_neg (show ¬ nI 20 = (17 : Int32) by decide), if_pos (show nI 20 = (20 : Int32) from rfl), ev, α, u1]
    exact fin
