/-- two words that are alike a third one -/
theorem alk_t {c : Nat → Nat} {q l o : Nat} : alk c q l o = true ↔ (∀ t : Nat, t < l → c (o + t) = c (q + t)) ∧ aP (c (o + l)) = false := by
  unfold alk
  rw [Bool.and_eq_true, decide_eq_true_eq, Bool.not_eq_true']
theorem alk_u {c : Nat → Nat} {q l q' l' o : Nat} (h : alk c q l o = true) (h' : alk c q' l' o = true) (a : ∀ t : Nat, t < l → aP (c (q + t)) = true) (a' : ∀ t : Nat, t < l' → aP (c (q' + t)) = true) : sW c q l q' l' := by
  obtain ⟨h1, h2⟩ := alk_t.mp h
  obtain ⟨k1, k2⟩ := alk_t.mp h'
  have e : l = l' := by
    by_cases y : l < l'
    · have := k1 l y
      rw [this, a' l y] at h2
      exact absurd h2 (by decide)
    · by_cases z : l' < l
      · have := h1 l' z
        rw [this, a l' z] at k2
        exact absurd k2 (by decide)
      · omega
  subst e
  exact ⟨rfl, fun t ht => (h1 t ht).symm.trans (k1 t ht)⟩
theorem alk_s {c : Nat → Nat} {q l o l' : Nat} (h : sW c q l o l') (hz : aP (c (o + l')) = false) : alk c q l o = true := by
  obtain ⟨h1, h2⟩ := h
  subst h1
  exact alk_t.mpr ⟨fun t ht => (h2 t ht).symm, hz⟩
theorem nmK_y {c X : Nat → Nat} {nL q l : Nat} (h : nmK c X nL q l < nL) : ¬ reS l (c q) (c (q + 1)) (c (q + 2)) (c (q + 3)) < 32 ∧ nmK c X nL q l = fN (fiP c X q l) 0 nL ∧ X (nmK c X nL q l) / 131072 < 3 ∧ alk c q l (X (nmK c X nL q l) % 131072) = true := by
  have r : ¬ reS l (c q) (c (q + 1)) (c (q + 2)) (c (q + 3)) < 32 := fun z => by
    unfold nmK at h
    rw [if_pos z] at h
    omega
  have e : nmK c X nL q l = fN (fiP c X q l) 0 nL := if_neg r
  refine ⟨r, e, ?_⟩
  rw [e] at h ⊢
  have := (fN_le (fiP c X q l) nL 0).2.2.1 (by omega)
  unfold fiP at this
  rw [Bool.and_eq_true, decide_eq_true_eq] at this
  exact this
theorem nmK_l {c X : Nat → Nat} {nL q l : Nat} : nmK c X nL q l ≤ nL := by
  unfold nmK
  split
  · omega
  · have := (fN_le (fiP c X q l) nL 0).2.1
    omega
/-- each word of the reference's table has its number in the class -/
def IDX (c X : Nat → Nat) (nL ns : Nat) (bs ws : Nat → Nat) : Prop := ∀ k : Nat, k < nL → X k / 131072 < 3 → ∃ id : Nat, id < ns ∧ alk c (bs id) (ws id) (X k % 131072) = true
theorem IDX_n {c X : Nat → Nat} {nL ns ns' : Nat} {NM NM' : Nat → Int32} {bs ws bs' ws' : Nat → Nat} (h : IDX c X nL ns bs ws) (hp : PS ns NM bs ws ns' NM' bs' ws') : IDX c X nL ns' bs' ws' := fun k hk hc => by
  obtain ⟨id, h1, h2⟩ := h k hk hc
  have p0 := hp.1
  obtain ⟨b1, b2, _⟩ := hp.2.1 id h1
  exact ⟨id, by omega, by rw [b1, b2]; exact h2⟩
/-- names that are new mean nothing yet -/
theorem NTB_n {L : Nat} {c X : Nat → Nat} {nL : Nat} {W : Nat → Int32} {ns ns' : Nat} {NM NM' BK' : Nat → Int32} {bs ws bs' ws' : Nat → Nat} (h : NTB c X nL W ns NM bs ws) (hI : IDX c X nL ns bs ws) (hp : PS ns NM bs ws ns' NM' bs' ws') (hH : HT L c ns' NM' BK' bs' ws') : NTB c X nL W ns' NM' bs' ws' := fun id hid => by
  have p0 := hp.1
  by_cases y : id < ns
  · obtain ⟨b1, b2, b3, b4⟩ := hp.2.1 id y
    rw [b1, b2, b3, b4]
    exact h id y
  · have nf : ¬ nmK c X nL (bs' id) (ws' id) < nL := fun z => by
      obtain ⟨k1, k2, k3, k4⟩ := nmK_y z
      obtain ⟨id0, i1, i2⟩ := hI _ z k3
      obtain ⟨b1, b2, _⟩ := hp.2.1 id0 i1
      rw [← b1, ← b2] at i2
      have e := hH.2.2.2.1 id0 id (by omega) hid (alk_u i2 k4 (hH.2.2.2.2 id0 (by omega)) (hH.2.2.2.2 id hid))
      omega
    exact ⟨fun z => absurd z.1 nf, fun z => absurd z.1 nf, fun _ => hp.2.2 id (by omega) hid⟩
/-- a word gets its meaning in both: κ its kind, 0, 1 a label, 2 a constant -/
theorem NTB_d {L : Nat} {c X Y : Nat → Nat} {nL : Nat} {W W' : Nat → Int32} {ns : Nat} {NM BK : Nat → Int32} {bs ws : Nat → Nat} (h : NTB c X nL W ns NM bs ws) (hH : HT L c ns NM BK bs ws) {q l κ : Nat} (hY : ∀ k : Nat, k < nL → Y k = X k) (hYn : Y nL = κ * 131072 + q) (hq : q < 131072) (hκ : κ < 3) (hW : ∀ k : Nat, k < nL → W' k = W k) (hz : aP (c (q + l)) = false) (hr : ¬ reS l (c q) (c (q + 1)) (c (q + 2)) (c (q + 3)) < 32) (hn : ¬ nmK c X nL q l < nL) {id : Nat} (hid : id < ns) (hs : sW c (bs id) (ws id) q l) (v w : Int32) (hv : v = if κ = 2 then 1 else 2) (hw : w = if κ = 2 then W' nL else nI (lam X nL)) : NTB c Y (nL + 1) W' ns (upd (upd NM (5 * id + 2) v) (5 * id + 3) w) bs ws := fun j hj => by
  have yk : Y nL / 131072 = κ := by rw [hYn]; omega
  have ym : Y nL % 131072 = q := by rw [hYn]; omega
  have ka := nk_a (c := c) (b := bs j) (l := ws j) hY
  have kid := nk_W (X := X) (nL := nL) hs
  have fi : fiP c Y (bs j) (ws j) nL = alk c (bs j) (ws j) q := by
    unfold fiP
    rw [yk, ym, decide_eq_true hκ, Bool.true_and]
  have rid : reS (ws id) (c (bs id)) (c (bs id + 1)) (c (bs id + 2)) (c (bs id + 3)) = reS l (c q) (c (q + 1)) (c (q + 2)) (c (q + 3)) := by
    obtain ⟨h1, h2⟩ := hs
    subst h1
    exact re_c (fun z => h2 0 z) (fun z => h2 1 z) (fun z => h2 2 z) (fun z => h2 3 z)
  have ne : ¬ j = id → upd (upd NM (5 * id + 2) v) (5 * id + 3) w (5 * j + 2) = NM (5 * j + 2) ∧ upd (upd NM (5 * id + 2) v) (5 * id + 3) w (5 * j + 3) = NM (5 * j + 3) := fun z => ⟨by rw [up_n (by omega), up_n (by omega)], by rw [up_n (by omega), up_n (by omega)]⟩
  have old := h j hj
  have lc : ∀ k : Nat, k ≤ nL → lam Y k = lam X k := fun k hk => lam_c k (fun i hi => hY i (by omega))
  by_cases r : reS (ws j) (c (bs j)) (c (bs j + 1)) (c (bs j + 2)) (c (bs j + 3)) < 32
  · rw [if_pos r] at ka
    have nj : ¬ j = id := fun z => by subst z; rw [rid] at r; exact hr r
    have ok : nmK c X nL (bs j) (ws j) = nL := if_pos r
    rw [ok] at old
    rw [ka, (ne nj).1]
    exact ⟨fun z => absurd z.1 (Nat.lt_irrefl _), fun z => absurd z.1 (Nat.lt_irrefl _), fun _ => old.2.2 (Nat.lt_irrefl _)⟩
  · rw [if_neg r] at ka
    by_cases k : nmK c X nL (bs j) (ws j) < nL
    · rw [if_pos k] at ka
      have nj : ¬ j = id := fun z => by subst z; rw [kid] at k; exact hn k
      rw [ka, (ne nj).1, (ne nj).2, hY _ k, hW _ k, lc _ (by omega)]
      exact ⟨fun z => old.1 ⟨k, z.2⟩, fun z => old.2.1 ⟨k, z.2⟩, fun z => absurd (show nmK c X nL (bs j) (ws j) < nL + 1 by omega) z⟩
    · rw [if_neg k, fi] at ka
      by_cases a : alk c (bs j) (ws j) q = true
      · rw [if_pos a] at ka
        have e : j = id := hH.2.2.2.1 j id hj hid (alk_u a (alk_s hs hz) (hH.2.2.2.2 j hj) (hH.2.2.2.2 id hid))
        subst e
        rw [ka, yk, up_n (show ¬ 5 * j + 2 = 5 * j + 3 by omega), up_e, up_e, lc _ (Nat.le_refl _)]
        refine ⟨fun z => ?_, fun z => ?_, fun z => absurd (Nat.lt_succ_self nL) z⟩
        · rw [hv, hw, if_pos z.2, if_pos z.2]; exact ⟨rfl, rfl⟩
        · rw [hv, hw, if_neg z.2, if_neg z.2]; exact ⟨rfl, rfl⟩
      · rw [if_neg a] at ka
        have nj : ¬ j = id := fun z => by subst z; exact a (alk_s hs hz)
        rw [ka, (ne nj).1]
        exact ⟨fun z => absurd z.1 (Nat.lt_irrefl _), fun z => absurd z.1 (Nat.lt_irrefl _), fun _ => old.2.2 k⟩
theorem IDX_d {c X Y : Nat → Nat} {nL ns : Nat} {bs ws : Nat → Nat} (h : IDX c X nL ns bs ws) {q l κ : Nat} (hY : ∀ k : Nat, k < nL → Y k = X k) (hYn : Y nL = κ * 131072 + q) (hq : q < 131072) (hz : aP (c (q + l)) = false) {id : Nat} (hid : id < ns) (hs : sW c (bs id) (ws id) q l) : IDX c Y (nL + 1) ns bs ws := fun k hk hc => by
  by_cases y : k < nL
  · rw [hY k y] at hc ⊢
    exact h k y hc
  · have e : k = nL := by omega
    subst e
    refine ⟨id, hid, ?_⟩
    rw [hYn, show (κ * 131072 + q) % 131072 = q by omega]
    exact alk_s hs hz
/-- a digit's label is no word -/
theorem NTB_g {c X Y : Nat → Nat} {nL : Nat} {W W' : Nat → Int32} {ns : Nat} {NM : Nat → Int32} {bs ws : Nat → Nat} (h : NTB c X nL W ns NM bs ws) (hY : ∀ k : Nat, k < nL → Y k = X k) (hYn : 3 ≤ Y nL / 131072) (hW : ∀ k : Nat, k < nL → W' k = W k) : NTB c Y (nL + 1) W' ns NM bs ws := fun j hj => by
  have ka := nk_a (c := c) (b := bs j) (l := ws j) hY
  have fi : fiP c Y (bs j) (ws j) nL = false := by
    unfold fiP
    rw [decide_eq_false (by omega), Bool.false_and]
  have old := h j hj
  have lc : ∀ k : Nat, k ≤ nL → lam Y k = lam X k := fun k hk => lam_c k (fun i hi => hY i (by omega))
  rw [fi, if_neg (show ¬ false = true from Bool.false_ne_true)] at ka
  by_cases k : nmK c X nL (bs j) (ws j) < nL
  · obtain ⟨k1, _⟩ := nmK_y k
    rw [if_neg k1, if_pos k] at ka
    rw [ka, hY _ k, hW _ k, lc _ (by omega)]
    exact ⟨fun z => old.1 ⟨k, z.2⟩, fun z => old.2.1 ⟨k, z.2⟩, fun z => absurd (show nmK c X nL (bs j) (ws j) < nL + 1 by omega) z⟩
  · have e : nmK c Y (nL + 1) (bs j) (ws j) = nL + 1 := by
      rw [ka]
      split
      · rfl
      · first | rfl | rw [if_neg k]
    rw [e]
    exact ⟨fun z => absurd z.1 (Nat.lt_irrefl _), fun z => absurd z.1 (Nat.lt_irrefl _), fun _ => old.2.2 k⟩
theorem IDX_g {c X Y : Nat → Nat} {nL ns : Nat} {bs ws : Nat → Nat} (h : IDX c X nL ns bs ws) (hY : ∀ k : Nat, k < nL → Y k = X k) (hYn : 3 ≤ Y nL / 131072) : IDX c Y (nL + 1) ns bs ws := fun k hk hc => by
  by_cases y : k < nL
  · rw [hY k y] at hc ⊢
    exact h k y hc
  · have e : k = nL := by omega
    subst e
    omega
/-- a fixed row is worth the same in a table that has grown -/
theorem nmK_g {c X X0 : Nat → Nat} {nL n0 q l : Nat} (hn : n0 ≤ nL) (hX : ∀ k : Nat, k < n0 → X k = X0 k) (h : nmK c X0 n0 q l < n0) : nmK c X nL q l = nmK c X0 n0 q l := by
  obtain ⟨h1, h2, h3, h4⟩ := nmK_y h
  have e : nmK c X nL q l = fN (fiP c X q l) 0 nL := if_neg h1
  rw [e]
  refine fN_is (Nat.zero_le _) (by omega) ?_ (fun i _ hi => ?_)
  · unfold fiP
    rw [hX _ h, decide_eq_true h3, h4]; rfl
  · have hi0 : i < fN (fiP c X0 q l) 0 n0 := by rw [← h2]; exact hi
    have := (fN_le (fiP c X0 q l) n0 0).2.2.2 i (Nat.zero_le _) hi0
    unfold fiP at this ⊢
    rw [hX i (by omega)]
    exact this
theorem fix_V {c X X0 : Nat → Nat} {e nL n0 st st0 : Nat} {ts ts0 ad ad0 : Int32} {W0 : Nat → Int32} {B : St} {P : Nat → Tp} {m : Nat} (hl : lsF (loV c X0 e n0) P m = false) (hE : tbE X0 W0 n0 X nL B) (hc : ∀ i : Nat, i < m → 1 ≤ (P i).1 ∧ (P i).1 ≤ 20 ∧ ¬ (P i).1 = 15) : rnF (VV c X e nL st ts ad (sR B 7)) P m = rnF (VV c X0 e n0 st0 ts0 ad0 W0) P m := by
  obtain ⟨E1, E2, E3⟩ := hE
  refine rn_v m (fun i hi h16 => ?_)
  have hh := (lsF_0 m).mp hl i hi h16
  have cp := hc i hi
  generalize P i = o at hh cp h16
  obtain ⟨κ, q, v⟩ := o
  have h16 : 16 ≤ κ := h16
  have cp : 1 ≤ κ ∧ κ ≤ 20 ∧ ¬ κ = 15 := cp
  rcases (show κ = 16 ∨ κ = 17 ∨ κ = 18 ∨ κ = 19 ∨ κ = 20 by omega) with z | z | z | z | z
  · subst z; rfl
  · subst z
    have hh : (!(decide (nmK c X0 n0 q (eT c e q - q) < n0) && decide (X0 (nmK c X0 n0 q (eT c e q - q)) / 131072 = 2))) = false := hh
    rw [Bool.not_eq_false', Bool.and_eq_true] at hh
    have y := of_decide_eq_true hh.1
    have w := of_decide_eq_true hh.2
    have g := nmK_g (c := c) (q := q) (l := eT c e q - q) E1 E2 y
    show (if nmK c X nL q (eT c e q - q) < nL then (vlO ts X (sR B 7) (nmK c X nL q (eT c e q - q)), false) else ((0 : Int32), true)) = (if nmK c X0 n0 q (eT c e q - q) < n0 then (vlO ts0 X0 W0 (nmK c X0 n0 q (eT c e q - q)), false) else ((0 : Int32), true))
    rw [g, if_pos (show nmK c X0 n0 q (eT c e q - q) < nL by omega), if_pos y]
    unfold vlO
    rw [E2 _ y, if_neg (show ¬ (X0 (nmK c X0 n0 q (eT c e q - q)) / 131072 = 1 ∨ X0 (nmK c X0 n0 q (eT c e q - q)) / 131072 = 4) by omega), if_neg (show ¬ (X0 (nmK c X0 n0 q (eT c e q - q)) / 131072 = 1 ∨ X0 (nmK c X0 n0 q (eT c e q - q)) / 131072 = 4) by omega), E3 _ y w]
  all_goals (subst z; exact absurd hh (by decide : ¬ true = false))
