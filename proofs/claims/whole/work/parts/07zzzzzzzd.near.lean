/-- the reference's near(): 1 + the entry that a near label means, or 0 -/
def nrP (c X : Nat → Nat) (st d : Nat) (fw : Bool) (k : Nat) : Bool := decide (3 ≤ X k / 131072) && (decide (c (X k % 131072) = 48 + d) && decide (fw = decide (st < X k % 131072)))
def frF (fw : Bool) (P : Nat → Bool) : Nat → Nat
  | 0 => 0
  | k + 1 => if P k = true ∧ ¬ (fw = true ∧ 0 < frF fw P k) then k + 1 else frF fw P k
theorem fr_l (fw : Bool) (P : Nat → Bool) : ∀ k : Nat, frF fw P k ≤ k := fun k => by
  induction k with
  | zero => exact Nat.le_refl 0
  | succ k ih =>
    show (if P k = true ∧ ¬ (fw = true ∧ 0 < frF fw P k) then k + 1 else frF fw P k) ≤ k + 1
    split <;> omega
theorem fm_0 {f : Nat} (h : f < 2 ^ 30) : (nI f - 1 < (0 : Int32) ↔ f = 0) ∧ ((0 : Int32) ≤ nI f - 1 ↔ 0 < f) := by
  have e : (nI f - 1 : Int32).toInt = (f : Int) - 1 := by rw [show (1 : Int32) = nI 1 from rfl, pk_sub_toInt h (by omega)]; rfl
  have z : (0 : Int32).toInt = 0 := rfl
  rw [Int32.lt_iff_toInt_lt, Int32.le_iff_toInt_le, e, z]
  omega
theorem ne_t {n L e : Nat} {c : Nat → Nat} {BC : St} {B : St} {ft : Int32} {ms dv ls : Bool} {sg vl : Nat} {PL : Nat → Int32} {ap tk fr to : Nat} {nm : Int32} (hT : atx n L e c BC B) (nL : Nat) (X : Nat → Nat) (hL : nL ≤ 16500) (h3 : sI B 3 = nI nL) (hX : ∀ k : Nat, k < nL → sR B 6 k = nI (X k) ∧ X k < 2 ^ 20) (hD : ∀ k : Nat, k < nL → 3 ≤ X k / 131072 → X k % 131072 < L ∧ 48 ≤ c (X k % 131072)) (d st : Nat) (fw : Bool) (hd : d ≤ 9) (hst : st < 2 ^ 20) (k g : Nat) (hk : k < nL) : df_X13_near_20 n (g + 1) (nI d) (bI fw) (nI st) (nI (frF fw (nrP c X st d fw) k) - 1) (nI k) (uR (xR B ft ms dv ls sg vl PL) ap tk fr to nm) = df_X13_near_20 n g (nI d) (bI fw) (nI st) (nI (frF fw (nrP c X st d fw) (k + 1)) - 1) (nI (k + 1)) (uR (xR B ft ms dv ls sg vl PL) ap tk fr to nm) := by
  obtain ⟨hn, hLL, heL, h127, hend, hce, hO, h1, htC, h0, htR, hch⟩ := id hT
  obtain ⟨x1, x2⟩ := hX k hk
  have s1 : (nI (X k) : Int32) >>> ((17 : Int32) &&& 31) = nI (X k / 131072) := pk_shrN (by omega) _ 17 (by decide)
  have s2 : nI (X k) &&& 131071 = nI (X k % 131072) := pk_andN (by omega) 17 (by decide)
  have fl := fr_l fw (nrP c X st d fw) k
  have f0 := fm_0 (f := frF fw (nrP c X st d fw) k) (by omega)
  have go : ∀ x4 : Int32, df_X13_near_101 n (df_X13_near_20 n g) (nI d) (bI fw) (nI st) x4 (nI k) (uR (xR B ft ms dv ls sg vl PL) ap tk fr to nm) = df_X13_near_20 n g (nI d) (bI fw) (nI st) x4 (nI (k + 1)) (uR (xR B ft ms dv ls sg vl PL) ap tk fr to nm) := fun x4 => by
    unfold df_X13_near_101
    rw [nb_let, show nI k + Int32.ofInt 1 = nI (k + 1) from nI_add k 1]
  have sk : nrP c X st d fw k = false → frF fw (nrP c X st d fw) (k + 1) = frF fw (nrP c X st d fw) k := fun z => if_neg (fun w => by rw [z] at w; exact absurd w.1 (by decide))
  show dF_X13_near_20 n (df_X13_near_20 n g) (nI d) (bI fw) (nI st) (nI (frF fw (nrP c X st d fw) k) - 1) (nI k) (uR (xR B ft ms dv ls sg vl PL) ap tk fr to nm) = _
  unfold dF_X13_near_20
  rw [xR_u3, h3, if_neg (znle hk (by omega)), nm_ck (by omega) (by omega), nI_clamp (by omega), uR_r, xR_r6, x1, s2, nb_let, nm_ck (by omega) (by omega), s1]
  by_cases y : X k / 131072 < 3
  · rw [if_pos (show nI (X k / 131072) < (3 : Int32) from zlt (b := 3) y (by omega)), go, sk (by unfold nrP; rw [decide_eq_false (by omega), Bool.false_and])]
  rw [if_neg (show ¬ nI (X k / 131072) < (3 : Int32) from znl (b := 3) (by omega) (by omega))]
  obtain ⟨d1, d2⟩ := hD k hk (by omega)
  have c1 := h127 (X k % 131072)
  rw [nm_ck (by omega) (by omega), nI_clamp (by omega), uR_r, xR_r2, htR _ d1, show nI (c (X k % 131072)) - (48 : Int32) = nI (c (X k % 131072) - 48) from pk_sub (b := 48) d2]
  by_cases z : c (X k % 131072) = 48 + d
  · rw [if_pos (show nI (c (X k % 131072) - 48) = nI d from congrArg nI (by omega))]
    have ee : nrP c X st d fw k = decide (fw = decide (st < X k % 131072)) := by unfold nrP; rw [decide_eq_true (show 3 ≤ X k / 131072 by omega), decide_eq_true z, Bool.true_and, Bool.true_and]
    have key : ∀ b : Bool, b = decide (st < X k % 131072) → df_X13_near_82 n (df_X13_near_20 n g) (nI d) (bI fw) (nI st) (nI (frF fw (nrP c X st d fw) k) - 1) (nI k) (bI fw) (bI b) (uR (xR B ft ms dv ls sg vl PL) ap tk fr to nm) = df_X13_near_20 n g (nI d) (bI fw) (nI st) (nI (frF fw (nrP c X st d fw) (k + 1)) - 1) (nI (k + 1)) (uR (xR B ft ms dv ls sg vl PL) ap tk fr to nm) := fun b hb => by
      unfold df_X13_near_82 df_X13_near_97
      rw [go, go]
      rw [← hb] at ee
      by_cases q : fw = b
      · have ey : nrP c X st d fw k = true := by rw [ee]; exact decide_eq_true q
        rw [if_pos (congrArg bI q)]
        have hit : ¬ (fw = true ∧ 0 < frF fw (nrP c X st d fw) k) → frF fw (nrP c X st d fw) (k + 1) = k + 1 := fun w => if_pos ⟨ey, w⟩
        have k1 : nI (k + 1) - (1 : Int32) = nI k := pk_sub (b := 1) (by omega)
        by_cases u : fw = true
        · rw [if_neg (show ¬ bI fw = 0 by rw [u]; decide)]
          by_cases w : frF fw (nrP c X st d fw) k = 0
          · rw [if_pos (f0.1.mpr w), hit (by omega), k1]
          · rw [if_neg (fun v => w (f0.1.mp v)), show frF fw (nrP c X st d fw) (k + 1) = frF fw (nrP c X st d fw) k from if_neg (fun v => v.2 ⟨u, by omega⟩)]
        · rw [if_pos (show bI fw = 0 by rw [show fw = false by cases fw; rfl; exact absurd rfl u]; rfl), hit (fun v => u v.1), k1]
      · have en : nrP c X st d fw k = false := by rw [ee]; exact decide_eq_false q
        rw [if_neg (show ¬ bI fw = bI b from fun v => q (by revert v; cases fw <;> cases b <;> decide)), sk en]
    by_cases w : st < X k % 131072
    · rw [if_neg (znle w (by omega))]
      exact key true (decide_eq_true w).symm
    · rw [if_pos (zle (show X k % 131072 ≤ st by omega) (by omega))]
      exact key false (decide_eq_false w).symm
  · rw [if_neg (zne (show ¬ c (X k % 131072) - 48 = d by omega) (by omega) (by omega)), go, sk (by unfold nrP; rw [decide_eq_false z, Bool.false_and, Bool.and_false])]
/-- all of near() -/
theorem nea_R {n L e : Nat} {c : Nat → Nat} {BC : St} {B : St} {ft : Int32} {ms dv ls : Bool} {sg vl : Nat} {PL : Nat → Int32} {ap tk fr to : Nat} {nm : Int32} (hT : atx n L e c BC B) (nL : Nat) (X : Nat → Nat) (hL : nL ≤ 16500) (h3 : sI B 3 = nI nL) (hX : ∀ k : Nat, k < nL → sR B 6 k = nI (X k) ∧ X k < 2 ^ 20) (hD : ∀ k : Nat, k < nL → 3 ≤ X k / 131072 → X k % 131072 < L ∧ 48 ≤ c (X k % 131072)) (d st cu Y : Nat) (fw : Bool) (hd : d ≤ 9) (h16 : sI B 16 = nI cu) (hcu : cu < 11000) (hY : sR B 3 cu = nI Y) (hY2 : Y < 2 ^ 31) (hst : st = Y % 131072) : df_X13_near n (nI d) (bI fw) (uR (xR B ft ms dv ls sg vl PL) ap tk fr to nm) = some (if 0 < frF fw (nrP c X st d fw) nL then vlO (sI B 4) X (sR B 7) (frF fw (nrP c X st d fw) nL - 1) else 0, (uR (xR B ft (ms || decide (frF fw (nrP c X st d fw) nL = 0)) dv ls sg vl PL) ap tk fr to nm)) := by
  have hn := hT.1
  have lp : ∀ j k g : Nat, k + j = nL → j < g → ∃ g' : Nat, df_X13_near_20 n g (nI d) (bI fw) (nI st) (nI (frF fw (nrP c X st d fw) k) - 1) (nI k) (uR (xR B ft ms dv ls sg vl PL) ap tk fr to nm) = df_X13_near_20 n (g' + 1) (nI d) (bI fw) (nI st) (nI (frF fw (nrP c X st d fw) nL) - 1) (nI nL) (uR (xR B ft ms dv ls sg vl PL) ap tk fr to nm) := fun j => by
    induction j with
    | zero =>
      intro k g e1 e2
      have e : k = nL := by omega
      subst e
      exact ⟨g - 1, by rw [show g - 1 + 1 = g by omega]⟩
    | succ j ih =>
      intro k g e1 e2
      obtain ⟨g, rfl⟩ : ∃ i : Nat, g = i + 1 := ⟨g - 1, by omega⟩
      rw [ne_t hT nL X hL h3 hX hD d st fw hd (by omega) k g (by omega)]
      exact ih (k + 1) g (by omega) (by omega)
  obtain ⟨g', lg⟩ := lp nL 0 n (by omega) (by omega)
  have fl := fr_l fw (nrP c X st d fw) nL
  have f0 := fm_0 (f := frF fw (nrP c X st d fw) nL) (by omega)
  have hd0 : df_X13_near n (nI d) (bI fw) (uR (xR B ft ms dv ls sg vl PL) ap tk fr to nm) = df_X13_near_20 n n (nI d) (bI fw) (nI st) (nI (frF fw (nrP c X st d fw) 0) - 1) (nI 0) (uR (xR B ft ms dv ls sg vl PL) ap tk fr to nm) := by
    unfold df_X13_near df_X13_near_0
    rw [xR_u16, h16, nm_ck hcu (by omega), nI_clamp (by omega), uR_r, xR_r3, hY, show nI Y &&& 131071 = nI (Y % 131072) from pk_andN (by omega) 17 (by decide), nb_let, ← hst]
    rfl
  rw [hd0, lg]
  generalize frF fw (nrP c X st d fw) nL = f at fl f0
  have fin : ∀ b : Bool, df_X13_near_125 n (nI f - 1) (bI b) (uR (xR B ft ms dv ls sg vl PL) ap tk fr to nm) = some (if 0 < f then vlO (sI B 4) X (sR B 7) (f - 1) else 0, (uR (xR B ft b dv ls sg vl PL) ap tk fr to nm)) := fun b => by
    have z1 : ∀ x : Option (Int32 × St), nd_f .boolean (bI b) (nd_z .boolean (bI b) x) = x := fun x => by
      have z2 : nd_z .boolean (bI b) x = x := by cases b <;> exact nar_z (by decide)
      rw [z2]
      cases b <;> rfl
    unfold df_X13_near_125 df_X13_near_143
    rw [xR_w21, nb_let, z1]
    by_cases y : 0 < f
    · have vo := vo_1 (n := n) (S := (uR (xR B ft b dv ls sg vl PL) ap tk fr to nm)) (f - 1) nL X (by omega) hL (hX _ (by omega))
      rw [if_pos (f0.2.mpr y), if_pos y, show nI f - (1 : Int32) = nI (f - 1) from pk_sub (b := 1) y, vo, nb_b2]
      rfl
    · rw [if_neg (fun v => y (f0.2.mp v)), if_neg y]
  show dF_X13_near_20 n (df_X13_near_20 n g') (nI d) (bI fw) (nI st) (nI f - 1) (nI nL) (uR (xR B ft ms dv ls sg vl PL) ap tk fr to nm) = _
  unfold dF_X13_near_20 df_X13_near_120
  rw [xR_u3, h3, if_pos (zle (Nat.le_refl nL) (by omega)), xR_u21]
  cases ms with
  | true => rw [if_neg (show ¬ bI true = 0 by decide), show df_X13_near_125 n (nI f - 1) 1 (uR (xR B ft true dv ls sg vl PL) ap tk fr to nm) = _ from fin true, Bool.true_or]
  | false =>
    rw [if_pos (show bI false = 0 from rfl)]
    by_cases y : 0 < f
    · rw [if_pos (f0.2.mpr y), show df_X13_near_125 n (nI f - 1) 0 (uR (xR B ft false dv ls sg vl PL) ap tk fr to nm) = _ from fin false, decide_eq_false (show ¬ f = 0 by omega)]
      rfl
    · rw [if_neg (fun v => y (f0.2.mp v)), show df_X13_near_125 n (nI f - 1) 1 (uR (xR B ft false dv ls sg vl PL) ap tk fr to nm) = _ from fin true, decide_eq_true (show f = 0 by omega)]
      rfl
