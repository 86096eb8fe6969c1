/-- the reference: a sign that must be there, a register -/
theorem need_R {n : Nat} {B : St} {ft : Int32} {ms dv ls : Bool} {sg vl : Nat} {PL : Nat → Int32} {ap tk fr to : Nat} {nm : Int32} (v : Nat) (hv : v < 300) {p2 τ q : Nat} {x : Int32} (hτ : τ < 300) (T : df_X13_scan n (uR (xR B ft ms dv ls sg vl PL) ap tk fr to nm) = some (uR (xR B ft ms dv ls sg vl PL) p2 τ q p2 x)) : df_X13_needs n (nI v) (uR (xR B ft ms dv ls sg vl PL) ap tk fr to nm) = some (bI (decide (τ = v)), (uR (xR B (if τ = v then ft else (if ft = 0 then 1 + 16 * sI B 13 else ft)) ms dv ls sg vl PL) p2 τ q p2 x)) := by
  have z1 : ∀ (b : Bool) (x : Option (Int32 × St)), nd_z .boolean (bI b) x = x := fun b x => by cases b <;> exact nar_z (by decide)
  unfold df_X13_needs df_X13_needs_0 df_X13_needs_17 df_X13_needs_30
  rw [T, nb_b1, uR_i8]
  by_cases y : τ = v
  · rw [if_pos (congrArg nI y), if_pos (congrArg nI y), decide_eq_true y, if_pos y, show (1 : Int32) = bI true from rfl, z1]
  · rw [if_neg (zne y (by omega) (by omega)), rbl_1, nb_b1, uR_i8, if_neg (zne y (by omega) (by omega)), decide_eq_false y, if_neg y]
    exact z1 false _
/-- what taken() makes of a token: a register below 32, 33 for nothing that can be there, 32 for no register -/
def tkG (c : Nat → Nat) (τ q p2 : Nat) : Nat := if τ = 0 ∨ τ = 5 then 33 else if τ = 1 then reS (p2 - q) (c q) (c (q + 1)) (c (q + 2)) (c (q + 3)) else 32
theorem ite_l {p : Prop} [Decidable p] {x y : Nat} (hx : x ≤ 32) (hy : y ≤ 32) : (if p then x else y) ≤ 32 := by
  by_cases h : p
  · rw [if_pos h]; exact hx
  · rw [if_neg h]; exact hy
theorem reK_l (a m : Nat) : reK a m ≤ 32 := by
  unfold reK
  refine ite_l ?_ (ite_l ?_ (ite_l ?_ (ite_l ?_ (Nat.le_refl 32))))
  · split <;> omega
  · split <;> omega
  · split
    · omega
    · split <;> omega
  · split
    · omega
    · split <;> omega
theorem reS_l (l a b d e : Nat) : reS l a b d e ≤ 32 := by
  unfold reS
  exact ite_l (by omega) (ite_l (by omega) (ite_l (by omega) (ite_l (by omega) (ite_l (by omega) (ite_l (by omega) (ite_l (by omega) (ite_l (by omega) (reK_l _ _))))))))
theorem take_R {n L e : Nat} {c : Nat → Nat} {BC B : St} (hT : atx n L e c BC B) {ft : Int32} {ms dv ls : Bool} {sg vl : Nat} {PL : Nat → Int32} {ap tk fr to : Nat} {nm : Int32} {p2 τ q : Nat} {x : Int32} (hτ : τ < 300) (hw : τ = 1 → q ≤ p2 ∧ p2 ≤ e ∧ ∀ i : Nat, q ≤ i → i < p2 → aP (c i) = true) (T : df_X13_scan n (uR (xR B ft ms dv ls sg vl PL) ap tk fr to nm) = some (uR (xR B ft ms dv ls sg vl PL) p2 τ q p2 x)) : df_X13_taken n (uR (xR B ft ms dv ls sg vl PL) ap tk fr to nm) = some (if tkG c τ q p2 < 32 then nI (tkG c τ q p2) else 0, (uR (xR B (if tkG c τ q p2 < 32 then ft else if tkG c τ q p2 = 33 then (if ft = 0 then 1 + 16 * sI B 13 else ft) else (if ft = 0 then 3 + 16 * sI B 13 else ft)) ms dv ls sg vl PL) p2 τ q p2 x)) := by
  obtain ⟨hn, hL, heL, h127, hend, hce, hO, h1, htC, h0, htR, hch⟩ := id hT
  unfold df_X13_taken df_X13_taken_0
  rw [T, nb_b1, uR_i8]
  have t61 : ∀ (s : St), df_X13_taken_61 n (-1) s = some (0, s) := fun s => by
    unfold df_X13_taken_61 df_X13_taken_70
    rw [if_neg (show ¬ (0 : Int32) ≤ -1 by decide)]
  by_cases y : τ = 1
  · obtain ⟨w1, w2, w3⟩ := hw y
    have re := re_1 n (S := (uR (xR B ft ms dv ls sg vl PL) p2 τ q p2 x)) (c := c) q (p2 - q) (by omega) h127 (by omega) (fun i hi => ⟨w3 _ (by omega) (by omega), htR _ (by omega)⟩)
    rw [show q + (p2 - q) = p2 by omega] at re
    have g : tkG c τ q p2 = reS (p2 - q) (c q) (c (q + 1)) (c (q + 2)) (c (q + 3)) := by unfold tkG; rw [if_neg (by omega), if_pos y]
    rw [if_pos (show nI τ = (1 : Int32) from congrArg nI y), uR_i9, uR_i10, re, nb_b2, g]
    have rl := reS_l (p2 - q) (c q) (c (q + 1)) (c (q + 2)) (c (q + 3))
    generalize reS (p2 - q) (c q) (c (q + 1)) (c (q + 2)) (c (q + 3)) = r at rl
    unfold df_X13_taken_28
    rw [uR_i8, if_neg (show ¬ nI τ = (0 : Int32) from zne (b := 0) (by omega) (by omega) (by omega)), if_neg (show ¬ nI τ = (5 : Int32) from zne (b := 5) (by omega) (by omega) (by omega))]
    by_cases z : r < 32
    · have zr : (0 : Int32) ≤ nI r := zle (a := 0) (Nat.zero_le r) (by omega)
      rw [show rI r = nI r from if_pos z, if_pos zr, if_pos z, if_pos z]
      unfold df_X13_taken_61 df_X13_taken_70
      rw [if_pos zr]
    · rw [show rI r = -1 from if_neg z, if_neg (show ¬ (0 : Int32) ≤ -1 by decide), rbl_1, nb_b1, t61, if_neg z, if_neg z, if_neg (show ¬ r = 33 by omega)]
  · rw [if_neg (show ¬ nI τ = (1 : Int32) from zne (b := 1) y (by omega) (by omega))]
    unfold df_X13_taken_28 df_X13_taken_44
    rw [uR_i8]
    by_cases z : τ = 0 ∨ τ = 5
    · have g : tkG c τ q p2 = 33 := by unfold tkG; rw [if_pos z]
      rw [g, if_neg (show ¬ 33 < 32 by omega), if_neg (show ¬ 33 < 32 by omega), if_pos (show 33 = 33 from rfl), rbl_1, nb_b1, t61]
      rcases z with z | z
      · rw [if_pos (show nI τ = (0 : Int32) from congrArg nI z)]
      · rw [if_neg (show ¬ nI τ = (0 : Int32) from zne (b := 0) (by omega) (by omega) (by omega)), if_pos (show nI τ = (5 : Int32) from congrArg nI z)]
    · have g : tkG c τ q p2 = 32 := by unfold tkG; rw [if_neg z, if_neg y]
      rw [g, if_neg (show ¬ 32 < 32 by omega), if_neg (show ¬ 32 < 32 by omega), if_neg (show ¬ 32 = 33 by omega), if_neg (show ¬ nI τ = (0 : Int32) from zne (b := 0) (by omega) (by omega) (by omega)), if_neg (show ¬ nI τ = (5 : Int32) from zne (b := 5) (by omega) (by omega) (by omega)), if_neg (show ¬ (0 : Int32) ≤ -1 by decide), rbl_1, nb_b1, t61]
