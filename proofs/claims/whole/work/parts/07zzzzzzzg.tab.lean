/-- tables that grow: one entry more in the reference's, a name that gets its meaning in the class's -/
theorem fN_a (P : Nat → Bool) (n : Nat) : fN P 0 (n + 1) = if fN P 0 n < n then fN P 0 n else if P n = true then n else n + 1 := by
  obtain ⟨f1, f2, f3, f4⟩ := fN_le P n 0
  by_cases y : fN P 0 n < n
  · rw [if_pos y]
    exact fN_is (Nat.zero_le _) (by omega) (f3 (by omega)) (fun i h1 h2 => f4 i h1 h2)
  · rw [if_neg y]
    have e : fN P 0 n = n := by omega
    by_cases z : P n = true
    · rw [if_pos z]
      exact fN_is (Nat.zero_le _) (by omega) z (fun i h1 h2 => f4 i h1 (by omega))
    · rw [if_neg z]
      refine (fN_no (fun i h1 h2 => ?_)).trans (Nat.zero_add _)
      by_cases w : i = n
      · rw [w]
        cases hh : P n with
        | false => rfl
        | true => exact absurd hh z
      · exact f4 i h1 (by omega)
theorem nk_a {c X Y : Nat → Nat} {nL b l : Nat} (h : ∀ k : Nat, k < nL → Y k = X k) : nmK c Y (nL + 1) b l = if reS l (c b) (c (b + 1)) (c (b + 2)) (c (b + 3)) < 32 then nL + 1 else if nmK c X nL b l < nL then nmK c X nL b l else if fiP c Y b l nL = true then nL else nL + 1 := by
  unfold nmK
  by_cases y : reS l (c b) (c (b + 1)) (c (b + 2)) (c (b + 3)) < 32
  · rw [if_pos y, if_pos y]
  · rw [if_neg y, if_neg y, if_neg y, fN_a, fN_c (P := fiP c Y b l) (Q := fiP c X b l) nL 0 (fun i h1 h2 => by
      unfold fiP
      rw [h i (by omega)])]
theorem lam_c {X Y : Nat → Nat} : ∀ k : Nat, (∀ i : Nat, i < k → Y i = X i) → lam Y k = lam X k := fun k => by
  induction k with
  | zero => intro _; rfl
  | succ k ih =>
    intro h
    show lam Y k + (if Y k / 131072 = 2 then 0 else 1) = lam X k + (if X k / 131072 = 2 then 0 else 1)
    rw [ih (fun i hi => h i (by omega)), h k (by omega)]
theorem fr_c {fw : Bool} {P Q : Nat → Bool} : ∀ k : Nat, (∀ i : Nat, i < k → P i = Q i) → frF fw P k = frF fw Q k := fun k => by
  induction k with
  | zero => intro _; rfl
  | succ k ih =>
    intro h
    show (if P k = true ∧ ¬ (fw = true ∧ 0 < frF fw P k) then k + 1 else frF fw P k) = (if Q k = true ∧ ¬ (fw = true ∧ 0 < frF fw Q k) then k + 1 else frF fw Q k)
    rw [ih (fun i hi => h i (by omega)), h k (by omega)]
/-- the class: a name gets its meaning, has one -/
theorem de_9 {n : Nat} {B : St} {cs tp st ns : Nat} {fx : Bool} {C A S NM BK : Nat → Int32} {ap kd fr : Nat} {nm : Int32} (id : Nat) (v w : Int32) (h : id < 16384) : df_X9_define n (nI id) v w (uC (xC B cs tp st ns fx C A S NM BK) ap kd fr nm) = some (uC (xC B cs tp st ns fx C A S (upd (upd NM (5 * id + 2) v) (5 * id + 3) w) BK) ap kd fr nm) := by
  unfold df_X9_define df_X9_define_0
  rw [show nI id * (5 : Int32) = nI (5 * id) from (pk_mul id 5).trans (congrArg nI (Nat.mul_comm id 5)), show nI (5 * id) + (2 : Int32) = nI (5 * id + 2) from nI_add (5 * id) 2, show nI (5 * id) + (3 : Int32) = nI (5 * id + 3) from nI_add (5 * id) 3, nm_ck (by omega) (by omega), nI_clamp (by omega), uC_r, xC_r3, xC_y3, nb_let, nm_ck (by omega) (by omega), nI_clamp (by omega), uC_r, xC_r3, xC_y3, nb_let]
theorem df_9 {n : Nat} {B : St} {cs tp st ns : Nat} {fx : Bool} {C A S NM BK : Nat → Int32} {ap kd fr : Nat} {nm : Int32} (id : Nat) (h : id < 16384) : df_X9_isDefined n (nI id) (uC (xC B cs tp st ns fx C A S NM BK) ap kd fr nm) = some (bI (!decide (NM (5 * id + 2) = 0)), uC (xC B cs tp st ns fx C A S NM BK) ap kd fr nm) := by
  have z1 : ∀ (b : Bool) (x : Option (Int32 × St)), nd_z .boolean (bI b) x = x := fun b x => by cases b <;> exact nar_z (by decide)
  unfold df_X9_isDefined df_X9_isDefined_0 df_X9_isDefined_18
  rw [show nI id * (5 : Int32) = nI (5 * id) from (pk_mul id 5).trans (congrArg nI (Nat.mul_comm id 5)), show nI (5 * id) + (2 : Int32) = nI (5 * id + 2) from nI_add (5 * id) 2, nm_ck (by omega) (by omega), nI_clamp (by omega), uC_r, xC_r3]
  by_cases y : NM (5 * id + 2) = 0
  · rw [if_pos y, decide_eq_true y]
    exact z1 false _
  · rw [if_neg y, decide_eq_false y]
    exact z1 true _
/-- a meaning leaves the table of names as it is -/
theorem HT_d {L : Nat} {c : Nat → Nat} {ns : Nat} {NM BK : Nat → Int32} {bs ws : Nat → Nat} (h : HT L c ns NM BK bs ws) (id : Nat) (v w : Int32) : HT L c ns (upd (upd NM (5 * id + 2) v) (5 * id + 3) w) BK bs ws := by
  obtain ⟨h1, h2, h3, h4⟩ := h
  refine ⟨h1, fun i hi => ?_, h3, h4⟩
  rw [up_n (show ¬ 5 * i = 5 * id + 3 by omega), up_n (show ¬ 5 * i = 5 * id + 2 by omega), up_n (show ¬ 5 * i + 1 = 5 * id + 3 by omega), up_n (show ¬ 5 * i + 1 = 5 * id + 2 by omega), up_n (show ¬ 5 * i + 4 = 5 * id + 3 by omega), up_n (show ¬ 5 * i + 4 = 5 * id + 2 by omega)]
  exact h2 i hi
