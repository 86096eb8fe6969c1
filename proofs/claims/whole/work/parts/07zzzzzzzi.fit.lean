theorem nm_rem16 {A k : Nat} (hA : A < 2 ^ 32) (hk : k = 16) : (nI A - nI A / nI k * nI k = nI 0) ↔ A % k = 0 := by
  have k0 : 0 < k := by omega
  have dm : A / k * k = A - A % k := by
    have := Nat.div_add_mod A k
    rw [Nat.mul_comm] at this
    omega
  by_cases c : A < 2 ^ 31
  · have lm := Nat.mod_lt A k0
    have le := Nat.mod_le A k
    rw [nm_div c k0 (by omega), pk_mul, pk_sub (by omega), dm, nI_eq (by omega) (by omega)]
    omega
  · have hab : A + (4294967296 - A) = 4294967296 := by omega
    generalize hB : 4294967296 - A = B at hab
    have hB0 : 0 < B := by omega
    have dB : B / k * k = B - B % k := by
      have := Nat.div_add_mod B k
      rw [Nat.mul_comm] at this
      omega
    have lB := Nat.div_le_self B k
    have q : nI A / nI k = -nI (B / k) := by
      apply Int32.toInt_inj.mp
      rw [Int32.toInt_div, nI_t hA, if_neg c, nI_t (show k < 2 ^ 32 by omega), if_pos (by omega), show (A : Int) - 2 ^ 32 = -(B : Int) from by omega, Int.neg_tdiv, ← Int.ofNat_tdiv, Int32.toInt_neg, nI_t (show B / k < 2 ^ 32 by omega)]
      by_cases e : B / k < 2 ^ 31
      · rw [if_pos e]
      · rw [if_neg e, show B / k = 2147483648 from by omega]
        decide
    rw [q, nI_ng hab hB0, Int32.neg_mul, pk_mul, dB]
    have lm := Nat.mod_lt B k0
    have le := Nat.mod_le B k
    have e : -nI B - -nI (B - B % k) = -nI (B % k) := by
      rw [Int32.sub_neg, Int32.add_comm, ← Int32.sub_eq_add_neg, ← Int32.neg_sub, pk_sub (by omega), show B - (B - B % k) = B % k from by omega]
    rw [e]
    have mm : B % k = 0 ↔ A % k = 0 := by
      subst hk; omega
    constructor
    · intro z
      have z : nI (B % k) = nI 0 := by
        have := congrArg (fun x => -x) z
        rw [Int32.neg_neg] at this
        exact this
      exact mm.mp (nm_inI (by omega) (by omega) z)
    · intro z
      rw [mm.mpr z]
      decide
/-- what an operand may be -/
def fzO (lo hi : Int32) (k : Nat) (v : Int32) : Bool := !decide (v < lo) && (!decide (hi < v) && decide (v &&& nI (k - 1) = 0))
theorem rmd_1 (v : Int32) {k : Nat} (hk : k = 1 ∨ k = 2 ∨ k = 4 ∨ k = 16) : (v - v / nI k * nI k = 0) ↔ v &&& nI (k - 1) = 0 := by
  obtain ⟨A, hA, e⟩ := nI_ex v
  subst e
  have q : (nI A - nI A / nI k * nI k = nI 0) ↔ A % k = 0 := by
    by_cases y : k = 16
    · exact nm_rem16 hA y
    · exact nm_rem hA (by omega)
  have r : nI A &&& nI (k - 1) = nI (A % k) := by
    rcases hk with z | z | z | z <;> subst z
    · exact pk_andN hA 0 (by decide)
    · exact pk_andN hA 1 (by decide)
    · exact pk_andN hA 2 (by decide)
    · exact pk_andN hA 4 (by decide)
  rw [r]
  refine q.trans ?_
  show _ ↔ nI (A % k) = nI 0
  have lt : A % k < 16 := by rcases hk with z | z | z | z <;> subst z <;> omega
  rw [nI_eq (by omega) (by omega)]
theorem fit_R {n : Nat} {B : St} {ft : Int32} {ms dv ls : Bool} {sg vl : Nat} {PL : Nat → Int32} {ap tk fr to : Nat} {nm : Int32} (v lo hi : Int32) {k : Nat} (hk : k = 1 ∨ k = 2 ∨ k = 4 ∨ k = 16) : df_X13_fits n v lo hi (nI k) (uR (xR B ft ms dv ls sg vl PL) ap tk fr to nm) = some (uR (xR B (if sI B 15 = 2 ∧ fzO lo hi k v = false then (if ft = 0 then 10 + 16 * sI B 13 else ft) else ft) ms dv ls sg vl PL) ap tk fr to nm) := by
  unfold df_X13_fits df_X13_fits_0 df_X13_fits_25 df_X13_fits_31 nd_nz
  have k0 : ¬ (nI k : Int32) = 0 := by rcases hk with z | z | z | z <;> subst z <;> decide
  have rm := rmd_1 v hk
  rw [xR_u15, rbl_1, nb_b1, decide_eq_false k0, if_neg Bool.false_ne_true]
  unfold fzO
  by_cases y : sI B 15 = 2
  · rw [if_pos y]
    by_cases a1 : v < lo
    · rw [if_pos a1, decide_eq_true a1, if_pos (show sI B 15 = 2 ∧ (!true && (!decide (hi < v) && decide (v &&& nI (k - 1) = 0))) = false from ⟨y, rfl⟩)]
    rw [if_neg a1, decide_eq_false a1]
    by_cases a2 : hi < v
    · rw [if_pos a2, decide_eq_true a2, if_pos (show sI B 15 = 2 ∧ (!false && (!true && decide (v &&& nI (k - 1) = 0))) = false from ⟨y, rfl⟩)]
    rw [if_neg a2, decide_eq_false a2]
    by_cases a3 : v &&& nI (k - 1) = 0
    · rw [if_pos (rm.mpr a3), decide_eq_true a3, if_neg (fun z => absurd z.2 (by decide))]
    · rw [if_neg (fun z => a3 (rm.mp z)), decide_eq_false a3, if_pos (show sI B 15 = 2 ∧ (!false && (!false && false)) = false from ⟨y, rfl⟩)]
  · rw [if_neg y, if_neg (fun z => y z.1)]
theorem fit_J (n : Nat) (v : Int32) : df_X7_fits n 74 v () = some (bI (fzO (-1048576) 1048574 2 v), ()) := by
  have z1 : ∀ b : Bool, nd_z .boolean (bI b) (some (bI b, ())) = some (bI b, ()) := fun b => by cases b <;> exact nar_z (by decide)
  unfold df_X7_fits df_X7_fits_0
  rw [if_neg (show ¬ (74 : Int32) = 72 by decide), if_neg (show ¬ (74 : Int32) = 73 by decide), if_pos rfl]
  unfold df_X7_fits_362 df_X7_fits_363 fzO
  by_cases a1 : v < (-1048576)
  · rw [if_pos a1, decide_eq_true a1]
    exact z1 false
  rw [if_neg a1, decide_eq_false a1]
  by_cases a2 : 1048574 < v
  · rw [if_pos a2, decide_eq_true a2]
    exact z1 false
  rw [if_neg a2, decide_eq_false a2]
  by_cases a3 : v &&& 1 = 0
  · rw [if_pos a3, decide_eq_true (show v &&& nI (2 - 1) = 0 from a3)]
    exact z1 true
  · rw [if_neg a3, decide_eq_false (show ¬ v &&& nI (2 - 1) = 0 from a3)]
    exact z1 false
theorem fit_K (n : Nat) (v : Int32) : df_X7_fits n 75 v () = some (bI (fzO (-2048) 2046 2 v), ()) := by
  have z1 : ∀ b : Bool, nd_z .boolean (bI b) (some (bI b, ())) = some (bI b, ()) := fun b => by cases b <;> exact nar_z (by decide)
  unfold df_X7_fits df_X7_fits_0
  rw [if_neg (show ¬ (75 : Int32) = 72 by decide), if_neg (show ¬ (75 : Int32) = 73 by decide), if_neg (show ¬ (75 : Int32) = 74 by decide), if_pos rfl]
  unfold df_X7_fits_388 df_X7_fits_389 fzO
  by_cases a1 : v < (-2048)
  · rw [if_pos a1, decide_eq_true a1]
    exact z1 false
  rw [if_neg a1, decide_eq_false a1]
  by_cases a2 : 2046 < v
  · rw [if_pos a2, decide_eq_true a2]
    exact z1 false
  rw [if_neg a2, decide_eq_false a2]
  by_cases a3 : v &&& 1 = 0
  · rw [if_pos a3, decide_eq_true (show v &&& nI (2 - 1) = 0 from a3)]
    exact z1 true
  · rw [if_neg a3, decide_eq_false (show ¬ v &&& nI (2 - 1) = 0 from a3)]
    exact z1 false
theorem fit_L (n : Nat) (v : Int32) : df_X7_fits n 76 v () = some (bI (fzO (-256) 254 2 v), ()) := by
  have z1 : ∀ b : Bool, nd_z .boolean (bI b) (some (bI b, ())) = some (bI b, ()) := fun b => by cases b <;> exact nar_z (by decide)
  unfold df_X7_fits df_X7_fits_0
  rw [if_neg (show ¬ (76 : Int32) = 72 by decide), if_neg (show ¬ (76 : Int32) = 73 by decide), if_neg (show ¬ (76 : Int32) = 74 by decide), if_neg (show ¬ (76 : Int32) = 75 by decide), if_pos rfl]
  unfold df_X7_fits_414 df_X7_fits_415 fzO
  by_cases a1 : v < (-256)
  · rw [if_pos a1, decide_eq_true a1]
    exact z1 false
  rw [if_neg a1, decide_eq_false a1]
  by_cases a2 : 254 < v
  · rw [if_pos a2, decide_eq_true a2]
    exact z1 false
  rw [if_neg a2, decide_eq_false a2]
  by_cases a3 : v &&& 1 = 0
  · rw [if_pos a3, decide_eq_true (show v &&& nI (2 - 1) = 0 from a3)]
    exact z1 true
  · rw [if_neg a3, decide_eq_false (show ¬ v &&& nI (2 - 1) = 0 from a3)]
    exact z1 false
theorem fit_T (n : Nat) (v : Int32) : df_X7_fits n 84 v () = some (bI (fzO (-4096) 4094 2 v), ()) := by
  have z1 : ∀ b : Bool, nd_z .boolean (bI b) (some (bI b, ())) = some (bI b, ()) := fun b => by cases b <;> exact nar_z (by decide)
  unfold df_X7_fits df_X7_fits_0
  rw [if_neg (show ¬ (84 : Int32) = 72 by decide), if_neg (show ¬ (84 : Int32) = 73 by decide), if_neg (show ¬ (84 : Int32) = 74 by decide), if_neg (show ¬ (84 : Int32) = 75 by decide), if_neg (show ¬ (84 : Int32) = 76 by decide), if_neg (show ¬ (84 : Int32) = 77 by decide), if_neg (show ¬ (84 : Int32) = 78 by decide), if_neg (show ¬ (84 : Int32) = 79 by decide), if_neg (show ¬ (84 : Int32) = 80 by decide), if_neg (show ¬ (84 : Int32) = 81 by decide), if_neg (show ¬ (84 : Int32) = 82 by decide), if_neg (show ¬ (84 : Int32) = 83 by decide), if_pos rfl]
  unfold df_X7_fits_336 df_X7_fits_337 fzO
  by_cases a1 : v < (-4096)
  · rw [if_pos a1, decide_eq_true a1]
    exact z1 false
  rw [if_neg a1, decide_eq_false a1]
  by_cases a2 : 4094 < v
  · rw [if_pos a2, decide_eq_true a2]
    exact z1 false
  rw [if_neg a2, decide_eq_false a2]
  by_cases a3 : v &&& 1 = 0
  · rw [if_pos a3, decide_eq_true (show v &&& nI (2 - 1) = 0 from a3)]
    exact z1 true
  · rw [if_neg a3, decide_eq_false (show ¬ v &&& nI (2 - 1) = 0 from a3)]
    exact z1 false
theorem fit_I (n : Nat) (v : Int32) : df_X7_fits n 73 v () = some (bI (fzO (-2048) 2047 1 v), ()) := by
  have z1 : ∀ b : Bool, nd_z .boolean (bI b) (some (bI b, ())) = some (bI b, ()) := fun b => by cases b <;> exact nar_z (by decide)
  unfold df_X7_fits df_X7_fits_0
  rw [if_neg (show ¬ (73 : Int32) = 72 by decide), if_pos rfl]
  unfold df_X7_fits_259 df_X7_fits_277 df_X7_fits_278 fzO
  by_cases a1 : v < (-2048)
  · rw [if_pos a1, decide_eq_true a1]
    exact z1 false
  rw [if_neg a1, decide_eq_false a1]
  by_cases a2 : 2047 < v
  · rw [if_pos a2, decide_eq_true a2]
    exact z1 false
  rw [if_neg a2, decide_eq_false a2]
  rw [show v &&& nI (1 - 1) = 0 from (rmd_1 v (k := 1) (Or.inl rfl)).mp (by rw [show (nI 1 : Int32) = 1 from rfl, Int32.div_one, Int32.mul_one, Int32.sub_self])]
  exact z1 true
theorem fit_S (n : Nat) (v : Int32) : df_X7_fits n 83 v () = some (bI (fzO (-2048) 2047 1 v), ()) := by
  have z1 : ∀ b : Bool, nd_z .boolean (bI b) (some (bI b, ())) = some (bI b, ()) := fun b => by cases b <;> exact nar_z (by decide)
  unfold df_X7_fits df_X7_fits_0
  rw [if_neg (show ¬ (83 : Int32) = 72 by decide), if_neg (show ¬ (83 : Int32) = 73 by decide), if_neg (show ¬ (83 : Int32) = 74 by decide), if_neg (show ¬ (83 : Int32) = 75 by decide), if_neg (show ¬ (83 : Int32) = 76 by decide), if_neg (show ¬ (83 : Int32) = 77 by decide), if_neg (show ¬ (83 : Int32) = 78 by decide), if_neg (show ¬ (83 : Int32) = 79 by decide), if_neg (show ¬ (83 : Int32) = 80 by decide), if_neg (show ¬ (83 : Int32) = 81 by decide), if_neg (show ¬ (83 : Int32) = 82 by decide), if_pos rfl]
  unfold df_X7_fits_259 df_X7_fits_277 df_X7_fits_278 fzO
  by_cases a1 : v < (-2048)
  · rw [if_pos a1, decide_eq_true a1]
    exact z1 false
  rw [if_neg a1, decide_eq_false a1]
  by_cases a2 : 2047 < v
  · rw [if_pos a2, decide_eq_true a2]
    exact z1 false
  rw [if_neg a2, decide_eq_false a2]
  rw [show v &&& nI (1 - 1) = 0 from (rmd_1 v (k := 1) (Or.inl rfl)).mp (by rw [show (nI 1 : Int32) = 1 from rfl, Int32.div_one, Int32.mul_one, Int32.sub_self])]
  exact z1 true
theorem fit_H (n : Nat) (v : Int32) : df_X7_fits n 72 v () = some (bI (fzO (0) 31 1 v), ()) := by
  have z1 : ∀ b : Bool, nd_z .boolean (bI b) (some (bI b, ())) = some (bI b, ()) := fun b => by cases b <;> exact nar_z (by decide)
  unfold df_X7_fits df_X7_fits_0
  rw [if_pos rfl]
  unfold df_X7_fits_279 df_X7_fits_293 df_X7_fits_294 fzO
  by_cases a1 : v < (0)
  · rw [if_pos a1, decide_eq_true a1]
    exact z1 false
  rw [if_neg a1, decide_eq_false a1]
  by_cases a2 : 31 < v
  · rw [if_pos a2, decide_eq_true a2]
    exact z1 false
  rw [if_neg a2, decide_eq_false a2]
  rw [show v &&& nI (1 - 1) = 0 from (rmd_1 v (k := 1) (Or.inl rfl)).mp (by rw [show (nI 1 : Int32) = 1 from rfl, Int32.div_one, Int32.mul_one, Int32.sub_self])]
  exact z1 true
theorem fit_V (n : Nat) (v : Int32) : df_X7_fits n 86 v () = some (bI (fzO (0) 31 1 v), ()) := by
  have z1 : ∀ b : Bool, nd_z .boolean (bI b) (some (bI b, ())) = some (bI b, ()) := fun b => by cases b <;> exact nar_z (by decide)
  unfold df_X7_fits df_X7_fits_0
  rw [if_neg (show ¬ (86 : Int32) = 72 by decide), if_neg (show ¬ (86 : Int32) = 73 by decide), if_neg (show ¬ (86 : Int32) = 74 by decide), if_neg (show ¬ (86 : Int32) = 75 by decide), if_neg (show ¬ (86 : Int32) = 76 by decide), if_neg (show ¬ (86 : Int32) = 77 by decide), if_neg (show ¬ (86 : Int32) = 78 by decide), if_neg (show ¬ (86 : Int32) = 79 by decide), if_neg (show ¬ (86 : Int32) = 80 by decide), if_neg (show ¬ (86 : Int32) = 81 by decide), if_neg (show ¬ (86 : Int32) = 82 by decide), if_neg (show ¬ (86 : Int32) = 83 by decide), if_neg (show ¬ (86 : Int32) = 84 by decide), if_neg (show ¬ (86 : Int32) = 85 by decide), if_pos rfl]
  unfold df_X7_fits_279 df_X7_fits_293 df_X7_fits_294 fzO
  by_cases a1 : v < (0)
  · rw [if_pos a1, decide_eq_true a1]
    exact z1 false
  rw [if_neg a1, decide_eq_false a1]
  by_cases a2 : 31 < v
  · rw [if_pos a2, decide_eq_true a2]
    exact z1 false
  rw [if_neg a2, decide_eq_false a2]
  rw [show v &&& nI (1 - 1) = 0 from (rmd_1 v (k := 1) (Or.inl rfl)).mp (by rw [show (nI 1 : Int32) = 1 from rfl, Int32.div_one, Int32.mul_one, Int32.sub_self])]
  exact z1 true
theorem fit_U (n : Nat) (v : Int32) : df_X7_fits n 85 v () = some (bI (fzO (0) 1048575 1 v), ()) := by
  have z1 : ∀ b : Bool, nd_z .boolean (bI b) (some (bI b, ())) = some (bI b, ()) := fun b => by cases b <;> exact nar_z (by decide)
  unfold df_X7_fits df_X7_fits_0
  rw [if_neg (show ¬ (85 : Int32) = 72 by decide), if_neg (show ¬ (85 : Int32) = 73 by decide), if_neg (show ¬ (85 : Int32) = 74 by decide), if_neg (show ¬ (85 : Int32) = 75 by decide), if_neg (show ¬ (85 : Int32) = 76 by decide), if_neg (show ¬ (85 : Int32) = 77 by decide), if_neg (show ¬ (85 : Int32) = 78 by decide), if_neg (show ¬ (85 : Int32) = 79 by decide), if_neg (show ¬ (85 : Int32) = 80 by decide), if_neg (show ¬ (85 : Int32) = 81 by decide), if_neg (show ¬ (85 : Int32) = 82 by decide), if_neg (show ¬ (85 : Int32) = 83 by decide), if_neg (show ¬ (85 : Int32) = 84 by decide), if_pos rfl]
  unfold df_X7_fits_310 df_X7_fits_311 fzO
  by_cases a1 : v < (0)
  · rw [if_pos a1, decide_eq_true a1]
    exact z1 false
  rw [if_neg a1, decide_eq_false a1]
  by_cases a2 : 1048575 < v
  · rw [if_pos a2, decide_eq_true a2]
    exact z1 false
  rw [if_neg a2, decide_eq_false a2]
  rw [show v &&& nI (1 - 1) = 0 from (rmd_1 v (k := 1) (Or.inl rfl)).mp (by rw [show (nI 1 : Int32) = 1 from rfl, Int32.div_one, Int32.mul_one, Int32.sub_self])]
  exact z1 true
theorem fit_N (n : Nat) (v : Int32) : df_X7_fits n 78 v () = some (bI (fzO (-32) 31 1 v), ()) := by
  have z1 : ∀ b : Bool, nd_z .boolean (bI b) (some (bI b, ())) = some (bI b, ()) := fun b => by cases b <;> exact nar_z (by decide)
  unfold df_X7_fits df_X7_fits_0
  rw [if_neg (show ¬ (78 : Int32) = 72 by decide), if_neg (show ¬ (78 : Int32) = 73 by decide), if_neg (show ¬ (78 : Int32) = 74 by decide), if_neg (show ¬ (78 : Int32) = 75 by decide), if_neg (show ¬ (78 : Int32) = 76 by decide), if_neg (show ¬ (78 : Int32) = 77 by decide), if_pos rfl]
  unfold df_X7_fits_432 df_X7_fits_433 fzO
  by_cases a1 : v < (-32)
  · rw [if_pos a1, decide_eq_true a1]
    exact z1 false
  rw [if_neg a1, decide_eq_false a1]
  by_cases a2 : 31 < v
  · rw [if_pos a2, decide_eq_true a2]
    exact z1 false
  rw [if_neg a2, decide_eq_false a2]
  rw [show v &&& nI (1 - 1) = 0 from (rmd_1 v (k := 1) (Or.inl rfl)).mp (by rw [show (nI 1 : Int32) = 1 from rfl, Int32.div_one, Int32.mul_one, Int32.sub_self])]
  exact z1 true
theorem fit_P (n : Nat) (v : Int32) : df_X7_fits n 80 v () = some (bI (fzO (0) 252 4 v), ()) := by
  have z1 : ∀ b : Bool, nd_z .boolean (bI b) (some (bI b, ())) = some (bI b, ()) := fun b => by cases b <;> exact nar_z (by decide)
  unfold df_X7_fits df_X7_fits_0
  rw [if_neg (show ¬ (80 : Int32) = 72 by decide), if_neg (show ¬ (80 : Int32) = 73 by decide), if_neg (show ¬ (80 : Int32) = 74 by decide), if_neg (show ¬ (80 : Int32) = 75 by decide), if_neg (show ¬ (80 : Int32) = 76 by decide), if_neg (show ¬ (80 : Int32) = 77 by decide), if_neg (show ¬ (80 : Int32) = 78 by decide), if_neg (show ¬ (80 : Int32) = 79 by decide), if_pos rfl]
  unfold df_X7_fits_533 df_X7_fits_554 df_X7_fits_555 fzO
  by_cases a1 : v < (0)
  · rw [if_pos a1, decide_eq_true a1]
    exact z1 false
  rw [if_neg a1, decide_eq_false a1]
  by_cases a2 : 252 < v
  · rw [if_pos a2, decide_eq_true a2]
    exact z1 false
  rw [if_neg a2, decide_eq_false a2]
  by_cases a3 : v &&& 3 = 0
  · rw [if_pos a3, decide_eq_true (show v &&& nI (4 - 1) = 0 from a3)]
    exact z1 true
  · rw [if_neg a3, decide_eq_false (show ¬ v &&& nI (4 - 1) = 0 from a3)]
    exact z1 false
theorem fit_Q (n : Nat) (v : Int32) : df_X7_fits n 81 v () = some (bI (fzO (0) 252 4 v), ()) := by
  have z1 : ∀ b : Bool, nd_z .boolean (bI b) (some (bI b, ())) = some (bI b, ()) := fun b => by cases b <;> exact nar_z (by decide)
  unfold df_X7_fits df_X7_fits_0
  rw [if_neg (show ¬ (81 : Int32) = 72 by decide), if_neg (show ¬ (81 : Int32) = 73 by decide), if_neg (show ¬ (81 : Int32) = 74 by decide), if_neg (show ¬ (81 : Int32) = 75 by decide), if_neg (show ¬ (81 : Int32) = 76 by decide), if_neg (show ¬ (81 : Int32) = 77 by decide), if_neg (show ¬ (81 : Int32) = 78 by decide), if_neg (show ¬ (81 : Int32) = 79 by decide), if_neg (show ¬ (81 : Int32) = 80 by decide), if_pos rfl]
  unfold df_X7_fits_533 df_X7_fits_554 df_X7_fits_555 fzO
  by_cases a1 : v < (0)
  · rw [if_pos a1, decide_eq_true a1]
    exact z1 false
  rw [if_neg a1, decide_eq_false a1]
  by_cases a2 : 252 < v
  · rw [if_pos a2, decide_eq_true a2]
    exact z1 false
  rw [if_neg a2, decide_eq_false a2]
  by_cases a3 : v &&& 3 = 0
  · rw [if_pos a3, decide_eq_true (show v &&& nI (4 - 1) = 0 from a3)]
    exact z1 true
  · rw [if_neg a3, decide_eq_false (show ¬ v &&& nI (4 - 1) = 0 from a3)]
    exact z1 false
theorem fit_W (n : Nat) (v : Int32) : df_X7_fits n 87 v () = some (bI (fzO (0) 124 4 v), ()) := by
  have z1 : ∀ b : Bool, nd_z .boolean (bI b) (some (bI b, ())) = some (bI b, ()) := fun b => by cases b <;> exact nar_z (by decide)
  unfold df_X7_fits df_X7_fits_0
  rw [if_neg (show ¬ (87 : Int32) = 72 by decide), if_neg (show ¬ (87 : Int32) = 73 by decide), if_neg (show ¬ (87 : Int32) = 74 by decide), if_neg (show ¬ (87 : Int32) = 75 by decide), if_neg (show ¬ (87 : Int32) = 76 by decide), if_neg (show ¬ (87 : Int32) = 77 by decide), if_neg (show ¬ (87 : Int32) = 78 by decide), if_neg (show ¬ (87 : Int32) = 79 by decide), if_neg (show ¬ (87 : Int32) = 80 by decide), if_neg (show ¬ (87 : Int32) = 81 by decide), if_neg (show ¬ (87 : Int32) = 82 by decide), if_neg (show ¬ (87 : Int32) = 83 by decide), if_neg (show ¬ (87 : Int32) = 84 by decide), if_neg (show ¬ (87 : Int32) = 85 by decide), if_neg (show ¬ (87 : Int32) = 86 by decide), if_pos rfl]
  unfold df_X7_fits_500 df_X7_fits_501 fzO
  by_cases a1 : v < (0)
  · rw [if_pos a1, decide_eq_true a1]
    exact z1 false
  rw [if_neg a1, decide_eq_false a1]
  by_cases a2 : 124 < v
  · rw [if_pos a2, decide_eq_true a2]
    exact z1 false
  rw [if_neg a2, decide_eq_false a2]
  by_cases a3 : v &&& 3 = 0
  · rw [if_pos a3, decide_eq_true (show v &&& nI (4 - 1) = 0 from a3)]
    exact z1 true
  · rw [if_neg a3, decide_eq_false (show ¬ v &&& nI (4 - 1) = 0 from a3)]
    exact z1 false
theorem fit_X (n : Nat) (v : Int32) : df_X7_fits n 88 v () = some (bI (fzO (4) 1020 4 v), ()) := by
  have z1 : ∀ b : Bool, nd_z .boolean (bI b) (some (bI b, ())) = some (bI b, ()) := fun b => by cases b <;> exact nar_z (by decide)
  unfold df_X7_fits df_X7_fits_0
  rw [if_neg (show ¬ (88 : Int32) = 72 by decide), if_neg (show ¬ (88 : Int32) = 73 by decide), if_neg (show ¬ (88 : Int32) = 74 by decide), if_neg (show ¬ (88 : Int32) = 75 by decide), if_neg (show ¬ (88 : Int32) = 76 by decide), if_neg (show ¬ (88 : Int32) = 77 by decide), if_neg (show ¬ (88 : Int32) = 78 by decide), if_neg (show ¬ (88 : Int32) = 79 by decide), if_neg (show ¬ (88 : Int32) = 80 by decide), if_neg (show ¬ (88 : Int32) = 81 by decide), if_neg (show ¬ (88 : Int32) = 82 by decide), if_neg (show ¬ (88 : Int32) = 83 by decide), if_neg (show ¬ (88 : Int32) = 84 by decide), if_neg (show ¬ (88 : Int32) = 85 by decide), if_neg (show ¬ (88 : Int32) = 86 by decide), if_neg (show ¬ (88 : Int32) = 87 by decide), if_pos rfl]
  unfold df_X7_fits_478 df_X7_fits_479 fzO
  by_cases a1 : v < (4)
  · rw [if_pos a1, decide_eq_true a1]
    exact z1 false
  rw [if_neg a1, decide_eq_false a1]
  by_cases a2 : 1020 < v
  · rw [if_pos a2, decide_eq_true a2]
    exact z1 false
  rw [if_neg a2, decide_eq_false a2]
  by_cases a3 : v &&& 3 = 0
  · rw [if_pos a3, decide_eq_true (show v &&& nI (4 - 1) = 0 from a3)]
    exact z1 true
  · rw [if_neg a3, decide_eq_false (show ¬ v &&& nI (4 - 1) = 0 from a3)]
    exact z1 false
