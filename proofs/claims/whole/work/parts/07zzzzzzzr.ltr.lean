theorem fit_M (n : Nat) (v : Int32) : df_X7_fits n 77 v () = some (bI (fzO (-32) 31 1 v && !decide (v = 0)), ()) := by
  have z1 : ∀ b : Bool, nd_z .boolean (bI b) (some (bI b, ())) = some (bI b, ()) := fun b => by cases b <;> exact nar_z (by decide)
  unfold df_X7_fits df_X7_fits_0
  rw [if_neg (show ¬ (77 : Int32) = 72 by decide), if_neg (show ¬ (77 : Int32) = 73 by decide), if_neg (show ¬ (77 : Int32) = 74 by decide), if_neg (show ¬ (77 : Int32) = 75 by decide), if_neg (show ¬ (77 : Int32) = 76 by decide), if_pos rfl]
  unfold df_X7_fits_454 df_X7_fits_455 fzO
  by_cases a1 : v < (-32)
  · rw [if_pos a1, decide_eq_true a1]
    exact z1 false
  rw [if_neg a1, decide_eq_false a1]
  by_cases a2 : 31 < v
  · rw [if_pos a2, decide_eq_true a2]
    exact z1 false
  rw [if_neg a2, decide_eq_false a2]
  rw [show v &&& nI (1 - 1) = 0 from (rmd_1 v (k := 1) (Or.inl rfl)).mp (by rw [show (nI 1 : Int32) = 1 from rfl, Int32.div_one, Int32.mul_one, Int32.sub_self])]
  by_cases a4 : v = 0
  · rw [if_pos a4, decide_eq_true a4]
    exact z1 false
  · rw [if_neg a4, decide_eq_false a4]
    exact z1 true
theorem fit_Y (n : Nat) (v : Int32) : df_X7_fits n 89 v () = some (bI (fzO (-512) 496 16 v && !decide (v = 0)), ()) := by
  have z1 : ∀ b : Bool, nd_z .boolean (bI b) (some (bI b, ())) = some (bI b, ()) := fun b => by cases b <;> exact nar_z (by decide)
  unfold df_X7_fits df_X7_fits_0
  rw [if_neg (show ¬ (89 : Int32) = 72 by decide), if_neg (show ¬ (89 : Int32) = 73 by decide), if_neg (show ¬ (89 : Int32) = 74 by decide), if_neg (show ¬ (89 : Int32) = 75 by decide), if_neg (show ¬ (89 : Int32) = 76 by decide), if_neg (show ¬ (89 : Int32) = 77 by decide), if_neg (show ¬ (89 : Int32) = 78 by decide), if_neg (show ¬ (89 : Int32) = 79 by decide), if_neg (show ¬ (89 : Int32) = 80 by decide), if_neg (show ¬ (89 : Int32) = 81 by decide), if_neg (show ¬ (89 : Int32) = 82 by decide), if_neg (show ¬ (89 : Int32) = 83 by decide), if_neg (show ¬ (89 : Int32) = 84 by decide), if_neg (show ¬ (89 : Int32) = 85 by decide), if_neg (show ¬ (89 : Int32) = 86 by decide), if_neg (show ¬ (89 : Int32) = 87 by decide), if_neg (show ¬ (89 : Int32) = 88 by decide), if_pos rfl]
  unfold df_X7_fits_531 df_X7_fits_532 fzO
  by_cases a1 : v < (-512)
  · rw [if_pos a1, decide_eq_true a1]
    exact z1 false
  rw [if_neg a1, decide_eq_false a1]
  by_cases a2 : 496 < v
  · rw [if_pos a2, decide_eq_true a2]
    exact z1 false
  rw [if_neg a2, decide_eq_false a2]
  by_cases a3 : v &&& 15 = 0
  · rw [if_pos a3, decide_eq_true (show v &&& nI (16 - 1) = 0 from a3)]
    by_cases a4 : v = 0
    · rw [if_pos a4, decide_eq_true a4]
      exact z1 false
    · rw [if_neg a4, decide_eq_false a4]
      exact z1 true
  · rw [if_neg a3, decide_eq_false (show ¬ v &&& nI (16 - 1) = 0 from a3)]
    exact z1 false
/-- an expression's letter: what it may be, its bits -/
def ltO (l : Nat) : Bool := decide (l = 73 ∨ l = 83 ∨ l = 72 ∨ l = 86 ∨ l = 85 ∨ l = 84 ∨ l = 74 ∨ l = 75 ∨ l = 76 ∨ l = 78 ∨ l = 77 ∨ l = 88 ∨ l = 87 ∨ l = 89 ∨ l = 80 ∨ l = 81)
def lfO (l : Nat) (v : Int32) : Bool := if l = 73 then fzO (-2048) 2047 1 v else if l = 83 then fzO (-2048) 2047 1 v else if l = 72 then fzO (0) 31 1 v else if l = 86 then fzO (0) 31 1 v else if l = 85 then fzO (0) 1048575 1 v else if l = 84 then fzO (-4096) 4094 2 v else if l = 74 then fzO (-1048576) 1048574 2 v else if l = 75 then fzO (-2048) 2046 2 v else if l = 76 then fzO (-256) 254 2 v else if l = 78 then fzO (-32) 31 1 v else if l = 77 then (fzO (-32) 31 1 v && !decide (v = 0)) else if l = 88 then fzO (4) 1020 4 v else if l = 87 then fzO (0) 124 4 v else if l = 89 then (fzO (-512) 496 16 v && !decide (v = 0)) else if l = 80 then fzO (0) 252 4 v else if l = 81 then fzO (0) 252 4 v else true
def lbO (l : Nat) (v : Int32) : Int32 := if l = 73 then v <<< ((20 : Int32) &&& 31) else if l = 83 then plS v else if l = 72 then (v &&& 31) <<< ((20 : Int32) &&& 31) else if l = 86 then plV v else if l = 85 then v <<< ((12 : Int32) &&& 31) else if l = 84 then plT v else if l = 74 then plJ v else if l = 75 then plK v else if l = 76 then plL v else if l = 78 then plN v else if l = 77 then plM v else if l = 88 then plX v else if l = 87 then plW v else if l = 89 then plY v else if l = 80 then plP v else if l = 81 then plQ v else 0
theorem lfO_C (n : Nat) {l : Nat} (h : ltO l = true) (v : Int32) : df_X7_fits n (nI l) v () = some (bI (lfO l v), ()) := by
  rcases of_decide_eq_true h with h | h | h | h | h | h | h | h | h | h | h | h | h | h | h | h
  · subst h; exact fit_I n v
  · subst h; exact fit_S n v
  · subst h; exact fit_H n v
  · subst h; exact fit_V n v
  · subst h; exact fit_U n v
  · subst h; exact fit_T n v
  · subst h; exact fit_J n v
  · subst h; exact fit_K n v
  · subst h; exact fit_L n v
  · subst h; exact fit_N n v
  · subst h; exact fit_M n v
  · subst h; exact fit_X n v
  · subst h; exact fit_W n v
  · subst h; exact fit_Y n v
  · subst h; exact fit_P n v
  · subst h; exact fit_Q n v
theorem lbO_C (n : Nat) {l : Nat} (h : ltO l = true) (v : Int32) : df_X7_placed n (nI l) v () = some (lbO l v, ()) := by
  rcases of_decide_eq_true h with h | h | h | h | h | h | h | h | h | h | h | h | h | h | h | h
  · subst h; exact plr_I n v
  · subst h; exact pl_S n v
  · subst h; exact plr_H n v
  · subst h; exact pl_V n v
  · subst h; exact plr_U n v
  · subst h; exact (pl_T n v).1
  · subst h; exact (pl_J n v).1
  · subst h; exact (pl_K n v).1
  · subst h; exact (pl_L n v).1
  · subst h; exact (pl_N n v).1
  · subst h; exact pl_M n v
  · subst h; exact pl_X n v
  · subst h; exact pl_W n v
  · subst h; exact pl_Y n v
  · subst h; exact pl_P n v
  · subst h; exact pl_Q n v
/-- the reference's ways to write the same bits -/
theorem lbV (v : Int32) : (v &&& 31) <<< ((2 : Int32) &&& 31) = plV v := by
  unfold plV ptO
  rw [show nI (2 ^ 5 - 1) = (31 : Int32) from rfl, show nI 0 &&& (31 : Int32) = 0 from rfl, show nI 2 &&& (31 : Int32) = (2 : Int32) &&& 31 from rfl, Int32.shiftRight_zero]
theorem lbM (v : Int32) : plN v = plM v := rfl
/-- the value that is looked at: an offset, or the value itself -/
def tgO (l : Nat) : Bool := decide (l = 84 ∨ l = 74 ∨ l = 75 ∨ l = 76)
def vtO (l : Nat) (ad v : Int32) : Int32 := if tgO l = true then v - ad else v
