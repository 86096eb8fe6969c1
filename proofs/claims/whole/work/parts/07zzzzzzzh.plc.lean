/-- bits that are moved: part() of the class, bits() of the reference -/
theorem sb_1 (v : Int32) {lo w : Nat} (h : lo + w ≤ 32) (hw : 1 ≤ w) : ((v.toUInt32 >>> ((nI lo).toUInt32 &&& Int32.toUInt32 31)).toInt32) &&& nI (2 ^ w - 1) = (v >>> (nI lo &&& 31)) &&& nI (2 ^ w - 1) := by
  have e : nI lo &&& (31 : Int32) = nI lo := by rw [show (31 : Int32) = nI 31 from rfl, nm_m31 (by omega), Nat.mod_eq_of_lt (by omega)]
  rw [e]
  apply gb_ext
  intro i hi
  rw [gb_and, gb_and, gb_n hi, Nat.testBit_two_pow_sub_one]
  by_cases y : i < w
  · have u : gb ((v.toUInt32 >>> ((nI lo).toUInt32 &&& Int32.toUInt32 31)).toInt32) i = gb v (lo + i) := gb_ush (by omega) i
    rw [u, gb_shr (by omega) hi, if_pos (by omega)]
  · rw [decide_eq_false y, Bool.and_false, Bool.and_false]
def ptO (v : Int32) (lo w to : Nat) : Int32 := ((v >>> (nI lo &&& 31)) &&& nI (2 ^ w - 1)) <<< (nI to &&& 31)
theorem mk_1 : ∀ w : Fin 31, ((1 : Int32) <<< ((nI w.1 : Int32) &&& 31)) - 1 = nI (2 ^ w.1 - 1) := by decide +kernel
theorem pa_1 (n : Nat) (v : Int32) (lo w to : Nat) (hw : w < 31) : df_X7_part n v (nI lo) (nI w) (nI to) () = some (ptO v lo w to, ()) := by
  unfold df_X7_part df_X7_part_0 ptO
  rw [show ((1 : Int32) <<< ((nI w : Int32) &&& 31)) - 1 = nI (2 ^ w - 1) from mk_1 ⟨w, hw⟩]
theorem bi_1 (n : Nat) (v : Int32) (lo w to : Nat) (h1 : 1 ≤ w) (hw : w < 31) (h : lo + w ≤ 32) : df_X13_bits n v (nI (lo + w - 1)) (nI lo) (nI to) () = some (ptO v lo w to, ()) := by
  unfold df_X13_bits df_X13_bits_0 ptO
  rw [show nI (lo + w - 1) - nI lo + (1 : Int32) = nI w by rw [pk_sub (by omega), show (1 : Int32) = nI 1 from rfl, nI_add]; exact congrArg nI (by omega), show ((1 : Int32) <<< ((nI w : Int32) &&& 31)) - 1 = nI (2 ^ w - 1) from mk_1 ⟨w, hw⟩, sb_1 v h h1]
def plT (v : Int32) : Int32 := ptO v 12 1 31 ||| ptO v 5 6 25 ||| ptO v 1 4 8 ||| ptO v 11 1 7
theorem pl_T (n : Nat) (v : Int32) : df_X7_placed n 84 v () = some (plT v, ()) ∧ df_X13_branchBits n v () = some (plT v, ()) := by
  constructor
  · unfold df_X7_placed df_X7_placed_0
    rw [if_neg (show ¬ (84 : Int32) = 72 by decide), if_neg (show ¬ (84 : Int32) = 73 by decide), if_neg (show ¬ (84 : Int32) = 74 by decide), if_neg (show ¬ (84 : Int32) = 75 by decide), if_neg (show ¬ (84 : Int32) = 76 by decide), if_neg (show ¬ (84 : Int32) = 77 by decide), if_neg (show ¬ (84 : Int32) = 78 by decide), if_neg (show ¬ (84 : Int32) = 79 by decide), if_neg (show ¬ (84 : Int32) = 80 by decide), if_neg (show ¬ (84 : Int32) = 81 by decide), if_neg (show ¬ (84 : Int32) = 82 by decide), if_neg (show ¬ (84 : Int32) = 83 by decide), if_pos rfl]
    rw [show df_X7_part n v 12 1 31 () = some (ptO v 12 1 31, ()) from pa_1 n v 12 1 31 (by omega), nb_b2, show df_X7_part n v 5 6 25 () = some (ptO v 5 6 25, ()) from pa_1 n v 5 6 25 (by omega), nb_b2, show df_X7_part n v 1 4 8 () = some (ptO v 1 4 8, ()) from pa_1 n v 1 4 8 (by omega), nb_b2, show df_X7_part n v 11 1 7 () = some (ptO v 11 1 7, ()) from pa_1 n v 11 1 7 (by omega), nb_b2]
    rfl
  · unfold df_X13_branchBits df_X13_branchBits_0
    rw [show df_X13_bits n v 12 12 31 () = some (ptO v 12 1 31, ()) from bi_1 n v 12 1 31 (by omega) (by omega) (by omega), nb_b2, show df_X13_bits n v 10 5 25 () = some (ptO v 5 6 25, ()) from bi_1 n v 5 6 25 (by omega) (by omega) (by omega), nb_b2, show df_X13_bits n v 4 1 8 () = some (ptO v 1 4 8, ()) from bi_1 n v 1 4 8 (by omega) (by omega) (by omega), nb_b2, show df_X13_bits n v 11 11 7 () = some (ptO v 11 1 7, ()) from bi_1 n v 11 1 7 (by omega) (by omega) (by omega), nb_b2]
    rfl
def plJ (v : Int32) : Int32 := ptO v 20 1 31 ||| ptO v 1 10 21 ||| ptO v 11 1 20 ||| ptO v 12 8 12
theorem pl_J (n : Nat) (v : Int32) : df_X7_placed n 74 v () = some (plJ v, ()) ∧ df_X13_jumpBits n v () = some (plJ v, ()) := by
  constructor
  · unfold df_X7_placed df_X7_placed_0
    rw [if_neg (show ¬ (74 : Int32) = 72 by decide), if_neg (show ¬ (74 : Int32) = 73 by decide), if_pos rfl]
    rw [show df_X7_part n v 20 1 31 () = some (ptO v 20 1 31, ()) from pa_1 n v 20 1 31 (by omega), nb_b2, show df_X7_part n v 1 10 21 () = some (ptO v 1 10 21, ()) from pa_1 n v 1 10 21 (by omega), nb_b2, show df_X7_part n v 11 1 20 () = some (ptO v 11 1 20, ()) from pa_1 n v 11 1 20 (by omega), nb_b2, show df_X7_part n v 12 8 12 () = some (ptO v 12 8 12, ()) from pa_1 n v 12 8 12 (by omega), nb_b2]
    rfl
  · unfold df_X13_jumpBits df_X13_jumpBits_0
    rw [show df_X13_bits n v 20 20 31 () = some (ptO v 20 1 31, ()) from bi_1 n v 20 1 31 (by omega) (by omega) (by omega), nb_b2, show df_X13_bits n v 10 1 21 () = some (ptO v 1 10 21, ()) from bi_1 n v 1 10 21 (by omega) (by omega) (by omega), nb_b2, show df_X13_bits n v 11 11 20 () = some (ptO v 11 1 20, ()) from bi_1 n v 11 1 20 (by omega) (by omega) (by omega), nb_b2, show df_X13_bits n v 19 12 12 () = some (ptO v 12 8 12, ()) from bi_1 n v 12 8 12 (by omega) (by omega) (by omega), nb_b2]
    rfl
def plK (v : Int32) : Int32 := ptO v 11 1 12 ||| ptO v 4 1 11 ||| ptO v 8 2 9 ||| ptO v 10 1 8 ||| ptO v 6 1 7 ||| ptO v 7 1 6 ||| ptO v 1 3 3 ||| ptO v 5 1 2
theorem pl_K (n : Nat) (v : Int32) : df_X7_placed n 75 v () = some (plK v, ()) ∧ df_X13_shortJump n v () = some (plK v, ()) := by
  constructor
  · unfold df_X7_placed df_X7_placed_0
    rw [if_neg (show ¬ (75 : Int32) = 72 by decide), if_neg (show ¬ (75 : Int32) = 73 by decide), if_neg (show ¬ (75 : Int32) = 74 by decide), if_pos rfl]
    unfold df_X7_placed_371 df_X7_placedShort df_X7_placedShort_0
    rw [if_pos rfl]
    rw [show df_X7_part n v 11 1 12 () = some (ptO v 11 1 12, ()) from pa_1 n v 11 1 12 (by omega), nb_b2, show df_X7_part n v 4 1 11 () = some (ptO v 4 1 11, ()) from pa_1 n v 4 1 11 (by omega), nb_b2, show df_X7_part n v 8 2 9 () = some (ptO v 8 2 9, ()) from pa_1 n v 8 2 9 (by omega), nb_b2, show df_X7_part n v 10 1 8 () = some (ptO v 10 1 8, ()) from pa_1 n v 10 1 8 (by omega), nb_b2, show df_X7_part n v 6 1 7 () = some (ptO v 6 1 7, ()) from pa_1 n v 6 1 7 (by omega), nb_b2, show df_X7_part n v 7 1 6 () = some (ptO v 7 1 6, ()) from pa_1 n v 7 1 6 (by omega), nb_b2, show df_X7_part n v 1 3 3 () = some (ptO v 1 3 3, ()) from pa_1 n v 1 3 3 (by omega), nb_b2, show df_X7_part n v 5 1 2 () = some (ptO v 5 1 2, ()) from pa_1 n v 5 1 2 (by omega), nb_b2]
    rfl
  · unfold df_X13_shortJump df_X13_shortJump_0
    rw [show df_X13_bits n v 11 11 12 () = some (ptO v 11 1 12, ()) from bi_1 n v 11 1 12 (by omega) (by omega) (by omega), nb_b2, show df_X13_bits n v 4 4 11 () = some (ptO v 4 1 11, ()) from bi_1 n v 4 1 11 (by omega) (by omega) (by omega), nb_b2, show df_X13_bits n v 9 8 9 () = some (ptO v 8 2 9, ()) from bi_1 n v 8 2 9 (by omega) (by omega) (by omega), nb_b2, show df_X13_bits n v 10 10 8 () = some (ptO v 10 1 8, ()) from bi_1 n v 10 1 8 (by omega) (by omega) (by omega), nb_b2, show df_X13_bits n v 6 6 7 () = some (ptO v 6 1 7, ()) from bi_1 n v 6 1 7 (by omega) (by omega) (by omega), nb_b2, show df_X13_bits n v 7 7 6 () = some (ptO v 7 1 6, ()) from bi_1 n v 7 1 6 (by omega) (by omega) (by omega), nb_b2, show df_X13_bits n v 3 1 3 () = some (ptO v 1 3 3, ()) from bi_1 n v 1 3 3 (by omega) (by omega) (by omega), nb_b2, show df_X13_bits n v 5 5 2 () = some (ptO v 5 1 2, ()) from bi_1 n v 5 1 2 (by omega) (by omega) (by omega), nb_b2]
    rfl
def plL (v : Int32) : Int32 := ptO v 8 1 12 ||| ptO v 3 2 10 ||| ptO v 6 2 5 ||| ptO v 1 2 3 ||| ptO v 5 1 2
theorem pl_L (n : Nat) (v : Int32) : df_X7_placed n 76 v () = some (plL v, ()) ∧ df_X13_shortBranch n v () = some (plL v, ()) := by
  constructor
  · unfold df_X7_placed df_X7_placed_0
    rw [if_neg (show ¬ (76 : Int32) = 72 by decide), if_neg (show ¬ (76 : Int32) = 73 by decide), if_neg (show ¬ (76 : Int32) = 74 by decide), if_neg (show ¬ (76 : Int32) = 75 by decide), if_pos rfl]
    unfold df_X7_placed_371 df_X7_placedShort df_X7_placedShort_0
    rw [if_neg (show ¬ (76 : Int32) = 75 by decide), if_pos rfl]
    rw [show df_X7_part n v 8 1 12 () = some (ptO v 8 1 12, ()) from pa_1 n v 8 1 12 (by omega), nb_b2, show df_X7_part n v 3 2 10 () = some (ptO v 3 2 10, ()) from pa_1 n v 3 2 10 (by omega), nb_b2, show df_X7_part n v 6 2 5 () = some (ptO v 6 2 5, ()) from pa_1 n v 6 2 5 (by omega), nb_b2, show df_X7_part n v 1 2 3 () = some (ptO v 1 2 3, ()) from pa_1 n v 1 2 3 (by omega), nb_b2, show df_X7_part n v 5 1 2 () = some (ptO v 5 1 2, ()) from pa_1 n v 5 1 2 (by omega), nb_b2]
    rfl
  · unfold df_X13_shortBranch df_X13_shortBranch_0
    rw [show df_X13_bits n v 8 8 12 () = some (ptO v 8 1 12, ()) from bi_1 n v 8 1 12 (by omega) (by omega) (by omega), nb_b2, show df_X13_bits n v 4 3 10 () = some (ptO v 3 2 10, ()) from bi_1 n v 3 2 10 (by omega) (by omega) (by omega), nb_b2, show df_X13_bits n v 7 6 5 () = some (ptO v 6 2 5, ()) from bi_1 n v 6 2 5 (by omega) (by omega) (by omega), nb_b2, show df_X13_bits n v 2 1 3 () = some (ptO v 1 2 3, ()) from bi_1 n v 1 2 3 (by omega) (by omega) (by omega), nb_b2, show df_X13_bits n v 5 5 2 () = some (ptO v 5 1 2, ()) from bi_1 n v 5 1 2 (by omega) (by omega) (by omega), nb_b2]
    rfl
def plN (v : Int32) : Int32 := ptO v 5 1 12 ||| ptO v 0 5 2
theorem pl_N (n : Nat) (v : Int32) : df_X7_placed n 78 v () = some (plN v, ()) ∧ df_X13_six n v () = some (plN v, ()) := by
  constructor
  · unfold df_X7_placed df_X7_placed_0
    rw [if_neg (show ¬ (78 : Int32) = 72 by decide), if_neg (show ¬ (78 : Int32) = 73 by decide), if_neg (show ¬ (78 : Int32) = 74 by decide), if_neg (show ¬ (78 : Int32) = 75 by decide), if_neg (show ¬ (78 : Int32) = 76 by decide), if_neg (show ¬ (78 : Int32) = 77 by decide), if_pos rfl]
    unfold df_X7_placed_371 df_X7_placedShort df_X7_placedShort_0
    rw [if_neg (show ¬ (78 : Int32) = 75 by decide), if_neg (show ¬ (78 : Int32) = 76 by decide), if_neg (show ¬ (78 : Int32) = 77 by decide), if_pos rfl]
    unfold df_X7_placedShort_195
    rw [show df_X7_part n v 5 1 12 () = some (ptO v 5 1 12, ()) from pa_1 n v 5 1 12 (by omega), nb_b2, show df_X7_part n v 0 5 2 () = some (ptO v 0 5 2, ()) from pa_1 n v 0 5 2 (by omega), nb_b2]
    rfl
  · unfold df_X13_six df_X13_six_0
    rw [show df_X13_bits n v 5 5 12 () = some (ptO v 5 1 12, ()) from bi_1 n v 5 1 12 (by omega) (by omega) (by omega), nb_b2, show df_X13_bits n v 4 0 2 () = some (ptO v 0 5 2, ()) from bi_1 n v 0 5 2 (by omega) (by omega) (by omega), nb_b2]
    rfl
