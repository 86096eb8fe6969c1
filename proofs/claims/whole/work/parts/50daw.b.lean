/-- bits that are moved: part() of the class, bits() of the reference -/
theorem sb_1 (v : Int32) {lo w : Nat} (h : lo + w ≤ 32) (hw : 1 ≤ w) : ((v.toUInt32 >>> ((nI lo).toUInt32 &&& Int32.toUInt32 31)).toInt32) &&& nI (2 ^ w - 1) = (v >>> (nI lo &&& 31)) &&& nI (2 ^ w - 1) := by
  have e : nI lo &&& (31 : Int32) = nI lo := by rw [show (31 : Int32) = nI 31 from rfl, nm_m31 (by omega), Nat.mod_eq_of_lt (by omega)]
  rw [e]
  apply gb_ext
  intro i hi
  rw [gb_and, gb_and, gb_n hi, Nat.testBit_two_pow_sub_one]
  by_cases y : i < w
  · have u : gb ((v.toUInt32 >>> ((nI lo).toUInt32 &&& Int32.toUInt32 31)).toInt32) i = gb v (lo + i) := gb_ush (by omega) i
    rw [u, gb_shr (by omega) hi, if_pos (by omega)]
  · rw [decide_eq_false y, Bool.and_false, Bool.and_false]
def ptO (v : Int32) (lo w to : Nat) : Int32 := ((v >>> (nI lo &&& 31)) &&& nI (2 ^ w - 1)) <<< (nI to &&& 31)
theorem mk_1 : ∀ w : Fin 31, ((1 : Int32) <<< ((nI w.1 : Int32) &&& 31)) - 1 = nI (2 ^ w.1 - 1) := by decide +kernel
theorem pa_1 (n : Nat) (v : Int32) (lo w to : Nat) (hw : w < 31) : df_X7_part n v (nI lo) (nI w) (nI to) () = some (ptO v lo w to, ()) := by
  unfold df_X7_part df_X7_part_0 ptO
  rw [show ((1 : Int32) <<< ((nI w : Int32) &&& 31)) - 1 = nI (2 ^ w - 1) from mk_1 ⟨w, hw⟩]
theorem bi_1 (n : Nat) (v : Int32) (lo w to : Nat) (h1 : 1 ≤ w) (hw : w < 31) (h : lo + w ≤ 32) : df_X13_bits n v (nI (lo + w - 1)) (nI lo) (nI to) () = some (ptO v lo w to, ()) := by
  unfold df_X13_bits df_X13_bits_0 ptO
  rw [show nI (lo + w - 1) - nI lo + (1 : Int32) = nI w by rw [pk_sub (by omega), show (1 : Int32) = nI 1 from rfl, nI_add]; exact congrArg nI (by omega), show ((1 : Int32) <<< ((nI w : Int32) &&& 31)) - 1 = nI (2 ^ w - 1) from mk_1 ⟨w, hw⟩, sb_1 v h h1]
def plT (v : Int32) : Int32 := ptO v 12 1 31 ||| ptO v 5 6 25 ||| ptO v 1 4 8 ||| ptO v 11 1 7
theorem pl_T (n : Nat) (v : Int32) : df_X7_placed n 84 v () = some (plT v, ()) ∧ df_X13_branchBits n v () = some (plT v, ()) := by
  constructor
  · unfold df_X7_placed df_X7_placed_0
    rw [if_neg (show ¬ (84 : Int32) = 72 by decide), if_neg (show ¬ (84 : Int32) = 73 by decide), if_neg (show ¬ (84 : Int32) = 74 by decide), if_neg (show ¬ (84 : Int32) = 75 by decide), if_neg (show ¬ (84 : Int32) = 76 by decide), if_neg (show ¬ (84 : Int32) = 77 by decide), if_neg (show ¬ (84 : Int32) = 78 by decide), if_neg (show ¬ (84 : Int32) = 79 by decide), if_neg (show ¬ (84 : Int32) = 80 by decide), if_neg (show ¬ (84 : Int32) = 81 by decide), if_neg (show ¬ (84 : Int32) = 82 by decide), if_neg (show ¬ (84 : Int32) = 83 by decide), if_pos rfl]
    rw [show df_X7_part n v 12 1 31 () = some (ptO v 12 1 31, ()) from pa_1 n v 12 1 31 (by omega), nb_b2, show df_X7_part n v 5 6 25 () = some (ptO v 5 6 25, ()) from pa_1 n v 5 6 25 (by omega), nb_b2, show df_X7_part n v 1 4 8 () = some (ptO v 1 4 8, ()) from pa_1 n v 1 4 8 (by omega), nb_b2, show df_X7_part n v 11 1 7 () = some (ptO v 11 1 7, ()) from pa_1 n v 11 1 7 (by omega), nb_b2]
    rfl
  · unfold df_X13_branchBits df_X13_branchBits_0
    rw [show df_X13_bits n v 12 12 31 () = some (ptO v 12 1 31, ()) from bi_1 n v 12 1 31 (by omega) (by omega) (by omega), nb_b2, show df_X13_bits n v 10 5 25 () = some (ptO v 5 6 25, ()) from bi_1 n v 5 6 25 (by omega) (by omega) (by omega), nb_b2, show df_X13_bits n v 4 1 8 () = some (ptO v 1 4 8, ()) from bi_1 n v 1 4 8 (by omega) (by omega) (by omega), nb_b2, show df_X13_bits n v 11 11 7 () = some (ptO v 11 1 7, ()) from bi_1 n v 11 1 7 (by omega) (by omega) (by omega), nb_b2]
    rfl
def plJ (v : Int32) : Int32 := ptO v 20 1 31 ||| ptO v 1 10 21 ||| ptO v 11 1 20 ||| ptO v 12 8 12
theorem pl_J (n : Nat) (v : Int32) : df_X7_placed n 74 v () = some (plJ v, ()) ∧ df_X13_jumpBits n v () = some (plJ v, ()) := by
  constructor
  · unfold df_X7_placed df_X7_placed_0
    rw [if_neg (show ¬ (74 : Int32) = 72 by decide), if_neg (show ¬ (74 : Int32) = 73 by decide), if_pos rfl]
    rw [show df_X7_part n v 20 1 31 () = some (ptO v 20 1 31, ()) from pa_1 n v 20 1 31 (by omega), nb_b2, show df_X7_part n v 1 10 21 () = some (ptO v 1 10 21, ()) from pa_1 n v 1 10 21 (by omega), nb_b2, show df_X7_part n v 11 1 20 () = some (ptO v 11 1 20, ()) from pa_1 n v 11 1 20 (by omega), nb_b2, show df_X7_part n v 12 8 12 () = some (ptO v 12 8 12, ()) from pa_1 n v 12 8 12 (by omega), nb_b2]
    rfl
  · unfold df_X13_jumpBits df_X13_jumpBits_0
    rw [show df_X13_bits n v 20 20 31 () = some (ptO v 20 1 31, ()) from bi_1 n v 20 1 31 (by omega) (by omega) (by omega), nb_b2, show df_X13_bits n v 10 1 21 () = some (ptO v 1 10 21, ()) from bi_1 n v 1 10 21 (by omega) (by omega) (by omega), nb_b2, show df_X13_bits n v 11 11 20 () = some (ptO v 11 1 20, ()) from bi_1 n v 11 1 20 (by omega) (by omega) (by omega), nb_b2, show df_X13_bits n v 19 12 12 () = some (ptO v 12 8 12, ()) from bi_1 n v 12 8 12 (by omega) (by omega) (by omega), nb_b2]
    rfl
def plK (v : Int32) : Int32 := ptO v 11 1 12 ||| ptO v 4 1 11 ||| ptO v 8 2 9 ||| ptO v 10 1 8 ||| ptO v 6 1 7 ||| ptO v 7 1 6 ||| ptO v 1 3 3 ||| ptO v 5 1 2
theorem pl_K (n : Nat) (v : Int32) : df_X7_placed n 75 v () = some (plK v, ()) ∧ df_X13_shortJump n v () = some (plK v, ()) := by
  constructor
  · unfold df_X7_placed df_X7_placed_0
    rw [if_neg (show ¬ (75 : Int32) = 72 by decide), if_neg (show ¬ (75 : Int32) = 73 by decide), if_neg (show ¬ (75 : Int32) = 74 by decide), if_pos rfl]
    unfold df_X7_placed_371 df_X7_placedShort df_X7_placedShort_0
    rw [if_pos rfl]
    rw [show df_X7_part n v 11 1 12 () = some (ptO v 11 1 12, ()) from pa_1 n v 11 1 12 (by omega), nb_b2, show df_X7_part n v 4 1 11 () = some (ptO v 4 1 11, ()) from pa_1 n v 4 1 11 (by omega), nb_b2, show df_X7_part n v 8 2 9 () = some (ptO v 8 2 9, ()) from pa_1 n v 8 2 9 (by omega), nb_b2, show df_X7_part n v 10 1 8 () = some (ptO v 10 1 8, ()) from pa_1 n v 10 1 8 (by omega), nb_b2, show df_X7_part n v 6 1 7 () = some (ptO v 6 1 7, ()) from pa_1 n v 6 1 7 (by omega), nb_b2, show df_X7_part n v 7 1 6 () = some (ptO v 7 1 6, ()) from pa_1 n v 7 1 6 (by omega), nb_b2, show df_X7_part n v 1 3 3 () = some (ptO v 1 3 3, ()) from pa_1 n v 1 3 3 (by omega), nb_b2, show df_X7_part n v 5 1 2 () = some (ptO v 5 1 2, ()) from pa_1 n v 5 1 2 (by omega), nb_b2]
    rfl
  · unfold df_X13_shortJump df_X13_shortJump_0
    rw [show df_X13_bits n v 11 11 12 () = some (ptO v 11 1 12, ()) from bi_1 n v 11 1 12 (by omega) (by omega) (by omega), nb_b2, show df_X13_bits n v 4 4 11 () = some (ptO v 4 1 11, ()) from bi_1 n v 4 1 11 (by omega) (by omega) (by omega), nb_b2, show df_X13_bits n v 9 8 9 () = some (ptO v 8 2 9, ()) from bi_1 n v 8 2 9 (by omega) (by omega) (by omega), nb_b2, show df_X13_bits n v 10 10 8 () = some (ptO v 10 1 8, ()) from bi_1 n v 10 1 8 (by omega) (by omega) (by omega), nb_b2, show df_X13_bits n v 6 6 7 () = some (ptO v 6 1 7, ()) from bi_1 n v 6 1 7 (by omega) (by omega) (by omega), nb_b2, show df_X13_bits n v 7 7 6 () = some (ptO v 7 1 6, ()) from bi_1 n v 7 1 6 (by omega) (by omega) (by omega), nb_b2, show df_X13_bits n v 3 1 3 () = some (ptO v 1 3 3, ()) from bi_1 n v 1 3 3 (by omega) (by omega) (by omega), nb_b2, show df_X13_bits n v 5 5 2 () = some (ptO v 5 1 2, ()) from bi_1 n v 5 1 2 (by omega) (by omega) (by omega), nb_b2]
    rfl
def plL (v : Int32) : Int32 := ptO v 8 1 12 ||| ptO v 3 2 10 ||| ptO v 6 2 5 ||| ptO v 1 2 3 ||| ptO v 5 1 2
theorem pl_L (n : Nat) (v : Int32) : df_X7_placed n 76 v () = some (plL v, ()) ∧ df_X13_shortBranch n v () = some (plL v, ()) := by
  constructor
  · unfold df_X7_placed df_X7_placed_0
    rw [if_neg (show ¬ (76 : Int32) = 72 by decide), if_neg (show ¬ (76 : Int32) = 73 by decide), if_neg (show ¬ (76 : Int32) = 74 by decide), if_neg (show ¬ (76 : Int32) = 75 by decide), if_pos rfl]
    unfold df_X7_placed_371 df_X7_placedShort df_X7_placedShort_0
    rw [if_neg (show ¬ (76 : Int32) = 75 by decide), if_pos rfl]
    rw [show df_X7_part n v 8 1 12 () = some (ptO v 8 1 12, ()) from pa_1 n v 8 1 12 (by omega), nb_b2, show df_X7_part n v 3 2 10 () = some (ptO v 3 2 10, ()) from pa_1 n v 3 2 10 (by omega), nb_b2, show df_X7_part n v 6 2 5 () = some (ptO v 6 2 5, ()) from pa_1 n v 6 2 5 (by omega), nb_b2, show df_X7_part n v 1 2 3 () = some (ptO v 1 2 3, ()) from pa_1 n v 1 2 3 (by omega), nb_b2, show df_X7_part n v 5 1 2 () = some (ptO v 5 1 2, ()) from pa_1 n v 5 1 2 (by omega), nb_b2]
    rfl
  · unfold df_X13_shortBranch df_X13_shortBranch_0
    rw [show df_X13_bits n v 8 8 12 () = some (ptO v 8 1 12, ()) from bi_1 n v 8 1 12 (by omega) (by omega) (by omega), nb_b2, show df_X13_bits n v 4 3 10 () = some (ptO v 3 2 10, ()) from bi_1 n v 3 2 10 (by omega) (by omega) (by omega), nb_b2, show df_X13_bits n v 7 6 5 () = some (ptO v 6 2 5, ()) from bi_1 n v 6 2 5 (by omega) (by omega) (by omega), nb_b2, show df_X13_bits n v 2 1 3 () = some (ptO v 1 2 3, ()) from bi_1 n v 1 2 3 (by omega) (by omega) (by omega), nb_b2, show df_X13_bits n v 5 5 2 () = some (ptO v 5 1 2, ()) from bi_1 n v 5 1 2 (by omega) (by omega) (by omega), nb_b2]
    rfl
def plN (v : Int32) : Int32 := ptO v 5 1 12 ||| ptO v 0 5 2
theorem pl_N (n : Nat) (v : Int32) : df_X7_placed n 78 v () = some (plN v, ()) ∧ df_X13_six n v () = some (plN v, ()) := by
  constructor
  · unfold df_X7_placed df_X7_placed_0
    rw [if_neg (show ¬ (78 : Int32) = 72 by decide), if_neg (show ¬ (78 : Int32) = 73 by decide), if_neg (show ¬ (78 : Int32) = 74 by decide), if_neg (show ¬ (78 : Int32) = 75 by decide), if_neg (show ¬ (78 : Int32) = 76 by decide), if_neg (show ¬ (78 : Int32) = 77 by decide), if_pos rfl]
    unfold df_X7_placed_371 df_X7_placedShort df_X7_placedShort_0
    rw [if_neg (show ¬ (78 : Int32) = 75 by decide), if_neg (show ¬ (78 : Int32) = 76 by decide), if_neg (show ¬ (78 : Int32) = 77 by decide), if_pos rfl]
    unfold df_X7_placedShort_195
    rw [show df_X7_part n v 5 1 12 () = some (ptO v 5 1 12, ()) from pa_1 n v 5 1 12 (by omega), nb_b2, show df_X7_part n v 0 5 2 () = some (ptO v 0 5 2, ()) from pa_1 n v 0 5 2 (by omega), nb_b2]
    rfl
  · unfold df_X13_six df_X13_six_0
    rw [show df_X13_bits n v 5 5 12 () = some (ptO v 5 1 12, ()) from bi_1 n v 5 1 12 (by omega) (by omega) (by omega), nb_b2, show df_X13_bits n v 4 0 2 () = some (ptO v 0 5 2, ()) from bi_1 n v 0 5 2 (by omega) (by omega) (by omega), nb_b2]
    rfl

theorem nm_rem16 {A k : Nat} (hA : A < 2 ^ 32) (hk : k = 16) : (nI A - nI A / nI k * nI k = nI 0) ↔ A % k = 0 := by
  have k0 : 0 < k := by omega
  have dm : A / k * k = A - A % k := by
    have := Nat.div_add_mod A k
    rw [Nat.mul_comm] at this
    omega
  by_cases c : A < 2 ^ 31
  · have lm := Nat.mod_lt A k0
    have le := Nat.mod_le A k
    rw [nm_div c k0 (by omega), pk_mul, pk_sub (by omega), dm, nI_eq (by omega) (by omega)]
    omega
  · have hab : A + (4294967296 - A) = 4294967296 := by omega
    generalize hB : 4294967296 - A = B at hab
    have hB0 : 0 < B := by omega
    have dB : B / k * k = B - B % k := by
      have := Nat.div_add_mod B k
      rw [Nat.mul_comm] at this
      omega
    have lB := Nat.div_le_self B k
    have q : nI A / nI k = -nI (B / k) := by
      apply Int32.toInt_inj.mp
      rw [Int32.toInt_div, nI_t hA, if_neg c, nI_t (show k < 2 ^ 32 by omega), if_pos (by omega), show (A : Int) - 2 ^ 32 = -(B : Int) from by omega, Int.neg_tdiv, ← Int.ofNat_tdiv, Int32.toInt_neg, nI_t (show B / k < 2 ^ 32 by omega)]
      by_cases e : B / k < 2 ^ 31
      · rw [if_pos e]
      · rw [if_neg e, show B / k = 2147483648 from by omega]
        decide
    rw [q, nI_ng hab hB0, Int32.neg_mul, pk_mul, dB]
    have lm := Nat.mod_lt B k0
    have le := Nat.mod_le B k
    have e : -nI B - -nI (B - B % k) = -nI (B % k) := by
      rw [Int32.sub_neg, Int32.add_comm, ← Int32.sub_eq_add_neg, ← Int32.neg_sub, pk_sub (by omega), show B - (B - B % k) = B % k from by omega]
    rw [e]
    have mm : B % k = 0 ↔ A % k = 0 := by
      subst hk; omega
    constructor
    · intro z
      have z : nI (B % k) = nI 0 := by
        have := congrArg (fun x => -x) z
        rw [Int32.neg_neg] at this
        exact this
      exact mm.mp (nm_inI (by omega) (by omega) z)
    · intro z
      rw [mm.mpr z]
      decide
/-- what an operand may be -/
def fzO (lo hi : Int32) (k : Nat) (v : Int32) : Bool := !decide (v < lo) && (!decide (hi < v) && decide (v &&& nI (k - 1) = 0))
theorem rmd_1 (v : Int32) {k : Nat} (hk : k = 1 ∨ k = 2 ∨ k = 4 ∨ k = 16) : (v - v / nI k * nI k = 0) ↔ v &&& nI (k - 1) = 0 := by
  obtain ⟨A, hA, e⟩ := nI_ex v
  subst e
  have q : (nI A - nI A / nI k * nI k = nI 0) ↔ A % k = 0 := by
    by_cases y : k = 16
    · exact nm_rem16 hA y
    · exact nm_rem hA (by omega)
  have r : nI A &&& nI (k - 1) = nI (A % k) := by
    rcases hk with z | z | z | z <;> subst z
    · exact pk_andN hA 0 (by decide)
    · exact pk_andN hA 1 (by decide)
    · exact pk_andN hA 2 (by decide)
    · exact pk_andN hA 4 (by decide)
  rw [r]
  refine q.trans ?_
  show _ ↔ nI (A % k) = nI 0
  have lt : A % k < 16 := by rcases hk with z | z | z | z <;> subst z <;> omega
  rw [nI_eq (by omega) (by omega)]
theorem fit_R {n : Nat} {B : St} {ft : Int32} {ms dv ls : Bool} {sg vl : Nat} {PL : Nat → Int32} {ap tk fr to : Nat} {nm : Int32} (v lo hi : Int32) {k : Nat} (hk : k = 1 ∨ k = 2 ∨ k = 4 ∨ k = 16) : df_X13_fits n v lo hi (nI k) (uR (xR B ft ms dv ls sg vl PL) ap tk fr to nm) = some (uR (xR B (if sI B 15 = 2 ∧ fzO lo hi k v = false then (if ft = 0 then 10 + 16 * sI B 13 else ft) else ft) ms dv ls sg vl PL) ap tk fr to nm) := by
  unfold df_X13_fits df_X13_fits_0 df_X13_fits_25 df_X13_fits_31 nd_nz
  have k0 : ¬ (nI k : Int32) = 0 := by rcases hk with z | z | z | z <;> subst z <;> decide
  have rm := rmd_1 v hk
  rw [xR_u15, rbl_1, nb_b1, decide_eq_false k0, if_neg Bool.false_ne_true]
  unfold fzO
  by_cases y : sI B 15 = 2
  · rw [if_pos y]
    by_cases a1 : v < lo
    · rw [if_pos a1, decide_eq_true a1, if_pos (show sI B 15 = 2 ∧ (!true && (!decide (hi < v) && decide (v &&& nI (k - 1) = 0))) = false from ⟨y, rfl⟩)]
    rw [if_neg a1, decide_eq_false a1]
    by_cases a2 : hi < v
    · rw [if_pos a2, decide_eq_true a2, if_pos (show sI B 15 = 2 ∧ (!false && (!true && decide (v &&& nI (k - 1) = 0))) = false from ⟨y, rfl⟩)]
    rw [if_neg a2, decide_eq_false a2]
    by_cases a3 : v &&& nI (k - 1) = 0
    · rw [if_pos (rm.mpr a3), decide_eq_true a3, if_neg (fun z => absurd z.2 (by decide))]
    · rw [if_neg (fun z => a3 (rm.mp z)), decide_eq_false a3, if_pos (show sI B 15 = 2 ∧ (!false && (!false && false)) = false from ⟨y, rfl⟩)]
  · rw [if_neg y, if_neg (fun z => y z.1)]
theorem fit_J (n : Nat) (v : Int32) : df_X7_fits n 74 v () = some (bI (fzO (-1048576) 1048574 2 v), ()) := by
  have z1 : ∀ b : Bool, nd_z .boolean (bI b) (some (bI b, ())) = some (bI b, ()) := fun b => by cases b <;> exact nar_z (by decide)
  unfold df_X7_fits df_X7_fits_0
  rw [if_neg (show ¬ (74 : Int32) = 72 by decide), if_neg (show ¬ (74 : Int32) = 73 by decide), if_pos rfl]
  unfold df_X7_fits_362 df_X7_fits_363 fzO
  by_cases a1 : v < (-1048576)
  · rw [if_pos a1, decide_eq_true a1]
    exact z1 false
  rw [if_neg a1, decide_eq_false a1]
  by_cases a2 : 1048574 < v
  · rw [if_pos a2, decide_eq_true a2]
    exact z1 false
  rw [if_neg a2, decide_eq_false a2]
  by_cases a3 : v &&& 1 = 0
  · rw [if_pos a3, decide_eq_true (show v &&& nI (2 - 1) = 0 from a3)]
    exact z1 true
  · rw [if_neg a3, decide_eq_false (show ¬ v &&& nI (2 - 1) = 0 from a3)]
    exact z1 false
theorem fit_K (n : Nat) (v : Int32) : df_X7_fits n 75 v () = some (bI (fzO (-2048) 2046 2 v), ()) := by
  have z1 : ∀ b : Bool, nd_z .boolean (bI b) (some (bI b, ())) = some (bI b, ()) := fun b => by cases b <;> exact nar_z (by decide)
  unfold df_X7_fits df_X7_fits_0
  rw [if_neg (show ¬ (75 : Int32) = 72 by decide), if_neg (show ¬ (75 : Int32) = 73 by decide), if_neg (show ¬ (75 : Int32) = 74 by decide), if_pos rfl]
  unfold df_X7_fits_388 df_X7_fits_389 fzO
  by_cases a1 : v < (-2048)
  · rw [if_pos a1, decide_eq_true a1]
    exact z1 false
  rw [if_neg a1, decide_eq_false a1]
  by_cases a2 : 2046 < v
  · rw [if_pos a2, decide_eq_true a2]
    exact z1 false
  rw [if_neg a2, decide_eq_false a2]
  by_cases a3 : v &&& 1 = 0
  · rw [if_pos a3, decide_eq_true (show v &&& nI (2 - 1) = 0 from a3)]
    exact z1 true
  · rw [if_neg a3, decide_eq_false (show ¬ v &&& nI (2 - 1) = 0 from a3)]
    exact z1 false
theorem fit_L (n : Nat) (v : Int32) : df_X7_fits n 76 v () = some (bI (fzO (-256) 254 2 v), ()) := by
  have z1 : ∀ b : Bool, nd_z .boolean (bI b) (some (bI b, ())) = some (bI b, ()) := fun b => by cases b <;> exact nar_z (by decide)
  unfold df_X7_fits df_X7_fits_0
  rw [if_neg (show ¬ (76 : Int32) = 72 by decide), if_neg (show ¬ (76 : Int32) = 73 by decide), if_neg (show ¬ (76 : Int32) = 74 by decide), if_neg (show ¬ (76 : Int32) = 75 by decide), if_pos rfl]
  unfold df_X7_fits_414 df_X7_fits_415 fzO
  by_cases a1 : v < (-256)
  · rw [if_pos a1, decide_eq_true a1]
    exact z1 false
  rw [if_neg a1, decide_eq_false a1]
  by_cases a2 : 254 < v
  · rw [if_pos a2, decide_eq_true a2]
    exact z1 false
  rw [if_neg a2, decide_eq_false a2]
  by_cases a3 : v &&& 1 = 0
  · rw [if_pos a3, decide_eq_true (show v &&& nI (2 - 1) = 0 from a3)]
    exact z1 true
  · rw [if_neg a3, decide_eq_false (show ¬ v &&& nI (2 - 1) = 0 from a3)]
    exact z1 false
theorem fit_T (n : Nat) (v : Int32) : df_X7_fits n 84 v () = some (bI (fzO (-4096) 4094 2 v), ()) := by
  have z1 : ∀ b : Bool, nd_z .boolean (bI b) (some (bI b, ())) = some (bI b, ()) := fun b => by cases b <;> exact nar_z (by decide)
  unfold df_X7_fits df_X7_fits_0
  rw [if_neg (show ¬ (84 : Int32) = 72 by decide), if_neg (show ¬ (84 : Int32) = 73 by decide), if_neg (show ¬ (84 : Int32) = 74 by decide), if_neg (show ¬ (84 : Int32) = 75 by decide), if_neg (show ¬ (84 : Int32) = 76 by decide), if_neg (show ¬ (84 : Int32) = 77 by decide), if_neg (show ¬ (84 : Int32) = 78 by decide), if_neg (show ¬ (84 : Int32) = 79 by decide), if_neg (show ¬ (84 : Int32) = 80 by decide), if_neg (show ¬ (84 : Int32) = 81 by decide), if_neg (show ¬ (84 : Int32) = 82 by decide), if_neg (show ¬ (84 : Int32) = 83 by decide), if_pos rfl]
  unfold df_X7_fits_336 df_X7_fits_337 fzO
  by_cases a1 : v < (-4096)
  · rw [if_pos a1, decide_eq_true a1]
    exact z1 false
  rw [if_neg a1, decide_eq_false a1]
  by_cases a2 : 4094 < v
  · rw [if_pos a2, decide_eq_true a2]
    exact z1 false
  rw [if_neg a2, decide_eq_false a2]
  by_cases a3 : v &&& 1 = 0
  · rw [if_pos a3, decide_eq_true (show v &&& nI (2 - 1) = 0 from a3)]
    exact z1 true
  · rw [if_neg a3, decide_eq_false (show ¬ v &&& nI (2 - 1) = 0 from a3)]
    exact z1 false
theorem fit_I (n : Nat) (v : Int32) : df_X7_fits n 73 v () = some (bI (fzO (-2048) 2047 1 v), ()) := by
  have z1 : ∀ b : Bool, nd_z .boolean (bI b) (some (bI b, ())) = some (bI b, ()) := fun b => by cases b <;> exact nar_z (by decide)
  unfold df_X7_fits df_X7_fits_0
  rw [if_neg (show ¬ (73 : Int32) = 72 by decide), if_pos rfl]
  unfold df_X7_fits_259 df_X7_fits_277 df_X7_fits_278 fzO
  by_cases a1 : v < (-2048)
  · rw [if_pos a1, decide_eq_true a1]
    exact z1 false
  rw [if_neg a1, decide_eq_false a1]
  by_cases a2 : 2047 < v
  · rw [if_pos a2, decide_eq_true a2]
    exact z1 false
  rw [if_neg a2, decide_eq_false a2]
  rw [show v &&& nI (1 - 1) = 0 from (rmd_1 v (k := 1) (Or.inl rfl)).mp (by rw [show (nI 1 : Int32) = 1 from rfl, Int32.div_one, Int32.mul_one, Int32.sub_self])]
  exact z1 true
theorem fit_S (n : Nat) (v : Int32) : df_X7_fits n 83 v () = some (bI (fzO (-2048) 2047 1 v), ()) := by
  have z1 : ∀ b : Bool, nd_z .boolean (bI b) (some (bI b, ())) = some (bI b, ()) := fun b => by cases b <;> exact nar_z (by decide)
  unfold df_X7_fits df_X7_fits_0
  rw [if_neg (show ¬ (83 : Int32) = 72 by decide), if_neg (show ¬ (83 : Int32) = 73 by decide), if_neg (show ¬ (83 : Int32) = 74 by decide), if_neg (show ¬ (83 : Int32) = 75 by decide), if_neg (show ¬ (83 : Int32) = 76 by decide), if_neg (show ¬ (83 : Int32) = 77 by decide), if_neg (show ¬ (83 : Int32) = 78 by decide), if_neg (show ¬ (83 : Int32) = 79 by decide), if_neg (show ¬ (83 : Int32) = 80 by decide), if_neg (show ¬ (83 : Int32) = 81 by decide), if_neg (show ¬ (83 : Int32) = 82 by decide), if_pos rfl]
  unfold df_X7_fits_259 df_X7_fits_277 df_X7_fits_278 fzO
  by_cases a1 : v < (-2048)
  · rw [if_pos a1, decide_eq_true a1]
    exact z1 false
  rw [if_neg a1, decide_eq_false a1]
  by_cases a2 : 2047 < v
  · rw [if_pos a2, decide_eq_true a2]
    exact z1 false
  rw [if_neg a2, decide_eq_false a2]
  rw [show v &&& nI (1 - 1) = 0 from (rmd_1 v (k := 1) (Or.inl rfl)).mp (by rw [show (nI 1 : Int32) = 1 from rfl, Int32.div_one, Int32.mul_one, Int32.sub_self])]
  exact z1 true
theorem fit_H (n : Nat) (v : Int32) : df_X7_fits n 72 v () = some (bI (fzO (0) 31 1 v), ()) := by
  have z1 : ∀ b : Bool, nd_z .boolean (bI b) (some (bI b, ())) = some (bI b, ()) := fun b => by cases b <;> exact nar_z (by decide)
  unfold df_X7_fits df_X7_fits_0
  rw [if_pos rfl]
  unfold df_X7_fits_279 df_X7_fits_293 df_X7_fits_294 fzO
  by_cases a1 : v < (0)
  · rw [if_pos a1, decide_eq_true a1]
    exact z1 false
  rw [if_neg a1, decide_eq_false a1]
  by_cases a2 : 31 < v
  · rw [if_pos a2, decide_eq_true a2]
    exact z1 false
  rw [if_neg a2, decide_eq_false a2]
  rw [show v &&& nI (1 - 1) = 0 from (rmd_1 v (k := 1) (Or.inl rfl)).mp (by rw [show (nI 1 : Int32) = 1 from rfl, Int32.div_one, Int32.mul_one, Int32.sub_self])]
  exact z1 true
theorem fit_V (n : Nat) (v : Int32) : df_X7_fits n 86 v () = some (bI (fzO (0) 31 1 v), ()) := by
  have z1 : ∀ b : Bool, nd_z .boolean (bI b) (some (bI b, ())) = some (bI b, ()) := fun b => by cases b <;> exact nar_z (by decide)
  unfold df_X7_fits df_X7_fits_0
  rw [if_neg (show ¬ (86 : Int32) = 72 by decide), if_neg (show ¬ (86 : Int32) = 73 by decide), if_neg (show ¬ (86 : Int32) = 74 by decide), if_neg (show ¬ (86 : Int32) = 75 by decide), if_neg (show ¬ (86 : Int32) = 76 by decide), if_neg (show ¬ (86 : Int32) = 77 by decide), if_neg (show ¬ (86 : Int32) = 78 by decide), if_neg (show ¬ (86 : Int32) = 79 by decide), if_neg (show ¬ (86 : Int32) = 80 by decide), if_neg (show ¬ (86 : Int32) = 81 by decide), if_neg (show ¬ (86 : Int32) = 82 by decide), if_neg (show ¬ (86 : Int32) = 83 by decide), if_neg (show ¬ (86 : Int32) = 84 by decide), if_neg (show ¬ (86 : Int32) = 85 by decide), if_pos rfl]
  unfold df_X7_fits_279 df_X7_fits_293 df_X7_fits_294 fzO
  by_cases a1 : v < (0)
  · rw [if_pos a1, decide_eq_true a1]
    exact z1 false
  rw [if_neg a1, decide_eq_false a1]
  by_cases a2 : 31 < v
  · rw [if_pos a2, decide_eq_true a2]
    exact z1 false
  rw [if_neg a2, decide_eq_false a2]
  rw [show v &&& nI (1 - 1) = 0 from (rmd_1 v (k := 1) (Or.inl rfl)).mp (by rw [show (nI 1 : Int32) = 1 from rfl, Int32.div_one, Int32.mul_one, Int32.sub_self])]
  exact z1 true
theorem fit_U (n : Nat) (v : Int32) : df_X7_fits n 85 v () = some (bI (fzO (0) 1048575 1 v), ()) := by
  have z1 : ∀ b : Bool, nd_z .boolean (bI b) (some (bI b, ())) = some (bI b, ()) := fun b => by cases b <;> exact nar_z (by decide)
  unfold df_X7_fits df_X7_fits_0
  rw [if_neg (show ¬ (85 : Int32) = 72 by decide), if_neg (show ¬ (85 : Int32) = 73 by decide), if_neg (show ¬ (85 : Int32) = 74 by decide), if_neg (show ¬ (85 : Int32) = 75 by decide), if_neg (show ¬ (85 : Int32) = 76 by decide), if_neg (show ¬ (85 : Int32) = 77 by decide), if_neg (show ¬ (85 : Int32) = 78 by decide), if_neg (show ¬ (85 : Int32) = 79 by decide), if_neg (show ¬ (85 : Int32) = 80 by decide), if_neg (show ¬ (85 : Int32) = 81 by decide), if_neg (show ¬ (85 : Int32) = 82 by decide), if_neg (show ¬ (85 : Int32) = 83 by decide), if_neg (show ¬ (85 : Int32) = 84 by decide), if_pos rfl]
  unfold df_X7_fits_310 df_X7_fits_311 fzO
  by_cases a1 : v < (0)
  · rw [if_pos a1, decide_eq_true a1]
    exact z1 false
  rw [if_neg a1, decide_eq_false a1]
  by_cases a2 : 1048575 < v
  · rw [if_pos a2, decide_eq_true a2]
    exact z1 false
  rw [if_neg a2, decide_eq_false a2]
  rw [show v &&& nI (1 - 1) = 0 from (rmd_1 v (k := 1) (Or.inl rfl)).mp (by rw [show (nI 1 : Int32) = 1 from rfl, Int32.div_one, Int32.mul_one, Int32.sub_self])]
  exact z1 true
theorem fit_N (n : Nat) (v : Int32) : df_X7_fits n 78 v () = some (bI (fzO (-32) 31 1 v), ()) := by
  have z1 : ∀ b : Bool, nd_z .boolean (bI b) (some (bI b, ())) = some (bI b, ()) := fun b => by cases b <;> exact nar_z (by decide)
  unfold df_X7_fits df_X7_fits_0
  rw [if_neg (show ¬ (78 : Int32) = 72 by decide), if_neg (show ¬ (78 : Int32) = 73 by decide), if_neg (show ¬ (78 : Int32) = 74 by decide), if_neg (show ¬ (78 : Int32) = 75 by decide), if_neg (show ¬ (78 : Int32) = 76 by decide), if_neg (show ¬ (78 : Int32) = 77 by decide), if_pos rfl]
  unfold df_X7_fits_432 df_X7_fits_433 fzO
  by_cases a1 : v < (-32)
  · rw [if_pos a1, decide_eq_true a1]
    exact z1 false
  rw [if_neg a1, decide_eq_false a1]
  by_cases a2 : 31 < v
  · rw [if_pos a2, decide_eq_true a2]
    exact z1 false
  rw [if_neg a2, decide_eq_false a2]
  rw [show v &&& nI (1 - 1) = 0 from (rmd_1 v (k := 1) (Or.inl rfl)).mp (by rw [show (nI 1 : Int32) = 1 from rfl, Int32.div_one, Int32.mul_one, Int32.sub_self])]
  exact z1 true
theorem fit_P (n : Nat) (v : Int32) : df_X7_fits n 80 v () = some (bI (fzO (0) 252 4 v), ()) := by
  have z1 : ∀ b : Bool, nd_z .boolean (bI b) (some (bI b, ())) = some (bI b, ()) := fun b => by cases b <;> exact nar_z (by decide)
  unfold df_X7_fits df_X7_fits_0
  rw [if_neg (show ¬ (80 : Int32) = 72 by decide), if_neg (show ¬ (80 : Int32) = 73 by decide), if_neg (show ¬ (80 : Int32) = 74 by decide), if_neg (show ¬ (80 : Int32) = 75 by decide), if_neg (show ¬ (80 : Int32) = 76 by decide), if_neg (show ¬ (80 : Int32) = 77 by decide), if_neg (show ¬ (80 : Int32) = 78 by decide), if_neg (show ¬ (80 : Int32) = 79 by decide), if_pos rfl]
  unfold df_X7_fits_533 df_X7_fits_554 df_X7_fits_555 fzO
  by_cases a1 : v < (0)
  · rw [if_pos a1, decide_eq_true a1]
    exact z1 false
  rw [if_neg a1, decide_eq_false a1]
  by_cases a2 : 252 < v
  · rw [if_pos a2, decide_eq_true a2]
    exact z1 false
  rw [if_neg a2, decide_eq_false a2]
  by_cases a3 : v &&& 3 = 0
  · rw [if_pos a3, decide_eq_true (show v &&& nI (4 - 1) = 0 from a3)]
    exact z1 true
  · rw [if_neg a3, decide_eq_false (show ¬ v &&& nI (4 - 1) = 0 from a3)]
    exact z1 false
theorem fit_Q (n : Nat) (v : Int32) : df_X7_fits n 81 v () = some (bI (fzO (0) 252 4 v), ()) := by
  have z1 : ∀ b : Bool, nd_z .boolean (bI b) (some (bI b, ())) = some (bI b, ()) := fun b => by cases b <;> exact nar_z (by decide)
  unfold df_X7_fits df_X7_fits_0
  rw [if_neg (show ¬ (81 : Int32) = 72 by decide), if_neg (show ¬ (81 : Int32) = 73 by decide), if_neg (show ¬ (81 : Int32) = 74 by decide), if_neg (show ¬ (81 : Int32) = 75 by decide), if_neg (show ¬ (81 : Int32) = 76 by decide), if_neg (show ¬ (81 : Int32) = 77 by decide), if_neg (show ¬ (81 : Int32) = 78 by decide), if_neg (show ¬ (81 : Int32) = 79 by decide), if_neg (show ¬ (81 : Int32) = 80 by decide), if_pos rfl]
  unfold df_X7_fits_533 df_X7_fits_554 df_X7_fits_555 fzO
  by_cases a1 : v < (0)
  · rw [if_pos a1, decide_eq_true a1]
    exact z1 false
  rw [if_neg a1, decide_eq_false a1]
  by_cases a2 : 252 < v
  · rw [if_pos a2, decide_eq_true a2]
    exact z1 false
  rw [if_neg a2, decide_eq_false a2]
  by_cases a3 : v &&& 3 = 0
  · rw [if_pos a3, decide_eq_true (show v &&& nI (4 - 1) = 0 from a3)]
    exact z1 true
  · rw [if_neg a3, decide_eq_false (show ¬ v &&& nI (4 - 1) = 0 from a3)]
    exact z1 false
theorem fit_W (n : Nat) (v : Int32) : df_X7_fits n 87 v () = some (bI (fzO (0) 124 4 v), ()) := by
  have z1 : ∀ b : Bool, nd_z .boolean (bI b) (some (bI b, ())) = some (bI b, ()) := fun b => by cases b <;> exact nar_z (by decide)
  unfold df_X7_fits df_X7_fits_0
  rw [if_neg (show ¬ (87 : Int32) = 72 by decide), if_neg (show ¬ (87 : Int32) = 73 by decide), if_neg (show ¬ (87 : Int32) = 74 by decide), if_neg (show ¬ (87 : Int32) = 75 by decide), if_neg (show ¬ (87 : Int32) = 76 by decide), if_neg (show ¬ (87 : Int32) = 77 by decide), if_neg (show ¬ (87 : Int32) = 78 by decide), if_neg (show ¬ (87 : Int32) = 79 by decide), if_neg (show ¬ (87 : Int32) = 80 by decide), if_neg (show ¬ (87 : Int32) = 81 by decide), if_neg (show ¬ (87 : Int32) = 82 by decide), if_neg (show ¬ (87 : Int32) = 83 by decide), if_neg (show ¬ (87 : Int32) = 84 by decide), if_neg (show ¬ (87 : Int32) = 85 by decide), if_neg (show ¬ (87 : Int32) = 86 by decide), if_pos rfl]
  unfold df_X7_fits_500 df_X7_fits_501 fzO
  by_cases a1 : v < (0)
  · rw [if_pos a1, decide_eq_true a1]
    exact z1 false
  rw [if_neg a1, decide_eq_false a1]
  by_cases a2 : 124 < v
  · rw [if_pos a2, decide_eq_true a2]
    exact z1 false
  rw [if_neg a2, decide_eq_false a2]
  by_cases a3 : v &&& 3 = 0
  · rw [if_pos a3, decide_eq_true (show v &&& nI (4 - 1) = 0 from a3)]
    exact z1 true
  · rw [if_neg a3, decide_eq_false (show ¬ v &&& nI (4 - 1) = 0 from a3)]
    exact z1 false
theorem fit_X (n : Nat) (v : Int32) : df_X7_fits n 88 v () = some (bI (fzO (4) 1020 4 v), ()) := by
  have z1 : ∀ b : Bool, nd_z .boolean (bI b) (some (bI b, ())) = some (bI b, ()) := fun b => by cases b <;> exact nar_z (by decide)
  unfold df_X7_fits df_X7_fits_0
  rw [if_neg (show ¬ (88 : Int32) = 72 by decide), if_neg (show ¬ (88 : Int32) = 73 by decide), if_neg (show ¬ (88 : Int32) = 74 by decide), if_neg (show ¬ (88 : Int32) = 75 by decide), if_neg (show ¬ (88 : Int32) = 76 by decide), if_neg (show ¬ (88 : Int32) = 77 by decide), if_neg (show ¬ (88 : Int32) = 78 by decide), if_neg (show ¬ (88 : Int32) = 79 by decide), if_neg (show ¬ (88 : Int32) = 80 by decide), if_neg (show ¬ (88 : Int32) = 81 by decide), if_neg (show ¬ (88 : Int32) = 82 by decide), if_neg (show ¬ (88 : Int32) = 83 by decide), if_neg (show ¬ (88 : Int32) = 84 by decide), if_neg (show ¬ (88 : Int32) = 85 by decide), if_neg (show ¬ (88 : Int32) = 86 by decide), if_neg (show ¬ (88 : Int32) = 87 by decide), if_pos rfl]
  unfold df_X7_fits_478 df_X7_fits_479 fzO
  by_cases a1 : v < (4)
  · rw [if_pos a1, decide_eq_true a1]
    exact z1 false
  rw [if_neg a1, decide_eq_false a1]
  by_cases a2 : 1020 < v
  · rw [if_pos a2, decide_eq_true a2]
    exact z1 false
  rw [if_neg a2, decide_eq_false a2]
  by_cases a3 : v &&& 3 = 0
  · rw [if_pos a3, decide_eq_true (show v &&& nI (4 - 1) = 0 from a3)]
    exact z1 true
  · rw [if_neg a3, decide_eq_false (show ¬ v &&& nI (4 - 1) = 0 from a3)]
    exact z1 false

/-- the class's bits of the other letters -/
def plS (v : Int32) : Int32 := ptO v 5 7 25 ||| ptO v 0 5 7
theorem pl_S (n : Nat) (v : Int32) : df_X7_placed n 83 v () = some (plS v, ()) := by
  unfold df_X7_placed df_X7_placed_0
  rw [if_neg (show ¬ (83 : Int32) = 72 by decide), if_neg (show ¬ (83 : Int32) = 73 by decide), if_neg (show ¬ (83 : Int32) = 74 by decide), if_neg (show ¬ (83 : Int32) = 75 by decide), if_neg (show ¬ (83 : Int32) = 76 by decide), if_neg (show ¬ (83 : Int32) = 77 by decide), if_neg (show ¬ (83 : Int32) = 78 by decide), if_neg (show ¬ (83 : Int32) = 79 by decide), if_neg (show ¬ (83 : Int32) = 80 by decide), if_neg (show ¬ (83 : Int32) = 81 by decide), if_neg (show ¬ (83 : Int32) = 82 by decide), if_pos rfl]
  rw [show df_X7_part n v 5 7 25 () = some (ptO v 5 7 25, ()) from pa_1 n v 5 7 25 (by omega), nb_b2, show df_X7_part n v 0 5 7 () = some (ptO v 0 5 7, ()) from pa_1 n v 0 5 7 (by omega), nb_b2]
  rfl
def plX (v : Int32) : Int32 := ptO v 4 2 11 ||| ptO v 6 4 7 ||| ptO v 2 1 6 ||| ptO v 3 1 5
theorem pl_X (n : Nat) (v : Int32) : df_X7_placed n 88 v () = some (plX v, ()) := by
  unfold df_X7_placed df_X7_placed_0
  rw [if_neg (show ¬ (88 : Int32) = 72 by decide), if_neg (show ¬ (88 : Int32) = 73 by decide), if_neg (show ¬ (88 : Int32) = 74 by decide), if_neg (show ¬ (88 : Int32) = 75 by decide), if_neg (show ¬ (88 : Int32) = 76 by decide), if_neg (show ¬ (88 : Int32) = 77 by decide), if_neg (show ¬ (88 : Int32) = 78 by decide), if_neg (show ¬ (88 : Int32) = 79 by decide), if_neg (show ¬ (88 : Int32) = 80 by decide), if_neg (show ¬ (88 : Int32) = 81 by decide), if_neg (show ¬ (88 : Int32) = 82 by decide), if_neg (show ¬ (88 : Int32) = 83 by decide), if_neg (show ¬ (88 : Int32) = 84 by decide), if_neg (show ¬ (88 : Int32) = 85 by decide), if_neg (show ¬ (88 : Int32) = 86 by decide), if_neg (show ¬ (88 : Int32) = 87 by decide), if_pos rfl]
  unfold df_X7_placed_371 df_X7_placedShort df_X7_placedShort_0
  rw [if_neg (show ¬ (88 : Int32) = 75 by decide), if_neg (show ¬ (88 : Int32) = 76 by decide), if_neg (show ¬ (88 : Int32) = 77 by decide), if_neg (show ¬ (88 : Int32) = 78 by decide), if_neg (show ¬ (88 : Int32) = 79 by decide), if_neg (show ¬ (88 : Int32) = 80 by decide), if_neg (show ¬ (88 : Int32) = 81 by decide), if_neg (show ¬ (88 : Int32) = 82 by decide), if_neg (show ¬ (88 : Int32) = 83 by decide), if_neg (show ¬ (88 : Int32) = 84 by decide), if_neg (show ¬ (88 : Int32) = 85 by decide), if_neg (show ¬ (88 : Int32) = 86 by decide), if_neg (show ¬ (88 : Int32) = 87 by decide), if_pos rfl]
  rw [show df_X7_part n v 4 2 11 () = some (ptO v 4 2 11, ()) from pa_1 n v 4 2 11 (by omega), nb_b2, show df_X7_part n v 6 4 7 () = some (ptO v 6 4 7, ()) from pa_1 n v 6 4 7 (by omega), nb_b2, show df_X7_part n v 2 1 6 () = some (ptO v 2 1 6, ()) from pa_1 n v 2 1 6 (by omega), nb_b2, show df_X7_part n v 3 1 5 () = some (ptO v 3 1 5, ()) from pa_1 n v 3 1 5 (by omega), nb_b2]
  rfl
def plW (v : Int32) : Int32 := ptO v 3 3 10 ||| ptO v 2 1 6 ||| ptO v 6 1 5
theorem pl_W (n : Nat) (v : Int32) : df_X7_placed n 87 v () = some (plW v, ()) := by
  unfold df_X7_placed df_X7_placed_0
  rw [if_neg (show ¬ (87 : Int32) = 72 by decide), if_neg (show ¬ (87 : Int32) = 73 by decide), if_neg (show ¬ (87 : Int32) = 74 by decide), if_neg (show ¬ (87 : Int32) = 75 by decide), if_neg (show ¬ (87 : Int32) = 76 by decide), if_neg (show ¬ (87 : Int32) = 77 by decide), if_neg (show ¬ (87 : Int32) = 78 by decide), if_neg (show ¬ (87 : Int32) = 79 by decide), if_neg (show ¬ (87 : Int32) = 80 by decide), if_neg (show ¬ (87 : Int32) = 81 by decide), if_neg (show ¬ (87 : Int32) = 82 by decide), if_neg (show ¬ (87 : Int32) = 83 by decide), if_neg (show ¬ (87 : Int32) = 84 by decide), if_neg (show ¬ (87 : Int32) = 85 by decide), if_neg (show ¬ (87 : Int32) = 86 by decide), if_pos rfl]
  unfold df_X7_placed_371 df_X7_placedShort df_X7_placedShort_0
  rw [if_neg (show ¬ (87 : Int32) = 75 by decide), if_neg (show ¬ (87 : Int32) = 76 by decide), if_neg (show ¬ (87 : Int32) = 77 by decide), if_neg (show ¬ (87 : Int32) = 78 by decide), if_neg (show ¬ (87 : Int32) = 79 by decide), if_neg (show ¬ (87 : Int32) = 80 by decide), if_neg (show ¬ (87 : Int32) = 81 by decide), if_neg (show ¬ (87 : Int32) = 82 by decide), if_neg (show ¬ (87 : Int32) = 83 by decide), if_neg (show ¬ (87 : Int32) = 84 by decide), if_neg (show ¬ (87 : Int32) = 85 by decide), if_neg (show ¬ (87 : Int32) = 86 by decide), if_pos rfl]
  rw [show df_X7_part n v 3 3 10 () = some (ptO v 3 3 10, ()) from pa_1 n v 3 3 10 (by omega), nb_b2, show df_X7_part n v 2 1 6 () = some (ptO v 2 1 6, ()) from pa_1 n v 2 1 6 (by omega), nb_b2, show df_X7_part n v 6 1 5 () = some (ptO v 6 1 5, ()) from pa_1 n v 6 1 5 (by omega), nb_b2]
  rfl
def plY (v : Int32) : Int32 := ptO v 9 1 12 ||| ptO v 4 1 6 ||| ptO v 6 1 5 ||| ptO v 7 2 3 ||| ptO v 5 1 2
theorem pl_Y (n : Nat) (v : Int32) : df_X7_placed n 89 v () = some (plY v, ()) := by
  unfold df_X7_placed df_X7_placed_0
  rw [if_neg (show ¬ (89 : Int32) = 72 by decide), if_neg (show ¬ (89 : Int32) = 73 by decide), if_neg (show ¬ (89 : Int32) = 74 by decide), if_neg (show ¬ (89 : Int32) = 75 by decide), if_neg (show ¬ (89 : Int32) = 76 by decide), if_neg (show ¬ (89 : Int32) = 77 by decide), if_neg (show ¬ (89 : Int32) = 78 by decide), if_neg (show ¬ (89 : Int32) = 79 by decide), if_neg (show ¬ (89 : Int32) = 80 by decide), if_neg (show ¬ (89 : Int32) = 81 by decide), if_neg (show ¬ (89 : Int32) = 82 by decide), if_neg (show ¬ (89 : Int32) = 83 by decide), if_neg (show ¬ (89 : Int32) = 84 by decide), if_neg (show ¬ (89 : Int32) = 85 by decide), if_neg (show ¬ (89 : Int32) = 86 by decide), if_neg (show ¬ (89 : Int32) = 87 by decide), if_neg (show ¬ (89 : Int32) = 88 by decide), if_pos rfl]
  unfold df_X7_placed_371 df_X7_placedShort df_X7_placedShort_0
  rw [if_neg (show ¬ (89 : Int32) = 75 by decide), if_neg (show ¬ (89 : Int32) = 76 by decide), if_neg (show ¬ (89 : Int32) = 77 by decide), if_neg (show ¬ (89 : Int32) = 78 by decide), if_neg (show ¬ (89 : Int32) = 79 by decide), if_neg (show ¬ (89 : Int32) = 80 by decide), if_neg (show ¬ (89 : Int32) = 81 by decide), if_neg (show ¬ (89 : Int32) = 82 by decide), if_neg (show ¬ (89 : Int32) = 83 by decide), if_neg (show ¬ (89 : Int32) = 84 by decide), if_neg (show ¬ (89 : Int32) = 85 by decide), if_neg (show ¬ (89 : Int32) = 86 by decide), if_neg (show ¬ (89 : Int32) = 87 by decide), if_neg (show ¬ (89 : Int32) = 88 by decide), if_pos rfl]
  rw [show df_X7_part n v 9 1 12 () = some (ptO v 9 1 12, ()) from pa_1 n v 9 1 12 (by omega), nb_b2, show df_X7_part n v 4 1 6 () = some (ptO v 4 1 6, ()) from pa_1 n v 4 1 6 (by omega), nb_b2, show df_X7_part n v 6 1 5 () = some (ptO v 6 1 5, ()) from pa_1 n v 6 1 5 (by omega), nb_b2, show df_X7_part n v 7 2 3 () = some (ptO v 7 2 3, ()) from pa_1 n v 7 2 3 (by omega), nb_b2, show df_X7_part n v 5 1 2 () = some (ptO v 5 1 2, ()) from pa_1 n v 5 1 2 (by omega), nb_b2]
  rfl
def plV (v : Int32) : Int32 := ptO v 0 5 2
theorem pl_V (n : Nat) (v : Int32) : df_X7_placed n 86 v () = some (plV v, ()) := by
  unfold df_X7_placed df_X7_placed_0
  rw [if_neg (show ¬ (86 : Int32) = 72 by decide), if_neg (show ¬ (86 : Int32) = 73 by decide), if_neg (show ¬ (86 : Int32) = 74 by decide), if_neg (show ¬ (86 : Int32) = 75 by decide), if_neg (show ¬ (86 : Int32) = 76 by decide), if_neg (show ¬ (86 : Int32) = 77 by decide), if_neg (show ¬ (86 : Int32) = 78 by decide), if_neg (show ¬ (86 : Int32) = 79 by decide), if_neg (show ¬ (86 : Int32) = 80 by decide), if_neg (show ¬ (86 : Int32) = 81 by decide), if_neg (show ¬ (86 : Int32) = 82 by decide), if_neg (show ¬ (86 : Int32) = 83 by decide), if_neg (show ¬ (86 : Int32) = 84 by decide), if_neg (show ¬ (86 : Int32) = 85 by decide), if_pos rfl]
  unfold df_X7_placed_371 df_X7_placedShort df_X7_placedShort_0
  rw [if_neg (show ¬ (86 : Int32) = 75 by decide), if_neg (show ¬ (86 : Int32) = 76 by decide), if_neg (show ¬ (86 : Int32) = 77 by decide), if_neg (show ¬ (86 : Int32) = 78 by decide), if_neg (show ¬ (86 : Int32) = 79 by decide), if_neg (show ¬ (86 : Int32) = 80 by decide), if_neg (show ¬ (86 : Int32) = 81 by decide), if_neg (show ¬ (86 : Int32) = 82 by decide), if_neg (show ¬ (86 : Int32) = 83 by decide), if_neg (show ¬ (86 : Int32) = 84 by decide), if_neg (show ¬ (86 : Int32) = 85 by decide), if_pos rfl]
  rw [show df_X7_part n v 0 5 2 () = some (ptO v 0 5 2, ()) from pa_1 n v 0 5 2 (by omega), nb_b2]
  rfl
def plP (v : Int32) : Int32 := ptO v 5 1 12 ||| ptO v 2 3 4 ||| ptO v 6 2 2
theorem pl_P (n : Nat) (v : Int32) : df_X7_placed n 80 v () = some (plP v, ()) := by
  unfold df_X7_placed df_X7_placed_0
  rw [if_neg (show ¬ (80 : Int32) = 72 by decide), if_neg (show ¬ (80 : Int32) = 73 by decide), if_neg (show ¬ (80 : Int32) = 74 by decide), if_neg (show ¬ (80 : Int32) = 75 by decide), if_neg (show ¬ (80 : Int32) = 76 by decide), if_neg (show ¬ (80 : Int32) = 77 by decide), if_neg (show ¬ (80 : Int32) = 78 by decide), if_neg (show ¬ (80 : Int32) = 79 by decide), if_pos rfl]
  unfold df_X7_placed_371 df_X7_placedShort df_X7_placedShort_0
  rw [if_neg (show ¬ (80 : Int32) = 75 by decide), if_neg (show ¬ (80 : Int32) = 76 by decide), if_neg (show ¬ (80 : Int32) = 77 by decide), if_neg (show ¬ (80 : Int32) = 78 by decide), if_neg (show ¬ (80 : Int32) = 79 by decide), if_pos rfl]
  rw [show df_X7_part n v 5 1 12 () = some (ptO v 5 1 12, ()) from pa_1 n v 5 1 12 (by omega), nb_b2, show df_X7_part n v 2 3 4 () = some (ptO v 2 3 4, ()) from pa_1 n v 2 3 4 (by omega), nb_b2, show df_X7_part n v 6 2 2 () = some (ptO v 6 2 2, ()) from pa_1 n v 6 2 2 (by omega), nb_b2]
  rfl
def plQ (v : Int32) : Int32 := ptO v 2 4 9 ||| ptO v 6 2 7
theorem pl_Q (n : Nat) (v : Int32) : df_X7_placed n 81 v () = some (plQ v, ()) := by
  unfold df_X7_placed df_X7_placed_0
  rw [if_neg (show ¬ (81 : Int32) = 72 by decide), if_neg (show ¬ (81 : Int32) = 73 by decide), if_neg (show ¬ (81 : Int32) = 74 by decide), if_neg (show ¬ (81 : Int32) = 75 by decide), if_neg (show ¬ (81 : Int32) = 76 by decide), if_neg (show ¬ (81 : Int32) = 77 by decide), if_neg (show ¬ (81 : Int32) = 78 by decide), if_neg (show ¬ (81 : Int32) = 79 by decide), if_neg (show ¬ (81 : Int32) = 80 by decide), if_pos rfl]
  unfold df_X7_placed_371 df_X7_placedShort df_X7_placedShort_0
  rw [if_neg (show ¬ (81 : Int32) = 75 by decide), if_neg (show ¬ (81 : Int32) = 76 by decide), if_neg (show ¬ (81 : Int32) = 77 by decide), if_neg (show ¬ (81 : Int32) = 78 by decide), if_neg (show ¬ (81 : Int32) = 79 by decide), if_neg (show ¬ (81 : Int32) = 80 by decide), if_pos rfl]
  rw [show df_X7_part n v 2 4 9 () = some (ptO v 2 4 9, ()) from pa_1 n v 2 4 9 (by omega), nb_b2, show df_X7_part n v 6 2 7 () = some (ptO v 6 2 7, ()) from pa_1 n v 6 2 7 (by omega), nb_b2]
  rfl
def plM (v : Int32) : Int32 := ptO v 5 1 12 ||| ptO v 0 5 2
theorem pl_M (n : Nat) (v : Int32) : df_X7_placed n 77 v () = some (plM v, ()) := by
  unfold df_X7_placed df_X7_placed_0
  rw [if_neg (show ¬ (77 : Int32) = 72 by decide), if_neg (show ¬ (77 : Int32) = 73 by decide), if_neg (show ¬ (77 : Int32) = 74 by decide), if_neg (show ¬ (77 : Int32) = 75 by decide), if_neg (show ¬ (77 : Int32) = 76 by decide), if_pos rfl]
  unfold df_X7_placed_371 df_X7_placedShort df_X7_placedShort_0
  rw [if_neg (show ¬ (77 : Int32) = 75 by decide), if_neg (show ¬ (77 : Int32) = 76 by decide), if_pos rfl]
  unfold df_X7_placedShort_195
  rw [show df_X7_part n v 5 1 12 () = some (ptO v 5 1 12, ()) from pa_1 n v 5 1 12 (by omega), nb_b2, show df_X7_part n v 0 5 2 () = some (ptO v 0 5 2, ()) from pa_1 n v 0 5 2 (by omega), nb_b2]
  rfl
theorem plr_d (n : Nat) (v : Int32) : df_X7_placed n 100 v () = some (v <<< ((7 : Int32) &&& 31), ()) := by
  unfold df_X7_placed df_X7_placed_0
  rw [if_neg (show ¬ (100 : Int32) = 72 by decide), if_neg (show ¬ (100 : Int32) = 73 by decide), if_neg (show ¬ (100 : Int32) = 74 by decide), if_neg (show ¬ (100 : Int32) = 75 by decide), if_neg (show ¬ (100 : Int32) = 76 by decide), if_neg (show ¬ (100 : Int32) = 77 by decide), if_neg (show ¬ (100 : Int32) = 78 by decide), if_neg (show ¬ (100 : Int32) = 79 by decide), if_neg (show ¬ (100 : Int32) = 80 by decide), if_neg (show ¬ (100 : Int32) = 81 by decide), if_neg (show ¬ (100 : Int32) = 82 by decide), if_neg (show ¬ (100 : Int32) = 83 by decide), if_neg (show ¬ (100 : Int32) = 84 by decide), if_neg (show ¬ (100 : Int32) = 85 by decide), if_neg (show ¬ (100 : Int32) = 86 by decide), if_neg (show ¬ (100 : Int32) = 87 by decide), if_neg (show ¬ (100 : Int32) = 88 by decide), if_neg (show ¬ (100 : Int32) = 89 by decide), if_neg (show ¬ (100 : Int32) = 90 by decide), if_neg (show ¬ (100 : Int32) = 91 by decide), if_neg (show ¬ (100 : Int32) = 92 by decide), if_neg (show ¬ (100 : Int32) = 93 by decide), if_neg (show ¬ (100 : Int32) = 94 by decide), if_neg (show ¬ (100 : Int32) = 95 by decide), if_neg (show ¬ (100 : Int32) = 96 by decide), if_neg (show ¬ (100 : Int32) = 97 by decide), if_neg (show ¬ (100 : Int32) = 98 by decide), if_neg (show ¬ (100 : Int32) = 99 by decide), if_pos rfl]
  rfl
theorem plr_n (n : Nat) (v : Int32) : df_X7_placed n 110 v () = some (v <<< ((7 : Int32) &&& 31), ()) := by
  unfold df_X7_placed df_X7_placed_0
  rw [if_neg (show ¬ (110 : Int32) = 72 by decide), if_neg (show ¬ (110 : Int32) = 73 by decide), if_neg (show ¬ (110 : Int32) = 74 by decide), if_neg (show ¬ (110 : Int32) = 75 by decide), if_neg (show ¬ (110 : Int32) = 76 by decide), if_neg (show ¬ (110 : Int32) = 77 by decide), if_neg (show ¬ (110 : Int32) = 78 by decide), if_neg (show ¬ (110 : Int32) = 79 by decide), if_neg (show ¬ (110 : Int32) = 80 by decide), if_neg (show ¬ (110 : Int32) = 81 by decide), if_neg (show ¬ (110 : Int32) = 82 by decide), if_neg (show ¬ (110 : Int32) = 83 by decide), if_neg (show ¬ (110 : Int32) = 84 by decide), if_neg (show ¬ (110 : Int32) = 85 by decide), if_neg (show ¬ (110 : Int32) = 86 by decide), if_neg (show ¬ (110 : Int32) = 87 by decide), if_neg (show ¬ (110 : Int32) = 88 by decide), if_neg (show ¬ (110 : Int32) = 89 by decide), if_neg (show ¬ (110 : Int32) = 90 by decide), if_neg (show ¬ (110 : Int32) = 91 by decide), if_neg (show ¬ (110 : Int32) = 92 by decide), if_neg (show ¬ (110 : Int32) = 93 by decide), if_neg (show ¬ (110 : Int32) = 94 by decide), if_neg (show ¬ (110 : Int32) = 95 by decide), if_neg (show ¬ (110 : Int32) = 96 by decide), if_neg (show ¬ (110 : Int32) = 97 by decide), if_neg (show ¬ (110 : Int32) = 98 by decide), if_neg (show ¬ (110 : Int32) = 99 by decide), if_neg (show ¬ (110 : Int32) = 100 by decide), if_neg (show ¬ (110 : Int32) = 101 by decide), if_neg (show ¬ (110 : Int32) = 102 by decide), if_neg (show ¬ (110 : Int32) = 103 by decide), if_neg (show ¬ (110 : Int32) = 104 by decide), if_neg (show ¬ (110 : Int32) = 105 by decide), if_neg (show ¬ (110 : Int32) = 106 by decide), if_neg (show ¬ (110 : Int32) = 107 by decide), if_neg (show ¬ (110 : Int32) = 108 by decide), if_neg (show ¬ (110 : Int32) = 109 by decide), if_pos rfl]
  rfl
theorem plr_m (n : Nat) (v : Int32) : df_X7_placed n 109 v () = some (v <<< ((7 : Int32) &&& 31), ()) := by
  unfold df_X7_placed df_X7_placed_0
  rw [if_neg (show ¬ (109 : Int32) = 72 by decide), if_neg (show ¬ (109 : Int32) = 73 by decide), if_neg (show ¬ (109 : Int32) = 74 by decide), if_neg (show ¬ (109 : Int32) = 75 by decide), if_neg (show ¬ (109 : Int32) = 76 by decide), if_neg (show ¬ (109 : Int32) = 77 by decide), if_neg (show ¬ (109 : Int32) = 78 by decide), if_neg (show ¬ (109 : Int32) = 79 by decide), if_neg (show ¬ (109 : Int32) = 80 by decide), if_neg (show ¬ (109 : Int32) = 81 by decide), if_neg (show ¬ (109 : Int32) = 82 by decide), if_neg (show ¬ (109 : Int32) = 83 by decide), if_neg (show ¬ (109 : Int32) = 84 by decide), if_neg (show ¬ (109 : Int32) = 85 by decide), if_neg (show ¬ (109 : Int32) = 86 by decide), if_neg (show ¬ (109 : Int32) = 87 by decide), if_neg (show ¬ (109 : Int32) = 88 by decide), if_neg (show ¬ (109 : Int32) = 89 by decide), if_neg (show ¬ (109 : Int32) = 90 by decide), if_neg (show ¬ (109 : Int32) = 91 by decide), if_neg (show ¬ (109 : Int32) = 92 by decide), if_neg (show ¬ (109 : Int32) = 93 by decide), if_neg (show ¬ (109 : Int32) = 94 by decide), if_neg (show ¬ (109 : Int32) = 95 by decide), if_neg (show ¬ (109 : Int32) = 96 by decide), if_neg (show ¬ (109 : Int32) = 97 by decide), if_neg (show ¬ (109 : Int32) = 98 by decide), if_neg (show ¬ (109 : Int32) = 99 by decide), if_neg (show ¬ (109 : Int32) = 100 by decide), if_neg (show ¬ (109 : Int32) = 101 by decide), if_neg (show ¬ (109 : Int32) = 102 by decide), if_neg (show ¬ (109 : Int32) = 103 by decide), if_neg (show ¬ (109 : Int32) = 104 by decide), if_neg (show ¬ (109 : Int32) = 105 by decide), if_neg (show ¬ (109 : Int32) = 106 by decide), if_neg (show ¬ (109 : Int32) = 107 by decide), if_neg (show ¬ (109 : Int32) = 108 by decide), if_pos rfl]
  rfl
theorem plr_a (n : Nat) (v : Int32) : df_X7_placed n 97 v () = some (v <<< ((15 : Int32) &&& 31), ()) := by
  unfold df_X7_placed df_X7_placed_0
  rw [if_neg (show ¬ (97 : Int32) = 72 by decide), if_neg (show ¬ (97 : Int32) = 73 by decide), if_neg (show ¬ (97 : Int32) = 74 by decide), if_neg (show ¬ (97 : Int32) = 75 by decide), if_neg (show ¬ (97 : Int32) = 76 by decide), if_neg (show ¬ (97 : Int32) = 77 by decide), if_neg (show ¬ (97 : Int32) = 78 by decide), if_neg (show ¬ (97 : Int32) = 79 by decide), if_neg (show ¬ (97 : Int32) = 80 by decide), if_neg (show ¬ (97 : Int32) = 81 by decide), if_neg (show ¬ (97 : Int32) = 82 by decide), if_neg (show ¬ (97 : Int32) = 83 by decide), if_neg (show ¬ (97 : Int32) = 84 by decide), if_neg (show ¬ (97 : Int32) = 85 by decide), if_neg (show ¬ (97 : Int32) = 86 by decide), if_neg (show ¬ (97 : Int32) = 87 by decide), if_neg (show ¬ (97 : Int32) = 88 by decide), if_neg (show ¬ (97 : Int32) = 89 by decide), if_neg (show ¬ (97 : Int32) = 90 by decide), if_neg (show ¬ (97 : Int32) = 91 by decide), if_neg (show ¬ (97 : Int32) = 92 by decide), if_neg (show ¬ (97 : Int32) = 93 by decide), if_neg (show ¬ (97 : Int32) = 94 by decide), if_neg (show ¬ (97 : Int32) = 95 by decide), if_neg (show ¬ (97 : Int32) = 96 by decide), if_pos rfl]
theorem plr_b (n : Nat) (v : Int32) : df_X7_placed n 98 v () = some (v <<< ((20 : Int32) &&& 31), ()) := by
  unfold df_X7_placed df_X7_placed_0
  rw [if_neg (show ¬ (98 : Int32) = 72 by decide), if_neg (show ¬ (98 : Int32) = 73 by decide), if_neg (show ¬ (98 : Int32) = 74 by decide), if_neg (show ¬ (98 : Int32) = 75 by decide), if_neg (show ¬ (98 : Int32) = 76 by decide), if_neg (show ¬ (98 : Int32) = 77 by decide), if_neg (show ¬ (98 : Int32) = 78 by decide), if_neg (show ¬ (98 : Int32) = 79 by decide), if_neg (show ¬ (98 : Int32) = 80 by decide), if_neg (show ¬ (98 : Int32) = 81 by decide), if_neg (show ¬ (98 : Int32) = 82 by decide), if_neg (show ¬ (98 : Int32) = 83 by decide), if_neg (show ¬ (98 : Int32) = 84 by decide), if_neg (show ¬ (98 : Int32) = 85 by decide), if_neg (show ¬ (98 : Int32) = 86 by decide), if_neg (show ¬ (98 : Int32) = 87 by decide), if_neg (show ¬ (98 : Int32) = 88 by decide), if_neg (show ¬ (98 : Int32) = 89 by decide), if_neg (show ¬ (98 : Int32) = 90 by decide), if_neg (show ¬ (98 : Int32) = 91 by decide), if_neg (show ¬ (98 : Int32) = 92 by decide), if_neg (show ¬ (98 : Int32) = 93 by decide), if_neg (show ¬ (98 : Int32) = 94 by decide), if_neg (show ¬ (98 : Int32) = 95 by decide), if_neg (show ¬ (98 : Int32) = 96 by decide), if_neg (show ¬ (98 : Int32) = 97 by decide), if_pos rfl]
theorem plr_s (n : Nat) (v : Int32) : df_X7_placed n 115 v () = some (v <<< ((2 : Int32) &&& 31), ()) := by
  unfold df_X7_placed df_X7_placed_0
  rw [if_neg (show ¬ (115 : Int32) = 72 by decide), if_neg (show ¬ (115 : Int32) = 73 by decide), if_neg (show ¬ (115 : Int32) = 74 by decide), if_neg (show ¬ (115 : Int32) = 75 by decide), if_neg (show ¬ (115 : Int32) = 76 by decide), if_neg (show ¬ (115 : Int32) = 77 by decide), if_neg (show ¬ (115 : Int32) = 78 by decide), if_neg (show ¬ (115 : Int32) = 79 by decide), if_neg (show ¬ (115 : Int32) = 80 by decide), if_neg (show ¬ (115 : Int32) = 81 by decide), if_neg (show ¬ (115 : Int32) = 82 by decide), if_neg (show ¬ (115 : Int32) = 83 by decide), if_neg (show ¬ (115 : Int32) = 84 by decide), if_neg (show ¬ (115 : Int32) = 85 by decide), if_neg (show ¬ (115 : Int32) = 86 by decide), if_neg (show ¬ (115 : Int32) = 87 by decide), if_neg (show ¬ (115 : Int32) = 88 by decide), if_neg (show ¬ (115 : Int32) = 89 by decide), if_neg (show ¬ (115 : Int32) = 90 by decide), if_neg (show ¬ (115 : Int32) = 91 by decide), if_neg (show ¬ (115 : Int32) = 92 by decide), if_neg (show ¬ (115 : Int32) = 93 by decide), if_neg (show ¬ (115 : Int32) = 94 by decide), if_neg (show ¬ (115 : Int32) = 95 by decide), if_neg (show ¬ (115 : Int32) = 96 by decide), if_neg (show ¬ (115 : Int32) = 97 by decide), if_neg (show ¬ (115 : Int32) = 98 by decide), if_neg (show ¬ (115 : Int32) = 99 by decide), if_neg (show ¬ (115 : Int32) = 100 by decide), if_neg (show ¬ (115 : Int32) = 101 by decide), if_neg (show ¬ (115 : Int32) = 102 by decide), if_neg (show ¬ (115 : Int32) = 103 by decide), if_neg (show ¬ (115 : Int32) = 104 by decide), if_neg (show ¬ (115 : Int32) = 105 by decide), if_neg (show ¬ (115 : Int32) = 106 by decide), if_neg (show ¬ (115 : Int32) = 107 by decide), if_neg (show ¬ (115 : Int32) = 108 by decide), if_neg (show ¬ (115 : Int32) = 109 by decide), if_neg (show ¬ (115 : Int32) = 110 by decide), if_neg (show ¬ (115 : Int32) = 111 by decide), if_neg (show ¬ (115 : Int32) = 112 by decide), if_neg (show ¬ (115 : Int32) = 113 by decide), if_neg (show ¬ (115 : Int32) = 114 by decide), if_pos rfl]
  rfl
theorem plr_z (n : Nat) (v : Int32) : df_X7_placed n 122 v () = some (v <<< ((2 : Int32) &&& 31), ()) := by
  unfold df_X7_placed df_X7_placed_0
  rw [if_neg (show ¬ (122 : Int32) = 72 by decide), if_neg (show ¬ (122 : Int32) = 73 by decide), if_neg (show ¬ (122 : Int32) = 74 by decide), if_neg (show ¬ (122 : Int32) = 75 by decide), if_neg (show ¬ (122 : Int32) = 76 by decide), if_neg (show ¬ (122 : Int32) = 77 by decide), if_neg (show ¬ (122 : Int32) = 78 by decide), if_neg (show ¬ (122 : Int32) = 79 by decide), if_neg (show ¬ (122 : Int32) = 80 by decide), if_neg (show ¬ (122 : Int32) = 81 by decide), if_neg (show ¬ (122 : Int32) = 82 by decide), if_neg (show ¬ (122 : Int32) = 83 by decide), if_neg (show ¬ (122 : Int32) = 84 by decide), if_neg (show ¬ (122 : Int32) = 85 by decide), if_neg (show ¬ (122 : Int32) = 86 by decide), if_neg (show ¬ (122 : Int32) = 87 by decide), if_neg (show ¬ (122 : Int32) = 88 by decide), if_neg (show ¬ (122 : Int32) = 89 by decide), if_neg (show ¬ (122 : Int32) = 90 by decide), if_neg (show ¬ (122 : Int32) = 91 by decide), if_neg (show ¬ (122 : Int32) = 92 by decide), if_neg (show ¬ (122 : Int32) = 93 by decide), if_neg (show ¬ (122 : Int32) = 94 by decide), if_neg (show ¬ (122 : Int32) = 95 by decide), if_neg (show ¬ (122 : Int32) = 96 by decide), if_neg (show ¬ (122 : Int32) = 97 by decide), if_neg (show ¬ (122 : Int32) = 98 by decide), if_neg (show ¬ (122 : Int32) = 99 by decide), if_neg (show ¬ (122 : Int32) = 100 by decide), if_neg (show ¬ (122 : Int32) = 101 by decide), if_neg (show ¬ (122 : Int32) = 102 by decide), if_neg (show ¬ (122 : Int32) = 103 by decide), if_neg (show ¬ (122 : Int32) = 104 by decide), if_neg (show ¬ (122 : Int32) = 105 by decide), if_neg (show ¬ (122 : Int32) = 106 by decide), if_neg (show ¬ (122 : Int32) = 107 by decide), if_neg (show ¬ (122 : Int32) = 108 by decide), if_neg (show ¬ (122 : Int32) = 109 by decide), if_neg (show ¬ (122 : Int32) = 110 by decide), if_neg (show ¬ (122 : Int32) = 111 by decide), if_neg (show ¬ (122 : Int32) = 112 by decide), if_neg (show ¬ (122 : Int32) = 113 by decide), if_neg (show ¬ (122 : Int32) = 114 by decide), if_neg (show ¬ (122 : Int32) = 115 by decide), if_neg (show ¬ (122 : Int32) = 116 by decide), if_neg (show ¬ (122 : Int32) = 117 by decide), if_neg (show ¬ (122 : Int32) = 118 by decide), if_neg (show ¬ (122 : Int32) = 119 by decide), if_neg (show ¬ (122 : Int32) = 120 by decide), if_neg (show ¬ (122 : Int32) = 121 by decide), if_pos rfl]
  rfl
theorem plr_p (n : Nat) (v : Int32) : df_X7_placed n 112 v () = some ((v &&& 7) <<< ((2 : Int32) &&& 31), ()) := by
  unfold df_X7_placed df_X7_placed_0
  rw [if_neg (show ¬ (112 : Int32) = 72 by decide), if_neg (show ¬ (112 : Int32) = 73 by decide), if_neg (show ¬ (112 : Int32) = 74 by decide), if_neg (show ¬ (112 : Int32) = 75 by decide), if_neg (show ¬ (112 : Int32) = 76 by decide), if_neg (show ¬ (112 : Int32) = 77 by decide), if_neg (show ¬ (112 : Int32) = 78 by decide), if_neg (show ¬ (112 : Int32) = 79 by decide), if_neg (show ¬ (112 : Int32) = 80 by decide), if_neg (show ¬ (112 : Int32) = 81 by decide), if_neg (show ¬ (112 : Int32) = 82 by decide), if_neg (show ¬ (112 : Int32) = 83 by decide), if_neg (show ¬ (112 : Int32) = 84 by decide), if_neg (show ¬ (112 : Int32) = 85 by decide), if_neg (show ¬ (112 : Int32) = 86 by decide), if_neg (show ¬ (112 : Int32) = 87 by decide), if_neg (show ¬ (112 : Int32) = 88 by decide), if_neg (show ¬ (112 : Int32) = 89 by decide), if_neg (show ¬ (112 : Int32) = 90 by decide), if_neg (show ¬ (112 : Int32) = 91 by decide), if_neg (show ¬ (112 : Int32) = 92 by decide), if_neg (show ¬ (112 : Int32) = 93 by decide), if_neg (show ¬ (112 : Int32) = 94 by decide), if_neg (show ¬ (112 : Int32) = 95 by decide), if_neg (show ¬ (112 : Int32) = 96 by decide), if_neg (show ¬ (112 : Int32) = 97 by decide), if_neg (show ¬ (112 : Int32) = 98 by decide), if_neg (show ¬ (112 : Int32) = 99 by decide), if_neg (show ¬ (112 : Int32) = 100 by decide), if_neg (show ¬ (112 : Int32) = 101 by decide), if_neg (show ¬ (112 : Int32) = 102 by decide), if_neg (show ¬ (112 : Int32) = 103 by decide), if_neg (show ¬ (112 : Int32) = 104 by decide), if_neg (show ¬ (112 : Int32) = 105 by decide), if_neg (show ¬ (112 : Int32) = 106 by decide), if_neg (show ¬ (112 : Int32) = 107 by decide), if_neg (show ¬ (112 : Int32) = 108 by decide), if_neg (show ¬ (112 : Int32) = 109 by decide), if_neg (show ¬ (112 : Int32) = 110 by decide), if_neg (show ¬ (112 : Int32) = 111 by decide), if_pos rfl]
theorem plr_q (n : Nat) (v : Int32) : df_X7_placed n 113 v () = some ((v &&& 7) <<< ((7 : Int32) &&& 31), ()) := by
  unfold df_X7_placed df_X7_placed_0
  rw [if_neg (show ¬ (113 : Int32) = 72 by decide), if_neg (show ¬ (113 : Int32) = 73 by decide), if_neg (show ¬ (113 : Int32) = 74 by decide), if_neg (show ¬ (113 : Int32) = 75 by decide), if_neg (show ¬ (113 : Int32) = 76 by decide), if_neg (show ¬ (113 : Int32) = 77 by decide), if_neg (show ¬ (113 : Int32) = 78 by decide), if_neg (show ¬ (113 : Int32) = 79 by decide), if_neg (show ¬ (113 : Int32) = 80 by decide), if_neg (show ¬ (113 : Int32) = 81 by decide), if_neg (show ¬ (113 : Int32) = 82 by decide), if_neg (show ¬ (113 : Int32) = 83 by decide), if_neg (show ¬ (113 : Int32) = 84 by decide), if_neg (show ¬ (113 : Int32) = 85 by decide), if_neg (show ¬ (113 : Int32) = 86 by decide), if_neg (show ¬ (113 : Int32) = 87 by decide), if_neg (show ¬ (113 : Int32) = 88 by decide), if_neg (show ¬ (113 : Int32) = 89 by decide), if_neg (show ¬ (113 : Int32) = 90 by decide), if_neg (show ¬ (113 : Int32) = 91 by decide), if_neg (show ¬ (113 : Int32) = 92 by decide), if_neg (show ¬ (113 : Int32) = 93 by decide), if_neg (show ¬ (113 : Int32) = 94 by decide), if_neg (show ¬ (113 : Int32) = 95 by decide), if_neg (show ¬ (113 : Int32) = 96 by decide), if_neg (show ¬ (113 : Int32) = 97 by decide), if_neg (show ¬ (113 : Int32) = 98 by decide), if_neg (show ¬ (113 : Int32) = 99 by decide), if_neg (show ¬ (113 : Int32) = 100 by decide), if_neg (show ¬ (113 : Int32) = 101 by decide), if_neg (show ¬ (113 : Int32) = 102 by decide), if_neg (show ¬ (113 : Int32) = 103 by decide), if_neg (show ¬ (113 : Int32) = 104 by decide), if_neg (show ¬ (113 : Int32) = 105 by decide), if_neg (show ¬ (113 : Int32) = 106 by decide), if_neg (show ¬ (113 : Int32) = 107 by decide), if_neg (show ¬ (113 : Int32) = 108 by decide), if_neg (show ¬ (113 : Int32) = 109 by decide), if_neg (show ¬ (113 : Int32) = 110 by decide), if_neg (show ¬ (113 : Int32) = 111 by decide), if_neg (show ¬ (113 : Int32) = 112 by decide), if_pos rfl]
theorem plr_I (n : Nat) (v : Int32) : df_X7_placed n 73 v () = some (v <<< ((20 : Int32) &&& 31), ()) := by
  unfold df_X7_placed df_X7_placed_0
  rw [if_neg (show ¬ (73 : Int32) = 72 by decide), if_pos rfl]
theorem plr_H (n : Nat) (v : Int32) : df_X7_placed n 72 v () = some ((v &&& 31) <<< ((20 : Int32) &&& 31), ()) := by
  unfold df_X7_placed df_X7_placed_0
  rw [if_pos rfl]
theorem plr_U (n : Nat) (v : Int32) : df_X7_placed n 85 v () = some (v <<< ((12 : Int32) &&& 31), ()) := by
  unfold df_X7_placed df_X7_placed_0
  rw [if_neg (show ¬ (85 : Int32) = 72 by decide), if_neg (show ¬ (85 : Int32) = 73 by decide), if_neg (show ¬ (85 : Int32) = 74 by decide), if_neg (show ¬ (85 : Int32) = 75 by decide), if_neg (show ¬ (85 : Int32) = 76 by decide), if_neg (show ¬ (85 : Int32) = 77 by decide), if_neg (show ¬ (85 : Int32) = 78 by decide), if_neg (show ¬ (85 : Int32) = 79 by decide), if_neg (show ¬ (85 : Int32) = 80 by decide), if_neg (show ¬ (85 : Int32) = 81 by decide), if_neg (show ¬ (85 : Int32) = 82 by decide), if_neg (show ¬ (85 : Int32) = 83 by decide), if_neg (show ¬ (85 : Int32) = 84 by decide), if_pos rfl]

/-- registers that a letter takes -/
theorem fr0_d : ∀ r : Fin 32, df_X7_fits 0 100 (nI r.1) () = some (bI (true), ()) := by decide +kernel
theorem fr1_d (n : Nat) {r : Nat} (h : r < 32) : df_X7_fits n 100 (nI r) () = some (bI (true), ()) := (show df_X7_fits n 100 (nI r) () = df_X7_fits 0 100 (nI r) () from rfl).trans (fr0_d ⟨r, h⟩)
theorem fr0_a : ∀ r : Fin 32, df_X7_fits 0 97 (nI r.1) () = some (bI (true), ()) := by decide +kernel
theorem fr1_a (n : Nat) {r : Nat} (h : r < 32) : df_X7_fits n 97 (nI r) () = some (bI (true), ()) := (show df_X7_fits n 97 (nI r) () = df_X7_fits 0 97 (nI r) () from rfl).trans (fr0_a ⟨r, h⟩)
theorem fr0_b : ∀ r : Fin 32, df_X7_fits 0 98 (nI r.1) () = some (bI (true), ()) := by decide +kernel
theorem fr1_b (n : Nat) {r : Nat} (h : r < 32) : df_X7_fits n 98 (nI r) () = some (bI (true), ()) := (show df_X7_fits n 98 (nI r) () = df_X7_fits 0 98 (nI r) () from rfl).trans (fr0_b ⟨r, h⟩)
theorem fr0_s : ∀ r : Fin 32, df_X7_fits 0 115 (nI r.1) () = some (bI (true), ()) := by decide +kernel
theorem fr1_s (n : Nat) {r : Nat} (h : r < 32) : df_X7_fits n 115 (nI r) () = some (bI (true), ()) := (show df_X7_fits n 115 (nI r) () = df_X7_fits 0 115 (nI r) () from rfl).trans (fr0_s ⟨r, h⟩)
theorem fr0_n : ∀ r : Fin 32, df_X7_fits 0 110 (nI r.1) () = some (bI (!decide (r.1 = 0)), ()) := by decide +kernel
theorem fr1_n (n : Nat) {r : Nat} (h : r < 32) : df_X7_fits n 110 (nI r) () = some (bI (!decide (r = 0)), ()) := (show df_X7_fits n 110 (nI r) () = df_X7_fits 0 110 (nI r) () from rfl).trans (fr0_n ⟨r, h⟩)
theorem fr0_z : ∀ r : Fin 32, df_X7_fits 0 122 (nI r.1) () = some (bI (!decide (r.1 = 0)), ()) := by decide +kernel
theorem fr1_z (n : Nat) {r : Nat} (h : r < 32) : df_X7_fits n 122 (nI r) () = some (bI (!decide (r = 0)), ()) := (show df_X7_fits n 122 (nI r) () = df_X7_fits 0 122 (nI r) () from rfl).trans (fr0_z ⟨r, h⟩)
theorem fr0_m : ∀ r : Fin 32, df_X7_fits 0 109 (nI r.1) () = some (bI (!decide (r.1 = 2)), ()) := by decide +kernel
theorem fr1_m (n : Nat) {r : Nat} (h : r < 32) : df_X7_fits n 109 (nI r) () = some (bI (!decide (r = 2)), ()) := (show df_X7_fits n 109 (nI r) () = df_X7_fits 0 109 (nI r) () from rfl).trans (fr0_m ⟨r, h⟩)
theorem fr0_p : ∀ r : Fin 32, df_X7_fits 0 112 (nI r.1) () = some (bI (decide (8 ≤ r.1 ∧ r.1 ≤ 15)), ()) := by decide +kernel
theorem fr1_p (n : Nat) {r : Nat} (h : r < 32) : df_X7_fits n 112 (nI r) () = some (bI (decide (8 ≤ r ∧ r ≤ 15)), ()) := (show df_X7_fits n 112 (nI r) () = df_X7_fits 0 112 (nI r) () from rfl).trans (fr0_p ⟨r, h⟩)
theorem fr0_q : ∀ r : Fin 32, df_X7_fits 0 113 (nI r.1) () = some (bI (decide (8 ≤ r.1 ∧ r.1 ≤ 15)), ()) := by decide +kernel
theorem fr1_q (n : Nat) {r : Nat} (h : r < 32) : df_X7_fits n 113 (nI r) () = some (bI (decide (8 ≤ r ∧ r ≤ 15)), ()) := (show df_X7_fits n 113 (nI r) () = df_X7_fits 0 113 (nI r) () from rfl).trans (fr0_q ⟨r, h⟩)
/-- a register of the class, letter by letter: fault or bits -/
theorem isT_0 : ∀ l : Fin 128, df_X7_isTarget 0 (nI l.1) () = some (bI (decide (l.1 = 84 ∨ l.1 = 74 ∨ l.1 = 75 ∨ l.1 = 76)), ()) := by decide +kernel
theorem isT_1 (n : Nat) {l : Nat} (h : l < 128) : df_X7_isTarget n (nI l) () = some (bI (decide (l = 84 ∨ l = 74 ∨ l = 75 ∨ l = 76)), ()) := (show df_X7_isTarget n (nI l) () = df_X7_isTarget 0 (nI l) () from rfl).trans (isT_0 ⟨l, h⟩)
/-- the forms of the class's statements are short -/
theorem fo_l : ∀ i : Fin 128, ks_n (ko_f i.1) ≤ 8 ∧ ko_f i.1 < 190 := by decide +kernel

/-- the reference: a sign that must be there, a register -/
theorem need_R {n : Nat} {B : St} {ft : Int32} {ms dv ls : Bool} {sg vl : Nat} {PL : Nat → Int32} {ap tk fr to : Nat} {nm : Int32} (v : Nat) (hv : v < 300) {p2 τ q : Nat} {x : Int32} (hτ : τ < 300) (T : df_X13_scan n (uR (xR B ft ms dv ls sg vl PL) ap tk fr to nm) = some (uR (xR B ft ms dv ls sg vl PL) p2 τ q p2 x)) : df_X13_needs n (nI v) (uR (xR B ft ms dv ls sg vl PL) ap tk fr to nm) = some (bI (decide (τ = v)), (uR (xR B (if τ = v then ft else (if ft = 0 then 1 + 16 * sI B 13 else ft)) ms dv ls sg vl PL) p2 τ q p2 x)) := by
  have z1 : ∀ (b : Bool) (x : Option (Int32 × St)), nd_z .boolean (bI b) x = x := fun b x => by cases b <;> exact nar_z (by decide)
  unfold df_X13_needs df_X13_needs_0 df_X13_needs_17 df_X13_needs_30
  rw [T, nb_b1, uR_i8]
  by_cases y : τ = v
  · rw [if_pos (congrArg nI y), if_pos (congrArg nI y), decide_eq_true y, if_pos y, show (1 : Int32) = bI true from rfl, z1]
  · rw [if_neg (zne y (by omega) (by omega)), rbl_1, nb_b1, uR_i8, if_neg (zne y (by omega) (by omega)), decide_eq_false y, if_neg y]
    exact z1 false _
/-- what taken() makes of a token: a register below 32, 33 for nothing that can be there, 32 for no register -/
def tkG (c : Nat → Nat) (τ q p2 : Nat) : Nat := if τ = 0 ∨ τ = 5 then 33 else if τ = 1 then reS (p2 - q) (c q) (c (q + 1)) (c (q + 2)) (c (q + 3)) else 32
theorem ite_l {p : Prop} [Decidable p] {x y : Nat} (hx : x ≤ 32) (hy : y ≤ 32) : (if p then x else y) ≤ 32 := by
  by_cases h : p
  · rw [if_pos h]; exact hx
  · rw [if_neg h]; exact hy
theorem reK_l (a m : Nat) : reK a m ≤ 32 := by
  unfold reK
  refine ite_l ?_ (ite_l ?_ (ite_l ?_ (ite_l ?_ (Nat.le_refl 32))))
  · split <;> omega
  · split <;> omega
  · split
    · omega
    · split <;> omega
  · split
    · omega
    · split <;> omega
theorem reS_l (l a b d e : Nat) : reS l a b d e ≤ 32 := by
  unfold reS
  exact ite_l (by omega) (ite_l (by omega) (ite_l (by omega) (ite_l (by omega) (ite_l (by omega) (ite_l (by omega) (ite_l (by omega) (ite_l (by omega) (reK_l _ _))))))))
theorem take_R {n L e : Nat} {c : Nat → Nat} {BC B : St} (hT : atx n L e c BC B) {ft : Int32} {ms dv ls : Bool} {sg vl : Nat} {PL : Nat → Int32} {ap tk fr to : Nat} {nm : Int32} {p2 τ q : Nat} {x : Int32} (hτ : τ < 300) (hw : τ = 1 → q ≤ p2 ∧ p2 ≤ e ∧ ∀ i : Nat, q ≤ i → i < p2 → aP (c i) = true) (T : df_X13_scan n (uR (xR B ft ms dv ls sg vl PL) ap tk fr to nm) = some (uR (xR B ft ms dv ls sg vl PL) p2 τ q p2 x)) : df_X13_taken n (uR (xR B ft ms dv ls sg vl PL) ap tk fr to nm) = some (if tkG c τ q p2 < 32 then nI (tkG c τ q p2) else 0, (uR (xR B (if tkG c τ q p2 < 32 then ft else if tkG c τ q p2 = 33 then (if ft = 0 then 1 + 16 * sI B 13 else ft) else (if ft = 0 then 3 + 16 * sI B 13 else ft)) ms dv ls sg vl PL) p2 τ q p2 x)) := by
  obtain ⟨hn, hL, heL, h127, hend, hce, hO, h1, htC, h0, htR, hch⟩ := id hT
  unfold df_X13_taken df_X13_taken_0
  rw [T, nb_b1, uR_i8]
  have t61 : ∀ (s : St), df_X13_taken_61 n (-1) s = some (0, s) := fun s => by
    unfold df_X13_taken_61 df_X13_taken_70
    rw [if_neg (show ¬ (0 : Int32) ≤ -1 by decide)]
  by_cases y : τ = 1
  · obtain ⟨w1, w2, w3⟩ := hw y
    have re := re_1 n (S := (uR (xR B ft ms dv ls sg vl PL) p2 τ q p2 x)) (c := c) q (p2 - q) (by omega) h127 (by omega) (fun i hi => ⟨w3 _ (by omega) (by omega), htR _ (by omega)⟩)
    rw [show q + (p2 - q) = p2 by omega] at re
    have g : tkG c τ q p2 = reS (p2 - q) (c q) (c (q + 1)) (c (q + 2)) (c (q + 3)) := by unfold tkG; rw [if_neg (by omega), if_pos y]
    rw [if_pos (show nI τ = (1 : Int32) from congrArg nI y), uR_i9, uR_i10, re, nb_b2, g]
    have rl := reS_l (p2 - q) (c q) (c (q + 1)) (c (q + 2)) (c (q + 3))
    generalize reS (p2 - q) (c q) (c (q + 1)) (c (q + 2)) (c (q + 3)) = r at rl
    unfold df_X13_taken_28
    rw [uR_i8, if_neg (show ¬ nI τ = (0 : Int32) from zne (b := 0) (by omega) (by omega) (by omega)), if_neg (show ¬ nI τ = (5 : Int32) from zne (b := 5) (by omega) (by omega) (by omega))]
    by_cases z : r < 32
    · have zr : (0 : Int32) ≤ nI r := zle (a := 0) (Nat.zero_le r) (by omega)
      rw [show rI r = nI r from if_pos z, if_pos zr, if_pos z, if_pos z]
      unfold df_X13_taken_61 df_X13_taken_70
      rw [if_pos zr]
    · rw [show rI r = -1 from if_neg z, if_neg (show ¬ (0 : Int32) ≤ -1 by decide), rbl_1, nb_b1, t61, if_neg z, if_neg z, if_neg (show ¬ r = 33 by omega)]
  · rw [if_neg (show ¬ nI τ = (1 : Int32) from zne (b := 1) y (by omega) (by omega))]
    unfold df_X13_taken_28 df_X13_taken_44
    rw [uR_i8]
    by_cases z : τ = 0 ∨ τ = 5
    · have g : tkG c τ q p2 = 33 := by unfold tkG; rw [if_pos z]
      rw [g, if_neg (show ¬ 33 < 32 by omega), if_neg (show ¬ 33 < 32 by omega), if_pos (show 33 = 33 from rfl), rbl_1, nb_b1, t61]
      rcases z with z | z
      · rw [if_pos (show nI τ = (0 : Int32) from congrArg nI z)]
      · rw [if_neg (show ¬ nI τ = (0 : Int32) from zne (b := 0) (by omega) (by omega) (by omega)), if_pos (show nI τ = (5 : Int32) from congrArg nI z)]
    · have g : tkG c τ q p2 = 32 := by unfold tkG; rw [if_neg z, if_neg y]
      rw [g, if_neg (show ¬ 32 < 32 by omega), if_neg (show ¬ 32 < 32 by omega), if_neg (show ¬ 32 = 33 by omega), if_neg (show ¬ nI τ = (0 : Int32) from zne (b := 0) (by omega) (by omega) (by omega)), if_neg (show ¬ nI τ = (5 : Int32) from zne (b := 5) (by omega) (by omega) (by omega)), if_neg (show ¬ (0 : Int32) ≤ -1 by decide), rbl_1, nb_b1, t61]

/-- the class: a register -/
theorem bl_X1 {n : Nat} {s1 s2 : St} (v : Int32) (h : sI s1 2 = 0) : df_X1_blame n v (s1, s2) = some (pI s1 2 v, s2) := by
  unfold df_X1_blame df_X1_blame_0 df_X1_blame_12
  rw [if_pos h, nb_let]
theorem rrg_C {n L e : Nat} {c : Nat → Nat} {BC BR0 : St} (hT0 : atx n L e c BC BR0) {cs tp st ns : Nat} {fx : Bool} {C A S NM BK : Nat → Int32} (s1 : St) (h2 : sI s1 2 = 0) (lt : Int32) (F : Nat → Bool) (D : Nat → Int32) (hF : ∀ r : Nat, r < 32 → df_X7_fits n lt (nI r) () = some (bI (F r), ())) (hD : ∀ r : Nat, r < 32 → df_X7_placed n lt (nI r) () = some (D r, ())) (p q p' κ τ v : Nat) (x : Int32) (hT : TS n L e c BC p q p' κ τ v x) : (tkG c τ q p' = 33 → df_X1_readRegister n lt (s1, (uC (xC BC cs tp st ns fx C A S NM BK) p' κ q x)) = some (0, (pI s1 2 1, (uC (xC BC cs tp st ns fx C A S NM BK) p' κ q x)))) ∧ (tkG c τ q p' = 32 ∨ (tkG c τ q p' < 32 ∧ F (tkG c τ q p') = false) → df_X1_readRegister n lt (s1, (uC (xC BC cs tp st ns fx C A S NM BK) p' κ q x)) = some (0, (pI s1 2 3, (uC (xC BC cs tp st ns fx C A S NM BK) p' κ q x)))) ∧ (tkG c τ q p' < 32 ∧ F (tkG c τ q p') = true → ∃ (q2 p2 κ2 τ2 v2 : Nat) (x2 : Int32), df_X1_readRegister n lt (s1, (uC (xC BC cs tp st ns fx C A S NM BK) p' κ q x)) = some (D (tkG c τ q p'), (s1, (uC (xC BC cs tp st ns fx C A S NM BK) p2 κ2 q2 x2))) ∧ TS n L e c BC p' q2 p2 κ2 τ2 v2 x2) := by
  obtain ⟨hn, hL, heL, h127, hend, hce, hO, hst, htC, h0, htR, hch⟩ := id hT0
  obtain ⟨t1, t2, t3, t4, t5, t6, t7, t8, t9⟩ := id hT
  have k6 : κ ≤ 6 := by unfold tkK at t7; omega
  have kt : (κ = 0 ∨ κ = 6 ↔ τ = 0 ∨ τ = 5) ∧ (κ = 1 ↔ τ = 1) := by
    by_cases y : κ = 5
    · subst y
      have := tk_5 t7
      omega
    · have h := tk_n t7 y
      unfold tkK at t7
      omega
  have e33 : κ = 0 ∨ κ = 6 → df_X1_readRegister n lt (s1, (uC (xC BC cs tp st ns fx C A S NM BK) p' κ q x)) = some (0, (pI s1 2 1, (uC (xC BC cs tp st ns fx C A S NM BK) p' κ q x))) := fun z => by
    unfold df_X1_readRegister df_X1_readRegister_0 df_X1_readRegister_31
    rw [if_pos h2, bl_X1 1 h2, nb_b1, uC_i2]
    rcases z with z | z
    · rw [if_pos (show nI κ = (0 : Int32) from congrArg nI z)]
    · rw [if_neg (show ¬ nI κ = (0 : Int32) from zne (b := 0) (by omega) (by omega) (by omega)), if_pos (show nI κ = (6 : Int32) from congrArg nI z)]
  have hd : ¬ (κ = 0 ∨ κ = 6) → df_X1_readRegister n lt (s1, (uC (xC BC cs tp st ns fx C A S NM BK) p' κ q x)) = df_X1_readRegister_87 n lt (if tkG c τ q p' < 32 then nI (tkG c τ q p') else -1) (s1, (uC (xC BC cs tp st ns fx C A S NM BK) p' κ q x)) := fun z => by
    unfold df_X1_readRegister df_X1_readRegister_0
    rw [if_pos h2, uC_i2, if_neg (show ¬ nI κ = (0 : Int32) from zne (b := 0) (by omega) (by omega) (by omega)), if_neg (show ¬ nI κ = (6 : Int32) from zne (b := 6) (by omega) (by omega) (by omega)), uC_i0, uC_i3, show nI p' - nI q = nI (p' - q) from pk_sub (by omega), nb_let]
    by_cases y : κ = 1
    · have y2 := kt.2.mp y
      have lt31 : q < e ∧ p' = eT c e q := by unfold tkK at t7; omega
      have cr := cr_1 n q (p' - q) (c := c) (B := pR nd_st0 0 (sR (uC (xC BC cs tp st ns fx C A S NM BK) p' κ q x) 7)) (by omega) (by omega) h127 (by omega) (fun i hi => (eT_1 c (show q ≤ e by omega)).2.2.2 (q + i) (by omega) (by omega)) (fun i hi => htC _ (by omega))
      have g : tkG c τ q p' = reS (p' - q) (c q) (c (q + 1)) (c (q + 2)) (c (q + 3)) := by unfold tkG; rw [if_neg (by omega), if_pos y2]
      rw [if_pos (show nI κ = (1 : Int32) from congrArg nI y), uC_o, xC_o0, o8S hO, cr, nb_b2, show pR (uC (xC BC cs tp st ns fx C A S NM BK) p' κ q x) 7 (sR (pR nd_st0 0 (sR (uC (xC BC cs tp st ns fx C A S NM BK) p' κ q x) 7)) 0) = (uC (xC BC cs tp st ns fx C A S NM BK) p' κ q x) from nm_r0 _ 7, nb_let, g]
      rfl
    · have g : tkG c τ q p' = 32 := by unfold tkG; rw [if_neg (by omega), if_neg (by omega)]
      rw [if_neg (show ¬ nI κ = (1 : Int32) from zne (b := 1) y (by omega) (by omega)), g, if_neg (Nat.lt_irrefl 32)]
  refine ⟨fun z => ?_, fun z => ?_, fun z => ?_⟩
  · refine e33 (Classical.byContradiction fun w => ?_)
    have rl := reS_l (p' - q) (c q) (c (q + 1)) (c (q + 2)) (c (q + 3))
    unfold tkG at z
    rw [if_neg (fun u => w (kt.1.mpr u))] at z
    split at z <;> omega
  · have nk : ¬ (κ = 0 ∨ κ = 6) := fun w => by
      have g : tkG c τ q p' = 33 := by unfold tkG; rw [if_pos (kt.1.mp w)]
      omega
    rw [hd nk]
    unfold df_X1_readRegister_87 df_X1_readRegister_100
    rw [bl_X1 3 h2, nb_b1]
    rcases z with z | z
    · rw [z, if_neg (Nat.lt_irrefl 32), if_pos (show (-1 : Int32) < 0 by decide)]
    · rw [if_pos z.1, if_neg (show ¬ nI (tkG c τ q p') < (0 : Int32) from znl (b := 0) (Nat.zero_le _) (by omega)), hF _ z.1, nb_b2, z.2, if_pos (show bI false = 0 from rfl)]
  · have nk : ¬ (κ = 0 ∨ κ = 6) := fun w => by
      have g : tkG c τ q p' = 33 := by unfold tkG; rw [if_pos (kt.1.mp w)]
      omega
    obtain ⟨q2, p2, κ2, τ2, v2, x2, n1, n2⟩ := nx_1 hT0 (cs := cs) (tp := tp) (st := st) (ns := ns) (fx := fx) (C := C) (A := A) (S := S) (NM := NM) (BK := BK) p' κ q x t5 (fun i i1 i2 => t2 i (by omega) i2)
    refine ⟨q2, p2, κ2, τ2, v2, x2, ?_, n2⟩
    rw [hd nk]
    unfold df_X1_readRegister_87
    rw [if_pos z.1, if_neg (show ¬ nI (tkG c τ q p') < (0 : Int32) from znl (b := 0) (Nat.zero_le _) (by omega)), hF _ z.1, nb_b2, z.2, if_neg (show ¬ bI true = 0 by decide), n1, nb_b1, nb_let, hD _ z.1, nb_b2]

/-- the class: a sign that must be there -/
theorem xpt_C {n L e : Nat} {c : Nat → Nat} {BC BR0 : St} (hT0 : atx n L e c BC BR0) {cs tp st ns : Nat} {fx : Bool} {C A S NM BK : Nat → Int32} (s1 : St) (h2 : sI s1 2 = 0) (y : Nat) (hy : 37 ≤ y ∧ y ≤ 126) (p q p' κ τ v : Nat) (x : Int32) (hT : TS n L e c BC p q p' κ τ v x) : (τ = y → ∃ (q2 p2 κ2 τ2 v2 : Nat) (x2 : Int32), df_X1_expect n (nI y) (s1, (uC (xC BC cs tp st ns fx C A S NM BK) p' κ q x)) = some (s1, (uC (xC BC cs tp st ns fx C A S NM BK) p2 κ2 q2 x2)) ∧ TS n L e c BC p' q2 p2 κ2 τ2 v2 x2) ∧ (¬ τ = y → df_X1_expect n (nI y) (s1, (uC (xC BC cs tp st ns fx C A S NM BK) p' κ q x)) = some (pI s1 2 1, (uC (xC BC cs tp st ns fx C A S NM BK) p' κ q x))) := by
  obtain ⟨t1, t2, t3, t4, t5, t6, t7, t8, t9⟩ := id hT
  have k6 : κ ≤ 6 := by unfold tkK at t7; omega
  have kk : τ = y ↔ (κ = 5 ∧ x = nI y) := by
    by_cases z : κ = 5
    · subst z
      have h5 := tk_5 t7
      have hx := t8 (Or.inr (Or.inr rfl))
      rw [hx]
      constructor
      · intro w
        exact ⟨rfl, congrArg nI (by omega)⟩
      · intro w
        have w2 := w.2
        rw [nI_eq (by omega) (by omega)] at w2
        omega
    · have := (tk_n t7 z).1
      exact ⟨fun w => by omega, fun w => absurd w.1 z⟩
  constructor
  · intro z
    obtain ⟨q2, p2, κ2, τ2, v2, x2, n1, n2⟩ := nx_1 hT0 (cs := cs) (tp := tp) (st := st) (ns := ns) (fx := fx) (C := C) (A := A) (S := S) (NM := NM) (BK := BK) p' κ q x t5 (fun i i1 i2 => t2 i (by omega) i2)
    refine ⟨q2, p2, κ2, τ2, v2, x2, ?_, n2⟩
    unfold df_X1_expect df_X1_expect_0 df_X1_expect_23 df_X1_expect_37
    rw [if_pos h2, xs_1 k6, nb_b2, nb_let, decide_eq_true (kk.mp z), if_neg (show ¬ bI true = 0 by decide), if_pos h2, n1, nb_b1, nb_let]
  · intro z
    unfold df_X1_expect df_X1_expect_0 df_X1_expect_23 df_X1_expect_37
    rw [if_pos h2, xs_1 k6, nb_b2, nb_let, decide_eq_false (fun w => z (kk.mpr w)), if_pos (show bI false = 0 from rfl), bl_X1 1 h2, nb_b1]
    have e : sI (pI s1 2 1) 2 = 1 := rfl
    rw [e, if_neg (show ¬ (1 : Int32) = 0 by decide)]

/-- the reference while a statement is read: what a statement changes, and the rest left open -/
def yR (B : St) (ct : Nat) (gr : Bool) (PA BY OU : Nat → Int32) : St := (fun j => if j = 18 then nI ct else if j = 20 then bI gr else B.1 j, B.2.1, fun j => if j = 3 then PA else if j = 5 then BY else if j = 9 then OU else B.2.2.1 j, B.2.2.2)
def SR (B : St) (ct : Nat) (gr : Bool) (PA BY OU : Nat → Int32) (ft : Int32) (ap : Nat) (S : St) : Prop := ∃ (ms dv ls : Bool) (sg vl : Nat) (PL : Nat → Int32) (tk fr to : Nat) (nm : Int32), S = uR (xR (yR B ct gr PA BY OU) ft ms dv ls sg vl PL) ap tk fr to nm
/-- a state with a fault -/
def FL (e : Nat) (B : St) (ft : Int32) (S : St) : Prop := ∃ (ct : Nat) (gr : Bool) (PA BY OU : Nat → Int32) (ap : Nat), ap ≤ e ∧ SR B ct gr PA BY OU ft ap S
def FN (c : Nat → Nat) (e : Nat) (B : St) (ft : Int32) (S : St) : Prop := ∃ (ct : Nat) (gr : Bool) (PA BY OU : Nat → Int32) (ap : Nat), ap ≤ e ∧ (∀ i : Nat, ap ≤ i → i < e → ¬ c i = 10) ∧ SR B ct gr PA BY OU ft ap S
theorem FN_L {c : Nat → Nat} {e : Nat} {B : St} {ft : Int32} {S : St} (h : FN c e B ft S) : FL e B ft S := by
  obtain ⟨ct, gr, PA, BY, OU, ap, h1, h2, h⟩ := h
  exact ⟨ct, gr, PA, BY, OU, ap, h1, h⟩
theorem yR_u0 {B : St} {ct : Nat} {gr : Bool} {PA BY OU : Nat → Int32} {ft : Int32} {ms dv ls : Bool} {sg vl : Nat} {PL : Nat → Int32} {ap tk fr to : Nat} {nm : Int32} : sI (uR (xR (yR B ct gr PA BY OU) ft ms dv ls sg vl PL) ap tk fr to nm) 0 = sI B 0 := rfl
theorem yR_u1 {B : St} {ct : Nat} {gr : Bool} {PA BY OU : Nat → Int32} {ft : Int32} {ms dv ls : Bool} {sg vl : Nat} {PL : Nat → Int32} {ap tk fr to : Nat} {nm : Int32} : sI (uR (xR (yR B ct gr PA BY OU) ft ms dv ls sg vl PL) ap tk fr to nm) 1 = sI B 1 := rfl
theorem yR_u2 {B : St} {ct : Nat} {gr : Bool} {PA BY OU : Nat → Int32} {ft : Int32} {ms dv ls : Bool} {sg vl : Nat} {PL : Nat → Int32} {ap tk fr to : Nat} {nm : Int32} : sI (uR (xR (yR B ct gr PA BY OU) ft ms dv ls sg vl PL) ap tk fr to nm) 2 = sI B 2 := rfl
theorem yR_u3 {B : St} {ct : Nat} {gr : Bool} {PA BY OU : Nat → Int32} {ft : Int32} {ms dv ls : Bool} {sg vl : Nat} {PL : Nat → Int32} {ap tk fr to : Nat} {nm : Int32} : sI (uR (xR (yR B ct gr PA BY OU) ft ms dv ls sg vl PL) ap tk fr to nm) 3 = sI B 3 := rfl
theorem yR_u4 {B : St} {ct : Nat} {gr : Bool} {PA BY OU : Nat → Int32} {ft : Int32} {ms dv ls : Bool} {sg vl : Nat} {PL : Nat → Int32} {ap tk fr to : Nat} {nm : Int32} : sI (uR (xR (yR B ct gr PA BY OU) ft ms dv ls sg vl PL) ap tk fr to nm) 4 = sI B 4 := rfl
theorem yR_u5 {B : St} {ct : Nat} {gr : Bool} {PA BY OU : Nat → Int32} {ft : Int32} {ms dv ls : Bool} {sg vl : Nat} {PL : Nat → Int32} {ap tk fr to : Nat} {nm : Int32} : sI (uR (xR (yR B ct gr PA BY OU) ft ms dv ls sg vl PL) ap tk fr to nm) 5 = sI B 5 := rfl
theorem yR_u6 {B : St} {ct : Nat} {gr : Bool} {PA BY OU : Nat → Int32} {ft : Int32} {ms dv ls : Bool} {sg vl : Nat} {PL : Nat → Int32} {ap tk fr to : Nat} {nm : Int32} : sI (uR (xR (yR B ct gr PA BY OU) ft ms dv ls sg vl PL) ap tk fr to nm) 6 = sI B 6 := rfl
theorem yR_u13 {B : St} {ct : Nat} {gr : Bool} {PA BY OU : Nat → Int32} {ft : Int32} {ms dv ls : Bool} {sg vl : Nat} {PL : Nat → Int32} {ap tk fr to : Nat} {nm : Int32} : sI (uR (xR (yR B ct gr PA BY OU) ft ms dv ls sg vl PL) ap tk fr to nm) 13 = sI B 13 := rfl
theorem yR_u14 {B : St} {ct : Nat} {gr : Bool} {PA BY OU : Nat → Int32} {ft : Int32} {ms dv ls : Bool} {sg vl : Nat} {PL : Nat → Int32} {ap tk fr to : Nat} {nm : Int32} : sI (uR (xR (yR B ct gr PA BY OU) ft ms dv ls sg vl PL) ap tk fr to nm) 14 = sI B 14 := rfl
theorem yR_u15 {B : St} {ct : Nat} {gr : Bool} {PA BY OU : Nat → Int32} {ft : Int32} {ms dv ls : Bool} {sg vl : Nat} {PL : Nat → Int32} {ap tk fr to : Nat} {nm : Int32} : sI (uR (xR (yR B ct gr PA BY OU) ft ms dv ls sg vl PL) ap tk fr to nm) 15 = sI B 15 := rfl
theorem yR_u16 {B : St} {ct : Nat} {gr : Bool} {PA BY OU : Nat → Int32} {ft : Int32} {ms dv ls : Bool} {sg vl : Nat} {PL : Nat → Int32} {ap tk fr to : Nat} {nm : Int32} : sI (uR (xR (yR B ct gr PA BY OU) ft ms dv ls sg vl PL) ap tk fr to nm) 16 = sI B 16 := rfl
theorem yR_u17 {B : St} {ct : Nat} {gr : Bool} {PA BY OU : Nat → Int32} {ft : Int32} {ms dv ls : Bool} {sg vl : Nat} {PL : Nat → Int32} {ap tk fr to : Nat} {nm : Int32} : sI (uR (xR (yR B ct gr PA BY OU) ft ms dv ls sg vl PL) ap tk fr to nm) 17 = sI B 17 := rfl
theorem yR_u19 {B : St} {ct : Nat} {gr : Bool} {PA BY OU : Nat → Int32} {ft : Int32} {ms dv ls : Bool} {sg vl : Nat} {PL : Nat → Int32} {ap tk fr to : Nat} {nm : Int32} : sI (uR (xR (yR B ct gr PA BY OU) ft ms dv ls sg vl PL) ap tk fr to nm) 19 = sI B 19 := rfl
theorem yR_u18 {B : St} {ct : Nat} {gr : Bool} {PA BY OU : Nat → Int32} {ft : Int32} {ms dv ls : Bool} {sg vl : Nat} {PL : Nat → Int32} {ap tk fr to : Nat} {nm : Int32} : sI (uR (xR (yR B ct gr PA BY OU) ft ms dv ls sg vl PL) ap tk fr to nm) 18 = nI ct := rfl
theorem yR_u20 {B : St} {ct : Nat} {gr : Bool} {PA BY OU : Nat → Int32} {ft : Int32} {ms dv ls : Bool} {sg vl : Nat} {PL : Nat → Int32} {ap tk fr to : Nat} {nm : Int32} : sI (uR (xR (yR B ct gr PA BY OU) ft ms dv ls sg vl PL) ap tk fr to nm) 20 = bI gr := rfl
theorem yR_r0 {B : St} {ct : Nat} {gr : Bool} {PA BY OU : Nat → Int32} {ft : Int32} {ms dv ls : Bool} {sg vl : Nat} {PL : Nat → Int32} {ap tk fr to : Nat} {nm : Int32} : sR (uR (xR (yR B ct gr PA BY OU) ft ms dv ls sg vl PL) ap tk fr to nm) 0 = sR B 0 := rfl
theorem yR_r1 {B : St} {ct : Nat} {gr : Bool} {PA BY OU : Nat → Int32} {ft : Int32} {ms dv ls : Bool} {sg vl : Nat} {PL : Nat → Int32} {ap tk fr to : Nat} {nm : Int32} : sR (uR (xR (yR B ct gr PA BY OU) ft ms dv ls sg vl PL) ap tk fr to nm) 1 = sR B 1 := rfl
theorem yR_r2 {B : St} {ct : Nat} {gr : Bool} {PA BY OU : Nat → Int32} {ft : Int32} {ms dv ls : Bool} {sg vl : Nat} {PL : Nat → Int32} {ap tk fr to : Nat} {nm : Int32} : sR (uR (xR (yR B ct gr PA BY OU) ft ms dv ls sg vl PL) ap tk fr to nm) 2 = sR B 2 := rfl
theorem yR_r4 {B : St} {ct : Nat} {gr : Bool} {PA BY OU : Nat → Int32} {ft : Int32} {ms dv ls : Bool} {sg vl : Nat} {PL : Nat → Int32} {ap tk fr to : Nat} {nm : Int32} : sR (uR (xR (yR B ct gr PA BY OU) ft ms dv ls sg vl PL) ap tk fr to nm) 4 = sR B 4 := rfl
theorem yR_r6 {B : St} {ct : Nat} {gr : Bool} {PA BY OU : Nat → Int32} {ft : Int32} {ms dv ls : Bool} {sg vl : Nat} {PL : Nat → Int32} {ap tk fr to : Nat} {nm : Int32} : sR (uR (xR (yR B ct gr PA BY OU) ft ms dv ls sg vl PL) ap tk fr to nm) 6 = sR B 6 := rfl
theorem yR_r7 {B : St} {ct : Nat} {gr : Bool} {PA BY OU : Nat → Int32} {ft : Int32} {ms dv ls : Bool} {sg vl : Nat} {PL : Nat → Int32} {ap tk fr to : Nat} {nm : Int32} : sR (uR (xR (yR B ct gr PA BY OU) ft ms dv ls sg vl PL) ap tk fr to nm) 7 = sR B 7 := rfl
theorem yR_r3 {B : St} {ct : Nat} {gr : Bool} {PA BY OU : Nat → Int32} {ft : Int32} {ms dv ls : Bool} {sg vl : Nat} {PL : Nat → Int32} {ap tk fr to : Nat} {nm : Int32} : sR (uR (xR (yR B ct gr PA BY OU) ft ms dv ls sg vl PL) ap tk fr to nm) 3 = PA := rfl
theorem yR_r5 {B : St} {ct : Nat} {gr : Bool} {PA BY OU : Nat → Int32} {ft : Int32} {ms dv ls : Bool} {sg vl : Nat} {PL : Nat → Int32} {ap tk fr to : Nat} {nm : Int32} : sR (uR (xR (yR B ct gr PA BY OU) ft ms dv ls sg vl PL) ap tk fr to nm) 5 = BY := rfl
theorem yR_r9 {B : St} {ct : Nat} {gr : Bool} {PA BY OU : Nat → Int32} {ft : Int32} {ms dv ls : Bool} {sg vl : Nat} {PL : Nat → Int32} {ap tk fr to : Nat} {nm : Int32} : sR (uR (xR (yR B ct gr PA BY OU) ft ms dv ls sg vl PL) ap tk fr to nm) 9 = OU := rfl
theorem yR_o {B : St} {ct : Nat} {gr : Bool} {PA BY OU : Nat → Int32} {ft : Int32} {ms dv ls : Bool} {sg vl : Nat} {PL : Nat → Int32} {ap tk fr to : Nat} {nm : Int32} {j : Nat} : sO (uR (xR (yR B ct gr PA BY OU) ft ms dv ls sg vl PL) ap tk fr to nm) j = sO B j := rfl
theorem yR_w18 {B : St} {ct : Nat} {gr : Bool} {PA BY OU : Nat → Int32} {ft : Int32} {ms dv ls : Bool} {sg vl : Nat} {PL : Nat → Int32} {ap tk fr to : Nat} {nm : Int32} {v : Nat} : pI (uR (xR (yR B ct gr PA BY OU) ft ms dv ls sg vl PL) ap tk fr to nm) 18 (nI v) = uR (xR (yR B v gr PA BY OU) ft ms dv ls sg vl PL) ap tk fr to nm := Prod.ext (funext fun j => by
  show (if j = 18 then nI v else _) = _
  by_cases h : j = 18
  · subst h; rfl
  · unfold uR xR yR
    simp only [if_neg h]) rfl
theorem yR_w20 {B : St} {ct : Nat} {gr : Bool} {PA BY OU : Nat → Int32} {ft : Int32} {ms dv ls : Bool} {sg vl : Nat} {PL : Nat → Int32} {ap tk fr to : Nat} {nm : Int32} {v : Bool} : pI (uR (xR (yR B ct gr PA BY OU) ft ms dv ls sg vl PL) ap tk fr to nm) 20 (bI v) = uR (xR (yR B ct v PA BY OU) ft ms dv ls sg vl PL) ap tk fr to nm := Prod.ext (funext fun j => by
  show (if j = 20 then bI v else _) = _
  by_cases h : j = 20
  · subst h; rfl
  · unfold uR xR yR
    simp only [if_neg h]) rfl
theorem yR_y3 {B : St} {ct : Nat} {gr : Bool} {PA BY OU : Nat → Int32} {ft : Int32} {ms dv ls : Bool} {sg vl : Nat} {PL : Nat → Int32} {ap tk fr to : Nat} {nm : Int32} {v : Nat → Int32} : pR (uR (xR (yR B ct gr PA BY OU) ft ms dv ls sg vl PL) ap tk fr to nm) 3 v = uR (xR (yR B ct gr v BY OU) ft ms dv ls sg vl PL) ap tk fr to nm := Prod.ext rfl (Prod.ext rfl (Prod.ext (funext fun j => by
  show (if j = 3 then v else _) = _
  by_cases h : j = 3
  · subst h; rfl
  · unfold uR xR yR
    simp only [if_neg h]) rfl))
theorem yR_y5 {B : St} {ct : Nat} {gr : Bool} {PA BY OU : Nat → Int32} {ft : Int32} {ms dv ls : Bool} {sg vl : Nat} {PL : Nat → Int32} {ap tk fr to : Nat} {nm : Int32} {v : Nat → Int32} : pR (uR (xR (yR B ct gr PA BY OU) ft ms dv ls sg vl PL) ap tk fr to nm) 5 v = uR (xR (yR B ct gr PA v OU) ft ms dv ls sg vl PL) ap tk fr to nm := Prod.ext rfl (Prod.ext rfl (Prod.ext (funext fun j => by
  show (if j = 5 then v else _) = _
  by_cases h : j = 5
  · subst h; rfl
  · unfold uR xR yR
    simp only [if_neg h]) rfl))
theorem yR_y9 {B : St} {ct : Nat} {gr : Bool} {PA BY OU : Nat → Int32} {ft : Int32} {ms dv ls : Bool} {sg vl : Nat} {PL : Nat → Int32} {ap tk fr to : Nat} {nm : Int32} {v : Nat → Int32} : pR (uR (xR (yR B ct gr PA BY OU) ft ms dv ls sg vl PL) ap tk fr to nm) 9 v = uR (xR (yR B ct gr PA BY v) ft ms dv ls sg vl PL) ap tk fr to nm := Prod.ext rfl (Prod.ext rfl (Prod.ext (funext fun j => by
  show (if j = 9 then v else _) = _
  by_cases h : j = 9
  · subst h; rfl
  · unfold uR xR yR
    simp only [if_neg h]) rfl))
theorem SR_0 {B : St} {ct : Nat} {gr : Bool} {PA BY OU : Nat → Int32} {ft : Int32} {ap : Nat} {S : St} (h : SR B ct gr PA BY OU ft ap S) : sI S 0 = sI B 0 := by
  obtain ⟨ms, dv, ls, sg, vl, PL, tk, fr, to, nm, rfl⟩ := h
  rfl
theorem SR_1 {B : St} {ct : Nat} {gr : Bool} {PA BY OU : Nat → Int32} {ft : Int32} {ap : Nat} {S : St} (h : SR B ct gr PA BY OU ft ap S) : sI S 1 = sI B 1 := by
  obtain ⟨ms, dv, ls, sg, vl, PL, tk, fr, to, nm, rfl⟩ := h
  rfl
theorem SR_2 {B : St} {ct : Nat} {gr : Bool} {PA BY OU : Nat → Int32} {ft : Int32} {ap : Nat} {S : St} (h : SR B ct gr PA BY OU ft ap S) : sI S 2 = sI B 2 := by
  obtain ⟨ms, dv, ls, sg, vl, PL, tk, fr, to, nm, rfl⟩ := h
  rfl
theorem SR_3 {B : St} {ct : Nat} {gr : Bool} {PA BY OU : Nat → Int32} {ft : Int32} {ap : Nat} {S : St} (h : SR B ct gr PA BY OU ft ap S) : sI S 3 = sI B 3 := by
  obtain ⟨ms, dv, ls, sg, vl, PL, tk, fr, to, nm, rfl⟩ := h
  rfl
theorem SR_4 {B : St} {ct : Nat} {gr : Bool} {PA BY OU : Nat → Int32} {ft : Int32} {ap : Nat} {S : St} (h : SR B ct gr PA BY OU ft ap S) : sI S 4 = sI B 4 := by
  obtain ⟨ms, dv, ls, sg, vl, PL, tk, fr, to, nm, rfl⟩ := h
  rfl
theorem SR_5 {B : St} {ct : Nat} {gr : Bool} {PA BY OU : Nat → Int32} {ft : Int32} {ap : Nat} {S : St} (h : SR B ct gr PA BY OU ft ap S) : sI S 5 = sI B 5 := by
  obtain ⟨ms, dv, ls, sg, vl, PL, tk, fr, to, nm, rfl⟩ := h
  rfl
theorem SR_13 {B : St} {ct : Nat} {gr : Bool} {PA BY OU : Nat → Int32} {ft : Int32} {ap : Nat} {S : St} (h : SR B ct gr PA BY OU ft ap S) : sI S 13 = sI B 13 := by
  obtain ⟨ms, dv, ls, sg, vl, PL, tk, fr, to, nm, rfl⟩ := h
  rfl
theorem SR_14 {B : St} {ct : Nat} {gr : Bool} {PA BY OU : Nat → Int32} {ft : Int32} {ap : Nat} {S : St} (h : SR B ct gr PA BY OU ft ap S) : sI S 14 = sI B 14 := by
  obtain ⟨ms, dv, ls, sg, vl, PL, tk, fr, to, nm, rfl⟩ := h
  rfl
theorem SR_15 {B : St} {ct : Nat} {gr : Bool} {PA BY OU : Nat → Int32} {ft : Int32} {ap : Nat} {S : St} (h : SR B ct gr PA BY OU ft ap S) : sI S 15 = sI B 15 := by
  obtain ⟨ms, dv, ls, sg, vl, PL, tk, fr, to, nm, rfl⟩ := h
  rfl
theorem SR_16 {B : St} {ct : Nat} {gr : Bool} {PA BY OU : Nat → Int32} {ft : Int32} {ap : Nat} {S : St} (h : SR B ct gr PA BY OU ft ap S) : sI S 16 = sI B 16 := by
  obtain ⟨ms, dv, ls, sg, vl, PL, tk, fr, to, nm, rfl⟩ := h
  rfl
theorem SR_17 {B : St} {ct : Nat} {gr : Bool} {PA BY OU : Nat → Int32} {ft : Int32} {ap : Nat} {S : St} (h : SR B ct gr PA BY OU ft ap S) : sI S 17 = sI B 17 := by
  obtain ⟨ms, dv, ls, sg, vl, PL, tk, fr, to, nm, rfl⟩ := h
  rfl
theorem SR_19 {B : St} {ct : Nat} {gr : Bool} {PA BY OU : Nat → Int32} {ft : Int32} {ap : Nat} {S : St} (h : SR B ct gr PA BY OU ft ap S) : sI S 19 = sI B 19 := by
  obtain ⟨ms, dv, ls, sg, vl, PL, tk, fr, to, nm, rfl⟩ := h
  rfl
theorem SR_7 {B : St} {ct : Nat} {gr : Bool} {PA BY OU : Nat → Int32} {ft : Int32} {ap : Nat} {S : St} (h : SR B ct gr PA BY OU ft ap S) : sI S 7 = nI ap := by
  obtain ⟨ms, dv, ls, sg, vl, PL, tk, fr, to, nm, rfl⟩ := h
  rfl
theorem SR_12 {B : St} {ct : Nat} {gr : Bool} {PA BY OU : Nat → Int32} {ft : Int32} {ap : Nat} {S : St} (h : SR B ct gr PA BY OU ft ap S) : sI S 12 = ft := by
  obtain ⟨ms, dv, ls, sg, vl, PL, tk, fr, to, nm, rfl⟩ := h
  rfl
theorem SR_18 {B : St} {ct : Nat} {gr : Bool} {PA BY OU : Nat → Int32} {ft : Int32} {ap : Nat} {S : St} (h : SR B ct gr PA BY OU ft ap S) : sI S 18 = nI ct := by
  obtain ⟨ms, dv, ls, sg, vl, PL, tk, fr, to, nm, rfl⟩ := h
  rfl
theorem SR_20 {B : St} {ct : Nat} {gr : Bool} {PA BY OU : Nat → Int32} {ft : Int32} {ap : Nat} {S : St} (h : SR B ct gr PA BY OU ft ap S) : sI S 20 = bI gr := by
  obtain ⟨ms, dv, ls, sg, vl, PL, tk, fr, to, nm, rfl⟩ := h
  rfl
theorem SR_r0 {B : St} {ct : Nat} {gr : Bool} {PA BY OU : Nat → Int32} {ft : Int32} {ap : Nat} {S : St} (h : SR B ct gr PA BY OU ft ap S) : sR S 0 = sR B 0 := by
  obtain ⟨ms, dv, ls, sg, vl, PL, tk, fr, to, nm, rfl⟩ := h
  rfl
theorem SR_r1 {B : St} {ct : Nat} {gr : Bool} {PA BY OU : Nat → Int32} {ft : Int32} {ap : Nat} {S : St} (h : SR B ct gr PA BY OU ft ap S) : sR S 1 = sR B 1 := by
  obtain ⟨ms, dv, ls, sg, vl, PL, tk, fr, to, nm, rfl⟩ := h
  rfl
theorem SR_r2 {B : St} {ct : Nat} {gr : Bool} {PA BY OU : Nat → Int32} {ft : Int32} {ap : Nat} {S : St} (h : SR B ct gr PA BY OU ft ap S) : sR S 2 = sR B 2 := by
  obtain ⟨ms, dv, ls, sg, vl, PL, tk, fr, to, nm, rfl⟩ := h
  rfl
theorem SR_r3 {B : St} {ct : Nat} {gr : Bool} {PA BY OU : Nat → Int32} {ft : Int32} {ap : Nat} {S : St} (h : SR B ct gr PA BY OU ft ap S) : sR S 3 = PA := by
  obtain ⟨ms, dv, ls, sg, vl, PL, tk, fr, to, nm, rfl⟩ := h
  rfl
theorem SR_r4 {B : St} {ct : Nat} {gr : Bool} {PA BY OU : Nat → Int32} {ft : Int32} {ap : Nat} {S : St} (h : SR B ct gr PA BY OU ft ap S) : sR S 4 = sR B 4 := by
  obtain ⟨ms, dv, ls, sg, vl, PL, tk, fr, to, nm, rfl⟩ := h
  rfl
theorem SR_r5 {B : St} {ct : Nat} {gr : Bool} {PA BY OU : Nat → Int32} {ft : Int32} {ap : Nat} {S : St} (h : SR B ct gr PA BY OU ft ap S) : sR S 5 = BY := by
  obtain ⟨ms, dv, ls, sg, vl, PL, tk, fr, to, nm, rfl⟩ := h
  rfl
theorem SR_r6 {B : St} {ct : Nat} {gr : Bool} {PA BY OU : Nat → Int32} {ft : Int32} {ap : Nat} {S : St} (h : SR B ct gr PA BY OU ft ap S) : sR S 6 = sR B 6 := by
  obtain ⟨ms, dv, ls, sg, vl, PL, tk, fr, to, nm, rfl⟩ := h
  rfl
theorem SR_r7 {B : St} {ct : Nat} {gr : Bool} {PA BY OU : Nat → Int32} {ft : Int32} {ap : Nat} {S : St} (h : SR B ct gr PA BY OU ft ap S) : sR S 7 = sR B 7 := by
  obtain ⟨ms, dv, ls, sg, vl, PL, tk, fr, to, nm, rfl⟩ := h
  rfl
theorem SR_r9 {B : St} {ct : Nat} {gr : Bool} {PA BY OU : Nat → Int32} {ft : Int32} {ap : Nat} {S : St} (h : SR B ct gr PA BY OU ft ap S) : sR S 9 = OU := by
  obtain ⟨ms, dv, ls, sg, vl, PL, tk, fr, to, nm, rfl⟩ := h
  rfl
theorem FL_f {e : Nat} {B : St} {ft : Int32} {S : St} (h : FL e B ft S) : sI S 12 = ft ∧ sI S 15 = sI B 15 ∧ sI S 13 = sI B 13 ∧ sI S 17 = sI B 17 ∧ sI S 16 = sI B 16 := by
  obtain ⟨ct, gr, PA, BY, OU, ap, h1, h⟩ := h
  exact ⟨SR_12 h, SR_15 h, SR_13 h, SR_17 h, SR_16 h⟩
/-- bytes that are put -/
def wrL : (Nat → Int32) → Nat → List Int32 → (Nat → Int32)
  | OU, _, [] => OU
  | OU, k, b :: bs => wrL (upd OU k (b &&& 255)) (k + 1) bs
def pt (B : St) (ct : Nat) (OU : Nat → Int32) (bs : List Int32) : Nat → Int32 := if sI B 15 = 3 then wrL OU ((sI B 19).toNatClampNeg + ct) bs else OU
theorem wrL_a : ∀ (as bs : List Int32) (OU : Nat → Int32) (k : Nat), wrL OU k (as ++ bs) = wrL (wrL OU k as) (k + as.length) bs := fun as => by
  induction as with
  | nil => intro bs OU k; rfl
  | cons x xs ih =>
    intro bs OU k
    show wrL (upd OU k (x &&& 255)) (k + 1) (xs ++ bs) = wrL (wrL (upd OU k (x &&& 255)) (k + 1) xs) (k + (xs.length + 1)) bs
    rw [ih, show k + 1 + xs.length = k + (xs.length + 1) by omega]
theorem pt_a {B : St} {ct : Nat} {OU : Nat → Int32} (as bs : List Int32) : pt B (ct + as.length) (pt B ct OU as) bs = pt B ct OU (as ++ bs) := by
  unfold pt
  by_cases y : sI B 15 = 3
  · rw [if_pos y, if_pos y, if_pos y, wrL_a, Nat.add_assoc]
  · rw [if_neg y, if_neg y, if_neg y]
def OKW (B : St) (m : Nat) : Prop := sI B 15 = 3 → sO B 0 = some 11 ∧ ∃ bg : Nat, sI B 19 = nI bg ∧ bg + m ≤ 131072
theorem OKW_m {B : St} {m k : Nat} (h : OKW B m) (hk : k ≤ m) : OKW B k := fun z => by
  obtain ⟨h1, bg, h2, h3⟩ := h z
  exact ⟨h1, bg, h2, by omega⟩
theorem o11 {α : Type} {x : Option α} : nd_o (some 11) 11 x = x := if_pos rfl
def by2 (w : Int32) : List Int32 := [w, w >>> ((8 : Int32) &&& 31)]
def by4 (w : Int32) : List Int32 := by2 w ++ by2 (w >>> ((16 : Int32) &&& 31))
theorem put_S {n : Nat} {B : St} {ct : Nat} {gr : Bool} {PA BY OU : Nat → Int32} {ft : Int32} {ap : Nat} {S : St} (h : SR B ct gr PA BY OU ft ap S) (hw : OKW B (ct + 1)) (v : Int32) : ∃ S' : St, df_X13_put n v S = some S' ∧ SR B (ct + 1) gr PA BY (pt B ct OU [v]) ft ap S' := by
  obtain ⟨ms, dv, ls, sg, vl, PL, tk, fr, to, nm, rfl⟩ := h
  unfold df_X13_put df_X13_put_0 df_X13_put_27
  rw [yR_u15]
  by_cases y : sI B 15 = 3
  · obtain ⟨o1, bg, o2, o3⟩ := hw y
    rw [if_pos y, yR_o, o1, o11, yR_u19, yR_u18, o2, nI_add, nm_ck (by omega) (by omega), nI_clamp (by omega), yR_r9, yR_y9, nb_let, yR_u18, show nI ct + (1 : Int32) = nI (ct + 1) from nI_add ct 1, yR_w18, nb_let]
    refine ⟨_, rfl, ms, dv, ls, sg, vl, PL, tk, fr, to, nm, ?_⟩
    rw [show pt B ct OU [v] = upd OU (bg + ct) (v &&& 255) by
      unfold pt
      rw [if_pos y, o2, nI_clamp (by omega)]
      rfl]
  · rw [if_neg y, yR_u18, show nI ct + (1 : Int32) = nI (ct + 1) from nI_add ct 1, yR_w18, nb_let]
    refine ⟨_, rfl, ms, dv, ls, sg, vl, PL, tk, fr, to, nm, ?_⟩
    rw [show pt B ct OU [v] = OU from if_neg y]
theorem hal_S {n : Nat} {B : St} {ct : Nat} {gr : Bool} {PA BY OU : Nat → Int32} {ft : Int32} {ap : Nat} {S : St} (h : SR B ct gr PA BY OU ft ap S) (hw : OKW B (ct + 2)) (v : Int32) : ∃ S' : St, df_X13_half n v S = some S' ∧ SR B (ct + 2) gr PA BY (pt B ct OU (by2 v)) ft ap S' := by
  obtain ⟨S1, e1, h1⟩ := put_S (n := n) h (OKW_m hw (by omega)) v
  obtain ⟨S2, e2, h2⟩ := put_S (n := n) h1 hw (v >>> ((8 : Int32) &&& 31))
  refine ⟨S2, ?_, ?_⟩
  · unfold df_X13_half df_X13_half_0
    rw [e1, nb_b1, e2, nb_b1]
  · rw [show pt B (ct + 1) (pt B ct OU [v]) [v >>> ((8 : Int32) &&& 31)] = pt B ct OU (by2 v) from pt_a [v] _] at h2
    exact h2
theorem wor_S {n : Nat} {B : St} {ct : Nat} {gr : Bool} {PA BY OU : Nat → Int32} {ft : Int32} {ap : Nat} {S : St} (h : SR B ct gr PA BY OU ft ap S) (hw : OKW B (ct + 4)) (v : Int32) : ∃ S' : St, df_X13_word n v S = some S' ∧ SR B (ct + 4) gr PA BY (pt B ct OU (by4 v)) ft ap S' := by
  obtain ⟨S1, e1, h1⟩ := hal_S (n := n) h (OKW_m hw (by omega)) v
  obtain ⟨S2, e2, h2⟩ := hal_S (n := n) h1 hw (v >>> ((16 : Int32) &&& 31))
  refine ⟨S2, ?_, ?_⟩
  · unfold df_X13_word df_X13_word_0
    rw [e1, nb_b1, e2, nb_b1]
  · rw [show pt B (ct + 2) (pt B ct OU (by2 v)) (by2 (v >>> ((16 : Int32) &&& 31))) = pt B ct OU (by4 v) from pt_a (by2 v) _] at h2
    exact h2
/-- with a fault -/
theorem put_F {n : Nat} {e : Nat} {B : St} {ft : Int32} {S : St} (h : FL e B ft S) (h3 : ¬ sI B 15 = 3) (v : Int32) : ∃ S' : St, df_X13_put n v S = some S' ∧ FL e B ft S' := by
  obtain ⟨ct, gr, PA, BY, OU, ap, h1, h⟩ := h
  obtain ⟨S', e1, h'⟩ := put_S (n := n) h (fun z => absurd z h3) v
  exact ⟨S', e1, _, _, _, _, _, _, h1, h'⟩
theorem hal_F {n : Nat} {e : Nat} {B : St} {ft : Int32} {S : St} (h : FL e B ft S) (h3 : ¬ sI B 15 = 3) (v : Int32) : ∃ S' : St, df_X13_half n v S = some S' ∧ FL e B ft S' := by
  obtain ⟨ct, gr, PA, BY, OU, ap, h1, h⟩ := h
  obtain ⟨S', e1, h'⟩ := hal_S (n := n) h (fun z => absurd z h3) v
  exact ⟨S', e1, _, _, _, _, _, _, h1, h'⟩
theorem wor_F {n : Nat} {e : Nat} {B : St} {ft : Int32} {S : St} (h : FL e B ft S) (h3 : ¬ sI B 15 = 3) (v : Int32) : ∃ S' : St, df_X13_word n v S = some S' ∧ FL e B ft S' := by
  obtain ⟨ct, gr, PA, BY, OU, ap, h1, h⟩ := h
  obtain ⟨S', e1, h'⟩ := wor_S (n := n) h (fun z => absurd z h3) v
  exact ⟨S', e1, _, _, _, _, _, _, h1, h'⟩
theorem blm_F {n : Nat} {e : Nat} {B : St} {ft : Int32} {S : St} (h : FL e B ft S) (hf : ¬ ft = 0) (v : Int32) : df_X13_blame n v S = some S := by
  unfold df_X13_blame df_X13_blame_0 df_X13_blame_20
  rw [if_neg (by rw [(FL_f h).1]; exact hf)]
theorem com_F {n : Nat} {e : Nat} {B : St} {ft : Int32} {S : St} (h : FL e B ft S) (hf : ¬ ft = 0) : df_X13_comma n S = some (0, S) := by
  unfold df_X13_comma df_X13_comma_0 df_X13_comma_20 df_X13_comma_21
  rw [if_neg (by rw [(FL_f h).1]; exact hf)]
  exact nar_z (by decide)
theorem not_F {n : Nat} {e : Nat} {B : St} {ft : Int32} {S : St} (h : FL e B ft S) (hf : ¬ ft = 0) (v w : Int32) : df_X13_not n v w S = some (v, S) := by
  unfold df_X13_not df_X13_not_0 df_X13_not_10
  rw [blm_F h hf, nb_b1]
  split <;> rfl
theorem nz_F {n : Nat} {e : Nat} {B : St} {ft : Int32} {S : St} (h : FL e B ft S) (hf : ¬ ft = 0) (v : Int32) : df_X13_notZero n v S = some S := by
  unfold df_X13_notZero df_X13_notZero_0 df_X13_notZero_18
  rw [blm_F h hf, nb_b1]
  split
  · split <;> rfl
  · rfl
theorem fit_F {n : Nat} {e : Nat} {B : St} {ft : Int32} {S : St} (h : FL e B ft S) (hf : ¬ ft = 0) (v lo hi k : Int32) (hk : ¬ k = 0) : df_X13_fits n v lo hi k S = some S := by
  unfold df_X13_fits df_X13_fits_0 df_X13_fits_25 df_X13_fits_31 nd_nz
  rw [blm_F h hf, nb_b1, decide_eq_false hk, if_neg Bool.false_ne_true]
  split
  · split
    · rfl
    · split
      · rfl
      · split <;> rfl
  · rfl
theorem blm_S {n : Nat} {B : St} {ct : Nat} {gr : Bool} {PA BY OU : Nat → Int32} {ap : Nat} {S : St} (h : SR B ct gr PA BY OU 0 ap S) (v : Int32) : ∃ S' : St, df_X13_blame n v S = some S' ∧ SR B ct gr PA BY OU (v + 16 * sI B 13) ap S' := by
  obtain ⟨ms, dv, ls, sg, vl, PL, tk, fr, to, nm, rfl⟩ := h
  refine ⟨_, rbl_1 v, ms, dv, ls, sg, vl, PL, tk, fr, to, nm, ?_⟩
  rw [if_pos rfl]
  rfl
/-- tokens -/
theorem ts_300 {n L e : Nat} {c : Nat → Nat} {BC : St} {p q p' κ τ v : Nat} {x : Int32} (T : TS n L e c BC p q p' κ τ v x) : τ < 300 := by
  obtain ⟨t1, t2, t3, t4, t5, t6, t7, t8, t9⟩ := T
  by_cases y : κ = 5
  · subst y
    have := tk_5 t7
    omega
  · have := tk_n t7 y
    omega
theorem ts_w {n L e : Nat} {c : Nat → Nat} {BC : St} {p q p' κ τ v : Nat} {x : Int32} (T : TS n L e c BC p q p' κ τ v x) (h : τ = 1) : q < e ∧ p' = eT c e q ∧ κ = 1 ∧ aP (c q) = true ∧ aD (c q) = false ∧ p' - q ≤ 31 := by
  obtain ⟨t1, t2, t3, t4, t5, t6, t7, t8, t9⟩ := T
  by_cases y : κ = 5
  · subst y
    have := tk_5 t7
    omega
  · have k1 := ((tk_n t7 y).2.1.mp h)
    unfold tkK at t7
    rcases t7 with z | z | z | z | z | z | z
    · omega
    · exact ⟨z.2.2.1, z.2.2.2.2.2.1, k1, z.2.2.2.1, z.2.2.2.2.1, z.2.2.2.2.2.2⟩
    all_goals omega
theorem ts_ex {n L e : Nat} {c : Nat → Nat} {BC BR : St} (hT : atx n L e c BC BR) (p : Nat) (hp : p ≤ e) (hl : ∀ i : Nat, p ≤ i → i < e → ¬ c i = 10) : ∃ (q p' κ τ v : Nat) (x : Int32), TS n L e c BC p q p' κ τ v x := by
  obtain ⟨q, p', κ, τ, v, x, _, h⟩ := nx_1 hT (cs := 0) (tp := 0) (st := 0) (ns := 0) (fx := true) (C := fun _ => 0) (A := fun _ => 0) (S := fun _ => 0) (NM := fun _ => 0) (BK := fun _ => 0) p 0 0 0 hp hl
  exact ⟨q, p', κ, τ, v, x, h⟩
theorem tkG_e {n L e : Nat} {c : Nat → Nat} {BC : St} {p q p' κ τ v p2 : Nat} {x : Int32} (_ : TS n L e c BC p q p' κ τ v x) (h : p2 = p' ∨ (τ = 5 ∧ p2 = q)) : tkG c τ q p2 = tkG c τ q p' := by
  rcases h with h | h
  · rw [h]
  · unfold tkG
    rw [if_pos (Or.inr h.1), if_pos (Or.inr h.1)]
/-- a token is read -/
theorem scn_S {n L e : Nat} {c : Nat → Nat} {BC B : St} (hT : atx n L e c BC B) {ct : Nat} {gr : Bool} {PA BY OU : Nat → Int32} {p : Nat} {S : St} {ft : Int32} (h : SR B ct gr PA BY OU ft p S) {q p' κ τ v : Nat} {x : Int32} (T : TS n L e c BC p q p' κ τ v x) : ∃ (S' : St) (p2 : Nat), df_X13_scan n S = some S' ∧ SR B ct gr PA BY OU ft p2 S' ∧ sI S' 8 = nI τ ∧ sI S' 9 = nI q ∧ sI S' 10 = nI p2 ∧ p ≤ p2 ∧ p2 ≤ e ∧ (¬ τ = 5 → p2 = p') := by
  obtain ⟨ms, dv, ls, sg, vl, PL, tk, fr, to, nm, rfl⟩ := h
  obtain ⟨t1, t2, t3, t4, t5, t6, t7, t8, t9⟩ := T
  obtain ⟨x2, p2, e1, e2, e3⟩ := t9 (xR (yR B ct gr PA BY OU) ft ms dv ls sg vl PL) hT tk fr to nm
  exact ⟨_, p2, e1, ⟨ms, dv, ls, sg, vl, PL, τ, q, p2, x2, rfl⟩, rfl, rfl, rfl, by omega, by omega, fun z => by omega⟩
theorem tak_S {n L e : Nat} {c : Nat → Nat} {BC B : St} (hT : atx n L e c BC B) {ct : Nat} {gr : Bool} {PA BY OU : Nat → Int32} {p : Nat} {S : St} {ft : Int32} (h : SR B ct gr PA BY OU ft p S) {q p' κ τ v : Nat} {x : Int32} (T : TS n L e c BC p q p' κ τ v x) : ∃ (S' : St) (p2 : Nat), df_X13_taken n S = some (if tkG c τ q p' < 32 then nI (tkG c τ q p') else 0, S') ∧ SR B ct gr PA BY OU (if tkG c τ q p' < 32 then ft else if tkG c τ q p' = 33 then (if ft = 0 then 1 + 16 * sI B 13 else ft) else (if ft = 0 then 3 + 16 * sI B 13 else ft)) p2 S' ∧ p ≤ p2 ∧ p2 ≤ e ∧ (¬ τ = 5 → p2 = p') := by
  obtain ⟨ms, dv, ls, sg, vl, PL, tk, fr, to, nm, rfl⟩ := h
  have τ3 := ts_300 T
  have tw := ts_w T
  have hg := fun p2 h => tkG_e (p2 := p2) T h
  obtain ⟨t1, t2, t3, t4, t5, t6, t7, t8, t9⟩ := T
  obtain ⟨x2, p2, e1, e2, e3⟩ := t9 (xR (yR B ct gr PA BY OU) ft ms dv ls sg vl PL) hT tk fr to nm
  have r := take_R (B := yR B ct gr PA BY OU) (e := e) (BC := BC) (L := L) (c := c) hT (ft := ft) (ms := ms) (dv := dv) (ls := ls) (sg := sg) (vl := vl) (PL := PL) (ap := p) (tk := tk) (fr := fr) (to := to) (nm := nm) (p2 := p2) (τ := τ) (q := q) (x := x2) τ3 (fun z => by
    obtain ⟨w1, w2, w3⟩ := tw z
    exact ⟨by omega, by omega, fun i i1 i2 => (eT_1 c (show q ≤ e by omega)).2.2.2 i i1 (by omega)⟩) e1
  rw [hg p2 e2] at r
  exact ⟨_, p2, r, ⟨ms, dv, ls, sg, vl, PL, τ, q, p2, x2, rfl⟩, by omega, by omega, fun z => by omega⟩
theorem ned_S {n L e : Nat} {c : Nat → Nat} {BC B : St} (hT : atx n L e c BC B) {ct : Nat} {gr : Bool} {PA BY OU : Nat → Int32} {p : Nat} {S : St} {ft : Int32} (h : SR B ct gr PA BY OU ft p S) {q p' κ τ v : Nat} {x : Int32} (T : TS n L e c BC p q p' κ τ v x) (y : Nat) (hy : y < 300) : ∃ (S' : St) (p2 : Nat), df_X13_needs n (nI y) S = some (bI (decide (τ = y)), S') ∧ SR B ct gr PA BY OU (if τ = y then ft else (if ft = 0 then 1 + 16 * sI B 13 else ft)) p2 S' ∧ sI S' 9 = nI q ∧ sI S' 10 = nI p2 ∧ p ≤ p2 ∧ p2 ≤ e ∧ (¬ τ = 5 → p2 = p') := by
  obtain ⟨ms, dv, ls, sg, vl, PL, tk, fr, to, nm, rfl⟩ := h
  have τ3 := ts_300 T
  obtain ⟨t1, t2, t3, t4, t5, t6, t7, t8, t9⟩ := T
  obtain ⟨x2, p2, e1, e2, e3⟩ := t9 (xR (yR B ct gr PA BY OU) ft ms dv ls sg vl PL) hT tk fr to nm
  exact ⟨_, p2, need_R y hy τ3 e1, ⟨ms, dv, ls, sg, vl, PL, τ, q, p2, x2, rfl⟩, rfl, rfl, by omega, by omega, fun z => by omega⟩
/-- a register that is there, or isn't -/
theorem tak_y {n L e : Nat} {c : Nat → Nat} {BC B : St} (hT : atx n L e c BC B) {ct : Nat} {gr : Bool} {PA BY OU : Nat → Int32} {p : Nat} {S : St} (h : SR B ct gr PA BY OU 0 p S) {q p' κ τ v : Nat} {x : Int32} (T : TS n L e c BC p q p' κ τ v x) (hg : tkG c τ q p' < 32) : ∃ S' : St, df_X13_taken n S = some (nI (tkG c τ q p'), S') ∧ SR B ct gr PA BY OU 0 p' S' := by
  obtain ⟨S', p2, e1, h1, h2, h3, h4⟩ := tak_S hT h T
  rw [if_pos hg] at e1 h1
  have n5 : ¬ τ = 5 := fun z => by
    unfold tkG at hg
    rw [if_pos (Or.inr z)] at hg
    omega
  rw [h4 n5] at h1
  exact ⟨S', e1, h1⟩
theorem tak_n {n L e : Nat} {c : Nat → Nat} {BC B : St} (hT : atx n L e c BC B) {ct : Nat} {gr : Bool} {PA BY OU : Nat → Int32} {p : Nat} {S : St} (h : SR B ct gr PA BY OU 0 p S) {q p' κ τ v : Nat} {x : Int32} (T : TS n L e c BC p q p' κ τ v x) (hg : ¬ tkG c τ q p' < 32) : ∃ S' : St, df_X13_taken n S = some (0, S') ∧ FN c e B ((if tkG c τ q p' = 33 then 1 else 3) + 16 * sI B 13) S' := by
  obtain ⟨S', p2, e1, h1, h2, h3, h4⟩ := tak_S hT h T
  rw [if_neg hg] at e1 h1
  refine ⟨S', e1, ct, gr, PA, BY, OU, p2, h3, fun i i1 i2 => T.2.1 i (by omega) i2, ?_⟩
  by_cases y : tkG c τ q p' = 33
  · rw [if_pos y] at h1 ⊢
    rw [if_pos rfl] at h1
    exact h1
  · rw [if_neg y] at h1 ⊢
    rw [if_pos rfl] at h1
    exact h1
theorem ned_y {n L e : Nat} {c : Nat → Nat} {BC B : St} (hT : atx n L e c BC B) {ct : Nat} {gr : Bool} {PA BY OU : Nat → Int32} {p : Nat} {S : St} (h : SR B ct gr PA BY OU 0 p S) {q p' κ τ v : Nat} {x : Int32} (T : TS n L e c BC p q p' κ τ v x) (y : Nat) (hy : y < 300) (h5 : ¬ y = 5) (ht : τ = y) : ∃ S' : St, df_X13_needs n (nI y) S = some (1, S') ∧ SR B ct gr PA BY OU 0 p' S' ∧ sI S' 9 = nI q ∧ sI S' 10 = nI p' := by
  obtain ⟨S', p2, e1, h1, h9, h10, h2, h3, h4⟩ := ned_S hT h T y hy
  rw [decide_eq_true ht] at e1
  rw [if_pos ht, h4 (by omega)] at h1
  rw [h4 (by omega)] at h10
  exact ⟨S', e1, h1, h9, h10⟩
theorem ned_n {n L e : Nat} {c : Nat → Nat} {BC B : St} (hT : atx n L e c BC B) {ct : Nat} {gr : Bool} {PA BY OU : Nat → Int32} {p : Nat} {S : St} (h : SR B ct gr PA BY OU 0 p S) {q p' κ τ v : Nat} {x : Int32} (T : TS n L e c BC p q p' κ τ v x) (y : Nat) (hy : y < 300) (ht : ¬ τ = y) : ∃ S' : St, df_X13_needs n (nI y) S = some (0, S') ∧ FN c e B (1 + 16 * sI B 13) S' := by
  obtain ⟨S', p2, e1, h1, h9, h10, h2, h3, h4⟩ := ned_S hT h T y hy
  rw [decide_eq_false ht] at e1
  rw [if_neg ht, if_pos rfl] at h1
  exact ⟨S', e1, ct, gr, PA, BY, OU, p2, h3, fun i i1 i2 => T.2.1 i (by omega) i2, h1⟩
theorem com_y {n L e : Nat} {c : Nat → Nat} {BC B : St} (hT : atx n L e c BC B) {ct : Nat} {gr : Bool} {PA BY OU : Nat → Int32} {p : Nat} {S : St} (h : SR B ct gr PA BY OU 0 p S) {q p' κ τ v : Nat} {x : Int32} (T : TS n L e c BC p q p' κ τ v x) (ht : τ = 44) : ∃ S' : St, df_X13_comma n S = some (1, S') ∧ SR B ct gr PA BY OU 0 p' S' := by
  obtain ⟨S', e1, h1, _⟩ := ned_y hT h T 44 (by omega) (by omega) ht
  refine ⟨S', ?_, h1⟩
  unfold df_X13_comma df_X13_comma_0 df_X13_comma_21
  rw [if_pos (SR_12 h), show (44 : Int32) = nI 44 from rfl, e1, nb_b2, if_neg (by decide)]
  exact nar_z (by decide)
theorem com_n {n L e : Nat} {c : Nat → Nat} {BC B : St} (hT : atx n L e c BC B) {ct : Nat} {gr : Bool} {PA BY OU : Nat → Int32} {p : Nat} {S : St} (h : SR B ct gr PA BY OU 0 p S) {q p' κ τ v : Nat} {x : Int32} (T : TS n L e c BC p q p' κ τ v x) (ht : ¬ τ = 44) : ∃ S' : St, df_X13_comma n S = some (0, S') ∧ FN c e B (1 + 16 * sI B 13) S' := by
  obtain ⟨S', e1, h1⟩ := ned_n hT h T 44 (by omega) ht
  refine ⟨S', ?_, h1⟩
  unfold df_X13_comma df_X13_comma_0 df_X13_comma_20 df_X13_comma_21
  rw [if_pos (SR_12 h), show (44 : Int32) = nI 44 from rfl, e1, nb_b2, if_pos rfl]
  exact nar_z (by decide)
/-- with a fault: tokens that don't matter -/
theorem tak_F {n L e : Nat} {c : Nat → Nat} {BC B : St} (hT : atx n L e c BC B) {ft : Int32} {S : St} (h : FN c e B ft S) (hf : ¬ ft = 0) : ∃ (r : Int32) (S' : St), df_X13_taken n S = some (r, S') ∧ FN c e B ft S' := by
  obtain ⟨ct, gr, PA, BY, OU, p, h1, h2, h⟩ := h
  obtain ⟨q, p', κ, τ, v, x, T⟩ := ts_ex hT p h1 h2
  obtain ⟨S', p2, e1, g1, g2, g3, g4⟩ := tak_S hT h T
  refine ⟨_, S', e1, ct, gr, PA, BY, OU, p2, g3, fun i i1 i2 => h2 i (by omega) i2, ?_⟩
  rw [if_neg hf, if_neg hf] at g1
  split at g1
  · exact g1
  · split at g1 <;> exact g1
theorem ned_F {n L e : Nat} {c : Nat → Nat} {BC B : St} (hT : atx n L e c BC B) {ft : Int32} {S : St} (h : FN c e B ft S) (hf : ¬ ft = 0) (y : Nat) (hy : y < 300) : ∃ (b : Bool) (S' : St), df_X13_needs n (nI y) S = some (bI b, S') ∧ FN c e B ft S' := by
  obtain ⟨ct, gr, PA, BY, OU, p, h1, h2, h⟩ := h
  obtain ⟨q, p', κ, τ, v, x, T⟩ := ts_ex hT p h1 h2
  obtain ⟨S', p2, e1, g1, _, _, g2, g3, g4⟩ := ned_S hT h T y hy
  refine ⟨_, S', e1, ct, gr, PA, BY, OU, p2, g3, fun i i1 i2 => h2 i (by omega) i2, ?_⟩
  rw [if_neg hf] at g1
  split at g1 <;> exact g1

/-- what an expression's reader needs of the reference's tables -/
def RV (n L e : Nat) (c : Nat → Nat) (BC B : St) (X : Nat → Nat) (nL cu : Nat) : Prop := atx n L e c BC B ∧ nL ≤ 16500 ∧ sI B 3 = nI nL ∧ (∀ k : Nat, k < nL → sR B 6 k = nI (X k) ∧ X k < 2 ^ 20) ∧ (∀ k : Nat, k < nL → 3 ≤ X k / 131072 → X k % 131072 < L ∧ 48 ≤ c (X k % 131072)) ∧ sI B 16 = nI cu ∧ cu < 11000 ∧ ∃ ln : Nat, sI B 13 = nI ln ∧ ln ≤ 40000
def PY (PA : Nat → Int32) (cu st : Nat) : Prop := ∃ Y : Nat, PA cu = nI Y ∧ Y < 2 ^ 31 ∧ st = Y % 131072
def VW (c X : Nat → Nat) (e nL st : Nat) (B : St) : Tp → Int32 × Bool := VV c X e nL st (sI B 4) (sI B 17) (sR B 7)
def exF (B : St) (ms dv : Bool) : Int32 := if sI B 15 = 2 ∧ (ms = true ∨ dv = true) then (if ms = true then 8 else 9) + 16 * sI B 13 else 0
theorem exp_R {n L e : Nat} {c : Nat → Nat} {BC B : St} {X : Nat → Nat} {nL st cu : Nat} (hV : RV n L e c BC B X nL cu) {ct : Nat} {gr : Bool} {PA BY OU : Nat → Int32} (hY : PY PA cu st) {p : Nat} {S : St} (h : SR B ct gr PA BY OU 0 p S) {ok : Bool} {p2 m : Nat} {P : Nat → Tp} (R : RX n L e c BC p ok p2 m P) : ∃ (w : Int32) (S' : St) (ms dv : Bool) (ft : Int32) (ap : Nat), df_X13_expression n S = some (w, S') ∧ SR B ct gr PA BY OU ft ap S' ∧ ap ≤ e ∧ sI S' 21 = bI ms ∧ sI S' 22 = bI dv ∧ (ok = true → ap = p2 ∧ rnF (VW c X e nL st B) P m = ([w], ms, dv) ∧ ft = exF B ms dv ∧ sI S' 23 = bI (lsF (loV c X e nL) P m)) ∧ (ok = false → ft = 1 + 16 * sI B 13) := by
  obtain ⟨hT, v1, v2, v3, v4, v5, v6, v7⟩ := hV
  obtain ⟨Y, y1, y2, y3⟩ := hY
  obtain ⟨ms, dv, ls, sg, vl, PL, tk, fr, to, nm, rfl⟩ := h
  have hA := VA_1 (B := yR B ct gr PA BY OU) (BC := BC) hT nL X v1 v2 v3 v4 st cu Y v5 v6 y1 y2 y3
  obtain ⟨w, ft2, ms2, dv2, ls2, sg2, vl2, PL2, ap2, tk2, fr2, to2, nm2, e1, e2, e3, e4⟩ := R (yR B ct gr PA BY OU) _ _ hT hA v7 ms dv ls sg vl PL tk fr to nm
  refine ⟨w, _, ms2, dv2, ft2, ap2, e1, ⟨ms2, dv2, ls2, sg2, vl2, PL2, tk2, fr2, to2, nm2, rfl⟩, e2, rfl, rfl, fun z => ?_, e4⟩
  obtain ⟨a1, a2, a3, a4⟩ := e3 z
  exact ⟨a1, a2, a4, congrArg bI a3⟩
theorem exp_y {n L e : Nat} {c : Nat → Nat} {BC B : St} {X : Nat → Nat} {nL st cu : Nat} (hV : RV n L e c BC B X nL cu) {ct : Nat} {gr : Bool} {PA BY OU : Nat → Int32} (hY : PY PA cu st) {p : Nat} {S : St} (h : SR B ct gr PA BY OU 0 p S) {p2 m : Nat} {P : Nat → Tp} (R : RX n L e c BC p true p2 m P) : ∃ (w : Int32) (S' : St) (ms dv : Bool), df_X13_expression n S = some (w, S') ∧ SR B ct gr PA BY OU (exF B ms dv) p2 S' ∧ p2 ≤ e ∧ sI S' 21 = bI ms ∧ sI S' 22 = bI dv ∧ rnF (VW c X e nL st B) P m = ([w], ms, dv) ∧ sI S' 23 = bI (lsF (loV c X e nL) P m) := by
  obtain ⟨w, S', ms, dv, ft, ap, e1, e2, e3, e4, e5, e6, _⟩ := exp_R hV hY h R
  obtain ⟨a1, a2, a3, a4⟩ := e6 rfl
  rw [a1, a3] at e2
  exact ⟨w, S', ms, dv, e1, e2, by omega, e4, e5, a2, a4⟩
theorem exp_n {n L e : Nat} {c : Nat → Nat} {BC B : St} {X : Nat → Nat} {nL st cu : Nat} (hV : RV n L e c BC B X nL cu) {ct : Nat} {gr : Bool} {PA BY OU : Nat → Int32} (hY : PY PA cu st) {p : Nat} {S : St} (h : SR B ct gr PA BY OU 0 p S) {p2 m : Nat} {P : Nat → Tp} (R : RX n L e c BC p false p2 m P) : ∃ (w : Int32) (S' : St), df_X13_expression n S = some (w, S') ∧ FL e B (1 + 16 * sI B 13) S' := by
  obtain ⟨w, S', ms, dv, ft, ap, e1, e2, e3, e4, e5, _, e7⟩ := exp_R hV hY h R
  rw [e7 rfl] at e2
  exact ⟨w, S', e1, ct, gr, PA, BY, OU, ap, e3, e2⟩
/-- a fault is a fault -/
theorem flt_n {B : St} (h : ∃ ln : Nat, sI B 13 = nI ln ∧ ln ≤ 40000) (k : Nat) (hk : 1 ≤ k ∧ k ≤ 15) : ¬ nI k + 16 * sI B 13 = 0 := by
  obtain ⟨ln, h1, h2⟩ := h
  rw [h1, show (16 : Int32) * nI ln = nI (16 * ln) from pk_mul 16 ln, nI_add]
  exact zne (b := 0) (by omega) (by omega) (by omega)
theorem exF_0 {B : St} (h : ∃ ln : Nat, sI B 13 = nI ln ∧ ln ≤ 40000) {ms dv : Bool} : exF B ms dv = 0 ↔ ¬ (sI B 15 = 2 ∧ (ms = true ∨ dv = true)) := by
  unfold exF
  by_cases y : sI B 15 = 2 ∧ (ms = true ∨ dv = true)
  · rw [if_pos y]
    refine ⟨fun z => absurd z ?_, fun z => absurd y z⟩
    split
    · exact flt_n h 8 (by omega)
    · exact flt_n h 9 (by omega)
  · rw [if_neg y]
    exact ⟨fun _ => y, fun _ => rfl⟩
/-- an operand that must be within bounds: what faults come -/
def wiF (B : St) (ms dv ok : Bool) : Int32 := if sI B 15 = 2 then (if ms = true then 8 + 16 * sI B 13 else if dv = true then 9 + 16 * sI B 13 else if ok = true then 0 else 10 + 16 * sI B 13) else 0
theorem wiF_e {B : St} (h : ∃ ln : Nat, sI B 13 = nI ln ∧ ln ≤ 40000) {ms dv ok : Bool} (hz : ¬ exF B ms dv = 0) : wiF B ms dv ok = exF B ms dv := by
  have hz := fun u => hz ((exF_0 h).mpr u)
  have y : sI B 15 = 2 ∧ (ms = true ∨ dv = true) := Classical.byContradiction hz
  unfold exF wiF
  rw [if_pos y, if_pos y.1]
  by_cases w : ms = true
  · rw [if_pos w, if_pos w]
  · rw [if_neg w, if_neg w, if_pos (by rcases y.2 with u | u; exact absurd u w; exact u)]
theorem wiF_o {B : St} (h : ∃ ln : Nat, sI B 13 = nI ln ∧ ln ≤ 40000) {ms dv ok : Bool} (hz : exF B ms dv = 0) : wiF B ms dv ok = if sI B 15 = 2 ∧ ok = false then 10 + 16 * sI B 13 else 0 := by
  have hz := (exF_0 h).mp hz
  unfold wiF
  by_cases y : sI B 15 = 2
  · have n1 : ¬ ms = true := fun u => hz ⟨y, Or.inl u⟩
    have n2 : ¬ dv = true := fun u => hz ⟨y, Or.inr u⟩
    rw [if_pos y, if_neg n1, if_neg n2]
    cases ok
    · rw [if_neg (by decide), if_pos ⟨y, rfl⟩]
    · rw [if_pos rfl, if_neg (fun u => nomatch u.2)]
  · rw [if_neg y, if_neg (fun u => y u.1)]
/-- fits(), with and without a fault so far -/
theorem fit_y {n : Nat} {B : St} {ct : Nat} {gr : Bool} {PA BY OU : Nat → Int32} {p : Nat} {S : St} (h : SR B ct gr PA BY OU 0 p S) (v lo hi : Int32) {k : Nat} (hk : k = 1 ∨ k = 2 ∨ k = 4 ∨ k = 16) : ∃ S' : St, df_X13_fits n v lo hi (nI k) S = some S' ∧ SR B ct gr PA BY OU (if sI B 15 = 2 ∧ fzO lo hi k v = false then 10 + 16 * sI B 13 else 0) p S' ∧ sI S' 21 = sI S 21 ∧ sI S' 22 = sI S 22 := by
  obtain ⟨ms, dv, ls, sg, vl, PL, tk, fr, to, nm, rfl⟩ := h
  refine ⟨_, fit_R v lo hi hk, ⟨ms, dv, ls, sg, vl, PL, tk, fr, to, nm, ?_⟩, rfl, rfl⟩
  rw [if_pos rfl]
  rfl
/-- an expression, then its bounds: f is what is looked at (the value, or the value less the address) -/
theorem exfit {n L e : Nat} {c : Nat → Nat} {BC B : St} {X : Nat → Nat} {nL st cu : Nat} (hV : RV n L e c BC B X nL cu) {ct : Nat} {gr : Bool} {PA BY OU : Nat → Int32} (hY : PY PA cu st) {p : Nat} {S : St} (h : SR B ct gr PA BY OU 0 p S) {p2 m : Nat} {P : Nat → Tp} (R : RX n L e c BC p true p2 m P) (f : Int32 → Int32) (lo hi : Int32) {k : Nat} (hk : k = 1 ∨ k = 2 ∨ k = 4 ∨ k = 16) : ∃ (w : Int32) (S1 S' : St) (ms dv : Bool), df_X13_expression n S = some (w, S1) ∧ sI S1 17 = sI B 17 ∧ df_X13_fits n (f w) lo hi (nI k) S1 = some S' ∧ rnF (VW c X e nL st B) P m = ([w], ms, dv) ∧ SR B ct gr PA BY OU (wiF B ms dv (fzO lo hi k (f w))) p2 S' ∧ p2 ≤ e := by
  obtain ⟨w, S1, ms, dv, e1, e2, e3, e4, e5, e6, e7⟩ := exp_y hV hY h R
  have hl := hV.2.2.2.2.2.2.2
  by_cases y : exF B ms dv = 0
  · rw [y] at e2
    obtain ⟨S', f1, f2, _⟩ := fit_y (n := n) e2 (f w) lo hi hk
    rw [← wiF_o hl y] at f2
    exact ⟨w, S1, S', ms, dv, e1, SR_17 e2, f1, e6, f2, e3⟩
  · have fl : FL e B (exF B ms dv) S1 := ⟨_, _, _, _, _, _, e3, e2⟩
    refine ⟨w, S1, S1, ms, dv, e1, SR_17 e2, fit_F fl y _ _ _ _ (show ¬ nI k = nI 0 from zne (by omega) (by omega) (by omega)), e6, ?_, e3⟩
    rw [wiF_e hl y]
    exact e2
theorem wit_y {n L e : Nat} {c : Nat → Nat} {BC B : St} {X : Nat → Nat} {nL st cu : Nat} (hV : RV n L e c BC B X nL cu) {ct : Nat} {gr : Bool} {PA BY OU : Nat → Int32} (hY : PY PA cu st) {p : Nat} {S : St} (h : SR B ct gr PA BY OU 0 p S) {p2 m : Nat} {P : Nat → Tp} (R : RX n L e c BC p true p2 m P) (lo hi : Int32) {k : Nat} (hk : k = 1 ∨ k = 2 ∨ k = 4 ∨ k = 16) : ∃ (w : Int32) (S' : St) (ms dv : Bool), df_X13_within n lo hi (nI k) S = some (w, S') ∧ rnF (VW c X e nL st B) P m = ([w], ms, dv) ∧ SR B ct gr PA BY OU (wiF B ms dv (fzO lo hi k w)) p2 S' ∧ p2 ≤ e := by
  obtain ⟨w, S1, S', ms, dv, e1, _, e2, e3, e4, e5⟩ := exfit hV hY h R (fun x => x) lo hi hk
  refine ⟨w, S', ms, dv, ?_, e3, e4, e5⟩
  unfold df_X13_within df_X13_within_0
  rw [e1, nb_b2, show df_X13_fits n w lo hi (nI k) S1 = some S' from e2, nb_b1]
theorem wit_n {n L e : Nat} {c : Nat → Nat} {BC B : St} {X : Nat → Nat} {nL st cu : Nat} (hV : RV n L e c BC B X nL cu) {ct : Nat} {gr : Bool} {PA BY OU : Nat → Int32} (hY : PY PA cu st) {p : Nat} {S : St} (h : SR B ct gr PA BY OU 0 p S) {p2 m : Nat} {P : Nat → Tp} (R : RX n L e c BC p false p2 m P) (lo hi k : Int32) (hk : ¬ k = 0) : ∃ (w : Int32) (S' : St), df_X13_within n lo hi k S = some (w, S') ∧ FL e B (1 + 16 * sI B 13) S' := by
  obtain ⟨w, S', e1, e2⟩ := exp_n hV hY h R
  refine ⟨w, S', ?_, e2⟩
  unfold df_X13_within df_X13_within_0
  rw [e1, nb_b2, fit_F e2 (flt_n hV.2.2.2.2.2.2.2 1 (by omega)) _ _ _ _ hk, nb_b1]
/-- a register of 8 to 15 -/
theorem n8_y {n L e : Nat} {c : Nat → Nat} {BC B : St} (hT : atx n L e c BC B) {ct : Nat} {gr : Bool} {PA BY OU : Nat → Int32} {p : Nat} {S : St} (h : SR B ct gr PA BY OU 0 p S) {q p' κ τ v : Nat} {x : Int32} (T : TS n L e c BC p q p' κ τ v x) (h1 : 8 ≤ tkG c τ q p') (h2 : tkG c τ q p' ≤ 15) : ∃ S' : St, df_X13_near8 n S = some (nI (tkG c τ q p') &&& 7, S') ∧ SR B ct gr PA BY OU 0 p' S' := by
  obtain ⟨S', e1, e2⟩ := tak_y hT h T (by omega)
  refine ⟨S', ?_, e2⟩
  unfold df_X13_near8 df_X13_near8_0 df_X13_near8_22
  rw [e1, nb_b2, if_neg (show ¬ nI (tkG c τ q p') < (8 : Int32) from znl (b := 8) h1 (by omega)), if_pos (show nI (tkG c τ q p') ≤ (15 : Int32) from zle (b := 15) h2 (by omega)), show nI (tkG c τ q p') - (8 : Int32) = nI (tkG c τ q p' - 8) from pk_sub (b := 8) h1]
  have e7 : ∀ r : Fin 16, 8 ≤ r.1 → nI (r.1 - 8) &&& (7 : Int32) = nI r.1 &&& 7 := by decide
  rw [e7 ⟨tkG c τ q p', by omega⟩ h1]
theorem n8_n {n L e : Nat} {c : Nat → Nat} {BC B : St} (hT : atx n L e c BC B) {ct : Nat} {gr : Bool} {PA BY OU : Nat → Int32} {p : Nat} {S : St} (h : SR B ct gr PA BY OU 0 p S) {q p' κ τ v : Nat} {x : Int32} (T : TS n L e c BC p q p' κ τ v x) (hl : ∃ ln : Nat, sI B 13 = nI ln ∧ ln ≤ 40000) (h1 : ¬ (8 ≤ tkG c τ q p' ∧ tkG c τ q p' ≤ 15)) : ∃ (r : Int32) (S' : St), df_X13_near8 n S = some (r, S') ∧ FN c e B ((if tkG c τ q p' = 33 then 1 else 3) + 16 * sI B 13) S' := by
  by_cases y : tkG c τ q p' < 32
  · obtain ⟨S', e1, e2⟩ := tak_y hT h T y
    obtain ⟨S2, b1, b2⟩ := blm_S (n := n) e2 3
    refine ⟨(nI (tkG c τ q p') - 8) &&& 7, S2, ?_, ct, gr, PA, BY, OU, p', T.2.2.2.2.1, fun i i1 i2 => T.2.1 i (by have := T.2.2.1; have := T.2.2.2.1; omega) i2, ?_⟩
    · unfold df_X13_near8 df_X13_near8_0 df_X13_near8_17 df_X13_near8_22
      rw [e1, nb_b2, b1, nb_b1]
      by_cases z : tkG c τ q p' < 8
      · rw [if_pos (show nI (tkG c τ q p') < (8 : Int32) from zlt (b := 8) z (by omega))]
      · rw [if_neg (show ¬ nI (tkG c τ q p') < (8 : Int32) from znl (b := 8) (by omega) (by omega)), if_neg (show ¬ nI (tkG c τ q p') ≤ (15 : Int32) from znle (b := 15) (by omega) (by omega))]
    · rw [if_neg (show ¬ tkG c τ q p' = 33 by omega)]
      exact b2
  · obtain ⟨S', e1, e2⟩ := tak_n hT h T y
    refine ⟨(0 - 8) &&& 7, S', ?_, e2⟩
    unfold df_X13_near8 df_X13_near8_0 df_X13_near8_17 df_X13_near8_22
    rw [e1, nb_b2, if_pos (show (0 : Int32) < 8 by decide), blm_F (FN_L e2) (by
      by_cases z : tkG c τ q p' = 33
      · rw [if_pos z]; exact flt_n hl 1 (by omega)
      · rw [if_neg z]; exact flt_n hl 3 (by omega)), nb_b1]
theorem not_y {n : Nat} {S : St} {v w : Int32} (h : ¬ v = w) : df_X13_not n v w S = some (v, S) := by
  unfold df_X13_not df_X13_not_0 df_X13_not_10
  rw [if_neg h]
theorem not_n {n : Nat} {B : St} {ct : Nat} {gr : Bool} {PA BY OU : Nat → Int32} {p : Nat} {S : St} (h : SR B ct gr PA BY OU 0 p S) (v : Int32) : ∃ S' : St, df_X13_not n v v S = some (v, S') ∧ SR B ct gr PA BY OU (3 + 16 * sI B 13) p S' := by
  obtain ⟨S2, b1, b2⟩ := blm_S (n := n) h 3
  refine ⟨S2, ?_, b2⟩
  unfold df_X13_not df_X13_not_0 df_X13_not_10
  rw [if_pos rfl, b1, nb_b1]
/-- isEnd(): a look ahead -/
theorem ise_S {n L e : Nat} {c : Nat → Nat} {BC B : St} (hT : atx n L e c BC B) {ct : Nat} {gr : Bool} {PA BY OU : Nat → Int32} {p : Nat} {S : St} {ft : Int32} (h : SR B ct gr PA BY OU ft p S) {q p' κ τ v : Nat} {x : Int32} (T : TS n L e c BC p q p' κ τ v x) : ∃ S' : St, df_X13_isEnd n S = some (bI (decide (τ = 0)), S') ∧ SR B ct gr PA BY OU ft p S' := by
  obtain ⟨S1, p2, e1, e2, e3, e4, e5, e6, e7, e8⟩ := scn_S hT h T
  have t3 := ts_300 T
  have h7 := SR_7 h
  obtain ⟨ms, dv, ls, sg, vl, PL, tk, fr, to, nm, rfl⟩ := e2
  refine ⟨uR (xR (yR B ct gr PA BY OU) ft ms dv ls sg vl PL) p tk fr to nm, ?_, ⟨ms, dv, ls, sg, vl, PL, tk, fr, to, nm, rfl⟩⟩
  unfold df_X13_isEnd df_X13_isEnd_0 df_X13_isEnd_26
  rw [h7, nb_let, e1, nb_b1, uR_w7, nb_let, uR_i8]
  rw [uR_i8] at e3
  rw [e3]
  by_cases y : τ = 0
  · rw [if_pos (show nI τ = (0 : Int32) from congrArg nI y), decide_eq_true y]
    exact nar_z (by decide)
  · rw [if_neg (show ¬ nI τ = (0 : Int32) from zne (b := 0) y (by omega) (by omega)), decide_eq_false y]
    exact nar_z (by decide)
/-- a register in brackets -/
theorem brk_y {n L e : Nat} {c : Nat → Nat} {BC B : St} (hT : atx n L e c BC B) {ct : Nat} {gr : Bool} {PA BY OU : Nat → Int32} {p : Nat} {S : St} (h : SR B ct gr PA BY OU 0 p S) {q p' κ τ v : Nat} {x : Int32} (T : TS n L e c BC p q p' κ τ v x) (ht : τ = 40) {q1 p1 κ1 τ1 v1 : Nat} {x1 : Int32} (T1 : TS n L e c BC p' q1 p1 κ1 τ1 v1 x1) (hg : tkG c τ1 q1 p1 < 32) {q2 p2 κ2 τ2 v2 : Nat} {x2 : Int32} (T2 : TS n L e c BC p1 q2 p2 κ2 τ2 v2 x2) (ht2 : τ2 = 41) : ∃ S' : St, df_X13_bracketed n S = some (nI (tkG c τ1 q1 p1), S') ∧ SR B ct gr PA BY OU 0 p2 S' := by
  obtain ⟨S1, e1, g1, _⟩ := ned_y hT h T 40 (by omega) (by omega) ht
  obtain ⟨S2, e2, g2⟩ := tak_y hT g1 T1 hg
  obtain ⟨S3, e3, g3, _⟩ := ned_y hT g2 T2 41 (by omega) (by omega) ht2
  refine ⟨S3, ?_, g3⟩
  unfold df_X13_bracketed df_X13_bracketed_0 df_X13_bracketed_17 df_X13_bracketed_32
  rw [show (40 : Int32) = nI 40 from rfl, e1, nb_b2, if_neg (by decide), e2, nb_b2, if_pos (SR_12 g2), show (41 : Int32) = nI 41 from rfl, e3, nb_b2]
theorem brk_1 {n L e : Nat} {c : Nat → Nat} {BC B : St} (hT : atx n L e c BC B) {ct : Nat} {gr : Bool} {PA BY OU : Nat → Int32} {p : Nat} {S : St} (h : SR B ct gr PA BY OU 0 p S) (hl : ∃ ln : Nat, sI B 13 = nI ln ∧ ln ≤ 40000) {q p' κ τ v : Nat} {x : Int32} (T : TS n L e c BC p q p' κ τ v x) (ht : ¬ τ = 40) : ∃ (r : Int32) (S' : St), df_X13_bracketed n S = some (r, S') ∧ FL e B (1 + 16 * sI B 13) S' := by
  obtain ⟨S1, e1, g1⟩ := ned_n hT h T 40 (by omega) ht
  refine ⟨0, S1, ?_, FN_L g1⟩
  unfold df_X13_bracketed df_X13_bracketed_0 df_X13_bracketed_17 df_X13_bracketed_32
  rw [show (40 : Int32) = nI 40 from rfl, e1, nb_b2, if_pos rfl, if_neg (by rw [(FL_f (FN_L g1)).1]; exact flt_n hl 1 (by omega))]
theorem brk_2 {n L e : Nat} {c : Nat → Nat} {BC B : St} (hT : atx n L e c BC B) {ct : Nat} {gr : Bool} {PA BY OU : Nat → Int32} {p : Nat} {S : St} (h : SR B ct gr PA BY OU 0 p S) (hl : ∃ ln : Nat, sI B 13 = nI ln ∧ ln ≤ 40000) {q p' κ τ v : Nat} {x : Int32} (T : TS n L e c BC p q p' κ τ v x) (ht : τ = 40) {q1 p1 κ1 τ1 v1 : Nat} {x1 : Int32} (T1 : TS n L e c BC p' q1 p1 κ1 τ1 v1 x1) (hg : ¬ tkG c τ1 q1 p1 < 32) : ∃ (r : Int32) (S' : St), df_X13_bracketed n S = some (r, S') ∧ FL e B ((if tkG c τ1 q1 p1 = 33 then 1 else 3) + 16 * sI B 13) S' := by
  obtain ⟨S1, e1, g1, _⟩ := ned_y hT h T 40 (by omega) (by omega) ht
  obtain ⟨S2, e2, g2⟩ := tak_n hT g1 T1 hg
  refine ⟨0, S2, ?_, FN_L g2⟩
  unfold df_X13_bracketed df_X13_bracketed_0 df_X13_bracketed_17 df_X13_bracketed_32
  rw [show (40 : Int32) = nI 40 from rfl, e1, nb_b2, if_neg (by decide), e2, nb_b2, if_neg (by
    rw [(FL_f (FN_L g2)).1]
    by_cases z : tkG c τ1 q1 p1 = 33
    · rw [if_pos z]; exact flt_n hl 1 (by omega)
    · rw [if_neg z]; exact flt_n hl 3 (by omega))]
theorem brk_3 {n L e : Nat} {c : Nat → Nat} {BC B : St} (hT : atx n L e c BC B) {ct : Nat} {gr : Bool} {PA BY OU : Nat → Int32} {p : Nat} {S : St} (h : SR B ct gr PA BY OU 0 p S) (hl : ∃ ln : Nat, sI B 13 = nI ln ∧ ln ≤ 40000) {q p' κ τ v : Nat} {x : Int32} (T : TS n L e c BC p q p' κ τ v x) (ht : τ = 40) {q1 p1 κ1 τ1 v1 : Nat} {x1 : Int32} (T1 : TS n L e c BC p' q1 p1 κ1 τ1 v1 x1) (hg : tkG c τ1 q1 p1 < 32) {q2 p2 κ2 τ2 v2 : Nat} {x2 : Int32} (T2 : TS n L e c BC p1 q2 p2 κ2 τ2 v2 x2) (ht2 : ¬ τ2 = 41) : ∃ (r : Int32) (S' : St), df_X13_bracketed n S = some (r, S') ∧ FL e B (1 + 16 * sI B 13) S' := by
  obtain ⟨S1, e1, g1, _⟩ := ned_y hT h T 40 (by omega) (by omega) ht
  obtain ⟨S2, e2, g2⟩ := tak_y hT g1 T1 hg
  obtain ⟨S3, e3, g3⟩ := ned_n hT g2 T2 41 (by omega) ht2
  refine ⟨nI (tkG c τ1 q1 p1), S3, ?_, FN_L g3⟩
  unfold df_X13_bracketed df_X13_bracketed_0 df_X13_bracketed_17 df_X13_bracketed_32
  rw [show (40 : Int32) = nI 40 from rfl, e1, nb_b2, if_neg (by decide), e2, nb_b2, if_pos (SR_12 g2), show (41 : Int32) = nI 41 from rfl, e3, nb_b2]

/-- letters of a form: a register's, which registers it takes, its bits -/
def rlO (l : Nat) : Bool := decide (l = 100 ∨ l = 110 ∨ l = 109 ∨ l = 97 ∨ l = 98 ∨ l = 115 ∨ l = 122 ∨ l = 112 ∨ l = 113)
def rfit (y r : Nat) : Bool := if y = 110 ∨ y = 122 then !decide (r = 0) else if y = 109 then !decide (r = 2) else if y = 112 ∨ y = 113 then decide (8 ≤ r ∧ r ≤ 15) else true
def rgb (y r : Nat) : Int32 := if y = 97 then nI r <<< ((15 : Int32) &&& 31) else if y = 98 then nI r <<< ((20 : Int32) &&& 31) else if y = 115 ∨ y = 122 then nI r <<< ((2 : Int32) &&& 31) else if y = 112 then (nI r &&& 7) <<< ((2 : Int32) &&& 31) else if y = 113 then (nI r &&& 7) <<< ((7 : Int32) &&& 31) else nI r <<< ((7 : Int32) &&& 31)
theorem rl_c {y : Nat} (h : rlO y = true) : y = 100 ∨ y = 110 ∨ y = 109 ∨ y = 97 ∨ y = 98 ∨ y = 115 ∨ y = 122 ∨ y = 112 ∨ y = 113 := of_decide_eq_true h
theorem rf_C (n : Nat) {y : Nat} (h : rlO y = true) {r : Nat} (hr : r < 32) : df_X7_fits n (nI y) (nI r) () = some (bI (rfit y r), ()) := by
  rcases rl_c h with h | h | h | h | h | h | h | h | h
  · subst h; exact fr1_d n hr
  · subst h; exact fr1_n n hr
  · subst h; exact fr1_m n hr
  · subst h; exact fr1_a n hr
  · subst h; exact fr1_b n hr
  · subst h; exact fr1_s n hr
  · subst h; exact fr1_z n hr
  · subst h; exact fr1_p n hr
  · subst h; exact fr1_q n hr
theorem rgb_C (n : Nat) {y : Nat} (h : rlO y = true) (r : Nat) : df_X7_placed n (nI y) (nI r) () = some (rgb y r, ()) := by
  rcases rl_c h with h | h | h | h | h | h | h | h | h
  · subst h; exact plr_d n (nI r)
  · subst h; exact plr_n n (nI r)
  · subst h; exact plr_m n (nI r)
  · subst h; exact plr_a n (nI r)
  · subst h; exact plr_b n (nI r)
  · subst h; exact plr_s n (nI r)
  · subst h; exact plr_z n (nI r)
  · subst h; exact plr_p n (nI r)
  · subst h; exact plr_q n (nI r)
def eL : List Nat → Nat
  | [] => 0
  | l :: F => if 65 ≤ l ∧ l < 97 then l else eL F
def fOK : List Nat → Bool
  | [] => true
  | l :: F => (decide (l = 40 ∨ l = 41 ∨ l = 44) || (rlO l || (decide (65 ≤ l ∧ l < 97) && decide (eL F = 0)))) && fOK F
def RGB : List Nat → List Nat → Int32
  | [], _ => 0
  | l :: F, rs => if 97 ≤ l then (match rs with | r :: rs => rgb l r ||| RGB F rs | [] => 0) else RGB F rs
def FRM (y : Nat) : List Nat := (List.range (ks_n (ko_f y))).map (fun i => kl (ko_f y) i)
theorem frm_1 : ∀ y : Fin 128, ∀ i : Fin 9, (i.1 < ks_n (ko_f y.1) → (FRM y.1).drop i.1 = kl (ko_f y.1) i.1 :: (FRM y.1).drop (i.1 + 1)) ∧ (¬ i.1 < ks_n (ko_f y.1) → (FRM y.1).drop i.1 = []) := by decide +kernel
theorem frm_k : ∀ y : Fin 128, fOK (FRM y.1) = true := by decide +kernel
/-- a form read from a place on: f the fault (0 none), p2 where it ends, the registers, the expression's row of signs -/
def Tr (n L e : Nat) (c : Nat → Nat) (BC : St) : List Nat → Nat → Nat → Nat → List Nat → Nat → (Nat → Tp) → Prop
  | [], p, f, p2, rs, _, _ => f = 0 ∧ p2 = p ∧ rs = []
  | l :: F, p, f, p2, rs, m, P => ∃ (q p' κ τ v : Nat) (x : Int32), TS n L e c BC p q p' κ τ v x ∧ (if l < 65 then (τ = l ∧ Tr n L e c BC F p' f p2 rs m P) ∨ (¬ τ = l ∧ f = 1) else if 97 ≤ l then (tkG c τ q p' < 32 ∧ rfit l (tkG c τ q p') = true ∧ ∃ rs' : List Nat, rs = tkG c τ q p' :: rs' ∧ Tr n L e c BC F p' f p2 rs' m P) ∨ (tkG c τ q p' = 33 ∧ f = 1) ∨ ((tkG c τ q p' = 32 ∨ (tkG c τ q p' < 32 ∧ rfit l (tkG c τ q p') = false)) ∧ f = 3) else ∃ (ok : Bool) (px : Nat), RX n L e c BC p ok px m P ∧ ((ok = true ∧ p ≤ px ∧ px ≤ e ∧ Tr n L e c BC F px f p2 rs m P) ∨ (ok = false ∧ f = 1)))
theorem tkG_l {c : Nat → Nat} {τ q p : Nat} : tkG c τ q p ≤ 33 := by
  have := reS_l (p - q) (c q) (c (q + 1)) (c (q + 2)) (c (q + 3))
  unfold tkG
  split
  · omega
  · split <;> omega
theorem i1_n (i : Nat) : nI i + Int32.ofInt 1 = nI (i + 1) := nI_add i 1
theorem lt_y {α : Type} {y k : Nat} {x : Option α} (h : y < k) : nd_lt y k x = x := if_pos h
/-- without an expression the row of signs doesn't matter -/
theorem Tr_m {n L e : Nat} {c : Nat → Nat} {BC : St} : ∀ {F : List Nat} {p f p2 : Nat} {rs : List Nat} {m m' : Nat} {P P' : Nat → Tp}, eL F = 0 → Tr n L e c BC F p f p2 rs m P → Tr n L e c BC F p f p2 rs m' P' := fun {F} => by
  induction F with
  | nil => intro p f p2 rs m m' P P' _ h; exact h
  | cons a F ih =>
    intro p f p2 rs m m' P P' h0 h
    have na : ¬ (65 ≤ a ∧ a < 97) := fun z => by
      have : eL (a :: F) = a := if_pos z
      omega
    have h0 : eL F = 0 := by
      have : eL (a :: F) = eL F := if_neg na
      omega
    obtain ⟨q, p', κ, τ, v, x, hT, h⟩ := h
    refine ⟨q, p', κ, τ, v, x, hT, ?_⟩
    by_cases z : a < 65
    · rw [if_pos z] at h ⊢
      rcases h with h | h
      · exact Or.inl ⟨h.1, ih h0 h.2⟩
      · exact Or.inr h
    · rw [if_neg z, if_pos (by omega)] at h ⊢
      rcases h with ⟨h1, h2, rs', h3, h4⟩ | h
      · exact Or.inl ⟨h1, h2, rs', h3, ih h0 h4⟩
      · exact Or.inr h
/-- one letter of the class -/
theorem rin_0 (n g y : Nat) (hy : y < 128) (b c l : Int32) (i : Nat) (hi : i ≤ 8) (s1 s2 : St) (h : ¬ i < ks_n (ko_f y) ∨ ¬ sI s1 2 = 0) : df_X1_readInstruction_18 n (g + 1) y b c l (nI i) (s1, s2) = df_X1_readInstruction_110 n y b c l (s1, s2) := by
  have f := fo_l ⟨y, hy⟩
  have f1 : ks_n (ko_f y) ≤ 8 := f.1
  have f2 : ko_f y < 190 := f.2
  show dF_X1_readInstruction_18 n (df_X1_readInstruction_18 n g) y b c l (nI i) (s1, s2) = _
  unfold dF_X1_readInstruction_18
  rw [lt_y hy, lt_y f2, ln_1 n _ f2, nb_b2]
  by_cases z : i < ks_n (ko_f y)
  · rw [if_neg (znle z (by omega)), if_neg (show ¬ sI (s1, s2).1 2 = 0 from by rcases h with h | h; exact absurd z h; exact h)]
  · rw [if_pos (zle (by omega) (by omega))]
theorem rin_1 (n g y : Nat) (hy : y < 128) (b c l : Int32) (i k : Nat) (hi : i < ks_n (ko_f y)) (hk : kl (ko_f y) i = k) (hk2 : k < 127) (s1 s2 : St) (h : sI s1 2 = 0) : df_X1_readInstruction_18 n (g + 1) y b c l (nI i) (s1, s2) = if 65 ≤ k then (if k < 97 then nd_b2 (df_X9_sum n s2) (fun q t => if 0 ≤ q then df_X1_readInstruction_18 n g y b q (nI k) (nI (i + 1)) (s1, t) else nd_b1 (df_X1_blame n 1 (s1, t)) (fun u => df_X1_readInstruction_18 n g y b q (nI k) (nI (i + 1)) u)) else nd_b2 (df_X1_readRegister n (nI k) (s1, s2)) (fun q t => df_X1_readInstruction_18 n g y (b ||| q) c l (nI (i + 1)) t)) else nd_b1 (df_X1_expect n (nI k) (s1, s2)) (fun t => df_X1_readInstruction_18 n g y b c l (nI (i + 1)) t) := by
  have f := fo_l ⟨y, hy⟩
  have f1 : ks_n (ko_f y) ≤ 8 := f.1
  have f2 : ko_f y < 190 := f.2
  have kb := (kl_1 ⟨ko_f y, f2⟩ ⟨i, by omega⟩).1
  have kb : ks_b (ko_f y) i = nI k := hk ▸ kb
  show dF_X1_readInstruction_18 n (df_X1_readInstruction_18 n g) y b c l (nI i) (s1, s2) = _
  unfold dF_X1_readInstruction_18 df_X1_readInstruction_104
  rw [lt_y hy, lt_y f2, ln_1 n _ f2, nb_b2, if_neg (znle hi (by omega)), if_pos (show sI (s1, s2).1 2 = 0 from h), lt_y hy, lt_y f2, ch_1 n _ i f2 hi, kb, nb_b2]
  by_cases z : 65 ≤ k
  · rw [if_pos (show (65 : Int32) ≤ nI k from zle (a := 65) z (by omega)), if_pos z]
    by_cases w : k < 97
    · rw [if_pos (show nI k < (97 : Int32) from zlt (b := 97) w (by omega)), if_pos w]
      rw [i1_n]
      rfl
    · rw [if_neg (show ¬ nI k < (97 : Int32) from znl (b := 97) (by omega) (by omega)), if_neg w]
      rw [i1_n]
      rfl
  · rw [if_neg (show ¬ (65 : Int32) ≤ nI k from znle (a := 65) (by omega) (by omega)), if_neg z]
    rw [i1_n]
    rfl
theorem or_0 (v : Int32) : v ||| 0 = v := Int32.or_zero
theorem pI_2 {s : St} {v : Int32} : sI (pI s 2 v) 2 = v := rfl
/-- a form's letters, one after the other -/
theorem rin_C {n L e : Nat} {c : Nat → Nat} {BC BR0 : St} (hT0 : atx n L e c BC BR0) (y : Nat) (hy : y < 128) : ∀ (F : List Nat) (i g : Nat) (b k l : Int32) (s1 : St) (cs tp st ns : Nat) (fx : Bool) (C A S NM BK : Nat → Int32) (bs ws : Nat → Nat) (p q p' κ τ v : Nat) (x : Int32), fOK F = true → (FRM y).drop i = F → i + F.length = ks_n (ko_f y) → F.length < g → sI s1 2 = 0 → TS n L e c BC p q p' κ τ v x → HT L c ns NM BK bs ws → 0 < p → cs ≤ p + 1 → 2 * ns ≤ p + 1 → (¬ eL F = 0 → cs ≤ p ∧ 2 * ns ≤ p) → ∃ (f p2 : Nat) (rs : List Nat) (m : Nat) (P : Nat → Tp) (b' k' l' : Int32) (cs' tp' st' ns' : Nat) (fx' : Bool) (C' A' S' NM' BK' : Nat → Int32) (bs' ws' : Nat → Nat) (q2 p2' κ2 τ2 v2 : Nat) (x2 : Int32), Tr n L e c BC F p f p2 rs m P ∧ (f = 0 ∨ f = 1 ∨ f = 3) ∧ df_X1_readInstruction_18 n g y b k l (nI i) (s1, uC (xC BC cs tp st ns fx C A S NM BK) p' κ q x) = df_X1_readInstruction_110 n y b' k' l' (if f = 0 then s1 else pI s1 2 (nI f), uC (xC BC cs' tp' st' ns' fx' C' A' S' NM' BK') p2' κ2 q2 x2) ∧ (f = 0 → TS n L e c BC p2 q2 p2' κ2 τ2 v2 x2 ∧ p ≤ p2 ∧ b' = b ||| RGB F rs ∧ PS ns NM bs ws ns' NM' bs' ws' ∧ HT L c ns' NM' BK' bs' ws' ∧ cs' ≤ p2 + 1 ∧ 2 * ns' ≤ p2 + 1 ∧ (eL F = 0 → k' = k ∧ l' = l ∧ cs' = cs ∧ ns' = ns ∧ fx' = fx ∧ C' = C ∧ A' = A ∧ NM' = NM ∧ BK' = BK ∧ bs' = bs ∧ ws' = ws) ∧ (¬ eL F = 0 → k' = nI cs ∧ l' = nI (eL F) ∧ cs' = cs + m + 1 ∧ CR (sR BC 5) c e C A cs ns' bs' ws' m P C' A' ∧ C' (cs + m) = 21 ∧ 0 < m ∧ (fx' = true ↔ fxQ c e bs' ws' NM' ns' m P))) := fun F => by
  have hn : 70000 < n := hT0.1
  have f := fo_l ⟨y, hy⟩
  have f1 : ks_n (ko_f y) ≤ 8 := f.1
  induction F with
  | nil =>
    intro i g b k l s1 cs tp st ns fx C A S NM BK bs ws p q p' κ τ v x h1 h2 h3 h4 h5 hT hH hp0 hc hns _
    obtain ⟨g, rfl⟩ : ∃ m : Nat, g = m + 1 := ⟨g - 1, by have : (0 : Nat) < g := h4; omega⟩
    have h3 : i + 0 = ks_n (ko_f y) := h3
    refine ⟨0, p, [], 0, fun _ => (0, 0, 0), b, k, l, cs, tp, st, ns, fx, C, A, S, NM, BK, bs, ws, q, p', κ, τ, v, x, ⟨rfl, rfl, rfl⟩, Or.inl rfl, rin_0 n g y hy b k l i (by omega) s1 _ (Or.inl (by omega)), fun _ => ⟨hT, Nat.le_refl _, (or_0 b).symm, PS_r, hH, hc, hns, fun _ => ⟨rfl, rfl, rfl, rfl, rfl, rfl, rfl, rfl, rfl, rfl, rfl⟩, fun z => absurd rfl z⟩⟩
  | cons a F ih =>
    intro i g b k l s1 cs tp st ns fx C A S NM BK bs ws p q p' κ τ v x h1 h2 h3 h4 h5 hT hH hp0 hc hns hcap
    obtain ⟨g, rfl⟩ : ∃ m : Nat, g = m + 1 := ⟨g - 1, by have : F.length + 1 < g := h4; omega⟩
    have h4 : F.length + 1 < g + 1 := h4
    have h3 : i + (F.length + 1) = ks_n (ko_f y) := h3
    have hi : i < ks_n (ko_f y) := by omega
    have fr := (frm_1 ⟨y, hy⟩ ⟨i, by omega⟩).1 hi
    have fr : a :: F = kl (ko_f y) i :: (FRM y).drop (i + 1) := h2.symm.trans fr
    obtain ⟨fa, fF⟩ := List.cons.inj fr
    have h1 : ((decide (a = 40 ∨ a = 41 ∨ a = 44) || (rlO a || (decide (65 ≤ a ∧ a < 97) && decide (eL F = 0)))) && fOK F) = true := h1
    rw [Bool.and_eq_true] at h1
    obtain ⟨h1a, h1b⟩ := h1
    have k127 : a < 127 := by
      have := (kl_1 ⟨ko_f y, f.2⟩ ⟨i, by omega⟩).2
      have : kl (ko_f y) i < 127 := this
      omega
    have st1 := rin_1 n g y hy b k l i a hi fa.symm k127 s1 (uC (xC BC cs tp st ns fx C A S NM BK) p' κ q x) h5
    have pe : p ≤ p' := by have := hT.2.2.1; have := hT.2.2.2.1; omega
    rw [Bool.or_eq_true, Bool.or_eq_true, Bool.and_eq_true] at h1a
    rcases h1a with w | w | w
    · -- a sign
      have w := of_decide_eq_true w
      rw [if_neg (by omega)] at st1
      have eF : eL (a :: F) = eL F := if_neg (by omega)
      have rF : ∀ rs : List Nat, RGB (a :: F) rs = RGB F rs := fun rs => if_neg (by omega)
      obtain ⟨x1, x2⟩ := xpt_C hT0 (cs := cs) (tp := tp) (st := st) (ns := ns) (fx := fx) (C := C) (A := A) (S := S) (NM := NM) (BK := BK) s1 h5 a (by omega) p q p' κ τ v x hT
      by_cases z : τ = a
      · obtain ⟨q2, p2, κ2, τ2, v2, xx, e1, e2⟩ := x1 z
        rw [e1, nb_b1] at st1
        obtain ⟨f, p3, rs, m, P, b', k', l', cs', tp', st', ns', fx', C', A', S', NM', BK', bs', ws', q3, p3', κ3, τ3, v3, x3, r1, r2, r3, r4⟩ := ih (i + 1) g b k l s1 cs tp st ns fx C A S NM BK bs ws p' q2 p2 κ2 τ2 v2 xx h1b fF.symm (by omega) (by omega) h5 e2 hH (by omega) (by omega) (by omega) (fun u => by have := hcap (by rw [eF]; exact u); omega)
        refine ⟨f, p3, rs, m, P, b', k', l', cs', tp', st', ns', fx', C', A', S', NM', BK', bs', ws', q3, p3', κ3, τ3, v3, x3, ⟨q, p', κ, τ, v, x, hT, ?_⟩, r2, st1.trans r3, fun u => ?_⟩
        · rw [if_pos (by omega)]
          exact Or.inl ⟨z, r1⟩
        · obtain ⟨a1, a2, a3, a4⟩ := r4 u
          rw [eF, rF]
          exact ⟨a1, by omega, a3, a4⟩
      · rw [x2 z, nb_b1] at st1
        obtain ⟨g, rfl⟩ : ∃ m : Nat, g = m + 1 := ⟨g - 1, by omega⟩
        refine ⟨1, p, [], 0, fun _ => (0, 0, 0), b, k, l, cs, tp, st, ns, fx, C, A, S, NM, BK, bs, ws, q, p', κ, τ, v, x, ⟨q, p', κ, τ, v, x, hT, ?_⟩, Or.inr (Or.inl rfl), st1.trans (rin_0 n g y hy b k l (i + 1) (by omega) _ _ (Or.inr (by rw [pI_2]; decide))), fun u => absurd u (by decide)⟩
        rw [if_pos (by omega)]
        exact Or.inr ⟨z, rfl⟩
    · -- a register
      have l97 : 97 ≤ a := by have := rl_c w; omega
      rw [if_pos (by omega), if_neg (by omega)] at st1
      have eF : eL (a :: F) = eL F := if_neg (by omega)
      obtain ⟨x1, x2, x3⟩ := rrg_C hT0 (cs := cs) (tp := tp) (st := st) (ns := ns) (fx := fx) (C := C) (A := A) (S := S) (NM := NM) (BK := BK) s1 h5 (nI a) (rfit a) (rgb a) (fun r hr => rf_C n w hr) (fun r hr => rgb_C n w r) p q p' κ τ v x hT
      by_cases z : tkG c τ q p' < 32 ∧ rfit a (tkG c τ q p') = true
      · obtain ⟨q2, p2, κ2, τ2, v2, xx, e1, e2⟩ := x3 z
        rw [e1, nb_b2] at st1
        obtain ⟨f, p3, rs, m, P, b', k', l', cs', tp', st', ns', fx', C', A', S', NM', BK', bs', ws', q3, p3', κ3, τ3, v3, y3, r1, r2, r3, r4⟩ := ih (i + 1) g (b ||| rgb a (tkG c τ q p')) k l s1 cs tp st ns fx C A S NM BK bs ws p' q2 p2 κ2 τ2 v2 xx h1b fF.symm (by omega) (by omega) h5 e2 hH (by omega) (by omega) (by omega) (fun u => by have := hcap (by rw [eF]; exact u); omega)
        refine ⟨f, p3, tkG c τ q p' :: rs, m, P, b', k', l', cs', tp', st', ns', fx', C', A', S', NM', BK', bs', ws', q3, p3', κ3, τ3, v3, y3, ⟨q, p', κ, τ, v, x, hT, ?_⟩, r2, st1.trans r3, fun u => ?_⟩
        · rw [if_neg (by omega), if_pos l97]
          exact Or.inl ⟨z.1, z.2, rs, rfl, r1⟩
        · obtain ⟨a1, a2, a3, a4⟩ := r4 u
          rw [eF]
          refine ⟨a1, by omega, ?_, a4⟩
          rw [a3, show RGB (a :: F) (tkG c τ q p' :: rs) = rgb a (tkG c τ q p') ||| RGB F rs from if_pos l97, Int32.or_assoc]
      · have flt : ∀ f : Nat, (f = 1 ∨ f = 3) → df_X1_readRegister n (nI a) (s1, uC (xC BC cs tp st ns fx C A S NM BK) p' κ q x) = some (0, (pI s1 2 (nI f), uC (xC BC cs tp st ns fx C A S NM BK) p' κ q x)) → df_X1_readInstruction_18 n (g + 1) y b k l (nI i) (s1, uC (xC BC cs tp st ns fx C A S NM BK) p' κ q x) = df_X1_readInstruction_110 n y b k l (pI s1 2 (nI f), uC (xC BC cs tp st ns fx C A S NM BK) p' κ q x) := fun f hf e1 => by
          rw [e1, nb_b2, or_0] at st1
          obtain ⟨g, rfl⟩ : ∃ m : Nat, g = m + 1 := ⟨g - 1, by omega⟩
          exact st1.trans (rin_0 n g y hy b k l (i + 1) (by omega) _ _ (Or.inr (by
            rw [pI_2]
            rcases hf with hf | hf <;> subst hf <;> decide)))
        by_cases z3 : tkG c τ q p' = 33
        · refine ⟨1, p, [], 0, fun _ => (0, 0, 0), b, k, l, cs, tp, st, ns, fx, C, A, S, NM, BK, bs, ws, q, p', κ, τ, v, x, ⟨q, p', κ, τ, v, x, hT, ?_⟩, Or.inr (Or.inl rfl), flt 1 (Or.inl rfl) (x1 z3), fun u => absurd u (by decide)⟩
          rw [if_neg (by omega), if_pos l97]
          exact Or.inr (Or.inl ⟨z3, rfl⟩)
        · have z4 : tkG c τ q p' = 32 ∨ (tkG c τ q p' < 32 ∧ rfit a (tkG c τ q p') = false) := by
            have := tkG_l (c := c) (τ := τ) (q := q) (p := p')
            by_cases u : tkG c τ q p' < 32
            · right
              refine ⟨u, ?_⟩
              cases hh : rfit a (tkG c τ q p') with
              | false => rfl
              | true => exact absurd ⟨u, hh⟩ z
            · left; omega
          refine ⟨3, p, [], 0, fun _ => (0, 0, 0), b, k, l, cs, tp, st, ns, fx, C, A, S, NM, BK, bs, ws, q, p', κ, τ, v, x, ⟨q, p', κ, τ, v, x, hT, ?_⟩, Or.inr (Or.inr rfl), flt 3 (Or.inr rfl) (x2 z4), fun u => absurd u (by decide)⟩
          rw [if_neg (by omega), if_pos l97]
          exact Or.inr (Or.inr ⟨z4, rfl⟩)
    · -- an expression
      have w1 := of_decide_eq_true w.1
      have w2 : eL F = 0 := of_decide_eq_true w.2
      rw [if_pos w1.1, if_pos w1.2] at st1
      have eF : eL (a :: F) = a := if_pos w1
      have rF : ∀ rs : List Nat, RGB (a :: F) rs = RGB F rs := fun rs => if_neg (by omega)
      have hcc := hcap (by rw [eF]; omega)
      have he : e - p < 32768 := by have := hT0.2.1; have := hT0.2.2.1; omega
      obtain ⟨ok, p2, q2, p2', κ2, τ2, v2, x2, m2, P2, ns2, fx2, C2, A2, S2, NM2, BK2, bs2, ws2, tp2, e1, e2, e3, e4, e5⟩ := exs_1 hT0 p q p' κ τ v x cs tp st ns fx C A S NM BK bs ws hT hH hcc.1 hcc.2 he
      rw [e1, nb_b2] at st1
      cases ok with
      | true =>
        obtain ⟨d1, d2, d3, d4, d5, d6, d7, d8⟩ := e4 rfl
        rw [if_pos rfl, if_pos (show (0 : Int32) ≤ nI cs from zle (a := 0) (Nat.zero_le _) (by have := hT.1; have := hT0.2.1; have := hT0.2.2.1; omega))] at st1
        obtain ⟨f, p3, rs, m, P, b', k', l', cs', tp', st', ns', fx', C', A', S', NM', BK', bs', ws', q3, p3', κ3, τ3, v3, x3, r1, r2, r3, r4⟩ := ih (i + 1) g b (nI cs) (nI a) s1 (cs + m2 + 1) tp2 (if true = true then 5 else 6) ns2 fx2 C2 A2 S2 NM2 BK2 bs2 ws2 p2 q2 p2' κ2 τ2 v2 x2 h1b fF.symm (by omega) (by omega) h5 d1 e3 (by omega) (by omega) (by omega) (fun u => absurd w2 u)
        have tr0 : Tr n L e c BC F p2 f p3 rs m2 P2 := Tr_m w2 r1
        refine ⟨f, p3, rs, m2, P2, b', k', l', cs', tp', st', ns', fx', C', A', S', NM', BK', bs', ws', q3, p3', κ3, τ3, v3, x3, ⟨q, p', κ, τ, v, x, hT, ?_⟩, r2, st1.trans r3, fun u => ?_⟩
        · rw [if_neg (by omega), if_neg (by omega)]
          exact ⟨true, p2, e5, Or.inl ⟨rfl, d2, d1.1, tr0⟩⟩
        · obtain ⟨a1, a2, a3, a4, a5, a6, a7, a8, a9⟩ := r4 u
          obtain ⟨b1, b2, b3, b4, b5, b6, b7, b8, b9, b10, b11⟩ := a8 w2
          subst b3 b4 b5 b6 b7 b8 b9 b10 b11
          rw [eF, rF]
          refine ⟨a1, by omega, a3, PS_t e2 a4, a5, a6, a7, fun z => absurd z (by omega), fun _ => ⟨b1, b2, rfl, d3, d4, d8, d5⟩⟩
      | false =>
        rw [if_neg (show ¬ false = true from Bool.false_ne_true), if_neg (show ¬ (0 : Int32) ≤ -1 by decide), bl_X1 1 h5, nb_b1] at st1
        obtain ⟨g, rfl⟩ : ∃ m : Nat, g = m + 1 := ⟨g - 1, by omega⟩
        refine ⟨1, p, [], m2, P2, b, -1, nI a, cs + m2 + 1, tp2, 6, ns2, fx2, C2, A2, S2, NM2, BK2, bs2, ws2, q2, p2', κ2, τ2, v2, x2, ⟨q, p', κ, τ, v, x, hT, ?_⟩, Or.inr (Or.inl rfl), st1.trans (rin_0 n g y hy b _ _ (i + 1) (by omega) _ _ (Or.inr (by rw [pI_2]; decide))), fun u => absurd u (by decide)⟩
        rw [if_neg (by omega), if_neg (by omega)]
        exact ⟨false, p2, e5, Or.inr ⟨rfl, rfl⟩⟩

theorem fit_M (n : Nat) (v : Int32) : df_X7_fits n 77 v () = some (bI (fzO (-32) 31 1 v && !decide (v = 0)), ()) := by
  have z1 : ∀ b : Bool, nd_z .boolean (bI b) (some (bI b, ())) = some (bI b, ()) := fun b => by cases b <;> exact nar_z (by decide)
  unfold df_X7_fits df_X7_fits_0
  rw [if_neg (show ¬ (77 : Int32) = 72 by decide), if_neg (show ¬ (77 : Int32) = 73 by decide), if_neg (show ¬ (77 : Int32) = 74 by decide), if_neg (show ¬ (77 : Int32) = 75 by decide), if_neg (show ¬ (77 : Int32) = 76 by decide), if_pos rfl]
  unfold df_X7_fits_454 df_X7_fits_455 fzO
  by_cases a1 : v < (-32)
  · rw [if_pos a1, decide_eq_true a1]
    exact z1 false
  rw [if_neg a1, decide_eq_false a1]
  by_cases a2 : 31 < v
  · rw [if_pos a2, decide_eq_true a2]
    exact z1 false
  rw [if_neg a2, decide_eq_false a2]
  rw [show v &&& nI (1 - 1) = 0 from (rmd_1 v (k := 1) (Or.inl rfl)).mp (by rw [show (nI 1 : Int32) = 1 from rfl, Int32.div_one, Int32.mul_one, Int32.sub_self])]
  by_cases a4 : v = 0
  · rw [if_pos a4, decide_eq_true a4]
    exact z1 false
  · rw [if_neg a4, decide_eq_false a4]
    exact z1 true
theorem fit_Y (n : Nat) (v : Int32) : df_X7_fits n 89 v () = some (bI (fzO (-512) 496 16 v && !decide (v = 0)), ()) := by
  have z1 : ∀ b : Bool, nd_z .boolean (bI b) (some (bI b, ())) = some (bI b, ()) := fun b => by cases b <;> exact nar_z (by decide)
  unfold df_X7_fits df_X7_fits_0
  rw [if_neg (show ¬ (89 : Int32) = 72 by decide), if_neg (show ¬ (89 : Int32) = 73 by decide), if_neg (show ¬ (89 : Int32) = 74 by decide), if_neg (show ¬ (89 : Int32) = 75 by decide), if_neg (show ¬ (89 : Int32) = 76 by decide), if_neg (show ¬ (89 : Int32) = 77 by decide), if_neg (show ¬ (89 : Int32) = 78 by decide), if_neg (show ¬ (89 : Int32) = 79 by decide), if_neg (show ¬ (89 : Int32) = 80 by decide), if_neg (show ¬ (89 : Int32) = 81 by decide), if_neg (show ¬ (89 : Int32) = 82 by decide), if_neg (show ¬ (89 : Int32) = 83 by decide), if_neg (show ¬ (89 : Int32) = 84 by decide), if_neg (show ¬ (89 : Int32) = 85 by decide), if_neg (show ¬ (89 : Int32) = 86 by decide), if_neg (show ¬ (89 : Int32) = 87 by decide), if_neg (show ¬ (89 : Int32) = 88 by decide), if_pos rfl]
  unfold df_X7_fits_531 df_X7_fits_532 fzO
  by_cases a1 : v < (-512)
  · rw [if_pos a1, decide_eq_true a1]
    exact z1 false
  rw [if_neg a1, decide_eq_false a1]
  by_cases a2 : 496 < v
  · rw [if_pos a2, decide_eq_true a2]
    exact z1 false
  rw [if_neg a2, decide_eq_false a2]
  by_cases a3 : v &&& 15 = 0
  · rw [if_pos a3, decide_eq_true (show v &&& nI (16 - 1) = 0 from a3)]
    by_cases a4 : v = 0
    · rw [if_pos a4, decide_eq_true a4]
      exact z1 false
    · rw [if_neg a4, decide_eq_false a4]
      exact z1 true
  · rw [if_neg a3, decide_eq_false (show ¬ v &&& nI (16 - 1) = 0 from a3)]
    exact z1 false
/-- an expression's letter: what it may be, its bits -/
def ltO (l : Nat) : Bool := decide (l = 73 ∨ l = 83 ∨ l = 72 ∨ l = 86 ∨ l = 85 ∨ l = 84 ∨ l = 74 ∨ l = 75 ∨ l = 76 ∨ l = 78 ∨ l = 77 ∨ l = 88 ∨ l = 87 ∨ l = 89 ∨ l = 80 ∨ l = 81)
def lfO (l : Nat) (v : Int32) : Bool := if l = 73 then fzO (-2048) 2047 1 v else if l = 83 then fzO (-2048) 2047 1 v else if l = 72 then fzO (0) 31 1 v else if l = 86 then fzO (0) 31 1 v else if l = 85 then fzO (0) 1048575 1 v else if l = 84 then fzO (-4096) 4094 2 v else if l = 74 then fzO (-1048576) 1048574 2 v else if l = 75 then fzO (-2048) 2046 2 v else if l = 76 then fzO (-256) 254 2 v else if l = 78 then fzO (-32) 31 1 v else if l = 77 then (fzO (-32) 31 1 v && !decide (v = 0)) else if l = 88 then fzO (4) 1020 4 v else if l = 87 then fzO (0) 124 4 v else if l = 89 then (fzO (-512) 496 16 v && !decide (v = 0)) else if l = 80 then fzO (0) 252 4 v else if l = 81 then fzO (0) 252 4 v else true
def lbO (l : Nat) (v : Int32) : Int32 := if l = 73 then v <<< ((20 : Int32) &&& 31) else if l = 83 then plS v else if l = 72 then (v &&& 31) <<< ((20 : Int32) &&& 31) else if l = 86 then plV v else if l = 85 then v <<< ((12 : Int32) &&& 31) else if l = 84 then plT v else if l = 74 then plJ v else if l = 75 then plK v else if l = 76 then plL v else if l = 78 then plN v else if l = 77 then plM v else if l = 88 then plX v else if l = 87 then plW v else if l = 89 then plY v else if l = 80 then plP v else if l = 81 then plQ v else 0
theorem lfO_C (n : Nat) {l : Nat} (h : ltO l = true) (v : Int32) : df_X7_fits n (nI l) v () = some (bI (lfO l v), ()) := by
  rcases of_decide_eq_true h with h | h | h | h | h | h | h | h | h | h | h | h | h | h | h | h
  · subst h; exact fit_I n v
  · subst h; exact fit_S n v
  · subst h; exact fit_H n v
  · subst h; exact fit_V n v
  · subst h; exact fit_U n v
  · subst h; exact fit_T n v
  · subst h; exact fit_J n v
  · subst h; exact fit_K n v
  · subst h; exact fit_L n v
  · subst h; exact fit_N n v
  · subst h; exact fit_M n v
  · subst h; exact fit_X n v
  · subst h; exact fit_W n v
  · subst h; exact fit_Y n v
  · subst h; exact fit_P n v
  · subst h; exact fit_Q n v
theorem lbO_C (n : Nat) {l : Nat} (h : ltO l = true) (v : Int32) : df_X7_placed n (nI l) v () = some (lbO l v, ()) := by
  rcases of_decide_eq_true h with h | h | h | h | h | h | h | h | h | h | h | h | h | h | h | h
  · subst h; exact plr_I n v
  · subst h; exact pl_S n v
  · subst h; exact plr_H n v
  · subst h; exact pl_V n v
  · subst h; exact plr_U n v
  · subst h; exact (pl_T n v).1
  · subst h; exact (pl_J n v).1
  · subst h; exact (pl_K n v).1
  · subst h; exact (pl_L n v).1
  · subst h; exact (pl_N n v).1
  · subst h; exact pl_M n v
  · subst h; exact pl_X n v
  · subst h; exact pl_W n v
  · subst h; exact pl_Y n v
  · subst h; exact pl_P n v
  · subst h; exact pl_Q n v
/-- the reference's ways to write the same bits -/
theorem lbV (v : Int32) : (v &&& 31) <<< ((2 : Int32) &&& 31) = plV v := by
  unfold plV ptO
  rw [show nI (2 ^ 5 - 1) = (31 : Int32) from rfl, show nI 0 &&& (31 : Int32) = 0 from rfl, show nI 2 &&& (31 : Int32) = (2 : Int32) &&& 31 from rfl, Int32.shiftRight_zero]
theorem lbM (v : Int32) : plN v = plM v := rfl
/-- the value that is looked at: an offset, or the value itself -/
def tgO (l : Nat) : Bool := decide (l = 84 ∨ l = 74 ∨ l = 75 ∨ l = 76)
def vtO (l : Nat) (ad v : Int32) : Int32 := if tgO l = true then v - ad else v

