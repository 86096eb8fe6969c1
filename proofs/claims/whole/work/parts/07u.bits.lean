/-- a bit -/
def gb (a : Int32) (i : Nat) : Bool := a.toBitVec.getLsbD i
theorem gb_ext {a b : Int32} (h : ∀ i : Nat, i < 32 → gb a i = gb b i) : a = b := Int32.toBitVec_inj.mp (BitVec.eq_of_getLsbD_eq h)
theorem gb_or (a b : Int32) (i : Nat) : gb (a ||| b) i = (gb a i || gb b i) := by unfold gb; rw [Int32.toBitVec_or, BitVec.getLsbD_or]
theorem gb_and (a b : Int32) (i : Nat) : gb (a &&& b) i = (gb a i && gb b i) := by unfold gb; rw [Int32.toBitVec_and, BitVec.getLsbD_and]
theorem gb_xor (a b : Int32) (i : Nat) : gb (a ^^^ b) i = (gb a i ^^ gb b i) := by unfold gb; rw [Int32.toBitVec_xor, BitVec.getLsbD_xor]
theorem gb_hi {a : Int32} {i : Nat} (h : 32 ≤ i) : gb a i = false := BitVec.getLsbD_of_ge _ _ h
theorem gb_shl {a : Int32} {s : Nat} (hs : s < 32) (i : Nat) : gb (a <<< nI s) i = (decide (i < 32) && !decide (i < s) && gb a (i - s)) := by
  unfold gb
  rw [Int32.toBitVec_shiftLeft, BitVec.shiftLeft_eq', nm_sh s hs, BitVec.getLsbD_shiftLeft]
theorem gb_shr {a : Int32} {s : Nat} (hs : s < 32) {i : Nat} (hi : i < 32) : gb (a >>> nI s) i = if s + i < 32 then gb a (s + i) else gb a 31 := by
  unfold gb
  rw [Int32.toBitVec_shiftRight, BitVec.sshiftRight_eq', nm_sh s hs, BitVec.getLsbD_sshiftRight]
  rw [decide_eq_false (by omega : ¬ 32 ≤ i), Bool.not_false, Bool.true_and]
  by_cases c : s + i < 32
  · rw [if_pos c, if_pos c]
  · rw [if_neg c, if_neg c]
    exact BitVec.msb_eq_getLsbD_last _
theorem gb_ush {a : Int32} {s : Nat} (hs : s < 32) (i : Nat) : gb ((a.toUInt32 >>> ((nI s).toUInt32 &&& Int32.toUInt32 (nI 31))).toInt32) i = gb a (s + i) := by
  unfold gb
  show ((a.toUInt32 >>> ((nI s).toUInt32 &&& Int32.toUInt32 (nI 31))).toBitVec).getLsbD i = _
  rw [UInt32.toBitVec_shiftRight, BitVec.ushiftRight_eq', nm_su s hs, BitVec.getLsbD_ushiftRight]
  rfl
theorem gb_n {k i : Nat} (hi : i < 32) : gb (nI k) i = k.testBit i := by
  unfold gb
  show (BitVec.ofNat 32 k).getLsbD i = _
  rw [BitVec.getLsbD_ofNat, decide_eq_true hi, Bool.true_and]
theorem gb_m (i : Nat) (hi : i < 32) : gb (-nI 1) i = true := by
  unfold gb
  rw [show (-nI 1 : Int32).toBitVec = BitVec.allOnes 32 from by decide, BitVec.getLsbD_allOnes, decide_eq_true hi]
/-- each of the 32 -/
theorem all32 {P : Nat → Prop} (h : P 0 ∧ P 1 ∧ P 2 ∧ P 3 ∧ P 4 ∧ P 5 ∧ P 6 ∧ P 7 ∧ P 8 ∧ P 9 ∧ P 10 ∧ P 11 ∧ P 12 ∧ P 13 ∧ P 14 ∧ P 15 ∧ P 16 ∧ P 17 ∧ P 18 ∧ P 19 ∧ P 20 ∧ P 21 ∧ P 22 ∧ P 23 ∧ P 24 ∧ P 25 ∧ P 26 ∧ P 27 ∧ P 28 ∧ P 29 ∧ P 30 ∧ P 31) : ∀ i : Nat, i < 32 → P i := by
  obtain ⟨h0, h1, h2, h3, h4, h5, h6, h7, h8, h9, h10, h11, h12, h13, h14, h15, h16, h17, h18, h19, h20, h21, h22, h23, h24, h25, h26, h27, h28, h29, h30, h31⟩ := h
  intro i hi
  match i, hi with
  | 0, _ => exact h0
  | 1, _ => exact h1
  | 2, _ => exact h2
  | 3, _ => exact h3
  | 4, _ => exact h4
  | 5, _ => exact h5
  | 6, _ => exact h6
  | 7, _ => exact h7
  | 8, _ => exact h8
  | 9, _ => exact h9
  | 10, _ => exact h10
  | 11, _ => exact h11
  | 12, _ => exact h12
  | 13, _ => exact h13
  | 14, _ => exact h14
  | 15, _ => exact h15
  | 16, _ => exact h16
  | 17, _ => exact h17
  | 18, _ => exact h18
  | 19, _ => exact h19
  | 20, _ => exact h20
  | 21, _ => exact h21
  | 22, _ => exact h22
  | 23, _ => exact h23
  | 24, _ => exact h24
  | 25, _ => exact h25
  | 26, _ => exact h26
  | 27, _ => exact h27
  | 28, _ => exact h28
  | 29, _ => exact h29
  | 30, _ => exact h30
  | 31, _ => exact h31
  | n + 32, h => exact absurd h (by omega)
/-- two bytes, four bytes -/
theorem pw_2 (x v : Int32) : pw x 0 (nI 65535) v = pw (pw x 0 (nI 255) v) 8 (nI 255) (v >>> nI 8) := by
  unfold pw
  (apply gb_ext; apply all32; simp (disch := decide) only [gb_or, gb_and, gb_xor, gb_shl, gb_shr, gb_ush, gb_n, gb_m, gb_hi, Nat.reduceAdd, Nat.reduceSub, Nat.reduceLT, Nat.reduceLeDiff, Nat.testBit, Nat.reduceShiftRight, Nat.reduceBNe, Nat.reduceAnd, Nat.one_and_eq_mod_two, Nat.reduceMod, decide_true, decide_false, Bool.and_true, Bool.true_and, Bool.and_false, Bool.false_and, Bool.or_false, Bool.false_or, Bool.or_true, Bool.true_or, Bool.not_true, Bool.not_false, Bool.xor_true, Bool.xor_false, Bool.true_xor, Bool.false_xor, if_true, if_false, ↓reduceIte, and_self, bne_self_eq_false, Bool.or_self, Bool.and_self, Bool.not_not])
theorem pw_2h (x v : Int32) : pw x 16 (nI 65535) v = pw (pw x 16 (nI 255) v) 24 (nI 255) (v >>> nI 8) := by
  unfold pw
  (apply gb_ext; apply all32; simp (disch := decide) only [gb_or, gb_and, gb_xor, gb_shl, gb_shr, gb_ush, gb_n, gb_m, gb_hi, Nat.reduceAdd, Nat.reduceSub, Nat.reduceLT, Nat.reduceLeDiff, Nat.testBit, Nat.reduceShiftRight, Nat.reduceBNe, Nat.reduceAnd, Nat.one_and_eq_mod_two, Nat.reduceMod, decide_true, decide_false, Bool.and_true, Bool.true_and, Bool.and_false, Bool.false_and, Bool.or_false, Bool.false_or, Bool.or_true, Bool.true_or, Bool.not_true, Bool.not_false, Bool.xor_true, Bool.xor_false, Bool.true_xor, Bool.false_xor, if_true, if_false, ↓reduceIte, and_self, bne_self_eq_false, Bool.or_self, Bool.and_self, Bool.not_not])
theorem pw_4 (x v : Int32) : pw x 0 (-nI 1) v = pw (pw (pw (pw x 0 (nI 255) v) 8 (nI 255) (v >>> nI 8)) 16 (nI 255) (v >>> nI 16)) 24 (nI 255) (v >>> nI 24) := by
  unfold pw
  (apply gb_ext; apply all32; simp (disch := decide) only [gb_or, gb_and, gb_xor, gb_shl, gb_shr, gb_ush, gb_n, gb_m, gb_hi, Nat.reduceAdd, Nat.reduceSub, Nat.reduceLT, Nat.reduceLeDiff, Nat.testBit, Nat.reduceShiftRight, Nat.reduceBNe, Nat.reduceAnd, Nat.one_and_eq_mod_two, Nat.reduceMod, decide_true, decide_false, Bool.and_true, Bool.true_and, Bool.and_false, Bool.false_and, Bool.or_false, Bool.false_or, Bool.or_true, Bool.true_or, Bool.not_true, Bool.not_false, Bool.xor_true, Bool.xor_false, Bool.true_xor, Bool.false_xor, if_true, if_false, ↓reduceIte, and_self, bne_self_eq_false, Bool.or_self, Bool.and_self, Bool.not_not])
