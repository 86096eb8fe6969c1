theorem nm31 {k : Nat} (h : k < 32) : nI k &&& (31 : Int32) = nI k := by
  have : ∀ k : Fin 32, nI k.1 &&& (31 : Int32) = nI k.1 := by decide +kernel
  exact this ⟨k, h⟩
theorem fz_t {lo hi v : Int32} {k : Nat} (h1 : lo.toInt ≤ v.toInt) (h2 : v.toInt ≤ hi.toInt) (h3 : v &&& nI (k - 1) = 0) : fzO lo hi k v = true := by
  unfold fzO
  rw [decide_eq_false (fun z => by rw [Int32.lt_iff_toInt_lt] at z; omega), decide_eq_false (fun z => by rw [Int32.lt_iff_toInt_lt] at z; omega), decide_eq_true h3]
  rfl
theorem ev_m {v : Int32} {m : Int} (h0 : v &&& nI 1 = 0) (h1 : v.toInt < 2 * m) : v.toInt ≤ 2 * m - 2 := by
  obtain ⟨A, hA, e⟩ := nI_ex v
  have e1 : nI A &&& nI 1 = nI (A % 2) := nm_m1 (by omega)
  rw [e, e1] at h0
  have e2 : A % 2 = 0 := (nI_eq (by omega) (by omega)).mp (show nI (A % 2) = nI 0 from h0)
  have e3 : v.toInt = Int.bmod A (2 ^ 32) := by rw [e]; exact Int32.toInt_ofNat' ..
  rw [Int.bmod_def] at e3
  split at e3 <;> omega
theorem pt_n {w : Int32} {k m : Nat} (hk : k < 32) (hm : m < 31) : ∃ x : Nat, x < 2 ^ m ∧ fpt w k m = nI x := by
  have h := bd_U (v := fpt w k m) (m := m) (by omega) (by
    apply gb_ext
    intro i hi
    rw [gb_and, gb_n hi, tbq_1, gb_fpt hk hi, Bool.and_assoc, Bool.and_self])
  have p1 : (2 : Int) ^ m ≤ 2 ^ 30 := by
    have : 2 ^ m ≤ 2 ^ 30 := Nat.pow_le_pow_right (by omega) (by omega)
    exact_mod_cast this
  refine ⟨(fpt w k m).toInt.toNat, ?_, Int32.toInt_inj.mp ?_⟩
  · have : ((2 ^ m : Nat) : Int) = (2 : Int) ^ m := by push_cast; rfl
    omega
  · rw [nI_toInt (by omega)]
    omega
theorem pcr_d (w : Int32) : (fpt w 7 5) <<< nI 7 = w &&& nI 3968 := by
  (apply gb_ext; apply all32; simp (disch := decide) only [ptO, nm31, gb_fpt, gb_or, gb_and, gb_xor, gb_shl, gb_shr, gb_ush, gb_u, gb_n, gb_m, gb_hi, Nat.reduceAdd, Nat.reduceSub, Nat.reducePow, Nat.reduceLT, Nat.reduceLeDiff, Nat.testBit, Nat.reduceShiftRight, Nat.reduceBNe, Nat.reduceAnd, Nat.one_and_eq_mod_two, Nat.reduceMod, decide_true, decide_false, Bool.and_true, Bool.true_and, Bool.and_false, Bool.false_and, Bool.or_false, Bool.false_or, Bool.or_true, Bool.true_or, Bool.not_true, Bool.not_false, if_true, if_false, ↓reduceIte, and_self, bne_self_eq_false, Bool.or_self, Bool.and_self, Bool.not_not])
theorem ltv_d (n : Nat) (w : Int32) : LTp n w 100 (fpt w 7 5) (true) 3968 := by
  obtain ⟨x, hx, e⟩ := pt_n (w := w) (k := 7) (m := 5) (by decide) (by decide)
  have hx : x < 32 := hx
  refine ⟨?_, ?_, ?_⟩
  · refine Eq.trans (show df_X7_taken n (nI 100) w () = some ((w >>> ((7 : Int32) &&& 31)) &&& 31, ()) from rfl) ?_
    exact congrArg (fun z => some (z, ())) (sb_1 w (lo := 7) (w := 5) (by decide) (by decide)).symm
  · rw [e]
    refine (fr1_d n hx).trans ?_
    rfl
  · exact (plr_d n _).trans (congrArg (fun z => some (z, ())) (show (fpt w 7 5) <<< ((7 : Int32) &&& 31) = _ from pcr_d w))
theorem pcr_n (w : Int32) : (fpt w 7 5) <<< nI 7 = w &&& nI 3968 := by
  (apply gb_ext; apply all32; simp (disch := decide) only [ptO, nm31, gb_fpt, gb_or, gb_and, gb_xor, gb_shl, gb_shr, gb_ush, gb_u, gb_n, gb_m, gb_hi, Nat.reduceAdd, Nat.reduceSub, Nat.reducePow, Nat.reduceLT, Nat.reduceLeDiff, Nat.testBit, Nat.reduceShiftRight, Nat.reduceBNe, Nat.reduceAnd, Nat.one_and_eq_mod_two, Nat.reduceMod, decide_true, decide_false, Bool.and_true, Bool.true_and, Bool.and_false, Bool.false_and, Bool.or_false, Bool.false_or, Bool.or_true, Bool.true_or, Bool.not_true, Bool.not_false, if_true, if_false, ↓reduceIte, and_self, bne_self_eq_false, Bool.or_self, Bool.and_self, Bool.not_not])
theorem ltv_n (n : Nat) (w : Int32) : LTp n w 110 (fpt w 7 5) (!decide (fpt w 7 5 = 0)) 3968 := by
  obtain ⟨x, hx, e⟩ := pt_n (w := w) (k := 7) (m := 5) (by decide) (by decide)
  have hx : x < 32 := hx
  refine ⟨?_, ?_, ?_⟩
  · refine Eq.trans (show df_X7_taken n (nI 110) w () = some ((w >>> ((7 : Int32) &&& 31)) &&& 31, ()) from rfl) ?_
    exact congrArg (fun z => some (z, ())) (sb_1 w (lo := 7) (w := 5) (by decide) (by decide)).symm
  · rw [e]
    refine (fr1_n n hx).trans ?_
    rw [show decide (nI x = 0) = decide (x = 0) from decide_eq_decide.mpr (show nI x = nI 0 ↔ x = 0 from nI_eq (by omega) (by omega))]
  · exact (plr_n n _).trans (congrArg (fun z => some (z, ())) (show (fpt w 7 5) <<< ((7 : Int32) &&& 31) = _ from pcr_n w))
theorem pcr_m (w : Int32) : (fpt w 7 5) <<< nI 7 = w &&& nI 3968 := by
  (apply gb_ext; apply all32; simp (disch := decide) only [ptO, nm31, gb_fpt, gb_or, gb_and, gb_xor, gb_shl, gb_shr, gb_ush, gb_u, gb_n, gb_m, gb_hi, Nat.reduceAdd, Nat.reduceSub, Nat.reducePow, Nat.reduceLT, Nat.reduceLeDiff, Nat.testBit, Nat.reduceShiftRight, Nat.reduceBNe, Nat.reduceAnd, Nat.one_and_eq_mod_two, Nat.reduceMod, decide_true, decide_false, Bool.and_true, Bool.true_and, Bool.and_false, Bool.false_and, Bool.or_false, Bool.false_or, Bool.or_true, Bool.true_or, Bool.not_true, Bool.not_false, if_true, if_false, ↓reduceIte, and_self, bne_self_eq_false, Bool.or_self, Bool.and_self, Bool.not_not])
theorem ltv_m (n : Nat) (w : Int32) : LTp n w 109 (fpt w 7 5) (!decide (fpt w 7 5 = nI 2)) 3968 := by
  obtain ⟨x, hx, e⟩ := pt_n (w := w) (k := 7) (m := 5) (by decide) (by decide)
  have hx : x < 32 := hx
  refine ⟨?_, ?_, ?_⟩
  · refine Eq.trans (show df_X7_taken n (nI 109) w () = some ((w >>> ((7 : Int32) &&& 31)) &&& 31, ()) from rfl) ?_
    exact congrArg (fun z => some (z, ())) (sb_1 w (lo := 7) (w := 5) (by decide) (by decide)).symm
  · rw [e]
    refine (fr1_m n hx).trans ?_
    rw [show decide (nI x = nI 2) = decide (x = 2) from decide_eq_decide.mpr (show nI x = nI 2 ↔ x = 2 from nI_eq (by omega) (by omega))]
  · exact (plr_m n _).trans (congrArg (fun z => some (z, ())) (show (fpt w 7 5) <<< ((7 : Int32) &&& 31) = _ from pcr_m w))
theorem pcr_a (w : Int32) : (fpt w 15 5) <<< nI 15 = w &&& nI 1015808 := by
  (apply gb_ext; apply all32; simp (disch := decide) only [ptO, nm31, gb_fpt, gb_or, gb_and, gb_xor, gb_shl, gb_shr, gb_ush, gb_u, gb_n, gb_m, gb_hi, Nat.reduceAdd, Nat.reduceSub, Nat.reducePow, Nat.reduceLT, Nat.reduceLeDiff, Nat.testBit, Nat.reduceShiftRight, Nat.reduceBNe, Nat.reduceAnd, Nat.one_and_eq_mod_two, Nat.reduceMod, decide_true, decide_false, Bool.and_true, Bool.true_and, Bool.and_false, Bool.false_and, Bool.or_false, Bool.false_or, Bool.or_true, Bool.true_or, Bool.not_true, Bool.not_false, if_true, if_false, ↓reduceIte, and_self, bne_self_eq_false, Bool.or_self, Bool.and_self, Bool.not_not])
theorem ltv_a (n : Nat) (w : Int32) : LTp n w 97 (fpt w 15 5) (true) 1015808 := by
  obtain ⟨x, hx, e⟩ := pt_n (w := w) (k := 15) (m := 5) (by decide) (by decide)
  have hx : x < 32 := hx
  refine ⟨?_, ?_, ?_⟩
  · refine Eq.trans (show df_X7_taken n (nI 97) w () = some ((w >>> ((15 : Int32) &&& 31)) &&& 31, ()) from rfl) ?_
    exact congrArg (fun z => some (z, ())) (sb_1 w (lo := 15) (w := 5) (by decide) (by decide)).symm
  · rw [e]
    refine (fr1_a n hx).trans ?_
    rfl
  · exact (plr_a n _).trans (congrArg (fun z => some (z, ())) (show (fpt w 15 5) <<< ((15 : Int32) &&& 31) = _ from pcr_a w))
theorem pcr_b (w : Int32) : (fpt w 20 5) <<< nI 20 = w &&& nI 32505856 := by
  (apply gb_ext; apply all32; simp (disch := decide) only [ptO, nm31, gb_fpt, gb_or, gb_and, gb_xor, gb_shl, gb_shr, gb_ush, gb_u, gb_n, gb_m, gb_hi, Nat.reduceAdd, Nat.reduceSub, Nat.reducePow, Nat.reduceLT, Nat.reduceLeDiff, Nat.testBit, Nat.reduceShiftRight, Nat.reduceBNe, Nat.reduceAnd, Nat.one_and_eq_mod_two, Nat.reduceMod, decide_true, decide_false, Bool.and_true, Bool.true_and, Bool.and_false, Bool.false_and, Bool.or_false, Bool.false_or, Bool.or_true, Bool.true_or, Bool.not_true, Bool.not_false, if_true, if_false, ↓reduceIte, and_self, bne_self_eq_false, Bool.or_self, Bool.and_self, Bool.not_not])
theorem ltv_b (n : Nat) (w : Int32) : LTp n w 98 (fpt w 20 5) (true) 32505856 := by
  obtain ⟨x, hx, e⟩ := pt_n (w := w) (k := 20) (m := 5) (by decide) (by decide)
  have hx : x < 32 := hx
  refine ⟨?_, ?_, ?_⟩
  · refine Eq.trans (show df_X7_taken n (nI 98) w () = some ((w >>> ((20 : Int32) &&& 31)) &&& 31, ()) from rfl) ?_
    exact congrArg (fun z => some (z, ())) (sb_1 w (lo := 20) (w := 5) (by decide) (by decide)).symm
  · rw [e]
    refine (fr1_b n hx).trans ?_
    rfl
  · exact (plr_b n _).trans (congrArg (fun z => some (z, ())) (show (fpt w 20 5) <<< ((20 : Int32) &&& 31) = _ from pcr_b w))
theorem pcr_s (w : Int32) : (fpt w 2 5) <<< nI 2 = w &&& nI 124 := by
  (apply gb_ext; apply all32; simp (disch := decide) only [ptO, nm31, gb_fpt, gb_or, gb_and, gb_xor, gb_shl, gb_shr, gb_ush, gb_u, gb_n, gb_m, gb_hi, Nat.reduceAdd, Nat.reduceSub, Nat.reducePow, Nat.reduceLT, Nat.reduceLeDiff, Nat.testBit, Nat.reduceShiftRight, Nat.reduceBNe, Nat.reduceAnd, Nat.one_and_eq_mod_two, Nat.reduceMod, decide_true, decide_false, Bool.and_true, Bool.true_and, Bool.and_false, Bool.false_and, Bool.or_false, Bool.false_or, Bool.or_true, Bool.true_or, Bool.not_true, Bool.not_false, if_true, if_false, ↓reduceIte, and_self, bne_self_eq_false, Bool.or_self, Bool.and_self, Bool.not_not])
theorem ltv_s (n : Nat) (w : Int32) : LTp n w 115 (fpt w 2 5) (true) 124 := by
  obtain ⟨x, hx, e⟩ := pt_n (w := w) (k := 2) (m := 5) (by decide) (by decide)
  have hx : x < 32 := hx
  refine ⟨?_, ?_, ?_⟩
  · refine Eq.trans (show df_X7_taken n (nI 115) w () = some ((w >>> ((2 : Int32) &&& 31)) &&& 31, ()) from rfl) ?_
    exact congrArg (fun z => some (z, ())) (sb_1 w (lo := 2) (w := 5) (by decide) (by decide)).symm
  · rw [e]
    refine (fr1_s n hx).trans ?_
    rfl
  · exact (plr_s n _).trans (congrArg (fun z => some (z, ())) (show (fpt w 2 5) <<< ((2 : Int32) &&& 31) = _ from pcr_s w))
theorem pcr_z (w : Int32) : (fpt w 2 5) <<< nI 2 = w &&& nI 124 := by
  (apply gb_ext; apply all32; simp (disch := decide) only [ptO, nm31, gb_fpt, gb_or, gb_and, gb_xor, gb_shl, gb_shr, gb_ush, gb_u, gb_n, gb_m, gb_hi, Nat.reduceAdd, Nat.reduceSub, Nat.reducePow, Nat.reduceLT, Nat.reduceLeDiff, Nat.testBit, Nat.reduceShiftRight, Nat.reduceBNe, Nat.reduceAnd, Nat.one_and_eq_mod_two, Nat.reduceMod, decide_true, decide_false, Bool.and_true, Bool.true_and, Bool.and_false, Bool.false_and, Bool.or_false, Bool.false_or, Bool.or_true, Bool.true_or, Bool.not_true, Bool.not_false, if_true, if_false, ↓reduceIte, and_self, bne_self_eq_false, Bool.or_self, Bool.and_self, Bool.not_not])
theorem ltv_z (n : Nat) (w : Int32) : LTp n w 122 (fpt w 2 5) (!decide (fpt w 2 5 = 0)) 124 := by
  obtain ⟨x, hx, e⟩ := pt_n (w := w) (k := 2) (m := 5) (by decide) (by decide)
  have hx : x < 32 := hx
  refine ⟨?_, ?_, ?_⟩
  · refine Eq.trans (show df_X7_taken n (nI 122) w () = some ((w >>> ((2 : Int32) &&& 31)) &&& 31, ()) from rfl) ?_
    exact congrArg (fun z => some (z, ())) (sb_1 w (lo := 2) (w := 5) (by decide) (by decide)).symm
  · rw [e]
    refine (fr1_z n hx).trans ?_
    rw [show decide (nI x = 0) = decide (x = 0) from decide_eq_decide.mpr (show nI x = nI 0 ↔ x = 0 from nI_eq (by omega) (by omega))]
  · exact (plr_z n _).trans (congrArg (fun z => some (z, ())) (show (fpt w 2 5) <<< ((2 : Int32) &&& 31) = _ from pcr_z w))
theorem ltv_p (n : Nat) (w : Int32) : LTp n w 112 (nI 8 + fpt w 2 3) true 28 := by
  obtain ⟨x, hx, e⟩ := pt_n (w := w) (k := 2) (m := 3) (by decide) (by decide)
  have hx : x < 8 := hx
  refine ⟨?_, ?_, ?_⟩
  · refine Eq.trans (show df_X7_taken n (nI 112) w () = some (8 + ((w >>> ((2 : Int32) &&& 31)) &&& 7), ()) from rfl) ?_
    rw [show (w >>> ((2 : Int32) &&& 31)) &&& 7 = fpt w 2 3 from (sb_1 w (lo := 2) (w := 3) (by decide) (by decide)).symm]
    rfl
  · rw [e, nI_add]
    refine (fr1_p n (r := 8 + x) (by omega)).trans ?_
    rw [decide_eq_true ⟨by omega, by omega⟩]
  · refine (plr_p n _).trans (congrArg (fun z => some (z, ())) ?_)
    rw [show (nI 8 + fpt w 2 3) &&& 7 = fpt w 2 3 from by rw [e, nI_add, show (7 : Int32) = nI 7 from rfl, nm_m7 (by omega)]; congr 1; omega]
    rw [show ((2 : Int32) &&& 31) = nI 2 from by decide]
    (apply gb_ext; apply all32; simp (disch := decide) only [ptO, nm31, gb_fpt, gb_or, gb_and, gb_xor, gb_shl, gb_shr, gb_ush, gb_u, gb_n, gb_m, gb_hi, Nat.reduceAdd, Nat.reduceSub, Nat.reducePow, Nat.reduceLT, Nat.reduceLeDiff, Nat.testBit, Nat.reduceShiftRight, Nat.reduceBNe, Nat.reduceAnd, Nat.one_and_eq_mod_two, Nat.reduceMod, decide_true, decide_false, Bool.and_true, Bool.true_and, Bool.and_false, Bool.false_and, Bool.or_false, Bool.false_or, Bool.or_true, Bool.true_or, Bool.not_true, Bool.not_false, if_true, if_false, ↓reduceIte, and_self, bne_self_eq_false, Bool.or_self, Bool.and_self, Bool.not_not])
theorem ltv_q (n : Nat) (w : Int32) : LTp n w 113 (nI 8 + fpt w 7 3) true 896 := by
  obtain ⟨x, hx, e⟩ := pt_n (w := w) (k := 7) (m := 3) (by decide) (by decide)
  have hx : x < 8 := hx
  refine ⟨?_, ?_, ?_⟩
  · refine Eq.trans (show df_X7_taken n (nI 113) w () = some (8 + ((w >>> ((7 : Int32) &&& 31)) &&& 7), ()) from rfl) ?_
    rw [show (w >>> ((7 : Int32) &&& 31)) &&& 7 = fpt w 7 3 from (sb_1 w (lo := 7) (w := 3) (by decide) (by decide)).symm]
    rfl
  · rw [e, nI_add]
    refine (fr1_q n (r := 8 + x) (by omega)).trans ?_
    rw [decide_eq_true ⟨by omega, by omega⟩]
  · refine (plr_q n _).trans (congrArg (fun z => some (z, ())) ?_)
    rw [show (nI 8 + fpt w 7 3) &&& 7 = fpt w 7 3 from by rw [e, nI_add, show (7 : Int32) = nI 7 from rfl, nm_m7 (by omega)]; congr 1; omega]
    rw [show ((7 : Int32) &&& 31) = nI 7 from by decide]
    (apply gb_ext; apply all32; simp (disch := decide) only [ptO, nm31, gb_fpt, gb_or, gb_and, gb_xor, gb_shl, gb_shr, gb_ush, gb_u, gb_n, gb_m, gb_hi, Nat.reduceAdd, Nat.reduceSub, Nat.reducePow, Nat.reduceLT, Nat.reduceLeDiff, Nat.testBit, Nat.reduceShiftRight, Nat.reduceBNe, Nat.reduceAnd, Nat.one_and_eq_mod_two, Nat.reduceMod, decide_true, decide_false, Bool.and_true, Bool.true_and, Bool.and_false, Bool.false_and, Bool.or_false, Bool.false_or, Bool.or_true, Bool.true_or, Bool.not_true, Bool.not_false, if_true, if_false, ↓reduceIte, and_self, bne_self_eq_false, Bool.or_self, Bool.and_self, Bool.not_not])
theorem pc_H (w : Int32) : ((tvH w) &&& nI 31) <<< nI 20 = w &&& nI 32505856 := by
  unfold tvH
  (apply gb_ext; apply all32; simp (disch := decide) only [ptO, nm31, gb_fpt, gb_or, gb_and, gb_xor, gb_shl, gb_shr, gb_ush, gb_u, gb_n, gb_m, gb_hi, Nat.reduceAdd, Nat.reduceSub, Nat.reducePow, Nat.reduceLT, Nat.reduceLeDiff, Nat.testBit, Nat.reduceShiftRight, Nat.reduceBNe, Nat.reduceAnd, Nat.one_and_eq_mod_two, Nat.reduceMod, decide_true, decide_false, Bool.and_true, Bool.true_and, Bool.and_false, Bool.false_and, Bool.or_false, Bool.false_or, Bool.or_true, Bool.true_or, Bool.not_true, Bool.not_false, if_true, if_false, ↓reduceIte, and_self, bne_self_eq_false, Bool.or_self, Bool.and_self, Bool.not_not])
theorem sgv_H (w : Int32) : (tvH w) &&& nI (2 ^ 5 - 1) = tvH w := by
  unfold tvH
  rw [show 2 ^ 5 - 1 = 31 from rfl]
  (apply gb_ext; apply all32; simp (disch := decide) only [ptO, nm31, gb_fpt, gb_or, gb_and, gb_xor, gb_shl, gb_shr, gb_ush, gb_u, gb_n, gb_m, gb_hi, Nat.reduceAdd, Nat.reduceSub, Nat.reducePow, Nat.reduceLT, Nat.reduceLeDiff, Nat.testBit, Nat.reduceShiftRight, Nat.reduceBNe, Nat.reduceAnd, Nat.one_and_eq_mod_two, Nat.reduceMod, decide_true, decide_false, Bool.and_true, Bool.true_and, Bool.and_false, Bool.false_and, Bool.or_false, Bool.false_or, Bool.or_true, Bool.true_or, Bool.not_true, Bool.not_false, if_true, if_false, ↓reduceIte, and_self, bne_self_eq_false, Bool.or_self, Bool.and_self, Bool.not_not])
theorem bov_H (w : Int32) : 0 ≤ (tvH w).toInt ∧ (tvH w).toInt < 2 ^ 5 := bd_U (by decide) (sgv_H w)
theorem nmv_H (w : Int32) : tvH w ≠ Int32.minValue := fun z => by
  have h := bov_H w
  rw [z, show Int32.minValue.toInt = -2147483648 from by decide] at h
  exact absurd h (by decide)
theorem lov_H (w : Int32) : (tvH w) &&& nI (1 - 1) = 0 := by
  rw [show 1 - 1 = 0 from rfl, show (0 : Int32) = nI 0 from rfl]
  generalize tvH w = v
  (apply gb_ext; apply all32; simp (disch := decide) only [gb_or, gb_and, gb_xor, gb_shl, gb_shr, gb_ush, gb_u, gb_n, gb_m, gb_hi, Nat.reduceAdd, Nat.reduceSub, Nat.reducePow, Nat.reduceLT, Nat.reduceLeDiff, Nat.testBit, Nat.reduceShiftRight, Nat.reduceBNe, Nat.reduceAnd, Nat.one_and_eq_mod_two, Nat.reduceMod, decide_true, decide_false, Bool.and_true, Bool.true_and, Bool.and_false, Bool.false_and, Bool.or_false, Bool.false_or, Bool.or_true, Bool.true_or, Bool.not_true, Bool.not_false, if_true, if_false, ↓reduceIte, and_self, bne_self_eq_false, Bool.or_self, Bool.and_self, Bool.not_not])
theorem pc_I (w : Int32) : (tvI w) <<< nI 20 = w &&& nI 4293918720 := by
  unfold tvI
  (apply gb_ext; apply all32; simp (disch := decide) only [ptO, nm31, gb_fpt, gb_or, gb_and, gb_xor, gb_shl, gb_shr, gb_ush, gb_u, gb_n, gb_m, gb_hi, Nat.reduceAdd, Nat.reduceSub, Nat.reducePow, Nat.reduceLT, Nat.reduceLeDiff, Nat.testBit, Nat.reduceShiftRight, Nat.reduceBNe, Nat.reduceAnd, Nat.one_and_eq_mod_two, Nat.reduceMod, decide_true, decide_false, Bool.and_true, Bool.true_and, Bool.and_false, Bool.false_and, Bool.or_false, Bool.false_or, Bool.or_true, Bool.true_or, Bool.not_true, Bool.not_false, if_true, if_false, ↓reduceIte, and_self, bne_self_eq_false, Bool.or_self, Bool.and_self, Bool.not_not])
theorem sgv_I (w : Int32) : ∀ i : Nat, i < 32 → 11 ≤ i → gb (tvI w) i = gb (tvI w) 31 := by
  unfold tvI
  (apply all32; simp (disch := decide) only [gb_or, gb_and, gb_shl, gb_shr, gb_u, gb_n, gb_m, gb_fpt, Nat.reduceAdd, Nat.reduceSub, Nat.reducePow, Nat.reduceLT, Nat.reduceLeDiff, Nat.testBit, Nat.reduceShiftRight, Nat.reduceBNe, Nat.reduceAnd, Nat.one_and_eq_mod_two, Nat.reduceMod, decide_true, decide_false, Bool.and_true, Bool.true_and, Bool.and_false, Bool.false_and, Bool.or_false, Bool.false_or, Bool.or_true, Bool.true_or, Bool.not_true, Bool.not_false, if_true, if_false, ↓reduceIte, and_self, bne_self_eq_false, Bool.or_self, Bool.and_self, Bool.not_not, false_imp_iff, imp_self, true_imp_iff, implies_true])
theorem bov_I (w : Int32) : -(2 : Int) ^ 11 ≤ (tvI w).toInt ∧ (tvI w).toInt < (2 : Int) ^ 11 := bd_S (by decide) (fun i h1 h2 => sgv_I w i h2 h1)
theorem nmv_I (w : Int32) : tvI w ≠ Int32.minValue := fun z => by
  have h := bov_I w
  rw [z, show Int32.minValue.toInt = -2147483648 from by decide] at h
  exact absurd h (by decide)
theorem lov_I (w : Int32) : (tvI w) &&& nI (1 - 1) = 0 := by
  rw [show 1 - 1 = 0 from rfl, show (0 : Int32) = nI 0 from rfl]
  generalize tvI w = v
  (apply gb_ext; apply all32; simp (disch := decide) only [gb_or, gb_and, gb_xor, gb_shl, gb_shr, gb_ush, gb_u, gb_n, gb_m, gb_hi, Nat.reduceAdd, Nat.reduceSub, Nat.reducePow, Nat.reduceLT, Nat.reduceLeDiff, Nat.testBit, Nat.reduceShiftRight, Nat.reduceBNe, Nat.reduceAnd, Nat.one_and_eq_mod_two, Nat.reduceMod, decide_true, decide_false, Bool.and_true, Bool.true_and, Bool.and_false, Bool.false_and, Bool.or_false, Bool.false_or, Bool.or_true, Bool.true_or, Bool.not_true, Bool.not_false, if_true, if_false, ↓reduceIte, and_self, bne_self_eq_false, Bool.or_self, Bool.and_self, Bool.not_not])
theorem pc_J (w : Int32) : plJ (tvJ w) = w &&& nI 4294963200 := by
  unfold tvJ plJ
  (apply gb_ext; apply all32; simp (disch := decide) only [ptO, nm31, gb_fpt, gb_or, gb_and, gb_xor, gb_shl, gb_shr, gb_ush, gb_u, gb_n, gb_m, gb_hi, Nat.reduceAdd, Nat.reduceSub, Nat.reducePow, Nat.reduceLT, Nat.reduceLeDiff, Nat.testBit, Nat.reduceShiftRight, Nat.reduceBNe, Nat.reduceAnd, Nat.one_and_eq_mod_two, Nat.reduceMod, decide_true, decide_false, Bool.and_true, Bool.true_and, Bool.and_false, Bool.false_and, Bool.or_false, Bool.false_or, Bool.or_true, Bool.true_or, Bool.not_true, Bool.not_false, if_true, if_false, ↓reduceIte, and_self, bne_self_eq_false, Bool.or_self, Bool.and_self, Bool.not_not])
theorem sgv_J (w : Int32) : ∀ i : Nat, i < 32 → 20 ≤ i → gb (tvJ w) i = gb (tvJ w) 31 := by
  unfold tvJ
  (apply all32; simp (disch := decide) only [gb_or, gb_and, gb_shl, gb_shr, gb_u, gb_n, gb_m, gb_fpt, Nat.reduceAdd, Nat.reduceSub, Nat.reducePow, Nat.reduceLT, Nat.reduceLeDiff, Nat.testBit, Nat.reduceShiftRight, Nat.reduceBNe, Nat.reduceAnd, Nat.one_and_eq_mod_two, Nat.reduceMod, decide_true, decide_false, Bool.and_true, Bool.true_and, Bool.and_false, Bool.false_and, Bool.or_false, Bool.false_or, Bool.or_true, Bool.true_or, Bool.not_true, Bool.not_false, if_true, if_false, ↓reduceIte, and_self, bne_self_eq_false, Bool.or_self, Bool.and_self, Bool.not_not, false_imp_iff, imp_self, true_imp_iff, implies_true])
theorem bov_J (w : Int32) : -(2 : Int) ^ 20 ≤ (tvJ w).toInt ∧ (tvJ w).toInt < (2 : Int) ^ 20 := bd_S (by decide) (fun i h1 h2 => sgv_J w i h2 h1)
theorem nmv_J (w : Int32) : tvJ w ≠ Int32.minValue := fun z => by
  have h := bov_J w
  rw [z, show Int32.minValue.toInt = -2147483648 from by decide] at h
  exact absurd h (by decide)
theorem lov_J (w : Int32) : (tvJ w) &&& nI (2 - 1) = 0 := by
  rw [show 2 - 1 = 1 from rfl, show (0 : Int32) = nI 0 from rfl]
  unfold tvJ
  (apply gb_ext; apply all32; simp (disch := decide) only [gb_fpt, gb_or, gb_and, gb_xor, gb_shl, gb_shr, gb_ush, gb_u, gb_n, gb_m, gb_hi, Nat.reduceAdd, Nat.reduceSub, Nat.reducePow, Nat.reduceLT, Nat.reduceLeDiff, Nat.testBit, Nat.reduceShiftRight, Nat.reduceBNe, Nat.reduceAnd, Nat.one_and_eq_mod_two, Nat.reduceMod, decide_true, decide_false, Bool.and_true, Bool.true_and, Bool.and_false, Bool.false_and, Bool.or_false, Bool.false_or, Bool.or_true, Bool.true_or, Bool.not_true, Bool.not_false, if_true, if_false, ↓reduceIte, and_self, bne_self_eq_false, Bool.or_self, Bool.and_self, Bool.not_not])
theorem pc_K (w : Int32) : plK (tvK w) = w &&& nI 8188 := by
  unfold tvK plK
  cases hb : gb w 12 with
  | true =>
    have e : fpt w 12 1 = nI 1 := by
      (apply gb_ext; apply all32; simp (disch := decide) only [hb, gb_fpt, gb_or, gb_and, gb_xor, gb_shl, gb_shr, gb_ush, gb_u, gb_n, gb_m, gb_hi, Nat.reduceAdd, Nat.reduceSub, Nat.reducePow, Nat.reduceLT, Nat.reduceLeDiff, Nat.testBit, Nat.reduceShiftRight, Nat.reduceBNe, Nat.reduceAnd, Nat.one_and_eq_mod_two, Nat.reduceMod, decide_true, decide_false, Bool.and_true, Bool.true_and, Bool.and_false, Bool.false_and, Bool.or_false, Bool.false_or, Bool.or_true, Bool.true_or, Bool.not_true, Bool.not_false, if_true, if_false, ↓reduceIte, and_self, bne_self_eq_false, Bool.or_self, Bool.and_self, Bool.not_not])
    rw [e]
    (apply gb_ext; apply all32; simp (disch := decide) only [hb, ptO, nm31, gb_fpt, gb_or, gb_and, gb_xor, gb_shl, gb_shr, gb_ush, gb_u, gb_n, gb_m, gb_hi, Nat.reduceAdd, Nat.reduceSub, Nat.reducePow, Nat.reduceLT, Nat.reduceLeDiff, Nat.testBit, Nat.reduceShiftRight, Nat.reduceBNe, Nat.reduceAnd, Nat.one_and_eq_mod_two, Nat.reduceMod, decide_true, decide_false, Bool.and_true, Bool.true_and, Bool.and_false, Bool.false_and, Bool.or_false, Bool.false_or, Bool.or_true, Bool.true_or, Bool.not_true, Bool.not_false, if_true, if_false, ↓reduceIte, and_self, bne_self_eq_false, Bool.or_self, Bool.and_self, Bool.not_not])
  | false =>
    have e : fpt w 12 1 = nI 0 := by
      (apply gb_ext; apply all32; simp (disch := decide) only [hb, gb_fpt, gb_or, gb_and, gb_xor, gb_shl, gb_shr, gb_ush, gb_u, gb_n, gb_m, gb_hi, Nat.reduceAdd, Nat.reduceSub, Nat.reducePow, Nat.reduceLT, Nat.reduceLeDiff, Nat.testBit, Nat.reduceShiftRight, Nat.reduceBNe, Nat.reduceAnd, Nat.one_and_eq_mod_two, Nat.reduceMod, decide_true, decide_false, Bool.and_true, Bool.true_and, Bool.and_false, Bool.false_and, Bool.or_false, Bool.false_or, Bool.or_true, Bool.true_or, Bool.not_true, Bool.not_false, if_true, if_false, ↓reduceIte, and_self, bne_self_eq_false, Bool.or_self, Bool.and_self, Bool.not_not])
    rw [e]
    rw [show -nI 0 = nI 0 from by decide]
    (apply gb_ext; apply all32; simp (disch := decide) only [hb, ptO, nm31, gb_fpt, gb_or, gb_and, gb_xor, gb_shl, gb_shr, gb_ush, gb_u, gb_n, gb_m, gb_hi, Nat.reduceAdd, Nat.reduceSub, Nat.reducePow, Nat.reduceLT, Nat.reduceLeDiff, Nat.testBit, Nat.reduceShiftRight, Nat.reduceBNe, Nat.reduceAnd, Nat.one_and_eq_mod_two, Nat.reduceMod, decide_true, decide_false, Bool.and_true, Bool.true_and, Bool.and_false, Bool.false_and, Bool.or_false, Bool.false_or, Bool.or_true, Bool.true_or, Bool.not_true, Bool.not_false, if_true, if_false, ↓reduceIte, and_self, bne_self_eq_false, Bool.or_self, Bool.and_self, Bool.not_not])
theorem sgv_K (w : Int32) : ∀ i : Nat, i < 32 → 11 ≤ i → gb (tvK w) i = gb (tvK w) 31 := by
  unfold tvK
  cases hb : gb w 12 with
  | true =>
    have e : fpt w 12 1 = nI 1 := by
      (apply gb_ext; apply all32; simp (disch := decide) only [hb, gb_fpt, gb_or, gb_and, gb_xor, gb_shl, gb_shr, gb_ush, gb_u, gb_n, gb_m, gb_hi, Nat.reduceAdd, Nat.reduceSub, Nat.reducePow, Nat.reduceLT, Nat.reduceLeDiff, Nat.testBit, Nat.reduceShiftRight, Nat.reduceBNe, Nat.reduceAnd, Nat.one_and_eq_mod_two, Nat.reduceMod, decide_true, decide_false, Bool.and_true, Bool.true_and, Bool.and_false, Bool.false_and, Bool.or_false, Bool.false_or, Bool.or_true, Bool.true_or, Bool.not_true, Bool.not_false, if_true, if_false, ↓reduceIte, and_self, bne_self_eq_false, Bool.or_self, Bool.and_self, Bool.not_not])
    rw [e]
    (apply all32; simp (disch := decide) only [hb, gb_or, gb_and, gb_shl, gb_shr, gb_u, gb_n, gb_m, gb_fpt, Nat.reduceAdd, Nat.reduceSub, Nat.reducePow, Nat.reduceLT, Nat.reduceLeDiff, Nat.testBit, Nat.reduceShiftRight, Nat.reduceBNe, Nat.reduceAnd, Nat.one_and_eq_mod_two, Nat.reduceMod, decide_true, decide_false, Bool.and_true, Bool.true_and, Bool.and_false, Bool.false_and, Bool.or_false, Bool.false_or, Bool.or_true, Bool.true_or, Bool.not_true, Bool.not_false, if_true, if_false, ↓reduceIte, and_self, bne_self_eq_false, Bool.or_self, Bool.and_self, Bool.not_not, false_imp_iff, imp_self, true_imp_iff, implies_true])
  | false =>
    have e : fpt w 12 1 = nI 0 := by
      (apply gb_ext; apply all32; simp (disch := decide) only [hb, gb_fpt, gb_or, gb_and, gb_xor, gb_shl, gb_shr, gb_ush, gb_u, gb_n, gb_m, gb_hi, Nat.reduceAdd, Nat.reduceSub, Nat.reducePow, Nat.reduceLT, Nat.reduceLeDiff, Nat.testBit, Nat.reduceShiftRight, Nat.reduceBNe, Nat.reduceAnd, Nat.one_and_eq_mod_two, Nat.reduceMod, decide_true, decide_false, Bool.and_true, Bool.true_and, Bool.and_false, Bool.false_and, Bool.or_false, Bool.false_or, Bool.or_true, Bool.true_or, Bool.not_true, Bool.not_false, if_true, if_false, ↓reduceIte, and_self, bne_self_eq_false, Bool.or_self, Bool.and_self, Bool.not_not])
    rw [e]
    rw [show -nI 0 = nI 0 from by decide]
    (apply all32; simp (disch := decide) only [hb, gb_or, gb_and, gb_shl, gb_shr, gb_u, gb_n, gb_m, gb_fpt, Nat.reduceAdd, Nat.reduceSub, Nat.reducePow, Nat.reduceLT, Nat.reduceLeDiff, Nat.testBit, Nat.reduceShiftRight, Nat.reduceBNe, Nat.reduceAnd, Nat.one_and_eq_mod_two, Nat.reduceMod, decide_true, decide_false, Bool.and_true, Bool.true_and, Bool.and_false, Bool.false_and, Bool.or_false, Bool.false_or, Bool.or_true, Bool.true_or, Bool.not_true, Bool.not_false, if_true, if_false, ↓reduceIte, and_self, bne_self_eq_false, Bool.or_self, Bool.and_self, Bool.not_not, false_imp_iff, imp_self, true_imp_iff, implies_true])
theorem bov_K (w : Int32) : -(2 : Int) ^ 11 ≤ (tvK w).toInt ∧ (tvK w).toInt < (2 : Int) ^ 11 := bd_S (by decide) (fun i h1 h2 => sgv_K w i h2 h1)
theorem nmv_K (w : Int32) : tvK w ≠ Int32.minValue := fun z => by
  have h := bov_K w
  rw [z, show Int32.minValue.toInt = -2147483648 from by decide] at h
  exact absurd h (by decide)
theorem lov_K (w : Int32) : (tvK w) &&& nI (2 - 1) = 0 := by
  rw [show 2 - 1 = 1 from rfl, show (0 : Int32) = nI 0 from rfl]
  unfold tvK
  cases hb : gb w 12 with
  | true =>
    have e : fpt w 12 1 = nI 1 := by
      (apply gb_ext; apply all32; simp (disch := decide) only [hb, gb_fpt, gb_or, gb_and, gb_xor, gb_shl, gb_shr, gb_ush, gb_u, gb_n, gb_m, gb_hi, Nat.reduceAdd, Nat.reduceSub, Nat.reducePow, Nat.reduceLT, Nat.reduceLeDiff, Nat.testBit, Nat.reduceShiftRight, Nat.reduceBNe, Nat.reduceAnd, Nat.one_and_eq_mod_two, Nat.reduceMod, decide_true, decide_false, Bool.and_true, Bool.true_and, Bool.and_false, Bool.false_and, Bool.or_false, Bool.false_or, Bool.or_true, Bool.true_or, Bool.not_true, Bool.not_false, if_true, if_false, ↓reduceIte, and_self, bne_self_eq_false, Bool.or_self, Bool.and_self, Bool.not_not])
    rw [e]
    (apply gb_ext; apply all32; simp (disch := decide) only [hb, gb_fpt, gb_or, gb_and, gb_xor, gb_shl, gb_shr, gb_ush, gb_u, gb_n, gb_m, gb_hi, Nat.reduceAdd, Nat.reduceSub, Nat.reducePow, Nat.reduceLT, Nat.reduceLeDiff, Nat.testBit, Nat.reduceShiftRight, Nat.reduceBNe, Nat.reduceAnd, Nat.one_and_eq_mod_two, Nat.reduceMod, decide_true, decide_false, Bool.and_true, Bool.true_and, Bool.and_false, Bool.false_and, Bool.or_false, Bool.false_or, Bool.or_true, Bool.true_or, Bool.not_true, Bool.not_false, if_true, if_false, ↓reduceIte, and_self, bne_self_eq_false, Bool.or_self, Bool.and_self, Bool.not_not])
  | false =>
    have e : fpt w 12 1 = nI 0 := by
      (apply gb_ext; apply all32; simp (disch := decide) only [hb, gb_fpt, gb_or, gb_and, gb_xor, gb_shl, gb_shr, gb_ush, gb_u, gb_n, gb_m, gb_hi, Nat.reduceAdd, Nat.reduceSub, Nat.reducePow, Nat.reduceLT, Nat.reduceLeDiff, Nat.testBit, Nat.reduceShiftRight, Nat.reduceBNe, Nat.reduceAnd, Nat.one_and_eq_mod_two, Nat.reduceMod, decide_true, decide_false, Bool.and_true, Bool.true_and, Bool.and_false, Bool.false_and, Bool.or_false, Bool.false_or, Bool.or_true, Bool.true_or, Bool.not_true, Bool.not_false, if_true, if_false, ↓reduceIte, and_self, bne_self_eq_false, Bool.or_self, Bool.and_self, Bool.not_not])
    rw [e]
    rw [show -nI 0 = nI 0 from by decide]
    (apply gb_ext; apply all32; simp (disch := decide) only [hb, gb_fpt, gb_or, gb_and, gb_xor, gb_shl, gb_shr, gb_ush, gb_u, gb_n, gb_m, gb_hi, Nat.reduceAdd, Nat.reduceSub, Nat.reducePow, Nat.reduceLT, Nat.reduceLeDiff, Nat.testBit, Nat.reduceShiftRight, Nat.reduceBNe, Nat.reduceAnd, Nat.one_and_eq_mod_two, Nat.reduceMod, decide_true, decide_false, Bool.and_true, Bool.true_and, Bool.and_false, Bool.false_and, Bool.or_false, Bool.false_or, Bool.or_true, Bool.true_or, Bool.not_true, Bool.not_false, if_true, if_false, ↓reduceIte, and_self, bne_self_eq_false, Bool.or_self, Bool.and_self, Bool.not_not])
theorem pc_L (w : Int32) : plL (tvL w) = w &&& nI 7292 := by
  unfold tvL plL
  cases hb : gb w 12 with
  | true =>
    have e : fpt w 12 1 = nI 1 := by
      (apply gb_ext; apply all32; simp (disch := decide) only [hb, gb_fpt, gb_or, gb_and, gb_xor, gb_shl, gb_shr, gb_ush, gb_u, gb_n, gb_m, gb_hi, Nat.reduceAdd, Nat.reduceSub, Nat.reducePow, Nat.reduceLT, Nat.reduceLeDiff, Nat.testBit, Nat.reduceShiftRight, Nat.reduceBNe, Nat.reduceAnd, Nat.one_and_eq_mod_two, Nat.reduceMod, decide_true, decide_false, Bool.and_true, Bool.true_and, Bool.and_false, Bool.false_and, Bool.or_false, Bool.false_or, Bool.or_true, Bool.true_or, Bool.not_true, Bool.not_false, if_true, if_false, ↓reduceIte, and_self, bne_self_eq_false, Bool.or_self, Bool.and_self, Bool.not_not])
    rw [e]
    (apply gb_ext; apply all32; simp (disch := decide) only [hb, ptO, nm31, gb_fpt, gb_or, gb_and, gb_xor, gb_shl, gb_shr, gb_ush, gb_u, gb_n, gb_m, gb_hi, Nat.reduceAdd, Nat.reduceSub, Nat.reducePow, Nat.reduceLT, Nat.reduceLeDiff, Nat.testBit, Nat.reduceShiftRight, Nat.reduceBNe, Nat.reduceAnd, Nat.one_and_eq_mod_two, Nat.reduceMod, decide_true, decide_false, Bool.and_true, Bool.true_and, Bool.and_false, Bool.false_and, Bool.or_false, Bool.false_or, Bool.or_true, Bool.true_or, Bool.not_true, Bool.not_false, if_true, if_false, ↓reduceIte, and_self, bne_self_eq_false, Bool.or_self, Bool.and_self, Bool.not_not])
  | false =>
    have e : fpt w 12 1 = nI 0 := by
      (apply gb_ext; apply all32; simp (disch := decide) only [hb, gb_fpt, gb_or, gb_and, gb_xor, gb_shl, gb_shr, gb_ush, gb_u, gb_n, gb_m, gb_hi, Nat.reduceAdd, Nat.reduceSub, Nat.reducePow, Nat.reduceLT, Nat.reduceLeDiff, Nat.testBit, Nat.reduceShiftRight, Nat.reduceBNe, Nat.reduceAnd, Nat.one_and_eq_mod_two, Nat.reduceMod, decide_true, decide_false, Bool.and_true, Bool.true_and, Bool.and_false, Bool.false_and, Bool.or_false, Bool.false_or, Bool.or_true, Bool.true_or, Bool.not_true, Bool.not_false, if_true, if_false, ↓reduceIte, and_self, bne_self_eq_false, Bool.or_self, Bool.and_self, Bool.not_not])
    rw [e]
    rw [show -nI 0 = nI 0 from by decide]
    (apply gb_ext; apply all32; simp (disch := decide) only [hb, ptO, nm31, gb_fpt, gb_or, gb_and, gb_xor, gb_shl, gb_shr, gb_ush, gb_u, gb_n, gb_m, gb_hi, Nat.reduceAdd, Nat.reduceSub, Nat.reducePow, Nat.reduceLT, Nat.reduceLeDiff, Nat.testBit, Nat.reduceShiftRight, Nat.reduceBNe, Nat.reduceAnd, Nat.one_and_eq_mod_two, Nat.reduceMod, decide_true, decide_false, Bool.and_true, Bool.true_and, Bool.and_false, Bool.false_and, Bool.or_false, Bool.false_or, Bool.or_true, Bool.true_or, Bool.not_true, Bool.not_false, if_true, if_false, ↓reduceIte, and_self, bne_self_eq_false, Bool.or_self, Bool.and_self, Bool.not_not])
theorem sgv_L (w : Int32) : ∀ i : Nat, i < 32 → 8 ≤ i → gb (tvL w) i = gb (tvL w) 31 := by
  unfold tvL
  cases hb : gb w 12 with
  | true =>
    have e : fpt w 12 1 = nI 1 := by
      (apply gb_ext; apply all32; simp (disch := decide) only [hb, gb_fpt, gb_or, gb_and, gb_xor, gb_shl, gb_shr, gb_ush, gb_u, gb_n, gb_m, gb_hi, Nat.reduceAdd, Nat.reduceSub, Nat.reducePow, Nat.reduceLT, Nat.reduceLeDiff, Nat.testBit, Nat.reduceShiftRight, Nat.reduceBNe, Nat.reduceAnd, Nat.one_and_eq_mod_two, Nat.reduceMod, decide_true, decide_false, Bool.and_true, Bool.true_and, Bool.and_false, Bool.false_and, Bool.or_false, Bool.false_or, Bool.or_true, Bool.true_or, Bool.not_true, Bool.not_false, if_true, if_false, ↓reduceIte, and_self, bne_self_eq_false, Bool.or_self, Bool.and_self, Bool.not_not])
    rw [e]
    (apply all32; simp (disch := decide) only [hb, gb_or, gb_and, gb_shl, gb_shr, gb_u, gb_n, gb_m, gb_fpt, Nat.reduceAdd, Nat.reduceSub, Nat.reducePow, Nat.reduceLT, Nat.reduceLeDiff, Nat.testBit, Nat.reduceShiftRight, Nat.reduceBNe, Nat.reduceAnd, Nat.one_and_eq_mod_two, Nat.reduceMod, decide_true, decide_false, Bool.and_true, Bool.true_and, Bool.and_false, Bool.false_and, Bool.or_false, Bool.false_or, Bool.or_true, Bool.true_or, Bool.not_true, Bool.not_false, if_true, if_false, ↓reduceIte, and_self, bne_self_eq_false, Bool.or_self, Bool.and_self, Bool.not_not, false_imp_iff, imp_self, true_imp_iff, implies_true])
  | false =>
    have e : fpt w 12 1 = nI 0 := by
      (apply gb_ext; apply all32; simp (disch := decide) only [hb, gb_fpt, gb_or, gb_and, gb_xor, gb_shl, gb_shr, gb_ush, gb_u, gb_n, gb_m, gb_hi, Nat.reduceAdd, Nat.reduceSub, Nat.reducePow, Nat.reduceLT, Nat.reduceLeDiff, Nat.testBit, Nat.reduceShiftRight, Nat.reduceBNe, Nat.reduceAnd, Nat.one_and_eq_mod_two, Nat.reduceMod, decide_true, decide_false, Bool.and_true, Bool.true_and, Bool.and_false, Bool.false_and, Bool.or_false, Bool.false_or, Bool.or_true, Bool.true_or, Bool.not_true, Bool.not_false, if_true, if_false, ↓reduceIte, and_self, bne_self_eq_false, Bool.or_self, Bool.and_self, Bool.not_not])
    rw [e]
    rw [show -nI 0 = nI 0 from by decide]
    (apply all32; simp (disch := decide) only [hb, gb_or, gb_and, gb_shl, gb_shr, gb_u, gb_n, gb_m, gb_fpt, Nat.reduceAdd, Nat.reduceSub, Nat.reducePow, Nat.reduceLT, Nat.reduceLeDiff, Nat.testBit, Nat.reduceShiftRight, Nat.reduceBNe, Nat.reduceAnd, Nat.one_and_eq_mod_two, Nat.reduceMod, decide_true, decide_false, Bool.and_true, Bool.true_and, Bool.and_false, Bool.false_and, Bool.or_false, Bool.false_or, Bool.or_true, Bool.true_or, Bool.not_true, Bool.not_false, if_true, if_false, ↓reduceIte, and_self, bne_self_eq_false, Bool.or_self, Bool.and_self, Bool.not_not, false_imp_iff, imp_self, true_imp_iff, implies_true])
theorem bov_L (w : Int32) : -(2 : Int) ^ 8 ≤ (tvL w).toInt ∧ (tvL w).toInt < (2 : Int) ^ 8 := bd_S (by decide) (fun i h1 h2 => sgv_L w i h2 h1)
theorem nmv_L (w : Int32) : tvL w ≠ Int32.minValue := fun z => by
  have h := bov_L w
  rw [z, show Int32.minValue.toInt = -2147483648 from by decide] at h
  exact absurd h (by decide)
theorem lov_L (w : Int32) : (tvL w) &&& nI (2 - 1) = 0 := by
  rw [show 2 - 1 = 1 from rfl, show (0 : Int32) = nI 0 from rfl]
  unfold tvL
  cases hb : gb w 12 with
  | true =>
    have e : fpt w 12 1 = nI 1 := by
      (apply gb_ext; apply all32; simp (disch := decide) only [hb, gb_fpt, gb_or, gb_and, gb_xor, gb_shl, gb_shr, gb_ush, gb_u, gb_n, gb_m, gb_hi, Nat.reduceAdd, Nat.reduceSub, Nat.reducePow, Nat.reduceLT, Nat.reduceLeDiff, Nat.testBit, Nat.reduceShiftRight, Nat.reduceBNe, Nat.reduceAnd, Nat.one_and_eq_mod_two, Nat.reduceMod, decide_true, decide_false, Bool.and_true, Bool.true_and, Bool.and_false, Bool.false_and, Bool.or_false, Bool.false_or, Bool.or_true, Bool.true_or, Bool.not_true, Bool.not_false, if_true, if_false, ↓reduceIte, and_self, bne_self_eq_false, Bool.or_self, Bool.and_self, Bool.not_not])
    rw [e]
    (apply gb_ext; apply all32; simp (disch := decide) only [hb, gb_fpt, gb_or, gb_and, gb_xor, gb_shl, gb_shr, gb_ush, gb_u, gb_n, gb_m, gb_hi, Nat.reduceAdd, Nat.reduceSub, Nat.reducePow, Nat.reduceLT, Nat.reduceLeDiff, Nat.testBit, Nat.reduceShiftRight, Nat.reduceBNe, Nat.reduceAnd, Nat.one_and_eq_mod_two, Nat.reduceMod, decide_true, decide_false, Bool.and_true, Bool.true_and, Bool.and_false, Bool.false_and, Bool.or_false, Bool.false_or, Bool.or_true, Bool.true_or, Bool.not_true, Bool.not_false, if_true, if_false, ↓reduceIte, and_self, bne_self_eq_false, Bool.or_self, Bool.and_self, Bool.not_not])
  | false =>
    have e : fpt w 12 1 = nI 0 := by
      (apply gb_ext; apply all32; simp (disch := decide) only [hb, gb_fpt, gb_or, gb_and, gb_xor, gb_shl, gb_shr, gb_ush, gb_u, gb_n, gb_m, gb_hi, Nat.reduceAdd, Nat.reduceSub, Nat.reducePow, Nat.reduceLT, Nat.reduceLeDiff, Nat.testBit, Nat.reduceShiftRight, Nat.reduceBNe, Nat.reduceAnd, Nat.one_and_eq_mod_two, Nat.reduceMod, decide_true, decide_false, Bool.and_true, Bool.true_and, Bool.and_false, Bool.false_and, Bool.or_false, Bool.false_or, Bool.or_true, Bool.true_or, Bool.not_true, Bool.not_false, if_true, if_false, ↓reduceIte, and_self, bne_self_eq_false, Bool.or_self, Bool.and_self, Bool.not_not])
    rw [e]
    rw [show -nI 0 = nI 0 from by decide]
    (apply gb_ext; apply all32; simp (disch := decide) only [hb, gb_fpt, gb_or, gb_and, gb_xor, gb_shl, gb_shr, gb_ush, gb_u, gb_n, gb_m, gb_hi, Nat.reduceAdd, Nat.reduceSub, Nat.reducePow, Nat.reduceLT, Nat.reduceLeDiff, Nat.testBit, Nat.reduceShiftRight, Nat.reduceBNe, Nat.reduceAnd, Nat.one_and_eq_mod_two, Nat.reduceMod, decide_true, decide_false, Bool.and_true, Bool.true_and, Bool.and_false, Bool.false_and, Bool.or_false, Bool.false_or, Bool.or_true, Bool.true_or, Bool.not_true, Bool.not_false, if_true, if_false, ↓reduceIte, and_self, bne_self_eq_false, Bool.or_self, Bool.and_self, Bool.not_not])
theorem pc_M (w : Int32) : plM (tvM w) = w &&& nI 4220 := by
  unfold tvM plM
  cases hb : gb w 12 with
  | true =>
    have e : fpt w 12 1 = nI 1 := by
      (apply gb_ext; apply all32; simp (disch := decide) only [hb, gb_fpt, gb_or, gb_and, gb_xor, gb_shl, gb_shr, gb_ush, gb_u, gb_n, gb_m, gb_hi, Nat.reduceAdd, Nat.reduceSub, Nat.reducePow, Nat.reduceLT, Nat.reduceLeDiff, Nat.testBit, Nat.reduceShiftRight, Nat.reduceBNe, Nat.reduceAnd, Nat.one_and_eq_mod_two, Nat.reduceMod, decide_true, decide_false, Bool.and_true, Bool.true_and, Bool.and_false, Bool.false_and, Bool.or_false, Bool.false_or, Bool.or_true, Bool.true_or, Bool.not_true, Bool.not_false, if_true, if_false, ↓reduceIte, and_self, bne_self_eq_false, Bool.or_self, Bool.and_self, Bool.not_not])
    rw [e]
    rw [show fpt w 2 5 - nI 32 * nI 1 = fpt w 2 5 ||| nI 4294967264 from by
      rw [show nI 32 * nI 1 = -nI 4294967264 from by decide, Int32.sub_eq_add_neg, Int32.neg_neg]
      refine ad_or ?_
      rw [show (0 : Int32) = nI 0 from rfl]
      (apply gb_ext; apply all32; simp (disch := decide) only [gb_fpt, gb_or, gb_and, gb_xor, gb_shl, gb_shr, gb_ush, gb_u, gb_n, gb_m, gb_hi, Nat.reduceAdd, Nat.reduceSub, Nat.reducePow, Nat.reduceLT, Nat.reduceLeDiff, Nat.testBit, Nat.reduceShiftRight, Nat.reduceBNe, Nat.reduceAnd, Nat.one_and_eq_mod_two, Nat.reduceMod, decide_true, decide_false, Bool.and_true, Bool.true_and, Bool.and_false, Bool.false_and, Bool.or_false, Bool.false_or, Bool.or_true, Bool.true_or, Bool.not_true, Bool.not_false, if_true, if_false, ↓reduceIte, and_self, bne_self_eq_false, Bool.or_self, Bool.and_self, Bool.not_not])]
    (apply gb_ext; apply all32; simp (disch := decide) only [hb, ptO, nm31, gb_fpt, gb_or, gb_and, gb_xor, gb_shl, gb_shr, gb_ush, gb_u, gb_n, gb_m, gb_hi, Nat.reduceAdd, Nat.reduceSub, Nat.reducePow, Nat.reduceLT, Nat.reduceLeDiff, Nat.testBit, Nat.reduceShiftRight, Nat.reduceBNe, Nat.reduceAnd, Nat.one_and_eq_mod_two, Nat.reduceMod, decide_true, decide_false, Bool.and_true, Bool.true_and, Bool.and_false, Bool.false_and, Bool.or_false, Bool.false_or, Bool.or_true, Bool.true_or, Bool.not_true, Bool.not_false, if_true, if_false, ↓reduceIte, and_self, bne_self_eq_false, Bool.or_self, Bool.and_self, Bool.not_not])
  | false =>
    have e : fpt w 12 1 = nI 0 := by
      (apply gb_ext; apply all32; simp (disch := decide) only [hb, gb_fpt, gb_or, gb_and, gb_xor, gb_shl, gb_shr, gb_ush, gb_u, gb_n, gb_m, gb_hi, Nat.reduceAdd, Nat.reduceSub, Nat.reducePow, Nat.reduceLT, Nat.reduceLeDiff, Nat.testBit, Nat.reduceShiftRight, Nat.reduceBNe, Nat.reduceAnd, Nat.one_and_eq_mod_two, Nat.reduceMod, decide_true, decide_false, Bool.and_true, Bool.true_and, Bool.and_false, Bool.false_and, Bool.or_false, Bool.false_or, Bool.or_true, Bool.true_or, Bool.not_true, Bool.not_false, if_true, if_false, ↓reduceIte, and_self, bne_self_eq_false, Bool.or_self, Bool.and_self, Bool.not_not])
    rw [e]
    rw [show fpt w 2 5 - nI 32 * nI 0 = fpt w 2 5 from by rw [show nI 32 * nI 0 = nI 0 from by decide]; exact Int32.sub_zero _]
    (apply gb_ext; apply all32; simp (disch := decide) only [hb, ptO, nm31, gb_fpt, gb_or, gb_and, gb_xor, gb_shl, gb_shr, gb_ush, gb_u, gb_n, gb_m, gb_hi, Nat.reduceAdd, Nat.reduceSub, Nat.reducePow, Nat.reduceLT, Nat.reduceLeDiff, Nat.testBit, Nat.reduceShiftRight, Nat.reduceBNe, Nat.reduceAnd, Nat.one_and_eq_mod_two, Nat.reduceMod, decide_true, decide_false, Bool.and_true, Bool.true_and, Bool.and_false, Bool.false_and, Bool.or_false, Bool.false_or, Bool.or_true, Bool.true_or, Bool.not_true, Bool.not_false, if_true, if_false, ↓reduceIte, and_self, bne_self_eq_false, Bool.or_self, Bool.and_self, Bool.not_not])
theorem sgv_M (w : Int32) : ∀ i : Nat, i < 32 → 5 ≤ i → gb (tvM w) i = gb (tvM w) 31 := by
  unfold tvM
  cases hb : gb w 12 with
  | true =>
    have e : fpt w 12 1 = nI 1 := by
      (apply gb_ext; apply all32; simp (disch := decide) only [hb, gb_fpt, gb_or, gb_and, gb_xor, gb_shl, gb_shr, gb_ush, gb_u, gb_n, gb_m, gb_hi, Nat.reduceAdd, Nat.reduceSub, Nat.reducePow, Nat.reduceLT, Nat.reduceLeDiff, Nat.testBit, Nat.reduceShiftRight, Nat.reduceBNe, Nat.reduceAnd, Nat.one_and_eq_mod_two, Nat.reduceMod, decide_true, decide_false, Bool.and_true, Bool.true_and, Bool.and_false, Bool.false_and, Bool.or_false, Bool.false_or, Bool.or_true, Bool.true_or, Bool.not_true, Bool.not_false, if_true, if_false, ↓reduceIte, and_self, bne_self_eq_false, Bool.or_self, Bool.and_self, Bool.not_not])
    rw [e]
    rw [show fpt w 2 5 - nI 32 * nI 1 = fpt w 2 5 ||| nI 4294967264 from by
      rw [show nI 32 * nI 1 = -nI 4294967264 from by decide, Int32.sub_eq_add_neg, Int32.neg_neg]
      refine ad_or ?_
      rw [show (0 : Int32) = nI 0 from rfl]
      (apply gb_ext; apply all32; simp (disch := decide) only [gb_fpt, gb_or, gb_and, gb_xor, gb_shl, gb_shr, gb_ush, gb_u, gb_n, gb_m, gb_hi, Nat.reduceAdd, Nat.reduceSub, Nat.reducePow, Nat.reduceLT, Nat.reduceLeDiff, Nat.testBit, Nat.reduceShiftRight, Nat.reduceBNe, Nat.reduceAnd, Nat.one_and_eq_mod_two, Nat.reduceMod, decide_true, decide_false, Bool.and_true, Bool.true_and, Bool.and_false, Bool.false_and, Bool.or_false, Bool.false_or, Bool.or_true, Bool.true_or, Bool.not_true, Bool.not_false, if_true, if_false, ↓reduceIte, and_self, bne_self_eq_false, Bool.or_self, Bool.and_self, Bool.not_not])]
    (apply all32; simp (disch := decide) only [hb, gb_or, gb_and, gb_shl, gb_shr, gb_u, gb_n, gb_m, gb_fpt, Nat.reduceAdd, Nat.reduceSub, Nat.reducePow, Nat.reduceLT, Nat.reduceLeDiff, Nat.testBit, Nat.reduceShiftRight, Nat.reduceBNe, Nat.reduceAnd, Nat.one_and_eq_mod_two, Nat.reduceMod, decide_true, decide_false, Bool.and_true, Bool.true_and, Bool.and_false, Bool.false_and, Bool.or_false, Bool.false_or, Bool.or_true, Bool.true_or, Bool.not_true, Bool.not_false, if_true, if_false, ↓reduceIte, and_self, bne_self_eq_false, Bool.or_self, Bool.and_self, Bool.not_not, false_imp_iff, imp_self, true_imp_iff, implies_true])
  | false =>
    have e : fpt w 12 1 = nI 0 := by
      (apply gb_ext; apply all32; simp (disch := decide) only [hb, gb_fpt, gb_or, gb_and, gb_xor, gb_shl, gb_shr, gb_ush, gb_u, gb_n, gb_m, gb_hi, Nat.reduceAdd, Nat.reduceSub, Nat.reducePow, Nat.reduceLT, Nat.reduceLeDiff, Nat.testBit, Nat.reduceShiftRight, Nat.reduceBNe, Nat.reduceAnd, Nat.one_and_eq_mod_two, Nat.reduceMod, decide_true, decide_false, Bool.and_true, Bool.true_and, Bool.and_false, Bool.false_and, Bool.or_false, Bool.false_or, Bool.or_true, Bool.true_or, Bool.not_true, Bool.not_false, if_true, if_false, ↓reduceIte, and_self, bne_self_eq_false, Bool.or_self, Bool.and_self, Bool.not_not])
    rw [e]
    rw [show fpt w 2 5 - nI 32 * nI 0 = fpt w 2 5 from by rw [show nI 32 * nI 0 = nI 0 from by decide]; exact Int32.sub_zero _]
    (apply all32; simp (disch := decide) only [hb, gb_or, gb_and, gb_shl, gb_shr, gb_u, gb_n, gb_m, gb_fpt, Nat.reduceAdd, Nat.reduceSub, Nat.reducePow, Nat.reduceLT, Nat.reduceLeDiff, Nat.testBit, Nat.reduceShiftRight, Nat.reduceBNe, Nat.reduceAnd, Nat.one_and_eq_mod_two, Nat.reduceMod, decide_true, decide_false, Bool.and_true, Bool.true_and, Bool.and_false, Bool.false_and, Bool.or_false, Bool.false_or, Bool.or_true, Bool.true_or, Bool.not_true, Bool.not_false, if_true, if_false, ↓reduceIte, and_self, bne_self_eq_false, Bool.or_self, Bool.and_self, Bool.not_not, false_imp_iff, imp_self, true_imp_iff, implies_true])
theorem bov_M (w : Int32) : -(2 : Int) ^ 5 ≤ (tvM w).toInt ∧ (tvM w).toInt < (2 : Int) ^ 5 := bd_S (by decide) (fun i h1 h2 => sgv_M w i h2 h1)
theorem nmv_M (w : Int32) : tvM w ≠ Int32.minValue := fun z => by
  have h := bov_M w
  rw [z, show Int32.minValue.toInt = -2147483648 from by decide] at h
  exact absurd h (by decide)
theorem lov_M (w : Int32) : (tvM w) &&& nI (1 - 1) = 0 := by
  rw [show 1 - 1 = 0 from rfl, show (0 : Int32) = nI 0 from rfl]
  generalize tvM w = v
  (apply gb_ext; apply all32; simp (disch := decide) only [gb_or, gb_and, gb_xor, gb_shl, gb_shr, gb_ush, gb_u, gb_n, gb_m, gb_hi, Nat.reduceAdd, Nat.reduceSub, Nat.reducePow, Nat.reduceLT, Nat.reduceLeDiff, Nat.testBit, Nat.reduceShiftRight, Nat.reduceBNe, Nat.reduceAnd, Nat.one_and_eq_mod_two, Nat.reduceMod, decide_true, decide_false, Bool.and_true, Bool.true_and, Bool.and_false, Bool.false_and, Bool.or_false, Bool.false_or, Bool.or_true, Bool.true_or, Bool.not_true, Bool.not_false, if_true, if_false, ↓reduceIte, and_self, bne_self_eq_false, Bool.or_self, Bool.and_self, Bool.not_not])
theorem pc_N (w : Int32) : plN (tvN w) = w &&& nI 4220 := by
  unfold tvN plN
  cases hb : gb w 12 with
  | true =>
    have e : fpt w 12 1 = nI 1 := by
      (apply gb_ext; apply all32; simp (disch := decide) only [hb, gb_fpt, gb_or, gb_and, gb_xor, gb_shl, gb_shr, gb_ush, gb_u, gb_n, gb_m, gb_hi, Nat.reduceAdd, Nat.reduceSub, Nat.reducePow, Nat.reduceLT, Nat.reduceLeDiff, Nat.testBit, Nat.reduceShiftRight, Nat.reduceBNe, Nat.reduceAnd, Nat.one_and_eq_mod_two, Nat.reduceMod, decide_true, decide_false, Bool.and_true, Bool.true_and, Bool.and_false, Bool.false_and, Bool.or_false, Bool.false_or, Bool.or_true, Bool.true_or, Bool.not_true, Bool.not_false, if_true, if_false, ↓reduceIte, and_self, bne_self_eq_false, Bool.or_self, Bool.and_self, Bool.not_not])
    rw [e]
    rw [show fpt w 2 5 - nI 32 * nI 1 = fpt w 2 5 ||| nI 4294967264 from by
      rw [show nI 32 * nI 1 = -nI 4294967264 from by decide, Int32.sub_eq_add_neg, Int32.neg_neg]
      refine ad_or ?_
      rw [show (0 : Int32) = nI 0 from rfl]
      (apply gb_ext; apply all32; simp (disch := decide) only [gb_fpt, gb_or, gb_and, gb_xor, gb_shl, gb_shr, gb_ush, gb_u, gb_n, gb_m, gb_hi, Nat.reduceAdd, Nat.reduceSub, Nat.reducePow, Nat.reduceLT, Nat.reduceLeDiff, Nat.testBit, Nat.reduceShiftRight, Nat.reduceBNe, Nat.reduceAnd, Nat.one_and_eq_mod_two, Nat.reduceMod, decide_true, decide_false, Bool.and_true, Bool.true_and, Bool.and_false, Bool.false_and, Bool.or_false, Bool.false_or, Bool.or_true, Bool.true_or, Bool.not_true, Bool.not_false, if_true, if_false, ↓reduceIte, and_self, bne_self_eq_false, Bool.or_self, Bool.and_self, Bool.not_not])]
    (apply gb_ext; apply all32; simp (disch := decide) only [hb, ptO, nm31, gb_fpt, gb_or, gb_and, gb_xor, gb_shl, gb_shr, gb_ush, gb_u, gb_n, gb_m, gb_hi, Nat.reduceAdd, Nat.reduceSub, Nat.reducePow, Nat.reduceLT, Nat.reduceLeDiff, Nat.testBit, Nat.reduceShiftRight, Nat.reduceBNe, Nat.reduceAnd, Nat.one_and_eq_mod_two, Nat.reduceMod, decide_true, decide_false, Bool.and_true, Bool.true_and, Bool.and_false, Bool.false_and, Bool.or_false, Bool.false_or, Bool.or_true, Bool.true_or, Bool.not_true, Bool.not_false, if_true, if_false, ↓reduceIte, and_self, bne_self_eq_false, Bool.or_self, Bool.and_self, Bool.not_not])
  | false =>
    have e : fpt w 12 1 = nI 0 := by
      (apply gb_ext; apply all32; simp (disch := decide) only [hb, gb_fpt, gb_or, gb_and, gb_xor, gb_shl, gb_shr, gb_ush, gb_u, gb_n, gb_m, gb_hi, Nat.reduceAdd, Nat.reduceSub, Nat.reducePow, Nat.reduceLT, Nat.reduceLeDiff, Nat.testBit, Nat.reduceShiftRight, Nat.reduceBNe, Nat.reduceAnd, Nat.one_and_eq_mod_two, Nat.reduceMod, decide_true, decide_false, Bool.and_true, Bool.true_and, Bool.and_false, Bool.false_and, Bool.or_false, Bool.false_or, Bool.or_true, Bool.true_or, Bool.not_true, Bool.not_false, if_true, if_false, ↓reduceIte, and_self, bne_self_eq_false, Bool.or_self, Bool.and_self, Bool.not_not])
    rw [e]
    rw [show fpt w 2 5 - nI 32 * nI 0 = fpt w 2 5 from by rw [show nI 32 * nI 0 = nI 0 from by decide]; exact Int32.sub_zero _]
    (apply gb_ext; apply all32; simp (disch := decide) only [hb, ptO, nm31, gb_fpt, gb_or, gb_and, gb_xor, gb_shl, gb_shr, gb_ush, gb_u, gb_n, gb_m, gb_hi, Nat.reduceAdd, Nat.reduceSub, Nat.reducePow, Nat.reduceLT, Nat.reduceLeDiff, Nat.testBit, Nat.reduceShiftRight, Nat.reduceBNe, Nat.reduceAnd, Nat.one_and_eq_mod_two, Nat.reduceMod, decide_true, decide_false, Bool.and_true, Bool.true_and, Bool.and_false, Bool.false_and, Bool.or_false, Bool.false_or, Bool.or_true, Bool.true_or, Bool.not_true, Bool.not_false, if_true, if_false, ↓reduceIte, and_self, bne_self_eq_false, Bool.or_self, Bool.and_self, Bool.not_not])
theorem sgv_N (w : Int32) : ∀ i : Nat, i < 32 → 5 ≤ i → gb (tvN w) i = gb (tvN w) 31 := by
  unfold tvN
  cases hb : gb w 12 with
  | true =>
    have e : fpt w 12 1 = nI 1 := by
      (apply gb_ext; apply all32; simp (disch := decide) only [hb, gb_fpt, gb_or, gb_and, gb_xor, gb_shl, gb_shr, gb_ush, gb_u, gb_n, gb_m, gb_hi, Nat.reduceAdd, Nat.reduceSub, Nat.reducePow, Nat.reduceLT, Nat.reduceLeDiff, Nat.testBit, Nat.reduceShiftRight, Nat.reduceBNe, Nat.reduceAnd, Nat.one_and_eq_mod_two, Nat.reduceMod, decide_true, decide_false, Bool.and_true, Bool.true_and, Bool.and_false, Bool.false_and, Bool.or_false, Bool.false_or, Bool.or_true, Bool.true_or, Bool.not_true, Bool.not_false, if_true, if_false, ↓reduceIte, and_self, bne_self_eq_false, Bool.or_self, Bool.and_self, Bool.not_not])
    rw [e]
    rw [show fpt w 2 5 - nI 32 * nI 1 = fpt w 2 5 ||| nI 4294967264 from by
      rw [show nI 32 * nI 1 = -nI 4294967264 from by decide, Int32.sub_eq_add_neg, Int32.neg_neg]
      refine ad_or ?_
      rw [show (0 : Int32) = nI 0 from rfl]
      (apply gb_ext; apply all32; simp (disch := decide) only [gb_fpt, gb_or, gb_and, gb_xor, gb_shl, gb_shr, gb_ush, gb_u, gb_n, gb_m, gb_hi, Nat.reduceAdd, Nat.reduceSub, Nat.reducePow, Nat.reduceLT, Nat.reduceLeDiff, Nat.testBit, Nat.reduceShiftRight, Nat.reduceBNe, Nat.reduceAnd, Nat.one_and_eq_mod_two, Nat.reduceMod, decide_true, decide_false, Bool.and_true, Bool.true_and, Bool.and_false, Bool.false_and, Bool.or_false, Bool.false_or, Bool.or_true, Bool.true_or, Bool.not_true, Bool.not_false, if_true, if_false, ↓reduceIte, and_self, bne_self_eq_false, Bool.or_self, Bool.and_self, Bool.not_not])]
    (apply all32; simp (disch := decide) only [hb, gb_or, gb_and, gb_shl, gb_shr, gb_u, gb_n, gb_m, gb_fpt, Nat.reduceAdd, Nat.reduceSub, Nat.reducePow, Nat.reduceLT, Nat.reduceLeDiff, Nat.testBit, Nat.reduceShiftRight, Nat.reduceBNe, Nat.reduceAnd, Nat.one_and_eq_mod_two, Nat.reduceMod, decide_true, decide_false, Bool.and_true, Bool.true_and, Bool.and_false, Bool.false_and, Bool.or_false, Bool.false_or, Bool.or_true, Bool.true_or, Bool.not_true, Bool.not_false, if_true, if_false, ↓reduceIte, and_self, bne_self_eq_false, Bool.or_self, Bool.and_self, Bool.not_not, false_imp_iff, imp_self, true_imp_iff, implies_true])
  | false =>
    have e : fpt w 12 1 = nI 0 := by
      (apply gb_ext; apply all32; simp (disch := decide) only [hb, gb_fpt, gb_or, gb_and, gb_xor, gb_shl, gb_shr, gb_ush, gb_u, gb_n, gb_m, gb_hi, Nat.reduceAdd, Nat.reduceSub, Nat.reducePow, Nat.reduceLT, Nat.reduceLeDiff, Nat.testBit, Nat.reduceShiftRight, Nat.reduceBNe, Nat.reduceAnd, Nat.one_and_eq_mod_two, Nat.reduceMod, decide_true, decide_false, Bool.and_true, Bool.true_and, Bool.and_false, Bool.false_and, Bool.or_false, Bool.false_or, Bool.or_true, Bool.true_or, Bool.not_true, Bool.not_false, if_true, if_false, ↓reduceIte, and_self, bne_self_eq_false, Bool.or_self, Bool.and_self, Bool.not_not])
    rw [e]
    rw [show fpt w 2 5 - nI 32 * nI 0 = fpt w 2 5 from by rw [show nI 32 * nI 0 = nI 0 from by decide]; exact Int32.sub_zero _]
    (apply all32; simp (disch := decide) only [hb, gb_or, gb_and, gb_shl, gb_shr, gb_u, gb_n, gb_m, gb_fpt, Nat.reduceAdd, Nat.reduceSub, Nat.reducePow, Nat.reduceLT, Nat.reduceLeDiff, Nat.testBit, Nat.reduceShiftRight, Nat.reduceBNe, Nat.reduceAnd, Nat.one_and_eq_mod_two, Nat.reduceMod, decide_true, decide_false, Bool.and_true, Bool.true_and, Bool.and_false, Bool.false_and, Bool.or_false, Bool.false_or, Bool.or_true, Bool.true_or, Bool.not_true, Bool.not_false, if_true, if_false, ↓reduceIte, and_self, bne_self_eq_false, Bool.or_self, Bool.and_self, Bool.not_not, false_imp_iff, imp_self, true_imp_iff, implies_true])
theorem bov_N (w : Int32) : -(2 : Int) ^ 5 ≤ (tvN w).toInt ∧ (tvN w).toInt < (2 : Int) ^ 5 := bd_S (by decide) (fun i h1 h2 => sgv_N w i h2 h1)
theorem nmv_N (w : Int32) : tvN w ≠ Int32.minValue := fun z => by
  have h := bov_N w
  rw [z, show Int32.minValue.toInt = -2147483648 from by decide] at h
  exact absurd h (by decide)
theorem lov_N (w : Int32) : (tvN w) &&& nI (1 - 1) = 0 := by
  rw [show 1 - 1 = 0 from rfl, show (0 : Int32) = nI 0 from rfl]
  generalize tvN w = v
  (apply gb_ext; apply all32; simp (disch := decide) only [gb_or, gb_and, gb_xor, gb_shl, gb_shr, gb_ush, gb_u, gb_n, gb_m, gb_hi, Nat.reduceAdd, Nat.reduceSub, Nat.reducePow, Nat.reduceLT, Nat.reduceLeDiff, Nat.testBit, Nat.reduceShiftRight, Nat.reduceBNe, Nat.reduceAnd, Nat.one_and_eq_mod_two, Nat.reduceMod, decide_true, decide_false, Bool.and_true, Bool.true_and, Bool.and_false, Bool.false_and, Bool.or_false, Bool.false_or, Bool.or_true, Bool.true_or, Bool.not_true, Bool.not_false, if_true, if_false, ↓reduceIte, and_self, bne_self_eq_false, Bool.or_self, Bool.and_self, Bool.not_not])
theorem pc_P (w : Int32) : plP (tvP w) = w &&& nI 4220 := by
  unfold tvP plP
  (apply gb_ext; apply all32; simp (disch := decide) only [ptO, nm31, gb_fpt, gb_or, gb_and, gb_xor, gb_shl, gb_shr, gb_ush, gb_u, gb_n, gb_m, gb_hi, Nat.reduceAdd, Nat.reduceSub, Nat.reducePow, Nat.reduceLT, Nat.reduceLeDiff, Nat.testBit, Nat.reduceShiftRight, Nat.reduceBNe, Nat.reduceAnd, Nat.one_and_eq_mod_two, Nat.reduceMod, decide_true, decide_false, Bool.and_true, Bool.true_and, Bool.and_false, Bool.false_and, Bool.or_false, Bool.false_or, Bool.or_true, Bool.true_or, Bool.not_true, Bool.not_false, if_true, if_false, ↓reduceIte, and_self, bne_self_eq_false, Bool.or_self, Bool.and_self, Bool.not_not])
theorem sgv_P (w : Int32) : (tvP w) &&& nI (2 ^ 8 - 1) = tvP w := by
  unfold tvP
  rw [show 2 ^ 8 - 1 = 255 from rfl]
  (apply gb_ext; apply all32; simp (disch := decide) only [ptO, nm31, gb_fpt, gb_or, gb_and, gb_xor, gb_shl, gb_shr, gb_ush, gb_u, gb_n, gb_m, gb_hi, Nat.reduceAdd, Nat.reduceSub, Nat.reducePow, Nat.reduceLT, Nat.reduceLeDiff, Nat.testBit, Nat.reduceShiftRight, Nat.reduceBNe, Nat.reduceAnd, Nat.one_and_eq_mod_two, Nat.reduceMod, decide_true, decide_false, Bool.and_true, Bool.true_and, Bool.and_false, Bool.false_and, Bool.or_false, Bool.false_or, Bool.or_true, Bool.true_or, Bool.not_true, Bool.not_false, if_true, if_false, ↓reduceIte, and_self, bne_self_eq_false, Bool.or_self, Bool.and_self, Bool.not_not])
theorem bov_P (w : Int32) : 0 ≤ (tvP w).toInt ∧ (tvP w).toInt < 2 ^ 8 := bd_U (by decide) (sgv_P w)
theorem nmv_P (w : Int32) : tvP w ≠ Int32.minValue := fun z => by
  have h := bov_P w
  rw [z, show Int32.minValue.toInt = -2147483648 from by decide] at h
  exact absurd h (by decide)
theorem lov_P (w : Int32) : (tvP w) &&& nI (4 - 1) = 0 := by
  rw [show 4 - 1 = 3 from rfl, show (0 : Int32) = nI 0 from rfl]
  unfold tvP
  (apply gb_ext; apply all32; simp (disch := decide) only [gb_fpt, gb_or, gb_and, gb_xor, gb_shl, gb_shr, gb_ush, gb_u, gb_n, gb_m, gb_hi, Nat.reduceAdd, Nat.reduceSub, Nat.reducePow, Nat.reduceLT, Nat.reduceLeDiff, Nat.testBit, Nat.reduceShiftRight, Nat.reduceBNe, Nat.reduceAnd, Nat.one_and_eq_mod_two, Nat.reduceMod, decide_true, decide_false, Bool.and_true, Bool.true_and, Bool.and_false, Bool.false_and, Bool.or_false, Bool.false_or, Bool.or_true, Bool.true_or, Bool.not_true, Bool.not_false, if_true, if_false, ↓reduceIte, and_self, bne_self_eq_false, Bool.or_self, Bool.and_self, Bool.not_not])
theorem pc_Q (w : Int32) : plQ (tvQ w) = w &&& nI 8064 := by
  unfold tvQ plQ
  (apply gb_ext; apply all32; simp (disch := decide) only [ptO, nm31, gb_fpt, gb_or, gb_and, gb_xor, gb_shl, gb_shr, gb_ush, gb_u, gb_n, gb_m, gb_hi, Nat.reduceAdd, Nat.reduceSub, Nat.reducePow, Nat.reduceLT, Nat.reduceLeDiff, Nat.testBit, Nat.reduceShiftRight, Nat.reduceBNe, Nat.reduceAnd, Nat.one_and_eq_mod_two, Nat.reduceMod, decide_true, decide_false, Bool.and_true, Bool.true_and, Bool.and_false, Bool.false_and, Bool.or_false, Bool.false_or, Bool.or_true, Bool.true_or, Bool.not_true, Bool.not_false, if_true, if_false, ↓reduceIte, and_self, bne_self_eq_false, Bool.or_self, Bool.and_self, Bool.not_not])
theorem sgv_Q (w : Int32) : (tvQ w) &&& nI (2 ^ 8 - 1) = tvQ w := by
  unfold tvQ
  rw [show 2 ^ 8 - 1 = 255 from rfl]
  (apply gb_ext; apply all32; simp (disch := decide) only [ptO, nm31, gb_fpt, gb_or, gb_and, gb_xor, gb_shl, gb_shr, gb_ush, gb_u, gb_n, gb_m, gb_hi, Nat.reduceAdd, Nat.reduceSub, Nat.reducePow, Nat.reduceLT, Nat.reduceLeDiff, Nat.testBit, Nat.reduceShiftRight, Nat.reduceBNe, Nat.reduceAnd, Nat.one_and_eq_mod_two, Nat.reduceMod, decide_true, decide_false, Bool.and_true, Bool.true_and, Bool.and_false, Bool.false_and, Bool.or_false, Bool.false_or, Bool.or_true, Bool.true_or, Bool.not_true, Bool.not_false, if_true, if_false, ↓reduceIte, and_self, bne_self_eq_false, Bool.or_self, Bool.and_self, Bool.not_not])
theorem bov_Q (w : Int32) : 0 ≤ (tvQ w).toInt ∧ (tvQ w).toInt < 2 ^ 8 := bd_U (by decide) (sgv_Q w)
theorem nmv_Q (w : Int32) : tvQ w ≠ Int32.minValue := fun z => by
  have h := bov_Q w
  rw [z, show Int32.minValue.toInt = -2147483648 from by decide] at h
  exact absurd h (by decide)
theorem lov_Q (w : Int32) : (tvQ w) &&& nI (4 - 1) = 0 := by
  rw [show 4 - 1 = 3 from rfl, show (0 : Int32) = nI 0 from rfl]
  unfold tvQ
  (apply gb_ext; apply all32; simp (disch := decide) only [gb_fpt, gb_or, gb_and, gb_xor, gb_shl, gb_shr, gb_ush, gb_u, gb_n, gb_m, gb_hi, Nat.reduceAdd, Nat.reduceSub, Nat.reducePow, Nat.reduceLT, Nat.reduceLeDiff, Nat.testBit, Nat.reduceShiftRight, Nat.reduceBNe, Nat.reduceAnd, Nat.one_and_eq_mod_two, Nat.reduceMod, decide_true, decide_false, Bool.and_true, Bool.true_and, Bool.and_false, Bool.false_and, Bool.or_false, Bool.false_or, Bool.or_true, Bool.true_or, Bool.not_true, Bool.not_false, if_true, if_false, ↓reduceIte, and_self, bne_self_eq_false, Bool.or_self, Bool.and_self, Bool.not_not])
theorem pc_S (w : Int32) : plS (tvS w) = w &&& nI 4261416832 := by
  unfold tvS plS
  (apply gb_ext; apply all32; simp (disch := decide) only [ptO, nm31, gb_fpt, gb_or, gb_and, gb_xor, gb_shl, gb_shr, gb_ush, gb_u, gb_n, gb_m, gb_hi, Nat.reduceAdd, Nat.reduceSub, Nat.reducePow, Nat.reduceLT, Nat.reduceLeDiff, Nat.testBit, Nat.reduceShiftRight, Nat.reduceBNe, Nat.reduceAnd, Nat.one_and_eq_mod_two, Nat.reduceMod, decide_true, decide_false, Bool.and_true, Bool.true_and, Bool.and_false, Bool.false_and, Bool.or_false, Bool.false_or, Bool.or_true, Bool.true_or, Bool.not_true, Bool.not_false, if_true, if_false, ↓reduceIte, and_self, bne_self_eq_false, Bool.or_self, Bool.and_self, Bool.not_not])
theorem sgv_S (w : Int32) : ∀ i : Nat, i < 32 → 11 ≤ i → gb (tvS w) i = gb (tvS w) 31 := by
  unfold tvS
  (apply all32; simp (disch := decide) only [gb_or, gb_and, gb_shl, gb_shr, gb_u, gb_n, gb_m, gb_fpt, Nat.reduceAdd, Nat.reduceSub, Nat.reducePow, Nat.reduceLT, Nat.reduceLeDiff, Nat.testBit, Nat.reduceShiftRight, Nat.reduceBNe, Nat.reduceAnd, Nat.one_and_eq_mod_two, Nat.reduceMod, decide_true, decide_false, Bool.and_true, Bool.true_and, Bool.and_false, Bool.false_and, Bool.or_false, Bool.false_or, Bool.or_true, Bool.true_or, Bool.not_true, Bool.not_false, if_true, if_false, ↓reduceIte, and_self, bne_self_eq_false, Bool.or_self, Bool.and_self, Bool.not_not, false_imp_iff, imp_self, true_imp_iff, implies_true])
theorem bov_S (w : Int32) : -(2 : Int) ^ 11 ≤ (tvS w).toInt ∧ (tvS w).toInt < (2 : Int) ^ 11 := bd_S (by decide) (fun i h1 h2 => sgv_S w i h2 h1)
theorem nmv_S (w : Int32) : tvS w ≠ Int32.minValue := fun z => by
  have h := bov_S w
  rw [z, show Int32.minValue.toInt = -2147483648 from by decide] at h
  exact absurd h (by decide)
theorem lov_S (w : Int32) : (tvS w) &&& nI (1 - 1) = 0 := by
  rw [show 1 - 1 = 0 from rfl, show (0 : Int32) = nI 0 from rfl]
  generalize tvS w = v
  (apply gb_ext; apply all32; simp (disch := decide) only [gb_or, gb_and, gb_xor, gb_shl, gb_shr, gb_ush, gb_u, gb_n, gb_m, gb_hi, Nat.reduceAdd, Nat.reduceSub, Nat.reducePow, Nat.reduceLT, Nat.reduceLeDiff, Nat.testBit, Nat.reduceShiftRight, Nat.reduceBNe, Nat.reduceAnd, Nat.one_and_eq_mod_two, Nat.reduceMod, decide_true, decide_false, Bool.and_true, Bool.true_and, Bool.and_false, Bool.false_and, Bool.or_false, Bool.false_or, Bool.or_true, Bool.true_or, Bool.not_true, Bool.not_false, if_true, if_false, ↓reduceIte, and_self, bne_self_eq_false, Bool.or_self, Bool.and_self, Bool.not_not])
theorem pc_T (w : Int32) : plT (tvT w) = w &&& nI 4261416832 := by
  unfold tvT plT
  (apply gb_ext; apply all32; simp (disch := decide) only [ptO, nm31, gb_fpt, gb_or, gb_and, gb_xor, gb_shl, gb_shr, gb_ush, gb_u, gb_n, gb_m, gb_hi, Nat.reduceAdd, Nat.reduceSub, Nat.reducePow, Nat.reduceLT, Nat.reduceLeDiff, Nat.testBit, Nat.reduceShiftRight, Nat.reduceBNe, Nat.reduceAnd, Nat.one_and_eq_mod_two, Nat.reduceMod, decide_true, decide_false, Bool.and_true, Bool.true_and, Bool.and_false, Bool.false_and, Bool.or_false, Bool.false_or, Bool.or_true, Bool.true_or, Bool.not_true, Bool.not_false, if_true, if_false, ↓reduceIte, and_self, bne_self_eq_false, Bool.or_self, Bool.and_self, Bool.not_not])
theorem sgv_T (w : Int32) : ∀ i : Nat, i < 32 → 12 ≤ i → gb (tvT w) i = gb (tvT w) 31 := by
  unfold tvT
  (apply all32; simp (disch := decide) only [gb_or, gb_and, gb_shl, gb_shr, gb_u, gb_n, gb_m, gb_fpt, Nat.reduceAdd, Nat.reduceSub, Nat.reducePow, Nat.reduceLT, Nat.reduceLeDiff, Nat.testBit, Nat.reduceShiftRight, Nat.reduceBNe, Nat.reduceAnd, Nat.one_and_eq_mod_two, Nat.reduceMod, decide_true, decide_false, Bool.and_true, Bool.true_and, Bool.and_false, Bool.false_and, Bool.or_false, Bool.false_or, Bool.or_true, Bool.true_or, Bool.not_true, Bool.not_false, if_true, if_false, ↓reduceIte, and_self, bne_self_eq_false, Bool.or_self, Bool.and_self, Bool.not_not, false_imp_iff, imp_self, true_imp_iff, implies_true])
theorem bov_T (w : Int32) : -(2 : Int) ^ 12 ≤ (tvT w).toInt ∧ (tvT w).toInt < (2 : Int) ^ 12 := bd_S (by decide) (fun i h1 h2 => sgv_T w i h2 h1)
theorem nmv_T (w : Int32) : tvT w ≠ Int32.minValue := fun z => by
  have h := bov_T w
  rw [z, show Int32.minValue.toInt = -2147483648 from by decide] at h
  exact absurd h (by decide)
theorem lov_T (w : Int32) : (tvT w) &&& nI (2 - 1) = 0 := by
  rw [show 2 - 1 = 1 from rfl, show (0 : Int32) = nI 0 from rfl]
  unfold tvT
  (apply gb_ext; apply all32; simp (disch := decide) only [gb_fpt, gb_or, gb_and, gb_xor, gb_shl, gb_shr, gb_ush, gb_u, gb_n, gb_m, gb_hi, Nat.reduceAdd, Nat.reduceSub, Nat.reducePow, Nat.reduceLT, Nat.reduceLeDiff, Nat.testBit, Nat.reduceShiftRight, Nat.reduceBNe, Nat.reduceAnd, Nat.one_and_eq_mod_two, Nat.reduceMod, decide_true, decide_false, Bool.and_true, Bool.true_and, Bool.and_false, Bool.false_and, Bool.or_false, Bool.false_or, Bool.or_true, Bool.true_or, Bool.not_true, Bool.not_false, if_true, if_false, ↓reduceIte, and_self, bne_self_eq_false, Bool.or_self, Bool.and_self, Bool.not_not])
theorem pc_U (w : Int32) : (tvU w) <<< nI 12 = w &&& nI 4294963200 := by
  unfold tvU
  (apply gb_ext; apply all32; simp (disch := decide) only [ptO, nm31, gb_fpt, gb_or, gb_and, gb_xor, gb_shl, gb_shr, gb_ush, gb_u, gb_n, gb_m, gb_hi, Nat.reduceAdd, Nat.reduceSub, Nat.reducePow, Nat.reduceLT, Nat.reduceLeDiff, Nat.testBit, Nat.reduceShiftRight, Nat.reduceBNe, Nat.reduceAnd, Nat.one_and_eq_mod_two, Nat.reduceMod, decide_true, decide_false, Bool.and_true, Bool.true_and, Bool.and_false, Bool.false_and, Bool.or_false, Bool.false_or, Bool.or_true, Bool.true_or, Bool.not_true, Bool.not_false, if_true, if_false, ↓reduceIte, and_self, bne_self_eq_false, Bool.or_self, Bool.and_self, Bool.not_not])
theorem sgv_U (w : Int32) : (tvU w) &&& nI (2 ^ 20 - 1) = tvU w := by
  unfold tvU
  rw [show 2 ^ 20 - 1 = 1048575 from rfl]
  (apply gb_ext; apply all32; simp (disch := decide) only [ptO, nm31, gb_fpt, gb_or, gb_and, gb_xor, gb_shl, gb_shr, gb_ush, gb_u, gb_n, gb_m, gb_hi, Nat.reduceAdd, Nat.reduceSub, Nat.reducePow, Nat.reduceLT, Nat.reduceLeDiff, Nat.testBit, Nat.reduceShiftRight, Nat.reduceBNe, Nat.reduceAnd, Nat.one_and_eq_mod_two, Nat.reduceMod, decide_true, decide_false, Bool.and_true, Bool.true_and, Bool.and_false, Bool.false_and, Bool.or_false, Bool.false_or, Bool.or_true, Bool.true_or, Bool.not_true, Bool.not_false, if_true, if_false, ↓reduceIte, and_self, bne_self_eq_false, Bool.or_self, Bool.and_self, Bool.not_not])
theorem bov_U (w : Int32) : 0 ≤ (tvU w).toInt ∧ (tvU w).toInt < 2 ^ 20 := bd_U (by decide) (sgv_U w)
theorem nmv_U (w : Int32) : tvU w ≠ Int32.minValue := fun z => by
  have h := bov_U w
  rw [z, show Int32.minValue.toInt = -2147483648 from by decide] at h
  exact absurd h (by decide)
theorem lov_U (w : Int32) : (tvU w) &&& nI (1 - 1) = 0 := by
  rw [show 1 - 1 = 0 from rfl, show (0 : Int32) = nI 0 from rfl]
  generalize tvU w = v
  (apply gb_ext; apply all32; simp (disch := decide) only [gb_or, gb_and, gb_xor, gb_shl, gb_shr, gb_ush, gb_u, gb_n, gb_m, gb_hi, Nat.reduceAdd, Nat.reduceSub, Nat.reducePow, Nat.reduceLT, Nat.reduceLeDiff, Nat.testBit, Nat.reduceShiftRight, Nat.reduceBNe, Nat.reduceAnd, Nat.one_and_eq_mod_two, Nat.reduceMod, decide_true, decide_false, Bool.and_true, Bool.true_and, Bool.and_false, Bool.false_and, Bool.or_false, Bool.false_or, Bool.or_true, Bool.true_or, Bool.not_true, Bool.not_false, if_true, if_false, ↓reduceIte, and_self, bne_self_eq_false, Bool.or_self, Bool.and_self, Bool.not_not])
theorem pc_V (w : Int32) : plV (tvV w) = w &&& nI 124 := by
  unfold tvV plV
  (apply gb_ext; apply all32; simp (disch := decide) only [ptO, nm31, gb_fpt, gb_or, gb_and, gb_xor, gb_shl, gb_shr, gb_ush, gb_u, gb_n, gb_m, gb_hi, Nat.reduceAdd, Nat.reduceSub, Nat.reducePow, Nat.reduceLT, Nat.reduceLeDiff, Nat.testBit, Nat.reduceShiftRight, Nat.reduceBNe, Nat.reduceAnd, Nat.one_and_eq_mod_two, Nat.reduceMod, decide_true, decide_false, Bool.and_true, Bool.true_and, Bool.and_false, Bool.false_and, Bool.or_false, Bool.false_or, Bool.or_true, Bool.true_or, Bool.not_true, Bool.not_false, if_true, if_false, ↓reduceIte, and_self, bne_self_eq_false, Bool.or_self, Bool.and_self, Bool.not_not])
theorem sgv_V (w : Int32) : (tvV w) &&& nI (2 ^ 5 - 1) = tvV w := by
  unfold tvV
  rw [show 2 ^ 5 - 1 = 31 from rfl]
  (apply gb_ext; apply all32; simp (disch := decide) only [ptO, nm31, gb_fpt, gb_or, gb_and, gb_xor, gb_shl, gb_shr, gb_ush, gb_u, gb_n, gb_m, gb_hi, Nat.reduceAdd, Nat.reduceSub, Nat.reducePow, Nat.reduceLT, Nat.reduceLeDiff, Nat.testBit, Nat.reduceShiftRight, Nat.reduceBNe, Nat.reduceAnd, Nat.one_and_eq_mod_two, Nat.reduceMod, decide_true, decide_false, Bool.and_true, Bool.true_and, Bool.and_false, Bool.false_and, Bool.or_false, Bool.false_or, Bool.or_true, Bool.true_or, Bool.not_true, Bool.not_false, if_true, if_false, ↓reduceIte, and_self, bne_self_eq_false, Bool.or_self, Bool.and_self, Bool.not_not])
theorem bov_V (w : Int32) : 0 ≤ (tvV w).toInt ∧ (tvV w).toInt < 2 ^ 5 := bd_U (by decide) (sgv_V w)
theorem nmv_V (w : Int32) : tvV w ≠ Int32.minValue := fun z => by
  have h := bov_V w
  rw [z, show Int32.minValue.toInt = -2147483648 from by decide] at h
  exact absurd h (by decide)
theorem lov_V (w : Int32) : (tvV w) &&& nI (1 - 1) = 0 := by
  rw [show 1 - 1 = 0 from rfl, show (0 : Int32) = nI 0 from rfl]
  generalize tvV w = v
  (apply gb_ext; apply all32; simp (disch := decide) only [gb_or, gb_and, gb_xor, gb_shl, gb_shr, gb_ush, gb_u, gb_n, gb_m, gb_hi, Nat.reduceAdd, Nat.reduceSub, Nat.reducePow, Nat.reduceLT, Nat.reduceLeDiff, Nat.testBit, Nat.reduceShiftRight, Nat.reduceBNe, Nat.reduceAnd, Nat.one_and_eq_mod_two, Nat.reduceMod, decide_true, decide_false, Bool.and_true, Bool.true_and, Bool.and_false, Bool.false_and, Bool.or_false, Bool.false_or, Bool.or_true, Bool.true_or, Bool.not_true, Bool.not_false, if_true, if_false, ↓reduceIte, and_self, bne_self_eq_false, Bool.or_self, Bool.and_self, Bool.not_not])
theorem pc_W (w : Int32) : plW (tvW w) = w &&& nI 7264 := by
  unfold tvW plW
  (apply gb_ext; apply all32; simp (disch := decide) only [ptO, nm31, gb_fpt, gb_or, gb_and, gb_xor, gb_shl, gb_shr, gb_ush, gb_u, gb_n, gb_m, gb_hi, Nat.reduceAdd, Nat.reduceSub, Nat.reducePow, Nat.reduceLT, Nat.reduceLeDiff, Nat.testBit, Nat.reduceShiftRight, Nat.reduceBNe, Nat.reduceAnd, Nat.one_and_eq_mod_two, Nat.reduceMod, decide_true, decide_false, Bool.and_true, Bool.true_and, Bool.and_false, Bool.false_and, Bool.or_false, Bool.false_or, Bool.or_true, Bool.true_or, Bool.not_true, Bool.not_false, if_true, if_false, ↓reduceIte, and_self, bne_self_eq_false, Bool.or_self, Bool.and_self, Bool.not_not])
theorem sgv_W (w : Int32) : (tvW w) &&& nI (2 ^ 7 - 1) = tvW w := by
  unfold tvW
  rw [show 2 ^ 7 - 1 = 127 from rfl]
  (apply gb_ext; apply all32; simp (disch := decide) only [ptO, nm31, gb_fpt, gb_or, gb_and, gb_xor, gb_shl, gb_shr, gb_ush, gb_u, gb_n, gb_m, gb_hi, Nat.reduceAdd, Nat.reduceSub, Nat.reducePow, Nat.reduceLT, Nat.reduceLeDiff, Nat.testBit, Nat.reduceShiftRight, Nat.reduceBNe, Nat.reduceAnd, Nat.one_and_eq_mod_two, Nat.reduceMod, decide_true, decide_false, Bool.and_true, Bool.true_and, Bool.and_false, Bool.false_and, Bool.or_false, Bool.false_or, Bool.or_true, Bool.true_or, Bool.not_true, Bool.not_false, if_true, if_false, ↓reduceIte, and_self, bne_self_eq_false, Bool.or_self, Bool.and_self, Bool.not_not])
theorem bov_W (w : Int32) : 0 ≤ (tvW w).toInt ∧ (tvW w).toInt < 2 ^ 7 := bd_U (by decide) (sgv_W w)
theorem nmv_W (w : Int32) : tvW w ≠ Int32.minValue := fun z => by
  have h := bov_W w
  rw [z, show Int32.minValue.toInt = -2147483648 from by decide] at h
  exact absurd h (by decide)
theorem lov_W (w : Int32) : (tvW w) &&& nI (4 - 1) = 0 := by
  rw [show 4 - 1 = 3 from rfl, show (0 : Int32) = nI 0 from rfl]
  unfold tvW
  (apply gb_ext; apply all32; simp (disch := decide) only [gb_fpt, gb_or, gb_and, gb_xor, gb_shl, gb_shr, gb_ush, gb_u, gb_n, gb_m, gb_hi, Nat.reduceAdd, Nat.reduceSub, Nat.reducePow, Nat.reduceLT, Nat.reduceLeDiff, Nat.testBit, Nat.reduceShiftRight, Nat.reduceBNe, Nat.reduceAnd, Nat.one_and_eq_mod_two, Nat.reduceMod, decide_true, decide_false, Bool.and_true, Bool.true_and, Bool.and_false, Bool.false_and, Bool.or_false, Bool.false_or, Bool.or_true, Bool.true_or, Bool.not_true, Bool.not_false, if_true, if_false, ↓reduceIte, and_self, bne_self_eq_false, Bool.or_self, Bool.and_self, Bool.not_not])
theorem pc_X (w : Int32) : plX (tvX w) = w &&& nI 8160 := by
  unfold tvX plX
  (apply gb_ext; apply all32; simp (disch := decide) only [ptO, nm31, gb_fpt, gb_or, gb_and, gb_xor, gb_shl, gb_shr, gb_ush, gb_u, gb_n, gb_m, gb_hi, Nat.reduceAdd, Nat.reduceSub, Nat.reducePow, Nat.reduceLT, Nat.reduceLeDiff, Nat.testBit, Nat.reduceShiftRight, Nat.reduceBNe, Nat.reduceAnd, Nat.one_and_eq_mod_two, Nat.reduceMod, decide_true, decide_false, Bool.and_true, Bool.true_and, Bool.and_false, Bool.false_and, Bool.or_false, Bool.false_or, Bool.or_true, Bool.true_or, Bool.not_true, Bool.not_false, if_true, if_false, ↓reduceIte, and_self, bne_self_eq_false, Bool.or_self, Bool.and_self, Bool.not_not])
theorem sgv_X (w : Int32) : (tvX w) &&& nI (2 ^ 10 - 1) = tvX w := by
  unfold tvX
  rw [show 2 ^ 10 - 1 = 1023 from rfl]
  (apply gb_ext; apply all32; simp (disch := decide) only [ptO, nm31, gb_fpt, gb_or, gb_and, gb_xor, gb_shl, gb_shr, gb_ush, gb_u, gb_n, gb_m, gb_hi, Nat.reduceAdd, Nat.reduceSub, Nat.reducePow, Nat.reduceLT, Nat.reduceLeDiff, Nat.testBit, Nat.reduceShiftRight, Nat.reduceBNe, Nat.reduceAnd, Nat.one_and_eq_mod_two, Nat.reduceMod, decide_true, decide_false, Bool.and_true, Bool.true_and, Bool.and_false, Bool.false_and, Bool.or_false, Bool.false_or, Bool.or_true, Bool.true_or, Bool.not_true, Bool.not_false, if_true, if_false, ↓reduceIte, and_self, bne_self_eq_false, Bool.or_self, Bool.and_self, Bool.not_not])
theorem bov_X (w : Int32) : 0 ≤ (tvX w).toInt ∧ (tvX w).toInt < 2 ^ 10 := bd_U (by decide) (sgv_X w)
theorem nmv_X (w : Int32) : tvX w ≠ Int32.minValue := fun z => by
  have h := bov_X w
  rw [z, show Int32.minValue.toInt = -2147483648 from by decide] at h
  exact absurd h (by decide)
theorem lov_X (w : Int32) : (tvX w) &&& nI (4 - 1) = 0 := by
  rw [show 4 - 1 = 3 from rfl, show (0 : Int32) = nI 0 from rfl]
  unfold tvX
  (apply gb_ext; apply all32; simp (disch := decide) only [gb_fpt, gb_or, gb_and, gb_xor, gb_shl, gb_shr, gb_ush, gb_u, gb_n, gb_m, gb_hi, Nat.reduceAdd, Nat.reduceSub, Nat.reducePow, Nat.reduceLT, Nat.reduceLeDiff, Nat.testBit, Nat.reduceShiftRight, Nat.reduceBNe, Nat.reduceAnd, Nat.one_and_eq_mod_two, Nat.reduceMod, decide_true, decide_false, Bool.and_true, Bool.true_and, Bool.and_false, Bool.false_and, Bool.or_false, Bool.false_or, Bool.or_true, Bool.true_or, Bool.not_true, Bool.not_false, if_true, if_false, ↓reduceIte, and_self, bne_self_eq_false, Bool.or_self, Bool.and_self, Bool.not_not])
theorem pc_Y (w : Int32) : plY (tvY w) = w &&& nI 4220 := by
  unfold tvY plY
  cases hb : gb w 12 with
  | true =>
    have e : fpt w 12 1 = nI 1 := by
      (apply gb_ext; apply all32; simp (disch := decide) only [hb, gb_fpt, gb_or, gb_and, gb_xor, gb_shl, gb_shr, gb_ush, gb_u, gb_n, gb_m, gb_hi, Nat.reduceAdd, Nat.reduceSub, Nat.reducePow, Nat.reduceLT, Nat.reduceLeDiff, Nat.testBit, Nat.reduceShiftRight, Nat.reduceBNe, Nat.reduceAnd, Nat.one_and_eq_mod_two, Nat.reduceMod, decide_true, decide_false, Bool.and_true, Bool.true_and, Bool.and_false, Bool.false_and, Bool.or_false, Bool.false_or, Bool.or_true, Bool.true_or, Bool.not_true, Bool.not_false, if_true, if_false, ↓reduceIte, and_self, bne_self_eq_false, Bool.or_self, Bool.and_self, Bool.not_not])
    rw [e]
    (apply gb_ext; apply all32; simp (disch := decide) only [hb, ptO, nm31, gb_fpt, gb_or, gb_and, gb_xor, gb_shl, gb_shr, gb_ush, gb_u, gb_n, gb_m, gb_hi, Nat.reduceAdd, Nat.reduceSub, Nat.reducePow, Nat.reduceLT, Nat.reduceLeDiff, Nat.testBit, Nat.reduceShiftRight, Nat.reduceBNe, Nat.reduceAnd, Nat.one_and_eq_mod_two, Nat.reduceMod, decide_true, decide_false, Bool.and_true, Bool.true_and, Bool.and_false, Bool.false_and, Bool.or_false, Bool.false_or, Bool.or_true, Bool.true_or, Bool.not_true, Bool.not_false, if_true, if_false, ↓reduceIte, and_self, bne_self_eq_false, Bool.or_self, Bool.and_self, Bool.not_not])
  | false =>
    have e : fpt w 12 1 = nI 0 := by
      (apply gb_ext; apply all32; simp (disch := decide) only [hb, gb_fpt, gb_or, gb_and, gb_xor, gb_shl, gb_shr, gb_ush, gb_u, gb_n, gb_m, gb_hi, Nat.reduceAdd, Nat.reduceSub, Nat.reducePow, Nat.reduceLT, Nat.reduceLeDiff, Nat.testBit, Nat.reduceShiftRight, Nat.reduceBNe, Nat.reduceAnd, Nat.one_and_eq_mod_two, Nat.reduceMod, decide_true, decide_false, Bool.and_true, Bool.true_and, Bool.and_false, Bool.false_and, Bool.or_false, Bool.false_or, Bool.or_true, Bool.true_or, Bool.not_true, Bool.not_false, if_true, if_false, ↓reduceIte, and_self, bne_self_eq_false, Bool.or_self, Bool.and_self, Bool.not_not])
    rw [e]
    rw [show -nI 0 = nI 0 from by decide]
    (apply gb_ext; apply all32; simp (disch := decide) only [hb, ptO, nm31, gb_fpt, gb_or, gb_and, gb_xor, gb_shl, gb_shr, gb_ush, gb_u, gb_n, gb_m, gb_hi, Nat.reduceAdd, Nat.reduceSub, Nat.reducePow, Nat.reduceLT, Nat.reduceLeDiff, Nat.testBit, Nat.reduceShiftRight, Nat.reduceBNe, Nat.reduceAnd, Nat.one_and_eq_mod_two, Nat.reduceMod, decide_true, decide_false, Bool.and_true, Bool.true_and, Bool.and_false, Bool.false_and, Bool.or_false, Bool.false_or, Bool.or_true, Bool.true_or, Bool.not_true, Bool.not_false, if_true, if_false, ↓reduceIte, and_self, bne_self_eq_false, Bool.or_self, Bool.and_self, Bool.not_not])
theorem sgv_Y (w : Int32) : ∀ i : Nat, i < 32 → 9 ≤ i → gb (tvY w) i = gb (tvY w) 31 := by
  unfold tvY
  cases hb : gb w 12 with
  | true =>
    have e : fpt w 12 1 = nI 1 := by
      (apply gb_ext; apply all32; simp (disch := decide) only [hb, gb_fpt, gb_or, gb_and, gb_xor, gb_shl, gb_shr, gb_ush, gb_u, gb_n, gb_m, gb_hi, Nat.reduceAdd, Nat.reduceSub, Nat.reducePow, Nat.reduceLT, Nat.reduceLeDiff, Nat.testBit, Nat.reduceShiftRight, Nat.reduceBNe, Nat.reduceAnd, Nat.one_and_eq_mod_two, Nat.reduceMod, decide_true, decide_false, Bool.and_true, Bool.true_and, Bool.and_false, Bool.false_and, Bool.or_false, Bool.false_or, Bool.or_true, Bool.true_or, Bool.not_true, Bool.not_false, if_true, if_false, ↓reduceIte, and_self, bne_self_eq_false, Bool.or_self, Bool.and_self, Bool.not_not])
    rw [e]
    (apply all32; simp (disch := decide) only [hb, gb_or, gb_and, gb_shl, gb_shr, gb_u, gb_n, gb_m, gb_fpt, Nat.reduceAdd, Nat.reduceSub, Nat.reducePow, Nat.reduceLT, Nat.reduceLeDiff, Nat.testBit, Nat.reduceShiftRight, Nat.reduceBNe, Nat.reduceAnd, Nat.one_and_eq_mod_two, Nat.reduceMod, decide_true, decide_false, Bool.and_true, Bool.true_and, Bool.and_false, Bool.false_and, Bool.or_false, Bool.false_or, Bool.or_true, Bool.true_or, Bool.not_true, Bool.not_false, if_true, if_false, ↓reduceIte, and_self, bne_self_eq_false, Bool.or_self, Bool.and_self, Bool.not_not, false_imp_iff, imp_self, true_imp_iff, implies_true])
  | false =>
    have e : fpt w 12 1 = nI 0 := by
      (apply gb_ext; apply all32; simp (disch := decide) only [hb, gb_fpt, gb_or, gb_and, gb_xor, gb_shl, gb_shr, gb_ush, gb_u, gb_n, gb_m, gb_hi, Nat.reduceAdd, Nat.reduceSub, Nat.reducePow, Nat.reduceLT, Nat.reduceLeDiff, Nat.testBit, Nat.reduceShiftRight, Nat.reduceBNe, Nat.reduceAnd, Nat.one_and_eq_mod_two, Nat.reduceMod, decide_true, decide_false, Bool.and_true, Bool.true_and, Bool.and_false, Bool.false_and, Bool.or_false, Bool.false_or, Bool.or_true, Bool.true_or, Bool.not_true, Bool.not_false, if_true, if_false, ↓reduceIte, and_self, bne_self_eq_false, Bool.or_self, Bool.and_self, Bool.not_not])
    rw [e]
    rw [show -nI 0 = nI 0 from by decide]
    (apply all32; simp (disch := decide) only [hb, gb_or, gb_and, gb_shl, gb_shr, gb_u, gb_n, gb_m, gb_fpt, Nat.reduceAdd, Nat.reduceSub, Nat.reducePow, Nat.reduceLT, Nat.reduceLeDiff, Nat.testBit, Nat.reduceShiftRight, Nat.reduceBNe, Nat.reduceAnd, Nat.one_and_eq_mod_two, Nat.reduceMod, decide_true, decide_false, Bool.and_true, Bool.true_and, Bool.and_false, Bool.false_and, Bool.or_false, Bool.false_or, Bool.or_true, Bool.true_or, Bool.not_true, Bool.not_false, if_true, if_false, ↓reduceIte, and_self, bne_self_eq_false, Bool.or_self, Bool.and_self, Bool.not_not, false_imp_iff, imp_self, true_imp_iff, implies_true])
theorem bov_Y (w : Int32) : -(2 : Int) ^ 9 ≤ (tvY w).toInt ∧ (tvY w).toInt < (2 : Int) ^ 9 := bd_S (by decide) (fun i h1 h2 => sgv_Y w i h2 h1)
theorem nmv_Y (w : Int32) : tvY w ≠ Int32.minValue := fun z => by
  have h := bov_Y w
  rw [z, show Int32.minValue.toInt = -2147483648 from by decide] at h
  exact absurd h (by decide)
theorem lov_Y (w : Int32) : (tvY w) &&& nI (16 - 1) = 0 := by
  rw [show 16 - 1 = 15 from rfl, show (0 : Int32) = nI 0 from rfl]
  unfold tvY
  cases hb : gb w 12 with
  | true =>
    have e : fpt w 12 1 = nI 1 := by
      (apply gb_ext; apply all32; simp (disch := decide) only [hb, gb_fpt, gb_or, gb_and, gb_xor, gb_shl, gb_shr, gb_ush, gb_u, gb_n, gb_m, gb_hi, Nat.reduceAdd, Nat.reduceSub, Nat.reducePow, Nat.reduceLT, Nat.reduceLeDiff, Nat.testBit, Nat.reduceShiftRight, Nat.reduceBNe, Nat.reduceAnd, Nat.one_and_eq_mod_two, Nat.reduceMod, decide_true, decide_false, Bool.and_true, Bool.true_and, Bool.and_false, Bool.false_and, Bool.or_false, Bool.false_or, Bool.or_true, Bool.true_or, Bool.not_true, Bool.not_false, if_true, if_false, ↓reduceIte, and_self, bne_self_eq_false, Bool.or_self, Bool.and_self, Bool.not_not])
    rw [e]
    (apply gb_ext; apply all32; simp (disch := decide) only [hb, gb_fpt, gb_or, gb_and, gb_xor, gb_shl, gb_shr, gb_ush, gb_u, gb_n, gb_m, gb_hi, Nat.reduceAdd, Nat.reduceSub, Nat.reducePow, Nat.reduceLT, Nat.reduceLeDiff, Nat.testBit, Nat.reduceShiftRight, Nat.reduceBNe, Nat.reduceAnd, Nat.one_and_eq_mod_two, Nat.reduceMod, decide_true, decide_false, Bool.and_true, Bool.true_and, Bool.and_false, Bool.false_and, Bool.or_false, Bool.false_or, Bool.or_true, Bool.true_or, Bool.not_true, Bool.not_false, if_true, if_false, ↓reduceIte, and_self, bne_self_eq_false, Bool.or_self, Bool.and_self, Bool.not_not])
  | false =>
    have e : fpt w 12 1 = nI 0 := by
      (apply gb_ext; apply all32; simp (disch := decide) only [hb, gb_fpt, gb_or, gb_and, gb_xor, gb_shl, gb_shr, gb_ush, gb_u, gb_n, gb_m, gb_hi, Nat.reduceAdd, Nat.reduceSub, Nat.reducePow, Nat.reduceLT, Nat.reduceLeDiff, Nat.testBit, Nat.reduceShiftRight, Nat.reduceBNe, Nat.reduceAnd, Nat.one_and_eq_mod_two, Nat.reduceMod, decide_true, decide_false, Bool.and_true, Bool.true_and, Bool.and_false, Bool.false_and, Bool.or_false, Bool.false_or, Bool.or_true, Bool.true_or, Bool.not_true, Bool.not_false, if_true, if_false, ↓reduceIte, and_self, bne_self_eq_false, Bool.or_self, Bool.and_self, Bool.not_not])
    rw [e]
    rw [show -nI 0 = nI 0 from by decide]
    (apply gb_ext; apply all32; simp (disch := decide) only [hb, gb_fpt, gb_or, gb_and, gb_xor, gb_shl, gb_shr, gb_ush, gb_u, gb_n, gb_m, gb_hi, Nat.reduceAdd, Nat.reduceSub, Nat.reducePow, Nat.reduceLT, Nat.reduceLeDiff, Nat.testBit, Nat.reduceShiftRight, Nat.reduceBNe, Nat.reduceAnd, Nat.one_and_eq_mod_two, Nat.reduceMod, decide_true, decide_false, Bool.and_true, Bool.true_and, Bool.and_false, Bool.false_and, Bool.or_false, Bool.false_or, Bool.or_true, Bool.true_or, Bool.not_true, Bool.not_false, if_true, if_false, ↓reduceIte, and_self, bne_self_eq_false, Bool.or_self, Bool.and_self, Bool.not_not])
theorem muv_s {v : Int32} {s : Nat} (hs : s = 1 ∨ s = 2 ∨ s = 4 ∨ s = 16) (h : v &&& nI (s - 1) = 0) : ∃ q : Int, v.toInt = s * q := by
  obtain ⟨A, hA, e⟩ := nI_ex v
  have e1 : nI A &&& nI (s - 1) = nI (A % s) := by
    rcases hs with rfl | rfl | rfl | rfl
    · rw [Nat.mod_one]
      show nI A &&& nI 0 = nI 0
      exact Int32.and_zero
    · exact nm_m1 (by omega)
    · exact nm_m3 (by omega)
    · exact nm_m15 (by omega)
  rw [e, e1] at h
  have l : A % s < 17 := by
    have := Nat.mod_lt A (show 0 < s by omega)
    omega
  have e2 : A % s = 0 := (nI_eq (by omega) (by omega)).mp (show nI (A % s) = nI 0 from h)
  have e3 : v.toInt = Int.bmod A (2 ^ 32) := by rw [e]; exact Int32.toInt_ofNat' ..
  rw [Int.bmod_def] at e3
  rcases hs with rfl | rfl | rfl | rfl
  · exact ⟨v.toInt, by omega⟩
  · split at e3
    · exact ⟨((A / 2 : Nat) : Int), by omega⟩
    · exact ⟨((A / 2 : Nat) : Int) - 2 ^ 31, by omega⟩
  · split at e3
    · exact ⟨((A / 4 : Nat) : Int), by omega⟩
    · exact ⟨((A / 4 : Nat) : Int) - 2 ^ 30, by omega⟩
  · split at e3
    · exact ⟨((A / 16 : Nat) : Int), by omega⟩
    · exact ⟨((A / 16 : Nat) : Int) - 2 ^ 28, by omega⟩
theorem ltv_H {n : Nat} (hn : 30 < n) (w : Int32) : LTp n w 72 (tvH w) (true) 32505856 := by
  have b1 := bov_H w
  obtain ⟨q, hq⟩ := muv_s (Or.inl rfl) (lov_H w)
  refine ⟨tk_H hn w, ?_, (plr_H n _).trans (congrArg (fun z => some (z, ())) (pc_H w))⟩
  have p1 : (2 : Int) ^ 5 = 32 := by decide
  rw [p1] at b1
  refine (fit_H n _).trans ?_
  rw [fz_t (lo := 0) (hi := 31) (k := 1) (v := tvH w) (by show (0 : Int) ≤ _; omega) (by show _ ≤ (31 : Int); omega) (lov_H w)]
theorem ltv_I {n : Nat} (hn : 30 < n) (w : Int32) : LTp n w 73 (tvI w) (true) 4293918720 := by
  have b1 := bov_I w
  obtain ⟨q, hq⟩ := muv_s (Or.inl rfl) (lov_I w)
  refine ⟨tk_I hn w, ?_, (plr_I n _).trans (congrArg (fun z => some (z, ())) (pc_I w))⟩
  have p1 : (2 : Int) ^ 11 = 2048 := by decide
  rw [p1] at b1
  refine (fit_I n _).trans ?_
  rw [fz_t (lo := (-2048)) (hi := 2047) (k := 1) (v := tvI w) (by show (-2048 : Int) ≤ _; omega) (by show _ ≤ (2047 : Int); omega) (lov_I w)]
theorem ltv_J {n : Nat} (hn : 30 < n) (w : Int32) : LTp n w 74 (tvJ w) (true) 4294963200 := by
  have b1 := bov_J w
  obtain ⟨q, hq⟩ := muv_s (Or.inr (Or.inl rfl)) (lov_J w)
  refine ⟨tk_J hn w, ?_, (pl_J n _).1.trans (congrArg (fun z => some (z, ())) (pc_J w))⟩
  have p1 : (2 : Int) ^ 20 = 1048576 := by decide
  rw [p1] at b1
  refine (fit_J n _).trans ?_
  rw [fz_t (lo := (-1048576)) (hi := 1048574) (k := 2) (v := tvJ w) (by show (-1048576 : Int) ≤ _; omega) (by show _ ≤ (1048574 : Int); omega) (lov_J w)]
theorem ltv_K {n : Nat} (hn : 30 < n) (w : Int32) : LTp n w 75 (tvK w) (true) 8188 := by
  have b1 := bov_K w
  obtain ⟨q, hq⟩ := muv_s (Or.inr (Or.inl rfl)) (lov_K w)
  refine ⟨tk_K hn w, ?_, (pl_K n _).1.trans (congrArg (fun z => some (z, ())) (pc_K w))⟩
  have p1 : (2 : Int) ^ 11 = 2048 := by decide
  rw [p1] at b1
  refine (fit_K n _).trans ?_
  rw [fz_t (lo := (-2048)) (hi := 2046) (k := 2) (v := tvK w) (by show (-2048 : Int) ≤ _; omega) (by show _ ≤ (2046 : Int); omega) (lov_K w)]
theorem ltv_L {n : Nat} (hn : 30 < n) (w : Int32) : LTp n w 76 (tvL w) (true) 7292 := by
  have b1 := bov_L w
  obtain ⟨q, hq⟩ := muv_s (Or.inr (Or.inl rfl)) (lov_L w)
  refine ⟨tk_L hn w, ?_, (pl_L n _).1.trans (congrArg (fun z => some (z, ())) (pc_L w))⟩
  have p1 : (2 : Int) ^ 8 = 256 := by decide
  rw [p1] at b1
  refine (fit_L n _).trans ?_
  rw [fz_t (lo := (-256)) (hi := 254) (k := 2) (v := tvL w) (by show (-256 : Int) ≤ _; omega) (by show _ ≤ (254 : Int); omega) (lov_L w)]
theorem ltv_M {n : Nat} (hn : 30 < n) (w : Int32) : LTp n w 77 (tvM w) (!decide (tvM w = 0)) 4220 := by
  have b1 := bov_M w
  obtain ⟨q, hq⟩ := muv_s (Or.inl rfl) (lov_M w)
  refine ⟨tk_M hn w, ?_, (pl_M n _).trans (congrArg (fun z => some (z, ())) (pc_M w))⟩
  have p1 : (2 : Int) ^ 5 = 32 := by decide
  rw [p1] at b1
  refine (fit_M n _).trans ?_
  rw [fz_t (lo := (-32)) (hi := 31) (k := 1) (v := tvM w) (by show (-32 : Int) ≤ _; omega) (by show _ ≤ (31 : Int); omega) (lov_M w), Bool.true_and]
theorem ltv_N {n : Nat} (hn : 30 < n) (w : Int32) : LTp n w 78 (tvN w) (true) 4220 := by
  have b1 := bov_N w
  obtain ⟨q, hq⟩ := muv_s (Or.inl rfl) (lov_N w)
  refine ⟨tk_N hn w, ?_, (pl_N n _).1.trans (congrArg (fun z => some (z, ())) (pc_N w))⟩
  have p1 : (2 : Int) ^ 5 = 32 := by decide
  rw [p1] at b1
  refine (fit_N n _).trans ?_
  rw [fz_t (lo := (-32)) (hi := 31) (k := 1) (v := tvN w) (by show (-32 : Int) ≤ _; omega) (by show _ ≤ (31 : Int); omega) (lov_N w)]
theorem ltv_P {n : Nat} (hn : 30 < n) (w : Int32) : LTp n w 80 (tvP w) (true) 4220 := by
  have b1 := bov_P w
  obtain ⟨q, hq⟩ := muv_s (Or.inr (Or.inr (Or.inl rfl))) (lov_P w)
  refine ⟨tk_P hn w, ?_, (pl_P n _).trans (congrArg (fun z => some (z, ())) (pc_P w))⟩
  have p1 : (2 : Int) ^ 8 = 256 := by decide
  rw [p1] at b1
  refine (fit_P n _).trans ?_
  rw [fz_t (lo := 0) (hi := 252) (k := 4) (v := tvP w) (by show (0 : Int) ≤ _; omega) (by show _ ≤ (252 : Int); omega) (lov_P w)]
theorem ltv_Q {n : Nat} (hn : 30 < n) (w : Int32) : LTp n w 81 (tvQ w) (true) 8064 := by
  have b1 := bov_Q w
  obtain ⟨q, hq⟩ := muv_s (Or.inr (Or.inr (Or.inl rfl))) (lov_Q w)
  refine ⟨tk_Q hn w, ?_, (pl_Q n _).trans (congrArg (fun z => some (z, ())) (pc_Q w))⟩
  have p1 : (2 : Int) ^ 8 = 256 := by decide
  rw [p1] at b1
  refine (fit_Q n _).trans ?_
  rw [fz_t (lo := 0) (hi := 252) (k := 4) (v := tvQ w) (by show (0 : Int) ≤ _; omega) (by show _ ≤ (252 : Int); omega) (lov_Q w)]
theorem ltv_S {n : Nat} (hn : 30 < n) (w : Int32) : LTp n w 83 (tvS w) (true) 4261416832 := by
  have b1 := bov_S w
  obtain ⟨q, hq⟩ := muv_s (Or.inl rfl) (lov_S w)
  refine ⟨tk_S hn w, ?_, (pl_S n _).trans (congrArg (fun z => some (z, ())) (pc_S w))⟩
  have p1 : (2 : Int) ^ 11 = 2048 := by decide
  rw [p1] at b1
  refine (fit_S n _).trans ?_
  rw [fz_t (lo := (-2048)) (hi := 2047) (k := 1) (v := tvS w) (by show (-2048 : Int) ≤ _; omega) (by show _ ≤ (2047 : Int); omega) (lov_S w)]
theorem ltv_T {n : Nat} (hn : 30 < n) (w : Int32) : LTp n w 84 (tvT w) (true) 4261416832 := by
  have b1 := bov_T w
  obtain ⟨q, hq⟩ := muv_s (Or.inr (Or.inl rfl)) (lov_T w)
  refine ⟨tk_T hn w, ?_, (pl_T n _).1.trans (congrArg (fun z => some (z, ())) (pc_T w))⟩
  have p1 : (2 : Int) ^ 12 = 4096 := by decide
  rw [p1] at b1
  refine (fit_T n _).trans ?_
  rw [fz_t (lo := (-4096)) (hi := 4094) (k := 2) (v := tvT w) (by show (-4096 : Int) ≤ _; omega) (by show _ ≤ (4094 : Int); omega) (lov_T w)]
theorem ltv_U {n : Nat} (hn : 30 < n) (w : Int32) : LTp n w 85 (tvU w) (true) 4294963200 := by
  have b1 := bov_U w
  obtain ⟨q, hq⟩ := muv_s (Or.inl rfl) (lov_U w)
  refine ⟨tk_U hn w, ?_, (plr_U n _).trans (congrArg (fun z => some (z, ())) (pc_U w))⟩
  have p1 : (2 : Int) ^ 20 = 1048576 := by decide
  rw [p1] at b1
  refine (fit_U n _).trans ?_
  rw [fz_t (lo := 0) (hi := 1048575) (k := 1) (v := tvU w) (by show (0 : Int) ≤ _; omega) (by show _ ≤ (1048575 : Int); omega) (lov_U w)]
theorem ltv_V {n : Nat} (hn : 30 < n) (w : Int32) : LTp n w 86 (tvV w) (true) 124 := by
  have b1 := bov_V w
  obtain ⟨q, hq⟩ := muv_s (Or.inl rfl) (lov_V w)
  refine ⟨tk_V hn w, ?_, (pl_V n _).trans (congrArg (fun z => some (z, ())) (pc_V w))⟩
  have p1 : (2 : Int) ^ 5 = 32 := by decide
  rw [p1] at b1
  refine (fit_V n _).trans ?_
  rw [fz_t (lo := 0) (hi := 31) (k := 1) (v := tvV w) (by show (0 : Int) ≤ _; omega) (by show _ ≤ (31 : Int); omega) (lov_V w)]
theorem ltv_W {n : Nat} (hn : 30 < n) (w : Int32) : LTp n w 87 (tvW w) (true) 7264 := by
  have b1 := bov_W w
  obtain ⟨q, hq⟩ := muv_s (Or.inr (Or.inr (Or.inl rfl))) (lov_W w)
  refine ⟨tk_W hn w, ?_, (pl_W n _).trans (congrArg (fun z => some (z, ())) (pc_W w))⟩
  have p1 : (2 : Int) ^ 7 = 128 := by decide
  rw [p1] at b1
  refine (fit_W n _).trans ?_
  rw [fz_t (lo := 0) (hi := 124) (k := 4) (v := tvW w) (by show (0 : Int) ≤ _; omega) (by show _ ≤ (124 : Int); omega) (lov_W w)]
theorem ltv_X {n : Nat} (hn : 30 < n) (w : Int32) : LTp n w 88 (tvX w) (!decide (tvX w = 0)) 8160 := by
  have b1 := bov_X w
  obtain ⟨q, hq⟩ := muv_s (Or.inr (Or.inr (Or.inl rfl))) (lov_X w)
  refine ⟨tk_X hn w, ?_, (pl_X n _).trans (congrArg (fun z => some (z, ())) (pc_X w))⟩
  have p1 : (2 : Int) ^ 10 = 1024 := by decide
  rw [p1] at b1
  refine (fit_X n _).trans ?_
  congr 3
  by_cases z : tvX w = 0
  · rw [z, decide_eq_true rfl]
    rfl
  · rw [decide_eq_false z]
    have z2 : (tvX w).toInt ≠ 0 := fun y => z (Int32.toInt_inj.mp (by rw [y]; rfl))
    exact fz_t (by show (4 : Int) ≤ _; omega) (by show _ ≤ (1020 : Int); omega) (lov_X w)
theorem ltv_Y {n : Nat} (hn : 30 < n) (w : Int32) : LTp n w 89 (tvY w) (!decide (tvY w = 0)) 4220 := by
  have b1 := bov_Y w
  obtain ⟨q, hq⟩ := muv_s (Or.inr (Or.inr (Or.inr rfl))) (lov_Y w)
  refine ⟨tk_Y hn w, ?_, (pl_Y n _).trans (congrArg (fun z => some (z, ())) (pc_Y w))⟩
  have p1 : (2 : Int) ^ 9 = 512 := by decide
  rw [p1] at b1
  refine (fit_Y n _).trans ?_
  rw [fz_t (lo := (-512)) (hi := 496) (k := 16) (v := tvY w) (by show (-512 : Int) ≤ _; omega) (by show _ ≤ (496 : Int); omega) (lov_Y w), Bool.true_and]

/-- every letter at once -/
def tvA (c : Nat) (w : Int32) : Int32 := if c = 100 then fpt w 7 5 else if c = 110 then fpt w 7 5 else if c = 109 then fpt w 7 5 else if c = 97 then fpt w 15 5 else if c = 98 then fpt w 20 5 else if c = 115 then fpt w 2 5 else if c = 122 then fpt w 2 5 else if c = 112 then nI 8 + fpt w 2 3 else if c = 113 then nI 8 + fpt w 7 3 else if c = 72 then tvH w else if c = 73 then tvI w else if c = 74 then tvJ w else if c = 75 then tvK w else if c = 76 then tvL w else if c = 77 then tvM w else if c = 78 then tvN w else if c = 80 then tvP w else if c = 81 then tvQ w else if c = 83 then tvS w else if c = 84 then tvT w else if c = 85 then tvU w else if c = 86 then tvV w else if c = 87 then tvW w else if c = 88 then tvX w else if c = 89 then tvY w else 0
def fbA (c : Nat) (w : Int32) : Bool := if c = 100 then true else if c = 110 then !decide (fpt w 7 5 = 0) else if c = 109 then !decide (fpt w 7 5 = nI 2) else if c = 97 then true else if c = 98 then true else if c = 115 then true else if c = 122 then !decide (fpt w 2 5 = 0) else if c = 112 then true else if c = 113 then true else if c = 72 then true else if c = 73 then true else if c = 74 then true else if c = 75 then true else if c = 76 then true else if c = 77 then !decide (tvM w = 0) else if c = 78 then true else if c = 80 then true else if c = 81 then true else if c = 83 then true else if c = 84 then true else if c = 85 then true else if c = 86 then true else if c = 87 then true else if c = 88 then !decide (tvX w = 0) else if c = 89 then !decide (tvY w = 0) else true
def mkN (c : Nat) : Nat := if c = 100 then 3968 else if c = 110 then 3968 else if c = 109 then 3968 else if c = 97 then 1015808 else if c = 98 then 32505856 else if c = 115 then 124 else if c = 122 then 124 else if c = 112 then 28 else if c = 113 then 896 else if c = 72 then 32505856 else if c = 73 then 4293918720 else if c = 74 then 4294963200 else if c = 75 then 8188 else if c = 76 then 7292 else if c = 77 then 4220 else if c = 78 then 4220 else if c = 80 then 4220 else if c = 81 then 8064 else if c = 83 then 4261416832 else if c = 84 then 4261416832 else if c = 85 then 4294963200 else if c = 86 then 124 else if c = 87 then 7264 else if c = 88 then 8160 else if c = 89 then 4220 else 0
def ltrs : List Nat := [100, 110, 109, 97, 98, 115, 122, 112, 113, 72, 73, 74, 75, 76, 77, 78, 80, 81, 83, 84, 85, 86, 87, 88, 89]
theorem LT_all {n : Nat} (hn : 30 < n) (w : Int32) {c : Nat} (hc : c ∈ ltrs) : LTp n w c (tvA c w) (fbA c w) (mkN c) := by
  simp only [ltrs, List.mem_cons, List.not_mem_nil, or_false] at hc
  rcases hc with rfl | rfl | rfl | rfl | rfl | rfl | rfl | rfl | rfl | rfl | rfl | rfl | rfl | rfl | rfl | rfl | rfl | rfl | rfl | rfl | rfl | rfl | rfl | rfl | rfl
  · exact ltv_d n w
  · exact ltv_n n w
  · exact ltv_m n w
  · exact ltv_a n w
  · exact ltv_b n w
  · exact ltv_s n w
  · exact ltv_z n w
  · exact ltv_p n w
  · exact ltv_q n w
  · exact ltv_H (n := n) hn w
  · exact ltv_I (n := n) hn w
  · exact ltv_J (n := n) hn w
  · exact ltv_K (n := n) hn w
  · exact ltv_L (n := n) hn w
  · exact ltv_M (n := n) hn w
  · exact ltv_N (n := n) hn w
  · exact ltv_P (n := n) hn w
  · exact ltv_Q (n := n) hn w
  · exact ltv_S (n := n) hn w
  · exact ltv_T (n := n) hn w
  · exact ltv_U (n := n) hn w
  · exact ltv_V (n := n) hn w
  · exact ltv_W (n := n) hn w
  · exact ltv_X (n := n) hn w
  · exact ltv_Y (n := n) hn w
def mkB (w : Int32) : List Nat → Bool
  | [] => true
  | c :: r => (decide (c < 65) || fbA c w) && mkB w r
def mkO (w : Int32) : Int32 → List Nat → Int32
  | m, [] => m
  | m, c :: r => mkO w (if c < 65 then m else m ||| (w &&& nI (mkN c))) r
theorem mm_1 {n x0 : Nat} {w : Int32} (hn : 30 < n) (hx : x0 < 128) : ∀ (F : List Nat) (k g : Nat) (made : Int32), (∀ j : Nat, j < F.length → (strL (ko_f x0)).getD (k + j) 0 = F.getD j 0) → k + F.length = ks_n (ko_f x0) → F.length < g → (∀ c ∈ F, c < 65 ∨ c ∈ ltrs) → df_X7_makes_67 n g x0 w made (nI k) () = some (bI (mkB w F && decide (mkO w made F = w)), ()) := fun F => by
  have z1 : ∀ b : Bool, nd_z .boolean (bI b) (some (bI b, ())) = some (bI b, ()) := fun b => by cases b <;> exact nar_z (by decide)
  have fo1 : ks_n (ko_f x0) ≤ 8 := (fo_l ⟨x0, hx⟩).1
  have fo2 : ko_f x0 < 190 := (fo_l ⟨x0, hx⟩).2
  induction F with
  | nil =>
    intro k g made _ hk hg _
    have hk : k = ks_n (ko_f x0) := hk
    obtain ⟨g, rfl⟩ : ∃ k : Nat, g = k + 1 := ⟨g - 1, by omega⟩
    show dF_X7_makes_67 n (df_X7_makes_67 n g) x0 w made (nI k) () = some (bI (true && decide (made = w)), ())
    unfold dF_X7_makes_67
    rw [nb_lt hx, nb_lt fo2, ln_1 n _ fo2, nb_b2, if_pos (by rw [hk]; exact Int32.le_refl _), Bool.true_and]
    unfold df_X7_makes_141
    by_cases c : made = w
    · rw [if_pos c, decide_eq_true c]; exact z1 true
    · rw [if_neg c, decide_eq_false c]; exact z1 false
  | cons c F ih =>
    intro k g made hF hk hg hO
    have hk : k + (F.length + 1) = ks_n (ko_f x0) := hk
    have hg : F.length + 1 < g := hg
    obtain ⟨g, rfl⟩ : ∃ k : Nat, g = k + 1 := ⟨g - 1, by omega⟩
    have hki : k < ks_n (ko_f x0) := by omega
    have hc0 : (strL (ko_f x0)).getD k 0 = c := by
      have := hF 0 (Nat.succ_pos _)
      rw [Nat.add_zero] at this
      rw [this]; rfl
    have hc128 : c < 128 := by rw [← hc0]; exact st_l hki
    have ec : ks_b (ko_f x0) k = nI c := by rw [st_b hki, hc0]
    have nx : ∀ m2 : Int32, df_X7_makes_125 n (df_X7_makes_67 n g) x0 w m2 (nI k) () = some (bI (mkB w F && decide (mkO w m2 F = w)), ()) := fun m2 => by
      unfold df_X7_makes_125
      rw [nb_let, show nI k + Int32.ofInt 1 = nI (k + 1) from nI_add k 1]
      exact ih (k + 1) g m2 (fun j hj => by
        have := hF (j + 1) (Nat.succ_lt_succ hj)
        rw [show k + 1 + j = k + (j + 1) by omega, this]; rfl) (by omega) (by omega) (fun c' hc' => hO c' (List.mem_cons_of_mem _ hc'))
    show dF_X7_makes_67 n (df_X7_makes_67 n g) x0 w made (nI k) () = some (bI (((decide (c < 65) || fbA c w) && mkB w F) && decide (mkO w (if c < 65 then made else made ||| (w &&& nI (mkN c))) F = w)), ())
    unfold dF_X7_makes_67
    rw [nb_lt hx, nb_lt fo2, ln_1 n _ fo2, nb_b2, if_neg (show ¬ nI (ks_n (ko_f x0)) ≤ nI k from znle hki (by omega)), nb_lt hx, nb_lt fo2, ch_1 n _ k fo2 hki, nb_b2, ec]
    by_cases c2 : c < 65
    · rw [if_pos (show nI c < 65 from zlt (b := 65) c2 (by decide)), nx, decide_eq_true c2, if_pos c2, Bool.true_or, Bool.true_and]
    · obtain ⟨q0, q1, q2⟩ := LT_all hn w ((hO c (List.mem_cons_self ..)).resolve_left c2)
      rw [if_neg (show ¬ nI c < 65 from znl (b := 65) (by omega) (by omega)), q0, nb_b2, q1, nb_b2, decide_eq_false c2, if_neg c2, Bool.false_or]
      cases hf : fbA c w with
      | false => rw [if_pos (show bI false = 0 by decide), Bool.false_and, Bool.false_and]; rfl
      | true => rw [if_neg (show ¬ bI true = 0 by decide), q2, nb_b2, nb_let, nx, Bool.true_and]
def tmF : List Nat → Nat
  | [] => 0
  | c :: r => (if c < 65 then 0 else mkN c) ||| tmF r
theorem nI_or (a b : Nat) : nI (a ||| b) = nI a ||| nI b := by
  apply gb_ext
  intro i hi
  rw [gb_or, gb_n hi, gb_n hi, gb_n hi, Nat.testBit_or]
theorem mo_1 {w : Int32} : ∀ (F : List Nat) (m : Int32), mkO w m F = m ||| (w &&& nI (tmF F)) := fun F => by
  induction F with
  | nil =>
    intro m
    show m = m ||| (w &&& nI 0)
    apply gb_ext
    intro i hi
    rw [gb_or, gb_and, gb_n hi, Nat.zero_testBit, Bool.and_false, Bool.or_false]
  | cons c r ih =>
    intro m
    show mkO w (if c < 65 then m else m ||| (w &&& nI (mkN c))) r = m ||| (w &&& nI ((if c < 65 then 0 else mkN c) ||| tmF r))
    rw [ih, nI_or]
    apply gb_ext
    intro i hi
    by_cases c2 : c < 65
    · rw [if_pos c2, if_pos c2, gb_or, gb_or, gb_and, gb_and, gb_or, gb_n hi, gb_n hi, Nat.zero_testBit, Bool.false_or]
    · rw [if_neg c2, if_neg c2, gb_or, gb_or, gb_or, gb_and, gb_and, gb_and, gb_or, Bool.and_or_distrib_left, Bool.or_assoc]
theorem mi_f {w B M : Int32} (hB : B &&& M = 0) : (B ||| (w &&& M) = w) ↔ w &&& ~~~M = B := by
  constructor
  · intro h
    apply gb_ext
    intro i hi
    have h1 := congrArg (fun y => gb y i) h
    have h2 := congrArg (fun y => gb y i) hB
    have h1 : gb (B ||| (w &&& M)) i = gb w i := h1
    have h2 : gb (B &&& M) i = gb 0 i := h2
    rw [show (0 : Int32) = nI 0 from rfl, gb_n hi, Nat.zero_testBit, gb_and] at h2
    rw [gb_or, gb_and] at h1
    rw [gb_and, gb_c _ hi, ← h1]
    cases e1 : gb B i <;> cases e2 : gb M i <;> cases e3 : gb w i <;> simp_all
  · intro h
    apply gb_ext
    intro i hi
    have h1 : gb (w &&& ~~~M) i = gb B i := congrArg (fun y => gb y i) h
    rw [gb_and, gb_c _ hi] at h1
    rw [gb_or, gb_and, ← h1]
    cases gb M i <;> cases gb w i <;> rfl
def kmL : List Nat := [4261441663, 4261441663, 4261441663, 4261441663, 4261441663, 4261441663, 4261441663, 4261441663, 4261441663, 4261441663, 4261441663, 4261441663, 4261441663, 4261441663, 4261441663, 4261441663, 4261441663, 4261441663, 28799, 28799, 28799, 28799, 28799, 28799, 4261441663, 4261441663, 4261441663, 28799, 28799, 28799, 28799, 28799, 28799, 28799, 28799, 28799, 127, 127, 28799, 28799, 28799, 28799, 28799, 28799, 127, 4193284223, 4160778367, 4160778367, 4160778367, 4160778367, 4160778367, 4160778367, 4160778367, 4160778367, 4160778367, 4160778367, 4294963327, 4294963327, 4294963327, 4294963327, 4294963327, 4294963327, 4294967295, 4294967295, 4294967295, 4294967295, 4294959107, 4294959107, 4294959107, 4294967295, 4294959107, 4294959107, 4294959107, 4294959107, 4294963075, 4294959107, 4294966275, 4294966275, 4294962179, 4294966371, 4294966371, 4294966371, 4294966371, 4294959107, 4294959107, 4294963203, 4294959107, 4294963327, 4294963203, 4294967295, 4294963327, 4294963203, 4294959107]
def kmT (i : Nat) : Nat := kmL.getD i 0
/-- the bits are those of statement i -/
def MKp (i : Nat) (w : Int32) : Prop := mkB w (strL (ko_f i)) = true ∧ w &&& nI (kmT i) = ko_b i
theorem km_1 : ∀ i : Fin 93, ko_s i.1 &&& 1 = 1 ∧ (let M := tmF (strL (ko_f i.1)) ||| (if (ko_b i.1 &&& 127 : Int32) = 47 then 100663296 else 0); ko_b i.1 &&& nI M = 0 ∧ ~~~(nI M) = nI (kmT i.1)) ∧ (ko_b i.1 &&& nI (kmT i.1) = ko_b i.1) ∧ kmT i.1 % 4 = 3 ∧ ((ko_b i.1 &&& 3 : Int32) = 3 → kmT i.1 % 128 = 127) ∧ (strL (ko_f i.1)).all (fun c => decide (c < 65) || decide (c ∈ ltrs)) = true := by decide +kernel
theorem km_2 : ∀ i : Fin 128, 93 ≤ i.1 → ko_s i.1 &&& 1 = 0 := by decide +kernel
theorem sub_3 {w B : Int32} {N K : Nat} (h : w &&& nI N = B) (hK : N &&& K = K) : w &&& nI K = B &&& nI K := by
  rw [← h]
  apply gb_ext
  intro i hi
  have hk : (N &&& K).testBit i = K.testBit i := by rw [hK]
  rw [Nat.testBit_and] at hk
  rw [gb_and, gb_and, gb_and, gb_n hi, gb_n hi, Bool.and_assoc, hk]
theorem mk_c {n i : Nat} (hn : 30 < n) (hi : i < 93) (w : Int32) : ∃ b : Bool, df_X7_makes n i w () = some (bI b, ()) ∧ (b = true ↔ MKp i w) := by
  obtain ⟨-, ⟨k1, k2⟩, k3, k4, k5, k6⟩ := km_1 ⟨i, hi⟩
  have fo1 : ks_n (ko_f i) ≤ 8 := (fo_l ⟨i, by omega⟩).1
  have hO : ∀ c ∈ strL (ko_f i), c < 65 ∨ c ∈ ltrs := fun c hc => by
    have := List.all_eq_true.mp k6 c hc
    rcases (Bool.or_eq_true _ _).mp this with z | z
    · exact Or.inl (of_decide_eq_true z)
    · exact Or.inr (of_decide_eq_true z)
  have run : ∀ m : Int32, df_X7_makes_64 n i w m () = some (bI (mkB w (strL (ko_f i)) && decide (mkO w m (strL (ko_f i)) = w)), ()) := fun m => mm_1 hn (by omega) (strL (ko_f i)) 0 n m (fun j _ => by rw [Nat.zero_add]) (by rw [Nat.zero_add, st_n]) (by rw [st_n]; omega) hO
  have r35 : df_X7_makes_35 n i w () = some (bI (mkB w (strL (ko_f i)) && decide (w &&& nI (kmT i) = ko_b i)), ()) := by
    have e0 : ∀ m : Int32, m = ko_b i ||| (w &&& nI (if (ko_b i &&& 127 : Int32) = 47 then 100663296 else 0)) → decide (mkO w m (strL (ko_f i)) = w) = decide (w &&& nI (kmT i) = ko_b i) := fun m hm => by
      refine decide_eq_decide.mpr ?_
      rw [mo_1, hm, ← k2, ← mi_f k1, nI_or]
      have e : (ko_b i ||| (w &&& nI (if (ko_b i &&& 127 : Int32) = 47 then 100663296 else 0))) ||| (w &&& nI (tmF (strL (ko_f i)))) = ko_b i ||| (w &&& (nI (tmF (strL (ko_f i))) ||| nI (if (ko_b i &&& 127 : Int32) = 47 then 100663296 else 0))) := by
        apply gb_ext
        intro j hj
        rw [gb_or, gb_or, gb_or, gb_and, gb_and, gb_and, gb_or, Bool.and_or_distrib_left, Bool.or_assoc, Bool.or_comm (gb w j && gb (nI (if (ko_b i &&& 127 : Int32) = 47 then 100663296 else 0)) j)]
      rw [e]
    unfold df_X7_makes_35
    rw [nb_lt (show i < 128 by omega)]
    by_cases hA : (ko_b i &&& 127 : Int32) = 47
    · rw [if_pos hA, nb_lt (show i < 128 by omega), run, e0 _ (by rw [if_pos hA]; rfl)]
    · rw [if_neg hA, nb_lt (show i < 128 by omega), run, e0 _ (by
        rw [if_neg hA]
        apply gb_ext
        intro j hj
        rw [gb_or, gb_and, gb_n hj, Nat.zero_testBit, Bool.and_false, Bool.or_false])]
  have no : ∀ b : Bool, (b = true ↔ MKp i w) → ∃ b2 : Bool, some (bI b, ()) = some (bI b2, ()) ∧ (b2 = true ↔ MKp i w) := fun b h => ⟨b, rfl, h⟩
  have yes : ∃ b : Bool, some (bI (mkB w (strL (ko_f i)) && decide (w &&& nI (kmT i) = ko_b i)), ()) = some (bI b, ()) ∧ (b = true ↔ MKp i w) := by
    refine no _ ?_
    rw [Bool.and_eq_true, decide_eq_true_eq]
    exact Iff.rfl
  have and4 : ∀ N : Nat, N % 4 = 3 → N &&& 3 = 3 := fun N h => by rw [show (3 : Nat) = 2 ^ 2 - 1 from rfl, Nat.and_two_pow_sub_one_eq_mod]; exact h
  have and128 : ∀ N : Nat, N % 128 = 127 → N &&& 127 = 127 := fun N h => by rw [show (127 : Nat) = 2 ^ 7 - 1 from rfl, Nat.and_two_pow_sub_one_eq_mod]; exact h
  unfold df_X7_makes df_X7_makes_0 df_X7_makes_33
  rw [nb_lt (show i < 128 by omega)]
  by_cases h3 : (w &&& 3 : Int32) = ko_b i &&& 3
  · rw [if_pos h3]
    by_cases h4 : (w &&& 3 : Int32) = 3
    · rw [if_pos h4, nb_lt (show i < 128 by omega)]
      by_cases h5 : (w &&& 127 : Int32) = ko_b i &&& 127
      · rw [if_pos h5, r35]; exact yes
      · rw [if_neg h5]
        refine no false ⟨fun z => absurd z (by decide), fun z => absurd ?_ h5⟩
        exact sub_3 z.2 (and128 _ (k5 (h3.symm.trans h4)))
    · rw [if_neg h4, r35]; exact yes
  · rw [if_neg h3]
    refine no false ⟨fun z => absurd z (by decide), fun z => absurd ?_ h3⟩
    exact sub_3 z.2 (and4 _ k4)
theorem spl_s {n g k : Nat} {w : Int32} {τ : Sb} (hn : 30 < n) (hk : k < 128) (h : k < 93 → ¬ MKp k w) : df_X7_spell_2 n (g + 1) w (nI k) τ = df_X7_spell_2 n g w (nI (k + 1)) τ := by
  show dF_X7_spell_2 n (df_X7_spell_2 n g) w (nI k) τ = _
  have e46 : df_X7_spell_46 n (df_X7_spell_2 n g) w (nI k) τ = df_X7_spell_2 n g w (nI (k + 1)) τ := by
    unfold df_X7_spell_46
    rw [nb_let, show nI k + Int32.ofInt 1 = nI (k + 1) from nI_add k 1]
  unfold dF_X7_spell_2
  rw [if_neg (show ¬ (128 : Int32) ≤ nI k from znle (a := 128) hk (by decide)), nm_ck hk (by omega), nI_clamp (by omega), nb_lt hk, e46]
  by_cases c : k < 93
  · obtain ⟨b, m1, m2⟩ := mk_c hn c w
    have s1 : ko_s k &&& 1 = 1 := (km_1 ⟨k, c⟩).1
    rw [s1, if_neg (show ¬ (1 : Int32) = 0 by decide), nm_ck hk (by omega), nb_lt hk, m1, nb_b2]
    cases b with
    | true => exact absurd (m2.mp rfl) (h c)
    | false => rw [if_pos (show bI false = 0 by decide)]
  · rw [km_2 ⟨k, hk⟩ (by show 93 ≤ k; omega), if_pos rfl]
theorem sp_y {n i : Nat} {w : Int32} {τ : Sb} (hn : 30 < n) (hi : i < 93) (hm : MKp i w) : ∀ j k g : Nat, k + j = i → j < g → (∀ t : Nat, k ≤ t → t < i → ¬ MKp t w) → df_X7_spell_2 n g w (nI k) τ = nd_b1 (df_X7_write n i w τ) (fun s27 => some s27) := fun j => by
  induction j with
  | zero =>
    intro k g hk hg _
    obtain ⟨g, rfl⟩ : ∃ k : Nat, g = k + 1 := ⟨g - 1, by omega⟩
    obtain rfl : k = i := hk
    obtain ⟨b, m1, m2⟩ := mk_c hn hi w
    have s1 : ko_s k &&& 1 = 1 := (km_1 ⟨k, hi⟩).1
    obtain rfl : b = true := m2.mpr hm
    show dF_X7_spell_2 n (df_X7_spell_2 n g) w (nI k) τ = _
    unfold dF_X7_spell_2
    rw [if_neg (show ¬ (128 : Int32) ≤ nI k from znle (a := 128) (by omega) (by decide)), nm_ck (show k < 128 by omega) (by omega), nI_clamp (by omega), nb_lt (show k < 128 by omega), s1, if_neg (show ¬ (1 : Int32) = 0 by decide), nm_ck (show k < 128 by omega) (by omega), nb_lt (show k < 128 by omega), m1, nb_b2, if_neg (show ¬ bI true = 0 by decide), nm_ck (show k < 128 by omega) (by omega), nb_lt (show k < 128 by omega)]
  | succ j ih =>
    intro k g hk hg h
    obtain ⟨g, rfl⟩ : ∃ k : Nat, g = k + 1 := ⟨g - 1, by omega⟩
    rw [spl_s hn (by omega) (fun _ => h k (Nat.le_refl _) (by omega))]
    exact ih (k + 1) g (by omega) (by omega) (fun t h1 h2 => h t (by omega) h2)
theorem sp_n {n : Nat} {w : Int32} {τ : Sb} (hn : 30 < n) (h : ∀ t : Nat, t < 93 → ¬ MKp t w) : ∀ j k g : Nat, k + j = 128 → j < g → df_X7_spell_2 n g w (nI k) τ = df_X7_spell_69 n w (if (w &&& 3 : Int32) = 3 then 15 else 16) τ := fun j => by
  induction j with
  | zero =>
    intro k g hk hg
    obtain ⟨g, rfl⟩ : ∃ k : Nat, g = k + 1 := ⟨g - 1, by omega⟩
    obtain rfl : k = 128 := hk
    show dF_X7_spell_2 n (df_X7_spell_2 n g) w (nI 128) τ = _
    unfold dF_X7_spell_2
    rw [if_pos (show (128 : Int32) ≤ nI 128 by decide)]
    by_cases c : (w &&& 3 : Int32) = 3
    · rw [if_pos c, if_pos c]
    · rw [if_neg c, if_neg c]
  | succ j ih =>
    intro k g hk hg
    obtain ⟨g, rfl⟩ : ∃ k : Nat, g = k + 1 := ⟨g - 1, by omega⟩
    rw [spl_s hn (by omega) (fun hk => h k hk)]
    exact ih (k + 1) g (by omega) (by omega)
theorem ok_v {n : Nat} (hn : 30 < n) (w : Int32) {c : Nat} (hc : c < 65 ∨ c ∈ ltrs) : OKv n w c (tvA c w) := by
  by_cases c2 : c < 65
  · exact ⟨by omega, fun z => absurd z (by omega)⟩
  · have hm := hc.resolve_left c2
    have q0 := (LT_all hn w hm).1
    have rr : ∀ k : Nat, k < 32 → ∃ r : Nat, r < 32 ∧ fpt w k 5 = nI r := fun k hk => pt_n (m := 5) hk (by decide)
    have rq : ∀ k : Nat, k < 32 → ∃ r : Nat, r < 32 ∧ nI 8 + fpt w k 3 = nI r := fun k hk => by
      obtain ⟨x, hx, e⟩ := pt_n (w := w) (k := k) (m := 3) hk (by decide)
      have hx : x < 8 := hx
      exact ⟨8 + x, by omega, by rw [e, nI_add]⟩
    simp only [ltrs, List.mem_cons, List.not_mem_nil, or_false] at hm
    rcases hm with rfl | rfl | rfl | rfl | rfl | rfl | rfl | rfl | rfl | rfl | rfl | rfl | rfl | rfl | rfl | rfl | rfl | rfl | rfl | rfl | rfl | rfl | rfl | rfl | rfl
    · exact ⟨by decide, fun _ => ⟨q0, fun _ => rr 7 (by decide), fun z => absurd z (by decide)⟩⟩
    · exact ⟨by decide, fun _ => ⟨q0, fun _ => rr 7 (by decide), fun z => absurd z (by decide)⟩⟩
    · exact ⟨by decide, fun _ => ⟨q0, fun _ => rr 7 (by decide), fun z => absurd z (by decide)⟩⟩
    · exact ⟨by decide, fun _ => ⟨q0, fun _ => rr 15 (by decide), fun z => absurd z (by decide)⟩⟩
    · exact ⟨by decide, fun _ => ⟨q0, fun _ => rr 20 (by decide), fun z => absurd z (by decide)⟩⟩
    · exact ⟨by decide, fun _ => ⟨q0, fun _ => rr 2 (by decide), fun z => absurd z (by decide)⟩⟩
    · exact ⟨by decide, fun _ => ⟨q0, fun _ => rr 2 (by decide), fun z => absurd z (by decide)⟩⟩
    · exact ⟨by decide, fun _ => ⟨q0, fun _ => rq 2 (by decide), fun z => absurd z (by decide)⟩⟩
    · exact ⟨by decide, fun _ => ⟨q0, fun _ => rq 7 (by decide), fun z => absurd z (by decide)⟩⟩
    · exact ⟨by decide, fun _ => ⟨q0, fun z => absurd z (by decide), fun _ => nmv_H w⟩⟩
    · exact ⟨by decide, fun _ => ⟨q0, fun z => absurd z (by decide), fun _ => nmv_I w⟩⟩
    · exact ⟨by decide, fun _ => ⟨q0, fun z => absurd z (by decide), fun _ => nmv_J w⟩⟩
    · exact ⟨by decide, fun _ => ⟨q0, fun z => absurd z (by decide), fun _ => nmv_K w⟩⟩
    · exact ⟨by decide, fun _ => ⟨q0, fun z => absurd z (by decide), fun _ => nmv_L w⟩⟩
    · exact ⟨by decide, fun _ => ⟨q0, fun z => absurd z (by decide), fun _ => nmv_M w⟩⟩
    · exact ⟨by decide, fun _ => ⟨q0, fun z => absurd z (by decide), fun _ => nmv_N w⟩⟩
    · exact ⟨by decide, fun _ => ⟨q0, fun z => absurd z (by decide), fun _ => nmv_P w⟩⟩
    · exact ⟨by decide, fun _ => ⟨q0, fun z => absurd z (by decide), fun _ => nmv_Q w⟩⟩
    · exact ⟨by decide, fun _ => ⟨q0, fun z => absurd z (by decide), fun _ => nmv_S w⟩⟩
    · exact ⟨by decide, fun _ => ⟨q0, fun z => absurd z (by decide), fun _ => nmv_T w⟩⟩
    · exact ⟨by decide, fun _ => ⟨q0, fun z => absurd z (by decide), fun _ => nmv_U w⟩⟩
    · exact ⟨by decide, fun _ => ⟨q0, fun z => absurd z (by decide), fun _ => nmv_V w⟩⟩
    · exact ⟨by decide, fun _ => ⟨q0, fun z => absurd z (by decide), fun _ => nmv_W w⟩⟩
    · exact ⟨by decide, fun _ => ⟨q0, fun z => absurd z (by decide), fun _ => nmv_X w⟩⟩
    · exact ⟨by decide, fun _ => ⟨q0, fun z => absurd z (by decide), fun _ => nmv_Y w⟩⟩

