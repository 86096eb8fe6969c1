theorem nI_t {k : Nat} (h : k < 2 ^ 32) : (nI k).toInt = if k < 2 ^ 31 then (k : Int) else (k : Int) - 2 ^ 32 := by
  show (nI k).toBitVec.toInt = _
  rw [BitVec.toInt_eq_toNat_cond, pk_tn h]
  by_cases c : k < 2 ^ 31
  · rw [if_pos c, if_pos (by omega)]
  · rw [if_neg c, if_neg (by omega)]
    rfl
theorem nI_mod (k : Nat) : nI (k + 4294967296) = nI k := by
  apply Int32.toBitVec_inj.mp
  show BitVec.ofNat 32 (k + 4294967296) = BitVec.ofNat 32 k
  apply BitVec.eq_of_toNat_eq
  rw [BitVec.toNat_ofNat, BitVec.toNat_ofNat]
  omega
theorem nm_mini {A : Nat} (h : A < 2 ^ 32) : (nI A + -nI 2147483648).toInt = (A : Int) - 2147483648 := by
  rw [show (-nI 2147483648 : Int32) = nI 2147483648 from by decide, nI_add]
  by_cases c : A < 2 ^ 31
  · rw [nI_t (by omega), if_neg (by omega)]
    omega
  · rw [show A + 2147483648 = (A - 2147483648) + 4294967296 from by omega, nI_mod, nI_t (by omega), if_pos (by omega)]
    omega
theorem nm_cu (n : Nat) {A B : Nat} (hA : A < 2 ^ 32) (hB : B < 2 ^ 32) : df_J6_compareUnsigned_7cf53 n (nI A) (nI B) () = some (if A < B then -nI 1 else if A = B then nI 0 else nI 1, ()) := by
  have a1 := nm_mini hA
  have b1 := nm_mini hB
  have hle : (nI B + -nI 2147483648 ≤ nI A + -nI 2147483648) ↔ ¬ A < B := by
    rw [Int32.le_iff_toInt_le]
    omega
  have heq : (nI A + -nI 2147483648 = nI B + -nI 2147483648) ↔ A = B := ⟨fun z => by have := congrArg Int32.toInt z; omega, fun z => by rw [z]⟩
  by_cases c : A < B
  · simp (disch := omega) only [df_J6_compareUnsigned_7cf53_0, df_J6_compareUnsigned_7cf53, df_J6_compare_7cf53_19, df_J6_compare_7cf53_0, df_J6_compare_7cf53, hle, heq, nl_0, nl_1, nl_2147483648, no_1, no_1024, pk_mul, nI_add, nm_ck, nI_clamp, nI_ltI, nI_leI, nI_eq, nb_b2, nb_b1, nb_let, nm_z0, nm_z1, nb_II, nb_IR, nb_RI, nb_RR, nm_IL, nm_IQ, nm_RL, nm_RQ, nm_LI, nm_LR, nm_LL, nm_LQ, nm_QI, nm_QR, nm_QL, nm_QQ, nm_rr, nm_ii, nm_eqm, not_false_eq_true, pk_sub, nm_div, nm_shl, nm_shr, nm_ush, nm_or8, nm_or64, nm_or256, nm_m1, nm_m3, nm_m7, nm_m15, nm_m31, nm_m63, nm_m255, nm_m511, nm_m1023, nm_m2047, nm_m65535, Nat.reduceMod, Nat.reducePow, Nat.reduceAdd, Nat.reduceSub, Nat.reduceMul, nm_bo, nm_bi, nm_rc, nm_ic, nm_ri, nm_rl, nm_rq, nm_ql, nm_qi, nm_li, nm_us, nm_uu, nm_cp, nm_sa31, nm_sa7, nm_m127, nm_m2, nm_nz, nm_nzk, nm_eq32, nm_nzf, if_true, if_false, ↓reduceIte, if_pos, if_neg]
  · by_cases d : A = B
    · simp (disch := omega) only [df_J6_compareUnsigned_7cf53_0, df_J6_compareUnsigned_7cf53, df_J6_compare_7cf53_19, df_J6_compare_7cf53_0, df_J6_compare_7cf53, hle, heq, nl_0, nl_1, nl_2147483648, no_1, no_1024, pk_mul, nI_add, nm_ck, nI_clamp, nI_ltI, nI_leI, nI_eq, nb_b2, nb_b1, nb_let, nm_z0, nm_z1, nb_II, nb_IR, nb_RI, nb_RR, nm_IL, nm_IQ, nm_RL, nm_RQ, nm_LI, nm_LR, nm_LL, nm_LQ, nm_QI, nm_QR, nm_QL, nm_QQ, nm_rr, nm_ii, nm_eqm, not_false_eq_true, pk_sub, nm_div, nm_shl, nm_shr, nm_ush, nm_or8, nm_or64, nm_or256, nm_m1, nm_m3, nm_m7, nm_m15, nm_m31, nm_m63, nm_m255, nm_m511, nm_m1023, nm_m2047, nm_m65535, Nat.reduceMod, Nat.reducePow, Nat.reduceAdd, Nat.reduceSub, Nat.reduceMul, nm_bo, nm_bi, nm_rc, nm_ic, nm_ri, nm_rl, nm_rq, nm_ql, nm_qi, nm_li, nm_us, nm_uu, nm_cp, nm_sa31, nm_sa7, nm_m127, nm_m2, nm_nz, nm_nzk, nm_eq32, nm_nzf, if_true, if_false, ↓reduceIte, if_pos, if_neg]
    · simp (disch := omega) only [df_J6_compareUnsigned_7cf53_0, df_J6_compareUnsigned_7cf53, df_J6_compare_7cf53_19, df_J6_compare_7cf53_0, df_J6_compare_7cf53, hle, heq, nl_0, nl_1, nl_2147483648, no_1, no_1024, pk_mul, nI_add, nm_ck, nI_clamp, nI_ltI, nI_leI, nI_eq, nb_b2, nb_b1, nb_let, nm_z0, nm_z1, nb_II, nb_IR, nb_RI, nb_RR, nm_IL, nm_IQ, nm_RL, nm_RQ, nm_LI, nm_LR, nm_LL, nm_LQ, nm_QI, nm_QR, nm_QL, nm_QQ, nm_rr, nm_ii, nm_eqm, not_false_eq_true, pk_sub, nm_div, nm_shl, nm_shr, nm_ush, nm_or8, nm_or64, nm_or256, nm_m1, nm_m3, nm_m7, nm_m15, nm_m31, nm_m63, nm_m255, nm_m511, nm_m1023, nm_m2047, nm_m65535, Nat.reduceMod, Nat.reducePow, Nat.reduceAdd, Nat.reduceSub, Nat.reduceMul, nm_bo, nm_bi, nm_rc, nm_ic, nm_ri, nm_rl, nm_rq, nm_ql, nm_qi, nm_li, nm_us, nm_uu, nm_cp, nm_sa31, nm_sa7, nm_m127, nm_m2, nm_nz, nm_nzk, nm_eq32, nm_nzf, if_true, if_false, ↓reduceIte, if_pos, if_neg]
theorem nm_pl {A : Nat} (h : A < 2 ^ 32) : (nI A).toInt64 &&& 4294967295 = Int64.ofNat A := by
  apply Int64.toBitVec_inj.mp
  apply BitVec.eq_of_getLsbD_eq
  intro i hi
  rw [Int64.toBitVec_and, BitVec.getLsbD_and]
  show (((nI A).toBitVec.signExtend 64).getLsbD i && (BitVec.ofNat 64 (2 ^ 32 - 1)).getLsbD i) = (BitVec.ofNat 64 A).getLsbD i
  rw [BitVec.getLsbD_signExtend, BitVec.getLsbD_ofNat, BitVec.getLsbD_ofNat, decide_eq_true hi, Bool.true_and, Bool.true_and, Bool.true_and, Nat.testBit_two_pow_sub_one]
  by_cases c : i < 32
  · rw [if_pos c, decide_eq_true c, Bool.and_true]
    show (BitVec.ofNat 32 A).getLsbD i = _
    rw [BitVec.getLsbD_ofNat, decide_eq_true c, Bool.true_and]
  · rw [decide_eq_false c, Bool.and_false, Nat.testBit_lt_two_pow (Nat.lt_of_lt_of_le h (Nat.pow_le_pow_right (by omega) (by omega)))]
theorem nm_lt {A : Nat} (h : A < 2 ^ 32) : (Int64.ofNat A).toInt = A := by
  rw [Int64.toInt_ofNat_of_lt (by omega)]
theorem nm_lc {A B : Nat} (hA : A < 2 ^ 32) (hB : B < 2 ^ 32) : lg_cmp (Int64.ofNat A) (Int64.ofNat B) = if A < B then -nI 1 else if A = B then nI 0 else nI 1 := by
  have a1 := nm_lt hA
  have b1 := nm_lt hB
  unfold lg_cmp
  by_cases c : A < B
  · rw [if_neg (fun z => by have z : Int64.ofNat B < Int64.ofNat A := z; rw [Int64.lt_iff_toInt_lt] at z; omega), if_neg (fun z => by have := congrArg Int64.toInt z; omega), if_pos c]
    rfl
  · rw [if_neg c]
    by_cases d : A = B
    · rw [if_neg (fun z => by have z : Int64.ofNat B < Int64.ofNat A := z; rw [Int64.lt_iff_toInt_lt] at z; omega), if_pos (by rw [d]), if_pos d]
      rfl
    · rw [if_pos (show Int64.ofNat B < Int64.ofNat A by rw [Int64.lt_iff_toInt_lt]; omega), if_neg d]
      rfl
theorem nm_c3 (A B : Nat) : (nI 0 ≤ (if A < B then -nI 1 else if A = B then nI 0 else nI 1)) ↔ ¬ A < B := by
  by_cases c : A < B
  · rw [if_pos c]; exact ⟨fun z => absurd z (by decide), fun z => absurd c z⟩
  · rw [if_neg c]
    by_cases d : A = B
    · rw [if_pos d]; exact ⟨fun _ => c, fun _ => by decide⟩
    · rw [if_neg d]; exact ⟨fun _ => c, fun _ => by decide⟩
theorem nm_c4 (A B : Nat) : ((if A < B then -nI 1 else if A = B then nI 0 else nI 1) ≤ nI 0) ↔ ¬ B < A := by
  by_cases c : A < B
  · rw [if_pos c]; exact ⟨fun _ => by omega, fun _ => by decide⟩
  · rw [if_neg c]
    by_cases d : A = B
    · rw [if_pos d]; exact ⟨fun _ => by omega, fun _ => by decide⟩
    · rw [if_neg d]; exact ⟨fun z => absurd z (by decide), fun z => absurd (show B < A by omega) z⟩
/-- the quotient of two ints, made of longs -/
theorem nm_q32 (a b : Int32) : (a.toInt64 / b.toInt64).toInt32 = a / b := by
  apply Int32.toInt_inj.mp
  rw [Int64.toInt_toInt32, Int64.toInt_div, Int32.toInt_toInt64, Int32.toInt_toInt64, Int32.toInt_div, Int.bmod_bmod_of_dvd (by decide)]
theorem nm_r32 (a b : Int32) : (a.toInt64 - a.toInt64 / b.toInt64 * b.toInt64).toInt32 = a - a / b * b := by
  rw [Int64.toInt32_sub, Int64.toInt32_mul, nm_q32, Int32.toInt32_toInt64, Int32.toInt32_toInt64]
theorem nm_z64 {b : Int32} (h : ¬ b = nI 0) : ¬ b.toInt64 = 0 := fun z => h (by
  have := congrArg Int64.toInt32 z
  rw [Int32.toInt32_toInt64] at this
  exact this)
theorem nI_ng {A B : Nat} (h : A + B = 4294967296) (hB : 0 < B) : nI A = -nI B := by
  apply Int32.toBitVec_inj.mp
  rw [Int32.toBitVec_neg]
  apply BitVec.eq_of_toNat_eq
  rw [BitVec.toNat_neg, pk_tn (show A < 2 ^ 32 by omega)]
  show A = (2 ^ 32 - B % 2 ^ 32) % 2 ^ 32
  by_cases c : A = 0 <;> omega
theorem nm_rem {A k : Nat} (hA : A < 2 ^ 32) (hk : k = 1 ∨ k = 2 ∨ k = 4) : (nI A - nI A / nI k * nI k = nI 0) ↔ A % k = 0 := by
  have k0 : 0 < k := by omega
  have dm : A / k * k = A - A % k := by
    have := Nat.div_add_mod A k
    rw [Nat.mul_comm] at this
    omega
  by_cases c : A < 2 ^ 31
  · have lm := Nat.mod_lt A k0
    have le := Nat.mod_le A k
    rw [nm_div c k0 (by omega), pk_mul, pk_sub (by omega), dm, nI_eq (by omega) (by omega)]
    omega
  · have hab : A + (4294967296 - A) = 4294967296 := by omega
    generalize hB : 4294967296 - A = B at hab
    have hB0 : 0 < B := by omega
    have dB : B / k * k = B - B % k := by
      have := Nat.div_add_mod B k
      rw [Nat.mul_comm] at this
      omega
    have lB := Nat.div_le_self B k
    have q : nI A / nI k = -nI (B / k) := by
      apply Int32.toInt_inj.mp
      rw [Int32.toInt_div, nI_t hA, if_neg c, nI_t (show k < 2 ^ 32 by omega), if_pos (by omega), show (A : Int) - 2 ^ 32 = -(B : Int) from by omega, Int.neg_tdiv, ← Int.ofNat_tdiv, Int32.toInt_neg, nI_t (show B / k < 2 ^ 32 by omega)]
      by_cases e : B / k < 2 ^ 31
      · rw [if_pos e]
      · rw [if_neg e, show B / k = 2147483648 from by omega]
        decide
    rw [q, nI_ng hab hB0, Int32.neg_mul, pk_mul, dB]
    have lm := Nat.mod_lt B k0
    have le := Nat.mod_le B k
    have e : -nI B - -nI (B - B % k) = -nI (B % k) := by
      rw [Int32.sub_neg, Int32.add_comm, ← Int32.sub_eq_add_neg, ← Int32.neg_sub, pk_sub (by omega), show B - (B - B % k) = B % k from by omega]
    rw [e]
    have mm : B % k = 0 ↔ A % k = 0 := by
      rcases hk with e | e | e <;> subst e <;> omega
    constructor
    · intro z
      have z : nI (B % k) = nI 0 := by
        have := congrArg (fun x => -x) z
        rw [Int32.neg_neg] at this
        exact this
      exact mm.mp (nm_inI (by omega) (by omega) z)
    · intro z
      rw [mm.mpr z]
      decide
