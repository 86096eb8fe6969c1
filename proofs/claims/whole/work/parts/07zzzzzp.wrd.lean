/-- words -/
theorem sh8 (a c : Nat) (ha : a < 2 ^ 48) (hc : c < 256) : (Int64.ofNat a <<< ((8 : Int32).toInt64 &&& 63)) ||| (nI c).toInt64 = Int64.ofNat (a * 256 + c) := by
  have e : (8 : Int32).toInt64 &&& 63 = (8 : Int64) := by decide
  rw [e, n64 (by omega)]
  apply Int64.toBitVec_inj.mp
  have s : ((8 : Int64).toBitVec.smod 64) = 8#64 := by decide
  rw [Int64.toBitVec_or, Int64.toBitVec_shiftLeft, s]
  apply BitVec.eq_of_toNat_eq
  have k : a <<< 8 + c = a <<< 8 ||| c := Nat.shiftLeft_add_eq_or_of_lt (by omega) a
  rw [Nat.shiftLeft_eq] at k
  show ((BitVec.ofNat 64 a <<< 8#64) ||| BitVec.ofNat 64 c).toNat = (BitVec.ofNat 64 (a * 256 + c)).toNat
  rw [BitVec.toNat_or, BitVec.shiftLeft_eq', BitVec.toNat_shiftLeft, BitVec.toNat_ofNat, BitVec.toNat_ofNat, BitVec.toNat_ofNat, BitVec.toNat_ofNat, show (8 : Nat) % 2 ^ 64 = 8 from rfl, Nat.mod_eq_of_lt (show a < 2 ^ 64 by omega), Nat.mod_eq_of_lt (show c < 2 ^ 64 by omega), Nat.shiftLeft_eq, Nat.mod_eq_of_lt (show a * 2 ^ 8 < 2 ^ 64 by omega), Nat.mod_eq_of_lt (show a * 256 + c < 2 ^ 64 by omega)]
  exact k.symm
def pkN (z : Nat → Nat) (top : Nat) : Nat → Nat
  | 0 => 0
  | j + 1 => pkN z top j * 256 + z (top - j - 1)
theorem pkN_lt (z : Nat → Nat) (top : Nat) (hz : ∀ i : Nat, z i < 256) : ∀ j : Nat, pkN z top j < 256 ^ j
  | 0 => by show 0 < 1; omega
  | j + 1 => by
    have a := pkN_lt z top hz j
    have b := hz (top - j - 1)
    show pkN z top j * 256 + z (top - j - 1) < 256 ^ (j + 1)
    rw [Nat.pow_succ]
    omega
theorem m1I {a : Nat} (h : 0 < a) (h2 : a < 2 ^ 31) : nI a + Int32.ofInt (-1) = nI (a - 1) := by
  have e : nI a - nI 1 = nI (a - 1) := pk_sub h
  rw [← e, Int32.sub_eq_add_neg]
  rfl
theorem is_G (n q l wv : Nat) (z : Nat → Nat) (hz : ∀ i : Nat, z i < 127) (hl : 1 ≤ l) (hl2 : q + l ≤ 120) (hn : 130 < n) (hw : wv < 2 ^ 62) {B : St} {ap tk st ts op ft : Nat} {tv : Int64} {K P OA : Nat → Int32} {N : Nat → Int64} {X : St × St} (ht : ∀ i : Nat, i < q + l → sR B 0 i = nI (z i)) : df_X15_is n (nI q) (nI (q + l)) (Int64.ofNat wv) (mR B ap tk st ts op ft tv K P OA N, X) = some (if l < 8 ∧ pkN z (q + l) l = wv then nI 1 else nI 0, (mR B ap tk st ts op ft tv K P OA N, X)) := by
  obtain ⟨m, x, ⟨i1, _⟩, e⟩ := nm_l1 (fun g j x => df_X15_is_8 n g (nI q) (nI (q + l)) (Int64.ofNat wv) x (nI (q + l - j) + Int32.ofInt (-1)) (mR B ap tk st ts op ft tv K P OA N, X)) (fun j x => (l < 8 → x = Int64.ofNat (pkN z (q + l) j)) ∧ True) l n (by omega) (fun j m x hj ⟨i1, _⟩ => by
    have e1 : nI (q + l - j) + Int32.ofInt (-1) = nI (q + l - j - 1) := m1I (by omega) (by omega)
    have e2 : nI (q + l - (j + 1)) + Int32.ofInt (-1) = nI (q + l - j - 1) + Int32.ofInt (-1) := by rw [show q + l - (j + 1) = q + l - j - 1 by omega]
    have tx := ht (q + l - j - 1) (by omega)
    have n1 : ¬ q + l - j - 1 < q := by omega
    have hb : q + l - j - 1 < 120 := by omega
    refine ⟨x <<< ((nI 8).toInt64 &&& 63) ||| (nI (z (q + l - j - 1))).toInt64, ⟨fun l8 => ?_, trivial⟩, ?_⟩
    · rw [i1 l8]
      have b := pkN_lt z (q + l) (fun i => by have := hz i; omega) j
      have b2 : (256 : Nat) ^ j ≤ 256 ^ 6 := Nat.pow_le_pow_right (by omega) (by omega)
      exact sh8 _ _ (by have : (256 : Nat) ^ 6 = 2 ^ 48 := by decide
                        omega) (by have := hz (q + l - j - 1); omega)
    · show df_X15_is_8 n (m + 1) (nI q) (nI (q + l)) (Int64.ofNat wv) x (nI (q + l - j) + Int32.ofInt (-1)) (mR B ap tk st ts op ft tv K P OA N, X) = df_X15_is_8 n m (nI q) (nI (q + l)) (Int64.ofNat wv) (x <<< ((nI 8).toInt64 &&& 63) ||| (nI (z (q + l - j - 1))).toInt64) (nI (q + l - (j + 1)) + Int32.ofInt (-1)) (mR B ap tk st ts op ft tv K P OA N, X)
      rw [e2, e1]
      generalize q + l - j - 1 = y at tx n1 hb
      show dF_X15_is_8 n (df_X15_is_8 n m) _ _ _ _ _ _ = _
      unfold dF_X15_is_8
      simp (disch := (first | assumption | decide | omega)) only [mR_i1, mR_i2, mR_i3, mR_i4, mR_i5, mR_i6, mR_l, mR_r5, mR_r6, mR_r7, mR_q, mR_o, mR_i0, mR_r0, mR_wi1, mR_wi2, mR_wi3, mR_wi4, mR_wi5, mR_wi6, mR_wl, mR_wr5, mR_wr6, mR_wr7, mR_wq, tx, n1, eq_self, Nat.reduceEqDiff, Nat.reduceLeDiff, nl_8, no_1, no_1024, pk_mul, nI_add, nm_ck, nI_clamp, nI_ltI, nI_leI, nI_eq, nb_b2, nb_b1, ↓nb_let, nm_z0, nm_z1, nb_II, nb_IR, nb_RI, nb_RR, nm_IL, nm_IQ, nm_RL, nm_RQ, nm_LI, nm_LR, nm_LL, nm_LQ, nm_QI, nm_QR, nm_QL, nm_QQ, nm_rr, nm_ii, nm_eqm, not_false_eq_true, pk_sub, nm_div, nm_shl, nm_shr, nm_ush, nm_or8, nm_or64, nm_or256, nm_m1, nm_m3, nm_m7, nm_m15, nm_m31, nm_m63, nm_m255, nm_m511, nm_m1023, nm_m2047, nm_m65535, Nat.reduceMod, Nat.reducePow, Nat.reduceAdd, Nat.reduceSub, Nat.reduceMul, nm_bo, nm_bi, nm_rc, nm_ic, nm_ri, nm_rl, nm_rq, nm_ql, nm_qi, nm_li, nm_us, nm_uu, nm_cp, nm_sa31, nm_sa7, nm_m127, nm_m2, nm_nz, nm_nzk, nm_eq32, nm_nzf, if_true, if_false, ↓reduceIte, if_pos, if_neg]) 0 ⟨fun _ => rfl, trivial⟩
  have e0 : df_X15_is n (nI q) (nI (q + l)) (Int64.ofNat wv) (mR B ap tk st ts op ft tv K P OA N, X) = df_X15_is_8 n n (nI q) (nI (q + l)) (Int64.ofNat wv) 0 (nI (q + l - 0) + Int32.ofInt (-1)) (mR B ap tk st ts op ft tv K P OA N, X) := by
    have e1 : nI (q + l - 0) + Int32.ofInt (-1) = nI (q + l) - 1 := by
      rw [Int32.sub_eq_add_neg]
      rfl
    rw [e1]
    rfl
  rw [e0]
  refine Eq.trans e ?_
  show df_X15_is_8 n (m + 1) (nI q) (nI (q + l)) (Int64.ofNat wv) x (nI (q + l - l) + Int32.ofInt (-1)) (mR B ap tk st ts op ft tv K P OA N, X) = _
  have lt : nI (q + l - l) + Int32.ofInt (-1) < nI q := by
    rw [Nat.add_sub_cancel, Int32.lt_iff_toInt_lt, Int32.toInt_add, nI_toInt (by omega), show (Int32.ofInt (-1)).toInt = -1 from by decide]
    rw [Int.bmod_eq_of_le (by omega) (by omega)]
    omega
  have w1 : nI (q + l) - nI q = nI l := by rw [pk_sub (by omega)]; congr 1; omega
  show dF_X15_is_8 n (df_X15_is_8 n m) _ _ _ _ _ _ = _
  unfold dF_X15_is_8 df_X15_is_55 df_X15_is_56
  rw [if_pos lt, w1]
  by_cases l8 : l < 8
  · rw [if_neg (show ¬ (8 : Int32) ≤ nI l from fun y => by have y : nI 8 ≤ nI l := y; rw [nI_leI (by omega) (by omega)] at y; omega), i1 l8]
    have b := pkN_lt z (q + l) (fun i => by have := hz i; omega) l
    have b2 : (256 : Nat) ^ l ≤ 256 ^ 7 := Nat.pow_le_pow_right (by omega) (by omega)
    have b3 : (256 : Nat) ^ 7 < 2 ^ 62 := by decide
    by_cases y : pkN z (q + l) l = wv
    · rw [y, if_pos ((lcE _ _).mpr rfl), if_pos ⟨l8, rfl⟩]
      exact nm_z1
    · rw [if_neg (fun v => y (by
        have v := congrArg Int64.toInt ((lcE _ _).mp v)
        rw [Int64.toInt_ofNat_of_lt (by omega), Int64.toInt_ofNat_of_lt (by omega)] at v
        omega)), if_neg (fun v => y v.2)]
      exact nm_z0
  · rw [if_pos (show (8 : Int32) ≤ nI l from (show nI 8 ≤ nI l from (nI_leI (by omega) (by omega)).mpr (by omega))), if_neg (fun v => l8 v.1)]
    exact nm_z0
theorem pk_21 {q l : Nat} {z : Nat → Nat} (hl : 1 ≤ l) (hz : ∀ i : Nat, i < q + l → 32 ≤ z i ∧ z i ≤ 126) : (l < 8 ∧ pkN z (q + l) l = 25456) ↔ (l = 2 ∧ z q = 112 ∧ z (q + 1) = 99) := by
  by_cases h8 : 8 ≤ l
  · exact ⟨fun h => by omega, fun h => by omega⟩
  · have hh : l = 1 ∨ l = 2 ∨ l = 3 ∨ l = 4 ∨ l = 5 ∨ l = 6 ∨ l = 7 := by omega
    rcases hh with rfl | rfl | rfl | rfl | rfl | rfl | rfl
    · have h0 := hz q (by omega)
      have e : pkN z (q + 1) 1 = (0) * 256 + z q := rfl
      rw [e]
      omega
    · have h0 := hz q (by omega)
      have h1 := hz (q + 1) (by omega)
      have e : pkN z (q + 2) 2 = ((0) * 256 + z (q + 1)) * 256 + z q := rfl
      rw [e]
      omega
    · have h0 := hz q (by omega)
      have h1 := hz (q + 1) (by omega)
      have h2 := hz (q + 2) (by omega)
      have e : pkN z (q + 3) 3 = (((0) * 256 + z (q + 2)) * 256 + z (q + 1)) * 256 + z q := rfl
      rw [e]
      omega
    · have h0 := hz q (by omega)
      have h1 := hz (q + 1) (by omega)
      have h2 := hz (q + 2) (by omega)
      have h3 := hz (q + 3) (by omega)
      have e : pkN z (q + 4) 4 = ((((0) * 256 + z (q + 3)) * 256 + z (q + 2)) * 256 + z (q + 1)) * 256 + z q := rfl
      rw [e]
      omega
    · have h0 := hz q (by omega)
      have h1 := hz (q + 1) (by omega)
      have h2 := hz (q + 2) (by omega)
      have h3 := hz (q + 3) (by omega)
      have h4 := hz (q + 4) (by omega)
      have e : pkN z (q + 5) 5 = (((((0) * 256 + z (q + 4)) * 256 + z (q + 3)) * 256 + z (q + 2)) * 256 + z (q + 1)) * 256 + z q := rfl
      rw [e]
      omega
    · have h0 := hz q (by omega)
      have h1 := hz (q + 1) (by omega)
      have h2 := hz (q + 2) (by omega)
      have h3 := hz (q + 3) (by omega)
      have h4 := hz (q + 4) (by omega)
      have h5 := hz (q + 5) (by omega)
      have e : pkN z (q + 6) 6 = ((((((0) * 256 + z (q + 5)) * 256 + z (q + 4)) * 256 + z (q + 3)) * 256 + z (q + 2)) * 256 + z (q + 1)) * 256 + z q := rfl
      rw [e]
      omega
    · have h0 := hz q (by omega)
      have h1 := hz (q + 1) (by omega)
      have h2 := hz (q + 2) (by omega)
      have h3 := hz (q + 3) (by omega)
      have h4 := hz (q + 4) (by omega)
      have h5 := hz (q + 5) (by omega)
      have h6 := hz (q + 6) (by omega)
      have e : pkN z (q + 7) 7 = (((((((0) * 256 + z (q + 6)) * 256 + z (q + 5)) * 256 + z (q + 4)) * 256 + z (q + 3)) * 256 + z (q + 2)) * 256 + z (q + 1)) * 256 + z q := rfl
      rw [e]
      omega
theorem pk_22 {q l : Nat} {z : Nat → Nat} (hl : 1 ≤ l) (hz : ∀ i : Nat, i < q + l → 32 ≤ z i ∧ z i ≤ 126) : (l < 8 ∧ pkN z (q + l) l = 6580592) ↔ (l = 3 ∧ z q = 112 ∧ z (q + 1) = 105 ∧ z (q + 2) = 100) := by
  by_cases h8 : 8 ≤ l
  · exact ⟨fun h => by omega, fun h => by omega⟩
  · have hh : l = 1 ∨ l = 2 ∨ l = 3 ∨ l = 4 ∨ l = 5 ∨ l = 6 ∨ l = 7 := by omega
    rcases hh with rfl | rfl | rfl | rfl | rfl | rfl | rfl
    · have h0 := hz q (by omega)
      have e : pkN z (q + 1) 1 = (0) * 256 + z q := rfl
      rw [e]
      omega
    · have h0 := hz q (by omega)
      have h1 := hz (q + 1) (by omega)
      have e : pkN z (q + 2) 2 = ((0) * 256 + z (q + 1)) * 256 + z q := rfl
      rw [e]
      omega
    · have h0 := hz q (by omega)
      have h1 := hz (q + 1) (by omega)
      have h2 := hz (q + 2) (by omega)
      have e : pkN z (q + 3) 3 = (((0) * 256 + z (q + 2)) * 256 + z (q + 1)) * 256 + z q := rfl
      rw [e]
      omega
    · have h0 := hz q (by omega)
      have h1 := hz (q + 1) (by omega)
      have h2 := hz (q + 2) (by omega)
      have h3 := hz (q + 3) (by omega)
      have e : pkN z (q + 4) 4 = ((((0) * 256 + z (q + 3)) * 256 + z (q + 2)) * 256 + z (q + 1)) * 256 + z q := rfl
      rw [e]
      omega
    · have h0 := hz q (by omega)
      have h1 := hz (q + 1) (by omega)
      have h2 := hz (q + 2) (by omega)
      have h3 := hz (q + 3) (by omega)
      have h4 := hz (q + 4) (by omega)
      have e : pkN z (q + 5) 5 = (((((0) * 256 + z (q + 4)) * 256 + z (q + 3)) * 256 + z (q + 2)) * 256 + z (q + 1)) * 256 + z q := rfl
      rw [e]
      omega
    · have h0 := hz q (by omega)
      have h1 := hz (q + 1) (by omega)
      have h2 := hz (q + 2) (by omega)
      have h3 := hz (q + 3) (by omega)
      have h4 := hz (q + 4) (by omega)
      have h5 := hz (q + 5) (by omega)
      have e : pkN z (q + 6) 6 = ((((((0) * 256 + z (q + 5)) * 256 + z (q + 4)) * 256 + z (q + 3)) * 256 + z (q + 2)) * 256 + z (q + 1)) * 256 + z q := rfl
      rw [e]
      omega
    · have h0 := hz q (by omega)
      have h1 := hz (q + 1) (by omega)
      have h2 := hz (q + 2) (by omega)
      have h3 := hz (q + 3) (by omega)
      have h4 := hz (q + 4) (by omega)
      have h5 := hz (q + 5) (by omega)
      have h6 := hz (q + 6) (by omega)
      have e : pkN z (q + 7) 7 = (((((((0) * 256 + z (q + 6)) * 256 + z (q + 5)) * 256 + z (q + 4)) * 256 + z (q + 3)) * 256 + z (q + 2)) * 256 + z (q + 1)) * 256 + z q := rfl
      rw [e]
      omega
theorem pk_23 {q l : Nat} {z : Nat → Nat} (hl : 1 ≤ l) (hz : ∀ i : Nat, i < q + l → 32 ≤ z i ∧ z i ≤ 126) : (l < 8 ∧ pkN z (q + l) l = 500069396323) ↔ (l = 5 ∧ z q = 99 ∧ z (q + 1) = 111 ∧ z (q + 2) = 117 ∧ z (q + 3) = 110 ∧ z (q + 4) = 116) := by
  by_cases h8 : 8 ≤ l
  · exact ⟨fun h => by omega, fun h => by omega⟩
  · have hh : l = 1 ∨ l = 2 ∨ l = 3 ∨ l = 4 ∨ l = 5 ∨ l = 6 ∨ l = 7 := by omega
    rcases hh with rfl | rfl | rfl | rfl | rfl | rfl | rfl
    · have h0 := hz q (by omega)
      have e : pkN z (q + 1) 1 = (0) * 256 + z q := rfl
      rw [e]
      omega
    · have h0 := hz q (by omega)
      have h1 := hz (q + 1) (by omega)
      have e : pkN z (q + 2) 2 = ((0) * 256 + z (q + 1)) * 256 + z q := rfl
      rw [e]
      omega
    · have h0 := hz q (by omega)
      have h1 := hz (q + 1) (by omega)
      have h2 := hz (q + 2) (by omega)
      have e : pkN z (q + 3) 3 = (((0) * 256 + z (q + 2)) * 256 + z (q + 1)) * 256 + z q := rfl
      rw [e]
      omega
    · have h0 := hz q (by omega)
      have h1 := hz (q + 1) (by omega)
      have h2 := hz (q + 2) (by omega)
      have h3 := hz (q + 3) (by omega)
      have e : pkN z (q + 4) 4 = ((((0) * 256 + z (q + 3)) * 256 + z (q + 2)) * 256 + z (q + 1)) * 256 + z q := rfl
      rw [e]
      omega
    · have h0 := hz q (by omega)
      have h1 := hz (q + 1) (by omega)
      have h2 := hz (q + 2) (by omega)
      have h3 := hz (q + 3) (by omega)
      have h4 := hz (q + 4) (by omega)
      have e : pkN z (q + 5) 5 = (((((0) * 256 + z (q + 4)) * 256 + z (q + 3)) * 256 + z (q + 2)) * 256 + z (q + 1)) * 256 + z q := rfl
      rw [e]
      omega
    · have h0 := hz q (by omega)
      have h1 := hz (q + 1) (by omega)
      have h2 := hz (q + 2) (by omega)
      have h3 := hz (q + 3) (by omega)
      have h4 := hz (q + 4) (by omega)
      have h5 := hz (q + 5) (by omega)
      have e : pkN z (q + 6) 6 = ((((((0) * 256 + z (q + 5)) * 256 + z (q + 4)) * 256 + z (q + 3)) * 256 + z (q + 2)) * 256 + z (q + 1)) * 256 + z q := rfl
      rw [e]
      omega
    · have h0 := hz q (by omega)
      have h1 := hz (q + 1) (by omega)
      have h2 := hz (q + 2) (by omega)
      have h3 := hz (q + 3) (by omega)
      have h4 := hz (q + 4) (by omega)
      have h5 := hz (q + 5) (by omega)
      have h6 := hz (q + 6) (by omega)
      have e : pkN z (q + 7) 7 = (((((((0) * 256 + z (q + 6)) * 256 + z (q + 5)) * 256 + z (q + 4)) * 256 + z (q + 3)) * 256 + z (q + 2)) * 256 + z (q + 1)) * 256 + z q := rfl
      rw [e]
      omega
theorem pk_24 {q l : Nat} {z : Nat → Nat} (hl : 1 ≤ l) (hz : ∀ i : Nat, i < q + l → 32 ≤ z i ∧ z i ≤ 126) : (l < 8 ∧ pkN z (q + l) l = 1702132066) ↔ (l = 4 ∧ z q = 98 ∧ z (q + 1) = 121 ∧ z (q + 2) = 116 ∧ z (q + 3) = 101) := by
  by_cases h8 : 8 ≤ l
  · exact ⟨fun h => by omega, fun h => by omega⟩
  · have hh : l = 1 ∨ l = 2 ∨ l = 3 ∨ l = 4 ∨ l = 5 ∨ l = 6 ∨ l = 7 := by omega
    rcases hh with rfl | rfl | rfl | rfl | rfl | rfl | rfl
    · have h0 := hz q (by omega)
      have e : pkN z (q + 1) 1 = (0) * 256 + z q := rfl
      rw [e]
      omega
    · have h0 := hz q (by omega)
      have h1 := hz (q + 1) (by omega)
      have e : pkN z (q + 2) 2 = ((0) * 256 + z (q + 1)) * 256 + z q := rfl
      rw [e]
      omega
    · have h0 := hz q (by omega)
      have h1 := hz (q + 1) (by omega)
      have h2 := hz (q + 2) (by omega)
      have e : pkN z (q + 3) 3 = (((0) * 256 + z (q + 2)) * 256 + z (q + 1)) * 256 + z q := rfl
      rw [e]
      omega
    · have h0 := hz q (by omega)
      have h1 := hz (q + 1) (by omega)
      have h2 := hz (q + 2) (by omega)
      have h3 := hz (q + 3) (by omega)
      have e : pkN z (q + 4) 4 = ((((0) * 256 + z (q + 3)) * 256 + z (q + 2)) * 256 + z (q + 1)) * 256 + z q := rfl
      rw [e]
      omega
    · have h0 := hz q (by omega)
      have h1 := hz (q + 1) (by omega)
      have h2 := hz (q + 2) (by omega)
      have h3 := hz (q + 3) (by omega)
      have h4 := hz (q + 4) (by omega)
      have e : pkN z (q + 5) 5 = (((((0) * 256 + z (q + 4)) * 256 + z (q + 3)) * 256 + z (q + 2)) * 256 + z (q + 1)) * 256 + z q := rfl
      rw [e]
      omega
    · have h0 := hz q (by omega)
      have h1 := hz (q + 1) (by omega)
      have h2 := hz (q + 2) (by omega)
      have h3 := hz (q + 3) (by omega)
      have h4 := hz (q + 4) (by omega)
      have h5 := hz (q + 5) (by omega)
      have e : pkN z (q + 6) 6 = ((((((0) * 256 + z (q + 5)) * 256 + z (q + 4)) * 256 + z (q + 3)) * 256 + z (q + 2)) * 256 + z (q + 1)) * 256 + z q := rfl
      rw [e]
      omega
    · have h0 := hz q (by omega)
      have h1 := hz (q + 1) (by omega)
      have h2 := hz (q + 2) (by omega)
      have h3 := hz (q + 3) (by omega)
      have h4 := hz (q + 4) (by omega)
      have h5 := hz (q + 5) (by omega)
      have h6 := hz (q + 6) (by omega)
      have e : pkN z (q + 7) 7 = (((((((0) * 256 + z (q + 6)) * 256 + z (q + 5)) * 256 + z (q + 4)) * 256 + z (q + 3)) * 256 + z (q + 2)) * 256 + z (q + 1)) * 256 + z q := rfl
      rw [e]
      omega
theorem pk_25 {q l : Nat} {z : Nat → Nat} (hl : 1 ≤ l) (hz : ∀ i : Nat, i < q + l → 32 ≤ z i ∧ z i ≤ 126) : (l < 8 ∧ pkN z (q + l) l = 1718378856) ↔ (l = 4 ∧ z q = 104 ∧ z (q + 1) = 97 ∧ z (q + 2) = 108 ∧ z (q + 3) = 102) := by
  by_cases h8 : 8 ≤ l
  · exact ⟨fun h => by omega, fun h => by omega⟩
  · have hh : l = 1 ∨ l = 2 ∨ l = 3 ∨ l = 4 ∨ l = 5 ∨ l = 6 ∨ l = 7 := by omega
    rcases hh with rfl | rfl | rfl | rfl | rfl | rfl | rfl
    · have h0 := hz q (by omega)
      have e : pkN z (q + 1) 1 = (0) * 256 + z q := rfl
      rw [e]
      omega
    · have h0 := hz q (by omega)
      have h1 := hz (q + 1) (by omega)
      have e : pkN z (q + 2) 2 = ((0) * 256 + z (q + 1)) * 256 + z q := rfl
      rw [e]
      omega
    · have h0 := hz q (by omega)
      have h1 := hz (q + 1) (by omega)
      have h2 := hz (q + 2) (by omega)
      have e : pkN z (q + 3) 3 = (((0) * 256 + z (q + 2)) * 256 + z (q + 1)) * 256 + z q := rfl
      rw [e]
      omega
    · have h0 := hz q (by omega)
      have h1 := hz (q + 1) (by omega)
      have h2 := hz (q + 2) (by omega)
      have h3 := hz (q + 3) (by omega)
      have e : pkN z (q + 4) 4 = ((((0) * 256 + z (q + 3)) * 256 + z (q + 2)) * 256 + z (q + 1)) * 256 + z q := rfl
      rw [e]
      omega
    · have h0 := hz q (by omega)
      have h1 := hz (q + 1) (by omega)
      have h2 := hz (q + 2) (by omega)
      have h3 := hz (q + 3) (by omega)
      have h4 := hz (q + 4) (by omega)
      have e : pkN z (q + 5) 5 = (((((0) * 256 + z (q + 4)) * 256 + z (q + 3)) * 256 + z (q + 2)) * 256 + z (q + 1)) * 256 + z q := rfl
      rw [e]
      omega
    · have h0 := hz q (by omega)
      have h1 := hz (q + 1) (by omega)
      have h2 := hz (q + 2) (by omega)
      have h3 := hz (q + 3) (by omega)
      have h4 := hz (q + 4) (by omega)
      have h5 := hz (q + 5) (by omega)
      have e : pkN z (q + 6) 6 = ((((((0) * 256 + z (q + 5)) * 256 + z (q + 4)) * 256 + z (q + 3)) * 256 + z (q + 2)) * 256 + z (q + 1)) * 256 + z q := rfl
      rw [e]
      omega
    · have h0 := hz q (by omega)
      have h1 := hz (q + 1) (by omega)
      have h2 := hz (q + 2) (by omega)
      have h3 := hz (q + 3) (by omega)
      have h4 := hz (q + 4) (by omega)
      have h5 := hz (q + 5) (by omega)
      have h6 := hz (q + 6) (by omega)
      have e : pkN z (q + 7) 7 = (((((((0) * 256 + z (q + 6)) * 256 + z (q + 5)) * 256 + z (q + 4)) * 256 + z (q + 3)) * 256 + z (q + 2)) * 256 + z (q + 1)) * 256 + z q := rfl
      rw [e]
      omega
theorem pk_26 {q l : Nat} {z : Nat → Nat} (hl : 1 ≤ l) (hz : ∀ i : Nat, i < q + l → 32 ≤ z i ∧ z i ≤ 126) : (l < 8 ∧ pkN z (q + l) l = 6581359) ↔ (l = 3 ∧ z q = 111 ∧ z (q + 1) = 108 ∧ z (q + 2) = 100) := by
  by_cases h8 : 8 ≤ l
  · exact ⟨fun h => by omega, fun h => by omega⟩
  · have hh : l = 1 ∨ l = 2 ∨ l = 3 ∨ l = 4 ∨ l = 5 ∨ l = 6 ∨ l = 7 := by omega
    rcases hh with rfl | rfl | rfl | rfl | rfl | rfl | rfl
    · have h0 := hz q (by omega)
      have e : pkN z (q + 1) 1 = (0) * 256 + z q := rfl
      rw [e]
      omega
    · have h0 := hz q (by omega)
      have h1 := hz (q + 1) (by omega)
      have e : pkN z (q + 2) 2 = ((0) * 256 + z (q + 1)) * 256 + z q := rfl
      rw [e]
      omega
    · have h0 := hz q (by omega)
      have h1 := hz (q + 1) (by omega)
      have h2 := hz (q + 2) (by omega)
      have e : pkN z (q + 3) 3 = (((0) * 256 + z (q + 2)) * 256 + z (q + 1)) * 256 + z q := rfl
      rw [e]
      omega
    · have h0 := hz q (by omega)
      have h1 := hz (q + 1) (by omega)
      have h2 := hz (q + 2) (by omega)
      have h3 := hz (q + 3) (by omega)
      have e : pkN z (q + 4) 4 = ((((0) * 256 + z (q + 3)) * 256 + z (q + 2)) * 256 + z (q + 1)) * 256 + z q := rfl
      rw [e]
      omega
    · have h0 := hz q (by omega)
      have h1 := hz (q + 1) (by omega)
      have h2 := hz (q + 2) (by omega)
      have h3 := hz (q + 3) (by omega)
      have h4 := hz (q + 4) (by omega)
      have e : pkN z (q + 5) 5 = (((((0) * 256 + z (q + 4)) * 256 + z (q + 3)) * 256 + z (q + 2)) * 256 + z (q + 1)) * 256 + z q := rfl
      rw [e]
      omega
    · have h0 := hz q (by omega)
      have h1 := hz (q + 1) (by omega)
      have h2 := hz (q + 2) (by omega)
      have h3 := hz (q + 3) (by omega)
      have h4 := hz (q + 4) (by omega)
      have h5 := hz (q + 5) (by omega)
      have e : pkN z (q + 6) 6 = ((((((0) * 256 + z (q + 5)) * 256 + z (q + 4)) * 256 + z (q + 3)) * 256 + z (q + 2)) * 256 + z (q + 1)) * 256 + z q := rfl
      rw [e]
      omega
    · have h0 := hz q (by omega)
      have h1 := hz (q + 1) (by omega)
      have h2 := hz (q + 2) (by omega)
      have h3 := hz (q + 3) (by omega)
      have h4 := hz (q + 4) (by omega)
      have h5 := hz (q + 5) (by omega)
      have h6 := hz (q + 6) (by omega)
      have e : pkN z (q + 7) 7 = (((((((0) * 256 + z (q + 6)) * 256 + z (q + 5)) * 256 + z (q + 4)) * 256 + z (q + 3)) * 256 + z (q + 2)) * 256 + z (q + 1)) * 256 + z q := rfl
      rw [e]
      omega
theorem pk_27 {q l : Nat} {z : Nat → Nat} (hl : 1 ≤ l) (hz : ∀ i : Nat, i < q + l → 32 ≤ z i ∧ z i ≤ 126) : (l < 8 ∧ pkN z (q + l) l = 28258992578979939) ↔ (l = 7 ∧ z q = 99 ∧ z (q + 1) = 104 ∧ z (q + 2) = 97 ∧ z (q + 3) = 110 ∧ z (q + 4) = 103 ∧ z (q + 5) = 101 ∧ z (q + 6) = 100) := by
  by_cases h8 : 8 ≤ l
  · exact ⟨fun h => by omega, fun h => by omega⟩
  · have hh : l = 1 ∨ l = 2 ∨ l = 3 ∨ l = 4 ∨ l = 5 ∨ l = 6 ∨ l = 7 := by omega
    rcases hh with rfl | rfl | rfl | rfl | rfl | rfl | rfl
    · have h0 := hz q (by omega)
      have e : pkN z (q + 1) 1 = (0) * 256 + z q := rfl
      rw [e]
      omega
    · have h0 := hz q (by omega)
      have h1 := hz (q + 1) (by omega)
      have e : pkN z (q + 2) 2 = ((0) * 256 + z (q + 1)) * 256 + z q := rfl
      rw [e]
      omega
    · have h0 := hz q (by omega)
      have h1 := hz (q + 1) (by omega)
      have h2 := hz (q + 2) (by omega)
      have e : pkN z (q + 3) 3 = (((0) * 256 + z (q + 2)) * 256 + z (q + 1)) * 256 + z q := rfl
      rw [e]
      omega
    · have h0 := hz q (by omega)
      have h1 := hz (q + 1) (by omega)
      have h2 := hz (q + 2) (by omega)
      have h3 := hz (q + 3) (by omega)
      have e : pkN z (q + 4) 4 = ((((0) * 256 + z (q + 3)) * 256 + z (q + 2)) * 256 + z (q + 1)) * 256 + z q := rfl
      rw [e]
      omega
    · have h0 := hz q (by omega)
      have h1 := hz (q + 1) (by omega)
      have h2 := hz (q + 2) (by omega)
      have h3 := hz (q + 3) (by omega)
      have h4 := hz (q + 4) (by omega)
      have e : pkN z (q + 5) 5 = (((((0) * 256 + z (q + 4)) * 256 + z (q + 3)) * 256 + z (q + 2)) * 256 + z (q + 1)) * 256 + z q := rfl
      rw [e]
      omega
    · have h0 := hz q (by omega)
      have h1 := hz (q + 1) (by omega)
      have h2 := hz (q + 2) (by omega)
      have h3 := hz (q + 3) (by omega)
      have h4 := hz (q + 4) (by omega)
      have h5 := hz (q + 5) (by omega)
      have e : pkN z (q + 6) 6 = ((((((0) * 256 + z (q + 5)) * 256 + z (q + 4)) * 256 + z (q + 3)) * 256 + z (q + 2)) * 256 + z (q + 1)) * 256 + z q := rfl
      rw [e]
      omega
    · have h0 := hz q (by omega)
      have h1 := hz (q + 1) (by omega)
      have h2 := hz (q + 2) (by omega)
      have h3 := hz (q + 3) (by omega)
      have h4 := hz (q + 4) (by omega)
      have h5 := hz (q + 5) (by omega)
      have h6 := hz (q + 6) (by omega)
      have e : pkN z (q + 7) 7 = (((((((0) * 256 + z (q + 6)) * 256 + z (q + 5)) * 256 + z (q + 4)) * 256 + z (q + 3)) * 256 + z (q + 2)) * 256 + z (q + 1)) * 256 + z q := rfl
      rw [e]
      omega
theorem wq_10 {q l : Nat} {z : Nat → Nat} {R : Nat → Int32} (hz : ∀ i : Nat, i < q + l → R i = nI (z i) ∧ z i ≤ 126) : wq 10 q l R ↔ (l = 4 ∧ z q = 122 ∧ z (q + 1) = 101 ∧ z (q + 2) = 114 ∧ z (q + 3) = 111) := by
  have kn : ks_n 10 = 4 := by decide +kernel
  have k0 : ks_b 10 0 = nI 122 := by decide +kernel
  have k1 : ks_b 10 1 = nI 101 := by decide +kernel
  have k2 : ks_b 10 2 = nI 114 := by decide +kernel
  have k3 : ks_b 10 3 = nI 111 := by decide +kernel
  unfold wq
  rw [kn]
  constructor
  · rintro ⟨h1, h2⟩
    subst h1
    have a0 := h2 0 (by omega)
    rw [k0, (hz (q + 0) (by omega)).1, nI_eq (by have := (hz (q + 0) (by omega)).2; omega) (by omega)] at a0
    have a1 := h2 1 (by omega)
    rw [k1, (hz (q + 1) (by omega)).1, nI_eq (by have := (hz (q + 1) (by omega)).2; omega) (by omega)] at a1
    have a2 := h2 2 (by omega)
    rw [k2, (hz (q + 2) (by omega)).1, nI_eq (by have := (hz (q + 2) (by omega)).2; omega) (by omega)] at a2
    have a3 := h2 3 (by omega)
    rw [k3, (hz (q + 3) (by omega)).1, nI_eq (by have := (hz (q + 3) (by omega)).2; omega) (by omega)] at a3
    exact ⟨rfl, a0, a1, a2, a3⟩
  · intro h
    obtain ⟨h1, a0, a1, a2, a3⟩ := h
    subst h1
    refine ⟨rfl, fun i hi => ?_⟩
    have hh : i = 0 ∨ i = 1 ∨ i = 2 ∨ i = 3 := by omega
    rcases hh with rfl | rfl | rfl | rfl
    · rw [k0, (hz (q + 0) (by omega)).1]
      exact congrArg nI a0
    · rw [k1, (hz (q + 1) (by omega)).1]
      exact congrArg nI a1
    · rw [k2, (hz (q + 2) (by omega)).1]
      exact congrArg nI a2
    · rw [k3, (hz (q + 3) (by omega)).1]
      exact congrArg nI a3
theorem wq_18 {q l : Nat} {z : Nat → Nat} {R : Nat → Int32} (hz : ∀ i : Nat, i < q + l → R i = nI (z i) ∧ z i ≤ 126) : wq 18 q l R ↔ (l = 2 ∧ z q = 102 ∧ z (q + 1) = 112) := by
  have kn : ks_n 18 = 2 := by decide +kernel
  have k0 : ks_b 18 0 = nI 102 := by decide +kernel
  have k1 : ks_b 18 1 = nI 112 := by decide +kernel
  unfold wq
  rw [kn]
  constructor
  · rintro ⟨h1, h2⟩
    subst h1
    have a0 := h2 0 (by omega)
    rw [k0, (hz (q + 0) (by omega)).1, nI_eq (by have := (hz (q + 0) (by omega)).2; omega) (by omega)] at a0
    have a1 := h2 1 (by omega)
    rw [k1, (hz (q + 1) (by omega)).1, nI_eq (by have := (hz (q + 1) (by omega)).2; omega) (by omega)] at a1
    exact ⟨rfl, a0, a1⟩
  · intro h
    obtain ⟨h1, a0, a1⟩ := h
    subst h1
    refine ⟨rfl, fun i hi => ?_⟩
    have hh : i = 0 ∨ i = 1 := by omega
    rcases hh with rfl | rfl
    · rw [k0, (hz (q + 0) (by omega)).1]
      exact congrArg nI a0
    · rw [k1, (hz (q + 1) (by omega)).1]
      exact congrArg nI a1
theorem wq_21 {q l : Nat} {z : Nat → Nat} {R : Nat → Int32} (hz : ∀ i : Nat, i < q + l → R i = nI (z i) ∧ z i ≤ 126) : wq 21 q l R ↔ (l = 2 ∧ z q = 112 ∧ z (q + 1) = 99) := by
  have kn : ks_n 21 = 2 := by decide +kernel
  have k0 : ks_b 21 0 = nI 112 := by decide +kernel
  have k1 : ks_b 21 1 = nI 99 := by decide +kernel
  unfold wq
  rw [kn]
  constructor
  · rintro ⟨h1, h2⟩
    subst h1
    have a0 := h2 0 (by omega)
    rw [k0, (hz (q + 0) (by omega)).1, nI_eq (by have := (hz (q + 0) (by omega)).2; omega) (by omega)] at a0
    have a1 := h2 1 (by omega)
    rw [k1, (hz (q + 1) (by omega)).1, nI_eq (by have := (hz (q + 1) (by omega)).2; omega) (by omega)] at a1
    exact ⟨rfl, a0, a1⟩
  · intro h
    obtain ⟨h1, a0, a1⟩ := h
    subst h1
    refine ⟨rfl, fun i hi => ?_⟩
    have hh : i = 0 ∨ i = 1 := by omega
    rcases hh with rfl | rfl
    · rw [k0, (hz (q + 0) (by omega)).1]
      exact congrArg nI a0
    · rw [k1, (hz (q + 1) (by omega)).1]
      exact congrArg nI a1
theorem wq_22 {q l : Nat} {z : Nat → Nat} {R : Nat → Int32} (hz : ∀ i : Nat, i < q + l → R i = nI (z i) ∧ z i ≤ 126) : wq 22 q l R ↔ (l = 3 ∧ z q = 112 ∧ z (q + 1) = 105 ∧ z (q + 2) = 100) := by
  have kn : ks_n 22 = 3 := by decide +kernel
  have k0 : ks_b 22 0 = nI 112 := by decide +kernel
  have k1 : ks_b 22 1 = nI 105 := by decide +kernel
  have k2 : ks_b 22 2 = nI 100 := by decide +kernel
  unfold wq
  rw [kn]
  constructor
  · rintro ⟨h1, h2⟩
    subst h1
    have a0 := h2 0 (by omega)
    rw [k0, (hz (q + 0) (by omega)).1, nI_eq (by have := (hz (q + 0) (by omega)).2; omega) (by omega)] at a0
    have a1 := h2 1 (by omega)
    rw [k1, (hz (q + 1) (by omega)).1, nI_eq (by have := (hz (q + 1) (by omega)).2; omega) (by omega)] at a1
    have a2 := h2 2 (by omega)
    rw [k2, (hz (q + 2) (by omega)).1, nI_eq (by have := (hz (q + 2) (by omega)).2; omega) (by omega)] at a2
    exact ⟨rfl, a0, a1, a2⟩
  · intro h
    obtain ⟨h1, a0, a1, a2⟩ := h
    subst h1
    refine ⟨rfl, fun i hi => ?_⟩
    have hh : i = 0 ∨ i = 1 ∨ i = 2 := by omega
    rcases hh with rfl | rfl | rfl
    · rw [k0, (hz (q + 0) (by omega)).1]
      exact congrArg nI a0
    · rw [k1, (hz (q + 1) (by omega)).1]
      exact congrArg nI a1
    · rw [k2, (hz (q + 2) (by omega)).1]
      exact congrArg nI a2
theorem wq_23 {q l : Nat} {z : Nat → Nat} {R : Nat → Int32} (hz : ∀ i : Nat, i < q + l → R i = nI (z i) ∧ z i ≤ 126) : wq 23 q l R ↔ (l = 5 ∧ z q = 99 ∧ z (q + 1) = 111 ∧ z (q + 2) = 117 ∧ z (q + 3) = 110 ∧ z (q + 4) = 116) := by
  have kn : ks_n 23 = 5 := by decide +kernel
  have k0 : ks_b 23 0 = nI 99 := by decide +kernel
  have k1 : ks_b 23 1 = nI 111 := by decide +kernel
  have k2 : ks_b 23 2 = nI 117 := by decide +kernel
  have k3 : ks_b 23 3 = nI 110 := by decide +kernel
  have k4 : ks_b 23 4 = nI 116 := by decide +kernel
  unfold wq
  rw [kn]
  constructor
  · rintro ⟨h1, h2⟩
    subst h1
    have a0 := h2 0 (by omega)
    rw [k0, (hz (q + 0) (by omega)).1, nI_eq (by have := (hz (q + 0) (by omega)).2; omega) (by omega)] at a0
    have a1 := h2 1 (by omega)
    rw [k1, (hz (q + 1) (by omega)).1, nI_eq (by have := (hz (q + 1) (by omega)).2; omega) (by omega)] at a1
    have a2 := h2 2 (by omega)
    rw [k2, (hz (q + 2) (by omega)).1, nI_eq (by have := (hz (q + 2) (by omega)).2; omega) (by omega)] at a2
    have a3 := h2 3 (by omega)
    rw [k3, (hz (q + 3) (by omega)).1, nI_eq (by have := (hz (q + 3) (by omega)).2; omega) (by omega)] at a3
    have a4 := h2 4 (by omega)
    rw [k4, (hz (q + 4) (by omega)).1, nI_eq (by have := (hz (q + 4) (by omega)).2; omega) (by omega)] at a4
    exact ⟨rfl, a0, a1, a2, a3, a4⟩
  · intro h
    obtain ⟨h1, a0, a1, a2, a3, a4⟩ := h
    subst h1
    refine ⟨rfl, fun i hi => ?_⟩
    have hh : i = 0 ∨ i = 1 ∨ i = 2 ∨ i = 3 ∨ i = 4 := by omega
    rcases hh with rfl | rfl | rfl | rfl | rfl
    · rw [k0, (hz (q + 0) (by omega)).1]
      exact congrArg nI a0
    · rw [k1, (hz (q + 1) (by omega)).1]
      exact congrArg nI a1
    · rw [k2, (hz (q + 2) (by omega)).1]
      exact congrArg nI a2
    · rw [k3, (hz (q + 3) (by omega)).1]
      exact congrArg nI a3
    · rw [k4, (hz (q + 4) (by omega)).1]
      exact congrArg nI a4
theorem wq_24 {q l : Nat} {z : Nat → Nat} {R : Nat → Int32} (hz : ∀ i : Nat, i < q + l → R i = nI (z i) ∧ z i ≤ 126) : wq 24 q l R ↔ (l = 4 ∧ z q = 98 ∧ z (q + 1) = 121 ∧ z (q + 2) = 116 ∧ z (q + 3) = 101) := by
  have kn : ks_n 24 = 4 := by decide +kernel
  have k0 : ks_b 24 0 = nI 98 := by decide +kernel
  have k1 : ks_b 24 1 = nI 121 := by decide +kernel
  have k2 : ks_b 24 2 = nI 116 := by decide +kernel
  have k3 : ks_b 24 3 = nI 101 := by decide +kernel
  unfold wq
  rw [kn]
  constructor
  · rintro ⟨h1, h2⟩
    subst h1
    have a0 := h2 0 (by omega)
    rw [k0, (hz (q + 0) (by omega)).1, nI_eq (by have := (hz (q + 0) (by omega)).2; omega) (by omega)] at a0
    have a1 := h2 1 (by omega)
    rw [k1, (hz (q + 1) (by omega)).1, nI_eq (by have := (hz (q + 1) (by omega)).2; omega) (by omega)] at a1
    have a2 := h2 2 (by omega)
    rw [k2, (hz (q + 2) (by omega)).1, nI_eq (by have := (hz (q + 2) (by omega)).2; omega) (by omega)] at a2
    have a3 := h2 3 (by omega)
    rw [k3, (hz (q + 3) (by omega)).1, nI_eq (by have := (hz (q + 3) (by omega)).2; omega) (by omega)] at a3
    exact ⟨rfl, a0, a1, a2, a3⟩
  · intro h
    obtain ⟨h1, a0, a1, a2, a3⟩ := h
    subst h1
    refine ⟨rfl, fun i hi => ?_⟩
    have hh : i = 0 ∨ i = 1 ∨ i = 2 ∨ i = 3 := by omega
    rcases hh with rfl | rfl | rfl | rfl
    · rw [k0, (hz (q + 0) (by omega)).1]
      exact congrArg nI a0
    · rw [k1, (hz (q + 1) (by omega)).1]
      exact congrArg nI a1
    · rw [k2, (hz (q + 2) (by omega)).1]
      exact congrArg nI a2
    · rw [k3, (hz (q + 3) (by omega)).1]
      exact congrArg nI a3
theorem wq_25 {q l : Nat} {z : Nat → Nat} {R : Nat → Int32} (hz : ∀ i : Nat, i < q + l → R i = nI (z i) ∧ z i ≤ 126) : wq 25 q l R ↔ (l = 4 ∧ z q = 104 ∧ z (q + 1) = 97 ∧ z (q + 2) = 108 ∧ z (q + 3) = 102) := by
  have kn : ks_n 25 = 4 := by decide +kernel
  have k0 : ks_b 25 0 = nI 104 := by decide +kernel
  have k1 : ks_b 25 1 = nI 97 := by decide +kernel
  have k2 : ks_b 25 2 = nI 108 := by decide +kernel
  have k3 : ks_b 25 3 = nI 102 := by decide +kernel
  unfold wq
  rw [kn]
  constructor
  · rintro ⟨h1, h2⟩
    subst h1
    have a0 := h2 0 (by omega)
    rw [k0, (hz (q + 0) (by omega)).1, nI_eq (by have := (hz (q + 0) (by omega)).2; omega) (by omega)] at a0
    have a1 := h2 1 (by omega)
    rw [k1, (hz (q + 1) (by omega)).1, nI_eq (by have := (hz (q + 1) (by omega)).2; omega) (by omega)] at a1
    have a2 := h2 2 (by omega)
    rw [k2, (hz (q + 2) (by omega)).1, nI_eq (by have := (hz (q + 2) (by omega)).2; omega) (by omega)] at a2
    have a3 := h2 3 (by omega)
    rw [k3, (hz (q + 3) (by omega)).1, nI_eq (by have := (hz (q + 3) (by omega)).2; omega) (by omega)] at a3
    exact ⟨rfl, a0, a1, a2, a3⟩
  · intro h
    obtain ⟨h1, a0, a1, a2, a3⟩ := h
    subst h1
    refine ⟨rfl, fun i hi => ?_⟩
    have hh : i = 0 ∨ i = 1 ∨ i = 2 ∨ i = 3 := by omega
    rcases hh with rfl | rfl | rfl | rfl
    · rw [k0, (hz (q + 0) (by omega)).1]
      exact congrArg nI a0
    · rw [k1, (hz (q + 1) (by omega)).1]
      exact congrArg nI a1
    · rw [k2, (hz (q + 2) (by omega)).1]
      exact congrArg nI a2
    · rw [k3, (hz (q + 3) (by omega)).1]
      exact congrArg nI a3
theorem wq_26 {q l : Nat} {z : Nat → Nat} {R : Nat → Int32} (hz : ∀ i : Nat, i < q + l → R i = nI (z i) ∧ z i ≤ 126) : wq 26 q l R ↔ (l = 3 ∧ z q = 111 ∧ z (q + 1) = 108 ∧ z (q + 2) = 100) := by
  have kn : ks_n 26 = 3 := by decide +kernel
  have k0 : ks_b 26 0 = nI 111 := by decide +kernel
  have k1 : ks_b 26 1 = nI 108 := by decide +kernel
  have k2 : ks_b 26 2 = nI 100 := by decide +kernel
  unfold wq
  rw [kn]
  constructor
  · rintro ⟨h1, h2⟩
    subst h1
    have a0 := h2 0 (by omega)
    rw [k0, (hz (q + 0) (by omega)).1, nI_eq (by have := (hz (q + 0) (by omega)).2; omega) (by omega)] at a0
    have a1 := h2 1 (by omega)
    rw [k1, (hz (q + 1) (by omega)).1, nI_eq (by have := (hz (q + 1) (by omega)).2; omega) (by omega)] at a1
    have a2 := h2 2 (by omega)
    rw [k2, (hz (q + 2) (by omega)).1, nI_eq (by have := (hz (q + 2) (by omega)).2; omega) (by omega)] at a2
    exact ⟨rfl, a0, a1, a2⟩
  · intro h
    obtain ⟨h1, a0, a1, a2⟩ := h
    subst h1
    refine ⟨rfl, fun i hi => ?_⟩
    have hh : i = 0 ∨ i = 1 ∨ i = 2 := by omega
    rcases hh with rfl | rfl | rfl
    · rw [k0, (hz (q + 0) (by omega)).1]
      exact congrArg nI a0
    · rw [k1, (hz (q + 1) (by omega)).1]
      exact congrArg nI a1
    · rw [k2, (hz (q + 2) (by omega)).1]
      exact congrArg nI a2
theorem wq_27 {q l : Nat} {z : Nat → Nat} {R : Nat → Int32} (hz : ∀ i : Nat, i < q + l → R i = nI (z i) ∧ z i ≤ 126) : wq 27 q l R ↔ (l = 7 ∧ z q = 99 ∧ z (q + 1) = 104 ∧ z (q + 2) = 97 ∧ z (q + 3) = 110 ∧ z (q + 4) = 103 ∧ z (q + 5) = 101 ∧ z (q + 6) = 100) := by
  have kn : ks_n 27 = 7 := by decide +kernel
  have k0 : ks_b 27 0 = nI 99 := by decide +kernel
  have k1 : ks_b 27 1 = nI 104 := by decide +kernel
  have k2 : ks_b 27 2 = nI 97 := by decide +kernel
  have k3 : ks_b 27 3 = nI 110 := by decide +kernel
  have k4 : ks_b 27 4 = nI 103 := by decide +kernel
  have k5 : ks_b 27 5 = nI 101 := by decide +kernel
  have k6 : ks_b 27 6 = nI 100 := by decide +kernel
  unfold wq
  rw [kn]
  constructor
  · rintro ⟨h1, h2⟩
    subst h1
    have a0 := h2 0 (by omega)
    rw [k0, (hz (q + 0) (by omega)).1, nI_eq (by have := (hz (q + 0) (by omega)).2; omega) (by omega)] at a0
    have a1 := h2 1 (by omega)
    rw [k1, (hz (q + 1) (by omega)).1, nI_eq (by have := (hz (q + 1) (by omega)).2; omega) (by omega)] at a1
    have a2 := h2 2 (by omega)
    rw [k2, (hz (q + 2) (by omega)).1, nI_eq (by have := (hz (q + 2) (by omega)).2; omega) (by omega)] at a2
    have a3 := h2 3 (by omega)
    rw [k3, (hz (q + 3) (by omega)).1, nI_eq (by have := (hz (q + 3) (by omega)).2; omega) (by omega)] at a3
    have a4 := h2 4 (by omega)
    rw [k4, (hz (q + 4) (by omega)).1, nI_eq (by have := (hz (q + 4) (by omega)).2; omega) (by omega)] at a4
    have a5 := h2 5 (by omega)
    rw [k5, (hz (q + 5) (by omega)).1, nI_eq (by have := (hz (q + 5) (by omega)).2; omega) (by omega)] at a5
    have a6 := h2 6 (by omega)
    rw [k6, (hz (q + 6) (by omega)).1, nI_eq (by have := (hz (q + 6) (by omega)).2; omega) (by omega)] at a6
    exact ⟨rfl, a0, a1, a2, a3, a4, a5, a6⟩
  · intro h
    obtain ⟨h1, a0, a1, a2, a3, a4, a5, a6⟩ := h
    subst h1
    refine ⟨rfl, fun i hi => ?_⟩
    have hh : i = 0 ∨ i = 1 ∨ i = 2 ∨ i = 3 ∨ i = 4 ∨ i = 5 ∨ i = 6 := by omega
    rcases hh with rfl | rfl | rfl | rfl | rfl | rfl | rfl
    · rw [k0, (hz (q + 0) (by omega)).1]
      exact congrArg nI a0
    · rw [k1, (hz (q + 1) (by omega)).1]
      exact congrArg nI a1
    · rw [k2, (hz (q + 2) (by omega)).1]
      exact congrArg nI a2
    · rw [k3, (hz (q + 3) (by omega)).1]
      exact congrArg nI a3
    · rw [k4, (hz (q + 4) (by omega)).1]
      exact congrArg nI a4
    · rw [k5, (hz (q + 5) (by omega)).1]
      exact congrArg nI a5
    · rw [k6, (hz (q + 6) (by omega)).1]
      exact congrArg nI a6
