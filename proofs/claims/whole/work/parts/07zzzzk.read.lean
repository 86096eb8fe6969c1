/-- the events read so far, in both -/
def rdE (m : Nat) (u : Int64) (V C : St) : Prop := (m ≤ 2048 ∧ u = (if m = 0 then 0 else sQ V 0 (m - 1))) ∧ sI V 1 = nI m ∧ sI C 0 = nI m ∧ ∀ i : Nat, i < m → (∃ k : Nat, k < 5 ∧ sR V 0 i = nI k ∧ evV k (sQ V 1 i) (sR V 1 i)) ∧ sR C 0 i = sR V 0 i ∧ sR C 1 i = sR V 1 i ∧ sQ C 1 i = sQ V 1 i ∧ sQ V 0 i = (if i = 0 then 0 else sQ V 0 (i - 1)) + sQ C 0 i
/-- what is read, in both -/
def rdS (T len : Nat) (R V C : St) : Prop := len ≤ 32768 ∧ sO V 0 = some T ∧ sI V 3 = nI len ∧ sI V 0 = nI 0 ∧ sO C 0 = some 6 ∧ sI C 2 = nI len ∧ ∀ j : Nat, j < len → ∃ z : Nat, z < 256 ∧ sR C 3 j = nI z ∧ sR R 0 j &&& 255 = nI z
/-- no fault yet; a fault, the same in both -/
def rdO (T len m : Nat) (u : Int64) (p : Nat) (R V C : St) : Prop := rdS T len R V C ∧ rdE m u V C ∧ p ≤ len ∧ sI V 2 = nI p ∧ sI V 4 = nI 0 ∧ sI C 3 = nI p ∧ sI C 4 = nI 0
def rdX (T len m : Nat) (u : Int64) (R V C : St) : Prop := rdS T len R V C ∧ rdE m u V C ∧ ∃ f pl : Nat, 1 ≤ f ∧ f ≤ 7 ∧ pl ≤ 32768 ∧ sI V 4 = nI f ∧ sI V 5 = nI pl ∧ sI C 4 = nI (f + 8 * pl)
theorem rdS_V {T len : Nat} {R V C : St} (h : rdS T len R V C) {k : Nat} (h0 : ¬ k = 0) (h3 : ¬ k = 3) (x : Int32) : rdS T len R (pI V k x) C := by
  obtain ⟨a, b, c, d, e⟩ := h
  exact ⟨a, b, by rw [nb_II, if_neg (fun z => h3 z.symm)]; exact c, by rw [nb_II, if_neg (fun z => h0 z.symm)]; exact d, e⟩
theorem rdS_C {T len : Nat} {R V C : St} (h : rdS T len R V C) {k : Nat} (h2 : ¬ k = 2) (x : Int32) : rdS T len R V (pI C k x) := by
  obtain ⟨a, b, c, d, e, f, g⟩ := h
  exact ⟨a, b, c, d, e, by rw [nb_II, if_neg (fun z => h2 z.symm)]; exact f, g⟩
theorem rdE_V {m : Nat} {u : Int64} {V C : St} (h : rdE m u V C) {k : Nat} (h1 : ¬ k = 1) (x : Int32) : rdE m u (pI V k x) C := by
  obtain ⟨a, b, c, d⟩ := h
  exact ⟨a, by rw [nb_II, if_neg (fun z => h1 z.symm)]; exact b, c, d⟩
theorem rdE_C {m : Nat} {u : Int64} {V C : St} (h : rdE m u V C) {k : Nat} (h0 : ¬ k = 0) (x : Int32) : rdE m u V (pI C k x) := by
  obtain ⟨a, b, c, d⟩ := h
  exact ⟨a, b, by rw [nb_II, if_neg (fun z => h0 z.symm)]; exact c, d⟩
theorem bl_o (n : Nat) {V : St} (h : sI V 4 = nI 0) (f pl : Int32) : df_X3_blame n f pl V = some (pI (pI V 4 f) 5 pl) := by
  unfold df_X3_blame df_X3_blame_0
  rw [if_pos (show sI V 4 = 0 from h)]
  rfl
theorem me_o (n : Nat) {C : St} (h : sI C 4 = nI 0) (f pl : Int32) : df_X14_meet n f pl C = some (pI C 4 (f + 8 * pl)) := by
  unfold df_X14_meet df_X14_meet_0
  rw [if_pos (show sI C 4 = 0 from h)]
  rfl
theorem rdX_4 {T len m : Nat} {u : Int64} {R V C : St} (h : rdX T len m u R V C) : (¬ sI V 4 = 0) ∧ (¬ sI C 4 = 0) ∧ ¬ sI C 4 ≤ 0 := by
  obtain ⟨_, _, f, pl, f1, f7, p1, a, b, c⟩ := h
  refine ⟨fun z => ?_, fun z => ?_, fun z => ?_⟩
  · rw [a] at z
    have z : nI f = nI 0 := z
    rw [nI_eq (by omega) (by omega)] at z
    omega
  · rw [c] at z
    have z : nI (f + 8 * pl) = nI 0 := z
    rw [nI_eq (by omega) (by omega)] at z
    omega
  · rw [c] at z
    have z : nI (f + 8 * pl) ≤ nI 0 := z
    rw [nI_leI (by omega) (by omega)] at z
    omega
theorem bl_x (n : Nat) {T len m : Nat} {u : Int64} {R V C : St} (h : rdX T len m u R V C) (f pl : Int32) : df_X3_blame n f pl V = some V := by
  unfold df_X3_blame df_X3_blame_0
  rw [if_neg (rdX_4 h).1]
  rfl
theorem me_x (n : Nat) {T len m : Nat} {u : Int64} {R V C : St} (h : rdX T len m u R V C) (f pl : Int32) : df_X14_meet n f pl C = some C := by
  unfold df_X14_meet df_X14_meet_0
  rw [if_neg (rdX_4 h).2.1]
  rfl
/-- a fault is met, in both -/
theorem rd_fl {T len m : Nat} {u : Int64} {R V C : St} (hS : rdS T len R V C) (hE : rdE m u V C) {f pl : Nat} (f1 : 1 ≤ f) (f7 : f ≤ 7) (hp : pl ≤ 32768) : rdX T len m u R (pI (pI V 4 (nI f)) 5 (nI pl)) (pI C 4 (nI f + 8 * nI pl)) := by
  refine ⟨rdS_C (rdS_V (rdS_V hS (by omega) (by omega) _) (by omega) (by omega) _) (by omega) _, rdE_C (rdE_V (rdE_V hE (by omega) _) (by omega) _) (by omega) _, f, pl, f1, f7, hp, rfl, rfl, ?_⟩
  show nI f + 8 * nI pl = _
  rw [show (8 : Int32) * nI pl = nI (8 * pl) from pk_mul .., nI_add]
theorem rdX_C3 {T len m : Nat} {u : Int64} {R V C : St} (h : rdX T len m u R V C) (x : Int32) : rdX T len m u R V (pI C 3 x) := by
  obtain ⟨hS, hE, f, pl, f1, f7, p1, a, b, c⟩ := h
  exact ⟨rdS_C hS (by omega) _, rdE_C hE (by omega) _, f, pl, f1, f7, p1, a, b, c⟩
theorem nx_x (n : Nat) {T len m : Nat} {u : Int64} {R V C : St} (h : rdX T len m u R V C) : ∃ C' : St, df_X14_next n C = some (0, C') ∧ rdX T len m u R V C' := by
  have n20 : df_X14_next_20 n C = some (0, pI C 3 (sI C 3 + 1)) := by
    unfold df_X14_next_20 df_X14_next_52
    rw [nb_let, if_neg (show ¬ sI (pI C 3 (sI C 3 + 1)) 4 ≤ 0 from (rdX_4 h).2.2)]
  refine ⟨_, ?_, rdX_C3 h (sI C 3 + 1)⟩
  unfold df_X14_next df_X14_next_0
  by_cases c : sI C 3 < sI C 2
  · rw [if_pos c, n20]
  · rw [if_neg c, me_x n h, nb_b1, n20]
/-- a byte is read, in both -/
theorem rd_b (n : Nat) {T len m p : Nat} {u : Int64} {R V C : St} (h : rdO T len m u p R V C) : (∃ z : Nat, p < len ∧ z < 256 ∧ df_X3_readByte n T (R, V) = some (nI z, (R, pI V 2 (nI (p + 1)))) ∧ df_X14_next n C = some (nI z, pI C 3 (nI (p + 1))) ∧ rdO T len m u (p + 1) R (pI V 2 (nI (p + 1))) (pI C 3 (nI (p + 1)))) ∨ ∃ V' C' : St, df_X3_readByte n T (R, V) = some (nI 0, (R, V')) ∧ df_X14_next n C = some (nI 0, C') ∧ rdX T len m u R V' C' := by
  obtain ⟨hS, hE, hp, v2, v4, c3, c4⟩ := h
  obtain ⟨s1, s2, s3, s4, s5, s6, s7⟩ := id hS
  have p1 : nI p + 1 = nI (p + 1) := nI_add ..
  have p2 : nI (p + 1) - 1 = nI p := dn_2 p
  by_cases c : p < len
  · obtain ⟨z, z1, z2, z3⟩ := s7 p c
    refine Or.inl ⟨z, c, z1, ?_, ?_, rdS_C (rdS_V hS (by omega) (by omega) _) (by omega) _, rdE_C (rdE_V hE (by omega) _) (by omega) _, by omega, rfl, v4, rfl, c4⟩
    · unfold df_X3_readByte df_X3_readByte_0
      rw [v2, s3, if_pos (show nI p < nI len by rw [nI_ltI (by omega) (by omega)]; exact c), nb_let]
      dsimp only
      rw [nb_o (show sO (pI V 2 (nI p + 1)) 0 = some T from s2), show sI (pI V 2 (nI p + 1)) 2 = nI p + 1 from rfl, p1, p2, nm_ck (by omega) (by omega), nI_clamp (by omega), z3]
    · unfold df_X14_next df_X14_next_0 df_X14_next_20 df_X14_next_52
      rw [c3, s6, if_pos (show nI p < nI len by rw [nI_ltI (by omega) (by omega)]; exact c), nb_let, show sI (pI C 3 (nI p + 1)) 4 = nI 0 from c4, if_pos (show nI 0 ≤ (0 : Int32) by decide), nb_o (show sO (pI C 3 (nI p + 1)) 0 = some 6 from s5), show sI (pI C 3 (nI p + 1)) 3 = nI p + 1 from rfl, p1, p2, nm_ck (by omega) (by omega), nI_clamp (by omega), show sR (pI C 3 (nI (p + 1))) 3 p = nI z from z2]
  · have nl : ¬ nI p < nI len := fun z => by rw [nI_ltI (by omega) (by omega)] at z; exact c z
    have X := rd_fl hS hE (f := 2) (pl := len) (by omega) (by omega) s1
    obtain ⟨C', g1, g2⟩ := nx_x n X
    refine Or.inr ⟨_, _, ?_, ?_, rdX_C3 X (nI p + 1)⟩
    · unfold df_X3_readByte df_X3_readByte_0
      rw [v2, s3, if_neg nl, bl_o n v4, nb_b1, nb_let]
      rfl
    · unfold df_X14_next df_X14_next_0 df_X14_next_20 df_X14_next_52
      rw [c3, s6, if_neg nl, me_o n c4, nb_b1, nb_let]
      have e4 : ¬ sI (pI (pI C 4 (2 + 8 * nI len)) 3 (sI (pI C 4 (2 + 8 * nI len)) 3 + 1)) 4 ≤ 0 := (rdX_4 X).2.2
      rw [if_neg e4, show sI (pI C 4 (2 + 8 * nI len)) 3 = nI p from c3]
      rfl
theorem or_nn {a b : Int64} (ha : 0 ≤ a.toInt) (hb : 0 ≤ b.toInt) : 0 ≤ (a ||| b).toInt := by
  have ma : a.toBitVec.msb = false := BitVec.msb_eq_false_iff_two_mul_lt.mpr (by
    have := BitVec.toInt_eq_toNat_cond a.toBitVec
    have e : a.toInt = a.toBitVec.toInt := rfl
    rw [e, this] at ha
    by_cases c : 2 * a.toBitVec.toNat < 2 ^ 64
    · exact c
    · rw [if_neg c] at ha
      have := a.toBitVec.isLt
      omega)
  have mb : b.toBitVec.msb = false := BitVec.msb_eq_false_iff_two_mul_lt.mpr (by
    have := BitVec.toInt_eq_toNat_cond b.toBitVec
    have e : b.toInt = b.toBitVec.toInt := rfl
    rw [e, this] at hb
    by_cases c : 2 * b.toBitVec.toNat < 2 ^ 64
    · exact c
    · rw [if_neg c] at hb
      have := b.toBitVec.isLt
      omega)
  have mc : (a ||| b).toBitVec.msb = false := by
    show (a.toBitVec ||| b.toBitVec).msb = false
    rw [BitVec.msb_or, ma, mb]
    rfl
  have e : (a ||| b).toInt = (a ||| b).toBitVec.toInt := rfl
  rw [e, BitVec.toInt_eq_toNat_cond, if_pos (BitVec.msb_eq_false_iff_two_mul_lt.mp mc)]
  omega
theorem sh7_nn {z i : Nat} (hz : z < 128) (hi : i < 7) : 0 ≤ ((nI z).toInt64 <<< ((7 * nI i).toInt64 &&& 63)).toInt := by
  have hs : ∀ i : Fin 7, (((7 * nI i.1).toInt64 &&& 63).toBitVec.smod 64).toNat = 7 * i.1 := by decide
  have e : ((nI z).toInt64 <<< ((7 * nI i).toInt64 &&& 63)).toBitVec.toNat = z * 2 ^ (7 * i) := by
    show ((nI z).toInt64.toBitVec <<< (((7 * nI i).toInt64 &&& 63).toBitVec.smod 64).toNat).toNat = _
    rw [hs ⟨i, hi⟩, BitVec.toNat_shiftLeft, Nat.shiftLeft_eq, nI_64 (by omega), show (Int64.ofNat z).toBitVec.toNat = z by show z % 2 ^ 64 = z; omega]
    apply Nat.mod_eq_of_lt
    have : 2 ^ (7 * i) ≤ 2 ^ 42 := Nat.pow_le_pow_right (by omega) (by omega)
    calc z * 2 ^ (7 * i) ≤ 127 * 2 ^ 42 := Nat.mul_le_mul (by omega) this
      _ < 2 ^ 64 := by decide
  have t : ((nI z).toInt64 <<< ((7 * nI i).toInt64 &&& 63)).toInt = ((nI z).toInt64 <<< ((7 * nI i).toInt64 &&& 63)).toBitVec.toInt := rfl
  have lt : z * 2 ^ (7 * i) < 2 ^ 63 := by
    have : 2 ^ (7 * i) ≤ 2 ^ 42 := Nat.pow_le_pow_right (by omega) (by omega)
    calc z * 2 ^ (7 * i) ≤ 127 * 2 ^ 42 := Nat.mul_le_mul (by omega) this
      _ < 2 ^ 63 := by decide
  rw [t, BitVec.toInt_eq_toNat_cond, e, if_pos (by omega)]
  omega
/-- the end of a number, in both: no fault so far -/
theorem rd_ve (n : Nat) {T len m p : Nat} {u : Int64} {R V C : St} (h : rdO T len m u (p + 1) R V C) {x : Int64} (hx : 0 ≤ x.toInt) : (∃ V' C' : St, df_X3_readVarint_54 n T x (R, V) = some (x, (R, V')) ∧ df_X14_readVarint_83 n x C = some (x, C') ∧ rdO T len m u (p + 1) R V' C' ∧ x.toInt ≤ 1099511627776 ∧ V' = V) ∨ ∃ V' C' : St, df_X3_readVarint_54 n T x (R, V) = some (x, (R, V')) ∧ df_X14_readVarint_83 n x C = some (x, C') ∧ rdX T len m u R V' C' := by
  have eL : (1099511627776 : Int64).toInt = 1099511627776 := by decide
  obtain ⟨hS, hE, hp, v2, v4, c3, c4⟩ := id h
  unfold df_X3_readVarint_54 df_X14_readVarint_83
  by_cases c : x.toInt ≤ 1099511627776
  · have c' : lg_cmp x 1099511627776 ≤ (0 : Int32) := (lcD _ _).mpr (by rw [eL]; exact c)
    rw [if_pos c', if_pos c']
    exact Or.inl ⟨V, C, rfl, rfl, h, c, rfl⟩
  · have c' : ¬ lg_cmp x 1099511627776 ≤ (0 : Int32) := fun z => c (by have z := (lcD _ _).mp z; rw [eL] at z; exact z)
    rw [if_neg c', if_neg c']
    refine Or.inr ⟨_, _, ?_, ?_, rd_fl hS hE (f := 3) (pl := p) (by omega) (by omega) (by have := hS.1; omega)⟩
    · unfold df_X3_readVarint_62 df_X3_readVarint_73
      rw [v2, show nI (p + 1) - 1 = nI p from dn_2 p, bl_o n v4, nb_b1, nb_let]
      rfl
    · unfold df_X14_readVarint_91 df_X14_readVarint_102
      rw [c3, show nI (p + 1) - 1 = nI p from dn_2 p, me_o n c4, nb_b1]
      rfl
theorem rd_v6 (n : Nat) {T len m p : Nat} {u : Int64} {R V C : St} (h : rdO T len m u (p + 1) R V C) (x : Int64) : ∃ V' C' : St, df_X3_readVarint_62 n T x (R, V) = some (x, (R, V')) ∧ df_X14_readVarint_91 n x C = some (x, C') ∧ rdX T len m u R V' C' := by
  obtain ⟨hS, hE, hp, v2, v4, c3, c4⟩ := id h
  refine ⟨_, _, ?_, ?_, rd_fl hS hE (f := 3) (pl := p) (by omega) (by omega) (by have := hS.1; omega)⟩
  · unfold df_X3_readVarint_62 df_X3_readVarint_73
    rw [v2, show nI (p + 1) - 1 = nI p from dn_2 p, bl_o n v4, nb_b1, nb_let]
    rfl
  · unfold df_X14_readVarint_91 df_X14_readVarint_102
    rw [c3, show nI (p + 1) - 1 = nI p from dn_2 p, me_o n c4, nb_b1]
    rfl
/-- the end of a number behind a fault -/
theorem vx_C (n : Nat) {T len m : Nat} {u : Int64} {R V C : St} (h : rdX T len m u R V C) (x : Int64) : df_X3_readVarint_54 n T x (R, V) = some (x, (R, V)) ∧ df_X3_readVarint_62 n T x (R, V) = some (x, (R, V)) := by
  have e : df_X3_readVarint_62 n T x (R, V) = some (x, (R, V)) := by
    unfold df_X3_readVarint_62 df_X3_readVarint_73
    rw [bl_x n h, nb_b1, nb_let]
  refine ⟨?_, e⟩
  unfold df_X3_readVarint_54
  rw [e]
  by_cases c : lg_cmp x 1099511627776 ≤ (0 : Int32)
  · rw [if_pos c]; rfl
  · rw [if_neg c]
theorem vx_R (n : Nat) {T len m : Nat} {u : Int64} {R V C : St} (h : rdX T len m u R V C) (x : Int64) (x3 x4 : Int32) : df_X14_readVarint_73 n x x3 x4 C = some (x, C) := by
  have e : df_X14_readVarint_91 n x C = some (x, C) := by
    unfold df_X14_readVarint_91 df_X14_readVarint_102
    rw [me_x n h, nb_b1]
  have e2 : df_X14_readVarint_83 n x C = some (x, C) := by
    unfold df_X14_readVarint_83
    rw [e]
    by_cases c : lg_cmp x 1099511627776 ≤ (0 : Int32)
    · rw [if_pos c]; rfl
    · rw [if_neg c]
  unfold df_X14_readVarint_73
  rw [e, e2]
  by_cases c : x3 ≤ 1
  · rw [if_pos c]
  · rw [if_neg c]
    by_cases d : x4 = 0
    · rw [if_pos d]
    · rw [if_neg d]
/-- a number in bytes of seven bits is read, in both -/
theorem rd_v (n : Nat) {T len m : Nat} {u : Int64} {R : St} : ∀ (k i g g' p c : Nat) (x : Int64) (V C : St), i + k = 7 → 1 ≤ k → k < g → k < g' → 128 ≤ c → c < 256 → 0 ≤ x.toInt → rdO T len m u p R V C → (∃ (v : Int64) (p' : Nat) (V' C' : St), df_X3_readVarint_4 n T g x (nI i) (R, V) = some (v, (R, V')) ∧ df_X14_readVarint_9 n g' x (nI i) (nI c) C = some (v, C') ∧ rdO T len m u p' R V' C' ∧ 0 ≤ v.toInt ∧ v.toInt ≤ 1099511627776 ∧ ∀ k : Nat, sR V' k = sR V k) ∨ ∃ (v w : Int64) (V' C' : St), df_X3_readVarint_4 n T g x (nI i) (R, V) = some (v, (R, V')) ∧ df_X14_readVarint_9 n g' x (nI i) (nI c) C = some (w, C') ∧ rdX T len m u R V' C' := fun k => by
  induction k with
  | zero => intro i g g' p c x V C _ h1; exact absurd h1 (by omega)
  | succ k ih =>
    intro i g g' p c x V C hik _ hg hg' c1 c2 hx h
    obtain ⟨g1, rfl⟩ : ∃ g1 : Nat, g = g1 + 1 := ⟨g - 1, by omega⟩
    obtain ⟨g2, rfl⟩ : ∃ g2 : Nat, g' = g2 + 1 + 1 := ⟨g' - 2, by omega⟩
    have v4 : sI V 4 = 0 := h.2.2.2.2.1
    have w4 : sI C 4 = 0 := h.2.2.2.2.2.2
    have i7 : ¬ (7 : Int32) ≤ nI i := fun z => by have z : nI 7 ≤ nI i := z; rw [nI_leI (by omega) (by omega)] at z; omega
    have c127 : ¬ nI c ≤ (127 : Int32) := fun z => by have z : nI c ≤ nI 127 := z; rw [nI_leI (by omega) (by omega)] at z; omega
    have i1 : nI i + Int32.ofInt 1 = nI (i + 1) := nI_add ..
    have ii : nI i ≤ (0 : Int32) ↔ i = 0 := nm_nle0 (by omega)
    have ij : nI (i + 1) ≤ (1 : Int32) ↔ i = 0 := by
      show nI (i + 1) ≤ nI 1 ↔ _
      rw [nI_leI (by omega) (by omega)]
      omega
    have j7 : nI (i + 1) = (7 : Int32) ↔ i + 1 = 7 := by
      show nI (i + 1) = nI 7 ↔ _
      rw [nI_eq (by omega) (by omega)]
    -- one turn of each
    have tC : ∀ (z : Int32) (V1 : St), df_X3_readByte n T (R, V) = some (z, (R, V1)) → df_X3_readVarint_4 n T (g1 + 1) x (nI i) (R, V) = if (128 : Int32) ≤ z then df_X3_readVarint_4 n T g1 (x ||| ((z &&& 127).toInt64 <<< ((7 * nI i).toInt64 &&& 63))) (nI (i + 1)) (R, V1) else if i = 0 then df_X3_readVarint_54 n T (x ||| ((z &&& 127).toInt64 <<< ((7 * nI i).toInt64 &&& 63))) (R, V1) else if z = 0 then df_X3_readVarint_62 n T (x ||| ((z &&& 127).toInt64 <<< ((7 * nI i).toInt64 &&& 63))) (R, V1) else df_X3_readVarint_54 n T (x ||| ((z &&& 127).toInt64 <<< ((7 * nI i).toInt64 &&& 63))) (R, V1) := fun z V1 e => by
      show dF_X3_readVarint_4 n T (df_X3_readVarint_4 n T g1) x (nI i) (R, V) = _
      generalize df_X3_readVarint_4 n T g1 = G
      unfold dF_X3_readVarint_4
      rw [if_neg i7, if_pos v4, e, nb_b2, nb_let, nb_let, i1]
      by_cases c : i = 0
      · rw [if_pos (ii.mpr c), if_pos c]
      · rw [if_neg (fun y => c (ii.mp y)), if_neg c]
    have tR : ∀ (z : Int32) (C1 : St), df_X14_next n C = some (z, C1) → df_X14_readVarint_9 n (g2 + 1 + 1) x (nI i) (nI c) C = if i + 1 = 7 then (if z ≤ 127 then df_X14_readVarint_9 n (g2 + 1) (x ||| ((z &&& 127).toInt64 <<< ((7 * nI i).toInt64 &&& 63))) (nI (i + 1)) z C1 else nd_b1 (df_X14_meet n 3 (sI C1 3 - 1) C1) (fun s17 => df_X14_readVarint_9 n (g2 + 1) (x ||| ((z &&& 127).toInt64 <<< ((7 * nI i).toInt64 &&& 63))) (nI (i + 1)) z s17)) else df_X14_readVarint_9 n (g2 + 1) (x ||| ((z &&& 127).toInt64 <<< ((7 * nI i).toInt64 &&& 63))) (nI (i + 1)) z C1 := fun z C1 e => by
      show dF_X14_readVarint_9 n (df_X14_readVarint_9 n (g2 + 1)) x (nI i) (nI c) C = _
      generalize df_X14_readVarint_9 n (g2 + 1) = G
      unfold dF_X14_readVarint_9
      rw [if_neg c127, if_pos w4, e, nb_b2, nb_let, nb_let, i1]
      by_cases c : i + 1 = 7
      · rw [if_pos (j7.mpr c), if_pos c]
      · rw [if_neg (fun y => c (j7.mp y)), if_neg c]
    -- the reference ends
    have rE : ∀ (y : Int64) (z : Int32) (C1 : St), z ≤ 127 → df_X14_readVarint_9 n (g2 + 1) y (nI (i + 1)) z C1 = if i = 0 then df_X14_readVarint_83 n y C1 else if z = 0 then df_X14_readVarint_91 n y C1 else df_X14_readVarint_83 n y C1 := fun y z C1 hz => by
      show dF_X14_readVarint_9 n (df_X14_readVarint_9 n g2) y (nI (i + 1)) z C1 = _
      unfold dF_X14_readVarint_9 df_X14_readVarint_73
      rw [if_pos hz]
      by_cases c : i = 0
      · rw [if_pos (ij.mpr c), if_pos c]
      · rw [if_neg (fun y => c (ij.mp y)), if_neg c]
    rcases rd_b n h with ⟨z, z0, z1, e1, e2, h1⟩ | ⟨V1, C1, e1, e2, h1⟩
    · rw [tC _ _ e1, tR _ _ e2]
      have z127 : nI z &&& 127 = nI (z % 128) := pk_andN (by omega) 7 (by decide)
      have nn : 0 ≤ (x ||| ((nI z &&& 127).toInt64 <<< ((7 * nI i).toInt64 &&& 63))).toInt := by
        rw [z127]
        exact or_nn hx (sh7_nn (by omega) (by omega))
      generalize x ||| ((nI z &&& 127).toInt64 <<< ((7 * nI i).toInt64 &&& 63)) = y at nn
      by_cases zl : z < 128
      · have l1 : ¬ (128 : Int32) ≤ nI z := fun q => by have q : nI 128 ≤ nI z := q; rw [nI_leI (by omega) (by omega)] at q; omega
        have l2 : nI z ≤ (127 : Int32) := (show nI z ≤ nI 127 by rw [nI_leI (by omega) (by omega)]; omega)
        rw [if_neg l1, if_pos l2, rE y _ _ l2]
        have fin : (if i + 1 = 7 then (if i = 0 then df_X14_readVarint_83 n y (pI C 3 (nI (p + 1))) else if nI z = 0 then df_X14_readVarint_91 n y (pI C 3 (nI (p + 1))) else df_X14_readVarint_83 n y (pI C 3 (nI (p + 1)))) else (if i = 0 then df_X14_readVarint_83 n y (pI C 3 (nI (p + 1))) else if nI z = 0 then df_X14_readVarint_91 n y (pI C 3 (nI (p + 1))) else df_X14_readVarint_83 n y (pI C 3 (nI (p + 1))))) = (if i = 0 then df_X14_readVarint_83 n y (pI C 3 (nI (p + 1))) else if nI z = 0 then df_X14_readVarint_91 n y (pI C 3 (nI (p + 1))) else df_X14_readVarint_83 n y (pI C 3 (nI (p + 1)))) := by
          by_cases q : i + 1 = 7
          · rw [if_pos q]
          · rw [if_neg q]
        rw [fin]
        have ok := rd_ve n h1 nn
        have bad := rd_v6 n h1 y
        have go54 : (∃ (v : Int64) (p' : Nat) (V' C' : St), df_X3_readVarint_54 n T y (R, pI V 2 (nI (p + 1))) = some (v, (R, V')) ∧ df_X14_readVarint_83 n y (pI C 3 (nI (p + 1))) = some (v, C') ∧ rdO T len m u p' R V' C' ∧ 0 ≤ v.toInt ∧ v.toInt ≤ 1099511627776 ∧ ∀ k : Nat, sR V' k = sR V k) ∨ ∃ (v w : Int64) (V' C' : St), df_X3_readVarint_54 n T y (R, pI V 2 (nI (p + 1))) = some (v, (R, V')) ∧ df_X14_readVarint_83 n y (pI C 3 (nI (p + 1))) = some (w, C') ∧ rdX T len m u R V' C' := by
          rcases ok with ⟨V', C', a, b, d, f, eV⟩ | ⟨V', C', a, b, d⟩
          · exact Or.inl ⟨y, p + 1, V', C', a, b, d, nn, f, fun k => by rw [eV]; rfl⟩
          · exact Or.inr ⟨y, y, V', C', a, b, d⟩
        by_cases q : i = 0
        · rw [if_pos q, if_pos q]
          exact go54
        · rw [if_neg q, if_neg q]
          by_cases w : nI z = (0 : Int32)
          · rw [if_pos w, if_pos w]
            obtain ⟨V', C', a, b, d⟩ := bad
            exact Or.inr ⟨y, y, V', C', a, b, d⟩
          · rw [if_neg w, if_neg w]
            exact go54
      · have l1 : (128 : Int32) ≤ nI z := (show nI 128 ≤ nI z by rw [nI_leI (by omega) (by omega)]; omega)
        have l2 : ¬ nI z ≤ (127 : Int32) := fun q => by have q : nI z ≤ nI 127 := q; rw [nI_leI (by omega) (by omega)] at q; omega
        rw [if_pos l1, if_neg l2]
        by_cases q : i + 1 = 7
        · rw [if_pos q]
          obtain ⟨hS, hE, hp, v2', v4', c3', c4'⟩ := id h1
          have X := rd_fl hS hE (f := 3) (pl := p) (by omega) (by omega) (by have := hS.1; omega)
          refine Or.inr ⟨0, y, _, _, ?_, ?_, X⟩
          · obtain ⟨g3, rfl⟩ : ∃ g3 : Nat, g1 = g3 + 1 := ⟨g1 - 1, by omega⟩
            show dF_X3_readVarint_4 n T (df_X3_readVarint_4 n T g3) y (nI (i + 1)) (R, pI V 2 (nI (p + 1))) = _
            unfold dF_X3_readVarint_4 df_X3_readVarint_81
            rw [if_pos (show (7 : Int32) ≤ nI (i + 1) by rw [q]; decide), v2', show nI (p + 1) - 1 = nI p from dn_2 p, bl_o n v4', nb_b1, nb_let]
            rfl
          · rw [c3', show nI (p + 1) - 1 = nI p from dn_2 p, me_o n c4', nb_b1]
            show dF_X14_readVarint_9 n (df_X14_readVarint_9 n g2) y (nI (i + 1)) (nI z) _ = _
            unfold dF_X14_readVarint_9
            have e4 : ¬ sI (pI (pI C 3 (nI (p + 1))) 4 (3 + 8 * nI p)) 4 = 0 := (rdX_4 X).2.1
            rw [if_neg l2, if_neg e4]
            exact vx_R n X y _ _
        · rw [if_neg q]
          exact ih (i + 1) g1 (g2 + 1) (p + 1) z y _ _ (by omega) (by omega) (by omega) (by omega) (by omega) z1 nn h1
    · rw [tC _ _ e1, tR _ _ e2]
      generalize x ||| ((nI 0 &&& 127).toInt64 <<< ((7 * nI i).toInt64 &&& 63)) = y
      obtain ⟨w1, w2⟩ := vx_C n h1 y
      have l2 : nI 0 ≤ (127 : Int32) := by decide
      have r1 : df_X14_readVarint_9 n (g2 + 1) y (nI (i + 1)) (nI 0) C1 = some (y, C1) := by
        show dF_X14_readVarint_9 n (df_X14_readVarint_9 n g2) y (nI (i + 1)) (nI 0) C1 = _
        unfold dF_X14_readVarint_9
        rw [if_pos l2]
        exact vx_R n h1 y _ _
      refine Or.inr ⟨y, y, V1, C1, ?_, ?_, h1⟩
      · rw [if_neg (show ¬ (128 : Int32) ≤ nI 0 by decide), w1, w2]
        by_cases q : i = 0
        · rw [if_pos q]
        · rw [if_neg q, if_pos (show nI 0 = (0 : Int32) from rfl)]
      · rw [if_pos l2, r1]
        by_cases q : i + 1 = 7
        · rw [if_pos q]
        · rw [if_neg q]
theorem rd_vN (n : Nat) (hn : 100 < n) {T len m p : Nat} {u : Int64} {R V C : St} (h : rdO T len m u p R V C) : (∃ (v : Int64) (p' : Nat) (V' C' : St), df_X3_readVarint n T (R, V) = some (v, (R, V')) ∧ df_X14_readVarint n C = some (v, C') ∧ rdO T len m u p' R V' C' ∧ 0 ≤ v.toInt ∧ v.toInt ≤ 1099511627776 ∧ ∀ k : Nat, sR V' k = sR V k) ∨ ∃ (v w : Int64) (V' C' : St), df_X3_readVarint n T (R, V) = some (v, (R, V')) ∧ df_X14_readVarint n C = some (w, C') ∧ rdX T len m u R V' C' := rd_v n 7 0 n n p 128 0 V C (by omega) (by omega) (by omega) (by omega) (by omega) (by omega) (by decide) h
theorem rd_vx (n : Nat) (hn : 100 < n) {T len m : Nat} {u : Int64} {R V C : St} (h : rdX T len m u R V C) : (∃ v : Int64, df_X3_readVarint n T (R, V) = some (v, (R, V))) ∧ ∃ v : Int64, df_X14_readVarint n C = some (v, C) := by
  obtain ⟨n', rfl⟩ : ∃ n' : Nat, n = n' + 1 := ⟨n - 1, by omega⟩
  refine ⟨⟨0, ?_⟩, 0, ?_⟩
  · show dF_X3_readVarint_4 (n' + 1) T (df_X3_readVarint_4 (n' + 1) T n') 0 0 (R, V) = _
    unfold dF_X3_readVarint_4 df_X3_readVarint_81
    rw [if_neg (show ¬ (7 : Int32) ≤ 0 by decide), if_neg (rdX_4 h).1, bl_x _ h, nb_b1, nb_let]
  · show dF_X14_readVarint_9 (n' + 1) (df_X14_readVarint_9 (n' + 1) n') 0 0 128 C = _
    unfold dF_X14_readVarint_9
    rw [if_neg (show ¬ (128 : Int32) ≤ 127 by decide), if_neg (rdX_4 h).2.1]
    exact vx_R _ h _ _ _
