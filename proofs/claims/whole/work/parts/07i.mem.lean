/-- the pages: the same frames and rights, the same words -/
def rme (M X : St × St) : Prop := ∀ p k : Nat, p < 16 → k < 64 → (sR X.1 16 (64 * p + k) = -1 ∧ sR M.1 2 (64 * p + k) = 0) ∨ ∃ f r : Nat, f < 256 ∧ 1 ≤ r ∧ r < 8 ∧ sR X.1 16 (64 * p + k) = nI f ∧ sR X.1 17 (64 * p + k) = nI r ∧ sR M.1 2 (64 * p + k) = nI (8 * f + r) ∧ ∀ j : Nat, j < 256 → sR M.1 0 (256 * f + j) = sR X.1 15 (16384 * p + 256 * k + j)
theorem nb_or {a b : Nat} (ha : a < 16) (hb : b < 64) : (nI a <<< ((6 : Int32) &&& 31)) ||| nI b = nI (64 * a + b) := by
  have : ∀ (a : Fin 16) (b : Fin 64), (nI a.val <<< ((6 : Int32) &&& 31)) ||| nI b.val = nI (64 * a.val + b.val) := by decide +kernel
  exact this ⟨a, ha⟩ ⟨b, hb⟩
theorem nb_or8 {a b : Nat} (ha : a < 256) (hb : b < 256) : (nI a <<< ((8 : Int32) &&& 31)) ||| nI b = nI (256 * a + b) := by
  rw [pk_shlN ((8 : Int32) &&& 31) 8 (by decide) (by omega)]
  have h : ∀ (b : Fin 256), True := fun _ => trivial
  apply Int32.toBitVec_inj.mp
  apply BitVec.eq_of_toNat_eq
  rw [Int32.toBitVec_or, BitVec.toNat_or, pk_tn (by omega), pk_tn (by omega), pk_tn (by omega)]
  rw [show a * 2 ^ 8 = a <<< 8 from by rw [Nat.shiftLeft_eq], ← Nat.shiftLeft_add_eq_or_of_lt (by omega), Nat.shiftLeft_eq]
  omega
theorem nb_us {a : Nat} (ha : a < 65536) (s : Int32) (k : Nat) (hs : ((s.toUInt32 &&& Int32.toUInt32 31).toBitVec % 32).toNat = k) : ((nI a).toUInt32 >>> (s.toUInt32 &&& Int32.toUInt32 31)).toInt32 = nI (a / 2 ^ k) := pk_ushrN (by omega) s k hs
theorem nb_may (n : Nat) {P a : Nat} (hP : P < 16) (ha : a < 65536) (w : Int32) (M : St × St) : df_X6_may n (nI P) (nI a) w M = some (if sR M.1 2 (64 * P + a / 1024) &&& w = 0 then 0 else 1, M) := by
  unfold df_X6_may df_X6_may_0 df_X6_may_30 df_X6_may_31
  rw [nb_us ha 16 16 (by decide), nb_us ha 10 10 (by decide), show a / 2 ^ 16 = 0 from by omega, show nI 0 = 0 from rfl, if_pos rfl, nb_or hP (by omega)]
  have e : (nI (64 * P + a / 2 ^ 10)).toInt = ((64 * P + a / 2 ^ 10 : Nat) : Int) := nI_toInt (by omega)
  rw [nb_ck (by omega) (by omega), nI_clamp (by omega)]
  by_cases c : sR M.1 2 (64 * P + a / 1024) &&& w = 0
  · rw [if_pos c, if_pos c, nb_z0]
  · rw [if_neg c, if_neg c, nb_z1]
