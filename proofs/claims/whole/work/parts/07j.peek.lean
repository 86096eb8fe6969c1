theorem nb_byteAt (n : Nat) {P a f r : Nat} (hP : P < 16) (ha : a < 65536) (hf : f < 256) (hr : r < 8) (M : St × St) (hp : sR M.1 2 (64 * P + a / 1024) = nI (8 * f + r)) : df_X6_byteAt n (nI P) (nI a) M = some (((((sR M.1 0 (256 * f + a / 4 % 256)) : Int32).toUInt32 >>> (((8 * nI (a % 4)) : Int32).toUInt32 &&& Int32.toUInt32 31)).toInt32) &&& 255, M) := by
  unfold df_X6_byteAt df_X6_byteAt_0
  rw [nb_us ha 10 10 (by decide), nb_us ha 2 2 (by decide), pk_andN (n := a / 2 ^ 10) (by omega) 6 (by decide), pk_andN (n := a / 2 ^ 2) (by omega) 8 (by decide), pk_andN (n := a) (by omega) 2 (by decide), nb_or hP (by omega)]
  rw [show 64 * P + a / 2 ^ 10 % 2 ^ 6 = 64 * P + a / 1024 from by omega]
  have e : (nI (64 * P + a / 1024)).toInt = ((64 * P + a / 1024 : Nat) : Int) := nI_toInt (by omega)
  rw [nb_ck (by omega) (by omega), nI_clamp (by omega), hp, nb_let, pk_shrN (by omega) ((3 : Int32) &&& 31) 3 (by decide), show (8 * f + r) / 2 ^ 3 = f from by omega, nb_or8 hf (by omega)]
  have e2 : (nI (256 * f + a / 2 ^ 2 % 2 ^ 8)).toInt = ((256 * f + a / 2 ^ 2 % 2 ^ 8 : Nat) : Int) := nI_toInt (by omega)
  rw [nb_ck (by omega) (by omega), nI_clamp (by omega)]
theorem nb_get (n : Nat) {A : Nat} (hA : A < 1048576) (X : St × St) : df_X16_get n (nI A) X = some (((((sR X.1 15 (A / 4)) : Int32).toUInt32 >>> (((8 * nI (A % 4)) : Int32).toUInt32 &&& Int32.toUInt32 31)).toInt32) &&& 255, X) := by
  unfold df_X16_get df_X16_get_0
  rw [pk_shrN (by omega) ((2 : Int32) &&& 31) 2 (by decide), pk_andN (n := A) (by omega) 2 (by decide)]
  have e : (nI (A / 2 ^ 2)).toInt = ((A / 2 ^ 2 : Nat) : Int) := nI_toInt (by omega)
  rw [nb_ck (by omega) (by omega), nI_clamp (by omega)]
theorem nb_there (n : Nat) {P a : Nat} (hP : P < 16) (ha : a < 65536) (X : St × St) : df_X16_isThere n (nI P) (nI a) X = some (if sR X.1 16 (64 * P + a / 1024) = -1 then 0 else 1, X) := by
  unfold df_X16_isThere df_X16_isThere_0 df_X16_isThere_33 df_X16_isThere_34
  rw [if_neg (nI_pos (by omega)), if_neg (show ¬ (65536 : Int32) ≤ nI a from nI_ge (b := 65536) (by omega) (by omega)), show (64 : Int32) = nI 64 from rfl, show (1024 : Int32) = nI 1024 from rfl, pk_mul, pk_div (by omega) (by omega) (by omega), nI_add]
  have e : (nI (64 * P + a / 1024)).toInt = ((64 * P + a / 1024 : Nat) : Int) := nI_toInt (by omega)
  rw [nb_ck (by omega) (by omega), nI_clamp (by omega)]
  by_cases c : sR X.1 16 (64 * P + a / 1024) = -1
  · rw [if_pos c, if_pos c, nb_z0]
  · rw [if_neg c, if_neg c, nb_z1]
/-- a byte that is there, and one that isn't, in both machines -/
theorem nb_peekIn (n : Nat) {P a : Nat} (hP : P < 16) (ha : a < 65536) (M X : St × St) (h : rme M X) : (df_X6_may n (nI P) (nI a) 7 M = some (0, M) ∧ df_X16_peek n (nI P) (nI a) X = some (-1, X)) ∨ ∃ v : Int32, df_X6_may n (nI P) (nI a) 7 M = some (1, M) ∧ df_X6_byteAt n (nI P) (nI a) M = some (v, M) ∧ df_X16_peek n (nI P) (nI a) X = some (v, X) := by
  have hm := nb_may n hP ha 7 M
  have ht := nb_there n hP ha X
  unfold df_X16_peek df_X16_peek_0 df_X16_peek_23
  rcases h P (a / 1024) hP (by omega) with ⟨h1, h2⟩ | ⟨f, r, hf, r1, r2, h1, h2, h3, h4⟩
  · left
    rw [h2, if_pos (by decide)] at hm
    rw [h1, if_pos rfl] at ht
    exact ⟨hm, by rw [ht, nb_b2, nb_nil]⟩
  · right
    have hz : ¬ nI (8 * f + r) &&& 7 = 0 := by
      rw [pk_andN (by omega) 3 (by decide), show (8 * f + r) % 2 ^ 3 = r from by omega]
      exact nI_ne0 (by omega) (by omega)
    rw [h3, if_neg hz] at hm
    rw [h1, if_neg (fun z => absurd (congrArg Int32.toInt z) (by rw [nI_toInt (by omega), show (-1 : Int32).toInt = -1 from by decide]; omega))] at ht
    have hb := nb_byteAt n hP ha hf r2 M h3
    refine ⟨_, hm, hb, ?_⟩
    rw [ht, nb_b2, nb_one, show (65536 : Int32) = nI 65536 from rfl, pk_mul, nI_add, nb_get n (by omega), nb_b2]
    rw [show (65536 * P + a) % 4 = a % 4 from by omega, show (65536 * P + a) / 4 = 16384 * P + 256 * (a / 1024) + a / 4 % 256 from by omega, ← h4 (a / 4 % 256) (by omega)]
