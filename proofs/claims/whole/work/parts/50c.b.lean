/-- the lowest bit from 1 on -/
def tz (c : Nat) : Nat := if c / 2 % 2 = 1 then 1 else if c / 4 % 2 = 1 then 2 else if c / 8 % 2 = 1 then 3 else if c / 16 % 2 = 1 then 4 else if c / 32 % 2 = 1 then 5 else if c / 64 % 2 = 1 then 6 else if c / 128 % 2 = 1 then 7 else if c / 256 % 2 = 1 then 8 else if c / 512 % 2 = 1 then 9 else if c / 1024 % 2 = 1 then 10 else if c / 2048 % 2 = 1 then 11 else if c / 4096 % 2 = 1 then 12 else if c / 8192 % 2 = 1 then 13 else if c / 16384 % 2 = 1 then 14 else if c / 32768 % 2 = 1 then 15 else 16
theorem tz_n (n : Nat) (h : Int32) : df_J6_numberOfTrailingZeros_0f7a4 n h () = df_J6_numberOfTrailingZeros_0f7a4 0 h () := rfl
theorem tz_0 : ∀ h : Fin 1024, df_J6_numberOfTrailingZeros_0f7a4 0 (nI (2 * (1 + h.1))) () = some (nI (tz (2 * (1 + h.1))), ()) ∧ (2 * (1 + h.1) = 65536 ∨ tz (2 * (1 + h.1)) < 16) := by decide +kernel
theorem tz_1 : ∀ h : Fin 1024, df_J6_numberOfTrailingZeros_0f7a4 0 (nI (2 * (1025 + h.1))) () = some (nI (tz (2 * (1025 + h.1))), ()) ∧ (2 * (1025 + h.1) = 65536 ∨ tz (2 * (1025 + h.1)) < 16) := by decide +kernel
theorem tz_2 : ∀ h : Fin 1024, df_J6_numberOfTrailingZeros_0f7a4 0 (nI (2 * (2049 + h.1))) () = some (nI (tz (2 * (2049 + h.1))), ()) ∧ (2 * (2049 + h.1) = 65536 ∨ tz (2 * (2049 + h.1)) < 16) := by decide +kernel
theorem tz_3 : ∀ h : Fin 1024, df_J6_numberOfTrailingZeros_0f7a4 0 (nI (2 * (3073 + h.1))) () = some (nI (tz (2 * (3073 + h.1))), ()) ∧ (2 * (3073 + h.1) = 65536 ∨ tz (2 * (3073 + h.1)) < 16) := by decide +kernel
theorem tz_4 : ∀ h : Fin 1024, df_J6_numberOfTrailingZeros_0f7a4 0 (nI (2 * (4097 + h.1))) () = some (nI (tz (2 * (4097 + h.1))), ()) ∧ (2 * (4097 + h.1) = 65536 ∨ tz (2 * (4097 + h.1)) < 16) := by decide +kernel
theorem tz_5 : ∀ h : Fin 1024, df_J6_numberOfTrailingZeros_0f7a4 0 (nI (2 * (5121 + h.1))) () = some (nI (tz (2 * (5121 + h.1))), ()) ∧ (2 * (5121 + h.1) = 65536 ∨ tz (2 * (5121 + h.1)) < 16) := by decide +kernel
theorem tz_6 : ∀ h : Fin 1024, df_J6_numberOfTrailingZeros_0f7a4 0 (nI (2 * (6145 + h.1))) () = some (nI (tz (2 * (6145 + h.1))), ()) ∧ (2 * (6145 + h.1) = 65536 ∨ tz (2 * (6145 + h.1)) < 16) := by decide +kernel
theorem tz_7 : ∀ h : Fin 1024, df_J6_numberOfTrailingZeros_0f7a4 0 (nI (2 * (7169 + h.1))) () = some (nI (tz (2 * (7169 + h.1))), ()) ∧ (2 * (7169 + h.1) = 65536 ∨ tz (2 * (7169 + h.1)) < 16) := by decide +kernel
theorem tz_8 : ∀ h : Fin 1024, df_J6_numberOfTrailingZeros_0f7a4 0 (nI (2 * (8193 + h.1))) () = some (nI (tz (2 * (8193 + h.1))), ()) ∧ (2 * (8193 + h.1) = 65536 ∨ tz (2 * (8193 + h.1)) < 16) := by decide +kernel
theorem tz_9 : ∀ h : Fin 1024, df_J6_numberOfTrailingZeros_0f7a4 0 (nI (2 * (9217 + h.1))) () = some (nI (tz (2 * (9217 + h.1))), ()) ∧ (2 * (9217 + h.1) = 65536 ∨ tz (2 * (9217 + h.1)) < 16) := by decide +kernel
theorem tz_10 : ∀ h : Fin 1024, df_J6_numberOfTrailingZeros_0f7a4 0 (nI (2 * (10241 + h.1))) () = some (nI (tz (2 * (10241 + h.1))), ()) ∧ (2 * (10241 + h.1) = 65536 ∨ tz (2 * (10241 + h.1)) < 16) := by decide +kernel
theorem tz_11 : ∀ h : Fin 1024, df_J6_numberOfTrailingZeros_0f7a4 0 (nI (2 * (11265 + h.1))) () = some (nI (tz (2 * (11265 + h.1))), ()) ∧ (2 * (11265 + h.1) = 65536 ∨ tz (2 * (11265 + h.1)) < 16) := by decide +kernel
theorem tz_12 : ∀ h : Fin 1024, df_J6_numberOfTrailingZeros_0f7a4 0 (nI (2 * (12289 + h.1))) () = some (nI (tz (2 * (12289 + h.1))), ()) ∧ (2 * (12289 + h.1) = 65536 ∨ tz (2 * (12289 + h.1)) < 16) := by decide +kernel
theorem tz_13 : ∀ h : Fin 1024, df_J6_numberOfTrailingZeros_0f7a4 0 (nI (2 * (13313 + h.1))) () = some (nI (tz (2 * (13313 + h.1))), ()) ∧ (2 * (13313 + h.1) = 65536 ∨ tz (2 * (13313 + h.1)) < 16) := by decide +kernel
theorem tz_14 : ∀ h : Fin 1024, df_J6_numberOfTrailingZeros_0f7a4 0 (nI (2 * (14337 + h.1))) () = some (nI (tz (2 * (14337 + h.1))), ()) ∧ (2 * (14337 + h.1) = 65536 ∨ tz (2 * (14337 + h.1)) < 16) := by decide +kernel
theorem tz_15 : ∀ h : Fin 1024, df_J6_numberOfTrailingZeros_0f7a4 0 (nI (2 * (15361 + h.1))) () = some (nI (tz (2 * (15361 + h.1))), ()) ∧ (2 * (15361 + h.1) = 65536 ∨ tz (2 * (15361 + h.1)) < 16) := by decide +kernel
theorem tz_16 : ∀ h : Fin 1024, df_J6_numberOfTrailingZeros_0f7a4 0 (nI (2 * (16385 + h.1))) () = some (nI (tz (2 * (16385 + h.1))), ()) ∧ (2 * (16385 + h.1) = 65536 ∨ tz (2 * (16385 + h.1)) < 16) := by decide +kernel
theorem tz_17 : ∀ h : Fin 1024, df_J6_numberOfTrailingZeros_0f7a4 0 (nI (2 * (17409 + h.1))) () = some (nI (tz (2 * (17409 + h.1))), ()) ∧ (2 * (17409 + h.1) = 65536 ∨ tz (2 * (17409 + h.1)) < 16) := by decide +kernel
theorem tz_18 : ∀ h : Fin 1024, df_J6_numberOfTrailingZeros_0f7a4 0 (nI (2 * (18433 + h.1))) () = some (nI (tz (2 * (18433 + h.1))), ()) ∧ (2 * (18433 + h.1) = 65536 ∨ tz (2 * (18433 + h.1)) < 16) := by decide +kernel
theorem tz_19 : ∀ h : Fin 1024, df_J6_numberOfTrailingZeros_0f7a4 0 (nI (2 * (19457 + h.1))) () = some (nI (tz (2 * (19457 + h.1))), ()) ∧ (2 * (19457 + h.1) = 65536 ∨ tz (2 * (19457 + h.1)) < 16) := by decide +kernel
theorem tz_20 : ∀ h : Fin 1024, df_J6_numberOfTrailingZeros_0f7a4 0 (nI (2 * (20481 + h.1))) () = some (nI (tz (2 * (20481 + h.1))), ()) ∧ (2 * (20481 + h.1) = 65536 ∨ tz (2 * (20481 + h.1)) < 16) := by decide +kernel
theorem tz_21 : ∀ h : Fin 1024, df_J6_numberOfTrailingZeros_0f7a4 0 (nI (2 * (21505 + h.1))) () = some (nI (tz (2 * (21505 + h.1))), ()) ∧ (2 * (21505 + h.1) = 65536 ∨ tz (2 * (21505 + h.1)) < 16) := by decide +kernel
theorem tz_22 : ∀ h : Fin 1024, df_J6_numberOfTrailingZeros_0f7a4 0 (nI (2 * (22529 + h.1))) () = some (nI (tz (2 * (22529 + h.1))), ()) ∧ (2 * (22529 + h.1) = 65536 ∨ tz (2 * (22529 + h.1)) < 16) := by decide +kernel
theorem tz_23 : ∀ h : Fin 1024, df_J6_numberOfTrailingZeros_0f7a4 0 (nI (2 * (23553 + h.1))) () = some (nI (tz (2 * (23553 + h.1))), ()) ∧ (2 * (23553 + h.1) = 65536 ∨ tz (2 * (23553 + h.1)) < 16) := by decide +kernel
theorem tz_24 : ∀ h : Fin 1024, df_J6_numberOfTrailingZeros_0f7a4 0 (nI (2 * (24577 + h.1))) () = some (nI (tz (2 * (24577 + h.1))), ()) ∧ (2 * (24577 + h.1) = 65536 ∨ tz (2 * (24577 + h.1)) < 16) := by decide +kernel
theorem tz_25 : ∀ h : Fin 1024, df_J6_numberOfTrailingZeros_0f7a4 0 (nI (2 * (25601 + h.1))) () = some (nI (tz (2 * (25601 + h.1))), ()) ∧ (2 * (25601 + h.1) = 65536 ∨ tz (2 * (25601 + h.1)) < 16) := by decide +kernel
theorem tz_26 : ∀ h : Fin 1024, df_J6_numberOfTrailingZeros_0f7a4 0 (nI (2 * (26625 + h.1))) () = some (nI (tz (2 * (26625 + h.1))), ()) ∧ (2 * (26625 + h.1) = 65536 ∨ tz (2 * (26625 + h.1)) < 16) := by decide +kernel
theorem tz_27 : ∀ h : Fin 1024, df_J6_numberOfTrailingZeros_0f7a4 0 (nI (2 * (27649 + h.1))) () = some (nI (tz (2 * (27649 + h.1))), ()) ∧ (2 * (27649 + h.1) = 65536 ∨ tz (2 * (27649 + h.1)) < 16) := by decide +kernel
theorem tz_28 : ∀ h : Fin 1024, df_J6_numberOfTrailingZeros_0f7a4 0 (nI (2 * (28673 + h.1))) () = some (nI (tz (2 * (28673 + h.1))), ()) ∧ (2 * (28673 + h.1) = 65536 ∨ tz (2 * (28673 + h.1)) < 16) := by decide +kernel
theorem tz_29 : ∀ h : Fin 1024, df_J6_numberOfTrailingZeros_0f7a4 0 (nI (2 * (29697 + h.1))) () = some (nI (tz (2 * (29697 + h.1))), ()) ∧ (2 * (29697 + h.1) = 65536 ∨ tz (2 * (29697 + h.1)) < 16) := by decide +kernel
theorem tz_30 : ∀ h : Fin 1024, df_J6_numberOfTrailingZeros_0f7a4 0 (nI (2 * (30721 + h.1))) () = some (nI (tz (2 * (30721 + h.1))), ()) ∧ (2 * (30721 + h.1) = 65536 ∨ tz (2 * (30721 + h.1)) < 16) := by decide +kernel
theorem tz_31 : ∀ h : Fin 1024, df_J6_numberOfTrailingZeros_0f7a4 0 (nI (2 * (31745 + h.1))) () = some (nI (tz (2 * (31745 + h.1))), ()) ∧ (2 * (31745 + h.1) = 65536 ∨ tz (2 * (31745 + h.1)) < 16) := by decide +kernel
theorem tz_is (n : Nat) {c : Nat} (h0 : 0 < c) (h1 : c < 32768) : df_J6_numberOfTrailingZeros_0f7a4 n (nI (2 * c)) () = some (nI (tz (2 * c)), ()) ∧ tz (2 * c) < 16 := by
  rw [tz_n]
  by_cases c0 : c < 1025
  · have := tz_0 ⟨c - 1, by omega⟩
    rw [show 1 + (⟨c - 1, by omega⟩ : Fin 1024).1 = c from by show 1 + (c - 1) = c; omega] at this
    exact ⟨this.1, by rcases this.2 with e | e <;> omega⟩
  by_cases c1 : c < 2049
  · have := tz_1 ⟨c - 1025, by omega⟩
    rw [show 1025 + (⟨c - 1025, by omega⟩ : Fin 1024).1 = c from by show 1025 + (c - 1025) = c; omega] at this
    exact ⟨this.1, by rcases this.2 with e | e <;> omega⟩
  by_cases c2 : c < 3073
  · have := tz_2 ⟨c - 2049, by omega⟩
    rw [show 2049 + (⟨c - 2049, by omega⟩ : Fin 1024).1 = c from by show 2049 + (c - 2049) = c; omega] at this
    exact ⟨this.1, by rcases this.2 with e | e <;> omega⟩
  by_cases c3 : c < 4097
  · have := tz_3 ⟨c - 3073, by omega⟩
    rw [show 3073 + (⟨c - 3073, by omega⟩ : Fin 1024).1 = c from by show 3073 + (c - 3073) = c; omega] at this
    exact ⟨this.1, by rcases this.2 with e | e <;> omega⟩
  by_cases c4 : c < 5121
  · have := tz_4 ⟨c - 4097, by omega⟩
    rw [show 4097 + (⟨c - 4097, by omega⟩ : Fin 1024).1 = c from by show 4097 + (c - 4097) = c; omega] at this
    exact ⟨this.1, by rcases this.2 with e | e <;> omega⟩
  by_cases c5 : c < 6145
  · have := tz_5 ⟨c - 5121, by omega⟩
    rw [show 5121 + (⟨c - 5121, by omega⟩ : Fin 1024).1 = c from by show 5121 + (c - 5121) = c; omega] at this
    exact ⟨this.1, by rcases this.2 with e | e <;> omega⟩
  by_cases c6 : c < 7169
  · have := tz_6 ⟨c - 6145, by omega⟩
    rw [show 6145 + (⟨c - 6145, by omega⟩ : Fin 1024).1 = c from by show 6145 + (c - 6145) = c; omega] at this
    exact ⟨this.1, by rcases this.2 with e | e <;> omega⟩
  by_cases c7 : c < 8193
  · have := tz_7 ⟨c - 7169, by omega⟩
    rw [show 7169 + (⟨c - 7169, by omega⟩ : Fin 1024).1 = c from by show 7169 + (c - 7169) = c; omega] at this
    exact ⟨this.1, by rcases this.2 with e | e <;> omega⟩
  by_cases c8 : c < 9217
  · have := tz_8 ⟨c - 8193, by omega⟩
    rw [show 8193 + (⟨c - 8193, by omega⟩ : Fin 1024).1 = c from by show 8193 + (c - 8193) = c; omega] at this
    exact ⟨this.1, by rcases this.2 with e | e <;> omega⟩
  by_cases c9 : c < 10241
  · have := tz_9 ⟨c - 9217, by omega⟩
    rw [show 9217 + (⟨c - 9217, by omega⟩ : Fin 1024).1 = c from by show 9217 + (c - 9217) = c; omega] at this
    exact ⟨this.1, by rcases this.2 with e | e <;> omega⟩
  by_cases c10 : c < 11265
  · have := tz_10 ⟨c - 10241, by omega⟩
    rw [show 10241 + (⟨c - 10241, by omega⟩ : Fin 1024).1 = c from by show 10241 + (c - 10241) = c; omega] at this
    exact ⟨this.1, by rcases this.2 with e | e <;> omega⟩
  by_cases c11 : c < 12289
  · have := tz_11 ⟨c - 11265, by omega⟩
    rw [show 11265 + (⟨c - 11265, by omega⟩ : Fin 1024).1 = c from by show 11265 + (c - 11265) = c; omega] at this
    exact ⟨this.1, by rcases this.2 with e | e <;> omega⟩
  by_cases c12 : c < 13313
  · have := tz_12 ⟨c - 12289, by omega⟩
    rw [show 12289 + (⟨c - 12289, by omega⟩ : Fin 1024).1 = c from by show 12289 + (c - 12289) = c; omega] at this
    exact ⟨this.1, by rcases this.2 with e | e <;> omega⟩
  by_cases c13 : c < 14337
  · have := tz_13 ⟨c - 13313, by omega⟩
    rw [show 13313 + (⟨c - 13313, by omega⟩ : Fin 1024).1 = c from by show 13313 + (c - 13313) = c; omega] at this
    exact ⟨this.1, by rcases this.2 with e | e <;> omega⟩
  by_cases c14 : c < 15361
  · have := tz_14 ⟨c - 14337, by omega⟩
    rw [show 14337 + (⟨c - 14337, by omega⟩ : Fin 1024).1 = c from by show 14337 + (c - 14337) = c; omega] at this
    exact ⟨this.1, by rcases this.2 with e | e <;> omega⟩
  by_cases c15 : c < 16385
  · have := tz_15 ⟨c - 15361, by omega⟩
    rw [show 15361 + (⟨c - 15361, by omega⟩ : Fin 1024).1 = c from by show 15361 + (c - 15361) = c; omega] at this
    exact ⟨this.1, by rcases this.2 with e | e <;> omega⟩
  by_cases c16 : c < 17409
  · have := tz_16 ⟨c - 16385, by omega⟩
    rw [show 16385 + (⟨c - 16385, by omega⟩ : Fin 1024).1 = c from by show 16385 + (c - 16385) = c; omega] at this
    exact ⟨this.1, by rcases this.2 with e | e <;> omega⟩
  by_cases c17 : c < 18433
  · have := tz_17 ⟨c - 17409, by omega⟩
    rw [show 17409 + (⟨c - 17409, by omega⟩ : Fin 1024).1 = c from by show 17409 + (c - 17409) = c; omega] at this
    exact ⟨this.1, by rcases this.2 with e | e <;> omega⟩
  by_cases c18 : c < 19457
  · have := tz_18 ⟨c - 18433, by omega⟩
    rw [show 18433 + (⟨c - 18433, by omega⟩ : Fin 1024).1 = c from by show 18433 + (c - 18433) = c; omega] at this
    exact ⟨this.1, by rcases this.2 with e | e <;> omega⟩
  by_cases c19 : c < 20481
  · have := tz_19 ⟨c - 19457, by omega⟩
    rw [show 19457 + (⟨c - 19457, by omega⟩ : Fin 1024).1 = c from by show 19457 + (c - 19457) = c; omega] at this
    exact ⟨this.1, by rcases this.2 with e | e <;> omega⟩
  by_cases c20 : c < 21505
  · have := tz_20 ⟨c - 20481, by omega⟩
    rw [show 20481 + (⟨c - 20481, by omega⟩ : Fin 1024).1 = c from by show 20481 + (c - 20481) = c; omega] at this
    exact ⟨this.1, by rcases this.2 with e | e <;> omega⟩
  by_cases c21 : c < 22529
  · have := tz_21 ⟨c - 21505, by omega⟩
    rw [show 21505 + (⟨c - 21505, by omega⟩ : Fin 1024).1 = c from by show 21505 + (c - 21505) = c; omega] at this
    exact ⟨this.1, by rcases this.2 with e | e <;> omega⟩
  by_cases c22 : c < 23553
  · have := tz_22 ⟨c - 22529, by omega⟩
    rw [show 22529 + (⟨c - 22529, by omega⟩ : Fin 1024).1 = c from by show 22529 + (c - 22529) = c; omega] at this
    exact ⟨this.1, by rcases this.2 with e | e <;> omega⟩
  by_cases c23 : c < 24577
  · have := tz_23 ⟨c - 23553, by omega⟩
    rw [show 23553 + (⟨c - 23553, by omega⟩ : Fin 1024).1 = c from by show 23553 + (c - 23553) = c; omega] at this
    exact ⟨this.1, by rcases this.2 with e | e <;> omega⟩
  by_cases c24 : c < 25601
  · have := tz_24 ⟨c - 24577, by omega⟩
    rw [show 24577 + (⟨c - 24577, by omega⟩ : Fin 1024).1 = c from by show 24577 + (c - 24577) = c; omega] at this
    exact ⟨this.1, by rcases this.2 with e | e <;> omega⟩
  by_cases c25 : c < 26625
  · have := tz_25 ⟨c - 25601, by omega⟩
    rw [show 25601 + (⟨c - 25601, by omega⟩ : Fin 1024).1 = c from by show 25601 + (c - 25601) = c; omega] at this
    exact ⟨this.1, by rcases this.2 with e | e <;> omega⟩
  by_cases c26 : c < 27649
  · have := tz_26 ⟨c - 26625, by omega⟩
    rw [show 26625 + (⟨c - 26625, by omega⟩ : Fin 1024).1 = c from by show 26625 + (c - 26625) = c; omega] at this
    exact ⟨this.1, by rcases this.2 with e | e <;> omega⟩
  by_cases c27 : c < 28673
  · have := tz_27 ⟨c - 27649, by omega⟩
    rw [show 27649 + (⟨c - 27649, by omega⟩ : Fin 1024).1 = c from by show 27649 + (c - 27649) = c; omega] at this
    exact ⟨this.1, by rcases this.2 with e | e <;> omega⟩
  by_cases c28 : c < 29697
  · have := tz_28 ⟨c - 28673, by omega⟩
    rw [show 28673 + (⟨c - 28673, by omega⟩ : Fin 1024).1 = c from by show 28673 + (c - 28673) = c; omega] at this
    exact ⟨this.1, by rcases this.2 with e | e <;> omega⟩
  by_cases c29 : c < 30721
  · have := tz_29 ⟨c - 29697, by omega⟩
    rw [show 29697 + (⟨c - 29697, by omega⟩ : Fin 1024).1 = c from by show 29697 + (c - 29697) = c; omega] at this
    exact ⟨this.1, by rcases this.2 with e | e <;> omega⟩
  by_cases c30 : c < 31745
  · have := tz_30 ⟨c - 30721, by omega⟩
    rw [show 30721 + (⟨c - 30721, by omega⟩ : Fin 1024).1 = c from by show 30721 + (c - 30721) = c; omega] at this
    exact ⟨this.1, by rcases this.2 with e | e <;> omega⟩
  have := tz_31 ⟨c - 31745, by omega⟩
  rw [show 31745 + (⟨c - 31745, by omega⟩ : Fin 1024).1 = c from by show 31745 + (c - 31745) = c; omega] at this
  exact ⟨this.1, by rcases this.2 with e | e <;> omega⟩
theorem nm_m512 {k : Nat} (h : k < 2 ^ 32) : nI k &&& nI 512 = nI (k / 512 % 2 * 512) := by
  apply Int32.toBitVec_inj.mp
  apply BitVec.eq_of_toNat_eq
  rw [Int32.toBitVec_and, BitVec.toNat_and, pk_tn h, pk_tn (by omega), pk_tn (by omega)]
  apply Nat.eq_of_testBit_eq
  intro i
  rw [Nat.testBit_and, show (512 : Nat) = 2 ^ 9 from rfl, Nat.testBit_two_pow, show k / 2 ^ 9 % 2 * 2 ^ 9 = 2 ^ 9 * (k / 2 ^ 9 % 2 ^ 1) from Nat.mul_comm _ _, Nat.testBit_two_pow_mul, Nat.testBit_mod_two_pow, Nat.testBit_div_two_pow]
  by_cases c : 9 = i
  · subst c
    show (k.testBit 9 && true) = (true && (true && k.testBit 9))
    rw [Bool.and_true, Bool.true_and, Bool.true_and]
  · rw [decide_eq_false c, Bool.and_false]
    by_cases d : i ≥ 9
    · rw [decide_eq_true d, decide_eq_false (show ¬ i - 9 < 1 by omega)]; rfl
    · rw [decide_eq_false d]; rfl
theorem tz_f (c : Nat) : fN (fun s => decide (c / 2 ^ s % 2 = 1)) 1 15 = tz c := by
  unfold tz
  simp only [fN, decide_eq_true_eq, Nat.reducePow, Nat.reduceAdd]
/-- the signal that would be taken -/
def tk (c w : Nat) : Nat := if c / 512 % 2 = 1 then 9 else if w = 1 then 0 else if c = 0 then 0 else tz c
theorem nk_takeable (n : Nat) (hn : 1024 < n) {M X : St × St} {p c w : Nat} (hp : p < 16) (hc : c < 32768) (hw : w < 2) (e1 : sR M.1 6 (p * 7 + 3) = nI (2 * c)) (e2 : sR M.1 6 (p * 7 + 4) = nI w) (f1 : sR X.1 4 p = nI (2 * c)) (f2 : sR X.1 8 p = nI w) : df_X6_takeable n (nI p) M = some (nI (tk (2 * c) w), M) ∧ df_X16_takeable n (nI p) X = some (nI (tk (2 * c) w), X) ∧ tk (2 * c) w < 16 := by
  have u1 : p * 7 + 3 < 112 := by omega
  have u2 : p * 7 + 4 < 112 := by omega
  have u3 : p < 2 ^ 31 := by omega
  have u4 : 2 * c < 2 ^ 32 := by omega
  have u5 : 2 * c < 2 ^ 31 := by omega
  have m5 := nm_m512 u4
  have m6 := nm_m512 (k := 2 * c / 512 % 2 * 512) (by omega)
  by_cases b9 : 2 * c / 512 % 2 = 1
  · have et : tk (2 * c) w = 9 := if_pos b9
    rw [et]
    rw [b9] at m5 m6
    refine ⟨?_, ?_, by omega⟩
    · have cw : w = 0 ∨ w = 1 := by omega
      rcases cw with e | e
      · subst e
        simp (disch := (first | assumption | decide | omega)) only [df_X6_takeable_55, df_X6_takeable_32, df_X6_takeable_0, df_X6_takeable, e1, e2, m5, m6, eq_self, Nat.reduceEqDiff, Nat.reduceLeDiff, nl_0, nl_3, nl_4, nl_6, nl_7, nl_9, nl_112, nl_512, no_1, no_1024, pk_mul, nI_add, nm_ck, nI_clamp, nI_ltI, nI_leI, nI_eq, nb_b2, nb_b1, ↓nb_let, nm_z0, nm_z1, nb_II, nb_IR, nb_RI, nb_RR, nm_IL, nm_IQ, nm_RL, nm_RQ, nm_LI, nm_LR, nm_LL, nm_LQ, nm_QI, nm_QR, nm_QL, nm_QQ, nm_rr, nm_ii, nm_eqm, not_false_eq_true, pk_sub, nm_div, nm_shl, nm_shr, nm_ush, nm_or8, nm_or64, nm_or256, nm_m1, nm_m3, nm_m7, nm_m15, nm_m31, nm_m63, nm_m255, nm_m511, nm_m1023, nm_m2047, nm_m65535, Nat.reduceMod, Nat.reducePow, Nat.reduceAdd, Nat.reduceSub, Nat.reduceMul, nm_bo, nm_bi, nm_rc, nm_ic, nm_ri, nm_rl, nm_rq, nm_ql, nm_qi, nm_li, nm_us, nm_uu, nm_cp, nm_sa31, nm_sa7, nm_m127, nm_m2, nm_nz, nm_nzk, nm_eq32, nm_nzf, if_true, if_false, ↓reduceIte, if_pos, if_neg]
      · subst e
        simp (disch := (first | assumption | decide | omega)) only [df_X6_takeable_55, df_X6_takeable_32, df_X6_takeable_0, df_X6_takeable, e1, e2, m5, m6, eq_self, Nat.reduceEqDiff, Nat.reduceLeDiff, nl_0, nl_3, nl_4, nl_6, nl_7, nl_9, nl_112, nl_512, no_1, no_1024, pk_mul, nI_add, nm_ck, nI_clamp, nI_ltI, nI_leI, nI_eq, nb_b2, nb_b1, ↓nb_let, nm_z0, nm_z1, nb_II, nb_IR, nb_RI, nb_RR, nm_IL, nm_IQ, nm_RL, nm_RQ, nm_LI, nm_LR, nm_LL, nm_LQ, nm_QI, nm_QR, nm_QL, nm_QQ, nm_rr, nm_ii, nm_eqm, not_false_eq_true, pk_sub, nm_div, nm_shl, nm_shr, nm_ush, nm_or8, nm_or64, nm_or256, nm_m1, nm_m3, nm_m7, nm_m15, nm_m31, nm_m63, nm_m255, nm_m511, nm_m1023, nm_m2047, nm_m65535, Nat.reduceMod, Nat.reducePow, Nat.reduceAdd, Nat.reduceSub, Nat.reduceMul, nm_bo, nm_bi, nm_rc, nm_ic, nm_ri, nm_rl, nm_rq, nm_ql, nm_qi, nm_li, nm_us, nm_uu, nm_cp, nm_sa31, nm_sa7, nm_m127, nm_m2, nm_nz, nm_nzk, nm_eq32, nm_nzf, if_true, if_false, ↓reduceIte, if_pos, if_neg]
    · simp (disch := (first | assumption | decide | omega)) only [df_X16_takeable_65, df_X16_takeable_64, df_X16_takeable_45, df_X16_takeable_0, df_X16_takeable, f1, b9, eq_self, Nat.reduceEqDiff, Nat.reduceLeDiff, nl_0, nl_1, nl_4, nl_8, nl_9, nl_16, nl_31, no_1, no_1024, pk_mul, nI_add, nm_ck, nI_clamp, nI_ltI, nI_leI, nI_eq, nb_b2, nb_b1, ↓nb_let, nm_z0, nm_z1, nb_II, nb_IR, nb_RI, nb_RR, nm_IL, nm_IQ, nm_RL, nm_RQ, nm_LI, nm_LR, nm_LL, nm_LQ, nm_QI, nm_QR, nm_QL, nm_QQ, nm_rr, nm_ii, nm_eqm, not_false_eq_true, pk_sub, nm_div, nm_shl, nm_shr, nm_ush, nm_or8, nm_or64, nm_or256, nm_m1, nm_m3, nm_m7, nm_m15, nm_m31, nm_m63, nm_m255, nm_m511, nm_m1023, nm_m2047, nm_m65535, Nat.reduceMod, Nat.reducePow, Nat.reduceAdd, Nat.reduceSub, Nat.reduceMul, nm_bo, nm_bi, nm_rc, nm_ic, nm_ri, nm_rl, nm_rq, nm_ql, nm_qi, nm_li, nm_us, nm_uu, nm_cp, nm_sa31, nm_sa7, nm_m127, nm_m2, nm_nz, nm_nzk, nm_eq32, nm_nzf, if_true, if_false, ↓reduceIte, if_pos, if_neg]
  · have z9 : 2 * c / 512 % 2 = 0 := by omega
    rw [z9] at m5 m6
    have et : tk (2 * c) w = if w = 1 then 0 else if 2 * c = 0 then 0 else tz (2 * c) := if_neg b9
    have T : df_X16_takeable n (nI p) X = some (nI (if tz (2 * c) = 16 then 0 else if w = 0 then tz (2 * c) else 0), X) := by
      have fl := fN_le (fun s => decide (2 * c / 2 ^ s % 2 = 1)) 15 1
      rw [tz_f] at fl
      obtain ⟨l1, l2, l3, l4⟩ := fl
      obtain ⟨m, hm⟩ := nm_ls (fun m k => df_X16_takeable_20 n m (nI p) (nI k) X) (fun s => decide (2 * c / 2 ^ s % 2 = 1)) 1 15 n (by omega) (fun k m h0 hk cb => by
        have cb := of_decide_eq_false cb
        have cb0 : 2 * c / 2 ^ k % 2 = 0 := by omega
        have k32 : k % 32 = k := by omega
        have k16 : ¬ 16 ≤ k := by omega
        have u6 : k < 32 := by omega
        have u7 : k < 2 ^ 31 := by omega
        have u8 : k < 2 ^ 32 := by omega
        have u9 : 2 * c / 2 ^ k < 2 ^ 32 := Nat.lt_of_le_of_lt (Nat.div_le_self _ _) u4
        rw [show df_X16_takeable_20 n (m + 1) = dF_X16_takeable_20 n (df_X16_takeable_20 n m) from rfl]
        simp (disch := (first | assumption | decide | omega)) only [dF_X16_takeable_20, f1, k32, k16, cb0, eq_self, Nat.reduceEqDiff, Nat.reduceLeDiff, nl_0, nl_1, nl_4, nl_16, nl_31, no_1, no_1024, pk_mul, nI_add, nm_ck, nI_clamp, nI_ltI, nI_leI, nI_eq, nb_b2, nb_b1, ↓nb_let, nm_z0, nm_z1, nb_II, nb_IR, nb_RI, nb_RR, nm_IL, nm_IQ, nm_RL, nm_RQ, nm_LI, nm_LR, nm_LL, nm_LQ, nm_QI, nm_QR, nm_QL, nm_QQ, nm_rr, nm_ii, nm_eqm, not_false_eq_true, pk_sub, nm_div, nm_shl, nm_shr, nm_ush, nm_or8, nm_or64, nm_or256, nm_m1, nm_m3, nm_m7, nm_m15, nm_m31, nm_m63, nm_m255, nm_m511, nm_m1023, nm_m2047, nm_m65535, Nat.reduceMod, Nat.reducePow, Nat.reduceAdd, Nat.reduceSub, Nat.reduceMul, nm_bo, nm_bi, nm_rc, nm_ic, nm_ri, nm_rl, nm_rq, nm_ql, nm_qi, nm_li, nm_us, nm_uu, nm_cp, nm_sa31, nm_sa7, nm_m127, nm_m2, nm_nz, nm_nzk, nm_eq32, nm_nzf, if_true, if_false, ↓reduceIte, if_pos, if_neg])
      rw [tz_f] at hm
      have hm : df_X16_takeable_20 n n (nI p) (nI 1) X = df_X16_takeable_20 n (m + 1) (nI p) (nI (tz (2 * c))) X := hm
      have e0 : df_X16_takeable n (nI p) X = df_X16_takeable_20 n n (nI p) (nI 1) X := by
        simp (disch := (first | assumption | decide | omega)) only [df_X16_takeable, df_X16_takeable_0, f1, z9, eq_self, Nat.reduceEqDiff, Nat.reduceLeDiff, nl_1, nl_4, nl_9, nl_16, nl_31, no_1, no_1024, pk_mul, nI_add, nm_ck, nI_clamp, nI_ltI, nI_leI, nI_eq, nb_b2, nb_b1, ↓nb_let, nm_z0, nm_z1, nb_II, nb_IR, nb_RI, nb_RR, nm_IL, nm_IQ, nm_RL, nm_RQ, nm_LI, nm_LR, nm_LL, nm_LQ, nm_QI, nm_QR, nm_QL, nm_QQ, nm_rr, nm_ii, nm_eqm, not_false_eq_true, pk_sub, nm_div, nm_shl, nm_shr, nm_ush, nm_or8, nm_or64, nm_or256, nm_m1, nm_m3, nm_m7, nm_m15, nm_m31, nm_m63, nm_m255, nm_m511, nm_m1023, nm_m2047, nm_m65535, Nat.reduceMod, Nat.reducePow, Nat.reduceAdd, Nat.reduceSub, Nat.reduceMul, nm_bo, nm_bi, nm_rc, nm_ic, nm_ri, nm_rl, nm_rq, nm_ql, nm_qi, nm_li, nm_us, nm_uu, nm_cp, nm_sa31, nm_sa7, nm_m127, nm_m2, nm_nz, nm_nzk, nm_eq32, nm_nzf, if_true, if_false, ↓reduceIte, if_pos, if_neg]
      rw [e0, hm, show df_X16_takeable_20 n (m + 1) = dF_X16_takeable_20 n (df_X16_takeable_20 n m) from rfl]
      generalize tz (2 * c) = k at l1 l2 l3 l4 ⊢
      by_cases k16 : k = 16
      · subst k16
        simp (disch := (first | assumption | decide | omega)) only [dF_X16_takeable_20, df_X16_takeable_45, df_X16_takeable_64, df_X16_takeable_65, eq_self, Nat.reduceEqDiff, Nat.reduceLeDiff, nl_0, nl_1, nl_4, nl_8, nl_16, nl_31, no_1, no_1024, pk_mul, nI_add, nm_ck, nI_clamp, nI_ltI, nI_leI, nI_eq, nb_b2, nb_b1, ↓nb_let, nm_z0, nm_z1, nb_II, nb_IR, nb_RI, nb_RR, nm_IL, nm_IQ, nm_RL, nm_RQ, nm_LI, nm_LR, nm_LL, nm_LQ, nm_QI, nm_QR, nm_QL, nm_QQ, nm_rr, nm_ii, nm_eqm, not_false_eq_true, pk_sub, nm_div, nm_shl, nm_shr, nm_ush, nm_or8, nm_or64, nm_or256, nm_m1, nm_m3, nm_m7, nm_m15, nm_m31, nm_m63, nm_m255, nm_m511, nm_m1023, nm_m2047, nm_m65535, Nat.reduceMod, Nat.reducePow, Nat.reduceAdd, Nat.reduceSub, Nat.reduceMul, nm_bo, nm_bi, nm_rc, nm_ic, nm_ri, nm_rl, nm_rq, nm_ql, nm_qi, nm_li, nm_us, nm_uu, nm_cp, nm_sa31, nm_sa7, nm_m127, nm_m2, nm_nz, nm_nzk, nm_eq32, nm_nzf, if_true, if_false, ↓reduceIte, if_pos, if_neg]
      · have cb := of_decide_eq_true (l3 (by omega))
        have k32 : k % 32 = k := by omega
        have k16' : ¬ 16 ≤ k := by omega
        have u6 : k < 32 := by omega
        have u7 : k < 2 ^ 31 := by omega
        have u8 : k < 2 ^ 32 := by omega
        have u9 : 2 * c / 2 ^ k < 2 ^ 32 := Nat.lt_of_le_of_lt (Nat.div_le_self _ _) u4
        rw [if_neg k16]
        have cw : w = 0 ∨ w = 1 := by omega
        rcases cw with e | e
        · subst e
          simp (disch := (first | assumption | decide | omega)) only [dF_X16_takeable_20, df_X16_takeable_45, df_X16_takeable_64, df_X16_takeable_65, f1, f2, k32, k16', cb, eq_self, Nat.reduceEqDiff, Nat.reduceLeDiff, nl_0, nl_1, nl_4, nl_8, nl_16, nl_31, no_1, no_1024, pk_mul, nI_add, nm_ck, nI_clamp, nI_ltI, nI_leI, nI_eq, nb_b2, nb_b1, ↓nb_let, nm_z0, nm_z1, nb_II, nb_IR, nb_RI, nb_RR, nm_IL, nm_IQ, nm_RL, nm_RQ, nm_LI, nm_LR, nm_LL, nm_LQ, nm_QI, nm_QR, nm_QL, nm_QQ, nm_rr, nm_ii, nm_eqm, not_false_eq_true, pk_sub, nm_div, nm_shl, nm_shr, nm_ush, nm_or8, nm_or64, nm_or256, nm_m1, nm_m3, nm_m7, nm_m15, nm_m31, nm_m63, nm_m255, nm_m511, nm_m1023, nm_m2047, nm_m65535, Nat.reduceMod, Nat.reducePow, Nat.reduceAdd, Nat.reduceSub, Nat.reduceMul, nm_bo, nm_bi, nm_rc, nm_ic, nm_ri, nm_rl, nm_rq, nm_ql, nm_qi, nm_li, nm_us, nm_uu, nm_cp, nm_sa31, nm_sa7, nm_m127, nm_m2, nm_nz, nm_nzk, nm_eq32, nm_nzf, if_true, if_false, ↓reduceIte, if_pos, if_neg]
        · subst e
          simp (disch := (first | assumption | decide | omega)) only [dF_X16_takeable_20, df_X16_takeable_45, df_X16_takeable_64, df_X16_takeable_65, f1, f2, k32, k16', cb, eq_self, Nat.reduceEqDiff, Nat.reduceLeDiff, nl_0, nl_1, nl_4, nl_8, nl_16, nl_31, no_1, no_1024, pk_mul, nI_add, nm_ck, nI_clamp, nI_ltI, nI_leI, nI_eq, nb_b2, nb_b1, ↓nb_let, nm_z0, nm_z1, nb_II, nb_IR, nb_RI, nb_RR, nm_IL, nm_IQ, nm_RL, nm_RQ, nm_LI, nm_LR, nm_LL, nm_LQ, nm_QI, nm_QR, nm_QL, nm_QQ, nm_rr, nm_ii, nm_eqm, not_false_eq_true, pk_sub, nm_div, nm_shl, nm_shr, nm_ush, nm_or8, nm_or64, nm_or256, nm_m1, nm_m3, nm_m7, nm_m15, nm_m31, nm_m63, nm_m255, nm_m511, nm_m1023, nm_m2047, nm_m65535, Nat.reduceMod, Nat.reducePow, Nat.reduceAdd, Nat.reduceSub, Nat.reduceMul, nm_bo, nm_bi, nm_rc, nm_ic, nm_ri, nm_rl, nm_rq, nm_ql, nm_qi, nm_li, nm_us, nm_uu, nm_cp, nm_sa31, nm_sa7, nm_m127, nm_m2, nm_nz, nm_nzk, nm_eq32, nm_nzf, if_true, if_false, ↓reduceIte, if_pos, if_neg]
    rw [et, T]
    by_cases w1 : w = 1
    · subst w1
      refine ⟨?_, ?_, by rw [if_pos rfl]; omega⟩
      · rw [if_pos rfl]
        simp (disch := (first | assumption | decide | omega)) only [df_X6_takeable_55, df_X6_takeable_32, df_X6_takeable_0, df_X6_takeable, e1, e2, m5, m6, Nat.zero_mul, eq_self, Nat.reduceEqDiff, Nat.reduceLeDiff, nl_0, nl_3, nl_4, nl_6, nl_7, nl_9, nl_112, nl_512, no_1, no_1024, pk_mul, nI_add, nm_ck, nI_clamp, nI_ltI, nI_leI, nI_eq, nb_b2, nb_b1, ↓nb_let, nm_z0, nm_z1, nb_II, nb_IR, nb_RI, nb_RR, nm_IL, nm_IQ, nm_RL, nm_RQ, nm_LI, nm_LR, nm_LL, nm_LQ, nm_QI, nm_QR, nm_QL, nm_QQ, nm_rr, nm_ii, nm_eqm, not_false_eq_true, pk_sub, nm_div, nm_shl, nm_shr, nm_ush, nm_or8, nm_or64, nm_or256, nm_m1, nm_m3, nm_m7, nm_m15, nm_m31, nm_m63, nm_m255, nm_m511, nm_m1023, nm_m2047, nm_m65535, Nat.reduceMod, Nat.reducePow, Nat.reduceAdd, Nat.reduceSub, Nat.reduceMul, nm_bo, nm_bi, nm_rc, nm_ic, nm_ri, nm_rl, nm_rq, nm_ql, nm_qi, nm_li, nm_us, nm_uu, nm_cp, nm_sa31, nm_sa7, nm_m127, nm_m2, nm_nz, nm_nzk, nm_eq32, nm_nzf, if_true, if_false, ↓reduceIte, if_pos, if_neg]
      · rw [if_pos rfl]
        by_cases k16 : tz (2 * c) = 16
        · rw [if_pos k16]
        · rw [if_neg k16, if_neg (by omega)]
    · have w0 : w = 0 := by omega
      subst w0
      rw [if_neg (by omega), if_pos rfl]
      by_cases c0 : c = 0
      · subst c0
        refine ⟨?_, rfl, by rw [if_pos rfl]; omega⟩
        rw [if_pos rfl]
        simp (disch := (first | assumption | decide | omega)) only [df_X6_takeable_55, df_X6_takeable_32, df_X6_takeable_0, df_X6_takeable, e1, e2, m5, Nat.zero_mul, Nat.mul_zero, eq_self, Nat.reduceEqDiff, Nat.reduceLeDiff, nl_0, nl_3, nl_4, nl_6, nl_7, nl_9, nl_112, nl_512, no_1, no_1024, pk_mul, nI_add, nm_ck, nI_clamp, nI_ltI, nI_leI, nI_eq, nb_b2, nb_b1, ↓nb_let, nm_z0, nm_z1, nb_II, nb_IR, nb_RI, nb_RR, nm_IL, nm_IQ, nm_RL, nm_RQ, nm_LI, nm_LR, nm_LL, nm_LQ, nm_QI, nm_QR, nm_QL, nm_QQ, nm_rr, nm_ii, nm_eqm, not_false_eq_true, pk_sub, nm_div, nm_shl, nm_shr, nm_ush, nm_or8, nm_or64, nm_or256, nm_m1, nm_m3, nm_m7, nm_m15, nm_m31, nm_m63, nm_m255, nm_m511, nm_m1023, nm_m2047, nm_m65535, Nat.reduceMod, Nat.reducePow, Nat.reduceAdd, Nat.reduceSub, Nat.reduceMul, nm_bo, nm_bi, nm_rc, nm_ic, nm_ri, nm_rl, nm_rq, nm_ql, nm_qi, nm_li, nm_us, nm_uu, nm_cp, nm_sa31, nm_sa7, nm_m127, nm_m2, nm_nz, nm_nzk, nm_eq32, nm_nzf, if_true, if_false, ↓reduceIte, if_pos, if_neg]
      · obtain ⟨t1, t2⟩ := tz_is n (c := c) (by omega) hc
        have d0 : ¬ 2 * c = 0 := by omega
        rw [if_neg (show ¬ tz (2 * c) = 16 by omega), if_neg d0]
        refine ⟨?_, rfl, t2⟩
        simp (disch := (first | assumption | decide | omega)) only [df_X6_takeable_55, df_X6_takeable_32, df_X6_takeable_0, df_X6_takeable, e1, e2, m5, Nat.zero_mul, d0, t1, eq_self, Nat.reduceEqDiff, Nat.reduceLeDiff, nl_0, nl_3, nl_4, nl_6, nl_7, nl_9, nl_112, nl_512, no_1, no_1024, pk_mul, nI_add, nm_ck, nI_clamp, nI_ltI, nI_leI, nI_eq, nb_b2, nb_b1, ↓nb_let, nm_z0, nm_z1, nb_II, nb_IR, nb_RI, nb_RR, nm_IL, nm_IQ, nm_RL, nm_RQ, nm_LI, nm_LR, nm_LL, nm_LQ, nm_QI, nm_QR, nm_QL, nm_QQ, nm_rr, nm_ii, nm_eqm, not_false_eq_true, pk_sub, nm_div, nm_shl, nm_shr, nm_ush, nm_or8, nm_or64, nm_or256, nm_m1, nm_m3, nm_m7, nm_m15, nm_m31, nm_m63, nm_m255, nm_m511, nm_m1023, nm_m2047, nm_m65535, Nat.reduceMod, Nat.reducePow, Nat.reduceAdd, Nat.reduceSub, Nat.reduceMul, nm_bo, nm_bi, nm_rc, nm_ic, nm_ri, nm_rl, nm_rq, nm_ql, nm_qi, nm_li, nm_us, nm_uu, nm_cp, nm_sa31, nm_sa7, nm_m127, nm_m2, nm_nz, nm_nzk, nm_eq32, nm_nzf, if_true, if_false, ↓reduceIte, if_pos, if_neg]

