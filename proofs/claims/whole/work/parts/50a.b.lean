theorem ex_n4 (n : Nat) (h : Int32) : df_X4_expanded n h () = df_X4_expanded 0 h () := rfl
theorem ex_n16 (n : Nat) (h : Int32) : df_X16_expand n h () = df_X16_expand 0 h () := rfl
theorem ex_0_0 : ∀ h : Fin 1024, df_X4_expanded 0 (nI (4 * (0 + h.1) + 0)) () = df_X16_expand 0 (nI (4 * (0 + h.1) + 0)) () := by decide +kernel
theorem ex_0_1 : ∀ h : Fin 1024, df_X4_expanded 0 (nI (4 * (1024 + h.1) + 0)) () = df_X16_expand 0 (nI (4 * (1024 + h.1) + 0)) () := by decide +kernel
theorem ex_0_2 : ∀ h : Fin 1024, df_X4_expanded 0 (nI (4 * (2048 + h.1) + 0)) () = df_X16_expand 0 (nI (4 * (2048 + h.1) + 0)) () := by decide +kernel
theorem ex_0_3 : ∀ h : Fin 1024, df_X4_expanded 0 (nI (4 * (3072 + h.1) + 0)) () = df_X16_expand 0 (nI (4 * (3072 + h.1) + 0)) () := by decide +kernel
theorem ex_0_4 : ∀ h : Fin 1024, df_X4_expanded 0 (nI (4 * (4096 + h.1) + 0)) () = df_X16_expand 0 (nI (4 * (4096 + h.1) + 0)) () := by decide +kernel
theorem ex_0_5 : ∀ h : Fin 1024, df_X4_expanded 0 (nI (4 * (5120 + h.1) + 0)) () = df_X16_expand 0 (nI (4 * (5120 + h.1) + 0)) () := by decide +kernel
theorem ex_0_6 : ∀ h : Fin 1024, df_X4_expanded 0 (nI (4 * (6144 + h.1) + 0)) () = df_X16_expand 0 (nI (4 * (6144 + h.1) + 0)) () := by decide +kernel
theorem ex_0_7 : ∀ h : Fin 1024, df_X4_expanded 0 (nI (4 * (7168 + h.1) + 0)) () = df_X16_expand 0 (nI (4 * (7168 + h.1) + 0)) () := by decide +kernel
theorem ex_0_8 : ∀ h : Fin 1024, df_X4_expanded 0 (nI (4 * (8192 + h.1) + 0)) () = df_X16_expand 0 (nI (4 * (8192 + h.1) + 0)) () := by decide +kernel
theorem ex_0_9 : ∀ h : Fin 1024, df_X4_expanded 0 (nI (4 * (9216 + h.1) + 0)) () = df_X16_expand 0 (nI (4 * (9216 + h.1) + 0)) () := by decide +kernel
theorem ex_0_10 : ∀ h : Fin 1024, df_X4_expanded 0 (nI (4 * (10240 + h.1) + 0)) () = df_X16_expand 0 (nI (4 * (10240 + h.1) + 0)) () := by decide +kernel
theorem ex_0_11 : ∀ h : Fin 1024, df_X4_expanded 0 (nI (4 * (11264 + h.1) + 0)) () = df_X16_expand 0 (nI (4 * (11264 + h.1) + 0)) () := by decide +kernel
theorem ex_0_12 : ∀ h : Fin 1024, df_X4_expanded 0 (nI (4 * (12288 + h.1) + 0)) () = df_X16_expand 0 (nI (4 * (12288 + h.1) + 0)) () := by decide +kernel
theorem ex_0_13 : ∀ h : Fin 1024, df_X4_expanded 0 (nI (4 * (13312 + h.1) + 0)) () = df_X16_expand 0 (nI (4 * (13312 + h.1) + 0)) () := by decide +kernel
theorem ex_0_14 : ∀ h : Fin 1024, df_X4_expanded 0 (nI (4 * (14336 + h.1) + 0)) () = df_X16_expand 0 (nI (4 * (14336 + h.1) + 0)) () := by decide +kernel
theorem ex_0_15 : ∀ h : Fin 1024, df_X4_expanded 0 (nI (4 * (15360 + h.1) + 0)) () = df_X16_expand 0 (nI (4 * (15360 + h.1) + 0)) () := by decide +kernel
theorem ex_1_0 : ∀ h : Fin 1024, df_X4_expanded 0 (nI (4 * (0 + h.1) + 1)) () = df_X16_expand 0 (nI (4 * (0 + h.1) + 1)) () := by decide +kernel
theorem ex_1_1 : ∀ h : Fin 1024, df_X4_expanded 0 (nI (4 * (1024 + h.1) + 1)) () = df_X16_expand 0 (nI (4 * (1024 + h.1) + 1)) () := by decide +kernel
theorem ex_1_2 : ∀ h : Fin 1024, df_X4_expanded 0 (nI (4 * (2048 + h.1) + 1)) () = df_X16_expand 0 (nI (4 * (2048 + h.1) + 1)) () := by decide +kernel
theorem ex_1_3 : ∀ h : Fin 1024, df_X4_expanded 0 (nI (4 * (3072 + h.1) + 1)) () = df_X16_expand 0 (nI (4 * (3072 + h.1) + 1)) () := by decide +kernel
theorem ex_1_4 : ∀ h : Fin 1024, df_X4_expanded 0 (nI (4 * (4096 + h.1) + 1)) () = df_X16_expand 0 (nI (4 * (4096 + h.1) + 1)) () := by decide +kernel
theorem ex_1_5 : ∀ h : Fin 1024, df_X4_expanded 0 (nI (4 * (5120 + h.1) + 1)) () = df_X16_expand 0 (nI (4 * (5120 + h.1) + 1)) () := by decide +kernel
theorem ex_1_6 : ∀ h : Fin 1024, df_X4_expanded 0 (nI (4 * (6144 + h.1) + 1)) () = df_X16_expand 0 (nI (4 * (6144 + h.1) + 1)) () := by decide +kernel
theorem ex_1_7 : ∀ h : Fin 1024, df_X4_expanded 0 (nI (4 * (7168 + h.1) + 1)) () = df_X16_expand 0 (nI (4 * (7168 + h.1) + 1)) () := by decide +kernel
theorem ex_1_8 : ∀ h : Fin 1024, df_X4_expanded 0 (nI (4 * (8192 + h.1) + 1)) () = df_X16_expand 0 (nI (4 * (8192 + h.1) + 1)) () := by decide +kernel
theorem ex_1_9 : ∀ h : Fin 1024, df_X4_expanded 0 (nI (4 * (9216 + h.1) + 1)) () = df_X16_expand 0 (nI (4 * (9216 + h.1) + 1)) () := by decide +kernel
theorem ex_1_10 : ∀ h : Fin 1024, df_X4_expanded 0 (nI (4 * (10240 + h.1) + 1)) () = df_X16_expand 0 (nI (4 * (10240 + h.1) + 1)) () := by decide +kernel
theorem ex_1_11 : ∀ h : Fin 1024, df_X4_expanded 0 (nI (4 * (11264 + h.1) + 1)) () = df_X16_expand 0 (nI (4 * (11264 + h.1) + 1)) () := by decide +kernel
theorem ex_1_12 : ∀ h : Fin 1024, df_X4_expanded 0 (nI (4 * (12288 + h.1) + 1)) () = df_X16_expand 0 (nI (4 * (12288 + h.1) + 1)) () := by decide +kernel
theorem ex_1_13 : ∀ h : Fin 1024, df_X4_expanded 0 (nI (4 * (13312 + h.1) + 1)) () = df_X16_expand 0 (nI (4 * (13312 + h.1) + 1)) () := by decide +kernel
theorem ex_1_14 : ∀ h : Fin 1024, df_X4_expanded 0 (nI (4 * (14336 + h.1) + 1)) () = df_X16_expand 0 (nI (4 * (14336 + h.1) + 1)) () := by decide +kernel
theorem ex_1_15 : ∀ h : Fin 1024, df_X4_expanded 0 (nI (4 * (15360 + h.1) + 1)) () = df_X16_expand 0 (nI (4 * (15360 + h.1) + 1)) () := by decide +kernel
theorem ex_2_0 : ∀ h : Fin 1024, df_X4_expanded 0 (nI (4 * (0 + h.1) + 2)) () = df_X16_expand 0 (nI (4 * (0 + h.1) + 2)) () := by decide +kernel
theorem ex_2_1 : ∀ h : Fin 1024, df_X4_expanded 0 (nI (4 * (1024 + h.1) + 2)) () = df_X16_expand 0 (nI (4 * (1024 + h.1) + 2)) () := by decide +kernel
theorem ex_2_2 : ∀ h : Fin 1024, df_X4_expanded 0 (nI (4 * (2048 + h.1) + 2)) () = df_X16_expand 0 (nI (4 * (2048 + h.1) + 2)) () := by decide +kernel
theorem ex_2_3 : ∀ h : Fin 1024, df_X4_expanded 0 (nI (4 * (3072 + h.1) + 2)) () = df_X16_expand 0 (nI (4 * (3072 + h.1) + 2)) () := by decide +kernel
theorem ex_2_4 : ∀ h : Fin 1024, df_X4_expanded 0 (nI (4 * (4096 + h.1) + 2)) () = df_X16_expand 0 (nI (4 * (4096 + h.1) + 2)) () := by decide +kernel
theorem ex_2_5 : ∀ h : Fin 1024, df_X4_expanded 0 (nI (4 * (5120 + h.1) + 2)) () = df_X16_expand 0 (nI (4 * (5120 + h.1) + 2)) () := by decide +kernel
theorem ex_2_6 : ∀ h : Fin 1024, df_X4_expanded 0 (nI (4 * (6144 + h.1) + 2)) () = df_X16_expand 0 (nI (4 * (6144 + h.1) + 2)) () := by decide +kernel
theorem ex_2_7 : ∀ h : Fin 1024, df_X4_expanded 0 (nI (4 * (7168 + h.1) + 2)) () = df_X16_expand 0 (nI (4 * (7168 + h.1) + 2)) () := by decide +kernel
theorem ex_2_8 : ∀ h : Fin 1024, df_X4_expanded 0 (nI (4 * (8192 + h.1) + 2)) () = df_X16_expand 0 (nI (4 * (8192 + h.1) + 2)) () := by decide +kernel
theorem ex_2_9 : ∀ h : Fin 1024, df_X4_expanded 0 (nI (4 * (9216 + h.1) + 2)) () = df_X16_expand 0 (nI (4 * (9216 + h.1) + 2)) () := by decide +kernel
theorem ex_2_10 : ∀ h : Fin 1024, df_X4_expanded 0 (nI (4 * (10240 + h.1) + 2)) () = df_X16_expand 0 (nI (4 * (10240 + h.1) + 2)) () := by decide +kernel
theorem ex_2_11 : ∀ h : Fin 1024, df_X4_expanded 0 (nI (4 * (11264 + h.1) + 2)) () = df_X16_expand 0 (nI (4 * (11264 + h.1) + 2)) () := by decide +kernel
theorem ex_2_12 : ∀ h : Fin 1024, df_X4_expanded 0 (nI (4 * (12288 + h.1) + 2)) () = df_X16_expand 0 (nI (4 * (12288 + h.1) + 2)) () := by decide +kernel
theorem ex_2_13 : ∀ h : Fin 1024, df_X4_expanded 0 (nI (4 * (13312 + h.1) + 2)) () = df_X16_expand 0 (nI (4 * (13312 + h.1) + 2)) () := by decide +kernel
theorem ex_2_14 : ∀ h : Fin 1024, df_X4_expanded 0 (nI (4 * (14336 + h.1) + 2)) () = df_X16_expand 0 (nI (4 * (14336 + h.1) + 2)) () := by decide +kernel
theorem ex_2_15 : ∀ h : Fin 1024, df_X4_expanded 0 (nI (4 * (15360 + h.1) + 2)) () = df_X16_expand 0 (nI (4 * (15360 + h.1) + 2)) () := by decide +kernel
theorem ex_0 (j : Nat) (hj : j < 16384) : df_X4_expanded 0 (nI (4 * j + 0)) () = df_X16_expand 0 (nI (4 * j + 0)) () := by
  by_cases c0 : j < 1024
  · have := ex_0_0 ⟨j - 0, by omega⟩
    rw [show 0 + (⟨j - 0, by omega⟩ : Fin 1024).1 = j from by show 0 + (j - 0) = j; omega] at this
    exact this
  by_cases c1 : j < 2048
  · have := ex_0_1 ⟨j - 1024, by omega⟩
    rw [show 1024 + (⟨j - 1024, by omega⟩ : Fin 1024).1 = j from by show 1024 + (j - 1024) = j; omega] at this
    exact this
  by_cases c2 : j < 3072
  · have := ex_0_2 ⟨j - 2048, by omega⟩
    rw [show 2048 + (⟨j - 2048, by omega⟩ : Fin 1024).1 = j from by show 2048 + (j - 2048) = j; omega] at this
    exact this
  by_cases c3 : j < 4096
  · have := ex_0_3 ⟨j - 3072, by omega⟩
    rw [show 3072 + (⟨j - 3072, by omega⟩ : Fin 1024).1 = j from by show 3072 + (j - 3072) = j; omega] at this
    exact this
  by_cases c4 : j < 5120
  · have := ex_0_4 ⟨j - 4096, by omega⟩
    rw [show 4096 + (⟨j - 4096, by omega⟩ : Fin 1024).1 = j from by show 4096 + (j - 4096) = j; omega] at this
    exact this
  by_cases c5 : j < 6144
  · have := ex_0_5 ⟨j - 5120, by omega⟩
    rw [show 5120 + (⟨j - 5120, by omega⟩ : Fin 1024).1 = j from by show 5120 + (j - 5120) = j; omega] at this
    exact this
  by_cases c6 : j < 7168
  · have := ex_0_6 ⟨j - 6144, by omega⟩
    rw [show 6144 + (⟨j - 6144, by omega⟩ : Fin 1024).1 = j from by show 6144 + (j - 6144) = j; omega] at this
    exact this
  by_cases c7 : j < 8192
  · have := ex_0_7 ⟨j - 7168, by omega⟩
    rw [show 7168 + (⟨j - 7168, by omega⟩ : Fin 1024).1 = j from by show 7168 + (j - 7168) = j; omega] at this
    exact this
  by_cases c8 : j < 9216
  · have := ex_0_8 ⟨j - 8192, by omega⟩
    rw [show 8192 + (⟨j - 8192, by omega⟩ : Fin 1024).1 = j from by show 8192 + (j - 8192) = j; omega] at this
    exact this
  by_cases c9 : j < 10240
  · have := ex_0_9 ⟨j - 9216, by omega⟩
    rw [show 9216 + (⟨j - 9216, by omega⟩ : Fin 1024).1 = j from by show 9216 + (j - 9216) = j; omega] at this
    exact this
  by_cases c10 : j < 11264
  · have := ex_0_10 ⟨j - 10240, by omega⟩
    rw [show 10240 + (⟨j - 10240, by omega⟩ : Fin 1024).1 = j from by show 10240 + (j - 10240) = j; omega] at this
    exact this
  by_cases c11 : j < 12288
  · have := ex_0_11 ⟨j - 11264, by omega⟩
    rw [show 11264 + (⟨j - 11264, by omega⟩ : Fin 1024).1 = j from by show 11264 + (j - 11264) = j; omega] at this
    exact this
  by_cases c12 : j < 13312
  · have := ex_0_12 ⟨j - 12288, by omega⟩
    rw [show 12288 + (⟨j - 12288, by omega⟩ : Fin 1024).1 = j from by show 12288 + (j - 12288) = j; omega] at this
    exact this
  by_cases c13 : j < 14336
  · have := ex_0_13 ⟨j - 13312, by omega⟩
    rw [show 13312 + (⟨j - 13312, by omega⟩ : Fin 1024).1 = j from by show 13312 + (j - 13312) = j; omega] at this
    exact this
  by_cases c14 : j < 15360
  · have := ex_0_14 ⟨j - 14336, by omega⟩
    rw [show 14336 + (⟨j - 14336, by omega⟩ : Fin 1024).1 = j from by show 14336 + (j - 14336) = j; omega] at this
    exact this
  have := ex_0_15 ⟨j - 15360, by omega⟩
  rw [show 15360 + (⟨j - 15360, by omega⟩ : Fin 1024).1 = j from by show 15360 + (j - 15360) = j; omega] at this
  exact this
theorem ex_1 (j : Nat) (hj : j < 16384) : df_X4_expanded 0 (nI (4 * j + 1)) () = df_X16_expand 0 (nI (4 * j + 1)) () := by
  by_cases c0 : j < 1024
  · have := ex_1_0 ⟨j - 0, by omega⟩
    rw [show 0 + (⟨j - 0, by omega⟩ : Fin 1024).1 = j from by show 0 + (j - 0) = j; omega] at this
    exact this
  by_cases c1 : j < 2048
  · have := ex_1_1 ⟨j - 1024, by omega⟩
    rw [show 1024 + (⟨j - 1024, by omega⟩ : Fin 1024).1 = j from by show 1024 + (j - 1024) = j; omega] at this
    exact this
  by_cases c2 : j < 3072
  · have := ex_1_2 ⟨j - 2048, by omega⟩
    rw [show 2048 + (⟨j - 2048, by omega⟩ : Fin 1024).1 = j from by show 2048 + (j - 2048) = j; omega] at this
    exact this
  by_cases c3 : j < 4096
  · have := ex_1_3 ⟨j - 3072, by omega⟩
    rw [show 3072 + (⟨j - 3072, by omega⟩ : Fin 1024).1 = j from by show 3072 + (j - 3072) = j; omega] at this
    exact this
  by_cases c4 : j < 5120
  · have := ex_1_4 ⟨j - 4096, by omega⟩
    rw [show 4096 + (⟨j - 4096, by omega⟩ : Fin 1024).1 = j from by show 4096 + (j - 4096) = j; omega] at this
    exact this
  by_cases c5 : j < 6144
  · have := ex_1_5 ⟨j - 5120, by omega⟩
    rw [show 5120 + (⟨j - 5120, by omega⟩ : Fin 1024).1 = j from by show 5120 + (j - 5120) = j; omega] at this
    exact this
  by_cases c6 : j < 7168
  · have := ex_1_6 ⟨j - 6144, by omega⟩
    rw [show 6144 + (⟨j - 6144, by omega⟩ : Fin 1024).1 = j from by show 6144 + (j - 6144) = j; omega] at this
    exact this
  by_cases c7 : j < 8192
  · have := ex_1_7 ⟨j - 7168, by omega⟩
    rw [show 7168 + (⟨j - 7168, by omega⟩ : Fin 1024).1 = j from by show 7168 + (j - 7168) = j; omega] at this
    exact this
  by_cases c8 : j < 9216
  · have := ex_1_8 ⟨j - 8192, by omega⟩
    rw [show 8192 + (⟨j - 8192, by omega⟩ : Fin 1024).1 = j from by show 8192 + (j - 8192) = j; omega] at this
    exact this
  by_cases c9 : j < 10240
  · have := ex_1_9 ⟨j - 9216, by omega⟩
    rw [show 9216 + (⟨j - 9216, by omega⟩ : Fin 1024).1 = j from by show 9216 + (j - 9216) = j; omega] at this
    exact this
  by_cases c10 : j < 11264
  · have := ex_1_10 ⟨j - 10240, by omega⟩
    rw [show 10240 + (⟨j - 10240, by omega⟩ : Fin 1024).1 = j from by show 10240 + (j - 10240) = j; omega] at this
    exact this
  by_cases c11 : j < 12288
  · have := ex_1_11 ⟨j - 11264, by omega⟩
    rw [show 11264 + (⟨j - 11264, by omega⟩ : Fin 1024).1 = j from by show 11264 + (j - 11264) = j; omega] at this
    exact this
  by_cases c12 : j < 13312
  · have := ex_1_12 ⟨j - 12288, by omega⟩
    rw [show 12288 + (⟨j - 12288, by omega⟩ : Fin 1024).1 = j from by show 12288 + (j - 12288) = j; omega] at this
    exact this
  by_cases c13 : j < 14336
  · have := ex_1_13 ⟨j - 13312, by omega⟩
    rw [show 13312 + (⟨j - 13312, by omega⟩ : Fin 1024).1 = j from by show 13312 + (j - 13312) = j; omega] at this
    exact this
  by_cases c14 : j < 15360
  · have := ex_1_14 ⟨j - 14336, by omega⟩
    rw [show 14336 + (⟨j - 14336, by omega⟩ : Fin 1024).1 = j from by show 14336 + (j - 14336) = j; omega] at this
    exact this
  have := ex_1_15 ⟨j - 15360, by omega⟩
  rw [show 15360 + (⟨j - 15360, by omega⟩ : Fin 1024).1 = j from by show 15360 + (j - 15360) = j; omega] at this
  exact this
theorem ex_2 (j : Nat) (hj : j < 16384) : df_X4_expanded 0 (nI (4 * j + 2)) () = df_X16_expand 0 (nI (4 * j + 2)) () := by
  by_cases c0 : j < 1024
  · have := ex_2_0 ⟨j - 0, by omega⟩
    rw [show 0 + (⟨j - 0, by omega⟩ : Fin 1024).1 = j from by show 0 + (j - 0) = j; omega] at this
    exact this
  by_cases c1 : j < 2048
  · have := ex_2_1 ⟨j - 1024, by omega⟩
    rw [show 1024 + (⟨j - 1024, by omega⟩ : Fin 1024).1 = j from by show 1024 + (j - 1024) = j; omega] at this
    exact this
  by_cases c2 : j < 3072
  · have := ex_2_2 ⟨j - 2048, by omega⟩
    rw [show 2048 + (⟨j - 2048, by omega⟩ : Fin 1024).1 = j from by show 2048 + (j - 2048) = j; omega] at this
    exact this
  by_cases c3 : j < 4096
  · have := ex_2_3 ⟨j - 3072, by omega⟩
    rw [show 3072 + (⟨j - 3072, by omega⟩ : Fin 1024).1 = j from by show 3072 + (j - 3072) = j; omega] at this
    exact this
  by_cases c4 : j < 5120
  · have := ex_2_4 ⟨j - 4096, by omega⟩
    rw [show 4096 + (⟨j - 4096, by omega⟩ : Fin 1024).1 = j from by show 4096 + (j - 4096) = j; omega] at this
    exact this
  by_cases c5 : j < 6144
  · have := ex_2_5 ⟨j - 5120, by omega⟩
    rw [show 5120 + (⟨j - 5120, by omega⟩ : Fin 1024).1 = j from by show 5120 + (j - 5120) = j; omega] at this
    exact this
  by_cases c6 : j < 7168
  · have := ex_2_6 ⟨j - 6144, by omega⟩
    rw [show 6144 + (⟨j - 6144, by omega⟩ : Fin 1024).1 = j from by show 6144 + (j - 6144) = j; omega] at this
    exact this
  by_cases c7 : j < 8192
  · have := ex_2_7 ⟨j - 7168, by omega⟩
    rw [show 7168 + (⟨j - 7168, by omega⟩ : Fin 1024).1 = j from by show 7168 + (j - 7168) = j; omega] at this
    exact this
  by_cases c8 : j < 9216
  · have := ex_2_8 ⟨j - 8192, by omega⟩
    rw [show 8192 + (⟨j - 8192, by omega⟩ : Fin 1024).1 = j from by show 8192 + (j - 8192) = j; omega] at this
    exact this
  by_cases c9 : j < 10240
  · have := ex_2_9 ⟨j - 9216, by omega⟩
    rw [show 9216 + (⟨j - 9216, by omega⟩ : Fin 1024).1 = j from by show 9216 + (j - 9216) = j; omega] at this
    exact this
  by_cases c10 : j < 11264
  · have := ex_2_10 ⟨j - 10240, by omega⟩
    rw [show 10240 + (⟨j - 10240, by omega⟩ : Fin 1024).1 = j from by show 10240 + (j - 10240) = j; omega] at this
    exact this
  by_cases c11 : j < 12288
  · have := ex_2_11 ⟨j - 11264, by omega⟩
    rw [show 11264 + (⟨j - 11264, by omega⟩ : Fin 1024).1 = j from by show 11264 + (j - 11264) = j; omega] at this
    exact this
  by_cases c12 : j < 13312
  · have := ex_2_12 ⟨j - 12288, by omega⟩
    rw [show 12288 + (⟨j - 12288, by omega⟩ : Fin 1024).1 = j from by show 12288 + (j - 12288) = j; omega] at this
    exact this
  by_cases c13 : j < 14336
  · have := ex_2_13 ⟨j - 13312, by omega⟩
    rw [show 13312 + (⟨j - 13312, by omega⟩ : Fin 1024).1 = j from by show 13312 + (j - 13312) = j; omega] at this
    exact this
  by_cases c14 : j < 15360
  · have := ex_2_14 ⟨j - 14336, by omega⟩
    rw [show 14336 + (⟨j - 14336, by omega⟩ : Fin 1024).1 = j from by show 14336 + (j - 14336) = j; omega] at this
    exact this
  have := ex_2_15 ⟨j - 15360, by omega⟩
  rw [show 15360 + (⟨j - 15360, by omega⟩ : Fin 1024).1 = j from by show 15360 + (j - 15360) = j; omega] at this
  exact this
/-- the long instruction of a short one: the same in both -/
theorem nk_expand (n H : Nat) (h : H < 65536) (h3 : H % 4 ≠ 3) : df_X4_expanded n (nI H) () = df_X16_expand n (nI H) () := by
  rw [ex_n4, ex_n16]
  have hh : H = 4 * (H / 4) + H % 4 := by omega
  by_cases c0 : H % 4 = 0
  · rw [c0] at hh
    rw [hh]
    exact ex_0 (H / 4) (by omega)
  by_cases c1 : H % 4 = 1
  · rw [c1] at hh
    rw [hh]
    exact ex_1 (H / 4) (by omega)
  · rw [show H % 4 = 2 from by omega] at hh
    rw [hh]
    exact ex_2 (H / 4) (by omega)

