theorem drs_t (n : Nat) (s : St × St) : df_X1_readStatement n 118 s = df_X1_readStatement_72 n 118 s := by
  unfold df_X1_readStatement df_X1_readStatement_0 df_Jx29ce0_ordinal_8abf5 df_Jx29ce0_ordinal_8abf5_0
  rw [lt_y (by omega), lt_y (by omega), nb_b2, show Int32.ofNat 118 = nI 118 from rfl, nm_ck (by omega) (by omega), nI_clamp (by omega), show tb_0 118 = 1 from rfl]
  rfl
theorem drs_d (n : Nat) (s : St × St) : df_X1_readStatement n 119 s = df_X1_readStatement_72 n 119 s := by
  unfold df_X1_readStatement df_X1_readStatement_0 df_Jx29ce0_ordinal_8abf5 df_Jx29ce0_ordinal_8abf5_0
  rw [lt_y (by omega), lt_y (by omega), nb_b2, show Int32.ofNat 119 = nI 119 from rfl, nm_ck (by omega) (by omega), nI_clamp (by omega), show tb_0 119 = 2 from rfl]
  rfl
theorem drs_e (n : Nat) (s : St × St) : df_X1_readStatement n 120 s = nd_b1 (df_X1_readConstant n s) (fun (t : St × St) => df_X1_readStatement_206 n t) := by
  unfold df_X1_readStatement df_X1_readStatement_0 df_Jx29ce0_ordinal_8abf5 df_Jx29ce0_ordinal_8abf5_0
  rw [lt_y (by omega), lt_y (by omega), nb_b2, show Int32.ofNat 120 = nI 120 from rfl, nm_ck (by omega) (by omega), nI_clamp (by omega), show tb_0 120 = 3 from rfl]
  rfl
theorem drs_l1 (n : Nat) (s : St × St) : df_X1_readStatement n 121 s = df_X1_readStatement_90 n 121 s := by
  unfold df_X1_readStatement df_X1_readStatement_0 df_Jx29ce0_ordinal_8abf5 df_Jx29ce0_ordinal_8abf5_0
  rw [lt_y (by omega), lt_y (by omega), nb_b2, show Int32.ofNat 121 = nI 121 from rfl, nm_ck (by omega) (by omega), nI_clamp (by omega), show tb_0 121 = 4 from rfl]
  rfl
theorem drs_l2 (n : Nat) (s : St × St) : df_X1_readStatement n 122 s = df_X1_readStatement_90 n 122 s := by
  unfold df_X1_readStatement df_X1_readStatement_0 df_Jx29ce0_ordinal_8abf5 df_Jx29ce0_ordinal_8abf5_0
  rw [lt_y (by omega), lt_y (by omega), nb_b2, show Int32.ofNat 122 = nI 122 from rfl, nm_ck (by omega) (by omega), nI_clamp (by omega), show tb_0 122 = 5 from rfl]
  rfl
theorem drs_l3 (n : Nat) (s : St × St) : df_X1_readStatement n 123 s = df_X1_readStatement_90 n 123 s := by
  unfold df_X1_readStatement df_X1_readStatement_0 df_Jx29ce0_ordinal_8abf5 df_Jx29ce0_ordinal_8abf5_0
  rw [lt_y (by omega), lt_y (by omega), nb_b2, show Int32.ofNat 123 = nI 123 from rfl, nm_ck (by omega) (by omega), nI_clamp (by omega), show tb_0 123 = 6 from rfl]
  rfl
theorem drs_x (n : Nat) (s : St × St) : df_X1_readStatement n 124 s = df_X1_readStatement_101 n 124 s := by
  unfold df_X1_readStatement df_X1_readStatement_0 df_Jx29ce0_ordinal_8abf5 df_Jx29ce0_ordinal_8abf5_0
  rw [lt_y (by omega), lt_y (by omega), nb_b2, show Int32.ofNat 124 = nI 124 from rfl, nm_ck (by omega) (by omega), nI_clamp (by omega), show tb_0 124 = 7 from rfl]
  rfl
theorem drs_z (n : Nat) (s : St × St) : df_X1_readStatement n 125 s = df_X1_readStatement_101 n 125 s := by
  unfold df_X1_readStatement df_X1_readStatement_0 df_Jx29ce0_ordinal_8abf5 df_Jx29ce0_ordinal_8abf5_0
  rw [lt_y (by omega), lt_y (by omega), nb_b2, show Int32.ofNat 125 = nI 125 from rfl, nm_ck (by omega) (by omega), nI_clamp (by omega), show tb_0 125 = 8 from rfl]
  rfl
theorem drs_s (n : Nat) (s : St × St) : df_X1_readStatement n 126 s = nd_b2 (df_X9_sum n s.2) (fun (u : Int32) (s1 : St) => nd_b2 (df_X1_fixed n u 0 32768 (s.1, s1)) (fun (w : Int32) (s2 : St × St) => nd_b1 (df_X1_add n 7 w 0 (-1) s2) (fun (t : St × St) => df_X1_readStatement_206 n t))) := by
  unfold df_X1_readStatement df_X1_readStatement_0 df_Jx29ce0_ordinal_8abf5 df_Jx29ce0_ordinal_8abf5_0
  rw [lt_y (by omega), lt_y (by omega), nb_b2, show Int32.ofNat 126 = nI 126 from rfl, nm_ck (by omega) (by omega), nI_clamp (by omega), show tb_0 126 = 9 from rfl]
  rfl
theorem drs_a (n : Nat) (s : St × St) : df_X1_readStatement n 127 s = nd_b2 (df_X9_sum n s.2) (fun (u : Int32) (s1 : St) => nd_b2 (df_X1_fixed n u 0 10 (s.1, s1)) (fun (w : Int32) (s2 : St × St) => nd_b1 (df_X1_add n 8 0 ((1 : Int32) <<< (w &&& 31)) (-1) s2) (fun (t : St × St) => df_X1_readStatement_206 n t))) := by
  unfold df_X1_readStatement df_X1_readStatement_0 df_Jx29ce0_ordinal_8abf5 df_Jx29ce0_ordinal_8abf5_0
  rw [lt_y (by omega), lt_y (by omega), nb_b2, show Int32.ofNat 127 = nI 127 from rfl, nm_ck (by omega) (by omega), nI_clamp (by omega), show tb_0 127 = 10 from rfl]
  rfl
