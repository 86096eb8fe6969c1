/-- .text and .data, lists, texts: readStatement of the class -/
theorem d72_t {n : Nat} {B : St} {sn lu ln se co : Nat} {od ft : Int32} {SW LW : Nat → Int32} (s2 : St) : df_X1_readStatement n 118 (qC B sn lu ft ln se od co SW LW, s2) = df_X1_readStatement_206 n (qC B sn lu ft ln 0 od co SW LW, s2) := by
  rw [drs_t]
  unfold df_X1_readStatement_72
  rw [lt_y (by omega), nb_let, show ko_b 118 = nI 0 from rfl]
  show df_X1_readStatement_206 n (pI (qC B sn lu ft ln se od co SW LW) 4 (nI 0), s2) = _
  rw [qC_w4]
theorem d72_d {n : Nat} {B : St} {sn lu ln se co : Nat} {od ft : Int32} {SW LW : Nat → Int32} (s2 : St) : df_X1_readStatement n 119 (qC B sn lu ft ln se od co SW LW, s2) = df_X1_readStatement_206 n (qC B sn lu ft ln 1 od co SW LW, s2) := by
  rw [drs_d]
  unfold df_X1_readStatement_72
  rw [lt_y (by omega), nb_let, show ko_b 119 = nI 1 from rfl]
  show df_X1_readStatement_206 n (pI (qC B sn lu ft ln se od co SW LW) 4 (nI 1), s2) = _
  rw [qC_w4]
theorem d90_1 (n : Nat) (s : St × St) : df_X1_readStatement n 121 s = nd_b1 (df_X1_readList n (nI 1) s) (fun (t : St × St) => df_X1_readStatement_206 n t) := by
  rw [drs_l1]
  unfold df_X1_readStatement_90
  rw [lt_y (by omega), show ko_b 121 = nI 1 from rfl]
theorem d90_2 (n : Nat) (s : St × St) : df_X1_readStatement n 122 s = nd_b1 (df_X1_readList n (nI 2) s) (fun (t : St × St) => df_X1_readStatement_206 n t) := by
  rw [drs_l2]
  unfold df_X1_readStatement_90
  rw [lt_y (by omega), show ko_b 122 = nI 2 from rfl]
theorem d90_4 (n : Nat) (s : St × St) : df_X1_readStatement n 123 s = nd_b1 (df_X1_readList n (nI 4) s) (fun (t : St × St) => df_X1_readStatement_206 n t) := by
  rw [drs_l3]
  unfold df_X1_readStatement_90
  rw [lt_y (by omega), show ko_b 123 = nI 4 from rfl]
theorem d101_x (n : Nat) (s : St × St) : df_X1_readStatement n 124 s = nd_b1 (df_X1_readTexts n (bI false) s) (fun (t : St × St) => df_X1_readStatement_206 n t) := by
  rw [drs_x]
  unfold df_X1_readStatement_101
  rw [lt_y (by omega), show ko_b 124 = nI 0 from rfl, if_neg (show ¬ nI 0 = (1 : Int32) by decide)]
  rfl
theorem d101_z (n : Nat) (s : St × St) : df_X1_readStatement n 125 s = nd_b1 (df_X1_readTexts n (bI true) s) (fun (t : St × St) => df_X1_readStatement_206 n t) := by
  rw [drs_z]
  unfold df_X1_readStatement_101
  rw [lt_y (by omega), show ko_b 125 = nI 1 from rfl, if_pos (show nI 1 = (1 : Int32) from rfl)]
  rfl
