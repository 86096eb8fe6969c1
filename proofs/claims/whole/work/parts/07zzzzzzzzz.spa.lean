/-- .space and .align: readStatement of the class behind sum and fixed -/
theorem sp_s {n : Nat} {B : St} {sn lu ln se co : Nat} {od ft u w : Int32} {SW LW : Nat → Int32} {s0 s1 s3 : St} (hsn : sn < 8194) (h1 : df_X9_sum n s0 = some (u, s1)) (h2 : df_X1_fixed n u 0 32768 (qC B sn lu 0 ln se od co SW LW, s1) = some (w, (qC B sn lu ft ln se od co SW LW, s3))) : (¬ ft = 0 → df_X1_readStatement n 126 (qC B sn lu 0 ln se od co SW LW, s0) = some (qC B sn lu ft ln se od co SW LW, s3)) ∧ (ft = 0 → df_X1_readStatement n 126 (qC B sn lu 0 ln se od co SW LW, s0) = df_X1_readStatement_206 n (qC B (sn + 1) lu 0 ln se od co (rowU SW sn ln se w 7 0 (-1) (nI 0)) LW, s3)) := by
  have e1 : df_X1_readStatement n 126 (qC B sn lu 0 ln se od co SW LW, s0) = nd_b1 (df_X1_add n 7 w 0 (-1) (qC B sn lu ft ln se od co SW LW, s3)) (fun (t : St × St) => df_X1_readStatement_206 n t) := by
    rw [drs_s]
    show nd_b2 (df_X9_sum n s0) _ = _
    rw [h1, nb_b2]
    show nd_b2 (df_X1_fixed n u 0 32768 (qC B sn lu 0 ln se od co SW LW, s1)) _ = _
    rw [h2, nb_b2]
  constructor
  · intro z
    rw [e1, add_F s3 z, nb_b1, end_CF z]
  · intro z
    subst z
    rw [e1, add_C s3 hsn, nb_b1]
theorem sp_a {n : Nat} {B : St} {sn lu ln se co : Nat} {od ft u w : Int32} {SW LW : Nat → Int32} {s0 s1 s3 : St} (hsn : sn < 8194) (h1 : df_X9_sum n s0 = some (u, s1)) (h2 : df_X1_fixed n u 0 10 (qC B sn lu 0 ln se od co SW LW, s1) = some (w, (qC B sn lu ft ln se od co SW LW, s3))) : (¬ ft = 0 → df_X1_readStatement n 127 (qC B sn lu 0 ln se od co SW LW, s0) = some (qC B sn lu ft ln se od co SW LW, s3)) ∧ (ft = 0 → df_X1_readStatement n 127 (qC B sn lu 0 ln se od co SW LW, s0) = df_X1_readStatement_206 n (qC B (sn + 1) lu 0 ln se od co (rowU SW sn ln se 0 8 ((1 : Int32) <<< (w &&& 31)) (-1) (nI 0)) LW, s3)) := by
  have e1 : df_X1_readStatement n 127 (qC B sn lu 0 ln se od co SW LW, s0) = nd_b1 (df_X1_add n 8 0 ((1 : Int32) <<< (w &&& 31)) (-1) (qC B sn lu ft ln se od co SW LW, s3)) (fun (t : St × St) => df_X1_readStatement_206 n t) := by
    rw [drs_a]
    show nd_b2 (df_X9_sum n s0) _ = _
    rw [h1, nb_b2]
    show nd_b2 (df_X1_fixed n u 0 10 (qC B sn lu 0 ln se od co SW LW, s1)) _ = _
    rw [h2, nb_b2]
  constructor
  · intro z
    rw [e1, add_F s3 z, nb_b1, end_CF z]
  · intro z
    subst z
    rw [e1, add_C s3 hsn, nb_b1]
