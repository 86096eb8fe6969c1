/-- the class's assembler as one term -/
def qC (B : St) (sn : Nat) (lu : Nat) (ft : Int32) (ln : Nat) (se : Nat) (od : Int32) (co : Nat) (SW LW : Nat → Int32) : St := (fun j => if j = 0 then nI sn else if j = 1 then nI lu else if j = 2 then ft else if j = 3 then nI ln else if j = 4 then nI se else if j = 5 then od else if j = 6 then nI co else B.1 j, B.2.1, fun j => if j = 0 then SW else if j = 1 then LW else B.2.2.1 j, B.2.2.2)
theorem qC_i0 {B : St} {sn : Nat} {lu : Nat} {ft : Int32} {ln : Nat} {se : Nat} {od : Int32} {co : Nat} {SW LW : Nat → Int32} : sI (qC B sn lu ft ln se od co SW LW) 0 = nI sn := rfl
theorem qC_i1 {B : St} {sn : Nat} {lu : Nat} {ft : Int32} {ln : Nat} {se : Nat} {od : Int32} {co : Nat} {SW LW : Nat → Int32} : sI (qC B sn lu ft ln se od co SW LW) 1 = nI lu := rfl
theorem qC_i2 {B : St} {sn : Nat} {lu : Nat} {ft : Int32} {ln : Nat} {se : Nat} {od : Int32} {co : Nat} {SW LW : Nat → Int32} : sI (qC B sn lu ft ln se od co SW LW) 2 = ft := rfl
theorem qC_i3 {B : St} {sn : Nat} {lu : Nat} {ft : Int32} {ln : Nat} {se : Nat} {od : Int32} {co : Nat} {SW LW : Nat → Int32} : sI (qC B sn lu ft ln se od co SW LW) 3 = nI ln := rfl
theorem qC_i4 {B : St} {sn : Nat} {lu : Nat} {ft : Int32} {ln : Nat} {se : Nat} {od : Int32} {co : Nat} {SW LW : Nat → Int32} : sI (qC B sn lu ft ln se od co SW LW) 4 = nI se := rfl
theorem qC_i5 {B : St} {sn : Nat} {lu : Nat} {ft : Int32} {ln : Nat} {se : Nat} {od : Int32} {co : Nat} {SW LW : Nat → Int32} : sI (qC B sn lu ft ln se od co SW LW) 5 = od := rfl
theorem qC_i6 {B : St} {sn : Nat} {lu : Nat} {ft : Int32} {ln : Nat} {se : Nat} {od : Int32} {co : Nat} {SW LW : Nat → Int32} : sI (qC B sn lu ft ln se od co SW LW) 6 = nI co := rfl
theorem qC_r0 {B : St} {sn : Nat} {lu : Nat} {ft : Int32} {ln : Nat} {se : Nat} {od : Int32} {co : Nat} {SW LW : Nat → Int32} : sR (qC B sn lu ft ln se od co SW LW) 0 = SW := rfl
theorem qC_r1 {B : St} {sn : Nat} {lu : Nat} {ft : Int32} {ln : Nat} {se : Nat} {od : Int32} {co : Nat} {SW LW : Nat → Int32} : sR (qC B sn lu ft ln se od co SW LW) 1 = LW := rfl
theorem qC_w0 {B : St} {sn : Nat} {lu : Nat} {ft : Int32} {ln : Nat} {se : Nat} {od : Int32} {co : Nat} {SW LW : Nat → Int32} {v : Nat} : pI (qC B sn lu ft ln se od co SW LW) 0 (nI v) = qC B v lu ft ln se od co SW LW := Prod.ext (funext fun j => by
  show (if j = 0 then nI v else _) = _
  by_cases h : j = 0
  · subst h; rfl
  · unfold qC
    simp only [if_neg h]) rfl
theorem qC_w1 {B : St} {sn : Nat} {lu : Nat} {ft : Int32} {ln : Nat} {se : Nat} {od : Int32} {co : Nat} {SW LW : Nat → Int32} {v : Nat} : pI (qC B sn lu ft ln se od co SW LW) 1 (nI v) = qC B sn v ft ln se od co SW LW := Prod.ext (funext fun j => by
  show (if j = 1 then nI v else _) = _
  by_cases h : j = 1
  · subst h; rfl
  · unfold qC
    simp only [if_neg h]) rfl
theorem qC_w2 {B : St} {sn : Nat} {lu : Nat} {ft : Int32} {ln : Nat} {se : Nat} {od : Int32} {co : Nat} {SW LW : Nat → Int32} {v : Int32} : pI (qC B sn lu ft ln se od co SW LW) 2 (v) = qC B sn lu v ln se od co SW LW := Prod.ext (funext fun j => by
  show (if j = 2 then v else _) = _
  by_cases h : j = 2
  · subst h; rfl
  · unfold qC
    simp only [if_neg h]) rfl
theorem qC_w3 {B : St} {sn : Nat} {lu : Nat} {ft : Int32} {ln : Nat} {se : Nat} {od : Int32} {co : Nat} {SW LW : Nat → Int32} {v : Nat} : pI (qC B sn lu ft ln se od co SW LW) 3 (nI v) = qC B sn lu ft v se od co SW LW := Prod.ext (funext fun j => by
  show (if j = 3 then nI v else _) = _
  by_cases h : j = 3
  · subst h; rfl
  · unfold qC
    simp only [if_neg h]) rfl
theorem qC_w4 {B : St} {sn : Nat} {lu : Nat} {ft : Int32} {ln : Nat} {se : Nat} {od : Int32} {co : Nat} {SW LW : Nat → Int32} {v : Nat} : pI (qC B sn lu ft ln se od co SW LW) 4 (nI v) = qC B sn lu ft ln v od co SW LW := Prod.ext (funext fun j => by
  show (if j = 4 then nI v else _) = _
  by_cases h : j = 4
  · subst h; rfl
  · unfold qC
    simp only [if_neg h]) rfl
theorem qC_w5 {B : St} {sn : Nat} {lu : Nat} {ft : Int32} {ln : Nat} {se : Nat} {od : Int32} {co : Nat} {SW LW : Nat → Int32} {v : Int32} : pI (qC B sn lu ft ln se od co SW LW) 5 (v) = qC B sn lu ft ln se v co SW LW := Prod.ext (funext fun j => by
  show (if j = 5 then v else _) = _
  by_cases h : j = 5
  · subst h; rfl
  · unfold qC
    simp only [if_neg h]) rfl
theorem qC_w6 {B : St} {sn : Nat} {lu : Nat} {ft : Int32} {ln : Nat} {se : Nat} {od : Int32} {co : Nat} {SW LW : Nat → Int32} {v : Nat} : pI (qC B sn lu ft ln se od co SW LW) 6 (nI v) = qC B sn lu ft ln se od v SW LW := Prod.ext (funext fun j => by
  show (if j = 6 then nI v else _) = _
  by_cases h : j = 6
  · subst h; rfl
  · unfold qC
    simp only [if_neg h]) rfl
theorem qC_y0 {B : St} {sn : Nat} {lu : Nat} {ft : Int32} {ln : Nat} {se : Nat} {od : Int32} {co : Nat} {SW LW : Nat → Int32} {v : Nat → Int32} : pR (qC B sn lu ft ln se od co SW LW) 0 v = qC B sn lu ft ln se od co v LW := Prod.ext rfl (Prod.ext rfl (Prod.ext (funext fun j => by
  show (if j = 0 then v else _) = _
  by_cases h : j = 0
  · subst h; rfl
  · unfold qC
    simp only [if_neg h]) rfl))
theorem qC_y1 {B : St} {sn : Nat} {lu : Nat} {ft : Int32} {ln : Nat} {se : Nat} {od : Int32} {co : Nat} {SW LW : Nat → Int32} {v : Nat → Int32} : pR (qC B sn lu ft ln se od co SW LW) 1 v = qC B sn lu ft ln se od co SW v := Prod.ext rfl (Prod.ext rfl (Prod.ext (funext fun j => by
  show (if j = 1 then v else _) = _
  by_cases h : j = 1
  · subst h; rfl
  · unfold qC
    simp only [if_neg h]) rfl))
def bC (B : St) (e nl : Nat) (NR LB : Nat → Int32) : St := (fun j => if j = 1 then nI e else if j = 9 then nI nl else B.1 j, B.2.1, fun j => if j = 5 then NR else if j = 6 then LB else B.2.2.1 j, B.2.2.2)
theorem bC_u1 {B : St} {e nl : Nat} {NR LB : Nat → Int32} {cs tp st ns : Nat} {fx : Bool} {C A S NM BK : Nat → Int32} {ap kd fr : Nat} {nm : Int32} : sI (uC (xC (bC B e nl NR LB) cs tp st ns fx C A S NM BK) ap kd fr nm) 1 = nI e := rfl
theorem bC_u9 {B : St} {e nl : Nat} {NR LB : Nat → Int32} {cs tp st ns : Nat} {fx : Bool} {C A S NM BK : Nat → Int32} {ap kd fr : Nat} {nm : Int32} : sI (uC (xC (bC B e nl NR LB) cs tp st ns fx C A S NM BK) ap kd fr nm) 9 = nI nl := rfl
theorem bC_r5 {B : St} {e nl : Nat} {NR LB : Nat → Int32} {cs tp st ns : Nat} {fx : Bool} {C A S NM BK : Nat → Int32} {ap kd fr : Nat} {nm : Int32} : sR (uC (xC (bC B e nl NR LB) cs tp st ns fx C A S NM BK) ap kd fr nm) 5 = NR := rfl
theorem bC_r6 {B : St} {e nl : Nat} {NR LB : Nat → Int32} {cs tp st ns : Nat} {fx : Bool} {C A S NM BK : Nat → Int32} {ap kd fr : Nat} {nm : Int32} : sR (uC (xC (bC B e nl NR LB) cs tp st ns fx C A S NM BK) ap kd fr nm) 6 = LB := rfl
theorem bC_r7 {B : St} {e nl : Nat} {NR LB : Nat → Int32} {cs tp st ns : Nat} {fx : Bool} {C A S NM BK : Nat → Int32} {ap kd fr : Nat} {nm : Int32} : sR (uC (xC (bC B e nl NR LB) cs tp st ns fx C A S NM BK) ap kd fr nm) 7 = sR B 7 := rfl
theorem bC_o {B : St} {e nl : Nat} {NR LB : Nat → Int32} {cs tp st ns : Nat} {fx : Bool} {C A S NM BK : Nat → Int32} {ap kd fr : Nat} {nm : Int32} {j : Nat} : sO (uC (xC (bC B e nl NR LB) cs tp st ns fx C A S NM BK) ap kd fr nm) j = sO B j := rfl
theorem bC_w1 {B : St} {e nl : Nat} {NR LB : Nat → Int32} {cs tp st ns : Nat} {fx : Bool} {C A S NM BK : Nat → Int32} {ap kd fr : Nat} {nm : Int32} {v : Nat} : pI (uC (xC (bC B e nl NR LB) cs tp st ns fx C A S NM BK) ap kd fr nm) 1 (nI v) = uC (xC (bC B v nl NR LB) cs tp st ns fx C A S NM BK) ap kd fr nm := Prod.ext (funext fun j => by
  show (if j = 1 then nI v else _) = _
  by_cases h : j = 1
  · subst h; rfl
  · unfold uC xC bC
    simp only [if_neg h]) rfl
theorem bC_w9 {B : St} {e nl : Nat} {NR LB : Nat → Int32} {cs tp st ns : Nat} {fx : Bool} {C A S NM BK : Nat → Int32} {ap kd fr : Nat} {nm : Int32} {v : Nat} : pI (uC (xC (bC B e nl NR LB) cs tp st ns fx C A S NM BK) ap kd fr nm) 9 (nI v) = uC (xC (bC B e v NR LB) cs tp st ns fx C A S NM BK) ap kd fr nm := Prod.ext (funext fun j => by
  show (if j = 9 then nI v else _) = _
  by_cases h : j = 9
  · subst h; rfl
  · unfold uC xC bC
    simp only [if_neg h]) rfl
theorem bC_y5 {B : St} {e nl : Nat} {NR LB : Nat → Int32} {cs tp st ns : Nat} {fx : Bool} {C A S NM BK : Nat → Int32} {ap kd fr : Nat} {nm : Int32} {v : Nat → Int32} : pR (uC (xC (bC B e nl NR LB) cs tp st ns fx C A S NM BK) ap kd fr nm) 5 v = uC (xC (bC B e nl v LB) cs tp st ns fx C A S NM BK) ap kd fr nm := Prod.ext rfl (Prod.ext rfl (Prod.ext (funext fun j => by
  show (if j = 5 then v else _) = _
  by_cases h : j = 5
  · subst h; rfl
  · unfold uC xC bC
    simp only [if_neg h]) rfl))
theorem bC_y6 {B : St} {e nl : Nat} {NR LB : Nat → Int32} {cs tp st ns : Nat} {fx : Bool} {C A S NM BK : Nat → Int32} {ap kd fr : Nat} {nm : Int32} {v : Nat → Int32} : pR (uC (xC (bC B e nl NR LB) cs tp st ns fx C A S NM BK) ap kd fr nm) 6 v = uC (xC (bC B e nl NR v) cs tp st ns fx C A S NM BK) ap kd fr nm := Prod.ext rfl (Prod.ext rfl (Prod.ext (funext fun j => by
  show (if j = 6 then v else _) = _
  by_cases h : j = 6
  · subst h; rfl
  · unfold uC xC bC
    simp only [if_neg h]) rfl))
/-- a statement's row -/
def rowU (R : Nat → Int32) (j ln se : Nat) (le kd b cd lt : Int32) : Nat → Int32 := upd (upd (upd (upd (upd (upd (upd (upd R (j * 8) (nI ln)) (j * 8 + 1) (nI se)) (j * 8 + 2) (nI 0)) (j * 8 + 3) le) (j * 8 + 4) kd) (j * 8 + 5) b) (j * 8 + 6) cd) (j * 8 + 7) lt
theorem up_2 {f : Nat → Int32} {k : Nat} {x y : Int32} : upd (upd f k x) k y = upd f k y := funext fun i => by
  unfold upd
  by_cases h : i = k
  · rw [if_pos h, if_pos h]
  · rw [if_neg h, if_neg h, if_neg h]
theorem rowU_o {R : Nat → Int32} {j ln se : Nat} {le kd b cd lt : Int32} {i : Nat} (h : i < j * 8 ∨ j * 8 + 8 ≤ i) : rowU R j ln se le kd b cd lt i = R i := by
  unfold rowU
  rw [up_n (by omega), up_n (by omega), up_n (by omega), up_n (by omega), up_n (by omega), up_n (by omega), up_n (by omega), up_n (by omega)]
theorem rowU_i {R : Nat → Int32} {j ln se : Nat} {le kd b cd lt : Int32} : rowU R j ln se le kd b cd lt (j * 8) = nI ln ∧ rowU R j ln se le kd b cd lt (j * 8 + 1) = nI se ∧ rowU R j ln se le kd b cd lt (j * 8 + 2) = nI 0 ∧ rowU R j ln se le kd b cd lt (j * 8 + 3) = le ∧ rowU R j ln se le kd b cd lt (j * 8 + 4) = kd ∧ rowU R j ln se le kd b cd lt (j * 8 + 5) = b ∧ rowU R j ln se le kd b cd lt (j * 8 + 6) = cd ∧ rowU R j ln se le kd b cd lt (j * 8 + 7) = lt := by
  unfold rowU
  refine ⟨?_, ?_, ?_, ?_, ?_, ?_, ?_, up_e⟩
  · rw [up_n (by omega), up_n (by omega), up_n (by omega), up_n (by omega), up_n (by omega), up_n (by omega), up_n (by omega), up_e]
  · rw [up_n (by omega), up_n (by omega), up_n (by omega), up_n (by omega), up_n (by omega), up_n (by omega), up_e]
  · rw [up_n (by omega), up_n (by omega), up_n (by omega), up_n (by omega), up_n (by omega), up_e]
  · rw [up_n (by omega), up_n (by omega), up_n (by omega), up_n (by omega), up_e]
  · rw [up_n (by omega), up_n (by omega), up_n (by omega), up_e]
  · rw [up_n (by omega), up_n (by omega), up_e]
  · rw [up_n (by omega), up_e]
theorem add_C {n : Nat} {B : St} {sn lu ln se co : Nat} {od : Int32} {SW LW : Nat → Int32} (s2 : St) (h : sn < 8194) (kd le b cd : Int32) : df_X1_add n kd le b cd (qC B sn lu 0 ln se od co SW LW, s2) = some (qC B (sn + 1) lu 0 ln se od co (rowU SW sn ln se le kd b cd (nI 0)) LW, s2) := by
  have h8 : sn * 8 + 7 < 65552 := by omega
  simp (disch := (first | assumption | decide | omega)) only [df_X1_add_17, df_X1_add_0, df_X1_add, qC_i0, qC_i1, qC_i2, qC_i3, qC_i4, qC_i5, qC_i6, qC_r0, qC_r1, qC_w0, qC_w1, qC_w2, qC_w3, qC_w4, qC_w5, qC_w6, qC_y0, qC_y1, eq_self, Nat.reduceEqDiff, Nat.reduceLeDiff, nl_0, nl_1, nl_2, nl_3, nl_4, nl_5, nl_6, nl_7, nl_8, nl_8194, nl_65552, no_1, no_1024, pk_mul, nI_add, nm_ck, nI_clamp, nI_ltI, nI_leI, nI_eq, nb_b2, nb_b1, ↓nb_let, nm_z0, nm_z1, nb_II, nb_IR, nb_RI, nb_RR, nm_IL, nm_IQ, nm_RL, nm_RQ, nm_LI, nm_LR, nm_LL, nm_LQ, nm_QI, nm_QR, nm_QL, nm_QQ, nm_rr, nm_ii, nm_eqm, not_false_eq_true, pk_sub, nm_div, nm_shl, nm_shr, nm_ush, nm_or8, nm_or64, nm_or256, nm_m1, nm_m3, nm_m7, nm_m15, nm_m31, nm_m63, nm_m255, nm_m511, nm_m1023, nm_m2047, nm_m65535, Nat.reduceMod, Nat.reducePow, Nat.reduceAdd, Nat.reduceSub, Nat.reduceMul, nm_bo, nm_bi, nm_rc, nm_ic, nm_ri, nm_rl, nm_rq, nm_ql, nm_qi, nm_li, nm_us, nm_uu, nm_cp, nm_sa31, nm_sa7, nm_m127, nm_m2, nm_nz, nm_nzk, nm_eq32, nm_nzf, if_true, if_false, ↓reduceIte, if_pos, if_neg]
  rfl
theorem add_F {n : Nat} {B : St} {sn lu ln se co : Nat} {ft od : Int32} {SW LW : Nat → Int32} (s2 : St) (h : ¬ ft = 0) (kd le b cd : Int32) : df_X1_add n kd le b cd (qC B sn lu ft ln se od co SW LW, s2) = some (qC B sn lu ft ln se od co SW LW, s2) := by
  unfold df_X1_add df_X1_add_0 df_X1_add_17
  rw [if_neg (show ¬ sI (qC B sn lu ft ln se od co SW LW, s2).1 2 = 0 from h)]
theorem stl_C {n : Nat} {B : St} {sn lu ln se co : Nat} {od : Int32} {SW LW : Nat → Int32} {lnn see : Nat} {le kd b cd : Int32} (s2 : St) (h : sn < 8194) (lt : Int32) : df_X1_setLetter n lt (qC B (sn + 1) lu 0 ln se od co (rowU SW sn lnn see le kd b cd (nI 0)) LW, s2) = some (qC B (sn + 1) lu 0 ln se od co (rowU SW sn lnn see le kd b cd lt) LW, s2) := by
  have h8 : sn * 8 + 7 < 65552 := by omega
  have u2 : upd (rowU SW sn lnn see le kd b cd (nI 0)) (sn * 8 + 7) lt = rowU SW sn lnn see le kd b cd lt := up_2
  have s1 : sn + 1 - 1 = sn := by omega
  simp (disch := (first | assumption | decide | omega)) only [df_X1_setLetter_32, df_X1_setLetter_0, df_X1_setLetter, qC_i0, qC_i1, qC_i2, qC_i3, qC_i4, qC_i5, qC_i6, qC_r0, qC_r1, qC_w0, qC_w1, qC_w2, qC_w3, qC_w4, qC_w5, qC_w6, qC_y0, qC_y1, s1, u2, Nat.not_succ_le_zero, eq_self, Nat.reduceEqDiff, Nat.reduceLeDiff, nl_0, nl_1, nl_2, nl_7, nl_8, nl_65552, no_1, no_1024, pk_mul, nI_add, nm_ck, nI_clamp, nI_ltI, nI_leI, nI_eq, nb_b2, nb_b1, ↓nb_let, nm_z0, nm_z1, nb_II, nb_IR, nb_RI, nb_RR, nm_IL, nm_IQ, nm_RL, nm_RQ, nm_LI, nm_LR, nm_LL, nm_LQ, nm_QI, nm_QR, nm_QL, nm_QQ, nm_rr, nm_ii, nm_eqm, not_false_eq_true, pk_sub, nm_div, nm_shl, nm_shr, nm_ush, nm_or8, nm_or64, nm_or256, nm_m1, nm_m3, nm_m7, nm_m15, nm_m31, nm_m63, nm_m255, nm_m511, nm_m1023, nm_m2047, nm_m65535, Nat.reduceMod, Nat.reducePow, Nat.reduceAdd, Nat.reduceSub, Nat.reduceMul, nm_bo, nm_bi, nm_rc, nm_ic, nm_ri, nm_rl, nm_rq, nm_ql, nm_qi, nm_li, nm_us, nm_uu, nm_cp, nm_sa31, nm_sa7, nm_m127, nm_m2, nm_nz, nm_nzk, nm_eq32, nm_nzf, if_true, if_false, ↓reduceIte, if_pos, if_neg]
theorem stl_F {n : Nat} {B : St} {sn lu ln se co : Nat} {ft od : Int32} {SW LW : Nat → Int32} (s2 : St) (h : ¬ ft = 0) (lt : Int32) : df_X1_setLetter n lt (qC B sn lu ft ln se od co SW LW, s2) = some (qC B sn lu ft ln se od co SW LW, s2) := by
  unfold df_X1_setLetter df_X1_setLetter_0 df_X1_setLetter_32
  rw [if_neg (show ¬ sI (qC B sn lu ft ln se od co SW LW, s2).1 2 = 0 from h)]
theorem blm_C {n : Nat} {B : St} {sn lu ln se co : Nat} {od : Int32} {SW LW : Nat → Int32} (s2 : St) (v : Int32) : df_X1_blame n v (qC B sn lu 0 ln se od co SW LW, s2) = some (qC B sn lu v ln se od co SW LW, s2) := (bl_X1 v qC_i2).trans (by rw [qC_w2])
/-- the tokens don't care for labels -/
theorem at_b {n L e : Nat} {c : Nat → Nat} {B BR : St} {nl nl' : Nat} {NR LB NR' LB' : Nat → Int32} (h : atx n L e c (bC B e nl NR LB) BR) : atx n L e c (bC B e nl' NR' LB') BR := h
theorem RT_b {n L e : Nat} {c : Nat → Nat} {B : St} {nl nl' : Nat} {NR LB NR' LB' : Nat → Int32} {p q p' τ v : Nat} (h : RT n L e c (bC B e nl NR LB) p q p' τ v) : RT n L e c (bC B e nl' NR' LB') p q p' τ v := h
theorem TS_b {n L e : Nat} {c : Nat → Nat} {B : St} {nl nl' : Nat} {NR LB NR' LB' : Nat → Int32} {p q p' κ τ v : Nat} {x : Int32} (h : TS n L e c (bC B e nl NR LB) p q p' κ τ v x) : TS n L e c (bC B e nl' NR' LB') p q p' κ τ v x := h
theorem RX_b {n L e : Nat} {c : Nat → Nat} {B : St} {nl nl' : Nat} {NR LB NR' LB' : Nat → Int32} {p : Nat} {ok : Bool} {p2 m : Nat} {P : Nat → Tp} (h : RX n L e c (bC B e nl NR LB) p ok p2 m P) : RX n L e c (bC B e nl' NR' LB') p ok p2 m P := h
