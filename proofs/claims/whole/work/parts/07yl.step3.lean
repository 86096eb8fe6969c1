theorem ex_ite {c : Prop} {i : Decidable c} {a b : Option (Int32 × Unit)} (ha : ∃ w : Int32, a = some (w, ())) (hb : ∃ w : Int32, b = some (w, ())) : ∃ w : Int32, @ite _ c i a b = some (w, ()) := by
  by_cases z : c
  · rw [if_pos z]; exact ha
  · rw [if_neg z]; exact hb
theorem z89 (X : St × St) (a b c d u v : Int32) : (pI (pI (zS X a b c d).1 8 u) 9 v, (zS X a b c d).2) = zS X u v c d := (congrArg (fun q => (pI q.1 9 v, q.2)) (z8 X a b c d u)).trans (z9 X u b c d v)
theorem z80 (X : St × St) (a b c d u w : Int32) : (pI (pI (zS X a b c d).1 8 u) 10 w, (zS X a b c d).2) = zS X u b w d := (congrArg (fun q => (pI q.1 10 w, q.2)) (z8 X a b c d u)).trans (z10 X u b c d w)
theorem z890 (X : St × St) (a b c d u v w : Int32) : (pI (pI (pI (zS X a b c d).1 8 u) 9 v) 10 w, (zS X a b c d).2) = zS X u v w d := (congrArg (fun q => (pI q.1 10 w, q.2)) (z89 X a b c d u v)).trans (z10 X u v c d w)
theorem ex_first (n : Nat) (h : Int32) : ∃ w : Int32, df_X4_expandedFirst n h () = some (w, ()) := by
  repeat' (first | apply ex_ite | exact ⟨_, rfl⟩)
theorem ex_second (n : Nat) (h : Int32) : ∃ w : Int32, df_X4_expandedSecond n h () = some (w, ()) := by
  repeat' (first | apply ex_ite | exact ⟨_, rfl⟩)
theorem ex_third (n : Nat) (h : Int32) : ∃ w : Int32, df_X4_expandedThird n h () = some (w, ()) := by
  repeat' (first | apply ex_ite | exact ⟨_, rfl⟩)
theorem ex_sums (n : Nat) (h : Int32) : ∃ w : Int32, df_X4_expandedSums n h () = some (w, ()) := by
  repeat' (first | apply ex_ite | exact ⟨_, rfl⟩)
theorem ex_some (n : Nat) (h : Int32) : ∃ w : Int32, df_X4_expanded n h () = some (w, ()) := by
  obtain ⟨w1, e1⟩ := ex_first n h
  obtain ⟨w2, e2⟩ := ex_second n h
  obtain ⟨w3, e3⟩ := ex_third n h
  obtain ⟨w4, e4⟩ := ex_sums n h
  simp only [df_X4_expanded, df_X4_expanded_0, df_X4_expanded_52, e1, e2, e3, e4, nb_b2]
  repeat' (first | split | exact ⟨_, rfl⟩)
theorem wd4_z (X : St × St) (a b c d : Int32) (p A : Nat) : wd4 (zS X a b c d) p A = wd4 X p A := rfl
theorem hf_z (n : Nat) {X : St × St} {p A : Nat} (hp : p < 16) (hA : A < 65536) (h : sI X.1 12 = nI p) (e : A % 2 = 0) {y : Int32} (hy : hw (wd4 X p A) (8 * (A / 2 % 2 * 2)) = y) (a b c d : Int32) : df_X16_half n (nI A) (zS X a b c d) = some (y, zS X a b c d) := by
  rw [nk_half n (X := zS X a b c d) hp hA h e, wd4_z, hy]
theorem s0_h (n : Nat) {p : Nat} {X : St × St} (hp : p < 16) (a3 : sI X.1 12 = nI p) {P : Nat} (hP : P < 2 ^ 32) (eP : sR X.1 10 p = nI P) (odd : P % 2 = 0) {Hn : Nat} (hHn : Hn < 65536) (fe : ∀ a b c d : Int32, df_X16_fetches n (nI P) (zS X a b c d) = some (nI 1, zS X a b c d)) (hf : ∀ a b c d : Int32, df_X16_half n (nI P) (zS X a b c d) = some (nI Hn, zS X a b c d)) (v8 v9 v10 v11 : Int32) : df_X16_step_0 n (zS X v8 v9 v10 v11) = if Hn % 4 = 3 then df_X16_step_57 n (nI P) (nI 4) (zS X (nI Hn) v9 v10 (nI 0)) else df_X16_step_57 n (nI P) (nI 2) (zS X (nI Hn) v9 v10 (nI 0)) := by
  have o1 : ¬ (nI P &&& 1 : Int32) = 1 := fun z => by
    have z : nI P &&& nI 1 = nI 1 := z
    rw [nm_m1 hP] at z
    have := nm_inI (by omega) (by omega) z
    omega
  have z11' : ∀ a b c d : Int32, (pI (zS X a b c d).1 11 0, (zS X a b c d).2) = zS X a b c (nI 0) := fun a b c d => z11 X a b c d (nI 0)
  have q3 : (nI Hn &&& 3 : Int32) = nI (Hn % 4) := nm_m3 (by omega)
  have n1 : ¬ (nI 1 : Int32) = 0 := by decide
  unfold df_X16_step_0
  rw [zI12, a3, nm_ck hp (by omega), nI_clamp (by omega), zR, eP, nb_let, nb_let, z11', if_neg o1, fe, nb_b2, if_neg n1, hf, nb_b2, nb_let, z8, zI8, q3]
  by_cases c : Hn % 4 = 3
  · rw [if_pos c, if_pos (show (nI (Hn % 4) : Int32) = 3 from congrArg nI c)]
    rfl
  · rw [if_neg c, if_neg (show ¬ (nI (Hn % 4) : Int32) = 3 from fun z => c (nm_inI (by omega) (by omega) z))]
    rfl
theorem s57_n (n : Nat) {X : St × St} {P : Nat} (fe2 : ∀ a b c d : Int32, df_X16_fetches n (nI (P + 2)) (zS X a b c d) = some (nI 0, zS X a b c d)) (a b c d : Int32) : df_X16_step_57 n (nI P) (nI 4) (zS X a b c d) = some (nI 1, zS X a (nI 4) c d) := by
  unfold df_X16_step_57
  rw [nb_let, z9, zI9, if_pos (show (nI 4 : Int32) = 4 from rfl), show (nI P + 2 : Int32) = nI (P + 2) from nI_add P 2, fe2, nb_b2, if_pos (show (nI 0 : Int32) = 0 from rfl)]
  rfl
theorem s57_y (n : Nat) {X : St × St} {P : Nat} (fe2 : ∀ a b c d : Int32, df_X16_fetches n (nI (P + 2)) (zS X a b c d) = some (nI 1, zS X a b c d)) (a b c d : Int32) : df_X16_step_57 n (nI P) (nI 4) (zS X a b c d) = df_X16_step_80 n (nI P) (zS X a (nI 4) c d) := by
  unfold df_X16_step_57
  rw [nb_let, z9, zI9, if_pos (show (nI 4 : Int32) = 4 from rfl), show (nI P + 2 : Int32) = nI (P + 2) from nI_add P 2, fe2, nb_b2, if_neg (show ¬ (nI 1 : Int32) = 0 from by decide)]
theorem s57_2 (n : Nat) {X : St × St} {P : Nat} (a b c d : Int32) : df_X16_step_57 n (nI P) (nI 2) (zS X a b c d) = df_X16_step_80 n (nI P) (zS X a (nI 2) c d) := by
  unfold df_X16_step_57
  rw [nb_let, z9, zI9, if_neg (show ¬ (nI 2 : Int32) = 4 from by decide)]
theorem s80_4 (n : Nat) {X : St × St} {P W : Nat} {y : Int32} (hfb : ∀ a b c d : Int32, df_X16_half n (nI (P + 2)) (zS X a b c d) = some (y, zS X a b c d)) {a : Int32} (eW : a ||| (y <<< nI 16) = nI W) (c d : Int32) : df_X16_step_80 n (nI P) (zS X a (nI 4) c d) = df_X16_step_111 n (nI P) (nI W) (zS X a (nI 4) c d) := by
  have e16 : (y <<< ((16 : Int32) &&& 31)) = y <<< nI 16 := congrArg (fun z => y <<< z) (by decide)
  unfold df_X16_step_80
  rw [zI9, if_pos (show (nI 4 : Int32) = 4 from rfl), show (nI P + 2 : Int32) = nI (P + 2) from nI_add P 2, hfb, nb_b2, zI8, e16, eW]
theorem s80_2 (n : Nat) {X : St × St} {P : Nat} (a c d : Int32) : df_X16_step_80 n (nI P) (zS X a (nI 2) c d) = df_X16_step_111 n (nI P) a (zS X a (nI 2) c d) := by
  unfold df_X16_step_80
  rw [zI9, if_neg (show ¬ (nI 2 : Int32) = 4 from by decide), zI8]
theorem s111_4 (n : Nat) {X : St × St} {P W : Nat} (a c d : Int32) : df_X16_step_111 n (nI P) (nI W) (zS X a (nI 4) c d) = df_X16_step_146 n (nI W) (zS X (nI W) (nI 4) (nI (P + 4)) d) := by
  unfold df_X16_step_111
  rw [nb_let, z8, nb_let, zI9, nI_add, z10, zI9, if_pos (show (nI 4 : Int32) = 4 from rfl), zI8]
theorem s111_2 (n : Nat) {X : St × St} {P Hn W : Nat} (ew : df_X16_expand n (nI Hn) () = some (nI W, ())) (a c d : Int32) : df_X16_step_111 n (nI P) (nI Hn) (zS X a (nI 2) c d) = df_X16_step_146 n (nI W) (zS X (nI Hn) (nI 2) (nI (P + 2)) d) := by
  unfold df_X16_step_111
  rw [nb_let, z8, nb_let, zI9, nI_add, z10, zI9, if_neg (show ¬ (nI 2 : Int32) = 4 from by decide), zI8, ew, nb_b2]
theorem st_odd (n : Nat) (hn : 1024 < n) {p : Nat} {M X : St × St} (h : rPre p M X) (H : St) {P : Nat} (hP : P < 2 ^ 32) (eP : sR X.1 10 p = nI P) (v8 v9 v10 v11 : Int32) (odd1 : P % 2 = 1) : oS p M X (df_X4_step n (nI p) (H, M)) (df_X16_step n (zS X v8 v9 v10 v11)) := by
  have h0 := h
  obtain ⟨hp, a3, a7, ap, a8, a9, a10, a11, a12, a13, a14⟩ := h
  rw [eP] at ap
  have u1 : p * 33 + 32 < 528 := by omega
  have u2 : p < 2 ^ 31 := by omega
  refine Or.inr (Or.inl ⟨(pI (pI (pI H 0 (nI p)) 1 (nI (p * 33))) 2 (nI P)), v8, v9, v10, ?_, ?_⟩)
  · simp (disch := (first | assumption | decide | omega)) only [df_X4_step, df_X4_step_0, df_X4_step_54, ap, odd1, eq_self, Nat.reduceEqDiff, Nat.reduceLeDiff, nl_0, nl_1, nl_2, nl_3, nl_4, nl_11, nl_16, nl_31, nl_32, nl_33, nl_528, no_1, no_1024, pk_mul, nI_add, nm_ck, nI_clamp, nI_ltI, nI_leI, nI_eq, nb_b2, nb_b1, ↓nb_let, nm_z0, nm_z1, nb_II, nb_IR, nb_RI, nb_RR, nm_IL, nm_IQ, nm_RL, nm_RQ, nm_LI, nm_LR, nm_LL, nm_LQ, nm_QI, nm_QR, nm_QL, nm_QQ, nm_rr, nm_ii, nm_eqm, not_false_eq_true, pk_sub, nm_div, nm_shl, nm_shr, nm_ush, nm_or8, nm_or64, nm_or256, nm_m1, nm_m3, nm_m7, nm_m15, nm_m31, nm_m63, nm_m255, nm_m511, nm_m1023, nm_m2047, nm_m65535, Nat.reduceMod, Nat.reducePow, Nat.reduceAdd, Nat.reduceSub, Nat.reduceMul, nm_bo, nm_bi, nm_rc, nm_ic, nm_ri, nm_rl, nm_rq, nm_ql, nm_qi, nm_li, nm_us, nm_uu, nm_cp, nm_sa31, nm_sa7, nm_m127, nm_m2, nm_nz, nm_nzk, nm_eq32, nm_nzf, if_true, if_false, ↓reduceIte, if_pos, if_neg]
  · simp (disch := (first | assumption | decide | omega)) only [df_X16_step, df_X16_step_0, df_X16_step_30, zI12, zR, a3, eP, odd1, z11, eq_self, Nat.reduceEqDiff, Nat.reduceLeDiff, nl_0, nl_1, nl_2, nl_3, nl_4, nl_8, nl_10, nl_11, nl_12, nl_16, no_1, no_1024, pk_mul, nI_add, nm_ck, nI_clamp, nI_ltI, nI_leI, nI_eq, nb_b2, nb_b1, ↓nb_let, nm_z0, nm_z1, nb_II, nb_IR, nb_RI, nb_RR, nm_IL, nm_IQ, nm_RL, nm_RQ, nm_LI, nm_LR, nm_LL, nm_LQ, nm_QI, nm_QR, nm_QL, nm_QQ, nm_rr, nm_ii, nm_eqm, not_false_eq_true, pk_sub, nm_div, nm_shl, nm_shr, nm_ush, nm_or8, nm_or64, nm_or256, nm_m1, nm_m3, nm_m7, nm_m15, nm_m31, nm_m63, nm_m255, nm_m511, nm_m1023, nm_m2047, nm_m65535, Nat.reduceMod, Nat.reducePow, Nat.reduceAdd, Nat.reduceSub, Nat.reduceMul, nm_bo, nm_bi, nm_rc, nm_ic, nm_ri, nm_rl, nm_rq, nm_ql, nm_qi, nm_li, nm_us, nm_uu, nm_cp, nm_sa31, nm_sa7, nm_m127, nm_m2, nm_nz, nm_nzk, nm_eq32, nm_nzf, if_true, if_false, ↓reduceIte, if_pos, if_neg]
theorem st_no (n : Nat) (hn : 1024 < n) {p : Nat} {M X : St × St} (h : rPre p M X) (H : St) {P : Nat} (hP : P < 2 ^ 32) (eP : sR X.1 10 p = nI P) (v8 v9 v10 v11 : Int32) (odd : P % 2 = 0) (cm : ma X p P 4 = false) : oS p M X (df_X4_step n (nI p) (H, M)) (df_X16_step n (zS X v8 v9 v10 v11)) := by
  have h0 := h
  obtain ⟨hp, a3, a7, ap, a8, a9, a10, a11, a12, a13, a14⟩ := h
  rw [eP] at ap
  have u1 : p * 33 + 32 < 528 := by omega
  have u2 : p < 2 ^ 31 := by omega
  have hm := (nk_may n a8 hp hP (q := 4) (by omega)).1
  have fe : ∀ a b c d : Int32, df_X16_fetches n (nI P) (zS X a b c d) = some (bI (ma X p P 4), zS X a b c d) := fun a b c d => nk_fet n (M := M) (X := zS X a b c d) a8 hp a3 hP odd
  have odd1 : ¬ P % 2 = 1 := by omega
  rw [cm] at hm
  simp only [cm] at fe
  refine Or.inr (Or.inl ⟨(pI (pI (pI H 0 (nI p)) 1 (nI (p * 33))) 2 (nI P)), v8, v9, v10, ?_, ?_⟩)
  · simp (disch := (first | assumption | decide | omega)) only [df_X4_step, df_X4_step_0, df_X4_step_54, ap, odd, hm, bI_f, eq_self, Nat.reduceEqDiff, Nat.reduceLeDiff, nl_0, nl_1, nl_2, nl_3, nl_4, nl_11, nl_16, nl_31, nl_32, nl_33, nl_528, no_1, no_1024, pk_mul, nI_add, nm_ck, nI_clamp, nI_ltI, nI_leI, nI_eq, nb_b2, nb_b1, ↓nb_let, nm_z0, nm_z1, nb_II, nb_IR, nb_RI, nb_RR, nm_IL, nm_IQ, nm_RL, nm_RQ, nm_LI, nm_LR, nm_LL, nm_LQ, nm_QI, nm_QR, nm_QL, nm_QQ, nm_rr, nm_ii, nm_eqm, not_false_eq_true, pk_sub, nm_div, nm_shl, nm_shr, nm_ush, nm_or8, nm_or64, nm_or256, nm_m1, nm_m3, nm_m7, nm_m15, nm_m31, nm_m63, nm_m255, nm_m511, nm_m1023, nm_m2047, nm_m65535, Nat.reduceMod, Nat.reducePow, Nat.reduceAdd, Nat.reduceSub, Nat.reduceMul, nm_bo, nm_bi, nm_rc, nm_ic, nm_ri, nm_rl, nm_rq, nm_ql, nm_qi, nm_li, nm_us, nm_uu, nm_cp, nm_sa31, nm_sa7, nm_m127, nm_m2, nm_nz, nm_nzk, nm_eq32, nm_nzf, if_true, if_false, ↓reduceIte, if_pos, if_neg]
  · simp (disch := (first | assumption | decide | omega)) only [df_X16_step, df_X16_step_0, df_X16_step_30, zI12, zR, a3, eP, odd1, z11, fe, bI_f, eq_self, Nat.reduceEqDiff, Nat.reduceLeDiff, nl_0, nl_1, nl_2, nl_3, nl_4, nl_8, nl_10, nl_11, nl_12, nl_16, no_1, no_1024, pk_mul, nI_add, nm_ck, nI_clamp, nI_ltI, nI_leI, nI_eq, nb_b2, nb_b1, ↓nb_let, nm_z0, nm_z1, nb_II, nb_IR, nb_RI, nb_RR, nm_IL, nm_IQ, nm_RL, nm_RQ, nm_LI, nm_LR, nm_LL, nm_LQ, nm_QI, nm_QR, nm_QL, nm_QQ, nm_rr, nm_ii, nm_eqm, not_false_eq_true, pk_sub, nm_div, nm_shl, nm_shr, nm_ush, nm_or8, nm_or64, nm_or256, nm_m1, nm_m3, nm_m7, nm_m15, nm_m31, nm_m63, nm_m255, nm_m511, nm_m1023, nm_m2047, nm_m65535, Nat.reduceMod, Nat.reducePow, Nat.reduceAdd, Nat.reduceSub, Nat.reduceMul, nm_bo, nm_bi, nm_rc, nm_ic, nm_ri, nm_rl, nm_rq, nm_ql, nm_qi, nm_li, nm_us, nm_uu, nm_cp, nm_sa31, nm_sa7, nm_m127, nm_m2, nm_nz, nm_nzk, nm_eq32, nm_nzf, if_true, if_false, ↓reduceIte, if_pos, if_neg]
theorem st_16 (n : Nat) (hn : 1024 < n) {p : Nat} {M X : St × St} (h : rPre p M X) (H : St) {P : Nat} (hP : P < 2 ^ 32) (eP : sR X.1 10 p = nI P) (v8 v9 v10 v11 : Int32) (odd : P % 2 = 0) (cm : ma X p P 4 = true) {Hn : Nat} (hHn : Hn < 2 ^ 16) (eH : hw (wd4 X p P) (8 * (P / 2 % 2 * 2)) = nI Hn) (c3 : ¬ Hn % 4 = 3) : oS p M X (df_X4_step n (nI p) (H, M)) (df_X16_step n (zS X v8 v9 v10 v11)) := by
  have h0 := h
  obtain ⟨hp, a3, a7, ap, a8, a9, a10, a11, a12, a13, a14⟩ := h
  rw [eP] at ap
  have u1 : p * 33 + 32 < 528 := by omega
  have u2 : p < 2 ^ 31 := by omega
  have hx := rPre_h h0 H
  rw [eP] at hx
  have hm := (nk_may n a8 hp hP (q := 4) (by omega)).1
  have fe : ∀ a b c d : Int32, df_X16_fetches n (nI P) (zS X a b c d) = some (bI (ma X p P 4), zS X a b c d) := fun a b c d => nk_fet n (M := M) (X := zS X a b c d) a8 hp a3 hP odd
  have odd1 : ¬ P % 2 = 1 := by omega
  rw [cm] at hm
  simp only [cm] at fe
  obtain ⟨lP, f0, hf0, ef0⟩ := ma_ex a8 hp cm
  have r2 := (nk_rd n a8 hp lP hf0 ef0).2.1
  have hf : ∀ a b c d : Int32, df_X16_half n (nI P) (zS X a b c d) = some (nI Hn, zS X a b c d) := hf_z n hp lP a3 odd eH
  rw [eH] at r2
  have u3 : Hn < 2 ^ 31 := by omega
  have u4 : Hn < 2 ^ 32 := by omega
  obtain ⟨wv0, ew⟩ := ex_some n (nI Hn)
  have ew2 := ew
  rw [nk_expand n Hn (by omega) c3] at ew2
  obtain ⟨W, hW, e⟩ := nI_ex wv0
  rw [e] at ew ew2
  have E := oE_s (nk_exec n hn (hx (nI Hn) (nI 2) (nI (P + 2))) hW)
  have e1 : df_X4_step n (nI p) (H, M) = df_X4_step_146 n (nI W) (pI (pI (pI (pI H 0 (nI p)) 1 (nI (p * 33))) 2 (nI P)) 3 (nI (P + 2)), M) := by
    simp (disch := (first | assumption | decide | omega)) only [df_X4_step, df_X4_step_0, ap, odd, hm, bI_t, r2, c3, ew, eq_self, Nat.reduceEqDiff, Nat.reduceLeDiff, nl_0, nl_1, nl_2, nl_3, nl_4, nl_11, nl_16, nl_31, nl_32, nl_33, nl_528, no_1, no_1024, pk_mul, nI_add, nm_ck, nI_clamp, nI_ltI, nI_leI, nI_eq, nb_b2, nb_b1, ↓nb_let, nm_z0, nm_z1, nb_II, nb_IR, nb_RI, nb_RR, nm_IL, nm_IQ, nm_RL, nm_RQ, nm_LI, nm_LR, nm_LL, nm_LQ, nm_QI, nm_QR, nm_QL, nm_QQ, nm_rr, nm_ii, nm_eqm, not_false_eq_true, pk_sub, nm_div, nm_shl, nm_shr, nm_ush, nm_or8, nm_or64, nm_or256, nm_m1, nm_m3, nm_m7, nm_m15, nm_m31, nm_m63, nm_m255, nm_m511, nm_m1023, nm_m2047, nm_m65535, Nat.reduceMod, Nat.reducePow, Nat.reduceAdd, Nat.reduceSub, Nat.reduceMul, nm_bo, nm_bi, nm_rc, nm_ic, nm_ri, nm_rl, nm_rq, nm_ql, nm_qi, nm_li, nm_us, nm_uu, nm_cp, nm_sa31, nm_sa7, nm_m127, nm_m2, nm_nz, nm_nzk, nm_eq32, nm_nzf, if_true, if_false, ↓reduceIte, if_pos, if_neg]
  have e2 : df_X16_step n (zS X v8 v9 v10 v11) = df_X16_step_146 n (nI W) (zS X (nI Hn) (nI 2) (nI (P + 2)) (nI 0)) := by
    refine Eq.trans (s0_h n hp a3 hP eP odd (by omega) fe hf v8 v9 v10 v11) ?_
    rw [if_neg c3, s57_2, s80_2, s111_2 n ew2]
  rw [e1, e2]
  exact E
theorem st_n2 (n : Nat) (hn : 1024 < n) {p : Nat} {M X : St × St} (h : rPre p M X) (H : St) {P : Nat} (hP : P < 2 ^ 32) (eP : sR X.1 10 p = nI P) (v8 v9 v10 v11 : Int32) (odd : P % 2 = 0) (cm : ma X p P 4 = true) {Hn : Nat} (hHn : Hn < 2 ^ 16) (eH : hw (wd4 X p P) (8 * (P / 2 % 2 * 2)) = nI Hn) (c3 : Hn % 4 = 3) (cm2 : ma X p (P + 2) 4 = false) : oS p M X (df_X4_step n (nI p) (H, M)) (df_X16_step n (zS X v8 v9 v10 v11)) := by
  have h0 := h
  obtain ⟨hp, a3, a7, ap, a8, a9, a10, a11, a12, a13, a14⟩ := h
  rw [eP] at ap
  have u1 : p * 33 + 32 < 528 := by omega
  have u2 : p < 2 ^ 31 := by omega
  have hm := (nk_may n a8 hp hP (q := 4) (by omega)).1
  have fe : ∀ a b c d : Int32, df_X16_fetches n (nI P) (zS X a b c d) = some (bI (ma X p P 4), zS X a b c d) := fun a b c d => nk_fet n (M := M) (X := zS X a b c d) a8 hp a3 hP odd
  have odd1 : ¬ P % 2 = 1 := by omega
  rw [cm] at hm
  simp only [cm] at fe
  obtain ⟨lP, f0, hf0, ef0⟩ := ma_ex a8 hp cm
  have r2 := (nk_rd n a8 hp lP hf0 ef0).2.1
  have hf : ∀ a b c d : Int32, df_X16_half n (nI P) (zS X a b c d) = some (nI Hn, zS X a b c d) := hf_z n hp lP a3 odd eH
  rw [eH] at r2
  have u3 : Hn < 2 ^ 31 := by omega
  have u4 : Hn < 2 ^ 32 := by omega
  have hm2 := (nk_may n a8 hp (A := P + 2) (q := 4) (by omega) (by omega)).1
  have fe2 : ∀ a b c d : Int32, df_X16_fetches n (nI (P + 2)) (zS X a b c d) = some (bI (ma X p (P + 2) 4), zS X a b c d) := fun a b c d => nk_fet n (M := M) (X := zS X a b c d) a8 hp a3 (by omega) (by omega)
  rw [cm2] at hm2
  simp only [cm2] at fe2
  refine Or.inr (Or.inl ⟨(pI (pI (pI H 0 (nI p)) 1 (nI (p * 33))) 2 (nI P)), nI Hn, nI 4, v10, ?_, ?_⟩)
  · simp (disch := (first | assumption | decide | omega)) only [df_X4_step, df_X4_step_0, ap, odd, hm, bI_t, r2, c3, hm2, bI_f, eq_self, Nat.reduceEqDiff, Nat.reduceLeDiff, nl_0, nl_1, nl_2, nl_3, nl_4, nl_11, nl_16, nl_31, nl_32, nl_33, nl_528, no_1, no_1024, pk_mul, nI_add, nm_ck, nI_clamp, nI_ltI, nI_leI, nI_eq, nb_b2, nb_b1, ↓nb_let, nm_z0, nm_z1, nb_II, nb_IR, nb_RI, nb_RR, nm_IL, nm_IQ, nm_RL, nm_RQ, nm_LI, nm_LR, nm_LL, nm_LQ, nm_QI, nm_QR, nm_QL, nm_QQ, nm_rr, nm_ii, nm_eqm, not_false_eq_true, pk_sub, nm_div, nm_shl, nm_shr, nm_ush, nm_or8, nm_or64, nm_or256, nm_m1, nm_m3, nm_m7, nm_m15, nm_m31, nm_m63, nm_m255, nm_m511, nm_m1023, nm_m2047, nm_m65535, Nat.reduceMod, Nat.reducePow, Nat.reduceAdd, Nat.reduceSub, Nat.reduceMul, nm_bo, nm_bi, nm_rc, nm_ic, nm_ri, nm_rl, nm_rq, nm_ql, nm_qi, nm_li, nm_us, nm_uu, nm_cp, nm_sa31, nm_sa7, nm_m127, nm_m2, nm_nz, nm_nzk, nm_eq32, nm_nzf, if_true, if_false, ↓reduceIte, if_pos, if_neg]
  · refine Eq.trans (s0_h n hp a3 hP eP odd (by omega) fe hf v8 v9 v10 v11) ?_
    rw [if_pos c3, s57_n n fe2]
theorem st_32 (n : Nat) (hn : 1024 < n) {p : Nat} {M X : St × St} (h : rPre p M X) (H : St) {P : Nat} (hP : P < 2 ^ 32) (eP : sR X.1 10 p = nI P) (v8 v9 v10 v11 : Int32) (odd : P % 2 = 0) (cm : ma X p P 4 = true) {Hn : Nat} (hHn : Hn < 2 ^ 16) (eH : hw (wd4 X p P) (8 * (P / 2 % 2 * 2)) = nI Hn) (c3 : Hn % 4 = 3) (cm2 : ma X p (P + 2) 4 = true) : oS p M X (df_X4_step n (nI p) (H, M)) (df_X16_step n (zS X v8 v9 v10 v11)) := by
  have h0 := h
  obtain ⟨hp, a3, a7, ap, a8, a9, a10, a11, a12, a13, a14⟩ := h
  rw [eP] at ap
  have u1 : p * 33 + 32 < 528 := by omega
  have u2 : p < 2 ^ 31 := by omega
  have hx := rPre_h h0 H
  rw [eP] at hx
  have hm := (nk_may n a8 hp hP (q := 4) (by omega)).1
  have fe : ∀ a b c d : Int32, df_X16_fetches n (nI P) (zS X a b c d) = some (bI (ma X p P 4), zS X a b c d) := fun a b c d => nk_fet n (M := M) (X := zS X a b c d) a8 hp a3 hP odd
  have odd1 : ¬ P % 2 = 1 := by omega
  rw [cm] at hm
  simp only [cm] at fe
  obtain ⟨lP, f0, hf0, ef0⟩ := ma_ex a8 hp cm
  have r2 := (nk_rd n a8 hp lP hf0 ef0).2.1
  have hf : ∀ a b c d : Int32, df_X16_half n (nI P) (zS X a b c d) = some (nI Hn, zS X a b c d) := hf_z n hp lP a3 odd eH
  rw [eH] at r2
  have u3 : Hn < 2 ^ 31 := by omega
  have u4 : Hn < 2 ^ 32 := by omega
  have hm2 := (nk_may n a8 hp (A := P + 2) (q := 4) (by omega) (by omega)).1
  have fe2 : ∀ a b c d : Int32, df_X16_fetches n (nI (P + 2)) (zS X a b c d) = some (bI (ma X p (P + 2) 4), zS X a b c d) := fun a b c d => nk_fet n (M := M) (X := zS X a b c d) a8 hp a3 (by omega) (by omega)
  rw [cm2] at hm2
  simp only [cm2] at fe2
  obtain ⟨lP2, f2, hf2, ef2⟩ := ma_ex a8 hp cm2
  have t2 := (nk_rd n a8 hp lP2 hf2 ef2).2.1
  generalize ey : hw (wd4 X p (P + 2)) (8 * ((P + 2) / 2 % 2 * 2)) = y at t2
  have hfb : ∀ a b c d : Int32, df_X16_half n (nI (P + 2)) (zS X a b c d) = some (y, zS X a b c d) := hf_z n hp lP2 a3 (by omega) ey
  obtain ⟨W, hW, eW⟩ := nI_ex (nI Hn ||| (y <<< nI 16))
  have E := oE_s (nk_exec n hn (hx (nI W) (nI 4) (nI (P + 4))) hW)
  have e1 : df_X4_step n (nI p) (H, M) = df_X4_step_146 n (nI W) (pI (pI (pI (pI H 0 (nI p)) 1 (nI (p * 33))) 2 (nI P)) 3 (nI (P + 4)), M) := by
    simp (disch := (first | assumption | decide | omega)) only [df_X4_step, df_X4_step_0, ap, odd, hm, bI_t, r2, c3, hm2, t2, eW, eq_self, Nat.reduceEqDiff, Nat.reduceLeDiff, nl_0, nl_1, nl_2, nl_3, nl_4, nl_11, nl_16, nl_31, nl_32, nl_33, nl_528, no_1, no_1024, pk_mul, nI_add, nm_ck, nI_clamp, nI_ltI, nI_leI, nI_eq, nb_b2, nb_b1, ↓nb_let, nm_z0, nm_z1, nb_II, nb_IR, nb_RI, nb_RR, nm_IL, nm_IQ, nm_RL, nm_RQ, nm_LI, nm_LR, nm_LL, nm_LQ, nm_QI, nm_QR, nm_QL, nm_QQ, nm_rr, nm_ii, nm_eqm, not_false_eq_true, pk_sub, nm_div, nm_shl, nm_shr, nm_ush, nm_or8, nm_or64, nm_or256, nm_m1, nm_m3, nm_m7, nm_m15, nm_m31, nm_m63, nm_m255, nm_m511, nm_m1023, nm_m2047, nm_m65535, Nat.reduceMod, Nat.reducePow, Nat.reduceAdd, Nat.reduceSub, Nat.reduceMul, nm_bo, nm_bi, nm_rc, nm_ic, nm_ri, nm_rl, nm_rq, nm_ql, nm_qi, nm_li, nm_us, nm_uu, nm_cp, nm_sa31, nm_sa7, nm_m127, nm_m2, nm_nz, nm_nzk, nm_eq32, nm_nzf, if_true, if_false, ↓reduceIte, if_pos, if_neg]
  have e2 : df_X16_step n (zS X v8 v9 v10 v11) = df_X16_step_146 n (nI W) (zS X (nI W) (nI 4) (nI (P + 4)) (nI 0)) := by
    refine Eq.trans (s0_h n hp a3 hP eP odd (by omega) fe hf v8 v9 v10 v11) ?_
    rw [if_pos c3, s57_y n fe2, s80_4 n hfb eW, s111_4]
  rw [e1, e2]
  exact E
/-- one step of the hart, both -/
theorem nk_step (n : Nat) (hn : 1024 < n) {p : Nat} {M X : St × St} (h : rPre p M X) (H : St) : oS p M X (df_X4_step n (nI p) (H, M)) (df_X16_step n X) := by
  have e0 : df_X16_step n X = df_X16_step n (zS X (sI X.1 8) (sI X.1 9) (sI X.1 10) (sI X.1 11)) := by rw [zS_id]
  rw [e0]
  obtain ⟨P, hP, eP⟩ := nI_ex (sR X.1 10 p)
  by_cases odd : P % 2 = 0
  · cases cm : ma X p P 4 with
    | false => exact st_no n hn h H hP eP _ _ _ _ odd cm
    | true =>
      obtain ⟨Hn, hHn, eH⟩ := pk_andE ((wd4 X p P).toUInt32 >>> ((nI (8 * (P / 2 % 2 * 2))).toUInt32 &&& Int32.toUInt32 (nI 31))).toInt32 (m := nI 65535) 16 (by decide)
      by_cases c3 : Hn % 4 = 3
      · cases cm2 : ma X p (P + 2) 4 with
        | false => exact st_n2 n hn h H hP eP _ _ _ _ odd cm hHn eH c3 cm2
        | true => exact st_32 n hn h H hP eP _ _ _ _ odd cm hHn eH c3 cm2
      · exact st_16 n hn h H hP eP _ _ _ _ odd cm hHn eH c3
  · exact st_odd n hn h H hP eP _ _ _ _ (by omega)
