/-- the first m places as g has them -/
def pcw (g f : Nat → Int32) (m : Nat) : Nat → Int32 := fun j => if j < m then g j else f j
theorem pcw_0 (g f : Nat → Int32) : pcw g f 0 = f := by
  funext j
  exact if_neg (by omega)
theorem pcw_s (g f : Nat → Int32) (m : Nat) : upd (pcw g f m) m (g m) = pcw g f (m + 1) := by
  funext j
  show (if j = m then g m else if j < m then g j else f j) = if j < m + 1 then g j else f j
  by_cases c : j = m
  · rw [if_pos c, if_pos (by omega), c]
  · rw [if_neg c]
    by_cases d : j < m
    · rw [if_pos d, if_pos (by omega)]
    · rw [if_neg d, if_neg (by omega)]
theorem pcw_n (g f : Nat → Int32) (m : Nat) : pcw g f m m = f m := if_neg (by omega)
theorem pcw_y (g f : Nat → Int32) {m j : Nat} (h : j < m) : pcw g f m j = g j := if_pos h
/-- how many descriptors are to an opening; how many openings of a sort there are to a thing -/
def cD (de : Nat → Int32) (o : Nat) : Nat := cN (fun i => decide (de i = nI o)) 256
def cE (kd th : Nat → Int32) (s k : Nat) : Nat := cN (fun i => decide (kd i = nI s ∧ th i = nI k)) 48
def gk (de kd : Nat → Int32) (o : Nat) : Int32 := if kd o ≤ nI 0 then nI 0 else if cD de o = 0 then nI 0 else kd o
def gp (kd th ip : Nat → Int32) (k : Nat) : Int32 := if ip k = nI 0 then nI 0 else if cE kd th 1 k + cE kd th 2 k = 0 then nI 0 else nI 1
def gf (kd th isf nam : Nat → Int32) (k : Nat) : Int32 := if isf k = nI 0 then nI 0 else if nam k = nI 0 then (if cE kd th 3 k = 0 then nI 0 else nI 1) else nI 1
theorem sw_1 (n : Nat) (hn : 1024 < n) (X : St × St) : df_X16_sweep n X = df_X16_sweep_49 n n (nI 0) (pR X.1 19 (pcw (gk (sR X.1 14) (sR X.1 19)) (sR X.1 19) 48), X.2) := by
  obtain ⟨m, hm⟩ := nm_lq (fun m k => df_X16_sweep_2 n m (nI k) (pR X.1 19 (pcw (gk (sR X.1 14) (sR X.1 19)) (sR X.1 19) k), X.2)) 48 n (by omega) (fun k m hk => by
    have u3 : k < 2 ^ 31 := by omega
    have k48 : ¬ 48 ≤ k := by omega
    have hd : df_X16_held n (nI k) (pR X.1 19 (pcw (gk (sR X.1 14) (sR X.1 19)) (sR X.1 19) k), X.2) = some (nI (cD (sR X.1 14) k), (pR X.1 19 (pcw (gk (sR X.1 14) (sR X.1 19)) (sR X.1 19) k), X.2)) := nb_heldN n (by omega) k _
    have cl : cD (sR X.1 14) k ≤ 256 := cN_le _ _
    have ps := pcw_s (gk (sR X.1 14) (sR X.1 19)) (sR X.1 19) k
    have pn := pcw_n (gk (sR X.1 14) (sR X.1 19)) (sR X.1 19) k
    have eg : gk (sR X.1 14) (sR X.1 19) k = if sR X.1 19 k ≤ nI 0 then nI 0 else if cD (sR X.1 14) k = 0 then nI 0 else sR X.1 19 k := rfl
    rw [eg] at ps
    generalize gk (sR X.1 14) (sR X.1 19) = G at hd ps pn ⊢
    generalize cD (sR X.1 14) k = ct at hd cl ps
    have u4 : ct < 2 ^ 31 := by omega
    rw [show df_X16_sweep_2 n (m + 1) = dF_X16_sweep_2 n (df_X16_sweep_2 n m) from rfl]
    by_cases c1 : sR X.1 19 k ≤ nI 0
    · rw [if_pos c1] at ps
      simp (disch := (first | assumption | decide | omega)) only [dF_X16_sweep_2, df_X16_sweep_39, df_X16_sweep_40, k48, pn, c1, ps, eq_self, Nat.reduceEqDiff, Nat.reduceLeDiff, nl_0, nl_1, nl_19, nl_48, no_1, no_1024, pk_mul, nI_add, nm_ck, nI_clamp, nI_ltI, nI_leI, nI_eq, nb_b2, nb_b1, ↓nb_let, nm_z0, nm_z1, nb_II, nb_IR, nb_RI, nb_RR, nm_IL, nm_IQ, nm_RL, nm_RQ, nm_LI, nm_LR, nm_LL, nm_LQ, nm_QI, nm_QR, nm_QL, nm_QQ, nm_rr, nm_ii, nm_eqm, not_false_eq_true, pk_sub, nm_div, nm_shl, nm_shr, nm_ush, nm_or8, nm_or64, nm_or256, nm_m1, nm_m3, nm_m7, nm_m15, nm_m31, nm_m63, nm_m255, nm_m511, nm_m1023, nm_m2047, nm_m65535, Nat.reduceMod, Nat.reducePow, Nat.reduceAdd, Nat.reduceSub, Nat.reduceMul, nm_bo, nm_bi, nm_rc, nm_ic, nm_ri, nm_rl, nm_rq, nm_ql, nm_qi, nm_li, nm_us, nm_uu, nm_cp, nm_sa31, nm_sa7, nm_m127, nm_m2, nm_nz, nm_nzk, nm_eq32, nm_nzf, if_true, if_false, ↓reduceIte, if_pos, if_neg]
    · rw [if_neg c1] at ps
      by_cases c2 : ct = 0
      · rw [if_pos c2] at ps
        have c2' : ct ≤ 0 := by omega
        simp (disch := (first | assumption | decide | omega)) only [dF_X16_sweep_2, df_X16_sweep_39, df_X16_sweep_40, k48, pn, c1, hd, c2', ps, eq_self, Nat.reduceEqDiff, Nat.reduceLeDiff, nl_0, nl_1, nl_19, nl_48, no_1, no_1024, pk_mul, nI_add, nm_ck, nI_clamp, nI_ltI, nI_leI, nI_eq, nb_b2, nb_b1, ↓nb_let, nm_z0, nm_z1, nb_II, nb_IR, nb_RI, nb_RR, nm_IL, nm_IQ, nm_RL, nm_RQ, nm_LI, nm_LR, nm_LL, nm_LQ, nm_QI, nm_QR, nm_QL, nm_QQ, nm_rr, nm_ii, nm_eqm, not_false_eq_true, pk_sub, nm_div, nm_shl, nm_shr, nm_ush, nm_or8, nm_or64, nm_or256, nm_m1, nm_m3, nm_m7, nm_m15, nm_m31, nm_m63, nm_m255, nm_m511, nm_m1023, nm_m2047, nm_m65535, Nat.reduceMod, Nat.reducePow, Nat.reduceAdd, Nat.reduceSub, Nat.reduceMul, nm_bo, nm_bi, nm_rc, nm_ic, nm_ri, nm_rl, nm_rq, nm_ql, nm_qi, nm_li, nm_us, nm_uu, nm_cp, nm_sa31, nm_sa7, nm_m127, nm_m2, nm_nz, nm_nzk, nm_eq32, nm_nzf, if_true, if_false, ↓reduceIte, if_pos, if_neg]
      · rw [if_neg c2] at ps
        have c2' : ¬ ct ≤ 0 := by omega
        simp (disch := (first | assumption | decide | omega)) only [dF_X16_sweep_2, df_X16_sweep_39, df_X16_sweep_40, k48, pn, c1, hd, c2', ps, eq_self, Nat.reduceEqDiff, Nat.reduceLeDiff, nl_0, nl_1, nl_19, nl_48, no_1, no_1024, pk_mul, nI_add, nm_ck, nI_clamp, nI_ltI, nI_leI, nI_eq, nb_b2, nb_b1, ↓nb_let, nm_z0, nm_z1, nb_II, nb_IR, nb_RI, nb_RR, nm_IL, nm_IQ, nm_RL, nm_RQ, nm_LI, nm_LR, nm_LL, nm_LQ, nm_QI, nm_QR, nm_QL, nm_QQ, nm_rr, nm_ii, nm_eqm, not_false_eq_true, pk_sub, nm_div, nm_shl, nm_shr, nm_ush, nm_or8, nm_or64, nm_or256, nm_m1, nm_m3, nm_m7, nm_m15, nm_m31, nm_m63, nm_m255, nm_m511, nm_m1023, nm_m2047, nm_m65535, Nat.reduceMod, Nat.reducePow, Nat.reduceAdd, Nat.reduceSub, Nat.reduceMul, nm_bo, nm_bi, nm_rc, nm_ic, nm_ri, nm_rl, nm_rq, nm_ql, nm_qi, nm_li, nm_us, nm_uu, nm_cp, nm_sa31, nm_sa7, nm_m127, nm_m2, nm_nz, nm_nzk, nm_eq32, nm_nzf, if_true, if_false, ↓reduceIte, if_pos, if_neg])
  rw [pcw_0, nm_r0] at hm
  refine Eq.trans hm ?_
  rw [show df_X16_sweep_2 n (m + 1) = dF_X16_sweep_2 n (df_X16_sweep_2 n m) from rfl]
  simp (disch := (first | assumption | decide | omega)) only [dF_X16_sweep_2, eq_self, Nat.reduceEqDiff, Nat.reduceLeDiff, nl_0, nl_19, nl_48, no_1, no_1024, pk_mul, nI_add, nm_ck, nI_clamp, nI_ltI, nI_leI, nI_eq, nb_b2, nb_b1, ↓nb_let, nm_z0, nm_z1, nb_II, nb_IR, nb_RI, nb_RR, nm_IL, nm_IQ, nm_RL, nm_RQ, nm_LI, nm_LR, nm_LL, nm_LQ, nm_QI, nm_QR, nm_QL, nm_QQ, nm_rr, nm_ii, nm_eqm, not_false_eq_true, pk_sub, nm_div, nm_shl, nm_shr, nm_ush, nm_or8, nm_or64, nm_or256, nm_m1, nm_m3, nm_m7, nm_m15, nm_m31, nm_m63, nm_m255, nm_m511, nm_m1023, nm_m2047, nm_m65535, Nat.reduceMod, Nat.reducePow, Nat.reduceAdd, Nat.reduceSub, Nat.reduceMul, nm_bo, nm_bi, nm_rc, nm_ic, nm_ri, nm_rl, nm_rq, nm_ql, nm_qi, nm_li, nm_us, nm_uu, nm_cp, nm_sa31, nm_sa7, nm_m127, nm_m2, nm_nz, nm_nzk, nm_eq32, nm_nzf, if_true, if_false, ↓reduceIte, if_pos, if_neg]
theorem sw_2 (n : Nat) (hn : 1024 < n) (X : St × St) : df_X16_sweep_49 n n (nI 0) X = df_X16_sweep_99 n n (nI 0) (pR X.1 23 (pcw (gp (sR X.1 19) (sR X.1 20) (sR X.1 23)) (sR X.1 23) 8), X.2) := by
  obtain ⟨m, hm⟩ := nm_lq (fun m k => df_X16_sweep_49 n m (nI k) (pR X.1 23 (pcw (gp (sR X.1 19) (sR X.1 20) (sR X.1 23)) (sR X.1 23) k), X.2)) 8 n (by omega) (fun k m hk => by
    have u3 : k < 2 ^ 31 := by omega
    have k8 : ¬ 8 ≤ k := by omega
    have en : ∀ s : Nat, df_X16_ends n (nI s) (nI k) (pR X.1 23 (pcw (gp (sR X.1 19) (sR X.1 20) (sR X.1 23)) (sR X.1 23) k), X.2) = some (nI (cE (sR X.1 19) (sR X.1 20) s k), (pR X.1 23 (pcw (gp (sR X.1 19) (sR X.1 20) (sR X.1 23)) (sR X.1 23) k), X.2)) := fun s => nb_ends n (by omega) (nI s) (nI k) _
    have en1 := en 1
    have en2 := en 2
    have l1 : cE (sR X.1 19) (sR X.1 20) 1 k ≤ 48 := cN_le _ _
    have l2 : cE (sR X.1 19) (sR X.1 20) 2 k ≤ 48 := cN_le _ _
    have ps := pcw_s (gp (sR X.1 19) (sR X.1 20) (sR X.1 23)) (sR X.1 23) k
    have pn := pcw_n (gp (sR X.1 19) (sR X.1 20) (sR X.1 23)) (sR X.1 23) k
    have eg : gp (sR X.1 19) (sR X.1 20) (sR X.1 23) k = if sR X.1 23 k = nI 0 then nI 0 else if cE (sR X.1 19) (sR X.1 20) 1 k + cE (sR X.1 19) (sR X.1 20) 2 k = 0 then nI 0 else nI 1 := rfl
    rw [eg] at ps
    clear en eg
    generalize gp (sR X.1 19) (sR X.1 20) (sR X.1 23) = G at en1 en2 ps pn ⊢
    generalize cE (sR X.1 19) (sR X.1 20) 1 k = x1 at en1 l1 ps
    generalize cE (sR X.1 19) (sR X.1 20) 2 k = x2 at en2 l2 ps
    have u4 : x1 + x2 < 2 ^ 31 := by omega
    rw [show df_X16_sweep_49 n (m + 1) = dF_X16_sweep_49 n (df_X16_sweep_49 n m) from rfl]
    by_cases c1 : sR X.1 23 k = nI 0
    · rw [if_pos c1] at ps
      simp (disch := (first | assumption | decide | omega)) only [dF_X16_sweep_49, df_X16_sweep_89, df_X16_sweep_90, k8, pn, c1, ps, eq_self, Nat.reduceEqDiff, Nat.reduceLeDiff, nl_0, nl_1, nl_2, nl_8, nl_23, no_1, no_1024, pk_mul, nI_add, nm_ck, nI_clamp, nI_ltI, nI_leI, nI_eq, nb_b2, nb_b1, ↓nb_let, nm_z0, nm_z1, nb_II, nb_IR, nb_RI, nb_RR, nm_IL, nm_IQ, nm_RL, nm_RQ, nm_LI, nm_LR, nm_LL, nm_LQ, nm_QI, nm_QR, nm_QL, nm_QQ, nm_rr, nm_ii, nm_eqm, not_false_eq_true, pk_sub, nm_div, nm_shl, nm_shr, nm_ush, nm_or8, nm_or64, nm_or256, nm_m1, nm_m3, nm_m7, nm_m15, nm_m31, nm_m63, nm_m255, nm_m511, nm_m1023, nm_m2047, nm_m65535, Nat.reduceMod, Nat.reducePow, Nat.reduceAdd, Nat.reduceSub, Nat.reduceMul, nm_bo, nm_bi, nm_rc, nm_ic, nm_ri, nm_rl, nm_rq, nm_ql, nm_qi, nm_li, nm_us, nm_uu, nm_cp, nm_sa31, nm_sa7, nm_m127, nm_m2, nm_nz, nm_nzk, nm_eq32, nm_nzf, if_true, if_false, ↓reduceIte, if_pos, if_neg]
    · rw [if_neg c1] at ps
      by_cases c2 : x1 + x2 = 0
      · rw [if_pos c2] at ps
        have c2' : x1 + x2 ≤ 0 := by omega
        simp (disch := (first | assumption | decide | omega)) only [dF_X16_sweep_49, df_X16_sweep_89, df_X16_sweep_90, k8, pn, c1, en1, en2, c2', ps, eq_self, Nat.reduceEqDiff, Nat.reduceLeDiff, nl_0, nl_1, nl_2, nl_8, nl_23, no_1, no_1024, pk_mul, nI_add, nm_ck, nI_clamp, nI_ltI, nI_leI, nI_eq, nb_b2, nb_b1, ↓nb_let, nm_z0, nm_z1, nb_II, nb_IR, nb_RI, nb_RR, nm_IL, nm_IQ, nm_RL, nm_RQ, nm_LI, nm_LR, nm_LL, nm_LQ, nm_QI, nm_QR, nm_QL, nm_QQ, nm_rr, nm_ii, nm_eqm, not_false_eq_true, pk_sub, nm_div, nm_shl, nm_shr, nm_ush, nm_or8, nm_or64, nm_or256, nm_m1, nm_m3, nm_m7, nm_m15, nm_m31, nm_m63, nm_m255, nm_m511, nm_m1023, nm_m2047, nm_m65535, Nat.reduceMod, Nat.reducePow, Nat.reduceAdd, Nat.reduceSub, Nat.reduceMul, nm_bo, nm_bi, nm_rc, nm_ic, nm_ri, nm_rl, nm_rq, nm_ql, nm_qi, nm_li, nm_us, nm_uu, nm_cp, nm_sa31, nm_sa7, nm_m127, nm_m2, nm_nz, nm_nzk, nm_eq32, nm_nzf, if_true, if_false, ↓reduceIte, if_pos, if_neg]
      · rw [if_neg c2] at ps
        have c2' : ¬ x1 + x2 ≤ 0 := by omega
        simp (disch := (first | assumption | decide | omega)) only [dF_X16_sweep_49, df_X16_sweep_89, df_X16_sweep_90, k8, pn, c1, en1, en2, c2', ps, eq_self, Nat.reduceEqDiff, Nat.reduceLeDiff, nl_0, nl_1, nl_2, nl_8, nl_23, no_1, no_1024, pk_mul, nI_add, nm_ck, nI_clamp, nI_ltI, nI_leI, nI_eq, nb_b2, nb_b1, ↓nb_let, nm_z0, nm_z1, nb_II, nb_IR, nb_RI, nb_RR, nm_IL, nm_IQ, nm_RL, nm_RQ, nm_LI, nm_LR, nm_LL, nm_LQ, nm_QI, nm_QR, nm_QL, nm_QQ, nm_rr, nm_ii, nm_eqm, not_false_eq_true, pk_sub, nm_div, nm_shl, nm_shr, nm_ush, nm_or8, nm_or64, nm_or256, nm_m1, nm_m3, nm_m7, nm_m15, nm_m31, nm_m63, nm_m255, nm_m511, nm_m1023, nm_m2047, nm_m65535, Nat.reduceMod, Nat.reducePow, Nat.reduceAdd, Nat.reduceSub, Nat.reduceMul, nm_bo, nm_bi, nm_rc, nm_ic, nm_ri, nm_rl, nm_rq, nm_ql, nm_qi, nm_li, nm_us, nm_uu, nm_cp, nm_sa31, nm_sa7, nm_m127, nm_m2, nm_nz, nm_nzk, nm_eq32, nm_nzf, if_true, if_false, ↓reduceIte, if_pos, if_neg])
  rw [pcw_0, nm_r0] at hm
  refine Eq.trans hm ?_
  rw [show df_X16_sweep_49 n (m + 1) = dF_X16_sweep_49 n (df_X16_sweep_49 n m) from rfl]
  simp (disch := (first | assumption | decide | omega)) only [dF_X16_sweep_49, eq_self, Nat.reduceEqDiff, Nat.reduceLeDiff, nl_0, nl_1, nl_2, nl_8, nl_23, no_1, no_1024, pk_mul, nI_add, nm_ck, nI_clamp, nI_ltI, nI_leI, nI_eq, nb_b2, nb_b1, ↓nb_let, nm_z0, nm_z1, nb_II, nb_IR, nb_RI, nb_RR, nm_IL, nm_IQ, nm_RL, nm_RQ, nm_LI, nm_LR, nm_LL, nm_LQ, nm_QI, nm_QR, nm_QL, nm_QQ, nm_rr, nm_ii, nm_eqm, not_false_eq_true, pk_sub, nm_div, nm_shl, nm_shr, nm_ush, nm_or8, nm_or64, nm_or256, nm_m1, nm_m3, nm_m7, nm_m15, nm_m31, nm_m63, nm_m255, nm_m511, nm_m1023, nm_m2047, nm_m65535, Nat.reduceMod, Nat.reducePow, Nat.reduceAdd, Nat.reduceSub, Nat.reduceMul, nm_bo, nm_bi, nm_rc, nm_ic, nm_ri, nm_rl, nm_rq, nm_ql, nm_qi, nm_li, nm_us, nm_uu, nm_cp, nm_sa31, nm_sa7, nm_m127, nm_m2, nm_nz, nm_nzk, nm_eq32, nm_nzf, if_true, if_false, ↓reduceIte, if_pos, if_neg]
theorem sw_3 (n : Nat) (hn : 1024 < n) (X : St × St) : df_X16_sweep_99 n n (nI 0) X = some (pR X.1 24 (pcw (gf (sR X.1 19) (sR X.1 20) (sR X.1 24) (sR X.1 25)) (sR X.1 24) 16), X.2) := by
  obtain ⟨m, hm⟩ := nm_lq (fun m k => df_X16_sweep_99 n m (nI k) (pR X.1 24 (pcw (gf (sR X.1 19) (sR X.1 20) (sR X.1 24) (sR X.1 25)) (sR X.1 24) k), X.2)) 16 n (by omega) (fun k m hk => by
    have u3 : k < 2 ^ 31 := by omega
    have k16 : ¬ 16 ≤ k := by omega
    have en3 : df_X16_ends n (nI 3) (nI k) (pR X.1 24 (pcw (gf (sR X.1 19) (sR X.1 20) (sR X.1 24) (sR X.1 25)) (sR X.1 24) k), X.2) = some (nI (cE (sR X.1 19) (sR X.1 20) 3 k), (pR X.1 24 (pcw (gf (sR X.1 19) (sR X.1 20) (sR X.1 24) (sR X.1 25)) (sR X.1 24) k), X.2)) := nb_ends n (by omega) (nI 3) (nI k) _
    have l3 : cE (sR X.1 19) (sR X.1 20) 3 k ≤ 48 := cN_le _ _
    have ps := pcw_s (gf (sR X.1 19) (sR X.1 20) (sR X.1 24) (sR X.1 25)) (sR X.1 24) k
    have pn := pcw_n (gf (sR X.1 19) (sR X.1 20) (sR X.1 24) (sR X.1 25)) (sR X.1 24) k
    have eg : gf (sR X.1 19) (sR X.1 20) (sR X.1 24) (sR X.1 25) k = if sR X.1 24 k = nI 0 then nI 0 else if sR X.1 25 k = nI 0 then (if cE (sR X.1 19) (sR X.1 20) 3 k = 0 then nI 0 else nI 1) else nI 1 := rfl
    rw [eg] at ps
    clear eg
    generalize gf (sR X.1 19) (sR X.1 20) (sR X.1 24) (sR X.1 25) = G at en3 ps pn ⊢
    generalize cE (sR X.1 19) (sR X.1 20) 3 k = x3 at en3 l3 ps
    have u4 : x3 < 2 ^ 31 := by omega
    rw [show df_X16_sweep_99 n (m + 1) = dF_X16_sweep_99 n (df_X16_sweep_99 n m) from rfl]
    by_cases c1 : sR X.1 24 k = nI 0
    · rw [if_pos c1] at ps
      simp (disch := (first | assumption | decide | omega)) only [dF_X16_sweep_99, df_X16_sweep_137, df_X16_sweep_141, df_X16_sweep_142, k16, pn, c1, ps, eq_self, Nat.reduceEqDiff, Nat.reduceLeDiff, nl_0, nl_1, nl_3, nl_16, nl_24, nl_25, no_1, no_1024, pk_mul, nI_add, nm_ck, nI_clamp, nI_ltI, nI_leI, nI_eq, nb_b2, nb_b1, ↓nb_let, nm_z0, nm_z1, nb_II, nb_IR, nb_RI, nb_RR, nm_IL, nm_IQ, nm_RL, nm_RQ, nm_LI, nm_LR, nm_LL, nm_LQ, nm_QI, nm_QR, nm_QL, nm_QQ, nm_rr, nm_ii, nm_eqm, not_false_eq_true, pk_sub, nm_div, nm_shl, nm_shr, nm_ush, nm_or8, nm_or64, nm_or256, nm_m1, nm_m3, nm_m7, nm_m15, nm_m31, nm_m63, nm_m255, nm_m511, nm_m1023, nm_m2047, nm_m65535, Nat.reduceMod, Nat.reducePow, Nat.reduceAdd, Nat.reduceSub, Nat.reduceMul, nm_bo, nm_bi, nm_rc, nm_ic, nm_ri, nm_rl, nm_rq, nm_ql, nm_qi, nm_li, nm_us, nm_uu, nm_cp, nm_sa31, nm_sa7, nm_m127, nm_m2, nm_nz, nm_nzk, nm_eq32, nm_nzf, if_true, if_false, ↓reduceIte, if_pos, if_neg]
    · rw [if_neg c1] at ps
      by_cases c0 : sR X.1 25 k = nI 0
      · rw [if_pos c0] at ps
        by_cases c2 : x3 = 0
        · rw [if_pos c2] at ps
          have c2' : x3 ≤ 0 := by omega
          simp (disch := (first | assumption | decide | omega)) only [dF_X16_sweep_99, df_X16_sweep_137, df_X16_sweep_141, df_X16_sweep_142, k16, pn, c1, c0, en3, c2', ps, eq_self, Nat.reduceEqDiff, Nat.reduceLeDiff, nl_0, nl_1, nl_3, nl_16, nl_24, nl_25, no_1, no_1024, pk_mul, nI_add, nm_ck, nI_clamp, nI_ltI, nI_leI, nI_eq, nb_b2, nb_b1, ↓nb_let, nm_z0, nm_z1, nb_II, nb_IR, nb_RI, nb_RR, nm_IL, nm_IQ, nm_RL, nm_RQ, nm_LI, nm_LR, nm_LL, nm_LQ, nm_QI, nm_QR, nm_QL, nm_QQ, nm_rr, nm_ii, nm_eqm, not_false_eq_true, pk_sub, nm_div, nm_shl, nm_shr, nm_ush, nm_or8, nm_or64, nm_or256, nm_m1, nm_m3, nm_m7, nm_m15, nm_m31, nm_m63, nm_m255, nm_m511, nm_m1023, nm_m2047, nm_m65535, Nat.reduceMod, Nat.reducePow, Nat.reduceAdd, Nat.reduceSub, Nat.reduceMul, nm_bo, nm_bi, nm_rc, nm_ic, nm_ri, nm_rl, nm_rq, nm_ql, nm_qi, nm_li, nm_us, nm_uu, nm_cp, nm_sa31, nm_sa7, nm_m127, nm_m2, nm_nz, nm_nzk, nm_eq32, nm_nzf, if_true, if_false, ↓reduceIte, if_pos, if_neg]
        · rw [if_neg c2] at ps
          have c2' : ¬ x3 ≤ 0 := by omega
          simp (disch := (first | assumption | decide | omega)) only [dF_X16_sweep_99, df_X16_sweep_137, df_X16_sweep_141, df_X16_sweep_142, k16, pn, c1, c0, en3, c2', ps, eq_self, Nat.reduceEqDiff, Nat.reduceLeDiff, nl_0, nl_1, nl_3, nl_16, nl_24, nl_25, no_1, no_1024, pk_mul, nI_add, nm_ck, nI_clamp, nI_ltI, nI_leI, nI_eq, nb_b2, nb_b1, ↓nb_let, nm_z0, nm_z1, nb_II, nb_IR, nb_RI, nb_RR, nm_IL, nm_IQ, nm_RL, nm_RQ, nm_LI, nm_LR, nm_LL, nm_LQ, nm_QI, nm_QR, nm_QL, nm_QQ, nm_rr, nm_ii, nm_eqm, not_false_eq_true, pk_sub, nm_div, nm_shl, nm_shr, nm_ush, nm_or8, nm_or64, nm_or256, nm_m1, nm_m3, nm_m7, nm_m15, nm_m31, nm_m63, nm_m255, nm_m511, nm_m1023, nm_m2047, nm_m65535, Nat.reduceMod, Nat.reducePow, Nat.reduceAdd, Nat.reduceSub, Nat.reduceMul, nm_bo, nm_bi, nm_rc, nm_ic, nm_ri, nm_rl, nm_rq, nm_ql, nm_qi, nm_li, nm_us, nm_uu, nm_cp, nm_sa31, nm_sa7, nm_m127, nm_m2, nm_nz, nm_nzk, nm_eq32, nm_nzf, if_true, if_false, ↓reduceIte, if_pos, if_neg]
      · rw [if_neg c0] at ps
        simp (disch := (first | assumption | decide | omega)) only [dF_X16_sweep_99, df_X16_sweep_137, df_X16_sweep_141, df_X16_sweep_142, k16, pn, c1, c0, ps, eq_self, Nat.reduceEqDiff, Nat.reduceLeDiff, nl_0, nl_1, nl_3, nl_16, nl_24, nl_25, no_1, no_1024, pk_mul, nI_add, nm_ck, nI_clamp, nI_ltI, nI_leI, nI_eq, nb_b2, nb_b1, ↓nb_let, nm_z0, nm_z1, nb_II, nb_IR, nb_RI, nb_RR, nm_IL, nm_IQ, nm_RL, nm_RQ, nm_LI, nm_LR, nm_LL, nm_LQ, nm_QI, nm_QR, nm_QL, nm_QQ, nm_rr, nm_ii, nm_eqm, not_false_eq_true, pk_sub, nm_div, nm_shl, nm_shr, nm_ush, nm_or8, nm_or64, nm_or256, nm_m1, nm_m3, nm_m7, nm_m15, nm_m31, nm_m63, nm_m255, nm_m511, nm_m1023, nm_m2047, nm_m65535, Nat.reduceMod, Nat.reducePow, Nat.reduceAdd, Nat.reduceSub, Nat.reduceMul, nm_bo, nm_bi, nm_rc, nm_ic, nm_ri, nm_rl, nm_rq, nm_ql, nm_qi, nm_li, nm_us, nm_uu, nm_cp, nm_sa31, nm_sa7, nm_m127, nm_m2, nm_nz, nm_nzk, nm_eq32, nm_nzf, if_true, if_false, ↓reduceIte, if_pos, if_neg])
  rw [pcw_0, nm_r0] at hm
  refine Eq.trans hm ?_
  rw [show df_X16_sweep_99 n (m + 1) = dF_X16_sweep_99 n (df_X16_sweep_99 n m) from rfl]
  simp (disch := (first | assumption | decide | omega)) only [dF_X16_sweep_99, eq_self, Nat.reduceEqDiff, Nat.reduceLeDiff, nl_0, nl_3, nl_16, nl_24, nl_25, no_1, no_1024, pk_mul, nI_add, nm_ck, nI_clamp, nI_ltI, nI_leI, nI_eq, nb_b2, nb_b1, ↓nb_let, nm_z0, nm_z1, nb_II, nb_IR, nb_RI, nb_RR, nm_IL, nm_IQ, nm_RL, nm_RQ, nm_LI, nm_LR, nm_LL, nm_LQ, nm_QI, nm_QR, nm_QL, nm_QQ, nm_rr, nm_ii, nm_eqm, not_false_eq_true, pk_sub, nm_div, nm_shl, nm_shr, nm_ush, nm_or8, nm_or64, nm_or256, nm_m1, nm_m3, nm_m7, nm_m15, nm_m31, nm_m63, nm_m255, nm_m511, nm_m1023, nm_m2047, nm_m65535, Nat.reduceMod, Nat.reducePow, Nat.reduceAdd, Nat.reduceSub, Nat.reduceMul, nm_bo, nm_bi, nm_rc, nm_ic, nm_ri, nm_rl, nm_rq, nm_ql, nm_qi, nm_li, nm_us, nm_uu, nm_cp, nm_sa31, nm_sa7, nm_m127, nm_m2, nm_nz, nm_nzk, nm_eq32, nm_nzf, if_true, if_false, ↓reduceIte, if_pos, if_neg]
/-- what the reference sweeps away -/
theorem nk_sweep (n : Nat) (hn : 1024 < n) (X : St × St) : df_X16_sweep n X = some (pR (pR (pR X.1 19 (pcw (gk (sR X.1 14) (sR X.1 19)) (sR X.1 19) 48)) 23 (pcw (gp (pcw (gk (sR X.1 14) (sR X.1 19)) (sR X.1 19) 48) (sR X.1 20) (sR X.1 23)) (sR X.1 23) 8)) 24 (pcw (gf (pcw (gk (sR X.1 14) (sR X.1 19)) (sR X.1 19) 48) (sR X.1 20) (sR X.1 24) (sR X.1 25)) (sR X.1 24) 16), X.2) := by
  rw [sw_1 n hn, sw_2 n hn, sw_3 n hn]
  rfl
