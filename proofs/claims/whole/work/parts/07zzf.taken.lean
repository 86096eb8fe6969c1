/-- k places from a on moved down by m -/
def svk (f : Nat → Int32) (a m k : Nat) : Nat → Int32 := fun j => if a ≤ j ∧ j < a + k then f (j + m) else f j
theorem svk_0 (f : Nat → Int32) (a m : Nat) : svk f a m 0 = f := by
  funext j
  exact if_neg (by omega)
theorem svk_s (f : Nat → Int32) (a m k : Nat) : upd (svk f a m k) (a + k) (svk f a m k (a + k + m)) = svk f a m (k + 1) := by
  funext j
  show (if j = a + k then (if a ≤ a + k + m ∧ a + k + m < a + k then f (a + k + m + m) else f (a + k + m)) else if a ≤ j ∧ j < a + k then f (j + m) else f j) = if a ≤ j ∧ j < a + (k + 1) then f (j + m) else f j
  rw [if_neg (show ¬ (a ≤ a + k + m ∧ a + k + m < a + k) by omega)]
  by_cases c : j = a + k
  · rw [if_pos c, if_pos (by omega), c]
  · rw [if_neg c]
    by_cases d : a ≤ j ∧ j < a + k
    · rw [if_pos d, if_pos (by omega)]
    · rw [if_neg d, if_neg (by omega)]
theorem svk_i {f : Nat → Int32} {a m k j : Nat} (h : a ≤ j ∧ j < a + k) : svk f a m k j = f (j + m) := if_pos h
theorem svk_o {f : Nat → Int32} {a m k j : Nat} (h : ¬ (a ≤ j ∧ j < a + k)) : svk f a m k j = f j := if_neg h
/-- bytes leave a pipe: the reference -/
theorem tk_R1 (n : Nat) (hn : 1024 < n) {X : St × St} {t L m : Nat} (ht : t < 8) (hL : L ≤ 512) (hm : m ≤ L) (l2 : sR X.1 26 t = nI L) : df_X16_read_235 n n (nI m) (nI t) (nI m) X = some (nI m, (pR (pR X.1 26 (upd (sR X.1 26) t (nI (L - m)))) 27 (svk (sR X.1 27) (512 * t) m (L - m)), X.2)) := by
  have u1 : t < 2 ^ 31 := by omega
  have u2 : L < 2 ^ 31 := by omega
  obtain ⟨q, hq⟩ := nm_lq (fun q k => df_X16_read_235 n q (nI m) (nI t) (nI (m + k)) (pR X.1 27 (svk (sR X.1 27) (512 * t) m k), X.2)) (L - m) n (by omega) (fun k q hk => by
    have v1 : ¬ L ≤ m + k := by omega
    have v2 : m + k < 2 ^ 31 := by omega
    have v3 : 512 * t + (m + k) < 4096 := by omega
    have v4 : 512 * t + (m + k) < 2 ^ 31 := by omega
    have v5 : m ≤ 512 * t + (m + k) := by omega
    have v6 : 512 * t + (m + k) - m = 512 * t + k := by omega
    have v7 : 512 * t + k < 4096 := by omega
    have v8 : 512 * t + k < 2 ^ 31 := by omega
    have vs := svk_s (sR X.1 27) (512 * t) m k
    rw [show 512 * t + k + m = 512 * t + (m + k) by omega] at vs
    show df_X16_read_235 n (q + 1) _ _ (nI (m + k)) _ = df_X16_read_235 n q _ _ (nI (m + k + 1)) _
    rw [show df_X16_read_235 n (q + 1) = dF_X16_read_235 n (df_X16_read_235 n q) from rfl]
    generalize df_X16_read_235 n q = G
    simp (disch := (first | assumption | decide | omega)) only [dF_X16_read_235, l2, v1, v6, vs, eq_self, Nat.reduceEqDiff, Nat.reduceLeDiff, nl_1, nl_8, nl_26, nl_27, nl_512, nl_4096, no_1, no_1024, pk_mul, nI_add, nm_ck, nI_clamp, nI_ltI, nI_leI, nI_eq, nb_b2, nb_b1, ↓nb_let, nm_z0, nm_z1, nb_II, nb_IR, nb_RI, nb_RR, nm_IL, nm_IQ, nm_RL, nm_RQ, nm_LI, nm_LR, nm_LL, nm_LQ, nm_QI, nm_QR, nm_QL, nm_QQ, nm_rr, nm_ii, nm_eqm, not_false_eq_true, pk_sub, nm_div, nm_shl, nm_shr, nm_ush, nm_or8, nm_or64, nm_or256, nm_m1, nm_m3, nm_m7, nm_m15, nm_m31, nm_m63, nm_m255, nm_m511, nm_m1023, nm_m2047, nm_m65535, Nat.reduceMod, Nat.reducePow, Nat.reduceAdd, Nat.reduceSub, Nat.reduceMul, nm_bo, nm_bi, nm_rc, nm_ic, nm_ri, nm_rl, nm_rq, nm_ql, nm_qi, nm_li, nm_us, nm_uu, nm_cp, nm_sa31, nm_sa7, nm_m127, nm_m2, nm_nz, nm_nzk, nm_eq32, nm_nzf, if_true, if_false, ↓reduceIte, if_pos, if_neg])
  rw [svk_0, nm_r0] at hq
  refine Eq.trans (b := df_X16_read_235 n n (nI m) (nI t) (nI (m + 0)) X) rfl (Eq.trans hq ?_)
  show df_X16_read_235 n (q + 1) _ _ (nI (m + (L - m))) _ = _
  rw [show m + (L - m) = L by omega, show df_X16_read_235 n (q + 1) = dF_X16_read_235 n (df_X16_read_235 n q) from rfl, nm_rc (a := 27) (b := 26) (by decide) |>.symm]
  generalize df_X16_read_235 n q = G
  generalize svk (sR X.1 27) (512 * t) m (L - m) = R
  simp (disch := (first | assumption | decide | omega)) only [dF_X16_read_235, df_X16_read_398, l2, Nat.le_refl, hm, eq_self, Nat.reduceEqDiff, Nat.reduceLeDiff, nl_1, nl_8, nl_26, nl_27, nl_512, nl_4096, no_1, no_1024, pk_mul, nI_add, nm_ck, nI_clamp, nI_ltI, nI_leI, nI_eq, nb_b2, nb_b1, ↓nb_let, nm_z0, nm_z1, nb_II, nb_IR, nb_RI, nb_RR, nm_IL, nm_IQ, nm_RL, nm_RQ, nm_LI, nm_LR, nm_LL, nm_LQ, nm_QI, nm_QR, nm_QL, nm_QQ, nm_rr, nm_ii, nm_eqm, not_false_eq_true, pk_sub, nm_div, nm_shl, nm_shr, nm_ush, nm_or8, nm_or64, nm_or256, nm_m1, nm_m3, nm_m7, nm_m15, nm_m31, nm_m63, nm_m255, nm_m511, nm_m1023, nm_m2047, nm_m65535, Nat.reduceMod, Nat.reducePow, Nat.reduceAdd, Nat.reduceSub, Nat.reduceMul, nm_bo, nm_bi, nm_rc, nm_ic, nm_ri, nm_rl, nm_rq, nm_ql, nm_qi, nm_li, nm_us, nm_uu, nm_cp, nm_sa31, nm_sa7, nm_m127, nm_m2, nm_nz, nm_nzk, nm_eq32, nm_nzf, if_true, if_false, ↓reduceIte, if_pos, if_neg]
/-- the class -/
theorem tk_C1 (n : Nat) {D : St} {o t L m oo N : Nat} (ho : o < 48) (ht : t < 8) (hL : L ≤ 512) (hm : m ≤ L) (hoo : oo < 512) (y5 : sR D 1 (o * 5) = nI 1) (y8 : sR D 1 (o * 5 + 2) = nI t) (l1 : sR D 2 (t * 4) = nI L) (l3 : sR D 2 (t * 4 + 3) = nI oo) : df_X10_taken n (nI o) (nI N) (nI m) D = some (pR D 2 (upd (upd (sR D 2) (t * 4) (nI (L - m))) (t * 4 + 3) (nI ((oo + m) % 512)))) := by
  have u1 : o * 5 < 240 := by omega
  have u2 : o * 5 < 2 ^ 31 := by omega
  have u3 : o * 5 + 2 < 240 := by omega
  have u4 : t * 4 < 32 := by omega
  have u5 : t * 4 < 2 ^ 31 := by omega
  have u6 : t * 4 + 3 < 32 := by omega
  have u7 : oo + m < 2 ^ 32 := by omega
  have of0 : df_X10_of n (nI o) (nI 0) D = some (nI 1, D) := by simp (disch := (first | assumption | decide | omega)) only [df_X10_of_0, df_X10_of, Nat.add_zero, y5, eq_self, Nat.reduceEqDiff, Nat.reduceLeDiff, nl_1, nl_5, nl_240, no_1, no_1024, pk_mul, nI_add, nm_ck, nI_clamp, nI_ltI, nI_leI, nI_eq, nb_b2, nb_b1, ↓nb_let, nm_z0, nm_z1, nb_II, nb_IR, nb_RI, nb_RR, nm_IL, nm_IQ, nm_RL, nm_RQ, nm_LI, nm_LR, nm_LL, nm_LQ, nm_QI, nm_QR, nm_QL, nm_QQ, nm_rr, nm_ii, nm_eqm, not_false_eq_true, pk_sub, nm_div, nm_shl, nm_shr, nm_ush, nm_or8, nm_or64, nm_or256, nm_m1, nm_m3, nm_m7, nm_m15, nm_m31, nm_m63, nm_m255, nm_m511, nm_m1023, nm_m2047, nm_m65535, Nat.reduceMod, Nat.reducePow, Nat.reduceAdd, Nat.reduceSub, Nat.reduceMul, nm_bo, nm_bi, nm_rc, nm_ic, nm_ri, nm_rl, nm_rq, nm_ql, nm_qi, nm_li, nm_us, nm_uu, nm_cp, nm_sa31, nm_sa7, nm_m127, nm_m2, nm_nz, nm_nzk, nm_eq32, nm_nzf, if_true, if_false, ↓reduceIte, if_pos, if_neg]
  have of2 : df_X10_of n (nI o) (nI 2) D = some (nI t, D) := by simp (disch := (first | assumption | decide | omega)) only [df_X10_of_0, df_X10_of, y8, eq_self, Nat.reduceEqDiff, Nat.reduceLeDiff, nl_1, nl_5, nl_240, no_1, no_1024, pk_mul, nI_add, nm_ck, nI_clamp, nI_ltI, nI_leI, nI_eq, nb_b2, nb_b1, ↓nb_let, nm_z0, nm_z1, nb_II, nb_IR, nb_RI, nb_RR, nm_IL, nm_IQ, nm_RL, nm_RQ, nm_LI, nm_LR, nm_LL, nm_LQ, nm_QI, nm_QR, nm_QL, nm_QQ, nm_rr, nm_ii, nm_eqm, not_false_eq_true, pk_sub, nm_div, nm_shl, nm_shr, nm_ush, nm_or8, nm_or64, nm_or256, nm_m1, nm_m3, nm_m7, nm_m15, nm_m31, nm_m63, nm_m255, nm_m511, nm_m1023, nm_m2047, nm_m65535, Nat.reduceMod, Nat.reducePow, Nat.reduceAdd, Nat.reduceSub, Nat.reduceMul, nm_bo, nm_bi, nm_rc, nm_ic, nm_ri, nm_rl, nm_rq, nm_ql, nm_qi, nm_li, nm_us, nm_uu, nm_cp, nm_sa31, nm_sa7, nm_m127, nm_m2, nm_nz, nm_nzk, nm_eq32, nm_nzf, if_true, if_false, ↓reduceIte, if_pos, if_neg]
  have r : upd (sR D 2) (t * 4) (nI (L - m)) (t * 4 + 3) = nI oo := (nm_un (by omega)).trans l3
  simp (disch := (first | assumption | decide | omega)) only [df_X10_taken, df_X10_taken_0, df_X10_taken_157, of0, of2, Nat.add_zero, l1, hm, r, eq_self, Nat.reduceEqDiff, Nat.reduceLeDiff, nl_0, nl_1, nl_2, nl_3, nl_4, nl_5, nl_32, nl_240, nl_511, no_1, no_1024, pk_mul, nI_add, nm_ck, nI_clamp, nI_ltI, nI_leI, nI_eq, nb_b2, nb_b1, ↓nb_let, nm_z0, nm_z1, nb_II, nb_IR, nb_RI, nb_RR, nm_IL, nm_IQ, nm_RL, nm_RQ, nm_LI, nm_LR, nm_LL, nm_LQ, nm_QI, nm_QR, nm_QL, nm_QQ, nm_rr, nm_ii, nm_eqm, not_false_eq_true, pk_sub, nm_div, nm_shl, nm_shr, nm_ush, nm_or8, nm_or64, nm_or256, nm_m1, nm_m3, nm_m7, nm_m15, nm_m31, nm_m63, nm_m255, nm_m511, nm_m1023, nm_m2047, nm_m65535, Nat.reduceMod, Nat.reducePow, Nat.reduceAdd, Nat.reduceSub, Nat.reduceMul, nm_bo, nm_bi, nm_rc, nm_ic, nm_ri, nm_rl, nm_rq, nm_ql, nm_qi, nm_li, nm_us, nm_uu, nm_cp, nm_sa31, nm_sa7, nm_m127, nm_m2, nm_nz, nm_nzk, nm_eq32, nm_nzf, if_true, if_false, ↓reduceIte, if_pos, if_neg]
theorem rM_tk1 {B : Nat} {M X : St × St} (h : rM B M X) {t L m oo : Nat} (ht : t < 8) (hL : L ≤ 512) (hm : m ≤ L) (hoo : oo < 512) (e23 : sR X.1 23 t = nI 1) (l1 : sR M.2 2 (t * 4) = nI L) (l3 : sR M.2 2 (t * 4 + 3) = nI oo) : rM B (M.1, pR M.2 2 (upd (upd (sR M.2 2) (t * 4) (nI (L - m))) (t * 4 + 3) (nI ((oo + m) % 512)))) (pR (pR X.1 26 (upd (sR X.1 26) t (nI (L - m)))) 27 (svk (sR X.1 27) (512 * t) m (L - m)), X.2) := by
  obtain ⟨m1, m2, m3, m4, m5, m6, m7⟩ := h
  refine ⟨m1, ?_, m3, m4, m5, m6, ?_⟩
  · obtain ⟨a1, a2, a3, a4⟩ := m2
    refine ⟨a1, a2, fun k hk => ?_, a4⟩
    show upd (upd (sR M.2 2) (t * 4) (nI (L - m))) (t * 4 + 3) (nI ((oo + m) % 512)) (k * 4 + 1) = _ ∧ upd (upd (sR M.2 2) (t * 4) (nI (L - m))) (t * 4 + 3) (nI ((oo + m) % 512)) (k * 4 + 2) = _ ∧ _
    rw [nm_un (by omega), nm_un (by omega), nm_un (by omega), nm_un (by omega)]
    exact a3 k hk
  · obtain ⟨t1, t2⟩ := m7
    refine ⟨fun k hk e => ?_, t2⟩
    have e : sR X.1 23 k = nI 1 := e
    obtain ⟨L', o', q1, q2, q3, q4, q5, q6⟩ := t1 k hk e
    show ∃ L2 o2 : Nat, L2 ≤ 512 ∧ o2 < 512 ∧ upd (upd (sR M.2 2) (t * 4) (nI (L - m))) (t * 4 + 3) (nI ((oo + m) % 512)) (k * 4) = nI L2 ∧ upd (sR X.1 26) t (nI (L - m)) k = nI L2 ∧ upd (upd (sR M.2 2) (t * 4) (nI (L - m))) (t * 4 + 3) (nI ((oo + m) % 512)) (k * 4 + 3) = nI o2 ∧ ∀ i : Nat, i < L2 → b8 (sR M.2 3 (k * 512 + (o2 + i) % 512)) (svk (sR X.1 27) (512 * t) m (L - m) (512 * k + i))
    by_cases c : k = t
    · subst c
      have eL : L' = L := nm_inI (by omega) (by omega) (q3.symm.trans l1)
      have eo : o' = oo := nm_inI (by omega) (by omega) (q5.symm.trans l3)
      subst eL eo
      refine ⟨L' - m, (o' + m) % 512, by omega, by omega, ?_, nm_us, nm_us, fun i hi => ?_⟩
      · rw [nm_un (by omega), nm_us]
      · rw [svk_i (by omega), show 512 * k + i + m = 512 * k + (m + i) by omega]
        have := q6 (m + i) (by omega)
        rw [show ((o' + m) % 512 + i) % 512 = (o' + (m + i)) % 512 by omega]
        exact this
    · refine ⟨L', o', q1, q2, ?_, ?_, ?_, fun i hi => ?_⟩
      · rw [nm_un (by omega), nm_un (by omega)]; exact q3
      · rw [nm_un c]; exact q4
      · rw [nm_un (by omega), nm_un (by omega)]; exact q5
      · rw [svk_o (by omega)]
        exact q6 i hi
/-- the console: the reference -/
theorem tk_R4 (n : Nat) (hn : 1024 < n) {X : St × St} {T m v : Nat} (hT : T ≤ 512) (hm : m ≤ T) (t2 : sI X.1 7 = nI T) : df_X16_read_355 n n (nI v) (nI m) (nI m) X = some (nI v, (pI (pR X.1 31 (svk (sR X.1 31) 0 m (T - m))) 7 (nI (T - m)), X.2)) := by
  have u2 : T < 2 ^ 31 := by omega
  obtain ⟨q, hq⟩ := nm_lq (fun q k => df_X16_read_355 n q (nI v) (nI m) (nI (m + k)) (pR X.1 31 (svk (sR X.1 31) 0 m k), X.2)) (T - m) n (by omega) (fun k q hk => by
    have v1 : ¬ T ≤ m + k := by omega
    have v2 : m + k < 2 ^ 31 := by omega
    have v3 : m + k < 512 := by omega
    have v5 : m ≤ m + k := by omega
    have v6 : m + k - m = k := by omega
    have v7 : k < 512 := by omega
    have v8 : k < 2 ^ 31 := by omega
    have vs := svk_s (sR X.1 31) 0 m k
    rw [Nat.zero_add, Nat.add_comm k m] at vs
    show df_X16_read_355 n (q + 1) _ _ (nI (m + k)) _ = df_X16_read_355 n q _ _ (nI (m + k + 1)) _
    rw [show df_X16_read_355 n (q + 1) = dF_X16_read_355 n (df_X16_read_355 n q) from rfl]
    generalize df_X16_read_355 n q = G
    simp (disch := (first | assumption | decide | omega)) only [dF_X16_read_355, t2, v1, v6, vs, eq_self, Nat.reduceEqDiff, Nat.reduceLeDiff, nl_1, nl_7, nl_31, nl_512, no_1, no_1024, pk_mul, nI_add, nm_ck, nI_clamp, nI_ltI, nI_leI, nI_eq, nb_b2, nb_b1, ↓nb_let, nm_z0, nm_z1, nb_II, nb_IR, nb_RI, nb_RR, nm_IL, nm_IQ, nm_RL, nm_RQ, nm_LI, nm_LR, nm_LL, nm_LQ, nm_QI, nm_QR, nm_QL, nm_QQ, nm_rr, nm_ii, nm_eqm, not_false_eq_true, pk_sub, nm_div, nm_shl, nm_shr, nm_ush, nm_or8, nm_or64, nm_or256, nm_m1, nm_m3, nm_m7, nm_m15, nm_m31, nm_m63, nm_m255, nm_m511, nm_m1023, nm_m2047, nm_m65535, Nat.reduceMod, Nat.reducePow, Nat.reduceAdd, Nat.reduceSub, Nat.reduceMul, nm_bo, nm_bi, nm_rc, nm_ic, nm_ri, nm_rl, nm_rq, nm_ql, nm_qi, nm_li, nm_us, nm_uu, nm_cp, nm_sa31, nm_sa7, nm_m127, nm_m2, nm_nz, nm_nzk, nm_eq32, nm_nzf, if_true, if_false, ↓reduceIte, if_pos, if_neg])
  rw [svk_0, nm_r0] at hq
  refine Eq.trans (b := df_X16_read_355 n n (nI v) (nI m) (nI (m + 0)) X) rfl (Eq.trans hq ?_)
  show df_X16_read_355 n (q + 1) _ _ (nI (m + (T - m))) _ = _
  rw [show m + (T - m) = T by omega, show df_X16_read_355 n (q + 1) = dF_X16_read_355 n (df_X16_read_355 n q) from rfl]
  generalize df_X16_read_355 n q = G
  generalize svk (sR X.1 31) 0 m (T - m) = R
  simp (disch := (first | assumption | decide | omega)) only [dF_X16_read_355, df_X16_read_398, t2, Nat.le_refl, hm, eq_self, Nat.reduceEqDiff, Nat.reduceLeDiff, nl_1, nl_7, nl_31, nl_512, no_1, no_1024, pk_mul, nI_add, nm_ck, nI_clamp, nI_ltI, nI_leI, nI_eq, nb_b2, nb_b1, ↓nb_let, nm_z0, nm_z1, nb_II, nb_IR, nb_RI, nb_RR, nm_IL, nm_IQ, nm_RL, nm_RQ, nm_LI, nm_LR, nm_LL, nm_LQ, nm_QI, nm_QR, nm_QL, nm_QQ, nm_rr, nm_ii, nm_eqm, not_false_eq_true, pk_sub, nm_div, nm_shl, nm_shr, nm_ush, nm_or8, nm_or64, nm_or256, nm_m1, nm_m3, nm_m7, nm_m15, nm_m31, nm_m63, nm_m255, nm_m511, nm_m1023, nm_m2047, nm_m65535, Nat.reduceMod, Nat.reducePow, Nat.reduceAdd, Nat.reduceSub, Nat.reduceMul, nm_bo, nm_bi, nm_rc, nm_ic, nm_ri, nm_rl, nm_rq, nm_ql, nm_qi, nm_li, nm_us, nm_uu, nm_cp, nm_sa31, nm_sa7, nm_m127, nm_m2, nm_nz, nm_nzk, nm_eq32, nm_nzf, if_true, if_false, ↓reduceIte, if_pos, if_neg]
/-- the console: the class -/
theorem tk_C4 (n : Nat) {D : St} {T m : Nat} (hT : T ≤ 512) (hm : m ≤ T) (t1 : sI D 0 = nI T) (hf : ∀ i : Nat, i < T → fits .byte (.int (sR D 7 i)) = true) : df_X10_taken_77 n (nI m) D = some (pI (pR D 7 (va_cpy (sR D 7) (sR D 7) m 0 (T - m))) 0 (nI (T - m))) := by
  have u1 : m + (T - m) ≤ 512 := by omega
  have u2 : 0 + (T - m) ≤ 512 := by omega
  have u3 : m < 2 ^ 31 := by omega
  have u4 : T - m < 2 ^ 31 := by omega
  have fa : ∀ {α : Type} (x : Option α), nd_fa .byte (sR D 7) m (T - m) x = x := fun x => if_pos (fun i hi => hf (m + i) (by omega))
  simp (disch := (first | assumption | decide | omega)) only [df_X10_taken_77, df_X10_taken_157, t1, hm, fa, eq_self, Nat.reduceEqDiff, Nat.reduceLeDiff, nl_0, nl_7, nl_512, no_1, no_1024, pk_mul, nI_add, nm_ck, nI_clamp, nI_ltI, nI_leI, nI_eq, nb_b2, nb_b1, ↓nb_let, nm_z0, nm_z1, nb_II, nb_IR, nb_RI, nb_RR, nm_IL, nm_IQ, nm_RL, nm_RQ, nm_LI, nm_LR, nm_LL, nm_LQ, nm_QI, nm_QR, nm_QL, nm_QQ, nm_rr, nm_ii, nm_eqm, not_false_eq_true, pk_sub, nm_div, nm_shl, nm_shr, nm_ush, nm_or8, nm_or64, nm_or256, nm_m1, nm_m3, nm_m7, nm_m15, nm_m31, nm_m63, nm_m255, nm_m511, nm_m1023, nm_m2047, nm_m65535, Nat.reduceMod, Nat.reducePow, Nat.reduceAdd, Nat.reduceSub, Nat.reduceMul, nm_bo, nm_bi, nm_rc, nm_ic, nm_ri, nm_rl, nm_rq, nm_ql, nm_qi, nm_li, nm_us, nm_uu, nm_cp, nm_sa31, nm_sa7, nm_m127, nm_m2, nm_nz, nm_nzk, nm_eq32, nm_nzf, if_true, if_false, ↓reduceIte, if_pos, if_neg]
theorem rM_tk4 {B : Nat} {M X : St × St} (h : rM B M X) {T m : Nat} (hT : T ≤ 512) (hm : m ≤ T) (t1 : sI M.2 0 = nI T) : rM B (M.1, pI (pR M.2 7 (va_cpy (sR M.2 7) (sR M.2 7) m 0 (T - m))) 0 (nI (T - m))) (pI (pR X.1 31 (svk (sR X.1 31) 0 m (T - m))) 7 (nI (T - m)), X.2) := by
  obtain ⟨m1, m2, m3, m4, m5, m6, p1, p2, p3, ⟨T', q1, q2, q3, q4⟩, p5⟩ := h
  have eT : T' = T := nm_inI (by omega) (by omega) (q2.symm.trans t1)
  subst eT
  refine ⟨m1, m2, m3, m4, m5, ⟨m6.1, m6.2.1, m6.2.2.1, m6.2.2.2.1, fun i hi => ?_, m6.2.2.2.2.2⟩, p1, p2, p3, ⟨T' - m, by omega, rfl, rfl, fun i hi => ?_⟩, p5⟩
  · show fb8 (va_cpy (sR M.2 7) (sR M.2 7) m 0 (T' - m) i)
    by_cases c : 0 ≤ i ∧ i < 0 + (T' - m)
    · rw [va_i c]; exact m6.2.2.2.2.1 _ (by omega)
    · rw [va_o c]; exact m6.2.2.2.2.1 i hi
  show b8 (va_cpy (sR M.2 7) (sR M.2 7) m 0 (T' - m) i) (svk (sR X.1 31) 0 m (T' - m) i)
  rw [va_i (by omega), svk_i (by omega), show m + (i - 0) = i + m by omega]
  exact q4 (i + m) (by omega)
