def dU (D : St) (l op pi fi : Nat → Int32) : St := pR (pR (pR (pR D 0 l) 1 op) 2 pi) 4 fi
theorem nm_am {x : Nat} (h : 1 ≤ x) (h2 : x < 2 ^ 31) : nI x + -nI 1 = nI (x - 1) := by
  rw [← Int32.sub_eq_add_neg, pk_sub h]
theorem dU_12 (D : St) (l op : Nat → Int32) : pR (pR D 0 l) 1 op = dU D l op (sR D 2) (sR D 4) := by
  have e2 : pR (pR (pR D 0 l) 1 op) 2 (sR D 2) = pR (pR D 0 l) 1 op := nm_r0 (pR (pR D 0 l) 1 op) 2
  have e4 : pR (pR (pR D 0 l) 1 op) 4 (sR D 4) = pR (pR D 0 l) 1 op := nm_r0 (pR (pR D 0 l) 1 op) 4
  unfold dU
  rw [e2, e4]
theorem dU_123 (D : St) (l op pi : Nat → Int32) : pR (pR (pR D 0 l) 1 op) 2 pi = dU D l op pi (sR D 4) := by
  have e4 : pR (pR (pR (pR D 0 l) 1 op) 2 pi) 4 (sR D 4) = pR (pR (pR D 0 l) 1 op) 2 pi := nm_r0 (pR (pR (pR D 0 l) 1 op) 2 pi) 4
  unfold dU
  rw [e4]
theorem dU_124 (D : St) (l op fi : Nat → Int32) : pR (pR (pR D 0 l) 1 op) 4 fi = dU D l op (sR D 2) fi := by
  have e2 : pR (pR (pR D 0 l) 1 op) 2 (sR D 2) = pR (pR D 0 l) 1 op := nm_r0 (pR (pR D 0 l) 1 op) 2
  unfold dU
  rw [e2]
theorem nk_close0 (n : Nat) {D : St} {p d : Nat} (hp : p < 16) (hd : d < 16) (el : sR D 0 (p * 16 + d) = nI 0) : df_X10_close n (nI p) (nI d) D = some D := by
  have u1 : p * 16 + d < 256 := by omega
  have u2 : p * 16 + d < 2 ^ 31 := by omega
  have u3 : d < 2 ^ 31 := by omega
  have d0 : ¬ d < 0 := by omega
  have d16 : ¬ 16 ≤ d := by omega
  have em : (nI 0 : Int32) - nI 1 = -nI 1 := by decide
  simp (disch := (first | assumption | decide | omega)) only [df_X10_close_74, df_X10_close_0, df_X10_close, df_X10_openingOf_27, df_X10_openingOf_10, df_X10_openingOf_0, df_X10_openingOf, d0, d16, el, em, nm_ltm, eq_self, Nat.reduceEqDiff, Nat.reduceLeDiff, nl_0, nl_1, nl_2, nl_5, nl_16, nl_240, nl_256, no_1, no_1024, pk_mul, nI_add, nm_ck, nI_clamp, nI_ltI, nI_leI, nI_eq, nb_b2, nb_b1, ↓nb_let, nm_z0, nm_z1, nb_II, nb_IR, nb_RI, nb_RR, nm_IL, nm_IQ, nm_RL, nm_RQ, nm_LI, nm_LR, nm_LL, nm_LQ, nm_QI, nm_QR, nm_QL, nm_QQ, nm_rr, nm_ii, nm_eqm, not_false_eq_true, pk_sub, nm_div, nm_shl, nm_shr, nm_ush, nm_or8, nm_or64, nm_or256, nm_m1, nm_m3, nm_m7, nm_m15, nm_m31, nm_m63, nm_m255, nm_m511, nm_m1023, nm_m2047, nm_m65535, Nat.reduceMod, Nat.reducePow, Nat.reduceAdd, Nat.reduceSub, Nat.reduceMul, nm_bo, nm_bi, nm_rc, nm_ic, nm_ri, nm_rl, nm_rq, nm_ql, nm_qi, nm_li, nm_us, nm_uu, nm_cp, nm_sa31, nm_sa7, nm_m127, nm_m2, nm_nz, nm_nzk, nm_eq32, nm_nzf, if_true, if_false, ↓reduceIte, if_pos, if_neg]
/-- the class closes a descriptor -/
theorem nk_closeC (n : Nat) {D : St} {p d o c k t : Nat} (hp : p < 16) (hd : d < 16) (ho : o < 48) (el : sR D 0 (p * 16 + d) = nI (o + 1)) (hc : 1 ≤ c) (hc2 : c ≤ 256) (e0 : sR D 1 (o * 5) = nI k) (e1 : sR D 1 (o * 5 + 1) = nI c) (e2 : sR D 1 (o * 5 + 2) = nI t) (hk : 1 ≤ k) (hk4 : k ≤ 4) (ht : t < 16) (ht8 : k ≤ 2 → t < 8) {x : Nat} (hx : x ≤ 48) (hx1 : 1 ≤ x) (ex : if k = 3 then sR D 4 (t * 3 + 1) = nI x else k = 4 ∨ sR D 2 (t * 4 + k) = nI x) : df_X10_close n (nI p) (nI d) D = some (if c = 1 then dU D (upd (sR D 0) (p * 16 + d) (nI 0)) (upd (upd (sR D 1) (o * 5 + 1) (nI 0)) (o * 5) (nI 0)) (if k ≤ 2 then upd (sR D 2) (t * 4 + k) (nI (x - 1)) else sR D 2) (if k = 3 then upd (sR D 4) (t * 3 + 1) (nI (x - 1)) else sR D 4) else dU D (upd (sR D 0) (p * 16 + d) (nI 0)) (upd (sR D 1) (o * 5 + 1) (nI (c - 1))) (sR D 2) (sR D 4)) := by
  have u1 : p * 16 + d < 256 := by omega
  have u2 : p * 16 + d < 2 ^ 31 := by omega
  have u3 : d < 2 ^ 31 := by omega
  have d0 : ¬ d < 0 := by omega
  have d16 : ¬ 16 ≤ d := by omega
  have em : nI (o + 1) - nI 1 = nI o := by rw [pk_sub (by omega)]; rfl
  have ec : nI c - nI 1 = nI (c - 1) := pk_sub hc
  have o0 : ¬ o < 0 := by omega
  have u4 : o < 2 ^ 31 := by omega
  have u5 : o * 5 + 1 < 240 := by omega
  have u6 : o * 5 + 1 < 2 ^ 31 := by omega
  have u7 : o * 5 < 240 := by omega
  have u8 : o * 5 < 2 ^ 31 := by omega
  have u9 : o * 5 + 2 < 240 := by omega
  have u10 : o * 5 + 2 < 2 ^ 31 := by omega
  have u11 : c - 1 < 2 ^ 31 := by omega
  have u12 : k < 2 ^ 31 := by omega
  have n0 : upd (sR D 1) (o * 5 + 1) (nI (c - 1)) (o * 5) = nI k := by rw [nm_un (by omega)]; exact e0
  have n2 : upd (sR D 1) (o * 5 + 1) (nI (c - 1)) (o * 5 + 2) = nI t := by rw [nm_un (by omega)]; exact e2
  have n1 : upd (sR D 1) (o * 5 + 1) (nI (c - 1)) (o * 5 + 1) = nI (c - 1) := nm_us
  by_cases c1 : c = 1
  · subst c1
    rw [if_pos rfl]
    have n0 : upd (sR D 1) (o * 5 + 1) (nI 0) (o * 5) = nI k := n0
    have n2 : upd (sR D 1) (o * 5 + 1) (nI 0) (o * 5 + 2) = nI t := n2
    have ec : nI 1 - nI 1 = nI 0 := ec
    have ax := nm_am hx1 (by omega)
    by_cases k3 : k = 3
    · rw [if_pos k3] at ex
      subst k3
      have v1 : t * 3 + 1 < 48 := by omega
      have v2 : t * 3 + 1 < 2 ^ 31 := by omega
      rw [if_neg (by omega), if_pos rfl, ← dU_124]
      simp (disch := (first | assumption | decide | omega)) only [df_X10_close_74, df_X10_close_0, df_X10_close, df_X10_openingOf_27, df_X10_openingOf_10, df_X10_openingOf_0, df_X10_openingOf, df_X10_of_0, df_X10_of, df_X10_hold_41, df_X10_hold_0, df_X10_hold, d0, d16, el, em, o0, e1, ec, Nat.add_zero, n0, n2, ex, ax, eq_self, Nat.reduceEqDiff, Nat.reduceLeDiff, nm_rc (a := 1) (b := 0) (by decide), nm_rc (a := 2) (b := 0) (by decide), nm_rc (a := 2) (b := 1) (by decide), nm_rc (a := 4) (b := 0) (by decide), nm_rc (a := 4) (b := 1) (by decide), nm_rc (a := 4) (b := 2) (by decide), nl_0, nl_1, nl_2, nl_3, nl_4, nl_5, nl_16, nl_32, nl_48, nl_240, nl_256, no_1, no_1024, pk_mul, nI_add, nm_ck, nI_clamp, nI_ltI, nI_leI, nI_eq, nb_b2, nb_b1, ↓nb_let, nm_z0, nm_z1, nb_II, nb_IR, nb_RI, nb_RR, nm_IL, nm_IQ, nm_RL, nm_RQ, nm_LI, nm_LR, nm_LL, nm_LQ, nm_QI, nm_QR, nm_QL, nm_QQ, nm_rr, nm_ii, nm_eqm, not_false_eq_true, pk_sub, nm_div, nm_shl, nm_shr, nm_ush, nm_or8, nm_or64, nm_or256, nm_m1, nm_m3, nm_m7, nm_m15, nm_m31, nm_m63, nm_m255, nm_m511, nm_m1023, nm_m2047, nm_m65535, Nat.reduceMod, Nat.reducePow, Nat.reduceAdd, Nat.reduceSub, Nat.reduceMul, nm_bo, nm_bi, nm_rc, nm_ic, nm_ri, nm_rl, nm_rq, nm_ql, nm_qi, nm_li, nm_us, nm_uu, nm_cp, nm_sa31, nm_sa7, nm_m127, nm_m2, nm_nz, nm_nzk, nm_eq32, nm_nzf, if_true, if_false, ↓reduceIte, if_pos, if_neg]
    · rw [if_neg k3] at ex
      by_cases k4 : k = 4
      · subst k4
        rw [if_neg (by omega), if_neg (by omega), ← dU_12]
        simp (disch := (first | assumption | decide | omega)) only [df_X10_close_74, df_X10_close_0, df_X10_close, df_X10_openingOf_27, df_X10_openingOf_10, df_X10_openingOf_0, df_X10_openingOf, df_X10_of_0, df_X10_of, df_X10_hold_41, df_X10_hold_0, df_X10_hold, d0, d16, el, em, o0, e1, ec, Nat.add_zero, n0, n2, eq_self, Nat.reduceEqDiff, Nat.reduceLeDiff, nm_rc (a := 1) (b := 0) (by decide), nm_rc (a := 2) (b := 0) (by decide), nm_rc (a := 2) (b := 1) (by decide), nm_rc (a := 4) (b := 0) (by decide), nm_rc (a := 4) (b := 1) (by decide), nm_rc (a := 4) (b := 2) (by decide), nl_0, nl_1, nl_2, nl_3, nl_4, nl_5, nl_16, nl_32, nl_48, nl_240, nl_256, no_1, no_1024, pk_mul, nI_add, nm_ck, nI_clamp, nI_ltI, nI_leI, nI_eq, nb_b2, nb_b1, ↓nb_let, nm_z0, nm_z1, nb_II, nb_IR, nb_RI, nb_RR, nm_IL, nm_IQ, nm_RL, nm_RQ, nm_LI, nm_LR, nm_LL, nm_LQ, nm_QI, nm_QR, nm_QL, nm_QQ, nm_rr, nm_ii, nm_eqm, not_false_eq_true, pk_sub, nm_div, nm_shl, nm_shr, nm_ush, nm_or8, nm_or64, nm_or256, nm_m1, nm_m3, nm_m7, nm_m15, nm_m31, nm_m63, nm_m255, nm_m511, nm_m1023, nm_m2047, nm_m65535, Nat.reduceMod, Nat.reducePow, Nat.reduceAdd, Nat.reduceSub, Nat.reduceMul, nm_bo, nm_bi, nm_rc, nm_ic, nm_ri, nm_rl, nm_rq, nm_ql, nm_qi, nm_li, nm_us, nm_uu, nm_cp, nm_sa31, nm_sa7, nm_m127, nm_m2, nm_nz, nm_nzk, nm_eq32, nm_nzf, if_true, if_false, ↓reduceIte, if_pos, if_neg]
      · have k2 : k ≤ 2 := by omega
        have t8 := ht8 k2
        have v1 : t * 4 + k < 32 := by omega
        have v2 : t * 4 + k < 2 ^ 31 := by omega
        have ex : sR D 2 (t * 4 + k) = nI x := by
          rcases ex with ex | ex
          · exact absurd ex k4
          · exact ex
        rw [if_pos k2, if_neg k3, ← dU_123]
        simp (disch := (first | assumption | decide | omega)) only [df_X10_close_74, df_X10_close_0, df_X10_close, df_X10_openingOf_27, df_X10_openingOf_10, df_X10_openingOf_0, df_X10_openingOf, df_X10_of_0, df_X10_of, df_X10_hold_41, df_X10_hold_0, df_X10_hold, d0, d16, el, em, o0, e1, ec, Nat.add_zero, n0, n2, k3, k4, ex, ax, eq_self, Nat.reduceEqDiff, Nat.reduceLeDiff, nm_rc (a := 1) (b := 0) (by decide), nm_rc (a := 2) (b := 0) (by decide), nm_rc (a := 2) (b := 1) (by decide), nm_rc (a := 4) (b := 0) (by decide), nm_rc (a := 4) (b := 1) (by decide), nm_rc (a := 4) (b := 2) (by decide), nl_0, nl_1, nl_2, nl_3, nl_4, nl_5, nl_16, nl_32, nl_48, nl_240, nl_256, no_1, no_1024, pk_mul, nI_add, nm_ck, nI_clamp, nI_ltI, nI_leI, nI_eq, nb_b2, nb_b1, ↓nb_let, nm_z0, nm_z1, nb_II, nb_IR, nb_RI, nb_RR, nm_IL, nm_IQ, nm_RL, nm_RQ, nm_LI, nm_LR, nm_LL, nm_LQ, nm_QI, nm_QR, nm_QL, nm_QQ, nm_rr, nm_ii, nm_eqm, not_false_eq_true, pk_sub, nm_div, nm_shl, nm_shr, nm_ush, nm_or8, nm_or64, nm_or256, nm_m1, nm_m3, nm_m7, nm_m15, nm_m31, nm_m63, nm_m255, nm_m511, nm_m1023, nm_m2047, nm_m65535, Nat.reduceMod, Nat.reducePow, Nat.reduceAdd, Nat.reduceSub, Nat.reduceMul, nm_bo, nm_bi, nm_rc, nm_ic, nm_ri, nm_rl, nm_rq, nm_ql, nm_qi, nm_li, nm_us, nm_uu, nm_cp, nm_sa31, nm_sa7, nm_m127, nm_m2, nm_nz, nm_nzk, nm_eq32, nm_nzf, if_true, if_false, ↓reduceIte, if_pos, if_neg]
  · rw [if_neg c1, ← dU_12]
    have cz : ¬ c - 1 = 0 := by omega
    simp (disch := (first | assumption | decide | omega)) only [df_X10_close_74, df_X10_close_0, df_X10_close, df_X10_openingOf_27, df_X10_openingOf_10, df_X10_openingOf_0, df_X10_openingOf, df_X10_of_0, df_X10_of, df_X10_hold_41, df_X10_hold_0, df_X10_hold, d0, d16, el, em, o0, e1, ec, n1, cz, eq_self, Nat.reduceEqDiff, Nat.reduceLeDiff, nl_0, nl_1, nl_2, nl_3, nl_4, nl_5, nl_16, nl_32, nl_48, nl_240, nl_256, no_1, no_1024, pk_mul, nI_add, nm_ck, nI_clamp, nI_ltI, nI_leI, nI_eq, nb_b2, nb_b1, ↓nb_let, nm_z0, nm_z1, nb_II, nb_IR, nb_RI, nb_RR, nm_IL, nm_IQ, nm_RL, nm_RQ, nm_LI, nm_LR, nm_LL, nm_LQ, nm_QI, nm_QR, nm_QL, nm_QQ, nm_rr, nm_ii, nm_eqm, not_false_eq_true, pk_sub, nm_div, nm_shl, nm_shr, nm_ush, nm_or8, nm_or64, nm_or256, nm_m1, nm_m3, nm_m7, nm_m15, nm_m31, nm_m63, nm_m255, nm_m511, nm_m1023, nm_m2047, nm_m65535, Nat.reduceMod, Nat.reducePow, Nat.reduceAdd, Nat.reduceSub, Nat.reduceMul, nm_bo, nm_bi, nm_rc, nm_ic, nm_ri, nm_rl, nm_rq, nm_ql, nm_qi, nm_li, nm_us, nm_uu, nm_cp, nm_sa31, nm_sa7, nm_m127, nm_m2, nm_nz, nm_nzk, nm_eq32, nm_nzf, if_true, if_false, ↓reduceIte, if_pos, if_neg]
