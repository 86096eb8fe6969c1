theorem fk_share (n : Nat) (hn : 1024 < n) {D : St} {de kd th po rt ip isf nam : Nat → Int32} (h : rD (sR D 0) (sR D 1) (sR D 2) (sR D 4) de kd th po rt ip isf nam) {p c : Nat} (hp : p < 16) (hc : c < 16) (hne : p ≠ c) (hd : ∀ d : Nat, d < 16 → de (c * 16 + d) = -nI 1) : ∃ l op : Nat → Int32, df_X10_share n (nI p) (nI c) D = some (dU D l op (sR D 2) (sR D 4)) ∧ rD l op (sR D 2) (sR D 4) (va_cpy de de (p * 16) (c * 16) 16) kd th po rt ip isf nam := by
  obtain ⟨m, D', ⟨l, op, eD, hr⟩, e⟩ := nm_l1 (S := St) (fun g k D => df_X10_share_2 n g (nI p) (nI c) (nI k) D) (fun k D' => ∃ l op : Nat → Int32, D' = dU D l op (sR D 2) (sR D 4) ∧ rD l op (sR D 2) (sR D 4) (va_cpy de de (p * 16) (c * 16) k) kd th po rt ip isf nam) 16 n (by omega) (fun k m s hk ⟨l, op, eD, hr⟩ => by
    subst eD
    have u1 : p * 16 + k < 256 := by omega
    have u2 : p * 16 + k < 2 ^ 31 := by omega
    have u3 : k < 2 ^ 31 := by omega
    have k16 : ¬ 16 ≤ k := by omega
    have k0 : ¬ k < 0 := by omega
    have k16' : k < 16 := hk
    have u4 : c * 16 + k < 256 := by omega
    have vs := vc_s (f := de) (a := p * 16) (b := c * 16) (k := k) (by omega)
    have ck : va_cpy de de (p * 16) (c * 16) k (c * 16 + k) = -nI 1 := by
      rw [va_o (by omega)]; exact hd k hk
    rcases hr.1 (p * 16 + k) u1 with ⟨y1, y2⟩ | ⟨o, ho, y1, y2⟩
    · refine ⟨_, ⟨l, op, rfl, ?_⟩, ?_⟩
      · rw [← vs, y1, ← ck, nm_u0]
        exact hr
      · have y2' : sR (dU D l op (sR D 2) (sR D 4)) 0 (p * 16 + k) = nI 0 := y2
        have z0 : (nI 0 - nI 1 : Int32) = -nI 1 := by decide
        show df_X10_share_2 n (m + 1) _ _ _ _ = df_X10_share_2 n m _ _ (nI (k + 1)) _
        rw [show df_X10_share_2 n (m + 1) = dF_X10_share_2 n (df_X10_share_2 n m) from rfl]
        generalize dU D l op (sR D 2) (sR D 4) = E at y2'
        simp (disch := (first | assumption | decide | omega)) only [dF_X10_share_2, df_X10_share_29, df_X10_openingOf_27, df_X10_openingOf_10, df_X10_openingOf_0, df_X10_openingOf, k16, k0, k16', y2', z0, nm_ltm, eq_self, Nat.reduceEqDiff, Nat.reduceLeDiff, nl_0, nl_1, nl_16, nl_256, no_1, no_1024, pk_mul, nI_add, nm_ck, nI_clamp, nI_ltI, nI_leI, nI_eq, nb_b2, nb_b1, ↓nb_let, nm_z0, nm_z1, nb_II, nb_IR, nb_RI, nb_RR, nm_IL, nm_IQ, nm_RL, nm_RQ, nm_LI, nm_LR, nm_LL, nm_LQ, nm_QI, nm_QR, nm_QL, nm_QQ, nm_rr, nm_ii, nm_eqm, not_false_eq_true, pk_sub, nm_div, nm_shl, nm_shr, nm_ush, nm_or8, nm_or64, nm_or256, nm_m1, nm_m3, nm_m7, nm_m15, nm_m31, nm_m63, nm_m255, nm_m511, nm_m1023, nm_m2047, nm_m65535, Nat.reduceMod, Nat.reducePow, Nat.reduceAdd, Nat.reduceSub, Nat.reduceMul, nm_bo, nm_bi, nm_rc, nm_ic, nm_ri, nm_rl, nm_rq, nm_ql, nm_qi, nm_li, nm_us, nm_uu, nm_cp, nm_sa31, nm_sa7, nm_m127, nm_m2, nm_nz, nm_nzk, nm_eq32, nm_nzf, if_true, if_false, ↓reduceIte, if_pos, if_neg]
    · have kn : ¬ kd o = nI 0 := fun z => by
        have p0 : 0 < cD (va_cpy de de (p * 16) (c * 16) k) o := cN_p (P := fun j => decide (va_cpy de de (p * 16) (c * 16) k j = nI o)) (i := p * 16 + k) (decide_eq_true y1) u1
        rcases hr.2.1 o ho with ⟨z1, z2, z3⟩ | ⟨k, t, w1, w2, w3, w4, _⟩
        · omega
        · have := nm_inI (by omega) (by omega) (w4.symm.trans z)
          omega
      have lk := rD_link hr u4 ho ck kn
      have cl := cD_le (va_cpy de de (p * 16) (c * 16) k) o
      have lt := nk_linkTo n (D := dU D l op (sR D 2) (sR D 4)) hc hk ho (c := cD (va_cpy de de (p * 16) (c * 16) k) o) (by omega) (rD_c hr ho kn)
      rw [dU_dU] at lt
      have lt : df_X10_linkTo n (nI c) (nI k) (nI o) (dU D l op (sR D 2) (sR D 4)) = some (dU D (upd l (c * 16 + k) (nI (o + 1))) (upd op (o * 5 + 1) (nI (cD (va_cpy de de (p * 16) (c * 16) k) o + 1))) (sR D 2) (sR D 4)) := lt
      refine ⟨_, ⟨upd l (c * 16 + k) (nI (o + 1)), upd op (o * 5 + 1) (nI (cD (va_cpy de de (p * 16) (c * 16) k) o + 1)), rfl, ?_⟩, ?_⟩
      · rw [← vs, y1]
        exact lk
      · have y2' : sR (dU D l op (sR D 2) (sR D 4)) 0 (p * 16 + k) = nI (o + 1) := y2
        have o0 : ¬ o < 0 := by omega
        have o1 : o < 2 ^ 31 := by omega
        have o2 : o + 1 < 2 ^ 31 := by omega
        show df_X10_share_2 n (m + 1) _ _ _ _ = df_X10_share_2 n m _ _ (nI (k + 1)) _
        rw [show df_X10_share_2 n (m + 1) = dF_X10_share_2 n (df_X10_share_2 n m) from rfl]
        generalize dU D l op (sR D 2) (sR D 4) = E at y2' lt
        simp (disch := (first | assumption | decide | omega)) only [dF_X10_share_2, df_X10_share_29, df_X10_openingOf_27, df_X10_openingOf_10, df_X10_openingOf_0, df_X10_openingOf, k16, k0, k16', y2', Nat.add_sub_cancel, o0, lt, eq_self, Nat.reduceEqDiff, Nat.reduceLeDiff, nl_0, nl_1, nl_16, nl_256, no_1, no_1024, pk_mul, nI_add, nm_ck, nI_clamp, nI_ltI, nI_leI, nI_eq, nb_b2, nb_b1, ↓nb_let, nm_z0, nm_z1, nb_II, nb_IR, nb_RI, nb_RR, nm_IL, nm_IQ, nm_RL, nm_RQ, nm_LI, nm_LR, nm_LL, nm_LQ, nm_QI, nm_QR, nm_QL, nm_QQ, nm_rr, nm_ii, nm_eqm, not_false_eq_true, pk_sub, nm_div, nm_shl, nm_shr, nm_ush, nm_or8, nm_or64, nm_or256, nm_m1, nm_m3, nm_m7, nm_m15, nm_m31, nm_m63, nm_m255, nm_m511, nm_m1023, nm_m2047, nm_m65535, Nat.reduceMod, Nat.reducePow, Nat.reduceAdd, Nat.reduceSub, Nat.reduceMul, nm_bo, nm_bi, nm_rc, nm_ic, nm_ri, nm_rl, nm_rq, nm_ql, nm_qi, nm_li, nm_us, nm_uu, nm_cp, nm_sa31, nm_sa7, nm_m127, nm_m2, nm_nz, nm_nzk, nm_eq32, nm_nzf, if_true, if_false, ↓reduceIte, if_pos, if_neg]) D ⟨sR D 0, sR D 1, (dU_id D).symm, by rw [vc_0]; exact h⟩
  subst eD
  refine ⟨l, op, Eq.trans e ?_, hr⟩
  show df_X10_share_2 n (m + 1) _ _ (nI 16) _ = _
  rw [show df_X10_share_2 n (m + 1) = dF_X10_share_2 n (df_X10_share_2 n m) from rfl]
  simp (disch := (first | assumption | decide | omega)) only [dF_X10_share_2, eq_self, Nat.reduceEqDiff, Nat.reduceLeDiff, nl_0, nl_16, no_1, no_1024, pk_mul, nI_add, nm_ck, nI_clamp, nI_ltI, nI_leI, nI_eq, nb_b2, nb_b1, ↓nb_let, nm_z0, nm_z1, nb_II, nb_IR, nb_RI, nb_RR, nm_IL, nm_IQ, nm_RL, nm_RQ, nm_LI, nm_LR, nm_LL, nm_LQ, nm_QI, nm_QR, nm_QL, nm_QQ, nm_rr, nm_ii, nm_eqm, not_false_eq_true, pk_sub, nm_div, nm_shl, nm_shr, nm_ush, nm_or8, nm_or64, nm_or256, nm_m1, nm_m3, nm_m7, nm_m15, nm_m31, nm_m63, nm_m255, nm_m511, nm_m1023, nm_m2047, nm_m65535, Nat.reduceMod, Nat.reducePow, Nat.reduceAdd, Nat.reduceSub, Nat.reduceMul, nm_bo, nm_bi, nm_rc, nm_ic, nm_ri, nm_rl, nm_rq, nm_ql, nm_qi, nm_li, nm_us, nm_uu, nm_cp, nm_sa31, nm_sa7, nm_m127, nm_m2, nm_nz, nm_nzk, nm_eq32, nm_nzf, if_true, if_false, ↓reduceIte, if_pos, if_neg]
/-- the class's fork, up to the pages -/
theorem fk_0 (n : Nat) (hn : 1024 < n) (M : St × St) {p c : Nat} (hp : p < 16) (hc : c < 16) : df_X6_fork n (nI p) (nI c) M = df_X6_fork_91 n n (nI p) (nI c) (nI 0) (pR (pR (pR (pR (pR M.1 2 (va_cpy (sR M.1 2) (sR M.1 2) (64 * p) (64 * c) 64)) 3 (va_cpy (sR M.1 3) (sR M.1 3) (p * 33) (c * 33) 33)) 4 (va_cpy (sR M.1 4) (sR M.1 4) (p * 33) (c * 33) 33)) 5 (va_cpy (sR M.1 5) (sR M.1 5) (p * 16) (c * 16) 16)) 6 (ab (sR M.1 6) c 7), M.2) := by
  have mk := nk_makeAbsent n hn M hc
  have u1 : p * 33 + 33 ≤ 528 := by omega
  have u2 : c * 33 + 33 ≤ 528 := by omega
  have u3 : p * 16 + 16 ≤ 256 := by omega
  have u4 : c * 16 + 16 ≤ 256 := by omega
  have u5 : 64 * p + 64 ≤ 1024 := by omega
  have u6 : 64 * c + 64 ≤ 1024 := by omega
  have u7 : p * 2 ^ 6 = 64 * p := by omega
  have u8 : c * 2 ^ 6 = 64 * c := by omega
  have u9 : p * 64 = 64 * p := by omega
  have u10 : c * 64 = 64 * c := by omega
  simp (disch := (first | assumption | decide | omega)) only [df_X6_fork, df_X6_fork_0, mk, u7, u8, u9, u10, eq_self, Nat.reduceEqDiff, Nat.reduceLeDiff, nm_rc (a := 3) (b := 2) (by decide), nm_rc (a := 4) (b := 2) (by decide), nm_rc (a := 4) (b := 3) (by decide), nm_rc (a := 5) (b := 2) (by decide), nm_rc (a := 5) (b := 3) (by decide), nm_rc (a := 5) (b := 4) (by decide), nm_rc (a := 6) (b := 2) (by decide), nm_rc (a := 6) (b := 3) (by decide), nm_rc (a := 6) (b := 4) (by decide), nm_rc (a := 6) (b := 5) (by decide), nl_0, nl_2, nl_3, nl_4, nl_5, nl_6, nl_16, nl_31, nl_33, nl_64, nl_256, nl_528, nl_1024, no_1, no_1024, pk_mul, nI_add, nm_ck, nI_clamp, nI_ltI, nI_leI, nI_eq, nb_b2, nb_b1, ↓nb_let, nm_z0, nm_z1, nb_II, nb_IR, nb_RI, nb_RR, nm_IL, nm_IQ, nm_RL, nm_RQ, nm_LI, nm_LR, nm_LL, nm_LQ, nm_QI, nm_QR, nm_QL, nm_QQ, nm_rr, nm_ii, nm_eqm, not_false_eq_true, pk_sub, nm_div, nm_shl, nm_shr, nm_ush, nm_or8, nm_or64, nm_or256, nm_m1, nm_m3, nm_m7, nm_m15, nm_m31, nm_m63, nm_m255, nm_m511, nm_m1023, nm_m2047, nm_m65535, Nat.reduceMod, Nat.reducePow, Nat.reduceAdd, Nat.reduceSub, Nat.reduceMul, nm_bo, nm_bi, nm_rc, nm_ic, nm_ri, nm_rl, nm_rq, nm_ql, nm_qi, nm_li, nm_us, nm_uu, nm_cp, nm_sa31, nm_sa7, nm_m127, nm_m2, nm_nz, nm_nzk, nm_eq32, nm_nzf, if_true, if_false, ↓reduceIte, if_pos, if_neg]
theorem fk_1 (n : Nat) {S : St × St} {p c w b e : Nat} (hp : p < 16) (hc : c < 16) (g : Int32 → Int32 → Int32 → St × St → Option (St × St)) (e4 : sR S.1 6 (p * 7 + 4) = nI w) (e5 : sR S.1 6 (p * 7 + 5) = nI b) (e6 : sR S.1 6 (p * 7 + 6) = nI e) (hne : p ≠ c) : dF_X6_fork_91 n g (nI p) (nI c) (nI 64) S = some (pQ (pR (pR S.1 3 (upd (upd (sR S.1 3) (c * 33 + 10) (nI 0)) (c * 33 + 32) (sR S.1 3 (c * 33 + 32) + nI 4))) 6 (upd (upd (upd (upd (upd (sR S.1 6) (c * 7) (nI 1)) (c * 7 + 1) (nI p)) (c * 7 + 4) (nI w)) (c * 7 + 5) (nI b)) (c * 7 + 6) (nI e))) 0 (vp_updL (sQ S.1 0) c (-1)), S.2) := by
  have u1 : c * 7 < 112 := by omega
  have u2 : c * 7 + 1 < 112 := by omega
  have u3 : c * 7 + 4 < 112 := by omega
  have u4 : c * 7 + 5 < 112 := by omega
  have u5 : c * 7 + 6 < 112 := by omega
  have u6 : p * 7 + 4 < 112 := by omega
  have u7 : p * 7 + 5 < 112 := by omega
  have u8 : p * 7 + 6 < 112 := by omega
  have u9 : c * 33 + 10 < 528 := by omega
  have u10 : c * 33 + 32 < 528 := by omega
  have u11 : c < 2 ^ 31 := by omega
  have r4 : upd (upd (sR S.1 6) (c * 7) (nI 1)) (c * 7 + 1) (nI p) (p * 7 + 4) = nI w := by rw [nm_un (by omega), nm_un (by omega)]; exact e4
  have r5 : upd (upd (upd (sR S.1 6) (c * 7) (nI 1)) (c * 7 + 1) (nI p)) (c * 7 + 4) (nI w) (p * 7 + 5) = nI b := by rw [nm_un (by omega), nm_un (by omega), nm_un (by omega)]; exact e5
  have r6 : upd (upd (upd (upd (sR S.1 6) (c * 7) (nI 1)) (c * 7 + 1) (nI p)) (c * 7 + 4) (nI w)) (c * 7 + 5) (nI b) (p * 7 + 6) = nI e := by rw [nm_un (by omega), nm_un (by omega), nm_un (by omega), nm_un (by omega)]; exact e6
  have r32 : upd (sR S.1 3) (c * 33 + 10) (nI 0) (c * 33 + 32) = sR S.1 3 (c * 33 + 32) := nm_un (by omega)
  simp (disch := (first | assumption | decide | omega)) only [dF_X6_fork_91, Nat.add_zero, r4, r5, r6, r32, eq_self, Nat.reduceEqDiff, Nat.reduceLeDiff, nm_rc (a := 6) (b := 3) (by decide), nl_0, nl_1, nl_2, nl_3, nl_4, nl_5, nl_6, nl_7, nl_10, nl_16, nl_31, nl_32, nl_33, nl_64, nl_112, nl_256, nl_528, nl_1024, no_1, no_1024, pk_mul, nI_add, nm_ck, nI_clamp, nI_ltI, nI_leI, nI_eq, nb_b2, nb_b1, ↓nb_let, nm_z0, nm_z1, nb_II, nb_IR, nb_RI, nb_RR, nm_IL, nm_IQ, nm_RL, nm_RQ, nm_LI, nm_LR, nm_LL, nm_LQ, nm_QI, nm_QR, nm_QL, nm_QQ, nm_rr, nm_ii, nm_eqm, not_false_eq_true, pk_sub, nm_div, nm_shl, nm_shr, nm_ush, nm_or8, nm_or64, nm_or256, nm_m1, nm_m3, nm_m7, nm_m15, nm_m31, nm_m63, nm_m255, nm_m511, nm_m1023, nm_m2047, nm_m65535, Nat.reduceMod, Nat.reducePow, Nat.reduceAdd, Nat.reduceSub, Nat.reduceMul, nm_bo, nm_bi, nm_rc, nm_ic, nm_ri, nm_rl, nm_rq, nm_ql, nm_qi, nm_li, nm_us, nm_uu, nm_cp, nm_sa31, nm_sa7, nm_m127, nm_m2, nm_nz, nm_nzk, nm_eq32, nm_nzf, if_true, if_false, ↓reduceIte, if_pos, if_neg]
/-- the child in both -/
theorem rP1_child {M X : St × St} {p c w b e : Nat} (hc : c < 16) (hp : p < 16) (hne : p ≠ c) (hw : w < 2) (hb : b ≤ 61440) (he : e ≤ 61440) (s0 : sR M.1 6 (c * 7) = nI 1) (s1 : sR M.1 6 (c * 7 + 1) = nI p) (s2 : sR M.1 6 (c * 7 + 2) = nI 0) (s3 : sR M.1 6 (c * 7 + 3) = nI 0) (s4 : sR M.1 6 (c * 7 + 4) = nI w) (s5 : sR M.1 6 (c * 7 + 5) = nI b) (s6 : sR M.1 6 (c * 7 + 6) = nI e) (x1 : sR X.1 1 c = nI 1) (x2 : sR X.1 2 c = nI p) (x4 : sR X.1 4 c = nI 0) (x8 : sR X.1 8 c = nI w) (x5 : sR X.1 5 c = nI b) (x6 : sR X.1 6 c = nI e) (x7 : sR X.1 7 c = -nI 1) (hf : ∀ k : Nat, k < 60 → e ≤ k * 1024 → sR X.1 16 (64 * c + k) = -nI 1) (hr : ∀ r : Nat, r < 32 → sR M.1 3 (c * 33 + r) = sR X.1 9 (32 * c + r)) (hpl : sR M.1 3 (c * 33 + 32) = sR X.1 10 c) (hh : ∀ k : Nat, k < 16 → sR M.1 5 (c * 16 + k) = sR X.1 13 (16 * c + k)) (hq : sQ M.1 0 c = sQ X.1 0 c) (hs : w = 1 → (∀ r : Nat, r < 32 → sR M.1 4 (c * 33 + r) = sR X.1 11 (32 * c + r)) ∧ sR M.1 4 (c * 33 + 32) = sR X.1 12 c) : rP1 M X c := by
  refine ⟨1, 0, w, b, e, by omega, by omega, hw, hb, he, s0, x1, s1.trans x2.symm, Or.inr ⟨p, hp, x2⟩, ?_, fun z => by omega, fun _ => s2, s3, x4, s4, x8, s5, x5, s6, x6, hf, fun _ => ⟨hr, hpl⟩, fun _ => ⟨hh, hq, hs⟩, fun z => by omega, fun z => by omega, fun _ => x7⟩
  rw [x2]
  exact fun z => hne (nm_inI (by omega) (by omega) z)
