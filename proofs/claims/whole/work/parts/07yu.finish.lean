/-- a process's k lowest descriptors are closed: the class's rows fit what the reference sweeps once -/
def rC (D : St) (de kd th po rt ip isf nam : Nat → Int32) (p k : Nat) (l op pi fi : Nat → Int32) : Prop := kpL (sR D 2) (sR D 4) pi fi ∧ rD l op pi fi (fl de (p * 16) k (-nI 1)) (pcw (gk (fl de (p * 16) k (-nI 1)) kd) kd 48) th po rt (pcw (gp (pcw (gk (fl de (p * 16) k (-nI 1)) kd) kd 48) th ip) ip 8) (pcw (gf (pcw (gk (fl de (p * 16) k (-nI 1)) kd) kd 48) th isf nam) isf 16) nam
theorem rC_s (n : Nat) {D : St} {de kd th po rt ip isf nam : Nat → Int32} (h : rD (sR D 0) (sR D 1) (sR D 2) (sR D 4) de kd th po rt ip isf nam) {p k : Nat} (hp : p < 16) (hk : k < 16) {l op pi fi : Nat → Int32} (hr : rC D de kd th po rt ip isf nam p k l op pi fi) : ∃ l' op' pi' fi' : Nat → Int32, df_X10_close n (nI p) (nI k) (dU D l op pi fi) = some (dU D l' op' pi' fi') ∧ rC D de kd th po rt ip isf nam p (k + 1) l' op' pi' fi' := by
  unfold rC at hr ⊢
  obtain ⟨l', op', pi', fi', e1, e3, e2⟩ := nk_close n (D := dU D l op pi fi) hr.2 hp hk
  rw [dU_dU] at e1
  rw [fl_s] at e2
  exact ⟨l', op', pi', fi', e1, kpL_t hr.1 e3, sw_eq h e2 (fun o ho => by
    obtain ⟨kk, hkk, e⟩ := rD_k h ho
    rw [pcw_y _ _ ho, pcw_y _ _ ho]
    exact gk_gk (by omega) ho hkk e)⟩
theorem rC_0 {D : St} {de kd th po rt ip isf nam : Nat → Int32} (h : rD (sR D 0) (sR D 1) (sR D 2) (sR D 4) de kd th po rt ip isf nam) (p : Nat) : rC D de kd th po rt ip isf nam p 0 (sR D 0) (sR D 1) (sR D 2) (sR D 4) := by
  unfold rC
  rw [fl_0]
  exact ⟨kpL_r _ _, rD_sweep h⟩
/-- the class's 'finish' up to the pages -/
theorem fin_1 (n : Nat) (hn : 1024 < n) {M : St × St} {de kd th po rt ip isf nam : Nat → Int32} (h : rD (sR M.2 0) (sR M.2 1) (sR M.2 2) (sR M.2 4) de kd th po rt ip isf nam) {p : Nat} (hp : p < 16) (cod : Int32) : ∃ l op pi fi : Nat → Int32, rC M.2 de kd th po rt ip isf nam p 16 l op pi fi ∧ df_X6_finish n (nI p) cod M = nd_b1 (df_X6_dropPages n (nI p) (M.1, dU M.2 l op pi fi)) (fun s => df_X6_finish_30 n n (nI p) cod (nI 0) s) := by
  obtain ⟨m, D', ⟨l, op, pi, fi, eD, hr⟩, e⟩ := nm_l1 (S := St) (fun g k D => df_X6_finish_2 n g (nI p) cod (nI k) (M.1, D)) (fun k D => ∃ l op pi fi : Nat → Int32, D = dU M.2 l op pi fi ∧ rC M.2 de kd th po rt ip isf nam p k l op pi fi) 16 n (by omega) (fun k g D hk hI => by
    obtain ⟨l, op, pi, fi, eD, hr⟩ := hI
    subst eD
    obtain ⟨l', op', pi', fi', e1, e2⟩ := rC_s n h hp hk hr
    have k16 : ¬ 16 ≤ k := by omega
    have u3 : k < 2 ^ 31 := by omega
    refine ⟨_, ⟨l', op', pi', fi', rfl, e2⟩, ?_⟩
    rw [show df_X6_finish_2 n (g + 1) = dF_X6_finish_2 n (df_X6_finish_2 n g) from rfl]
    simp (disch := (first | assumption | decide | omega)) only [dF_X6_finish_2, k16, e1, eq_self, Nat.reduceEqDiff, Nat.reduceLeDiff, nl_0, nl_1, nl_16, no_1, no_1024, pk_mul, nI_add, nm_ck, nI_clamp, nI_ltI, nI_leI, nI_eq, nb_b2, nb_b1, ↓nb_let, nm_z0, nm_z1, nb_II, nb_IR, nb_RI, nb_RR, nm_IL, nm_IQ, nm_RL, nm_RQ, nm_LI, nm_LR, nm_LL, nm_LQ, nm_QI, nm_QR, nm_QL, nm_QQ, nm_rr, nm_ii, nm_eqm, not_false_eq_true, pk_sub, nm_div, nm_shl, nm_shr, nm_ush, nm_or8, nm_or64, nm_or256, nm_m1, nm_m3, nm_m7, nm_m15, nm_m31, nm_m63, nm_m255, nm_m511, nm_m1023, nm_m2047, nm_m65535, Nat.reduceMod, Nat.reducePow, Nat.reduceAdd, Nat.reduceSub, Nat.reduceMul, nm_bo, nm_bi, nm_rc, nm_ic, nm_ri, nm_rl, nm_rq, nm_ql, nm_qi, nm_li, nm_us, nm_uu, nm_cp, nm_sa31, nm_sa7, nm_m127, nm_m2, nm_nz, nm_nzk, nm_eq32, nm_nzf, if_true, if_false, ↓reduceIte, if_pos, if_neg]) M.2 ⟨_, _, _, _, (dU_id M.2).symm, rC_0 h p⟩
  subst eD
  refine ⟨l, op, pi, fi, hr, Eq.trans e ?_⟩
  show df_X6_finish_2 n (m + 1) (nI p) cod (nI 16) _ = _
  rw [show df_X6_finish_2 n (m + 1) = dF_X6_finish_2 n (df_X6_finish_2 n m) from rfl]
  simp (disch := (first | assumption | decide | omega)) only [dF_X6_finish_2, eq_self, Nat.reduceEqDiff, Nat.reduceLeDiff, nl_0, nl_1, nl_16, no_1, no_1024, pk_mul, nI_add, nm_ck, nI_clamp, nI_ltI, nI_leI, nI_eq, nb_b2, nb_b1, ↓nb_let, nm_z0, nm_z1, nb_II, nb_IR, nb_RI, nb_RR, nm_IL, nm_IQ, nm_RL, nm_RQ, nm_LI, nm_LR, nm_LL, nm_LQ, nm_QI, nm_QR, nm_QL, nm_QQ, nm_rr, nm_ii, nm_eqm, not_false_eq_true, pk_sub, nm_div, nm_shl, nm_shr, nm_ush, nm_or8, nm_or64, nm_or256, nm_m1, nm_m3, nm_m7, nm_m15, nm_m31, nm_m63, nm_m255, nm_m511, nm_m1023, nm_m2047, nm_m65535, Nat.reduceMod, Nat.reducePow, Nat.reduceAdd, Nat.reduceSub, Nat.reduceMul, nm_bo, nm_bi, nm_rc, nm_ic, nm_ri, nm_rl, nm_rq, nm_ql, nm_qi, nm_li, nm_us, nm_uu, nm_cp, nm_sa31, nm_sa7, nm_m127, nm_m2, nm_nz, nm_nzk, nm_eq32, nm_nzf, if_true, if_false, ↓reduceIte, if_pos, if_neg]
/-- the reference's 'end' up to the pages -/
theorem end_1 (n : Nat) (hn : 1024 < n) (X : St × St) {p : Nat} (hp : p < 16) (cod : Int32) : df_X16_end n (nI p) cod X = nd_b1 (df_X16_sweep n (pR X.1 14 (fl (sR X.1 14) (p * 16) 16 (-nI 1)), X.2)) (fun s => nd_b1 (df_X16_leaveAll n (nI p) s) (fun s => df_X16_end_37 n n (nI p) cod (nI 0) s)) := by
  obtain ⟨m, hm⟩ := nm_lq (fun m k => df_X16_end_2 n m (nI p) cod (nI k) (pR X.1 14 (fl (sR X.1 14) (p * 16) k (-nI 1)), X.2)) 16 n (by omega) (fun k m hk => by
    have u1 : p * 16 + k < 256 := by omega
    have u2 : p * 16 + k < 2 ^ 31 := by omega
    have u3 : k < 2 ^ 31 := by omega
    have k16 : ¬ 16 ≤ k := by omega
    have ei : 16 * p + k = p * 16 + k := by omega
    have fs := fl_s (sR X.1 14) (p * 16) k (-nI 1)
    rw [show df_X16_end_2 n (m + 1) = dF_X16_end_2 n (df_X16_end_2 n m) from rfl]
    simp (disch := (first | assumption | decide | omega)) only [dF_X16_end_2, k16, ei, fs, eq_self, Nat.reduceEqDiff, Nat.reduceLeDiff, nl_0, nl_1, nl_14, nl_16, nl_256, no_1, no_1024, pk_mul, nI_add, nm_ck, nI_clamp, nI_ltI, nI_leI, nI_eq, nb_b2, nb_b1, ↓nb_let, nm_z0, nm_z1, nb_II, nb_IR, nb_RI, nb_RR, nm_IL, nm_IQ, nm_RL, nm_RQ, nm_LI, nm_LR, nm_LL, nm_LQ, nm_QI, nm_QR, nm_QL, nm_QQ, nm_rr, nm_ii, nm_eqm, not_false_eq_true, pk_sub, nm_div, nm_shl, nm_shr, nm_ush, nm_or8, nm_or64, nm_or256, nm_m1, nm_m3, nm_m7, nm_m15, nm_m31, nm_m63, nm_m255, nm_m511, nm_m1023, nm_m2047, nm_m65535, Nat.reduceMod, Nat.reducePow, Nat.reduceAdd, Nat.reduceSub, Nat.reduceMul, nm_bo, nm_bi, nm_rc, nm_ic, nm_ri, nm_rl, nm_rq, nm_ql, nm_qi, nm_li, nm_us, nm_uu, nm_cp, nm_sa31, nm_sa7, nm_m127, nm_m2, nm_nz, nm_nzk, nm_eq32, nm_nzf, if_true, if_false, ↓reduceIte, if_pos, if_neg])
  rw [fl_0, nm_r0] at hm
  refine Eq.trans hm ?_
  rw [show df_X16_end_2 n (m + 1) = dF_X16_end_2 n (df_X16_end_2 n m) from rfl]
  simp (disch := (first | assumption | decide | omega)) only [dF_X16_end_2, eq_self, Nat.reduceEqDiff, Nat.reduceLeDiff, nl_0, nl_1, nl_14, nl_16, nl_256, no_1, no_1024, pk_mul, nI_add, nm_ck, nI_clamp, nI_ltI, nI_leI, nI_eq, nb_b2, nb_b1, ↓nb_let, nm_z0, nm_z1, nb_II, nb_IR, nb_RI, nb_RR, nm_IL, nm_IQ, nm_RL, nm_RQ, nm_LI, nm_LR, nm_LL, nm_LQ, nm_QI, nm_QR, nm_QL, nm_QQ, nm_rr, nm_ii, nm_eqm, not_false_eq_true, pk_sub, nm_div, nm_shl, nm_shr, nm_ush, nm_or8, nm_or64, nm_or256, nm_m1, nm_m3, nm_m7, nm_m15, nm_m31, nm_m63, nm_m255, nm_m511, nm_m1023, nm_m2047, nm_m65535, Nat.reduceMod, Nat.reducePow, Nat.reduceAdd, Nat.reduceSub, Nat.reduceMul, nm_bo, nm_bi, nm_rc, nm_ic, nm_ri, nm_rl, nm_rq, nm_ql, nm_qi, nm_li, nm_us, nm_uu, nm_cp, nm_sa31, nm_sa7, nm_m127, nm_m2, nm_nz, nm_nzk, nm_eq32, nm_nzf, if_true, if_false, ↓reduceIte, if_pos, if_neg]
