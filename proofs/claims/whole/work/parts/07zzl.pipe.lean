/-- how many are there, from the first and the second -/
theorem c2_fN (P : Nat → Bool) {N : Nat} : 2 ≤ cN P N ↔ fN P 0 N < N ∧ fN P (fN P 0 N + 1) (N - (fN P 0 N + 1)) < N := by
  obtain ⟨_, x2, x3, x4⟩ := fN_le P N 0
  generalize fN P 0 N = a at x2 x3 x4
  by_cases c : a < N
  · have pa := x3 (by omega)
    obtain ⟨y1, y2, y3, y4⟩ := fN_le P (N - (a + 1)) (a + 1)
    generalize fN P (a + 1) (N - (a + 1)) = b at y1 y2 y3 y4
    have u := cN_u (P := P) (Q := fun i => if i = a then false else P i) (j := a) (fun i hi => (if_neg hi).symm) c
    rw [pa, if_pos rfl] at u
    have u : cN (fun i => if i = a then false else P i) N + 1 = cN P N + 0 := u
    by_cases d : b < N
    · have z := cN_p (P := fun i => if i = a then false else P i) (i := b) (by
        show (if b = a then false else P b) = true
        rw [if_neg (by omega)]
        exact y3 (by omega)) d
      exact ⟨fun _ => ⟨c, d⟩, fun _ => by omega⟩
    · have z := cN_0 (P := fun i => if i = a then false else P i) (N := N) (fun i hi => by
        show (if i = a then false else P i) = false
        by_cases e : i = a
        · rw [if_pos e]
        · rw [if_neg e]
          by_cases f : i < a
          · exact x4 i (by omega) f
          · exact y4 i (by omega) (by omega))
      exact ⟨fun _ => by omega, fun w => absurd w.2 d⟩
  · have z := cN_0 (P := P) (N := N) (fun i hi => x4 i (by omega) (by omega))
    exact ⟨fun _ => by omega, fun w => absurd w.1 c⟩
/-- the second, once the first is taken -/
theorem fN_nx {P Q : Nat → Bool} {N a b : Nat} (ea : fN P 0 N = a) (ha : a < N) (eb : fN P (a + 1) (N - (a + 1)) = b) (hb : b < N) (hq : ∀ i : Nat, i < N → i ≠ a → Q i = P i) (qa : Q a = false) : fN Q 0 N = b := by
  obtain ⟨_, x2, x3, x4⟩ := fN_le P N 0
  obtain ⟨y1, y2, y3, y4⟩ := fN_le P (N - (a + 1)) (a + 1)
  rw [ea] at x2 x3 x4
  rw [eb] at y1 y2 y3 y4
  refine fN_is (by omega) (by omega) ?_ (fun i _ hi => ?_)
  · rw [hq b hb (by omega)]
    exact y3 (by omega)
  · by_cases e : i = a
    · rw [e]; exact qa
    · rw [hq i (by omega) e]
      by_cases f : i < a
      · exact x4 i (by omega) f
      · exact y4 i (by omega) hi
theorem cN_not (P : Nat → Bool) : ∀ N : Nat, cN (fun i => !P i) N + cN P N = N
  | 0 => rfl
  | N + 1 => by
    have ih := cN_not P N
    rw [cN_s, cN_s]
    cases P N
    · show cN (fun i => !P i) N + 1 + (cN P N + 0) = N + 1
      omega
    · show cN (fun i => !P i) N + 0 + (cN P N + 1) = N + 1
      omega
theorem nk_freeDescriptors (n : Nat) (hn : 1024 < n) {X : St × St} {p : Nat} (hp : p < 16) (h3 : sI X.1 12 = nI p) : df_X16_freeDescriptors n X = some (nI (cN (fd X p) 16), X) := by
  obtain ⟨m, hm⟩ := nm_lq (fun m k => df_X16_freeDescriptors_4 n m (nI (cN (fd X p) k)) (nI k) X) 16 n (by omega) (fun k m hk => by
    have u1 : p * 16 + k < 256 := by omega
    have u2 : p * 16 + k < 2 ^ 31 := by omega
    have u3 : k < 2 ^ 31 := by omega
    have u4 : 16 * p + k = p * 16 + k := by omega
    have k16 : ¬ 16 ≤ k := by omega
    rw [show df_X16_freeDescriptors_4 n (m + 1) = dF_X16_freeDescriptors_4 n (df_X16_freeDescriptors_4 n m) from rfl, cN_s]
    generalize df_X16_freeDescriptors_4 n m = G
    generalize cN (fd X p) k = y
    unfold fd
    by_cases c : sR X.1 14 (p * 16 + k) = -nI 1
    · rw [nm_dt c]
      simp (disch := (first | assumption | decide | omega)) only [dF_X16_freeDescriptors_4, df_X16_freeDescriptors_35, k16, h3, u4, c, eq_self, Nat.reduceEqDiff, Nat.reduceLeDiff, nl_1, nl_12, nl_14, nl_16, nl_256, no_1, no_1024, pk_mul, nI_add, nm_ck, nI_clamp, nI_ltI, nI_leI, nI_eq, nb_b2, nb_b1, ↓nb_let, nm_z0, nm_z1, nb_II, nb_IR, nb_RI, nb_RR, nm_IL, nm_IQ, nm_RL, nm_RQ, nm_LI, nm_LR, nm_LL, nm_LQ, nm_QI, nm_QR, nm_QL, nm_QQ, nm_rr, nm_ii, nm_eqm, not_false_eq_true, pk_sub, nm_div, nm_shl, nm_shr, nm_ush, nm_or8, nm_or64, nm_or256, nm_m1, nm_m3, nm_m7, nm_m15, nm_m31, nm_m63, nm_m255, nm_m511, nm_m1023, nm_m2047, nm_m65535, Nat.reduceMod, Nat.reducePow, Nat.reduceAdd, Nat.reduceSub, Nat.reduceMul, nm_bo, nm_bi, nm_rc, nm_ic, nm_ri, nm_rl, nm_rq, nm_ql, nm_qi, nm_li, nm_us, nm_uu, nm_cp, nm_sa31, nm_sa7, nm_m127, nm_m2, nm_nz, nm_nzk, nm_eq32, nm_nzf, if_true, if_false, ↓reduceIte, if_pos, if_neg]
    · rw [nm_df c]
      simp (disch := (first | assumption | decide | omega)) only [dF_X16_freeDescriptors_4, df_X16_freeDescriptors_35, k16, h3, u4, c, Nat.add_zero, eq_self, Nat.reduceEqDiff, Nat.reduceLeDiff, nl_1, nl_12, nl_14, nl_16, nl_256, no_1, no_1024, pk_mul, nI_add, nm_ck, nI_clamp, nI_ltI, nI_leI, nI_eq, nb_b2, nb_b1, ↓nb_let, nm_z0, nm_z1, nb_II, nb_IR, nb_RI, nb_RR, nm_IL, nm_IQ, nm_RL, nm_RQ, nm_LI, nm_LR, nm_LL, nm_LQ, nm_QI, nm_QR, nm_QL, nm_QQ, nm_rr, nm_ii, nm_eqm, not_false_eq_true, pk_sub, nm_div, nm_shl, nm_shr, nm_ush, nm_or8, nm_or64, nm_or256, nm_m1, nm_m3, nm_m7, nm_m15, nm_m31, nm_m63, nm_m255, nm_m511, nm_m1023, nm_m2047, nm_m65535, Nat.reduceMod, Nat.reducePow, Nat.reduceAdd, Nat.reduceSub, Nat.reduceMul, nm_bo, nm_bi, nm_rc, nm_ic, nm_ri, nm_rl, nm_rq, nm_ql, nm_qi, nm_li, nm_us, nm_uu, nm_cp, nm_sa31, nm_sa7, nm_m127, nm_m2, nm_nz, nm_nzk, nm_eq32, nm_nzf, if_true, if_false, ↓reduceIte, if_pos, if_neg])
  refine Eq.trans (b := df_X16_freeDescriptors_4 n n (nI 0) (nI 0) X) rfl (Eq.trans hm ?_)
  show df_X16_freeDescriptors_4 n (m + 1) _ (nI 16) X = _
  rw [show df_X16_freeDescriptors_4 n (m + 1) = dF_X16_freeDescriptors_4 n (df_X16_freeDescriptors_4 n m) from rfl]
  generalize df_X16_freeDescriptors_4 n m = G
  generalize cN (fd X p) 16 = y
  simp (disch := (first | assumption | decide | omega)) only [dF_X16_freeDescriptors_4, eq_self, Nat.reduceEqDiff, Nat.reduceLeDiff, nl_1, nl_12, nl_14, nl_16, nl_256, no_1, no_1024, pk_mul, nI_add, nm_ck, nI_clamp, nI_ltI, nI_leI, nI_eq, nb_b2, nb_b1, ↓nb_let, nm_z0, nm_z1, nb_II, nb_IR, nb_RI, nb_RR, nm_IL, nm_IQ, nm_RL, nm_RQ, nm_LI, nm_LR, nm_LL, nm_LQ, nm_QI, nm_QR, nm_QL, nm_QQ, nm_rr, nm_ii, nm_eqm, not_false_eq_true, pk_sub, nm_div, nm_shl, nm_shr, nm_ush, nm_or8, nm_or64, nm_or256, nm_m1, nm_m3, nm_m7, nm_m15, nm_m31, nm_m63, nm_m255, nm_m511, nm_m1023, nm_m2047, nm_m65535, Nat.reduceMod, Nat.reducePow, Nat.reduceAdd, Nat.reduceSub, Nat.reduceMul, nm_bo, nm_bi, nm_rc, nm_ic, nm_ri, nm_rl, nm_rq, nm_ql, nm_qi, nm_li, nm_us, nm_uu, nm_cp, nm_sa31, nm_sa7, nm_m127, nm_m2, nm_nz, nm_nzk, nm_eq32, nm_nzf, if_true, if_false, ↓reduceIte, if_pos, if_neg]
/-- which openings are free -/
def fop (X : St × St) (o : Nat) : Bool := decide (sR X.1 19 o ≤ nI 0)
theorem nk_openings (n : Nat) (hn : 1024 < n) {X : St × St} : df_X16_openings n X = some (nI (cN (fun o => !fop X o) 48), X) := by
  obtain ⟨m, hm⟩ := nm_lq (fun m k => df_X16_openings_4 n m (nI (cN (fun o => !fop X o) k)) (nI k) X) 48 n (by omega) (fun k m hk => by
    have u3 : k < 2 ^ 31 := by omega
    have k16 : ¬ 48 ≤ k := by omega
    rw [show df_X16_openings_4 n (m + 1) = dF_X16_openings_4 n (df_X16_openings_4 n m) from rfl, cN_s]
    generalize df_X16_openings_4 n m = G
    generalize cN (fun o => !fop X o) k = y
    unfold fop
    by_cases c : sR X.1 19 k ≤ nI 0
    · rw [decide_eq_true c]
      show _ = G (nI (y + 0)) (nI (k + 1)) X
      simp (disch := (first | assumption | decide | omega)) only [dF_X16_openings_4, df_X16_openings_26, k16, c, Nat.add_zero, eq_self, Nat.reduceEqDiff, Nat.reduceLeDiff, nl_0, nl_1, nl_19, nl_48, no_1, no_1024, pk_mul, nI_add, nm_ck, nI_clamp, nI_ltI, nI_leI, nI_eq, nb_b2, nb_b1, ↓nb_let, nm_z0, nm_z1, nb_II, nb_IR, nb_RI, nb_RR, nm_IL, nm_IQ, nm_RL, nm_RQ, nm_LI, nm_LR, nm_LL, nm_LQ, nm_QI, nm_QR, nm_QL, nm_QQ, nm_rr, nm_ii, nm_eqm, not_false_eq_true, pk_sub, nm_div, nm_shl, nm_shr, nm_ush, nm_or8, nm_or64, nm_or256, nm_m1, nm_m3, nm_m7, nm_m15, nm_m31, nm_m63, nm_m255, nm_m511, nm_m1023, nm_m2047, nm_m65535, Nat.reduceMod, Nat.reducePow, Nat.reduceAdd, Nat.reduceSub, Nat.reduceMul, nm_bo, nm_bi, nm_rc, nm_ic, nm_ri, nm_rl, nm_rq, nm_ql, nm_qi, nm_li, nm_us, nm_uu, nm_cp, nm_sa31, nm_sa7, nm_m127, nm_m2, nm_nz, nm_nzk, nm_eq32, nm_nzf, if_true, if_false, ↓reduceIte, if_pos, if_neg]
    · rw [decide_eq_false c]
      show _ = G (nI (y + 1)) (nI (k + 1)) X
      simp (disch := (first | assumption | decide | omega)) only [dF_X16_openings_4, df_X16_openings_26, k16, c, eq_self, Nat.reduceEqDiff, Nat.reduceLeDiff, nl_0, nl_1, nl_19, nl_48, no_1, no_1024, pk_mul, nI_add, nm_ck, nI_clamp, nI_ltI, nI_leI, nI_eq, nb_b2, nb_b1, ↓nb_let, nm_z0, nm_z1, nb_II, nb_IR, nb_RI, nb_RR, nm_IL, nm_IQ, nm_RL, nm_RQ, nm_LI, nm_LR, nm_LL, nm_LQ, nm_QI, nm_QR, nm_QL, nm_QQ, nm_rr, nm_ii, nm_eqm, not_false_eq_true, pk_sub, nm_div, nm_shl, nm_shr, nm_ush, nm_or8, nm_or64, nm_or256, nm_m1, nm_m3, nm_m7, nm_m15, nm_m31, nm_m63, nm_m255, nm_m511, nm_m1023, nm_m2047, nm_m65535, Nat.reduceMod, Nat.reducePow, Nat.reduceAdd, Nat.reduceSub, Nat.reduceMul, nm_bo, nm_bi, nm_rc, nm_ic, nm_ri, nm_rl, nm_rq, nm_ql, nm_qi, nm_li, nm_us, nm_uu, nm_cp, nm_sa31, nm_sa7, nm_m127, nm_m2, nm_nz, nm_nzk, nm_eq32, nm_nzf, if_true, if_false, ↓reduceIte, if_pos, if_neg])
  refine Eq.trans (b := df_X16_openings_4 n n (nI 0) (nI 0) X) rfl (Eq.trans hm ?_)
  show df_X16_openings_4 n (m + 1) _ (nI 48) X = _
  rw [show df_X16_openings_4 n (m + 1) = dF_X16_openings_4 n (df_X16_openings_4 n m) from rfl]
  generalize df_X16_openings_4 n m = G
  generalize cN (fun o => !fop X o) 48 = y
  simp (disch := (first | assumption | decide | omega)) only [dF_X16_openings_4, eq_self, Nat.reduceEqDiff, Nat.reduceLeDiff, nl_0, nl_1, nl_19, nl_48, no_1, no_1024, pk_mul, nI_add, nm_ck, nI_clamp, nI_ltI, nI_leI, nI_eq, nb_b2, nb_b1, ↓nb_let, nm_z0, nm_z1, nb_II, nb_IR, nb_RI, nb_RR, nm_IL, nm_IQ, nm_RL, nm_RQ, nm_LI, nm_LR, nm_LL, nm_LQ, nm_QI, nm_QR, nm_QL, nm_QQ, nm_rr, nm_ii, nm_eqm, not_false_eq_true, pk_sub, nm_div, nm_shl, nm_shr, nm_ush, nm_or8, nm_or64, nm_or256, nm_m1, nm_m3, nm_m7, nm_m15, nm_m31, nm_m63, nm_m255, nm_m511, nm_m1023, nm_m2047, nm_m65535, Nat.reduceMod, Nat.reducePow, Nat.reduceAdd, Nat.reduceSub, Nat.reduceMul, nm_bo, nm_bi, nm_rc, nm_ic, nm_ri, nm_rl, nm_rq, nm_ql, nm_qi, nm_li, nm_us, nm_uu, nm_cp, nm_sa31, nm_sa7, nm_m127, nm_m2, nm_nz, nm_nzk, nm_eq32, nm_nzf, if_true, if_false, ↓reduceIte, if_pos, if_neg]
theorem nk_openingsFree2 (n : Nat) (hn : 1024 < n) {D : St} {X : St × St} (h : rD (sR D 0) (sR D 1) (sR D 2) (sR D 4) (sR X.1 14) (sR X.1 19) (sR X.1 20) (sR X.1 21) (sR X.1 22) (sR X.1 23) (sR X.1 24) (sR X.1 25)) : df_X10_openingsFree n D = some (nI (cN (fop X) 48), D) := by
  have key : ∀ k : Nat, k < 48 → (sR D 1 (k * 5) = nI 0 ↔ sR X.1 19 k ≤ nI 0) := fun k hk => by
    obtain ⟨y1, y2⟩ := fo_le h hk
    exact y2.trans y1.symm
  obtain ⟨m, hm⟩ := nm_lq (fun m k => df_X10_openingsFree_4 n m (nI (cN (fop X) k)) (nI k) D) 48 n (by omega) (fun k m hk => by
    have u1 : k * 5 < 240 := by omega
    have u2 : k * 5 < 2 ^ 31 := by omega
    have u3 : k < 2 ^ 31 := by omega
    have k48 : ¬ 48 ≤ k := by omega
    rw [show df_X10_openingsFree_4 n (m + 1) = dF_X10_openingsFree_4 n (df_X10_openingsFree_4 n m) from rfl, cN_s]
    generalize df_X10_openingsFree_4 n m = G
    generalize cN (fop X) k = y
    unfold fop
    by_cases c : sR X.1 19 k ≤ nI 0
    · have c' := (key k hk).mpr c
      rw [nm_dt c]
      simp (disch := (first | assumption | decide | omega)) only [dF_X10_openingsFree_4, df_X10_openingsFree_22, df_X10_of_0, df_X10_of, k48, Nat.add_zero, c', eq_self, Nat.reduceEqDiff, Nat.reduceLeDiff, nl_0, nl_1, nl_5, nl_48, nl_240, no_1, no_1024, pk_mul, nI_add, nm_ck, nI_clamp, nI_ltI, nI_leI, nI_eq, nb_b2, nb_b1, ↓nb_let, nm_z0, nm_z1, nb_II, nb_IR, nb_RI, nb_RR, nm_IL, nm_IQ, nm_RL, nm_RQ, nm_LI, nm_LR, nm_LL, nm_LQ, nm_QI, nm_QR, nm_QL, nm_QQ, nm_rr, nm_ii, nm_eqm, not_false_eq_true, pk_sub, nm_div, nm_shl, nm_shr, nm_ush, nm_or8, nm_or64, nm_or256, nm_m1, nm_m3, nm_m7, nm_m15, nm_m31, nm_m63, nm_m255, nm_m511, nm_m1023, nm_m2047, nm_m65535, Nat.reduceMod, Nat.reducePow, Nat.reduceAdd, Nat.reduceSub, Nat.reduceMul, nm_bo, nm_bi, nm_rc, nm_ic, nm_ri, nm_rl, nm_rq, nm_ql, nm_qi, nm_li, nm_us, nm_uu, nm_cp, nm_sa31, nm_sa7, nm_m127, nm_m2, nm_nz, nm_nzk, nm_eq32, nm_nzf, if_true, if_false, ↓reduceIte, if_pos, if_neg]
    · have c' : ¬ sR D 1 (k * 5) = nI 0 := fun z => c ((key k hk).mp z)
      rw [nm_df c]
      simp (disch := (first | assumption | decide | omega)) only [dF_X10_openingsFree_4, df_X10_openingsFree_22, df_X10_of_0, df_X10_of, k48, Nat.add_zero, c', eq_self, Nat.reduceEqDiff, Nat.reduceLeDiff, nl_0, nl_1, nl_5, nl_48, nl_240, no_1, no_1024, pk_mul, nI_add, nm_ck, nI_clamp, nI_ltI, nI_leI, nI_eq, nb_b2, nb_b1, ↓nb_let, nm_z0, nm_z1, nb_II, nb_IR, nb_RI, nb_RR, nm_IL, nm_IQ, nm_RL, nm_RQ, nm_LI, nm_LR, nm_LL, nm_LQ, nm_QI, nm_QR, nm_QL, nm_QQ, nm_rr, nm_ii, nm_eqm, not_false_eq_true, pk_sub, nm_div, nm_shl, nm_shr, nm_ush, nm_or8, nm_or64, nm_or256, nm_m1, nm_m3, nm_m7, nm_m15, nm_m31, nm_m63, nm_m255, nm_m511, nm_m1023, nm_m2047, nm_m65535, Nat.reduceMod, Nat.reducePow, Nat.reduceAdd, Nat.reduceSub, Nat.reduceMul, nm_bo, nm_bi, nm_rc, nm_ic, nm_ri, nm_rl, nm_rq, nm_ql, nm_qi, nm_li, nm_us, nm_uu, nm_cp, nm_sa31, nm_sa7, nm_m127, nm_m2, nm_nz, nm_nzk, nm_eq32, nm_nzf, if_true, if_false, ↓reduceIte, if_pos, if_neg])
  refine Eq.trans (b := df_X10_openingsFree_4 n n (nI 0) (nI 0) D) rfl (Eq.trans hm ?_)
  show df_X10_openingsFree_4 n (m + 1) _ (nI 48) D = _
  rw [show df_X10_openingsFree_4 n (m + 1) = dF_X10_openingsFree_4 n (df_X10_openingsFree_4 n m) from rfl]
  generalize df_X10_openingsFree_4 n m = G
  generalize cN (fop X) 48 = y
  simp (disch := (first | assumption | decide | omega)) only [dF_X10_openingsFree_4, eq_self, Nat.reduceEqDiff, Nat.reduceLeDiff, nl_0, nl_1, nl_48, no_1, no_1024, pk_mul, nI_add, nm_ck, nI_clamp, nI_ltI, nI_leI, nI_eq, nb_b2, nb_b1, ↓nb_let, nm_z0, nm_z1, nb_II, nb_IR, nb_RI, nb_RR, nm_IL, nm_IQ, nm_RL, nm_RQ, nm_LI, nm_LR, nm_LL, nm_LQ, nm_QI, nm_QR, nm_QL, nm_QQ, nm_rr, nm_ii, nm_eqm, not_false_eq_true, pk_sub, nm_div, nm_shl, nm_shr, nm_ush, nm_or8, nm_or64, nm_or256, nm_m1, nm_m3, nm_m7, nm_m15, nm_m31, nm_m63, nm_m255, nm_m511, nm_m1023, nm_m2047, nm_m65535, Nat.reduceMod, Nat.reducePow, Nat.reduceAdd, Nat.reduceSub, Nat.reduceMul, nm_bo, nm_bi, nm_rc, nm_ic, nm_ri, nm_rl, nm_rq, nm_ql, nm_qi, nm_li, nm_us, nm_uu, nm_cp, nm_sa31, nm_sa7, nm_m127, nm_m2, nm_nz, nm_nzk, nm_eq32, nm_nzf, if_true, if_false, ↓reduceIte, if_pos, if_neg]
/-- the first free pipe -/
def fpi (X : St × St) : Nat := fN (fun k => decide (sR X.1 23 k = nI 0)) 0 8
theorem nk_freePipe (n : Nat) (hn : 1024 < n) {D : St} {X : St × St} (h : rD (sR D 0) (sR D 1) (sR D 2) (sR D 4) (sR X.1 14) (sR X.1 19) (sR X.1 20) (sR X.1 21) (sR X.1 22) (sR X.1 23) (sR X.1 24) (sR X.1 25)) : df_X10_freePipe n D = some (if fpi X < 8 then nI (fpi X) else -nI 1, D) ∧ ∀ v : Int32, df_X16_pipe_29 n n v (nI 0) X = df_X16_pipe_50 n v (nI (fpi X)) X := by
  have key : ∀ k : Nat, k < 8 → (sR D 2 (k * 4 + 1) + sR D 2 (k * 4 + 2) = nI 0 ↔ sR X.1 23 k = nI 0) := fun k hk => by
    obtain ⟨z1, z2, z3⟩ := h.2.2.1 k hk
    have l1 := cE_le (sR X.1 19) (sR X.1 20) 1 k
    have l2 := cE_le (sR X.1 19) (sR X.1 20) 2 k
    rw [z1, z2, z3]
    generalize cE (sR X.1 19) (sR X.1 20) 1 k = x at l1
    generalize cE (sR X.1 19) (sR X.1 20) 2 k = y at l2
    rw [nI_add]
    by_cases d : 0 < x + y
    · rw [decide_eq_true d]
      exact ⟨fun z => by have := nm_inI (by omega) (by omega) z; omega, fun z => absurd z (by decide)⟩
    · rw [decide_eq_false d, show x + y = 0 by omega]
      exact ⟨fun _ => rfl, fun _ => rfl⟩
  obtain ⟨x1, x2, x3, x4⟩ := fN_le (fun k => decide (sR X.1 23 k = nI 0)) 8 0
  have x3' : fpi X < 8 → sR X.1 23 (fpi X) = nI 0 := fun z => of_decide_eq_true (x3 z)
  have x2' : fpi X ≤ 8 := x2
  refine ⟨?_, fun v => ?_⟩
  · obtain ⟨m, hm⟩ := nm_ls (fun m k => df_X10_freePipe_2 n m (nI k) D) (fun k => decide (sR X.1 23 k = nI 0)) 0 8 n (by omega) (fun k m h0 hk c => by
      have c := of_decide_eq_false c
      have c' : ¬ sR D 2 (k * 4 + 1) + sR D 2 (k * 4 + 2) = nI 0 := fun z => c ((key k (by omega)).mp z)
      have u1 : k * 4 + 1 < 32 := by omega
      have u2 : k * 4 + 1 < 2 ^ 31 := by omega
      have u3 : k * 4 + 2 < 32 := by omega
      have u4 : k * 4 + 2 < 2 ^ 31 := by omega
      have u5 : k < 2 ^ 31 := by omega
      have k16 : ¬ 8 ≤ k := by omega
      rw [show df_X10_freePipe_2 n (m + 1) = dF_X10_freePipe_2 n (df_X10_freePipe_2 n m) from rfl]
      generalize df_X10_freePipe_2 n m = G
      simp (disch := (first | assumption | decide | omega)) only [dF_X10_freePipe_2, k16, c', eq_self, Nat.reduceEqDiff, Nat.reduceLeDiff, nl_0, nl_1, nl_2, nl_4, nl_8, nl_32, no_1, no_1024, pk_mul, nI_add, nm_ck, nI_clamp, nI_ltI, nI_leI, nI_eq, nb_b2, nb_b1, ↓nb_let, nm_z0, nm_z1, nb_II, nb_IR, nb_RI, nb_RR, nm_IL, nm_IQ, nm_RL, nm_RQ, nm_LI, nm_LR, nm_LL, nm_LQ, nm_QI, nm_QR, nm_QL, nm_QQ, nm_rr, nm_ii, nm_eqm, not_false_eq_true, pk_sub, nm_div, nm_shl, nm_shr, nm_ush, nm_or8, nm_or64, nm_or256, nm_m1, nm_m3, nm_m7, nm_m15, nm_m31, nm_m63, nm_m255, nm_m511, nm_m1023, nm_m2047, nm_m65535, Nat.reduceMod, Nat.reducePow, Nat.reduceAdd, Nat.reduceSub, Nat.reduceMul, nm_bo, nm_bi, nm_rc, nm_ic, nm_ri, nm_rl, nm_rq, nm_ql, nm_qi, nm_li, nm_us, nm_uu, nm_cp, nm_sa31, nm_sa7, nm_m127, nm_m2, nm_nz, nm_nzk, nm_eq32, nm_nzf, if_true, if_false, ↓reduceIte, if_pos, if_neg])
    refine Eq.trans (b := df_X10_freePipe_2 n n (nI 0) D) rfl (Eq.trans hm ?_)
    show df_X10_freePipe_2 n (m + 1) (nI (fpi X)) D = _
    generalize fpi X = k at x2' x3'
    rw [show df_X10_freePipe_2 n (m + 1) = dF_X10_freePipe_2 n (df_X10_freePipe_2 n m) from rfl]
    generalize df_X10_freePipe_2 n m = G
    have u5 : k < 2 ^ 31 := by omega
    by_cases c : k < 8
    · have z := (key k c).mpr (x3' c)
      have u1 : k * 4 + 1 < 32 := by omega
      have u2 : k * 4 + 1 < 2 ^ 31 := by omega
      have u3 : k * 4 + 2 < 32 := by omega
      have u4 : k * 4 + 2 < 2 ^ 31 := by omega
      have k16 : ¬ 8 ≤ k := by omega
      rw [if_pos c]
      simp (disch := (first | assumption | decide | omega)) only [dF_X10_freePipe_2, k16, z, eq_self, Nat.reduceEqDiff, Nat.reduceLeDiff, nl_0, nl_1, nl_2, nl_4, nl_8, nl_32, no_1, no_1024, pk_mul, nI_add, nm_ck, nI_clamp, nI_ltI, nI_leI, nI_eq, nb_b2, nb_b1, ↓nb_let, nm_z0, nm_z1, nb_II, nb_IR, nb_RI, nb_RR, nm_IL, nm_IQ, nm_RL, nm_RQ, nm_LI, nm_LR, nm_LL, nm_LQ, nm_QI, nm_QR, nm_QL, nm_QQ, nm_rr, nm_ii, nm_eqm, not_false_eq_true, pk_sub, nm_div, nm_shl, nm_shr, nm_ush, nm_or8, nm_or64, nm_or256, nm_m1, nm_m3, nm_m7, nm_m15, nm_m31, nm_m63, nm_m255, nm_m511, nm_m1023, nm_m2047, nm_m65535, Nat.reduceMod, Nat.reducePow, Nat.reduceAdd, Nat.reduceSub, Nat.reduceMul, nm_bo, nm_bi, nm_rc, nm_ic, nm_ri, nm_rl, nm_rq, nm_ql, nm_qi, nm_li, nm_us, nm_uu, nm_cp, nm_sa31, nm_sa7, nm_m127, nm_m2, nm_nz, nm_nzk, nm_eq32, nm_nzf, if_true, if_false, ↓reduceIte, if_pos, if_neg]
    · have k16 : 8 ≤ k := by omega
      rw [if_neg c]
      simp (disch := (first | assumption | decide | omega)) only [dF_X10_freePipe_2, k16, eq_self, Nat.reduceEqDiff, Nat.reduceLeDiff, nl_0, nl_1, nl_2, nl_4, nl_8, nl_32, no_1, no_1024, pk_mul, nI_add, nm_ck, nI_clamp, nI_ltI, nI_leI, nI_eq, nb_b2, nb_b1, ↓nb_let, nm_z0, nm_z1, nb_II, nb_IR, nb_RI, nb_RR, nm_IL, nm_IQ, nm_RL, nm_RQ, nm_LI, nm_LR, nm_LL, nm_LQ, nm_QI, nm_QR, nm_QL, nm_QQ, nm_rr, nm_ii, nm_eqm, not_false_eq_true, pk_sub, nm_div, nm_shl, nm_shr, nm_ush, nm_or8, nm_or64, nm_or256, nm_m1, nm_m3, nm_m7, nm_m15, nm_m31, nm_m63, nm_m255, nm_m511, nm_m1023, nm_m2047, nm_m65535, Nat.reduceMod, Nat.reducePow, Nat.reduceAdd, Nat.reduceSub, Nat.reduceMul, nm_bo, nm_bi, nm_rc, nm_ic, nm_ri, nm_rl, nm_rq, nm_ql, nm_qi, nm_li, nm_us, nm_uu, nm_cp, nm_sa31, nm_sa7, nm_m127, nm_m2, nm_nz, nm_nzk, nm_eq32, nm_nzf, if_true, if_false, ↓reduceIte, if_pos, if_neg]
  · obtain ⟨m, hm⟩ := nm_ls (fun m k => df_X16_pipe_29 n m v (nI k) X) (fun k => decide (sR X.1 23 k = nI 0)) 0 8 n (by omega) (fun k m h0 hk c => by
      have c : ¬ sR X.1 23 k = nI 0 := of_decide_eq_false c
      have u5 : k < 2 ^ 31 := by omega
      have u6 : k < 8 := by omega
      have k16 : ¬ 8 ≤ k := by omega
      rw [show df_X16_pipe_29 n (m + 1) = dF_X16_pipe_29 n (df_X16_pipe_29 n m) from rfl]
      generalize df_X16_pipe_29 n m = G
      simp (disch := (first | assumption | decide | omega)) only [dF_X16_pipe_29, k16, c, eq_self, Nat.reduceEqDiff, Nat.reduceLeDiff, nl_0, nl_1, nl_8, nl_23, no_1, no_1024, pk_mul, nI_add, nm_ck, nI_clamp, nI_ltI, nI_leI, nI_eq, nb_b2, nb_b1, ↓nb_let, nm_z0, nm_z1, nb_II, nb_IR, nb_RI, nb_RR, nm_IL, nm_IQ, nm_RL, nm_RQ, nm_LI, nm_LR, nm_LL, nm_LQ, nm_QI, nm_QR, nm_QL, nm_QQ, nm_rr, nm_ii, nm_eqm, not_false_eq_true, pk_sub, nm_div, nm_shl, nm_shr, nm_ush, nm_or8, nm_or64, nm_or256, nm_m1, nm_m3, nm_m7, nm_m15, nm_m31, nm_m63, nm_m255, nm_m511, nm_m1023, nm_m2047, nm_m65535, Nat.reduceMod, Nat.reducePow, Nat.reduceAdd, Nat.reduceSub, Nat.reduceMul, nm_bo, nm_bi, nm_rc, nm_ic, nm_ri, nm_rl, nm_rq, nm_ql, nm_qi, nm_li, nm_us, nm_uu, nm_cp, nm_sa31, nm_sa7, nm_m127, nm_m2, nm_nz, nm_nzk, nm_eq32, nm_nzf, if_true, if_false, ↓reduceIte, if_pos, if_neg])
    refine Eq.trans hm ?_
    show df_X16_pipe_29 n (m + 1) v (nI (fpi X)) X = _
    generalize fpi X = k at x2' x3'
    rw [show df_X16_pipe_29 n (m + 1) = dF_X16_pipe_29 n (df_X16_pipe_29 n m) from rfl]
    generalize df_X16_pipe_29 n m = G
    have u5 : k < 2 ^ 31 := by omega
    by_cases c : k < 8
    · have z := x3' c
      have k16 : ¬ 8 ≤ k := by omega
      simp (disch := (first | assumption | decide | omega)) only [dF_X16_pipe_29, k16, z, eq_self, Nat.reduceEqDiff, Nat.reduceLeDiff, nl_0, nl_1, nl_8, nl_23, no_1, no_1024, pk_mul, nI_add, nm_ck, nI_clamp, nI_ltI, nI_leI, nI_eq, nb_b2, nb_b1, ↓nb_let, nm_z0, nm_z1, nb_II, nb_IR, nb_RI, nb_RR, nm_IL, nm_IQ, nm_RL, nm_RQ, nm_LI, nm_LR, nm_LL, nm_LQ, nm_QI, nm_QR, nm_QL, nm_QQ, nm_rr, nm_ii, nm_eqm, not_false_eq_true, pk_sub, nm_div, nm_shl, nm_shr, nm_ush, nm_or8, nm_or64, nm_or256, nm_m1, nm_m3, nm_m7, nm_m15, nm_m31, nm_m63, nm_m255, nm_m511, nm_m1023, nm_m2047, nm_m65535, Nat.reduceMod, Nat.reducePow, Nat.reduceAdd, Nat.reduceSub, Nat.reduceMul, nm_bo, nm_bi, nm_rc, nm_ic, nm_ri, nm_rl, nm_rq, nm_ql, nm_qi, nm_li, nm_us, nm_uu, nm_cp, nm_sa31, nm_sa7, nm_m127, nm_m2, nm_nz, nm_nzk, nm_eq32, nm_nzf, if_true, if_false, ↓reduceIte, if_pos, if_neg]
    · have k16 : 8 ≤ k := by omega
      simp (disch := (first | assumption | decide | omega)) only [dF_X16_pipe_29, k16, eq_self, Nat.reduceEqDiff, Nat.reduceLeDiff, nl_0, nl_1, nl_8, nl_23, no_1, no_1024, pk_mul, nI_add, nm_ck, nI_clamp, nI_ltI, nI_leI, nI_eq, nb_b2, nb_b1, ↓nb_let, nm_z0, nm_z1, nb_II, nb_IR, nb_RI, nb_RR, nm_IL, nm_IQ, nm_RL, nm_RQ, nm_LI, nm_LR, nm_LL, nm_LQ, nm_QI, nm_QR, nm_QL, nm_QQ, nm_rr, nm_ii, nm_eqm, not_false_eq_true, pk_sub, nm_div, nm_shl, nm_shr, nm_ush, nm_or8, nm_or64, nm_or256, nm_m1, nm_m3, nm_m7, nm_m15, nm_m31, nm_m63, nm_m255, nm_m511, nm_m1023, nm_m2047, nm_m65535, Nat.reduceMod, Nat.reducePow, Nat.reduceAdd, Nat.reduceSub, Nat.reduceMul, nm_bo, nm_bi, nm_rc, nm_ic, nm_ri, nm_rl, nm_rq, nm_ql, nm_qi, nm_li, nm_us, nm_uu, nm_cp, nm_sa31, nm_sa7, nm_m127, nm_m2, nm_nz, nm_nzk, nm_eq32, nm_nzf, if_true, if_false, ↓reduceIte, if_pos, if_neg]
/-- one end of a pipe is opened, in both (pi0, pl0: the pipe's row and its length just before) -/
theorem pp_end (n : Nat) (hn : 1024 < n) {B p : Nat} {M X : St × St} (h : rM B M X) (hp : p < 16) (h3 : sI X.1 12 = nI p) (h5 : sR X.1 1 p = nI 1) {k t d : Nat} (hk : k = 1 ∨ k = 2) (ht : t < 8) (hd : d < 16) (ed : fN (fd X p) 0 16 = d) (hf : fo X < 48) {pi0 pl0 : Nat → Int32} (hpi : ∀ u s : Nat, u < 8 → 1 ≤ s → s ≤ 2 → pi0 (u * 4 + s) = sR M.2 2 (u * 4 + s)) (hT : ∀ u : Nat, u < 8 → (u = t ∨ sR X.1 23 u = nI 1) → ∃ L o : Nat, L ≤ 512 ∧ o < 512 ∧ pi0 (u * 4) = nI L ∧ pl0 u = nI L ∧ pi0 (u * 4 + 3) = nI o ∧ ∀ i : Nat, i < L → b8 (sR M.2 3 (u * 512 + (o + i) % 512)) (sR X.1 27 (512 * u + i))) : ∃ (D1 D' : St) (X1 X' : St × St), df_X10_open n (nI k) (nI t) (nI k) (pR M.2 2 pi0) = some (nI (fo X), D1) ∧ df_X10_linkTo n (nI p) (nI d) (nI (fo X)) D1 = some D' ∧ df_X16_opening n (nI k) (nI t) (nI k) (pR (pR X.1 23 (upd (sR X.1 23) t (nI 1))) 26 pl0, X.2) = some (nI (fo X), X1) ∧ df_X16_give n (nI (fo X)) X1 = some (nI d, X') ∧ rM B (M.1, D') X' ∧ kX X X' ∧ sR X'.1 1 = sR X.1 1 ∧ sR X'.1 19 = upd (sR X.1 19) (fo X) (nI k) ∧ sR X'.1 14 = upd (sR X.1 14) (p * 16 + d) (nI (fo X)) ∧ sR X'.1 23 = upd (sR X.1 23) t (nI 1) ∧ sR X'.1 16 = sR X.1 16 := by
  obtain ⟨m1, m2, m3, m4, m5, m6, m7⟩ := h
  have m2' : rD (sR M.2 0) (sR M.2 1) pi0 (sR M.2 4) (sR X.1 14) (sR X.1 19) (sR X.1 20) (sR X.1 21) (sR X.1 22) (sR X.1 23) (sR X.1 24) (sR X.1 25) := ⟨m2.1, m2.2.1, fun u hu => by rw [hpi u 1 hu (by omega) (by omega), hpi u 2 hu (by omega) (by omega)]; exact m2.2.2.1 u hu, m2.2.2.2⟩
  have o10 := nk_open10 n hn (D := pR M.2 2 pi0) (X := X) m2' hf (nI k) (nI t) (nI k)
  have o10 : df_X10_open n (nI k) (nI t) (nI k) (pR M.2 2 pi0) = nd_b1 (df_X10_hold n (nI k) (nI t) (nI 1) (pR (pR M.2 2 pi0) 1 (orw (sR M.2 1) (fo X) (nI k) (nI t) (nI k)))) (fun s => some (nI (fo X), s)) := o10
  have o16 := nk_opening16 n hn (X := (pR (pR X.1 23 (upd (sR X.1 23) t (nI 1))) 26 pl0, X.2)) hf (nI k) (nI t) (nI k)
  have o16 : df_X16_opening n (nI k) (nI t) (nI k) (pR (pR X.1 23 (upd (sR X.1 23) t (nI 1))) 26 pl0, X.2) = some (nI (fo X), (pR (pR (pR (pR (pR (pR X.1 23 (upd (sR X.1 23) t (nI 1))) 26 pl0) 19 (upd (sR X.1 19) (fo X) (nI k))) 20 (upd (sR X.1 20) (fo X) (nI t))) 21 (upd (sR X.1 21) (fo X) (nI 0))) 22 (upd (sR X.1 22) (fo X) (nI k)), X.2)) := o16
  obtain ⟨x1, x2, x3, x4⟩ := fN_le (fun o => decide (sR X.1 19 o ≤ nI 0)) 48 0
  have x3' : sR X.1 19 (fo X) ≤ nI 0 := of_decide_eq_true (x3 hf)
  obtain ⟨y1, y2, y3, y4⟩ := fN_le (fd X p) 16 0
  have free : sR X.1 14 (p * 16 + d) = -nI 1 := by
    have := y3 (by rw [ed]; omega)
    rw [ed] at this
    exact of_decide_eq_true this
  clear x1 x2 x3 x4 y1 y2 y3 y4
  generalize fo X = o at hf o10 o16 x3'
  have kd0 : sR X.1 19 o = nI 0 := (fo_le m2 hf).1.mp x3'
  have zk : pi0 (t * 4 + k) = nI (cE (sR X.1 19) (sR X.1 20) k t) := by
    obtain ⟨z1, z2, _⟩ := m2'.2.2.1 t ht
    rcases hk with e | e
    · rw [e]; exact z1
    · rw [e]; exact z2
  have cl := cE_le (sR X.1 19) (sR X.1 20) k t
  have u1 : p * 16 + d < 256 := by omega
  have ho := nk_hold2 n (D := pR (pR M.2 2 pi0) 1 (orw (sR M.2 1) o (nI k) (nI t) (nI k))) hk ht cl zk
  have ho : df_X10_hold n (nI k) (nI t) (nI 1) (pR (pR M.2 2 pi0) 1 (orw (sR M.2 1) o (nI k) (nI t) (nI k))) = some (pR (pR (pR M.2 2 pi0) 1 (orw (sR M.2 1) o (nI k) (nI t) (nI k))) 2 (upd pi0 (t * 4 + k) (nI (cE (sR X.1 19) (sR X.1 20) k t + 1)))) := ho
  rw [ho, nb_b1] at o10
  have w0 : orw (sR M.2 1) o (nI k) (nI t) (nI k) (o * 5) = nI k := by
    unfold orw
    rw [nm_un (by omega), nm_un (by omega), nm_un (by omega), nm_un (by omega), nm_us]
  have w1 : orw (sR M.2 1) o (nI k) (nI t) (nI k) (o * 5 + 1) = nI 0 := by
    unfold orw
    rw [nm_un (by omega), nm_un (by omega), nm_un (by omega), nm_us]
  have w2 : orw (sR M.2 1) o (nI k) (nI t) (nI k) (o * 5 + 2) = nI t := by
    unfold orw
    rw [nm_un (by omega), nm_un (by omega), nm_us]
  have w3 : orw (sR M.2 1) o (nI k) (nI t) (nI k) (o * 5 + 3) = nI 0 := by
    unfold orw
    rw [nm_un (by omega), nm_us]
  have w4 : orw (sR M.2 1) o (nI k) (nI t) (nI k) (o * 5 + 4) = nI k := by
    unfold orw
    rw [nm_us]
  have wo : ∀ j : Nat, j < 48 → j ≠ o → ∀ x : Nat, x < 5 → orw (sR M.2 1) o (nI k) (nI t) (nI k) (j * 5 + x) = sR M.2 1 (j * 5 + x) := fun j hj hne x hx => by
    unfold orw
    rw [nm_un (by omega), nm_un (by omega), nm_un (by omega), nm_un (by omega), nm_un (by omega)]
  generalize orw (sR M.2 1) o (nI k) (nI t) (nI k) = R at o10 w0 w1 w2 w3 w4 wo
  have lt := nk_linkTo n (D := pR (pR (pR M.2 2 pi0) 1 R) 2 (upd pi0 (t * 4 + k) (nI (cE (sR X.1 19) (sR X.1 20) k t + 1)))) hp hd hf (c := 0) (by omega) w1
  have lt : df_X10_linkTo n (nI p) (nI d) (nI o) (pR (pR (pR M.2 2 pi0) 1 R) 2 (upd pi0 (t * 4 + k) (nI (cE (sR X.1 19) (sR X.1 20) k t + 1)))) = some (dU (pR (pR (pR M.2 2 pi0) 1 R) 2 (upd pi0 (t * 4 + k) (nI (cE (sR X.1 19) (sR X.1 20) k t + 1)))) (upd (sR M.2 0) (p * 16 + d) (nI (o + 1))) (upd R (o * 5 + 1) (nI 1)) (upd pi0 (t * 4 + k) (nI (cE (sR X.1 19) (sR X.1 20) k t + 1))) (sR M.2 4)) := lt
  have rd := rD_open m2' (i := p * 16 + d) (o := o) (k := k) (t := t) (r := k) u1 hf (by omega) (by omega) (by omega) (fun _ => ht) (by omega) (fun e => e) (fun e => e) free kd0 (op' := upd R (o * 5 + 1) (nI 1)) (pi' := upd pi0 (t * 4 + k) (nI (cE (sR X.1 19) (sR X.1 20) k t + 1))) (fi' := sR M.2 4) (ip' := upd (sR X.1 23) t (nI 1)) (isf' := sR X.1 24) (nam' := sR X.1 25) (fun j hj hne x hx => by rw [nm_un (by omega)]; exact wo j hj hne x hx) ⟨by rw [nm_un (by omega)]; exact w0, nm_us, by rw [nm_un (by omega)]; exact w2, by rw [nm_un (by omega)]; exact w3, by rw [nm_un (by omega)]; exact w4⟩ (fun u s hu q1 q2 => by
    by_cases c : s = k ∧ u = t
    · rw [if_pos c, c.1, c.2, nm_us]
    · rw [if_neg c, nm_un (fun y => c (by omega))]) (fun u hu => ⟨by rw [if_neg (fun y => by omega)], (m2.2.2.2 u hu).2.2.1, (m2.2.2.2 u hu).2.1⟩) (fun u hu => by
    by_cases c : u = t
    · rw [if_pos ⟨by omega, c⟩, c, nm_us]
    · rw [if_neg (fun y => c y.2), nm_un c]) (fun u hu => ⟨fun y => by omega, fun _ => ⟨rfl, rfl⟩⟩)
  have fr := nk_freeDescriptor n hn (X := (pR (pR (pR (pR (pR (pR X.1 23 (upd (sR X.1 23) t (nI 1))) 26 pl0) 19 (upd (sR X.1 19) o (nI k))) 20 (upd (sR X.1 20) o (nI t))) 21 (upd (sR X.1 21) o (nI 0))) 22 (upd (sR X.1 22) o (nI k)), X.2)) hp h3
  have fr : df_X16_freeDescriptor n (pR (pR (pR (pR (pR (pR X.1 23 (upd (sR X.1 23) t (nI 1))) 26 pl0) 19 (upd (sR X.1 19) o (nI k))) 20 (upd (sR X.1 20) o (nI t))) 21 (upd (sR X.1 21) o (nI 0))) 22 (upd (sR X.1 22) o (nI k)), X.2) = some (cv (fN (fd X p) 0 16), (pR (pR (pR (pR (pR (pR X.1 23 (upd (sR X.1 23) t (nI 1))) 26 pl0) 19 (upd (sR X.1 19) o (nI k))) 20 (upd (sR X.1 20) o (nI t))) 21 (upd (sR X.1 21) o (nI 0))) 22 (upd (sR X.1 22) o (nI k)), X.2)) := fr
  rw [ed, cv_0 hd] at fr
  have u2 : 16 * p + d = p * 16 + d := by omega
  have u3 : p * 16 + d < 2 ^ 31 := by omega
  have gv : df_X16_give n (nI o) (pR (pR (pR (pR (pR (pR X.1 23 (upd (sR X.1 23) t (nI 1))) 26 pl0) 19 (upd (sR X.1 19) o (nI k))) 20 (upd (sR X.1 20) o (nI t))) 21 (upd (sR X.1 21) o (nI 0))) 22 (upd (sR X.1 22) o (nI k)), X.2) = some (nI d, (pR (pR (pR (pR (pR (pR (pR X.1 23 (upd (sR X.1 23) t (nI 1))) 26 pl0) 19 (upd (sR X.1 19) o (nI k))) 20 (upd (sR X.1 20) o (nI t))) 21 (upd (sR X.1 21) o (nI 0))) 22 (upd (sR X.1 22) o (nI k))) 14 (upd (sR X.1 14) (p * 16 + d) (nI o)), X.2)) := by
    unfold df_X16_give df_X16_give_0
    rw [fr, nb_b2]
    have e12 : sI (pR (pR (pR (pR (pR (pR X.1 23 (upd (sR X.1 23) t (nI 1))) 26 pl0) 19 (upd (sR X.1 19) o (nI k))) 20 (upd (sR X.1 20) o (nI t))) 21 (upd (sR X.1 21) o (nI 0))) 22 (upd (sR X.1 22) o (nI k))) 12 = nI p := h3
    have e14 : sR (pR (pR (pR (pR (pR (pR X.1 23 (upd (sR X.1 23) t (nI 1))) 26 pl0) 19 (upd (sR X.1 19) o (nI k))) 20 (upd (sR X.1 20) o (nI t))) 21 (upd (sR X.1 21) o (nI 0))) 22 (upd (sR X.1 22) o (nI k))) 14 = sR X.1 14 := rfl
    generalize pR (pR (pR (pR (pR (pR X.1 23 (upd (sR X.1 23) t (nI 1))) 26 pl0) 19 (upd (sR X.1 19) o (nI k))) 20 (upd (sR X.1 20) o (nI t))) 21 (upd (sR X.1 21) o (nI 0))) 22 (upd (sR X.1 22) o (nI k)) = T at e12 e14
    simp (disch := (first | assumption | decide | omega)) only [df_X16_give_0, e12, e14, u2, eq_self, Nat.reduceEqDiff, Nat.reduceLeDiff, nl_12, nl_14, nl_16, nl_256, no_1, no_1024, pk_mul, nI_add, nm_ck, nI_clamp, nI_ltI, nI_leI, nI_eq, nb_b2, nb_b1, ↓nb_let, nm_z0, nm_z1, nb_II, nb_IR, nb_RI, nb_RR, nm_IL, nm_IQ, nm_RL, nm_RQ, nm_LI, nm_LR, nm_LL, nm_LQ, nm_QI, nm_QR, nm_QL, nm_QQ, nm_rr, nm_ii, nm_eqm, not_false_eq_true, pk_sub, nm_div, nm_shl, nm_shr, nm_ush, nm_or8, nm_or64, nm_or256, nm_m1, nm_m3, nm_m7, nm_m15, nm_m31, nm_m63, nm_m255, nm_m511, nm_m1023, nm_m2047, nm_m65535, Nat.reduceMod, Nat.reducePow, Nat.reduceAdd, Nat.reduceSub, Nat.reduceMul, nm_bo, nm_bi, nm_rc, nm_ic, nm_ri, nm_rl, nm_rq, nm_ql, nm_qi, nm_li, nm_us, nm_uu, nm_cp, nm_sa31, nm_sa7, nm_m127, nm_m2, nm_nz, nm_nzk, nm_eq32, nm_nzf, if_true, if_false, ↓reduceIte, if_pos, if_neg]
  refine ⟨_, _, _, _, o10, lt, o16, gv, ⟨m1, rd, rP_all m3 (p := p) ?_ (fun r hr => ⟨⟨fun _ _ => rfl, fun _ _ => rfl, fun _ _ => rfl, fun _ _ => rfl, rfl⟩, ⟨⟨rfl, rfl, rfl, rfl, rfl, rfl, rfl, rfl⟩, fun _ _ => rfl, rfl, fun _ _ => rfl, rfl, fun _ _ => rfl, fun i hi => nm_un (by omega), fun _ _ => Iff.rfl, rfl⟩⟩), m4, m5, m6, ?_⟩, ⟨rfl, rfl, rfl, rfl, rfl, rfl, rfl⟩, rfl, rfl, rfl, rfl, rfl⟩
  · obtain ⟨t, c', w, b', e, ht, hc', hw, hb, he, a1, a2, a3, a4, a5, a6, a7, a8, a9, a10, a11, a12, a13, a14, a15, a16, a17, a18, a19, a20, a21⟩ := m3 p hp
    have t1 : t = 1 := nm_inI (by omega) (by omega) (a2.symm.trans h5)
    exact ⟨t, c', w, b', e, ht, hc', hw, hb, he, a1, a2, a3, a4, a5, a6, a7, a8, a9, a10, a11, a12, a13, a14, a15, a16, a17, a18, fun z => by omega, fun z => by omega, a21⟩
  · obtain ⟨t1, t2, t3⟩ := m7
    refine ⟨fun u hu e => ?_, t2, t3⟩
    have e : upd (sR X.1 23) t (nI 1) u = nI 1 := e
    obtain ⟨L, o', l1, l2, l3, l4, l5, l6⟩ := hT u hu (by
      by_cases c : u = t
      · exact Or.inl c
      · rw [nm_un c] at e; exact Or.inr e)
    refine ⟨L, o', l1, l2, ?_, l4, ?_, l6⟩
    · show upd pi0 (t * 4 + k) _ (u * 4) = nI L
      rw [nm_un (by omega)]; exact l3
    · show upd pi0 (t * 4 + k) _ (u * 4 + 3) = nI o'
      rw [nm_un (by omega)]; exact l5
