theorem b1_s {α : Type} (x : Option α) : nd_b1 x (fun s => some s) = x := by
  cases x with
  | none => rfl
  | some a => rfl
theorem lc_sp {z : Int64} (h0 : ¬ z.toInt < 0) (h1 : z.toInt < 65536) : ∃ k : Nat, k < 65536 ∧ z.toInt32 = nI k ∧ z = (nI k).toInt64 := by
  have e : z.toInt32.toInt = z.toInt := by
    rw [Int64.toInt_toInt32]
    exact Int.bmod_eq_of_le (by omega) (by omega)
  have e2 : z.toInt32 = nI z.toInt.toNat := by
    apply Int32.toInt_inj.mp
    rw [e, nI_toInt (by omega)]
    omega
  refine ⟨z.toInt.toNat, by omega, e2, ?_⟩
  rw [← e2]
  apply Int64.toInt_inj.mp
  rw [Int32.toInt_toInt64, e]
/-- how many bytes a sign reads -/
def szO (o : Nat) : Nat := if o = 25 then 4 else if o = 26 then 2 else 1
def gd (o : Nat) (v : Int64) : Prop := ¬ v.toInt < 0 ∧ v.toInt < 65536 ∧ v - v / (nI (szO o)).toInt64 * (nI (szO o)).toInt64 = 0
/-- what stands there -/
def rdZ (X : St × St) (p o A : Nat) : Int64 := if o = 25 then (wd4 X p A).toInt64 else if o = 26 then (hw (wd4 X p A) (8 * (A / 2 % 2 * 2))).toInt16.toInt32.toInt64 else (bw (wd4 X p A) (8 * (A % 4))).toInt64
theorem gd_al {o A : Nat} (h : (nI A).toInt64 - (nI A).toInt64 / (nI (szO o)).toInt64 * (nI (szO o)).toInt64 = 0) (hA : A < 65536) : A % szO o = 0 := by
  have e := congrArg Int64.toInt32 h
  rw [nm_r32] at e
  refine (nm_rem (A := A) (k := szO o) (by omega) ?_).mp e
  unfold szO
  repeat (first | omega | split)
theorem nz_sz (o : Nat) {α : Type} {x : Option α} : nd_nz (decide ((nI (szO o)).toInt64 = 0)) x = x := by
  refine nz64 ?_
  unfold szO
  repeat (first | decide | split)
/-- the class reads -/
theorem in_no (n o : Nat) {v : Int64} {Cd : St} {M : St × St} (ho : 25 ≤ o) (ho2 : o ≤ 27) (h : sI M.1 3 = -nI 1 ∨ ¬ gd o v) {a : Nat} (ha : sI M.1 3 = -nI 1 ∨ (a < 16 ∧ sI M.1 3 = nI a)) : df_X2_inSpace n (nI o) v (nd_st0, (Cd, M)) = some (0, (nd_st0, (pI Cd 3 (nI 1), M))) := by
  have e : df_X2_inSpace n (nI o) v (nd_st0, (Cd, M)) = df_X2_inSpace_27 n v (sI M.1 3) (nI (szO o)) (nd_st0, (Cd, M)) := by
    have q : o = 25 ∨ o = 26 ∨ o = 27 := by omega
    rcases q with rfl | rfl | rfl
    all_goals (unfold df_X2_inSpace df_X2_inSpace_0 szO; simp (disch := (first | assumption | decide | omega)) only [eq_self, Nat.reduceEqDiff, Nat.reduceLeDiff, nl_1, nl_2, nl_4, nl_25, nl_26, no_1, no_1024, pk_mul, nI_add, nm_ck, nI_clamp, nI_ltI, nI_leI, nI_eq, nb_b2, nb_b1, ↓nb_let, nm_z0, nm_z1, nb_II, nb_IR, nb_RI, nb_RR, nm_IL, nm_IQ, nm_RL, nm_RQ, nm_LI, nm_LR, nm_LL, nm_LQ, nm_QI, nm_QR, nm_QL, nm_QQ, nm_rr, nm_ii, nm_eqm, not_false_eq_true, pk_sub, nm_div, nm_shl, nm_shr, nm_ush, nm_or8, nm_or64, nm_or256, nm_m1, nm_m3, nm_m7, nm_m15, nm_m31, nm_m63, nm_m255, nm_m511, nm_m1023, nm_m2047, nm_m65535, Nat.reduceMod, Nat.reducePow, Nat.reduceAdd, Nat.reduceSub, Nat.reduceMul, nm_bo, nm_bi, nm_rc, nm_ic, nm_ri, nm_rl, nm_rq, nm_ql, nm_qi, nm_li, nm_us, nm_uu, nm_cp, nm_sa31, nm_sa7, nm_m127, nm_m2, nm_nz, nm_nzk, nm_eq32, nm_nzf, if_true, if_false, ↓reduceIte, if_pos, if_neg])
  rw [e]
  unfold df_X2_inSpace_27
  have f : df_X2_inSpace_71 n (nd_st0, (Cd, M)) = some (0, (nd_st0, (pI Cd 3 (nI 1), M))) := rfl
  rw [f, nz_sz]
  by_cases c : sI M.1 3 = -nI 1
  · rw [c, if_pos (by decide)]
  · rcases ha with ha | ⟨a1, a2⟩
    · exact absurd ha c
    have hg : ¬ gd o v := by
      rcases h with h | h
      · exact absurd h c
      · exact h
    rw [a2, if_neg (show ¬ nI a < 0 from fun z => by have z : nI a < nI 0 := z; rw [nI_ltI (by omega) (by omega)] at z; omega)]
    by_cases c1 : v.toInt < 0
    · rw [if_pos ((lcA v 0).mpr c1)]
    · rw [if_neg (fun z => c1 ((lcA v 0).mp z))]
      by_cases c2 : v.toInt < 65536
      · rw [if_neg (fun z => absurd ((lcB v 65536).mp z) (by rw [show (65536 : Int64).toInt = 65536 from rfl]; omega))]
        rw [if_neg (fun z => hg ⟨c1, c2, (lcE _ _).mp z⟩)]
      · rw [if_pos ((lcB v 65536).mpr (by rw [show (65536 : Int64).toInt = 65536 from rfl]; omega))]
theorem in_ya (n o : Nat) {v : Int64} {Cd : St} {M : St × St} {a A : Nat} (ho : 25 ≤ o) (ho2 : o ≤ 27) (ha : a < 16) (h3 : sI M.1 3 = nI a) (hg : gd o v) (hA : v.toInt32 = nI A) {q : Int32} (hm : df_X6_may n (nI a) (nI A) (nI 7) M = some (q, M)) : df_X2_inSpace n (nI o) v (nd_st0, (Cd, M)) = if q = nI 0 then some (0, (nd_st0, (pI Cd 3 (nI 1), M))) else if o = 25 then nd_b2 (df_X6_wordAt n (nI a) (nI A) M) (fun x s => some (x.toInt64, (nd_st0, (Cd, s)))) else if o = 26 then nd_b2 (df_X6_halfAt n (nI a) (nI A) M) (fun x s => some (x.toInt16.toInt32.toInt64, (nd_st0, (Cd, s)))) else nd_b2 (df_X6_byteAt n (nI a) (nI A) M) (fun x s => some (x.toInt64, (nd_st0, (Cd, s)))) := by
  have e : df_X2_inSpace n (nI o) v (nd_st0, (Cd, M)) = df_X2_inSpace_27 n v (sI M.1 3) (nI (szO o)) (nd_st0, (Cd, M)) := by
    have q : o = 25 ∨ o = 26 ∨ o = 27 := by omega
    rcases q with rfl | rfl | rfl
    all_goals (unfold df_X2_inSpace df_X2_inSpace_0 szO; simp (disch := (first | assumption | decide | omega)) only [eq_self, Nat.reduceEqDiff, Nat.reduceLeDiff, nl_1, nl_2, nl_4, nl_25, nl_26, no_1, no_1024, pk_mul, nI_add, nm_ck, nI_clamp, nI_ltI, nI_leI, nI_eq, nb_b2, nb_b1, ↓nb_let, nm_z0, nm_z1, nb_II, nb_IR, nb_RI, nb_RR, nm_IL, nm_IQ, nm_RL, nm_RQ, nm_LI, nm_LR, nm_LL, nm_LQ, nm_QI, nm_QR, nm_QL, nm_QQ, nm_rr, nm_ii, nm_eqm, not_false_eq_true, pk_sub, nm_div, nm_shl, nm_shr, nm_ush, nm_or8, nm_or64, nm_or256, nm_m1, nm_m3, nm_m7, nm_m15, nm_m31, nm_m63, nm_m255, nm_m511, nm_m1023, nm_m2047, nm_m65535, Nat.reduceMod, Nat.reducePow, Nat.reduceAdd, Nat.reduceSub, Nat.reduceMul, nm_bo, nm_bi, nm_rc, nm_ic, nm_ri, nm_rl, nm_rq, nm_ql, nm_qi, nm_li, nm_us, nm_uu, nm_cp, nm_sa31, nm_sa7, nm_m127, nm_m2, nm_nz, nm_nzk, nm_eq32, nm_nzf, if_true, if_false, ↓reduceIte, if_pos, if_neg])
  rw [e]
  unfold df_X2_inSpace_27
  have f : df_X2_inSpace_71 n (nd_st0, (Cd, M)) = some (0, (nd_st0, (pI Cd 3 (nI 1), M))) := rfl
  rw [nz_sz, h3, if_neg (show ¬ nI a < 0 from fun z => by have z : nI a < nI 0 := z; rw [nI_ltI (by omega) (by omega)] at z; omega), if_neg (fun z => hg.1 ((lcA v 0).mp z)), if_neg (fun z => absurd ((lcB v 65536).mp z) (by rw [show (65536 : Int64).toInt = 65536 from rfl]; have := hg.2.1; omega)), if_pos ((lcE _ _).mpr hg.2.2), hA]
  show nd_b2 (df_X6_may n (nI a) (nI A) (nI 7) M) _ = _
  rw [hm, nb_b2]
  have q : o = 25 ∨ o = 26 ∨ o = 27 := by omega
  rcases q with rfl | rfl | rfl
  · rfl
  · rfl
  · rfl
/-- the reference reads -/
theorem hs_no (n o : Nat) {v : Int64} {X : St × St} {sz : Nat} (hz : sz = szO o) (h : sI X.1 1 = -nI 1 ∨ ¬ gd o v) (hn : 1 < n) : df_X16_has n v (nI sz) X = some (nI 0, X) := by
  obtain ⟨m, em⟩ : ∃ m : Nat, n = m + 1 := ⟨n - 1, by omega⟩
  have f : df_X16_has_35 n v (nI sz) X = some (nI 0, X) := by
    show df_X16_has_41 n n v (nI sz) 0 0 X = _
    have e : df_X16_has_41 n n = dF_X16_has_41 n (df_X16_has_41 n m) := (congrArg (df_X16_has_41 n) em).trans rfl
    rw [e]
    unfold dF_X16_has_41 df_X16_has_73
    have z : ¬ nI sz ≤ 0 := fun z => by
      have z : nI sz ≤ nI 0 := z
      rw [hz, nm_nle0 (by unfold szO; repeat (first | omega | split))] at z
      revert z
      unfold szO
      repeat (first | omega | split)
    rw [if_neg z, if_pos rfl]
    exact nm_z0
  unfold df_X16_has df_X16_has_0
  rw [f, hz, nz_sz]
  by_cases c : sI X.1 1 = -nI 1
  · rw [if_pos (show sI X.1 1 = -1 from c)]
  · have hg : ¬ gd o v := by
      rcases h with h | h
      · exact absurd h c
      · exact h
    rw [if_neg (show ¬ sI X.1 1 = -1 from c)]
    by_cases c1 : v.toInt < 0
    · rw [if_pos ((lcA v 0).mpr c1)]
    · rw [if_neg (fun z => c1 ((lcA v 0).mp z))]
      by_cases c2 : v.toInt < 65536
      · rw [if_neg (fun z => absurd ((lcC v 65535).mp z) (by rw [show (65535 : Int64).toInt = 65535 from rfl]; omega)), if_neg (fun z => hg ⟨c1, c2, (lcE _ _).mp z⟩)]
      · rw [if_pos ((lcC v 65535).mpr (by rw [show (65535 : Int64).toInt = 65535 from rfl]; omega))]
theorem hs_ya (n o : Nat) {v : Int64} {X : St × St} {sz : Nat} (hz : sz = szO o) (c : ¬ sI X.1 1 = -nI 1) (hg : gd o v) : df_X16_has n v (nI sz) X = df_X16_has_41 n n v (nI sz) (nI 1) (nI 0) X := by
  unfold df_X16_has df_X16_has_0
  rw [hz, nz_sz, if_neg (show ¬ sI X.1 1 = -1 from c), if_neg (fun z => hg.1 ((lcA v 0).mp z)), if_neg (fun z => absurd ((lcC v 65535).mp z) (by rw [show (65535 : Int64).toInt = 65535 from rfl]; have := hg.2.1; omega)), if_pos ((lcE _ _).mpr hg.2.2)]
  rfl
theorem hs_t (n m i sz a A : Nat) {v : Int64} {X : St × St} (hi : i < sz) (hs : sz ≤ 4) (ha : a < 16) (h1 : sI X.1 1 = nI a) (hv : v.toInt32 = nI A) (hA : A + i < 65536) : df_X16_has_41 n (m + 1) v (nI sz) (nI 1) (nI i) X = df_X16_has_41 n m v (nI sz) (if sR X.1 16 (64 * a + (A + i) / 1024) = -1 then 0 else 1) (nI (i + 1)) X := by
  have t := nb_there n ha hA X
  simp (disch := (first | assumption | decide | omega)) only [(show df_X16_has_41 n (m + 1) = dF_X16_has_41 n (df_X16_has_41 n m) from rfl), dF_X16_has_41, df_X16_has_73, df_X16_has_36, df_X16_has_35, df_X16_has_0, df_X16_has, h1, hv, t, eq_self, Nat.reduceEqDiff, Nat.reduceLeDiff, nl_0, nl_1, nl_65535, no_1, no_1024, pk_mul, nI_add, nm_ck, nI_clamp, nI_ltI, nI_leI, nI_eq, nb_b2, nb_b1, ↓nb_let, nm_z0, nm_z1, nb_II, nb_IR, nb_RI, nb_RR, nm_IL, nm_IQ, nm_RL, nm_RQ, nm_LI, nm_LR, nm_LL, nm_LQ, nm_QI, nm_QR, nm_QL, nm_QQ, nm_rr, nm_ii, nm_eqm, not_false_eq_true, pk_sub, nm_div, nm_shl, nm_shr, nm_ush, nm_or8, nm_or64, nm_or256, nm_m1, nm_m3, nm_m7, nm_m15, nm_m31, nm_m63, nm_m255, nm_m511, nm_m1023, nm_m2047, nm_m65535, Nat.reduceMod, Nat.reducePow, Nat.reduceAdd, Nat.reduceSub, Nat.reduceMul, nm_bo, nm_bi, nm_rc, nm_ic, nm_ri, nm_rl, nm_rq, nm_ql, nm_qi, nm_li, nm_us, nm_uu, nm_cp, nm_sa31, nm_sa7, nm_m127, nm_m2, nm_nz, nm_nzk, nm_eq32, nm_nzf, if_true, if_false, ↓reduceIte, if_pos, if_neg]
theorem hs_e (n m sz : Nat) {v : Int64} {X : St × St} {q : Int32} (hq : q = nI 0 ∨ q = nI 1) (hs : sz < 2 ^ 30) : df_X16_has_41 n (m + 1) v (nI sz) q (nI sz) X = some (q, X) := by
  rcases hq with rfl | rfl
  · simp (disch := (first | assumption | decide | omega)) only [(show df_X16_has_41 n (m + 1) = dF_X16_has_41 n (df_X16_has_41 n m) from rfl), dF_X16_has_41, df_X16_has_73, df_X16_has_36, df_X16_has_35, df_X16_has_0, df_X16_has, eq_self, Nat.reduceEqDiff, Nat.reduceLeDiff, nl_0, nl_1, nl_65535, no_1, no_1024, pk_mul, nI_add, nm_ck, nI_clamp, nI_ltI, nI_leI, nI_eq, nb_b2, nb_b1, ↓nb_let, nm_z0, nm_z1, nb_II, nb_IR, nb_RI, nb_RR, nm_IL, nm_IQ, nm_RL, nm_RQ, nm_LI, nm_LR, nm_LL, nm_LQ, nm_QI, nm_QR, nm_QL, nm_QQ, nm_rr, nm_ii, nm_eqm, not_false_eq_true, pk_sub, nm_div, nm_shl, nm_shr, nm_ush, nm_or8, nm_or64, nm_or256, nm_m1, nm_m3, nm_m7, nm_m15, nm_m31, nm_m63, nm_m255, nm_m511, nm_m1023, nm_m2047, nm_m65535, Nat.reduceMod, Nat.reducePow, Nat.reduceAdd, Nat.reduceSub, Nat.reduceMul, nm_bo, nm_bi, nm_rc, nm_ic, nm_ri, nm_rl, nm_rq, nm_ql, nm_qi, nm_li, nm_us, nm_uu, nm_cp, nm_sa31, nm_sa7, nm_m127, nm_m2, nm_nz, nm_nzk, nm_eq32, nm_nzf, if_true, if_false, ↓reduceIte, if_pos, if_neg]
  · simp (disch := (first | assumption | decide | omega)) only [(show df_X16_has_41 n (m + 1) = dF_X16_has_41 n (df_X16_has_41 n m) from rfl), dF_X16_has_41, df_X16_has_73, df_X16_has_36, df_X16_has_35, df_X16_has_0, df_X16_has, eq_self, Nat.reduceEqDiff, Nat.reduceLeDiff, nl_0, nl_1, nl_65535, no_1, no_1024, pk_mul, nI_add, nm_ck, nI_clamp, nI_ltI, nI_leI, nI_eq, nb_b2, nb_b1, ↓nb_let, nm_z0, nm_z1, nb_II, nb_IR, nb_RI, nb_RR, nm_IL, nm_IQ, nm_RL, nm_RQ, nm_LI, nm_LR, nm_LL, nm_LQ, nm_QI, nm_QR, nm_QL, nm_QQ, nm_rr, nm_ii, nm_eqm, not_false_eq_true, pk_sub, nm_div, nm_shl, nm_shr, nm_ush, nm_or8, nm_or64, nm_or256, nm_m1, nm_m3, nm_m7, nm_m15, nm_m31, nm_m63, nm_m255, nm_m511, nm_m1023, nm_m2047, nm_m65535, Nat.reduceMod, Nat.reducePow, Nat.reduceAdd, Nat.reduceSub, Nat.reduceMul, nm_bo, nm_bi, nm_rc, nm_ic, nm_ri, nm_rl, nm_rq, nm_ql, nm_qi, nm_li, nm_us, nm_uu, nm_cp, nm_sa31, nm_sa7, nm_m127, nm_m2, nm_nz, nm_nzk, nm_eq32, nm_nzf, if_true, if_false, ↓reduceIte, if_pos, if_neg]
theorem hs_0 (n m sz i : Nat) {v : Int64} {X : St × St} : df_X16_has_41 n (m + 1) v (nI sz) 0 (nI i) X = some (nI 0, X) := by
  show dF_X16_has_41 n (df_X16_has_41 n m) v (nI sz) 0 (nI i) X = _
  unfold dF_X16_has_41 df_X16_has_73
  split
  · exact nm_z0
  · exact nm_z0
theorem cl_1 (n : Nat) {X : St × St} {p A f : Nat} (hp : p < 16) (hA : A < 65536) (h1 : sI X.1 1 = nI p) (hf : f < 256) (e : sR X.1 16 (64 * p + A / 1024) = nI f) : df_X16_cell n (nI A) X = some (bw (wd4 X p A) (8 * (A % 4)), X) := by
  have t := nb_there n hp hA X
  rw [e, if_neg (show ¬ nI f = -1 from fun z => nk_ne (by omega) z)] at t
  have g := nb_get n (A := 65536 * p + A) (by omega) X
  have i1 : (65536 * p + A) / 4 = (64 * p + A / 1024) * 256 + A / 4 % 256 := by omega
  have i2 : (65536 * p + A) % 4 = A % 4 := by omega
  have i3 : (8 : Int32) * nI (A % 4) = nI (8 * (A % 4)) := pk_mul ..
  rw [i1, i2, i3] at g
  have g : df_X16_get n (nI (65536 * p + A)) X = some (bw (wd4 X p A) (8 * (A % 4)), X) := g
  have t : df_X16_isThere n (nI p) (nI A) X = some (nI 1, X) := t
  simp (disch := (first | assumption | decide | omega)) only [df_X16_cell_0, df_X16_cell, df_X16_peek_23, df_X16_peek_0, df_X16_peek, h1, t, g, eq_self, Nat.reduceEqDiff, Nat.reduceLeDiff, nl_0, nl_1, nl_65536, no_1, no_1024, pk_mul, nI_add, nm_ck, nI_clamp, nI_ltI, nI_leI, nI_eq, nb_b2, nb_b1, ↓nb_let, nm_z0, nm_z1, nb_II, nb_IR, nb_RI, nb_RR, nm_IL, nm_IQ, nm_RL, nm_RQ, nm_LI, nm_LR, nm_LL, nm_LQ, nm_QI, nm_QR, nm_QL, nm_QQ, nm_rr, nm_ii, nm_eqm, not_false_eq_true, pk_sub, nm_div, nm_shl, nm_shr, nm_ush, nm_or8, nm_or64, nm_or256, nm_m1, nm_m3, nm_m7, nm_m15, nm_m31, nm_m63, nm_m255, nm_m511, nm_m1023, nm_m2047, nm_m65535, Nat.reduceMod, Nat.reducePow, Nat.reduceAdd, Nat.reduceSub, Nat.reduceMul, nm_bo, nm_bi, nm_rc, nm_ic, nm_ri, nm_rl, nm_rq, nm_ql, nm_qi, nm_li, nm_us, nm_uu, nm_cp, nm_sa31, nm_sa7, nm_m127, nm_m2, nm_nz, nm_nzk, nm_eq32, nm_nzf, if_true, if_false, ↓reduceIte, if_pos, if_neg]
theorem ac_t (n m i sz : Nat) {v : Int64} {Y : St} {X : St × St} {A : Nat} {x b : Int32} (hi : i < sz) (hs : sz ≤ 4) (hv : v.toInt32 = nI A) (hc : df_X16_cell n (nI (A + i)) X = some (b, X)) : df_X15_access_47 n (m + 1) v (nI sz) x (nI i) (Y, X) = df_X15_access_47 n m v (nI sz) (x ||| (b <<< nI (8 * i))) (nI (i + 1)) (Y, X) := by
  have e : 8 * i % 32 = 8 * i := by omega
  simp (disch := (first | assumption | decide | omega)) only [(show df_X15_access_47 n (m + 1) = dF_X15_access_47 n (df_X15_access_47 n m) from rfl), dF_X15_access_47, df_X15_access_105, df_X15_access_21, df_X15_access_0, df_X15_access, hv, hc, e, eq_self, Nat.reduceEqDiff, Nat.reduceLeDiff, nl_0, nl_1, nl_2, nl_4, nl_7, nl_8, nl_16, nl_31, nl_32, no_1, no_1024, pk_mul, nI_add, nm_ck, nI_clamp, nI_ltI, nI_leI, nI_eq, nb_b2, nb_b1, ↓nb_let, nm_z0, nm_z1, nb_II, nb_IR, nb_RI, nb_RR, nm_IL, nm_IQ, nm_RL, nm_RQ, nm_LI, nm_LR, nm_LL, nm_LQ, nm_QI, nm_QR, nm_QL, nm_QQ, nm_rr, nm_ii, nm_eqm, not_false_eq_true, pk_sub, nm_div, nm_shl, nm_shr, nm_ush, nm_or8, nm_or64, nm_or256, nm_m1, nm_m3, nm_m7, nm_m15, nm_m31, nm_m63, nm_m255, nm_m511, nm_m1023, nm_m2047, nm_m65535, Nat.reduceMod, Nat.reducePow, Nat.reduceAdd, Nat.reduceSub, Nat.reduceMul, nm_bo, nm_bi, nm_rc, nm_ic, nm_ri, nm_rl, nm_rq, nm_ql, nm_qi, nm_li, nm_us, nm_uu, nm_cp, nm_sa31, nm_sa7, nm_m127, nm_m2, nm_nz, nm_nzk, nm_eq32, nm_nzf, if_true, if_false, ↓reduceIte, if_pos, if_neg]
theorem ac_e (n m sz : Nat) {v : Int64} {Y : St} {X : St × St} {x : Int32} (hs : sz ≤ 4) : df_X15_access_47 n (m + 1) v (nI sz) x (nI sz) (Y, X) = df_X15_give n (if sz = 2 then (x <<< nI 16 >>> nI 16).toInt64 else x.toInt64) (Y, X) := by
  by_cases c : sz = 2
  · subst c
    rw [if_pos rfl]
    simp (disch := (first | assumption | decide | omega)) only [(show df_X15_access_47 n (m + 1) = dF_X15_access_47 n (df_X15_access_47 n m) from rfl), dF_X15_access_47, df_X15_access_105, df_X15_access_21, df_X15_access_0, df_X15_access, eq_self, Nat.reduceEqDiff, Nat.reduceLeDiff, nl_0, nl_1, nl_2, nl_4, nl_7, nl_8, nl_16, nl_31, nl_32, no_1, no_1024, pk_mul, nI_add, nm_ck, nI_clamp, nI_ltI, nI_leI, nI_eq, nb_b2, nb_b1, ↓nb_let, nm_z0, nm_z1, nb_II, nb_IR, nb_RI, nb_RR, nm_IL, nm_IQ, nm_RL, nm_RQ, nm_LI, nm_LR, nm_LL, nm_LQ, nm_QI, nm_QR, nm_QL, nm_QQ, nm_rr, nm_ii, nm_eqm, not_false_eq_true, pk_sub, nm_div, nm_shl, nm_shr, nm_ush, nm_or8, nm_or64, nm_or256, nm_m1, nm_m3, nm_m7, nm_m15, nm_m31, nm_m63, nm_m255, nm_m511, nm_m1023, nm_m2047, nm_m65535, Nat.reduceMod, Nat.reducePow, Nat.reduceAdd, Nat.reduceSub, Nat.reduceMul, nm_bo, nm_bi, nm_rc, nm_ic, nm_ri, nm_rl, nm_rq, nm_ql, nm_qi, nm_li, nm_us, nm_uu, nm_cp, nm_sa31, nm_sa7, nm_m127, nm_m2, nm_nz, nm_nzk, nm_eq32, nm_nzf, if_true, if_false, ↓reduceIte, if_pos, if_neg]
    exact b1_s _
  · rw [if_neg c]
    simp (disch := (first | assumption | decide | omega)) only [(show df_X15_access_47 n (m + 1) = dF_X15_access_47 n (df_X15_access_47 n m) from rfl), dF_X15_access_47, df_X15_access_105, df_X15_access_21, df_X15_access_0, df_X15_access, eq_self, Nat.reduceEqDiff, Nat.reduceLeDiff, nl_0, nl_1, nl_2, nl_4, nl_7, nl_8, nl_16, nl_31, nl_32, no_1, no_1024, pk_mul, nI_add, nm_ck, nI_clamp, nI_ltI, nI_leI, nI_eq, nb_b2, nb_b1, ↓nb_let, nm_z0, nm_z1, nb_II, nb_IR, nb_RI, nb_RR, nm_IL, nm_IQ, nm_RL, nm_RQ, nm_LI, nm_LR, nm_LL, nm_LQ, nm_QI, nm_QR, nm_QL, nm_QQ, nm_rr, nm_ii, nm_eqm, not_false_eq_true, pk_sub, nm_div, nm_shl, nm_shr, nm_ush, nm_or8, nm_or64, nm_or256, nm_m1, nm_m3, nm_m7, nm_m15, nm_m31, nm_m63, nm_m255, nm_m511, nm_m1023, nm_m2047, nm_m65535, Nat.reduceMod, Nat.reducePow, Nat.reduceAdd, Nat.reduceSub, Nat.reduceMul, nm_bo, nm_bi, nm_rc, nm_ic, nm_ri, nm_rl, nm_rq, nm_ql, nm_qi, nm_li, nm_us, nm_uu, nm_cp, nm_sa31, nm_sa7, nm_m127, nm_m2, nm_nz, nm_nzk, nm_eq32, nm_nzf, if_true, if_false, ↓reduceIte, if_pos, if_neg]
    exact b1_s _
theorem ac_0 (n o k : Nat) {v : Int64} {Y : St} {X : St × St} (hok : o = 25 ∧ k = 32 ∨ o = 26 ∧ k = 7 ∨ o = 27 ∧ k = 6) {q : Int32} (h : df_X16_has n v (nI (szO o)) X = some (q, X)) : df_X15_access n (nI k) v (Y, X) = if q = 0 then df_X15_fail n (Y, X) else df_X15_access_47 n n v (nI (szO o)) (nI 0) (nI 0) (Y, X) := by
  have e : df_X15_access n (nI k) v (Y, X) = df_X15_access_21 n v (nI (szO o)) (Y, X) := by
    rcases hok with ⟨rfl, rfl⟩ | ⟨rfl, rfl⟩ | ⟨rfl, rfl⟩
    all_goals (unfold df_X15_access df_X15_access_0 szO; simp (disch := (first | assumption | decide | omega)) only [eq_self, Nat.reduceEqDiff, Nat.reduceLeDiff, nl_1, nl_2, nl_4, nl_7, nl_32, no_1, no_1024, pk_mul, nI_add, nm_ck, nI_clamp, nI_ltI, nI_leI, nI_eq, nb_b2, nb_b1, ↓nb_let, nm_z0, nm_z1, nb_II, nb_IR, nb_RI, nb_RR, nm_IL, nm_IQ, nm_RL, nm_RQ, nm_LI, nm_LR, nm_LL, nm_LQ, nm_QI, nm_QR, nm_QL, nm_QQ, nm_rr, nm_ii, nm_eqm, not_false_eq_true, pk_sub, nm_div, nm_shl, nm_shr, nm_ush, nm_or8, nm_or64, nm_or256, nm_m1, nm_m3, nm_m7, nm_m15, nm_m31, nm_m63, nm_m255, nm_m511, nm_m1023, nm_m2047, nm_m65535, Nat.reduceMod, Nat.reducePow, Nat.reduceAdd, Nat.reduceSub, Nat.reduceMul, nm_bo, nm_bi, nm_rc, nm_ic, nm_ri, nm_rl, nm_rq, nm_ql, nm_qi, nm_li, nm_us, nm_uu, nm_cp, nm_sa31, nm_sa7, nm_m127, nm_m2, nm_nz, nm_nzk, nm_eq32, nm_nzf, if_true, if_false, ↓reduceIte, if_pos, if_neg])
  rw [e]
  unfold df_X15_access_21
  show nd_b2 (df_X16_has n v (nI (szO o)) X) _ = _
  rw [h, nb_b2]
  show (if q = 0 then nd_b1 (df_X15_fail n (Y, X)) (fun s => some s) else _) = _
  rw [b1_s]
  rfl
