/-- behind a call, in the world with the programs -/
def cB (B p : Nat) (s : St × Rw × (St × (St × (St × (St)))) × (St) × (St) × (Nat → St) × (Nat → St) × (Nat → St × (St))) (X : St × St) (oc : Option (Int64 × (St × Rw × (St × (St × (St × (St)))) × (St) × (St) × (Nat → St) × (Nat → St) × (Nat → St × (St))))) (or : Option (Int32 × (St × St))) : Prop := ∃ (v64 : Int64) (K' : St × (St × (St × St))), oc = some (v64, (s.1, (s.2.1, (K', s.2.2.2)))) ∧ cO B p s.2.2.1 X (some (v64, K')) or
/-- the four programs of both machines -/
def rPp (s : St × Rw × (St × (St × (St × (St)))) × (St) × (St) × (Nat → St) × (Nat → St) × (Nat → St × (St))) (Q : St) : Prop := sO s.2.2.1.1 0 = some 34 ∧ ∀ v : Nat, v < 4 → (s.2.1 0 v = none ∧ sR Q 0 v = nI 0) ∨ ∃ j T Z : Nat, j < 9 ∧ s.2.1 0 v = some j ∧ ¬ sR Q 0 v = nI 0 ∧ rPg (s.2.2.2.2.2.1 j) Q v T Z
theorem cB_id {B p : Nat} {s : St × Rw × (St × (St × (St × (St)))) × (St) × (St) × (Nat → St) × (Nat → St) × (Nat → St × (St))} {X : St × St} (h : cP B p s.2.2.1 X) {v64 : Int64} {v : Int32} (hv : v64 = v.toInt64) : cB B p s X (some (v64, s)) (some (v, X)) := ⟨v64, s.2.2.1, rfl, cO_id h hv⟩
theorem ec_p {s : Nat → St} {j : Nat} : (fun i => if i = j then s j else s i) = s := by
  funext i
  by_cases c : i = j
  · rw [if_pos c, c]
  · rw [if_neg c]
theorem ec_p2 {s : Nat → St} {j : Nat} : (fun i => if i = j then s j else if i = j then s j else s i) = s := by
  funext i
  by_cases c : i = j
  · rw [if_pos c, c]
  · rw [if_neg c, if_neg c]
theorem ec_4 (n : Nat) {s : St × Rw × (St × (St × (St × (St)))) × (St) × (St) × (Nat → St) × (Nat → St) × (Nat → St × (St))} {x1 : Int32} {j y z : Nat} (hj : j < 9) (ff : df_X6_framesFree n s.2.2.1.2.2 = some (nI z, s.2.2.1.2.2)) (pf : df_X6_pagesFor n (s.2.2.2.2.2.1 j) = some (nI y, s.2.2.2.2.2.1 j)) (yz : ¬ nI y ≤ nI z) : df_X5_exec_23 n x1 (some j) s = some (-4, s) := by
  simp only [df_X5_exec_23, nb_mS, ff, nb_b2, nb_let, nb_lt hj, pf, ec_p, if_neg yz]
theorem ec_1 (n : Nat) {s : St × Rw × (St × (St × (St × (St)))) × (St) × (St) × (Nat → St) × (Nat → St) × (Nat → St × (St))} {x1 : Int32} {j y z : Nat} (hj : j < 9) (ff : df_X6_framesFree n s.2.2.1.2.2 = some (nI z, s.2.2.1.2.2)) (pf : df_X6_pagesFor n (s.2.2.2.2.2.1 j) = some (nI y, s.2.2.2.2.2.1 j)) (yz : nI y ≤ nI z) {M1 M2 : St × St} (dp : df_X6_dropPages n x1 s.2.2.1.2.2 = some M1) (ld : df_X6_load n x1 (nd_st0, (M1, s.2.2.2.2.2.1 j)) = some (nd_st0, (M2, s.2.2.2.2.2.1 j))) : df_X5_exec_23 n x1 (some j) s = some (2199023255552, (s.1, (s.2.1, ((s.2.2.1.1, (s.2.2.1.2.1, M2)), s.2.2.2)))) := by
  simp only [df_X5_exec_23, nb_mS, ff, nb_b2, nb_let, nb_lt hj, pf, ec_p, if_pos yz, dp, nb_b1, if_true, ↓reduceIte, ld, ec_p2]
theorem er_0 (n : Nat) {X : St × St} {v y p : Nat} (hv : v < 4) (h3 : sI X.1 12 = nI p) (a0 : ¬ sR X.2 0 v = nI 0) (pf : df_X16_pagesOf n (nI v) X = some (nI y, X)) (hF : df_X16_hasFrames n (nI y) X = some (nI 0, X)) : df_X16_exec n (nI v) X = some (-nI 4, X) := by
  have u1 : v < 2 ^ 31 := by omega
  have u2 : ¬ v < 0 := by omega
  have u3 : ¬ 3 < v := by omega
  simp (disch := (first | assumption | decide | omega)) only [df_X16_exec, df_X16_exec_0, u2, u3, a0, pf, hF, eq_self, Nat.reduceEqDiff, Nat.reduceLeDiff, nl_0, nl_3, nl_4, nl_12, no_1, no_1024, pk_mul, nI_add, nm_ck, nI_clamp, nI_ltI, nI_leI, nI_eq, nb_b2, nb_b1, ↓nb_let, nm_z0, nm_z1, nb_II, nb_IR, nb_RI, nb_RR, nm_IL, nm_IQ, nm_RL, nm_RQ, nm_LI, nm_LR, nm_LL, nm_LQ, nm_QI, nm_QR, nm_QL, nm_QQ, nm_rr, nm_ii, nm_eqm, not_false_eq_true, pk_sub, nm_div, nm_shl, nm_shr, nm_ush, nm_or8, nm_or64, nm_or256, nm_m1, nm_m3, nm_m7, nm_m15, nm_m31, nm_m63, nm_m255, nm_m511, nm_m1023, nm_m2047, nm_m65535, Nat.reduceMod, Nat.reducePow, Nat.reduceAdd, Nat.reduceSub, Nat.reduceMul, nm_bo, nm_bi, nm_rc, nm_ic, nm_ri, nm_rl, nm_rq, nm_ql, nm_qi, nm_li, nm_us, nm_uu, nm_cp, nm_sa31, nm_sa7, nm_m127, nm_m2, nm_nz, nm_nzk, nm_eq32, nm_nzf, if_true, if_false, ↓reduceIte, if_pos, if_neg]
theorem er_1 (n : Nat) {X X1 X2 : St × St} {v y p : Nat} (hv : v < 4) (h3 : sI X.1 12 = nI p) (a0 : ¬ sR X.2 0 v = nI 0) (pf : df_X16_pagesOf n (nI v) X = some (nI y, X)) (hF : df_X16_hasFrames n (nI y) X = some (nI 1, X)) (la : df_X16_leaveAll n (nI p) X = some X1) (h4 : sI X1.1 12 = nI p) (ld : df_X16_load n (nI p) (nI v) X1 = some X2) : df_X16_exec n (nI v) X = df_X16_exec_58 n n (nI 0) X2 := by
  have u1 : v < 2 ^ 31 := by omega
  have u2 : ¬ v < 0 := by omega
  have u3 : ¬ 3 < v := by omega
  generalize hG : df_X16_exec_58 n n = G
  simp (disch := (first | assumption | decide | omega)) only [df_X16_exec, df_X16_exec_0, hG, u2, u3, a0, pf, hF, h3, la, h4, ld, eq_self, Nat.reduceEqDiff, Nat.reduceLeDiff, nl_0, nl_3, nl_4, nl_12, no_1, no_1024, pk_mul, nI_add, nm_ck, nI_clamp, nI_ltI, nI_leI, nI_eq, nb_b2, nb_b1, ↓nb_let, nm_z0, nm_z1, nb_II, nb_IR, nb_RI, nb_RR, nm_IL, nm_IQ, nm_RL, nm_RQ, nm_LI, nm_LR, nm_LL, nm_LQ, nm_QI, nm_QR, nm_QL, nm_QQ, nm_rr, nm_ii, nm_eqm, not_false_eq_true, pk_sub, nm_div, nm_shl, nm_shr, nm_ush, nm_or8, nm_or64, nm_or256, nm_m1, nm_m3, nm_m7, nm_m15, nm_m31, nm_m63, nm_m255, nm_m511, nm_m1023, nm_m2047, nm_m65535, Nat.reduceMod, Nat.reducePow, Nat.reduceAdd, Nat.reduceSub, Nat.reduceMul, nm_bo, nm_bi, nm_rc, nm_ic, nm_ri, nm_rl, nm_rq, nm_ql, nm_qi, nm_li, nm_us, nm_uu, nm_cp, nm_sa31, nm_sa7, nm_m127, nm_m2, nm_nz, nm_nzk, nm_eq32, nm_nzf, if_true, if_false, ↓reduceIte, if_pos, if_neg]
/-- the kernel's call 'exec' -/
theorem nq_exec (n : Nat) (hn : 40000 < n) {B p : Nat} {s : St × Rw × (St × (St × (St × (St)))) × (St) × (St) × (Nat → St) × (Nat → St) × (Nat → St × (St))} {X : St × St} (h : cP B p s.2.2.1 X) (hP : rPp s X.2) (a : Int32) : cB B p s X (df_X5_exec n (nI p) a s) (df_X16_exec n a X) := by
  obtain ⟨h1, h2, h3, h4, h5, h6, h7⟩ := id h
  have ans : ∀ (w64 : Int64) (w : Int32), w64 = w.toInt64 → df_X5_exec n (nI p) a s = some (w64, s) → df_X16_exec n a X = some (w, X) → cB B p s X (df_X5_exec n (nI p) a s) (df_X16_exec n a X) := fun w64 w ew e1 e2 => by
    rw [e1, e2]
    exact cB_id h ew
  have none2 : ∀ x1 : Int32, df_X5_exec_23 n x1 none s = some (-2, s) := fun x1 => rfl
  rcases sg_cases a with ⟨z, _⟩ | ⟨v, hv, z⟩
  · exact ans (-2) (-nI 2) (by decide) (by simp (disch := (first | assumption | decide | omega)) only [df_X5_exec, df_X5_exec_0, df_X5_exec_13, z, none2, eq_self, Nat.reduceEqDiff, Nat.reduceLeDiff, nl_0, nl_4, nl_34, no_1, no_1024, pk_mul, nI_add, nm_ck, nI_clamp, nI_ltI, nI_leI, nI_eq, nb_b2, nb_b1, ↓nb_let, nm_z0, nm_z1, nb_II, nb_IR, nb_RI, nb_RR, nm_IL, nm_IQ, nm_RL, nm_RQ, nm_LI, nm_LR, nm_LL, nm_LQ, nm_QI, nm_QR, nm_QL, nm_QQ, nm_rr, nm_ii, nm_eqm, not_false_eq_true, pk_sub, nm_div, nm_shl, nm_shr, nm_ush, nm_or8, nm_or64, nm_or256, nm_m1, nm_m3, nm_m7, nm_m15, nm_m31, nm_m63, nm_m255, nm_m511, nm_m1023, nm_m2047, nm_m65535, Nat.reduceMod, Nat.reducePow, Nat.reduceAdd, Nat.reduceSub, Nat.reduceMul, nm_bo, nm_bi, nm_rc, nm_ic, nm_ri, nm_rl, nm_rq, nm_ql, nm_qi, nm_li, nm_us, nm_uu, nm_cp, nm_sa31, nm_sa7, nm_m127, nm_m2, nm_nz, nm_nzk, nm_eq32, nm_nzf, if_true, if_false, ↓reduceIte, if_pos, if_neg]) (by simp (disch := (first | assumption | decide | omega)) only [df_X16_exec, df_X16_exec_0, df_X16_exec_21, z, eq_self, Nat.reduceEqDiff, Nat.reduceLeDiff, nl_0, nl_2, nl_3, nl_4, nl_12, no_1, no_1024, pk_mul, nI_add, nm_ck, nI_clamp, nI_ltI, nI_leI, nI_eq, nb_b2, nb_b1, ↓nb_let, nm_z0, nm_z1, nb_II, nb_IR, nb_RI, nb_RR, nm_IL, nm_IQ, nm_RL, nm_RQ, nm_LI, nm_LR, nm_LL, nm_LQ, nm_QI, nm_QR, nm_QL, nm_QQ, nm_rr, nm_ii, nm_eqm, not_false_eq_true, pk_sub, nm_div, nm_shl, nm_shr, nm_ush, nm_or8, nm_or64, nm_or256, nm_m1, nm_m3, nm_m7, nm_m15, nm_m31, nm_m63, nm_m255, nm_m511, nm_m1023, nm_m2047, nm_m65535, Nat.reduceMod, Nat.reducePow, Nat.reduceAdd, Nat.reduceSub, Nat.reduceMul, nm_bo, nm_bi, nm_rc, nm_ic, nm_ri, nm_rl, nm_rq, nm_ql, nm_qi, nm_li, nm_us, nm_uu, nm_cp, nm_sa31, nm_sa7, nm_m127, nm_m2, nm_nz, nm_nzk, nm_eq32, nm_nzf, if_true, if_false, ↓reduceIte, if_pos, if_neg])
  rw [z] at ans ⊢
  have v0 : ¬ v < 0 := by omega
  have h34 : sO s.2.2.1.1 0 = some 34 := hP.1
  by_cases v4 : v < 4
  · have v3 : ¬ 3 < v := by omega
    have C0 : df_X5_exec n (nI p) (nI v) s = df_X5_exec_23 n (nI p) (s.2.1 0 v) s := by
      unfold df_X5_exec df_X5_exec_0
      rw [if_neg (show ¬ nI v < (0 : Int32) from fun q => by have q : nI v < nI 0 := q; rw [nI_ltI (by omega) (by omega)] at q; omega), if_pos h34, if_pos (show nI v < (4 : Int32) from (show nI v < nI 4 by rw [nI_ltI (by omega) (by omega)]; exact v4)), nm_ck (by omega) (by omega), nI_clamp (by omega)]
      cases s.2.1 0 v <;> rfl
    rcases hP.2 v v4 with ⟨p1, p2⟩ | ⟨j, T, Z, hj, p1, p2, pg⟩
    · exact ans (-2) (-nI 2) (by decide) (by rw [C0, p1]; exact none2 _) (by simp (disch := (first | assumption | decide | omega)) only [df_X16_exec, df_X16_exec_0, df_X16_exec_21, v0, v3, p2, eq_self, Nat.reduceEqDiff, Nat.reduceLeDiff, nl_0, nl_2, nl_3, nl_4, nl_12, no_1, no_1024, pk_mul, nI_add, nm_ck, nI_clamp, nI_ltI, nI_leI, nI_eq, nb_b2, nb_b1, ↓nb_let, nm_z0, nm_z1, nb_II, nb_IR, nb_RI, nb_RR, nm_IL, nm_IQ, nm_RL, nm_RQ, nm_LI, nm_LR, nm_LL, nm_LQ, nm_QI, nm_QR, nm_QL, nm_QQ, nm_rr, nm_ii, nm_eqm, not_false_eq_true, pk_sub, nm_div, nm_shl, nm_shr, nm_ush, nm_or8, nm_or64, nm_or256, nm_m1, nm_m3, nm_m7, nm_m15, nm_m31, nm_m63, nm_m255, nm_m511, nm_m1023, nm_m2047, nm_m65535, Nat.reduceMod, Nat.reducePow, Nat.reduceAdd, Nat.reduceSub, Nat.reduceMul, nm_bo, nm_bi, nm_rc, nm_ic, nm_ri, nm_rl, nm_rq, nm_ql, nm_qi, nm_li, nm_us, nm_uu, nm_cp, nm_sa31, nm_sa7, nm_m127, nm_m2, nm_nz, nm_nzk, nm_eq32, nm_nzf, if_true, if_false, ↓reduceIte, if_pos, if_neg])
    · rw [p1] at C0
      have m1 := h1.1
      have fu := m1.2.2.2.1
      have us := m1.2.2.2.2
      have cu := cU_le (sR X.1 16)
      have pc := lp_p n pg
      have pr := lq_p n v4 pg
      have fr : df_X6_framesFree n s.2.2.1.2.2 = some (nI (256 - cU (sR X.1 16)), s.2.2.1.2.2) := by
        generalize cU (sR X.1 16) = x at fu cu
        simp (disch := (first | assumption | decide | omega)) only [df_X6_framesFree_0, df_X6_framesFree, fu, eq_self, Nat.reduceEqDiff, Nat.reduceLeDiff, nl_0, nl_256, no_1, no_1024, pk_mul, nI_add, nm_ck, nI_clamp, nI_ltI, nI_leI, nI_eq, nb_b2, nb_b1, ↓nb_let, nm_z0, nm_z1, nb_II, nb_IR, nb_RI, nb_RR, nm_IL, nm_IQ, nm_RL, nm_RQ, nm_LI, nm_LR, nm_LL, nm_LQ, nm_QI, nm_QR, nm_QL, nm_QQ, nm_rr, nm_ii, nm_eqm, not_false_eq_true, pk_sub, nm_div, nm_shl, nm_shr, nm_ush, nm_or8, nm_or64, nm_or256, nm_m1, nm_m3, nm_m7, nm_m15, nm_m31, nm_m63, nm_m255, nm_m511, nm_m1023, nm_m2047, nm_m65535, Nat.reduceMod, Nat.reducePow, Nat.reduceAdd, Nat.reduceSub, Nat.reduceMul, nm_bo, nm_bi, nm_rc, nm_ic, nm_ri, nm_rl, nm_rq, nm_ql, nm_qi, nm_li, nm_us, nm_uu, nm_cp, nm_sa31, nm_sa7, nm_m127, nm_m2, nm_nz, nm_nzk, nm_eq32, nm_nzf, if_true, if_false, ↓reduceIte, if_pos, if_neg]
      have yl : (T + 1023) / 1024 + dpg T Z + 4 ≤ 100 := by
        obtain ⟨q1, q2, q3, _⟩ := pg
        unfold dpg
        rcases q3 with e | e <;> omega
      have nl := nk_loadP n hn (M := s.2.2.1.2.2) (X := X) (P := s.2.2.2.2.2.1 j) (s0 := nd_st0) (p := p) (v := v) (T := T) (Z := Z)
      generalize hy : (T + 1023) / 1024 + dpg T Z + 4 = y at pc pr yl
      have hF : df_X16_hasFrames n (nI y) X = some (if 256 < cU (sR X.1 16) + y then nI 0 else nI 1, X) := by
        generalize cU (sR X.1 16) = x at us cu
        have w1 : x + y < 2 ^ 31 := by omega
        by_cases w : 256 < x + y
        · simp (disch := (first | assumption | decide | omega)) only [df_X16_hasFrames_17, df_X16_hasFrames_0, df_X16_hasFrames, us, w, eq_self, Nat.reduceEqDiff, Nat.reduceLeDiff, nl_0, nl_1, nl_6, nl_256, no_1, no_1024, pk_mul, nI_add, nm_ck, nI_clamp, nI_ltI, nI_leI, nI_eq, nb_b2, nb_b1, ↓nb_let, nm_z0, nm_z1, nb_II, nb_IR, nb_RI, nb_RR, nm_IL, nm_IQ, nm_RL, nm_RQ, nm_LI, nm_LR, nm_LL, nm_LQ, nm_QI, nm_QR, nm_QL, nm_QQ, nm_rr, nm_ii, nm_eqm, not_false_eq_true, pk_sub, nm_div, nm_shl, nm_shr, nm_ush, nm_or8, nm_or64, nm_or256, nm_m1, nm_m3, nm_m7, nm_m15, nm_m31, nm_m63, nm_m255, nm_m511, nm_m1023, nm_m2047, nm_m65535, Nat.reduceMod, Nat.reducePow, Nat.reduceAdd, Nat.reduceSub, Nat.reduceMul, nm_bo, nm_bi, nm_rc, nm_ic, nm_ri, nm_rl, nm_rq, nm_ql, nm_qi, nm_li, nm_us, nm_uu, nm_cp, nm_sa31, nm_sa7, nm_m127, nm_m2, nm_nz, nm_nzk, nm_eq32, nm_nzf, if_true, if_false, ↓reduceIte, if_pos, if_neg]
        · simp (disch := (first | assumption | decide | omega)) only [df_X16_hasFrames_17, df_X16_hasFrames_0, df_X16_hasFrames, us, w, eq_self, Nat.reduceEqDiff, Nat.reduceLeDiff, nl_0, nl_1, nl_6, nl_256, no_1, no_1024, pk_mul, nI_add, nm_ck, nI_clamp, nI_ltI, nI_leI, nI_eq, nb_b2, nb_b1, ↓nb_let, nm_z0, nm_z1, nb_II, nb_IR, nb_RI, nb_RR, nm_IL, nm_IQ, nm_RL, nm_RQ, nm_LI, nm_LR, nm_LL, nm_LQ, nm_QI, nm_QR, nm_QL, nm_QQ, nm_rr, nm_ii, nm_eqm, not_false_eq_true, pk_sub, nm_div, nm_shl, nm_shr, nm_ush, nm_or8, nm_or64, nm_or256, nm_m1, nm_m3, nm_m7, nm_m15, nm_m31, nm_m63, nm_m255, nm_m511, nm_m1023, nm_m2047, nm_m65535, Nat.reduceMod, Nat.reducePow, Nat.reduceAdd, Nat.reduceSub, Nat.reduceMul, nm_bo, nm_bi, nm_rc, nm_ic, nm_ri, nm_rl, nm_rq, nm_ql, nm_qi, nm_li, nm_us, nm_uu, nm_cp, nm_sa31, nm_sa7, nm_m127, nm_m2, nm_nz, nm_nzk, nm_eq32, nm_nzf, if_true, if_false, ↓reduceIte, if_pos, if_neg]
      by_cases w : 256 < cU (sR X.1 16) + y
      · rw [if_pos w] at hF
        exact ans (-4) (-nI 4) (by decide) (by rw [C0]; exact ec_4 n hj fr pc (fun q => by rw [nI_leI (by omega) (by omega)] at q; omega)) (er_0 n v4 h3 p2 pr hF)
      · rw [if_neg w] at hF
        obtain ⟨u0, g0, fu0, fr0, ho0, us0, x1, x2, x3, x4, x5⟩ := nk_leaveAll n (by omega) m1 h2
        have cd : cU fr0 ≤ cU (sR X.1 16) := cU_drop (fun i => by
          by_cases c : 64 * p ≤ i ∧ i < 64 * p + 64
          · left
            have := x4 (i - 64 * p) (by omega)
            rw [show 64 * p + (i - 64 * p) = i by omega] at this
            exact this
          · exact Or.inr (x5 i c))
        have rm0 := rM_pg h1 h2 h5 x3 x5 x4
        obtain ⟨w', u', g', fu', b', fr', ri', ho', us', q1, q2, q3, q4, q5⟩ := nk_loadP n hn (M := mU s.2.2.1.2.2 (sR s.2.2.1.2.2.1 0) u0 g0 fu0) (X := xU X (sR X.1 15) fr0 (sR X.1 17) ho0 us0) (P := s.2.2.2.2.2.1 j) (s0 := nd_st0) (p := p) (v := v) (T := T) (Z := Z) x3 h2 v4 pg x4 (show cU fr0 + _ ≤ 256 by rw [hy]; omega)
        have rm := rM_load rm0 h2 (show sR (xU X (sR X.1 15) fr0 (sR X.1 17) ho0 us0).1 1 p = nI 1 from h5) (H := (Z + 1023) / 1024 * 1024) (by have := pg.2.1; omega) q1 q2 q3
        have li := lX_ints (xU X (sR X.1 15) fr0 (sR X.1 17) ho0 us0) b' fr' ri' ho' us' p ((Z + 1023) / 1024 * 1024)
        have lr := (lX_rows (xU X (sR X.1 15) fr0 (sR X.1 17) ho0 us0) b' fr' ri' ho' us' p ((Z + 1023) / 1024 * 1024)).1 1 (by omega)
        have lm := (lM_rows (mU s.2.2.1.2.2 (sR s.2.2.1.2.2.1 0) u0 g0 fu0) w' u' g' fu' p ((Z + 1023) / 1024 * 1024)).2.2.2.2.2.2.2.1 7 (by omega) (by omega)
        have C1 := ec_1 n (s := s) (x1 := nI p) hj fr pc (by rw [nI_leI (by omega) (by omega)]; omega) x1 q4
        have e12 : sI (lX (xU X (sR X.1 15) fr0 (sR X.1 17) ho0 us0) b' fr' ri' ho' us' p ((Z + 1023) / 1024 * 1024)).1 12 = nI p := h3
        have R1 := er_1 n v4 h3 p2 pr hF x2 (show sI (xU X (sR X.1 15) fr0 (sR X.1 17) ho0 us0).1 12 = nI p from h3) q5
        rw [er_58 n (by omega) h2 e12] at R1
        rw [C0, C1, R1]
        obtain ⟨d1, d2, d3, d4, d5, d6, d7⟩ := li
        generalize eX (lX (xU X (sR X.1 15) fr0 (sR X.1 17) ho0 us0) b' fr' ri' ho' us' p ((Z + 1023) / 1024 * 1024)) p = X' at rm d1 d4 d7 lr
        generalize lM (mU s.2.2.1.2.2 (sR s.2.2.1.2.2.1 0) u0 g0 fu0) w' u' g' fu' p ((Z + 1023) / 1024 * 1024) = M' at rm lm
        exact ⟨_, _, rfl, _, nI 0, s.2.2.1.1, M', X', rfl, rfl, rm, fun _ => rfl, Or.inr (Or.inr (Or.inl ⟨d4, rfl⟩)), ⟨d7, d1 0 (by omega) (by omega) (by omega), d1 12 (by omega) (by omega) (by omega), d1 14 (by omega) (by omega) (by omega), d1 15 (by omega) (by omega) (by omega)⟩, Or.inl ⟨lm.trans h6, (d1 16 (by omega) (by omega) (by omega)).trans h7⟩, fun y => absurd d4 y, fun y => absurd (d4.symm.trans y) (by decide)⟩
  · have v3 : 3 < v := by omega
    exact ans (-2) (-nI 2) (by decide) (by simp (disch := (first | assumption | decide | omega)) only [df_X5_exec, df_X5_exec_0, df_X5_exec_13, v0, h34, v4, none2, eq_self, Nat.reduceEqDiff, Nat.reduceLeDiff, nl_0, nl_4, nl_34, no_1, no_1024, pk_mul, nI_add, nm_ck, nI_clamp, nI_ltI, nI_leI, nI_eq, nb_b2, nb_b1, ↓nb_let, nm_z0, nm_z1, nb_II, nb_IR, nb_RI, nb_RR, nm_IL, nm_IQ, nm_RL, nm_RQ, nm_LI, nm_LR, nm_LL, nm_LQ, nm_QI, nm_QR, nm_QL, nm_QQ, nm_rr, nm_ii, nm_eqm, not_false_eq_true, pk_sub, nm_div, nm_shl, nm_shr, nm_ush, nm_or8, nm_or64, nm_or256, nm_m1, nm_m3, nm_m7, nm_m15, nm_m31, nm_m63, nm_m255, nm_m511, nm_m1023, nm_m2047, nm_m65535, Nat.reduceMod, Nat.reducePow, Nat.reduceAdd, Nat.reduceSub, Nat.reduceMul, nm_bo, nm_bi, nm_rc, nm_ic, nm_ri, nm_rl, nm_rq, nm_ql, nm_qi, nm_li, nm_us, nm_uu, nm_cp, nm_sa31, nm_sa7, nm_m127, nm_m2, nm_nz, nm_nzk, nm_eq32, nm_nzf, if_true, if_false, ↓reduceIte, if_pos, if_neg]) (by simp (disch := (first | assumption | decide | omega)) only [df_X16_exec, df_X16_exec_0, df_X16_exec_21, v0, v3, eq_self, Nat.reduceEqDiff, Nat.reduceLeDiff, nl_0, nl_2, nl_3, nl_4, nl_12, no_1, no_1024, pk_mul, nI_add, nm_ck, nI_clamp, nI_ltI, nI_leI, nI_eq, nb_b2, nb_b1, ↓nb_let, nm_z0, nm_z1, nb_II, nb_IR, nb_RI, nb_RR, nm_IL, nm_IQ, nm_RL, nm_RQ, nm_LI, nm_LR, nm_LL, nm_LQ, nm_QI, nm_QR, nm_QL, nm_QQ, nm_rr, nm_ii, nm_eqm, not_false_eq_true, pk_sub, nm_div, nm_shl, nm_shr, nm_ush, nm_or8, nm_or64, nm_or256, nm_m1, nm_m3, nm_m7, nm_m15, nm_m31, nm_m63, nm_m255, nm_m511, nm_m1023, nm_m2047, nm_m65535, Nat.reduceMod, Nat.reducePow, Nat.reduceAdd, Nat.reduceSub, Nat.reduceMul, nm_bo, nm_bi, nm_rc, nm_ic, nm_ri, nm_rl, nm_rq, nm_ql, nm_qi, nm_li, nm_us, nm_uu, nm_cp, nm_sa31, nm_sa7, nm_m127, nm_m2, nm_nz, nm_nzk, nm_eq32, nm_nzf, if_true, if_false, ↓reduceIte, if_pos, if_neg])
