/-- one byte, in both -/
theorem b8_0 : b8 (vp_nar .byte 0) (nI 0) := ⟨0, by omega, rfl, by decide⟩
theorem b8_z {z : Nat} (h : z < 256) : b8 (vp_nar .byte ((nI z).toInt8.toInt32)) (nI z) := ⟨z, h, rfl, rfl⟩
theorem nar_inj : ∀ a b : Fin 256, vp_nar .byte ((nI a.1).toInt8.toInt32) = vp_nar .byte ((nI b.1).toInt8.toInt32) → a = b := by decide +kernel
theorem b8_eq {v u v' u' : Int32} (h : b8 v u) (h' : b8 v' u') : v = v' ↔ u = u' := by
  obtain ⟨z, hz, e1, e2⟩ := h
  obtain ⟨z', hz', e1', e2'⟩ := h'
  subst e1 e2 e1' e2'
  constructor
  · intro e
    have := nar_inj ⟨z, hz⟩ ⟨z', hz'⟩ e
    have := congrArg Fin.val this
    exact congrArg nI this
  · intro e
    have : z = z' := nm_inI (by omega) (by omega) e
    rw [this]
theorem bw_ex (x : Int32) (s : Nat) : ∃ z : Nat, z < 256 ∧ bw x s = nI z := by
  unfold bw
  obtain ⟨A, hA, e⟩ := nI_ex ((x.toUInt32 >>> ((nI s).toUInt32 &&& Int32.toUInt32 (nI 31))).toInt32)
  rw [e, nm_m255 hA]
  exact ⟨A % 256, by omega, rfl⟩
theorem nI_md (a : Nat) : nI a = nI (a % 2 ^ 32) := by
  apply Int32.toBitVec_inj.mp
  apply BitVec.eq_of_toNat_eq
  show (BitVec.ofNat 32 a).toNat = (BitVec.ofNat 32 (a % 2 ^ 32)).toNat
  rw [BitVec.toNat_ofNat, BitVec.toNat_ofNat, Nat.mod_mod]
/-- a byte that may be read, in both -/
theorem nk_nb (n : Nat) {M X : St × St} (h : rK M X) {p : Nat} (hp : p < 16) (e12 : sI X.1 12 = nI p) (Z : Nat) : (df_X6_may n (nI p) (nI Z) (nI 1) M = some (nI 0, M) ∧ df_X16_may n (nI p) (nI Z) (nI 1) X = some (nI 0, X)) ∨ ∃ z : Nat, z < 256 ∧ df_X6_may n (nI p) (nI Z) (nI 1) M = some (nI 1, M) ∧ df_X16_may n (nI p) (nI Z) (nI 1) X = some (nI 1, X) ∧ df_X6_byteAt n (nI p) (nI Z) M = some (nI z, M) ∧ df_X16_byteAt n (nI Z) X = some (nI z, X) := by
  rw [nI_md Z]
  have hA : Z % 2 ^ 32 < 2 ^ 32 := by omega
  generalize Z % 2 ^ 32 = A at hA
  obtain ⟨m1, m2⟩ := nk_may n h hp hA (show 1 < 8 by omega)
  cases c : ma X p A 1 with
  | false =>
    left
    rw [m1, m2, c]
    exact ⟨rfl, rfl⟩
  | true =>
    right
    unfold ma at c
    have cA : A < 65536 := by
      by_cases d : A < 65536
      · exact d
      · rw [decide_eq_false d, Bool.false_and] at c
        exact nomatch c
    have c' : ma X p A 1 = true := by
      unfold ma
      exact c
    rw [decide_eq_true cA, Bool.true_and] at c
    have hf : ∃ f : Nat, f < 256 ∧ sR X.1 16 (64 * p + A / 1024) = nI f := by
      rcases h.1 (64 * p + A / 1024) (by omega) with ⟨y1, y2⟩ | ⟨f, r, y1, y2, y3, y4, _⟩
      · exfalso
        unfold mb at c
        rw [y1] at c
        simp at c
      · exact ⟨f, y1, y4⟩
    obtain ⟨f, hf, ef⟩ := hf
    obtain ⟨z, hz, ez⟩ := bw_ex (wd4 X p A) (8 * (A % 4))
    refine ⟨z, hz, ?_, ?_, ?_, ?_⟩
    · rw [m1, c']; rfl
    · rw [m2, c']; rfl
    · rw [(nk_rd n h hp cA hf ef).1, ez]
    · rw [nk_gt n hp cA e12, ez]
/-- the turns of 'readName' and of 'nameAt' -/
theorem rn_tt1 (n : Nat) {M X : St × St} (h : rK M X) {p : Nat} (hp : p < 16) (e12 : sI X.1 12 = nI p) (A : Nat) {K1 K2 : St} : ∀ (j k m m' : Nat) (f g : Nat → Int32) (gd : Bool), k + j = 16 → (∀ i : Nat, i < 16 → b8 (f i) (g i)) → ∃ (v : Int32) (f' g' : Nat → Int32), df_X5_readName_t1_14 n (m + j + 1 + 1) (nI p) (nI A) (-nI 1) (bI gd) (nI k) (pR K1 0 f, (K2, M)) = some (v, (pR K1 0 f', (K2, M))) ∧ df_X16_nameAt_28 n (m' + j + 1) (nI A) (nI k) (bI gd) (nI k) (pR X.1 33 g, X.2) = some (v, (pR X.1 33 g', X.2)) ∧ (∀ i : Nat, i < 16 → b8 (f' i) (g' i)) ∧ (v = nI 0 ∨ v = -nI 14 ∨ v = -nI 22) := by
  have z0 : ¬ (nI 0 : Int32) ≤ -nI 1 := by decide
  have z1 : (-nI 1 : Int32) ≤ nI 0 := by decide
  intro j
  induction j with
  | zero =>
    intro k m m' f g gd hk hb
    have hk : k = 16 := hk
    subst hk
    refine ⟨-nI 22, f, g, ?_, ?_, hb, Or.inr (Or.inr rfl)⟩
    · rw [show df_X5_readName_t1_14 n (m + 0 + 1 + 1) = dF_X5_readName_t1_14 n (df_X5_readName_t1_14 n (m + 0 + 1)) from rfl]
      generalize df_X5_readName_t1_14 n (m + 0 + 1) = G
      cases gd with
      | true => simp (disch := (first | assumption | decide | omega)) only [dF_X5_readName_t1_14, df_X5_readName_t1_110, df_X5_readName_t1_124, df_X5_readName_t1_126, bI_t, z1, eq_self, Nat.reduceEqDiff, Nat.reduceLeDiff, nl_0, nl_1, nl_14, nl_16, nl_22, nl_33, nl_126, no_1, no_1024, pk_mul, nI_add, nm_ck, nI_clamp, nI_ltI, nI_leI, nI_eq, nb_b2, nb_b1, ↓nb_let, nm_z0, nm_z1, nb_II, nb_IR, nb_RI, nb_RR, nm_IL, nm_IQ, nm_RL, nm_RQ, nm_LI, nm_LR, nm_LL, nm_LQ, nm_QI, nm_QR, nm_QL, nm_QQ, nm_rr, nm_ii, nm_eqm, not_false_eq_true, pk_sub, nm_div, nm_shl, nm_shr, nm_ush, nm_or8, nm_or64, nm_or256, nm_m1, nm_m3, nm_m7, nm_m15, nm_m31, nm_m63, nm_m255, nm_m511, nm_m1023, nm_m2047, nm_m65535, Nat.reduceMod, Nat.reducePow, Nat.reduceAdd, Nat.reduceSub, Nat.reduceMul, nm_bo, nm_bi, nm_rc, nm_ic, nm_ri, nm_rl, nm_rq, nm_ql, nm_qi, nm_li, nm_us, nm_uu, nm_cp, nm_sa31, nm_sa7, nm_m127, nm_m2, nm_nz, nm_nzk, nm_eq32, nm_nzf, if_true, if_false, ↓reduceIte, if_pos, if_neg]
      | false => simp (disch := (first | assumption | decide | omega)) only [dF_X5_readName_t1_14, df_X5_readName_t1_110, df_X5_readName_t1_124, df_X5_readName_t1_126, bI_f, eq_self, Nat.reduceEqDiff, Nat.reduceLeDiff, nl_0, nl_1, nl_14, nl_16, nl_22, nl_33, nl_126, no_1, no_1024, pk_mul, nI_add, nm_ck, nI_clamp, nI_ltI, nI_leI, nI_eq, nb_b2, nb_b1, ↓nb_let, nm_z0, nm_z1, nb_II, nb_IR, nb_RI, nb_RR, nm_IL, nm_IQ, nm_RL, nm_RQ, nm_LI, nm_LR, nm_LL, nm_LQ, nm_QI, nm_QR, nm_QL, nm_QQ, nm_rr, nm_ii, nm_eqm, not_false_eq_true, pk_sub, nm_div, nm_shl, nm_shr, nm_ush, nm_or8, nm_or64, nm_or256, nm_m1, nm_m3, nm_m7, nm_m15, nm_m31, nm_m63, nm_m255, nm_m511, nm_m1023, nm_m2047, nm_m65535, Nat.reduceMod, Nat.reducePow, Nat.reduceAdd, Nat.reduceSub, Nat.reduceMul, nm_bo, nm_bi, nm_rc, nm_ic, nm_ri, nm_rl, nm_rq, nm_ql, nm_qi, nm_li, nm_us, nm_uu, nm_cp, nm_sa31, nm_sa7, nm_m127, nm_m2, nm_nz, nm_nzk, nm_eq32, nm_nzf, if_true, if_false, ↓reduceIte, if_pos, if_neg]
    · rw [show df_X16_nameAt_28 n (m' + 0 + 1) = dF_X16_nameAt_28 n (df_X16_nameAt_28 n (m' + 0)) from rfl]
      generalize df_X16_nameAt_28 n (m' + 0) = G
      simp (disch := (first | assumption | decide | omega)) only [dF_X16_nameAt_28, eq_self, Nat.reduceEqDiff, Nat.reduceLeDiff, nl_0, nl_1, nl_12, nl_14, nl_16, nl_22, nl_32, nl_127, no_1, no_1024, pk_mul, nI_add, nm_ck, nI_clamp, nI_ltI, nI_leI, nI_eq, nb_b2, nb_b1, ↓nb_let, nm_z0, nm_z1, nb_II, nb_IR, nb_RI, nb_RR, nm_IL, nm_IQ, nm_RL, nm_RQ, nm_LI, nm_LR, nm_LL, nm_LQ, nm_QI, nm_QR, nm_QL, nm_QQ, nm_rr, nm_ii, nm_eqm, not_false_eq_true, pk_sub, nm_div, nm_shl, nm_shr, nm_ush, nm_or8, nm_or64, nm_or256, nm_m1, nm_m3, nm_m7, nm_m15, nm_m31, nm_m63, nm_m255, nm_m511, nm_m1023, nm_m2047, nm_m65535, Nat.reduceMod, Nat.reducePow, Nat.reduceAdd, Nat.reduceSub, Nat.reduceMul, nm_bo, nm_bi, nm_rc, nm_ic, nm_ri, nm_rl, nm_rq, nm_ql, nm_qi, nm_li, nm_us, nm_uu, nm_cp, nm_sa31, nm_sa7, nm_m127, nm_m2, nm_nz, nm_nzk, nm_eq32, nm_nzf, if_true, if_false, ↓reduceIte, if_pos, if_neg]
  | succ j ih =>
    intro k m m' f g gd hk hb
    have k16 : ¬ 16 ≤ k := by omega
    have u1 : k < 2 ^ 31 := by omega
    have u2 : k < 16 := by omega
    have uX : rK M (pR X.1 33 g, X.2) := h
    have e12' : sI (pR X.1 33 g) 12 = nI p := e12
    rcases nk_nb n uX hp e12' (A + k) with ⟨y1, y2⟩ | ⟨z, hz, y1, y2, y3, y4⟩
    · refine ⟨-nI 14, f, g, ?_, ?_, hb, Or.inr (Or.inl rfl)⟩
      · rw [show df_X5_readName_t1_14 n (m + (j + 1) + 1 + 1) = dF_X5_readName_t1_14 n (df_X5_readName_t1_14 n (m + (j + 1) + 1)) from rfl]
        generalize df_X5_readName_t1_14 n (m + (j + 1) + 1) = G
        simp (disch := (first | assumption | decide | omega)) only [dF_X5_readName_t1_14, k16, z0, y1, eq_self, Nat.reduceEqDiff, Nat.reduceLeDiff, nl_0, nl_1, nl_14, nl_16, nl_33, nl_126, no_1, no_1024, pk_mul, nI_add, nm_ck, nI_clamp, nI_ltI, nI_leI, nI_eq, nb_b2, nb_b1, ↓nb_let, nm_z0, nm_z1, nb_II, nb_IR, nb_RI, nb_RR, nm_IL, nm_IQ, nm_RL, nm_RQ, nm_LI, nm_LR, nm_LL, nm_LQ, nm_QI, nm_QR, nm_QL, nm_QQ, nm_rr, nm_ii, nm_eqm, not_false_eq_true, pk_sub, nm_div, nm_shl, nm_shr, nm_ush, nm_or8, nm_or64, nm_or256, nm_m1, nm_m3, nm_m7, nm_m15, nm_m31, nm_m63, nm_m255, nm_m511, nm_m1023, nm_m2047, nm_m65535, Nat.reduceMod, Nat.reducePow, Nat.reduceAdd, Nat.reduceSub, Nat.reduceMul, nm_bo, nm_bi, nm_rc, nm_ic, nm_ri, nm_rl, nm_rq, nm_ql, nm_qi, nm_li, nm_us, nm_uu, nm_cp, nm_sa31, nm_sa7, nm_m127, nm_m2, nm_nz, nm_nzk, nm_eq32, nm_nzf, if_true, if_false, ↓reduceIte, if_pos, if_neg]
      · rw [show df_X16_nameAt_28 n (m' + (j + 1) + 1) = dF_X16_nameAt_28 n (df_X16_nameAt_28 n (m' + (j + 1))) from rfl]
        generalize df_X16_nameAt_28 n (m' + (j + 1)) = G
        simp (disch := (first | assumption | decide | omega)) only [dF_X16_nameAt_28, k16, e12, y2, eq_self, Nat.reduceEqDiff, Nat.reduceLeDiff, nl_0, nl_1, nl_12, nl_14, nl_16, nl_22, nl_32, nl_127, no_1, no_1024, pk_mul, nI_add, nm_ck, nI_clamp, nI_ltI, nI_leI, nI_eq, nb_b2, nb_b1, ↓nb_let, nm_z0, nm_z1, nb_II, nb_IR, nb_RI, nb_RR, nm_IL, nm_IQ, nm_RL, nm_RQ, nm_LI, nm_LR, nm_LL, nm_LQ, nm_QI, nm_QR, nm_QL, nm_QQ, nm_rr, nm_ii, nm_eqm, not_false_eq_true, pk_sub, nm_div, nm_shl, nm_shr, nm_ush, nm_or8, nm_or64, nm_or256, nm_m1, nm_m3, nm_m7, nm_m15, nm_m31, nm_m63, nm_m255, nm_m511, nm_m1023, nm_m2047, nm_m65535, Nat.reduceMod, Nat.reducePow, Nat.reduceAdd, Nat.reduceSub, Nat.reduceMul, nm_bo, nm_bi, nm_rc, nm_ic, nm_ri, nm_rl, nm_rq, nm_ql, nm_qi, nm_li, nm_us, nm_uu, nm_cp, nm_sa31, nm_sa7, nm_m127, nm_m2, nm_nz, nm_nzk, nm_eq32, nm_nzf, if_true, if_false, ↓reduceIte, if_pos, if_neg]
    · have u3 : z < 2 ^ 31 := by omega
      by_cases zz : z = 0
      · subst zz
        have u4 : 0 ≤ k := by omega
        have u5 : k + 1 < 2 ^ 31 := by omega
        refine ⟨if gd = true ∧ 0 < k then nI 0 else -nI 22, f, g, ?_, ?_, hb, ?_⟩
        · rw [show df_X5_readName_t1_14 n (m + (j + 1) + 1 + 1) = dF_X5_readName_t1_14 n (df_X5_readName_t1_14 n (m + (j + 1) + 1)) from rfl]
          have two : ∀ G, dF_X5_readName_t1_14 n G (nI p) (nI A) (nI k) (bI gd) (nI (k + 1)) (pR K1 0 f, (K2, M)) = some (if gd = true ∧ 0 < k then nI 0 else -nI 22, (pR K1 0 f, (K2, M))) := fun G => by
            have e : dF_X5_readName_t1_14 n G (nI p) (nI A) (nI k) (bI gd) (nI (k + 1)) (pR K1 0 f, (K2, M)) = df_X5_readName_t1_110 n (nI k) (bI gd) (pR K1 0 f, (K2, M)) := by
              by_cases k15 : 16 ≤ k + 1
              · simp (disch := (first | assumption | decide | omega)) only [dF_X5_readName_t1_14, k15, eq_self, Nat.reduceEqDiff, Nat.reduceLeDiff, nl_0, nl_1, nl_14, nl_16, nl_33, nl_126, no_1, no_1024, pk_mul, nI_add, nm_ck, nI_clamp, nI_ltI, nI_leI, nI_eq, nb_b2, nb_b1, ↓nb_let, nm_z0, nm_z1, nb_II, nb_IR, nb_RI, nb_RR, nm_IL, nm_IQ, nm_RL, nm_RQ, nm_LI, nm_LR, nm_LL, nm_LQ, nm_QI, nm_QR, nm_QL, nm_QQ, nm_rr, nm_ii, nm_eqm, not_false_eq_true, pk_sub, nm_div, nm_shl, nm_shr, nm_ush, nm_or8, nm_or64, nm_or256, nm_m1, nm_m3, nm_m7, nm_m15, nm_m31, nm_m63, nm_m255, nm_m511, nm_m1023, nm_m2047, nm_m65535, Nat.reduceMod, Nat.reducePow, Nat.reduceAdd, Nat.reduceSub, Nat.reduceMul, nm_bo, nm_bi, nm_rc, nm_ic, nm_ri, nm_rl, nm_rq, nm_ql, nm_qi, nm_li, nm_us, nm_uu, nm_cp, nm_sa31, nm_sa7, nm_m127, nm_m2, nm_nz, nm_nzk, nm_eq32, nm_nzf, if_true, if_false, ↓reduceIte, if_pos, if_neg]
              · simp (disch := (first | assumption | decide | omega)) only [dF_X5_readName_t1_14, k15, u4, eq_self, Nat.reduceEqDiff, Nat.reduceLeDiff, nl_0, nl_1, nl_14, nl_16, nl_33, nl_126, no_1, no_1024, pk_mul, nI_add, nm_ck, nI_clamp, nI_ltI, nI_leI, nI_eq, nb_b2, nb_b1, ↓nb_let, nm_z0, nm_z1, nb_II, nb_IR, nb_RI, nb_RR, nm_IL, nm_IQ, nm_RL, nm_RQ, nm_LI, nm_LR, nm_LL, nm_LQ, nm_QI, nm_QR, nm_QL, nm_QQ, nm_rr, nm_ii, nm_eqm, not_false_eq_true, pk_sub, nm_div, nm_shl, nm_shr, nm_ush, nm_or8, nm_or64, nm_or256, nm_m1, nm_m3, nm_m7, nm_m15, nm_m31, nm_m63, nm_m255, nm_m511, nm_m1023, nm_m2047, nm_m65535, Nat.reduceMod, Nat.reducePow, Nat.reduceAdd, Nat.reduceSub, Nat.reduceMul, nm_bo, nm_bi, nm_rc, nm_ic, nm_ri, nm_rl, nm_rq, nm_ql, nm_qi, nm_li, nm_us, nm_uu, nm_cp, nm_sa31, nm_sa7, nm_m127, nm_m2, nm_nz, nm_nzk, nm_eq32, nm_nzf, if_true, if_false, ↓reduceIte, if_pos, if_neg]
            rw [e]
            cases gd with
            | true =>
              by_cases k0 : k ≤ 0
              · rw [if_neg (fun y => by omega)]
                simp (disch := (first | assumption | decide | omega)) only [df_X5_readName_t1_110, df_X5_readName_t1_124, df_X5_readName_t1_126, bI_t, k0, eq_self, Nat.reduceEqDiff, Nat.reduceLeDiff, nl_0, nl_22, no_1, no_1024, pk_mul, nI_add, nm_ck, nI_clamp, nI_ltI, nI_leI, nI_eq, nb_b2, nb_b1, ↓nb_let, nm_z0, nm_z1, nb_II, nb_IR, nb_RI, nb_RR, nm_IL, nm_IQ, nm_RL, nm_RQ, nm_LI, nm_LR, nm_LL, nm_LQ, nm_QI, nm_QR, nm_QL, nm_QQ, nm_rr, nm_ii, nm_eqm, not_false_eq_true, pk_sub, nm_div, nm_shl, nm_shr, nm_ush, nm_or8, nm_or64, nm_or256, nm_m1, nm_m3, nm_m7, nm_m15, nm_m31, nm_m63, nm_m255, nm_m511, nm_m1023, nm_m2047, nm_m65535, Nat.reduceMod, Nat.reducePow, Nat.reduceAdd, Nat.reduceSub, Nat.reduceMul, nm_bo, nm_bi, nm_rc, nm_ic, nm_ri, nm_rl, nm_rq, nm_ql, nm_qi, nm_li, nm_us, nm_uu, nm_cp, nm_sa31, nm_sa7, nm_m127, nm_m2, nm_nz, nm_nzk, nm_eq32, nm_nzf, if_true, if_false, ↓reduceIte, if_pos, if_neg]
              · rw [if_pos ⟨rfl, by omega⟩]
                simp (disch := (first | assumption | decide | omega)) only [df_X5_readName_t1_110, df_X5_readName_t1_124, df_X5_readName_t1_126, bI_t, k0, eq_self, Nat.reduceEqDiff, Nat.reduceLeDiff, nl_0, nl_22, no_1, no_1024, pk_mul, nI_add, nm_ck, nI_clamp, nI_ltI, nI_leI, nI_eq, nb_b2, nb_b1, ↓nb_let, nm_z0, nm_z1, nb_II, nb_IR, nb_RI, nb_RR, nm_IL, nm_IQ, nm_RL, nm_RQ, nm_LI, nm_LR, nm_LL, nm_LQ, nm_QI, nm_QR, nm_QL, nm_QQ, nm_rr, nm_ii, nm_eqm, not_false_eq_true, pk_sub, nm_div, nm_shl, nm_shr, nm_ush, nm_or8, nm_or64, nm_or256, nm_m1, nm_m3, nm_m7, nm_m15, nm_m31, nm_m63, nm_m255, nm_m511, nm_m1023, nm_m2047, nm_m65535, Nat.reduceMod, Nat.reducePow, Nat.reduceAdd, Nat.reduceSub, Nat.reduceMul, nm_bo, nm_bi, nm_rc, nm_ic, nm_ri, nm_rl, nm_rq, nm_ql, nm_qi, nm_li, nm_us, nm_uu, nm_cp, nm_sa31, nm_sa7, nm_m127, nm_m2, nm_nz, nm_nzk, nm_eq32, nm_nzf, if_true, if_false, ↓reduceIte, if_pos, if_neg]
            | false =>
              rw [if_neg (fun y => nomatch y.1)]
              simp (disch := (first | assumption | decide | omega)) only [df_X5_readName_t1_110, df_X5_readName_t1_124, df_X5_readName_t1_126, bI_f, eq_self, Nat.reduceEqDiff, Nat.reduceLeDiff, nl_0, nl_22, no_1, no_1024, pk_mul, nI_add, nm_ck, nI_clamp, nI_ltI, nI_leI, nI_eq, nb_b2, nb_b1, ↓nb_let, nm_z0, nm_z1, nb_II, nb_IR, nb_RI, nb_RR, nm_IL, nm_IQ, nm_RL, nm_RQ, nm_LI, nm_LR, nm_LL, nm_LQ, nm_QI, nm_QR, nm_QL, nm_QQ, nm_rr, nm_ii, nm_eqm, not_false_eq_true, pk_sub, nm_div, nm_shl, nm_shr, nm_ush, nm_or8, nm_or64, nm_or256, nm_m1, nm_m3, nm_m7, nm_m15, nm_m31, nm_m63, nm_m255, nm_m511, nm_m1023, nm_m2047, nm_m65535, Nat.reduceMod, Nat.reducePow, Nat.reduceAdd, Nat.reduceSub, Nat.reduceMul, nm_bo, nm_bi, nm_rc, nm_ic, nm_ri, nm_rl, nm_rq, nm_ql, nm_qi, nm_li, nm_us, nm_uu, nm_cp, nm_sa31, nm_sa7, nm_m127, nm_m2, nm_nz, nm_nzk, nm_eq32, nm_nzf, if_true, if_false, ↓reduceIte, if_pos, if_neg]
          have one : ∀ G, dF_X5_readName_t1_14 n G (nI p) (nI A) (-nI 1) (bI gd) (nI k) (pR K1 0 f, (K2, M)) = G (nI p) (nI A) (nI k) (bI gd) (nI (k + 1)) (pR K1 0 f, (K2, M)) := fun G => by
            simp (disch := (first | assumption | decide | omega)) only [dF_X5_readName_t1_14, df_X5_readName_t1_104, k16, z0, y1, y3, eq_self, Nat.reduceEqDiff, Nat.reduceLeDiff, nl_0, nl_1, nl_14, nl_16, nl_33, nl_126, no_1, no_1024, pk_mul, nI_add, nm_ck, nI_clamp, nI_ltI, nI_leI, nI_eq, nb_b2, nb_b1, ↓nb_let, nm_z0, nm_z1, nb_II, nb_IR, nb_RI, nb_RR, nm_IL, nm_IQ, nm_RL, nm_RQ, nm_LI, nm_LR, nm_LL, nm_LQ, nm_QI, nm_QR, nm_QL, nm_QQ, nm_rr, nm_ii, nm_eqm, not_false_eq_true, pk_sub, nm_div, nm_shl, nm_shr, nm_ush, nm_or8, nm_or64, nm_or256, nm_m1, nm_m3, nm_m7, nm_m15, nm_m31, nm_m63, nm_m255, nm_m511, nm_m1023, nm_m2047, nm_m65535, Nat.reduceMod, Nat.reducePow, Nat.reduceAdd, Nat.reduceSub, Nat.reduceMul, nm_bo, nm_bi, nm_rc, nm_ic, nm_ri, nm_rl, nm_rq, nm_ql, nm_qi, nm_li, nm_us, nm_uu, nm_cp, nm_sa31, nm_sa7, nm_m127, nm_m2, nm_nz, nm_nzk, nm_eq32, nm_nzf, if_true, if_false, ↓reduceIte, if_pos, if_neg]
          rw [one]
          exact two _
        · rw [show df_X16_nameAt_28 n (m' + (j + 1) + 1) = dF_X16_nameAt_28 n (df_X16_nameAt_28 n (m' + (j + 1))) from rfl]
          generalize df_X16_nameAt_28 n (m' + (j + 1)) = G
          cases gd with
          | true =>
            by_cases k0 : k ≤ 0
            · rw [if_neg (fun y => by omega)]
              simp (disch := (first | assumption | decide | omega)) only [dF_X16_nameAt_28, df_X16_nameAt_81, df_X16_nameAt_83, k16, e12, y2, y4, k0, eq_self, Nat.reduceEqDiff, Nat.reduceLeDiff, nl_0, nl_1, nl_12, nl_14, nl_16, nl_22, nl_32, nl_127, no_1, no_1024, pk_mul, nI_add, nm_ck, nI_clamp, nI_ltI, nI_leI, nI_eq, nb_b2, nb_b1, ↓nb_let, nm_z0, nm_z1, nb_II, nb_IR, nb_RI, nb_RR, nm_IL, nm_IQ, nm_RL, nm_RQ, nm_LI, nm_LR, nm_LL, nm_LQ, nm_QI, nm_QR, nm_QL, nm_QQ, nm_rr, nm_ii, nm_eqm, not_false_eq_true, pk_sub, nm_div, nm_shl, nm_shr, nm_ush, nm_or8, nm_or64, nm_or256, nm_m1, nm_m3, nm_m7, nm_m15, nm_m31, nm_m63, nm_m255, nm_m511, nm_m1023, nm_m2047, nm_m65535, Nat.reduceMod, Nat.reducePow, Nat.reduceAdd, Nat.reduceSub, Nat.reduceMul, nm_bo, nm_bi, nm_rc, nm_ic, nm_ri, nm_rl, nm_rq, nm_ql, nm_qi, nm_li, nm_us, nm_uu, nm_cp, nm_sa31, nm_sa7, nm_m127, nm_m2, nm_nz, nm_nzk, nm_eq32, nm_nzf, if_true, if_false, ↓reduceIte, if_pos, if_neg]
            · rw [if_pos ⟨rfl, by omega⟩]
              simp (disch := (first | assumption | decide | omega)) only [dF_X16_nameAt_28, df_X16_nameAt_81, df_X16_nameAt_83, k16, e12, y2, y4, k0, bI_t, eq_self, Nat.reduceEqDiff, Nat.reduceLeDiff, nl_0, nl_1, nl_12, nl_14, nl_16, nl_22, nl_32, nl_127, no_1, no_1024, pk_mul, nI_add, nm_ck, nI_clamp, nI_ltI, nI_leI, nI_eq, nb_b2, nb_b1, ↓nb_let, nm_z0, nm_z1, nb_II, nb_IR, nb_RI, nb_RR, nm_IL, nm_IQ, nm_RL, nm_RQ, nm_LI, nm_LR, nm_LL, nm_LQ, nm_QI, nm_QR, nm_QL, nm_QQ, nm_rr, nm_ii, nm_eqm, not_false_eq_true, pk_sub, nm_div, nm_shl, nm_shr, nm_ush, nm_or8, nm_or64, nm_or256, nm_m1, nm_m3, nm_m7, nm_m15, nm_m31, nm_m63, nm_m255, nm_m511, nm_m1023, nm_m2047, nm_m65535, Nat.reduceMod, Nat.reducePow, Nat.reduceAdd, Nat.reduceSub, Nat.reduceMul, nm_bo, nm_bi, nm_rc, nm_ic, nm_ri, nm_rl, nm_rq, nm_ql, nm_qi, nm_li, nm_us, nm_uu, nm_cp, nm_sa31, nm_sa7, nm_m127, nm_m2, nm_nz, nm_nzk, nm_eq32, nm_nzf, if_true, if_false, ↓reduceIte, if_pos, if_neg]
          | false =>
            rw [if_neg (fun y => nomatch y.1)]
            by_cases k0 : k ≤ 0
            · simp (disch := (first | assumption | decide | omega)) only [dF_X16_nameAt_28, df_X16_nameAt_81, df_X16_nameAt_83, k16, e12, y2, y4, k0, eq_self, Nat.reduceEqDiff, Nat.reduceLeDiff, nl_0, nl_1, nl_12, nl_14, nl_16, nl_22, nl_32, nl_127, no_1, no_1024, pk_mul, nI_add, nm_ck, nI_clamp, nI_ltI, nI_leI, nI_eq, nb_b2, nb_b1, ↓nb_let, nm_z0, nm_z1, nb_II, nb_IR, nb_RI, nb_RR, nm_IL, nm_IQ, nm_RL, nm_RQ, nm_LI, nm_LR, nm_LL, nm_LQ, nm_QI, nm_QR, nm_QL, nm_QQ, nm_rr, nm_ii, nm_eqm, not_false_eq_true, pk_sub, nm_div, nm_shl, nm_shr, nm_ush, nm_or8, nm_or64, nm_or256, nm_m1, nm_m3, nm_m7, nm_m15, nm_m31, nm_m63, nm_m255, nm_m511, nm_m1023, nm_m2047, nm_m65535, Nat.reduceMod, Nat.reducePow, Nat.reduceAdd, Nat.reduceSub, Nat.reduceMul, nm_bo, nm_bi, nm_rc, nm_ic, nm_ri, nm_rl, nm_rq, nm_ql, nm_qi, nm_li, nm_us, nm_uu, nm_cp, nm_sa31, nm_sa7, nm_m127, nm_m2, nm_nz, nm_nzk, nm_eq32, nm_nzf, if_true, if_false, ↓reduceIte, if_pos, if_neg]
            · simp (disch := (first | assumption | decide | omega)) only [dF_X16_nameAt_28, df_X16_nameAt_81, df_X16_nameAt_83, k16, e12, y2, y4, k0, bI_f, eq_self, Nat.reduceEqDiff, Nat.reduceLeDiff, nl_0, nl_1, nl_12, nl_14, nl_16, nl_22, nl_32, nl_127, no_1, no_1024, pk_mul, nI_add, nm_ck, nI_clamp, nI_ltI, nI_leI, nI_eq, nb_b2, nb_b1, ↓nb_let, nm_z0, nm_z1, nb_II, nb_IR, nb_RI, nb_RR, nm_IL, nm_IQ, nm_RL, nm_RQ, nm_LI, nm_LR, nm_LL, nm_LQ, nm_QI, nm_QR, nm_QL, nm_QQ, nm_rr, nm_ii, nm_eqm, not_false_eq_true, pk_sub, nm_div, nm_shl, nm_shr, nm_ush, nm_or8, nm_or64, nm_or256, nm_m1, nm_m3, nm_m7, nm_m15, nm_m31, nm_m63, nm_m255, nm_m511, nm_m1023, nm_m2047, nm_m65535, Nat.reduceMod, Nat.reducePow, Nat.reduceAdd, Nat.reduceSub, Nat.reduceMul, nm_bo, nm_bi, nm_rc, nm_ic, nm_ri, nm_rl, nm_rq, nm_ql, nm_qi, nm_li, nm_us, nm_uu, nm_cp, nm_sa31, nm_sa7, nm_m127, nm_m2, nm_nz, nm_nzk, nm_eq32, nm_nzf, if_true, if_false, ↓reduceIte, if_pos, if_neg]
        · by_cases c : gd = true ∧ 0 < k
          · rw [if_pos c]; exact Or.inl rfl
          · rw [if_neg c]; exact Or.inr (Or.inr rfl)
      · -- a byte of the name
        obtain ⟨v, f', g', i1, i2, i3, i4⟩ := ih (k + 1) m m' (upd f k (vp_nar .byte ((nI z).toInt8.toInt32))) (upd g k (nI z)) (gd && decide (33 ≤ z ∧ z ≤ 126)) (by omega) (fun i hi => by
          by_cases c : i = k
          · rw [c, nm_us, nm_us]; exact b8_z hz
          · rw [nm_un c, nm_un c]; exact hb i hi)
        refine ⟨v, f', g', ?_, ?_, i3, i4⟩
        · refine Eq.trans ?_ i1
          rw [show df_X5_readName_t1_14 n (m + (j + 1) + 1 + 1) = dF_X5_readName_t1_14 n (df_X5_readName_t1_14 n (m + (j + 1) + 1)) from rfl, show m + (j + 1) + 1 = m + j + 1 + 1 by omega]
          generalize df_X5_readName_t1_14 n (m + j + 1 + 1) = G
          cases gd with
          | false => simp (disch := (first | assumption | decide | omega)) only [dF_X5_readName_t1_14, df_X5_readName_t1_104, df_X5_readName_t1_95, df_X5_readName_t1_94, k16, z0, y1, y3, zz, bI_f, Bool.false_and, eq_self, Nat.reduceEqDiff, Nat.reduceLeDiff, nl_0, nl_1, nl_14, nl_16, nl_33, nl_126, no_1, no_1024, pk_mul, nI_add, nm_ck, nI_clamp, nI_ltI, nI_leI, nI_eq, nb_b2, nb_b1, ↓nb_let, nm_z0, nm_z1, nb_II, nb_IR, nb_RI, nb_RR, nm_IL, nm_IQ, nm_RL, nm_RQ, nm_LI, nm_LR, nm_LL, nm_LQ, nm_QI, nm_QR, nm_QL, nm_QQ, nm_rr, nm_ii, nm_eqm, not_false_eq_true, pk_sub, nm_div, nm_shl, nm_shr, nm_ush, nm_or8, nm_or64, nm_or256, nm_m1, nm_m3, nm_m7, nm_m15, nm_m31, nm_m63, nm_m255, nm_m511, nm_m1023, nm_m2047, nm_m65535, Nat.reduceMod, Nat.reducePow, Nat.reduceAdd, Nat.reduceSub, Nat.reduceMul, nm_bo, nm_bi, nm_rc, nm_ic, nm_ri, nm_rl, nm_rq, nm_ql, nm_qi, nm_li, nm_us, nm_uu, nm_cp, nm_sa31, nm_sa7, nm_m127, nm_m2, nm_nz, nm_nzk, nm_eq32, nm_nzf, if_true, if_false, ↓reduceIte, if_pos, if_neg]
          | true =>
            by_cases c1 : z < 33
            · rw [decide_eq_false (show ¬ (33 ≤ z ∧ z ≤ 126) by omega)]
              simp (disch := (first | assumption | decide | omega)) only [dF_X5_readName_t1_14, df_X5_readName_t1_104, df_X5_readName_t1_95, df_X5_readName_t1_94, k16, z0, y1, y3, zz, c1, bI_t, bI_f, Bool.and_false, eq_self, Nat.reduceEqDiff, Nat.reduceLeDiff, nl_0, nl_1, nl_14, nl_16, nl_33, nl_126, no_1, no_1024, pk_mul, nI_add, nm_ck, nI_clamp, nI_ltI, nI_leI, nI_eq, nb_b2, nb_b1, ↓nb_let, nm_z0, nm_z1, nb_II, nb_IR, nb_RI, nb_RR, nm_IL, nm_IQ, nm_RL, nm_RQ, nm_LI, nm_LR, nm_LL, nm_LQ, nm_QI, nm_QR, nm_QL, nm_QQ, nm_rr, nm_ii, nm_eqm, not_false_eq_true, pk_sub, nm_div, nm_shl, nm_shr, nm_ush, nm_or8, nm_or64, nm_or256, nm_m1, nm_m3, nm_m7, nm_m15, nm_m31, nm_m63, nm_m255, nm_m511, nm_m1023, nm_m2047, nm_m65535, Nat.reduceMod, Nat.reducePow, Nat.reduceAdd, Nat.reduceSub, Nat.reduceMul, nm_bo, nm_bi, nm_rc, nm_ic, nm_ri, nm_rl, nm_rq, nm_ql, nm_qi, nm_li, nm_us, nm_uu, nm_cp, nm_sa31, nm_sa7, nm_m127, nm_m2, nm_nz, nm_nzk, nm_eq32, nm_nzf, if_true, if_false, ↓reduceIte, if_pos, if_neg]
            · by_cases c2 : 126 < z
              · rw [decide_eq_false (show ¬ (33 ≤ z ∧ z ≤ 126) by omega)]
                simp (disch := (first | assumption | decide | omega)) only [dF_X5_readName_t1_14, df_X5_readName_t1_104, df_X5_readName_t1_95, df_X5_readName_t1_94, k16, z0, y1, y3, zz, c1, c2, bI_t, bI_f, Bool.and_false, eq_self, Nat.reduceEqDiff, Nat.reduceLeDiff, nl_0, nl_1, nl_14, nl_16, nl_33, nl_126, no_1, no_1024, pk_mul, nI_add, nm_ck, nI_clamp, nI_ltI, nI_leI, nI_eq, nb_b2, nb_b1, ↓nb_let, nm_z0, nm_z1, nb_II, nb_IR, nb_RI, nb_RR, nm_IL, nm_IQ, nm_RL, nm_RQ, nm_LI, nm_LR, nm_LL, nm_LQ, nm_QI, nm_QR, nm_QL, nm_QQ, nm_rr, nm_ii, nm_eqm, not_false_eq_true, pk_sub, nm_div, nm_shl, nm_shr, nm_ush, nm_or8, nm_or64, nm_or256, nm_m1, nm_m3, nm_m7, nm_m15, nm_m31, nm_m63, nm_m255, nm_m511, nm_m1023, nm_m2047, nm_m65535, Nat.reduceMod, Nat.reducePow, Nat.reduceAdd, Nat.reduceSub, Nat.reduceMul, nm_bo, nm_bi, nm_rc, nm_ic, nm_ri, nm_rl, nm_rq, nm_ql, nm_qi, nm_li, nm_us, nm_uu, nm_cp, nm_sa31, nm_sa7, nm_m127, nm_m2, nm_nz, nm_nzk, nm_eq32, nm_nzf, if_true, if_false, ↓reduceIte, if_pos, if_neg]
              · rw [decide_eq_true (show 33 ≤ z ∧ z ≤ 126 by omega)]
                simp (disch := (first | assumption | decide | omega)) only [dF_X5_readName_t1_14, df_X5_readName_t1_104, df_X5_readName_t1_95, df_X5_readName_t1_94, k16, z0, y1, y3, zz, c1, c2, bI_t, Bool.and_true, eq_self, Nat.reduceEqDiff, Nat.reduceLeDiff, nl_0, nl_1, nl_14, nl_16, nl_33, nl_126, no_1, no_1024, pk_mul, nI_add, nm_ck, nI_clamp, nI_ltI, nI_leI, nI_eq, nb_b2, nb_b1, ↓nb_let, nm_z0, nm_z1, nb_II, nb_IR, nb_RI, nb_RR, nm_IL, nm_IQ, nm_RL, nm_RQ, nm_LI, nm_LR, nm_LL, nm_LQ, nm_QI, nm_QR, nm_QL, nm_QQ, nm_rr, nm_ii, nm_eqm, not_false_eq_true, pk_sub, nm_div, nm_shl, nm_shr, nm_ush, nm_or8, nm_or64, nm_or256, nm_m1, nm_m3, nm_m7, nm_m15, nm_m31, nm_m63, nm_m255, nm_m511, nm_m1023, nm_m2047, nm_m65535, Nat.reduceMod, Nat.reducePow, Nat.reduceAdd, Nat.reduceSub, Nat.reduceMul, nm_bo, nm_bi, nm_rc, nm_ic, nm_ri, nm_rl, nm_rq, nm_ql, nm_qi, nm_li, nm_us, nm_uu, nm_cp, nm_sa31, nm_sa7, nm_m127, nm_m2, nm_nz, nm_nzk, nm_eq32, nm_nzf, if_true, if_false, ↓reduceIte, if_pos, if_neg]
        · refine Eq.trans ?_ i2
          rw [show df_X16_nameAt_28 n (m' + (j + 1) + 1) = dF_X16_nameAt_28 n (df_X16_nameAt_28 n (m' + (j + 1))) from rfl, show m' + (j + 1) = m' + j + 1 by omega]
          generalize df_X16_nameAt_28 n (m' + j + 1) = G
          cases gd with
          | false => simp (disch := (first | assumption | decide | omega)) only [dF_X16_nameAt_28, df_X16_nameAt_107, df_X16_nameAt_106, k16, e12, y2, y4, zz, bI_f, Bool.false_and, eq_self, Nat.reduceEqDiff, Nat.reduceLeDiff, nl_0, nl_1, nl_12, nl_14, nl_16, nl_22, nl_32, nl_33, nl_127, no_1, no_1024, pk_mul, nI_add, nm_ck, nI_clamp, nI_ltI, nI_leI, nI_eq, nb_b2, nb_b1, ↓nb_let, nm_z0, nm_z1, nb_II, nb_IR, nb_RI, nb_RR, nm_IL, nm_IQ, nm_RL, nm_RQ, nm_LI, nm_LR, nm_LL, nm_LQ, nm_QI, nm_QR, nm_QL, nm_QQ, nm_rr, nm_ii, nm_eqm, not_false_eq_true, pk_sub, nm_div, nm_shl, nm_shr, nm_ush, nm_or8, nm_or64, nm_or256, nm_m1, nm_m3, nm_m7, nm_m15, nm_m31, nm_m63, nm_m255, nm_m511, nm_m1023, nm_m2047, nm_m65535, Nat.reduceMod, Nat.reducePow, Nat.reduceAdd, Nat.reduceSub, Nat.reduceMul, nm_bo, nm_bi, nm_rc, nm_ic, nm_ri, nm_rl, nm_rq, nm_ql, nm_qi, nm_li, nm_us, nm_uu, nm_cp, nm_sa31, nm_sa7, nm_m127, nm_m2, nm_nz, nm_nzk, nm_eq32, nm_nzf, if_true, if_false, ↓reduceIte, if_pos, if_neg]
          | true =>
            by_cases c1 : z ≤ 32
            · rw [decide_eq_false (show ¬ (33 ≤ z ∧ z ≤ 126) by omega)]
              simp (disch := (first | assumption | decide | omega)) only [dF_X16_nameAt_28, df_X16_nameAt_107, df_X16_nameAt_106, k16, e12, y2, y4, zz, c1, bI_t, bI_f, Bool.and_false, eq_self, Nat.reduceEqDiff, Nat.reduceLeDiff, nl_0, nl_1, nl_12, nl_14, nl_16, nl_22, nl_32, nl_33, nl_127, no_1, no_1024, pk_mul, nI_add, nm_ck, nI_clamp, nI_ltI, nI_leI, nI_eq, nb_b2, nb_b1, ↓nb_let, nm_z0, nm_z1, nb_II, nb_IR, nb_RI, nb_RR, nm_IL, nm_IQ, nm_RL, nm_RQ, nm_LI, nm_LR, nm_LL, nm_LQ, nm_QI, nm_QR, nm_QL, nm_QQ, nm_rr, nm_ii, nm_eqm, not_false_eq_true, pk_sub, nm_div, nm_shl, nm_shr, nm_ush, nm_or8, nm_or64, nm_or256, nm_m1, nm_m3, nm_m7, nm_m15, nm_m31, nm_m63, nm_m255, nm_m511, nm_m1023, nm_m2047, nm_m65535, Nat.reduceMod, Nat.reducePow, Nat.reduceAdd, Nat.reduceSub, Nat.reduceMul, nm_bo, nm_bi, nm_rc, nm_ic, nm_ri, nm_rl, nm_rq, nm_ql, nm_qi, nm_li, nm_us, nm_uu, nm_cp, nm_sa31, nm_sa7, nm_m127, nm_m2, nm_nz, nm_nzk, nm_eq32, nm_nzf, if_true, if_false, ↓reduceIte, if_pos, if_neg]
            · by_cases c2 : 127 ≤ z
              · rw [decide_eq_false (show ¬ (33 ≤ z ∧ z ≤ 126) by omega)]
                simp (disch := (first | assumption | decide | omega)) only [dF_X16_nameAt_28, df_X16_nameAt_107, df_X16_nameAt_106, k16, e12, y2, y4, zz, c1, c2, bI_t, bI_f, Bool.and_false, eq_self, Nat.reduceEqDiff, Nat.reduceLeDiff, nl_0, nl_1, nl_12, nl_14, nl_16, nl_22, nl_32, nl_33, nl_127, no_1, no_1024, pk_mul, nI_add, nm_ck, nI_clamp, nI_ltI, nI_leI, nI_eq, nb_b2, nb_b1, ↓nb_let, nm_z0, nm_z1, nb_II, nb_IR, nb_RI, nb_RR, nm_IL, nm_IQ, nm_RL, nm_RQ, nm_LI, nm_LR, nm_LL, nm_LQ, nm_QI, nm_QR, nm_QL, nm_QQ, nm_rr, nm_ii, nm_eqm, not_false_eq_true, pk_sub, nm_div, nm_shl, nm_shr, nm_ush, nm_or8, nm_or64, nm_or256, nm_m1, nm_m3, nm_m7, nm_m15, nm_m31, nm_m63, nm_m255, nm_m511, nm_m1023, nm_m2047, nm_m65535, Nat.reduceMod, Nat.reducePow, Nat.reduceAdd, Nat.reduceSub, Nat.reduceMul, nm_bo, nm_bi, nm_rc, nm_ic, nm_ri, nm_rl, nm_rq, nm_ql, nm_qi, nm_li, nm_us, nm_uu, nm_cp, nm_sa31, nm_sa7, nm_m127, nm_m2, nm_nz, nm_nzk, nm_eq32, nm_nzf, if_true, if_false, ↓reduceIte, if_pos, if_neg]
              · rw [decide_eq_true (show 33 ≤ z ∧ z ≤ 126 by omega)]
                simp (disch := (first | assumption | decide | omega)) only [dF_X16_nameAt_28, df_X16_nameAt_107, df_X16_nameAt_106, k16, e12, y2, y4, zz, c1, c2, bI_t, Bool.and_true, eq_self, Nat.reduceEqDiff, Nat.reduceLeDiff, nl_0, nl_1, nl_12, nl_14, nl_16, nl_22, nl_32, nl_33, nl_127, no_1, no_1024, pk_mul, nI_add, nm_ck, nI_clamp, nI_ltI, nI_leI, nI_eq, nb_b2, nb_b1, ↓nb_let, nm_z0, nm_z1, nb_II, nb_IR, nb_RI, nb_RR, nm_IL, nm_IQ, nm_RL, nm_RQ, nm_LI, nm_LR, nm_LL, nm_LQ, nm_QI, nm_QR, nm_QL, nm_QQ, nm_rr, nm_ii, nm_eqm, not_false_eq_true, pk_sub, nm_div, nm_shl, nm_shr, nm_ush, nm_or8, nm_or64, nm_or256, nm_m1, nm_m3, nm_m7, nm_m15, nm_m31, nm_m63, nm_m255, nm_m511, nm_m1023, nm_m2047, nm_m65535, Nat.reduceMod, Nat.reducePow, Nat.reduceAdd, Nat.reduceSub, Nat.reduceMul, nm_bo, nm_bi, nm_rc, nm_ic, nm_ri, nm_rl, nm_rq, nm_ql, nm_qi, nm_li, nm_us, nm_uu, nm_cp, nm_sa31, nm_sa7, nm_m127, nm_m2, nm_nz, nm_nzk, nm_eq32, nm_nzf, if_true, if_false, ↓reduceIte, if_pos, if_neg]
/-- a name is read, in both -/
theorem nk_namet1 (n : Nat) (hn : 1024 < n) {M X : St × St} (h : rK M X) {p : Nat} (hp : p < 16) (e12 : sI X.1 12 = nI p) (a : Int32) {K1 K2 : St} : ∃ (v : Int32) (f g : Nat → Int32), df_X5_readName_t1 n (nI p) a (K1, (K2, M)) = some (v, (pR K1 0 f, (K2, M))) ∧ df_X16_nameAt n a X = some (v, (pR X.1 33 g, X.2)) ∧ (∀ i : Nat, i < 16 → b8 (f i) (g i)) ∧ (v = nI 0 ∨ v = -nI 14 ∨ v = -nI 22) := by
  obtain ⟨A, hA, rfl⟩ := nI_ex a
  obtain ⟨m, hm⟩ := nm_lq (fun m k => df_X16_nameAt_2 n m (nI A) (nI k) (pR X.1 33 (fl (sR X.1 33) 0 k (nI 0)), X.2)) 16 n (by omega) (fun k m hk => by
    have u1 : k < 16 := hk
    have u2 : k < 2 ^ 31 := by omega
    have k16 : ¬ 16 ≤ k := by omega
    have fs := fl_s (sR X.1 33) 0 k (nI 0)
    rw [Nat.zero_add] at fs
    rw [show df_X16_nameAt_2 n (m + 1) = dF_X16_nameAt_2 n (df_X16_nameAt_2 n m) from rfl]
    simp (disch := (first | assumption | decide | omega)) only [dF_X16_nameAt_2, k16, fs, eq_self, Nat.reduceEqDiff, Nat.reduceLeDiff, nl_0, nl_1, nl_16, nl_33, no_1, no_1024, pk_mul, nI_add, nm_ck, nI_clamp, nI_ltI, nI_leI, nI_eq, nb_b2, nb_b1, ↓nb_let, nm_z0, nm_z1, nb_II, nb_IR, nb_RI, nb_RR, nm_IL, nm_IQ, nm_RL, nm_RQ, nm_LI, nm_LR, nm_LL, nm_LQ, nm_QI, nm_QR, nm_QL, nm_QQ, nm_rr, nm_ii, nm_eqm, not_false_eq_true, pk_sub, nm_div, nm_shl, nm_shr, nm_ush, nm_or8, nm_or64, nm_or256, nm_m1, nm_m3, nm_m7, nm_m15, nm_m31, nm_m63, nm_m255, nm_m511, nm_m1023, nm_m2047, nm_m65535, Nat.reduceMod, Nat.reducePow, Nat.reduceAdd, Nat.reduceSub, Nat.reduceMul, nm_bo, nm_bi, nm_rc, nm_ic, nm_ri, nm_rl, nm_rq, nm_ql, nm_qi, nm_li, nm_us, nm_uu, nm_cp, nm_sa31, nm_sa7, nm_m127, nm_m2, nm_nz, nm_nzk, nm_eq32, nm_nzf, if_true, if_false, ↓reduceIte, if_pos, if_neg])
  rw [fl_0, nm_r0] at hm
  have e2 : df_X16_nameAt n (nI A) X = df_X16_nameAt_28 n n (nI A) (nI 0) (bI true) (nI 0) (pR X.1 33 (fl (sR X.1 33) 0 16 (nI 0)), X.2) := by
    refine Eq.trans (b := df_X16_nameAt_2 n n (nI A) (nI 0) X) rfl (Eq.trans hm ?_)
    show df_X16_nameAt_2 n (m + 1) (nI A) (nI 16) _ = _
    rw [show df_X16_nameAt_2 n (m + 1) = dF_X16_nameAt_2 n (df_X16_nameAt_2 n m) from rfl, bI_t]
    simp (disch := (first | assumption | decide | omega)) only [dF_X16_nameAt_2, eq_self, Nat.reduceEqDiff, Nat.reduceLeDiff, nl_0, nl_1, nl_16, nl_33, no_1, no_1024, pk_mul, nI_add, nm_ck, nI_clamp, nI_ltI, nI_leI, nI_eq, nb_b2, nb_b1, ↓nb_let, nm_z0, nm_z1, nb_II, nb_IR, nb_RI, nb_RR, nm_IL, nm_IQ, nm_RL, nm_RQ, nm_LI, nm_LR, nm_LL, nm_LQ, nm_QI, nm_QR, nm_QL, nm_QQ, nm_rr, nm_ii, nm_eqm, not_false_eq_true, pk_sub, nm_div, nm_shl, nm_shr, nm_ush, nm_or8, nm_or64, nm_or256, nm_m1, nm_m3, nm_m7, nm_m15, nm_m31, nm_m63, nm_m255, nm_m511, nm_m1023, nm_m2047, nm_m65535, Nat.reduceMod, Nat.reducePow, Nat.reduceAdd, Nat.reduceSub, Nat.reduceMul, nm_bo, nm_bi, nm_rc, nm_ic, nm_ri, nm_rl, nm_rq, nm_ql, nm_qi, nm_li, nm_us, nm_uu, nm_cp, nm_sa31, nm_sa7, nm_m127, nm_m2, nm_nz, nm_nzk, nm_eq32, nm_nzf, if_true, if_false, ↓reduceIte, if_pos, if_neg]
  have e1 : df_X5_readName_t1 n (nI p) (nI A) (K1, (K2, M)) = df_X5_readName_t1_14 n n (nI p) (nI A) (-nI 1) (bI true) (nI 0) (pR K1 0 (nd_fl 16 (vp_nar .byte 0) (sR K1 0)), (K2, M)) := by
    rw [bI_t]
    simp (disch := (first | assumption | decide | omega)) only [df_X5_readName_t1, df_X5_readName_t1_0, eq_self, Nat.reduceEqDiff, Nat.reduceLeDiff, nl_0, nl_1, nl_16, no_1, no_1024, pk_mul, nI_add, nm_ck, nI_clamp, nI_ltI, nI_leI, nI_eq, nb_b2, nb_b1, ↓nb_let, nm_z0, nm_z1, nb_II, nb_IR, nb_RI, nb_RR, nm_IL, nm_IQ, nm_RL, nm_RQ, nm_LI, nm_LR, nm_LL, nm_LQ, nm_QI, nm_QR, nm_QL, nm_QQ, nm_rr, nm_ii, nm_eqm, not_false_eq_true, pk_sub, nm_div, nm_shl, nm_shr, nm_ush, nm_or8, nm_or64, nm_or256, nm_m1, nm_m3, nm_m7, nm_m15, nm_m31, nm_m63, nm_m255, nm_m511, nm_m1023, nm_m2047, nm_m65535, Nat.reduceMod, Nat.reducePow, Nat.reduceAdd, Nat.reduceSub, Nat.reduceMul, nm_bo, nm_bi, nm_rc, nm_ic, nm_ri, nm_rl, nm_rq, nm_ql, nm_qi, nm_li, nm_us, nm_uu, nm_cp, nm_sa31, nm_sa7, nm_m127, nm_m2, nm_nz, nm_nzk, nm_eq32, nm_nzf, if_true, if_false, ↓reduceIte, if_pos, if_neg]
  obtain ⟨v, f', g', i1, i2, i3, i4⟩ := rn_tt1 n h hp e12 A (K1 := K1) (K2 := K2) 16 0 (n - 18) (n - 17) (nd_fl 16 (vp_nar .byte 0) (sR K1 0)) (fl (sR X.1 33) 0 16 (nI 0)) true (by omega) (fun i hi => by
    rw [show nd_fl 16 (vp_nar .byte 0) (sR K1 0) i = vp_nar .byte 0 from if_pos hi, fl_i (by omega)]
    exact b8_0)
  rw [show n - 18 + 16 + 1 + 1 = n by omega] at i1
  rw [show n - 17 + 16 + 1 = n by omega] at i2
  exact ⟨v, f', g', e1.trans i1, e2.trans i2, i3, i4⟩
/-- the turns of 'readName' and of 'nameAt' -/
theorem rn_tt2 (n : Nat) {M X : St × St} (h : rK M X) {p : Nat} (hp : p < 16) (e12 : sI X.1 12 = nI p) (A : Nat) {K1 K2 : St} : ∀ (j k m m' : Nat) (f g : Nat → Int32) (gd : Bool), k + j = 16 → (∀ i : Nat, i < 16 → b8 (f i) (g i)) → ∃ (v : Int32) (f' g' : Nat → Int32), df_X5_readName_t2_14 n (m + j + 1 + 1) (nI p) (nI A) (-nI 1) (bI gd) (nI k) (pR K1 1 f, (K2, M)) = some (v, (pR K1 1 f', (K2, M))) ∧ df_X16_nameAt_28 n (m' + j + 1) (nI A) (nI k) (bI gd) (nI k) (pR X.1 33 g, X.2) = some (v, (pR X.1 33 g', X.2)) ∧ (∀ i : Nat, i < 16 → b8 (f' i) (g' i)) ∧ (v = nI 0 ∨ v = -nI 14 ∨ v = -nI 22) := by
  have z0 : ¬ (nI 0 : Int32) ≤ -nI 1 := by decide
  have z1 : (-nI 1 : Int32) ≤ nI 0 := by decide
  intro j
  induction j with
  | zero =>
    intro k m m' f g gd hk hb
    have hk : k = 16 := hk
    subst hk
    refine ⟨-nI 22, f, g, ?_, ?_, hb, Or.inr (Or.inr rfl)⟩
    · rw [show df_X5_readName_t2_14 n (m + 0 + 1 + 1) = dF_X5_readName_t2_14 n (df_X5_readName_t2_14 n (m + 0 + 1)) from rfl]
      generalize df_X5_readName_t2_14 n (m + 0 + 1) = G
      cases gd with
      | true => simp (disch := (first | assumption | decide | omega)) only [dF_X5_readName_t2_14, df_X5_readName_t2_110, df_X5_readName_t2_124, df_X5_readName_t2_126, bI_t, z1, eq_self, Nat.reduceEqDiff, Nat.reduceLeDiff, nl_0, nl_1, nl_14, nl_16, nl_22, nl_33, nl_126, no_1, no_1024, pk_mul, nI_add, nm_ck, nI_clamp, nI_ltI, nI_leI, nI_eq, nb_b2, nb_b1, ↓nb_let, nm_z0, nm_z1, nb_II, nb_IR, nb_RI, nb_RR, nm_IL, nm_IQ, nm_RL, nm_RQ, nm_LI, nm_LR, nm_LL, nm_LQ, nm_QI, nm_QR, nm_QL, nm_QQ, nm_rr, nm_ii, nm_eqm, not_false_eq_true, pk_sub, nm_div, nm_shl, nm_shr, nm_ush, nm_or8, nm_or64, nm_or256, nm_m1, nm_m3, nm_m7, nm_m15, nm_m31, nm_m63, nm_m255, nm_m511, nm_m1023, nm_m2047, nm_m65535, Nat.reduceMod, Nat.reducePow, Nat.reduceAdd, Nat.reduceSub, Nat.reduceMul, nm_bo, nm_bi, nm_rc, nm_ic, nm_ri, nm_rl, nm_rq, nm_ql, nm_qi, nm_li, nm_us, nm_uu, nm_cp, nm_sa31, nm_sa7, nm_m127, nm_m2, nm_nz, nm_nzk, nm_eq32, nm_nzf, if_true, if_false, ↓reduceIte, if_pos, if_neg]
      | false => simp (disch := (first | assumption | decide | omega)) only [dF_X5_readName_t2_14, df_X5_readName_t2_110, df_X5_readName_t2_124, df_X5_readName_t2_126, bI_f, eq_self, Nat.reduceEqDiff, Nat.reduceLeDiff, nl_0, nl_1, nl_14, nl_16, nl_22, nl_33, nl_126, no_1, no_1024, pk_mul, nI_add, nm_ck, nI_clamp, nI_ltI, nI_leI, nI_eq, nb_b2, nb_b1, ↓nb_let, nm_z0, nm_z1, nb_II, nb_IR, nb_RI, nb_RR, nm_IL, nm_IQ, nm_RL, nm_RQ, nm_LI, nm_LR, nm_LL, nm_LQ, nm_QI, nm_QR, nm_QL, nm_QQ, nm_rr, nm_ii, nm_eqm, not_false_eq_true, pk_sub, nm_div, nm_shl, nm_shr, nm_ush, nm_or8, nm_or64, nm_or256, nm_m1, nm_m3, nm_m7, nm_m15, nm_m31, nm_m63, nm_m255, nm_m511, nm_m1023, nm_m2047, nm_m65535, Nat.reduceMod, Nat.reducePow, Nat.reduceAdd, Nat.reduceSub, Nat.reduceMul, nm_bo, nm_bi, nm_rc, nm_ic, nm_ri, nm_rl, nm_rq, nm_ql, nm_qi, nm_li, nm_us, nm_uu, nm_cp, nm_sa31, nm_sa7, nm_m127, nm_m2, nm_nz, nm_nzk, nm_eq32, nm_nzf, if_true, if_false, ↓reduceIte, if_pos, if_neg]
    · rw [show df_X16_nameAt_28 n (m' + 0 + 1) = dF_X16_nameAt_28 n (df_X16_nameAt_28 n (m' + 0)) from rfl]
      generalize df_X16_nameAt_28 n (m' + 0) = G
      simp (disch := (first | assumption | decide | omega)) only [dF_X16_nameAt_28, eq_self, Nat.reduceEqDiff, Nat.reduceLeDiff, nl_0, nl_1, nl_12, nl_14, nl_16, nl_22, nl_32, nl_127, no_1, no_1024, pk_mul, nI_add, nm_ck, nI_clamp, nI_ltI, nI_leI, nI_eq, nb_b2, nb_b1, ↓nb_let, nm_z0, nm_z1, nb_II, nb_IR, nb_RI, nb_RR, nm_IL, nm_IQ, nm_RL, nm_RQ, nm_LI, nm_LR, nm_LL, nm_LQ, nm_QI, nm_QR, nm_QL, nm_QQ, nm_rr, nm_ii, nm_eqm, not_false_eq_true, pk_sub, nm_div, nm_shl, nm_shr, nm_ush, nm_or8, nm_or64, nm_or256, nm_m1, nm_m3, nm_m7, nm_m15, nm_m31, nm_m63, nm_m255, nm_m511, nm_m1023, nm_m2047, nm_m65535, Nat.reduceMod, Nat.reducePow, Nat.reduceAdd, Nat.reduceSub, Nat.reduceMul, nm_bo, nm_bi, nm_rc, nm_ic, nm_ri, nm_rl, nm_rq, nm_ql, nm_qi, nm_li, nm_us, nm_uu, nm_cp, nm_sa31, nm_sa7, nm_m127, nm_m2, nm_nz, nm_nzk, nm_eq32, nm_nzf, if_true, if_false, ↓reduceIte, if_pos, if_neg]
  | succ j ih =>
    intro k m m' f g gd hk hb
    have k16 : ¬ 16 ≤ k := by omega
    have u1 : k < 2 ^ 31 := by omega
    have u2 : k < 16 := by omega
    have uX : rK M (pR X.1 33 g, X.2) := h
    have e12' : sI (pR X.1 33 g) 12 = nI p := e12
    rcases nk_nb n uX hp e12' (A + k) with ⟨y1, y2⟩ | ⟨z, hz, y1, y2, y3, y4⟩
    · refine ⟨-nI 14, f, g, ?_, ?_, hb, Or.inr (Or.inl rfl)⟩
      · rw [show df_X5_readName_t2_14 n (m + (j + 1) + 1 + 1) = dF_X5_readName_t2_14 n (df_X5_readName_t2_14 n (m + (j + 1) + 1)) from rfl]
        generalize df_X5_readName_t2_14 n (m + (j + 1) + 1) = G
        simp (disch := (first | assumption | decide | omega)) only [dF_X5_readName_t2_14, k16, z0, y1, eq_self, Nat.reduceEqDiff, Nat.reduceLeDiff, nl_0, nl_1, nl_14, nl_16, nl_33, nl_126, no_1, no_1024, pk_mul, nI_add, nm_ck, nI_clamp, nI_ltI, nI_leI, nI_eq, nb_b2, nb_b1, ↓nb_let, nm_z0, nm_z1, nb_II, nb_IR, nb_RI, nb_RR, nm_IL, nm_IQ, nm_RL, nm_RQ, nm_LI, nm_LR, nm_LL, nm_LQ, nm_QI, nm_QR, nm_QL, nm_QQ, nm_rr, nm_ii, nm_eqm, not_false_eq_true, pk_sub, nm_div, nm_shl, nm_shr, nm_ush, nm_or8, nm_or64, nm_or256, nm_m1, nm_m3, nm_m7, nm_m15, nm_m31, nm_m63, nm_m255, nm_m511, nm_m1023, nm_m2047, nm_m65535, Nat.reduceMod, Nat.reducePow, Nat.reduceAdd, Nat.reduceSub, Nat.reduceMul, nm_bo, nm_bi, nm_rc, nm_ic, nm_ri, nm_rl, nm_rq, nm_ql, nm_qi, nm_li, nm_us, nm_uu, nm_cp, nm_sa31, nm_sa7, nm_m127, nm_m2, nm_nz, nm_nzk, nm_eq32, nm_nzf, if_true, if_false, ↓reduceIte, if_pos, if_neg]
      · rw [show df_X16_nameAt_28 n (m' + (j + 1) + 1) = dF_X16_nameAt_28 n (df_X16_nameAt_28 n (m' + (j + 1))) from rfl]
        generalize df_X16_nameAt_28 n (m' + (j + 1)) = G
        simp (disch := (first | assumption | decide | omega)) only [dF_X16_nameAt_28, k16, e12, y2, eq_self, Nat.reduceEqDiff, Nat.reduceLeDiff, nl_0, nl_1, nl_12, nl_14, nl_16, nl_22, nl_32, nl_127, no_1, no_1024, pk_mul, nI_add, nm_ck, nI_clamp, nI_ltI, nI_leI, nI_eq, nb_b2, nb_b1, ↓nb_let, nm_z0, nm_z1, nb_II, nb_IR, nb_RI, nb_RR, nm_IL, nm_IQ, nm_RL, nm_RQ, nm_LI, nm_LR, nm_LL, nm_LQ, nm_QI, nm_QR, nm_QL, nm_QQ, nm_rr, nm_ii, nm_eqm, not_false_eq_true, pk_sub, nm_div, nm_shl, nm_shr, nm_ush, nm_or8, nm_or64, nm_or256, nm_m1, nm_m3, nm_m7, nm_m15, nm_m31, nm_m63, nm_m255, nm_m511, nm_m1023, nm_m2047, nm_m65535, Nat.reduceMod, Nat.reducePow, Nat.reduceAdd, Nat.reduceSub, Nat.reduceMul, nm_bo, nm_bi, nm_rc, nm_ic, nm_ri, nm_rl, nm_rq, nm_ql, nm_qi, nm_li, nm_us, nm_uu, nm_cp, nm_sa31, nm_sa7, nm_m127, nm_m2, nm_nz, nm_nzk, nm_eq32, nm_nzf, if_true, if_false, ↓reduceIte, if_pos, if_neg]
    · have u3 : z < 2 ^ 31 := by omega
      by_cases zz : z = 0
      · subst zz
        have u4 : 0 ≤ k := by omega
        have u5 : k + 1 < 2 ^ 31 := by omega
        refine ⟨if gd = true ∧ 0 < k then nI 0 else -nI 22, f, g, ?_, ?_, hb, ?_⟩
        · rw [show df_X5_readName_t2_14 n (m + (j + 1) + 1 + 1) = dF_X5_readName_t2_14 n (df_X5_readName_t2_14 n (m + (j + 1) + 1)) from rfl]
          have two : ∀ G, dF_X5_readName_t2_14 n G (nI p) (nI A) (nI k) (bI gd) (nI (k + 1)) (pR K1 1 f, (K2, M)) = some (if gd = true ∧ 0 < k then nI 0 else -nI 22, (pR K1 1 f, (K2, M))) := fun G => by
            have e : dF_X5_readName_t2_14 n G (nI p) (nI A) (nI k) (bI gd) (nI (k + 1)) (pR K1 1 f, (K2, M)) = df_X5_readName_t2_110 n (nI k) (bI gd) (pR K1 1 f, (K2, M)) := by
              by_cases k15 : 16 ≤ k + 1
              · simp (disch := (first | assumption | decide | omega)) only [dF_X5_readName_t2_14, k15, eq_self, Nat.reduceEqDiff, Nat.reduceLeDiff, nl_0, nl_1, nl_14, nl_16, nl_33, nl_126, no_1, no_1024, pk_mul, nI_add, nm_ck, nI_clamp, nI_ltI, nI_leI, nI_eq, nb_b2, nb_b1, ↓nb_let, nm_z0, nm_z1, nb_II, nb_IR, nb_RI, nb_RR, nm_IL, nm_IQ, nm_RL, nm_RQ, nm_LI, nm_LR, nm_LL, nm_LQ, nm_QI, nm_QR, nm_QL, nm_QQ, nm_rr, nm_ii, nm_eqm, not_false_eq_true, pk_sub, nm_div, nm_shl, nm_shr, nm_ush, nm_or8, nm_or64, nm_or256, nm_m1, nm_m3, nm_m7, nm_m15, nm_m31, nm_m63, nm_m255, nm_m511, nm_m1023, nm_m2047, nm_m65535, Nat.reduceMod, Nat.reducePow, Nat.reduceAdd, Nat.reduceSub, Nat.reduceMul, nm_bo, nm_bi, nm_rc, nm_ic, nm_ri, nm_rl, nm_rq, nm_ql, nm_qi, nm_li, nm_us, nm_uu, nm_cp, nm_sa31, nm_sa7, nm_m127, nm_m2, nm_nz, nm_nzk, nm_eq32, nm_nzf, if_true, if_false, ↓reduceIte, if_pos, if_neg]
              · simp (disch := (first | assumption | decide | omega)) only [dF_X5_readName_t2_14, k15, u4, eq_self, Nat.reduceEqDiff, Nat.reduceLeDiff, nl_0, nl_1, nl_14, nl_16, nl_33, nl_126, no_1, no_1024, pk_mul, nI_add, nm_ck, nI_clamp, nI_ltI, nI_leI, nI_eq, nb_b2, nb_b1, ↓nb_let, nm_z0, nm_z1, nb_II, nb_IR, nb_RI, nb_RR, nm_IL, nm_IQ, nm_RL, nm_RQ, nm_LI, nm_LR, nm_LL, nm_LQ, nm_QI, nm_QR, nm_QL, nm_QQ, nm_rr, nm_ii, nm_eqm, not_false_eq_true, pk_sub, nm_div, nm_shl, nm_shr, nm_ush, nm_or8, nm_or64, nm_or256, nm_m1, nm_m3, nm_m7, nm_m15, nm_m31, nm_m63, nm_m255, nm_m511, nm_m1023, nm_m2047, nm_m65535, Nat.reduceMod, Nat.reducePow, Nat.reduceAdd, Nat.reduceSub, Nat.reduceMul, nm_bo, nm_bi, nm_rc, nm_ic, nm_ri, nm_rl, nm_rq, nm_ql, nm_qi, nm_li, nm_us, nm_uu, nm_cp, nm_sa31, nm_sa7, nm_m127, nm_m2, nm_nz, nm_nzk, nm_eq32, nm_nzf, if_true, if_false, ↓reduceIte, if_pos, if_neg]
            rw [e]
            cases gd with
            | true =>
              by_cases k0 : k ≤ 0
              · rw [if_neg (fun y => by omega)]
                simp (disch := (first | assumption | decide | omega)) only [df_X5_readName_t2_110, df_X5_readName_t2_124, df_X5_readName_t2_126, bI_t, k0, eq_self, Nat.reduceEqDiff, Nat.reduceLeDiff, nl_0, nl_22, no_1, no_1024, pk_mul, nI_add, nm_ck, nI_clamp, nI_ltI, nI_leI, nI_eq, nb_b2, nb_b1, ↓nb_let, nm_z0, nm_z1, nb_II, nb_IR, nb_RI, nb_RR, nm_IL, nm_IQ, nm_RL, nm_RQ, nm_LI, nm_LR, nm_LL, nm_LQ, nm_QI, nm_QR, nm_QL, nm_QQ, nm_rr, nm_ii, nm_eqm, not_false_eq_true, pk_sub, nm_div, nm_shl, nm_shr, nm_ush, nm_or8, nm_or64, nm_or256, nm_m1, nm_m3, nm_m7, nm_m15, nm_m31, nm_m63, nm_m255, nm_m511, nm_m1023, nm_m2047, nm_m65535, Nat.reduceMod, Nat.reducePow, Nat.reduceAdd, Nat.reduceSub, Nat.reduceMul, nm_bo, nm_bi, nm_rc, nm_ic, nm_ri, nm_rl, nm_rq, nm_ql, nm_qi, nm_li, nm_us, nm_uu, nm_cp, nm_sa31, nm_sa7, nm_m127, nm_m2, nm_nz, nm_nzk, nm_eq32, nm_nzf, if_true, if_false, ↓reduceIte, if_pos, if_neg]
              · rw [if_pos ⟨rfl, by omega⟩]
                simp (disch := (first | assumption | decide | omega)) only [df_X5_readName_t2_110, df_X5_readName_t2_124, df_X5_readName_t2_126, bI_t, k0, eq_self, Nat.reduceEqDiff, Nat.reduceLeDiff, nl_0, nl_22, no_1, no_1024, pk_mul, nI_add, nm_ck, nI_clamp, nI_ltI, nI_leI, nI_eq, nb_b2, nb_b1, ↓nb_let, nm_z0, nm_z1, nb_II, nb_IR, nb_RI, nb_RR, nm_IL, nm_IQ, nm_RL, nm_RQ, nm_LI, nm_LR, nm_LL, nm_LQ, nm_QI, nm_QR, nm_QL, nm_QQ, nm_rr, nm_ii, nm_eqm, not_false_eq_true, pk_sub, nm_div, nm_shl, nm_shr, nm_ush, nm_or8, nm_or64, nm_or256, nm_m1, nm_m3, nm_m7, nm_m15, nm_m31, nm_m63, nm_m255, nm_m511, nm_m1023, nm_m2047, nm_m65535, Nat.reduceMod, Nat.reducePow, Nat.reduceAdd, Nat.reduceSub, Nat.reduceMul, nm_bo, nm_bi, nm_rc, nm_ic, nm_ri, nm_rl, nm_rq, nm_ql, nm_qi, nm_li, nm_us, nm_uu, nm_cp, nm_sa31, nm_sa7, nm_m127, nm_m2, nm_nz, nm_nzk, nm_eq32, nm_nzf, if_true, if_false, ↓reduceIte, if_pos, if_neg]
            | false =>
              rw [if_neg (fun y => nomatch y.1)]
              simp (disch := (first | assumption | decide | omega)) only [df_X5_readName_t2_110, df_X5_readName_t2_124, df_X5_readName_t2_126, bI_f, eq_self, Nat.reduceEqDiff, Nat.reduceLeDiff, nl_0, nl_22, no_1, no_1024, pk_mul, nI_add, nm_ck, nI_clamp, nI_ltI, nI_leI, nI_eq, nb_b2, nb_b1, ↓nb_let, nm_z0, nm_z1, nb_II, nb_IR, nb_RI, nb_RR, nm_IL, nm_IQ, nm_RL, nm_RQ, nm_LI, nm_LR, nm_LL, nm_LQ, nm_QI, nm_QR, nm_QL, nm_QQ, nm_rr, nm_ii, nm_eqm, not_false_eq_true, pk_sub, nm_div, nm_shl, nm_shr, nm_ush, nm_or8, nm_or64, nm_or256, nm_m1, nm_m3, nm_m7, nm_m15, nm_m31, nm_m63, nm_m255, nm_m511, nm_m1023, nm_m2047, nm_m65535, Nat.reduceMod, Nat.reducePow, Nat.reduceAdd, Nat.reduceSub, Nat.reduceMul, nm_bo, nm_bi, nm_rc, nm_ic, nm_ri, nm_rl, nm_rq, nm_ql, nm_qi, nm_li, nm_us, nm_uu, nm_cp, nm_sa31, nm_sa7, nm_m127, nm_m2, nm_nz, nm_nzk, nm_eq32, nm_nzf, if_true, if_false, ↓reduceIte, if_pos, if_neg]
          have one : ∀ G, dF_X5_readName_t2_14 n G (nI p) (nI A) (-nI 1) (bI gd) (nI k) (pR K1 1 f, (K2, M)) = G (nI p) (nI A) (nI k) (bI gd) (nI (k + 1)) (pR K1 1 f, (K2, M)) := fun G => by
            simp (disch := (first | assumption | decide | omega)) only [dF_X5_readName_t2_14, df_X5_readName_t2_104, k16, z0, y1, y3, eq_self, Nat.reduceEqDiff, Nat.reduceLeDiff, nl_0, nl_1, nl_14, nl_16, nl_33, nl_126, no_1, no_1024, pk_mul, nI_add, nm_ck, nI_clamp, nI_ltI, nI_leI, nI_eq, nb_b2, nb_b1, ↓nb_let, nm_z0, nm_z1, nb_II, nb_IR, nb_RI, nb_RR, nm_IL, nm_IQ, nm_RL, nm_RQ, nm_LI, nm_LR, nm_LL, nm_LQ, nm_QI, nm_QR, nm_QL, nm_QQ, nm_rr, nm_ii, nm_eqm, not_false_eq_true, pk_sub, nm_div, nm_shl, nm_shr, nm_ush, nm_or8, nm_or64, nm_or256, nm_m1, nm_m3, nm_m7, nm_m15, nm_m31, nm_m63, nm_m255, nm_m511, nm_m1023, nm_m2047, nm_m65535, Nat.reduceMod, Nat.reducePow, Nat.reduceAdd, Nat.reduceSub, Nat.reduceMul, nm_bo, nm_bi, nm_rc, nm_ic, nm_ri, nm_rl, nm_rq, nm_ql, nm_qi, nm_li, nm_us, nm_uu, nm_cp, nm_sa31, nm_sa7, nm_m127, nm_m2, nm_nz, nm_nzk, nm_eq32, nm_nzf, if_true, if_false, ↓reduceIte, if_pos, if_neg]
          rw [one]
          exact two _
        · rw [show df_X16_nameAt_28 n (m' + (j + 1) + 1) = dF_X16_nameAt_28 n (df_X16_nameAt_28 n (m' + (j + 1))) from rfl]
          generalize df_X16_nameAt_28 n (m' + (j + 1)) = G
          cases gd with
          | true =>
            by_cases k0 : k ≤ 0
            · rw [if_neg (fun y => by omega)]
              simp (disch := (first | assumption | decide | omega)) only [dF_X16_nameAt_28, df_X16_nameAt_81, df_X16_nameAt_83, k16, e12, y2, y4, k0, eq_self, Nat.reduceEqDiff, Nat.reduceLeDiff, nl_0, nl_1, nl_12, nl_14, nl_16, nl_22, nl_32, nl_127, no_1, no_1024, pk_mul, nI_add, nm_ck, nI_clamp, nI_ltI, nI_leI, nI_eq, nb_b2, nb_b1, ↓nb_let, nm_z0, nm_z1, nb_II, nb_IR, nb_RI, nb_RR, nm_IL, nm_IQ, nm_RL, nm_RQ, nm_LI, nm_LR, nm_LL, nm_LQ, nm_QI, nm_QR, nm_QL, nm_QQ, nm_rr, nm_ii, nm_eqm, not_false_eq_true, pk_sub, nm_div, nm_shl, nm_shr, nm_ush, nm_or8, nm_or64, nm_or256, nm_m1, nm_m3, nm_m7, nm_m15, nm_m31, nm_m63, nm_m255, nm_m511, nm_m1023, nm_m2047, nm_m65535, Nat.reduceMod, Nat.reducePow, Nat.reduceAdd, Nat.reduceSub, Nat.reduceMul, nm_bo, nm_bi, nm_rc, nm_ic, nm_ri, nm_rl, nm_rq, nm_ql, nm_qi, nm_li, nm_us, nm_uu, nm_cp, nm_sa31, nm_sa7, nm_m127, nm_m2, nm_nz, nm_nzk, nm_eq32, nm_nzf, if_true, if_false, ↓reduceIte, if_pos, if_neg]
            · rw [if_pos ⟨rfl, by omega⟩]
              simp (disch := (first | assumption | decide | omega)) only [dF_X16_nameAt_28, df_X16_nameAt_81, df_X16_nameAt_83, k16, e12, y2, y4, k0, bI_t, eq_self, Nat.reduceEqDiff, Nat.reduceLeDiff, nl_0, nl_1, nl_12, nl_14, nl_16, nl_22, nl_32, nl_127, no_1, no_1024, pk_mul, nI_add, nm_ck, nI_clamp, nI_ltI, nI_leI, nI_eq, nb_b2, nb_b1, ↓nb_let, nm_z0, nm_z1, nb_II, nb_IR, nb_RI, nb_RR, nm_IL, nm_IQ, nm_RL, nm_RQ, nm_LI, nm_LR, nm_LL, nm_LQ, nm_QI, nm_QR, nm_QL, nm_QQ, nm_rr, nm_ii, nm_eqm, not_false_eq_true, pk_sub, nm_div, nm_shl, nm_shr, nm_ush, nm_or8, nm_or64, nm_or256, nm_m1, nm_m3, nm_m7, nm_m15, nm_m31, nm_m63, nm_m255, nm_m511, nm_m1023, nm_m2047, nm_m65535, Nat.reduceMod, Nat.reducePow, Nat.reduceAdd, Nat.reduceSub, Nat.reduceMul, nm_bo, nm_bi, nm_rc, nm_ic, nm_ri, nm_rl, nm_rq, nm_ql, nm_qi, nm_li, nm_us, nm_uu, nm_cp, nm_sa31, nm_sa7, nm_m127, nm_m2, nm_nz, nm_nzk, nm_eq32, nm_nzf, if_true, if_false, ↓reduceIte, if_pos, if_neg]
          | false =>
            rw [if_neg (fun y => nomatch y.1)]
            by_cases k0 : k ≤ 0
            · simp (disch := (first | assumption | decide | omega)) only [dF_X16_nameAt_28, df_X16_nameAt_81, df_X16_nameAt_83, k16, e12, y2, y4, k0, eq_self, Nat.reduceEqDiff, Nat.reduceLeDiff, nl_0, nl_1, nl_12, nl_14, nl_16, nl_22, nl_32, nl_127, no_1, no_1024, pk_mul, nI_add, nm_ck, nI_clamp, nI_ltI, nI_leI, nI_eq, nb_b2, nb_b1, ↓nb_let, nm_z0, nm_z1, nb_II, nb_IR, nb_RI, nb_RR, nm_IL, nm_IQ, nm_RL, nm_RQ, nm_LI, nm_LR, nm_LL, nm_LQ, nm_QI, nm_QR, nm_QL, nm_QQ, nm_rr, nm_ii, nm_eqm, not_false_eq_true, pk_sub, nm_div, nm_shl, nm_shr, nm_ush, nm_or8, nm_or64, nm_or256, nm_m1, nm_m3, nm_m7, nm_m15, nm_m31, nm_m63, nm_m255, nm_m511, nm_m1023, nm_m2047, nm_m65535, Nat.reduceMod, Nat.reducePow, Nat.reduceAdd, Nat.reduceSub, Nat.reduceMul, nm_bo, nm_bi, nm_rc, nm_ic, nm_ri, nm_rl, nm_rq, nm_ql, nm_qi, nm_li, nm_us, nm_uu, nm_cp, nm_sa31, nm_sa7, nm_m127, nm_m2, nm_nz, nm_nzk, nm_eq32, nm_nzf, if_true, if_false, ↓reduceIte, if_pos, if_neg]
            · simp (disch := (first | assumption | decide | omega)) only [dF_X16_nameAt_28, df_X16_nameAt_81, df_X16_nameAt_83, k16, e12, y2, y4, k0, bI_f, eq_self, Nat.reduceEqDiff, Nat.reduceLeDiff, nl_0, nl_1, nl_12, nl_14, nl_16, nl_22, nl_32, nl_127, no_1, no_1024, pk_mul, nI_add, nm_ck, nI_clamp, nI_ltI, nI_leI, nI_eq, nb_b2, nb_b1, ↓nb_let, nm_z0, nm_z1, nb_II, nb_IR, nb_RI, nb_RR, nm_IL, nm_IQ, nm_RL, nm_RQ, nm_LI, nm_LR, nm_LL, nm_LQ, nm_QI, nm_QR, nm_QL, nm_QQ, nm_rr, nm_ii, nm_eqm, not_false_eq_true, pk_sub, nm_div, nm_shl, nm_shr, nm_ush, nm_or8, nm_or64, nm_or256, nm_m1, nm_m3, nm_m7, nm_m15, nm_m31, nm_m63, nm_m255, nm_m511, nm_m1023, nm_m2047, nm_m65535, Nat.reduceMod, Nat.reducePow, Nat.reduceAdd, Nat.reduceSub, Nat.reduceMul, nm_bo, nm_bi, nm_rc, nm_ic, nm_ri, nm_rl, nm_rq, nm_ql, nm_qi, nm_li, nm_us, nm_uu, nm_cp, nm_sa31, nm_sa7, nm_m127, nm_m2, nm_nz, nm_nzk, nm_eq32, nm_nzf, if_true, if_false, ↓reduceIte, if_pos, if_neg]
        · by_cases c : gd = true ∧ 0 < k
          · rw [if_pos c]; exact Or.inl rfl
          · rw [if_neg c]; exact Or.inr (Or.inr rfl)
      · -- a byte of the name
        obtain ⟨v, f', g', i1, i2, i3, i4⟩ := ih (k + 1) m m' (upd f k (vp_nar .byte ((nI z).toInt8.toInt32))) (upd g k (nI z)) (gd && decide (33 ≤ z ∧ z ≤ 126)) (by omega) (fun i hi => by
          by_cases c : i = k
          · rw [c, nm_us, nm_us]; exact b8_z hz
          · rw [nm_un c, nm_un c]; exact hb i hi)
        refine ⟨v, f', g', ?_, ?_, i3, i4⟩
        · refine Eq.trans ?_ i1
          rw [show df_X5_readName_t2_14 n (m + (j + 1) + 1 + 1) = dF_X5_readName_t2_14 n (df_X5_readName_t2_14 n (m + (j + 1) + 1)) from rfl, show m + (j + 1) + 1 = m + j + 1 + 1 by omega]
          generalize df_X5_readName_t2_14 n (m + j + 1 + 1) = G
          cases gd with
          | false => simp (disch := (first | assumption | decide | omega)) only [dF_X5_readName_t2_14, df_X5_readName_t2_104, df_X5_readName_t2_95, df_X5_readName_t2_94, k16, z0, y1, y3, zz, bI_f, Bool.false_and, eq_self, Nat.reduceEqDiff, Nat.reduceLeDiff, nl_0, nl_1, nl_14, nl_16, nl_33, nl_126, no_1, no_1024, pk_mul, nI_add, nm_ck, nI_clamp, nI_ltI, nI_leI, nI_eq, nb_b2, nb_b1, ↓nb_let, nm_z0, nm_z1, nb_II, nb_IR, nb_RI, nb_RR, nm_IL, nm_IQ, nm_RL, nm_RQ, nm_LI, nm_LR, nm_LL, nm_LQ, nm_QI, nm_QR, nm_QL, nm_QQ, nm_rr, nm_ii, nm_eqm, not_false_eq_true, pk_sub, nm_div, nm_shl, nm_shr, nm_ush, nm_or8, nm_or64, nm_or256, nm_m1, nm_m3, nm_m7, nm_m15, nm_m31, nm_m63, nm_m255, nm_m511, nm_m1023, nm_m2047, nm_m65535, Nat.reduceMod, Nat.reducePow, Nat.reduceAdd, Nat.reduceSub, Nat.reduceMul, nm_bo, nm_bi, nm_rc, nm_ic, nm_ri, nm_rl, nm_rq, nm_ql, nm_qi, nm_li, nm_us, nm_uu, nm_cp, nm_sa31, nm_sa7, nm_m127, nm_m2, nm_nz, nm_nzk, nm_eq32, nm_nzf, if_true, if_false, ↓reduceIte, if_pos, if_neg]
          | true =>
            by_cases c1 : z < 33
            · rw [decide_eq_false (show ¬ (33 ≤ z ∧ z ≤ 126) by omega)]
              simp (disch := (first | assumption | decide | omega)) only [dF_X5_readName_t2_14, df_X5_readName_t2_104, df_X5_readName_t2_95, df_X5_readName_t2_94, k16, z0, y1, y3, zz, c1, bI_t, bI_f, Bool.and_false, eq_self, Nat.reduceEqDiff, Nat.reduceLeDiff, nl_0, nl_1, nl_14, nl_16, nl_33, nl_126, no_1, no_1024, pk_mul, nI_add, nm_ck, nI_clamp, nI_ltI, nI_leI, nI_eq, nb_b2, nb_b1, ↓nb_let, nm_z0, nm_z1, nb_II, nb_IR, nb_RI, nb_RR, nm_IL, nm_IQ, nm_RL, nm_RQ, nm_LI, nm_LR, nm_LL, nm_LQ, nm_QI, nm_QR, nm_QL, nm_QQ, nm_rr, nm_ii, nm_eqm, not_false_eq_true, pk_sub, nm_div, nm_shl, nm_shr, nm_ush, nm_or8, nm_or64, nm_or256, nm_m1, nm_m3, nm_m7, nm_m15, nm_m31, nm_m63, nm_m255, nm_m511, nm_m1023, nm_m2047, nm_m65535, Nat.reduceMod, Nat.reducePow, Nat.reduceAdd, Nat.reduceSub, Nat.reduceMul, nm_bo, nm_bi, nm_rc, nm_ic, nm_ri, nm_rl, nm_rq, nm_ql, nm_qi, nm_li, nm_us, nm_uu, nm_cp, nm_sa31, nm_sa7, nm_m127, nm_m2, nm_nz, nm_nzk, nm_eq32, nm_nzf, if_true, if_false, ↓reduceIte, if_pos, if_neg]
            · by_cases c2 : 126 < z
              · rw [decide_eq_false (show ¬ (33 ≤ z ∧ z ≤ 126) by omega)]
                simp (disch := (first | assumption | decide | omega)) only [dF_X5_readName_t2_14, df_X5_readName_t2_104, df_X5_readName_t2_95, df_X5_readName_t2_94, k16, z0, y1, y3, zz, c1, c2, bI_t, bI_f, Bool.and_false, eq_self, Nat.reduceEqDiff, Nat.reduceLeDiff, nl_0, nl_1, nl_14, nl_16, nl_33, nl_126, no_1, no_1024, pk_mul, nI_add, nm_ck, nI_clamp, nI_ltI, nI_leI, nI_eq, nb_b2, nb_b1, ↓nb_let, nm_z0, nm_z1, nb_II, nb_IR, nb_RI, nb_RR, nm_IL, nm_IQ, nm_RL, nm_RQ, nm_LI, nm_LR, nm_LL, nm_LQ, nm_QI, nm_QR, nm_QL, nm_QQ, nm_rr, nm_ii, nm_eqm, not_false_eq_true, pk_sub, nm_div, nm_shl, nm_shr, nm_ush, nm_or8, nm_or64, nm_or256, nm_m1, nm_m3, nm_m7, nm_m15, nm_m31, nm_m63, nm_m255, nm_m511, nm_m1023, nm_m2047, nm_m65535, Nat.reduceMod, Nat.reducePow, Nat.reduceAdd, Nat.reduceSub, Nat.reduceMul, nm_bo, nm_bi, nm_rc, nm_ic, nm_ri, nm_rl, nm_rq, nm_ql, nm_qi, nm_li, nm_us, nm_uu, nm_cp, nm_sa31, nm_sa7, nm_m127, nm_m2, nm_nz, nm_nzk, nm_eq32, nm_nzf, if_true, if_false, ↓reduceIte, if_pos, if_neg]
              · rw [decide_eq_true (show 33 ≤ z ∧ z ≤ 126 by omega)]
                simp (disch := (first | assumption | decide | omega)) only [dF_X5_readName_t2_14, df_X5_readName_t2_104, df_X5_readName_t2_95, df_X5_readName_t2_94, k16, z0, y1, y3, zz, c1, c2, bI_t, Bool.and_true, eq_self, Nat.reduceEqDiff, Nat.reduceLeDiff, nl_0, nl_1, nl_14, nl_16, nl_33, nl_126, no_1, no_1024, pk_mul, nI_add, nm_ck, nI_clamp, nI_ltI, nI_leI, nI_eq, nb_b2, nb_b1, ↓nb_let, nm_z0, nm_z1, nb_II, nb_IR, nb_RI, nb_RR, nm_IL, nm_IQ, nm_RL, nm_RQ, nm_LI, nm_LR, nm_LL, nm_LQ, nm_QI, nm_QR, nm_QL, nm_QQ, nm_rr, nm_ii, nm_eqm, not_false_eq_true, pk_sub, nm_div, nm_shl, nm_shr, nm_ush, nm_or8, nm_or64, nm_or256, nm_m1, nm_m3, nm_m7, nm_m15, nm_m31, nm_m63, nm_m255, nm_m511, nm_m1023, nm_m2047, nm_m65535, Nat.reduceMod, Nat.reducePow, Nat.reduceAdd, Nat.reduceSub, Nat.reduceMul, nm_bo, nm_bi, nm_rc, nm_ic, nm_ri, nm_rl, nm_rq, nm_ql, nm_qi, nm_li, nm_us, nm_uu, nm_cp, nm_sa31, nm_sa7, nm_m127, nm_m2, nm_nz, nm_nzk, nm_eq32, nm_nzf, if_true, if_false, ↓reduceIte, if_pos, if_neg]
        · refine Eq.trans ?_ i2
          rw [show df_X16_nameAt_28 n (m' + (j + 1) + 1) = dF_X16_nameAt_28 n (df_X16_nameAt_28 n (m' + (j + 1))) from rfl, show m' + (j + 1) = m' + j + 1 by omega]
          generalize df_X16_nameAt_28 n (m' + j + 1) = G
          cases gd with
          | false => simp (disch := (first | assumption | decide | omega)) only [dF_X16_nameAt_28, df_X16_nameAt_107, df_X16_nameAt_106, k16, e12, y2, y4, zz, bI_f, Bool.false_and, eq_self, Nat.reduceEqDiff, Nat.reduceLeDiff, nl_0, nl_1, nl_12, nl_14, nl_16, nl_22, nl_32, nl_33, nl_127, no_1, no_1024, pk_mul, nI_add, nm_ck, nI_clamp, nI_ltI, nI_leI, nI_eq, nb_b2, nb_b1, ↓nb_let, nm_z0, nm_z1, nb_II, nb_IR, nb_RI, nb_RR, nm_IL, nm_IQ, nm_RL, nm_RQ, nm_LI, nm_LR, nm_LL, nm_LQ, nm_QI, nm_QR, nm_QL, nm_QQ, nm_rr, nm_ii, nm_eqm, not_false_eq_true, pk_sub, nm_div, nm_shl, nm_shr, nm_ush, nm_or8, nm_or64, nm_or256, nm_m1, nm_m3, nm_m7, nm_m15, nm_m31, nm_m63, nm_m255, nm_m511, nm_m1023, nm_m2047, nm_m65535, Nat.reduceMod, Nat.reducePow, Nat.reduceAdd, Nat.reduceSub, Nat.reduceMul, nm_bo, nm_bi, nm_rc, nm_ic, nm_ri, nm_rl, nm_rq, nm_ql, nm_qi, nm_li, nm_us, nm_uu, nm_cp, nm_sa31, nm_sa7, nm_m127, nm_m2, nm_nz, nm_nzk, nm_eq32, nm_nzf, if_true, if_false, ↓reduceIte, if_pos, if_neg]
          | true =>
            by_cases c1 : z ≤ 32
            · rw [decide_eq_false (show ¬ (33 ≤ z ∧ z ≤ 126) by omega)]
              simp (disch := (first | assumption | decide | omega)) only [dF_X16_nameAt_28, df_X16_nameAt_107, df_X16_nameAt_106, k16, e12, y2, y4, zz, c1, bI_t, bI_f, Bool.and_false, eq_self, Nat.reduceEqDiff, Nat.reduceLeDiff, nl_0, nl_1, nl_12, nl_14, nl_16, nl_22, nl_32, nl_33, nl_127, no_1, no_1024, pk_mul, nI_add, nm_ck, nI_clamp, nI_ltI, nI_leI, nI_eq, nb_b2, nb_b1, ↓nb_let, nm_z0, nm_z1, nb_II, nb_IR, nb_RI, nb_RR, nm_IL, nm_IQ, nm_RL, nm_RQ, nm_LI, nm_LR, nm_LL, nm_LQ, nm_QI, nm_QR, nm_QL, nm_QQ, nm_rr, nm_ii, nm_eqm, not_false_eq_true, pk_sub, nm_div, nm_shl, nm_shr, nm_ush, nm_or8, nm_or64, nm_or256, nm_m1, nm_m3, nm_m7, nm_m15, nm_m31, nm_m63, nm_m255, nm_m511, nm_m1023, nm_m2047, nm_m65535, Nat.reduceMod, Nat.reducePow, Nat.reduceAdd, Nat.reduceSub, Nat.reduceMul, nm_bo, nm_bi, nm_rc, nm_ic, nm_ri, nm_rl, nm_rq, nm_ql, nm_qi, nm_li, nm_us, nm_uu, nm_cp, nm_sa31, nm_sa7, nm_m127, nm_m2, nm_nz, nm_nzk, nm_eq32, nm_nzf, if_true, if_false, ↓reduceIte, if_pos, if_neg]
            · by_cases c2 : 127 ≤ z
              · rw [decide_eq_false (show ¬ (33 ≤ z ∧ z ≤ 126) by omega)]
                simp (disch := (first | assumption | decide | omega)) only [dF_X16_nameAt_28, df_X16_nameAt_107, df_X16_nameAt_106, k16, e12, y2, y4, zz, c1, c2, bI_t, bI_f, Bool.and_false, eq_self, Nat.reduceEqDiff, Nat.reduceLeDiff, nl_0, nl_1, nl_12, nl_14, nl_16, nl_22, nl_32, nl_33, nl_127, no_1, no_1024, pk_mul, nI_add, nm_ck, nI_clamp, nI_ltI, nI_leI, nI_eq, nb_b2, nb_b1, ↓nb_let, nm_z0, nm_z1, nb_II, nb_IR, nb_RI, nb_RR, nm_IL, nm_IQ, nm_RL, nm_RQ, nm_LI, nm_LR, nm_LL, nm_LQ, nm_QI, nm_QR, nm_QL, nm_QQ, nm_rr, nm_ii, nm_eqm, not_false_eq_true, pk_sub, nm_div, nm_shl, nm_shr, nm_ush, nm_or8, nm_or64, nm_or256, nm_m1, nm_m3, nm_m7, nm_m15, nm_m31, nm_m63, nm_m255, nm_m511, nm_m1023, nm_m2047, nm_m65535, Nat.reduceMod, Nat.reducePow, Nat.reduceAdd, Nat.reduceSub, Nat.reduceMul, nm_bo, nm_bi, nm_rc, nm_ic, nm_ri, nm_rl, nm_rq, nm_ql, nm_qi, nm_li, nm_us, nm_uu, nm_cp, nm_sa31, nm_sa7, nm_m127, nm_m2, nm_nz, nm_nzk, nm_eq32, nm_nzf, if_true, if_false, ↓reduceIte, if_pos, if_neg]
              · rw [decide_eq_true (show 33 ≤ z ∧ z ≤ 126 by omega)]
                simp (disch := (first | assumption | decide | omega)) only [dF_X16_nameAt_28, df_X16_nameAt_107, df_X16_nameAt_106, k16, e12, y2, y4, zz, c1, c2, bI_t, Bool.and_true, eq_self, Nat.reduceEqDiff, Nat.reduceLeDiff, nl_0, nl_1, nl_12, nl_14, nl_16, nl_22, nl_32, nl_33, nl_127, no_1, no_1024, pk_mul, nI_add, nm_ck, nI_clamp, nI_ltI, nI_leI, nI_eq, nb_b2, nb_b1, ↓nb_let, nm_z0, nm_z1, nb_II, nb_IR, nb_RI, nb_RR, nm_IL, nm_IQ, nm_RL, nm_RQ, nm_LI, nm_LR, nm_LL, nm_LQ, nm_QI, nm_QR, nm_QL, nm_QQ, nm_rr, nm_ii, nm_eqm, not_false_eq_true, pk_sub, nm_div, nm_shl, nm_shr, nm_ush, nm_or8, nm_or64, nm_or256, nm_m1, nm_m3, nm_m7, nm_m15, nm_m31, nm_m63, nm_m255, nm_m511, nm_m1023, nm_m2047, nm_m65535, Nat.reduceMod, Nat.reducePow, Nat.reduceAdd, Nat.reduceSub, Nat.reduceMul, nm_bo, nm_bi, nm_rc, nm_ic, nm_ri, nm_rl, nm_rq, nm_ql, nm_qi, nm_li, nm_us, nm_uu, nm_cp, nm_sa31, nm_sa7, nm_m127, nm_m2, nm_nz, nm_nzk, nm_eq32, nm_nzf, if_true, if_false, ↓reduceIte, if_pos, if_neg]
/-- a name is read, in both -/
theorem nk_namet2 (n : Nat) (hn : 1024 < n) {M X : St × St} (h : rK M X) {p : Nat} (hp : p < 16) (e12 : sI X.1 12 = nI p) (a : Int32) {K1 K2 : St} : ∃ (v : Int32) (f g : Nat → Int32), df_X5_readName_t2 n (nI p) a (K1, (K2, M)) = some (v, (pR K1 1 f, (K2, M))) ∧ df_X16_nameAt n a X = some (v, (pR X.1 33 g, X.2)) ∧ (∀ i : Nat, i < 16 → b8 (f i) (g i)) ∧ (v = nI 0 ∨ v = -nI 14 ∨ v = -nI 22) := by
  obtain ⟨A, hA, rfl⟩ := nI_ex a
  obtain ⟨m, hm⟩ := nm_lq (fun m k => df_X16_nameAt_2 n m (nI A) (nI k) (pR X.1 33 (fl (sR X.1 33) 0 k (nI 0)), X.2)) 16 n (by omega) (fun k m hk => by
    have u1 : k < 16 := hk
    have u2 : k < 2 ^ 31 := by omega
    have k16 : ¬ 16 ≤ k := by omega
    have fs := fl_s (sR X.1 33) 0 k (nI 0)
    rw [Nat.zero_add] at fs
    rw [show df_X16_nameAt_2 n (m + 1) = dF_X16_nameAt_2 n (df_X16_nameAt_2 n m) from rfl]
    simp (disch := (first | assumption | decide | omega)) only [dF_X16_nameAt_2, k16, fs, eq_self, Nat.reduceEqDiff, Nat.reduceLeDiff, nl_0, nl_1, nl_16, nl_33, no_1, no_1024, pk_mul, nI_add, nm_ck, nI_clamp, nI_ltI, nI_leI, nI_eq, nb_b2, nb_b1, ↓nb_let, nm_z0, nm_z1, nb_II, nb_IR, nb_RI, nb_RR, nm_IL, nm_IQ, nm_RL, nm_RQ, nm_LI, nm_LR, nm_LL, nm_LQ, nm_QI, nm_QR, nm_QL, nm_QQ, nm_rr, nm_ii, nm_eqm, not_false_eq_true, pk_sub, nm_div, nm_shl, nm_shr, nm_ush, nm_or8, nm_or64, nm_or256, nm_m1, nm_m3, nm_m7, nm_m15, nm_m31, nm_m63, nm_m255, nm_m511, nm_m1023, nm_m2047, nm_m65535, Nat.reduceMod, Nat.reducePow, Nat.reduceAdd, Nat.reduceSub, Nat.reduceMul, nm_bo, nm_bi, nm_rc, nm_ic, nm_ri, nm_rl, nm_rq, nm_ql, nm_qi, nm_li, nm_us, nm_uu, nm_cp, nm_sa31, nm_sa7, nm_m127, nm_m2, nm_nz, nm_nzk, nm_eq32, nm_nzf, if_true, if_false, ↓reduceIte, if_pos, if_neg])
  rw [fl_0, nm_r0] at hm
  have e2 : df_X16_nameAt n (nI A) X = df_X16_nameAt_28 n n (nI A) (nI 0) (bI true) (nI 0) (pR X.1 33 (fl (sR X.1 33) 0 16 (nI 0)), X.2) := by
    refine Eq.trans (b := df_X16_nameAt_2 n n (nI A) (nI 0) X) rfl (Eq.trans hm ?_)
    show df_X16_nameAt_2 n (m + 1) (nI A) (nI 16) _ = _
    rw [show df_X16_nameAt_2 n (m + 1) = dF_X16_nameAt_2 n (df_X16_nameAt_2 n m) from rfl, bI_t]
    simp (disch := (first | assumption | decide | omega)) only [dF_X16_nameAt_2, eq_self, Nat.reduceEqDiff, Nat.reduceLeDiff, nl_0, nl_1, nl_16, nl_33, no_1, no_1024, pk_mul, nI_add, nm_ck, nI_clamp, nI_ltI, nI_leI, nI_eq, nb_b2, nb_b1, ↓nb_let, nm_z0, nm_z1, nb_II, nb_IR, nb_RI, nb_RR, nm_IL, nm_IQ, nm_RL, nm_RQ, nm_LI, nm_LR, nm_LL, nm_LQ, nm_QI, nm_QR, nm_QL, nm_QQ, nm_rr, nm_ii, nm_eqm, not_false_eq_true, pk_sub, nm_div, nm_shl, nm_shr, nm_ush, nm_or8, nm_or64, nm_or256, nm_m1, nm_m3, nm_m7, nm_m15, nm_m31, nm_m63, nm_m255, nm_m511, nm_m1023, nm_m2047, nm_m65535, Nat.reduceMod, Nat.reducePow, Nat.reduceAdd, Nat.reduceSub, Nat.reduceMul, nm_bo, nm_bi, nm_rc, nm_ic, nm_ri, nm_rl, nm_rq, nm_ql, nm_qi, nm_li, nm_us, nm_uu, nm_cp, nm_sa31, nm_sa7, nm_m127, nm_m2, nm_nz, nm_nzk, nm_eq32, nm_nzf, if_true, if_false, ↓reduceIte, if_pos, if_neg]
  have e1 : df_X5_readName_t2 n (nI p) (nI A) (K1, (K2, M)) = df_X5_readName_t2_14 n n (nI p) (nI A) (-nI 1) (bI true) (nI 0) (pR K1 1 (nd_fl 16 (vp_nar .byte 0) (sR K1 1)), (K2, M)) := by
    rw [bI_t]
    simp (disch := (first | assumption | decide | omega)) only [df_X5_readName_t2, df_X5_readName_t2_0, eq_self, Nat.reduceEqDiff, Nat.reduceLeDiff, nl_0, nl_1, nl_16, no_1, no_1024, pk_mul, nI_add, nm_ck, nI_clamp, nI_ltI, nI_leI, nI_eq, nb_b2, nb_b1, ↓nb_let, nm_z0, nm_z1, nb_II, nb_IR, nb_RI, nb_RR, nm_IL, nm_IQ, nm_RL, nm_RQ, nm_LI, nm_LR, nm_LL, nm_LQ, nm_QI, nm_QR, nm_QL, nm_QQ, nm_rr, nm_ii, nm_eqm, not_false_eq_true, pk_sub, nm_div, nm_shl, nm_shr, nm_ush, nm_or8, nm_or64, nm_or256, nm_m1, nm_m3, nm_m7, nm_m15, nm_m31, nm_m63, nm_m255, nm_m511, nm_m1023, nm_m2047, nm_m65535, Nat.reduceMod, Nat.reducePow, Nat.reduceAdd, Nat.reduceSub, Nat.reduceMul, nm_bo, nm_bi, nm_rc, nm_ic, nm_ri, nm_rl, nm_rq, nm_ql, nm_qi, nm_li, nm_us, nm_uu, nm_cp, nm_sa31, nm_sa7, nm_m127, nm_m2, nm_nz, nm_nzk, nm_eq32, nm_nzf, if_true, if_false, ↓reduceIte, if_pos, if_neg]
  obtain ⟨v, f', g', i1, i2, i3, i4⟩ := rn_tt2 n h hp e12 A (K1 := K1) (K2 := K2) 16 0 (n - 18) (n - 17) (nd_fl 16 (vp_nar .byte 0) (sR K1 1)) (fl (sR X.1 33) 0 16 (nI 0)) true (by omega) (fun i hi => by
    rw [show nd_fl 16 (vp_nar .byte 0) (sR K1 1) i = vp_nar .byte 0 from if_pos hi, fl_i (by omega)]
    exact b8_0)
  rw [show n - 18 + 16 + 1 + 1 = n by omega] at i1
  rw [show n - 17 + 16 + 1 = n by omega] at i2
  exact ⟨v, f', g', e1.trans i1, e2.trans i2, i3, i4⟩
