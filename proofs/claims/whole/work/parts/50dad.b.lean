/-- one byte, in both -/
theorem b8_0 : b8 (vp_nar .byte 0) (nI 0) := ⟨0, by omega, rfl, by decide⟩
theorem b8_z {z : Nat} (h : z < 256) : b8 (vp_nar .byte ((nI z).toInt8.toInt32)) (nI z) := ⟨z, h, rfl, rfl⟩
theorem nar_inj : ∀ a b : Fin 256, vp_nar .byte ((nI a.1).toInt8.toInt32) = vp_nar .byte ((nI b.1).toInt8.toInt32) → a = b := by decide +kernel
theorem b8_eq {v u v' u' : Int32} (h : b8 v u) (h' : b8 v' u') : v = v' ↔ u = u' := by
  obtain ⟨z, hz, e1, e2⟩ := h
  obtain ⟨z', hz', e1', e2'⟩ := h'
  subst e1 e2 e1' e2'
  constructor
  · intro e
    have := nar_inj ⟨z, hz⟩ ⟨z', hz'⟩ e
    have := congrArg Fin.val this
    exact congrArg nI this
  · intro e
    have : z = z' := nm_inI (by omega) (by omega) e
    rw [this]
theorem bw_ex (x : Int32) (s : Nat) : ∃ z : Nat, z < 256 ∧ bw x s = nI z := by
  unfold bw
  obtain ⟨A, hA, e⟩ := nI_ex ((x.toUInt32 >>> ((nI s).toUInt32 &&& Int32.toUInt32 (nI 31))).toInt32)
  rw [e, nm_m255 hA]
  exact ⟨A % 256, by omega, rfl⟩
theorem nI_md (a : Nat) : nI a = nI (a % 2 ^ 32) := by
  apply Int32.toBitVec_inj.mp
  apply BitVec.eq_of_toNat_eq
  show (BitVec.ofNat 32 a).toNat = (BitVec.ofNat 32 (a % 2 ^ 32)).toNat
  rw [BitVec.toNat_ofNat, BitVec.toNat_ofNat, Nat.mod_mod]
/-- a byte that may be read, in both -/
theorem nk_nb (n : Nat) {M X : St × St} (h : rK M X) {p : Nat} (hp : p < 16) (e12 : sI X.1 12 = nI p) (Z : Nat) : (df_X6_may n (nI p) (nI Z) (nI 1) M = some (nI 0, M) ∧ df_X16_may n (nI p) (nI Z) (nI 1) X = some (nI 0, X)) ∨ ∃ z : Nat, z < 256 ∧ df_X6_may n (nI p) (nI Z) (nI 1) M = some (nI 1, M) ∧ df_X16_may n (nI p) (nI Z) (nI 1) X = some (nI 1, X) ∧ df_X6_byteAt n (nI p) (nI Z) M = some (nI z, M) ∧ df_X16_byteAt n (nI Z) X = some (nI z, X) := by
  rw [nI_md Z]
  have hA : Z % 2 ^ 32 < 2 ^ 32 := by omega
  generalize Z % 2 ^ 32 = A at hA
  obtain ⟨m1, m2⟩ := nk_may n h hp hA (show 1 < 8 by omega)
  cases c : ma X p A 1 with
  | false =>
    left
    rw [m1, m2, c]
    exact ⟨rfl, rfl⟩
  | true =>
    right
    unfold ma at c
    have cA : A < 65536 := by
      by_cases d : A < 65536
      · exact d
      · rw [decide_eq_false d, Bool.false_and] at c
        exact nomatch c
    have c' : ma X p A 1 = true := by
      unfold ma
      exact c
    rw [decide_eq_true cA, Bool.true_and] at c
    have hf : ∃ f : Nat, f < 256 ∧ sR X.1 16 (64 * p + A / 1024) = nI f := by
      rcases h.1 (64 * p + A / 1024) (by omega) with ⟨y1, y2⟩ | ⟨f, r, y1, y2, y3, y4, _⟩
      · exfalso
        unfold mb at c
        rw [y1] at c
        simp at c
      · exact ⟨f, y1, y4⟩
    obtain ⟨f, hf, ef⟩ := hf
    obtain ⟨z, hz, ez⟩ := bw_ex (wd4 X p A) (8 * (A % 4))
    refine ⟨z, hz, ?_, ?_, ?_, ?_⟩
    · rw [m1, c']; rfl
    · rw [m2, c']; rfl
    · rw [(nk_rd n h hp cA hf ef).1, ez]
    · rw [nk_gt n hp cA e12, ez]
/-- the turns of 'readName' and of 'nameAt' -/
theorem rn_tt1 (n : Nat) {M X : St × St} (h : rK M X) {p : Nat} (hp : p < 16) (e12 : sI X.1 12 = nI p) (A : Nat) {K1 K2 : St} : ∀ (j k m m' : Nat) (f g : Nat → Int32) (gd : Bool), k + j = 16 → (∀ i : Nat, i < 16 → b8 (f i) (g i)) → ∃ (v : Int32) (f' g' : Nat → Int32), df_X5_readName_t1_14 n (m + j + 1 + 1) (nI p) (nI A) (-nI 1) (bI gd) (nI k) (pR K1 0 f, (K2, M)) = some (v, (pR K1 0 f', (K2, M))) ∧ df_X16_nameAt_28 n (m' + j + 1) (nI A) (nI k) (bI gd) (nI k) (pR X.1 33 g, X.2) = some (v, (pR X.1 33 g', X.2)) ∧ (∀ i : Nat, i < 16 → b8 (f' i) (g' i)) ∧ (v = nI 0 ∨ v = -nI 14 ∨ v = -nI 22) := by
  have z0 : ¬ (nI 0 : Int32) ≤ -nI 1 := by decide
  have z1 : (-nI 1 : Int32) ≤ nI 0 := by decide
  intro j
  induction j with
  | zero =>
    intro k m m' f g gd hk hb
    have hk : k = 16 := hk
    subst hk
    refine ⟨-nI 22, f, g, ?_, ?_, hb, Or.inr (Or.inr rfl)⟩
    · rw [show df_X5_readName_t1_14 n (m + 0 + 1 + 1) = dF_X5_readName_t1_14 n (df_X5_readName_t1_14 n (m + 0 + 1)) from rfl]
      generalize df_X5_readName_t1_14 n (m + 0 + 1) = G
      cases gd with
      | true => simp (disch := (first | assumption | decide | omega)) only [dF_X5_readName_t1_14, df_X5_readName_t1_110, df_X5_readName_t1_124, df_X5_readName_t1_126, bI_t, z1, eq_self, Nat.reduceEqDiff, Nat.reduceLeDiff, nl_0, nl_1, nl_14, nl_16, nl_22, nl_33, nl_126, no_1, no_1024, pk_mul, nI_add, nm_ck, nI_clamp, nI_ltI, nI_leI, nI_eq, nb_b2, nb_b1, ↓nb_let, nm_z0, nm_z1, nb_II, nb_IR, nb_RI, nb_RR, nm_IL, nm_IQ, nm_RL, nm_RQ, nm_LI, nm_LR, nm_LL, nm_LQ, nm_QI, nm_QR, nm_QL, nm_QQ, nm_rr, nm_ii, nm_eqm, not_false_eq_true, pk_sub, nm_div, nm_shl, nm_shr, nm_ush, nm_or8, nm_or64, nm_or256, nm_m1, nm_m3, nm_m7, nm_m15, nm_m31, nm_m63, nm_m255, nm_m511, nm_m1023, nm_m2047, nm_m65535, Nat.reduceMod, Nat.reducePow, Nat.reduceAdd, Nat.reduceSub, Nat.reduceMul, nm_bo, nm_bi, nm_rc, nm_ic, nm_ri, nm_rl, nm_rq, nm_ql, nm_qi, nm_li, nm_us, nm_uu, nm_cp, nm_sa31, nm_sa7, nm_m127, nm_m2, nm_nz, nm_nzk, nm_eq32, nm_nzf, if_true, if_false, ↓reduceIte, if_pos, if_neg]
      | false => simp (disch := (first | assumption | decide | omega)) only [dF_X5_readName_t1_14, df_X5_readName_t1_110, df_X5_readName_t1_124, df_X5_readName_t1_126, bI_f, eq_self, Nat.reduceEqDiff, Nat.reduceLeDiff, nl_0, nl_1, nl_14, nl_16, nl_22, nl_33, nl_126, no_1, no_1024, pk_mul, nI_add, nm_ck, nI_clamp, nI_ltI, nI_leI, nI_eq, nb_b2, nb_b1, ↓nb_let, nm_z0, nm_z1, nb_II, nb_IR, nb_RI, nb_RR, nm_IL, nm_IQ, nm_RL, nm_RQ, nm_LI, nm_LR, nm_LL, nm_LQ, nm_QI, nm_QR, nm_QL, nm_QQ, nm_rr, nm_ii, nm_eqm, not_false_eq_true, pk_sub, nm_div, nm_shl, nm_shr, nm_ush, nm_or8, nm_or64, nm_or256, nm_m1, nm_m3, nm_m7, nm_m15, nm_m31, nm_m63, nm_m255, nm_m511, nm_m1023, nm_m2047, nm_m65535, Nat.reduceMod, Nat.reducePow, Nat.reduceAdd, Nat.reduceSub, Nat.reduceMul, nm_bo, nm_bi, nm_rc, nm_ic, nm_ri, nm_rl, nm_rq, nm_ql, nm_qi, nm_li, nm_us, nm_uu, nm_cp, nm_sa31, nm_sa7, nm_m127, nm_m2, nm_nz, nm_nzk, nm_eq32, nm_nzf, if_true, if_false, ↓reduceIte, if_pos, if_neg]
    · rw [show df_X16_nameAt_28 n (m' + 0 + 1) = dF_X16_nameAt_28 n (df_X16_nameAt_28 n (m' + 0)) from rfl]
      generalize df_X16_nameAt_28 n (m' + 0) = G
      simp (disch := (first | assumption | decide | omega)) only [dF_X16_nameAt_28, eq_self, Nat.reduceEqDiff, Nat.reduceLeDiff, nl_0, nl_1, nl_12, nl_14, nl_16, nl_22, nl_32, nl_127, no_1, no_1024, pk_mul, nI_add, nm_ck, nI_clamp, nI_ltI, nI_leI, nI_eq, nb_b2, nb_b1, ↓nb_let, nm_z0, nm_z1, nb_II, nb_IR, nb_RI, nb_RR, nm_IL, nm_IQ, nm_RL, nm_RQ, nm_LI, nm_LR, nm_LL, nm_LQ, nm_QI, nm_QR, nm_QL, nm_QQ, nm_rr, nm_ii, nm_eqm, not_false_eq_true, pk_sub, nm_div, nm_shl, nm_shr, nm_ush, nm_or8, nm_or64, nm_or256, nm_m1, nm_m3, nm_m7, nm_m15, nm_m31, nm_m63, nm_m255, nm_m511, nm_m1023, nm_m2047, nm_m65535, Nat.reduceMod, Nat.reducePow, Nat.reduceAdd, Nat.reduceSub, Nat.reduceMul, nm_bo, nm_bi, nm_rc, nm_ic, nm_ri, nm_rl, nm_rq, nm_ql, nm_qi, nm_li, nm_us, nm_uu, nm_cp, nm_sa31, nm_sa7, nm_m127, nm_m2, nm_nz, nm_nzk, nm_eq32, nm_nzf, if_true, if_false, ↓reduceIte, if_pos, if_neg]
  | succ j ih =>
    intro k m m' f g gd hk hb
    have k16 : ¬ 16 ≤ k := by omega
    have u1 : k < 2 ^ 31 := by omega
    have u2 : k < 16 := by omega
    have uX : rK M (pR X.1 33 g, X.2) := h
    have e12' : sI (pR X.1 33 g) 12 = nI p := e12
    rcases nk_nb n uX hp e12' (A + k) with ⟨y1, y2⟩ | ⟨z, hz, y1, y2, y3, y4⟩
    · refine ⟨-nI 14, f, g, ?_, ?_, hb, Or.inr (Or.inl rfl)⟩
      · rw [show df_X5_readName_t1_14 n (m + (j + 1) + 1 + 1) = dF_X5_readName_t1_14 n (df_X5_readName_t1_14 n (m + (j + 1) + 1)) from rfl]
        generalize df_X5_readName_t1_14 n (m + (j + 1) + 1) = G
        simp (disch := (first | assumption | decide | omega)) only [dF_X5_readName_t1_14, k16, z0, y1, eq_self, Nat.reduceEqDiff, Nat.reduceLeDiff, nl_0, nl_1, nl_14, nl_16, nl_33, nl_126, no_1, no_1024, pk_mul, nI_add, nm_ck, nI_clamp, nI_ltI, nI_leI, nI_eq, nb_b2, nb_b1, ↓nb_let, nm_z0, nm_z1, nb_II, nb_IR, nb_RI, nb_RR, nm_IL, nm_IQ, nm_RL, nm_RQ, nm_LI, nm_LR, nm_LL, nm_LQ, nm_QI, nm_QR, nm_QL, nm_QQ, nm_rr, nm_ii, nm_eqm, not_false_eq_true, pk_sub, nm_div, nm_shl, nm_shr, nm_ush, nm_or8, nm_or64, nm_or256, nm_m1, nm_m3, nm_m7, nm_m15, nm_m31, nm_m63, nm_m255, nm_m511, nm_m1023, nm_m2047, nm_m65535, Nat.reduceMod, Nat.reducePow, Nat.reduceAdd, Nat.reduceSub, Nat.reduceMul, nm_bo, nm_bi, nm_rc, nm_ic, nm_ri, nm_rl, nm_rq, nm_ql, nm_qi, nm_li, nm_us, nm_uu, nm_cp, nm_sa31, nm_sa7, nm_m127, nm_m2, nm_nz, nm_nzk, nm_eq32, nm_nzf, if_true, if_false, ↓reduceIte, if_pos, if_neg]
      · rw [show df_X16_nameAt_28 n (m' + (j + 1) + 1) = dF_X16_nameAt_28 n (df_X16_nameAt_28 n (m' + (j + 1))) from rfl]
        generalize df_X16_nameAt_28 n (m' + (j + 1)) = G
        simp (disch := (first | assumption | decide | omega)) only [dF_X16_nameAt_28, k16, e12, y2, eq_self, Nat.reduceEqDiff, Nat.reduceLeDiff, nl_0, nl_1, nl_12, nl_14, nl_16, nl_22, nl_32, nl_127, no_1, no_1024, pk_mul, nI_add, nm_ck, nI_clamp, nI_ltI, nI_leI, nI_eq, nb_b2, nb_b1, ↓nb_let, nm_z0, nm_z1, nb_II, nb_IR, nb_RI, nb_RR, nm_IL, nm_IQ, nm_RL, nm_RQ, nm_LI, nm_LR, nm_LL, nm_LQ, nm_QI, nm_QR, nm_QL, nm_QQ, nm_rr, nm_ii, nm_eqm, not_false_eq_true, pk_sub, nm_div, nm_shl, nm_shr, nm_ush, nm_or8, nm_or64, nm_or256, nm_m1, nm_m3, nm_m7, nm_m15, nm_m31, nm_m63, nm_m255, nm_m511, nm_m1023, nm_m2047, nm_m65535, Nat.reduceMod, Nat.reducePow, Nat.reduceAdd, Nat.reduceSub, Nat.reduceMul, nm_bo, nm_bi, nm_rc, nm_ic, nm_ri, nm_rl, nm_rq, nm_ql, nm_qi, nm_li, nm_us, nm_uu, nm_cp, nm_sa31, nm_sa7, nm_m127, nm_m2, nm_nz, nm_nzk, nm_eq32, nm_nzf, if_true, if_false, ↓reduceIte, if_pos, if_neg]
    · have u3 : z < 2 ^ 31 := by omega
      by_cases zz : z = 0
      · subst zz
        have u4 : 0 ≤ k := by omega
        have u5 : k + 1 < 2 ^ 31 := by omega
        refine ⟨if gd = true ∧ 0 < k then nI 0 else -nI 22, f, g, ?_, ?_, hb, ?_⟩
        · rw [show df_X5_readName_t1_14 n (m + (j + 1) + 1 + 1) = dF_X5_readName_t1_14 n (df_X5_readName_t1_14 n (m + (j + 1) + 1)) from rfl]
          have two : ∀ G, dF_X5_readName_t1_14 n G (nI p) (nI A) (nI k) (bI gd) (nI (k + 1)) (pR K1 0 f, (K2, M)) = some (if gd = true ∧ 0 < k then nI 0 else -nI 22, (pR K1 0 f, (K2, M))) := fun G => by
            have e : dF_X5_readName_t1_14 n G (nI p) (nI A) (nI k) (bI gd) (nI (k + 1)) (pR K1 0 f, (K2, M)) = df_X5_readName_t1_110 n (nI k) (bI gd) (pR K1 0 f, (K2, M)) := by
              by_cases k15 : 16 ≤ k + 1
              · simp (disch := (first | assumption | decide | omega)) only [dF_X5_readName_t1_14, k15, eq_self, Nat.reduceEqDiff, Nat.reduceLeDiff, nl_0, nl_1, nl_14, nl_16, nl_33, nl_126, no_1, no_1024, pk_mul, nI_add, nm_ck, nI_clamp, nI_ltI, nI_leI, nI_eq, nb_b2, nb_b1, ↓nb_let, nm_z0, nm_z1, nb_II, nb_IR, nb_RI, nb_RR, nm_IL, nm_IQ, nm_RL, nm_RQ, nm_LI, nm_LR, nm_LL, nm_LQ, nm_QI, nm_QR, nm_QL, nm_QQ, nm_rr, nm_ii, nm_eqm, not_false_eq_true, pk_sub, nm_div, nm_shl, nm_shr, nm_ush, nm_or8, nm_or64, nm_or256, nm_m1, nm_m3, nm_m7, nm_m15, nm_m31, nm_m63, nm_m255, nm_m511, nm_m1023, nm_m2047, nm_m65535, Nat.reduceMod, Nat.reducePow, Nat.reduceAdd, Nat.reduceSub, Nat.reduceMul, nm_bo, nm_bi, nm_rc, nm_ic, nm_ri, nm_rl, nm_rq, nm_ql, nm_qi, nm_li, nm_us, nm_uu, nm_cp, nm_sa31, nm_sa7, nm_m127, nm_m2, nm_nz, nm_nzk, nm_eq32, nm_nzf, if_true, if_false, ↓reduceIte, if_pos, if_neg]
              · simp (disch := (first | assumption | decide | omega)) only [dF_X5_readName_t1_14, k15, u4, eq_self, Nat.reduceEqDiff, Nat.reduceLeDiff, nl_0, nl_1, nl_14, nl_16, nl_33, nl_126, no_1, no_1024, pk_mul, nI_add, nm_ck, nI_clamp, nI_ltI, nI_leI, nI_eq, nb_b2, nb_b1, ↓nb_let, nm_z0, nm_z1, nb_II, nb_IR, nb_RI, nb_RR, nm_IL, nm_IQ, nm_RL, nm_RQ, nm_LI, nm_LR, nm_LL, nm_LQ, nm_QI, nm_QR, nm_QL, nm_QQ, nm_rr, nm_ii, nm_eqm, not_false_eq_true, pk_sub, nm_div, nm_shl, nm_shr, nm_ush, nm_or8, nm_or64, nm_or256, nm_m1, nm_m3, nm_m7, nm_m15, nm_m31, nm_m63, nm_m255, nm_m511, nm_m1023, nm_m2047, nm_m65535, Nat.reduceMod, Nat.reducePow, Nat.reduceAdd, Nat.reduceSub, Nat.reduceMul, nm_bo, nm_bi, nm_rc, nm_ic, nm_ri, nm_rl, nm_rq, nm_ql, nm_qi, nm_li, nm_us, nm_uu, nm_cp, nm_sa31, nm_sa7, nm_m127, nm_m2, nm_nz, nm_nzk, nm_eq32, nm_nzf, if_true, if_false, ↓reduceIte, if_pos, if_neg]
            rw [e]
            cases gd with
            | true =>
              by_cases k0 : k ≤ 0
              · rw [if_neg (fun y => by omega)]
                simp (disch := (first | assumption | decide | omega)) only [df_X5_readName_t1_110, df_X5_readName_t1_124, df_X5_readName_t1_126, bI_t, k0, eq_self, Nat.reduceEqDiff, Nat.reduceLeDiff, nl_0, nl_22, no_1, no_1024, pk_mul, nI_add, nm_ck, nI_clamp, nI_ltI, nI_leI, nI_eq, nb_b2, nb_b1, ↓nb_let, nm_z0, nm_z1, nb_II, nb_IR, nb_RI, nb_RR, nm_IL, nm_IQ, nm_RL, nm_RQ, nm_LI, nm_LR, nm_LL, nm_LQ, nm_QI, nm_QR, nm_QL, nm_QQ, nm_rr, nm_ii, nm_eqm, not_false_eq_true, pk_sub, nm_div, nm_shl, nm_shr, nm_ush, nm_or8, nm_or64, nm_or256, nm_m1, nm_m3, nm_m7, nm_m15, nm_m31, nm_m63, nm_m255, nm_m511, nm_m1023, nm_m2047, nm_m65535, Nat.reduceMod, Nat.reducePow, Nat.reduceAdd, Nat.reduceSub, Nat.reduceMul, nm_bo, nm_bi, nm_rc, nm_ic, nm_ri, nm_rl, nm_rq, nm_ql, nm_qi, nm_li, nm_us, nm_uu, nm_cp, nm_sa31, nm_sa7, nm_m127, nm_m2, nm_nz, nm_nzk, nm_eq32, nm_nzf, if_true, if_false, ↓reduceIte, if_pos, if_neg]
              · rw [if_pos ⟨rfl, by omega⟩]
                simp (disch := (first | assumption | decide | omega)) only [df_X5_readName_t1_110, df_X5_readName_t1_124, df_X5_readName_t1_126, bI_t, k0, eq_self, Nat.reduceEqDiff, Nat.reduceLeDiff, nl_0, nl_22, no_1, no_1024, pk_mul, nI_add, nm_ck, nI_clamp, nI_ltI, nI_leI, nI_eq, nb_b2, nb_b1, ↓nb_let, nm_z0, nm_z1, nb_II, nb_IR, nb_RI, nb_RR, nm_IL, nm_IQ, nm_RL, nm_RQ, nm_LI, nm_LR, nm_LL, nm_LQ, nm_QI, nm_QR, nm_QL, nm_QQ, nm_rr, nm_ii, nm_eqm, not_false_eq_true, pk_sub, nm_div, nm_shl, nm_shr, nm_ush, nm_or8, nm_or64, nm_or256, nm_m1, nm_m3, nm_m7, nm_m15, nm_m31, nm_m63, nm_m255, nm_m511, nm_m1023, nm_m2047, nm_m65535, Nat.reduceMod, Nat.reducePow, Nat.reduceAdd, Nat.reduceSub, Nat.reduceMul, nm_bo, nm_bi, nm_rc, nm_ic, nm_ri, nm_rl, nm_rq, nm_ql, nm_qi, nm_li, nm_us, nm_uu, nm_cp, nm_sa31, nm_sa7, nm_m127, nm_m2, nm_nz, nm_nzk, nm_eq32, nm_nzf, if_true, if_false, ↓reduceIte, if_pos, if_neg]
            | false =>
              rw [if_neg (fun y => nomatch y.1)]
              simp (disch := (first | assumption | decide | omega)) only [df_X5_readName_t1_110, df_X5_readName_t1_124, df_X5_readName_t1_126, bI_f, eq_self, Nat.reduceEqDiff, Nat.reduceLeDiff, nl_0, nl_22, no_1, no_1024, pk_mul, nI_add, nm_ck, nI_clamp, nI_ltI, nI_leI, nI_eq, nb_b2, nb_b1, ↓nb_let, nm_z0, nm_z1, nb_II, nb_IR, nb_RI, nb_RR, nm_IL, nm_IQ, nm_RL, nm_RQ, nm_LI, nm_LR, nm_LL, nm_LQ, nm_QI, nm_QR, nm_QL, nm_QQ, nm_rr, nm_ii, nm_eqm, not_false_eq_true, pk_sub, nm_div, nm_shl, nm_shr, nm_ush, nm_or8, nm_or64, nm_or256, nm_m1, nm_m3, nm_m7, nm_m15, nm_m31, nm_m63, nm_m255, nm_m511, nm_m1023, nm_m2047, nm_m65535, Nat.reduceMod, Nat.reducePow, Nat.reduceAdd, Nat.reduceSub, Nat.reduceMul, nm_bo, nm_bi, nm_rc, nm_ic, nm_ri, nm_rl, nm_rq, nm_ql, nm_qi, nm_li, nm_us, nm_uu, nm_cp, nm_sa31, nm_sa7, nm_m127, nm_m2, nm_nz, nm_nzk, nm_eq32, nm_nzf, if_true, if_false, ↓reduceIte, if_pos, if_neg]
          have one : ∀ G, dF_X5_readName_t1_14 n G (nI p) (nI A) (-nI 1) (bI gd) (nI k) (pR K1 0 f, (K2, M)) = G (nI p) (nI A) (nI k) (bI gd) (nI (k + 1)) (pR K1 0 f, (K2, M)) := fun G => by
            simp (disch := (first | assumption | decide | omega)) only [dF_X5_readName_t1_14, df_X5_readName_t1_104, k16, z0, y1, y3, eq_self, Nat.reduceEqDiff, Nat.reduceLeDiff, nl_0, nl_1, nl_14, nl_16, nl_33, nl_126, no_1, no_1024, pk_mul, nI_add, nm_ck, nI_clamp, nI_ltI, nI_leI, nI_eq, nb_b2, nb_b1, ↓nb_let, nm_z0, nm_z1, nb_II, nb_IR, nb_RI, nb_RR, nm_IL, nm_IQ, nm_RL, nm_RQ, nm_LI, nm_LR, nm_LL, nm_LQ, nm_QI, nm_QR, nm_QL, nm_QQ, nm_rr, nm_ii, nm_eqm, not_false_eq_true, pk_sub, nm_div, nm_shl, nm_shr, nm_ush, nm_or8, nm_or64, nm_or256, nm_m1, nm_m3, nm_m7, nm_m15, nm_m31, nm_m63, nm_m255, nm_m511, nm_m1023, nm_m2047, nm_m65535, Nat.reduceMod, Nat.reducePow, Nat.reduceAdd, Nat.reduceSub, Nat.reduceMul, nm_bo, nm_bi, nm_rc, nm_ic, nm_ri, nm_rl, nm_rq, nm_ql, nm_qi, nm_li, nm_us, nm_uu, nm_cp, nm_sa31, nm_sa7, nm_m127, nm_m2, nm_nz, nm_nzk, nm_eq32, nm_nzf, if_true, if_false, ↓reduceIte, if_pos, if_neg]
          rw [one]
          exact two _
        · rw [show df_X16_nameAt_28 n (m' + (j + 1) + 1) = dF_X16_nameAt_28 n (df_X16_nameAt_28 n (m' + (j + 1))) from rfl]
          generalize df_X16_nameAt_28 n (m' + (j + 1)) = G
          cases gd with
          | true =>
            by_cases k0 : k ≤ 0
            · rw [if_neg (fun y => by omega)]
              simp (disch := (first | assumption | decide | omega)) only [dF_X16_nameAt_28, df_X16_nameAt_81, df_X16_nameAt_83, k16, e12, y2, y4, k0, eq_self, Nat.reduceEqDiff, Nat.reduceLeDiff, nl_0, nl_1, nl_12, nl_14, nl_16, nl_22, nl_32, nl_127, no_1, no_1024, pk_mul, nI_add, nm_ck, nI_clamp, nI_ltI, nI_leI, nI_eq, nb_b2, nb_b1, ↓nb_let, nm_z0, nm_z1, nb_II, nb_IR, nb_RI, nb_RR, nm_IL, nm_IQ, nm_RL, nm_RQ, nm_LI, nm_LR, nm_LL, nm_LQ, nm_QI, nm_QR, nm_QL, nm_QQ, nm_rr, nm_ii, nm_eqm, not_false_eq_true, pk_sub, nm_div, nm_shl, nm_shr, nm_ush, nm_or8, nm_or64, nm_or256, nm_m1, nm_m3, nm_m7, nm_m15, nm_m31, nm_m63, nm_m255, nm_m511, nm_m1023, nm_m2047, nm_m65535, Nat.reduceMod, Nat.reducePow, Nat.reduceAdd, Nat.reduceSub, Nat.reduceMul, nm_bo, nm_bi, nm_rc, nm_ic, nm_ri, nm_rl, nm_rq, nm_ql, nm_qi, nm_li, nm_us, nm_uu, nm_cp, nm_sa31, nm_sa7, nm_m127, nm_m2, nm_nz, nm_nzk, nm_eq32, nm_nzf, if_true, if_false, ↓reduceIte, if_pos, if_neg]
            · rw [if_pos ⟨rfl, by omega⟩]
              simp (disch := (first | assumption | decide | omega)) only [dF_X16_nameAt_28, df_X16_nameAt_81, df_X16_nameAt_83, k16, e12, y2, y4, k0, bI_t, eq_self, Nat.reduceEqDiff, Nat.reduceLeDiff, nl_0, nl_1, nl_12, nl_14, nl_16, nl_22, nl_32, nl_127, no_1, no_1024, pk_mul, nI_add, nm_ck, nI_clamp, nI_ltI, nI_leI, nI_eq, nb_b2, nb_b1, ↓nb_let, nm_z0, nm_z1, nb_II, nb_IR, nb_RI, nb_RR, nm_IL, nm_IQ, nm_RL, nm_RQ, nm_LI, nm_LR, nm_LL, nm_LQ, nm_QI, nm_QR, nm_QL, nm_QQ, nm_rr, nm_ii, nm_eqm, not_false_eq_true, pk_sub, nm_div, nm_shl, nm_shr, nm_ush, nm_or8, nm_or64, nm_or256, nm_m1, nm_m3, nm_m7, nm_m15, nm_m31, nm_m63, nm_m255, nm_m511, nm_m1023, nm_m2047, nm_m65535, Nat.reduceMod, Nat.reducePow, Nat.reduceAdd, Nat.reduceSub, Nat.reduceMul, nm_bo, nm_bi, nm_rc, nm_ic, nm_ri, nm_rl, nm_rq, nm_ql, nm_qi, nm_li, nm_us, nm_uu, nm_cp, nm_sa31, nm_sa7, nm_m127, nm_m2, nm_nz, nm_nzk, nm_eq32, nm_nzf, if_true, if_false, ↓reduceIte, if_pos, if_neg]
          | false =>
            rw [if_neg (fun y => nomatch y.1)]
            by_cases k0 : k ≤ 0
            · simp (disch := (first | assumption | decide | omega)) only [dF_X16_nameAt_28, df_X16_nameAt_81, df_X16_nameAt_83, k16, e12, y2, y4, k0, eq_self, Nat.reduceEqDiff, Nat.reduceLeDiff, nl_0, nl_1, nl_12, nl_14, nl_16, nl_22, nl_32, nl_127, no_1, no_1024, pk_mul, nI_add, nm_ck, nI_clamp, nI_ltI, nI_leI, nI_eq, nb_b2, nb_b1, ↓nb_let, nm_z0, nm_z1, nb_II, nb_IR, nb_RI, nb_RR, nm_IL, nm_IQ, nm_RL, nm_RQ, nm_LI, nm_LR, nm_LL, nm_LQ, nm_QI, nm_QR, nm_QL, nm_QQ, nm_rr, nm_ii, nm_eqm, not_false_eq_true, pk_sub, nm_div, nm_shl, nm_shr, nm_ush, nm_or8, nm_or64, nm_or256, nm_m1, nm_m3, nm_m7, nm_m15, nm_m31, nm_m63, nm_m255, nm_m511, nm_m1023, nm_m2047, nm_m65535, Nat.reduceMod, Nat.reducePow, Nat.reduceAdd, Nat.reduceSub, Nat.reduceMul, nm_bo, nm_bi, nm_rc, nm_ic, nm_ri, nm_rl, nm_rq, nm_ql, nm_qi, nm_li, nm_us, nm_uu, nm_cp, nm_sa31, nm_sa7, nm_m127, nm_m2, nm_nz, nm_nzk, nm_eq32, nm_nzf, if_true, if_false, ↓reduceIte, if_pos, if_neg]
            · simp (disch := (first | assumption | decide | omega)) only [dF_X16_nameAt_28, df_X16_nameAt_81, df_X16_nameAt_83, k16, e12, y2, y4, k0, bI_f, eq_self, Nat.reduceEqDiff, Nat.reduceLeDiff, nl_0, nl_1, nl_12, nl_14, nl_16, nl_22, nl_32, nl_127, no_1, no_1024, pk_mul, nI_add, nm_ck, nI_clamp, nI_ltI, nI_leI, nI_eq, nb_b2, nb_b1, ↓nb_let, nm_z0, nm_z1, nb_II, nb_IR, nb_RI, nb_RR, nm_IL, nm_IQ, nm_RL, nm_RQ, nm_LI, nm_LR, nm_LL, nm_LQ, nm_QI, nm_QR, nm_QL, nm_QQ, nm_rr, nm_ii, nm_eqm, not_false_eq_true, pk_sub, nm_div, nm_shl, nm_shr, nm_ush, nm_or8, nm_or64, nm_or256, nm_m1, nm_m3, nm_m7, nm_m15, nm_m31, nm_m63, nm_m255, nm_m511, nm_m1023, nm_m2047, nm_m65535, Nat.reduceMod, Nat.reducePow, Nat.reduceAdd, Nat.reduceSub, Nat.reduceMul, nm_bo, nm_bi, nm_rc, nm_ic, nm_ri, nm_rl, nm_rq, nm_ql, nm_qi, nm_li, nm_us, nm_uu, nm_cp, nm_sa31, nm_sa7, nm_m127, nm_m2, nm_nz, nm_nzk, nm_eq32, nm_nzf, if_true, if_false, ↓reduceIte, if_pos, if_neg]
        · by_cases c : gd = true ∧ 0 < k
          · rw [if_pos c]; exact Or.inl rfl
          · rw [if_neg c]; exact Or.inr (Or.inr rfl)
      · -- a byte of the name
        obtain ⟨v, f', g', i1, i2, i3, i4⟩ := ih (k + 1) m m' (upd f k (vp_nar .byte ((nI z).toInt8.toInt32))) (upd g k (nI z)) (gd && decide (33 ≤ z ∧ z ≤ 126)) (by omega) (fun i hi => by
          by_cases c : i = k
          · rw [c, nm_us, nm_us]; exact b8_z hz
          · rw [nm_un c, nm_un c]; exact hb i hi)
        refine ⟨v, f', g', ?_, ?_, i3, i4⟩
        · refine Eq.trans ?_ i1
          rw [show df_X5_readName_t1_14 n (m + (j + 1) + 1 + 1) = dF_X5_readName_t1_14 n (df_X5_readName_t1_14 n (m + (j + 1) + 1)) from rfl, show m + (j + 1) + 1 = m + j + 1 + 1 by omega]
          generalize df_X5_readName_t1_14 n (m + j + 1 + 1) = G
          cases gd with
          | false => simp (disch := (first | assumption | decide | omega)) only [dF_X5_readName_t1_14, df_X5_readName_t1_104, df_X5_readName_t1_95, df_X5_readName_t1_94, k16, z0, y1, y3, zz, bI_f, Bool.false_and, eq_self, Nat.reduceEqDiff, Nat.reduceLeDiff, nl_0, nl_1, nl_14, nl_16, nl_33, nl_126, no_1, no_1024, pk_mul, nI_add, nm_ck, nI_clamp, nI_ltI, nI_leI, nI_eq, nb_b2, nb_b1, ↓nb_let, nm_z0, nm_z1, nb_II, nb_IR, nb_RI, nb_RR, nm_IL, nm_IQ, nm_RL, nm_RQ, nm_LI, nm_LR, nm_LL, nm_LQ, nm_QI, nm_QR, nm_QL, nm_QQ, nm_rr, nm_ii, nm_eqm, not_false_eq_true, pk_sub, nm_div, nm_shl, nm_shr, nm_ush, nm_or8, nm_or64, nm_or256, nm_m1, nm_m3, nm_m7, nm_m15, nm_m31, nm_m63, nm_m255, nm_m511, nm_m1023, nm_m2047, nm_m65535, Nat.reduceMod, Nat.reducePow, Nat.reduceAdd, Nat.reduceSub, Nat.reduceMul, nm_bo, nm_bi, nm_rc, nm_ic, nm_ri, nm_rl, nm_rq, nm_ql, nm_qi, nm_li, nm_us, nm_uu, nm_cp, nm_sa31, nm_sa7, nm_m127, nm_m2, nm_nz, nm_nzk, nm_eq32, nm_nzf, if_true, if_false, ↓reduceIte, if_pos, if_neg]
          | true =>
            by_cases c1 : z < 33
            · rw [decide_eq_false (show ¬ (33 ≤ z ∧ z ≤ 126) by omega)]
              simp (disch := (first | assumption | decide | omega)) only [dF_X5_readName_t1_14, df_X5_readName_t1_104, df_X5_readName_t1_95, df_X5_readName_t1_94, k16, z0, y1, y3, zz, c1, bI_t, bI_f, Bool.and_false, eq_self, Nat.reduceEqDiff, Nat.reduceLeDiff, nl_0, nl_1, nl_14, nl_16, nl_33, nl_126, no_1, no_1024, pk_mul, nI_add, nm_ck, nI_clamp, nI_ltI, nI_leI, nI_eq, nb_b2, nb_b1, ↓nb_let, nm_z0, nm_z1, nb_II, nb_IR, nb_RI, nb_RR, nm_IL, nm_IQ, nm_RL, nm_RQ, nm_LI, nm_LR, nm_LL, nm_LQ, nm_QI, nm_QR, nm_QL, nm_QQ, nm_rr, nm_ii, nm_eqm, not_false_eq_true, pk_sub, nm_div, nm_shl, nm_shr, nm_ush, nm_or8, nm_or64, nm_or256, nm_m1, nm_m3, nm_m7, nm_m15, nm_m31, nm_m63, nm_m255, nm_m511, nm_m1023, nm_m2047, nm_m65535, Nat.reduceMod, Nat.reducePow, Nat.reduceAdd, Nat.reduceSub, Nat.reduceMul, nm_bo, nm_bi, nm_rc, nm_ic, nm_ri, nm_rl, nm_rq, nm_ql, nm_qi, nm_li, nm_us, nm_uu, nm_cp, nm_sa31, nm_sa7, nm_m127, nm_m2, nm_nz, nm_nzk, nm_eq32, nm_nzf, if_true, if_false, ↓reduceIte, if_pos, if_neg]
            · by_cases c2 : 126 < z
              · rw [decide_eq_false (show ¬ (33 ≤ z ∧ z ≤ 126) by omega)]
                simp (disch := (first | assumption | decide | omega)) only [dF_X5_readName_t1_14, df_X5_readName_t1_104, df_X5_readName_t1_95, df_X5_readName_t1_94, k16, z0, y1, y3, zz, c1, c2, bI_t, bI_f, Bool.and_false, eq_self, Nat.reduceEqDiff, Nat.reduceLeDiff, nl_0, nl_1, nl_14, nl_16, nl_33, nl_126, no_1, no_1024, pk_mul, nI_add, nm_ck, nI_clamp, nI_ltI, nI_leI, nI_eq, nb_b2, nb_b1, ↓nb_let, nm_z0, nm_z1, nb_II, nb_IR, nb_RI, nb_RR, nm_IL, nm_IQ, nm_RL, nm_RQ, nm_LI, nm_LR, nm_LL, nm_LQ, nm_QI, nm_QR, nm_QL, nm_QQ, nm_rr, nm_ii, nm_eqm, not_false_eq_true, pk_sub, nm_div, nm_shl, nm_shr, nm_ush, nm_or8, nm_or64, nm_or256, nm_m1, nm_m3, nm_m7, nm_m15, nm_m31, nm_m63, nm_m255, nm_m511, nm_m1023, nm_m2047, nm_m65535, Nat.reduceMod, Nat.reducePow, Nat.reduceAdd, Nat.reduceSub, Nat.reduceMul, nm_bo, nm_bi, nm_rc, nm_ic, nm_ri, nm_rl, nm_rq, nm_ql, nm_qi, nm_li, nm_us, nm_uu, nm_cp, nm_sa31, nm_sa7, nm_m127, nm_m2, nm_nz, nm_nzk, nm_eq32, nm_nzf, if_true, if_false, ↓reduceIte, if_pos, if_neg]
              · rw [decide_eq_true (show 33 ≤ z ∧ z ≤ 126 by omega)]
                simp (disch := (first | assumption | decide | omega)) only [dF_X5_readName_t1_14, df_X5_readName_t1_104, df_X5_readName_t1_95, df_X5_readName_t1_94, k16, z0, y1, y3, zz, c1, c2, bI_t, Bool.and_true, eq_self, Nat.reduceEqDiff, Nat.reduceLeDiff, nl_0, nl_1, nl_14, nl_16, nl_33, nl_126, no_1, no_1024, pk_mul, nI_add, nm_ck, nI_clamp, nI_ltI, nI_leI, nI_eq, nb_b2, nb_b1, ↓nb_let, nm_z0, nm_z1, nb_II, nb_IR, nb_RI, nb_RR, nm_IL, nm_IQ, nm_RL, nm_RQ, nm_LI, nm_LR, nm_LL, nm_LQ, nm_QI, nm_QR, nm_QL, nm_QQ, nm_rr, nm_ii, nm_eqm, not_false_eq_true, pk_sub, nm_div, nm_shl, nm_shr, nm_ush, nm_or8, nm_or64, nm_or256, nm_m1, nm_m3, nm_m7, nm_m15, nm_m31, nm_m63, nm_m255, nm_m511, nm_m1023, nm_m2047, nm_m65535, Nat.reduceMod, Nat.reducePow, Nat.reduceAdd, Nat.reduceSub, Nat.reduceMul, nm_bo, nm_bi, nm_rc, nm_ic, nm_ri, nm_rl, nm_rq, nm_ql, nm_qi, nm_li, nm_us, nm_uu, nm_cp, nm_sa31, nm_sa7, nm_m127, nm_m2, nm_nz, nm_nzk, nm_eq32, nm_nzf, if_true, if_false, ↓reduceIte, if_pos, if_neg]
        · refine Eq.trans ?_ i2
          rw [show df_X16_nameAt_28 n (m' + (j + 1) + 1) = dF_X16_nameAt_28 n (df_X16_nameAt_28 n (m' + (j + 1))) from rfl, show m' + (j + 1) = m' + j + 1 by omega]
          generalize df_X16_nameAt_28 n (m' + j + 1) = G
          cases gd with
          | false => simp (disch := (first | assumption | decide | omega)) only [dF_X16_nameAt_28, df_X16_nameAt_107, df_X16_nameAt_106, k16, e12, y2, y4, zz, bI_f, Bool.false_and, eq_self, Nat.reduceEqDiff, Nat.reduceLeDiff, nl_0, nl_1, nl_12, nl_14, nl_16, nl_22, nl_32, nl_33, nl_127, no_1, no_1024, pk_mul, nI_add, nm_ck, nI_clamp, nI_ltI, nI_leI, nI_eq, nb_b2, nb_b1, ↓nb_let, nm_z0, nm_z1, nb_II, nb_IR, nb_RI, nb_RR, nm_IL, nm_IQ, nm_RL, nm_RQ, nm_LI, nm_LR, nm_LL, nm_LQ, nm_QI, nm_QR, nm_QL, nm_QQ, nm_rr, nm_ii, nm_eqm, not_false_eq_true, pk_sub, nm_div, nm_shl, nm_shr, nm_ush, nm_or8, nm_or64, nm_or256, nm_m1, nm_m3, nm_m7, nm_m15, nm_m31, nm_m63, nm_m255, nm_m511, nm_m1023, nm_m2047, nm_m65535, Nat.reduceMod, Nat.reducePow, Nat.reduceAdd, Nat.reduceSub, Nat.reduceMul, nm_bo, nm_bi, nm_rc, nm_ic, nm_ri, nm_rl, nm_rq, nm_ql, nm_qi, nm_li, nm_us, nm_uu, nm_cp, nm_sa31, nm_sa7, nm_m127, nm_m2, nm_nz, nm_nzk, nm_eq32, nm_nzf, if_true, if_false, ↓reduceIte, if_pos, if_neg]
          | true =>
            by_cases c1 : z ≤ 32
            · rw [decide_eq_false (show ¬ (33 ≤ z ∧ z ≤ 126) by omega)]
              simp (disch := (first | assumption | decide | omega)) only [dF_X16_nameAt_28, df_X16_nameAt_107, df_X16_nameAt_106, k16, e12, y2, y4, zz, c1, bI_t, bI_f, Bool.and_false, eq_self, Nat.reduceEqDiff, Nat.reduceLeDiff, nl_0, nl_1, nl_12, nl_14, nl_16, nl_22, nl_32, nl_33, nl_127, no_1, no_1024, pk_mul, nI_add, nm_ck, nI_clamp, nI_ltI, nI_leI, nI_eq, nb_b2, nb_b1, ↓nb_let, nm_z0, nm_z1, nb_II, nb_IR, nb_RI, nb_RR, nm_IL, nm_IQ, nm_RL, nm_RQ, nm_LI, nm_LR, nm_LL, nm_LQ, nm_QI, nm_QR, nm_QL, nm_QQ, nm_rr, nm_ii, nm_eqm, not_false_eq_true, pk_sub, nm_div, nm_shl, nm_shr, nm_ush, nm_or8, nm_or64, nm_or256, nm_m1, nm_m3, nm_m7, nm_m15, nm_m31, nm_m63, nm_m255, nm_m511, nm_m1023, nm_m2047, nm_m65535, Nat.reduceMod, Nat.reducePow, Nat.reduceAdd, Nat.reduceSub, Nat.reduceMul, nm_bo, nm_bi, nm_rc, nm_ic, nm_ri, nm_rl, nm_rq, nm_ql, nm_qi, nm_li, nm_us, nm_uu, nm_cp, nm_sa31, nm_sa7, nm_m127, nm_m2, nm_nz, nm_nzk, nm_eq32, nm_nzf, if_true, if_false, ↓reduceIte, if_pos, if_neg]
            · by_cases c2 : 127 ≤ z
              · rw [decide_eq_false (show ¬ (33 ≤ z ∧ z ≤ 126) by omega)]
                simp (disch := (first | assumption | decide | omega)) only [dF_X16_nameAt_28, df_X16_nameAt_107, df_X16_nameAt_106, k16, e12, y2, y4, zz, c1, c2, bI_t, bI_f, Bool.and_false, eq_self, Nat.reduceEqDiff, Nat.reduceLeDiff, nl_0, nl_1, nl_12, nl_14, nl_16, nl_22, nl_32, nl_33, nl_127, no_1, no_1024, pk_mul, nI_add, nm_ck, nI_clamp, nI_ltI, nI_leI, nI_eq, nb_b2, nb_b1, ↓nb_let, nm_z0, nm_z1, nb_II, nb_IR, nb_RI, nb_RR, nm_IL, nm_IQ, nm_RL, nm_RQ, nm_LI, nm_LR, nm_LL, nm_LQ, nm_QI, nm_QR, nm_QL, nm_QQ, nm_rr, nm_ii, nm_eqm, not_false_eq_true, pk_sub, nm_div, nm_shl, nm_shr, nm_ush, nm_or8, nm_or64, nm_or256, nm_m1, nm_m3, nm_m7, nm_m15, nm_m31, nm_m63, nm_m255, nm_m511, nm_m1023, nm_m2047, nm_m65535, Nat.reduceMod, Nat.reducePow, Nat.reduceAdd, Nat.reduceSub, Nat.reduceMul, nm_bo, nm_bi, nm_rc, nm_ic, nm_ri, nm_rl, nm_rq, nm_ql, nm_qi, nm_li, nm_us, nm_uu, nm_cp, nm_sa31, nm_sa7, nm_m127, nm_m2, nm_nz, nm_nzk, nm_eq32, nm_nzf, if_true, if_false, ↓reduceIte, if_pos, if_neg]
              · rw [decide_eq_true (show 33 ≤ z ∧ z ≤ 126 by omega)]
                simp (disch := (first | assumption | decide | omega)) only [dF_X16_nameAt_28, df_X16_nameAt_107, df_X16_nameAt_106, k16, e12, y2, y4, zz, c1, c2, bI_t, Bool.and_true, eq_self, Nat.reduceEqDiff, Nat.reduceLeDiff, nl_0, nl_1, nl_12, nl_14, nl_16, nl_22, nl_32, nl_33, nl_127, no_1, no_1024, pk_mul, nI_add, nm_ck, nI_clamp, nI_ltI, nI_leI, nI_eq, nb_b2, nb_b1, ↓nb_let, nm_z0, nm_z1, nb_II, nb_IR, nb_RI, nb_RR, nm_IL, nm_IQ, nm_RL, nm_RQ, nm_LI, nm_LR, nm_LL, nm_LQ, nm_QI, nm_QR, nm_QL, nm_QQ, nm_rr, nm_ii, nm_eqm, not_false_eq_true, pk_sub, nm_div, nm_shl, nm_shr, nm_ush, nm_or8, nm_or64, nm_or256, nm_m1, nm_m3, nm_m7, nm_m15, nm_m31, nm_m63, nm_m255, nm_m511, nm_m1023, nm_m2047, nm_m65535, Nat.reduceMod, Nat.reducePow, Nat.reduceAdd, Nat.reduceSub, Nat.reduceMul, nm_bo, nm_bi, nm_rc, nm_ic, nm_ri, nm_rl, nm_rq, nm_ql, nm_qi, nm_li, nm_us, nm_uu, nm_cp, nm_sa31, nm_sa7, nm_m127, nm_m2, nm_nz, nm_nzk, nm_eq32, nm_nzf, if_true, if_false, ↓reduceIte, if_pos, if_neg]
/-- a name is read, in both -/
theorem nk_namet1 (n : Nat) (hn : 1024 < n) {M X : St × St} (h : rK M X) {p : Nat} (hp : p < 16) (e12 : sI X.1 12 = nI p) (a : Int32) {K1 K2 : St} : ∃ (v : Int32) (f g : Nat → Int32), df_X5_readName_t1 n (nI p) a (K1, (K2, M)) = some (v, (pR K1 0 f, (K2, M))) ∧ df_X16_nameAt n a X = some (v, (pR X.1 33 g, X.2)) ∧ (∀ i : Nat, i < 16 → b8 (f i) (g i)) ∧ (v = nI 0 ∨ v = -nI 14 ∨ v = -nI 22) := by
  obtain ⟨A, hA, rfl⟩ := nI_ex a
  obtain ⟨m, hm⟩ := nm_lq (fun m k => df_X16_nameAt_2 n m (nI A) (nI k) (pR X.1 33 (fl (sR X.1 33) 0 k (nI 0)), X.2)) 16 n (by omega) (fun k m hk => by
    have u1 : k < 16 := hk
    have u2 : k < 2 ^ 31 := by omega
    have k16 : ¬ 16 ≤ k := by omega
    have fs := fl_s (sR X.1 33) 0 k (nI 0)
    rw [Nat.zero_add] at fs
    rw [show df_X16_nameAt_2 n (m + 1) = dF_X16_nameAt_2 n (df_X16_nameAt_2 n m) from rfl]
    simp (disch := (first | assumption | decide | omega)) only [dF_X16_nameAt_2, k16, fs, eq_self, Nat.reduceEqDiff, Nat.reduceLeDiff, nl_0, nl_1, nl_16, nl_33, no_1, no_1024, pk_mul, nI_add, nm_ck, nI_clamp, nI_ltI, nI_leI, nI_eq, nb_b2, nb_b1, ↓nb_let, nm_z0, nm_z1, nb_II, nb_IR, nb_RI, nb_RR, nm_IL, nm_IQ, nm_RL, nm_RQ, nm_LI, nm_LR, nm_LL, nm_LQ, nm_QI, nm_QR, nm_QL, nm_QQ, nm_rr, nm_ii, nm_eqm, not_false_eq_true, pk_sub, nm_div, nm_shl, nm_shr, nm_ush, nm_or8, nm_or64, nm_or256, nm_m1, nm_m3, nm_m7, nm_m15, nm_m31, nm_m63, nm_m255, nm_m511, nm_m1023, nm_m2047, nm_m65535, Nat.reduceMod, Nat.reducePow, Nat.reduceAdd, Nat.reduceSub, Nat.reduceMul, nm_bo, nm_bi, nm_rc, nm_ic, nm_ri, nm_rl, nm_rq, nm_ql, nm_qi, nm_li, nm_us, nm_uu, nm_cp, nm_sa31, nm_sa7, nm_m127, nm_m2, nm_nz, nm_nzk, nm_eq32, nm_nzf, if_true, if_false, ↓reduceIte, if_pos, if_neg])
  rw [fl_0, nm_r0] at hm
  have e2 : df_X16_nameAt n (nI A) X = df_X16_nameAt_28 n n (nI A) (nI 0) (bI true) (nI 0) (pR X.1 33 (fl (sR X.1 33) 0 16 (nI 0)), X.2) := by
    refine Eq.trans (b := df_X16_nameAt_2 n n (nI A) (nI 0) X) rfl (Eq.trans hm ?_)
    show df_X16_nameAt_2 n (m + 1) (nI A) (nI 16) _ = _
    rw [show df_X16_nameAt_2 n (m + 1) = dF_X16_nameAt_2 n (df_X16_nameAt_2 n m) from rfl, bI_t]
    simp (disch := (first | assumption | decide | omega)) only [dF_X16_nameAt_2, eq_self, Nat.reduceEqDiff, Nat.reduceLeDiff, nl_0, nl_1, nl_16, nl_33, no_1, no_1024, pk_mul, nI_add, nm_ck, nI_clamp, nI_ltI, nI_leI, nI_eq, nb_b2, nb_b1, ↓nb_let, nm_z0, nm_z1, nb_II, nb_IR, nb_RI, nb_RR, nm_IL, nm_IQ, nm_RL, nm_RQ, nm_LI, nm_LR, nm_LL, nm_LQ, nm_QI, nm_QR, nm_QL, nm_QQ, nm_rr, nm_ii, nm_eqm, not_false_eq_true, pk_sub, nm_div, nm_shl, nm_shr, nm_ush, nm_or8, nm_or64, nm_or256, nm_m1, nm_m3, nm_m7, nm_m15, nm_m31, nm_m63, nm_m255, nm_m511, nm_m1023, nm_m2047, nm_m65535, Nat.reduceMod, Nat.reducePow, Nat.reduceAdd, Nat.reduceSub, Nat.reduceMul, nm_bo, nm_bi, nm_rc, nm_ic, nm_ri, nm_rl, nm_rq, nm_ql, nm_qi, nm_li, nm_us, nm_uu, nm_cp, nm_sa31, nm_sa7, nm_m127, nm_m2, nm_nz, nm_nzk, nm_eq32, nm_nzf, if_true, if_false, ↓reduceIte, if_pos, if_neg]
  have e1 : df_X5_readName_t1 n (nI p) (nI A) (K1, (K2, M)) = df_X5_readName_t1_14 n n (nI p) (nI A) (-nI 1) (bI true) (nI 0) (pR K1 0 (nd_fl 16 (vp_nar .byte 0) (sR K1 0)), (K2, M)) := by
    rw [bI_t]
    simp (disch := (first | assumption | decide | omega)) only [df_X5_readName_t1, df_X5_readName_t1_0, eq_self, Nat.reduceEqDiff, Nat.reduceLeDiff, nl_0, nl_1, nl_16, no_1, no_1024, pk_mul, nI_add, nm_ck, nI_clamp, nI_ltI, nI_leI, nI_eq, nb_b2, nb_b1, ↓nb_let, nm_z0, nm_z1, nb_II, nb_IR, nb_RI, nb_RR, nm_IL, nm_IQ, nm_RL, nm_RQ, nm_LI, nm_LR, nm_LL, nm_LQ, nm_QI, nm_QR, nm_QL, nm_QQ, nm_rr, nm_ii, nm_eqm, not_false_eq_true, pk_sub, nm_div, nm_shl, nm_shr, nm_ush, nm_or8, nm_or64, nm_or256, nm_m1, nm_m3, nm_m7, nm_m15, nm_m31, nm_m63, nm_m255, nm_m511, nm_m1023, nm_m2047, nm_m65535, Nat.reduceMod, Nat.reducePow, Nat.reduceAdd, Nat.reduceSub, Nat.reduceMul, nm_bo, nm_bi, nm_rc, nm_ic, nm_ri, nm_rl, nm_rq, nm_ql, nm_qi, nm_li, nm_us, nm_uu, nm_cp, nm_sa31, nm_sa7, nm_m127, nm_m2, nm_nz, nm_nzk, nm_eq32, nm_nzf, if_true, if_false, ↓reduceIte, if_pos, if_neg]
  obtain ⟨v, f', g', i1, i2, i3, i4⟩ := rn_tt1 n h hp e12 A (K1 := K1) (K2 := K2) 16 0 (n - 18) (n - 17) (nd_fl 16 (vp_nar .byte 0) (sR K1 0)) (fl (sR X.1 33) 0 16 (nI 0)) true (by omega) (fun i hi => by
    rw [show nd_fl 16 (vp_nar .byte 0) (sR K1 0) i = vp_nar .byte 0 from if_pos hi, fl_i (by omega)]
    exact b8_0)
  rw [show n - 18 + 16 + 1 + 1 = n by omega] at i1
  rw [show n - 17 + 16 + 1 = n by omega] at i2
  exact ⟨v, f', g', e1.trans i1, e2.trans i2, i3, i4⟩
/-- the turns of 'readName' and of 'nameAt' -/
theorem rn_tt2 (n : Nat) {M X : St × St} (h : rK M X) {p : Nat} (hp : p < 16) (e12 : sI X.1 12 = nI p) (A : Nat) {K1 K2 : St} : ∀ (j k m m' : Nat) (f g : Nat → Int32) (gd : Bool), k + j = 16 → (∀ i : Nat, i < 16 → b8 (f i) (g i)) → ∃ (v : Int32) (f' g' : Nat → Int32), df_X5_readName_t2_14 n (m + j + 1 + 1) (nI p) (nI A) (-nI 1) (bI gd) (nI k) (pR K1 1 f, (K2, M)) = some (v, (pR K1 1 f', (K2, M))) ∧ df_X16_nameAt_28 n (m' + j + 1) (nI A) (nI k) (bI gd) (nI k) (pR X.1 33 g, X.2) = some (v, (pR X.1 33 g', X.2)) ∧ (∀ i : Nat, i < 16 → b8 (f' i) (g' i)) ∧ (v = nI 0 ∨ v = -nI 14 ∨ v = -nI 22) := by
  have z0 : ¬ (nI 0 : Int32) ≤ -nI 1 := by decide
  have z1 : (-nI 1 : Int32) ≤ nI 0 := by decide
  intro j
  induction j with
  | zero =>
    intro k m m' f g gd hk hb
    have hk : k = 16 := hk
    subst hk
    refine ⟨-nI 22, f, g, ?_, ?_, hb, Or.inr (Or.inr rfl)⟩
    · rw [show df_X5_readName_t2_14 n (m + 0 + 1 + 1) = dF_X5_readName_t2_14 n (df_X5_readName_t2_14 n (m + 0 + 1)) from rfl]
      generalize df_X5_readName_t2_14 n (m + 0 + 1) = G
      cases gd with
      | true => simp (disch := (first | assumption | decide | omega)) only [dF_X5_readName_t2_14, df_X5_readName_t2_110, df_X5_readName_t2_124, df_X5_readName_t2_126, bI_t, z1, eq_self, Nat.reduceEqDiff, Nat.reduceLeDiff, nl_0, nl_1, nl_14, nl_16, nl_22, nl_33, nl_126, no_1, no_1024, pk_mul, nI_add, nm_ck, nI_clamp, nI_ltI, nI_leI, nI_eq, nb_b2, nb_b1, ↓nb_let, nm_z0, nm_z1, nb_II, nb_IR, nb_RI, nb_RR, nm_IL, nm_IQ, nm_RL, nm_RQ, nm_LI, nm_LR, nm_LL, nm_LQ, nm_QI, nm_QR, nm_QL, nm_QQ, nm_rr, nm_ii, nm_eqm, not_false_eq_true, pk_sub, nm_div, nm_shl, nm_shr, nm_ush, nm_or8, nm_or64, nm_or256, nm_m1, nm_m3, nm_m7, nm_m15, nm_m31, nm_m63, nm_m255, nm_m511, nm_m1023, nm_m2047, nm_m65535, Nat.reduceMod, Nat.reducePow, Nat.reduceAdd, Nat.reduceSub, Nat.reduceMul, nm_bo, nm_bi, nm_rc, nm_ic, nm_ri, nm_rl, nm_rq, nm_ql, nm_qi, nm_li, nm_us, nm_uu, nm_cp, nm_sa31, nm_sa7, nm_m127, nm_m2, nm_nz, nm_nzk, nm_eq32, nm_nzf, if_true, if_false, ↓reduceIte, if_pos, if_neg]
      | false => simp (disch := (first | assumption | decide | omega)) only [dF_X5_readName_t2_14, df_X5_readName_t2_110, df_X5_readName_t2_124, df_X5_readName_t2_126, bI_f, eq_self, Nat.reduceEqDiff, Nat.reduceLeDiff, nl_0, nl_1, nl_14, nl_16, nl_22, nl_33, nl_126, no_1, no_1024, pk_mul, nI_add, nm_ck, nI_clamp, nI_ltI, nI_leI, nI_eq, nb_b2, nb_b1, ↓nb_let, nm_z0, nm_z1, nb_II, nb_IR, nb_RI, nb_RR, nm_IL, nm_IQ, nm_RL, nm_RQ, nm_LI, nm_LR, nm_LL, nm_LQ, nm_QI, nm_QR, nm_QL, nm_QQ, nm_rr, nm_ii, nm_eqm, not_false_eq_true, pk_sub, nm_div, nm_shl, nm_shr, nm_ush, nm_or8, nm_or64, nm_or256, nm_m1, nm_m3, nm_m7, nm_m15, nm_m31, nm_m63, nm_m255, nm_m511, nm_m1023, nm_m2047, nm_m65535, Nat.reduceMod, Nat.reducePow, Nat.reduceAdd, Nat.reduceSub, Nat.reduceMul, nm_bo, nm_bi, nm_rc, nm_ic, nm_ri, nm_rl, nm_rq, nm_ql, nm_qi, nm_li, nm_us, nm_uu, nm_cp, nm_sa31, nm_sa7, nm_m127, nm_m2, nm_nz, nm_nzk, nm_eq32, nm_nzf, if_true, if_false, ↓reduceIte, if_pos, if_neg]
    · rw [show df_X16_nameAt_28 n (m' + 0 + 1) = dF_X16_nameAt_28 n (df_X16_nameAt_28 n (m' + 0)) from rfl]
      generalize df_X16_nameAt_28 n (m' + 0) = G
      simp (disch := (first | assumption | decide | omega)) only [dF_X16_nameAt_28, eq_self, Nat.reduceEqDiff, Nat.reduceLeDiff, nl_0, nl_1, nl_12, nl_14, nl_16, nl_22, nl_32, nl_127, no_1, no_1024, pk_mul, nI_add, nm_ck, nI_clamp, nI_ltI, nI_leI, nI_eq, nb_b2, nb_b1, ↓nb_let, nm_z0, nm_z1, nb_II, nb_IR, nb_RI, nb_RR, nm_IL, nm_IQ, nm_RL, nm_RQ, nm_LI, nm_LR, nm_LL, nm_LQ, nm_QI, nm_QR, nm_QL, nm_QQ, nm_rr, nm_ii, nm_eqm, not_false_eq_true, pk_sub, nm_div, nm_shl, nm_shr, nm_ush, nm_or8, nm_or64, nm_or256, nm_m1, nm_m3, nm_m7, nm_m15, nm_m31, nm_m63, nm_m255, nm_m511, nm_m1023, nm_m2047, nm_m65535, Nat.reduceMod, Nat.reducePow, Nat.reduceAdd, Nat.reduceSub, Nat.reduceMul, nm_bo, nm_bi, nm_rc, nm_ic, nm_ri, nm_rl, nm_rq, nm_ql, nm_qi, nm_li, nm_us, nm_uu, nm_cp, nm_sa31, nm_sa7, nm_m127, nm_m2, nm_nz, nm_nzk, nm_eq32, nm_nzf, if_true, if_false, ↓reduceIte, if_pos, if_neg]
  | succ j ih =>
    intro k m m' f g gd hk hb
    have k16 : ¬ 16 ≤ k := by omega
    have u1 : k < 2 ^ 31 := by omega
    have u2 : k < 16 := by omega
    have uX : rK M (pR X.1 33 g, X.2) := h
    have e12' : sI (pR X.1 33 g) 12 = nI p := e12
    rcases nk_nb n uX hp e12' (A + k) with ⟨y1, y2⟩ | ⟨z, hz, y1, y2, y3, y4⟩
    · refine ⟨-nI 14, f, g, ?_, ?_, hb, Or.inr (Or.inl rfl)⟩
      · rw [show df_X5_readName_t2_14 n (m + (j + 1) + 1 + 1) = dF_X5_readName_t2_14 n (df_X5_readName_t2_14 n (m + (j + 1) + 1)) from rfl]
        generalize df_X5_readName_t2_14 n (m + (j + 1) + 1) = G
        simp (disch := (first | assumption | decide | omega)) only [dF_X5_readName_t2_14, k16, z0, y1, eq_self, Nat.reduceEqDiff, Nat.reduceLeDiff, nl_0, nl_1, nl_14, nl_16, nl_33, nl_126, no_1, no_1024, pk_mul, nI_add, nm_ck, nI_clamp, nI_ltI, nI_leI, nI_eq, nb_b2, nb_b1, ↓nb_let, nm_z0, nm_z1, nb_II, nb_IR, nb_RI, nb_RR, nm_IL, nm_IQ, nm_RL, nm_RQ, nm_LI, nm_LR, nm_LL, nm_LQ, nm_QI, nm_QR, nm_QL, nm_QQ, nm_rr, nm_ii, nm_eqm, not_false_eq_true, pk_sub, nm_div, nm_shl, nm_shr, nm_ush, nm_or8, nm_or64, nm_or256, nm_m1, nm_m3, nm_m7, nm_m15, nm_m31, nm_m63, nm_m255, nm_m511, nm_m1023, nm_m2047, nm_m65535, Nat.reduceMod, Nat.reducePow, Nat.reduceAdd, Nat.reduceSub, Nat.reduceMul, nm_bo, nm_bi, nm_rc, nm_ic, nm_ri, nm_rl, nm_rq, nm_ql, nm_qi, nm_li, nm_us, nm_uu, nm_cp, nm_sa31, nm_sa7, nm_m127, nm_m2, nm_nz, nm_nzk, nm_eq32, nm_nzf, if_true, if_false, ↓reduceIte, if_pos, if_neg]
      · rw [show df_X16_nameAt_28 n (m' + (j + 1) + 1) = dF_X16_nameAt_28 n (df_X16_nameAt_28 n (m' + (j + 1))) from rfl]
        generalize df_X16_nameAt_28 n (m' + (j + 1)) = G
        simp (disch := (first | assumption | decide | omega)) only [dF_X16_nameAt_28, k16, e12, y2, eq_self, Nat.reduceEqDiff, Nat.reduceLeDiff, nl_0, nl_1, nl_12, nl_14, nl_16, nl_22, nl_32, nl_127, no_1, no_1024, pk_mul, nI_add, nm_ck, nI_clamp, nI_ltI, nI_leI, nI_eq, nb_b2, nb_b1, ↓nb_let, nm_z0, nm_z1, nb_II, nb_IR, nb_RI, nb_RR, nm_IL, nm_IQ, nm_RL, nm_RQ, nm_LI, nm_LR, nm_LL, nm_LQ, nm_QI, nm_QR, nm_QL, nm_QQ, nm_rr, nm_ii, nm_eqm, not_false_eq_true, pk_sub, nm_div, nm_shl, nm_shr, nm_ush, nm_or8, nm_or64, nm_or256, nm_m1, nm_m3, nm_m7, nm_m15, nm_m31, nm_m63, nm_m255, nm_m511, nm_m1023, nm_m2047, nm_m65535, Nat.reduceMod, Nat.reducePow, Nat.reduceAdd, Nat.reduceSub, Nat.reduceMul, nm_bo, nm_bi, nm_rc, nm_ic, nm_ri, nm_rl, nm_rq, nm_ql, nm_qi, nm_li, nm_us, nm_uu, nm_cp, nm_sa31, nm_sa7, nm_m127, nm_m2, nm_nz, nm_nzk, nm_eq32, nm_nzf, if_true, if_false, ↓reduceIte, if_pos, if_neg]
    · have u3 : z < 2 ^ 31 := by omega
      by_cases zz : z = 0
      · subst zz
        have u4 : 0 ≤ k := by omega
        have u5 : k + 1 < 2 ^ 31 := by omega
        refine ⟨if gd = true ∧ 0 < k then nI 0 else -nI 22, f, g, ?_, ?_, hb, ?_⟩
        · rw [show df_X5_readName_t2_14 n (m + (j + 1) + 1 + 1) = dF_X5_readName_t2_14 n (df_X5_readName_t2_14 n (m + (j + 1) + 1)) from rfl]
          have two : ∀ G, dF_X5_readName_t2_14 n G (nI p) (nI A) (nI k) (bI gd) (nI (k + 1)) (pR K1 1 f, (K2, M)) = some (if gd = true ∧ 0 < k then nI 0 else -nI 22, (pR K1 1 f, (K2, M))) := fun G => by
            have e : dF_X5_readName_t2_14 n G (nI p) (nI A) (nI k) (bI gd) (nI (k + 1)) (pR K1 1 f, (K2, M)) = df_X5_readName_t2_110 n (nI k) (bI gd) (pR K1 1 f, (K2, M)) := by
              by_cases k15 : 16 ≤ k + 1
              · simp (disch := (first | assumption | decide | omega)) only [dF_X5_readName_t2_14, k15, eq_self, Nat.reduceEqDiff, Nat.reduceLeDiff, nl_0, nl_1, nl_14, nl_16, nl_33, nl_126, no_1, no_1024, pk_mul, nI_add, nm_ck, nI_clamp, nI_ltI, nI_leI, nI_eq, nb_b2, nb_b1, ↓nb_let, nm_z0, nm_z1, nb_II, nb_IR, nb_RI, nb_RR, nm_IL, nm_IQ, nm_RL, nm_RQ, nm_LI, nm_LR, nm_LL, nm_LQ, nm_QI, nm_QR, nm_QL, nm_QQ, nm_rr, nm_ii, nm_eqm, not_false_eq_true, pk_sub, nm_div, nm_shl, nm_shr, nm_ush, nm_or8, nm_or64, nm_or256, nm_m1, nm_m3, nm_m7, nm_m15, nm_m31, nm_m63, nm_m255, nm_m511, nm_m1023, nm_m2047, nm_m65535, Nat.reduceMod, Nat.reducePow, Nat.reduceAdd, Nat.reduceSub, Nat.reduceMul, nm_bo, nm_bi, nm_rc, nm_ic, nm_ri, nm_rl, nm_rq, nm_ql, nm_qi, nm_li, nm_us, nm_uu, nm_cp, nm_sa31, nm_sa7, nm_m127, nm_m2, nm_nz, nm_nzk, nm_eq32, nm_nzf, if_true, if_false, ↓reduceIte, if_pos, if_neg]
              · simp (disch := (first | assumption | decide | omega)) only [dF_X5_readName_t2_14, k15, u4, eq_self, Nat.reduceEqDiff, Nat.reduceLeDiff, nl_0, nl_1, nl_14, nl_16, nl_33, nl_126, no_1, no_1024, pk_mul, nI_add, nm_ck, nI_clamp, nI_ltI, nI_leI, nI_eq, nb_b2, nb_b1, ↓nb_let, nm_z0, nm_z1, nb_II, nb_IR, nb_RI, nb_RR, nm_IL, nm_IQ, nm_RL, nm_RQ, nm_LI, nm_LR, nm_LL, nm_LQ, nm_QI, nm_QR, nm_QL, nm_QQ, nm_rr, nm_ii, nm_eqm, not_false_eq_true, pk_sub, nm_div, nm_shl, nm_shr, nm_ush, nm_or8, nm_or64, nm_or256, nm_m1, nm_m3, nm_m7, nm_m15, nm_m31, nm_m63, nm_m255, nm_m511, nm_m1023, nm_m2047, nm_m65535, Nat.reduceMod, Nat.reducePow, Nat.reduceAdd, Nat.reduceSub, Nat.reduceMul, nm_bo, nm_bi, nm_rc, nm_ic, nm_ri, nm_rl, nm_rq, nm_ql, nm_qi, nm_li, nm_us, nm_uu, nm_cp, nm_sa31, nm_sa7, nm_m127, nm_m2, nm_nz, nm_nzk, nm_eq32, nm_nzf, if_true, if_false, ↓reduceIte, if_pos, if_neg]
            rw [e]
            cases gd with
            | true =>
              by_cases k0 : k ≤ 0
              · rw [if_neg (fun y => by omega)]
                simp (disch := (first | assumption | decide | omega)) only [df_X5_readName_t2_110, df_X5_readName_t2_124, df_X5_readName_t2_126, bI_t, k0, eq_self, Nat.reduceEqDiff, Nat.reduceLeDiff, nl_0, nl_22, no_1, no_1024, pk_mul, nI_add, nm_ck, nI_clamp, nI_ltI, nI_leI, nI_eq, nb_b2, nb_b1, ↓nb_let, nm_z0, nm_z1, nb_II, nb_IR, nb_RI, nb_RR, nm_IL, nm_IQ, nm_RL, nm_RQ, nm_LI, nm_LR, nm_LL, nm_LQ, nm_QI, nm_QR, nm_QL, nm_QQ, nm_rr, nm_ii, nm_eqm, not_false_eq_true, pk_sub, nm_div, nm_shl, nm_shr, nm_ush, nm_or8, nm_or64, nm_or256, nm_m1, nm_m3, nm_m7, nm_m15, nm_m31, nm_m63, nm_m255, nm_m511, nm_m1023, nm_m2047, nm_m65535, Nat.reduceMod, Nat.reducePow, Nat.reduceAdd, Nat.reduceSub, Nat.reduceMul, nm_bo, nm_bi, nm_rc, nm_ic, nm_ri, nm_rl, nm_rq, nm_ql, nm_qi, nm_li, nm_us, nm_uu, nm_cp, nm_sa31, nm_sa7, nm_m127, nm_m2, nm_nz, nm_nzk, nm_eq32, nm_nzf, if_true, if_false, ↓reduceIte, if_pos, if_neg]
              · rw [if_pos ⟨rfl, by omega⟩]
                simp (disch := (first | assumption | decide | omega)) only [df_X5_readName_t2_110, df_X5_readName_t2_124, df_X5_readName_t2_126, bI_t, k0, eq_self, Nat.reduceEqDiff, Nat.reduceLeDiff, nl_0, nl_22, no_1, no_1024, pk_mul, nI_add, nm_ck, nI_clamp, nI_ltI, nI_leI, nI_eq, nb_b2, nb_b1, ↓nb_let, nm_z0, nm_z1, nb_II, nb_IR, nb_RI, nb_RR, nm_IL, nm_IQ, nm_RL, nm_RQ, nm_LI, nm_LR, nm_LL, nm_LQ, nm_QI, nm_QR, nm_QL, nm_QQ, nm_rr, nm_ii, nm_eqm, not_false_eq_true, pk_sub, nm_div, nm_shl, nm_shr, nm_ush, nm_or8, nm_or64, nm_or256, nm_m1, nm_m3, nm_m7, nm_m15, nm_m31, nm_m63, nm_m255, nm_m511, nm_m1023, nm_m2047, nm_m65535, Nat.reduceMod, Nat.reducePow, Nat.reduceAdd, Nat.reduceSub, Nat.reduceMul, nm_bo, nm_bi, nm_rc, nm_ic, nm_ri, nm_rl, nm_rq, nm_ql, nm_qi, nm_li, nm_us, nm_uu, nm_cp, nm_sa31, nm_sa7, nm_m127, nm_m2, nm_nz, nm_nzk, nm_eq32, nm_nzf, if_true, if_false, ↓reduceIte, if_pos, if_neg]
            | false =>
              rw [if_neg (fun y => nomatch y.1)]
              simp (disch := (first | assumption | decide | omega)) only [df_X5_readName_t2_110, df_X5_readName_t2_124, df_X5_readName_t2_126, bI_f, eq_self, Nat.reduceEqDiff, Nat.reduceLeDiff, nl_0, nl_22, no_1, no_1024, pk_mul, nI_add, nm_ck, nI_clamp, nI_ltI, nI_leI, nI_eq, nb_b2, nb_b1, ↓nb_let, nm_z0, nm_z1, nb_II, nb_IR, nb_RI, nb_RR, nm_IL, nm_IQ, nm_RL, nm_RQ, nm_LI, nm_LR, nm_LL, nm_LQ, nm_QI, nm_QR, nm_QL, nm_QQ, nm_rr, nm_ii, nm_eqm, not_false_eq_true, pk_sub, nm_div, nm_shl, nm_shr, nm_ush, nm_or8, nm_or64, nm_or256, nm_m1, nm_m3, nm_m7, nm_m15, nm_m31, nm_m63, nm_m255, nm_m511, nm_m1023, nm_m2047, nm_m65535, Nat.reduceMod, Nat.reducePow, Nat.reduceAdd, Nat.reduceSub, Nat.reduceMul, nm_bo, nm_bi, nm_rc, nm_ic, nm_ri, nm_rl, nm_rq, nm_ql, nm_qi, nm_li, nm_us, nm_uu, nm_cp, nm_sa31, nm_sa7, nm_m127, nm_m2, nm_nz, nm_nzk, nm_eq32, nm_nzf, if_true, if_false, ↓reduceIte, if_pos, if_neg]
          have one : ∀ G, dF_X5_readName_t2_14 n G (nI p) (nI A) (-nI 1) (bI gd) (nI k) (pR K1 1 f, (K2, M)) = G (nI p) (nI A) (nI k) (bI gd) (nI (k + 1)) (pR K1 1 f, (K2, M)) := fun G => by
            simp (disch := (first | assumption | decide | omega)) only [dF_X5_readName_t2_14, df_X5_readName_t2_104, k16, z0, y1, y3, eq_self, Nat.reduceEqDiff, Nat.reduceLeDiff, nl_0, nl_1, nl_14, nl_16, nl_33, nl_126, no_1, no_1024, pk_mul, nI_add, nm_ck, nI_clamp, nI_ltI, nI_leI, nI_eq, nb_b2, nb_b1, ↓nb_let, nm_z0, nm_z1, nb_II, nb_IR, nb_RI, nb_RR, nm_IL, nm_IQ, nm_RL, nm_RQ, nm_LI, nm_LR, nm_LL, nm_LQ, nm_QI, nm_QR, nm_QL, nm_QQ, nm_rr, nm_ii, nm_eqm, not_false_eq_true, pk_sub, nm_div, nm_shl, nm_shr, nm_ush, nm_or8, nm_or64, nm_or256, nm_m1, nm_m3, nm_m7, nm_m15, nm_m31, nm_m63, nm_m255, nm_m511, nm_m1023, nm_m2047, nm_m65535, Nat.reduceMod, Nat.reducePow, Nat.reduceAdd, Nat.reduceSub, Nat.reduceMul, nm_bo, nm_bi, nm_rc, nm_ic, nm_ri, nm_rl, nm_rq, nm_ql, nm_qi, nm_li, nm_us, nm_uu, nm_cp, nm_sa31, nm_sa7, nm_m127, nm_m2, nm_nz, nm_nzk, nm_eq32, nm_nzf, if_true, if_false, ↓reduceIte, if_pos, if_neg]
          rw [one]
          exact two _
        · rw [show df_X16_nameAt_28 n (m' + (j + 1) + 1) = dF_X16_nameAt_28 n (df_X16_nameAt_28 n (m' + (j + 1))) from rfl]
          generalize df_X16_nameAt_28 n (m' + (j + 1)) = G
          cases gd with
          | true =>
            by_cases k0 : k ≤ 0
            · rw [if_neg (fun y => by omega)]
              simp (disch := (first | assumption | decide | omega)) only [dF_X16_nameAt_28, df_X16_nameAt_81, df_X16_nameAt_83, k16, e12, y2, y4, k0, eq_self, Nat.reduceEqDiff, Nat.reduceLeDiff, nl_0, nl_1, nl_12, nl_14, nl_16, nl_22, nl_32, nl_127, no_1, no_1024, pk_mul, nI_add, nm_ck, nI_clamp, nI_ltI, nI_leI, nI_eq, nb_b2, nb_b1, ↓nb_let, nm_z0, nm_z1, nb_II, nb_IR, nb_RI, nb_RR, nm_IL, nm_IQ, nm_RL, nm_RQ, nm_LI, nm_LR, nm_LL, nm_LQ, nm_QI, nm_QR, nm_QL, nm_QQ, nm_rr, nm_ii, nm_eqm, not_false_eq_true, pk_sub, nm_div, nm_shl, nm_shr, nm_ush, nm_or8, nm_or64, nm_or256, nm_m1, nm_m3, nm_m7, nm_m15, nm_m31, nm_m63, nm_m255, nm_m511, nm_m1023, nm_m2047, nm_m65535, Nat.reduceMod, Nat.reducePow, Nat.reduceAdd, Nat.reduceSub, Nat.reduceMul, nm_bo, nm_bi, nm_rc, nm_ic, nm_ri, nm_rl, nm_rq, nm_ql, nm_qi, nm_li, nm_us, nm_uu, nm_cp, nm_sa31, nm_sa7, nm_m127, nm_m2, nm_nz, nm_nzk, nm_eq32, nm_nzf, if_true, if_false, ↓reduceIte, if_pos, if_neg]
            · rw [if_pos ⟨rfl, by omega⟩]
              simp (disch := (first | assumption | decide | omega)) only [dF_X16_nameAt_28, df_X16_nameAt_81, df_X16_nameAt_83, k16, e12, y2, y4, k0, bI_t, eq_self, Nat.reduceEqDiff, Nat.reduceLeDiff, nl_0, nl_1, nl_12, nl_14, nl_16, nl_22, nl_32, nl_127, no_1, no_1024, pk_mul, nI_add, nm_ck, nI_clamp, nI_ltI, nI_leI, nI_eq, nb_b2, nb_b1, ↓nb_let, nm_z0, nm_z1, nb_II, nb_IR, nb_RI, nb_RR, nm_IL, nm_IQ, nm_RL, nm_RQ, nm_LI, nm_LR, nm_LL, nm_LQ, nm_QI, nm_QR, nm_QL, nm_QQ, nm_rr, nm_ii, nm_eqm, not_false_eq_true, pk_sub, nm_div, nm_shl, nm_shr, nm_ush, nm_or8, nm_or64, nm_or256, nm_m1, nm_m3, nm_m7, nm_m15, nm_m31, nm_m63, nm_m255, nm_m511, nm_m1023, nm_m2047, nm_m65535, Nat.reduceMod, Nat.reducePow, Nat.reduceAdd, Nat.reduceSub, Nat.reduceMul, nm_bo, nm_bi, nm_rc, nm_ic, nm_ri, nm_rl, nm_rq, nm_ql, nm_qi, nm_li, nm_us, nm_uu, nm_cp, nm_sa31, nm_sa7, nm_m127, nm_m2, nm_nz, nm_nzk, nm_eq32, nm_nzf, if_true, if_false, ↓reduceIte, if_pos, if_neg]
          | false =>
            rw [if_neg (fun y => nomatch y.1)]
            by_cases k0 : k ≤ 0
            · simp (disch := (first | assumption | decide | omega)) only [dF_X16_nameAt_28, df_X16_nameAt_81, df_X16_nameAt_83, k16, e12, y2, y4, k0, eq_self, Nat.reduceEqDiff, Nat.reduceLeDiff, nl_0, nl_1, nl_12, nl_14, nl_16, nl_22, nl_32, nl_127, no_1, no_1024, pk_mul, nI_add, nm_ck, nI_clamp, nI_ltI, nI_leI, nI_eq, nb_b2, nb_b1, ↓nb_let, nm_z0, nm_z1, nb_II, nb_IR, nb_RI, nb_RR, nm_IL, nm_IQ, nm_RL, nm_RQ, nm_LI, nm_LR, nm_LL, nm_LQ, nm_QI, nm_QR, nm_QL, nm_QQ, nm_rr, nm_ii, nm_eqm, not_false_eq_true, pk_sub, nm_div, nm_shl, nm_shr, nm_ush, nm_or8, nm_or64, nm_or256, nm_m1, nm_m3, nm_m7, nm_m15, nm_m31, nm_m63, nm_m255, nm_m511, nm_m1023, nm_m2047, nm_m65535, Nat.reduceMod, Nat.reducePow, Nat.reduceAdd, Nat.reduceSub, Nat.reduceMul, nm_bo, nm_bi, nm_rc, nm_ic, nm_ri, nm_rl, nm_rq, nm_ql, nm_qi, nm_li, nm_us, nm_uu, nm_cp, nm_sa31, nm_sa7, nm_m127, nm_m2, nm_nz, nm_nzk, nm_eq32, nm_nzf, if_true, if_false, ↓reduceIte, if_pos, if_neg]
            · simp (disch := (first | assumption | decide | omega)) only [dF_X16_nameAt_28, df_X16_nameAt_81, df_X16_nameAt_83, k16, e12, y2, y4, k0, bI_f, eq_self, Nat.reduceEqDiff, Nat.reduceLeDiff, nl_0, nl_1, nl_12, nl_14, nl_16, nl_22, nl_32, nl_127, no_1, no_1024, pk_mul, nI_add, nm_ck, nI_clamp, nI_ltI, nI_leI, nI_eq, nb_b2, nb_b1, ↓nb_let, nm_z0, nm_z1, nb_II, nb_IR, nb_RI, nb_RR, nm_IL, nm_IQ, nm_RL, nm_RQ, nm_LI, nm_LR, nm_LL, nm_LQ, nm_QI, nm_QR, nm_QL, nm_QQ, nm_rr, nm_ii, nm_eqm, not_false_eq_true, pk_sub, nm_div, nm_shl, nm_shr, nm_ush, nm_or8, nm_or64, nm_or256, nm_m1, nm_m3, nm_m7, nm_m15, nm_m31, nm_m63, nm_m255, nm_m511, nm_m1023, nm_m2047, nm_m65535, Nat.reduceMod, Nat.reducePow, Nat.reduceAdd, Nat.reduceSub, Nat.reduceMul, nm_bo, nm_bi, nm_rc, nm_ic, nm_ri, nm_rl, nm_rq, nm_ql, nm_qi, nm_li, nm_us, nm_uu, nm_cp, nm_sa31, nm_sa7, nm_m127, nm_m2, nm_nz, nm_nzk, nm_eq32, nm_nzf, if_true, if_false, ↓reduceIte, if_pos, if_neg]
        · by_cases c : gd = true ∧ 0 < k
          · rw [if_pos c]; exact Or.inl rfl
          · rw [if_neg c]; exact Or.inr (Or.inr rfl)
      · -- a byte of the name
        obtain ⟨v, f', g', i1, i2, i3, i4⟩ := ih (k + 1) m m' (upd f k (vp_nar .byte ((nI z).toInt8.toInt32))) (upd g k (nI z)) (gd && decide (33 ≤ z ∧ z ≤ 126)) (by omega) (fun i hi => by
          by_cases c : i = k
          · rw [c, nm_us, nm_us]; exact b8_z hz
          · rw [nm_un c, nm_un c]; exact hb i hi)
        refine ⟨v, f', g', ?_, ?_, i3, i4⟩
        · refine Eq.trans ?_ i1
          rw [show df_X5_readName_t2_14 n (m + (j + 1) + 1 + 1) = dF_X5_readName_t2_14 n (df_X5_readName_t2_14 n (m + (j + 1) + 1)) from rfl, show m + (j + 1) + 1 = m + j + 1 + 1 by omega]
          generalize df_X5_readName_t2_14 n (m + j + 1 + 1) = G
          cases gd with
          | false => simp (disch := (first | assumption | decide | omega)) only [dF_X5_readName_t2_14, df_X5_readName_t2_104, df_X5_readName_t2_95, df_X5_readName_t2_94, k16, z0, y1, y3, zz, bI_f, Bool.false_and, eq_self, Nat.reduceEqDiff, Nat.reduceLeDiff, nl_0, nl_1, nl_14, nl_16, nl_33, nl_126, no_1, no_1024, pk_mul, nI_add, nm_ck, nI_clamp, nI_ltI, nI_leI, nI_eq, nb_b2, nb_b1, ↓nb_let, nm_z0, nm_z1, nb_II, nb_IR, nb_RI, nb_RR, nm_IL, nm_IQ, nm_RL, nm_RQ, nm_LI, nm_LR, nm_LL, nm_LQ, nm_QI, nm_QR, nm_QL, nm_QQ, nm_rr, nm_ii, nm_eqm, not_false_eq_true, pk_sub, nm_div, nm_shl, nm_shr, nm_ush, nm_or8, nm_or64, nm_or256, nm_m1, nm_m3, nm_m7, nm_m15, nm_m31, nm_m63, nm_m255, nm_m511, nm_m1023, nm_m2047, nm_m65535, Nat.reduceMod, Nat.reducePow, Nat.reduceAdd, Nat.reduceSub, Nat.reduceMul, nm_bo, nm_bi, nm_rc, nm_ic, nm_ri, nm_rl, nm_rq, nm_ql, nm_qi, nm_li, nm_us, nm_uu, nm_cp, nm_sa31, nm_sa7, nm_m127, nm_m2, nm_nz, nm_nzk, nm_eq32, nm_nzf, if_true, if_false, ↓reduceIte, if_pos, if_neg]
          | true =>
            by_cases c1 : z < 33
            · rw [decide_eq_false (show ¬ (33 ≤ z ∧ z ≤ 126) by omega)]
              simp (disch := (first | assumption | decide | omega)) only [dF_X5_readName_t2_14, df_X5_readName_t2_104, df_X5_readName_t2_95, df_X5_readName_t2_94, k16, z0, y1, y3, zz, c1, bI_t, bI_f, Bool.and_false, eq_self, Nat.reduceEqDiff, Nat.reduceLeDiff, nl_0, nl_1, nl_14, nl_16, nl_33, nl_126, no_1, no_1024, pk_mul, nI_add, nm_ck, nI_clamp, nI_ltI, nI_leI, nI_eq, nb_b2, nb_b1, ↓nb_let, nm_z0, nm_z1, nb_II, nb_IR, nb_RI, nb_RR, nm_IL, nm_IQ, nm_RL, nm_RQ, nm_LI, nm_LR, nm_LL, nm_LQ, nm_QI, nm_QR, nm_QL, nm_QQ, nm_rr, nm_ii, nm_eqm, not_false_eq_true, pk_sub, nm_div, nm_shl, nm_shr, nm_ush, nm_or8, nm_or64, nm_or256, nm_m1, nm_m3, nm_m7, nm_m15, nm_m31, nm_m63, nm_m255, nm_m511, nm_m1023, nm_m2047, nm_m65535, Nat.reduceMod, Nat.reducePow, Nat.reduceAdd, Nat.reduceSub, Nat.reduceMul, nm_bo, nm_bi, nm_rc, nm_ic, nm_ri, nm_rl, nm_rq, nm_ql, nm_qi, nm_li, nm_us, nm_uu, nm_cp, nm_sa31, nm_sa7, nm_m127, nm_m2, nm_nz, nm_nzk, nm_eq32, nm_nzf, if_true, if_false, ↓reduceIte, if_pos, if_neg]
            · by_cases c2 : 126 < z
              · rw [decide_eq_false (show ¬ (33 ≤ z ∧ z ≤ 126) by omega)]
                simp (disch := (first | assumption | decide | omega)) only [dF_X5_readName_t2_14, df_X5_readName_t2_104, df_X5_readName_t2_95, df_X5_readName_t2_94, k16, z0, y1, y3, zz, c1, c2, bI_t, bI_f, Bool.and_false, eq_self, Nat.reduceEqDiff, Nat.reduceLeDiff, nl_0, nl_1, nl_14, nl_16, nl_33, nl_126, no_1, no_1024, pk_mul, nI_add, nm_ck, nI_clamp, nI_ltI, nI_leI, nI_eq, nb_b2, nb_b1, ↓nb_let, nm_z0, nm_z1, nb_II, nb_IR, nb_RI, nb_RR, nm_IL, nm_IQ, nm_RL, nm_RQ, nm_LI, nm_LR, nm_LL, nm_LQ, nm_QI, nm_QR, nm_QL, nm_QQ, nm_rr, nm_ii, nm_eqm, not_false_eq_true, pk_sub, nm_div, nm_shl, nm_shr, nm_ush, nm_or8, nm_or64, nm_or256, nm_m1, nm_m3, nm_m7, nm_m15, nm_m31, nm_m63, nm_m255, nm_m511, nm_m1023, nm_m2047, nm_m65535, Nat.reduceMod, Nat.reducePow, Nat.reduceAdd, Nat.reduceSub, Nat.reduceMul, nm_bo, nm_bi, nm_rc, nm_ic, nm_ri, nm_rl, nm_rq, nm_ql, nm_qi, nm_li, nm_us, nm_uu, nm_cp, nm_sa31, nm_sa7, nm_m127, nm_m2, nm_nz, nm_nzk, nm_eq32, nm_nzf, if_true, if_false, ↓reduceIte, if_pos, if_neg]
              · rw [decide_eq_true (show 33 ≤ z ∧ z ≤ 126 by omega)]
                simp (disch := (first | assumption | decide | omega)) only [dF_X5_readName_t2_14, df_X5_readName_t2_104, df_X5_readName_t2_95, df_X5_readName_t2_94, k16, z0, y1, y3, zz, c1, c2, bI_t, Bool.and_true, eq_self, Nat.reduceEqDiff, Nat.reduceLeDiff, nl_0, nl_1, nl_14, nl_16, nl_33, nl_126, no_1, no_1024, pk_mul, nI_add, nm_ck, nI_clamp, nI_ltI, nI_leI, nI_eq, nb_b2, nb_b1, ↓nb_let, nm_z0, nm_z1, nb_II, nb_IR, nb_RI, nb_RR, nm_IL, nm_IQ, nm_RL, nm_RQ, nm_LI, nm_LR, nm_LL, nm_LQ, nm_QI, nm_QR, nm_QL, nm_QQ, nm_rr, nm_ii, nm_eqm, not_false_eq_true, pk_sub, nm_div, nm_shl, nm_shr, nm_ush, nm_or8, nm_or64, nm_or256, nm_m1, nm_m3, nm_m7, nm_m15, nm_m31, nm_m63, nm_m255, nm_m511, nm_m1023, nm_m2047, nm_m65535, Nat.reduceMod, Nat.reducePow, Nat.reduceAdd, Nat.reduceSub, Nat.reduceMul, nm_bo, nm_bi, nm_rc, nm_ic, nm_ri, nm_rl, nm_rq, nm_ql, nm_qi, nm_li, nm_us, nm_uu, nm_cp, nm_sa31, nm_sa7, nm_m127, nm_m2, nm_nz, nm_nzk, nm_eq32, nm_nzf, if_true, if_false, ↓reduceIte, if_pos, if_neg]
        · refine Eq.trans ?_ i2
          rw [show df_X16_nameAt_28 n (m' + (j + 1) + 1) = dF_X16_nameAt_28 n (df_X16_nameAt_28 n (m' + (j + 1))) from rfl, show m' + (j + 1) = m' + j + 1 by omega]
          generalize df_X16_nameAt_28 n (m' + j + 1) = G
          cases gd with
          | false => simp (disch := (first | assumption | decide | omega)) only [dF_X16_nameAt_28, df_X16_nameAt_107, df_X16_nameAt_106, k16, e12, y2, y4, zz, bI_f, Bool.false_and, eq_self, Nat.reduceEqDiff, Nat.reduceLeDiff, nl_0, nl_1, nl_12, nl_14, nl_16, nl_22, nl_32, nl_33, nl_127, no_1, no_1024, pk_mul, nI_add, nm_ck, nI_clamp, nI_ltI, nI_leI, nI_eq, nb_b2, nb_b1, ↓nb_let, nm_z0, nm_z1, nb_II, nb_IR, nb_RI, nb_RR, nm_IL, nm_IQ, nm_RL, nm_RQ, nm_LI, nm_LR, nm_LL, nm_LQ, nm_QI, nm_QR, nm_QL, nm_QQ, nm_rr, nm_ii, nm_eqm, not_false_eq_true, pk_sub, nm_div, nm_shl, nm_shr, nm_ush, nm_or8, nm_or64, nm_or256, nm_m1, nm_m3, nm_m7, nm_m15, nm_m31, nm_m63, nm_m255, nm_m511, nm_m1023, nm_m2047, nm_m65535, Nat.reduceMod, Nat.reducePow, Nat.reduceAdd, Nat.reduceSub, Nat.reduceMul, nm_bo, nm_bi, nm_rc, nm_ic, nm_ri, nm_rl, nm_rq, nm_ql, nm_qi, nm_li, nm_us, nm_uu, nm_cp, nm_sa31, nm_sa7, nm_m127, nm_m2, nm_nz, nm_nzk, nm_eq32, nm_nzf, if_true, if_false, ↓reduceIte, if_pos, if_neg]
          | true =>
            by_cases c1 : z ≤ 32
            · rw [decide_eq_false (show ¬ (33 ≤ z ∧ z ≤ 126) by omega)]
              simp (disch := (first | assumption | decide | omega)) only [dF_X16_nameAt_28, df_X16_nameAt_107, df_X16_nameAt_106, k16, e12, y2, y4, zz, c1, bI_t, bI_f, Bool.and_false, eq_self, Nat.reduceEqDiff, Nat.reduceLeDiff, nl_0, nl_1, nl_12, nl_14, nl_16, nl_22, nl_32, nl_33, nl_127, no_1, no_1024, pk_mul, nI_add, nm_ck, nI_clamp, nI_ltI, nI_leI, nI_eq, nb_b2, nb_b1, ↓nb_let, nm_z0, nm_z1, nb_II, nb_IR, nb_RI, nb_RR, nm_IL, nm_IQ, nm_RL, nm_RQ, nm_LI, nm_LR, nm_LL, nm_LQ, nm_QI, nm_QR, nm_QL, nm_QQ, nm_rr, nm_ii, nm_eqm, not_false_eq_true, pk_sub, nm_div, nm_shl, nm_shr, nm_ush, nm_or8, nm_or64, nm_or256, nm_m1, nm_m3, nm_m7, nm_m15, nm_m31, nm_m63, nm_m255, nm_m511, nm_m1023, nm_m2047, nm_m65535, Nat.reduceMod, Nat.reducePow, Nat.reduceAdd, Nat.reduceSub, Nat.reduceMul, nm_bo, nm_bi, nm_rc, nm_ic, nm_ri, nm_rl, nm_rq, nm_ql, nm_qi, nm_li, nm_us, nm_uu, nm_cp, nm_sa31, nm_sa7, nm_m127, nm_m2, nm_nz, nm_nzk, nm_eq32, nm_nzf, if_true, if_false, ↓reduceIte, if_pos, if_neg]
            · by_cases c2 : 127 ≤ z
              · rw [decide_eq_false (show ¬ (33 ≤ z ∧ z ≤ 126) by omega)]
                simp (disch := (first | assumption | decide | omega)) only [dF_X16_nameAt_28, df_X16_nameAt_107, df_X16_nameAt_106, k16, e12, y2, y4, zz, c1, c2, bI_t, bI_f, Bool.and_false, eq_self, Nat.reduceEqDiff, Nat.reduceLeDiff, nl_0, nl_1, nl_12, nl_14, nl_16, nl_22, nl_32, nl_33, nl_127, no_1, no_1024, pk_mul, nI_add, nm_ck, nI_clamp, nI_ltI, nI_leI, nI_eq, nb_b2, nb_b1, ↓nb_let, nm_z0, nm_z1, nb_II, nb_IR, nb_RI, nb_RR, nm_IL, nm_IQ, nm_RL, nm_RQ, nm_LI, nm_LR, nm_LL, nm_LQ, nm_QI, nm_QR, nm_QL, nm_QQ, nm_rr, nm_ii, nm_eqm, not_false_eq_true, pk_sub, nm_div, nm_shl, nm_shr, nm_ush, nm_or8, nm_or64, nm_or256, nm_m1, nm_m3, nm_m7, nm_m15, nm_m31, nm_m63, nm_m255, nm_m511, nm_m1023, nm_m2047, nm_m65535, Nat.reduceMod, Nat.reducePow, Nat.reduceAdd, Nat.reduceSub, Nat.reduceMul, nm_bo, nm_bi, nm_rc, nm_ic, nm_ri, nm_rl, nm_rq, nm_ql, nm_qi, nm_li, nm_us, nm_uu, nm_cp, nm_sa31, nm_sa7, nm_m127, nm_m2, nm_nz, nm_nzk, nm_eq32, nm_nzf, if_true, if_false, ↓reduceIte, if_pos, if_neg]
              · rw [decide_eq_true (show 33 ≤ z ∧ z ≤ 126 by omega)]
                simp (disch := (first | assumption | decide | omega)) only [dF_X16_nameAt_28, df_X16_nameAt_107, df_X16_nameAt_106, k16, e12, y2, y4, zz, c1, c2, bI_t, Bool.and_true, eq_self, Nat.reduceEqDiff, Nat.reduceLeDiff, nl_0, nl_1, nl_12, nl_14, nl_16, nl_22, nl_32, nl_33, nl_127, no_1, no_1024, pk_mul, nI_add, nm_ck, nI_clamp, nI_ltI, nI_leI, nI_eq, nb_b2, nb_b1, ↓nb_let, nm_z0, nm_z1, nb_II, nb_IR, nb_RI, nb_RR, nm_IL, nm_IQ, nm_RL, nm_RQ, nm_LI, nm_LR, nm_LL, nm_LQ, nm_QI, nm_QR, nm_QL, nm_QQ, nm_rr, nm_ii, nm_eqm, not_false_eq_true, pk_sub, nm_div, nm_shl, nm_shr, nm_ush, nm_or8, nm_or64, nm_or256, nm_m1, nm_m3, nm_m7, nm_m15, nm_m31, nm_m63, nm_m255, nm_m511, nm_m1023, nm_m2047, nm_m65535, Nat.reduceMod, Nat.reducePow, Nat.reduceAdd, Nat.reduceSub, Nat.reduceMul, nm_bo, nm_bi, nm_rc, nm_ic, nm_ri, nm_rl, nm_rq, nm_ql, nm_qi, nm_li, nm_us, nm_uu, nm_cp, nm_sa31, nm_sa7, nm_m127, nm_m2, nm_nz, nm_nzk, nm_eq32, nm_nzf, if_true, if_false, ↓reduceIte, if_pos, if_neg]
/-- a name is read, in both -/
theorem nk_namet2 (n : Nat) (hn : 1024 < n) {M X : St × St} (h : rK M X) {p : Nat} (hp : p < 16) (e12 : sI X.1 12 = nI p) (a : Int32) {K1 K2 : St} : ∃ (v : Int32) (f g : Nat → Int32), df_X5_readName_t2 n (nI p) a (K1, (K2, M)) = some (v, (pR K1 1 f, (K2, M))) ∧ df_X16_nameAt n a X = some (v, (pR X.1 33 g, X.2)) ∧ (∀ i : Nat, i < 16 → b8 (f i) (g i)) ∧ (v = nI 0 ∨ v = -nI 14 ∨ v = -nI 22) := by
  obtain ⟨A, hA, rfl⟩ := nI_ex a
  obtain ⟨m, hm⟩ := nm_lq (fun m k => df_X16_nameAt_2 n m (nI A) (nI k) (pR X.1 33 (fl (sR X.1 33) 0 k (nI 0)), X.2)) 16 n (by omega) (fun k m hk => by
    have u1 : k < 16 := hk
    have u2 : k < 2 ^ 31 := by omega
    have k16 : ¬ 16 ≤ k := by omega
    have fs := fl_s (sR X.1 33) 0 k (nI 0)
    rw [Nat.zero_add] at fs
    rw [show df_X16_nameAt_2 n (m + 1) = dF_X16_nameAt_2 n (df_X16_nameAt_2 n m) from rfl]
    simp (disch := (first | assumption | decide | omega)) only [dF_X16_nameAt_2, k16, fs, eq_self, Nat.reduceEqDiff, Nat.reduceLeDiff, nl_0, nl_1, nl_16, nl_33, no_1, no_1024, pk_mul, nI_add, nm_ck, nI_clamp, nI_ltI, nI_leI, nI_eq, nb_b2, nb_b1, ↓nb_let, nm_z0, nm_z1, nb_II, nb_IR, nb_RI, nb_RR, nm_IL, nm_IQ, nm_RL, nm_RQ, nm_LI, nm_LR, nm_LL, nm_LQ, nm_QI, nm_QR, nm_QL, nm_QQ, nm_rr, nm_ii, nm_eqm, not_false_eq_true, pk_sub, nm_div, nm_shl, nm_shr, nm_ush, nm_or8, nm_or64, nm_or256, nm_m1, nm_m3, nm_m7, nm_m15, nm_m31, nm_m63, nm_m255, nm_m511, nm_m1023, nm_m2047, nm_m65535, Nat.reduceMod, Nat.reducePow, Nat.reduceAdd, Nat.reduceSub, Nat.reduceMul, nm_bo, nm_bi, nm_rc, nm_ic, nm_ri, nm_rl, nm_rq, nm_ql, nm_qi, nm_li, nm_us, nm_uu, nm_cp, nm_sa31, nm_sa7, nm_m127, nm_m2, nm_nz, nm_nzk, nm_eq32, nm_nzf, if_true, if_false, ↓reduceIte, if_pos, if_neg])
  rw [fl_0, nm_r0] at hm
  have e2 : df_X16_nameAt n (nI A) X = df_X16_nameAt_28 n n (nI A) (nI 0) (bI true) (nI 0) (pR X.1 33 (fl (sR X.1 33) 0 16 (nI 0)), X.2) := by
    refine Eq.trans (b := df_X16_nameAt_2 n n (nI A) (nI 0) X) rfl (Eq.trans hm ?_)
    show df_X16_nameAt_2 n (m + 1) (nI A) (nI 16) _ = _
    rw [show df_X16_nameAt_2 n (m + 1) = dF_X16_nameAt_2 n (df_X16_nameAt_2 n m) from rfl, bI_t]
    simp (disch := (first | assumption | decide | omega)) only [dF_X16_nameAt_2, eq_self, Nat.reduceEqDiff, Nat.reduceLeDiff, nl_0, nl_1, nl_16, nl_33, no_1, no_1024, pk_mul, nI_add, nm_ck, nI_clamp, nI_ltI, nI_leI, nI_eq, nb_b2, nb_b1, ↓nb_let, nm_z0, nm_z1, nb_II, nb_IR, nb_RI, nb_RR, nm_IL, nm_IQ, nm_RL, nm_RQ, nm_LI, nm_LR, nm_LL, nm_LQ, nm_QI, nm_QR, nm_QL, nm_QQ, nm_rr, nm_ii, nm_eqm, not_false_eq_true, pk_sub, nm_div, nm_shl, nm_shr, nm_ush, nm_or8, nm_or64, nm_or256, nm_m1, nm_m3, nm_m7, nm_m15, nm_m31, nm_m63, nm_m255, nm_m511, nm_m1023, nm_m2047, nm_m65535, Nat.reduceMod, Nat.reducePow, Nat.reduceAdd, Nat.reduceSub, Nat.reduceMul, nm_bo, nm_bi, nm_rc, nm_ic, nm_ri, nm_rl, nm_rq, nm_ql, nm_qi, nm_li, nm_us, nm_uu, nm_cp, nm_sa31, nm_sa7, nm_m127, nm_m2, nm_nz, nm_nzk, nm_eq32, nm_nzf, if_true, if_false, ↓reduceIte, if_pos, if_neg]
  have e1 : df_X5_readName_t2 n (nI p) (nI A) (K1, (K2, M)) = df_X5_readName_t2_14 n n (nI p) (nI A) (-nI 1) (bI true) (nI 0) (pR K1 1 (nd_fl 16 (vp_nar .byte 0) (sR K1 1)), (K2, M)) := by
    rw [bI_t]
    simp (disch := (first | assumption | decide | omega)) only [df_X5_readName_t2, df_X5_readName_t2_0, eq_self, Nat.reduceEqDiff, Nat.reduceLeDiff, nl_0, nl_1, nl_16, no_1, no_1024, pk_mul, nI_add, nm_ck, nI_clamp, nI_ltI, nI_leI, nI_eq, nb_b2, nb_b1, ↓nb_let, nm_z0, nm_z1, nb_II, nb_IR, nb_RI, nb_RR, nm_IL, nm_IQ, nm_RL, nm_RQ, nm_LI, nm_LR, nm_LL, nm_LQ, nm_QI, nm_QR, nm_QL, nm_QQ, nm_rr, nm_ii, nm_eqm, not_false_eq_true, pk_sub, nm_div, nm_shl, nm_shr, nm_ush, nm_or8, nm_or64, nm_or256, nm_m1, nm_m3, nm_m7, nm_m15, nm_m31, nm_m63, nm_m255, nm_m511, nm_m1023, nm_m2047, nm_m65535, Nat.reduceMod, Nat.reducePow, Nat.reduceAdd, Nat.reduceSub, Nat.reduceMul, nm_bo, nm_bi, nm_rc, nm_ic, nm_ri, nm_rl, nm_rq, nm_ql, nm_qi, nm_li, nm_us, nm_uu, nm_cp, nm_sa31, nm_sa7, nm_m127, nm_m2, nm_nz, nm_nzk, nm_eq32, nm_nzf, if_true, if_false, ↓reduceIte, if_pos, if_neg]
  obtain ⟨v, f', g', i1, i2, i3, i4⟩ := rn_tt2 n h hp e12 A (K1 := K1) (K2 := K2) 16 0 (n - 18) (n - 17) (nd_fl 16 (vp_nar .byte 0) (sR K1 1)) (fl (sR X.1 33) 0 16 (nI 0)) true (by omega) (fun i hi => by
    rw [show nd_fl 16 (vp_nar .byte 0) (sR K1 1) i = vp_nar .byte 0 from if_pos hi, fl_i (by omega)]
    exact b8_0)
  rw [show n - 18 + 16 + 1 + 1 = n by omega] at i1
  rw [show n - 17 + 16 + 1 = n by omega] at i2
  exact ⟨v, f', g', e1.trans i1, e2.trans i2, i3, i4⟩

/-- the first place where two rows of 16 differ -/
def eqF (a b : Nat → Int32) : Nat := fN (fun i => decide (¬ a i = b i)) 0 16
theorem in_C (n : Nat) (hn : 1024 < n) {s : St × St} {g2 : Int32 → St × St → Option (Int32 × (St × St))} {k : Nat} (hk : k < 16) : df_X10_fileNamed_30 n g2 n (nI k) (nI 1) (nI 0) s = if eqF (fun i => sR s.2 6 (k * 16 + i)) (sR s.1 0) = 16 then some (nI k, s) else g2 (nI (k + 1)) s := by
  obtain ⟨n1, rfl⟩ : ∃ n1 : Nat, n = n1 + 1 := ⟨n - 1, by omega⟩
  obtain ⟨x1, x2, x3, x4⟩ := fN_le (fun i => decide (¬ sR s.2 6 (k * 16 + i) = sR s.1 0 i)) 16 0
  obtain ⟨m, hm⟩ := nm_ls (fun m i => df_X10_fileNamed_30 (n1 + 1) g2 (m + 1) (nI k) (nI 1) (nI i) s) (fun i => decide (¬ sR s.2 6 (k * 16 + i) = sR s.1 0 i)) 0 16 n1 (by omega) (fun i m h0 hi c => by
    have c : sR s.2 6 (k * 16 + i) = sR s.1 0 i := Classical.not_not.mp (of_decide_eq_false c)
    have u1 : k * 16 + i < 256 := by omega
    have u2 : i < 16 := by omega
    have u3 : i < 2 ^ 31 := by omega
    have u4 : k * 16 + i < 2 ^ 31 := by omega
    have i16 : ¬ 16 ≤ i := by omega
    show df_X10_fileNamed_30 (n1 + 1) g2 (m + 1 + 1) _ _ _ _ = df_X10_fileNamed_30 (n1 + 1) g2 (m + 1) _ _ (nI (i + 1)) _
    rw [show df_X10_fileNamed_30 (n1 + 1) g2 (m + 1 + 1) = dF_X10_fileNamed_30 (n1 + 1) g2 (df_X10_fileNamed_30 (n1 + 1) g2 (m + 1)) from rfl]
    generalize df_X10_fileNamed_30 (n1 + 1) g2 (m + 1) = G
    simp (disch := (first | assumption | decide | omega)) only [dF_X10_fileNamed_30, df_X10_fileNamed_65, i16, c, eq_self, Nat.reduceEqDiff, Nat.reduceLeDiff, nl_0, nl_1, nl_6, nl_16, nl_256, no_1, no_1024, pk_mul, nI_add, nm_ck, nI_clamp, nI_ltI, nI_leI, nI_eq, nb_b2, nb_b1, ↓nb_let, nm_z0, nm_z1, nb_II, nb_IR, nb_RI, nb_RR, nm_IL, nm_IQ, nm_RL, nm_RQ, nm_LI, nm_LR, nm_LL, nm_LQ, nm_QI, nm_QR, nm_QL, nm_QQ, nm_rr, nm_ii, nm_eqm, not_false_eq_true, pk_sub, nm_div, nm_shl, nm_shr, nm_ush, nm_or8, nm_or64, nm_or256, nm_m1, nm_m3, nm_m7, nm_m15, nm_m31, nm_m63, nm_m255, nm_m511, nm_m1023, nm_m2047, nm_m65535, Nat.reduceMod, Nat.reducePow, Nat.reduceAdd, Nat.reduceSub, Nat.reduceMul, nm_bo, nm_bi, nm_rc, nm_ic, nm_ri, nm_rl, nm_rq, nm_ql, nm_qi, nm_li, nm_us, nm_uu, nm_cp, nm_sa31, nm_sa7, nm_m127, nm_m2, nm_nz, nm_nzk, nm_eq32, nm_nzf, if_true, if_false, ↓reduceIte, if_pos, if_neg])
  have hm : df_X10_fileNamed_30 (n1 + 1) g2 (n1 + 1) (nI k) (nI 1) (nI 0) s = df_X10_fileNamed_30 (n1 + 1) g2 (m + 1 + 1) (nI k) (nI 1) (nI (eqF (fun i => sR s.2 6 (k * 16 + i)) (sR s.1 0))) s := hm
  rw [hm]
  have x3' : eqF (fun i => sR s.2 6 (k * 16 + i)) (sR s.1 0) < 16 → ¬ sR s.2 6 (k * 16 + eqF (fun i => sR s.2 6 (k * 16 + i)) (sR s.1 0)) = sR s.1 0 (eqF (fun i => sR s.2 6 (k * 16 + i)) (sR s.1 0)) := fun z => of_decide_eq_true (x3 z)
  have x2' : eqF (fun i => sR s.2 6 (k * 16 + i)) (sR s.1 0) ≤ 16 := x2
  generalize eqF (fun i => sR s.2 6 (k * 16 + i)) (sR s.1 0) = d at x2' x3'
  clear hm x1 x2 x3 x4
  rw [show df_X10_fileNamed_30 (n1 + 1) g2 (m + 1 + 1) = dF_X10_fileNamed_30 (n1 + 1) g2 (dF_X10_fileNamed_30 (n1 + 1) g2 (df_X10_fileNamed_30 (n1 + 1) g2 m)) from rfl]
  generalize df_X10_fileNamed_30 (n1 + 1) g2 m = G
  have u3 : d < 2 ^ 31 := by omega
  have u5 : k < 2 ^ 31 := by omega
  by_cases c : d = 16
  · subst c
    rw [if_pos rfl]
    simp (disch := (first | assumption | decide | omega)) only [dF_X10_fileNamed_30, df_X10_fileNamed_72, eq_self, Nat.reduceEqDiff, Nat.reduceLeDiff, nl_0, nl_1, nl_6, nl_16, nl_256, no_1, no_1024, pk_mul, nI_add, nm_ck, nI_clamp, nI_ltI, nI_leI, nI_eq, nb_b2, nb_b1, ↓nb_let, nm_z0, nm_z1, nb_II, nb_IR, nb_RI, nb_RR, nm_IL, nm_IQ, nm_RL, nm_RQ, nm_LI, nm_LR, nm_LL, nm_LQ, nm_QI, nm_QR, nm_QL, nm_QQ, nm_rr, nm_ii, nm_eqm, not_false_eq_true, pk_sub, nm_div, nm_shl, nm_shr, nm_ush, nm_or8, nm_or64, nm_or256, nm_m1, nm_m3, nm_m7, nm_m15, nm_m31, nm_m63, nm_m255, nm_m511, nm_m1023, nm_m2047, nm_m65535, Nat.reduceMod, Nat.reducePow, Nat.reduceAdd, Nat.reduceSub, Nat.reduceMul, nm_bo, nm_bi, nm_rc, nm_ic, nm_ri, nm_rl, nm_rq, nm_ql, nm_qi, nm_li, nm_us, nm_uu, nm_cp, nm_sa31, nm_sa7, nm_m127, nm_m2, nm_nz, nm_nzk, nm_eq32, nm_nzf, if_true, if_false, ↓reduceIte, if_pos, if_neg]
  · rw [if_neg c]
    have ne := x3' (by omega)
    have u1 : k * 16 + d < 256 := by omega
    have u2 : d < 16 := by omega
    have u4 : k * 16 + d < 2 ^ 31 := by omega
    have i16 : ¬ 16 ≤ d := by omega
    have e1 : ∀ G', dF_X10_fileNamed_30 (n1 + 1) g2 G' (nI k) (nI 1) (nI d) s = G' (nI k) (nI 0) (nI (d + 1)) s := fun G' => by
      simp (disch := (first | assumption | decide | omega)) only [dF_X10_fileNamed_30, df_X10_fileNamed_65, i16, ne, eq_self, Nat.reduceEqDiff, Nat.reduceLeDiff, nl_0, nl_1, nl_6, nl_16, nl_256, no_1, no_1024, pk_mul, nI_add, nm_ck, nI_clamp, nI_ltI, nI_leI, nI_eq, nb_b2, nb_b1, ↓nb_let, nm_z0, nm_z1, nb_II, nb_IR, nb_RI, nb_RR, nm_IL, nm_IQ, nm_RL, nm_RQ, nm_LI, nm_LR, nm_LL, nm_LQ, nm_QI, nm_QR, nm_QL, nm_QQ, nm_rr, nm_ii, nm_eqm, not_false_eq_true, pk_sub, nm_div, nm_shl, nm_shr, nm_ush, nm_or8, nm_or64, nm_or256, nm_m1, nm_m3, nm_m7, nm_m15, nm_m31, nm_m63, nm_m255, nm_m511, nm_m1023, nm_m2047, nm_m65535, Nat.reduceMod, Nat.reducePow, Nat.reduceAdd, Nat.reduceSub, Nat.reduceMul, nm_bo, nm_bi, nm_rc, nm_ic, nm_ri, nm_rl, nm_rq, nm_ql, nm_qi, nm_li, nm_us, nm_uu, nm_cp, nm_sa31, nm_sa7, nm_m127, nm_m2, nm_nz, nm_nzk, nm_eq32, nm_nzf, if_true, if_false, ↓reduceIte, if_pos, if_neg]
    rw [e1]
    simp (disch := (first | assumption | decide | omega)) only [dF_X10_fileNamed_30, df_X10_fileNamed_72, eq_self, Nat.reduceEqDiff, Nat.reduceLeDiff, nl_0, nl_1, nl_6, nl_16, nl_256, no_1, no_1024, pk_mul, nI_add, nm_ck, nI_clamp, nI_ltI, nI_leI, nI_eq, nb_b2, nb_b1, ↓nb_let, nm_z0, nm_z1, nb_II, nb_IR, nb_RI, nb_RR, nm_IL, nm_IQ, nm_RL, nm_RQ, nm_LI, nm_LR, nm_LL, nm_LQ, nm_QI, nm_QR, nm_QL, nm_QQ, nm_rr, nm_ii, nm_eqm, not_false_eq_true, pk_sub, nm_div, nm_shl, nm_shr, nm_ush, nm_or8, nm_or64, nm_or256, nm_m1, nm_m3, nm_m7, nm_m15, nm_m31, nm_m63, nm_m255, nm_m511, nm_m1023, nm_m2047, nm_m65535, Nat.reduceMod, Nat.reducePow, Nat.reduceAdd, Nat.reduceSub, Nat.reduceMul, nm_bo, nm_bi, nm_rc, nm_ic, nm_ri, nm_rl, nm_rq, nm_ql, nm_qi, nm_li, nm_us, nm_uu, nm_cp, nm_sa31, nm_sa7, nm_m127, nm_m2, nm_nz, nm_nzk, nm_eq32, nm_nzf, if_true, if_false, ↓reduceIte, if_pos, if_neg]
theorem in_R (n : Nat) (hn : 1024 < n) {s : St × St} {g2 : Int32 → St × St → Option (Int32 × (St × St))} {k : Nat} (hk : k < 16) : df_X16_named_34 n g2 n (nI k) (nI 1) (nI 0) s = if eqF (fun i => sR s.1 30 (16 * k + i)) (sR s.1 33) = 16 then some (nI k, s) else g2 (nI (k + 1)) s := by
  obtain ⟨n1, rfl⟩ : ∃ n1 : Nat, n = n1 + 1 := ⟨n - 1, by omega⟩
  obtain ⟨x1, x2, x3, x4⟩ := fN_le (fun i => decide (¬ sR s.1 30 (16 * k + i) = sR s.1 33 i)) 16 0
  obtain ⟨m, hm⟩ := nm_ls (fun m i => df_X16_named_34 (n1 + 1) g2 (m + 1) (nI k) (nI 1) (nI i) s) (fun i => decide (¬ sR s.1 30 (16 * k + i) = sR s.1 33 i)) 0 16 n1 (by omega) (fun i m h0 hi c => by
    have c : sR s.1 30 (16 * k + i) = sR s.1 33 i := Classical.not_not.mp (of_decide_eq_false c)
    have u1 : 16 * k + i < 256 := by omega
    have u2 : i < 16 := by omega
    have u3 : i < 2 ^ 31 := by omega
    have u4 : 16 * k + i < 2 ^ 31 := by omega
    have i16 : ¬ 16 ≤ i := by omega
    show df_X16_named_34 (n1 + 1) g2 (m + 1 + 1) _ _ _ _ = df_X16_named_34 (n1 + 1) g2 (m + 1) _ _ (nI (i + 1)) _
    rw [show df_X16_named_34 (n1 + 1) g2 (m + 1 + 1) = dF_X16_named_34 (n1 + 1) g2 (df_X16_named_34 (n1 + 1) g2 (m + 1)) from rfl]
    generalize df_X16_named_34 (n1 + 1) g2 (m + 1) = G
    simp (disch := (first | assumption | decide | omega)) only [dF_X16_named_34, df_X16_named_69, i16, c, eq_self, Nat.reduceEqDiff, Nat.reduceLeDiff, nl_0, nl_1, nl_16, nl_30, nl_33, nl_256, no_1, no_1024, pk_mul, nI_add, nm_ck, nI_clamp, nI_ltI, nI_leI, nI_eq, nb_b2, nb_b1, ↓nb_let, nm_z0, nm_z1, nb_II, nb_IR, nb_RI, nb_RR, nm_IL, nm_IQ, nm_RL, nm_RQ, nm_LI, nm_LR, nm_LL, nm_LQ, nm_QI, nm_QR, nm_QL, nm_QQ, nm_rr, nm_ii, nm_eqm, not_false_eq_true, pk_sub, nm_div, nm_shl, nm_shr, nm_ush, nm_or8, nm_or64, nm_or256, nm_m1, nm_m3, nm_m7, nm_m15, nm_m31, nm_m63, nm_m255, nm_m511, nm_m1023, nm_m2047, nm_m65535, Nat.reduceMod, Nat.reducePow, Nat.reduceAdd, Nat.reduceSub, Nat.reduceMul, nm_bo, nm_bi, nm_rc, nm_ic, nm_ri, nm_rl, nm_rq, nm_ql, nm_qi, nm_li, nm_us, nm_uu, nm_cp, nm_sa31, nm_sa7, nm_m127, nm_m2, nm_nz, nm_nzk, nm_eq32, nm_nzf, if_true, if_false, ↓reduceIte, if_pos, if_neg])
  have hm : df_X16_named_34 (n1 + 1) g2 (n1 + 1) (nI k) (nI 1) (nI 0) s = df_X16_named_34 (n1 + 1) g2 (m + 1 + 1) (nI k) (nI 1) (nI (eqF (fun i => sR s.1 30 (16 * k + i)) (sR s.1 33))) s := hm
  rw [hm]
  have x3' : eqF (fun i => sR s.1 30 (16 * k + i)) (sR s.1 33) < 16 → ¬ sR s.1 30 (16 * k + eqF (fun i => sR s.1 30 (16 * k + i)) (sR s.1 33)) = sR s.1 33 (eqF (fun i => sR s.1 30 (16 * k + i)) (sR s.1 33)) := fun z => of_decide_eq_true (x3 z)
  have x2' : eqF (fun i => sR s.1 30 (16 * k + i)) (sR s.1 33) ≤ 16 := x2
  generalize eqF (fun i => sR s.1 30 (16 * k + i)) (sR s.1 33) = d at x2' x3'
  clear hm x1 x2 x3 x4
  rw [show df_X16_named_34 (n1 + 1) g2 (m + 1 + 1) = dF_X16_named_34 (n1 + 1) g2 (dF_X16_named_34 (n1 + 1) g2 (df_X16_named_34 (n1 + 1) g2 m)) from rfl]
  generalize df_X16_named_34 (n1 + 1) g2 m = G
  have u3 : d < 2 ^ 31 := by omega
  have u5 : k < 2 ^ 31 := by omega
  by_cases c : d = 16
  · subst c
    rw [if_pos rfl]
    simp (disch := (first | assumption | decide | omega)) only [dF_X16_named_34, df_X16_named_76, eq_self, Nat.reduceEqDiff, Nat.reduceLeDiff, nl_0, nl_1, nl_16, nl_30, nl_33, nl_256, no_1, no_1024, pk_mul, nI_add, nm_ck, nI_clamp, nI_ltI, nI_leI, nI_eq, nb_b2, nb_b1, ↓nb_let, nm_z0, nm_z1, nb_II, nb_IR, nb_RI, nb_RR, nm_IL, nm_IQ, nm_RL, nm_RQ, nm_LI, nm_LR, nm_LL, nm_LQ, nm_QI, nm_QR, nm_QL, nm_QQ, nm_rr, nm_ii, nm_eqm, not_false_eq_true, pk_sub, nm_div, nm_shl, nm_shr, nm_ush, nm_or8, nm_or64, nm_or256, nm_m1, nm_m3, nm_m7, nm_m15, nm_m31, nm_m63, nm_m255, nm_m511, nm_m1023, nm_m2047, nm_m65535, Nat.reduceMod, Nat.reducePow, Nat.reduceAdd, Nat.reduceSub, Nat.reduceMul, nm_bo, nm_bi, nm_rc, nm_ic, nm_ri, nm_rl, nm_rq, nm_ql, nm_qi, nm_li, nm_us, nm_uu, nm_cp, nm_sa31, nm_sa7, nm_m127, nm_m2, nm_nz, nm_nzk, nm_eq32, nm_nzf, if_true, if_false, ↓reduceIte, if_pos, if_neg]
  · rw [if_neg c]
    have ne := x3' (by omega)
    have u1 : 16 * k + d < 256 := by omega
    have u2 : d < 16 := by omega
    have u4 : 16 * k + d < 2 ^ 31 := by omega
    have i16 : ¬ 16 ≤ d := by omega
    have u6 : d + 1 < 2 ^ 31 := by omega
    have e1 : ∀ G', dF_X16_named_34 (n1 + 1) g2 G' (nI k) (nI 1) (nI d) s = G' (nI k) (nI 0) (nI (d + 1)) s := fun G' => by
      simp (disch := (first | assumption | decide | omega)) only [dF_X16_named_34, df_X16_named_69, i16, ne, eq_self, Nat.reduceEqDiff, Nat.reduceLeDiff, nl_0, nl_1, nl_16, nl_30, nl_33, nl_256, no_1, no_1024, pk_mul, nI_add, nm_ck, nI_clamp, nI_ltI, nI_leI, nI_eq, nb_b2, nb_b1, ↓nb_let, nm_z0, nm_z1, nb_II, nb_IR, nb_RI, nb_RR, nm_IL, nm_IQ, nm_RL, nm_RQ, nm_LI, nm_LR, nm_LL, nm_LQ, nm_QI, nm_QR, nm_QL, nm_QQ, nm_rr, nm_ii, nm_eqm, not_false_eq_true, pk_sub, nm_div, nm_shl, nm_shr, nm_ush, nm_or8, nm_or64, nm_or256, nm_m1, nm_m3, nm_m7, nm_m15, nm_m31, nm_m63, nm_m255, nm_m511, nm_m1023, nm_m2047, nm_m65535, Nat.reduceMod, Nat.reducePow, Nat.reduceAdd, Nat.reduceSub, Nat.reduceMul, nm_bo, nm_bi, nm_rc, nm_ic, nm_ri, nm_rl, nm_rq, nm_ql, nm_qi, nm_li, nm_us, nm_uu, nm_cp, nm_sa31, nm_sa7, nm_m127, nm_m2, nm_nz, nm_nzk, nm_eq32, nm_nzf, if_true, if_false, ↓reduceIte, if_pos, if_neg]
    rw [e1]
    by_cases d15 : 16 ≤ d + 1
    · simp (disch := (first | assumption | decide | omega)) only [dF_X16_named_34, df_X16_named_76, d15, eq_self, Nat.reduceEqDiff, Nat.reduceLeDiff, nl_0, nl_1, nl_16, nl_30, nl_33, nl_256, no_1, no_1024, pk_mul, nI_add, nm_ck, nI_clamp, nI_ltI, nI_leI, nI_eq, nb_b2, nb_b1, ↓nb_let, nm_z0, nm_z1, nb_II, nb_IR, nb_RI, nb_RR, nm_IL, nm_IQ, nm_RL, nm_RQ, nm_LI, nm_LR, nm_LL, nm_LQ, nm_QI, nm_QR, nm_QL, nm_QQ, nm_rr, nm_ii, nm_eqm, not_false_eq_true, pk_sub, nm_div, nm_shl, nm_shr, nm_ush, nm_or8, nm_or64, nm_or256, nm_m1, nm_m3, nm_m7, nm_m15, nm_m31, nm_m63, nm_m255, nm_m511, nm_m1023, nm_m2047, nm_m65535, Nat.reduceMod, Nat.reducePow, Nat.reduceAdd, Nat.reduceSub, Nat.reduceMul, nm_bo, nm_bi, nm_rc, nm_ic, nm_ri, nm_rl, nm_rq, nm_ql, nm_qi, nm_li, nm_us, nm_uu, nm_cp, nm_sa31, nm_sa7, nm_m127, nm_m2, nm_nz, nm_nzk, nm_eq32, nm_nzf, if_true, if_false, ↓reduceIte, if_pos, if_neg]
    · simp (disch := (first | assumption | decide | omega)) only [dF_X16_named_34, df_X16_named_76, d15, eq_self, Nat.reduceEqDiff, Nat.reduceLeDiff, nl_0, nl_1, nl_16, nl_30, nl_33, nl_256, no_1, no_1024, pk_mul, nI_add, nm_ck, nI_clamp, nI_ltI, nI_leI, nI_eq, nb_b2, nb_b1, ↓nb_let, nm_z0, nm_z1, nb_II, nb_IR, nb_RI, nb_RR, nm_IL, nm_IQ, nm_RL, nm_RQ, nm_LI, nm_LR, nm_LL, nm_LQ, nm_QI, nm_QR, nm_QL, nm_QQ, nm_rr, nm_ii, nm_eqm, not_false_eq_true, pk_sub, nm_div, nm_shl, nm_shr, nm_ush, nm_or8, nm_or64, nm_or256, nm_m1, nm_m3, nm_m7, nm_m15, nm_m31, nm_m63, nm_m255, nm_m511, nm_m1023, nm_m2047, nm_m65535, Nat.reduceMod, Nat.reducePow, Nat.reduceAdd, Nat.reduceSub, Nat.reduceMul, nm_bo, nm_bi, nm_rc, nm_ic, nm_ri, nm_rl, nm_rq, nm_ql, nm_qi, nm_li, nm_us, nm_uu, nm_cp, nm_sa31, nm_sa7, nm_m127, nm_m2, nm_nz, nm_nzk, nm_eq32, nm_nzf, if_true, if_false, ↓reduceIte, if_pos, if_neg]
theorem in_C0 (n : Nat) (hn : 1024 < n) {s : St × St} {g2 : Int32 → St × St → Option (Int32 × (St × St))} {k : Nat} (hk : k < 16) : df_X10_fileNamed_30 n g2 n (nI k) (nI 0) (nI 0) s = g2 (nI (k + 1)) s := by
  obtain ⟨n1, rfl⟩ : ∃ n1 : Nat, n = n1 + 1 := ⟨n - 1, by omega⟩
  rw [show df_X10_fileNamed_30 (n1 + 1) g2 (n1 + 1) = dF_X10_fileNamed_30 (n1 + 1) g2 (df_X10_fileNamed_30 (n1 + 1) g2 n1) from rfl]
  generalize df_X10_fileNamed_30 (n1 + 1) g2 n1 = G
  simp (disch := (first | assumption | decide | omega)) only [dF_X10_fileNamed_30, df_X10_fileNamed_72, eq_self, Nat.reduceEqDiff, Nat.reduceLeDiff, nl_0, nl_1, nl_6, nl_16, nl_256, no_1, no_1024, pk_mul, nI_add, nm_ck, nI_clamp, nI_ltI, nI_leI, nI_eq, nb_b2, nb_b1, ↓nb_let, nm_z0, nm_z1, nb_II, nb_IR, nb_RI, nb_RR, nm_IL, nm_IQ, nm_RL, nm_RQ, nm_LI, nm_LR, nm_LL, nm_LQ, nm_QI, nm_QR, nm_QL, nm_QQ, nm_rr, nm_ii, nm_eqm, not_false_eq_true, pk_sub, nm_div, nm_shl, nm_shr, nm_ush, nm_or8, nm_or64, nm_or256, nm_m1, nm_m3, nm_m7, nm_m15, nm_m31, nm_m63, nm_m255, nm_m511, nm_m1023, nm_m2047, nm_m65535, Nat.reduceMod, Nat.reducePow, Nat.reduceAdd, Nat.reduceSub, Nat.reduceMul, nm_bo, nm_bi, nm_rc, nm_ic, nm_ri, nm_rl, nm_rq, nm_ql, nm_qi, nm_li, nm_us, nm_uu, nm_cp, nm_sa31, nm_sa7, nm_m127, nm_m2, nm_nz, nm_nzk, nm_eq32, nm_nzf, if_true, if_false, ↓reduceIte, if_pos, if_neg]
theorem in_R0 (n : Nat) (hn : 1024 < n) {s : St × St} {g2 : Int32 → St × St → Option (Int32 × (St × St))} {k : Nat} (hk : k < 16) : df_X16_named_34 n g2 n (nI k) (nI 0) (nI 0) s = g2 (nI (k + 1)) s := by
  obtain ⟨n1, rfl⟩ : ∃ n1 : Nat, n = n1 + 1 := ⟨n - 1, by omega⟩
  rw [show df_X16_named_34 (n1 + 1) g2 (n1 + 1) = dF_X16_named_34 (n1 + 1) g2 (df_X16_named_34 (n1 + 1) g2 n1) from rfl]
  generalize df_X16_named_34 (n1 + 1) g2 n1 = G
  simp (disch := (first | assumption | decide | omega)) only [dF_X16_named_34, df_X16_named_76, eq_self, Nat.reduceEqDiff, Nat.reduceLeDiff, nl_0, nl_1, nl_16, nl_30, nl_33, nl_256, no_1, no_1024, pk_mul, nI_add, nm_ck, nI_clamp, nI_ltI, nI_leI, nI_eq, nb_b2, nb_b1, ↓nb_let, nm_z0, nm_z1, nb_II, nb_IR, nb_RI, nb_RR, nm_IL, nm_IQ, nm_RL, nm_RQ, nm_LI, nm_LR, nm_LL, nm_LQ, nm_QI, nm_QR, nm_QL, nm_QQ, nm_rr, nm_ii, nm_eqm, not_false_eq_true, pk_sub, nm_div, nm_shl, nm_shr, nm_ush, nm_or8, nm_or64, nm_or256, nm_m1, nm_m3, nm_m7, nm_m15, nm_m31, nm_m63, nm_m255, nm_m511, nm_m1023, nm_m2047, nm_m65535, Nat.reduceMod, Nat.reducePow, Nat.reduceAdd, Nat.reduceSub, Nat.reduceMul, nm_bo, nm_bi, nm_rc, nm_ic, nm_ri, nm_rl, nm_rq, nm_ql, nm_qi, nm_li, nm_us, nm_uu, nm_cp, nm_sa31, nm_sa7, nm_m127, nm_m2, nm_nz, nm_nzk, nm_eq32, nm_nzf, if_true, if_false, ↓reduceIte, if_pos, if_neg]
/-- the file that has the name, or 16 -/
def fnm (X : St × St) (g : Nat → Int32) : Nat := fN (fun k => decide (sR X.1 25 k = nI 1 ∧ eqF (fun i => sR X.1 30 (16 * k + i)) g = 16)) 0 16
theorem nk_named (n : Nat) (hn : 1024 < n) {B : Nat} {E : St} {M X : St × St} (m2 : rDD M X) (m7 : rTT B M X) (hb : ∀ i : Nat, i < 16 → b8 (sR E 0 i) (sR X.1 33 i)) : df_X10_fileNamed n (E, M.2) = some (cv (fnm X (sR X.1 33)), (E, M.2)) ∧ df_X16_named n X = some (cv (fnm X (sR X.1 33)), X) := by
  have nam : ∀ k : Nat, k < 16 → sR M.2 4 (k * 3 + 2) = sR X.1 25 k ∧ okB (sR X.1 25 k) ∧ (sR X.1 25 k = nI 1 → sR X.1 24 k = nI 1) := fun k hk => by
    obtain ⟨z1, z2, z3, z4⟩ := m2.2.2.2 k hk
    refine ⟨z3, z2, fun e => ?_⟩
    rw [z4, decide_eq_true (Or.inl e)]
    rfl
  have eqs : ∀ k : Nat, k < 16 → sR X.1 25 k = nI 1 → eqF (fun i => sR M.2 6 (k * 16 + i)) (sR E 0) = eqF (fun i => sR X.1 30 (16 * k + i)) (sR X.1 33) := fun k hk e => by
    refine fN_c 16 0 (fun i _ hi => ?_)
    refine decide_eq_decide.mpr (not_congr ?_)
    exact b8_eq (m7.2.2.1 k hk e i (by omega)) (hb i (by omega))
  obtain ⟨x1, x2, x3, x4⟩ := fN_le (fun k => decide (sR X.1 25 k = nI 1 ∧ eqF (fun i => sR X.1 30 (16 * k + i)) (sR X.1 33) = 16)) 16 0
  have x3' : fnm X (sR X.1 33) < 16 → sR X.1 25 (fnm X (sR X.1 33)) = nI 1 ∧ eqF (fun i => sR X.1 30 (16 * fnm X (sR X.1 33) + i)) (sR X.1 33) = 16 := fun z => of_decide_eq_true (x3 z)
  have x2' : fnm X (sR X.1 33) ≤ 16 := x2
  constructor
  · obtain ⟨m, hm⟩ := nm_ls (fun m k => df_X10_fileNamed_2 n m (nI k) (E, M.2)) (fun k => decide (sR X.1 25 k = nI 1 ∧ eqF (fun i => sR X.1 30 (16 * k + i)) (sR X.1 33) = 16)) 0 16 n (by omega) (fun k m h0 hk c => by
      have c := of_decide_eq_false c
      have hk : k < 16 := by omega
      have u1 : k * 3 + 2 < 48 := by omega
      have u2 : k * 3 + 2 < 2 ^ 31 := by omega
      have u3 : k < 2 ^ 31 := by omega
      have k16 : ¬ 16 ≤ k := by omega
      obtain ⟨n1, n2, n3⟩ := nam k hk
      show df_X10_fileNamed_2 n (m + 1) _ _ = df_X10_fileNamed_2 n m (nI (k + 1)) _
      rw [show df_X10_fileNamed_2 n (m + 1) = dF_X10_fileNamed_2 n (df_X10_fileNamed_2 n m) from rfl]
      generalize df_X10_fileNamed_2 n m = G
      rcases n2 with e | e
      · rw [e] at n1
        have i0 := in_C0 n hn (s := (E, M.2)) (g2 := G) hk
        simp (disch := (first | assumption | decide | omega)) only [dF_X10_fileNamed_2, df_X10_fileNamed_26, k16, n1, i0, eq_self, Nat.reduceEqDiff, Nat.reduceLeDiff, nl_0, nl_1, nl_2, nl_3, nl_4, nl_16, nl_48, no_1, no_1024, pk_mul, nI_add, nm_ck, nI_clamp, nI_ltI, nI_leI, nI_eq, nb_b2, nb_b1, ↓nb_let, nm_z0, nm_z1, nb_II, nb_IR, nb_RI, nb_RR, nm_IL, nm_IQ, nm_RL, nm_RQ, nm_LI, nm_LR, nm_LL, nm_LQ, nm_QI, nm_QR, nm_QL, nm_QQ, nm_rr, nm_ii, nm_eqm, not_false_eq_true, pk_sub, nm_div, nm_shl, nm_shr, nm_ush, nm_or8, nm_or64, nm_or256, nm_m1, nm_m3, nm_m7, nm_m15, nm_m31, nm_m63, nm_m255, nm_m511, nm_m1023, nm_m2047, nm_m65535, Nat.reduceMod, Nat.reducePow, Nat.reduceAdd, Nat.reduceSub, Nat.reduceMul, nm_bo, nm_bi, nm_rc, nm_ic, nm_ri, nm_rl, nm_rq, nm_ql, nm_qi, nm_li, nm_us, nm_uu, nm_cp, nm_sa31, nm_sa7, nm_m127, nm_m2, nm_nz, nm_nzk, nm_eq32, nm_nzf, if_true, if_false, ↓reduceIte, if_pos, if_neg]
      · rw [e] at n1
        have i0 := in_C n hn (s := (E, M.2)) (g2 := G) hk
        rw [if_neg (show ¬ eqF (fun i => sR M.2 6 (k * 16 + i)) (sR E 0) = 16 from fun z => c ⟨e, by rw [← eqs k hk e]; exact z⟩)] at i0
        simp (disch := (first | assumption | decide | omega)) only [dF_X10_fileNamed_2, df_X10_fileNamed_26, k16, n1, i0, eq_self, Nat.reduceEqDiff, Nat.reduceLeDiff, nl_0, nl_1, nl_2, nl_3, nl_4, nl_16, nl_48, no_1, no_1024, pk_mul, nI_add, nm_ck, nI_clamp, nI_ltI, nI_leI, nI_eq, nb_b2, nb_b1, ↓nb_let, nm_z0, nm_z1, nb_II, nb_IR, nb_RI, nb_RR, nm_IL, nm_IQ, nm_RL, nm_RQ, nm_LI, nm_LR, nm_LL, nm_LQ, nm_QI, nm_QR, nm_QL, nm_QQ, nm_rr, nm_ii, nm_eqm, not_false_eq_true, pk_sub, nm_div, nm_shl, nm_shr, nm_ush, nm_or8, nm_or64, nm_or256, nm_m1, nm_m3, nm_m7, nm_m15, nm_m31, nm_m63, nm_m255, nm_m511, nm_m1023, nm_m2047, nm_m65535, Nat.reduceMod, Nat.reducePow, Nat.reduceAdd, Nat.reduceSub, Nat.reduceMul, nm_bo, nm_bi, nm_rc, nm_ic, nm_ri, nm_rl, nm_rq, nm_ql, nm_qi, nm_li, nm_us, nm_uu, nm_cp, nm_sa31, nm_sa7, nm_m127, nm_m2, nm_nz, nm_nzk, nm_eq32, nm_nzf, if_true, if_false, ↓reduceIte, if_pos, if_neg])
    refine Eq.trans (b := df_X10_fileNamed_2 n n (nI 0) (E, M.2)) rfl (Eq.trans hm ?_)
    show df_X10_fileNamed_2 n (m + 1) (nI (fnm X (sR X.1 33))) _ = _
    rw [show df_X10_fileNamed_2 n (m + 1) = dF_X10_fileNamed_2 n (df_X10_fileNamed_2 n m) from rfl]
    generalize df_X10_fileNamed_2 n m = G
    generalize fnm X (sR X.1 33) = k at x2' x3'
    have u3 : k < 2 ^ 31 := by omega
    by_cases c : k < 16
    · have u1 : k * 3 + 2 < 48 := by omega
      have u2 : k * 3 + 2 < 2 ^ 31 := by omega
      have k16 : ¬ 16 ≤ k := by omega
      obtain ⟨y1, y2⟩ := x3' c
      obtain ⟨n1, _, _⟩ := nam k c
      rw [y1] at n1
      have i0 := in_C n hn (s := (E, M.2)) (g2 := G) c
      rw [if_pos (show eqF (fun i => sR M.2 6 (k * 16 + i)) (sR E 0) = 16 by rw [eqs k c y1]; exact y2)] at i0
      rw [cv_0 c]
      simp (disch := (first | assumption | decide | omega)) only [dF_X10_fileNamed_2, df_X10_fileNamed_26, k16, n1, i0, eq_self, Nat.reduceEqDiff, Nat.reduceLeDiff, nl_0, nl_1, nl_2, nl_3, nl_4, nl_16, nl_48, no_1, no_1024, pk_mul, nI_add, nm_ck, nI_clamp, nI_ltI, nI_leI, nI_eq, nb_b2, nb_b1, ↓nb_let, nm_z0, nm_z1, nb_II, nb_IR, nb_RI, nb_RR, nm_IL, nm_IQ, nm_RL, nm_RQ, nm_LI, nm_LR, nm_LL, nm_LQ, nm_QI, nm_QR, nm_QL, nm_QQ, nm_rr, nm_ii, nm_eqm, not_false_eq_true, pk_sub, nm_div, nm_shl, nm_shr, nm_ush, nm_or8, nm_or64, nm_or256, nm_m1, nm_m3, nm_m7, nm_m15, nm_m31, nm_m63, nm_m255, nm_m511, nm_m1023, nm_m2047, nm_m65535, Nat.reduceMod, Nat.reducePow, Nat.reduceAdd, Nat.reduceSub, Nat.reduceMul, nm_bo, nm_bi, nm_rc, nm_ic, nm_ri, nm_rl, nm_rq, nm_ql, nm_qi, nm_li, nm_us, nm_uu, nm_cp, nm_sa31, nm_sa7, nm_m127, nm_m2, nm_nz, nm_nzk, nm_eq32, nm_nzf, if_true, if_false, ↓reduceIte, if_pos, if_neg]
    · have k16 : 16 ≤ k := by omega
      rw [cv_1 c]
      simp (disch := (first | assumption | decide | omega)) only [dF_X10_fileNamed_2, k16, eq_self, Nat.reduceEqDiff, Nat.reduceLeDiff, nl_0, nl_1, nl_2, nl_3, nl_4, nl_16, nl_48, no_1, no_1024, pk_mul, nI_add, nm_ck, nI_clamp, nI_ltI, nI_leI, nI_eq, nb_b2, nb_b1, ↓nb_let, nm_z0, nm_z1, nb_II, nb_IR, nb_RI, nb_RR, nm_IL, nm_IQ, nm_RL, nm_RQ, nm_LI, nm_LR, nm_LL, nm_LQ, nm_QI, nm_QR, nm_QL, nm_QQ, nm_rr, nm_ii, nm_eqm, not_false_eq_true, pk_sub, nm_div, nm_shl, nm_shr, nm_ush, nm_or8, nm_or64, nm_or256, nm_m1, nm_m3, nm_m7, nm_m15, nm_m31, nm_m63, nm_m255, nm_m511, nm_m1023, nm_m2047, nm_m65535, Nat.reduceMod, Nat.reducePow, Nat.reduceAdd, Nat.reduceSub, Nat.reduceMul, nm_bo, nm_bi, nm_rc, nm_ic, nm_ri, nm_rl, nm_rq, nm_ql, nm_qi, nm_li, nm_us, nm_uu, nm_cp, nm_sa31, nm_sa7, nm_m127, nm_m2, nm_nz, nm_nzk, nm_eq32, nm_nzf, if_true, if_false, ↓reduceIte, if_pos, if_neg]
  · obtain ⟨m, hm⟩ := nm_ls (fun m k => df_X16_named_2 n m (nI k) X) (fun k => decide (sR X.1 25 k = nI 1 ∧ eqF (fun i => sR X.1 30 (16 * k + i)) (sR X.1 33) = 16)) 0 16 n (by omega) (fun k m h0 hk c => by
      have c := of_decide_eq_false c
      have hk : k < 16 := by omega
      have u3 : k < 2 ^ 31 := by omega
      have k16 : ¬ 16 ≤ k := by omega
      obtain ⟨n1, n2, n3⟩ := nam k hk
      show df_X16_named_2 n (m + 1) _ _ = df_X16_named_2 n m (nI (k + 1)) _
      rw [show df_X16_named_2 n (m + 1) = dF_X16_named_2 n (df_X16_named_2 n m) from rfl]
      generalize df_X16_named_2 n m = G
      have i0 := in_R0 n hn (s := X) (g2 := G) hk
      rcases n2 with e | e
      · by_cases f : sR X.1 24 k = nI 0
        · simp (disch := (first | assumption | decide | omega)) only [dF_X16_named_2, df_X16_named_30, df_X16_named_31, k16, f, i0, eq_self, Nat.reduceEqDiff, Nat.reduceLeDiff, nl_0, nl_1, nl_16, nl_24, nl_25, no_1, no_1024, pk_mul, nI_add, nm_ck, nI_clamp, nI_ltI, nI_leI, nI_eq, nb_b2, nb_b1, ↓nb_let, nm_z0, nm_z1, nb_II, nb_IR, nb_RI, nb_RR, nm_IL, nm_IQ, nm_RL, nm_RQ, nm_LI, nm_LR, nm_LL, nm_LQ, nm_QI, nm_QR, nm_QL, nm_QQ, nm_rr, nm_ii, nm_eqm, not_false_eq_true, pk_sub, nm_div, nm_shl, nm_shr, nm_ush, nm_or8, nm_or64, nm_or256, nm_m1, nm_m3, nm_m7, nm_m15, nm_m31, nm_m63, nm_m255, nm_m511, nm_m1023, nm_m2047, nm_m65535, Nat.reduceMod, Nat.reducePow, Nat.reduceAdd, Nat.reduceSub, Nat.reduceMul, nm_bo, nm_bi, nm_rc, nm_ic, nm_ri, nm_rl, nm_rq, nm_ql, nm_qi, nm_li, nm_us, nm_uu, nm_cp, nm_sa31, nm_sa7, nm_m127, nm_m2, nm_nz, nm_nzk, nm_eq32, nm_nzf, if_true, if_false, ↓reduceIte, if_pos, if_neg]
        · simp (disch := (first | assumption | decide | omega)) only [dF_X16_named_2, df_X16_named_30, df_X16_named_31, k16, f, e, i0, eq_self, Nat.reduceEqDiff, Nat.reduceLeDiff, nl_0, nl_1, nl_16, nl_24, nl_25, no_1, no_1024, pk_mul, nI_add, nm_ck, nI_clamp, nI_ltI, nI_leI, nI_eq, nb_b2, nb_b1, ↓nb_let, nm_z0, nm_z1, nb_II, nb_IR, nb_RI, nb_RR, nm_IL, nm_IQ, nm_RL, nm_RQ, nm_LI, nm_LR, nm_LL, nm_LQ, nm_QI, nm_QR, nm_QL, nm_QQ, nm_rr, nm_ii, nm_eqm, not_false_eq_true, pk_sub, nm_div, nm_shl, nm_shr, nm_ush, nm_or8, nm_or64, nm_or256, nm_m1, nm_m3, nm_m7, nm_m15, nm_m31, nm_m63, nm_m255, nm_m511, nm_m1023, nm_m2047, nm_m65535, Nat.reduceMod, Nat.reducePow, Nat.reduceAdd, Nat.reduceSub, Nat.reduceMul, nm_bo, nm_bi, nm_rc, nm_ic, nm_ri, nm_rl, nm_rq, nm_ql, nm_qi, nm_li, nm_us, nm_uu, nm_cp, nm_sa31, nm_sa7, nm_m127, nm_m2, nm_nz, nm_nzk, nm_eq32, nm_nzf, if_true, if_false, ↓reduceIte, if_pos, if_neg]
      · have n3 := n3 e
        have i1 := in_R n hn (s := X) (g2 := G) hk
        rw [if_neg (fun z => c ⟨e, z⟩)] at i1
        simp (disch := (first | assumption | decide | omega)) only [dF_X16_named_2, df_X16_named_30, df_X16_named_31, k16, n3, e, i1, eq_self, Nat.reduceEqDiff, Nat.reduceLeDiff, nl_0, nl_1, nl_16, nl_24, nl_25, no_1, no_1024, pk_mul, nI_add, nm_ck, nI_clamp, nI_ltI, nI_leI, nI_eq, nb_b2, nb_b1, ↓nb_let, nm_z0, nm_z1, nb_II, nb_IR, nb_RI, nb_RR, nm_IL, nm_IQ, nm_RL, nm_RQ, nm_LI, nm_LR, nm_LL, nm_LQ, nm_QI, nm_QR, nm_QL, nm_QQ, nm_rr, nm_ii, nm_eqm, not_false_eq_true, pk_sub, nm_div, nm_shl, nm_shr, nm_ush, nm_or8, nm_or64, nm_or256, nm_m1, nm_m3, nm_m7, nm_m15, nm_m31, nm_m63, nm_m255, nm_m511, nm_m1023, nm_m2047, nm_m65535, Nat.reduceMod, Nat.reducePow, Nat.reduceAdd, Nat.reduceSub, Nat.reduceMul, nm_bo, nm_bi, nm_rc, nm_ic, nm_ri, nm_rl, nm_rq, nm_ql, nm_qi, nm_li, nm_us, nm_uu, nm_cp, nm_sa31, nm_sa7, nm_m127, nm_m2, nm_nz, nm_nzk, nm_eq32, nm_nzf, if_true, if_false, ↓reduceIte, if_pos, if_neg])
    refine Eq.trans (b := df_X16_named_2 n n (nI 0) X) rfl (Eq.trans hm ?_)
    show df_X16_named_2 n (m + 1) (nI (fnm X (sR X.1 33))) _ = _
    rw [show df_X16_named_2 n (m + 1) = dF_X16_named_2 n (df_X16_named_2 n m) from rfl]
    generalize df_X16_named_2 n m = G
    generalize fnm X (sR X.1 33) = k at x2' x3'
    have u3 : k < 2 ^ 31 := by omega
    by_cases c : k < 16
    · have k16 : ¬ 16 ≤ k := by omega
      obtain ⟨y1, y2⟩ := x3' c
      obtain ⟨_, _, n3⟩ := nam k c
      have n3 := n3 y1
      have i1 := in_R n hn (s := X) (g2 := G) c
      rw [if_pos y2] at i1
      rw [cv_0 c]
      simp (disch := (first | assumption | decide | omega)) only [dF_X16_named_2, df_X16_named_30, df_X16_named_31, k16, n3, y1, i1, eq_self, Nat.reduceEqDiff, Nat.reduceLeDiff, nl_0, nl_1, nl_16, nl_24, nl_25, no_1, no_1024, pk_mul, nI_add, nm_ck, nI_clamp, nI_ltI, nI_leI, nI_eq, nb_b2, nb_b1, ↓nb_let, nm_z0, nm_z1, nb_II, nb_IR, nb_RI, nb_RR, nm_IL, nm_IQ, nm_RL, nm_RQ, nm_LI, nm_LR, nm_LL, nm_LQ, nm_QI, nm_QR, nm_QL, nm_QQ, nm_rr, nm_ii, nm_eqm, not_false_eq_true, pk_sub, nm_div, nm_shl, nm_shr, nm_ush, nm_or8, nm_or64, nm_or256, nm_m1, nm_m3, nm_m7, nm_m15, nm_m31, nm_m63, nm_m255, nm_m511, nm_m1023, nm_m2047, nm_m65535, Nat.reduceMod, Nat.reducePow, Nat.reduceAdd, Nat.reduceSub, Nat.reduceMul, nm_bo, nm_bi, nm_rc, nm_ic, nm_ri, nm_rl, nm_rq, nm_ql, nm_qi, nm_li, nm_us, nm_uu, nm_cp, nm_sa31, nm_sa7, nm_m127, nm_m2, nm_nz, nm_nzk, nm_eq32, nm_nzf, if_true, if_false, ↓reduceIte, if_pos, if_neg]
    · have k16 : 16 ≤ k := by omega
      rw [cv_1 c]
      simp (disch := (first | assumption | decide | omega)) only [dF_X16_named_2, k16, eq_self, Nat.reduceEqDiff, Nat.reduceLeDiff, nl_0, nl_1, nl_16, nl_24, nl_25, no_1, no_1024, pk_mul, nI_add, nm_ck, nI_clamp, nI_ltI, nI_leI, nI_eq, nb_b2, nb_b1, ↓nb_let, nm_z0, nm_z1, nb_II, nb_IR, nb_RI, nb_RR, nm_IL, nm_IQ, nm_RL, nm_RQ, nm_LI, nm_LR, nm_LL, nm_LQ, nm_QI, nm_QR, nm_QL, nm_QQ, nm_rr, nm_ii, nm_eqm, not_false_eq_true, pk_sub, nm_div, nm_shl, nm_shr, nm_ush, nm_or8, nm_or64, nm_or256, nm_m1, nm_m3, nm_m7, nm_m15, nm_m31, nm_m63, nm_m255, nm_m511, nm_m1023, nm_m2047, nm_m65535, Nat.reduceMod, Nat.reducePow, Nat.reduceAdd, Nat.reduceSub, Nat.reduceMul, nm_bo, nm_bi, nm_rc, nm_ic, nm_ri, nm_rl, nm_rq, nm_ql, nm_qi, nm_li, nm_us, nm_uu, nm_cp, nm_sa31, nm_sa7, nm_m127, nm_m2, nm_nz, nm_nzk, nm_eq32, nm_nzf, if_true, if_false, ↓reduceIte, if_pos, if_neg]

/-- other names: the class's rows -/
theorem rD_nam {l op pi fi de kd th po rt ip isf nam : Nat → Int32} (h : rD l op pi fi de kd th po rt ip isf nam) {fi' isf' nam' : Nat → Int32} (h1 : ∀ j : Nat, j < 16 → fi' (j * 3 + 1) = fi (j * 3 + 1) ∧ fi' (j * 3 + 2) = nam' j ∧ okB (nam' j) ∧ isf' j = bI (decide (nam' j = nI 1 ∨ 0 < cE kd th 3 j))) : rD l op pi fi' de kd th po rt ip isf' nam' := by
  obtain ⟨a1, a2, a3, a4⟩ := h
  refine ⟨a1, a2, a3, fun j hj => ?_⟩
  obtain ⟨z1, z2, z3, z4⟩ := h1 j hj
  exact ⟨z1.trans (a4 j hj).1, z3, z2, z4⟩
/-- names change, then it is swept -/
theorem sw_nam {l op pi fi de kd th po rt ip isf nam : Nat → Int32} (h : rD l op pi fi de kd th po rt ip isf nam) {fi' nam' : Nat → Int32} (h1 : ∀ j : Nat, j < 16 → fi' (j * 3 + 1) = fi (j * 3 + 1) ∧ fi' (j * 3 + 2) = nam' j ∧ okB (nam' j) ∧ (nam' j = nI 1 → isf j = nI 1)) : rD l op pi fi' de (pcw (gk de kd) kd 48) th po rt (pcw (gp (pcw (gk de kd) kd 48) th ip) ip 8) (pcw (gf (pcw (gk de kd) kd 48) th isf nam') isf 16) nam' := by
  have K : ∀ o : Nat, o < 48 → pcw (gk de kd) kd 48 o = kd o := fun o ho => by
    rw [pcw_y _ _ ho]
    rcases h.2.1 o ho with ⟨z1, _⟩ | ⟨k, t, y1, y2, y3, y4, _⟩
    · rw [gk_n z1, z1]
    · rw [gk_is y2 y4, if_neg (by omega), y4]
  have E : ∀ s u : Nat, cE (pcw (gk de kd) kd 48) th s u = cE kd th s u := fun s u => cN_c (fun j hj => by rw [K j hj])
  have h0 := rD_nam h (fi' := fi') (nam' := nam') (isf' := fun j => bI (decide (nam' j = nI 1 ∨ 0 < cE kd th 3 j))) (fun j hj => ⟨(h1 j hj).1, (h1 j hj).2.1, (h1 j hj).2.2.1, rfl⟩)
  generalize pcw (gk de kd) kd 48 = kd' at K E ⊢
  refine rD_congr K (fun k hk => ?_) (fun k hk => ?_) h0
  · obtain ⟨_, _, z3⟩ := h.2.2.1 k hk
    rw [pcw_y _ _ hk, gp_is z3 (by rw [E, E]; exact Nat.le_refl _), E, E, ← z3]
  · obtain ⟨_, _, _, z4⟩ := h.2.2.2 k hk
    obtain ⟨_, _, w3, w4⟩ := h1 k hk
    rw [pcw_y _ _ hk]
    unfold gf
    rw [E]
    generalize cE kd th 3 k = x at z4 ⊢
    by_cases c : isf k = nI 0
    · rw [if_pos c]
      have n0 : ¬ (nam' k = nI 1 ∨ 0 < x) := fun y => by
        rcases y with y | y
        · rw [w4 y] at c
          exact absurd c (by decide)
        · rw [decide_eq_true (Or.inr y)] at z4
          rw [z4] at c
          exact absurd c (by decide)
      rw [decide_eq_false n0]; rfl
    · rw [if_neg c]
      rcases w3 with e | e
      · rw [e, if_pos rfl]
        by_cases d : x = 0
        · rw [if_pos d, decide_eq_false (show ¬ ((nI 0 : Int32) = nI 1 ∨ 0 < x) from fun y => by rcases y with y | y; exact absurd y (by decide); omega)]; rfl
        · rw [if_neg d, decide_eq_true (show (nI 0 : Int32) = nI 1 ∨ 0 < x from Or.inr (by omega))]; rfl
      · rw [e, if_neg (show ¬ (nI 1 : Int32) = nI 0 by decide), decide_eq_true (Or.inl rfl)]; rfl
theorem rD_isf {l op pi fi de kd th po rt ip isf nam : Nat → Int32} (h : rD l op pi fi de kd th po rt ip isf nam) {kd' nam' : Nat → Int32} {k : Nat} (hk : k < 16) (e : pcw (gf kd' th isf nam') isf 16 k = nI 1) : isf k = nI 1 := by
  rw [pcw_y _ _ hk] at e
  unfold gf at e
  by_cases c : isf k = nI 0
  · rw [if_pos c] at e
    exact absurd e (by decide)
  · have := (h.2.2.2 k hk).2.2.2
    by_cases d : nam k = nI 1 ∨ 0 < cE kd th 3 k
    · rw [this, decide_eq_true d]; rfl
    · rw [decide_eq_false d] at this
      exact absurd this c
theorem rD_n1 {l op pi fi de kd th po rt ip isf nam : Nat → Int32} (h : rD l op pi fi de kd th po rt ip isf nam) {k : Nat} (hk : k < 16) (e : nam k = nI 1) : isf k = nI 1 := by
  rw [(h.2.2.2 k hk).2.2.2, decide_eq_true (Or.inl e)]
  rfl
/-- the machines when names have changed and it is swept -/
theorem rM_nam {B : Nat} {M X : St × St} (h : rM B M X) {fi' nm' nam' ns' g : Nat → Int32} (hy : ∀ i : Nat, i < 256 → fb8 (nm' i)) (h1 : ∀ j : Nat, j < 16 → fi' (j * 3) = sR M.2 4 (j * 3) ∧ fi' (j * 3 + 1) = sR M.2 4 (j * 3 + 1) ∧ fi' (j * 3 + 2) = nam' j ∧ okB (nam' j) ∧ (nam' j = nI 1 → sR X.1 24 j = nI 1)) (h2 : ∀ k : Nat, k < 16 → nam' k = nI 1 → ∀ i : Nat, i < 16 → b8 (nm' (k * 16 + i)) (ns' (16 * k + i))) : rM B (M.1, pR (pR M.2 4 fi') 6 nm') (pR (pR (pR (pR (pR (pR X.1 33 g) 30 ns') 25 nam') 19 (pcw (gk (sR X.1 14) (sR X.1 19)) (sR X.1 19) 48)) 23 (pcw (gp (pcw (gk (sR X.1 14) (sR X.1 19)) (sR X.1 19) 48) (sR X.1 20) (sR X.1 23)) (sR X.1 23) 8)) 24 (pcw (gf (pcw (gk (sR X.1 14) (sR X.1 19)) (sR X.1 19) 48) (sR X.1 20) (sR X.1 24) nam') (sR X.1 24) 16), X.2) := by
  obtain ⟨m1, m2, m3, m4, m5, m6, m7⟩ := h
  refine ⟨m1, sw_nam m2 (fun j hj => (h1 j hj).2), m3, m4, m5, ⟨m6.1, m6.2.1, m6.2.2.1, hy, m6.2.2.2.2⟩, ?_⟩
  obtain ⟨t1, t2, t3, t4, t5⟩ := m7
  refine ⟨fun k hk e => t1 k hk (rD_p m2 (de' := sR X.1 14) hk e), fun k hk e => ?_, h2, t4, t5⟩
  show ∃ L : Nat, L ≤ 512 ∧ fi' (k * 3) = nI L ∧ _
  rw [(h1 k hk).1]
  exact t2 k hk (rD_isf m2 hk e)
/-- the kernel's call 'unlink' -/
theorem nq_unlink (n : Nat) (hn : 1024 < n) {B p : Nat} {K : St × (St × (St × St))} {X : St × St} (h : cP B p K X) (a : Int32) : cO B p K X (df_X5_unlink n (nI p) a K) (df_X16_unlink n a X) := by
  obtain ⟨h1, h2, h3, h4, h5, h6, h7⟩ := h
  obtain ⟨v, f, g, e1, e2, e3, e4⟩ := nk_namet1 n hn h1.1 h2 h3 a (K1 := K.1) (K2 := K.2.1)
  have e1 : df_X5_readName_t1 n (nI p) a K = some (v, (pR K.1 0 f, K.2)) := e1
  have h1' : rM B K.2.2 (pR X.1 33 g, X.2) := h1
  obtain ⟨q1, q2⟩ := nk_named n hn (E := pR nd_st0 0 f) h1'.2.1 h1'.2.2.2.2.2.2 e3
  have same : ∀ w : Int32, cO B p K X (some (w.toInt64, (pR K.1 0 f, K.2))) (some (w, (pR X.1 33 g, X.2))) := fun w => ⟨_, w, pR K.1 0 f, K.2.2, _, rfl, rfl, h1', fun _ => rfl, Or.inl ⟨h4, rfl⟩, ⟨rfl, rfl, rfl, rfl, rfl⟩, Or.inl ⟨h6, h7⟩, fun _ => h5, fun z => absurd (h4.symm.trans z) (by decide)⟩
  by_cases v0 : v = nI 0
  · subst v0
    have x2 := (fN_le (fun k => decide (sR X.1 25 k = nI 1 ∧ eqF (fun i => sR X.1 30 (16 * k + i)) g = 16)) 16 0)
    have x3 : fnm (pR X.1 33 g, X.2) g < 16 → sR X.1 25 (fnm (pR X.1 33 g, X.2) g) = nI 1 := fun z => (of_decide_eq_true (x2.2.2.1 z)).1
    have q1 : df_X10_fileNamed n (pR nd_st0 0 f, K.2.2.2) = some (cv (fnm (pR X.1 33 g, X.2) g), (pR nd_st0 0 f, K.2.2.2)) := q1
    have q2 : df_X16_named n (pR X.1 33 g, X.2) = some (cv (fnm (pR X.1 33 g, X.2) g), (pR X.1 33 g, X.2)) := q2
    generalize fnm (pR X.1 33 g, X.2) g = k at q1 q2 x3
    by_cases k16 : k < 16
    · rw [cv_0 k16] at q1 q2
      have sw := nk_sweep n hn (pR (pR X.1 33 g) 25 (upd (sR X.1 25) k (nI 0)), X.2)
      have u1 : k * 3 + 2 < 48 := by omega
      have u2 : k * 3 + 2 < 2 ^ 31 := by omega
      have u3 : k < 2 ^ 31 := by omega
      have u4 : 0 ≤ k := by omega
      have m2 := h1.2.1
      have fin := rM_nam h1 (fi' := upd (sR K.2.2.2 4) (k * 3 + 2) (nI 0)) (nm' := sR K.2.2.2 6) (nam' := upd (sR X.1 25) k (nI 0)) (ns' := sR X.1 30) (g := g) h1.2.2.2.2.2.1.2.2.2.1 (fun j hj => by
        refine ⟨nm_un (by omega), nm_un (by omega), ?_, ?_, fun e => ?_⟩
        · by_cases c : j = k
          · rw [c, nm_us, nm_us]
          · rw [nm_un (by omega), nm_un c]
            exact (m2.2.2.2 j hj).2.2.1
        · by_cases c : j = k
          · rw [c, nm_us]
            exact Or.inl rfl
          · rw [nm_un c]
            exact (m2.2.2.2 j hj).2.1
        · by_cases c : j = k
          · rw [c, nm_us] at e
            exact absurd e (by decide)
          · rw [nm_un c] at e
            exact rD_n1 m2 hj e) (fun j hj e i hi => by
        by_cases c : j = k
        · rw [c, nm_us] at e
          exact absurd e (by decide)
        · rw [nm_un c] at e
          exact h1.2.2.2.2.2.2.2.2.1 j hj e i hi)
      rw [show pR (pR K.2.2.2 4 (upd (sR K.2.2.2 4) (k * 3 + 2) (nI 0))) 6 (sR K.2.2.2 6) = pR K.2.2.2 4 (upd (sR K.2.2.2 4) (k * 3 + 2) (nI 0)) from nm_r0 (pR K.2.2.2 4 (upd (sR K.2.2.2 4) (k * 3 + 2) (nI 0))) 6, show pR (pR X.1 33 g) 30 (sR X.1 30) = pR X.1 33 g from nm_r0 (pR X.1 33 g) 30] at fin
      refine ⟨0, nI 0, pR K.1 0 f, _, _, ?_, ?_, fin, fun _ => rfl, Or.inl ⟨h4, by decide⟩, ⟨rfl, rfl, rfl, rfl, rfl⟩, Or.inl ⟨h6, h7⟩, fun _ => h5, fun z => absurd (h4.symm.trans z) (by decide)⟩
      · simp (disch := (first | assumption | decide | omega)) only [df_X5_unlink, df_X5_unlink_0, df_X10_loseName_0, df_X10_loseName, e1, q1, u4, eq_self, Nat.reduceEqDiff, Nat.reduceLeDiff, nl_0, nl_2, nl_3, nl_4, nl_48, no_1, no_1024, pk_mul, nI_add, nm_ck, nI_clamp, nI_ltI, nI_leI, nI_eq, nb_b2, nb_b1, ↓nb_let, nm_z0, nm_z1, nb_II, nb_IR, nb_RI, nb_RR, nm_IL, nm_IQ, nm_RL, nm_RQ, nm_LI, nm_LR, nm_LL, nm_LQ, nm_QI, nm_QR, nm_QL, nm_QQ, nm_rr, nm_ii, nm_eqm, not_false_eq_true, pk_sub, nm_div, nm_shl, nm_shr, nm_ush, nm_or8, nm_or64, nm_or256, nm_m1, nm_m3, nm_m7, nm_m15, nm_m31, nm_m63, nm_m255, nm_m511, nm_m1023, nm_m2047, nm_m65535, Nat.reduceMod, Nat.reducePow, Nat.reduceAdd, Nat.reduceSub, Nat.reduceMul, nm_bo, nm_bi, nm_rc, nm_ic, nm_ri, nm_rl, nm_rq, nm_ql, nm_qi, nm_li, nm_us, nm_uu, nm_cp, nm_sa31, nm_sa7, nm_m127, nm_m2, nm_nz, nm_nzk, nm_eq32, nm_nzf, if_true, if_false, ↓reduceIte, if_pos, if_neg]
      · have r2 : df_X16_unlink n a X = nd_b1 (df_X16_sweep n (pR (pR X.1 33 g) 25 (upd (sR X.1 25) k (nI 0)), X.2)) (fun s => some (nI 0, s)) := by
          simp (disch := (first | assumption | decide | omega)) only [df_X16_unlink, df_X16_unlink_0, e2, q2, eq_self, Nat.reduceEqDiff, Nat.reduceLeDiff, nl_0, nl_1, nl_2, nl_16, nl_25, no_1, no_1024, pk_mul, nI_add, nm_ck, nI_clamp, nI_ltI, nI_leI, nI_eq, nb_b2, nb_b1, ↓nb_let, nm_z0, nm_z1, nb_II, nb_IR, nb_RI, nb_RR, nm_IL, nm_IQ, nm_RL, nm_RQ, nm_LI, nm_LR, nm_LL, nm_LQ, nm_QI, nm_QR, nm_QL, nm_QQ, nm_rr, nm_ii, nm_eqm, not_false_eq_true, pk_sub, nm_div, nm_shl, nm_shr, nm_ush, nm_or8, nm_or64, nm_or256, nm_m1, nm_m3, nm_m7, nm_m15, nm_m31, nm_m63, nm_m255, nm_m511, nm_m1023, nm_m2047, nm_m65535, Nat.reduceMod, Nat.reducePow, Nat.reduceAdd, Nat.reduceSub, Nat.reduceMul, nm_bo, nm_bi, nm_rc, nm_ic, nm_ri, nm_rl, nm_rq, nm_ql, nm_qi, nm_li, nm_us, nm_uu, nm_cp, nm_sa31, nm_sa7, nm_m127, nm_m2, nm_nz, nm_nzk, nm_eq32, nm_nzf, if_true, if_false, ↓reduceIte, if_pos, if_neg]
        rw [r2, sw]
        rfl
    · rw [cv_1 k16] at q1 q2
      have z0 : ¬ (nI 0 : Int32) ≤ -nI 1 := by decide
      have s2 := same (-nI 2)
      have r1 : df_X5_unlink n (nI p) a K = some (-2, (pR K.1 0 f, K.2)) := by simp (disch := (first | assumption | decide | omega)) only [df_X5_unlink, df_X5_unlink_0, e1, q1, z0, eq_self, Nat.reduceEqDiff, Nat.reduceLeDiff, nl_0, nl_2, no_1, no_1024, pk_mul, nI_add, nm_ck, nI_clamp, nI_ltI, nI_leI, nI_eq, nb_b2, nb_b1, ↓nb_let, nm_z0, nm_z1, nb_II, nb_IR, nb_RI, nb_RR, nm_IL, nm_IQ, nm_RL, nm_RQ, nm_LI, nm_LR, nm_LL, nm_LQ, nm_QI, nm_QR, nm_QL, nm_QQ, nm_rr, nm_ii, nm_eqm, not_false_eq_true, pk_sub, nm_div, nm_shl, nm_shr, nm_ush, nm_or8, nm_or64, nm_or256, nm_m1, nm_m3, nm_m7, nm_m15, nm_m31, nm_m63, nm_m255, nm_m511, nm_m1023, nm_m2047, nm_m65535, Nat.reduceMod, Nat.reducePow, Nat.reduceAdd, Nat.reduceSub, Nat.reduceMul, nm_bo, nm_bi, nm_rc, nm_ic, nm_ri, nm_rl, nm_rq, nm_ql, nm_qi, nm_li, nm_us, nm_uu, nm_cp, nm_sa31, nm_sa7, nm_m127, nm_m2, nm_nz, nm_nzk, nm_eq32, nm_nzf, if_true, if_false, ↓reduceIte, if_pos, if_neg]
      have r2 : df_X16_unlink n a X = some (-nI 2, (pR X.1 33 g, X.2)) := by simp (disch := (first | assumption | decide | omega)) only [df_X16_unlink, df_X16_unlink_0, e2, q2, eq_self, Nat.reduceEqDiff, Nat.reduceLeDiff, nl_0, nl_1, nl_2, nl_16, nl_25, no_1, no_1024, pk_mul, nI_add, nm_ck, nI_clamp, nI_ltI, nI_leI, nI_eq, nb_b2, nb_b1, ↓nb_let, nm_z0, nm_z1, nb_II, nb_IR, nb_RI, nb_RR, nm_IL, nm_IQ, nm_RL, nm_RQ, nm_LI, nm_LR, nm_LL, nm_LQ, nm_QI, nm_QR, nm_QL, nm_QQ, nm_rr, nm_ii, nm_eqm, not_false_eq_true, pk_sub, nm_div, nm_shl, nm_shr, nm_ush, nm_or8, nm_or64, nm_or256, nm_m1, nm_m3, nm_m7, nm_m15, nm_m31, nm_m63, nm_m255, nm_m511, nm_m1023, nm_m2047, nm_m65535, Nat.reduceMod, Nat.reducePow, Nat.reduceAdd, Nat.reduceSub, Nat.reduceMul, nm_bo, nm_bi, nm_rc, nm_ic, nm_ri, nm_rl, nm_rq, nm_ql, nm_qi, nm_li, nm_us, nm_uu, nm_cp, nm_sa31, nm_sa7, nm_m127, nm_m2, nm_nz, nm_nzk, nm_eq32, nm_nzf, if_true, if_false, ↓reduceIte, if_pos, if_neg]
      rw [r1, r2, show (-2 : Int64) = (-nI 2).toInt64 by decide]
      exact s2
  · have z0 : ¬ nI 0 ≤ v := by
      rcases e4 with e | e | e
      · exact absurd e v0
      · rw [e]; decide
      · rw [e]; decide
    have r1 : df_X5_unlink n (nI p) a K = some (v.toInt64, (pR K.1 0 f, K.2)) := by simp (disch := (first | assumption | decide | omega)) only [df_X5_unlink, df_X5_unlink_0, e1, v0, eq_self, Nat.reduceEqDiff, Nat.reduceLeDiff, nl_0, nl_2, no_1, no_1024, pk_mul, nI_add, nm_ck, nI_clamp, nI_ltI, nI_leI, nI_eq, nb_b2, nb_b1, ↓nb_let, nm_z0, nm_z1, nb_II, nb_IR, nb_RI, nb_RR, nm_IL, nm_IQ, nm_RL, nm_RQ, nm_LI, nm_LR, nm_LL, nm_LQ, nm_QI, nm_QR, nm_QL, nm_QQ, nm_rr, nm_ii, nm_eqm, not_false_eq_true, pk_sub, nm_div, nm_shl, nm_shr, nm_ush, nm_or8, nm_or64, nm_or256, nm_m1, nm_m3, nm_m7, nm_m15, nm_m31, nm_m63, nm_m255, nm_m511, nm_m1023, nm_m2047, nm_m65535, Nat.reduceMod, Nat.reducePow, Nat.reduceAdd, Nat.reduceSub, Nat.reduceMul, nm_bo, nm_bi, nm_rc, nm_ic, nm_ri, nm_rl, nm_rq, nm_ql, nm_qi, nm_li, nm_us, nm_uu, nm_cp, nm_sa31, nm_sa7, nm_m127, nm_m2, nm_nz, nm_nzk, nm_eq32, nm_nzf, if_true, if_false, ↓reduceIte, if_pos, if_neg]
    have r2 : df_X16_unlink n a X = some (v, (pR X.1 33 g, X.2)) := by simp (disch := (first | assumption | decide | omega)) only [df_X16_unlink, df_X16_unlink_0, e2, z0, eq_self, Nat.reduceEqDiff, Nat.reduceLeDiff, nl_0, nl_1, nl_2, nl_16, nl_25, no_1, no_1024, pk_mul, nI_add, nm_ck, nI_clamp, nI_ltI, nI_leI, nI_eq, nb_b2, nb_b1, ↓nb_let, nm_z0, nm_z1, nb_II, nb_IR, nb_RI, nb_RR, nm_IL, nm_IQ, nm_RL, nm_RQ, nm_LI, nm_LR, nm_LL, nm_LQ, nm_QI, nm_QR, nm_QL, nm_QQ, nm_rr, nm_ii, nm_eqm, not_false_eq_true, pk_sub, nm_div, nm_shl, nm_shr, nm_ush, nm_or8, nm_or64, nm_or256, nm_m1, nm_m3, nm_m7, nm_m15, nm_m31, nm_m63, nm_m255, nm_m511, nm_m1023, nm_m2047, nm_m65535, Nat.reduceMod, Nat.reducePow, Nat.reduceAdd, Nat.reduceSub, Nat.reduceMul, nm_bo, nm_bi, nm_rc, nm_ic, nm_ri, nm_rl, nm_rq, nm_ql, nm_qi, nm_li, nm_us, nm_uu, nm_cp, nm_sa31, nm_sa7, nm_m127, nm_m2, nm_nz, nm_nzk, nm_eq32, nm_nzf, if_true, if_false, ↓reduceIte, if_pos, if_neg]
    rw [r1, r2]
    exact same v

theorem fits_b : ∀ z : Fin 256, fits .byte (.int (vp_nar .byte ((nI z.1).toInt8.toInt32))) = true := by decide +kernel
theorem b8_fit {v u : Int32} (h : b8 v u) : fits .byte (.int v) = true := by
  obtain ⟨z, hz, _, e⟩ := h
  rw [e]
  exact fits_b ⟨z, hz⟩
theorem fb_va {f g : Nat → Int32} {b k j : Nat} (hf : ∀ i : Nat, i < k → fb8 (f i)) (hg : fb8 (g j)) : fb8 (va_cpy f g 0 b k j) := by
  by_cases c : b ≤ j ∧ j < b + k
  · rw [va_i c]
    exact hf _ (by omega)
  · rw [va_o c]
    exact hg
theorem fb_u {f : Nat → Int32} {j i : Nat} {v : Int32} (hv : fb8 v) (hg : fb8 (f i)) : fb8 (upd f j v i) := by
  by_cases c : i = j
  · rw [c, nm_us]; exact hv
  · rw [nm_un c]; exact hg
theorem vq_s {f h : Nat → Int32} {b k : Nat} : upd (va_cpy f h 0 b k) (b + k) (f k) = va_cpy f h 0 b (k + 1) := by
  funext j
  by_cases c : j = b + k
  · rw [c, nm_us, va_i (by omega)]
    exact congrArg f (by omega)
  · rw [nm_un c]
    by_cases d : b ≤ j ∧ j < b + k
    · rw [va_i d, va_i (by omega)]
    · rw [va_o d, va_o (by omega)]
theorem vq_0 (f h : Nat → Int32) (b : Nat) : va_cpy f h 0 b 0 = h := by
  funext j
  exact va_o (by omega)
theorem nk_entitle (n : Nat) (hn : 1024 < n) {X : St × St} {k : Nat} (hk : k < 16) : df_X16_entitle n (nI k) X = some (pR (pR X.1 30 (va_cpy (sR X.1 33) (sR X.1 30) 0 (16 * k) 16)) 25 (upd (sR X.1 25) k (nI 1)), X.2) := by
  have u1 : k < 2 ^ 31 := by omega
  obtain ⟨m, hm⟩ := nm_lq (fun m i => df_X16_entitle_9 n m (nI k) (nI i) (pR (pR X.1 25 (upd (sR X.1 25) k (nI 1))) 30 (va_cpy (sR X.1 33) (sR X.1 30) 0 (16 * k) i), X.2)) 16 n (by omega) (fun i m hi => by
    have u2 : i < 16 := hi
    have u3 : i < 2 ^ 31 := by omega
    have u4 : 16 * k + i < 256 := by omega
    have u5 : 16 * k + i < 2 ^ 31 := by omega
    have i16 : ¬ 16 ≤ i := by omega
    have vs := vq_s (f := sR X.1 33) (h := sR X.1 30) (b := 16 * k) (k := i)
    rw [show df_X16_entitle_9 n (m + 1) = dF_X16_entitle_9 n (df_X16_entitle_9 n m) from rfl]
    generalize df_X16_entitle_9 n m = G
    simp (disch := (first | assumption | decide | omega)) only [dF_X16_entitle_9, i16, vs, eq_self, Nat.reduceEqDiff, Nat.reduceLeDiff, nl_1, nl_16, nl_30, nl_33, nl_256, no_1, no_1024, pk_mul, nI_add, nm_ck, nI_clamp, nI_ltI, nI_leI, nI_eq, nb_b2, nb_b1, ↓nb_let, nm_z0, nm_z1, nb_II, nb_IR, nb_RI, nb_RR, nm_IL, nm_IQ, nm_RL, nm_RQ, nm_LI, nm_LR, nm_LL, nm_LQ, nm_QI, nm_QR, nm_QL, nm_QQ, nm_rr, nm_ii, nm_eqm, not_false_eq_true, pk_sub, nm_div, nm_shl, nm_shr, nm_ush, nm_or8, nm_or64, nm_or256, nm_m1, nm_m3, nm_m7, nm_m15, nm_m31, nm_m63, nm_m255, nm_m511, nm_m1023, nm_m2047, nm_m65535, Nat.reduceMod, Nat.reducePow, Nat.reduceAdd, Nat.reduceSub, Nat.reduceMul, nm_bo, nm_bi, nm_rc, nm_ic, nm_ri, nm_rl, nm_rq, nm_ql, nm_qi, nm_li, nm_us, nm_uu, nm_cp, nm_sa31, nm_sa7, nm_m127, nm_m2, nm_nz, nm_nzk, nm_eq32, nm_nzf, if_true, if_false, ↓reduceIte, if_pos, if_neg])
  rw [vq_0, show pR (pR X.1 25 (upd (sR X.1 25) k (nI 1))) 30 (sR X.1 30) = pR X.1 25 (upd (sR X.1 25) k (nI 1)) from nm_r0 (pR X.1 25 (upd (sR X.1 25) k (nI 1))) 30] at hm
  have e0 : df_X16_entitle n (nI k) X = df_X16_entitle_9 n n (nI k) (nI 0) (pR X.1 25 (upd (sR X.1 25) k (nI 1)), X.2) := by
    simp (disch := (first | assumption | decide | omega)) only [df_X16_entitle, df_X16_entitle_0, eq_self, Nat.reduceEqDiff, Nat.reduceLeDiff, nl_0, nl_1, nl_16, nl_25, no_1, no_1024, pk_mul, nI_add, nm_ck, nI_clamp, nI_ltI, nI_leI, nI_eq, nb_b2, nb_b1, ↓nb_let, nm_z0, nm_z1, nb_II, nb_IR, nb_RI, nb_RR, nm_IL, nm_IQ, nm_RL, nm_RQ, nm_LI, nm_LR, nm_LL, nm_LQ, nm_QI, nm_QR, nm_QL, nm_QQ, nm_rr, nm_ii, nm_eqm, not_false_eq_true, pk_sub, nm_div, nm_shl, nm_shr, nm_ush, nm_or8, nm_or64, nm_or256, nm_m1, nm_m3, nm_m7, nm_m15, nm_m31, nm_m63, nm_m255, nm_m511, nm_m1023, nm_m2047, nm_m65535, Nat.reduceMod, Nat.reducePow, Nat.reduceAdd, Nat.reduceSub, Nat.reduceMul, nm_bo, nm_bi, nm_rc, nm_ic, nm_ri, nm_rl, nm_rq, nm_ql, nm_qi, nm_li, nm_us, nm_uu, nm_cp, nm_sa31, nm_sa7, nm_m127, nm_m2, nm_nz, nm_nzk, nm_eq32, nm_nzf, if_true, if_false, ↓reduceIte, if_pos, if_neg]
  rw [e0]
  refine Eq.trans hm ?_
  show df_X16_entitle_9 n (m + 1) (nI k) (nI 16) _ = _
  rw [show df_X16_entitle_9 n (m + 1) = dF_X16_entitle_9 n (df_X16_entitle_9 n m) from rfl, nm_rc (a := 30) (b := 25) (by decide)]
  generalize df_X16_entitle_9 n m = G
  simp (disch := (first | assumption | decide | omega)) only [dF_X16_entitle_9, eq_self, Nat.reduceEqDiff, Nat.reduceLeDiff, nl_1, nl_16, nl_30, nl_33, nl_256, no_1, no_1024, pk_mul, nI_add, nm_ck, nI_clamp, nI_ltI, nI_leI, nI_eq, nb_b2, nb_b1, ↓nb_let, nm_z0, nm_z1, nb_II, nb_IR, nb_RI, nb_RR, nm_IL, nm_IQ, nm_RL, nm_RQ, nm_LI, nm_LR, nm_LL, nm_LQ, nm_QI, nm_QR, nm_QL, nm_QQ, nm_rr, nm_ii, nm_eqm, not_false_eq_true, pk_sub, nm_div, nm_shl, nm_shr, nm_ush, nm_or8, nm_or64, nm_or256, nm_m1, nm_m3, nm_m7, nm_m15, nm_m31, nm_m63, nm_m255, nm_m511, nm_m1023, nm_m2047, nm_m65535, Nat.reduceMod, Nat.reducePow, Nat.reduceAdd, Nat.reduceSub, Nat.reduceMul, nm_bo, nm_bi, nm_rc, nm_ic, nm_ri, nm_rl, nm_rq, nm_ql, nm_qi, nm_li, nm_us, nm_uu, nm_cp, nm_sa31, nm_sa7, nm_m127, nm_m2, nm_nz, nm_nzk, nm_eq32, nm_nzf, if_true, if_false, ↓reduceIte, if_pos, if_neg]
theorem nk_give (n : Nat) {E D : St} {k : Nat} (hk : k < 16) (hb : ∀ i : Nat, i < 16 → fits .byte (.int (sR E 0 i)) = true) : df_X10_giveName n (nI k) (E, D) = some (E, pR (pR D 4 (upd (sR D 4) (k * 3 + 2) (nI 1))) 6 (va_cpy (sR E 0) (sR D 6) 0 (k * 16) 16)) := by
  have u1 : k * 3 + 2 < 48 := by omega
  have u2 : k * 3 + 2 < 2 ^ 31 := by omega
  have u3 : k * 16 + 16 ≤ 256 := by omega
  have u4 : k * 16 < 2 ^ 31 := by omega
  have fa : ∀ {α : Type} (x : Option α), nd_fa .byte (sR E 0) 0 16 x = x := fun x => if_pos (fun i hi => by rw [Nat.zero_add]; exact hb i hi)
  simp (disch := (first | assumption | decide | omega)) only [df_X10_giveName_0, df_X10_giveName, fa, eq_self, Nat.reduceEqDiff, Nat.reduceLeDiff, nl_0, nl_1, nl_2, nl_3, nl_4, nl_6, nl_16, nl_48, nl_256, no_1, no_1024, pk_mul, nI_add, nm_ck, nI_clamp, nI_ltI, nI_leI, nI_eq, nb_b2, nb_b1, ↓nb_let, nm_z0, nm_z1, nb_II, nb_IR, nb_RI, nb_RR, nm_IL, nm_IQ, nm_RL, nm_RQ, nm_LI, nm_LR, nm_LL, nm_LQ, nm_QI, nm_QR, nm_QL, nm_QQ, nm_rr, nm_ii, nm_eqm, not_false_eq_true, pk_sub, nm_div, nm_shl, nm_shr, nm_ush, nm_or8, nm_or64, nm_or256, nm_m1, nm_m3, nm_m7, nm_m15, nm_m31, nm_m63, nm_m255, nm_m511, nm_m1023, nm_m2047, nm_m65535, Nat.reduceMod, Nat.reducePow, Nat.reduceAdd, Nat.reduceSub, Nat.reduceMul, nm_bo, nm_bi, nm_rc, nm_ic, nm_ri, nm_rl, nm_rq, nm_ql, nm_qi, nm_li, nm_us, nm_uu, nm_cp, nm_sa31, nm_sa7, nm_m127, nm_m2, nm_nz, nm_nzk, nm_eq32, nm_nzf, if_true, if_false, ↓reduceIte, if_pos, if_neg]
/-- names, once k1 has the name and k2 has lost it -/
theorem ren_M {B : Nat} {M X : St × St} (h : rM B M X) {k1 k2 : Nat} (h1 : k1 < 16) (e1 : sR X.1 25 k1 = nI 1) {f2 g2 : Nat → Int32} (d3 : ∀ i : Nat, i < 16 → b8 (f2 i) (g2 i)) {fi' nam' : Nat → Int32} (hf : ∀ j : Nat, j < 16 → fi' (j * 3) = sR M.2 4 (j * 3) ∧ fi' (j * 3 + 1) = sR M.2 4 (j * 3 + 1) ∧ fi' (j * 3 + 2) = nam' j) (hn : ∀ j : Nat, j < 16 → nam' j = if j = k1 then nI 1 else if j = k2 then nI 0 else sR X.1 25 j) : rM B (M.1, pR (pR M.2 4 fi') 6 (va_cpy f2 (sR M.2 6) 0 (k1 * 16) 16)) (pR (pR (pR (pR (pR (pR X.1 33 g2) 30 (va_cpy g2 (sR X.1 30) 0 (16 * k1) 16)) 25 nam') 19 (pcw (gk (sR X.1 14) (sR X.1 19)) (sR X.1 19) 48)) 23 (pcw (gp (pcw (gk (sR X.1 14) (sR X.1 19)) (sR X.1 19) 48) (sR X.1 20) (sR X.1 23)) (sR X.1 23) 8)) 24 (pcw (gf (pcw (gk (sR X.1 14) (sR X.1 19)) (sR X.1 19) 48) (sR X.1 20) (sR X.1 24) nam') (sR X.1 24) 16), X.2) := by
  have m2 := h.2.1
  refine rM_nam h (fun i hi => fb_va (fun j hj => b8_fit (d3 j hj)) (h.2.2.2.2.2.1.2.2.2.1 i hi)) (fun j hj => ⟨(hf j hj).1, (hf j hj).2.1, (hf j hj).2.2, ?_, fun e => ?_⟩) (fun k hk e i hi => ?_)
  · rw [hn j hj]
    by_cases c : j = k1
    · rw [if_pos c]; exact Or.inr rfl
    · rw [if_neg c]
      by_cases d : j = k2
      · rw [if_pos d]; exact Or.inl rfl
      · rw [if_neg d]; exact (m2.2.2.2 j hj).2.1
  · rw [hn j hj] at e
    by_cases c : j = k1
    · rw [c]; exact rD_n1 m2 h1 e1
    · rw [if_neg c] at e
      by_cases d : j = k2
      · rw [if_pos d] at e
        exact absurd e (by decide)
      · rw [if_neg d] at e
        exact rD_n1 m2 hj e
  · rw [hn k hk] at e
    by_cases c : k = k1
    · rw [c, va_i (by omega), va_i (by omega), show 0 + (k1 * 16 + i - k1 * 16) = i by omega, show 0 + (16 * k1 + i - 16 * k1) = i by omega]
      exact d3 i hi
    · rw [if_neg c] at e
      rw [va_o (by omega), va_o (by omega)]
      by_cases d : k = k2
      · rw [if_pos d] at e
        exact absurd e (by decide)
      · rw [if_neg d] at e
        exact h.2.2.2.2.2.2.2.2.1 k hk e i hi
theorem r87_C (n : Nat) {K1 K2 : St} {M : St × St} {k : Nat} (hk : k < 16) (hb : ∀ i : Nat, i < 16 → fits .byte (.int (sR K1 1 i)) = true) : df_X5_rename_87 n (nI k) (K1, (K2, M)) = some (0, (K1, (K2, (M.1, pR (pR M.2 4 (upd (sR M.2 4) (k * 3 + 2) (nI 1))) 6 (va_cpy (sR K1 1) (sR M.2 6) 0 (k * 16) 16))))) := by
  have gn := nk_give n (E := pR nd_st0 0 (sR K1 1)) (D := M.2) hk hb
  unfold df_X5_rename_87
  rw [gn, nb_b1, nb_let]
  show some (0, (pR K1 1 (sR K1 1), _)) = _
  rw [nm_r0]
  rfl
theorem r66_R (n : Nat) (hn : 1024 < n) {Y : St × St} {k : Nat} (hk : k < 16) : df_X16_rename_66 n (nI k) Y = nd_b1 (df_X16_sweep n (pR (pR Y.1 30 (va_cpy (sR Y.1 33) (sR Y.1 30) 0 (16 * k) 16)) 25 (upd (sR Y.1 25) k (nI 1)), Y.2)) (fun s => some (nI 0, s)) := by
  unfold df_X16_rename_66
  rw [nk_entitle n hn hk, nb_b1]
  rfl
/-- the kernel's call 'rename' -/
theorem nq_rename (n : Nat) (hn : 1024 < n) {B p : Nat} {K : St × (St × (St × St))} {X : St × St} (h : cP B p K X) (a b : Int32) : cO B p K X (df_X5_rename n (nI p) a b K) (df_X16_rename n a b X) := by
  obtain ⟨h1, h2, h3, h4, h5, h6, h7⟩ := h
  obtain ⟨v, f, g, e1, e2, e3, e4⟩ := nk_namet1 n hn h1.1 h2 h3 a (K1 := K.1) (K2 := K.2.1)
  have e1 : df_X5_readName_t1 n (nI p) a K = some (v, (pR K.1 0 f, K.2)) := e1
  have nz : ∀ w : Int32, (w = nI 0 ∨ w = -nI 14 ∨ w = -nI 22) → ¬ w = nI 0 → ¬ nI 0 ≤ w := fun w e4 v0 => by
    rcases e4 with e | e | e
    · exact absurd e v0
    · rw [e]; decide
    · rw [e]; decide
  by_cases v0 : v = nI 0
  · subst v0
    obtain ⟨w, f2, g2, d1, d2, d3, d4⟩ := nk_namet2 n hn (M := K.2.2) (X := (pR X.1 33 g, X.2)) h1.1 h2 h3 b (K1 := pR K.1 0 f) (K2 := K.2.1)
    have d1 : df_X5_readName_t2 n (nI p) b (pR K.1 0 f, K.2) = some (w, (pR (pR K.1 0 f) 1 f2, K.2)) := d1
    have d2 : df_X16_nameAt n b (pR X.1 33 g, X.2) = some (w, (pR (pR X.1 33 g) 33 g2, X.2)) := d2
    rw [nm_rr] at d2
    have h1' : rM B K.2.2 (pR X.1 33 g, X.2) := h1
    have h1'' : rM B K.2.2 (pR X.1 33 g2, X.2) := h1
    obtain ⟨q1, q2⟩ := nk_named n hn (E := pR nd_st0 0 f) h1'.2.1 h1'.2.2.2.2.2.2 e3
    obtain ⟨r1, r2⟩ := nk_named n hn (E := pR nd_st0 0 f2) h1''.2.1 h1''.2.2.2.2.2.2 d3
    have q1 : df_X10_fileNamed n (pR nd_st0 0 f, K.2.2.2) = some (cv (fnm (pR X.1 33 g, X.2) g), (pR nd_st0 0 f, K.2.2.2)) := q1
    have q2 : df_X16_named n (pR X.1 33 g, X.2) = some (cv (fnm (pR X.1 33 g, X.2) g), (pR X.1 33 g, X.2)) := q2
    have r1 : df_X10_fileNamed n (pR nd_st0 0 f2, K.2.2.2) = some (cv (fnm (pR X.1 33 g2, X.2) g2), (pR nd_st0 0 f2, K.2.2.2)) := r1
    have r2 : df_X16_named n (pR X.1 33 g2, X.2) = some (cv (fnm (pR X.1 33 g2, X.2) g2), (pR X.1 33 g2, X.2)) := r2
    have x2 := (fN_le (fun k => decide (sR X.1 25 k = nI 1 ∧ eqF (fun i => sR X.1 30 (16 * k + i)) g = 16)) 16 0)
    have x3 : fnm (pR X.1 33 g, X.2) g < 16 → sR X.1 25 (fnm (pR X.1 33 g, X.2) g) = nI 1 := fun z => (of_decide_eq_true (x2.2.2.1 z)).1
    clear x2
    generalize fnm (pR X.1 33 g, X.2) g = k1 at q1 q2 x3
    generalize fnm (pR X.1 33 g2, X.2) g2 = k2 at r1 r2
    have same : ∀ w : Int32, cO B p K X (some (w.toInt64, (pR (pR K.1 0 f) 1 f2, K.2))) (some (w, (pR X.1 33 g2, X.2))) := fun w => ⟨_, w, pR (pR K.1 0 f) 1 f2, K.2.2, _, rfl, rfl, h1'', fun _ => rfl, Or.inl ⟨h4, rfl⟩, ⟨rfl, rfl, rfl, rfl, rfl⟩, Or.inl ⟨h6, h7⟩, fun _ => h5, fun z => absurd (h4.symm.trans z) (by decide)⟩
    by_cases w0 : w = nI 0
    · subst w0
      have eC : df_X5_rename n (nI p) a b K = df_X5_rename_29 n (nI 0) (pR (pR K.1 0 f) 1 f2, K.2) := by
        simp (disch := (first | assumption | decide | omega)) only [df_X5_rename, df_X5_rename_0, e1, d1, eq_self, Nat.reduceEqDiff, Nat.reduceLeDiff, nl_0, no_1, no_1024, pk_mul, nI_add, nm_ck, nI_clamp, nI_ltI, nI_leI, nI_eq, nb_b2, nb_b1, ↓nb_let, nm_z0, nm_z1, nb_II, nb_IR, nb_RI, nb_RR, nm_IL, nm_IQ, nm_RL, nm_RQ, nm_LI, nm_LR, nm_LL, nm_LQ, nm_QI, nm_QR, nm_QL, nm_QQ, nm_rr, nm_ii, nm_eqm, not_false_eq_true, pk_sub, nm_div, nm_shl, nm_shr, nm_ush, nm_or8, nm_or64, nm_or256, nm_m1, nm_m3, nm_m7, nm_m15, nm_m31, nm_m63, nm_m255, nm_m511, nm_m1023, nm_m2047, nm_m65535, Nat.reduceMod, Nat.reducePow, Nat.reduceAdd, Nat.reduceSub, Nat.reduceMul, nm_bo, nm_bi, nm_rc, nm_ic, nm_ri, nm_rl, nm_rq, nm_ql, nm_qi, nm_li, nm_us, nm_uu, nm_cp, nm_sa31, nm_sa7, nm_m127, nm_m2, nm_nz, nm_nzk, nm_eq32, nm_nzf, if_true, if_false, ↓reduceIte, if_pos, if_neg]
      have i0 : pR (pR (pR K.1 0 f) 1 f2) 0 f = pR (pR K.1 0 f) 1 f2 := nm_r0 (pR (pR K.1 0 f) 1 f2) 0
      have i1 : pR (pR (pR K.1 0 f) 1 f2) 1 f2 = pR (pR K.1 0 f) 1 f2 := nm_rr _ _ _ _
      by_cases k16 : k1 < 16
      · rw [cv_0 k16] at q1 q2
        have u0 : 0 ≤ k1 := by omega
        have u1 : k1 < 2 ^ 31 := by omega
        have ek := x3 k16
        have fit : ∀ i : Nat, i < 16 → fits .byte (.int (sR (pR (pR K.1 0 f) 1 f2) 1 i)) = true := fun i hi => b8_fit (d3 i hi)
        by_cases j16 : k2 < 16
        · rw [cv_0 j16] at r1 r2
          have v1 : ¬ k2 < 0 := by omega
          have v2 : k2 < 2 ^ 31 := by omega
          have v3 : k2 * 3 + 2 < 48 := by omega
          have v4 : k2 * 3 + 2 < 2 ^ 31 := by omega
          have eC2 : df_X5_rename_29 n (nI 0) (pR (pR K.1 0 f) 1 f2, K.2) = df_X5_rename_87 n (nI k1) (pR (pR K.1 0 f) 1 f2, (K.2.1, (K.2.2.1, pR K.2.2.2 4 (upd (sR K.2.2.2 4) (k2 * 3 + 2) (nI 0))))) := by
            simp (disch := (first | assumption | decide | omega)) only [df_X5_rename_29, df_X10_loseName_0, df_X10_loseName, q1, r1, u0, v1, i0, i1, eq_self, Nat.reduceEqDiff, Nat.reduceLeDiff, nl_0, nl_1, nl_2, nl_3, nl_4, nl_48, no_1, no_1024, pk_mul, nI_add, nm_ck, nI_clamp, nI_ltI, nI_leI, nI_eq, nb_b2, nb_b1, ↓nb_let, nm_z0, nm_z1, nb_II, nb_IR, nb_RI, nb_RR, nm_IL, nm_IQ, nm_RL, nm_RQ, nm_LI, nm_LR, nm_LL, nm_LQ, nm_QI, nm_QR, nm_QL, nm_QQ, nm_rr, nm_ii, nm_eqm, not_false_eq_true, pk_sub, nm_div, nm_shl, nm_shr, nm_ush, nm_or8, nm_or64, nm_or256, nm_m1, nm_m3, nm_m7, nm_m15, nm_m31, nm_m63, nm_m255, nm_m511, nm_m1023, nm_m2047, nm_m65535, Nat.reduceMod, Nat.reducePow, Nat.reduceAdd, Nat.reduceSub, Nat.reduceMul, nm_bo, nm_bi, nm_rc, nm_ic, nm_ri, nm_rl, nm_rq, nm_ql, nm_qi, nm_li, nm_us, nm_uu, nm_cp, nm_sa31, nm_sa7, nm_m127, nm_m2, nm_nz, nm_nzk, nm_eq32, nm_nzf, if_true, if_false, ↓reduceIte, if_pos, if_neg]
          rw [eC, eC2, r87_C n k16 fit]
          by_cases kk : k2 = k1
          · subst kk
            have eR : df_X16_rename n a b X = df_X16_rename_66 n (nI k2) (pR X.1 33 g2, X.2) := by
              simp (disch := (first | assumption | decide | omega)) only [df_X16_rename, df_X16_rename_0, e2, q2, d2, r2, eq_self, Nat.reduceEqDiff, Nat.reduceLeDiff, nl_0, nl_1, nl_2, nl_16, nl_25, no_1, no_1024, pk_mul, nI_add, nm_ck, nI_clamp, nI_ltI, nI_leI, nI_eq, nb_b2, nb_b1, ↓nb_let, nm_z0, nm_z1, nb_II, nb_IR, nb_RI, nb_RR, nm_IL, nm_IQ, nm_RL, nm_RQ, nm_LI, nm_LR, nm_LL, nm_LQ, nm_QI, nm_QR, nm_QL, nm_QQ, nm_rr, nm_ii, nm_eqm, not_false_eq_true, pk_sub, nm_div, nm_shl, nm_shr, nm_ush, nm_or8, nm_or64, nm_or256, nm_m1, nm_m3, nm_m7, nm_m15, nm_m31, nm_m63, nm_m255, nm_m511, nm_m1023, nm_m2047, nm_m65535, Nat.reduceMod, Nat.reducePow, Nat.reduceAdd, Nat.reduceSub, Nat.reduceMul, nm_bo, nm_bi, nm_rc, nm_ic, nm_ri, nm_rl, nm_rq, nm_ql, nm_qi, nm_li, nm_us, nm_uu, nm_cp, nm_sa31, nm_sa7, nm_m127, nm_m2, nm_nz, nm_nzk, nm_eq32, nm_nzf, if_true, if_false, ↓reduceIte, if_pos, if_neg]
            rw [eR, r66_R n hn k16, nk_sweep n hn]
            exact ⟨0, nI 0, pR (pR K.1 0 f) 1 f2, _, _, rfl, rfl, ren_M h1 k16 ek (k2 := 16) d3 (fi' := upd (upd (sR K.2.2.2 4) (k2 * 3 + 2) (nI 0)) (k2 * 3 + 2) (nI 1)) (nam' := upd (sR X.1 25) k2 (nI 1)) (fun j hj => ⟨by rw [nm_un (by omega), nm_un (by omega)], by rw [nm_un (by omega), nm_un (by omega)], by
              by_cases c : j = k2
              · rw [c, nm_us, nm_us]
              · rw [nm_un (by omega), nm_un (by omega), nm_un c]
                exact (h1.2.1.2.2.2 j hj).2.2.1⟩) (fun j hj => by
              by_cases c : j = k2
              · rw [c, nm_us, if_pos rfl]
              · rw [nm_un c, if_neg c, if_neg (by omega)]), fun _ => rfl, Or.inl ⟨h4, by decide⟩, ⟨rfl, rfl, rfl, rfl, rfl⟩, Or.inl ⟨h6, h7⟩, fun _ => h5, fun z => absurd (h4.symm.trans z) (by decide)⟩
          · have eR : df_X16_rename n a b X = df_X16_rename_66 n (nI k1) (pR (pR X.1 33 g2) 25 (upd (sR X.1 25) k2 (nI 0)), X.2) := by
              simp (disch := (first | assumption | decide | omega)) only [df_X16_rename, df_X16_rename_0, e2, q2, d2, r2, kk, eq_self, Nat.reduceEqDiff, Nat.reduceLeDiff, nl_0, nl_1, nl_2, nl_16, nl_25, no_1, no_1024, pk_mul, nI_add, nm_ck, nI_clamp, nI_ltI, nI_leI, nI_eq, nb_b2, nb_b1, ↓nb_let, nm_z0, nm_z1, nb_II, nb_IR, nb_RI, nb_RR, nm_IL, nm_IQ, nm_RL, nm_RQ, nm_LI, nm_LR, nm_LL, nm_LQ, nm_QI, nm_QR, nm_QL, nm_QQ, nm_rr, nm_ii, nm_eqm, not_false_eq_true, pk_sub, nm_div, nm_shl, nm_shr, nm_ush, nm_or8, nm_or64, nm_or256, nm_m1, nm_m3, nm_m7, nm_m15, nm_m31, nm_m63, nm_m255, nm_m511, nm_m1023, nm_m2047, nm_m65535, Nat.reduceMod, Nat.reducePow, Nat.reduceAdd, Nat.reduceSub, Nat.reduceMul, nm_bo, nm_bi, nm_rc, nm_ic, nm_ri, nm_rl, nm_rq, nm_ql, nm_qi, nm_li, nm_us, nm_uu, nm_cp, nm_sa31, nm_sa7, nm_m127, nm_m2, nm_nz, nm_nzk, nm_eq32, nm_nzf, if_true, if_false, ↓reduceIte, if_pos, if_neg]
            rw [eR, r66_R n hn k16, nk_sweep n hn]
            have fin := ren_M h1 k16 ek (k2 := k2) d3 (fi' := upd (upd (sR K.2.2.2 4) (k2 * 3 + 2) (nI 0)) (k1 * 3 + 2) (nI 1)) (nam' := upd (upd (sR X.1 25) k2 (nI 0)) k1 (nI 1)) (fun j hj => ⟨by rw [nm_un (by omega), nm_un (by omega)], by rw [nm_un (by omega), nm_un (by omega)], by
              by_cases c : j = k1
              · rw [c, nm_us, nm_us]
              · rw [nm_un (by omega), nm_un c]
                by_cases d : j = k2
                · rw [d, nm_us, nm_us]
                · rw [nm_un (by omega), nm_un d]
                  exact (h1.2.1.2.2.2 j hj).2.2.1⟩) (fun j hj => by
              by_cases c : j = k1
              · rw [c, nm_us, if_pos rfl]
              · rw [nm_un c, if_neg c]
                by_cases d : j = k2
                · rw [d, nm_us, if_pos rfl]
                · rw [nm_un d, if_neg d])
            have y1 : pR (pR (pR (pR X.1 33 g2) 25 (upd (sR X.1 25) k2 (nI 0))) 30 (va_cpy g2 (sR X.1 30) 0 (16 * k1) 16)) 25 (upd (upd (sR X.1 25) k2 (nI 0)) k1 (nI 1)) = pR (pR (pR X.1 33 g2) 30 (va_cpy g2 (sR X.1 30) 0 (16 * k1) 16)) 25 (upd (upd (sR X.1 25) k2 (nI 0)) k1 (nI 1)) := by
              rw [nm_rc (a := 30) (b := 25) (by decide), nm_rr, nm_rc (a := 30) (b := 25) (by decide)]
            rw [← y1] at fin
            exact ⟨0, nI 0, pR (pR K.1 0 f) 1 f2, _, _, rfl, rfl, fin, fun _ => rfl, Or.inl ⟨h4, by decide⟩, ⟨rfl, rfl, rfl, rfl, rfl⟩, Or.inl ⟨h6, h7⟩, fun _ => h5, fun z => absurd (h4.symm.trans z) (by decide)⟩
        · rw [cv_1 j16] at r1 r2
          have eC2 : df_X5_rename_29 n (nI 0) (pR (pR K.1 0 f) 1 f2, K.2) = df_X5_rename_87 n (nI k1) (pR (pR K.1 0 f) 1 f2, K.2) := by
            simp (disch := (first | assumption | decide | omega)) only [df_X5_rename_29, q1, r1, u0, nm_ltm, i0, i1, eq_self, Nat.reduceEqDiff, Nat.reduceLeDiff, nl_0, nl_1, nl_2, no_1, no_1024, pk_mul, nI_add, nm_ck, nI_clamp, nI_ltI, nI_leI, nI_eq, nb_b2, nb_b1, ↓nb_let, nm_z0, nm_z1, nb_II, nb_IR, nb_RI, nb_RR, nm_IL, nm_IQ, nm_RL, nm_RQ, nm_LI, nm_LR, nm_LL, nm_LQ, nm_QI, nm_QR, nm_QL, nm_QQ, nm_rr, nm_ii, nm_eqm, not_false_eq_true, pk_sub, nm_div, nm_shl, nm_shr, nm_ush, nm_or8, nm_or64, nm_or256, nm_m1, nm_m3, nm_m7, nm_m15, nm_m31, nm_m63, nm_m255, nm_m511, nm_m1023, nm_m2047, nm_m65535, Nat.reduceMod, Nat.reducePow, Nat.reduceAdd, Nat.reduceSub, Nat.reduceMul, nm_bo, nm_bi, nm_rc, nm_ic, nm_ri, nm_rl, nm_rq, nm_ql, nm_qi, nm_li, nm_us, nm_uu, nm_cp, nm_sa31, nm_sa7, nm_m127, nm_m2, nm_nz, nm_nzk, nm_eq32, nm_nzf, if_true, if_false, ↓reduceIte, if_pos, if_neg]
          have eC3 := r87_C n (K1 := pR (pR K.1 0 f) 1 f2) (K2 := K.2.1) (M := K.2.2) k16 fit
          have eC3 : df_X5_rename_87 n (nI k1) (pR (pR K.1 0 f) 1 f2, K.2) = _ := eC3
          have eR : df_X16_rename n a b X = df_X16_rename_66 n (nI k1) (pR X.1 33 g2, X.2) := by
            simp (disch := (first | assumption | decide | omega)) only [df_X16_rename, df_X16_rename_0, e2, q2, d2, r2, eq_self, Nat.reduceEqDiff, Nat.reduceLeDiff, nl_0, nl_1, nl_2, nl_16, nl_25, no_1, no_1024, pk_mul, nI_add, nm_ck, nI_clamp, nI_ltI, nI_leI, nI_eq, nb_b2, nb_b1, ↓nb_let, nm_z0, nm_z1, nb_II, nb_IR, nb_RI, nb_RR, nm_IL, nm_IQ, nm_RL, nm_RQ, nm_LI, nm_LR, nm_LL, nm_LQ, nm_QI, nm_QR, nm_QL, nm_QQ, nm_rr, nm_ii, nm_eqm, not_false_eq_true, pk_sub, nm_div, nm_shl, nm_shr, nm_ush, nm_or8, nm_or64, nm_or256, nm_m1, nm_m3, nm_m7, nm_m15, nm_m31, nm_m63, nm_m255, nm_m511, nm_m1023, nm_m2047, nm_m65535, Nat.reduceMod, Nat.reducePow, Nat.reduceAdd, Nat.reduceSub, Nat.reduceMul, nm_bo, nm_bi, nm_rc, nm_ic, nm_ri, nm_rl, nm_rq, nm_ql, nm_qi, nm_li, nm_us, nm_uu, nm_cp, nm_sa31, nm_sa7, nm_m127, nm_m2, nm_nz, nm_nzk, nm_eq32, nm_nzf, if_true, if_false, ↓reduceIte, if_pos, if_neg]
          rw [eC, eC2, eC3, eR, r66_R n hn k16, nk_sweep n hn]
          exact ⟨0, nI 0, pR (pR K.1 0 f) 1 f2, _, _, rfl, rfl, ren_M h1 k16 ek (k2 := 16) d3 (fi' := upd (sR K.2.2.2 4) (k1 * 3 + 2) (nI 1)) (nam' := upd (sR X.1 25) k1 (nI 1)) (fun j hj => ⟨by rw [nm_un (by omega)], by rw [nm_un (by omega)], by
              by_cases c : j = k1
              · rw [c, nm_us, nm_us]
              · rw [nm_un (by omega), nm_un c]
                exact (h1.2.1.2.2.2 j hj).2.2.1⟩) (fun j hj => by
              by_cases c : j = k1
              · rw [c, nm_us, if_pos rfl]
              · rw [nm_un c, if_neg c, if_neg (by omega)]), fun _ => rfl, Or.inl ⟨h4, by decide⟩, ⟨rfl, rfl, rfl, rfl, rfl⟩, Or.inl ⟨h6, h7⟩, fun _ => h5, fun z => absurd (h4.symm.trans z) (by decide)⟩
      · rw [cv_1 k16] at q1 q2
        have z0 : ¬ (nI 0 : Int32) ≤ -nI 1 := by decide
        have eC2 : df_X5_rename_29 n (nI 0) (pR (pR K.1 0 f) 1 f2, K.2) = some (-2, (pR (pR K.1 0 f) 1 f2, K.2)) := by
          simp (disch := (first | assumption | decide | omega)) only [df_X5_rename_29, q1, z0, i0, eq_self, Nat.reduceEqDiff, Nat.reduceLeDiff, nl_0, nl_1, nl_2, no_1, no_1024, pk_mul, nI_add, nm_ck, nI_clamp, nI_ltI, nI_leI, nI_eq, nb_b2, nb_b1, ↓nb_let, nm_z0, nm_z1, nb_II, nb_IR, nb_RI, nb_RR, nm_IL, nm_IQ, nm_RL, nm_RQ, nm_LI, nm_LR, nm_LL, nm_LQ, nm_QI, nm_QR, nm_QL, nm_QQ, nm_rr, nm_ii, nm_eqm, not_false_eq_true, pk_sub, nm_div, nm_shl, nm_shr, nm_ush, nm_or8, nm_or64, nm_or256, nm_m1, nm_m3, nm_m7, nm_m15, nm_m31, nm_m63, nm_m255, nm_m511, nm_m1023, nm_m2047, nm_m65535, Nat.reduceMod, Nat.reducePow, Nat.reduceAdd, Nat.reduceSub, Nat.reduceMul, nm_bo, nm_bi, nm_rc, nm_ic, nm_ri, nm_rl, nm_rq, nm_ql, nm_qi, nm_li, nm_us, nm_uu, nm_cp, nm_sa31, nm_sa7, nm_m127, nm_m2, nm_nz, nm_nzk, nm_eq32, nm_nzf, if_true, if_false, ↓reduceIte, if_pos, if_neg]
        have eR : df_X16_rename n a b X = some (-nI 2, (pR X.1 33 g2, X.2)) := by
          simp (disch := (first | assumption | decide | omega)) only [df_X16_rename, df_X16_rename_0, e2, q2, d2, eq_self, Nat.reduceEqDiff, Nat.reduceLeDiff, nl_0, nl_1, nl_2, nl_16, nl_25, no_1, no_1024, pk_mul, nI_add, nm_ck, nI_clamp, nI_ltI, nI_leI, nI_eq, nb_b2, nb_b1, ↓nb_let, nm_z0, nm_z1, nb_II, nb_IR, nb_RI, nb_RR, nm_IL, nm_IQ, nm_RL, nm_RQ, nm_LI, nm_LR, nm_LL, nm_LQ, nm_QI, nm_QR, nm_QL, nm_QQ, nm_rr, nm_ii, nm_eqm, not_false_eq_true, pk_sub, nm_div, nm_shl, nm_shr, nm_ush, nm_or8, nm_or64, nm_or256, nm_m1, nm_m3, nm_m7, nm_m15, nm_m31, nm_m63, nm_m255, nm_m511, nm_m1023, nm_m2047, nm_m65535, Nat.reduceMod, Nat.reducePow, Nat.reduceAdd, Nat.reduceSub, Nat.reduceMul, nm_bo, nm_bi, nm_rc, nm_ic, nm_ri, nm_rl, nm_rq, nm_ql, nm_qi, nm_li, nm_us, nm_uu, nm_cp, nm_sa31, nm_sa7, nm_m127, nm_m2, nm_nz, nm_nzk, nm_eq32, nm_nzf, if_true, if_false, ↓reduceIte, if_pos, if_neg]
        rw [eC, eC2, eR, show (-2 : Int64) = (-nI 2).toInt64 by decide]
        exact same (-nI 2)
    · have w1 := nz w d4 w0
      have eC : df_X5_rename n (nI p) a b K = some (w.toInt64, (pR (pR K.1 0 f) 1 f2, K.2)) := by
        simp (disch := (first | assumption | decide | omega)) only [df_X5_rename, df_X5_rename_0, df_X5_rename_29, e1, d1, w0, eq_self, Nat.reduceEqDiff, Nat.reduceLeDiff, nl_0, nl_1, nl_2, no_1, no_1024, pk_mul, nI_add, nm_ck, nI_clamp, nI_ltI, nI_leI, nI_eq, nb_b2, nb_b1, ↓nb_let, nm_z0, nm_z1, nb_II, nb_IR, nb_RI, nb_RR, nm_IL, nm_IQ, nm_RL, nm_RQ, nm_LI, nm_LR, nm_LL, nm_LQ, nm_QI, nm_QR, nm_QL, nm_QQ, nm_rr, nm_ii, nm_eqm, not_false_eq_true, pk_sub, nm_div, nm_shl, nm_shr, nm_ush, nm_or8, nm_or64, nm_or256, nm_m1, nm_m3, nm_m7, nm_m15, nm_m31, nm_m63, nm_m255, nm_m511, nm_m1023, nm_m2047, nm_m65535, Nat.reduceMod, Nat.reducePow, Nat.reduceAdd, Nat.reduceSub, Nat.reduceMul, nm_bo, nm_bi, nm_rc, nm_ic, nm_ri, nm_rl, nm_rq, nm_ql, nm_qi, nm_li, nm_us, nm_uu, nm_cp, nm_sa31, nm_sa7, nm_m127, nm_m2, nm_nz, nm_nzk, nm_eq32, nm_nzf, if_true, if_false, ↓reduceIte, if_pos, if_neg]
      have eR : df_X16_rename n a b X = some (w, (pR X.1 33 g2, X.2)) := by
        simp (disch := (first | assumption | decide | omega)) only [df_X16_rename, df_X16_rename_0, e2, q2, d2, w1, eq_self, Nat.reduceEqDiff, Nat.reduceLeDiff, nl_0, nl_1, nl_2, nl_16, nl_25, no_1, no_1024, pk_mul, nI_add, nm_ck, nI_clamp, nI_ltI, nI_leI, nI_eq, nb_b2, nb_b1, ↓nb_let, nm_z0, nm_z1, nb_II, nb_IR, nb_RI, nb_RR, nm_IL, nm_IQ, nm_RL, nm_RQ, nm_LI, nm_LR, nm_LL, nm_LQ, nm_QI, nm_QR, nm_QL, nm_QQ, nm_rr, nm_ii, nm_eqm, not_false_eq_true, pk_sub, nm_div, nm_shl, nm_shr, nm_ush, nm_or8, nm_or64, nm_or256, nm_m1, nm_m3, nm_m7, nm_m15, nm_m31, nm_m63, nm_m255, nm_m511, nm_m1023, nm_m2047, nm_m65535, Nat.reduceMod, Nat.reducePow, Nat.reduceAdd, Nat.reduceSub, Nat.reduceMul, nm_bo, nm_bi, nm_rc, nm_ic, nm_ri, nm_rl, nm_rq, nm_ql, nm_qi, nm_li, nm_us, nm_uu, nm_cp, nm_sa31, nm_sa7, nm_m127, nm_m2, nm_nz, nm_nzk, nm_eq32, nm_nzf, if_true, if_false, ↓reduceIte, if_pos, if_neg]
      rw [eC, eR]
      exact same w
  · have v1 := nz v e4 v0
    have h1' : rM B K.2.2 (pR X.1 33 g, X.2) := h1
    have eC : df_X5_rename n (nI p) a b K = some (v.toInt64, (pR K.1 0 f, K.2)) := by
      simp (disch := (first | assumption | decide | omega)) only [df_X5_rename, df_X5_rename_0, df_X5_rename_29, e1, v0, eq_self, Nat.reduceEqDiff, Nat.reduceLeDiff, nl_0, nl_1, nl_2, no_1, no_1024, pk_mul, nI_add, nm_ck, nI_clamp, nI_ltI, nI_leI, nI_eq, nb_b2, nb_b1, ↓nb_let, nm_z0, nm_z1, nb_II, nb_IR, nb_RI, nb_RR, nm_IL, nm_IQ, nm_RL, nm_RQ, nm_LI, nm_LR, nm_LL, nm_LQ, nm_QI, nm_QR, nm_QL, nm_QQ, nm_rr, nm_ii, nm_eqm, not_false_eq_true, pk_sub, nm_div, nm_shl, nm_shr, nm_ush, nm_or8, nm_or64, nm_or256, nm_m1, nm_m3, nm_m7, nm_m15, nm_m31, nm_m63, nm_m255, nm_m511, nm_m1023, nm_m2047, nm_m65535, Nat.reduceMod, Nat.reducePow, Nat.reduceAdd, Nat.reduceSub, Nat.reduceMul, nm_bo, nm_bi, nm_rc, nm_ic, nm_ri, nm_rl, nm_rq, nm_ql, nm_qi, nm_li, nm_us, nm_uu, nm_cp, nm_sa31, nm_sa7, nm_m127, nm_m2, nm_nz, nm_nzk, nm_eq32, nm_nzf, if_true, if_false, ↓reduceIte, if_pos, if_neg]
    have eR : df_X16_rename n a b X = some (v, (pR X.1 33 g, X.2)) := by
      simp (disch := (first | assumption | decide | omega)) only [df_X16_rename, df_X16_rename_0, e2, v1, eq_self, Nat.reduceEqDiff, Nat.reduceLeDiff, nl_0, nl_1, nl_2, nl_16, nl_25, no_1, no_1024, pk_mul, nI_add, nm_ck, nI_clamp, nI_ltI, nI_leI, nI_eq, nb_b2, nb_b1, ↓nb_let, nm_z0, nm_z1, nb_II, nb_IR, nb_RI, nb_RR, nm_IL, nm_IQ, nm_RL, nm_RQ, nm_LI, nm_LR, nm_LL, nm_LQ, nm_QI, nm_QR, nm_QL, nm_QQ, nm_rr, nm_ii, nm_eqm, not_false_eq_true, pk_sub, nm_div, nm_shl, nm_shr, nm_ush, nm_or8, nm_or64, nm_or256, nm_m1, nm_m3, nm_m7, nm_m15, nm_m31, nm_m63, nm_m255, nm_m511, nm_m1023, nm_m2047, nm_m65535, Nat.reduceMod, Nat.reducePow, Nat.reduceAdd, Nat.reduceSub, Nat.reduceMul, nm_bo, nm_bi, nm_rc, nm_ic, nm_ri, nm_rl, nm_rq, nm_ql, nm_qi, nm_li, nm_us, nm_uu, nm_cp, nm_sa31, nm_sa7, nm_m127, nm_m2, nm_nz, nm_nzk, nm_eq32, nm_nzf, if_true, if_false, ↓reduceIte, if_pos, if_neg]
    rw [eC, eR]
    exact ⟨_, v, pR K.1 0 f, K.2.2, _, rfl, rfl, h1', fun _ => rfl, Or.inl ⟨h4, rfl⟩, ⟨rfl, rfl, rfl, rfl, rfl⟩, Or.inl ⟨h6, h7⟩, fun _ => h5, fun z => absurd (h4.symm.trans z) (by decide)⟩

theorem cE_new {kd th : Nat → Int32} {o k t : Nat} (ho : o < 48) (hk : 1 ≤ k) (hk4 : k ≤ 4) (ht : t < 16) (e : kd o = nI 0) {s u : Nat} (hs : 1 ≤ s) (hs4 : s ≤ 4) (hu : u < 16) : cE (upd kd o (nI k)) (upd th o (nI t)) s u = cE kd th s u + (if s = k ∧ u = t then 1 else 0) := by
  have h := cN_u (P := fun i => decide (kd i = nI s ∧ th i = nI u)) (Q := fun i => decide (upd kd o (nI k) i = nI s ∧ upd th o (nI t) i = nI u)) (j := o) (fun i hi => by rw [nm_un hi, nm_un hi]) (N := 48) ho
  rw [nm_us, nm_us, nm_df (show ¬ (kd o = nI s ∧ th o = nI u) from fun z => by rw [e] at z; have := nm_inI (by omega) (by omega) z.1; omega)] at h
  have h : cE (upd kd o (nI k)) (upd th o (nI t)) s u + 0 = cE kd th s u + (decide (nI k = nI s ∧ nI t = nI u)).toNat := h
  by_cases c : s = k ∧ u = t
  · rw [if_pos c]
    rw [nm_dt (show nI k = nI s ∧ nI t = nI u by rw [c.1, c.2]; exact ⟨rfl, rfl⟩)] at h
    omega
  · rw [if_neg c]
    rw [nm_df (show ¬ (nI k = nI s ∧ nI t = nI u) from fun z => c ⟨(nm_inI (by omega) (by omega) z.1).symm, (nm_inI (by omega) (by omega) z.2).symm⟩)] at h
    omega
/-- a new opening and a descriptor to it -/
theorem rD_open {l op pi fi de kd th po rt ip isf nam : Nat → Int32} (h : rD l op pi fi de kd th po rt ip isf nam) {i o k t r : Nat} (hi : i < 256) (ho : o < 48) (hk : 1 ≤ k) (hk4 : k ≤ 3) (ht : t < 16) (ht8 : k ≤ 2 → t < 8) (hr : r < 8) (hr1 : k = 1 → r = 1) (hr2 : k = 2 → r = 2) (e : de i = -nI 1) (ek : kd o = nI 0) {op' pi' fi' ip' isf' nam' : Nat → Int32} (ho' : ∀ j : Nat, j < 48 → j ≠ o → ∀ x : Nat, x < 5 → op' (j * 5 + x) = op (j * 5 + x)) (hoo : op' (o * 5) = nI k ∧ op' (o * 5 + 1) = nI 1 ∧ op' (o * 5 + 2) = nI t ∧ op' (o * 5 + 3) = nI 0 ∧ op' (o * 5 + 4) = nI r) (hpi : ∀ u s : Nat, u < 8 → 1 ≤ s → s ≤ 2 → pi' (u * 4 + s) = if s = k ∧ u = t then nI (cE kd th s u + 1) else pi (u * 4 + s)) (hfi : ∀ u : Nat, u < 16 → fi' (u * 3 + 1) = (if k = 3 ∧ u = t then nI (cE kd th 3 u + 1) else fi (u * 3 + 1)) ∧ fi' (u * 3 + 2) = nam' u ∧ okB (nam' u)) (hip : ∀ u : Nat, u < 8 → ip' u = if k ≤ 2 ∧ u = t then nI 1 else ip u) (hisf : ∀ u : Nat, u < 16 → (k = 3 ∧ u = t → isf' u = nI 1) ∧ (¬ (k = 3 ∧ u = t) → isf' u = isf u ∧ nam' u = nam u)) : rD (upd l i (nI (o + 1))) op' pi' fi' (upd de i (nI o)) (upd kd o (nI k)) (upd th o (nI t)) (upd po o (nI 0)) (upd rt o (nI r)) ip' isf' nam' := by
  obtain ⟨h1, h2, h3, h4⟩ := h
  have c0 : cD de o = 0 := by
    rcases h2 o ho with ⟨_, _, z⟩ | ⟨k', _, y1, y2, _, y4, _⟩
    · exact z
    · have := nm_inI (by omega) (by omega) (y4.symm.trans ek)
      omega
  obtain ⟨c1, c2⟩ := cD_stand hi ho e
  have E : ∀ s u : Nat, 1 ≤ s → s ≤ 4 → u < 16 → cE (upd kd o (nI k)) (upd th o (nI t)) s u = cE kd th s u + (if s = k ∧ u = t then 1 else 0) := fun s u x1 x2 x3 => cE_new ho hk (by omega) ht ek x1 x2 x3
  refine ⟨fun j hj => ?_, fun j hj => ?_, fun u hu => ?_, fun u hu => ?_⟩
  · by_cases c : j = i
    · right
      rw [c, nm_us, nm_us]
      exact ⟨o, ho, rfl, rfl⟩
    · rw [nm_un c, nm_un c]; exact h1 j hj
  · by_cases c : j = o
    · subst c
      right
      rw [c2, c0, nm_us, nm_us, nm_us, nm_us]
      exact ⟨k, t, hk, by omega, by omega, rfl, hoo.1, hoo.2.1, rfl, hoo.2.2.1, ht8, ht, hoo.2.2.2.2, fun _ => hoo.2.2.2.1, fun _ => hoo.2.2.2.1, ⟨r, hr, rfl, hr1, hr2⟩, fun _ => ⟨0, by omega, rfl⟩⟩
    · have oj := ho' j hj c
      have oj0 := oj 0 (by omega)
      rw [Nat.add_zero] at oj0
      rw [nm_un c, nm_un c, nm_un c, nm_un c, c1 j hj c, oj0, oj 1 (by omega), oj 2 (by omega), oj 3 (by omega), oj 4 (by omega)]
      exact h2 j hj
  · obtain ⟨z1, z2, z3⟩ := h3 u hu
    have e1 := E 1 u (by omega) (by omega) (by omega)
    have e2 := E 2 u (by omega) (by omega) (by omega)
    have p1 := hpi u 1 hu (by omega) (by omega)
    have p2 := hpi u 2 hu (by omega) (by omega)
    have i1 := hip u hu
    rw [e1, e2]
    refine ⟨?_, ?_, ?_⟩
    · by_cases c : 1 = k ∧ u = t
      · rw [p1, if_pos c, if_pos c]
      · rw [p1, if_neg c, if_neg c, z1]; rfl
    · by_cases c : 2 = k ∧ u = t
      · rw [p2, if_pos c, if_pos c]
      · rw [p2, if_neg c, if_neg c, z2]; rfl
    · rw [i1]
      by_cases c : k ≤ 2 ∧ u = t
      · rw [if_pos c]
        have c' : k = 1 ∨ k = 2 := by omega
        rcases c' with c' | c'
        · rw [if_pos (show 1 = k ∧ u = t from ⟨c'.symm, c.2⟩), decide_eq_true (show 0 < cE kd th 1 u + 1 + (cE kd th 2 u + if 2 = k ∧ u = t then 1 else 0) by omega)]; rfl
        · rw [if_pos (show 2 = k ∧ u = t from ⟨c'.symm, c.2⟩), decide_eq_true (show 0 < cE kd th 1 u + (if 1 = k ∧ u = t then 1 else 0) + (cE kd th 2 u + 1) by omega)]; rfl
      · rw [if_neg c, if_neg (show ¬ (1 = k ∧ u = t) from fun y => c ⟨by omega, y.2⟩), if_neg (show ¬ (2 = k ∧ u = t) from fun y => c ⟨by omega, y.2⟩)]
        exact z3
  · obtain ⟨z1, z2, z3, z4⟩ := h4 u hu
    have e3 := E 3 u (by omega) (by omega) hu
    obtain ⟨f1, f2, f3⟩ := hfi u hu
    obtain ⟨g1, g2⟩ := hisf u hu
    rw [e3]
    by_cases c : k = 3 ∧ u = t
    · have c' : 3 = k ∧ u = t := ⟨c.1.symm, c.2⟩
      rw [f1, if_pos c, if_pos c']
      exact ⟨rfl, f3, f2, by rw [g1 c, decide_eq_true (Or.inr (by omega))]; rfl⟩
    · have c' : ¬ (3 = k ∧ u = t) := fun y => c ⟨y.1.symm, y.2⟩
      obtain ⟨g3, g4⟩ := g2 c
      rw [f1, if_neg c, if_neg c']
      exact ⟨z1, f3, f2, by rw [g3, g4]; exact z4⟩
/-- the first free opening -/
def fo (X : St × St) : Nat := fN (fun o => decide (sR X.1 19 o ≤ nI 0)) 0 48
theorem fo_le {l op pi fi de kd th po rt ip isf nam : Nat → Int32} (h : rD l op pi fi de kd th po rt ip isf nam) {o : Nat} (ho : o < 48) : (kd o ≤ nI 0 ↔ kd o = nI 0) ∧ (op (o * 5) = nI 0 ↔ kd o = nI 0) := by
  rcases h.2.1 o ho with ⟨z1, z2, _⟩ | ⟨k, t, y1, y2, _, y4, y5, _⟩
  · rw [z1, z2]
    exact ⟨⟨fun _ => rfl, fun _ => by decide⟩, Iff.rfl⟩
  · rw [y4, y5]
    refine ⟨⟨fun z => ?_, fun z => ?_⟩, Iff.rfl⟩
    · have := (nm_nle0 (by omega)).mp z
      rw [this]
    · have := nm_inI (by omega) (by omega) z
      omega
theorem nk_hold3 (n : Nat) {D : St} {t x : Nat} (ht : t < 16) (hx : x ≤ 48) (e : sR D 4 (t * 3 + 1) = nI x) : df_X10_hold n (nI 3) (nI t) (nI 1) D = some (pR D 4 (upd (sR D 4) (t * 3 + 1) (nI (x + 1)))) := by
  have u1 : t * 3 + 1 < 48 := by omega
  have u2 : t * 3 + 1 < 2 ^ 31 := by omega
  simp (disch := (first | assumption | decide | omega)) only [df_X10_hold_41, df_X10_hold_0, df_X10_hold, e, eq_self, Nat.reduceEqDiff, Nat.reduceLeDiff, nl_1, nl_2, nl_3, nl_4, nl_32, nl_48, no_1, no_1024, pk_mul, nI_add, nm_ck, nI_clamp, nI_ltI, nI_leI, nI_eq, nb_b2, nb_b1, ↓nb_let, nm_z0, nm_z1, nb_II, nb_IR, nb_RI, nb_RR, nm_IL, nm_IQ, nm_RL, nm_RQ, nm_LI, nm_LR, nm_LL, nm_LQ, nm_QI, nm_QR, nm_QL, nm_QQ, nm_rr, nm_ii, nm_eqm, not_false_eq_true, pk_sub, nm_div, nm_shl, nm_shr, nm_ush, nm_or8, nm_or64, nm_or256, nm_m1, nm_m3, nm_m7, nm_m15, nm_m31, nm_m63, nm_m255, nm_m511, nm_m1023, nm_m2047, nm_m65535, Nat.reduceMod, Nat.reducePow, Nat.reduceAdd, Nat.reduceSub, Nat.reduceMul, nm_bo, nm_bi, nm_rc, nm_ic, nm_ri, nm_rl, nm_rq, nm_ql, nm_qi, nm_li, nm_us, nm_uu, nm_cp, nm_sa31, nm_sa7, nm_m127, nm_m2, nm_nz, nm_nzk, nm_eq32, nm_nzf, if_true, if_false, ↓reduceIte, if_pos, if_neg]
theorem nk_hold2 (n : Nat) {D : St} {k t x : Nat} (hk : k = 1 ∨ k = 2) (ht : t < 8) (hx : x ≤ 48) (e : sR D 2 (t * 4 + k) = nI x) : df_X10_hold n (nI k) (nI t) (nI 1) D = some (pR D 2 (upd (sR D 2) (t * 4 + k) (nI (x + 1)))) := by
  have u1 : t * 4 + k < 32 := by omega
  have u2 : t * 4 + k < 2 ^ 31 := by omega
  have u3 : k < 2 ^ 31 := by omega
  have u4 : ¬ k = 3 := by omega
  have u5 : ¬ k = 4 := by omega
  simp (disch := (first | assumption | decide | omega)) only [df_X10_hold_41, df_X10_hold_0, df_X10_hold, u4, u5, e, eq_self, Nat.reduceEqDiff, Nat.reduceLeDiff, nl_1, nl_2, nl_3, nl_4, nl_32, nl_48, no_1, no_1024, pk_mul, nI_add, nm_ck, nI_clamp, nI_ltI, nI_leI, nI_eq, nb_b2, nb_b1, ↓nb_let, nm_z0, nm_z1, nb_II, nb_IR, nb_RI, nb_RR, nm_IL, nm_IQ, nm_RL, nm_RQ, nm_LI, nm_LR, nm_LL, nm_LQ, nm_QI, nm_QR, nm_QL, nm_QQ, nm_rr, nm_ii, nm_eqm, not_false_eq_true, pk_sub, nm_div, nm_shl, nm_shr, nm_ush, nm_or8, nm_or64, nm_or256, nm_m1, nm_m3, nm_m7, nm_m15, nm_m31, nm_m63, nm_m255, nm_m511, nm_m1023, nm_m2047, nm_m65535, Nat.reduceMod, Nat.reducePow, Nat.reduceAdd, Nat.reduceSub, Nat.reduceMul, nm_bo, nm_bi, nm_rc, nm_ic, nm_ri, nm_rl, nm_rq, nm_ql, nm_qi, nm_li, nm_us, nm_uu, nm_cp, nm_sa31, nm_sa7, nm_m127, nm_m2, nm_nz, nm_nzk, nm_eq32, nm_nzf, if_true, if_false, ↓reduceIte, if_pos, if_neg]
/-- an opening's row -/
def orw (op : Nat → Int32) (o : Nat) (k t r : Int32) : Nat → Int32 := upd (upd (upd (upd (upd op (o * 5) k) (o * 5 + 1) (nI 0)) (o * 5 + 2) t) (o * 5 + 3) (nI 0)) (o * 5 + 4) r
theorem nk_open10 (n : Nat) (hn : 1024 < n) {D : St} {X : St × St} (h : rD (sR D 0) (sR D 1) (sR D 2) (sR D 4) (sR X.1 14) (sR X.1 19) (sR X.1 20) (sR X.1 21) (sR X.1 22) (sR X.1 23) (sR X.1 24) (sR X.1 25)) (hf : fo X < 48) (k t r : Int32) : df_X10_open n k t r D = nd_b1 (df_X10_hold n k t (nI 1) (pR D 1 (orw (sR D 1) (fo X) k t r))) (fun s => some (nI (fo X), s)) := by
  obtain ⟨x1, x2, x3, x4⟩ := fN_le (fun o => decide (sR X.1 19 o ≤ nI 0)) 48 0
  obtain ⟨m, hm⟩ := nm_ls (fun m o => df_X10_open_3 n m k t r (nI o) D) (fun o => decide (sR X.1 19 o ≤ nI 0)) 0 48 n (by omega) (fun o m h0 ho c => by
    have c := of_decide_eq_false c
    obtain ⟨y1, y2⟩ := fo_le h (show o < 48 by omega)
    have y3 : ¬ sR D 1 (o * 5) = nI 0 := fun z => c (y1.mpr (y2.mp z))
    have u1 : o * 5 < 240 := by omega
    have u2 : o * 5 < 2 ^ 31 := by omega
    have u3 : o < 2 ^ 31 := by omega
    have o48 : ¬ 48 ≤ o := by omega
    rw [show df_X10_open_3 n (m + 1) = dF_X10_open_3 n (df_X10_open_3 n m) from rfl]
    generalize df_X10_open_3 n m = G
    simp (disch := (first | assumption | decide | omega)) only [dF_X10_open_3, o48, Nat.add_zero, y3, eq_self, Nat.reduceEqDiff, Nat.reduceLeDiff, nl_0, nl_1, nl_2, nl_3, nl_4, nl_5, nl_48, nl_240, no_1, no_1024, pk_mul, nI_add, nm_ck, nI_clamp, nI_ltI, nI_leI, nI_eq, nb_b2, nb_b1, ↓nb_let, nm_z0, nm_z1, nb_II, nb_IR, nb_RI, nb_RR, nm_IL, nm_IQ, nm_RL, nm_RQ, nm_LI, nm_LR, nm_LL, nm_LQ, nm_QI, nm_QR, nm_QL, nm_QQ, nm_rr, nm_ii, nm_eqm, not_false_eq_true, pk_sub, nm_div, nm_shl, nm_shr, nm_ush, nm_or8, nm_or64, nm_or256, nm_m1, nm_m3, nm_m7, nm_m15, nm_m31, nm_m63, nm_m255, nm_m511, nm_m1023, nm_m2047, nm_m65535, Nat.reduceMod, Nat.reducePow, Nat.reduceAdd, Nat.reduceSub, Nat.reduceMul, nm_bo, nm_bi, nm_rc, nm_ic, nm_ri, nm_rl, nm_rq, nm_ql, nm_qi, nm_li, nm_us, nm_uu, nm_cp, nm_sa31, nm_sa7, nm_m127, nm_m2, nm_nz, nm_nzk, nm_eq32, nm_nzf, if_true, if_false, ↓reduceIte, if_pos, if_neg])
  refine Eq.trans (b := df_X10_open_3 n n k t r (nI 0) D) rfl (Eq.trans hm ?_)
  show df_X10_open_3 n (m + 1) k t r (nI (fo X)) D = _
  have x3' := of_decide_eq_true (x3 (show fo X < 48 from hf))
  have x3' : sR X.1 19 (fo X) ≤ nI 0 := x3'
  generalize fo X = o at hf x3'
  rw [show df_X10_open_3 n (m + 1) = dF_X10_open_3 n (df_X10_open_3 n m) from rfl]
  generalize df_X10_open_3 n m = G
  obtain ⟨y1, y2⟩ := fo_le h hf
  have y3 : sR D 1 (o * 5) = nI 0 := y2.mpr (y1.mp x3')
  have u1 : o * 5 < 240 := by omega
  have u2 : o * 5 < 2 ^ 31 := by omega
  have u3 : o < 2 ^ 31 := by omega
  have u4 : o * 5 + 1 < 240 := by omega
  have u5 : o * 5 + 2 < 240 := by omega
  have u6 : o * 5 + 3 < 240 := by omega
  have u7 : o * 5 + 4 < 240 := by omega
  have o48 : ¬ 48 ≤ o := by omega
  unfold orw
  simp (disch := (first | assumption | decide | omega)) only [dF_X10_open_3, o48, Nat.add_zero, y3, eq_self, Nat.reduceEqDiff, Nat.reduceLeDiff, nl_0, nl_1, nl_2, nl_3, nl_4, nl_5, nl_48, nl_240, no_1, no_1024, pk_mul, nI_add, nm_ck, nI_clamp, nI_ltI, nI_leI, nI_eq, nb_b2, nb_b1, ↓nb_let, nm_z0, nm_z1, nb_II, nb_IR, nb_RI, nb_RR, nm_IL, nm_IQ, nm_RL, nm_RQ, nm_LI, nm_LR, nm_LL, nm_LQ, nm_QI, nm_QR, nm_QL, nm_QQ, nm_rr, nm_ii, nm_eqm, not_false_eq_true, pk_sub, nm_div, nm_shl, nm_shr, nm_ush, nm_or8, nm_or64, nm_or256, nm_m1, nm_m3, nm_m7, nm_m15, nm_m31, nm_m63, nm_m255, nm_m511, nm_m1023, nm_m2047, nm_m65535, Nat.reduceMod, Nat.reducePow, Nat.reduceAdd, Nat.reduceSub, Nat.reduceMul, nm_bo, nm_bi, nm_rc, nm_ic, nm_ri, nm_rl, nm_rq, nm_ql, nm_qi, nm_li, nm_us, nm_uu, nm_cp, nm_sa31, nm_sa7, nm_m127, nm_m2, nm_nz, nm_nzk, nm_eq32, nm_nzf, if_true, if_false, ↓reduceIte, if_pos, if_neg]
theorem nk_free48 (n : Nat) (hn : 1024 < n) {X : St × St} : df_X16_freeOpening n X = some (if fo X < 48 then nI (fo X) else -nI 1, X) := nb_freeOpening n (by omega) X
theorem nk_opening16 (n : Nat) (hn : 1024 < n) {X : St × St} (hf : fo X < 48) (k t r : Int32) : df_X16_opening n k t r X = some (nI (fo X), (pR (pR (pR (pR X.1 19 (upd (sR X.1 19) (fo X) k)) 20 (upd (sR X.1 20) (fo X) t)) 21 (upd (sR X.1 21) (fo X) (nI 0))) 22 (upd (sR X.1 22) (fo X) r), X.2)) := by
  have fr := nk_free48 n hn (X := X)
  rw [if_pos hf] at fr
  generalize fo X = o at hf fr
  have u3 : o < 2 ^ 31 := by omega
  simp (disch := (first | assumption | decide | omega)) only [df_X16_opening_0, df_X16_opening, fr, eq_self, Nat.reduceEqDiff, Nat.reduceLeDiff, nl_0, nl_19, nl_20, nl_21, nl_22, nl_48, no_1, no_1024, pk_mul, nI_add, nm_ck, nI_clamp, nI_ltI, nI_leI, nI_eq, nb_b2, nb_b1, ↓nb_let, nm_z0, nm_z1, nb_II, nb_IR, nb_RI, nb_RR, nm_IL, nm_IQ, nm_RL, nm_RQ, nm_LI, nm_LR, nm_LL, nm_LQ, nm_QI, nm_QR, nm_QL, nm_QQ, nm_rr, nm_ii, nm_eqm, not_false_eq_true, pk_sub, nm_div, nm_shl, nm_shr, nm_ush, nm_or8, nm_or64, nm_or256, nm_m1, nm_m3, nm_m7, nm_m15, nm_m31, nm_m63, nm_m255, nm_m511, nm_m1023, nm_m2047, nm_m65535, Nat.reduceMod, Nat.reducePow, Nat.reduceAdd, Nat.reduceSub, Nat.reduceMul, nm_bo, nm_bi, nm_rc, nm_ic, nm_ri, nm_rl, nm_rq, nm_ql, nm_qi, nm_li, nm_us, nm_uu, nm_cp, nm_sa31, nm_sa7, nm_m127, nm_m2, nm_nz, nm_nzk, nm_eq32, nm_nzf, if_true, if_false, ↓reduceIte, if_pos, if_neg]

/-- how a file may be opened -/
def good (v : Int32) : Prop := ¬ v < nI 1 ∧ ¬ nI 63 < v ∧ ¬ v &&& nI 3 = nI 0 ∧ (v &&& nI 4 = nI 0 ∨ ¬ v &&& nI 2 = nI 0) ∧ (v &&& nI 16 = nI 0 ∨ ¬ v &&& nI 8 = nI 0) ∧ (v &&& nI 32 = nI 0 ∨ ¬ v &&& nI 2 = nI 0)
theorem op_55 (n : Nat) (x1 x2 v x4 : Int32) (s : St × (St × (St × St))) : ((v &&& nI 32 = nI 0 ∨ ¬ x4 = nI 0) → df_X5_open_55 n x1 x2 v x4 s = df_X5_open_71 n x1 x2 v s) ∧ (¬ (v &&& nI 32 = nI 0 ∨ ¬ x4 = nI 0) → df_X5_open_55 n x1 x2 v x4 s = some (-22, s)) := by
  by_cases a : v &&& nI 32 = nI 0
  · exact ⟨fun _ => by simp (disch := (first | assumption | decide | omega)) only [df_X5_open_55, a, eq_self, Nat.reduceEqDiff, Nat.reduceLeDiff, nl_0, nl_32, no_1, no_1024, pk_mul, nI_add, nm_ck, nI_clamp, nI_ltI, nI_leI, nI_eq, nb_b2, nb_b1, ↓nb_let, nm_z0, nm_z1, nb_II, nb_IR, nb_RI, nb_RR, nm_IL, nm_IQ, nm_RL, nm_RQ, nm_LI, nm_LR, nm_LL, nm_LQ, nm_QI, nm_QR, nm_QL, nm_QQ, nm_rr, nm_ii, nm_eqm, not_false_eq_true, pk_sub, nm_div, nm_shl, nm_shr, nm_ush, nm_or8, nm_or64, nm_or256, nm_m1, nm_m3, nm_m7, nm_m15, nm_m31, nm_m63, nm_m255, nm_m511, nm_m1023, nm_m2047, nm_m65535, Nat.reduceMod, Nat.reducePow, Nat.reduceAdd, Nat.reduceSub, Nat.reduceMul, nm_bo, nm_bi, nm_rc, nm_ic, nm_ri, nm_rl, nm_rq, nm_ql, nm_qi, nm_li, nm_us, nm_uu, nm_cp, nm_sa31, nm_sa7, nm_m127, nm_m2, nm_nz, nm_nzk, nm_eq32, nm_nzf, if_true, if_false, ↓reduceIte, if_pos, if_neg], fun z => absurd (Or.inl a) z⟩
  · by_cases b : x4 = nI 0
    · exact ⟨fun z => by rcases z with z | z; exact absurd z a; exact absurd b z, fun _ => by simp (disch := (first | assumption | decide | omega)) only [df_X5_open_55, df_X5_open_67, a, b, eq_self, Nat.reduceEqDiff, Nat.reduceLeDiff, nl_0, nl_22, nl_32, no_1, no_1024, pk_mul, nI_add, nm_ck, nI_clamp, nI_ltI, nI_leI, nI_eq, nb_b2, nb_b1, ↓nb_let, nm_z0, nm_z1, nb_II, nb_IR, nb_RI, nb_RR, nm_IL, nm_IQ, nm_RL, nm_RQ, nm_LI, nm_LR, nm_LL, nm_LQ, nm_QI, nm_QR, nm_QL, nm_QQ, nm_rr, nm_ii, nm_eqm, not_false_eq_true, pk_sub, nm_div, nm_shl, nm_shr, nm_ush, nm_or8, nm_or64, nm_or256, nm_m1, nm_m3, nm_m7, nm_m15, nm_m31, nm_m63, nm_m255, nm_m511, nm_m1023, nm_m2047, nm_m65535, Nat.reduceMod, Nat.reducePow, Nat.reduceAdd, Nat.reduceSub, Nat.reduceMul, nm_bo, nm_bi, nm_rc, nm_ic, nm_ri, nm_rl, nm_rq, nm_ql, nm_qi, nm_li, nm_us, nm_uu, nm_cp, nm_sa31, nm_sa7, nm_m127, nm_m2, nm_nz, nm_nzk, nm_eq32, nm_nzf, if_true, if_false, ↓reduceIte, if_pos, if_neg]⟩
    · exact ⟨fun _ => by simp (disch := (first | assumption | decide | omega)) only [df_X5_open_55, a, b, eq_self, Nat.reduceEqDiff, Nat.reduceLeDiff, nl_0, nl_32, no_1, no_1024, pk_mul, nI_add, nm_ck, nI_clamp, nI_ltI, nI_leI, nI_eq, nb_b2, nb_b1, ↓nb_let, nm_z0, nm_z1, nb_II, nb_IR, nb_RI, nb_RR, nm_IL, nm_IQ, nm_RL, nm_RQ, nm_LI, nm_LR, nm_LL, nm_LQ, nm_QI, nm_QR, nm_QL, nm_QQ, nm_rr, nm_ii, nm_eqm, not_false_eq_true, pk_sub, nm_div, nm_shl, nm_shr, nm_ush, nm_or8, nm_or64, nm_or256, nm_m1, nm_m3, nm_m7, nm_m15, nm_m31, nm_m63, nm_m255, nm_m511, nm_m1023, nm_m2047, nm_m65535, Nat.reduceMod, Nat.reducePow, Nat.reduceAdd, Nat.reduceSub, Nat.reduceMul, nm_bo, nm_bi, nm_rc, nm_ic, nm_ri, nm_rl, nm_rq, nm_ql, nm_qi, nm_li, nm_us, nm_uu, nm_cp, nm_sa31, nm_sa7, nm_m127, nm_m2, nm_nz, nm_nzk, nm_eq32, nm_nzf, if_true, if_false, ↓reduceIte, if_pos, if_neg], fun z => absurd (Or.inr b) z⟩
theorem op_41 (n : Nat) (x1 x2 v x4 : Int32) (s : St × (St × (St × St))) : ((v &&& nI 16 = nI 0 ∨ ¬ v &&& nI 8 = nI 0) → df_X5_open_41 n x1 x2 v x4 s = df_X5_open_55 n x1 x2 v x4 s) ∧ (¬ (v &&& nI 16 = nI 0 ∨ ¬ v &&& nI 8 = nI 0) → df_X5_open_41 n x1 x2 v x4 s = some (-22, s)) := by
  by_cases a : v &&& nI 16 = nI 0
  · exact ⟨fun _ => by simp (disch := (first | assumption | decide | omega)) only [df_X5_open_41, a, eq_self, Nat.reduceEqDiff, Nat.reduceLeDiff, nl_0, nl_8, nl_16, no_1, no_1024, pk_mul, nI_add, nm_ck, nI_clamp, nI_ltI, nI_leI, nI_eq, nb_b2, nb_b1, ↓nb_let, nm_z0, nm_z1, nb_II, nb_IR, nb_RI, nb_RR, nm_IL, nm_IQ, nm_RL, nm_RQ, nm_LI, nm_LR, nm_LL, nm_LQ, nm_QI, nm_QR, nm_QL, nm_QQ, nm_rr, nm_ii, nm_eqm, not_false_eq_true, pk_sub, nm_div, nm_shl, nm_shr, nm_ush, nm_or8, nm_or64, nm_or256, nm_m1, nm_m3, nm_m7, nm_m15, nm_m31, nm_m63, nm_m255, nm_m511, nm_m1023, nm_m2047, nm_m65535, Nat.reduceMod, Nat.reducePow, Nat.reduceAdd, Nat.reduceSub, Nat.reduceMul, nm_bo, nm_bi, nm_rc, nm_ic, nm_ri, nm_rl, nm_rq, nm_ql, nm_qi, nm_li, nm_us, nm_uu, nm_cp, nm_sa31, nm_sa7, nm_m127, nm_m2, nm_nz, nm_nzk, nm_eq32, nm_nzf, if_true, if_false, ↓reduceIte, if_pos, if_neg], fun z => absurd (Or.inl a) z⟩
  · by_cases b : v &&& nI 8 = nI 0
    · exact ⟨fun z => by rcases z with z | z; exact absurd z a; exact absurd b z, fun _ => by simp (disch := (first | assumption | decide | omega)) only [df_X5_open_41, df_X5_open_67, a, b, eq_self, Nat.reduceEqDiff, Nat.reduceLeDiff, nl_0, nl_8, nl_16, nl_22, no_1, no_1024, pk_mul, nI_add, nm_ck, nI_clamp, nI_ltI, nI_leI, nI_eq, nb_b2, nb_b1, ↓nb_let, nm_z0, nm_z1, nb_II, nb_IR, nb_RI, nb_RR, nm_IL, nm_IQ, nm_RL, nm_RQ, nm_LI, nm_LR, nm_LL, nm_LQ, nm_QI, nm_QR, nm_QL, nm_QQ, nm_rr, nm_ii, nm_eqm, not_false_eq_true, pk_sub, nm_div, nm_shl, nm_shr, nm_ush, nm_or8, nm_or64, nm_or256, nm_m1, nm_m3, nm_m7, nm_m15, nm_m31, nm_m63, nm_m255, nm_m511, nm_m1023, nm_m2047, nm_m65535, Nat.reduceMod, Nat.reducePow, Nat.reduceAdd, Nat.reduceSub, Nat.reduceMul, nm_bo, nm_bi, nm_rc, nm_ic, nm_ri, nm_rl, nm_rq, nm_ql, nm_qi, nm_li, nm_us, nm_uu, nm_cp, nm_sa31, nm_sa7, nm_m127, nm_m2, nm_nz, nm_nzk, nm_eq32, nm_nzf, if_true, if_false, ↓reduceIte, if_pos, if_neg]⟩
    · exact ⟨fun _ => by simp (disch := (first | assumption | decide | omega)) only [df_X5_open_41, a, b, eq_self, Nat.reduceEqDiff, Nat.reduceLeDiff, nl_0, nl_8, nl_16, no_1, no_1024, pk_mul, nI_add, nm_ck, nI_clamp, nI_ltI, nI_leI, nI_eq, nb_b2, nb_b1, ↓nb_let, nm_z0, nm_z1, nb_II, nb_IR, nb_RI, nb_RR, nm_IL, nm_IQ, nm_RL, nm_RQ, nm_LI, nm_LR, nm_LL, nm_LQ, nm_QI, nm_QR, nm_QL, nm_QQ, nm_rr, nm_ii, nm_eqm, not_false_eq_true, pk_sub, nm_div, nm_shl, nm_shr, nm_ush, nm_or8, nm_or64, nm_or256, nm_m1, nm_m3, nm_m7, nm_m15, nm_m31, nm_m63, nm_m255, nm_m511, nm_m1023, nm_m2047, nm_m65535, Nat.reduceMod, Nat.reducePow, Nat.reduceAdd, Nat.reduceSub, Nat.reduceMul, nm_bo, nm_bi, nm_rc, nm_ic, nm_ri, nm_rl, nm_rq, nm_ql, nm_qi, nm_li, nm_us, nm_uu, nm_cp, nm_sa31, nm_sa7, nm_m127, nm_m2, nm_nz, nm_nzk, nm_eq32, nm_nzf, if_true, if_false, ↓reduceIte, if_pos, if_neg], fun z => absurd (Or.inr b) z⟩
theorem op_11 (n : Nat) (x1 x2 v y0 : Int32) (s : St × (St × (St × St))) (g1 : ¬ v < nI 1) (g2 : ¬ nI 63 < v) (g3 : ¬ v &&& nI 3 = nI 0) : ((v &&& nI 4 = nI 0 ∨ ¬ y0 = nI 0) → df_X5_open_11 n x1 x2 v y0 s = df_X5_open_41 n x1 x2 v y0 s) ∧ (¬ (v &&& nI 4 = nI 0 ∨ ¬ y0 = nI 0) → df_X5_open_11 n x1 x2 v y0 s = some (-22, s)) := by
  by_cases a : v &&& nI 4 = nI 0
  · exact ⟨fun _ => by simp (disch := (first | assumption | decide | omega)) only [df_X5_open_11, g1, g2, g3, a, eq_self, Nat.reduceEqDiff, Nat.reduceLeDiff, nl_0, nl_1, nl_3, nl_4, nl_63, no_1, no_1024, pk_mul, nI_add, nm_ck, nI_clamp, nI_ltI, nI_leI, nI_eq, nb_b2, nb_b1, ↓nb_let, nm_z0, nm_z1, nb_II, nb_IR, nb_RI, nb_RR, nm_IL, nm_IQ, nm_RL, nm_RQ, nm_LI, nm_LR, nm_LL, nm_LQ, nm_QI, nm_QR, nm_QL, nm_QQ, nm_rr, nm_ii, nm_eqm, not_false_eq_true, pk_sub, nm_div, nm_shl, nm_shr, nm_ush, nm_or8, nm_or64, nm_or256, nm_m1, nm_m3, nm_m7, nm_m15, nm_m31, nm_m63, nm_m255, nm_m511, nm_m1023, nm_m2047, nm_m65535, Nat.reduceMod, Nat.reducePow, Nat.reduceAdd, Nat.reduceSub, Nat.reduceMul, nm_bo, nm_bi, nm_rc, nm_ic, nm_ri, nm_rl, nm_rq, nm_ql, nm_qi, nm_li, nm_us, nm_uu, nm_cp, nm_sa31, nm_sa7, nm_m127, nm_m2, nm_nz, nm_nzk, nm_eq32, nm_nzf, if_true, if_false, ↓reduceIte, if_pos, if_neg], fun z => absurd (Or.inl a) z⟩
  · by_cases b : y0 = nI 0
    · exact ⟨fun z => by rcases z with z | z; exact absurd z a; exact absurd b z, fun _ => by simp (disch := (first | assumption | decide | omega)) only [df_X5_open_11, df_X5_open_67, g1, g2, g3, a, b, eq_self, Nat.reduceEqDiff, Nat.reduceLeDiff, nl_0, nl_1, nl_3, nl_4, nl_22, nl_63, no_1, no_1024, pk_mul, nI_add, nm_ck, nI_clamp, nI_ltI, nI_leI, nI_eq, nb_b2, nb_b1, ↓nb_let, nm_z0, nm_z1, nb_II, nb_IR, nb_RI, nb_RR, nm_IL, nm_IQ, nm_RL, nm_RQ, nm_LI, nm_LR, nm_LL, nm_LQ, nm_QI, nm_QR, nm_QL, nm_QQ, nm_rr, nm_ii, nm_eqm, not_false_eq_true, pk_sub, nm_div, nm_shl, nm_shr, nm_ush, nm_or8, nm_or64, nm_or256, nm_m1, nm_m3, nm_m7, nm_m15, nm_m31, nm_m63, nm_m255, nm_m511, nm_m1023, nm_m2047, nm_m65535, Nat.reduceMod, Nat.reducePow, Nat.reduceAdd, Nat.reduceSub, Nat.reduceMul, nm_bo, nm_bi, nm_rc, nm_ic, nm_ri, nm_rl, nm_rq, nm_ql, nm_qi, nm_li, nm_us, nm_uu, nm_cp, nm_sa31, nm_sa7, nm_m127, nm_m2, nm_nz, nm_nzk, nm_eq32, nm_nzf, if_true, if_false, ↓reduceIte, if_pos, if_neg]⟩
    · exact ⟨fun _ => by simp (disch := (first | assumption | decide | omega)) only [df_X5_open_11, g1, g2, g3, a, b, eq_self, Nat.reduceEqDiff, Nat.reduceLeDiff, nl_0, nl_1, nl_3, nl_4, nl_63, no_1, no_1024, pk_mul, nI_add, nm_ck, nI_clamp, nI_ltI, nI_leI, nI_eq, nb_b2, nb_b1, ↓nb_let, nm_z0, nm_z1, nb_II, nb_IR, nb_RI, nb_RR, nm_IL, nm_IQ, nm_RL, nm_RQ, nm_LI, nm_LR, nm_LL, nm_LQ, nm_QI, nm_QR, nm_QL, nm_QQ, nm_rr, nm_ii, nm_eqm, not_false_eq_true, pk_sub, nm_div, nm_shl, nm_shr, nm_ush, nm_or8, nm_or64, nm_or256, nm_m1, nm_m3, nm_m7, nm_m15, nm_m31, nm_m63, nm_m255, nm_m511, nm_m1023, nm_m2047, nm_m65535, Nat.reduceMod, Nat.reducePow, Nat.reduceAdd, Nat.reduceSub, Nat.reduceMul, nm_bo, nm_bi, nm_rc, nm_ic, nm_ri, nm_rl, nm_rq, nm_ql, nm_qi, nm_li, nm_us, nm_uu, nm_cp, nm_sa31, nm_sa7, nm_m127, nm_m2, nm_nz, nm_nzk, nm_eq32, nm_nzf, if_true, if_false, ↓reduceIte, if_pos, if_neg], fun z => absurd (Or.inr b) z⟩
theorem op_C (n : Nat) (x1 x2 v : Int32) (s : St × (St × (St × St))) : (good v → df_X5_open n x1 x2 v s = df_X5_open_71 n x1 x2 v s) ∧ (¬ good v → df_X5_open n x1 x2 v s = some (-22, s)) := by
  have e0 : df_X5_open n x1 x2 v s = df_X5_open_11 n x1 x2 v (if v &&& nI 2 = nI 0 then nI 0 else nI 1) s := by
    by_cases a : v &&& nI 2 = nI 0
    · rw [if_pos a]
      simp (disch := (first | assumption | decide | omega)) only [df_X5_open, df_X5_open_0, a, eq_self, Nat.reduceEqDiff, Nat.reduceLeDiff, nl_0, nl_1, nl_2, no_1, no_1024, pk_mul, nI_add, nm_ck, nI_clamp, nI_ltI, nI_leI, nI_eq, nb_b2, nb_b1, ↓nb_let, nm_z0, nm_z1, nb_II, nb_IR, nb_RI, nb_RR, nm_IL, nm_IQ, nm_RL, nm_RQ, nm_LI, nm_LR, nm_LL, nm_LQ, nm_QI, nm_QR, nm_QL, nm_QQ, nm_rr, nm_ii, nm_eqm, not_false_eq_true, pk_sub, nm_div, nm_shl, nm_shr, nm_ush, nm_or8, nm_or64, nm_or256, nm_m1, nm_m3, nm_m7, nm_m15, nm_m31, nm_m63, nm_m255, nm_m511, nm_m1023, nm_m2047, nm_m65535, Nat.reduceMod, Nat.reducePow, Nat.reduceAdd, Nat.reduceSub, Nat.reduceMul, nm_bo, nm_bi, nm_rc, nm_ic, nm_ri, nm_rl, nm_rq, nm_ql, nm_qi, nm_li, nm_us, nm_uu, nm_cp, nm_sa31, nm_sa7, nm_m127, nm_m2, nm_nz, nm_nzk, nm_eq32, nm_nzf, if_true, if_false, ↓reduceIte, if_pos, if_neg]
    · rw [if_neg a]
      simp (disch := (first | assumption | decide | omega)) only [df_X5_open, df_X5_open_0, a, eq_self, Nat.reduceEqDiff, Nat.reduceLeDiff, nl_0, nl_1, nl_2, no_1, no_1024, pk_mul, nI_add, nm_ck, nI_clamp, nI_ltI, nI_leI, nI_eq, nb_b2, nb_b1, ↓nb_let, nm_z0, nm_z1, nb_II, nb_IR, nb_RI, nb_RR, nm_IL, nm_IQ, nm_RL, nm_RQ, nm_LI, nm_LR, nm_LL, nm_LQ, nm_QI, nm_QR, nm_QL, nm_QQ, nm_rr, nm_ii, nm_eqm, not_false_eq_true, pk_sub, nm_div, nm_shl, nm_shr, nm_ush, nm_or8, nm_or64, nm_or256, nm_m1, nm_m3, nm_m7, nm_m15, nm_m31, nm_m63, nm_m255, nm_m511, nm_m1023, nm_m2047, nm_m65535, Nat.reduceMod, Nat.reducePow, Nat.reduceAdd, Nat.reduceSub, Nat.reduceMul, nm_bo, nm_bi, nm_rc, nm_ic, nm_ri, nm_rl, nm_rq, nm_ql, nm_qi, nm_li, nm_us, nm_uu, nm_cp, nm_sa31, nm_sa7, nm_m127, nm_m2, nm_nz, nm_nzk, nm_eq32, nm_nzf, if_true, if_false, ↓reduceIte, if_pos, if_neg]
  have iy : (if v &&& nI 2 = nI 0 then nI 0 else nI 1) = nI 0 ↔ v &&& nI 2 = nI 0 := by
    by_cases a : v &&& nI 2 = nI 0
    · rw [if_pos a]; exact ⟨fun _ => a, fun _ => rfl⟩
    · rw [if_neg a]; exact ⟨fun z => absurd z (by decide), fun z => absurd z a⟩
  rw [e0]
  generalize (if v &&& nI 2 = nI 0 then nI 0 else nI 1) = y at iy
  unfold good
  rw [← iy]
  refine ⟨fun ⟨g1, g2, g3, g4, g5, g6⟩ => ?_, fun g => ?_⟩
  · rw [(op_11 n x1 x2 v y s g1 g2 g3).1 g4, (op_41 n x1 x2 v y s).1 g5, (op_55 n x1 x2 v y s).1 g6]
  · by_cases g1 : v < nI 1
    · simp (disch := (first | assumption | decide | omega)) only [df_X5_open_11, df_X5_open_67, g1, eq_self, Nat.reduceEqDiff, Nat.reduceLeDiff, nl_0, nl_1, nl_3, nl_4, nl_22, nl_63, no_1, no_1024, pk_mul, nI_add, nm_ck, nI_clamp, nI_ltI, nI_leI, nI_eq, nb_b2, nb_b1, ↓nb_let, nm_z0, nm_z1, nb_II, nb_IR, nb_RI, nb_RR, nm_IL, nm_IQ, nm_RL, nm_RQ, nm_LI, nm_LR, nm_LL, nm_LQ, nm_QI, nm_QR, nm_QL, nm_QQ, nm_rr, nm_ii, nm_eqm, not_false_eq_true, pk_sub, nm_div, nm_shl, nm_shr, nm_ush, nm_or8, nm_or64, nm_or256, nm_m1, nm_m3, nm_m7, nm_m15, nm_m31, nm_m63, nm_m255, nm_m511, nm_m1023, nm_m2047, nm_m65535, Nat.reduceMod, Nat.reducePow, Nat.reduceAdd, Nat.reduceSub, Nat.reduceMul, nm_bo, nm_bi, nm_rc, nm_ic, nm_ri, nm_rl, nm_rq, nm_ql, nm_qi, nm_li, nm_us, nm_uu, nm_cp, nm_sa31, nm_sa7, nm_m127, nm_m2, nm_nz, nm_nzk, nm_eq32, nm_nzf, if_true, if_false, ↓reduceIte, if_pos, if_neg]
    by_cases g2 : nI 63 < v
    · simp (disch := (first | assumption | decide | omega)) only [df_X5_open_11, df_X5_open_67, g1, g2, eq_self, Nat.reduceEqDiff, Nat.reduceLeDiff, nl_0, nl_1, nl_3, nl_4, nl_22, nl_63, no_1, no_1024, pk_mul, nI_add, nm_ck, nI_clamp, nI_ltI, nI_leI, nI_eq, nb_b2, nb_b1, ↓nb_let, nm_z0, nm_z1, nb_II, nb_IR, nb_RI, nb_RR, nm_IL, nm_IQ, nm_RL, nm_RQ, nm_LI, nm_LR, nm_LL, nm_LQ, nm_QI, nm_QR, nm_QL, nm_QQ, nm_rr, nm_ii, nm_eqm, not_false_eq_true, pk_sub, nm_div, nm_shl, nm_shr, nm_ush, nm_or8, nm_or64, nm_or256, nm_m1, nm_m3, nm_m7, nm_m15, nm_m31, nm_m63, nm_m255, nm_m511, nm_m1023, nm_m2047, nm_m65535, Nat.reduceMod, Nat.reducePow, Nat.reduceAdd, Nat.reduceSub, Nat.reduceMul, nm_bo, nm_bi, nm_rc, nm_ic, nm_ri, nm_rl, nm_rq, nm_ql, nm_qi, nm_li, nm_us, nm_uu, nm_cp, nm_sa31, nm_sa7, nm_m127, nm_m2, nm_nz, nm_nzk, nm_eq32, nm_nzf, if_true, if_false, ↓reduceIte, if_pos, if_neg]
    by_cases g3 : v &&& nI 3 = nI 0
    · simp (disch := (first | assumption | decide | omega)) only [df_X5_open_11, df_X5_open_67, g1, g2, g3, eq_self, Nat.reduceEqDiff, Nat.reduceLeDiff, nl_0, nl_1, nl_3, nl_4, nl_22, nl_63, no_1, no_1024, pk_mul, nI_add, nm_ck, nI_clamp, nI_ltI, nI_leI, nI_eq, nb_b2, nb_b1, ↓nb_let, nm_z0, nm_z1, nb_II, nb_IR, nb_RI, nb_RR, nm_IL, nm_IQ, nm_RL, nm_RQ, nm_LI, nm_LR, nm_LL, nm_LQ, nm_QI, nm_QR, nm_QL, nm_QQ, nm_rr, nm_ii, nm_eqm, not_false_eq_true, pk_sub, nm_div, nm_shl, nm_shr, nm_ush, nm_or8, nm_or64, nm_or256, nm_m1, nm_m3, nm_m7, nm_m15, nm_m31, nm_m63, nm_m255, nm_m511, nm_m1023, nm_m2047, nm_m65535, Nat.reduceMod, Nat.reducePow, Nat.reduceAdd, Nat.reduceSub, Nat.reduceMul, nm_bo, nm_bi, nm_rc, nm_ic, nm_ri, nm_rl, nm_rq, nm_ql, nm_qi, nm_li, nm_us, nm_uu, nm_cp, nm_sa31, nm_sa7, nm_m127, nm_m2, nm_nz, nm_nzk, nm_eq32, nm_nzf, if_true, if_false, ↓reduceIte, if_pos, if_neg]
    by_cases g4 : v &&& nI 4 = nI 0 ∨ ¬ y = nI 0
    · rw [(op_11 n x1 x2 v y s g1 g2 g3).1 g4]
      by_cases g5 : v &&& nI 16 = nI 0 ∨ ¬ v &&& nI 8 = nI 0
      · rw [(op_41 n x1 x2 v y s).1 g5]
        by_cases g6 : v &&& nI 32 = nI 0 ∨ ¬ y = nI 0
        · exact absurd ⟨g1, g2, g3, g4, g5, g6⟩ g
        · exact (op_55 n x1 x2 v y s).2 g6
      · exact (op_41 n x1 x2 v y s).2 g5
    · exact (op_11 n x1 x2 v y s g1 g2 g3).2 g4
theorem ob_le : ∀ h : Fin 64, (nI h.1 &&& nI 2 ≤ nI 0 ↔ nI h.1 &&& nI 2 = nI 0) ∧ (nI h.1 &&& nI 3 ≤ nI 0 ↔ nI h.1 &&& nI 3 = nI 0) ∧ (nI h.1 &&& nI 8 ≤ nI 0 ↔ nI h.1 &&& nI 8 = nI 0) ∧ (nI h.1 &&& nI 16 ≤ nI 0 ↔ nI h.1 &&& nI 16 = nI 0) ∧ (nI h.1 &&& nI 32 ≤ nI 0 ↔ nI h.1 &&& nI 32 = nI 0) := by decide +kernel
theorem op_R (n : Nat) (x1 v : Int32) (s : St × St) : (good v → ∃ H : Nat, H < 64 ∧ v = nI H ∧ df_X16_open n x1 v s = df_X16_open_60 n x1 v (nI 1) s) ∧ (¬ good v → df_X16_open n x1 v s = some (-nI 22, s)) := by
  have l1 : v ≤ nI 0 ↔ v < nI 1 := by
    rw [Int32.le_iff_toInt_le, Int32.lt_iff_toInt_lt, show (nI 0 : Int32).toInt = 0 by decide, show (nI 1 : Int32).toInt = 1 by decide]
    omega
  have l2 : nI 64 ≤ v ↔ nI 63 < v := by
    rw [Int32.le_iff_toInt_le, Int32.lt_iff_toInt_lt, show (nI 64 : Int32).toInt = 64 by decide, show (nI 63 : Int32).toInt = 63 by decide]
    omega
  have inv : ∀ s : St × St, df_X16_open_59 n x1 v s = some (-nI 22, s) := fun s => by simp (disch := (first | assumption | decide | omega)) only [df_X16_open_59, df_X16_open_60, eq_self, Nat.reduceEqDiff, Nat.reduceLeDiff, nl_0, nl_1, nl_2, nl_8, nl_22, no_1, no_1024, pk_mul, nI_add, nm_ck, nI_clamp, nI_ltI, nI_leI, nI_eq, nb_b2, nb_b1, ↓nb_let, nm_z0, nm_z1, nb_II, nb_IR, nb_RI, nb_RR, nm_IL, nm_IQ, nm_RL, nm_RQ, nm_LI, nm_LR, nm_LL, nm_LQ, nm_QI, nm_QR, nm_QL, nm_QQ, nm_rr, nm_ii, nm_eqm, not_false_eq_true, pk_sub, nm_div, nm_shl, nm_shr, nm_ush, nm_or8, nm_or64, nm_or256, nm_m1, nm_m3, nm_m7, nm_m15, nm_m31, nm_m63, nm_m255, nm_m511, nm_m1023, nm_m2047, nm_m65535, Nat.reduceMod, Nat.reducePow, Nat.reduceAdd, Nat.reduceSub, Nat.reduceMul, nm_bo, nm_bi, nm_rc, nm_ic, nm_ri, nm_rl, nm_rq, nm_ql, nm_qi, nm_li, nm_us, nm_uu, nm_cp, nm_sa31, nm_sa7, nm_m127, nm_m2, nm_nz, nm_nzk, nm_eq32, nm_nzf, if_true, if_false, ↓reduceIte, if_pos, if_neg]
  by_cases g1 : v < nI 1
  · refine ⟨fun g => absurd g1 g.1, fun _ => ?_⟩
    have g1' := l1.mpr g1
    simp (disch := (first | assumption | decide | omega)) only [df_X16_open, df_X16_open_0, g1', inv, eq_self, Nat.reduceEqDiff, Nat.reduceLeDiff, nl_0, nl_2, nl_3, nl_4, nl_64, no_1, no_1024, pk_mul, nI_add, nm_ck, nI_clamp, nI_ltI, nI_leI, nI_eq, nb_b2, nb_b1, ↓nb_let, nm_z0, nm_z1, nb_II, nb_IR, nb_RI, nb_RR, nm_IL, nm_IQ, nm_RL, nm_RQ, nm_LI, nm_LR, nm_LL, nm_LQ, nm_QI, nm_QR, nm_QL, nm_QQ, nm_rr, nm_ii, nm_eqm, not_false_eq_true, pk_sub, nm_div, nm_shl, nm_shr, nm_ush, nm_or8, nm_or64, nm_or256, nm_m1, nm_m3, nm_m7, nm_m15, nm_m31, nm_m63, nm_m255, nm_m511, nm_m1023, nm_m2047, nm_m65535, Nat.reduceMod, Nat.reducePow, Nat.reduceAdd, Nat.reduceSub, Nat.reduceMul, nm_bo, nm_bi, nm_rc, nm_ic, nm_ri, nm_rl, nm_rq, nm_ql, nm_qi, nm_li, nm_us, nm_uu, nm_cp, nm_sa31, nm_sa7, nm_m127, nm_m2, nm_nz, nm_nzk, nm_eq32, nm_nzf, if_true, if_false, ↓reduceIte, if_pos, if_neg]
  by_cases g2 : nI 63 < v
  · refine ⟨fun g => absurd g2 g.2.1, fun _ => ?_⟩
    have g1' : ¬ v ≤ nI 0 := fun z => g1 (l1.mp z)
    have g2' := l2.mpr g2
    simp (disch := (first | assumption | decide | omega)) only [df_X16_open, df_X16_open_0, g1', g2', inv, eq_self, Nat.reduceEqDiff, Nat.reduceLeDiff, nl_0, nl_2, nl_3, nl_4, nl_64, no_1, no_1024, pk_mul, nI_add, nm_ck, nI_clamp, nI_ltI, nI_leI, nI_eq, nb_b2, nb_b1, ↓nb_let, nm_z0, nm_z1, nb_II, nb_IR, nb_RI, nb_RR, nm_IL, nm_IQ, nm_RL, nm_RQ, nm_LI, nm_LR, nm_LL, nm_LQ, nm_QI, nm_QR, nm_QL, nm_QQ, nm_rr, nm_ii, nm_eqm, not_false_eq_true, pk_sub, nm_div, nm_shl, nm_shr, nm_ush, nm_or8, nm_or64, nm_or256, nm_m1, nm_m3, nm_m7, nm_m15, nm_m31, nm_m63, nm_m255, nm_m511, nm_m1023, nm_m2047, nm_m65535, Nat.reduceMod, Nat.reducePow, Nat.reduceAdd, Nat.reduceSub, Nat.reduceMul, nm_bo, nm_bi, nm_rc, nm_ic, nm_ri, nm_rl, nm_rq, nm_ql, nm_qi, nm_li, nm_us, nm_uu, nm_cp, nm_sa31, nm_sa7, nm_m127, nm_m2, nm_nz, nm_nzk, nm_eq32, nm_nzf, if_true, if_false, ↓reduceIte, if_pos, if_neg]
  have g1' : ¬ v ≤ nI 0 := fun z => g1 (l1.mp z)
  have g2' : ¬ nI 64 ≤ v := fun z => g2 (l2.mp z)
  have hH : ∃ H : Nat, H < 64 ∧ v = nI H := by
    rcases sg_cases v with ⟨_, z⟩ | ⟨A, hA, z⟩
    · exact absurd z g1
    · refine ⟨A, ?_, z⟩
      rw [z, nI_leI (by omega) hA] at g2'
      omega
  obtain ⟨H, hH, eH⟩ := hH
  obtain ⟨b2, b3, b8, b16, b32⟩ := ob_le ⟨H, hH⟩
  have b2 : v &&& nI 2 ≤ nI 0 ↔ v &&& nI 2 = nI 0 := by rw [eH]; exact b2
  have b3 : v &&& nI 3 ≤ nI 0 ↔ v &&& nI 3 = nI 0 := by rw [eH]; exact b3
  have b8 : v &&& nI 8 ≤ nI 0 ↔ v &&& nI 8 = nI 0 := by rw [eH]; exact b8
  have o42 : ∀ s : St × St, ((v &&& nI 32 = nI 0 ∨ ¬ v &&& nI 2 = nI 0) → df_X16_open_42 n x1 v s = df_X16_open_60 n x1 v (nI 1) s) ∧ (¬ (v &&& nI 32 = nI 0 ∨ ¬ v &&& nI 2 = nI 0) → df_X16_open_42 n x1 v s = some (-nI 22, s)) := fun s => by
    by_cases a : v &&& nI 32 = nI 0
    · exact ⟨fun _ => by simp (disch := (first | assumption | decide | omega)) only [df_X16_open_42, df_X16_open_55, a, eq_self, Nat.reduceEqDiff, Nat.reduceLeDiff, nl_0, nl_1, nl_2, nl_32, no_1, no_1024, pk_mul, nI_add, nm_ck, nI_clamp, nI_ltI, nI_leI, nI_eq, nb_b2, nb_b1, ↓nb_let, nm_z0, nm_z1, nb_II, nb_IR, nb_RI, nb_RR, nm_IL, nm_IQ, nm_RL, nm_RQ, nm_LI, nm_LR, nm_LL, nm_LQ, nm_QI, nm_QR, nm_QL, nm_QQ, nm_rr, nm_ii, nm_eqm, not_false_eq_true, pk_sub, nm_div, nm_shl, nm_shr, nm_ush, nm_or8, nm_or64, nm_or256, nm_m1, nm_m3, nm_m7, nm_m15, nm_m31, nm_m63, nm_m255, nm_m511, nm_m1023, nm_m2047, nm_m65535, Nat.reduceMod, Nat.reducePow, Nat.reduceAdd, Nat.reduceSub, Nat.reduceMul, nm_bo, nm_bi, nm_rc, nm_ic, nm_ri, nm_rl, nm_rq, nm_ql, nm_qi, nm_li, nm_us, nm_uu, nm_cp, nm_sa31, nm_sa7, nm_m127, nm_m2, nm_nz, nm_nzk, nm_eq32, nm_nzf, if_true, if_false, ↓reduceIte, if_pos, if_neg], fun z => absurd (Or.inl a) z⟩
    · by_cases b : v &&& nI 2 = nI 0
      · have b' := b2.mpr b
        exact ⟨fun z => by rcases z with z | z; exact absurd z a; exact absurd b z, fun _ => by simp (disch := (first | assumption | decide | omega)) only [df_X16_open_42, a, b', inv, eq_self, Nat.reduceEqDiff, Nat.reduceLeDiff, nl_0, nl_2, nl_32, no_1, no_1024, pk_mul, nI_add, nm_ck, nI_clamp, nI_ltI, nI_leI, nI_eq, nb_b2, nb_b1, ↓nb_let, nm_z0, nm_z1, nb_II, nb_IR, nb_RI, nb_RR, nm_IL, nm_IQ, nm_RL, nm_RQ, nm_LI, nm_LR, nm_LL, nm_LQ, nm_QI, nm_QR, nm_QL, nm_QQ, nm_rr, nm_ii, nm_eqm, not_false_eq_true, pk_sub, nm_div, nm_shl, nm_shr, nm_ush, nm_or8, nm_or64, nm_or256, nm_m1, nm_m3, nm_m7, nm_m15, nm_m31, nm_m63, nm_m255, nm_m511, nm_m1023, nm_m2047, nm_m65535, Nat.reduceMod, Nat.reducePow, Nat.reduceAdd, Nat.reduceSub, Nat.reduceMul, nm_bo, nm_bi, nm_rc, nm_ic, nm_ri, nm_rl, nm_rq, nm_ql, nm_qi, nm_li, nm_us, nm_uu, nm_cp, nm_sa31, nm_sa7, nm_m127, nm_m2, nm_nz, nm_nzk, nm_eq32, nm_nzf, if_true, if_false, ↓reduceIte, if_pos, if_neg]⟩
      · have b' : ¬ v &&& nI 2 ≤ nI 0 := fun z => b (b2.mp z)
        exact ⟨fun _ => by simp (disch := (first | assumption | decide | omega)) only [df_X16_open_42, df_X16_open_55, a, b', eq_self, Nat.reduceEqDiff, Nat.reduceLeDiff, nl_0, nl_1, nl_2, nl_32, no_1, no_1024, pk_mul, nI_add, nm_ck, nI_clamp, nI_ltI, nI_leI, nI_eq, nb_b2, nb_b1, ↓nb_let, nm_z0, nm_z1, nb_II, nb_IR, nb_RI, nb_RR, nm_IL, nm_IQ, nm_RL, nm_RQ, nm_LI, nm_LR, nm_LL, nm_LQ, nm_QI, nm_QR, nm_QL, nm_QQ, nm_rr, nm_ii, nm_eqm, not_false_eq_true, pk_sub, nm_div, nm_shl, nm_shr, nm_ush, nm_or8, nm_or64, nm_or256, nm_m1, nm_m3, nm_m7, nm_m15, nm_m31, nm_m63, nm_m255, nm_m511, nm_m1023, nm_m2047, nm_m65535, Nat.reduceMod, Nat.reducePow, Nat.reduceAdd, Nat.reduceSub, Nat.reduceMul, nm_bo, nm_bi, nm_rc, nm_ic, nm_ri, nm_rl, nm_rq, nm_ql, nm_qi, nm_li, nm_us, nm_uu, nm_cp, nm_sa31, nm_sa7, nm_m127, nm_m2, nm_nz, nm_nzk, nm_eq32, nm_nzf, if_true, if_false, ↓reduceIte, if_pos, if_neg], fun z => absurd (Or.inr b) z⟩
  have o28 : ∀ s : St × St, ((v &&& nI 16 = nI 0 ∨ ¬ v &&& nI 8 = nI 0) → df_X16_open_28 n x1 v s = df_X16_open_42 n x1 v s) ∧ (¬ (v &&& nI 16 = nI 0 ∨ ¬ v &&& nI 8 = nI 0) → df_X16_open_28 n x1 v s = some (-nI 22, s)) := fun s => by
    by_cases a : v &&& nI 16 = nI 0
    · exact ⟨fun _ => by simp (disch := (first | assumption | decide | omega)) only [df_X16_open_28, a, eq_self, Nat.reduceEqDiff, Nat.reduceLeDiff, nl_0, nl_8, nl_16, no_1, no_1024, pk_mul, nI_add, nm_ck, nI_clamp, nI_ltI, nI_leI, nI_eq, nb_b2, nb_b1, ↓nb_let, nm_z0, nm_z1, nb_II, nb_IR, nb_RI, nb_RR, nm_IL, nm_IQ, nm_RL, nm_RQ, nm_LI, nm_LR, nm_LL, nm_LQ, nm_QI, nm_QR, nm_QL, nm_QQ, nm_rr, nm_ii, nm_eqm, not_false_eq_true, pk_sub, nm_div, nm_shl, nm_shr, nm_ush, nm_or8, nm_or64, nm_or256, nm_m1, nm_m3, nm_m7, nm_m15, nm_m31, nm_m63, nm_m255, nm_m511, nm_m1023, nm_m2047, nm_m65535, Nat.reduceMod, Nat.reducePow, Nat.reduceAdd, Nat.reduceSub, Nat.reduceMul, nm_bo, nm_bi, nm_rc, nm_ic, nm_ri, nm_rl, nm_rq, nm_ql, nm_qi, nm_li, nm_us, nm_uu, nm_cp, nm_sa31, nm_sa7, nm_m127, nm_m2, nm_nz, nm_nzk, nm_eq32, nm_nzf, if_true, if_false, ↓reduceIte, if_pos, if_neg], fun z => absurd (Or.inl a) z⟩
    · by_cases b : v &&& nI 8 = nI 0
      · have b' := b8.mpr b
        exact ⟨fun z => by rcases z with z | z; exact absurd z a; exact absurd b z, fun _ => by simp (disch := (first | assumption | decide | omega)) only [df_X16_open_28, a, b', inv, eq_self, Nat.reduceEqDiff, Nat.reduceLeDiff, nl_0, nl_8, nl_16, no_1, no_1024, pk_mul, nI_add, nm_ck, nI_clamp, nI_ltI, nI_leI, nI_eq, nb_b2, nb_b1, ↓nb_let, nm_z0, nm_z1, nb_II, nb_IR, nb_RI, nb_RR, nm_IL, nm_IQ, nm_RL, nm_RQ, nm_LI, nm_LR, nm_LL, nm_LQ, nm_QI, nm_QR, nm_QL, nm_QQ, nm_rr, nm_ii, nm_eqm, not_false_eq_true, pk_sub, nm_div, nm_shl, nm_shr, nm_ush, nm_or8, nm_or64, nm_or256, nm_m1, nm_m3, nm_m7, nm_m15, nm_m31, nm_m63, nm_m255, nm_m511, nm_m1023, nm_m2047, nm_m65535, Nat.reduceMod, Nat.reducePow, Nat.reduceAdd, Nat.reduceSub, Nat.reduceMul, nm_bo, nm_bi, nm_rc, nm_ic, nm_ri, nm_rl, nm_rq, nm_ql, nm_qi, nm_li, nm_us, nm_uu, nm_cp, nm_sa31, nm_sa7, nm_m127, nm_m2, nm_nz, nm_nzk, nm_eq32, nm_nzf, if_true, if_false, ↓reduceIte, if_pos, if_neg]⟩
      · have b' : ¬ v &&& nI 8 ≤ nI 0 := fun z => b (b8.mp z)
        exact ⟨fun _ => by simp (disch := (first | assumption | decide | omega)) only [df_X16_open_28, a, b', eq_self, Nat.reduceEqDiff, Nat.reduceLeDiff, nl_0, nl_8, nl_16, no_1, no_1024, pk_mul, nI_add, nm_ck, nI_clamp, nI_ltI, nI_leI, nI_eq, nb_b2, nb_b1, ↓nb_let, nm_z0, nm_z1, nb_II, nb_IR, nb_RI, nb_RR, nm_IL, nm_IQ, nm_RL, nm_RQ, nm_LI, nm_LR, nm_LL, nm_LQ, nm_QI, nm_QR, nm_QL, nm_QQ, nm_rr, nm_ii, nm_eqm, not_false_eq_true, pk_sub, nm_div, nm_shl, nm_shr, nm_ush, nm_or8, nm_or64, nm_or256, nm_m1, nm_m3, nm_m7, nm_m15, nm_m31, nm_m63, nm_m255, nm_m511, nm_m1023, nm_m2047, nm_m65535, Nat.reduceMod, Nat.reducePow, Nat.reduceAdd, Nat.reduceSub, Nat.reduceMul, nm_bo, nm_bi, nm_rc, nm_ic, nm_ri, nm_rl, nm_rq, nm_ql, nm_qi, nm_li, nm_us, nm_uu, nm_cp, nm_sa31, nm_sa7, nm_m127, nm_m2, nm_nz, nm_nzk, nm_eq32, nm_nzf, if_true, if_false, ↓reduceIte, if_pos, if_neg], fun z => absurd (Or.inr b) z⟩
  by_cases g3 : v &&& nI 3 = nI 0
  · refine ⟨fun g => absurd g3 g.2.2.1, fun _ => ?_⟩
    have g3' := b3.mpr g3
    simp (disch := (first | assumption | decide | omega)) only [df_X16_open, df_X16_open_0, g1', g2', g3', inv, eq_self, Nat.reduceEqDiff, Nat.reduceLeDiff, nl_0, nl_2, nl_3, nl_4, nl_64, no_1, no_1024, pk_mul, nI_add, nm_ck, nI_clamp, nI_ltI, nI_leI, nI_eq, nb_b2, nb_b1, ↓nb_let, nm_z0, nm_z1, nb_II, nb_IR, nb_RI, nb_RR, nm_IL, nm_IQ, nm_RL, nm_RQ, nm_LI, nm_LR, nm_LL, nm_LQ, nm_QI, nm_QR, nm_QL, nm_QQ, nm_rr, nm_ii, nm_eqm, not_false_eq_true, pk_sub, nm_div, nm_shl, nm_shr, nm_ush, nm_or8, nm_or64, nm_or256, nm_m1, nm_m3, nm_m7, nm_m15, nm_m31, nm_m63, nm_m255, nm_m511, nm_m1023, nm_m2047, nm_m65535, Nat.reduceMod, Nat.reducePow, Nat.reduceAdd, Nat.reduceSub, Nat.reduceMul, nm_bo, nm_bi, nm_rc, nm_ic, nm_ri, nm_rl, nm_rq, nm_ql, nm_qi, nm_li, nm_us, nm_uu, nm_cp, nm_sa31, nm_sa7, nm_m127, nm_m2, nm_nz, nm_nzk, nm_eq32, nm_nzf, if_true, if_false, ↓reduceIte, if_pos, if_neg]
  have g3' : ¬ v &&& nI 3 ≤ nI 0 := fun z => g3 (b3.mp z)
  have o0 : ((v &&& nI 4 = nI 0 ∨ ¬ v &&& nI 2 = nI 0) → df_X16_open n x1 v s = df_X16_open_28 n x1 v s) ∧ (¬ (v &&& nI 4 = nI 0 ∨ ¬ v &&& nI 2 = nI 0) → df_X16_open n x1 v s = some (-nI 22, s)) := by
    by_cases a : v &&& nI 4 = nI 0
    · exact ⟨fun _ => by simp (disch := (first | assumption | decide | omega)) only [df_X16_open, df_X16_open_0, g1', g2', g3', a, eq_self, Nat.reduceEqDiff, Nat.reduceLeDiff, nl_0, nl_2, nl_3, nl_4, nl_64, no_1, no_1024, pk_mul, nI_add, nm_ck, nI_clamp, nI_ltI, nI_leI, nI_eq, nb_b2, nb_b1, ↓nb_let, nm_z0, nm_z1, nb_II, nb_IR, nb_RI, nb_RR, nm_IL, nm_IQ, nm_RL, nm_RQ, nm_LI, nm_LR, nm_LL, nm_LQ, nm_QI, nm_QR, nm_QL, nm_QQ, nm_rr, nm_ii, nm_eqm, not_false_eq_true, pk_sub, nm_div, nm_shl, nm_shr, nm_ush, nm_or8, nm_or64, nm_or256, nm_m1, nm_m3, nm_m7, nm_m15, nm_m31, nm_m63, nm_m255, nm_m511, nm_m1023, nm_m2047, nm_m65535, Nat.reduceMod, Nat.reducePow, Nat.reduceAdd, Nat.reduceSub, Nat.reduceMul, nm_bo, nm_bi, nm_rc, nm_ic, nm_ri, nm_rl, nm_rq, nm_ql, nm_qi, nm_li, nm_us, nm_uu, nm_cp, nm_sa31, nm_sa7, nm_m127, nm_m2, nm_nz, nm_nzk, nm_eq32, nm_nzf, if_true, if_false, ↓reduceIte, if_pos, if_neg], fun z => absurd (Or.inl a) z⟩
    · by_cases b : v &&& nI 2 = nI 0
      · have b' := b2.mpr b
        exact ⟨fun z => by rcases z with z | z; exact absurd z a; exact absurd b z, fun _ => by simp (disch := (first | assumption | decide | omega)) only [df_X16_open, df_X16_open_0, g1', g2', g3', a, b', inv, eq_self, Nat.reduceEqDiff, Nat.reduceLeDiff, nl_0, nl_2, nl_3, nl_4, nl_64, no_1, no_1024, pk_mul, nI_add, nm_ck, nI_clamp, nI_ltI, nI_leI, nI_eq, nb_b2, nb_b1, ↓nb_let, nm_z0, nm_z1, nb_II, nb_IR, nb_RI, nb_RR, nm_IL, nm_IQ, nm_RL, nm_RQ, nm_LI, nm_LR, nm_LL, nm_LQ, nm_QI, nm_QR, nm_QL, nm_QQ, nm_rr, nm_ii, nm_eqm, not_false_eq_true, pk_sub, nm_div, nm_shl, nm_shr, nm_ush, nm_or8, nm_or64, nm_or256, nm_m1, nm_m3, nm_m7, nm_m15, nm_m31, nm_m63, nm_m255, nm_m511, nm_m1023, nm_m2047, nm_m65535, Nat.reduceMod, Nat.reducePow, Nat.reduceAdd, Nat.reduceSub, Nat.reduceMul, nm_bo, nm_bi, nm_rc, nm_ic, nm_ri, nm_rl, nm_rq, nm_ql, nm_qi, nm_li, nm_us, nm_uu, nm_cp, nm_sa31, nm_sa7, nm_m127, nm_m2, nm_nz, nm_nzk, nm_eq32, nm_nzf, if_true, if_false, ↓reduceIte, if_pos, if_neg]⟩
      · have b' : ¬ v &&& nI 2 ≤ nI 0 := fun z => b (b2.mp z)
        exact ⟨fun _ => by simp (disch := (first | assumption | decide | omega)) only [df_X16_open, df_X16_open_0, g1', g2', g3', a, b', eq_self, Nat.reduceEqDiff, Nat.reduceLeDiff, nl_0, nl_2, nl_3, nl_4, nl_64, no_1, no_1024, pk_mul, nI_add, nm_ck, nI_clamp, nI_ltI, nI_leI, nI_eq, nb_b2, nb_b1, ↓nb_let, nm_z0, nm_z1, nb_II, nb_IR, nb_RI, nb_RR, nm_IL, nm_IQ, nm_RL, nm_RQ, nm_LI, nm_LR, nm_LL, nm_LQ, nm_QI, nm_QR, nm_QL, nm_QQ, nm_rr, nm_ii, nm_eqm, not_false_eq_true, pk_sub, nm_div, nm_shl, nm_shr, nm_ush, nm_or8, nm_or64, nm_or256, nm_m1, nm_m3, nm_m7, nm_m15, nm_m31, nm_m63, nm_m255, nm_m511, nm_m1023, nm_m2047, nm_m65535, Nat.reduceMod, Nat.reducePow, Nat.reduceAdd, Nat.reduceSub, Nat.reduceMul, nm_bo, nm_bi, nm_rc, nm_ic, nm_ri, nm_rl, nm_rq, nm_ql, nm_qi, nm_li, nm_us, nm_uu, nm_cp, nm_sa31, nm_sa7, nm_m127, nm_m2, nm_nz, nm_nzk, nm_eq32, nm_nzf, if_true, if_false, ↓reduceIte, if_pos, if_neg], fun z => absurd (Or.inr b) z⟩
  refine ⟨fun ⟨_, _, _, g4, g5, g6⟩ => ⟨H, hH, eH, ?_⟩, fun g => ?_⟩
  · rw [o0.1 g4, (o28 s).1 g5, (o42 s).1 g6]
  · by_cases g4 : v &&& nI 4 = nI 0 ∨ ¬ v &&& nI 2 = nI 0
    · rw [o0.1 g4]
      by_cases g5 : v &&& nI 16 = nI 0 ∨ ¬ v &&& nI 8 = nI 0
      · rw [(o28 s).1 g5]
        by_cases g6 : v &&& nI 32 = nI 0 ∨ ¬ v &&& nI 2 = nI 0
        · exact absurd ⟨g1, g2, g3, g4, g5, g6⟩ g
        · exact (o42 s).2 g6
      · exact (o28 s).2 g5
    · exact o0.2 g4

