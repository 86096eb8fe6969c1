theorem lc_0 (z : Int64) : lg_cmp z 0 < nI 0 ↔ z.toInt < 0 := by
  have e0 : (0 : Int64).toInt = 0 := by decide
  unfold lg_cmp
  by_cases c : (0 : Int64) < z
  · rw [if_pos c]
    rw [Int64.lt_iff_toInt_lt] at c
    exact ⟨fun y => absurd y (by decide), fun y => by omega⟩
  · rw [if_neg c]
    rw [Int64.lt_iff_toInt_lt] at c
    by_cases d : z = 0
    · rw [if_pos d, d]
      exact ⟨fun y => absurd y (by decide), fun y => absurd y (by decide)⟩
    · rw [if_neg d]
      have : z.toInt ≠ 0 := fun y => d (Int64.toInt_inj.mp (by omega))
      exact ⟨fun _ => by omega, fun _ => by decide⟩
theorem lc_512 (z : Int64) : lg_cmp z 512 ≤ nI 0 ↔ z.toInt ≤ 512 := by
  have e0 : (512 : Int64).toInt = 512 := by decide
  unfold lg_cmp
  by_cases c : (512 : Int64) < z
  · rw [if_pos c]
    rw [Int64.lt_iff_toInt_lt] at c
    exact ⟨fun y => absurd y (by decide), fun y => by omega⟩
  · rw [if_neg c]
    rw [Int64.lt_iff_toInt_lt] at c
    by_cases d : z = 512
    · rw [if_pos d, d]
      exact ⟨fun y => by decide, fun y => by decide⟩
    · rw [if_neg d]
      exact ⟨fun _ => by omega, fun _ => by decide⟩
theorem lc_sm {z : Int64} (h0 : ¬ z.toInt < 0) (h1 : z.toInt ≤ 512) : ∃ k : Nat, k ≤ 512 ∧ z.toInt32 = nI k ∧ z = z.toInt32.toInt64 := by
  have e : z.toInt32.toInt = z.toInt := by
    rw [Int64.toInt_toInt32]
    exact Int.bmod_eq_of_le (by omega) (by omega)
  refine ⟨z.toInt.toNat, by omega, ?_, ?_⟩
  · apply Int32.toInt_inj.mp
    rw [e, nI_toInt (by omega)]
    omega
  · apply Int64.toInt_inj.mp
    rw [Int32.toInt_toInt64, e]
theorem rD_seek {l op pi fi de kd th po rt ip isf nam : Nat → Int32} (h : rD l op pi fi de kd th po rt ip isf nam) {o x : Nat} (ho : o < 48) (hx : x ≤ 512) (hk : kd o = nI 3) : rD l (upd op (o * 5 + 3) (nI x)) pi fi de kd th (upd po o (nI x)) rt ip isf nam := by
  obtain ⟨h1, h2, h3, h4⟩ := h
  refine ⟨h1, fun j hj => ?_, h3, h4⟩
  rw [nm_un (show j * 5 ≠ o * 5 + 3 by omega), nm_un (show j * 5 + 1 ≠ o * 5 + 3 by omega), nm_un (show j * 5 + 2 ≠ o * 5 + 3 by omega), nm_un (show j * 5 + 4 ≠ o * 5 + 3 by omega)]
  by_cases c : j = o
  · subst c
    rcases h2 j hj with z | ⟨k, t, y1, y2, y3, y4, y5, y6, y7, y8, y9, y10, y11, y12, y13, y14, y15⟩
    · exact Or.inl z
    · right
      have k3 : k = 3 := nm_inI (by omega) (by omega) (y4.symm.trans hk)
      rw [nm_us, nm_us]
      exact ⟨k, t, y1, y2, y3, y4, y5, y6, y7, y8, y9, y10, y11, fun _ => rfl, fun z => absurd k3 z, y14, fun _ => ⟨x, hx, rfl⟩⟩
  · rw [nm_un (show j * 5 + 3 ≠ o * 5 + 3 by omega), nm_un c]
    exact h2 j hj
/-- the kernel's call 'seek' -/
theorem nq_seek (n : Nat) {B p : Nat} {K : St × (St × (St × St))} {X : St × St} (h : cP B p K X) (a b c : Int32) : cO B p K X (df_X5_seek n (nI p) a b c K) (df_X16_seek n a b c X) := by
  obtain ⟨h1, h2, h3, h4, h5, h6, h7⟩ := id h
  obtain ⟨m1, m2, m3, m4, m5, m6, m7⟩ := id h1
  have inv : df_X5_seek n (nI p) a b c K = some (-22, K) → df_X16_seek n a b c X = some (-nI 22, X) → cO B p K X (df_X5_seek n (nI p) a b c K) (df_X16_seek n a b c X) := fun e1 e2 => by
    rw [e1, e2]
    exact cO_id h (by decide)
  have bad : df_X5_seek n (nI p) a b c K = some (-1, K) → df_X16_seek n a b c X = some (-nI 1, X) → cO B p K X (df_X5_seek n (nI p) a b c K) (df_X16_seek n a b c X) := fun e1 e2 => by
    rw [e1, e2]
    exact cO_id h (by decide)
  rcases sg_cases c with ⟨z, _⟩ | ⟨A, hA, z⟩
  · exact inv (by simp (disch := (first | assumption | decide | omega)) only [df_X5_seek_11, df_X5_seek_45, df_X5_seek_109, df_X5_seek_93, df_X5_seek_90, df_X5_seek_0, df_X5_seek, z, eq_self, Nat.reduceEqDiff, Nat.reduceLeDiff, nl_0, nl_1, nl_2, nl_3, nl_22, nl_512, no_1, no_1024, pk_mul, nI_add, nm_ck, nI_clamp, nI_ltI, nI_leI, nI_eq, nb_b2, nb_b1, ↓nb_let, nm_z0, nm_z1, nb_II, nb_IR, nb_RI, nb_RR, nm_IL, nm_IQ, nm_RL, nm_RQ, nm_LI, nm_LR, nm_LL, nm_LQ, nm_QI, nm_QR, nm_QL, nm_QQ, nm_rr, nm_ii, nm_eqm, not_false_eq_true, pk_sub, nm_div, nm_shl, nm_shr, nm_ush, nm_or8, nm_or64, nm_or256, nm_m1, nm_m3, nm_m7, nm_m15, nm_m31, nm_m63, nm_m255, nm_m511, nm_m1023, nm_m2047, nm_m65535, Nat.reduceMod, Nat.reducePow, Nat.reduceAdd, Nat.reduceSub, Nat.reduceMul, nm_bo, nm_bi, nm_rc, nm_ic, nm_ri, nm_rl, nm_rq, nm_ql, nm_qi, nm_li, nm_us, nm_uu, nm_cp, nm_sa31, nm_sa7, nm_m127, nm_m2, nm_nz, nm_nzk, nm_eq32, nm_nzf, if_true, if_false, ↓reduceIte, if_pos, if_neg]) (by simp (disch := (first | assumption | decide | omega)) only [df_X16_seek_9, df_X16_seek_40, df_X16_seek_100, df_X16_seek_79, df_X16_seek_0, df_X16_seek, z, eq_self, Nat.reduceEqDiff, Nat.reduceLeDiff, nl_0, nl_1, nl_2, nl_3, nl_12, nl_16, nl_19, nl_20, nl_21, nl_22, nl_28, nl_48, nl_512, no_1, no_1024, pk_mul, nI_add, nm_ck, nI_clamp, nI_ltI, nI_leI, nI_eq, nb_b2, nb_b1, ↓nb_let, nm_z0, nm_z1, nb_II, nb_IR, nb_RI, nb_RR, nm_IL, nm_IQ, nm_RL, nm_RQ, nm_LI, nm_LR, nm_LL, nm_LQ, nm_QI, nm_QR, nm_QL, nm_QQ, nm_rr, nm_ii, nm_eqm, not_false_eq_true, pk_sub, nm_div, nm_shl, nm_shr, nm_ush, nm_or8, nm_or64, nm_or256, nm_m1, nm_m3, nm_m7, nm_m15, nm_m31, nm_m63, nm_m255, nm_m511, nm_m1023, nm_m2047, nm_m65535, Nat.reduceMod, Nat.reducePow, Nat.reduceAdd, Nat.reduceSub, Nat.reduceMul, nm_bo, nm_bi, nm_rc, nm_ic, nm_ri, nm_rl, nm_rq, nm_ql, nm_qi, nm_li, nm_us, nm_uu, nm_cp, nm_sa31, nm_sa7, nm_m127, nm_m2, nm_nz, nm_nzk, nm_eq32, nm_nzf, if_true, if_false, ↓reduceIte, if_pos, if_neg])
  · subst z
    have A0 : ¬ A < 0 := by omega
    by_cases A2 : A ≤ 2
    · rcases nk_opening n m2 h2 a with ⟨o1, o2, _⟩ | ⟨d, o, hd, ho, ed, de, kn, o1, o2⟩
      · exact bad (by simp (disch := (first | assumption | decide | omega)) only [df_X5_seek_11, df_X5_seek_45, df_X5_seek_109, df_X5_seek_93, df_X5_seek_90, df_X5_seek_0, df_X5_seek, A0, A2, o1, nm_ltm, eq_self, Nat.reduceEqDiff, Nat.reduceLeDiff, nl_0, nl_1, nl_2, nl_3, nl_22, nl_512, no_1, no_1024, pk_mul, nI_add, nm_ck, nI_clamp, nI_ltI, nI_leI, nI_eq, nb_b2, nb_b1, ↓nb_let, nm_z0, nm_z1, nb_II, nb_IR, nb_RI, nb_RR, nm_IL, nm_IQ, nm_RL, nm_RQ, nm_LI, nm_LR, nm_LL, nm_LQ, nm_QI, nm_QR, nm_QL, nm_QQ, nm_rr, nm_ii, nm_eqm, not_false_eq_true, pk_sub, nm_div, nm_shl, nm_shr, nm_ush, nm_or8, nm_or64, nm_or256, nm_m1, nm_m3, nm_m7, nm_m15, nm_m31, nm_m63, nm_m255, nm_m511, nm_m1023, nm_m2047, nm_m65535, Nat.reduceMod, Nat.reducePow, Nat.reduceAdd, Nat.reduceSub, Nat.reduceMul, nm_bo, nm_bi, nm_rc, nm_ic, nm_ri, nm_rl, nm_rq, nm_ql, nm_qi, nm_li, nm_us, nm_uu, nm_cp, nm_sa31, nm_sa7, nm_m127, nm_m2, nm_nz, nm_nzk, nm_eq32, nm_nzf, if_true, if_false, ↓reduceIte, if_pos, if_neg]) (by simp (disch := (first | assumption | decide | omega)) only [df_X16_seek_9, df_X16_seek_40, df_X16_seek_100, df_X16_seek_79, df_X16_seek_0, df_X16_seek, A0, A2, h3, o2, eq_self, Nat.reduceEqDiff, Nat.reduceLeDiff, nl_0, nl_1, nl_2, nl_3, nl_12, nl_16, nl_19, nl_20, nl_21, nl_22, nl_28, nl_48, nl_512, no_1, no_1024, pk_mul, nI_add, nm_ck, nI_clamp, nI_ltI, nI_leI, nI_eq, nb_b2, nb_b1, ↓nb_let, nm_z0, nm_z1, nb_II, nb_IR, nb_RI, nb_RR, nm_IL, nm_IQ, nm_RL, nm_RQ, nm_LI, nm_LR, nm_LL, nm_LQ, nm_QI, nm_QR, nm_QL, nm_QQ, nm_rr, nm_ii, nm_eqm, not_false_eq_true, pk_sub, nm_div, nm_shl, nm_shr, nm_ush, nm_or8, nm_or64, nm_or256, nm_m1, nm_m3, nm_m7, nm_m15, nm_m31, nm_m63, nm_m255, nm_m511, nm_m1023, nm_m2047, nm_m65535, Nat.reduceMod, Nat.reducePow, Nat.reduceAdd, Nat.reduceSub, Nat.reduceMul, nm_bo, nm_bi, nm_rc, nm_ic, nm_ri, nm_rl, nm_rq, nm_ql, nm_qi, nm_li, nm_us, nm_uu, nm_cp, nm_sa31, nm_sa7, nm_m127, nm_m2, nm_nz, nm_nzk, nm_eq32, nm_nzf, if_true, if_false, ↓reduceIte, if_pos, if_neg])
      · have u1 : ¬ o < 0 := by omega
        have u2 : o < 2 ^ 31 := by omega
        have u3 : o * 5 < 240 := by omega
        have u4 : o * 5 < 2 ^ 31 := by omega
        have u5 : o * 5 + 3 < 240 := by omega
        have u6 : o * 5 + 3 < 2 ^ 31 := by omega
        have u7 : o * 5 + 2 < 240 := by omega
        have u8 : o * 5 + 2 < 2 ^ 31 := by omega
        rcases m2.2.1 o ho with ⟨z1, _⟩ | ⟨k, t, y1, y2, y3, y4, y5, y6, y7, y8, y9, y10, y11, y12, y13, y14, y15⟩
        · exact absurd z1 kn
        have u9 : k < 2 ^ 31 := by omega
        by_cases k3 : k = 3
        · subst k3
          have y12 := y12 rfl
          -- the end, with the place z
          have tail : ∀ z : Int64, cO B p K X (df_X5_seek_93 n (nI o) z K) (if lg_cmp z 0 < nI 0 then some (-nI 1, X) else if lg_cmp z 512 ≤ nI 0 then some (z.toInt32, (pR X.1 21 (upd (sR X.1 21) o z.toInt32), X.2)) else some (-nI 1, X)) := fun z => by
            by_cases c0 : z.toInt < 0
            · have c0' := (lc_0 z).mpr c0
              rw [if_pos c0']
              have e1 : df_X5_seek_93 n (nI o) z K = some (-1, K) := by simp (disch := (first | assumption | decide | omega)) only [df_X5_seek_93, df_X5_seek_109, c0', eq_self, Nat.reduceEqDiff, Nat.reduceLeDiff, nl_0, nl_1, nl_512, no_1, no_1024, pk_mul, nI_add, nm_ck, nI_clamp, nI_ltI, nI_leI, nI_eq, nb_b2, nb_b1, ↓nb_let, nm_z0, nm_z1, nb_II, nb_IR, nb_RI, nb_RR, nm_IL, nm_IQ, nm_RL, nm_RQ, nm_LI, nm_LR, nm_LL, nm_LQ, nm_QI, nm_QR, nm_QL, nm_QQ, nm_rr, nm_ii, nm_eqm, not_false_eq_true, pk_sub, nm_div, nm_shl, nm_shr, nm_ush, nm_or8, nm_or64, nm_or256, nm_m1, nm_m3, nm_m7, nm_m15, nm_m31, nm_m63, nm_m255, nm_m511, nm_m1023, nm_m2047, nm_m65535, Nat.reduceMod, Nat.reducePow, Nat.reduceAdd, Nat.reduceSub, Nat.reduceMul, nm_bo, nm_bi, nm_rc, nm_ic, nm_ri, nm_rl, nm_rq, nm_ql, nm_qi, nm_li, nm_us, nm_uu, nm_cp, nm_sa31, nm_sa7, nm_m127, nm_m2, nm_nz, nm_nzk, nm_eq32, nm_nzf, if_true, if_false, ↓reduceIte, if_pos, if_neg]
              rw [e1]
              exact cO_id h (by decide)
            · have c0' : ¬ lg_cmp z 0 < nI 0 := fun y => c0 ((lc_0 z).mp y)
              rw [if_neg c0']
              by_cases c1 : z.toInt ≤ 512
              · have c1' := (lc_512 z).mpr c1
                rw [if_pos c1']
                obtain ⟨x, hx, x1, x2⟩ := lc_sm c0 c1
                refine ⟨z, z.toInt32, K.1, (K.2.2.1, pR K.2.2.2 1 (upd (sR K.2.2.2 1) (o * 5 + 3) z.toInt32)), _, ?_, rfl, ⟨m1, ?_, m3, m4, m5, m6, m7⟩, fun _ => rfl, Or.inl ⟨h4, x2⟩, ⟨rfl, rfl, rfl, rfl, rfl⟩, Or.inl ⟨h6, h7⟩, fun _ => h5, fun y => absurd (h4.symm.trans y) (by decide)⟩
                · simp (disch := (first | assumption | decide | omega)) only [df_X5_seek_93, df_X10_seek_0, df_X10_seek, c0', c1', eq_self, Nat.reduceEqDiff, Nat.reduceLeDiff, nl_0, nl_1, nl_3, nl_5, nl_240, nl_512, no_1, no_1024, pk_mul, nI_add, nm_ck, nI_clamp, nI_ltI, nI_leI, nI_eq, nb_b2, nb_b1, ↓nb_let, nm_z0, nm_z1, nb_II, nb_IR, nb_RI, nb_RR, nm_IL, nm_IQ, nm_RL, nm_RQ, nm_LI, nm_LR, nm_LL, nm_LQ, nm_QI, nm_QR, nm_QL, nm_QQ, nm_rr, nm_ii, nm_eqm, not_false_eq_true, pk_sub, nm_div, nm_shl, nm_shr, nm_ush, nm_or8, nm_or64, nm_or256, nm_m1, nm_m3, nm_m7, nm_m15, nm_m31, nm_m63, nm_m255, nm_m511, nm_m1023, nm_m2047, nm_m65535, Nat.reduceMod, Nat.reducePow, Nat.reduceAdd, Nat.reduceSub, Nat.reduceMul, nm_bo, nm_bi, nm_rc, nm_ic, nm_ri, nm_rl, nm_rq, nm_ql, nm_qi, nm_li, nm_us, nm_uu, nm_cp, nm_sa31, nm_sa7, nm_m127, nm_m2, nm_nz, nm_nzk, nm_eq32, nm_nzf, if_true, if_false, ↓reduceIte, if_pos, if_neg]
                · rw [x1]
                  exact rD_seek m2 ho hx y4
              · have c1' : ¬ lg_cmp z 512 ≤ nI 0 := fun y => c1 ((lc_512 z).mp y)
                rw [if_neg c1']
                have e1 : df_X5_seek_93 n (nI o) z K = some (-1, K) := by simp (disch := (first | assumption | decide | omega)) only [df_X5_seek_93, df_X5_seek_109, c0', c1', eq_self, Nat.reduceEqDiff, Nat.reduceLeDiff, nl_0, nl_1, nl_512, no_1, no_1024, pk_mul, nI_add, nm_ck, nI_clamp, nI_ltI, nI_leI, nI_eq, nb_b2, nb_b1, ↓nb_let, nm_z0, nm_z1, nb_II, nb_IR, nb_RI, nb_RR, nm_IL, nm_IQ, nm_RL, nm_RQ, nm_LI, nm_LR, nm_LL, nm_LQ, nm_QI, nm_QR, nm_QL, nm_QQ, nm_rr, nm_ii, nm_eqm, not_false_eq_true, pk_sub, nm_div, nm_shl, nm_shr, nm_ush, nm_or8, nm_or64, nm_or256, nm_m1, nm_m3, nm_m7, nm_m15, nm_m31, nm_m63, nm_m255, nm_m511, nm_m1023, nm_m2047, nm_m65535, Nat.reduceMod, Nat.reducePow, Nat.reduceAdd, Nat.reduceSub, Nat.reduceMul, nm_bo, nm_bi, nm_rc, nm_ic, nm_ri, nm_rl, nm_rq, nm_ql, nm_qi, nm_li, nm_us, nm_uu, nm_cp, nm_sa31, nm_sa7, nm_m127, nm_m2, nm_nz, nm_nzk, nm_eq32, nm_nzf, if_true, if_false, ↓reduceIte, if_pos, if_neg]
                rw [e1]
                exact cO_id h (by decide)
          have t16 : t < 2 ^ 31 := by omega
          have ref : ∀ y0 : Int64, df_X16_seek_79 n b (nI o) y0 X = (if lg_cmp (y0 + b.toInt64) 0 < nI 0 then some (-nI 1, X) else if lg_cmp (y0 + b.toInt64) 512 ≤ nI 0 then some ((y0 + b.toInt64).toInt32, (pR X.1 21 (upd (sR X.1 21) o (y0 + b.toInt64).toInt32), X.2)) else some (-nI 1, X)) := fun y0 => by
            simp (disch := (first | assumption | decide | omega)) only [df_X16_seek_79, df_X16_seek_100, eq_self, Nat.reduceEqDiff, Nat.reduceLeDiff, nl_0, nl_1, nl_21, nl_48, nl_512, no_1, no_1024, pk_mul, nI_add, nm_ck, nI_clamp, nI_ltI, nI_leI, nI_eq, nb_b2, nb_b1, ↓nb_let, nm_z0, nm_z1, nb_II, nb_IR, nb_RI, nb_RR, nm_IL, nm_IQ, nm_RL, nm_RQ, nm_LI, nm_LR, nm_LL, nm_LQ, nm_QI, nm_QR, nm_QL, nm_QQ, nm_rr, nm_ii, nm_eqm, not_false_eq_true, pk_sub, nm_div, nm_shl, nm_shr, nm_ush, nm_or8, nm_or64, nm_or256, nm_m1, nm_m3, nm_m7, nm_m15, nm_m31, nm_m63, nm_m255, nm_m511, nm_m1023, nm_m2047, nm_m65535, Nat.reduceMod, Nat.reducePow, Nat.reduceAdd, Nat.reduceSub, Nat.reduceMul, nm_bo, nm_bi, nm_rc, nm_ic, nm_ri, nm_rl, nm_rq, nm_ql, nm_qi, nm_li, nm_us, nm_uu, nm_cp, nm_sa31, nm_sa7, nm_m127, nm_m2, nm_nz, nm_nzk, nm_eq32, nm_nzf, if_true, if_false, ↓reduceIte, if_pos, if_neg]
          have ca : A = 0 ∨ A = 1 ∨ A = 2 := by omega
          rcases ca with e | e | e
          · subst e
            have := tail b.toInt64
            have e1 : df_X5_seek n (nI p) a b (nI 0) K = df_X5_seek_93 n (nI o) b.toInt64 K := by
              simp (disch := (first | assumption | decide | omega)) only [df_X5_seek, df_X5_seek_0, df_X10_of_0, df_X10_of, o1, u1, Nat.add_zero, y5, eq_self, Nat.reduceEqDiff, Nat.reduceLeDiff, nl_0, nl_1, nl_2, nl_3, nl_5, nl_240, no_1, no_1024, pk_mul, nI_add, nm_ck, nI_clamp, nI_ltI, nI_leI, nI_eq, nb_b2, nb_b1, ↓nb_let, nm_z0, nm_z1, nb_II, nb_IR, nb_RI, nb_RR, nm_IL, nm_IQ, nm_RL, nm_RQ, nm_LI, nm_LR, nm_LL, nm_LQ, nm_QI, nm_QR, nm_QL, nm_QQ, nm_rr, nm_ii, nm_eqm, not_false_eq_true, pk_sub, nm_div, nm_shl, nm_shr, nm_ush, nm_or8, nm_or64, nm_or256, nm_m1, nm_m3, nm_m7, nm_m15, nm_m31, nm_m63, nm_m255, nm_m511, nm_m1023, nm_m2047, nm_m65535, Nat.reduceMod, Nat.reducePow, Nat.reduceAdd, Nat.reduceSub, Nat.reduceMul, nm_bo, nm_bi, nm_rc, nm_ic, nm_ri, nm_rl, nm_rq, nm_ql, nm_qi, nm_li, nm_us, nm_uu, nm_cp, nm_sa31, nm_sa7, nm_m127, nm_m2, nm_nz, nm_nzk, nm_eq32, nm_nzf, if_true, if_false, ↓reduceIte, if_pos, if_neg]
            have e2 : df_X16_seek n a b (nI 0) X = df_X16_seek_79 n b (nI o) 0 X := by
              simp (disch := (first | assumption | decide | omega)) only [df_X16_seek, df_X16_seek_0, h3, o2, y4, eq_self, Nat.reduceEqDiff, Nat.reduceLeDiff, nl_0, nl_1, nl_2, nl_3, nl_12, nl_16, nl_19, nl_20, nl_21, nl_28, nl_48, no_1, no_1024, pk_mul, nI_add, nm_ck, nI_clamp, nI_ltI, nI_leI, nI_eq, nb_b2, nb_b1, ↓nb_let, nm_z0, nm_z1, nb_II, nb_IR, nb_RI, nb_RR, nm_IL, nm_IQ, nm_RL, nm_RQ, nm_LI, nm_LR, nm_LL, nm_LQ, nm_QI, nm_QR, nm_QL, nm_QQ, nm_rr, nm_ii, nm_eqm, not_false_eq_true, pk_sub, nm_div, nm_shl, nm_shr, nm_ush, nm_or8, nm_or64, nm_or256, nm_m1, nm_m3, nm_m7, nm_m15, nm_m31, nm_m63, nm_m255, nm_m511, nm_m1023, nm_m2047, nm_m65535, Nat.reduceMod, Nat.reducePow, Nat.reduceAdd, Nat.reduceSub, Nat.reduceMul, nm_bo, nm_bi, nm_rc, nm_ic, nm_ri, nm_rl, nm_rq, nm_ql, nm_qi, nm_li, nm_us, nm_uu, nm_cp, nm_sa31, nm_sa7, nm_m127, nm_m2, nm_nz, nm_nzk, nm_eq32, nm_nzf, if_true, if_false, ↓reduceIte, if_pos, if_neg]
            rw [e1, e2, ref, Int64.zero_add]
            exact this
          · subst e
            have := tail ((sR X.1 21 o).toInt64 + b.toInt64)
            have e1 : df_X5_seek n (nI p) a b (nI 1) K = df_X5_seek_93 n (nI o) ((sR X.1 21 o).toInt64 + b.toInt64) K := by
              rw [Int64.add_comm]
              simp (disch := (first | assumption | decide | omega)) only [df_X5_seek, df_X5_seek_0, df_X5_seek_90, df_X10_of_0, df_X10_of, o1, u1, Nat.add_zero, y5, y12, eq_self, Nat.reduceEqDiff, Nat.reduceLeDiff, nl_0, nl_1, nl_2, nl_3, nl_5, nl_240, no_1, no_1024, pk_mul, nI_add, nm_ck, nI_clamp, nI_ltI, nI_leI, nI_eq, nb_b2, nb_b1, ↓nb_let, nm_z0, nm_z1, nb_II, nb_IR, nb_RI, nb_RR, nm_IL, nm_IQ, nm_RL, nm_RQ, nm_LI, nm_LR, nm_LL, nm_LQ, nm_QI, nm_QR, nm_QL, nm_QQ, nm_rr, nm_ii, nm_eqm, not_false_eq_true, pk_sub, nm_div, nm_shl, nm_shr, nm_ush, nm_or8, nm_or64, nm_or256, nm_m1, nm_m3, nm_m7, nm_m15, nm_m31, nm_m63, nm_m255, nm_m511, nm_m1023, nm_m2047, nm_m65535, Nat.reduceMod, Nat.reducePow, Nat.reduceAdd, Nat.reduceSub, Nat.reduceMul, nm_bo, nm_bi, nm_rc, nm_ic, nm_ri, nm_rl, nm_rq, nm_ql, nm_qi, nm_li, nm_us, nm_uu, nm_cp, nm_sa31, nm_sa7, nm_m127, nm_m2, nm_nz, nm_nzk, nm_eq32, nm_nzf, if_true, if_false, ↓reduceIte, if_pos, if_neg]
            have e2 : df_X16_seek n a b (nI 1) X = df_X16_seek_79 n b (nI o) (sR X.1 21 o).toInt64 X := by
              simp (disch := (first | assumption | decide | omega)) only [df_X16_seek, df_X16_seek_0, h3, o2, y4, eq_self, Nat.reduceEqDiff, Nat.reduceLeDiff, nl_0, nl_1, nl_2, nl_3, nl_12, nl_16, nl_19, nl_20, nl_21, nl_28, nl_48, no_1, no_1024, pk_mul, nI_add, nm_ck, nI_clamp, nI_ltI, nI_leI, nI_eq, nb_b2, nb_b1, ↓nb_let, nm_z0, nm_z1, nb_II, nb_IR, nb_RI, nb_RR, nm_IL, nm_IQ, nm_RL, nm_RQ, nm_LI, nm_LR, nm_LL, nm_LQ, nm_QI, nm_QR, nm_QL, nm_QQ, nm_rr, nm_ii, nm_eqm, not_false_eq_true, pk_sub, nm_div, nm_shl, nm_shr, nm_ush, nm_or8, nm_or64, nm_or256, nm_m1, nm_m3, nm_m7, nm_m15, nm_m31, nm_m63, nm_m255, nm_m511, nm_m1023, nm_m2047, nm_m65535, Nat.reduceMod, Nat.reducePow, Nat.reduceAdd, Nat.reduceSub, Nat.reduceMul, nm_bo, nm_bi, nm_rc, nm_ic, nm_ri, nm_rl, nm_rq, nm_ql, nm_qi, nm_li, nm_us, nm_uu, nm_cp, nm_sa31, nm_sa7, nm_m127, nm_m2, nm_nz, nm_nzk, nm_eq32, nm_nzf, if_true, if_false, ↓reduceIte, if_pos, if_neg]
            rw [e1, e2, ref]
            exact this
          · subst e
            have isf : sR X.1 24 t = nI 1 := by
              have x1 : 0 < cE (sR X.1 19) (sR X.1 20) 3 t := cN_p (P := fun j => decide (sR X.1 19 j = nI 3 ∧ sR X.1 20 j = nI t)) (i := o) (decide_eq_true ⟨y4, y7⟩) ho
              rw [(m2.2.2.2 t y10).2.2.2, decide_eq_true (Or.inr x1)]
              rfl
            obtain ⟨L, hL, l1, l2, _⟩ := m7.2.1 t y10 isf
            have u10 : t * 3 < 48 := by omega
            have u11 : t * 3 < 2 ^ 31 := by omega
            have := tail ((nI L).toInt64 + b.toInt64)
            have e1 : df_X5_seek n (nI p) a b (nI 2) K = df_X5_seek_93 n (nI o) ((nI L).toInt64 + b.toInt64) K := by
              rw [Int64.add_comm]
              simp (disch := (first | assumption | decide | omega)) only [df_X5_seek, df_X5_seek_0, df_X5_seek_90, df_X10_of_0, df_X10_of, df_X10_amount_60, df_X10_amount_0, df_X10_amount, o1, u1, Nat.add_zero, y5, y8, l1, eq_self, Nat.reduceEqDiff, Nat.reduceLeDiff, nl_0, nl_1, nl_2, nl_3, nl_4, nl_5, nl_32, nl_48, nl_240, no_1, no_1024, pk_mul, nI_add, nm_ck, nI_clamp, nI_ltI, nI_leI, nI_eq, nb_b2, nb_b1, ↓nb_let, nm_z0, nm_z1, nb_II, nb_IR, nb_RI, nb_RR, nm_IL, nm_IQ, nm_RL, nm_RQ, nm_LI, nm_LR, nm_LL, nm_LQ, nm_QI, nm_QR, nm_QL, nm_QQ, nm_rr, nm_ii, nm_eqm, not_false_eq_true, pk_sub, nm_div, nm_shl, nm_shr, nm_ush, nm_or8, nm_or64, nm_or256, nm_m1, nm_m3, nm_m7, nm_m15, nm_m31, nm_m63, nm_m255, nm_m511, nm_m1023, nm_m2047, nm_m65535, Nat.reduceMod, Nat.reducePow, Nat.reduceAdd, Nat.reduceSub, Nat.reduceMul, nm_bo, nm_bi, nm_rc, nm_ic, nm_ri, nm_rl, nm_rq, nm_ql, nm_qi, nm_li, nm_us, nm_uu, nm_cp, nm_sa31, nm_sa7, nm_m127, nm_m2, nm_nz, nm_nzk, nm_eq32, nm_nzf, if_true, if_false, ↓reduceIte, if_pos, if_neg]
            have e2 : df_X16_seek n a b (nI 2) X = df_X16_seek_79 n b (nI o) (nI L).toInt64 X := by
              simp (disch := (first | assumption | decide | omega)) only [df_X16_seek, df_X16_seek_0, h3, o2, y4, y7, l2, eq_self, Nat.reduceEqDiff, Nat.reduceLeDiff, nl_0, nl_1, nl_2, nl_3, nl_12, nl_16, nl_19, nl_20, nl_21, nl_28, nl_48, no_1, no_1024, pk_mul, nI_add, nm_ck, nI_clamp, nI_ltI, nI_leI, nI_eq, nb_b2, nb_b1, ↓nb_let, nm_z0, nm_z1, nb_II, nb_IR, nb_RI, nb_RR, nm_IL, nm_IQ, nm_RL, nm_RQ, nm_LI, nm_LR, nm_LL, nm_LQ, nm_QI, nm_QR, nm_QL, nm_QQ, nm_rr, nm_ii, nm_eqm, not_false_eq_true, pk_sub, nm_div, nm_shl, nm_shr, nm_ush, nm_or8, nm_or64, nm_or256, nm_m1, nm_m3, nm_m7, nm_m15, nm_m31, nm_m63, nm_m255, nm_m511, nm_m1023, nm_m2047, nm_m65535, Nat.reduceMod, Nat.reducePow, Nat.reduceAdd, Nat.reduceSub, Nat.reduceMul, nm_bo, nm_bi, nm_rc, nm_ic, nm_ri, nm_rl, nm_rq, nm_ql, nm_qi, nm_li, nm_us, nm_uu, nm_cp, nm_sa31, nm_sa7, nm_m127, nm_m2, nm_nz, nm_nzk, nm_eq32, nm_nzf, if_true, if_false, ↓reduceIte, if_pos, if_neg]
            rw [e1, e2, ref]
            exact this
        · exact bad (by simp (disch := (first | assumption | decide | omega)) only [df_X5_seek_11, df_X5_seek_45, df_X5_seek_109, df_X5_seek_93, df_X5_seek_90, df_X5_seek_0, df_X5_seek, df_X10_of_0, df_X10_of, A0, A2, o1, u1, Nat.add_zero, y5, k3, eq_self, Nat.reduceEqDiff, Nat.reduceLeDiff, nl_0, nl_1, nl_2, nl_3, nl_5, nl_22, nl_240, nl_512, no_1, no_1024, pk_mul, nI_add, nm_ck, nI_clamp, nI_ltI, nI_leI, nI_eq, nb_b2, nb_b1, ↓nb_let, nm_z0, nm_z1, nb_II, nb_IR, nb_RI, nb_RR, nm_IL, nm_IQ, nm_RL, nm_RQ, nm_LI, nm_LR, nm_LL, nm_LQ, nm_QI, nm_QR, nm_QL, nm_QQ, nm_rr, nm_ii, nm_eqm, not_false_eq_true, pk_sub, nm_div, nm_shl, nm_shr, nm_ush, nm_or8, nm_or64, nm_or256, nm_m1, nm_m3, nm_m7, nm_m15, nm_m31, nm_m63, nm_m255, nm_m511, nm_m1023, nm_m2047, nm_m65535, Nat.reduceMod, Nat.reducePow, Nat.reduceAdd, Nat.reduceSub, Nat.reduceMul, nm_bo, nm_bi, nm_rc, nm_ic, nm_ri, nm_rl, nm_rq, nm_ql, nm_qi, nm_li, nm_us, nm_uu, nm_cp, nm_sa31, nm_sa7, nm_m127, nm_m2, nm_nz, nm_nzk, nm_eq32, nm_nzf, if_true, if_false, ↓reduceIte, if_pos, if_neg]) (by simp (disch := (first | assumption | decide | omega)) only [df_X16_seek_9, df_X16_seek_40, df_X16_seek_100, df_X16_seek_79, df_X16_seek_0, df_X16_seek, A0, A2, h3, o2, y4, k3, eq_self, Nat.reduceEqDiff, Nat.reduceLeDiff, nl_0, nl_1, nl_2, nl_3, nl_12, nl_16, nl_19, nl_20, nl_21, nl_22, nl_28, nl_48, nl_512, no_1, no_1024, pk_mul, nI_add, nm_ck, nI_clamp, nI_ltI, nI_leI, nI_eq, nb_b2, nb_b1, ↓nb_let, nm_z0, nm_z1, nb_II, nb_IR, nb_RI, nb_RR, nm_IL, nm_IQ, nm_RL, nm_RQ, nm_LI, nm_LR, nm_LL, nm_LQ, nm_QI, nm_QR, nm_QL, nm_QQ, nm_rr, nm_ii, nm_eqm, not_false_eq_true, pk_sub, nm_div, nm_shl, nm_shr, nm_ush, nm_or8, nm_or64, nm_or256, nm_m1, nm_m3, nm_m7, nm_m15, nm_m31, nm_m63, nm_m255, nm_m511, nm_m1023, nm_m2047, nm_m65535, Nat.reduceMod, Nat.reducePow, Nat.reduceAdd, Nat.reduceSub, Nat.reduceMul, nm_bo, nm_bi, nm_rc, nm_ic, nm_ri, nm_rl, nm_rq, nm_ql, nm_qi, nm_li, nm_us, nm_uu, nm_cp, nm_sa31, nm_sa7, nm_m127, nm_m2, nm_nz, nm_nzk, nm_eq32, nm_nzf, if_true, if_false, ↓reduceIte, if_pos, if_neg])
    · exact inv (by simp (disch := (first | assumption | decide | omega)) only [df_X5_seek_11, df_X5_seek_45, df_X5_seek_109, df_X5_seek_93, df_X5_seek_90, df_X5_seek_0, df_X5_seek, A0, A2, eq_self, Nat.reduceEqDiff, Nat.reduceLeDiff, nl_0, nl_1, nl_2, nl_3, nl_22, nl_512, no_1, no_1024, pk_mul, nI_add, nm_ck, nI_clamp, nI_ltI, nI_leI, nI_eq, nb_b2, nb_b1, ↓nb_let, nm_z0, nm_z1, nb_II, nb_IR, nb_RI, nb_RR, nm_IL, nm_IQ, nm_RL, nm_RQ, nm_LI, nm_LR, nm_LL, nm_LQ, nm_QI, nm_QR, nm_QL, nm_QQ, nm_rr, nm_ii, nm_eqm, not_false_eq_true, pk_sub, nm_div, nm_shl, nm_shr, nm_ush, nm_or8, nm_or64, nm_or256, nm_m1, nm_m3, nm_m7, nm_m15, nm_m31, nm_m63, nm_m255, nm_m511, nm_m1023, nm_m2047, nm_m65535, Nat.reduceMod, Nat.reducePow, Nat.reduceAdd, Nat.reduceSub, Nat.reduceMul, nm_bo, nm_bi, nm_rc, nm_ic, nm_ri, nm_rl, nm_rq, nm_ql, nm_qi, nm_li, nm_us, nm_uu, nm_cp, nm_sa31, nm_sa7, nm_m127, nm_m2, nm_nz, nm_nzk, nm_eq32, nm_nzf, if_true, if_false, ↓reduceIte, if_pos, if_neg]) (by simp (disch := (first | assumption | decide | omega)) only [df_X16_seek_9, df_X16_seek_40, df_X16_seek_100, df_X16_seek_79, df_X16_seek_0, df_X16_seek, A0, A2, eq_self, Nat.reduceEqDiff, Nat.reduceLeDiff, nl_0, nl_1, nl_2, nl_3, nl_12, nl_16, nl_19, nl_20, nl_21, nl_22, nl_28, nl_48, nl_512, no_1, no_1024, pk_mul, nI_add, nm_ck, nI_clamp, nI_ltI, nI_leI, nI_eq, nb_b2, nb_b1, ↓nb_let, nm_z0, nm_z1, nb_II, nb_IR, nb_RI, nb_RR, nm_IL, nm_IQ, nm_RL, nm_RQ, nm_LI, nm_LR, nm_LL, nm_LQ, nm_QI, nm_QR, nm_QL, nm_QQ, nm_rr, nm_ii, nm_eqm, not_false_eq_true, pk_sub, nm_div, nm_shl, nm_shr, nm_ush, nm_or8, nm_or64, nm_or256, nm_m1, nm_m3, nm_m7, nm_m15, nm_m31, nm_m63, nm_m255, nm_m511, nm_m1023, nm_m2047, nm_m65535, Nat.reduceMod, Nat.reducePow, Nat.reduceAdd, Nat.reduceSub, Nat.reduceMul, nm_bo, nm_bi, nm_rc, nm_ic, nm_ri, nm_rl, nm_rq, nm_ql, nm_qi, nm_li, nm_us, nm_uu, nm_cp, nm_sa31, nm_sa7, nm_m127, nm_m2, nm_nz, nm_nzk, nm_eq32, nm_nzf, if_true, if_false, ↓reduceIte, if_pos, if_neg])
