theorem hs_k (n sz a A f : Nat) {v : Int64} {X : St × St} (hs : sz ≤ 4) (ha : a < 16) (h1 : sI X.1 1 = nI a) (hv : v.toInt32 = nI A) (hA : A + sz ≤ 65536) (hf : f < 256) (hp : ∀ i : Nat, i < sz → sR X.1 16 (64 * a + (A + i) / 1024) = nI f) : ∀ k i m : Nat, i + k = sz → k < m → df_X16_has_41 n m v (nI sz) (nI 1) (nI i) X = some (nI 1, X) := fun k => by
  induction k with
  | zero =>
    intro i m hi hm
    obtain ⟨g, rfl⟩ : ∃ g : Nat, m = g + 1 := ⟨m - 1, by omega⟩
    rw [show i = sz by omega]
    exact hs_e n g sz (Or.inr rfl) (by omega)
  | succ k ih =>
    intro i m hi hm
    obtain ⟨g, rfl⟩ : ∃ g : Nat, m = g + 1 := ⟨m - 1, by omega⟩
    rw [hs_t n g i sz a A (by omega) hs ha h1 hv (by omega), hp i (by omega), if_neg (show ¬ nI f = -1 from fun z => nk_ne (by omega) z)]
    exact ih (i + 1) g (by omega) (by omega)
theorem ct_2 (n : Nat) (hn : 1 < n) (X : St × St) : df_X16_count n (nI 2) X = some ((sI X.1 1).toInt64, X) := by
  obtain ⟨m, em⟩ : ∃ m : Nat, n = m + 1 := ⟨n - 1, by omega⟩
  have e4 : df_X16_count_4 n n = dF_X16_count_4 n (df_X16_count_4 n m) := (congrArg (df_X16_count_4 n) em).trans rfl
  have e41 : df_X16_count_41 n n = dF_X16_count_41 n (df_X16_count_41 n m) := (congrArg (df_X16_count_41 n) em).trans rfl
  simp (disch := (first | assumption | decide | omega)) only [df_X16_count_191, df_X16_count_182, df_X16_count_85, df_X16_count_78, df_X16_count_77, df_X16_count_39, df_X16_count_32, df_X16_count_0, df_X16_count, dF_X16_count_4, dF_X16_count_41, e4, e41, eq_self, Nat.reduceEqDiff, Nat.reduceLeDiff, nl_0, nl_1, nl_2, nl_3, nl_4, nl_5, nl_6, nl_7, nl_8, nl_9, nl_10, nl_11, nl_12, nl_13, nl_16, nl_24, nl_25, no_1, no_1024, pk_mul, nI_add, nm_ck, nI_clamp, nI_ltI, nI_leI, nI_eq, nb_b2, nb_b1, ↓nb_let, nm_z0, nm_z1, nb_II, nb_IR, nb_RI, nb_RR, nm_IL, nm_IQ, nm_RL, nm_RQ, nm_LI, nm_LR, nm_LL, nm_LQ, nm_QI, nm_QR, nm_QL, nm_QQ, nm_rr, nm_ii, nm_eqm, not_false_eq_true, pk_sub, nm_div, nm_shl, nm_shr, nm_ush, nm_or8, nm_or64, nm_or256, nm_m1, nm_m3, nm_m7, nm_m15, nm_m31, nm_m63, nm_m255, nm_m511, nm_m1023, nm_m2047, nm_m65535, Nat.reduceMod, Nat.reducePow, Nat.reduceAdd, Nat.reduceSub, Nat.reduceMul, nm_bo, nm_bi, nm_rc, nm_ic, nm_ri, nm_rl, nm_rq, nm_ql, nm_qi, nm_li, nm_us, nm_uu, nm_cp, nm_sa31, nm_sa7, nm_m127, nm_m2, nm_nz, nm_nzk, nm_eq32, nm_nzf, if_true, if_false, ↓reduceIte, if_pos, if_neg]
theorem sz_o {o : Nat} (h1 : 25 ≤ o) (h2 : o ≤ 27) : (o = 25 ∧ szO o = 4) ∨ (o = 26 ∧ szO o = 2) ∨ (o = 27 ∧ szO o = 1) := by
  have q : o = 25 ∨ o = 26 ∨ o = 27 := by omega
  rcases q with rfl | rfl | rfl
  · exact Or.inl ⟨rfl, rfl⟩
  · exact Or.inr (Or.inl ⟨rfl, rfl⟩)
  · exact Or.inr (Or.inr ⟨rfl, rfl⟩)
theorem and7 : ∀ r : Nat, r < 8 → 1 ≤ r → ¬ r &&& 7 = 0 := by decide
/-- both read the same at an address, or fail -/
theorem rd_both (n : Nat) (hn : 100 < n) {M X : St × St} (h : rK M X) {a : Nat} (ha : a < 16) (h3 : sI M.1 3 = nI a) (h1 : sI X.1 1 = nI a) (o : Nat) (v : Int64) : ∃ r : Option Int64, 25 ≤ o → o ≤ 27 → (∀ Cd : St, df_X2_inSpace n (nI o) v (nd_st0, (Cd, M)) = match r with | some x => some (x, (nd_st0, (Cd, M))) | none => some (0, (nd_st0, (pI Cd 3 (nI 1), M)))) ∧ ∀ (k : Nat) (Y : St), (o = 25 ∧ k = 32 ∨ o = 26 ∧ k = 7 ∨ o = 27 ∧ k = 6) → df_X15_access n (nI k) v (Y, X) = match r with | some x => df_X15_give n x (Y, X) | none => df_X15_fail n (Y, X) := by
  by_cases hg : gd o v
  · obtain ⟨A, hA, hv, hv2⟩ := lc_sp hg.1 hg.2.1
    have hal : A % szO o = 0 := gd_al (by rw [← hv2]; exact hg.2.2) hA
    have nm : ¬ sI X.1 1 = -nI 1 := by rw [h1]; exact nk_ne (by omega)
    have mm := (nk_may n h ha (A := A) (q := 7) (by omega) (by omega)).1
    have hi : 64 * a + A / 1024 < 1024 := by omega
    rcases h.1 (64 * a + A / 1024) hi with ⟨e, _⟩ | ⟨f, r, hf, r1, r8, e, er, _⟩
    · refine ⟨none, fun o1 o2 => ⟨fun Cd => ?_, fun k Y hok => ?_⟩⟩
      · have z : ma X a A 7 = false := by
          unfold ma mb
          rw [e, decide_eq_false (show ¬ ¬ (-nI 1 : Int32) = -nI 1 from fun y => y rfl), Bool.false_and, Bool.and_false]
        rw [z] at mm
        rw [in_ya n o o1 o2 ha h3 hg hv mm, if_pos (show bI false = nI 0 from rfl)]
      · obtain ⟨m, em⟩ : ∃ m : Nat, n = m + 1 + 1 := ⟨n - 2, by omega⟩
        have q : df_X16_has n v (nI (szO o)) X = some (nI 0, X) := by
          rw [hs_ya n o rfl nm hg]
          have e2 : df_X16_has_41 n n = df_X16_has_41 n (m + 1 + 1) := congrArg _ em
          have s4 := sz_o o1 o2
          rw [e2, hs_t n (m + 1) 0 (szO o) a A (by omega) (by omega) ha h1 hv (by omega), show 64 * a + (A + 0) / 1024 = 64 * a + A / 1024 from rfl, e, if_pos (show (-nI 1 : Int32) = -1 from rfl)]
          exact hs_0 ..
        rw [ac_0 n o k hok q, if_pos (show nI 0 = (0 : Int32) from rfl)]
    · have z : ma X a A 7 = true := by
        unfold ma mb
        rw [e, er, nI_clamp (by omega), decide_eq_true hA, decide_eq_true (show ¬ nI f = -nI 1 from nk_ne (by omega)), decide_eq_true (and7 r r8 r1)]
        rfl
      rw [z] at mm
      obtain ⟨rb, rh, rw4⟩ := nk_rd n h ha hA hf e
      have mm : df_X6_may n (nI a) (nI A) (nI 7) M = some (nI 1, M) := mm
      refine ⟨some (rdZ X a o A), fun o1 o2 => ⟨fun Cd => ?_, fun k Y hok => ?_⟩⟩
      · rw [in_ya n o o1 o2 ha h3 hg hv mm, if_neg (by decide), rb, rh, rw4, nb_b2, nb_b2, nb_b2]
        unfold rdZ
        by_cases c1 : o = 25
        · rw [if_pos c1, if_pos c1]
        · rw [if_neg c1, if_neg c1]
          by_cases c2 : o = 26
          · rw [if_pos c2, if_pos c2]
          · rw [if_neg c2, if_neg c2]
      · have s4 := sz_o o1 o2
        have pg : ∀ i : Nat, i < szO o → sR X.1 16 (64 * a + (A + i) / 1024) = nI f := fun i hi => by
          rw [show (A + i) / 1024 = A / 1024 by rcases s4 with ⟨_, z⟩ | ⟨_, z⟩ | ⟨_, z⟩ <;> rw [z] at hal hi <;> omega]
          exact e
        have bd : A + szO o ≤ 65536 := by rcases s4 with ⟨_, z⟩ | ⟨_, z⟩ | ⟨_, z⟩ <;> rw [z] at hal ⊢ <;> omega
        have q : df_X16_has n v (nI (szO o)) X = some (nI 1, X) := by
          rw [hs_ya n o rfl nm hg]
          exact hs_k n (szO o) a A f (by omega) ha h1 hv bd hf pg (szO o) 0 n (by omega) (by omega)
        rw [ac_0 n o k hok q, if_neg (by decide)]
        have ce : ∀ i : Nat, i < szO o → df_X16_cell n (nI (A + i)) X = some (bw (wd4 X a (A + i)) (8 * ((A + i) % 4)), X) := fun i hi => cl_1 n ha (by omega) h1 hf (pg i hi)
        obtain ⟨m, em⟩ : ∃ m : Nat, n = m + 1 + 1 + 1 + 1 + 1 := ⟨n - 5, by omega⟩
        have e2 : df_X15_access_47 n n = df_X15_access_47 n (m + 1 + 1 + 1 + 1 + 1) := congrArg _ em
        rw [e2]
        show _ = df_X15_give n (rdZ X a o A) (Y, X)
        unfold rdZ
        rcases s4 with ⟨y, z⟩ | ⟨y, z⟩ | ⟨y, z⟩
        · subst y
          rw [z] at hal ce ⊢
          rw [if_pos rfl, ac_t n _ 0 4 (by omega) (by omega) hv (ce 0 (by omega)), ac_t n _ 1 4 (by omega) (by omega) hv (ce 1 (by omega)), ac_t n _ 2 4 (by omega) (by omega) hv (ce 2 (by omega)), ac_t n _ 3 4 (by omega) (by omega) hv (ce 3 (by omega)), ac_e n m 4 (by omega), if_neg (by decide), wd_n 0 (by omega), wd_n 1 (by omega), wd_n 2 (by omega), wd_n 3 (by omega), show (A + 0) % 4 = 0 by omega, show (A + 1) % 4 = 1 by omega, show (A + 2) % 4 = 2 by omega, show (A + 3) % 4 = 3 by omega, lb_0, lb_w4]
        · subst y
          rw [z] at hal ce ⊢
          rw [if_neg (by decide), if_pos rfl, ac_t n _ 0 2 (by omega) (by omega) hv (ce 0 (by omega)), ac_t n _ 1 2 (by omega) (by omega) hv (ce 1 (by omega)), ac_e n (m + 1 + 1) 2 (by omega), if_pos rfl, wd_n 0 (by omega), wd_n 1 (by omega), lb_0, Nat.add_zero, lb_16, lb_h hal]
        · subst y
          rw [z] at hal ce ⊢
          rw [if_neg (by decide), if_neg (by decide), ac_t n _ 0 1 (by omega) (by omega) hv (ce 0 (by omega)), ac_e n (m + 1 + 1 + 1) 1 (by omega), if_neg (by decide), lb_0, Nat.add_zero]
  · refine ⟨none, fun o1 o2 => ⟨fun Cd => in_no n o o1 o2 (Or.inr hg) (Or.inr ⟨ha, h3⟩), fun k Y hok => ?_⟩⟩
    rw [ac_0 n o k hok (hs_no n o rfl (Or.inr hg) (by omega)), if_pos (show nI 0 = (0 : Int32) from rfl)]
theorem le0m : ¬ nI 0 ≤ -nI 1 := by decide
theorem en_tie (n : Nat) (hn : 100 < n) {B c : Nat} {M X : St × St} (h : rM B M X) (hs : sD n X) (hc : sI X.1 0 = nI c) : ∃ E : Evn, eC n c M E ∧ eR n X E := by
  have e3 := h.2.2.2.2.1.1
  have hnow : df_X16_now n X = some (nI c, X) := by rw [← hc]; rfl
  rcases hs.2 with ⟨e1, _⟩ | ⟨a, ha, e1, es⟩
  · rw [e1] at e3
    refine ⟨(fun _ => 0, (-nI 1).toInt64, (nI c).toInt64, fun _ _ => none), ⟨fun r hr => ?_, fun x => ?_, fun x => ?_, fun o v Cd o1 o2 => ?_⟩, fun r hr => ⟨nI 0, ?_, rfl⟩, ?_, ⟨nI c, hnow, rfl⟩, fun o k v Y hok => ?_⟩
    · simp (disch := (first | assumption | decide | omega)) only [df_X2_operand_50, df_X2_operand_0, df_X2_operand, e3, le0m, eq_self, Nat.reduceEqDiff, Nat.reduceLeDiff, nl_0, nl_3, nl_31, nl_32, nl_33, no_1, no_1024, pk_mul, nI_add, nm_ck, nI_clamp, nI_ltI, nI_leI, nI_eq, nb_b2, nb_b1, ↓nb_let, nm_z0, nm_z1, nb_II, nb_IR, nb_RI, nb_RR, nm_IL, nm_IQ, nm_RL, nm_RQ, nm_LI, nm_LR, nm_LL, nm_LQ, nm_QI, nm_QR, nm_QL, nm_QQ, nm_rr, nm_ii, nm_eqm, not_false_eq_true, pk_sub, nm_div, nm_shl, nm_shr, nm_ush, nm_or8, nm_or64, nm_or256, nm_m1, nm_m3, nm_m7, nm_m15, nm_m31, nm_m63, nm_m255, nm_m511, nm_m1023, nm_m2047, nm_m65535, Nat.reduceMod, Nat.reducePow, Nat.reduceAdd, Nat.reduceSub, Nat.reduceMul, nm_bo, nm_bi, nm_rc, nm_ic, nm_ri, nm_rl, nm_rq, nm_ql, nm_qi, nm_li, nm_us, nm_uu, nm_cp, nm_sa31, nm_sa7, nm_m127, nm_m2, nm_nz, nm_nzk, nm_eq32, nm_nzf, if_true, if_false, ↓reduceIte, if_pos, if_neg]
    · simp (disch := (first | assumption | decide | omega)) only [df_X2_operand_50, df_X2_operand_0, df_X2_operand, e3, eq_self, Nat.reduceEqDiff, Nat.reduceLeDiff, nl_0, nl_3, nl_31, nl_32, nl_33, no_1, no_1024, pk_mul, nI_add, nm_ck, nI_clamp, nI_ltI, nI_leI, nI_eq, nb_b2, nb_b1, ↓nb_let, nm_z0, nm_z1, nb_II, nb_IR, nb_RI, nb_RR, nm_IL, nm_IQ, nm_RL, nm_RQ, nm_LI, nm_LR, nm_LL, nm_LQ, nm_QI, nm_QR, nm_QL, nm_QQ, nm_rr, nm_ii, nm_eqm, not_false_eq_true, pk_sub, nm_div, nm_shl, nm_shr, nm_ush, nm_or8, nm_or64, nm_or256, nm_m1, nm_m3, nm_m7, nm_m15, nm_m31, nm_m63, nm_m255, nm_m511, nm_m1023, nm_m2047, nm_m65535, Nat.reduceMod, Nat.reducePow, Nat.reduceAdd, Nat.reduceSub, Nat.reduceMul, nm_bo, nm_bi, nm_rc, nm_ic, nm_ri, nm_rl, nm_rq, nm_ql, nm_qi, nm_li, nm_us, nm_uu, nm_cp, nm_sa31, nm_sa7, nm_m127, nm_m2, nm_nz, nm_nzk, nm_eq32, nm_nzf, if_true, if_false, ↓reduceIte, if_pos, if_neg]
    · simp (disch := (first | assumption | decide | omega)) only [df_X2_operand_50, df_X2_operand_0, df_X2_operand, e3, eq_self, Nat.reduceEqDiff, Nat.reduceLeDiff, nl_0, nl_3, nl_31, nl_32, nl_33, no_1, no_1024, pk_mul, nI_add, nm_ck, nI_clamp, nI_ltI, nI_leI, nI_eq, nb_b2, nb_b1, ↓nb_let, nm_z0, nm_z1, nb_II, nb_IR, nb_RI, nb_RR, nm_IL, nm_IQ, nm_RL, nm_RQ, nm_LI, nm_LR, nm_LL, nm_LQ, nm_QI, nm_QR, nm_QL, nm_QQ, nm_rr, nm_ii, nm_eqm, not_false_eq_true, pk_sub, nm_div, nm_shl, nm_shr, nm_ush, nm_or8, nm_or64, nm_or256, nm_m1, nm_m3, nm_m7, nm_m15, nm_m31, nm_m63, nm_m255, nm_m511, nm_m1023, nm_m2047, nm_m65535, Nat.reduceMod, Nat.reducePow, Nat.reduceAdd, Nat.reduceSub, Nat.reduceMul, nm_bo, nm_bi, nm_rc, nm_ic, nm_ri, nm_rl, nm_rq, nm_ql, nm_qi, nm_li, nm_us, nm_uu, nm_cp, nm_sa31, nm_sa7, nm_m127, nm_m2, nm_nz, nm_nzk, nm_eq32, nm_nzf, if_true, if_false, ↓reduceIte, if_pos, if_neg]
    · exact in_no n o (a := 0) o1 o2 (Or.inl e3) (Or.inl e3)
    · simp (disch := (first | assumption | decide | omega)) only [df_X16_value_44, df_X16_value_0, df_X16_value, e1, eq_self, Nat.reduceEqDiff, Nat.reduceLeDiff, nl_0, nl_1, nl_9, nl_10, nl_16, nl_32, nl_512, no_1, no_1024, pk_mul, nI_add, nm_ck, nI_clamp, nI_ltI, nI_leI, nI_eq, nb_b2, nb_b1, ↓nb_let, nm_z0, nm_z1, nb_II, nb_IR, nb_RI, nb_RR, nm_IL, nm_IQ, nm_RL, nm_RQ, nm_LI, nm_LR, nm_LL, nm_LQ, nm_QI, nm_QR, nm_QL, nm_QQ, nm_rr, nm_ii, nm_eqm, not_false_eq_true, pk_sub, nm_div, nm_shl, nm_shr, nm_ush, nm_or8, nm_or64, nm_or256, nm_m1, nm_m3, nm_m7, nm_m15, nm_m31, nm_m63, nm_m255, nm_m511, nm_m1023, nm_m2047, nm_m65535, Nat.reduceMod, Nat.reducePow, Nat.reduceAdd, Nat.reduceSub, Nat.reduceMul, nm_bo, nm_bi, nm_rc, nm_ic, nm_ri, nm_rl, nm_rq, nm_ql, nm_qi, nm_li, nm_us, nm_uu, nm_cp, nm_sa31, nm_sa7, nm_m127, nm_m2, nm_nz, nm_nzk, nm_eq32, nm_nzf, if_true, if_false, ↓reduceIte, if_pos, if_neg]
    · rw [ct_2 n (by omega), e1]
    · show _ = df_X15_fail n (Y, X)
      rw [ac_0 n o k hok (hs_no n o rfl (Or.inl e1) (by omega)), if_pos (show nI 0 = (0 : Int32) from rfl)]
  · rw [e1] at e3
    have key := rd_both n hn h.1 ha e3 e1
    obtain ⟨t, cc, w, b, e, t4, _, _, _, _, d1, d2, _, _, _, _, _, _, _, _, _, _, _, _, _, _, hr, _⟩ := h.2.2.1 a ha
    have t1 : t = 1 := by
      rw [d2, nI_eq (by omega) (by omega)] at es
      exact es
    subst t1
    obtain ⟨r1, r2⟩ := hr (by omega)
    have nmm : ¬ nI a = -nI 1 := nk_ne (by omega)
    refine ⟨(fun r => (if r = 32 then sR X.1 10 a else sR X.1 9 (32 * a + r)).toInt64, (nI a).toInt64, (nI c).toInt64, fun o v => Classical.choose (key o v)), ⟨fun r hr => ?_, fun x => ?_, fun x => ?_, fun o v Cd o1 o2 => (Classical.choose_spec (key o v) o1 o2).1 Cd⟩, fun r hr => ⟨if r = 32 then sR X.1 10 a else sR X.1 9 (32 * a + r), ?_, rfl⟩, ?_, ⟨nI c, hnow, rfl⟩, fun o k v Y hok => (Classical.choose_spec (key o v) (by omega) (by omega)).2 k Y hok⟩
    · have kk : df_X6_registerOf n (nI a) (nI r) M = some (if r = 32 then sR X.1 10 a else sR X.1 9 (32 * a + r), M) := by
        have u1 : a < 2 ^ 31 := by omega
        have u4 : a * 7 < 112 := by omega
        have u5 : a * 33 + r < 528 := by omega
        by_cases y : r = 32
        · subst y
          rw [if_pos rfl, ← r2]
          simp (disch := (first | assumption | decide | omega)) only [df_X6_registerOf_23, df_X6_registerOf_0, df_X6_registerOf, df_X6_status_0, df_X6_status, d1, Nat.add_zero, eq_self, Nat.reduceEqDiff, Nat.reduceLeDiff, nl_0, nl_3, nl_6, nl_7, nl_33, nl_112, nl_528, no_1, no_1024, pk_mul, nI_add, nm_ck, nI_clamp, nI_ltI, nI_leI, nI_eq, nb_b2, nb_b1, ↓nb_let, nm_z0, nm_z1, nb_II, nb_IR, nb_RI, nb_RR, nm_IL, nm_IQ, nm_RL, nm_RQ, nm_LI, nm_LR, nm_LL, nm_LQ, nm_QI, nm_QR, nm_QL, nm_QQ, nm_rr, nm_ii, nm_eqm, not_false_eq_true, pk_sub, nm_div, nm_shl, nm_shr, nm_ush, nm_or8, nm_or64, nm_or256, nm_m1, nm_m3, nm_m7, nm_m15, nm_m31, nm_m63, nm_m255, nm_m511, nm_m1023, nm_m2047, nm_m65535, Nat.reduceMod, Nat.reducePow, Nat.reduceAdd, Nat.reduceSub, Nat.reduceMul, nm_bo, nm_bi, nm_rc, nm_ic, nm_ri, nm_rl, nm_rq, nm_ql, nm_qi, nm_li, nm_us, nm_uu, nm_cp, nm_sa31, nm_sa7, nm_m127, nm_m2, nm_nz, nm_nzk, nm_eq32, nm_nzf, if_true, if_false, ↓reduceIte, if_pos, if_neg]
        · rw [if_neg y, ← r1 r (by omega)]
          simp (disch := (first | assumption | decide | omega)) only [df_X6_registerOf_23, df_X6_registerOf_0, df_X6_registerOf, df_X6_status_0, df_X6_status, d1, Nat.add_zero, eq_self, Nat.reduceEqDiff, Nat.reduceLeDiff, nl_0, nl_3, nl_6, nl_7, nl_33, nl_112, nl_528, no_1, no_1024, pk_mul, nI_add, nm_ck, nI_clamp, nI_ltI, nI_leI, nI_eq, nb_b2, nb_b1, ↓nb_let, nm_z0, nm_z1, nb_II, nb_IR, nb_RI, nb_RR, nm_IL, nm_IQ, nm_RL, nm_RQ, nm_LI, nm_LR, nm_LL, nm_LQ, nm_QI, nm_QR, nm_QL, nm_QQ, nm_rr, nm_ii, nm_eqm, not_false_eq_true, pk_sub, nm_div, nm_shl, nm_shr, nm_ush, nm_or8, nm_or64, nm_or256, nm_m1, nm_m3, nm_m7, nm_m15, nm_m31, nm_m63, nm_m255, nm_m511, nm_m1023, nm_m2047, nm_m65535, Nat.reduceMod, Nat.reducePow, Nat.reduceAdd, Nat.reduceSub, Nat.reduceMul, nm_bo, nm_bi, nm_rc, nm_ic, nm_ri, nm_rl, nm_rq, nm_ql, nm_qi, nm_li, nm_us, nm_uu, nm_cp, nm_sa31, nm_sa7, nm_m127, nm_m2, nm_nz, nm_nzk, nm_eq32, nm_nzf, if_true, if_false, ↓reduceIte, if_pos, if_neg]
      simp (disch := (first | assumption | decide | omega)) only [df_X2_operand_50, df_X2_operand_0, df_X2_operand, e3, t3b, kk, eq_self, Nat.reduceEqDiff, Nat.reduceLeDiff, nl_0, nl_3, nl_31, nl_32, nl_33, no_1, no_1024, pk_mul, nI_add, nm_ck, nI_clamp, nI_ltI, nI_leI, nI_eq, nb_b2, nb_b1, ↓nb_let, nm_z0, nm_z1, nb_II, nb_IR, nb_RI, nb_RR, nm_IL, nm_IQ, nm_RL, nm_RQ, nm_LI, nm_LR, nm_LL, nm_LQ, nm_QI, nm_QR, nm_QL, nm_QQ, nm_rr, nm_ii, nm_eqm, not_false_eq_true, pk_sub, nm_div, nm_shl, nm_shr, nm_ush, nm_or8, nm_or64, nm_or256, nm_m1, nm_m3, nm_m7, nm_m15, nm_m31, nm_m63, nm_m255, nm_m511, nm_m1023, nm_m2047, nm_m65535, Nat.reduceMod, Nat.reducePow, Nat.reduceAdd, Nat.reduceSub, Nat.reduceMul, nm_bo, nm_bi, nm_rc, nm_ic, nm_ri, nm_rl, nm_rq, nm_ql, nm_qi, nm_li, nm_us, nm_uu, nm_cp, nm_sa31, nm_sa7, nm_m127, nm_m2, nm_nz, nm_nzk, nm_eq32, nm_nzf, if_true, if_false, ↓reduceIte, if_pos, if_neg]
    · simp (disch := (first | assumption | decide | omega)) only [df_X2_operand_50, df_X2_operand_0, df_X2_operand, e3, eq_self, Nat.reduceEqDiff, Nat.reduceLeDiff, nl_0, nl_3, nl_31, nl_32, nl_33, no_1, no_1024, pk_mul, nI_add, nm_ck, nI_clamp, nI_ltI, nI_leI, nI_eq, nb_b2, nb_b1, ↓nb_let, nm_z0, nm_z1, nb_II, nb_IR, nb_RI, nb_RR, nm_IL, nm_IQ, nm_RL, nm_RQ, nm_LI, nm_LR, nm_LL, nm_LQ, nm_QI, nm_QR, nm_QL, nm_QQ, nm_rr, nm_ii, nm_eqm, not_false_eq_true, pk_sub, nm_div, nm_shl, nm_shr, nm_ush, nm_or8, nm_or64, nm_or256, nm_m1, nm_m3, nm_m7, nm_m15, nm_m31, nm_m63, nm_m255, nm_m511, nm_m1023, nm_m2047, nm_m65535, Nat.reduceMod, Nat.reducePow, Nat.reduceAdd, Nat.reduceSub, Nat.reduceMul, nm_bo, nm_bi, nm_rc, nm_ic, nm_ri, nm_rl, nm_rq, nm_ql, nm_qi, nm_li, nm_us, nm_uu, nm_cp, nm_sa31, nm_sa7, nm_m127, nm_m2, nm_nz, nm_nzk, nm_eq32, nm_nzf, if_true, if_false, ↓reduceIte, if_pos, if_neg]
    · simp (disch := (first | assumption | decide | omega)) only [df_X2_operand_50, df_X2_operand_0, df_X2_operand, e3, eq_self, Nat.reduceEqDiff, Nat.reduceLeDiff, nl_0, nl_3, nl_31, nl_32, nl_33, no_1, no_1024, pk_mul, nI_add, nm_ck, nI_clamp, nI_ltI, nI_leI, nI_eq, nb_b2, nb_b1, ↓nb_let, nm_z0, nm_z1, nb_II, nb_IR, nb_RI, nb_RR, nm_IL, nm_IQ, nm_RL, nm_RQ, nm_LI, nm_LR, nm_LL, nm_LQ, nm_QI, nm_QR, nm_QL, nm_QQ, nm_rr, nm_ii, nm_eqm, not_false_eq_true, pk_sub, nm_div, nm_shl, nm_shr, nm_ush, nm_or8, nm_or64, nm_or256, nm_m1, nm_m3, nm_m7, nm_m15, nm_m31, nm_m63, nm_m255, nm_m511, nm_m1023, nm_m2047, nm_m65535, Nat.reduceMod, Nat.reducePow, Nat.reduceAdd, Nat.reduceSub, Nat.reduceMul, nm_bo, nm_bi, nm_rc, nm_ic, nm_ri, nm_rl, nm_rq, nm_ql, nm_qi, nm_li, nm_us, nm_uu, nm_cp, nm_sa31, nm_sa7, nm_m127, nm_m2, nm_nz, nm_nzk, nm_eq32, nm_nzf, if_true, if_false, ↓reduceIte, if_pos, if_neg]
    · by_cases y : r = 32
      · subst y
        rw [if_pos rfl]
        simp (disch := (first | assumption | decide | omega)) only [df_X16_value_44, df_X16_value_0, df_X16_value, e1, nmm, eq_self, Nat.reduceEqDiff, Nat.reduceLeDiff, nl_0, nl_1, nl_9, nl_10, nl_16, nl_32, nl_512, no_1, no_1024, pk_mul, nI_add, nm_ck, nI_clamp, nI_ltI, nI_leI, nI_eq, nb_b2, nb_b1, ↓nb_let, nm_z0, nm_z1, nb_II, nb_IR, nb_RI, nb_RR, nm_IL, nm_IQ, nm_RL, nm_RQ, nm_LI, nm_LR, nm_LL, nm_LQ, nm_QI, nm_QR, nm_QL, nm_QQ, nm_rr, nm_ii, nm_eqm, not_false_eq_true, pk_sub, nm_div, nm_shl, nm_shr, nm_ush, nm_or8, nm_or64, nm_or256, nm_m1, nm_m3, nm_m7, nm_m15, nm_m31, nm_m63, nm_m255, nm_m511, nm_m1023, nm_m2047, nm_m65535, Nat.reduceMod, Nat.reducePow, Nat.reduceAdd, Nat.reduceSub, Nat.reduceMul, nm_bo, nm_bi, nm_rc, nm_ic, nm_ri, nm_rl, nm_rq, nm_ql, nm_qi, nm_li, nm_us, nm_uu, nm_cp, nm_sa31, nm_sa7, nm_m127, nm_m2, nm_nz, nm_nzk, nm_eq32, nm_nzf, if_true, if_false, ↓reduceIte, if_pos, if_neg]
      · rw [if_neg y]
        have u6 : 32 * a + r < 512 := by omega
        simp (disch := (first | assumption | decide | omega)) only [df_X16_value_44, df_X16_value_0, df_X16_value, e1, nmm, eq_self, Nat.reduceEqDiff, Nat.reduceLeDiff, nl_0, nl_1, nl_9, nl_10, nl_16, nl_32, nl_512, no_1, no_1024, pk_mul, nI_add, nm_ck, nI_clamp, nI_ltI, nI_leI, nI_eq, nb_b2, nb_b1, ↓nb_let, nm_z0, nm_z1, nb_II, nb_IR, nb_RI, nb_RR, nm_IL, nm_IQ, nm_RL, nm_RQ, nm_LI, nm_LR, nm_LL, nm_LQ, nm_QI, nm_QR, nm_QL, nm_QQ, nm_rr, nm_ii, nm_eqm, not_false_eq_true, pk_sub, nm_div, nm_shl, nm_shr, nm_ush, nm_or8, nm_or64, nm_or256, nm_m1, nm_m3, nm_m7, nm_m15, nm_m31, nm_m63, nm_m255, nm_m511, nm_m1023, nm_m2047, nm_m65535, Nat.reduceMod, Nat.reducePow, Nat.reduceAdd, Nat.reduceSub, Nat.reduceMul, nm_bo, nm_bi, nm_rc, nm_ic, nm_ri, nm_rl, nm_rq, nm_ql, nm_qi, nm_li, nm_us, nm_uu, nm_cp, nm_sa31, nm_sa7, nm_m127, nm_m2, nm_nz, nm_nzk, nm_eq32, nm_nzf, if_true, if_false, ↓reduceIte, if_pos, if_neg]
    · rw [ct_2 n (by omega), e1]
