theorem hs_k (n sz a A f : Nat) {v : Int64} {X : St × St} (hs : sz ≤ 4) (ha : a < 16) (h1 : sI X.1 1 = nI a) (hv : v.toInt32 = nI A) (hA : A + sz ≤ 65536) (hf : f < 256) (hp : ∀ i : Nat, i < sz → sR X.1 16 (64 * a + (A + i) / 1024) = nI f) : ∀ k i m : Nat, i + k = sz → k < m → df_X16_has_41 n m v (nI sz) (nI 1) (nI i) X = some (nI 1, X) := fun k => by
  induction k with
  | zero =>
    intro i m hi hm
    obtain ⟨g, rfl⟩ : ∃ g : Nat, m = g + 1 := ⟨m - 1, by omega⟩
    rw [show i = sz by omega]
    exact hs_e n g sz (Or.inr rfl) (by omega)
  | succ k ih =>
    intro i m hi hm
    obtain ⟨g, rfl⟩ : ∃ g : Nat, m = g + 1 := ⟨m - 1, by omega⟩
    rw [hs_t n g i sz a A (by omega) hs ha h1 hv (by omega), hp i (by omega), if_neg (show ¬ nI f = -1 from fun z => nk_ne (by omega) z)]
    exact ih (i + 1) g (by omega) (by omega)
theorem ct_2 (n : Nat) (hn : 1 < n) (X : St × St) : df_X16_count n (nI 2) X = some ((sI X.1 1).toInt64, X) := by
  obtain ⟨m, em⟩ : ∃ m : Nat, n = m + 1 := ⟨n - 1, by omega⟩
  have e4 : df_X16_count_4 n n = dF_X16_count_4 n (df_X16_count_4 n m) := (congrArg (df_X16_count_4 n) em).trans rfl
  have e41 : df_X16_count_41 n n = dF_X16_count_41 n (df_X16_count_41 n m) := (congrArg (df_X16_count_41 n) em).trans rfl
  simp (disch := (first | assumption | decide | omega)) only [df_X16_count_191, df_X16_count_182, df_X16_count_85, df_X16_count_78, df_X16_count_77, df_X16_count_39, df_X16_count_32, df_X16_count_0, df_X16_count, dF_X16_count_4, dF_X16_count_41, e4, e41, eq_self, Nat.reduceEqDiff, Nat.reduceLeDiff, nl_0, nl_1, nl_2, nl_3, nl_4, nl_5, nl_6, nl_7, nl_8, nl_9, nl_10, nl_11, nl_12, nl_13, nl_16, nl_24, nl_25, no_1, no_1024, pk_mul, nI_add, nm_ck, nI_clamp, nI_ltI, nI_leI, nI_eq, nb_b2, nb_b1, ↓nb_let, nm_z0, nm_z1, nb_II, nb_IR, nb_RI, nb_RR, nm_IL, nm_IQ, nm_RL, nm_RQ, nm_LI, nm_LR, nm_LL, nm_LQ, nm_QI, nm_QR, nm_QL, nm_QQ, nm_rr, nm_ii, nm_eqm, not_false_eq_true, pk_sub, nm_div, nm_shl, nm_shr, nm_ush, nm_or8, nm_or64, nm_or256, nm_m1, nm_m3, nm_m7, nm_m15, nm_m31, nm_m63, nm_m255, nm_m511, nm_m1023, nm_m2047, nm_m65535, Nat.reduceMod, Nat.reducePow, Nat.reduceAdd, Nat.reduceSub, Nat.reduceMul, nm_bo, nm_bi, nm_rc, nm_ic, nm_ri, nm_rl, nm_rq, nm_ql, nm_qi, nm_li, nm_us, nm_uu, nm_cp, nm_sa31, nm_sa7, nm_m127, nm_m2, nm_nz, nm_nzk, nm_eq32, nm_nzf, if_true, if_false, ↓reduceIte, if_pos, if_neg]
theorem sz_o {o : Nat} (h1 : 25 ≤ o) (h2 : o ≤ 27) : (o = 25 ∧ szO o = 4) ∨ (o = 26 ∧ szO o = 2) ∨ (o = 27 ∧ szO o = 1) := by
  have q : o = 25 ∨ o = 26 ∨ o = 27 := by omega
  rcases q with rfl | rfl | rfl
  · exact Or.inl ⟨rfl, rfl⟩
  · exact Or.inr (Or.inl ⟨rfl, rfl⟩)
  · exact Or.inr (Or.inr ⟨rfl, rfl⟩)
theorem and7 : ∀ r : Nat, r < 8 → 1 ≤ r → ¬ r &&& 7 = 0 := by decide
/-- both read the same at an address, or fail -/
theorem rd_both (n : Nat) (hn : 100 < n) {M X : St × St} (h : rK M X) {a : Nat} (ha : a < 16) (h3 : sI M.1 3 = nI a) (h1 : sI X.1 1 = nI a) (o : Nat) (v : Int64) : ∃ r : Option Int64, 25 ≤ o → o ≤ 27 → (∀ Cd : St, df_X2_inSpace n (nI o) v (nd_st0, (Cd, M)) = match r with | some x => some (x, (nd_st0, (Cd, M))) | none => some (0, (nd_st0, (pI Cd 3 (nI 1), M)))) ∧ ∀ (k : Nat) (Y : St), (o = 25 ∧ k = 32 ∨ o = 26 ∧ k = 7 ∨ o = 27 ∧ k = 6) → df_X15_access n (nI k) v (Y, X) = match r with | some x => df_X15_give n x (Y, X) | none => df_X15_fail n (Y, X) := by
  by_cases hg : gd o v
  · obtain ⟨A, hA, hv, hv2⟩ := lc_sp hg.1 hg.2.1
    have hal : A % szO o = 0 := gd_al (by rw [← hv2]; exact hg.2.2) hA
    have nm : ¬ sI X.1 1 = -nI 1 := by rw [h1]; exact nk_ne (by omega)
    have mm := (nk_may n h ha (A := A) (q := 7) (by omega) (by omega)).1
    have hi : 64 * a + A / 1024 < 1024 := by omega
    rcases h.1 (64 * a + A / 1024) hi with ⟨e, _⟩ | ⟨f, r, hf, r1, r8, e, er, _⟩
    · refine ⟨none, fun o1 o2 => ⟨fun Cd => ?_, fun k Y hok => ?_⟩⟩
      · have z : ma X a A 7 = false := by
          unfold ma mb
          rw [e, decide_eq_false (show ¬ ¬ (-nI 1 : Int32) = -nI 1 from fun y => y rfl), Bool.false_and, Bool.and_false]
        rw [z] at mm
        rw [in_ya n o o1 o2 ha h3 hg hv mm, if_pos (show bI false = nI 0 from rfl)]
      · obtain ⟨m, em⟩ : ∃ m : Nat, n = m + 1 + 1 := ⟨n - 2, by omega⟩
        have q : df_X16_has n v (nI (szO o)) X = some (nI 0, X) := by
          rw [hs_ya n o rfl nm hg]
          have e2 : df_X16_has_41 n n = df_X16_has_41 n (m + 1 + 1) := congrArg _ em
          have s4 := sz_o o1 o2
          rw [e2, hs_t n (m + 1) 0 (szO o) a A (by omega) (by omega) ha h1 hv (by omega), show 64 * a + (A + 0) / 1024 = 64 * a + A / 1024 from rfl, e, if_pos (show (-nI 1 : Int32) = -1 from rfl)]
          exact hs_0 ..
        rw [ac_0 n o k hok q, if_pos (show nI 0 = (0 : Int32) from rfl)]
    · have z : ma X a A 7 = true := by
        unfold ma mb
        rw [e, er, nI_clamp (by omega), decide_eq_true hA, decide_eq_true (show ¬ nI f = -nI 1 from nk_ne (by omega)), decide_eq_true (and7 r r8 r1)]
        rfl
      rw [z] at mm
      obtain ⟨rb, rh, rw4⟩ := nk_rd n h ha hA hf e
      have mm : df_X6_may n (nI a) (nI A) (nI 7) M = some (nI 1, M) := mm
      refine ⟨some (rdZ X a o A), fun o1 o2 => ⟨fun Cd => ?_, fun k Y hok => ?_⟩⟩
      · rw [in_ya n o o1 o2 ha h3 hg hv mm, if_neg (by decide), rb, rh, rw4, nb_b2, nb_b2, nb_b2]
        unfold rdZ
        by_cases c1 : o = 25
        · rw [if_pos c1, if_pos c1]
        · rw [if_neg c1, if_neg c1]
          by_cases c2 : o = 26
          · rw [if_pos c2, if_pos c2]
          · rw [if_neg c2, if_neg c2]
      · have s4 := sz_o o1 o2
        have pg : ∀ i : Nat, i < szO o → sR X.1 16 (64 * a + (A + i) / 1024) = nI f := fun i hi => by
          rw [show (A + i) / 1024 = A / 1024 by rcases s4 with ⟨_, z⟩ | ⟨_, z⟩ | ⟨_, z⟩ <;> rw [z] at hal hi <;> omega]
          exact e
        have bd : A + szO o ≤ 65536 := by rcases s4 with ⟨_, z⟩ | ⟨_, z⟩ | ⟨_, z⟩ <;> rw [z] at hal ⊢ <;> omega
        have q : df_X16_has n v (nI (szO o)) X = some (nI 1, X) := by
          rw [hs_ya n o rfl nm hg]
          exact hs_k n (szO o) a A f (by omega) ha h1 hv bd hf pg (szO o) 0 n (by omega) (by omega)
        rw [ac_0 n o k hok q, if_neg (by decide)]
        have ce : ∀ i : Nat, i < szO o → df_X16_cell n (nI (A + i)) X = some (bw (wd4 X a (A + i)) (8 * ((A + i) % 4)), X) := fun i hi => cl_1 n ha (by omega) h1 hf (pg i hi)
        obtain ⟨m, em⟩ : ∃ m : Nat, n = m + 1 + 1 + 1 + 1 + 1 := ⟨n - 5, by omega⟩
        have e2 : df_X15_access_47 n n = df_X15_access_47 n (m + 1 + 1 + 1 + 1 + 1) := congrArg _ em
        rw [e2]
        show _ = df_X15_give n (rdZ X a o A) (Y, X)
        unfold rdZ
        rcases s4 with ⟨y, z⟩ | ⟨y, z⟩ | ⟨y, z⟩
        · subst y
          rw [z] at hal ce ⊢
          rw [if_pos rfl, ac_t n _ 0 4 (by omega) (by omega) hv (ce 0 (by omega)), ac_t n _ 1 4 (by omega) (by omega) hv (ce 1 (by omega)), ac_t n _ 2 4 (by omega) (by omega) hv (ce 2 (by omega)), ac_t n _ 3 4 (by omega) (by omega) hv (ce 3 (by omega)), ac_e n m 4 (by omega), if_neg (by decide), wd_n 0 (by omega), wd_n 1 (by omega), wd_n 2 (by omega), wd_n 3 (by omega), show (A + 0) % 4 = 0 by omega, show (A + 1) % 4 = 1 by omega, show (A + 2) % 4 = 2 by omega, show (A + 3) % 4 = 3 by omega, lb_0, lb_w4]
        · subst y
          rw [z] at hal ce ⊢
          rw [if_neg (by decide), if_pos rfl, ac_t n _ 0 2 (by omega) (by omega) hv (ce 0 (by omega)), ac_t n _ 1 2 (by omega) (by omega) hv (ce 1 (by omega)), ac_e n (m + 1 + 1) 2 (by omega), if_pos rfl, wd_n 0 (by omega), wd_n 1 (by omega), lb_0, Nat.add_zero, lb_16, lb_h hal]
        · subst y
          rw [z] at hal ce ⊢
          rw [if_neg (by decide), if_neg (by decide), ac_t n _ 0 1 (by omega) (by omega) hv (ce 0 (by omega)), ac_e n (m + 1 + 1 + 1) 1 (by omega), if_neg (by decide), lb_0, Nat.add_zero]
  · refine ⟨none, fun o1 o2 => ⟨fun Cd => in_no n o o1 o2 (Or.inr hg) (Or.inr ⟨ha, h3⟩), fun k Y hok => ?_⟩⟩
    rw [ac_0 n o k hok (hs_no n o rfl (Or.inr hg) (by omega)), if_pos (show nI 0 = (0 : Int32) from rfl)]
theorem le0m : ¬ nI 0 ≤ -nI 1 := by decide
theorem en_tie (n : Nat) (hn : 100 < n) {B c : Nat} {M X : St × St} (h : rM B M X) (hs : sD n X) (hc : sI X.1 0 = nI c) : ∃ E : Evn, eC n c M E ∧ eR n X E := by
  have e3 := h.2.2.2.2.1.1
  have hnow : df_X16_now n X = some (nI c, X) := by rw [← hc]; rfl
  rcases hs.2 with ⟨e1, _⟩ | ⟨a, ha, e1, es⟩
  · rw [e1] at e3
    refine ⟨(fun _ => 0, (-nI 1).toInt64, (nI c).toInt64, fun _ _ => none), ⟨fun r hr => ?_, fun x => ?_, fun x => ?_, fun o v Cd o1 o2 => ?_⟩, fun r hr => ⟨nI 0, ?_, rfl⟩, ?_, ⟨nI c, hnow, rfl⟩, fun o k v Y hok => ?_⟩
    · simp (disch := (first | assumption | decide | omega)) only [df_X2_operand_50, df_X2_operand_0, df_X2_operand, e3, le0m, eq_self, Nat.reduceEqDiff, Nat.reduceLeDiff, nl_0, nl_3, nl_31, nl_32, nl_33, no_1, no_1024, pk_mul, nI_add, nm_ck, nI_clamp, nI_ltI, nI_leI, nI_eq, nb_b2, nb_b1, ↓nb_let, nm_z0, nm_z1, nb_II, nb_IR, nb_RI, nb_RR, nm_IL, nm_IQ, nm_RL, nm_RQ, nm_LI, nm_LR, nm_LL, nm_LQ, nm_QI, nm_QR, nm_QL, nm_QQ, nm_rr, nm_ii, nm_eqm, not_false_eq_true, pk_sub, nm_div, nm_shl, nm_shr, nm_ush, nm_or8, nm_or64, nm_or256, nm_m1, nm_m3, nm_m7, nm_m15, nm_m31, nm_m63, nm_m255, nm_m511, nm_m1023, nm_m2047, nm_m65535, Nat.reduceMod, Nat.reducePow, Nat.reduceAdd, Nat.reduceSub, Nat.reduceMul, nm_bo, nm_bi, nm_rc, nm_ic, nm_ri, nm_rl, nm_rq, nm_ql, nm_qi, nm_li, nm_us, nm_uu, nm_cp, nm_sa31, nm_sa7, nm_m127, nm_m2, nm_nz, nm_nzk, nm_eq32, nm_nzf, if_true, if_false, ↓reduceIte, if_pos, if_neg]
    · simp (disch := (first | assumption | decide | omega)) only [df_X2_operand_50, df_X2_operand_0, df_X2_operand, e3, eq_self, Nat.reduceEqDiff, Nat.reduceLeDiff, nl_0, nl_3, nl_31, nl_32, nl_33, no_1, no_1024, pk_mul, nI_add, nm_ck, nI_clamp, nI_ltI, nI_leI, nI_eq, nb_b2, nb_b1, ↓nb_let, nm_z0, nm_z1, nb_II, nb_IR, nb_RI, nb_RR, nm_IL, nm_IQ, nm_RL, nm_RQ, nm_LI, nm_LR, nm_LL, nm_LQ, nm_QI, nm_QR, nm_QL, nm_QQ, nm_rr, nm_ii, nm_eqm, not_false_eq_true, pk_sub, nm_div, nm_shl, nm_shr, nm_ush, nm_or8, nm_or64, nm_or256, nm_m1, nm_m3, nm_m7, nm_m15, nm_m31, nm_m63, nm_m255, nm_m511, nm_m1023, nm_m2047, nm_m65535, Nat.reduceMod, Nat.reducePow, Nat.reduceAdd, Nat.reduceSub, Nat.reduceMul, nm_bo, nm_bi, nm_rc, nm_ic, nm_ri, nm_rl, nm_rq, nm_ql, nm_qi, nm_li, nm_us, nm_uu, nm_cp, nm_sa31, nm_sa7, nm_m127, nm_m2, nm_nz, nm_nzk, nm_eq32, nm_nzf, if_true, if_false, ↓reduceIte, if_pos, if_neg]
    · simp (disch := (first | assumption | decide | omega)) only [df_X2_operand_50, df_X2_operand_0, df_X2_operand, e3, eq_self, Nat.reduceEqDiff, Nat.reduceLeDiff, nl_0, nl_3, nl_31, nl_32, nl_33, no_1, no_1024, pk_mul, nI_add, nm_ck, nI_clamp, nI_ltI, nI_leI, nI_eq, nb_b2, nb_b1, ↓nb_let, nm_z0, nm_z1, nb_II, nb_IR, nb_RI, nb_RR, nm_IL, nm_IQ, nm_RL, nm_RQ, nm_LI, nm_LR, nm_LL, nm_LQ, nm_QI, nm_QR, nm_QL, nm_QQ, nm_rr, nm_ii, nm_eqm, not_false_eq_true, pk_sub, nm_div, nm_shl, nm_shr, nm_ush, nm_or8, nm_or64, nm_or256, nm_m1, nm_m3, nm_m7, nm_m15, nm_m31, nm_m63, nm_m255, nm_m511, nm_m1023, nm_m2047, nm_m65535, Nat.reduceMod, Nat.reducePow, Nat.reduceAdd, Nat.reduceSub, Nat.reduceMul, nm_bo, nm_bi, nm_rc, nm_ic, nm_ri, nm_rl, nm_rq, nm_ql, nm_qi, nm_li, nm_us, nm_uu, nm_cp, nm_sa31, nm_sa7, nm_m127, nm_m2, nm_nz, nm_nzk, nm_eq32, nm_nzf, if_true, if_false, ↓reduceIte, if_pos, if_neg]
    · exact in_no n o (a := 0) o1 o2 (Or.inl e3) (Or.inl e3)
    · simp (disch := (first | assumption | decide | omega)) only [df_X16_value_44, df_X16_value_0, df_X16_value, e1, eq_self, Nat.reduceEqDiff, Nat.reduceLeDiff, nl_0, nl_1, nl_9, nl_10, nl_16, nl_32, nl_512, no_1, no_1024, pk_mul, nI_add, nm_ck, nI_clamp, nI_ltI, nI_leI, nI_eq, nb_b2, nb_b1, ↓nb_let, nm_z0, nm_z1, nb_II, nb_IR, nb_RI, nb_RR, nm_IL, nm_IQ, nm_RL, nm_RQ, nm_LI, nm_LR, nm_LL, nm_LQ, nm_QI, nm_QR, nm_QL, nm_QQ, nm_rr, nm_ii, nm_eqm, not_false_eq_true, pk_sub, nm_div, nm_shl, nm_shr, nm_ush, nm_or8, nm_or64, nm_or256, nm_m1, nm_m3, nm_m7, nm_m15, nm_m31, nm_m63, nm_m255, nm_m511, nm_m1023, nm_m2047, nm_m65535, Nat.reduceMod, Nat.reducePow, Nat.reduceAdd, Nat.reduceSub, Nat.reduceMul, nm_bo, nm_bi, nm_rc, nm_ic, nm_ri, nm_rl, nm_rq, nm_ql, nm_qi, nm_li, nm_us, nm_uu, nm_cp, nm_sa31, nm_sa7, nm_m127, nm_m2, nm_nz, nm_nzk, nm_eq32, nm_nzf, if_true, if_false, ↓reduceIte, if_pos, if_neg]
    · rw [ct_2 n (by omega), e1]
    · show _ = df_X15_fail n (Y, X)
      rw [ac_0 n o k hok (hs_no n o rfl (Or.inl e1) (by omega)), if_pos (show nI 0 = (0 : Int32) from rfl)]
  · rw [e1] at e3
    have key := rd_both n hn h.1 ha e3 e1
    obtain ⟨t, cc, w, b, e, t4, _, _, _, _, d1, d2, _, _, _, _, _, _, _, _, _, _, _, _, _, _, hr, _⟩ := h.2.2.1 a ha
    have t1 : t = 1 := by
      rw [d2, nI_eq (by omega) (by omega)] at es
      exact es
    subst t1
    obtain ⟨r1, r2⟩ := hr (by omega)
    have nmm : ¬ nI a = -nI 1 := nk_ne (by omega)
    refine ⟨(fun r => (if r = 32 then sR X.1 10 a else sR X.1 9 (32 * a + r)).toInt64, (nI a).toInt64, (nI c).toInt64, fun o v => Classical.choose (key o v)), ⟨fun r hr => ?_, fun x => ?_, fun x => ?_, fun o v Cd o1 o2 => (Classical.choose_spec (key o v) o1 o2).1 Cd⟩, fun r hr => ⟨if r = 32 then sR X.1 10 a else sR X.1 9 (32 * a + r), ?_, rfl⟩, ?_, ⟨nI c, hnow, rfl⟩, fun o k v Y hok => (Classical.choose_spec (key o v) (by omega) (by omega)).2 k Y hok⟩
    · have kk : df_X6_registerOf n (nI a) (nI r) M = some (if r = 32 then sR X.1 10 a else sR X.1 9 (32 * a + r), M) := by
        have u1 : a < 2 ^ 31 := by omega
        have u4 : a * 7 < 112 := by omega
        have u5 : a * 33 + r < 528 := by omega
        by_cases y : r = 32
        · subst y
          rw [if_pos rfl, ← r2]
          simp (disch := (first | assumption | decide | omega)) only [df_X6_registerOf_23, df_X6_registerOf_0, df_X6_registerOf, df_X6_status_0, df_X6_status, d1, Nat.add_zero, eq_self, Nat.reduceEqDiff, Nat.reduceLeDiff, nl_0, nl_3, nl_6, nl_7, nl_33, nl_112, nl_528, no_1, no_1024, pk_mul, nI_add, nm_ck, nI_clamp, nI_ltI, nI_leI, nI_eq, nb_b2, nb_b1, ↓nb_let, nm_z0, nm_z1, nb_II, nb_IR, nb_RI, nb_RR, nm_IL, nm_IQ, nm_RL, nm_RQ, nm_LI, nm_LR, nm_LL, nm_LQ, nm_QI, nm_QR, nm_QL, nm_QQ, nm_rr, nm_ii, nm_eqm, not_false_eq_true, pk_sub, nm_div, nm_shl, nm_shr, nm_ush, nm_or8, nm_or64, nm_or256, nm_m1, nm_m3, nm_m7, nm_m15, nm_m31, nm_m63, nm_m255, nm_m511, nm_m1023, nm_m2047, nm_m65535, Nat.reduceMod, Nat.reducePow, Nat.reduceAdd, Nat.reduceSub, Nat.reduceMul, nm_bo, nm_bi, nm_rc, nm_ic, nm_ri, nm_rl, nm_rq, nm_ql, nm_qi, nm_li, nm_us, nm_uu, nm_cp, nm_sa31, nm_sa7, nm_m127, nm_m2, nm_nz, nm_nzk, nm_eq32, nm_nzf, if_true, if_false, ↓reduceIte, if_pos, if_neg]
        · rw [if_neg y, ← r1 r (by omega)]
          simp (disch := (first | assumption | decide | omega)) only [df_X6_registerOf_23, df_X6_registerOf_0, df_X6_registerOf, df_X6_status_0, df_X6_status, d1, Nat.add_zero, eq_self, Nat.reduceEqDiff, Nat.reduceLeDiff, nl_0, nl_3, nl_6, nl_7, nl_33, nl_112, nl_528, no_1, no_1024, pk_mul, nI_add, nm_ck, nI_clamp, nI_ltI, nI_leI, nI_eq, nb_b2, nb_b1, ↓nb_let, nm_z0, nm_z1, nb_II, nb_IR, nb_RI, nb_RR, nm_IL, nm_IQ, nm_RL, nm_RQ, nm_LI, nm_LR, nm_LL, nm_LQ, nm_QI, nm_QR, nm_QL, nm_QQ, nm_rr, nm_ii, nm_eqm, not_false_eq_true, pk_sub, nm_div, nm_shl, nm_shr, nm_ush, nm_or8, nm_or64, nm_or256, nm_m1, nm_m3, nm_m7, nm_m15, nm_m31, nm_m63, nm_m255, nm_m511, nm_m1023, nm_m2047, nm_m65535, Nat.reduceMod, Nat.reducePow, Nat.reduceAdd, Nat.reduceSub, Nat.reduceMul, nm_bo, nm_bi, nm_rc, nm_ic, nm_ri, nm_rl, nm_rq, nm_ql, nm_qi, nm_li, nm_us, nm_uu, nm_cp, nm_sa31, nm_sa7, nm_m127, nm_m2, nm_nz, nm_nzk, nm_eq32, nm_nzf, if_true, if_false, ↓reduceIte, if_pos, if_neg]
      simp (disch := (first | assumption | decide | omega)) only [df_X2_operand_50, df_X2_operand_0, df_X2_operand, e3, t3b, kk, eq_self, Nat.reduceEqDiff, Nat.reduceLeDiff, nl_0, nl_3, nl_31, nl_32, nl_33, no_1, no_1024, pk_mul, nI_add, nm_ck, nI_clamp, nI_ltI, nI_leI, nI_eq, nb_b2, nb_b1, ↓nb_let, nm_z0, nm_z1, nb_II, nb_IR, nb_RI, nb_RR, nm_IL, nm_IQ, nm_RL, nm_RQ, nm_LI, nm_LR, nm_LL, nm_LQ, nm_QI, nm_QR, nm_QL, nm_QQ, nm_rr, nm_ii, nm_eqm, not_false_eq_true, pk_sub, nm_div, nm_shl, nm_shr, nm_ush, nm_or8, nm_or64, nm_or256, nm_m1, nm_m3, nm_m7, nm_m15, nm_m31, nm_m63, nm_m255, nm_m511, nm_m1023, nm_m2047, nm_m65535, Nat.reduceMod, Nat.reducePow, Nat.reduceAdd, Nat.reduceSub, Nat.reduceMul, nm_bo, nm_bi, nm_rc, nm_ic, nm_ri, nm_rl, nm_rq, nm_ql, nm_qi, nm_li, nm_us, nm_uu, nm_cp, nm_sa31, nm_sa7, nm_m127, nm_m2, nm_nz, nm_nzk, nm_eq32, nm_nzf, if_true, if_false, ↓reduceIte, if_pos, if_neg]
    · simp (disch := (first | assumption | decide | omega)) only [df_X2_operand_50, df_X2_operand_0, df_X2_operand, e3, eq_self, Nat.reduceEqDiff, Nat.reduceLeDiff, nl_0, nl_3, nl_31, nl_32, nl_33, no_1, no_1024, pk_mul, nI_add, nm_ck, nI_clamp, nI_ltI, nI_leI, nI_eq, nb_b2, nb_b1, ↓nb_let, nm_z0, nm_z1, nb_II, nb_IR, nb_RI, nb_RR, nm_IL, nm_IQ, nm_RL, nm_RQ, nm_LI, nm_LR, nm_LL, nm_LQ, nm_QI, nm_QR, nm_QL, nm_QQ, nm_rr, nm_ii, nm_eqm, not_false_eq_true, pk_sub, nm_div, nm_shl, nm_shr, nm_ush, nm_or8, nm_or64, nm_or256, nm_m1, nm_m3, nm_m7, nm_m15, nm_m31, nm_m63, nm_m255, nm_m511, nm_m1023, nm_m2047, nm_m65535, Nat.reduceMod, Nat.reducePow, Nat.reduceAdd, Nat.reduceSub, Nat.reduceMul, nm_bo, nm_bi, nm_rc, nm_ic, nm_ri, nm_rl, nm_rq, nm_ql, nm_qi, nm_li, nm_us, nm_uu, nm_cp, nm_sa31, nm_sa7, nm_m127, nm_m2, nm_nz, nm_nzk, nm_eq32, nm_nzf, if_true, if_false, ↓reduceIte, if_pos, if_neg]
    · simp (disch := (first | assumption | decide | omega)) only [df_X2_operand_50, df_X2_operand_0, df_X2_operand, e3, eq_self, Nat.reduceEqDiff, Nat.reduceLeDiff, nl_0, nl_3, nl_31, nl_32, nl_33, no_1, no_1024, pk_mul, nI_add, nm_ck, nI_clamp, nI_ltI, nI_leI, nI_eq, nb_b2, nb_b1, ↓nb_let, nm_z0, nm_z1, nb_II, nb_IR, nb_RI, nb_RR, nm_IL, nm_IQ, nm_RL, nm_RQ, nm_LI, nm_LR, nm_LL, nm_LQ, nm_QI, nm_QR, nm_QL, nm_QQ, nm_rr, nm_ii, nm_eqm, not_false_eq_true, pk_sub, nm_div, nm_shl, nm_shr, nm_ush, nm_or8, nm_or64, nm_or256, nm_m1, nm_m3, nm_m7, nm_m15, nm_m31, nm_m63, nm_m255, nm_m511, nm_m1023, nm_m2047, nm_m65535, Nat.reduceMod, Nat.reducePow, Nat.reduceAdd, Nat.reduceSub, Nat.reduceMul, nm_bo, nm_bi, nm_rc, nm_ic, nm_ri, nm_rl, nm_rq, nm_ql, nm_qi, nm_li, nm_us, nm_uu, nm_cp, nm_sa31, nm_sa7, nm_m127, nm_m2, nm_nz, nm_nzk, nm_eq32, nm_nzf, if_true, if_false, ↓reduceIte, if_pos, if_neg]
    · by_cases y : r = 32
      · subst y
        rw [if_pos rfl]
        simp (disch := (first | assumption | decide | omega)) only [df_X16_value_44, df_X16_value_0, df_X16_value, e1, nmm, eq_self, Nat.reduceEqDiff, Nat.reduceLeDiff, nl_0, nl_1, nl_9, nl_10, nl_16, nl_32, nl_512, no_1, no_1024, pk_mul, nI_add, nm_ck, nI_clamp, nI_ltI, nI_leI, nI_eq, nb_b2, nb_b1, ↓nb_let, nm_z0, nm_z1, nb_II, nb_IR, nb_RI, nb_RR, nm_IL, nm_IQ, nm_RL, nm_RQ, nm_LI, nm_LR, nm_LL, nm_LQ, nm_QI, nm_QR, nm_QL, nm_QQ, nm_rr, nm_ii, nm_eqm, not_false_eq_true, pk_sub, nm_div, nm_shl, nm_shr, nm_ush, nm_or8, nm_or64, nm_or256, nm_m1, nm_m3, nm_m7, nm_m15, nm_m31, nm_m63, nm_m255, nm_m511, nm_m1023, nm_m2047, nm_m65535, Nat.reduceMod, Nat.reducePow, Nat.reduceAdd, Nat.reduceSub, Nat.reduceMul, nm_bo, nm_bi, nm_rc, nm_ic, nm_ri, nm_rl, nm_rq, nm_ql, nm_qi, nm_li, nm_us, nm_uu, nm_cp, nm_sa31, nm_sa7, nm_m127, nm_m2, nm_nz, nm_nzk, nm_eq32, nm_nzf, if_true, if_false, ↓reduceIte, if_pos, if_neg]
      · rw [if_neg y]
        have u6 : 32 * a + r < 512 := by omega
        simp (disch := (first | assumption | decide | omega)) only [df_X16_value_44, df_X16_value_0, df_X16_value, e1, nmm, eq_self, Nat.reduceEqDiff, Nat.reduceLeDiff, nl_0, nl_1, nl_9, nl_10, nl_16, nl_32, nl_512, no_1, no_1024, pk_mul, nI_add, nm_ck, nI_clamp, nI_ltI, nI_leI, nI_eq, nb_b2, nb_b1, ↓nb_let, nm_z0, nm_z1, nb_II, nb_IR, nb_RI, nb_RR, nm_IL, nm_IQ, nm_RL, nm_RQ, nm_LI, nm_LR, nm_LL, nm_LQ, nm_QI, nm_QR, nm_QL, nm_QQ, nm_rr, nm_ii, nm_eqm, not_false_eq_true, pk_sub, nm_div, nm_shl, nm_shr, nm_ush, nm_or8, nm_or64, nm_or256, nm_m1, nm_m3, nm_m7, nm_m15, nm_m31, nm_m63, nm_m255, nm_m511, nm_m1023, nm_m2047, nm_m65535, Nat.reduceMod, Nat.reducePow, Nat.reduceAdd, Nat.reduceSub, Nat.reduceMul, nm_bo, nm_bi, nm_rc, nm_ic, nm_ri, nm_rl, nm_rq, nm_ql, nm_qi, nm_li, nm_us, nm_uu, nm_cp, nm_sa31, nm_sa7, nm_m127, nm_m2, nm_nz, nm_nzk, nm_eq32, nm_nzf, if_true, if_false, ↓reduceIte, if_pos, if_neg]
    · rw [ct_2 n (by omega), e1]

/-- a piece of the class's code is worked at as a whole -/
theorem ev_R (n : Nat) (hn : 200 < n) {c : Nat} {M : St × St} {E : Evn} {d : Dn} {s b b' j0 j1 : Nat} {C : Nat → Int32} {A : Nat → Int64} {T : Nat → Int32} (hE : eC n c M E) (h : gC d s b b' j0 j1 C A T) (hs : s ≤ 41) (hb : b' ≤ 160) {w : Nat → Int64} {S : St} (h1 : ∀ i : Nat, b ≤ i → i < b' → sR S 0 i = C i ∧ sQ S 0 i = A i) (h2 : ∀ j : Nat, j0 ≤ j → j < j1 → sR S 4 j = T j ∧ sQ S 2 j = w j) : ∃ (x : Int64) (S2 : St), df_X2_evaluate n (nI c) (nI b) (nI b') (nd_st0, (S, M)) = some (x, (nd_st0, (S2, M))) ∧ cSt S S2 ∧ sQ S2 2 = sQ S 2 ∧ (if sI S2 3 = 0 then x else 0) = (d E w).getD 0 := by
  have e : df_X2_evaluate n (nI c) (nI b) (nI b') (nd_st0, (S, M)) = df_X2_evaluate_13 n n (nI c) (nI b') (nI b) (nd_st0, (pI (pI S 3 (nI 0)) 1 (nI 0), M)) := rfl
  have k := h.2.2.2 n c M E w (pI (pI S 3 (nI 0)) 1 (nI 0)) 0 b' n hE h1 h2 rfl rfl (by omega) (Nat.le_refl _) hb (by omega)
  cases hd : d E w with
  | none =>
    obtain ⟨x, S2, k1, k2, k3⟩ := k.2 hd
    exact ⟨x, S2, e.trans k3, k1.1, k1.2.1, if_neg k2⟩
  | some v =>
    obtain ⟨g', S2, k1, k2, k3, k4, k5, k6⟩ := k.1 v hd
    obtain ⟨m, rfl⟩ : ∃ m : Nat, g' = m + 1 := ⟨g' - 1, by omega⟩
    refine ⟨v, S2, e.trans (k6.trans ?_), k2.1, k2.2.1, if_pos k4⟩
    simp (disch := (first | assumption | decide | omega)) only [(show df_X2_evaluate_13 n (m + 1) = dF_X2_evaluate_13 n (df_X2_evaluate_13 n m) from rfl), dF_X2_evaluate_13, df_X2_evaluate_372, df_X2_evaluate_355, df_X2_evaluate_349, df_X2_evaluate_141, df_X2_evaluate_221, df_X2_evaluate_196, df_X2_evaluate_184, df_X2_evaluate_163, df_X2_evaluate_149, df_X2_evaluate_71, df_X2_evaluate_0, df_X2_evaluate, k3, k5, eq_self, Nat.reduceEqDiff, Nat.reduceLeDiff, nl_0, nl_1, nl_2, nl_3, nl_4, nl_19, nl_23, nl_30, nl_33, nl_34, nl_35, nl_40, nl_41, nl_160, no_1, no_1024, pk_mul, nI_add, nm_ck, nI_clamp, nI_ltI, nI_leI, nI_eq, nb_b2, nb_b1, ↓nb_let, nm_z0, nm_z1, nb_II, nb_IR, nb_RI, nb_RR, nm_IL, nm_IQ, nm_RL, nm_RQ, nm_LI, nm_LR, nm_LL, nm_LQ, nm_QI, nm_QR, nm_QL, nm_QQ, nm_rr, nm_ii, nm_eqm, not_false_eq_true, pk_sub, nm_div, nm_shl, nm_shr, nm_ush, nm_or8, nm_or64, nm_or256, nm_m1, nm_m3, nm_m7, nm_m15, nm_m31, nm_m63, nm_m255, nm_m511, nm_m1023, nm_m2047, nm_m65535, Nat.reduceMod, Nat.reducePow, Nat.reduceAdd, Nat.reduceSub, Nat.reduceMul, nm_bo, nm_bi, nm_rc, nm_ic, nm_ri, nm_rl, nm_rq, nm_ql, nm_qi, nm_li, nm_us, nm_uu, nm_cp, nm_sa31, nm_sa7, nm_m127, nm_m2, nm_nz, nm_nzk, nm_eq32, nm_nzf, if_true, if_false, ↓reduceIte, if_pos, if_neg]
theorem wk_R (n : Nat) (hn : 400 < n) {X : St × St} {E : Evn} {d : Dn} {os ro f l j0 j1 : Nat} {K P : Nat → Int32} {N : Nat → Int64} {pos : Nat → Nat} (hE : eR n X E) (h : gR d os ro f l j0 j1 K P N pos) {β : Nat} (hb : β + l ≤ 960) {w : Nat → Int64} {Y : St} (h1 : plc β f l K P N Y) (h2 : ∀ j : Nat, j0 ≤ j → j < j1 → sQ Y 1 (β + pos j) = w j) : ∃ Y2 : St, df_X15_work n (nI (β + f)) (nI (β + l)) (Y, X) = some ((d E w).getD 0, (Y2, X)) ∧ yE 0 Y Y2 := by
  have hbg := bgn_1 n 0 (a := nI (β + f)) (b := nI (β + l)) (Y := pI (pI Y 7 (nI 0)) 8 (nI 0)) (X := X) (by omega) rfl
  have e : df_X15_work n (nI (β + f)) (nI (β + l)) (Y, X) = df_X15_work_18 n n (nI 0) (bgn (pI (pI Y 7 (nI 0)) 8 (nI 0)) 0 (nI (β + f)) (nI (β + l)), X) := by
    unfold df_X15_work df_X15_work_0
    simp (disch := (first | assumption | decide | omega)) only [hbg, eq_self, Nat.reduceEqDiff, Nat.reduceLeDiff, nl_0, no_1, no_1024, pk_mul, nI_add, nm_ck, nI_clamp, nI_ltI, nI_leI, nI_eq, nb_b2, nb_b1, ↓nb_let, nm_z0, nm_z1, nb_II, nb_IR, nb_RI, nb_RR, nm_IL, nm_IQ, nm_RL, nm_RQ, nm_LI, nm_LR, nm_LL, nm_LQ, nm_QI, nm_QR, nm_QL, nm_QQ, nm_rr, nm_ii, nm_eqm, not_false_eq_true, pk_sub, nm_div, nm_shl, nm_shr, nm_ush, nm_or8, nm_or64, nm_or256, nm_m1, nm_m3, nm_m7, nm_m15, nm_m31, nm_m63, nm_m255, nm_m511, nm_m1023, nm_m2047, nm_m65535, Nat.reduceMod, Nat.reducePow, Nat.reduceAdd, Nat.reduceSub, Nat.reduceMul, nm_bo, nm_bi, nm_rc, nm_ic, nm_ri, nm_rl, nm_rq, nm_ql, nm_qi, nm_li, nm_us, nm_uu, nm_cp, nm_sa31, nm_sa7, nm_m127, nm_m2, nm_nz, nm_nzk, nm_eq32, nm_nzf, if_true, if_false, ↓reduceIte, if_pos, if_neg]
  have y0 : yE 0 Y (bgn (pI (pI Y 7 (nI 0)) 8 (nI 0)) 0 (nI (β + f)) (nI (β + l))) := ⟨yFr_m rfl rfl rfl rfl rfl, rfl, fun i hi => by omega⟩
  have x8 : sR (bgn (pI (pI Y 7 (nI 0)) 8 (nI 0)) 0 (nI (β + f)) (nI (β + l))) 8 0 = nI (β + f) := rfl
  have x9 : sR (bgn (pI (pI Y 7 (nI 0)) 8 (nI 0)) 0 (nI (β + f)) (nI (β + l))) 9 0 = nI (β + l) := rfl
  have x11 : sR (bgn (pI (pI Y 7 (nI 0)) 8 (nI 0)) 0 (nI (β + f)) (nI (β + l))) 11 0 = nI 0 := rfl
  have x7 : sI (bgn (pI (pI Y 7 (nI 0)) 8 (nI 0)) 0 (nI (β + f)) (nI (β + l))) 7 = nI (0 + 1) := rfl
  generalize bgn (pI (pI Y 7 (nI 0)) 8 (nI 0)) 0 (nI (β + f)) (nI (β + l)) = Y1 at e y0 x8 x9 x11 x7
  have l120 := h.2.1
  have k := h.2.2.2.2.2.2 n β X E w Y1 0 n 0 (by omega) hE (plc_E h1 y0) hb (fun j a b => by rw [y0.2.1]; exact h2 j a b) x7 x8 x9 x11 (by omega) (by omega) (by omega)
  cases hd : d E w with
  | none =>
    obtain ⟨Y2, k1, k2⟩ := k.2 hd
    exact ⟨Y2, e.trans k2, yE_t y0 k1⟩
  | some v =>
    obtain ⟨g', x', Y2, k1, k2, k3, k4, k5, k6⟩ := k.1 v hd
    obtain ⟨m, rfl⟩ : ∃ m : Nat, g' = m + 1 := ⟨g' - 1, by omega⟩
    refine ⟨Y2, e.trans (k6.trans ?_), yE_t y0 k3⟩
    rw [wkr_0 n m x' (by omega) k4, k5]
    rfl
/-- what each 'old' and 'changed' of a piece remembers, in both -/
def gO (b b' f l j0 j1 : Nat) (C : Nat → Int32) (A : Nat → Int64) (F T K P : Nat → Int32) (N : Nat → Int64) (pos : Nat → Nat) : Prop := (∀ j : Nat, j0 ≤ j → j < j1 → ∃ (d : Dn) (s os ro q b1 b2 : Nat), b ≤ b1 ∧ b2 ≤ b' ∧ s ≤ 41 ∧ F j = nI b1 ∧ T j = nI b2 ∧ gC d s b1 b2 (j + 1) (j + 1) C A T ∧ f ≤ pos j ∧ q < l ∧ P (pos j + 1) = nI q ∧ gR d os ro (pos j + 2) q (j + 1) (j + 1) K P N pos ∧ (K (pos j) = nI 8 ∨ K (pos j) = nI 9)) ∧ ∀ t : Nat, f ≤ t → t < l → K t = nI 8 ∨ K t = nI 9 → ∃ j : Nat, j0 ≤ j ∧ j < j1 ∧ pos j = t
/-- a condition, in both, from its pieces -/
theorem bCd_1 (n : Nat) (hn : 1000 < n) {k N : Nat} (hk : k < 8) (hN : N ≤ 40) {Cd Y : St} {d : Dn} {s os ro b l : Nat} {K P : Nat → Int32} {Nn : Nat → Int64} {pos : Nat → Nat} (c2 : sI Cd 2 = nI N) (c0 : sI Cd 0 = nI b) (hb : b ≤ 160) (hs : s ≤ 41) (gc : gC d s 0 b 0 N (sR Cd 0) (sQ Cd 0) (sR Cd 4)) (gr : gR d os ro 0 l 0 N K P Nn pos) (go : gO 0 b 0 l 0 N (sR Cd 0) (sQ Cd 0) (sR Cd 3) (sR Cd 4) K P Nn pos) (hm : sR Y 2 k = nI l) (hp : plc (120 * k) 0 l K P Nn Y) : bCd n k N (fun j => 120 * k + pos j) Cd Y := by
  have l120 := gr.2.1
  refine ⟨c2, hN, fun j hj => ?_, fun B c M X Cd' Y' h1 h2 h3 h4 h5 h6 => ?_⟩
  · obtain ⟨_, _, _, _, q, _, _, _, _, _, _, _, _, a1, a2, _, a3, _⟩ := go.1 j (by omega) hj
    have := a3.1
    show 120 * k ≤ 120 * k + pos j ∧ 120 * k + pos j < 120 * k + 120
    omega
  obtain ⟨E, eC1, eR1⟩ := en_tie n (by omega) h1 h2 h3
  have pl : ∀ Z : St, ySt k Y Z → plc (120 * k) 0 l K P Nn Z := fun Z hz t a b => by
    have q := hz.2 (120 * k + t) (by omega) (by omega)
    rw [q.1, q.2.1, q.2.2]
    exact hp t a b
  have V : ∀ j : Nat, ∃ v : Int64, j < N → (∀ S : St, cSt Cd S → ∃ (x : Int64) (S2 : St), df_X2_evaluate n (nI c) (sR Cd 3 j) (sR Cd 4 j) (nd_st0, (S, M)) = some (x, (nd_st0, (S2, M))) ∧ cSt S S2 ∧ sQ S2 2 = sQ S 2 ∧ (if sI S2 3 = 0 then x else 0) = v) ∧ ∀ Z : St, ySt k Y Z → ∃ Z2 : St, df_X15_work n (nI (120 * k + pos j + 2)) (sR Z 4 (120 * k + pos j + 1)) (Z, X) = some (v, (Z2, X)) ∧ yE 0 Z Z2 := fun j => by
    by_cases hj : j < N
    · obtain ⟨d', s', os', ro', q, b1, b2, a1, a2, a3, a4, a5, a6, a7, a8, a9, a10, a11⟩ := go.1 j (by omega) hj
      refine ⟨(d' E (fun _ => 0)).getD 0, fun _ => ⟨fun S hS => ?_, fun Z hZ => ?_⟩⟩
      · rw [a4, a5]
        exact ev_R n (by omega) eC1 a6 a3 (by omega) (fun i _ _ => by rw [hS.1, hS.2.1]; exact ⟨rfl, rfl⟩) (fun i p q => by omega)
      · have a12 := a10.1
        have pp : sR Z 4 (120 * k + pos j + 1) = nI (120 * k + q) := (pl Z hZ (pos j + 1) (by omega) (by omega)).2.2 q (by omega) a9
        rw [pp]
        exact wk_R n (by omega) eR1 a10 (by omega) (plc_w (pl Z hZ) (by omega) (by omega)) (fun i p q => by omega)
    · exact ⟨0, fun z => absurd z hj⟩
  constructor
  · -- both remember
    have hV := fun j => Classical.choose_spec (V j)
    generalize hW : (fun j => Classical.choose (V j)) = W at *
    have hV : ∀ j : Nat, j < N → (∀ S : St, cSt Cd S → ∃ (x : Int64) (S2 : St), df_X2_evaluate n (nI c) (sR Cd 3 j) (sR Cd 4 j) (nd_st0, (S, M)) = some (x, (nd_st0, (S2, M))) ∧ cSt S S2 ∧ sQ S2 2 = sQ S 2 ∧ (if sI S2 3 = 0 then x else 0) = W j) ∧ ∀ Z : St, ySt k Y Z → ∃ Z2 : St, df_X15_work n (nI (120 * k + pos j + 2)) (sR Z 4 (120 * k + pos j + 1)) (Z, X) = some (W j, (Z2, X)) ∧ yE 0 Z Z2 := fun j => by
      rw [← hW]
      exact hV j
    obtain ⟨m, C2, ⟨i1, i2⟩, e1⟩ := nm_l1 (fun g j S => df_X2_remember_2 n g (nI c) (nI j) (nd_st0, (S, M))) (fun j S => cSt Cd' S ∧ ∀ i : Nat, i < j → sQ S 2 i = W i) N n (by omega) (fun j m S hj ⟨i1, i2⟩ => by
      have cs := cSt_t h5 i1
      obtain ⟨x, S2, v1, v2, v3, v4⟩ := (hV j hj).1 S cs
      refine ⟨pQ S2 2 (vp_updL (sQ S2 2) j (W j)), ⟨cSt_t i1 (cSt_t v2 (cSt_r S2)), fun i hi => ?_⟩, ?_⟩
      · show vp_updL (sQ S2 2) j (W j) i = W i
        by_cases y : i = j
        · subst y
          exact if_pos rfl
        · rw [show vp_updL (sQ S2 2) j (W j) i = sQ S2 2 i from if_neg y, v3]
          exact i2 i (by omega)
      · have q2 : sI S 2 = nI N := by rw [cs.2.2.2.2.2]; exact c2
        have q3 : sR S 3 = sR Cd 3 := cs.2.2.2.1
        have q4 : sR S 4 = sR Cd 4 := cs.2.2.2.2.1
        by_cases y : sI S2 3 = 0
        · rw [if_pos y] at v4
          have y : sI S2 3 = nI 0 := y
          subst v4
          simp (disch := (first | assumption | decide | omega)) only [(show df_X2_remember_2 n (m + 1) = dF_X2_remember_2 n (df_X2_remember_2 n m) from rfl), dF_X2_remember_2, df_X2_remember_48, df_X2_remember_0, df_X2_remember, q2, q3, q4, v1, y, eq_self, Nat.reduceEqDiff, Nat.reduceLeDiff, nl_0, nl_1, nl_2, nl_3, nl_4, nl_40, no_1, no_1024, pk_mul, nI_add, nm_ck, nI_clamp, nI_ltI, nI_leI, nI_eq, nb_b2, nb_b1, ↓nb_let, nm_z0, nm_z1, nb_II, nb_IR, nb_RI, nb_RR, nm_IL, nm_IQ, nm_RL, nm_RQ, nm_LI, nm_LR, nm_LL, nm_LQ, nm_QI, nm_QR, nm_QL, nm_QQ, nm_rr, nm_ii, nm_eqm, not_false_eq_true, pk_sub, nm_div, nm_shl, nm_shr, nm_ush, nm_or8, nm_or64, nm_or256, nm_m1, nm_m3, nm_m7, nm_m15, nm_m31, nm_m63, nm_m255, nm_m511, nm_m1023, nm_m2047, nm_m65535, Nat.reduceMod, Nat.reducePow, Nat.reduceAdd, Nat.reduceSub, Nat.reduceMul, nm_bo, nm_bi, nm_rc, nm_ic, nm_ri, nm_rl, nm_rq, nm_ql, nm_qi, nm_li, nm_us, nm_uu, nm_cp, nm_sa31, nm_sa7, nm_m127, nm_m2, nm_nz, nm_nzk, nm_eq32, nm_nzf, if_true, if_false, ↓reduceIte, if_pos, if_neg]
        · rw [if_neg y] at v4
          have y : ¬ sI S2 3 = nI 0 := y
          rw [← v4]
          simp (disch := (first | assumption | decide | omega)) only [(show df_X2_remember_2 n (m + 1) = dF_X2_remember_2 n (df_X2_remember_2 n m) from rfl), dF_X2_remember_2, df_X2_remember_48, df_X2_remember_0, df_X2_remember, q2, q3, q4, v1, y, eq_self, Nat.reduceEqDiff, Nat.reduceLeDiff, nl_0, nl_1, nl_2, nl_3, nl_4, nl_40, no_1, no_1024, pk_mul, nI_add, nm_ck, nI_clamp, nI_ltI, nI_leI, nI_eq, nb_b2, nb_b1, ↓nb_let, nm_z0, nm_z1, nb_II, nb_IR, nb_RI, nb_RR, nm_IL, nm_IQ, nm_RL, nm_RQ, nm_LI, nm_LR, nm_LL, nm_LQ, nm_QI, nm_QR, nm_QL, nm_QQ, nm_rr, nm_ii, nm_eqm, not_false_eq_true, pk_sub, nm_div, nm_shl, nm_shr, nm_ush, nm_or8, nm_or64, nm_or256, nm_m1, nm_m3, nm_m7, nm_m15, nm_m31, nm_m63, nm_m255, nm_m511, nm_m1023, nm_m2047, nm_m65535, Nat.reduceMod, Nat.reducePow, Nat.reduceAdd, Nat.reduceSub, Nat.reduceMul, nm_bo, nm_bi, nm_rc, nm_ic, nm_ri, nm_rl, nm_rq, nm_ql, nm_qi, nm_li, nm_us, nm_uu, nm_cp, nm_sa31, nm_sa7, nm_m127, nm_m2, nm_nz, nm_nzk, nm_eq32, nm_nzf, if_true, if_false, ↓reduceIte, if_pos, if_neg]) Cd' ⟨cSt_r Cd', fun i hi => by omega⟩
    obtain ⟨m', Y2, ⟨r1, r2, r3⟩, e2⟩ := nm_l1 (fun g t Z => df_X15_remember_7 n g (nI k) (nI (120 * k)) (nI t) (Z, X)) (fun t Z => yFr Y' Z ∧ (∀ i : Nat, i < 120 * k ∨ 120 * k + 120 ≤ i → sQ Z 1 i = sQ Y' 1 i) ∧ ∀ j : Nat, j < N → pos j < t → sQ Z 1 (120 * k + pos j) = W j) l n (by omega) (fun t m Z ht ⟨i1, i2, i3⟩ => by
      have yZ : ySt k Y Z := ySt_t h6 (yFr_s i1 k)
      have q2 : sR Z 2 k = nI l := by rw [yZ.1]; exact hm
      have q3 := (pl Z yZ t (by omega) ht).1
      by_cases y : K t = nI 8 ∨ K t = nI 9
      · obtain ⟨j, _, j1, j2⟩ := go.2 t (by omega) ht y
        obtain ⟨Z2, w1, w2⟩ := (hV j j1).2 Z yZ
        rw [j2] at w1
        refine ⟨pQ Z2 1 (vp_updL (sQ Z2 1) (120 * k + t) (W j)), ⟨yFr_t i1 (yFr_t w2.1 (yFr_m rfl rfl rfl rfl rfl)), fun i hi => ?_, fun j' hj' hp' => ?_⟩, ?_⟩
        · rw [show sQ (pQ Z2 1 (vp_updL (sQ Z2 1) (120 * k + t) (W j))) 1 i = sQ Z2 1 i from if_neg (by omega), w2.2.1]
          exact i2 i hi
        · by_cases y2 : pos j' = t
          · obtain ⟨Z3, w3, _⟩ := (hV j' hj').2 Z yZ
            rw [y2, w1] at w3
            have w4 := congrArg Prod.fst (Option.some.inj w3)
            rw [y2, show sQ (pQ Z2 1 (vp_updL (sQ Z2 1) (120 * k + t) (W j))) 1 (120 * k + t) = W j from if_pos rfl]
            exact w4
          · rw [show sQ (pQ Z2 1 (vp_updL (sQ Z2 1) (120 * k + t) (W j))) 1 (120 * k + pos j') = sQ Z2 1 (120 * k + pos j') from if_neg (by omega), w2.2.1]
            exact i3 j' hj' (by omega)
        · have u1 : 120 * k + t + 1 < 960 := by
            obtain ⟨_, _, _, _, q, _, _, _, _, _, _, _, _, _, a8, _, a10, _⟩ := go.1 j (by omega) j1
            have := a10.1
            omega
          have u2 : 120 * k + t < 960 := by omega
          rcases y with y | y
          · rw [y] at q3
            simp (disch := (first | assumption | decide | omega)) only [(show df_X15_remember_7 n (m + 1) = dF_X15_remember_7 n (df_X15_remember_7 n m) from rfl), dF_X15_remember_7, df_X15_remember_70, df_X15_remember_43, df_X15_remember_0, df_X15_remember, q2, q3, w1, eq_self, Nat.reduceEqDiff, Nat.reduceLeDiff, nl_0, nl_1, nl_2, nl_3, nl_4, nl_8, nl_9, nl_120, nl_960, no_1, no_1024, pk_mul, nI_add, nm_ck, nI_clamp, nI_ltI, nI_leI, nI_eq, nb_b2, nb_b1, ↓nb_let, nm_z0, nm_z1, nb_II, nb_IR, nb_RI, nb_RR, nm_IL, nm_IQ, nm_RL, nm_RQ, nm_LI, nm_LR, nm_LL, nm_LQ, nm_QI, nm_QR, nm_QL, nm_QQ, nm_rr, nm_ii, nm_eqm, not_false_eq_true, pk_sub, nm_div, nm_shl, nm_shr, nm_ush, nm_or8, nm_or64, nm_or256, nm_m1, nm_m3, nm_m7, nm_m15, nm_m31, nm_m63, nm_m255, nm_m511, nm_m1023, nm_m2047, nm_m65535, Nat.reduceMod, Nat.reducePow, Nat.reduceAdd, Nat.reduceSub, Nat.reduceMul, nm_bo, nm_bi, nm_rc, nm_ic, nm_ri, nm_rl, nm_rq, nm_ql, nm_qi, nm_li, nm_us, nm_uu, nm_cp, nm_sa31, nm_sa7, nm_m127, nm_m2, nm_nz, nm_nzk, nm_eq32, nm_nzf, if_true, if_false, ↓reduceIte, if_pos, if_neg]
          · rw [y] at q3
            simp (disch := (first | assumption | decide | omega)) only [(show df_X15_remember_7 n (m + 1) = dF_X15_remember_7 n (df_X15_remember_7 n m) from rfl), dF_X15_remember_7, df_X15_remember_70, df_X15_remember_43, df_X15_remember_0, df_X15_remember, q2, q3, w1, eq_self, Nat.reduceEqDiff, Nat.reduceLeDiff, nl_0, nl_1, nl_2, nl_3, nl_4, nl_8, nl_9, nl_120, nl_960, no_1, no_1024, pk_mul, nI_add, nm_ck, nI_clamp, nI_ltI, nI_leI, nI_eq, nb_b2, nb_b1, ↓nb_let, nm_z0, nm_z1, nb_II, nb_IR, nb_RI, nb_RR, nm_IL, nm_IQ, nm_RL, nm_RQ, nm_LI, nm_LR, nm_LL, nm_LQ, nm_QI, nm_QR, nm_QL, nm_QQ, nm_rr, nm_ii, nm_eqm, not_false_eq_true, pk_sub, nm_div, nm_shl, nm_shr, nm_ush, nm_or8, nm_or64, nm_or256, nm_m1, nm_m3, nm_m7, nm_m15, nm_m31, nm_m63, nm_m255, nm_m511, nm_m1023, nm_m2047, nm_m65535, Nat.reduceMod, Nat.reducePow, Nat.reduceAdd, Nat.reduceSub, Nat.reduceMul, nm_bo, nm_bi, nm_rc, nm_ic, nm_ri, nm_rl, nm_rq, nm_ql, nm_qi, nm_li, nm_us, nm_uu, nm_cp, nm_sa31, nm_sa7, nm_m127, nm_m2, nm_nz, nm_nzk, nm_eq32, nm_nzf, if_true, if_false, ↓reduceIte, if_pos, if_neg]
      · refine ⟨Z, ⟨i1, i2, fun j' hj' hp' => i3 j' hj' ?_⟩, ?_⟩
        · have : ¬ pos j' = t := fun z => by
            obtain ⟨_, _, _, _, _, _, _, _, _, _, _, _, _, _, _, _, _, a11⟩ := go.1 j' (by omega) hj'
            rw [z] at a11
            exact y a11
          omega
        · have y1 : ¬ K t = nI 8 := fun z => y (Or.inl z)
          have y2 : ¬ K t = nI 9 := fun z => y (Or.inr z)
          have u2 : 120 * k + t < 960 := by omega
          simp (disch := (first | assumption | decide | omega)) only [(show df_X15_remember_7 n (m + 1) = dF_X15_remember_7 n (df_X15_remember_7 n m) from rfl), dF_X15_remember_7, df_X15_remember_70, df_X15_remember_43, df_X15_remember_0, df_X15_remember, q2, q3, y1, y2, eq_self, Nat.reduceEqDiff, Nat.reduceLeDiff, nl_0, nl_1, nl_2, nl_3, nl_4, nl_8, nl_9, nl_120, nl_960, no_1, no_1024, pk_mul, nI_add, nm_ck, nI_clamp, nI_ltI, nI_leI, nI_eq, nb_b2, nb_b1, ↓nb_let, nm_z0, nm_z1, nb_II, nb_IR, nb_RI, nb_RR, nm_IL, nm_IQ, nm_RL, nm_RQ, nm_LI, nm_LR, nm_LL, nm_LQ, nm_QI, nm_QR, nm_QL, nm_QQ, nm_rr, nm_ii, nm_eqm, not_false_eq_true, pk_sub, nm_div, nm_shl, nm_shr, nm_ush, nm_or8, nm_or64, nm_or256, nm_m1, nm_m3, nm_m7, nm_m15, nm_m31, nm_m63, nm_m255, nm_m511, nm_m1023, nm_m2047, nm_m65535, Nat.reduceMod, Nat.reducePow, Nat.reduceAdd, Nat.reduceSub, Nat.reduceMul, nm_bo, nm_bi, nm_rc, nm_ic, nm_ri, nm_rl, nm_rq, nm_ql, nm_qi, nm_li, nm_us, nm_uu, nm_cp, nm_sa31, nm_sa7, nm_m127, nm_m2, nm_nz, nm_nzk, nm_eq32, nm_nzf, if_true, if_false, ↓reduceIte, if_pos, if_neg]) Y' ⟨yFr_r Y', fun _ _ => rfl, fun j hj hp => by omega⟩
    refine ⟨C2, Y2, ?_, ?_, i1, r1, r2, fun j hj => ?_⟩
    · refine Eq.trans (show df_X2_remember n (nI c) (nd_st0, (Cd', M)) = df_X2_remember_2 n n (nI c) (nI 0) (nd_st0, (Cd', M)) from rfl) (Eq.trans e1 ?_)
      have q2 : sI C2 2 = nI N := by rw [(cSt_t h5 i1).2.2.2.2.2]; exact c2
      simp (disch := (first | assumption | decide | omega)) only [(show df_X2_remember_2 n (m + 1) = dF_X2_remember_2 n (df_X2_remember_2 n m) from rfl), dF_X2_remember_2, df_X2_remember_48, df_X2_remember_0, df_X2_remember, q2, eq_self, Nat.reduceEqDiff, Nat.reduceLeDiff, nl_0, nl_1, nl_2, nl_3, nl_4, nl_40, no_1, no_1024, pk_mul, nI_add, nm_ck, nI_clamp, nI_ltI, nI_leI, nI_eq, nb_b2, nb_b1, ↓nb_let, nm_z0, nm_z1, nb_II, nb_IR, nb_RI, nb_RR, nm_IL, nm_IQ, nm_RL, nm_RQ, nm_LI, nm_LR, nm_LL, nm_LQ, nm_QI, nm_QR, nm_QL, nm_QQ, nm_rr, nm_ii, nm_eqm, not_false_eq_true, pk_sub, nm_div, nm_shl, nm_shr, nm_ush, nm_or8, nm_or64, nm_or256, nm_m1, nm_m3, nm_m7, nm_m15, nm_m31, nm_m63, nm_m255, nm_m511, nm_m1023, nm_m2047, nm_m65535, Nat.reduceMod, Nat.reducePow, Nat.reduceAdd, Nat.reduceSub, Nat.reduceMul, nm_bo, nm_bi, nm_rc, nm_ic, nm_ri, nm_rl, nm_rq, nm_ql, nm_qi, nm_li, nm_us, nm_uu, nm_cp, nm_sa31, nm_sa7, nm_m127, nm_m2, nm_nz, nm_nzk, nm_eq32, nm_nzf, if_true, if_false, ↓reduceIte, if_pos, if_neg]
    · have e0 : df_X15_remember n (nI k) (Y', X) = df_X15_remember_7 n n (nI k) (nI (120 * k)) (nI 0) (Y', X) := by
        have q : (120 : Int32) * nI k = nI (120 * k) := pk_mul ..
        unfold df_X15_remember df_X15_remember_0
        rw [q, nb_let]
        rfl
      have q2 : sR Y2 2 k = nI l := by rw [(ySt_t h6 (yFr_s r1 k)).1]; exact hm
      have q5 : ∀ m : Nat, df_X15_remember_7 n (m + 1) (nI k) (nI (120 * k)) (nI l) (Y2, X) = some (Y2, X) := fun m => by
        simp (disch := (first | assumption | decide | omega)) only [(show df_X15_remember_7 n (m + 1) = dF_X15_remember_7 n (df_X15_remember_7 n m) from rfl), dF_X15_remember_7, df_X15_remember_70, df_X15_remember_43, df_X15_remember_0, df_X15_remember, q2, eq_self, Nat.reduceEqDiff, Nat.reduceLeDiff, nl_0, nl_1, nl_2, nl_3, nl_4, nl_8, nl_9, nl_120, nl_960, no_1, no_1024, pk_mul, nI_add, nm_ck, nI_clamp, nI_ltI, nI_leI, nI_eq, nb_b2, nb_b1, ↓nb_let, nm_z0, nm_z1, nb_II, nb_IR, nb_RI, nb_RR, nm_IL, nm_IQ, nm_RL, nm_RQ, nm_LI, nm_LR, nm_LL, nm_LQ, nm_QI, nm_QR, nm_QL, nm_QQ, nm_rr, nm_ii, nm_eqm, not_false_eq_true, pk_sub, nm_div, nm_shl, nm_shr, nm_ush, nm_or8, nm_or64, nm_or256, nm_m1, nm_m3, nm_m7, nm_m15, nm_m31, nm_m63, nm_m255, nm_m511, nm_m1023, nm_m2047, nm_m65535, Nat.reduceMod, Nat.reducePow, Nat.reduceAdd, Nat.reduceSub, Nat.reduceMul, nm_bo, nm_bi, nm_rc, nm_ic, nm_ri, nm_rl, nm_rq, nm_ql, nm_qi, nm_li, nm_us, nm_uu, nm_cp, nm_sa31, nm_sa7, nm_m127, nm_m2, nm_nz, nm_nzk, nm_eq32, nm_nzf, if_true, if_false, ↓reduceIte, if_pos, if_neg]
      exact Eq.trans e0 (Eq.trans e2 (q5 m'))
    · rw [i2 j hj]
      have : pos j < l := by
        obtain ⟨_, _, _, _, q, _, _, _, _, _, _, _, _, _, a8, _, a10, _⟩ := go.1 j (by omega) hj
        have := a10.1
        omega
      exact (r3 j hj this).symm
  · intro ti
    obtain ⟨x, C2, v1, v2, v3, v4⟩ := ev_R n (by omega) eC1 gc hs hb (w := sQ Cd' 2) (S := Cd') (fun i _ _ => by rw [h5.1, h5.2.1]; exact ⟨rfl, rfl⟩) (fun j _ _ => by rw [h5.2.2.2.2.1]; exact ⟨rfl, rfl⟩)
    obtain ⟨Y2, w1, w2⟩ := wk_R n (by omega) eR1 gr (β := 120 * k) (by omega) (w := sQ Cd' 2) (pl Y' h6) (fun j _ hj => (ti j hj).symm)
    refine ⟨(d E (sQ Cd' 2)).getD 0, C2, Y2, ?_, ?_, v2, v3, w2.1, w2.2.1⟩
    · have q0 : sI Cd' 0 = nI b := by rw [h5.2.2.1]; exact c0
      by_cases y : sI C2 3 = 0
      · rw [if_pos y] at v4
        have y : sI C2 3 = nI 0 := y
        rw [← v4]
        simp (disch := (first | assumption | decide | omega)) only [df_X2_worth_24, df_X2_worth_0, df_X2_worth, q0, v1, y, eq_self, Nat.reduceEqDiff, Nat.reduceLeDiff, nl_0, nl_3, no_1, no_1024, pk_mul, nI_add, nm_ck, nI_clamp, nI_ltI, nI_leI, nI_eq, nb_b2, nb_b1, ↓nb_let, nm_z0, nm_z1, nb_II, nb_IR, nb_RI, nb_RR, nm_IL, nm_IQ, nm_RL, nm_RQ, nm_LI, nm_LR, nm_LL, nm_LQ, nm_QI, nm_QR, nm_QL, nm_QQ, nm_rr, nm_ii, nm_eqm, not_false_eq_true, pk_sub, nm_div, nm_shl, nm_shr, nm_ush, nm_or8, nm_or64, nm_or256, nm_m1, nm_m3, nm_m7, nm_m15, nm_m31, nm_m63, nm_m255, nm_m511, nm_m1023, nm_m2047, nm_m65535, Nat.reduceMod, Nat.reducePow, Nat.reduceAdd, Nat.reduceSub, Nat.reduceMul, nm_bo, nm_bi, nm_rc, nm_ic, nm_ri, nm_rl, nm_rq, nm_ql, nm_qi, nm_li, nm_us, nm_uu, nm_cp, nm_sa31, nm_sa7, nm_m127, nm_m2, nm_nz, nm_nzk, nm_eq32, nm_nzf, if_true, if_false, ↓reduceIte, if_pos, if_neg]
      · rw [if_neg y] at v4
        have y : ¬ sI C2 3 = nI 0 := y
        rw [← v4]
        simp (disch := (first | assumption | decide | omega)) only [df_X2_worth_24, df_X2_worth_0, df_X2_worth, q0, v1, y, eq_self, Nat.reduceEqDiff, Nat.reduceLeDiff, nl_0, nl_3, no_1, no_1024, pk_mul, nI_add, nm_ck, nI_clamp, nI_ltI, nI_leI, nI_eq, nb_b2, nb_b1, ↓nb_let, nm_z0, nm_z1, nb_II, nb_IR, nb_RI, nb_RR, nm_IL, nm_IQ, nm_RL, nm_RQ, nm_LI, nm_LR, nm_LL, nm_LQ, nm_QI, nm_QR, nm_QL, nm_QQ, nm_rr, nm_ii, nm_eqm, not_false_eq_true, pk_sub, nm_div, nm_shl, nm_shr, nm_ush, nm_or8, nm_or64, nm_or256, nm_m1, nm_m3, nm_m7, nm_m15, nm_m31, nm_m63, nm_m255, nm_m511, nm_m1023, nm_m2047, nm_m65535, Nat.reduceMod, Nat.reducePow, Nat.reduceAdd, Nat.reduceSub, Nat.reduceMul, nm_bo, nm_bi, nm_rc, nm_ic, nm_ri, nm_rl, nm_rq, nm_ql, nm_qi, nm_li, nm_us, nm_uu, nm_cp, nm_sa31, nm_sa7, nm_m127, nm_m2, nm_nz, nm_nzk, nm_eq32, nm_nzf, if_true, if_false, ↓reduceIte, if_pos, if_neg]
    · have q2 : sR Y' 2 k = nI l := by rw [h6.1]; exact hm
      rw [Nat.add_zero] at w1
      simp (disch := (first | assumption | decide | omega)) only [df_X15_value_0, df_X15_value, q2, w1, eq_self, Nat.reduceEqDiff, Nat.reduceLeDiff, nl_2, nl_8, nl_120, no_1, no_1024, pk_mul, nI_add, nm_ck, nI_clamp, nI_ltI, nI_leI, nI_eq, nb_b2, nb_b1, ↓nb_let, nm_z0, nm_z1, nb_II, nb_IR, nb_RI, nb_RR, nm_IL, nm_IQ, nm_RL, nm_RQ, nm_LI, nm_LR, nm_LL, nm_LQ, nm_QI, nm_QR, nm_QL, nm_QQ, nm_rr, nm_ii, nm_eqm, not_false_eq_true, pk_sub, nm_div, nm_shl, nm_shr, nm_ush, nm_or8, nm_or64, nm_or256, nm_m1, nm_m3, nm_m7, nm_m15, nm_m31, nm_m63, nm_m255, nm_m511, nm_m1023, nm_m2047, nm_m65535, Nat.reduceMod, Nat.reducePow, Nat.reduceAdd, Nat.reduceSub, Nat.reduceMul, nm_bo, nm_bi, nm_rc, nm_ic, nm_ri, nm_rl, nm_rq, nm_ql, nm_qi, nm_li, nm_us, nm_uu, nm_cp, nm_sa31, nm_sa7, nm_m127, nm_m2, nm_nz, nm_nzk, nm_eq32, nm_nzf, if_true, if_false, ↓reduceIte, if_pos, if_neg]

/-- constants of Strings: their length, their letters, whether one stands somewhere -/
theorem ks_ok : ∀ i : Fin 190, ∀ j : Fin 100, ((ks_b i.1 j.1) &&& 255).toUInt32.toUInt16.toUInt32.toInt32 = ks_b i.1 j.1 ∧ vp_nar .char (ks_b i.1 j.1) = ks_b i.1 j.1 := by decide +kernel
theorem ks_sh : ∀ i : Fin 190, ks_n i.1 ≤ 100 := by decide +kernel
theorem nar_z {α : Type} {t : FieldType} {v : Int32} {x : Option α} (h : vp_nar t v = v) : nd_z t v x = x := if_pos h
theorem ln_1 (n k : Nat) (hk : k < 190) : df_J0_length_8abf5 n k () = some (nI (ks_n k), ()) := by
  have a := ks_sh ⟨k, hk⟩
  have a : ks_n k ≤ 100 := a
  have e : ((0 : Int32) &&& 31) = nI 0 := by decide
  have z : ∀ (x : Option (Int32 × Unit)), nd_z .byte 0 x = x := fun x => nar_z (by decide)
  unfold df_J0_length_8abf5 df_J0_length_8abf5_0 df_J0_coder_7d493 df_J0_coder_7d493_0 df_J0_coder_7d493_14
  rw [nb_lt hk, nb_lt hk, nb_lt hk, nb_lt hk, z, nb_b2, e, show Int32.ofNat (ks_n k) = nI (ks_n k) from rfl, nm_shr (by omega) (by omega), Nat.pow_zero, Nat.div_one]
theorem ch_1 (n k i : Nat) (hk : k < 190) (hi : i < ks_n k) : df_J0_charAt_5068e n k (nI i) () = some (ks_b k i, ()) := by
  have a := ks_sh ⟨k, hk⟩
  have a : ks_n k ≤ 100 := a
  have b := ks_ok ⟨k, hk⟩ ⟨i, by omega⟩
  have b1 : ((ks_b k i) &&& 255).toUInt32.toUInt16.toUInt32.toInt32 = ks_b k i := b.1
  have b2 : vp_nar .char (ks_b k i) = ks_b k i := b.2
  have z : ∀ (x : Option (Int32 × Unit)), nd_z .char (ks_b k i) x = x := fun x => nar_z b2
  have n0 : ¬ nI i < (0 : Int32) := fun z => by have z : nI i < nI 0 := z; rw [nI_ltI (by omega) (by omega)] at z; omega
  have n1 : nI i < nI (ks_n k) := (nI_ltI (by omega) (by omega)).mpr hi
  unfold df_J0_charAt_5068e df_J0_charAt_5068e_0 df_J0_isLatin1_aae02 df_J0_isLatin1_aae02_0 df_J0_isLatin1_aae02_18 df_J1_charAt_3b067 df_J1_charAt_3b067_0 df_J0_checkIndex_df160 df_J0_checkIndex_df160_0 df_J3_checkIndex_8e157 df_J3_checkIndex_8e157_0
  rw [nb_lt hk, nb_lt hk, nb_z1, nb_b2, if_neg (by decide), nb_lt hk, nb_lt hk, show Int32.ofNat (ks_n k) = nI (ks_n k) from rfl, if_neg n0, if_pos n1, nb_b2, nb_b1, nb_lt hk, nm_ck hi (by omega), nI_clamp (by omega), b1, z, nb_b2, z]
def wq (k q l : Nat) (R : Nat → Int32) : Prop := ks_n k = l ∧ ∀ i : Nat, i < l → R (q + i) = ks_b k i
theorem sn_ne (n k q l : Nat) {B : St} (hk : k < 190) (hl : l < 2 ^ 30) (h : ¬ ks_n k = l) : df_X7_stands n k (nI q) (nI l) B = some (nI 0, B) := by
  have a := ks_sh ⟨k, hk⟩
  have a : ks_n k ≤ 100 := a
  unfold df_X7_stands df_X7_stands_0 df_X7_stands_20
  rw [nb_lt hk, ln_1 n k hk, nb_b2, if_neg (fun z => by rw [nI_eq (by omega) (by omega)] at z; exact h z)]
  rfl
theorem sn_25 (n k q l : Nat) {B : St} (hk : k < 190) (hq : q + l ≤ 32768) (hl : ks_n k = l) : ∀ j i m : Nat, i + j = l → j < m → (∀ t : Nat, t < i → sR B 0 (q + t) = ks_b k t) → ((∀ t : Nat, t < l → sR B 0 (q + t) = ks_b k t) → df_X7_stands_25 n m k (nI q) (nI l) (nI i) B = some (nI 1, B)) ∧ ((¬ ∀ t : Nat, t < l → sR B 0 (q + t) = ks_b k t) → df_X7_stands_25 n m k (nI q) (nI l) (nI i) B = some (nI 0, B)) := fun j => by
  induction j with
  | zero =>
    intro i m hi hm h
    obtain ⟨m, rfl⟩ : ∃ g : Nat, m = g + 1 := ⟨m - 1, by omega⟩
    have hi : i = l := by omega
    subst hi
    have u : i < 2 ^ 30 := by omega
    refine ⟨fun _ => ?_, fun z => absurd h z⟩
    simp (disch := (first | assumption | decide | omega)) only [(show df_X7_stands_25 n (m + 1) = dF_X7_stands_25 n (df_X7_stands_25 n m) from rfl), dF_X7_stands_25, df_X7_stands_20, df_X7_stands_0, df_X7_stands, eq_self, Nat.reduceEqDiff, Nat.reduceLeDiff, nl_0, nl_1, nl_190, nl_32768, no_1, no_1024, pk_mul, nI_add, nm_ck, nI_clamp, nI_ltI, nI_leI, nI_eq, nb_b2, nb_b1, ↓nb_let, nm_z0, nm_z1, nb_II, nb_IR, nb_RI, nb_RR, nm_IL, nm_IQ, nm_RL, nm_RQ, nm_LI, nm_LR, nm_LL, nm_LQ, nm_QI, nm_QR, nm_QL, nm_QQ, nm_rr, nm_ii, nm_eqm, not_false_eq_true, pk_sub, nm_div, nm_shl, nm_shr, nm_ush, nm_or8, nm_or64, nm_or256, nm_m1, nm_m3, nm_m7, nm_m15, nm_m31, nm_m63, nm_m255, nm_m511, nm_m1023, nm_m2047, nm_m65535, Nat.reduceMod, Nat.reducePow, Nat.reduceAdd, Nat.reduceSub, Nat.reduceMul, nm_bo, nm_bi, nm_rc, nm_ic, nm_ri, nm_rl, nm_rq, nm_ql, nm_qi, nm_li, nm_us, nm_uu, nm_cp, nm_sa31, nm_sa7, nm_m127, nm_m2, nm_nz, nm_nzk, nm_eq32, nm_nzf, if_true, if_false, ↓reduceIte, if_pos, if_neg]
  | succ j ih =>
    intro i m hi hm h
    obtain ⟨m, rfl⟩ : ∃ g : Nat, m = g + 1 := ⟨m - 1, by omega⟩
    have c := ch_1 n k i hk (by omega)
    have lt : ∀ x : Option (Int32 × St), nd_lt k 190 x = x := fun x => nb_lt hk
    by_cases y : ks_b k i = sR B 0 (q + i)
    · have e : df_X7_stands_25 n (m + 1) k (nI q) (nI l) (nI i) B = df_X7_stands_25 n m k (nI q) (nI l) (nI (i + 1)) B := by
        simp (disch := (first | assumption | decide | omega)) only [(show df_X7_stands_25 n (m + 1) = dF_X7_stands_25 n (df_X7_stands_25 n m) from rfl), dF_X7_stands_25, df_X7_stands_20, df_X7_stands_0, df_X7_stands, lt, c, y, eq_self, Nat.reduceEqDiff, Nat.reduceLeDiff, nl_0, nl_1, nl_190, nl_32768, no_1, no_1024, pk_mul, nI_add, nm_ck, nI_clamp, nI_ltI, nI_leI, nI_eq, nb_b2, nb_b1, ↓nb_let, nm_z0, nm_z1, nb_II, nb_IR, nb_RI, nb_RR, nm_IL, nm_IQ, nm_RL, nm_RQ, nm_LI, nm_LR, nm_LL, nm_LQ, nm_QI, nm_QR, nm_QL, nm_QQ, nm_rr, nm_ii, nm_eqm, not_false_eq_true, pk_sub, nm_div, nm_shl, nm_shr, nm_ush, nm_or8, nm_or64, nm_or256, nm_m1, nm_m3, nm_m7, nm_m15, nm_m31, nm_m63, nm_m255, nm_m511, nm_m1023, nm_m2047, nm_m65535, Nat.reduceMod, Nat.reducePow, Nat.reduceAdd, Nat.reduceSub, Nat.reduceMul, nm_bo, nm_bi, nm_rc, nm_ic, nm_ri, nm_rl, nm_rq, nm_ql, nm_qi, nm_li, nm_us, nm_uu, nm_cp, nm_sa31, nm_sa7, nm_m127, nm_m2, nm_nz, nm_nzk, nm_eq32, nm_nzf, if_true, if_false, ↓reduceIte, if_pos, if_neg]
      rw [e]
      exact ih (i + 1) m (by omega) (by omega) (fun t ht => by
        by_cases z : t = i
        · rw [z]; exact y.symm
        · exact h t (by omega))
    · refine ⟨fun z => absurd (z i (by omega)).symm y, fun _ => ?_⟩
      simp (disch := (first | assumption | decide | omega)) only [(show df_X7_stands_25 n (m + 1) = dF_X7_stands_25 n (df_X7_stands_25 n m) from rfl), dF_X7_stands_25, df_X7_stands_20, df_X7_stands_0, df_X7_stands, lt, c, y, eq_self, Nat.reduceEqDiff, Nat.reduceLeDiff, nl_0, nl_1, nl_190, nl_32768, no_1, no_1024, pk_mul, nI_add, nm_ck, nI_clamp, nI_ltI, nI_leI, nI_eq, nb_b2, nb_b1, ↓nb_let, nm_z0, nm_z1, nb_II, nb_IR, nb_RI, nb_RR, nm_IL, nm_IQ, nm_RL, nm_RQ, nm_LI, nm_LR, nm_LL, nm_LQ, nm_QI, nm_QR, nm_QL, nm_QQ, nm_rr, nm_ii, nm_eqm, not_false_eq_true, pk_sub, nm_div, nm_shl, nm_shr, nm_ush, nm_or8, nm_or64, nm_or256, nm_m1, nm_m3, nm_m7, nm_m15, nm_m31, nm_m63, nm_m255, nm_m511, nm_m1023, nm_m2047, nm_m65535, Nat.reduceMod, Nat.reducePow, Nat.reduceAdd, Nat.reduceSub, Nat.reduceMul, nm_bo, nm_bi, nm_rc, nm_ic, nm_ri, nm_rl, nm_rq, nm_ql, nm_qi, nm_li, nm_us, nm_uu, nm_cp, nm_sa31, nm_sa7, nm_m127, nm_m2, nm_nz, nm_nzk, nm_eq32, nm_nzf, if_true, if_false, ↓reduceIte, if_pos, if_neg]
theorem sn_y (n k q l : Nat) {B : St} (hn : l < n) (hk : k < 190) (hq : q + l ≤ 32768) (h : wq k q l (sR B 0)) : df_X7_stands n k (nI q) (nI l) B = some (nI 1, B) := by
  have e := (sn_25 n k q l hk hq h.1 l 0 n (by omega) hn (fun t ht => by omega)).1 h.2
  unfold df_X7_stands df_X7_stands_0
  rw [nb_lt hk, ln_1 n k hk, nb_b2, if_pos (by rw [h.1]), if_neg (show ¬ nI q < 0 from fun z => by have z : nI q < nI 0 := z; rw [nI_ltI (by omega) (by omega)] at z; omega), if_pos (show nI q + nI l ≤ 32768 by rw [nI_add]; exact (show nI (q + l) ≤ nI 32768 from (nI_leI (by omega) (by omega)).mpr hq))]
  exact e
theorem sn_n (n k q l : Nat) {B : St} (hn : l < n) (hk : k < 190) (hq : q + l ≤ 32768) (h : ¬ wq k q l (sR B 0)) : df_X7_stands n k (nI q) (nI l) B = some (nI 0, B) := by
  by_cases c : ks_n k = l
  · have e := (sn_25 n k q l hk hq c l 0 n (by omega) hn (fun t ht => by omega)).2 (fun z => h ⟨c, z⟩)
    unfold df_X7_stands df_X7_stands_0
    rw [nb_lt hk, ln_1 n k hk, nb_b2, if_pos (by rw [c]), if_neg (show ¬ nI q < 0 from fun z => by have z : nI q < nI 0 := z; rw [nI_ltI (by omega) (by omega)] at z; omega), if_pos (show nI q + nI l ≤ 32768 by rw [nI_add]; exact (show nI (q + l) ≤ nI 32768 from (nI_leI (by omega) (by omega)).mpr hq))]
    exact e
  · exact sn_ne n k q l hk (by omega) c

/-- digits, letters, signs -/
def aD (c : Nat) : Bool := decide (48 ≤ c ∧ c ≤ 57)
def aL (c : Nat) : Bool := decide (97 ≤ c ∧ c ≤ 122 ∨ 65 ≤ c ∧ c ≤ 90)
theorem il_C0 : ∀ c : Fin 128, df_X2_isLetter 0 (nI c.1) () = some (bI (aL c.1), ()) := by decide +kernel
theorem il_C (n : Nat) (c : Fin 128) : df_X2_isLetter n (nI c.1) () = some (bI (aL c.1), ()) := (show df_X2_isLetter n (nI c.1) () = df_X2_isLetter 0 (nI c.1) () from rfl).trans (il_C0 c)
theorem id_C0 : ∀ c : Fin 128, df_X2_isDigit 0 (nI c.1) () = some (bI (aD c.1), ()) := by decide +kernel
theorem id_C (n : Nat) (c : Fin 128) : df_X2_isDigit n (nI c.1) () = some (bI (aD c.1), ()) := (show df_X2_isDigit n (nI c.1) () = df_X2_isDigit 0 (nI c.1) () from rfl).trans (id_C0 c)
theorem id_R0 : ∀ c : Fin 128, df_X15_isDigit 0 (nI c.1) () = some (bI (aD c.1), ()) := by decide +kernel
theorem id_R (n : Nat) (c : Fin 128) : df_X15_isDigit n (nI c.1) () = some (bI (aD c.1), ()) := (show df_X15_isDigit n (nI c.1) () = df_X15_isDigit 0 (nI c.1) () from rfl).trans (id_R0 c)
theorem ip_R0 : ∀ c : Fin 128, df_X15_isPlain 0 (nI c.1) () = some (bI (aD c.1 || aL c.1), ()) := by decide +kernel
theorem ip_R (n : Nat) (c : Fin 128) : df_X15_isPlain n (nI c.1) () = some (bI (aD c.1 || aL c.1), ()) := (show df_X15_isPlain n (nI c.1) () = df_X15_isPlain 0 (nI c.1) () from rfl).trans (ip_R0 c)
def pr (c d : Nat) : Nat := if d = 61 then (if c = 61 then 3 else if c = 33 then 4 else if c = 60 then 6 else if c = 62 then 8 else 0) else if c = d then (if c = 124 then 1 else if c = 38 then 2 else if c = 60 then 12 else if c = 62 then 13 else 0) else 0
def al1 (c : Nat) : Nat := if c = 33 then 19 else if c = 37 then 18 else if c = 38 then 11 else if c = 40 then 22 else if c = 41 then 28 else if c = 42 then 16 else if c = 43 then 14 else if c = 45 then 15 else if c = 47 then 17 else if c = 60 then 5 else if c = 62 then 7 else if c = 91 then 25 else if c = 93 then 29 else if c = 94 then 10 else if c = 124 then 9 else if c = 126 then 21 else 0
def sgC (c d : Nat) : Nat := if pr c d = 0 then al1 c else pr c d
def wid (c d : Nat) : Nat := if pr c d = 0 then 1 else 2
def tS (s : Nat) : Nat := if s = 0 then 34 else if s ≤ 18 then s + 9 else if s = 19 then 28 else if s = 21 then 29 else if s = 22 then 30 else if s = 28 then 31 else if s = 25 then 32 else 33
theorem pr_C0 : ∀ c d : Fin 128, df_X2_pair 0 (nI c.1) (nI d.1) () = some (nI (pr c.1 d.1), ()) := by decide +kernel
theorem pr_C (n : Nat) (c d : Fin 128) : df_X2_pair n (nI c.1) (nI d.1) () = some (nI (pr c.1 d.1), ()) := (show df_X2_pair n (nI c.1) (nI d.1) () = df_X2_pair 0 (nI c.1) (nI d.1) () from rfl).trans (pr_C0 c d)
theorem al_C0 : ∀ c : Fin 128, df_X2_alone 0 (nI c.1) () = some (nI (al1 c.1), ()) := by decide +kernel
theorem al_C (n : Nat) (c : Fin 128) : df_X2_alone n (nI c.1) () = some (nI (al1 c.1), ()) := (show df_X2_alone n (nI c.1) () = df_X2_alone 0 (nI c.1) () from rfl).trans (al_C0 c)
theorem sg_ran : ∀ c d : Fin 128, sgC c.1 d.1 ≤ 19 ∨ sgC c.1 d.1 = 21 ∨ sgC c.1 d.1 = 22 ∨ sgC c.1 d.1 = 25 ∨ sgC c.1 d.1 = 28 ∨ sgC c.1 d.1 = 29 := by decide +kernel
theorem pr_le : ∀ c d : Fin 128, pr c.1 d.1 ≤ 13 := by decide +kernel
theorem sc_sg (n c d q : Nat) {Y : St} {X : St × St} (hc : c < 127) (hd : d < 127) (hq : q < 1000) (h1 : sI Y 1 = nI q) : (if nI c = 124 then (if nI d = 124 then df_X15_scan_244 n (nI c) 10 (Y, X) else df_X15_scan_124 n (nI c) (nI d) (Y, X)) else df_X15_scan_124 n (nI c) (nI d) (Y, X)) = some (pI (pI Y 1 (nI (q + wid c d))) 2 (nI (tS (sgC c d))), X) := by
  by_cases c124 : c = 124
  · subst c124
    by_cases d124 : d = 124
    · subst d124
      simp (disch := (first | assumption | decide | omega)) only [df_X15_scan_453, df_X15_scan_436, df_X15_scan_423, df_X15_scan_244, df_X15_scan_243, df_X15_scan_226, df_X15_scan_209, df_X15_scan_192, df_X15_scan_175, df_X15_scan_158, df_X15_scan_141, df_X15_scan_124, h1, sgC, wid, tS, pr, al1, eq_self, Nat.reduceEqDiff, Nat.reduceLeDiff, nl_0, nl_1, nl_2, nl_10, nl_11, nl_12, nl_13, nl_14, nl_15, nl_16, nl_17, nl_18, nl_19, nl_20, nl_21, nl_22, nl_23, nl_24, nl_25, nl_26, nl_27, nl_28, nl_29, nl_30, nl_31, nl_32, nl_33, nl_34, nl_37, nl_38, nl_40, nl_41, nl_42, nl_43, nl_45, nl_47, nl_60, nl_61, nl_62, nl_91, nl_93, nl_94, nl_124, nl_126, no_1, no_1024, pk_mul, nI_add, nm_ck, nI_clamp, nI_ltI, nI_leI, nI_eq, nb_b2, nb_b1, ↓nb_let, nm_z0, nm_z1, nb_II, nb_IR, nb_RI, nb_RR, nm_IL, nm_IQ, nm_RL, nm_RQ, nm_LI, nm_LR, nm_LL, nm_LQ, nm_QI, nm_QR, nm_QL, nm_QQ, nm_rr, nm_ii, nm_eqm, not_false_eq_true, pk_sub, nm_div, nm_shl, nm_shr, nm_ush, nm_or8, nm_or64, nm_or256, nm_m1, nm_m3, nm_m7, nm_m15, nm_m31, nm_m63, nm_m255, nm_m511, nm_m1023, nm_m2047, nm_m65535, Nat.reduceMod, Nat.reducePow, Nat.reduceAdd, Nat.reduceSub, Nat.reduceMul, nm_bo, nm_bi, nm_rc, nm_ic, nm_ri, nm_rl, nm_rq, nm_ql, nm_qi, nm_li, nm_us, nm_uu, nm_cp, nm_sa31, nm_sa7, nm_m127, nm_m2, nm_nz, nm_nzk, nm_eq32, nm_nzf, if_true, if_false, ↓reduceIte, if_pos, if_neg]
    · have e124 := d124
      by_cases d61 : d = 61
      · subst d61
        simp (disch := (first | assumption | decide | omega)) only [df_X15_scan_453, df_X15_scan_436, df_X15_scan_423, df_X15_scan_244, df_X15_scan_243, df_X15_scan_226, df_X15_scan_209, df_X15_scan_192, df_X15_scan_175, df_X15_scan_158, df_X15_scan_141, df_X15_scan_124, h1, sgC, wid, tS, pr, al1, d124, eq_self, Nat.reduceEqDiff, Nat.reduceLeDiff, nl_0, nl_1, nl_2, nl_10, nl_11, nl_12, nl_13, nl_14, nl_15, nl_16, nl_17, nl_18, nl_19, nl_20, nl_21, nl_22, nl_23, nl_24, nl_25, nl_26, nl_27, nl_28, nl_29, nl_30, nl_31, nl_32, nl_33, nl_34, nl_37, nl_38, nl_40, nl_41, nl_42, nl_43, nl_45, nl_47, nl_60, nl_61, nl_62, nl_91, nl_93, nl_94, nl_124, nl_126, no_1, no_1024, pk_mul, nI_add, nm_ck, nI_clamp, nI_ltI, nI_leI, nI_eq, nb_b2, nb_b1, ↓nb_let, nm_z0, nm_z1, nb_II, nb_IR, nb_RI, nb_RR, nm_IL, nm_IQ, nm_RL, nm_RQ, nm_LI, nm_LR, nm_LL, nm_LQ, nm_QI, nm_QR, nm_QL, nm_QQ, nm_rr, nm_ii, nm_eqm, not_false_eq_true, pk_sub, nm_div, nm_shl, nm_shr, nm_ush, nm_or8, nm_or64, nm_or256, nm_m1, nm_m3, nm_m7, nm_m15, nm_m31, nm_m63, nm_m255, nm_m511, nm_m1023, nm_m2047, nm_m65535, Nat.reduceMod, Nat.reducePow, Nat.reduceAdd, Nat.reduceSub, Nat.reduceMul, nm_bo, nm_bi, nm_rc, nm_ic, nm_ri, nm_rl, nm_rq, nm_ql, nm_qi, nm_li, nm_us, nm_uu, nm_cp, nm_sa31, nm_sa7, nm_m127, nm_m2, nm_nz, nm_nzk, nm_eq32, nm_nzf, if_true, if_false, ↓reduceIte, if_pos, if_neg]
      · have e61 := d61
        have fc : ¬ 124 = d := fun z => d124 z.symm
        simp (disch := (first | assumption | decide | omega)) only [df_X15_scan_453, df_X15_scan_436, df_X15_scan_423, df_X15_scan_244, df_X15_scan_243, df_X15_scan_226, df_X15_scan_209, df_X15_scan_192, df_X15_scan_175, df_X15_scan_158, df_X15_scan_141, df_X15_scan_124, h1, sgC, wid, tS, pr, al1, d124, d61, fc, eq_self, Nat.reduceEqDiff, Nat.reduceLeDiff, nl_0, nl_1, nl_2, nl_10, nl_11, nl_12, nl_13, nl_14, nl_15, nl_16, nl_17, nl_18, nl_19, nl_20, nl_21, nl_22, nl_23, nl_24, nl_25, nl_26, nl_27, nl_28, nl_29, nl_30, nl_31, nl_32, nl_33, nl_34, nl_37, nl_38, nl_40, nl_41, nl_42, nl_43, nl_45, nl_47, nl_60, nl_61, nl_62, nl_91, nl_93, nl_94, nl_124, nl_126, no_1, no_1024, pk_mul, nI_add, nm_ck, nI_clamp, nI_ltI, nI_leI, nI_eq, nb_b2, nb_b1, ↓nb_let, nm_z0, nm_z1, nb_II, nb_IR, nb_RI, nb_RR, nm_IL, nm_IQ, nm_RL, nm_RQ, nm_LI, nm_LR, nm_LL, nm_LQ, nm_QI, nm_QR, nm_QL, nm_QQ, nm_rr, nm_ii, nm_eqm, not_false_eq_true, pk_sub, nm_div, nm_shl, nm_shr, nm_ush, nm_or8, nm_or64, nm_or256, nm_m1, nm_m3, nm_m7, nm_m15, nm_m31, nm_m63, nm_m255, nm_m511, nm_m1023, nm_m2047, nm_m65535, Nat.reduceMod, Nat.reducePow, Nat.reduceAdd, Nat.reduceSub, Nat.reduceMul, nm_bo, nm_bi, nm_rc, nm_ic, nm_ri, nm_rl, nm_rq, nm_ql, nm_qi, nm_li, nm_us, nm_uu, nm_cp, nm_sa31, nm_sa7, nm_m127, nm_m2, nm_nz, nm_nzk, nm_eq32, nm_nzf, if_true, if_false, ↓reduceIte, if_pos, if_neg]
  · have f124 := c124
    by_cases c38 : c = 38
    · subst c38
      by_cases d38 : d = 38
      · subst d38
        simp (disch := (first | assumption | decide | omega)) only [df_X15_scan_453, df_X15_scan_436, df_X15_scan_423, df_X15_scan_244, df_X15_scan_243, df_X15_scan_226, df_X15_scan_209, df_X15_scan_192, df_X15_scan_175, df_X15_scan_158, df_X15_scan_141, df_X15_scan_124, h1, sgC, wid, tS, pr, al1, eq_self, Nat.reduceEqDiff, Nat.reduceLeDiff, nl_0, nl_1, nl_2, nl_10, nl_11, nl_12, nl_13, nl_14, nl_15, nl_16, nl_17, nl_18, nl_19, nl_20, nl_21, nl_22, nl_23, nl_24, nl_25, nl_26, nl_27, nl_28, nl_29, nl_30, nl_31, nl_32, nl_33, nl_34, nl_37, nl_38, nl_40, nl_41, nl_42, nl_43, nl_45, nl_47, nl_60, nl_61, nl_62, nl_91, nl_93, nl_94, nl_124, nl_126, no_1, no_1024, pk_mul, nI_add, nm_ck, nI_clamp, nI_ltI, nI_leI, nI_eq, nb_b2, nb_b1, ↓nb_let, nm_z0, nm_z1, nb_II, nb_IR, nb_RI, nb_RR, nm_IL, nm_IQ, nm_RL, nm_RQ, nm_LI, nm_LR, nm_LL, nm_LQ, nm_QI, nm_QR, nm_QL, nm_QQ, nm_rr, nm_ii, nm_eqm, not_false_eq_true, pk_sub, nm_div, nm_shl, nm_shr, nm_ush, nm_or8, nm_or64, nm_or256, nm_m1, nm_m3, nm_m7, nm_m15, nm_m31, nm_m63, nm_m255, nm_m511, nm_m1023, nm_m2047, nm_m65535, Nat.reduceMod, Nat.reducePow, Nat.reduceAdd, Nat.reduceSub, Nat.reduceMul, nm_bo, nm_bi, nm_rc, nm_ic, nm_ri, nm_rl, nm_rq, nm_ql, nm_qi, nm_li, nm_us, nm_uu, nm_cp, nm_sa31, nm_sa7, nm_m127, nm_m2, nm_nz, nm_nzk, nm_eq32, nm_nzf, if_true, if_false, ↓reduceIte, if_pos, if_neg]
      · have e38 := d38
        by_cases d61 : d = 61
        · subst d61
          simp (disch := (first | assumption | decide | omega)) only [df_X15_scan_453, df_X15_scan_436, df_X15_scan_423, df_X15_scan_244, df_X15_scan_243, df_X15_scan_226, df_X15_scan_209, df_X15_scan_192, df_X15_scan_175, df_X15_scan_158, df_X15_scan_141, df_X15_scan_124, h1, sgC, wid, tS, pr, al1, d38, eq_self, Nat.reduceEqDiff, Nat.reduceLeDiff, nl_0, nl_1, nl_2, nl_10, nl_11, nl_12, nl_13, nl_14, nl_15, nl_16, nl_17, nl_18, nl_19, nl_20, nl_21, nl_22, nl_23, nl_24, nl_25, nl_26, nl_27, nl_28, nl_29, nl_30, nl_31, nl_32, nl_33, nl_34, nl_37, nl_38, nl_40, nl_41, nl_42, nl_43, nl_45, nl_47, nl_60, nl_61, nl_62, nl_91, nl_93, nl_94, nl_124, nl_126, no_1, no_1024, pk_mul, nI_add, nm_ck, nI_clamp, nI_ltI, nI_leI, nI_eq, nb_b2, nb_b1, ↓nb_let, nm_z0, nm_z1, nb_II, nb_IR, nb_RI, nb_RR, nm_IL, nm_IQ, nm_RL, nm_RQ, nm_LI, nm_LR, nm_LL, nm_LQ, nm_QI, nm_QR, nm_QL, nm_QQ, nm_rr, nm_ii, nm_eqm, not_false_eq_true, pk_sub, nm_div, nm_shl, nm_shr, nm_ush, nm_or8, nm_or64, nm_or256, nm_m1, nm_m3, nm_m7, nm_m15, nm_m31, nm_m63, nm_m255, nm_m511, nm_m1023, nm_m2047, nm_m65535, Nat.reduceMod, Nat.reducePow, Nat.reduceAdd, Nat.reduceSub, Nat.reduceMul, nm_bo, nm_bi, nm_rc, nm_ic, nm_ri, nm_rl, nm_rq, nm_ql, nm_qi, nm_li, nm_us, nm_uu, nm_cp, nm_sa31, nm_sa7, nm_m127, nm_m2, nm_nz, nm_nzk, nm_eq32, nm_nzf, if_true, if_false, ↓reduceIte, if_pos, if_neg]
        · have e61 := d61
          have fc : ¬ 38 = d := fun z => d38 z.symm
          simp (disch := (first | assumption | decide | omega)) only [df_X15_scan_453, df_X15_scan_436, df_X15_scan_423, df_X15_scan_244, df_X15_scan_243, df_X15_scan_226, df_X15_scan_209, df_X15_scan_192, df_X15_scan_175, df_X15_scan_158, df_X15_scan_141, df_X15_scan_124, h1, sgC, wid, tS, pr, al1, d38, d61, fc, eq_self, Nat.reduceEqDiff, Nat.reduceLeDiff, nl_0, nl_1, nl_2, nl_10, nl_11, nl_12, nl_13, nl_14, nl_15, nl_16, nl_17, nl_18, nl_19, nl_20, nl_21, nl_22, nl_23, nl_24, nl_25, nl_26, nl_27, nl_28, nl_29, nl_30, nl_31, nl_32, nl_33, nl_34, nl_37, nl_38, nl_40, nl_41, nl_42, nl_43, nl_45, nl_47, nl_60, nl_61, nl_62, nl_91, nl_93, nl_94, nl_124, nl_126, no_1, no_1024, pk_mul, nI_add, nm_ck, nI_clamp, nI_ltI, nI_leI, nI_eq, nb_b2, nb_b1, ↓nb_let, nm_z0, nm_z1, nb_II, nb_IR, nb_RI, nb_RR, nm_IL, nm_IQ, nm_RL, nm_RQ, nm_LI, nm_LR, nm_LL, nm_LQ, nm_QI, nm_QR, nm_QL, nm_QQ, nm_rr, nm_ii, nm_eqm, not_false_eq_true, pk_sub, nm_div, nm_shl, nm_shr, nm_ush, nm_or8, nm_or64, nm_or256, nm_m1, nm_m3, nm_m7, nm_m15, nm_m31, nm_m63, nm_m255, nm_m511, nm_m1023, nm_m2047, nm_m65535, Nat.reduceMod, Nat.reducePow, Nat.reduceAdd, Nat.reduceSub, Nat.reduceMul, nm_bo, nm_bi, nm_rc, nm_ic, nm_ri, nm_rl, nm_rq, nm_ql, nm_qi, nm_li, nm_us, nm_uu, nm_cp, nm_sa31, nm_sa7, nm_m127, nm_m2, nm_nz, nm_nzk, nm_eq32, nm_nzf, if_true, if_false, ↓reduceIte, if_pos, if_neg]
    · have f38 := c38
      by_cases c61 : c = 61
      · subst c61
        by_cases d61 : d = 61
        · subst d61
          simp (disch := (first | assumption | decide | omega)) only [df_X15_scan_453, df_X15_scan_436, df_X15_scan_423, df_X15_scan_244, df_X15_scan_243, df_X15_scan_226, df_X15_scan_209, df_X15_scan_192, df_X15_scan_175, df_X15_scan_158, df_X15_scan_141, df_X15_scan_124, h1, sgC, wid, tS, pr, al1, eq_self, Nat.reduceEqDiff, Nat.reduceLeDiff, nl_0, nl_1, nl_2, nl_10, nl_11, nl_12, nl_13, nl_14, nl_15, nl_16, nl_17, nl_18, nl_19, nl_20, nl_21, nl_22, nl_23, nl_24, nl_25, nl_26, nl_27, nl_28, nl_29, nl_30, nl_31, nl_32, nl_33, nl_34, nl_37, nl_38, nl_40, nl_41, nl_42, nl_43, nl_45, nl_47, nl_60, nl_61, nl_62, nl_91, nl_93, nl_94, nl_124, nl_126, no_1, no_1024, pk_mul, nI_add, nm_ck, nI_clamp, nI_ltI, nI_leI, nI_eq, nb_b2, nb_b1, ↓nb_let, nm_z0, nm_z1, nb_II, nb_IR, nb_RI, nb_RR, nm_IL, nm_IQ, nm_RL, nm_RQ, nm_LI, nm_LR, nm_LL, nm_LQ, nm_QI, nm_QR, nm_QL, nm_QQ, nm_rr, nm_ii, nm_eqm, not_false_eq_true, pk_sub, nm_div, nm_shl, nm_shr, nm_ush, nm_or8, nm_or64, nm_or256, nm_m1, nm_m3, nm_m7, nm_m15, nm_m31, nm_m63, nm_m255, nm_m511, nm_m1023, nm_m2047, nm_m65535, Nat.reduceMod, Nat.reducePow, Nat.reduceAdd, Nat.reduceSub, Nat.reduceMul, nm_bo, nm_bi, nm_rc, nm_ic, nm_ri, nm_rl, nm_rq, nm_ql, nm_qi, nm_li, nm_us, nm_uu, nm_cp, nm_sa31, nm_sa7, nm_m127, nm_m2, nm_nz, nm_nzk, nm_eq32, nm_nzf, if_true, if_false, ↓reduceIte, if_pos, if_neg]
        · have e61 := d61
          have fc : ¬ 61 = d := fun z => d61 z.symm
          simp (disch := (first | assumption | decide | omega)) only [df_X15_scan_453, df_X15_scan_436, df_X15_scan_423, df_X15_scan_244, df_X15_scan_243, df_X15_scan_226, df_X15_scan_209, df_X15_scan_192, df_X15_scan_175, df_X15_scan_158, df_X15_scan_141, df_X15_scan_124, h1, sgC, wid, tS, pr, al1, d61, fc, eq_self, Nat.reduceEqDiff, Nat.reduceLeDiff, nl_0, nl_1, nl_2, nl_10, nl_11, nl_12, nl_13, nl_14, nl_15, nl_16, nl_17, nl_18, nl_19, nl_20, nl_21, nl_22, nl_23, nl_24, nl_25, nl_26, nl_27, nl_28, nl_29, nl_30, nl_31, nl_32, nl_33, nl_34, nl_37, nl_38, nl_40, nl_41, nl_42, nl_43, nl_45, nl_47, nl_60, nl_61, nl_62, nl_91, nl_93, nl_94, nl_124, nl_126, no_1, no_1024, pk_mul, nI_add, nm_ck, nI_clamp, nI_ltI, nI_leI, nI_eq, nb_b2, nb_b1, ↓nb_let, nm_z0, nm_z1, nb_II, nb_IR, nb_RI, nb_RR, nm_IL, nm_IQ, nm_RL, nm_RQ, nm_LI, nm_LR, nm_LL, nm_LQ, nm_QI, nm_QR, nm_QL, nm_QQ, nm_rr, nm_ii, nm_eqm, not_false_eq_true, pk_sub, nm_div, nm_shl, nm_shr, nm_ush, nm_or8, nm_or64, nm_or256, nm_m1, nm_m3, nm_m7, nm_m15, nm_m31, nm_m63, nm_m255, nm_m511, nm_m1023, nm_m2047, nm_m65535, Nat.reduceMod, Nat.reducePow, Nat.reduceAdd, Nat.reduceSub, Nat.reduceMul, nm_bo, nm_bi, nm_rc, nm_ic, nm_ri, nm_rl, nm_rq, nm_ql, nm_qi, nm_li, nm_us, nm_uu, nm_cp, nm_sa31, nm_sa7, nm_m127, nm_m2, nm_nz, nm_nzk, nm_eq32, nm_nzf, if_true, if_false, ↓reduceIte, if_pos, if_neg]
      · have f61 := c61
        by_cases c33 : c = 33
        · subst c33
          by_cases d61 : d = 61
          · subst d61
            simp (disch := (first | assumption | decide | omega)) only [df_X15_scan_453, df_X15_scan_436, df_X15_scan_423, df_X15_scan_244, df_X15_scan_243, df_X15_scan_226, df_X15_scan_209, df_X15_scan_192, df_X15_scan_175, df_X15_scan_158, df_X15_scan_141, df_X15_scan_124, h1, sgC, wid, tS, pr, al1, eq_self, Nat.reduceEqDiff, Nat.reduceLeDiff, nl_0, nl_1, nl_2, nl_10, nl_11, nl_12, nl_13, nl_14, nl_15, nl_16, nl_17, nl_18, nl_19, nl_20, nl_21, nl_22, nl_23, nl_24, nl_25, nl_26, nl_27, nl_28, nl_29, nl_30, nl_31, nl_32, nl_33, nl_34, nl_37, nl_38, nl_40, nl_41, nl_42, nl_43, nl_45, nl_47, nl_60, nl_61, nl_62, nl_91, nl_93, nl_94, nl_124, nl_126, no_1, no_1024, pk_mul, nI_add, nm_ck, nI_clamp, nI_ltI, nI_leI, nI_eq, nb_b2, nb_b1, ↓nb_let, nm_z0, nm_z1, nb_II, nb_IR, nb_RI, nb_RR, nm_IL, nm_IQ, nm_RL, nm_RQ, nm_LI, nm_LR, nm_LL, nm_LQ, nm_QI, nm_QR, nm_QL, nm_QQ, nm_rr, nm_ii, nm_eqm, not_false_eq_true, pk_sub, nm_div, nm_shl, nm_shr, nm_ush, nm_or8, nm_or64, nm_or256, nm_m1, nm_m3, nm_m7, nm_m15, nm_m31, nm_m63, nm_m255, nm_m511, nm_m1023, nm_m2047, nm_m65535, Nat.reduceMod, Nat.reducePow, Nat.reduceAdd, Nat.reduceSub, Nat.reduceMul, nm_bo, nm_bi, nm_rc, nm_ic, nm_ri, nm_rl, nm_rq, nm_ql, nm_qi, nm_li, nm_us, nm_uu, nm_cp, nm_sa31, nm_sa7, nm_m127, nm_m2, nm_nz, nm_nzk, nm_eq32, nm_nzf, if_true, if_false, ↓reduceIte, if_pos, if_neg]
          · have e61 := d61
            by_cases dc : d = 33
            · subst dc
              simp (disch := (first | assumption | decide | omega)) only [df_X15_scan_453, df_X15_scan_436, df_X15_scan_423, df_X15_scan_244, df_X15_scan_243, df_X15_scan_226, df_X15_scan_209, df_X15_scan_192, df_X15_scan_175, df_X15_scan_158, df_X15_scan_141, df_X15_scan_124, h1, sgC, wid, tS, pr, al1, d61, eq_self, Nat.reduceEqDiff, Nat.reduceLeDiff, nl_0, nl_1, nl_2, nl_10, nl_11, nl_12, nl_13, nl_14, nl_15, nl_16, nl_17, nl_18, nl_19, nl_20, nl_21, nl_22, nl_23, nl_24, nl_25, nl_26, nl_27, nl_28, nl_29, nl_30, nl_31, nl_32, nl_33, nl_34, nl_37, nl_38, nl_40, nl_41, nl_42, nl_43, nl_45, nl_47, nl_60, nl_61, nl_62, nl_91, nl_93, nl_94, nl_124, nl_126, no_1, no_1024, pk_mul, nI_add, nm_ck, nI_clamp, nI_ltI, nI_leI, nI_eq, nb_b2, nb_b1, ↓nb_let, nm_z0, nm_z1, nb_II, nb_IR, nb_RI, nb_RR, nm_IL, nm_IQ, nm_RL, nm_RQ, nm_LI, nm_LR, nm_LL, nm_LQ, nm_QI, nm_QR, nm_QL, nm_QQ, nm_rr, nm_ii, nm_eqm, not_false_eq_true, pk_sub, nm_div, nm_shl, nm_shr, nm_ush, nm_or8, nm_or64, nm_or256, nm_m1, nm_m3, nm_m7, nm_m15, nm_m31, nm_m63, nm_m255, nm_m511, nm_m1023, nm_m2047, nm_m65535, Nat.reduceMod, Nat.reducePow, Nat.reduceAdd, Nat.reduceSub, Nat.reduceMul, nm_bo, nm_bi, nm_rc, nm_ic, nm_ri, nm_rl, nm_rq, nm_ql, nm_qi, nm_li, nm_us, nm_uu, nm_cp, nm_sa31, nm_sa7, nm_m127, nm_m2, nm_nz, nm_nzk, nm_eq32, nm_nzf, if_true, if_false, ↓reduceIte, if_pos, if_neg]
            · have ec := dc
              have fc : ¬ 33 = d := fun z => dc z.symm
              simp (disch := (first | assumption | decide | omega)) only [df_X15_scan_453, df_X15_scan_436, df_X15_scan_423, df_X15_scan_244, df_X15_scan_243, df_X15_scan_226, df_X15_scan_209, df_X15_scan_192, df_X15_scan_175, df_X15_scan_158, df_X15_scan_141, df_X15_scan_124, h1, sgC, wid, tS, pr, al1, d61, dc, fc, eq_self, Nat.reduceEqDiff, Nat.reduceLeDiff, nl_0, nl_1, nl_2, nl_10, nl_11, nl_12, nl_13, nl_14, nl_15, nl_16, nl_17, nl_18, nl_19, nl_20, nl_21, nl_22, nl_23, nl_24, nl_25, nl_26, nl_27, nl_28, nl_29, nl_30, nl_31, nl_32, nl_33, nl_34, nl_37, nl_38, nl_40, nl_41, nl_42, nl_43, nl_45, nl_47, nl_60, nl_61, nl_62, nl_91, nl_93, nl_94, nl_124, nl_126, no_1, no_1024, pk_mul, nI_add, nm_ck, nI_clamp, nI_ltI, nI_leI, nI_eq, nb_b2, nb_b1, ↓nb_let, nm_z0, nm_z1, nb_II, nb_IR, nb_RI, nb_RR, nm_IL, nm_IQ, nm_RL, nm_RQ, nm_LI, nm_LR, nm_LL, nm_LQ, nm_QI, nm_QR, nm_QL, nm_QQ, nm_rr, nm_ii, nm_eqm, not_false_eq_true, pk_sub, nm_div, nm_shl, nm_shr, nm_ush, nm_or8, nm_or64, nm_or256, nm_m1, nm_m3, nm_m7, nm_m15, nm_m31, nm_m63, nm_m255, nm_m511, nm_m1023, nm_m2047, nm_m65535, Nat.reduceMod, Nat.reducePow, Nat.reduceAdd, Nat.reduceSub, Nat.reduceMul, nm_bo, nm_bi, nm_rc, nm_ic, nm_ri, nm_rl, nm_rq, nm_ql, nm_qi, nm_li, nm_us, nm_uu, nm_cp, nm_sa31, nm_sa7, nm_m127, nm_m2, nm_nz, nm_nzk, nm_eq32, nm_nzf, if_true, if_false, ↓reduceIte, if_pos, if_neg]
        · have f33 := c33
          by_cases c60 : c = 60
          · subst c60
            by_cases d61 : d = 61
            · subst d61
              simp (disch := (first | assumption | decide | omega)) only [df_X15_scan_453, df_X15_scan_436, df_X15_scan_423, df_X15_scan_244, df_X15_scan_243, df_X15_scan_226, df_X15_scan_209, df_X15_scan_192, df_X15_scan_175, df_X15_scan_158, df_X15_scan_141, df_X15_scan_124, h1, sgC, wid, tS, pr, al1, eq_self, Nat.reduceEqDiff, Nat.reduceLeDiff, nl_0, nl_1, nl_2, nl_10, nl_11, nl_12, nl_13, nl_14, nl_15, nl_16, nl_17, nl_18, nl_19, nl_20, nl_21, nl_22, nl_23, nl_24, nl_25, nl_26, nl_27, nl_28, nl_29, nl_30, nl_31, nl_32, nl_33, nl_34, nl_37, nl_38, nl_40, nl_41, nl_42, nl_43, nl_45, nl_47, nl_60, nl_61, nl_62, nl_91, nl_93, nl_94, nl_124, nl_126, no_1, no_1024, pk_mul, nI_add, nm_ck, nI_clamp, nI_ltI, nI_leI, nI_eq, nb_b2, nb_b1, ↓nb_let, nm_z0, nm_z1, nb_II, nb_IR, nb_RI, nb_RR, nm_IL, nm_IQ, nm_RL, nm_RQ, nm_LI, nm_LR, nm_LL, nm_LQ, nm_QI, nm_QR, nm_QL, nm_QQ, nm_rr, nm_ii, nm_eqm, not_false_eq_true, pk_sub, nm_div, nm_shl, nm_shr, nm_ush, nm_or8, nm_or64, nm_or256, nm_m1, nm_m3, nm_m7, nm_m15, nm_m31, nm_m63, nm_m255, nm_m511, nm_m1023, nm_m2047, nm_m65535, Nat.reduceMod, Nat.reducePow, Nat.reduceAdd, Nat.reduceSub, Nat.reduceMul, nm_bo, nm_bi, nm_rc, nm_ic, nm_ri, nm_rl, nm_rq, nm_ql, nm_qi, nm_li, nm_us, nm_uu, nm_cp, nm_sa31, nm_sa7, nm_m127, nm_m2, nm_nz, nm_nzk, nm_eq32, nm_nzf, if_true, if_false, ↓reduceIte, if_pos, if_neg]
            · have e61 := d61
              by_cases d60 : d = 60
              · subst d60
                simp (disch := (first | assumption | decide | omega)) only [df_X15_scan_453, df_X15_scan_436, df_X15_scan_423, df_X15_scan_244, df_X15_scan_243, df_X15_scan_226, df_X15_scan_209, df_X15_scan_192, df_X15_scan_175, df_X15_scan_158, df_X15_scan_141, df_X15_scan_124, h1, sgC, wid, tS, pr, al1, d61, eq_self, Nat.reduceEqDiff, Nat.reduceLeDiff, nl_0, nl_1, nl_2, nl_10, nl_11, nl_12, nl_13, nl_14, nl_15, nl_16, nl_17, nl_18, nl_19, nl_20, nl_21, nl_22, nl_23, nl_24, nl_25, nl_26, nl_27, nl_28, nl_29, nl_30, nl_31, nl_32, nl_33, nl_34, nl_37, nl_38, nl_40, nl_41, nl_42, nl_43, nl_45, nl_47, nl_60, nl_61, nl_62, nl_91, nl_93, nl_94, nl_124, nl_126, no_1, no_1024, pk_mul, nI_add, nm_ck, nI_clamp, nI_ltI, nI_leI, nI_eq, nb_b2, nb_b1, ↓nb_let, nm_z0, nm_z1, nb_II, nb_IR, nb_RI, nb_RR, nm_IL, nm_IQ, nm_RL, nm_RQ, nm_LI, nm_LR, nm_LL, nm_LQ, nm_QI, nm_QR, nm_QL, nm_QQ, nm_rr, nm_ii, nm_eqm, not_false_eq_true, pk_sub, nm_div, nm_shl, nm_shr, nm_ush, nm_or8, nm_or64, nm_or256, nm_m1, nm_m3, nm_m7, nm_m15, nm_m31, nm_m63, nm_m255, nm_m511, nm_m1023, nm_m2047, nm_m65535, Nat.reduceMod, Nat.reducePow, Nat.reduceAdd, Nat.reduceSub, Nat.reduceMul, nm_bo, nm_bi, nm_rc, nm_ic, nm_ri, nm_rl, nm_rq, nm_ql, nm_qi, nm_li, nm_us, nm_uu, nm_cp, nm_sa31, nm_sa7, nm_m127, nm_m2, nm_nz, nm_nzk, nm_eq32, nm_nzf, if_true, if_false, ↓reduceIte, if_pos, if_neg]
              · have e60 := d60
                have fc : ¬ 60 = d := fun z => d60 z.symm
                simp (disch := (first | assumption | decide | omega)) only [df_X15_scan_453, df_X15_scan_436, df_X15_scan_423, df_X15_scan_244, df_X15_scan_243, df_X15_scan_226, df_X15_scan_209, df_X15_scan_192, df_X15_scan_175, df_X15_scan_158, df_X15_scan_141, df_X15_scan_124, h1, sgC, wid, tS, pr, al1, d61, d60, fc, eq_self, Nat.reduceEqDiff, Nat.reduceLeDiff, nl_0, nl_1, nl_2, nl_10, nl_11, nl_12, nl_13, nl_14, nl_15, nl_16, nl_17, nl_18, nl_19, nl_20, nl_21, nl_22, nl_23, nl_24, nl_25, nl_26, nl_27, nl_28, nl_29, nl_30, nl_31, nl_32, nl_33, nl_34, nl_37, nl_38, nl_40, nl_41, nl_42, nl_43, nl_45, nl_47, nl_60, nl_61, nl_62, nl_91, nl_93, nl_94, nl_124, nl_126, no_1, no_1024, pk_mul, nI_add, nm_ck, nI_clamp, nI_ltI, nI_leI, nI_eq, nb_b2, nb_b1, ↓nb_let, nm_z0, nm_z1, nb_II, nb_IR, nb_RI, nb_RR, nm_IL, nm_IQ, nm_RL, nm_RQ, nm_LI, nm_LR, nm_LL, nm_LQ, nm_QI, nm_QR, nm_QL, nm_QQ, nm_rr, nm_ii, nm_eqm, not_false_eq_true, pk_sub, nm_div, nm_shl, nm_shr, nm_ush, nm_or8, nm_or64, nm_or256, nm_m1, nm_m3, nm_m7, nm_m15, nm_m31, nm_m63, nm_m255, nm_m511, nm_m1023, nm_m2047, nm_m65535, Nat.reduceMod, Nat.reducePow, Nat.reduceAdd, Nat.reduceSub, Nat.reduceMul, nm_bo, nm_bi, nm_rc, nm_ic, nm_ri, nm_rl, nm_rq, nm_ql, nm_qi, nm_li, nm_us, nm_uu, nm_cp, nm_sa31, nm_sa7, nm_m127, nm_m2, nm_nz, nm_nzk, nm_eq32, nm_nzf, if_true, if_false, ↓reduceIte, if_pos, if_neg]
          · have f60 := c60
            by_cases c62 : c = 62
            · subst c62
              by_cases d61 : d = 61
              · subst d61
                simp (disch := (first | assumption | decide | omega)) only [df_X15_scan_453, df_X15_scan_436, df_X15_scan_423, df_X15_scan_244, df_X15_scan_243, df_X15_scan_226, df_X15_scan_209, df_X15_scan_192, df_X15_scan_175, df_X15_scan_158, df_X15_scan_141, df_X15_scan_124, h1, sgC, wid, tS, pr, al1, eq_self, Nat.reduceEqDiff, Nat.reduceLeDiff, nl_0, nl_1, nl_2, nl_10, nl_11, nl_12, nl_13, nl_14, nl_15, nl_16, nl_17, nl_18, nl_19, nl_20, nl_21, nl_22, nl_23, nl_24, nl_25, nl_26, nl_27, nl_28, nl_29, nl_30, nl_31, nl_32, nl_33, nl_34, nl_37, nl_38, nl_40, nl_41, nl_42, nl_43, nl_45, nl_47, nl_60, nl_61, nl_62, nl_91, nl_93, nl_94, nl_124, nl_126, no_1, no_1024, pk_mul, nI_add, nm_ck, nI_clamp, nI_ltI, nI_leI, nI_eq, nb_b2, nb_b1, ↓nb_let, nm_z0, nm_z1, nb_II, nb_IR, nb_RI, nb_RR, nm_IL, nm_IQ, nm_RL, nm_RQ, nm_LI, nm_LR, nm_LL, nm_LQ, nm_QI, nm_QR, nm_QL, nm_QQ, nm_rr, nm_ii, nm_eqm, not_false_eq_true, pk_sub, nm_div, nm_shl, nm_shr, nm_ush, nm_or8, nm_or64, nm_or256, nm_m1, nm_m3, nm_m7, nm_m15, nm_m31, nm_m63, nm_m255, nm_m511, nm_m1023, nm_m2047, nm_m65535, Nat.reduceMod, Nat.reducePow, Nat.reduceAdd, Nat.reduceSub, Nat.reduceMul, nm_bo, nm_bi, nm_rc, nm_ic, nm_ri, nm_rl, nm_rq, nm_ql, nm_qi, nm_li, nm_us, nm_uu, nm_cp, nm_sa31, nm_sa7, nm_m127, nm_m2, nm_nz, nm_nzk, nm_eq32, nm_nzf, if_true, if_false, ↓reduceIte, if_pos, if_neg]
              · have e61 := d61
                by_cases d62 : d = 62
                · subst d62
                  simp (disch := (first | assumption | decide | omega)) only [df_X15_scan_453, df_X15_scan_436, df_X15_scan_423, df_X15_scan_244, df_X15_scan_243, df_X15_scan_226, df_X15_scan_209, df_X15_scan_192, df_X15_scan_175, df_X15_scan_158, df_X15_scan_141, df_X15_scan_124, h1, sgC, wid, tS, pr, al1, d61, eq_self, Nat.reduceEqDiff, Nat.reduceLeDiff, nl_0, nl_1, nl_2, nl_10, nl_11, nl_12, nl_13, nl_14, nl_15, nl_16, nl_17, nl_18, nl_19, nl_20, nl_21, nl_22, nl_23, nl_24, nl_25, nl_26, nl_27, nl_28, nl_29, nl_30, nl_31, nl_32, nl_33, nl_34, nl_37, nl_38, nl_40, nl_41, nl_42, nl_43, nl_45, nl_47, nl_60, nl_61, nl_62, nl_91, nl_93, nl_94, nl_124, nl_126, no_1, no_1024, pk_mul, nI_add, nm_ck, nI_clamp, nI_ltI, nI_leI, nI_eq, nb_b2, nb_b1, ↓nb_let, nm_z0, nm_z1, nb_II, nb_IR, nb_RI, nb_RR, nm_IL, nm_IQ, nm_RL, nm_RQ, nm_LI, nm_LR, nm_LL, nm_LQ, nm_QI, nm_QR, nm_QL, nm_QQ, nm_rr, nm_ii, nm_eqm, not_false_eq_true, pk_sub, nm_div, nm_shl, nm_shr, nm_ush, nm_or8, nm_or64, nm_or256, nm_m1, nm_m3, nm_m7, nm_m15, nm_m31, nm_m63, nm_m255, nm_m511, nm_m1023, nm_m2047, nm_m65535, Nat.reduceMod, Nat.reducePow, Nat.reduceAdd, Nat.reduceSub, Nat.reduceMul, nm_bo, nm_bi, nm_rc, nm_ic, nm_ri, nm_rl, nm_rq, nm_ql, nm_qi, nm_li, nm_us, nm_uu, nm_cp, nm_sa31, nm_sa7, nm_m127, nm_m2, nm_nz, nm_nzk, nm_eq32, nm_nzf, if_true, if_false, ↓reduceIte, if_pos, if_neg]
                · have e62 := d62
                  have fc : ¬ 62 = d := fun z => d62 z.symm
                  simp (disch := (first | assumption | decide | omega)) only [df_X15_scan_453, df_X15_scan_436, df_X15_scan_423, df_X15_scan_244, df_X15_scan_243, df_X15_scan_226, df_X15_scan_209, df_X15_scan_192, df_X15_scan_175, df_X15_scan_158, df_X15_scan_141, df_X15_scan_124, h1, sgC, wid, tS, pr, al1, d61, d62, fc, eq_self, Nat.reduceEqDiff, Nat.reduceLeDiff, nl_0, nl_1, nl_2, nl_10, nl_11, nl_12, nl_13, nl_14, nl_15, nl_16, nl_17, nl_18, nl_19, nl_20, nl_21, nl_22, nl_23, nl_24, nl_25, nl_26, nl_27, nl_28, nl_29, nl_30, nl_31, nl_32, nl_33, nl_34, nl_37, nl_38, nl_40, nl_41, nl_42, nl_43, nl_45, nl_47, nl_60, nl_61, nl_62, nl_91, nl_93, nl_94, nl_124, nl_126, no_1, no_1024, pk_mul, nI_add, nm_ck, nI_clamp, nI_ltI, nI_leI, nI_eq, nb_b2, nb_b1, ↓nb_let, nm_z0, nm_z1, nb_II, nb_IR, nb_RI, nb_RR, nm_IL, nm_IQ, nm_RL, nm_RQ, nm_LI, nm_LR, nm_LL, nm_LQ, nm_QI, nm_QR, nm_QL, nm_QQ, nm_rr, nm_ii, nm_eqm, not_false_eq_true, pk_sub, nm_div, nm_shl, nm_shr, nm_ush, nm_or8, nm_or64, nm_or256, nm_m1, nm_m3, nm_m7, nm_m15, nm_m31, nm_m63, nm_m255, nm_m511, nm_m1023, nm_m2047, nm_m65535, Nat.reduceMod, Nat.reducePow, Nat.reduceAdd, Nat.reduceSub, Nat.reduceMul, nm_bo, nm_bi, nm_rc, nm_ic, nm_ri, nm_rl, nm_rq, nm_ql, nm_qi, nm_li, nm_us, nm_uu, nm_cp, nm_sa31, nm_sa7, nm_m127, nm_m2, nm_nz, nm_nzk, nm_eq32, nm_nzf, if_true, if_false, ↓reduceIte, if_pos, if_neg]
            · have f62 := c62
              by_cases c94 : c = 94
              · subst c94
                by_cases d61 : d = 61
                · subst d61
                  simp (disch := (first | assumption | decide | omega)) only [df_X15_scan_453, df_X15_scan_436, df_X15_scan_423, df_X15_scan_244, df_X15_scan_243, df_X15_scan_226, df_X15_scan_209, df_X15_scan_192, df_X15_scan_175, df_X15_scan_158, df_X15_scan_141, df_X15_scan_124, h1, sgC, wid, tS, pr, al1, eq_self, Nat.reduceEqDiff, Nat.reduceLeDiff, nl_0, nl_1, nl_2, nl_10, nl_11, nl_12, nl_13, nl_14, nl_15, nl_16, nl_17, nl_18, nl_19, nl_20, nl_21, nl_22, nl_23, nl_24, nl_25, nl_26, nl_27, nl_28, nl_29, nl_30, nl_31, nl_32, nl_33, nl_34, nl_37, nl_38, nl_40, nl_41, nl_42, nl_43, nl_45, nl_47, nl_60, nl_61, nl_62, nl_91, nl_93, nl_94, nl_124, nl_126, no_1, no_1024, pk_mul, nI_add, nm_ck, nI_clamp, nI_ltI, nI_leI, nI_eq, nb_b2, nb_b1, ↓nb_let, nm_z0, nm_z1, nb_II, nb_IR, nb_RI, nb_RR, nm_IL, nm_IQ, nm_RL, nm_RQ, nm_LI, nm_LR, nm_LL, nm_LQ, nm_QI, nm_QR, nm_QL, nm_QQ, nm_rr, nm_ii, nm_eqm, not_false_eq_true, pk_sub, nm_div, nm_shl, nm_shr, nm_ush, nm_or8, nm_or64, nm_or256, nm_m1, nm_m3, nm_m7, nm_m15, nm_m31, nm_m63, nm_m255, nm_m511, nm_m1023, nm_m2047, nm_m65535, Nat.reduceMod, Nat.reducePow, Nat.reduceAdd, Nat.reduceSub, Nat.reduceMul, nm_bo, nm_bi, nm_rc, nm_ic, nm_ri, nm_rl, nm_rq, nm_ql, nm_qi, nm_li, nm_us, nm_uu, nm_cp, nm_sa31, nm_sa7, nm_m127, nm_m2, nm_nz, nm_nzk, nm_eq32, nm_nzf, if_true, if_false, ↓reduceIte, if_pos, if_neg]
                · have e61 := d61
                  by_cases dc : d = 94
                  · subst dc
                    simp (disch := (first | assumption | decide | omega)) only [df_X15_scan_453, df_X15_scan_436, df_X15_scan_423, df_X15_scan_244, df_X15_scan_243, df_X15_scan_226, df_X15_scan_209, df_X15_scan_192, df_X15_scan_175, df_X15_scan_158, df_X15_scan_141, df_X15_scan_124, h1, sgC, wid, tS, pr, al1, d61, eq_self, Nat.reduceEqDiff, Nat.reduceLeDiff, nl_0, nl_1, nl_2, nl_10, nl_11, nl_12, nl_13, nl_14, nl_15, nl_16, nl_17, nl_18, nl_19, nl_20, nl_21, nl_22, nl_23, nl_24, nl_25, nl_26, nl_27, nl_28, nl_29, nl_30, nl_31, nl_32, nl_33, nl_34, nl_37, nl_38, nl_40, nl_41, nl_42, nl_43, nl_45, nl_47, nl_60, nl_61, nl_62, nl_91, nl_93, nl_94, nl_124, nl_126, no_1, no_1024, pk_mul, nI_add, nm_ck, nI_clamp, nI_ltI, nI_leI, nI_eq, nb_b2, nb_b1, ↓nb_let, nm_z0, nm_z1, nb_II, nb_IR, nb_RI, nb_RR, nm_IL, nm_IQ, nm_RL, nm_RQ, nm_LI, nm_LR, nm_LL, nm_LQ, nm_QI, nm_QR, nm_QL, nm_QQ, nm_rr, nm_ii, nm_eqm, not_false_eq_true, pk_sub, nm_div, nm_shl, nm_shr, nm_ush, nm_or8, nm_or64, nm_or256, nm_m1, nm_m3, nm_m7, nm_m15, nm_m31, nm_m63, nm_m255, nm_m511, nm_m1023, nm_m2047, nm_m65535, Nat.reduceMod, Nat.reducePow, Nat.reduceAdd, Nat.reduceSub, Nat.reduceMul, nm_bo, nm_bi, nm_rc, nm_ic, nm_ri, nm_rl, nm_rq, nm_ql, nm_qi, nm_li, nm_us, nm_uu, nm_cp, nm_sa31, nm_sa7, nm_m127, nm_m2, nm_nz, nm_nzk, nm_eq32, nm_nzf, if_true, if_false, ↓reduceIte, if_pos, if_neg]
                  · have ec := dc
                    have fc : ¬ 94 = d := fun z => dc z.symm
                    simp (disch := (first | assumption | decide | omega)) only [df_X15_scan_453, df_X15_scan_436, df_X15_scan_423, df_X15_scan_244, df_X15_scan_243, df_X15_scan_226, df_X15_scan_209, df_X15_scan_192, df_X15_scan_175, df_X15_scan_158, df_X15_scan_141, df_X15_scan_124, h1, sgC, wid, tS, pr, al1, d61, dc, fc, eq_self, Nat.reduceEqDiff, Nat.reduceLeDiff, nl_0, nl_1, nl_2, nl_10, nl_11, nl_12, nl_13, nl_14, nl_15, nl_16, nl_17, nl_18, nl_19, nl_20, nl_21, nl_22, nl_23, nl_24, nl_25, nl_26, nl_27, nl_28, nl_29, nl_30, nl_31, nl_32, nl_33, nl_34, nl_37, nl_38, nl_40, nl_41, nl_42, nl_43, nl_45, nl_47, nl_60, nl_61, nl_62, nl_91, nl_93, nl_94, nl_124, nl_126, no_1, no_1024, pk_mul, nI_add, nm_ck, nI_clamp, nI_ltI, nI_leI, nI_eq, nb_b2, nb_b1, ↓nb_let, nm_z0, nm_z1, nb_II, nb_IR, nb_RI, nb_RR, nm_IL, nm_IQ, nm_RL, nm_RQ, nm_LI, nm_LR, nm_LL, nm_LQ, nm_QI, nm_QR, nm_QL, nm_QQ, nm_rr, nm_ii, nm_eqm, not_false_eq_true, pk_sub, nm_div, nm_shl, nm_shr, nm_ush, nm_or8, nm_or64, nm_or256, nm_m1, nm_m3, nm_m7, nm_m15, nm_m31, nm_m63, nm_m255, nm_m511, nm_m1023, nm_m2047, nm_m65535, Nat.reduceMod, Nat.reducePow, Nat.reduceAdd, Nat.reduceSub, Nat.reduceMul, nm_bo, nm_bi, nm_rc, nm_ic, nm_ri, nm_rl, nm_rq, nm_ql, nm_qi, nm_li, nm_us, nm_uu, nm_cp, nm_sa31, nm_sa7, nm_m127, nm_m2, nm_nz, nm_nzk, nm_eq32, nm_nzf, if_true, if_false, ↓reduceIte, if_pos, if_neg]
              · have f94 := c94
                by_cases c43 : c = 43
                · subst c43
                  by_cases d61 : d = 61
                  · subst d61
                    simp (disch := (first | assumption | decide | omega)) only [df_X15_scan_453, df_X15_scan_436, df_X15_scan_423, df_X15_scan_244, df_X15_scan_243, df_X15_scan_226, df_X15_scan_209, df_X15_scan_192, df_X15_scan_175, df_X15_scan_158, df_X15_scan_141, df_X15_scan_124, h1, sgC, wid, tS, pr, al1, eq_self, Nat.reduceEqDiff, Nat.reduceLeDiff, nl_0, nl_1, nl_2, nl_10, nl_11, nl_12, nl_13, nl_14, nl_15, nl_16, nl_17, nl_18, nl_19, nl_20, nl_21, nl_22, nl_23, nl_24, nl_25, nl_26, nl_27, nl_28, nl_29, nl_30, nl_31, nl_32, nl_33, nl_34, nl_37, nl_38, nl_40, nl_41, nl_42, nl_43, nl_45, nl_47, nl_60, nl_61, nl_62, nl_91, nl_93, nl_94, nl_124, nl_126, no_1, no_1024, pk_mul, nI_add, nm_ck, nI_clamp, nI_ltI, nI_leI, nI_eq, nb_b2, nb_b1, ↓nb_let, nm_z0, nm_z1, nb_II, nb_IR, nb_RI, nb_RR, nm_IL, nm_IQ, nm_RL, nm_RQ, nm_LI, nm_LR, nm_LL, nm_LQ, nm_QI, nm_QR, nm_QL, nm_QQ, nm_rr, nm_ii, nm_eqm, not_false_eq_true, pk_sub, nm_div, nm_shl, nm_shr, nm_ush, nm_or8, nm_or64, nm_or256, nm_m1, nm_m3, nm_m7, nm_m15, nm_m31, nm_m63, nm_m255, nm_m511, nm_m1023, nm_m2047, nm_m65535, Nat.reduceMod, Nat.reducePow, Nat.reduceAdd, Nat.reduceSub, Nat.reduceMul, nm_bo, nm_bi, nm_rc, nm_ic, nm_ri, nm_rl, nm_rq, nm_ql, nm_qi, nm_li, nm_us, nm_uu, nm_cp, nm_sa31, nm_sa7, nm_m127, nm_m2, nm_nz, nm_nzk, nm_eq32, nm_nzf, if_true, if_false, ↓reduceIte, if_pos, if_neg]
                  · have e61 := d61
                    by_cases dc : d = 43
                    · subst dc
                      simp (disch := (first | assumption | decide | omega)) only [df_X15_scan_453, df_X15_scan_436, df_X15_scan_423, df_X15_scan_244, df_X15_scan_243, df_X15_scan_226, df_X15_scan_209, df_X15_scan_192, df_X15_scan_175, df_X15_scan_158, df_X15_scan_141, df_X15_scan_124, h1, sgC, wid, tS, pr, al1, d61, eq_self, Nat.reduceEqDiff, Nat.reduceLeDiff, nl_0, nl_1, nl_2, nl_10, nl_11, nl_12, nl_13, nl_14, nl_15, nl_16, nl_17, nl_18, nl_19, nl_20, nl_21, nl_22, nl_23, nl_24, nl_25, nl_26, nl_27, nl_28, nl_29, nl_30, nl_31, nl_32, nl_33, nl_34, nl_37, nl_38, nl_40, nl_41, nl_42, nl_43, nl_45, nl_47, nl_60, nl_61, nl_62, nl_91, nl_93, nl_94, nl_124, nl_126, no_1, no_1024, pk_mul, nI_add, nm_ck, nI_clamp, nI_ltI, nI_leI, nI_eq, nb_b2, nb_b1, ↓nb_let, nm_z0, nm_z1, nb_II, nb_IR, nb_RI, nb_RR, nm_IL, nm_IQ, nm_RL, nm_RQ, nm_LI, nm_LR, nm_LL, nm_LQ, nm_QI, nm_QR, nm_QL, nm_QQ, nm_rr, nm_ii, nm_eqm, not_false_eq_true, pk_sub, nm_div, nm_shl, nm_shr, nm_ush, nm_or8, nm_or64, nm_or256, nm_m1, nm_m3, nm_m7, nm_m15, nm_m31, nm_m63, nm_m255, nm_m511, nm_m1023, nm_m2047, nm_m65535, Nat.reduceMod, Nat.reducePow, Nat.reduceAdd, Nat.reduceSub, Nat.reduceMul, nm_bo, nm_bi, nm_rc, nm_ic, nm_ri, nm_rl, nm_rq, nm_ql, nm_qi, nm_li, nm_us, nm_uu, nm_cp, nm_sa31, nm_sa7, nm_m127, nm_m2, nm_nz, nm_nzk, nm_eq32, nm_nzf, if_true, if_false, ↓reduceIte, if_pos, if_neg]
                    · have ec := dc
                      have fc : ¬ 43 = d := fun z => dc z.symm
                      simp (disch := (first | assumption | decide | omega)) only [df_X15_scan_453, df_X15_scan_436, df_X15_scan_423, df_X15_scan_244, df_X15_scan_243, df_X15_scan_226, df_X15_scan_209, df_X15_scan_192, df_X15_scan_175, df_X15_scan_158, df_X15_scan_141, df_X15_scan_124, h1, sgC, wid, tS, pr, al1, d61, dc, fc, eq_self, Nat.reduceEqDiff, Nat.reduceLeDiff, nl_0, nl_1, nl_2, nl_10, nl_11, nl_12, nl_13, nl_14, nl_15, nl_16, nl_17, nl_18, nl_19, nl_20, nl_21, nl_22, nl_23, nl_24, nl_25, nl_26, nl_27, nl_28, nl_29, nl_30, nl_31, nl_32, nl_33, nl_34, nl_37, nl_38, nl_40, nl_41, nl_42, nl_43, nl_45, nl_47, nl_60, nl_61, nl_62, nl_91, nl_93, nl_94, nl_124, nl_126, no_1, no_1024, pk_mul, nI_add, nm_ck, nI_clamp, nI_ltI, nI_leI, nI_eq, nb_b2, nb_b1, ↓nb_let, nm_z0, nm_z1, nb_II, nb_IR, nb_RI, nb_RR, nm_IL, nm_IQ, nm_RL, nm_RQ, nm_LI, nm_LR, nm_LL, nm_LQ, nm_QI, nm_QR, nm_QL, nm_QQ, nm_rr, nm_ii, nm_eqm, not_false_eq_true, pk_sub, nm_div, nm_shl, nm_shr, nm_ush, nm_or8, nm_or64, nm_or256, nm_m1, nm_m3, nm_m7, nm_m15, nm_m31, nm_m63, nm_m255, nm_m511, nm_m1023, nm_m2047, nm_m65535, Nat.reduceMod, Nat.reducePow, Nat.reduceAdd, Nat.reduceSub, Nat.reduceMul, nm_bo, nm_bi, nm_rc, nm_ic, nm_ri, nm_rl, nm_rq, nm_ql, nm_qi, nm_li, nm_us, nm_uu, nm_cp, nm_sa31, nm_sa7, nm_m127, nm_m2, nm_nz, nm_nzk, nm_eq32, nm_nzf, if_true, if_false, ↓reduceIte, if_pos, if_neg]
                · have f43 := c43
                  by_cases c45 : c = 45
                  · subst c45
                    by_cases d61 : d = 61
                    · subst d61
                      simp (disch := (first | assumption | decide | omega)) only [df_X15_scan_453, df_X15_scan_436, df_X15_scan_423, df_X15_scan_244, df_X15_scan_243, df_X15_scan_226, df_X15_scan_209, df_X15_scan_192, df_X15_scan_175, df_X15_scan_158, df_X15_scan_141, df_X15_scan_124, h1, sgC, wid, tS, pr, al1, eq_self, Nat.reduceEqDiff, Nat.reduceLeDiff, nl_0, nl_1, nl_2, nl_10, nl_11, nl_12, nl_13, nl_14, nl_15, nl_16, nl_17, nl_18, nl_19, nl_20, nl_21, nl_22, nl_23, nl_24, nl_25, nl_26, nl_27, nl_28, nl_29, nl_30, nl_31, nl_32, nl_33, nl_34, nl_37, nl_38, nl_40, nl_41, nl_42, nl_43, nl_45, nl_47, nl_60, nl_61, nl_62, nl_91, nl_93, nl_94, nl_124, nl_126, no_1, no_1024, pk_mul, nI_add, nm_ck, nI_clamp, nI_ltI, nI_leI, nI_eq, nb_b2, nb_b1, ↓nb_let, nm_z0, nm_z1, nb_II, nb_IR, nb_RI, nb_RR, nm_IL, nm_IQ, nm_RL, nm_RQ, nm_LI, nm_LR, nm_LL, nm_LQ, nm_QI, nm_QR, nm_QL, nm_QQ, nm_rr, nm_ii, nm_eqm, not_false_eq_true, pk_sub, nm_div, nm_shl, nm_shr, nm_ush, nm_or8, nm_or64, nm_or256, nm_m1, nm_m3, nm_m7, nm_m15, nm_m31, nm_m63, nm_m255, nm_m511, nm_m1023, nm_m2047, nm_m65535, Nat.reduceMod, Nat.reducePow, Nat.reduceAdd, Nat.reduceSub, Nat.reduceMul, nm_bo, nm_bi, nm_rc, nm_ic, nm_ri, nm_rl, nm_rq, nm_ql, nm_qi, nm_li, nm_us, nm_uu, nm_cp, nm_sa31, nm_sa7, nm_m127, nm_m2, nm_nz, nm_nzk, nm_eq32, nm_nzf, if_true, if_false, ↓reduceIte, if_pos, if_neg]
                    · have e61 := d61
                      by_cases dc : d = 45
                      · subst dc
                        simp (disch := (first | assumption | decide | omega)) only [df_X15_scan_453, df_X15_scan_436, df_X15_scan_423, df_X15_scan_244, df_X15_scan_243, df_X15_scan_226, df_X15_scan_209, df_X15_scan_192, df_X15_scan_175, df_X15_scan_158, df_X15_scan_141, df_X15_scan_124, h1, sgC, wid, tS, pr, al1, d61, eq_self, Nat.reduceEqDiff, Nat.reduceLeDiff, nl_0, nl_1, nl_2, nl_10, nl_11, nl_12, nl_13, nl_14, nl_15, nl_16, nl_17, nl_18, nl_19, nl_20, nl_21, nl_22, nl_23, nl_24, nl_25, nl_26, nl_27, nl_28, nl_29, nl_30, nl_31, nl_32, nl_33, nl_34, nl_37, nl_38, nl_40, nl_41, nl_42, nl_43, nl_45, nl_47, nl_60, nl_61, nl_62, nl_91, nl_93, nl_94, nl_124, nl_126, no_1, no_1024, pk_mul, nI_add, nm_ck, nI_clamp, nI_ltI, nI_leI, nI_eq, nb_b2, nb_b1, ↓nb_let, nm_z0, nm_z1, nb_II, nb_IR, nb_RI, nb_RR, nm_IL, nm_IQ, nm_RL, nm_RQ, nm_LI, nm_LR, nm_LL, nm_LQ, nm_QI, nm_QR, nm_QL, nm_QQ, nm_rr, nm_ii, nm_eqm, not_false_eq_true, pk_sub, nm_div, nm_shl, nm_shr, nm_ush, nm_or8, nm_or64, nm_or256, nm_m1, nm_m3, nm_m7, nm_m15, nm_m31, nm_m63, nm_m255, nm_m511, nm_m1023, nm_m2047, nm_m65535, Nat.reduceMod, Nat.reducePow, Nat.reduceAdd, Nat.reduceSub, Nat.reduceMul, nm_bo, nm_bi, nm_rc, nm_ic, nm_ri, nm_rl, nm_rq, nm_ql, nm_qi, nm_li, nm_us, nm_uu, nm_cp, nm_sa31, nm_sa7, nm_m127, nm_m2, nm_nz, nm_nzk, nm_eq32, nm_nzf, if_true, if_false, ↓reduceIte, if_pos, if_neg]
                      · have ec := dc
                        have fc : ¬ 45 = d := fun z => dc z.symm
                        simp (disch := (first | assumption | decide | omega)) only [df_X15_scan_453, df_X15_scan_436, df_X15_scan_423, df_X15_scan_244, df_X15_scan_243, df_X15_scan_226, df_X15_scan_209, df_X15_scan_192, df_X15_scan_175, df_X15_scan_158, df_X15_scan_141, df_X15_scan_124, h1, sgC, wid, tS, pr, al1, d61, dc, fc, eq_self, Nat.reduceEqDiff, Nat.reduceLeDiff, nl_0, nl_1, nl_2, nl_10, nl_11, nl_12, nl_13, nl_14, nl_15, nl_16, nl_17, nl_18, nl_19, nl_20, nl_21, nl_22, nl_23, nl_24, nl_25, nl_26, nl_27, nl_28, nl_29, nl_30, nl_31, nl_32, nl_33, nl_34, nl_37, nl_38, nl_40, nl_41, nl_42, nl_43, nl_45, nl_47, nl_60, nl_61, nl_62, nl_91, nl_93, nl_94, nl_124, nl_126, no_1, no_1024, pk_mul, nI_add, nm_ck, nI_clamp, nI_ltI, nI_leI, nI_eq, nb_b2, nb_b1, ↓nb_let, nm_z0, nm_z1, nb_II, nb_IR, nb_RI, nb_RR, nm_IL, nm_IQ, nm_RL, nm_RQ, nm_LI, nm_LR, nm_LL, nm_LQ, nm_QI, nm_QR, nm_QL, nm_QQ, nm_rr, nm_ii, nm_eqm, not_false_eq_true, pk_sub, nm_div, nm_shl, nm_shr, nm_ush, nm_or8, nm_or64, nm_or256, nm_m1, nm_m3, nm_m7, nm_m15, nm_m31, nm_m63, nm_m255, nm_m511, nm_m1023, nm_m2047, nm_m65535, Nat.reduceMod, Nat.reducePow, Nat.reduceAdd, Nat.reduceSub, Nat.reduceMul, nm_bo, nm_bi, nm_rc, nm_ic, nm_ri, nm_rl, nm_rq, nm_ql, nm_qi, nm_li, nm_us, nm_uu, nm_cp, nm_sa31, nm_sa7, nm_m127, nm_m2, nm_nz, nm_nzk, nm_eq32, nm_nzf, if_true, if_false, ↓reduceIte, if_pos, if_neg]
                  · have f45 := c45
                    by_cases c42 : c = 42
                    · subst c42
                      by_cases d61 : d = 61
                      · subst d61
                        simp (disch := (first | assumption | decide | omega)) only [df_X15_scan_453, df_X15_scan_436, df_X15_scan_423, df_X15_scan_244, df_X15_scan_243, df_X15_scan_226, df_X15_scan_209, df_X15_scan_192, df_X15_scan_175, df_X15_scan_158, df_X15_scan_141, df_X15_scan_124, h1, sgC, wid, tS, pr, al1, eq_self, Nat.reduceEqDiff, Nat.reduceLeDiff, nl_0, nl_1, nl_2, nl_10, nl_11, nl_12, nl_13, nl_14, nl_15, nl_16, nl_17, nl_18, nl_19, nl_20, nl_21, nl_22, nl_23, nl_24, nl_25, nl_26, nl_27, nl_28, nl_29, nl_30, nl_31, nl_32, nl_33, nl_34, nl_37, nl_38, nl_40, nl_41, nl_42, nl_43, nl_45, nl_47, nl_60, nl_61, nl_62, nl_91, nl_93, nl_94, nl_124, nl_126, no_1, no_1024, pk_mul, nI_add, nm_ck, nI_clamp, nI_ltI, nI_leI, nI_eq, nb_b2, nb_b1, ↓nb_let, nm_z0, nm_z1, nb_II, nb_IR, nb_RI, nb_RR, nm_IL, nm_IQ, nm_RL, nm_RQ, nm_LI, nm_LR, nm_LL, nm_LQ, nm_QI, nm_QR, nm_QL, nm_QQ, nm_rr, nm_ii, nm_eqm, not_false_eq_true, pk_sub, nm_div, nm_shl, nm_shr, nm_ush, nm_or8, nm_or64, nm_or256, nm_m1, nm_m3, nm_m7, nm_m15, nm_m31, nm_m63, nm_m255, nm_m511, nm_m1023, nm_m2047, nm_m65535, Nat.reduceMod, Nat.reducePow, Nat.reduceAdd, Nat.reduceSub, Nat.reduceMul, nm_bo, nm_bi, nm_rc, nm_ic, nm_ri, nm_rl, nm_rq, nm_ql, nm_qi, nm_li, nm_us, nm_uu, nm_cp, nm_sa31, nm_sa7, nm_m127, nm_m2, nm_nz, nm_nzk, nm_eq32, nm_nzf, if_true, if_false, ↓reduceIte, if_pos, if_neg]
                      · have e61 := d61
                        by_cases dc : d = 42
                        · subst dc
                          simp (disch := (first | assumption | decide | omega)) only [df_X15_scan_453, df_X15_scan_436, df_X15_scan_423, df_X15_scan_244, df_X15_scan_243, df_X15_scan_226, df_X15_scan_209, df_X15_scan_192, df_X15_scan_175, df_X15_scan_158, df_X15_scan_141, df_X15_scan_124, h1, sgC, wid, tS, pr, al1, d61, eq_self, Nat.reduceEqDiff, Nat.reduceLeDiff, nl_0, nl_1, nl_2, nl_10, nl_11, nl_12, nl_13, nl_14, nl_15, nl_16, nl_17, nl_18, nl_19, nl_20, nl_21, nl_22, nl_23, nl_24, nl_25, nl_26, nl_27, nl_28, nl_29, nl_30, nl_31, nl_32, nl_33, nl_34, nl_37, nl_38, nl_40, nl_41, nl_42, nl_43, nl_45, nl_47, nl_60, nl_61, nl_62, nl_91, nl_93, nl_94, nl_124, nl_126, no_1, no_1024, pk_mul, nI_add, nm_ck, nI_clamp, nI_ltI, nI_leI, nI_eq, nb_b2, nb_b1, ↓nb_let, nm_z0, nm_z1, nb_II, nb_IR, nb_RI, nb_RR, nm_IL, nm_IQ, nm_RL, nm_RQ, nm_LI, nm_LR, nm_LL, nm_LQ, nm_QI, nm_QR, nm_QL, nm_QQ, nm_rr, nm_ii, nm_eqm, not_false_eq_true, pk_sub, nm_div, nm_shl, nm_shr, nm_ush, nm_or8, nm_or64, nm_or256, nm_m1, nm_m3, nm_m7, nm_m15, nm_m31, nm_m63, nm_m255, nm_m511, nm_m1023, nm_m2047, nm_m65535, Nat.reduceMod, Nat.reducePow, Nat.reduceAdd, Nat.reduceSub, Nat.reduceMul, nm_bo, nm_bi, nm_rc, nm_ic, nm_ri, nm_rl, nm_rq, nm_ql, nm_qi, nm_li, nm_us, nm_uu, nm_cp, nm_sa31, nm_sa7, nm_m127, nm_m2, nm_nz, nm_nzk, nm_eq32, nm_nzf, if_true, if_false, ↓reduceIte, if_pos, if_neg]
                        · have ec := dc
                          have fc : ¬ 42 = d := fun z => dc z.symm
                          simp (disch := (first | assumption | decide | omega)) only [df_X15_scan_453, df_X15_scan_436, df_X15_scan_423, df_X15_scan_244, df_X15_scan_243, df_X15_scan_226, df_X15_scan_209, df_X15_scan_192, df_X15_scan_175, df_X15_scan_158, df_X15_scan_141, df_X15_scan_124, h1, sgC, wid, tS, pr, al1, d61, dc, fc, eq_self, Nat.reduceEqDiff, Nat.reduceLeDiff, nl_0, nl_1, nl_2, nl_10, nl_11, nl_12, nl_13, nl_14, nl_15, nl_16, nl_17, nl_18, nl_19, nl_20, nl_21, nl_22, nl_23, nl_24, nl_25, nl_26, nl_27, nl_28, nl_29, nl_30, nl_31, nl_32, nl_33, nl_34, nl_37, nl_38, nl_40, nl_41, nl_42, nl_43, nl_45, nl_47, nl_60, nl_61, nl_62, nl_91, nl_93, nl_94, nl_124, nl_126, no_1, no_1024, pk_mul, nI_add, nm_ck, nI_clamp, nI_ltI, nI_leI, nI_eq, nb_b2, nb_b1, ↓nb_let, nm_z0, nm_z1, nb_II, nb_IR, nb_RI, nb_RR, nm_IL, nm_IQ, nm_RL, nm_RQ, nm_LI, nm_LR, nm_LL, nm_LQ, nm_QI, nm_QR, nm_QL, nm_QQ, nm_rr, nm_ii, nm_eqm, not_false_eq_true, pk_sub, nm_div, nm_shl, nm_shr, nm_ush, nm_or8, nm_or64, nm_or256, nm_m1, nm_m3, nm_m7, nm_m15, nm_m31, nm_m63, nm_m255, nm_m511, nm_m1023, nm_m2047, nm_m65535, Nat.reduceMod, Nat.reducePow, Nat.reduceAdd, Nat.reduceSub, Nat.reduceMul, nm_bo, nm_bi, nm_rc, nm_ic, nm_ri, nm_rl, nm_rq, nm_ql, nm_qi, nm_li, nm_us, nm_uu, nm_cp, nm_sa31, nm_sa7, nm_m127, nm_m2, nm_nz, nm_nzk, nm_eq32, nm_nzf, if_true, if_false, ↓reduceIte, if_pos, if_neg]
                    · have f42 := c42
                      by_cases c47 : c = 47
                      · subst c47
                        by_cases d61 : d = 61
                        · subst d61
                          simp (disch := (first | assumption | decide | omega)) only [df_X15_scan_453, df_X15_scan_436, df_X15_scan_423, df_X15_scan_244, df_X15_scan_243, df_X15_scan_226, df_X15_scan_209, df_X15_scan_192, df_X15_scan_175, df_X15_scan_158, df_X15_scan_141, df_X15_scan_124, h1, sgC, wid, tS, pr, al1, eq_self, Nat.reduceEqDiff, Nat.reduceLeDiff, nl_0, nl_1, nl_2, nl_10, nl_11, nl_12, nl_13, nl_14, nl_15, nl_16, nl_17, nl_18, nl_19, nl_20, nl_21, nl_22, nl_23, nl_24, nl_25, nl_26, nl_27, nl_28, nl_29, nl_30, nl_31, nl_32, nl_33, nl_34, nl_37, nl_38, nl_40, nl_41, nl_42, nl_43, nl_45, nl_47, nl_60, nl_61, nl_62, nl_91, nl_93, nl_94, nl_124, nl_126, no_1, no_1024, pk_mul, nI_add, nm_ck, nI_clamp, nI_ltI, nI_leI, nI_eq, nb_b2, nb_b1, ↓nb_let, nm_z0, nm_z1, nb_II, nb_IR, nb_RI, nb_RR, nm_IL, nm_IQ, nm_RL, nm_RQ, nm_LI, nm_LR, nm_LL, nm_LQ, nm_QI, nm_QR, nm_QL, nm_QQ, nm_rr, nm_ii, nm_eqm, not_false_eq_true, pk_sub, nm_div, nm_shl, nm_shr, nm_ush, nm_or8, nm_or64, nm_or256, nm_m1, nm_m3, nm_m7, nm_m15, nm_m31, nm_m63, nm_m255, nm_m511, nm_m1023, nm_m2047, nm_m65535, Nat.reduceMod, Nat.reducePow, Nat.reduceAdd, Nat.reduceSub, Nat.reduceMul, nm_bo, nm_bi, nm_rc, nm_ic, nm_ri, nm_rl, nm_rq, nm_ql, nm_qi, nm_li, nm_us, nm_uu, nm_cp, nm_sa31, nm_sa7, nm_m127, nm_m2, nm_nz, nm_nzk, nm_eq32, nm_nzf, if_true, if_false, ↓reduceIte, if_pos, if_neg]
                        · have e61 := d61
                          by_cases dc : d = 47
                          · subst dc
                            simp (disch := (first | assumption | decide | omega)) only [df_X15_scan_453, df_X15_scan_436, df_X15_scan_423, df_X15_scan_244, df_X15_scan_243, df_X15_scan_226, df_X15_scan_209, df_X15_scan_192, df_X15_scan_175, df_X15_scan_158, df_X15_scan_141, df_X15_scan_124, h1, sgC, wid, tS, pr, al1, d61, eq_self, Nat.reduceEqDiff, Nat.reduceLeDiff, nl_0, nl_1, nl_2, nl_10, nl_11, nl_12, nl_13, nl_14, nl_15, nl_16, nl_17, nl_18, nl_19, nl_20, nl_21, nl_22, nl_23, nl_24, nl_25, nl_26, nl_27, nl_28, nl_29, nl_30, nl_31, nl_32, nl_33, nl_34, nl_37, nl_38, nl_40, nl_41, nl_42, nl_43, nl_45, nl_47, nl_60, nl_61, nl_62, nl_91, nl_93, nl_94, nl_124, nl_126, no_1, no_1024, pk_mul, nI_add, nm_ck, nI_clamp, nI_ltI, nI_leI, nI_eq, nb_b2, nb_b1, ↓nb_let, nm_z0, nm_z1, nb_II, nb_IR, nb_RI, nb_RR, nm_IL, nm_IQ, nm_RL, nm_RQ, nm_LI, nm_LR, nm_LL, nm_LQ, nm_QI, nm_QR, nm_QL, nm_QQ, nm_rr, nm_ii, nm_eqm, not_false_eq_true, pk_sub, nm_div, nm_shl, nm_shr, nm_ush, nm_or8, nm_or64, nm_or256, nm_m1, nm_m3, nm_m7, nm_m15, nm_m31, nm_m63, nm_m255, nm_m511, nm_m1023, nm_m2047, nm_m65535, Nat.reduceMod, Nat.reducePow, Nat.reduceAdd, Nat.reduceSub, Nat.reduceMul, nm_bo, nm_bi, nm_rc, nm_ic, nm_ri, nm_rl, nm_rq, nm_ql, nm_qi, nm_li, nm_us, nm_uu, nm_cp, nm_sa31, nm_sa7, nm_m127, nm_m2, nm_nz, nm_nzk, nm_eq32, nm_nzf, if_true, if_false, ↓reduceIte, if_pos, if_neg]
                          · have ec := dc
                            have fc : ¬ 47 = d := fun z => dc z.symm
                            simp (disch := (first | assumption | decide | omega)) only [df_X15_scan_453, df_X15_scan_436, df_X15_scan_423, df_X15_scan_244, df_X15_scan_243, df_X15_scan_226, df_X15_scan_209, df_X15_scan_192, df_X15_scan_175, df_X15_scan_158, df_X15_scan_141, df_X15_scan_124, h1, sgC, wid, tS, pr, al1, d61, dc, fc, eq_self, Nat.reduceEqDiff, Nat.reduceLeDiff, nl_0, nl_1, nl_2, nl_10, nl_11, nl_12, nl_13, nl_14, nl_15, nl_16, nl_17, nl_18, nl_19, nl_20, nl_21, nl_22, nl_23, nl_24, nl_25, nl_26, nl_27, nl_28, nl_29, nl_30, nl_31, nl_32, nl_33, nl_34, nl_37, nl_38, nl_40, nl_41, nl_42, nl_43, nl_45, nl_47, nl_60, nl_61, nl_62, nl_91, nl_93, nl_94, nl_124, nl_126, no_1, no_1024, pk_mul, nI_add, nm_ck, nI_clamp, nI_ltI, nI_leI, nI_eq, nb_b2, nb_b1, ↓nb_let, nm_z0, nm_z1, nb_II, nb_IR, nb_RI, nb_RR, nm_IL, nm_IQ, nm_RL, nm_RQ, nm_LI, nm_LR, nm_LL, nm_LQ, nm_QI, nm_QR, nm_QL, nm_QQ, nm_rr, nm_ii, nm_eqm, not_false_eq_true, pk_sub, nm_div, nm_shl, nm_shr, nm_ush, nm_or8, nm_or64, nm_or256, nm_m1, nm_m3, nm_m7, nm_m15, nm_m31, nm_m63, nm_m255, nm_m511, nm_m1023, nm_m2047, nm_m65535, Nat.reduceMod, Nat.reducePow, Nat.reduceAdd, Nat.reduceSub, Nat.reduceMul, nm_bo, nm_bi, nm_rc, nm_ic, nm_ri, nm_rl, nm_rq, nm_ql, nm_qi, nm_li, nm_us, nm_uu, nm_cp, nm_sa31, nm_sa7, nm_m127, nm_m2, nm_nz, nm_nzk, nm_eq32, nm_nzf, if_true, if_false, ↓reduceIte, if_pos, if_neg]
                      · have f47 := c47
                        by_cases c37 : c = 37
                        · subst c37
                          by_cases d61 : d = 61
                          · subst d61
                            simp (disch := (first | assumption | decide | omega)) only [df_X15_scan_453, df_X15_scan_436, df_X15_scan_423, df_X15_scan_244, df_X15_scan_243, df_X15_scan_226, df_X15_scan_209, df_X15_scan_192, df_X15_scan_175, df_X15_scan_158, df_X15_scan_141, df_X15_scan_124, h1, sgC, wid, tS, pr, al1, eq_self, Nat.reduceEqDiff, Nat.reduceLeDiff, nl_0, nl_1, nl_2, nl_10, nl_11, nl_12, nl_13, nl_14, nl_15, nl_16, nl_17, nl_18, nl_19, nl_20, nl_21, nl_22, nl_23, nl_24, nl_25, nl_26, nl_27, nl_28, nl_29, nl_30, nl_31, nl_32, nl_33, nl_34, nl_37, nl_38, nl_40, nl_41, nl_42, nl_43, nl_45, nl_47, nl_60, nl_61, nl_62, nl_91, nl_93, nl_94, nl_124, nl_126, no_1, no_1024, pk_mul, nI_add, nm_ck, nI_clamp, nI_ltI, nI_leI, nI_eq, nb_b2, nb_b1, ↓nb_let, nm_z0, nm_z1, nb_II, nb_IR, nb_RI, nb_RR, nm_IL, nm_IQ, nm_RL, nm_RQ, nm_LI, nm_LR, nm_LL, nm_LQ, nm_QI, nm_QR, nm_QL, nm_QQ, nm_rr, nm_ii, nm_eqm, not_false_eq_true, pk_sub, nm_div, nm_shl, nm_shr, nm_ush, nm_or8, nm_or64, nm_or256, nm_m1, nm_m3, nm_m7, nm_m15, nm_m31, nm_m63, nm_m255, nm_m511, nm_m1023, nm_m2047, nm_m65535, Nat.reduceMod, Nat.reducePow, Nat.reduceAdd, Nat.reduceSub, Nat.reduceMul, nm_bo, nm_bi, nm_rc, nm_ic, nm_ri, nm_rl, nm_rq, nm_ql, nm_qi, nm_li, nm_us, nm_uu, nm_cp, nm_sa31, nm_sa7, nm_m127, nm_m2, nm_nz, nm_nzk, nm_eq32, nm_nzf, if_true, if_false, ↓reduceIte, if_pos, if_neg]
                          · have e61 := d61
                            by_cases dc : d = 37
                            · subst dc
                              simp (disch := (first | assumption | decide | omega)) only [df_X15_scan_453, df_X15_scan_436, df_X15_scan_423, df_X15_scan_244, df_X15_scan_243, df_X15_scan_226, df_X15_scan_209, df_X15_scan_192, df_X15_scan_175, df_X15_scan_158, df_X15_scan_141, df_X15_scan_124, h1, sgC, wid, tS, pr, al1, d61, eq_self, Nat.reduceEqDiff, Nat.reduceLeDiff, nl_0, nl_1, nl_2, nl_10, nl_11, nl_12, nl_13, nl_14, nl_15, nl_16, nl_17, nl_18, nl_19, nl_20, nl_21, nl_22, nl_23, nl_24, nl_25, nl_26, nl_27, nl_28, nl_29, nl_30, nl_31, nl_32, nl_33, nl_34, nl_37, nl_38, nl_40, nl_41, nl_42, nl_43, nl_45, nl_47, nl_60, nl_61, nl_62, nl_91, nl_93, nl_94, nl_124, nl_126, no_1, no_1024, pk_mul, nI_add, nm_ck, nI_clamp, nI_ltI, nI_leI, nI_eq, nb_b2, nb_b1, ↓nb_let, nm_z0, nm_z1, nb_II, nb_IR, nb_RI, nb_RR, nm_IL, nm_IQ, nm_RL, nm_RQ, nm_LI, nm_LR, nm_LL, nm_LQ, nm_QI, nm_QR, nm_QL, nm_QQ, nm_rr, nm_ii, nm_eqm, not_false_eq_true, pk_sub, nm_div, nm_shl, nm_shr, nm_ush, nm_or8, nm_or64, nm_or256, nm_m1, nm_m3, nm_m7, nm_m15, nm_m31, nm_m63, nm_m255, nm_m511, nm_m1023, nm_m2047, nm_m65535, Nat.reduceMod, Nat.reducePow, Nat.reduceAdd, Nat.reduceSub, Nat.reduceMul, nm_bo, nm_bi, nm_rc, nm_ic, nm_ri, nm_rl, nm_rq, nm_ql, nm_qi, nm_li, nm_us, nm_uu, nm_cp, nm_sa31, nm_sa7, nm_m127, nm_m2, nm_nz, nm_nzk, nm_eq32, nm_nzf, if_true, if_false, ↓reduceIte, if_pos, if_neg]
                            · have ec := dc
                              have fc : ¬ 37 = d := fun z => dc z.symm
                              simp (disch := (first | assumption | decide | omega)) only [df_X15_scan_453, df_X15_scan_436, df_X15_scan_423, df_X15_scan_244, df_X15_scan_243, df_X15_scan_226, df_X15_scan_209, df_X15_scan_192, df_X15_scan_175, df_X15_scan_158, df_X15_scan_141, df_X15_scan_124, h1, sgC, wid, tS, pr, al1, d61, dc, fc, eq_self, Nat.reduceEqDiff, Nat.reduceLeDiff, nl_0, nl_1, nl_2, nl_10, nl_11, nl_12, nl_13, nl_14, nl_15, nl_16, nl_17, nl_18, nl_19, nl_20, nl_21, nl_22, nl_23, nl_24, nl_25, nl_26, nl_27, nl_28, nl_29, nl_30, nl_31, nl_32, nl_33, nl_34, nl_37, nl_38, nl_40, nl_41, nl_42, nl_43, nl_45, nl_47, nl_60, nl_61, nl_62, nl_91, nl_93, nl_94, nl_124, nl_126, no_1, no_1024, pk_mul, nI_add, nm_ck, nI_clamp, nI_ltI, nI_leI, nI_eq, nb_b2, nb_b1, ↓nb_let, nm_z0, nm_z1, nb_II, nb_IR, nb_RI, nb_RR, nm_IL, nm_IQ, nm_RL, nm_RQ, nm_LI, nm_LR, nm_LL, nm_LQ, nm_QI, nm_QR, nm_QL, nm_QQ, nm_rr, nm_ii, nm_eqm, not_false_eq_true, pk_sub, nm_div, nm_shl, nm_shr, nm_ush, nm_or8, nm_or64, nm_or256, nm_m1, nm_m3, nm_m7, nm_m15, nm_m31, nm_m63, nm_m255, nm_m511, nm_m1023, nm_m2047, nm_m65535, Nat.reduceMod, Nat.reducePow, Nat.reduceAdd, Nat.reduceSub, Nat.reduceMul, nm_bo, nm_bi, nm_rc, nm_ic, nm_ri, nm_rl, nm_rq, nm_ql, nm_qi, nm_li, nm_us, nm_uu, nm_cp, nm_sa31, nm_sa7, nm_m127, nm_m2, nm_nz, nm_nzk, nm_eq32, nm_nzf, if_true, if_false, ↓reduceIte, if_pos, if_neg]
                        · have f37 := c37
                          by_cases c126 : c = 126
                          · subst c126
                            by_cases d61 : d = 61
                            · subst d61
                              simp (disch := (first | assumption | decide | omega)) only [df_X15_scan_453, df_X15_scan_436, df_X15_scan_423, df_X15_scan_244, df_X15_scan_243, df_X15_scan_226, df_X15_scan_209, df_X15_scan_192, df_X15_scan_175, df_X15_scan_158, df_X15_scan_141, df_X15_scan_124, h1, sgC, wid, tS, pr, al1, eq_self, Nat.reduceEqDiff, Nat.reduceLeDiff, nl_0, nl_1, nl_2, nl_10, nl_11, nl_12, nl_13, nl_14, nl_15, nl_16, nl_17, nl_18, nl_19, nl_20, nl_21, nl_22, nl_23, nl_24, nl_25, nl_26, nl_27, nl_28, nl_29, nl_30, nl_31, nl_32, nl_33, nl_34, nl_37, nl_38, nl_40, nl_41, nl_42, nl_43, nl_45, nl_47, nl_60, nl_61, nl_62, nl_91, nl_93, nl_94, nl_124, nl_126, no_1, no_1024, pk_mul, nI_add, nm_ck, nI_clamp, nI_ltI, nI_leI, nI_eq, nb_b2, nb_b1, ↓nb_let, nm_z0, nm_z1, nb_II, nb_IR, nb_RI, nb_RR, nm_IL, nm_IQ, nm_RL, nm_RQ, nm_LI, nm_LR, nm_LL, nm_LQ, nm_QI, nm_QR, nm_QL, nm_QQ, nm_rr, nm_ii, nm_eqm, not_false_eq_true, pk_sub, nm_div, nm_shl, nm_shr, nm_ush, nm_or8, nm_or64, nm_or256, nm_m1, nm_m3, nm_m7, nm_m15, nm_m31, nm_m63, nm_m255, nm_m511, nm_m1023, nm_m2047, nm_m65535, Nat.reduceMod, Nat.reducePow, Nat.reduceAdd, Nat.reduceSub, Nat.reduceMul, nm_bo, nm_bi, nm_rc, nm_ic, nm_ri, nm_rl, nm_rq, nm_ql, nm_qi, nm_li, nm_us, nm_uu, nm_cp, nm_sa31, nm_sa7, nm_m127, nm_m2, nm_nz, nm_nzk, nm_eq32, nm_nzf, if_true, if_false, ↓reduceIte, if_pos, if_neg]
                            · have e61 := d61
                              by_cases dc : d = 126
                              · subst dc
                                simp (disch := (first | assumption | decide | omega)) only [df_X15_scan_453, df_X15_scan_436, df_X15_scan_423, df_X15_scan_244, df_X15_scan_243, df_X15_scan_226, df_X15_scan_209, df_X15_scan_192, df_X15_scan_175, df_X15_scan_158, df_X15_scan_141, df_X15_scan_124, h1, sgC, wid, tS, pr, al1, d61, eq_self, Nat.reduceEqDiff, Nat.reduceLeDiff, nl_0, nl_1, nl_2, nl_10, nl_11, nl_12, nl_13, nl_14, nl_15, nl_16, nl_17, nl_18, nl_19, nl_20, nl_21, nl_22, nl_23, nl_24, nl_25, nl_26, nl_27, nl_28, nl_29, nl_30, nl_31, nl_32, nl_33, nl_34, nl_37, nl_38, nl_40, nl_41, nl_42, nl_43, nl_45, nl_47, nl_60, nl_61, nl_62, nl_91, nl_93, nl_94, nl_124, nl_126, no_1, no_1024, pk_mul, nI_add, nm_ck, nI_clamp, nI_ltI, nI_leI, nI_eq, nb_b2, nb_b1, ↓nb_let, nm_z0, nm_z1, nb_II, nb_IR, nb_RI, nb_RR, nm_IL, nm_IQ, nm_RL, nm_RQ, nm_LI, nm_LR, nm_LL, nm_LQ, nm_QI, nm_QR, nm_QL, nm_QQ, nm_rr, nm_ii, nm_eqm, not_false_eq_true, pk_sub, nm_div, nm_shl, nm_shr, nm_ush, nm_or8, nm_or64, nm_or256, nm_m1, nm_m3, nm_m7, nm_m15, nm_m31, nm_m63, nm_m255, nm_m511, nm_m1023, nm_m2047, nm_m65535, Nat.reduceMod, Nat.reducePow, Nat.reduceAdd, Nat.reduceSub, Nat.reduceMul, nm_bo, nm_bi, nm_rc, nm_ic, nm_ri, nm_rl, nm_rq, nm_ql, nm_qi, nm_li, nm_us, nm_uu, nm_cp, nm_sa31, nm_sa7, nm_m127, nm_m2, nm_nz, nm_nzk, nm_eq32, nm_nzf, if_true, if_false, ↓reduceIte, if_pos, if_neg]
                              · have ec := dc
                                have fc : ¬ 126 = d := fun z => dc z.symm
                                simp (disch := (first | assumption | decide | omega)) only [df_X15_scan_453, df_X15_scan_436, df_X15_scan_423, df_X15_scan_244, df_X15_scan_243, df_X15_scan_226, df_X15_scan_209, df_X15_scan_192, df_X15_scan_175, df_X15_scan_158, df_X15_scan_141, df_X15_scan_124, h1, sgC, wid, tS, pr, al1, d61, dc, fc, eq_self, Nat.reduceEqDiff, Nat.reduceLeDiff, nl_0, nl_1, nl_2, nl_10, nl_11, nl_12, nl_13, nl_14, nl_15, nl_16, nl_17, nl_18, nl_19, nl_20, nl_21, nl_22, nl_23, nl_24, nl_25, nl_26, nl_27, nl_28, nl_29, nl_30, nl_31, nl_32, nl_33, nl_34, nl_37, nl_38, nl_40, nl_41, nl_42, nl_43, nl_45, nl_47, nl_60, nl_61, nl_62, nl_91, nl_93, nl_94, nl_124, nl_126, no_1, no_1024, pk_mul, nI_add, nm_ck, nI_clamp, nI_ltI, nI_leI, nI_eq, nb_b2, nb_b1, ↓nb_let, nm_z0, nm_z1, nb_II, nb_IR, nb_RI, nb_RR, nm_IL, nm_IQ, nm_RL, nm_RQ, nm_LI, nm_LR, nm_LL, nm_LQ, nm_QI, nm_QR, nm_QL, nm_QQ, nm_rr, nm_ii, nm_eqm, not_false_eq_true, pk_sub, nm_div, nm_shl, nm_shr, nm_ush, nm_or8, nm_or64, nm_or256, nm_m1, nm_m3, nm_m7, nm_m15, nm_m31, nm_m63, nm_m255, nm_m511, nm_m1023, nm_m2047, nm_m65535, Nat.reduceMod, Nat.reducePow, Nat.reduceAdd, Nat.reduceSub, Nat.reduceMul, nm_bo, nm_bi, nm_rc, nm_ic, nm_ri, nm_rl, nm_rq, nm_ql, nm_qi, nm_li, nm_us, nm_uu, nm_cp, nm_sa31, nm_sa7, nm_m127, nm_m2, nm_nz, nm_nzk, nm_eq32, nm_nzf, if_true, if_false, ↓reduceIte, if_pos, if_neg]
                          · have f126 := c126
                            by_cases c40 : c = 40
                            · subst c40
                              by_cases d61 : d = 61
                              · subst d61
                                simp (disch := (first | assumption | decide | omega)) only [df_X15_scan_453, df_X15_scan_436, df_X15_scan_423, df_X15_scan_244, df_X15_scan_243, df_X15_scan_226, df_X15_scan_209, df_X15_scan_192, df_X15_scan_175, df_X15_scan_158, df_X15_scan_141, df_X15_scan_124, h1, sgC, wid, tS, pr, al1, eq_self, Nat.reduceEqDiff, Nat.reduceLeDiff, nl_0, nl_1, nl_2, nl_10, nl_11, nl_12, nl_13, nl_14, nl_15, nl_16, nl_17, nl_18, nl_19, nl_20, nl_21, nl_22, nl_23, nl_24, nl_25, nl_26, nl_27, nl_28, nl_29, nl_30, nl_31, nl_32, nl_33, nl_34, nl_37, nl_38, nl_40, nl_41, nl_42, nl_43, nl_45, nl_47, nl_60, nl_61, nl_62, nl_91, nl_93, nl_94, nl_124, nl_126, no_1, no_1024, pk_mul, nI_add, nm_ck, nI_clamp, nI_ltI, nI_leI, nI_eq, nb_b2, nb_b1, ↓nb_let, nm_z0, nm_z1, nb_II, nb_IR, nb_RI, nb_RR, nm_IL, nm_IQ, nm_RL, nm_RQ, nm_LI, nm_LR, nm_LL, nm_LQ, nm_QI, nm_QR, nm_QL, nm_QQ, nm_rr, nm_ii, nm_eqm, not_false_eq_true, pk_sub, nm_div, nm_shl, nm_shr, nm_ush, nm_or8, nm_or64, nm_or256, nm_m1, nm_m3, nm_m7, nm_m15, nm_m31, nm_m63, nm_m255, nm_m511, nm_m1023, nm_m2047, nm_m65535, Nat.reduceMod, Nat.reducePow, Nat.reduceAdd, Nat.reduceSub, Nat.reduceMul, nm_bo, nm_bi, nm_rc, nm_ic, nm_ri, nm_rl, nm_rq, nm_ql, nm_qi, nm_li, nm_us, nm_uu, nm_cp, nm_sa31, nm_sa7, nm_m127, nm_m2, nm_nz, nm_nzk, nm_eq32, nm_nzf, if_true, if_false, ↓reduceIte, if_pos, if_neg]
                              · have e61 := d61
                                by_cases dc : d = 40
                                · subst dc
                                  simp (disch := (first | assumption | decide | omega)) only [df_X15_scan_453, df_X15_scan_436, df_X15_scan_423, df_X15_scan_244, df_X15_scan_243, df_X15_scan_226, df_X15_scan_209, df_X15_scan_192, df_X15_scan_175, df_X15_scan_158, df_X15_scan_141, df_X15_scan_124, h1, sgC, wid, tS, pr, al1, d61, eq_self, Nat.reduceEqDiff, Nat.reduceLeDiff, nl_0, nl_1, nl_2, nl_10, nl_11, nl_12, nl_13, nl_14, nl_15, nl_16, nl_17, nl_18, nl_19, nl_20, nl_21, nl_22, nl_23, nl_24, nl_25, nl_26, nl_27, nl_28, nl_29, nl_30, nl_31, nl_32, nl_33, nl_34, nl_37, nl_38, nl_40, nl_41, nl_42, nl_43, nl_45, nl_47, nl_60, nl_61, nl_62, nl_91, nl_93, nl_94, nl_124, nl_126, no_1, no_1024, pk_mul, nI_add, nm_ck, nI_clamp, nI_ltI, nI_leI, nI_eq, nb_b2, nb_b1, ↓nb_let, nm_z0, nm_z1, nb_II, nb_IR, nb_RI, nb_RR, nm_IL, nm_IQ, nm_RL, nm_RQ, nm_LI, nm_LR, nm_LL, nm_LQ, nm_QI, nm_QR, nm_QL, nm_QQ, nm_rr, nm_ii, nm_eqm, not_false_eq_true, pk_sub, nm_div, nm_shl, nm_shr, nm_ush, nm_or8, nm_or64, nm_or256, nm_m1, nm_m3, nm_m7, nm_m15, nm_m31, nm_m63, nm_m255, nm_m511, nm_m1023, nm_m2047, nm_m65535, Nat.reduceMod, Nat.reducePow, Nat.reduceAdd, Nat.reduceSub, Nat.reduceMul, nm_bo, nm_bi, nm_rc, nm_ic, nm_ri, nm_rl, nm_rq, nm_ql, nm_qi, nm_li, nm_us, nm_uu, nm_cp, nm_sa31, nm_sa7, nm_m127, nm_m2, nm_nz, nm_nzk, nm_eq32, nm_nzf, if_true, if_false, ↓reduceIte, if_pos, if_neg]
                                · have ec := dc
                                  have fc : ¬ 40 = d := fun z => dc z.symm
                                  simp (disch := (first | assumption | decide | omega)) only [df_X15_scan_453, df_X15_scan_436, df_X15_scan_423, df_X15_scan_244, df_X15_scan_243, df_X15_scan_226, df_X15_scan_209, df_X15_scan_192, df_X15_scan_175, df_X15_scan_158, df_X15_scan_141, df_X15_scan_124, h1, sgC, wid, tS, pr, al1, d61, dc, fc, eq_self, Nat.reduceEqDiff, Nat.reduceLeDiff, nl_0, nl_1, nl_2, nl_10, nl_11, nl_12, nl_13, nl_14, nl_15, nl_16, nl_17, nl_18, nl_19, nl_20, nl_21, nl_22, nl_23, nl_24, nl_25, nl_26, nl_27, nl_28, nl_29, nl_30, nl_31, nl_32, nl_33, nl_34, nl_37, nl_38, nl_40, nl_41, nl_42, nl_43, nl_45, nl_47, nl_60, nl_61, nl_62, nl_91, nl_93, nl_94, nl_124, nl_126, no_1, no_1024, pk_mul, nI_add, nm_ck, nI_clamp, nI_ltI, nI_leI, nI_eq, nb_b2, nb_b1, ↓nb_let, nm_z0, nm_z1, nb_II, nb_IR, nb_RI, nb_RR, nm_IL, nm_IQ, nm_RL, nm_RQ, nm_LI, nm_LR, nm_LL, nm_LQ, nm_QI, nm_QR, nm_QL, nm_QQ, nm_rr, nm_ii, nm_eqm, not_false_eq_true, pk_sub, nm_div, nm_shl, nm_shr, nm_ush, nm_or8, nm_or64, nm_or256, nm_m1, nm_m3, nm_m7, nm_m15, nm_m31, nm_m63, nm_m255, nm_m511, nm_m1023, nm_m2047, nm_m65535, Nat.reduceMod, Nat.reducePow, Nat.reduceAdd, Nat.reduceSub, Nat.reduceMul, nm_bo, nm_bi, nm_rc, nm_ic, nm_ri, nm_rl, nm_rq, nm_ql, nm_qi, nm_li, nm_us, nm_uu, nm_cp, nm_sa31, nm_sa7, nm_m127, nm_m2, nm_nz, nm_nzk, nm_eq32, nm_nzf, if_true, if_false, ↓reduceIte, if_pos, if_neg]
                            · have f40 := c40
                              by_cases c41 : c = 41
                              · subst c41
                                by_cases d61 : d = 61
                                · subst d61
                                  simp (disch := (first | assumption | decide | omega)) only [df_X15_scan_453, df_X15_scan_436, df_X15_scan_423, df_X15_scan_244, df_X15_scan_243, df_X15_scan_226, df_X15_scan_209, df_X15_scan_192, df_X15_scan_175, df_X15_scan_158, df_X15_scan_141, df_X15_scan_124, h1, sgC, wid, tS, pr, al1, eq_self, Nat.reduceEqDiff, Nat.reduceLeDiff, nl_0, nl_1, nl_2, nl_10, nl_11, nl_12, nl_13, nl_14, nl_15, nl_16, nl_17, nl_18, nl_19, nl_20, nl_21, nl_22, nl_23, nl_24, nl_25, nl_26, nl_27, nl_28, nl_29, nl_30, nl_31, nl_32, nl_33, nl_34, nl_37, nl_38, nl_40, nl_41, nl_42, nl_43, nl_45, nl_47, nl_60, nl_61, nl_62, nl_91, nl_93, nl_94, nl_124, nl_126, no_1, no_1024, pk_mul, nI_add, nm_ck, nI_clamp, nI_ltI, nI_leI, nI_eq, nb_b2, nb_b1, ↓nb_let, nm_z0, nm_z1, nb_II, nb_IR, nb_RI, nb_RR, nm_IL, nm_IQ, nm_RL, nm_RQ, nm_LI, nm_LR, nm_LL, nm_LQ, nm_QI, nm_QR, nm_QL, nm_QQ, nm_rr, nm_ii, nm_eqm, not_false_eq_true, pk_sub, nm_div, nm_shl, nm_shr, nm_ush, nm_or8, nm_or64, nm_or256, nm_m1, nm_m3, nm_m7, nm_m15, nm_m31, nm_m63, nm_m255, nm_m511, nm_m1023, nm_m2047, nm_m65535, Nat.reduceMod, Nat.reducePow, Nat.reduceAdd, Nat.reduceSub, Nat.reduceMul, nm_bo, nm_bi, nm_rc, nm_ic, nm_ri, nm_rl, nm_rq, nm_ql, nm_qi, nm_li, nm_us, nm_uu, nm_cp, nm_sa31, nm_sa7, nm_m127, nm_m2, nm_nz, nm_nzk, nm_eq32, nm_nzf, if_true, if_false, ↓reduceIte, if_pos, if_neg]
                                · have e61 := d61
                                  by_cases dc : d = 41
                                  · subst dc
                                    simp (disch := (first | assumption | decide | omega)) only [df_X15_scan_453, df_X15_scan_436, df_X15_scan_423, df_X15_scan_244, df_X15_scan_243, df_X15_scan_226, df_X15_scan_209, df_X15_scan_192, df_X15_scan_175, df_X15_scan_158, df_X15_scan_141, df_X15_scan_124, h1, sgC, wid, tS, pr, al1, d61, eq_self, Nat.reduceEqDiff, Nat.reduceLeDiff, nl_0, nl_1, nl_2, nl_10, nl_11, nl_12, nl_13, nl_14, nl_15, nl_16, nl_17, nl_18, nl_19, nl_20, nl_21, nl_22, nl_23, nl_24, nl_25, nl_26, nl_27, nl_28, nl_29, nl_30, nl_31, nl_32, nl_33, nl_34, nl_37, nl_38, nl_40, nl_41, nl_42, nl_43, nl_45, nl_47, nl_60, nl_61, nl_62, nl_91, nl_93, nl_94, nl_124, nl_126, no_1, no_1024, pk_mul, nI_add, nm_ck, nI_clamp, nI_ltI, nI_leI, nI_eq, nb_b2, nb_b1, ↓nb_let, nm_z0, nm_z1, nb_II, nb_IR, nb_RI, nb_RR, nm_IL, nm_IQ, nm_RL, nm_RQ, nm_LI, nm_LR, nm_LL, nm_LQ, nm_QI, nm_QR, nm_QL, nm_QQ, nm_rr, nm_ii, nm_eqm, not_false_eq_true, pk_sub, nm_div, nm_shl, nm_shr, nm_ush, nm_or8, nm_or64, nm_or256, nm_m1, nm_m3, nm_m7, nm_m15, nm_m31, nm_m63, nm_m255, nm_m511, nm_m1023, nm_m2047, nm_m65535, Nat.reduceMod, Nat.reducePow, Nat.reduceAdd, Nat.reduceSub, Nat.reduceMul, nm_bo, nm_bi, nm_rc, nm_ic, nm_ri, nm_rl, nm_rq, nm_ql, nm_qi, nm_li, nm_us, nm_uu, nm_cp, nm_sa31, nm_sa7, nm_m127, nm_m2, nm_nz, nm_nzk, nm_eq32, nm_nzf, if_true, if_false, ↓reduceIte, if_pos, if_neg]
                                  · have ec := dc
                                    have fc : ¬ 41 = d := fun z => dc z.symm
                                    simp (disch := (first | assumption | decide | omega)) only [df_X15_scan_453, df_X15_scan_436, df_X15_scan_423, df_X15_scan_244, df_X15_scan_243, df_X15_scan_226, df_X15_scan_209, df_X15_scan_192, df_X15_scan_175, df_X15_scan_158, df_X15_scan_141, df_X15_scan_124, h1, sgC, wid, tS, pr, al1, d61, dc, fc, eq_self, Nat.reduceEqDiff, Nat.reduceLeDiff, nl_0, nl_1, nl_2, nl_10, nl_11, nl_12, nl_13, nl_14, nl_15, nl_16, nl_17, nl_18, nl_19, nl_20, nl_21, nl_22, nl_23, nl_24, nl_25, nl_26, nl_27, nl_28, nl_29, nl_30, nl_31, nl_32, nl_33, nl_34, nl_37, nl_38, nl_40, nl_41, nl_42, nl_43, nl_45, nl_47, nl_60, nl_61, nl_62, nl_91, nl_93, nl_94, nl_124, nl_126, no_1, no_1024, pk_mul, nI_add, nm_ck, nI_clamp, nI_ltI, nI_leI, nI_eq, nb_b2, nb_b1, ↓nb_let, nm_z0, nm_z1, nb_II, nb_IR, nb_RI, nb_RR, nm_IL, nm_IQ, nm_RL, nm_RQ, nm_LI, nm_LR, nm_LL, nm_LQ, nm_QI, nm_QR, nm_QL, nm_QQ, nm_rr, nm_ii, nm_eqm, not_false_eq_true, pk_sub, nm_div, nm_shl, nm_shr, nm_ush, nm_or8, nm_or64, nm_or256, nm_m1, nm_m3, nm_m7, nm_m15, nm_m31, nm_m63, nm_m255, nm_m511, nm_m1023, nm_m2047, nm_m65535, Nat.reduceMod, Nat.reducePow, Nat.reduceAdd, Nat.reduceSub, Nat.reduceMul, nm_bo, nm_bi, nm_rc, nm_ic, nm_ri, nm_rl, nm_rq, nm_ql, nm_qi, nm_li, nm_us, nm_uu, nm_cp, nm_sa31, nm_sa7, nm_m127, nm_m2, nm_nz, nm_nzk, nm_eq32, nm_nzf, if_true, if_false, ↓reduceIte, if_pos, if_neg]
                              · have f41 := c41
                                by_cases c91 : c = 91
                                · subst c91
                                  by_cases d61 : d = 61
                                  · subst d61
                                    simp (disch := (first | assumption | decide | omega)) only [df_X15_scan_453, df_X15_scan_436, df_X15_scan_423, df_X15_scan_244, df_X15_scan_243, df_X15_scan_226, df_X15_scan_209, df_X15_scan_192, df_X15_scan_175, df_X15_scan_158, df_X15_scan_141, df_X15_scan_124, h1, sgC, wid, tS, pr, al1, eq_self, Nat.reduceEqDiff, Nat.reduceLeDiff, nl_0, nl_1, nl_2, nl_10, nl_11, nl_12, nl_13, nl_14, nl_15, nl_16, nl_17, nl_18, nl_19, nl_20, nl_21, nl_22, nl_23, nl_24, nl_25, nl_26, nl_27, nl_28, nl_29, nl_30, nl_31, nl_32, nl_33, nl_34, nl_37, nl_38, nl_40, nl_41, nl_42, nl_43, nl_45, nl_47, nl_60, nl_61, nl_62, nl_91, nl_93, nl_94, nl_124, nl_126, no_1, no_1024, pk_mul, nI_add, nm_ck, nI_clamp, nI_ltI, nI_leI, nI_eq, nb_b2, nb_b1, ↓nb_let, nm_z0, nm_z1, nb_II, nb_IR, nb_RI, nb_RR, nm_IL, nm_IQ, nm_RL, nm_RQ, nm_LI, nm_LR, nm_LL, nm_LQ, nm_QI, nm_QR, nm_QL, nm_QQ, nm_rr, nm_ii, nm_eqm, not_false_eq_true, pk_sub, nm_div, nm_shl, nm_shr, nm_ush, nm_or8, nm_or64, nm_or256, nm_m1, nm_m3, nm_m7, nm_m15, nm_m31, nm_m63, nm_m255, nm_m511, nm_m1023, nm_m2047, nm_m65535, Nat.reduceMod, Nat.reducePow, Nat.reduceAdd, Nat.reduceSub, Nat.reduceMul, nm_bo, nm_bi, nm_rc, nm_ic, nm_ri, nm_rl, nm_rq, nm_ql, nm_qi, nm_li, nm_us, nm_uu, nm_cp, nm_sa31, nm_sa7, nm_m127, nm_m2, nm_nz, nm_nzk, nm_eq32, nm_nzf, if_true, if_false, ↓reduceIte, if_pos, if_neg]
                                  · have e61 := d61
                                    by_cases dc : d = 91
                                    · subst dc
                                      simp (disch := (first | assumption | decide | omega)) only [df_X15_scan_453, df_X15_scan_436, df_X15_scan_423, df_X15_scan_244, df_X15_scan_243, df_X15_scan_226, df_X15_scan_209, df_X15_scan_192, df_X15_scan_175, df_X15_scan_158, df_X15_scan_141, df_X15_scan_124, h1, sgC, wid, tS, pr, al1, d61, eq_self, Nat.reduceEqDiff, Nat.reduceLeDiff, nl_0, nl_1, nl_2, nl_10, nl_11, nl_12, nl_13, nl_14, nl_15, nl_16, nl_17, nl_18, nl_19, nl_20, nl_21, nl_22, nl_23, nl_24, nl_25, nl_26, nl_27, nl_28, nl_29, nl_30, nl_31, nl_32, nl_33, nl_34, nl_37, nl_38, nl_40, nl_41, nl_42, nl_43, nl_45, nl_47, nl_60, nl_61, nl_62, nl_91, nl_93, nl_94, nl_124, nl_126, no_1, no_1024, pk_mul, nI_add, nm_ck, nI_clamp, nI_ltI, nI_leI, nI_eq, nb_b2, nb_b1, ↓nb_let, nm_z0, nm_z1, nb_II, nb_IR, nb_RI, nb_RR, nm_IL, nm_IQ, nm_RL, nm_RQ, nm_LI, nm_LR, nm_LL, nm_LQ, nm_QI, nm_QR, nm_QL, nm_QQ, nm_rr, nm_ii, nm_eqm, not_false_eq_true, pk_sub, nm_div, nm_shl, nm_shr, nm_ush, nm_or8, nm_or64, nm_or256, nm_m1, nm_m3, nm_m7, nm_m15, nm_m31, nm_m63, nm_m255, nm_m511, nm_m1023, nm_m2047, nm_m65535, Nat.reduceMod, Nat.reducePow, Nat.reduceAdd, Nat.reduceSub, Nat.reduceMul, nm_bo, nm_bi, nm_rc, nm_ic, nm_ri, nm_rl, nm_rq, nm_ql, nm_qi, nm_li, nm_us, nm_uu, nm_cp, nm_sa31, nm_sa7, nm_m127, nm_m2, nm_nz, nm_nzk, nm_eq32, nm_nzf, if_true, if_false, ↓reduceIte, if_pos, if_neg]
                                    · have ec := dc
                                      have fc : ¬ 91 = d := fun z => dc z.symm
                                      simp (disch := (first | assumption | decide | omega)) only [df_X15_scan_453, df_X15_scan_436, df_X15_scan_423, df_X15_scan_244, df_X15_scan_243, df_X15_scan_226, df_X15_scan_209, df_X15_scan_192, df_X15_scan_175, df_X15_scan_158, df_X15_scan_141, df_X15_scan_124, h1, sgC, wid, tS, pr, al1, d61, dc, fc, eq_self, Nat.reduceEqDiff, Nat.reduceLeDiff, nl_0, nl_1, nl_2, nl_10, nl_11, nl_12, nl_13, nl_14, nl_15, nl_16, nl_17, nl_18, nl_19, nl_20, nl_21, nl_22, nl_23, nl_24, nl_25, nl_26, nl_27, nl_28, nl_29, nl_30, nl_31, nl_32, nl_33, nl_34, nl_37, nl_38, nl_40, nl_41, nl_42, nl_43, nl_45, nl_47, nl_60, nl_61, nl_62, nl_91, nl_93, nl_94, nl_124, nl_126, no_1, no_1024, pk_mul, nI_add, nm_ck, nI_clamp, nI_ltI, nI_leI, nI_eq, nb_b2, nb_b1, ↓nb_let, nm_z0, nm_z1, nb_II, nb_IR, nb_RI, nb_RR, nm_IL, nm_IQ, nm_RL, nm_RQ, nm_LI, nm_LR, nm_LL, nm_LQ, nm_QI, nm_QR, nm_QL, nm_QQ, nm_rr, nm_ii, nm_eqm, not_false_eq_true, pk_sub, nm_div, nm_shl, nm_shr, nm_ush, nm_or8, nm_or64, nm_or256, nm_m1, nm_m3, nm_m7, nm_m15, nm_m31, nm_m63, nm_m255, nm_m511, nm_m1023, nm_m2047, nm_m65535, Nat.reduceMod, Nat.reducePow, Nat.reduceAdd, Nat.reduceSub, Nat.reduceMul, nm_bo, nm_bi, nm_rc, nm_ic, nm_ri, nm_rl, nm_rq, nm_ql, nm_qi, nm_li, nm_us, nm_uu, nm_cp, nm_sa31, nm_sa7, nm_m127, nm_m2, nm_nz, nm_nzk, nm_eq32, nm_nzf, if_true, if_false, ↓reduceIte, if_pos, if_neg]
                                · have f91 := c91
                                  by_cases c93 : c = 93
                                  · subst c93
                                    by_cases d61 : d = 61
                                    · subst d61
                                      simp (disch := (first | assumption | decide | omega)) only [df_X15_scan_453, df_X15_scan_436, df_X15_scan_423, df_X15_scan_244, df_X15_scan_243, df_X15_scan_226, df_X15_scan_209, df_X15_scan_192, df_X15_scan_175, df_X15_scan_158, df_X15_scan_141, df_X15_scan_124, h1, sgC, wid, tS, pr, al1, eq_self, Nat.reduceEqDiff, Nat.reduceLeDiff, nl_0, nl_1, nl_2, nl_10, nl_11, nl_12, nl_13, nl_14, nl_15, nl_16, nl_17, nl_18, nl_19, nl_20, nl_21, nl_22, nl_23, nl_24, nl_25, nl_26, nl_27, nl_28, nl_29, nl_30, nl_31, nl_32, nl_33, nl_34, nl_37, nl_38, nl_40, nl_41, nl_42, nl_43, nl_45, nl_47, nl_60, nl_61, nl_62, nl_91, nl_93, nl_94, nl_124, nl_126, no_1, no_1024, pk_mul, nI_add, nm_ck, nI_clamp, nI_ltI, nI_leI, nI_eq, nb_b2, nb_b1, ↓nb_let, nm_z0, nm_z1, nb_II, nb_IR, nb_RI, nb_RR, nm_IL, nm_IQ, nm_RL, nm_RQ, nm_LI, nm_LR, nm_LL, nm_LQ, nm_QI, nm_QR, nm_QL, nm_QQ, nm_rr, nm_ii, nm_eqm, not_false_eq_true, pk_sub, nm_div, nm_shl, nm_shr, nm_ush, nm_or8, nm_or64, nm_or256, nm_m1, nm_m3, nm_m7, nm_m15, nm_m31, nm_m63, nm_m255, nm_m511, nm_m1023, nm_m2047, nm_m65535, Nat.reduceMod, Nat.reducePow, Nat.reduceAdd, Nat.reduceSub, Nat.reduceMul, nm_bo, nm_bi, nm_rc, nm_ic, nm_ri, nm_rl, nm_rq, nm_ql, nm_qi, nm_li, nm_us, nm_uu, nm_cp, nm_sa31, nm_sa7, nm_m127, nm_m2, nm_nz, nm_nzk, nm_eq32, nm_nzf, if_true, if_false, ↓reduceIte, if_pos, if_neg]
                                    · have e61 := d61
                                      by_cases dc : d = 93
                                      · subst dc
                                        simp (disch := (first | assumption | decide | omega)) only [df_X15_scan_453, df_X15_scan_436, df_X15_scan_423, df_X15_scan_244, df_X15_scan_243, df_X15_scan_226, df_X15_scan_209, df_X15_scan_192, df_X15_scan_175, df_X15_scan_158, df_X15_scan_141, df_X15_scan_124, h1, sgC, wid, tS, pr, al1, d61, eq_self, Nat.reduceEqDiff, Nat.reduceLeDiff, nl_0, nl_1, nl_2, nl_10, nl_11, nl_12, nl_13, nl_14, nl_15, nl_16, nl_17, nl_18, nl_19, nl_20, nl_21, nl_22, nl_23, nl_24, nl_25, nl_26, nl_27, nl_28, nl_29, nl_30, nl_31, nl_32, nl_33, nl_34, nl_37, nl_38, nl_40, nl_41, nl_42, nl_43, nl_45, nl_47, nl_60, nl_61, nl_62, nl_91, nl_93, nl_94, nl_124, nl_126, no_1, no_1024, pk_mul, nI_add, nm_ck, nI_clamp, nI_ltI, nI_leI, nI_eq, nb_b2, nb_b1, ↓nb_let, nm_z0, nm_z1, nb_II, nb_IR, nb_RI, nb_RR, nm_IL, nm_IQ, nm_RL, nm_RQ, nm_LI, nm_LR, nm_LL, nm_LQ, nm_QI, nm_QR, nm_QL, nm_QQ, nm_rr, nm_ii, nm_eqm, not_false_eq_true, pk_sub, nm_div, nm_shl, nm_shr, nm_ush, nm_or8, nm_or64, nm_or256, nm_m1, nm_m3, nm_m7, nm_m15, nm_m31, nm_m63, nm_m255, nm_m511, nm_m1023, nm_m2047, nm_m65535, Nat.reduceMod, Nat.reducePow, Nat.reduceAdd, Nat.reduceSub, Nat.reduceMul, nm_bo, nm_bi, nm_rc, nm_ic, nm_ri, nm_rl, nm_rq, nm_ql, nm_qi, nm_li, nm_us, nm_uu, nm_cp, nm_sa31, nm_sa7, nm_m127, nm_m2, nm_nz, nm_nzk, nm_eq32, nm_nzf, if_true, if_false, ↓reduceIte, if_pos, if_neg]
                                      · have ec := dc
                                        have fc : ¬ 93 = d := fun z => dc z.symm
                                        simp (disch := (first | assumption | decide | omega)) only [df_X15_scan_453, df_X15_scan_436, df_X15_scan_423, df_X15_scan_244, df_X15_scan_243, df_X15_scan_226, df_X15_scan_209, df_X15_scan_192, df_X15_scan_175, df_X15_scan_158, df_X15_scan_141, df_X15_scan_124, h1, sgC, wid, tS, pr, al1, d61, dc, fc, eq_self, Nat.reduceEqDiff, Nat.reduceLeDiff, nl_0, nl_1, nl_2, nl_10, nl_11, nl_12, nl_13, nl_14, nl_15, nl_16, nl_17, nl_18, nl_19, nl_20, nl_21, nl_22, nl_23, nl_24, nl_25, nl_26, nl_27, nl_28, nl_29, nl_30, nl_31, nl_32, nl_33, nl_34, nl_37, nl_38, nl_40, nl_41, nl_42, nl_43, nl_45, nl_47, nl_60, nl_61, nl_62, nl_91, nl_93, nl_94, nl_124, nl_126, no_1, no_1024, pk_mul, nI_add, nm_ck, nI_clamp, nI_ltI, nI_leI, nI_eq, nb_b2, nb_b1, ↓nb_let, nm_z0, nm_z1, nb_II, nb_IR, nb_RI, nb_RR, nm_IL, nm_IQ, nm_RL, nm_RQ, nm_LI, nm_LR, nm_LL, nm_LQ, nm_QI, nm_QR, nm_QL, nm_QQ, nm_rr, nm_ii, nm_eqm, not_false_eq_true, pk_sub, nm_div, nm_shl, nm_shr, nm_ush, nm_or8, nm_or64, nm_or256, nm_m1, nm_m3, nm_m7, nm_m15, nm_m31, nm_m63, nm_m255, nm_m511, nm_m1023, nm_m2047, nm_m65535, Nat.reduceMod, Nat.reducePow, Nat.reduceAdd, Nat.reduceSub, Nat.reduceMul, nm_bo, nm_bi, nm_rc, nm_ic, nm_ri, nm_rl, nm_rq, nm_ql, nm_qi, nm_li, nm_us, nm_uu, nm_cp, nm_sa31, nm_sa7, nm_m127, nm_m2, nm_nz, nm_nzk, nm_eq32, nm_nzf, if_true, if_false, ↓reduceIte, if_pos, if_neg]
                                  · have f93 := c93
                                    by_cases d61 : d = 61
                                    · subst d61
                                      simp (disch := (first | assumption | decide | omega)) only [df_X15_scan_453, df_X15_scan_436, df_X15_scan_423, df_X15_scan_244, df_X15_scan_243, df_X15_scan_226, df_X15_scan_209, df_X15_scan_192, df_X15_scan_175, df_X15_scan_158, df_X15_scan_141, df_X15_scan_124, h1, sgC, wid, tS, pr, al1, c124, c38, c61, c33, c60, c62, c94, c43, c45, c42, c47, c37, c126, c40, c41, c91, c93, eq_self, Nat.reduceEqDiff, Nat.reduceLeDiff, nl_0, nl_1, nl_2, nl_10, nl_11, nl_12, nl_13, nl_14, nl_15, nl_16, nl_17, nl_18, nl_19, nl_20, nl_21, nl_22, nl_23, nl_24, nl_25, nl_26, nl_27, nl_28, nl_29, nl_30, nl_31, nl_32, nl_33, nl_34, nl_37, nl_38, nl_40, nl_41, nl_42, nl_43, nl_45, nl_47, nl_60, nl_61, nl_62, nl_91, nl_93, nl_94, nl_124, nl_126, no_1, no_1024, pk_mul, nI_add, nm_ck, nI_clamp, nI_ltI, nI_leI, nI_eq, nb_b2, nb_b1, ↓nb_let, nm_z0, nm_z1, nb_II, nb_IR, nb_RI, nb_RR, nm_IL, nm_IQ, nm_RL, nm_RQ, nm_LI, nm_LR, nm_LL, nm_LQ, nm_QI, nm_QR, nm_QL, nm_QQ, nm_rr, nm_ii, nm_eqm, not_false_eq_true, pk_sub, nm_div, nm_shl, nm_shr, nm_ush, nm_or8, nm_or64, nm_or256, nm_m1, nm_m3, nm_m7, nm_m15, nm_m31, nm_m63, nm_m255, nm_m511, nm_m1023, nm_m2047, nm_m65535, Nat.reduceMod, Nat.reducePow, Nat.reduceAdd, Nat.reduceSub, Nat.reduceMul, nm_bo, nm_bi, nm_rc, nm_ic, nm_ri, nm_rl, nm_rq, nm_ql, nm_qi, nm_li, nm_us, nm_uu, nm_cp, nm_sa31, nm_sa7, nm_m127, nm_m2, nm_nz, nm_nzk, nm_eq32, nm_nzf, if_true, if_false, ↓reduceIte, if_pos, if_neg]
                                    · by_cases dc : c = d
                                      · subst dc
                                        simp (disch := (first | assumption | decide | omega)) only [df_X15_scan_453, df_X15_scan_436, df_X15_scan_423, df_X15_scan_244, df_X15_scan_243, df_X15_scan_226, df_X15_scan_209, df_X15_scan_192, df_X15_scan_175, df_X15_scan_158, df_X15_scan_141, df_X15_scan_124, h1, sgC, wid, tS, pr, al1, c124, c38, c61, c33, c60, c62, c94, c43, c45, c42, c47, c37, c126, c40, c41, c91, c93, eq_self, Nat.reduceEqDiff, Nat.reduceLeDiff, nl_0, nl_1, nl_2, nl_10, nl_11, nl_12, nl_13, nl_14, nl_15, nl_16, nl_17, nl_18, nl_19, nl_20, nl_21, nl_22, nl_23, nl_24, nl_25, nl_26, nl_27, nl_28, nl_29, nl_30, nl_31, nl_32, nl_33, nl_34, nl_37, nl_38, nl_40, nl_41, nl_42, nl_43, nl_45, nl_47, nl_60, nl_61, nl_62, nl_91, nl_93, nl_94, nl_124, nl_126, no_1, no_1024, pk_mul, nI_add, nm_ck, nI_clamp, nI_ltI, nI_leI, nI_eq, nb_b2, nb_b1, ↓nb_let, nm_z0, nm_z1, nb_II, nb_IR, nb_RI, nb_RR, nm_IL, nm_IQ, nm_RL, nm_RQ, nm_LI, nm_LR, nm_LL, nm_LQ, nm_QI, nm_QR, nm_QL, nm_QQ, nm_rr, nm_ii, nm_eqm, not_false_eq_true, pk_sub, nm_div, nm_shl, nm_shr, nm_ush, nm_or8, nm_or64, nm_or256, nm_m1, nm_m3, nm_m7, nm_m15, nm_m31, nm_m63, nm_m255, nm_m511, nm_m1023, nm_m2047, nm_m65535, Nat.reduceMod, Nat.reducePow, Nat.reduceAdd, Nat.reduceSub, Nat.reduceMul, nm_bo, nm_bi, nm_rc, nm_ic, nm_ri, nm_rl, nm_rq, nm_ql, nm_qi, nm_li, nm_us, nm_uu, nm_cp, nm_sa31, nm_sa7, nm_m127, nm_m2, nm_nz, nm_nzk, nm_eq32, nm_nzf, if_true, if_false, ↓reduceIte, if_pos, if_neg]
                                      · have ec := dc
                                        simp (disch := (first | assumption | decide | omega)) only [df_X15_scan_453, df_X15_scan_436, df_X15_scan_423, df_X15_scan_244, df_X15_scan_243, df_X15_scan_226, df_X15_scan_209, df_X15_scan_192, df_X15_scan_175, df_X15_scan_158, df_X15_scan_141, df_X15_scan_124, h1, sgC, wid, tS, pr, al1, c124, c38, c61, c33, c60, c62, c94, c43, c45, c42, c47, c37, c126, c40, c41, c91, c93, d61, dc, eq_self, Nat.reduceEqDiff, Nat.reduceLeDiff, nl_0, nl_1, nl_2, nl_10, nl_11, nl_12, nl_13, nl_14, nl_15, nl_16, nl_17, nl_18, nl_19, nl_20, nl_21, nl_22, nl_23, nl_24, nl_25, nl_26, nl_27, nl_28, nl_29, nl_30, nl_31, nl_32, nl_33, nl_34, nl_37, nl_38, nl_40, nl_41, nl_42, nl_43, nl_45, nl_47, nl_60, nl_61, nl_62, nl_91, nl_93, nl_94, nl_124, nl_126, no_1, no_1024, pk_mul, nI_add, nm_ck, nI_clamp, nI_ltI, nI_leI, nI_eq, nb_b2, nb_b1, ↓nb_let, nm_z0, nm_z1, nb_II, nb_IR, nb_RI, nb_RR, nm_IL, nm_IQ, nm_RL, nm_RQ, nm_LI, nm_LR, nm_LL, nm_LQ, nm_QI, nm_QR, nm_QL, nm_QQ, nm_rr, nm_ii, nm_eqm, not_false_eq_true, pk_sub, nm_div, nm_shl, nm_shr, nm_ush, nm_or8, nm_or64, nm_or256, nm_m1, nm_m3, nm_m7, nm_m15, nm_m31, nm_m63, nm_m255, nm_m511, nm_m1023, nm_m2047, nm_m65535, Nat.reduceMod, Nat.reducePow, Nat.reduceAdd, Nat.reduceSub, Nat.reduceMul, nm_bo, nm_bi, nm_rc, nm_ic, nm_ri, nm_rl, nm_rq, nm_ql, nm_qi, nm_li, nm_us, nm_uu, nm_cp, nm_sa31, nm_sa7, nm_m127, nm_m2, nm_nz, nm_nzk, nm_eq32, nm_nzf, if_true, if_false, ↓reduceIte, if_pos, if_neg]

/-- both states while a condition is read: one term each -/
def mC (B : St) (cs tp os ap kd fr ft pt : Nat) (nm : Int64) (C S SA F T : Nat → Int32) (A : Nat → Int64) : St := (fun j => if j = 0 then nI cs else if j = 1 then nI tp else if j = 2 then nI os else if j = 5 then nI ap else if j = 6 then nI kd else if j = 7 then nI fr else if j = 8 then nI ft else if j = 9 then nI pt else B.1 j, fun j => if j = 0 then nm else B.2.1 j, fun j => if j = 0 then C else if j = 1 then S else if j = 2 then SA else if j = 3 then F else if j = 4 then T else B.2.2.1 j, fun j => if j = 0 then A else B.2.2.2.1 j, B.2.2.2.2)
theorem mC_i0 {B : St} {cs tp os ap kd fr ft pt : Nat} {nm : Int64} {C S SA F T : Nat → Int32} {A : Nat → Int64} : sI (mC B cs tp os ap kd fr ft pt nm C S SA F T A) 0 = nI cs := rfl
theorem mC_i1 {B : St} {cs tp os ap kd fr ft pt : Nat} {nm : Int64} {C S SA F T : Nat → Int32} {A : Nat → Int64} : sI (mC B cs tp os ap kd fr ft pt nm C S SA F T A) 1 = nI tp := rfl
theorem mC_i2 {B : St} {cs tp os ap kd fr ft pt : Nat} {nm : Int64} {C S SA F T : Nat → Int32} {A : Nat → Int64} : sI (mC B cs tp os ap kd fr ft pt nm C S SA F T A) 2 = nI os := rfl
theorem mC_i5 {B : St} {cs tp os ap kd fr ft pt : Nat} {nm : Int64} {C S SA F T : Nat → Int32} {A : Nat → Int64} : sI (mC B cs tp os ap kd fr ft pt nm C S SA F T A) 5 = nI ap := rfl
theorem mC_i6 {B : St} {cs tp os ap kd fr ft pt : Nat} {nm : Int64} {C S SA F T : Nat → Int32} {A : Nat → Int64} : sI (mC B cs tp os ap kd fr ft pt nm C S SA F T A) 6 = nI kd := rfl
theorem mC_i7 {B : St} {cs tp os ap kd fr ft pt : Nat} {nm : Int64} {C S SA F T : Nat → Int32} {A : Nat → Int64} : sI (mC B cs tp os ap kd fr ft pt nm C S SA F T A) 7 = nI fr := rfl
theorem mC_i8 {B : St} {cs tp os ap kd fr ft pt : Nat} {nm : Int64} {C S SA F T : Nat → Int32} {A : Nat → Int64} : sI (mC B cs tp os ap kd fr ft pt nm C S SA F T A) 8 = nI ft := rfl
theorem mC_i9 {B : St} {cs tp os ap kd fr ft pt : Nat} {nm : Int64} {C S SA F T : Nat → Int32} {A : Nat → Int64} : sI (mC B cs tp os ap kd fr ft pt nm C S SA F T A) 9 = nI pt := rfl
theorem mC_l {B : St} {cs tp os ap kd fr ft pt : Nat} {nm : Int64} {C S SA F T : Nat → Int32} {A : Nat → Int64} : sL (mC B cs tp os ap kd fr ft pt nm C S SA F T A) 0 = nm := rfl
theorem mC_r0 {B : St} {cs tp os ap kd fr ft pt : Nat} {nm : Int64} {C S SA F T : Nat → Int32} {A : Nat → Int64} : sR (mC B cs tp os ap kd fr ft pt nm C S SA F T A) 0 = C := rfl
theorem mC_r1 {B : St} {cs tp os ap kd fr ft pt : Nat} {nm : Int64} {C S SA F T : Nat → Int32} {A : Nat → Int64} : sR (mC B cs tp os ap kd fr ft pt nm C S SA F T A) 1 = S := rfl
theorem mC_r2 {B : St} {cs tp os ap kd fr ft pt : Nat} {nm : Int64} {C S SA F T : Nat → Int32} {A : Nat → Int64} : sR (mC B cs tp os ap kd fr ft pt nm C S SA F T A) 2 = SA := rfl
theorem mC_r3 {B : St} {cs tp os ap kd fr ft pt : Nat} {nm : Int64} {C S SA F T : Nat → Int32} {A : Nat → Int64} : sR (mC B cs tp os ap kd fr ft pt nm C S SA F T A) 3 = F := rfl
theorem mC_r4 {B : St} {cs tp os ap kd fr ft pt : Nat} {nm : Int64} {C S SA F T : Nat → Int32} {A : Nat → Int64} : sR (mC B cs tp os ap kd fr ft pt nm C S SA F T A) 4 = T := rfl
theorem mC_q {B : St} {cs tp os ap kd fr ft pt : Nat} {nm : Int64} {C S SA F T : Nat → Int32} {A : Nat → Int64} : sQ (mC B cs tp os ap kd fr ft pt nm C S SA F T A) 0 = A := rfl
theorem mC_o {B : St} {cs tp os ap kd fr ft pt : Nat} {nm : Int64} {C S SA F T : Nat → Int32} {A : Nat → Int64} : sO (mC B cs tp os ap kd fr ft pt nm C S SA F T A) 0 = sO B 0 := rfl
theorem mC_i4 {B : St} {cs tp os ap kd fr ft pt : Nat} {nm : Int64} {C S SA F T : Nat → Int32} {A : Nat → Int64} : sI (mC B cs tp os ap kd fr ft pt nm C S SA F T A) 4 = sI B 4 := rfl
theorem mC_wi0 {B : St} {cs tp os ap kd fr ft pt : Nat} {nm : Int64} {C S SA F T : Nat → Int32} {A : Nat → Int64} {v : Nat} : pI (mC B cs tp os ap kd fr ft pt nm C S SA F T A) 0 (nI v) = mC B v tp os ap kd fr ft pt nm C S SA F T A := Prod.ext (funext fun j => by
  show (if j = 0 then nI v else _) = _
  by_cases h : j = 0
  · subst h; rfl
  · unfold mC
    simp only [if_neg h]) rfl
theorem mC_wi1 {B : St} {cs tp os ap kd fr ft pt : Nat} {nm : Int64} {C S SA F T : Nat → Int32} {A : Nat → Int64} {v : Nat} : pI (mC B cs tp os ap kd fr ft pt nm C S SA F T A) 1 (nI v) = mC B cs v os ap kd fr ft pt nm C S SA F T A := Prod.ext (funext fun j => by
  show (if j = 1 then nI v else _) = _
  by_cases h : j = 1
  · subst h; rfl
  · unfold mC
    simp only [if_neg h]) rfl
theorem mC_wi2 {B : St} {cs tp os ap kd fr ft pt : Nat} {nm : Int64} {C S SA F T : Nat → Int32} {A : Nat → Int64} {v : Nat} : pI (mC B cs tp os ap kd fr ft pt nm C S SA F T A) 2 (nI v) = mC B cs tp v ap kd fr ft pt nm C S SA F T A := Prod.ext (funext fun j => by
  show (if j = 2 then nI v else _) = _
  by_cases h : j = 2
  · subst h; rfl
  · unfold mC
    simp only [if_neg h]) rfl
theorem mC_wi5 {B : St} {cs tp os ap kd fr ft pt : Nat} {nm : Int64} {C S SA F T : Nat → Int32} {A : Nat → Int64} {v : Nat} : pI (mC B cs tp os ap kd fr ft pt nm C S SA F T A) 5 (nI v) = mC B cs tp os v kd fr ft pt nm C S SA F T A := Prod.ext (funext fun j => by
  show (if j = 5 then nI v else _) = _
  by_cases h : j = 5
  · subst h; rfl
  · unfold mC
    simp only [if_neg h]) rfl
theorem mC_wi6 {B : St} {cs tp os ap kd fr ft pt : Nat} {nm : Int64} {C S SA F T : Nat → Int32} {A : Nat → Int64} {v : Nat} : pI (mC B cs tp os ap kd fr ft pt nm C S SA F T A) 6 (nI v) = mC B cs tp os ap v fr ft pt nm C S SA F T A := Prod.ext (funext fun j => by
  show (if j = 6 then nI v else _) = _
  by_cases h : j = 6
  · subst h; rfl
  · unfold mC
    simp only [if_neg h]) rfl
theorem mC_wi7 {B : St} {cs tp os ap kd fr ft pt : Nat} {nm : Int64} {C S SA F T : Nat → Int32} {A : Nat → Int64} {v : Nat} : pI (mC B cs tp os ap kd fr ft pt nm C S SA F T A) 7 (nI v) = mC B cs tp os ap kd v ft pt nm C S SA F T A := Prod.ext (funext fun j => by
  show (if j = 7 then nI v else _) = _
  by_cases h : j = 7
  · subst h; rfl
  · unfold mC
    simp only [if_neg h]) rfl
theorem mC_wi8 {B : St} {cs tp os ap kd fr ft pt : Nat} {nm : Int64} {C S SA F T : Nat → Int32} {A : Nat → Int64} {v : Nat} : pI (mC B cs tp os ap kd fr ft pt nm C S SA F T A) 8 (nI v) = mC B cs tp os ap kd fr v pt nm C S SA F T A := Prod.ext (funext fun j => by
  show (if j = 8 then nI v else _) = _
  by_cases h : j = 8
  · subst h; rfl
  · unfold mC
    simp only [if_neg h]) rfl
theorem mC_wi9 {B : St} {cs tp os ap kd fr ft pt : Nat} {nm : Int64} {C S SA F T : Nat → Int32} {A : Nat → Int64} {v : Nat} : pI (mC B cs tp os ap kd fr ft pt nm C S SA F T A) 9 (nI v) = mC B cs tp os ap kd fr ft v nm C S SA F T A := Prod.ext (funext fun j => by
  show (if j = 9 then nI v else _) = _
  by_cases h : j = 9
  · subst h; rfl
  · unfold mC
    simp only [if_neg h]) rfl
theorem mC_wl {B : St} {cs tp os ap kd fr ft pt : Nat} {nm : Int64} {C S SA F T : Nat → Int32} {A : Nat → Int64} {v : Int64} : pL (mC B cs tp os ap kd fr ft pt nm C S SA F T A) 0 v = mC B cs tp os ap kd fr ft pt v C S SA F T A := Prod.ext rfl (Prod.ext (funext fun j => by
  show (if j = 0 then v else _) = _
  by_cases h : j = 0
  · subst h; rfl
  · unfold mC
    simp only [if_neg h]) rfl)
theorem mC_wr0 {B : St} {cs tp os ap kd fr ft pt : Nat} {nm : Int64} {C S SA F T : Nat → Int32} {A : Nat → Int64} {v : Nat → Int32} : pR (mC B cs tp os ap kd fr ft pt nm C S SA F T A) 0 v = mC B cs tp os ap kd fr ft pt nm v S SA F T A := Prod.ext rfl (Prod.ext rfl (Prod.ext (funext fun j => by
  show (if j = 0 then v else _) = _
  by_cases h : j = 0
  · subst h; rfl
  · unfold mC
    simp only [if_neg h]) rfl))
theorem mC_wr1 {B : St} {cs tp os ap kd fr ft pt : Nat} {nm : Int64} {C S SA F T : Nat → Int32} {A : Nat → Int64} {v : Nat → Int32} : pR (mC B cs tp os ap kd fr ft pt nm C S SA F T A) 1 v = mC B cs tp os ap kd fr ft pt nm C v SA F T A := Prod.ext rfl (Prod.ext rfl (Prod.ext (funext fun j => by
  show (if j = 1 then v else _) = _
  by_cases h : j = 1
  · subst h; rfl
  · unfold mC
    simp only [if_neg h]) rfl))
theorem mC_wr2 {B : St} {cs tp os ap kd fr ft pt : Nat} {nm : Int64} {C S SA F T : Nat → Int32} {A : Nat → Int64} {v : Nat → Int32} : pR (mC B cs tp os ap kd fr ft pt nm C S SA F T A) 2 v = mC B cs tp os ap kd fr ft pt nm C S v F T A := Prod.ext rfl (Prod.ext rfl (Prod.ext (funext fun j => by
  show (if j = 2 then v else _) = _
  by_cases h : j = 2
  · subst h; rfl
  · unfold mC
    simp only [if_neg h]) rfl))
theorem mC_wr3 {B : St} {cs tp os ap kd fr ft pt : Nat} {nm : Int64} {C S SA F T : Nat → Int32} {A : Nat → Int64} {v : Nat → Int32} : pR (mC B cs tp os ap kd fr ft pt nm C S SA F T A) 3 v = mC B cs tp os ap kd fr ft pt nm C S SA v T A := Prod.ext rfl (Prod.ext rfl (Prod.ext (funext fun j => by
  show (if j = 3 then v else _) = _
  by_cases h : j = 3
  · subst h; rfl
  · unfold mC
    simp only [if_neg h]) rfl))
theorem mC_wr4 {B : St} {cs tp os ap kd fr ft pt : Nat} {nm : Int64} {C S SA F T : Nat → Int32} {A : Nat → Int64} {v : Nat → Int32} : pR (mC B cs tp os ap kd fr ft pt nm C S SA F T A) 4 v = mC B cs tp os ap kd fr ft pt nm C S SA F v A := Prod.ext rfl (Prod.ext rfl (Prod.ext (funext fun j => by
  show (if j = 4 then v else _) = _
  by_cases h : j = 4
  · subst h; rfl
  · unfold mC
    simp only [if_neg h]) rfl))
theorem mC_wq {B : St} {cs tp os ap kd fr ft pt : Nat} {nm : Int64} {C S SA F T : Nat → Int32} {A : Nat → Int64} {v : Nat → Int64} : pQ (mC B cs tp os ap kd fr ft pt nm C S SA F T A) 0 v = mC B cs tp os ap kd fr ft pt nm C S SA F T v := Prod.ext rfl (Prod.ext rfl (Prod.ext rfl (Prod.ext (funext fun j => by
  show (if j = 0 then v else _) = _
  by_cases h : j = 0
  · subst h; rfl
  · unfold mC
    simp only [if_neg h]) rfl)))
def mR (B : St) (ap tk st ts op ft : Nat) (tv : Int64) (K P OA : Nat → Int32) (N : Nat → Int64) : St := (fun j => if j = 1 then nI ap else if j = 2 then nI tk else if j = 3 then nI st else if j = 4 then nI ts else if j = 5 then nI op else if j = 6 then nI ft else B.1 j, fun j => if j = 0 then tv else B.2.1 j, fun j => if j = 5 then K else if j = 6 then P else if j = 7 then OA else B.2.2.1 j, fun j => if j = 2 then N else B.2.2.2.1 j, B.2.2.2.2)
theorem mR_i1 {B : St} {ap tk st ts op ft : Nat} {tv : Int64} {K P OA : Nat → Int32} {N : Nat → Int64} : sI (mR B ap tk st ts op ft tv K P OA N) 1 = nI ap := rfl
theorem mR_i2 {B : St} {ap tk st ts op ft : Nat} {tv : Int64} {K P OA : Nat → Int32} {N : Nat → Int64} : sI (mR B ap tk st ts op ft tv K P OA N) 2 = nI tk := rfl
theorem mR_i3 {B : St} {ap tk st ts op ft : Nat} {tv : Int64} {K P OA : Nat → Int32} {N : Nat → Int64} : sI (mR B ap tk st ts op ft tv K P OA N) 3 = nI st := rfl
theorem mR_i4 {B : St} {ap tk st ts op ft : Nat} {tv : Int64} {K P OA : Nat → Int32} {N : Nat → Int64} : sI (mR B ap tk st ts op ft tv K P OA N) 4 = nI ts := rfl
theorem mR_i5 {B : St} {ap tk st ts op ft : Nat} {tv : Int64} {K P OA : Nat → Int32} {N : Nat → Int64} : sI (mR B ap tk st ts op ft tv K P OA N) 5 = nI op := rfl
theorem mR_i6 {B : St} {ap tk st ts op ft : Nat} {tv : Int64} {K P OA : Nat → Int32} {N : Nat → Int64} : sI (mR B ap tk st ts op ft tv K P OA N) 6 = nI ft := rfl
theorem mR_l {B : St} {ap tk st ts op ft : Nat} {tv : Int64} {K P OA : Nat → Int32} {N : Nat → Int64} : sL (mR B ap tk st ts op ft tv K P OA N) 0 = tv := rfl
theorem mR_r5 {B : St} {ap tk st ts op ft : Nat} {tv : Int64} {K P OA : Nat → Int32} {N : Nat → Int64} : sR (mR B ap tk st ts op ft tv K P OA N) 5 = K := rfl
theorem mR_r6 {B : St} {ap tk st ts op ft : Nat} {tv : Int64} {K P OA : Nat → Int32} {N : Nat → Int64} : sR (mR B ap tk st ts op ft tv K P OA N) 6 = P := rfl
theorem mR_r7 {B : St} {ap tk st ts op ft : Nat} {tv : Int64} {K P OA : Nat → Int32} {N : Nat → Int64} : sR (mR B ap tk st ts op ft tv K P OA N) 7 = OA := rfl
theorem mR_q {B : St} {ap tk st ts op ft : Nat} {tv : Int64} {K P OA : Nat → Int32} {N : Nat → Int64} : sQ (mR B ap tk st ts op ft tv K P OA N) 2 = N := rfl
theorem mR_o {B : St} {ap tk st ts op ft : Nat} {tv : Int64} {K P OA : Nat → Int32} {N : Nat → Int64} : sO (mR B ap tk st ts op ft tv K P OA N) 0 = sO B 0 := rfl
theorem mR_i0 {B : St} {ap tk st ts op ft : Nat} {tv : Int64} {K P OA : Nat → Int32} {N : Nat → Int64} : sI (mR B ap tk st ts op ft tv K P OA N) 0 = sI B 0 := rfl
theorem mR_r0 {B : St} {ap tk st ts op ft : Nat} {tv : Int64} {K P OA : Nat → Int32} {N : Nat → Int64} : sR (mR B ap tk st ts op ft tv K P OA N) 0 = sR B 0 := rfl
theorem mR_wi1 {B : St} {ap tk st ts op ft : Nat} {tv : Int64} {K P OA : Nat → Int32} {N : Nat → Int64} {v : Nat} : pI (mR B ap tk st ts op ft tv K P OA N) 1 (nI v) = mR B v tk st ts op ft tv K P OA N := Prod.ext (funext fun j => by
  show (if j = 1 then nI v else _) = _
  by_cases h : j = 1
  · subst h; rfl
  · unfold mR
    simp only [if_neg h]) rfl
theorem mR_wi2 {B : St} {ap tk st ts op ft : Nat} {tv : Int64} {K P OA : Nat → Int32} {N : Nat → Int64} {v : Nat} : pI (mR B ap tk st ts op ft tv K P OA N) 2 (nI v) = mR B ap v st ts op ft tv K P OA N := Prod.ext (funext fun j => by
  show (if j = 2 then nI v else _) = _
  by_cases h : j = 2
  · subst h; rfl
  · unfold mR
    simp only [if_neg h]) rfl
theorem mR_wi3 {B : St} {ap tk st ts op ft : Nat} {tv : Int64} {K P OA : Nat → Int32} {N : Nat → Int64} {v : Nat} : pI (mR B ap tk st ts op ft tv K P OA N) 3 (nI v) = mR B ap tk v ts op ft tv K P OA N := Prod.ext (funext fun j => by
  show (if j = 3 then nI v else _) = _
  by_cases h : j = 3
  · subst h; rfl
  · unfold mR
    simp only [if_neg h]) rfl
theorem mR_wi4 {B : St} {ap tk st ts op ft : Nat} {tv : Int64} {K P OA : Nat → Int32} {N : Nat → Int64} {v : Nat} : pI (mR B ap tk st ts op ft tv K P OA N) 4 (nI v) = mR B ap tk st v op ft tv K P OA N := Prod.ext (funext fun j => by
  show (if j = 4 then nI v else _) = _
  by_cases h : j = 4
  · subst h; rfl
  · unfold mR
    simp only [if_neg h]) rfl
theorem mR_wi5 {B : St} {ap tk st ts op ft : Nat} {tv : Int64} {K P OA : Nat → Int32} {N : Nat → Int64} {v : Nat} : pI (mR B ap tk st ts op ft tv K P OA N) 5 (nI v) = mR B ap tk st ts v ft tv K P OA N := Prod.ext (funext fun j => by
  show (if j = 5 then nI v else _) = _
  by_cases h : j = 5
  · subst h; rfl
  · unfold mR
    simp only [if_neg h]) rfl
theorem mR_wi6 {B : St} {ap tk st ts op ft : Nat} {tv : Int64} {K P OA : Nat → Int32} {N : Nat → Int64} {v : Nat} : pI (mR B ap tk st ts op ft tv K P OA N) 6 (nI v) = mR B ap tk st ts op v tv K P OA N := Prod.ext (funext fun j => by
  show (if j = 6 then nI v else _) = _
  by_cases h : j = 6
  · subst h; rfl
  · unfold mR
    simp only [if_neg h]) rfl
theorem mR_wl {B : St} {ap tk st ts op ft : Nat} {tv : Int64} {K P OA : Nat → Int32} {N : Nat → Int64} {v : Int64} : pL (mR B ap tk st ts op ft tv K P OA N) 0 v = mR B ap tk st ts op ft v K P OA N := Prod.ext rfl (Prod.ext (funext fun j => by
  show (if j = 0 then v else _) = _
  by_cases h : j = 0
  · subst h; rfl
  · unfold mR
    simp only [if_neg h]) rfl)
theorem mR_wr5 {B : St} {ap tk st ts op ft : Nat} {tv : Int64} {K P OA : Nat → Int32} {N : Nat → Int64} {v : Nat → Int32} : pR (mR B ap tk st ts op ft tv K P OA N) 5 v = mR B ap tk st ts op ft tv v P OA N := Prod.ext rfl (Prod.ext rfl (Prod.ext (funext fun j => by
  show (if j = 5 then v else _) = _
  by_cases h : j = 5
  · subst h; rfl
  · unfold mR
    simp only [if_neg h]) rfl))
theorem mR_wr6 {B : St} {ap tk st ts op ft : Nat} {tv : Int64} {K P OA : Nat → Int32} {N : Nat → Int64} {v : Nat → Int32} : pR (mR B ap tk st ts op ft tv K P OA N) 6 v = mR B ap tk st ts op ft tv K v OA N := Prod.ext rfl (Prod.ext rfl (Prod.ext (funext fun j => by
  show (if j = 6 then v else _) = _
  by_cases h : j = 6
  · subst h; rfl
  · unfold mR
    simp only [if_neg h]) rfl))
theorem mR_wr7 {B : St} {ap tk st ts op ft : Nat} {tv : Int64} {K P OA : Nat → Int32} {N : Nat → Int64} {v : Nat → Int32} : pR (mR B ap tk st ts op ft tv K P OA N) 7 v = mR B ap tk st ts op ft tv K P v N := Prod.ext rfl (Prod.ext rfl (Prod.ext (funext fun j => by
  show (if j = 7 then v else _) = _
  by_cases h : j = 7
  · subst h; rfl
  · unfold mR
    simp only [if_neg h]) rfl))
theorem mR_wq {B : St} {ap tk st ts op ft : Nat} {tv : Int64} {K P OA : Nat → Int32} {N : Nat → Int64} {v : Nat → Int64} : pQ (mR B ap tk st ts op ft tv K P OA N) 2 v = mR B ap tk st ts op ft tv K P OA v := Prod.ext rfl (Prod.ext rfl (Prod.ext rfl (Prod.ext (funext fun j => by
  show (if j = 2 then v else _) = _
  by_cases h : j = 2
  · subst h; rfl
  · unfold mR
    simp only [if_neg h]) rfl)))
/-- what any state is -/
theorem mC_of (Cd : St) {cs tp os ap ft pt : Nat} (h0 : sI Cd 0 = nI cs) (h1 : sI Cd 1 = nI tp) (h2 : sI Cd 2 = nI os) (h5 : sI Cd 5 = nI ap) (h8 : sI Cd 8 = nI ft) (h9 : sI Cd 9 = nI pt) : ∃ kd fr : Nat, Cd = mC Cd cs tp os ap kd fr ft pt (sL Cd 0) (sR Cd 0) (sR Cd 1) (sR Cd 2) (sR Cd 3) (sR Cd 4) (sQ Cd 0) := by
  obtain ⟨kd, _, e6⟩ := nI_ex (sI Cd 6)
  obtain ⟨fr, _, e7⟩ := nI_ex (sI Cd 7)
  refine ⟨kd, fr, Prod.ext (funext fun j => ?_) (Prod.ext (funext fun j => ?_) (Prod.ext (funext fun j => ?_) (Prod.ext (funext fun j => ?_) rfl)))⟩
  · show sI Cd j = if j = 0 then nI cs else if j = 1 then nI tp else if j = 2 then nI os else if j = 5 then nI ap else if j = 6 then nI kd else if j = 7 then nI fr else if j = 8 then nI ft else if j = 9 then nI pt else sI Cd j
    repeat (split; · rename_i h; rw [h]; assumption)
    rfl
  · show sL Cd j = if j = 0 then sL Cd 0 else sL Cd j
    split
    · rename_i h; rw [h]
    · rfl
  · show sR Cd j = if j = 0 then sR Cd 0 else if j = 1 then sR Cd 1 else if j = 2 then sR Cd 2 else if j = 3 then sR Cd 3 else if j = 4 then sR Cd 4 else sR Cd j
    repeat (split; · rename_i h; rw [h])
    rfl
  · show sQ Cd j = if j = 0 then sQ Cd 0 else sQ Cd j
    split
    · rename_i h; rw [h]
    · rfl
theorem mR_of (Y : St) {ap ts op ft : Nat} (h1 : sI Y 1 = nI ap) (h4 : sI Y 4 = nI ts) (h5 : sI Y 5 = nI op) (h6 : sI Y 6 = nI ft) : ∃ tk st : Nat, Y = mR Y ap tk st ts op ft (sL Y 0) (sR Y 5) (sR Y 6) (sR Y 7) (sQ Y 2) := by
  obtain ⟨tk, _, e2⟩ := nI_ex (sI Y 2)
  obtain ⟨st, _, e3⟩ := nI_ex (sI Y 3)
  refine ⟨tk, st, Prod.ext (funext fun j => ?_) (Prod.ext (funext fun j => ?_) (Prod.ext (funext fun j => ?_) (Prod.ext (funext fun j => ?_) rfl)))⟩
  · show sI Y j = if j = 1 then nI ap else if j = 2 then nI tk else if j = 3 then nI st else if j = 4 then nI ts else if j = 5 then nI op else if j = 6 then nI ft else sI Y j
    repeat (split; · rename_i h; rw [h]; assumption)
    rfl
  · show sL Y j = if j = 0 then sL Y 0 else sL Y j
    split
    · rename_i h; rw [h]
    · rfl
  · show sR Y j = if j = 5 then sR Y 5 else if j = 6 then sR Y 6 else if j = 7 then sR Y 7 else sR Y j
    repeat (split; · rename_i h; rw [h])
    rfl
  · show sQ Y j = if j = 2 then sQ Y 2 else sQ Y j
    split
    · rename_i h; rw [h]
    · rfl
/-- the class: emit, push, blame, part -/
theorem em_1 (n v : Nat) (w : Int64) {B : St} {cs tp os ap kd fr pt : Nat} {nm : Int64} {C S SA F T : Nat → Int32} {A : Nat → Int64} (hc : cs < 160) : df_X2_emit n (nI v) w (mC B cs tp os ap kd fr 0 pt nm C S SA F T A) = some (mC B (cs + 1) tp os ap kd fr 0 pt nm (upd C cs (nI v)) S SA F T (vp_updL A cs w)) := by
  simp (disch := (first | assumption | decide | omega)) only [df_X2_emit_49, df_X2_emit_0, df_X2_emit, mC_i0, mC_i1, mC_i2, mC_i5, mC_i6, mC_i7, mC_i8, mC_i9, mC_l, mC_r0, mC_r1, mC_r2, mC_r3, mC_r4, mC_q, mC_o, mC_i4, mC_wi0, mC_wi1, mC_wi2, mC_wi5, mC_wi6, mC_wi7, mC_wi8, mC_wi9, mC_wl, mC_wr0, mC_wr1, mC_wr2, mC_wr3, mC_wr4, mC_wq, eq_self, Nat.reduceEqDiff, Nat.reduceLeDiff, nl_0, nl_1, nl_8, nl_160, no_1, no_1024, pk_mul, nI_add, nm_ck, nI_clamp, nI_ltI, nI_leI, nI_eq, nb_b2, nb_b1, ↓nb_let, nm_z0, nm_z1, nb_II, nb_IR, nb_RI, nb_RR, nm_IL, nm_IQ, nm_RL, nm_RQ, nm_LI, nm_LR, nm_LL, nm_LQ, nm_QI, nm_QR, nm_QL, nm_QQ, nm_rr, nm_ii, nm_eqm, not_false_eq_true, pk_sub, nm_div, nm_shl, nm_shr, nm_ush, nm_or8, nm_or64, nm_or256, nm_m1, nm_m3, nm_m7, nm_m15, nm_m31, nm_m63, nm_m255, nm_m511, nm_m1023, nm_m2047, nm_m65535, Nat.reduceMod, Nat.reducePow, Nat.reduceAdd, Nat.reduceSub, Nat.reduceMul, nm_bo, nm_bi, nm_rc, nm_ic, nm_ri, nm_rl, nm_rq, nm_ql, nm_qi, nm_li, nm_us, nm_uu, nm_cp, nm_sa31, nm_sa7, nm_m127, nm_m2, nm_nz, nm_nzk, nm_eq32, nm_nzf, if_true, if_false, ↓reduceIte, if_pos, if_neg]
theorem em_0 (n v : Nat) (w : Int64) {B : St} {cs tp os ap kd fr ft pt : Nat} {nm : Int64} {C S SA F T : Nat → Int32} {A : Nat → Int64} (h : 0 < ft) (h2 : ft < 2 ^ 31) : df_X2_emit n (nI v) w (mC B cs tp os ap kd fr ft pt nm C S SA F T A) = some (mC B cs tp os ap kd fr ft pt nm C S SA F T A) := by
  simp (disch := (first | assumption | decide | omega)) only [df_X2_emit_49, df_X2_emit_0, df_X2_emit, mC_i0, mC_i1, mC_i2, mC_i5, mC_i6, mC_i7, mC_i8, mC_i9, mC_l, mC_r0, mC_r1, mC_r2, mC_r3, mC_r4, mC_q, mC_o, mC_i4, mC_wi0, mC_wi1, mC_wi2, mC_wi5, mC_wi6, mC_wi7, mC_wi8, mC_wi9, mC_wl, mC_wr0, mC_wr1, mC_wr2, mC_wr3, mC_wr4, mC_wq, eq_self, Nat.reduceEqDiff, Nat.reduceLeDiff, nl_0, nl_1, nl_8, nl_160, no_1, no_1024, pk_mul, nI_add, nm_ck, nI_clamp, nI_ltI, nI_leI, nI_eq, nb_b2, nb_b1, ↓nb_let, nm_z0, nm_z1, nb_II, nb_IR, nb_RI, nb_RR, nm_IL, nm_IQ, nm_RL, nm_RQ, nm_LI, nm_LR, nm_LL, nm_LQ, nm_QI, nm_QR, nm_QL, nm_QQ, nm_rr, nm_ii, nm_eqm, not_false_eq_true, pk_sub, nm_div, nm_shl, nm_shr, nm_ush, nm_or8, nm_or64, nm_or256, nm_m1, nm_m3, nm_m7, nm_m15, nm_m31, nm_m63, nm_m255, nm_m511, nm_m1023, nm_m2047, nm_m65535, Nat.reduceMod, Nat.reducePow, Nat.reduceAdd, Nat.reduceSub, Nat.reduceMul, nm_bo, nm_bi, nm_rc, nm_ic, nm_ri, nm_rl, nm_rq, nm_ql, nm_qi, nm_li, nm_us, nm_uu, nm_cp, nm_sa31, nm_sa7, nm_m127, nm_m2, nm_nz, nm_nzk, nm_eq32, nm_nzf, if_true, if_false, ↓reduceIte, if_pos, if_neg]
theorem pu_1c (n v w : Nat) {B : St} {cs tp os ap kd fr pt : Nat} {nm : Int64} {C S SA F T : Nat → Int32} {A : Nat → Int64} (hc : tp < 41) : df_X2_push n (nI v) (nI w) (mC B cs tp os ap kd fr 0 pt nm C S SA F T A) = some (mC B cs (tp + 1) os ap kd fr 0 pt nm C (upd S tp (nI v)) (upd SA tp (nI w)) F T A) := by
  simp (disch := (first | assumption | decide | omega)) only [df_X2_push_49, df_X2_push_0, df_X2_push, mC_i0, mC_i1, mC_i2, mC_i5, mC_i6, mC_i7, mC_i8, mC_i9, mC_l, mC_r0, mC_r1, mC_r2, mC_r3, mC_r4, mC_q, mC_o, mC_i4, mC_wi0, mC_wi1, mC_wi2, mC_wi5, mC_wi6, mC_wi7, mC_wi8, mC_wi9, mC_wl, mC_wr0, mC_wr1, mC_wr2, mC_wr3, mC_wr4, mC_wq, eq_self, Nat.reduceEqDiff, Nat.reduceLeDiff, nl_0, nl_1, nl_2, nl_8, nl_41, no_1, no_1024, pk_mul, nI_add, nm_ck, nI_clamp, nI_ltI, nI_leI, nI_eq, nb_b2, nb_b1, ↓nb_let, nm_z0, nm_z1, nb_II, nb_IR, nb_RI, nb_RR, nm_IL, nm_IQ, nm_RL, nm_RQ, nm_LI, nm_LR, nm_LL, nm_LQ, nm_QI, nm_QR, nm_QL, nm_QQ, nm_rr, nm_ii, nm_eqm, not_false_eq_true, pk_sub, nm_div, nm_shl, nm_shr, nm_ush, nm_or8, nm_or64, nm_or256, nm_m1, nm_m3, nm_m7, nm_m15, nm_m31, nm_m63, nm_m255, nm_m511, nm_m1023, nm_m2047, nm_m65535, Nat.reduceMod, Nat.reducePow, Nat.reduceAdd, Nat.reduceSub, Nat.reduceMul, nm_bo, nm_bi, nm_rc, nm_ic, nm_ri, nm_rl, nm_rq, nm_ql, nm_qi, nm_li, nm_us, nm_uu, nm_cp, nm_sa31, nm_sa7, nm_m127, nm_m2, nm_nz, nm_nzk, nm_eq32, nm_nzf, if_true, if_false, ↓reduceIte, if_pos, if_neg]
theorem pu_0c (n v w : Nat) {B : St} {cs tp os ap kd fr ft pt : Nat} {nm : Int64} {C S SA F T : Nat → Int32} {A : Nat → Int64} (h : 0 < ft) (h2 : ft < 2 ^ 31) : df_X2_push n (nI v) (nI w) (mC B cs tp os ap kd fr ft pt nm C S SA F T A) = some (mC B cs tp os ap kd fr ft pt nm C S SA F T A) := by
  simp (disch := (first | assumption | decide | omega)) only [df_X2_push_49, df_X2_push_0, df_X2_push, mC_i0, mC_i1, mC_i2, mC_i5, mC_i6, mC_i7, mC_i8, mC_i9, mC_l, mC_r0, mC_r1, mC_r2, mC_r3, mC_r4, mC_q, mC_o, mC_i4, mC_wi0, mC_wi1, mC_wi2, mC_wi5, mC_wi6, mC_wi7, mC_wi8, mC_wi9, mC_wl, mC_wr0, mC_wr1, mC_wr2, mC_wr3, mC_wr4, mC_wq, eq_self, Nat.reduceEqDiff, Nat.reduceLeDiff, nl_0, nl_1, nl_2, nl_8, nl_41, no_1, no_1024, pk_mul, nI_add, nm_ck, nI_clamp, nI_ltI, nI_leI, nI_eq, nb_b2, nb_b1, ↓nb_let, nm_z0, nm_z1, nb_II, nb_IR, nb_RI, nb_RR, nm_IL, nm_IQ, nm_RL, nm_RQ, nm_LI, nm_LR, nm_LL, nm_LQ, nm_QI, nm_QR, nm_QL, nm_QQ, nm_rr, nm_ii, nm_eqm, not_false_eq_true, pk_sub, nm_div, nm_shl, nm_shr, nm_ush, nm_or8, nm_or64, nm_or256, nm_m1, nm_m3, nm_m7, nm_m15, nm_m31, nm_m63, nm_m255, nm_m511, nm_m1023, nm_m2047, nm_m65535, Nat.reduceMod, Nat.reducePow, Nat.reduceAdd, Nat.reduceSub, Nat.reduceMul, nm_bo, nm_bi, nm_rc, nm_ic, nm_ri, nm_rl, nm_rq, nm_ql, nm_qi, nm_li, nm_us, nm_uu, nm_cp, nm_sa31, nm_sa7, nm_m127, nm_m2, nm_nz, nm_nzk, nm_eq32, nm_nzf, if_true, if_false, ↓reduceIte, if_pos, if_neg]
theorem bl_1 (n v : Nat) {B : St} {cs tp os ap kd fr pt : Nat} {nm : Int64} {C S SA F T : Nat → Int32} {A : Nat → Int64} : df_X2_blame n (nI v) (mC B cs tp os ap kd fr 0 pt nm C S SA F T A) = some (mC B cs tp os ap kd fr (v + 8 * fr) pt nm C S SA F T A) := by
  simp (disch := (first | assumption | decide | omega)) only [df_X2_blame_20, df_X2_blame_0, df_X2_blame, mC_i0, mC_i1, mC_i2, mC_i5, mC_i6, mC_i7, mC_i8, mC_i9, mC_l, mC_r0, mC_r1, mC_r2, mC_r3, mC_r4, mC_q, mC_o, mC_i4, mC_wi0, mC_wi1, mC_wi2, mC_wi5, mC_wi6, mC_wi7, mC_wi8, mC_wi9, mC_wl, mC_wr0, mC_wr1, mC_wr2, mC_wr3, mC_wr4, mC_wq, eq_self, Nat.reduceEqDiff, Nat.reduceLeDiff, nl_0, nl_7, nl_8, no_1, no_1024, pk_mul, nI_add, nm_ck, nI_clamp, nI_ltI, nI_leI, nI_eq, nb_b2, nb_b1, ↓nb_let, nm_z0, nm_z1, nb_II, nb_IR, nb_RI, nb_RR, nm_IL, nm_IQ, nm_RL, nm_RQ, nm_LI, nm_LR, nm_LL, nm_LQ, nm_QI, nm_QR, nm_QL, nm_QQ, nm_rr, nm_ii, nm_eqm, not_false_eq_true, pk_sub, nm_div, nm_shl, nm_shr, nm_ush, nm_or8, nm_or64, nm_or256, nm_m1, nm_m3, nm_m7, nm_m15, nm_m31, nm_m63, nm_m255, nm_m511, nm_m1023, nm_m2047, nm_m65535, Nat.reduceMod, Nat.reducePow, Nat.reduceAdd, Nat.reduceSub, Nat.reduceMul, nm_bo, nm_bi, nm_rc, nm_ic, nm_ri, nm_rl, nm_rq, nm_ql, nm_qi, nm_li, nm_us, nm_uu, nm_cp, nm_sa31, nm_sa7, nm_m127, nm_m2, nm_nz, nm_nzk, nm_eq32, nm_nzf, if_true, if_false, ↓reduceIte, if_pos, if_neg]
theorem bl_0 (n v : Nat) {B : St} {cs tp os ap kd fr ft pt : Nat} {nm : Int64} {C S SA F T : Nat → Int32} {A : Nat → Int64} (h : 0 < ft) (h2 : ft < 2 ^ 31) : df_X2_blame n (nI v) (mC B cs tp os ap kd fr ft pt nm C S SA F T A) = some (mC B cs tp os ap kd fr ft pt nm C S SA F T A) := by
  simp (disch := (first | assumption | decide | omega)) only [df_X2_blame_20, df_X2_blame_0, df_X2_blame, mC_i0, mC_i1, mC_i2, mC_i5, mC_i6, mC_i7, mC_i8, mC_i9, mC_l, mC_r0, mC_r1, mC_r2, mC_r3, mC_r4, mC_q, mC_o, mC_i4, mC_wi0, mC_wi1, mC_wi2, mC_wi5, mC_wi6, mC_wi7, mC_wi8, mC_wi9, mC_wl, mC_wr0, mC_wr1, mC_wr2, mC_wr3, mC_wr4, mC_wq, eq_self, Nat.reduceEqDiff, Nat.reduceLeDiff, nl_0, nl_7, nl_8, no_1, no_1024, pk_mul, nI_add, nm_ck, nI_clamp, nI_ltI, nI_leI, nI_eq, nb_b2, nb_b1, ↓nb_let, nm_z0, nm_z1, nb_II, nb_IR, nb_RI, nb_RR, nm_IL, nm_IQ, nm_RL, nm_RQ, nm_LI, nm_LR, nm_LL, nm_LQ, nm_QI, nm_QR, nm_QL, nm_QQ, nm_rr, nm_ii, nm_eqm, not_false_eq_true, pk_sub, nm_div, nm_shl, nm_shr, nm_ush, nm_or8, nm_or64, nm_or256, nm_m1, nm_m3, nm_m7, nm_m15, nm_m31, nm_m63, nm_m255, nm_m511, nm_m1023, nm_m2047, nm_m65535, Nat.reduceMod, Nat.reducePow, Nat.reduceAdd, Nat.reduceSub, Nat.reduceMul, nm_bo, nm_bi, nm_rc, nm_ic, nm_ri, nm_rl, nm_rq, nm_ql, nm_qi, nm_li, nm_us, nm_uu, nm_cp, nm_sa31, nm_sa7, nm_m127, nm_m2, nm_nz, nm_nzk, nm_eq32, nm_nzf, if_true, if_false, ↓reduceIte, if_pos, if_neg]
theorem pt_1 (n : Nat) {B : St} {cs tp os ap kd fr ft pt : Nat} {nm : Int64} {C S SA F T : Nat → Int32} {A : Nat → Int64} (h : pt < 40) : df_X2_part n (mC B cs tp os ap kd fr ft pt nm C S SA F T A) = some (mC B cs tp os ap kd fr ft (pt + 1) nm C S SA F T A) := by
  simp (disch := (first | assumption | decide | omega)) only [df_X2_part_24, df_X2_part_0, df_X2_part, mC_i0, mC_i1, mC_i2, mC_i5, mC_i6, mC_i7, mC_i8, mC_i9, mC_l, mC_r0, mC_r1, mC_r2, mC_r3, mC_r4, mC_q, mC_o, mC_i4, mC_wi0, mC_wi1, mC_wi2, mC_wi5, mC_wi6, mC_wi7, mC_wi8, mC_wi9, mC_wl, mC_wr0, mC_wr1, mC_wr2, mC_wr3, mC_wr4, mC_wq, eq_self, Nat.reduceEqDiff, Nat.reduceLeDiff, nl_1, nl_3, nl_9, nl_40, no_1, no_1024, pk_mul, nI_add, nm_ck, nI_clamp, nI_ltI, nI_leI, nI_eq, nb_b2, nb_b1, ↓nb_let, nm_z0, nm_z1, nb_II, nb_IR, nb_RI, nb_RR, nm_IL, nm_IQ, nm_RL, nm_RQ, nm_LI, nm_LR, nm_LL, nm_LQ, nm_QI, nm_QR, nm_QL, nm_QQ, nm_rr, nm_ii, nm_eqm, not_false_eq_true, pk_sub, nm_div, nm_shl, nm_shr, nm_ush, nm_or8, nm_or64, nm_or256, nm_m1, nm_m3, nm_m7, nm_m15, nm_m31, nm_m63, nm_m255, nm_m511, nm_m1023, nm_m2047, nm_m65535, Nat.reduceMod, Nat.reducePow, Nat.reduceAdd, Nat.reduceSub, Nat.reduceMul, nm_bo, nm_bi, nm_rc, nm_ic, nm_ri, nm_rl, nm_rq, nm_ql, nm_qi, nm_li, nm_us, nm_uu, nm_cp, nm_sa31, nm_sa7, nm_m127, nm_m2, nm_nz, nm_nzk, nm_eq32, nm_nzf, if_true, if_false, ↓reduceIte, if_pos, if_neg]
theorem pt_0 (n : Nat) {B : St} {cs tp os ap kd fr : Nat} {nm : Int64} {C S SA F T : Nat → Int32} {A : Nat → Int64} : df_X2_part n (mC B cs tp os ap kd fr 0 40 nm C S SA F T A) = some (mC B cs tp os ap kd fr (3 + 8 * fr) 41 nm C S SA F T A) := by
  have b := bl_1 n 3 (B := B) (cs := cs) (tp := tp) (os := os) (ap := ap) (kd := kd) (fr := fr) (nm := nm) (C := C) (S := S) (SA := SA) (F := F) (T := T) (A := A) (pt := 41)
  simp (disch := (first | assumption | decide | omega)) only [df_X2_part_24, df_X2_part_0, df_X2_part, mC_i0, mC_i1, mC_i2, mC_i5, mC_i6, mC_i7, mC_i8, mC_i9, mC_l, mC_r0, mC_r1, mC_r2, mC_r3, mC_r4, mC_q, mC_o, mC_i4, mC_wi0, mC_wi1, mC_wi2, mC_wi5, mC_wi6, mC_wi7, mC_wi8, mC_wi9, mC_wl, mC_wr0, mC_wr1, mC_wr2, mC_wr3, mC_wr4, mC_wq, b, eq_self, Nat.reduceEqDiff, Nat.reduceLeDiff, nl_1, nl_3, nl_9, nl_40, no_1, no_1024, pk_mul, nI_add, nm_ck, nI_clamp, nI_ltI, nI_leI, nI_eq, nb_b2, nb_b1, ↓nb_let, nm_z0, nm_z1, nb_II, nb_IR, nb_RI, nb_RR, nm_IL, nm_IQ, nm_RL, nm_RQ, nm_LI, nm_LR, nm_LL, nm_LQ, nm_QI, nm_QR, nm_QL, nm_QQ, nm_rr, nm_ii, nm_eqm, not_false_eq_true, pk_sub, nm_div, nm_shl, nm_shr, nm_ush, nm_or8, nm_or64, nm_or256, nm_m1, nm_m3, nm_m7, nm_m15, nm_m31, nm_m63, nm_m255, nm_m511, nm_m1023, nm_m2047, nm_m65535, Nat.reduceMod, Nat.reducePow, Nat.reduceAdd, Nat.reduceSub, Nat.reduceMul, nm_bo, nm_bi, nm_rc, nm_ic, nm_ri, nm_rl, nm_rq, nm_ql, nm_qi, nm_li, nm_us, nm_uu, nm_cp, nm_sa31, nm_sa7, nm_m127, nm_m2, nm_nz, nm_nzk, nm_eq32, nm_nzf, if_true, if_false, ↓reduceIte, if_pos, if_neg]
/-- how many wait -/
theorem wa_1 (n a b : Nat) (ha : a < 100) (hb : b < 100) {B : St} {cs tp os ap kd fr ft pt : Nat} {nm : Int64} {C S SA F T : Nat → Int32} {A : Nat → Int64} (ht : tp ≤ 41) (hn : 41 < n) (s : Nat → Nat) (hs : ∀ i : Nat, i < tp → S i = nI (s i) ∧ s i < 100) : df_X2_waiting n (nI a) (nI b) (mC B cs tp os ap kd fr ft pt nm C S SA F T A) = some (nI (cN (fun i => decide (a ≤ s i ∧ s i ≤ b)) tp), mC B cs tp os ap kd fr ft pt nm C S SA F T A) := by
  obtain ⟨m, e⟩ := nm_lq (fun m k => df_X2_waiting_5 n m (nI a) (nI b) (nI (cN (fun i => decide (a ≤ s i ∧ s i ≤ b)) k)) (nI k) (mC B cs tp os ap kd fr ft pt nm C S SA F T A)) tp n (by omega) (fun k m hk => by
    have q := hs k hk
    have cl := cN_le (fun i => decide (a ≤ s i ∧ s i ≤ b)) k
    show df_X2_waiting_5 n (m + 1) (nI a) (nI b) (nI (cN (fun i => decide (a ≤ s i ∧ s i ≤ b)) k)) (nI k) (mC B cs tp os ap kd fr ft pt nm C S SA F T A) = df_X2_waiting_5 n m (nI a) (nI b) (nI (cN (fun i => decide (a ≤ s i ∧ s i ≤ b)) (k + 1))) (nI (k + 1)) (mC B cs tp os ap kd fr ft pt nm C S SA F T A)
    rw [cN_s]
    generalize cN (fun i => decide (a ≤ s i ∧ s i ≤ b)) k = x at cl
    by_cases y1 : s k < a
    · rw [nm_df (show ¬ (a ≤ s k ∧ s k ≤ b) by omega)]
      simp (disch := (first | assumption | decide | omega)) only [(show df_X2_waiting_5 n (m + 1) = dF_X2_waiting_5 n (df_X2_waiting_5 n m) from rfl), dF_X2_waiting_5, df_X2_waiting_39, df_X2_waiting_0, df_X2_waiting, mC_i0, mC_i1, mC_i2, mC_i5, mC_i6, mC_i7, mC_i8, mC_i9, mC_l, mC_r0, mC_r1, mC_r2, mC_r3, mC_r4, mC_q, mC_o, mC_i4, mC_wi0, mC_wi1, mC_wi2, mC_wi5, mC_wi6, mC_wi7, mC_wi8, mC_wi9, mC_wl, mC_wr0, mC_wr1, mC_wr2, mC_wr3, mC_wr4, mC_wq, q.1, Nat.add_zero, eq_self, Nat.reduceEqDiff, Nat.reduceLeDiff, nl_0, nl_1, nl_41, no_1, no_1024, pk_mul, nI_add, nm_ck, nI_clamp, nI_ltI, nI_leI, nI_eq, nb_b2, nb_b1, ↓nb_let, nm_z0, nm_z1, nb_II, nb_IR, nb_RI, nb_RR, nm_IL, nm_IQ, nm_RL, nm_RQ, nm_LI, nm_LR, nm_LL, nm_LQ, nm_QI, nm_QR, nm_QL, nm_QQ, nm_rr, nm_ii, nm_eqm, not_false_eq_true, pk_sub, nm_div, nm_shl, nm_shr, nm_ush, nm_or8, nm_or64, nm_or256, nm_m1, nm_m3, nm_m7, nm_m15, nm_m31, nm_m63, nm_m255, nm_m511, nm_m1023, nm_m2047, nm_m65535, Nat.reduceMod, Nat.reducePow, Nat.reduceAdd, Nat.reduceSub, Nat.reduceMul, nm_bo, nm_bi, nm_rc, nm_ic, nm_ri, nm_rl, nm_rq, nm_ql, nm_qi, nm_li, nm_us, nm_uu, nm_cp, nm_sa31, nm_sa7, nm_m127, nm_m2, nm_nz, nm_nzk, nm_eq32, nm_nzf, if_true, if_false, ↓reduceIte, if_pos, if_neg]
    · by_cases y2 : b < s k
      · rw [nm_df (show ¬ (a ≤ s k ∧ s k ≤ b) by omega)]
        simp (disch := (first | assumption | decide | omega)) only [(show df_X2_waiting_5 n (m + 1) = dF_X2_waiting_5 n (df_X2_waiting_5 n m) from rfl), dF_X2_waiting_5, df_X2_waiting_39, df_X2_waiting_0, df_X2_waiting, mC_i0, mC_i1, mC_i2, mC_i5, mC_i6, mC_i7, mC_i8, mC_i9, mC_l, mC_r0, mC_r1, mC_r2, mC_r3, mC_r4, mC_q, mC_o, mC_i4, mC_wi0, mC_wi1, mC_wi2, mC_wi5, mC_wi6, mC_wi7, mC_wi8, mC_wi9, mC_wl, mC_wr0, mC_wr1, mC_wr2, mC_wr3, mC_wr4, mC_wq, q.1, Nat.add_zero, eq_self, Nat.reduceEqDiff, Nat.reduceLeDiff, nl_0, nl_1, nl_41, no_1, no_1024, pk_mul, nI_add, nm_ck, nI_clamp, nI_ltI, nI_leI, nI_eq, nb_b2, nb_b1, ↓nb_let, nm_z0, nm_z1, nb_II, nb_IR, nb_RI, nb_RR, nm_IL, nm_IQ, nm_RL, nm_RQ, nm_LI, nm_LR, nm_LL, nm_LQ, nm_QI, nm_QR, nm_QL, nm_QQ, nm_rr, nm_ii, nm_eqm, not_false_eq_true, pk_sub, nm_div, nm_shl, nm_shr, nm_ush, nm_or8, nm_or64, nm_or256, nm_m1, nm_m3, nm_m7, nm_m15, nm_m31, nm_m63, nm_m255, nm_m511, nm_m1023, nm_m2047, nm_m65535, Nat.reduceMod, Nat.reducePow, Nat.reduceAdd, Nat.reduceSub, Nat.reduceMul, nm_bo, nm_bi, nm_rc, nm_ic, nm_ri, nm_rl, nm_rq, nm_ql, nm_qi, nm_li, nm_us, nm_uu, nm_cp, nm_sa31, nm_sa7, nm_m127, nm_m2, nm_nz, nm_nzk, nm_eq32, nm_nzf, if_true, if_false, ↓reduceIte, if_pos, if_neg]
      · rw [nm_dt (show a ≤ s k ∧ s k ≤ b by omega)]
        simp (disch := (first | assumption | decide | omega)) only [(show df_X2_waiting_5 n (m + 1) = dF_X2_waiting_5 n (df_X2_waiting_5 n m) from rfl), dF_X2_waiting_5, df_X2_waiting_39, df_X2_waiting_0, df_X2_waiting, mC_i0, mC_i1, mC_i2, mC_i5, mC_i6, mC_i7, mC_i8, mC_i9, mC_l, mC_r0, mC_r1, mC_r2, mC_r3, mC_r4, mC_q, mC_o, mC_i4, mC_wi0, mC_wi1, mC_wi2, mC_wi5, mC_wi6, mC_wi7, mC_wi8, mC_wi9, mC_wl, mC_wr0, mC_wr1, mC_wr2, mC_wr3, mC_wr4, mC_wq, q.1, eq_self, Nat.reduceEqDiff, Nat.reduceLeDiff, nl_0, nl_1, nl_41, no_1, no_1024, pk_mul, nI_add, nm_ck, nI_clamp, nI_ltI, nI_leI, nI_eq, nb_b2, nb_b1, ↓nb_let, nm_z0, nm_z1, nb_II, nb_IR, nb_RI, nb_RR, nm_IL, nm_IQ, nm_RL, nm_RQ, nm_LI, nm_LR, nm_LL, nm_LQ, nm_QI, nm_QR, nm_QL, nm_QQ, nm_rr, nm_ii, nm_eqm, not_false_eq_true, pk_sub, nm_div, nm_shl, nm_shr, nm_ush, nm_or8, nm_or64, nm_or256, nm_m1, nm_m3, nm_m7, nm_m15, nm_m31, nm_m63, nm_m255, nm_m511, nm_m1023, nm_m2047, nm_m65535, Nat.reduceMod, Nat.reducePow, Nat.reduceAdd, Nat.reduceSub, Nat.reduceMul, nm_bo, nm_bi, nm_rc, nm_ic, nm_ri, nm_rl, nm_rq, nm_ql, nm_qi, nm_li, nm_us, nm_uu, nm_cp, nm_sa31, nm_sa7, nm_m127, nm_m2, nm_nz, nm_nzk, nm_eq32, nm_nzf, if_true, if_false, ↓reduceIte, if_pos, if_neg])
  refine Eq.trans (show _ = df_X2_waiting_5 n n (nI a) (nI b) (nI 0) (nI 0) (mC B cs tp os ap kd fr ft pt nm C S SA F T A) from rfl) (Eq.trans e ?_)
  show df_X2_waiting_5 n (m + 1) (nI a) (nI b) (nI (cN (fun i => decide (a ≤ s i ∧ s i ≤ b)) tp)) (nI tp) (mC B cs tp os ap kd fr ft pt nm C S SA F T A) = _
  generalize cN (fun i => decide (a ≤ s i ∧ s i ≤ b)) tp = x
  simp (disch := (first | assumption | decide | omega)) only [(show df_X2_waiting_5 n (m + 1) = dF_X2_waiting_5 n (df_X2_waiting_5 n m) from rfl), dF_X2_waiting_5, df_X2_waiting_39, df_X2_waiting_0, df_X2_waiting, mC_i0, mC_i1, mC_i2, mC_i5, mC_i6, mC_i7, mC_i8, mC_i9, mC_l, mC_r0, mC_r1, mC_r2, mC_r3, mC_r4, mC_q, mC_o, mC_i4, mC_wi0, mC_wi1, mC_wi2, mC_wi5, mC_wi6, mC_wi7, mC_wi8, mC_wi9, mC_wl, mC_wr0, mC_wr1, mC_wr2, mC_wr3, mC_wr4, mC_wq, eq_self, Nat.reduceEqDiff, Nat.reduceLeDiff, nl_0, nl_1, nl_41, no_1, no_1024, pk_mul, nI_add, nm_ck, nI_clamp, nI_ltI, nI_leI, nI_eq, nb_b2, nb_b1, ↓nb_let, nm_z0, nm_z1, nb_II, nb_IR, nb_RI, nb_RR, nm_IL, nm_IQ, nm_RL, nm_RQ, nm_LI, nm_LR, nm_LL, nm_LQ, nm_QI, nm_QR, nm_QL, nm_QQ, nm_rr, nm_ii, nm_eqm, not_false_eq_true, pk_sub, nm_div, nm_shl, nm_shr, nm_ush, nm_or8, nm_or64, nm_or256, nm_m1, nm_m3, nm_m7, nm_m15, nm_m31, nm_m63, nm_m255, nm_m511, nm_m1023, nm_m2047, nm_m65535, Nat.reduceMod, Nat.reducePow, Nat.reduceAdd, Nat.reduceSub, Nat.reduceMul, nm_bo, nm_bi, nm_rc, nm_ic, nm_ri, nm_rl, nm_rq, nm_ql, nm_qi, nm_li, nm_us, nm_uu, nm_cp, nm_sa31, nm_sa7, nm_m127, nm_m2, nm_nz, nm_nzk, nm_eq32, nm_nzf, if_true, if_false, ↓reduceIte, if_pos, if_neg]
/-- the reference: meet, take, shut -/
theorem me_1 (n v w : Nat) {B : St} {ap tk st ts op : Nat} {tv : Int64} {K P OA : Nat → Int32} {N : Nat → Int64} {X : St × St} : df_X15_meet n (nI v) (nI w) (mR B ap tk st ts op 0 tv K P OA N, X) = some (mR B ap tk st ts op (v + 8 * w) tv K P OA N, X) := by
  simp (disch := (first | assumption | decide | omega)) only [df_X15_meet_17, df_X15_meet_0, df_X15_meet, mR_i1, mR_i2, mR_i3, mR_i4, mR_i5, mR_i6, mR_l, mR_r5, mR_r6, mR_r7, mR_q, mR_o, mR_i0, mR_r0, mR_wi1, mR_wi2, mR_wi3, mR_wi4, mR_wi5, mR_wi6, mR_wl, mR_wr5, mR_wr6, mR_wr7, mR_wq, eq_self, Nat.reduceEqDiff, Nat.reduceLeDiff, nl_0, nl_6, nl_8, no_1, no_1024, pk_mul, nI_add, nm_ck, nI_clamp, nI_ltI, nI_leI, nI_eq, nb_b2, nb_b1, ↓nb_let, nm_z0, nm_z1, nb_II, nb_IR, nb_RI, nb_RR, nm_IL, nm_IQ, nm_RL, nm_RQ, nm_LI, nm_LR, nm_LL, nm_LQ, nm_QI, nm_QR, nm_QL, nm_QQ, nm_rr, nm_ii, nm_eqm, not_false_eq_true, pk_sub, nm_div, nm_shl, nm_shr, nm_ush, nm_or8, nm_or64, nm_or256, nm_m1, nm_m3, nm_m7, nm_m15, nm_m31, nm_m63, nm_m255, nm_m511, nm_m1023, nm_m2047, nm_m65535, Nat.reduceMod, Nat.reducePow, Nat.reduceAdd, Nat.reduceSub, Nat.reduceMul, nm_bo, nm_bi, nm_rc, nm_ic, nm_ri, nm_rl, nm_rq, nm_ql, nm_qi, nm_li, nm_us, nm_uu, nm_cp, nm_sa31, nm_sa7, nm_m127, nm_m2, nm_nz, nm_nzk, nm_eq32, nm_nzf, if_true, if_false, ↓reduceIte, if_pos, if_neg]
theorem ta_1 (n : Nat) {B : St} {ap tk st ts op ft : Nat} {tv : Int64} {K P OA : Nat → Int32} {N : Nat → Int64} {X : St × St} (h : ts < 120) : df_X15_take n (mR B ap tk st ts op ft tv K P OA N, X) = some (mR B ap tk st (ts + 1) op ft tv (upd K ts (nI tk)) (upd P ts (-nI 1)) OA (vp_updL N ts tv), X) := by
  simp (disch := (first | assumption | decide | omega)) only [df_X15_take_0, df_X15_take, mR_i1, mR_i2, mR_i3, mR_i4, mR_i5, mR_i6, mR_l, mR_r5, mR_r6, mR_r7, mR_q, mR_o, mR_i0, mR_r0, mR_wi1, mR_wi2, mR_wi3, mR_wi4, mR_wi5, mR_wi6, mR_wl, mR_wr5, mR_wr6, mR_wr7, mR_wq, eq_self, Nat.reduceEqDiff, Nat.reduceLeDiff, nl_0, nl_1, nl_2, nl_4, nl_5, nl_6, nl_120, no_1, no_1024, pk_mul, nI_add, nm_ck, nI_clamp, nI_ltI, nI_leI, nI_eq, nb_b2, nb_b1, ↓nb_let, nm_z0, nm_z1, nb_II, nb_IR, nb_RI, nb_RR, nm_IL, nm_IQ, nm_RL, nm_RQ, nm_LI, nm_LR, nm_LL, nm_LQ, nm_QI, nm_QR, nm_QL, nm_QQ, nm_rr, nm_ii, nm_eqm, not_false_eq_true, pk_sub, nm_div, nm_shl, nm_shr, nm_ush, nm_or8, nm_or64, nm_or256, nm_m1, nm_m3, nm_m7, nm_m15, nm_m31, nm_m63, nm_m255, nm_m511, nm_m1023, nm_m2047, nm_m65535, Nat.reduceMod, Nat.reducePow, Nat.reduceAdd, Nat.reduceSub, Nat.reduceMul, nm_bo, nm_bi, nm_rc, nm_ic, nm_ri, nm_rl, nm_rq, nm_ql, nm_qi, nm_li, nm_us, nm_uu, nm_cp, nm_sa31, nm_sa7, nm_m127, nm_m2, nm_nz, nm_nzk, nm_eq32, nm_nzf, if_true, if_false, ↓reduceIte, if_pos, if_neg]
theorem sh_1 (n y : Nat) {B : St} {ap tk st ts op ft : Nat} {tv : Int64} {K P OA : Nat → Int32} {N : Nat → Int64} {X : St × St} (h : ts < 120) (ho : op < 10) (hy : OA op = nI y) (hy2 : y < ts) : df_X15_shut n (mR B ap tk st ts (op + 1) ft tv K P OA N, X) = some (mR B ap tk st (ts + 1) op ft tv (upd K ts (nI tk)) (upd (upd P y (nI ts)) ts (nI y)) OA (vp_updL N ts tv), X) := by
  have w1 : nI (op + 1) - nI 1 = nI op := by rw [pk_sub (by omega)]; rfl
  have w2 : nI (ts + 1) - nI 1 = nI ts := by rw [pk_sub (by omega)]; rfl
  have t := ta_1 n (B := B) (ap := ap) (tk := tk) (st := st) (ts := ts) (op := op) (ft := ft) (tv := tv) (K := K) (P := upd P y (nI ts)) (OA := OA) (N := N) (X := X) h
  simp (disch := (first | assumption | decide | omega)) only [df_X15_shut_0, df_X15_shut, mR_i1, mR_i2, mR_i3, mR_i4, mR_i5, mR_i6, mR_l, mR_r5, mR_r6, mR_r7, mR_q, mR_o, mR_i0, mR_r0, mR_wi1, mR_wi2, mR_wi3, mR_wi4, mR_wi5, mR_wi6, mR_wl, mR_wr5, mR_wr6, mR_wr7, mR_wq, w1, hy, t, w2, nm_uu, eq_self, Nat.reduceEqDiff, Nat.reduceLeDiff, nl_1, nl_4, nl_5, nl_6, nl_7, nl_10, nl_120, no_1, no_1024, pk_mul, nI_add, nm_ck, nI_clamp, nI_ltI, nI_leI, nI_eq, nb_b2, nb_b1, ↓nb_let, nm_z0, nm_z1, nb_II, nb_IR, nb_RI, nb_RR, nm_IL, nm_IQ, nm_RL, nm_RQ, nm_LI, nm_LR, nm_LL, nm_LQ, nm_QI, nm_QR, nm_QL, nm_QQ, nm_rr, nm_ii, nm_eqm, not_false_eq_true, pk_sub, nm_div, nm_shl, nm_shr, nm_ush, nm_or8, nm_or64, nm_or256, nm_m1, nm_m3, nm_m7, nm_m15, nm_m31, nm_m63, nm_m255, nm_m511, nm_m1023, nm_m2047, nm_m65535, Nat.reduceMod, Nat.reducePow, Nat.reduceAdd, Nat.reduceSub, Nat.reduceMul, nm_bo, nm_bi, nm_rc, nm_ic, nm_ri, nm_rl, nm_rq, nm_ql, nm_qi, nm_li, nm_us, nm_uu, nm_cp, nm_sa31, nm_sa7, nm_m127, nm_m2, nm_nz, nm_nzk, nm_eq32, nm_nzf, if_true, if_false, ↓reduceIte, if_pos, if_neg]

