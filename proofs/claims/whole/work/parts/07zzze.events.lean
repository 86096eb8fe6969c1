/-- behind an event, in both -/
def eO (n B : Nat) (K : St × (St × (St × St))) (X : St × St) (oc : Option (Int32 × (St × (St × (St × St))))) (or : Option (Int32 × (St × St))) : Prop := ∃ (r : Int32) (M' X' : St × St), (r = nI 0 ∨ r = nI 1) ∧ oc = some (r, (K.1, (K.2.1, M'))) ∧ or = some (r, X') ∧ rM B M' X' ∧ kX X X' ∧ kM K.2.2 M' ∧ sD n X' ∧ (r = nI 0 → X' = X)
theorem ev_1 (n : Nat) (hn : 1024 < n) {B : Nat} {K : St × (St × (St × St))} {X M1 X1 : St × St} (h : rM B M1 X1) (hx : kX X X1) (hm : kM K.2.2 M1) : eO n B K X (df_X5_come_186 n (nI 1) (K.1, (K.2.1, M1))) (df_X16_event_149 n X1) := by
  obtain ⟨M', X', e1, e2, e3, e4, e5, e6⟩ := nk_settle2 n hn (K := (K.1, (K.2.1, M1))) h
  refine ⟨nI 1, M', X', Or.inr rfl, ?_, ?_, e3, kX_t hx e4, kM_t hm e5, e6, fun z => absurd z (by decide)⟩
  · unfold df_X5_come_186
    rw [e1, nb_b1]
    exact nm_z1
  · unfold df_X16_event_149
    rw [e2, nb_b1]
    rfl
theorem ev_0 (n : Nat) (hn : 1024 < n) {B : Nat} {K : St × (St × (St × St))} {X : St × St} (h : rM B K.2.2 X) (hs : sD n X) : eO n B K X (df_X5_come_186 n (nI 0) K) (some (nI 0, X)) := by
  have e := nk_settleI n hn h hs
  refine ⟨nI 0, K.2.2, X, Or.inl rfl, ?_, rfl, h, kX_r X, rfl, hs, fun _ => rfl⟩
  unfold df_X5_come_186
  rw [e, nb_b1]
  exact nm_z0
theorem er_76 (n : Nat) (hn : 0 < n) {k : Nat} (hk : ¬ k = 1) (k5 : k < 5) (a : Int64) (z : Int32) (X : St × St) : df_X16_event_76 n n (nI k) a z X = df_X16_event_123 n (nI k) a X := by
  obtain ⟨m, rfl⟩ : ∃ m : Nat, n = m + 1 := ⟨n - 1, by omega⟩
  rw [show df_X16_event_76 (m + 1) (m + 1) = dF_X16_event_76 (m + 1) (df_X16_event_76 (m + 1) m) from rfl]
  generalize df_X16_event_76 (m + 1) m = G
  unfold dF_X16_event_76
  by_cases c : z < 0
  · rw [if_pos c]
  · rw [if_neg c, if_neg (show ¬ nI k = (1 : Int32) from fun y => hk (nm_inI (by omega) (by omega) (show nI k = nI 1 from y)))]
theorem er_55 (n : Nat) (hn : 0 < n) {k : Nat} (hk : ¬ k = 1) (k3 : ¬ k = 3) (k5 : k < 5) (a : Int64) (b : Int32) (X : St × St) : df_X16_event_55 n (nI k) a b X = df_X16_event_123 n (nI k) a X := by
  unfold df_X16_event_55
  rw [if_neg (show ¬ nI k = (3 : Int32) from fun y => k3 (nm_inI (by omega) (by omega) (show nI k = nI 3 from y)))]
  unfold df_X16_event_70
  rw [nb_let]
  exact er_76 n hn hk k5 a _ X
theorem er_123 (n : Nat) {k : Nat} (k4 : ¬ k = 4) (k5 : k < 5) (a : Int64) (X : St × St) : df_X16_event_123 n (nI k) a X = df_X16_event_149 n X := by
  unfold df_X16_event_123
  rw [if_neg (show ¬ nI k = (4 : Int32) from fun y => k4 (nm_inI (by omega) (by omega) (show nI k = nI 4 from y)))]
theorem sta_C (n : Nat) {M : St × St} {q t : Nat} (hq : q < 16) (t1 : sR M.1 6 (q * 7) = nI t) : df_X6_status n (nI q) M = some (nI t, M) := by
  have u1 : q * 7 < 112 := by omega
  have u4 : q * 7 < 2 ^ 31 := by omega
  simp (disch := (first | assumption | decide | omega)) only [df_X6_status_0, df_X6_status, Nat.add_zero, t1, eq_self, Nat.reduceEqDiff, Nat.reduceLeDiff, nl_0, nl_6, nl_7, nl_112, no_1, no_1024, pk_mul, nI_add, nm_ck, nI_clamp, nI_ltI, nI_leI, nI_eq, nb_b2, nb_b1, ↓nb_let, nm_z0, nm_z1, nb_II, nb_IR, nb_RI, nb_RR, nm_IL, nm_IQ, nm_RL, nm_RQ, nm_LI, nm_LR, nm_LL, nm_LQ, nm_QI, nm_QR, nm_QL, nm_QQ, nm_rr, nm_ii, nm_eqm, not_false_eq_true, pk_sub, nm_div, nm_shl, nm_shr, nm_ush, nm_or8, nm_or64, nm_or256, nm_m1, nm_m3, nm_m7, nm_m15, nm_m31, nm_m63, nm_m255, nm_m511, nm_m1023, nm_m2047, nm_m65535, Nat.reduceMod, Nat.reducePow, Nat.reduceAdd, Nat.reduceSub, Nat.reduceMul, nm_bo, nm_bi, nm_rc, nm_ic, nm_ri, nm_rl, nm_rq, nm_ql, nm_qi, nm_li, nm_us, nm_uu, nm_cp, nm_sa31, nm_sa7, nm_m127, nm_m2, nm_nz, nm_nzk, nm_eq32, nm_nzf, if_true, if_false, ↓reduceIte, if_pos, if_neg]
/-- a timer: another process comes -/
theorem nq_ev0 (n : Nat) (hn : 1024 < n) {B : Nat} {K : St × (St × (St × St))} {X : St × St} (h : rM B K.2.2 X) (hs : sD n X) {q : Nat} (hq : q < 16) {a : Int64} (ea : a.toInt32 = nI q) (b : Int32) : eO n B K X (df_X5_come n (nI 0) a b K) (df_X16_event n (nI 0) a b X) := by
  obtain ⟨t, ht, t1, t2⟩ := rM_st h q hq
  have u1 : q < 2 ^ 31 := by omega
  have u2 : t < 2 ^ 31 := by omega
  have s1 := sta_C n (M := K.2.2) hq t1
  have em : a.toInt32 &&& 15 = nI q := by
    rw [ea]
    show nI q &&& nI 15 = nI q
    rw [nm_m15 (by omega), Nat.mod_eq_of_lt hq]
  have C0 : df_X5_come n (nI 0) a b K = if nI t = (1 : Int32) then df_X5_come_58 n (nI q) 1 K else df_X5_come_58 n (nI q) 0 K := by
    unfold df_X5_come df_X5_come_0
    rw [nb_let, if_pos (show nI 0 = (0 : Int32) from rfl), em, s1, nb_b2, nb_let]
  rw [C0]
  by_cases c : t = 1
  · subst c
    rw [if_pos (show nI 1 = (1 : Int32) from rfl)]
    have cn : df_X16_can n (nI 0) a b X = some (nI 1, X) := by
      simp (disch := (first | assumption | decide | omega)) only [df_X16_can, df_X16_can_0, df_X16_can_48, ea, t2, eq_self, Nat.reduceEqDiff, Nat.reduceLeDiff, nl_0, nl_1, nl_2, nl_3, nl_5, nl_7, nl_16, nl_512, no_1, no_1024, pk_mul, nI_add, nm_ck, nI_clamp, nI_ltI, nI_leI, nI_eq, nb_b2, nb_b1, ↓nb_let, nm_z0, nm_z1, nb_II, nb_IR, nb_RI, nb_RR, nm_IL, nm_IQ, nm_RL, nm_RQ, nm_LI, nm_LR, nm_LL, nm_LQ, nm_QI, nm_QR, nm_QL, nm_QQ, nm_rr, nm_ii, nm_eqm, not_false_eq_true, pk_sub, nm_div, nm_shl, nm_shr, nm_ush, nm_or8, nm_or64, nm_or256, nm_m1, nm_m3, nm_m7, nm_m15, nm_m31, nm_m63, nm_m255, nm_m511, nm_m1023, nm_m2047, nm_m65535, Nat.reduceMod, Nat.reducePow, Nat.reduceAdd, Nat.reduceSub, Nat.reduceMul, nm_bo, nm_bi, nm_rc, nm_ic, nm_ri, nm_rl, nm_rq, nm_ql, nm_qi, nm_li, nm_us, nm_uu, nm_cp, nm_sa31, nm_sa7, nm_m127, nm_m2, nm_nz, nm_nzk, nm_eq32, nm_nzf, if_true, if_false, ↓reduceIte, if_pos, if_neg]
    have R0 : df_X16_event n (nI 0) a b X = df_X16_event_149 n (pI (pI X.1 1 (nI q)) 2 (nI q), X.2) := by
      unfold df_X16_event df_X16_event_0
      rw [cn, nb_b2, if_neg (show ¬ nI 1 = (0 : Int32) by decide), nb_let, if_pos (show nI 0 = (0 : Int32) from rfl), nb_let, nb_let, ea]
      unfold df_X16_event_36
      rw [if_neg (show ¬ nI 0 = (2 : Int32) by decide), er_55 n (by omega) (by omega) (by omega) (by omega), er_123 n (by omega) (by omega)]
      rw [show pI (pI X.1 1 (nI q)) 2 (nI q) = pI (pI X.1 2 (nI q)) 1 (nI q) from (nm_ic (a := 2) (b := 1) (by decide)).symm]
    have u3 : ¬ q < 0 := by omega
    have mc : df_X6_makeCurrent n (nI q) K.2.2 = some (pI (pI K.2.2.1 3 (nI q)) 4 (nI q), K.2.2.2) := by simp (disch := (first | assumption | decide | omega)) only [df_X6_makeCurrent_14, df_X6_makeCurrent_0, df_X6_makeCurrent, u3, eq_self, Nat.reduceEqDiff, Nat.reduceLeDiff, nl_0, nl_3, nl_4, no_1, no_1024, pk_mul, nI_add, nm_ck, nI_clamp, nI_ltI, nI_leI, nI_eq, nb_b2, nb_b1, ↓nb_let, nm_z0, nm_z1, nb_II, nb_IR, nb_RI, nb_RR, nm_IL, nm_IQ, nm_RL, nm_RQ, nm_LI, nm_LR, nm_LL, nm_LQ, nm_QI, nm_QR, nm_QL, nm_QQ, nm_rr, nm_ii, nm_eqm, not_false_eq_true, pk_sub, nm_div, nm_shl, nm_shr, nm_ush, nm_or8, nm_or64, nm_or256, nm_m1, nm_m3, nm_m7, nm_m15, nm_m31, nm_m63, nm_m255, nm_m511, nm_m1023, nm_m2047, nm_m65535, Nat.reduceMod, Nat.reducePow, Nat.reduceAdd, Nat.reduceSub, Nat.reduceMul, nm_bo, nm_bi, nm_rc, nm_ic, nm_ri, nm_rl, nm_rq, nm_ql, nm_qi, nm_li, nm_us, nm_uu, nm_cp, nm_sa31, nm_sa7, nm_m127, nm_m2, nm_nz, nm_nzk, nm_eq32, nm_nzf, if_true, if_false, ↓reduceIte, if_pos, if_neg]
    have C1 : df_X5_come_58 n (nI q) 1 K = df_X5_come_186 n (nI 1) (K.1, (K.2.1, (pI (pI K.2.2.1 3 (nI q)) 4 (nI q), K.2.2.2))) := by
      unfold df_X5_come_58
      rw [if_neg (show ¬ (1 : Int32) = 0 by decide), mc, nb_b1, nb_let]
      rfl
    rw [C1, R0]
    exact ev_1 n hn (rM_cur h (Or.inr ⟨q, hq, rfl⟩) ⟨q, hq, rfl⟩ (Or.inr rfl)) ⟨rfl, rfl, rfl, rfl, rfl, rfl, rfl⟩ rfl
  · rw [if_neg (show ¬ nI t = (1 : Int32) from fun y => c (nm_inI (by omega) (by omega) (show nI t = nI 1 from y)))]
    have cn : df_X16_can n (nI 0) a b X = some (nI 0, X) := by
      simp (disch := (first | assumption | decide | omega)) only [df_X16_can, df_X16_can_0, df_X16_can_48, ea, t2, c, eq_self, Nat.reduceEqDiff, Nat.reduceLeDiff, nl_0, nl_1, nl_2, nl_3, nl_5, nl_7, nl_16, nl_512, no_1, no_1024, pk_mul, nI_add, nm_ck, nI_clamp, nI_ltI, nI_leI, nI_eq, nb_b2, nb_b1, ↓nb_let, nm_z0, nm_z1, nb_II, nb_IR, nb_RI, nb_RR, nm_IL, nm_IQ, nm_RL, nm_RQ, nm_LI, nm_LR, nm_LL, nm_LQ, nm_QI, nm_QR, nm_QL, nm_QQ, nm_rr, nm_ii, nm_eqm, not_false_eq_true, pk_sub, nm_div, nm_shl, nm_shr, nm_ush, nm_or8, nm_or64, nm_or256, nm_m1, nm_m3, nm_m7, nm_m15, nm_m31, nm_m63, nm_m255, nm_m511, nm_m1023, nm_m2047, nm_m65535, Nat.reduceMod, Nat.reducePow, Nat.reduceAdd, Nat.reduceSub, Nat.reduceMul, nm_bo, nm_bi, nm_rc, nm_ic, nm_ri, nm_rl, nm_rq, nm_ql, nm_qi, nm_li, nm_us, nm_uu, nm_cp, nm_sa31, nm_sa7, nm_m127, nm_m2, nm_nz, nm_nzk, nm_eq32, nm_nzf, if_true, if_false, ↓reduceIte, if_pos, if_neg]
    have R0 : df_X16_event n (nI 0) a b X = some (nI 0, X) := by
      unfold df_X16_event df_X16_event_0
      rw [cn, nb_b2, if_pos (show nI 0 = (0 : Int32) from rfl)]
      rfl
    have C1 : df_X5_come_58 n (nI q) 0 K = df_X5_come_186 n (nI 0) K := by
      unfold df_X5_come_58
      rw [if_pos (show (0 : Int32) = 0 from rfl)]
      rfl
    rw [C1, R0]
    exact ev_0 n hn h hs
/-- what is typed -/
theorem nq_ev1 (n : Nat) (hn : 1024 < n) {B : Nat} {K : St × (St × (St × St))} {X : St × St} (h : rM B K.2.2 X) (hs : sD n X) {j : Nat} (hj : j ≤ 8) (a : Int64) : eO n B K X (df_X5_come n (nI 1) a (nI j) K) (df_X16_event n (nI 1) a (nI j) X) := by
  obtain ⟨T, hT, eC, eR, hb⟩ := h.2.2.2.2.2.2.2.2.2.1
  have u1 : T + j < 2 ^ 31 := by omega
  have C0 : ∀ (r : Int32) (D' : St), df_X10_type n a (nI j) K.2.2.2 = some (r, D') → df_X5_come n (nI 1) a (nI j) K = df_X5_come_186 n r (K.1, (K.2.1, (K.2.2.1, D'))) := fun r D' e => by
    unfold df_X5_come df_X5_come_0
    rw [nb_let, if_neg (show ¬ nI 1 = (0 : Int32) by decide), if_pos (show nI 1 = (1 : Int32) from rfl), e, nb_b2, nb_let]
  by_cases c : T + j ≤ 512
  · have c' : ¬ 512 < T + j := by omega
    obtain ⟨ty, tp, b1, by', l1, l2⟩ := ty_L n hn (D := K.2.2.2) (X := X) c eC eR hb h.2.2.2.2.2.1.2.2.2.2.1 a
    have ty1 : df_X10_type n a (nI j) K.2.2.2 = some (nI 1, pI (pR K.2.2.2 7 ty) 0 (nI (T + j))) := by
      unfold df_X10_type df_X10_type_0
      rw [eC, if_pos (show nI T + nI j ≤ (512 : Int32) from (show nI T + nI j ≤ nI 512 by rw [nI_add, nI_leI u1 (by omega)]; exact c)), nb_let]
      exact l1
    have cn : df_X16_can n (nI 1) a (nI j) X = some (nI 1, X) := by
      simp (disch := (first | assumption | decide | omega)) only [df_X16_can, df_X16_can_0, df_X16_can_67, eR, c', eq_self, Nat.reduceEqDiff, Nat.reduceLeDiff, nl_0, nl_1, nl_2, nl_3, nl_5, nl_7, nl_16, nl_512, no_1, no_1024, pk_mul, nI_add, nm_ck, nI_clamp, nI_ltI, nI_leI, nI_eq, nb_b2, nb_b1, ↓nb_let, nm_z0, nm_z1, nb_II, nb_IR, nb_RI, nb_RR, nm_IL, nm_IQ, nm_RL, nm_RQ, nm_LI, nm_LR, nm_LL, nm_LQ, nm_QI, nm_QR, nm_QL, nm_QQ, nm_rr, nm_ii, nm_eqm, not_false_eq_true, pk_sub, nm_div, nm_shl, nm_shr, nm_ush, nm_or8, nm_or64, nm_or256, nm_m1, nm_m3, nm_m7, nm_m15, nm_m31, nm_m63, nm_m255, nm_m511, nm_m1023, nm_m2047, nm_m65535, Nat.reduceMod, Nat.reducePow, Nat.reduceAdd, Nat.reduceSub, Nat.reduceMul, nm_bo, nm_bi, nm_rc, nm_ic, nm_ri, nm_rl, nm_rq, nm_ql, nm_qi, nm_li, nm_us, nm_uu, nm_cp, nm_sa31, nm_sa7, nm_m127, nm_m2, nm_nz, nm_nzk, nm_eq32, nm_nzf, if_true, if_false, ↓reduceIte, if_pos, if_neg]
    have R0 : df_X16_event n (nI 1) a (nI j) X = df_X16_event_149 n (pI (pR X.1 31 tp) 7 (nI (T + j)), X.2) := by
      unfold df_X16_event df_X16_event_0
      rw [cn, nb_b2, if_neg (show ¬ nI 1 = (0 : Int32) by decide), nb_let, if_neg (show ¬ nI 1 = (0 : Int32) by decide)]
      unfold df_X16_event_36
      rw [if_neg (show ¬ nI 1 = (2 : Int32) by decide)]
      unfold df_X16_event_55
      rw [if_neg (show ¬ nI 1 = (3 : Int32) by decide)]
      unfold df_X16_event_70
      rw [nb_let]
      exact l2
    rw [C0 _ _ ty1, R0]
    exact ev_1 n hn (rM_type h (by omega) b1 by') ⟨rfl, rfl, rfl, rfl, rfl, rfl, rfl⟩ rfl
  · have c' : 512 < T + j := by omega
    have ty1 : df_X10_type n a (nI j) K.2.2.2 = some (nI 0, K.2.2.2) := by
      unfold df_X10_type df_X10_type_0
      rw [eC, if_neg (show ¬ nI T + nI j ≤ (512 : Int32) from (show ¬ nI T + nI j ≤ nI 512 from fun z => by rw [nI_add, nI_leI u1 (by omega)] at z; exact c z))]
      rfl
    have cn : df_X16_can n (nI 1) a (nI j) X = some (nI 0, X) := by
      simp (disch := (first | assumption | decide | omega)) only [df_X16_can, df_X16_can_0, df_X16_can_67, eR, c', eq_self, Nat.reduceEqDiff, Nat.reduceLeDiff, nl_0, nl_1, nl_2, nl_3, nl_5, nl_7, nl_16, nl_512, no_1, no_1024, pk_mul, nI_add, nm_ck, nI_clamp, nI_ltI, nI_leI, nI_eq, nb_b2, nb_b1, ↓nb_let, nm_z0, nm_z1, nb_II, nb_IR, nb_RI, nb_RR, nm_IL, nm_IQ, nm_RL, nm_RQ, nm_LI, nm_LR, nm_LL, nm_LQ, nm_QI, nm_QR, nm_QL, nm_QQ, nm_rr, nm_ii, nm_eqm, not_false_eq_true, pk_sub, nm_div, nm_shl, nm_shr, nm_ush, nm_or8, nm_or64, nm_or256, nm_m1, nm_m3, nm_m7, nm_m15, nm_m31, nm_m63, nm_m255, nm_m511, nm_m1023, nm_m2047, nm_m65535, Nat.reduceMod, Nat.reducePow, Nat.reduceAdd, Nat.reduceSub, Nat.reduceMul, nm_bo, nm_bi, nm_rc, nm_ic, nm_ri, nm_rl, nm_rq, nm_ql, nm_qi, nm_li, nm_us, nm_uu, nm_cp, nm_sa31, nm_sa7, nm_m127, nm_m2, nm_nz, nm_nzk, nm_eq32, nm_nzf, if_true, if_false, ↓reduceIte, if_pos, if_neg]
    have R0 : df_X16_event n (nI 1) a (nI j) X = some (nI 0, X) := by
      unfold df_X16_event df_X16_event_0
      rw [cn, nb_b2, if_pos (show nI 0 = (0 : Int32) from rfl)]
      rfl
    rw [C0 _ _ ty1, R0]
    exact ev_0 n hn (K := K) h hs
/-- a signal from outside -/
theorem nq_ev2 (n : Nat) (hn : 1024 < n) {B : Nat} {K : St × (St × (St × St))} {X : St × St} (h : rM B K.2.2 X) (hs : sD n X) {q b : Nat} (hq : q < 16) (b1 : 1 ≤ b) (hb : b < 32) {a : Int64} (ea : a.toInt32 = nI q) : eO n B K X (df_X5_come n (nI 2) a (nI b) K) (df_X16_event n (nI 2) a (nI b) X) := by
  obtain ⟨t, c, w, bb, e, ht, hc, hw', hb', he, t1, t2, a3, a4, a5, a6, a7, a8, a9, a10, a11, _⟩ := h.2.2.1 q hq
  have u1 : q < 2 ^ 31 := by omega
  have u2 : t < 2 ^ 31 := by omega
  have u3 : b < 2 ^ 31 := by omega
  have s1 := sta_C n (M := K.2.2) hq t1
  have em : a.toInt32 &&& 15 = nI q := by
    rw [ea]
    show nI q &&& nI 15 = nI q
    rw [nm_m15 (by omega), Nat.mod_eq_of_lt hq]
  have C0 : df_X5_come n (nI 2) a (nI b) K = if (16 : Int32) ≤ nI b then df_X5_come_126 n (nI b) (nI q) K else (if nI t = (1 : Int32) then df_X5_come_122 n (nI b) (nI q) K else (if nI t = (2 : Int32) then df_X5_come_122 n (nI b) (nI q) K else df_X5_come_126 n (nI b) (nI q) K)) := by
    unfold df_X5_come df_X5_come_0
    rw [nb_let, if_neg (show ¬ nI 2 = (0 : Int32) by decide), if_neg (show ¬ nI 2 = (1 : Int32) by decide), if_pos (show nI 2 = (2 : Int32) from rfl), em, s1, nb_b2, nb_let]
  have C126 : df_X5_come_126 n (nI b) (nI q) K = df_X5_come_186 n (nI 0) K := by
    unfold df_X5_come_126 df_X5_come_127
    rw [if_pos (show (0 : Int32) = 0 from rfl)]
    rfl
  rw [C0]
  by_cases b16 : 16 ≤ b
  · rw [if_pos (show (16 : Int32) ≤ nI b from (show nI 16 ≤ nI b by rw [nI_leI (by omega) u3]; exact b16)), C126]
    have cn : df_X16_can n (nI 2) a (nI b) X = some (nI 0, X) := by
      simp (disch := (first | assumption | decide | omega)) only [df_X16_can, df_X16_can_0, df_X16_can_101, df_X16_can_102, b16, eq_self, Nat.reduceEqDiff, Nat.reduceLeDiff, nl_0, nl_1, nl_2, nl_3, nl_5, nl_7, nl_16, nl_512, no_1, no_1024, pk_mul, nI_add, nm_ck, nI_clamp, nI_ltI, nI_leI, nI_eq, nb_b2, nb_b1, ↓nb_let, nm_z0, nm_z1, nb_II, nb_IR, nb_RI, nb_RR, nm_IL, nm_IQ, nm_RL, nm_RQ, nm_LI, nm_LR, nm_LL, nm_LQ, nm_QI, nm_QR, nm_QL, nm_QQ, nm_rr, nm_ii, nm_eqm, not_false_eq_true, pk_sub, nm_div, nm_shl, nm_shr, nm_ush, nm_or8, nm_or64, nm_or256, nm_m1, nm_m3, nm_m7, nm_m15, nm_m31, nm_m63, nm_m255, nm_m511, nm_m1023, nm_m2047, nm_m65535, Nat.reduceMod, Nat.reducePow, Nat.reduceAdd, Nat.reduceSub, Nat.reduceMul, nm_bo, nm_bi, nm_rc, nm_ic, nm_ri, nm_rl, nm_rq, nm_ql, nm_qi, nm_li, nm_us, nm_uu, nm_cp, nm_sa31, nm_sa7, nm_m127, nm_m2, nm_nz, nm_nzk, nm_eq32, nm_nzf, if_true, if_false, ↓reduceIte, if_pos, if_neg]
    have R0 : df_X16_event n (nI 2) a (nI b) X = some (nI 0, X) := by
      unfold df_X16_event df_X16_event_0
      rw [cn, nb_b2, if_pos (show nI 0 = (0 : Int32) from rfl)]
      rfl
    rw [R0]
    exact ev_0 n hn h hs
  · rw [if_neg (show ¬ (16 : Int32) ≤ nI b from fun z => b16 (by have z : nI 16 ≤ nI b := z; rw [nI_leI (by omega) u3] at z; exact z))]
    by_cases cc : t = 1 ∨ t = 2
    · obtain ⟨c', hc', ec⟩ := pend_or hc b1 (show b < 16 by omega)
      have ec2 : nI (2 * c) ||| ((1 : Int32) <<< (nI b &&& 31)) = nI (2 * c') := by
        show nI (2 * c) ||| (nI 1 <<< (nI b &&& nI 31)) = nI (2 * c')
        rw [nm_m31 (by omega), Nat.mod_eq_of_lt (show b < 32 by omega)]
        exact ec
      have cn : df_X16_can n (nI 2) a (nI b) X = some (nI 1, X) := by
        rcases cc with z | z
        · simp (disch := (first | assumption | decide | omega)) only [df_X16_can, df_X16_can_0, df_X16_can_97, df_X16_can_102, b16, ea, t2, z, eq_self, Nat.reduceEqDiff, Nat.reduceLeDiff, nl_0, nl_1, nl_2, nl_3, nl_5, nl_7, nl_16, nl_512, no_1, no_1024, pk_mul, nI_add, nm_ck, nI_clamp, nI_ltI, nI_leI, nI_eq, nb_b2, nb_b1, ↓nb_let, nm_z0, nm_z1, nb_II, nb_IR, nb_RI, nb_RR, nm_IL, nm_IQ, nm_RL, nm_RQ, nm_LI, nm_LR, nm_LL, nm_LQ, nm_QI, nm_QR, nm_QL, nm_QQ, nm_rr, nm_ii, nm_eqm, not_false_eq_true, pk_sub, nm_div, nm_shl, nm_shr, nm_ush, nm_or8, nm_or64, nm_or256, nm_m1, nm_m3, nm_m7, nm_m15, nm_m31, nm_m63, nm_m255, nm_m511, nm_m1023, nm_m2047, nm_m65535, Nat.reduceMod, Nat.reducePow, Nat.reduceAdd, Nat.reduceSub, Nat.reduceMul, nm_bo, nm_bi, nm_rc, nm_ic, nm_ri, nm_rl, nm_rq, nm_ql, nm_qi, nm_li, nm_us, nm_uu, nm_cp, nm_sa31, nm_sa7, nm_m127, nm_m2, nm_nz, nm_nzk, nm_eq32, nm_nzf, if_true, if_false, ↓reduceIte, if_pos, if_neg]
        · simp (disch := (first | assumption | decide | omega)) only [df_X16_can, df_X16_can_0, df_X16_can_97, df_X16_can_102, b16, ea, t2, z, eq_self, Nat.reduceEqDiff, Nat.reduceLeDiff, nl_0, nl_1, nl_2, nl_3, nl_5, nl_7, nl_16, nl_512, no_1, no_1024, pk_mul, nI_add, nm_ck, nI_clamp, nI_ltI, nI_leI, nI_eq, nb_b2, nb_b1, ↓nb_let, nm_z0, nm_z1, nb_II, nb_IR, nb_RI, nb_RR, nm_IL, nm_IQ, nm_RL, nm_RQ, nm_LI, nm_LR, nm_LL, nm_LQ, nm_QI, nm_QR, nm_QL, nm_QQ, nm_rr, nm_ii, nm_eqm, not_false_eq_true, pk_sub, nm_div, nm_shl, nm_shr, nm_ush, nm_or8, nm_or64, nm_or256, nm_m1, nm_m3, nm_m7, nm_m15, nm_m31, nm_m63, nm_m255, nm_m511, nm_m1023, nm_m2047, nm_m65535, Nat.reduceMod, Nat.reducePow, Nat.reduceAdd, Nat.reduceSub, Nat.reduceMul, nm_bo, nm_bi, nm_rc, nm_ic, nm_ri, nm_rl, nm_rq, nm_ql, nm_qi, nm_li, nm_us, nm_uu, nm_cp, nm_sa31, nm_sa7, nm_m127, nm_m2, nm_nz, nm_nzk, nm_eq32, nm_nzf, if_true, if_false, ↓reduceIte, if_pos, if_neg]
      have R0 : df_X16_event n (nI 2) a (nI b) X = df_X16_event_149 n (pR X.1 4 (upd (sR X.1 4) q (nI (2 * c'))), X.2) := by
        unfold df_X16_event df_X16_event_0
        rw [cn, nb_b2, if_neg (show ¬ nI 1 = (0 : Int32) by decide), nb_let, if_neg (show ¬ nI 2 = (0 : Int32) by decide), ea]
        unfold df_X16_event_36
        rw [if_pos (show nI 2 = (2 : Int32) from rfl), nm_ck hq u1, nm_ck hq u1, nI_clamp u1, a9, ec2, nb_let, er_55 n (by omega) (by omega) (by omega) (by omega), er_123 n (by omega) (by omega)]
      have v1 : q * 7 + 3 < 112 := by omega
      have v2 : q * 7 + 3 < 2 ^ 31 := by omega
      have k1 : nI q * 7 + 3 = nI (q * 7 + 3) := by simp (disch := (first | assumption | decide | omega)) only [eq_self, Nat.reduceEqDiff, Nat.reduceLeDiff, nl_3, nl_7, no_1, no_1024, pk_mul, nI_add, nm_ck, nI_clamp, nI_ltI, nI_leI, nI_eq, nb_b2, nb_b1, ↓nb_let, nm_z0, nm_z1, nb_II, nb_IR, nb_RI, nb_RR, nm_IL, nm_IQ, nm_RL, nm_RQ, nm_LI, nm_LR, nm_LL, nm_LQ, nm_QI, nm_QR, nm_QL, nm_QQ, nm_rr, nm_ii, nm_eqm, not_false_eq_true, pk_sub, nm_div, nm_shl, nm_shr, nm_ush, nm_or8, nm_or64, nm_or256, nm_m1, nm_m3, nm_m7, nm_m15, nm_m31, nm_m63, nm_m255, nm_m511, nm_m1023, nm_m2047, nm_m65535, Nat.reduceMod, Nat.reducePow, Nat.reduceAdd, Nat.reduceSub, Nat.reduceMul, nm_bo, nm_bi, nm_rc, nm_ic, nm_ri, nm_rl, nm_rq, nm_ql, nm_qi, nm_li, nm_us, nm_uu, nm_cp, nm_sa31, nm_sa7, nm_m127, nm_m2, nm_nz, nm_nzk, nm_eq32, nm_nzf, if_true, if_false, ↓reduceIte, if_pos, if_neg]
      have C122 : df_X5_come_122 n (nI b) (nI q) K = df_X5_come_186 n (nI 1) (K.1, (K.2.1, (pR K.2.2.1 6 (upd (sR K.2.2.1 6) (q * 7 + 3) (nI (2 * c'))), K.2.2.2))) := by
        unfold df_X5_come_122 df_X5_come_127
        rw [if_neg (show ¬ (1 : Int32) = 0 by decide), k1, nm_ck v1 v2, nm_ck v1 v2, nI_clamp v2, a8, ec2, nb_let]
        rfl
      have C2 : (if nI t = (1 : Int32) then df_X5_come_122 n (nI b) (nI q) K else (if nI t = (2 : Int32) then df_X5_come_122 n (nI b) (nI q) K else df_X5_come_126 n (nI b) (nI q) K)) = df_X5_come_122 n (nI b) (nI q) K := by
        rcases cc with z | z
        · rw [z, if_pos (show nI 1 = (1 : Int32) from rfl)]
        · rw [z, if_neg (show ¬ nI 2 = (1 : Int32) by decide), if_pos (show nI 2 = (2 : Int32) from rfl)]
      rw [C2, C122, R0]
      exact ev_1 n hn (rM_pend h hq hc') ⟨rfl, rfl, rfl, rfl, rfl, rfl, rfl⟩ rfl
    · have z1 : ¬ t = 1 := fun z => cc (Or.inl z)
      have z2 : ¬ t = 2 := fun z => cc (Or.inr z)
      rw [if_neg (show ¬ nI t = (1 : Int32) from fun y => z1 (nm_inI (by omega) (by omega) (show nI t = nI 1 from y))), if_neg (show ¬ nI t = (2 : Int32) from fun y => z2 (nm_inI (by omega) (by omega) (show nI t = nI 2 from y))), C126]
      have cn : df_X16_can n (nI 2) a (nI b) X = some (nI 0, X) := by
        simp (disch := (first | assumption | decide | omega)) only [df_X16_can, df_X16_can_0, df_X16_can_101, df_X16_can_102, b16, ea, t2, z1, z2, eq_self, Nat.reduceEqDiff, Nat.reduceLeDiff, nl_0, nl_1, nl_2, nl_3, nl_5, nl_7, nl_16, nl_512, no_1, no_1024, pk_mul, nI_add, nm_ck, nI_clamp, nI_ltI, nI_leI, nI_eq, nb_b2, nb_b1, ↓nb_let, nm_z0, nm_z1, nb_II, nb_IR, nb_RI, nb_RR, nm_IL, nm_IQ, nm_RL, nm_RQ, nm_LI, nm_LR, nm_LL, nm_LQ, nm_QI, nm_QR, nm_QL, nm_QQ, nm_rr, nm_ii, nm_eqm, not_false_eq_true, pk_sub, nm_div, nm_shl, nm_shr, nm_ush, nm_or8, nm_or64, nm_or256, nm_m1, nm_m3, nm_m7, nm_m15, nm_m31, nm_m63, nm_m255, nm_m511, nm_m1023, nm_m2047, nm_m65535, Nat.reduceMod, Nat.reducePow, Nat.reduceAdd, Nat.reduceSub, Nat.reduceMul, nm_bo, nm_bi, nm_rc, nm_ic, nm_ri, nm_rl, nm_rq, nm_ql, nm_qi, nm_li, nm_us, nm_uu, nm_cp, nm_sa31, nm_sa7, nm_m127, nm_m2, nm_nz, nm_nzk, nm_eq32, nm_nzf, if_true, if_false, ↓reduceIte, if_pos, if_neg]
      have R0 : df_X16_event n (nI 2) a (nI b) X = some (nI 0, X) := by
        unfold df_X16_event df_X16_event_0
        rw [cn, nb_b2, if_pos (show nI 0 = (0 : Int32) from rfl)]
        rfl
      rw [R0]
      exact ev_0 n hn h hs
/-- the clock goes on -/
theorem nq_ev3 (n : Nat) (hn : 1024 < n) {B : Nat} {K : St × (St × (St × St))} {X : St × St} (h : rM B K.2.2 X) (a : Int64) (b : Int32) : eO n B K X (df_X5_come n (nI 3) a b K) (df_X16_event n (nI 3) a b X) := by
  have C0 : df_X5_come n (nI 3) a b K = df_X5_come_186 n (nI 1) (K.1, (K.2.1, (pL K.2.2.1 0 (sL K.2.2.1 0 + a), K.2.2.2))) := by
    unfold df_X5_come df_X5_come_0
    rw [nb_let, if_neg (show ¬ nI 3 = (0 : Int32) by decide), if_neg (show ¬ nI 3 = (1 : Int32) by decide), if_neg (show ¬ nI 3 = (2 : Int32) by decide), if_pos (show nI 3 = (3 : Int32) from rfl), nb_let]
    rfl
  have cn : df_X16_can n (nI 3) a b X = some (nI 1, X) := by
    unfold df_X16_can df_X16_can_0
    rw [if_neg (show ¬ nI 3 = (0 : Int32) by decide), if_neg (show ¬ nI 3 = (1 : Int32) by decide), if_neg (show ¬ nI 3 = (2 : Int32) by decide), if_pos (show nI 3 = (3 : Int32) from rfl)]
    rfl
  have R0 : df_X16_event n (nI 3) a b X = df_X16_event_149 n (pL X.1 1 (sL X.1 1 + a), X.2) := by
    unfold df_X16_event df_X16_event_0
    rw [cn, nb_b2, if_neg (show ¬ nI 1 = (0 : Int32) by decide), nb_let, if_neg (show ¬ nI 3 = (0 : Int32) by decide)]
    unfold df_X16_event_36
    rw [if_neg (show ¬ nI 3 = (2 : Int32) by decide)]
    unfold df_X16_event_55
    rw [if_pos (show nI 3 = (3 : Int32) from rfl), nb_let]
    unfold df_X16_event_70
    rw [nb_let, er_76 n (by omega) (by omega) (by omega), er_123 n (by omega) (by omega)]
  rw [C0, R0]
  exact ev_1 n hn (rM_clk h a) ⟨rfl, rfl, rfl, rfl, rfl, rfl, rfl⟩ rfl
/-- a random word comes -/
theorem nq_ev4 (n : Nat) (hn : 1024 < n) {B : Nat} {K : St × (St × (St × St))} {X : St × St} (h : rM B K.2.2 X) (hs : sD n X) (a : Int64) (b : Int32) : eO n B K X (df_X5_come n (nI 4) a b K) (df_X16_event n (nI 4) a b X) := by
  obtain ⟨k, hk, e1, e2, e3⟩ := h.2.2.2.2.2.1.1
  have u1 : k < 2 ^ 31 := by omega
  have C0 : ∀ (r : Int32) (M' : St × St), df_X6_addRandom n a.toInt32 K.2.2 = some (r, M') → df_X5_come n (nI 4) a b K = df_X5_come_186 n r (K.1, (K.2.1, M')) := fun r M' e => by
    unfold df_X5_come df_X5_come_0
    rw [nb_let, if_neg (show ¬ nI 4 = (0 : Int32) by decide), if_neg (show ¬ nI 4 = (1 : Int32) by decide), if_neg (show ¬ nI 4 = (2 : Int32) by decide), if_neg (show ¬ nI 4 = (3 : Int32) by decide), e, nb_b2, nb_let]
  by_cases c : k < 16
  · have c' : ¬ 16 ≤ k := by omega
    have ad : df_X6_addRandom n a.toInt32 K.2.2 = some (nI 1, (pI (pR K.2.2.1 7 (upd (sR K.2.2.1 7) k a.toInt32)) 1 (nI (k + 1)), K.2.2.2)) := by
      generalize a.toInt32 = v
      simp (disch := (first | assumption | decide | omega)) only [df_X6_addRandom_0, df_X6_addRandom, e1, c, eq_self, Nat.reduceEqDiff, Nat.reduceLeDiff, nl_0, nl_1, nl_7, nl_16, no_1, no_1024, pk_mul, nI_add, nm_ck, nI_clamp, nI_ltI, nI_leI, nI_eq, nb_b2, nb_b1, ↓nb_let, nm_z0, nm_z1, nb_II, nb_IR, nb_RI, nb_RR, nm_IL, nm_IQ, nm_RL, nm_RQ, nm_LI, nm_LR, nm_LL, nm_LQ, nm_QI, nm_QR, nm_QL, nm_QQ, nm_rr, nm_ii, nm_eqm, not_false_eq_true, pk_sub, nm_div, nm_shl, nm_shr, nm_ush, nm_or8, nm_or64, nm_or256, nm_m1, nm_m3, nm_m7, nm_m15, nm_m31, nm_m63, nm_m255, nm_m511, nm_m1023, nm_m2047, nm_m65535, Nat.reduceMod, Nat.reducePow, Nat.reduceAdd, Nat.reduceSub, Nat.reduceMul, nm_bo, nm_bi, nm_rc, nm_ic, nm_ri, nm_rl, nm_rq, nm_ql, nm_qi, nm_li, nm_us, nm_uu, nm_cp, nm_sa31, nm_sa7, nm_m127, nm_m2, nm_nz, nm_nzk, nm_eq32, nm_nzf, if_true, if_false, ↓reduceIte, if_pos, if_neg]
    have cn : df_X16_can n (nI 4) a b X = some (nI 1, X) := by
      simp (disch := (first | assumption | decide | omega)) only [df_X16_can, df_X16_can_0, df_X16_can_119, e2, c', eq_self, Nat.reduceEqDiff, Nat.reduceLeDiff, nl_0, nl_1, nl_2, nl_3, nl_5, nl_7, nl_16, nl_512, no_1, no_1024, pk_mul, nI_add, nm_ck, nI_clamp, nI_ltI, nI_leI, nI_eq, nb_b2, nb_b1, ↓nb_let, nm_z0, nm_z1, nb_II, nb_IR, nb_RI, nb_RR, nm_IL, nm_IQ, nm_RL, nm_RQ, nm_LI, nm_LR, nm_LL, nm_LQ, nm_QI, nm_QR, nm_QL, nm_QQ, nm_rr, nm_ii, nm_eqm, not_false_eq_true, pk_sub, nm_div, nm_shl, nm_shr, nm_ush, nm_or8, nm_or64, nm_or256, nm_m1, nm_m3, nm_m7, nm_m15, nm_m31, nm_m63, nm_m255, nm_m511, nm_m1023, nm_m2047, nm_m65535, Nat.reduceMod, Nat.reducePow, Nat.reduceAdd, Nat.reduceSub, Nat.reduceMul, nm_bo, nm_bi, nm_rc, nm_ic, nm_ri, nm_rl, nm_rq, nm_ql, nm_qi, nm_li, nm_us, nm_uu, nm_cp, nm_sa31, nm_sa7, nm_m127, nm_m2, nm_nz, nm_nzk, nm_eq32, nm_nzf, if_true, if_false, ↓reduceIte, if_pos, if_neg]
    have R0 : df_X16_event n (nI 4) a b X = df_X16_event_149 n (pI (pR X.1 0 (upd (sR X.1 0) k a.toInt32)) 5 (nI (k + 1)), X.2) := by
      unfold df_X16_event df_X16_event_0
      rw [cn, nb_b2, if_neg (show ¬ nI 1 = (0 : Int32) by decide), nb_let, if_neg (show ¬ nI 4 = (0 : Int32) by decide)]
      unfold df_X16_event_36
      rw [if_neg (show ¬ nI 4 = (2 : Int32) by decide), er_55 n (by omega) (by omega) (by omega) (by omega)]
      unfold df_X16_event_123
      rw [if_pos (show nI 4 = (4 : Int32) from rfl), e2, nm_ck c u1, nI_clamp u1, nb_let, nb_let]
      rw [show ∀ z : Nat → Int32, sI (pR X.1 0 z, X.2).1 5 = nI k from fun _ => e2]
      rw [show nI k + 1 = nI (k + 1) from nI_add ..]
    rw [C0 _ _ ad, R0]
    exact ev_1 n hn (rM_word h c e2 a.toInt32) ⟨rfl, rfl, rfl, rfl, rfl, rfl, rfl⟩ rfl
  · have c' : 16 ≤ k := by omega
    have ad : df_X6_addRandom n a.toInt32 K.2.2 = some (nI 0, K.2.2) := by
      generalize a.toInt32 = v
      simp (disch := (first | assumption | decide | omega)) only [df_X6_addRandom_0, df_X6_addRandom, e1, c, eq_self, Nat.reduceEqDiff, Nat.reduceLeDiff, nl_0, nl_1, nl_7, nl_16, no_1, no_1024, pk_mul, nI_add, nm_ck, nI_clamp, nI_ltI, nI_leI, nI_eq, nb_b2, nb_b1, ↓nb_let, nm_z0, nm_z1, nb_II, nb_IR, nb_RI, nb_RR, nm_IL, nm_IQ, nm_RL, nm_RQ, nm_LI, nm_LR, nm_LL, nm_LQ, nm_QI, nm_QR, nm_QL, nm_QQ, nm_rr, nm_ii, nm_eqm, not_false_eq_true, pk_sub, nm_div, nm_shl, nm_shr, nm_ush, nm_or8, nm_or64, nm_or256, nm_m1, nm_m3, nm_m7, nm_m15, nm_m31, nm_m63, nm_m255, nm_m511, nm_m1023, nm_m2047, nm_m65535, Nat.reduceMod, Nat.reducePow, Nat.reduceAdd, Nat.reduceSub, Nat.reduceMul, nm_bo, nm_bi, nm_rc, nm_ic, nm_ri, nm_rl, nm_rq, nm_ql, nm_qi, nm_li, nm_us, nm_uu, nm_cp, nm_sa31, nm_sa7, nm_m127, nm_m2, nm_nz, nm_nzk, nm_eq32, nm_nzf, if_true, if_false, ↓reduceIte, if_pos, if_neg]
    have cn : df_X16_can n (nI 4) a b X = some (nI 0, X) := by
      simp (disch := (first | assumption | decide | omega)) only [df_X16_can, df_X16_can_0, df_X16_can_119, e2, c', eq_self, Nat.reduceEqDiff, Nat.reduceLeDiff, nl_0, nl_1, nl_2, nl_3, nl_5, nl_7, nl_16, nl_512, no_1, no_1024, pk_mul, nI_add, nm_ck, nI_clamp, nI_ltI, nI_leI, nI_eq, nb_b2, nb_b1, ↓nb_let, nm_z0, nm_z1, nb_II, nb_IR, nb_RI, nb_RR, nm_IL, nm_IQ, nm_RL, nm_RQ, nm_LI, nm_LR, nm_LL, nm_LQ, nm_QI, nm_QR, nm_QL, nm_QQ, nm_rr, nm_ii, nm_eqm, not_false_eq_true, pk_sub, nm_div, nm_shl, nm_shr, nm_ush, nm_or8, nm_or64, nm_or256, nm_m1, nm_m3, nm_m7, nm_m15, nm_m31, nm_m63, nm_m255, nm_m511, nm_m1023, nm_m2047, nm_m65535, Nat.reduceMod, Nat.reducePow, Nat.reduceAdd, Nat.reduceSub, Nat.reduceMul, nm_bo, nm_bi, nm_rc, nm_ic, nm_ri, nm_rl, nm_rq, nm_ql, nm_qi, nm_li, nm_us, nm_uu, nm_cp, nm_sa31, nm_sa7, nm_m127, nm_m2, nm_nz, nm_nzk, nm_eq32, nm_nzf, if_true, if_false, ↓reduceIte, if_pos, if_neg]
    have R0 : df_X16_event n (nI 4) a b X = some (nI 0, X) := by
      unfold df_X16_event df_X16_event_0
      rw [cn, nb_b2, if_pos (show nI 0 = (0 : Int32) from rfl)]
      rfl
    rw [C0 _ _ ad, R0]
    exact ev_0 n hn (K := K) h hs
/-- an event that may come: which, and of what -/
def evV (k : Nat) (a : Int64) (b : Int32) : Prop := (k = 0 ∧ ∃ q : Nat, q < 16 ∧ a.toInt32 = nI q) ∨ (k = 1 ∧ ∃ j : Nat, j ≤ 8 ∧ b = nI j) ∨ (k = 2 ∧ ∃ q j : Nat, q < 16 ∧ 1 ≤ j ∧ j < 32 ∧ a.toInt32 = nI q ∧ b = nI j) ∨ (k = 3 ∧ 0 ≤ a.toInt ∧ a.toInt ≤ 1099511627776) ∨ k = 4
/-- an event, in both -/
theorem nq_event (n : Nat) (hn : 1024 < n) {B : Nat} {K : St × (St × (St × St))} {X : St × St} (h : rM B K.2.2 X) (hs : sD n X) {k : Nat} {a : Int64} {b : Int32} (hv : evV k a b) : eO n B K X (df_X5_come n (nI k) a b K) (df_X16_event n (nI k) a b X) := by
  rcases hv with ⟨e, q, hq, ea⟩ | ⟨e, j, hj, eb⟩ | ⟨e, q, j, hq, j1, j2, ea, eb⟩ | ⟨e, _, _⟩ | e
  · subst e
    exact nq_ev0 n hn h hs hq ea b
  · subst e eb
    exact nq_ev1 n hn h hs hj a
  · subst e eb
    exact nq_ev2 n hn h hs hq j1 j2 ea
  · subst e
    exact nq_ev3 n hn h a b
  · subst e
    exact nq_ev4 n hn h hs a b
