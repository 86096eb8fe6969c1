theorem b8_w (w : Int32) : b8 (vp_nar .byte w.toInt8.toInt32) (w &&& nI 255) := by
  obtain ⟨A, hA, rfl⟩ := nI_ex w
  rw [nm_m255 hA]
  refine ⟨A % 256, by omega, rfl, ?_⟩
  have e : (nI A).toInt8 = (nI (A % 256)).toInt8 := by
    show Int32.toInt8 (Int32.ofNat A) = Int32.toInt8 (Int32.ofNat (A % 256))
    rw [Int32.toInt8_ofNat', Int32.toInt8_ofNat']
    apply Int8.toBitVec_inj.mp
    show BitVec.ofNat 8 A = BitVec.ofNat 8 (A % 256)
    apply BitVec.eq_of_toNat_eq
    rw [BitVec.toNat_ofNat, BitVec.toNat_ofNat]
    omega
  rw [e]
/-- settling where all has settled changes nothing -/
theorem nk_settleI (n : Nat) (hn : 1024 < n) {B : Nat} {K : St × (St × (St × St))} {X : St × St} (h : rM B K.2.2 X) (hs : sD n X) : df_X5_settle n K = some K := by
  have hst := rM_st h
  have m4 := h.2.2.2.1
  have cl := cW_le (sR X.1 1)
  obtain ⟨M', X', f1, f2, f3, f4, f5, f6⟩ := nk_chooseB n hn h
  have ch : df_X6_chooseCurrent n K.2.2 = some K.2.2 := by
    rcases f6 with ⟨z1, _⟩ | ⟨z1, v, l, z2, z3, z4, z5⟩
    · rw [z1] at f1; exact f1
    · rcases hs.2 with ⟨y1, y2⟩ | ⟨a, ha, y1, y2⟩
      · have := f3.2.2.2.2.1.2.1
        have ev : sI X'.1 1 = v := by rw [z2]; rfl
        rw [ev] at this
        rcases this with y | ⟨a, ha, y⟩
        · obtain ⟨g1, g2, g3, _⟩ := h.2.2.2.2.1
          have el := (z4 y).2
          have e3 : (pI (pI K.2.2.1 3 v) 4 l, K.2.2.2) = K.2.2 := by
            rw [show v = sI K.2.2.1 3 from y.trans (g1.trans y1).symm, nm_i0, show l = sI K.2.2.1 4 from el.trans g3.symm, nm_i0]
          rw [z3, e3] at f1
          exact f1
        · exact absurd (z5 a ha y) (y2 a ha)
      · exfalso
        rcases z1 with z | ⟨a', ha', z6, z7⟩
        · rw [y1] at z; exact nk_ne (by omega) z
        · have : a = a' := nm_inI (by omega) (by omega) (y1.symm.trans z6)
          rw [← this] at z7
          exact z7 y2
  have e80 : df_X5_settle_80 n K = some K := by
    unfold df_X5_settle_80
    rw [ch, nb_b1, nb_let]
  by_cases x0 : cW (sR X.1 1) ≤ 0
  · obtain ⟨n1, rfl⟩ : ∃ n1 : Nat, n = n1 + 1 := ⟨n - 1, by omega⟩
    generalize cW (sR X.1 1) = x at m4 cl x0
    have u1 : x < 2 ^ 31 := by omega
    refine Eq.trans (b := df_X5_settle_2 (n1 + 1) (n1 + 1) (nI 0) K) rfl ?_
    rw [show df_X5_settle_2 (n1 + 1) (n1 + 1) = dF_X5_settle_2 (n1 + 1) (df_X5_settle_2 (n1 + 1) n1) from rfl]
    generalize df_X5_settle_2 (n1 + 1) n1 = G
    simp (disch := (first | assumption | decide | omega)) only [dF_X5_settle_2, m4, x0, e80, eq_self, Nat.reduceEqDiff, Nat.reduceLeDiff, nl_0, nl_2, nl_16, no_1, no_1024, pk_mul, nI_add, nm_ck, nI_clamp, nI_ltI, nI_leI, nI_eq, nb_b2, nb_b1, ↓nb_let, nm_z0, nm_z1, nb_II, nb_IR, nb_RI, nb_RR, nm_IL, nm_IQ, nm_RL, nm_RQ, nm_LI, nm_LR, nm_LL, nm_LQ, nm_QI, nm_QR, nm_QL, nm_QQ, nm_rr, nm_ii, nm_eqm, not_false_eq_true, pk_sub, nm_div, nm_shl, nm_shr, nm_ush, nm_or8, nm_or64, nm_or256, nm_m1, nm_m3, nm_m7, nm_m15, nm_m31, nm_m63, nm_m255, nm_m511, nm_m1023, nm_m2047, nm_m65535, Nat.reduceMod, Nat.reducePow, Nat.reduceAdd, Nat.reduceSub, Nat.reduceMul, nm_bo, nm_bi, nm_rc, nm_ic, nm_ri, nm_rl, nm_rq, nm_ql, nm_qi, nm_li, nm_us, nm_uu, nm_cp, nm_sa31, nm_sa7, nm_m127, nm_m2, nm_nz, nm_nzk, nm_eq32, nm_nzf, if_true, if_false, ↓reduceIte, if_pos, if_neg]
  · obtain ⟨m, hm⟩ := nm_lq (fun m k => df_X5_settle_2 n m (nI k) K) 16 n (by omega) (fun q m hq => by
      obtain ⟨t, ht, t1, t2⟩ := hst q hq
      have u1 : q * 7 < 112 := by omega
      have u2 : q < 2 ^ 31 := by omega
      have u3 : t < 2 ^ 31 := by omega
      have u4 : q * 7 < 2 ^ 31 := by omega
      have q16 : ¬ 16 ≤ q := by omega
      rw [show df_X5_settle_2 n (m + 1) = dF_X5_settle_2 n (df_X5_settle_2 n m) from rfl]
      generalize df_X5_settle_2 n m = G
      by_cases k2 : t = 2
      · rw [k2] at t1 t2
        obtain ⟨y1, y2⟩ := hs.1 q hq t2
        obtain ⟨tt, c, w, b, e, htt, hc, hw', hb, he, a1, a2, a3, a4, a5, a6, a7, a8, a9, a10, a11, _⟩ := h.2.2.1 q hq
        obtain ⟨p1, p2, p3⟩ := nk_takeable n hn hq hc hw' a8 a10 a9 a11
        have f0 : tk (2 * c) w = 0 := by
          rw [y2] at p2
          injection p2 with p2
          injection p2 with p2 _
          exact (nm_inI (by omega) (by omega) p2).symm
        rw [f0] at p1
        obtain ⟨bb, b1, b2⟩ := nk_mustWait n hn h hq t2
        rw [y1] at b2
        cases bb with
        | false => cases b2
        | true =>
          rw [bI_t] at b1
          rw [st_C n hq x0 cl m4 t1 (show 0 < 16 by omega) p1, if_pos rfl, b1, nb_b2, if_neg (show ¬ (nI 1 : Int32) = 0 by decide)]
          simp (disch := (first | assumption | decide | omega)) only [df_X5_settle_74, eq_self, Nat.reduceEqDiff, Nat.reduceLeDiff, nl_1, no_1, no_1024, pk_mul, nI_add, nm_ck, nI_clamp, nI_ltI, nI_leI, nI_eq, nb_b2, nb_b1, ↓nb_let, nm_z0, nm_z1, nb_II, nb_IR, nb_RI, nb_RR, nm_IL, nm_IQ, nm_RL, nm_RQ, nm_LI, nm_LR, nm_LL, nm_LQ, nm_QI, nm_QR, nm_QL, nm_QQ, nm_rr, nm_ii, nm_eqm, not_false_eq_true, pk_sub, nm_div, nm_shl, nm_shr, nm_ush, nm_or8, nm_or64, nm_or256, nm_m1, nm_m3, nm_m7, nm_m15, nm_m31, nm_m63, nm_m255, nm_m511, nm_m1023, nm_m2047, nm_m65535, Nat.reduceMod, Nat.reducePow, Nat.reduceAdd, Nat.reduceSub, Nat.reduceMul, nm_bo, nm_bi, nm_rc, nm_ic, nm_ri, nm_rl, nm_rq, nm_ql, nm_qi, nm_li, nm_us, nm_uu, nm_cp, nm_sa31, nm_sa7, nm_m127, nm_m2, nm_nz, nm_nzk, nm_eq32, nm_nzf, if_true, if_false, ↓reduceIte, if_pos, if_neg]
      · generalize cW (sR X.1 1) = x at m4 cl x0
        have u5 : x < 2 ^ 31 := by omega
        simp (disch := (first | assumption | decide | omega)) only [dF_X5_settle_2, df_X5_settle_74, df_X6_status_0, df_X6_status, q16, m4, x0, Nat.add_zero, t1, k2, eq_self, Nat.reduceEqDiff, Nat.reduceLeDiff, nl_0, nl_1, nl_2, nl_6, nl_7, nl_16, nl_112, no_1, no_1024, pk_mul, nI_add, nm_ck, nI_clamp, nI_ltI, nI_leI, nI_eq, nb_b2, nb_b1, ↓nb_let, nm_z0, nm_z1, nb_II, nb_IR, nb_RI, nb_RR, nm_IL, nm_IQ, nm_RL, nm_RQ, nm_LI, nm_LR, nm_LL, nm_LQ, nm_QI, nm_QR, nm_QL, nm_QQ, nm_rr, nm_ii, nm_eqm, not_false_eq_true, pk_sub, nm_div, nm_shl, nm_shr, nm_ush, nm_or8, nm_or64, nm_or256, nm_m1, nm_m3, nm_m7, nm_m15, nm_m31, nm_m63, nm_m255, nm_m511, nm_m1023, nm_m2047, nm_m65535, Nat.reduceMod, Nat.reducePow, Nat.reduceAdd, Nat.reduceSub, Nat.reduceMul, nm_bo, nm_bi, nm_rc, nm_ic, nm_ri, nm_rl, nm_rq, nm_ql, nm_qi, nm_li, nm_us, nm_uu, nm_cp, nm_sa31, nm_sa7, nm_m127, nm_m2, nm_nz, nm_nzk, nm_eq32, nm_nzf, if_true, if_false, ↓reduceIte, if_pos, if_neg])
    refine Eq.trans (b := df_X5_settle_2 n n (nI 0) K) rfl (Eq.trans hm ?_)
    show df_X5_settle_2 n (m + 1) (nI 16) K = _
    rw [show df_X5_settle_2 n (m + 1) = dF_X5_settle_2 n (df_X5_settle_2 n m) from rfl]
    generalize df_X5_settle_2 n m = G
    simp (disch := (first | assumption | decide | omega)) only [dF_X5_settle_2, e80, eq_self, Nat.reduceEqDiff, Nat.reduceLeDiff, nl_0, nl_2, nl_16, no_1, no_1024, pk_mul, nI_add, nm_ck, nI_clamp, nI_ltI, nI_leI, nI_eq, nb_b2, nb_b1, ↓nb_let, nm_z0, nm_z1, nb_II, nb_IR, nb_RI, nb_RR, nm_IL, nm_IQ, nm_RL, nm_RQ, nm_LI, nm_LR, nm_LL, nm_LQ, nm_QI, nm_QR, nm_QL, nm_QQ, nm_rr, nm_ii, nm_eqm, not_false_eq_true, pk_sub, nm_div, nm_shl, nm_shr, nm_ush, nm_or8, nm_or64, nm_or256, nm_m1, nm_m3, nm_m7, nm_m15, nm_m31, nm_m63, nm_m255, nm_m511, nm_m1023, nm_m2047, nm_m65535, Nat.reduceMod, Nat.reducePow, Nat.reduceAdd, Nat.reduceSub, Nat.reduceMul, nm_bo, nm_bi, nm_rc, nm_ic, nm_ri, nm_rl, nm_rq, nm_ql, nm_qi, nm_li, nm_us, nm_uu, nm_cp, nm_sa31, nm_sa7, nm_m127, nm_m2, nm_nz, nm_nzk, nm_eq32, nm_nzf, if_true, if_false, ↓reduceIte, if_pos, if_neg]
/-- what is typed comes -/
theorem rM_type {B : Nat} {M X : St × St} (h : rM B M X) {T : Nat} (hT : T ≤ 512) {ty tp : Nat → Int32} (hb : ∀ i : Nat, i < T → b8 (ty i) (tp i)) (hy : ∀ i : Nat, i < 512 → fb8 (ty i)) : rM B (M.1, pI (pR M.2 7 ty) 0 (nI T)) (pI (pR X.1 31 tp) 7 (nI T), X.2) := by
  obtain ⟨m1, m2, m3, m4, m5, m6, ⟨t1, t2, t3, t4, t5⟩⟩ := h
  exact ⟨m1, m2, m3, m4, m5, ⟨m6.1, m6.2.1, m6.2.2.1, m6.2.2.2.1, hy, m6.2.2.2.2.2⟩, ⟨t1, t2, t3, ⟨T, hT, rfl, rfl, hb⟩, t5⟩⟩
theorem rM_clk {B : Nat} {M X : St × St} (h : rM B M X) (a : Int64) : rM B (pL M.1 0 (sL M.1 0 + a), M.2) (pL X.1 1 (sL X.1 1 + a), X.2) := by
  obtain ⟨m1, m2, m3, m4, ⟨g1, g2, g3, g4, g5, g6, g7, g8, g9, g10, g11⟩, m6, m7⟩ := h
  exact ⟨m1, m2, m3, m4, ⟨g1, g2, g3, g4, g5, g6, g7, g8, g9, congrArg (· + a) g10, g11⟩, m6, m7⟩
theorem rM_word {B : Nat} {M X : St × St} (h : rM B M X) {k : Nat} (hk : k < 16) (e : sI X.1 5 = nI k) (v : Int32) : rM B (pI (pR M.1 7 (upd (sR M.1 7) k v)) 1 (nI (k + 1)), M.2) (pI (pR X.1 0 (upd (sR X.1 0) k v)) 5 (nI (k + 1)), X.2) := by
  obtain ⟨m1, m2, m3, m4, m5, ⟨⟨k', y1, y2, y3, y4⟩, my⟩, m7⟩ := h
  have : k' = k := nm_inI (by omega) (by omega) (y3.symm.trans e)
  subst this
  refine ⟨m1, m2, m3, m4, m5, ⟨⟨k' + 1, by omega, rfl, rfl, fun i hi => ?_⟩, my⟩, m7⟩
  show upd (sR M.1 7) k' v i = upd (sR X.1 0) k' v i
  by_cases c : i = k'
  · rw [c, nm_us, nm_us]
  · rw [nm_un c, nm_un c]
    exact y4 i (by omega)
/-- the loop that types, in both -/
theorem ty_L (n : Nat) (hn : 1024 < n) {D : St} {X : St × St} {T j : Nat} (hj : T + j ≤ 512) (eC : sI D 0 = nI T) (eR : sI X.1 7 = nI T) (hb : ∀ i : Nat, i < T → b8 (sR D 7 i) (sR X.1 31 i)) (hy : ∀ i : Nat, i < 512 → fb8 (sR D 7 i)) (a : Int64) : ∃ ty tp : Nat → Int32, (∀ i : Nat, i < T + j → b8 (ty i) (tp i)) ∧ (∀ i : Nat, i < 512 → fb8 (ty i)) ∧ df_X10_type_19 n n a (nI j - nI 1) D = some (nI 1, pI (pR D 7 ty) 0 (nI (T + j))) ∧ df_X16_event_76 n n (nI 1) a (nI j - nI 1) X = df_X16_event_149 n (pI (pR X.1 31 tp) 7 (nI (T + j)), X.2) := by
  have i1 : D = pI (pR D 7 (sR D 7)) 0 (nI (T + 0)) := by
    rw [nm_r0, Nat.add_zero, ← eC, nm_i0]
  have i2 : X = (pI (pR X.1 31 (sR X.1 31)) 7 (nI (T + 0)), X.2) := by
    rw [nm_r0, Nat.add_zero, ← eR, nm_i0]
  obtain ⟨m, s, t, ⟨ty, tp, e1, e2, e3, e4⟩, r1, r2⟩ := nm_l2 (S := St) (T := St × St) (fun g c s => df_X10_type_19 n g a (nI (j - c) - nI 1) s) (fun g c t => df_X16_event_76 n g (nI 1) a (nI (j - c) - nI 1) t) (fun c s t => ∃ ty tp : Nat → Int32, s = pI (pR D 7 ty) 0 (nI (T + c)) ∧ t = (pI (pR X.1 31 tp) 7 (nI (T + c)), X.2) ∧ (∀ i : Nat, i < T + c → b8 (ty i) (tp i)) ∧ ∀ i : Nat, i < 512 → fb8 (ty i)) j n (by omega) (fun c g s t hc ⟨ty, tp, e1, e2, e3, e4⟩ => by
    subst e1 e2
    have k1 : nI (j - c) - nI 1 = nI (j - (c + 1)) := by
      rw [pk_sub (by omega), show j - c - 1 = j - (c + 1) by omega]
    have k3 : nI (j - (c + 1)) + Int32.ofInt (-1) = nI (j - (c + 1)) - nI 1 := by
      rw [Int32.sub_eq_add_neg]
      rfl
    have k4 : ¬ j - (c + 1) < 0 := by omega
    have u1 : j - (c + 1) < 2 ^ 31 := by omega
    have u2 : T + c < 512 := by omega
    have u3 : T + c < 2 ^ 31 := by omega
    have u4 : T + c + 1 = T + (c + 1) := by omega
    have bw := b8_w ((a >>> (((8 : Int32) * nI (j - (c + 1))).toInt64 &&& 63)).toInt32)
    refine ⟨_, _, ⟨upd ty (T + c) (vp_nar .byte (((a >>> (((8 : Int32) * nI (j - (c + 1))).toInt64 &&& 63)).toInt32).toInt8.toInt32)), upd tp (T + c) ((a >>> (((8 : Int32) * nI (j - (c + 1))).toInt64 &&& 63)).toInt32 &&& nI 255), rfl, rfl, fun i hi => ?_, fun i hi => fb_u (b8_fit bw) (e4 i hi)⟩, ?_, ?_⟩
    · by_cases d : i = T + c
      · rw [d, nm_us, nm_us]; exact bw
      · rw [nm_un d, nm_un d]; exact e3 i (by omega)
    · rw [k1, show df_X10_type_19 n (g + 1) = dF_X10_type_19 n (df_X10_type_19 n g) from rfl]
      generalize df_X10_type_19 n g = G
      clear bw e3 e4
      unfold dF_X10_type_19
      rw [if_neg (show ¬ nI (j - (c + 1)) < (0 : Int32) from fun z => by have z : nI (j - (c + 1)) < nI 0 := z; rw [nI_ltI u1 (by omega)] at z; omega)]
      rw [show sI (pI (pR D 7 ty) 0 (nI (T + c))) 0 = nI (T + c) from rfl, nm_ck u2 u3, nI_clamp u3, nb_let, nb_let, k3, nb_let]
      rw [show ∀ z : Nat → Int32, sI (pR (pI (pR D 7 ty) 0 (nI (T + c))) 7 z) 0 + 1 = nI (T + (c + 1)) from fun _ => nI_add .., show ∀ z : Nat → Int32, pI (pR (pI (pR D 7 ty) 0 (nI (T + c))) 7 z) 0 (nI (T + (c + 1))) = pI (pR D 7 z) 0 (nI (T + (c + 1))) from fun z => by rw [nm_ri, nm_ii, nm_rr]]
      rfl
    · rw [k1, show df_X16_event_76 n (g + 1) = dF_X16_event_76 n (df_X16_event_76 n g) from rfl]
      generalize df_X16_event_76 n g = G
      clear bw e3 e4
      unfold dF_X16_event_76
      rw [if_neg (show ¬ nI (j - (c + 1)) < (0 : Int32) from fun z => by have z : nI (j - (c + 1)) < nI 0 := z; rw [nI_ltI u1 (by omega)] at z; omega), if_pos (show nI 1 = (1 : Int32) from rfl)]
      rw [show sI (pI (pR X.1 31 tp) 7 (nI (T + c)), X.2).1 7 = nI (T + c) from rfl, nm_ck u2 u3, nI_clamp u3, nb_let, nb_let, k3, nb_let]
      rw [show ∀ z : Nat → Int32, sI (pR (pI (pR X.1 31 tp) 7 (nI (T + c)), X.2).1 31 z, (pI (pR X.1 31 tp) 7 (nI (T + c)), X.2).2).1 7 + 1 = nI (T + (c + 1)) from fun _ => nI_add .., show ∀ z : Nat → Int32, pI (pR (pI (pR X.1 31 tp) 7 (nI (T + c)), X.2).1 31 z, (pI (pR X.1 31 tp) 7 (nI (T + c)), X.2).2).1 7 (nI (T + (c + 1))) = pI (pR X.1 31 z) 7 (nI (T + (c + 1))) from fun z => by show pI (pR (pI (pR X.1 31 tp) 7 (nI (T + c))) 31 z) 7 _ = _; rw [nm_ri, nm_ii, nm_rr]]
      rfl) D X ⟨_, _, i1, i2, fun i hi => hb i (by omega), hy⟩
  subst e1 e2
  refine ⟨ty, tp, e3, e4, ?_, ?_⟩
  · refine Eq.trans r1 ?_
    show df_X10_type_19 n (m + 1) a (nI (j - j) - nI 1) _ = _
    rw [Nat.sub_self, show df_X10_type_19 n (m + 1) = dF_X10_type_19 n (df_X10_type_19 n m) from rfl]
    generalize df_X10_type_19 n m = G
    unfold dF_X10_type_19
    rw [if_pos (show nI 0 - nI 1 < (0 : Int32) by decide)]
    rfl
  · refine Eq.trans r2 ?_
    show df_X16_event_76 n (m + 1) (nI 1) a (nI (j - j) - nI 1) _ = _
    rw [Nat.sub_self, show df_X16_event_76 n (m + 1) = dF_X16_event_76 n (df_X16_event_76 n m) from rfl]
    generalize df_X16_event_76 n m = G
    unfold dF_X16_event_76
    rw [if_pos (show nI 0 - nI 1 < (0 : Int32) by decide)]
    unfold df_X16_event_123
    rw [if_neg (show ¬ nI 1 = (4 : Int32) by decide)]
