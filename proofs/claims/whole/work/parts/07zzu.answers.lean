/-- a register of a running one changes -/
theorem rM_reg {B : Nat} {M X : St × St} (h : rM B M X) {p r : Nat} (hp : p < 16) (hr : r < 32) (h1 : sR X.1 1 p = nI 1) (v : Int32) : rM B (pR M.1 3 (upd (sR M.1 3) (p * 33 + r) v), M.2) (pR X.1 9 (upd (sR X.1 9) (32 * p + r) v), X.2) := by
  obtain ⟨m1, m2, m3, m4, m5, m6, m7⟩ := h
  refine ⟨m1, m2, rP_all m3 (p := p) ?_ (fun q hq => ⟨⟨fun _ _ => rfl, fun i hi => nm_un (by omega), fun _ _ => rfl, fun _ _ => rfl, rfl⟩, ⟨⟨rfl, rfl, rfl, rfl, rfl, rfl, rfl, rfl⟩, fun i hi => nm_un (by omega), rfl, fun _ _ => rfl, rfl, fun _ _ => rfl, fun _ _ => rfl, fun _ _ => Iff.rfl, rfl⟩⟩), m4, m5, m6, m7⟩
  obtain ⟨t, c', w, b', e, ht, hc', hw, hb, he, a1, a2, a3, a4, a5, a6, a7, a8, a9, a10, a11, a12, a13, a14, a15, a16, a17, a18, a19, a20, a21⟩ := m3 p hp
  have t1 : t = 1 := nm_inI (by omega) (by omega) (a2.symm.trans h1)
  obtain ⟨g1, g2⟩ := a17 (by omega)
  refine ⟨t, c', w, b', e, ht, hc', hw, hb, he, a1, a2, a3, a4, a5, a6, a7, a8, a9, a10, a11, a12, a13, a14, a15, a16, fun _ => ⟨fun i hi => ?_, (nm_un (by omega)).trans g2⟩, a18, a19, fun z => by omega, a21⟩
  show upd (sR M.1 3) (p * 33 + r) v (p * 33 + i) = upd (sR X.1 9) (32 * p + r) v (32 * p + i)
  by_cases c : i = r
  · rw [c, nm_us, nm_us]
  · rw [nm_un (by omega), nm_un (by omega)]
    exact g1 i hi
theorem cB_of {B p : Nat} {s : St × Rw × (St × (St × (St × (St)))) × (St) × (St) × (Nat → St) × (Nat → St) × (Nat → St × (St))} {X : St × St} {oc : Option (Int64 × (St × (St × (St × St))))} {or : Option (Int32 × (St × St))} (h : cO B p s.2.2.1 X oc or) : cB (B + 512) p s X (nd_b2 oc (fun q s' => nd_let (s.1, (s.2.1, (s', s.2.2.2))) (fun s'' => some (q, s'')))) (nd_b2 or (fun q s => some (q, s))) := by
  obtain ⟨v64, v, K1, M', X', e1, e2, r⟩ := cO_up h (show B ≤ B + 512 by omega)
  rw [e1, e2]
  exact ⟨v64, _, rfl, v64, v, K1, M', X', rfl, rfl, r⟩
theorem cB_oq {B p : Nat} {s : St × Rw × (St × (St × (St × (St)))) × (St) × (St) × (Nat → St) × (Nat → St) × (Nat → St × (St))} {X : St × St} {oc : Option (Int64 × (St × (St × (St × St))))} {or : Option (Int32 × (St × St))} (h : cO (B + 512) p s.2.2.1 X oc or) : cB (B + 512) p s X (nd_b2 oc (fun q s' => nd_let (s.1, (s.2.1, (s', s.2.2.2))) (fun s'' => some (q, s'')))) (nd_b2 or (fun q s => some (q, s))) := by
  obtain ⟨v64, v, K1, M', X', e1, e2, r⟩ := h
  rw [e1, e2]
  exact ⟨v64, _, rfl, v64, v, K1, M', X', rfl, rfl, r⟩
theorem cB_up {B p : Nat} {s : St × Rw × (St × (St × (St × (St)))) × (St) × (St) × (Nat → St) × (Nat → St) × (Nat → St × (St))} {X : St × St} {oc : Option (Int64 × (St × Rw × (St × (St × (St × (St)))) × (St) × (St) × (Nat → St) × (Nat → St) × (Nat → St × (St))))} {or : Option (Int32 × (St × St))} (h : cB B p s X oc or) : cB (B + 512) p s X oc or := by
  obtain ⟨v64, K', e, c⟩ := h
  exact ⟨v64, K', e, cO_up c (by omega)⟩
theorem cB_ex {B p : Nat} {s : St × Rw × (St × (St × (St × (St)))) × (St) × (St) × (Nat → St) × (Nat → St) × (Nat → St × (St))} {X : St × St} {oc : Option (Int64 × (St × Rw × (St × (St × (St × (St)))) × (St) × (St) × (Nat → St) × (Nat → St) × (Nat → St × (St))))} {or : Option (Int32 × (St × St))} (h : cB B p s X oc or) : cB (B + 512) p s X (nd_b2 oc (fun q s' => some (q, s'))) (nd_b2 or (fun q s => some (q, s))) := by
  obtain ⟨v64, K', e, c⟩ := cB_up h
  obtain ⟨w64, v, K1, M', X', e1, e2, r⟩ := c
  rw [e, e2]
  exact ⟨v64, K', rfl, w64, v, K1, M', X', e1, rfl, r⟩
theorem cB_fin {B p : Nat} {s : St × Rw × (St × (St × (St × (St)))) × (St) × (St) × (Nat → St) × (Nat → St) × (Nat → St × (St))} {X : St × St} {x : Option (St × St)} {y : Option (St × St)} {T : St × St → Option (Int32 × (St × St))} (h : cO B p s.2.2.1 X (nd_b1 x (fun m => some (2199023255552, (s.2.2.1.1, (s.2.2.1.2.1, m))))) (nd_b1 y T)) : cB (B + 512) p s X (nd_b1 x (fun s19 => nd_let (s.1, (s.2.1, ((s.2.2.1.1, (s.2.2.1.2.1, s19)), s.2.2.2))) (fun s21 => some (2199023255552, s21)))) (nd_b1 y (fun s3 => nd_b2 (T s3) (fun q s => some (q, s)))) := by
  obtain ⟨v64, v, K1, M', X', e1, e2, r⟩ := cO_up h (show B ≤ B + 512 by omega)
  cases x with
  | none => exact nomatch e1
  | some m =>
    cases y with
    | none => exact nomatch e2
    | some m' =>
      have e2 : T m' = some (v, X') := e2
      rw [nb_b1, nb_b1, e2]
      exact ⟨_, _, rfl, v64, v, K1, M', X', e1, rfl, r⟩
theorem cB_rnd (n : Nat) {B p : Nat} {s : St × Rw × (St × (St × (St × (St)))) × (St) × (St) × (Nat → St) × (Nat → St) × (Nat → St × (St))} {X : St × St} {x : Option (Int32 × (St × (St × (St × St))))} {T : St × St → Option (Int32 × (St × St))} {or : Option (Int32 × (St × St))} (h : cO B p s.2.2.1 X (nd_b2 x (fun q s => if q = nI 0 then nd_b2 (T s.2.2) (fun v m => some (v.toInt64, (s.1, (s.2.1, m)))) else some (1099511627776, s))) or) : cB (B + 512) p s X (nd_b2 x (fun q120 s121 => nd_let (s.1, (s.2.1, (s121, s.2.2.2))) (fun s123 => if q120 = 0 then nd_b2 (T s123.2.2.1.2.2) (fun q125 s126 => nd_let (s123.1, (s123.2.1, ((s123.2.2.1.1, (s123.2.2.1.2.1, s126)), s123.2.2.2))) (fun s128 => df_X5_answerOf_357 n q125.toInt64 s128)) else df_X5_answerOf_357 n 1099511627776 s123))) (nd_b2 or (fun q s => some (q, s))) := by
  obtain ⟨v64, v, K1, M', X', e1, e2, r⟩ := cO_up h (show B ≤ B + 512 by omega)
  rw [e2]
  cases x with
  | none => exact nomatch e1
  | some y =>
    obtain ⟨q, K'⟩ := y
    rw [nb_b2] at e1
    rw [nb_b2, nb_let]
    by_cases c : q = nI 0
    · rw [if_pos c] at e1
      rw [if_pos (show q = 0 from c)]
      dsimp only
      cases ht : T K'.2.2 with
      | none =>
        rw [ht] at e1
        exact nomatch e1
      | some z =>
        obtain ⟨a, m⟩ := z
        rw [ht] at e1
        exact ⟨_, _, rfl, v64, v, K1, M', X', e1, rfl, r⟩
    · rw [if_neg c] at e1
      rw [if_neg (show ¬ q = 0 from c)]
      exact ⟨_, _, rfl, v64, v, K1, M', X', e1, rfl, r⟩
/-- the kernel's call 'clock' -/
theorem nq_clock {B p : Nat} {K : St × (St × (St × St))} {X : St × St} (h : cP B p K X) : cO B p K X (some ((sL K.2.2.1 0).toInt32.toInt64, (K.1, (K.2.1, (pR K.2.2.1 3 (upd (sR K.2.2.1 3) (p * 33 + 11) (((sL K.2.2.1 0) >>> ((32 : Int32).toInt64 &&& 63)).toInt32)), K.2.2.2))))) (some ((sL X.1 1).toInt32, (pR X.1 9 (upd (sR X.1 9) (32 * p + 11) (((sL X.1 1) >>> ((32 : Int32).toInt64 &&& 63)).toInt32)), X.2))) := by
  obtain ⟨h1, h2, h3, h4, h5, h6, h7⟩ := h
  have ec : sL K.2.2.1 0 = sL X.1 1 := h1.2.2.2.2.1.2.2.2.2.2.2.2.2.2.1
  rw [ec]
  exact ⟨_, _, K.1, _, _, rfl, rfl, rM_reg h1 h2 (by omega) h5 _, fun _ => rfl, Or.inl ⟨h4, rfl⟩, ⟨rfl, rfl, rfl, rfl, rfl⟩, Or.inl ⟨h6, h7⟩, fun _ => h5, fun z => absurd (h4.symm.trans z) (by decide)⟩
/-- the class's arguments of a call -/
theorem ar_4 (n : Nat) {B p : Nat} {K : St × (St × (St × St))} {X : St × St} (h : rM B K.2.2 X) (hp : p < 16) (h5 : sR X.1 1 p = nI 1) {a b d c : Int32} (e10 : sR X.1 9 (32 * p + 10) = a) (e11 : sR X.1 9 (32 * p + 11) = b) (e12 : sR X.1 9 (32 * p + 12) = d) (e17 : sR X.1 9 (32 * p + 17) = c) : df_X5_argument n (nI p) 10 K = some (a, K) ∧ df_X5_argument n (nI p) 11 K = some (b, K) ∧ df_X5_argument n (nI p) 12 K = some (d, K) ∧ df_X5_argument n (nI p) 17 K = some (c, K) := by
  obtain ⟨t, c', w, b', e, ht, hc', hw, hb, he, a1, a2, a3, a4, a5, a6, a7, a8, a9, a10, a11, a12, a13, a14, a15, a16, a17, _⟩ := h.2.2.1 p hp
  have t1 : t = 1 := nm_inI (by omega) (by omega) (a2.symm.trans h5)
  obtain ⟨r1, _⟩ := a17 (by omega)
  have r10 := (r1 10 (by omega)).trans e10
  have r11 := (r1 11 (by omega)).trans e11
  have r12 := (r1 12 (by omega)).trans e12
  have r17 := (r1 17 (by omega)).trans e17
  have u1 : p * 33 + 10 < 528 := by omega
  have u2 : p * 33 + 11 < 528 := by omega
  have u3 : p * 33 + 12 < 528 := by omega
  have u4 : p * 33 + 17 < 528 := by omega
  refine ⟨?_, ?_, ?_, ?_⟩
  · show df_X5_argument n (nI p) (nI 10) K = _
    simp (disch := (first | assumption | decide | omega)) only [df_X5_argument_0, df_X5_argument, r10, eq_self, Nat.reduceEqDiff, Nat.reduceLeDiff, nl_3, nl_33, nl_528, no_1, no_1024, pk_mul, nI_add, nm_ck, nI_clamp, nI_ltI, nI_leI, nI_eq, nb_b2, nb_b1, ↓nb_let, nm_z0, nm_z1, nb_II, nb_IR, nb_RI, nb_RR, nm_IL, nm_IQ, nm_RL, nm_RQ, nm_LI, nm_LR, nm_LL, nm_LQ, nm_QI, nm_QR, nm_QL, nm_QQ, nm_rr, nm_ii, nm_eqm, not_false_eq_true, pk_sub, nm_div, nm_shl, nm_shr, nm_ush, nm_or8, nm_or64, nm_or256, nm_m1, nm_m3, nm_m7, nm_m15, nm_m31, nm_m63, nm_m255, nm_m511, nm_m1023, nm_m2047, nm_m65535, Nat.reduceMod, Nat.reducePow, Nat.reduceAdd, Nat.reduceSub, Nat.reduceMul, nm_bo, nm_bi, nm_rc, nm_ic, nm_ri, nm_rl, nm_rq, nm_ql, nm_qi, nm_li, nm_us, nm_uu, nm_cp, nm_sa31, nm_sa7, nm_m127, nm_m2, nm_nz, nm_nzk, nm_eq32, nm_nzf, if_true, if_false, ↓reduceIte, if_pos, if_neg]
  · show df_X5_argument n (nI p) (nI 11) K = _
    simp (disch := (first | assumption | decide | omega)) only [df_X5_argument_0, df_X5_argument, r11, eq_self, Nat.reduceEqDiff, Nat.reduceLeDiff, nl_3, nl_33, nl_528, no_1, no_1024, pk_mul, nI_add, nm_ck, nI_clamp, nI_ltI, nI_leI, nI_eq, nb_b2, nb_b1, ↓nb_let, nm_z0, nm_z1, nb_II, nb_IR, nb_RI, nb_RR, nm_IL, nm_IQ, nm_RL, nm_RQ, nm_LI, nm_LR, nm_LL, nm_LQ, nm_QI, nm_QR, nm_QL, nm_QQ, nm_rr, nm_ii, nm_eqm, not_false_eq_true, pk_sub, nm_div, nm_shl, nm_shr, nm_ush, nm_or8, nm_or64, nm_or256, nm_m1, nm_m3, nm_m7, nm_m15, nm_m31, nm_m63, nm_m255, nm_m511, nm_m1023, nm_m2047, nm_m65535, Nat.reduceMod, Nat.reducePow, Nat.reduceAdd, Nat.reduceSub, Nat.reduceMul, nm_bo, nm_bi, nm_rc, nm_ic, nm_ri, nm_rl, nm_rq, nm_ql, nm_qi, nm_li, nm_us, nm_uu, nm_cp, nm_sa31, nm_sa7, nm_m127, nm_m2, nm_nz, nm_nzk, nm_eq32, nm_nzf, if_true, if_false, ↓reduceIte, if_pos, if_neg]
  · show df_X5_argument n (nI p) (nI 12) K = _
    simp (disch := (first | assumption | decide | omega)) only [df_X5_argument_0, df_X5_argument, r12, eq_self, Nat.reduceEqDiff, Nat.reduceLeDiff, nl_3, nl_33, nl_528, no_1, no_1024, pk_mul, nI_add, nm_ck, nI_clamp, nI_ltI, nI_leI, nI_eq, nb_b2, nb_b1, ↓nb_let, nm_z0, nm_z1, nb_II, nb_IR, nb_RI, nb_RR, nm_IL, nm_IQ, nm_RL, nm_RQ, nm_LI, nm_LR, nm_LL, nm_LQ, nm_QI, nm_QR, nm_QL, nm_QQ, nm_rr, nm_ii, nm_eqm, not_false_eq_true, pk_sub, nm_div, nm_shl, nm_shr, nm_ush, nm_or8, nm_or64, nm_or256, nm_m1, nm_m3, nm_m7, nm_m15, nm_m31, nm_m63, nm_m255, nm_m511, nm_m1023, nm_m2047, nm_m65535, Nat.reduceMod, Nat.reducePow, Nat.reduceAdd, Nat.reduceSub, Nat.reduceMul, nm_bo, nm_bi, nm_rc, nm_ic, nm_ri, nm_rl, nm_rq, nm_ql, nm_qi, nm_li, nm_us, nm_uu, nm_cp, nm_sa31, nm_sa7, nm_m127, nm_m2, nm_nz, nm_nzk, nm_eq32, nm_nzf, if_true, if_false, ↓reduceIte, if_pos, if_neg]
  · show df_X5_argument n (nI p) (nI 17) K = _
    simp (disch := (first | assumption | decide | omega)) only [df_X5_argument_0, df_X5_argument, r17, eq_self, Nat.reduceEqDiff, Nat.reduceLeDiff, nl_3, nl_33, nl_528, no_1, no_1024, pk_mul, nI_add, nm_ck, nI_clamp, nI_ltI, nI_leI, nI_eq, nb_b2, nb_b1, ↓nb_let, nm_z0, nm_z1, nb_II, nb_IR, nb_RI, nb_RR, nm_IL, nm_IQ, nm_RL, nm_RQ, nm_LI, nm_LR, nm_LL, nm_LQ, nm_QI, nm_QR, nm_QL, nm_QQ, nm_rr, nm_ii, nm_eqm, not_false_eq_true, pk_sub, nm_div, nm_shl, nm_shr, nm_ush, nm_or8, nm_or64, nm_or256, nm_m1, nm_m3, nm_m7, nm_m15, nm_m31, nm_m63, nm_m255, nm_m511, nm_m1023, nm_m2047, nm_m65535, Nat.reduceMod, Nat.reducePow, Nat.reduceAdd, Nat.reduceSub, Nat.reduceMul, nm_bo, nm_bi, nm_rc, nm_ic, nm_ri, nm_rl, nm_rq, nm_ql, nm_qi, nm_li, nm_us, nm_uu, nm_cp, nm_sa31, nm_sa7, nm_m127, nm_m2, nm_nz, nm_nzk, nm_eq32, nm_nzf, if_true, if_false, ↓reduceIte, if_pos, if_neg]
/-- the kernel's answer, in both, but to 'yield' -/
theorem nq_ao (n : Nat) (hn : 40000 < n) {B p : Nat} {s : St × Rw × (St × (St × (St × (St)))) × (St) × (St) × (Nat → St) × (Nat → St) × (Nat → St × (St))} {X : St × St} (h : cP B p s.2.2.1 X) (hP : rPp s X.2) (hB : B + 512 < 2 ^ 62) {a b d c : Int32} (e10 : sR X.1 9 (32 * p + 10) = a) (e11 : sR X.1 9 (32 * p + 11) = b) (e12 : sR X.1 9 (32 * p + 12) = d) (e17 : sR X.1 9 (32 * p + 17) = c) (hy : ¬ c = 15) : cB (B + 512) p s X (df_X5_answerOf n (nI p) s) (df_X16_answer n c a b d X) := by
  obtain ⟨h1, h2, h3, h4, h5, h6, h7⟩ := id h
  obtain ⟨g10, g11, g12, g17⟩ := ar_4 n h1 h2 h5 e10 e11 e12 e17
  unfold df_X5_answerOf df_X5_answerOf_0 df_X16_answer df_X16_answer_0
  rw [g10, nb_b2, nb_let, g11, nb_b2, nb_let, g12, nb_b2, nb_let, g17, nb_b2, nb_let, h3]
  by_cases c0 : c = 0
  · rw [if_pos c0, if_pos c0]
    exact cB_fin (nq_exit n (by omega) h a)
  rw [if_neg c0, if_neg c0]
  by_cases c1 : c = 1
  · rw [if_pos c1, if_pos c1]
    exact cB_of (nq_fork n (by omega) h)
  rw [if_neg c1, if_neg c1]
  by_cases c2 : c = 2
  · rw [if_pos c2, if_pos c2]
    exact cB_ex (nq_exec n hn h hP a)
  rw [if_neg c2, if_neg c2]
  by_cases c3 : c = 3
  · rw [if_pos c3, if_pos c3]
    exact cB_of (nq_wait n (by omega) h (e17.trans c3))
  rw [if_neg c3, if_neg c3]
  by_cases c4 : c = 4
  · rw [if_pos c4, if_pos c4]
    exact cB_up (cB_id h rfl)
  rw [if_neg c4, if_neg c4]
  by_cases c5 : c = 5
  · rw [if_pos c5, if_pos c5]
    exact cB_of (nq_pipe n (by omega) h a)
  rw [if_neg c5, if_neg c5]
  by_cases c6 : c = 6
  · rw [if_pos c6, if_pos c6]
    exact cB_of (nq_read n (by omega) h (e17.trans c6) e10 e12)
  rw [if_neg c6, if_neg c6]
  by_cases c7 : c = 7
  · rw [if_pos c7, if_pos c7]
    exact cB_oq (nq_write n (by omega) h hB (e17.trans c7) e10 e12)
  rw [if_neg c7, if_neg c7]
  by_cases c8 : c = 8
  · rw [if_pos c8, if_pos c8]
    exact cB_of (nq_close n (by omega) h a)
  rw [if_neg c8, if_neg c8]
  by_cases c9 : c = 9
  · rw [if_pos c9, if_pos c9]
    exact cB_of (nq_dup n (by omega) h a b)
  rw [if_neg c9, if_neg c9]
  by_cases c10 : c = 10
  · rw [if_pos c10, if_pos c10]
    exact cB_of (nq_open n (by omega) h a b)
  rw [if_neg c10, if_neg c10]
  by_cases c11 : c = 11
  · rw [if_pos c11, if_pos c11]
    exact cB_of (nq_unlink n (by omega) h a)
  rw [if_neg c11, if_neg c11]
  by_cases c12 : c = 12
  · rw [if_pos c12, if_pos c12]
    exact cB_of (nq_seek n h a b d)
  rw [if_neg c12, if_neg c12]
  by_cases c13 : c = 13
  · rw [if_pos c13, if_pos c13]
    exact cB_of (nq_rename n (by omega) h a b)
  rw [if_neg c13, if_neg c13]
  by_cases c14 : c = 14
  · rw [if_pos c14, if_pos c14]
    exact cB_of (nq_grow n (by omega) h a)
  rw [if_neg c14, if_neg c14]
  by_cases c15 : c = 15
  · exact absurd c15 hy
  rw [if_neg c15, if_neg c15]
  by_cases c16 : c = 16
  · rw [if_pos c16, if_pos c16]
    exact cB_of (nq_signal n h a b)
  rw [if_neg c16, if_neg c16]
  by_cases c17 : c = 17
  · rw [if_pos c17, if_pos c17]
    exact cB_of (nq_handle n h a b)
  rw [if_neg c17, if_neg c17]
  by_cases c18 : c = 18
  · rw [if_pos c18, if_pos c18]
    exact cB_of (nq_back n (by omega) h)
  rw [if_neg c18, if_neg c18]
  by_cases c19 : c = 19
  · rw [if_pos c19, if_pos c19]
    exact cB_of (nq_sleep n h (e17.trans c19) a)
  rw [if_neg c19, if_neg c19]
  by_cases c20 : c = 20
  · rw [if_pos c20, if_pos c20]
    have u1 : p * 33 + 11 < 528 := by omega
    have u2 : p * 33 + 11 < 2 ^ 31 := by omega
    have u3 : 32 * p + 11 < 512 := by omega
    have u4 : 32 * p + 11 < 2 ^ 31 := by omega
    have k1 : nI p * 33 + 11 = nI (p * 33 + 11) := by simp (disch := (first | assumption | decide | omega)) only [eq_self, Nat.reduceEqDiff, Nat.reduceLeDiff, nl_11, nl_33, no_1, no_1024, pk_mul, nI_add, nm_ck, nI_clamp, nI_ltI, nI_leI, nI_eq, nb_b2, nb_b1, ↓nb_let, nm_z0, nm_z1, nb_II, nb_IR, nb_RI, nb_RR, nm_IL, nm_IQ, nm_RL, nm_RQ, nm_LI, nm_LR, nm_LL, nm_LQ, nm_QI, nm_QR, nm_QL, nm_QQ, nm_rr, nm_ii, nm_eqm, not_false_eq_true, pk_sub, nm_div, nm_shl, nm_shr, nm_ush, nm_or8, nm_or64, nm_or256, nm_m1, nm_m3, nm_m7, nm_m15, nm_m31, nm_m63, nm_m255, nm_m511, nm_m1023, nm_m2047, nm_m65535, Nat.reduceMod, Nat.reducePow, Nat.reduceAdd, Nat.reduceSub, Nat.reduceMul, nm_bo, nm_bi, nm_rc, nm_ic, nm_ri, nm_rl, nm_rq, nm_ql, nm_qi, nm_li, nm_us, nm_uu, nm_cp, nm_sa31, nm_sa7, nm_m127, nm_m2, nm_nz, nm_nzk, nm_eq32, nm_nzf, if_true, if_false, ↓reduceIte, if_pos, if_neg]
    have k2 : 32 * nI p + 11 = nI (32 * p + 11) := by simp (disch := (first | assumption | decide | omega)) only [eq_self, Nat.reduceEqDiff, Nat.reduceLeDiff, nl_11, nl_32, no_1, no_1024, pk_mul, nI_add, nm_ck, nI_clamp, nI_ltI, nI_leI, nI_eq, nb_b2, nb_b1, ↓nb_let, nm_z0, nm_z1, nb_II, nb_IR, nb_RI, nb_RR, nm_IL, nm_IQ, nm_RL, nm_RQ, nm_LI, nm_LR, nm_LL, nm_LQ, nm_QI, nm_QR, nm_QL, nm_QQ, nm_rr, nm_ii, nm_eqm, not_false_eq_true, pk_sub, nm_div, nm_shl, nm_shr, nm_ush, nm_or8, nm_or64, nm_or256, nm_m1, nm_m3, nm_m7, nm_m15, nm_m31, nm_m63, nm_m255, nm_m511, nm_m1023, nm_m2047, nm_m65535, Nat.reduceMod, Nat.reducePow, Nat.reduceAdd, Nat.reduceSub, Nat.reduceMul, nm_bo, nm_bi, nm_rc, nm_ic, nm_ri, nm_rl, nm_rq, nm_ql, nm_qi, nm_li, nm_us, nm_uu, nm_cp, nm_sa31, nm_sa7, nm_m127, nm_m2, nm_nz, nm_nzk, nm_eq32, nm_nzf, if_true, if_false, ↓reduceIte, if_pos, if_neg]
    rw [k1, k2, nm_ck u1 u2, nm_ck u3 u4, nI_clamp u2, nI_clamp u4, nb_let, nb_let]
    exact cB_up ⟨_, _, rfl, nq_clock h⟩
  rw [if_neg c20, if_neg c20]
  by_cases c21 : c = 21
  · rw [if_pos c21, if_pos c21]
    exact cB_rnd n (nq_random n (by omega) h (e17.trans c21))
  rw [if_neg c21, if_neg c21]
  exact cB_up (cB_id h (by decide))
