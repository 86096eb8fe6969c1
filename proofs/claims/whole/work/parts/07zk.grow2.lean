theorem nps_s {n q r a : Nat} {X Z : St × St} : ∀ {c : Nat}, nps n q r a c X = some Z → ∀ j : Nat, j ≤ c → ∃ s : St × St, nps n q r a j X = some s
  | 0, h, j, hj => by
    have : j = 0 := by omega
    subst this
    exact ⟨Z, h⟩
  | c + 1, h, j, hj => by
    by_cases e : j = c + 1
    · subst e
      exact ⟨Z, h⟩
    · have h : nd_b1 (nps n q r a c X) (fun s => df_X16_newPage n (nI q) (nI (a + c)) (nI r) s) = some Z := h
      cases g : nps n q r a c X with
      | none =>
        rw [g] at h
        exact nomatch h
      | some s => exact nps_s g j (by omega)
/-- one more page -/
theorem nps_t {n q r a c : Nat} {X Z s : St × St} (h : nps n q r a c X = some Z) {j : Nat} (hj : j < c) (hs : nps n q r a j X = some s) : ∃ s' : St × St, df_X16_newPage n (nI q) (nI (a + j)) (nI r) s = some s' ∧ nps n q r a (j + 1) X = some s' := by
  obtain ⟨s', e⟩ := nps_s h (j + 1) (by omega)
  have e' : nd_b1 (nps n q r a j X) (fun s => df_X16_newPage n (nI q) (nI (a + j)) (nI r) s) = some s' := e
  rw [hs, nb_b1] at e'
  exact ⟨s', e', e⟩
/-- pages from one on are dropped in both -/
theorem nk_leaves (n : Nat) {M X : St × St} (h : rK M X) {p a : Nat} (hp : p < 16) : ∀ k : Nat, a + k ≤ 64 → ∃ (u g : Nat → Int32) (fu : Int32) (fr ho : Nat → Int32) (us : Int32), rQ (sR M.1 0) u g (sR X.1 15) fr (sR X.1 17) ho fu us ∧ (∀ j : Nat, a ≤ j → j < a + k → fr (64 * p + j) = -nI 1) ∧ (∀ i : Nat, ¬ (64 * p + a ≤ i ∧ i < 64 * p + a + k) → fr i = sR X.1 16 i) ∧ (a + k < 64 → ∃ (u' g' : Nat → Int32) (fu' : Int32) (ho' : Nat → Int32) (us' : Int32), df_X6_dropPage n (nI p) (nI (a + k)) (mU M (sR M.1 0) u g fu) = some (mU M (sR M.1 0) u' g' fu') ∧ df_X16_leave n (nI (64 * p + (a + k))) (xU X (sR X.1 15) fr (sR X.1 17) ho us) = some (xU X (sR X.1 15) (upd fr (64 * p + (a + k)) (-nI 1)) (sR X.1 17) ho' us') ∧ rQ (sR M.1 0) u' g' (sR X.1 15) (upd fr (64 * p + (a + k)) (-nI 1)) (sR X.1 17) ho' fu' us') := by
  have st : ∀ (k : Nat) (u g : Nat → Int32) (fu : Int32) (fr ho : Nat → Int32) (us : Int32), a + k < 64 → rQ (sR M.1 0) u g (sR X.1 15) fr (sR X.1 17) ho fu us → ∃ (u' g' : Nat → Int32) (fu' : Int32) (ho' : Nat → Int32) (us' : Int32), df_X6_dropPage n (nI p) (nI (a + k)) (mU M (sR M.1 0) u g fu) = some (mU M (sR M.1 0) u' g' fu') ∧ df_X16_leave n (nI (64 * p + (a + k))) (xU X (sR X.1 15) fr (sR X.1 17) ho us) = some (xU X (sR X.1 15) (upd fr (64 * p + (a + k)) (-nI 1)) (sR X.1 17) ho' us') ∧ rQ (sR M.1 0) u' g' (sR X.1 15) (upd fr (64 * p + (a + k)) (-nI 1)) (sR X.1 17) ho' fu' us' := fun k u g fu fr ho us hk hr => by
    obtain ⟨u', g', fu', ho', us', a1, a2, a3⟩ := nk_leave n (M := mU M (sR M.1 0) u g fu) (X := xU X (sR X.1 15) fr (sR X.1 17) ho us) hr hp hk
    have a1 : df_X6_dropPage n (nI p) (nI (a + k)) (mU M (sR M.1 0) u g fu) = some (mU (mU M (sR M.1 0) u g fu) (sR M.1 0) u' g' fu') := a1
    have a2 : df_X16_leave n (nI (64 * p + (a + k))) (xU X (sR X.1 15) fr (sR X.1 17) ho us) = some (xU (xU X (sR X.1 15) fr (sR X.1 17) ho us) (sR X.1 15) (upd fr (64 * p + (a + k)) (-nI 1)) (sR X.1 17) ho' us') := a2
    rw [mU_mU] at a1
    rw [xU_xU] at a2
    exact ⟨u', g', fu', ho', us', a1, a2, a3⟩
  intro k
  induction k with
  | zero =>
    intro hk
    exact ⟨_, _, _, _, _, _, h, fun j h1 h2 => by omega, fun i _ => rfl, fun h64 => st 0 _ _ _ _ _ _ h64 h⟩
  | succ k ih =>
    intro hk
    obtain ⟨u, g, fu, fr, ho, us, i1, i2, i3, i4⟩ := ih (by omega)
    obtain ⟨u', g', fu', ho', us', e1, e2, e3⟩ := i4 (by omega)
    refine ⟨u', g', fu', upd fr (64 * p + (a + k)) (-nI 1), ho', us', e3, fun j h1 h2 => ?_, fun i hi => ?_, fun h64 => st (k + 1) _ _ _ _ _ _ h64 e3⟩
    · by_cases c : j = a + k
      · rw [c, nm_us]
      · rw [nm_un (by omega)]; exact i2 j h1 (by omega)
    · rw [nm_un (by omega)]; exact i3 i (by omega)
/-- the pages of a running one and its heap's end change -/
theorem rM_heap {B : Nat} {M X : St × St} (h : rM B M X) {p a : Nat} (hp : p < 16) (h1 : sR X.1 1 p = nI 1) (ha : a ≤ 61440) {w u g b fr ri ho : Nat → Int32} {fu us : Int32} (hr : rQ w u g b fr ri ho fu us) (hfr : ∀ i : Nat, i < 64 * p ∨ 64 * p + 64 ≤ i → fr i = sR X.1 16 i) (hh : ∀ k : Nat, k < 60 → a ≤ k * 1024 → fr (64 * p + k) = -nI 1) : rM B (pR (mU M w u g fu).1 6 (upd (sR M.1 6) (p * 7 + 6) (nI a)), M.2) (pR (xU X b fr ri ho us).1 6 (upd (sR X.1 6) p (nI a)), X.2) := by
  obtain ⟨m1, m2, m3, m4, m5, m6, m7⟩ := h
  refine ⟨hr, m2, rP_all m3 (p := p) ?_ (fun r hr => ⟨⟨fun i hi => nm_un (by omega), fun _ _ => rfl, fun _ _ => rfl, fun _ _ => rfl, rfl⟩, ⟨⟨rfl, rfl, rfl, rfl, rfl, nm_un hr, rfl, rfl⟩, fun _ _ => rfl, rfl, fun _ _ => rfl, rfl, fun _ _ => rfl, fun _ _ => rfl, fun i hi => ?_, rfl⟩⟩), m4, m5, m6, m7⟩
  · obtain ⟨t, c', w, b', e, ht, hc', hw, hb, he, a1, a2, a3, a4, a5, a6, a7, a8, a9, a10, a11, a12, a13, a14, a15, a16, a17, a18, a19, a20, a21⟩ := m3 p hp
    have t1 : t = 1 := nm_inI (by omega) (by omega) (a2.symm.trans h1)
    exact ⟨t, c', w, b', a, ht, hc', hw, hb, ha, (nm_un (by omega)).trans a1, a2, (nm_un (by omega)).trans a3, a4, a5, fun z => by omega, fun z => (nm_un (by omega)).trans (a7 z), (nm_un (by omega)).trans a8, a9, (nm_un (by omega)).trans a10, a11, (nm_un (by omega)).trans a12, a13, nm_us, nm_us, hh, a17, a18, fun z => by omega, fun z => by omega, a21⟩
  · show fr (64 * r + i) = _ ↔ sR X.1 16 (64 * r + i) = _
    rw [hfr _ (by omega)]
theorem gr_C (n : Nat) {K : St × (St × (St × St))} {p A b e G H x : Nat} {d : Int32} (hp : p < 16) (eb : sR K.2.2.1 6 (p * 7 + 5) = nI b) (ee : sR K.2.2.1 6 (p * 7 + 6) = nI e) (he : e ≤ 61440) (Ab : ¬ A < b) (hb : b ≤ 61440) (A2 : A ≤ 60416) (hH : (e + 1023) / 1024 = H) (hG : (A + 1023) / 1024 = G) (hx : x ≤ 256) (fu : sI K.2.2.1 0 = nI x) (ed : nI G - nI H = d) : df_X5_grow n (nI p) (nI A) K = if d ≤ nI (256 - x) then nd_b1 (df_X6_addPages n (nI p) (nI H) d (nI 3) K.2.2) (fun s => df_X5_grow_108 n n (nI p) (nI A) (nI e) (nI H) (nI G) (K.1, (K.2.1, s))) else some (-4, K) := by
  have u1 : p * 7 + 5 < 112 := by omega
  have u2 : p * 7 + 5 < 2 ^ 31 := by omega
  have u3 : p * 7 + 6 < 112 := by omega
  have u4 : p * 7 + 6 < 2 ^ 31 := by omega
  have s1 : e + 1024 - 1 = e + 1023 := by omega
  have s2 : A + 1024 - 1 = A + 1023 := by omega
  have u6 : A < 2 ^ 31 := by omega
  have u7 : b < 2 ^ 31 := by omega
  have u8 : e + 1023 < 2 ^ 31 := by omega
  have u9 : A + 1023 < 2 ^ 31 := by omega
  have u10 : 1 ≤ e + 1024 := by omega
  have u11 : 1 ≤ A + 1024 := by omega
  clear he hb
  simp (disch := (first | assumption | decide | omega)) only [df_X5_grow, df_X5_grow_0, df_X6_framesFree_0, df_X6_framesFree, eb, ee, Ab, A2, s1, s2, hH, hG, fu, ed, eq_self, Nat.reduceEqDiff, Nat.reduceLeDiff, nl_0, nl_1, nl_3, nl_4, nl_5, nl_6, nl_7, nl_112, nl_256, nl_1024, nl_60416, no_1, no_1024, pk_mul, nI_add, nm_ck, nI_clamp, nI_ltI, nI_leI, nI_eq, nb_b2, nb_b1, ↓nb_let, nm_z0, nm_z1, nb_II, nb_IR, nb_RI, nb_RR, nm_IL, nm_IQ, nm_RL, nm_RQ, nm_LI, nm_LR, nm_LL, nm_LQ, nm_QI, nm_QR, nm_QL, nm_QQ, nm_rr, nm_ii, nm_eqm, not_false_eq_true, pk_sub, nm_div, nm_shl, nm_shr, nm_ush, nm_or8, nm_or64, nm_or256, nm_m1, nm_m3, nm_m7, nm_m15, nm_m31, nm_m63, nm_m255, nm_m511, nm_m1023, nm_m2047, nm_m65535, Nat.reduceMod, Nat.reducePow, Nat.reduceAdd, Nat.reduceSub, Nat.reduceMul, nm_bo, nm_bi, nm_rc, nm_ic, nm_ri, nm_rl, nm_rq, nm_ql, nm_qi, nm_li, nm_us, nm_uu, nm_cp, nm_sa31, nm_sa7, nm_m127, nm_m2, nm_nz, nm_nzk, nm_eq32, nm_nzf, if_true, if_false, ↓reduceIte, if_pos, if_neg]
theorem gr_R (n : Nat) {X : St × St} {p A b e G H : Nat} (hp : p < 16) (h3 : sI X.1 12 = nI p) (eb' : sR X.1 5 p = nI b) (ee' : sR X.1 6 p = nI e) (he : e ≤ 61440) (Ab : ¬ A < b) (hb : b ≤ 61440) (A2 : A ≤ 60416) (hH : (e + 1023) / 1024 = H) (hG : (A + 1023) / 1024 = G) : df_X16_grow n (nI A) X = if G ≤ H then df_X16_grow_72 n n (nI A) (nI H) (nI G) (nI H) X else nd_b2 (df_X16_hasFrames n (nI (G - H)) X) (fun v s => if v = 0 then some (-nI 4, s) else df_X16_grow_72 n n (nI A) (nI H) (nI G) (nI H) s) := by
  have u5 : p < 2 ^ 31 := by omega
  have u6 : A < 2 ^ 31 := by omega
  have u7 : b < 2 ^ 31 := by omega
  have u8 : e + 1023 < 2 ^ 31 := by omega
  have u9 : A + 1023 < 2 ^ 31 := by omega
  have v2 : H < 2 ^ 31 := by omega
  have v4 : G < 2 ^ 31 := by omega
  by_cases c : G ≤ H
  · rw [if_pos c]
    simp (disch := (first | assumption | decide | omega)) only [df_X16_grow, df_X16_grow_0, df_X16_grow_69, h3, eb', ee', Ab, A2, hH, hG, c, eq_self, Nat.reduceEqDiff, Nat.reduceLeDiff, nl_0, nl_4, nl_5, nl_6, nl_12, nl_16, nl_1023, nl_1024, nl_60416, no_1, no_1024, pk_mul, nI_add, nm_ck, nI_clamp, nI_ltI, nI_leI, nI_eq, nb_b2, nb_b1, ↓nb_let, nm_z0, nm_z1, nb_II, nb_IR, nb_RI, nb_RR, nm_IL, nm_IQ, nm_RL, nm_RQ, nm_LI, nm_LR, nm_LL, nm_LQ, nm_QI, nm_QR, nm_QL, nm_QQ, nm_rr, nm_ii, nm_eqm, not_false_eq_true, pk_sub, nm_div, nm_shl, nm_shr, nm_ush, nm_or8, nm_or64, nm_or256, nm_m1, nm_m3, nm_m7, nm_m15, nm_m31, nm_m63, nm_m255, nm_m511, nm_m1023, nm_m2047, nm_m65535, Nat.reduceMod, Nat.reducePow, Nat.reduceAdd, Nat.reduceSub, Nat.reduceMul, nm_bo, nm_bi, nm_rc, nm_ic, nm_ri, nm_rl, nm_rq, nm_ql, nm_qi, nm_li, nm_us, nm_uu, nm_cp, nm_sa31, nm_sa7, nm_m127, nm_m2, nm_nz, nm_nzk, nm_eq32, nm_nzf, if_true, if_false, ↓reduceIte, if_pos, if_neg]
  · rw [if_neg c]
    have u10 : H ≤ G := by omega
    simp (disch := (first | assumption | decide | omega)) only [df_X16_grow, df_X16_grow_0, df_X16_grow_69, h3, eb', ee', Ab, A2, hH, hG, c, eq_self, Nat.reduceEqDiff, Nat.reduceLeDiff, nl_0, nl_4, nl_5, nl_6, nl_12, nl_16, nl_1023, nl_1024, nl_60416, no_1, no_1024, pk_mul, nI_add, nm_ck, nI_clamp, nI_ltI, nI_leI, nI_eq, nb_b2, nb_b1, ↓nb_let, nm_z0, nm_z1, nb_II, nb_IR, nb_RI, nb_RR, nm_IL, nm_IQ, nm_RL, nm_RQ, nm_LI, nm_LR, nm_LL, nm_LQ, nm_QI, nm_QR, nm_QL, nm_QQ, nm_rr, nm_ii, nm_eqm, not_false_eq_true, pk_sub, nm_div, nm_shl, nm_shr, nm_ush, nm_or8, nm_or64, nm_or256, nm_m1, nm_m3, nm_m7, nm_m15, nm_m31, nm_m63, nm_m255, nm_m511, nm_m1023, nm_m2047, nm_m65535, Nat.reduceMod, Nat.reducePow, Nat.reduceAdd, Nat.reduceSub, Nat.reduceMul, nm_bo, nm_bi, nm_rc, nm_ic, nm_ri, nm_rl, nm_rq, nm_ql, nm_qi, nm_li, nm_us, nm_uu, nm_cp, nm_sa31, nm_sa7, nm_m127, nm_m2, nm_nz, nm_nzk, nm_eq32, nm_nzf, if_true, if_false, ↓reduceIte, if_pos, if_neg]
    rfl
theorem gr_108 (n : Nat) {g : Int32 → Int32 → Int32 → Int32 → Int32 → St × (St × (St × St)) → Option (Int64 × (St × (St × (St × St))))} {K : St × (St × (St × St))} {p A e H G : Nat} (hp : p < 16) (hH : H < 2 ^ 31) (hG : G < 2 ^ 31) (c : H ≤ G) : dF_X5_grow_108 n g (nI p) (nI A) (nI e) (nI H) (nI G) K = some ((nI e).toInt64, (K.1, (K.2.1, (pR K.2.2.1 6 (upd (sR K.2.2.1 6) (p * 7 + 6) (nI A)), K.2.2.2)))) := by
  have u3 : p * 7 + 6 < 112 := by omega
  have u4 : p * 7 + 6 < 2 ^ 31 := by omega
  simp (disch := (first | assumption | decide | omega)) only [dF_X5_grow_108, c, eq_self, Nat.reduceEqDiff, Nat.reduceLeDiff, nl_1, nl_6, nl_7, nl_112, no_1, no_1024, pk_mul, nI_add, nm_ck, nI_clamp, nI_ltI, nI_leI, nI_eq, nb_b2, nb_b1, ↓nb_let, nm_z0, nm_z1, nb_II, nb_IR, nb_RI, nb_RR, nm_IL, nm_IQ, nm_RL, nm_RQ, nm_LI, nm_LR, nm_LL, nm_LQ, nm_QI, nm_QR, nm_QL, nm_QQ, nm_rr, nm_ii, nm_eqm, not_false_eq_true, pk_sub, nm_div, nm_shl, nm_shr, nm_ush, nm_or8, nm_or64, nm_or256, nm_m1, nm_m3, nm_m7, nm_m15, nm_m31, nm_m63, nm_m255, nm_m511, nm_m1023, nm_m2047, nm_m65535, Nat.reduceMod, Nat.reducePow, Nat.reduceAdd, Nat.reduceSub, Nat.reduceMul, nm_bo, nm_bi, nm_rc, nm_ic, nm_ri, nm_rl, nm_rq, nm_ql, nm_qi, nm_li, nm_us, nm_uu, nm_cp, nm_sa31, nm_sa7, nm_m127, nm_m2, nm_nz, nm_nzk, nm_eq32, nm_nzf, if_true, if_false, ↓reduceIte, if_pos, if_neg]
theorem gr_98 (n : Nat) {g : Int32 → Int32 → Int32 → St × St → Option (Int32 × (St × St))} {X : St × St} {p A e H G : Nat} (hp : p < 16) (h3 : sI X.1 12 = nI p) (ee' : sR X.1 6 p = nI e) (hH : H < 2 ^ 31) (hG : G < 2 ^ 31) (c : H ≤ G) : dF_X16_grow_98 n g (nI A) (nI H) (nI G) X = some (nI e, (pR X.1 6 (upd (sR X.1 6) p (nI A)), X.2)) := by
  have u3 : p < 2 ^ 31 := by omega
  simp (disch := (first | assumption | decide | omega)) only [dF_X16_grow_98, c, h3, ee', eq_self, Nat.reduceEqDiff, Nat.reduceLeDiff, nl_1, nl_6, nl_12, nl_16, nl_64, no_1, no_1024, pk_mul, nI_add, nm_ck, nI_clamp, nI_ltI, nI_leI, nI_eq, nb_b2, nb_b1, ↓nb_let, nm_z0, nm_z1, nb_II, nb_IR, nb_RI, nb_RR, nm_IL, nm_IQ, nm_RL, nm_RQ, nm_LI, nm_LR, nm_LL, nm_LQ, nm_QI, nm_QR, nm_QL, nm_QQ, nm_rr, nm_ii, nm_eqm, not_false_eq_true, pk_sub, nm_div, nm_shl, nm_shr, nm_ush, nm_or8, nm_or64, nm_or256, nm_m1, nm_m3, nm_m7, nm_m15, nm_m31, nm_m63, nm_m255, nm_m511, nm_m1023, nm_m2047, nm_m65535, Nat.reduceMod, Nat.reducePow, Nat.reduceAdd, Nat.reduceSub, Nat.reduceMul, nm_bo, nm_bi, nm_rc, nm_ic, nm_ri, nm_rl, nm_rq, nm_ql, nm_qi, nm_li, nm_us, nm_uu, nm_cp, nm_sa31, nm_sa7, nm_m127, nm_m2, nm_nz, nm_nzk, nm_eq32, nm_nzf, if_true, if_false, ↓reduceIte, if_pos, if_neg]
theorem gr_a0 (n : Nat) (hn : 1024 < n) {M : St × St} {p G H : Nat} (hH : H < 2 ^ 31) (hG : G < 2 ^ 31) (c : G ≤ H) : df_X6_addPages n (nI p) (nI H) (nI G - nI H) (nI 3) M = some M := by
  have sm : nI H + (nI G - nI H) = nI G := by
    rw [Int32.add_comm, Int32.sub_add_cancel]
  have e6 : ∃ F, df_X6_addPages_6 n n = dF_X6_addPages_6 n F := by
    obtain ⟨m, rfl⟩ : ∃ m : Nat, n = m + 1 := ⟨n - 1, by omega⟩
    exact ⟨_, rfl⟩
  obtain ⟨F, e6⟩ := e6
  refine Eq.trans (b := df_X6_addPages_6 n n (nI p) (nI H) (nI G - nI H) (nI 3) (nI H) (nI 0) M) rfl ?_
  rw [e6]
  generalize nI G - nI H = d at sm
  simp (disch := (first | assumption | decide | omega)) only [dF_X6_addPages_6, df_X6_addPages_117, sm, c, eq_self, Nat.reduceEqDiff, Nat.reduceLeDiff, nl_0, nl_1, nl_64, nl_256, no_1, no_1024, pk_mul, nI_add, nm_ck, nI_clamp, nI_ltI, nI_leI, nI_eq, nb_b2, nb_b1, ↓nb_let, nm_z0, nm_z1, nb_II, nb_IR, nb_RI, nb_RR, nm_IL, nm_IQ, nm_RL, nm_RQ, nm_LI, nm_LR, nm_LL, nm_LQ, nm_QI, nm_QR, nm_QL, nm_QQ, nm_rr, nm_ii, nm_eqm, not_false_eq_true, pk_sub, nm_div, nm_shl, nm_shr, nm_ush, nm_or8, nm_or64, nm_or256, nm_m1, nm_m3, nm_m7, nm_m15, nm_m31, nm_m63, nm_m255, nm_m511, nm_m1023, nm_m2047, nm_m65535, Nat.reduceMod, Nat.reducePow, Nat.reduceAdd, Nat.reduceSub, Nat.reduceMul, nm_bo, nm_bi, nm_rc, nm_ic, nm_ri, nm_rl, nm_rq, nm_ql, nm_qi, nm_li, nm_us, nm_uu, nm_cp, nm_sa31, nm_sa7, nm_m127, nm_m2, nm_nz, nm_nzk, nm_eq32, nm_nzf, if_true, if_false, ↓reduceIte, if_pos, if_neg]
theorem gr_72 (n : Nat) {g : Int32 → Int32 → Int32 → Int32 → St × St → Option (Int32 × (St × St))} {X : St × St} {A H G k : Nat} (hk : k < 2 ^ 31) (hG : G < 2 ^ 31) (c : G ≤ k) : dF_X16_grow_72 n g (nI A) (nI H) (nI G) (nI k) X = df_X16_grow_98 n n (nI A) (nI H) (nI G) X := by
  simp (disch := (first | assumption | decide | omega)) only [dF_X16_grow_72, c, eq_self, Nat.reduceEqDiff, Nat.reduceLeDiff, nl_1, nl_3, nl_12, no_1, no_1024, pk_mul, nI_add, nm_ck, nI_clamp, nI_ltI, nI_leI, nI_eq, nb_b2, nb_b1, ↓nb_let, nm_z0, nm_z1, nb_II, nb_IR, nb_RI, nb_RR, nm_IL, nm_IQ, nm_RL, nm_RQ, nm_LI, nm_LR, nm_LL, nm_LQ, nm_QI, nm_QR, nm_QL, nm_QQ, nm_rr, nm_ii, nm_eqm, not_false_eq_true, pk_sub, nm_div, nm_shl, nm_shr, nm_ush, nm_or8, nm_or64, nm_or256, nm_m1, nm_m3, nm_m7, nm_m15, nm_m31, nm_m63, nm_m255, nm_m511, nm_m1023, nm_m2047, nm_m65535, Nat.reduceMod, Nat.reducePow, Nat.reduceAdd, Nat.reduceSub, Nat.reduceMul, nm_bo, nm_bi, nm_rc, nm_ic, nm_ri, nm_rl, nm_rq, nm_ql, nm_qi, nm_li, nm_us, nm_uu, nm_cp, nm_sa31, nm_sa7, nm_m127, nm_m2, nm_nz, nm_nzk, nm_eq32, nm_nzf, if_true, if_false, ↓reduceIte, if_pos, if_neg]
theorem gr_le {G H x : Nat} (hH : H < 2 ^ 31) (hG : G < 2 ^ 31) (hx : x < 2 ^ 31) (c : G ≤ H) : nI G - nI H ≤ nI x := by
  rw [Int32.le_iff_toInt_le, Int32.toInt_sub, nI_toInt hG, nI_toInt hH, nI_toInt hx, Int.bmod_eq_of_le (by omega) (by omega)]
  omega
/-- the kernel's call 'grow' where the heap becomes smaller -/
theorem grow_s (n : Nat) (hn : 1024 < n) {B p : Nat} {K : St × (St × (St × St))} {X : St × St} (h : cP B p K X) {A b e G H : Nat} (eb : sR K.2.2.1 6 (p * 7 + 5) = nI b) (eb' : sR X.1 5 p = nI b) (ee : sR K.2.2.1 6 (p * 7 + 6) = nI e) (ee' : sR X.1 6 p = nI e) (he : e ≤ 61440) (Ab : ¬ A < b) (hb : b ≤ 61440) (A2 : A ≤ 60416) (hH : (e + 1023) / 1024 = H) (hG : (A + 1023) / 1024 = G) (c : G ≤ H) (a16 : ∀ k : Nat, k < 60 → e ≤ k * 1024 → sR X.1 16 (64 * p + k) = -nI 1) : cO B p K X (df_X5_grow n (nI p) (nI A) K) (df_X16_grow n (nI A) X) := by
  obtain ⟨h1, h2, h3, h4, h5, h6, h7⟩ := id h
  obtain ⟨m1, m2, m3, m4, m5, m6, m7⟩ := id h1
  have u1 : p * 7 + 5 < 112 := by omega
  have u2 : p * 7 + 5 < 2 ^ 31 := by omega
  have u3 : p * 7 + 6 < 112 := by omega
  have u4 : p * 7 + 6 < 2 ^ 31 := by omega
  have u5 : p < 2 ^ 31 := by omega
  have hd : H ≤ 60 := by omega
  have hs : G ≤ 59 := by omega
  have v2 : H < 2 ^ 31 := by omega
  have v4 : G < 2 ^ 31 := by omega
  obtain ⟨m, s', t', ⟨u, g, fu', fr, ho, us', es, et, i1, i2, i3⟩, f1, f2⟩ := nm_l2 (fun m k s => df_X5_grow_108 n m (nI p) (nI A) (nI e) (nI H) (nI (G + k)) (K.1, (K.2.1, s))) (fun m k t => df_X16_grow_98 n m (nI A) (nI H) (nI (G + k)) t)
    (fun k s t => ∃ (u g : Nat → Int32) (fu : Int32) (fr ho : Nat → Int32) (us : Int32), s = mU K.2.2 (sR K.2.2.1 0) u g fu ∧ t = xU X (sR X.1 15) fr (sR X.1 17) ho us ∧ rQ (sR K.2.2.1 0) u g (sR X.1 15) fr (sR X.1 17) ho fu us ∧ (∀ j : Nat, G ≤ j → j < G + k → fr (64 * p + j) = -nI 1) ∧ ∀ i : Nat, ¬ (64 * p + G ≤ i ∧ i < 64 * p + G + k) → fr i = sR X.1 16 i) (H - G) n (by omega) (fun k m s t hk ⟨u, g, fu', fr, ho, us', es, et, i1, i2, i3⟩ => by
      subst es et
      have v0 : G + k < 64 := by omega
      obtain ⟨u', g', fu2, ho', us2, x1, x2, x3⟩ := nk_leave n (M := mU K.2.2 (sR K.2.2.1 0) u g fu') (X := xU X (sR X.1 15) fr (sR X.1 17) ho us') i1 h2 v0
      have v1 : ¬ H ≤ G + k := by omega
      have v3 : G + k < 2 ^ 31 := by omega
      refine ⟨_, _, ⟨u', g', fu2, upd fr (64 * p + (G + k)) (-nI 1), ho', us2, rfl, rfl, x3, fun j q1 q2 => ?_, fun i q1 => ?_⟩, ?_, ?_⟩
      · by_cases cj : j = G + k
        · rw [cj, nm_us]
        · rw [nm_un (by omega)]; exact i2 j q1 (by omega)
      · rw [nm_un (by omega)]; exact i3 i (by omega)
      · show df_X5_grow_108 n (m + 1) _ _ _ _ (nI (G + k)) _ = df_X5_grow_108 n m _ _ _ _ (nI (G + k + 1)) _
        rw [show df_X5_grow_108 n (m + 1) = dF_X5_grow_108 n (df_X5_grow_108 n m) from rfl]
        generalize df_X5_grow_108 n m = F
        simp (disch := (first | assumption | decide | omega)) only [dF_X5_grow_108, v1, x1, eq_self, Nat.reduceEqDiff, Nat.reduceLeDiff, nl_1, nl_6, nl_7, nl_112, no_1, no_1024, pk_mul, nI_add, nm_ck, nI_clamp, nI_ltI, nI_leI, nI_eq, nb_b2, nb_b1, ↓nb_let, nm_z0, nm_z1, nb_II, nb_IR, nb_RI, nb_RR, nm_IL, nm_IQ, nm_RL, nm_RQ, nm_LI, nm_LR, nm_LL, nm_LQ, nm_QI, nm_QR, nm_QL, nm_QQ, nm_rr, nm_ii, nm_eqm, not_false_eq_true, pk_sub, nm_div, nm_shl, nm_shr, nm_ush, nm_or8, nm_or64, nm_or256, nm_m1, nm_m3, nm_m7, nm_m15, nm_m31, nm_m63, nm_m255, nm_m511, nm_m1023, nm_m2047, nm_m65535, Nat.reduceMod, Nat.reducePow, Nat.reduceAdd, Nat.reduceSub, Nat.reduceMul, nm_bo, nm_bi, nm_rc, nm_ic, nm_ri, nm_rl, nm_rq, nm_ql, nm_qi, nm_li, nm_us, nm_uu, nm_cp, nm_sa31, nm_sa7, nm_m127, nm_m2, nm_nz, nm_nzk, nm_eq32, nm_nzf, if_true, if_false, ↓reduceIte, if_pos, if_neg]
        rw [mU_mU]
        rfl
      · show df_X16_grow_98 n (m + 1) _ _ (nI (G + k)) _ = df_X16_grow_98 n m _ _ (nI (G + k + 1)) _
        have p12 : sI (xU X (sR X.1 15) fr (sR X.1 17) ho us').1 12 = nI p := h3
        rw [show df_X16_grow_98 n (m + 1) = dF_X16_grow_98 n (df_X16_grow_98 n m) from rfl]
        simp (disch := (first | assumption | decide | omega)) only [dF_X16_grow_98, v1, p12, x2, eq_self, Nat.reduceEqDiff, Nat.reduceLeDiff, nl_1, nl_6, nl_12, nl_16, nl_64, no_1, no_1024, pk_mul, nI_add, nm_ck, nI_clamp, nI_ltI, nI_leI, nI_eq, nb_b2, nb_b1, ↓nb_let, nm_z0, nm_z1, nb_II, nb_IR, nb_RI, nb_RR, nm_IL, nm_IQ, nm_RL, nm_RQ, nm_LI, nm_LR, nm_LL, nm_LQ, nm_QI, nm_QR, nm_QL, nm_QQ, nm_rr, nm_ii, nm_eqm, not_false_eq_true, pk_sub, nm_div, nm_shl, nm_shr, nm_ush, nm_or8, nm_or64, nm_or256, nm_m1, nm_m3, nm_m7, nm_m15, nm_m31, nm_m63, nm_m255, nm_m511, nm_m1023, nm_m2047, nm_m65535, Nat.reduceMod, Nat.reducePow, Nat.reduceAdd, Nat.reduceSub, Nat.reduceMul, nm_bo, nm_bi, nm_rc, nm_ic, nm_ri, nm_rl, nm_rq, nm_ql, nm_qi, nm_li, nm_us, nm_uu, nm_cp, nm_sa31, nm_sa7, nm_m127, nm_m2, nm_nz, nm_nzk, nm_eq32, nm_nzf, if_true, if_false, ↓reduceIte, if_pos, if_neg]
        rw [xU_xU]
        rfl) K.2.2 X ⟨_, _, _, _, _, _, (mU_id K.2.2).symm, (xU_id X).symm, m1, fun j q1 q2 => by omega, fun _ _ => rfl⟩
  subst es et
  have f1 : df_X5_grow_108 n n (nI p) (nI A) (nI e) (nI H) (nI (G + 0)) K = df_X5_grow_108 n (m + 1) (nI p) (nI A) (nI e) (nI H) (nI (G + (H - G))) (K.1, (K.2.1, mU K.2.2 (sR K.2.2.1 0) u g fu')) := f1
  have f2 : df_X16_grow_98 n n (nI A) (nI H) (nI (G + 0)) X = df_X16_grow_98 n (m + 1) (nI A) (nI H) (nI (G + (H - G))) (xU X (sR X.1 15) fr (sR X.1 17) ho us') := f2
  rw [show G + (H - G) = H by omega, Nat.add_zero] at f1 f2
  have fin := rM_heap h1 h2 h5 (a := A) (by omega) i1 (fun i hi => i3 i (by omega)) (fun k hk q => by
    by_cases ck : k < H
    · exact i2 k (by omega) (by omega)
    · rw [i3 _ (by omega)]
      exact a16 k hk (by omega))
  have fu := m1.2.2.2.1
  have cu := cU_le (sR X.1 16)
  generalize cU (sR X.1 16) = x at fu cu
  have p12 : sI (xU X (sR X.1 15) fr (sR X.1 17) ho us').1 12 = nI p := h3
  have p6 : sR (xU X (sR X.1 15) fr (sR X.1 17) ho us').1 6 p = nI e := ee'
  refine ⟨(nI e).toInt64, nI e, K.1, _, _, ?_, ?_, fin, fun _ => rfl, Or.inl ⟨h4, rfl⟩, ⟨rfl, rfl, rfl, rfl, rfl⟩, Or.inl ⟨h6, h7⟩, fun _ => h5, fun z => absurd (h4.symm.trans z) (by decide)⟩
  · rw [gr_C n h2 eb ee he Ab hb A2 hH hG cu fu rfl, if_pos (gr_le v2 v4 (by omega) c), gr_a0 n hn v2 v4 c, nb_b1]
    refine Eq.trans f1 ?_
    rw [show df_X5_grow_108 n (m + 1) = dF_X5_grow_108 n (df_X5_grow_108 n m) from rfl, gr_108 n h2 v2 v2 (Nat.le_refl H)]
    rfl
  · have e72 : ∃ F, df_X16_grow_72 n n = dF_X16_grow_72 n F := by
      obtain ⟨m, rfl⟩ : ∃ m : Nat, n = m + 1 := ⟨n - 1, by omega⟩
      exact ⟨_, rfl⟩
    obtain ⟨F, e72⟩ := e72
    rw [gr_R n h2 h3 eb' ee' he Ab hb A2 hH hG, if_pos c, e72, gr_72 n v2 v4 c, f2, show df_X16_grow_98 n (m + 1) = dF_X16_grow_98 n (df_X16_grow_98 n m) from rfl, gr_98 n h2 p12 p6 v2 v2 (Nat.le_refl H)]
    rfl
/-- where it grows -/
theorem grow_g (n : Nat) (hn : 1024 < n) {B p : Nat} {K : St × (St × (St × St))} {X : St × St} (h : cP B p K X) {A b e G H : Nat} (eb : sR K.2.2.1 6 (p * 7 + 5) = nI b) (eb' : sR X.1 5 p = nI b) (ee : sR K.2.2.1 6 (p * 7 + 6) = nI e) (ee' : sR X.1 6 p = nI e) (he : e ≤ 61440) (Ab : ¬ A < b) (hb : b ≤ 61440) (A2 : A ≤ 60416) (hH : (e + 1023) / 1024 = H) (hG : (A + 1023) / 1024 = G) (c : ¬ G ≤ H) (a16 : ∀ k : Nat, k < 60 → e ≤ k * 1024 → sR X.1 16 (64 * p + k) = -nI 1) : cO B p K X (df_X5_grow n (nI p) (nI A) K) (df_X16_grow n (nI A) X) := by
  obtain ⟨h1, h2, h3, h4, h5, h6, h7⟩ := id h
  obtain ⟨m1, m2, m3, m4, m5, m6, m7⟩ := id h1
  have hs : G ≤ 59 := by omega
  have v2 : H < 2 ^ 31 := by omega
  have v4 : G < 2 ^ 31 := by omega
  have u12 : H ≤ G := by omega
  have fu := m1.2.2.2.1
  have us := m1.2.2.2.2
  have cu := cU_le (sR X.1 16)
  have ap := fun (hc : cU (sR X.1 16) + (G - H) ≤ 256) => nk_addPages n hn (M := K.2.2) (X := X) m1 (p := p) (a := H) (c := G - H) (r := 3) h2 (by omega) (by omega) (by omega) hc (fun k q1 q2 => a16 k (by omega) (by omega))
  have any : ∀ j : Nat, j ≤ G - H → cU (sR X.1 16) + (G - H) ≤ 256 → ∃ (b fr ri ho : Nat → Int32) (us : Int32), nps n p 3 H j X = some (xU X b fr ri ho us) := fun j hj hc => by
    obtain ⟨_, _, _, _, b', fr', ri', ho', us', _, q, _⟩ := nk_addPages n hn (M := K.2.2) (X := X) m1 (p := p) (a := H) (c := j) (r := 3) h2 (by omega) (by omega) (by omega) (by omega) (fun k q1 q2 => a16 k (by omega) (by omega))
    exact ⟨b', fr', ri', ho', us', q⟩
  generalize cU (sR X.1 16) = x at fu us cu ap any
  have hF : df_X16_hasFrames n (nI (G - H)) X = some (if 256 < x + (G - H) then nI 0 else nI 1, X) := by
    have w1 : x + (G - H) < 2 ^ 31 := by omega
    by_cases w : 256 < x + (G - H)
    · simp (disch := (first | assumption | decide | omega)) only [df_X16_hasFrames_17, df_X16_hasFrames_0, df_X16_hasFrames, us, w, eq_self, Nat.reduceEqDiff, Nat.reduceLeDiff, nl_0, nl_1, nl_6, nl_256, no_1, no_1024, pk_mul, nI_add, nm_ck, nI_clamp, nI_ltI, nI_leI, nI_eq, nb_b2, nb_b1, ↓nb_let, nm_z0, nm_z1, nb_II, nb_IR, nb_RI, nb_RR, nm_IL, nm_IQ, nm_RL, nm_RQ, nm_LI, nm_LR, nm_LL, nm_LQ, nm_QI, nm_QR, nm_QL, nm_QQ, nm_rr, nm_ii, nm_eqm, not_false_eq_true, pk_sub, nm_div, nm_shl, nm_shr, nm_ush, nm_or8, nm_or64, nm_or256, nm_m1, nm_m3, nm_m7, nm_m15, nm_m31, nm_m63, nm_m255, nm_m511, nm_m1023, nm_m2047, nm_m65535, Nat.reduceMod, Nat.reducePow, Nat.reduceAdd, Nat.reduceSub, Nat.reduceMul, nm_bo, nm_bi, nm_rc, nm_ic, nm_ri, nm_rl, nm_rq, nm_ql, nm_qi, nm_li, nm_us, nm_uu, nm_cp, nm_sa31, nm_sa7, nm_m127, nm_m2, nm_nz, nm_nzk, nm_eq32, nm_nzf, if_true, if_false, ↓reduceIte, if_pos, if_neg]
    · simp (disch := (first | assumption | decide | omega)) only [df_X16_hasFrames_17, df_X16_hasFrames_0, df_X16_hasFrames, us, w, eq_self, Nat.reduceEqDiff, Nat.reduceLeDiff, nl_0, nl_1, nl_6, nl_256, no_1, no_1024, pk_mul, nI_add, nm_ck, nI_clamp, nI_ltI, nI_leI, nI_eq, nb_b2, nb_b1, ↓nb_let, nm_z0, nm_z1, nb_II, nb_IR, nb_RI, nb_RR, nm_IL, nm_IQ, nm_RL, nm_RQ, nm_LI, nm_LR, nm_LL, nm_LQ, nm_QI, nm_QR, nm_QL, nm_QQ, nm_rr, nm_ii, nm_eqm, not_false_eq_true, pk_sub, nm_div, nm_shl, nm_shr, nm_ush, nm_or8, nm_or64, nm_or256, nm_m1, nm_m3, nm_m7, nm_m15, nm_m31, nm_m63, nm_m255, nm_m511, nm_m1023, nm_m2047, nm_m65535, Nat.reduceMod, Nat.reducePow, Nat.reduceAdd, Nat.reduceSub, Nat.reduceMul, nm_bo, nm_bi, nm_rc, nm_ic, nm_ri, nm_rl, nm_rq, nm_ql, nm_qi, nm_li, nm_us, nm_uu, nm_cp, nm_sa31, nm_sa7, nm_m127, nm_m2, nm_nz, nm_nzk, nm_eq32, nm_nzf, if_true, if_false, ↓reduceIte, if_pos, if_neg]
  have eC := gr_C n h2 eb ee he Ab hb A2 hH hG cu fu (show nI G - nI H = nI (G - H) from pk_sub u12)
  have eR := gr_R n h2 h3 eb' ee' he Ab hb A2 hH hG
  rw [if_neg c, hF, nb_b2] at eR
  by_cases w : 256 < x + (G - H)
  · rw [if_neg (show ¬ nI (G - H) ≤ nI (256 - x) from fun z => by rw [nI_leI (by omega) (by omega)] at z; omega)] at eC
    rw [if_pos w, if_pos (show nI 0 = 0 by decide)] at eR
    rw [eC, eR]
    exact cO_id h (by decide)
  · rw [if_neg w, if_neg (show ¬ nI 1 = 0 by decide)] at eR
    obtain ⟨wd, u, g, fu', bb, fr, ri, ho, us', p1, p2, i1, i2, i3, i4⟩ := ap (by omega)
    rw [if_pos (show nI (G - H) ≤ nI (256 - x) by rw [nI_leI (by omega) (by omega)]; omega), p1, nb_b1] at eC
    have fin := rM_heap h1 h2 h5 (a := A) (by omega) i1 (fun i hi => (i4 i (by omega)).1) (fun k hk q => by
      rw [(i4 (64 * p + k) (by omega)).1]
      exact a16 k hk (by omega))
    have p12 : sI (xU X bb fr ri ho us').1 12 = nI p := h3
    have p6 : sR (xU X bb fr ri ho us').1 6 p = nI e := ee'
    refine ⟨(nI e).toInt64, nI e, K.1, _, _, ?_, ?_, fin, fun _ => rfl, Or.inl ⟨h4, rfl⟩, ⟨rfl, rfl, rfl, rfl, rfl⟩, Or.inl ⟨h6, h7⟩, fun _ => h5, fun z => absurd (h4.symm.trans z) (by decide)⟩
    · have e108 : ∃ F, df_X5_grow_108 n n = dF_X5_grow_108 n F := by
        obtain ⟨m, rfl⟩ : ∃ m : Nat, n = m + 1 := ⟨n - 1, by omega⟩
        exact ⟨_, rfl⟩
      obtain ⟨F, e108⟩ := e108
      rw [eC, e108, gr_108 n h2 v2 v4 u12]
      rfl
    · obtain ⟨m, s', es, f2⟩ := nm_l1 (fun m k t => df_X16_grow_72 n m (nI A) (nI H) (nI G) (nI (H + k)) t) (fun k s => nps n p 3 H k X = some s) (G - H) n (by omega) (fun k m s hk hs => by
        obtain ⟨s', q1, q2⟩ := nps_t p2 hk hs
        have v1 : ¬ G ≤ H + k := by omega
        have v3 : H + k < 2 ^ 31 := by omega
        have hs2 : sI s.1 12 = nI p := by
          obtain ⟨b', fr', ri', ho', us2, q⟩ := any k (by omega) (by omega)
          have := Option.some.inj (hs.symm.trans q)
          subst this
          exact h3
        refine ⟨s', q2, ?_⟩
        show df_X16_grow_72 n (m + 1) _ _ _ (nI (H + k)) _ = df_X16_grow_72 n m _ _ _ (nI (H + k + 1)) _
        rw [show df_X16_grow_72 n (m + 1) = dF_X16_grow_72 n (df_X16_grow_72 n m) from rfl]
        generalize df_X16_grow_72 n m = F
        clear p1 p2 any ap fin
        simp (disch := (first | assumption | decide | omega)) only [dF_X16_grow_72, v1, hs2, q1, eq_self, Nat.reduceEqDiff, Nat.reduceLeDiff, nl_1, nl_3, nl_12, no_1, no_1024, pk_mul, nI_add, nm_ck, nI_clamp, nI_ltI, nI_leI, nI_eq, nb_b2, nb_b1, ↓nb_let, nm_z0, nm_z1, nb_II, nb_IR, nb_RI, nb_RR, nm_IL, nm_IQ, nm_RL, nm_RQ, nm_LI, nm_LR, nm_LL, nm_LQ, nm_QI, nm_QR, nm_QL, nm_QQ, nm_rr, nm_ii, nm_eqm, not_false_eq_true, pk_sub, nm_div, nm_shl, nm_shr, nm_ush, nm_or8, nm_or64, nm_or256, nm_m1, nm_m3, nm_m7, nm_m15, nm_m31, nm_m63, nm_m255, nm_m511, nm_m1023, nm_m2047, nm_m65535, Nat.reduceMod, Nat.reducePow, Nat.reduceAdd, Nat.reduceSub, Nat.reduceMul, nm_bo, nm_bi, nm_rc, nm_ic, nm_ri, nm_rl, nm_rq, nm_ql, nm_qi, nm_li, nm_us, nm_uu, nm_cp, nm_sa31, nm_sa7, nm_m127, nm_m2, nm_nz, nm_nzk, nm_eq32, nm_nzf, if_true, if_false, ↓reduceIte, if_pos, if_neg]) X rfl
      have es := Option.some.inj (es.symm.trans p2)
      subst es
      have f2 : df_X16_grow_72 n n (nI A) (nI H) (nI G) (nI (H + 0)) X = df_X16_grow_72 n (m + 1) (nI A) (nI H) (nI G) (nI (H + (G - H))) (xU X bb fr ri ho us') := f2
      rw [show H + (G - H) = G by omega, Nat.add_zero] at f2
      have e98 : ∃ F, df_X16_grow_98 n n = dF_X16_grow_98 n F := by
        obtain ⟨m, rfl⟩ : ∃ m : Nat, n = m + 1 := ⟨n - 1, by omega⟩
        exact ⟨_, rfl⟩
      obtain ⟨F, e98⟩ := e98
      rw [eR, f2, show df_X16_grow_72 n (m + 1) = dF_X16_grow_72 n (df_X16_grow_72 n m) from rfl, gr_72 n v4 v4 (Nat.le_refl G), e98, gr_98 n h2 p12 p6 v2 v4 u12]
      rfl
/-- the kernel's call 'grow' -/
theorem nq_grow (n : Nat) (hn : 1024 < n) {B p : Nat} {K : St × (St × (St × St))} {X : St × St} (h : cP B p K X) (a : Int32) : cO B p K X (df_X5_grow n (nI p) a K) (df_X16_grow n a X) := by
  have h2 := h.2.1
  have h3 := h.2.2.1
  obtain ⟨t, c', w, b, e, ht, hc', hw, hb, he, a1, a2, a3, a4, a5, a6, a7, a8, a9, a10, a11, a12, a13, a14, a15, a16, _⟩ := h.1.2.2.1 p h2
  have inv : df_X5_grow n (nI p) a K = some (-22, K) → df_X16_grow n a X = some (-nI 22, X) → cO B p K X (df_X5_grow n (nI p) a K) (df_X16_grow n a X) := fun e1 e2 => by
    rw [e1, e2]
    exact cO_id h (by decide)
  have u1 : p * 7 + 5 < 112 := by omega
  have u2 : p * 7 + 5 < 2 ^ 31 := by omega
  have u3 : p * 7 + 6 < 112 := by omega
  have u4 : p * 7 + 6 < 2 ^ 31 := by omega
  have u5 : p < 2 ^ 31 := by omega
  rcases sg_cases a with ⟨z, _⟩ | ⟨A, hA, z⟩
  · have zb : a < nI b := by
      rw [Int32.lt_iff_toInt_lt] at z ⊢
      rw [nI_toInt (by omega)] at z ⊢
      omega
    exact inv (by simp (disch := (first | assumption | decide | omega)) only [df_X5_grow, df_X5_grow_0, df_X5_grow_38, a12, a14, zb, eq_self, Nat.reduceEqDiff, Nat.reduceLeDiff, nl_1, nl_3, nl_4, nl_5, nl_6, nl_7, nl_22, nl_112, nl_1024, nl_60416, no_1, no_1024, pk_mul, nI_add, nm_ck, nI_clamp, nI_ltI, nI_leI, nI_eq, nb_b2, nb_b1, ↓nb_let, nm_z0, nm_z1, nb_II, nb_IR, nb_RI, nb_RR, nm_IL, nm_IQ, nm_RL, nm_RQ, nm_LI, nm_LR, nm_LL, nm_LQ, nm_QI, nm_QR, nm_QL, nm_QQ, nm_rr, nm_ii, nm_eqm, not_false_eq_true, pk_sub, nm_div, nm_shl, nm_shr, nm_ush, nm_or8, nm_or64, nm_or256, nm_m1, nm_m3, nm_m7, nm_m15, nm_m31, nm_m63, nm_m255, nm_m511, nm_m1023, nm_m2047, nm_m65535, Nat.reduceMod, Nat.reducePow, Nat.reduceAdd, Nat.reduceSub, Nat.reduceMul, nm_bo, nm_bi, nm_rc, nm_ic, nm_ri, nm_rl, nm_rq, nm_ql, nm_qi, nm_li, nm_us, nm_uu, nm_cp, nm_sa31, nm_sa7, nm_m127, nm_m2, nm_nz, nm_nzk, nm_eq32, nm_nzf, if_true, if_false, ↓reduceIte, if_pos, if_neg]) (by simp (disch := (first | assumption | decide | omega)) only [df_X16_grow, df_X16_grow_0, df_X16_grow_20, h3, a13, zb, eq_self, Nat.reduceEqDiff, Nat.reduceLeDiff, nl_0, nl_4, nl_5, nl_6, nl_12, nl_16, nl_22, nl_1023, nl_1024, nl_60416, no_1, no_1024, pk_mul, nI_add, nm_ck, nI_clamp, nI_ltI, nI_leI, nI_eq, nb_b2, nb_b1, ↓nb_let, nm_z0, nm_z1, nb_II, nb_IR, nb_RI, nb_RR, nm_IL, nm_IQ, nm_RL, nm_RQ, nm_LI, nm_LR, nm_LL, nm_LQ, nm_QI, nm_QR, nm_QL, nm_QQ, nm_rr, nm_ii, nm_eqm, not_false_eq_true, pk_sub, nm_div, nm_shl, nm_shr, nm_ush, nm_or8, nm_or64, nm_or256, nm_m1, nm_m3, nm_m7, nm_m15, nm_m31, nm_m63, nm_m255, nm_m511, nm_m1023, nm_m2047, nm_m65535, Nat.reduceMod, Nat.reducePow, Nat.reduceAdd, Nat.reduceSub, Nat.reduceMul, nm_bo, nm_bi, nm_rc, nm_ic, nm_ri, nm_rl, nm_rq, nm_ql, nm_qi, nm_li, nm_us, nm_uu, nm_cp, nm_sa31, nm_sa7, nm_m127, nm_m2, nm_nz, nm_nzk, nm_eq32, nm_nzf, if_true, if_false, ↓reduceIte, if_pos, if_neg])
  · subst z
    have u6 : b < 2 ^ 31 := by omega
    by_cases Ab : A < b
    · exact inv (by simp (disch := (first | assumption | decide | omega)) only [df_X5_grow, df_X5_grow_0, df_X5_grow_38, a12, a14, Ab, eq_self, Nat.reduceEqDiff, Nat.reduceLeDiff, nl_1, nl_3, nl_4, nl_5, nl_6, nl_7, nl_22, nl_112, nl_1024, nl_60416, no_1, no_1024, pk_mul, nI_add, nm_ck, nI_clamp, nI_ltI, nI_leI, nI_eq, nb_b2, nb_b1, ↓nb_let, nm_z0, nm_z1, nb_II, nb_IR, nb_RI, nb_RR, nm_IL, nm_IQ, nm_RL, nm_RQ, nm_LI, nm_LR, nm_LL, nm_LQ, nm_QI, nm_QR, nm_QL, nm_QQ, nm_rr, nm_ii, nm_eqm, not_false_eq_true, pk_sub, nm_div, nm_shl, nm_shr, nm_ush, nm_or8, nm_or64, nm_or256, nm_m1, nm_m3, nm_m7, nm_m15, nm_m31, nm_m63, nm_m255, nm_m511, nm_m1023, nm_m2047, nm_m65535, Nat.reduceMod, Nat.reducePow, Nat.reduceAdd, Nat.reduceSub, Nat.reduceMul, nm_bo, nm_bi, nm_rc, nm_ic, nm_ri, nm_rl, nm_rq, nm_ql, nm_qi, nm_li, nm_us, nm_uu, nm_cp, nm_sa31, nm_sa7, nm_m127, nm_m2, nm_nz, nm_nzk, nm_eq32, nm_nzf, if_true, if_false, ↓reduceIte, if_pos, if_neg]) (by simp (disch := (first | assumption | decide | omega)) only [df_X16_grow, df_X16_grow_0, df_X16_grow_20, h3, a13, Ab, eq_self, Nat.reduceEqDiff, Nat.reduceLeDiff, nl_0, nl_4, nl_5, nl_6, nl_12, nl_16, nl_22, nl_1023, nl_1024, nl_60416, no_1, no_1024, pk_mul, nI_add, nm_ck, nI_clamp, nI_ltI, nI_leI, nI_eq, nb_b2, nb_b1, ↓nb_let, nm_z0, nm_z1, nb_II, nb_IR, nb_RI, nb_RR, nm_IL, nm_IQ, nm_RL, nm_RQ, nm_LI, nm_LR, nm_LL, nm_LQ, nm_QI, nm_QR, nm_QL, nm_QQ, nm_rr, nm_ii, nm_eqm, not_false_eq_true, pk_sub, nm_div, nm_shl, nm_shr, nm_ush, nm_or8, nm_or64, nm_or256, nm_m1, nm_m3, nm_m7, nm_m15, nm_m31, nm_m63, nm_m255, nm_m511, nm_m1023, nm_m2047, nm_m65535, Nat.reduceMod, Nat.reducePow, Nat.reduceAdd, Nat.reduceSub, Nat.reduceMul, nm_bo, nm_bi, nm_rc, nm_ic, nm_ri, nm_rl, nm_rq, nm_ql, nm_qi, nm_li, nm_us, nm_uu, nm_cp, nm_sa31, nm_sa7, nm_m127, nm_m2, nm_nz, nm_nzk, nm_eq32, nm_nzf, if_true, if_false, ↓reduceIte, if_pos, if_neg])
    by_cases A2 : A ≤ 60416
    · by_cases c : (A + 1023) / 1024 ≤ (e + 1023) / 1024
      · exact grow_s n hn h a12 a13 a14 a15 he Ab hb A2 rfl rfl c a16
      · exact grow_g n hn h a12 a13 a14 a15 he Ab hb A2 rfl rfl c a16
    · exact inv (by simp (disch := (first | assumption | decide | omega)) only [df_X5_grow, df_X5_grow_0, df_X5_grow_38, a12, a14, Ab, A2, eq_self, Nat.reduceEqDiff, Nat.reduceLeDiff, nl_1, nl_3, nl_4, nl_5, nl_6, nl_7, nl_22, nl_112, nl_1024, nl_60416, no_1, no_1024, pk_mul, nI_add, nm_ck, nI_clamp, nI_ltI, nI_leI, nI_eq, nb_b2, nb_b1, ↓nb_let, nm_z0, nm_z1, nb_II, nb_IR, nb_RI, nb_RR, nm_IL, nm_IQ, nm_RL, nm_RQ, nm_LI, nm_LR, nm_LL, nm_LQ, nm_QI, nm_QR, nm_QL, nm_QQ, nm_rr, nm_ii, nm_eqm, not_false_eq_true, pk_sub, nm_div, nm_shl, nm_shr, nm_ush, nm_or8, nm_or64, nm_or256, nm_m1, nm_m3, nm_m7, nm_m15, nm_m31, nm_m63, nm_m255, nm_m511, nm_m1023, nm_m2047, nm_m65535, Nat.reduceMod, Nat.reducePow, Nat.reduceAdd, Nat.reduceSub, Nat.reduceMul, nm_bo, nm_bi, nm_rc, nm_ic, nm_ri, nm_rl, nm_rq, nm_ql, nm_qi, nm_li, nm_us, nm_uu, nm_cp, nm_sa31, nm_sa7, nm_m127, nm_m2, nm_nz, nm_nzk, nm_eq32, nm_nzf, if_true, if_false, ↓reduceIte, if_pos, if_neg]) (by simp (disch := (first | assumption | decide | omega)) only [df_X16_grow, df_X16_grow_0, df_X16_grow_20, h3, a13, Ab, A2, eq_self, Nat.reduceEqDiff, Nat.reduceLeDiff, nl_0, nl_4, nl_5, nl_6, nl_12, nl_16, nl_22, nl_1023, nl_1024, nl_60416, no_1, no_1024, pk_mul, nI_add, nm_ck, nI_clamp, nI_ltI, nI_leI, nI_eq, nb_b2, nb_b1, ↓nb_let, nm_z0, nm_z1, nb_II, nb_IR, nb_RI, nb_RR, nm_IL, nm_IQ, nm_RL, nm_RQ, nm_LI, nm_LR, nm_LL, nm_LQ, nm_QI, nm_QR, nm_QL, nm_QQ, nm_rr, nm_ii, nm_eqm, not_false_eq_true, pk_sub, nm_div, nm_shl, nm_shr, nm_ush, nm_or8, nm_or64, nm_or256, nm_m1, nm_m3, nm_m7, nm_m15, nm_m31, nm_m63, nm_m255, nm_m511, nm_m1023, nm_m2047, nm_m65535, Nat.reduceMod, Nat.reducePow, Nat.reduceAdd, Nat.reduceSub, Nat.reduceMul, nm_bo, nm_bi, nm_rc, nm_ic, nm_ri, nm_rl, nm_rq, nm_ql, nm_qi, nm_li, nm_us, nm_uu, nm_cp, nm_sa31, nm_sa7, nm_m127, nm_m2, nm_nz, nm_nzk, nm_eq32, nm_nzf, if_true, if_false, ↓reduceIte, if_pos, if_neg])
