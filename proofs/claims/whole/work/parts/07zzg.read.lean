theorem wrs_t {n p a m : Nat} {v : Nat → Int32} {X : St × St} (h : ∀ k : Nat, k ≤ m → ∃ (b' fr' ho' : Nat → Int32) (us' re' wr' : Int32), wrs n p a v k X = some (wX X b' fr' (sR X.1 17) ho' us' re' wr')) {k : Nat} (hk : k < m) {s : St × St} (hs : wrs n p a v k X = some s) : ∃ s' : St × St, df_X16_write n (nI p) (nI (a + k)) (v k) s = some s' ∧ wrs n p a v (k + 1) X = some s' := by
  obtain ⟨b', fr', ho', us', re', wr', e⟩ := h (k + 1) (by omega)
  have e' : nd_b1 (wrs n p a v k X) (fun s => df_X16_write n (nI p) (nI (a + k)) (v k) s) = some (wX X b' fr' (sR X.1 17) ho' us' re' wr') := e
  rw [hs, nb_b1] at e'
  exact ⟨_, e', e⟩
/-- reading's loop: the reference -/
theorem rd_R (n : Nat) {X : St × St} {p A N o m : Nat} {x6 : Int32} {v : Nat → Int32} (hn : m < n) {Y : St × St} (hY : wrs n p A v m X = some Y) (h : ∀ k : Nat, k ≤ m → ∃ (b' fr' ho' : Nat → Int32) (us' re' wr' : Int32), wrs n p A v k X = some (wX X b' fr' (sR X.1 17) ho' us' re' wr')) (hr : ∀ (k : Nat) (b' fr' ho' : Nat → Int32) (us' re' wr' : Int32) (g : Int32 → Int32 → Int32 → Int32 → Int32 → Int32 → St × St → Option (Int32 × (St × St))), k < m → dF_X16_read_124 n g (nI A) (nI N) (nI o) (nI m) x6 (nI k) (wX X b' fr' (sR X.1 17) ho' us' re' wr') = nd_b1 (df_X16_write n (nI p) (nI (A + k)) (v k) (wX X b' fr' (sR X.1 17) ho' us' re' wr')) (fun s => g (nI A) (nI N) (nI o) (nI m) x6 (nI (k + 1)) s)) : ∃ q : Nat, df_X16_read_124 n n (nI A) (nI N) (nI o) (nI m) x6 (nI 0) X = df_X16_read_124 n (q + 1) (nI A) (nI N) (nI o) (nI m) x6 (nI m) Y := by
  obtain ⟨q, s, es, f⟩ := nm_l1 (fun q k s => df_X16_read_124 n q (nI A) (nI N) (nI o) (nI m) x6 (nI k) s) (fun k s => wrs n p A v k X = some s) m n hn (fun k q s hk hs => by
    obtain ⟨s', q1, q2⟩ := wrs_t h hk hs
    obtain ⟨b', fr', ho', us', re', wr', e⟩ := h k (by omega)
    have es := Option.some.inj (hs.symm.trans e)
    subst es
    refine ⟨s', q2, ?_⟩
    show df_X16_read_124 n (q + 1) _ _ _ _ _ (nI k) _ = df_X16_read_124 n q _ _ _ _ _ (nI (k + 1)) _
    rw [show df_X16_read_124 n (q + 1) = dF_X16_read_124 n (df_X16_read_124 n q) from rfl, hr k b' fr' ho' us' re' wr' _ hk, q1, nb_b1]) X rfl
  have es := Option.some.inj (es.symm.trans hY)
  subst es
  exact ⟨q, f⟩
/-- reading's loop: the class -/
theorem rd_C (n : Nat) {K1 K2 : St} {M : St × St} {w u g b fr ri ho : Nat → Int32} {fu us : Int32} (h : rQ w u g b fr ri ho fu us) {p A N o m : Nat} (hn : m < n) (hm : m ≤ 512) (hp : p < 16) (ha : A + m ≤ 65536) (hc : ∀ k : Nat, k < m → ∃ f : Nat, f < 256 ∧ fr (64 * p + (A + k) / 1024) = nI f ∧ cF fr f = 1) {v : Nat → Int32} (hv : ∀ k : Nat, k < m → df_X10_comingByte n (nI o) (nI k) M.2 = some (v k, M.2)) : ∃ (q : Nat) (w' : Nat → Int32), rQ w' u g (pbs b p A v m) fr ri ho fu us ∧ df_X5_read_160 n n (nI p) (nI A) (nI N) (nI o) (nI m) (nI 0) (K1, (K2, mU M w u g fu)) = df_X5_read_160 n (q + 1) (nI p) (nI A) (nI N) (nI o) (nI m) (nI m) (K1, (K2, mU M w' u g fu)) := by
  obtain ⟨q, s, ⟨w', es, hr⟩, f⟩ := nm_l1 (fun q k s => df_X5_read_160 n q (nI p) (nI A) (nI N) (nI o) (nI m) (nI k) (K1, (K2, s))) (fun k s => ∃ w' : Nat → Int32, s = mU M w' u g fu ∧ rQ w' u g (pbs b p A v k) fr ri ho fu us) m n hn (fun k q s hk ⟨w', es, hr⟩ => by
    subst es
    obtain ⟨f, f1, f2, f3⟩ := hc k hk
    obtain ⟨w'', p1, p2⟩ := nk_put1 n (M := M) hr hp (a := A + k) (by omega) f1 f2 f3 (v k)
    have hv' : df_X10_comingByte n (nI o) (nI k) (mU M w' u g fu).2 = some (v k, (mU M w' u g fu).2) := hv k hk
    have v1 : ¬ m ≤ k := by omega
    have v2 : m < 2 ^ 31 := by omega
    have v3 : k < 2 ^ 31 := by omega
    refine ⟨_, ⟨w'', rfl, p2⟩, ?_⟩
    show df_X5_read_160 n (q + 1) _ _ _ _ _ (nI k) _ = df_X5_read_160 n q _ _ _ _ _ (nI (k + 1)) _
    rw [show df_X5_read_160 n (q + 1) = dF_X5_read_160 n (df_X5_read_160 n q) from rfl]
    generalize df_X5_read_160 n q = G
    generalize mU M w' u g fu = S at p1 hv'
    clear hr p2 h hc hv
    simp (disch := (first | assumption | decide | omega)) only [dF_X5_read_160, v1, hv', p1, eq_self, Nat.reduceEqDiff, Nat.reduceLeDiff, nl_1, nl_255, no_1, no_1024, pk_mul, nI_add, nm_ck, nI_clamp, nI_ltI, nI_leI, nI_eq, nb_b2, nb_b1, ↓nb_let, nm_z0, nm_z1, nb_II, nb_IR, nb_RI, nb_RR, nm_IL, nm_IQ, nm_RL, nm_RQ, nm_LI, nm_LR, nm_LL, nm_LQ, nm_QI, nm_QR, nm_QL, nm_QQ, nm_rr, nm_ii, nm_eqm, not_false_eq_true, pk_sub, nm_div, nm_shl, nm_shr, nm_ush, nm_or8, nm_or64, nm_or256, nm_m1, nm_m3, nm_m7, nm_m15, nm_m31, nm_m63, nm_m255, nm_m511, nm_m1023, nm_m2047, nm_m65535, Nat.reduceMod, Nat.reducePow, Nat.reduceAdd, Nat.reduceSub, Nat.reduceMul, nm_bo, nm_bi, nm_rc, nm_ic, nm_ri, nm_rl, nm_rq, nm_ql, nm_qi, nm_li, nm_us, nm_uu, nm_cp, nm_sa31, nm_sa7, nm_m127, nm_m2, nm_nz, nm_nzk, nm_eq32, nm_nzf, if_true, if_false, ↓reduceIte, if_pos, if_neg]) (mU M w u g fu) ⟨w, rfl, h⟩
  subst es
  exact ⟨q, w', hr, f⟩
theorem nar_255 : ∀ z : Fin 256, vp_nar .byte ((nI z.1).toInt8.toInt32) &&& nI 255 = nI z.1 := by decide +kernel
theorem b8_255 {v u : Int32} (h : b8 v u) : v &&& nI 255 = u := by
  obtain ⟨z, hz, e1, e2⟩ := h
  rw [e1, e2]
  exact nar_255 ⟨z, hz⟩
/-- the bytes that come: the class -/
theorem cb_1 (n : Nat) {D : St} {o t L oo k : Nat} {u : Int32} (ho : o < 48) (ht : t < 8) (hoo : oo < 512) (hk : k < 512) (y5 : sR D 1 (o * 5) = nI 1) (y8 : sR D 1 (o * 5 + 2) = nI t) (l3 : sR D 2 (t * 4 + 3) = nI oo) (hb : b8 (sR D 3 (t * 512 + (oo + k) % 512)) u) : df_X10_comingByte n (nI o) (nI k) D = some (u, D) := by
  have u1 : o * 5 < 240 := by omega
  have u2 : o * 5 < 2 ^ 31 := by omega
  have u3 : o * 5 + 2 < 240 := by omega
  have u4 : t * 4 + 3 < 32 := by omega
  have u5 : t * 512 + (oo + k) % 512 < 4096 := by omega
  have u6 : t * 512 + (oo + k) % 512 < 2 ^ 31 := by omega
  have u7 : oo + k < 2 ^ 32 := by omega
  have of0 : df_X10_of n (nI o) (nI 0) D = some (nI 1, D) := by simp (disch := (first | assumption | decide | omega)) only [df_X10_of_0, df_X10_of, Nat.add_zero, y5, eq_self, Nat.reduceEqDiff, Nat.reduceLeDiff, nl_1, nl_5, nl_240, no_1, no_1024, pk_mul, nI_add, nm_ck, nI_clamp, nI_ltI, nI_leI, nI_eq, nb_b2, nb_b1, ↓nb_let, nm_z0, nm_z1, nb_II, nb_IR, nb_RI, nb_RR, nm_IL, nm_IQ, nm_RL, nm_RQ, nm_LI, nm_LR, nm_LL, nm_LQ, nm_QI, nm_QR, nm_QL, nm_QQ, nm_rr, nm_ii, nm_eqm, not_false_eq_true, pk_sub, nm_div, nm_shl, nm_shr, nm_ush, nm_or8, nm_or64, nm_or256, nm_m1, nm_m3, nm_m7, nm_m15, nm_m31, nm_m63, nm_m255, nm_m511, nm_m1023, nm_m2047, nm_m65535, Nat.reduceMod, Nat.reducePow, Nat.reduceAdd, Nat.reduceSub, Nat.reduceMul, nm_bo, nm_bi, nm_rc, nm_ic, nm_ri, nm_rl, nm_rq, nm_ql, nm_qi, nm_li, nm_us, nm_uu, nm_cp, nm_sa31, nm_sa7, nm_m127, nm_m2, nm_nz, nm_nzk, nm_eq32, nm_nzf, if_true, if_false, ↓reduceIte, if_pos, if_neg]
  have e := b8_255 hb
  simp (disch := (first | assumption | decide | omega)) only [df_X10_comingByte_24, df_X10_comingByte_0, df_X10_comingByte, df_X10_byteOf_0, df_X10_byteOf, of0, Nat.add_zero, y5, y8, l3, e, eq_self, Nat.reduceEqDiff, Nat.reduceLeDiff, nl_0, nl_1, nl_2, nl_3, nl_4, nl_5, nl_7, nl_32, nl_240, nl_255, nl_511, nl_512, nl_4096, nl_8192, no_1, no_1024, pk_mul, nI_add, nm_ck, nI_clamp, nI_ltI, nI_leI, nI_eq, nb_b2, nb_b1, ↓nb_let, nm_z0, nm_z1, nb_II, nb_IR, nb_RI, nb_RR, nm_IL, nm_IQ, nm_RL, nm_RQ, nm_LI, nm_LR, nm_LL, nm_LQ, nm_QI, nm_QR, nm_QL, nm_QQ, nm_rr, nm_ii, nm_eqm, not_false_eq_true, pk_sub, nm_div, nm_shl, nm_shr, nm_ush, nm_or8, nm_or64, nm_or256, nm_m1, nm_m3, nm_m7, nm_m15, nm_m31, nm_m63, nm_m255, nm_m511, nm_m1023, nm_m2047, nm_m65535, Nat.reduceMod, Nat.reducePow, Nat.reduceAdd, Nat.reduceSub, Nat.reduceMul, nm_bo, nm_bi, nm_rc, nm_ic, nm_ri, nm_rl, nm_rq, nm_ql, nm_qi, nm_li, nm_us, nm_uu, nm_cp, nm_sa31, nm_sa7, nm_m127, nm_m2, nm_nz, nm_nzk, nm_eq32, nm_nzf, if_true, if_false, ↓reduceIte, if_pos, if_neg]
theorem cb_3 (n : Nat) {D : St} {o t x k : Nat} {u : Int32} (ho : o < 48) (ht : t < 16) (hx : x + k < 512) (y5 : sR D 1 (o * 5) = nI 3) (y8 : sR D 1 (o * 5 + 2) = nI t) (y12 : sR D 1 (o * 5 + 3) = nI x) (hb : b8 (sR D 5 (t * 512 + (x + k))) u) : df_X10_comingByte n (nI o) (nI k) D = some (u, D) := by
  have u1 : o * 5 < 240 := by omega
  have u2 : o * 5 < 2 ^ 31 := by omega
  have u3 : o * 5 + 2 < 240 := by omega
  have u5 : t * 512 + (x + k) < 8192 := by omega
  have u6 : t * 512 + (x + k) < 2 ^ 31 := by omega
  have u7 : x + k < 2 ^ 32 := by omega
  have u8 : (x + k) % 512 = x + k := by omega
  have u9 : o * 5 + 3 < 240 := by omega
  have of0 : df_X10_of n (nI o) (nI 0) D = some (nI 3, D) := by simp (disch := (first | assumption | decide | omega)) only [df_X10_of_0, df_X10_of, Nat.add_zero, y5, eq_self, Nat.reduceEqDiff, Nat.reduceLeDiff, nl_1, nl_5, nl_240, no_1, no_1024, pk_mul, nI_add, nm_ck, nI_clamp, nI_ltI, nI_leI, nI_eq, nb_b2, nb_b1, ↓nb_let, nm_z0, nm_z1, nb_II, nb_IR, nb_RI, nb_RR, nm_IL, nm_IQ, nm_RL, nm_RQ, nm_LI, nm_LR, nm_LL, nm_LQ, nm_QI, nm_QR, nm_QL, nm_QQ, nm_rr, nm_ii, nm_eqm, not_false_eq_true, pk_sub, nm_div, nm_shl, nm_shr, nm_ush, nm_or8, nm_or64, nm_or256, nm_m1, nm_m3, nm_m7, nm_m15, nm_m31, nm_m63, nm_m255, nm_m511, nm_m1023, nm_m2047, nm_m65535, Nat.reduceMod, Nat.reducePow, Nat.reduceAdd, Nat.reduceSub, Nat.reduceMul, nm_bo, nm_bi, nm_rc, nm_ic, nm_ri, nm_rl, nm_rq, nm_ql, nm_qi, nm_li, nm_us, nm_uu, nm_cp, nm_sa31, nm_sa7, nm_m127, nm_m2, nm_nz, nm_nzk, nm_eq32, nm_nzf, if_true, if_false, ↓reduceIte, if_pos, if_neg]
  have of3 : df_X10_of n (nI o) (nI 3) D = some (nI x, D) := by simp (disch := (first | assumption | decide | omega)) only [df_X10_of_0, df_X10_of, y12, eq_self, Nat.reduceEqDiff, Nat.reduceLeDiff, nl_1, nl_5, nl_240, no_1, no_1024, pk_mul, nI_add, nm_ck, nI_clamp, nI_ltI, nI_leI, nI_eq, nb_b2, nb_b1, ↓nb_let, nm_z0, nm_z1, nb_II, nb_IR, nb_RI, nb_RR, nm_IL, nm_IQ, nm_RL, nm_RQ, nm_LI, nm_LR, nm_LL, nm_LQ, nm_QI, nm_QR, nm_QL, nm_QQ, nm_rr, nm_ii, nm_eqm, not_false_eq_true, pk_sub, nm_div, nm_shl, nm_shr, nm_ush, nm_or8, nm_or64, nm_or256, nm_m1, nm_m3, nm_m7, nm_m15, nm_m31, nm_m63, nm_m255, nm_m511, nm_m1023, nm_m2047, nm_m65535, Nat.reduceMod, Nat.reducePow, Nat.reduceAdd, Nat.reduceSub, Nat.reduceMul, nm_bo, nm_bi, nm_rc, nm_ic, nm_ri, nm_rl, nm_rq, nm_ql, nm_qi, nm_li, nm_us, nm_uu, nm_cp, nm_sa31, nm_sa7, nm_m127, nm_m2, nm_nz, nm_nzk, nm_eq32, nm_nzf, if_true, if_false, ↓reduceIte, if_pos, if_neg]
  have e := b8_255 hb
  simp (disch := (first | assumption | decide | omega)) only [df_X10_comingByte_24, df_X10_comingByte_0, df_X10_comingByte, df_X10_byteOf_0, df_X10_byteOf, of0, of3, Nat.add_zero, y5, y8, u8, e, eq_self, Nat.reduceEqDiff, Nat.reduceLeDiff, nl_0, nl_1, nl_2, nl_3, nl_4, nl_5, nl_7, nl_32, nl_240, nl_255, nl_511, nl_512, nl_4096, nl_8192, no_1, no_1024, pk_mul, nI_add, nm_ck, nI_clamp, nI_ltI, nI_leI, nI_eq, nb_b2, nb_b1, ↓nb_let, nm_z0, nm_z1, nb_II, nb_IR, nb_RI, nb_RR, nm_IL, nm_IQ, nm_RL, nm_RQ, nm_LI, nm_LR, nm_LL, nm_LQ, nm_QI, nm_QR, nm_QL, nm_QQ, nm_rr, nm_ii, nm_eqm, not_false_eq_true, pk_sub, nm_div, nm_shl, nm_shr, nm_ush, nm_or8, nm_or64, nm_or256, nm_m1, nm_m3, nm_m7, nm_m15, nm_m31, nm_m63, nm_m255, nm_m511, nm_m1023, nm_m2047, nm_m65535, Nat.reduceMod, Nat.reducePow, Nat.reduceAdd, Nat.reduceSub, Nat.reduceMul, nm_bo, nm_bi, nm_rc, nm_ic, nm_ri, nm_rl, nm_rq, nm_ql, nm_qi, nm_li, nm_us, nm_uu, nm_cp, nm_sa31, nm_sa7, nm_m127, nm_m2, nm_nz, nm_nzk, nm_eq32, nm_nzf, if_true, if_false, ↓reduceIte, if_pos, if_neg]
theorem cb_4 (n : Nat) {D : St} {o t k : Nat} {u : Int32} (ho : o < 48) (hk : k < 512) (y5 : sR D 1 (o * 5) = nI 4) (y8 : sR D 1 (o * 5 + 2) = nI t) (hb : b8 (sR D 7 k) u) : df_X10_comingByte n (nI o) (nI k) D = some (u, D) := by
  have u1 : o * 5 < 240 := by omega
  have u2 : o * 5 < 2 ^ 31 := by omega
  have u3 : o * 5 + 2 < 240 := by omega
  have u7 : k < 2 ^ 32 := by omega
  have u6 : k < 2 ^ 31 := by omega
  have u8 : k % 512 = k := by omega
  have of0 : df_X10_of n (nI o) (nI 0) D = some (nI 4, D) := by simp (disch := (first | assumption | decide | omega)) only [df_X10_of_0, df_X10_of, Nat.add_zero, y5, eq_self, Nat.reduceEqDiff, Nat.reduceLeDiff, nl_1, nl_5, nl_240, no_1, no_1024, pk_mul, nI_add, nm_ck, nI_clamp, nI_ltI, nI_leI, nI_eq, nb_b2, nb_b1, ↓nb_let, nm_z0, nm_z1, nb_II, nb_IR, nb_RI, nb_RR, nm_IL, nm_IQ, nm_RL, nm_RQ, nm_LI, nm_LR, nm_LL, nm_LQ, nm_QI, nm_QR, nm_QL, nm_QQ, nm_rr, nm_ii, nm_eqm, not_false_eq_true, pk_sub, nm_div, nm_shl, nm_shr, nm_ush, nm_or8, nm_or64, nm_or256, nm_m1, nm_m3, nm_m7, nm_m15, nm_m31, nm_m63, nm_m255, nm_m511, nm_m1023, nm_m2047, nm_m65535, Nat.reduceMod, Nat.reducePow, Nat.reduceAdd, Nat.reduceSub, Nat.reduceMul, nm_bo, nm_bi, nm_rc, nm_ic, nm_ri, nm_rl, nm_rq, nm_ql, nm_qi, nm_li, nm_us, nm_uu, nm_cp, nm_sa31, nm_sa7, nm_m127, nm_m2, nm_nz, nm_nzk, nm_eq32, nm_nzf, if_true, if_false, ↓reduceIte, if_pos, if_neg]
  have e := b8_255 hb
  simp (disch := (first | assumption | decide | omega)) only [df_X10_comingByte_24, df_X10_comingByte_0, df_X10_comingByte, df_X10_byteOf_0, df_X10_byteOf, of0, Nat.add_zero, y5, y8, u8, e, eq_self, Nat.reduceEqDiff, Nat.reduceLeDiff, nl_0, nl_1, nl_2, nl_3, nl_4, nl_5, nl_7, nl_32, nl_240, nl_255, nl_511, nl_512, nl_4096, nl_8192, no_1, no_1024, pk_mul, nI_add, nm_ck, nI_clamp, nI_ltI, nI_leI, nI_eq, nb_b2, nb_b1, ↓nb_let, nm_z0, nm_z1, nb_II, nb_IR, nb_RI, nb_RR, nm_IL, nm_IQ, nm_RL, nm_RQ, nm_LI, nm_LR, nm_LL, nm_LQ, nm_QI, nm_QR, nm_QL, nm_QQ, nm_rr, nm_ii, nm_eqm, not_false_eq_true, pk_sub, nm_div, nm_shl, nm_shr, nm_ush, nm_or8, nm_or64, nm_or256, nm_m1, nm_m3, nm_m7, nm_m15, nm_m31, nm_m63, nm_m255, nm_m511, nm_m1023, nm_m2047, nm_m65535, Nat.reduceMod, Nat.reducePow, Nat.reduceAdd, Nat.reduceSub, Nat.reduceMul, nm_bo, nm_bi, nm_rc, nm_ic, nm_ri, nm_rl, nm_rq, nm_ql, nm_qi, nm_li, nm_us, nm_uu, nm_cp, nm_sa31, nm_sa7, nm_m127, nm_m2, nm_nz, nm_nzk, nm_eq32, nm_nzf, if_true, if_false, ↓reduceIte, if_pos, if_neg]
