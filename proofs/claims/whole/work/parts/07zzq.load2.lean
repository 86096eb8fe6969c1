theorem o_tk {t k : Nat} (ht : t ≤ 64) (hk : k ≤ 40) : t * 1024 + k * 1024 < 2 ^ 31 := by omega
theorem lr_59 (n : Nat) (hn : 1024 < n) {Y Y1 : St × St} {p v T : Nat} (hT : T ≤ 32768) (hY : nps n p 5 0 ((T + 1023) / 1024) Y = some Y1) : df_X16_load_59 n n (nI p) (nI v) (nI T) (nI 0) Y = df_X16_load_89 n n (nI p) (nI v) (nI 0) Y1 := by
  obtain ⟨m, s', i1, e⟩ := nm_l1 (S := St × St) (fun g k s => df_X16_load_59 n g (nI p) (nI v) (nI T) (nI (k * 1024)) s) (fun k s => nps n p 5 0 k Y = some s) ((T + 1023) / 1024) n (by omega) (fun k g s hk i1 => by
    obtain ⟨s', e1, e2⟩ := nps_t hY hk i1
    rw [Nat.zero_add] at e1
    refine ⟨s', e2, ?_⟩
    have k1 : ¬ T ≤ k * 1024 := by omega
    have k2 : k * 1024 / 1024 = k := by omega
    have k3 : k * 1024 + 1024 = (k + 1) * 1024 := by omega
    have u1 : k * 1024 < 2 ^ 31 := by omega
    have u2 : T < 2 ^ 31 := by omega
    rw [show df_X16_load_59 n (g + 1) = dF_X16_load_59 n (df_X16_load_59 n g) from rfl]
    generalize df_X16_load_59 n g = G
    simp (disch := (first | assumption | decide | omega)) only [dF_X16_load_59, k1, k2, e1, k3, eq_self, Nat.reduceEqDiff, Nat.reduceLeDiff, nl_0, nl_5, nl_1024, no_1, no_1024, pk_mul, nI_add, nm_ck, nI_clamp, nI_ltI, nI_leI, nI_eq, nb_b2, nb_b1, ↓nb_let, nm_z0, nm_z1, nb_II, nb_IR, nb_RI, nb_RR, nm_IL, nm_IQ, nm_RL, nm_RQ, nm_LI, nm_LR, nm_LL, nm_LQ, nm_QI, nm_QR, nm_QL, nm_QQ, nm_rr, nm_ii, nm_eqm, not_false_eq_true, pk_sub, nm_div, nm_shl, nm_shr, nm_ush, nm_or8, nm_or64, nm_or256, nm_m1, nm_m3, nm_m7, nm_m15, nm_m31, nm_m63, nm_m255, nm_m511, nm_m1023, nm_m2047, nm_m65535, Nat.reduceMod, Nat.reducePow, Nat.reduceAdd, Nat.reduceSub, Nat.reduceMul, nm_bo, nm_bi, nm_rc, nm_ic, nm_ri, nm_rl, nm_rq, nm_ql, nm_qi, nm_li, nm_us, nm_uu, nm_cp, nm_sa31, nm_sa7, nm_m127, nm_m2, nm_nz, nm_nzk, nm_eq32, nm_nzf, if_true, if_false, ↓reduceIte, if_pos, if_neg]) Y rfl
  rw [hY] at i1
  cases i1
  refine Eq.trans (b := df_X16_load_59 n n (nI p) (nI v) (nI T) (nI (0 * 1024)) Y) (by rw [Nat.zero_mul]) (Eq.trans e ?_)
  show df_X16_load_59 n (m + 1) (nI p) (nI v) (nI T) (nI ((T + 1023) / 1024 * 1024)) Y1 = _
  have k1 : T ≤ (T + 1023) / 1024 * 1024 := by omega
  have u1 : (T + 1023) / 1024 * 1024 < 2 ^ 31 := by omega
  have u2 : T < 2 ^ 31 := by omega
  generalize (T + 1023) / 1024 * 1024 = D at k1 u1
  rw [show df_X16_load_59 n (m + 1) = dF_X16_load_59 n (df_X16_load_59 n m) from rfl]
  generalize df_X16_load_59 n m = G
  generalize hF : df_X16_load_89 n n = F
  unfold dF_X16_load_59
  rw [if_pos (by rw [nI_leI u2 u1]; exact k1), hF]
  rfl
theorem lr_89 (n : Nat) (hn : 1024 < n) {Y Y1 : St × St} {p v t d : Nat} (hv : v < 4) (ht : t ≤ 64) (hd : d ≤ 32768) (ds : df_X17_dataSize n (nI v) Y.2 = some (nI d, Y.2)) (e2 : sR Y.2 2 v = nI (t * 1024)) (hY : nps n p 3 t ((d + 1023) / 1024) Y = some Y1) (hk : ∀ j : Nat, j ≤ (d + 1023) / 1024 → ∃ s : St × St, nps n p 3 t j Y = some s ∧ s.2 = Y.2) : df_X16_load_89 n n (nI p) (nI v) (nI 0) Y = df_X16_load_137 n n (nI p) (nI v) (nI 60) Y1 := by
  have u4 : v < 2 ^ 31 := by omega
  have u2 : d < 2 ^ 31 := by omega
  obtain ⟨m, s', ⟨i1, i2⟩, e⟩ := nm_l1 (S := St × St) (fun g k s => df_X16_load_89 n g (nI p) (nI v) (nI (k * 1024)) s) (fun k s => nps n p 3 t k Y = some s ∧ s.2 = Y.2) ((d + 1023) / 1024) n (by omega) (fun k g s hk' ⟨i1, i2⟩ => by
    obtain ⟨s', e1, e3⟩ := nps_t hY hk' i1
    obtain ⟨s'', y1, y2⟩ := hk (k + 1) (by omega)
    rw [e3] at y1
    cases y1
    refine ⟨s', ⟨e3, y2⟩, ?_⟩
    have k1 : ¬ d ≤ k * 1024 := by omega
    have k2 : (t * 1024 + k * 1024) / 1024 = t + k := by omega
    have k3 : k * 1024 + 1024 = (k + 1) * 1024 := by omega
    have u1 : k * 1024 < 2 ^ 31 := by omega
    have u3 : t * 1024 + k * 1024 < 2 ^ 31 := o_tk ht (show k ≤ 40 by omega)
    rw [← i2] at ds e2
    have es : (s.1, s.2) = s := rfl
    rw [show df_X16_load_89 n (g + 1) = dF_X16_load_89 n (df_X16_load_89 n g) from rfl]
    generalize df_X16_load_89 n g = G
    clear hY hk i1 e3
    simp (disch := (first | assumption | decide | omega)) only [dF_X16_load_89, ds, k1, e2, k2, e1, k3, eq_self, Nat.reduceEqDiff, Nat.reduceLeDiff, nl_2, nl_3, nl_4, nl_60, nl_1024, no_1, no_1024, pk_mul, nI_add, nm_ck, nI_clamp, nI_ltI, nI_leI, nI_eq, nb_b2, nb_b1, ↓nb_let, nm_z0, nm_z1, nb_II, nb_IR, nb_RI, nb_RR, nm_IL, nm_IQ, nm_RL, nm_RQ, nm_LI, nm_LR, nm_LL, nm_LQ, nm_QI, nm_QR, nm_QL, nm_QQ, nm_rr, nm_ii, nm_eqm, not_false_eq_true, pk_sub, nm_div, nm_shl, nm_shr, nm_ush, nm_or8, nm_or64, nm_or256, nm_m1, nm_m3, nm_m7, nm_m15, nm_m31, nm_m63, nm_m255, nm_m511, nm_m1023, nm_m2047, nm_m65535, Nat.reduceMod, Nat.reducePow, Nat.reduceAdd, Nat.reduceSub, Nat.reduceMul, nm_bo, nm_bi, nm_rc, nm_ic, nm_ri, nm_rl, nm_rq, nm_ql, nm_qi, nm_li, nm_us, nm_uu, nm_cp, nm_sa31, nm_sa7, nm_m127, nm_m2, nm_nz, nm_nzk, nm_eq32, nm_nzf, if_true, if_false, ↓reduceIte, if_pos, if_neg]) Y ⟨rfl, rfl⟩
  rw [hY] at i1
  cases i1
  refine Eq.trans (b := df_X16_load_89 n n (nI p) (nI v) (nI (0 * 1024)) Y) (by rw [Nat.zero_mul]) (Eq.trans e ?_)
  show df_X16_load_89 n (m + 1) (nI p) (nI v) (nI ((d + 1023) / 1024 * 1024)) Y1 = _
  have k1 : d ≤ (d + 1023) / 1024 * 1024 := by omega
  have u1 : (d + 1023) / 1024 * 1024 < 2 ^ 31 := by omega
  generalize (d + 1023) / 1024 * 1024 = D at k1 u1
  rw [show df_X16_load_89 n (m + 1) = dF_X16_load_89 n (df_X16_load_89 n m) from rfl]
  generalize df_X16_load_89 n m = G
  generalize hF : df_X16_load_137 n n = F
  rw [← i2] at ds
  unfold dF_X16_load_89
  rw [ds, nb_b2, nb_let, if_pos (by rw [nI_leI u2 u1]; exact k1), hF]
  rfl
theorem lr_137 (n : Nat) (hn : 1024 < n) {Y Y1 : St × St} {p v : Nat} (hY : nps n p 3 60 4 Y = some Y1) : df_X16_load_137 n n (nI p) (nI v) (nI 60) Y = df_X16_load_161 n n (nI p) (nI v) (nI 0) Y1 := by
  obtain ⟨m, s', i1, e⟩ := nm_l1 (S := St × St) (fun g k s => df_X16_load_137 n g (nI p) (nI v) (nI (60 + k)) s) (fun k s => nps n p 3 60 k Y = some s) 4 n (by omega) (fun k g s hk i1 => by
    obtain ⟨s', e1, e2⟩ := nps_t hY hk i1
    refine ⟨s', e2, ?_⟩
    have k1 : ¬ 64 ≤ 60 + k := by omega
    have k3 : 60 + k + 1 = 60 + (k + 1) := by omega
    have u1 : 60 + k < 2 ^ 31 := by omega
    rw [show df_X16_load_137 n (g + 1) = dF_X16_load_137 n (df_X16_load_137 n g) from rfl]
    generalize df_X16_load_137 n g = G
    simp (disch := (first | assumption | decide | omega)) only [dF_X16_load_137, k1, e1, k3, eq_self, Nat.reduceEqDiff, Nat.reduceLeDiff, nl_0, nl_1, nl_3, nl_64, no_1, no_1024, pk_mul, nI_add, nm_ck, nI_clamp, nI_ltI, nI_leI, nI_eq, nb_b2, nb_b1, ↓nb_let, nm_z0, nm_z1, nb_II, nb_IR, nb_RI, nb_RR, nm_IL, nm_IQ, nm_RL, nm_RQ, nm_LI, nm_LR, nm_LL, nm_LQ, nm_QI, nm_QR, nm_QL, nm_QQ, nm_rr, nm_ii, nm_eqm, not_false_eq_true, pk_sub, nm_div, nm_shl, nm_shr, nm_ush, nm_or8, nm_or64, nm_or256, nm_m1, nm_m3, nm_m7, nm_m15, nm_m31, nm_m63, nm_m255, nm_m511, nm_m1023, nm_m2047, nm_m65535, Nat.reduceMod, Nat.reducePow, Nat.reduceAdd, Nat.reduceSub, Nat.reduceMul, nm_bo, nm_bi, nm_rc, nm_ic, nm_ri, nm_rl, nm_rq, nm_ql, nm_qi, nm_li, nm_us, nm_uu, nm_cp, nm_sa31, nm_sa7, nm_m127, nm_m2, nm_nz, nm_nzk, nm_eq32, nm_nzf, if_true, if_false, ↓reduceIte, if_pos, if_neg]) Y rfl
  rw [hY] at i1
  cases i1
  refine Eq.trans e ?_
  show df_X16_load_137 n (m + 1) (nI p) (nI v) (nI (60 + 4)) Y1 = _
  rw [show df_X16_load_137 n (m + 1) = dF_X16_load_137 n (df_X16_load_137 n m) from rfl]
  generalize df_X16_load_137 n m = G
  generalize hF : df_X16_load_161 n n = F
  unfold dF_X16_load_137
  rw [if_pos (show (64 : Int32) ≤ nI (60 + 4) by decide), hF]
  rfl
/-- a program's first registers, in the class -/
def rgl (f : Nat → Int32) (p k : Nat) : Nat → Int32 := fun i => if p * 33 ≤ i ∧ i < p * 33 + k then (if i = p * 33 + 2 then nI 65536 else nI 0) else f i
theorem rgl_0 (f : Nat → Int32) (p : Nat) : rgl f p 0 = f := by
  funext i
  exact if_neg (by omega)
theorem rgl_s (f : Nat → Int32) (p k : Nat) (v : Int32) (hv : v = if k = 2 then nI 65536 else nI 0) : upd (rgl f p k) (p * 33 + k) v = rgl f p (k + 1) := by
  funext i
  unfold rgl
  by_cases c : i = p * 33 + k
  · rw [c, nm_us, if_pos (by omega), hv]
    by_cases d : k = 2
    · rw [if_pos d, if_pos (by omega)]
    · rw [if_neg d, if_neg (by omega)]
  · rw [nm_un c]
    by_cases d : p * 33 ≤ i ∧ i < p * 33 + k
    · rw [if_pos d, if_pos (show p * 33 ≤ i ∧ i < p * 33 + (k + 1) by omega)]
    · rw [if_neg d, if_neg (show ¬ (p * 33 ≤ i ∧ i < p * 33 + (k + 1)) by omega)]
theorem rgl_i (f : Nat → Int32) {p r : Nat} (hr : r < 33) : rgl f p 33 (p * 33 + r) = if r = 2 then nI 65536 else nI 0 := by
  unfold rgl
  rw [if_pos (by omega)]
  by_cases c : r = 2
  · rw [if_pos c, if_pos (by omega)]
  · rw [if_neg c, if_neg (by omega)]
theorem rgl_o (f : Nat → Int32) {p i : Nat} (hi : ¬ (p * 33 ≤ i ∧ i < p * 33 + 33)) : rgl f p 33 i = f i := if_neg hi
/-- behind the image: the class's registers, handlers, heap -/
theorem lc_80 (n : Nat) (hn : 1024 < n) {V : St × St} {P Q s0 : St} {p v T Z : Nat} (hp : p < 16) (pg : rPg P Q v T Z) : df_X6_load_80 n n (nI p) (nI 0) (s0, (V, P)) = some (s0, ((pI (pQ (pR (pR (pR V.1 3 (rgl (sR V.1 3) p 33)) 5 (fl (sR V.1 5) (p * 16) 16 (nI 0))) 6 (upd (upd (upd (sR V.1 6) (p * 7 + 4) (nI 0)) (p * 7 + 5) (nI ((Z + 1023) / 1024 * 1024))) (p * 7 + 6) (nI ((Z + 1023) / 1024 * 1024)))) 0 (vp_updL (sQ V.1 0) p (-1))) 6 (-nI 1), V.2), P)) := by
  obtain ⟨m, hm⟩ := nm_lq (fun m k => df_X6_load_80 n m (nI p) (nI k) (s0, ((pR V.1 3 (rgl (sR V.1 3) p k), V.2), P))) 33 n (by omega) (fun k m hk => by
    have u1 : p * 33 + k < 528 := by omega
    have u2 : p * 33 + k < 2 ^ 31 := by omega
    have u3 : k < 2 ^ 31 := by omega
    have k1 : ¬ 33 ≤ k := by omega
    rw [show df_X6_load_80 n (m + 1) = dF_X6_load_80 n (df_X6_load_80 n m) from rfl]
    generalize df_X6_load_80 n m = G
    by_cases c : k = 2
    · have e := rgl_s (sR V.1 3) p k (nI 65536) (by rw [if_pos c])
      simp (disch := (first | assumption | decide | omega)) only [dF_X6_load_80, df_X6_load_107, k1, c, e, eq_self, Nat.reduceEqDiff, Nat.reduceLeDiff, nl_0, nl_1, nl_2, nl_3, nl_33, nl_528, nl_65536, no_1, no_1024, pk_mul, nI_add, nm_ck, nI_clamp, nI_ltI, nI_leI, nI_eq, nb_b2, nb_b1, ↓nb_let, nm_z0, nm_z1, nb_II, nb_IR, nb_RI, nb_RR, nm_IL, nm_IQ, nm_RL, nm_RQ, nm_LI, nm_LR, nm_LL, nm_LQ, nm_QI, nm_QR, nm_QL, nm_QQ, nm_rr, nm_ii, nm_eqm, not_false_eq_true, pk_sub, nm_div, nm_shl, nm_shr, nm_ush, nm_or8, nm_or64, nm_or256, nm_m1, nm_m3, nm_m7, nm_m15, nm_m31, nm_m63, nm_m255, nm_m511, nm_m1023, nm_m2047, nm_m65535, Nat.reduceMod, Nat.reducePow, Nat.reduceAdd, Nat.reduceSub, Nat.reduceMul, nm_bo, nm_bi, nm_rc, nm_ic, nm_ri, nm_rl, nm_rq, nm_ql, nm_qi, nm_li, nm_us, nm_uu, nm_cp, nm_sa31, nm_sa7, nm_m127, nm_m2, nm_nz, nm_nzk, nm_eq32, nm_nzf, if_true, if_false, ↓reduceIte, if_pos, if_neg]
      rw [c] at e
      rw [e]
    · have e := rgl_s (sR V.1 3) p k (nI 0) (by rw [if_neg c])
      simp (disch := (first | assumption | decide | omega)) only [dF_X6_load_80, df_X6_load_107, k1, c, e, eq_self, Nat.reduceEqDiff, Nat.reduceLeDiff, nl_0, nl_1, nl_2, nl_3, nl_33, nl_528, nl_65536, no_1, no_1024, pk_mul, nI_add, nm_ck, nI_clamp, nI_ltI, nI_leI, nI_eq, nb_b2, nb_b1, ↓nb_let, nm_z0, nm_z1, nb_II, nb_IR, nb_RI, nb_RR, nm_IL, nm_IQ, nm_RL, nm_RQ, nm_LI, nm_LR, nm_LL, nm_LQ, nm_QI, nm_QR, nm_QL, nm_QQ, nm_rr, nm_ii, nm_eqm, not_false_eq_true, pk_sub, nm_div, nm_shl, nm_shr, nm_ush, nm_or8, nm_or64, nm_or256, nm_m1, nm_m3, nm_m7, nm_m15, nm_m31, nm_m63, nm_m255, nm_m511, nm_m1023, nm_m2047, nm_m65535, Nat.reduceMod, Nat.reducePow, Nat.reduceAdd, Nat.reduceSub, Nat.reduceMul, nm_bo, nm_bi, nm_rc, nm_ic, nm_ri, nm_rl, nm_rq, nm_ql, nm_qi, nm_li, nm_us, nm_uu, nm_cp, nm_sa31, nm_sa7, nm_m127, nm_m2, nm_nz, nm_nzk, nm_eq32, nm_nzf, if_true, if_false, ↓reduceIte, if_pos, if_neg])
  rw [rgl_0, nm_r0] at hm
  refine Eq.trans hm ?_
  clear hm
  show df_X6_load_80 n (m + 1) (nI p) (nI 33) _ = _
  have hs := lp_h n pg
  generalize (Z + 1023) / 1024 * 1024 = H at hs
  generalize rgl (sR V.1 3) p 33 = R
  rw [show df_X6_load_80 n (m + 1) = dF_X6_load_80 n (df_X6_load_80 n m) from rfl]
  generalize df_X6_load_80 n m = G
  obtain ⟨m', hm⟩ := nm_lq (fun m k => df_X6_load_116 n m (nI p) (nI k) (s0, ((pR (pR V.1 3 R) 5 (fl (sR V.1 5) (p * 16) k (nI 0)), V.2), P))) 16 n (by omega) (fun k m hk => by
    have u1 : p * 16 + k < 256 := by omega
    have u2 : p * 16 + k < 2 ^ 31 := by omega
    have u3 : k < 2 ^ 31 := by omega
    have k1 : ¬ 16 ≤ k := by omega
    rw [show df_X6_load_116 n (m + 1) = dF_X6_load_116 n (df_X6_load_116 n m) from rfl]
    generalize df_X6_load_116 n m = G
    simp (disch := (first | assumption | decide | omega)) only [dF_X6_load_116, k1, fl_s, eq_self, Nat.reduceEqDiff, Nat.reduceLeDiff, nl_0, nl_1, nl_4, nl_5, nl_6, nl_7, nl_16, nl_112, nl_256, no_1, no_1024, pk_mul, nI_add, nm_ck, nI_clamp, nI_ltI, nI_leI, nI_eq, nb_b2, nb_b1, ↓nb_let, nm_z0, nm_z1, nb_II, nb_IR, nb_RI, nb_RR, nm_IL, nm_IQ, nm_RL, nm_RQ, nm_LI, nm_LR, nm_LL, nm_LQ, nm_QI, nm_QR, nm_QL, nm_QQ, nm_rr, nm_ii, nm_eqm, not_false_eq_true, pk_sub, nm_div, nm_shl, nm_shr, nm_ush, nm_or8, nm_or64, nm_or256, nm_m1, nm_m3, nm_m7, nm_m15, nm_m31, nm_m63, nm_m255, nm_m511, nm_m1023, nm_m2047, nm_m65535, Nat.reduceMod, Nat.reducePow, Nat.reduceAdd, Nat.reduceSub, Nat.reduceMul, nm_bo, nm_bi, nm_rc, nm_ic, nm_ri, nm_rl, nm_rq, nm_ql, nm_qi, nm_li, nm_us, nm_uu, nm_cp, nm_sa31, nm_sa7, nm_m127, nm_m2, nm_nz, nm_nzk, nm_eq32, nm_nzf, if_true, if_false, ↓reduceIte, if_pos, if_neg])
  rw [fl_0] at hm
  have e5 : pR (pR V.1 3 R) 5 (sR V.1 5) = pR V.1 3 R := by
    rw [show sR V.1 5 = sR (pR V.1 3 R) 5 from rfl, nm_r0]
  rw [e5] at hm
  generalize fl (sR V.1 5) (p * 16) 16 (nI 0) = F at hm
  unfold dF_X6_load_80
  rw [if_pos (show (33 : Int32) ≤ nI 33 by decide)]
  refine Eq.trans hm ?_
  clear hm
  show df_X6_load_116 n (m' + 1) (nI p) (nI 16) _ = _
  rw [show df_X6_load_116 n (m' + 1) = dF_X6_load_116 n (df_X6_load_116 n m') from rfl]
  generalize df_X6_load_116 n m' = G'
  have u1 : p * 7 + 4 < 112 := by omega
  have u2 : p * 7 + 4 < 2 ^ 31 := by omega
  have u3 : p * 7 + 5 < 112 := by omega
  have u4 : p * 7 + 5 < 2 ^ 31 := by omega
  have u5 : p * 7 + 6 < 112 := by omega
  have u6 : p * 7 + 6 < 2 ^ 31 := by omega
  have u7 : p < 2 ^ 31 := by omega
  simp (disch := (first | assumption | decide | omega)) only [dF_X6_load_116, hs, eq_self, Nat.reduceEqDiff, Nat.reduceLeDiff, nl_0, nl_1, nl_4, nl_5, nl_6, nl_7, nl_16, nl_112, nl_256, no_1, no_1024, pk_mul, nI_add, nm_ck, nI_clamp, nI_ltI, nI_leI, nI_eq, nb_b2, nb_b1, ↓nb_let, nm_z0, nm_z1, nb_II, nb_IR, nb_RI, nb_RR, nm_IL, nm_IQ, nm_RL, nm_RQ, nm_LI, nm_LR, nm_LL, nm_LQ, nm_QI, nm_QR, nm_QL, nm_QQ, nm_rr, nm_ii, nm_eqm, not_false_eq_true, pk_sub, nm_div, nm_shl, nm_shr, nm_ush, nm_or8, nm_or64, nm_or256, nm_m1, nm_m3, nm_m7, nm_m15, nm_m31, nm_m63, nm_m255, nm_m511, nm_m1023, nm_m2047, nm_m65535, Nat.reduceMod, Nat.reducePow, Nat.reduceAdd, Nat.reduceSub, Nat.reduceMul, nm_bo, nm_bi, nm_rc, nm_ic, nm_ri, nm_rl, nm_rq, nm_ql, nm_qi, nm_li, nm_us, nm_uu, nm_cp, nm_sa31, nm_sa7, nm_m127, nm_m2, nm_nz, nm_nzk, nm_eq32, nm_nzf, if_true, if_false, ↓reduceIte, if_pos, if_neg]
