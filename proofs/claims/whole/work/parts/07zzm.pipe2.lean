theorem wvs_c {X Y : St × St} (e1 : sI Y.1 14 = sI X.1 14) (e2 : sI Y.1 15 = sI X.1 15) (wr : Int32) (p a : Nat) : ∀ k : Nat, wvs Y wr p a k = wvs X wr p a k
  | 0 => rfl
  | k + 1 => by
    show wv Y (wvs Y wr p a k) p (a + k) = wv X (wvs X wr p a k) p (a + k)
    rw [wvs_c e1 e2 wr p a k]
    unfold wv
    rw [e1, e2]
/-- whose page it is: the page alone counts -/
theorem own_pg (n : Nat) {p a b : Nat} (ha : a < 65536) (hb : b < 65536) (e : a / 1024 = b / 1024) (M : St × St) : df_X6_own n (nI p) (nI a) M = df_X6_own n (nI p) (nI b) M := by
  have k : ∀ c : Nat, c < 65536 → ((nI c).toUInt32 >>> ((10 : Int32).toUInt32 &&& Int32.toUInt32 31)).toInt32 = nI (c / 1024) := fun c hc => by simp (disch := (first | assumption | decide | omega)) only [eq_self, Nat.reduceEqDiff, Nat.reduceLeDiff, nl_10, nl_31, no_1, no_1024, pk_mul, nI_add, nm_ck, nI_clamp, nI_ltI, nI_leI, nI_eq, nb_b2, nb_b1, ↓nb_let, nm_z0, nm_z1, nb_II, nb_IR, nb_RI, nb_RR, nm_IL, nm_IQ, nm_RL, nm_RQ, nm_LI, nm_LR, nm_LL, nm_LQ, nm_QI, nm_QR, nm_QL, nm_QQ, nm_rr, nm_ii, nm_eqm, not_false_eq_true, pk_sub, nm_div, nm_shl, nm_shr, nm_ush, nm_or8, nm_or64, nm_or256, nm_m1, nm_m3, nm_m7, nm_m15, nm_m31, nm_m63, nm_m255, nm_m511, nm_m1023, nm_m2047, nm_m65535, Nat.reduceMod, Nat.reducePow, Nat.reduceAdd, Nat.reduceSub, Nat.reduceMul, nm_bo, nm_bi, nm_rc, nm_ic, nm_ri, nm_rl, nm_rq, nm_ql, nm_qi, nm_li, nm_us, nm_uu, nm_cp, nm_sa31, nm_sa7, nm_m127, nm_m2, nm_nz, nm_nzk, nm_eq32, nm_nzf, if_true, if_false, ↓reduceIte, if_pos, if_neg]
  unfold df_X6_own df_X6_own_0
  rw [k a ha, k b hb, e]
/-- the reference's eight bytes -/
theorem pp_R (n : Nat) (hn : 8 < n) {X : St × St} {p A d e : Nat} (h3 : sI X.1 12 = nI p) {v : Nat → Int32} (hv : v = fun k => (if k < 4 then nI d else nI e) >>> nI (8 * (k % 4))) {Y : St × St} (hY : wrs n p A v 8 X = some Y) (hk : ∀ k : Nat, k ≤ 8 → ∃ (b' fr' ho' : Nat → Int32) (us' re' wr' : Int32), wrs n p A v k X = some (wX X b' fr' (sR X.1 17) ho' us' re' wr')) : df_X16_pipe_142 n n (nI A) (nI d) (nI e) (nI 0) X = some (nI 0, Y) := by
  obtain ⟨m', s', ⟨i1, i2⟩, e⟩ := nm_l1 (S := St × St) (fun g k s => df_X16_pipe_142 n g (nI A) (nI d) (nI e) (nI k) s) (fun k s => wrs n p A v k X = some s ∧ sI s.1 12 = nI p) 8 n (by omega) (fun k g s hk' ⟨i1, i2⟩ => by
    obtain ⟨b', fr', ho', us', re', wr', e1⟩ := hk (k + 1) (by omega)
    have e1' : nd_b1 (wrs n p A v k X) (fun s => df_X16_write n (nI p) (nI (A + k)) (v k) s) = some (wX X b' fr' (sR X.1 17) ho' us' re' wr') := e1
    rw [i1, nb_b1] at e1'
    refine ⟨_, ⟨e1, h3⟩, ?_⟩
    have hs : 8 * (k - k / 4 * 4) % 32 = 8 * (k % 4) := by omega
    have k8 : ¬ 8 ≤ k := by omega
    have u1 : k < 2 ^ 31 := by omega
    have vk : v k = (if k < 4 then nI d else nI e) >>> nI (8 * (k % 4)) := by rw [hv]
    rw [vk] at e1'
    rw [show df_X16_pipe_142 n (g + 1) = dF_X16_pipe_142 n (df_X16_pipe_142 n g) from rfl]
    generalize df_X16_pipe_142 n g = G
    by_cases c : 4 ≤ k
    · rw [if_neg (by omega)] at e1'
      simp (disch := (first | assumption | decide | omega)) only [dF_X16_pipe_142, df_X16_pipe_170, k8, c, i2, hs, e1', eq_self, Nat.reduceEqDiff, Nat.reduceLeDiff, nl_0, nl_1, nl_4, nl_8, nl_12, nl_31, no_1, no_1024, pk_mul, nI_add, nm_ck, nI_clamp, nI_ltI, nI_leI, nI_eq, nb_b2, nb_b1, ↓nb_let, nm_z0, nm_z1, nb_II, nb_IR, nb_RI, nb_RR, nm_IL, nm_IQ, nm_RL, nm_RQ, nm_LI, nm_LR, nm_LL, nm_LQ, nm_QI, nm_QR, nm_QL, nm_QQ, nm_rr, nm_ii, nm_eqm, not_false_eq_true, pk_sub, nm_div, nm_shl, nm_shr, nm_ush, nm_or8, nm_or64, nm_or256, nm_m1, nm_m3, nm_m7, nm_m15, nm_m31, nm_m63, nm_m255, nm_m511, nm_m1023, nm_m2047, nm_m65535, Nat.reduceMod, Nat.reducePow, Nat.reduceAdd, Nat.reduceSub, Nat.reduceMul, nm_bo, nm_bi, nm_rc, nm_ic, nm_ri, nm_rl, nm_rq, nm_ql, nm_qi, nm_li, nm_us, nm_uu, nm_cp, nm_sa31, nm_sa7, nm_m127, nm_m2, nm_nz, nm_nzk, nm_eq32, nm_nzf, if_true, if_false, ↓reduceIte, if_pos, if_neg]
    · rw [if_pos (by omega)] at e1'
      simp (disch := (first | assumption | decide | omega)) only [dF_X16_pipe_142, df_X16_pipe_170, k8, c, i2, hs, e1', eq_self, Nat.reduceEqDiff, Nat.reduceLeDiff, nl_0, nl_1, nl_4, nl_8, nl_12, nl_31, no_1, no_1024, pk_mul, nI_add, nm_ck, nI_clamp, nI_ltI, nI_leI, nI_eq, nb_b2, nb_b1, ↓nb_let, nm_z0, nm_z1, nb_II, nb_IR, nb_RI, nb_RR, nm_IL, nm_IQ, nm_RL, nm_RQ, nm_LI, nm_LR, nm_LL, nm_LQ, nm_QI, nm_QR, nm_QL, nm_QQ, nm_rr, nm_ii, nm_eqm, not_false_eq_true, pk_sub, nm_div, nm_shl, nm_shr, nm_ush, nm_or8, nm_or64, nm_or256, nm_m1, nm_m3, nm_m7, nm_m15, nm_m31, nm_m63, nm_m255, nm_m511, nm_m1023, nm_m2047, nm_m65535, Nat.reduceMod, Nat.reducePow, Nat.reduceAdd, Nat.reduceSub, Nat.reduceMul, nm_bo, nm_bi, nm_rc, nm_ic, nm_ri, nm_rl, nm_rq, nm_ql, nm_qi, nm_li, nm_us, nm_uu, nm_cp, nm_sa31, nm_sa7, nm_m127, nm_m2, nm_nz, nm_nzk, nm_eq32, nm_nzf, if_true, if_false, ↓reduceIte, if_pos, if_neg]) X ⟨rfl, h3⟩
  refine Eq.trans e ?_
  rw [hY] at i1
  cases i1
  show df_X16_pipe_142 n (m' + 1) _ _ _ (nI 8) _ = _
  rw [show df_X16_pipe_142 n (m' + 1) = dF_X16_pipe_142 n (df_X16_pipe_142 n m') from rfl]
  generalize df_X16_pipe_142 n m' = G
  simp (disch := (first | assumption | decide | omega)) only [dF_X16_pipe_142, eq_self, Nat.reduceEqDiff, Nat.reduceLeDiff, nl_0, nl_4, nl_8, nl_12, no_1, no_1024, pk_mul, nI_add, nm_ck, nI_clamp, nI_ltI, nI_leI, nI_eq, nb_b2, nb_b1, ↓nb_let, nm_z0, nm_z1, nb_II, nb_IR, nb_RI, nb_RR, nm_IL, nm_IQ, nm_RL, nm_RQ, nm_LI, nm_LR, nm_LL, nm_LQ, nm_QI, nm_QR, nm_QL, nm_QQ, nm_rr, nm_ii, nm_eqm, not_false_eq_true, pk_sub, nm_div, nm_shl, nm_shr, nm_ush, nm_or8, nm_or64, nm_or256, nm_m1, nm_m3, nm_m7, nm_m15, nm_m31, nm_m63, nm_m255, nm_m511, nm_m1023, nm_m2047, nm_m65535, Nat.reduceMod, Nat.reducePow, Nat.reduceAdd, Nat.reduceSub, Nat.reduceMul, nm_bo, nm_bi, nm_rc, nm_ic, nm_ri, nm_rl, nm_rq, nm_ql, nm_qi, nm_li, nm_us, nm_uu, nm_cp, nm_sa31, nm_sa7, nm_m127, nm_m2, nm_nz, nm_nzk, nm_eq32, nm_nzf, if_true, if_false, ↓reduceIte, if_pos, if_neg]
theorem pbs_8 (b : Nat → Int32) {p A : Nat} (hal : A % 4 = 0) (x y : Int32) : pbs b p A (fun k => (if k < 4 then x else y) >>> nI (8 * (k % 4))) 8 = upd (upd b ((64 * p + A / 1024) * 256 + A / 4 % 256) (pw (b ((64 * p + A / 1024) * 256 + A / 4 % 256)) (8 * (A % 4)) (mk 2) x)) ((64 * p + (A + 4) / 1024) * 256 + (A + 4) / 4 % 256) (pw (upd b ((64 * p + A / 1024) * 256 + A / 4 % 256) (pw (b ((64 * p + A / 1024) * 256 + A / 4 % 256)) (8 * (A % 4)) (mk 2) x) ((64 * p + (A + 4) / 1024) * 256 + (A + 4) / 4 % 256)) (8 * ((A + 4) % 4)) (mk 2) y) := by
  rw [← pbs_k b (p := p) (A := A) (f := 2) (k := 4) (Or.inr (Or.inr ⟨rfl, rfl⟩)) hal x]
  rw [← pbs_k (pbs b p A (fun k => x >>> nI (8 * k)) 4) (p := p) (A := A + 4) (f := 2) (k := 4) (Or.inr (Or.inr ⟨rfl, rfl⟩)) (by omega) y]
  rfl
/-- the class: no room for a pipe -/
theorem pc_58 (n : Nat) {K : St × (St × (St × St))} {x1 x2 x3 y0 q : Int32} {x : Nat} (fp : df_X10_freePipe n K.2.2.2 = some (q, K.2.2.2)) (of : df_X10_openingsFree n K.2.2.2 = some (nI x, K.2.2.2)) (hx : x < 2 ^ 31) (c : y0 < 0 ∨ q < 0 ∨ ¬ 2 ≤ x) : df_X5_pipe_58 n x1 x2 x3 y0 K = some (-4, K) := by
  unfold df_X5_pipe_58
  rw [fp, nb_b2, nb_let]
  by_cases a : y0 < 0
  · rw [if_pos a]; rfl
  rw [if_neg a]
  by_cases b : q < 0
  · rw [if_pos b]; rfl
  rw [if_neg b]
  rw [of, nb_b2, nb_let]
  rw [if_neg (show ¬ (2 : Int32) ≤ nI x from fun z => by
    have z : nI 2 ≤ nI x := z
    rw [nI_leI (by omega) hx] at z
    rcases c with c | c | c
    · exact a c
    · exact b c
    · exact c z)]
  rfl
theorem pc_f (n : Nat) {K : St × (St × (St × St))} {x1 x2 x3 y0 q : Int32} {x y z : Nat} (fp : df_X10_freePipe n K.2.2.2 = some (q, K.2.2.2)) (of : df_X10_openingsFree n K.2.2.2 = some (nI x, K.2.2.2)) (e0 : ¬ y0 < 0) (t0 : ¬ q < 0) (x2' : (2 : Int32) ≤ nI x) (fF : df_X6_framesFor n x1 x2 8 K.2.2 = some (nI y, K.2.2)) (fr : df_X6_framesFree n K.2.2 = some (nI z, K.2.2)) (yz : ¬ nI y ≤ nI z) : df_X5_pipe_58 n x1 x2 x3 y0 K = some (4398046511104, K) := by
  unfold df_X5_pipe_58
  rw [fp, nb_b2, nb_let, if_neg e0, if_neg t0, of, nb_b2, nb_let, if_pos x2', fF, nb_b2, nb_let, fr, nb_b2, nb_let, if_neg yz]
theorem pc_1 (n : Nat) {K : St × (St × (St × St))} {x1 x2 x3 y0 q : Int32} {x y z : Nat} (fp : df_X10_freePipe n K.2.2.2 = some (q, K.2.2.2)) (of : df_X10_openingsFree n K.2.2.2 = some (nI x, K.2.2.2)) (e0 : ¬ y0 < 0) (t0 : ¬ q < 0) (x2' : (2 : Int32) ≤ nI x) (fF : df_X6_framesFor n x1 x2 8 K.2.2 = some (nI y, K.2.2)) (fr : df_X6_framesFree n K.2.2 = some (nI z, K.2.2)) (yz : nI y ≤ nI z) {M1 M2 M5 M6 M7 : St × St} {v1 v2 o o' : Int32} {D0 D1 D2 D3 D4 : St} (o1 : df_X6_own n x1 x2 K.2.2 = some (v1, M1)) (o2 : df_X6_own n x1 (x2 + 4) M1 = some (v2, M2)) (em : df_X10_emptyPipe n q M2.2 = some D0) (p1 : df_X10_open n 1 q 1 D0 = some (o, D1)) (l1 : df_X10_linkTo n x1 x3 o D1 = some D2) (p2 : df_X10_open n 2 q 2 D2 = some (o', D3)) (l2 : df_X10_linkTo n x1 y0 o' D3 = some D4) (u1 : df_X6_put n x1 x2 (-1) x3 (M2.1, D4) = some M5) (u2 : df_X6_put n x1 (x2 + 4) (-1) y0 M5 = some M6) (nt : df_X6_noteWrite n x1 x2 8 M6 = some M7) : df_X5_pipe_58 n x1 x2 x3 y0 K = some (0, (K.1, (K.2.1, M7))) := by
  unfold df_X5_pipe_58
  rw [fp, nb_b2, nb_let, if_neg e0, if_neg t0, of, nb_b2, nb_let, if_pos x2', fF, nb_b2, nb_let, fr, nb_b2, nb_let, if_pos yz, o1, nb_b2, nb_let, o2, nb_b2, nb_let, em, nb_b1, nb_let, p1, nb_b2, nb_let, l1, nb_b1, nb_let, p2, nb_b2, nb_let, l2, nb_b1, nb_let, u1, nb_b1, nb_let, u2, nb_b1, nb_let, nt, nb_b1, nb_let]
theorem pr_4 (n : Nat) {X : St × St} {v : Int32} {t x y : Nat} (hx : x < 2 ^ 31) (hy : y < 2 ^ 31) (ht : t < 2 ^ 31) (f1 : df_X16_freeDescriptors n X = some (nI x, X)) (f2 : df_X16_openings n X = some (nI y, X)) (c : x < 2 ∨ 46 < y ∨ t = 8) : df_X16_pipe_50 n v (nI t) X = some (-nI 4, X) := by
  by_cases a : x < 2
  · simp (disch := (first | assumption | decide | omega)) only [df_X16_pipe_50, df_X16_pipe_73, f1, a, eq_self, Nat.reduceEqDiff, Nat.reduceLeDiff, nl_0, nl_1, nl_2, nl_3, nl_4, nl_8, nl_12, nl_23, nl_26, nl_46, no_1, no_1024, pk_mul, nI_add, nm_ck, nI_clamp, nI_ltI, nI_leI, nI_eq, nb_b2, nb_b1, ↓nb_let, nm_z0, nm_z1, nb_II, nb_IR, nb_RI, nb_RR, nm_IL, nm_IQ, nm_RL, nm_RQ, nm_LI, nm_LR, nm_LL, nm_LQ, nm_QI, nm_QR, nm_QL, nm_QQ, nm_rr, nm_ii, nm_eqm, not_false_eq_true, pk_sub, nm_div, nm_shl, nm_shr, nm_ush, nm_or8, nm_or64, nm_or256, nm_m1, nm_m3, nm_m7, nm_m15, nm_m31, nm_m63, nm_m255, nm_m511, nm_m1023, nm_m2047, nm_m65535, Nat.reduceMod, Nat.reducePow, Nat.reduceAdd, Nat.reduceSub, Nat.reduceMul, nm_bo, nm_bi, nm_rc, nm_ic, nm_ri, nm_rl, nm_rq, nm_ql, nm_qi, nm_li, nm_us, nm_uu, nm_cp, nm_sa31, nm_sa7, nm_m127, nm_m2, nm_nz, nm_nzk, nm_eq32, nm_nzf, if_true, if_false, ↓reduceIte, if_pos, if_neg]
  by_cases b : 46 < y
  · simp (disch := (first | assumption | decide | omega)) only [df_X16_pipe_50, df_X16_pipe_73, f1, a, f2, b, eq_self, Nat.reduceEqDiff, Nat.reduceLeDiff, nl_0, nl_1, nl_2, nl_3, nl_4, nl_8, nl_12, nl_23, nl_26, nl_46, no_1, no_1024, pk_mul, nI_add, nm_ck, nI_clamp, nI_ltI, nI_leI, nI_eq, nb_b2, nb_b1, ↓nb_let, nm_z0, nm_z1, nb_II, nb_IR, nb_RI, nb_RR, nm_IL, nm_IQ, nm_RL, nm_RQ, nm_LI, nm_LR, nm_LL, nm_LQ, nm_QI, nm_QR, nm_QL, nm_QQ, nm_rr, nm_ii, nm_eqm, not_false_eq_true, pk_sub, nm_div, nm_shl, nm_shr, nm_ush, nm_or8, nm_or64, nm_or256, nm_m1, nm_m3, nm_m7, nm_m15, nm_m31, nm_m63, nm_m255, nm_m511, nm_m1023, nm_m2047, nm_m65535, Nat.reduceMod, Nat.reducePow, Nat.reduceAdd, Nat.reduceSub, Nat.reduceMul, nm_bo, nm_bi, nm_rc, nm_ic, nm_ri, nm_rl, nm_rq, nm_ql, nm_qi, nm_li, nm_us, nm_uu, nm_cp, nm_sa31, nm_sa7, nm_m127, nm_m2, nm_nz, nm_nzk, nm_eq32, nm_nzf, if_true, if_false, ↓reduceIte, if_pos, if_neg]
  have d : t = 8 := by omega
  simp (disch := (first | assumption | decide | omega)) only [df_X16_pipe_50, df_X16_pipe_73, f1, a, f2, b, d, eq_self, Nat.reduceEqDiff, Nat.reduceLeDiff, nl_0, nl_1, nl_2, nl_3, nl_4, nl_8, nl_12, nl_23, nl_26, nl_46, no_1, no_1024, pk_mul, nI_add, nm_ck, nI_clamp, nI_ltI, nI_leI, nI_eq, nb_b2, nb_b1, ↓nb_let, nm_z0, nm_z1, nb_II, nb_IR, nb_RI, nb_RR, nm_IL, nm_IQ, nm_RL, nm_RQ, nm_LI, nm_LR, nm_LL, nm_LQ, nm_QI, nm_QR, nm_QL, nm_QQ, nm_rr, nm_ii, nm_eqm, not_false_eq_true, pk_sub, nm_div, nm_shl, nm_shr, nm_ush, nm_or8, nm_or64, nm_or256, nm_m1, nm_m3, nm_m7, nm_m15, nm_m31, nm_m63, nm_m255, nm_m511, nm_m1023, nm_m2047, nm_m65535, Nat.reduceMod, Nat.reducePow, Nat.reduceAdd, Nat.reduceSub, Nat.reduceMul, nm_bo, nm_bi, nm_rc, nm_ic, nm_ri, nm_rl, nm_rq, nm_ql, nm_qi, nm_li, nm_us, nm_uu, nm_cp, nm_sa31, nm_sa7, nm_m127, nm_m2, nm_nz, nm_nzk, nm_eq32, nm_nzf, if_true, if_false, ↓reduceIte, if_pos, if_neg]
theorem pr_f (n : Nat) {X : St × St} {v : Int32} {t x y w p : Nat} (h3 : sI X.1 12 = nI p) (hx : x < 2 ^ 31) (hy : y < 2 ^ 31) (ht : t < 2 ^ 31) (f1 : df_X16_freeDescriptors n X = some (nI x, X)) (f2 : df_X16_openings n X = some (nI y, X)) (a : ¬ x < 2) (b : ¬ 46 < y) (d : ¬ t = 8) (wa : df_X16_wanted n (nI p) v (nI 8) X = some (nI w, X)) (hF : df_X16_hasFrames n (nI w) X = some (nI 0, X)) : df_X16_pipe_50 n v (nI t) X = some (nI 0, (pI X.1 13 (nI 3), X.2)) := by
  simp (disch := (first | assumption | decide | omega)) only [df_X16_pipe_50, df_X16_tell_0, df_X16_tell, f1, a, f2, b, d, h3, wa, hF, eq_self, Nat.reduceEqDiff, Nat.reduceLeDiff, nl_0, nl_1, nl_2, nl_3, nl_8, nl_12, nl_13, nl_23, nl_26, nl_46, no_1, no_1024, pk_mul, nI_add, nm_ck, nI_clamp, nI_ltI, nI_leI, nI_eq, nb_b2, nb_b1, ↓nb_let, nm_z0, nm_z1, nb_II, nb_IR, nb_RI, nb_RR, nm_IL, nm_IQ, nm_RL, nm_RQ, nm_LI, nm_LR, nm_LL, nm_LQ, nm_QI, nm_QR, nm_QL, nm_QQ, nm_rr, nm_ii, nm_eqm, not_false_eq_true, pk_sub, nm_div, nm_shl, nm_shr, nm_ush, nm_or8, nm_or64, nm_or256, nm_m1, nm_m3, nm_m7, nm_m15, nm_m31, nm_m63, nm_m255, nm_m511, nm_m1023, nm_m2047, nm_m65535, Nat.reduceMod, Nat.reducePow, Nat.reduceAdd, Nat.reduceSub, Nat.reduceMul, nm_bo, nm_bi, nm_rc, nm_ic, nm_ri, nm_rl, nm_rq, nm_ql, nm_qi, nm_li, nm_us, nm_uu, nm_cp, nm_sa31, nm_sa7, nm_m127, nm_m2, nm_nz, nm_nzk, nm_eq32, nm_nzf, if_true, if_false, ↓reduceIte, if_pos, if_neg]
theorem pr_1 (n : Nat) {X X1 X2 X3 X4 : St × St} {v o d o' e : Int32} {t x y w p : Nat} (h3 : sI X.1 12 = nI p) (hx : x < 2 ^ 31) (hy : y < 2 ^ 31) (ht : t < 8) (f1 : df_X16_freeDescriptors n X = some (nI x, X)) (f2 : df_X16_openings n X = some (nI y, X)) (a : ¬ x < 2) (b : ¬ 46 < y) (wa : df_X16_wanted n (nI p) v (nI 8) X = some (nI w, X)) (hF : df_X16_hasFrames n (nI w) X = some (nI 1, X)) (p1 : df_X16_opening n (nI 1) (nI t) (nI 1) (pR (pR X.1 23 (upd (sR X.1 23) t (nI 1))) 26 (upd (sR X.1 26) t (nI 0)), X.2) = some (o, X1)) (g1 : df_X16_give n o X1 = some (d, X2)) (p2 : df_X16_opening n (nI 2) (nI t) (nI 2) X2 = some (o', X3)) (g2 : df_X16_give n o' X3 = some (e, X4)) : df_X16_pipe_50 n v (nI t) X = df_X16_pipe_142 n n v d e (nI 0) X4 := by
  have d8 : ¬ t = 8 := by omega
  have u1 : t < 2 ^ 31 := by omega
  generalize hG : df_X16_pipe_142 n n = G
  simp (disch := (first | assumption | decide | omega)) only [df_X16_pipe_50, hG, f1, a, f2, b, d8, h3, wa, hF, p1, g1, p2, g2, eq_self, Nat.reduceEqDiff, Nat.reduceLeDiff, nl_0, nl_1, nl_2, nl_3, nl_8, nl_12, nl_23, nl_26, nl_46, no_1, no_1024, pk_mul, nI_add, nm_ck, nI_clamp, nI_ltI, nI_leI, nI_eq, nb_b2, nb_b1, ↓nb_let, nm_z0, nm_z1, nb_II, nb_IR, nb_RI, nb_RR, nm_IL, nm_IQ, nm_RL, nm_RQ, nm_LI, nm_LR, nm_LL, nm_LQ, nm_QI, nm_QR, nm_QL, nm_QQ, nm_rr, nm_ii, nm_eqm, not_false_eq_true, pk_sub, nm_div, nm_shl, nm_shr, nm_ush, nm_or8, nm_or64, nm_or256, nm_m1, nm_m3, nm_m7, nm_m15, nm_m31, nm_m63, nm_m255, nm_m511, nm_m1023, nm_m2047, nm_m65535, Nat.reduceMod, Nat.reducePow, Nat.reduceAdd, Nat.reduceSub, Nat.reduceMul, nm_bo, nm_bi, nm_rc, nm_ic, nm_ri, nm_rl, nm_rq, nm_ql, nm_qi, nm_li, nm_us, nm_uu, nm_cp, nm_sa31, nm_sa7, nm_m127, nm_m2, nm_nz, nm_nzk, nm_eq32, nm_nzf, if_true, if_false, ↓reduceIte, if_pos, if_neg]
