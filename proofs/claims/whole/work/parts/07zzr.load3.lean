/-- the reference's machine as a program is loaded into it -/
def lX (X : St × St) (b fr ri ho : Nat → Int32) (us : Int32) (p H : Nat) : St × St := (pR (pR (xU (pR (pR X.1 9 (upd (fl (sR X.1 9) (32 * p) 32 (nI 0)) (32 * p + 2) (nI 65536))) 10 (upd (sR X.1 10) p (nI 0)), X.2) b fr ri ho us).1 6 (upd (sR X.1 6) p (nI H))) 5 (upd (sR X.1 5) p (nI H)), X.2)
/-- and the class's -/
def lM (M : St × St) (w u g : Nat → Int32) (fu : Int32) (p H : Nat) : St × St := (pI (pQ (pR (pR (pR (mU M w u g fu).1 3 (rgl (sR M.1 3) p 33)) 5 (fl (sR M.1 5) (p * 16) 16 (nI 0))) 6 (upd (upd (upd (sR M.1 6) (p * 7 + 4) (nI 0)) (p * 7 + 5) (nI H)) (p * 7 + 6) (nI H))) 0 (vp_updL (sQ M.1 0) p (-1))) 6 (-nI 1), M.2)
theorem lr_2 (n : Nat) (hn : 1024 < n) {X : St × St} {p v T : Nat} (hp : p < 16) (hv : v < 4) (e1 : sR X.2 1 v = nI T) : df_X16_load n (nI p) (nI v) X = df_X16_load_59 n n (nI p) (nI v) (nI T) (nI 0) (pR (pR X.1 9 (upd (fl (sR X.1 9) (32 * p) 32 (nI 0)) (32 * p + 2) (nI 65536))) 10 (upd (sR X.1 10) p (nI 0)), X.2) := by
  obtain ⟨m, hm⟩ := nm_lq (fun m k => df_X16_load_2 n m (nI p) (nI v) (nI k) (pR X.1 9 (fl (sR X.1 9) (32 * p) k (nI 0)), X.2)) 32 n (by omega) (fun k m hk => by
    have u1 : 32 * p + k < 512 := by omega
    have u2 : 32 * p + k < 2 ^ 31 := by omega
    have u3 : k < 2 ^ 31 := by omega
    have k1 : ¬ 32 ≤ k := by omega
    rw [show df_X16_load_2 n (m + 1) = dF_X16_load_2 n (df_X16_load_2 n m) from rfl]
    generalize df_X16_load_2 n m = G
    simp (disch := (first | assumption | decide | omega)) only [dF_X16_load_2, k1, fl_s, eq_self, Nat.reduceEqDiff, Nat.reduceLeDiff, nl_0, nl_1, nl_2, nl_4, nl_9, nl_10, nl_16, nl_32, nl_512, nl_65536, no_1, no_1024, pk_mul, nI_add, nm_ck, nI_clamp, nI_ltI, nI_leI, nI_eq, nb_b2, nb_b1, ↓nb_let, nm_z0, nm_z1, nb_II, nb_IR, nb_RI, nb_RR, nm_IL, nm_IQ, nm_RL, nm_RQ, nm_LI, nm_LR, nm_LL, nm_LQ, nm_QI, nm_QR, nm_QL, nm_QQ, nm_rr, nm_ii, nm_eqm, not_false_eq_true, pk_sub, nm_div, nm_shl, nm_shr, nm_ush, nm_or8, nm_or64, nm_or256, nm_m1, nm_m3, nm_m7, nm_m15, nm_m31, nm_m63, nm_m255, nm_m511, nm_m1023, nm_m2047, nm_m65535, Nat.reduceMod, Nat.reducePow, Nat.reduceAdd, Nat.reduceSub, Nat.reduceMul, nm_bo, nm_bi, nm_rc, nm_ic, nm_ri, nm_rl, nm_rq, nm_ql, nm_qi, nm_li, nm_us, nm_uu, nm_cp, nm_sa31, nm_sa7, nm_m127, nm_m2, nm_nz, nm_nzk, nm_eq32, nm_nzf, if_true, if_false, ↓reduceIte, if_pos, if_neg])
  rw [fl_0, nm_r0] at hm
  refine Eq.trans (b := df_X16_load_2 n n (nI p) (nI v) (nI 0) X) rfl (Eq.trans hm ?_)
  show df_X16_load_2 n (m + 1) (nI p) (nI v) (nI 32) _ = _
  rw [show df_X16_load_2 n (m + 1) = dF_X16_load_2 n (df_X16_load_2 n m) from rfl]
  generalize df_X16_load_2 n m = G
  generalize hF : df_X16_load_59 n n = F
  have u1 : 32 * p + 2 < 512 := by omega
  have u2 : 32 * p + 2 < 2 ^ 31 := by omega
  have u3 : p < 2 ^ 31 := by omega
  have u4 : v < 2 ^ 31 := by omega
  generalize fl (sR X.1 9) (32 * p) 32 (nI 0) = R
  simp (disch := (first | assumption | decide | omega)) only [dF_X16_load_2, hF, e1, eq_self, Nat.reduceEqDiff, Nat.reduceLeDiff, nl_0, nl_1, nl_2, nl_4, nl_9, nl_10, nl_16, nl_32, nl_512, nl_65536, no_1, no_1024, pk_mul, nI_add, nm_ck, nI_clamp, nI_ltI, nI_leI, nI_eq, nb_b2, nb_b1, ↓nb_let, nm_z0, nm_z1, nb_II, nb_IR, nb_RI, nb_RR, nm_IL, nm_IQ, nm_RL, nm_RQ, nm_LI, nm_LR, nm_LL, nm_LQ, nm_QI, nm_QR, nm_QL, nm_QQ, nm_rr, nm_ii, nm_eqm, not_false_eq_true, pk_sub, nm_div, nm_shl, nm_shr, nm_ush, nm_or8, nm_or64, nm_or256, nm_m1, nm_m3, nm_m7, nm_m15, nm_m31, nm_m63, nm_m255, nm_m511, nm_m1023, nm_m2047, nm_m65535, Nat.reduceMod, Nat.reducePow, Nat.reduceAdd, Nat.reduceSub, Nat.reduceMul, nm_bo, nm_bi, nm_rc, nm_ic, nm_ri, nm_rl, nm_rq, nm_ql, nm_qi, nm_li, nm_us, nm_uu, nm_cp, nm_sa31, nm_sa7, nm_m127, nm_m2, nm_nz, nm_nzk, nm_eq32, nm_nzf, if_true, if_false, ↓reduceIte, if_pos, if_neg]
theorem lr_161 (n : Nat) {Y : St × St} {g : Int32 → Int32 → Int32 → (St × St) → Option (St × St)} {p v Z : Nat} (hp : p < 16) (hv : v < 4) (hZ : Z ≤ 32768) (e3 : sR Y.2 3 v = nI Z) : dF_X16_load_161 n g (nI p) (nI v) (nI Z) Y = some (pR (pR Y.1 6 (upd (sR Y.1 6) p (nI ((Z + 1023) / 1024 * 1024)))) 5 (upd (sR Y.1 5) p (nI ((Z + 1023) / 1024 * 1024))), Y.2) := by
  have u3 : p < 2 ^ 31 := by omega
  have u4 : v < 2 ^ 31 := by omega
  have u5 : Z + 1023 < 2 ^ 31 := by omega
  have u6 : Z < 2 ^ 31 := by omega
  simp (disch := (first | assumption | decide | omega)) only [dF_X16_load_161, e3, Nat.le_refl, eq_self, Nat.reduceEqDiff, Nat.reduceLeDiff, nl_1, nl_3, nl_4, nl_5, nl_6, nl_16, nl_64, nl_1023, nl_1024, nl_65536, no_1, no_1024, pk_mul, nI_add, nm_ck, nI_clamp, nI_ltI, nI_leI, nI_eq, nb_b2, nb_b1, ↓nb_let, nm_z0, nm_z1, nb_II, nb_IR, nb_RI, nb_RR, nm_IL, nm_IQ, nm_RL, nm_RQ, nm_LI, nm_LR, nm_LL, nm_LQ, nm_QI, nm_QR, nm_QL, nm_QQ, nm_rr, nm_ii, nm_eqm, not_false_eq_true, pk_sub, nm_div, nm_shl, nm_shr, nm_ush, nm_or8, nm_or64, nm_or256, nm_m1, nm_m3, nm_m7, nm_m15, nm_m31, nm_m63, nm_m255, nm_m511, nm_m1023, nm_m2047, nm_m65535, Nat.reduceMod, Nat.reducePow, Nat.reduceAdd, Nat.reduceSub, Nat.reduceMul, nm_bo, nm_bi, nm_rc, nm_ic, nm_ri, nm_rl, nm_rq, nm_ql, nm_qi, nm_li, nm_us, nm_uu, nm_cp, nm_sa31, nm_sa7, nm_m127, nm_m2, nm_nz, nm_nzk, nm_eq32, nm_nzf, if_true, if_false, ↓reduceIte, if_pos, if_neg]
theorem lcl_0 (n : Nat) {M M1 M2 M3 : St × St} {P s0 : St} {p a c d : Nat} {x1 : Int32} (t : df_X8_textPages n P = some (nI a, P)) (d' : df_X8_dataPages n P = some (nI c, P)) (e1 : sI P 1 = nI (a * 1024)) (ha : a ≤ 64) (p1 : df_X6_addPages n x1 (nI 0) (nI a) (nI 5) M = some M1) (p2 : df_X6_addPages n x1 (nI a) (nI c) (nI 3) M1 = some M2) (p3 : df_X6_addPages n x1 (nI 60) (nI 4) (nI 3) M2 = some M3) : df_X6_load n x1 (s0, (M, P)) = df_X6_load_40 n n x1 (nI 0) (s0, (M3, P)) := by
  generalize hF : df_X6_load_40 n n = F
  have u1 : a * 1024 < 2 ^ 31 := by omega
  have u2 : a * 1024 / 1024 = a := by omega
  simp (disch := (first | assumption | decide | omega)) only [df_X6_load, df_X6_load_0, hF, t, d', e1, u2, p1, p2, p3, eq_self, Nat.reduceEqDiff, Nat.reduceLeDiff, nl_0, nl_1, nl_3, nl_4, nl_5, nl_60, nl_1024, no_1, no_1024, pk_mul, nI_add, nm_ck, nI_clamp, nI_ltI, nI_leI, nI_eq, nb_b2, nb_b1, ↓nb_let, nm_z0, nm_z1, nb_II, nb_IR, nb_RI, nb_RR, nm_IL, nm_IQ, nm_RL, nm_RQ, nm_LI, nm_LR, nm_LL, nm_LQ, nm_QI, nm_QR, nm_QL, nm_QQ, nm_rr, nm_ii, nm_eqm, not_false_eq_true, pk_sub, nm_div, nm_shl, nm_shr, nm_ush, nm_or8, nm_or64, nm_or256, nm_m1, nm_m3, nm_m7, nm_m15, nm_m31, nm_m63, nm_m255, nm_m511, nm_m1023, nm_m2047, nm_m65535, Nat.reduceMod, Nat.reducePow, Nat.reduceAdd, Nat.reduceSub, Nat.reduceMul, nm_bo, nm_bi, nm_rc, nm_ic, nm_ri, nm_rl, nm_rq, nm_ql, nm_qi, nm_li, nm_us, nm_uu, nm_cp, nm_sa31, nm_sa7, nm_m127, nm_m2, nm_nz, nm_nzk, nm_eq32, nm_nzf, if_true, if_false, ↓reduceIte, if_pos, if_neg]
theorem lc_40 (n : Nat) {g : Int32 → (Int32 → (St × (St × St) × St) → Option (St × (St × St) × St))} {M : St × St} {P s0 : St} {x1 : Int32} {Z : Nat} (hZ : Z ≤ 32768) (e2 : sI P 2 = nI Z) : dF_X6_load_40 n g x1 (nI Z) (s0, (M, P)) = df_X6_load_80 n n x1 (nI 0) (s0, (M, P)) := by
  generalize hF : df_X6_load_80 n n = F
  have u6 : Z < 2 ^ 31 := by omega
  simp (disch := (first | assumption | decide | omega)) only [dF_X6_load_40, hF, e2, Nat.le_refl, eq_self, Nat.reduceEqDiff, Nat.reduceLeDiff, nl_0, nl_2, nl_255, nl_32768, no_1, no_1024, pk_mul, nI_add, nm_ck, nI_clamp, nI_ltI, nI_leI, nI_eq, nb_b2, nb_b1, ↓nb_let, nm_z0, nm_z1, nb_II, nb_IR, nb_RI, nb_RR, nm_IL, nm_IQ, nm_RL, nm_RQ, nm_LI, nm_LR, nm_LL, nm_LQ, nm_QI, nm_QR, nm_QL, nm_QQ, nm_rr, nm_ii, nm_eqm, not_false_eq_true, pk_sub, nm_div, nm_shl, nm_shr, nm_ush, nm_or8, nm_or64, nm_or256, nm_m1, nm_m3, nm_m7, nm_m15, nm_m31, nm_m63, nm_m255, nm_m511, nm_m1023, nm_m2047, nm_m65535, Nat.reduceMod, Nat.reducePow, Nat.reduceAdd, Nat.reduceSub, Nat.reduceMul, nm_bo, nm_bi, nm_rc, nm_ic, nm_ri, nm_rl, nm_rq, nm_ql, nm_qi, nm_li, nm_us, nm_uu, nm_cp, nm_sa31, nm_sa7, nm_m127, nm_m2, nm_nz, nm_nzk, nm_eq32, nm_nzf, if_true, if_false, ↓reduceIte, if_pos, if_neg]
theorem c4_60 : cN (fun k => decide (60 ≤ k)) 64 = 4 := by decide
/-- a program is loaded, in both -/
theorem nk_loadP (n : Nat) (hn : 40000 < n) {M X : St × St} {P s0 : St} {p v T Z : Nat} (h : rK M X) (hp : p < 16) (hv : v < 4) (pg : rPg P X.2 v T Z) (hno : ∀ k : Nat, k < 64 → sR X.1 16 (64 * p + k) = -nI 1) (hc : cU (sR X.1 16) + ((T + 1023) / 1024 + dpg T Z + 4) ≤ 256) : ∃ (w u g : Nat → Int32) (fu : Int32) (b fr ri ho : Nat → Int32) (us : Int32), rQ w u g b fr ri ho fu us ∧ (∀ i : Nat, i < 64 * p ∨ 64 * p + 64 ≤ i → fr i = sR X.1 16 i) ∧ (∀ k : Nat, k < 60 → (Z + 1023) / 1024 * 1024 ≤ k * 1024 → fr (64 * p + k) = -nI 1) ∧ df_X6_load n (nI p) (s0, (M, P)) = some (s0, (lM M w u g fu p ((Z + 1023) / 1024 * 1024), P)) ∧ df_X16_load n (nI p) (nI v) X = some (lX X b fr ri ho us p ((Z + 1023) / 1024 * 1024)) := by
  have lt := lp_t n pg
  have ld := lp_d n pg
  have ls := lq_s n hv pg
  have tl : (T + 1023) / 1024 + dpg T Z ≤ 32 ∧ (Z + 1023) / 1024 ≤ (T + 1023) / 1024 + dpg T Z ∧ (T + 1023) / 1024 + dpg T Z ≤ (Z + 1023) / 1024 := by
    obtain ⟨h1, h2, h3, _⟩ := pg
    unfold dpg
    rcases h3 with e | e <;> omega
  have ed : dpg T Z = (Z - (T + 1023) / 1024 * 1024 + 1023) / 1024 := rfl
  have hd : Z - (T + 1023) / 1024 * 1024 ≤ 32768 := by have := pg.2.1; omega
  have e1 := pg.2.2.2.2.2.2.1
  have e2 := pg.2.2.2.2.2.2.2.1
  have e3 := pg.2.2.2.2.2.2.2.2.1
  have hT := pg.1
  have hZ := pg.2.1
  have R0 := lr_2 n (by omega) (X := X) hp hv e1
  have rK0 : rK M (pR (pR X.1 9 (upd (fl (sR X.1 9) (32 * p) 32 (nI 0)) (32 * p + 2) (nI 65536))) 10 (upd (sR X.1 10) p (nI 0)), X.2) := h
  have hno0 : ∀ k : Nat, k < 64 → sR (pR (pR X.1 9 (upd (fl (sR X.1 9) (32 * p) 32 (nI 0)) (32 * p + 2) (nI 65536))) 10 (upd (sR X.1 10) p (nI 0)), X.2).1 16 (64 * p + k) = -nI 1 := hno
  have hc0 : cU (sR (pR (pR X.1 9 (upd (fl (sR X.1 9) (32 * p) 32 (nI 0)) (32 * p + 2) (nI 65536))) 10 (upd (sR X.1 10) p (nI 0)), X.2).1 16) + ((T + 1023) / 1024 + dpg T Z + 4) ≤ 256 := hc
  have e16 : sR (pR (pR X.1 9 (upd (fl (sR X.1 9) (32 * p) 32 (nI 0)) (32 * p + 2) (nI 65536))) 10 (upd (sR X.1 10) p (nI 0)), X.2).1 16 = sR X.1 16 := rfl
  have pgY : rPg P (pR (pR X.1 9 (upd (fl (sR X.1 9) (32 * p) 32 (nI 0)) (32 * p + 2) (nI 65536))) 10 (upd (sR X.1 10) p (nI 0)), X.2).2 v T Z := pg
  have eX : ∀ (b fr ri ho : Nat → Int32) (us : Int32) (H : Nat), lX X b fr ri ho us p H = (pR (pR (xU (pR (pR X.1 9 (upd (fl (sR X.1 9) (32 * p) 32 (nI 0)) (32 * p + 2) (nI 65536))) 10 (upd (sR X.1 10) p (nI 0)), X.2) b fr ri ho us).1 6 (upd (sR X.1 6) p (nI H))) 5 (upd (sR X.1 5) p (nI H)), X.2) := fun _ _ _ _ _ _ => rfl
  have y2 : (pR (pR X.1 9 (upd (fl (sR X.1 9) (32 * p) 32 (nI 0)) (32 * p + 2) (nI 65536))) 10 (upd (sR X.1 10) p (nI 0)), X.2).2 = X.2 := rfl
  have y6 : sR (pR (pR X.1 9 (upd (fl (sR X.1 9) (32 * p) 32 (nI 0)) (32 * p + 2) (nI 65536))) 10 (upd (sR X.1 10) p (nI 0)), X.2).1 6 = sR X.1 6 := rfl
  have y5 : sR (pR (pR X.1 9 (upd (fl (sR X.1 9) (32 * p) 32 (nI 0)) (32 * p + 2) (nI 65536))) 10 (upd (sR X.1 10) p (nI 0)), X.2).1 5 = sR X.1 5 := rfl
  generalize (pR (pR X.1 9 (upd (fl (sR X.1 9) (32 * p) 32 (nI 0)) (32 * p + 2) (nI 65536))) 10 (upd (sR X.1 10) p (nI 0)), X.2) = Y at R0 rK0 hno0 hc0 e16 pgY eX y2 y6 y5
  rw [e16] at hc0
  generalize ht : (T + 1023) / 1024 = t at lt ld ls tl ed hd hc hc0
  generalize hq : dpg T Z = q at ld tl hc hc0 ed
  -- the text's pages
  obtain ⟨w1, u1, g1, fu1, b1, fr1, ri1, ho1, us1, a1, n1, ⟨i1, j1, k1, l1⟩⟩ := nk_addPages n (by omega) (M := M) (X := Y) rK0 (p := p) (a := 0) (c := t) (r := 5) hp (by omega) (by omega) (by omega) (by rw [e16]; omega) (fun k _ hk => hno0 k (by omega))
  rw [e16] at j1
  -- the data's
  have hab2 : ∀ k : Nat, t ≤ k → k < 64 → fr1 (64 * p + k) = -nI 1 := fun k x1 x2 => by
    rw [(l1 _ (by omega)).1]
    exact hno0 k (by omega)
  have A2 : ∀ j : Nat, j ≤ q → ∃ (w u g : Nat → Int32) (fu : Int32) (b fr ri ho : Nat → Int32) (us : Int32), df_X6_addPages n (nI p) (nI t) (nI j) (nI 3) (mU M w1 u1 g1 fu1) = some (mU (mU M w1 u1 g1 fu1) w u g fu) ∧ nps n p 3 t j (xU Y b1 fr1 ri1 ho1 us1) = some (xU (xU Y b1 fr1 ri1 ho1 us1) b fr ri ho us) ∧ iP (mU M w1 u1 g1 fu1) (xU Y b1 fr1 ri1 ho1 us1) p 3 t j w u g fu b fr ri ho us := fun j hj => nk_addPages n (by omega) (M := mU M w1 u1 g1 fu1) (X := xU Y b1 fr1 ri1 ho1 us1) i1 (p := p) (a := t) (c := j) (r := 3) hp (by omega) (by omega) (by omega) (show cU fr1 + j ≤ 256 by omega) (fun k x1 x2 => hab2 k x1 (by omega))
  obtain ⟨w2, u2, g2, fu2, b2, fr2, ri2, ho2, us2, a2, n2, ⟨i2, j2, k2, l2⟩⟩ := A2 q (Nat.le_refl q)
  have j2 : cU fr2 = cU fr1 + q := j2
  have l2 : ∀ i : Nat, ¬ (64 * p + t ≤ i ∧ i < 64 * p + t + q) → fr2 i = fr1 i ∧ ri2 i = ri1 i ∧ ∀ x : Nat, x < 256 → b2 (i * 256 + x) = b1 (i * 256 + x) := l2
  have hk2 : ∀ j : Nat, j ≤ q → ∃ s : St × St, nps n p 3 t j (xU Y b1 fr1 ri1 ho1 us1) = some s ∧ s.2 = (xU Y b1 fr1 ri1 ho1 us1).2 := fun j hj => by
    obtain ⟨_, _, _, _, b, fr, ri, ho, us, _, e, _⟩ := A2 j hj
    exact ⟨_, e, rfl⟩
  clear A2
  rw [mU_mU] at a2
  rw [xU_xU] at n2
  -- the stack's
  have hab3 : ∀ k : Nat, t + q ≤ k → k < 64 → fr2 (64 * p + k) = -nI 1 := fun k x1 x2 => by
    rw [(l2 _ (by omega)).1]
    exact hab2 k (by omega) x2
  obtain ⟨w3, u3, g3, fu3, b3, fr3, ri3, ho3, us3, a3, n3, ⟨i3, j3, k3, l3⟩⟩ := nk_addPages n (by omega) (M := mU M w2 u2 g2 fu2) (X := xU Y b2 fr2 ri2 ho2 us2) i2 (p := p) (a := 60) (c := 4) (r := 3) hp (by omega) (by omega) (by omega) (show cU fr2 + 4 ≤ 256 by omega) (fun k x1 x2 => hab3 k (by omega) (by omega))
  have j3 : cU fr3 = cU fr2 + 4 := j3
  have l3 : ∀ i : Nat, ¬ (64 * p + 60 ≤ i ∧ i < 64 * p + 60 + 4) → fr3 i = fr2 i ∧ ri3 i = ri2 i ∧ ∀ x : Nat, x < 256 → b3 (i * 256 + x) = b2 (i * 256 + x) := l3
  rw [mU_mU] at a3
  rw [xU_xU] at n3
  -- what stands now
  have out : ∀ i : Nat, ¬ (64 * p ≤ i ∧ i < 64 * p + 64) → fr3 i = sR X.1 16 i := fun i hi => by
    rw [(l3 i (by omega)).1, (l2 i (by omega)).1, (l1 i (by omega)).1, e16]
  have gone : ∀ k : Nat, t + q ≤ k → k < 60 → fr3 (64 * p + k) = -nI 1 := fun k x1 x2 => by
    rw [(l3 _ (by omega)).1]
    exact hab3 k x1 (by omega)
  have inn : ∀ k : Nat, k < t + q → (∃ f : Nat, f < 256 ∧ fr3 (64 * p + k) = nI f) ∧ ∀ x : Nat, x < 256 → b3 ((64 * p + k) * 256 + x) = nI 0 := fun k hk => by
    obtain ⟨y1, _, y3⟩ := l3 (64 * p + k) (by omega)
    rw [y1]
    by_cases c : k < t
    · obtain ⟨z1, _, z3⟩ := l2 (64 * p + k) (by omega)
      obtain ⟨v1, _, v3⟩ := k1 k (by omega) (by omega)
      rw [z1]
      exact ⟨v1, fun x hx => by rw [y3 x hx, z3 x hx]; exact v3 x hx⟩
    · obtain ⟨v1, _, v3⟩ := k2 k (by omega) (by omega)
      exact ⟨v1, fun x hx => by rw [y3 x hx]; exact v3 x hx⟩
  have cnt : cN (fun k => decide (¬ fr3 (64 * p + k) = -nI 1)) 64 ≤ t + q + 4 := by
    have m1 := cN_mono (P := fun k => decide (¬ fr3 (64 * p + k) = -nI 1)) (Q := fun k => decide (k < t + q) || decide (60 ≤ k)) (N := 64) (fun k hk z => by
      have z := of_decide_eq_true z
      by_cases c : k < t + q
      · rw [decide_eq_true c]; rfl
      · by_cases c' : 60 ≤ k
        · rw [decide_eq_true c', Bool.or_true]
        · exact absurd (gone k (by omega) (by omega)) z)
    have m2 := cN_or (fun k => decide (k < t + q)) (fun k => decide (60 ≤ k)) 64
    have m3 := (cN_lt (t + q) 64).1
    rw [c4_60] at m2
    omega
  have lone : ∀ k f : Nat, k < 64 → f < 256 → fr3 (64 * p + k) = nI f → cF fr3 f = 1 := fun k f hk hf e => cF_lone (fr0 := sR X.1 16) (s := 64 * p) (m := 64) (c := t + q + 4) (by omega) out hno (fun j hj => by
    rcases i3.1 (64 * p + j) (by omega) with z | ⟨f', _, z1, _, _, z2, _⟩
    · exact Or.inl z.1
    · exact Or.inr ⟨f', z1, z2⟩) cnt (by omega) hk hf e
  obtain ⟨m, w', b', r1, r2, r3⟩ := ld_puts n hn (M := M) (Y := Y) (P := P) (s0 := s0) i3 hp hv pgY (fun k hk => by
    obtain ⟨⟨f, x1, x2⟩, _⟩ := inn (k / 1024) (by omega)
    exact ⟨f, x1, x2, lone (k / 1024) f (by omega) x1 x2⟩) (fun k hk => by
    have z := (inn (k / 1024) (by omega)).2 (k / 4 % 256) (by omega)
    refine zb_0 ?_
    rw [show (65536 * p + k) / 4 = (64 * p + k / 1024) * 256 + k / 4 % 256 from by omega]
    exact z)
  refine ⟨w', u3, g3, fu3, b', fr3, ri3, ho3, us3, r1, fun i hi => out i (by omega), fun k x1 x2 => gone k (by omega) x1, ?_, ?_⟩
  · have c0 := lcl_0 n (M := M) (P := P) (s0 := s0) (p := p) (d := 0) (x1 := nI p) lt ld (by rw [pg.2.2.2.2.1, ht]) (by omega) a1 a2 a3
    rw [c0, r2, show df_X6_load_40 n (m + 1) = dF_X6_load_40 n (df_X6_load_40 n m) from rfl, lc_40 n hZ pg.2.2.2.2.2.1, lc_80 n (by omega) hp pg]
    rfl
  · rw [← ht] at n1
    rw [R0, lr_59 n (by omega) hT n1]
    have ed' : q = (Z - t * 1024 + 1023) / 1024 := ed
    rw [ed'] at n2 hk2
    rw [lr_89 n (by omega) (Y := xU Y b1 fr1 ri1 ho1 us1) hv (by omega) hd (by show df_X17_dataSize n (nI v) Y.2 = some (nI (Z - t * 1024), Y.2); rw [y2]; exact ls) (by show sR Y.2 2 v = nI (t * 1024); rw [y2, e2, ht]) n2 hk2, lr_137 n (by omega) n3, r3, show df_X16_load_161 n (m + 1) = dF_X16_load_161 n (df_X16_load_161 n m) from rfl, lr_161 n hp hv hZ (by show sR Y.2 3 v = nI Z; rw [y2]; exact e3), eX]
    show some (pR (pR (xU Y b' fr3 ri3 ho3 us3).1 6 (upd (sR Y.1 6) p _)) 5 (upd (sR Y.1 5) p _), Y.2) = _
    rw [y6, y5, y2]
