/-- a page's words, all 0 -/
def zf (b : Nat → Int32) (i : Nat) : Nat → Int32 := fun j => if i * 256 ≤ j ∧ j < i * 256 + 256 then nI 0 else b j
theorem zf_n {b : Nat → Int32} {i j : Nat} (h : ¬ (i * 256 ≤ j ∧ j < i * 256 + 256)) : zf b i j = b j := if_neg h
theorem zf_p {b : Nat → Int32} {i j : Nat} (h : i * 256 ≤ j ∧ j < i * 256 + 256) : zf b i j = nI 0 := if_pos h
def zk (b : Nat → Int32) (i k : Nat) : Nat → Int32 := fun j => if i * 256 ≤ j ∧ j < i * 256 + k then nI 0 else b j
theorem zk_0 (b : Nat → Int32) (i : Nat) : zk b i 0 = b := by
  funext j
  exact if_neg (by omega)
theorem zk_s (b : Nat → Int32) (i k : Nat) : upd (zk b i k) (i * 256 + k) (nI 0) = zk b i (k + 1) := by
  funext j
  show (if j = i * 256 + k then nI 0 else if i * 256 ≤ j ∧ j < i * 256 + k then nI 0 else b j) = if i * 256 ≤ j ∧ j < i * 256 + (k + 1) then nI 0 else b j
  by_cases c : j = i * 256 + k
  · rw [if_pos c, if_pos (by omega)]
  · rw [if_neg c]
    by_cases d : i * 256 ≤ j ∧ j < i * 256 + k
    · rw [if_pos d, if_pos (by omega)]
    · rw [if_neg d, if_neg (by omega)]
/-- no page is on a frame that has none -/
theorem cF_no {fr : Nat → Int32} {i f : Nat} (h : cF fr f = 0) (hi : i < 1024) : ¬ fr i = nI f := fun e => by
  have := cN_p (P := fun i => decide (fr i = nI f)) (i := i) (decide_eq_true e) hi
  have h : cN (fun i => decide (fr i = nI f)) 1024 = 0 := h
  omega
/-- a new page on a free frame -/
theorem rQ_new {w u g b fr ri ho : Nat → Int32} {fu us : Int32} (h : rQ w u g b fr ri ho fu us) {i f r : Nat} (hi : i < 1024) (hf : f < 256) (r1 : 1 ≤ r) (r2 : r < 8) (e : fr i = -nI 1) (z : cF fr f = 0) : rQ (zf w f) (upd u f (nI 1)) (upd g i (nI (f * 8 + r))) (zf b i) (upd fr i (nI f)) (upd ri i (nI r)) (upd ho f (nI 1)) (fu + nI 1) (us + nI 1) ∧ cU (upd fr i (nI f)) = cU fr + 1 := by
  obtain ⟨h1, h2, h3, h4, h5⟩ := h
  obtain ⟨c1, c2⟩ := cF_stand hi hf e
  have cu := cU_ch hf c1
  rw [nm_df (show ¬ 0 < cF fr f by omega), nm_dt (show 0 < cF (upd fr i (nI f)) f by omega)] at cu
  refine ⟨⟨fun j hj => ?_, fun a ha => ?_, fun a h0 ha => ?_, ?_, ?_⟩, by omega⟩
  · by_cases c : j = i
    · right
      rw [c]
      refine ⟨f, r, hf, r1, r2, nm_us, nm_us, nm_us, fun x hx => ?_⟩
      rw [zf_p (by omega), zf_p (by omega)]
    · rw [nm_un c, nm_un c, nm_un c]
      rcases h1 j hj with q | ⟨f', r', a1, a2, a3, a4, a5, a6, a7⟩
      · exact Or.inl q
      · right
        have hne : f' ≠ f := fun q => cF_no z hj (q ▸ a4)
        refine ⟨f', r', a1, a2, a3, a4, a5, a6, fun x hx => ?_⟩
        rw [zf_n (by omega), zf_n (by omega)]
        exact a7 x hx
  · by_cases c : a = f
    · rw [c, nm_us, nm_us, c2, z]
      exact ⟨rfl, rfl⟩
    · rw [nm_un c, nm_un c, c1 a ha c]
      exact h2 a ha
  · rw [nm_un (by omega)]
    exact h3 a h0 ha
  · rw [h4, nI_add]
    exact congrArg nI (by omega)
  · rw [h5, nI_add]
    exact congrArg nI (by omega)
/-- the least free frame -/
def fF (fr : Nat → Int32) : Nat := fN (fun f => decide (cF fr f = 0)) 0 256
theorem fF_lt {fr : Nat → Int32} (h : cU fr < 256) : fF fr < 256 ∧ cF fr (fF fr) = 0 ∧ ∀ f : Nat, f < fF fr → ¬ cF fr f = 0 := by
  obtain ⟨i, hi, e⟩ := cN_fr h
  have e := of_decide_eq_false e
  obtain ⟨a, b, c, d⟩ := fN_le (fun f => decide (cF fr f = 0)) 256 0
  have lt : fF fr < 256 := by
    by_cases z : i < fF fr
    · exact absurd (of_decide_eq_false (d i (by omega) z)) (fun q => q (by omega))
    · omega
  exact ⟨lt, of_decide_eq_true (c (by show fF fr < 0 + 256; omega)), fun f hf => of_decide_eq_false (d f (by omega) hf)⟩
theorem nk_ff (n : Nat) (hn : 1024 < n) {X : St × St} (h : ∀ f : Nat, f < 256 → sR X.1 18 f = nI (cF (sR X.1 16) f)) (hc : cU (sR X.1 16) < 256) : df_X16_freeFrame n X = some (nI (fF (sR X.1 16)), X) := by
  obtain ⟨f1, f2, f3⟩ := fF_lt hc
  obtain ⟨m, hm⟩ := nm_ls (fun m k => df_X16_freeFrame_2 n m (nI k) X) (fun f => decide (cF (sR X.1 16) f = 0)) 0 256 n (by omega) (fun k m h0 hk c => by
    have c := of_decide_eq_false c
    have cl := cF_le (sR X.1 16) k
    simp (disch := omega) only [(show df_X16_freeFrame_2 n (m + 1) = dF_X16_freeFrame_2 n (df_X16_freeFrame_2 n m) from rfl), dF_X16_freeFrame_2, df_X16_freeFrame_0, df_X16_freeFrame, (h k (by omega)), nl_0, nl_1, nl_18, nl_1024, no_1, no_1024, pk_mul, nI_add, nm_ck, nI_clamp, nI_ltI, nI_leI, nI_eq, nb_b2, nb_b1, nb_let, nm_z0, nm_z1, nb_II, nb_IR, nb_RI, nb_RR, nm_IL, nm_IQ, nm_RL, nm_RQ, nm_LI, nm_LR, nm_LL, nm_LQ, nm_QI, nm_QR, nm_QL, nm_QQ, nm_rr, nm_ii, nm_eqm, not_false_eq_true, pk_sub, nm_div, nm_shl, nm_shr, nm_ush, nm_or8, nm_or64, nm_or256, nm_m1, nm_m3, nm_m7, nm_m15, nm_m31, nm_m63, nm_m255, nm_m511, nm_m1023, nm_m2047, nm_m65535, Nat.reduceMod, Nat.reducePow, Nat.reduceAdd, Nat.reduceSub, Nat.reduceMul, nm_bo, nm_bi, nm_rc, nm_ic, nm_ri, nm_rl, nm_rq, nm_ql, nm_qi, nm_li, nm_us, nm_uu, nm_cp, nm_sa31, nm_sa7, nm_m127, nm_m2, nm_nz, nm_nzk, nm_eq32, nm_nzf, if_true, if_false, ↓reduceIte, if_pos, if_neg])
  refine Eq.trans hm ?_
  show df_X16_freeFrame_2 n (m + 1) (nI (fF (sR X.1 16))) X = _
  have e := h (fF (sR X.1 16)) f1
  generalize fF (sR X.1 16) = f at f1 f2 f3 e
  simp (disch := omega) only [(show df_X16_freeFrame_2 n (m + 1) = dF_X16_freeFrame_2 n (df_X16_freeFrame_2 n m) from rfl), dF_X16_freeFrame_2, df_X16_freeFrame_0, df_X16_freeFrame, e, f2, nl_0, nl_1, nl_18, nl_1024, no_1, no_1024, pk_mul, nI_add, nm_ck, nI_clamp, nI_ltI, nI_leI, nI_eq, nb_b2, nb_b1, nb_let, nm_z0, nm_z1, nb_II, nb_IR, nb_RI, nb_RR, nm_IL, nm_IQ, nm_RL, nm_RQ, nm_LI, nm_LR, nm_LL, nm_LQ, nm_QI, nm_QR, nm_QL, nm_QQ, nm_rr, nm_ii, nm_eqm, not_false_eq_true, pk_sub, nm_div, nm_shl, nm_shr, nm_ush, nm_or8, nm_or64, nm_or256, nm_m1, nm_m3, nm_m7, nm_m15, nm_m31, nm_m63, nm_m255, nm_m511, nm_m1023, nm_m2047, nm_m65535, Nat.reduceMod, Nat.reducePow, Nat.reduceAdd, Nat.reduceSub, Nat.reduceMul, nm_bo, nm_bi, nm_rc, nm_ic, nm_ri, nm_rl, nm_rq, nm_ql, nm_qi, nm_li, nm_us, nm_uu, nm_cp, nm_sa31, nm_sa7, nm_m127, nm_m2, nm_nz, nm_nzk, nm_eq32, nm_nzf, if_true, if_false, ↓reduceIte, if_pos, if_neg]
theorem nk_freeFrame (n : Nat) (hn : 1024 < n) {M X : St × St} (h : rK M X) (hc : cU (sR X.1 16) < 256) : df_X16_freeFrame n X = some (nI (fF (sR X.1 16)), X) := nk_ff n hn (fun f hf => (h.2.1 f hf).2) hc
theorem nk_newPage (n : Nat) (hn : 1024 < n) {M X : St × St} (h : rK M X) (hc : cU (sR X.1 16) < 256) {p k r : Nat} (hp : p < 16) (hk : k < 64) (hr : r < 8) : df_X16_newPage n (nI p) (nI k) (nI r) X = some (xU X (zf (sR X.1 15) (64 * p + k)) (upd (sR X.1 16) (64 * p + k) (nI (fF (sR X.1 16)))) (upd (sR X.1 17) (64 * p + k) (nI r)) (upd (sR X.1 18) (fF (sR X.1 16)) (nI 1)) (sI X.1 6 + nI 1)) := by
  have ff := nk_freeFrame n hn h hc
  obtain ⟨f1, f2, f3⟩ := fF_lt hc
  have e := (h.2.1 (fF (sR X.1 16)) f1).2
  generalize fF (sR X.1 16) = f at f1 f2 f3 e ff
  rw [f2] at e
  obtain ⟨m, hm⟩ := nm_lq (fun m j => df_X16_newPage_29 n m (nI p) (nI k) (nI j) (xU X (zk (sR X.1 15) (64 * p + k) j) (upd (sR X.1 16) (64 * p + k) (nI f)) (upd (sR X.1 17) (64 * p + k) (nI r)) (upd (sR X.1 18) f (nI 1)) (sI X.1 6 + nI 1))) 256 n (by omega) (fun j m hj => by
    have hx : 16384 * p + 256 * k + j = (64 * p + k) * 256 + j := by omega
    simp (disch := omega) only [(show df_X16_newPage_29 n (m + 1) = dF_X16_newPage_29 n (df_X16_newPage_29 n m) from rfl), dF_X16_newPage_29, df_X16_newPage_0, df_X16_newPage, xU, hx, zk_s, nm_rc (a := 16) (b := 15) (by decide), nm_rc (a := 17) (b := 15) (by decide), nm_rc (a := 17) (b := 16) (by decide), nm_rc (a := 18) (b := 15) (by decide), nm_rc (a := 18) (b := 16) (by decide), nm_rc (a := 18) (b := 17) (by decide), nl_0, nl_1, nl_15, nl_17, nl_64, nl_256, nl_1024, nl_16384, nl_262144, no_1, no_1024, pk_mul, nI_add, nm_ck, nI_clamp, nI_ltI, nI_leI, nI_eq, nb_b2, nb_b1, nb_let, nm_z0, nm_z1, nb_II, nb_IR, nb_RI, nb_RR, nm_IL, nm_IQ, nm_RL, nm_RQ, nm_LI, nm_LR, nm_LL, nm_LQ, nm_QI, nm_QR, nm_QL, nm_QQ, nm_rr, nm_ii, nm_eqm, not_false_eq_true, pk_sub, nm_div, nm_shl, nm_shr, nm_ush, nm_or8, nm_or64, nm_or256, nm_m1, nm_m3, nm_m7, nm_m15, nm_m31, nm_m63, nm_m255, nm_m511, nm_m1023, nm_m2047, nm_m65535, Nat.reduceMod, Nat.reducePow, Nat.reduceAdd, Nat.reduceSub, Nat.reduceMul, nm_bo, nm_bi, nm_rc, nm_ic, nm_ri, nm_rl, nm_rq, nm_ql, nm_qi, nm_li, nm_us, nm_uu, nm_cp, nm_sa31, nm_sa7, nm_m127, nm_m2, nm_nz, nm_nzk, nm_eq32, nm_nzf, if_true, if_false, ↓reduceIte, if_pos, if_neg])
  simp (disch := omega) only [df_X16_newPage_0, df_X16_newPage, df_X16_stand_26, df_X16_stand_0, df_X16_stand, ff, e, nl_0, nl_1, nl_6, nl_16, nl_17, nl_18, nl_64, nl_1024, no_1, no_1024, pk_mul, nI_add, nm_ck, nI_clamp, nI_ltI, nI_leI, nI_eq, nb_b2, nb_b1, nb_let, nm_z0, nm_z1, nb_II, nb_IR, nb_RI, nb_RR, nm_IL, nm_IQ, nm_RL, nm_RQ, nm_LI, nm_LR, nm_LL, nm_LQ, nm_QI, nm_QR, nm_QL, nm_QQ, nm_rr, nm_ii, nm_eqm, not_false_eq_true, pk_sub, nm_div, nm_shl, nm_shr, nm_ush, nm_or8, nm_or64, nm_or256, nm_m1, nm_m3, nm_m7, nm_m15, nm_m31, nm_m63, nm_m255, nm_m511, nm_m1023, nm_m2047, nm_m65535, Nat.reduceMod, Nat.reducePow, Nat.reduceAdd, Nat.reduceSub, Nat.reduceMul, nm_bo, nm_bi, nm_rc, nm_ic, nm_ri, nm_rl, nm_rq, nm_ql, nm_qi, nm_li, nm_us, nm_uu, nm_cp, nm_sa31, nm_sa7, nm_m127, nm_m2, nm_nz, nm_nzk, nm_eq32, nm_nzf, if_true, if_false, ↓reduceIte, if_pos, if_neg]
  rw [zk_0] at hm
  unfold xU at hm
  rw [nm_r0] at hm
  refine Eq.trans hm ?_
  simp (disch := omega) only [(show df_X16_newPage_29 n (m + 1) = dF_X16_newPage_29 n (df_X16_newPage_29 n m) from rfl), dF_X16_newPage_29, df_X16_newPage_0, df_X16_newPage, nl_0, nl_1, nl_15, nl_17, nl_64, nl_256, nl_1024, nl_16384, nl_262144, no_1, no_1024, pk_mul, nI_add, nm_ck, nI_clamp, nI_ltI, nI_leI, nI_eq, nb_b2, nb_b1, nb_let, nm_z0, nm_z1, nb_II, nb_IR, nb_RI, nb_RR, nm_IL, nm_IQ, nm_RL, nm_RQ, nm_LI, nm_LR, nm_LL, nm_LQ, nm_QI, nm_QR, nm_QL, nm_QQ, nm_rr, nm_ii, nm_eqm, not_false_eq_true, pk_sub, nm_div, nm_shl, nm_shr, nm_ush, nm_or8, nm_or64, nm_or256, nm_m1, nm_m3, nm_m7, nm_m15, nm_m31, nm_m63, nm_m255, nm_m511, nm_m1023, nm_m2047, nm_m65535, Nat.reduceMod, Nat.reducePow, Nat.reduceAdd, Nat.reduceSub, Nat.reduceMul, nm_bo, nm_bi, nm_rc, nm_ic, nm_ri, nm_rl, nm_rq, nm_ql, nm_qi, nm_li, nm_us, nm_uu, nm_cp, nm_sa31, nm_sa7, nm_m127, nm_m2, nm_nz, nm_nzk, nm_eq32, nm_nzf, if_true, if_false, ↓reduceIte, if_pos, if_neg]
  rfl
