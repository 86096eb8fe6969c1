/-- no other page is on a frame that one alone uses -/
theorem cF_one {fr : Nat → Int32} {i f : Nat} (hi : i < 1024) (hf : f < 256) (e : fr i = nI f) (c : cF fr f = 1) {j : Nat} (hj : j < 1024) (hne : j ≠ i) : ¬ fr j = nI f := fun z => by
  obtain ⟨_, c2⟩ := cF_leave hi hf e
  have c0 : cF (upd fr i (-nI 1)) f = 0 := by omega
  exact cF_no c0 hj (by rw [nm_un hne]; exact z)
theorem nm_inI {a b : Nat} (ha : a < 2 ^ 31) (hb : b < 2 ^ 31) (h : nI a = nI b) : a = b := (nI_eq ha hb).mp h
/-- a word of a page that has its frame alone -/
theorem rQ_put {w u g b fr ri ho : Nat → Int32} {fu us : Int32} (h : rQ w u g b fr ri ho fu us) {i f j : Nat} (hi : i < 1024) (hf : f < 256) (e : fr i = nI f) (c : cF fr f = 1) (hj : j < 256) (x : Int32) : rQ (upd w (f * 256 + j) x) u g (upd b (i * 256 + j) x) fr ri ho fu us := by
  obtain ⟨h1, h2⟩ := h
  refine ⟨fun k hk => ?_, h2⟩
  rcases h1 k hk with q | ⟨f', r', a1, a2, a3, a4, a5, a6, a7⟩
  · exact Or.inl q
  · right
    refine ⟨f', r', a1, a2, a3, a4, a5, a6, fun y hy => ?_⟩
    by_cases ck : k = i
    · have ef : f' = f := nm_inI (by omega) (by omega) (by rw [← a4, ck, e])
      rw [ck, ef]
      by_cases cy : y = j
      · rw [cy, nm_us, nm_us]
      · rw [nm_un (by omega), nm_un (by omega), ← ef, ← ck]
        exact a7 y hy
    · have ef : f' ≠ f := fun q => cF_one hi hf e c hk ck (q ▸ a4)
      rw [nm_un (by omega), nm_un (by omega)]
      exact a7 y hy
/-- a page that shares its frame comes into a free one -/
theorem rQ_own {w u g b fr ri ho : Nat → Int32} {fu us : Int32} (h : rQ w u g b fr ri ho fu us) {i f f' r : Nat} (hi : i < 1024) (hf : f < 256) (hf' : f' < 256) (hr : r < 8) (e : fr i = nI f) (eg : g i = nI (f * 8 + r)) (c : 1 < cF fr f) (z : cF fr f' = 0) : rQ (va_cpy w w (f * 256) (f' * 256) 256) (upd (upd u f (nI (cF fr f - 1))) f' (nI 1)) (upd g i (nI (f' * 8 + r))) b (upd fr i (nI f')) ri (upd (upd ho f (nI (cF fr f - 1))) f' (nI 1)) (fu + nI 1) (us + nI 1) ∧ cU (upd fr i (nI f')) = cU fr + 1 ∧ cF (upd fr i (nI f')) f' = 1 ∧ fF (upd fr i (-nI 1)) = fF fr := by
  obtain ⟨h1, h2, h3, h4, h5⟩ := h
  have hne : f' ≠ f := fun q => by rw [q] at z; omega
  obtain ⟨l1, l2⟩ := cF_leave hi hf e
  have lu := cU_ch hf l1
  rw [nm_dt (show 0 < cF fr f by omega), nm_dt (show 0 < cF (upd fr i (-nI 1)) f by omega)] at lu
  obtain ⟨s1, s2⟩ := cF_stand (fr := upd fr i (-nI 1)) hi hf' nm_us
  have su := cU_ch hf' s1
  rw [nm_uu] at s1 s2 su
  have z' : cF (upd fr i (-nI 1)) f' = 0 := by rw [l1 f' hf' hne, z]
  rw [nm_df (show ¬ 0 < cF (upd fr i (-nI 1)) f' by omega), nm_dt (show 0 < cF (upd fr i (nI f')) f' by omega)] at su
  refine ⟨⟨fun k hk => ?_, fun a ha => ?_, fun a h0 ha => ?_, ?_, ?_⟩, by omega, by omega, ?_⟩
  · by_cases ck : k = i
    · right
      rcases h1 i hi with q | ⟨f2, r2, a1, a2, a3, a4, a5, a6, a7⟩
      · rw [q.1] at e
        exact absurd e.symm (nk_ne (by omega))
      · have ef : f2 = f := nm_inI (by omega) (by omega) (by rw [← a4, e])
        have er : r2 = r := by
          have := nm_inI (a := f2 * 8 + r2) (b := f * 8 + r) (by omega) (by omega) (by rw [← a6, eg])
          omega
        rw [ck]
        refine ⟨f', r, hf', by omega, hr, nm_us, by rw [← er]; exact a5, nm_us, fun y hy => ?_⟩
        rw [← a7 y hy, ef]
        show (if f' * 256 ≤ f' * 256 + y ∧ f' * 256 + y < f' * 256 + 256 then w (f * 256 + (f' * 256 + y - f' * 256)) else w (f' * 256 + y)) = _
        rw [if_pos (by omega)]
        exact congrArg w (by omega)
    · rw [nm_un ck, nm_un ck]
      rcases h1 k hk with q | ⟨f2, r2, a1, a2, a3, a4, a5, a6, a7⟩
      · exact Or.inl q
      · right
        have hn2 : f2 ≠ f' := fun q => cF_no z hk (q ▸ a4)
        refine ⟨f2, r2, a1, a2, a3, a4, a5, a6, fun y hy => ?_⟩
        rw [← a7 y hy]
        show (if f' * 256 ≤ f2 * 256 + y ∧ f2 * 256 + y < f' * 256 + 256 then _ else w (f2 * 256 + y)) = _
        rw [if_neg (by omega)]
  · by_cases c1 : a = f'
    · rw [c1, nm_us, nm_us, s2, z']
      exact ⟨rfl, rfl⟩
    · rw [nm_un c1, nm_un c1, s1 a ha c1]
      by_cases c2 : a = f
      · rw [c2, nm_us, nm_us]
        exact ⟨congrArg nI (by omega), congrArg nI (by omega)⟩
      · rw [nm_un c2, nm_un c2, l1 a ha c2]
        exact h2 a ha
  · rw [nm_un (by omega), nm_un (by omega)]
    exact h3 a h0 ha
  · rw [h4, nI_add]
    exact congrArg nI (by omega)
  · rw [h5, nI_add]
    exact congrArg nI (by omega)
  · refine fN_c _ _ (fun q _ hq => ?_)
    by_cases cq : q = f
    · rw [cq, decide_eq_false (show ¬ cF (upd fr i (-nI 1)) f = 0 by omega), decide_eq_false (show ¬ cF fr f = 0 by omega)]
    · rw [l1 q (by omega) cq]
theorem cN_1x (fr : Nat → Int32) (h : cU fr = 256) (q : Nat) (hq : q < 256) : 0 < cF fr q := by
  by_cases c : 0 < cF fr q
  · exact c
  · exfalso
    have e := cN_u (P := fun f => decide (0 < cF fr f)) (Q := fun f => if f = q then true else decide (0 < cF fr f)) (j := q) (fun i hi => by rw [if_neg hi]) (N := 256) hq
    have l := cN_le (fun f => if f = q then true else decide (0 < cF fr f)) 256
    have h : cN (fun f => decide (0 < cF fr f)) 256 = 256 := h
    rw [nm_df c, if_pos rfl] at e
    have e : cN (fun f => if f = q then true else decide (0 < cF fr f)) 256 + 0 = cN (fun f => decide (0 < cF fr f)) 256 + 1 := e
    omega
theorem nk_own1 (n : Nat) {M X : St × St} (h : rK M X) {p a f : Nat} (hp : p < 16) (ha : a < 65536) (hf : f < 256) (e : sR X.1 16 (64 * p + a / 1024) = nI f) (c : cF (sR X.1 16) f = 1) : df_X6_own n (nI p) (nI a) M = some (nI 1, M) := by
  rcases h.1 (64 * p + a / 1024) (by omega) with q | ⟨f2, r2, a1, a2, a3, a4, a5, a6, a7⟩
  · rw [q.1] at e
    exact absurd e.symm (nk_ne (by omega))
  · have ef : f2 = f := nm_inI (by omega) (by omega) (by rw [← a4, e])
    subst ef
    have hx : p * 64 + a / 2 ^ 10 % 64 = 64 * p + a / 1024 := by omega
    have hy : (f2 * 8 + r2) / 2 ^ 3 = f2 := by omega
    have eu := (h.2.1 f2 hf).1
    rw [c] at eu
    simp (disch := omega) only [df_X6_own_0, df_X6_own, hx, a6, hy, eu, nl_0, nl_1, nl_2, nl_3, nl_6, nl_10, nl_31, nl_63, nl_256, nl_1024, no_1, no_1024, pk_mul, nI_add, nm_ck, nI_clamp, nI_ltI, nI_leI, nI_eq, nb_b2, nb_b1, nb_let, nm_z0, nm_z1, nb_II, nb_IR, nb_RI, nb_RR, nm_IL, nm_IQ, nm_RL, nm_RQ, nm_LI, nm_LR, nm_LL, nm_LQ, nm_QI, nm_QR, nm_QL, nm_QQ, nm_rr, nm_ii, nm_eqm, not_false_eq_true, pk_sub, nm_div, nm_shl, nm_shr, nm_ush, nm_or8, nm_or64, nm_or256, nm_m1, nm_m3, nm_m7, nm_m15, nm_m31, nm_m63, nm_m255, nm_m511, nm_m1023, nm_m2047, nm_m65535, Nat.reduceMod, Nat.reducePow, Nat.reduceAdd, Nat.reduceSub, Nat.reduceMul, nm_bo, nm_bi, nm_rc, nm_ic, nm_ri, nm_rl, nm_rq, nm_ql, nm_qi, nm_li, nm_us, nm_uu, nm_cp, nm_sa31, nm_sa7, nm_m127, nm_m2, nm_nz, nm_nzk, nm_eq32, nm_nzf, if_true, if_false, ↓reduceIte, if_pos, if_neg]
theorem nk_own2 (n : Nat) (hn : 1024 < n) {M X : St × St} (h : rK M X) {p a f : Nat} (hp : p < 16) (ha : a < 65536) (hf : f < 256) (e : sR X.1 16 (64 * p + a / 1024) = nI f) (c : 1 < cF (sR X.1 16) f) : (cU (sR X.1 16) = 256 → df_X6_own n (nI p) (nI a) M = some (nI 0, M)) ∧ (cU (sR X.1 16) < 256 → ∃ r : Nat, r < 8 ∧ sR M.1 2 (64 * p + a / 1024) = nI (f * 8 + r) ∧ df_X6_own n (nI p) (nI a) M = some (nI 1, mU M (va_cpy (sR M.1 0) (sR M.1 0) (f * 256) (fF (sR X.1 16) * 256) 256) (upd (upd (sR M.1 1) f (nI (cF (sR X.1 16) f - 1))) (fF (sR X.1 16)) (nI 1)) (upd (sR M.1 2) (64 * p + a / 1024) (nI (fF (sR X.1 16) * 8 + r))) (sI M.1 0 + nI 1))) := by
  rcases h.1 (64 * p + a / 1024) (by omega) with q | ⟨f2, r2, a1, a2, a3, a4, a5, a6, a7⟩
  · rw [q.1] at e
    exact absurd e.symm (nk_ne (by omega))
  · have ef : f2 = f := nm_inI (by omega) (by omega) (by rw [← a4, e])
    subst ef
    have hx : p * 64 + a / 2 ^ 10 % 64 = 64 * p + a / 1024 := by omega
    have hy : (f2 * 8 + r2) / 2 ^ 3 = f2 := by omega
    have eu := (h.2.1 f2 hf).1
    have cl := cF_le (sR X.1 16) f2
    obtain ⟨m, hm⟩ := nm_ls (fun m k => df_X6_own_39 n m (nI (64 * p + a / 1024)) (nI f2) (nI k) M) (fun f => decide (cF (sR X.1 16) f = 0)) 0 256 n (by omega) (fun k m h0 hk c => by
      have c := of_decide_eq_false c
      have cl := cF_le (sR X.1 16) k
      have ek := (h.2.1 k (by omega)).1
      simp (disch := omega) only [(show df_X6_own_39 n (m + 1) = dF_X6_own_39 n (df_X6_own_39 n m) from rfl), dF_X6_own_39, df_X6_own_0, df_X6_own, ek, nl_0, nl_1, nl_2, nl_3, nl_6, nl_7, nl_10, nl_31, nl_63, nl_256, nl_1024, nl_65536, no_1, no_1024, pk_mul, nI_add, nm_ck, nI_clamp, nI_ltI, nI_leI, nI_eq, nb_b2, nb_b1, nb_let, nm_z0, nm_z1, nb_II, nb_IR, nb_RI, nb_RR, nm_IL, nm_IQ, nm_RL, nm_RQ, nm_LI, nm_LR, nm_LL, nm_LQ, nm_QI, nm_QR, nm_QL, nm_QQ, nm_rr, nm_ii, nm_eqm, not_false_eq_true, pk_sub, nm_div, nm_shl, nm_shr, nm_ush, nm_or8, nm_or64, nm_or256, nm_m1, nm_m3, nm_m7, nm_m15, nm_m31, nm_m63, nm_m255, nm_m511, nm_m1023, nm_m2047, nm_m65535, Nat.reduceMod, Nat.reducePow, Nat.reduceAdd, Nat.reduceSub, Nat.reduceMul, nm_bo, nm_bi, nm_rc, nm_ic, nm_ri, nm_rl, nm_rq, nm_ql, nm_qi, nm_li, nm_us, nm_uu, nm_cp, nm_sa31, nm_sa7, nm_m127, nm_m2, nm_nz, nm_nzk, nm_eq32, nm_nzf, if_true, if_false, ↓reduceIte, if_pos, if_neg])
    have hm : df_X6_own_39 n n (nI (64 * p + a / 1024)) (nI f2) (nI 0) M = df_X6_own_39 n (m + 1) (nI (64 * p + a / 1024)) (nI f2) (nI (fF (sR X.1 16))) M := hm
    refine ⟨fun hc => ?_, fun hc => ?_⟩
    · have f256 : fF (sR X.1 16) = 256 := fN_no (fun q _ hq => decide_eq_false (fun z => by
        have c1 := cN_1x (sR X.1 16) hc q (by omega)
        omega))
      rw [f256] at hm
      simp (disch := omega) only [df_X6_own_0, df_X6_own, hx, a6, hy, eu, nl_0, nl_1, nl_2, nl_3, nl_6, nl_10, nl_31, nl_63, nl_256, nl_1024, no_1, no_1024, pk_mul, nI_add, nm_ck, nI_clamp, nI_ltI, nI_leI, nI_eq, nb_b2, nb_b1, nb_let, nm_z0, nm_z1, nb_II, nb_IR, nb_RI, nb_RR, nm_IL, nm_IQ, nm_RL, nm_RQ, nm_LI, nm_LR, nm_LL, nm_LQ, nm_QI, nm_QR, nm_QL, nm_QQ, nm_rr, nm_ii, nm_eqm, not_false_eq_true, pk_sub, nm_div, nm_shl, nm_shr, nm_ush, nm_or8, nm_or64, nm_or256, nm_m1, nm_m3, nm_m7, nm_m15, nm_m31, nm_m63, nm_m255, nm_m511, nm_m1023, nm_m2047, nm_m65535, Nat.reduceMod, Nat.reducePow, Nat.reduceAdd, Nat.reduceSub, Nat.reduceMul, nm_bo, nm_bi, nm_rc, nm_ic, nm_ri, nm_rl, nm_rq, nm_ql, nm_qi, nm_li, nm_us, nm_uu, nm_cp, nm_sa31, nm_sa7, nm_m127, nm_m2, nm_nz, nm_nzk, nm_eq32, nm_nzf, if_true, if_false, ↓reduceIte, if_pos, if_neg]
      refine Eq.trans hm ?_
      simp (disch := omega) only [(show df_X6_own_39 n (m + 1) = dF_X6_own_39 n (df_X6_own_39 n m) from rfl), dF_X6_own_39, df_X6_own_0, df_X6_own, nl_0, nl_1, nl_2, nl_3, nl_6, nl_7, nl_10, nl_31, nl_63, nl_256, nl_1024, nl_65536, no_1, no_1024, pk_mul, nI_add, nm_ck, nI_clamp, nI_ltI, nI_leI, nI_eq, nb_b2, nb_b1, nb_let, nm_z0, nm_z1, nb_II, nb_IR, nb_RI, nb_RR, nm_IL, nm_IQ, nm_RL, nm_RQ, nm_LI, nm_LR, nm_LL, nm_LQ, nm_QI, nm_QR, nm_QL, nm_QQ, nm_rr, nm_ii, nm_eqm, not_false_eq_true, pk_sub, nm_div, nm_shl, nm_shr, nm_ush, nm_or8, nm_or64, nm_or256, nm_m1, nm_m3, nm_m7, nm_m15, nm_m31, nm_m63, nm_m255, nm_m511, nm_m1023, nm_m2047, nm_m65535, Nat.reduceMod, Nat.reducePow, Nat.reduceAdd, Nat.reduceSub, Nat.reduceMul, nm_bo, nm_bi, nm_rc, nm_ic, nm_ri, nm_rl, nm_rq, nm_ql, nm_qi, nm_li, nm_us, nm_uu, nm_cp, nm_sa31, nm_sa7, nm_m127, nm_m2, nm_nz, nm_nzk, nm_eq32, nm_nzf, if_true, if_false, ↓reduceIte, if_pos, if_neg]
    · obtain ⟨f1, f2', f3⟩ := fF_lt hc
      have eu2 := (h.2.1 (fF (sR X.1 16)) f1).1
      rw [f2'] at eu2
      refine ⟨r2, a3, a6, ?_⟩
      simp (disch := omega) only [df_X6_own_0, df_X6_own, hx, a6, hy, eu, nl_0, nl_1, nl_2, nl_3, nl_6, nl_10, nl_31, nl_63, nl_256, nl_1024, no_1, no_1024, pk_mul, nI_add, nm_ck, nI_clamp, nI_ltI, nI_leI, nI_eq, nb_b2, nb_b1, nb_let, nm_z0, nm_z1, nb_II, nb_IR, nb_RI, nb_RR, nm_IL, nm_IQ, nm_RL, nm_RQ, nm_LI, nm_LR, nm_LL, nm_LQ, nm_QI, nm_QR, nm_QL, nm_QQ, nm_rr, nm_ii, nm_eqm, not_false_eq_true, pk_sub, nm_div, nm_shl, nm_shr, nm_ush, nm_or8, nm_or64, nm_or256, nm_m1, nm_m3, nm_m7, nm_m15, nm_m31, nm_m63, nm_m255, nm_m511, nm_m1023, nm_m2047, nm_m65535, Nat.reduceMod, Nat.reducePow, Nat.reduceAdd, Nat.reduceSub, Nat.reduceMul, nm_bo, nm_bi, nm_rc, nm_ic, nm_ri, nm_rl, nm_rq, nm_ql, nm_qi, nm_li, nm_us, nm_uu, nm_cp, nm_sa31, nm_sa7, nm_m127, nm_m2, nm_nz, nm_nzk, nm_eq32, nm_nzf, if_true, if_false, ↓reduceIte, if_pos, if_neg]
      refine Eq.trans hm ?_
      generalize fF (sR X.1 16) = ff at *
      have hz : (f2 * 8 + r2) % 8 = r2 := by omega
      simp (disch := omega) only [(show df_X6_own_39 n (m + 1) = dF_X6_own_39 n (df_X6_own_39 n m) from rfl), dF_X6_own_39, df_X6_own_0, df_X6_own, eu2, eu, a6, hz, mU, nm_rc (a := 1) (b := 0) (by decide), nm_rc (a := 2) (b := 0) (by decide), nm_rc (a := 2) (b := 1) (by decide), nl_0, nl_1, nl_2, nl_3, nl_6, nl_7, nl_10, nl_31, nl_63, nl_256, nl_1024, nl_65536, no_1, no_1024, pk_mul, nI_add, nm_ck, nI_clamp, nI_ltI, nI_leI, nI_eq, nb_b2, nb_b1, nb_let, nm_z0, nm_z1, nb_II, nb_IR, nb_RI, nb_RR, nm_IL, nm_IQ, nm_RL, nm_RQ, nm_LI, nm_LR, nm_LL, nm_LQ, nm_QI, nm_QR, nm_QL, nm_QQ, nm_rr, nm_ii, nm_eqm, not_false_eq_true, pk_sub, nm_div, nm_shl, nm_shr, nm_ush, nm_or8, nm_or64, nm_or256, nm_m1, nm_m3, nm_m7, nm_m15, nm_m31, nm_m63, nm_m255, nm_m511, nm_m1023, nm_m2047, nm_m65535, Nat.reduceMod, Nat.reducePow, Nat.reduceAdd, Nat.reduceSub, Nat.reduceMul, nm_bo, nm_bi, nm_rc, nm_ic, nm_ri, nm_rl, nm_rq, nm_ql, nm_qi, nm_li, nm_us, nm_uu, nm_cp, nm_sa31, nm_sa7, nm_m127, nm_m2, nm_nz, nm_nzk, nm_eq32, nm_nzf, if_true, if_false, ↓reduceIte, if_pos, if_neg]
