theorem nk_cput (n : Nat) {M : St × St} {w u g b fr ri ho : Nat → Int32} {fu us : Int32} (h : rQ w u g b fr ri ho fu us) {p A f : Nat} (hp : p < 16) (hA : A < 65536) (hf : f < 256) (e : fr (64 * p + A / 1024) = nI f) (m v : Int32) : df_X6_put n (nI p) (nI A) m v (mU M w u g fu) = some (mU M (upd w (f * 256 + A / 4 % 256) (pw (b ((64 * p + A / 1024) * 256 + A / 4 % 256)) (8 * (A % 4)) m v)) u g fu) := by
  rcases h.1 (64 * p + A / 1024) (by omega) with q | ⟨f2, r2, a1, a2, a3, a4, a5, a6, a7⟩
  · rw [q.1] at e
    exact absurd e.symm (nk_ne (by omega))
  · have ef : f2 = f := nm_inI (by omega) (by omega) (by rw [← a4, e])
    subst ef
    have hx : p * 64 + A / 2 ^ 10 % 64 = 64 * p + A / 1024 := by omega
    have hy : (f2 * 8 + r2) / 2 ^ 3 = f2 := by omega
    have hz : f2 * 256 + A / 2 ^ 2 % 256 = f2 * 256 + A / 4 % 256 := by omega
    have hs : 8 * (A % 4) % 32 = 8 * (A % 4) := by omega
    have hw1 := a7 (A / 4 % 256) (by omega)
    unfold mU pw
    simp (disch := omega) only [df_X6_put_0, df_X6_put, hx, a6, hy, hz, hs, hw1, nm_rc (a := 1) (b := 0) (by decide), nm_rc (a := 2) (b := 0) (by decide), nm_rc (a := 2) (b := 1) (by decide), nl_0, nl_1, nl_2, nl_3, nl_6, nl_8, nl_10, nl_31, nl_63, nl_255, nl_1024, nl_65536, no_1, no_1024, pk_mul, nI_add, nm_ck, nI_clamp, nI_ltI, nI_leI, nI_eq, nb_b2, nb_b1, nb_let, nm_z0, nm_z1, nb_II, nb_IR, nb_RI, nb_RR, nm_IL, nm_IQ, nm_RL, nm_RQ, nm_LI, nm_LR, nm_LL, nm_LQ, nm_QI, nm_QR, nm_QL, nm_QQ, nm_rr, nm_ii, nm_eqm, not_false_eq_true, pk_sub, nm_div, nm_shl, nm_shr, nm_ush, nm_or8, nm_or64, nm_or256, nm_m1, nm_m3, nm_m7, nm_m15, nm_m31, nm_m63, nm_m255, nm_m511, nm_m1023, nm_m2047, nm_m65535, Nat.reduceMod, Nat.reducePow, Nat.reduceAdd, Nat.reduceSub, Nat.reduceMul, nm_bo, nm_bi, nm_rc, nm_ic, nm_ri, nm_rl, nm_rq, nm_ql, nm_qi, nm_li, nm_us, nm_uu, nm_cp, nm_sa31, nm_sa7, nm_m127, nm_m2, nm_nz, nm_nzk, nm_eq32, nm_nzf, if_true, if_false, ↓reduceIte, if_pos, if_neg]
theorem nm_wr {p A k : Nat} (hp : p < 16) (hA : A < 65536) (hk : k < 1024) : ((nI p <<< nI 26) ||| (nI A <<< nI 10)) ||| nI k = nI (p * 67108864 + A * 1024 + k) := by
  rw [nm_shl (by omega) (by omega), nm_shl (by omega) (by omega), nm_orG 26 (by omega) (by omega), show p * 2 ^ 26 + A * 2 ^ 10 = (p * 65536 + A) * 2 ^ 10 from by omega, nm_orG 10 (by omega) (by omega)]
theorem nk_nem (x : Nat) : ¬ nI (x * 4) = -nI 1 := fun z => by
  have z := congrArg (fun y => y.toBitVec.toNat) z
  have z : x * 4 % 2 ^ 32 = 4294967295 := z
  omega
theorem rvs_m (A : Nat) : ∀ k : Nat, rvs (-nI 1) A k = -nI 1
  | 0 => rfl
  | k + 1 => by
    show rv (rvs (-nI 1) A k) (A + k) = _
    rw [rvs_m A k]
    exact if_neg (fun z => absurd z.symm (nk_nem _))
theorem rvs_n {A t : Nat} (ht : t < 16384) : ∀ k : Nat, A + k ≤ 65536 → rvs (nI (4 * t)) A k = if A < 4 * t + 4 ∧ 4 * t < A + k ∧ 0 < k then -nI 1 else nI (4 * t)
  | 0, _ => (if_neg (by omega)).symm
  | k + 1, hk => by
    show rv (rvs (nI (4 * t)) A k) (A + k) = _
    rw [rvs_n ht k (by omega)]
    unfold rv
    by_cases c : A < 4 * t + 4 ∧ 4 * t < A + k ∧ 0 < k
    · rw [if_pos c, if_pos (show A < 4 * t + 4 ∧ 4 * t < A + (k + 1) ∧ 0 < k + 1 by omega)]
      by_cases d : (-nI 1 : Int32) = nI ((A + k) / 4 * 4)
      · rw [if_pos d]
      · rw [if_neg d]
    · rw [if_neg c]
      by_cases d : (A + k) / 4 = t
      · rw [if_pos (show A < 4 * t + 4 ∧ 4 * t < A + (k + 1) ∧ 0 < k + 1 by omega), if_pos (congrArg nI (by omega))]
      · rw [if_neg (show ¬ (A < 4 * t + 4 ∧ 4 * t < A + (k + 1) ∧ 0 < k + 1) by omega), if_neg (fun z => d (by have := nm_inI (by omega) (by omega) z; omega))]
theorem nk_note (n : Nat) {M : St × St} {re : Int32} (hr : sI M.1 6 = re) (ho : okR re) {p A k : Nat} (hp : p < 16) (hA : A + k ≤ 65536) (k1 : 1 ≤ k) (k2 : k ≤ 512) : df_X6_noteWrite n (nI p) (nI A) (nI k) M = some (pI (pI M.1 6 (rvs re A k)) 7 (nI (p * 67108864 + A * 1024 + k)), M.2) := by
  have hw := nm_wr hp (show A < 65536 by omega) (show k < 1024 by omega)
  have eL : (nI p <<< nI 26 ||| nI A <<< nI 10) ||| nI k = nI (p * 67108864 + A * 1024 + k) := hw
  generalize nI (p * 67108864 + A * 1024 + k) = wn at hw eL ⊢
  have l26 : nI 26 &&& nI 31 = nI 26 := by decide
  have l10 : nI 10 &&& nI 31 = nI 10 := by decide
  have e0 : df_X6_noteWrite_0 n (nI p) (nI A) (nI k) M = if nI k ≤ 0 then df_X6_noteWrite_51 n M else nd_let (pI M.1 7 wn, M.2) (fun s2 => if (sI s2.1 6) < 0 then (df_X6_noteWrite_51 n s2) else (if ((sI s2.1 6) + 4) ≤ nI A then (df_X6_noteWrite_51 n s2) else (if ((nI A + nI k)) ≤ (sI s2.1 6) then (df_X6_noteWrite_51 n s2) else (nd_let (pI s2.1 6 (-1), s2.2) (fun s6 => df_X6_noteWrite_51 n s6))))) := by
    rw [← eL]
    rfl
  show df_X6_noteWrite_0 n (nI p) (nI A) (nI k) M = _
  rw [e0]
  rcases ho with e | ⟨t, ht, e⟩
  · subst e
    rw [rvs_m, ← hr, nm_i0]
    simp (disch := omega) only [df_X6_noteWrite_51, hr, nm_ltm, nl_0, nl_1, nl_4, no_1, no_1024, pk_mul, nI_add, nm_ck, nI_clamp, nI_ltI, nI_leI, nI_eq, nb_b2, nb_b1, nb_let, nm_z0, nm_z1, nb_II, nb_IR, nb_RI, nb_RR, nm_IL, nm_IQ, nm_RL, nm_RQ, nm_LI, nm_LR, nm_LL, nm_LQ, nm_QI, nm_QR, nm_QL, nm_QQ, nm_rr, nm_ii, nm_eqm, not_false_eq_true, pk_sub, nm_div, nm_shl, nm_shr, nm_ush, nm_or8, nm_or64, nm_or256, nm_m1, nm_m3, nm_m7, nm_m15, nm_m31, nm_m63, nm_m255, nm_m511, nm_m1023, nm_m2047, nm_m65535, Nat.reduceMod, Nat.reducePow, Nat.reduceAdd, Nat.reduceSub, Nat.reduceMul, nm_bo, nm_bi, nm_rc, nm_ic, nm_ri, nm_rl, nm_rq, nm_ql, nm_qi, nm_li, nm_us, nm_uu, nm_cp, nm_sa31, nm_sa7, nm_m127, nm_m2, nm_nz, nm_nzk, nm_eq32, nm_nzf, if_true, if_false, ↓reduceIte, if_pos, if_neg]
  · subst e
    rw [rvs_n ht k hA]
    by_cases c : A < 4 * t + 4 ∧ 4 * t < A + k ∧ 0 < k
    · rw [if_pos c]
      simp (disch := omega) only [df_X6_noteWrite_51, hr, nm_ic (a := 7) (b := 6) (by decide), nl_0, nl_1, nl_4, no_1, no_1024, pk_mul, nI_add, nm_ck, nI_clamp, nI_ltI, nI_leI, nI_eq, nb_b2, nb_b1, nb_let, nm_z0, nm_z1, nb_II, nb_IR, nb_RI, nb_RR, nm_IL, nm_IQ, nm_RL, nm_RQ, nm_LI, nm_LR, nm_LL, nm_LQ, nm_QI, nm_QR, nm_QL, nm_QQ, nm_rr, nm_ii, nm_eqm, not_false_eq_true, pk_sub, nm_div, nm_shl, nm_shr, nm_ush, nm_or8, nm_or64, nm_or256, nm_m1, nm_m3, nm_m7, nm_m15, nm_m31, nm_m63, nm_m255, nm_m511, nm_m1023, nm_m2047, nm_m65535, Nat.reduceMod, Nat.reducePow, Nat.reduceAdd, Nat.reduceSub, Nat.reduceMul, nm_bo, nm_bi, nm_rc, nm_ic, nm_ri, nm_rl, nm_rq, nm_ql, nm_qi, nm_li, nm_us, nm_uu, nm_cp, nm_sa31, nm_sa7, nm_m127, nm_m2, nm_nz, nm_nzk, nm_eq32, nm_nzf, if_true, if_false, ↓reduceIte, if_pos, if_neg]
    · rw [if_neg c, ← hr, nm_i0]
      by_cases d : 4 * t + 4 ≤ A
      · simp (disch := omega) only [df_X6_noteWrite_51, hr, nl_0, nl_1, nl_4, no_1, no_1024, pk_mul, nI_add, nm_ck, nI_clamp, nI_ltI, nI_leI, nI_eq, nb_b2, nb_b1, nb_let, nm_z0, nm_z1, nb_II, nb_IR, nb_RI, nb_RR, nm_IL, nm_IQ, nm_RL, nm_RQ, nm_LI, nm_LR, nm_LL, nm_LQ, nm_QI, nm_QR, nm_QL, nm_QQ, nm_rr, nm_ii, nm_eqm, not_false_eq_true, pk_sub, nm_div, nm_shl, nm_shr, nm_ush, nm_or8, nm_or64, nm_or256, nm_m1, nm_m3, nm_m7, nm_m15, nm_m31, nm_m63, nm_m255, nm_m511, nm_m1023, nm_m2047, nm_m65535, Nat.reduceMod, Nat.reducePow, Nat.reduceAdd, Nat.reduceSub, Nat.reduceMul, nm_bo, nm_bi, nm_rc, nm_ic, nm_ri, nm_rl, nm_rq, nm_ql, nm_qi, nm_li, nm_us, nm_uu, nm_cp, nm_sa31, nm_sa7, nm_m127, nm_m2, nm_nz, nm_nzk, nm_eq32, nm_nzf, if_true, if_false, ↓reduceIte, if_pos, if_neg]
      · simp (disch := omega) only [df_X6_noteWrite_51, hr, nl_0, nl_1, nl_4, no_1, no_1024, pk_mul, nI_add, nm_ck, nI_clamp, nI_ltI, nI_leI, nI_eq, nb_b2, nb_b1, nb_let, nm_z0, nm_z1, nb_II, nb_IR, nb_RI, nb_RR, nm_IL, nm_IQ, nm_RL, nm_RQ, nm_LI, nm_LR, nm_LL, nm_LQ, nm_QI, nm_QR, nm_QL, nm_QQ, nm_rr, nm_ii, nm_eqm, not_false_eq_true, pk_sub, nm_div, nm_shl, nm_shr, nm_ush, nm_or8, nm_or64, nm_or256, nm_m1, nm_m3, nm_m7, nm_m15, nm_m31, nm_m63, nm_m255, nm_m511, nm_m1023, nm_m2047, nm_m65535, Nat.reduceMod, Nat.reducePow, Nat.reduceAdd, Nat.reduceSub, Nat.reduceMul, nm_bo, nm_bi, nm_rc, nm_ic, nm_ri, nm_rl, nm_rq, nm_ql, nm_qi, nm_li, nm_us, nm_uu, nm_cp, nm_sa31, nm_sa7, nm_m127, nm_m2, nm_nz, nm_nzk, nm_eq32, nm_nzf, if_true, if_false, ↓reduceIte, if_pos, if_neg]
/-- a loop of the reference that writes -/
theorem nk_sl (n : Nat) (hn : 1024 < n) {X : St × St} {p A m : Nat} (hp : sI X.1 12 = nI p) (hm : m ≤ 4) (v : Int32) {Y : St × St} (hY : wrs n p A (fun k => v >>> nI (8 * k)) m X = some Y) (hk : ∀ k : Nat, k ≤ m → ∃ (b' fr' ho' : Nat → Int32) (us' re' wr' : Int32), wrs n p A (fun k => v >>> nI (8 * k)) k X = some (wX X b' fr' (sR X.1 17) ho' us' re' wr')) : df_X16_stored_90 n n (nI A) v (nI m) (nI 0) X = some Y := by
  obtain ⟨m', s', ⟨i1, i2⟩, e⟩ := nm_l1 (S := St × St) (fun g k s => df_X16_stored_90 n g (nI A) v (nI m) (nI k) s) (fun k s => wrs n p A (fun k => v >>> nI (8 * k)) k X = some s ∧ sI s.1 12 = nI p) m n (by omega) (fun k g s hk' ⟨i1, i2⟩ => by
    obtain ⟨b', fr', ho', us', re', wr', e1⟩ := hk (k + 1) (by omega)
    have e1' : nd_b1 (wrs n p A (fun k => v >>> nI (8 * k)) k X) (fun s => df_X16_write n (nI p) (nI (A + k)) (v >>> nI (8 * k)) s) = some (wX X b' fr' (sR X.1 17) ho' us' re' wr') := e1
    rw [i1, nb_b1] at e1'
    refine ⟨_, ⟨e1, hp⟩, ?_⟩
    have hs : 8 * k % 32 = 8 * k := by omega
    rw [show df_X16_stored_90 n (g + 1) = dF_X16_stored_90 n (df_X16_stored_90 n g) from rfl]
    simp (disch := omega) only [dF_X16_stored_90, i2, hs, e1', nl_1, nl_8, nl_12, nl_31, no_1, no_1024, pk_mul, nI_add, nm_ck, nI_clamp, nI_ltI, nI_leI, nI_eq, nb_b2, nb_b1, nb_let, nm_z0, nm_z1, nb_II, nb_IR, nb_RI, nb_RR, nm_IL, nm_IQ, nm_RL, nm_RQ, nm_LI, nm_LR, nm_LL, nm_LQ, nm_QI, nm_QR, nm_QL, nm_QQ, nm_rr, nm_ii, nm_eqm, not_false_eq_true, pk_sub, nm_div, nm_shl, nm_shr, nm_ush, nm_or8, nm_or64, nm_or256, nm_m1, nm_m3, nm_m7, nm_m15, nm_m31, nm_m63, nm_m255, nm_m511, nm_m1023, nm_m2047, nm_m65535, Nat.reduceMod, Nat.reducePow, Nat.reduceAdd, Nat.reduceSub, Nat.reduceMul, nm_bo, nm_bi, nm_rc, nm_ic, nm_ri, nm_rl, nm_rq, nm_ql, nm_qi, nm_li, nm_us, nm_uu, nm_cp, nm_sa31, nm_sa7, nm_m127, nm_m2, nm_nz, nm_nzk, nm_eq32, nm_nzf, if_true, if_false, ↓reduceIte, if_pos, if_neg]) X ⟨rfl, hp⟩
  refine Eq.trans e ?_
  rw [hY] at i1
  cases i1
  show df_X16_stored_90 n (m' + 1) _ _ _ _ _ = _
  rw [show df_X16_stored_90 n (m' + 1) = dF_X16_stored_90 n (df_X16_stored_90 n m') from rfl]
  simp (disch := omega) only [dF_X16_stored_90, df_X16_stored_122, nl_1, nl_8, nl_12, nl_31, no_1, no_1024, pk_mul, nI_add, nm_ck, nI_clamp, nI_ltI, nI_leI, nI_eq, nb_b2, nb_b1, nb_let, nm_z0, nm_z1, nb_II, nb_IR, nb_RI, nb_RR, nm_IL, nm_IQ, nm_RL, nm_RQ, nm_LI, nm_LR, nm_LL, nm_LQ, nm_QI, nm_QR, nm_QL, nm_QQ, nm_rr, nm_ii, nm_eqm, not_false_eq_true, pk_sub, nm_div, nm_shl, nm_shr, nm_ush, nm_or8, nm_or64, nm_or256, nm_m1, nm_m3, nm_m7, nm_m15, nm_m31, nm_m63, nm_m255, nm_m511, nm_m1023, nm_m2047, nm_m65535, Nat.reduceMod, Nat.reducePow, Nat.reduceAdd, Nat.reduceSub, Nat.reduceMul, nm_bo, nm_bi, nm_rc, nm_ic, nm_ri, nm_rl, nm_rq, nm_ql, nm_qi, nm_li, nm_us, nm_uu, nm_cp, nm_sa31, nm_sa7, nm_m127, nm_m2, nm_nz, nm_nzk, nm_eq32, nm_nzf, if_true, if_false, ↓reduceIte, if_pos, if_neg]
def mk (f : Nat) : Int32 := if f = 0 then nI 255 else if f = 1 then nI 65535 else -nI 1
theorem nm_s00 (v : Int32) : v >>> nI 0 = v := by (apply gb_ext; apply all32; simp (disch := decide) only [gb_or, gb_and, gb_xor, gb_shl, gb_shr, gb_ush, gb_n, gb_m, gb_hi, Nat.reduceAdd, Nat.reduceSub, Nat.reduceLT, Nat.reduceLeDiff, Nat.testBit, Nat.reduceShiftRight, Nat.reduceBNe, Nat.reduceAnd, Nat.one_and_eq_mod_two, Nat.reduceMod, decide_true, decide_false, Bool.and_true, Bool.true_and, Bool.and_false, Bool.false_and, Bool.or_false, Bool.false_or, Bool.or_true, Bool.true_or, Bool.not_true, Bool.not_false, Bool.xor_true, Bool.xor_false, Bool.true_xor, Bool.false_xor, if_true, if_false, ↓reduceIte, and_self, bne_self_eq_false, Bool.or_self, Bool.and_self, Bool.not_not])
theorem pb_is (b : Nat → Int32) {p A j : Nat} (h : A % 4 + j < 4) (v : Int32) : pb b (65536 * p + (A + j)) v = upd b ((64 * p + A / 1024) * 256 + A / 4 % 256) (pw (b ((64 * p + A / 1024) * 256 + A / 4 % 256)) (8 * (A % 4 + j)) (nI 255) v) := by
  unfold pb
  rw [show (65536 * p + (A + j)) / 4 = (64 * p + A / 1024) * 256 + A / 4 % 256 from by omega, show (65536 * p + (A + j)) % 4 = A % 4 + j from by omega]
theorem pb_u (b : Nat → Int32) {p A j : Nat} (h : A % 4 + j < 4) (x v : Int32) : pb (upd b ((64 * p + A / 1024) * 256 + A / 4 % 256) x) (65536 * p + (A + j)) v = upd b ((64 * p + A / 1024) * 256 + A / 4 % 256) (pw x (8 * (A % 4 + j)) (nI 255) v) := by
  rw [pb_is _ h, nm_us, nm_uu]
theorem pbs_k (b : Nat → Int32) {p A f k : Nat} (hfk : (f = 0 ∧ k = 1) ∨ (f = 1 ∧ k = 2) ∨ (f = 2 ∧ k = 4)) (hal : A % k = 0) (v : Int32) : pbs b p A (fun k => v >>> nI (8 * k)) k = upd b ((64 * p + A / 1024) * 256 + A / 4 % 256) (pw (b ((64 * p + A / 1024) * 256 + A / 4 % 256)) (8 * (A % 4)) (mk f) v) := by
  rcases hfk with ⟨rfl, rfl⟩ | ⟨rfl, rfl⟩ | ⟨rfl, rfl⟩
  · show pb b (65536 * p + (A + 0)) (v >>> nI (8 * 0)) = _
    rw [pb_is b (by omega), Nat.add_zero, Nat.mul_zero, nm_s00]
    rfl
  · show pb (pb b (65536 * p + (A + 0)) (v >>> nI (8 * 0))) (65536 * p + (A + 1)) (v >>> nI (8 * 1)) = _
    rw [pb_is b (by omega), pb_u b (by omega), Nat.add_zero, Nat.mul_zero, nm_s00]
    by_cases c : A % 4 = 0
    · rw [c]; exact congrArg _ (pw_2 _ _).symm
    · rw [show A % 4 = 2 from by omega]; exact congrArg _ (pw_2h _ _).symm
  · show pb (pb (pb (pb b (65536 * p + (A + 0)) (v >>> nI (8 * 0))) (65536 * p + (A + 1)) (v >>> nI (8 * 1))) (65536 * p + (A + 2)) (v >>> nI (8 * 2))) (65536 * p + (A + 3)) (v >>> nI (8 * 3)) = _
    rw [pb_is b (by omega), pb_u b (by omega), pb_u b (by omega), pb_u b (by omega), Nat.add_zero, Nat.mul_zero, nm_s00, hal]
    exact congrArg _ (pw_4 _ _).symm
/-- a store that is aligned and may be -/
theorem nk_st (n : Nat) (hn : 1024 < n) {M X : St × St} (h : rK M X) {p f A k : Nat} (hp : p < 16) (h12 : sI X.1 12 = nI p) (hre : okR (sI X.1 4)) (hwr : okB (sI X.1 16)) (hfk : (f = 0 ∧ k = 1) ∨ (f = 1 ∧ k = 2) ∨ (f = 2 ∧ k = 4)) (hal : A % k = 0) (hma : ma X p A 2 = true) : (df_X6_own n (nI p) (nI A) M = some (nI 0, M) ∧ ∀ v : Int32, df_X16_stored n (nI f) (nI A) v X = some (pI X.1 11 (nI 8), X.2)) ∨ ∃ (w u g : Nat → Int32) (fu : Int32) (fr ho : Nat → Int32) (us : Int32) (f0 : Nat), f0 < 256 ∧ fr (64 * p + A / 1024) = nI f0 ∧ df_X6_own n (nI p) (nI A) M = some (nI 1, mU M w u g fu) ∧ rQ w u g (sR X.1 15) fr (sR X.1 17) ho fu us ∧ (∀ j : Nat, j < 1024 → (fr j = -nI 1 ↔ sR X.1 16 j = -nI 1)) ∧ ∀ v : Int32, ∃ w' b' : Nat → Int32, df_X6_put n (nI p) (nI A) (mk f) v (mU M w u g fu) = some (mU M w' u g fu) ∧ rQ w' u g b' fr (sR X.1 17) ho fu us ∧ df_X16_stored n (nI f) (nI A) v X = some (wX X b' fr (sR X.1 17) ho us (rvs (sI X.1 4) A k) (wvs X (sI X.1 16) p A k)) := by
  obtain ⟨lA, f0, hf0, ef0⟩ := ma_ex h hp hma
  have hm := (nk_may n h hp (A := A) (q := 2) (by omega) (by omega)).2
  rw [hma] at hm
  have k1 : 1 ≤ k ∧ k ≤ 4 := by omega
  have lk : A + k ≤ 65536 := by rcases hfk with e | e | e <;> (rw [e.2] at hal ⊢; omega)
  have pg : (A + k - 1) / 1024 = A / 1024 := by rcases hfk with e | e | e <;> (rw [e.2] at hal ⊢; omega)
  have wa := (nk_wanted n hn h hp k1.1 (by omega) lk hf0 hf0 ef0 (by rw [pg]; exact ef0)).2
  have hw : wt (sR X.1 16) (64 * p + A / 1024) (64 * p + (A + k - 1) / 1024) = if cF (sR X.1 16) f0 = 1 then 0 else 1 := by
    unfold wt
    rw [pg, if_pos rfl, ef0, nI_clamp (by omega)]
    rfl
  have eus := h.2.2.2.2
  have ul := cU_le (sR X.1 16)
  have p0 := cF_pos (fr := sR X.1 16) (by omega) ef0
  rw [hw] at wa
  have rem : A / k * k = A := Nat.div_mul_cancel (Nat.dvd_of_mod_eq_zero hal)
  have hd : ∀ {α : Type} (x : Option α), nd_nz (decide (nI k = nI 0)) x = x := fun x => nm_nz (by omega) (by omega)
  have sh : nI 1 <<< nI (f % 4 % 32) = nI k := by rcases hfk with e | e | e <;> (rw [e.1, e.2]; decide)
  by_cases hc : cF (sR X.1 16) f0 = 1 ∨ cU (sR X.1 16) < 256
  · right
    obtain ⟨M1, w, u, g, fu, fr, ho, us, z1, z2, z3, z4, z5, z6, z7, z8, z9⟩ := nk_write n hn h hp k1.1 (show k ≤ 1024 by omega) lk hf0 hf0 ef0 (by rw [pg]; exact ef0) (by
      rw [hw]
      by_cases c : cF (sR X.1 16) f0 = 1
      · rw [if_pos c]; omega
      · rw [if_neg c]; omega) hre hwr
    rw [z8 pg] at z1
    obtain ⟨f1, hf1, ef1, cf1⟩ := z4 0 (by omega)
    rw [Nat.add_zero] at ef1
    refine ⟨w, u, g, fu, fr, ho, us, f1, hf1, ef1, z1, z3, fun j hj => ⟨fun z => ?_, fun z => z6 j z hj⟩, fun v => ?_⟩
    · by_cases c : sR X.1 16 j = -nI 1
      · exact c
      · exact absurd z (z7 j hj c)
    · have hb := pbs_k (sR X.1 15) (p := p) hfk hal v
      refine ⟨_, _, nk_cput n z3 hp lA hf1 ef1 (mk f) v, rQ_put z3 (by omega) hf1 ef1 cf1 (by omega) _, ?_⟩
      rw [← hb]
      have sl := nk_sl n hn h12 (by omega) v (z5 _) (z9 _)
      have hh : ¬ 256 < cU (sR X.1 16) + if cF (sR X.1 16) f0 = 1 then 0 else 1 := by
        by_cases c : cF (sR X.1 16) f0 = 1
        · rw [if_pos c]; omega
        · rw [if_neg c]; omega
      generalize (if cF (sR X.1 16) f0 = 1 then 0 else 1) = wn at wa hh
      have hwn : wn ≤ 256 := by omega
      generalize cU (sR X.1 16) = cu at eus hh ul
      simp (disch := omega) only [df_X16_stored_122, df_X16_stored_0, df_X16_stored, df_X16_hasFrames_17, df_X16_hasFrames_0, df_X16_hasFrames, sh, hd, rem, Nat.sub_self, h12, hm, bI_t, wa, eus, sl, nl_0, nl_1, nl_2, nl_3, nl_5, nl_6, nl_7, nl_8, nl_12, nl_31, nl_256, no_1, no_1024, pk_mul, nI_add, nm_ck, nI_clamp, nI_ltI, nI_leI, nI_eq, nb_b2, nb_b1, nb_let, nm_z0, nm_z1, nb_II, nb_IR, nb_RI, nb_RR, nm_IL, nm_IQ, nm_RL, nm_RQ, nm_LI, nm_LR, nm_LL, nm_LQ, nm_QI, nm_QR, nm_QL, nm_QQ, nm_rr, nm_ii, nm_eqm, not_false_eq_true, pk_sub, nm_div, nm_shl, nm_shr, nm_ush, nm_or8, nm_or64, nm_or256, nm_m1, nm_m3, nm_m7, nm_m15, nm_m31, nm_m63, nm_m255, nm_m511, nm_m1023, nm_m2047, nm_m65535, Nat.reduceMod, Nat.reducePow, Nat.reduceAdd, Nat.reduceSub, Nat.reduceMul, nm_bo, nm_bi, nm_rc, nm_ic, nm_ri, nm_rl, nm_rq, nm_ql, nm_qi, nm_li, nm_us, nm_uu, nm_cp, nm_sa31, nm_sa7, nm_m127, nm_m2, nm_nz, nm_nzk, nm_eq32, nm_nzf, if_true, if_false, ↓reduceIte, if_pos, if_neg]
  · left
    have c1 : 1 < cF (sR X.1 16) f0 := by omega
    have c2 : cU (sR X.1 16) = 256 := by omega
    refine ⟨(nk_own2 n hn h hp lA hf0 ef0 c1).1 c2, fun v => ?_⟩
    rw [if_neg (by omega)] at wa
    rw [c2] at eus
    simp (disch := omega) only [df_X16_stored_122, df_X16_stored_0, df_X16_stored, df_X16_hasFrames_17, df_X16_hasFrames_0, df_X16_hasFrames, df_X16_meet_0, df_X16_meet, sh, hd, rem, Nat.sub_self, h12, hm, bI_t, wa, eus, nl_0, nl_1, nl_2, nl_3, nl_5, nl_6, nl_7, nl_8, nl_11, nl_12, nl_31, nl_256, no_1, no_1024, pk_mul, nI_add, nm_ck, nI_clamp, nI_ltI, nI_leI, nI_eq, nb_b2, nb_b1, nb_let, nm_z0, nm_z1, nb_II, nb_IR, nb_RI, nb_RR, nm_IL, nm_IQ, nm_RL, nm_RQ, nm_LI, nm_LR, nm_LL, nm_LQ, nm_QI, nm_QR, nm_QL, nm_QQ, nm_rr, nm_ii, nm_eqm, not_false_eq_true, pk_sub, nm_div, nm_shl, nm_shr, nm_ush, nm_or8, nm_or64, nm_or256, nm_m1, nm_m3, nm_m7, nm_m15, nm_m31, nm_m63, nm_m255, nm_m511, nm_m1023, nm_m2047, nm_m65535, Nat.reduceMod, Nat.reducePow, Nat.reduceAdd, Nat.reduceSub, Nat.reduceMul, nm_bo, nm_bi, nm_rc, nm_ic, nm_ri, nm_rl, nm_rq, nm_ql, nm_qi, nm_li, nm_us, nm_uu, nm_cp, nm_sa31, nm_sa7, nm_m127, nm_m2, nm_nz, nm_nzk, nm_eq32, nm_nzf, if_true, if_false, ↓reduceIte, if_pos, if_neg]
