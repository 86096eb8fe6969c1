/-- a mask's bits of a word -/
def pw (x : Int32) (s : Nat) (m v : Int32) : Int32 := (x &&& ((m <<< nI s) ^^^ -nI 1)) ||| ((v &&& m) <<< nI s)
/-- a byte of the reference's memory -/
def pb (b : Nat → Int32) (A : Nat) (v : Int32) : Nat → Int32 := upd b (A / 4) (pw (b (A / 4)) (8 * (A % 4)) (nI 255) v)
def wX (X : St × St) (b fr ri ho : Nat → Int32) (us re wr : Int32) : St × St := (pI (pI (pI (pR (pR (pR (pR X.1 15 b) 16 fr) 17 ri) 18 ho) 4 re) 6 us) 16 wr, X.2)
theorem wX_id (X : St × St) : wX X (sR X.1 15) (sR X.1 16) (sR X.1 17) (sR X.1 18) (sI X.1 6) (sI X.1 4) (sI X.1 16) = X := by
  unfold wX
  rw [nm_r0, nm_r0, nm_r0, nm_r0, nm_i0, nm_i0, nm_i0]
/-- what is reserved once a byte is written -/
def rv (re : Int32) (a : Nat) : Int32 := if re = nI (a / 4 * 4) then -nI 1 else re
def wv (X : St × St) (wr : Int32) (p a : Nat) : Int32 := if wr = nI 0 then (if nI p = sI X.1 14 ∧ nI a = sI X.1 15 then nI 1 else nI 0) else nI 1
def okR (re : Int32) : Prop := re = -nI 1 ∨ ∃ t : Nat, t < 16384 ∧ re = nI (4 * t)
def okB (wr : Int32) : Prop := wr = nI 0 ∨ wr = nI 1
theorem okR_rv {re : Int32} (h : okR re) (a : Nat) : okR (rv re a) := by
  unfold rv
  by_cases c : re = nI (a / 4 * 4)
  · rw [if_pos c]; exact Or.inl rfl
  · rw [if_neg c]; exact h
theorem okB_wv {X : St × St} {wr : Int32} {p a : Nat} : okB (wv X wr p a) := by
  unfold wv
  by_cases c : wr = nI 0
  · rw [if_pos c]
    by_cases d : nI p = sI X.1 14 ∧ nI a = sI X.1 15
    · rw [if_pos d]; exact Or.inr rfl
    · rw [if_neg d]; exact Or.inl rfl
  · rw [if_neg c]; exact Or.inr rfl
theorem nm_f0 {α : Type} {x : Option α} : nd_f .boolean (nI 0) x = x := if_pos (by decide)
theorem nm_f1 {α : Type} {x : Option α} : nd_f .boolean (nI 1) x = x := if_pos (by decide)
theorem nk_put (n : Nat) {X : St × St} {b fr ri ho : Nat → Int32} {us re wr : Int32} {p a : Nat} (hp : p < 16) (ha : a < 65536) (v : Int32) : df_X16_put n (nI (65536 * p + a)) v (wX X b fr ri ho us re wr) = some (wX X (pb b (65536 * p + a) v) fr ri ho us re wr) := by
  have hs : 8 * ((65536 * p + a) % 4) % 32 = 8 * ((65536 * p + a) % 4) := by omega
  simp (disch := omega) only [df_X16_put_0, df_X16_put, wX, pb, pw, hs, nm_rc (a := 16) (b := 15) (by decide), nm_rc (a := 17) (b := 15) (by decide), nm_rc (a := 17) (b := 16) (by decide), nm_rc (a := 18) (b := 15) (by decide), nm_rc (a := 18) (b := 16) (by decide), nm_rc (a := 18) (b := 17) (by decide), nm_ic (a := 6) (b := 4) (by decide), nm_ic (a := 16) (b := 4) (by decide), nm_ic (a := 16) (b := 6) (by decide), nl_1, nl_2, nl_3, nl_8, nl_15, nl_31, nl_255, nl_262144, no_1, no_1024, pk_mul, nI_add, nm_ck, nI_clamp, nI_ltI, nI_leI, nI_eq, nb_b2, nb_b1, nb_let, nm_z0, nm_z1, nb_II, nb_IR, nb_RI, nb_RR, nm_IL, nm_IQ, nm_RL, nm_RQ, nm_LI, nm_LR, nm_LL, nm_LQ, nm_QI, nm_QR, nm_QL, nm_QQ, nm_rr, nm_ii, nm_eqm, not_false_eq_true, pk_sub, nm_div, nm_shl, nm_shr, nm_ush, nm_or8, nm_or64, nm_or256, nm_m1, nm_m3, nm_m7, nm_m15, nm_m31, nm_m63, nm_m255, nm_m511, nm_m1023, nm_m2047, nm_m65535, Nat.reduceMod, Nat.reducePow, Nat.reduceAdd, Nat.reduceSub, Nat.reduceMul, nm_bo, nm_bi, nm_rc, nm_ic, nm_ri, nm_rl, nm_rq, nm_ql, nm_qi, nm_li, nm_us, nm_uu, nm_cp, nm_sa31, nm_sa7, nm_m127, nm_m2, nm_nz, nm_nzk, nm_eq32, nm_nzf, if_true, if_false, ↓reduceIte, if_pos, if_neg]
theorem nk_w80 (n : Nat) {X : St × St} {b fr ri ho : Nat → Int32} {us re wr : Int32} {p a : Nat} (hwr : okB wr) : df_X16_write_80 n (nI p) (nI a) (wX X b fr ri ho us re wr) = some (wX X b fr ri ho us re (wv X wr p a)) := by
  unfold wv
  rcases hwr with e | e
  · subst e
    by_cases c1 : nI p = sI X.1 14
    · by_cases c2 : nI a = sI X.1 15
      · rw [if_pos rfl, if_pos ⟨c1, c2⟩]
        simp (disch := omega) only [df_X16_write_80, df_X16_write_104, df_X16_write_108, df_X16_write_109, wX, c1, c2, nm_f0, nm_f1, nm_ic (a := 6) (b := 4) (by decide), nm_ic (a := 16) (b := 4) (by decide), nm_ic (a := 16) (b := 6) (by decide), nl_0, nl_1, nl_14, nl_15, nl_16, no_1, no_1024, pk_mul, nI_add, nm_ck, nI_clamp, nI_ltI, nI_leI, nI_eq, nb_b2, nb_b1, nb_let, nm_z0, nm_z1, nb_II, nb_IR, nb_RI, nb_RR, nm_IL, nm_IQ, nm_RL, nm_RQ, nm_LI, nm_LR, nm_LL, nm_LQ, nm_QI, nm_QR, nm_QL, nm_QQ, nm_rr, nm_ii, nm_eqm, not_false_eq_true, pk_sub, nm_div, nm_shl, nm_shr, nm_ush, nm_or8, nm_or64, nm_or256, nm_m1, nm_m3, nm_m7, nm_m15, nm_m31, nm_m63, nm_m255, nm_m511, nm_m1023, nm_m2047, nm_m65535, Nat.reduceMod, Nat.reducePow, Nat.reduceAdd, Nat.reduceSub, Nat.reduceMul, nm_bo, nm_bi, nm_rc, nm_ic, nm_ri, nm_rl, nm_rq, nm_ql, nm_qi, nm_li, nm_us, nm_uu, nm_cp, nm_sa31, nm_sa7, nm_m127, nm_m2, nm_nz, nm_nzk, nm_eq32, nm_nzf, if_true, if_false, ↓reduceIte, if_pos, if_neg]
      · rw [if_pos rfl, if_neg (fun z => c2 z.2)]
        simp (disch := omega) only [df_X16_write_80, df_X16_write_104, df_X16_write_108, df_X16_write_109, wX, c1, c2, nm_f0, nm_f1, nm_ic (a := 6) (b := 4) (by decide), nm_ic (a := 16) (b := 4) (by decide), nm_ic (a := 16) (b := 6) (by decide), nl_0, nl_1, nl_14, nl_15, nl_16, no_1, no_1024, pk_mul, nI_add, nm_ck, nI_clamp, nI_ltI, nI_leI, nI_eq, nb_b2, nb_b1, nb_let, nm_z0, nm_z1, nb_II, nb_IR, nb_RI, nb_RR, nm_IL, nm_IQ, nm_RL, nm_RQ, nm_LI, nm_LR, nm_LL, nm_LQ, nm_QI, nm_QR, nm_QL, nm_QQ, nm_rr, nm_ii, nm_eqm, not_false_eq_true, pk_sub, nm_div, nm_shl, nm_shr, nm_ush, nm_or8, nm_or64, nm_or256, nm_m1, nm_m3, nm_m7, nm_m15, nm_m31, nm_m63, nm_m255, nm_m511, nm_m1023, nm_m2047, nm_m65535, Nat.reduceMod, Nat.reducePow, Nat.reduceAdd, Nat.reduceSub, Nat.reduceMul, nm_bo, nm_bi, nm_rc, nm_ic, nm_ri, nm_rl, nm_rq, nm_ql, nm_qi, nm_li, nm_us, nm_uu, nm_cp, nm_sa31, nm_sa7, nm_m127, nm_m2, nm_nz, nm_nzk, nm_eq32, nm_nzf, if_true, if_false, ↓reduceIte, if_pos, if_neg]
    · rw [if_pos rfl, if_neg (fun z => c1 z.1)]
      simp (disch := omega) only [df_X16_write_80, df_X16_write_104, df_X16_write_108, df_X16_write_109, wX, c1, nm_f0, nm_f1, nm_ic (a := 6) (b := 4) (by decide), nm_ic (a := 16) (b := 4) (by decide), nm_ic (a := 16) (b := 6) (by decide), nl_0, nl_1, nl_14, nl_15, nl_16, no_1, no_1024, pk_mul, nI_add, nm_ck, nI_clamp, nI_ltI, nI_leI, nI_eq, nb_b2, nb_b1, nb_let, nm_z0, nm_z1, nb_II, nb_IR, nb_RI, nb_RR, nm_IL, nm_IQ, nm_RL, nm_RQ, nm_LI, nm_LR, nm_LL, nm_LQ, nm_QI, nm_QR, nm_QL, nm_QQ, nm_rr, nm_ii, nm_eqm, not_false_eq_true, pk_sub, nm_div, nm_shl, nm_shr, nm_ush, nm_or8, nm_or64, nm_or256, nm_m1, nm_m3, nm_m7, nm_m15, nm_m31, nm_m63, nm_m255, nm_m511, nm_m1023, nm_m2047, nm_m65535, Nat.reduceMod, Nat.reducePow, Nat.reduceAdd, Nat.reduceSub, Nat.reduceMul, nm_bo, nm_bi, nm_rc, nm_ic, nm_ri, nm_rl, nm_rq, nm_ql, nm_qi, nm_li, nm_us, nm_uu, nm_cp, nm_sa31, nm_sa7, nm_m127, nm_m2, nm_nz, nm_nzk, nm_eq32, nm_nzf, if_true, if_false, ↓reduceIte, if_pos, if_neg]
  · subst e
    rw [if_neg (by decide)]
    simp (disch := omega) only [df_X16_write_80, df_X16_write_104, df_X16_write_108, df_X16_write_109, wX, nm_f0, nm_f1, nm_ic (a := 6) (b := 4) (by decide), nm_ic (a := 16) (b := 4) (by decide), nm_ic (a := 16) (b := 6) (by decide), nl_0, nl_1, nl_14, nl_15, nl_16, no_1, no_1024, pk_mul, nI_add, nm_ck, nI_clamp, nI_ltI, nI_leI, nI_eq, nb_b2, nb_b1, nb_let, nm_z0, nm_z1, nb_II, nb_IR, nb_RI, nb_RR, nm_IL, nm_IQ, nm_RL, nm_RQ, nm_LI, nm_LR, nm_LL, nm_LQ, nm_QI, nm_QR, nm_QL, nm_QQ, nm_rr, nm_ii, nm_eqm, not_false_eq_true, pk_sub, nm_div, nm_shl, nm_shr, nm_ush, nm_or8, nm_or64, nm_or256, nm_m1, nm_m3, nm_m7, nm_m15, nm_m31, nm_m63, nm_m255, nm_m511, nm_m1023, nm_m2047, nm_m65535, Nat.reduceMod, Nat.reducePow, Nat.reduceAdd, Nat.reduceSub, Nat.reduceMul, nm_bo, nm_bi, nm_rc, nm_ic, nm_ri, nm_rl, nm_rq, nm_ql, nm_qi, nm_li, nm_us, nm_uu, nm_cp, nm_sa31, nm_sa7, nm_m127, nm_m2, nm_nz, nm_nzk, nm_eq32, nm_nzf, if_true, if_false, ↓reduceIte, if_pos, if_neg]
theorem nk_w44 (n : Nat) {X : St × St} {b fr ri ho : Nat → Int32} {us re wr : Int32} {p a : Nat} (hp : p < 16) (ha : a < 65536) (v : Int32) (hre : okR re) (hwr : okB wr) : df_X16_write_44 n (nI p) (nI a) v (wX X b fr ri ho us re wr) = some (wX X (pb b (65536 * p + a) v) fr ri ho us (rv re a) (wv X wr p a)) := by
  have hput := nk_put n (X := X) (b := b) (fr := fr) (ri := ri) (ho := ho) (us := us) (re := re) (wr := wr) hp ha v
  have w80 := fun re => nk_w80 n (X := X) (b := pb b (65536 * p + a) v) (fr := fr) (ri := ri) (ho := ho) (us := us) (re := re) (wr := wr) (p := p) (a := a) hwr
  have e4 : sI (wX X (pb b (65536 * p + a) v) fr ri ho us re wr).1 4 = re := rfl
  have ep : ∀ re' : Int32, (pI (wX X (pb b (65536 * p + a) v) fr ri ho us re wr).1 4 re', (wX X (pb b (65536 * p + a) v) fr ri ho us re wr).2) = wX X (pb b (65536 * p + a) v) fr ri ho us re' wr := fun re' => by
    unfold wX
    simp (disch := omega) only [df_X16_write_108, nm_ic (a := 6) (b := 4) (by decide), nm_ic (a := 16) (b := 4) (by decide), nm_ic (a := 16) (b := 6) (by decide), nl_0, no_1, no_1024, pk_mul, nI_add, nm_ck, nI_clamp, nI_ltI, nI_leI, nI_eq, nb_b2, nb_b1, nb_let, nm_z0, nm_z1, nb_II, nb_IR, nb_RI, nb_RR, nm_IL, nm_IQ, nm_RL, nm_RQ, nm_LI, nm_LR, nm_LL, nm_LQ, nm_QI, nm_QR, nm_QL, nm_QQ, nm_rr, nm_ii, nm_eqm, not_false_eq_true, pk_sub, nm_div, nm_shl, nm_shr, nm_ush, nm_or8, nm_or64, nm_or256, nm_m1, nm_m3, nm_m7, nm_m15, nm_m31, nm_m63, nm_m255, nm_m511, nm_m1023, nm_m2047, nm_m65535, Nat.reduceMod, Nat.reducePow, Nat.reduceAdd, Nat.reduceSub, Nat.reduceMul, nm_bo, nm_bi, nm_rc, nm_ic, nm_ri, nm_rl, nm_rq, nm_ql, nm_qi, nm_li, nm_us, nm_uu, nm_cp, nm_sa31, nm_sa7, nm_m127, nm_m2, nm_nz, nm_nzk, nm_eq32, nm_nzf, if_true, if_false, ↓reduceIte, if_pos, if_neg]
  unfold rv
  rcases hre with e | ⟨t, ht, e⟩
  · subst e
    rw [if_neg (fun z => nk_ne (by omega) z.symm)]
    simp (disch := omega) only [df_X16_write_44, hput, e4, nl_1, nl_4, nl_65536, no_1, no_1024, pk_mul, nI_add, nm_ck, nI_clamp, nI_ltI, nI_leI, nI_eq, nb_b2, nb_b1, nb_let, nm_z0, nm_z1, nb_II, nb_IR, nb_RI, nb_RR, nm_IL, nm_IQ, nm_RL, nm_RQ, nm_LI, nm_LR, nm_LL, nm_LQ, nm_QI, nm_QR, nm_QL, nm_QQ, nm_rr, nm_ii, nm_eqm, not_false_eq_true, pk_sub, nm_div, nm_shl, nm_shr, nm_ush, nm_or8, nm_or64, nm_or256, nm_m1, nm_m3, nm_m7, nm_m15, nm_m31, nm_m63, nm_m255, nm_m511, nm_m1023, nm_m2047, nm_m65535, Nat.reduceMod, Nat.reducePow, Nat.reduceAdd, Nat.reduceSub, Nat.reduceMul, nm_bo, nm_bi, nm_rc, nm_ic, nm_ri, nm_rl, nm_rq, nm_ql, nm_qi, nm_li, nm_us, nm_uu, nm_cp, nm_sa31, nm_sa7, nm_m127, nm_m2, nm_nz, nm_nzk, nm_eq32, nm_nzf, if_true, if_false, ↓reduceIte, if_pos, if_neg]
    exact w80 _
  · subst e
    by_cases c : a / 4 = t
    · rw [if_pos (congrArg nI (by omega))]
      simp (disch := omega) only [df_X16_write_44, hput, e4, nl_1, nl_4, nl_65536, no_1, no_1024, pk_mul, nI_add, nm_ck, nI_clamp, nI_ltI, nI_leI, nI_eq, nb_b2, nb_b1, nb_let, nm_z0, nm_z1, nb_II, nb_IR, nb_RI, nb_RR, nm_IL, nm_IQ, nm_RL, nm_RQ, nm_LI, nm_LR, nm_LL, nm_LQ, nm_QI, nm_QR, nm_QL, nm_QQ, nm_rr, nm_ii, nm_eqm, not_false_eq_true, pk_sub, nm_div, nm_shl, nm_shr, nm_ush, nm_or8, nm_or64, nm_or256, nm_m1, nm_m3, nm_m7, nm_m15, nm_m31, nm_m63, nm_m255, nm_m511, nm_m1023, nm_m2047, nm_m65535, Nat.reduceMod, Nat.reducePow, Nat.reduceAdd, Nat.reduceSub, Nat.reduceMul, nm_bo, nm_bi, nm_rc, nm_ic, nm_ri, nm_rl, nm_rq, nm_ql, nm_qi, nm_li, nm_us, nm_uu, nm_cp, nm_sa31, nm_sa7, nm_m127, nm_m2, nm_nz, nm_nzk, nm_eq32, nm_nzf, if_true, if_false, ↓reduceIte, if_pos, if_neg]
      rw [ep]
      exact w80 _
    · rw [if_neg (fun z => by have := nm_inI (by omega) (by omega) z; omega)]
      simp (disch := omega) only [df_X16_write_44, hput, e4, nl_1, nl_4, nl_65536, no_1, no_1024, pk_mul, nI_add, nm_ck, nI_clamp, nI_ltI, nI_leI, nI_eq, nb_b2, nb_b1, nb_let, nm_z0, nm_z1, nb_II, nb_IR, nb_RI, nb_RR, nm_IL, nm_IQ, nm_RL, nm_RQ, nm_LI, nm_LR, nm_LL, nm_LQ, nm_QI, nm_QR, nm_QL, nm_QQ, nm_rr, nm_ii, nm_eqm, not_false_eq_true, pk_sub, nm_div, nm_shl, nm_shr, nm_ush, nm_or8, nm_or64, nm_or256, nm_m1, nm_m3, nm_m7, nm_m15, nm_m31, nm_m63, nm_m255, nm_m511, nm_m1023, nm_m2047, nm_m65535, Nat.reduceMod, Nat.reducePow, Nat.reduceAdd, Nat.reduceSub, Nat.reduceMul, nm_bo, nm_bi, nm_rc, nm_ic, nm_ri, nm_rl, nm_rq, nm_ql, nm_qi, nm_li, nm_us, nm_uu, nm_cp, nm_sa31, nm_sa7, nm_m127, nm_m2, nm_nz, nm_nzk, nm_eq32, nm_nzf, if_true, if_false, ↓reduceIte, if_pos, if_neg]
      exact w80 _
theorem nk_wr1 (n : Nat) {X : St × St} {b fr ri ho : Nat → Int32} {us re wr : Int32} {p a f : Nat} (hp : p < 16) (ha : a < 65536) (hf : f < 256) (e : fr (64 * p + a / 1024) = nI f) (c : ho f = nI 1) (v : Int32) (hre : okR re) (hwr : okB wr) : df_X16_write n (nI p) (nI a) v (wX X b fr ri ho us re wr) = some (wX X (pb b (65536 * p + a) v) fr ri ho us (rv re a) (wv X wr p a)) := by
  have e1 : sR (wX X b fr ri ho us re wr).1 16 (64 * p + a / 1024) = nI f := e
  have e2 : sR (wX X b fr ri ho us re wr).1 18 f = nI 1 := c
  refine Eq.trans ?_ (nk_w44 n hp ha v hre hwr)
  simp (disch := omega) only [df_X16_write, df_X16_write_0, e1, e2, nl_1, nl_16, nl_18, nl_64, nl_1024, no_1, no_1024, pk_mul, nI_add, nm_ck, nI_clamp, nI_ltI, nI_leI, nI_eq, nb_b2, nb_b1, nb_let, nm_z0, nm_z1, nb_II, nb_IR, nb_RI, nb_RR, nm_IL, nm_IQ, nm_RL, nm_RQ, nm_LI, nm_LR, nm_LL, nm_LQ, nm_QI, nm_QR, nm_QL, nm_QQ, nm_rr, nm_ii, nm_eqm, not_false_eq_true, pk_sub, nm_div, nm_shl, nm_shr, nm_ush, nm_or8, nm_or64, nm_or256, nm_m1, nm_m3, nm_m7, nm_m15, nm_m31, nm_m63, nm_m255, nm_m511, nm_m1023, nm_m2047, nm_m65535, Nat.reduceMod, Nat.reducePow, Nat.reduceAdd, Nat.reduceSub, Nat.reduceMul, nm_bo, nm_bi, nm_rc, nm_ic, nm_ri, nm_rl, nm_rq, nm_ql, nm_qi, nm_li, nm_us, nm_uu, nm_cp, nm_sa31, nm_sa7, nm_m127, nm_m2, nm_nz, nm_nzk, nm_eq32, nm_nzf, if_true, if_false, ↓reduceIte, if_pos, if_neg]
theorem nk_wr2 (n : Nat) (hn : 1024 < n) {X : St × St} {b fr ri ho : Nat → Int32} {us re wr : Int32} {p a f : Nat} (hp : p < 16) (ha : a < 65536) (hf : f < 256) (e : fr (64 * p + a / 1024) = nI f) (hh : ∀ q : Nat, q < 256 → ho q = nI (cF fr q)) (c : 1 < cF fr f) (hc : cU fr < 256) (v : Int32) (hre : okR re) (hwr : okB wr) : df_X16_write n (nI p) (nI a) v (wX X b fr ri ho us re wr) = some (wX X (pb b (65536 * p + a) v) (upd fr (64 * p + a / 1024) (nI (fF fr))) ri (upd (upd ho f (nI (cF fr f - 1))) (fF fr) (nI 1)) (us + nI 1) (rv re a) (wv X wr p a)) := by
  refine Eq.trans ?_ (nk_w44 n hp ha v hre hwr)
  have e1 : sR (wX X b fr ri ho us re wr).1 16 (64 * p + a / 1024) = nI f := e
  have e2 : sR (wX X b fr ri ho us re wr).1 18 f = nI (cF fr f) := hh f hf
  have cl := cF_le fr f
  have hl : df_X16_leave n (nI (64 * p + a / 1024)) (wX X b fr ri ho us re wr) = some (wX X b (upd fr (64 * p + a / 1024) (-nI 1)) ri (upd ho f (nI (cF fr f - 1))) us re wr) := by
    have hf2 := hh f hf
    generalize cF fr f = cc at hf2 c cl ⊢
    clear e2 hc hh e1
    unfold wX
    simp (disch := omega) only [df_X16_leave_49, df_X16_leave_0, df_X16_leave, e, hf2, nm_rc (a := 16) (b := 15) (by decide), nm_rc (a := 17) (b := 15) (by decide), nm_rc (a := 17) (b := 16) (by decide), nm_rc (a := 18) (b := 15) (by decide), nm_rc (a := 18) (b := 16) (by decide), nm_rc (a := 18) (b := 17) (by decide), nm_ic (a := 6) (b := 4) (by decide), nm_ic (a := 16) (b := 4) (by decide), nm_ic (a := 16) (b := 6) (by decide), nl_0, nl_1, nl_6, nl_16, nl_18, nl_1024, no_1, no_1024, pk_mul, nI_add, nm_ck, nI_clamp, nI_ltI, nI_leI, nI_eq, nb_b2, nb_b1, nb_let, nm_z0, nm_z1, nb_II, nb_IR, nb_RI, nb_RR, nm_IL, nm_IQ, nm_RL, nm_RQ, nm_LI, nm_LR, nm_LL, nm_LQ, nm_QI, nm_QR, nm_QL, nm_QQ, nm_rr, nm_ii, nm_eqm, not_false_eq_true, pk_sub, nm_div, nm_shl, nm_shr, nm_ush, nm_or8, nm_or64, nm_or256, nm_m1, nm_m3, nm_m7, nm_m15, nm_m31, nm_m63, nm_m255, nm_m511, nm_m1023, nm_m2047, nm_m65535, Nat.reduceMod, Nat.reducePow, Nat.reduceAdd, Nat.reduceSub, Nat.reduceMul, nm_bo, nm_bi, nm_rc, nm_ic, nm_ri, nm_rl, nm_rq, nm_ql, nm_qi, nm_li, nm_us, nm_uu, nm_cp, nm_sa31, nm_sa7, nm_m127, nm_m2, nm_nz, nm_nzk, nm_eq32, nm_nzf, if_true, if_false, ↓reduceIte, if_pos, if_neg]
  obtain ⟨l1, l2⟩ := cF_leave (i := 64 * p + a / 1024) (by omega) hf e
  have lu := cU_ch hf l1
  rw [nm_dt (show 0 < cF fr f by omega), nm_dt (show 0 < cF (upd fr (64 * p + a / 1024) (-nI 1)) f by omega)] at lu
  have hfe : fF (upd fr (64 * p + a / 1024) (-nI 1)) = fF fr := fN_c _ _ (fun q _ hq => by
    by_cases cq : q = f
    · rw [cq, decide_eq_false (show ¬ cF (upd fr (64 * p + a / 1024) (-nI 1)) f = 0 by omega), decide_eq_false (show ¬ cF fr f = 0 by omega)]
    · rw [l1 q (by omega) cq])
  have ff : df_X16_freeFrame n (wX X b (upd fr (64 * p + a / 1024) (-nI 1)) ri (upd ho f (nI (cF fr f - 1))) us re wr) = some (nI (fF (upd fr (64 * p + a / 1024) (-nI 1))), _) := nk_ff n hn (X := wX X b (upd fr (64 * p + a / 1024) (-nI 1)) ri (upd ho f (nI (cF fr f - 1))) us re wr) (fun q hq => by
    show upd ho f (nI (cF fr f - 1)) q = nI (cF (upd fr (64 * p + a / 1024) (-nI 1)) q)
    by_cases cq : q = f
    · rw [cq, nm_us]; exact congrArg nI (by omega)
    · rw [nm_un cq, l1 q hq cq]; exact hh q hq) (by show cU (upd fr (64 * p + a / 1024) (-nI 1)) < 256; omega)
  rw [hfe] at ff
  obtain ⟨f1, f2, f3⟩ := fF_lt hc
  have hne : fF fr ≠ f := fun q => by rw [q] at f2; omega
  have hs : df_X16_stand n (nI (64 * p + a / 1024)) (nI (fF fr)) (wX X b (upd fr (64 * p + a / 1024) (-nI 1)) ri (upd ho f (nI (cF fr f - 1))) us re wr) = some (wX X b (upd fr (64 * p + a / 1024) (nI (fF fr))) ri (upd (upd ho f (nI (cF fr f - 1))) (fF fr) (nI 1)) (us + nI 1) re wr) := by
    have h0 := hh (fF fr) f1
    rw [f2] at h0
    generalize fF fr = ff at *
    unfold wX
    simp (disch := omega) only [df_X16_stand_26, df_X16_stand_0, df_X16_stand, nm_un hne, h0, nm_rc (a := 16) (b := 15) (by decide), nm_rc (a := 17) (b := 15) (by decide), nm_rc (a := 17) (b := 16) (by decide), nm_rc (a := 18) (b := 15) (by decide), nm_rc (a := 18) (b := 16) (by decide), nm_rc (a := 18) (b := 17) (by decide), nm_ic (a := 6) (b := 4) (by decide), nm_ic (a := 16) (b := 4) (by decide), nm_ic (a := 16) (b := 6) (by decide), nl_0, nl_1, nl_6, nl_16, nl_18, nl_1024, no_1, no_1024, pk_mul, nI_add, nm_ck, nI_clamp, nI_ltI, nI_leI, nI_eq, nb_b2, nb_b1, nb_let, nm_z0, nm_z1, nb_II, nb_IR, nb_RI, nb_RR, nm_IL, nm_IQ, nm_RL, nm_RQ, nm_LI, nm_LR, nm_LL, nm_LQ, nm_QI, nm_QR, nm_QL, nm_QQ, nm_rr, nm_ii, nm_eqm, not_false_eq_true, pk_sub, nm_div, nm_shl, nm_shr, nm_ush, nm_or8, nm_or64, nm_or256, nm_m1, nm_m3, nm_m7, nm_m15, nm_m31, nm_m63, nm_m255, nm_m511, nm_m1023, nm_m2047, nm_m65535, Nat.reduceMod, Nat.reducePow, Nat.reduceAdd, Nat.reduceSub, Nat.reduceMul, nm_bo, nm_bi, nm_rc, nm_ic, nm_ri, nm_rl, nm_rq, nm_ql, nm_qi, nm_li, nm_us, nm_uu, nm_cp, nm_sa31, nm_sa7, nm_m127, nm_m2, nm_nz, nm_nzk, nm_eq32, nm_nzf, if_true, if_false, ↓reduceIte, if_pos, if_neg]
  simp (disch := omega) only [df_X16_write, df_X16_write_0, e1, e2, hl, ff, hs, nl_1, nl_16, nl_18, nl_64, nl_1024, no_1, no_1024, pk_mul, nI_add, nm_ck, nI_clamp, nI_ltI, nI_leI, nI_eq, nb_b2, nb_b1, nb_let, nm_z0, nm_z1, nb_II, nb_IR, nb_RI, nb_RR, nm_IL, nm_IQ, nm_RL, nm_RQ, nm_LI, nm_LR, nm_LL, nm_LQ, nm_QI, nm_QR, nm_QL, nm_QQ, nm_rr, nm_ii, nm_eqm, not_false_eq_true, pk_sub, nm_div, nm_shl, nm_shr, nm_ush, nm_or8, nm_or64, nm_or256, nm_m1, nm_m3, nm_m7, nm_m15, nm_m31, nm_m63, nm_m255, nm_m511, nm_m1023, nm_m2047, nm_m65535, Nat.reduceMod, Nat.reducePow, Nat.reduceAdd, Nat.reduceSub, Nat.reduceMul, nm_bo, nm_bi, nm_rc, nm_ic, nm_ri, nm_rl, nm_rq, nm_ql, nm_qi, nm_li, nm_us, nm_uu, nm_cp, nm_sa31, nm_sa7, nm_m127, nm_m2, nm_nz, nm_nzk, nm_eq32, nm_nzf, if_true, if_false, ↓reduceIte, if_pos, if_neg]
