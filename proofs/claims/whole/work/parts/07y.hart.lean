def rgs (rg : Nat → Int32) (p d : Nat) (v : Int32) : Nat → Int32 := if d = 0 then rg else upd rg (p * 33 + d) v
def xs (x : Nat → Int32) (p d : Nat) (v : Int32) : Nat → Int32 := if d = 0 then x else upd x (32 * p + d) v
/-- a register of a process is set, in both -/
def sc (p d : Nat) (v : Int32) (s : St × (St × St)) : St × (St × St) := (s.1, (pR s.2.1 3 (rgs (sR s.2.1 3) p d v), s.2.2))
def sx (p d : Nat) (v : Int32) (X : St × St) : St × St := (pR X.1 9 (xs (sR X.1 9) p d v), X.2)
/-- the two harts at one instruction -/
def rHt (p : Nat) (s : St × (St × St)) (X : St × St) : Prop := p < 16 ∧ sI s.1 0 = nI p ∧ sI s.1 1 = nI (p * 33) ∧ sI X.1 12 = nI p ∧ sI s.1 2 = sR X.1 10 p ∧ sI s.1 3 = sI X.1 10 ∧ sI X.1 11 = nI 0 ∧ (∀ r : Nat, r < 32 → sR s.2.1 3 (p * 33 + r) = sR X.1 9 (32 * p + r)) ∧ rK s.2 X ∧ sI s.2.1 6 = sI X.1 4 ∧ okR (sI X.1 4) ∧ sL s.2.1 0 = sL X.1 1 ∧ sL s.2.1 1 = sL X.1 0 ∧ sI X.1 16 = nI 0 ∧ sI s.2.1 7 = nI 0
theorem nk_set (n : Nat) {p W : Nat} {s : St × (St × St)} (hp : p < 16) (h : sI s.1 1 = nI (p * 33)) (hW : W < 2 ^ 32) (v : Int32) : df_X4_set n (nI W) v s = some (sc p (W / 128 % 32) v s) := by
  unfold sc rgs
  by_cases c : W / 128 % 32 = 0
  · rw [if_pos c, nm_r0]
    simp (disch := omega) only [df_X4_set_24, df_X4_set_0, df_X4_set, c, nl_0, nl_1, nl_3, nl_7, nl_31, nl_528, no_1, no_1024, pk_mul, nI_add, nm_ck, nI_clamp, nI_ltI, nI_leI, nI_eq, nb_b2, nb_b1, nb_let, nm_z0, nm_z1, nb_II, nb_IR, nb_RI, nb_RR, nm_IL, nm_IQ, nm_RL, nm_RQ, nm_LI, nm_LR, nm_LL, nm_LQ, nm_QI, nm_QR, nm_QL, nm_QQ, nm_rr, nm_ii, nm_eqm, not_false_eq_true, pk_sub, nm_div, nm_shl, nm_shr, nm_ush, nm_or8, nm_or64, nm_or256, nm_m1, nm_m3, nm_m7, nm_m15, nm_m31, nm_m63, nm_m255, nm_m511, nm_m1023, nm_m2047, nm_m65535, Nat.reduceMod, Nat.reducePow, Nat.reduceAdd, Nat.reduceSub, Nat.reduceMul, nm_bo, nm_bi, nm_rc, nm_ic, nm_ri, nm_rl, nm_rq, nm_ql, nm_qi, nm_li, nm_us, nm_uu, nm_cp, nm_sa31, nm_sa7, nm_m127, nm_m2, nm_nz, nm_nzk, nm_eq32, nm_nzf, if_true, if_false, ↓reduceIte, if_pos, if_neg]
  · rw [if_neg c]
    simp (disch := omega) only [df_X4_set_24, df_X4_set_0, df_X4_set, h, nl_0, nl_1, nl_3, nl_7, nl_31, nl_528, no_1, no_1024, pk_mul, nI_add, nm_ck, nI_clamp, nI_ltI, nI_leI, nI_eq, nb_b2, nb_b1, nb_let, nm_z0, nm_z1, nb_II, nb_IR, nb_RI, nb_RR, nm_IL, nm_IQ, nm_RL, nm_RQ, nm_LI, nm_LR, nm_LL, nm_LQ, nm_QI, nm_QR, nm_QL, nm_QQ, nm_rr, nm_ii, nm_eqm, not_false_eq_true, pk_sub, nm_div, nm_shl, nm_shr, nm_ush, nm_or8, nm_or64, nm_or256, nm_m1, nm_m3, nm_m7, nm_m15, nm_m31, nm_m63, nm_m255, nm_m511, nm_m1023, nm_m2047, nm_m65535, Nat.reduceMod, Nat.reducePow, Nat.reduceAdd, Nat.reduceSub, Nat.reduceMul, nm_bo, nm_bi, nm_rc, nm_ic, nm_ri, nm_rl, nm_rq, nm_ql, nm_qi, nm_li, nm_us, nm_uu, nm_cp, nm_sa31, nm_sa7, nm_m127, nm_m2, nm_nz, nm_nzk, nm_eq32, nm_nzf, if_true, if_false, ↓reduceIte, if_pos, if_neg]
theorem nk_bec (n : Nat) {p d : Nat} {X : St × St} (hp : p < 16) (h : sI X.1 12 = nI p) (h0 : sI X.1 11 = nI 0) (hd : d < 32) (v : Int32) : df_X16_become n (nI d) v X = some (sx p d v X) := by
  unfold sx xs
  by_cases c : d = 0
  · rw [if_pos c, nm_r0]
    simp (disch := omega) only [df_X16_become_26, df_X16_become_0, df_X16_become, h0, nl_0, nl_9, nl_11, nl_12, nl_32, nl_512, no_1, no_1024, pk_mul, nI_add, nm_ck, nI_clamp, nI_ltI, nI_leI, nI_eq, nb_b2, nb_b1, nb_let, nm_z0, nm_z1, nb_II, nb_IR, nb_RI, nb_RR, nm_IL, nm_IQ, nm_RL, nm_RQ, nm_LI, nm_LR, nm_LL, nm_LQ, nm_QI, nm_QR, nm_QL, nm_QQ, nm_rr, nm_ii, nm_eqm, not_false_eq_true, pk_sub, nm_div, nm_shl, nm_shr, nm_ush, nm_or8, nm_or64, nm_or256, nm_m1, nm_m3, nm_m7, nm_m15, nm_m31, nm_m63, nm_m255, nm_m511, nm_m1023, nm_m2047, nm_m65535, Nat.reduceMod, Nat.reducePow, Nat.reduceAdd, Nat.reduceSub, Nat.reduceMul, nm_bo, nm_bi, nm_rc, nm_ic, nm_ri, nm_rl, nm_rq, nm_ql, nm_qi, nm_li, nm_us, nm_uu, nm_cp, nm_sa31, nm_sa7, nm_m127, nm_m2, nm_nz, nm_nzk, nm_eq32, nm_nzf, if_true, if_false, ↓reduceIte, if_pos, if_neg]
  · rw [if_neg c]
    simp (disch := omega) only [df_X16_become_26, df_X16_become_0, df_X16_become, h0, h, nl_0, nl_9, nl_11, nl_12, nl_32, nl_512, no_1, no_1024, pk_mul, nI_add, nm_ck, nI_clamp, nI_ltI, nI_leI, nI_eq, nb_b2, nb_b1, nb_let, nm_z0, nm_z1, nb_II, nb_IR, nb_RI, nb_RR, nm_IL, nm_IQ, nm_RL, nm_RQ, nm_LI, nm_LR, nm_LL, nm_LQ, nm_QI, nm_QR, nm_QL, nm_QQ, nm_rr, nm_ii, nm_eqm, not_false_eq_true, pk_sub, nm_div, nm_shl, nm_shr, nm_ush, nm_or8, nm_or64, nm_or256, nm_m1, nm_m3, nm_m7, nm_m15, nm_m31, nm_m63, nm_m255, nm_m511, nm_m1023, nm_m2047, nm_m65535, Nat.reduceMod, Nat.reducePow, Nat.reduceAdd, Nat.reduceSub, Nat.reduceMul, nm_bo, nm_bi, nm_rc, nm_ic, nm_ri, nm_rl, nm_rq, nm_ql, nm_qi, nm_li, nm_us, nm_uu, nm_cp, nm_sa31, nm_sa7, nm_m127, nm_m2, nm_nz, nm_nzk, nm_eq32, nm_nzf, if_true, if_false, ↓reduceIte, if_pos, if_neg]
theorem nk_bec0 (n : Nat) {me : Nat} {X : St × St} (h0 : sI X.1 11 = nI me) (h1 : 0 < me) (h2 : me < 9) (d v : Int32) : df_X16_become n d v X = some X := by
  simp (disch := omega) only [df_X16_become_26, df_X16_become_0, df_X16_become, h0, nl_0, nl_9, nl_11, nl_12, nl_32, nl_512, no_1, no_1024, pk_mul, nI_add, nm_ck, nI_clamp, nI_ltI, nI_leI, nI_eq, nb_b2, nb_b1, nb_let, nm_z0, nm_z1, nb_II, nb_IR, nb_RI, nb_RR, nm_IL, nm_IQ, nm_RL, nm_RQ, nm_LI, nm_LR, nm_LL, nm_LQ, nm_QI, nm_QR, nm_QL, nm_QQ, nm_rr, nm_ii, nm_eqm, not_false_eq_true, pk_sub, nm_div, nm_shl, nm_shr, nm_ush, nm_or8, nm_or64, nm_or256, nm_m1, nm_m3, nm_m7, nm_m15, nm_m31, nm_m63, nm_m255, nm_m511, nm_m1023, nm_m2047, nm_m65535, Nat.reduceMod, Nat.reducePow, Nat.reduceAdd, Nat.reduceSub, Nat.reduceMul, nm_bo, nm_bi, nm_rc, nm_ic, nm_ri, nm_rl, nm_rq, nm_ql, nm_qi, nm_li, nm_us, nm_uu, nm_cp, nm_sa31, nm_sa7, nm_m127, nm_m2, nm_nz, nm_nzk, nm_eq32, nm_nzf, if_true, if_false, ↓reduceIte, if_pos, if_neg]
def hM (M : St × St) (rg w u g : Nat → Int32) (fu re wn : Int32) : St × St := (pI (pI (pI (pR (pR (pR (pR M.1 0 w) 1 u) 2 g) 3 rg) 0 fu) 6 re) 7 wn, M.2)
def hX (X : St × St) (x b fr ho : Nat → Int32) (us re wr nx : Int32) : St × St := (pI (pI (pI (pI (pR (pR (pR (pR X.1 9 x) 15 b) 16 fr) 18 ho) 4 re) 6 us) 10 nx) 16 wr, X.2)
theorem hM_r (M : St × St) (rg : Nat → Int32) : hM M rg (sR M.1 0) (sR M.1 1) (sR M.1 2) (sI M.1 0) (sI M.1 6) (sI M.1 7) = (pR M.1 3 rg, M.2) := by
  unfold hM
  rw [nm_r0, nm_r0, nm_r0, show pI (pR M.1 3 rg) 0 (sI M.1 0) = pR M.1 3 rg from nm_i0 (pR M.1 3 rg) 0, show pI (pR M.1 3 rg) 6 (sI M.1 6) = pR M.1 3 rg from nm_i0 (pR M.1 3 rg) 6, show pI (pR M.1 3 rg) 7 (sI M.1 7) = pR M.1 3 rg from nm_i0 (pR M.1 3 rg) 7]
theorem hX_r (X : St × St) (x : Nat → Int32) (nx : Int32) : hX X x (sR X.1 15) (sR X.1 16) (sR X.1 18) (sI X.1 6) (sI X.1 4) (sI X.1 16) nx = (pI (pR X.1 9 x) 10 nx, X.2) := by
  unfold hX
  rw [show pR (pR X.1 9 x) 15 (sR X.1 15) = pR X.1 9 x from nm_r0 (pR X.1 9 x) 15, show pR (pR X.1 9 x) 16 (sR X.1 16) = pR X.1 9 x from nm_r0 (pR X.1 9 x) 16, show pR (pR X.1 9 x) 18 (sR X.1 18) = pR X.1 9 x from nm_r0 (pR X.1 9 x) 18, show pI (pR X.1 9 x) 4 (sI X.1 4) = pR X.1 9 x from nm_i0 (pR X.1 9 x) 4, show pI (pR X.1 9 x) 6 (sI X.1 6) = pR X.1 9 x from nm_i0 (pR X.1 9 x) 6, show pI (pI (pR X.1 9 x) 10 nx) 16 (sI X.1 16) = pI (pR X.1 9 x) 10 nx from nm_i0 (pI (pR X.1 9 x) 10 nx) 16]
def rgR (p : Nat) (s : St × (St × St)) (X : St × St) (rg x : Nat → Int32) : Prop := (∀ r : Nat, r < 32 → rg (p * 33 + r) = x (32 * p + r)) ∧ (∀ i : Nat, i < p * 33 ∨ p * 33 + 32 ≤ i → rg i = sR s.2.1 3 i) ∧ ∀ i : Nat, i < 32 * p ∨ 32 * p + 32 ≤ i → x i = sR X.1 9 i
/-- what a tick wrote, in both -/
def wrR (X : St × St) (p : Nat) (wn wr : Int32) : Prop := (wn = nI 0 ∧ wr = nI 0) ∨ ∃ a k : Nat, 1 ≤ k ∧ k ≤ 512 ∧ a + k ≤ 65536 ∧ wn = nI (p * 67108864 + a * 1024 + k) ∧ wr = wvs X (nI 0) p a k
def tm (t : Int32) (me : Nat) : Prop := (t = -nI 1 ∧ me = 3) ∨ (t = nI 4 ∧ me = 2) ∨ (t = nI 5 ∧ me = 4) ∨ (t = nI 7 ∧ (me = 5 ∨ me = 8)) ∨ (t = nI 11 ∧ (me = 6 ∨ me = 7 ∨ me = 1))
theorem tm_me {t : Int32} {me : Nat} (h : tm t me) : 0 < me ∧ me < 9 := by
  rcases h with h | h | h | h | h <;> omega
theorem tm_t {t : Int32} {me : Nat} (h : tm t me) : ¬ t = nI 0 := by
  rcases h with h | h | h | h | h <;> rw [h.1] <;> decide
def oH (p : Nat) (s : St × (St × St)) (X : St × St) (t : Int32) (s' : St × (St × St)) (X' : St × St) : Prop := (∃ (me : Nat) (nx : Int32), tm t me ∧ s' = s ∧ X' = (pI (pI X.1 10 nx) 11 (nI me), X.2)) ∨ (t = nI 0 ∧ ∃ (rg x w u g b fr ho : Nat → Int32) (fu us re wn wr nx : Int32), s' = (pI s.1 3 nx, hM s.2 rg w u g fu re wn) ∧ X' = hX X x b fr ho us re wr nx ∧ rgR p s X rg x ∧ rQ w u g b fr (sR X.1 17) ho fu us ∧ okR re ∧ (∀ j : Nat, j < 1024 → (fr j = -nI 1 ↔ sR X.1 16 j = -nI 1)) ∧ wrR X p wn wr)
theorem rgR_s {p : Nat} {s : St × (St × St)} {X : St × St} {rg x : Nat → Int32} (h : rgR p s X rg x) {d : Nat} (hd : d < 32) (v : Int32) : rgR p s X (rgs rg p d v) (xs x p d v) := by
  unfold rgs xs
  by_cases c : d = 0
  · rw [if_pos c, if_pos c]; exact h
  · rw [if_neg c, if_neg c]
    refine ⟨fun r hr => ?_, fun i hi => ?_, fun i hi => ?_⟩
    · by_cases e : r = d
      · rw [e, nm_us, nm_us]
      · rw [nm_un (by omega), nm_un (by omega)]; exact h.1 r hr
    · rw [nm_un (by omega)]; exact h.2.1 i hi
    · rw [nm_un (by omega)]; exact h.2.2 i hi
theorem oH_reg {p : Nat} {s : St × (St × St)} {X : St × St} (h : rHt p s X) {d : Nat} (hd : d < 32) (v nx : Int32) : oH p s X (nI 0) (pI s.1 3 nx, (sc p d v s).2) (pI (sx p d v X).1 10 nx, X.2) := by
  obtain ⟨hp, a1, a2, a3, a4, a5, a6, a7, a8, a9, a10, a11, a12, a13, a14⟩ := h
  refine Or.inr ⟨rfl, rgs (sR s.2.1 3) p d v, xs (sR X.1 9) p d v, _, _, _, _, _, _, _, _, _, _, _, nx, ?_, (hX_r X _ nx).symm, rgR_s ⟨a7, fun _ _ => rfl, fun _ _ => rfl⟩ hd v, a8, a10, fun _ _ => Iff.rfl, Or.inl ⟨a14, a13⟩⟩
  rw [← a9]
  exact congrArg (Prod.mk (pI s.1 3 nx)) (hM_r s.2 _).symm
theorem oH_v {p : Nat} {s : St × (St × St)} {X : St × St} (h : rHt p s X) {d : Nat} (hd : d < 32) (v : Int32) : oH p s X (nI 0) (sc p d v s) (sx p d v X) := by
  have := oH_reg h hd v (sI s.1 3)
  rw [nm_i0, h.2.2.2.2.2.1] at this
  have e : pI (sx p d v X).1 10 (sI X.1 10) = (sx p d v X).1 := nm_i0 (sx p d v X).1 10
  rw [e] at this
  exact this
theorem oH_t {p : Nat} {s : St × (St × St)} {X : St × St} {t : Int32} {me : Nat} (h : tm t me) : oH p s X t s (pI X.1 11 (nI me), X.2) := Or.inl ⟨me, sI X.1 10, h, rfl, by rw [nm_i0]⟩
/-- an instruction that gives a value, or a trap -/
def vO (W p : Nat) (s : St × (St × St)) (X : St × St) (oc : Option (Int32 × (St × (St × St)))) (or : Option (Int32 × (St × St))) : Prop := (∃ v : Int32, oc = some (nI 0, sc p (W / 128 % 32) v s) ∧ or = some (v, X)) ∨ ∃ (t v : Int32) (me : Nat), tm t me ∧ oc = some (t, s) ∧ or = some (v, (pI X.1 11 (nI me), X.2))
theorem vO_h (n : Nat) {W p : Nat} {s : St × (St × St)} {X : St × St} (h : rHt p s X) {oc : Option (Int32 × (St × (St × St)))} {or : Option (Int32 × (St × St))} (z : vO W p s X oc or) : ∃ (t : Int32) (s' : St × (St × St)) (X' : St × St), nd_b2 oc (fun q s => some (q, s)) = some (t, s') ∧ nd_b2 or (fun q s => nd_b1 (df_X16_become n (nI (W / 128 % 32)) q s) (fun s => some s)) = some X' ∧ oH p s X t s' X' := by
  rcases z with ⟨v, e1, e2⟩ | ⟨t, v, me, ht, e1, e2⟩
  · refine ⟨nI 0, _, _, by rw [e1, nb_b2], ?_, oH_v h (by omega) v⟩
    rw [e2, nb_b2, nk_bec n h.1 h.2.2.2.1 h.2.2.2.2.2.2.1 (by omega), nb_b1]
  · refine ⟨t, _, _, by rw [e1, nb_b2], ?_, oH_t ht⟩
    rw [e2, nb_b2, nk_bec0 n (me := me) rfl (tm_me ht).1 (tm_me ht).2, nb_b1]
