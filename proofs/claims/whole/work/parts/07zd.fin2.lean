/-- the process itself -/
theorem fin_e (n : Nat) (hn : 1024 < n) {s t : St × St} {p c : Nat} (hp : p < 16) (hc : c < 256) (h : rP1 s t p) (h1 : sR t.1 1 p = nI 1) (hf : ∀ k : Nat, k < 64 → sR t.1 16 (64 * p + k) = -nI 1) (hd : ∀ d : Nat, d < 16 → sR t.1 14 (p * 16 + d) = -nI 1) : ∃ s' t' : St × St, (∀ g : Int32 → Int32 → Int32 → St × St → Option (St × St), dF_X6_finish_30 n g (nI p) (nI c) (nI 16) s = some s' ∧ dF_X16_end_37 n g (nI p) (nI c) (nI 16) t = some t') ∧ rP1 s' t' p ∧ (∀ r : Nat, r ≠ p → agM s s' r ∧ agX t t' r) ∧ (∃ sf : Nat → Int32, s' = (pR s.1 6 sf, s.2)) ∧ fX t t' ∧ (sR t'.1 1 p = nI 0 ∨ sR t'.1 1 p = nI 3) := by
  obtain ⟨k, cc, w, b, e, hk, hcc, hw, hb, he, a1, a2, a3, a4, a5, a6, a7, a8, a9, a10, a11, a12, a13, a14, a15, a16, a17, a18, a19, a20, a21⟩ := h
  have k1 : k = 1 := nm_inI (by omega) (by omega) (a2.symm.trans h1)
  subst k1
  have u1 : p * 7 < 112 := by omega
  have u2 : p * 7 + 1 < 112 := by omega
  have u3 : p < 2 ^ 31 := by omega
  have u4 : p * 7 + 2 < 112 := by omega
  have u5 : p * 7 < 2 ^ 31 := by omega
  have u6 : p * 7 + 1 < 2 ^ 31 := by omega
  have u7 : p * 7 + 2 < 2 ^ 31 := by omega
  have u8 : c % 256 = c := by omega
  have mk := nk_makeAbsent n hn s hp
  have fx1 : fX t (pR (pR (pR (pR (pR (pR (pR t.1 1 (upd (sR t.1 1) p (nI 3))) 3 (upd (sR t.1 3) p (nI c))) 4 (upd (sR t.1 4) p (nI 0))) 5 (upd (sR t.1 5) p (nI 0))) 6 (upd (sR t.1 6) p (nI 0))) 7 (upd (sR t.1 7) p (-nI 1))) 8 (upd (sR t.1 8) p (nI 0)), t.2) := by
    refine ⟨rfl, fun _ => rfl, fun _ => rfl, fun i hi => ?_⟩
    simp (disch := omega) only [nm_RQ, nb_RR, if_neg]
  have ag1 : ∀ r : Nat, r ≠ p → agX t (pR (pR (pR (pR (pR (pR (pR t.1 1 (upd (sR t.1 1) p (nI 3))) 3 (upd (sR t.1 3) p (nI c))) 4 (upd (sR t.1 4) p (nI 0))) 5 (upd (sR t.1 5) p (nI 0))) 6 (upd (sR t.1 6) p (nI 0))) 7 (upd (sR t.1 7) p (-nI 1))) 8 (upd (sR t.1 8) p (nI 0)), t.2) r := fun r hr => ⟨⟨nm_un hr, rfl, nm_un hr, nm_un hr, nm_un hr, nm_un hr, nm_un hr, nm_un hr⟩, fun _ _ => rfl, rfl, fun _ _ => rfl, rfl, fun _ _ => rfl, fun _ _ => rfl, fun _ _ => Iff.rfl, rfl⟩
  rcases a4 with z | ⟨a, ha, z⟩
  · have a3' := a3.trans z
    have be := nk_begin n hn (pR (pR (pR (pR (pR (pR (pR t.1 1 (upd (sR t.1 1) p (nI 3))) 3 (upd (sR t.1 3) p (nI c))) 4 (upd (sR t.1 4) p (nI 0))) 5 (upd (sR t.1 5) p (nI 0))) 6 (upd (sR t.1 6) p (nI 0))) 7 (upd (sR t.1 7) p (-nI 1))) 8 (upd (sR t.1 8) p (nI 0)), t.2) hp
    refine ⟨(pR s.1 6 (ab (sR s.1 6) p 7), s.2), bg _ p 32 16, fun g => ⟨?_, ?_⟩, ?_, fun r hr => ⟨⟨fun i hi => ab_o (by omega), fun _ _ => rfl, fun _ _ => rfl, fun _ _ => rfl, rfl⟩, agX_t (ag1 r hr) (agX_bg hr)⟩, ⟨_, rfl⟩, fX_t fx1 (fX_bg (fun d hd' => ?_)), Or.inl (by rw [bg_r1, nm_us])⟩
    · simp (disch := (first | assumption | decide | omega)) only [dF_X6_finish_30, df_X6_finish_155, a3', mk, nm_ltm, eq_self, Nat.reduceEqDiff, Nat.reduceLeDiff, nl_0, nl_1, nl_2, nl_3, nl_6, nl_7, nl_16, nl_112, nl_255, no_1, no_1024, pk_mul, nI_add, nm_ck, nI_clamp, nI_ltI, nI_leI, nI_eq, nb_b2, nb_b1, ↓nb_let, nm_z0, nm_z1, nb_II, nb_IR, nb_RI, nb_RR, nm_IL, nm_IQ, nm_RL, nm_RQ, nm_LI, nm_LR, nm_LL, nm_LQ, nm_QI, nm_QR, nm_QL, nm_QQ, nm_rr, nm_ii, nm_eqm, not_false_eq_true, pk_sub, nm_div, nm_shl, nm_shr, nm_ush, nm_or8, nm_or64, nm_or256, nm_m1, nm_m3, nm_m7, nm_m15, nm_m31, nm_m63, nm_m255, nm_m511, nm_m1023, nm_m2047, nm_m65535, Nat.reduceMod, Nat.reducePow, Nat.reduceAdd, Nat.reduceSub, Nat.reduceMul, nm_bo, nm_bi, nm_rc, nm_ic, nm_ri, nm_rl, nm_rq, nm_ql, nm_qi, nm_li, nm_us, nm_uu, nm_cp, nm_sa31, nm_sa7, nm_m127, nm_m2, nm_nz, nm_nzk, nm_eq32, nm_nzf, if_true, if_false, ↓reduceIte, if_pos, if_neg]
    · refine Eq.trans ?_ be
      simp (disch := (first | assumption | decide | omega)) only [dF_X16_end_37, df_X16_end_157, z, eq_self, Nat.reduceEqDiff, Nat.reduceLeDiff, nm_rc (a := 3) (b := 1) (by decide), nm_rc (a := 4) (b := 1) (by decide), nm_rc (a := 4) (b := 3) (by decide), nm_rc (a := 5) (b := 1) (by decide), nm_rc (a := 5) (b := 3) (by decide), nm_rc (a := 5) (b := 4) (by decide), nm_rc (a := 6) (b := 1) (by decide), nm_rc (a := 6) (b := 3) (by decide), nm_rc (a := 6) (b := 4) (by decide), nm_rc (a := 6) (b := 5) (by decide), nm_rc (a := 7) (b := 1) (by decide), nm_rc (a := 7) (b := 3) (by decide), nm_rc (a := 7) (b := 4) (by decide), nm_rc (a := 7) (b := 5) (by decide), nm_rc (a := 7) (b := 6) (by decide), nm_rc (a := 8) (b := 1) (by decide), nm_rc (a := 8) (b := 3) (by decide), nm_rc (a := 8) (b := 4) (by decide), nm_rc (a := 8) (b := 5) (by decide), nm_rc (a := 8) (b := 6) (by decide), nm_rc (a := 8) (b := 7) (by decide), nl_0, nl_1, nl_2, nl_3, nl_4, nl_5, nl_6, nl_7, nl_8, nl_16, no_1, no_1024, pk_mul, nI_add, nm_ck, nI_clamp, nI_ltI, nI_leI, nI_eq, nb_b2, nb_b1, ↓nb_let, nm_z0, nm_z1, nb_II, nb_IR, nb_RI, nb_RR, nm_IL, nm_IQ, nm_RL, nm_RQ, nm_LI, nm_LR, nm_LL, nm_LQ, nm_QI, nm_QR, nm_QL, nm_QQ, nm_rr, nm_ii, nm_eqm, not_false_eq_true, pk_sub, nm_div, nm_shl, nm_shr, nm_ush, nm_or8, nm_or64, nm_or256, nm_m1, nm_m3, nm_m7, nm_m15, nm_m31, nm_m63, nm_m255, nm_m511, nm_m1023, nm_m2047, nm_m65535, Nat.reduceMod, Nat.reducePow, Nat.reduceAdd, Nat.reduceSub, Nat.reduceMul, nm_bo, nm_bi, nm_rc, nm_ic, nm_ri, nm_rl, nm_rq, nm_ql, nm_qi, nm_li, nm_us, nm_uu, nm_cp, nm_sa31, nm_sa7, nm_m127, nm_m2, nm_nz, nm_nzk, nm_eq32, nm_nzf, if_true, if_false, ↓reduceIte, if_pos, if_neg]
      rw [be]
      rfl
    · exact rP1_bg (fun i hi => ab_i hi) hp hf
    · rw [Nat.mul_comm 16 p]
      exact hd d hd'
  · have a3' := a3.trans z
    have a0 : ¬ a < 0 := by omega
    have u9 : a < 2 ^ 31 := by omega
    refine ⟨(pR s.1 6 (upd (upd (upd (ab (sR s.1 6) p 7) (p * 7) (nI 3)) (p * 7 + 1) (nI a)) (p * 7 + 2) (nI c)), s.2), _, fun g => ⟨?_, ?_⟩, ?_, fun r hr => ⟨⟨fun i hi => ?_, fun _ _ => rfl, fun _ _ => rfl, fun _ _ => rfl, rfl⟩, ag1 r hr⟩, ⟨_, rfl⟩, fx1, Or.inr nm_us⟩
    · simp (disch := (first | assumption | decide | omega)) only [dF_X6_finish_30, df_X6_finish_155, a3', mk, a0, Nat.add_zero, u8, eq_self, Nat.reduceEqDiff, Nat.reduceLeDiff, nl_0, nl_1, nl_2, nl_3, nl_6, nl_7, nl_16, nl_112, nl_255, no_1, no_1024, pk_mul, nI_add, nm_ck, nI_clamp, nI_ltI, nI_leI, nI_eq, nb_b2, nb_b1, ↓nb_let, nm_z0, nm_z1, nb_II, nb_IR, nb_RI, nb_RR, nm_IL, nm_IQ, nm_RL, nm_RQ, nm_LI, nm_LR, nm_LL, nm_LQ, nm_QI, nm_QR, nm_QL, nm_QQ, nm_rr, nm_ii, nm_eqm, not_false_eq_true, pk_sub, nm_div, nm_shl, nm_shr, nm_ush, nm_or8, nm_or64, nm_or256, nm_m1, nm_m3, nm_m7, nm_m15, nm_m31, nm_m63, nm_m255, nm_m511, nm_m1023, nm_m2047, nm_m65535, Nat.reduceMod, Nat.reducePow, Nat.reduceAdd, Nat.reduceSub, Nat.reduceMul, nm_bo, nm_bi, nm_rc, nm_ic, nm_ri, nm_rl, nm_rq, nm_ql, nm_qi, nm_li, nm_us, nm_uu, nm_cp, nm_sa31, nm_sa7, nm_m127, nm_m2, nm_nz, nm_nzk, nm_eq32, nm_nzf, if_true, if_false, ↓reduceIte, if_pos, if_neg]
    · simp (disch := (first | assumption | decide | omega)) only [dF_X16_end_37, df_X16_end_157, z, eq_self, Nat.reduceEqDiff, Nat.reduceLeDiff, nm_rc (a := 3) (b := 1) (by decide), nm_rc (a := 4) (b := 1) (by decide), nm_rc (a := 4) (b := 3) (by decide), nm_rc (a := 5) (b := 1) (by decide), nm_rc (a := 5) (b := 3) (by decide), nm_rc (a := 5) (b := 4) (by decide), nm_rc (a := 6) (b := 1) (by decide), nm_rc (a := 6) (b := 3) (by decide), nm_rc (a := 6) (b := 4) (by decide), nm_rc (a := 6) (b := 5) (by decide), nm_rc (a := 7) (b := 1) (by decide), nm_rc (a := 7) (b := 3) (by decide), nm_rc (a := 7) (b := 4) (by decide), nm_rc (a := 7) (b := 5) (by decide), nm_rc (a := 7) (b := 6) (by decide), nm_rc (a := 8) (b := 1) (by decide), nm_rc (a := 8) (b := 3) (by decide), nm_rc (a := 8) (b := 4) (by decide), nm_rc (a := 8) (b := 5) (by decide), nm_rc (a := 8) (b := 6) (by decide), nm_rc (a := 8) (b := 7) (by decide), nl_0, nl_1, nl_2, nl_3, nl_4, nl_5, nl_6, nl_7, nl_8, nl_16, no_1, no_1024, pk_mul, nI_add, nm_ck, nI_clamp, nI_ltI, nI_leI, nI_eq, nb_b2, nb_b1, ↓nb_let, nm_z0, nm_z1, nb_II, nb_IR, nb_RI, nb_RR, nm_IL, nm_IQ, nm_RL, nm_RQ, nm_LI, nm_LR, nm_LL, nm_LQ, nm_QI, nm_QR, nm_QL, nm_QQ, nm_rr, nm_ii, nm_eqm, not_false_eq_true, pk_sub, nm_div, nm_shl, nm_shr, nm_ush, nm_or8, nm_or64, nm_or256, nm_m1, nm_m3, nm_m7, nm_m15, nm_m31, nm_m63, nm_m255, nm_m511, nm_m1023, nm_m2047, nm_m65535, Nat.reduceMod, Nat.reducePow, Nat.reduceAdd, Nat.reduceSub, Nat.reduceMul, nm_bo, nm_bi, nm_rc, nm_ic, nm_ri, nm_rl, nm_rq, nm_ql, nm_qi, nm_li, nm_us, nm_uu, nm_cp, nm_sa31, nm_sa7, nm_m127, nm_m2, nm_nz, nm_nzk, nm_eq32, nm_nzf, if_true, if_false, ↓reduceIte, if_pos, if_neg]
    · have e := fun (i : Nat) (hi : i < 7) (h1 : 2 < i) => show upd (upd (upd (ab (sR s.1 6) p 7) (p * 7) (nI 3)) (p * 7 + 1) (nI a)) (p * 7 + 2) (nI c) (p * 7 + i) = nI 0 from by rw [nm_un (by omega), nm_un (by omega), nm_un (by omega), ab_i hi, if_neg (by omega)]
      refine ⟨3, 0, 0, 0, 0, by omega, by omega, by omega, by omega, by omega, ?_, nm_us, ?_, Or.inr ⟨a, ha, z⟩, a5, fun _ => ⟨c, hc, nm_us, nm_us⟩, fun y => absurd rfl y, e 3 (by omega) (by omega), nm_us, e 4 (by omega) (by omega), nm_us, e 5 (by omega) (by omega), nm_us, e 6 (by omega) (by omega), nm_us, fun k hk _ => hf k (by omega), fun _ => a17 (by omega), fun y => by omega, fun _ => ⟨hf, hd⟩, fun y => absurd y (by omega), fun _ => nm_us⟩
      · show upd _ _ _ (p * 7) = _
        rw [nm_un (by omega), nm_un (by omega), nm_us]
      · show upd _ _ _ (p * 7 + 1) = _
        rw [nm_un (by omega), nm_us]
        exact z.symm
    · show upd _ _ _ (r * 7 + i) = _
      rw [nm_un (by omega), nm_un (by omega), nm_un (by omega), ab_o (by omega)]
/-- what fX leaves of the relation -/
theorem rM_fX {B : Nat} {M X t : St × St} {sf : Nat → Int32} (hf : fX X t) (h1 : rK M X) (h2 : rDD M X) (h5 : rG M X) (h6 : rA M X) (h7 : rTT B M X) : rK (pR M.1 6 sf, M.2) t ∧ rDD (pR M.1 6 sf, M.2) t ∧ rG (pR M.1 6 sf, M.2) t ∧ rA (pR M.1 6 sf, M.2) t ∧ rTT B (pR M.1 6 sf, M.2) t ∧ kX X t ∧ kM M (pR M.1 6 sf, M.2) := by
  obtain ⟨f0, f1, f2, f3⟩ := hf
  refine ⟨?_, ?_, ?_, ?_, ?_, ⟨f0, f1 0, f1 12, f1 13, f1 14, f1 15, f1 16⟩, rfl⟩
  · unfold rK
    rw [f3 15 (by omega), f3 16 (by omega), f3 17 (by omega), f3 18 (by omega), f1 6]
    exact h1
  · unfold rDD
    rw [f3 14 (by omega), f3 19 (by omega), f3 20 (by omega), f3 21 (by omega), f3 22 (by omega), f3 23 (by omega), f3 24 (by omega), f3 25 (by omega)]
    exact h2
  · unfold rG
    rw [f1 1, f1 2, f1 3, f1 4, f2 1, f2 0]
    exact h5
  · unfold rA
    rw [f1 5, f3 0 (by omega)]
    exact h6
  · unfold rTT
    rw [f3 23 (by omega), f3 24 (by omega), f3 25 (by omega), f3 26 (by omega), f3 27 (by omega), f3 28 (by omega), f3 29 (by omega), f3 30 (by omega), f3 31 (by omega), f3 32 (by omega), f1 7, f2 2]
    exact h7
theorem rD_p {l op pi fi de kd th po rt ip isf nam : Nat → Int32} (h : rD l op pi fi de kd th po rt ip isf nam) {de' kd' : Nat → Int32} {k : Nat} (hk : k < 8) (e : pcw (gp kd' th ip) ip 8 k = nI 1) : ip k = nI 1 := by
  rw [pcw_y _ _ hk] at e
  unfold gp at e
  by_cases c : ip k = nI 0
  · rw [if_pos c] at e
    exact absurd e (by decide)
  · have := (h.2.2.1 k hk).2.2
    by_cases d : 0 < cE kd th 1 k + cE kd th 2 k
    · rw [this, decide_eq_true d]; rfl
    · rw [decide_eq_false d] at this
      exact absurd this c
theorem rD_f {l op pi fi de kd th po rt ip isf nam : Nat → Int32} (h : rD l op pi fi de kd th po rt ip isf nam) {kd' : Nat → Int32} {k : Nat} (hk : k < 16) (e : pcw (gf kd' th isf nam) isf 16 k = nI 1) : isf k = nI 1 := by
  rw [pcw_y _ _ hk] at e
  unfold gf at e
  by_cases c : isf k = nI 0
  · rw [if_pos c] at e
    exact absurd e (by decide)
  · have := (h.2.2.2 k hk).2.2.2
    by_cases d : nam k = nI 1 ∨ 0 < cE kd th 3 k
    · rw [this, decide_eq_true d]; rfl
    · rw [decide_eq_false d] at this
      exact absurd this c
/-- what lies there, when ends go -/
theorem rT_go {B : Nat} {pi pd fi fd nm ty sh : Nat → Int32} {tb : Int32} {sa : Int64} {ip isf nam pl pb le fb ns tp sw : Nat → Int32} {tn : Int32} {sn : Int64} (h : rT B pi pd fi fd nm ty sh tb sa ip isf nam pl pb le fb ns tp sw tn sn) {pi' fi' ip' isf' : Nat → Int32} (hk : kpL pi fi pi' fi') (hp : ∀ k : Nat, k < 8 → ip' k = nI 1 → ip k = nI 1) (hf : ∀ k : Nat, k < 16 → isf' k = nI 1 → isf k = nI 1) : rT B pi' pd fi' fd nm ty sh tb sa ip' isf' nam pl pb le fb ns tp sw tn sn := by
  obtain ⟨h1, h2, h3⟩ := h
  refine ⟨fun k hk8 e => ?_, fun k hk16 e => ?_, h3⟩
  · rw [(hk.1 k hk8).1, (hk.1 k hk8).2]
    exact h1 k hk8 (hp k hk8 e)
  · rw [hk.2 k hk16]
    exact h2 k hk16 (hf k hk16 e)
/-- a process ends, in both -/
theorem nk_finish (n : Nat) (hn : 1024 < n) {B : Nat} {M X : St × St} (h : rM B M X) {p c : Nat} (hp : p < 16) (hc : c < 256) (h1 : sR X.1 1 p = nI 1) : ∃ M' X' : St × St, df_X6_finish n (nI p) (nI c) M = some M' ∧ df_X16_end n (nI p) (nI c) X = some X' ∧ rM B M' X' ∧ kX X X' ∧ kM M M' := by
  obtain ⟨m1, m2, m3, m4, m5, m6, m7⟩ := h
  obtain ⟨l, op, pi, fi, hr, ef⟩ := fin_1 n hn m2 hp (nI c)
  have ee := end_1 n hn X hp (nI c)
  rw [nk_sweep n hn] at ee
  obtain ⟨u, g, fu, fr, ho, us, e1, e2, e3, e4, e5⟩ := nk_leaveAll n (by omega) (M := (M.1, dU M.2 l op pi fi)) (X := (pR (pR (pR (pR X.1 14 (fl (sR X.1 14) (p * 16) 16 (-nI 1))) 19 (pcw (gk (fl (sR X.1 14) (p * 16) 16 (-nI 1)) (sR X.1 19)) (sR X.1 19) 48)) 23 (pcw (gp (pcw (gk (fl (sR X.1 14) (p * 16) 16 (-nI 1)) (sR X.1 19)) (sR X.1 19) 48) (sR X.1 20) (sR X.1 23)) (sR X.1 23) 8)) 24 (pcw (gf (pcw (gk (fl (sR X.1 14) (p * 16) 16 (-nI 1)) (sR X.1 19)) (sR X.1 19) 48) (sR X.1 20) (sR X.1 24) (sR X.1 25)) (sR X.1 24) 16), X.2)) m1 hp
  rw [e1, nb_b1] at ef
  have ee : df_X16_end n (nI p) (nI c) X = nd_b1 (df_X16_leaveAll n (nI p) (pR (pR (pR (pR X.1 14 (fl (sR X.1 14) (p * 16) 16 (-nI 1))) 19 (pcw (gk (fl (sR X.1 14) (p * 16) 16 (-nI 1)) (sR X.1 19)) (sR X.1 19) 48)) 23 (pcw (gp (pcw (gk (fl (sR X.1 14) (p * 16) 16 (-nI 1)) (sR X.1 19)) (sR X.1 19) 48) (sR X.1 20) (sR X.1 23)) (sR X.1 23) 8)) 24 (pcw (gf (pcw (gk (fl (sR X.1 14) (p * 16) 16 (-nI 1)) (sR X.1 19)) (sR X.1 19) 48) (sR X.1 20) (sR X.1 24) (sR X.1 25)) (sR X.1 24) 16), X.2)) (fun s => df_X16_end_37 n n (nI p) (nI c) (nI 0) s) := ee
  rw [e2, nb_b1] at ee
  have ee : df_X16_end n (nI p) (nI c) X = df_X16_end_37 n n (nI p) (nI c) (nI 0) (xU (pR (pR (pR (pR X.1 14 (fl (sR X.1 14) (p * 16) 16 (-nI 1))) 19 (pcw (gk (fl (sR X.1 14) (p * 16) 16 (-nI 1)) (sR X.1 19)) (sR X.1 19) 48)) 23 (pcw (gp (pcw (gk (fl (sR X.1 14) (p * 16) 16 (-nI 1)) (sR X.1 19)) (sR X.1 19) 48) (sR X.1 20) (sR X.1 23)) (sR X.1 23) 8)) 24 (pcw (gf (pcw (gk (fl (sR X.1 14) (p * 16) 16 (-nI 1)) (sR X.1 19)) (sR X.1 19) 48) (sR X.1 20) (sR X.1 24) (sR X.1 25)) (sR X.1 24) 16), X.2) (sR X.1 15) fr (sR X.1 17) ho us) := ee
  -- the two machines without the process's pages and descriptors
  have n2 : rDD (mU (M.1, dU M.2 l op pi fi) (sR M.1 0) u g fu) (xU (pR (pR (pR (pR X.1 14 (fl (sR X.1 14) (p * 16) 16 (-nI 1))) 19 (pcw (gk (fl (sR X.1 14) (p * 16) 16 (-nI 1)) (sR X.1 19)) (sR X.1 19) 48)) 23 (pcw (gp (pcw (gk (fl (sR X.1 14) (p * 16) 16 (-nI 1)) (sR X.1 19)) (sR X.1 19) 48) (sR X.1 20) (sR X.1 23)) (sR X.1 23) 8)) 24 (pcw (gf (pcw (gk (fl (sR X.1 14) (p * 16) 16 (-nI 1)) (sR X.1 19)) (sR X.1 19) 48) (sR X.1 20) (sR X.1 24) (sR X.1 25)) (sR X.1 24) 16), X.2) (sR X.1 15) fr (sR X.1 17) ho us) := hr.2
  have n7 : rTT B (mU (M.1, dU M.2 l op pi fi) (sR M.1 0) u g fu) (xU (pR (pR (pR (pR X.1 14 (fl (sR X.1 14) (p * 16) 16 (-nI 1))) 19 (pcw (gk (fl (sR X.1 14) (p * 16) 16 (-nI 1)) (sR X.1 19)) (sR X.1 19) 48)) 23 (pcw (gp (pcw (gk (fl (sR X.1 14) (p * 16) 16 (-nI 1)) (sR X.1 19)) (sR X.1 19) 48) (sR X.1 20) (sR X.1 23)) (sR X.1 23) 8)) 24 (pcw (gf (pcw (gk (fl (sR X.1 14) (p * 16) 16 (-nI 1)) (sR X.1 19)) (sR X.1 19) 48) (sR X.1 20) (sR X.1 24) (sR X.1 25)) (sR X.1 24) 16), X.2) (sR X.1 15) fr (sR X.1 17) ho us) := rT_go m7 hr.1 (fun k hk e => rD_p m2 (de' := sR X.1 14) hk e) (fun k hk e => rD_f m2 hk e)
  have n3 : ∀ q : Nat, q < 16 → rP1 (mU (M.1, dU M.2 l op pi fi) (sR M.1 0) u g fu) (xU (pR (pR (pR (pR X.1 14 (fl (sR X.1 14) (p * 16) 16 (-nI 1))) 19 (pcw (gk (fl (sR X.1 14) (p * 16) 16 (-nI 1)) (sR X.1 19)) (sR X.1 19) 48)) 23 (pcw (gp (pcw (gk (fl (sR X.1 14) (p * 16) 16 (-nI 1)) (sR X.1 19)) (sR X.1 19) 48) (sR X.1 20) (sR X.1 23)) (sR X.1 23) 8)) 24 (pcw (gf (pcw (gk (fl (sR X.1 14) (p * 16) 16 (-nI 1)) (sR X.1 19)) (sR X.1 19) 48) (sR X.1 20) (sR X.1 24) (sR X.1 25)) (sR X.1 24) 16), X.2) (sR X.1 15) fr (sR X.1 17) ho us) q := fun q hq => by
    by_cases cq : q = p
    · subst cq
      obtain ⟨k, cc, w, b, e, hk, hcc, hw, hb, he, a1, a2, a3, a4, a5, a6, a7, a8, a9, a10, a11, a12, a13, a14, a15, a16, a17, a18, a19, a20, a21⟩ := m3 q hq
      have k1 : k = 1 := nm_inI (by omega) (by omega) (a2.symm.trans h1)
      exact ⟨k, cc, w, b, e, hk, hcc, hw, hb, he, a1, a2, a3, a4, a5, a6, a7, a8, a9, a10, a11, a12, a13, a14, a15, fun k hk _ => e4 k (by omega), a17, a18, fun z => by omega, fun z => by omega, a21⟩
    · refine rP1_ag (m3 q hq) ⟨fun _ _ => rfl, fun _ _ => rfl, fun _ _ => rfl, fun _ _ => rfl, rfl⟩ ⟨⟨rfl, rfl, rfl, rfl, rfl, rfl, rfl, rfl⟩, fun _ _ => rfl, rfl, fun _ _ => rfl, rfl, fun _ _ => rfl, fun i hi => fl_o (by omega), fun i hi => ?_, rfl⟩
      show fr (64 * q + i) = _ ↔ sR X.1 16 (64 * q + i) = _
      rw [e5 (64 * q + i) (by omega)]
      exact Iff.rfl
  have n5 : rG (mU (M.1, dU M.2 l op pi fi) (sR M.1 0) u g fu) (xU (pR (pR (pR (pR X.1 14 (fl (sR X.1 14) (p * 16) 16 (-nI 1))) 19 (pcw (gk (fl (sR X.1 14) (p * 16) 16 (-nI 1)) (sR X.1 19)) (sR X.1 19) 48)) 23 (pcw (gp (pcw (gk (fl (sR X.1 14) (p * 16) 16 (-nI 1)) (sR X.1 19)) (sR X.1 19) 48) (sR X.1 20) (sR X.1 23)) (sR X.1 23) 8)) 24 (pcw (gf (pcw (gk (fl (sR X.1 14) (p * 16) 16 (-nI 1)) (sR X.1 19)) (sR X.1 19) 48) (sR X.1 20) (sR X.1 24) (sR X.1 25)) (sR X.1 24) 16), X.2) (sR X.1 15) fr (sR X.1 17) ho us) := m5
  have n6 : rA (mU (M.1, dU M.2 l op pi fi) (sR M.1 0) u g fu) (xU (pR (pR (pR (pR X.1 14 (fl (sR X.1 14) (p * 16) 16 (-nI 1))) 19 (pcw (gk (fl (sR X.1 14) (p * 16) 16 (-nI 1)) (sR X.1 19)) (sR X.1 19) 48)) 23 (pcw (gp (pcw (gk (fl (sR X.1 14) (p * 16) 16 (-nI 1)) (sR X.1 19)) (sR X.1 19) 48) (sR X.1 20) (sR X.1 23)) (sR X.1 23) 8)) 24 (pcw (gf (pcw (gk (fl (sR X.1 14) (p * 16) 16 (-nI 1)) (sR X.1 19)) (sR X.1 19) 48) (sR X.1 20) (sR X.1 24) (sR X.1 25)) (sR X.1 24) 16), X.2) (sR X.1 15) fr (sR X.1 17) ho us) := m6
  have n1 : rK (mU (M.1, dU M.2 l op pi fi) (sR M.1 0) u g fu) (xU (pR (pR (pR (pR X.1 14 (fl (sR X.1 14) (p * 16) 16 (-nI 1))) 19 (pcw (gk (fl (sR X.1 14) (p * 16) 16 (-nI 1)) (sR X.1 19)) (sR X.1 19) 48)) 23 (pcw (gp (pcw (gk (fl (sR X.1 14) (p * 16) 16 (-nI 1)) (sR X.1 19)) (sR X.1 19) 48) (sR X.1 20) (sR X.1 23)) (sR X.1 23) 8)) 24 (pcw (gf (pcw (gk (fl (sR X.1 14) (p * 16) 16 (-nI 1)) (sR X.1 19)) (sR X.1 19) 48) (sR X.1 20) (sR X.1 24) (sR X.1 25)) (sR X.1 24) 16), X.2) (sR X.1 15) fr (sR X.1 17) ho us) := e3
  have n8 : ∀ k : Nat, k < 64 → fr (64 * p + k) = -nI 1 := e4
  -- the loop over the children
  have q1 : sR (xU (pR (pR (pR (pR X.1 14 (fl (sR X.1 14) (p * 16) 16 (-nI 1))) 19 (pcw (gk (fl (sR X.1 14) (p * 16) 16 (-nI 1)) (sR X.1 19)) (sR X.1 19) 48)) 23 (pcw (gp (pcw (gk (fl (sR X.1 14) (p * 16) 16 (-nI 1)) (sR X.1 19)) (sR X.1 19) 48) (sR X.1 20) (sR X.1 23)) (sR X.1 23) 8)) 24 (pcw (gf (pcw (gk (fl (sR X.1 14) (p * 16) 16 (-nI 1)) (sR X.1 19)) (sR X.1 19) 48) (sR X.1 20) (sR X.1 24) (sR X.1 25)) (sR X.1 24) 16), X.2) (sR X.1 15) fr (sR X.1 17) ho us).1 16 = fr := rfl
  have q2 : sR (xU (pR (pR (pR (pR X.1 14 (fl (sR X.1 14) (p * 16) 16 (-nI 1))) 19 (pcw (gk (fl (sR X.1 14) (p * 16) 16 (-nI 1)) (sR X.1 19)) (sR X.1 19) 48)) 23 (pcw (gp (pcw (gk (fl (sR X.1 14) (p * 16) 16 (-nI 1)) (sR X.1 19)) (sR X.1 19) 48) (sR X.1 20) (sR X.1 23)) (sR X.1 23) 8)) 24 (pcw (gf (pcw (gk (fl (sR X.1 14) (p * 16) 16 (-nI 1)) (sR X.1 19)) (sR X.1 19) 48) (sR X.1 20) (sR X.1 24) (sR X.1 25)) (sR X.1 24) 16), X.2) (sR X.1 15) fr (sR X.1 17) ho us).1 14 = fl (sR X.1 14) (p * 16) 16 (-nI 1) := rfl
  have q3 : sR (xU (pR (pR (pR (pR X.1 14 (fl (sR X.1 14) (p * 16) 16 (-nI 1))) 19 (pcw (gk (fl (sR X.1 14) (p * 16) 16 (-nI 1)) (sR X.1 19)) (sR X.1 19) 48)) 23 (pcw (gp (pcw (gk (fl (sR X.1 14) (p * 16) 16 (-nI 1)) (sR X.1 19)) (sR X.1 19) 48) (sR X.1 20) (sR X.1 23)) (sR X.1 23) 8)) 24 (pcw (gf (pcw (gk (fl (sR X.1 14) (p * 16) 16 (-nI 1)) (sR X.1 19)) (sR X.1 19) 48) (sR X.1 20) (sR X.1 24) (sR X.1 25)) (sR X.1 24) 16), X.2) (sR X.1 15) fr (sR X.1 17) ho us).1 1 = sR X.1 1 := rfl
  have q4 : kX X (xU (pR (pR (pR (pR X.1 14 (fl (sR X.1 14) (p * 16) 16 (-nI 1))) 19 (pcw (gk (fl (sR X.1 14) (p * 16) 16 (-nI 1)) (sR X.1 19)) (sR X.1 19) 48)) 23 (pcw (gp (pcw (gk (fl (sR X.1 14) (p * 16) 16 (-nI 1)) (sR X.1 19)) (sR X.1 19) 48) (sR X.1 20) (sR X.1 23)) (sR X.1 23) 8)) 24 (pcw (gf (pcw (gk (fl (sR X.1 14) (p * 16) 16 (-nI 1)) (sR X.1 19)) (sR X.1 19) 48) (sR X.1 20) (sR X.1 24) (sR X.1 25)) (sR X.1 24) 16), X.2) (sR X.1 15) fr (sR X.1 17) ho us) := ⟨rfl, rfl, rfl, rfl, rfl, rfl, rfl⟩
  have q5 : kM M (mU (M.1, dU M.2 l op pi fi) (sR M.1 0) u g fu) := rfl
  have q6 : sI (mU (M.1, dU M.2 l op pi fi) (sR M.1 0) u g fu).1 2 = sI M.1 2 := rfl
  generalize (xU (pR (pR (pR (pR X.1 14 (fl (sR X.1 14) (p * 16) 16 (-nI 1))) 19 (pcw (gk (fl (sR X.1 14) (p * 16) 16 (-nI 1)) (sR X.1 19)) (sR X.1 19) 48)) 23 (pcw (gp (pcw (gk (fl (sR X.1 14) (p * 16) 16 (-nI 1)) (sR X.1 19)) (sR X.1 19) 48) (sR X.1 20) (sR X.1 23)) (sR X.1 23) 8)) 24 (pcw (gf (pcw (gk (fl (sR X.1 14) (p * 16) 16 (-nI 1)) (sR X.1 19)) (sR X.1 19) 48) (sR X.1 20) (sR X.1 24) (sR X.1 25)) (sR X.1 24) 16), X.2) (sR X.1 15) fr (sR X.1 17) ho us) = Y at n1 n2 n3 n5 n6 n7 q1 q2 q3 q4 ee
  generalize mU (M.1, dU M.2 l op pi fi) (sR M.1 0) u g fu = L at n1 n2 n3 n5 n6 n7 q5 q6 ef
  obtain ⟨m, s', t', ⟨⟨sf, es⟩, i2, i3, i4, i5⟩, f1, f2⟩ := nm_l2 (fun m k s => df_X6_finish_30 n m (nI p) (nI c) (nI k) s) (fun m k t => df_X16_end_37 n m (nI p) (nI c) (nI k) t)
    (fun k s t => (∃ sf : Nat → Int32, s = (pR L.1 6 sf, L.2)) ∧ fX Y t ∧ (∀ q : Nat, q < 16 → rP1 s t q) ∧ (∀ q : Nat, q < 16 → (sR t.1 1 q = nI 2 ↔ sR X.1 1 q = nI 2)) ∧ sR t.1 1 p = nI 1) 16 n (by omega) (fun k m s t hk ⟨⟨sf, es⟩, i2, i3, i4, i5⟩ => by
      obtain ⟨s', t', g1, g2, g3, ⟨sf', g4⟩, g5, g6, g7⟩ := fin_t n hn hp hk (nI c) (i3 k hk)
      refine ⟨s', t', ⟨⟨sf', ?_⟩, fX_t i2 g5, fun q hq => ?_, fun q hq => ?_, ?_⟩, (g1 _).1, (g1 _).2⟩
      · rw [g4, es, nm_rr]
      · by_cases cq : q = k
        · rw [cq]; exact g2
        · exact rP1_ag (i3 q hq) (g3 q cq).1 (g3 q cq).2
      · by_cases cq : q = k
        · rw [cq]; exact g6.trans (i4 k hk)
        · rw [(g3 q cq).2.1.1]; exact i4 q hq
      · by_cases cq : p = k
        · subst cq; exact g7 i5
        · rw [(g3 p cq).2.1.1]; exact i5) L Y ⟨⟨sR L.1 6, by rw [nm_r0]⟩, fX_r Y, n3, fun q hq => by rw [q3], by rw [q3]; exact h1⟩
  have f14 := i2.2.2.2 14 (by omega)
  have f16 := i2.2.2.2 16 (by omega)
  obtain ⟨s2, t2, g1, g2, g3, ⟨sf', g4⟩, g5, g6⟩ := fin_e n hn hp hc (i3 p hp) i5 (fun k hk => by rw [f16, q1]; exact n8 k hk) (fun d hd => by rw [f14, q2]; exact fl_i (by omega))
  have r := rM_fX (sf := sf') (fX_t i2 g5) n1 n2 n5 n6 n7
  have e2' : s2 = (pR L.1 6 sf', L.2) := by rw [g4, es, nm_rr]
  refine ⟨s2, t2, ?_, ?_, ⟨?_, ?_, fun q hq => ?_, ?_, ?_, ?_, ?_⟩, ⟨?_, ?_⟩⟩
  · rw [ef]
    exact f1.trans (g1 _).1
  · rw [ee]
    exact f2.trans (g1 _).2
  · rw [e2']; exact r.1
  · rw [e2']; exact r.2.1
  · by_cases cq : q = p
    · rw [cq]; exact g2
    · exact rP1_ag (i3 q hq) (g3 q cq).1 (g3 q cq).2
  · rw [e2']
    refine Eq.trans (b := sI L.1 2) rfl ?_
    rw [q6, m4]
    refine congrArg nI (cN_c (fun q hq => ?_))
    by_cases cq : q = p
    · subst cq
      rw [h1, decide_eq_false (show ¬ nI 1 = nI 2 by decide)]
      rcases g6 with z | z
      · rw [z]; rfl
      · rw [z]; rfl
    · rw [(g3 q cq).2.1.1]
      exact decide_eq_decide.mpr (i4 q hq).symm
  · rw [e2']; exact r.2.2.1
  · rw [e2']; exact r.2.2.2.1
  · rw [e2']; exact r.2.2.2.2.1
  · obtain ⟨k1, k2, k3, k4, k5, k6, k7⟩ := r.2.2.2.2.2.1
    obtain ⟨j1, j2, j3, j4, j5, j6, j7⟩ := q4
    exact ⟨k1.trans j1, k2.trans j2, k3.trans j3, k4.trans j4, k5.trans j5, k6.trans j6, k7.trans j7⟩
  · rw [e2']
    exact Eq.trans r.2.2.2.2.2.2 q5
