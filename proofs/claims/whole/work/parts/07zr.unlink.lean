/-- other names: the class's rows -/
theorem rD_nam {l op pi fi de kd th po rt ip isf nam : Nat → Int32} (h : rD l op pi fi de kd th po rt ip isf nam) {fi' isf' nam' : Nat → Int32} (h1 : ∀ j : Nat, j < 16 → fi' (j * 3 + 1) = fi (j * 3 + 1) ∧ fi' (j * 3 + 2) = nam' j ∧ okB (nam' j) ∧ isf' j = bI (decide (nam' j = nI 1 ∨ 0 < cE kd th 3 j))) : rD l op pi fi' de kd th po rt ip isf' nam' := by
  obtain ⟨a1, a2, a3, a4⟩ := h
  refine ⟨a1, a2, a3, fun j hj => ?_⟩
  obtain ⟨z1, z2, z3, z4⟩ := h1 j hj
  exact ⟨z1.trans (a4 j hj).1, z3, z2, z4⟩
/-- names change, then it is swept -/
theorem sw_nam {l op pi fi de kd th po rt ip isf nam : Nat → Int32} (h : rD l op pi fi de kd th po rt ip isf nam) {fi' nam' : Nat → Int32} (h1 : ∀ j : Nat, j < 16 → fi' (j * 3 + 1) = fi (j * 3 + 1) ∧ fi' (j * 3 + 2) = nam' j ∧ okB (nam' j) ∧ (nam' j = nI 1 → isf j = nI 1)) : rD l op pi fi' de (pcw (gk de kd) kd 48) th po rt (pcw (gp (pcw (gk de kd) kd 48) th ip) ip 8) (pcw (gf (pcw (gk de kd) kd 48) th isf nam') isf 16) nam' := by
  have K : ∀ o : Nat, o < 48 → pcw (gk de kd) kd 48 o = kd o := fun o ho => by
    rw [pcw_y _ _ ho]
    rcases h.2.1 o ho with ⟨z1, _⟩ | ⟨k, t, y1, y2, y3, y4, _⟩
    · rw [gk_n z1, z1]
    · rw [gk_is y2 y4, if_neg (by omega), y4]
  have E : ∀ s u : Nat, cE (pcw (gk de kd) kd 48) th s u = cE kd th s u := fun s u => cN_c (fun j hj => by rw [K j hj])
  have h0 := rD_nam h (fi' := fi') (nam' := nam') (isf' := fun j => bI (decide (nam' j = nI 1 ∨ 0 < cE kd th 3 j))) (fun j hj => ⟨(h1 j hj).1, (h1 j hj).2.1, (h1 j hj).2.2.1, rfl⟩)
  generalize pcw (gk de kd) kd 48 = kd' at K E ⊢
  refine rD_congr K (fun k hk => ?_) (fun k hk => ?_) h0
  · obtain ⟨_, _, z3⟩ := h.2.2.1 k hk
    rw [pcw_y _ _ hk, gp_is z3 (by rw [E, E]; exact Nat.le_refl _), E, E, ← z3]
  · obtain ⟨_, _, _, z4⟩ := h.2.2.2 k hk
    obtain ⟨_, _, w3, w4⟩ := h1 k hk
    rw [pcw_y _ _ hk]
    unfold gf
    rw [E]
    generalize cE kd th 3 k = x at z4 ⊢
    by_cases c : isf k = nI 0
    · rw [if_pos c]
      have n0 : ¬ (nam' k = nI 1 ∨ 0 < x) := fun y => by
        rcases y with y | y
        · rw [w4 y] at c
          exact absurd c (by decide)
        · rw [decide_eq_true (Or.inr y)] at z4
          rw [z4] at c
          exact absurd c (by decide)
      rw [decide_eq_false n0]; rfl
    · rw [if_neg c]
      rcases w3 with e | e
      · rw [e, if_pos rfl]
        by_cases d : x = 0
        · rw [if_pos d, decide_eq_false (show ¬ ((nI 0 : Int32) = nI 1 ∨ 0 < x) from fun y => by rcases y with y | y; exact absurd y (by decide); omega)]; rfl
        · rw [if_neg d, decide_eq_true (show (nI 0 : Int32) = nI 1 ∨ 0 < x from Or.inr (by omega))]; rfl
      · rw [e, if_neg (show ¬ (nI 1 : Int32) = nI 0 by decide), decide_eq_true (Or.inl rfl)]; rfl
theorem rD_isf {l op pi fi de kd th po rt ip isf nam : Nat → Int32} (h : rD l op pi fi de kd th po rt ip isf nam) {kd' nam' : Nat → Int32} {k : Nat} (hk : k < 16) (e : pcw (gf kd' th isf nam') isf 16 k = nI 1) : isf k = nI 1 := by
  rw [pcw_y _ _ hk] at e
  unfold gf at e
  by_cases c : isf k = nI 0
  · rw [if_pos c] at e
    exact absurd e (by decide)
  · have := (h.2.2.2 k hk).2.2.2
    by_cases d : nam k = nI 1 ∨ 0 < cE kd th 3 k
    · rw [this, decide_eq_true d]; rfl
    · rw [decide_eq_false d] at this
      exact absurd this c
theorem rD_n1 {l op pi fi de kd th po rt ip isf nam : Nat → Int32} (h : rD l op pi fi de kd th po rt ip isf nam) {k : Nat} (hk : k < 16) (e : nam k = nI 1) : isf k = nI 1 := by
  rw [(h.2.2.2 k hk).2.2.2, decide_eq_true (Or.inl e)]
  rfl
/-- the machines when names have changed and it is swept -/
theorem rM_nam {B : Nat} {M X : St × St} (h : rM B M X) {fi' nm' nam' ns' g : Nat → Int32} (hy : ∀ i : Nat, i < 256 → fb8 (nm' i)) (h1 : ∀ j : Nat, j < 16 → fi' (j * 3) = sR M.2 4 (j * 3) ∧ fi' (j * 3 + 1) = sR M.2 4 (j * 3 + 1) ∧ fi' (j * 3 + 2) = nam' j ∧ okB (nam' j) ∧ (nam' j = nI 1 → sR X.1 24 j = nI 1)) (h2 : ∀ k : Nat, k < 16 → nam' k = nI 1 → ∀ i : Nat, i < 16 → b8 (nm' (k * 16 + i)) (ns' (16 * k + i))) : rM B (M.1, pR (pR M.2 4 fi') 6 nm') (pR (pR (pR (pR (pR (pR X.1 33 g) 30 ns') 25 nam') 19 (pcw (gk (sR X.1 14) (sR X.1 19)) (sR X.1 19) 48)) 23 (pcw (gp (pcw (gk (sR X.1 14) (sR X.1 19)) (sR X.1 19) 48) (sR X.1 20) (sR X.1 23)) (sR X.1 23) 8)) 24 (pcw (gf (pcw (gk (sR X.1 14) (sR X.1 19)) (sR X.1 19) 48) (sR X.1 20) (sR X.1 24) nam') (sR X.1 24) 16), X.2) := by
  obtain ⟨m1, m2, m3, m4, m5, m6, m7⟩ := h
  refine ⟨m1, sw_nam m2 (fun j hj => (h1 j hj).2), m3, m4, m5, ⟨m6.1, m6.2.1, m6.2.2.1, hy, m6.2.2.2.2⟩, ?_⟩
  obtain ⟨t1, t2, t3, t4, t5⟩ := m7
  refine ⟨fun k hk e => t1 k hk (rD_p m2 (de' := sR X.1 14) hk e), fun k hk e => ?_, h2, t4, t5⟩
  show ∃ L : Nat, L ≤ 512 ∧ fi' (k * 3) = nI L ∧ _
  rw [(h1 k hk).1]
  exact t2 k hk (rD_isf m2 hk e)
/-- the kernel's call 'unlink' -/
theorem nq_unlink (n : Nat) (hn : 1024 < n) {B p : Nat} {K : St × (St × (St × St))} {X : St × St} (h : cP B p K X) (a : Int32) : cO B p K X (df_X5_unlink n (nI p) a K) (df_X16_unlink n a X) := by
  obtain ⟨h1, h2, h3, h4, h5, h6, h7⟩ := h
  obtain ⟨v, f, g, e1, e2, e3, e4⟩ := nk_namet1 n hn h1.1 h2 h3 a (K1 := K.1) (K2 := K.2.1)
  have e1 : df_X5_readName_t1 n (nI p) a K = some (v, (pR K.1 0 f, K.2)) := e1
  have h1' : rM B K.2.2 (pR X.1 33 g, X.2) := h1
  obtain ⟨q1, q2⟩ := nk_named n hn (E := pR nd_st0 0 f) h1'.2.1 h1'.2.2.2.2.2.2 e3
  have same : ∀ w : Int32, cO B p K X (some (w.toInt64, (pR K.1 0 f, K.2))) (some (w, (pR X.1 33 g, X.2))) := fun w => ⟨_, w, pR K.1 0 f, K.2.2, _, rfl, rfl, h1', fun _ => rfl, Or.inl ⟨h4, rfl⟩, ⟨rfl, rfl, rfl, rfl, rfl⟩, Or.inl ⟨h6, h7⟩, fun _ => h5, fun z => absurd (h4.symm.trans z) (by decide)⟩
  by_cases v0 : v = nI 0
  · subst v0
    have x2 := (fN_le (fun k => decide (sR X.1 25 k = nI 1 ∧ eqF (fun i => sR X.1 30 (16 * k + i)) g = 16)) 16 0)
    have x3 : fnm (pR X.1 33 g, X.2) g < 16 → sR X.1 25 (fnm (pR X.1 33 g, X.2) g) = nI 1 := fun z => (of_decide_eq_true (x2.2.2.1 z)).1
    have q1 : df_X10_fileNamed n (pR nd_st0 0 f, K.2.2.2) = some (cv (fnm (pR X.1 33 g, X.2) g), (pR nd_st0 0 f, K.2.2.2)) := q1
    have q2 : df_X16_named n (pR X.1 33 g, X.2) = some (cv (fnm (pR X.1 33 g, X.2) g), (pR X.1 33 g, X.2)) := q2
    generalize fnm (pR X.1 33 g, X.2) g = k at q1 q2 x3
    by_cases k16 : k < 16
    · rw [cv_0 k16] at q1 q2
      have sw := nk_sweep n hn (pR (pR X.1 33 g) 25 (upd (sR X.1 25) k (nI 0)), X.2)
      have u1 : k * 3 + 2 < 48 := by omega
      have u2 : k * 3 + 2 < 2 ^ 31 := by omega
      have u3 : k < 2 ^ 31 := by omega
      have u4 : 0 ≤ k := by omega
      have m2 := h1.2.1
      have fin := rM_nam h1 (fi' := upd (sR K.2.2.2 4) (k * 3 + 2) (nI 0)) (nm' := sR K.2.2.2 6) (nam' := upd (sR X.1 25) k (nI 0)) (ns' := sR X.1 30) (g := g) h1.2.2.2.2.2.1.2.2.2.1 (fun j hj => by
        refine ⟨nm_un (by omega), nm_un (by omega), ?_, ?_, fun e => ?_⟩
        · by_cases c : j = k
          · rw [c, nm_us, nm_us]
          · rw [nm_un (by omega), nm_un c]
            exact (m2.2.2.2 j hj).2.2.1
        · by_cases c : j = k
          · rw [c, nm_us]
            exact Or.inl rfl
          · rw [nm_un c]
            exact (m2.2.2.2 j hj).2.1
        · by_cases c : j = k
          · rw [c, nm_us] at e
            exact absurd e (by decide)
          · rw [nm_un c] at e
            exact rD_n1 m2 hj e) (fun j hj e i hi => by
        by_cases c : j = k
        · rw [c, nm_us] at e
          exact absurd e (by decide)
        · rw [nm_un c] at e
          exact h1.2.2.2.2.2.2.2.2.1 j hj e i hi)
      rw [show pR (pR K.2.2.2 4 (upd (sR K.2.2.2 4) (k * 3 + 2) (nI 0))) 6 (sR K.2.2.2 6) = pR K.2.2.2 4 (upd (sR K.2.2.2 4) (k * 3 + 2) (nI 0)) from nm_r0 (pR K.2.2.2 4 (upd (sR K.2.2.2 4) (k * 3 + 2) (nI 0))) 6, show pR (pR X.1 33 g) 30 (sR X.1 30) = pR X.1 33 g from nm_r0 (pR X.1 33 g) 30] at fin
      refine ⟨0, nI 0, pR K.1 0 f, _, _, ?_, ?_, fin, fun _ => rfl, Or.inl ⟨h4, by decide⟩, ⟨rfl, rfl, rfl, rfl, rfl⟩, Or.inl ⟨h6, h7⟩, fun _ => h5, fun z => absurd (h4.symm.trans z) (by decide)⟩
      · simp (disch := (first | assumption | decide | omega)) only [df_X5_unlink, df_X5_unlink_0, df_X10_loseName_0, df_X10_loseName, e1, q1, u4, eq_self, Nat.reduceEqDiff, Nat.reduceLeDiff, nl_0, nl_2, nl_3, nl_4, nl_48, no_1, no_1024, pk_mul, nI_add, nm_ck, nI_clamp, nI_ltI, nI_leI, nI_eq, nb_b2, nb_b1, ↓nb_let, nm_z0, nm_z1, nb_II, nb_IR, nb_RI, nb_RR, nm_IL, nm_IQ, nm_RL, nm_RQ, nm_LI, nm_LR, nm_LL, nm_LQ, nm_QI, nm_QR, nm_QL, nm_QQ, nm_rr, nm_ii, nm_eqm, not_false_eq_true, pk_sub, nm_div, nm_shl, nm_shr, nm_ush, nm_or8, nm_or64, nm_or256, nm_m1, nm_m3, nm_m7, nm_m15, nm_m31, nm_m63, nm_m255, nm_m511, nm_m1023, nm_m2047, nm_m65535, Nat.reduceMod, Nat.reducePow, Nat.reduceAdd, Nat.reduceSub, Nat.reduceMul, nm_bo, nm_bi, nm_rc, nm_ic, nm_ri, nm_rl, nm_rq, nm_ql, nm_qi, nm_li, nm_us, nm_uu, nm_cp, nm_sa31, nm_sa7, nm_m127, nm_m2, nm_nz, nm_nzk, nm_eq32, nm_nzf, if_true, if_false, ↓reduceIte, if_pos, if_neg]
      · have r2 : df_X16_unlink n a X = nd_b1 (df_X16_sweep n (pR (pR X.1 33 g) 25 (upd (sR X.1 25) k (nI 0)), X.2)) (fun s => some (nI 0, s)) := by
          simp (disch := (first | assumption | decide | omega)) only [df_X16_unlink, df_X16_unlink_0, e2, q2, eq_self, Nat.reduceEqDiff, Nat.reduceLeDiff, nl_0, nl_1, nl_2, nl_16, nl_25, no_1, no_1024, pk_mul, nI_add, nm_ck, nI_clamp, nI_ltI, nI_leI, nI_eq, nb_b2, nb_b1, ↓nb_let, nm_z0, nm_z1, nb_II, nb_IR, nb_RI, nb_RR, nm_IL, nm_IQ, nm_RL, nm_RQ, nm_LI, nm_LR, nm_LL, nm_LQ, nm_QI, nm_QR, nm_QL, nm_QQ, nm_rr, nm_ii, nm_eqm, not_false_eq_true, pk_sub, nm_div, nm_shl, nm_shr, nm_ush, nm_or8, nm_or64, nm_or256, nm_m1, nm_m3, nm_m7, nm_m15, nm_m31, nm_m63, nm_m255, nm_m511, nm_m1023, nm_m2047, nm_m65535, Nat.reduceMod, Nat.reducePow, Nat.reduceAdd, Nat.reduceSub, Nat.reduceMul, nm_bo, nm_bi, nm_rc, nm_ic, nm_ri, nm_rl, nm_rq, nm_ql, nm_qi, nm_li, nm_us, nm_uu, nm_cp, nm_sa31, nm_sa7, nm_m127, nm_m2, nm_nz, nm_nzk, nm_eq32, nm_nzf, if_true, if_false, ↓reduceIte, if_pos, if_neg]
        rw [r2, sw]
        rfl
    · rw [cv_1 k16] at q1 q2
      have z0 : ¬ (nI 0 : Int32) ≤ -nI 1 := by decide
      have s2 := same (-nI 2)
      have r1 : df_X5_unlink n (nI p) a K = some (-2, (pR K.1 0 f, K.2)) := by simp (disch := (first | assumption | decide | omega)) only [df_X5_unlink, df_X5_unlink_0, e1, q1, z0, eq_self, Nat.reduceEqDiff, Nat.reduceLeDiff, nl_0, nl_2, no_1, no_1024, pk_mul, nI_add, nm_ck, nI_clamp, nI_ltI, nI_leI, nI_eq, nb_b2, nb_b1, ↓nb_let, nm_z0, nm_z1, nb_II, nb_IR, nb_RI, nb_RR, nm_IL, nm_IQ, nm_RL, nm_RQ, nm_LI, nm_LR, nm_LL, nm_LQ, nm_QI, nm_QR, nm_QL, nm_QQ, nm_rr, nm_ii, nm_eqm, not_false_eq_true, pk_sub, nm_div, nm_shl, nm_shr, nm_ush, nm_or8, nm_or64, nm_or256, nm_m1, nm_m3, nm_m7, nm_m15, nm_m31, nm_m63, nm_m255, nm_m511, nm_m1023, nm_m2047, nm_m65535, Nat.reduceMod, Nat.reducePow, Nat.reduceAdd, Nat.reduceSub, Nat.reduceMul, nm_bo, nm_bi, nm_rc, nm_ic, nm_ri, nm_rl, nm_rq, nm_ql, nm_qi, nm_li, nm_us, nm_uu, nm_cp, nm_sa31, nm_sa7, nm_m127, nm_m2, nm_nz, nm_nzk, nm_eq32, nm_nzf, if_true, if_false, ↓reduceIte, if_pos, if_neg]
      have r2 : df_X16_unlink n a X = some (-nI 2, (pR X.1 33 g, X.2)) := by simp (disch := (first | assumption | decide | omega)) only [df_X16_unlink, df_X16_unlink_0, e2, q2, eq_self, Nat.reduceEqDiff, Nat.reduceLeDiff, nl_0, nl_1, nl_2, nl_16, nl_25, no_1, no_1024, pk_mul, nI_add, nm_ck, nI_clamp, nI_ltI, nI_leI, nI_eq, nb_b2, nb_b1, ↓nb_let, nm_z0, nm_z1, nb_II, nb_IR, nb_RI, nb_RR, nm_IL, nm_IQ, nm_RL, nm_RQ, nm_LI, nm_LR, nm_LL, nm_LQ, nm_QI, nm_QR, nm_QL, nm_QQ, nm_rr, nm_ii, nm_eqm, not_false_eq_true, pk_sub, nm_div, nm_shl, nm_shr, nm_ush, nm_or8, nm_or64, nm_or256, nm_m1, nm_m3, nm_m7, nm_m15, nm_m31, nm_m63, nm_m255, nm_m511, nm_m1023, nm_m2047, nm_m65535, Nat.reduceMod, Nat.reducePow, Nat.reduceAdd, Nat.reduceSub, Nat.reduceMul, nm_bo, nm_bi, nm_rc, nm_ic, nm_ri, nm_rl, nm_rq, nm_ql, nm_qi, nm_li, nm_us, nm_uu, nm_cp, nm_sa31, nm_sa7, nm_m127, nm_m2, nm_nz, nm_nzk, nm_eq32, nm_nzf, if_true, if_false, ↓reduceIte, if_pos, if_neg]
      rw [r1, r2, show (-2 : Int64) = (-nI 2).toInt64 by decide]
      exact s2
  · have z0 : ¬ nI 0 ≤ v := by
      rcases e4 with e | e | e
      · exact absurd e v0
      · rw [e]; decide
      · rw [e]; decide
    have r1 : df_X5_unlink n (nI p) a K = some (v.toInt64, (pR K.1 0 f, K.2)) := by simp (disch := (first | assumption | decide | omega)) only [df_X5_unlink, df_X5_unlink_0, e1, v0, eq_self, Nat.reduceEqDiff, Nat.reduceLeDiff, nl_0, nl_2, no_1, no_1024, pk_mul, nI_add, nm_ck, nI_clamp, nI_ltI, nI_leI, nI_eq, nb_b2, nb_b1, ↓nb_let, nm_z0, nm_z1, nb_II, nb_IR, nb_RI, nb_RR, nm_IL, nm_IQ, nm_RL, nm_RQ, nm_LI, nm_LR, nm_LL, nm_LQ, nm_QI, nm_QR, nm_QL, nm_QQ, nm_rr, nm_ii, nm_eqm, not_false_eq_true, pk_sub, nm_div, nm_shl, nm_shr, nm_ush, nm_or8, nm_or64, nm_or256, nm_m1, nm_m3, nm_m7, nm_m15, nm_m31, nm_m63, nm_m255, nm_m511, nm_m1023, nm_m2047, nm_m65535, Nat.reduceMod, Nat.reducePow, Nat.reduceAdd, Nat.reduceSub, Nat.reduceMul, nm_bo, nm_bi, nm_rc, nm_ic, nm_ri, nm_rl, nm_rq, nm_ql, nm_qi, nm_li, nm_us, nm_uu, nm_cp, nm_sa31, nm_sa7, nm_m127, nm_m2, nm_nz, nm_nzk, nm_eq32, nm_nzf, if_true, if_false, ↓reduceIte, if_pos, if_neg]
    have r2 : df_X16_unlink n a X = some (v, (pR X.1 33 g, X.2)) := by simp (disch := (first | assumption | decide | omega)) only [df_X16_unlink, df_X16_unlink_0, e2, z0, eq_self, Nat.reduceEqDiff, Nat.reduceLeDiff, nl_0, nl_1, nl_2, nl_16, nl_25, no_1, no_1024, pk_mul, nI_add, nm_ck, nI_clamp, nI_ltI, nI_leI, nI_eq, nb_b2, nb_b1, ↓nb_let, nm_z0, nm_z1, nb_II, nb_IR, nb_RI, nb_RR, nm_IL, nm_IQ, nm_RL, nm_RQ, nm_LI, nm_LR, nm_LL, nm_LQ, nm_QI, nm_QR, nm_QL, nm_QQ, nm_rr, nm_ii, nm_eqm, not_false_eq_true, pk_sub, nm_div, nm_shl, nm_shr, nm_ush, nm_or8, nm_or64, nm_or256, nm_m1, nm_m3, nm_m7, nm_m15, nm_m31, nm_m63, nm_m255, nm_m511, nm_m1023, nm_m2047, nm_m65535, Nat.reduceMod, Nat.reducePow, Nat.reduceAdd, Nat.reduceSub, Nat.reduceMul, nm_bo, nm_bi, nm_rc, nm_ic, nm_ri, nm_rl, nm_rq, nm_ql, nm_qi, nm_li, nm_us, nm_uu, nm_cp, nm_sa31, nm_sa7, nm_m127, nm_m2, nm_nz, nm_nzk, nm_eq32, nm_nzf, if_true, if_false, ↓reduceIte, if_pos, if_neg]
    rw [r1, r2]
    exact same v
