/-- the reference's new pages, one after the other -/
def nps (n q r a : Nat) : Nat → St × St → Option (St × St)
  | 0, X => some X
  | j + 1, X => nd_b1 (nps n q r a j X) (fun s => df_X16_newPage n (nI q) (nI (a + j)) (nI r) s)
/-- what j new pages leave -/
def iP (M X : St × St) (p r a j : Nat) (w u g : Nat → Int32) (fu : Int32) (b fr ri ho : Nat → Int32) (us : Int32) : Prop := rQ w u g b fr ri ho fu us ∧ cU fr = cU (sR X.1 16) + j ∧ (∀ k : Nat, a ≤ k → k < a + j → (∃ f : Nat, f < 256 ∧ fr (64 * p + k) = nI f) ∧ ri (64 * p + k) = nI r ∧ ∀ x : Nat, x < 256 → b ((64 * p + k) * 256 + x) = nI 0) ∧ (∀ i : Nat, ¬ (64 * p + a ≤ i ∧ i < 64 * p + a + j) → fr i = sR X.1 16 i ∧ ri i = sR X.1 17 i ∧ ∀ x : Nat, x < 256 → b (i * 256 + x) = sR X.1 15 (i * 256 + x))
theorem nk_addPages (n : Nat) (hn : 1024 < n) {M X : St × St} (h : rK M X) {p a c r : Nat} (hp : p < 16) (hac : a + c ≤ 64) (r1 : 1 ≤ r) (r2 : r < 8) (hc : cU (sR X.1 16) + c ≤ 256) (hab : ∀ k : Nat, a ≤ k → k < a + c → sR X.1 16 (64 * p + k) = -nI 1) : ∃ (w u g : Nat → Int32) (fu : Int32) (b fr ri ho : Nat → Int32) (us : Int32), df_X6_addPages n (nI p) (nI a) (nI c) (nI r) M = some (mU M w u g fu) ∧ nps n p r a c X = some (xU X b fr ri ho us) ∧ iP M X p r a c w u g fu b fr ri ho us := by
  have D := nm_le (S := Nat × (St × St)) (R := St × St) (fun m f s => df_X6_addPages_6 n m (nI p) (nI a) (nI c) (nI r) (nI s.1) (nI f) s.2)
    (fun f s => ∃ (j : Nat) (w u g : Nat → Int32) (fu : Int32) (b fr ri ho : Nat → Int32) (us : Int32), j ≤ c ∧ s = (a + j, mU M w u g fu) ∧ nps n p r a j X = some (xU X b fr ri ho us) ∧ iP M X p r a j w u g fu b fr ri ho us ∧ ∀ q : Nat, q < f → ¬ cF fr q = 0)
    (fun o => ∃ (w u g : Nat → Int32) (fu : Int32) (b fr ri ho : Nat → Int32) (us : Int32), o = some (mU M w u g fu) ∧ nps n p r a c X = some (xU X b fr ri ho us) ∧ iP M X p r a c w u g fu b fr ri ho us) 256 n (by omega)
    (fun f m s hf ⟨j, w, u, g, fu, b, fr, ri, ho, us, hj, es, e1, ⟨i1, i2, i3, i4⟩, i5⟩ => by
      subst es
      by_cases cj : j = c
      · left
        subst cj
        refine ⟨w, u, g, fu, b, fr, ri, ho, us, ?_, e1, i1, i2, i3, i4⟩
        simp (disch := omega) only [(show df_X6_addPages_6 n (m + 1) = dF_X6_addPages_6 n (df_X6_addPages_6 n m) from rfl), dF_X6_addPages_6, df_X6_addPages_117, df_X6_addPages_111, df_X6_addPages_0, df_X6_addPages, nl_0, nl_1, nl_64, nl_256, no_1, no_1024, pk_mul, nI_add, nm_ck, nI_clamp, nI_ltI, nI_leI, nI_eq, nb_b2, nb_b1, nb_let, nm_z0, nm_z1, nb_II, nb_IR, nb_RI, nb_RR, nm_IL, nm_IQ, nm_RL, nm_RQ, nm_LI, nm_LR, nm_LL, nm_LQ, nm_QI, nm_QR, nm_QL, nm_QQ, nm_rr, nm_ii, nm_eqm, not_false_eq_true, pk_sub, nm_div, nm_shl, nm_shr, nm_ush, nm_or8, nm_or64, nm_or256, nm_m1, nm_m3, nm_m7, nm_m15, nm_m31, nm_m63, nm_m255, nm_m511, nm_m1023, nm_m2047, nm_m65535, Nat.reduceMod, Nat.reducePow, Nat.reduceAdd, Nat.reduceSub, Nat.reduceMul, nm_bo, nm_bi, nm_rc, nm_ic, nm_ri, nm_rl, nm_rq, nm_ql, nm_qi, nm_li, nm_us, nm_uu, nm_cp, nm_sa31, nm_sa7, nm_m127, nm_m2, nm_nz, nm_nzk, nm_eq32, nm_nzf, if_true, if_false, ↓reduceIte, if_pos, if_neg]
      · right
        have cl := cF_le fr f
        have eu : sR (mU M w u g fu).1 1 f = nI (cF fr f) := (i1.2.1 f hf).1
        by_cases cz : cF fr f = 0
        · have hff : fF fr = f := fN_is (by omega) (by omega) (decide_eq_true cz) (fun q _ hq => decide_eq_false (i5 q hq))
          have hcu : cU fr < 256 := by omega
          have np := nk_newPage n hn (M := mU M w u g fu) (X := xU X b fr ri ho us) i1 hcu hp (k := a + j) (by omega) r2
          have np : df_X16_newPage n (nI p) (nI (a + j)) (nI r) (xU X b fr ri ho us) = some (xU (xU X b fr ri ho us) (zf b (64 * p + (a + j))) (upd fr (64 * p + (a + j)) (nI (fF fr))) (upd ri (64 * p + (a + j)) (nI r)) (upd ho (fF fr) (nI 1)) (us + nI 1)) := np
          rw [hff, xU_xU] at np
          have fi : fr (64 * p + (a + j)) = -nI 1 := by
            rw [(i4 _ (by omega)).1]
            exact hab _ (by omega) (by omega)
          obtain ⟨q1, q2⟩ := rQ_new i1 (i := 64 * p + (a + j)) (f := f) (r := r) (by omega) hf r1 r2 fi cz
          refine ⟨(a + (j + 1), mU M (zf w f) (upd u f (nI 1)) (upd g (64 * p + (a + j)) (nI (f * 8 + r))) (fu + nI 1)), ⟨j + 1, _, _, _, _, _, _, _, _, _, by omega, rfl, ?_, ⟨q1, by omega, fun k k0 k1 => ?_, fun i hi => ?_⟩, fun q hq => ?_⟩, ?_⟩
          · show nd_b1 (nps n p r a j X) _ = _
            rw [e1, nb_b1, np]
          · by_cases ck : k = a + j
            · rw [ck, nm_us, nm_us]
              exact ⟨⟨f, hf, rfl⟩, rfl, fun x hx => zf_p (by omega)⟩
            · rw [nm_un (by omega), nm_un (by omega)]
              obtain ⟨z1, z2, z3⟩ := i3 k k0 (by omega)
              exact ⟨z1, z2, fun x hx => by rw [zf_n (by omega)]; exact z3 x hx⟩
          · rw [nm_un (by omega), nm_un (by omega)]
            obtain ⟨z1, z2, z3⟩ := i4 i (by omega)
            exact ⟨z1, z2, fun x hx => by rw [zf_n (by omega)]; exact z3 x hx⟩
          · obtain ⟨c1, c2⟩ := cF_stand (fr := fr) (i := 64 * p + (a + j)) (by omega) hf fi
            by_cases cq : q = f
            · rw [cq, c2]; omega
            · rw [c1 q (by omega) cq]
              exact i5 q (by omega)
          · obtain ⟨m', hm⟩ := nm_lq (fun m' x => df_X6_addPages_42 n (df_X6_addPages_6 n m) m' (nI p) (nI a) (nI c) (nI r) (nI (a + j)) (nI f) (nI x) (mU M (zk w f x) u g fu)) 256 n (by omega) (fun x m' hx => by
              rw [show df_X6_addPages_42 n (df_X6_addPages_6 n m) (m' + 1) = dF_X6_addPages_42 n (df_X6_addPages_6 n m) (df_X6_addPages_42 n (df_X6_addPages_6 n m) m') from rfl]
              simp (disch := omega) only [dF_X6_addPages_42, mU, zk_s, nm_rc (a := 1) (b := 0) (by decide), nm_rc (a := 2) (b := 0) (by decide), nm_rc (a := 2) (b := 1) (by decide), nl_0, nl_1, nl_2, nl_3, nl_6, nl_31, nl_256, nl_1024, nl_65536, no_1, no_1024, pk_mul, nI_add, nm_ck, nI_clamp, nI_ltI, nI_leI, nI_eq, nb_b2, nb_b1, nb_let, nm_z0, nm_z1, nb_II, nb_IR, nb_RI, nb_RR, nm_IL, nm_IQ, nm_RL, nm_RQ, nm_LI, nm_LR, nm_LL, nm_LQ, nm_QI, nm_QR, nm_QL, nm_QQ, nm_rr, nm_ii, nm_eqm, not_false_eq_true, pk_sub, nm_div, nm_shl, nm_shr, nm_ush, nm_or8, nm_or64, nm_or256, nm_m1, nm_m3, nm_m7, nm_m15, nm_m31, nm_m63, nm_m255, nm_m511, nm_m1023, nm_m2047, nm_m65535, Nat.reduceMod, Nat.reducePow, Nat.reduceAdd, Nat.reduceSub, Nat.reduceMul, nm_bo, nm_bi, nm_rc, nm_ic, nm_ri, nm_rl, nm_rq, nm_ql, nm_qi, nm_li, nm_us, nm_uu, nm_cp, nm_sa31, nm_sa7, nm_m127, nm_m2, nm_nz, nm_nzk, nm_eq32, nm_nzf, if_true, if_false, ↓reduceIte, if_pos, if_neg])
            rw [zk_0] at hm
            simp (disch := omega) only [(show df_X6_addPages_6 n (m + 1) = dF_X6_addPages_6 n (df_X6_addPages_6 n m) from rfl), dF_X6_addPages_6, df_X6_addPages_117, df_X6_addPages_111, df_X6_addPages_0, df_X6_addPages, eu, cz, nl_0, nl_1, nl_64, nl_256, no_1, no_1024, pk_mul, nI_add, nm_ck, nI_clamp, nI_ltI, nI_leI, nI_eq, nb_b2, nb_b1, nb_let, nm_z0, nm_z1, nb_II, nb_IR, nb_RI, nb_RR, nm_IL, nm_IQ, nm_RL, nm_RQ, nm_LI, nm_LR, nm_LL, nm_LQ, nm_QI, nm_QR, nm_QL, nm_QQ, nm_rr, nm_ii, nm_eqm, not_false_eq_true, pk_sub, nm_div, nm_shl, nm_shr, nm_ush, nm_or8, nm_or64, nm_or256, nm_m1, nm_m3, nm_m7, nm_m15, nm_m31, nm_m63, nm_m255, nm_m511, nm_m1023, nm_m2047, nm_m65535, Nat.reduceMod, Nat.reducePow, Nat.reduceAdd, Nat.reduceSub, Nat.reduceMul, nm_bo, nm_bi, nm_rc, nm_ic, nm_ri, nm_rl, nm_rq, nm_ql, nm_qi, nm_li, nm_us, nm_uu, nm_cp, nm_sa31, nm_sa7, nm_m127, nm_m2, nm_nz, nm_nzk, nm_eq32, nm_nzf, if_true, if_false, ↓reduceIte, if_pos, if_neg]
            refine Eq.trans hm ?_
            rw [show df_X6_addPages_42 n (df_X6_addPages_6 n m) (m' + 1) = dF_X6_addPages_42 n (df_X6_addPages_6 n m) (df_X6_addPages_42 n (df_X6_addPages_6 n m) m') from rfl]
            simp (disch := omega) only [dF_X6_addPages_42, df_X6_addPages_111, mU, nm_rc (a := 1) (b := 0) (by decide), nm_rc (a := 2) (b := 0) (by decide), nm_rc (a := 2) (b := 1) (by decide), nl_0, nl_1, nl_2, nl_3, nl_6, nl_31, nl_256, nl_1024, nl_65536, no_1, no_1024, pk_mul, nI_add, nm_ck, nI_clamp, nI_ltI, nI_leI, nI_eq, nb_b2, nb_b1, nb_let, nm_z0, nm_z1, nb_II, nb_IR, nb_RI, nb_RR, nm_IL, nm_IQ, nm_RL, nm_RQ, nm_LI, nm_LR, nm_LL, nm_LQ, nm_QI, nm_QR, nm_QL, nm_QQ, nm_rr, nm_ii, nm_eqm, not_false_eq_true, pk_sub, nm_div, nm_shl, nm_shr, nm_ush, nm_or8, nm_or64, nm_or256, nm_m1, nm_m3, nm_m7, nm_m15, nm_m31, nm_m63, nm_m255, nm_m511, nm_m1023, nm_m2047, nm_m65535, Nat.reduceMod, Nat.reducePow, Nat.reduceAdd, Nat.reduceSub, Nat.reduceMul, nm_bo, nm_bi, nm_rc, nm_ic, nm_ri, nm_rl, nm_rq, nm_ql, nm_qi, nm_li, nm_us, nm_uu, nm_cp, nm_sa31, nm_sa7, nm_m127, nm_m2, nm_nz, nm_nzk, nm_eq32, nm_nzf, if_true, if_false, ↓reduceIte, if_pos, if_neg]
            rw [show p * 64 + (a + j) = 64 * p + (a + j) from by omega]
            rfl
        · refine ⟨(a + j, mU M w u g fu), ⟨j, w, u, g, fu, b, fr, ri, ho, us, hj, rfl, e1, ⟨i1, i2, i3, i4⟩, fun q hq => ?_⟩, ?_⟩
          · by_cases cq : q = f
            · rw [cq]; exact cz
            · exact i5 q (by omega)
          · simp (disch := omega) only [(show df_X6_addPages_6 n (m + 1) = dF_X6_addPages_6 n (df_X6_addPages_6 n m) from rfl), dF_X6_addPages_6, df_X6_addPages_117, df_X6_addPages_111, df_X6_addPages_0, df_X6_addPages, eu, nm_eqz, nl_0, nl_1, nl_64, nl_256, no_1, no_1024, pk_mul, nI_add, nm_ck, nI_clamp, nI_ltI, nI_leI, nI_eq, nb_b2, nb_b1, nb_let, nm_z0, nm_z1, nb_II, nb_IR, nb_RI, nb_RR, nm_IL, nm_IQ, nm_RL, nm_RQ, nm_LI, nm_LR, nm_LL, nm_LQ, nm_QI, nm_QR, nm_QL, nm_QQ, nm_rr, nm_ii, nm_eqm, not_false_eq_true, pk_sub, nm_div, nm_shl, nm_shr, nm_ush, nm_or8, nm_or64, nm_or256, nm_m1, nm_m3, nm_m7, nm_m15, nm_m31, nm_m63, nm_m255, nm_m511, nm_m1023, nm_m2047, nm_m65535, Nat.reduceMod, Nat.reducePow, Nat.reduceAdd, Nat.reduceSub, Nat.reduceMul, nm_bo, nm_bi, nm_rc, nm_ic, nm_ri, nm_rl, nm_rq, nm_ql, nm_qi, nm_li, nm_us, nm_uu, nm_cp, nm_sa31, nm_sa7, nm_m127, nm_m2, nm_nz, nm_nzk, nm_eq32, nm_nzf, if_true, if_false, ↓reduceIte, if_pos, if_neg])
    (fun m s ⟨j, w, u, g, fu, b, fr, ri, ho, us, hj, es, e1, ⟨i1, i2, i3, i4⟩, i5⟩ => by
      subst es
      have cj : j = c := by
        by_cases cj : j = c
        · exact cj
        · exfalso
          obtain ⟨q, hq, z⟩ := cN_fr (P := fun f => decide (0 < cF fr f)) (N := 256) (by show cU fr < 256; omega)
          have z := of_decide_eq_false z
          exact i5 q hq (by omega)
      subst cj
      refine ⟨w, u, g, fu, b, fr, ri, ho, us, ?_, e1, i1, i2, i3, i4⟩
      simp (disch := omega) only [(show df_X6_addPages_6 n (m + 1) = dF_X6_addPages_6 n (df_X6_addPages_6 n m) from rfl), dF_X6_addPages_6, df_X6_addPages_117, df_X6_addPages_111, df_X6_addPages_0, df_X6_addPages, nl_0, nl_1, nl_64, nl_256, no_1, no_1024, pk_mul, nI_add, nm_ck, nI_clamp, nI_ltI, nI_leI, nI_eq, nb_b2, nb_b1, nb_let, nm_z0, nm_z1, nb_II, nb_IR, nb_RI, nb_RR, nm_IL, nm_IQ, nm_RL, nm_RQ, nm_LI, nm_LR, nm_LL, nm_LQ, nm_QI, nm_QR, nm_QL, nm_QQ, nm_rr, nm_ii, nm_eqm, not_false_eq_true, pk_sub, nm_div, nm_shl, nm_shr, nm_ush, nm_or8, nm_or64, nm_or256, nm_m1, nm_m3, nm_m7, nm_m15, nm_m31, nm_m63, nm_m255, nm_m511, nm_m1023, nm_m2047, nm_m65535, Nat.reduceMod, Nat.reducePow, Nat.reduceAdd, Nat.reduceSub, Nat.reduceMul, nm_bo, nm_bi, nm_rc, nm_ic, nm_ri, nm_rl, nm_rq, nm_ql, nm_qi, nm_li, nm_us, nm_uu, nm_cp, nm_sa31, nm_sa7, nm_m127, nm_m2, nm_nz, nm_nzk, nm_eq32, nm_nzf, if_true, if_false, ↓reduceIte, if_pos, if_neg]) (a, M)
    ⟨0, sR M.1 0, sR M.1 1, sR M.1 2, sI M.1 0, sR X.1 15, sR X.1 16, sR X.1 17, sR X.1 18, sI X.1 6, by omega, by rw [mU_id, Nat.add_zero], by rw [xU_id]; rfl, ⟨h, (Nat.add_zero _).symm, fun k k0 k1 => absurd k1 (by omega), fun _ _ => ⟨rfl, rfl, fun _ _ => rfl⟩⟩, fun q hq => absurd hq (by omega)⟩
  exact D
