/-- a piece of the class's code is worked at as a whole -/
theorem ev_R (n : Nat) (hn : 200 < n) {c : Nat} {M : St × St} {E : Evn} {d : Dn} {s b b' j0 j1 : Nat} {C : Nat → Int32} {A : Nat → Int64} {T : Nat → Int32} (hE : eC n c M E) (h : gC d s b b' j0 j1 C A T) (hs : s ≤ 41) (hb : b' ≤ 160) {w : Nat → Int64} {S : St} (h1 : ∀ i : Nat, b ≤ i → i < b' → sR S 0 i = C i ∧ sQ S 0 i = A i) (h2 : ∀ j : Nat, j0 ≤ j → j < j1 → sR S 4 j = T j ∧ sQ S 2 j = w j) : ∃ (x : Int64) (S2 : St), df_X2_evaluate n (nI c) (nI b) (nI b') (nd_st0, (S, M)) = some (x, (nd_st0, (S2, M))) ∧ cSt S S2 ∧ sQ S2 2 = sQ S 2 ∧ (if sI S2 3 = 0 then x else 0) = (d E w).getD 0 := by
  have e : df_X2_evaluate n (nI c) (nI b) (nI b') (nd_st0, (S, M)) = df_X2_evaluate_13 n n (nI c) (nI b') (nI b) (nd_st0, (pI (pI S 3 (nI 0)) 1 (nI 0), M)) := rfl
  have k := h.2.2.2 n c M E w (pI (pI S 3 (nI 0)) 1 (nI 0)) 0 b' n hE h1 h2 rfl rfl (by omega) (Nat.le_refl _) hb (by omega)
  cases hd : d E w with
  | none =>
    obtain ⟨x, S2, k1, k2, k3⟩ := k.2 hd
    exact ⟨x, S2, e.trans k3, k1.1, k1.2.1, if_neg k2⟩
  | some v =>
    obtain ⟨g', S2, k1, k2, k3, k4, k5, k6⟩ := k.1 v hd
    obtain ⟨m, rfl⟩ : ∃ m : Nat, g' = m + 1 := ⟨g' - 1, by omega⟩
    refine ⟨v, S2, e.trans (k6.trans ?_), k2.1, k2.2.1, if_pos k4⟩
    simp (disch := (first | assumption | decide | omega)) only [(show df_X2_evaluate_13 n (m + 1) = dF_X2_evaluate_13 n (df_X2_evaluate_13 n m) from rfl), dF_X2_evaluate_13, df_X2_evaluate_372, df_X2_evaluate_355, df_X2_evaluate_349, df_X2_evaluate_141, df_X2_evaluate_221, df_X2_evaluate_196, df_X2_evaluate_184, df_X2_evaluate_163, df_X2_evaluate_149, df_X2_evaluate_71, df_X2_evaluate_0, df_X2_evaluate, k3, k5, eq_self, Nat.reduceEqDiff, Nat.reduceLeDiff, nl_0, nl_1, nl_2, nl_3, nl_4, nl_19, nl_23, nl_30, nl_33, nl_34, nl_35, nl_40, nl_41, nl_160, no_1, no_1024, pk_mul, nI_add, nm_ck, nI_clamp, nI_ltI, nI_leI, nI_eq, nb_b2, nb_b1, ↓nb_let, nm_z0, nm_z1, nb_II, nb_IR, nb_RI, nb_RR, nm_IL, nm_IQ, nm_RL, nm_RQ, nm_LI, nm_LR, nm_LL, nm_LQ, nm_QI, nm_QR, nm_QL, nm_QQ, nm_rr, nm_ii, nm_eqm, not_false_eq_true, pk_sub, nm_div, nm_shl, nm_shr, nm_ush, nm_or8, nm_or64, nm_or256, nm_m1, nm_m3, nm_m7, nm_m15, nm_m31, nm_m63, nm_m255, nm_m511, nm_m1023, nm_m2047, nm_m65535, Nat.reduceMod, Nat.reducePow, Nat.reduceAdd, Nat.reduceSub, Nat.reduceMul, nm_bo, nm_bi, nm_rc, nm_ic, nm_ri, nm_rl, nm_rq, nm_ql, nm_qi, nm_li, nm_us, nm_uu, nm_cp, nm_sa31, nm_sa7, nm_m127, nm_m2, nm_nz, nm_nzk, nm_eq32, nm_nzf, if_true, if_false, ↓reduceIte, if_pos, if_neg]
theorem wk_R (n : Nat) (hn : 400 < n) {X : St × St} {E : Evn} {d : Dn} {os ro f l j0 j1 : Nat} {K P : Nat → Int32} {N : Nat → Int64} {pos : Nat → Nat} (hE : eR n X E) (h : gR d os ro f l j0 j1 K P N pos) {β : Nat} (hb : β + l ≤ 960) {w : Nat → Int64} {Y : St} (h1 : plc β f l K P N Y) (h2 : ∀ j : Nat, j0 ≤ j → j < j1 → sQ Y 1 (β + pos j) = w j) : ∃ Y2 : St, df_X15_work n (nI (β + f)) (nI (β + l)) (Y, X) = some ((d E w).getD 0, (Y2, X)) ∧ yE 0 Y Y2 := by
  have hbg := bgn_1 n 0 (a := nI (β + f)) (b := nI (β + l)) (Y := pI (pI Y 7 (nI 0)) 8 (nI 0)) (X := X) (by omega) rfl
  have e : df_X15_work n (nI (β + f)) (nI (β + l)) (Y, X) = df_X15_work_18 n n (nI 0) (bgn (pI (pI Y 7 (nI 0)) 8 (nI 0)) 0 (nI (β + f)) (nI (β + l)), X) := by
    unfold df_X15_work df_X15_work_0
    simp (disch := (first | assumption | decide | omega)) only [hbg, eq_self, Nat.reduceEqDiff, Nat.reduceLeDiff, nl_0, no_1, no_1024, pk_mul, nI_add, nm_ck, nI_clamp, nI_ltI, nI_leI, nI_eq, nb_b2, nb_b1, ↓nb_let, nm_z0, nm_z1, nb_II, nb_IR, nb_RI, nb_RR, nm_IL, nm_IQ, nm_RL, nm_RQ, nm_LI, nm_LR, nm_LL, nm_LQ, nm_QI, nm_QR, nm_QL, nm_QQ, nm_rr, nm_ii, nm_eqm, not_false_eq_true, pk_sub, nm_div, nm_shl, nm_shr, nm_ush, nm_or8, nm_or64, nm_or256, nm_m1, nm_m3, nm_m7, nm_m15, nm_m31, nm_m63, nm_m255, nm_m511, nm_m1023, nm_m2047, nm_m65535, Nat.reduceMod, Nat.reducePow, Nat.reduceAdd, Nat.reduceSub, Nat.reduceMul, nm_bo, nm_bi, nm_rc, nm_ic, nm_ri, nm_rl, nm_rq, nm_ql, nm_qi, nm_li, nm_us, nm_uu, nm_cp, nm_sa31, nm_sa7, nm_m127, nm_m2, nm_nz, nm_nzk, nm_eq32, nm_nzf, if_true, if_false, ↓reduceIte, if_pos, if_neg]
  have y0 : yE 0 Y (bgn (pI (pI Y 7 (nI 0)) 8 (nI 0)) 0 (nI (β + f)) (nI (β + l))) := ⟨yFr_m rfl rfl rfl rfl rfl, rfl, fun i hi => by omega⟩
  have x8 : sR (bgn (pI (pI Y 7 (nI 0)) 8 (nI 0)) 0 (nI (β + f)) (nI (β + l))) 8 0 = nI (β + f) := rfl
  have x9 : sR (bgn (pI (pI Y 7 (nI 0)) 8 (nI 0)) 0 (nI (β + f)) (nI (β + l))) 9 0 = nI (β + l) := rfl
  have x11 : sR (bgn (pI (pI Y 7 (nI 0)) 8 (nI 0)) 0 (nI (β + f)) (nI (β + l))) 11 0 = nI 0 := rfl
  have x7 : sI (bgn (pI (pI Y 7 (nI 0)) 8 (nI 0)) 0 (nI (β + f)) (nI (β + l))) 7 = nI (0 + 1) := rfl
  generalize bgn (pI (pI Y 7 (nI 0)) 8 (nI 0)) 0 (nI (β + f)) (nI (β + l)) = Y1 at e y0 x8 x9 x11 x7
  have l120 := h.2.1
  have k := h.2.2.2.2.2.2 n β X E w Y1 0 n 0 (by omega) hE (plc_E h1 y0) hb (fun j a b => by rw [y0.2.1]; exact h2 j a b) x7 x8 x9 x11 (by omega) (by omega) (by omega)
  cases hd : d E w with
  | none =>
    obtain ⟨Y2, k1, k2⟩ := k.2 hd
    exact ⟨Y2, e.trans k2, yE_t y0 k1⟩
  | some v =>
    obtain ⟨g', x', Y2, k1, k2, k3, k4, k5, k6⟩ := k.1 v hd
    obtain ⟨m, rfl⟩ : ∃ m : Nat, g' = m + 1 := ⟨g' - 1, by omega⟩
    refine ⟨Y2, e.trans (k6.trans ?_), yE_t y0 k3⟩
    rw [wkr_0 n m x' (by omega) k4, k5]
    rfl
/-- what each 'old' and 'changed' of a piece remembers, in both -/
def gO (b b' f l j0 j1 : Nat) (C : Nat → Int32) (A : Nat → Int64) (F T K P : Nat → Int32) (N : Nat → Int64) (pos : Nat → Nat) : Prop := (∀ j : Nat, j0 ≤ j → j < j1 → ∃ (d : Dn) (s os ro q b1 b2 : Nat), b ≤ b1 ∧ b2 ≤ b' ∧ s ≤ 41 ∧ F j = nI b1 ∧ T j = nI b2 ∧ gC d s b1 b2 (j + 1) (j + 1) C A T ∧ f ≤ pos j ∧ q < l ∧ P (pos j + 1) = nI q ∧ gR d os ro (pos j + 2) q (j + 1) (j + 1) K P N pos ∧ (K (pos j) = nI 8 ∨ K (pos j) = nI 9)) ∧ ∀ t : Nat, f ≤ t → t < l → K t = nI 8 ∨ K t = nI 9 → ∃ j : Nat, j0 ≤ j ∧ j < j1 ∧ pos j = t
/-- a condition, in both, from its pieces -/
theorem bCd_1 (n : Nat) (hn : 1000 < n) {k N : Nat} (hk : k < 8) (hN : N ≤ 40) {Cd Y : St} {d : Dn} {s os ro b l : Nat} {K P : Nat → Int32} {Nn : Nat → Int64} {pos : Nat → Nat} (c2 : sI Cd 2 = nI N) (c0 : sI Cd 0 = nI b) (hb : b ≤ 160) (hs : s ≤ 41) (gc : gC d s 0 b 0 N (sR Cd 0) (sQ Cd 0) (sR Cd 4)) (gr : gR d os ro 0 l 0 N K P Nn pos) (go : gO 0 b 0 l 0 N (sR Cd 0) (sQ Cd 0) (sR Cd 3) (sR Cd 4) K P Nn pos) (hm : sR Y 2 k = nI l) (hp : plc (120 * k) 0 l K P Nn Y) : bCd n k N (fun j => 120 * k + pos j) Cd Y := by
  have l120 := gr.2.1
  refine ⟨c2, hN, fun j hj => ?_, fun B c M X Cd' Y' h1 h2 h3 h4 h5 h6 => ?_⟩
  · obtain ⟨_, _, _, _, q, _, _, _, _, _, _, _, _, a1, a2, _, a3, _⟩ := go.1 j (by omega) hj
    have := a3.1
    show 120 * k ≤ 120 * k + pos j ∧ 120 * k + pos j < 120 * k + 120
    omega
  obtain ⟨E, eC1, eR1⟩ := en_tie n (by omega) h1 h2 h3
  have pl : ∀ Z : St, ySt k Y Z → plc (120 * k) 0 l K P Nn Z := fun Z hz t a b => by
    have q := hz.2 (120 * k + t) (by omega) (by omega)
    rw [q.1, q.2.1, q.2.2]
    exact hp t a b
  have V : ∀ j : Nat, ∃ v : Int64, j < N → (∀ S : St, cSt Cd S → ∃ (x : Int64) (S2 : St), df_X2_evaluate n (nI c) (sR Cd 3 j) (sR Cd 4 j) (nd_st0, (S, M)) = some (x, (nd_st0, (S2, M))) ∧ cSt S S2 ∧ sQ S2 2 = sQ S 2 ∧ (if sI S2 3 = 0 then x else 0) = v) ∧ ∀ Z : St, ySt k Y Z → ∃ Z2 : St, df_X15_work n (nI (120 * k + pos j + 2)) (sR Z 4 (120 * k + pos j + 1)) (Z, X) = some (v, (Z2, X)) ∧ yE 0 Z Z2 := fun j => by
    by_cases hj : j < N
    · obtain ⟨d', s', os', ro', q, b1, b2, a1, a2, a3, a4, a5, a6, a7, a8, a9, a10, a11⟩ := go.1 j (by omega) hj
      refine ⟨(d' E (fun _ => 0)).getD 0, fun _ => ⟨fun S hS => ?_, fun Z hZ => ?_⟩⟩
      · rw [a4, a5]
        exact ev_R n (by omega) eC1 a6 a3 (by omega) (fun i _ _ => by rw [hS.1, hS.2.1]; exact ⟨rfl, rfl⟩) (fun i p q => by omega)
      · have a12 := a10.1
        have pp : sR Z 4 (120 * k + pos j + 1) = nI (120 * k + q) := (pl Z hZ (pos j + 1) (by omega) (by omega)).2.2 q (by omega) a9
        rw [pp]
        exact wk_R n (by omega) eR1 a10 (by omega) (plc_w (pl Z hZ) (by omega) (by omega)) (fun i p q => by omega)
    · exact ⟨0, fun z => absurd z hj⟩
  constructor
  · -- both remember
    have hV := fun j => Classical.choose_spec (V j)
    generalize hW : (fun j => Classical.choose (V j)) = W at *
    have hV : ∀ j : Nat, j < N → (∀ S : St, cSt Cd S → ∃ (x : Int64) (S2 : St), df_X2_evaluate n (nI c) (sR Cd 3 j) (sR Cd 4 j) (nd_st0, (S, M)) = some (x, (nd_st0, (S2, M))) ∧ cSt S S2 ∧ sQ S2 2 = sQ S 2 ∧ (if sI S2 3 = 0 then x else 0) = W j) ∧ ∀ Z : St, ySt k Y Z → ∃ Z2 : St, df_X15_work n (nI (120 * k + pos j + 2)) (sR Z 4 (120 * k + pos j + 1)) (Z, X) = some (W j, (Z2, X)) ∧ yE 0 Z Z2 := fun j => by
      rw [← hW]
      exact hV j
    obtain ⟨m, C2, ⟨i1, i2⟩, e1⟩ := nm_l1 (fun g j S => df_X2_remember_2 n g (nI c) (nI j) (nd_st0, (S, M))) (fun j S => cSt Cd' S ∧ ∀ i : Nat, i < j → sQ S 2 i = W i) N n (by omega) (fun j m S hj ⟨i1, i2⟩ => by
      have cs := cSt_t h5 i1
      obtain ⟨x, S2, v1, v2, v3, v4⟩ := (hV j hj).1 S cs
      refine ⟨pQ S2 2 (vp_updL (sQ S2 2) j (W j)), ⟨cSt_t i1 (cSt_t v2 (cSt_r S2)), fun i hi => ?_⟩, ?_⟩
      · show vp_updL (sQ S2 2) j (W j) i = W i
        by_cases y : i = j
        · subst y
          exact if_pos rfl
        · rw [show vp_updL (sQ S2 2) j (W j) i = sQ S2 2 i from if_neg y, v3]
          exact i2 i (by omega)
      · have q2 : sI S 2 = nI N := by rw [cs.2.2.2.2.2]; exact c2
        have q3 : sR S 3 = sR Cd 3 := cs.2.2.2.1
        have q4 : sR S 4 = sR Cd 4 := cs.2.2.2.2.1
        by_cases y : sI S2 3 = 0
        · rw [if_pos y] at v4
          have y : sI S2 3 = nI 0 := y
          subst v4
          simp (disch := (first | assumption | decide | omega)) only [(show df_X2_remember_2 n (m + 1) = dF_X2_remember_2 n (df_X2_remember_2 n m) from rfl), dF_X2_remember_2, df_X2_remember_48, df_X2_remember_0, df_X2_remember, q2, q3, q4, v1, y, eq_self, Nat.reduceEqDiff, Nat.reduceLeDiff, nl_0, nl_1, nl_2, nl_3, nl_4, nl_40, no_1, no_1024, pk_mul, nI_add, nm_ck, nI_clamp, nI_ltI, nI_leI, nI_eq, nb_b2, nb_b1, ↓nb_let, nm_z0, nm_z1, nb_II, nb_IR, nb_RI, nb_RR, nm_IL, nm_IQ, nm_RL, nm_RQ, nm_LI, nm_LR, nm_LL, nm_LQ, nm_QI, nm_QR, nm_QL, nm_QQ, nm_rr, nm_ii, nm_eqm, not_false_eq_true, pk_sub, nm_div, nm_shl, nm_shr, nm_ush, nm_or8, nm_or64, nm_or256, nm_m1, nm_m3, nm_m7, nm_m15, nm_m31, nm_m63, nm_m255, nm_m511, nm_m1023, nm_m2047, nm_m65535, Nat.reduceMod, Nat.reducePow, Nat.reduceAdd, Nat.reduceSub, Nat.reduceMul, nm_bo, nm_bi, nm_rc, nm_ic, nm_ri, nm_rl, nm_rq, nm_ql, nm_qi, nm_li, nm_us, nm_uu, nm_cp, nm_sa31, nm_sa7, nm_m127, nm_m2, nm_nz, nm_nzk, nm_eq32, nm_nzf, if_true, if_false, ↓reduceIte, if_pos, if_neg]
        · rw [if_neg y] at v4
          have y : ¬ sI S2 3 = nI 0 := y
          rw [← v4]
          simp (disch := (first | assumption | decide | omega)) only [(show df_X2_remember_2 n (m + 1) = dF_X2_remember_2 n (df_X2_remember_2 n m) from rfl), dF_X2_remember_2, df_X2_remember_48, df_X2_remember_0, df_X2_remember, q2, q3, q4, v1, y, eq_self, Nat.reduceEqDiff, Nat.reduceLeDiff, nl_0, nl_1, nl_2, nl_3, nl_4, nl_40, no_1, no_1024, pk_mul, nI_add, nm_ck, nI_clamp, nI_ltI, nI_leI, nI_eq, nb_b2, nb_b1, ↓nb_let, nm_z0, nm_z1, nb_II, nb_IR, nb_RI, nb_RR, nm_IL, nm_IQ, nm_RL, nm_RQ, nm_LI, nm_LR, nm_LL, nm_LQ, nm_QI, nm_QR, nm_QL, nm_QQ, nm_rr, nm_ii, nm_eqm, not_false_eq_true, pk_sub, nm_div, nm_shl, nm_shr, nm_ush, nm_or8, nm_or64, nm_or256, nm_m1, nm_m3, nm_m7, nm_m15, nm_m31, nm_m63, nm_m255, nm_m511, nm_m1023, nm_m2047, nm_m65535, Nat.reduceMod, Nat.reducePow, Nat.reduceAdd, Nat.reduceSub, Nat.reduceMul, nm_bo, nm_bi, nm_rc, nm_ic, nm_ri, nm_rl, nm_rq, nm_ql, nm_qi, nm_li, nm_us, nm_uu, nm_cp, nm_sa31, nm_sa7, nm_m127, nm_m2, nm_nz, nm_nzk, nm_eq32, nm_nzf, if_true, if_false, ↓reduceIte, if_pos, if_neg]) Cd' ⟨cSt_r Cd', fun i hi => by omega⟩
    obtain ⟨m', Y2, ⟨r1, r2, r3⟩, e2⟩ := nm_l1 (fun g t Z => df_X15_remember_7 n g (nI k) (nI (120 * k)) (nI t) (Z, X)) (fun t Z => yFr Y' Z ∧ (∀ i : Nat, i < 120 * k ∨ 120 * k + 120 ≤ i → sQ Z 1 i = sQ Y' 1 i) ∧ ∀ j : Nat, j < N → pos j < t → sQ Z 1 (120 * k + pos j) = W j) l n (by omega) (fun t m Z ht ⟨i1, i2, i3⟩ => by
      have yZ : ySt k Y Z := ySt_t h6 (yFr_s i1 k)
      have q2 : sR Z 2 k = nI l := by rw [yZ.1]; exact hm
      have q3 := (pl Z yZ t (by omega) ht).1
      by_cases y : K t = nI 8 ∨ K t = nI 9
      · obtain ⟨j, _, j1, j2⟩ := go.2 t (by omega) ht y
        obtain ⟨Z2, w1, w2⟩ := (hV j j1).2 Z yZ
        rw [j2] at w1
        refine ⟨pQ Z2 1 (vp_updL (sQ Z2 1) (120 * k + t) (W j)), ⟨yFr_t i1 (yFr_t w2.1 (yFr_m rfl rfl rfl rfl rfl)), fun i hi => ?_, fun j' hj' hp' => ?_⟩, ?_⟩
        · rw [show sQ (pQ Z2 1 (vp_updL (sQ Z2 1) (120 * k + t) (W j))) 1 i = sQ Z2 1 i from if_neg (by omega), w2.2.1]
          exact i2 i hi
        · by_cases y2 : pos j' = t
          · obtain ⟨Z3, w3, _⟩ := (hV j' hj').2 Z yZ
            rw [y2, w1] at w3
            have w4 := congrArg Prod.fst (Option.some.inj w3)
            rw [y2, show sQ (pQ Z2 1 (vp_updL (sQ Z2 1) (120 * k + t) (W j))) 1 (120 * k + t) = W j from if_pos rfl]
            exact w4
          · rw [show sQ (pQ Z2 1 (vp_updL (sQ Z2 1) (120 * k + t) (W j))) 1 (120 * k + pos j') = sQ Z2 1 (120 * k + pos j') from if_neg (by omega), w2.2.1]
            exact i3 j' hj' (by omega)
        · have u1 : 120 * k + t + 1 < 960 := by
            obtain ⟨_, _, _, _, q, _, _, _, _, _, _, _, _, _, a8, _, a10, _⟩ := go.1 j (by omega) j1
            have := a10.1
            omega
          have u2 : 120 * k + t < 960 := by omega
          rcases y with y | y
          · rw [y] at q3
            simp (disch := (first | assumption | decide | omega)) only [(show df_X15_remember_7 n (m + 1) = dF_X15_remember_7 n (df_X15_remember_7 n m) from rfl), dF_X15_remember_7, df_X15_remember_70, df_X15_remember_43, df_X15_remember_0, df_X15_remember, q2, q3, w1, eq_self, Nat.reduceEqDiff, Nat.reduceLeDiff, nl_0, nl_1, nl_2, nl_3, nl_4, nl_8, nl_9, nl_120, nl_960, no_1, no_1024, pk_mul, nI_add, nm_ck, nI_clamp, nI_ltI, nI_leI, nI_eq, nb_b2, nb_b1, ↓nb_let, nm_z0, nm_z1, nb_II, nb_IR, nb_RI, nb_RR, nm_IL, nm_IQ, nm_RL, nm_RQ, nm_LI, nm_LR, nm_LL, nm_LQ, nm_QI, nm_QR, nm_QL, nm_QQ, nm_rr, nm_ii, nm_eqm, not_false_eq_true, pk_sub, nm_div, nm_shl, nm_shr, nm_ush, nm_or8, nm_or64, nm_or256, nm_m1, nm_m3, nm_m7, nm_m15, nm_m31, nm_m63, nm_m255, nm_m511, nm_m1023, nm_m2047, nm_m65535, Nat.reduceMod, Nat.reducePow, Nat.reduceAdd, Nat.reduceSub, Nat.reduceMul, nm_bo, nm_bi, nm_rc, nm_ic, nm_ri, nm_rl, nm_rq, nm_ql, nm_qi, nm_li, nm_us, nm_uu, nm_cp, nm_sa31, nm_sa7, nm_m127, nm_m2, nm_nz, nm_nzk, nm_eq32, nm_nzf, if_true, if_false, ↓reduceIte, if_pos, if_neg]
          · rw [y] at q3
            simp (disch := (first | assumption | decide | omega)) only [(show df_X15_remember_7 n (m + 1) = dF_X15_remember_7 n (df_X15_remember_7 n m) from rfl), dF_X15_remember_7, df_X15_remember_70, df_X15_remember_43, df_X15_remember_0, df_X15_remember, q2, q3, w1, eq_self, Nat.reduceEqDiff, Nat.reduceLeDiff, nl_0, nl_1, nl_2, nl_3, nl_4, nl_8, nl_9, nl_120, nl_960, no_1, no_1024, pk_mul, nI_add, nm_ck, nI_clamp, nI_ltI, nI_leI, nI_eq, nb_b2, nb_b1, ↓nb_let, nm_z0, nm_z1, nb_II, nb_IR, nb_RI, nb_RR, nm_IL, nm_IQ, nm_RL, nm_RQ, nm_LI, nm_LR, nm_LL, nm_LQ, nm_QI, nm_QR, nm_QL, nm_QQ, nm_rr, nm_ii, nm_eqm, not_false_eq_true, pk_sub, nm_div, nm_shl, nm_shr, nm_ush, nm_or8, nm_or64, nm_or256, nm_m1, nm_m3, nm_m7, nm_m15, nm_m31, nm_m63, nm_m255, nm_m511, nm_m1023, nm_m2047, nm_m65535, Nat.reduceMod, Nat.reducePow, Nat.reduceAdd, Nat.reduceSub, Nat.reduceMul, nm_bo, nm_bi, nm_rc, nm_ic, nm_ri, nm_rl, nm_rq, nm_ql, nm_qi, nm_li, nm_us, nm_uu, nm_cp, nm_sa31, nm_sa7, nm_m127, nm_m2, nm_nz, nm_nzk, nm_eq32, nm_nzf, if_true, if_false, ↓reduceIte, if_pos, if_neg]
      · refine ⟨Z, ⟨i1, i2, fun j' hj' hp' => i3 j' hj' ?_⟩, ?_⟩
        · have : ¬ pos j' = t := fun z => by
            obtain ⟨_, _, _, _, _, _, _, _, _, _, _, _, _, _, _, _, _, a11⟩ := go.1 j' (by omega) hj'
            rw [z] at a11
            exact y a11
          omega
        · have y1 : ¬ K t = nI 8 := fun z => y (Or.inl z)
          have y2 : ¬ K t = nI 9 := fun z => y (Or.inr z)
          have u2 : 120 * k + t < 960 := by omega
          simp (disch := (first | assumption | decide | omega)) only [(show df_X15_remember_7 n (m + 1) = dF_X15_remember_7 n (df_X15_remember_7 n m) from rfl), dF_X15_remember_7, df_X15_remember_70, df_X15_remember_43, df_X15_remember_0, df_X15_remember, q2, q3, y1, y2, eq_self, Nat.reduceEqDiff, Nat.reduceLeDiff, nl_0, nl_1, nl_2, nl_3, nl_4, nl_8, nl_9, nl_120, nl_960, no_1, no_1024, pk_mul, nI_add, nm_ck, nI_clamp, nI_ltI, nI_leI, nI_eq, nb_b2, nb_b1, ↓nb_let, nm_z0, nm_z1, nb_II, nb_IR, nb_RI, nb_RR, nm_IL, nm_IQ, nm_RL, nm_RQ, nm_LI, nm_LR, nm_LL, nm_LQ, nm_QI, nm_QR, nm_QL, nm_QQ, nm_rr, nm_ii, nm_eqm, not_false_eq_true, pk_sub, nm_div, nm_shl, nm_shr, nm_ush, nm_or8, nm_or64, nm_or256, nm_m1, nm_m3, nm_m7, nm_m15, nm_m31, nm_m63, nm_m255, nm_m511, nm_m1023, nm_m2047, nm_m65535, Nat.reduceMod, Nat.reducePow, Nat.reduceAdd, Nat.reduceSub, Nat.reduceMul, nm_bo, nm_bi, nm_rc, nm_ic, nm_ri, nm_rl, nm_rq, nm_ql, nm_qi, nm_li, nm_us, nm_uu, nm_cp, nm_sa31, nm_sa7, nm_m127, nm_m2, nm_nz, nm_nzk, nm_eq32, nm_nzf, if_true, if_false, ↓reduceIte, if_pos, if_neg]) Y' ⟨yFr_r Y', fun _ _ => rfl, fun j hj hp => by omega⟩
    refine ⟨C2, Y2, ?_, ?_, i1, r1, r2, fun j hj => ?_⟩
    · refine Eq.trans (show df_X2_remember n (nI c) (nd_st0, (Cd', M)) = df_X2_remember_2 n n (nI c) (nI 0) (nd_st0, (Cd', M)) from rfl) (Eq.trans e1 ?_)
      have q2 : sI C2 2 = nI N := by rw [(cSt_t h5 i1).2.2.2.2.2]; exact c2
      simp (disch := (first | assumption | decide | omega)) only [(show df_X2_remember_2 n (m + 1) = dF_X2_remember_2 n (df_X2_remember_2 n m) from rfl), dF_X2_remember_2, df_X2_remember_48, df_X2_remember_0, df_X2_remember, q2, eq_self, Nat.reduceEqDiff, Nat.reduceLeDiff, nl_0, nl_1, nl_2, nl_3, nl_4, nl_40, no_1, no_1024, pk_mul, nI_add, nm_ck, nI_clamp, nI_ltI, nI_leI, nI_eq, nb_b2, nb_b1, ↓nb_let, nm_z0, nm_z1, nb_II, nb_IR, nb_RI, nb_RR, nm_IL, nm_IQ, nm_RL, nm_RQ, nm_LI, nm_LR, nm_LL, nm_LQ, nm_QI, nm_QR, nm_QL, nm_QQ, nm_rr, nm_ii, nm_eqm, not_false_eq_true, pk_sub, nm_div, nm_shl, nm_shr, nm_ush, nm_or8, nm_or64, nm_or256, nm_m1, nm_m3, nm_m7, nm_m15, nm_m31, nm_m63, nm_m255, nm_m511, nm_m1023, nm_m2047, nm_m65535, Nat.reduceMod, Nat.reducePow, Nat.reduceAdd, Nat.reduceSub, Nat.reduceMul, nm_bo, nm_bi, nm_rc, nm_ic, nm_ri, nm_rl, nm_rq, nm_ql, nm_qi, nm_li, nm_us, nm_uu, nm_cp, nm_sa31, nm_sa7, nm_m127, nm_m2, nm_nz, nm_nzk, nm_eq32, nm_nzf, if_true, if_false, ↓reduceIte, if_pos, if_neg]
    · have e0 : df_X15_remember n (nI k) (Y', X) = df_X15_remember_7 n n (nI k) (nI (120 * k)) (nI 0) (Y', X) := by
        have q : (120 : Int32) * nI k = nI (120 * k) := pk_mul ..
        unfold df_X15_remember df_X15_remember_0
        rw [q, nb_let]
        rfl
      have q2 : sR Y2 2 k = nI l := by rw [(ySt_t h6 (yFr_s r1 k)).1]; exact hm
      have q5 : ∀ m : Nat, df_X15_remember_7 n (m + 1) (nI k) (nI (120 * k)) (nI l) (Y2, X) = some (Y2, X) := fun m => by
        simp (disch := (first | assumption | decide | omega)) only [(show df_X15_remember_7 n (m + 1) = dF_X15_remember_7 n (df_X15_remember_7 n m) from rfl), dF_X15_remember_7, df_X15_remember_70, df_X15_remember_43, df_X15_remember_0, df_X15_remember, q2, eq_self, Nat.reduceEqDiff, Nat.reduceLeDiff, nl_0, nl_1, nl_2, nl_3, nl_4, nl_8, nl_9, nl_120, nl_960, no_1, no_1024, pk_mul, nI_add, nm_ck, nI_clamp, nI_ltI, nI_leI, nI_eq, nb_b2, nb_b1, ↓nb_let, nm_z0, nm_z1, nb_II, nb_IR, nb_RI, nb_RR, nm_IL, nm_IQ, nm_RL, nm_RQ, nm_LI, nm_LR, nm_LL, nm_LQ, nm_QI, nm_QR, nm_QL, nm_QQ, nm_rr, nm_ii, nm_eqm, not_false_eq_true, pk_sub, nm_div, nm_shl, nm_shr, nm_ush, nm_or8, nm_or64, nm_or256, nm_m1, nm_m3, nm_m7, nm_m15, nm_m31, nm_m63, nm_m255, nm_m511, nm_m1023, nm_m2047, nm_m65535, Nat.reduceMod, Nat.reducePow, Nat.reduceAdd, Nat.reduceSub, Nat.reduceMul, nm_bo, nm_bi, nm_rc, nm_ic, nm_ri, nm_rl, nm_rq, nm_ql, nm_qi, nm_li, nm_us, nm_uu, nm_cp, nm_sa31, nm_sa7, nm_m127, nm_m2, nm_nz, nm_nzk, nm_eq32, nm_nzf, if_true, if_false, ↓reduceIte, if_pos, if_neg]
      exact Eq.trans e0 (Eq.trans e2 (q5 m'))
    · rw [i2 j hj]
      have : pos j < l := by
        obtain ⟨_, _, _, _, q, _, _, _, _, _, _, _, _, _, a8, _, a10, _⟩ := go.1 j (by omega) hj
        have := a10.1
        omega
      exact (r3 j hj this).symm
  · intro ti
    obtain ⟨x, C2, v1, v2, v3, v4⟩ := ev_R n (by omega) eC1 gc hs hb (w := sQ Cd' 2) (S := Cd') (fun i _ _ => by rw [h5.1, h5.2.1]; exact ⟨rfl, rfl⟩) (fun j _ _ => by rw [h5.2.2.2.2.1]; exact ⟨rfl, rfl⟩)
    obtain ⟨Y2, w1, w2⟩ := wk_R n (by omega) eR1 gr (β := 120 * k) (by omega) (w := sQ Cd' 2) (pl Y' h6) (fun j _ hj => (ti j hj).symm)
    refine ⟨(d E (sQ Cd' 2)).getD 0, C2, Y2, ?_, ?_, v2, v3, w2.1, w2.2.1⟩
    · have q0 : sI Cd' 0 = nI b := by rw [h5.2.2.1]; exact c0
      by_cases y : sI C2 3 = 0
      · rw [if_pos y] at v4
        have y : sI C2 3 = nI 0 := y
        rw [← v4]
        simp (disch := (first | assumption | decide | omega)) only [df_X2_worth_24, df_X2_worth_0, df_X2_worth, q0, v1, y, eq_self, Nat.reduceEqDiff, Nat.reduceLeDiff, nl_0, nl_3, no_1, no_1024, pk_mul, nI_add, nm_ck, nI_clamp, nI_ltI, nI_leI, nI_eq, nb_b2, nb_b1, ↓nb_let, nm_z0, nm_z1, nb_II, nb_IR, nb_RI, nb_RR, nm_IL, nm_IQ, nm_RL, nm_RQ, nm_LI, nm_LR, nm_LL, nm_LQ, nm_QI, nm_QR, nm_QL, nm_QQ, nm_rr, nm_ii, nm_eqm, not_false_eq_true, pk_sub, nm_div, nm_shl, nm_shr, nm_ush, nm_or8, nm_or64, nm_or256, nm_m1, nm_m3, nm_m7, nm_m15, nm_m31, nm_m63, nm_m255, nm_m511, nm_m1023, nm_m2047, nm_m65535, Nat.reduceMod, Nat.reducePow, Nat.reduceAdd, Nat.reduceSub, Nat.reduceMul, nm_bo, nm_bi, nm_rc, nm_ic, nm_ri, nm_rl, nm_rq, nm_ql, nm_qi, nm_li, nm_us, nm_uu, nm_cp, nm_sa31, nm_sa7, nm_m127, nm_m2, nm_nz, nm_nzk, nm_eq32, nm_nzf, if_true, if_false, ↓reduceIte, if_pos, if_neg]
      · rw [if_neg y] at v4
        have y : ¬ sI C2 3 = nI 0 := y
        rw [← v4]
        simp (disch := (first | assumption | decide | omega)) only [df_X2_worth_24, df_X2_worth_0, df_X2_worth, q0, v1, y, eq_self, Nat.reduceEqDiff, Nat.reduceLeDiff, nl_0, nl_3, no_1, no_1024, pk_mul, nI_add, nm_ck, nI_clamp, nI_ltI, nI_leI, nI_eq, nb_b2, nb_b1, ↓nb_let, nm_z0, nm_z1, nb_II, nb_IR, nb_RI, nb_RR, nm_IL, nm_IQ, nm_RL, nm_RQ, nm_LI, nm_LR, nm_LL, nm_LQ, nm_QI, nm_QR, nm_QL, nm_QQ, nm_rr, nm_ii, nm_eqm, not_false_eq_true, pk_sub, nm_div, nm_shl, nm_shr, nm_ush, nm_or8, nm_or64, nm_or256, nm_m1, nm_m3, nm_m7, nm_m15, nm_m31, nm_m63, nm_m255, nm_m511, nm_m1023, nm_m2047, nm_m65535, Nat.reduceMod, Nat.reducePow, Nat.reduceAdd, Nat.reduceSub, Nat.reduceMul, nm_bo, nm_bi, nm_rc, nm_ic, nm_ri, nm_rl, nm_rq, nm_ql, nm_qi, nm_li, nm_us, nm_uu, nm_cp, nm_sa31, nm_sa7, nm_m127, nm_m2, nm_nz, nm_nzk, nm_eq32, nm_nzf, if_true, if_false, ↓reduceIte, if_pos, if_neg]
    · have q2 : sR Y' 2 k = nI l := by rw [h6.1]; exact hm
      rw [Nat.add_zero] at w1
      simp (disch := (first | assumption | decide | omega)) only [df_X15_value_0, df_X15_value, q2, w1, eq_self, Nat.reduceEqDiff, Nat.reduceLeDiff, nl_2, nl_8, nl_120, no_1, no_1024, pk_mul, nI_add, nm_ck, nI_clamp, nI_ltI, nI_leI, nI_eq, nb_b2, nb_b1, ↓nb_let, nm_z0, nm_z1, nb_II, nb_IR, nb_RI, nb_RR, nm_IL, nm_IQ, nm_RL, nm_RQ, nm_LI, nm_LR, nm_LL, nm_LQ, nm_QI, nm_QR, nm_QL, nm_QQ, nm_rr, nm_ii, nm_eqm, not_false_eq_true, pk_sub, nm_div, nm_shl, nm_shr, nm_ush, nm_or8, nm_or64, nm_or256, nm_m1, nm_m3, nm_m7, nm_m15, nm_m31, nm_m63, nm_m255, nm_m511, nm_m1023, nm_m2047, nm_m65535, Nat.reduceMod, Nat.reducePow, Nat.reduceAdd, Nat.reduceSub, Nat.reduceMul, nm_bo, nm_bi, nm_rc, nm_ic, nm_ri, nm_rl, nm_rq, nm_ql, nm_qi, nm_li, nm_us, nm_uu, nm_cp, nm_sa31, nm_sa7, nm_m127, nm_m2, nm_nz, nm_nzk, nm_eq32, nm_nzf, if_true, if_false, ↓reduceIte, if_pos, if_neg]
