/-- behind a tick -/
def tO (n B p : Nat) (s : St × Rw × (St × (St × (St × (St)))) × (St) × (St) × (Nat → St) × (Nat → St) × (Nat → St × (St))) (X : St × St) (oc : Option (St × Rw × (St × (St × (St × (St)))) × (St) × (St) × (Nat → St) × (Nat → St) × (Nat → St × (St)))) (or : Option (Int32 × (St × St))) : Prop := ∃ (K' : St × (St × (St × St))) (wr : Int32) (X' : St × St), oc = some (s.1, (s.2.1, (K', s.2.2.2))) ∧ or = some (wr, X') ∧ rM B K'.2.2 X' ∧ (∀ i : Nat, sO K'.1 i = sO s.2.2.1.1 i) ∧ (X'.2 = X.2 ∧ sI X'.1 0 = sI X.1 0 ∧ sI X'.1 14 = sI X.1 14 ∧ sI X'.1 15 = sI X.1 15) ∧ wrR X p (sI K'.2.2.1 7) wr ∧ sD n X'
theorem okB_wr {X : St × St} {p : Nat} {wn wr : Int32} (h : wrR X p wn wr) : okB wr := by
  rcases h with ⟨_, e⟩ | ⟨a, k, _, _, _, _, e⟩
  · exact Or.inl e
  · rw [e]
    exact okB_wvs (Or.inl rfl) k
/-- settling at the end -/
theorem tO_end (n : Nat) (hn : 1024 < n) {B p : Nat} {s : St × Rw × (St × (St × (St × (St)))) × (St) × (St) × (Nat → St) × (Nat → St) × (Nat → St × (St))} {X : St × St} {K : St × (St × (St × St))} {X1 : St × St} (h : rM B K.2.2 X1) (ho : ∀ i : Nat, sO K.1 i = sO s.2.2.1.1 i) (hf : X1.2 = X.2 ∧ sI X1.1 0 = sI X.1 0 ∧ sI X1.1 14 = sI X.1 14 ∧ sI X1.1 15 = sI X.1 15) (hw : wrR X p (sI K.2.2.1 7) (sI X1.1 16)) : tO n B p s X (df_X5_tick_144 n (s.1, (s.2.1, (K, s.2.2.2)))) (df_X16_tick_186 n X1) := by
  obtain ⟨M', X', e1, e2, e3, ⟨k1, k2, k3, k4, k5, k6, k7⟩, e5, e6⟩ := nk_end n hn (s := (s.1, (s.2.1, (K, s.2.2.2)))) h (okB_wr hw)
  have e5 : sI M'.1 7 = sI K.2.2.1 7 := e5
  exact ⟨(K.1, (K.2.1, M')), _, X', e1, e2, e3, ho, ⟨k1.trans hf.1, k2.trans hf.2.1, k5.trans hf.2.2.1, k6.trans hf.2.2.2⟩, by rw [e5]; exact hw, e6⟩
/-- a trap and settling -/
theorem tO_trap (n : Nat) (hn : 1024 < n) {B p t : Nat} {s : St × Rw × (St × (St × (St × (St)))) × (St) × (St) × (Nat → St) × (Nat → St) × (Nat → St × (St))} {X : St × St} {K : St × (St × (St × St))} {X1 : St × St} (h : rM B K.2.2 X1) (hp : p < 16) (h3 : sI X1.1 12 = nI p) (h1 : sR X1.1 1 p = nI 1) (t0 : ¬ t = 0) (ht : t < 16) (ho : ∀ i : Nat, sO K.1 i = sO s.2.2.1.1 i) (hf : X1.2 = X.2 ∧ sI X1.1 0 = sI X.1 0 ∧ sI X1.1 14 = sI X.1 14 ∧ sI X1.1 15 = sI X.1 15) (hw : wrR X p (sI K.2.2.1 7) (sI X1.1 16)) : tO n B p s X (df_X5_tick_115 n (nI p) (nI t) (s.1, (s.2.1, (K, s.2.2.2)))) (nd_b1 (df_X16_trap n (nI t) X1) (fun s24 => df_X16_tick_186 n s24)) := by
  obtain ⟨M', X', e1, e2, e3, ⟨k1, k2, k3, k4, k5, k6, k7⟩, e5⟩ := nk_trap n hn (s := (s.1, (s.2.1, (K, s.2.2.2)))) h hp h3 h1 t0 ht
  rw [e1, e2, nb_b1]
  have e5 : sI M'.1 7 = sI K.2.2.1 7 := e5
  exact tO_end n hn (K := (K.1, (K.2.1, M'))) e3 ho ⟨k1.trans hf.1, k2.trans hf.2.1, k5.trans hf.2.2.1, k6.trans hf.2.2.2⟩ (by rw [k7]; show wrR X p (sI M'.1 7) _; rw [e5]; exact hw)
/-- a tick, once it has begun -/
theorem nq_tick48 (n : Nat) (hn : 40000 < n) {B p : Nat} {s : St × Rw × (St × (St × (St × (St)))) × (St) × (St) × (Nat → St) × (Nat → St) × (Nat → St × (St))} {X : St × St} (h1 : rM B s.2.2.1.2.2 X) (h2 : p < 16) (h3 : sI X.1 12 = nI p) (h5 : sR X.1 1 p = nI 1) (h6 : sI s.2.2.1.2.2.1 7 = nI 0) (h7 : sI X.1 16 = nI 0) (hl : sI X.1 2 = nI p) (hP : rPp s X.2) (hB : B + 512 < 2 ^ 62) : tO n (B + 512) p s X (df_X5_tick_48 n (nI p) s) (nd_b2 (df_X16_takeable n (nI p) X) (fun (q7 : Int32) (s8 : St × (St)) => if q7 ≤ 0 then (nd_b2 (df_X16_step n  s8) (fun (q11 : Int32) (s12 : St × (St)) => if q11 = 3 then (nd_b1 (df_X16_call n  s12) (fun (s28 : St × (St)) => df_X16_tick_186 n  s28)) else (if q11 ≤ 0 then (df_X16_tick_186 n  s12) else (if q11 = 2 then (df_X16_tick_183 n (4) s12) else (if q11 = 4 then (df_X16_tick_183 n (5) s12) else (if q11 = 5 then (df_X16_tick_176 n  s12) else (if q11 = 8 then (df_X16_tick_176 n  s12) else (df_X16_tick_183 n (11) s12)))))))) else (nd_ck ((sI s8.1 12)) 16 (nd_ck ((sI s8.1 12)) 16 (nd_let (((pR s8.1 4 (upd (sR s8.1 4) (Int32.toNatClampNeg (sI s8.1 12)) (((sR s8.1 4 (Int32.toNatClampNeg (sI s8.1 12))) &&& (((1 : Int32) <<< ((q7 : Int32) &&& 31)) ^^^ (-1)))))), s8.2)) (fun (s32 : St × (St)) => nd_ck (((16 * (sI s32.1 12)) + q7)) 256 (if ((sR s32.1 13 (Int32.toNatClampNeg ((16 * (sI s32.1 12)) + q7))) : Int32) = 0 then (nd_b1 (df_X16_end n ((sI s32.1 12)) ((128 + q7)) s32) (fun (s39 : St × (St)) => df_X16_tick_186 n  s39)) else (nd_b1 (df_X16_enter n (q7) s32) (fun (s36 : St × (St)) => df_X16_tick_186 n  s36))))))))) := by
  obtain ⟨tt, c, w, b', e, htt, hc, hw, hb, he, a1, a2, a3, a4, a5, a6, a7, a8, a9, a10, a11, a12, a13, a14, a15, a16, a17, a18, _⟩ := h1.2.2.1 p h2
  have t1 : tt = 1 := nm_inI (by omega) (by omega) (a2.symm.trans h5)
  obtain ⟨r1, r2⟩ := a17 (by omega)
  obtain ⟨tk1, tk2, tk3⟩ := nk_takeable n (by omega) h2 hc hw a8 a10 a9 a11
  have hBB : B ≤ B + 512 := by omega
  rw [tk2, nb_b2]
  generalize hf : tk (2 * c) w = f at tk1 tk3
  by_cases f0 : f = 0
  · subst f0
    rw [if_pos (show nI 0 ≤ (0 : Int32) by decide)]
    have C0 : df_X5_tick_48 n (nI p) s = nd_b2 (df_X4_step n (nI p) s.2.2.1.2) (fun q10 s11 => nd_let (s.1, (s.2.1, ((s.2.2.1.1, s11), s.2.2.2))) (fun s13 => if q10 = (-1) then (nd_b2 (df_X5_answerOf n (nI p) s13) (fun q26 s27 => nd_b2 (df_X5_answer n (nI p) q26 s27.2.2.1) (fun q29 s30 => nd_let (s27.1, (s27.2.1, (s30, s27.2.2.2))) (fun s32 => df_X5_tick_115 n (nI p) q29 s32)))) else (df_X5_tick_115 n (nI p) q10 s13))) := by
      unfold df_X5_tick_48
      rw [tk1, nb_b2, nb_let, if_pos (show nI 0 = (0 : Int32) from rfl)]
    rw [C0]
    have st := nk_step n (by omega) (p := p) (M := s.2.2.1.2.2) (X := X) ⟨h2, h3, r1, r2, h1.1, h1.2.2.2.2.1.2.2.2.2.2.2.2.1, h1.2.2.2.2.1.2.2.2.2.2.2.2.2.1, h1.2.2.2.2.1.2.2.2.2.2.2.2.2.2.1, h1.2.2.2.2.1.2.2.2.2.2.2.2.2.2.2, h7, h6⟩ s.2.2.1.2.1
    have st : oS p s.2.2.1.2.2 X (df_X4_step n (nI p) s.2.2.1.2) (df_X16_step n X) := st
    rcases st with ⟨t, me, H, a, b, d, tmm, e1, e2⟩ | ⟨H, a, b, d, e1, e2⟩ | ⟨rg, x, ww, u, g, bb, fr, ho, fu, us, re, wn, wr, nx, aa, ab, H, e1, e2, o1, o2, o3, o4, o5⟩
    · rw [e1, e2, nb_b2, nb_b2, nb_let]
      have up := rM_up h1 hBB
      have tp : ∀ t : Nat, ¬ t = 0 → t < 16 → tO n (B + 512) p s X (df_X5_tick_115 n (nI p) (nI t) (s.1, (s.2.1, ((s.2.2.1.1, (H, s.2.2.1.2.2)), s.2.2.2)))) (nd_b1 (df_X16_trap n (nI t) (zS X a b d (nI me))) (fun s24 => df_X16_tick_186 n s24)) := fun t t0 t16 => tO_trap n (by omega) (K := (s.2.2.1.1, (H, s.2.2.1.2.2))) (X1 := zS X a b d (nI me)) up h2 h3 h5 t0 t16 (fun _ => rfl) ⟨rfl, rfl, rfl, rfl⟩ (Or.inl ⟨h6, h7⟩)
      rcases tmm with ⟨z1, z2⟩ | ⟨z1, z2⟩ | ⟨z1, z2⟩ | ⟨z1, z2⟩ | ⟨z1, z2⟩
      · subst z1 z2
        rw [if_pos (show (-nI 1 : Int32) = -1 from rfl), if_pos (show nI 3 = (3 : Int32) from rfl)]
        obtain ⟨v64, K', q29, K'', c1, c2, X', x1, x2, x3, x4, x5, x6⟩ := nq_call n hn (s := (s.1, (s.2.1, ((s.2.2.1.1, (H, s.2.2.1.2.2)), s.2.2.2)))) (X := zS X a b d (nI 3)) h1 h2 h3 h5 h6 h7 hl hP hB
        obtain ⟨k1, k2, k3, k4, k5⟩ := x4
        have wq : wrR X p (sI K''.2.2.1 7) (sI X'.1 16) := wrR_c (X := X) (Y := zS X a b d (nI 3)) rfl rfl x5
        rw [c1, nb_b2, c2, nb_b2, nb_let]
        rcases x6 with ⟨y1, y2⟩ | ⟨y1, y2, y3⟩
        · have y2 : df_X16_call n (zS X a b d (nI 3)) = some X' := y2
          rw [y1, y2, nb_b1]
          have C1 : df_X5_tick_115 n (nI p) (nI 0) (s.1, (s.2.1, (K'', s.2.2.2))) = df_X5_tick_144 n (s.1, (s.2.1, (K'', s.2.2.2))) := by
            unfold df_X5_tick_115
            rw [if_pos (show nI 0 = (0 : Int32) from rfl)]
          show tO n (B + 512) p s X (df_X5_tick_115 n (nI p) (nI 0) (s.1, (s.2.1, (K'', s.2.2.2)))) (df_X16_tick_186 n X')
          rw [C1]
          exact tO_end n (by omega) x1 x2 ⟨k1, k2, k4, k5⟩ wq
        · have y3 : df_X16_call n (zS X a b d (nI 3)) = df_X16_trap n (nI 7) X' := y3
          rw [y1, y3]
          exact tO_trap n (by omega) (s := s) (X := X) (K := K'') (X1 := X') x1 h2 (k3.trans h3) y2 (by omega) (by omega) x2 ⟨k1, k2, k4, k5⟩ wq
      · subst z1 z2
        rw [if_neg (by decide), if_neg (by decide), if_neg (by decide), if_pos (by decide)]
        exact tp 4 (by omega) (by omega)
      · subst z1 z2
        rw [if_neg (by decide), if_neg (by decide), if_neg (by decide), if_neg (by decide), if_pos (by decide)]
        exact tp 5 (by omega) (by omega)
      · subst z1
        rcases z2 with z2 | z2
        · subst z2
          rw [if_neg (by decide), if_neg (by decide), if_neg (by decide), if_neg (by decide), if_neg (by decide), if_pos (by decide)]
          exact tp 7 (by omega) (by omega)
        · subst z2
          rw [if_neg (by decide), if_neg (by decide), if_neg (by decide), if_neg (by decide), if_neg (by decide), if_neg (by decide), if_pos (by decide)]
          exact tp 7 (by omega) (by omega)
      · subst z1
        rcases z2 with z2 | z2 | z2
        · subst z2
          rw [if_neg (by decide), if_neg (by decide), if_neg (by decide), if_neg (by decide), if_neg (by decide), if_neg (by decide), if_neg (by decide)]
          exact tp 11 (by omega) (by omega)
        · subst z2
          rw [if_neg (by decide), if_neg (by decide), if_neg (by decide), if_neg (by decide), if_neg (by decide), if_neg (by decide), if_neg (by decide)]
          exact tp 11 (by omega) (by omega)
        · subst z2
          rw [if_neg (by decide), if_neg (by decide), if_neg (by decide), if_neg (by decide), if_neg (by decide), if_neg (by decide), if_neg (by decide)]
          exact tp 11 (by omega) (by omega)
    · rw [e1, e2, nb_b2, nb_b2, nb_let]
      rw [if_neg (by decide), if_neg (by decide), if_neg (by decide), if_neg (by decide), if_neg (by decide), if_neg (by decide), if_neg (by decide)]
      exact tO_trap n (by omega) (s := s) (X := X) (K := (s.2.2.1.1, (H, s.2.2.1.2.2))) (X1 := zS X a b d (nI 0)) (t := 11) (rM_up h1 hBB) h2 h3 h5 (by omega) (by omega) (fun _ => rfl) ⟨rfl, rfl, rfl, rfl⟩ (Or.inl ⟨h6, h7⟩)
    · rw [e1, e2, nb_b2, nb_b2, nb_let]
      rw [if_neg (by decide), if_neg (by decide), if_pos (by decide)]
      have rm := rM_up (rM_step h1 h2 h5 (wn := wn) (wr := wr) (nx := nx) (a' := aa) (b' := ab) o1 o2 o3 o4) hBB
      have c7 := (hX_rows X x bb fr ho (upd (sR X.1 10) p nx) us re wr nx aa ab (sL X.1 0 + 1)).2.2.2.2.2.2.1
      have c16 := (hX_rows X x bb fr ho (upd (sR X.1 10) p nx) us re wr nx aa ab (sL X.1 0 + 1)).2.2.2.2.2.2.2.2.2.1
      have f9 := (hM_rows s.2.2.1.2.2 rg ww u g (upd rg (p * 33 + 32) nx) fu re wn (sL s.2.2.1.2.2.1 1 + 1)).2.2.2.2.2.2.2.2.1
      generalize pL (pR (hX (zS X aa ab nx (nI 0)) x bb fr ho us re wr nx).1 10 (upd (sR X.1 10) p nx)) 0 (sL X.1 0 + 1) = X' at rm c7 c16
      generalize pL (pR (hM s.2.2.1.2.2 rg ww u g fu re wn).1 3 (upd rg (p * 33 + 32) nx)) 1 (sL s.2.2.1.2.2.1 1 + 1) = M' at rm f9
      have C1 : df_X5_tick_115 n (nI p) (nI 0) (s.1, (s.2.1, ((s.2.2.1.1, (H, (M', s.2.2.1.2.2.2))), s.2.2.2))) = df_X5_tick_144 n (s.1, (s.2.1, ((s.2.2.1.1, (H, (M', s.2.2.1.2.2.2))), s.2.2.2))) := by
        unfold df_X5_tick_115
        rw [if_pos (show nI 0 = (0 : Int32) from rfl)]
      show tO n (B + 512) p s X (df_X5_tick_115 n (nI p) (nI 0) (s.1, (s.2.1, ((s.2.2.1.1, (H, (M', s.2.2.1.2.2.2))), s.2.2.2)))) (df_X16_tick_186 n (X', X.2))
      rw [C1]
      refine tO_end n (by omega) (K := (s.2.2.1.1, (H, (M', s.2.2.1.2.2.2)))) rm (fun _ => rfl) ⟨rfl, c7 0 (by omega) (by omega) (by omega) (by omega) (by omega) (by omega) (by omega), c7 14 (by omega) (by omega) (by omega) (by omega) (by omega) (by omega) (by omega), c7 15 (by omega) (by omega) (by omega) (by omega) (by omega) (by omega) (by omega)⟩ ?_
      show wrR X p (sI M' 7) (sI X' 16)
      rw [f9, c16]
      exact o5
  · obtain ⟨c', hc', ec⟩ := pend_clr hc ((nI 1 <<< (nI f &&& nI 31)) ^^^ -nI 1)
    have rp := rM_pend h1 h2 hc'
    have eh := (a18 (Or.inl t1)).1 f tk3
    rw [if_neg (show ¬ nI f ≤ (0 : Int32) from fun z => by have z : nI f ≤ nI 0 := z; rw [nI_leI (by omega) (by omega)] at z; omega)]
    have u1 : p < 2 ^ 31 := by omega
    have u2 : p * 7 + 3 < 112 := by omega
    have u3 : p * 7 + 3 < 2 ^ 31 := by omega
    have k1 : nI p * 7 + 3 = nI (p * 7 + 3) := by simp (disch := (first | assumption | decide | omega)) only [eq_self, Nat.reduceEqDiff, Nat.reduceLeDiff, nl_3, nl_7, no_1, no_1024, pk_mul, nI_add, nm_ck, nI_clamp, nI_ltI, nI_leI, nI_eq, nb_b2, nb_b1, ↓nb_let, nm_z0, nm_z1, nb_II, nb_IR, nb_RI, nb_RR, nm_IL, nm_IQ, nm_RL, nm_RQ, nm_LI, nm_LR, nm_LL, nm_LQ, nm_QI, nm_QR, nm_QL, nm_QQ, nm_rr, nm_ii, nm_eqm, not_false_eq_true, pk_sub, nm_div, nm_shl, nm_shr, nm_ush, nm_or8, nm_or64, nm_or256, nm_m1, nm_m3, nm_m7, nm_m15, nm_m31, nm_m63, nm_m255, nm_m511, nm_m1023, nm_m2047, nm_m65535, Nat.reduceMod, Nat.reducePow, Nat.reduceAdd, Nat.reduceSub, Nat.reduceMul, nm_bo, nm_bi, nm_rc, nm_ic, nm_ri, nm_rl, nm_rq, nm_ql, nm_qi, nm_li, nm_us, nm_uu, nm_cp, nm_sa31, nm_sa7, nm_m127, nm_m2, nm_nz, nm_nzk, nm_eq32, nm_nzf, if_true, if_false, ↓reduceIte, if_pos, if_neg]
    have k2 : ∀ x : Int32, x = nI p → 16 * x + nI f = nI (16 * p + f) := fun x hx => by rw [hx]; simp (disch := (first | assumption | decide | omega)) only [eq_self, Nat.reduceEqDiff, Nat.reduceLeDiff, nl_16, no_1, no_1024, pk_mul, nI_add, nm_ck, nI_clamp, nI_ltI, nI_leI, nI_eq, nb_b2, nb_b1, ↓nb_let, nm_z0, nm_z1, nb_II, nb_IR, nb_RI, nb_RR, nm_IL, nm_IQ, nm_RL, nm_RQ, nm_LI, nm_LR, nm_LL, nm_LQ, nm_QI, nm_QR, nm_QL, nm_QQ, nm_rr, nm_ii, nm_eqm, not_false_eq_true, pk_sub, nm_div, nm_shl, nm_shr, nm_ush, nm_or8, nm_or64, nm_or256, nm_m1, nm_m3, nm_m7, nm_m15, nm_m31, nm_m63, nm_m255, nm_m511, nm_m1023, nm_m2047, nm_m65535, Nat.reduceMod, Nat.reducePow, Nat.reduceAdd, Nat.reduceSub, Nat.reduceMul, nm_bo, nm_bi, nm_rc, nm_ic, nm_ri, nm_rl, nm_rq, nm_ql, nm_qi, nm_li, nm_us, nm_uu, nm_cp, nm_sa31, nm_sa7, nm_m127, nm_m2, nm_nz, nm_nzk, nm_eq32, nm_nzf, if_true, if_false, ↓reduceIte, if_pos, if_neg]
    have ec : nI (2 * c) &&& (((1 : Int32) <<< (nI f &&& 31)) ^^^ (-1)) = nI (2 * c') := ec
    rw [h3, nm_ck h2 u1, nm_ck h2 u1, nI_clamp u1, a9, ec, nb_let]
    have e12 : sI (pR X.1 4 (upd (sR X.1 4) p (nI (2 * c'))), X.2).1 12 = nI p := h3
    rw [k2 _ e12, nm_ck (by omega) (by omega), nI_clamp (by omega)]
    have e13 : sR (pR X.1 4 (upd (sR X.1 4) p (nI (2 * c'))), X.2).1 13 (16 * p + f) = sR X.1 13 (16 * p + f) := rfl
    rw [e13]
    have C0 : df_X5_tick_48 n (nI p) s = nd_b1 (df_X5_take n (nI p) (nI f) 0 (s.2.2.1.1, (s.2.2.1.2.1, (pR s.2.2.1.2.2.1 6 (upd (sR s.2.2.1.2.2.1 6) (p * 7 + 3) (nI (2 * c'))), s.2.2.1.2.2.2)))) (fun s37 => df_X5_tick_144 n (s.1, (s.2.1, (s37, s.2.2.2)))) := by
      unfold df_X5_tick_48
      rw [tk1, nb_b2, nb_let, if_neg (show ¬ nI f = (0 : Int32) from fun z => f0 (nm_inI (by omega) (by omega) (show nI f = nI 0 from z))), k1, nm_ck u2 u3, nm_ck u2 u3, nI_clamp u3]
      dsimp only
      rw [a8, ec, nb_let]
      rfl
    rw [C0]
    have h5' : sR (pR X.1 4 (upd (sR X.1 4) p (nI (2 * c'))), X.2).1 1 p = nI 1 := h5
    by_cases hz : sR X.1 13 (16 * p + f) = nI 0
    · obtain ⟨MF, XF, g1, g2, g3, ⟨y1, y2, y3, y4, y5, y6, y7⟩, g5⟩ := nk_finish n (by omega) rp h2 (c := 128 + f) (by omega) h5'
      have hz' := eh.trans hz
      have u6 : p * 16 + f < 256 := by omega
      have u7 : p * 16 + f < 2 ^ 31 := by omega
      have tk : df_X5_take n (nI p) (nI f) (nI 0) (s.2.2.1.1, (s.2.2.1.2.1, (pR s.2.2.1.2.2.1 6 (upd (sR s.2.2.1.2.2.1 6) (p * 7 + 3) (nI (2 * c'))), s.2.2.1.2.2.2))) = some (s.2.2.1.1, (s.2.2.1.2.1, MF)) := by
        simp (disch := (first | assumption | decide | omega)) only [df_X5_take, df_X5_take_0, df_X5_take_25, hz', g1, eq_self, Nat.reduceEqDiff, Nat.reduceLeDiff, nl_0, nl_1, nl_3, nl_4, nl_5, nl_6, nl_7, nl_10, nl_16, nl_32, nl_33, nl_112, nl_128, nl_256, nl_528, no_1, no_1024, pk_mul, nI_add, nm_ck, nI_clamp, nI_ltI, nI_leI, nI_eq, nb_b2, nb_b1, ↓nb_let, nm_z0, nm_z1, nb_II, nb_IR, nb_RI, nb_RR, nm_IL, nm_IQ, nm_RL, nm_RQ, nm_LI, nm_LR, nm_LL, nm_LQ, nm_QI, nm_QR, nm_QL, nm_QQ, nm_rr, nm_ii, nm_eqm, not_false_eq_true, pk_sub, nm_div, nm_shl, nm_shr, nm_ush, nm_or8, nm_or64, nm_or256, nm_m1, nm_m3, nm_m7, nm_m15, nm_m31, nm_m63, nm_m255, nm_m511, nm_m1023, nm_m2047, nm_m65535, Nat.reduceMod, Nat.reducePow, Nat.reduceAdd, Nat.reduceSub, Nat.reduceMul, nm_bo, nm_bi, nm_rc, nm_ic, nm_ri, nm_rl, nm_rq, nm_ql, nm_qi, nm_li, nm_us, nm_uu, nm_cp, nm_sa31, nm_sa7, nm_m127, nm_m2, nm_nz, nm_nzk, nm_eq32, nm_nzf, if_true, if_false, ↓reduceIte, if_pos, if_neg]
      have tk : df_X5_take n (nI p) (nI f) 0 (s.2.2.1.1, (s.2.2.1.2.1, (pR s.2.2.1.2.2.1 6 (upd (sR s.2.2.1.2.2.1 6) (p * 7 + 3) (nI (2 * c'))), s.2.2.1.2.2.2))) = some (s.2.2.1.1, (s.2.2.1.2.1, MF)) := tk
      have k3 : (128 : Int32) + nI f = nI (128 + f) := nI_add ..
      rw [if_pos (show sR X.1 13 (16 * p + f) = 0 from hz), tk, nb_b1, e12, k3, g2, nb_b1]
      have g5 : sI MF.1 7 = sI s.2.2.1.2.2.1 7 := g5
      exact tO_end n (by omega) (K := (s.2.2.1.1, (s.2.2.1.2.1, MF))) (rM_up g3 hBB) (fun _ => rfl) ⟨y1, y2, y5, y6⟩ (Or.inl ⟨g5.trans h6, y7.trans h7⟩)
    · have hz' : ¬ sR s.2.2.1.2.2.1 5 (p * 16 + f) = nI 0 := fun z => hz (eh.symm.trans z)
      have tk := nk_take n (K := (s.2.2.1.1, (s.2.2.1.2.1, (pR s.2.2.1.2.2.1 6 (upd (sR s.2.2.1.2.2.1 6) (p * 7 + 3) (nI (2 * c'))), s.2.2.1.2.2.2)))) h2 tk3 hz'
      have en := nk_enter n (by omega) (X := (pR X.1 4 (upd (sR X.1 4) p (nI (2 * c'))), X.2)) h2 tk3 e12
      have re := rM_enter rp h2 tk3 h5'
      have tk : df_X5_take n (nI p) (nI f) 0 (s.2.2.1.1, (s.2.2.1.2.1, (pR s.2.2.1.2.2.1 6 (upd (sR s.2.2.1.2.2.1 6) (p * 7 + 3) (nI (2 * c'))), s.2.2.1.2.2.2))) = _ := tk
      rw [if_neg (show ¬ sR X.1 13 (16 * p + f) = 0 from hz), tk, nb_b1, en, nb_b1]
      exact tO_end n (by omega) (K := (s.2.2.1.1, (s.2.2.1.2.1, (_, s.2.2.1.2.2.2)))) (rM_up re hBB) (fun _ => rfl) ⟨rfl, rfl, rfl, rfl⟩ (Or.inl ⟨h6, h7⟩)
/-- one tick, in both -/
theorem nq_tick (n : Nat) (hn : 40000 < n) {B p : Nat} {s : St × Rw × (St × (St × (St × (St)))) × (St) × (St) × (Nat → St) × (Nat → St) × (Nat → St × (St))} {X : St × St} (h1 : rM B s.2.2.1.2.2 X) (h2 : p < 16) (hc : sI X.1 1 = nI p) (h5 : sR X.1 1 p = nI 1) (hP : rPp s X.2) (hB : B + 512 < 2 ^ 62) : tO n (B + 512) p s (pI X.1 0 (sI X.1 0 + nI 1), X.2) (df_X5_tick n s) (df_X16_tick n X) := by
  obtain ⟨g1, g2, g3, g4, g5, g6, g7, g8, g9, g10, g11⟩ := id h1.2.2.2.2.1
  have hl : sI X.1 2 = nI p := by
    rcases g5 with z | z
    · rw [hc] at z
      exact absurd z (nk_ne (by omega))
    · exact z.trans hc
  have ec := g1.trans hc
  have u1 : p < 2 ^ 31 := by omega
  have z0 : (0 : Int32) ≤ nI p := by
    show nI 0 ≤ nI p
    rw [nI_leI (by omega) u1]
    omega
  -- what is reserved now
  have key : ∀ re : Int32, okR re → ((sI X.1 3 = nI p ∧ re = sI X.1 4) ∨ (¬ sI X.1 3 = nI p ∧ re = -nI 1)) → tO n (B + 512) p s (pI X.1 0 (sI X.1 0 + nI 1), X.2) (df_X5_tick n s) (df_X16_tick n X) := fun re ore hre => by
    have rt := rM_tk h1 h2 ore
    have q := nq_tick48 n hn (s := (s.1, (s.2.1, ((s.2.2.1.1, (s.2.2.1.2.1, (pI (pI (pI s.2.2.1.2.2.1 7 (nI 0)) 6 re) 5 (nI p), s.2.2.1.2.2.2))), s.2.2.2)))) (X := (pI (pI (pI (pI (pI X.1 12 (nI p)) 16 (nI 0)) 4 re) 3 (nI p)) 0 (sI X.1 0 + nI 1), X.2)) rt h2 rfl h5 rfl rfl hl hP hB
    have R : df_X16_tick n X = df_X16_tick_33 n re (pI (pI X.1 12 (nI p)) 16 (nI 0), X.2) := by
      unfold df_X16_tick df_X16_tick_0
      rw [nb_let, nb_let, hc]
      rcases hre with ⟨y1, y2⟩ | ⟨y1, y2⟩
      · rw [y2]
        exact if_pos (show nI p = sI X.1 3 from y1.symm)
      · rw [y2]
        exact if_neg (show ¬ nI p = sI X.1 3 from fun z => y1 z.symm)
    have C : df_X5_tick n s = df_X5_tick_48 n (nI p) (s.1, (s.2.1, ((s.2.2.1.1, (s.2.2.1.2.1, (pI (pI (pI s.2.2.1.2.2.1 7 (nI 0)) 6 re) 5 (nI p), s.2.2.1.2.2.2))), s.2.2.2))) := by
      unfold df_X5_tick df_X5_tick_0
      rw [nb_let, nb_let, ec, if_pos z0]
      rcases hre with ⟨y1, y2⟩ | ⟨y1, y2⟩
      · have i1 : pI (pI (pI s.2.2.1.2.2.1 7 (nI 0)) 6 re) 5 (nI p) = pI s.2.2.1.2.2.1 7 (nI 0) := by
          rw [show re = sI (pI s.2.2.1.2.2.1 7 (nI 0)) 6 from y2.trans g8.symm, nm_i0, show nI p = sI (pI s.2.2.1.2.2.1 7 (nI 0)) 5 from (g6.trans y1).symm, nm_i0]
        rw [i1]
        exact if_pos (show sI s.2.2.1.2.2.1 5 = nI p from g6.trans y1)
      · rw [y2]
        exact if_neg (show ¬ sI s.2.2.1.2.2.1 5 = nI p from fun z => y1 (g6.symm.trans z))
    rw [C, R]
    have R2 : tO n (B + 512) p (s.1, (s.2.1, ((s.2.2.1.1, (s.2.2.1.2.1, (pI (pI (pI s.2.2.1.2.2.1 7 (nI 0)) 6 re) 5 (nI p), s.2.2.1.2.2.2))), s.2.2.2))) (pI (pI (pI (pI (pI X.1 12 (nI p)) 16 (nI 0)) 4 re) 3 (nI p)) 0 (sI X.1 0 + nI 1), X.2) _ (df_X16_tick_33 n re (pI (pI X.1 12 (nI p)) 16 (nI 0), X.2)) := q
    obtain ⟨K', wr, X', x1, x2, x3, x4, ⟨y1, y2, y3, y4⟩, x6, x7⟩ := R2
    exact ⟨K', wr, X', x1, x2, x3, x4, ⟨y1, y2, y3, y4⟩, wrR_c (X := (pI X.1 0 (sI X.1 0 + nI 1), X.2)) (Y := (pI (pI (pI (pI (pI X.1 12 (nI p)) 16 (nI 0)) 4 re) 3 (nI p)) 0 (sI X.1 0 + nI 1), X.2)) rfl rfl x6, x7⟩
  by_cases c : sI X.1 3 = nI p
  · exact key _ g9 (Or.inl ⟨c, rfl⟩)
  · exact key _ (Or.inl rfl) (Or.inr ⟨c, rfl⟩)
