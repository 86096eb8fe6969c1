/-- a file is made empty -/
theorem rM_empty {B : Nat} {M X : St × St} (h : rM B M X) {k : Nat} (hk : k < 16) : rM B (M.1, pR M.2 4 (upd (sR M.2 4) (k * 3) (nI 0))) (pR X.1 28 (upd (sR X.1 28) k (nI 0)), X.2) := by
  obtain ⟨m1, m2, m3, m4, m5, m6, m7⟩ := h
  refine ⟨m1, ?_, m3, m4, m5, m6, ?_⟩
  · exact rD_nam m2 (fun j hj => ⟨nm_un (by omega), (nm_un (by omega)).trans (m2.2.2.2 j hj).2.2.1, (m2.2.2.2 j hj).2.1, (m2.2.2.2 j hj).2.2.2⟩)
  · obtain ⟨t1, t2, t3⟩ := m7
    refine ⟨t1, fun j hj e => ?_, t3⟩
    show ∃ L : Nat, L ≤ 512 ∧ upd (sR M.2 4) (k * 3) (nI 0) (j * 3) = nI L ∧ upd (sR X.1 28) k (nI 0) j = nI L ∧ _
    by_cases c : j = k
    · rw [c, nm_us, nm_us]
      exact ⟨0, by omega, rfl, rfl, fun i hi => by omega⟩
    · rw [nm_un (by omega), nm_un c]
      exact t2 j hj e
/-- a file is made -/
theorem rM_new {B : Nat} {M X : St × St} (h : rM B M X) {k : Nat} (hk : k < 16) (hf : sR X.1 24 k = nI 0) {f g : Nat → Int32} (e3 : ∀ i : Nat, i < 16 → b8 (f i) (g i)) : rM B (M.1, pR (pR M.2 4 (upd (upd (sR M.2 4) (k * 3 + 2) (nI 1)) (k * 3) (nI 0))) 6 (va_cpy f (sR M.2 6) 0 (k * 16) 16)) (pR (pR (pR (pR X.1 24 (upd (sR X.1 24) k (nI 1))) 28 (upd (sR X.1 28) k (nI 0))) 30 (va_cpy g (sR X.1 30) 0 (16 * k) 16)) 25 (upd (sR X.1 25) k (nI 1)), X.2) := by
  obtain ⟨m1, m2, m3, m4, m5, m6, m7⟩ := h
  refine ⟨m1, ?_, m3, m4, m5, ⟨m6.1, m6.2.1, m6.2.2.1, fun i hi => fb_va (fun j hj => b8_fit (e3 j hj)) (m6.2.2.2.1 i hi), m6.2.2.2.2⟩, ?_⟩
  · have r := rD_nam m2 (fi' := upd (upd (sR M.2 4) (k * 3 + 2) (nI 1)) (k * 3) (nI 0)) (isf' := upd (sR X.1 24) k (nI 1)) (nam' := upd (sR X.1 25) k (nI 1)) (fun j hj => by
      refine ⟨by rw [nm_un (by omega), nm_un (by omega)], ?_, ?_, ?_⟩
      · rw [nm_un (by omega)]
        by_cases c : j = k
        · rw [c, nm_us, nm_us]
        · rw [nm_un (by omega), nm_un c]
          exact (m2.2.2.2 j hj).2.2.1
      · by_cases c : j = k
        · rw [c, nm_us]; exact Or.inr rfl
        · rw [nm_un c]; exact (m2.2.2.2 j hj).2.1
      · by_cases c : j = k
        · rw [c, nm_us, nm_us, decide_eq_true (Or.inl rfl)]; rfl
        · rw [nm_un c, nm_un c]; exact (m2.2.2.2 j hj).2.2.2)
    exact r
  · obtain ⟨t1, t2, t3, t4⟩ := m7
    refine ⟨t1, fun j hj e => ?_, fun j hj e i hi => ?_, t4⟩
    · have e : upd (sR X.1 24) k (nI 1) j = nI 1 := e
      show ∃ L : Nat, L ≤ 512 ∧ upd (upd (sR M.2 4) (k * 3 + 2) (nI 1)) (k * 3) (nI 0) (j * 3) = nI L ∧ upd (sR X.1 28) k (nI 0) j = nI L ∧ _
      by_cases c : j = k
      · rw [c, nm_us, nm_us]
        exact ⟨0, by omega, rfl, rfl, fun i hi => by omega⟩
      · rw [nm_un c] at e
        rw [nm_un (by omega), nm_un (by omega), nm_un c]
        exact t2 j hj e
    · have e : upd (sR X.1 25) k (nI 1) j = nI 1 := e
      show b8 (va_cpy f (sR M.2 6) 0 (k * 16) 16 (j * 16 + i)) (va_cpy g (sR X.1 30) 0 (16 * k) 16 (16 * j + i))
      by_cases c : j = k
      · rw [c, va_i (by omega), va_i (by omega), show 0 + (k * 16 + i - k * 16) = i by omega, show 0 + (16 * k + i - 16 * k) = i by omega]
        exact e3 i hi
      · rw [nm_un c] at e
        rw [va_o (by omega), va_o (by omega)]
        exact t3 j hj e i hi
theorem c216 (n : Nat) {K : St × (St × (St × St))} {p H t d : Nat} (ht : t < 16) (x8 : Int32) : df_X5_open_216 n (nI p) (nI H) (nI t) (nI d) x8 K = if x8 = nI 0 ∧ nI H &&& nI 32 = nI 0 then df_X5_open_237 n (nI p) (nI H) (nI t) (nI d) K else df_X5_open_237 n (nI p) (nI H) (nI t) (nI d) (K.1, (K.2.1, (K.2.2.1, pR K.2.2.2 4 (upd (sR K.2.2.2 4) (t * 3) (nI 0))))) := by
  have u1 : t * 3 < 48 := by omega
  have u2 : t * 3 < 2 ^ 31 := by omega
  generalize nI H = v
  by_cases a : x8 = nI 0
  · by_cases b : v &&& nI 32 = nI 0
    · rw [if_pos ⟨a, b⟩]
      simp (disch := (first | assumption | decide | omega)) only [df_X5_open_216, a, b, eq_self, Nat.reduceEqDiff, Nat.reduceLeDiff, nl_0, nl_32, no_1, no_1024, pk_mul, nI_add, nm_ck, nI_clamp, nI_ltI, nI_leI, nI_eq, nb_b2, nb_b1, ↓nb_let, nm_z0, nm_z1, nb_II, nb_IR, nb_RI, nb_RR, nm_IL, nm_IQ, nm_RL, nm_RQ, nm_LI, nm_LR, nm_LL, nm_LQ, nm_QI, nm_QR, nm_QL, nm_QQ, nm_rr, nm_ii, nm_eqm, not_false_eq_true, pk_sub, nm_div, nm_shl, nm_shr, nm_ush, nm_or8, nm_or64, nm_or256, nm_m1, nm_m3, nm_m7, nm_m15, nm_m31, nm_m63, nm_m255, nm_m511, nm_m1023, nm_m2047, nm_m65535, Nat.reduceMod, Nat.reducePow, Nat.reduceAdd, Nat.reduceSub, Nat.reduceMul, nm_bo, nm_bi, nm_rc, nm_ic, nm_ri, nm_rl, nm_rq, nm_ql, nm_qi, nm_li, nm_us, nm_uu, nm_cp, nm_sa31, nm_sa7, nm_m127, nm_m2, nm_nz, nm_nzk, nm_eq32, nm_nzf, if_true, if_false, ↓reduceIte, if_pos, if_neg]
    · rw [if_neg (fun z => b z.2)]
      simp (disch := (first | assumption | decide | omega)) only [df_X5_open_216, df_X5_open_228, df_X10_emptyFile_0, df_X10_emptyFile, a, b, Nat.add_zero, eq_self, Nat.reduceEqDiff, Nat.reduceLeDiff, nl_0, nl_3, nl_4, nl_32, nl_48, no_1, no_1024, pk_mul, nI_add, nm_ck, nI_clamp, nI_ltI, nI_leI, nI_eq, nb_b2, nb_b1, ↓nb_let, nm_z0, nm_z1, nb_II, nb_IR, nb_RI, nb_RR, nm_IL, nm_IQ, nm_RL, nm_RQ, nm_LI, nm_LR, nm_LL, nm_LQ, nm_QI, nm_QR, nm_QL, nm_QQ, nm_rr, nm_ii, nm_eqm, not_false_eq_true, pk_sub, nm_div, nm_shl, nm_shr, nm_ush, nm_or8, nm_or64, nm_or256, nm_m1, nm_m3, nm_m7, nm_m15, nm_m31, nm_m63, nm_m255, nm_m511, nm_m1023, nm_m2047, nm_m65535, Nat.reduceMod, Nat.reducePow, Nat.reduceAdd, Nat.reduceSub, Nat.reduceMul, nm_bo, nm_bi, nm_rc, nm_ic, nm_ri, nm_rl, nm_rq, nm_ql, nm_qi, nm_li, nm_us, nm_uu, nm_cp, nm_sa31, nm_sa7, nm_m127, nm_m2, nm_nz, nm_nzk, nm_eq32, nm_nzf, if_true, if_false, ↓reduceIte, if_pos, if_neg]
  · rw [if_neg (fun z => a z.1)]
    simp (disch := (first | assumption | decide | omega)) only [df_X5_open_216, df_X5_open_228, df_X10_emptyFile_0, df_X10_emptyFile, a, Nat.add_zero, eq_self, Nat.reduceEqDiff, Nat.reduceLeDiff, nl_0, nl_3, nl_4, nl_32, nl_48, no_1, no_1024, pk_mul, nI_add, nm_ck, nI_clamp, nI_ltI, nI_leI, nI_eq, nb_b2, nb_b1, ↓nb_let, nm_z0, nm_z1, nb_II, nb_IR, nb_RI, nb_RR, nm_IL, nm_IQ, nm_RL, nm_RQ, nm_LI, nm_LR, nm_LL, nm_LQ, nm_QI, nm_QR, nm_QL, nm_QQ, nm_rr, nm_ii, nm_eqm, not_false_eq_true, pk_sub, nm_div, nm_shl, nm_shr, nm_ush, nm_or8, nm_or64, nm_or256, nm_m1, nm_m3, nm_m7, nm_m15, nm_m31, nm_m63, nm_m255, nm_m511, nm_m1023, nm_m2047, nm_m65535, Nat.reduceMod, Nat.reducePow, Nat.reduceAdd, Nat.reduceSub, Nat.reduceMul, nm_bo, nm_bi, nm_rc, nm_ic, nm_ri, nm_rl, nm_rq, nm_ql, nm_qi, nm_li, nm_us, nm_uu, nm_cp, nm_sa31, nm_sa7, nm_m127, nm_m2, nm_nz, nm_nzk, nm_eq32, nm_nzf, if_true, if_false, ↓reduceIte, if_pos, if_neg]
theorem r211 (n : Nat) {X : St × St} {H t : Nat} (ht : t < 16) (hH : H < 64) : df_X16_open_211 n (nI H) (nI t) X = if nI H &&& nI 32 = nI 0 then df_X16_open_226 n (nI H) (nI t) X else df_X16_open_226 n (nI H) (nI t) (pR X.1 28 (upd (sR X.1 28) t (nI 0)), X.2) := by
  have u2 : t < 2 ^ 31 := by omega
  obtain ⟨_, _, _, _, b32⟩ := ob_le ⟨H, hH⟩
  have b32 : nI H &&& nI 32 ≤ nI 0 ↔ nI H &&& nI 32 = nI 0 := b32
  generalize nI H = v at b32
  by_cases b : v &&& nI 32 = nI 0
  · have b' := b32.mpr b
    rw [if_pos b]
    simp (disch := (first | assumption | decide | omega)) only [df_X16_open_211, b', eq_self, Nat.reduceEqDiff, Nat.reduceLeDiff, nl_0, nl_16, nl_28, nl_32, no_1, no_1024, pk_mul, nI_add, nm_ck, nI_clamp, nI_ltI, nI_leI, nI_eq, nb_b2, nb_b1, ↓nb_let, nm_z0, nm_z1, nb_II, nb_IR, nb_RI, nb_RR, nm_IL, nm_IQ, nm_RL, nm_RQ, nm_LI, nm_LR, nm_LL, nm_LQ, nm_QI, nm_QR, nm_QL, nm_QQ, nm_rr, nm_ii, nm_eqm, not_false_eq_true, pk_sub, nm_div, nm_shl, nm_shr, nm_ush, nm_or8, nm_or64, nm_or256, nm_m1, nm_m3, nm_m7, nm_m15, nm_m31, nm_m63, nm_m255, nm_m511, nm_m1023, nm_m2047, nm_m65535, Nat.reduceMod, Nat.reducePow, Nat.reduceAdd, Nat.reduceSub, Nat.reduceMul, nm_bo, nm_bi, nm_rc, nm_ic, nm_ri, nm_rl, nm_rq, nm_ql, nm_qi, nm_li, nm_us, nm_uu, nm_cp, nm_sa31, nm_sa7, nm_m127, nm_m2, nm_nz, nm_nzk, nm_eq32, nm_nzf, if_true, if_false, ↓reduceIte, if_pos, if_neg]
  · have b' : ¬ v &&& nI 32 ≤ nI 0 := fun z => b (b32.mp z)
    rw [if_neg b]
    simp (disch := (first | assumption | decide | omega)) only [df_X16_open_211, b', eq_self, Nat.reduceEqDiff, Nat.reduceLeDiff, nl_0, nl_16, nl_28, nl_32, no_1, no_1024, pk_mul, nI_add, nm_ck, nI_clamp, nI_ltI, nI_leI, nI_eq, nb_b2, nb_b1, ↓nb_let, nm_z0, nm_z1, nb_II, nb_IR, nb_RI, nb_RR, nm_IL, nm_IQ, nm_RL, nm_RQ, nm_LI, nm_LR, nm_LL, nm_LQ, nm_QI, nm_QR, nm_QL, nm_QQ, nm_rr, nm_ii, nm_eqm, not_false_eq_true, pk_sub, nm_div, nm_shl, nm_shr, nm_ush, nm_or8, nm_or64, nm_or256, nm_m1, nm_m3, nm_m7, nm_m15, nm_m31, nm_m63, nm_m255, nm_m511, nm_m1023, nm_m2047, nm_m65535, Nat.reduceMod, Nat.reducePow, Nat.reduceAdd, Nat.reduceSub, Nat.reduceMul, nm_bo, nm_bi, nm_rc, nm_ic, nm_ri, nm_rl, nm_rq, nm_ql, nm_qi, nm_li, nm_us, nm_uu, nm_cp, nm_sa31, nm_sa7, nm_m127, nm_m2, nm_nz, nm_nzk, nm_eq32, nm_nzf, if_true, if_false, ↓reduceIte, if_pos, if_neg]
/-- the kernel's call 'open' -/
theorem nq_open (n : Nat) (hn : 1024 < n) {B p : Nat} {K : St × (St × (St × St))} {X : St × St} (h : cP B p K X) (a v : Int32) : cO B p K X (df_X5_open n (nI p) a v K) (df_X16_open n a v X) := by
  by_cases g : good v
  · obtain ⟨H, hH, eH, oR⟩ := (op_R n a v X).1 g
    have oC := (op_C n (nI p) a v K).1 g
    rw [oC, oR]
    clear oC oR g
    subst eH
    obtain ⟨h1, h2, h3, h4, h5, h6, h7⟩ := h
    obtain ⟨w, f, g, e1, e2, e3, e4⟩ := nk_namet1 n hn h1.1 h2 h3 a (K1 := K.1) (K2 := K.2.1)
    have e1 : df_X5_readName_t1 n (nI p) a K = some (w, (pR K.1 0 f, K.2)) := e1
    have hY : rM B K.2.2 (pR X.1 33 g, X.2) := h1
    have kY : kX X (pR X.1 33 g, X.2) := ⟨rfl, rfl, rfl, rfl, rfl, rfl, rfl⟩
    have y3 : sI (pR X.1 33 g, X.2).1 12 = nI p := h3
    have y5 : sR (pR X.1 33 g, X.2).1 1 p = nI 1 := h5
    have y33 : sR (pR X.1 33 g, X.2).1 33 = g := rfl
    generalize (pR X.1 33 g, X.2) = Y at e2 hY kY y3 y5 y33
    have hb : ∀ i : Nat, i < 16 → b8 (sR (pR nd_st0 0 f) 0 i) (sR Y.1 33 i) := fun i hi => by rw [y33]; exact e3 i hi
    obtain ⟨q1, q2⟩ := nk_named n hn (E := pR nd_st0 0 f) hY.2.1 hY.2.2.2.2.2.2 hb
    have q1 : df_X10_fileNamed n (pR nd_st0 0 f, K.2.2.2) = some (cv (fnm Y (sR Y.1 33)), (pR nd_st0 0 f, K.2.2.2)) := q1
    have x2 := (fN_le (fun k => decide (sR Y.1 25 k = nI 1 ∧ eqF (fun i => sR Y.1 30 (16 * k + i)) (sR Y.1 33) = 16)) 16 0)
    have x3 : fnm Y (sR Y.1 33) < 16 → sR Y.1 25 (fnm Y (sR Y.1 33)) = nI 1 := fun z => (of_decide_eq_true (x2.2.2.1 z)).1
    clear x2
    generalize fnm Y (sR Y.1 33) = k at q1 q2 x3
    obtain ⟨k1, k2, k3, k4, k5, k6, k7⟩ := id kY
    have post : ∀ (w64 : Int64) (w : Int32) (D' : St) (X' : St × St), w64 = w.toInt64 → rM B (K.2.2.1, D') X' → kX Y X' → sR X'.1 1 = sR Y.1 1 → cO B p K X (some (w64, (pR K.1 0 f, (K.2.1, (K.2.2.1, D'))))) (some (w, X')) := fun w64 w D' X' ew r kk es => by
      obtain ⟨j1, j2, j3, j4, j5, j6, j7⟩ := kX_t kY kk
      exact ⟨w64, w, pR K.1 0 f, (K.2.2.1, D'), X', rfl, rfl, r, fun _ => rfl, Or.inl ⟨j4.trans h4, ew⟩, ⟨j1, j2, j3, j5, j6⟩, Or.inl ⟨h6, j7.trans h7⟩, fun _ => by rw [es]; exact y5, fun z => absurd ((j4.trans h4).symm.trans z) (by decide)⟩
    have same : ∀ w : Int32, cO B p K X (some (w.toInt64, (pR K.1 0 f, K.2))) (some (w, Y)) := fun w => post _ w K.2.2.2 Y rfl hY (kX_r Y) rfl
    have full : cO B p K X (some (-4, (pR K.1 0 f, K.2))) (some (-nI 4, Y)) := post _ (-nI 4) K.2.2.2 Y (by decide) hY (kX_r Y) rfl
    by_cases w0 : w = nI 0
    · subst w0
      -- what both look for
      have fl := nk_freeLink n hn (D := K.2.2.2) (X := Y) hY.2.1.1 h2 (show 0 ≤ 16 by omega)
      have fl : df_X10_freeLink n (nI p) (nI 0) K.2.2.2 = some (cv (fN (fd Y p) 0 16), K.2.2.2) := fl
      have fr := nk_freeDescriptor n hn h2 y3
      obtain ⟨x, hx, ox, ox0⟩ := nk_openingsFree n hn (D := K.2.2.2) hY.2.1
      have f48 := nk_free48 n hn (X := Y)
      obtain ⟨fC, fR⟩ := nk_freeFile n hn (D := K.2.2.2) hY.2.1
      have ffl := fN_le (fun k => decide (sR Y.1 24 k = nI 0)) 16 0
      have ff3 : ff Y < 16 → sR Y.1 24 (ff Y) = nI 0 := fun z => of_decide_eq_true (ffl.2.2.1 z)
      have ff2 : ff Y ≤ 16 := ffl.2.1
      clear ffl
      have fin := fun (M : St × St) (X0 : St × St) (t : Nat) => op_fin n hn (B := B) (p := p) (K1 := pR K.1 0 f) (K2 := K.2.1) (M := M) (X := X0) (t := t) (d := fN (fd Y p) 0 16) (H := H)
      obtain ⟨_, _, _, b16, _⟩ := ob_le ⟨H, hH⟩
      have b16 : nI H &&& nI 16 ≤ nI 0 ↔ nI H &&& nI 16 = nI 0 := b16
      have edd : fN (fd Y p) 0 16 = fN (fd Y p) 0 16 := rfl
      generalize hdd : fN (fd Y p) 0 16 = d at fl fr fin
      have z0 : ¬ (nI 0 : Int32) ≤ -nI 1 := by decide
      have x31 : x < 2 ^ 31 := by omega
      by_cases k16 : k < 16
      · -- the file is there
        rw [cv_0 k16] at q1 q2
        have u0 : 0 ≤ k := by omega
        have u1 : k < 2 ^ 31 := by omega
        have u2 : ¬ k < 0 := by omega
        have isf := rD_n1 hY.2.1 k16 (x3 k16)
        have c1 : df_X5_open_71 n (nI p) a (nI H) K = df_X5_open_121 n (nI p) (nI H) (nI k) (pR K.1 0 f, K.2) := by
          clear fin
          generalize nI H = v
          simp (disch := (first | assumption | decide | omega)) only [df_X5_open_71, e1, q1, u0, eq_self, Nat.reduceEqDiff, Nat.reduceLeDiff, nl_0, nl_2, nl_8, no_1, no_1024, pk_mul, nI_add, nm_ck, nI_clamp, nI_ltI, nI_leI, nI_eq, nb_b2, nb_b1, ↓nb_let, nm_z0, nm_z1, nb_II, nb_IR, nb_RI, nb_RR, nm_IL, nm_IQ, nm_RL, nm_RQ, nm_LI, nm_LR, nm_LL, nm_LQ, nm_QI, nm_QR, nm_QL, nm_QQ, nm_rr, nm_ii, nm_eqm, not_false_eq_true, pk_sub, nm_div, nm_shl, nm_shr, nm_ush, nm_or8, nm_or64, nm_or256, nm_m1, nm_m3, nm_m7, nm_m15, nm_m31, nm_m63, nm_m255, nm_m511, nm_m1023, nm_m2047, nm_m65535, Nat.reduceMod, Nat.reducePow, Nat.reduceAdd, Nat.reduceSub, Nat.reduceMul, nm_bo, nm_bi, nm_rc, nm_ic, nm_ri, nm_rl, nm_rq, nm_ql, nm_qi, nm_li, nm_us, nm_uu, nm_cp, nm_sa31, nm_sa7, nm_m127, nm_m2, nm_nz, nm_nzk, nm_eq32, nm_nzf, if_true, if_false, ↓reduceIte, if_pos, if_neg]
        have c2 : df_X16_open_60 n a (nI H) (nI 1) X = df_X16_open_105 n (nI H) (nI k) Y := by
          clear fin
          generalize nI H = v
          simp (disch := (first | assumption | decide | omega)) only [df_X16_open_60, e2, q2, eq_self, Nat.reduceEqDiff, Nat.reduceLeDiff, nl_0, nl_1, nl_2, nl_8, nl_22, no_1, no_1024, pk_mul, nI_add, nm_ck, nI_clamp, nI_ltI, nI_leI, nI_eq, nb_b2, nb_b1, ↓nb_let, nm_z0, nm_z1, nb_II, nb_IR, nb_RI, nb_RR, nm_IL, nm_IQ, nm_RL, nm_RQ, nm_LI, nm_LR, nm_LL, nm_LQ, nm_QI, nm_QR, nm_QL, nm_QQ, nm_rr, nm_ii, nm_eqm, not_false_eq_true, pk_sub, nm_div, nm_shl, nm_shr, nm_ush, nm_or8, nm_or64, nm_or256, nm_m1, nm_m3, nm_m7, nm_m15, nm_m31, nm_m63, nm_m255, nm_m511, nm_m1023, nm_m2047, nm_m65535, Nat.reduceMod, Nat.reducePow, Nat.reduceAdd, Nat.reduceSub, Nat.reduceMul, nm_bo, nm_bi, nm_rc, nm_ic, nm_ri, nm_rl, nm_rq, nm_ql, nm_qi, nm_li, nm_us, nm_uu, nm_cp, nm_sa31, nm_sa7, nm_m127, nm_m2, nm_nz, nm_nzk, nm_eq32, nm_nzf, if_true, if_false, ↓reduceIte, if_pos, if_neg]
        rw [c1, c2]
        by_cases p16 : nI H &&& nI 16 = nI 0
        · have p16' := b16.mpr p16
          have c3 : df_X5_open_121 n (nI p) (nI H) (nI k) (pR K.1 0 f, K.2) = df_X5_open_174 n (nI p) (nI H) (nI k) (cv d) (nI 0) (pR K.1 0 f, K.2) := by
            clear fin
            generalize nI H = v at p16
            generalize cv d = cd at fl
            simp (disch := (first | assumption | decide | omega)) only [df_X5_open_121, df_X5_open_137, df_X5_open_158, u2, p16, fl, u0, eq_self, Nat.reduceEqDiff, Nat.reduceLeDiff, nl_0, nl_1, nl_3, nl_16, no_1, no_1024, pk_mul, nI_add, nm_ck, nI_clamp, nI_ltI, nI_leI, nI_eq, nb_b2, nb_b1, ↓nb_let, nm_z0, nm_z1, nb_II, nb_IR, nb_RI, nb_RR, nm_IL, nm_IQ, nm_RL, nm_RQ, nm_LI, nm_LR, nm_LL, nm_LQ, nm_QI, nm_QR, nm_QL, nm_QQ, nm_rr, nm_ii, nm_eqm, not_false_eq_true, pk_sub, nm_div, nm_shl, nm_shr, nm_ush, nm_or8, nm_or64, nm_or256, nm_m1, nm_m3, nm_m7, nm_m15, nm_m31, nm_m63, nm_m255, nm_m511, nm_m1023, nm_m2047, nm_m65535, Nat.reduceMod, Nat.reducePow, Nat.reduceAdd, Nat.reduceSub, Nat.reduceMul, nm_bo, nm_bi, nm_rc, nm_ic, nm_ri, nm_rl, nm_rq, nm_ql, nm_qi, nm_li, nm_us, nm_uu, nm_cp, nm_sa31, nm_sa7, nm_m127, nm_m2, nm_nz, nm_nzk, nm_eq32, nm_nzf, if_true, if_false, ↓reduceIte, if_pos, if_neg]
          have c4 : df_X16_open_105 n (nI H) (nI k) Y = df_X16_open_147 n (nI H) (nI k) (nI (ff Y)) Y := by
            clear fin
            rw [← fR]
            generalize nI H = v at p16'
            simp (disch := (first | assumption | decide | omega)) only [df_X16_open_105, df_X16_open_121, p16', eq_self, Nat.reduceEqDiff, Nat.reduceLeDiff, nl_0, nl_1, nl_3, nl_16, no_1, no_1024, pk_mul, nI_add, nm_ck, nI_clamp, nI_ltI, nI_leI, nI_eq, nb_b2, nb_b1, ↓nb_let, nm_z0, nm_z1, nb_II, nb_IR, nb_RI, nb_RR, nm_IL, nm_IQ, nm_RL, nm_RQ, nm_LI, nm_LR, nm_LL, nm_LQ, nm_QI, nm_QR, nm_QL, nm_QQ, nm_rr, nm_ii, nm_eqm, not_false_eq_true, pk_sub, nm_div, nm_shl, nm_shr, nm_ush, nm_or8, nm_or64, nm_or256, nm_m1, nm_m3, nm_m7, nm_m15, nm_m31, nm_m63, nm_m255, nm_m511, nm_m1023, nm_m2047, nm_m65535, Nat.reduceMod, Nat.reducePow, Nat.reduceAdd, Nat.reduceSub, Nat.reduceMul, nm_bo, nm_bi, nm_rc, nm_ic, nm_ri, nm_rl, nm_rq, nm_ql, nm_qi, nm_li, nm_us, nm_uu, nm_cp, nm_sa31, nm_sa7, nm_m127, nm_m2, nm_nz, nm_nzk, nm_eq32, nm_nzf, if_true, if_false, ↓reduceIte, if_pos, if_neg]
          rw [c3, c4]
          by_cases d16 : d < 16
          · rw [cv_0 d16] at fr ⊢
            have v1 : ¬ d < 0 := by omega
            have v2 : d < 2 ^ 31 := by omega
            by_cases o48 : fo Y < 48
            · rw [if_pos o48] at f48
              have x0 : ¬ x = 0 := fun z => (ox0.mp z) o48
              have c5 : df_X5_open_174 n (nI p) (nI H) (nI k) (nI d) (nI 0) (pR K.1 0 f, K.2) = df_X5_open_216 n (nI p) (nI H) (nI k) (nI d) (nI 0) (pR K.1 0 f, K.2) := by
                clear fin
                generalize nI H = v
                simp (disch := (first | assumption | decide | omega)) only [df_X5_open_174, v1, u2, ox, x0, eq_self, Nat.reduceEqDiff, Nat.reduceLeDiff, nl_0, no_1, no_1024, pk_mul, nI_add, nm_ck, nI_clamp, nI_ltI, nI_leI, nI_eq, nb_b2, nb_b1, ↓nb_let, nm_z0, nm_z1, nb_II, nb_IR, nb_RI, nb_RR, nm_IL, nm_IQ, nm_RL, nm_RQ, nm_LI, nm_LR, nm_LL, nm_LQ, nm_QI, nm_QR, nm_QL, nm_QQ, nm_rr, nm_ii, nm_eqm, not_false_eq_true, pk_sub, nm_div, nm_shl, nm_shr, nm_ush, nm_or8, nm_or64, nm_or256, nm_m1, nm_m3, nm_m7, nm_m15, nm_m31, nm_m63, nm_m255, nm_m511, nm_m1023, nm_m2047, nm_m65535, Nat.reduceMod, Nat.reducePow, Nat.reduceAdd, Nat.reduceSub, Nat.reduceMul, nm_bo, nm_bi, nm_rc, nm_ic, nm_ri, nm_rl, nm_rq, nm_ql, nm_qi, nm_li, nm_us, nm_uu, nm_cp, nm_sa31, nm_sa7, nm_m127, nm_m2, nm_nz, nm_nzk, nm_eq32, nm_nzf, if_true, if_false, ↓reduceIte, if_pos, if_neg]
              have v3 : fo Y < 2 ^ 31 := by omega
              have c6 : df_X16_open_147 n (nI H) (nI k) (nI (ff Y)) Y = df_X16_open_211 n (nI H) (nI k) Y := by
                clear fin
                generalize nI H = v
                generalize nI (ff Y) = fy
                generalize fo Y = oy at f48 v3
                simp (disch := (first | assumption | decide | omega)) only [df_X16_open_147, df_X16_open_179, fr, f48, eq_self, Nat.reduceEqDiff, Nat.reduceLeDiff, nl_0, nl_1, nl_16, nl_24, nl_28, no_1, no_1024, pk_mul, nI_add, nm_ck, nI_clamp, nI_ltI, nI_leI, nI_eq, nb_b2, nb_b1, ↓nb_let, nm_z0, nm_z1, nb_II, nb_IR, nb_RI, nb_RR, nm_IL, nm_IQ, nm_RL, nm_RQ, nm_LI, nm_LR, nm_LL, nm_LQ, nm_QI, nm_QR, nm_QL, nm_QQ, nm_rr, nm_ii, nm_eqm, not_false_eq_true, pk_sub, nm_div, nm_shl, nm_shr, nm_ush, nm_or8, nm_or64, nm_or256, nm_m1, nm_m3, nm_m7, nm_m15, nm_m31, nm_m63, nm_m255, nm_m511, nm_m1023, nm_m2047, nm_m65535, Nat.reduceMod, Nat.reducePow, Nat.reduceAdd, Nat.reduceSub, Nat.reduceMul, nm_bo, nm_bi, nm_rc, nm_ic, nm_ri, nm_rl, nm_rq, nm_ql, nm_qi, nm_li, nm_us, nm_uu, nm_cp, nm_sa31, nm_sa7, nm_m127, nm_m2, nm_nz, nm_nzk, nm_eq32, nm_nzf, if_true, if_false, ↓reduceIte, if_pos, if_neg]
              rw [c5, c6, c216 n k16, r211 n k16 hH]
              by_cases p32 : nI H &&& nI 32 = nI 0
              · rw [if_pos ⟨rfl, p32⟩, if_pos p32]
                obtain ⟨D', X', r1, r2, r3, r4, r5⟩ := fin K.2.2 Y k hY h2 y3 y5 k16 hH isf d16 hdd o48
                have r1 : df_X5_open_237 n (nI p) (nI H) (nI k) (nI d) (pR K.1 0 f, K.2) = _ := r1
                rw [r1, r2]
                exact post _ _ D' X' rfl r3 r4 r5
              · rw [if_neg (fun z => p32 z.2), if_neg p32]
                obtain ⟨D', X', r1, r2, r3, r4, r5⟩ := fin _ _ k (rM_empty hY k16) h2 y3 y5 k16 hH isf d16 hdd o48
                rw [r1, r2]
                exact post _ _ D' X' rfl r3 r4 r5
            · rw [if_neg o48] at f48
              have x0 : x = 0 := ox0.mpr o48
              subst x0
              have c5 : df_X5_open_174 n (nI p) (nI H) (nI k) (nI d) (nI 0) (pR K.1 0 f, K.2) = some (-4, (pR K.1 0 f, K.2)) := by
                clear fin
                generalize nI H = v
                simp (disch := (first | assumption | decide | omega)) only [df_X5_open_174, df_X5_open_194, v1, u2, ox, eq_self, Nat.reduceEqDiff, Nat.reduceLeDiff, nl_0, nl_4, no_1, no_1024, pk_mul, nI_add, nm_ck, nI_clamp, nI_ltI, nI_leI, nI_eq, nb_b2, nb_b1, ↓nb_let, nm_z0, nm_z1, nb_II, nb_IR, nb_RI, nb_RR, nm_IL, nm_IQ, nm_RL, nm_RQ, nm_LI, nm_LR, nm_LL, nm_LQ, nm_QI, nm_QR, nm_QL, nm_QQ, nm_rr, nm_ii, nm_eqm, not_false_eq_true, pk_sub, nm_div, nm_shl, nm_shr, nm_ush, nm_or8, nm_or64, nm_or256, nm_m1, nm_m3, nm_m7, nm_m15, nm_m31, nm_m63, nm_m255, nm_m511, nm_m1023, nm_m2047, nm_m65535, Nat.reduceMod, Nat.reducePow, Nat.reduceAdd, Nat.reduceSub, Nat.reduceMul, nm_bo, nm_bi, nm_rc, nm_ic, nm_ri, nm_rl, nm_rq, nm_ql, nm_qi, nm_li, nm_us, nm_uu, nm_cp, nm_sa31, nm_sa7, nm_m127, nm_m2, nm_nz, nm_nzk, nm_eq32, nm_nzf, if_true, if_false, ↓reduceIte, if_pos, if_neg]
              have c6 : df_X16_open_147 n (nI H) (nI k) (nI (ff Y)) Y = some (-nI 4, Y) := by
                clear fin
                generalize nI H = v
                generalize nI (ff Y) = fy
                simp (disch := (first | assumption | decide | omega)) only [df_X16_open_147, df_X16_open_176, fr, f48, eq_self, Nat.reduceEqDiff, Nat.reduceLeDiff, nl_1, nl_4, nl_16, no_1, no_1024, pk_mul, nI_add, nm_ck, nI_clamp, nI_ltI, nI_leI, nI_eq, nb_b2, nb_b1, ↓nb_let, nm_z0, nm_z1, nb_II, nb_IR, nb_RI, nb_RR, nm_IL, nm_IQ, nm_RL, nm_RQ, nm_LI, nm_LR, nm_LL, nm_LQ, nm_QI, nm_QR, nm_QL, nm_QQ, nm_rr, nm_ii, nm_eqm, not_false_eq_true, pk_sub, nm_div, nm_shl, nm_shr, nm_ush, nm_or8, nm_or64, nm_or256, nm_m1, nm_m3, nm_m7, nm_m15, nm_m31, nm_m63, nm_m255, nm_m511, nm_m1023, nm_m2047, nm_m65535, Nat.reduceMod, Nat.reducePow, Nat.reduceAdd, Nat.reduceSub, Nat.reduceMul, nm_bo, nm_bi, nm_rc, nm_ic, nm_ri, nm_rl, nm_rq, nm_ql, nm_qi, nm_li, nm_us, nm_uu, nm_cp, nm_sa31, nm_sa7, nm_m127, nm_m2, nm_nz, nm_nzk, nm_eq32, nm_nzf, if_true, if_false, ↓reduceIte, if_pos, if_neg]
              rw [c5, c6]
              exact full
          · rw [cv_1 d16] at fr ⊢
            have c5 : df_X5_open_174 n (nI p) (nI H) (nI k) (-nI 1) (nI 0) (pR K.1 0 f, K.2) = some (-4, (pR K.1 0 f, K.2)) := by
              clear fin
              generalize nI H = v
              simp (disch := (first | assumption | decide | omega)) only [df_X5_open_174, df_X5_open_194, nm_ltm, eq_self, Nat.reduceEqDiff, Nat.reduceLeDiff, nl_0, nl_4, no_1, no_1024, pk_mul, nI_add, nm_ck, nI_clamp, nI_ltI, nI_leI, nI_eq, nb_b2, nb_b1, ↓nb_let, nm_z0, nm_z1, nb_II, nb_IR, nb_RI, nb_RR, nm_IL, nm_IQ, nm_RL, nm_RQ, nm_LI, nm_LR, nm_LL, nm_LQ, nm_QI, nm_QR, nm_QL, nm_QQ, nm_rr, nm_ii, nm_eqm, not_false_eq_true, pk_sub, nm_div, nm_shl, nm_shr, nm_ush, nm_or8, nm_or64, nm_or256, nm_m1, nm_m3, nm_m7, nm_m15, nm_m31, nm_m63, nm_m255, nm_m511, nm_m1023, nm_m2047, nm_m65535, Nat.reduceMod, Nat.reducePow, Nat.reduceAdd, Nat.reduceSub, Nat.reduceMul, nm_bo, nm_bi, nm_rc, nm_ic, nm_ri, nm_rl, nm_rq, nm_ql, nm_qi, nm_li, nm_us, nm_uu, nm_cp, nm_sa31, nm_sa7, nm_m127, nm_m2, nm_nz, nm_nzk, nm_eq32, nm_nzf, if_true, if_false, ↓reduceIte, if_pos, if_neg]
            have c6 : df_X16_open_147 n (nI H) (nI k) (nI (ff Y)) Y = some (-nI 4, Y) := by
              clear fin
              generalize nI H = v
              generalize nI (ff Y) = fy
              simp (disch := (first | assumption | decide | omega)) only [df_X16_open_147, df_X16_open_176, fr, eq_self, Nat.reduceEqDiff, Nat.reduceLeDiff, nl_1, nl_4, nl_16, no_1, no_1024, pk_mul, nI_add, nm_ck, nI_clamp, nI_ltI, nI_leI, nI_eq, nb_b2, nb_b1, ↓nb_let, nm_z0, nm_z1, nb_II, nb_IR, nb_RI, nb_RR, nm_IL, nm_IQ, nm_RL, nm_RQ, nm_LI, nm_LR, nm_LL, nm_LQ, nm_QI, nm_QR, nm_QL, nm_QQ, nm_rr, nm_ii, nm_eqm, not_false_eq_true, pk_sub, nm_div, nm_shl, nm_shr, nm_ush, nm_or8, nm_or64, nm_or256, nm_m1, nm_m3, nm_m7, nm_m15, nm_m31, nm_m63, nm_m255, nm_m511, nm_m1023, nm_m2047, nm_m65535, Nat.reduceMod, Nat.reducePow, Nat.reduceAdd, Nat.reduceSub, Nat.reduceMul, nm_bo, nm_bi, nm_rc, nm_ic, nm_ri, nm_rl, nm_rq, nm_ql, nm_qi, nm_li, nm_us, nm_uu, nm_cp, nm_sa31, nm_sa7, nm_m127, nm_m2, nm_nz, nm_nzk, nm_eq32, nm_nzf, if_true, if_false, ↓reduceIte, if_pos, if_neg]
            rw [c5, c6]
            exact full
        · have p16' : ¬ nI H &&& nI 16 ≤ nI 0 := fun z => p16 (b16.mp z)
          have c3 : df_X5_open_121 n (nI p) (nI H) (nI k) (pR K.1 0 f, K.2) = some (-3, (pR K.1 0 f, K.2)) := by
            clear fin
            generalize nI H = v at p16
            simp (disch := (first | assumption | decide | omega)) only [df_X5_open_121, u2, p16, eq_self, Nat.reduceEqDiff, Nat.reduceLeDiff, nl_0, nl_3, nl_16, no_1, no_1024, pk_mul, nI_add, nm_ck, nI_clamp, nI_ltI, nI_leI, nI_eq, nb_b2, nb_b1, ↓nb_let, nm_z0, nm_z1, nb_II, nb_IR, nb_RI, nb_RR, nm_IL, nm_IQ, nm_RL, nm_RQ, nm_LI, nm_LR, nm_LL, nm_LQ, nm_QI, nm_QR, nm_QL, nm_QQ, nm_rr, nm_ii, nm_eqm, not_false_eq_true, pk_sub, nm_div, nm_shl, nm_shr, nm_ush, nm_or8, nm_or64, nm_or256, nm_m1, nm_m3, nm_m7, nm_m15, nm_m31, nm_m63, nm_m255, nm_m511, nm_m1023, nm_m2047, nm_m65535, Nat.reduceMod, Nat.reducePow, Nat.reduceAdd, Nat.reduceSub, Nat.reduceMul, nm_bo, nm_bi, nm_rc, nm_ic, nm_ri, nm_rl, nm_rq, nm_ql, nm_qi, nm_li, nm_us, nm_uu, nm_cp, nm_sa31, nm_sa7, nm_m127, nm_m2, nm_nz, nm_nzk, nm_eq32, nm_nzf, if_true, if_false, ↓reduceIte, if_pos, if_neg]
          have c4 : df_X16_open_105 n (nI H) (nI k) Y = some (-nI 3, Y) := by
            clear fin
            generalize nI H = v at p16'
            simp (disch := (first | assumption | decide | omega)) only [df_X16_open_105, p16', eq_self, Nat.reduceEqDiff, Nat.reduceLeDiff, nl_0, nl_1, nl_3, nl_16, no_1, no_1024, pk_mul, nI_add, nm_ck, nI_clamp, nI_ltI, nI_leI, nI_eq, nb_b2, nb_b1, ↓nb_let, nm_z0, nm_z1, nb_II, nb_IR, nb_RI, nb_RR, nm_IL, nm_IQ, nm_RL, nm_RQ, nm_LI, nm_LR, nm_LL, nm_LQ, nm_QI, nm_QR, nm_QL, nm_QQ, nm_rr, nm_ii, nm_eqm, not_false_eq_true, pk_sub, nm_div, nm_shl, nm_shr, nm_ush, nm_or8, nm_or64, nm_or256, nm_m1, nm_m3, nm_m7, nm_m15, nm_m31, nm_m63, nm_m255, nm_m511, nm_m1023, nm_m2047, nm_m65535, Nat.reduceMod, Nat.reducePow, Nat.reduceAdd, Nat.reduceSub, Nat.reduceMul, nm_bo, nm_bi, nm_rc, nm_ic, nm_ri, nm_rl, nm_rq, nm_ql, nm_qi, nm_li, nm_us, nm_uu, nm_cp, nm_sa31, nm_sa7, nm_m127, nm_m2, nm_nz, nm_nzk, nm_eq32, nm_nzf, if_true, if_false, ↓reduceIte, if_pos, if_neg]
          rw [c3, c4, show (-3 : Int64) = (-nI 3).toInt64 by decide]
          exact same (-nI 3)
      · -- there is none
        rw [cv_1 k16] at q1 q2
        by_cases p8 : nI H &&& nI 8 = nI 0
        · have c1 : df_X5_open_71 n (nI p) a (nI H) K = some (-2, (pR K.1 0 f, K.2)) := by
            clear fin
            generalize nI H = v at p8
            simp (disch := (first | assumption | decide | omega)) only [df_X5_open_71, e1, q1, z0, p8, eq_self, Nat.reduceEqDiff, Nat.reduceLeDiff, nl_0, nl_2, nl_8, no_1, no_1024, pk_mul, nI_add, nm_ck, nI_clamp, nI_ltI, nI_leI, nI_eq, nb_b2, nb_b1, ↓nb_let, nm_z0, nm_z1, nb_II, nb_IR, nb_RI, nb_RR, nm_IL, nm_IQ, nm_RL, nm_RQ, nm_LI, nm_LR, nm_LL, nm_LQ, nm_QI, nm_QR, nm_QL, nm_QQ, nm_rr, nm_ii, nm_eqm, not_false_eq_true, pk_sub, nm_div, nm_shl, nm_shr, nm_ush, nm_or8, nm_or64, nm_or256, nm_m1, nm_m3, nm_m7, nm_m15, nm_m31, nm_m63, nm_m255, nm_m511, nm_m1023, nm_m2047, nm_m65535, Nat.reduceMod, Nat.reducePow, Nat.reduceAdd, Nat.reduceSub, Nat.reduceMul, nm_bo, nm_bi, nm_rc, nm_ic, nm_ri, nm_rl, nm_rq, nm_ql, nm_qi, nm_li, nm_us, nm_uu, nm_cp, nm_sa31, nm_sa7, nm_m127, nm_m2, nm_nz, nm_nzk, nm_eq32, nm_nzf, if_true, if_false, ↓reduceIte, if_pos, if_neg]
          have c2 : df_X16_open_60 n a (nI H) (nI 1) X = some (-nI 2, Y) := by
            clear fin
            generalize nI H = v at p8
            simp (disch := (first | assumption | decide | omega)) only [df_X16_open_60, e2, q2, p8, eq_self, Nat.reduceEqDiff, Nat.reduceLeDiff, nl_0, nl_1, nl_2, nl_8, nl_22, no_1, no_1024, pk_mul, nI_add, nm_ck, nI_clamp, nI_ltI, nI_leI, nI_eq, nb_b2, nb_b1, ↓nb_let, nm_z0, nm_z1, nb_II, nb_IR, nb_RI, nb_RR, nm_IL, nm_IQ, nm_RL, nm_RQ, nm_LI, nm_LR, nm_LL, nm_LQ, nm_QI, nm_QR, nm_QL, nm_QQ, nm_rr, nm_ii, nm_eqm, not_false_eq_true, pk_sub, nm_div, nm_shl, nm_shr, nm_ush, nm_or8, nm_or64, nm_or256, nm_m1, nm_m3, nm_m7, nm_m15, nm_m31, nm_m63, nm_m255, nm_m511, nm_m1023, nm_m2047, nm_m65535, Nat.reduceMod, Nat.reducePow, Nat.reduceAdd, Nat.reduceSub, Nat.reduceMul, nm_bo, nm_bi, nm_rc, nm_ic, nm_ri, nm_rl, nm_rq, nm_ql, nm_qi, nm_li, nm_us, nm_uu, nm_cp, nm_sa31, nm_sa7, nm_m127, nm_m2, nm_nz, nm_nzk, nm_eq32, nm_nzf, if_true, if_false, ↓reduceIte, if_pos, if_neg]
          rw [c1, c2, show (-2 : Int64) = (-nI 2).toInt64 by decide]
          exact same (-nI 2)
        · have c1 : df_X5_open_71 n (nI p) a (nI H) K = df_X5_open_174 n (nI p) (nI H) (cv (ff Y)) (cv d) (nI 1) (pR K.1 0 f, K.2) := by
            clear fin
            generalize nI H = v at p8
            generalize cv d = cd at fl
            generalize cv (ff Y) = cf at fC
            simp (disch := (first | assumption | decide | omega)) only [df_X5_open_71, df_X5_open_121, df_X5_open_137, df_X5_open_158, e1, q1, z0, p8, nm_ltm, fl, fC, eq_self, Nat.reduceEqDiff, Nat.reduceLeDiff, nl_0, nl_1, nl_2, nl_3, nl_8, nl_16, no_1, no_1024, pk_mul, nI_add, nm_ck, nI_clamp, nI_ltI, nI_leI, nI_eq, nb_b2, nb_b1, ↓nb_let, nm_z0, nm_z1, nb_II, nb_IR, nb_RI, nb_RR, nm_IL, nm_IQ, nm_RL, nm_RQ, nm_LI, nm_LR, nm_LL, nm_LQ, nm_QI, nm_QR, nm_QL, nm_QQ, nm_rr, nm_ii, nm_eqm, not_false_eq_true, pk_sub, nm_div, nm_shl, nm_shr, nm_ush, nm_or8, nm_or64, nm_or256, nm_m1, nm_m3, nm_m7, nm_m15, nm_m31, nm_m63, nm_m255, nm_m511, nm_m1023, nm_m2047, nm_m65535, Nat.reduceMod, Nat.reducePow, Nat.reduceAdd, Nat.reduceSub, Nat.reduceMul, nm_bo, nm_bi, nm_rc, nm_ic, nm_ri, nm_rl, nm_rq, nm_ql, nm_qi, nm_li, nm_us, nm_uu, nm_cp, nm_sa31, nm_sa7, nm_m127, nm_m2, nm_nz, nm_nzk, nm_eq32, nm_nzf, if_true, if_false, ↓reduceIte, if_pos, if_neg]
          have c2 : df_X16_open_60 n a (nI H) (nI 1) X = df_X16_open_147 n (nI H) (-nI 1) (nI (ff Y)) Y := by
            clear fin
            rw [← fR]
            generalize nI H = v at p8
            simp (disch := (first | assumption | decide | omega)) only [df_X16_open_60, df_X16_open_105, df_X16_open_121, e2, q2, p8, eq_self, Nat.reduceEqDiff, Nat.reduceLeDiff, nl_0, nl_1, nl_2, nl_3, nl_8, nl_16, nl_22, no_1, no_1024, pk_mul, nI_add, nm_ck, nI_clamp, nI_ltI, nI_leI, nI_eq, nb_b2, nb_b1, ↓nb_let, nm_z0, nm_z1, nb_II, nb_IR, nb_RI, nb_RR, nm_IL, nm_IQ, nm_RL, nm_RQ, nm_LI, nm_LR, nm_LL, nm_LQ, nm_QI, nm_QR, nm_QL, nm_QQ, nm_rr, nm_ii, nm_eqm, not_false_eq_true, pk_sub, nm_div, nm_shl, nm_shr, nm_ush, nm_or8, nm_or64, nm_or256, nm_m1, nm_m3, nm_m7, nm_m15, nm_m31, nm_m63, nm_m255, nm_m511, nm_m1023, nm_m2047, nm_m65535, Nat.reduceMod, Nat.reducePow, Nat.reduceAdd, Nat.reduceSub, Nat.reduceMul, nm_bo, nm_bi, nm_rc, nm_ic, nm_ri, nm_rl, nm_rq, nm_ql, nm_qi, nm_li, nm_us, nm_uu, nm_cp, nm_sa31, nm_sa7, nm_m127, nm_m2, nm_nz, nm_nzk, nm_eq32, nm_nzf, if_true, if_false, ↓reduceIte, if_pos, if_neg]
          rw [c1, c2]
          have full2 : (¬ d < 16 ∨ ¬ fo Y < 48 ∨ ¬ ff Y < 16) → df_X5_open_174 n (nI p) (nI H) (cv (ff Y)) (cv d) (nI 1) (pR K.1 0 f, K.2) = some (-4, (pR K.1 0 f, K.2)) ∧ df_X16_open_147 n (nI H) (-nI 1) (nI (ff Y)) Y = some (-nI 4, Y) := fun hh => by
            clear fin fR
            generalize nI H = v
            by_cases d16 : d < 16
            · rw [cv_0 d16] at fr ⊢
              have v1 : ¬ d < 0 := by omega
              have v2 : d < 2 ^ 31 := by omega
              by_cases j16 : ff Y < 16
              · have o48 : ¬ fo Y < 48 := by
                  rcases hh with hh | hh | hh
                  · exact absurd d16 hh
                  · exact hh
                  · exact absurd j16 hh
                rw [if_neg o48] at f48
                have x0 : x = 0 := ox0.mpr o48
                subst x0
                rw [cv_0 j16]
                generalize ff Y = j at j16
                have v3 : ¬ j < 0 := by omega
                have v4 : j < 2 ^ 31 := by omega
                exact ⟨by simp (disch := (first | assumption | decide | omega)) only [df_X5_open_174, df_X5_open_194, v1, v3, ox, eq_self, Nat.reduceEqDiff, Nat.reduceLeDiff, nl_0, nl_4, no_1, no_1024, pk_mul, nI_add, nm_ck, nI_clamp, nI_ltI, nI_leI, nI_eq, nb_b2, nb_b1, ↓nb_let, nm_z0, nm_z1, nb_II, nb_IR, nb_RI, nb_RR, nm_IL, nm_IQ, nm_RL, nm_RQ, nm_LI, nm_LR, nm_LL, nm_LQ, nm_QI, nm_QR, nm_QL, nm_QQ, nm_rr, nm_ii, nm_eqm, not_false_eq_true, pk_sub, nm_div, nm_shl, nm_shr, nm_ush, nm_or8, nm_or64, nm_or256, nm_m1, nm_m3, nm_m7, nm_m15, nm_m31, nm_m63, nm_m255, nm_m511, nm_m1023, nm_m2047, nm_m65535, Nat.reduceMod, Nat.reducePow, Nat.reduceAdd, Nat.reduceSub, Nat.reduceMul, nm_bo, nm_bi, nm_rc, nm_ic, nm_ri, nm_rl, nm_rq, nm_ql, nm_qi, nm_li, nm_us, nm_uu, nm_cp, nm_sa31, nm_sa7, nm_m127, nm_m2, nm_nz, nm_nzk, nm_eq32, nm_nzf, if_true, if_false, ↓reduceIte, if_pos, if_neg], by simp (disch := (first | assumption | decide | omega)) only [df_X16_open_147, df_X16_open_176, fr, f48, eq_self, Nat.reduceEqDiff, Nat.reduceLeDiff, nl_1, nl_4, nl_16, no_1, no_1024, pk_mul, nI_add, nm_ck, nI_clamp, nI_ltI, nI_leI, nI_eq, nb_b2, nb_b1, ↓nb_let, nm_z0, nm_z1, nb_II, nb_IR, nb_RI, nb_RR, nm_IL, nm_IQ, nm_RL, nm_RQ, nm_LI, nm_LR, nm_LL, nm_LQ, nm_QI, nm_QR, nm_QL, nm_QQ, nm_rr, nm_ii, nm_eqm, not_false_eq_true, pk_sub, nm_div, nm_shl, nm_shr, nm_ush, nm_or8, nm_or64, nm_or256, nm_m1, nm_m3, nm_m7, nm_m15, nm_m31, nm_m63, nm_m255, nm_m511, nm_m1023, nm_m2047, nm_m65535, Nat.reduceMod, Nat.reducePow, Nat.reduceAdd, Nat.reduceSub, Nat.reduceMul, nm_bo, nm_bi, nm_rc, nm_ic, nm_ri, nm_rl, nm_rq, nm_ql, nm_qi, nm_li, nm_us, nm_uu, nm_cp, nm_sa31, nm_sa7, nm_m127, nm_m2, nm_nz, nm_nzk, nm_eq32, nm_nzf, if_true, if_false, ↓reduceIte, if_pos, if_neg]⟩
              · rw [cv_1 j16]
                have j16e : ff Y = 16 := by omega
                rw [j16e]
                refine ⟨by simp (disch := (first | assumption | decide | omega)) only [df_X5_open_174, df_X5_open_194, v1, nm_ltm, eq_self, Nat.reduceEqDiff, Nat.reduceLeDiff, nl_0, nl_4, no_1, no_1024, pk_mul, nI_add, nm_ck, nI_clamp, nI_ltI, nI_leI, nI_eq, nb_b2, nb_b1, ↓nb_let, nm_z0, nm_z1, nb_II, nb_IR, nb_RI, nb_RR, nm_IL, nm_IQ, nm_RL, nm_RQ, nm_LI, nm_LR, nm_LL, nm_LQ, nm_QI, nm_QR, nm_QL, nm_QQ, nm_rr, nm_ii, nm_eqm, not_false_eq_true, pk_sub, nm_div, nm_shl, nm_shr, nm_ush, nm_or8, nm_or64, nm_or256, nm_m1, nm_m3, nm_m7, nm_m15, nm_m31, nm_m63, nm_m255, nm_m511, nm_m1023, nm_m2047, nm_m65535, Nat.reduceMod, Nat.reducePow, Nat.reduceAdd, Nat.reduceSub, Nat.reduceMul, nm_bo, nm_bi, nm_rc, nm_ic, nm_ri, nm_rl, nm_rq, nm_ql, nm_qi, nm_li, nm_us, nm_uu, nm_cp, nm_sa31, nm_sa7, nm_m127, nm_m2, nm_nz, nm_nzk, nm_eq32, nm_nzf, if_true, if_false, ↓reduceIte, if_pos, if_neg], ?_⟩
                by_cases o48 : fo Y < 48
                · rw [if_pos o48] at f48
                  have v3 : fo Y < 2 ^ 31 := by omega
                  generalize fo Y = oy at f48 v3
                  simp (disch := (first | assumption | decide | omega)) only [df_X16_open_147, df_X16_open_176, fr, f48, eq_self, Nat.reduceEqDiff, Nat.reduceLeDiff, nl_1, nl_4, nl_16, no_1, no_1024, pk_mul, nI_add, nm_ck, nI_clamp, nI_ltI, nI_leI, nI_eq, nb_b2, nb_b1, ↓nb_let, nm_z0, nm_z1, nb_II, nb_IR, nb_RI, nb_RR, nm_IL, nm_IQ, nm_RL, nm_RQ, nm_LI, nm_LR, nm_LL, nm_LQ, nm_QI, nm_QR, nm_QL, nm_QQ, nm_rr, nm_ii, nm_eqm, not_false_eq_true, pk_sub, nm_div, nm_shl, nm_shr, nm_ush, nm_or8, nm_or64, nm_or256, nm_m1, nm_m3, nm_m7, nm_m15, nm_m31, nm_m63, nm_m255, nm_m511, nm_m1023, nm_m2047, nm_m65535, Nat.reduceMod, Nat.reducePow, Nat.reduceAdd, Nat.reduceSub, Nat.reduceMul, nm_bo, nm_bi, nm_rc, nm_ic, nm_ri, nm_rl, nm_rq, nm_ql, nm_qi, nm_li, nm_us, nm_uu, nm_cp, nm_sa31, nm_sa7, nm_m127, nm_m2, nm_nz, nm_nzk, nm_eq32, nm_nzf, if_true, if_false, ↓reduceIte, if_pos, if_neg]
                · rw [if_neg o48] at f48
                  simp (disch := (first | assumption | decide | omega)) only [df_X16_open_147, df_X16_open_176, fr, f48, eq_self, Nat.reduceEqDiff, Nat.reduceLeDiff, nl_1, nl_4, nl_16, no_1, no_1024, pk_mul, nI_add, nm_ck, nI_clamp, nI_ltI, nI_leI, nI_eq, nb_b2, nb_b1, ↓nb_let, nm_z0, nm_z1, nb_II, nb_IR, nb_RI, nb_RR, nm_IL, nm_IQ, nm_RL, nm_RQ, nm_LI, nm_LR, nm_LL, nm_LQ, nm_QI, nm_QR, nm_QL, nm_QQ, nm_rr, nm_ii, nm_eqm, not_false_eq_true, pk_sub, nm_div, nm_shl, nm_shr, nm_ush, nm_or8, nm_or64, nm_or256, nm_m1, nm_m3, nm_m7, nm_m15, nm_m31, nm_m63, nm_m255, nm_m511, nm_m1023, nm_m2047, nm_m65535, Nat.reduceMod, Nat.reducePow, Nat.reduceAdd, Nat.reduceSub, Nat.reduceMul, nm_bo, nm_bi, nm_rc, nm_ic, nm_ri, nm_rl, nm_rq, nm_ql, nm_qi, nm_li, nm_us, nm_uu, nm_cp, nm_sa31, nm_sa7, nm_m127, nm_m2, nm_nz, nm_nzk, nm_eq32, nm_nzf, if_true, if_false, ↓reduceIte, if_pos, if_neg]
            · rw [cv_1 d16] at fr ⊢
              generalize cv (ff Y) = cf
              generalize nI (ff Y) = fy
              exact ⟨by simp (disch := (first | assumption | decide | omega)) only [df_X5_open_174, df_X5_open_194, nm_ltm, eq_self, Nat.reduceEqDiff, Nat.reduceLeDiff, nl_0, nl_4, no_1, no_1024, pk_mul, nI_add, nm_ck, nI_clamp, nI_ltI, nI_leI, nI_eq, nb_b2, nb_b1, ↓nb_let, nm_z0, nm_z1, nb_II, nb_IR, nb_RI, nb_RR, nm_IL, nm_IQ, nm_RL, nm_RQ, nm_LI, nm_LR, nm_LL, nm_LQ, nm_QI, nm_QR, nm_QL, nm_QQ, nm_rr, nm_ii, nm_eqm, not_false_eq_true, pk_sub, nm_div, nm_shl, nm_shr, nm_ush, nm_or8, nm_or64, nm_or256, nm_m1, nm_m3, nm_m7, nm_m15, nm_m31, nm_m63, nm_m255, nm_m511, nm_m1023, nm_m2047, nm_m65535, Nat.reduceMod, Nat.reducePow, Nat.reduceAdd, Nat.reduceSub, Nat.reduceMul, nm_bo, nm_bi, nm_rc, nm_ic, nm_ri, nm_rl, nm_rq, nm_ql, nm_qi, nm_li, nm_us, nm_uu, nm_cp, nm_sa31, nm_sa7, nm_m127, nm_m2, nm_nz, nm_nzk, nm_eq32, nm_nzf, if_true, if_false, ↓reduceIte, if_pos, if_neg], by simp (disch := (first | assumption | decide | omega)) only [df_X16_open_147, df_X16_open_176, fr, eq_self, Nat.reduceEqDiff, Nat.reduceLeDiff, nl_1, nl_4, nl_16, no_1, no_1024, pk_mul, nI_add, nm_ck, nI_clamp, nI_ltI, nI_leI, nI_eq, nb_b2, nb_b1, ↓nb_let, nm_z0, nm_z1, nb_II, nb_IR, nb_RI, nb_RR, nm_IL, nm_IQ, nm_RL, nm_RQ, nm_LI, nm_LR, nm_LL, nm_LQ, nm_QI, nm_QR, nm_QL, nm_QQ, nm_rr, nm_ii, nm_eqm, not_false_eq_true, pk_sub, nm_div, nm_shl, nm_shr, nm_ush, nm_or8, nm_or64, nm_or256, nm_m1, nm_m3, nm_m7, nm_m15, nm_m31, nm_m63, nm_m255, nm_m511, nm_m1023, nm_m2047, nm_m65535, Nat.reduceMod, Nat.reducePow, Nat.reduceAdd, Nat.reduceSub, Nat.reduceMul, nm_bo, nm_bi, nm_rc, nm_ic, nm_ri, nm_rl, nm_rq, nm_ql, nm_qi, nm_li, nm_us, nm_uu, nm_cp, nm_sa31, nm_sa7, nm_m127, nm_m2, nm_nz, nm_nzk, nm_eq32, nm_nzf, if_true, if_false, ↓reduceIte, if_pos, if_neg]⟩
          by_cases d16 : d < 16
          · by_cases o48 : fo Y < 48
            · by_cases j16 : ff Y < 16
              · -- it is made
                have x0 : ¬ x = 0 := fun z => (ox0.mp z) o48
                have fj := ff3 j16
                rw [cv_0 d16] at fr ⊢
                rw [cv_0 j16]
                rw [if_pos o48] at f48
                have gn := nk_give n (E := pR nd_st0 0 f) (D := K.2.2.2) j16 (fun i hi => b8_fit (e3 i hi))
                have gn : df_X10_giveName n (nI (ff Y)) (pR nd_st0 0 f, K.2.2.2) = some (pR nd_st0 0 f, pR (pR K.2.2.2 4 (upd (sR K.2.2.2 4) (ff Y * 3 + 2) (nI 1))) 6 (va_cpy f (sR K.2.2.2 6) 0 (ff Y * 16) 16)) := gn
                have en := nk_entitle n hn (X := (pR (pR Y.1 24 (upd (sR Y.1 24) (ff Y) (nI 1))) 28 (upd (sR Y.1 28) (ff Y) (nI 0)), Y.2)) j16
                have en : df_X16_entitle n (nI (ff Y)) (pR (pR Y.1 24 (upd (sR Y.1 24) (ff Y) (nI 1))) 28 (upd (sR Y.1 28) (ff Y) (nI 0)), Y.2) = some (pR (pR (pR (pR Y.1 24 (upd (sR Y.1 24) (ff Y) (nI 1))) 28 (upd (sR Y.1 28) (ff Y) (nI 0))) 30 (va_cpy (sR Y.1 33) (sR Y.1 30) 0 (16 * ff Y) 16)) 25 (upd (sR Y.1 25) (ff Y) (nI 1)), Y.2) := en
                have nw := rM_new hY j16 fj (f := f) (g := sR Y.1 33) (fun i hi => by rw [y33]; exact e3 i hi)
                clear fR ff2 ff3
                generalize ff Y = j at j16 fj gn en nw
                have v1 : ¬ d < 0 := by omega
                have v2 : d < 2 ^ 31 := by omega
                have v3 : ¬ j < 0 := by omega
                have v4 : j < 2 ^ 31 := by omega
                have v5 : ¬ j = 16 := by omega
                have i0 : pR (pR K.1 0 f) 0 f = pR K.1 0 f := nm_rr _ _ _ _
                have c5 : df_X5_open_174 n (nI p) (nI H) (nI j) (nI d) (nI 1) (pR K.1 0 f, K.2) = df_X5_open_216 n (nI p) (nI H) (nI j) (nI d) (nI 1) (pR K.1 0 f, (K.2.1, (K.2.2.1, pR (pR K.2.2.2 4 (upd (sR K.2.2.2 4) (j * 3 + 2) (nI 1))) 6 (va_cpy f (sR K.2.2.2 6) 0 (j * 16) 16)))) := by
                  clear fin nw en
                  generalize nI H = v
                  simp (disch := (first | assumption | decide | omega)) only [df_X5_open_174, v1, v3, ox, x0, gn, i0, eq_self, Nat.reduceEqDiff, Nat.reduceLeDiff, nl_0, no_1, no_1024, pk_mul, nI_add, nm_ck, nI_clamp, nI_ltI, nI_leI, nI_eq, nb_b2, nb_b1, ↓nb_let, nm_z0, nm_z1, nb_II, nb_IR, nb_RI, nb_RR, nm_IL, nm_IQ, nm_RL, nm_RQ, nm_LI, nm_LR, nm_LL, nm_LQ, nm_QI, nm_QR, nm_QL, nm_QQ, nm_rr, nm_ii, nm_eqm, not_false_eq_true, pk_sub, nm_div, nm_shl, nm_shr, nm_ush, nm_or8, nm_or64, nm_or256, nm_m1, nm_m3, nm_m7, nm_m15, nm_m31, nm_m63, nm_m255, nm_m511, nm_m1023, nm_m2047, nm_m65535, Nat.reduceMod, Nat.reducePow, Nat.reduceAdd, Nat.reduceSub, Nat.reduceMul, nm_bo, nm_bi, nm_rc, nm_ic, nm_ri, nm_rl, nm_rq, nm_ql, nm_qi, nm_li, nm_us, nm_uu, nm_cp, nm_sa31, nm_sa7, nm_m127, nm_m2, nm_nz, nm_nzk, nm_eq32, nm_nzf, if_true, if_false, ↓reduceIte, if_pos, if_neg]
                have v6 : fo Y < 2 ^ 31 := by omega
                have c6 : df_X16_open_147 n (nI H) (-nI 1) (nI j) Y = df_X16_open_211 n (nI H) (nI j) (pR (pR (pR (pR Y.1 24 (upd (sR Y.1 24) j (nI 1))) 28 (upd (sR Y.1 28) j (nI 0))) 30 (va_cpy (sR Y.1 33) (sR Y.1 30) 0 (16 * j) 16)) 25 (upd (sR Y.1 25) j (nI 1)), Y.2) := by
                  clear fin nw gn
                  generalize nI H = v
                  generalize fo Y = oy at f48 v6
                  simp (disch := (first | assumption | decide | omega)) only [df_X16_open_147, df_X16_open_179, fr, f48, v5, en, eq_self, Nat.reduceEqDiff, Nat.reduceLeDiff, nl_0, nl_1, nl_16, nl_24, nl_28, no_1, no_1024, pk_mul, nI_add, nm_ck, nI_clamp, nI_ltI, nI_leI, nI_eq, nb_b2, nb_b1, ↓nb_let, nm_z0, nm_z1, nb_II, nb_IR, nb_RI, nb_RR, nm_IL, nm_IQ, nm_RL, nm_RQ, nm_LI, nm_LR, nm_LL, nm_LQ, nm_QI, nm_QR, nm_QL, nm_QQ, nm_rr, nm_ii, nm_eqm, not_false_eq_true, pk_sub, nm_div, nm_shl, nm_shr, nm_ush, nm_or8, nm_or64, nm_or256, nm_m1, nm_m3, nm_m7, nm_m15, nm_m31, nm_m63, nm_m255, nm_m511, nm_m1023, nm_m2047, nm_m65535, Nat.reduceMod, Nat.reducePow, Nat.reduceAdd, Nat.reduceSub, Nat.reduceMul, nm_bo, nm_bi, nm_rc, nm_ic, nm_ri, nm_rl, nm_rq, nm_ql, nm_qi, nm_li, nm_us, nm_uu, nm_cp, nm_sa31, nm_sa7, nm_m127, nm_m2, nm_nz, nm_nzk, nm_eq32, nm_nzf, if_true, if_false, ↓reduceIte, if_pos, if_neg]
                rw [c5, c6, c216 n j16, if_neg (fun z => absurd z.1 (by decide)), r211 n j16 hH]
                have eD : pR (pR (pR K.2.2.2 4 (upd (sR K.2.2.2 4) (j * 3 + 2) (nI 1))) 6 (va_cpy f (sR K.2.2.2 6) 0 (j * 16) 16)) 4 (upd (upd (sR K.2.2.2 4) (j * 3 + 2) (nI 1)) (j * 3) (nI 0)) = pR (pR K.2.2.2 4 (upd (upd (sR K.2.2.2 4) (j * 3 + 2) (nI 1)) (j * 3) (nI 0))) 6 (va_cpy f (sR K.2.2.2 6) 0 (j * 16) 16) := by
                  rw [nm_rc (a := 6) (b := 4) (by decide), nm_rr]
                show cO B p K X (df_X5_open_237 n (nI p) (nI H) (nI j) (nI d) (pR K.1 0 f, (K.2.1, (K.2.2.1, pR (pR (pR K.2.2.2 4 (upd (sR K.2.2.2 4) (j * 3 + 2) (nI 1))) 6 (va_cpy f (sR K.2.2.2 6) 0 (j * 16) 16)) 4 (upd (upd (sR K.2.2.2 4) (j * 3 + 2) (nI 1)) (j * 3) (nI 0)))))) _
                rw [eD]
                by_cases p32 : nI H &&& nI 32 = nI 0
                · rw [if_pos p32]
                  obtain ⟨D', X', r1, r2, r3, r4, r5⟩ := fin _ _ j nw h2 y3 y5 j16 hH nm_us d16 hdd o48
                  rw [r1, r2]
                  exact post _ _ D' X' rfl r3 r4 r5
                · rw [if_neg p32]
                  have nw2 := rM_empty nw j16
                  have eE : upd (upd (upd (sR K.2.2.2 4) (j * 3 + 2) (nI 1)) (j * 3) (nI 0)) (j * 3) (nI 0) = upd (upd (sR K.2.2.2 4) (j * 3 + 2) (nI 1)) (j * 3) (nI 0) := nm_uu _ _ _ _
                  have eF : pR (pR (pR K.2.2.2 4 (upd (upd (sR K.2.2.2 4) (j * 3 + 2) (nI 1)) (j * 3) (nI 0))) 6 (va_cpy f (sR K.2.2.2 6) 0 (j * 16) 16)) 4 (upd (upd (upd (sR K.2.2.2 4) (j * 3 + 2) (nI 1)) (j * 3) (nI 0)) (j * 3) (nI 0)) = pR (pR K.2.2.2 4 (upd (upd (sR K.2.2.2 4) (j * 3 + 2) (nI 1)) (j * 3) (nI 0))) 6 (va_cpy f (sR K.2.2.2 6) 0 (j * 16) 16) := by
                    rw [eE, nm_rc (a := 6) (b := 4) (by decide), nm_rr]
                  have nw2 : rM B (K.2.2.1, pR (pR (pR K.2.2.2 4 (upd (upd (sR K.2.2.2 4) (j * 3 + 2) (nI 1)) (j * 3) (nI 0))) 6 (va_cpy f (sR K.2.2.2 6) 0 (j * 16) 16)) 4 (upd (upd (upd (sR K.2.2.2 4) (j * 3 + 2) (nI 1)) (j * 3) (nI 0)) (j * 3) (nI 0))) _ := nw2
                  rw [eF] at nw2
                  obtain ⟨D', X', r1, r2, r3, r4, r5⟩ := fin _ _ j nw2 h2 y3 y5 j16 hH nm_us d16 hdd o48
                  rw [r1, r2]
                  exact post _ _ D' X' rfl r3 r4 r5
              · obtain ⟨r1, r2⟩ := full2 (Or.inr (Or.inr j16))
                rw [r1, r2]
                exact full
            · obtain ⟨r1, r2⟩ := full2 (Or.inr (Or.inl o48))
              rw [r1, r2]
              exact full
          · obtain ⟨r1, r2⟩ := full2 (Or.inl d16)
            rw [r1, r2]
            exact full
    · have z1 : ¬ nI 0 ≤ w := by
        rcases e4 with e | e | e
        · exact absurd e w0
        · rw [e]; decide
        · rw [e]; decide
      have c1 : df_X5_open_71 n (nI p) a (nI H) K = some (w.toInt64, (pR K.1 0 f, K.2)) := by
        generalize nI H = v
        simp (disch := (first | assumption | decide | omega)) only [df_X5_open_71, e1, w0, eq_self, Nat.reduceEqDiff, Nat.reduceLeDiff, nl_0, nl_2, nl_8, no_1, no_1024, pk_mul, nI_add, nm_ck, nI_clamp, nI_ltI, nI_leI, nI_eq, nb_b2, nb_b1, ↓nb_let, nm_z0, nm_z1, nb_II, nb_IR, nb_RI, nb_RR, nm_IL, nm_IQ, nm_RL, nm_RQ, nm_LI, nm_LR, nm_LL, nm_LQ, nm_QI, nm_QR, nm_QL, nm_QQ, nm_rr, nm_ii, nm_eqm, not_false_eq_true, pk_sub, nm_div, nm_shl, nm_shr, nm_ush, nm_or8, nm_or64, nm_or256, nm_m1, nm_m3, nm_m7, nm_m15, nm_m31, nm_m63, nm_m255, nm_m511, nm_m1023, nm_m2047, nm_m65535, Nat.reduceMod, Nat.reducePow, Nat.reduceAdd, Nat.reduceSub, Nat.reduceMul, nm_bo, nm_bi, nm_rc, nm_ic, nm_ri, nm_rl, nm_rq, nm_ql, nm_qi, nm_li, nm_us, nm_uu, nm_cp, nm_sa31, nm_sa7, nm_m127, nm_m2, nm_nz, nm_nzk, nm_eq32, nm_nzf, if_true, if_false, ↓reduceIte, if_pos, if_neg]
      have c2 : df_X16_open_60 n a (nI H) (nI 1) X = some (w, Y) := by
        generalize nI H = v
        simp (disch := (first | assumption | decide | omega)) only [df_X16_open_60, e2, z1, eq_self, Nat.reduceEqDiff, Nat.reduceLeDiff, nl_0, nl_1, nl_2, nl_8, nl_22, no_1, no_1024, pk_mul, nI_add, nm_ck, nI_clamp, nI_ltI, nI_leI, nI_eq, nb_b2, nb_b1, ↓nb_let, nm_z0, nm_z1, nb_II, nb_IR, nb_RI, nb_RR, nm_IL, nm_IQ, nm_RL, nm_RQ, nm_LI, nm_LR, nm_LL, nm_LQ, nm_QI, nm_QR, nm_QL, nm_QQ, nm_rr, nm_ii, nm_eqm, not_false_eq_true, pk_sub, nm_div, nm_shl, nm_shr, nm_ush, nm_or8, nm_or64, nm_or256, nm_m1, nm_m3, nm_m7, nm_m15, nm_m31, nm_m63, nm_m255, nm_m511, nm_m1023, nm_m2047, nm_m65535, Nat.reduceMod, Nat.reducePow, Nat.reduceAdd, Nat.reduceSub, Nat.reduceMul, nm_bo, nm_bi, nm_rc, nm_ic, nm_ri, nm_rl, nm_rq, nm_ql, nm_qi, nm_li, nm_us, nm_uu, nm_cp, nm_sa31, nm_sa7, nm_m127, nm_m2, nm_nz, nm_nzk, nm_eq32, nm_nzf, if_true, if_false, ↓reduceIte, if_pos, if_neg]
      rw [c1, c2]
      exact same w
  · rw [(op_C n (nI p) a v K).2 g, (op_R n a v X).2 g]
    exact cO_id h (by decide)
