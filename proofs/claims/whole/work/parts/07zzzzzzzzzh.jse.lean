/-- .text and .data: nothing is added -/
def JT (n L e : Nat) (c : Nat → Nat) (BC B Bq U S : St) (sn lu ln se co : Nat) (od : Int32) (SW LW : Nat → Int32) (cs ns : Nat) (C A NM BK : Nat → Int32) (X : Nat → Nat) (nL cu : Nat) (PA BY OU : Nat → Int32) (q p1 y : Nat) : Prop := ∃ (se' p2 : Nat) (gr' : Bool) (U' S2 : St), se' < 2 ∧ df_X1_readStatement n y (qC Bq sn lu 0 ln se od co SW LW, U) = some (qC Bq sn lu 0 ln se' od co SW LW, U') ∧ UC BC cs ns C A NM BK p2 U' ∧ df_X13_statement n (nI q) 0 S = some S2 ∧ SR (pI (pI B 15 0) 14 (nI se')) 0 gr' PA BY OU 0 p2 S2 ∧ p1 ≤ p2 ∧ p2 ≤ e ∧ q + 3 ≤ e ∧ RFB n L e c BC q se' 0 3 0 none X (sR B 7) nL (9, 0, 0, [], [])
theorem stj_T {n L e : Nat} {c : Nat → Nat} {BC B Bq : St} {sn lu ln se co cs ns : Nat} {od : Int32} {SW LW NM BK : Nat → Int32} {bs ws X : Nat → Nat} {nL cu : Nat} {PA BY OU : Nat → Int32} {q p1 y : Nat} (J : JH n L e c BC B sn lu ln se cs ns NM BK bs ws X nL cu PA BY q p1 y od) (hyy : y = 118 ∨ y = 119) (tp st : Nat) (fx : Bool) (C A Sx : Nat → Int32) {q1 p' κ τ v : Nat} {x : Int32} (T : TS n L e c BC p1 q1 p' κ τ v x) {ct ap : Nat} {gr : Bool} {S : St} (h : SR B ct gr PA BY OU 0 ap S) : JF n e B (qC Bq sn lu 0 ln se od co SW LW) (uC (xC BC cs tp st ns fx C A Sx NM BK) p' κ q1 x) S ln q y ∨ JT n L e c BC B Bq (uC (xC BC cs tp st ns fx C A Sx NM BK) p' κ q1 x) S sn lu ln se co od SW LW cs ns C A NM BK X nL cu PA BY OU q p1 y := by
  obtain ⟨hV, hc, hH, hN, hI, h13, h14, hse, hsn, hcs, hns, hlu, hP, hB, hy, ho, hod, hNA, ⟨κ0, v0, x0, T0⟩, hkw⟩ := id J
  have hT0 := hV.1
  have hq0 : q < p1 := (T0.2.2.2.2.2.1 (fun z => absurd ((ts_0 T0).1.mp z) (by decide))).2
  have hL := hT0.2.1
  have heL := hT0.2.2.1
  have hp1e := (ts_le T0).2.2
  have hY : PY PA cu q := py_J (c := c) hP hse (by omega)
  have z0 : od = 0 := od_0 hod (by rcases hyy with w | w <;> (rw [w]; decide +kernel)) (by rcases hyy with w | w <;> (rw [w]; decide +kernel))
  subst z0
  have hq3 : q + 3 ≤ e := nm_5 hkw hp1e (by rcases hyy with w | w <;> (rw [w]; decide +kernel))
  obtain ⟨S1, r1, r2⟩ := rdr_T hT0 hc h T0 hyy hNA
  have hC : df_X1_readStatement n y (qC Bq sn lu 0 ln se 0 co SW LW, (uC (xC BC cs tp st ns fx C A Sx NM BK) p' κ q1 x)) = df_X1_readStatement_206 n (qC Bq sn lu 0 ln (y - 118) 0 co SW LW, (uC (xC BC cs tp st ns fx C A Sx NM BK) p' κ q1 x)) := by
    rcases hyy with w | w
    · rw [w]; exact d72_t _
    · rw [w]; exact d72_d _
  rcases jfin hT0 hC r1 r2 T with w' | ⟨w1, w2, S2, w3, w4⟩
  · exact Or.inl w'
  right
  have hle := ts_le T
  exact ⟨y - 118, p', gr, _, S2, by omega, w2, ⟨BC, tp, st, fx, Sx, κ, q1, x, Or.inl rfl, rfl⟩, w3, w4, by omega, hle.2.2, hq3, rfb_T hT0 T0 hyy hNA hp1e⟩
/-- .equ: a name gets its value -/
def JE (n L e : Nat) (c : Nat → Nat) (BC B Bq U S : St) (sn lu ln se co : Nat) (od : Int32) (SW LW : Nat → Int32) (cs ns : Nat) (C A NM : Nat → Int32) (bs ws X : Nat → Nat) (nL cu : Nat) (PA BY OU : Nat → Int32) (q p1 y : Nat) : Prop := ∃ (q1 : Nat) (z : Int32) (cs' ns' : Nat) (C' A' NM' BK' : Nat → Int32) (bs' ws' : Nat → Nat) (p2 : Nat) (gr' : Bool) (U' S2 : St), df_X1_readStatement n y (qC Bq sn lu 0 ln se od co SW LW, U) = some (qC Bq sn lu 0 ln se od (co + 1) SW LW, U') ∧ UC BC cs' ns' C' A' NM' BK' p2 U' ∧ df_X13_statement n (nI q) 0 S = some S2 ∧ SR (dfB (pI B 15 0) nL (nI (2 * 131072 + q1)) z) 0 gr' PA BY OU 0 p2 S2 ∧ p1 ≤ q1 ∧ q1 < p2 ∧ p2 ≤ e ∧ q + 3 ≤ e ∧ HT L c ns' NM' BK' bs' ws' ∧ NTB c (nwF X nL (2 * 131072 + q1)) (nL + 1) (upd (sR B 7) nL z) ns' NM' bs' ws' ∧ IDX c (nwF X nL (2 * 131072 + q1)) (nL + 1) ns' bs' ws' ∧ (ns ≤ ns' ∧ ∀ i : Nat, i < ns → bs' i = bs i ∧ ws' i = ws i) ∧ cs ≤ cs' ∧ cs' ≤ p2 + 1 ∧ 2 * ns' ≤ p2 + 1 ∧ (∀ i : Nat, i < cs → C' i = C i ∧ A' i = A i) ∧ RFB n L e c BC q se 0 3 0 none X (sR B 7) nL (9, 0, 0, [], [])
theorem stj_E {n L e : Nat} {c : Nat → Nat} {BC B Bq : St} {sn lu ln se co cs ns : Nat} {od : Int32} {SW LW NM BK : Nat → Int32} {bs ws X : Nat → Nat} {nL cu : Nat} {PA BY OU : Nat → Int32} {q p1 y : Nat} (J : JH n L e c BC B sn lu ln se cs ns NM BK bs ws X nL cu PA BY q p1 y od) (hyy : y = 120) (tp st : Nat) (fx : Bool) (C A Sx : Nat → Int32) {q1 p' κ τ v : Nat} {x : Int32} (T : TS n L e c BC p1 q1 p' κ τ v x) {ct ap : Nat} {gr : Bool} {S : St} (h : SR B ct gr PA BY OU 0 ap S) (hnL : 2 * nL ≤ p1) : JF n e B (qC Bq sn lu 0 ln se od co SW LW) (uC (xC BC cs tp st ns fx C A Sx NM BK) p' κ q1 x) S ln q y ∨ JE n L e c BC B Bq (uC (xC BC cs tp st ns fx C A Sx NM BK) p' κ q1 x) S sn lu ln se co od SW LW cs ns C A NM bs ws X nL cu PA BY OU q p1 y := by
  obtain ⟨hV, hc, hH, hN, hI, h13, h14, hse, hsn, hcs, hns, hlu, hP, hB, hy, ho, hod, hNA, ⟨κ0, v0, x0, T0⟩, hkw⟩ := id J
  have hT0 := hV.1
  have hq0 : q < p1 := (T0.2.2.2.2.2.1 (fun z => absurd ((ts_0 T0).1.mp z) (by decide))).2
  have hL := hT0.2.1
  have heL := hT0.2.2.1
  have hp1e := (ts_le T0).2.2
  have hY : PY PA cu q := py_J (c := c) hP hse (by omega)
  subst hyy
  have hn := hT0.1
  obtain ⟨hn', hL', heL', h127, hend, hce, hO, hst, htC, h0, htR, hch⟩ := id hT0
  have z0 : od = 0 := od_0 hod (by decide +kernel) (by decide +kernel)
  subst z0
  have hq3 : q + 3 ≤ e := nm_5 hkw hp1e (by decide +kernel)
  obtain ⟨S1, e1, e2, e3⟩ := stm_2 hT0 hc h 0 T0 hNA
  have hV' := RV_p15 hV 0
  have hdr : df_X13_statement n (nI q) 0 S = nd_b1 (df_X13_constant n S1) (fun (s : St) => df_X13_statement_326 n s) := by
    rw [e1, dsp_42 e3 (sgm 120) (sgm_l (by omega)) dirA.2.2.1 0]
    unfold df_X13_directive df_X13_directive_0 df_X13_directive_185
    rw [if_pos (by decide), if_pos rfl]
    cases df_X13_constant n S1 <;> rfl
  have fault : ∀ (f : Nat) (U' S9 : St), 1 ≤ f → f ≤ 15 → df_X1_readConstant n (qC Bq sn lu 0 ln se 0 co SW LW, (uC (xC BC cs tp st ns fx C A Sx NM BK) p' κ q1 x)) = some (qC Bq sn lu (nI f) ln se 0 co SW LW, U') → df_X13_constant n S1 = some S9 → FL e (pI B 15 0) (nI f + 16 * sI B 13) S9 → JF n e B (qC Bq sn lu 0 ln se 0 co SW LW) (uC (xC BC cs tp st ns fx C A Sx NM BK) p' κ q1 x) S ln q 120 := fun f U' S9 f1 f2 hcl hrf hfl => by
    have nz : ¬ nI f = 0 := fun w => absurd ((nI_eq (a := f) (b := 0) (by omega) (by omega)).mp w) (by omega)
    have hz := flt_n (B := pI (pI B 15 0) 14 (sI B 14)) hV.2.2.2.2.2.2.2 f ⟨f1, f2⟩
    rw [← p14_s (B := B) (v := 0)] at hfl
    refine ⟨f, qC Bq sn lu (nI f) ln se 0 co SW LW, U', S9, f1, f2, ?_, rfl, rfl, ?_, ⟨_, hfl, rfl, rfl, rfl, rfl⟩⟩
    · rw [drs_e, hcl, nb_b1, end_CF nz]
    · rw [hdr, hrf, nb_b1, end_F hfl hz]
  obtain ⟨kt0, k6, kt1, _⟩ := ts_0 T
  have hle := ts_le T
  by_cases ht : τ = 1
  · have k1 := kt1.mpr ht
    obtain ⟨w1, w2, _, _, _, w31⟩ := ts_w T ht
    have ee := eT_1 c (show q1 ≤ e by omega)
    have hA : ∀ t : Nat, t < p' - q1 → aP (c (q1 + t)) = true := fun t ht => ee.2.2.2 (q1 + t) (by omega) (by omega)
    have hqp : q1 < p' := (T.2.2.2.2.2.1 (by omega)).2
    have hz : aP (c (q1 + (p' - q1))) = false := by
      rw [show q1 + (p' - q1) = p' by omega]
      by_cases w : p' < e
      · rw [w2]; exact ee.2.2.1 (by omega)
      · rw [show p' = e by omega, hce]; decide
    obtain ⟨id, ns1, NM1, BK1, bs1, ws1, n1, n2, n3, n4, n5, n6, n7, n8, n9, n10, n11⟩ := nmd_C (RV_0 hV) (cs := cs) (tp := tp) (st := st) (fx := fx) (C := C) (A := A) (S := Sx) (ap := p') (kd := κ) (fr := q1) (nm := x) hH hN hI (by omega) q1 (p' - q1) (by omega) (by omega) hA
    obtain ⟨S2, f1, f2, f3, f4⟩ := ned_y (B := pI B 15 0) hV.1 e2 T 1 (by omega) (by omega) ht
    have h15 : sI S2 15 = 0 := SR_15 f2
    obtain ⟨g1, g2⟩ := nmd_R (RV_0 hV') f2 q1 (p' - q1) (by omega) hA
    rw [show q1 + (p' - q1) = p' by omega] at g1 g2
    -- the class up to the name
    have hc1 : df_X1_readConstant n (qC Bq sn lu 0 ln se 0 co SW LW, (uC (xC BC cs tp st ns fx C A Sx NM BK) p' κ q1 x)) = (if 0 ≤ rI (reS (p' - q1) (c q1) (c (q1 + 1)) (c (q1 + 2)) (c (q1 + 3))) then df_X1_readConstant_81 n (qC Bq sn lu 0 ln se 0 co SW LW, uC (xC BC cs tp st ns1 fx C A Sx NM1 BK1) p' κ q1 x) else (if bI (decide (nmK c X nL q1 (p' - q1) < nL)) = 0 then (nd_b1 (df_X9_next n (uC (xC BC cs tp st ns1 fx C A Sx NM1 BK1) p' κ q1 x)) (fun (s22 : St) => nd_let (qC Bq sn lu 0 ln se 0 co SW LW, s22) (fun (s24 : St × St) => nd_b1 (df_X1_expect n 44 s24) (fun (s26 : St × St) => if (sI s26.1 2 : Int32) = 0 then (nd_b2 (df_X9_sum n s26.2) (fun (q38 : Int32) (s39 : St) => nd_let (s26.1, s39) (fun (s41 : St × St) => df_X1_readConstant_118 n (nI id) q38 s41))) else (df_X1_readConstant_118 n (nI id) 0 s26))))) else (df_X1_readConstant_81 n (qC Bq sn lu 0 ln se 0 co SW LW, uC (xC BC cs tp st ns1 fx C A Sx NM1 BK1) p' κ q1 x)))) := by
      unfold df_X1_readConstant df_X1_readConstant_0
      rw [if_pos (show sI (qC Bq sn lu 0 ln se 0 co SW LW, (uC (xC BC cs tp st ns fx C A Sx NM BK) p' κ q1 x)).2 2 = (1 : Int32) from congrArg nI k1)]
      show nd_let (sI (uC (xC BC cs tp st ns fx C A Sx NM BK) p' κ q1 x) 0 - sI (uC (xC BC cs tp st ns fx C A Sx NM BK) p' κ q1 x) 3) _ = _
      rw [uC_i0, uC_i3, show nI p' - nI q1 = nI (p' - q1) from pk_sub (by omega), nb_let]
      show nd_b2 (df_X9_nameAt n (nI q1) (nI (p' - q1)) (uC (xC BC cs tp st ns fx C A Sx NM BK) p' κ q1 x)) _ = _
      rw [n1, nb_b2, nb_let]
      show nd_o (sO (uC (xC BC cs tp st ns1 fx C A Sx NM1 BK1) p' κ q1 x) 0) 8 (nd_b2 (df_X7_registerAt n (nI q1) (nI (p' - q1)) (pR nd_st0 0 (sR (uC (xC BC cs tp st ns1 fx C A Sx NM1 BK1) p' κ q1 x) 7))) _) = _
      rw [n9, o8, n10, nb_b2]
      show nd_let (qC Bq sn lu 0 ln se 0 co SW LW, pR (uC (xC BC cs tp st ns1 fx C A Sx NM1 BK1) p' κ q1 x) 7 (sR (pR nd_st0 0 (sR (uC (xC BC cs tp st ns1 fx C A Sx NM1 BK1) p' κ q1 x) 7)) 0)) _ = _
      rw [show pR (uC (xC BC cs tp st ns1 fx C A Sx NM1 BK1) p' κ q1 x) 7 (sR (pR nd_st0 0 (sR (uC (xC BC cs tp st ns1 fx C A Sx NM1 BK1) p' κ q1 x) 7)) 0) = (uC (xC BC cs tp st ns1 fx C A Sx NM1 BK1) p' κ q1 x) from nm_r0 _ 7, nb_let]
      show (if 0 ≤ _ then _ else nd_b2 (df_X9_isDefined n (nI id) (uC (xC BC cs tp st ns1 fx C A Sx NM1 BK1) p' κ q1 x)) _) = _
      rw [n11, nb_b2, nb_let]
    have h81 : df_X1_readConstant_81 n (qC Bq sn lu 0 ln se 0 co SW LW, uC (xC BC cs tp st ns1 fx C A Sx NM1 BK1) p' κ q1 x) = some (qC Bq sn lu (nI 4) ln se 0 co SW LW, uC (xC BC cs tp st ns1 fx C A Sx NM1 BK1) p' κ q1 x) := by
      unfold df_X1_readConstant_81
      rw [blm_C, nb_b1]
      rfl
    -- the reference up to the name
    have hr1 : df_X13_constant n S1 = (if 0 ≤ rI (reS (p' - q1) (c q1) (c (q1 + 1)) (c (q1 + 2)) (c (q1 + 3))) then df_X13_constant_44 n (nI q1) (nI p') S2 else (if (if fN (fiP c X q1 (p' - q1)) 0 nL < nL then nI (fN (fiP c X q1 (p' - q1)) 0 nL) else -1) < 0 then df_X13_constant_49 n (nI q1) (nI p') S2 else df_X13_constant_44 n (nI q1) (nI p') S2)) := by
      unfold df_X13_constant df_X13_constant_0
      rw [show df_X13_needs n 1 S1 = some (1, S2) from f1, nb_b2, if_neg (by decide), f3, f4, nb_let, nb_let, if_pos h15, g1, nb_b2, g2, nb_b2]
    have h44 : ∃ S9 : St, df_X13_constant_44 n (nI q1) (nI p') S2 = some S9 ∧ FL e (pI B 15 0) (nI 4 + 16 * sI B 13) S9 := by
      obtain ⟨S3, b1, b2⟩ := blm_S (n := n) f2 4
      have b3 := SR_FL (e := e) b2 hle.2.2
      refine ⟨S3, ?_, b3⟩
      unfold df_X13_constant_44
      rw [b1, nb_b1]
      unfold df_X13_constant_49
      rw [com_F b3 (flt_n (B := pI B 15 0) hV.2.2.2.2.2.2.2 4 (by decide)), nb_b2, if_pos rfl]
    by_cases hr : reS (p' - q1) (c q1) (c (q1 + 1)) (c (q1 + 2)) (c (q1 + 3)) < 32
    · rw [if_pos (rI_n.mpr hr)] at hc1 hr1
      obtain ⟨S9, b1, b2⟩ := h44
      exact Or.inl (fault 4 _ S9 (by decide) (by decide) (hc1.trans h81) (hr1.trans b1) b2)
    rw [if_neg (fun w => hr (rI_n.mp w))] at hc1 hr1
    rw [nmK_f hr] at hc1
    by_cases hk : fN (fiP c X q1 (p' - q1)) 0 nL < nL
    · rw [decide_eq_true hk, if_neg (show ¬ bI true = 0 by decide)] at hc1
      have hnl := hV.2.1
      rw [if_pos hk, if_neg (show ¬ nI _ < (0 : Int32) from znl (b := 0) (Nat.zero_le _) (by omega))] at hr1
      obtain ⟨S9, b1, b2⟩ := h44
      exact Or.inl (fault 4 _ S9 (by decide) (by decide) (hc1.trans h81) (hr1.trans b1) b2)
    rw [decide_eq_false hk, if_pos (show bI false = 0 from rfl)] at hc1
    rw [if_neg hk, if_pos (show (-1 : Int32) < 0 by decide)] at hr1
    obtain ⟨q2, p2, κ2, τ2, v2, x2, m1, T2⟩ := nx_1 hT0 (cs := cs) (tp := tp) (st := st) (ns := ns1) (fx := fx) (C := C) (A := A) (S := Sx) (NM := NM1) (BK := BK1) p' κ q1 x hle.2.2 (fun i i1 i2 => T.2.1 i (by omega) i2)
    rw [m1, nb_b1, nb_let] at hc1
    obtain ⟨xp1, xp2⟩ := xpt_C hT0 (cs := cs) (tp := tp) (st := st) (ns := ns1) (fx := fx) (C := C) (A := A) (S := Sx) (NM := NM1) (BK := BK1) (qC Bq sn lu 0 ln se 0 co SW LW) rfl 44 (by decide) p' q2 p2 κ2 τ2 v2 x2 T2
    have hle2 := ts_le T2
    by_cases h44c : τ2 = 44
    · obtain ⟨q3, p3, κ3, τ3, v3, x3, y1, T3⟩ := xp1 h44c
      have hk2 : ¬ κ2 = 0 := fun w => by have := (ts_0 T2).1.mp w; omega
      have hp2 := (T2.2.2.2.2.2.1 hk2).2
      rw [show df_X1_expect n 44 (qC Bq sn lu 0 ln se 0 co SW LW, uC (xC BC cs tp st ns1 fx C A Sx NM1 BK1) p2 κ2 q2 x2) = _ from y1, nb_b1, if_pos (show sI (qC Bq sn lu 0 ln se 0 co SW LW, uC (xC BC cs tp st ns1 fx C A Sx NM1 BK1) p3 κ3 q3 x3).1 2 = 0 from rfl)] at hc1
      obtain ⟨S3, j1, j2⟩ := com_y (B := pI B 15 0) hV.1 f2 T2 h44c
      have hA1 : cs ≤ p2 := by omega
      have hA2 : 2 * ns1 ≤ p2 := by omega
      have hA3 : e - p2 < 32768 := by omega
      obtain ⟨ok, p4, q4, p4', κ4, τ4, v4, x4, m, P, ns2, fx2, C2, A2, Sa, S3a, NM2, BK2, bs2, ws2, tp2, tp3, BC3, u, a1, b0, b2, b3, hno, hok⟩ := sfx_C hT0 (B := Bq) (sn := sn) (lu := lu) (ln := ln) (se := se) (co := co) (od := 0) (SW := SW) (LW := LW) (tp := tp) (st := st) (fx := fx) (C := C) (A := A) (S := Sx) hn T3 n2 hA1 hA2 hA3 n7 n8 (one_A hV hY) q 0 (-2147483648) 2147483647
      rw [show df_X9_sum n (qC Bq sn lu 0 ln se 0 co SW LW, uC (xC BC cs tp st ns1 fx C A Sx NM1 BK1) p3 κ3 q3 x3).2 = _ from a1, nb_b2, nb_let] at hc1
      cases ok with
      | false =>
        obtain ⟨w, S4, i1, i2⟩ := fix_f hV' hY j2 b0 (-2147483648) 2147483647
        refine Or.inl (fault 1 (uC (xC BC (cs + m + 1) tp2 (if false = true then 5 else 6) ns2 fx2 C2 A2 Sa NM2 BK2) p4' κ4 q4 x4) S4 (by decide) (by decide) (hc1.trans ?_) (hr1.trans ?_) i2)
        · unfold df_X1_readConstant_118
          show nd_b2 (df_X1_fixed n u (-2147483648) 2147483647 (qC Bq sn lu 0 ln se 0 co SW LW, _)) _ = _
          rw [hno rfl, nb_b2, if_neg (show ¬ sI (qC Bq sn lu (nI 1) ln se 0 co SW LW, _).1 2 = 0 from (by decide : ¬ nI 1 = 0))]
          rfl
        · unfold df_X13_constant_49 df_X13_constant_90
          rw [j1, nb_b2, if_neg (by decide), i1, nb_b2, if_pos (show sI S4 15 = 0 from (FL_f i2).2.1), if_neg (show ¬ sI S4 12 = 0 from fun w9 => flt_n (B := pI B 15 0) hV.2.2.2.2.2.2.2 1 (by decide) ((FL_f i2).1.symm.trans w9))]
      | true =>
        obtain ⟨b1, c1, T4, b4, b6, b7, b8, b9, b10, b11⟩ := hok rfl
        obtain ⟨w, S4, i1, i2, i3, i4, i5, i6⟩ := fix_R hV' hY j2 rfl b0 (-2147483648) 2147483647
        have hle4 := ts_le T4
        have hN' := NTB_n n7 n8 b2 b3
        have hI' := IDX_n n8 b2
        obtain ⟨x1, x3', x4'⟩ := fxE (B := B) b6 hN' b8 q q 0 (-2147483648) 2147483647
        have i3 : w = zV (VW c X e nL q B) P m := i3
        rw [x1] at c1
        subst i3
        by_cases wz : (fxR (!lsF (loV c X e nL) P m) (zV (VW c X e nL q B) P m) (dV (VW c X e nL q B) P m) (-2147483648) 2147483647) = 0
        · have fxt : fx2 = true := (fxR_0 (x1.trans wz)).1
          rw [wz, if_pos (show (0 : Nat) = 0 from rfl), x3' fxt] at c1
          have i4 := i4 wz
          obtain ⟨S5, d1, d2⟩ := def_S (n := n) i4 (nL := nL) hV.2.2.1 (by omega) (nI q1) (nI p') 2 (zV (VW c X e nL q B) P m)
          rw [show (2 : Int32) = nI 2 from rfl, or17 (by omega) (by omega)] at d2
          have hid : id < ns2 := by have := b2.1; omega
          have hns2 := b3.1
          have hs2 : sW c (bs2 id) (ws2 id) q1 (p' - q1) := by
            obtain ⟨o1, o2, _, _⟩ := b2.2.1 id n3
            rw [o1, o2]; exact n4
          have hC0 : df_X1_readStatement n 120 (qC Bq sn lu 0 ln se 0 co SW LW, (uC (xC BC cs tp st ns fx C A Sx NM BK) p' κ q1 x)) = df_X1_readStatement_206 n (qC Bq sn lu 0 ln se 0 (co + 1) SW LW, uC (xC BC3 (cs + m + 1) tp3 5 ns2 fx2 C2 A2 S3a (upd (upd NM2 (5 * id + 2) 1) (5 * id + 3) (zV (VW c X e nL q B) P m)) BK2) p4' κ4 q4 x4) := by
            rw [drs_e, hc1]
            unfold df_X1_readConstant_118
            show nd_b1 (nd_b2 (df_X1_fixed n u (-2147483648) 2147483647 (qC Bq sn lu 0 ln se 0 co SW LW, _)) _) _ = _
            rw [c1, nb_b2, if_pos (show sI (qC Bq sn lu (nI 0) ln se 0 co SW LW, _).1 2 = 0 from rfl)]
            show nd_b1 (nd_b1 (df_X9_define n (nI id) 1 (zV (VW c X e nL q B) P m) (uC (xC BC3 (cs + m + 1) tp3 5 ns2 fx2 C2 A2 S3a NM2 BK2) p4' κ4 q4 x4)) _) _ = _
            rw [de_9 id 1 _ (by omega), nb_b1, nb_let, nb_let]
            show nd_b1 (df_X1_readConstant_158 n (pI (qC Bq sn lu 0 ln se 0 co SW LW) 6 (nI co + 1), _)) _ = _
            rw [show nI co + 1 = nI (co + 1) from nI_add co 1, qC_w6]
            unfold df_X1_readConstant_158
            rw [nb_b1]
          have hR : df_X13_statement n (nI q) 0 S = df_X13_statement_326 n S5 := by
            rw [hdr, hr1]
            unfold df_X13_constant_49 df_X13_constant_90
            rw [j1, nb_b2, if_neg (by decide), i1, nb_b2, if_pos (show sI S4 15 = 0 from SR_15 i4), if_pos (show sI S4 12 = 0 from SR_12 i4), d1, nb_b1, nb_b1]
          have hTd : atx n L e c BC (dfB (pI B 15 0) nL (nI (2 * 131072 + q1)) (zV (VW c X e nL q B) P m)) := hT0
          obtain ⟨kk0, kk6, _, _⟩ := ts_0 T4
          obtain ⟨er0, er1⟩ := end_R hTd rfl d2 T4
          by_cases z4 : τ4 = 0
          · right
            obtain ⟨S6, l1, l2⟩ := er0 z4
            refine ⟨q1, zV (VW c X e nL q B) P m, cs + m + 1, ns2, C2, A2, (upd (upd NM2 (5 * id + 2) 1) (5 * id + 3) (zV (VW c X e nL q B) P m)), BK2, bs2, ws2, p4', gr, uC (xC BC3 (cs + m + 1) tp3 5 ns2 fx2 C2 A2 S3a (upd (upd NM2 (5 * id + 2) 1) (5 * id + 3) (zV (VW c X e nL q B) P m)) BK2) p4' κ4 q4 x4, S6, ?_, ⟨BC3, tp3, 5, fx2, S3a, κ4, q4, x4, b1, rfl⟩, hR.trans l1, l2, by omega, by omega, by omega, hq3, HT_d b3 id 1 (zV (VW c X e nL q B) P m), ?_, ?_, ⟨by have := n6.1; have := b2.1; omega, fun i hi => ?_⟩, by omega, by omega, by omega, b6.1, rfb_E hT0 T0 hNA T ht T2 h44c b0 (FXD_1 b6 wz)⟩
            · rw [hC0, end_C kk6, if_pos (kk0.mpr z4)]
            · exact NTB_d hN' b3 (q := q1) (l := p' - q1) (κ := 2) (fun k hk => nw_2 hk) nw_1 (by omega) (by decide) (fun k hk => up_n (by omega)) hz hr (by rw [nmK_f hr]; exact hk) hid hs2 1 (zV (VW c X e nL q B) P m) (if_pos rfl).symm (by rw [if_pos rfl, up_e])
            · exact IDX_d hI' (fun k hk => nw_2 hk) nw_1 (by omega) hz hid hs2
            · obtain ⟨o1, o2, _, _⟩ := n6.2.1 i hi
              obtain ⟨o3, o4, _, _⟩ := b2.2.1 i (by have := n6.1; omega)
              exact ⟨o3.trans o1, o4.trans o2⟩
          · left
            obtain ⟨S6, l1, l2⟩ := er1 z4
            refine ⟨1, qC Bq sn lu (nI 1) ln se 0 (co + 1) SW LW, uC (xC BC3 (cs + m + 1) tp3 5 ns2 fx2 C2 A2 S3a (upd (upd NM2 (5 * id + 2) 1) (5 * id + 3) (zV (VW c X e nL q B) P m)) BK2) p4' κ4 q4 x4, S6, by decide, by decide, ?_, rfl, rfl, hR.trans l1, ⟨_, l2, rfl, rfl, rfl, rfl⟩⟩
            rw [hC0, end_C kk6, if_neg (fun w9 => z4 (kk0.mp w9))]
        · have i5 := i5 wz
          have f15 : 1 ≤ (fxR (!lsF (loV c X e nL) P m) (zV (VW c X e nL q B) P m) (dV (VW c X e nL q B) P m) (-2147483648) 2147483647) ∧ (fxR (!lsF (loV c X e nL) P m) (zV (VW c X e nL q B) P m) (dV (VW c X e nL q B) P m) (-2147483648) 2147483647) ≤ 15 := ⟨by omega, fxR_l⟩
          have nz : ¬ nI (fxR (!lsF (loV c X e nL) P m) (zV (VW c X e nL q B) P m) (dV (VW c X e nL q B) P m) (-2147483648) 2147483647) = 0 := fun w' => absurd ((nI_eq (b := 0) (by omega) (by omega)).mp w') (by omega)
          refine Or.inl (fault (fxR (!lsF (loV c X e nL) P m) (zV (VW c X e nL q B) P m) (dV (VW c X e nL q B) P m) (-2147483648) 2147483647) (uC (xC BC3 (cs + m + 1) tp3 (if true = true then 5 else 6) ns2 fx2 C2 A2 S3a NM2 BK2) p4' κ4 q4 x4) S4 f15.1 f15.2 (hc1.trans ?_) (hr1.trans ?_) i5)
          · unfold df_X1_readConstant_118
            show nd_b2 (df_X1_fixed n u (-2147483648) 2147483647 (qC Bq sn lu 0 ln se 0 co SW LW, _)) _ = _
            rw [c1, nb_b2, if_neg (show ¬ sI (qC Bq sn lu (nI (fxR (!lsF (loV c X e nL) P m) (zV (VW c X e nL q B) P m) (dV (VW c X e nL q B) P m) (-2147483648) 2147483647)) ln se 0 co SW LW, _).1 2 = 0 from nz)]
            rfl
          · unfold df_X13_constant_49 df_X13_constant_90
            rw [j1, nb_b2, if_neg (by decide), i1, nb_b2, if_pos (show sI S4 15 = 0 from (FL_f i5).2.1), if_neg (show ¬ sI S4 12 = 0 from fun w9 => flt_n (B := pI B 15 0) hV.2.2.2.2.2.2.2 _ f15 ((FL_f i5).1.symm.trans w9))]
    · obtain ⟨S3, j1, j2⟩ := com_n (B := pI B 15 0) hV.1 f2 T2 h44c
      refine Or.inl (fault 1 (uC (xC BC cs tp st ns1 fx C A Sx NM1 BK1) p2 κ2 q2 x2) S3 (by decide) (by decide) (hc1.trans ?_) (hr1.trans ?_) (FN_L j2))
      · rw [show df_X1_expect n 44 (qC Bq sn lu 0 ln se 0 co SW LW, uC (xC BC cs tp st ns1 fx C A Sx NM1 BK1) p2 κ2 q2 x2) = _ from xp2 h44c, nb_b1]
        rw [show pI (qC Bq sn lu 0 ln se 0 co SW LW) 2 1 = qC Bq sn lu (nI 1) ln se 0 co SW LW from qC_w2]
        rw [if_neg (show ¬ sI (qC Bq sn lu (nI 1) ln se 0 co SW LW, _).1 2 = 0 from (by decide : ¬ nI 1 = 0))]
        unfold df_X1_readConstant_118
        rw [fix_Z _ (by decide : ¬ nI 1 = 0), nb_b2, if_neg (show ¬ sI (qC Bq sn lu (nI 1) ln se 0 co SW LW, _).1 2 = 0 from (by decide : ¬ nI 1 = 0))]
        rfl
      · unfold df_X13_constant_49
        rw [j1, nb_b2, if_pos rfl]
  · have k1 : ¬ κ = 1 := fun w => ht (kt1.mp w)
    obtain ⟨S2, f1, f2⟩ := ned_n (B := pI B 15 0) hV.1 e2 T 1 (by omega) ht
    refine Or.inl (fault 1 (uC (xC BC cs tp st ns fx C A Sx NM BK) p' κ q1 x) S2 (by decide) (by decide) ?_ ?_ (FN_L f2))
    · unfold df_X1_readConstant df_X1_readConstant_0
      rw [if_neg (show ¬ sI (qC Bq sn lu 0 ln se 0 co SW LW, (uC (xC BC cs tp st ns fx C A Sx NM BK) p' κ q1 x)).2 2 = (1 : Int32) from zne (b := 1) k1 (by omega) (by omega)), blm_C, nb_b1]
      rfl
    · unfold df_X13_constant df_X13_constant_0
      rw [show df_X13_needs n 1 S1 = some (0, S2) from f1, nb_b2, if_pos rfl]
