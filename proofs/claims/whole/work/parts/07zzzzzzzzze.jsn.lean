/-- what a fixed expression may be: both ask the same -/
theorem tbE_0 {X : Nat → Nat} {nL : Nat} {B : St} : tbE X (sR B 7) nL X nL B := ⟨Nat.le_refl _, fun _ _ => rfl, fun _ _ _ => rfl⟩
theorem fxE {c X : Nat → Nat} {e nL : Nat} {NR C0 A0 : Nat → Int32} {s0 ns : Nat} {bs ws : Nat → Nat} {m : Nat} {P : Nat → Tp} {C A NM : Nat → Int32} {fx : Bool} {B : St} (hC : CR NR c e C0 A0 s0 ns bs ws m P C A) (hN : NTB c X nL (sR B 7) ns NM bs ws) (hfx : fx = true ↔ fxQ c e bs ws NM ns m P) (sx st : Nat) (ts lo hi : Int32) : fxR fx (zV (VV c X e nL sx ts 0 (sR B 7)) P m) (dV (VV c X e nL sx ts 0 (sR B 7)) P m) lo hi = fxR (!lsF (loV c X e nL) P m) (zV (VW c X e nL st B) P m) (dV (VW c X e nL st B) P m) lo hi ∧ (fx = true → zV (VV c X e nL sx ts 0 (sR B 7)) P m = zV (VW c X e nL st B) P m) ∧ (fx = true → lsF (loV c X e nL) P m = false) := by
  have h1 := (hfx.trans (fx_lo hC hN))
  cases hx : fx with
  | true =>
    have h2 := h1.mp hx
    have e1 := fix_V (c := c) (X := X) (X0 := X) (e := e) (nL := nL) (n0 := nL) (st := st) (st0 := sx) (ts := sI B 4) (ts0 := ts) (ad := sI B 17) (ad0 := 0) (W0 := sR B 7) (B := B) (P := P) (m := m) h2 tbE_0 (CR_P hC)
    have e2 : zV (VV c X e nL sx ts 0 (sR B 7)) P m = zV (VW c X e nL st B) P m := by unfold zV VW; rw [e1]
    have e3 : dV (VV c X e nL sx ts 0 (sR B 7)) P m = dV (VW c X e nL st B) P m := by unfold dV VW; rw [e1]
    rw [e2, e3, h2]
    exact ⟨rfl, fun _ => rfl, fun _ => rfl⟩
  | false =>
    have h2 : ¬ lsF (loV c X e nL) P m = false := fun w => by rw [h1.mpr w] at hx; exact absurd hx (by decide)
    have h3 : lsF (loV c X e nL) P m = true := by
      cases hh : lsF (loV c X e nL) P m with
      | true => rfl
      | false => exact absurd hh h2
    rw [h3]
    refine ⟨?_, fun w => absurd w (by decide), fun w => absurd w (by decide)⟩
    unfold fxR
    rw [if_pos rfl]
    rfl
theorem fxR_l {fx dv : Bool} {z lo hi : Int32} : fxR fx z dv lo hi ≤ 15 := by
  unfold fxR
  by_cases h1 : fx = false
  · rw [if_pos h1]; decide
  · rw [if_neg h1]
    by_cases h2 : dv = true
    · rw [if_pos h2]; decide
    · rw [if_neg h2]
      by_cases h3 : z < lo ∨ hi < z
      · rw [if_pos h3]; decide
      · rw [if_neg h3]; decide
theorem FXD_1 {c X : Nat → Nat} {e nL : Nat} {NR C0 A0 : Nat → Int32} {s0 ns : Nat} {bs ws : Nat → Nat} {m : Nat} {P : Nat → Tp} {C A : Nat → Int32} {B : St} {st : Nat} (hC : CR NR c e C0 A0 s0 ns bs ws m P C A) {lo hi : Int32} (h : fxR (!lsF (loV c X e nL) P m) (zV (VW c X e nL st B) P m) (dV (VW c X e nL st B) P m) lo hi = 0) : FXD c e X (sR B 7) nL P m (zV (VW c X e nL st B) P m) := by
  obtain ⟨h1, h2, _, _⟩ := fxR_0 h
  refine ⟨?_, CR_P hC, st, sI B 4, sI B 17, rfl, h2⟩
  cases hh : lsF (loV c X e nL) P m with
  | true => rw [hh] at h1; exact absurd h1 (by decide)
  | false => rfl
theorem li_k : tb_0 117 = 0 ∧ ¬ ko_s 117 &&& 32 = 0 ∧ eL (FRM 117) = 65 ∧ fOK (FRM 117) = true ∧ (FRM 117).length = 3 ∧ ks_n (ko_f 117) = 3 ∧ FRM 117 = [100, 44, 65] ∧ shT (sgm 117) = 39 := by decide +kernel
theorem ix_0 {n y : Nat} (hy : y < 128) (Q U : St) : df_X1_readInstruction n y (Q, U) = df_X1_readInstruction_18 n n y (ko_b y ||| sI Q 5) (-1) 0 (nI 0) (Q, U) := by
  unfold df_X1_readInstruction df_X1_readInstruction_0
  rw [lt_y hy]
  rfl
/-- li -/
theorem stj_N {n L e : Nat} {c : Nat → Nat} {BC B Bq : St} {sn lu ln se co cs ns : Nat} {od : Int32} {SW LW NM BK : Nat → Int32} {bs ws X : Nat → Nat} {nL cu : Nat} {PA BY OU : Nat → Int32} {q p1 y : Nat} (J : JH n L e c BC B sn lu ln se cs ns NM BK bs ws X nL cu PA BY q p1 y od) (h117 : y = 117) (tp st : Nat) (fx : Bool) (C A Sx : Nat → Int32) {q1 p' κ τ v : Nat} {x : Int32} (T : TS n L e c BC p1 q1 p' κ τ v x) {ct ap : Nat} {gr : Bool} {S : St} (h : SR B ct gr PA BY OU 0 ap S) : JF n e B (qC Bq sn lu 0 ln se od co SW LW) (uC (xC BC cs tp st ns fx C A Sx NM BK) p' κ q1 x) S ln q y ∨ JG n L e c BC B Bq (uC (xC BC cs tp st ns fx C A Sx NM BK) p' κ q1 x) S sn lu ln se co od SW LW cs ns C A NM bs ws X nL cu PA BY OU q p1 y := by
  obtain ⟨hV, hc, hH, hN, hI, h13, h14, hse, hsn, hcs, hns, hlu, hP, hB, hy, ho, hod, hNA, ⟨κ0, v0, x0, T0⟩, hkw⟩ := id J
  have hT0 := hV.1
  have hq0 : q < p1 := (T0.2.2.2.2.2.1 (fun z => absurd ((ts_0 T0).1.mp z) (by decide))).2
  have hL := hT0.2.1
  have heL := hT0.2.2.1
  have hp1e := (ts_le T0).2.2
  have hY : PY PA cu q := py_J (c := c) hP hse (by omega)
  subst h117
  have hn := hT0.1
  obtain ⟨a1, a2, a3, a4, a5, a6, a7, a8⟩ := li_k
  have z0 : od = 0 := od_0 hod (by rw [a8]; decide) (by rw [a8]; decide)
  subst z0
  obtain ⟨f, p2, rs, m, P, b', k', l', cs', tp', st', ns', fx', C', A', S', NM', BK', bs', ws', q2, p2', κ2, τ2, v2, x2, hTr, hf, hcl, hz⟩ := rin_C hT0 117 hy (FRM 117) 0 n (ko_b 117 ||| 0) (-1) 0 (qC Bq sn lu 0 ln se 0 co SW LW) cs tp st ns fx C A Sx NM BK bs ws p1 q1 p' κ τ v x a4 rfl (by rw [a5, a6]) (by rw [a5]; omega) rfl T hH (by omega) (by omega) (by omega) (fun _ => ⟨hcs, hns⟩)
  have hC0 : df_X1_readStatement n 117 (qC Bq sn lu 0 ln se 0 co SW LW, (uC (xC BC cs tp st ns fx C A Sx NM BK) p' κ q1 x)) = nd_b1 (df_X1_readInstruction_110 n 117 b' k' l' (if f = 0 then qC Bq sn lu 0 ln se 0 co SW LW else pI (qC Bq sn lu 0 ln se 0 co SW LW) 2 (nI f), uC (xC BC cs' tp' st' ns' fx' C' A' S' NM' BK') p2' κ2 q2 x2)) (fun (t : St × St) => df_X1_readStatement_206 n t) := by
    rw [drs_1 n 117 hy _ a1, ix_0 hy, ← hcl]
    rfl
  have h110 : ∀ s : St × St, df_X1_readInstruction_110 n 117 b' k' l' s = nd_b2 (df_X1_fixed n k' (-2147483648) 2147483647 s) (fun (q15 : Int32) (s16 : St × St) => nd_b1 (df_X1_add n 4 (nI (numB ((b' >>> ((7 : Int32) &&& 31)) &&& 31) q15).length) ((b' >>> ((7 : Int32) &&& 31)) &&& 31) q15 s16) (fun (t : St × St) => some t)) := fun s => by
    unfold df_X1_readInstruction_110
    rw [lt_y hy, if_neg a2]
    apply congrArg (nd_b2 (df_X1_fixed n k' (-2147483648) 2147483647 s))
    funext q15 s16
    rw [anb_1]
    rfl
  rw [a7] at hTr
  obtain ⟨S1, r1, r2, r3⟩ := rdr_N hV hc h T0 hY hNA hTr
  by_cases z : f = 0
  · subst z
    rw [a7] at hz
    obtain ⟨T2, c1, c2, c3, c4, c5, c6, c7, c8⟩ := hz rfl
    obtain ⟨d1, d2, d3, d4, d5, d6, d7⟩ := c8 (by decide)
    obtain ⟨r, qr, pa, κr, τr, wr, xr, qb, pb, κb, τb, wb, xb, e1, Tr1, e2, e3, Tb, e4, Rb, e5, e6, r3, r4⟩ := r3 rfl
    have hN' := NTB_n hN hI c3 c4
    have hns' := c4.1
    have hle := ts_le T2
    obtain ⟨BC', tpx, Sx', hBC, hfx⟩ := fix_C (n := n) (B := Bq) (sn := sn) (lu := lu) (ln := ln) (se := se) (co := co) (od := 0) (SW := SW) (LW := LW) (BC := BC) (cs := cs') (tp := tp') (st := st') (ns := ns') (fx := fx') (C := C') (A := A') (S := S') (NM := NM') (BK := BK') (p' := p2') (κ := κ2) (q := q2) (x := x2) (c := c) (X := X) (e := e) (nL := nL) (W := sR B 7) (s0 := cs) (m := m) (bs := bs') (ws := ws') (P := P) hn hns' d4 d5 (by omega) (by omega) hN' d7 e6 q 0 (-2147483648) 2147483647
    obtain ⟨x1, x3, x4⟩ := fxE (B := B) d4 hN' d7 q q 0 (-2147483648) 2147483647
    rw [x1] at hfx
    rw [if_pos rfl, h110, d1, hfx, nb_b2] at hC0
    have hbits : (b' >>> ((7 : Int32) &&& 31)) &&& 31 = nI r := by
      rw [c2, e1, ← a7, li_b r]
      exact liD ⟨r, e3⟩
    rw [hbits] at hC0
    by_cases w : fxR (!lsF (loV c X e nL) P m) (zV (VW c X e nL q B) P m) (dV (VW c X e nL q B) P m) (-2147483648) 2147483647 = 0
    · obtain ⟨u1, u2, u3, u4⟩ := fxR_0 w
      have fxt : fx' = true := by
        have := (fxR_0 (x1.trans w)).1
        exact this
      have r3 := r3 w
      rw [← p14_s (B := B) (v := 0)] at r3
      rw [w, if_pos rfl, x3 fxt, show nI 0 = (0 : Int32) from rfl, add_C _ hsn, nb_b1, nb_b1] at hC0
      rcases jfin hT0 hC0 r1 r3 T2 with w' | ⟨w1, w2, S2, w3, w4⟩
      · exact Or.inl w'
      right
      rw [p14_s] at w4
      refine ⟨(4, nI r, 0, [], numB (nI r) (zV (VW c X e nL q B) P m)), 0, 0, 3, 8, none, _, _, _, _, lu, LW, cs', ns', C', A', NM', BK', bs', ws', p2', (numB (nI r) (zV (VW c X e nL q B) P m)).length, gr, BY, _, S2, w2, ⟨BC', tpx, st', fx', Sx', κ2, q2, x2, hBC, rfl⟩, w3, (by rw [Nat.add_zero, upd_s hP]; exact w4), by omega, hle.2.2, nm_4 hy (by decide) hkw hp1e (by rw [a7]; exact hTr), c3, c4, by omega, by omega, by omega, Nat.le_refl _, by omega, d4.1, fun _ _ => rfl, fun _ _ => rfl, ?_, (fun _ z => nomatch z), Nat.le_refl _, Nat.le_of_ble_eq_true rfl, Nat.le_of_ble_eq_true rfl, (fun z => by have z : (4 : Nat) = 1 := z; omega), (fun z => by have z : (4 : Nat) = 2 := z; omega), Or.inr (Or.inr (Or.inr (Or.inr (Or.inl ⟨rfl, rfl, rfl, ⟨r, e3, rfl⟩, rfl, ?_, rfl, rfl⟩))))⟩
      · rw [e2]
        rw [e2] at e3
        exact rfb_N hT0 T0 hNA Tr1 e3 Tb e4 Rb (FXD_1 d4 w)
      · rw [bb_0 hB]
    · left
      have r4 := r4 w
      rw [← p14_s (B := B) (v := 0)] at r4
      have f15 : 1 ≤ fxR (!lsF (loV c X e nL) P m) (zV (VW c X e nL q B) P m) (dV (VW c X e nL q B) P m) (-2147483648) 2147483647 ∧ fxR (!lsF (loV c X e nL) P m) (zV (VW c X e nL q B) P m) (dV (VW c X e nL q B) P m) (-2147483648) 2147483647 ≤ 15 := ⟨by omega, fxR_l⟩
      have hfl := flt_n (B := pI (pI B 15 0) 14 (sI B 14)) hV.2.2.2.2.2.2.2 _ f15
      have nz : ¬ nI (fxR (!lsF (loV c X e nL) P m) (zV (VW c X e nL q B) P m) (dV (VW c X e nL q B) P m) (-2147483648) 2147483647) = 0 := fun w' => absurd ((nI_eq (b := 0) (by omega) (by omega)).mp w') (by omega)
      refine ⟨(fxR (!lsF (loV c X e nL) P m) (zV (VW c X e nL q B) P m) (dV (VW c X e nL q B) P m) (-2147483648) 2147483647), qC Bq sn lu (nI (fxR (!lsF (loV c X e nL) P m) (zV (VW c X e nL q B) P m) (dV (VW c X e nL q B) P m) (-2147483648) 2147483647)) ln se 0 co SW LW, uC (xC BC' cs' tpx st' ns' fx' C' A' Sx' NM' BK') p2' κ2 q2 x2, S1, f15.1, f15.2, ?_, rfl, rfl, ?_, ⟨_, r4, rfl, rfl, rfl, rfl⟩⟩
      · rw [hC0, add_F _ nz, nb_b1, nb_b1, end_CF nz]
      · rw [r1, end_F r4 hfl]
  · left
    have r2 := r2 z
    rw [← p14_s (B := B) (v := 0)] at r2
    have f15 : 1 ≤ f ∧ f ≤ 15 := by omega
    have hfl : ¬ nI f + 16 * sI (pI (pI B 15 0) 14 (sI B 14)) 13 = 0 := flt_n (B := pI (pI B 15 0) 14 (sI B 14)) hV.2.2.2.2.2.2.2 f f15
    have nz : ¬ nI f = 0 := fun w => absurd ((nI_eq (a := f) (b := 0) (by omega) (by omega)).mp w) (by omega)
    refine ⟨f, qC Bq sn lu (nI f) ln se 0 co SW LW, uC (xC BC cs' tp' st' ns' fx' C' A' S' NM' BK') p2' κ2 q2 x2, S1, f15.1, f15.2, ?_, rfl, rfl, ?_, ⟨_, r2, rfl, rfl, rfl, rfl⟩⟩
    · rw [hC0, if_neg z, qC_w2, h110, fix_Z _ nz, nb_b2, add_F _ nz, nb_b1, nb_b1, end_CF nz]
    · rw [r1, end_F r2 hfl]
