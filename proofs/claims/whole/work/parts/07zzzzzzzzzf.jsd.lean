theorem sp_k : shT (sgm 126) = 48 ∧ shT (sgm 127) = 49 ∧ ks_n (ko_w 126) = 6 ∧ ks_n (ko_w 127) = 6 ∧ ks_n (ko_w 121) = 5 ∧ ks_n (ko_w 122) = 5 ∧ ks_n (ko_w 123) = 5 ∧ ks_n (ko_w 124) = 6 ∧ ks_n (ko_w 125) = 6 ∧ ks_n (ko_w 118) = 5 ∧ ks_n (ko_w 119) = 5 ∧ ks_n (ko_w 120) = 4 := by decide +kernel
theorem one_A {n L e : Nat} {c : Nat → Nat} {BC B : St} {X : Nat → Nat} {nL cu st : Nat} (hV : RV n L e c BC B X nL cu) {PA : Nat → Int32} (hY : PY PA cu st) {p : Nat} : ∀ (p2 m : Nat) (P : Nat → Tp), RX n L e c BC p true p2 m P → one P m := fun _ _ _ R => (one_R hV hY R).1
theorem al_n (k : Nat) (h : k ≤ 10) : ¬ -1 - nI k = 0 := by
  have : ∀ k : Fin 11, ¬ -1 - nI k.1 = 0 := by decide +kernel
  exact this ⟨k, by omega⟩
/-- .space -/
theorem stj_S {n L e : Nat} {c : Nat → Nat} {BC B Bq : St} {sn lu ln se co cs ns : Nat} {od : Int32} {SW LW NM BK : Nat → Int32} {bs ws X : Nat → Nat} {nL cu : Nat} {PA BY OU : Nat → Int32} {q p1 y : Nat} (J : JH n L e c BC B sn lu ln se cs ns NM BK bs ws X nL cu PA BY q p1 y od) (hyy : y = 126) (tp st : Nat) (fx : Bool) (C A Sx : Nat → Int32) {q1 p' κ τ v : Nat} {x : Int32} (T : TS n L e c BC p1 q1 p' κ τ v x) {ct ap : Nat} {gr : Bool} {S : St} (h : SR B ct gr PA BY OU 0 ap S) : JF n e B (qC Bq sn lu 0 ln se od co SW LW) (uC (xC BC cs tp st ns fx C A Sx NM BK) p' κ q1 x) S ln q y ∨ JG n L e c BC B Bq (uC (xC BC cs tp st ns fx C A Sx NM BK) p' κ q1 x) S sn lu ln se co od SW LW cs ns C A NM bs ws X nL cu PA BY OU q p1 y := by
  obtain ⟨hV, hc, hH, hN, hI, h13, h14, hse, hsn, hcs, hns, hlu, hP, hB, hy, ho, hod, hNA, ⟨κ0, v0, x0, T0⟩, hkw⟩ := id J
  have hT0 := hV.1
  have hq0 : q < p1 := (T0.2.2.2.2.2.1 (fun z => absurd ((ts_0 T0).1.mp z) (by decide))).2
  have hL := hT0.2.1
  have heL := hT0.2.2.1
  have hp1e := (ts_le T0).2.2
  have hY : PY PA cu q := py_J (c := c) hP hse (by omega)
  subst hyy
  have hn := hT0.1
  have z0 : od = 0 := od_0 hod (by rw [sp_k.1]; decide) (by rw [sp_k.1]; decide)
  subst z0
  have hq3 : q + 3 ≤ e := nm_5 hkw hp1e (by rw [sp_k.2.2.1]; decide)
  obtain ⟨ok, p2, q2, p2', κ2, τ2, v2, x2, m, P, ns2, fx2, C2, A2, S2, S3, NM2, BK2, bs2, ws2, tp2, tp3, BC3, u, a1, b0, b2, b3, hno, hok⟩ := sfx_C hT0 (B := Bq) (sn := sn) (lu := lu) (ln := ln) (se := se) (co := co) (od := 0) (SW := SW) (LW := LW) (tp := tp) (st := st) (fx := fx) (C := C) (A := A) (S := Sx) hn T hH hcs hns (by omega) hN hI (one_A hV hY) q 0 0 32768
  obtain ⟨S1, r1, r4, r7⟩ := rdr_S hV hc h T0 hY hNA b0
  cases ok with
  | false =>
    left
    have r4 := r4 rfl
    rw [← p14_s (B := B) (v := 0)] at r4
    have c1 := hno rfl
    have hfl := flt_n (B := pI (pI B 15 0) 14 (sI B 14)) hV.2.2.2.2.2.2.2 1 (by decide)
    refine ⟨1, qC Bq sn lu (nI 1) ln se 0 co SW LW, _, S1, by decide, by decide, (sp_s hsn a1 c1).1 (show ¬ nI 1 = 0 by decide), rfl, rfl, ?_, ⟨_, r4, rfl, rfl, rfl, rfl⟩⟩
    rw [r1, end_F r4 hfl]
  | true =>
    obtain ⟨b1, c1, T2, b4, b6, b7, b8, b9, b10, b11⟩ := hok rfl
    obtain ⟨r8, r9, r5, r6⟩ := r7 rfl
    have hle := ts_le T2
    have hN' := NTB_n hN hI b2 b3
    obtain ⟨x1, x3, x4⟩ := fxE (B := B) b6 hN' b8 q q 0 0 32768
    rw [x1] at c1
    by_cases w : (fxR (!lsF (loV c X e nL) P m) (zV (VW c X e nL q B) P m) (dV (VW c X e nL q B) P m) 0 32768) = 0
    · have fxt : fx2 = true := (fxR_0 (x1.trans w)).1
      rw [w, if_pos (show (0 : Nat) = 0 from rfl)] at c1
      have s2 := sp_s hsn a1 c1
      obtain ⟨k, k1, k2, r3⟩ := r5 w
      rw [← p14_s (B := B) (v := 0)] at r3
      have cz := s2.2 rfl
      rw [x3 fxt] at cz
      rcases jfin hT0 cz r1 r3 T2 with w' | ⟨w1, w2, S2', w3, w4⟩
      · exact Or.inl w'
      right
      rw [p14_s] at w4
      refine ⟨(7, 0, 0, [], []), 0, 0, 3, 0, none, _, _, _, _, lu, LW, cs + m + 1, ns2, C2, A2, NM2, BK2, bs2, ws2, p2', k, gr, BY, _, S2', w2, ⟨BC3, tp3, _, fx2, S3, κ2, q2, x2, b1, rfl⟩, w3, (by rw [Nat.add_zero, upd_s hP]; exact w4), by omega, hle.2.2, hq3, b2, b3, by omega, by omega, by omega, Nat.le_refl _, by omega, b6.1, fun _ _ => rfl, fun _ _ => rfl, rfb_S hT0 T0 hNA b0 (FXD_1 b6 w) k2, (fun _ z => nomatch z), Nat.le_refl _, Nat.le_of_ble_eq_true rfl, Nat.le_of_ble_eq_true rfl, (fun z => by have z : (7 : Nat) = 1 := z; omega), (fun z => by have z : (7 : Nat) = 2 := z; omega), Or.inr (Or.inr (Or.inr (Or.inr (Or.inr (Or.inr (Or.inr (Or.inl ⟨rfl, rfl, ⟨rfl, rfl⟩, k, k1, k2, ?_⟩)))))))⟩
      rw [bb_0 hB, k2]
    · left
      have r4 := r6 w
      rw [← p14_s (B := B) (v := 0)] at r4
      have f15 : 1 ≤ (fxR (!lsF (loV c X e nL) P m) (zV (VW c X e nL q B) P m) (dV (VW c X e nL q B) P m) 0 32768) ∧ (fxR (!lsF (loV c X e nL) P m) (zV (VW c X e nL q B) P m) (dV (VW c X e nL q B) P m) 0 32768) ≤ 15 := ⟨by omega, fxR_l⟩
      have hfl := flt_n (B := pI (pI B 15 0) 14 (sI B 14)) hV.2.2.2.2.2.2.2 _ f15
      have nz : ¬ nI (fxR (!lsF (loV c X e nL) P m) (zV (VW c X e nL q B) P m) (dV (VW c X e nL q B) P m) 0 32768) = 0 := fun w' => absurd ((nI_eq (b := 0) (by omega) (by omega)).mp w') (by omega)
      refine ⟨(fxR (!lsF (loV c X e nL) P m) (zV (VW c X e nL q B) P m) (dV (VW c X e nL q B) P m) 0 32768), qC Bq sn lu (nI (fxR (!lsF (loV c X e nL) P m) (zV (VW c X e nL q B) P m) (dV (VW c X e nL q B) P m) 0 32768)) ln se 0 co SW LW, _, S1, f15.1, f15.2, (sp_s hsn a1 c1).1 nz, rfl, rfl, ?_, ⟨_, r4, rfl, rfl, rfl, rfl⟩⟩
      rw [r1, end_F r4 hfl]
/-- .align -/
theorem stj_Q {n L e : Nat} {c : Nat → Nat} {BC B Bq : St} {sn lu ln se co cs ns : Nat} {od : Int32} {SW LW NM BK : Nat → Int32} {bs ws X : Nat → Nat} {nL cu : Nat} {PA BY OU : Nat → Int32} {q p1 y : Nat} (J : JH n L e c BC B sn lu ln se cs ns NM BK bs ws X nL cu PA BY q p1 y od) (hyy : y = 127) (tp st : Nat) (fx : Bool) (C A Sx : Nat → Int32) {q1 p' κ τ v : Nat} {x : Int32} (T : TS n L e c BC p1 q1 p' κ τ v x) {ct ap : Nat} {gr : Bool} {S : St} (h : SR B ct gr PA BY OU 0 ap S) : JF n e B (qC Bq sn lu 0 ln se od co SW LW) (uC (xC BC cs tp st ns fx C A Sx NM BK) p' κ q1 x) S ln q y ∨ JG n L e c BC B Bq (uC (xC BC cs tp st ns fx C A Sx NM BK) p' κ q1 x) S sn lu ln se co od SW LW cs ns C A NM bs ws X nL cu PA BY OU q p1 y := by
  obtain ⟨hV, hc, hH, hN, hI, h13, h14, hse, hsn, hcs, hns, hlu, hP, hB, hy, ho, hod, hNA, ⟨κ0, v0, x0, T0⟩, hkw⟩ := id J
  have hT0 := hV.1
  have hq0 : q < p1 := (T0.2.2.2.2.2.1 (fun z => absurd ((ts_0 T0).1.mp z) (by decide))).2
  have hL := hT0.2.1
  have heL := hT0.2.2.1
  have hp1e := (ts_le T0).2.2
  have hY : PY PA cu q := py_J (c := c) hP hse (by omega)
  subst hyy
  have hn := hT0.1
  have z0 : od = 0 := od_0 hod (by rw [sp_k.2.1]; decide) (by rw [sp_k.2.1]; decide)
  subst z0
  have hq3 : q + 3 ≤ e := nm_5 hkw hp1e (by rw [sp_k.2.2.2.1]; decide)
  obtain ⟨ok, p2, q2, p2', κ2, τ2, v2, x2, m, P, ns2, fx2, C2, A2, S2, S3, NM2, BK2, bs2, ws2, tp2, tp3, BC3, u, a1, b0, b2, b3, hno, hok⟩ := sfx_C hT0 (B := Bq) (sn := sn) (lu := lu) (ln := ln) (se := se) (co := co) (od := 0) (SW := SW) (LW := LW) (tp := tp) (st := st) (fx := fx) (C := C) (A := A) (S := Sx) hn T hH hcs hns (by omega) hN hI (one_A hV hY) q 0 0 10
  obtain ⟨S1, r1, r4, r7⟩ := rdr_L hV hc h T0 hY hNA b0
  cases ok with
  | false =>
    left
    have r4 := r4 rfl
    rw [← p14_s (B := B) (v := 0)] at r4
    have c1 := hno rfl
    have hfl := flt_n (B := pI (pI B 15 0) 14 (sI B 14)) hV.2.2.2.2.2.2.2 1 (by decide)
    refine ⟨1, qC Bq sn lu (nI 1) ln se 0 co SW LW, _, S1, by decide, by decide, (sp_a hsn a1 c1).1 (show ¬ nI 1 = 0 by decide), rfl, rfl, ?_, ⟨_, r4, rfl, rfl, rfl, rfl⟩⟩
    rw [r1, end_F r4 hfl]
  | true =>
    obtain ⟨b1, c1, T2, b4, b6, b7, b8, b9, b10, b11⟩ := hok rfl
    obtain ⟨r8, r9, r5, r6⟩ := r7 rfl
    have hle := ts_le T2
    have hN' := NTB_n hN hI b2 b3
    obtain ⟨x1, x3, x4⟩ := fxE (B := B) b6 hN' b8 q q 0 0 10
    rw [x1] at c1
    by_cases w : (fxR (!lsF (loV c X e nL) P m) (zV (VW c X e nL q B) P m) (dV (VW c X e nL q B) P m) 0 10) = 0
    · have fxt : fx2 = true := (fxR_0 (x1.trans w)).1
      rw [w, if_pos (show (0 : Nat) = 0 from rfl)] at c1
      have s2 := sp_a hsn a1 c1
      obtain ⟨k, k1, k2, r3⟩ := r5 w
      rw [← p14_s (B := B) (v := 0)] at r3
      have cz := s2.2 rfl
      rw [x3 fxt, k2] at cz
      rcases jfin hT0 cz r1 r3 T2 with w' | ⟨w1, w2, S2', w3, w4⟩
      · exact Or.inl w'
      right
      rw [p14_s] at w4
      have nz8 : ¬ -1 - nI k = 0 := al_n k k1
      refine ⟨(8, 0, 0, [], []), 0, 0, 3, 0, some (-1 - nI k), _, _, _, _, lu, LW, cs + m + 1, ns2, C2, A2, NM2, BK2, bs2, ws2, p2', 0, gr, upd BY cu (-1 - nI k), _, S2', w2, ⟨BC3, tp3, _, fx2, S3, κ2, q2, x2, b1, rfl⟩, w3, (by rw [Nat.add_zero, upd_s hP]; exact w4), by omega, hle.2.2, hq3, b2, b3, by omega, by omega, by omega, Nat.le_refl _, by omega, b6.1, fun _ _ => rfl, fun k' hk' => up_n hk', ?_, (fun v9 z9 => ⟨up_e.trans (Option.some.inj z9), fun z => nz8 ((Option.some.inj z9).trans z)⟩), Nat.le_refl _, Nat.le_of_ble_eq_true rfl, Nat.le_of_ble_eq_true rfl, (fun z => by have z : (8 : Nat) = 1 := z; omega), (fun z => by have z : (8 : Nat) = 2 := z; omega), Or.inr (Or.inr (Or.inr (Or.inr (Or.inr (Or.inr (Or.inr (Or.inr ⟨rfl, rfl, ⟨rfl, rfl⟩, k, k1, rfl, rfl, ?_⟩)))))))⟩
      · have := rfb_L hT0 T0 hNA b0 (FXD_1 b6 w) (se := se)
        rw [k2] at this
        exact this
      · rw [up_e, if_neg nz8]
    · left
      have r4 := r6 w
      rw [← p14_s (B := B) (v := 0)] at r4
      have f15 : 1 ≤ (fxR (!lsF (loV c X e nL) P m) (zV (VW c X e nL q B) P m) (dV (VW c X e nL q B) P m) 0 10) ∧ (fxR (!lsF (loV c X e nL) P m) (zV (VW c X e nL q B) P m) (dV (VW c X e nL q B) P m) 0 10) ≤ 15 := ⟨by omega, fxR_l⟩
      have hfl := flt_n (B := pI (pI B 15 0) 14 (sI B 14)) hV.2.2.2.2.2.2.2 _ f15
      have nz : ¬ nI (fxR (!lsF (loV c X e nL) P m) (zV (VW c X e nL q B) P m) (dV (VW c X e nL q B) P m) 0 10) = 0 := fun w' => absurd ((nI_eq (b := 0) (by omega) (by omega)).mp w') (by omega)
      refine ⟨(fxR (!lsF (loV c X e nL) P m) (zV (VW c X e nL q B) P m) (dV (VW c X e nL q B) P m) 0 10), qC Bq sn lu (nI (fxR (!lsF (loV c X e nL) P m) (zV (VW c X e nL q B) P m) (dV (VW c X e nL q B) P m) 0 10)) ln se 0 co SW LW, _, S1, f15.1, f15.2, (sp_a hsn a1 c1).1 nz, rfl, rfl, ?_, ⟨_, r4, rfl, rfl, rfl, rfl⟩⟩
      rw [r1, end_F r4 hfl]
theorem CDS_l {NR : Nat → Int32} {c : Nat → Nat} {e ns : Nat} {bs ws : Nat → Nat} {C A : Nat → Int32} : ∀ {ys : List (Nat × (Nat → Tp))} {s0 s1 : Nat}, CDS NR c e ns bs ws C A s0 ys s1 → s0 ≤ s1
  | [], _, _, h => Nat.le_of_eq h
  | y :: ys, s0, s1, h => by
    have := CDS_l h.2.2.2
    omega
theorem ltW_o : ∀ (l : List Int32) {LW : Nat → Int32} (lu : Nat) {i : Nat}, i < lu → ltW LW lu l i = LW i
  | [], _, _, _, _ => rfl
  | v :: l, LW, lu, i, h => by
    show ltW (upd LW lu (btI v)) (lu + 1) l i = LW i
    rw [ltW_o l (lu + 1) (by omega), up_n (by omega)]
theorem ltW_g : ∀ (l : List Int32) (LW : Nat → Int32) (lu : Nat) {i : Nat}, i < l.length → ltW LW lu l (lu + i) = btI (l.getD i 0)
  | [], _, _, i, h => absurd h (Nat.not_lt_zero i)
  | v :: l, LW, lu, 0, h => by
    show ltW (upd LW lu (btI v)) (lu + 1) l (lu + 0) = btI v
    rw [ltW_o l (lu + 1) (by omega), Nat.add_zero, up_e]
  | v :: l, LW, lu, i + 1, h => by
    show ltW (upd LW lu (btI v)) (lu + 1) l (lu + (i + 1)) = btI (l.getD i 0)
    rw [← ltW_g l (upd LW lu (btI v)) (lu + 1) (i := i) (by have : (v :: l).length = l.length + 1 := rfl; omega), show lu + 1 + i = lu + (i + 1) by omega]
/-- lists -/
theorem stj_D {n L e : Nat} {c : Nat → Nat} {BC B Bq : St} {sn lu ln se co cs ns : Nat} {od : Int32} {SW LW NM BK : Nat → Int32} {bs ws X : Nat → Nat} {nL cu : Nat} {PA BY OU : Nat → Int32} {q p1 y : Nat} (J : JH n L e c BC B sn lu ln se cs ns NM BK bs ws X nL cu PA BY q p1 y od) (hyy : y = 121 ∨ y = 122 ∨ y = 123) (tp st : Nat) (fx : Bool) (C A Sx : Nat → Int32) {q1 p' κ τ v : Nat} {x : Int32} (T : TS n L e c BC p1 q1 p' κ τ v x) {ct ap : Nat} {gr : Bool} {S : St} (h : SR B ct gr PA BY OU 0 ap S) : JF n e B (qC Bq sn lu 0 ln se od co SW LW) (uC (xC BC cs tp st ns fx C A Sx NM BK) p' κ q1 x) S ln q y ∨ JG n L e c BC B Bq (uC (xC BC cs tp st ns fx C A Sx NM BK) p' κ q1 x) S sn lu ln se co od SW LW cs ns C A NM bs ws X nL cu PA BY OU q p1 y := by
  obtain ⟨hV, hc, hH, hN, hI, h13, h14, hse, hsn, hcs, hns, hlu, hP, hB, hy, ho, hod, hNA, ⟨κ0, v0, x0, T0⟩, hkw⟩ := id J
  have hT0 := hV.1
  have hq0 : q < p1 := (T0.2.2.2.2.2.1 (fun z => absurd ((ts_0 T0).1.mp z) (by decide))).2
  have hL := hT0.2.1
  have heL := hT0.2.2.1
  have hp1e := (ts_le T0).2.2
  have hY : PY PA cu q := py_J (c := c) hP hse (by omega)
  have hn := hT0.1
  have z0 : od = 0 := od_0 hod (by rcases hyy with w | w | w <;> (rw [w]; decide +kernel)) (by rcases hyy with w | w | w <;> (rw [w]; decide +kernel))
  subst z0
  have hq3 : q + 3 ≤ e := nm_5 hkw hp1e (by rcases hyy with w | w | w <;> (rw [w]; decide +kernel))
  have hk3 : kdY y = 1 ∨ kdY y = 2 ∨ kdY y = 4 := by
    rcases hyy with w | w | w <;> (rw [w]; decide)
  have hC : ∀ s : St × St, df_X1_readStatement n y s = nd_b1 (df_X1_readList n (nI (kdY y)) s) (fun (t : St × St) => df_X1_readStatement_206 n t) := fun s => by
    rcases hyy with w | w | w
    · rw [w]; exact d90_1 n s
    · rw [w]; exact d90_2 n s
    · rw [w]; exact d90_4 n s
  obtain ⟨ys, f, p2, cs', tp', st', ns', fx', C', A', S', NM', BK', bs', ws', q2, p2', κ2, τ2, v2, x2, hTr, hys, hcl⟩ := lst_C hT0 (B := Bq) (sn := sn) (lu := lu) (ln := ln) (se := se) (co := co) (od := 0) (SW := SW) (LW := LW) hsn (nI (kdY y)) cs tp st ns fx C A Sx NM BK bs ws p1 q1 p' κ τ v x T hH (by omega) hcs hns
  obtain ⟨S1, r1, r2, r3⟩ := rdr_I hV hc h T0 hY hyy hNA (by omega) hTr
  have hbad : f = 1 → (∃ (Q' U' : St), df_X1_readStatement n y (qC Bq sn lu 0 ln se 0 co SW LW, (uC (xC BC cs tp st ns fx C A Sx NM BK) p' κ q1 x)) = some (Q', U') ∧ sI Q' 2 = nI 1 ∧ sI Q' 3 = nI ln) → JF n e B (qC Bq sn lu 0 ln se 0 co SW LW) (uC (xC BC cs tp st ns fx C A Sx NM BK) p' κ q1 x) S ln q y := fun hf hh => by
    obtain ⟨Q', U', g1, g2, g3⟩ := hh
    have r2 := r2 (by omega)
    rw [← p14_s (B := B) (v := 0), hf] at r2
    have hfl := flt_n (B := pI (pI B 15 0) 14 (sI B 14)) hV.2.2.2.2.2.2.2 1 (by decide)
    refine ⟨1, Q', U', S1, by decide, by decide, g1, g2, g3, ?_, ⟨_, r2, rfl, rfl, rfl, rfl⟩⟩
    rw [r1, end_F r2 hfl]
  rcases hcl with ⟨hf, hcl⟩ | ⟨hcl, hf, T2, c2, c3, c4, c5, c6, c7, c8⟩
  · left
    refine hbad hf ⟨qC Bq sn lu (nI 1) ln se 0 co SW LW, uC (xC BC cs' tp' st' ns' fx' C' A' S' NM' BK') p2' κ2 q2 x2, ?_, rfl, rfl⟩
    rw [hC, hcl, nb_b1, end_CF (show ¬ nI 1 = 0 by decide)]
  · obtain ⟨k0, k6, _, _⟩ := ts_0 T2
    by_cases z : τ2 = 0
    · rw [if_pos z] at hf
      subst hf
      obtain ⟨r4, r5, r3⟩ := r3 rfl
      rw [← p14_s (B := B) (v := 0)] at r3
      have hC0 := hC (qC Bq sn lu 0 ln se 0 co SW LW, (uC (xC BC cs tp st ns fx C A Sx NM BK) p' κ q1 x))
      rw [hcl, nb_b1] at hC0
      rcases jfin hT0 hC0 r1 r3 T2 with w' | ⟨w1, w2, S2, w3, w4⟩
      · exact Or.inl w'
      right
      rw [p14_s] at w4
      have hle := ts_le T2
      have hcsl : cs ≤ cs' := CDS_l c8
      have em : nI ys.length * nI (kdY y) = nI (kdY y * ys.length) := by
        rw [pk_mul, Nat.mul_comm]
      rw [em] at w2
      refine ⟨(5, nI (kdY y), kdY y, ys, []), 0, 0, 3, kdY y * ys.length, none, _, _, _, _, lu, LW, cs', ns', C', A', NM', BK', bs', ws', p2', kdY y * ys.length, gr, BY, _, S2, w2, ⟨BC, tp', st', fx', S', κ2, q2, x2, Or.inl rfl, rfl⟩, w3, (by rw [Nat.add_zero, upd_s hP]; exact w4), by omega, hle.2.2, hq3, c3, c4, hcsl, by omega, by omega, Nat.le_refl _, by omega, c7, fun _ _ => rfl, fun _ _ => rfl, rfb_I hT0 T0 hyy hNA (by omega) hTr, (fun _ z => nomatch z), Nat.le_refl _, Nat.le_of_ble_eq_true rfl, Nat.le_of_ble_eq_true rfl, (fun z => by have z : (5 : Nat) = 1 := z; omega), (fun z => by have z : (5 : Nat) = 2 := z; omega), Or.inr (Or.inr (Or.inr (Or.inr (Or.inr (Or.inl ⟨rfl, rfl, hk3, rfl, rfl, ?_, rfl, rfl, ⟨c8, r5⟩, hys⟩)))))⟩
      rw [bb_0 hB]
    · left
      rw [if_neg z] at hf
      refine hbad hf ⟨qC Bq (sn + 1) lu (nI 1) ln se 0 co (rowU SW sn ln se (nI ys.length * nI (kdY y)) 5 (nI (kdY y)) (nI cs) (nI 0)) LW, uC (xC BC cs' tp' st' ns' fx' C' A' S' NM' BK') p2' κ2 q2 x2, ?_, rfl, rfl⟩
      rw [hC, hcl, nb_b1, end_C k6, if_neg (fun w => z (k0.mp w))]
/-- texts -/
theorem stj_X {n L e : Nat} {c : Nat → Nat} {BC B Bq : St} {sn lu ln se co cs ns : Nat} {od : Int32} {SW LW NM BK : Nat → Int32} {bs ws X : Nat → Nat} {nL cu : Nat} {PA BY OU : Nat → Int32} {q p1 y : Nat} (J : JH n L e c BC B sn lu ln se cs ns NM BK bs ws X nL cu PA BY q p1 y od) (hyy : y = 124 ∨ y = 125) (tp st : Nat) (fx : Bool) (C A Sx : Nat → Int32) {q1 p' κ τ v : Nat} {x : Int32} (T : TS n L e c BC p1 q1 p' κ τ v x) {ct ap : Nat} {gr : Bool} {S : St} (h : SR B ct gr PA BY OU 0 ap S) : JF n e B (qC Bq sn lu 0 ln se od co SW LW) (uC (xC BC cs tp st ns fx C A Sx NM BK) p' κ q1 x) S ln q y ∨ JG n L e c BC B Bq (uC (xC BC cs tp st ns fx C A Sx NM BK) p' κ q1 x) S sn lu ln se co od SW LW cs ns C A NM bs ws X nL cu PA BY OU q p1 y := by
  obtain ⟨hV, hc, hH, hN, hI, h13, h14, hse, hsn, hcs, hns, hlu, hP, hB, hy, ho, hod, hNA, ⟨κ0, v0, x0, T0⟩, hkw⟩ := id J
  have hT0 := hV.1
  have hq0 : q < p1 := (T0.2.2.2.2.2.1 (fun z => absurd ((ts_0 T0).1.mp z) (by decide))).2
  have hL := hT0.2.1
  have heL := hT0.2.2.1
  have hp1e := (ts_le T0).2.2
  have hY : PY PA cu q := py_J (c := c) hP hse (by omega)
  have hn := hT0.1
  have z0 : od = 0 := od_0 hod (by rcases hyy with w | w <;> (rw [w]; decide +kernel)) (by rcases hyy with w | w <;> (rw [w]; decide +kernel))
  subst z0
  have hq3 : q + 3 ≤ e := nm_5 hkw hp1e (by rcases hyy with w | w <;> (rw [w]; decide +kernel))
  have hC : ∀ s : St × St, df_X1_readStatement n y s = nd_b1 (df_X1_readTexts n (bI (decide (y = 125))) s) (fun (t : St × St) => df_X1_readStatement_206 n t) := fun s => by
    rcases hyy with w | w
    · rw [w]; exact d101_x n s
    · rw [w]; exact d101_z n s
  obtain ⟨ys, f, p2, q2, p2', κ2, τ2, v2, x2, hTr, hys, hcl⟩ := txs_C hT0 (B := Bq) (sn := sn) (lu := lu) (ln := ln) (se := se) (co := co) (od := 0) (SW := SW) (LW := LW) hsn (cs := cs) (tp := tp) (st := st) (ns := ns) (fx := fx) (C := C) (A := A) (S := Sx) (NM := NM) (BK := BK) (decide (y = 125)) T (by omega) hlu
  obtain ⟨S1, r1, r2, r3⟩ := rdr_X hV hc h T0 hyy hNA (by omega) hTr
  have hbad : f = 1 → (∃ (Q' U' : St), df_X1_readStatement n y (qC Bq sn lu 0 ln se 0 co SW LW, (uC (xC BC cs tp st ns fx C A Sx NM BK) p' κ q1 x)) = some (Q', U') ∧ sI Q' 2 = nI 1 ∧ sI Q' 3 = nI ln) → JF n e B (qC Bq sn lu 0 ln se 0 co SW LW) (uC (xC BC cs tp st ns fx C A Sx NM BK) p' κ q1 x) S ln q y := fun hf hh => by
    obtain ⟨Q', U', g1, g2, g3⟩ := hh
    have r2 := r2 (by omega)
    rw [← p14_s (B := B) (v := 0), hf] at r2
    have hfl := flt_n (B := pI (pI B 15 0) 14 (sI B 14)) hV.2.2.2.2.2.2.2 1 (by decide)
    refine ⟨1, Q', U', S1, by decide, by decide, g1, g2, g3, ?_, ⟨_, r2, rfl, rfl, rfl, rfl⟩⟩
    rw [r1, end_F r2 hfl]
  rcases hcl with ⟨hf, lu', LW', hcl⟩ | ⟨hcl, hf, T2, c2, c3⟩
  · left
    refine hbad hf ⟨qC Bq sn lu' (nI 1) ln se 0 co SW LW', uC (xC BC cs tp st ns fx C A Sx NM BK) p2' κ2 q2 x2, ?_, rfl, rfl⟩
    rw [hC, hcl, nb_b1, end_CF (show ¬ nI 1 = 0 by decide)]
  · obtain ⟨k0, k6, _, _⟩ := ts_0 T2
    by_cases z : τ2 = 0
    · rw [if_pos z] at hf
      subst hf
      obtain ⟨r5, r3⟩ := r3 rfl
      rw [← p14_s (B := B) (v := 0)] at r3
      have hC0 := hC (qC Bq sn lu 0 ln se 0 co SW LW, (uC (xC BC cs tp st ns fx C A Sx NM BK) p' κ q1 x))
      rw [hcl, nb_b1] at hC0
      rcases jfin hT0 hC0 r1 r3 T2 with w' | ⟨w1, w2, S2, w3, w4⟩
      · exact Or.inl w'
      right
      rw [p14_s] at w4
      have hle := ts_le T2
      have em : nI (lu + (qtA c e (decide (y = 125)) ys).length) - nI lu = nI (qtA c e (decide (y = 125)) ys).length := by
        rw [pk_sub (by omega), Nat.add_sub_cancel_left]
      rw [em] at w2
      refine ⟨(6, 0, 0, [], qtA c e (decide (y = 125)) ys), 0, 0, 3, (qtA c e (decide (y = 125)) ys).length, none, _, _, _, _, lu + (qtA c e (decide (y = 125)) ys).length, ltW LW lu (qtA c e (decide (y = 125)) ys), cs, ns, C, A, NM, BK, bs, ws, p2', (qtA c e (decide (y = 125)) ys).length, gr, BY, _, S2, w2, ⟨BC, tp, st, fx, Sx, κ2, q2, x2, Or.inl rfl, rfl⟩, w3, (by rw [Nat.add_zero, upd_s hP]; exact w4), by omega, hle.2.2, hq3, ⟨Nat.le_refl _, fun _ _ => ⟨rfl, rfl, rfl, rfl⟩, fun i i1 i2 => by omega⟩, hH, Nat.le_refl _, by omega, by omega, by omega, by omega, fun _ _ => ⟨rfl, rfl⟩, fun i hi => ltW_o _ _ hi, fun _ _ => rfl, rfb_X hT0 T0 hyy hNA (by omega) hTr, (fun _ z => nomatch z), Nat.le_refl _, Nat.le_of_ble_eq_true rfl, Nat.le_of_ble_eq_true rfl, (fun z => by have z : (6 : Nat) = 1 := z; omega), (fun z => by have z : (6 : Nat) = 2 := z; omega), Or.inr (Or.inr (Or.inr (Or.inr (Or.inr (Or.inr (Or.inl ⟨rfl, rfl, rfl, ?_, rfl, rfl, rfl, fun i hi => ltW_g _ _ _ hi⟩))))))⟩
      rw [bb_0 hB]
    · left
      rw [if_neg z] at hf
      refine hbad hf ⟨qC Bq (sn + 1) (lu + (qtA c e (decide (y = 125)) ys).length) (nI 1) ln se 0 co (rowU SW sn ln se (nI (lu + (qtA c e (decide (y = 125)) ys).length) - nI lu) 6 0 (nI lu) (nI 0)) (ltW LW lu (qtA c e (decide (y = 125)) ys)), uC (xC BC cs tp st ns fx C A Sx NM BK) p2' κ2 q2 x2, ?_, rfl, rfl⟩
      rw [hC, hcl, nb_b1, end_C k6, if_neg (fun w => z (k0.mp w))]
