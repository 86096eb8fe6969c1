/-- la and li in later rounds and as they are read -/
theorem laA : shT (sgm 116) = 38 ∧ FRM 116 = [100, 44, 65] ∧ ko_b 116 = 23 ∧ shT (sgm 117) = 39 ∧ FRM 117 = [100, 44, 65] ∧ ko_b 117 = 0 ∧ ko_s 116 = 16 ∧ ko_s 117 = 32 ∧ tb_0 116 = 0 ∧ tb_0 117 = 0 := by decide +kernel
theorem laD : ∀ r : Fin 32, ((23 ||| nI r.1 <<< ((7 : Int32) &&& 31)) >>> ((7 : Int32) &&& 31)) &&& 31 = nI r.1 := by decide +kernel
theorem liD : ∀ r : Fin 32, ((0 ||| nI r.1 <<< ((7 : Int32) &&& 31)) >>> ((7 : Int32) &&& 31)) &&& 31 = nI r.1 := by decide +kernel
theorem la_b (r : Nat) : ko_b 116 ||| 0 ||| RGB (FRM 116) [r] = 23 ||| nI r <<< ((7 : Int32) &&& 31) := by
  rw [laA.2.1, laA.2.2.1]
  simp only [RGB_r100, RGB_s44, rgb_100, or_0]
  rw [show RGB [65] [] = 0 from rfl, or_0]
theorem li_b (r : Nat) : ko_b 117 ||| 0 ||| RGB (FRM 117) [r] = 0 ||| nI r <<< ((7 : Int32) &&& 31) := by
  rw [laA.2.2.2.2.1, laA.2.2.2.2.2.1]
  simp only [RGB_r100, RGB_s44, rgb_100, or_0]
  rw [show RGB [65] [] = 0 from rfl, or_0]
theorem rfb_A {n L e : Nat} {c : Nat → Nat} {BC BR0 : St} (hT0 : atx n L e c BC BR0) {q p1 κ v1 : Nat} {x : Int32} (T : TS n L e c BC q q p1 κ 1 v1 x) (hN : NAr n L c q (p1 - q) 116 0) {p2 : Nat} {rs : List Nat} {m : Nat} {P : Nat → Tp} (hTr : Tr n L e c BC (FRM 116) p1 0 p2 rs m P) {se : Nat} {X0 : Nat → Nat} {W0 : Nat → Int32} {n0 : Nat} : RFB n L e c BC q se 0 3 8 none X0 W0 n0 (3, ko_b 116 ||| 0 ||| RGB (FRM 116) rs, 0, [(m, P)], []) := by
  intro B X nL cu A ct ap μ gr PA BY OU S hV hc hE h14 hP hA hlw hl hb h hμ hw
  have qe : q ≤ e := T.1
  have eL' : e ≤ L := hT0.2.2.1
  have L' : L ≤ 32768 := hT0.2.1
  obtain ⟨m1, m2, m3, m4, m5⟩ := md_n (B := B) hμ
  have hln := hV.2.2.2.2.2.2.2
  obtain ⟨S1, e1, e2, e3⟩ := stm_2 hV.1 hc h (nI μ) T hN
  rw [laA.2.1] at hTr
  obtain ⟨S2, r1, r2, r3⟩ := la_R (RV_p15 hV (nI μ)) (⟨A * 2 ^ 17 + q, hP, by omega, by omega⟩ : PY PA cu q) e2 (by rw [Nat.zero_add]; exact hw) (ptT (sgm 116) ||| 0) (fun u => absurd rfl u) hTr
  obtain ⟨r, z, ms, dv, k1, k2, k3, k4, k5⟩ := r3 rfl
  subst k1
  obtain ⟨z1, z2, z3⟩ := zmd k4
  obtain ⟨t1, t2⟩ := plo_l hμ hln k5
  have eF : sF (3, ko_b 116 ||| 0 ||| RGB (FRM 116) [r], 0, [(m, P)], []) (VW c X e nL q B) (sI B 17) (A % 4) = vF ms dv true := by
    rw [z2, z3]
    rfl
  have eB : sB (3, ko_b 116 ||| 0 ||| RGB (FRM 116) [r], 0, [(m, P)], []) (VW c X e nL q B) (sI B 17) (A % 4) = laL r (z - sI B 17) := by
    rw [la_b, z1]
    show by4 ((23 ||| nI r <<< ((7 : Int32) &&& 31)) ||| hiO (zV (VW c X e nL q B) P m - sI B 17) <<< ((12 : Int32) &&& 31)) ++ by4 ((19 ||| (((23 ||| nI r <<< ((7 : Int32) &&& 31)) >>> ((7 : Int32) &&& 31)) &&& 31) <<< ((7 : Int32) &&& 31)) ||| (((23 ||| nI r <<< ((7 : Int32) &&& 31)) >>> ((7 : Int32) &&& 31)) &&& 31) <<< ((15 : Int32) &&& 31) ||| loO (zV (VW c X e nL q B) P m - sI B 17) <<< ((20 : Int32) &&& 31)) = _
    rw [laD ⟨r, k2⟩]
    rfl
  refine ⟨S2, ?_, fun u w => ?_, fun u => ?_⟩
  · rw [e1, dsp_38 e3 (sgm 116) (sgm_l (by omega)) laA.1 0, r1, nb_b1]
    exact fin_l hμ k5
  · rw [eF] at w ⊢
    exact t1 u w
  · rw [eF] at u
    rw [eB]
    exact ⟨_, p2, gr, k3, fun z => absurd (show (3 : Nat) = 1 ∨ (3 : Nat) = 2 from z) (by decide), t2 u⟩
theorem rdr_A {n L e : Nat} {c : Nat → Nat} {BC B : St} {X : Nat → Nat} {nL cu : Nat} (hV : RV n L e c BC B X nL cu) (hc : cstS B) {ct : Nat} {gr : Bool} {PA BY OU : Nat → Int32} {ap : Nat} {S : St} (h : SR B ct gr PA BY OU 0 ap S) {q p1 κ v1 : Nat} {x : Int32} (T : TS n L e c BC q q p1 κ 1 v1 x) (hY : PY PA cu q) (hN : NAr n L c q (p1 - q) 116 0) {f p2 : Nat} {rs : List Nat} {m : Nat} {P : Nat → Tp} (hTr : Tr n L e c BC (FRM 116) p1 f p2 rs m P) : ∃ S' : St, df_X13_statement n (nI q) 0 S = df_X13_statement_326 n S' ∧ (¬ f = 0 → FL e (pI B 15 0) (nI f + 16 * sI B 13) S') ∧ (f = 0 → SR (pI B 15 0) 8 gr PA BY OU 0 p2 S') := by
  obtain ⟨S1, e1, e2, e3⟩ := stm_2 hV.1 hc h 0 T hN
  have ok0 : ∀ k : Nat, OKW (pI B 15 0) k := fun k u => absurd (show (0 : Int32) = 3 from u) (by decide)
  rw [laA.2.1] at hTr
  obtain ⟨S2, r1, r2, r3⟩ := la_R (RV_p15 hV 0) hY e2 (ok0 _) (ptT (sgm 116) ||| 0) (fun _ => rfl) hTr
  refine ⟨S2, ?_, r2, fun u => ?_⟩
  · rw [e1, dsp_38 e3 (sgm 116) (sgm_l (by omega)) laA.1 0, r1, nb_b1]
  · obtain ⟨r, z, ms, dv, k1, k2, k3, k4, k5⟩ := r3 u
    have pt0 : ∀ bs : List Int32, pt (pI B 15 0) 0 OU bs = OU := fun bs => if_neg (show ¬ (0 : Int32) = 3 by decide)
    have w0 : wiF (pI B 15 0) ms dv true = 0 := if_neg (show ¬ (0 : Int32) = 2 by decide)
    have := k5.1 w0
    rw [pt0] at this
    exact this
/-- fixed rows: nothing is missing -/
theorem fx_ms {c X : Nat → Nat} {e nL st : Nat} {ts ad : Int32} {W : Nat → Int32} {P : Nat → Tp} {m : Nat} (hl : lsF (loV c X e nL) P m = false) (hc : ∀ i : Nat, i < m → 1 ≤ (P i).1 ∧ (P i).1 ≤ 20 ∧ ¬ (P i).1 = 15) : mV (VV c X e nL st ts ad W) P m = false := by
  refine rn_ms m (fun i hi h16 => ?_)
  have hh := (lsF_0 m).mp hl i hi h16
  have cp := hc i hi
  generalize P i = o at hh cp h16
  obtain ⟨κ, q, v⟩ := o
  have h16 : 16 ≤ κ := h16
  have cp : 1 ≤ κ ∧ κ ≤ 20 ∧ ¬ κ = 15 := cp
  rcases (show κ = 16 ∨ κ = 17 ∨ κ = 18 ∨ κ = 19 ∨ κ = 20 by omega) with z | z | z | z | z
  · subst z; rfl
  · subst z
    have hh : (!(decide (nmK c X nL q (eT c e q - q) < nL) && decide (X (nmK c X nL q (eT c e q - q)) / 131072 = 2))) = false := hh
    rw [Bool.not_eq_false', Bool.and_eq_true] at hh
    have y := of_decide_eq_true hh.1
    show (if nmK c X nL q (eT c e q - q) < nL then (vlO ts X W (nmK c X nL q (eT c e q - q)), false) else ((0 : Int32), true)).2 = false
    rw [if_pos y]
  all_goals (subst z; exact absurd hh (by decide : ¬ true = false))
/-- what is kept of an expression that was fixed when it was read: its value z -/
def FXD (c : Nat → Nat) (e : Nat) (X0 : Nat → Nat) (W0 : Nat → Int32) (n0 : Nat) (P : Nat → Tp) (m : Nat) (z : Int32) : Prop := lsF (loV c X0 e n0) P m = false ∧ (∀ i : Nat, i < m → 1 ≤ (P i).1 ∧ (P i).1 ≤ 20 ∧ ¬ (P i).1 = 15) ∧ ∃ (st0 : Nat) (ts0 ad0 : Int32), zV (VV c X0 e n0 st0 ts0 ad0 W0) P m = z ∧ dV (VV c X0 e n0 st0 ts0 ad0 W0) P m = false
theorem FXD_V {c : Nat → Nat} {e : Nat} {X0 : Nat → Nat} {W0 : Nat → Int32} {n0 : Nat} {P : Nat → Tp} {m : Nat} {z : Int32} (h : FXD c e X0 W0 n0 P m z) {X : Nat → Nat} {nL st : Nat} {B : St} (hE : tbE X0 W0 n0 X nL B) : zV (VW c X e nL st B) P m = z ∧ mV (VW c X e nL st B) P m = false ∧ dV (VW c X e nL st B) P m = false := by
  obtain ⟨h1, h2, st0, ts0, ad0, h3, h4⟩ := h
  have r := fix_V (c := c) (e := e) (X := X) (nL := nL) (st := st) (st0 := st0) (ts := sI B 4) (ts0 := ts0) (ad := sI B 17) (ad0 := ad0) (B := B) h1 hE h2
  have ms := fx_ms (c := c) (X := X0) (e := e) (nL := n0) (st := st0) (ts := ts0) (ad := ad0) (W := W0) h1 h2
  unfold zV mV dV at *
  unfold VW
  rw [r]
  exact ⟨h3, ms, h4⟩
/-- a fixed expression in a later round -/
theorem fix_L {n L e : Nat} {c : Nat → Nat} {BC B : St} {X : Nat → Nat} {nL st cu : Nat} (hV : RV n L e c BC B X nL cu) {ct : Nat} {gr : Bool} {PA BY OU : Nat → Int32} (hY : PY PA cu st) {p : Nat} {S : St} (h : SR B ct gr PA BY OU 0 p S) (hm : ¬ sI B 15 = 0) {p2 m : Nat} {P : Nat → Tp} (R : RX n L e c BC p true p2 m P) {X0 : Nat → Nat} {W0 : Nat → Int32} {n0 : Nat} {z : Int32} (hF : FXD c e X0 W0 n0 P m z) (hE : tbE X0 W0 n0 X nL B) (lo hi : Int32) : ∃ S' : St, df_X13_fixed n lo hi S = some (z, S') ∧ p2 ≤ e ∧ SR B ct gr PA BY OU 0 p2 S' := by
  obtain ⟨S1, e1, e2, e3⟩ := fix_M hV hY h hm R lo hi
  obtain ⟨f1, f2, f3⟩ := FXD_V (st := st) hF hE
  rw [f1] at e1
  rw [f2, f3, show exF B false false = 0 from if_neg (fun u => by rcases u.2 with u | u <;> exact nomatch u)] at e3
  exact ⟨S1, e1, e2, e3⟩
theorem rfb_N {n L e : Nat} {c : Nat → Nat} {BC BR0 : St} (hT0 : atx n L e c BC BR0) {q p1 κ v1 : Nat} {x : Int32} (T : TS n L e c BC q q p1 κ 1 v1 x) (hN : NAr n L c q (p1 - q) 117 0) {q1 p2 κ1 τ1 w1 : Nat} {x1 : Int32} (T1 : TS n L e c BC p1 q1 p2 κ1 τ1 w1 x1) (g1 : tkG c τ1 q1 p2 < 32) {q2 p3 κ2 τ2 w2 : Nat} {x2 : Int32} (T2 : TS n L e c BC p2 q2 p3 κ2 τ2 w2 x2) (t2 : τ2 = 44) {p4 m : Nat} {P : Nat → Tp} (R : RX n L e c BC p3 true p4 m P) {X0 : Nat → Nat} {W0 : Nat → Int32} {n0 : Nat} {z : Int32} (hF : FXD c e X0 W0 n0 P m z) {se : Nat} : RFB n L e c BC q se 0 3 8 none X0 W0 n0 (4, nI (tkG c τ1 q1 p2), 0, [], numB (nI (tkG c τ1 q1 p2)) z) := by
  intro B X nL cu A ct ap μ gr PA BY OU S hV hc hE h14 hP hA hlw hl hb h hμ hw
  have qe : q ≤ e := T.1
  have eL' : e ≤ L := hT0.2.2.1
  have L' : L ≤ 32768 := hT0.2.1
  obtain ⟨m1, m2, m3, m4, m5⟩ := md_n (B := B) hμ
  have hV' := RV_p15 hV (nI μ)
  have hY : PY PA cu q := ⟨A * 2 ^ 17 + q, hP, by omega, by omega⟩
  obtain ⟨S1, e1, e2, e3⟩ := stm_2 hV.1 hc h (nI μ) T hN
  obtain ⟨S2, f1, f2⟩ := tak_y (B := pI B 15 (nI μ)) hV.1 e2 T1 g1
  obtain ⟨S3, f3, f4⟩ := com_y (B := pI B 15 (nI μ)) hV.1 f2 T2 t2
  obtain ⟨S4, f5, f6, f7⟩ := fix_L hV' hY f4 (by rw [m1]; exact m2) R hF hE (-2147483648) 2147483647
  obtain ⟨S5, f8, f9⟩ := li_94 (n := n) f7 (tkG c τ1 q1 p2) g1 z (by rw [Nat.zero_add]; exact hw)
  have f15 := SR_15 f9
  rw [pt_3 hμ] at f9
  refine ⟨S5, ?_, fun _ w => absurd rfl w, fun _ => ⟨_, p4, gr, f6, fun u => absurd (show (4 : Nat) = 1 ∨ (4 : Nat) = 2 from u) (by decide), f9⟩⟩
  · rw [e1, dsp_39 e3 (sgm 117) (sgm_l (by omega)) laA.2.2.2.1 0]
    unfold df_X13_others df_X13_others_0
    rw [f1, nb_b2, if_neg (by decide), f3, nb_b2, if_neg (by decide), if_pos (by decide), if_pos rfl, f5, nb_b2, f8, nb_b1]
    exact s326 (by rw [f15, m1]; exact m2)
