/-- a bracket of %hi or %lo -/
theorem jP_1 (n L e : Nat) (c : Nat → Nat) (BC : St) (C0 A0 : Nat → Int32) (s0 : Nat) (N : Nat) {BR0 : St} (hT0 : atx n L e c BC BR0) (hA : clA n L e c BC C0 A0 s0 N) (p q p' v : Nat) (x : Int32) (l : List Nat) (m : Nat) (P : Nat → Tp) (ns : Nat) (fx : Bool) (C A S NM BK : Nat → Int32) (bs ws : Nat → Nat) (k g : Nat) (x1 : Int32) (hN : e - p < N + 1) (hT : TS n L e c BC p q p' 5 37 v x) (hE : EC L e c BC C0 A0 s0 p m ns l P fx C A S NM BK bs ws) (h2 : (flat l).length + nbS l ≤ p) (hns : 2 * ns ≤ p) (hk : e - p + 1 ≤ k + 2) (hk2 : k < 2 ^ 20) (hg : e - p + 3 ≤ g + 2) (qa va : Nat) (xa : Int32) (y : Nat) (hy : (y = 13 ∧ c qa = 104 ∧ c (qa + 1) = 105) ∨ (y = 14 ∧ c qa = 108 ∧ c (qa + 1) = 111)) (hTa : TS n L e c BC p' qa (qa + 2) 1 1 va xa) (qb pb κb τb vb : Nat) (xb : Int32) (hTb : TS n L e c BC (qa + 2) qb pb κb τb vb xb) : ∃ (ok : Bool) (p2 q2 p2' κ2 τ2 v2 : Nat) (x2 : Int32) (m2 : Nat) (P2 : Nat → Tp) (ns2 : Nat) (fx2 : Bool) (C2 A2 S2 NM2 BK2 : Nat → Int32) (bs2 ws2 : Nat → Nat) (tp2 : Nat), df_X9_sum_26 n g x1 (nI k) (uC (xC BC (s0 + m) l.length (if y = 13 then 3 else 4) ns fx C A S NM BK) pb κb qb xb) = some (if ok = true then x1 else -1, (uC (xC BC (s0 + m2 + 1) tp2 (if ok = true then 5 else 6) ns2 fx2 C2 A2 S2 NM2 BK2) p2' κ2 q2 x2)) ∧ PS ns NM bs ws ns2 NM2 bs2 ws2 ∧ HTS n L e c BC ns2 NM2 BK2 bs2 ws2 q2 p2' κ2 x2 ∧ (ok = true → TS n L e c BC p2 q2 p2' κ2 τ2 v2 x2 ∧ p ≤ p2 ∧ CR (sR BC 5) c e C0 A0 s0 ns2 bs2 ws2 m2 P2 C2 A2 ∧ C2 (s0 + m2) = 21 ∧ (fx2 = true ↔ fxQ c e bs2 ws2 NM2 ns2 m2 P2) ∧ s0 + m2 ≤ p2 ∧ 2 * ns2 ≤ p2 + 1 ∧ 0 < m2) ∧ RO n L e c BC p ok p2 m2 P2 true l m P (nbS l) := by
  obtain ⟨hn, hL, heL, h127, hend, hce, hO, hst, htC, h0, htR, hch⟩ := id hT0
  obtain ⟨t1, t2, t3, t4, t5, t6, t7, t8, t9⟩ := id hT
  obtain ⟨E1, E2, E3, E4, E5, E6⟩ := id hE
  obtain ⟨u1, u2, u3, u4, u5, u6, u7, u8, u9⟩ := id hTa
  obtain ⟨w1, w2, w3, w4, w5, w6, w7, w8, w9⟩ := id hTb
  obtain ⟨q1, q2⟩ := t6 (by decide)
  have κb6 : κb ≤ 6 := by unfold tkK at w7; omega
  have y14 : y = 13 ∨ y = 14 := by omega
  have hc : df_X9_takeHalf n (uC (xC BC (s0 + m) l.length (if y = 13 then 3 else 4) ns fx C A S NM BK) pb κb qb xb) = some (uC (xC BC (s0 + m) (l.length + 1) (if decide (κb = 5 ∧ xb = 40) = true then 0 else 6) ns fx C A (upd S l.length (nI y)) NM BK) pb κb qb xb) := by
    have h := xh_2 (n := n) (B := BC) (cs := s0 + m) (tp := l.length) (st := if y = 13 then 3 else 4) (ns := ns) (fx := fx) (C := C) (A := A) (S := S) (NM := NM) (BK := BK) (ap := pb) (kd := κb) (fr := qb) (nm := xb) (by omega) κb6 (by split <;> omega)
    have e0 : (if (if y = 13 then 3 else 4) = 3 then (13 : Int32) else 14) = nI y := by
      rcases y14 with z | z <;> subst z <;> rfl
    rw [e0] at h
    exact h
  have τb3 : τb < 300 ∧ (τb = 40 ↔ (κb = 5 ∧ xb = 40)) := by
    by_cases z : κb = 5
    · subst z
      have h5 := tk_5 w7
      have hx := w8 (Or.inr (Or.inr rfl))
      refine ⟨by omega, fun z => ⟨rfl, ?_⟩, fun z => ?_⟩
      · rw [hx, show vb = 40 by omega]; rfl
      · have z2 := z.2
        rw [hx] at z2
        have z2 : nI vb = nI 40 := z2
        rw [nI_eq (by omega) (by omega)] at z2
        omega
    · have := (tk_n w7 z).1
      exact ⟨by omega, fun u => by omega, fun u => absurd u.1 z⟩
  have s7 : ∀ (s : Nat), s = (if y = 13 then 3 else 4) → (¬ nI s = (5 : Int32)) ∧ (¬ nI s = (6 : Int32)) ∧ (¬ nI s = (0 : Int32)) ∧ (¬ nI s = (1 : Int32)) := fun s hs => by
    subst hs
    rcases y14 with z | z <;> subst z <;> decide
  obtain ⟨s71, s72, s73, s74⟩ := s7 _ rfl
  have refO : ∀ (B : St), atx n L e c BC B → ∀ (vs : List Int32) (ms dv ls : Bool) (PL : Nat → Int32) (xr : Int32), (flat l).length + 1 < 32800 → ∃ (p3 : Nat) (x3 : Int32), (p3 = pb ∨ (τb = 5 ∧ p3 = qb)) ∧ df_X13_operand n (uR (xR B 0 ms dv ls (flat l).length (32800 - vs.length) PL) p' 37 q p' xr) = if τb = 40 then some (0, (uR (xR B 0 ms dv ls ((flat l).length + 1 + 1) (32800 - vs.length) (upd (upd PL (flat l).length (nI (uo y))) ((flat l).length + 1) 1)) p3 τb qb p3 x3)) else some (0, (uR (xR B (1 + 16 * sI B 13) ms dv ls ((flat l).length + 1) (32800 - vs.length) (upd PL (flat l).length (nI (uo y)))) p3 τb qb p3 x3)) := fun B hTB vs ms dv ls PL xr hl => by
    obtain ⟨xr2, p2r, s1, s2, s3⟩ := u9 (xR B 0 ms dv ls (flat l).length (32800 - vs.length) PL) (at_R hTB) 37 q p' xr
    have e2 : p2r = qa + 2 := by omega
    subst e2
    obtain ⟨xr3, p3r, z1, z2, z3⟩ := w9 (xR B 0 ms dv ls ((flat l).length + 1) (32800 - vs.length) (upd PL (flat l).length (nI (uo y)))) (at_R hTB) 1 qa (qa + 2) xr2
    have r1 := roP_1 (n := n) (BC := BC) (B := B) hTB (ms := ms) (dv := dv) (ls := ls) (sg := (flat l).length) (vl := 32800 - vs.length) (PL := PL) (fr := q) (to := p') (nm := xr) hl (p := p') (q2 := qa) (x2 := xr2) (by omega) y hy s1
    have r2 := p216 (n := n) (B := B) (ft := 0) (ms := ms) (dv := dv) (ls := ls) (sg := (flat l).length) (vl := 32800 - vs.length) (PL := PL) (ap := qa + 2) (tk := 1) (fr := qa) (to := qa + 2) (nm := xr2) (uo y) hl τb3.1 z1
    rw [if_pos rfl] at r2
    exact ⟨p3r, xr3, z2, r1.trans r2⟩
  by_cases br : τb = 40
  · have dec : decide (κb = 5 ∧ xb = 40) = true := decide_eq_true (τb3.2.mp br)
    rw [dec] at hc
    have hc : df_X9_takeHalf n (uC (xC BC (s0 + m) l.length (if y = 13 then 3 else 4) ns fx C A S NM BK) pb κb qb xb) = some (uC (xC BC (s0 + m) (l.length + 1) 0 ns fx C A (upd S l.length (nI y)) NM BK) pb κb qb xb) := hc
    have κb0 : ¬ κb = 0 := fun z => by have := (τb3.2.mp br).1; omega
    obtain ⟨v1, v2'⟩ := w6 κb0
    obtain ⟨qn, pn, κn, τn, vn, xn, n1, n2⟩ := nx_1 hT0 (cs := s0 + m) (tp := l.length + 1) (st := 0) (ns := ns) (fx := fx) (C := C) (A := A) (S := upd S l.length (nI y)) (NM := NM) (BK := BK) pb κb qb xb w5 (fun i i1 i2 => t2 i (by omega) i2)
    obtain ⟨g, rfl⟩ : ∃ j : Nat, g = j + 1 := ⟨g - 1, by omega⟩
    obtain ⟨k, rfl⟩ : ∃ j : Nat, k = j + 1 := ⟨k - 1, by omega⟩
    have st := su_n (n := n) (g := g) (x1 := x1) k (by omega) (s := (uC (xC BC (s0 + m) l.length (if y = 13 then 3 else 4) ns fx C A S NM BK) pb κb qb xb)) (s' := (uC (xC BC (s0 + m) (l.length + 1) 0 ns fx C A (upd S l.length (nI y)) NM BK) pb κb qb xb)) s71 s72 ((if_neg s73).trans ((if_neg s74).trans hc)) (show ¬ nI 0 = (5 : Int32) by decide) (show ¬ nI 0 = (6 : Int32) by decide) n1
    have fl : flat (y :: l) = sgO y :: uo y :: flat l := by show sgO y :: (if y = 13 ∨ y = 14 then uo y :: flat l else flat l) = _; rw [if_pos y14]
    have fll : (flat (y :: l)).length = (flat l).length + 1 + 1 := by rw [fl]; rfl
    have nbl : nbS (y :: l) = nbS l := by show (if y ≤ 10 then 1 else 0) + nbS l = _; rw [if_neg (by omega), Nat.zero_add]
    have bkl : bkS (y :: l) = bkS l + 1 := by show (if 13 ≤ y then 1 else 0) + bkS l = _; rw [if_pos (by omega), Nat.add_comm]
    have sg1 : sgO y = 1 := by rcases y14 with z | z <;> subst z <;> rfl
    obtain ⟨ok, p2, q2', p2', κ2, τ2, v2, x2, m2, P2, ns2, fx2, C2, A2, S2, NM2, BK2, bs2, ws2, tp2, r1, r2, r3, r4, r5⟩ := hA pb qn pn κn τn vn xn (y :: l) m P ns fx C A (upd S l.length (nI y)) NM BK bs ws k g x1 (by omega) n2 ⟨⟨by omega, fun z => absurd z (by omega), E1⟩, stk_p y E2, E3, E4, E5, by show s0 + m + (l.length + 1) ≤ pb; omega⟩ (by rw [fll, nbl]; omega) (by omega) (by omega) (by omega) (by omega)
    refine ⟨ok, p2, q2', p2', κ2, τ2, v2, x2, m2, P2, ns2, fx2, C2, A2, S2, NM2, BK2, bs2, ws2, tp2, st.trans r1, r2, r3, fun z => ?_, ?_⟩
    · obtain ⟨a1, a2, a3⟩ := r4 z
      exact ⟨a1, by omega, a3⟩
    · intro B V lo hTB hV hln vs ms dv ls PL tk fr to nm gr hER hvl hgr
      obtain ⟨gr, rfl⟩ : ∃ j : Nat, gr = j + 1 := ⟨gr - 1, by omega⟩
      obtain ⟨xr, p3, s1, s2, s3⟩ := t9 (xR B 0 ms dv ls (flat l).length (32800 - vs.length) PL) (at_R hTB) tk fr to nm
      have p3e : p3 = p' := by omega
      subst p3e
      obtain ⟨R1, R2, R3, R4⟩ := hER
      obtain ⟨pr, xr3, b1, b2⟩ := refO B hTB vs ms dv ls PL xr (by omega)
      rw [if_pos br] at b2
      have pre : pr = pb := by omega
      subst pre
      have e1 := e33_1 (n := n) (g := gr) (x1 := nI (bkS l)) (K := (uR (xR B 0 ms dv ls (flat l).length (32800 - vs.length) PL) p tk fr to nm)) (s24 := (uR (xR B 0 ms dv ls (flat l).length (32800 - vs.length) PL) p3 37 q p3 xr)) (τ := 37) rfl s1 rfl (by omega)
      have e2 := e81_1 (n := n) (op := bkS l) (G := df_X13_expression_33 n gr) (y := decide (37 = 40 ∨ 37 = 37)) (r := false) (s := (uR (xR B 0 ms dv ls (flat l).length (32800 - vs.length) PL) p3 37 q p3 xr)) b2
      obtain ⟨w, ft2, ms2, dv2, ls2, sg2, vl2, PL2, ap2, tk2, fr2, to2, nm2, z1, z2, z3, z4⟩ := r5 B V lo hTB hV hln vs ms dv ls (upd (upd PL (flat l).length (nI (uo y))) ((flat l).length + 1) 1) τb qb pr xr3 gr ⟨by
        rw [fl, sg1]
        exact stk_p (l := uo y :: flat l) 1 (stk_p (uo y) R1), vst_u _ _ (by omega) (vst_u _ _ (by omega) R2), R3, R4⟩ (by omega) (by omega)
      refine ⟨w, ft2, ms2, dv2, ls2, sg2, vl2, PL2, ap2, tk2, fr2, to2, nm2, ?_, z2, z3, z4⟩
      refine Eq.trans e1 (Eq.trans e2 ?_)
      rw [fll, bkl] at z1
      exact z1
  · have dec : decide (κb = 5 ∧ xb = 40) = false := decide_eq_false (fun z => br (τb3.2.mpr z))
    rw [dec] at hc
    have hc : df_X9_takeHalf n (uC (xC BC (s0 + m) l.length (if y = 13 then 3 else 4) ns fx C A S NM BK) pb κb qb xb) = some (uC (xC BC (s0 + m) (l.length + 1) 6 ns fx C A (upd S l.length (nI y)) NM BK) pb κb qb xb) := hc
    obtain ⟨g, rfl⟩ : ∃ j : Nat, g = j + 1 + 1 := ⟨g - 2, by omega⟩
    obtain ⟨k, rfl⟩ : ∃ j : Nat, k = j + 1 := ⟨k - 1, by omega⟩
    have st := su_e (n := n) (g := g) (x1 := x1) k (by omega) (s := (uC (xC BC (s0 + m) l.length (if y = 13 then 3 else 4) ns fx C A S NM BK) pb κb qb xb)) (s' := (uC (xC BC (s0 + m) (l.length + 1) 6 ns fx C A (upd S l.length (nI y)) NM BK) pb κb qb xb)) s71 s72 ((if_neg s73).trans ((if_neg s74).trans hc)) (Or.inr (show nI 6 = (6 : Int32) from rfl))
    have sz := su_z (n := n) (B := BC) (cs := s0 + m) (tp := l.length + 1) (st := 6) (ns := ns) (fx := fx) (C := C) (A := A) (S := upd S l.length (nI y)) (NM := NM) (BK := BK) (ap := pb) (kd := κb) (fr := qb) (nm := xb) x1 (by omega) (Or.inr rfl)
    refine ⟨false, 0, qb, pb, κb, 0, 0, xb, m, P, ns, fx, _, _, _, NM, BK, bs, ws, l.length + 1, st.trans sz, PS_r, ⟨E4, qa + 2, τb, vb, hTb⟩, fun z => absurd z (by decide), ?_⟩
    intro B V lo hTB hV hln vs ms dv ls PL tk fr to nm gr hER hvl hgr
    obtain ⟨gr, rfl⟩ : ∃ j : Nat, gr = j + 1 + 1 := ⟨gr - 2, by omega⟩
    obtain ⟨xr, p3, s1, s2, s3⟩ := t9 (xR B 0 ms dv ls (flat l).length (32800 - vs.length) PL) (at_R hTB) tk fr to nm
    have p3e : p3 = p' := by omega
    subst p3e
    obtain ⟨ln, l1, l2⟩ := hln
    obtain ⟨pr, xr3, b1, b2⟩ := refO B hTB vs ms dv ls PL xr (by omega)
    rw [if_neg br] at b2
    have e1 := e33_1 (n := n) (g := gr + 1) (x1 := nI (bkS l)) (K := (uR (xR B 0 ms dv ls (flat l).length (32800 - vs.length) PL) p tk fr to nm)) (s24 := (uR (xR B 0 ms dv ls (flat l).length (32800 - vs.length) PL) p3 37 q p3 xr)) (τ := 37) rfl s1 rfl (by omega)
    have e2 := e81_1 (n := n) (op := bkS l) (G := df_X13_expression_33 n (gr + 1)) (y := decide (37 = 40 ∨ 37 = 37)) (r := false) (s := (uR (xR B 0 ms dv ls (flat l).length (32800 - vs.length) PL) p3 37 q p3 xr)) b2
    exact ⟨0, 1 + 16 * sI B 13, ms, dv, ls, (flat l).length + 1, 32800 - vs.length, _, pr, τb, qb, pr, xr3, e1.trans (e2.trans (ef_1 hn gr _ _ _ (f1_n l2 l1))), by omega, fun z => absurd z (by decide), fun _ => rfl⟩
/-- %hi and %lo, in both -/
theorem jA_P (n L e : Nat) (c : Nat → Nat) (BC : St) (C0 A0 : Nat → Int32) (s0 : Nat) (N : Nat) {BR0 : St} (hT0 : atx n L e c BC BR0) (hA : clA n L e c BC C0 A0 s0 N) (p q p' κ τ v : Nat) (x : Int32) (l : List Nat) (m : Nat) (P : Nat → Tp) (ns : Nat) (fx : Bool) (C A S NM BK : Nat → Int32) (bs ws : Nat → Nat) (k g : Nat) (x1 : Int32) (hN : e - p < N + 1) (hT : TS n L e c BC p q p' κ τ v x) (hE : EC L e c BC C0 A0 s0 p m ns l P fx C A S NM BK bs ws) (h2 : (flat l).length + nbS l ≤ p) (hns : 2 * ns ≤ p) (hk : e - p + 1 ≤ k) (hk2 : k < 2 ^ 20) (hg : e - p + 3 ≤ g) (hκ : κ = 5) (hv : v = 37) : ∃ (ok : Bool) (p2 q2 p2' κ2 τ2 v2 : Nat) (x2 : Int32) (m2 : Nat) (P2 : Nat → Tp) (ns2 : Nat) (fx2 : Bool) (C2 A2 S2 NM2 BK2 : Nat → Int32) (bs2 ws2 : Nat → Nat) (tp2 : Nat), df_X9_sum_26 n g x1 (nI k) (uC (xC BC (s0 + m) l.length 0 ns fx C A S NM BK) p' κ q x) = some (if ok = true then x1 else -1, (uC (xC BC (s0 + m2 + 1) tp2 (if ok = true then 5 else 6) ns2 fx2 C2 A2 S2 NM2 BK2) p2' κ2 q2 x2)) ∧ PS ns NM bs ws ns2 NM2 bs2 ws2 ∧ HTS n L e c BC ns2 NM2 BK2 bs2 ws2 q2 p2' κ2 x2 ∧ (ok = true → TS n L e c BC p2 q2 p2' κ2 τ2 v2 x2 ∧ p ≤ p2 ∧ CR (sR BC 5) c e C0 A0 s0 ns2 bs2 ws2 m2 P2 C2 A2 ∧ C2 (s0 + m2) = 21 ∧ (fx2 = true ↔ fxQ c e bs2 ws2 NM2 ns2 m2 P2) ∧ s0 + m2 ≤ p2 ∧ 2 * ns2 ≤ p2 + 1 ∧ 0 < m2) ∧ RO n L e c BC p ok p2 m2 P2 true l m P (nbS l) := by
  obtain ⟨hn, hL, heL, h127, hend, hce, hO, hst, htC, h0, htR, hch⟩ := id hT0
  obtain ⟨t1, t2, t3, t4, t5, t6, t7, t8, t9⟩ := id hT
  obtain ⟨E1, E2, E3, E4, E5, E6⟩ := id hE
  subst hκ
  have hx : x = nI v := t8 (Or.inr (Or.inr rfl))
  have h5 := tk_5 t7
  have hτ : τ = 37 := by omega
  subst hv
  subst hτ
  subst hx
  obtain ⟨q1, q2⟩ := t6 (by decide)
  have hc : df_X9_takeOperand n (uC (xC BC (s0 + m) l.length 0 ns fx C A S NM BK) p' 5 q (nI 37)) = some (uC (xC BC (s0 + m) l.length 2 ns fx C A S NM BK) p' 5 q (nI 37)) := by
    have h := xd_X (n := n) (B := BC) (cs := s0 + m) (tp := l.length) (st := 0) (ns := ns) (fx := fx) (C := C) (A := A) (S := S) (NM := NM) (BK := BK) (ap := p') (kd := 5) (fr := q) (nm := nI 37) (Or.inr (Or.inr (Or.inr ⟨rfl, 37, by omega, rfl, by omega, by omega, by omega⟩)))
    rw [if_pos ⟨rfl, rfl⟩] at h
    exact h
  obtain ⟨qa, pa, κa, τa, va, xa, n1, n2⟩ := nx_1 hT0 (cs := s0 + m) (tp := l.length) (st := 2) (ns := ns) (fx := fx) (C := C) (A := A) (S := S) (NM := NM) (BK := BK) p' 5 q (nI 37) t5 (fun i i1 i2 => t2 i (by omega) i2)
  obtain ⟨u1, u2, u3, u4, u5, u6, u7, u8, u9⟩ := id n2
  obtain ⟨g, rfl⟩ : ∃ j : Nat, g = j + 1 := ⟨g - 1, by omega⟩
  obtain ⟨k, rfl⟩ : ∃ j : Nat, k = j + 1 := ⟨k - 1, by omega⟩
  have st := su_n (n := n) (g := g) (x1 := x1) k (by omega) (s := (uC (xC BC (s0 + m) l.length 0 ns fx C A S NM BK) p' 5 q (nI 37))) (s' := (uC (xC BC (s0 + m) l.length 2 ns fx C A S NM BK) p' 5 q (nI 37))) (show ¬ nI 0 = (5 : Int32) by decide) (show ¬ nI 0 = (6 : Int32) by decide) ((if_pos (show nI 0 = (0 : Int32) from rfl)).trans hc) (show ¬ nI 2 = (5 : Int32) by decide) (show ¬ nI 2 = (6 : Int32) by decide) n1
  have κa6 : κa ≤ 6 := by unfold tkK at u7; omega
  obtain ⟨wa, ea⟩ : ∃ w : Nat, pa = qa + w := ⟨pa - qa, by omega⟩
  subst ea
  have hh := xh_1 (n := n) (L := L) (e := e) (c := c) (B := BC) (BR := BR0) (cs := s0 + m) (tp := l.length) (ns := ns) (fx := fx) (C := C) (A := A) (S := S) (NM := NM) (BK := BK) (fr := qa) (l := wa) (kd := κa) (nm := xa) hT0 κa6 (by omega)
  by_cases good : κa = 1 ∧ wa = 2 ∧ ((c qa = 104 ∧ c (qa + 1) = 105) ∨ (c qa = 108 ∧ c (qa + 1) = 111))
  · obtain ⟨g1, g2, g3⟩ := good
    subst g1
    subst g2
    obtain ⟨y, hy, hst⟩ : ∃ y : Nat, ((y = 13 ∧ c qa = 104 ∧ c (qa + 1) = 105) ∨ (y = 14 ∧ c qa = 108 ∧ c (qa + 1) = 111)) ∧ (if 1 = 1 ∧ 2 = 2 ∧ c qa = 104 ∧ c (qa + 1) = 105 then 3 else if 1 = 1 ∧ 2 = 2 ∧ c qa = 108 ∧ c (qa + 1) = 111 then 4 else 6) = (if y = 13 then 3 else 4) := by
      rcases g3 with z | z
      · exact ⟨13, Or.inl ⟨rfl, z⟩, by rw [if_pos ⟨rfl, rfl, z⟩]; rfl⟩
      · exact ⟨14, Or.inr ⟨rfl, z⟩, by rw [if_neg (by omega), if_pos ⟨rfl, rfl, z⟩]; rfl⟩
    rw [hst] at hh
    have τa1 : τa = 1 := ((tk_n u7 (by decide)).2.1).mpr rfl
    subst τa1
    obtain ⟨qb, pb, κb, τb, vb, xb, m1, m2'⟩ := nx_1 hT0 (cs := s0 + m) (tp := l.length) (st := if y = 13 then 3 else 4) (ns := ns) (fx := fx) (C := C) (A := A) (S := S) (NM := NM) (BK := BK) (qa + 2) 1 qa xa u5 (fun i i1 i2 => t2 i (by omega) i2)
    obtain ⟨g, rfl⟩ : ∃ j : Nat, g = j + 1 := ⟨g - 1, by omega⟩
    obtain ⟨k, rfl⟩ : ∃ j : Nat, k = j + 1 := ⟨k - 1, by omega⟩
    have y14 : y = 13 ∨ y = 14 := by omega
    have st2 := su_n (n := n) (g := g) (x1 := x1) k (by omega) (s := (uC (xC BC (s0 + m) l.length 2 ns fx C A S NM BK) (qa + 2) 1 qa xa)) (s' := (uC (xC BC (s0 + m) l.length (if y = 13 then 3 else 4) ns fx C A S NM BK) (qa + 2) 1 qa xa)) (show ¬ nI 2 = (5 : Int32) by decide) (show ¬ nI 2 = (6 : Int32) by decide) ((if_neg (show ¬ nI 2 = (0 : Int32) by decide)).trans ((if_neg (show ¬ nI 2 = (1 : Int32) by decide)).trans hh)) (show ¬ nI (if y = 13 then 3 else 4) = (5 : Int32) by rcases y14 with z | z <;> subst z <;> decide) (show ¬ nI (if y = 13 then 3 else 4) = (6 : Int32) by rcases y14 with z | z <;> subst z <;> decide) m1
    obtain ⟨ok, p2, q2', p2', κ2, τ2, v2, x2, m2, P2, ns2, fx2, C2, A2, S2, NM2, BK2, bs2, ws2, tp2, r1, r2⟩ := jP_1 n L e c BC C0 A0 s0 N hT0 hA p q p' 37 (nI 37) l m P ns fx C A S NM BK bs ws k g x1 hN hT hE h2 hns (by omega) (by omega) (by omega) qa va xa y hy n2 qb pb κb τb vb xb m2'
    exact ⟨ok, p2, q2', p2', κ2, τ2, v2, x2, m2, P2, ns2, fx2, C2, A2, S2, NM2, BK2, bs2, ws2, tp2, st.trans (st2.trans r1), r2⟩
  · rw [if_neg (show ¬ (κa = 1 ∧ wa = 2 ∧ c qa = 104 ∧ c (qa + 1) = 105) from fun z => good ⟨z.1, z.2.1, Or.inl z.2.2⟩), if_neg (show ¬ (κa = 1 ∧ wa = 2 ∧ c qa = 108 ∧ c (qa + 1) = 111) from fun z => good ⟨z.1, z.2.1, Or.inr z.2.2⟩)] at hh
    obtain ⟨g, rfl⟩ : ∃ j : Nat, g = j + 1 + 1 := ⟨g - 2, by omega⟩
    obtain ⟨k, rfl⟩ : ∃ j : Nat, k = j + 1 := ⟨k - 1, by omega⟩
    have st2 := su_e (n := n) (g := g) (x1 := x1) k (by omega) (s := (uC (xC BC (s0 + m) l.length 2 ns fx C A S NM BK) (qa + wa) κa qa xa)) (s' := (uC (xC BC (s0 + m) l.length 6 ns fx C A S NM BK) (qa + wa) κa qa xa)) (show ¬ nI 2 = (5 : Int32) by decide) (show ¬ nI 2 = (6 : Int32) by decide) ((if_neg (show ¬ nI 2 = (0 : Int32) by decide)).trans ((if_neg (show ¬ nI 2 = (1 : Int32) by decide)).trans hh)) (Or.inr (show nI 6 = (6 : Int32) from rfl))
    have sz := su_z (n := n) (B := BC) (cs := s0 + m) (tp := l.length) (st := 6) (ns := ns) (fx := fx) (C := C) (A := A) (S := S) (NM := NM) (BK := BK) (ap := qa + wa) (kd := κa) (fr := qa) (nm := xa) x1 (by omega) (Or.inr rfl)
    refine ⟨false, 0, qa, qa + wa, κa, 0, 0, xa, m, P, ns, fx, _, _, S, NM, BK, bs, ws, l.length, st.trans (st2.trans sz), PS_r, ⟨E4, p', τa, va, n2⟩, fun z => absurd z (by decide), ?_⟩
    intro B V lo hTB hV hln vs ms dv ls PL tk fr to nm gr hER hvl hgr
    obtain ⟨gr, rfl⟩ : ∃ j : Nat, gr = j + 1 + 1 := ⟨gr - 2, by omega⟩
    obtain ⟨xr, p3, s1, s2, s3⟩ := t9 (xR B 0 ms dv ls (flat l).length (32800 - vs.length) PL) (at_R hTB) tk fr to nm
    have p3e : p3 = p' := by omega
    subst p3e
    obtain ⟨ln, l1, l2⟩ := id hln
    obtain ⟨xr2, p2r, z1, z2, z3⟩ := u9 (xR B 0 ms dv ls (flat l).length (32800 - vs.length) PL) (at_R hTB) 37 q p3 xr
    have τa3 : τa < 300 := by
      by_cases y : κa = 5
      · subst y
        have := tk_5 u7
        omega
      · have := (tk_n u7 y).1
        omega
    obtain ⟨sg', PL', pr, τr, qr, xr3, b1, b2⟩ := roP_F (n := n) (L := L) (e := e) (c := c) (BC := BC) (B := B) hTB (ms := ms) (dv := dv) (ls := ls) (sg := (flat l).length) (vl := 32800 - vs.length) (PL := PL) (fr := q) (to := p3) (nm := xr) (by omega) hln (p := p3) (p2 := p2r) (τ2 := τa) (q2 := qa) (x2 := xr2) (by omega) τa3 (fun i i1 i2 => t2 i (by omega) i2) z1 (fun y => by
      have κa1 : κa = 1 := by
        by_cases y5 : κa = 5
        · subst y5
          have := tk_5 u7
          omega
        · exact ((tk_n u7 y5).2.1).mp y
      subst κa1
      have pe : p2r = qa + wa := by omega
      have ew : qa + wa = eT c e qa := by
        unfold tkK at u7
        omega
      have lt := u6 (by decide)
      refine ⟨by omega, by omega, fun i i1 i2 => (eT_1 c (show qa ≤ e by omega)).2.2.2 i i1 (by omega), fun w => good ⟨rfl, by omega, Or.inl w.2⟩, fun w => good ⟨rfl, by omega, Or.inr w.2⟩⟩)
    have e1 := e33_1 (n := n) (g := gr + 1) (x1 := nI (bkS l)) (K := (uR (xR B 0 ms dv ls (flat l).length (32800 - vs.length) PL) p tk fr to nm)) (s24 := (uR (xR B 0 ms dv ls (flat l).length (32800 - vs.length) PL) p3 37 q p3 xr)) (τ := 37) rfl s1 rfl (by omega)
    have e2 := e81_1 (n := n) (op := bkS l) (G := df_X13_expression_33 n (gr + 1)) (y := decide (37 = 40 ∨ 37 = 37)) (r := false) (s := (uR (xR B 0 ms dv ls (flat l).length (32800 - vs.length) PL) p3 37 q p3 xr)) b1
    exact ⟨0, 1 + 16 * sI B 13, ms, dv, ls, sg', 32800 - vs.length, PL', pr, τr, qr, pr, xr3, e1.trans (e2.trans (ef_1 hn gr _ _ _ (f1_n l2 l1))), b2, fun z => absurd z (by decide), fun _ => rfl⟩
/-- every expression, from every place -/
theorem ex_N (n L e : Nat) (c : Nat → Nat) (BC : St) (C0 A0 : Nat → Int32) (s0 : Nat) {BR0 : St} (hT0 : atx n L e c BC BR0) : ∀ N : Nat, clA n L e c BC C0 A0 s0 N ∧ clB n L e c BC C0 A0 s0 N := fun N => by
  induction N with
  | zero => exact ⟨fun p q p' κ τ v x l m P ns fx C A S NM BK bs ws k g x1 h => absurd h (Nat.not_lt_zero _), fun p q p' κ τ v x l m P ns fx C A S NM BK bs ws k g x1 h => absurd h (Nat.not_lt_zero _)⟩
  | succ N ih =>
    obtain ⟨hA, hB⟩ := ih
    constructor
    · intro p q p' κ τ v x l m P ns fx C A S NM BK bs ws k g x1 hN hT hE h2 hns hk hk2 hg
      have k6 : κ ≤ 6 := by
        have t7 := hT.2.2.2.2.2.2.1
        unfold tkK at t7
        omega
      by_cases y1 : κ = 1
      · exact jA_1 n L e c BC C0 A0 s0 N hT0 hB p q p' κ τ v x l m P ns fx C A S NM BK bs ws k g x1 hN hT hE h2 hns hk hk2 hg y1
      by_cases y2 : κ = 2
      · exact jA_2 n L e c BC C0 A0 s0 N hT0 hB p q p' κ τ v x l m P ns fx C A S NM BK bs ws k g x1 hN hT hE h2 hns hk hk2 hg y2
      by_cases y3 : κ = 3
      · exact jA_3 n L e c BC C0 A0 s0 N hT0 hB p q p' κ τ v x l m P ns fx C A S NM BK bs ws k g x1 hN hT hE h2 hns hk hk2 hg y3
      by_cases y5 : κ = 5
      · by_cases z1 : v = 45
        · exact jA_s45 n L e c BC C0 A0 s0 N hT0 hA p q p' κ τ v x l m P ns fx C A S NM BK bs ws k g x1 hN hT hE h2 hns hk hk2 hg y5 z1
        by_cases z2 : v = 126
        · exact jA_s126 n L e c BC C0 A0 s0 N hT0 hA p q p' κ τ v x l m P ns fx C A S NM BK bs ws k g x1 hN hT hE h2 hns hk hk2 hg y5 z2
        by_cases z3 : v = 40
        · exact jA_s40 n L e c BC C0 A0 s0 N hT0 hA p q p' κ τ v x l m P ns fx C A S NM BK bs ws k g x1 hN hT hE h2 hns hk hk2 hg y5 z3
        by_cases z4 : v = 37
        · exact jA_P n L e c BC C0 A0 s0 N hT0 hA p q p' κ τ v x l m P ns fx C A S NM BK bs ws k g x1 hN hT hE h2 hns hk hk2 hg y5 z4
        exact jA_X n L e c BC C0 A0 s0 N hT0 p q p' κ τ v x l m P ns fx C A S NM BK bs ws k g x1 hN hT hE h2 hns hk hk2 hg (Or.inr (Or.inr (Or.inr ⟨y5, z1, z2, z3, z4⟩)))
      · exact jA_X n L e c BC C0 A0 s0 N hT0 p q p' κ τ v x l m P ns fx C A S NM BK bs ws k g x1 hN hT hE h2 hns hk hk2 hg (by omega)
    · intro p q p' κ τ v x l m P ns fx C A S NM BK bs ws k g x1 hN hT hE h2 hns hm hk hk2 hg
      by_cases y : κ = 5 ∧ 0 < bnO v
      · exact jB_B n L e c BC C0 A0 s0 N hT0 hA p q p' κ τ v x l m P ns fx C A S NM BK bs ws k g x1 hN hT hE h2 hns hm hk hk2 hg y.1 y.2
      have hnb : κ = 5 → bnO v = 0 := fun z => by
        have : ¬ 0 < bnO v := fun w => y ⟨z, w⟩
        omega
      by_cases b : bkS l = 0
      · exact jB_E n L e c BC C0 A0 s0 N hT0 p q p' κ τ v x l m P ns fx C A S NM BK bs ws k g x1 hN hT hE h2 hns hm hk hk2 hg hnb b
      by_cases z : κ = 5 ∧ v = 41
      · exact jB_C n L e c BC C0 A0 s0 N hT0 hB p q p' κ τ v x l m P ns fx C A S NM BK bs ws k g x1 hN hT hE h2 hns hm hk hk2 hg z.1 z.2 (by omega)
      · exact jB_W n L e c BC C0 A0 s0 N hT0 p q p' κ τ v x l m P ns fx C A S NM BK bs ws k g x1 hN hT hE h2 hns hm hk hk2 hg hnb (by omega) z
