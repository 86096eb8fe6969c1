theorem bk_le : ∀ l : List Nat, bkS l ≤ l.length := fun l => by
  induction l with
  | nil => exact Nat.le_refl 0
  | cons x l ih =>
    show (if 13 ≤ x then 1 else 0) + bkS l ≤ l.length + 1
    split <;> omega
/-- a bracket is shut, in both -/
theorem jB_C (n L e : Nat) (c : Nat → Nat) (BC : St) (C0 A0 : Nat → Int32) (s0 : Nat) (N : Nat) {BR0 : St} (hT0 : atx n L e c BC BR0) (hB : clB n L e c BC C0 A0 s0 N) (p q p' κ τ v : Nat) (x : Int32) (l : List Nat) (m : Nat) (P : Nat → Tp) (ns : Nat) (fx : Bool) (C A S NM BK : Nat → Int32) (bs ws : Nat → Nat) (k g : Nat) (x1 : Int32) (hN : e - p < N + 1) (hT : TS n L e c BC p q p' κ τ v x) (hE : EC L e c BC C0 A0 s0 p m ns l P fx C A S NM BK bs ws) (h2 : (flat (rsP l)).length + nbS l + 1 ≤ p) (hns : 2 * ns ≤ p + 1) (hm : 0 < m) (hk : e - p + 1 ≤ k) (hk2 : k < 2 ^ 20) (hg : e - p + 3 ≤ g) (hκ : κ = 5) (hv : v = 41) (hb : 0 < bkS l) : ∃ (ok : Bool) (p2 q2 p2' κ2 τ2 v2 : Nat) (x2 : Int32) (m2 : Nat) (P2 : Nat → Tp) (ns2 : Nat) (fx2 : Bool) (C2 A2 S2 NM2 BK2 : Nat → Int32) (bs2 ws2 : Nat → Nat) (tp2 : Nat), df_X9_sum_26 n g x1 (nI k) (uC (xC BC (s0 + m) l.length 1 ns fx C A S NM BK) p' κ q x) = some (if ok = true then x1 else -1, (uC (xC BC (s0 + m2 + 1) tp2 (if ok = true then 5 else 6) ns2 fx2 C2 A2 S2 NM2 BK2) p2' κ2 q2 x2)) ∧ PS ns NM bs ws ns2 NM2 bs2 ws2 ∧ HTS n L e c BC ns2 NM2 BK2 bs2 ws2 q2 p2' κ2 x2 ∧ (ok = true → TS n L e c BC p2 q2 p2' κ2 τ2 v2 x2 ∧ p ≤ p2 ∧ CR (sR BC 5) c e C0 A0 s0 ns2 bs2 ws2 m2 P2 C2 A2 ∧ C2 (s0 + m2) = 21 ∧ (fx2 = true ↔ fxQ c e bs2 ws2 NM2 ns2 m2 P2) ∧ s0 + m2 ≤ p2 ∧ 2 * ns2 ≤ p2 + 1 ∧ 0 < m2) ∧ RO n L e c BC p ok p2 m2 P2 false (rsP l) (m + (usP l).length) (apl P m (usP l)) (nbS l + 1) := by
  obtain ⟨hn, hL, heL, h127, hend, hce, hO, hst, htC, h0, htR, hch⟩ := id hT0
  obtain ⟨t1, t2, t3, t4, t5, t6, t7, t8, t9⟩ := id hT
  obtain ⟨E1, E2, E3, E4, E5, E6⟩ := id hE
  subst hκ
  have hx : x = nI v := t8 (Or.inr (Or.inr rfl))
  obtain ⟨v3, h5⟩ := tk_5 t7
  subst hv
  obtain ⟨q1, q2⟩ := t6 (by decide)
  have hτ : τ = 41 := by omega
  subst hτ
  obtain ⟨a1, a2, a3, a4, a5, a6, a7, a8⟩ := us_1 l E1
  obtain ⟨pu1, pu2⟩ := pop_u 0 (by omega) (rsP l) (usP l) a7
  rw [← a1] at pu1 pu2
  have lA := pop_l 0 l
  obtain ⟨y, l2, hz⟩ := p0_y l hb
  have hzr : popB 0 (rsP l) = y :: l2 := by rw [← pu2]; exact hz
  have y13 := p0_h l y l2 hz
  have ok2 : okS (y :: l2) := hz ▸ okS_p 0 l E1
  have y15 := ok2.1.2
  have sk2 : stk S (y :: l2) := hz ▸ pop_s 0 l E2
  have lz : (y :: l2).length = l2.length + 1 := rfl
  rw [hz, lz] at lA
  obtain ⟨C', A', e1, e2⟩ := xt_C (n := n) (B := BC) (st := 1) (ns := ns) (fx := fx) (S := S) (NM := NM) (BK := BK) (ap := p') (kd := 5) (fr := q) (nm := x) hn l m P C A E2 (okS_m l E1) (by omega) (by omega) E3 rfl hx y l2 hz
  generalize hxs : popA 0 l ++ (if y = 15 then [] else [y]) = xs at e1 e2
  have xl : xs.length ≤ (popA 0 l).length + 1 := by
    rw [← hxs, List.length_append]
    split
    · show _ + 0 ≤ _; omega
    · exact Nat.le_refl _
  have xm : ∀ w : Nat, w ∈ xs → w < 16 := fun w hw => by
    rw [← hxs] at hw
    rcases List.mem_append.mp hw with u | u
    · have := okS_m l E1 w (popA_m _ l w u)
      omega
    · by_cases z : y = 15
      · rw [if_pos z] at u; exact nomatch u
      · rw [if_neg z] at u
        have := List.mem_singleton.mp u
        omega
  obtain ⟨qn, pn, κn, τn, vn, xn, n1, n2⟩ := nx_1 hT0 (cs := s0 + m + xs.length) (tp := l2.length) (st := 1) (ns := ns) (fx := fx) (C := C') (A := A') (S := S) (NM := NM) (BK := BK) p' 5 q x t5 (fun i i1 i2 => t2 i (by omega) i2)
  obtain ⟨g, rfl⟩ : ∃ j : Nat, g = j + 1 := ⟨g - 1, by omega⟩
  obtain ⟨k, rfl⟩ : ∃ j : Nat, k = j + 1 := ⟨k - 1, by omega⟩
  have st := su_n (n := n) (g := g) (x1 := x1) k (by omega) (s := (uC (xC BC (s0 + m) l.length 1 ns fx C A S NM BK) p' 5 q x)) (show ¬ nI 1 = (5 : Int32) by decide) (show ¬ nI 1 = (6 : Int32) by decide) ((if_neg (show ¬ nI 1 = (0 : Int32) by decide)).trans ((if_pos (show nI 1 = (1 : Int32) from rfl)).trans e1)) (show ¬ nI 1 = (5 : Int32) by decide) (show ¬ nI 1 = (6 : Int32) by decide) n1
  rw [Nat.add_assoc s0 m] at st
  have f1 := flp_1 0 (rsP l)
  rw [hzr] at f1
  have f2 := fl_c y l2
  have f3 := fl_r ok2.2.2
  have f4 := nb_p 0 l
  rw [hz] at f4
  have f5 : nbS (y :: l2) = nbS l2 := by show (if y ≤ 10 then 1 else 0) + nbS l2 = _; rw [if_neg (by omega), Nat.zero_add]
  have b1 := bk_p 0 (rsP l)
  rw [hzr] at b1
  have b2 : bkS (y :: l2) = 1 + bkS l2 := by show (if 13 ≤ y then 1 else 0) + bkS l2 = _; rw [if_pos y13]
  have b3 := (us_1 l2 ok2.2.2).2.2.2.2.1
  obtain ⟨ok, p2, q2', p2', κ2, τ2, v2, x2, m2, P2, ns2, fx2, C2, A2, S2, NM2, BK2, bs2, ws2, tp2, r1, r2, r3, r4, r5⟩ := hB p' qn pn κn τn vn xn l2 (m + xs.length) (apl P m xs) ns fx C' A' S NM BK bs ws k g x1 (by omega) n2 ⟨ok2.2.2, sk2.2, e2, E4, E5.trans (fx_a xs P m xm), by omega⟩ (by omega) (by omega) (by omega) (by omega) (by omega) (by omega)
  refine ⟨ok, p2, q2', p2', κ2, τ2, v2, x2, m2, P2, ns2, fx2, C2, A2, S2, NM2, BK2, bs2, ws2, tp2, st.trans r1, r2, r3, fun z => ?_, ?_⟩
  · obtain ⟨u1, u2, u3⟩ := r4 z
    exact ⟨u1, by omega, u3⟩
  · intro B V lo hTB hV hln vs ms dv ls PL tk fr to nm gr hER hvl hgr
    obtain ⟨gr, rfl⟩ : ∃ j : Nat, gr = j + 1 := ⟨gr - 1, by omega⟩
    obtain ⟨xr, p3, s1, s2, s3⟩ := t9 (xR B 0 ms dv ls (flat (rsP l)).length (32800 - vs.length) PL) (at_R hTB) tk fr to nm
    have p3e : p3 = p' := by omega
    subst p3e
    obtain ⟨R1, R2, R3, R4⟩ := hER
    have e4 := e33_0 (n := n) (g := gr) (x1 := nI (bkS (rsP l))) (K := (uR (xR B 0 ms dv ls (flat (rsP l)).length (32800 - vs.length) PL) p tk fr to nm)) (s24 := (uR (xR B 0 ms dv ls (flat (rsP l)).length (32800 - vs.length) PL) p3 41 q p3 xr)) (τ := 41) rfl s1 rfl (by omega)
    rw [if_neg (show ¬ 0 < rkR 41 by decide)] at e4
    have bl : bkS (rsP l) = bkS l2 + 1 := by omega
    have e5 : df_X13_expression_180 n (df_X13_expression_33 n gr) (nI (bkS (rsP l))) 0 1 (sI (uR (xR B 0 ms dv ls (flat (rsP l)).length (32800 - vs.length) PL) p tk fr to nm) 7) (uR (xR B 0 ms dv ls (flat (rsP l)).length (32800 - vs.length) PL) p3 41 q p3 xr) = df_X13_expression_193 n (df_X13_expression_33 n gr) n (nI (bkS l2 + 1)) 0 1 (uR (xR B 0 ms dv ls (flat (rsP l)).length (32800 - vs.length) PL) p3 41 q p3 xr) := by
      have bz := nb_le l
      have bq : bkS l ≤ l.length := bk_le l
      unfold df_X13_expression_180
      rw [uR_i8, if_pos (show nI 41 = (41 : Int32) from rfl), bl, if_neg (show ¬ nI (bkS l2 + 1) ≤ (0 : Int32) from znle (b := 0) (by omega) (by omega))]
    obtain ⟨PL', vs', dv', o1, o2, o3, o4, o5, o6⟩ := eo_C (n := n) (B := B) (ms := ms) (dv := dv) (ls := ls) (PL := PL) (ap := p3) (tk := 41) (fr := q) (to := p3) (nm := xr) (V := V) (P := apl P m (usP l)) (m := m + (usP l).length) (G := df_X13_expression_33 n gr) (bkS l2) hn (rsP l) vs a3 a2 (by omega) R1 R2 (by omega) R3 y l2 hzr
    have o5' : rnF V (apl (apl P m xs) (m + xs.length) (usP l2)) (m + xs.length + (usP l2).length) = (vs', ms, dv') := by
      rw [← o5, ← apl_a, ← apl_a]
      have q1 : xs ++ usP l2 = usP l ++ (popA 0 (rsP l) ++ ((if y = 15 then [] else [y]) ++ usP l2)) := by
        rw [← hxs, pu1, List.append_assoc, List.append_assoc]
      rw [q1, show m + xs.length + (usP l2).length = m + (xs ++ usP l2).length by rw [List.length_append]; omega, q1, List.length_append, Nat.add_assoc]
    obtain ⟨w, ft2, ms2, dv2, ls2, sg2, vl2, PL2, ap2, tk2, fr2, to2, nm2, z1, z2, z3, z4⟩ := r5 B V lo hTB hV hln vs' ms dv' ls PL' 41 q p3 xr gr ⟨o2, o3, o5', by
      rw [R4, ls_a (usP l) P m (fun w hw => by have := a7 w hw; omega), ls_a (usP l2) _ _ (fun w hw => by have := (us_1 l2 ok2.2.2).2.2.2.2.2.2.1 w hw; omega), ls_a xs P m xm]⟩ (by have := (us_1 l2 ok2.2.2).2.2.2.1; omega) (by omega)
    refine ⟨w, ft2, ms2, dv2, ls2, sg2, vl2, PL2, ap2, tk2, fr2, to2, nm2, ?_, z2, z3, z4⟩
    refine Eq.trans e4 (Eq.trans e5 (Eq.trans o1 ?_))
    rw [b3] at z1
    exact z1
/-- the end of an expression -/
theorem jB_E (n L e : Nat) (c : Nat → Nat) (BC : St) (C0 A0 : Nat → Int32) (s0 : Nat) (N : Nat) {BR0 : St} (hT0 : atx n L e c BC BR0) (p q p' κ τ v : Nat) (x : Int32) (l : List Nat) (m : Nat) (P : Nat → Tp) (ns : Nat) (fx : Bool) (C A S NM BK : Nat → Int32) (bs ws : Nat → Nat) (k g : Nat) (x1 : Int32) (hN : e - p < N + 1) (hT : TS n L e c BC p q p' κ τ v x) (hE : EC L e c BC C0 A0 s0 p m ns l P fx C A S NM BK bs ws) (h2 : (flat (rsP l)).length + nbS l + 1 ≤ p) (hns : 2 * ns ≤ p + 1) (hm : 0 < m) (hk : e - p + 1 ≤ k) (hk2 : k < 2 ^ 20) (hg : e - p + 3 ≤ g) (hnb : κ = 5 → bnO v = 0) (hb : bkS l = 0) : ∃ (ok : Bool) (p2 q2 p2' κ2 τ2 v2 : Nat) (x2 : Int32) (m2 : Nat) (P2 : Nat → Tp) (ns2 : Nat) (fx2 : Bool) (C2 A2 S2 NM2 BK2 : Nat → Int32) (bs2 ws2 : Nat → Nat) (tp2 : Nat), df_X9_sum_26 n g x1 (nI k) (uC (xC BC (s0 + m) l.length 1 ns fx C A S NM BK) p' κ q x) = some (if ok = true then x1 else -1, (uC (xC BC (s0 + m2 + 1) tp2 (if ok = true then 5 else 6) ns2 fx2 C2 A2 S2 NM2 BK2) p2' κ2 q2 x2)) ∧ PS ns NM bs ws ns2 NM2 bs2 ws2 ∧ HTS n L e c BC ns2 NM2 BK2 bs2 ws2 q2 p2' κ2 x2 ∧ (ok = true → TS n L e c BC p2 q2 p2' κ2 τ2 v2 x2 ∧ p ≤ p2 ∧ CR (sR BC 5) c e C0 A0 s0 ns2 bs2 ws2 m2 P2 C2 A2 ∧ C2 (s0 + m2) = 21 ∧ (fx2 = true ↔ fxQ c e bs2 ws2 NM2 ns2 m2 P2) ∧ s0 + m2 ≤ p2 ∧ 2 * ns2 ≤ p2 + 1 ∧ 0 < m2) ∧ RO n L e c BC p ok p2 m2 P2 false (rsP l) (m + (usP l).length) (apl P m (usP l)) (nbS l + 1) := by
  obtain ⟨hn, hL, heL, h127, hend, hce, hO, hst, htC, h0, htR, hch⟩ := id hT0
  obtain ⟨t1, t2, t3, t4, t5, t6, t7, t8, t9⟩ := id hT
  obtain ⟨E1, E2, E3, E4, E5, E6⟩ := id hE
  obtain ⟨a1, a2, a3, a4, a5, a6, a7, a8⟩ := us_1 l E1
  obtain ⟨pu1, pu2⟩ := pop_u 0 (by omega) (rsP l) (usP l) a7
  rw [← a1] at pu1 pu2
  have lA := pop_l 0 l
  have hk6 : κ ≤ 6 := by unfold tkK at t7; omega
  have h0 : κ = 5 → ∃ w : Nat, w < 300 ∧ x = nI w ∧ bnO w = 0 := fun z => by
    subst z
    exact ⟨v, (tk_5 t7).1, t8 (Or.inr (Or.inr rfl)), hnb rfl⟩
  have tf : τ < 300 ∧ rkR τ = 0 := by
    by_cases y : κ = 5
    · subst y
      have h5 := tk_5 t7
      have hb := hnb rfl
      rcases h5.2 with z | z | z
      · rw [z.1] at hb; exact absurd hb (by decide)
      · rw [z.1] at hb; exact absurd hb (by decide)
      · have := rr_z ⟨v, by omega⟩ z.1 hb
        rw [z.2.2]
        exact ⟨by omega, this⟩
    · have h := (tk_n t7 y).1
      exact ⟨by omega, rr_y ⟨τ, h⟩⟩
  have hz := p0_n l hb
  obtain ⟨C', A', e1, e2⟩ := xt_E (n := n) (B := BC) (st := 1) (ns := ns) (fx := fx) (S := S) (NM := NM) (BK := BK) (ap := p') (kd := κ) (fr := q) (nm := x) hn l m P C A E2 (okS_m l E1) (by omega) (by omega) E3 h0 hk6 hz
  obtain ⟨g, rfl⟩ : ∃ j : Nat, g = j + 1 + 1 := ⟨g - 2, by omega⟩
  obtain ⟨k, rfl⟩ : ∃ j : Nat, k = j + 1 := ⟨k - 1, by omega⟩
  have st := su_e (n := n) (g := g) (x1 := x1) k (by omega) (s := (uC (xC BC (s0 + m) l.length 1 ns fx C A S NM BK) p' κ q x)) (show ¬ nI 1 = (5 : Int32) by decide) (show ¬ nI 1 = (6 : Int32) by decide) ((if_neg (show ¬ nI 1 = (0 : Int32) by decide)).trans ((if_pos (show nI 1 = (1 : Int32) from rfl)).trans e1)) (Or.inl (show nI 5 = (5 : Int32) from rfl))
  have sz := su_z (n := n) (B := BC) (cs := s0 + m + (popA 0 l).length) (tp := 0) (st := 5) (ns := ns) (fx := fx) (C := C') (A := A') (S := S) (NM := NM) (BK := BK) (ap := p') (kd := κ) (fr := q) (nm := x) x1 (by omega) (Or.inl rfl)
  have xm : ∀ w : Nat, w ∈ popA 0 l → w < 16 := fun w hw => by
    have := okS_m l E1 w (popA_m _ l w hw)
    omega
  have c1 := st.trans sz
  rw [Nat.add_assoc s0 m] at c1
  refine ⟨true, p, q, p', κ, τ, v, x, m + (popA 0 l).length, apl P m (popA 0 l), ns, fx, upd C' (s0 + (m + (popA 0 l).length)) 21, upd A' (s0 + (m + (popA 0 l).length)) 0, S, NM, BK, bs, ws, 0, c1, PS_r, ⟨E4, p, τ, v, hT⟩, fun _ => ⟨hT, Nat.le_refl _, CR_u e2 21 0, up_e, E5.trans (fx_a _ P m xm), by omega, hns, by omega⟩, ?_⟩
  intro B V lo hTB hV hln vs ms dv ls PL tk fr to nm gr hER hvl hgr
  obtain ⟨gr, rfl⟩ : ∃ j : Nat, gr = j + 1 + 1 := ⟨gr - 2, by omega⟩
  obtain ⟨xr, p3, s1, s2, s3⟩ := t9 (xR B 0 ms dv ls (flat (rsP l)).length (32800 - vs.length) PL) (at_R hTB) tk fr to nm
  obtain ⟨R1, R2, R3, R4⟩ := hER
  have e4 := e33_0 (n := n) (g := gr + 1) (x1 := nI (bkS (rsP l))) (K := (uR (xR B 0 ms dv ls (flat (rsP l)).length (32800 - vs.length) PL) p tk fr to nm)) (s24 := (uR (xR B 0 ms dv ls (flat (rsP l)).length (32800 - vs.length) PL) p3 τ q p3 xr)) (τ := τ) rfl s1 rfl tf.1
  rw [if_neg (show ¬ 0 < rkR τ by omega)] at e4
  have bz : bkS (rsP l) = 0 := by omega
  have e5 : df_X13_expression_180 n (df_X13_expression_33 n (gr + 1)) (nI (bkS (rsP l))) 0 1 (sI (uR (xR B 0 ms dv ls (flat (rsP l)).length (32800 - vs.length) PL) p tk fr to nm) 7) (uR (xR B 0 ms dv ls (flat (rsP l)).length (32800 - vs.length) PL) p3 τ q p3 xr) = df_X13_expression_33 n (gr + 1) (nI 0) 0 0 (uR (xR B 0 ms dv ls (flat (rsP l)).length (32800 - vs.length) PL) p τ q p3 xr) := by
    have q5 : df_X13_expression_235 n (df_X13_expression_33 n (gr + 1)) (nI 0) 0 (nI p) (uR (xR B 0 ms dv ls (flat (rsP l)).length (32800 - vs.length) PL) p3 τ q p3 xr) = df_X13_expression_33 n (gr + 1) (nI 0) 0 0 (uR (xR B 0 ms dv ls (flat (rsP l)).length (32800 - vs.length) PL) p τ q p3 xr) := by
      unfold df_X13_expression_235 df_X13_expression_246 df_X13_expression_252
      rw [if_pos (show nI 0 ≤ (0 : Int32) by decide), uR_w7, nb_let]
    unfold df_X13_expression_180
    rw [uR_i8, uR_i7, bz, if_pos (show nI 0 ≤ (0 : Int32) by decide), q5]
    split <;> rfl
  obtain ⟨PL', w, dv', o1, o2⟩ := eo_E (n := n) (B := B) (ms := ms) (dv := dv) (ls := ls) (PL := PL) (ap := p) (tk := τ) (fr := q) (to := p3) (nm := xr) (V := V) (P := apl P m (usP l)) (m := m + (usP l).length) gr (nI 0) 0 hn (rsP l) vs a3 a2 (by omega) R1 R2 (by omega) R3 bz
  refine ⟨w, _, ms, dv', ls, 0, 32799, PL', p, τ, q, p3, xr, e4.trans (e5.trans o1), t1, fun _ => ⟨rfl, ?_, ?_, rfl⟩, fun z => absurd z (by decide)⟩
  · rw [pu1, apl_a, List.length_append, ← Nat.add_assoc]
    exact o2
  · rw [R4, ls_a (usP l) P m (fun w hw => by have := a7 w hw; omega), ls_a (popA 0 l) P m xm]
/-- a bracket that isn't shut -/
theorem jB_W (n L e : Nat) (c : Nat → Nat) (BC : St) (C0 A0 : Nat → Int32) (s0 : Nat) (N : Nat) {BR0 : St} (hT0 : atx n L e c BC BR0) (p q p' κ τ v : Nat) (x : Int32) (l : List Nat) (m : Nat) (P : Nat → Tp) (ns : Nat) (fx : Bool) (C A S NM BK : Nat → Int32) (bs ws : Nat → Nat) (k g : Nat) (x1 : Int32) (hN : e - p < N + 1) (hT : TS n L e c BC p q p' κ τ v x) (hE : EC L e c BC C0 A0 s0 p m ns l P fx C A S NM BK bs ws) (h2 : (flat (rsP l)).length + nbS l + 1 ≤ p) (hns : 2 * ns ≤ p + 1) (hm : 0 < m) (hk : e - p + 1 ≤ k) (hk2 : k < 2 ^ 20) (hg : e - p + 3 ≤ g) (hnb : κ = 5 → bnO v = 0) (hb : 0 < bkS l) (h41 : ¬ (κ = 5 ∧ v = 41)) : ∃ (ok : Bool) (p2 q2 p2' κ2 τ2 v2 : Nat) (x2 : Int32) (m2 : Nat) (P2 : Nat → Tp) (ns2 : Nat) (fx2 : Bool) (C2 A2 S2 NM2 BK2 : Nat → Int32) (bs2 ws2 : Nat → Nat) (tp2 : Nat), df_X9_sum_26 n g x1 (nI k) (uC (xC BC (s0 + m) l.length 1 ns fx C A S NM BK) p' κ q x) = some (if ok = true then x1 else -1, (uC (xC BC (s0 + m2 + 1) tp2 (if ok = true then 5 else 6) ns2 fx2 C2 A2 S2 NM2 BK2) p2' κ2 q2 x2)) ∧ PS ns NM bs ws ns2 NM2 bs2 ws2 ∧ HTS n L e c BC ns2 NM2 BK2 bs2 ws2 q2 p2' κ2 x2 ∧ (ok = true → TS n L e c BC p2 q2 p2' κ2 τ2 v2 x2 ∧ p ≤ p2 ∧ CR (sR BC 5) c e C0 A0 s0 ns2 bs2 ws2 m2 P2 C2 A2 ∧ C2 (s0 + m2) = 21 ∧ (fx2 = true ↔ fxQ c e bs2 ws2 NM2 ns2 m2 P2) ∧ s0 + m2 ≤ p2 ∧ 2 * ns2 ≤ p2 + 1 ∧ 0 < m2) ∧ RO n L e c BC p ok p2 m2 P2 false (rsP l) (m + (usP l).length) (apl P m (usP l)) (nbS l + 1) := by
  obtain ⟨hn, hL, heL, h127, hend, hce, hO, hst, htC, h0, htR, hch⟩ := id hT0
  obtain ⟨t1, t2, t3, t4, t5, t6, t7, t8, t9⟩ := id hT
  obtain ⟨E1, E2, E3, E4, E5, E6⟩ := id hE
  obtain ⟨a1, a2, a3, a4, a5, a6, a7, a8⟩ := us_1 l E1
  obtain ⟨pu1, pu2⟩ := pop_u 0 (by omega) (rsP l) (usP l) a7
  rw [← a1] at pu1 pu2
  have lA := pop_l 0 l
  have hk6 : κ ≤ 6 := by unfold tkK at t7; omega
  have h0 : κ = 5 → ∃ w : Nat, w < 300 ∧ x = nI w ∧ bnO w = 0 := fun z => by
    subst z
    exact ⟨v, (tk_5 t7).1, t8 (Or.inr (Or.inr rfl)), hnb rfl⟩
  have tf : τ < 300 ∧ rkR τ = 0 := by
    by_cases y : κ = 5
    · subst y
      have h5 := tk_5 t7
      have hb := hnb rfl
      rcases h5.2 with z | z | z
      · rw [z.1] at hb; exact absurd hb (by decide)
      · rw [z.1] at hb; exact absurd hb (by decide)
      · have := rr_z ⟨v, by omega⟩ z.1 hb
        rw [z.2.2]
        exact ⟨by omega, this⟩
    · have h := (tk_n t7 y).1
      exact ⟨by omega, rr_y ⟨τ, h⟩⟩
  obtain ⟨y, l2, hz⟩ := p0_y l hb
  have n41 : ¬ (κ = 5 ∧ x = 41) := fun z => by
    obtain ⟨z1, z2⟩ := z
    subst z1
    have v3 := (tk_5 t7).1
    rw [t8 (Or.inr (Or.inr rfl))] at z2
    have z2 : nI v = nI 41 := z2
    rw [nI_eq (by omega) (by omega)] at z2
    exact h41 ⟨rfl, z2⟩
  have τ41 : ¬ τ = 41 := fun z => by
    by_cases y : κ = 5
    · subst y
      have := tk_5 t7
      exact h41 ⟨rfl, by omega⟩
    · have := (tk_n t7 y).1
      omega
  have lz : (y :: l2).length = l2.length + 1 := rfl
  obtain ⟨C', A', e1, e2⟩ := xt_W (n := n) (B := BC) (st := 1) (ns := ns) (fx := fx) (S := S) (NM := NM) (BK := BK) (ap := p') (kd := κ) (fr := q) (nm := x) hn l m P C A E2 (okS_m l E1) (by omega) (by omega) E3 h0 hk6 y l2 hz n41
  obtain ⟨g, rfl⟩ : ∃ j : Nat, g = j + 1 + 1 := ⟨g - 2, by omega⟩
  obtain ⟨k, rfl⟩ : ∃ j : Nat, k = j + 1 := ⟨k - 1, by omega⟩
  have st := su_e (n := n) (g := g) (x1 := x1) k (by omega) (s := (uC (xC BC (s0 + m) l.length 1 ns fx C A S NM BK) p' κ q x)) (show ¬ nI 1 = (5 : Int32) by decide) (show ¬ nI 1 = (6 : Int32) by decide) ((if_neg (show ¬ nI 1 = (0 : Int32) by decide)).trans ((if_pos (show nI 1 = (1 : Int32) from rfl)).trans e1)) (Or.inr (show nI 6 = (6 : Int32) from rfl))
  have sz := su_z (n := n) (B := BC) (cs := s0 + m + (popA 0 l).length) (tp := l2.length + 1) (st := 6) (ns := ns) (fx := fx) (C := C') (A := A') (S := S) (NM := NM) (BK := BK) (ap := p') (kd := κ) (fr := q) (nm := x) x1 (by omega) (Or.inr rfl)
  have c1 := st.trans sz
  rw [Nat.add_assoc s0 m] at c1
  refine ⟨false, 0, q, p', κ, 0, 0, x, m + (popA 0 l).length, P, ns, fx, _, _, S, NM, BK, bs, ws, l2.length + 1, c1, PS_r, ⟨E4, p, τ, v, hT⟩, fun z => absurd z (by decide), ?_⟩
  intro B V lo hTB hV hln vs ms dv ls PL tk fr to nm gr hER hvl hgr
  obtain ⟨gr, rfl⟩ : ∃ j : Nat, gr = j + 1 + 1 := ⟨gr - 2, by omega⟩
  obtain ⟨xr, p3, s1, s2, s3⟩ := t9 (xR B 0 ms dv ls (flat (rsP l)).length (32800 - vs.length) PL) (at_R hTB) tk fr to nm
  obtain ⟨ln, l1, l3⟩ := hln
  have e4 := e33_0 (n := n) (g := gr + 1) (x1 := nI (bkS (rsP l))) (K := (uR (xR B 0 ms dv ls (flat (rsP l)).length (32800 - vs.length) PL) p tk fr to nm)) (s24 := (uR (xR B 0 ms dv ls (flat (rsP l)).length (32800 - vs.length) PL) p3 τ q p3 xr)) (τ := τ) rfl s1 rfl tf.1
  rw [if_neg (show ¬ 0 < rkR τ by omega)] at e4
  have bq : bkS l ≤ l.length := bk_le l
  have e5 : df_X13_expression_180 n (df_X13_expression_33 n (gr + 1)) (nI (bkS (rsP l))) 0 1 (sI (uR (xR B 0 ms dv ls (flat (rsP l)).length (32800 - vs.length) PL) p tk fr to nm) 7) (uR (xR B 0 ms dv ls (flat (rsP l)).length (32800 - vs.length) PL) p3 τ q p3 xr) = df_X13_expression_33 n (gr + 1) (nI (bkS (rsP l))) 0 0 (uR (xR B (1 + 16 * sI B 13) ms dv ls (flat (rsP l)).length (32800 - vs.length) PL) p τ q p3 xr) := by
    unfold df_X13_expression_180 df_X13_expression_235 df_X13_expression_246 df_X13_expression_252
    rw [uR_i8, uR_i7, if_neg (show ¬ nI τ = (41 : Int32) from zne (b := 41) τ41 (by omega) (by omega)), if_neg (show ¬ nI (bkS (rsP l)) ≤ (0 : Int32) from znle (b := 0) (by omega) (by omega)), rbl_1, nb_b1, if_pos rfl, uR_w7, nb_let]
  exact ⟨0, 1 + 16 * sI B 13, ms, dv, ls, (flat (rsP l)).length, 32800 - vs.length, PL, p, τ, q, p3, xr, e4.trans (e5.trans (ef_1 hn gr _ _ _ (f1_n l3 l1))), t1, fun z => absurd z (by decide), fun _ => rfl⟩
