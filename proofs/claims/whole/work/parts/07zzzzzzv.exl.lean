/-- lists of what waits -/
theorem hd_p (r : Nat) : ∀ l : List Nat, okS l → hdU l → hdU (popB r l) := fun l => by
  induction l with
  | nil => intro _ h; exact h
  | cons x l ih =>
    intro h1 h2
    unfold popB
    by_cases y : x < 13 ∧ r ≤ rkA x
    · rw [if_pos y]
      have := h2 x l rfl
      exact ih h1.2.2 (h1.2.1 (by omega))
    · rw [if_neg y]; exact h2
theorem popA_m (r : Nat) : ∀ (l : List Nat) (x : Nat), x ∈ popA r l → x ∈ l := fun l => by
  induction l with
  | nil => intro x h; exact h
  | cons y l ih =>
    intro x h
    unfold popA at h
    by_cases z : y < 13 ∧ r ≤ rkA y
    · rw [if_pos z] at h
      rcases List.mem_cons.mp h with w | w
      · rw [w]; exact List.mem_cons_self ..
      · exact List.mem_cons_of_mem _ (ih x w)
    · rw [if_neg z] at h; exact nomatch h
theorem flp_1 (r : Nat) : ∀ l : List Nat, (flat (popB r l)).length ≤ (flat l).length := fun l => by
  induction l with
  | nil => exact Nat.le_refl _
  | cons x l ih =>
    have e : (flat (x :: l)).length = (if x = 13 ∨ x = 14 then uo x :: flat l else flat l).length + 1 := rfl
    have f : (flat l).length ≤ (if x = 13 ∨ x = 14 then uo x :: flat l else flat l).length := by
      split
      · show (flat l).length ≤ (flat l).length + 1; omega
      · exact Nat.le_refl _
    unfold popB
    by_cases y : x < 13 ∧ r ≤ rkA x
    · rw [if_pos y]; omega
    · rw [if_neg y]; exact Nat.le_refl _
theorem fl_c (x : Nat) (l : List Nat) : (flat l).length + 1 ≤ (flat (x :: l)).length := by
  have e : (flat (x :: l)).length = (if x = 13 ∨ x = 14 then uo x :: flat l else flat l).length + 1 := rfl
  have f : (flat l).length ≤ (if x = 13 ∨ x = 14 then uo x :: flat l else flat l).length := by
    split
    · show (flat l).length ≤ (flat l).length + 1; omega
    · exact Nat.le_refl _
  omega
theorem fl_r {l : List Nat} (h : okS l) : (flat (rsP l)).length ≤ (flat l).length := by
  have a6 := (us_1 l h).2.2.2.2.2.1
  have lm : (flat l).length = (usP l).length + (flat (rsP l)).length := by
    have := congrArg List.length a6
    rw [List.length_append, List.length_map] at this
    exact this
  omega
theorem CR_u {NR : Nat → Int32} {c : Nat → Nat} {e : Nat} {C0 A0 : Nat → Int32} {s0 ns : Nat} {bs ws : Nat → Nat} {m : Nat} {P : Nat → Tp} {C A : Nat → Int32} (h : CR NR c e C0 A0 s0 ns bs ws m P C A) (u w : Int32) : CR NR c e C0 A0 s0 ns bs ws m P (upd C (s0 + m) u) (upd A (s0 + m) w) := ⟨fun i hi => by
  rw [up_n (by omega), up_n (by omega)]; exact h.1 i hi, fun i hi => by
  rw [up_n (by omega), up_n (by omega)]; exact h.2 i hi⟩
theorem tk_5 {c : Nat → Nat} {e q p' τ v : Nat} (h : tkK c e q p' 5 τ v) : v < 300 ∧ ((v = 256 ∧ τ = 6) ∨ (v = 257 ∧ τ = 7) ∨ (37 ≤ v ∧ v ≤ 126 ∧ τ = v)) := by
  unfold tkK at h
  rcases h with y | y | y | y | y | y | y
  · omega
  · omega
  · omega
  · omega
  · omega
  · rcases y.2.2 with w | w | w
    · omega
    · omega
    · have := sgA_l w.1
      omega
  · omega
theorem tk_n {c : Nat → Nat} {e q p' κ τ v : Nat} (h : tkK c e q p' κ τ v) (h5 : ¬ κ = 5) : τ < 6 ∧ (τ = 1 ↔ κ = 1) ∧ (τ = 2 ↔ κ = 2) ∧ (τ = 3 ↔ κ = 3) := by
  unfold tkK at h
  omega
theorem rr_z : ∀ v : Fin 127, 37 ≤ v.1 → bnO v.1 = 0 → rkR v.1 = 0 := by decide +kernel
theorem rr_y : ∀ v : Fin 6, rkR v.1 = 0 := by decide +kernel
/-- the sign 45 before a value -/
theorem jA_s45 (n L e : Nat) (c : Nat → Nat) (BC : St) (C0 A0 : Nat → Int32) (s0 : Nat) (N : Nat) {BR0 : St} (hT0 : atx n L e c BC BR0) (hA : clA n L e c BC C0 A0 s0 N) (p q p' κ τ v : Nat) (x : Int32) (l : List Nat) (m : Nat) (P : Nat → Tp) (ns : Nat) (fx : Bool) (C A S NM BK : Nat → Int32) (bs ws : Nat → Nat) (k g : Nat) (x1 : Int32) (hN : e - p < N + 1) (hT : TS n L e c BC p q p' κ τ v x) (hE : EC L e c BC C0 A0 s0 p m ns l P fx C A S NM BK bs ws) (h2 : (flat l).length + nbS l ≤ p) (hns : 2 * ns ≤ p) (hk : e - p + 1 ≤ k) (hk2 : k < 2 ^ 20) (hg : e - p + 3 ≤ g) (hκ : κ = 5) (hv : v = 45) : ∃ (ok : Bool) (p2 q2 p2' κ2 τ2 v2 : Nat) (x2 : Int32) (m2 : Nat) (P2 : Nat → Tp) (ns2 : Nat) (fx2 : Bool) (C2 A2 S2 NM2 BK2 : Nat → Int32) (bs2 ws2 : Nat → Nat) (tp2 : Nat), df_X9_sum_26 n g x1 (nI k) (uC (xC BC (s0 + m) l.length 0 ns fx C A S NM BK) p' κ q x) = some (if ok = true then x1 else -1, (uC (xC BC (s0 + m2 + 1) tp2 (if ok = true then 5 else 6) ns2 fx2 C2 A2 S2 NM2 BK2) p2' κ2 q2 x2)) ∧ PS ns NM bs ws ns2 NM2 bs2 ws2 ∧ HTS n L e c BC ns2 NM2 BK2 bs2 ws2 q2 p2' κ2 x2 ∧ (ok = true → TS n L e c BC p2 q2 p2' κ2 τ2 v2 x2 ∧ p ≤ p2 ∧ CR (sR BC 5) c e C0 A0 s0 ns2 bs2 ws2 m2 P2 C2 A2 ∧ C2 (s0 + m2) = 21 ∧ (fx2 = true ↔ fxQ c e bs2 ws2 NM2 ns2 m2 P2) ∧ s0 + m2 ≤ p2 ∧ 2 * ns2 ≤ p2 + 1 ∧ 0 < m2) ∧ RO n L e c BC p ok p2 m2 P2 true l m P (nbS l) := by
  obtain ⟨hn, hL, heL, h127, hend, hce, hO, hst, htC, h0, htR, hch⟩ := id hT0
  obtain ⟨t1, t2, t3, t4, t5, t6, t7, t8, t9⟩ := id hT
  obtain ⟨E1, E2, E3, E4, E5, E6⟩ := id hE
  subst hκ
  have hx : x = nI v := t8 (Or.inr (Or.inr rfl))
  have h5 := tk_5 t7
  have hτ : τ = 45 := by omega
  subst hv
  subst hτ
  subst hx
  obtain ⟨q1, q2⟩ := t6 (by decide)
  obtain ⟨qn, pn, κn, τn, vn, xn, n1, n2⟩ := nx_1 hT0 (cs := s0 + m) (tp := l.length + 1) (st := 0) (ns := ns) (fx := fx) (C := C) (A := A) (S := upd S l.length (nI 11)) (NM := NM) (BK := BK) p' 5 q (nI 45) t5 (fun i i1 i2 => t2 i (by omega) i2)
  obtain ⟨g, rfl⟩ : ∃ j : Nat, g = j + 1 := ⟨g - 1, by omega⟩
  obtain ⟨k, rfl⟩ : ∃ j : Nat, k = j + 1 := ⟨k - 1, by omega⟩
  have hc : df_X9_takeOperand n (uC (xC BC (s0 + m) l.length 0 ns fx C A S NM BK) p' 5 q (nI 45)) = some (uC (xC BC (s0 + m) (l.length + 1) 0 ns fx C A (upd S l.length (nI 11)) NM BK) p' 5 q (nI 45)) := xd_S (n := n) (by omega) 45 (by omega) rfl
  have st := su_n (n := n) (g := g) (x1 := x1) k (by omega) (s := (uC (xC BC (s0 + m) l.length 0 ns fx C A S NM BK) p' 5 q (nI 45))) (s' := (uC (xC BC (s0 + m) (l.length + 1) 0 ns fx C A (upd S l.length (nI 11)) NM BK) p' 5 q (nI 45))) (show ¬ nI 0 = (5 : Int32) by decide) (show ¬ nI 0 = (6 : Int32) by decide) ((if_pos (show nI 0 = (0 : Int32) from rfl)).trans hc) (show ¬ nI 0 = (5 : Int32) by decide) (show ¬ nI 0 = (6 : Int32) by decide) n1
  have fl : flat (11 :: l) = sgO 11 :: flat l := flat_b (by omega)
  have fll : (flat (11 :: l)).length = (flat l).length + 1 := by rw [fl]; rfl
  have nbl : nbS (11 :: l) = nbS l := Nat.zero_add _
  obtain ⟨ok, p2, q2', p2', κ2, τ2, v2, x2, m2, P2, ns2, fx2, C2, A2, S2, NM2, BK2, bs2, ws2, tp2, r1, r2, r3, r4, r5⟩ := hA p' qn pn κn τn vn xn (11 :: l) m P ns fx C A (upd S l.length (nI 11)) NM BK bs ws k g x1 (by omega) n2 ⟨⟨by omega, fun z => absurd z (by decide), E1⟩, stk_p 11 E2, E3, E4, E5, by show s0 + m + (l.length + 1) ≤ p'; omega⟩ (by rw [fll, nbl]; omega) (by omega) (by omega) (by omega) (by omega)
  refine ⟨ok, p2, q2', p2', κ2, τ2, v2, x2, m2, P2, ns2, fx2, C2, A2, S2, NM2, BK2, bs2, ws2, tp2, st.trans r1, r2, r3, fun z => ?_, ?_⟩
  · obtain ⟨u1, u2, u3⟩ := r4 z
    exact ⟨u1, by omega, u3⟩
  · intro B V lo hTB hV hln vs ms dv ls PL tk fr to nm gr hER hvl hgr
    obtain ⟨gr, rfl⟩ : ∃ j : Nat, gr = j + 1 := ⟨gr - 1, by omega⟩
    obtain ⟨xr, p3, s1, s2, s3⟩ := t9 (xR B 0 ms dv ls (flat l).length (32800 - vs.length) PL) (at_R hTB) tk fr to nm
    have p3e : p3 = p' := by omega
    subst p3e
    obtain ⟨R1, R2, R3, R4⟩ := hER
    have w1 := ro_S (tk := 0) (n := n) (B := B) (ft := 0) (ms := ms) (dv := dv) (ls := ls) (sg := (flat l).length) (vl := 32800 - vs.length) (PL := PL) (ap := p3) (fr := q) (to := p3) (nm := xr) 45 2 (by omega) (by omega)
    have e1 := e33_1 (n := n) (g := gr) (x1 := nI (bkS l)) (K := (uR (xR B 0 ms dv ls (flat l).length (32800 - vs.length) PL) p tk fr to nm)) (s24 := (uR (xR B 0 ms dv ls (flat l).length (32800 - vs.length) PL) p3 45 q p3 xr)) (τ := 45) rfl s1 rfl (by omega)
    have e2 := e81_1 (n := n) (op := bkS l) (G := df_X13_expression_33 n gr) (y := decide (45 = 40 ∨ 45 = 37)) (r := false) (s := (uR (xR B 0 ms dv ls (flat l).length (32800 - vs.length) PL) p3 45 q p3 xr)) w1
    obtain ⟨w, ft2, ms2, dv2, ls2, sg2, vl2, PL2, ap2, tk2, fr2, to2, nm2, z1, z2, z3, z4⟩ := r5 B V lo hTB hV hln vs ms dv ls (upd PL (flat l).length (nI 2)) 45 q p3 xr gr ⟨by rw [fl]; exact stk_p (sgO 11) R1, vst_u _ _ (by omega) R2, R3, R4⟩ (by omega) (by omega)
    refine ⟨w, ft2, ms2, dv2, ls2, sg2, vl2, PL2, ap2, tk2, fr2, to2, nm2, ?_, z2, z3, z4⟩
    refine Eq.trans e1 (Eq.trans e2 ?_)
    rw [fll, show bkS (11 :: l) = bkS l from Nat.zero_add _] at z1
    exact z1
/-- the sign 126 before a value -/
theorem jA_s126 (n L e : Nat) (c : Nat → Nat) (BC : St) (C0 A0 : Nat → Int32) (s0 : Nat) (N : Nat) {BR0 : St} (hT0 : atx n L e c BC BR0) (hA : clA n L e c BC C0 A0 s0 N) (p q p' κ τ v : Nat) (x : Int32) (l : List Nat) (m : Nat) (P : Nat → Tp) (ns : Nat) (fx : Bool) (C A S NM BK : Nat → Int32) (bs ws : Nat → Nat) (k g : Nat) (x1 : Int32) (hN : e - p < N + 1) (hT : TS n L e c BC p q p' κ τ v x) (hE : EC L e c BC C0 A0 s0 p m ns l P fx C A S NM BK bs ws) (h2 : (flat l).length + nbS l ≤ p) (hns : 2 * ns ≤ p) (hk : e - p + 1 ≤ k) (hk2 : k < 2 ^ 20) (hg : e - p + 3 ≤ g) (hκ : κ = 5) (hv : v = 126) : ∃ (ok : Bool) (p2 q2 p2' κ2 τ2 v2 : Nat) (x2 : Int32) (m2 : Nat) (P2 : Nat → Tp) (ns2 : Nat) (fx2 : Bool) (C2 A2 S2 NM2 BK2 : Nat → Int32) (bs2 ws2 : Nat → Nat) (tp2 : Nat), df_X9_sum_26 n g x1 (nI k) (uC (xC BC (s0 + m) l.length 0 ns fx C A S NM BK) p' κ q x) = some (if ok = true then x1 else -1, (uC (xC BC (s0 + m2 + 1) tp2 (if ok = true then 5 else 6) ns2 fx2 C2 A2 S2 NM2 BK2) p2' κ2 q2 x2)) ∧ PS ns NM bs ws ns2 NM2 bs2 ws2 ∧ HTS n L e c BC ns2 NM2 BK2 bs2 ws2 q2 p2' κ2 x2 ∧ (ok = true → TS n L e c BC p2 q2 p2' κ2 τ2 v2 x2 ∧ p ≤ p2 ∧ CR (sR BC 5) c e C0 A0 s0 ns2 bs2 ws2 m2 P2 C2 A2 ∧ C2 (s0 + m2) = 21 ∧ (fx2 = true ↔ fxQ c e bs2 ws2 NM2 ns2 m2 P2) ∧ s0 + m2 ≤ p2 ∧ 2 * ns2 ≤ p2 + 1 ∧ 0 < m2) ∧ RO n L e c BC p ok p2 m2 P2 true l m P (nbS l) := by
  obtain ⟨hn, hL, heL, h127, hend, hce, hO, hst, htC, h0, htR, hch⟩ := id hT0
  obtain ⟨t1, t2, t3, t4, t5, t6, t7, t8, t9⟩ := id hT
  obtain ⟨E1, E2, E3, E4, E5, E6⟩ := id hE
  subst hκ
  have hx : x = nI v := t8 (Or.inr (Or.inr rfl))
  have h5 := tk_5 t7
  have hτ : τ = 126 := by omega
  subst hv
  subst hτ
  subst hx
  obtain ⟨q1, q2⟩ := t6 (by decide)
  obtain ⟨qn, pn, κn, τn, vn, xn, n1, n2⟩ := nx_1 hT0 (cs := s0 + m) (tp := l.length + 1) (st := 0) (ns := ns) (fx := fx) (C := C) (A := A) (S := upd S l.length (nI 12)) (NM := NM) (BK := BK) p' 5 q (nI 126) t5 (fun i i1 i2 => t2 i (by omega) i2)
  obtain ⟨g, rfl⟩ : ∃ j : Nat, g = j + 1 := ⟨g - 1, by omega⟩
  obtain ⟨k, rfl⟩ : ∃ j : Nat, k = j + 1 := ⟨k - 1, by omega⟩
  have hc : df_X9_takeOperand n (uC (xC BC (s0 + m) l.length 0 ns fx C A S NM BK) p' 5 q (nI 126)) = some (uC (xC BC (s0 + m) (l.length + 1) 0 ns fx C A (upd S l.length (nI 12)) NM BK) p' 5 q (nI 126)) := xd_S (n := n) (by omega) 126 (by omega) rfl
  have st := su_n (n := n) (g := g) (x1 := x1) k (by omega) (s := (uC (xC BC (s0 + m) l.length 0 ns fx C A S NM BK) p' 5 q (nI 126))) (s' := (uC (xC BC (s0 + m) (l.length + 1) 0 ns fx C A (upd S l.length (nI 12)) NM BK) p' 5 q (nI 126))) (show ¬ nI 0 = (5 : Int32) by decide) (show ¬ nI 0 = (6 : Int32) by decide) ((if_pos (show nI 0 = (0 : Int32) from rfl)).trans hc) (show ¬ nI 0 = (5 : Int32) by decide) (show ¬ nI 0 = (6 : Int32) by decide) n1
  have fl : flat (12 :: l) = sgO 12 :: flat l := flat_b (by omega)
  have fll : (flat (12 :: l)).length = (flat l).length + 1 := by rw [fl]; rfl
  have nbl : nbS (12 :: l) = nbS l := Nat.zero_add _
  obtain ⟨ok, p2, q2', p2', κ2, τ2, v2, x2, m2, P2, ns2, fx2, C2, A2, S2, NM2, BK2, bs2, ws2, tp2, r1, r2, r3, r4, r5⟩ := hA p' qn pn κn τn vn xn (12 :: l) m P ns fx C A (upd S l.length (nI 12)) NM BK bs ws k g x1 (by omega) n2 ⟨⟨by omega, fun z => absurd z (by decide), E1⟩, stk_p 12 E2, E3, E4, E5, by show s0 + m + (l.length + 1) ≤ p'; omega⟩ (by rw [fll, nbl]; omega) (by omega) (by omega) (by omega) (by omega)
  refine ⟨ok, p2, q2', p2', κ2, τ2, v2, x2, m2, P2, ns2, fx2, C2, A2, S2, NM2, BK2, bs2, ws2, tp2, st.trans r1, r2, r3, fun z => ?_, ?_⟩
  · obtain ⟨u1, u2, u3⟩ := r4 z
    exact ⟨u1, by omega, u3⟩
  · intro B V lo hTB hV hln vs ms dv ls PL tk fr to nm gr hER hvl hgr
    obtain ⟨gr, rfl⟩ : ∃ j : Nat, gr = j + 1 := ⟨gr - 1, by omega⟩
    obtain ⟨xr, p3, s1, s2, s3⟩ := t9 (xR B 0 ms dv ls (flat l).length (32800 - vs.length) PL) (at_R hTB) tk fr to nm
    have p3e : p3 = p' := by omega
    subst p3e
    obtain ⟨R1, R2, R3, R4⟩ := hER
    have w1 := ro_S (tk := 0) (n := n) (B := B) (ft := 0) (ms := ms) (dv := dv) (ls := ls) (sg := (flat l).length) (vl := 32800 - vs.length) (PL := PL) (ap := p3) (fr := q) (to := p3) (nm := xr) 126 3 (by omega) (by omega)
    have e1 := e33_1 (n := n) (g := gr) (x1 := nI (bkS l)) (K := (uR (xR B 0 ms dv ls (flat l).length (32800 - vs.length) PL) p tk fr to nm)) (s24 := (uR (xR B 0 ms dv ls (flat l).length (32800 - vs.length) PL) p3 126 q p3 xr)) (τ := 126) rfl s1 rfl (by omega)
    have e2 := e81_1 (n := n) (op := bkS l) (G := df_X13_expression_33 n gr) (y := decide (126 = 40 ∨ 126 = 37)) (r := false) (s := (uR (xR B 0 ms dv ls (flat l).length (32800 - vs.length) PL) p3 126 q p3 xr)) w1
    obtain ⟨w, ft2, ms2, dv2, ls2, sg2, vl2, PL2, ap2, tk2, fr2, to2, nm2, z1, z2, z3, z4⟩ := r5 B V lo hTB hV hln vs ms dv ls (upd PL (flat l).length (nI 3)) 126 q p3 xr gr ⟨by rw [fl]; exact stk_p (sgO 12) R1, vst_u _ _ (by omega) R2, R3, R4⟩ (by omega) (by omega)
    refine ⟨w, ft2, ms2, dv2, ls2, sg2, vl2, PL2, ap2, tk2, fr2, to2, nm2, ?_, z2, z3, z4⟩
    refine Eq.trans e1 (Eq.trans e2 ?_)
    rw [fll, show bkS (12 :: l) = bkS l from Nat.zero_add _] at z1
    exact z1
/-- the sign 40 before a value -/
theorem jA_s40 (n L e : Nat) (c : Nat → Nat) (BC : St) (C0 A0 : Nat → Int32) (s0 : Nat) (N : Nat) {BR0 : St} (hT0 : atx n L e c BC BR0) (hA : clA n L e c BC C0 A0 s0 N) (p q p' κ τ v : Nat) (x : Int32) (l : List Nat) (m : Nat) (P : Nat → Tp) (ns : Nat) (fx : Bool) (C A S NM BK : Nat → Int32) (bs ws : Nat → Nat) (k g : Nat) (x1 : Int32) (hN : e - p < N + 1) (hT : TS n L e c BC p q p' κ τ v x) (hE : EC L e c BC C0 A0 s0 p m ns l P fx C A S NM BK bs ws) (h2 : (flat l).length + nbS l ≤ p) (hns : 2 * ns ≤ p) (hk : e - p + 1 ≤ k) (hk2 : k < 2 ^ 20) (hg : e - p + 3 ≤ g) (hκ : κ = 5) (hv : v = 40) : ∃ (ok : Bool) (p2 q2 p2' κ2 τ2 v2 : Nat) (x2 : Int32) (m2 : Nat) (P2 : Nat → Tp) (ns2 : Nat) (fx2 : Bool) (C2 A2 S2 NM2 BK2 : Nat → Int32) (bs2 ws2 : Nat → Nat) (tp2 : Nat), df_X9_sum_26 n g x1 (nI k) (uC (xC BC (s0 + m) l.length 0 ns fx C A S NM BK) p' κ q x) = some (if ok = true then x1 else -1, (uC (xC BC (s0 + m2 + 1) tp2 (if ok = true then 5 else 6) ns2 fx2 C2 A2 S2 NM2 BK2) p2' κ2 q2 x2)) ∧ PS ns NM bs ws ns2 NM2 bs2 ws2 ∧ HTS n L e c BC ns2 NM2 BK2 bs2 ws2 q2 p2' κ2 x2 ∧ (ok = true → TS n L e c BC p2 q2 p2' κ2 τ2 v2 x2 ∧ p ≤ p2 ∧ CR (sR BC 5) c e C0 A0 s0 ns2 bs2 ws2 m2 P2 C2 A2 ∧ C2 (s0 + m2) = 21 ∧ (fx2 = true ↔ fxQ c e bs2 ws2 NM2 ns2 m2 P2) ∧ s0 + m2 ≤ p2 ∧ 2 * ns2 ≤ p2 + 1 ∧ 0 < m2) ∧ RO n L e c BC p ok p2 m2 P2 true l m P (nbS l) := by
  obtain ⟨hn, hL, heL, h127, hend, hce, hO, hst, htC, h0, htR, hch⟩ := id hT0
  obtain ⟨t1, t2, t3, t4, t5, t6, t7, t8, t9⟩ := id hT
  obtain ⟨E1, E2, E3, E4, E5, E6⟩ := id hE
  subst hκ
  have hx : x = nI v := t8 (Or.inr (Or.inr rfl))
  have h5 := tk_5 t7
  have hτ : τ = 40 := by omega
  subst hv
  subst hτ
  subst hx
  obtain ⟨q1, q2⟩ := t6 (by decide)
  obtain ⟨qn, pn, κn, τn, vn, xn, n1, n2⟩ := nx_1 hT0 (cs := s0 + m) (tp := l.length + 1) (st := 0) (ns := ns) (fx := fx) (C := C) (A := A) (S := upd S l.length (nI 15)) (NM := NM) (BK := BK) p' 5 q (nI 40) t5 (fun i i1 i2 => t2 i (by omega) i2)
  obtain ⟨g, rfl⟩ : ∃ j : Nat, g = j + 1 := ⟨g - 1, by omega⟩
  obtain ⟨k, rfl⟩ : ∃ j : Nat, k = j + 1 := ⟨k - 1, by omega⟩
  have hc : df_X9_takeOperand n (uC (xC BC (s0 + m) l.length 0 ns fx C A S NM BK) p' 5 q (nI 40)) = some (uC (xC BC (s0 + m) (l.length + 1) 0 ns fx C A (upd S l.length (nI 15)) NM BK) p' 5 q (nI 40)) := xd_S (n := n) (by omega) 40 (by omega) rfl
  have st := su_n (n := n) (g := g) (x1 := x1) k (by omega) (s := (uC (xC BC (s0 + m) l.length 0 ns fx C A S NM BK) p' 5 q (nI 40))) (s' := (uC (xC BC (s0 + m) (l.length + 1) 0 ns fx C A (upd S l.length (nI 15)) NM BK) p' 5 q (nI 40))) (show ¬ nI 0 = (5 : Int32) by decide) (show ¬ nI 0 = (6 : Int32) by decide) ((if_pos (show nI 0 = (0 : Int32) from rfl)).trans hc) (show ¬ nI 0 = (5 : Int32) by decide) (show ¬ nI 0 = (6 : Int32) by decide) n1
  have fl : flat (15 :: l) = sgO 15 :: flat l := flat_b (by omega)
  have fll : (flat (15 :: l)).length = (flat l).length + 1 := by rw [fl]; rfl
  have nbl : nbS (15 :: l) = nbS l := Nat.zero_add _
  obtain ⟨ok, p2, q2', p2', κ2, τ2, v2, x2, m2, P2, ns2, fx2, C2, A2, S2, NM2, BK2, bs2, ws2, tp2, r1, r2, r3, r4, r5⟩ := hA p' qn pn κn τn vn xn (15 :: l) m P ns fx C A (upd S l.length (nI 15)) NM BK bs ws k g x1 (by omega) n2 ⟨⟨by omega, fun z => absurd z (by decide), E1⟩, stk_p 15 E2, E3, E4, E5, by show s0 + m + (l.length + 1) ≤ p'; omega⟩ (by rw [fll, nbl]; omega) (by omega) (by omega) (by omega) (by omega)
  refine ⟨ok, p2, q2', p2', κ2, τ2, v2, x2, m2, P2, ns2, fx2, C2, A2, S2, NM2, BK2, bs2, ws2, tp2, st.trans r1, r2, r3, fun z => ?_, ?_⟩
  · obtain ⟨u1, u2, u3⟩ := r4 z
    exact ⟨u1, by omega, u3⟩
  · intro B V lo hTB hV hln vs ms dv ls PL tk fr to nm gr hER hvl hgr
    obtain ⟨gr, rfl⟩ : ∃ j : Nat, gr = j + 1 := ⟨gr - 1, by omega⟩
    obtain ⟨xr, p3, s1, s2, s3⟩ := t9 (xR B 0 ms dv ls (flat l).length (32800 - vs.length) PL) (at_R hTB) tk fr to nm
    have p3e : p3 = p' := by omega
    subst p3e
    obtain ⟨R1, R2, R3, R4⟩ := hER
    have w1 := ro_S (tk := 0) (n := n) (B := B) (ft := 0) (ms := ms) (dv := dv) (ls := ls) (sg := (flat l).length) (vl := 32800 - vs.length) (PL := PL) (ap := p3) (fr := q) (to := p3) (nm := xr) 40 1 (by omega) (by omega)
    have e1 := e33_1 (n := n) (g := gr) (x1 := nI (bkS l)) (K := (uR (xR B 0 ms dv ls (flat l).length (32800 - vs.length) PL) p tk fr to nm)) (s24 := (uR (xR B 0 ms dv ls (flat l).length (32800 - vs.length) PL) p3 40 q p3 xr)) (τ := 40) rfl s1 rfl (by omega)
    have e2 := e81_1 (n := n) (op := bkS l) (G := df_X13_expression_33 n gr) (y := decide (40 = 40 ∨ 40 = 37)) (r := false) (s := (uR (xR B 0 ms dv ls (flat l).length (32800 - vs.length) PL) p3 40 q p3 xr)) w1
    obtain ⟨w, ft2, ms2, dv2, ls2, sg2, vl2, PL2, ap2, tk2, fr2, to2, nm2, z1, z2, z3, z4⟩ := r5 B V lo hTB hV hln vs ms dv ls (upd PL (flat l).length (nI 1)) 40 q p3 xr gr ⟨by rw [fl]; exact stk_p (sgO 15) R1, vst_u _ _ (by omega) R2, R3, R4⟩ (by omega) (by omega)
    refine ⟨w, ft2, ms2, dv2, ls2, sg2, vl2, PL2, ap2, tk2, fr2, to2, nm2, ?_, z2, z3, z4⟩
    refine Eq.trans e1 (Eq.trans e2 ?_)
    rw [fll, show bkS (15 :: l) = bkS l + 1 from Nat.add_comm 1 _] at z1
    exact z1
/-- what can't be where a value is due -/
theorem jA_X (n L e : Nat) (c : Nat → Nat) (BC : St) (C0 A0 : Nat → Int32) (s0 : Nat) (N : Nat) {BR0 : St} (hT0 : atx n L e c BC BR0) (p q p' κ τ v : Nat) (x : Int32) (l : List Nat) (m : Nat) (P : Nat → Tp) (ns : Nat) (fx : Bool) (C A S NM BK : Nat → Int32) (bs ws : Nat → Nat) (k g : Nat) (x1 : Int32) (hN : e - p < N + 1) (hT : TS n L e c BC p q p' κ τ v x) (hE : EC L e c BC C0 A0 s0 p m ns l P fx C A S NM BK bs ws) (h2 : (flat l).length + nbS l ≤ p) (hns : 2 * ns ≤ p) (hk : e - p + 1 ≤ k) (hk2 : k < 2 ^ 20) (hg : e - p + 3 ≤ g) (hκ : κ = 0 ∨ κ = 4 ∨ κ = 6 ∨ (κ = 5 ∧ ¬ v = 45 ∧ ¬ v = 126 ∧ ¬ v = 40 ∧ ¬ v = 37)) : ∃ (ok : Bool) (p2 q2 p2' κ2 τ2 v2 : Nat) (x2 : Int32) (m2 : Nat) (P2 : Nat → Tp) (ns2 : Nat) (fx2 : Bool) (C2 A2 S2 NM2 BK2 : Nat → Int32) (bs2 ws2 : Nat → Nat) (tp2 : Nat), df_X9_sum_26 n g x1 (nI k) (uC (xC BC (s0 + m) l.length 0 ns fx C A S NM BK) p' κ q x) = some (if ok = true then x1 else -1, (uC (xC BC (s0 + m2 + 1) tp2 (if ok = true then 5 else 6) ns2 fx2 C2 A2 S2 NM2 BK2) p2' κ2 q2 x2)) ∧ PS ns NM bs ws ns2 NM2 bs2 ws2 ∧ HTS n L e c BC ns2 NM2 BK2 bs2 ws2 q2 p2' κ2 x2 ∧ (ok = true → TS n L e c BC p2 q2 p2' κ2 τ2 v2 x2 ∧ p ≤ p2 ∧ CR (sR BC 5) c e C0 A0 s0 ns2 bs2 ws2 m2 P2 C2 A2 ∧ C2 (s0 + m2) = 21 ∧ (fx2 = true ↔ fxQ c e bs2 ws2 NM2 ns2 m2 P2) ∧ s0 + m2 ≤ p2 ∧ 2 * ns2 ≤ p2 + 1 ∧ 0 < m2) ∧ RO n L e c BC p ok p2 m2 P2 true l m P (nbS l) := by
  obtain ⟨hn, hL, heL, h127, hend, hce, hO, hst, htC, h0, htR, hch⟩ := id hT0
  obtain ⟨t1, t2, t3, t4, t5, t6, t7, t8, t9⟩ := id hT
  obtain ⟨E1, E2, E3, E4, E5, E6⟩ := id hE
  obtain ⟨g, rfl⟩ : ∃ j : Nat, g = j + 1 + 1 := ⟨g - 2, by omega⟩
  obtain ⟨k, rfl⟩ : ∃ j : Nat, k = j + 1 := ⟨k - 1, by omega⟩
  have tf : τ < 300 ∧ ¬ τ = 1 ∧ ¬ τ = 2 ∧ ¬ τ = 3 ∧ ¬ τ = 37 ∧ ¬ τ = 40 ∧ ¬ τ = 45 ∧ ¬ τ = 126 := by
    by_cases y : κ = 5
    · subst y
      have := tk_5 t7
      omega
    · have := tk_n t7 y
      omega
  have hc : df_X9_takeOperand n (uC (xC BC (s0 + m) l.length 0 ns fx C A S NM BK) p' κ q x) = some (uC (xC BC (s0 + m) l.length 6 ns fx C A S NM BK) p' κ q x) := by
    have h := xd_X (n := n) (B := BC) (cs := s0 + m) (tp := l.length) (st := 0) (ns := ns) (fx := fx) (C := C) (A := A) (S := S) (NM := NM) (BK := BK) (ap := p') (kd := κ) (fr := q) (nm := x) (by
      rcases hκ with y | y | y | y
      · exact Or.inl y
      · exact Or.inr (Or.inl y)
      · exact Or.inr (Or.inr (Or.inl y))
      · obtain ⟨y0, y1, y2, y3, _⟩ := y
        subst y0
        exact Or.inr (Or.inr (Or.inr ⟨rfl, v, (tk_5 t7).1, t8 (Or.inr (Or.inr rfl)), y1, y2, y3⟩)))
    rw [if_neg (show ¬ (κ = 5 ∧ x = 37) from fun z => by
      obtain ⟨z1, z2⟩ := z
      subst z1
      have v3 := (tk_5 t7).1
      rw [t8 (Or.inr (Or.inr rfl))] at z2
      have z2 : nI v = nI 37 := z2
      rw [nI_eq (by omega) (by omega)] at z2
      omega)] at h
    exact h
  have st := su_e (n := n) (g := g) (x1 := x1) k (by omega) (s := (uC (xC BC (s0 + m) l.length 0 ns fx C A S NM BK) p' κ q x)) (s' := (uC (xC BC (s0 + m) l.length 6 ns fx C A S NM BK) p' κ q x)) (show ¬ nI 0 = (5 : Int32) by decide) (show ¬ nI 0 = (6 : Int32) by decide) ((if_pos (show nI 0 = (0 : Int32) from rfl)).trans hc) (Or.inr (show nI 6 = (6 : Int32) from rfl))
  have sz := su_z (n := n) (B := BC) (cs := s0 + m) (tp := l.length) (st := 6) (ns := ns) (fx := fx) (C := C) (A := A) (S := S) (NM := NM) (BK := BK) (ap := p') (kd := κ) (fr := q) (nm := x) x1 (by omega) (Or.inr rfl)
  refine ⟨false, 0, q, p', κ, 0, 0, x, m, P, ns, fx, upd C (s0 + m) 21, upd A (s0 + m) 0, S, NM, BK, bs, ws, l.length, st.trans sz, PS_r, ⟨E4, p, τ, v, hT⟩, fun z => absurd z (by decide), ?_⟩
  intro B V lo hTB hV hln vs ms dv ls PL tk fr to nm gr hER hvl hgr
  obtain ⟨gr, rfl⟩ : ∃ j : Nat, gr = j + 1 + 1 := ⟨gr - 2, by omega⟩
  obtain ⟨xr, p3, s1, s2, s3⟩ := t9 (xR B 0 ms dv ls (flat l).length (32800 - vs.length) PL) (at_R hTB) tk fr to nm
  obtain ⟨ln, l1, l2⟩ := hln
  have w1 := ro_X (n := n) (B := B) (ms := ms) (dv := dv) (ls := ls) (sg := (flat l).length) (vl := 32800 - vs.length) (PL := PL) (ap := p3) (tk := τ) (fr := q) (to := p3) (nm := xr) tf
  have e1 := e33_1 (n := n) (g := gr + 1) (x1 := nI (bkS l)) (K := (uR (xR B 0 ms dv ls (flat l).length (32800 - vs.length) PL) p tk fr to nm)) (s24 := (uR (xR B 0 ms dv ls (flat l).length (32800 - vs.length) PL) p3 τ q p3 xr)) (τ := τ) rfl s1 rfl (by omega)
  have e2 := e81_1 (n := n) (op := bkS l) (G := df_X13_expression_33 n (gr + 1)) (y := decide (τ = 40 ∨ τ = 37)) (r := false) (s := (uR (xR B 0 ms dv ls (flat l).length (32800 - vs.length) PL) p3 τ q p3 xr)) w1
  exact ⟨0, 1 + 16 * sI B 13, ms, dv, ls, (flat l).length, 32800 - vs.length, PL, p3, τ, q, p3, xr, e1.trans (e2.trans (ef_1 hn gr _ _ _ (f1_n l2 l1))), by omega, fun z => absurd z (by decide), fun _ => rfl⟩
/-- a sign between two values -/
theorem jB_B (n L e : Nat) (c : Nat → Nat) (BC : St) (C0 A0 : Nat → Int32) (s0 : Nat) (N : Nat) {BR0 : St} (hT0 : atx n L e c BC BR0) (hA : clA n L e c BC C0 A0 s0 N) (p q p' κ τ v : Nat) (x : Int32) (l : List Nat) (m : Nat) (P : Nat → Tp) (ns : Nat) (fx : Bool) (C A S NM BK : Nat → Int32) (bs ws : Nat → Nat) (k g : Nat) (x1 : Int32) (hN : e - p < N + 1) (hT : TS n L e c BC p q p' κ τ v x) (hE : EC L e c BC C0 A0 s0 p m ns l P fx C A S NM BK bs ws) (h2 : (flat (rsP l)).length + nbS l + 1 ≤ p) (hns : 2 * ns ≤ p + 1) (hm : 0 < m) (hk : e - p + 1 ≤ k) (hk2 : k < 2 ^ 20) (hg : e - p + 3 ≤ g) (hκ : κ = 5) (hb : 0 < bnO v) : ∃ (ok : Bool) (p2 q2 p2' κ2 τ2 v2 : Nat) (x2 : Int32) (m2 : Nat) (P2 : Nat → Tp) (ns2 : Nat) (fx2 : Bool) (C2 A2 S2 NM2 BK2 : Nat → Int32) (bs2 ws2 : Nat → Nat) (tp2 : Nat), df_X9_sum_26 n g x1 (nI k) (uC (xC BC (s0 + m) l.length 1 ns fx C A S NM BK) p' κ q x) = some (if ok = true then x1 else -1, (uC (xC BC (s0 + m2 + 1) tp2 (if ok = true then 5 else 6) ns2 fx2 C2 A2 S2 NM2 BK2) p2' κ2 q2 x2)) ∧ PS ns NM bs ws ns2 NM2 bs2 ws2 ∧ HTS n L e c BC ns2 NM2 BK2 bs2 ws2 q2 p2' κ2 x2 ∧ (ok = true → TS n L e c BC p2 q2 p2' κ2 τ2 v2 x2 ∧ p ≤ p2 ∧ CR (sR BC 5) c e C0 A0 s0 ns2 bs2 ws2 m2 P2 C2 A2 ∧ C2 (s0 + m2) = 21 ∧ (fx2 = true ↔ fxQ c e bs2 ws2 NM2 ns2 m2 P2) ∧ s0 + m2 ≤ p2 ∧ 2 * ns2 ≤ p2 + 1 ∧ 0 < m2) ∧ RO n L e c BC p ok p2 m2 P2 false (rsP l) (m + (usP l).length) (apl P m (usP l)) (nbS l + 1) := by
  obtain ⟨hn, hL, heL, h127, hend, hce, hO, hst, htC, h0, htR, hch⟩ := id hT0
  obtain ⟨t1, t2, t3, t4, t5, t6, t7, t8, t9⟩ := id hT
  obtain ⟨E1, E2, E3, E4, E5, E6⟩ := id hE
  subst hκ
  have hx : x = nI v := t8 (Or.inr (Or.inr rfl))
  obtain ⟨v3, h5⟩ := tk_5 t7
  obtain ⟨q1, q2⟩ := t6 (by decide)
  have b10 := (bn_0 ⟨v, v3⟩).2
  have b10 : bnO v ≤ 10 := b10
  have rv := rr_v ⟨v, v3⟩ hb
  have hτ : τ = sgO (bnO v) := by
    rw [show sgO (bnO v) = (if v = 256 then 6 else if v = 257 then 7 else v) from rv.2.1]
    split
    · omega
    · split <;> omega
  have rτ : rkR τ = rkA (bnO v) := by
    rw [show rkA (bnO v) = rkR (if v = 256 then 6 else if v = 257 then 7 else v) from rv.1, hτ, show sgO (bnO v) = (if v = 256 then 6 else if v = 257 then 7 else v) from rv.2.1]
  have rp : 1 ≤ rkA (bnO v) := rv.2.2
  have r7 : rkA (bnO v) ≤ 7 := (rk_t ⟨bnO v, by omega⟩).2
  have τl : τ < 300 := by omega
  obtain ⟨a1, a2, a3, a4, a5, a6, a7, a8⟩ := us_1 l E1
  obtain ⟨pu1, pu2⟩ := pop_u (rkA (bnO v)) r7 (rsP l) (usP l) a7
  rw [← a1] at pu1 pu2
  have lA := pop_l (rkA (bnO v)) l
  obtain ⟨C', A', e1, e2, e3⟩ := xt_B (n := n) (B := BC) (st := 1) (ns := ns) (fx := fx) (S := S) (NM := NM) (BK := BK) (ap := p') (kd := 5) (fr := q) (nm := x) hn l m P C A E2 (okS_m l E1) (by omega) (by omega) E3 v v3 hb rfl hx
  obtain ⟨qn, pn, κn, τn, vn, xn, n1, n2⟩ := nx_1 hT0 (cs := s0 + m + (popA (rkA (bnO v)) l).length) (tp := (popB (rkA (bnO v)) l).length + 1) (st := 0) (ns := ns) (fx := fx) (C := C') (A := A') (S := upd S (popB (rkA (bnO v)) l).length (nI (bnO v))) (NM := NM) (BK := BK) p' 5 q x t5 (fun i i1 i2 => t2 i (by omega) i2)
  obtain ⟨g, rfl⟩ : ∃ j : Nat, g = j + 1 := ⟨g - 1, by omega⟩
  obtain ⟨k, rfl⟩ : ∃ j : Nat, k = j + 1 := ⟨k - 1, by omega⟩
  have st := su_n (n := n) (g := g) (x1 := x1) k (by omega) (s := (uC (xC BC (s0 + m) l.length 1 ns fx C A S NM BK) p' 5 q x)) (show ¬ nI 1 = (5 : Int32) by decide) (show ¬ nI 1 = (6 : Int32) by decide) ((if_neg (show ¬ nI 1 = (0 : Int32) by decide)).trans ((if_pos (show nI 1 = (1 : Int32) from rfl)).trans e1)) (show ¬ nI 0 = (5 : Int32) by decide) (show ¬ nI 0 = (6 : Int32) by decide) n1
  have fl : flat (bnO v :: popB (rkA (bnO v)) l) = sgO (bnO v) :: flat (popB (rkA (bnO v)) l) := flat_b (by omega)
  have fll : (flat (bnO v :: popB (rkA (bnO v)) l)).length = (flat (popB (rkA (bnO v)) l)).length + 1 := by rw [fl]; rfl
  have nbl : nbS (bnO v :: popB (rkA (bnO v)) l) = 1 + nbS (popB (rkA (bnO v)) l) := by show (if bnO v ≤ 10 then 1 else 0) + _ = _; rw [if_pos b10]
  have f1 := flp_1 (rkA (bnO v)) (rsP l)
  have f2 := nb_p (rkA (bnO v)) l
  rw [Nat.add_assoc s0 m] at n1 st
  obtain ⟨ok, p2, q2', p2', κ2, τ2, v2, x2, m2, P2, ns2, fx2, C2, A2, S2, NM2, BK2, bs2, ws2, tp2, r1, r2, r3, r4, r5⟩ := hA p' qn pn κn τn vn xn (bnO v :: popB (rkA (bnO v)) l) (m + (popA (rkA (bnO v)) l).length) (apl P m (popA (rkA (bnO v)) l)) ns fx C' A' (upd S (popB (rkA (bnO v)) l).length (nI (bnO v))) NM BK bs ws k g x1 (by omega) n2 ⟨⟨by omega, fun _ => by rw [pu2]; exact hd_p _ _ a3 a2, okS_p _ l E1⟩, e3, e2, E4, E5.trans (fx_a _ P m (fun w hw => by have := okS_m l E1 w (popA_m _ l w hw); omega)), by show s0 + _ + ((popB (rkA (bnO v)) l).length + 1) ≤ p'; omega⟩ (by rw [fll, nbl, pu2]; rw [pu2] at f2; omega) (by omega) (by omega) (by omega) (by omega)
  refine ⟨ok, p2, q2', p2', κ2, τ2, v2, x2, m2, P2, ns2, fx2, C2, A2, S2, NM2, BK2, bs2, ws2, tp2, st.trans r1, r2, r3, fun z => ?_, ?_⟩
  · obtain ⟨u1, u2, u3⟩ := r4 z
    exact ⟨u1, by omega, u3⟩
  · intro B V lo hTB hV hln vs ms dv ls PL tk fr to nm gr hER hvl hgr
    obtain ⟨gr, rfl⟩ : ∃ j : Nat, gr = j + 1 := ⟨gr - 1, by omega⟩
    obtain ⟨xr, p3, s1, s2, s3⟩ := t9 (xR B 0 ms dv ls (flat (rsP l)).length (32800 - vs.length) PL) (at_R hTB) tk fr to nm
    have p3e : p3 = p' := by omega
    subst p3e
    obtain ⟨R1, R2, R3, R4⟩ := hER
    have e4 := e33_0 (n := n) (g := gr) (x1 := nI (bkS (rsP l))) (K := (uR (xR B 0 ms dv ls (flat (rsP l)).length (32800 - vs.length) PL) p tk fr to nm)) (s24 := (uR (xR B 0 ms dv ls (flat (rsP l)).length (32800 - vs.length) PL) p3 τ q p3 xr)) (τ := τ) rfl s1 rfl τl
    rw [if_pos (show 0 < rkR τ by omega)] at e4
    obtain ⟨PL', vs', dv', o1, o2, o3, o4, o5, o6⟩ := eo_B (n := n) (B := B) (ms := ms) (dv := dv) (ls := ls) (PL := PL) (ap := p3) (tk := τ) (fr := q) (to := p3) (nm := xr) (V := V) (P := apl P m (usP l)) (m := m + (usP l).length) (G := df_X13_expression_33 n gr) (nI (bkS (rsP l))) hn (rsP l) vs a3 a2 (by omega) R1 R2 (by omega) R3 (bnO v) (by omega) hτ
    rw [← pu2] at o1 o2 o4
    have o5' : rnF V (apl P m (popA (rkA (bnO v)) l)) (m + (popA (rkA (bnO v)) l).length) = (vs', ms, dv') := by
      rw [pu1, apl_a, List.length_append, ← Nat.add_assoc]
      exact o5
    obtain ⟨w, ft2, ms2, dv2, ls2, sg2, vl2, PL2, ap2, tk2, fr2, to2, nm2, z1, z2, z3, z4⟩ := r5 B V lo hTB hV hln vs' ms dv' ls PL' τ q p3 xr gr ⟨o2, o3, o5', by
      rw [R4, ls_a (usP l) P m (fun w hw => by have := a7 w hw; omega), ls_a (popA (rkA (bnO v)) l) P m (fun w hw => by have := okS_m l E1 w (popA_m _ l w hw); omega)]⟩ o4 (by omega)
    refine ⟨w, ft2, ms2, dv2, ls2, sg2, vl2, PL2, ap2, tk2, fr2, to2, nm2, ?_, z2, z3, z4⟩
    refine Eq.trans e4 (Eq.trans o1 ?_)
    have bb : bkS (bnO v :: popB (rkA (bnO v)) l) = bkS (rsP l) := by
      show (if 13 ≤ bnO v then 1 else 0) + bkS (popB (rkA (bnO v)) l) = _
      rw [if_neg (by omega), Nat.zero_add, pu2, bk_p]
    rw [bb] at z1
    exact z1
