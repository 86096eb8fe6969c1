/-- what an expression's reader needs of the reference's tables -/
def RV (n L e : Nat) (c : Nat → Nat) (BC B : St) (X : Nat → Nat) (nL cu : Nat) : Prop := atx n L e c BC B ∧ nL ≤ 16500 ∧ sI B 3 = nI nL ∧ (∀ k : Nat, k < nL → sR B 6 k = nI (X k) ∧ X k < 2 ^ 20) ∧ (∀ k : Nat, k < nL → 3 ≤ X k / 131072 → X k % 131072 < L ∧ 48 ≤ c (X k % 131072)) ∧ sI B 16 = nI cu ∧ cu < 11000 ∧ ∃ ln : Nat, sI B 13 = nI ln ∧ ln ≤ 40000
def PY (PA : Nat → Int32) (cu st : Nat) : Prop := ∃ Y : Nat, PA cu = nI Y ∧ Y < 2 ^ 31 ∧ st = Y % 131072
def VW (c X : Nat → Nat) (e nL st : Nat) (B : St) : Tp → Int32 × Bool := VV c X e nL st (sI B 4) (sI B 17) (sR B 7)
def exF (B : St) (ms dv : Bool) : Int32 := if sI B 15 = 2 ∧ (ms = true ∨ dv = true) then (if ms = true then 8 else 9) + 16 * sI B 13 else 0
theorem exp_R {n L e : Nat} {c : Nat → Nat} {BC B : St} {X : Nat → Nat} {nL st cu : Nat} (hV : RV n L e c BC B X nL cu) {ct : Nat} {gr : Bool} {PA BY OU : Nat → Int32} (hY : PY PA cu st) {p : Nat} {S : St} (h : SR B ct gr PA BY OU 0 p S) {ok : Bool} {p2 m : Nat} {P : Nat → Tp} (R : RX n L e c BC p ok p2 m P) : ∃ (w : Int32) (S' : St) (ms dv : Bool) (ft : Int32) (ap : Nat), df_X13_expression n S = some (w, S') ∧ SR B ct gr PA BY OU ft ap S' ∧ ap ≤ e ∧ sI S' 21 = bI ms ∧ sI S' 22 = bI dv ∧ (ok = true → ap = p2 ∧ rnF (VW c X e nL st B) P m = ([w], ms, dv) ∧ ft = exF B ms dv ∧ sI S' 23 = bI (lsF (loV c X e nL) P m)) ∧ (ok = false → ft = 1 + 16 * sI B 13) := by
  obtain ⟨hT, v1, v2, v3, v4, v5, v6, v7⟩ := hV
  obtain ⟨Y, y1, y2, y3⟩ := hY
  obtain ⟨ms, dv, ls, sg, vl, PL, tk, fr, to, nm, rfl⟩ := h
  have hA := VA_1 (B := yR B ct gr PA BY OU) (BC := BC) hT nL X v1 v2 v3 v4 st cu Y v5 v6 y1 y2 y3
  obtain ⟨w, ft2, ms2, dv2, ls2, sg2, vl2, PL2, ap2, tk2, fr2, to2, nm2, e1, e2, e3, e4⟩ := R (yR B ct gr PA BY OU) _ _ hT hA v7 ms dv ls sg vl PL tk fr to nm
  refine ⟨w, _, ms2, dv2, ft2, ap2, e1, ⟨ms2, dv2, ls2, sg2, vl2, PL2, tk2, fr2, to2, nm2, rfl⟩, e2, rfl, rfl, fun z => ?_, e4⟩
  obtain ⟨a1, a2, a3, a4⟩ := e3 z
  exact ⟨a1, a2, a4, congrArg bI a3⟩
theorem exp_y {n L e : Nat} {c : Nat → Nat} {BC B : St} {X : Nat → Nat} {nL st cu : Nat} (hV : RV n L e c BC B X nL cu) {ct : Nat} {gr : Bool} {PA BY OU : Nat → Int32} (hY : PY PA cu st) {p : Nat} {S : St} (h : SR B ct gr PA BY OU 0 p S) {p2 m : Nat} {P : Nat → Tp} (R : RX n L e c BC p true p2 m P) : ∃ (w : Int32) (S' : St) (ms dv : Bool), df_X13_expression n S = some (w, S') ∧ SR B ct gr PA BY OU (exF B ms dv) p2 S' ∧ p2 ≤ e ∧ sI S' 21 = bI ms ∧ sI S' 22 = bI dv ∧ rnF (VW c X e nL st B) P m = ([w], ms, dv) ∧ sI S' 23 = bI (lsF (loV c X e nL) P m) := by
  obtain ⟨w, S', ms, dv, ft, ap, e1, e2, e3, e4, e5, e6, _⟩ := exp_R hV hY h R
  obtain ⟨a1, a2, a3, a4⟩ := e6 rfl
  rw [a1, a3] at e2
  exact ⟨w, S', ms, dv, e1, e2, by omega, e4, e5, a2, a4⟩
theorem exp_n {n L e : Nat} {c : Nat → Nat} {BC B : St} {X : Nat → Nat} {nL st cu : Nat} (hV : RV n L e c BC B X nL cu) {ct : Nat} {gr : Bool} {PA BY OU : Nat → Int32} (hY : PY PA cu st) {p : Nat} {S : St} (h : SR B ct gr PA BY OU 0 p S) {p2 m : Nat} {P : Nat → Tp} (R : RX n L e c BC p false p2 m P) : ∃ (w : Int32) (S' : St), df_X13_expression n S = some (w, S') ∧ FL e B (1 + 16 * sI B 13) S' := by
  obtain ⟨w, S', ms, dv, ft, ap, e1, e2, e3, e4, e5, _, e7⟩ := exp_R hV hY h R
  rw [e7 rfl] at e2
  exact ⟨w, S', e1, ct, gr, PA, BY, OU, ap, e3, e2⟩
/-- a fault is a fault -/
theorem flt_n {B : St} (h : ∃ ln : Nat, sI B 13 = nI ln ∧ ln ≤ 40000) (k : Nat) (hk : 1 ≤ k ∧ k ≤ 15) : ¬ nI k + 16 * sI B 13 = 0 := by
  obtain ⟨ln, h1, h2⟩ := h
  rw [h1, show (16 : Int32) * nI ln = nI (16 * ln) from pk_mul 16 ln, nI_add]
  exact zne (b := 0) (by omega) (by omega) (by omega)
theorem exF_0 {B : St} (h : ∃ ln : Nat, sI B 13 = nI ln ∧ ln ≤ 40000) {ms dv : Bool} : exF B ms dv = 0 ↔ ¬ (sI B 15 = 2 ∧ (ms = true ∨ dv = true)) := by
  unfold exF
  by_cases y : sI B 15 = 2 ∧ (ms = true ∨ dv = true)
  · rw [if_pos y]
    refine ⟨fun z => absurd z ?_, fun z => absurd y z⟩
    split
    · exact flt_n h 8 (by omega)
    · exact flt_n h 9 (by omega)
  · rw [if_neg y]
    exact ⟨fun _ => y, fun _ => rfl⟩
/-- an operand that must be within bounds: what faults come -/
def wiF (B : St) (ms dv ok : Bool) : Int32 := if sI B 15 = 2 then (if ms = true then 8 + 16 * sI B 13 else if dv = true then 9 + 16 * sI B 13 else if ok = true then 0 else 10 + 16 * sI B 13) else 0
theorem wiF_e {B : St} (h : ∃ ln : Nat, sI B 13 = nI ln ∧ ln ≤ 40000) {ms dv ok : Bool} (hz : ¬ exF B ms dv = 0) : wiF B ms dv ok = exF B ms dv := by
  have hz := fun u => hz ((exF_0 h).mpr u)
  have y : sI B 15 = 2 ∧ (ms = true ∨ dv = true) := Classical.byContradiction hz
  unfold exF wiF
  rw [if_pos y, if_pos y.1]
  by_cases w : ms = true
  · rw [if_pos w, if_pos w]
  · rw [if_neg w, if_neg w, if_pos (by rcases y.2 with u | u; exact absurd u w; exact u)]
theorem wiF_o {B : St} (h : ∃ ln : Nat, sI B 13 = nI ln ∧ ln ≤ 40000) {ms dv ok : Bool} (hz : exF B ms dv = 0) : wiF B ms dv ok = if sI B 15 = 2 ∧ ok = false then 10 + 16 * sI B 13 else 0 := by
  have hz := (exF_0 h).mp hz
  unfold wiF
  by_cases y : sI B 15 = 2
  · have n1 : ¬ ms = true := fun u => hz ⟨y, Or.inl u⟩
    have n2 : ¬ dv = true := fun u => hz ⟨y, Or.inr u⟩
    rw [if_pos y, if_neg n1, if_neg n2]
    cases ok
    · rw [if_neg (by decide), if_pos ⟨y, rfl⟩]
    · rw [if_pos rfl, if_neg (fun u => nomatch u.2)]
  · rw [if_neg y, if_neg (fun u => y u.1)]
/-- fits(), with and without a fault so far -/
theorem fit_y {n : Nat} {B : St} {ct : Nat} {gr : Bool} {PA BY OU : Nat → Int32} {p : Nat} {S : St} (h : SR B ct gr PA BY OU 0 p S) (v lo hi : Int32) {k : Nat} (hk : k = 1 ∨ k = 2 ∨ k = 4 ∨ k = 16) : ∃ S' : St, df_X13_fits n v lo hi (nI k) S = some S' ∧ SR B ct gr PA BY OU (if sI B 15 = 2 ∧ fzO lo hi k v = false then 10 + 16 * sI B 13 else 0) p S' ∧ sI S' 21 = sI S 21 ∧ sI S' 22 = sI S 22 := by
  obtain ⟨ms, dv, ls, sg, vl, PL, tk, fr, to, nm, rfl⟩ := h
  refine ⟨_, fit_R v lo hi hk, ⟨ms, dv, ls, sg, vl, PL, tk, fr, to, nm, ?_⟩, rfl, rfl⟩
  rw [if_pos rfl]
  rfl
/-- an expression, then its bounds: f is what is looked at (the value, or the value less the address) -/
theorem exfit {n L e : Nat} {c : Nat → Nat} {BC B : St} {X : Nat → Nat} {nL st cu : Nat} (hV : RV n L e c BC B X nL cu) {ct : Nat} {gr : Bool} {PA BY OU : Nat → Int32} (hY : PY PA cu st) {p : Nat} {S : St} (h : SR B ct gr PA BY OU 0 p S) {p2 m : Nat} {P : Nat → Tp} (R : RX n L e c BC p true p2 m P) (f : Int32 → Int32) (lo hi : Int32) {k : Nat} (hk : k = 1 ∨ k = 2 ∨ k = 4 ∨ k = 16) : ∃ (w : Int32) (S1 S' : St) (ms dv : Bool), df_X13_expression n S = some (w, S1) ∧ sI S1 17 = sI B 17 ∧ df_X13_fits n (f w) lo hi (nI k) S1 = some S' ∧ rnF (VW c X e nL st B) P m = ([w], ms, dv) ∧ SR B ct gr PA BY OU (wiF B ms dv (fzO lo hi k (f w))) p2 S' ∧ p2 ≤ e := by
  obtain ⟨w, S1, ms, dv, e1, e2, e3, e4, e5, e6, e7⟩ := exp_y hV hY h R
  have hl := hV.2.2.2.2.2.2.2
  by_cases y : exF B ms dv = 0
  · rw [y] at e2
    obtain ⟨S', f1, f2, _⟩ := fit_y (n := n) e2 (f w) lo hi hk
    rw [← wiF_o hl y] at f2
    exact ⟨w, S1, S', ms, dv, e1, SR_17 e2, f1, e6, f2, e3⟩
  · have fl : FL e B (exF B ms dv) S1 := ⟨_, _, _, _, _, _, e3, e2⟩
    refine ⟨w, S1, S1, ms, dv, e1, SR_17 e2, fit_F fl y _ _ _ _ (show ¬ nI k = nI 0 from zne (by omega) (by omega) (by omega)), e6, ?_, e3⟩
    rw [wiF_e hl y]
    exact e2
theorem wit_y {n L e : Nat} {c : Nat → Nat} {BC B : St} {X : Nat → Nat} {nL st cu : Nat} (hV : RV n L e c BC B X nL cu) {ct : Nat} {gr : Bool} {PA BY OU : Nat → Int32} (hY : PY PA cu st) {p : Nat} {S : St} (h : SR B ct gr PA BY OU 0 p S) {p2 m : Nat} {P : Nat → Tp} (R : RX n L e c BC p true p2 m P) (lo hi : Int32) {k : Nat} (hk : k = 1 ∨ k = 2 ∨ k = 4 ∨ k = 16) : ∃ (w : Int32) (S' : St) (ms dv : Bool), df_X13_within n lo hi (nI k) S = some (w, S') ∧ rnF (VW c X e nL st B) P m = ([w], ms, dv) ∧ SR B ct gr PA BY OU (wiF B ms dv (fzO lo hi k w)) p2 S' ∧ p2 ≤ e := by
  obtain ⟨w, S1, S', ms, dv, e1, _, e2, e3, e4, e5⟩ := exfit hV hY h R (fun x => x) lo hi hk
  refine ⟨w, S', ms, dv, ?_, e3, e4, e5⟩
  unfold df_X13_within df_X13_within_0
  rw [e1, nb_b2, show df_X13_fits n w lo hi (nI k) S1 = some S' from e2, nb_b1]
theorem wit_n {n L e : Nat} {c : Nat → Nat} {BC B : St} {X : Nat → Nat} {nL st cu : Nat} (hV : RV n L e c BC B X nL cu) {ct : Nat} {gr : Bool} {PA BY OU : Nat → Int32} (hY : PY PA cu st) {p : Nat} {S : St} (h : SR B ct gr PA BY OU 0 p S) {p2 m : Nat} {P : Nat → Tp} (R : RX n L e c BC p false p2 m P) (lo hi k : Int32) (hk : ¬ k = 0) : ∃ (w : Int32) (S' : St), df_X13_within n lo hi k S = some (w, S') ∧ FL e B (1 + 16 * sI B 13) S' := by
  obtain ⟨w, S', e1, e2⟩ := exp_n hV hY h R
  refine ⟨w, S', ?_, e2⟩
  unfold df_X13_within df_X13_within_0
  rw [e1, nb_b2, fit_F e2 (flt_n hV.2.2.2.2.2.2.2 1 (by omega)) _ _ _ _ hk, nb_b1]
/-- a register of 8 to 15 -/
theorem n8_y {n L e : Nat} {c : Nat → Nat} {BC B : St} (hT : atx n L e c BC B) {ct : Nat} {gr : Bool} {PA BY OU : Nat → Int32} {p : Nat} {S : St} (h : SR B ct gr PA BY OU 0 p S) {q p' κ τ v : Nat} {x : Int32} (T : TS n L e c BC p q p' κ τ v x) (h1 : 8 ≤ tkG c τ q p') (h2 : tkG c τ q p' ≤ 15) : ∃ S' : St, df_X13_near8 n S = some (nI (tkG c τ q p') &&& 7, S') ∧ SR B ct gr PA BY OU 0 p' S' := by
  obtain ⟨S', e1, e2⟩ := tak_y hT h T (by omega)
  refine ⟨S', ?_, e2⟩
  unfold df_X13_near8 df_X13_near8_0 df_X13_near8_22
  rw [e1, nb_b2, if_neg (show ¬ nI (tkG c τ q p') < (8 : Int32) from znl (b := 8) h1 (by omega)), if_pos (show nI (tkG c τ q p') ≤ (15 : Int32) from zle (b := 15) h2 (by omega)), show nI (tkG c τ q p') - (8 : Int32) = nI (tkG c τ q p' - 8) from pk_sub (b := 8) h1]
  have e7 : ∀ r : Fin 16, 8 ≤ r.1 → nI (r.1 - 8) &&& (7 : Int32) = nI r.1 &&& 7 := by decide
  rw [e7 ⟨tkG c τ q p', by omega⟩ h1]
theorem n8_n {n L e : Nat} {c : Nat → Nat} {BC B : St} (hT : atx n L e c BC B) {ct : Nat} {gr : Bool} {PA BY OU : Nat → Int32} {p : Nat} {S : St} (h : SR B ct gr PA BY OU 0 p S) {q p' κ τ v : Nat} {x : Int32} (T : TS n L e c BC p q p' κ τ v x) (hl : ∃ ln : Nat, sI B 13 = nI ln ∧ ln ≤ 40000) (h1 : ¬ (8 ≤ tkG c τ q p' ∧ tkG c τ q p' ≤ 15)) : ∃ (r : Int32) (S' : St), df_X13_near8 n S = some (r, S') ∧ FN c e B ((if tkG c τ q p' = 33 then 1 else 3) + 16 * sI B 13) S' := by
  by_cases y : tkG c τ q p' < 32
  · obtain ⟨S', e1, e2⟩ := tak_y hT h T y
    obtain ⟨S2, b1, b2⟩ := blm_S (n := n) e2 3
    refine ⟨(nI (tkG c τ q p') - 8) &&& 7, S2, ?_, ct, gr, PA, BY, OU, p', T.2.2.2.2.1, fun i i1 i2 => T.2.1 i (by have := T.2.2.1; have := T.2.2.2.1; omega) i2, ?_⟩
    · unfold df_X13_near8 df_X13_near8_0 df_X13_near8_17 df_X13_near8_22
      rw [e1, nb_b2, b1, nb_b1]
      by_cases z : tkG c τ q p' < 8
      · rw [if_pos (show nI (tkG c τ q p') < (8 : Int32) from zlt (b := 8) z (by omega))]
      · rw [if_neg (show ¬ nI (tkG c τ q p') < (8 : Int32) from znl (b := 8) (by omega) (by omega)), if_neg (show ¬ nI (tkG c τ q p') ≤ (15 : Int32) from znle (b := 15) (by omega) (by omega))]
    · rw [if_neg (show ¬ tkG c τ q p' = 33 by omega)]
      exact b2
  · obtain ⟨S', e1, e2⟩ := tak_n hT h T y
    refine ⟨(0 - 8) &&& 7, S', ?_, e2⟩
    unfold df_X13_near8 df_X13_near8_0 df_X13_near8_17 df_X13_near8_22
    rw [e1, nb_b2, if_pos (show (0 : Int32) < 8 by decide), blm_F (FN_L e2) (by
      by_cases z : tkG c τ q p' = 33
      · rw [if_pos z]; exact flt_n hl 1 (by omega)
      · rw [if_neg z]; exact flt_n hl 3 (by omega)), nb_b1]
theorem not_y {n : Nat} {S : St} {v w : Int32} (h : ¬ v = w) : df_X13_not n v w S = some (v, S) := by
  unfold df_X13_not df_X13_not_0 df_X13_not_10
  rw [if_neg h]
theorem not_n {n : Nat} {B : St} {ct : Nat} {gr : Bool} {PA BY OU : Nat → Int32} {p : Nat} {S : St} (h : SR B ct gr PA BY OU 0 p S) (v : Int32) : ∃ S' : St, df_X13_not n v v S = some (v, S') ∧ SR B ct gr PA BY OU (3 + 16 * sI B 13) p S' := by
  obtain ⟨S2, b1, b2⟩ := blm_S (n := n) h 3
  refine ⟨S2, ?_, b2⟩
  unfold df_X13_not df_X13_not_0 df_X13_not_10
  rw [if_pos rfl, b1, nb_b1]
/-- isEnd(): a look ahead -/
theorem ise_S {n L e : Nat} {c : Nat → Nat} {BC B : St} (hT : atx n L e c BC B) {ct : Nat} {gr : Bool} {PA BY OU : Nat → Int32} {p : Nat} {S : St} {ft : Int32} (h : SR B ct gr PA BY OU ft p S) {q p' κ τ v : Nat} {x : Int32} (T : TS n L e c BC p q p' κ τ v x) : ∃ S' : St, df_X13_isEnd n S = some (bI (decide (τ = 0)), S') ∧ SR B ct gr PA BY OU ft p S' := by
  obtain ⟨S1, p2, e1, e2, e3, e4, e5, e6, e7, e8⟩ := scn_S hT h T
  have t3 := ts_300 T
  have h7 := SR_7 h
  obtain ⟨ms, dv, ls, sg, vl, PL, tk, fr, to, nm, rfl⟩ := e2
  refine ⟨uR (xR (yR B ct gr PA BY OU) ft ms dv ls sg vl PL) p tk fr to nm, ?_, ⟨ms, dv, ls, sg, vl, PL, tk, fr, to, nm, rfl⟩⟩
  unfold df_X13_isEnd df_X13_isEnd_0 df_X13_isEnd_26
  rw [h7, nb_let, e1, nb_b1, uR_w7, nb_let, uR_i8]
  rw [uR_i8] at e3
  rw [e3]
  by_cases y : τ = 0
  · rw [if_pos (show nI τ = (0 : Int32) from congrArg nI y), decide_eq_true y]
    exact nar_z (by decide)
  · rw [if_neg (show ¬ nI τ = (0 : Int32) from zne (b := 0) y (by omega) (by omega)), decide_eq_false y]
    exact nar_z (by decide)
/-- a register in brackets -/
theorem brk_y {n L e : Nat} {c : Nat → Nat} {BC B : St} (hT : atx n L e c BC B) {ct : Nat} {gr : Bool} {PA BY OU : Nat → Int32} {p : Nat} {S : St} (h : SR B ct gr PA BY OU 0 p S) {q p' κ τ v : Nat} {x : Int32} (T : TS n L e c BC p q p' κ τ v x) (ht : τ = 40) {q1 p1 κ1 τ1 v1 : Nat} {x1 : Int32} (T1 : TS n L e c BC p' q1 p1 κ1 τ1 v1 x1) (hg : tkG c τ1 q1 p1 < 32) {q2 p2 κ2 τ2 v2 : Nat} {x2 : Int32} (T2 : TS n L e c BC p1 q2 p2 κ2 τ2 v2 x2) (ht2 : τ2 = 41) : ∃ S' : St, df_X13_bracketed n S = some (nI (tkG c τ1 q1 p1), S') ∧ SR B ct gr PA BY OU 0 p2 S' := by
  obtain ⟨S1, e1, g1, _⟩ := ned_y hT h T 40 (by omega) (by omega) ht
  obtain ⟨S2, e2, g2⟩ := tak_y hT g1 T1 hg
  obtain ⟨S3, e3, g3, _⟩ := ned_y hT g2 T2 41 (by omega) (by omega) ht2
  refine ⟨S3, ?_, g3⟩
  unfold df_X13_bracketed df_X13_bracketed_0 df_X13_bracketed_17 df_X13_bracketed_32
  rw [show (40 : Int32) = nI 40 from rfl, e1, nb_b2, if_neg (by decide), e2, nb_b2, if_pos (SR_12 g2), show (41 : Int32) = nI 41 from rfl, e3, nb_b2]
theorem brk_1 {n L e : Nat} {c : Nat → Nat} {BC B : St} (hT : atx n L e c BC B) {ct : Nat} {gr : Bool} {PA BY OU : Nat → Int32} {p : Nat} {S : St} (h : SR B ct gr PA BY OU 0 p S) (hl : ∃ ln : Nat, sI B 13 = nI ln ∧ ln ≤ 40000) {q p' κ τ v : Nat} {x : Int32} (T : TS n L e c BC p q p' κ τ v x) (ht : ¬ τ = 40) : ∃ (r : Int32) (S' : St), df_X13_bracketed n S = some (r, S') ∧ FL e B (1 + 16 * sI B 13) S' := by
  obtain ⟨S1, e1, g1⟩ := ned_n hT h T 40 (by omega) ht
  refine ⟨0, S1, ?_, FN_L g1⟩
  unfold df_X13_bracketed df_X13_bracketed_0 df_X13_bracketed_17 df_X13_bracketed_32
  rw [show (40 : Int32) = nI 40 from rfl, e1, nb_b2, if_pos rfl, if_neg (by rw [(FL_f (FN_L g1)).1]; exact flt_n hl 1 (by omega))]
theorem brk_2 {n L e : Nat} {c : Nat → Nat} {BC B : St} (hT : atx n L e c BC B) {ct : Nat} {gr : Bool} {PA BY OU : Nat → Int32} {p : Nat} {S : St} (h : SR B ct gr PA BY OU 0 p S) (hl : ∃ ln : Nat, sI B 13 = nI ln ∧ ln ≤ 40000) {q p' κ τ v : Nat} {x : Int32} (T : TS n L e c BC p q p' κ τ v x) (ht : τ = 40) {q1 p1 κ1 τ1 v1 : Nat} {x1 : Int32} (T1 : TS n L e c BC p' q1 p1 κ1 τ1 v1 x1) (hg : ¬ tkG c τ1 q1 p1 < 32) : ∃ (r : Int32) (S' : St), df_X13_bracketed n S = some (r, S') ∧ FL e B ((if tkG c τ1 q1 p1 = 33 then 1 else 3) + 16 * sI B 13) S' := by
  obtain ⟨S1, e1, g1, _⟩ := ned_y hT h T 40 (by omega) (by omega) ht
  obtain ⟨S2, e2, g2⟩ := tak_n hT g1 T1 hg
  refine ⟨0, S2, ?_, FN_L g2⟩
  unfold df_X13_bracketed df_X13_bracketed_0 df_X13_bracketed_17 df_X13_bracketed_32
  rw [show (40 : Int32) = nI 40 from rfl, e1, nb_b2, if_neg (by decide), e2, nb_b2, if_neg (by
    rw [(FL_f (FN_L g2)).1]
    by_cases z : tkG c τ1 q1 p1 = 33
    · rw [if_pos z]; exact flt_n hl 1 (by omega)
    · rw [if_neg z]; exact flt_n hl 3 (by omega))]
theorem brk_3 {n L e : Nat} {c : Nat → Nat} {BC B : St} (hT : atx n L e c BC B) {ct : Nat} {gr : Bool} {PA BY OU : Nat → Int32} {p : Nat} {S : St} (h : SR B ct gr PA BY OU 0 p S) (hl : ∃ ln : Nat, sI B 13 = nI ln ∧ ln ≤ 40000) {q p' κ τ v : Nat} {x : Int32} (T : TS n L e c BC p q p' κ τ v x) (ht : τ = 40) {q1 p1 κ1 τ1 v1 : Nat} {x1 : Int32} (T1 : TS n L e c BC p' q1 p1 κ1 τ1 v1 x1) (hg : tkG c τ1 q1 p1 < 32) {q2 p2 κ2 τ2 v2 : Nat} {x2 : Int32} (T2 : TS n L e c BC p1 q2 p2 κ2 τ2 v2 x2) (ht2 : ¬ τ2 = 41) : ∃ (r : Int32) (S' : St), df_X13_bracketed n S = some (r, S') ∧ FL e B (1 + 16 * sI B 13) S' := by
  obtain ⟨S1, e1, g1, _⟩ := ned_y hT h T 40 (by omega) (by omega) ht
  obtain ⟨S2, e2, g2⟩ := tak_y hT g1 T1 hg
  obtain ⟨S3, e3, g3⟩ := ned_n hT g2 T2 41 (by omega) ht2
  refine ⟨nI (tkG c τ1 q1 p1), S3, ?_, FN_L g3⟩
  unfold df_X13_bracketed df_X13_bracketed_0 df_X13_bracketed_17 df_X13_bracketed_32
  rw [show (40 : Int32) = nI 40 from rfl, e1, nb_b2, if_neg (by decide), e2, nb_b2, if_pos (SR_12 g2), show (41 : Int32) = nI 41 from rfl, e3, nb_b2]
