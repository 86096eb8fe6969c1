/-- behind a name of two letters or more something stands, if its form begins with a register -/
theorem nm_4 {n L e : Nat} {c : Nat → Nat} {BC : St} {y q p1 : Nat} (hy : y < 128) (h4 : ¬ y = 104) (hk : ks_n (ko_w y) ≤ p1 - q) (hp : p1 ≤ e) {p2 : Nat} {rs : List Nat} {m : Nat} {P : Nat → Tp} (h : Tr n L e c BC (FRM y) p1 0 p2 rs m P) : q + 3 ≤ e := by
  rcases nm_3 ⟨y, hy⟩ with z | z | z
  · have z : 3 ≤ ks_n (ko_w y) := z
    omega
  · obtain ⟨z1, z2⟩ := z
    have z1 : ks_n (ko_w y) = 2 := z1
    have z2 : 97 ≤ (FRM y).headD 0 := z2
    cases hF : FRM y with
    | nil => rw [hF] at z2; exact absurd z2 (by decide)
    | cons l F =>
      rw [hF] at z2 h
      have := Tr_2 (show 97 ≤ l from z2) h
      omega
  · exact absurd z h4
theorem nm_5 {y q p1 e : Nat} (hk : ks_n (ko_w y) ≤ p1 - q) (hp : p1 ≤ e) (h : 3 ≤ ks_n (ko_w y)) : q + 3 ≤ e := by omega
/-- plain ones: kind, length, letter -/
theorem pl_a : ∀ y : Fin 128, isPl y.1 → tb_0 y.1 = 0 ∧ aKd y.1 = 0 ∧ ko_s y.1 &&& 32 = 0 ∧ eL (FRM y.1) < 128 ∧ ko_s y.1 &&& 8 = 0 ∧ ko_s y.1 &&& 2 = 0 ∧ ko_s y.1 &&& 16 = 0 ∧ ¬ y.1 = 104 := by unfold isPl; decide +kernel
theorem aLn_0 {y : Nat} {b : Int32} (h1 : ko_s y &&& 8 = 0) (h2 : ko_s y &&& 2 = 0) (h3 : ko_s y &&& 16 = 0) : aLn y b = if b &&& 3 = 3 then nI 4 else nI 2 := by
  unfold aLn
  rw [if_neg (fun z => z h1), if_neg (fun z => z h2), if_neg (fun z => z h3)]
  rfl
theorem bb_0 {BY : Nat → Int32} {cu k : Nat} (h : BY cu = nI 0) : (if BY cu = 0 then nI k else BY cu) = nI k := if_pos h
theorem Tr_X {n L e : Nat} {c : Nat → Nat} {BC : St} {m : Nat} {P : Nat → Tp} : ∀ {F : List Nat} {p p2 : Nat} {rs : List Nat}, Tr n L e c BC F p 0 p2 rs m P → ¬ eL F = 0 → ∃ px py : Nat, RX n L e c BC px true py m P
  | [], _, _, _, _, hl => absurd rfl hl
  | l :: F, p, p2, rs, h, hl => by
    obtain ⟨q, p', κ, τ, v, x, T, h⟩ := h
    by_cases z : l < 65
    · rw [if_pos z] at h
      have hl : ¬ eL F = 0 := by
        intro w
        apply hl
        show (if 65 ≤ l ∧ l < 97 then l else eL F) = 0
        rw [if_neg (by omega), w]
      rcases h with h | h
      · exact Tr_X h.2 hl
      · exact absurd h.2 (by decide)
    · rw [if_neg z] at h
      by_cases z2 : 97 ≤ l
      · rw [if_pos z2] at h
        have hl : ¬ eL F = 0 := by
          intro w
          apply hl
          show (if 65 ≤ l ∧ l < 97 then l else eL F) = 0
          rw [if_neg (by omega), w]
        rcases h with h | h | h
        · obtain ⟨_, _, rs', _, h⟩ := h
          exact Tr_X h hl
        · exact absurd h.2 (by decide)
        · exact absurd h.2 (by decide)
      · rw [if_neg z2] at h
        obtain ⟨ok, px, R, h⟩ := h
        rcases h with h | h
        · exact ⟨p, px, h.1 ▸ R⟩
        · exact absurd h.2 (by decide)
theorem Tr_le {n L e : Nat} {c : Nat → Nat} {BC : St} {m : Nat} {P : Nat → Tp} : ∀ {F : List Nat} {p p2 : Nat} {rs : List Nat}, p ≤ e → Tr n L e c BC F p 0 p2 rs m P → p2 ≤ e
  | [], _, _, _, hp, h => by rw [h.2.1]; exact hp
  | l :: F, p, p2, rs, hp, h => by
    obtain ⟨q, p', κ, τ, v, x, T, h⟩ := h
    have hp' := T.2.2.2.2.1
    by_cases z : l < 65
    · rw [if_pos z] at h
      rcases h with h | h
      · exact Tr_le hp' h.2
      · exact absurd h.2 (by decide)
    · rw [if_neg z] at h
      by_cases z2 : 97 ≤ l
      · rw [if_pos z2] at h
        rcases h with h | h | h
        · obtain ⟨_, _, rs', _, h⟩ := h
          exact Tr_le hp' h
        · exact absurd h.2 (by decide)
        · exact absurd h.2 (by decide)
      · rw [if_neg z2] at h
        obtain ⟨ok, px, R, h⟩ := h
        rcases h with h | h
        · exact Tr_le h.2.2.1 h.2.2.2
        · exact absurd h.2 (by decide)
theorem aK_4 {y : Nat} : aKd y = 0 ∨ aKd y = 1 ∨ aKd y = 2 ∨ aKd y = 3 := by
  unfold aKd
  by_cases h1 : ko_s y &&& 8 = 0
  · rw [if_neg (fun z => z h1)]
    by_cases h2 : ko_s y &&& 2 = 0
    · rw [if_neg (fun z => z h2)]
      by_cases h3 : ko_s y &&& 16 = 0
      · rw [if_neg (fun z => z h3)]; exact Or.inl rfl
      · rw [if_pos h3]; exact Or.inr (Or.inr (Or.inr rfl))
    · rw [if_pos h2]; exact Or.inr (Or.inr (Or.inl rfl))
  · rw [if_pos h1]; exact Or.inr (Or.inl rfl)
theorem aK_L : ∀ y : Fin 128, (aKd y.1 = 0 → ko_s y.1 &&& 8 = 0 ∧ ko_s y.1 &&& 2 = 0 ∧ ko_s y.1 &&& 16 = 0) ∧ (aKd y.1 = 1 → ¬ ko_s y.1 &&& 8 = 0 ∧ ¬ eL (FRM y.1) = 0) ∧ (aKd y.1 = 2 → ¬ eL (FRM y.1) = 0) ∧ (aKd y.1 = 3 → ko_s y.1 &&& 8 = 0 ∧ ko_s y.1 &&& 2 = 0 ∧ ¬ ko_s y.1 &&& 16 = 0 ∧ ¬ eL (FRM y.1) = 0) ∧ (aKd y.1 = 0 → ko_s y.1 &&& 32 = 0 → eL (FRM y.1) = 0 ∨ ltO (eL (FRM y.1)) = true) := by decide +kernel
theorem aK_M : ∀ y : Fin 128, aKd y.1 = 1 → FRM y.1 = [74] ∧ (ko_b y.1 = 111 ∨ ko_b y.1 = 239) := by decide +kernel
/-- a statement that readInstruction reads, from what the reference does with the same form -/
theorem stj_I {n L e : Nat} {c : Nat → Nat} {BC B Bq : St} {sn lu ln se co cs ns : Nat} {od : Int32} {SW LW NM BK : Nat → Int32} {bs ws X : Nat → Nat} {nL cu : Nat} {PA BY OU : Nat → Int32} {q p1 y : Nat} (J : JH n L e c BC B sn lu ln se cs ns NM BK bs ws X nL cu PA BY q p1 y od) (tp st : Nat) (fx : Bool) (C A Sx : Nat → Int32) {q1 p' κ τ v : Nat} {x : Int32} (T : TS n L e c BC p1 q1 p' κ τ v x) {ct ap : Nat} {gr : Bool} {S : St} (h : SR B ct gr PA BY OU 0 ap S) (y' : Nat) (hy' : y' < 128) (hli : ko_s y' &&& 32 = 0) (hC0 : df_X1_readStatement n y ((qC Bq sn lu 0 ln se od co SW LW), (uC (xC BC cs tp st ns fx C A Sx NM BK) p' κ q1 x)) = nd_b1 (df_X1_readInstruction n y' ((qC Bq sn lu 0 ln se od co SW LW), (uC (xC BC cs tp st ns fx C A Sx NM BK) p' κ q1 x))) (fun (t : St × St) => df_X1_readStatement_206 n t)) (hRef : ∀ (f p2 : Nat) (rs : List Nat) (m : Nat) (P : Nat → Tp), Tr n L e c BC (FRM y') p1 f p2 rs m P → ∃ (S1 : St) (fl ct' lw lv sz : Nat) (gr' : Bool), df_X13_statement n (nI q) 0 S = df_X13_statement_326 n S1 ∧ (¬ f = 0 → FL e (pI B 15 0) (nI f + 16 * sI B 13) S1) ∧ (f = 0 → SR (pI B 15 0) ct' gr' (upd PA cu (nI ((4 * se + fl) * 2 ^ 17 + q))) BY OU 0 p2 S1 ∧ RFB n L e c BC q se lw lv sz none X (sR B 7) nL (aKd y', ko_b y' ||| od ||| RGB (FRM y') rs, if aKd y' = 0 then eL (FRM y') else 0, [(m, P)], []) ∧ lw ≤ fl % 4 ∧ fl % 4 ≤ lv ∧ (aKd y' = 0 → fl = 0 ∧ aLn y' (ko_b y' ||| od ||| RGB (FRM y') rs) = nI ct') ∧ (aKd y' = 1 → fl = 8 ∧ od = 0) ∧ (aKd y' = 2 → (fl = 16 ∧ aLn y' (ko_b y' ||| od ||| RGB (FRM y') rs) = nI 2) ∨ (fl = 25 ∧ aLn y' (ko_b y' ||| od ||| RGB (FRM y') rs) = nI 4)) ∧ (aKd y' = 3 → fl = 0 ∧ ct' = 8) ∧ (aKd y' = 1 → lv = 1) ∧ (aKd y' = 2 → lv = 2) ∧ ct' ≤ 8)) (h3 : ∀ (p2 : Nat) (rs : List Nat) (m : Nat) (P : Nat → Tp) (Q' U' : St), Tr n L e c BC (FRM y') p1 0 p2 rs m P → df_X1_readInstruction n y' ((qC Bq sn lu 0 ln se od co SW LW), (uC (xC BC cs tp st ns fx C A Sx NM BK) p' κ q1 x)) = some (Q', U') → sI Q' 2 = 0 → q + 3 ≤ e) : JF n e B (qC Bq sn lu 0 ln se od co SW LW) (uC (xC BC cs tp st ns fx C A Sx NM BK) p' κ q1 x) S ln q y ∨ JG n L e c BC B Bq (uC (xC BC cs tp st ns fx C A Sx NM BK) p' κ q1 x) S sn lu ln se co od SW LW cs ns C A NM bs ws X nL cu PA BY OU q p1 y := by
  obtain ⟨hV, hc, hH, hN, hI, h13, h14, hse, hsn, hcs, hns, hlu, hP, hB, hy, ho, hod, hNA, ⟨κ0, v0, x0, T0⟩, hkw⟩ := id J
  have hT0 := hV.1
  have hq0 : q < p1 := (T0.2.2.2.2.2.1 (fun z => absurd ((ts_0 T0).1.mp z) (by decide))).2
  have hL := hT0.2.1
  have heL := hT0.2.2.1
  have hp1e := (ts_le T0).2.2
  have hY : PY PA cu q := py_J (c := c) hP hse (by omega)
  obtain ⟨k0, k1, k2, k3, k4⟩ := aK_L ⟨y', hy'⟩
  have k0 : aKd y' = 0 → ko_s y' &&& 8 = 0 ∧ ko_s y' &&& 2 = 0 ∧ ko_s y' &&& 16 = 0 := k0
  have k1 : aKd y' = 1 → ¬ ko_s y' &&& 8 = 0 ∧ ¬ eL (FRM y') = 0 := k1
  have k2 : aKd y' = 2 → ¬ eL (FRM y') = 0 := k2
  have k3 : aKd y' = 3 → ko_s y' &&& 8 = 0 ∧ ko_s y' &&& 2 = 0 ∧ ¬ ko_s y' &&& 16 = 0 ∧ ¬ eL (FRM y') = 0 := k3
  have k4 : aKd y' = 0 → ko_s y' &&& 32 = 0 → eL (FRM y') = 0 ∨ ltO (eL (FRM y')) = true := k4
  obtain ⟨f, p2, rs, m, P, cs', tp', st', ns', fx', C', A', S', NM', BK', bs', ws', q2, p2', κ2, τ2, v2, x2, hTr, hf, hne, hz⟩ := rdi_C hT0 y' hy' hli (B := Bq) (sn := sn) (lu := lu) (ln := ln) (se := se) (co := co) (od := od) (SW := SW) (LW := LW) hsn cs tp st ns fx C A Sx NM BK bs ws p1 q1 p' κ τ v x T hH (by omega) hcs hns
  obtain ⟨S1, fl, ct', lw, lv, sz, gr', r1, r2, r3⟩ := hRef f p2 rs m P hTr
  by_cases z : f = 0
  · subst z
    obtain ⟨c1, T2, c2, c3, c4, c5, c6, c7, c8⟩ := hz rfl
    obtain ⟨r3, g1, g2, g3, g4, g5, g6, g7, g8, g9, g10⟩ := r3 rfl
    rw [← p14_s (B := B) (v := 0)] at r3
    have hC := hC0
    rw [c1, nb_b1] at hC
    rcases jfin hT0 hC r1 r3 T2 with w | ⟨w1, w2, S2, w3, w4⟩
    · exact Or.inl w
    right
    rw [p14_s] at w4
    have hle := ts_le T2
    have hone : ¬ eL (FRM y') = 0 → CDo (sR BC 5) c e ns' bs' ws' C' A' cs [(m, P)] cs' := fun hl => by
      obtain ⟨d1, d2, d3, d4⟩ := c8 hl
      obtain ⟨px, py, R9⟩ := Tr_X hTr hl
      rw [d1]
      exact CDo_1 d2 d3 d4 (one_R hV hY R9).1
    have hcc : cs ≤ cs' ∧ (∀ i : Nat, i < cs → C' i = C i ∧ A' i = A i) := by
      by_cases hl : eL (FRM y') = 0
      · obtain ⟨d1, d2, d3, d4, d5⟩ := c7 hl
        exact ⟨by omega, fun i _ => ⟨by rw [d3], by rw [d4]⟩⟩
      · obtain ⟨d1, d2, d3, d4⟩ := c8 hl
        exact ⟨by omega, d2.1⟩
    have hq3 := h3 p2 rs m P _ _ hTr c1 rfl
    have e8 : aKd y' ≤ 8 := by
      rcases aK_4 (y := y') with a | a | a | a <;> omega
    refine ⟨(aKd y', ko_b y' ||| od ||| RGB (FRM y') rs, if aKd y' = 0 then eL (FRM y') else 0, [(m, P)], []), fl, lw, lv, sz, none, _, _, _, _, lu, LW, cs', ns', C', A', NM', BK', bs', ws', p2', ct', gr', BY, _, S2, w2, ⟨BC, tp', st', fx', S', κ2, q2, x2, Or.inl rfl, rfl⟩, w3, w4, by omega, hle.2.2, hq3, c3, c4, hcc.1, by omega, by omega, Nat.le_refl _, by omega, hcc.2, fun _ _ => rfl, fun _ _ => rfl, g1, (fun _ z => nomatch z), g2, g3, e8, g8, g9, ?_⟩
    rw [bb_0 hB]
    rcases aK_4 (y := y') with a | a | a | a
    · obtain ⟨a5, a6, a7⟩ := k0 a
      obtain ⟨f0, f1⟩ := g4 a
      have e1 : (if aKd y' = 0 then nI (eL (FRM y')) else nI 0) = nI (if aKd y' = 0 then eL (FRM y') else 0) := by rw [if_pos a, if_pos a]
      refine Or.inl ⟨a, f0, rfl, aLn_0 a5 a6 a7, f1.symm, e1, ?_, fun hl => ?_⟩
      · show (if aKd y' = 0 then eL (FRM y') else 0) = 0 ∨ ltO (if aKd y' = 0 then eL (FRM y') else 0) = true
        rw [if_pos a]; exact k4 a hli
      · have hl : ¬ (if aKd y' = 0 then eL (FRM y') else 0) = 0 := hl
        rw [if_pos a] at hl
        exact ⟨if_neg hl, hone hl, m, P, rfl⟩
    · obtain ⟨a5, hl⟩ := k1 a
      have hb1 : ko_b y' ||| od ||| RGB (FRM y') rs = ko_b y' := by
        rw [(aK_M ⟨y', hy'⟩ a).1, show RGB [74] rs = 0 from rfl, (g5 a).2, or_0, or_0]
      refine Or.inr (Or.inl ⟨a, (g5 a).1, ⟨rfl, by rw [hb1]; exact (aK_M ⟨y', hy'⟩ a).2⟩, ?_, ?_, if_neg hl, hone hl, ⟨m, P, rfl⟩, ct', g10, rfl⟩)
      · unfold aLn
        rw [if_pos a5]; rfl
      · rw [if_neg (show ¬ aKd y' = 0 by omega)]
    · have hl := k2 a
      refine Or.inr (Or.inr (Or.inl ⟨a, g6 a, rfl, ?_, if_neg hl, hone hl, ⟨m, P, rfl⟩, ct', g10, rfl⟩))
      rw [if_neg (show ¬ aKd y' = 0 by omega)]
    · obtain ⟨a5, a6, a7, hl⟩ := k3 a
      obtain ⟨f0, f1⟩ := g7 a
      have e2 : aLn y' (ko_b y' ||| od ||| RGB (FRM y') rs) = nI 8 := by
        unfold aLn
        rw [if_neg (fun z => z a5), if_neg (fun z => z a6), if_pos a7]; rfl
      refine Or.inr (Or.inr (Or.inr (Or.inl ⟨a, f0, rfl, e2, ?_, ?_, if_neg hl, hone hl, m, P, rfl⟩)))
      · rw [f1, e2]
      · rw [if_neg (show ¬ aKd y' = 0 by omega)]
  · left
    have c1 := hne z
    have r2 := r2 z
    rw [← p14_s (B := B) (v := 0)] at r2
    have f15 : 1 ≤ f ∧ f ≤ 15 := by omega
    have hfl : ¬ nI f + 16 * sI (pI (pI B 15 0) 14 (sI B 14)) 13 = 0 := flt_n (B := pI (pI B 15 0) 14 (sI B 14)) hV.2.2.2.2.2.2.2 f f15
    refine ⟨f, qC Bq sn lu (nI f) ln se od co SW LW, uC (xC BC cs' tp' st' ns' fx' C' A' S' NM' BK') p2' κ2 q2 x2, S1, f15.1, f15.2, ?_, rfl, rfl, ?_, ⟨_, r2, rfl, rfl, rfl, rfl⟩⟩
    · rw [hC0, c1, nb_b1, end_CF (show ¬ nI f = 0 from fun w => absurd ((nI_eq (a := f) (b := 0) (by omega) (by omega)).mp w) (by omega))]
    · rw [r1, end_F r2 hfl]
theorem stj_P {n L e : Nat} {c : Nat → Nat} {BC B Bq : St} {sn lu ln se co cs ns : Nat} {od : Int32} {SW LW NM BK : Nat → Int32} {bs ws X : Nat → Nat} {nL cu : Nat} {PA BY OU : Nat → Int32} {q p1 y : Nat} (J : JH n L e c BC B sn lu ln se cs ns NM BK bs ws X nL cu PA BY q p1 y od) (hp : isPl y) (tp st : Nat) (fx : Bool) (C A Sx : Nat → Int32) {q1 p' κ τ v : Nat} {x : Int32} (T : TS n L e c BC p1 q1 p' κ τ v x) {ct ap : Nat} {gr : Bool} {S : St} (h : SR B ct gr PA BY OU 0 ap S) : JF n e B (qC Bq sn lu 0 ln se od co SW LW) (uC (xC BC cs tp st ns fx C A Sx NM BK) p' κ q1 x) S ln q y ∨ JG n L e c BC B Bq (uC (xC BC cs tp st ns fx C A Sx NM BK) p' κ q1 x) S sn lu ln se co od SW LW cs ns C A NM bs ws X nL cu PA BY OU q p1 y := by
  obtain ⟨hV, hc, hH, hN, hI, h13, h14, hse, hsn, hcs, hns, hlu, hP, hB, hy, ho, hod, hNA, ⟨κ0, v0, x0, T0⟩, hkw⟩ := id J
  have hT0 := hV.1
  have hq0 : q < p1 := (T0.2.2.2.2.2.1 (fun z => absurd ((ts_0 T0).1.mp z) (by decide))).2
  have hL := hT0.2.1
  have heL := hT0.2.2.1
  have hp1e := (ts_le T0).2.2
  have hY : PY PA cu q := py_J (c := c) hP hse (by omega)
  obtain ⟨a1, a2, a3, a4, a5, a6, a7, a8⟩ := pl_a ⟨y, hy⟩ hp
  have a1 : tb_0 y = 0 := a1
  have a2 : aKd y = 0 := a2
  have a3 : ko_s y &&& 32 = 0 := a3
  have a5 : ko_s y &&& 8 = 0 := a5
  have a6 : ko_s y &&& 2 = 0 := a6
  have a7 : ko_s y &&& 16 = 0 := a7
  have a8 : ¬ y = 104 := a8
  refine stj_I J tp st fx C A Sx T h y hy a3 (drs_1 n y hy _ a1) (fun f p2 rs m P hTr => ?_) (fun p2 rs m P Q' U' hTr _ _ => nm_4 hy a8 hkw hp1e hTr)
  obtain ⟨S1, r1, r2, r3⟩ := rdr_P hV hc h T0 hY hNA (PLR_P (n := n) (L := L) (e := e) (c := c) (BC := BC) hy ho hp hTr)
  refine ⟨S1, 0, (if (ko_b y ||| od ||| RGB (FRM y) rs) &&& 3 = 3 then 4 else 2), 0, 3, 4, gr, r1, r2, fun z => ⟨?_, ?_, Nat.le_refl _, by decide, fun _ => ⟨rfl, ?_⟩, fun w => absurd (a2.symm.trans w) (by decide), fun w => absurd (a2.symm.trans w) (by decide), fun w => absurd (a2.symm.trans w) (by decide), fun w => absurd (a2.symm.trans w) (by decide), fun w => absurd (a2.symm.trans w) (by decide), (by first | omega | (split <;> omega))⟩⟩
  · rw [Nat.add_zero, upd_s hP]; exact r3 z
  · subst z
    have : RFB n L e c BC q se 0 3 4 none X (sR B 7) nL (0, ko_b y ||| od ||| RGB (FRM y) rs, eL (FRM y), [(m, P)], []) := rfb_P hT0 T0 hNA (PLR_P hy ho hp hTr) (Tr_le hp1e hTr)
    rw [a2, if_pos rfl]
    exact this
  · rw [aLn_0 a5 a6 a7]
    by_cases h3 : (ko_b y ||| od ||| RGB (FRM y) rs) &&& 3 = 3
    · rw [if_pos h3, if_pos h3]
    · rw [if_neg h3, if_neg h3]
/-- la -/
theorem la_k : tb_0 116 = 0 ∧ aKd 116 = 3 ∧ ko_s 116 &&& 32 = 0 ∧ shT (sgm 116) = 38 := by decide +kernel
theorem od_0 {y : Nat} {od : Int32} (hod : ¬ od = 0 → shT (sgm y) = 9 ∨ shT (sgm y) = 10) (h1 : ¬ shT (sgm y) = 9) (h2 : ¬ shT (sgm y) = 10) : od = 0 := Classical.byContradiction fun z => (hod z).elim h1 h2
theorem stj_A {n L e : Nat} {c : Nat → Nat} {BC B Bq : St} {sn lu ln se co cs ns : Nat} {od : Int32} {SW LW NM BK : Nat → Int32} {bs ws X : Nat → Nat} {nL cu : Nat} {PA BY OU : Nat → Int32} {q p1 y : Nat} (J : JH n L e c BC B sn lu ln se cs ns NM BK bs ws X nL cu PA BY q p1 y od) (h116 : y = 116) (tp st : Nat) (fx : Bool) (C A Sx : Nat → Int32) {q1 p' κ τ v : Nat} {x : Int32} (T : TS n L e c BC p1 q1 p' κ τ v x) {ct ap : Nat} {gr : Bool} {S : St} (h : SR B ct gr PA BY OU 0 ap S) : JF n e B (qC Bq sn lu 0 ln se od co SW LW) (uC (xC BC cs tp st ns fx C A Sx NM BK) p' κ q1 x) S ln q y ∨ JG n L e c BC B Bq (uC (xC BC cs tp st ns fx C A Sx NM BK) p' κ q1 x) S sn lu ln se co od SW LW cs ns C A NM bs ws X nL cu PA BY OU q p1 y := by
  obtain ⟨hV, hc, hH, hN, hI, h13, h14, hse, hsn, hcs, hns, hlu, hP, hB, hy, ho, hod, hNA, ⟨κ0, v0, x0, T0⟩, hkw⟩ := id J
  have hT0 := hV.1
  have hq0 : q < p1 := (T0.2.2.2.2.2.1 (fun z => absurd ((ts_0 T0).1.mp z) (by decide))).2
  have hL := hT0.2.1
  have heL := hT0.2.2.1
  have hp1e := (ts_le T0).2.2
  have hY : PY PA cu q := py_J (c := c) hP hse (by omega)
  subst h116
  obtain ⟨a1, a2, a3, a4⟩ := la_k
  have z0 : od = 0 := od_0 hod (by rw [a4]; decide) (by rw [a4]; decide)
  subst z0
  refine stj_I J tp st fx C A Sx T h 116 hy a3 (drs_1 n 116 hy _ a1) (fun f p2 rs m P hTr => ?_) (fun p2 rs m P Q' U' hTr _ _ => nm_4 hy (by decide) hkw hp1e hTr)
  obtain ⟨S1, r1, r2, r3⟩ := rdr_A hV hc h T0 hY hNA hTr
  refine ⟨S1, 0, 8, 0, 3, 8, gr, r1, r2, fun z => ⟨?_, ?_, Nat.le_refl _, by decide, fun w => absurd (a2.symm.trans w) (by decide), fun w => absurd (a2.symm.trans w) (by decide), fun w => absurd (a2.symm.trans w) (by decide), fun _ => ⟨rfl, rfl⟩, fun w => absurd (a2.symm.trans w) (by decide), fun w => absurd (a2.symm.trans w) (by decide), (by first | omega | (split <;> omega))⟩⟩
  · rw [Nat.add_zero, upd_s hP]; exact r3 z
  · subst z
    rw [a2, if_neg (show ¬ 3 = 0 by decide)]
    exact rfb_A hT0 T0 hNA hTr
/-- branches -/
theorem br_k : ∀ y : Fin 128, (shT (sgm y.1) = 7 ∨ shT (sgm y.1) = 35 ∨ shT (sgm y.1) = 36 ∨ shT (sgm y.1) = 37) → aKd y.1 = 2 ∧ ¬ y.1 = 104 ∧ ¬ shT (sgm y.1) = 9 ∧ ¬ shT (sgm y.1) = 10 := by decide +kernel
theorem br_r : ∀ r : Fin 32, ∀ f : Fin 2, ((nI (99 + 4096 * f.1) ||| nI r.1 <<< ((15 : Int32) &&& 31)) >>> ((15 : Int32) &&& 31)) &&& 31 = nI r.1 := by decide +kernel
theorem br_l {n L e : Nat} {c : Nat → Nat} {BC : St} {y : Nat} (hy : y < 128) (hs : shT (sgm y) = 7 ∨ shT (sgm y) = 35 ∨ shT (sgm y) = 36 ∨ shT (sgm y) = 37) {p p2 : Nat} {rs : List Nat} {m : Nat} {P : Nat → Tp} (hTr : Tr n L e c BC (FRM y) p 0 p2 rs m P) : aLn y (ko_b y ||| 0 ||| RGB (FRM y) rs) = nI (if teY y rs = true then 2 else 4) := by
  obtain ⟨b1, b2, b3, b4, b5⟩ := bt_1 ⟨y, hy⟩ hs
  have b2 : ko_s y &&& 8 = 0 := b2
  have b3 : ¬ ko_s y &&& 2 = 0 := b3
  have c3 := bt_3 ⟨y, hy⟩
  have c3 : (¬ ko_s y &&& 4 = 0 ↔ (shT (sgm y) = 35 ∧ ¬ 2 ≤ (ko_b y >>> ((12 : Int32) &&& 31)) &&& 7)) := c3
  unfold aLn
  rw [if_neg (fun z => z b2), if_pos b3, or_0]
  unfold teY teO brS
  by_cases z : ko_s y &&& 4 = 0
  · rw [if_neg (fun w => w.1 z)]
    have nz : ¬ (shT (sgm y) = 35 ∧ ¬ 2 ≤ (ko_b y >>> ((12 : Int32) &&& 31)) &&& 7) := fun w => c3.mpr w z
    have : (decide ((shT (sgm y)).toNatClampNeg = 35) && (!decide (2 ≤ (ko_b y >>> ((12 : Int32) &&& 31)) &&& 7) && decide (8 ≤ rs.headD 0 ∧ rs.headD 0 ≤ 15))) = false := by
      by_cases z35 : shT (sgm y) = 35
      · have : 2 ≤ (ko_b y >>> ((12 : Int32) &&& 31)) &&& 7 := Classical.byContradiction fun w => nz ⟨z35, w⟩
        rw [decide_eq_true this]; simp
      · have : ¬ (shT (sgm y)).toNatClampNeg = 35 := by
          rcases hs with w | w | w | w
          · rw [w]; decide
          · exact absurd w z35
          · rw [w]; decide
          · rw [w]; decide
        rw [decide_eq_false this]; rfl
    rw [this]; rfl
  · obtain ⟨z35, z2⟩ := c3.mp z
    have hF : FRM y = [97, 44, 84] := (bt_2 ⟨y, hy⟩).2.2.1 z35
    rw [hF] at hTr ⊢
    obtain ⟨q, p', κ, τ, v, x, T, hh⟩ := hTr
    rw [if_neg (by decide), if_pos (by decide)] at hh
    have hr : ∃ (r : Nat) (rs' : List Nat), r < 32 ∧ rs = r :: rs' := by
      rcases hh with hh | hh | hh
      · obtain ⟨h1, _, rs', h2, _⟩ := hh
        exact ⟨_, rs', h1, h2⟩
      · exact absurd hh.2 (by decide)
      · exact absurd hh.2 (by decide)
    obtain ⟨r, rs', hr, hrs⟩ := hr
    subst hrs
    have hb : ko_b y = nI 99 ∨ ko_b y = nI 4195 := bt_4 ⟨y, hy⟩ ⟨z35, z2⟩
    have e1 : RGB [97, 44, 84] (r :: rs') = nI r <<< ((15 : Int32) &&& 31) := by
      show rgb 97 r ||| 0 = _
      rw [or_0]; rfl
    have e2 : ((ko_b y ||| nI r <<< ((15 : Int32) &&& 31)) >>> ((15 : Int32) &&& 31)) &&& 31 = nI r := by
      rcases hb with hb | hb
      · rw [hb]; exact br_r ⟨r, hr⟩ ⟨0, by decide⟩
      · rw [hb]; exact br_r ⟨r, hr⟩ ⟨1, by decide⟩
    rw [e1, e2, z35, decide_eq_true (show (35 : Int32).toNatClampNeg = 35 by decide), decide_eq_false z2]
    by_cases w : 8 ≤ r ∧ r ≤ 15
    · rw [if_pos ⟨z, (show ¬ nI r < nI 8 from znl (by omega) (by omega)), (show ¬ nI 15 < nI r from znl (by omega) (by omega))⟩]
      rw [show (r :: rs').headD 0 = r from rfl, decide_eq_true w]; rfl
    · rw [if_neg (fun u => w ⟨Nat.not_lt.mp fun a => u.2.1 (show nI r < nI 8 from zlt a (by omega)), Nat.not_lt.mp fun a => u.2.2 (show nI 15 < nI r from zlt a (by omega))⟩)]
      rw [show (r :: rs').headD 0 = r from rfl, decide_eq_false w]; rfl
theorem stj_B {n L e : Nat} {c : Nat → Nat} {BC B Bq : St} {sn lu ln se co cs ns : Nat} {od : Int32} {SW LW NM BK : Nat → Int32} {bs ws X : Nat → Nat} {nL cu : Nat} {PA BY OU : Nat → Int32} {q p1 y : Nat} (J : JH n L e c BC B sn lu ln se cs ns NM BK bs ws X nL cu PA BY q p1 y od) (hs : shT (sgm y) = 7 ∨ shT (sgm y) = 35 ∨ shT (sgm y) = 36 ∨ shT (sgm y) = 37) (tp st : Nat) (fx : Bool) (C A Sx : Nat → Int32) {q1 p' κ τ v : Nat} {x : Int32} (T : TS n L e c BC p1 q1 p' κ τ v x) {ct ap : Nat} {gr : Bool} {S : St} (h : SR B ct gr PA BY OU 0 ap S) : JF n e B (qC Bq sn lu 0 ln se od co SW LW) (uC (xC BC cs tp st ns fx C A Sx NM BK) p' κ q1 x) S ln q y ∨ JG n L e c BC B Bq (uC (xC BC cs tp st ns fx C A Sx NM BK) p' κ q1 x) S sn lu ln se co od SW LW cs ns C A NM bs ws X nL cu PA BY OU q p1 y := by
  obtain ⟨hV, hc, hH, hN, hI, h13, h14, hse, hsn, hcs, hns, hlu, hP, hB, hy, ho, hod, hNA, ⟨κ0, v0, x0, T0⟩, hkw⟩ := id J
  have hT0 := hV.1
  have hq0 : q < p1 := (T0.2.2.2.2.2.1 (fun z => absurd ((ts_0 T0).1.mp z) (by decide))).2
  have hL := hT0.2.1
  have heL := hT0.2.2.1
  have hp1e := (ts_le T0).2.2
  have hY : PY PA cu q := py_J (c := c) hP hse (by omega)
  obtain ⟨a2, a8, n9, n10⟩ := br_k ⟨y, hy⟩ hs
  have a2 : aKd y = 2 := a2
  obtain ⟨b1, b2, b3, b4, b5⟩ := bt_1 ⟨y, hy⟩ hs
  have z0 : od = 0 := od_0 hod n9 n10
  subst z0
  refine stj_I J tp st fx C A Sx T h y hy b4 (drs_1 n y hy _ b5) (fun f p2 rs m P hTr => ?_) (fun p2 rs m P Q' U' hTr _ _ => nm_4 hy a8 hkw hp1e hTr)
  obtain ⟨S1, r1, r2, r3⟩ := rdr_B hV hc h T0 hP hse (by omega) hy hNA hs hTr
  refine ⟨S1, (if teY y rs = true then 16 else 25), (if teY y rs = true then 2 else 4), (if teY y rs = true then 0 else 1), 2, 8, false, r1, r2, fun z => ⟨r3 z, ?_, ?_, ?_, fun w => absurd (a2.symm.trans w) (by decide), fun w => absurd (a2.symm.trans w) (by decide), fun _ => ?_, fun w => absurd (a2.symm.trans w) (by decide), fun w => absurd (a2.symm.trans w) (by decide), fun _ => rfl, (by split <;> omega)⟩⟩
  · subst z
    rw [a2, if_neg (show ¬ 2 = 0 by decide), or_0]
    exact rfb_B hT0 T0 hy hNA hs hTr
  · by_cases w : teY y rs = true
    · rw [if_pos w, if_pos w]; decide
    · rw [if_neg w, if_neg w]; decide
  · by_cases w : teY y rs = true
    · rw [if_pos w]; decide
    · rw [if_neg w]; decide
  · subst z
    rw [br_l hy hs hTr]
    by_cases w : teY y rs = true
    · rw [if_pos w, if_pos w]; exact Or.inl ⟨rfl, rfl⟩
    · rw [if_neg w, if_neg w]; exact Or.inr ⟨rfl, rfl⟩
