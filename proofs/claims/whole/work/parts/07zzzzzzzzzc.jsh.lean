/-- one letter behind a name is no expression -/
theorem sum_s {n L e : Nat} {c : Nat → Nat} {BC BR0 : St} (hT0 : atx n L e c BC BR0) {p q p' κ τ v : Nat} {x : Int32} (T : TS n L e c BC p q p' κ τ v x) (he : e ≤ p + 1) (ha : p < e → aP (c p) = false) (cs tp st ns : Nat) (fx : Bool) (C A S NM BK : Nat → Int32) (hcs : cs < 32832) : ∃ U' : St, df_X9_sum n (uC (xC BC cs tp st ns fx C A S NM BK) p' κ q x) = some (-1, U') := by
  obtain ⟨hn, hL, heL, h127, hend, hce, hO, hst, htC, h0, htR, hch⟩ := id hT0
  obtain ⟨t1, t2, t3, t4, t5, t6, t7, t8, t9⟩ := id T
  have e0 : df_X9_sum n (uC (xC BC cs tp st ns fx C A S NM BK) p' κ q x) = df_X9_sum_26 n n (nI cs) (nI 32768) (uC (xC BC cs 0 0 ns true C A S NM BK) p' κ q x) := by
    unfold df_X9_sum df_X9_sum_0
    rw [xC_u5, nb_let, show pI (uC (xC BC cs tp st ns fx C A S NM BK) p' κ q x) 6 0 = _ from xC_w6 (v := 0), nb_let, show pI (uC (xC BC cs 0 st ns fx C A S NM BK) p' κ q x) 10 1 = _ from xC_w10 (v := true), nb_let, show pI (uC (xC BC cs 0 st ns true C A S NM BK) p' κ q x) 7 0 = _ from xC_w7 (v := 0), nb_let, uC_o, xC_o0, o8S hO]
    rfl
  rw [e0]
  obtain ⟨g, hg⟩ : ∃ g : Nat, n = g + 1 + 1 + 1 := ⟨n - 3, by omega⟩
  have st0 : sI (uC (xC BC cs 0 0 ns true C A S NM BK) p' κ q x) 7 = 0 := rfl
  have bad : ∀ (tp2 : Nat) (S2 : Nat → Int32) (ap2 kd2 fr2 : Nat) (nm2 : Int32), (kd2 = 0 ∨ kd2 = 4 ∨ kd2 = 6 ∨ (kd2 = 5 ∧ ∃ v : Nat, v < 300 ∧ nm2 = nI v ∧ ¬ v = 45 ∧ ¬ v = 126 ∧ ¬ v = 40 ∧ ¬ v = 37)) → ∀ (k : Nat), k < 2 ^ 20 → ∀ g : Nat, ∃ U' : St, df_X9_sum_26 n (g + 1 + 1) (nI cs) (nI (k + 1)) (uC (xC BC cs tp2 0 ns true C A S2 NM BK) ap2 kd2 fr2 nm2) = some (-1, U') := fun tp2 S2 ap2 kd2 fr2 nm2 hk k hk2 g => by
    have hx := xd_X (n := n) (B := BC) (cs := cs) (tp := tp2) (st := 0) (ns := ns) (fx := true) (C := C) (A := A) (S := S2) (NM := NM) (BK := BK) (ap := ap2) (kd := kd2) (fr := fr2) (nm := nm2) (by
      rcases hk with w | w | w | ⟨w, u, u1, u2, u3, u4, u5, u6⟩
      · exact Or.inl w
      · exact Or.inr (Or.inl w)
      · exact Or.inr (Or.inr (Or.inl w))
      · exact Or.inr (Or.inr (Or.inr ⟨w, u, u1, u2, u3, u4, u5⟩)))
    rw [if_neg (show ¬ (kd2 = 5 ∧ nm2 = 37) from fun w => by
      rcases hk with z | z | z | ⟨z, u, u1, u2, u3, u4, u5, u6⟩
      · omega
      · omega
      · omega
      · have := w.2
        rw [u2] at this
        exact u6 ((nI_eq (a := u) (b := 37) (by omega) (by omega)).mp this))] at hx
    refine ⟨uC (xC BC (cs + 1) tp2 6 ns true (upd C cs 21) (upd A cs 0) S2 NM BK) ap2 kd2 fr2 nm2, (su_e k hk2 (s := uC (xC BC cs tp2 0 ns true C A S2 NM BK) ap2 kd2 fr2 nm2) (show ¬ (0 : Int32) = 5 by decide) (show ¬ (0 : Int32) = 6 by decide) ((if_pos rfl).trans hx) (Or.inr rfl)).trans ?_⟩
    rw [su_z (nI cs) hcs (Or.inr rfl), if_neg (show ¬ 6 = 5 by decide)]
  have k6 : κ ≤ 6 := by unfold tkK at t7; omega
  by_cases k5 : κ = 5
  · subst k5
    have hp' : p' = e := by
      have := t6 (by decide)
      omega
    have hx5 := t8 (Or.inr (Or.inr rfl))
    obtain ⟨v3, _⟩ := tk_5 t7
    by_cases a : v = 45 ∨ v = 126 ∨ v = 40
    · have hx := xd_S (n := n) (B := BC) (cs := cs) (tp := 0) (st := 0) (ns := ns) (fx := true) (C := C) (A := A) (S := S) (NM := NM) (BK := BK) (ap := p') (fr := q) (nm := x) (by decide) v a hx5
      obtain ⟨q2, p2, κ2, τ2, v2, x2, n1, n2⟩ := nx_1 hT0 (cs := cs) (tp := 0 + 1) (st := 0) (ns := ns) (fx := true) (C := C) (A := A) (S := upd S 0 (if v = 45 then 11 else if v = 126 then 12 else 15)) (NM := NM) (BK := BK) p' 5 q (nI v) t5 (fun i i1 i2 => t2 i (by omega) i2)
      have z2 : κ2 = 0 := Classical.byContradiction fun w => by
        have := n2.2.2.2.2.2.1 w
        have := n2.2.2.1
        omega
      obtain ⟨U', hU⟩ := bad (0 + 1) (upd S 0 (if v = 45 then 11 else if v = 126 then 12 else 15)) p2 κ2 q2 x2 (Or.inl z2) 32766 (by decide) g
      refine ⟨U', Eq.trans ?_ hU⟩
      rw [show df_X9_sum_26 n n (nI cs) (nI 32768) (uC (xC BC cs 0 0 ns true C A S NM BK) p' 5 q x) = df_X9_sum_26 n (g + 1 + 1 + 1) (nI cs) (nI 32768) (uC (xC BC cs 0 0 ns true C A S NM BK) p' 5 q x) from congrArg (fun z => df_X9_sum_26 n z (nI cs) (nI 32768) (uC (xC BC cs 0 0 ns true C A S NM BK) p' 5 q x)) hg]
      exact su_n (g := g + 1 + 1) 32767 (by decide) (show ¬ (0 : Int32) = 5 by decide) (show ¬ (0 : Int32) = 6 by decide) ((if_pos rfl).trans hx) (show ¬ (0 : Int32) = 5 by decide) (show ¬ (0 : Int32) = 6 by decide) n1
    · by_cases b : v = 37
      · have hx := xd_X (n := n) (B := BC) (cs := cs) (tp := 0) (st := 0) (ns := ns) (fx := true) (C := C) (A := A) (S := S) (NM := NM) (BK := BK) (ap := p') (kd := 5) (fr := q) (nm := x) (Or.inr (Or.inr (Or.inr ⟨rfl, v, v3, hx5, fun w => a (Or.inl w), fun w => a (Or.inr (Or.inl w)), fun w => a (Or.inr (Or.inr w))⟩)))
        rw [if_pos (show 5 = 5 ∧ x = 37 from ⟨rfl, by rw [hx5, b]; rfl⟩)] at hx
        obtain ⟨q2, p2, κ2, τ2, v2, x2, n1, n2⟩ := nx_1 hT0 (cs := cs) (tp := 0) (st := 2) (ns := ns) (fx := true) (C := C) (A := A) (S := S) (NM := NM) (BK := BK) p' 5 q x t5 (fun i i1 i2 => t2 i (by omega) i2)
        have z2 : κ2 = 0 := Classical.byContradiction fun w => by
          have := n2.2.2.2.2.2.1 w
          have := n2.2.2.1
          omega
        subst z2
        have hq2 := n2.2.2.2.1
        have hy := xh_1 (n := n) (L := L) (e := e) (c := c) (B := BC) (BR := BR0) (cs := cs) (tp := 0) (ns := ns) (fx := true) (C := C) (A := A) (S := S) (NM := NM) (BK := BK) (fr := q2) (l := p2 - q2) (kd := 0) (nm := x2) hT0 (by decide) (by have := n2.2.2.2.2.1; omega)
        rw [show q2 + (p2 - q2) = p2 by omega, if_neg (show ¬ (0 = 1 ∧ _) from fun w => absurd w.1 (by decide)), if_neg (show ¬ (0 = 1 ∧ _) from fun w => absurd w.1 (by decide))] at hy
        have f2 := su_e (n := n) (g := g) (x1 := nI cs) 32766 (by decide) (s := uC (xC BC cs 0 2 ns true C A S NM BK) p2 0 q2 x2) (show ¬ (2 : Int32) = 5 by decide) (show ¬ (2 : Int32) = 6 by decide) (((if_neg (show ¬ (2 : Int32) = 0 by decide)).trans (if_neg (show ¬ (2 : Int32) = 1 by decide))).trans hy) (Or.inr rfl)
        rw [su_z (nI cs) hcs (Or.inr rfl), if_neg (show ¬ 6 = 5 by decide)] at f2
        refine ⟨_, Eq.trans ?_ f2⟩
        rw [show df_X9_sum_26 n n (nI cs) (nI 32768) (uC (xC BC cs 0 0 ns true C A S NM BK) p' 5 q x) = df_X9_sum_26 n (g + 1 + 1 + 1) (nI cs) (nI 32768) (uC (xC BC cs 0 0 ns true C A S NM BK) p' 5 q x) from congrArg (fun z => df_X9_sum_26 n z (nI cs) (nI 32768) (uC (xC BC cs 0 0 ns true C A S NM BK) p' 5 q x)) hg]
        exact su_n (g := g + 1 + 1) 32767 (by decide) (show ¬ (0 : Int32) = 5 by decide) (show ¬ (0 : Int32) = 6 by decide) ((if_pos rfl).trans hx) (show ¬ (2 : Int32) = 5 by decide) (show ¬ (2 : Int32) = 6 by decide) n1
      · obtain ⟨U', hU⟩ := bad 0 S p' 5 q x (Or.inr (Or.inr (Or.inr ⟨rfl, v, v3, hx5, fun w => a (Or.inl w), fun w => a (Or.inr (Or.inl w)), fun w => a (Or.inr (Or.inr w)), b⟩))) 32767 (by decide) (g + 1)
        refine ⟨U', Eq.trans ?_ hU⟩
        exact congrArg (fun z => df_X9_sum_26 n z (nI cs) (nI 32768) (uC (xC BC cs 0 0 ns true C A S NM BK) p' 5 q x)) hg
  · have hk : κ = 0 ∨ κ = 4 ∨ κ = 6 := by
      have nk : ∀ w : aP (c q) = true, q < e → False := fun w w2 => by
        have : q = p := by omega
        subst this
        rw [ha w2] at w
        exact absurd w (by decide)
      rcases t7 with z | z | z | z | z | z | z
      · exact Or.inl z.1
      · exact (nk z.2.2.2.1 z.2.2.1).elim
      · have hq := t6 (by omega)
        exact (nk (aD_P (z.2.2.2.2 (by omega)).1) hq.1).elim
      · have hq := t6 (by omega)
        exact (nk (aD_P z.2.2.2.1) hq.1).elim
      · exact Or.inr (Or.inl z.1)
      · exact absurd z.1 k5
      · exact Or.inr (Or.inr z.1)
    obtain ⟨U', hU⟩ := bad 0 S p' κ q x (by omega) 32767 (by decide) (g + 1)
    refine ⟨U', Eq.trans ?_ hU⟩
    exact congrArg (fun z => df_X9_sum_26 n z (nI cs) (nI 32768) (uC (xC BC cs 0 0 ns true C A S NM BK) p' κ q x)) hg
theorem hp_k : (∀ y : Fin 128, shT (sgm y.1) = 34 → (y.1 = 103 ∨ y.1 = 104 ∨ y.1 = 105)) ∧ (∀ y : Fin 128, (y.1 = 103 ∨ y.1 = 104 ∨ y.1 = 105) → shT (sgm y.1) = 34 ∧ aKd y.1 = 1 ∧ tb_0 y.1 = 0 ∧ ko_s y.1 &&& 32 = 0 ∧ FRM y.1 = [74] ∧ (ko_b y.1 >>> ((7 : Int32) &&& 31)) &&& 31 = ptT (sgm y.1)) ∧ shT (sgm 44) = 8 ∧ (ko_b 103 >>> ((7 : Int32) &&& 31)) &&& 31 = 1 ∧ ks_n (ko_w 103) = 4 ∧ ks_n (ko_w 105) = 4 ∧ ks_n (ko_w 44) = 3 ∧ ks_n (ko_w 32) = 4 := by decide +kernel
theorem Tr_74 {n L e : Nat} {c : Nat → Nat} {BC : St} {p f p2 : Nat} {rs : List Nat} {m : Nat} {P : Nat → Tp} (h : Tr n L e c BC [74] p f p2 rs m P) : (f = 0 ∧ RX n L e c BC p true p2 m P ∧ p2 ≤ e) ∨ (f = 1 ∧ ∃ px : Nat, RX n L e c BC p false px m P) := by
  obtain ⟨q, p', κ, τ, v, x, T, h⟩ := h
  rw [if_neg (by decide), if_neg (by decide)] at h
  obtain ⟨ok, px, R, h⟩ := h
  rcases h with h | h
  · obtain ⟨h1, h2, h3, h4, h5, h6⟩ := h
    subst h1
    rw [h5]
    exact Or.inl ⟨h4, R, h3⟩
  · obtain ⟨h1, h2⟩ := h
    subst h1
    exact Or.inr ⟨h2, px, R⟩
theorem RGB_74 (rs : List Nat) : RGB [74] rs = 0 := rfl
/-- j, call, tail; jal without a register -/
theorem stj_H {n L e : Nat} {c : Nat → Nat} {BC B Bq : St} {sn lu ln se co cs ns : Nat} {od : Int32} {SW LW NM BK : Nat → Int32} {bs ws X : Nat → Nat} {nL cu : Nat} {PA BY OU : Nat → Int32} {q p1 y : Nat} (J : JH n L e c BC B sn lu ln se cs ns NM BK bs ws X nL cu PA BY q p1 y od) (y' : Nat) (hy' : y' = 103 ∨ y' = 104 ∨ y' = 105) (tp st : Nat) (fx : Bool) (C A Sx : Nat → Int32) {q1 p' κ τ v : Nat} {x : Int32} (T : TS n L e c BC p1 q1 p' κ τ v x) {ct ap : Nat} {gr : Bool} {S : St} (h : SR B ct gr PA BY OU 0 ap S) (hk : (shT (sgm y) = 34 ∧ y' = y) ∨ (y = 44 ∧ y' = 103 ∧ ¬ tkG c τ q1 p' < 32)) : JF n e B (qC Bq sn lu 0 ln se od co SW LW) (uC (xC BC cs tp st ns fx C A Sx NM BK) p' κ q1 x) S ln q y ∨ JG n L e c BC B Bq (uC (xC BC cs tp st ns fx C A Sx NM BK) p' κ q1 x) S sn lu ln se co od SW LW cs ns C A NM bs ws X nL cu PA BY OU q p1 y := by
  obtain ⟨hV, hc, hH, hN, hI, h13, h14, hse, hsn, hcs, hns, hlu, hP, hB, hy, ho, hod, hNA, ⟨κ0, v0, x0, T0⟩, hkw⟩ := id J
  have hT0 := hV.1
  have hq0 : q < p1 := (T0.2.2.2.2.2.1 (fun z => absurd ((ts_0 T0).1.mp z) (by decide))).2
  have hL := hT0.2.1
  have heL := hT0.2.2.1
  have hp1e := (ts_le T0).2.2
  have hY : PY PA cu q := py_J (c := c) hP hse (by omega)
  obtain ⟨g1, g2, g3, g4, g5, g6, g7, g8⟩ := hp_k
  have hy8 : y' < 128 := by omega
  obtain ⟨a1, a2, a3, a4, a5, a6⟩ := g2 ⟨y', hy8⟩ hy'
  have a1 : shT (sgm y') = 34 := a1
  have a2 : aKd y' = 1 := a2
  have a3 : tb_0 y' = 0 := a3
  have a4 : ko_s y' &&& 32 = 0 := a4
  have a5 : FRM y' = [74] := a5
  have a6 : (ko_b y' >>> ((7 : Int32) &&& 31)) &&& 31 = ptT (sgm y') := a6
  have z0 : od = 0 := by
    rcases hk with hk | hk
    · exact od_0 hod (by rw [hk.1]; decide) (by rw [hk.1]; decide)
    · exact od_0 hod (by rw [hk.1, g3]; decide) (by rw [hk.1, g3]; decide)
  subst z0
  have hk2 : shT (sgm y) = 34 ∨ (shT (sgm y) = 8 ∧ ¬ tkG c τ q1 p' < 32) := by
    rcases hk with hk | hk
    · exact Or.inl hk.1
    · exact Or.inr ⟨by rw [hk.1]; exact g3, hk.2.2⟩
  have hd : (ko_b y' >>> ((7 : Int32) &&& 31)) &&& 31 = if shT (sgm y) = 34 then ptT (sgm y) ||| 0 else 1 := by
    rcases hk with hk | hk
    · rw [if_pos hk.1, or_0, ← hk.2]; exact a6
    · rw [if_neg (show ¬ shT (sgm y) = 34 by rw [hk.1, g3]; decide), hk.2.1]; exact g4
  have hC0 : df_X1_readStatement n y ((qC Bq sn lu 0 ln se 0 co SW LW), (uC (xC BC cs tp st ns fx C A Sx NM BK) p' κ q1 x)) = nd_b1 (df_X1_readInstruction n y' ((qC Bq sn lu 0 ln se 0 co SW LW), (uC (xC BC cs tp st ns fx C A Sx NM BK) p' κ q1 x))) (fun (t : St × St) => df_X1_readStatement_206 n t) := by
    rcases hk with hk | hk
    · rw [hk.2] at a3
      rw [hk.2]
      exact drs_1 n y hy _ a3
    · rw [hk.1, hk.2.1, drs_11, isr_C hT0 _ T, nb_b2, decide_eq_false hk.2.2, if_pos (show bI false = 0 from rfl)]
  refine stj_I J tp st fx C A Sx T h y' hy8 a4 hC0 (fun f p2 rs m P hTr => ?_) (fun p2 rs m P Q' U' hTr hri hf0 => ?_)
  · rw [a5] at hTr
    rcases Tr_74 hTr with ⟨w1, w2, w3⟩ | ⟨w1, px, w2⟩
    · obtain ⟨S1, r1, r2, r3⟩ := rdr_H hV hc h T0 hP hse (by omega) hy hNA T hk2 w2
      refine ⟨S1, 8, 2, 0, 1, 4, false, r1, fun z => absurd w1 z, fun _ => ⟨r3 rfl, ?_, by decide, by decide, fun w => absurd (a2.symm.trans w) (by decide), fun _ => ⟨rfl, rfl⟩, fun w => absurd (a2.symm.trans w) (by decide), fun w => absurd (a2.symm.trans w) (by decide), fun _ => rfl, fun w => absurd (a2.symm.trans w) (by decide), (by omega)⟩⟩
      rw [a2, if_neg (show ¬ 1 = 0 by decide), a5, RGB_74, or_0, or_0]
      exact rfb_H hT0 T0 hy hNA T hk2 w2 w3 (ko_b y') hd
    · obtain ⟨S1, r1, r2, r3⟩ := rdr_H hV hc h T0 hP hse (by omega) hy hNA T hk2 w2
      refine ⟨S1, 8, 2, 0, 1, 4, false, r1, fun _ => by rw [w1]; exact r2 rfl, fun z => absurd (w1.symm.trans z) (by decide)⟩
  · by_cases h104 : y = 104
    · refine Classical.byContradiction fun w => ?_
      have hy4 : y' = 104 := by
        rcases hk with hk | hk
        · rw [hk.2]; exact h104
        · omega
      subst hy4
      have hq1 : p1 = q + 1 ∨ q + 2 ≤ p1 := by omega
      have he : e ≤ p1 + 1 := by omega
      have haP : p1 < e → aP (c p1) = false := fun hpe => by
        obtain ⟨t1, t2, t3, t4, t5, t6⟩ := ts_w T0 rfl
        have := (eT_1 c (q := q) (by omega : q ≤ e)).2.2.1
        rw [← t2] at this
        exact this hpe
      obtain ⟨U9, h9⟩ := sum_s hT0 T he haP cs tp st ns fx C A Sx NM BK (by omega)
      · have hri2 : df_X1_readInstruction n 104 ((qC Bq sn lu 0 ln se 0 co SW LW), (uC (xC BC cs tp st ns fx C A Sx NM BK) p' κ q1 x)) = some (qC Bq sn lu (nI 1) ln se 0 co SW LW, U9) := by
          have kf : ks_n (ko_f 104) = 1 ∧ kl (ko_f 104) 0 = 74 ∧ ko_s 104 &&& 32 = 0 := by decide +kernel
          obtain ⟨g, hg⟩ : ∃ g : Nat, n = g + 1 + 1 := ⟨n - 2, by have := hT0.1; omega⟩
          have e1 : df_X1_readInstruction n 104 ((qC Bq sn lu 0 ln se 0 co SW LW), (uC (xC BC cs tp st ns fx C A Sx NM BK) p' κ q1 x)) = df_X1_readInstruction_18 n n 104 (ko_b 104 ||| 0) (-1) 0 (nI 0) ((qC Bq sn lu 0 ln se 0 co SW LW), (uC (xC BC cs tp st ns fx C A Sx NM BK) p' κ q1 x)) := by
            unfold df_X1_readInstruction df_X1_readInstruction_0
            rw [lt_y (show 104 < 128 by decide)]
            rfl
          rw [e1]
          have e2 : df_X1_readInstruction_18 n n 104 (ko_b 104 ||| 0) (-1) 0 (nI 0) ((qC Bq sn lu 0 ln se 0 co SW LW), (uC (xC BC cs tp st ns fx C A Sx NM BK) p' κ q1 x)) = df_X1_readInstruction_18 n (g + 1 + 1) 104 (ko_b 104 ||| 0) (-1) 0 (nI 0) ((qC Bq sn lu 0 ln se 0 co SW LW), (uC (xC BC cs tp st ns fx C A Sx NM BK) p' κ q1 x)) := congrArg (fun z => df_X1_readInstruction_18 n z 104 (ko_b 104 ||| 0) (-1) 0 (nI 0) ((qC Bq sn lu 0 ln se 0 co SW LW), (uC (xC BC cs tp st ns fx C A Sx NM BK) p' κ q1 x))) hg
          rw [e2, rin_1 n (g + 1) 104 (by decide) _ _ _ 0 74 (by rw [kf.1]; decide) kf.2.1 (by decide) _ _ rfl, if_pos (by decide), if_pos (by decide), h9, nb_b2, if_neg (show ¬ (0 : Int32) ≤ -1 by decide), blm_C, nb_b1, rin_0 n g 104 (by decide) _ _ _ 1 (by decide) (qC Bq sn lu 1 ln se 0 co SW LW) U9 (Or.inr (show ¬ (1 : Int32) = 0 by decide))]
          unfold df_X1_readInstruction_110
          rw [lt_y (show 104 < 128 by decide), if_pos kf.2.2, if_neg (show ¬ sI (qC Bq sn lu 1 ln se 0 co SW LW, U9).1 2 = 0 from (by decide : ¬ (1 : Int32) = 0))]
          rfl
        rw [hri2] at hri
        have := congrArg (fun o : Option (St × St) => o.map (fun s => sI s.1 2)) hri
        have this : some (nI 1) = some (sI Q' 2) := this
        rw [hf0] at this
        exact absurd (Option.some.inj this) (by decide)
    · refine nm_5 hkw hp1e ?_
      rcases hk with hk | hk
      · have : y = 103 ∨ y = 105 := by omega
        rcases this with w | w
        · rw [w, g5]; decide
        · rw [w, g6]; decide
      · rw [hk.1, g7]; decide
/-- jal with a register -/
theorem jl_k : aKd 44 = 0 ∧ ko_s 44 &&& 32 = 0 ∧ ko_s 44 &&& 8 = 0 ∧ ko_s 44 &&& 2 = 0 ∧ ko_s 44 &&& 16 = 0 ∧ eL (FRM 44) = 74 := by decide +kernel
theorem stj_L {n L e : Nat} {c : Nat → Nat} {BC B Bq : St} {sn lu ln se co cs ns : Nat} {od : Int32} {SW LW NM BK : Nat → Int32} {bs ws X : Nat → Nat} {nL cu : Nat} {PA BY OU : Nat → Int32} {q p1 y : Nat} (J : JH n L e c BC B sn lu ln se cs ns NM BK bs ws X nL cu PA BY q p1 y od) (h44 : y = 44) (tp st : Nat) (fx : Bool) (C A Sx : Nat → Int32) {q1 p' κ τ v : Nat} {x : Int32} (T : TS n L e c BC p1 q1 p' κ τ v x) {ct ap : Nat} {gr : Bool} {S : St} (h : SR B ct gr PA BY OU 0 ap S) (hg : tkG c τ q1 p' < 32) : JF n e B (qC Bq sn lu 0 ln se od co SW LW) (uC (xC BC cs tp st ns fx C A Sx NM BK) p' κ q1 x) S ln q y ∨ JG n L e c BC B Bq (uC (xC BC cs tp st ns fx C A Sx NM BK) p' κ q1 x) S sn lu ln se co od SW LW cs ns C A NM bs ws X nL cu PA BY OU q p1 y := by
  obtain ⟨hV, hc, hH, hN, hI, h13, h14, hse, hsn, hcs, hns, hlu, hP, hB, hy, ho, hod, hNA, ⟨κ0, v0, x0, T0⟩, hkw⟩ := id J
  have hT0 := hV.1
  have hq0 : q < p1 := (T0.2.2.2.2.2.1 (fun z => absurd ((ts_0 T0).1.mp z) (by decide))).2
  have hL := hT0.2.1
  have heL := hT0.2.2.1
  have hp1e := (ts_le T0).2.2
  have hY : PY PA cu q := py_J (c := c) hP hse (by omega)
  subst h44
  obtain ⟨a2, a3, a5, a6, a7, a8⟩ := jl_k
  have hC0 : df_X1_readStatement n 44 ((qC Bq sn lu 0 ln se od co SW LW), (uC (xC BC cs tp st ns fx C A Sx NM BK) p' κ q1 x)) = nd_b1 (df_X1_readInstruction n 44 ((qC Bq sn lu 0 ln se od co SW LW), (uC (xC BC cs tp st ns fx C A Sx NM BK) p' κ q1 x))) (fun (t : St × St) => df_X1_readStatement_206 n t) := by
    rw [drs_11, isr_C hT0 _ T, nb_b2, decide_eq_true hg, if_neg (show ¬ bI true = 0 by decide)]
  refine stj_I J tp st fx C A Sx T h 44 hy a3 hC0 (fun f p2 rs m P hTr => ?_) (fun p2 rs m P Q' U' hTr _ _ => nm_5 hkw hp1e (by rw [hp_k.2.2.2.2.2.2.1]; decide))
  obtain ⟨S1, r1, r2, r3⟩ := rdr_P hV hc h T0 hY hNA (PLR_J (n := n) (L := L) (e := e) (c := c) (BC := BC) ho T hg hTr)
  refine ⟨S1, 0, (if (ko_b 44 ||| od ||| RGB (FRM 44) rs) &&& 3 = 3 then 4 else 2), 0, 3, 4, gr, r1, r2, fun z => ⟨?_, ?_, Nat.le_refl _, by decide, fun _ => ⟨rfl, ?_⟩, fun w => absurd (a2.symm.trans w) (by decide), fun w => absurd (a2.symm.trans w) (by decide), fun w => absurd (a2.symm.trans w) (by decide), fun w => absurd (a2.symm.trans w) (by decide), fun w => absurd (a2.symm.trans w) (by decide), (by split <;> omega)⟩⟩
  · rw [Nat.add_zero, upd_s hP]; exact r3 z
  · subst z
    rw [a2, if_pos rfl, a8]
    exact rfb_P hT0 T0 hNA (PLR_J ho T hg hTr) (Tr_le hp1e hTr)
  · rw [aLn_0 a5 a6 a7]
    by_cases h3 : (ko_b 44 ||| od ||| RGB (FRM 44) rs) &&& 3 = 3
    · rw [if_pos h3, if_pos h3]
    · rw [if_neg h3, if_neg h3]
