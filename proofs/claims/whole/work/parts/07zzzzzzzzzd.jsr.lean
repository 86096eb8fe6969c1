/-- with a fault: what readJump, fixed and addNumber leave -/
theorem j47_F {n : Nat} {B : St} {sn lu ln se co : Nat} {od : Int32} {SW LW : Nat → Int32} {ft : Int32} (s2 : St) (h : ¬ ft = 0) (x1 : Int32) : df_X1_readJump_47 n x1 (qC B sn lu ft ln se od co SW LW, s2) = some (qC B sn lu ft ln se od co SW LW, s2) := by
  unfold df_X1_readJump_47
  rw [xpt_F s2 h, nb_b1, if_neg (show ¬ sI (qC B sn lu ft ln se od co SW LW, s2).1 2 = 0 from h)]
  exact j71_F s2 h x1 0
theorem fix_Z {n : Nat} {B : St} {sn lu ln se co : Nat} {od : Int32} {SW LW : Nat → Int32} {ft : Int32} (s2 : St) (h : ¬ ft = 0) (u lo hi : Int32) : df_X1_fixed n u lo hi (qC B sn lu ft ln se od co SW LW, s2) = some (0, (qC B sn lu ft ln se od co SW LW, s2)) := by
  unfold df_X1_fixed df_X1_fixed_0
  rw [if_neg (show ¬ sI (qC B sn lu ft ln se od co SW LW, s2).1 2 = 0 from h)]
theorem lo_9 (n : Nat) (v : Int32) : df_X9_low n v () = some (loO v, ()) := rfl
theorem anb_1 (n : Nat) (d v : Int32) (s : St × St) : df_X1_addNumber n d v s = df_X1_add n 4 (nI (numB d v).length) d v s := by
  have hA : ∀ k : Int32, df_X1_addNumber_39 n d v k s = df_X1_add n 4 k d v s := fun k => by
    unfold df_X1_addNumber_39
    cases df_X1_add n 4 k d v s <;> rfl
  unfold df_X1_addNumber df_X1_addNumber_0 df_X1_addNumber_21 df_X1_addNumber_37
  rw [fit_N n v, nb_b2, fit_I n v, nb_b2, lo_9 n v, nb_b2]
  unfold numB
  cases h1 : fzO (-32) 31 1 v with
  | true =>
    rw [if_neg (show ¬ bI true = 0 by decide)]
    by_cases hd : d = 0
    · rw [if_pos hd, if_neg (show ¬ (true = true ∧ ¬ d = 0) from fun w => w.2 hd)]
      cases h2 : fzO (-2048) 2047 1 v with
      | true => rw [if_neg (show ¬ bI true = 0 by decide), if_pos rfl, hA]; rfl
      | false =>
        rw [if_pos (show bI false = 0 from rfl), if_neg (show ¬ false = true by decide)]
        by_cases h3 : loO v = 0
        · rw [if_pos h3, if_pos h3, hA]; rfl
        · rw [if_neg h3, if_neg h3, hA]; rfl
    · rw [if_neg hd, if_pos (show true = true ∧ ¬ d = 0 from ⟨rfl, hd⟩), hA]; rfl
  | false =>
    rw [if_pos (show bI false = 0 from rfl), if_neg (show ¬ (false = true ∧ ¬ d = 0) from fun w => absurd w.1 (by decide))]
    cases h2 : fzO (-2048) 2047 1 v with
    | true => rw [if_neg (show ¬ bI true = 0 by decide), if_pos rfl, hA]; rfl
    | false =>
      rw [if_pos (show bI false = 0 from rfl), if_neg (show ¬ false = true by decide)]
      by_cases h3 : loO v = 0
      · rw [if_pos h3, if_pos h3, hA]; rfl
      · rw [if_neg h3, if_neg h3, hA]; rfl
theorem jr_b : ∀ r : Fin 32, (ko_b 32 ||| (nI r.1 <<< ((7 : Int32) &&& 31)) <<< ((8 : Int32) &&& 31)) ||| 128 = (ko_b 32 ||| 128) ||| nI r.1 <<< ((15 : Int32) &&& 31) ∧ ((ko_b 32 ||| 128) ||| nI r.1 <<< ((15 : Int32) &&& 31)) &&& 3 = 3 := by decide +kernel
theorem rl_100 : rlO 100 = true := by decide
/-- jalr -/
theorem stj_R {n L e : Nat} {c : Nat → Nat} {BC B Bq : St} {sn lu ln se co cs ns : Nat} {od : Int32} {SW LW NM BK : Nat → Int32} {bs ws X : Nat → Nat} {nL cu : Nat} {PA BY OU : Nat → Int32} {q p1 y : Nat} (J : JH n L e c BC B sn lu ln se cs ns NM BK bs ws X nL cu PA BY q p1 y od) (h32 : y = 32) (tp st : Nat) (fx : Bool) (C A Sx : Nat → Int32) {q1 p' κ τ v : Nat} {x : Int32} (T : TS n L e c BC p1 q1 p' κ τ v x) {ct ap : Nat} {gr : Bool} {S : St} (h : SR B ct gr PA BY OU 0 ap S) : JF n e B (qC Bq sn lu 0 ln se od co SW LW) (uC (xC BC cs tp st ns fx C A Sx NM BK) p' κ q1 x) S ln q y ∨ JG n L e c BC B Bq (uC (xC BC cs tp st ns fx C A Sx NM BK) p' κ q1 x) S sn lu ln se co od SW LW cs ns C A NM bs ws X nL cu PA BY OU q p1 y := by
  obtain ⟨hV, hc, hH, hN, hI, h13, h14, hse, hsn, hcs, hns, hlu, hP, hB, hy, ho, hod, hNA, ⟨κ0, v0, x0, T0⟩, hkw⟩ := id J
  have hT0 := hV.1
  have hq0 : q < p1 := (T0.2.2.2.2.2.1 (fun z => absurd ((ts_0 T0).1.mp z) (by decide))).2
  have hL := hT0.2.1
  have heL := hT0.2.2.1
  have hp1e := (ts_le T0).2.2
  have hY : PY PA cu q := py_J (c := c) hP hse (by omega)
  subst h32
  have hn := hT0.1
  have z0 : od = 0 := od_0 hod (by rw [frm44.2.2.2.2.1]; decide) (by rw [frm44.2.2.2.2.1]; decide)
  subst z0
  have hq3 : q + 3 ≤ e := nm_5 hkw hp1e (by rw [hp_k.2.2.2.2.2.2.2]; decide)
  obtain ⟨x1, x3, x2⟩ := rrg_C hT0 (cs := cs) (tp := tp) (st := st) (ns := ns) (fx := fx) (C := C) (A := A) (S := Sx) (NM := NM) (BK := BK) (qC Bq sn lu 0 ln se 0 co SW LW) rfl 100 (rfit 100) (rgb 100) (fun r hr => rf_C n rl_100 hr) (fun r _ => rgb_C n rl_100 r) p1 q1 p' κ τ v x T
  have hbad : ∀ f : Nat, (f = 1 ∨ f = 3) → ((tkG c τ q1 p' = 33 ∧ f = 1) ∨ (tkG c τ q1 p' = 32 ∧ f = 3)) → df_X1_readRegister n 100 (qC Bq sn lu 0 ln se 0 co SW LW, (uC (xC BC cs tp st ns fx C A Sx NM BK) p' κ q1 x)) = some (0, (pI (qC Bq sn lu 0 ln se 0 co SW LW) 2 (nI f), (uC (xC BC cs tp st ns fx C A Sx NM BK) p' κ q1 x))) → JF n e B (qC Bq sn lu 0 ln se 0 co SW LW) (uC (xC BC cs tp st ns fx C A Sx NM BK) p' κ q1 x) S ln q 32 := fun f hf hg hr => by
    obtain ⟨S1, r1, r2, r3⟩ := rdr_P hV hc h T0 hY hNA (PLR_RF (n := n) (L := L) (e := e) (c := c) (BC := BC) T hg (p2 := 0) (m := 0) (P := fun _ => (0, 0, 0)) (l := 0) (b := 0))
    have fz : ¬ f = 0 := by omega
    have r2 := r2 fz
    rw [← p14_s (B := B) (v := 0)] at r2
    have f15 : 1 ≤ f ∧ f ≤ 15 := by omega
    have hfl : ¬ nI f + 16 * sI (pI (pI B 15 0) 14 (sI B 14)) 13 = 0 := flt_n (B := pI (pI B 15 0) 14 (sI B 14)) hV.2.2.2.2.2.2.2 f f15
    have nz : ¬ nI f = 0 := fun w => absurd ((nI_eq (a := f) (b := 0) (by omega) (by omega)).mp w) (by omega)
    refine ⟨f, qC Bq sn lu (nI f) ln se 0 co SW LW, (uC (xC BC cs tp st ns fx C A Sx NM BK) p' κ q1 x), S1, f15.1, f15.2, ?_, rfl, rfl, ?_, ⟨_, r2, rfl, rfl, rfl, rfl⟩⟩
    · rw [drs_12]
      unfold df_X1_readJump df_X1_readJump_0
      rw [hr, nb_b2, qC_w2, if_neg (show ¬ sI (qC Bq sn lu (nI f) ln se 0 co SW LW, (uC (xC BC cs tp st ns fx C A Sx NM BK) p' κ q1 x)).1 2 = 0 from nz), j47_F _ nz, nb_b1, end_CF nz]
    · rw [r1, end_F r2 hfl]
  have hl := tkG_l (c := c) (τ := τ) (q := q1) (p := p')
  by_cases g33 : tkG c τ q1 p' = 33
  · exact Or.inl (hbad 1 (Or.inl rfl) (Or.inl ⟨g33, rfl⟩) (x1 g33))
  by_cases g32 : tkG c τ q1 p' = 32
  · exact Or.inl (hbad 3 (Or.inr rfl) (Or.inr ⟨g32, rfl⟩) (x3 (Or.inl g32)))
  have g : tkG c τ q1 p' < 32 := by omega
  obtain ⟨qa, pa, κa, τa, va, xa, ra, Ta⟩ := x2 ⟨g, rfl⟩
  have hle1 := ts_le T
  have hp' : p1 ≤ p' := by omega
  obtain ⟨ka0, ka6, _, _⟩ := ts_0 Ta
  obtain ⟨jb1, jb2⟩ := jr_b ⟨tkG c τ q1 p', g⟩
  by_cases ze : τa = 0
  · have zk := ka0.mpr ze
    subst zk
    obtain ⟨S1, r1, r2, r3⟩ := rdr_P hV hc h T0 hY hNA (PLR_R0 (n := n) (L := L) (e := e) (c := c) (BC := BC) T g Ta ze (P := fun _ => (0, 0, 0)))
    have r3 := r3 rfl
    rw [← p14_s (B := B) (v := 0)] at r3
    have hC : df_X1_readStatement n 32 (qC Bq sn lu 0 ln se 0 co SW LW, (uC (xC BC cs tp st ns fx C A Sx NM BK) p' κ q1 x)) = df_X1_readStatement_206 n (qC Bq (sn + 1) lu 0 ln se 0 co (rowU SW sn ln se 4 0 ((ko_b 32 ||| 128) ||| nI (tkG c τ q1 p') <<< ((15 : Int32) &&& 31)) (-1) (nI 0)) LW, uC (xC BC cs tp st ns fx C A Sx NM BK) pa 0 qa xa) := by
      rw [drs_12]
      unfold df_X1_readJump df_X1_readJump_0
      rw [ra, nb_b2, if_pos (show sI (qC Bq sn lu 0 ln se 0 co SW LW, uC (xC BC cs tp st ns fx C A Sx NM BK) pa 0 qa xa).1 2 = 0 from rfl), if_pos (show sI (qC Bq sn lu 0 ln se 0 co SW LW, uC (xC BC cs tp st ns fx C A Sx NM BK) pa 0 qa xa).2 2 = 0 from rfl)]
      rw [show (ko_b 32 ||| (rgb 100 (tkG c τ q1 p')) <<< ((8 : Int32) &&& 31)) ||| 128 = (ko_b 32 ||| 128) ||| nI (tkG c τ q1 p') <<< ((15 : Int32) &&& 31) from jb1, add_C _ hsn, nb_b1, nb_b1]
    rcases jfin hT0 hC r1 r3 Ta with w | ⟨w1, w2, S2, w3, w4⟩
    · exact Or.inl w
    right
    rw [p14_s] at w4
    have hle := ts_le Ta
    refine ⟨(0, (ko_b 32 ||| 128) ||| nI (tkG c τ q1 p') <<< ((15 : Int32) &&& 31), 0, [(0, fun _ => (0, 0, 0))], []), 0, 0, 3, 4, none, _, _, _, _, lu, LW, cs, ns, C, A, NM, BK, bs, ws, pa, (if ((ko_b 32 ||| 128) ||| nI (tkG c τ q1 p') <<< ((15 : Int32) &&& 31)) &&& 3 = 3 then 4 else 2), gr, BY, _, S2, w2, ⟨BC, tp, st, fx, Sx, 0, qa, xa, Or.inl rfl, rfl⟩, w3, (by rw [Nat.add_zero, upd_s hP]; exact w4), by omega, hle.2.2, hq3, ⟨Nat.le_refl _, fun _ _ => ⟨rfl, rfl, rfl, rfl⟩, fun i i1 i2 => by omega⟩, hH, Nat.le_refl _, by omega, by omega, Nat.le_refl _, by omega, fun _ _ => ⟨rfl, rfl⟩, fun _ _ => rfl, fun _ _ => rfl, rfb_P hT0 T0 hNA (PLR_R0 T g Ta ze) (by omega), (fun _ z => nomatch z), Nat.le_refl _, Nat.le_of_ble_eq_true rfl, Nat.le_of_ble_eq_true rfl, (fun z => by have z : (0 : Nat) = 1 := z; omega), (fun z => by have z : (0 : Nat) = 2 := z; omega), Or.inl ⟨rfl, rfl, rfl, ?_, ?_, rfl, Or.inl rfl, fun hl => absurd rfl hl⟩⟩
    · rw [if_pos (show _ = (3 : Int32) from jb2)]; rfl
    · rw [bb_0 hB, if_pos (show _ = (3 : Int32) from jb2)]; rfl
  · have zk : ¬ κa = 0 := fun w => ze (ka0.mp w)
    obtain ⟨f, p2, rs, m, P, cs', tp', st', ns', fx', C', A', S', NM', BK', bs', ws', q2, p2', κ2, τ2, v2, x2, hTr, hf, hne, hz⟩ := rdj_2 hT0 (B := Bq) (sn := sn) (lu := lu) (ln := ln) (se := se) (co := co) (od := 0) (SW := SW) (LW := LW) hsn cs tp st ns fx C A Sx NM BK bs ws p' qa pa κa τa va xa Ta hH (by omega) (by omega) (by omega) (rgb 100 (tkG c τ q1 p'))
    obtain ⟨S1, r1, r2, r3⟩ := rdr_P hV hc h T0 hY hNA (PLR_R (n := n) (L := L) (e := e) (c := c) (BC := BC) T g Ta ze hTr)
    have hC0 : df_X1_readStatement n 32 (qC Bq sn lu 0 ln se 0 co SW LW, (uC (xC BC cs tp st ns fx C A Sx NM BK) p' κ q1 x)) = nd_b1 (df_X1_readJump_47 n (rgb 100 (tkG c τ q1 p')) (qC Bq sn lu 0 ln se 0 co SW LW, uC (xC BC cs tp st ns fx C A Sx NM BK) pa κa qa xa)) (fun (t : St × St) => df_X1_readStatement_206 n t) := by
      rw [drs_12]
      unfold df_X1_readJump df_X1_readJump_0
      rw [ra, nb_b2, if_pos (show sI (qC Bq sn lu 0 ln se 0 co SW LW, uC (xC BC cs tp st ns fx C A Sx NM BK) pa κa qa xa).1 2 = 0 from rfl), if_neg (show ¬ sI (qC Bq sn lu 0 ln se 0 co SW LW, uC (xC BC cs tp st ns fx C A Sx NM BK) pa κa qa xa).2 2 = 0 from fun w => zk ((nI_eq (a := κa) (b := 0) (by omega) (by omega)).mp w))]
    by_cases z : f = 0
    · subst z
      obtain ⟨c1, T2, c2, c3, c4, c5, c6, c7, c8, c9, c10⟩ := hz rfl
      have r3 := r3 rfl
      rw [← p14_s (B := B) (v := 0)] at r3
      rw [c1, nb_b1] at hC0
      rcases jfin hT0 hC0 r1 r3 T2 with w | ⟨w1, w2, S2, w3, w4⟩
      · exact Or.inl w
      right
      rw [p14_s] at w4
      have hle := ts_le T2
      obtain ⟨px, py, R9⟩ := Tr_X hTr (by decide)
      have hb3 : (ko_b 32 ||| rgb 100 (tkG c τ q1 p') ||| RGB [44, 73, 40, 97, 41] rs) &&& 3 = 3 := (b3_r _ _ _).trans frm44.2.2.2.2.2.2
      refine ⟨(0, ko_b 32 ||| rgb 100 (tkG c τ q1 p') ||| RGB [44, 73, 40, 97, 41] rs, 73, [(m, P)], []), 0, 0, 3, 4, none, _, _, _, _, lu, LW, cs', ns', C', A', NM', BK', bs', ws', p2', (if (ko_b 32 ||| rgb 100 (tkG c τ q1 p') ||| RGB [44, 73, 40, 97, 41] rs) &&& 3 = 3 then 4 else 2), gr, BY, _, S2, w2, ⟨BC, tp', st', fx', S', κ2, q2, x2, Or.inl rfl, rfl⟩, w3, (by rw [Nat.add_zero, upd_s hP]; exact w4), by omega, hle.2.2, hq3, c3, c4, by omega, by omega, by omega, Nat.le_refl _, by omega, c8.1, fun _ _ => rfl, fun _ _ => rfl, rfb_P hT0 T0 hNA (PLR_R T g Ta ze hTr) (Tr_le (by omega) hTr), (fun _ z => nomatch z), Nat.le_refl _, Nat.le_of_ble_eq_true rfl, Nat.le_of_ble_eq_true rfl, (fun z => by have z : (0 : Nat) = 1 := z; omega), (fun z => by have z : (0 : Nat) = 2 := z; omega), Or.inl ⟨rfl, rfl, rfl, ?_, ?_, rfl, Or.inr rfl, fun hl => ⟨rfl, ?_, m, P, rfl⟩⟩⟩
      · rw [if_pos (show _ = (3 : Int32) from hb3)]; rfl
      · rw [bb_0 hB, if_pos (show _ = (3 : Int32) from hb3)]; rfl
      · rw [c7]; exact CDo_1 c8 c9 c10 (one_R hV hY R9).1
    · left
      have c1 := hne z
      have r2 := r2 z
      rw [← p14_s (B := B) (v := 0)] at r2
      have f15 : 1 ≤ f ∧ f ≤ 15 := by omega
      have hfl : ¬ nI f + 16 * sI (pI (pI B 15 0) 14 (sI B 14)) 13 = 0 := flt_n (B := pI (pI B 15 0) 14 (sI B 14)) hV.2.2.2.2.2.2.2 f f15
      refine ⟨f, qC Bq sn lu (nI f) ln se 0 co SW LW, uC (xC BC cs' tp' st' ns' fx' C' A' S' NM' BK') p2' κ2 q2 x2, S1, f15.1, f15.2, ?_, rfl, rfl, ?_, ⟨_, r2, rfl, rfl, rfl, rfl⟩⟩
      · rw [hC0, c1, nb_b1, end_CF (show ¬ nI f = 0 from fun w => absurd ((nI_eq (a := f) (b := 0) (by omega) (by omega)).mp w) (by omega))]
      · rw [r1, end_F r2 hfl]
