/-- jumps as they are read: the reference -/
theorem rdr_H {n L e : Nat} {c : Nat → Nat} {BC B : St} {X : Nat → Nat} {nL cu : Nat} (hV : RV n L e c BC B X nL cu) (hc : cstS B) {ct : Nat} {gr : Bool} {PA BY OU : Nat → Int32} {ap : Nat} {S : St} (h : SR B ct gr PA BY OU 0 ap S) {q p1 κ v1 : Nat} {x : Int32} (T : TS n L e c BC q q p1 κ 1 v1 x) {se : Nat} (hP : PA cu = nI ((4 * se) * 2 ^ 17 + q)) (hse : se < 2) (hq : q < 2 ^ 17) {y : Nat} {od : Int32} (hy : y < 128) (hN : NAr n L c q (p1 - q) y od) {q1 p1' κ1 τ1 w1 : Nat} {x1 : Int32} (T1 : TS n L e c BC p1 q1 p1' κ1 τ1 w1 x1) (hk : shT (sgm y) = 34 ∨ (shT (sgm y) = 8 ∧ ¬ tkG c τ1 q1 p1' < 32)) {ok : Bool} {p2 m : Nat} {P : Nat → Tp} (R : RX n L e c BC p1 ok p2 m P) : ∃ S' : St, df_X13_statement n (nI q) 0 S = df_X13_statement_326 n S' ∧ (ok = false → FL e (pI B 15 0) (nI 1 + 16 * sI B 13) S') ∧ (ok = true → SR (pI B 15 0) 2 false (upd PA cu (nI ((4 * se + 8) * 2 ^ 17 + q))) BY OU 0 p2 S') := by
  obtain ⟨S1, e1, e2, e3⟩ := stm_2 hV.1 hc h 0 T hN
  have hV' := RV_p15 hV 0
  have m0 : sI (pI B 15 0) 15 = 0 := rfl
  have go : ∀ (s w : Int32), (s = 34 ∨ ¬ tkG c τ1 q1 p1' < 32) → df_X13_statement_136 n (nI (sgm y)) od S1 = nd_b1 (df_X13_jumps n s w S1) (fun (s : St) => df_X13_statement_326 n s) → ∃ S' : St, df_X13_statement n (nI q) 0 S = df_X13_statement_326 n S' ∧ (ok = false → FL e (pI B 15 0) (nI 1 + 16 * sI B 13) S') ∧ (ok = true → SR (pI B 15 0) 2 false (upd PA cu (nI ((4 * se + 8) * 2 ^ 17 + q))) BY OU 0 p2 S') := fun s w h1 h3 => by
    obtain ⟨S2, f1, f2⟩ := jms_h (B := pI B 15 0) hV.1 e2 T1 s w h1
    cases ok with
    | true =>
      obtain ⟨S3, g1, g2⟩ := jmp_0 hV' f1 hP hse hq m0 R (if s = 34 then w else 1)
      refine ⟨S3, ?_, fun u => (nomatch u), fun _ => ?_⟩
      · rw [e1, h3, f2, g1, nb_b1, nb_b1]
      · rw [Nat.zero_add] at g2
        exact g2
    | false =>
      obtain ⟨S3, g1, g2⟩ := jmp_f hV' f1 (⟨(4 * se) * 2 ^ 17 + q, hP, by omega, by omega⟩ : PY PA cu q) m0 R (if s = 34 then w else 1)
      refine ⟨S3, ?_, fun _ => g2, fun u => (nomatch u)⟩
      rw [e1, h3, f2, g1, nb_b1, nb_b1]
  rcases hk with hk | hk
  · exact go 34 _ (Or.inl rfl) (dsp_34 e3 (sgm y) (sgm_l hy) hk od)
  · exact go 8 _ (Or.inr hk.2) (dsp_8 e3 (sgm y) (sgm_l hy) hk.1 od)
/-- branches as they are read: the reference -/
theorem rdr_B {n L e : Nat} {c : Nat → Nat} {BC B : St} {X : Nat → Nat} {nL cu : Nat} (hV : RV n L e c BC B X nL cu) (hc : cstS B) {ct : Nat} {gr : Bool} {PA BY OU : Nat → Int32} {ap : Nat} {S : St} (h : SR B ct gr PA BY OU 0 ap S) {q p1 κ v1 : Nat} {x : Int32} (T : TS n L e c BC q q p1 κ 1 v1 x) {se : Nat} (hP : PA cu = nI ((4 * se) * 2 ^ 17 + q)) (hse : se < 2) (hq : q < 2 ^ 17) {y : Nat} (hy : y < 128) (hN : NAr n L c q (p1 - q) y 0) (hs : shT (sgm y) = 7 ∨ shT (sgm y) = 35 ∨ shT (sgm y) = 36 ∨ shT (sgm y) = 37) {f p2 : Nat} {rs : List Nat} {m : Nat} {P : Nat → Tp} (hTr : Tr n L e c BC (FRM y) p1 f p2 rs m P) : ∃ S' : St, df_X13_statement n (nI q) 0 S = df_X13_statement_326 n S' ∧ (¬ f = 0 → FL e (pI B 15 0) (nI f + 16 * sI B 13) S') ∧ (f = 0 → SR (pI B 15 0) (if teY y rs = true then 2 else 4) false (upd PA cu (nI ((4 * se + if teY y rs = true then 16 else 25) * 2 ^ 17 + q))) BY OU 0 p2 S') := by
  obtain ⟨S1, e1, e2, e3⟩ := stm_2 hV.1 hc h 0 T hN
  have hV' := RV_p15 hV 0
  have m0 : sI (pI B 15 0) 15 = 0 := rfl
  obtain ⟨r1, r2⟩ := brA_1 hV' (⟨(4 * se) * 2 ^ 17 + q, hP, by omega, by omega⟩ : PY PA cu q) e2 e3 (fun _ => m0) y hy hs hTr
  by_cases u : f = 0
  · obtain ⟨s, r, r', Sk, px, k1, k2, k3, k4, k5, k6, k7, k8, k9, k10⟩ := r2 u
    have bs : brS y = s := by unfold brS; rw [k1, nI_clamp (by omega)]
    have te : teY y rs = teO s (ko_b y) r := by unfold teY; rw [bs, k4]
    obtain ⟨S3, g1, g2⟩ := brn_0 hV' k7 hP hse hq m0 k8 (ko_b y) (brX s r r').1 (brX s r r').2 (teO s (ko_b y) r)
    refine ⟨S3, ?_, fun w => absurd u w, fun _ => ?_⟩
    · rw [e1, k10, g1, nb_b1]
    · rw [te]
      rw [Nat.zero_add] at g2
      exact g2
  · obtain ⟨S3, g1, g2⟩ := r1 u
    exact ⟨S3, e1.trans g1, fun _ => g2, fun w => absurd w u⟩
/-- jal with a register, jalr: plain ones too -/
theorem frm44 : FRM 44 = [100, 44, 74] ∧ shT (sgm 44) = 8 ∧ ptT (sgm 44) = ko_b 44 ∧ ko_b 44 &&& 3 = 3 ∧ shT (sgm 32) = 30 ∧ ptT (sgm 32) = ko_b 32 ∧ ko_b 32 &&& 3 = 3 := by decide +kernel
theorem PLR_J {n L e : Nat} {c : Nat → Nat} {BC : St} {p1 : Nat} {od : Int32} (ho : odK od) {q1 p1' κ1 τ1 w1 : Nat} {x1 : Int32} (T1 : TS n L e c BC p1 q1 p1' κ1 τ1 w1 x1) (hg : tkG c τ1 q1 p1' < 32) {f p2 : Nat} {rs : List Nat} {m : Nat} {P : Nat → Tp} (hTr : Tr n L e c BC (FRM 44) p1 f p2 rs m P) : PLR n L e c BC p1 44 od f p2 m P 74 (ko_b 44 ||| od ||| RGB (FRM 44) rs) := by
  intro B X nL cu st ct gr PA BY OU S hV hY h hw hc h0
  obtain ⟨t1, t2, t3, t4, _⟩ := frm44
  rw [t1] at hTr
  obtain ⟨S1, e1, e2⟩ := jms_r hV.1 h T1 (ko_b 44 ||| od) hg
  rw [if_pos ((b3_b ho _ _).trans frm44.2.2.2.1)] at hw
  obtain ⟨S2, r1, r2, r3⟩ := shp_8 hV hY e1 hw (ko_b 44 ||| od) h0 hTr
  have bz : byZ (ko_b 44 ||| od ||| RGB (FRM 44) rs) = by4 := funext fun v => if_pos (by rw [b3_b ho]; exact t4)
  refine ⟨S2, ?_, r2, fun u => ⟨fun z => absurd z (by decide), fun _ => ?_⟩⟩
  · rw [dsp_8 hc (sgm 44) (sgm_l (by omega)) t2 od, t3, e2, r1, nb_b1]
  · rw [bz, t1]
    exact r3 u
theorem b3_r {k : Int32} (a : Nat) (F rs : List Nat) : (k ||| rgb 100 a ||| RGB F rs) &&& 3 = k &&& 3 := by
  show (k ||| rgb 100 a ||| RGB F rs) &&& nI 3 = k &&& nI 3
  rw [b3_1, b3_1, RGB_3, rgb_3]
  rw [show nI 0 = (0 : Int32) from rfl, or_0, or_0]
theorem PLR_R {n L e : Nat} {c : Nat → Nat} {BC : St} {p1 p q0 κ0 τ0 v0 : Nat} {x0 : Int32} (T0 : TS n L e c BC p1 q0 p κ0 τ0 v0 x0) (g0 : tkG c τ0 q0 p < 32) {q9 p9 κ9 τ9 v9 : Nat} {x9 : Int32} (T9 : TS n L e c BC p q9 p9 κ9 τ9 v9 x9) (h9 : ¬ τ9 = 0) {f p2 : Nat} {rs : List Nat} {m : Nat} {P : Nat → Tp} (hTr : Tr n L e c BC [44, 73, 40, 97, 41] p f p2 rs m P) : PLR n L e c BC p1 32 0 f p2 m P 73 (ko_b 32 ||| rgb 100 (tkG c τ0 q0 p) ||| RGB [44, 73, 40, 97, 41] rs) := by
  intro B X nL cu st ct gr PA BY OU S hV hY h hw hc h0
  obtain ⟨_, _, _, _, t5, t6, t7⟩ := frm44
  rw [if_pos ((b3_r _ _ _).trans frm44.2.2.2.2.2.2)] at hw
  obtain ⟨S2, r1, r2, r3⟩ := shp_30 hV hY h hw (ko_b 32) h0 T0 g0 T9 h9 hTr
  have bz : byZ (ko_b 32 ||| rgb 100 (tkG c τ0 q0 p) ||| RGB [44, 73, 40, 97, 41] rs) = by4 := funext fun v => if_pos (by rw [b3_r]; exact t7)
  refine ⟨S2, ?_, r2, fun u => ⟨fun z => absurd z (by decide), fun _ => ?_⟩⟩
  · rw [dsp_30 hc (sgm 32) (sgm_l (by omega)) t5 0, t6, or_0, r1, nb_b1]
  · rw [bz]
    exact r3 u
theorem jr_3 : ∀ r : Fin 32, ((ko_b 32 ||| 128) ||| nI r.1 <<< ((15 : Int32) &&& 31)) &&& 3 = 3 := by decide +kernel
theorem PLR_R0 {n L e : Nat} {c : Nat → Nat} {BC : St} {p1 p q0 κ0 τ0 v0 : Nat} {x0 : Int32} (T0 : TS n L e c BC p1 q0 p κ0 τ0 v0 x0) (g0 : tkG c τ0 q0 p < 32) {q9 p9 κ9 τ9 v9 : Nat} {x9 : Int32} (T9 : TS n L e c BC p q9 p9 κ9 τ9 v9 x9) (h9 : τ9 = 0) {P : Nat → Tp} : PLR n L e c BC p1 32 0 0 p 0 P 0 ((ko_b 32 ||| 128) ||| nI (tkG c τ0 q0 p) <<< ((15 : Int32) &&& 31)) := by
  intro B X nL cu st ct gr PA BY OU S hV hY h hw hc h0
  obtain ⟨_, _, _, _, t5, t6, t7⟩ := frm44
  obtain ⟨S0a, e0a, h0a⟩ := tak_y hV.1 h T0 g0
  obtain ⟨S0, e0, h0c⟩ := ise_S hV.1 h0a T9
  rw [decide_eq_true h9] at e0
  have e0 : df_X13_isEnd n S0a = some (1, S0) := e0
  rw [if_pos (show ((ko_b 32 ||| 128) ||| nI (tkG c τ0 q0 p) <<< ((15 : Int32) &&& 31)) &&& 3 = 3 from jr_3 ⟨_, g0⟩)] at hw
  obtain ⟨S2, w1, w2⟩ := wor_S (n := n) h0c hw ((ko_b 32 ||| 128) ||| nI (tkG c τ0 q0 p) <<< ((15 : Int32) &&& 31))
  have b3 : ((ko_b 32 ||| 128) ||| nI (tkG c τ0 q0 p) <<< ((15 : Int32) &&& 31)) &&& 3 = 3 := by
    show ((ko_b 32 ||| 128) ||| nI (tkG c τ0 q0 p) <<< nI 15) &&& nI 3 = 3
    rw [b3_1, b3_s _ 15 (by omega)]
    decide
  have bz : byZ ((ko_b 32 ||| 128) ||| nI (tkG c τ0 q0 p) <<< ((15 : Int32) &&& 31)) = by4 := funext fun v => if_pos b3
  refine ⟨S2, ?_, fun u => absurd rfl u, fun _ => ⟨fun _ => ?_, fun z => absurd rfl z⟩⟩
  · rw [dsp_30 hc (sgm 32) (sgm_l (by omega)) t5 0, t6, or_0]
    unfold df_X13_longs df_X13_longs_0
    rw [e0a, nb_b2, if_pos rfl, if_pos (SR_12 h0a), e0, nb_b2, if_neg (by decide), w1, nb_b1, nb_b1]
  · rw [bz]
    exact plo4 rfl w2 rfl
theorem PLR_RF {n L e : Nat} {c : Nat → Nat} {BC : St} {p1 p q0 κ0 τ0 v0 : Nat} {x0 : Int32} (T0 : TS n L e c BC p1 q0 p κ0 τ0 v0 x0) {f : Nat} (g0 : (tkG c τ0 q0 p = 33 ∧ f = 1) ∨ (tkG c τ0 q0 p = 32 ∧ f = 3)) {p2 m : Nat} {P : Nat → Tp} {l : Nat} {b : Int32} : PLR n L e c BC p1 32 0 f p2 m P l b := by
  intro B X nL cu st ct gr PA BY OU S hV hY h hw hc h0
  obtain ⟨_, _, _, _, t5, t6, t7⟩ := frm44
  have hl := hV.2.2.2.2.2.2.2
  obtain ⟨S1, e1, g1⟩ := tak_n hV.1 h T0 (by omega)
  have ne := f13 hl (g := tkG c τ0 q0 p)
  rw [f13e g0] at g1 ne
  have f12 := (FL_f (FN_L g1)).1
  refine ⟨S1, ?_, fun _ => FN_L g1, fun u => by omega⟩
  rw [dsp_30 hc (sgm 32) (sgm_l (by omega)) t5 0, t6, or_0]
  unfold df_X13_longs df_X13_longs_0 df_X13_longs_40
  rw [e1, nb_b2, if_pos rfl, f12, if_neg ne, if_neg (by decide), com_F (FN_L g1) ne, nb_b2, if_pos rfl, nb_b1]

/-- is the next token a register? -/
theorem isr_C {n L e : Nat} {c : Nat → Nat} {BC BR0 : St} (hT0 : atx n L e c BC BR0) {cs tp st ns : Nat} {fx : Bool} {C A S NM BK : Nat → Int32} (s1 : St) {p q p' κ τ v : Nat} {x : Int32} (hT : TS n L e c BC p q p' κ τ v x) : df_X1_isRegister n (s1, uC (xC BC cs tp st ns fx C A S NM BK) p' κ q x) = some (bI (decide (tkG c τ q p' < 32)), (s1, uC (xC BC cs tp st ns fx C A S NM BK) p' κ q x)) := by
  obtain ⟨hn, hL, heL, h127, hend, hce, hO, hst, htC, h0, htR, hch⟩ := id hT0
  have z1 : ∀ (b : Bool) (x : Option (Int32 × (St × St))), nd_z .boolean (bI b) x = x := fun b x => by cases b <;> exact nar_z (by decide)
  have kt := ts_0 hT
  have tw := ts_w hT
  unfold df_X1_isRegister df_X1_isRegister_0 df_X1_isRegister_50 df_X1_isRegister_51
  by_cases y : τ = 1
  · have k1 := kt.2.2.1.mpr y
    obtain ⟨w1, w2, _⟩ := tw y
    have ee := (eT_1 c (show q ≤ e by omega))
    have cr := cr_1 n q (p' - q) (c := c) (B := pR nd_st0 0 (sR (uC (xC BC cs tp st ns fx C A S NM BK) p' κ q x) 7)) (by omega) (by omega) h127 (by omega) (fun i hi => ee.2.2.2 (q + i) (by omega) (by omega)) (fun i hi => htC _ (by omega))
    have g : tkG c τ q p' = reS (p' - q) (c q) (c (q + 1)) (c (q + 2)) (c (q + 3)) := by unfold tkG; rw [if_neg (by omega), if_pos y]
    rw [if_pos (show sI (s1, uC (xC BC cs tp st ns fx C A S NM BK) p' κ q x).2 2 = (1 : Int32) from congrArg nI k1)]
    show nd_o (sO (uC (xC BC cs tp st ns fx C A S NM BK) p' κ q x) 0) 8 (nd_b2 (df_X7_registerAt n (sI (uC (xC BC cs tp st ns fx C A S NM BK) p' κ q x) 3) (sI (uC (xC BC cs tp st ns fx C A S NM BK) p' κ q x) 0 - sI (uC (xC BC cs tp st ns fx C A S NM BK) p' κ q x) 3) (pR nd_st0 0 (sR (uC (xC BC cs tp st ns fx C A S NM BK) p' κ q x) 7))) _) = _
    rw [uC_o, xC_o0, o8S hO, uC_i3, uC_i0, show nI p' - nI q = nI (p' - q) from pk_sub (by omega), cr, nb_b2]
    show nd_let (s1, pR (uC (xC BC cs tp st ns fx C A S NM BK) p' κ q x) 7 (sR (pR nd_st0 0 (sR (uC (xC BC cs tp st ns fx C A S NM BK) p' κ q x) 7)) 0)) _ = _
    rw [show pR (uC (xC BC cs tp st ns fx C A S NM BK) p' κ q x) 7 (sR (pR nd_st0 0 (sR (uC (xC BC cs tp st ns fx C A S NM BK) p' κ q x) 7)) 0) = (uC (xC BC cs tp st ns fx C A S NM BK) p' κ q x) from nm_r0 _ 7, nb_let, g]
    generalize reS (p' - q) (c q) (c (q + 1)) (c (q + 2)) (c (q + 3)) = r
    by_cases z : r < 32
    · rw [show rI r = nI r from if_pos z, if_neg (show ¬ nI r < (0 : Int32) from znl (b := 0) (Nat.zero_le _) (by omega)), decide_eq_true z]
      exact z1 true _
    · rw [show rI r = -1 from if_neg z, if_pos (show (-1 : Int32) < 0 by decide), decide_eq_false z]
      exact z1 false _
  · have k1 : ¬ κ = 1 := fun z => y (kt.2.2.1.mp z)
    have g : ¬ tkG c τ q p' < 32 := by
      unfold tkG
      by_cases z : τ = 0 ∨ τ = 5
      · rw [if_pos z]; omega
      · rw [if_neg z, if_neg y]; omega
    rw [if_neg (show ¬ sI (s1, uC (xC BC cs tp st ns fx C A S NM BK) p' κ q x).2 2 = (1 : Int32) from zne (b := 1) k1 (by omega) (by omega)), decide_eq_false g]
    exact z1 false _
theorem drs_11 (n : Nat) (s : St × St) : df_X1_readStatement n 44 s = nd_b2 (df_X1_isRegister n s) (fun (q57 : Int32) (s58 : St × St) => if q57 = 0 then nd_b1 (df_X1_readInstruction n 103 s58) (fun (t : St × St) => df_X1_readStatement_206 n t) else nd_b1 (df_X1_readInstruction n 44 s58) (fun (t : St × St) => df_X1_readStatement_206 n t)) := by
  unfold df_X1_readStatement df_X1_readStatement_0 df_Jx29ce0_ordinal_8abf5 df_Jx29ce0_ordinal_8abf5_0
  rw [lt_y (by omega), lt_y (by omega), nb_b2, show Int32.ofNat 44 = nI 44 from rfl, nm_ck (by omega) (by omega), nI_clamp (by omega), show tb_0 44 = 11 from rfl]
  rfl
theorem drs_12 (n : Nat) (s : St × St) : df_X1_readStatement n 32 s = nd_b1 (df_X1_readJump n s) (fun (t : St × St) => df_X1_readStatement_206 n t) := by
  unfold df_X1_readStatement df_X1_readStatement_0 df_Jx29ce0_ordinal_8abf5 df_Jx29ce0_ordinal_8abf5_0
  rw [lt_y (by omega), lt_y (by omega), nb_b2, show Int32.ofNat 32 = nI 32 from rfl, nm_ck (by omega) (by omega), nI_clamp (by omega), show tb_0 32 = 12 from rfl]
  rfl
/-- with a fault the class's readers do nothing -/
theorem xpt_F {n : Nat} {B : St} {sn lu ln se co : Nat} {od : Int32} {SW LW : Nat → Int32} {ft : Int32} (s2 : St) (h : ¬ ft = 0) (v : Int32) : df_X1_expect n v (qC B sn lu ft ln se od co SW LW, s2) = some (qC B sn lu ft ln se od co SW LW, s2) := by
  unfold df_X1_expect df_X1_expect_0 df_X1_expect_23 df_X1_expect_37
  rw [if_neg (show ¬ sI (qC B sn lu ft ln se od co SW LW, s2).1 2 = 0 from h), if_neg (show ¬ sI (qC B sn lu ft ln se od co SW LW, s2).1 2 = 0 from h)]
theorem rrg_F {n : Nat} {B : St} {sn lu ln se co : Nat} {od : Int32} {SW LW : Nat → Int32} {ft : Int32} (s2 : St) (h : ¬ ft = 0) (v : Int32) : df_X1_readRegister n v (qC B sn lu ft ln se od co SW LW, s2) = some (0, (qC B sn lu ft ln se od co SW LW, s2)) := by
  unfold df_X1_readRegister df_X1_readRegister_0
  rw [if_neg (show ¬ sI (qC B sn lu ft ln se od co SW LW, s2).1 2 = 0 from h)]
theorem j81_F {n : Nat} {B : St} {sn lu ln se co : Nat} {od : Int32} {SW LW : Nat → Int32} {ft : Int32} (s2 : St) (h : ¬ ft = 0) (x1 x2 : Int32) : df_X1_readJump_81 n x1 x2 (qC B sn lu ft ln se od co SW LW, s2) = some (qC B sn lu ft ln se od co SW LW, s2) := by
  unfold df_X1_readJump_81
  rw [xpt_F s2 h, nb_b1, rrg_F s2 h, nb_b2, nb_let, xpt_F s2 h, nb_b1, add_F s2 h, nb_b1, stl_F s2 h, nb_b1]
theorem blm_CF {n : Nat} {B : St} {sn lu ln se co : Nat} {od : Int32} {SW LW : Nat → Int32} {ft : Int32} (s2 : St) (h : ¬ ft = 0) (v : Int32) : df_X1_blame n v (qC B sn lu ft ln se od co SW LW, s2) = some (qC B sn lu ft ln se od co SW LW, s2) := by
  unfold df_X1_blame df_X1_blame_0 df_X1_blame_12
  rw [if_neg (show ¬ sI (qC B sn lu ft ln se od co SW LW, s2).1 2 = 0 from h)]
theorem j71_F {n : Nat} {B : St} {sn lu ln se co : Nat} {od : Int32} {SW LW : Nat → Int32} {ft : Int32} (s2 : St) (h : ¬ ft = 0) (x1 x2 : Int32) : df_X1_readJump_71 n x1 x2 (qC B sn lu ft ln se od co SW LW, s2) = some (qC B sn lu ft ln se od co SW LW, s2) := by
  unfold df_X1_readJump_71
  rw [blm_CF s2 h, nb_b1, j81_F s2 h]
  split <;> rfl
theorem sh_78 (v : Int32) : (v <<< nI 7) <<< nI 8 = v <<< nI 15 := by (apply gb_ext; apply all32; simp (disch := decide) only [gb_or, gb_and, gb_xor, gb_shl, gb_shr, gb_ush, gb_n, gb_m, gb_hi, Nat.reduceAdd, Nat.reduceSub, Nat.reduceLT, Nat.reduceLeDiff, Nat.testBit, Nat.reduceShiftRight, Nat.reduceBNe, Nat.reduceAnd, Nat.one_and_eq_mod_two, Nat.reduceMod, decide_true, decide_false, Bool.and_true, Bool.true_and, Bool.and_false, Bool.false_and, Bool.or_false, Bool.false_or, Bool.or_true, Bool.true_or, Bool.not_true, Bool.not_false, Bool.xor_true, Bool.xor_false, Bool.true_xor, Bool.false_xor, if_true, if_false, ↓reduceIte, and_self, bne_self_eq_false, Bool.or_self, Bool.and_self, Bool.not_not])
/-- jalr behind its first register, with two operands -/
theorem rdj_2 {n L e : Nat} {c : Nat → Nat} {BC BR0 : St} (hT0 : atx n L e c BC BR0) {B : St} {sn lu ln se co : Nat} {od : Int32} {SW LW : Nat → Int32} (hsn : sn < 8194) (cs tp st ns : Nat) (fx : Bool) (C A S NM BK : Nat → Int32) (bs ws : Nat → Nat) (p q p' κ τ v : Nat) (x : Int32) (hT : TS n L e c BC p q p' κ τ v x) (hH : HT L c ns NM BK bs ws) (hp0 : 0 < p) (hcs : cs ≤ p) (hns : 2 * ns ≤ p) (x1 : Int32) : ∃ (f p2 : Nat) (rs : List Nat) (m : Nat) (P : Nat → Tp) (cs' tp' st' ns' : Nat) (fx' : Bool) (C' A' S' NM' BK' : Nat → Int32) (bs' ws' : Nat → Nat) (q2 p2' κ2 τ2 v2 : Nat) (x2 : Int32), Tr n L e c BC [44, 73, 40, 97, 41] p f p2 rs m P ∧ (f = 0 ∨ f = 1 ∨ f = 3) ∧ (¬ f = 0 → df_X1_readJump_47 n x1 (qC B sn lu 0 ln se od co SW LW, uC (xC BC cs tp st ns fx C A S NM BK) p' κ q x) = some (qC B sn lu (nI f) ln se od co SW LW, uC (xC BC cs' tp' st' ns' fx' C' A' S' NM' BK') p2' κ2 q2 x2)) ∧ (f = 0 → df_X1_readJump_47 n x1 (qC B sn lu 0 ln se od co SW LW, uC (xC BC cs tp st ns fx C A S NM BK) p' κ q x) = some (qC B (sn + 1) lu 0 ln se od co (rowU SW sn ln se 4 0 ((ko_b 32 ||| x1) ||| RGB [44, 73, 40, 97, 41] rs) (nI cs) (nI 73)) LW, uC (xC BC cs' tp' st' ns' fx' C' A' S' NM' BK') p2' κ2 q2 x2) ∧ TS n L e c BC p2 q2 p2' κ2 τ2 v2 x2 ∧ p ≤ p2 ∧ PS ns NM bs ws ns' NM' bs' ws' ∧ HT L c ns' NM' BK' bs' ws' ∧ cs' ≤ p2 + 1 ∧ 2 * ns' ≤ p2 + 1 ∧ cs' = cs + m + 1 ∧ CR (sR BC 5) c e C A cs ns' bs' ws' m P C' A' ∧ C' (cs + m) = 21 ∧ 0 < m) := by
  have he : e ≤ 32768 := by have := hT0.2.1; have := hT0.2.2.1; omega
  have n1 : ¬ (nI 1 : Int32) = 0 := by decide
  have n3 : ¬ (nI 3 : Int32) = 0 := by decide
  have pe : p ≤ p' := by have := hT.2.2.1; have := hT.2.2.2.1; omega
  obtain ⟨y1, y2⟩ := xpt_C hT0 (cs := cs) (tp := tp) (st := st) (ns := ns) (fx := fx) (C := C) (A := A) (S := S) (NM := NM) (BK := BK) (qC B sn lu 0 ln se od co SW LW) qC_i2 44 (by omega) p q p' κ τ v x hT
  by_cases t1 : τ = 44
  rotate_left
  · refine ⟨1, p, [], 0, fun _ => (0, 0, 0), cs, tp, st, ns, fx, C, A, S, NM, BK, bs, ws, q, p', κ, τ, v, x, ⟨q, p', κ, τ, v, x, hT, ?_⟩, Or.inr (Or.inl rfl), fun _ => ?_, fun u => absurd u (by decide)⟩
    · rw [if_pos (by decide)]
      exact Or.inr ⟨t1, rfl⟩
    · unfold df_X1_readJump_47
      rw [show df_X1_expect n 44 (qC B sn lu 0 ln se od co SW LW, uC (xC BC cs tp st ns fx C A S NM BK) p' κ q x) = _ from y2 t1, nb_b1, show pI (qC B sn lu 0 ln se od co SW LW) 2 1 = qC B sn lu (nI 1) ln se od co SW LW from qC_w2, if_neg (show ¬ sI (qC B sn lu (nI 1) ln se od co SW LW, uC (xC BC cs tp st ns fx C A S NM BK) p' κ q x).1 2 = 0 from n1), j71_F _ n1]
  obtain ⟨q3, p3, κ3, τ3, v3, x3, e1, T3⟩ := y1 t1
  have e1 : df_X1_expect n 44 (qC B sn lu 0 ln se od co SW LW, uC (xC BC cs tp st ns fx C A S NM BK) p' κ q x) = some (qC B sn lu 0 ln se od co SW LW, uC (xC BC cs tp st ns fx C A S NM BK) p3 κ3 q3 x3) := e1
  have p1 : p' ≤ p3 := by have := T3.2.2.1; have := T3.2.2.2.1; omega
  obtain ⟨ok, p4, q4, p4', κ4, τ4, v4, x4, m2, P2, ns2, fx2, C2, A2, S2, NM2, BK2, bs2, ws2, tp2, f1, f2, f3, f4, f5⟩ := exs_1 hT0 p' q3 p3 κ3 τ3 v3 x3 cs tp st ns fx C A S NM BK bs ws T3 hH (by omega) (by omega) (by omega)
  have hd : df_X1_readJump_47 n x1 (qC B sn lu 0 ln se od co SW LW, uC (xC BC cs tp st ns fx C A S NM BK) p' κ q x) = df_X1_readJump_71 n x1 (if ok = true then nI cs else -1) (qC B sn lu 0 ln se od co SW LW, uC (xC BC (cs + m2 + 1) tp2 (if ok = true then 5 else 6) ns2 fx2 C2 A2 S2 NM2 BK2) p4' κ4 q4 x4) := by
    unfold df_X1_readJump_47
    rw [e1, nb_b1, if_pos (show sI (qC B sn lu 0 ln se od co SW LW, uC (xC BC cs tp st ns fx C A S NM BK) p3 κ3 q3 x3).1 2 = 0 from rfl)]
    show nd_b2 (df_X9_sum n (uC (xC BC cs tp st ns fx C A S NM BK) p3 κ3 q3 x3)) _ = _
    rw [f1, nb_b2, nb_let]
  cases ok with
  | false =>
    refine ⟨1, p, [], m2, P2, cs + m2 + 1, tp2, 6, ns2, fx2, C2, A2, S2, NM2, BK2, bs2, ws2, q4, p4', κ4, τ4, v4, x4, ⟨q, p', κ, τ, v, x, hT, ?_⟩, Or.inr (Or.inl rfl), fun _ => ?_, fun u => absurd u (by decide)⟩
    · rw [if_pos (by decide)]
      refine Or.inl ⟨t1, q3, p3, κ3, τ3, v3, x3, T3, ?_⟩
      rw [if_neg (by decide), if_neg (by decide)]
      exact ⟨false, p4, f5, Or.inr ⟨rfl, rfl⟩⟩
    · rw [hd, if_neg (show ¬ false = true from Bool.false_ne_true)]
      unfold df_X1_readJump_71
      rw [if_neg (show ¬ (0 : Int32) ≤ -1 by decide), blm_C, nb_b1]
      exact j81_F _ n1 _ _
  | true =>
  obtain ⟨d1, d2, d3, d4, d5, d6, d7, d8⟩ := f4 rfl
  have p4e : p4 ≤ p4' := by have := d1.2.2.1; have := d1.2.2.2.1; omega
  rw [if_pos rfl] at hd
  have hd2 : df_X1_readJump_47 n x1 (qC B sn lu 0 ln se od co SW LW, uC (xC BC cs tp st ns fx C A S NM BK) p' κ q x) = df_X1_readJump_81 n x1 (nI cs) (qC B sn lu 0 ln se od co SW LW, uC (xC BC (cs + m2 + 1) tp2 5 ns2 fx2 C2 A2 S2 NM2 BK2) p4' κ4 q4 x4) := by
    rw [hd]
    unfold df_X1_readJump_71
    rw [if_pos (show (0 : Int32) ≤ nI cs from zle (a := 0) (Nat.zero_le _) (by have := hT.1; omega))]
    rfl
  have trA : ∀ (f p2 : Nat) (rs : List Nat), Tr n L e c BC [40, 97, 41] p4 f p2 rs m2 P2 → Tr n L e c BC [44, 73, 40, 97, 41] p f p2 rs m2 P2 := fun f p2 rs h => by
    refine ⟨q, p', κ, τ, v, x, hT, ?_⟩
    rw [if_pos (by decide)]
    refine Or.inl ⟨t1, q3, p3, κ3, τ3, v3, x3, T3, ?_⟩
    rw [if_neg (by decide), if_neg (by decide)]
    exact ⟨true, p4, f5, Or.inl ⟨rfl, d2, d1.1, h⟩⟩
  obtain ⟨y3, y4⟩ := xpt_C hT0 (cs := cs + m2 + 1) (tp := tp2) (st := 5) (ns := ns2) (fx := fx2) (C := C2) (A := A2) (S := S2) (NM := NM2) (BK := BK2) (qC B sn lu 0 ln se od co SW LW) qC_i2 40 (by omega) p4 q4 p4' κ4 τ4 v4 x4 d1
  by_cases t4 : τ4 = 40
  rotate_left
  · refine ⟨1, p, [], m2, P2, cs + m2 + 1, tp2, 5, ns2, fx2, C2, A2, S2, NM2, BK2, bs2, ws2, q4, p4', κ4, τ4, v4, x4, trA 1 p [] ⟨q4, p4', κ4, τ4, v4, x4, d1, by rw [if_pos (by decide)]; exact Or.inr ⟨t4, rfl⟩⟩, Or.inr (Or.inl rfl), fun _ => ?_, fun u => absurd u (by decide)⟩
    rw [hd2]
    unfold df_X1_readJump_81
    rw [show df_X1_expect n 40 _ = _ from y4 t4, nb_b1, show pI (qC B sn lu 0 ln se od co SW LW) 2 1 = qC B sn lu (nI 1) ln se od co SW LW from qC_w2, rrg_F _ n1, nb_b2, nb_let, xpt_F _ n1, nb_b1, add_F _ n1, nb_b1, stl_F _ n1, nb_b1]
  obtain ⟨q5, p5, κ5, τ5, v5, x5, e5, T5⟩ := y3 t4
  have p5e : p4' ≤ p5 := by have := T5.2.2.1; have := T5.2.2.2.1; omega
  obtain ⟨z1, z2, z3⟩ := rrg_C hT0 (cs := cs + m2 + 1) (tp := tp2) (st := 5) (ns := ns2) (fx := fx2) (C := C2) (A := A2) (S := S2) (NM := NM2) (BK := BK2) (qC B sn lu 0 ln se od co SW LW) qC_i2 (nI 97) (rfit 97) (rgb 97) (fun r hr => rf_C n rfl hr) (fun r hr => rgb_C n rfl r) p4' q5 p5 κ5 τ5 v5 x5 T5
  have trB : ∀ (f p2 : Nat) (rs : List Nat), (∃ (q p' κ τ v : Nat) (x : Int32), TS n L e c BC p4' q p' κ τ v x ∧ (if (97 : Nat) < 65 then (τ = 97 ∧ Tr n L e c BC [41] p' f p2 rs m2 P2) ∨ (¬ τ = 97 ∧ f = 1) else if 97 ≤ 97 then (tkG c τ q p' < 32 ∧ rfit 97 (tkG c τ q p') = true ∧ ∃ rs' : List Nat, rs = tkG c τ q p' :: rs' ∧ Tr n L e c BC [41] p' f p2 rs' m2 P2) ∨ (tkG c τ q p' = 33 ∧ f = 1) ∨ ((tkG c τ q p' = 32 ∨ (tkG c τ q p' < 32 ∧ rfit 97 (tkG c τ q p') = false)) ∧ f = 3) else ∃ (ok : Bool) (px : Nat), RX n L e c BC p4' ok px m2 P2 ∧ ((ok = true ∧ p4' ≤ px ∧ px ≤ e ∧ Tr n L e c BC [41] px f p2 rs m2 P2) ∨ (ok = false ∧ f = 1)))) → Tr n L e c BC [40, 97, 41] p4 f p2 rs m2 P2 := fun f p2 rs h => by
    refine ⟨q4, p4', κ4, τ4, v4, x4, d1, ?_⟩
    rw [if_pos (by decide)]
    exact Or.inl ⟨t4, h⟩
  have hd3 : ∀ (r : Int32) (s : St × St), df_X1_readRegister n 97 (qC B sn lu 0 ln se od co SW LW, uC (xC BC (cs + m2 + 1) tp2 5 ns2 fx2 C2 A2 S2 NM2 BK2) p5 κ5 q5 x5) = some (r, s) → df_X1_readJump_47 n x1 (qC B sn lu 0 ln se od co SW LW, uC (xC BC cs tp st ns fx C A S NM BK) p' κ q x) = nd_b1 (df_X1_expect n 41 s) (fun (s19 : St × St) => nd_b1 (df_X1_add n 0 4 ((ko_b 32 ||| x1) ||| r) (nI cs) s19) (fun (s22 : St × St) => nd_b1 (df_X1_setLetter n 73 s22) (fun (s25 : St × St) => some s25))) := fun r s hr => by
    rw [hd2]
    unfold df_X1_readJump_81
    rw [show df_X1_expect n 40 _ = _ from e5, nb_b1, hr, nb_b2, nb_let]
  have tg5 := tkG_l (c := c) (τ := τ5) (q := q5) (p := p5)
  by_cases g5 : tkG c τ5 q5 p5 < 32
  rotate_left
  · have fin : ∀ f : Nat, (f = 1 ∨ f = 3) → df_X1_readRegister n (nI 97) (qC B sn lu 0 ln se od co SW LW, uC (xC BC (cs + m2 + 1) tp2 5 ns2 fx2 C2 A2 S2 NM2 BK2) p5 κ5 q5 x5) = some (0, (pI (qC B sn lu 0 ln se od co SW LW) 2 (nI f), uC (xC BC (cs + m2 + 1) tp2 5 ns2 fx2 C2 A2 S2 NM2 BK2) p5 κ5 q5 x5)) → df_X1_readJump_47 n x1 (qC B sn lu 0 ln se od co SW LW, uC (xC BC cs tp st ns fx C A S NM BK) p' κ q x) = some (qC B sn lu (nI f) ln se od co SW LW, uC (xC BC (cs + m2 + 1) tp2 5 ns2 fx2 C2 A2 S2 NM2 BK2) p5 κ5 q5 x5) := fun f hf hr => by
      have nf : ¬ (nI f : Int32) = 0 := by rcases hf with u | u <;> subst u <;> decide
      rw [hd3 _ _ hr, qC_w2, xpt_F _ nf, nb_b1, add_F _ nf, nb_b1, stl_F _ nf, nb_b1]
    by_cases g6 : tkG c τ5 q5 p5 = 33
    · exact ⟨1, p, [], m2, P2, cs + m2 + 1, tp2, 5, ns2, fx2, C2, A2, S2, NM2, BK2, bs2, ws2, q5, p5, κ5, τ5, v5, x5, trA 1 p [] (trB 1 p [] ⟨q5, p5, κ5, τ5, v5, x5, T5, by rw [if_neg (by decide), if_pos (by decide)]; exact Or.inr (Or.inl ⟨g6, rfl⟩)⟩), Or.inr (Or.inl rfl), fun _ => fin 1 (Or.inl rfl) (z1 g6), fun u => absurd u (by decide)⟩
    · have g7 : tkG c τ5 q5 p5 = 32 := by omega
      exact ⟨3, p, [], m2, P2, cs + m2 + 1, tp2, 5, ns2, fx2, C2, A2, S2, NM2, BK2, bs2, ws2, q5, p5, κ5, τ5, v5, x5, trA 3 p [] (trB 3 p [] ⟨q5, p5, κ5, τ5, v5, x5, T5, by rw [if_neg (by decide), if_pos (by decide)]; exact Or.inr (Or.inr ⟨Or.inl g7, rfl⟩)⟩), Or.inr (Or.inr rfl), fun _ => fin 3 (Or.inr rfl) (z2 (Or.inl g7)), fun u => absurd u (by decide)⟩
  obtain ⟨q6, p6, κ6, τ6, v6, x6, e6, T6⟩ := z3 ⟨g5, rfl⟩
  have e6 : df_X1_readRegister n 97 (qC B sn lu 0 ln se od co SW LW, uC (xC BC (cs + m2 + 1) tp2 5 ns2 fx2 C2 A2 S2 NM2 BK2) p5 κ5 q5 x5) = some (rgb 97 (tkG c τ5 q5 p5), (qC B sn lu 0 ln se od co SW LW, uC (xC BC (cs + m2 + 1) tp2 5 ns2 fx2 C2 A2 S2 NM2 BK2) p6 κ6 q6 x6)) := e6
  have hd4 := hd3 _ _ e6
  have p6e : p5 ≤ p6 := by have := T6.2.2.1; have := T6.2.2.2.1; omega
  have trC : ∀ (f p2 : Nat), Tr n L e c BC [41] p5 f p2 [] m2 P2 → Tr n L e c BC [44, 73, 40, 97, 41] p f p2 [tkG c τ5 q5 p5] m2 P2 := fun f p2 h => trA f p2 _ (trB f p2 _ ⟨q5, p5, κ5, τ5, v5, x5, T5, by rw [if_neg (by decide), if_pos (by decide)]; exact Or.inl ⟨g5, rfl, [], rfl, h⟩⟩)
  obtain ⟨y7, y8⟩ := xpt_C hT0 (cs := cs + m2 + 1) (tp := tp2) (st := 5) (ns := ns2) (fx := fx2) (C := C2) (A := A2) (S := S2) (NM := NM2) (BK := BK2) (qC B sn lu 0 ln se od co SW LW) qC_i2 41 (by omega) p5 q6 p6 κ6 τ6 v6 x6 T6
  by_cases t6 : τ6 = 41
  rotate_left
  · refine ⟨1, p, [tkG c τ5 q5 p5], m2, P2, cs + m2 + 1, tp2, 5, ns2, fx2, C2, A2, S2, NM2, BK2, bs2, ws2, q6, p6, κ6, τ6, v6, x6, trC 1 p ⟨q6, p6, κ6, τ6, v6, x6, T6, by rw [if_pos (by decide)]; exact Or.inr ⟨t6, rfl⟩⟩, Or.inr (Or.inl rfl), fun _ => ?_, fun u => absurd u (by decide)⟩
    rw [hd4, show df_X1_expect n 41 _ = _ from y8 t6, nb_b1, show pI (qC B sn lu 0 ln se od co SW LW) 2 1 = qC B sn lu (nI 1) ln se od co SW LW from qC_w2, add_F _ n1, nb_b1, stl_F _ n1, nb_b1]
  obtain ⟨q7, p7, κ7, τ7, v7, x7, e7, T7⟩ := y7 t6
  refine ⟨0, p6, [tkG c τ5 q5 p5], m2, P2, cs + m2 + 1, tp2, 5, ns2, fx2, C2, A2, S2, NM2, BK2, bs2, ws2, q7, p7, κ7, τ7, v7, x7, trC 0 p6 ⟨q6, p6, κ6, τ6, v6, x6, T6, by rw [if_pos (by decide)]; exact Or.inl ⟨t6, rfl, rfl, rfl⟩⟩, Or.inl rfl, fun u => absurd rfl u, fun _ => ⟨?_, T7, by omega, f2, f3, by omega, by omega, rfl, d3, d4, d8⟩⟩
  rw [hd4, show df_X1_expect n 41 _ = _ from e7, nb_b1, add_C _ hsn, nb_b1, stl_C _ hsn, nb_b1]
  rw [show RGB [44, 73, 40, 97, 41] [tkG c τ5 q5 p5] = rgb 97 (tkG c τ5 q5 p5) ||| 0 from rfl, or_0]
  rfl

/-- what names mean, in both tables, as long as they grow -/
def NTB (c X : Nat → Nat) (nL : Nat) (W : Nat → Int32) (ns : Nat) (NM : Nat → Int32) (bs ws : Nat → Nat) : Prop := ∀ id : Nat, id < ns → (nmK c X nL (bs id) (ws id) < nL ∧ X (nmK c X nL (bs id) (ws id)) / 131072 = 2 → NM (5 * id + 2) = 1 ∧ NM (5 * id + 3) = W (nmK c X nL (bs id) (ws id))) ∧ (nmK c X nL (bs id) (ws id) < nL ∧ ¬ X (nmK c X nL (bs id) (ws id)) / 131072 = 2 → NM (5 * id + 2) = 2 ∧ NM (5 * id + 3) = nI (lam X (nmK c X nL (bs id) (ws id)))) ∧ (¬ nmK c X nL (bs id) (ws id) < nL → NM (5 * id + 2) = 0)
theorem lsF_0 {lo : Tp → Bool} {P : Nat → Tp} : ∀ m : Nat, lsF lo P m = false ↔ ∀ i : Nat, i < m → 16 ≤ (P i).1 → lo (P i) = false := fun m => by
  induction m with
  | zero => exact ⟨fun _ i hi => absurd hi (Nat.not_lt_zero i), fun _ => rfl⟩
  | succ m ih =>
    show (lsF lo P m || (decide (16 ≤ (P m).1) && lo (P m))) = false ↔ _
    rw [Bool.or_eq_false_iff, ih]
    constructor
    · intro h i hi h16
      by_cases z : i = m
      · subst z
        have := h.2
        rw [decide_eq_true h16, Bool.true_and] at this
        exact this
      · exact h.1 i (by omega) h16
    · intro h
      refine ⟨fun i hi => h i (by omega), ?_⟩
      by_cases z : 16 ≤ (P m).1
      · rw [decide_eq_true z, Bool.true_and]
        exact h m (by omega) z
      · rw [decide_eq_false z, Bool.false_and]
theorem fx_lo {NR : Nat → Int32} {c X : Nat → Nat} {e nL : Nat} {W C0 A0 : Nat → Int32} {s0 ns : Nat} {bs ws : Nat → Nat} {m : Nat} {P : Nat → Tp} {C A NM : Nat → Int32} (hC : CR NR c e C0 A0 s0 ns bs ws m P C A) (hN : NTB c X nL W ns NM bs ws) : fxQ c e bs ws NM ns m P ↔ lsF (loV c X e nL) P m = false := by
  rw [lsF_0]
  constructor
  · intro h i hi h16
    obtain ⟨h1, h2⟩ := h i hi
    obtain ⟨c1, a1, a2, a3, a4, a5⟩ := hC.2 i hi
    generalize P i = o at h1 h2 a1 a2 a3 a4 a5 h16
    obtain ⟨κ, q, v⟩ := o
    have h1 : ¬ (κ = 18 ∨ κ = 19 ∨ κ = 20) := h1
    have a5 : 1 ≤ κ ∧ κ ≤ 20 ∧ ¬ κ = 15 ∧ (κ = 19 ∨ κ = 20 → v ≤ 9) := a5
    have h16 : 16 ≤ κ := h16
    rcases (show κ = 16 ∨ κ = 17 by omega) with z | z
    · subst z; rfl
    · subst z
      obtain ⟨id, i1, i2, i3⟩ := h2 rfl
      have i2 : sW c (bs id) (ws id) q (eT c e q - q) := i2
      have kW := nk_W (X := X) (nL := nL) i2
      obtain ⟨t1, t2, t3⟩ := hN id i1
      rw [kW] at t1 t2 t3
      show (!(decide (nmK c X nL q (eT c e q - q) < nL) && decide (X (nmK c X nL q (eT c e q - q)) / 131072 = 2))) = false
      by_cases y : nmK c X nL q (eT c e q - q) < nL
      · by_cases w : X (nmK c X nL q (eT c e q - q)) / 131072 = 2
        · rw [decide_eq_true y, decide_eq_true w]; rfl
        · have := (t2 ⟨y, w⟩).1
          rw [i3] at this
          exact absurd this (by decide)
      · have := t3 y
        rw [i3] at this
        exact absurd this (by decide)
  · intro h i hi
    have hh := h i hi
    obtain ⟨c1, a1, a2, a3, a4, a5⟩ := hC.2 i hi
    generalize P i = o at hh a1 a2 a3 a4 a5
    obtain ⟨κ, q, v⟩ := o
    have hh : 16 ≤ κ → loV c X e nL (κ, q, v) = false := hh
    refine ⟨fun z => ?_, fun z => ?_⟩
    · have z : κ = 18 ∨ κ = 19 ∨ κ = 20 := z
      rcases z with z | z | z <;> subst z <;> exact absurd (show true = false from hh (by omega)) (by decide)
    · have z : κ = 17 := z
      subst z
      obtain ⟨id, i1, i2, i3⟩ := a2 rfl
      have i3 : sW c (bs id) (ws id) q (eT c e q - q) := i3
      refine ⟨id, i2, i3, ?_⟩
      have kW := nk_W (X := X) (nL := nL) i3
      obtain ⟨t1, t2, t3⟩ := hN id i2
      rw [kW] at t1
      have lv := hh (by omega)
      have lv : (!(decide (nmK c X nL q (eT c e q - q) < nL) && decide (X (nmK c X nL q (eT c e q - q)) / 131072 = 2))) = false := lv
      rw [Bool.not_eq_false', Bool.and_eq_true] at lv
      exact (t1 ⟨of_decide_eq_true lv.1, of_decide_eq_true lv.2⟩).1
/-- an expression that is fixed: its operands in the class -/
theorem evH_f {n : Nat} {B : St} {hr : Int32} {c X : Nat → Nat} {e nL st : Nat} {ts : Int32} {W NRp C0 A0 : Nat → Int32} {s0 ns m : Nat} {bs ws : Nat → Nat} {P : Nat → Tp} (hns : ns ≤ 16384) (hC : CR NRp c e C0 A0 s0 ns bs ws m P (sR B 0) (sR B 1)) (hN : NTB c X nL W ns (sR B 3) bs ws) (hl : lsF (loV c X e nL) P m = false) : evH n B hr (VV c X e nL st ts hr W) s0 m P := by
  intro i hi h16 tp tr S
  have hh := (lsF_0 m).mp hl i hi h16
  obtain ⟨c1, a1, a2, a3, a4, a5⟩ := hC.2 i hi
  rw [c1]
  generalize P i = o at hh a1 a2 a3 a4 a5 h16
  obtain ⟨κ, q, v⟩ := o
  have a5 : 1 ≤ κ ∧ κ ≤ 20 ∧ ¬ κ = 15 ∧ (κ = 19 ∨ κ = 20 → v ≤ 9) := a5
  have h16 : 16 ≤ κ := h16
  show df_X9_operand n (nI κ) (sR B 1 (s0 + i)) hr (vC B tp tr S) = _
  unfold df_X9_operand df_X9_operand_0
  rcases (show κ = 16 ∨ κ = 17 ∨ κ = 18 ∨ κ = 19 ∨ κ = 20 by omega) with z | z | z | z | z
  · subst z
    rw [if_pos (show nI 16 = (16 : Int32) from rfl), a1 rfl]
    rfl
  · subst z
    obtain ⟨id, e1, e2, e3⟩ := a2 rfl
    have e3 : sW c (bs id) (ws id) q (eT c e q - q) := e3
    have kW := nk_W (X := X) (nL := nL) e3
    obtain ⟨t1, t2, t3⟩ := hN id e2
    rw [kW] at t1 t2 t3
    rw [if_neg (show ¬ nI 17 = (16 : Int32) by decide), if_neg (show ¬ nI 17 = (18 : Int32) by decide), if_pos (show nI 17 = (17 : Int32) from rfl), e1, show nI id * (5 : Int32) = nI (5 * id) from (pk_mul id 5).trans (congrArg nI (Nat.mul_comm id 5)), show nI (5 * id) + (2 : Int32) = nI (5 * id + 2) from nI_add (5 * id) 2, show nI (5 * id) + (3 : Int32) = nI (5 * id + 3) from nI_add (5 * id) 3, nm_ck (by omega) (by omega), nI_clamp (by omega), vC_r3, nb_let, nm_ck (by omega) (by omega), nI_clamp (by omega), nm_ck (by omega) (by omega)]
    have ev : VV c X e nL st ts hr W (17, q, v) = if nmK c X nL q (eT c e q - q) < nL then (vlO ts X W (nmK c X nL q (eT c e q - q)), false) else (0, true) := rfl
    have hh : (!(decide (nmK c X nL q (eT c e q - q) < nL) && decide (X (nmK c X nL q (eT c e q - q)) / 131072 = 2))) = false := hh
    rw [Bool.not_eq_false', Bool.and_eq_true] at hh
    have y := of_decide_eq_true hh.1
    have w := of_decide_eq_true hh.2
    obtain ⟨u1, u2⟩ := t1 ⟨y, w⟩
    rw [ev, if_pos y]
    rw [u1, if_pos rfl, u2, show vlO ts X W (nmK c X nL q (eT c e q - q)) = W (nmK c X nL q (eT c e q - q)) from if_neg (by omega)]
    rfl
  all_goals (subst z; exact absurd hh (by decide : ¬ true = false))
/-- the same row of signs with the same values -/
theorem rn_v {V V' : Tp → Int32 × Bool} {P : Nat → Tp} : ∀ m : Nat, (∀ i : Nat, i < m → 16 ≤ (P i).1 → V (P i) = V' (P i)) → rnF V P m = rnF V' P m := fun m => by
  induction m with
  | zero => intro _; rfl
  | succ m ih =>
    intro h
    show stp V (P m) (rnF V P m) = stp V' (P m) (rnF V' P m)
    rw [ih (fun i hi => h i (by omega))]
    unfold stp
    by_cases y : 16 ≤ (P m).1
    · rw [if_pos y, if_pos y, h m (by omega) y]
    · rw [if_neg y, if_neg y]
theorem rn_ms {V : Tp → Int32 × Bool} {P : Nat → Tp} : ∀ m : Nat, (∀ i : Nat, i < m → 16 ≤ (P i).1 → (V (P i)).2 = false) → (rnF V P m).2.1 = false := fun m => by
  induction m with
  | zero => intro _; rfl
  | succ m ih =>
    intro h
    have i1 := ih (fun i hi => h i (by omega))
    show (stp V (P m) (rnF V P m)).2.1 = false
    unfold stp
    by_cases y : 16 ≤ (P m).1
    · rw [if_pos y]
      show ((rnF V P m).2.1 || (V (P m)).2) = false
      rw [i1, h m (by omega) y]; rfl
    · rw [if_neg y]
      by_cases z : 11 ≤ (P m).1
      · rw [if_pos z]; exact i1
      · rw [if_neg z]
        split
        · exact i1
        · exact i1
/-- how many values stand there does not depend on what they are -/
theorem rn_l {V V' : Tp → Int32 × Bool} {P : Nat → Tp} : ∀ m : Nat, (rnF V P m).1.length = (rnF V' P m).1.length := fun m => by
  induction m with
  | zero => rfl
  | succ m ih =>
    show (stp V (P m) (rnF V P m)).1.length = (stp V' (P m) (rnF V' P m)).1.length
    generalize rnF V P m = a at ih
    generalize rnF V' P m = b at ih
    obtain ⟨a1, a2⟩ := a
    obtain ⟨b1, b2⟩ := b
    have ih : a1.length = b1.length := ih
    unfold stp
    by_cases y : 16 ≤ (P m).1
    · rw [if_pos y, if_pos y]
      show a1.length + 1 = b1.length + 1
      rw [ih]
    · rw [if_neg y, if_neg y]
      by_cases z : 11 ≤ (P m).1
      · rw [if_pos z, if_pos z]
        cases a1 with
        | nil => cases b1 with
          | nil => rfl
          | cons u v => exact absurd ih (by show ¬ 0 = v.length + 1; omega)
        | cons s t => cases b1 with
          | nil => exact absurd ih (by show ¬ t.length + 1 = 0; omega)
          | cons u v => exact ih
      · rw [if_neg z, if_neg z]
        cases a1 with
        | nil => cases b1 with
          | nil => rfl
          | cons u v => exact absurd ih (by show ¬ 0 = v.length + 1; omega)
        | cons s t => cases b1 with
          | nil => exact absurd ih (by show ¬ t.length + 1 = 0; omega)
          | cons u v =>
            have ih : t.length + 1 = v.length + 1 := ih
            cases t with
            | nil => cases v with
              | nil => rfl
              | cons g h => exact absurd ih (by show ¬ 0 + 1 = h.length + 1 + 1; omega)
            | cons s' t' => cases v with
              | nil => exact absurd ih (by show ¬ t'.length + 1 + 1 = 0 + 1; omega)
              | cons g h =>
                show t'.length + 1 = h.length + 1
                have ih : t'.length + 1 + 1 = h.length + 1 + 1 := ih
                omega
/-- a row of signs that makes one value makes one for every valuation -/
def one (P : Nat → Tp) (m : Nat) : Prop := ∀ V : Tp → Int32 × Bool, rnF V P m = ([zV V P m], mV V P m, dV V P m)
theorem one_1 {V : Tp → Int32 × Bool} {P : Nat → Tp} {m : Nat} {z : Int32} {ms dv : Bool} (h : rnF V P m = ([z], ms, dv)) : one P m := fun V' => by
  have l := rn_l (V := V') (V' := V) (P := P) m
  rw [h] at l
  have l : (rnF V' P m).1.length = 1 := l
  unfold zV mV dV
  generalize rnF V' P m = a at l
  obtain ⟨a1, a2, a3⟩ := a
  have l : a1.length = 1 := l
  obtain ⟨v, hv⟩ := ls_i l
  subst hv
  rfl
/-- what a fixed expression may be: 5, 9, 6 are its faults -/
def fxR (fx : Bool) (z : Int32) (dv : Bool) (lo hi : Int32) : Nat := if fx = false then 5 else if dv = true then 9 else if z < lo ∨ hi < z then 6 else 0
theorem vC_u {BC : St} {cs tp st ns : Nat} {fx : Bool} {C A S NM BK : Nat → Int32} {p' κ q : Nat} {x : Int32} {tr : Int32} {S' : Nat → Int32} : vC (uC (xC BC cs tp st ns fx C A S NM BK) p' κ q x) 1 tr S' = uC (xC (pI BC 11 tr) cs 1 st ns fx C A S' NM BK) p' κ q x := Prod.ext (funext fun j => by
  unfold vC uC xC pI
  by_cases h6 : j = 6
  · subst h6; rfl
  · by_cases h11 : j = 11
    · subst h11; rfl
    · simp only [if_neg h6, if_neg h11]) (Prod.ext rfl (Prod.ext (funext fun j => by
  unfold vC uC xC pI
  by_cases h2 : j = 2
  · subst h2; rfl
  · simp only [if_neg h2]) rfl))
theorem fix_C {n : Nat} {B : St} {sn lu ln se co : Nat} {od : Int32} {SW LW : Nat → Int32} {BC : St} {cs tp st ns : Nat} {fx : Bool} {C A S NM BK : Nat → Int32} {p' κ q : Nat} {x : Int32} {c X : Nat → Nat} {e nL : Nat} {W NRp C0 A0 : Nat → Int32} {s0 m : Nat} {bs ws : Nat → Nat} {P : Nat → Tp} (hn : 70000 < n) (hns : ns ≤ 16384) (hC : CR NRp c e C0 A0 s0 ns bs ws m P C A) (h21 : C (s0 + m) = 21) (hm : s0 + m < cs) (hcs : cs ≤ 32832) (hN : NTB c X nL W ns NM bs ws) (hfx : fx = true ↔ fxQ c e bs ws NM ns m P) (ho : one P m) (sx : Nat) (ts : Int32) (lo hi : Int32) : ∃ (BC' : St) (tp' : Nat) (S' : Nat → Int32), (BC' = BC ∨ ∃ tr : Int32, BC' = pI BC 11 tr) ∧ df_X1_fixed n (nI s0) lo hi (qC B sn lu 0 ln se od co SW LW, uC (xC BC cs tp st ns fx C A S NM BK) p' κ q x) = some (if fxR fx (zV (VV c X e nL sx ts 0 W) P m) (dV (VV c X e nL sx ts 0 W) P m) lo hi = 0 then zV (VV c X e nL sx ts 0 W) P m else 0, (qC B sn lu (nI (fxR fx (zV (VV c X e nL sx ts 0 W) P m) (dV (VV c X e nL sx ts 0 W) P m) lo hi)) ln se od co SW LW, uC (xC BC' cs tp' st ns fx C A S' NM BK) p' κ q x)) := by
  unfold df_X1_fixed df_X1_fixed_0
  rw [if_pos (show sI (qC B sn lu 0 ln se od co SW LW, uC (xC BC cs tp st ns fx C A S NM BK) p' κ q x).1 2 = 0 from rfl), if_neg (show ¬ nI s0 < (0 : Int32) from znl (b := 0) (Nat.zero_le _) (by omega))]
  show ∃ (BC' : St) (tp' : Nat) (S' : Nat → Int32), _ ∧ (if bI fx = 0 then _ else _) = _
  cases fx with
  | false =>
    refine ⟨BC, tp, S, Or.inl rfl, ?_⟩
    rw [if_pos (show bI false = 0 from rfl)]
    unfold df_X1_fixed_23 df_X1_fixed_33
    rw [if_pos (show (0 : Int32) ≤ nI s0 from zle (a := 0) (Nat.zero_le _) (by omega)), blm_C, nb_b1]
    rfl
  | true =>
    rw [if_neg (show ¬ bI true = 0 by decide)]
    have hl := (fx_lo hC hN).mp (hfx.mp rfl)
    have eh := evH_f (n := n) (B := uC (xC BC cs tp st ns true C A S NM BK) p' κ q x) (hr := 0) (st := sx) (ts := ts) hns hC hN hl
    have ms : mV (VV c X e nL sx ts 0 W) P m = false := by
      refine rn_ms m (fun i hi h16 => ?_)
      have hh := (lsF_0 m).mp hl i hi h16
      have cp := CR_P hC i hi
      generalize P i = o at hh cp h16
      obtain ⟨κ, q, v⟩ := o
      have h16 : 16 ≤ κ := h16
      have cp : 1 ≤ κ ∧ κ ≤ 20 ∧ ¬ κ = 15 := cp
      rcases (show κ = 16 ∨ κ = 17 ∨ κ = 18 ∨ κ = 19 ∨ κ = 20 by omega) with z | z | z | z | z
      · subst z; rfl
      · subst z
        have hh : (!(decide (nmK c X nL q (eT c e q - q) < nL) && decide (X (nmK c X nL q (eT c e q - q)) / 131072 = 2))) = false := hh
        rw [Bool.not_eq_false', Bool.and_eq_true] at hh
        have y := of_decide_eq_true hh.1
        show (if nmK c X nL q (eT c e q - q) < nL then (vlO ts X W (nmK c X nL q (eT c e q - q)), false) else ((0 : Int32), true)).2 = false
        rw [if_pos y]
      all_goals (subst z; exact absurd hh (by decide : ¬ true = false))
    obtain ⟨S', e1⟩ := evl_all hn eh (fun i hi => (hC.2 i hi).1) (CR_P hC) (cs := cs) xC_u5 hcs hm h21 _ _ _ (ho _)
    rw [ms] at e1
    refine ⟨pI BC 11 (trO false (dV (VV c X e nL sx ts 0 W) P m)), 1, S', Or.inr ⟨_, rfl⟩, ?_⟩
    rw [show df_X9_evaluate n (nI s0) 0 (qC B sn lu 0 ln se od co SW LW, uC (xC BC cs tp st ns true C A S NM BK) p' κ q x).2 = _ from e1, nb_b2, vC_u, nb_let]
    generalize zV (VV c X e nL sx ts 0 W) P m = z
    cases dV (VV c X e nL sx ts 0 W) P m with
    | true =>
      rw [if_neg (show ¬ sI (qC B sn lu 0 ln se od co SW LW, uC (xC (pI BC 11 (trO false true)) cs 1 st ns true C A S' NM BK) p' κ q x).2 11 = 0 from (by decide : ¬ (9 : Int32) = 0))]
      unfold df_X1_fixed_71 df_X1_fixed_94
      rw [if_neg (show ¬ sI (qC B sn lu 0 ln se od co SW LW, uC (xC (pI BC 11 (trO false true)) cs 1 st ns true C A S' NM BK) p' κ q x).2 11 = 0 from (by decide : ¬ (9 : Int32) = 0))]
      rw [blm_C, nb_b1]
      rfl
    | false =>
      rw [if_pos (show sI (qC B sn lu 0 ln se od co SW LW, uC (xC (pI BC 11 (trO false false)) cs 1 st ns true C A S' NM BK) p' κ q x).2 11 = 0 from rfl)]
      unfold df_X1_fixed_71 df_X1_fixed_94 fxR
      rw [if_pos (show sI (qC B sn lu 0 ln se od co SW LW, uC (xC (pI BC 11 (trO false false)) cs 1 st ns true C A S' NM BK) p' κ q x).2 11 = 0 from rfl), blm_C, nb_b1, if_neg (show ¬ true = false by decide), if_neg (show ¬ false = true by decide)]
      by_cases a1 : z < lo
      · rw [if_pos a1, if_pos (Or.inl a1), if_neg (show ¬ (6 : Nat) = 0 by decide)]; rfl
      · rw [if_neg a1]
        by_cases a2 : hi < z
        · rw [if_neg (show ¬ z ≤ hi from Int32.not_le.mpr a2), if_pos (Or.inr a2), if_neg (show ¬ (6 : Nat) = 0 by decide)]; rfl
        · rw [if_pos (show z ≤ hi from Int32.not_lt.mp a2), if_neg (show ¬ (z < lo ∨ hi < z) from fun w => by rcases w with w | w; exact a1 w; exact a2 w), if_pos rfl]; rfl
/-- the same in the reference -/
theorem fix_R {n L e : Nat} {c : Nat → Nat} {BC B : St} {X : Nat → Nat} {nL st cu : Nat} (hV : RV n L e c BC B X nL cu) {ct : Nat} {gr : Bool} {PA BY OU : Nat → Int32} (hY : PY PA cu st) {p : Nat} {S : St} (h : SR B ct gr PA BY OU 0 p S) (hm : sI B 15 = 0) {p2 m : Nat} {P : Nat → Tp} (R : RX n L e c BC p true p2 m P) (lo hi : Int32) : ∃ (w : Int32) (S' : St), df_X13_fixed n lo hi S = some (w, S') ∧ p2 ≤ e ∧ w = zV (VW c X e nL st B) P m ∧ (fxR (!lsF (loV c X e nL) P m) w (dV (VW c X e nL st B) P m) lo hi = 0 → SR B ct gr PA BY OU 0 p2 S') ∧ (¬ fxR (!lsF (loV c X e nL) P m) w (dV (VW c X e nL st B) P m) lo hi = 0 → FL e B (nI (fxR (!lsF (loV c X e nL) P m) w (dV (VW c X e nL st B) P m) lo hi) + 16 * sI B 13) S') ∧ one P m := by
  obtain ⟨w, S1, ms, dv, e1, e2, e3, e4, e5, e6, e7⟩ := exp_y hV hY h R
  have x0 : exF B ms dv = 0 := if_neg (fun z => by have := z.1; rw [hm] at this; exact absurd this (by decide))
  rw [x0] at e2
  obtain ⟨z1, z2, z3⟩ := zmd e6
  have o1 := one_1 e6
  rw [← z3]
  have hd : df_X13_fixed n lo hi S = (if bI (lsF (loV c X e nL) P m) = 0 then (if bI dv = 0 then (if w < lo then df_X13_fixed_60 n w S1 else (if w ≤ hi then df_X13_fixed_66 n w S1 else df_X13_fixed_60 n w S1)) else nd_b1 (df_X13_blame n 9 S1) (fun (s : St) => df_X13_fixed_66 n w s)) else nd_b1 (df_X13_blame n 5 S1) (fun (s : St) => df_X13_fixed_66 n w s)) := by
    unfold df_X13_fixed df_X13_fixed_0
    rw [e1, nb_b2, if_pos ((SR_15 e2).trans hm), if_pos (SR_12 e2), e7, e5]
  have bad : ∀ f : Nat, (∃ S2 : St, df_X13_blame n (nI f) S1 = some S2 ∧ SR B ct gr PA BY OU (nI f + 16 * sI B 13) p2 S2) := fun f => blm_S (n := n) e2 (nI f)
  generalize lsF (loV c X e nL) P m = lb at hd ⊢
  cases lb with
  | true =>
    obtain ⟨S2, b1, b2⟩ := bad 5
    have b1 : df_X13_blame n 5 S1 = some S2 := b1
    refine ⟨w, S2, ?_, e3, z1, fun u => absurd (show (5 : Nat) = 0 from u) (by decide), fun _ => SR_FL b2 e3, o1⟩
    rw [hd, if_neg (show ¬ bI true = 0 by decide), b1, nb_b1]
    rfl
  | false =>
    rw [if_pos (show bI false = 0 from rfl)] at hd
    cases dv with
    | true =>
      obtain ⟨S2, b1, b2⟩ := bad 9
      have b1 : df_X13_blame n 9 S1 = some S2 := b1
      refine ⟨w, S2, ?_, e3, z1, fun u => absurd (show (9 : Nat) = 0 from u) (by decide), fun _ => SR_FL b2 e3, o1⟩
      rw [hd, if_neg (show ¬ bI true = 0 by decide), b1, nb_b1]
      rfl
    | false =>
      rw [if_pos (show bI false = 0 from rfl)] at hd
      obtain ⟨S2, b1, b2⟩ := bad 6
      have b1 : df_X13_blame n 6 S1 = some S2 := b1
      have s60 : df_X13_fixed_60 n w S1 = some (w, S2) := by
        unfold df_X13_fixed_60 df_X13_fixed_66
        rw [b1, nb_b1]
      have fx : fxR (!false) w false lo hi = if w < lo ∨ hi < w then 6 else 0 := rfl
      by_cases a1 : w < lo
      · refine ⟨w, S2, ?_, e3, z1, fun u => ?_, fun _ => ?_, o1⟩
        · rw [hd, if_pos a1, s60]
        · rw [fx, if_pos (Or.inl a1)] at u; exact absurd u (by decide)
        · rw [fx, if_pos (Or.inl a1)]; exact SR_FL b2 e3
      · by_cases a2 : hi < w
        · refine ⟨w, S2, ?_, e3, z1, fun u => ?_, fun _ => ?_, o1⟩
          · rw [hd, if_neg a1, if_neg (show ¬ w ≤ hi from Int32.not_le.mpr a2), s60]
          · rw [fx, if_pos (Or.inr a2)] at u; exact absurd u (by decide)
          · rw [fx, if_pos (Or.inr a2)]; exact SR_FL b2 e3
        · refine ⟨w, S1, ?_, e3, z1, fun _ => e2, fun u => ?_, o1⟩
          · rw [hd, if_neg a1, if_pos (show w ≤ hi from Int32.not_lt.mp a2)]
            rfl
          · rw [fx, if_neg (fun z => by rcases z with z | z; exact a1 z; exact a2 z)] at u; exact absurd rfl u
theorem fix_f {n L e : Nat} {c : Nat → Nat} {BC B : St} {X : Nat → Nat} {nL st cu : Nat} (hV : RV n L e c BC B X nL cu) {ct : Nat} {gr : Bool} {PA BY OU : Nat → Int32} (hY : PY PA cu st) {p : Nat} {S : St} (h : SR B ct gr PA BY OU 0 p S) {p2 m : Nat} {P : Nat → Tp} (R : RX n L e c BC p false p2 m P) (lo hi : Int32) : ∃ (w : Int32) (S' : St), df_X13_fixed n lo hi S = some (w, S') ∧ FL e B (nI 1 + 16 * sI B 13) S' := by
  obtain ⟨w, S1, e1, fl⟩ := exp_n hV hY h R
  have ne : ¬ nI 1 + 16 * sI B 13 = 0 := flt_n hV.2.2.2.2.2.2.2 1 (by omega)
  have fl : FL e B (nI 1 + 16 * sI B 13) S1 := fl
  refine ⟨w, S1, ?_, fl⟩
  unfold df_X13_fixed df_X13_fixed_0 df_X13_fixed_66
  rw [e1, nb_b2, if_neg (show ¬ sI S1 12 = 0 by rw [(FL_f fl).1]; exact ne)]
  split <;> rfl
theorem fix_M {n L e : Nat} {c : Nat → Nat} {BC B : St} {X : Nat → Nat} {nL st cu : Nat} (hV : RV n L e c BC B X nL cu) {ct : Nat} {gr : Bool} {PA BY OU : Nat → Int32} (hY : PY PA cu st) {p : Nat} {S : St} (h : SR B ct gr PA BY OU 0 p S) (hm : ¬ sI B 15 = 0) {p2 m : Nat} {P : Nat → Tp} (R : RX n L e c BC p true p2 m P) (lo hi : Int32) : ∃ S' : St, df_X13_fixed n lo hi S = some (zV (VW c X e nL st B) P m, S') ∧ p2 ≤ e ∧ SR B ct gr PA BY OU (exF B (mV (VW c X e nL st B) P m) (dV (VW c X e nL st B) P m)) p2 S' := by
  obtain ⟨w, S1, ms, dv, e1, e2, e3, e4, e5, e6, e7⟩ := exp_y hV hY h R
  obtain ⟨z1, z2, z3⟩ := zmd e6
  rw [z2, z3] at e2
  rw [z1] at e1
  refine ⟨S1, ?_, e3, e2⟩
  unfold df_X13_fixed df_X13_fixed_0 df_X13_fixed_66
  rw [e1, nb_b2, if_neg (by rw [SR_15 e2]; exact hm)]

/-- two words that are alike a third one -/
theorem alk_t {c : Nat → Nat} {q l o : Nat} : alk c q l o = true ↔ (∀ t : Nat, t < l → c (o + t) = c (q + t)) ∧ aP (c (o + l)) = false := by
  unfold alk
  rw [Bool.and_eq_true, decide_eq_true_eq, Bool.not_eq_true']
theorem alk_u {c : Nat → Nat} {q l q' l' o : Nat} (h : alk c q l o = true) (h' : alk c q' l' o = true) (a : ∀ t : Nat, t < l → aP (c (q + t)) = true) (a' : ∀ t : Nat, t < l' → aP (c (q' + t)) = true) : sW c q l q' l' := by
  obtain ⟨h1, h2⟩ := alk_t.mp h
  obtain ⟨k1, k2⟩ := alk_t.mp h'
  have e : l = l' := by
    by_cases y : l < l'
    · have := k1 l y
      rw [this, a' l y] at h2
      exact absurd h2 (by decide)
    · by_cases z : l' < l
      · have := h1 l' z
        rw [this, a l' z] at k2
        exact absurd k2 (by decide)
      · omega
  subst e
  exact ⟨rfl, fun t ht => (h1 t ht).symm.trans (k1 t ht)⟩
theorem alk_s {c : Nat → Nat} {q l o l' : Nat} (h : sW c q l o l') (hz : aP (c (o + l')) = false) : alk c q l o = true := by
  obtain ⟨h1, h2⟩ := h
  subst h1
  exact alk_t.mpr ⟨fun t ht => (h2 t ht).symm, hz⟩
theorem nmK_y {c X : Nat → Nat} {nL q l : Nat} (h : nmK c X nL q l < nL) : ¬ reS l (c q) (c (q + 1)) (c (q + 2)) (c (q + 3)) < 32 ∧ nmK c X nL q l = fN (fiP c X q l) 0 nL ∧ X (nmK c X nL q l) / 131072 < 3 ∧ alk c q l (X (nmK c X nL q l) % 131072) = true := by
  have r : ¬ reS l (c q) (c (q + 1)) (c (q + 2)) (c (q + 3)) < 32 := fun z => by
    unfold nmK at h
    rw [if_pos z] at h
    omega
  have e : nmK c X nL q l = fN (fiP c X q l) 0 nL := if_neg r
  refine ⟨r, e, ?_⟩
  rw [e] at h ⊢
  have := (fN_le (fiP c X q l) nL 0).2.2.1 (by omega)
  unfold fiP at this
  rw [Bool.and_eq_true, decide_eq_true_eq] at this
  exact this
theorem nmK_l {c X : Nat → Nat} {nL q l : Nat} : nmK c X nL q l ≤ nL := by
  unfold nmK
  split
  · omega
  · have := (fN_le (fiP c X q l) nL 0).2.1
    omega
/-- each word of the reference's table has its number in the class -/
def IDX (c X : Nat → Nat) (nL ns : Nat) (bs ws : Nat → Nat) : Prop := ∀ k : Nat, k < nL → X k / 131072 < 3 → ∃ id : Nat, id < ns ∧ alk c (bs id) (ws id) (X k % 131072) = true
theorem IDX_n {c X : Nat → Nat} {nL ns ns' : Nat} {NM NM' : Nat → Int32} {bs ws bs' ws' : Nat → Nat} (h : IDX c X nL ns bs ws) (hp : PS ns NM bs ws ns' NM' bs' ws') : IDX c X nL ns' bs' ws' := fun k hk hc => by
  obtain ⟨id, h1, h2⟩ := h k hk hc
  have p0 := hp.1
  obtain ⟨b1, b2, _⟩ := hp.2.1 id h1
  exact ⟨id, by omega, by rw [b1, b2]; exact h2⟩
/-- names that are new mean nothing yet -/
theorem NTB_n {L : Nat} {c X : Nat → Nat} {nL : Nat} {W : Nat → Int32} {ns ns' : Nat} {NM NM' BK' : Nat → Int32} {bs ws bs' ws' : Nat → Nat} (h : NTB c X nL W ns NM bs ws) (hI : IDX c X nL ns bs ws) (hp : PS ns NM bs ws ns' NM' bs' ws') (hH : HT L c ns' NM' BK' bs' ws') : NTB c X nL W ns' NM' bs' ws' := fun id hid => by
  have p0 := hp.1
  by_cases y : id < ns
  · obtain ⟨b1, b2, b3, b4⟩ := hp.2.1 id y
    rw [b1, b2, b3, b4]
    exact h id y
  · have nf : ¬ nmK c X nL (bs' id) (ws' id) < nL := fun z => by
      obtain ⟨k1, k2, k3, k4⟩ := nmK_y z
      obtain ⟨id0, i1, i2⟩ := hI _ z k3
      obtain ⟨b1, b2, _⟩ := hp.2.1 id0 i1
      rw [← b1, ← b2] at i2
      have e := hH.2.2.2.1 id0 id (by omega) hid (alk_u i2 k4 (hH.2.2.2.2 id0 (by omega)) (hH.2.2.2.2 id hid))
      omega
    exact ⟨fun z => absurd z.1 nf, fun z => absurd z.1 nf, fun _ => hp.2.2 id (by omega) hid⟩
/-- a word gets its meaning in both: κ its kind, 0, 1 a label, 2 a constant -/
theorem NTB_d {L : Nat} {c X Y : Nat → Nat} {nL : Nat} {W W' : Nat → Int32} {ns : Nat} {NM BK : Nat → Int32} {bs ws : Nat → Nat} (h : NTB c X nL W ns NM bs ws) (hH : HT L c ns NM BK bs ws) {q l κ : Nat} (hY : ∀ k : Nat, k < nL → Y k = X k) (hYn : Y nL = κ * 131072 + q) (hq : q < 131072) (hκ : κ < 3) (hW : ∀ k : Nat, k < nL → W' k = W k) (hz : aP (c (q + l)) = false) (hr : ¬ reS l (c q) (c (q + 1)) (c (q + 2)) (c (q + 3)) < 32) (hn : ¬ nmK c X nL q l < nL) {id : Nat} (hid : id < ns) (hs : sW c (bs id) (ws id) q l) (v w : Int32) (hv : v = if κ = 2 then 1 else 2) (hw : w = if κ = 2 then W' nL else nI (lam X nL)) : NTB c Y (nL + 1) W' ns (upd (upd NM (5 * id + 2) v) (5 * id + 3) w) bs ws := fun j hj => by
  have yk : Y nL / 131072 = κ := by rw [hYn]; omega
  have ym : Y nL % 131072 = q := by rw [hYn]; omega
  have ka := nk_a (c := c) (b := bs j) (l := ws j) hY
  have kid := nk_W (X := X) (nL := nL) hs
  have fi : fiP c Y (bs j) (ws j) nL = alk c (bs j) (ws j) q := by
    unfold fiP
    rw [yk, ym, decide_eq_true hκ, Bool.true_and]
  have rid : reS (ws id) (c (bs id)) (c (bs id + 1)) (c (bs id + 2)) (c (bs id + 3)) = reS l (c q) (c (q + 1)) (c (q + 2)) (c (q + 3)) := by
    obtain ⟨h1, h2⟩ := hs
    subst h1
    exact re_c (fun z => h2 0 z) (fun z => h2 1 z) (fun z => h2 2 z) (fun z => h2 3 z)
  have ne : ¬ j = id → upd (upd NM (5 * id + 2) v) (5 * id + 3) w (5 * j + 2) = NM (5 * j + 2) ∧ upd (upd NM (5 * id + 2) v) (5 * id + 3) w (5 * j + 3) = NM (5 * j + 3) := fun z => ⟨by rw [up_n (by omega), up_n (by omega)], by rw [up_n (by omega), up_n (by omega)]⟩
  have old := h j hj
  have lc : ∀ k : Nat, k ≤ nL → lam Y k = lam X k := fun k hk => lam_c k (fun i hi => hY i (by omega))
  by_cases r : reS (ws j) (c (bs j)) (c (bs j + 1)) (c (bs j + 2)) (c (bs j + 3)) < 32
  · rw [if_pos r] at ka
    have nj : ¬ j = id := fun z => by subst z; rw [rid] at r; exact hr r
    have ok : nmK c X nL (bs j) (ws j) = nL := if_pos r
    rw [ok] at old
    rw [ka, (ne nj).1]
    exact ⟨fun z => absurd z.1 (Nat.lt_irrefl _), fun z => absurd z.1 (Nat.lt_irrefl _), fun _ => old.2.2 (Nat.lt_irrefl _)⟩
  · rw [if_neg r] at ka
    by_cases k : nmK c X nL (bs j) (ws j) < nL
    · rw [if_pos k] at ka
      have nj : ¬ j = id := fun z => by subst z; rw [kid] at k; exact hn k
      rw [ka, (ne nj).1, (ne nj).2, hY _ k, hW _ k, lc _ (by omega)]
      exact ⟨fun z => old.1 ⟨k, z.2⟩, fun z => old.2.1 ⟨k, z.2⟩, fun z => absurd (show nmK c X nL (bs j) (ws j) < nL + 1 by omega) z⟩
    · rw [if_neg k, fi] at ka
      by_cases a : alk c (bs j) (ws j) q = true
      · rw [if_pos a] at ka
        have e : j = id := hH.2.2.2.1 j id hj hid (alk_u a (alk_s hs hz) (hH.2.2.2.2 j hj) (hH.2.2.2.2 id hid))
        subst e
        rw [ka, yk, up_n (show ¬ 5 * j + 2 = 5 * j + 3 by omega), up_e, up_e, lc _ (Nat.le_refl _)]
        refine ⟨fun z => ?_, fun z => ?_, fun z => absurd (Nat.lt_succ_self nL) z⟩
        · rw [hv, hw, if_pos z.2, if_pos z.2]; exact ⟨rfl, rfl⟩
        · rw [hv, hw, if_neg z.2, if_neg z.2]; exact ⟨rfl, rfl⟩
      · rw [if_neg a] at ka
        have nj : ¬ j = id := fun z => by subst z; exact a (alk_s hs hz)
        rw [ka, (ne nj).1]
        exact ⟨fun z => absurd z.1 (Nat.lt_irrefl _), fun z => absurd z.1 (Nat.lt_irrefl _), fun _ => old.2.2 k⟩
theorem IDX_d {c X Y : Nat → Nat} {nL ns : Nat} {bs ws : Nat → Nat} (h : IDX c X nL ns bs ws) {q l κ : Nat} (hY : ∀ k : Nat, k < nL → Y k = X k) (hYn : Y nL = κ * 131072 + q) (hq : q < 131072) (hz : aP (c (q + l)) = false) {id : Nat} (hid : id < ns) (hs : sW c (bs id) (ws id) q l) : IDX c Y (nL + 1) ns bs ws := fun k hk hc => by
  by_cases y : k < nL
  · rw [hY k y] at hc ⊢
    exact h k y hc
  · have e : k = nL := by omega
    subst e
    refine ⟨id, hid, ?_⟩
    rw [hYn, show (κ * 131072 + q) % 131072 = q by omega]
    exact alk_s hs hz
/-- a digit's label is no word -/
theorem NTB_g {c X Y : Nat → Nat} {nL : Nat} {W W' : Nat → Int32} {ns : Nat} {NM : Nat → Int32} {bs ws : Nat → Nat} (h : NTB c X nL W ns NM bs ws) (hY : ∀ k : Nat, k < nL → Y k = X k) (hYn : 3 ≤ Y nL / 131072) (hW : ∀ k : Nat, k < nL → W' k = W k) : NTB c Y (nL + 1) W' ns NM bs ws := fun j hj => by
  have ka := nk_a (c := c) (b := bs j) (l := ws j) hY
  have fi : fiP c Y (bs j) (ws j) nL = false := by
    unfold fiP
    rw [decide_eq_false (by omega), Bool.false_and]
  have old := h j hj
  have lc : ∀ k : Nat, k ≤ nL → lam Y k = lam X k := fun k hk => lam_c k (fun i hi => hY i (by omega))
  rw [fi, if_neg (show ¬ false = true from Bool.false_ne_true)] at ka
  by_cases k : nmK c X nL (bs j) (ws j) < nL
  · obtain ⟨k1, _⟩ := nmK_y k
    rw [if_neg k1, if_pos k] at ka
    rw [ka, hY _ k, hW _ k, lc _ (by omega)]
    exact ⟨fun z => old.1 ⟨k, z.2⟩, fun z => old.2.1 ⟨k, z.2⟩, fun z => absurd (show nmK c X nL (bs j) (ws j) < nL + 1 by omega) z⟩
  · have e : nmK c Y (nL + 1) (bs j) (ws j) = nL + 1 := by
      rw [ka]
      split
      · rfl
      · first | rfl | rw [if_neg k]
    rw [e]
    exact ⟨fun z => absurd z.1 (Nat.lt_irrefl _), fun z => absurd z.1 (Nat.lt_irrefl _), fun _ => old.2.2 k⟩
theorem IDX_g {c X Y : Nat → Nat} {nL ns : Nat} {bs ws : Nat → Nat} (h : IDX c X nL ns bs ws) (hY : ∀ k : Nat, k < nL → Y k = X k) (hYn : 3 ≤ Y nL / 131072) : IDX c Y (nL + 1) ns bs ws := fun k hk hc => by
  by_cases y : k < nL
  · rw [hY k y] at hc ⊢
    exact h k y hc
  · have e : k = nL := by omega
    subst e
    omega
/-- a fixed row is worth the same in a table that has grown -/
theorem nmK_g {c X X0 : Nat → Nat} {nL n0 q l : Nat} (hn : n0 ≤ nL) (hX : ∀ k : Nat, k < n0 → X k = X0 k) (h : nmK c X0 n0 q l < n0) : nmK c X nL q l = nmK c X0 n0 q l := by
  obtain ⟨h1, h2, h3, h4⟩ := nmK_y h
  have e : nmK c X nL q l = fN (fiP c X q l) 0 nL := if_neg h1
  rw [e]
  refine fN_is (Nat.zero_le _) (by omega) ?_ (fun i _ hi => ?_)
  · unfold fiP
    rw [hX _ h, decide_eq_true h3, h4]; rfl
  · have hi0 : i < fN (fiP c X0 q l) 0 n0 := by rw [← h2]; exact hi
    have := (fN_le (fiP c X0 q l) n0 0).2.2.2 i (Nat.zero_le _) hi0
    unfold fiP at this ⊢
    rw [hX i (by omega)]
    exact this
theorem fix_V {c X X0 : Nat → Nat} {e nL n0 st st0 : Nat} {ts ts0 ad ad0 : Int32} {W0 : Nat → Int32} {B : St} {P : Nat → Tp} {m : Nat} (hl : lsF (loV c X0 e n0) P m = false) (hE : tbE X0 W0 n0 X nL B) (hc : ∀ i : Nat, i < m → 1 ≤ (P i).1 ∧ (P i).1 ≤ 20 ∧ ¬ (P i).1 = 15) : rnF (VV c X e nL st ts ad (sR B 7)) P m = rnF (VV c X0 e n0 st0 ts0 ad0 W0) P m := by
  obtain ⟨E1, E2, E3⟩ := hE
  refine rn_v m (fun i hi h16 => ?_)
  have hh := (lsF_0 m).mp hl i hi h16
  have cp := hc i hi
  generalize P i = o at hh cp h16
  obtain ⟨κ, q, v⟩ := o
  have h16 : 16 ≤ κ := h16
  have cp : 1 ≤ κ ∧ κ ≤ 20 ∧ ¬ κ = 15 := cp
  rcases (show κ = 16 ∨ κ = 17 ∨ κ = 18 ∨ κ = 19 ∨ κ = 20 by omega) with z | z | z | z | z
  · subst z; rfl
  · subst z
    have hh : (!(decide (nmK c X0 n0 q (eT c e q - q) < n0) && decide (X0 (nmK c X0 n0 q (eT c e q - q)) / 131072 = 2))) = false := hh
    rw [Bool.not_eq_false', Bool.and_eq_true] at hh
    have y := of_decide_eq_true hh.1
    have w := of_decide_eq_true hh.2
    have g := nmK_g (c := c) (q := q) (l := eT c e q - q) E1 E2 y
    show (if nmK c X nL q (eT c e q - q) < nL then (vlO ts X (sR B 7) (nmK c X nL q (eT c e q - q)), false) else ((0 : Int32), true)) = (if nmK c X0 n0 q (eT c e q - q) < n0 then (vlO ts0 X0 W0 (nmK c X0 n0 q (eT c e q - q)), false) else ((0 : Int32), true))
    rw [g, if_pos (show nmK c X0 n0 q (eT c e q - q) < nL by omega), if_pos y]
    unfold vlO
    rw [E2 _ y, if_neg (show ¬ (X0 (nmK c X0 n0 q (eT c e q - q)) / 131072 = 1 ∨ X0 (nmK c X0 n0 q (eT c e q - q)) / 131072 = 4) by omega), if_neg (show ¬ (X0 (nmK c X0 n0 q (eT c e q - q)) / 131072 = 1 ∨ X0 (nmK c X0 n0 q (eT c e q - q)) / 131072 = 4) by omega), E3 _ y w]
  all_goals (subst z; exact absurd hh (by decide : ¬ true = false))

/-- la and li: their bytes in the reference -/
def laL (r : Nat) (v : Int32) : List Int32 := by4 ((23 ||| nI r <<< ((7 : Int32) &&& 31)) ||| hiO v <<< ((12 : Int32) &&& 31)) ++ by4 (((19 ||| nI r <<< ((7 : Int32) &&& 31)) ||| nI r <<< ((15 : Int32) &&& 31)) ||| loO v <<< ((20 : Int32) &&& 31))
theorem la_94 {n : Nat} {B : St} {ct : Nat} {gr : Bool} {PA BY OU : Nat → Int32} {ft : Int32} {ap : Nat} {S : St} (h : SR B ct gr PA BY OU ft ap S) (hw : OKW B (ct + 8)) (r : Nat) (v : Int32) : ∃ S' : St, df_X13_others_94 n 38 (nI r) v S = some S' ∧ SR B (ct + 8) gr PA BY (pt B ct OU (laL r v)) ft ap S' := by
  obtain ⟨S1, e1, h1⟩ := wor_S (n := n) h (OKW_m hw (by omega)) ((23 ||| nI r <<< ((7 : Int32) &&& 31)) ||| hiO v <<< ((12 : Int32) &&& 31))
  obtain ⟨S2, e2, h2⟩ := wor_S (n := n) h1 (OKW_m hw (by omega)) (((19 ||| nI r <<< ((7 : Int32) &&& 31)) ||| nI r <<< ((15 : Int32) &&& 31)) ||| loO v <<< ((20 : Int32) &&& 31))
  refine ⟨S2, ?_, ?_⟩
  · unfold df_X13_others_94
    rw [nb_let, nb_let, if_pos rfl, show ((v + 2048).toUInt32 >>> ((12 : Int32).toUInt32 &&& Int32.toUInt32 31)).toInt32 = hiO v from rfl, show (v <<< ((20 : Int32) &&& 31)) >>> ((20 : Int32) &&& 31) = loO v from rfl, e1, nb_b1]
    unfold df_X13_others_215 df_X13_others_242 df_X13_others_264 df_X13_others_321
    rw [if_pos rfl, e2, nb_b1, if_neg (by decide)]
  · rw [show pt B (ct + 4) (pt B ct OU (by4 ((23 ||| nI r <<< ((7 : Int32) &&& 31)) ||| hiO v <<< ((12 : Int32) &&& 31)))) (by4 (((19 ||| nI r <<< ((7 : Int32) &&& 31)) ||| nI r <<< ((15 : Int32) &&& 31)) ||| loO v <<< ((20 : Int32) &&& 31))) = pt B ct OU (laL r v) from pt_a (by4 _) _] at h2
    exact h2
theorem la_94F {n e : Nat} {B : St} {ft : Int32} {S : St} (h : FL e B ft S) (m3 : ¬ sI B 15 = 3) (x v : Int32) : ∃ S' : St, df_X13_others_94 n 38 x v S = some S' ∧ FL e B ft S' := by
  obtain ⟨S1, e1, h1⟩ := wor_F (n := n) h m3 ((23 ||| x <<< ((7 : Int32) &&& 31)) ||| hiO v <<< ((12 : Int32) &&& 31))
  obtain ⟨S2, e2, h2⟩ := wor_F (n := n) h1 m3 (((19 ||| x <<< ((7 : Int32) &&& 31)) ||| x <<< ((15 : Int32) &&& 31)) ||| loO v <<< ((20 : Int32) &&& 31))
  refine ⟨S2, ?_, h2⟩
  unfold df_X13_others_94
  rw [nb_let, nb_let, if_pos rfl, show ((v + 2048).toUInt32 >>> ((12 : Int32).toUInt32 &&& Int32.toUInt32 31)).toInt32 = hiO v from rfl, show (v <<< ((20 : Int32) &&& 31)) >>> ((20 : Int32) &&& 31) = loO v from rfl, e1, nb_b1]
  unfold df_X13_others_215 df_X13_others_242 df_X13_others_264 df_X13_others_321
  rw [if_pos rfl, e2, nb_b1, if_neg (by decide)]
theorem wiF_t {B : St} (h : ∃ ln : Nat, sI B 13 = nI ln ∧ ln ≤ 40000) {ms dv : Bool} : wiF B ms dv true = exF B ms dv := by
  by_cases y : exF B ms dv = 0
  · rw [wiF_o h y, y, if_neg (fun u => nomatch u.2)]
  · exact wiF_e h y
/-- la in the reference -/
theorem la_R {n L e : Nat} {c : Nat → Nat} {BC B : St} {X : Nat → Nat} {nL st cu : Nat} (hV : RV n L e c BC B X nL cu) {ct : Nat} {gr : Bool} {PA BY OU : Nat → Int32} (hY : PY PA cu st) {p : Nat} {S : St} (h : SR B ct gr PA BY OU 0 p S) (hw : OKW B (ct + 8)) (w : Int32) {f p2 : Nat} {rs : List Nat} {m : Nat} {P : Nat → Tp} (h0 : ¬ f = 0 → sI B 15 = 0) (hTr : Tr n L e c BC [100, 44, 65] p f p2 rs m P) : ∃ S' : St, df_X13_others n 38 w S = some S' ∧ (¬ f = 0 → FL e B (nI f + 16 * sI B 13) S') ∧ (f = 0 → ∃ (r : Nat) (z : Int32) (ms dv : Bool), rs = [r] ∧ r < 32 ∧ p2 ≤ e ∧ rnF (VW c X e nL st B) P m = ([z], ms, dv) ∧ PLO e B ct gr PA BY OU p2 (wiF B ms dv true) (laL r (z - sI B 17)) S') := by
  have hT := hV.1
  have hl := hV.2.2.2.2.2.2.2
  have d33 : ¬ (38 : Int32) = 33 := by decide
  have d39 : ¬ (38 : Int32) = 39 := by decide
  have le33 : (33 : Int32) ≤ 38 := by decide
  obtain ⟨q1, p1, κ1, τ1, v1, x1, T1, hTr⟩ := hTr
  rw [if_neg (by decide), if_pos (by decide)] at hTr
  rcases hTr with ⟨g1, r1, rs1, rfl, hTr⟩ | hF
  rotate_left
  · have hF2 : (tkG c τ1 q1 p1 = 33 ∧ f = 1) ∨ (tkG c τ1 q1 p1 = 32 ∧ f = 3) := by
      rcases hF with hF | ⟨hF | hF, hF2⟩
      · exact Or.inl hF
      · exact Or.inr ⟨hF, hF2⟩
      · exact absurd hF.2 (by unfold rfit; simp)
    obtain ⟨S1, e1, g1⟩ := tak_n hT h T1 (by omega)
    have ne := f13 hl (g := tkG c τ1 q1 p1)
    rw [f13e hF2] at g1 ne
    refine ⟨S1, ?_, fun _ => FN_L g1, fun u => by omega⟩
    unfold df_X13_others df_X13_others_0
    rw [e1, nb_b2, if_neg d33, com_F (FN_L g1) ne, nb_b2, if_pos rfl]
  obtain ⟨S1, e1, h1⟩ := tak_y hT h T1 g1
  obtain ⟨q2, p3, κ2, τ2, v2, x2, T2, hTr⟩ := hTr
  rw [if_pos (by decide)] at hTr
  rcases hTr with ⟨g2, hTr⟩ | hF
  rotate_left
  · obtain ⟨S2, e2, g2⟩ := com_n hT h1 T2 hF.1
    rw [hF.2]
    refine ⟨S2, ?_, fun _ => FN_L g2, fun u => absurd u (by decide)⟩
    unfold df_X13_others df_X13_others_0
    rw [e1, nb_b2, if_neg d33, e2, nb_b2, if_pos rfl]
  obtain ⟨S2, e2, h2⟩ := com_y hT h1 T2 g2
  have hd : df_X13_others n 38 w S = nd_b2 (df_X13_expression n S2) (fun (q11 : Int32) (s12 : St) => df_X13_others_94 n 38 (nI (tkG c τ1 q1 p1)) (q11 - sI s12 17) s12) := by
    unfold df_X13_others df_X13_others_0
    rw [e1, nb_b2, if_neg d33, e2, nb_b2, if_neg (by decide), if_pos le33, if_neg d39]
  obtain ⟨q3, p4, κ3, τ3, v3, x3, T3, hTr⟩ := hTr
  rw [if_neg (by decide), if_neg (by decide)] at hTr
  obtain ⟨ok, px, R, hTr⟩ := hTr
  rcases hTr with ⟨rfl, z1, z2, hTr⟩ | ⟨rfl, hF⟩
  · obtain ⟨rfl, rfl, rfl⟩ := hTr
    obtain ⟨z, S3, ms, dv, k1, k2, k3, k4, k5, k6, k7⟩ := exp_y hV hY h2 R
    by_cases y : exF B ms dv = 0
    · rw [y] at k2
      obtain ⟨S4, f1, f2⟩ := la_94 (n := n) k2 hw (tkG c τ1 q1 p1) (z - sI B 17)
      refine ⟨S4, ?_, fun u => absurd rfl u, fun _ => ⟨_, z, ms, dv, rfl, g1, z2, k6, fun _ => f2, fun u => absurd ((wiF_t hl).trans y) u⟩⟩
      rw [hd, k1, nb_b2, SR_17 k2, f1]
    · have fl : FL e B (exF B ms dv) S3 := SR_FL k2 k3
      have m2 : sI B 15 = 2 := Classical.byContradiction fun u => y ((exF_0 hl).mpr (fun w => u w.1))
      obtain ⟨S4, f1, f2⟩ := la_94F (n := n) fl (m2_3 m2) (nI (tkG c τ1 q1 p1)) (z - sI B 17)
      refine ⟨S4, ?_, fun u => absurd rfl u, fun _ => ⟨_, z, ms, dv, rfl, g1, z2, k6, fun u => absurd ((wiF_t hl).symm.trans u) y, fun _ => ?_⟩⟩
      · rw [hd, k1, nb_b2, SR_17 k2, f1]
      · rw [wiF_t hl]; exact f2
  · obtain ⟨z, S3, k1, fl⟩ := exp_n hV hY h2 R
    have m0 := h0 (by omega)
    obtain ⟨S4, f1, f2⟩ := la_94F (n := n) fl (m0_3 m0) (nI (tkG c τ1 q1 p1)) (z - sI B 17)
    rw [hF]
    refine ⟨S4, ?_, fun _ => f2, fun u => absurd u (by decide)⟩
    rw [hd, k1, nb_b2, (FL_f fl).2.2.2.1, f1]
/-- comparisons by value -/
theorem i_le (a b : Int32) : a ≤ b ↔ a.toInt ≤ b.toInt := Int32.le_iff_toInt_le
theorem i_lt (a b : Int32) : a < b ↔ a.toInt < b.toInt := Int32.lt_iff_toInt_lt
theorem fz_1 (lo hi v : Int32) : fzO lo hi 1 v = true ↔ lo.toInt ≤ v.toInt ∧ v.toInt ≤ hi.toInt := by
  unfold fzO
  rw [show v &&& nI (1 - 1) = 0 from (rmd_1 v (k := 1) (Or.inl rfl)).mp (by rw [show (nI 1 : Int32) = 1 from rfl, Int32.div_one, Int32.mul_one, Int32.sub_self])]
  rw [decide_eq_true (rfl : (0 : Int32) = 0), Bool.and_true, Bool.and_eq_true, Bool.not_eq_true', Bool.not_eq_true', decide_eq_false_iff_not, decide_eq_false_iff_not, i_lt, i_lt]
  omega
/-- li: all its roads -/
theorem li_94g {n : Nat} {B : St} {ct : Nat} {gr : Bool} {PA BY OU : Nat → Int32} {ft : Int32} {ap : Nat} {S : St} (h : SR B ct gr PA BY OU ft ap S) (r : Nat) (hr : r < 32) (v : Int32) (hw : OKW B (ct + (numB (nI r) v).length)) : ∃ S' : St, df_X13_others_94 n 39 (nI r) v S = some S' ∧ SR B (ct + (numB (nI r) v).length) gr PA BY (pt B ct OU (numB (nI r) v)) ft ap S' := by
  have t33 : (-33 : Int32).toInt = -33 := by decide
  have t32 : (32 : Int32).toInt = 32 := by decide
  have tm32 : (-32 : Int32).toInt = -32 := by decide
  have t31 : (31 : Int32).toInt = 31 := by decide
  have t2048 : (-2048 : Int32).toInt = -2048 := by decide
  have t2047 : (2047 : Int32).toInt = 2047 := by decide
  have t2049 : (-2049 : Int32).toInt = -2049 := by decide
  have tp2048 : (2048 : Int32).toInt = 2048 := by decide
  have c33 : v ≤ -33 ↔ v.toInt ≤ -33 := by rw [i_le, t33]
  have c32 : (32 : Int32) ≤ v ↔ 32 ≤ v.toInt := by rw [i_le, t32]
  have cm : v < -2048 ↔ v.toInt < -2048 := by rw [i_lt, t2048]
  have c47 : v ≤ 2047 ↔ v.toInt ≤ 2047 := by rw [i_le, t2047]
  have c49 : v ≤ -2049 ↔ v.toInt ≤ -2049 := by rw [i_le, t2049]
  have c48 : (2048 : Int32) ≤ v ↔ 2048 ≤ v.toInt := by rw [i_le, tp2048]
  have c3 : v < -32 ↔ v.toInt < -32 := by rw [i_lt, tm32]
  have c1 : v ≤ 31 ↔ v.toInt ≤ 31 := by rw [i_le, t31]
  have z32 := fz_1 (-32) 31 v
  have z20 := fz_1 (-2048) 2047 v
  rw [tm32, t31] at z32
  rw [t2048, t2047] at z20
  have r0 : nI r = (0 : Int32) ↔ r = 0 := nI_eq (b := 0) (by omega) (by omega)
  have s264 : ∀ T : St, df_X13_others_264 n 39 (nI r) v T = if -2049 < v.toInt ∧ v.toInt < 2048 ∧ (r = 0 ∨ v.toInt < -32 ∨ 31 < v.toInt) then nd_b1 (df_X13_word n ((19 ||| nI r <<< ((7 : Int32) &&& 31)) ||| v <<< ((20 : Int32) &&& 31)) T) (fun (s : St) => some s) else some T := fun T => by
    unfold df_X13_others_264 df_X13_others_304 df_X13_others_321
    rw [if_pos rfl]
    by_cases a : v.toInt ≤ -2049
    · rw [if_pos (c49.mpr a), if_neg (by omega)]
    · rw [if_neg (fun z => a (c49.mp z))]
      by_cases b : 2048 ≤ v.toInt
      · rw [if_pos (c48.mpr b), if_neg (by omega)]
      · rw [if_neg (fun z => b (c48.mp z))]
        by_cases d : r = 0
        · rw [if_pos (r0.mpr d), if_pos (by omega)]
        · rw [if_neg (fun z => d (r0.mp z))]
          by_cases f : v.toInt < -32
          · rw [if_pos (c3.mpr f), if_pos (by omega)]
          · rw [if_neg (fun z => f (c3.mp z))]
            by_cases g : v.toInt ≤ 31
            · rw [if_pos (c1.mpr g), if_neg (by omega)]
            · rw [if_neg (fun z => g (c1.mp z)), if_pos (by omega)]
  have i39 : ¬ (39 : Int32) = 38 := by decide
  by_cases A : -32 ≤ v.toInt ∧ v.toInt ≤ 31 ∧ ¬ r = 0
  · -- a half
    have nb : numB (nI r) v = by2 ((16385 ||| nI r <<< ((7 : Int32) &&& 31)) ||| plN v) := if_pos ⟨z32.mpr ⟨A.1, A.2.1⟩, fun z => A.2.2 (r0.mp z)⟩
    rw [nb] at hw
    obtain ⟨S1, e1, h1⟩ := hal_S (n := n) h (OKW_m hw (Nat.le_refl _)) ((16385 ||| nI r <<< ((7 : Int32) &&& 31)) ||| plN v)
    rw [nb]
    refine ⟨S1, ?_, h1⟩
    unfold df_X13_others_94
    rw [nb_let, nb_let, if_neg i39, if_neg (fun z => by have := c33.mp z; omega), if_neg (fun z => by have := c32.mp z; omega), if_neg (fun z => A.2.2 (r0.mp z)), sX_R, nb_b2, e1, nb_b1]
    unfold df_X13_others_215
    rw [if_neg i39, if_neg (fun z => by have := cm.mp z; omega), if_pos (c47.mpr (by omega)), s264, if_neg (by omega)]
  · have to182 : df_X13_others_94 n 39 (nI r) v S = df_X13_others_182 n 39 (nI r) v (hiO v) (loO v) S := by
      unfold df_X13_others_94
      rw [nb_let, nb_let, if_neg i39]
      by_cases a : v.toInt ≤ -33
      · rw [if_pos (c33.mpr a)]; rfl
      · rw [if_neg (fun z => a (c33.mp z))]
        by_cases b : 32 ≤ v.toInt
        · rw [if_pos (c32.mpr b)]; rfl
        · rw [if_neg (fun z => b (c32.mp z)), if_pos (r0.mpr (by omega))]; rfl
    have n1 : ¬ (fzO (-32) 31 1 v = true ∧ ¬ nI r = 0) := fun z => A (by have := z32.mp z.1; exact ⟨this.1, this.2, fun u => z.2 (r0.mpr u)⟩)
    rw [to182]
    by_cases C : -2048 ≤ v.toInt ∧ v.toInt ≤ 2047
    · have nb : numB (nI r) v = by4 ((19 ||| nI r <<< ((7 : Int32) &&& 31)) ||| v <<< ((20 : Int32) &&& 31)) := (if_neg n1).trans (if_pos (z20.mpr C))
      rw [nb] at hw
      obtain ⟨S1, e1, h1⟩ := wor_S (n := n) h (OKW_m hw (Nat.le_refl _)) ((19 ||| nI r <<< ((7 : Int32) &&& 31)) ||| v <<< ((20 : Int32) &&& 31))
      rw [nb]
      refine ⟨S1, ?_, h1⟩
      unfold df_X13_others_182 df_X13_others_215
      rw [if_neg (fun z => by have := cm.mp z; omega), if_pos (c47.mpr C.2), if_neg i39, if_neg (fun z => by have := cm.mp z; omega), if_pos (c47.mpr C.2), s264, if_pos (by omega), e1, nb_b1]
    · have n2 : ¬ fzO (-2048) 2047 1 v = true := fun z => C (z20.mp z)
      have out : v.toInt < -2048 ∨ 2047 < v.toInt := by omega
      have len4 : 4 ≤ (numB (nI r) v).length := by
        unfold numB
        rw [if_neg n1, if_neg n2, List.length_append]
        exact Nat.le_add_right 4 _
      obtain ⟨S1, e1, h1⟩ := wor_S (n := n) h (OKW_m hw (by omega)) ((55 ||| nI r <<< ((7 : Int32) &&& 31)) ||| hiO v <<< ((12 : Int32) &&& 31))
      have to215 : df_X13_others_182 n 39 (nI r) v (hiO v) (loO v) S = df_X13_others_237 n 39 (nI r) v (loO v) S1 := by
        unfold df_X13_others_182 df_X13_others_198
        rw [e1, nb_b1]
        unfold df_X13_others_215
        rw [if_neg i39]
        by_cases a : v.toInt < -2048
        · rw [if_pos (cm.mpr a), if_pos (cm.mpr a)]
        · have nc : ¬ v ≤ 2047 := fun z => by have := c47.mp z; omega
          have na : ¬ v < -2048 := fun z => a (cm.mp z)
          simp only [if_neg na, if_neg nc]
      rw [to215]
      unfold df_X13_others_237
      by_cases lz : loO v = 0
      · have nb : numB (nI r) v = by4 ((55 ||| nI r <<< ((7 : Int32) &&& 31)) ||| hiO v <<< ((12 : Int32) &&& 31)) := by
          unfold numB
          rw [if_neg n1, if_neg n2, if_pos lz, List.append_nil]
        rw [nb, if_pos lz, s264, if_neg (by omega)]
        exact ⟨S1, rfl, h1⟩
      · have hw8 : OKW B (ct + 8) := by
          unfold numB at hw
          rw [if_neg n1, if_neg n2, if_neg lz] at hw
          exact hw
        obtain ⟨S2, e2, h2⟩ := wor_S (n := n) h1 hw8 (((19 ||| nI r <<< ((7 : Int32) &&& 31)) ||| nI r <<< ((15 : Int32) &&& 31)) ||| loO v <<< ((20 : Int32) &&& 31))
        have nb : numB (nI r) v = by4 ((55 ||| nI r <<< ((7 : Int32) &&& 31)) ||| hiO v <<< ((12 : Int32) &&& 31)) ++ by4 (((19 ||| nI r <<< ((7 : Int32) &&& 31)) ||| nI r <<< ((15 : Int32) &&& 31)) ||| loO v <<< ((20 : Int32) &&& 31)) := by
          unfold numB
          rw [if_neg n1, if_neg n2, if_neg lz]
        rw [if_neg lz]
        refine ⟨S2, ?_, ?_⟩
        · unfold df_X13_others_242
          rw [e2, nb_b1, s264, if_neg (by omega)]
        · rw [nb]
          rw [show pt B (ct + 4) (pt B ct OU (by4 ((55 ||| nI r <<< ((7 : Int32) &&& 31)) ||| hiO v <<< ((12 : Int32) &&& 31)))) (by4 (((19 ||| nI r <<< ((7 : Int32) &&& 31)) ||| nI r <<< ((15 : Int32) &&& 31)) ||| loO v <<< ((20 : Int32) &&& 31))) = pt B ct OU (by4 ((55 ||| nI r <<< ((7 : Int32) &&& 31)) ||| hiO v <<< ((12 : Int32) &&& 31)) ++ by4 (((19 ||| nI r <<< ((7 : Int32) &&& 31)) ||| nI r <<< ((15 : Int32) &&& 31)) ||| loO v <<< ((20 : Int32) &&& 31))) from pt_a (by4 _) _] at h2
          exact h2
theorem li_94 {n : Nat} {B : St} {ct : Nat} {gr : Bool} {PA BY OU : Nat → Int32} {ap : Nat} {S : St} (h : SR B ct gr PA BY OU 0 ap S) (r : Nat) (hr : r < 32) (v : Int32) (hw : OKW B (ct + (numB (nI r) v).length)) : ∃ S' : St, df_X13_others_94 n 39 (nI r) v S = some S' ∧ SR B (ct + (numB (nI r) v).length) gr PA BY (pt B ct OU (numB (nI r) v)) 0 ap S' := li_94g h r hr v hw

/-- la and li in later rounds and as they are read -/
theorem laA : shT (sgm 116) = 38 ∧ FRM 116 = [100, 44, 65] ∧ ko_b 116 = 23 ∧ shT (sgm 117) = 39 ∧ FRM 117 = [100, 44, 65] ∧ ko_b 117 = 0 ∧ ko_s 116 = 16 ∧ ko_s 117 = 32 ∧ tb_0 116 = 0 ∧ tb_0 117 = 0 := by decide +kernel
theorem laD : ∀ r : Fin 32, ((23 ||| nI r.1 <<< ((7 : Int32) &&& 31)) >>> ((7 : Int32) &&& 31)) &&& 31 = nI r.1 := by decide +kernel
theorem liD : ∀ r : Fin 32, ((0 ||| nI r.1 <<< ((7 : Int32) &&& 31)) >>> ((7 : Int32) &&& 31)) &&& 31 = nI r.1 := by decide +kernel
theorem la_b (r : Nat) : ko_b 116 ||| 0 ||| RGB (FRM 116) [r] = 23 ||| nI r <<< ((7 : Int32) &&& 31) := by
  rw [laA.2.1, laA.2.2.1]
  simp only [RGB_r100, RGB_s44, rgb_100, or_0]
  rw [show RGB [65] [] = 0 from rfl, or_0]
theorem li_b (r : Nat) : ko_b 117 ||| 0 ||| RGB (FRM 117) [r] = 0 ||| nI r <<< ((7 : Int32) &&& 31) := by
  rw [laA.2.2.2.2.1, laA.2.2.2.2.2.1]
  simp only [RGB_r100, RGB_s44, rgb_100, or_0]
  rw [show RGB [65] [] = 0 from rfl, or_0]
theorem rfb_A {n L e : Nat} {c : Nat → Nat} {BC BR0 : St} (hT0 : atx n L e c BC BR0) {q p1 κ v1 : Nat} {x : Int32} (T : TS n L e c BC q q p1 κ 1 v1 x) (hN : NAr n L c q (p1 - q) 116 0) {p2 : Nat} {rs : List Nat} {m : Nat} {P : Nat → Tp} (hTr : Tr n L e c BC (FRM 116) p1 0 p2 rs m P) {se : Nat} {X0 : Nat → Nat} {W0 : Nat → Int32} {n0 : Nat} : RFB n L e c BC q se 0 3 8 none X0 W0 n0 (3, ko_b 116 ||| 0 ||| RGB (FRM 116) rs, 0, [(m, P)], []) := by
  intro B X nL cu A ct ap μ gr PA BY OU S hV hc hE h14 hP hA hlw hl hb h hμ hw
  have qe : q ≤ e := T.1
  have eL' : e ≤ L := hT0.2.2.1
  have L' : L ≤ 32768 := hT0.2.1
  obtain ⟨m1, m2, m3, m4, m5⟩ := md_n (B := B) hμ
  have hln := hV.2.2.2.2.2.2.2
  obtain ⟨S1, e1, e2, e3⟩ := stm_2 hV.1 hc h (nI μ) T hN
  rw [laA.2.1] at hTr
  obtain ⟨S2, r1, r2, r3⟩ := la_R (RV_p15 hV (nI μ)) (⟨A * 2 ^ 17 + q, hP, by omega, by omega⟩ : PY PA cu q) e2 (by rw [Nat.zero_add]; exact hw) (ptT (sgm 116) ||| 0) (fun u => absurd rfl u) hTr
  obtain ⟨r, z, ms, dv, k1, k2, k3, k4, k5⟩ := r3 rfl
  subst k1
  obtain ⟨z1, z2, z3⟩ := zmd k4
  obtain ⟨t1, t2⟩ := plo_l hμ hln k5
  have eF : sF (3, ko_b 116 ||| 0 ||| RGB (FRM 116) [r], 0, [(m, P)], []) (VW c X e nL q B) (sI B 17) (A % 4) = vF ms dv true := by
    rw [z2, z3]
    rfl
  have eB : sB (3, ko_b 116 ||| 0 ||| RGB (FRM 116) [r], 0, [(m, P)], []) (VW c X e nL q B) (sI B 17) (A % 4) = laL r (z - sI B 17) := by
    rw [la_b, z1]
    show by4 ((23 ||| nI r <<< ((7 : Int32) &&& 31)) ||| hiO (zV (VW c X e nL q B) P m - sI B 17) <<< ((12 : Int32) &&& 31)) ++ by4 ((19 ||| (((23 ||| nI r <<< ((7 : Int32) &&& 31)) >>> ((7 : Int32) &&& 31)) &&& 31) <<< ((7 : Int32) &&& 31)) ||| (((23 ||| nI r <<< ((7 : Int32) &&& 31)) >>> ((7 : Int32) &&& 31)) &&& 31) <<< ((15 : Int32) &&& 31) ||| loO (zV (VW c X e nL q B) P m - sI B 17) <<< ((20 : Int32) &&& 31)) = _
    rw [laD ⟨r, k2⟩]
    rfl
  refine ⟨S2, ?_, fun u w => ?_, fun u => ?_⟩
  · rw [e1, dsp_38 e3 (sgm 116) (sgm_l (by omega)) laA.1 0, r1, nb_b1]
    exact fin_l hμ k5
  · rw [eF] at w ⊢
    exact t1 u w
  · rw [eF] at u
    rw [eB]
    exact ⟨_, p2, gr, k3, fun z => absurd (show (3 : Nat) = 1 ∨ (3 : Nat) = 2 from z) (by decide), t2 u⟩
theorem rdr_A {n L e : Nat} {c : Nat → Nat} {BC B : St} {X : Nat → Nat} {nL cu : Nat} (hV : RV n L e c BC B X nL cu) (hc : cstS B) {ct : Nat} {gr : Bool} {PA BY OU : Nat → Int32} {ap : Nat} {S : St} (h : SR B ct gr PA BY OU 0 ap S) {q p1 κ v1 : Nat} {x : Int32} (T : TS n L e c BC q q p1 κ 1 v1 x) (hY : PY PA cu q) (hN : NAr n L c q (p1 - q) 116 0) {f p2 : Nat} {rs : List Nat} {m : Nat} {P : Nat → Tp} (hTr : Tr n L e c BC (FRM 116) p1 f p2 rs m P) : ∃ S' : St, df_X13_statement n (nI q) 0 S = df_X13_statement_326 n S' ∧ (¬ f = 0 → FL e (pI B 15 0) (nI f + 16 * sI B 13) S') ∧ (f = 0 → SR (pI B 15 0) 8 gr PA BY OU 0 p2 S') := by
  obtain ⟨S1, e1, e2, e3⟩ := stm_2 hV.1 hc h 0 T hN
  have ok0 : ∀ k : Nat, OKW (pI B 15 0) k := fun k u => absurd (show (0 : Int32) = 3 from u) (by decide)
  rw [laA.2.1] at hTr
  obtain ⟨S2, r1, r2, r3⟩ := la_R (RV_p15 hV 0) hY e2 (ok0 _) (ptT (sgm 116) ||| 0) (fun _ => rfl) hTr
  refine ⟨S2, ?_, r2, fun u => ?_⟩
  · rw [e1, dsp_38 e3 (sgm 116) (sgm_l (by omega)) laA.1 0, r1, nb_b1]
  · obtain ⟨r, z, ms, dv, k1, k2, k3, k4, k5⟩ := r3 u
    have pt0 : ∀ bs : List Int32, pt (pI B 15 0) 0 OU bs = OU := fun bs => if_neg (show ¬ (0 : Int32) = 3 by decide)
    have w0 : wiF (pI B 15 0) ms dv true = 0 := if_neg (show ¬ (0 : Int32) = 2 by decide)
    have := k5.1 w0
    rw [pt0] at this
    exact this
/-- fixed rows: nothing is missing -/
theorem fx_ms {c X : Nat → Nat} {e nL st : Nat} {ts ad : Int32} {W : Nat → Int32} {P : Nat → Tp} {m : Nat} (hl : lsF (loV c X e nL) P m = false) (hc : ∀ i : Nat, i < m → 1 ≤ (P i).1 ∧ (P i).1 ≤ 20 ∧ ¬ (P i).1 = 15) : mV (VV c X e nL st ts ad W) P m = false := by
  refine rn_ms m (fun i hi h16 => ?_)
  have hh := (lsF_0 m).mp hl i hi h16
  have cp := hc i hi
  generalize P i = o at hh cp h16
  obtain ⟨κ, q, v⟩ := o
  have h16 : 16 ≤ κ := h16
  have cp : 1 ≤ κ ∧ κ ≤ 20 ∧ ¬ κ = 15 := cp
  rcases (show κ = 16 ∨ κ = 17 ∨ κ = 18 ∨ κ = 19 ∨ κ = 20 by omega) with z | z | z | z | z
  · subst z; rfl
  · subst z
    have hh : (!(decide (nmK c X nL q (eT c e q - q) < nL) && decide (X (nmK c X nL q (eT c e q - q)) / 131072 = 2))) = false := hh
    rw [Bool.not_eq_false', Bool.and_eq_true] at hh
    have y := of_decide_eq_true hh.1
    show (if nmK c X nL q (eT c e q - q) < nL then (vlO ts X W (nmK c X nL q (eT c e q - q)), false) else ((0 : Int32), true)).2 = false
    rw [if_pos y]
  all_goals (subst z; exact absurd hh (by decide : ¬ true = false))
/-- what is kept of an expression that was fixed when it was read: its value z -/
def FXD (c : Nat → Nat) (e : Nat) (X0 : Nat → Nat) (W0 : Nat → Int32) (n0 : Nat) (P : Nat → Tp) (m : Nat) (z : Int32) : Prop := lsF (loV c X0 e n0) P m = false ∧ (∀ i : Nat, i < m → 1 ≤ (P i).1 ∧ (P i).1 ≤ 20 ∧ ¬ (P i).1 = 15) ∧ ∃ (st0 : Nat) (ts0 ad0 : Int32), zV (VV c X0 e n0 st0 ts0 ad0 W0) P m = z ∧ dV (VV c X0 e n0 st0 ts0 ad0 W0) P m = false
theorem FXD_V {c : Nat → Nat} {e : Nat} {X0 : Nat → Nat} {W0 : Nat → Int32} {n0 : Nat} {P : Nat → Tp} {m : Nat} {z : Int32} (h : FXD c e X0 W0 n0 P m z) {X : Nat → Nat} {nL st : Nat} {B : St} (hE : tbE X0 W0 n0 X nL B) : zV (VW c X e nL st B) P m = z ∧ mV (VW c X e nL st B) P m = false ∧ dV (VW c X e nL st B) P m = false := by
  obtain ⟨h1, h2, st0, ts0, ad0, h3, h4⟩ := h
  have r := fix_V (c := c) (e := e) (X := X) (nL := nL) (st := st) (st0 := st0) (ts := sI B 4) (ts0 := ts0) (ad := sI B 17) (ad0 := ad0) (B := B) h1 hE h2
  have ms := fx_ms (c := c) (X := X0) (e := e) (nL := n0) (st := st0) (ts := ts0) (ad := ad0) (W := W0) h1 h2
  unfold zV mV dV at *
  unfold VW
  rw [r]
  exact ⟨h3, ms, h4⟩
/-- a fixed expression in a later round -/
theorem fix_L {n L e : Nat} {c : Nat → Nat} {BC B : St} {X : Nat → Nat} {nL st cu : Nat} (hV : RV n L e c BC B X nL cu) {ct : Nat} {gr : Bool} {PA BY OU : Nat → Int32} (hY : PY PA cu st) {p : Nat} {S : St} (h : SR B ct gr PA BY OU 0 p S) (hm : ¬ sI B 15 = 0) {p2 m : Nat} {P : Nat → Tp} (R : RX n L e c BC p true p2 m P) {X0 : Nat → Nat} {W0 : Nat → Int32} {n0 : Nat} {z : Int32} (hF : FXD c e X0 W0 n0 P m z) (hE : tbE X0 W0 n0 X nL B) (lo hi : Int32) : ∃ S' : St, df_X13_fixed n lo hi S = some (z, S') ∧ p2 ≤ e ∧ SR B ct gr PA BY OU 0 p2 S' := by
  obtain ⟨S1, e1, e2, e3⟩ := fix_M hV hY h hm R lo hi
  obtain ⟨f1, f2, f3⟩ := FXD_V (st := st) hF hE
  rw [f1] at e1
  rw [f2, f3, show exF B false false = 0 from if_neg (fun u => by rcases u.2 with u | u <;> exact nomatch u)] at e3
  exact ⟨S1, e1, e2, e3⟩
theorem rfb_N {n L e : Nat} {c : Nat → Nat} {BC BR0 : St} (hT0 : atx n L e c BC BR0) {q p1 κ v1 : Nat} {x : Int32} (T : TS n L e c BC q q p1 κ 1 v1 x) (hN : NAr n L c q (p1 - q) 117 0) {q1 p2 κ1 τ1 w1 : Nat} {x1 : Int32} (T1 : TS n L e c BC p1 q1 p2 κ1 τ1 w1 x1) (g1 : tkG c τ1 q1 p2 < 32) {q2 p3 κ2 τ2 w2 : Nat} {x2 : Int32} (T2 : TS n L e c BC p2 q2 p3 κ2 τ2 w2 x2) (t2 : τ2 = 44) {p4 m : Nat} {P : Nat → Tp} (R : RX n L e c BC p3 true p4 m P) {X0 : Nat → Nat} {W0 : Nat → Int32} {n0 : Nat} {z : Int32} (hF : FXD c e X0 W0 n0 P m z) {se : Nat} : RFB n L e c BC q se 0 3 8 none X0 W0 n0 (4, nI (tkG c τ1 q1 p2), 0, [], numB (nI (tkG c τ1 q1 p2)) z) := by
  intro B X nL cu A ct ap μ gr PA BY OU S hV hc hE h14 hP hA hlw hl hb h hμ hw
  have qe : q ≤ e := T.1
  have eL' : e ≤ L := hT0.2.2.1
  have L' : L ≤ 32768 := hT0.2.1
  obtain ⟨m1, m2, m3, m4, m5⟩ := md_n (B := B) hμ
  have hV' := RV_p15 hV (nI μ)
  have hY : PY PA cu q := ⟨A * 2 ^ 17 + q, hP, by omega, by omega⟩
  obtain ⟨S1, e1, e2, e3⟩ := stm_2 hV.1 hc h (nI μ) T hN
  obtain ⟨S2, f1, f2⟩ := tak_y (B := pI B 15 (nI μ)) hV.1 e2 T1 g1
  obtain ⟨S3, f3, f4⟩ := com_y (B := pI B 15 (nI μ)) hV.1 f2 T2 t2
  obtain ⟨S4, f5, f6, f7⟩ := fix_L hV' hY f4 (by rw [m1]; exact m2) R hF hE (-2147483648) 2147483647
  obtain ⟨S5, f8, f9⟩ := li_94 (n := n) f7 (tkG c τ1 q1 p2) g1 z (by rw [Nat.zero_add]; exact hw)
  have f15 := SR_15 f9
  rw [pt_3 hμ] at f9
  refine ⟨S5, ?_, fun _ w => absurd rfl w, fun _ => ⟨_, p4, gr, f6, fun u => absurd (show (4 : Nat) = 1 ∨ (4 : Nat) = 2 from u) (by decide), f9⟩⟩
  · rw [e1, dsp_39 e3 (sgm 117) (sgm_l (by omega)) laA.2.2.2.1 0]
    unfold df_X13_others df_X13_others_0
    rw [f1, nb_b2, if_neg (by decide), f3, nb_b2, if_neg (by decide), if_pos (by decide), if_pos rfl, f5, nb_b2, f8, nb_b1]
    exact s326 (by rw [f15, m1]; exact m2)

theorem dsp_40 {n : Nat} {S : St} (hc : cstS S) (k : Nat) (hk : k < 128) (hs : shT k = 40) (od : Int32) : df_X13_statement_136 n (nI k) od S = nd_b1 (df_X13_directive n 40 (ptT k ||| od) S) (fun (s : St) => df_X13_statement_326 n s) := by
  unfold df_X13_statement_136
  rw [if_pos (show (0 : Int32) ≤ nI k from zle (a := 0) (Nat.zero_le _) (by omega)), nm_ck (by omega) (by omega), nI_clamp (by omega), (hc k hk).2.1, hs, nb_let, nm_ck (by omega) (by omega), (hc k hk).2.2, nb_let, if_neg (show ¬ (40 : Int32) ≤ 39 by decide)]
theorem dsp_41 {n : Nat} {S : St} (hc : cstS S) (k : Nat) (hk : k < 128) (hs : shT k = 41) (od : Int32) : df_X13_statement_136 n (nI k) od S = nd_b1 (df_X13_directive n 41 (ptT k ||| od) S) (fun (s : St) => df_X13_statement_326 n s) := by
  unfold df_X13_statement_136
  rw [if_pos (show (0 : Int32) ≤ nI k from zle (a := 0) (Nat.zero_le _) (by omega)), nm_ck (by omega) (by omega), nI_clamp (by omega), (hc k hk).2.1, hs, nb_let, nm_ck (by omega) (by omega), (hc k hk).2.2, nb_let, if_neg (show ¬ (41 : Int32) ≤ 39 by decide)]
theorem dsp_42 {n : Nat} {S : St} (hc : cstS S) (k : Nat) (hk : k < 128) (hs : shT k = 42) (od : Int32) : df_X13_statement_136 n (nI k) od S = nd_b1 (df_X13_directive n 42 (ptT k ||| od) S) (fun (s : St) => df_X13_statement_326 n s) := by
  unfold df_X13_statement_136
  rw [if_pos (show (0 : Int32) ≤ nI k from zle (a := 0) (Nat.zero_le _) (by omega)), nm_ck (by omega) (by omega), nI_clamp (by omega), (hc k hk).2.1, hs, nb_let, nm_ck (by omega) (by omega), (hc k hk).2.2, nb_let, if_neg (show ¬ (42 : Int32) ≤ 39 by decide)]
theorem dsp_43 {n : Nat} {S : St} (hc : cstS S) (k : Nat) (hk : k < 128) (hs : shT k = 43) (od : Int32) : df_X13_statement_136 n (nI k) od S = nd_b1 (df_X13_directive n 43 (ptT k ||| od) S) (fun (s : St) => df_X13_statement_326 n s) := by
  unfold df_X13_statement_136
  rw [if_pos (show (0 : Int32) ≤ nI k from zle (a := 0) (Nat.zero_le _) (by omega)), nm_ck (by omega) (by omega), nI_clamp (by omega), (hc k hk).2.1, hs, nb_let, nm_ck (by omega) (by omega), (hc k hk).2.2, nb_let, if_neg (show ¬ (43 : Int32) ≤ 39 by decide)]
theorem dsp_44 {n : Nat} {S : St} (hc : cstS S) (k : Nat) (hk : k < 128) (hs : shT k = 44) (od : Int32) : df_X13_statement_136 n (nI k) od S = nd_b1 (df_X13_directive n 44 (ptT k ||| od) S) (fun (s : St) => df_X13_statement_326 n s) := by
  unfold df_X13_statement_136
  rw [if_pos (show (0 : Int32) ≤ nI k from zle (a := 0) (Nat.zero_le _) (by omega)), nm_ck (by omega) (by omega), nI_clamp (by omega), (hc k hk).2.1, hs, nb_let, nm_ck (by omega) (by omega), (hc k hk).2.2, nb_let, if_neg (show ¬ (44 : Int32) ≤ 39 by decide)]
theorem dsp_45 {n : Nat} {S : St} (hc : cstS S) (k : Nat) (hk : k < 128) (hs : shT k = 45) (od : Int32) : df_X13_statement_136 n (nI k) od S = nd_b1 (df_X13_directive n 45 (ptT k ||| od) S) (fun (s : St) => df_X13_statement_326 n s) := by
  unfold df_X13_statement_136
  rw [if_pos (show (0 : Int32) ≤ nI k from zle (a := 0) (Nat.zero_le _) (by omega)), nm_ck (by omega) (by omega), nI_clamp (by omega), (hc k hk).2.1, hs, nb_let, nm_ck (by omega) (by omega), (hc k hk).2.2, nb_let, if_neg (show ¬ (45 : Int32) ≤ 39 by decide)]
theorem dsp_46 {n : Nat} {S : St} (hc : cstS S) (k : Nat) (hk : k < 128) (hs : shT k = 46) (od : Int32) : df_X13_statement_136 n (nI k) od S = nd_b1 (df_X13_directive n 46 (ptT k ||| od) S) (fun (s : St) => df_X13_statement_326 n s) := by
  unfold df_X13_statement_136
  rw [if_pos (show (0 : Int32) ≤ nI k from zle (a := 0) (Nat.zero_le _) (by omega)), nm_ck (by omega) (by omega), nI_clamp (by omega), (hc k hk).2.1, hs, nb_let, nm_ck (by omega) (by omega), (hc k hk).2.2, nb_let, if_neg (show ¬ (46 : Int32) ≤ 39 by decide)]
theorem dsp_47 {n : Nat} {S : St} (hc : cstS S) (k : Nat) (hk : k < 128) (hs : shT k = 47) (od : Int32) : df_X13_statement_136 n (nI k) od S = nd_b1 (df_X13_directive n 47 (ptT k ||| od) S) (fun (s : St) => df_X13_statement_326 n s) := by
  unfold df_X13_statement_136
  rw [if_pos (show (0 : Int32) ≤ nI k from zle (a := 0) (Nat.zero_le _) (by omega)), nm_ck (by omega) (by omega), nI_clamp (by omega), (hc k hk).2.1, hs, nb_let, nm_ck (by omega) (by omega), (hc k hk).2.2, nb_let, if_neg (show ¬ (47 : Int32) ≤ 39 by decide)]
theorem dsp_48 {n : Nat} {S : St} (hc : cstS S) (k : Nat) (hk : k < 128) (hs : shT k = 48) (od : Int32) : df_X13_statement_136 n (nI k) od S = nd_b1 (df_X13_directive n 48 (ptT k ||| od) S) (fun (s : St) => df_X13_statement_326 n s) := by
  unfold df_X13_statement_136
  rw [if_pos (show (0 : Int32) ≤ nI k from zle (a := 0) (Nat.zero_le _) (by omega)), nm_ck (by omega) (by omega), nI_clamp (by omega), (hc k hk).2.1, hs, nb_let, nm_ck (by omega) (by omega), (hc k hk).2.2, nb_let, if_neg (show ¬ (48 : Int32) ≤ 39 by decide)]
theorem dsp_49 {n : Nat} {S : St} (hc : cstS S) (k : Nat) (hk : k < 128) (hs : shT k = 49) (od : Int32) : df_X13_statement_136 n (nI k) od S = nd_b1 (df_X13_directive n 49 (ptT k ||| od) S) (fun (s : St) => df_X13_statement_326 n s) := by
  unfold df_X13_statement_136
  rw [if_pos (show (0 : Int32) ≤ nI k from zle (a := 0) (Nat.zero_le _) (by omega)), nm_ck (by omega) (by omega), nI_clamp (by omega), (hc k hk).2.1, hs, nb_let, nm_ck (by omega) (by omega), (hc k hk).2.2, nb_let, if_neg (show ¬ (49 : Int32) ≤ 39 by decide)]
theorem dirA : shT (sgm 118) = 40 ∧ shT (sgm 119) = 41 ∧ shT (sgm 120) = 42 ∧ shT (sgm 121) = 43 ∧ shT (sgm 122) = 44 ∧ shT (sgm 123) = 45 ∧ shT (sgm 124) = 46 ∧ shT (sgm 125) = 47 ∧ shT (sgm 126) = 48 ∧ shT (sgm 127) = 49 ∧ ptT (sgm 121) = 1 ∧ ptT (sgm 122) = 2 ∧ ptT (sgm 123) = 4 ∧ ptT (sgm 124) = 0 ∧ ptT (sgm 125) = 0 := by decide +kernel
theorem pI_s (σ : St) (k : Nat) : pI σ k (sI σ k) = σ := Prod.ext (funext fun j => by
  show (if j = k then sI σ k else σ.1 j) = σ.1 j
  by_cases h : j = k
  · rw [if_pos h, h]; rfl
  · rw [if_neg h]) rfl
theorem SR_p14 {B : St} {ct : Nat} {gr : Bool} {PA BY OU : Nat → Int32} {ft : Int32} {ap : Nat} {S : St} (h : SR B ct gr PA BY OU ft ap S) (v : Int32) : SR (pI B 14 v) ct gr PA BY OU ft ap (pI S 14 v) := by
  obtain ⟨ms, dv, ls, sg, vl, PL, tk, fr, to, nm, rfl⟩ := h
  refine ⟨ms, dv, ls, sg, vl, PL, tk, fr, to, nm, Prod.ext (funext fun j => ?_) rfl⟩
  show (if j = 14 then v else _) = _
  by_cases h : j = 14
  · subst h; rfl
  · unfold uR xR yR pI
    simp only [if_neg h]
/-- .space -/
theorem rfb_S {n L e : Nat} {c : Nat → Nat} {BC BR0 : St} (hT0 : atx n L e c BC BR0) {q p1 κ v1 : Nat} {x : Int32} (T : TS n L e c BC q q p1 κ 1 v1 x) (hN : NAr n L c q (p1 - q) 126 0) {p2 m : Nat} {P : Nat → Tp} (R : RX n L e c BC p1 true p2 m P) {X0 : Nat → Nat} {W0 : Nat → Int32} {n0 : Nat} {z : Int32} (hF : FXD c e X0 W0 n0 P m z) {k : Nat} (hz : z = nI k) {se : Nat} : RFB n L e c BC q se 0 3 0 none X0 W0 n0 (7, 0, 0, [], []) := by
  intro B X nL cu A ct ap μ gr PA BY OU S hV hc hE h14 hP hA hlw hl hb h hμ hw
  have qe : q ≤ e := T.1
  have eL' : e ≤ L := hT0.2.2.1
  have L' : L ≤ 32768 := hT0.2.1
  obtain ⟨m1, m2, m3, m4, m5⟩ := md_n (B := B) hμ
  have hV' := RV_p15 hV (nI μ)
  have hY : PY PA cu q := ⟨A * 2 ^ 17 + q, hP, by omega, by omega⟩
  have ou : ∀ O : Nat → Int32, (if μ = 3 then wrL O (sI B 19).toNatClampNeg [] else O) = O := fun O => by split <;> rfl
  obtain ⟨S1, e1, e2, e3⟩ := stm_2 hV.1 hc h (nI μ) T hN
  obtain ⟨S2, f1, f2, f3⟩ := fix_L hV' hY e2 (by rw [m1]; exact m2) R hF hE 0 32768
  have f4 := SR_w18 f3 k
  refine ⟨pI S2 18 (nI k), ?_, fun _ w => absurd rfl w, fun _ => ⟨k, p2, gr, f2, fun u => absurd (show (7 : Nat) = 1 ∨ (7 : Nat) = 2 from u) (by decide), ?_⟩⟩
  · rw [e1, dsp_48 e3 (sgm 126) (sgm_l (by omega)) dirA.2.2.2.2.2.2.2.2.1 0]
    unfold df_X13_directive df_X13_directive_0 df_X13_directive_185
    rw [if_pos (by decide), if_neg (by decide), if_pos rfl, f1, nb_b2, SR_18 e2, hz, nI_add, Nat.zero_add, nb_let, nb_b1]
    exact s326 (by rw [SR_15 f4, m1]; exact m2)
  · show SR (pI B 15 (nI μ)) k gr PA BY (if μ = 3 then wrL OU (sI B 19).toNatClampNeg [] else OU) 0 p2 (pI S2 18 (nI k))
    rw [ou]
    exact f4
/-- .align -/
theorem rfb_L {n L e : Nat} {c : Nat → Nat} {BC BR0 : St} (hT0 : atx n L e c BC BR0) {q p1 κ v1 : Nat} {x : Int32} (T : TS n L e c BC q q p1 κ 1 v1 x) (hN : NAr n L c q (p1 - q) 127 0) {p2 m : Nat} {P : Nat → Tp} (R : RX n L e c BC p1 true p2 m P) {X0 : Nat → Nat} {W0 : Nat → Int32} {n0 : Nat} {z : Int32} (hF : FXD c e X0 W0 n0 P m z) {se : Nat} : RFB n L e c BC q se 0 3 0 (some (-1 - z)) X0 W0 n0 (8, 0, 0, [], []) := by
  intro B X nL cu A ct ap μ gr PA BY OU S hV hc hE h14 hP hA hlw hl hb h hμ hw
  have qe : q ≤ e := T.1
  have eL' : e ≤ L := hT0.2.2.1
  have L' : L ≤ 32768 := hT0.2.1
  obtain ⟨m1, m2, m3, m4, m5⟩ := md_n (B := B) hμ
  have hV' := RV_p15 hV (nI μ)
  have hY : PY PA cu q := ⟨A * 2 ^ 17 + q, hP, by omega, by omega⟩
  have ou : ∀ O : Nat → Int32, (if μ = 3 then wrL O (sI B 19).toNatClampNeg [] else O) = O := fun O => by split <;> rfl
  obtain ⟨S1, e1, e2, e3⟩ := stm_2 hV.1 hc h (nI μ) T hN
  obtain ⟨S2, f1, f2, f3⟩ := fix_L hV' hY e2 (by rw [m1]; exact m2) R hF hE 0 10
  have hcu := hV.2.2.2.2.2.2.1
  have h16 := hV.2.2.2.2.2.1
  have s16 : sI S2 16 = nI cu := (SR_16 f3).trans h16
  have bu : upd BY cu (-1 - z) = BY := funext fun i => by
    unfold upd
    by_cases w : i = cu
    · rw [if_pos w, w]; exact (hb _ rfl).symm
    · rw [if_neg w]
  have f4 := SR_w5 f3 (upd BY cu (-1 - z))
  rw [bu] at f4
  refine ⟨pR S2 5 BY, ?_, fun _ w => absurd rfl w, fun _ => ⟨0, p2, gr, f2, fun u => absurd (show (8 : Nat) = 1 ∨ (8 : Nat) = 2 from u) (by decide), ?_⟩⟩
  · rw [e1, dsp_49 e3 (sgm 127) (sgm_l (by omega)) dirA.2.2.2.2.2.2.2.2.2.1 0]
    unfold df_X13_directive df_X13_directive_0 df_X13_directive_185
    rw [if_pos (by decide), if_neg (by decide), if_neg (by decide), if_pos rfl, f1, nb_b2, s16, nm_ck hcu (by omega), nI_clamp (by omega), SR_r5 f3, bu, nb_let, nb_b1]
    exact s326 (by rw [SR_15 f4, m1]; exact m2)
  · show SR (pI B 15 (nI μ)) 0 gr PA BY (if μ = 3 then wrL OU (sI B 19).toNatClampNeg [] else OU) 0 p2 (pR S2 5 BY)
    rw [ou]
    exact f4
/-- .equ -/
theorem rfb_E {n L e : Nat} {c : Nat → Nat} {BC BR0 : St} (hT0 : atx n L e c BC BR0) {q p1 κ v1 : Nat} {x : Int32} (T : TS n L e c BC q q p1 κ 1 v1 x) (hN : NAr n L c q (p1 - q) 120 0) {q1 p3 κ1 τ1 w1 : Nat} {x1 : Int32} (T1 : TS n L e c BC p1 q1 p3 κ1 τ1 w1 x1) (t1 : τ1 = 1) {q2 p4 κ2 τ2 w2 : Nat} {x2 : Int32} (T2 : TS n L e c BC p3 q2 p4 κ2 τ2 w2 x2) (t2 : τ2 = 44) {p2 m : Nat} {P : Nat → Tp} (R : RX n L e c BC p4 true p2 m P) {X0 : Nat → Nat} {W0 : Nat → Int32} {n0 : Nat} {z : Int32} (hF : FXD c e X0 W0 n0 P m z) {se : Nat} : RFB n L e c BC q se 0 3 0 none X0 W0 n0 (9, 0, 0, [], []) := by
  intro B X nL cu A ct ap μ gr PA BY OU S hV hc hE h14 hP hA hlw hl hb h hμ hw
  have qe : q ≤ e := T.1
  have eL' : e ≤ L := hT0.2.2.1
  have L' : L ≤ 32768 := hT0.2.1
  obtain ⟨m1, m2, m3, m4, m5⟩ := md_n (B := B) hμ
  have hV' := RV_p15 hV (nI μ)
  have hY : PY PA cu q := ⟨A * 2 ^ 17 + q, hP, by omega, by omega⟩
  have ou : ∀ O : Nat → Int32, (if μ = 3 then wrL O (sI B 19).toNatClampNeg [] else O) = O := fun O => by split <;> rfl
  obtain ⟨S1, e1, e2, e3⟩ := stm_2 hV.1 hc h (nI μ) T hN
  obtain ⟨S2, f1, f2, _⟩ := ned_y (B := pI B 15 (nI μ)) hV.1 e2 T1 1 (by omega) (by omega) t1
  obtain ⟨S3, f3, f4⟩ := com_y (B := pI B 15 (nI μ)) hV.1 f2 T2 t2
  obtain ⟨S4, f5, f6, f7⟩ := fix_L hV' hY f4 (by rw [m1]; exact m2) R hF hE (-2147483648) 2147483647
  have nm : ¬ sI S4 15 = 0 := by rw [SR_15 f7, m1]; exact m2
  have nm2 : ¬ sI S2 15 = 0 := by rw [SR_15 f2, m1]; exact m2
  refine ⟨S4, ?_, fun _ w => absurd rfl w, fun _ => ⟨0, p2, gr, f6, fun u => absurd (show (9 : Nat) = 1 ∨ (9 : Nat) = 2 from u) (by decide), ?_⟩⟩
  · rw [e1, dsp_42 e3 (sgm 120) (sgm_l (by omega)) dirA.2.2.1 0]
    unfold df_X13_directive df_X13_directive_0 df_X13_directive_185 df_X13_constant df_X13_constant_0
    rw [if_pos (by decide), if_pos rfl, show df_X13_needs n 1 S1 = some (1, S2) from f1, nb_b2, if_neg (by decide), nb_let, nb_let, if_neg nm2]
    unfold df_X13_constant_49 df_X13_constant_90
    rw [f3, nb_b2, if_neg (by decide), f5, nb_b2, if_neg nm, nb_b1, nb_b1]
    exact s326 nm
  · show SR (pI B 15 (nI μ)) 0 gr PA BY (if μ = 3 then wrL OU (sI B 19).toNatClampNeg [] else OU) 0 p2 S4
    rw [ou]
    exact f7
/-- .text, .data in their own section -/
theorem rfb_T {n L e : Nat} {c : Nat → Nat} {BC BR0 : St} (hT0 : atx n L e c BC BR0) {q p1 κ v1 : Nat} {x : Int32} (T : TS n L e c BC q q p1 κ 1 v1 x) {y : Nat} (hy : y = 118 ∨ y = 119) (hN : NAr n L c q (p1 - q) y 0) (hp1 : p1 ≤ e) {X0 : Nat → Nat} {W0 : Nat → Int32} {n0 : Nat} : RFB n L e c BC q (y - 118) 0 3 0 none X0 W0 n0 (9, 0, 0, [], []) := by
  intro B X nL cu A ct ap μ gr PA BY OU S hV hc hE h14 hP hA hlw hl hb h hμ hw
  have qe : q ≤ e := T.1
  have eL' : e ≤ L := hT0.2.2.1
  have L' : L ≤ 32768 := hT0.2.1
  obtain ⟨m1, m2, m3, m4, m5⟩ := md_n (B := B) hμ
  have hV' := RV_p15 hV (nI μ)
  have hY : PY PA cu q := ⟨A * 2 ^ 17 + q, hP, by omega, by omega⟩
  have ou : ∀ O : Nat → Int32, (if μ = 3 then wrL O (sI B 19).toNatClampNeg [] else O) = O := fun O => by split <;> rfl
  obtain ⟨S1, e1, e2, e3⟩ := stm_2 hV.1 hc h (nI μ) T hN
  have h14' : sI S1 14 = nI (y - 118) := (SR_14 e2).trans h14
  refine ⟨S1, ?_, fun _ w => absurd rfl w, fun _ => ⟨0, p1, gr, hp1, fun u => absurd (show (9 : Nat) = 1 ∨ (9 : Nat) = 2 from u) (by decide), ?_⟩⟩
  · have fin : df_X13_statement_326 n S1 = some S1 := s326 (by rw [SR_15 e2, m1]; exact m2)
    rcases hy with hy | hy <;> subst hy
    · rw [e1, dsp_40 e3 (sgm 118) (sgm_l (by omega)) dirA.1 0]
      unfold df_X13_directive df_X13_directive_0 df_X13_directive_185
      rw [if_neg (by decide), show (40 : Int32) - 40 = sI S1 14 from h14'.symm, pI_s, nb_let, nb_b1, fin]
    · rw [e1, dsp_41 e3 (sgm 119) (sgm_l (by omega)) dirA.2.1 0]
      unfold df_X13_directive df_X13_directive_0 df_X13_directive_185
      rw [if_neg (by decide), show (41 : Int32) - 40 = sI S1 14 from h14'.symm, pI_s, nb_let, nb_b1, fin]
  · show SR (pI B 15 (nI μ)) 0 gr PA BY (if μ = 3 then wrL OU (sI B 19).toNatClampNeg [] else OU) 0 p1 S1
    rw [ou]
    exact e2
/-- .space and .align as they are read -/
theorem rdr_S {n L e : Nat} {c : Nat → Nat} {BC B : St} {X : Nat → Nat} {nL cu : Nat} (hV : RV n L e c BC B X nL cu) (hc : cstS B) {ct : Nat} {gr : Bool} {PA BY OU : Nat → Int32} {ap : Nat} {S : St} (h : SR B ct gr PA BY OU 0 ap S) {q p1 κ v1 : Nat} {x : Int32} (T : TS n L e c BC q q p1 κ 1 v1 x) (hY : PY PA cu q) (hN : NAr n L c q (p1 - q) 126 0) {ok : Bool} {p2 m : Nat} {P : Nat → Tp} (R : RX n L e c BC p1 ok p2 m P) : ∃ S' : St, df_X13_statement n (nI q) 0 S = df_X13_statement_326 n S' ∧ (ok = false → FL e (pI B 15 0) (nI 1 + 16 * sI B 13) S') ∧ (ok = true → one P m ∧ p2 ≤ e ∧ (fxR (!lsF (loV c X e nL) P m) (zV (VW c X e nL q B) P m) (dV (VW c X e nL q B) P m) 0 32768 = 0 → ∃ k : Nat, k ≤ 32768 ∧ zV (VW c X e nL q B) P m = nI k ∧ SR (pI B 15 0) k gr PA BY OU 0 p2 S') ∧ (¬ fxR (!lsF (loV c X e nL) P m) (zV (VW c X e nL q B) P m) (dV (VW c X e nL q B) P m) 0 32768 = 0 → FL e (pI B 15 0) (nI (fxR (!lsF (loV c X e nL) P m) (zV (VW c X e nL q B) P m) (dV (VW c X e nL q B) P m) 0 32768) + 16 * sI B 13) S')) := by
  obtain ⟨S1, e1, e2, e3⟩ := stm_2 hV.1 hc h 0 T hN
  have hd : ∀ (w : Int32) (S2 : St), df_X13_fixed n 0 32768 S1 = some (w, S2) → df_X13_statement n (nI q) 0 S = df_X13_statement_326 n (pI S2 18 (nI 0 + w)) := fun w S2 f => by
    rw [e1, dsp_48 e3 (sgm 126) (sgm_l (by omega)) dirA.2.2.2.2.2.2.2.2.1 0]
    unfold df_X13_directive df_X13_directive_0 df_X13_directive_185
    rw [if_pos (by decide), if_neg (by decide), if_pos rfl, f, nb_b2, SR_18 e2, nb_let, nb_b1]
  have flw : ∀ (ft : Int32) (S2 : St) (v : Int32), FL e (pI B 15 0) ft S2 → FL e (pI B 15 0) ft (pI S2 18 v) := fun ft S2 v hh => by
    obtain ⟨ct', gr', PA', BY', OU', ap', h1, h2⟩ := hh
    obtain ⟨k, hk, rfl⟩ := nI_ex v
    exact ⟨_, _, _, _, _, _, h1, SR_w18 h2 k⟩
  cases ok with
  | false =>
    obtain ⟨w, S2, f1, f2⟩ := fix_f (RV_p15 hV 0) hY e2 R 0 32768
    exact ⟨_, hd w S2 f1, fun _ => flw _ _ _ f2, fun u => (nomatch u)⟩
  | true =>
    obtain ⟨w, S2, f1, f2, f3, f4, f5, f6⟩ := fix_R (RV_p15 hV 0) hY e2 rfl R 0 32768
    have f3 : w = zV (VW c X e nL q B) P m := f3
    subst f3
    refine ⟨_, hd _ S2 f1, fun u => (nomatch u), fun _ => ⟨f6, f2, fun u => ?_, fun u => flw _ _ _ (f5 u)⟩⟩
    have rg : ¬ (zV (VW c X e nL q B) P m < 0 ∨ 32768 < zV (VW c X e nL q B) P m) := fun z => by
      have u : fxR (!lsF (loV c X e nL) P m) (zV (VW c X e nL q B) P m) (dV (VW c X e nL q B) P m) 0 32768 = 0 := u
      unfold fxR at u
      rw [if_pos z] at u
      split at u
      · exact absurd u (by decide)
      · split at u <;> exact absurd u (by decide)
    obtain ⟨k, hk, ek⟩ := nI_of2 (M := 32768) (n := 32768) (by decide) (fun z => rg (Or.inl z)) (Int32.not_lt.mp (fun z => rg (Or.inr z)))
    refine ⟨k, hk, ek, ?_⟩
    rw [ek, nI_add, Nat.zero_add]
    exact SR_w18 (f4 u) k

/-- .byte .half .word: a list of expressions, read from a place on -/
def LTr (n L e : Nat) (c : Nat → Nat) (BC : St) : List (Nat × (Nat → Tp)) → Nat → Nat → Nat → Prop
  | [], _, _, _ => False
  | y :: ys, p, f, p2 => ∃ (ok : Bool) (px : Nat), RX n L e c BC p ok px y.1 y.2 ∧ ((ok = false ∧ f = 1 ∧ ys = []) ∨ (ok = true ∧ p ≤ px ∧ px ≤ e ∧ ∃ (q p' κ τ v : Nat) (x : Int32), TS n L e c BC px q p' κ τ v x ∧ ((¬ τ = 44 ∧ ys = [] ∧ (f = if τ = 0 then 0 else 1) ∧ p2 = px) ∨ (τ = 44 ∧ LTr n L e c BC ys p' f p2))))
theorem ptK_S {n : Nat} {B : St} {gr : Bool} {PA BY : Nat → Int32} {ft : Int32} {ap : Nat} (G : Int32 → Int32 → Int32 → St → Option St) (x1 v : Int32) (k : Nat) (hk : k ≤ 4) : ∀ (j i g ct : Nat) (OU : Nat → Int32) (S : St), i + j = k → j < g → SR B ct gr PA BY OU ft ap S → OKW B (ct + j) → ∃ S' : St, df_X13_directive_129 n G g x1 (nI k) v (nI i) S = df_X13_directive_153 n G x1 (nI k) S' ∧ SR B (ct + j) gr PA BY (pt B ct OU (byK v j i)) ft ap S' := fun j => by
  induction j with
  | zero =>
    intro i g ct OU S h1 h2 h hw
    obtain ⟨g, rfl⟩ : ∃ m : Nat, g = m + 1 := ⟨g - 1, by omega⟩
    refine ⟨S, ?_, ?_⟩
    · show dF_X13_directive_129 n G (df_X13_directive_129 n G g) x1 (nI k) v (nI i) S = _
      unfold dF_X13_directive_129
      rw [if_pos (zle (by omega) (by omega))]
    · rw [show pt B ct OU (byK v 0 i) = OU by unfold pt; split <;> rfl]
      exact h
  | succ j ih =>
    intro i g ct OU S h1 h2 h hw
    obtain ⟨g, rfl⟩ : ∃ m : Nat, g = m + 1 := ⟨g - 1, by omega⟩
    obtain ⟨S1, e1, h3⟩ := put_S (n := n) h (OKW_m hw (by omega)) (v >>> ((8 * nI i) &&& 31))
    obtain ⟨S2, e2, h4⟩ := ih (i + 1) g (ct + 1) _ S1 (by omega) (by omega) h3 (OKW_m hw (by omega))
    refine ⟨S2, ?_, ?_⟩
    · show dF_X13_directive_129 n G (df_X13_directive_129 n G g) x1 (nI k) v (nI i) S = _
      unfold dF_X13_directive_129
      rw [if_neg (znle (by omega) (by omega)), e1, nb_b1, nb_let, i1_n]
      exact e2
    · rw [show pt B (ct + 1) (pt B ct OU [v >>> ((8 * nI i) &&& 31)]) (byK v j (i + 1)) = pt B ct OU (byK v (j + 1) i) from pt_a [v >>> ((8 * nI i) &&& 31)] _, show ct + 1 + j = ct + (j + 1) by omega] at h4
      exact h4
theorem ptK_F {n e : Nat} {B : St} {ft : Int32} (m3 : ¬ sI B 15 = 3) (G : Int32 → Int32 → Int32 → St → Option St) (x1 v : Int32) (k : Nat) (hk : k ≤ 4) : ∀ (j i g : Nat) (S : St), i + j = k → j < g → FL e B ft S → ∃ S' : St, df_X13_directive_129 n G g x1 (nI k) v (nI i) S = df_X13_directive_153 n G x1 (nI k) S' ∧ FL e B ft S' := fun j => by
  induction j with
  | zero =>
    intro i g S h1 h2 h
    obtain ⟨g, rfl⟩ : ∃ m : Nat, g = m + 1 := ⟨g - 1, by omega⟩
    refine ⟨S, ?_, h⟩
    show dF_X13_directive_129 n G (df_X13_directive_129 n G g) x1 (nI k) v (nI i) S = _
    unfold dF_X13_directive_129
    rw [if_pos (zle (by omega) (by omega))]
  | succ j ih =>
    intro i g S h1 h2 h
    obtain ⟨g, rfl⟩ : ∃ m : Nat, g = m + 1 := ⟨g - 1, by omega⟩
    obtain ⟨S1, e1, h3⟩ := put_F (n := n) h m3 (v >>> ((8 * nI i) &&& 31))
    obtain ⟨S2, e2, h4⟩ := ih (i + 1) g S1 (by omega) (by omega) h3
    refine ⟨S2, ?_, h4⟩
    show dF_X13_directive_129 n G (df_X13_directive_129 n G g) x1 (nI k) v (nI i) S = _
    unfold dF_X13_directive_129
    rw [if_neg (znle (by omega) (by omega)), e1, nb_b1, nb_let, i1_n]
    exact e2
theorem byK_l (v : Int32) : ∀ k i : Nat, (byK v k i).length = k := fun k => by
  induction k with
  | zero => intro i; rfl
  | succ k ih => intro i; show (byK v k (i + 1)).length + 1 = k + 1; rw [ih]
theorem d87_0 {n g : Nat} {x1 x2 : Int32} {S : St} : df_X13_directive_87 n (g + 1) x1 x2 0 S = some S := by
  show dF_X13_directive_87 n (df_X13_directive_87 n g) x1 x2 0 S = _
  unfold dF_X13_directive_87 df_X13_directive_185
  rw [if_pos rfl]
theorem d153_F {n g e : Nat} {B : St} {ft : Int32} {S : St} (h : FL e B ft S) (hf : ¬ ft = 0) (x1 x2 : Int32) : df_X13_directive_153 n (df_X13_directive_87 n (g + 1)) x1 x2 S = some S := by
  unfold df_X13_directive_153 df_X13_directive_180 df_X13_directive_181
  rw [if_neg (by rw [(FL_f h).1]; exact hf)]
  exact d87_0
/-- where a list ends; each of its expressions makes one value -/
theorem LTr_e {n L e : Nat} {c : Nat → Nat} {BC : St} {ys : List (Nat × (Nat → Tp))} {px p' τ f p2 : Nat} (h : (¬ τ = 44 ∧ ys = [] ∧ (f = if τ = 0 then 0 else 1) ∧ p2 = px) ∨ (τ = 44 ∧ LTr n L e c BC ys p' f p2)) (hp : px ≤ e) (h0 : f = 0) : p2 ≤ e := by
  rcases h with h | h
  · omega
  · have key : ∀ (ys : List (Nat × (Nat → Tp))) (p : Nat), LTr n L e c BC ys p f p2 → p2 ≤ e := fun ys => by
      induction ys with
      | nil => intro p h; exact h.elim
      | cons y ys ih =>
        intro p h
        obtain ⟨ok, px, R, h⟩ := h
        rcases h with h | ⟨_, _, z2, q, p', κ, τ, v, x, T, h⟩
        · omega
        · rcases h with h | h
          · omega
          · exact ih p' h.2
    exact key ys p' h.2
theorem LTr_1 {n L e : Nat} {c : Nat → Nat} {BC B : St} {X : Nat → Nat} {nL st cu : Nat} (hV : RV n L e c BC B X nL cu) {PA : Nat → Int32} (hY : PY PA cu st) {y : Nat × (Nat → Tp)} {ys : List (Nat × (Nat → Tp))} {px p' τ f p2 : Nat} (h : (¬ τ = 44 ∧ ys = [] ∧ (f = if τ = 0 then 0 else 1) ∧ p2 = px) ∨ (τ = 44 ∧ LTr n L e c BC ys p' f p2)) (h0 : f = 0) (o1 : one y.2 y.1) : ∀ y' : Nat × (Nat → Tp), y' ∈ y :: ys → one y'.2 y'.1 := by
  have key : ∀ (ys : List (Nat × (Nat → Tp))) (p : Nat), LTr n L e c BC ys p f p2 → ∀ y' : Nat × (Nat → Tp), y' ∈ ys → one y'.2 y'.1 := fun ys => by
    induction ys with
    | nil => intro p h; exact h.elim
    | cons y ys ih =>
      intro p h y' hy'
      obtain ⟨ok, px, R, h⟩ := h
      rcases h with h | ⟨rfl, _, z2, q, p', κ, τ, v, x, T, h⟩
      · omega
      · have hA : SR B 0 false PA PA PA 0 p (uR (xR (yR B 0 false PA PA PA) 0 false false false 0 0 PA) p 0 0 0 0) := ⟨false, false, false, 0, 0, PA, 0, 0, 0, 0, rfl⟩
        obtain ⟨w, S1, ms, dv, _, _, _, _, _, e6, _⟩ := exp_y hV hY hA R
        rcases List.mem_cons.mp hy' with r | r
        · rw [r]; exact one_1 e6
        · rcases h with h | h
          · rw [h.2.1] at r; exact absurd r (List.not_mem_nil)
          · exact ih p' h.2 y' r
  intro y' hy'
  rcases List.mem_cons.mp hy' with r | r
  · rw [r]; exact o1
  · rcases h with h | h
    · rw [h.2.1] at r; exact absurd r (List.not_mem_nil)
    · exact key ys p' h.2 y' r
/-- a list in the reference, in every round -/
theorem lst_R {n L e : Nat} {c : Nat → Nat} {BC B : St} {X : Nat → Nat} {nL st cu : Nat} (hV : RV n L e c BC B X nL cu) {gr : Bool} {PA BY : Nat → Int32} (hY : PY PA cu st) (x1 : Int32) (k : Nat) (hk : 1 ≤ k ∧ k ≤ 4) {f p2 : Nat} (h0 : ¬ f = 0 → sI B 15 = 0) : ∀ (ys : List (Nat × (Nat → Tp))) (p ct g : Nat) (OU : Nat → Int32) (S : St), SR B ct gr PA BY OU 0 p S → OKW B (ct + k * ys.length) → ys.length < g → LTr n L e c BC ys p f p2 → ∃ S' : St, df_X13_directive_87 n g x1 (nI k) 1 S = some S' ∧ (¬ f = 0 → FL e B (nI f + 16 * sI B 13) S') ∧ (f = 0 → p2 ≤ e ∧ (∀ y : Nat × (Nat → Tp), y ∈ ys → one y.2 y.1) ∧ (sI B 15 = 2 → ¬ liF (VW c X e nL st B) ys = 0 → FL e B (nI (liF (VW c X e nL st B) ys) + 16 * sI B 13) S') ∧ ((sI B 15 = 2 → liF (VW c X e nL st B) ys = 0) → SR B (ct + k * ys.length) gr PA BY (pt B ct OU (liB (VW c X e nL st B) k ys)) 0 p2 S')) := fun ys => by
  have hT := hV.1
  have hl := hV.2.2.2.2.2.2.2
  have hn : 70000 < n := hT.1
  induction ys with
  | nil => intro p ct g OU S _ _ _ h; exact h.elim
  | cons y ys ih =>
    intro p ct g OU S h hw hg hTr
    obtain ⟨g, rfl⟩ : ∃ m : Nat, g = m + 1 := ⟨g - 1, by omega⟩
    have hg : ys.length + 1 < g + 1 := hg
    obtain ⟨g, rfl⟩ : ∃ m : Nat, g = m + 1 := ⟨g - 1, by omega⟩
    have kl : k * (ys.length + 1) = k + k * ys.length := by rw [Nat.mul_add, Nat.mul_one, Nat.add_comm]
    have hw : OKW B (ct + k * (ys.length + 1)) := hw
    have hd : ∀ (w : Int32) (S1 : St), df_X13_expression n S = some (w, S1) → df_X13_directive_87 n (g + 1 + 1) x1 (nI k) 1 S = df_X13_directive_129 n (df_X13_directive_87 n (g + 1)) n x1 (nI k) w (nI 0) S1 := fun w S1 e1 => by
      show dF_X13_directive_87 n (df_X13_directive_87 n (g + 1)) x1 (nI k) 1 S = _
      unfold dF_X13_directive_87
      rw [if_neg (by decide), if_pos (SR_12 h), if_neg (show ¬ nI k = (0 : Int32) from zne (b := 0) (by omega) (by omega) (by omega)), e1, nb_b2]
      rfl
    obtain ⟨ok, px, R, hTr⟩ := hTr
    rcases hTr with ⟨rfl, hf, hys⟩ | ⟨rfl, z1, z2, q, p', κ, τ, v, x, T, hTr⟩
    · obtain ⟨w, S1, e1, fl⟩ := exp_n hV hY h R
      have m0 := h0 (by omega)
      have ne : ¬ nI 1 + 16 * sI B 13 = 0 := flt_n hl 1 (by omega)
      have fl : FL e B (nI 1 + 16 * sI B 13) S1 := fl
      obtain ⟨S2, e2, f2⟩ := ptK_F (n := n) (m0_3 m0) (df_X13_directive_87 n (g + 1)) x1 w k hk.2 k 0 n S1 (by omega) (by omega) fl
      refine ⟨S2, ?_, fun _ => ?_, fun u => by omega⟩
      · rw [hd w S1 e1, e2, d153_F f2 ne]
      · rw [hf]; exact f2
    · obtain ⟨w, S1, ms, dv, e1, e2, e3, e4, e5, e6, e7⟩ := exp_y hV hY h R
      obtain ⟨y1, y2, y3⟩ := zmd e6
      have o1 := one_1 e6
      by_cases zz : exF B ms dv = 0
      rotate_left
      · -- a fault in CHECK
        have fl : FL e B (exF B ms dv) S1 := SR_FL e2 e3
        have m2 : sI B 15 = 2 := Classical.byContradiction fun u => zz ((exF_0 hl).mpr (fun w => u w.1))
        have f0 := f0_2 h0 m2
        obtain ⟨S2, e8, f2⟩ := ptK_F (n := n) (m2_3 m2) (df_X13_directive_87 n (g + 1)) x1 w k hk.2 k 0 n S1 (by omega) (by omega) fl
        have vf : exF B ms dv = nI (vF ms dv true) + 16 * sI B 13 ∧ ¬ vF ms dv true = 0 := by
          have md := Classical.byContradiction (fun u => zz ((exF_0 hl).mpr u))
          unfold exF vF
          rw [if_pos md]
          cases ms with
          | true => exact ⟨rfl, (by decide : ¬ (8 : Nat) = 0)⟩
          | false =>
            cases dv with
            | true => exact ⟨rfl, (by decide : ¬ (9 : Nat) = 0)⟩
            | false => rcases md.2 with u | u <;> exact nomatch u
        have lf : liF (VW c X e nL st B) (y :: ys) = vF ms dv true := by
          show (if vF (mV (VW c X e nL st B) y.2 y.1) (dV (VW c X e nL st B) y.2 y.1) true = 0 then liF (VW c X e nL st B) ys else vF (mV (VW c X e nL st B) y.2 y.1) (dV (VW c X e nL st B) y.2 y.1) true) = _
          rw [← y2, ← y3, if_neg vf.2]
        refine ⟨S2, ?_, fun u => absurd f0 u, fun _ => ⟨?_, ?_, fun _ _ => ?_, fun u => absurd (u m2) (fun w => vf.2 (lf.symm.trans w))⟩⟩
        · rw [hd w S1 e1, e8, d153_F f2 zz]
        · exact LTr_e hTr z2 f0
        · exact LTr_1 hV hY hTr f0 o1
        · rw [lf, ← vf.1]; exact f2
      · rw [zz] at e2
        have lf : sI B 15 = 2 → vF (mV (VW c X e nL st B) y.2 y.1) (dV (VW c X e nL st B) y.2 y.1) true = 0 := fun m2 => by
          have md := (exF_0 hl).mp zz
          rw [← y2, ← y3]
          unfold vF
          rw [if_neg (fun u => md ⟨m2, Or.inl u⟩), if_neg (fun u => md ⟨m2, Or.inr u⟩), if_pos rfl]
        obtain ⟨S2, e8, h2⟩ := ptK_S (n := n) (df_X13_directive_87 n (g + 1)) x1 w k hk.2 k 0 n ct OU S1 (by omega) (by omega) e2 (OKW_m hw (by omega))
        have hd2 : df_X13_directive_87 n (g + 1 + 1) x1 (nI k) 1 S = df_X13_directive_153 n (df_X13_directive_87 n (g + 1)) x1 (nI k) S2 := (hd w S1 e1).trans e8
        obtain ⟨S3, f3, h3⟩ := ise_S hT h2 T
        rcases hTr with ⟨t1, hys, hf, hp2⟩ | ⟨t1, hTr⟩
        · subst hys
          subst hp2
          by_cases t0 : τ = 0
          · rw [if_pos t0] at hf
            rw [decide_eq_true t0] at f3
            have lfy : sI B 15 = 2 → liF (VW c X e nL st B) [y] = 0 := fun m2 => by
              show (if vF (mV (VW c X e nL st B) y.2 y.1) (dV (VW c X e nL st B) y.2 y.1) true = 0 then 0 else _) = 0
              rw [if_pos (lf m2)]
            refine ⟨S3, ?_, fun u => absurd hf u, fun _ => ⟨z2, fun y' hy' => ?_, fun m2 u => absurd (lfy m2) u, fun _ => ?_⟩⟩
            · rw [hd2]
              unfold df_X13_directive_153 df_X13_directive_180 df_X13_directive_181
              rw [if_pos (SR_12 h2), f3, nb_b2, if_neg (show ¬ bI true = 0 by decide)]
              exact d87_0
            · rw [List.mem_singleton.mp hy']; exact o1
            · show SR B (ct + k * 1) gr PA BY (pt B ct OU (byK (zV (VW c X e nL st B) y.2 y.1) k 0 ++ [])) 0 p2 S3
              rw [Nat.mul_one, List.append_nil, ← y1]
              exact h3
          · rw [if_neg t0] at hf
            rw [decide_eq_false t0] at f3
            have m0 := h0 (by omega)
            obtain ⟨S4, f4, h4⟩ := ned_n hT h3 T 44 (by omega) t1
            have h4 := FN_L h4
            refine ⟨S4, ?_, fun _ => by rw [hf]; exact h4, fun u => by omega⟩
            rw [hd2]
            unfold df_X13_directive_153 df_X13_directive_180 df_X13_directive_181
            rw [if_pos (SR_12 h2), f3, nb_b2, if_pos (show bI false = 0 from rfl), show df_X13_needs n 44 S3 = some (0, S4) from f4, nb_b2, if_pos rfl]
            exact d87_0
        · rw [decide_eq_false (show ¬ τ = 0 by omega)] at f3
          obtain ⟨S4, f4, h4, _⟩ := ned_y hT h3 T 44 (by omega) (by omega) t1
          obtain ⟨S5, f5, i1, i2⟩ := ih p' (ct + k) (g + 1) _ S4 h4 (OKW_m hw (by omega)) (by omega) hTr
          refine ⟨S5, ?_, i1, fun u => ?_⟩
          · rw [hd2, ← f5]
            unfold df_X13_directive_153 df_X13_directive_181
            rw [if_pos (SR_12 h2), f3, nb_b2, if_pos (show bI false = 0 from rfl), show df_X13_needs n 44 S3 = some (1, S4) from f4, nb_b2, if_neg (by decide)]
          · obtain ⟨j1, j2, j3, j4⟩ := i2 u
            have lc : sI B 15 = 2 → liF (VW c X e nL st B) (y :: ys) = liF (VW c X e nL st B) ys := fun m2 => by
              show (if vF (mV (VW c X e nL st B) y.2 y.1) (dV (VW c X e nL st B) y.2 y.1) true = 0 then liF (VW c X e nL st B) ys else _) = _
              rw [if_pos (lf m2)]
            refine ⟨j1, fun y' hy' => ?_, fun m2 w => ?_, fun w => ?_⟩
            · rcases List.mem_cons.mp hy' with r | r
              · rw [r]; exact o1
              · exact j2 y' r
            · rw [lc m2] at w ⊢
              exact j3 m2 w
            · have := j4 (fun m2 => by rw [← lc m2]; exact w m2)
              show SR B (ct + k * (ys.length + 1)) gr PA BY (pt B ct OU (byK (zV (VW c X e nL st B) y.2 y.1) k 0 ++ liB (VW c X e nL st B) k ys)) 0 p2 S5
              rw [← pt_a, byK_l, ← y1, kl, ← Nat.add_assoc]
              exact this

/-- lists in later rounds and as they are read -/
theorem dirK {y : Nat} (h : y = 121 ∨ y = 122 ∨ y = 123) : ∃ s k : Nat, (s = 43 ∨ s = 44 ∨ s = 45) ∧ (k = 1 ∨ k = 2 ∨ k = 4) ∧ k = (if y = 121 then 1 else if y = 122 then 2 else 4) ∧ ∀ (n : Nat) (S : St), cstS S → df_X13_statement_136 n (nI (sgm y)) 0 S = nd_b1 (df_X13_directive_87 n n (nI s) (nI k) 1 S) (fun (s : St) => df_X13_statement_326 n s) := by
  obtain ⟨_, _, _, a4, a5, a6, _, _, _, _, b1, b2, b3, _⟩ := dirA
  rcases h with h | h | h <;> subst h
  · refine ⟨43, 1, by omega, by omega, rfl, fun n S hc => ?_⟩
    rw [dsp_43 hc (sgm 121) (sgm_l (by omega)) a4 0, b1, or_0]
    unfold df_X13_directive df_X13_directive_0
    rw [if_pos (by decide), if_neg (by decide), if_neg (by decide), if_neg (by decide)]
    rfl
  · refine ⟨44, 2, by omega, by omega, rfl, fun n S hc => ?_⟩
    rw [dsp_44 hc (sgm 122) (sgm_l (by omega)) a5 0, b2, or_0]
    unfold df_X13_directive df_X13_directive_0
    rw [if_pos (by decide), if_neg (by decide), if_neg (by decide), if_neg (by decide)]
    rfl
  · refine ⟨45, 4, by omega, by omega, rfl, fun n S hc => ?_⟩
    rw [dsp_45 hc (sgm 123) (sgm_l (by omega)) a6 0, b3, or_0]
    unfold df_X13_directive df_X13_directive_0
    rw [if_pos (by decide), if_neg (by decide), if_neg (by decide), if_neg (by decide)]
    rfl
def kdY (y : Nat) : Nat := if y = 121 then 1 else if y = 122 then 2 else 4
theorem rfb_I {n L e : Nat} {c : Nat → Nat} {BC BR0 : St} (hT0 : atx n L e c BC BR0) {q p1 κ v1 : Nat} {x : Int32} (T : TS n L e c BC q q p1 κ 1 v1 x) {y : Nat} (hy : y = 121 ∨ y = 122 ∨ y = 123) (hN : NAr n L c q (p1 - q) y 0) {ys : List (Nat × (Nat → Tp))} (hys : ys.length ≤ 40000) {p2 : Nat} (hTr : LTr n L e c BC ys p1 0 p2) {se : Nat} {X0 : Nat → Nat} {W0 : Nat → Int32} {n0 : Nat} : RFB n L e c BC q se 0 3 (kdY y * ys.length) none X0 W0 n0 (5, nI (kdY y), kdY y, ys, []) := by
  intro B X nL cu A ct ap μ gr PA BY OU S hV hc hE h14 hP hA hlw hl hb h hμ hw
  have qe : q ≤ e := T.1
  have eL' : e ≤ L := hT0.2.2.1
  have L' : L ≤ 32768 := hT0.2.1
  have hn : 70000 < n := hT0.1
  obtain ⟨m1, m2, m3, m4, m5⟩ := md_n (B := B) hμ
  have hY : PY PA cu q := ⟨A * 2 ^ 17 + q, hP, by omega, by omega⟩
  obtain ⟨S1, e1, e2, e3⟩ := stm_2 hV.1 hc h (nI μ) T hN
  obtain ⟨s, k, s1, k1, k2, k3⟩ := dirK hy
  have k2 : k = kdY y := k2
  have hw : OKW (pI B 15 (nI μ)) (kdY y * ys.length) := hw
  rw [← k2] at hw ⊢
  obtain ⟨S2, r1, r2, r3⟩ := lst_R (RV_p15 hV (nI μ)) (gr := gr) (BY := BY) hY (nI s) k (by omega) (f := 0) (p2 := p2) (fun u => absurd rfl u) ys p1 0 n OU S1 e2 (by rw [Nat.zero_add]; exact hw) (by omega) hTr
  obtain ⟨j1, j2, j3, j4⟩ := r3 rfl
  have hd : df_X13_statement n (nI q) (nI μ) S = df_X13_statement_326 n S2 := by
    rw [e1, k3 n S1 e3, r1, nb_b1]
  have eF : sF (5, nI k, k, ys, []) (VW c X e nL q B) (sI B 17) (A % 4) = liF (VW c X e nL q B) ys := rfl
  have eB : sB (5, nI k, k, ys, []) (VW c X e nL q B) (sI B 17) (A % 4) = liB (VW c X e nL q B) k ys := rfl
  have j3 : nI μ = (2 : Int32) → ¬ liF (VW c X e nL q B) ys = 0 → FL e (pI B 15 (nI μ)) (nI (liF (VW c X e nL q B) ys) + 16 * sI B 13) S2 := j3
  have j4 : (nI μ = (2 : Int32) → liF (VW c X e nL q B) ys = 0) → SR (pI B 15 (nI μ)) (0 + k * ys.length) gr PA BY (pt (pI B 15 (nI μ)) 0 OU (liB (VW c X e nL q B) k ys)) 0 p2 S2 := j4
  have fin : df_X13_statement_326 n S2 = some S2 := s326 (by
    by_cases u : nI μ = (2 : Int32) ∧ ¬ liF (VW c X e nL q B) ys = 0
    · rw [(FL_f (j3 u.1 u.2)).2.1, m1]; exact m2
    · rw [SR_15 (j4 (fun w => Classical.byContradiction fun z => u ⟨w, z⟩)), m1]; exact m2)
  refine ⟨S2, hd.trans fin, fun u w => ?_, fun u => ?_⟩
  · rw [eF] at w ⊢
    exact j3 (m3.mpr u) w
  · rw [eF] at u
    have := j4 (fun w => u (m3.mp w))
    rw [pt_3 hμ] at this
    rw [eB]
    exact ⟨_, p2, gr, j1, fun z => absurd (show (5 : Nat) = 1 ∨ (5 : Nat) = 2 from z) (by decide), this⟩
theorem rdr_I {n L e : Nat} {c : Nat → Nat} {BC B : St} {X : Nat → Nat} {nL cu : Nat} (hV : RV n L e c BC B X nL cu) (hc : cstS B) {ct : Nat} {gr : Bool} {PA BY OU : Nat → Int32} {ap : Nat} {S : St} (h : SR B ct gr PA BY OU 0 ap S) {q p1 κ v1 : Nat} {x : Int32} (T : TS n L e c BC q q p1 κ 1 v1 x) (hY : PY PA cu q) {y : Nat} (hy : y = 121 ∨ y = 122 ∨ y = 123) (hN : NAr n L c q (p1 - q) y 0) {ys : List (Nat × (Nat → Tp))} (hys : ys.length ≤ 40000) {f p2 : Nat} (hTr : LTr n L e c BC ys p1 f p2) : ∃ S' : St, df_X13_statement n (nI q) 0 S = df_X13_statement_326 n S' ∧ (¬ f = 0 → FL e (pI B 15 0) (nI f + 16 * sI B 13) S') ∧ (f = 0 → p2 ≤ e ∧ (∀ y : Nat × (Nat → Tp), y ∈ ys → one y.2 y.1) ∧ SR (pI B 15 0) (kdY y * ys.length) gr PA BY OU 0 p2 S') := by
  have hn : 70000 < n := hV.1.1
  obtain ⟨S1, e1, e2, e3⟩ := stm_2 hV.1 hc h 0 T hN
  have ok0 : ∀ k : Nat, OKW (pI B 15 0) k := fun k u => absurd (show (0 : Int32) = 3 from u) (by decide)
  obtain ⟨s, k, s1, k1, k2, k3⟩ := dirK hy
  have k2 : k = kdY y := k2
  rw [← k2]
  obtain ⟨S2, r1, r2, r3⟩ := lst_R (RV_p15 hV 0) (gr := gr) (BY := BY) hY (nI s) k (by omega) (f := f) (p2 := p2) (fun _ => rfl) ys p1 0 n OU S1 e2 (ok0 _) (by omega) hTr
  refine ⟨S2, ?_, r2, fun u => ?_⟩
  · rw [e1, k3 n S1 e3, r1, nb_b1]
  · obtain ⟨j1, j2, j3, j4⟩ := r3 u
    have := j4 (fun w => absurd (show (0 : Int32) = 2 from w) (by decide))
    rw [Nat.zero_add, show ∀ bs : List Int32, pt (pI B 15 0) 0 OU bs = OU from fun bs => if_neg (show ¬ (0 : Int32) = 3 by decide)] at this
    exact ⟨j1, j2, this⟩

/-- the letters of a text in quotes -/
def txO (c : Nat → Nat) (e : Nat) : Nat → Nat → List Nat
  | 0, _ => []
  | k + 1, i => match shO c e i 34 with
    | none => []
    | some v => v :: txO c e k (i + wdO c e i)
def txI (l : List Nat) : List Int32 := l.map nI
theorem put_10 {n : Nat} {S S' : St} {v : Int32} (h : df_X13_put n v S = some S') : sI S' 10 = sI S 10 := by
  unfold df_X13_put df_X13_put_0 df_X13_put_27 at h
  by_cases y : sI S 15 = 3
  · rw [if_pos y] at h
    unfold nd_o nd_ck at h
    split at h
    · split at h
      · rw [nb_let, nb_let] at h
        rw [← Option.some.inj h]
        rfl
      · exact nomatch h
    · exact nomatch h
  · rw [if_neg y, nb_let] at h
    rw [← Option.some.inj h]
    rfl
theorem shn_S {n L e : Nat} {c : Nat → Nat} {BC B : St} (hT : atx n L e c BC B) {ct : Nat} {gr : Bool} {PA BY OU : Nat → Int32} {ft : Int32} {ap : Nat} {S : St} (h : SR B ct gr PA BY OU ft ap S) (i : Nat) (hi : i < e) (hl : ¬ c i = 10) : ∃ S' : St, df_X13_shown n (nI i) 34 S = some (oI (shO c e i 34), S') ∧ SR B ct gr PA BY OU ft ap S' ∧ sI S' 10 = nI (i + wdO c e i) := by
  obtain ⟨ms, dv, ls, sg, vl, PL, tk, fr, to, nm, rfl⟩ := h
  have r := ar_sh (n := n) (BR := xR (yR B ct gr PA BY OU) ft ms dv ls sg vl PL) (BC := BC) hT i 34 ap tk fr to nm (by omega) (Or.inl rfl) (fun _ => hl)
  rw [if_pos hi] at r
  exact ⟨_, r, ⟨ms, dv, ls, sg, vl, PL, tk, fr, _, nm, rfl⟩, rfl⟩
/-- the loop over a text -/
theorem qt_21 {n L e : Nat} {c : Nat → Nat} {BC B : St} (hT : atx n L e c BC B) {gr : Bool} {PA BY : Nat → Int32} {ap : Nat} (x1 : Int32) (z : Nat) (hz : z ≤ e) (hl : ∀ i : Nat, i < e → z ≤ i + 40000 → True) (lo : Nat) (hlo : ∀ i : Nat, lo ≤ i → i < e → ¬ c i = 10) : ∀ (k i ct g : Nat) (OU : Nat → Int32) (S : St), lo ≤ i → i ≤ e → e - i ≤ k → k + 1 < g → qE c e k i = z → SR B ct gr PA BY OU 0 ap S → OKW B (ct + (txO c e k i).length) → ∃ (S' : St) (g' : Nat), df_X13_quoted_21 n g x1 (nI (z + 1)) (nI i) S = dF_X13_quoted_21 n (df_X13_quoted_21 n g') x1 (nI (z + 1)) (nI z) S' ∧ SR B (ct + (txO c e k i).length) gr PA BY (pt B ct OU (txI (txO c e k i))) 0 ap S' := fun k => by
  have hL : L ≤ 32768 := hT.2.1
  have heL : e ≤ L := hT.2.2.1
  have hce : c e = 10 := hT.2.2.2.2.2.1
  induction k with
  | zero =>
    intro i ct g OU S h1 h2 h3 h4 h5 h hw
    obtain ⟨g, rfl⟩ : ∃ m : Nat, g = m + 1 := ⟨g - 1, by omega⟩
    have h5 : i = z := h5
    subst h5
    refine ⟨S, g, rfl, ?_⟩
    show SR B (ct + 0) gr PA BY (pt B ct OU []) 0 ap S
    rw [show pt B ct OU [] = OU by unfold pt; split <;> rfl]
    exact h
  | succ k ih =>
    intro i ct g OU S h1 h2 h3 h4 h5 h hw
    obtain ⟨g, rfl⟩ : ∃ m : Nat, g = m + 1 := ⟨g - 1, by omega⟩
    have h5 : (match shO c e i 34 with | none => i | some _ => qE c e k (i + wdO c e i)) = z := h5
    have tx : txO c e (k + 1) i = match shO c e i 34 with | none => [] | some v => v :: txO c e k (i + wdO c e i) := rfl
    cases hs : shO c e i 34 with
    | none =>
      rw [hs] at h5 tx
      have h5 : i = z := h5
      have tx : txO c e (k + 1) i = [] := tx
      subst h5
      rw [tx]
      refine ⟨S, g, rfl, ?_⟩
      show SR B (ct + 0) gr PA BY (pt B ct OU []) 0 ap S
      rw [show pt B ct OU [] = OU by unfold pt; split <;> rfl]
      exact h
    | some v =>
      rw [hs] at h5 tx
      have h5 : qE c e k (i + wdO c e i) = z := h5
      have tx : txO c e (k + 1) i = v :: txO c e k (i + wdO c e i) := tx
      obtain ⟨w1, w2, w3⟩ := shO_w hce hs
      have w4 := (qE_1 hce k (i + wdO c e i) w2 (by omega)).1
      rw [tx] at hw ⊢
      have hw : OKW B (ct + ((txO c e k (i + wdO c e i)).length + 1)) := hw
      obtain ⟨S1, e1, f1, f2⟩ := shn_S hT h i w1 (hlo i h1 w1)
      obtain ⟨S2, e2, f3⟩ := put_S (n := n) f1 (OKW_m hw (by omega)) (oI (shO c e i 34))
      have f4 := (put_10 e2).trans f2
      rw [hs] at e1 e2 f3
      obtain ⟨S3, g', e3, f5⟩ := ih (i + wdO c e i) (ct + 1) g _ S2 (by omega) w2 (by omega) (by omega) h5 f3 (OKW_m hw (by omega))
      refine ⟨S3, g', ?_, ?_⟩
      · rw [← e3]
        show dF_X13_quoted_21 n (df_X13_quoted_21 n g) x1 (nI (z + 1)) (nI i) S = _
        unfold dF_X13_quoted_21
        rw [show nI (z + 1) - (1 : Int32) = nI z from pk_sub (b := 1) (by omega), if_neg (znle (by omega) (by omega)), e1, nb_b2, e2, nb_b1, f4, nb_let]
      · rw [show pt B (ct + 1) (pt B ct OU [oI (some v)]) (txI (txO c e k (i + wdO c e i))) = pt B ct OU (txI (v :: txO c e k (i + wdO c e i))) from pt_a [oI (some v)] _, show ct + 1 + (txO c e k (i + wdO c e i)).length = ct + (v :: txO c e k (i + wdO c e i)).length by show ct + 1 + _ = ct + (_ + 1); omega] at f5
        exact f5
/-- a text in quotes, with a 0 behind it or not -/
def qtL (c : Nat → Nat) (e : Nat) (en : Bool) (y : Nat × Nat) : List Int32 := txI (txO c e (e - (y.1 + 1)) (y.1 + 1)) ++ if en = true then [0] else []
theorem ts_4 {n L e : Nat} {c : Nat → Nat} {BC : St} {p q p' κ τ v : Nat} {x : Int32} (T : TS n L e c BC p q p' κ τ v x) (h : τ = 4) : κ = 4 ∧ q < e ∧ p' = qE c e (e - (q + 1)) (q + 1) + 1 := by
  obtain ⟨t1, t2, t3, t4, t5, t6, t7, t8, t9⟩ := T
  by_cases y : κ = 5
  · subst y
    have := tk_5 t7
    omega
  · unfold tkK at t7
    rcases t7 with w | w | w | w | w | w | w
    · omega
    · omega
    · omega
    · omega
    · exact ⟨w.1, (t6 (by omega)).1, w.2.2.2.1⟩
    · omega
    · omega
theorem qtd_S {n L e : Nat} {c : Nat → Nat} {BC B : St} (hT : atx n L e c BC B) {ct : Nat} {gr : Bool} {PA BY OU : Nat → Int32} {p : Nat} {S : St} (h : SR B ct gr PA BY OU 0 p S) {q p' κ τ v : Nat} {x : Int32} (T : TS n L e c BC p q p' κ τ v x) (ht : τ = 4) (en : Bool) (hw : OKW B (ct + (qtL c e en (q, p')).length)) : ∃ S' : St, df_X13_quoted n (bI en) S = some S' ∧ SR B (ct + (qtL c e en (q, p')).length) gr PA BY (pt B ct OU (qtL c e en (q, p'))) 0 p' S' := by
  have hn : 70000 < n := hT.1
  have hL : L ≤ 32768 := hT.2.1
  have heL : e ≤ L := hT.2.2.1
  obtain ⟨k4, qe, pe⟩ := ts_4 T ht
  have hp' : p' ≤ e := T.2.2.2.2.1
  obtain ⟨S1, e1, f1, f9, f10⟩ := ned_y hT h T 4 (by omega) (by omega) ht
  have ql : (qtL c e en (q, p')).length = (txO c e (e - (q + 1)) (q + 1)).length + if en = true then 1 else 0 := by
    unfold qtL txI
    rw [List.length_append, List.length_map]
    cases en <;> rfl
  rw [ql] at hw
  obtain ⟨S2, g', e2, f2⟩ := qt_21 hT (gr := gr) (PA := PA) (BY := BY) (ap := p') (bI en) (qE c e (e - (q + 1)) (q + 1)) (by omega) (fun _ _ _ => trivial) (q + 1) (fun i i1 i2 => T.2.1 i (by have := T.2.2.1; omega) i2) (e - (q + 1)) (q + 1) ct n OU S1 (Nat.le_refl _) (by omega) (Nat.le_refl _) (by omega) rfl f1 (OKW_m hw (by omega))
  rw [← pe] at e2
  have f3 := SR_w7 f2 p'
  have hd : df_X13_quoted n (bI en) S = if bI en = 0 then some (pI S2 7 (nI p')) else nd_b1 (df_X13_put n 0 (pI S2 7 (nI p'))) (fun (s11 : St) => some s11) := by
    unfold df_X13_quoted df_X13_quoted_0
    rw [show df_X13_needs n 4 S = some (1, S1) from e1, nb_b2, if_neg (by decide), f10, f9, nb_let, show nI q + (1 : Int32) = nI (q + 1) from nI_add q 1, nb_let, e2]
    unfold dF_X13_quoted_21 df_X13_quoted_61
    rw [show nI p' - (1 : Int32) = nI (qE c e (e - (q + 1)) (q + 1)) from (pk_sub (b := 1) (by omega)).trans (congrArg nI (by omega)), if_pos (zle (Nat.le_refl _) (by omega)), nb_let]
  rw [ql]
  cases en with
  | false =>
    refine ⟨_, hd.trans (if_pos rfl), ?_⟩
    rw [show qtL c e false (q, p') = txI (txO c e (e - (q + 1)) (q + 1)) from List.append_nil _]
    exact f3
  | true =>
    obtain ⟨S3, e3, f4⟩ := put_S (n := n) f3 (OKW_m hw (by show _ ≤ ct + (_ + 1); omega)) 0
    refine ⟨S3, ?_, ?_⟩
    · rw [hd, if_neg (show ¬ bI true = 0 by decide), e3, nb_b1]
    · rw [show pt B (ct + (txO c e (e - (q + 1)) (q + 1)).length) (pt B ct OU (txI (txO c e (e - (q + 1)) (q + 1)))) [0] = pt B ct OU (qtL c e true (q, p')) by
        rw [show (txO c e (e - (q + 1)) (q + 1)).length = (txI (txO c e (e - (q + 1)) (q + 1))).length from (List.length_map _).symm]
        exact pt_a _ _] at f4
      exact f4
theorem qtd_n {n L e : Nat} {c : Nat → Nat} {BC B : St} (hT : atx n L e c BC B) {ct : Nat} {gr : Bool} {PA BY OU : Nat → Int32} {p : Nat} {S : St} (h : SR B ct gr PA BY OU 0 p S) {q p' κ τ v : Nat} {x : Int32} (T : TS n L e c BC p q p' κ τ v x) (ht : ¬ τ = 4) (en : Int32) : ∃ S' : St, df_X13_quoted n en S = some S' ∧ FL e B (nI 1 + 16 * sI B 13) S' := by
  obtain ⟨S1, e1, f1⟩ := ned_n hT h T 4 (by omega) ht
  refine ⟨S1, ?_, FN_L f1⟩
  unfold df_X13_quoted df_X13_quoted_0
  rw [show df_X13_needs n 4 S = some (0, S1) from e1, nb_b2, if_pos rfl]
/-- texts, one after the other -/
def XTr (n L e : Nat) (c : Nat → Nat) (BC : St) : List (Nat × Nat) → Nat → Nat → Nat → Prop
  | [], _, _, _ => False
  | y :: ys, p, f, p2 => ∃ (q p' κ τ v : Nat) (x : Int32), TS n L e c BC p q p' κ τ v x ∧ ((¬ τ = 4 ∧ f = 1 ∧ ys = []) ∨ (τ = 4 ∧ y = (q, p') ∧ ∃ (q2 p2' κ2 τ2 v2 : Nat) (x2 : Int32), TS n L e c BC p' q2 p2' κ2 τ2 v2 x2 ∧ ((¬ τ2 = 44 ∧ ys = [] ∧ (f = if τ2 = 0 then 0 else 1) ∧ p2 = p') ∨ (τ2 = 44 ∧ XTr n L e c BC ys p2' f p2))))
def qtA (c : Nat → Nat) (e : Nat) (en : Bool) : List (Nat × Nat) → List Int32
  | [] => []
  | y :: ys => qtL c e en y ++ qtA c e en ys
theorem qtA_1 {c : Nat → Nat} {e : Nat} {en : Bool} {y : Nat × Nat} : qtA c e en [y] = qtL c e en y := List.append_nil _
theorem qtA_s {c : Nat → Nat} {e : Nat} {en : Bool} {y : Nat × Nat} {ys : List (Nat × Nat)} : qtA c e en (y :: ys) = qtL c e en y ++ qtA c e en ys := rfl
theorem txt_R {n L e : Nat} {c : Nat → Nat} {BC B : St} {X : Nat → Nat} {nL cu : Nat} (hV : RV n L e c BC B X nL cu) {gr : Bool} {PA BY : Nat → Int32} (en : Bool) {f p2 : Nat} : ∀ (ys : List (Nat × Nat)) (p ct g : Nat) (OU : Nat → Int32) (S : St), SR B ct gr PA BY OU 0 p S → OKW B (ct + (qtA c e en ys).length) → ys.length < g → XTr n L e c BC ys p f p2 → ∃ S' : St, df_X13_directive_87 n g (if en = true then 47 else 46) 0 1 S = some S' ∧ (¬ f = 0 → FL e B (nI f + 16 * sI B 13) S') ∧ (f = 0 → p2 ≤ e ∧ SR B (ct + (qtA c e en ys).length) gr PA BY (pt B ct OU (qtA c e en ys)) 0 p2 S') := fun ys => by
  have hT := hV.1
  have hl := hV.2.2.2.2.2.2.2
  induction ys with
  | nil => intro p ct g OU S _ _ _ h; exact h.elim
  | cons y ys ih =>
    intro p ct g OU S h hw hg hTr
    have hg : ys.length + 1 < g := hg
    obtain ⟨g, rfl⟩ : ∃ m : Nat, g = m + 1 := ⟨g - 1, by omega⟩
    obtain ⟨g, rfl⟩ : ∃ m : Nat, g = m + 1 := ⟨g - 1, by omega⟩
    have al : (qtA c e en (y :: ys)).length = (qtL c e en y).length + (qtA c e en ys).length := by rw [qtA_s, List.length_append]
    rw [al] at hw
    have hd : df_X13_directive_87 n (g + 1 + 1) (if en = true then 47 else 46) 0 1 S = nd_b1 (df_X13_quoted n (bI en) S) (fun (s : St) => df_X13_directive_153 n (df_X13_directive_87 n (g + 1)) (if en = true then 47 else 46) 0 s) := by
      show dF_X13_directive_87 n (df_X13_directive_87 n (g + 1)) (if en = true then 47 else 46) 0 1 S = _
      unfold dF_X13_directive_87 df_X13_directive_114
      rw [if_neg (by decide), if_pos (SR_12 h), if_pos rfl]
      cases en
      · rw [if_neg (by decide)]; rfl
      · rw [if_pos (by decide)]; rfl
    obtain ⟨q, p', κ, τ, v, x, T, hTr⟩ := hTr
    rcases hTr with ⟨t4, hf, hys⟩ | ⟨t4, hy, q2, p2', κ2, τ2, v2, x2, T2, hTr⟩
    · obtain ⟨S1, e1, fl⟩ := qtd_n hT h T t4 (bI en)
      have ne : ¬ nI 1 + 16 * sI B 13 = 0 := flt_n hl 1 (by omega)
      refine ⟨S1, ?_, fun _ => by rw [hf]; exact fl, fun u => by omega⟩
      rw [hd, e1, nb_b1, d153_F fl ne]
    · subst hy
      obtain ⟨S1, e1, h1⟩ := qtd_S hT h T t4 en (OKW_m hw (by omega))
      obtain ⟨S3, f3, h3⟩ := ise_S hT h1 T2
      rcases hTr with ⟨t1, hys, hf, hp2⟩ | ⟨t1, hTr⟩
      · subst hys
        subst hp2
        by_cases t0 : τ2 = 0
        · rw [if_pos t0] at hf
          rw [decide_eq_true t0] at f3
          refine ⟨S3, ?_, fun u => absurd hf u, fun _ => ⟨T.2.2.2.2.1, ?_⟩⟩
          · rw [hd, e1, nb_b1]
            unfold df_X13_directive_153 df_X13_directive_180 df_X13_directive_181
            rw [if_pos (SR_12 h1), f3, nb_b2, if_neg (show ¬ bI true = 0 by decide)]
            exact d87_0
          · rw [qtA_1]
            exact h3
        · rw [if_neg t0] at hf
          rw [decide_eq_false t0] at f3
          obtain ⟨S4, f4, h4⟩ := ned_n hT h3 T2 44 (by omega) t1
          have h4 := FN_L h4
          refine ⟨S4, ?_, fun _ => by rw [hf]; exact h4, fun u => by omega⟩
          rw [hd, e1, nb_b1]
          unfold df_X13_directive_153 df_X13_directive_180 df_X13_directive_181
          rw [if_pos (SR_12 h1), f3, nb_b2, if_pos (show bI false = 0 from rfl), show df_X13_needs n 44 S3 = some (0, S4) from f4, nb_b2, if_pos rfl]
          exact d87_0
      · rw [decide_eq_false (show ¬ τ2 = 0 by omega)] at f3
        obtain ⟨S4, f4, h4, _⟩ := ned_y hT h3 T2 44 (by omega) (by omega) t1
        obtain ⟨S5, f5, i1, i2⟩ := ih p2' (ct + (qtL c e en (q, p')).length) (g + 1) _ S4 h4 (OKW_m hw (by omega)) (by omega) hTr
        refine ⟨S5, ?_, i1, fun u => ?_⟩
        · rw [hd, e1, nb_b1, ← f5]
          unfold df_X13_directive_153 df_X13_directive_181
          rw [if_pos (SR_12 h1), f3, nb_b2, if_pos (show bI false = 0 from rfl), show df_X13_needs n 44 S3 = some (1, S4) from f4, nb_b2, if_neg (by decide)]
        · obtain ⟨j1, j2⟩ := i2 u
          refine ⟨j1, ?_⟩
          rw [pt_a, Nat.add_assoc, ← al, ← qtA_s] at j2
          exact j2

/-- texts in later rounds and as they are read -/
theorem dirX {y : Nat} (h : y = 124 ∨ y = 125) (n : Nat) (S : St) (hc : cstS S) : df_X13_statement_136 n (nI (sgm y)) 0 S = nd_b1 (df_X13_directive_87 n n (if decide (y = 125) = true then 47 else 46) 0 1 S) (fun (s : St) => df_X13_statement_326 n s) := by
  obtain ⟨_, _, _, _, _, _, a7, a8, _, _, _, _, _, b4, b5⟩ := dirA
  rcases h with h | h <;> subst h
  · rw [dsp_46 hc (sgm 124) (sgm_l (by omega)) a7 0, b4, or_0]
    unfold df_X13_directive df_X13_directive_0
    rw [if_pos (by decide), if_neg (by decide), if_neg (by decide), if_neg (by decide)]
    rfl
  · rw [dsp_47 hc (sgm 125) (sgm_l (by omega)) a8 0, b5, or_0]
    unfold df_X13_directive df_X13_directive_0
    rw [if_pos (by decide), if_neg (by decide), if_neg (by decide), if_neg (by decide)]
    rfl
theorem rfb_X {n L e : Nat} {c : Nat → Nat} {BC BR0 : St} (hT0 : atx n L e c BC BR0) {q p1 κ v1 : Nat} {x : Int32} (T : TS n L e c BC q q p1 κ 1 v1 x) {y : Nat} (hy : y = 124 ∨ y = 125) (hN : NAr n L c q (p1 - q) y 0) {ys : List (Nat × Nat)} (hys : ys.length ≤ 40000) {p2 : Nat} (hTr : XTr n L e c BC ys p1 0 p2) {se : Nat} {X0 : Nat → Nat} {W0 : Nat → Int32} {n0 : Nat} : RFB n L e c BC q se 0 3 (qtA c e (decide (y = 125)) ys).length none X0 W0 n0 (6, 0, 0, [], qtA c e (decide (y = 125)) ys) := by
  intro B X nL cu A ct ap μ gr PA BY OU S hV hc hE h14 hP hA hlw hl hb h hμ hw
  have hn : 70000 < n := hT0.1
  obtain ⟨m1, m2, m3, m4, m5⟩ := md_n (B := B) hμ
  obtain ⟨S1, e1, e2, e3⟩ := stm_2 hV.1 hc h (nI μ) T hN
  obtain ⟨S2, r1, r2, r3⟩ := txt_R (RV_p15 hV (nI μ)) (gr := gr) (PA := PA) (BY := BY) (decide (y = 125)) (f := 0) (p2 := p2) ys p1 0 n OU S1 e2 (by rw [Nat.zero_add]; exact hw) (by omega) hTr
  obtain ⟨j1, j2⟩ := r3 rfl
  have f15 := SR_15 j2
  rw [pt_3 hμ] at j2
  refine ⟨S2, ?_, fun _ w => absurd rfl w, fun _ => ⟨_, p2, gr, j1, fun u => absurd (show (6 : Nat) = 1 ∨ (6 : Nat) = 2 from u) (by decide), j2⟩⟩
  rw [e1, dirX hy n S1 e3, r1, nb_b1]
  exact s326 (by rw [f15, m1]; exact m2)
theorem rdr_X {n L e : Nat} {c : Nat → Nat} {BC B : St} {X : Nat → Nat} {nL cu : Nat} (hV : RV n L e c BC B X nL cu) (hc : cstS B) {ct : Nat} {gr : Bool} {PA BY OU : Nat → Int32} {ap : Nat} {S : St} (h : SR B ct gr PA BY OU 0 ap S) {q p1 κ v1 : Nat} {x : Int32} (T : TS n L e c BC q q p1 κ 1 v1 x) {y : Nat} (hy : y = 124 ∨ y = 125) (hN : NAr n L c q (p1 - q) y 0) {ys : List (Nat × Nat)} (hys : ys.length ≤ 40000) {f p2 : Nat} (hTr : XTr n L e c BC ys p1 f p2) : ∃ S' : St, df_X13_statement n (nI q) 0 S = df_X13_statement_326 n S' ∧ (¬ f = 0 → FL e (pI B 15 0) (nI f + 16 * sI B 13) S') ∧ (f = 0 → p2 ≤ e ∧ SR (pI B 15 0) (qtA c e (decide (y = 125)) ys).length gr PA BY OU 0 p2 S') := by
  have hn : 70000 < n := hV.1.1
  obtain ⟨S1, e1, e2, e3⟩ := stm_2 hV.1 hc h 0 T hN
  have ok0 : ∀ k : Nat, OKW (pI B 15 0) k := fun k u => absurd (show (0 : Int32) = 3 from u) (by decide)
  obtain ⟨S2, r1, r2, r3⟩ := txt_R (RV_p15 hV 0) (gr := gr) (PA := PA) (BY := BY) (decide (y = 125)) (f := f) (p2 := p2) ys p1 0 n OU S1 e2 (ok0 _) (by omega) hTr
  refine ⟨S2, ?_, r2, fun u => ?_⟩
  · rw [e1, dirX hy n S1 e3, r1, nb_b1]
  · obtain ⟨j1, j2⟩ := r3 u
    rw [Nat.zero_add, show ∀ bs : List Int32, pt (pI B 15 0) 0 OU bs = OU from fun bs => if_neg (show ¬ (0 : Int32) = 3 by decide)] at j2
    exact ⟨j1, j2⟩
/-- .text, .data as they are read -/
theorem rdr_T {n L e : Nat} {c : Nat → Nat} {BC B : St} (hT : atx n L e c BC B) (hc : cstS B) {ct : Nat} {gr : Bool} {PA BY OU : Nat → Int32} {ap : Nat} {S : St} (h : SR B ct gr PA BY OU 0 ap S) {q p1 κ v1 : Nat} {x : Int32} (T : TS n L e c BC q q p1 κ 1 v1 x) {y : Nat} (hy : y = 118 ∨ y = 119) (hN : NAr n L c q (p1 - q) y 0) : ∃ S' : St, df_X13_statement n (nI q) 0 S = df_X13_statement_326 n S' ∧ SR (pI (pI B 15 0) 14 (nI (y - 118))) 0 gr PA BY OU 0 p1 S' := by
  obtain ⟨S1, e1, e2, e3⟩ := stm_2 hT hc h 0 T hN
  refine ⟨pI S1 14 (nI (y - 118)), ?_, SR_p14 e2 _⟩
  rcases hy with hy | hy <;> subst hy
  · rw [e1, dsp_40 e3 (sgm 118) (sgm_l (by omega)) dirA.1 0]
    unfold df_X13_directive df_X13_directive_0 df_X13_directive_185
    rw [if_neg (by decide), nb_let, nb_b1]
    rfl
  · rw [e1, dsp_41 e3 (sgm 119) (sgm_l (by omega)) dirA.2.1 0]
    unfold df_X13_directive df_X13_directive_0 df_X13_directive_185
    rw [if_neg (by decide), nb_let, nb_b1]
    rfl
/-- what a fixed expression's range says -/
theorem fxR_0 {fx dv : Bool} {z lo hi : Int32} (h : fxR fx z dv lo hi = 0) : fx = true ∧ dv = false ∧ ¬ z < lo ∧ ¬ hi < z := by
  unfold fxR at h
  cases fx with
  | false => exact absurd (show (5 : Nat) = 0 from h) (by decide)
  | true =>
    rw [if_neg (by decide)] at h
    cases dv with
    | true => exact absurd (show (9 : Nat) = 0 from h) (by decide)
    | false =>
      rw [if_neg (by decide)] at h
      by_cases y : z < lo ∨ hi < z
      · rw [if_pos y] at h; exact absurd h (by decide)
      · exact ⟨rfl, rfl, fun u => y (Or.inl u), fun u => y (Or.inr u)⟩
/-- .align as it is read -/
theorem rdr_L {n L e : Nat} {c : Nat → Nat} {BC B : St} {X : Nat → Nat} {nL cu : Nat} (hV : RV n L e c BC B X nL cu) (hc : cstS B) {ct : Nat} {gr : Bool} {PA BY OU : Nat → Int32} {ap : Nat} {S : St} (h : SR B ct gr PA BY OU 0 ap S) {q p1 κ v1 : Nat} {x : Int32} (T : TS n L e c BC q q p1 κ 1 v1 x) (hY : PY PA cu q) (hN : NAr n L c q (p1 - q) 127 0) {ok : Bool} {p2 m : Nat} {P : Nat → Tp} (R : RX n L e c BC p1 ok p2 m P) : ∃ S' : St, df_X13_statement n (nI q) 0 S = df_X13_statement_326 n S' ∧ (ok = false → FL e (pI B 15 0) (nI 1 + 16 * sI B 13) S') ∧ (ok = true → one P m ∧ p2 ≤ e ∧ (fxR (!lsF (loV c X e nL) P m) (zV (VW c X e nL q B) P m) (dV (VW c X e nL q B) P m) 0 10 = 0 → ∃ k : Nat, k ≤ 10 ∧ zV (VW c X e nL q B) P m = nI k ∧ SR (pI B 15 0) 0 gr PA (upd BY cu (-1 - nI k)) OU 0 p2 S') ∧ (¬ fxR (!lsF (loV c X e nL) P m) (zV (VW c X e nL q B) P m) (dV (VW c X e nL q B) P m) 0 10 = 0 → FL e (pI B 15 0) (nI (fxR (!lsF (loV c X e nL) P m) (zV (VW c X e nL q B) P m) (dV (VW c X e nL q B) P m) 0 10) + 16 * sI B 13) S')) := by
  obtain ⟨S1, e1, e2, e3⟩ := stm_2 hV.1 hc h 0 T hN
  have hcu := hV.2.2.2.2.2.2.1
  have h16 := hV.2.2.2.2.2.1
  have hd : ∀ (w : Int32) (S2 : St), df_X13_fixed n 0 10 S1 = some (w, S2) → sI S2 16 = nI cu → df_X13_statement n (nI q) 0 S = df_X13_statement_326 n (pR S2 5 (upd (sR S2 5) cu (-1 - w))) := fun w S2 f s16 => by
    rw [e1, dsp_49 e3 (sgm 127) (sgm_l (by omega)) dirA.2.2.2.2.2.2.2.2.2.1 0]
    unfold df_X13_directive df_X13_directive_0 df_X13_directive_185
    rw [if_pos (by decide), if_neg (by decide), if_neg (by decide), if_pos rfl, f, nb_b2, s16, nm_ck hcu (by omega), nI_clamp (by omega), nb_let, nb_b1]
  have flw : ∀ (ft : Int32) (S2 : St) (v : Nat → Int32), FL e (pI B 15 0) ft S2 → FL e (pI B 15 0) ft (pR S2 5 v) := fun ft S2 v hh => by
    obtain ⟨ct', gr', PA', BY', OU', ap', h1, h2⟩ := hh
    exact ⟨_, _, _, _, _, _, h1, SR_w5 h2 v⟩
  have f16 : ∀ (ft : Int32) (S2 : St), FL e (pI B 15 0) ft S2 → sI S2 16 = nI cu := fun ft S2 hh => (FL_f hh).2.2.2.2.trans h16
  cases ok with
  | false =>
    obtain ⟨w, S2, f1, f2⟩ := fix_f (RV_p15 hV 0) hY e2 R 0 10
    exact ⟨_, hd w S2 f1 (f16 _ _ f2), fun _ => flw _ _ _ f2, fun u => (nomatch u)⟩
  | true =>
    obtain ⟨w, S2, f1, f2, f3, f4, f5, f6⟩ := fix_R (RV_p15 hV 0) hY e2 rfl R 0 10
    have f3 : w = zV (VW c X e nL q B) P m := f3
    subst f3
    have s16 : sI S2 16 = nI cu := by
      by_cases u : fxR (!lsF (loV c X e nL) P m) (zV (VW c X e nL q B) P m) (dV (VW c X e nL q B) P m) 0 10 = 0
      · exact (SR_16 (f4 u)).trans h16
      · exact f16 _ _ (f5 u)
    refine ⟨_, hd _ S2 f1 s16, fun u => (nomatch u), fun _ => ⟨f6, f2, fun u => ?_, fun u => flw _ _ _ (f5 u)⟩⟩
    obtain ⟨_, _, g1, g2⟩ := fxR_0 u
    obtain ⟨k, hk, ek⟩ := nI_of2 (M := 10) (n := 10) (by decide) g1 (Int32.not_lt.mp g2)
    refine ⟨k, hk, ek, ?_⟩
    have f7 := f4 u
    have f8 := SR_w5 f7 (upd BY cu (-1 - nI k))
    rw [SR_r5 f7, ek]
    exact f8
/-- li as it is read -/
theorem rdr_N {n L e : Nat} {c : Nat → Nat} {BC B : St} {X : Nat → Nat} {nL cu : Nat} (hV : RV n L e c BC B X nL cu) (hc : cstS B) {ct : Nat} {gr : Bool} {PA BY OU : Nat → Int32} {ap : Nat} {S : St} (h : SR B ct gr PA BY OU 0 ap S) {q p1 κ v1 : Nat} {x : Int32} (T : TS n L e c BC q q p1 κ 1 v1 x) (hY : PY PA cu q) (hN : NAr n L c q (p1 - q) 117 0) {f p2 : Nat} {rs : List Nat} {m : Nat} {P : Nat → Tp} (hTr : Tr n L e c BC [100, 44, 65] p1 f p2 rs m P) : ∃ S' : St, df_X13_statement n (nI q) 0 S = df_X13_statement_326 n S' ∧ (¬ f = 0 → FL e (pI B 15 0) (nI f + 16 * sI B 13) S') ∧ (f = 0 → ∃ (r q1 pa κ1 τ1 w1 : Nat) (x1 : Int32) (q2 pb κ2 τ2 w2 : Nat) (x2 : Int32), rs = [r] ∧ TS n L e c BC p1 q1 pa κ1 τ1 w1 x1 ∧ r = tkG c τ1 q1 pa ∧ r < 32 ∧ TS n L e c BC pa q2 pb κ2 τ2 w2 x2 ∧ τ2 = 44 ∧ RX n L e c BC pb true p2 m P ∧ p2 ≤ e ∧ one P m ∧ (fxR (!lsF (loV c X e nL) P m) (zV (VW c X e nL q B) P m) (dV (VW c X e nL q B) P m) (-2147483648) 2147483647 = 0 → SR (pI B 15 0) (numB (nI r) (zV (VW c X e nL q B) P m)).length gr PA BY OU 0 p2 S') ∧ (¬ fxR (!lsF (loV c X e nL) P m) (zV (VW c X e nL q B) P m) (dV (VW c X e nL q B) P m) (-2147483648) 2147483647 = 0 → FL e (pI B 15 0) (nI (fxR (!lsF (loV c X e nL) P m) (zV (VW c X e nL q B) P m) (dV (VW c X e nL q B) P m) (-2147483648) 2147483647) + 16 * sI B 13) S')) := by
  obtain ⟨S1, e1, e2, e3⟩ := stm_2 hV.1 hc h 0 T hN
  have hV' := RV_p15 hV 0
  have hT : atx n L e c BC (pI B 15 0) := hV.1
  have hl : ∃ ln : Nat, sI (pI B 15 0) 13 = nI ln ∧ ln ≤ 40000 := hV.2.2.2.2.2.2.2
  have ok0 : ∀ k : Nat, OKW (pI B 15 0) k := fun k u => absurd (show (0 : Int32) = 3 from u) (by decide)
  have d33 : ¬ (39 : Int32) = 33 := by decide
  have m3 : ¬ sI (pI B 15 0) 15 = 3 := show ¬ (0 : Int32) = 3 by decide
  have h0 : df_X13_statement n (nI q) 0 S = nd_b1 (df_X13_others n 39 (ptT (sgm 117) ||| 0) S1) (fun (s : St) => df_X13_statement_326 n s) := by
    rw [e1, dsp_39 e3 (sgm 117) (sgm_l (by omega)) laA.2.2.2.1 0]
  obtain ⟨q1, pa, κ1, τ1, w1, x1, T1, hTr⟩ := hTr
  rw [if_neg (by decide), if_pos (by decide)] at hTr
  rcases hTr with ⟨g1, r1, rs1, rfl, hTr⟩ | hF
  rotate_left
  · have hF2 : (tkG c τ1 q1 pa = 33 ∧ f = 1) ∨ (tkG c τ1 q1 pa = 32 ∧ f = 3) := by
      rcases hF with hF | ⟨hF | hF, hF2⟩
      · exact Or.inl hF
      · exact Or.inr ⟨hF, hF2⟩
      · exact absurd hF.2 (by unfold rfit; simp)
    obtain ⟨S2, f1, g1⟩ := tak_n hT e2 T1 (by omega)
    have ne := f13 hl (g := tkG c τ1 q1 pa)
    rw [f13e hF2] at g1 ne
    refine ⟨S2, ?_, fun _ => FN_L g1, fun u => by omega⟩
    rw [h0]
    unfold df_X13_others df_X13_others_0
    rw [f1, nb_b2, if_neg d33, com_F (FN_L g1) ne, nb_b2, if_pos rfl, nb_b1]
  obtain ⟨S2, f1, h1⟩ := tak_y hT e2 T1 g1
  obtain ⟨q2, pb, κ2, τ2, w2, x2, T2, hTr⟩ := hTr
  rw [if_pos (by decide)] at hTr
  rcases hTr with ⟨g2, hTr⟩ | hF
  rotate_left
  · obtain ⟨S3, f2, g2⟩ := com_n hT h1 T2 hF.1
    rw [hF.2]
    refine ⟨S3, ?_, fun _ => FN_L g2, fun u => absurd u (by decide)⟩
    rw [h0]
    unfold df_X13_others df_X13_others_0
    rw [f1, nb_b2, if_neg d33, f2, nb_b2, if_pos rfl, nb_b1]
  obtain ⟨S3, f2, h2⟩ := com_y hT h1 T2 g2
  have hd : ∀ (w : Int32) (S4 : St), df_X13_fixed n (-2147483648) 2147483647 S3 = some (w, S4) → df_X13_statement n (nI q) 0 S = nd_b1 (df_X13_others_94 n 39 (nI (tkG c τ1 q1 pa)) w S4) (fun (s : St) => df_X13_statement_326 n s) := fun w S4 f3 => by
    rw [h0]
    unfold df_X13_others df_X13_others_0
    rw [f1, nb_b2, if_neg d33, f2, nb_b2, if_neg (by decide), if_pos (by decide), if_pos rfl, f3, nb_b2]
  have f94 : ∀ (ft : Int32) (w : Int32) (S4 : St), FL e (pI B 15 0) ft S4 → ∃ S5 : St, df_X13_others_94 n 39 (nI (tkG c τ1 q1 pa)) w S4 = some S5 ∧ FL e (pI B 15 0) ft S5 := fun ft w S4 hh => by
    obtain ⟨ct', gr', PA', BY', OU', ap', z1, z2⟩ := hh
    obtain ⟨S5, k1, k2⟩ := li_94g (n := n) z2 (tkG c τ1 q1 pa) g1 w (ok0 _)
    exact ⟨S5, k1, _, _, _, _, _, _, z1, k2⟩
  obtain ⟨q3, pd, κ3, τ3, v3, x3, T3, hTr⟩ := hTr
  rw [if_neg (by decide), if_neg (by decide)] at hTr
  obtain ⟨ok, px, R, hTr⟩ := hTr
  rcases hTr with ⟨rfl, z1, z2, hTr⟩ | ⟨rfl, hF⟩
  · obtain ⟨rfl, rfl, rfl⟩ := hTr
    obtain ⟨w, S4, k1, k2, k3, k4, k5, k6⟩ := fix_R hV' hY h2 rfl R (-2147483648) 2147483647
    have k3 : w = zV (VW c X e nL q B) P m := k3
    subst k3
    by_cases u : fxR (!lsF (loV c X e nL) P m) (zV (VW c X e nL q B) P m) (dV (VW c X e nL q B) P m) (-2147483648) 2147483647 = 0
    · obtain ⟨S5, k7, k8⟩ := li_94 (n := n) (k4 u) (tkG c τ1 q1 pa) g1 (zV (VW c X e nL q B) P m) (ok0 _)
      refine ⟨S5, by rw [hd _ S4 k1, k7, nb_b1], fun z => absurd rfl z, fun _ => ⟨_, q1, pa, κ1, τ1, w1, x1, q2, pb, κ2, τ2, w2, x2, rfl, T1, rfl, g1, T2, g2, R, k2, k6, fun _ => ?_, fun z => absurd u z⟩⟩
      rw [Nat.zero_add, show ∀ bs : List Int32, pt (pI B 15 0) 0 OU bs = OU from fun bs => if_neg (show ¬ (0 : Int32) = 3 by decide)] at k8
      exact k8
    · obtain ⟨S5, k7, k8⟩ := f94 _ (zV (VW c X e nL q B) P m) S4 (k5 u)
      exact ⟨S5, by rw [hd _ S4 k1, k7, nb_b1], fun z => absurd rfl z, fun _ => ⟨_, q1, pa, κ1, τ1, w1, x1, q2, pb, κ2, τ2, w2, x2, rfl, T1, rfl, g1, T2, g2, R, k2, k6, fun z => absurd z u, fun _ => k8⟩⟩
  · obtain ⟨w, S4, k1, fl⟩ := fix_f hV' hY h2 R (-2147483648) 2147483647
    obtain ⟨S5, k7, k8⟩ := f94 _ w S4 fl
    rw [hF]
    exact ⟨S5, by rw [hd _ S4 k1, k7, nb_b1], fun _ => k8, fun u => absurd u (by decide)⟩

/-- a sign, in both -/
theorem ts_sg {n L e : Nat} {c : Nat → Nat} {BC : St} {p q p' κ τ v : Nat} {x : Int32} (T : TS n L e c BC p q p' κ τ v x) (y : Nat) (hy : 37 ≤ y ∧ y ≤ 126) : (κ = 5 ∧ x = nI y) ↔ τ = y := by
  obtain ⟨t1, t2, t3, t4, t5, t6, t7, t8, t9⟩ := T
  by_cases k : κ = 5
  · subst k
    have x5 := t8 (Or.inr (Or.inr rfl))
    have := tk_5 t7
    rw [x5, nI_eq (by omega) (by omega)]
    omega
  · have := tk_n t7 k
    constructor
    · intro h; exact absurd h.1 k
    · intro h; omega
/-- the codes of several expressions, one behind the other -/
def CDS (NR : Nat → Int32) (c : Nat → Nat) (e ns : Nat) (bs ws : Nat → Nat) (C A : Nat → Int32) : Nat → List (Nat × (Nat → Tp)) → Nat → Prop
  | s0, [], cs => s0 = cs
  | s0, y :: ys, cs => CR NR c e C A s0 ns bs ws y.1 y.2 C A ∧ C (s0 + y.1) = 21 ∧ 0 < y.1 ∧ CDS NR c e ns bs ws C A (s0 + y.1 + 1) ys cs
theorem CR_k {NR : Nat → Int32} {c : Nat → Nat} {e : Nat} {C0 A0 : Nat → Int32} {s0 ns ns' : Nat} {bs ws bs' ws' : Nat → Nat} {NM NM' : Nat → Int32} {m : Nat} {P : Nat → Tp} {C A C' A' : Nat → Int32} (h : CR NR c e C0 A0 s0 ns bs ws m P C A) (hk : ∀ i : Nat, i < s0 + m → C' i = C i ∧ A' i = A i) (hp : PS ns NM bs ws ns' NM' bs' ws') : CR NR c e C' A' s0 ns' bs' ws' m P C' A' := by
  have h2 := CR_n hp.1 (fun i hi => ⟨(hp.2.1 i hi).1, (hp.2.1 i hi).2.1⟩) h
  refine ⟨fun i hi => ⟨rfl, rfl⟩, fun i hi => ?_⟩
  rw [(hk (s0 + i) (by omega)).1, (hk (s0 + i) (by omega)).2]
  exact h2.2 i hi
theorem l78 {n : Nat} {B : St} {sn lu ln se co : Nat} {od : Int32} {SW LW : Nat → Int32} (s2 : St) (h : sn < 8194) (each k first : Int32) : df_X1_readList_78 n each first k (qC B sn lu 0 ln se od co SW LW, s2) = some (qC B (sn + 1) lu 0 ln se od co (rowU SW sn ln se (k * each) 5 each first (nI 0)) LW, s2) := by
  unfold df_X1_readList_78
  rw [add_C s2 h, nb_b1]
theorem l78F {n : Nat} {B : St} {sn lu ln se co : Nat} {od : Int32} {SW LW : Nat → Int32} {ft : Int32} (s2 : St) (h : ¬ ft = 0) (each k first : Int32) : df_X1_readList_78 n each first k (qC B sn lu ft ln se od co SW LW, s2) = some (qC B sn lu ft ln se od co SW LW, s2) := by
  unfold df_X1_readList_78
  rw [add_F s2 h, nb_b1]

/-- behind an expression of a list: a comma or not -/
theorem l47 {n L e : Nat} {c : Nat → Nat} {BC BR0 : St} (hT0 : atx n L e c BC BR0) (Qs : St) (G : Int32 → Int32 → Int32 → Int32 → (St × St) → Option (St × St)) (each first w : Int32) (j : Nat) (hj : j < 65536) {cs tp st ns : Nat} {fx : Bool} {C A S NM BK : Nat → Int32} {p q p' κ τ v : Nat} {x : Int32} (T : TS n L e c BC p q p' κ τ v x) : (¬ τ = 44 → df_X1_readList_47 n G each first (nI j) w (Qs, uC (xC BC cs tp st ns fx C A S NM BK) p' κ q x) = df_X1_readList_78 n each first (nI (j + 1)) (Qs, uC (xC BC cs tp st ns fx C A S NM BK) p' κ q x)) ∧ (τ = 44 → ∃ (qn pn κn τn vn : Nat) (xn : Int32), df_X1_readList_47 n G each first (nI j) w (Qs, uC (xC BC cs tp st ns fx C A S NM BK) p' κ q x) = G each first (nI (j + 1)) (w + Int32.ofInt (-1)) (Qs, uC (xC BC cs tp st ns fx C A S NM BK) pn κn qn xn) ∧ TS n L e c BC p' qn pn κn τn vn xn) := by
  obtain ⟨t1, t2, t3, t4, t5, t6, t7, t8, t9⟩ := id T
  have k6 : κ ≤ 6 := by unfold tkK at t7; omega
  have sg := ts_sg T 44 (by omega)
  have j1 : nI j + Int32.ofInt 1 = nI (j + 1) := by rw [show (Int32.ofInt 1 : Int32) = nI 1 from rfl, nI_add]
  have s := xs_1 (n := n) (B := BC) (cs := cs) (tp := tp) (st := st) (ns := ns) (fx := fx) (C := C) (A := A) (S := S) (NM := NM) (BK := BK) (ap := p') (kd := κ) (fr := q) (nm := x) k6 (44 : Int32)
  constructor
  · intro h
    rw [decide_eq_false (show ¬ (κ = 5 ∧ x = 44) from fun z => h (sg.mp z))] at s
    unfold df_X1_readList_47
    rw [nb_let, j1, s, nb_b2, nb_let]
    exact if_pos rfl
  · intro h
    obtain ⟨qn, pn, κn, τn, vn, xn, n1, n2⟩ := nx_1 hT0 (cs := cs) (tp := tp) (st := st) (ns := ns) (fx := fx) (C := C) (A := A) (S := S) (NM := NM) (BK := BK) p' κ q x t5 (fun i i1 i2 => t2 i (by omega) i2)
    refine ⟨qn, pn, κn, τn, vn, xn, ?_, n2⟩
    rw [decide_eq_true (show κ = 5 ∧ x = 44 from sg.mpr h)] at s
    unfold df_X1_readList_47
    rw [nb_let, j1, s, nb_b2, nb_let, if_neg (show ¬ bI true = 0 by decide), n1, nb_b1, nb_let, nb_let]
theorem lsc_C {n L e : Nat} {c : Nat → Nat} {BC BR0 : St} (hT0 : atx n L e c BC BR0) {B : St} {sn lu ln se co : Nat} {od : Int32} {SW LW : Nat → Int32} (hsn : sn < 8194) (each first : Int32) : ∀ (N : Nat) (j g : Nat) (cs tp st ns : Nat) (fx : Bool) (C A S NM BK : Nat → Int32) (bs ws : Nat → Nat) (p q p' κ τ v : Nat) (x : Int32), e - p < N → N + 2 < g → j + N < 32768 + 1 → TS n L e c BC p q p' κ τ v x → HT L c ns NM BK bs ws → 0 < p → cs ≤ p → 2 * ns ≤ p → ∃ (ys : List (Nat × (Nat → Tp))) (f p2 : Nat) (cs' tp' st' ns' : Nat) (fx' : Bool) (C' A' S' NM' BK' : Nat → Int32) (bs' ws' : Nat → Nat) (q2 p2' κ2 τ2 v2 : Nat) (x2 : Int32), LTr n L e c BC ys p f p2 ∧ ys.length ≤ N ∧ ((f = 1 ∧ df_X1_readList_20 n g each first (nI j) (nI (32768 - j)) (qC B sn lu 0 ln se od co SW LW, uC (xC BC cs tp st ns fx C A S NM BK) p' κ q x) = some (qC B sn lu (nI 1) ln se od co SW LW, uC (xC BC cs' tp' st' ns' fx' C' A' S' NM' BK') p2' κ2 q2 x2)) ∨ (df_X1_readList_20 n g each first (nI j) (nI (32768 - j)) (qC B sn lu 0 ln se od co SW LW, uC (xC BC cs tp st ns fx C A S NM BK) p' κ q x) = some (qC B (sn + 1) lu 0 ln se od co (rowU SW sn ln se (nI (j + ys.length) * each) 5 each first (nI 0)) LW, uC (xC BC cs' tp' st' ns' fx' C' A' S' NM' BK') p2' κ2 q2 x2) ∧ (f = if τ2 = 0 then 0 else 1) ∧ TS n L e c BC p2 q2 p2' κ2 τ2 v2 x2 ∧ p ≤ p2 ∧ PS ns NM bs ws ns' NM' bs' ws' ∧ HT L c ns' NM' BK' bs' ws' ∧ cs' ≤ p2 + 1 ∧ 2 * ns' ≤ p2 + 1 ∧ (∀ i : Nat, i < cs → C' i = C i ∧ A' i = A i) ∧ CDS (sR BC 5) c e ns' bs' ws' C' A' cs ys cs')) := fun N => by
  have he : e ≤ 32768 := by have := hT0.2.1; have := hT0.2.2.1; omega
  have n1 : ¬ (nI 1 : Int32) = 0 := by decide
  induction N with
  | zero => intro j g cs tp st ns fx C A S NM BK bs ws p q p' κ τ v x h1; omega
  | succ N ih =>
    intro j g cs tp st ns fx C A S NM BK bs ws p q p' κ τ v x h1 h2 h3 hT hH hp0 hcs hns
    obtain ⟨g, rfl⟩ : ∃ m : Nat, g = m + 1 := ⟨g - 1, by omega⟩
    obtain ⟨g, rfl⟩ : ∃ m : Nat, g = m + 1 := ⟨g - 1, by omega⟩
    have hpe := hT.1
    obtain ⟨ok, p3, q3, p3', κ3, τ3, v3, x3, m2, P2, ns2, fx2, C2, A2, S2, NM2, BK2, bs2, ws2, tp2, f1, f2, f3, f4, f5, pz, τz, vz, f6⟩ := exs_2 hT0 p q p' κ τ v x cs tp st ns fx C A S NM BK bs ws hT hH hcs hns (by omega)
    have st1 : df_X1_readList_20 n (g + 1 + 1) each first (nI j) (nI (32768 - j)) (qC B sn lu 0 ln se od co SW LW, uC (xC BC cs tp st ns fx C A S NM BK) p' κ q x) = (if 0 ≤ (if ok = true then nI cs else (-1 : Int32)) then df_X1_readList_47 n (df_X1_readList_20 n (g + 1)) each first (nI j) (nI (32768 - j)) (qC B sn lu 0 ln se od co SW LW, uC (xC BC (cs + m2 + 1) tp2 (if ok = true then 5 else 6) ns2 fx2 C2 A2 S2 NM2 BK2) p3' κ3 q3 x3) else df_X1_readList_47 n (df_X1_readList_20 n (g + 1)) each first (nI j) (nI (32768 - j)) (qC B sn lu (nI 1) ln se od co SW LW, uC (xC BC (cs + m2 + 1) tp2 (if ok = true then 5 else 6) ns2 fx2 C2 A2 S2 NM2 BK2) p3' κ3 q3 x3)) := by
      show dF_X1_readList_20 n (df_X1_readList_20 n (g + 1)) each first (nI j) (nI (32768 - j)) (qC B sn lu 0 ln se od co SW LW, uC (xC BC cs tp st ns fx C A S NM BK) p' κ q x) = _
      unfold dF_X1_readList_20
      rw [if_neg (show ¬ nI (32768 - j) < (0 : Int32) from znl (b := 0) (Nat.zero_le _) (by omega)), if_pos (show sI (qC B sn lu 0 ln se od co SW LW, uC (xC BC cs tp st ns fx C A S NM BK) p' κ q x).1 2 = 0 from rfl)]
      show nd_b2 (df_X9_sum n (uC (xC BC cs tp st ns fx C A S NM BK) p' κ q x)) _ = _
      rw [f1, nb_b2, nb_let, blm_C, nb_b1]
      rfl
    cases ok with
    | false =>
      rw [if_neg (show ¬ false = true from Bool.false_ne_true), if_neg (show ¬ (0 : Int32) ≤ -1 by decide)] at st1
      have q20 : ∀ (s2 : St) (k l : Int32), df_X1_readList_20 n (g + 1) each first k l (qC B sn lu (nI 1) ln se od co SW LW, s2) = some (qC B sn lu (nI 1) ln se od co SW LW, s2) := fun s2 k l => by
        show dF_X1_readList_20 n (df_X1_readList_20 n g) each first k l (qC B sn lu (nI 1) ln se od co SW LW, s2) = _
        unfold dF_X1_readList_20
        rw [if_neg (show ¬ sI (qC B sn lu (nI 1) ln se od co SW LW, s2).1 2 = 0 from n1), l78F s2 n1]
        split <;> rfl
      have k47 := l47 hT0 (qC B sn lu (nI 1) ln se od co SW LW) (df_X1_readList_20 n (g + 1)) each first (nI (32768 - j)) j (by omega) (cs := cs + m2 + 1) (tp := tp2) (st := if false = true then 5 else 6) (ns := ns2) (fx := fx2) (C := C2) (A := A2) (S := S2) (NM := NM2) (BK := BK2) f6
      by_cases cm : τz = 44
      · obtain ⟨qn, pn, κn, τn, vn, xn, z1, z2⟩ := k47.2 cm
        exact ⟨[(m2, P2)], 1, p, cs + m2 + 1, tp2, _, ns2, fx2, C2, A2, S2, NM2, BK2, bs2, ws2, qn, pn, κn, 0, 0, xn, ⟨false, p3, f5, Or.inl ⟨rfl, rfl, rfl⟩⟩, by show 1 ≤ N + 1; omega, Or.inl ⟨rfl, st1.trans (z1.trans (q20 _ _ _))⟩⟩
      · exact ⟨[(m2, P2)], 1, p, cs + m2 + 1, tp2, _, ns2, fx2, C2, A2, S2, NM2, BK2, bs2, ws2, q3, p3', κ3, 0, 0, x3, ⟨false, p3, f5, Or.inl ⟨rfl, rfl, rfl⟩⟩, by show 1 ≤ N + 1; omega, Or.inl ⟨rfl, st1.trans ((k47.1 cm).trans (l78F _ n1 _ _ _))⟩⟩
    | true =>
      obtain ⟨T3, u2, u3, u4, u5, u6, u7, u8⟩ := f4 rfl
      rw [if_pos (show true = true from rfl), if_pos (show (0 : Int32) ≤ nI cs from zle (a := 0) (Nat.zero_le _) (by omega))] at st1
      obtain ⟨w1, w2, w3, w4, w5, w6, w7, w8, w9⟩ := id T3
      have k47 := l47 hT0 (qC B sn lu 0 ln se od co SW LW) (df_X1_readList_20 n (g + 1)) each first (nI (32768 - j)) j (by omega) (cs := cs + m2 + 1) (tp := tp2) (st := if true = true then 5 else 6) (ns := ns2) (fx := fx2) (C := C2) (A := A2) (S := S2) (NM := NM2) (BK := BK2) T3
      by_cases cm : τ3 = 44
      · obtain ⟨qn, pn, κn, τn, vn, xn, z1, z2⟩ := k47.2 cm
        have κ5 : κ3 = 5 := ((ts_sg T3 44 (by omega)).mpr cm).1
        have q4 := (w6 (by omega)).2
        have lf : nI (32768 - j) + Int32.ofInt (-1) = nI (32768 - (j + 1)) := by
          have h : nI (32768 - j) + Int32.ofInt (-1) = nI (32768 - j) - nI 1 := by
            rw [Int32.sub_eq_add_neg]
            rfl
          rw [h, pk_sub (by omega), show 32768 - j - 1 = 32768 - (j + 1) by omega]
        rw [lf] at z1
        obtain ⟨ys, f, p2, cs', tp', st', ns', fx', C', A', S', NM', BK', bs', ws', q2, p2', κ2, τ2, v2, x2, a1, a2, a3⟩ := ih (j + 1) (g + 1) (cs + m2 + 1) tp2 (if true = true then 5 else 6) ns2 fx2 C2 A2 S2 NM2 BK2 bs2 ws2 p3' qn pn κn τn vn xn (by omega) (by omega) (by omega) z2 f3 (by omega) (by omega) (by omega)
        refine ⟨(m2, P2) :: ys, f, p2, cs', tp', st', ns', fx', C', A', S', NM', BK', bs', ws', q2, p2', κ2, τ2, v2, x2, ⟨true, p3, f5, Or.inr ⟨rfl, u2, by omega, q3, p3', κ3, τ3, v3, x3, T3, Or.inr ⟨cm, a1⟩⟩⟩, by show ys.length + 1 ≤ N + 1; omega, ?_⟩
        rcases a3 with ⟨b1, b2⟩ | ⟨b1, b2, b3, b4, b5, b6, b7, b8, b9, b10⟩
        · exact Or.inl ⟨b1, st1.trans (z1.trans b2)⟩
        · have lq : j + 1 + ys.length = j + ((m2, P2) :: ys).length := by
            show j + 1 + ys.length = j + (ys.length + 1)
            omega
          rw [lq] at b1
          refine Or.inr ⟨st1.trans (z1.trans b1), b2, b3, by omega, PS_t f2 b5, b6, b7, b8, fun i hi => ?_, CR_k u3 (fun i hi => b9 i (show i < cs + m2 + 1 by omega)) b5, (b9 (cs + m2) (by omega)).1.trans u4, u8, b10⟩
          exact ⟨(b9 i (by omega)).1.trans (u3.1 i hi).1, (b9 i (by omega)).2.trans (u3.1 i hi).2⟩
      · refine ⟨[(m2, P2)], if τ3 = 0 then 0 else 1, p3, cs + m2 + 1, tp2, _, ns2, fx2, C2, A2, S2, NM2, BK2, bs2, ws2, q3, p3', κ3, τ3, v3, x3, ⟨true, p3, f5, Or.inr ⟨rfl, u2, by omega, q3, p3', κ3, τ3, v3, x3, T3, Or.inl ⟨cm, rfl, rfl, rfl⟩⟩⟩, by show 1 ≤ N + 1; omega, Or.inr ⟨st1.trans ((k47.1 cm).trans (l78 _ hsn _ _ _)), rfl, T3, u2, f2, f3, by omega, u7, u3.1, CR_k u3 (fun i _ => ⟨rfl, rfl⟩) (PS_r (NM := NM2)), u4, u8, rfl⟩⟩

/-- readList in the class: the whole of it -/
theorem lst_C {n L e : Nat} {c : Nat → Nat} {BC BR0 : St} (hT0 : atx n L e c BC BR0) {B : St} {sn lu ln se co : Nat} {od : Int32} {SW LW : Nat → Int32} (hsn : sn < 8194) (each : Int32) (cs tp st ns : Nat) (fx : Bool) (C A S NM BK : Nat → Int32) (bs ws : Nat → Nat) (p q p' κ τ v : Nat) (x : Int32) (hT : TS n L e c BC p q p' κ τ v x) (hH : HT L c ns NM BK bs ws) (hp0 : 0 < p) (hcs : cs ≤ p) (hns : 2 * ns ≤ p) : ∃ (ys : List (Nat × (Nat → Tp))) (f p2 : Nat) (cs' tp' st' ns' : Nat) (fx' : Bool) (C' A' S' NM' BK' : Nat → Int32) (bs' ws' : Nat → Nat) (q2 p2' κ2 τ2 v2 : Nat) (x2 : Int32), LTr n L e c BC ys p f p2 ∧ ys.length ≤ 32768 ∧ ((f = 1 ∧ df_X1_readList n each (qC B sn lu 0 ln se od co SW LW, uC (xC BC cs tp st ns fx C A S NM BK) p' κ q x) = some (qC B sn lu (nI 1) ln se od co SW LW, uC (xC BC cs' tp' st' ns' fx' C' A' S' NM' BK') p2' κ2 q2 x2)) ∨ (df_X1_readList n each (qC B sn lu 0 ln se od co SW LW, uC (xC BC cs tp st ns fx C A S NM BK) p' κ q x) = some (qC B (sn + 1) lu 0 ln se od co (rowU SW sn ln se (nI ys.length * each) 5 each (nI cs) (nI 0)) LW, uC (xC BC cs' tp' st' ns' fx' C' A' S' NM' BK') p2' κ2 q2 x2) ∧ (f = if τ2 = 0 then 0 else 1) ∧ TS n L e c BC p2 q2 p2' κ2 τ2 v2 x2 ∧ p ≤ p2 ∧ PS ns NM bs ws ns' NM' bs' ws' ∧ HT L c ns' NM' BK' bs' ws' ∧ cs' ≤ p2 + 1 ∧ 2 * ns' ≤ p2 + 1 ∧ (∀ i : Nat, i < cs → C' i = C i ∧ A' i = A i) ∧ CDS (sR BC 5) c e ns' bs' ws' C' A' cs ys cs')) := by
  obtain ⟨hn, hL, heL, h127, hend, hce, hO, hst, htC, h0, htR, hch⟩ := id hT0
  have h := lsc_C hT0 (B := B) (sn := sn) (lu := lu) (ln := ln) (se := se) (co := co) (od := od) (SW := SW) (LW := LW) hsn each (nI cs) 32768 0 n cs tp st ns fx C A S NM BK bs ws p q p' κ τ v x (by omega) (by omega) (by omega) hT hH hp0 hcs hns
  have r : df_X1_readList n each (qC B sn lu 0 ln se od co SW LW, uC (xC BC cs tp st ns fx C A S NM BK) p' κ q x) = df_X1_readList_20 n n each (nI cs) (nI 0) (nI (32768 - 0)) (qC B sn lu 0 ln se od co SW LW, uC (xC BC cs tp st ns fx C A S NM BK) p' κ q x) := by
    unfold df_X1_readList df_X1_readList_0
    show nd_let (sI (uC (xC BC cs tp st ns fx C A S NM BK) p' κ q x) 5) _ = _
    rw [xC_u5, nb_let]
    show nd_o (sO (uC (xC BC cs tp st ns fx C A S NM BK) p' κ q x) 0) 8 _ = _
    rw [uC_o, xC_o0, o8S hO]
    rfl
  rw [r]
  simp only [Nat.zero_add] at h
  exact h

/-- letters of texts, kept by the class -/
def btI (v : Int32) : Int32 := vp_nar .byte (v.toInt8.toInt32)
def ltW (LW : Nat → Int32) : Nat → List Int32 → Nat → Int32
  | _, [] => LW
  | lu, v :: l => ltW (upd LW lu (btI v)) (lu + 1) l
theorem ltW_a : ∀ (a b : List Int32) (LW : Nat → Int32) (lu : Nat), ltW LW lu (a ++ b) = ltW (ltW LW lu a) (lu + a.length) b := fun a => by
  induction a with
  | nil => intro b LW lu; rfl
  | cons v a ih =>
    intro b LW lu
    show ltW (upd LW lu (btI v)) (lu + 1) (a ++ b) = ltW (ltW (upd LW lu (btI v)) (lu + 1) a) (lu + (a.length + 1)) b
    rw [ih, show lu + 1 + a.length = lu + (a.length + 1) by omega]
theorem kl_C {n : Nat} {B : St} {sn lu ln se co : Nat} {od ft : Int32} {SW LW : Nat → Int32} (s2 : St) (h : lu < 32832) (v : Int32) : df_X1_keepLetter n v (qC B sn lu ft ln se od co SW LW, s2) = some (qC B sn (lu + 1) ft ln se od co SW (upd LW lu (btI v)), s2) := by
  have u1 : lu < 2 ^ 31 := by omega
  unfold df_X1_keepLetter df_X1_keepLetter_0 df_X1_keepLetter_33
  rw [if_neg (show ¬ (32832 : Int32) ≤ sI (qC B sn lu ft ln se od co SW LW, s2).1 1 from znle (a := 32832) (b := lu) h (by omega))]
  show nd_ck (nI lu) 32832 (nd_let (pR (qC B sn lu ft ln se od co SW LW) 1 (upd LW (Int32.toNatClampNeg (nI lu)) (btI v)), s2) _) = _
  rw [nm_ck (by omega) u1, nI_clamp u1, nb_let, qC_y1]
  show nd_let (pI (qC B sn lu ft ln se od co SW (upd LW lu (btI v))) 1 (nI lu + nI 1), s2) _ = _
  rw [nI_add, qC_w1, nb_let]
theorem kt_10 {n L e : Nat} {c : Nat → Nat} {BC BR : St} (hT : atx n L e c BC BR) {B : St} {sn ln se co : Nat} {od ft : Int32} {SW : Nat → Int32} (z : Nat) (hz : z ≤ e) (kd fr : Nat) (nm : Int32) : ∀ (k i g lu : Nat) (LW : Nat → Int32), i ≤ e → e - i ≤ k → k + 1 < g → qE c e k i = z → lu + (txO c e k i).length ≤ 32832 → df_X1_keepText_10 n g (nI i) (qC B sn lu ft ln se od co SW LW, uC BC (z + 1) kd fr nm) = some (qC B sn (lu + (txO c e k i).length) ft ln se od co SW (ltW LW lu (txI (txO c e k i))), uC BC (z + 1) kd fr nm) := fun k => by
  have hL : L ≤ 32768 := hT.2.1
  have heL : e ≤ L := hT.2.2.1
  have hce : c e = 10 := hT.2.2.2.2.2.1
  have fin : ∀ (g lu : Nat) (LW : Nat → Int32), df_X1_keepText_10 n (g + 1) (nI z) (qC B sn lu ft ln se od co SW LW, uC BC (z + 1) kd fr nm) = some (qC B sn lu ft ln se od co SW LW, uC BC (z + 1) kd fr nm) := fun g lu LW => by
    show dF_X1_keepText_10 n (df_X1_keepText_10 n g) (nI z) (qC B sn lu ft ln se od co SW LW, uC BC (z + 1) kd fr nm) = _
    unfold dF_X1_keepText_10
    rw [show sI (qC B sn lu ft ln se od co SW LW, uC BC (z + 1) kd fr nm).2 0 = nI (z + 1) from rfl, show nI (z + 1) - (1 : Int32) = nI z from pk_sub (b := 1) (by omega), if_pos (zle (Nat.le_refl _) (by omega))]
  induction k with
  | zero =>
    intro i g lu LW h2 h3 h4 h5 hw
    obtain ⟨g, rfl⟩ : ∃ m : Nat, g = m + 1 := ⟨g - 1, by omega⟩
    have h5 : i = z := h5
    subst h5
    exact fin g lu LW
  | succ k ih =>
    intro i g lu LW h2 h3 h4 h5 hw
    obtain ⟨g, rfl⟩ : ∃ m : Nat, g = m + 1 := ⟨g - 1, by omega⟩
    have h5 : (match shO c e i 34 with | none => i | some _ => qE c e k (i + wdO c e i)) = z := h5
    have tx : txO c e (k + 1) i = match shO c e i 34 with | none => [] | some v => v :: txO c e k (i + wdO c e i) := rfl
    cases hs : shO c e i 34 with
    | none =>
      rw [hs] at h5 tx
      have h5 : i = z := h5
      have tx : txO c e (k + 1) i = [] := tx
      subst h5
      rw [tx]
      exact fin g lu LW
    | some v =>
      rw [hs] at h5 tx
      have h5 : qE c e k (i + wdO c e i) = z := h5
      have tx : txO c e (k + 1) i = v :: txO c e k (i + wdO c e i) := tx
      obtain ⟨w1, w2, w3⟩ := shO_w hce hs
      have w4 := (qE_1 hce k (i + wdO c e i) w2 (by omega)).1
      rw [tx] at hw ⊢
      have hw : lu + ((txO c e k (i + wdO c e i)).length + 1) ≤ 32832 := hw
      have r := ih (i + wdO c e i) g (lu + 1) (upd LW lu (btI (nI v))) w2 (by omega) (by omega) h5 (by omega)
      have ch := ak_ch hT i 34 (z + 1) kd fr nm (by omega) (by omega)
      have wd := ak_wd hT i (z + 1) kd fr nm (by omega)
      rw [hs] at ch
      have ch : df_X9_character n (nI i) (34 : Int32) (uC BC (z + 1) kd fr nm) = some (nI v, uC BC (z + 1) kd fr nm) := ch
      show dF_X1_keepText_10 n (df_X1_keepText_10 n g) (nI i) (qC B sn lu ft ln se od co SW LW, uC BC (z + 1) kd fr nm) = _
      unfold dF_X1_keepText_10
      rw [show sI (qC B sn lu ft ln se od co SW LW, uC BC (z + 1) kd fr nm).2 0 = nI (z + 1) from rfl, show nI (z + 1) - (1 : Int32) = nI z from pk_sub (b := 1) (by omega), if_neg (znle (by omega) (by omega)), ch, nb_b2, nb_let, kl_C _ (by omega), nb_b1, wd, nb_b2, nb_let, nI_add, nb_let, r]
      show some (qC B sn (lu + 1 + (txO c e k (i + wdO c e i)).length) ft ln se od co SW _, _) = some (qC B sn (lu + ((txO c e k (i + wdO c e i)).length + 1)) ft ln se od co SW _, _)
      rw [show lu + 1 + (txO c e k (i + wdO c e i)).length = lu + ((txO c e k (i + wdO c e i)).length + 1) by omega]
      rfl
/-- keepText in the class, and the 0 behind it -/
theorem kt_C {n L e : Nat} {c : Nat → Nat} {BC BR : St} (hT : atx n L e c BC BR) {B : St} {sn lu ln se co : Nat} {od ft : Int32} {SW LW : Nat → Int32} (q : Nat) (kd : Nat) (nm : Int32) (hq : q < e) (hw : lu + (txO c e (e - (q + 1)) (q + 1)).length ≤ 32832) : df_X1_keepText n (qC B sn lu ft ln se od co SW LW, uC BC (qE c e (e - (q + 1)) (q + 1) + 1) kd q nm) = some (qC B sn (lu + (txO c e (e - (q + 1)) (q + 1)).length) ft ln se od co SW (ltW LW lu (txI (txO c e (e - (q + 1)) (q + 1)))), uC BC (qE c e (e - (q + 1)) (q + 1) + 1) kd q nm) := by
  obtain ⟨hn, hL, heL, h127, hend, hce, hO, hst, htC, h0, htR, hch⟩ := id hT
  have z1 := qE_1 hce (e - (q + 1)) (q + 1) (by omega) (by omega)
  have r := kt_10 hT (B := B) (sn := sn) (ln := ln) (se := se) (co := co) (od := od) (ft := ft) (SW := SW) (qE c e (e - (q + 1)) (q + 1)) (by omega) kd q nm (e - (q + 1)) (q + 1) n lu LW (by omega) (by omega) (by omega) rfl hw
  unfold df_X1_keepText df_X1_keepText_0
  rw [show sI (qC B sn lu ft ln se od co SW LW, uC BC (qE c e (e - (q + 1)) (q + 1) + 1) kd q nm).2 3 + 1 = nI (q + 1) from nI_add q 1, nb_let]
  exact r

theorem tk_4 {c : Nat → Nat} {e q p' κ τ v : Nat} (h : tkK c e q p' κ τ v) (z : κ = 4) : τ = 4 := by
  unfold tkK at h
  rcases h with w | w | w | w | w | w | w <;> omega
theorem tx_l {c : Nat → Nat} {e : Nat} (hce : c e = 10) : ∀ k i : Nat, i ≤ e → e - i ≤ k → (txO c e k i).length + i ≤ qE c e k i := fun k => by
  induction k with
  | zero => intro i _ _; show 0 + i ≤ i; omega
  | succ k ih =>
    intro i h1 h2
    have tx : txO c e (k + 1) i = match shO c e i 34 with | none => [] | some v => v :: txO c e k (i + wdO c e i) := rfl
    have tq : qE c e (k + 1) i = match shO c e i 34 with | none => i | some _ => qE c e k (i + wdO c e i) := rfl
    cases hs : shO c e i 34 with
    | none =>
      rw [hs] at tx tq
      rw [tx, tq]
      show 0 + i ≤ i
      omega
    | some v =>
      rw [hs] at tx tq
      rw [tx, tq]
      obtain ⟨w1, w2, w3⟩ := shO_w hce hs
      have := ih (i + wdO c e i) w2 (by omega)
      show (txO c e k (i + wdO c e i)).length + 1 + i ≤ qE c e k (i + wdO c e i)
      omega
/-- behind a text: a comma or not -/
theorem t55 {n L e : Nat} {c : Nat → Nat} {BC BR0 : St} (hT0 : atx n L e c BC BR0) (Qs : St) (G : Int32 → Int32 → Int32 → (St × St) → Option (St × St)) (x1 first w : Int32) {cs tp st ns : Nat} {fx : Bool} {C A S NM BK : Nat → Int32} {p q p' κ τ v : Nat} {x : Int32} (T : TS n L e c BC p q p' κ τ v x) : ∃ (q2 p2 κ2 τ2 v2 : Nat) (x2 : Int32), TS n L e c BC p' q2 p2 κ2 τ2 v2 x2 ∧ (¬ τ2 = 44 → df_X1_readTexts_55 n G x1 first w (Qs, uC (xC BC cs tp st ns fx C A S NM BK) p' κ q x) = df_X1_readTexts_90 n first (Qs, uC (xC BC cs tp st ns fx C A S NM BK) p2 κ2 q2 x2)) ∧ (τ2 = 44 → ∃ (qn pn κn τn vn : Nat) (xn : Int32), df_X1_readTexts_55 n G x1 first w (Qs, uC (xC BC cs tp st ns fx C A S NM BK) p' κ q x) = G x1 first (w + Int32.ofInt (-1)) (Qs, uC (xC BC cs tp st ns fx C A S NM BK) pn κn qn xn) ∧ TS n L e c BC p2 qn pn κn τn vn xn) := by
  obtain ⟨t1, t2, t3, t4, t5, t6, t7, t8, t9⟩ := id T
  obtain ⟨q2, p2, κ2, τ2, v2, x2, m1, m2⟩ := nx_1 hT0 (cs := cs) (tp := tp) (st := st) (ns := ns) (fx := fx) (C := C) (A := A) (S := S) (NM := NM) (BK := BK) p' κ q x t5 (fun i i1 i2 => t2 i (by omega) i2)
  obtain ⟨r1, r2, r3, r4, r5, r6, r7, r8, r9⟩ := id m2
  have k6 : κ2 ≤ 6 := by unfold tkK at r7; omega
  have sg := ts_sg m2 44 (by omega)
  have s := xs_1 (n := n) (B := BC) (cs := cs) (tp := tp) (st := st) (ns := ns) (fx := fx) (C := C) (A := A) (S := S) (NM := NM) (BK := BK) (ap := p2) (kd := κ2) (fr := q2) (nm := x2) k6 (44 : Int32)
  refine ⟨q2, p2, κ2, τ2, v2, x2, m2, fun h => ?_, fun h => ?_⟩
  · rw [decide_eq_false (show ¬ (κ2 = 5 ∧ x2 = 44) from fun z => h (sg.mp z))] at s
    unfold df_X1_readTexts_55
    rw [m1, nb_b1, nb_let, s, nb_b2, nb_let]
    exact if_pos rfl
  · obtain ⟨qn, pn, κn, τn, vn, xn, n1, n2⟩ := nx_1 hT0 (cs := cs) (tp := tp) (st := st) (ns := ns) (fx := fx) (C := C) (A := A) (S := S) (NM := NM) (BK := BK) p2 κ2 q2 x2 r5 (fun i i1 i2 => r2 i (by omega) i2)
    refine ⟨qn, pn, κn, τn, vn, xn, ?_, n2⟩
    rw [decide_eq_true (show κ2 = 5 ∧ x2 = 44 from sg.mpr h)] at s
    unfold df_X1_readTexts_55
    rw [m1, nb_b1, nb_let, s, nb_b2, nb_let, if_neg (show ¬ bI true = 0 by decide), n1, nb_b1, nb_let, nb_let]
theorem t90 {n : Nat} {B : St} {sn lu ln se co : Nat} {od : Int32} {SW LW : Nat → Int32} (s2 : St) (h : sn < 8194) (first : Int32) : df_X1_readTexts_90 n first (qC B sn lu 0 ln se od co SW LW, s2) = some (qC B (sn + 1) lu 0 ln se od co (rowU SW sn ln se (nI lu - first) 6 0 first (nI 0)) LW, s2) := by
  unfold df_X1_readTexts_90
  rw [add_C s2 h, nb_b1]
  rfl
/-- one text kept, with its 0 -/
theorem tkp {n L e : Nat} {c : Nat → Nat} {BC BR0 : St} (hT0 : atx n L e c BC BR0) {B : St} {sn lu ln se co : Nat} {od : Int32} {SW LW : Nat → Int32} {cs tp st ns : Nat} {fx : Bool} {C A S NM BK : Nat → Int32} {p q p' κ τ v : Nat} {x : Int32} (T : TS n L e c BC p q p' κ τ v x) (ht : τ = 4) (hlu : lu ≤ p) (en : Bool) (G : Int32 → Int32 → Int32 → (St × St) → Option (St × St)) (first : Int32) (w : Nat) (hw : w < 2 ^ 31) : dF_X1_readTexts_14 n G (bI en) first (nI w) (qC B sn lu 0 ln se od co SW LW, uC (xC BC cs tp st ns fx C A S NM BK) p' κ q x) = df_X1_readTexts_55 n G (bI en) first (nI w) (qC B sn (lu + (qtL c e en (q, p')).length) 0 ln se od co SW (ltW LW lu (qtL c e en (q, p'))), uC (xC BC cs tp st ns fx C A S NM BK) p' κ q x) ∧ lu + (qtL c e en (q, p')).length ≤ p' := by
  have he : e ≤ 32768 := by have := hT0.2.1; have := hT0.2.2.1; omega
  have hce : c e = 10 := hT0.2.2.2.2.2.1
  have hpq := T.2.2.1
  obtain ⟨k4, q4, p4⟩ := ts_4 T ht
  subst k4
  have tl := tx_l hce (e - (q + 1)) (q + 1) (by omega) (by omega)
  have qe := (qE_1 hce (e - (q + 1)) (q + 1) (by omega) (by omega)).2.1
  have k := kt_C (at_C (cs := cs) (tp := tp) (st := st) (ns := ns) (fx := fx) (C := C) (A := A) (S := S) (NM := NM) (BK := BK) hT0) (B := B) (sn := sn) (lu := lu) (ln := ln) (se := se) (co := co) (od := od) (ft := 0) (SW := SW) (LW := LW) q 4 x q4 (by omega)
  rw [← p4] at k
  have ll : (txI (txO c e (e - (q + 1)) (q + 1))).length = (txO c e (e - (q + 1)) (q + 1)).length := List.length_map _
  unfold dF_X1_readTexts_14
  rw [if_neg (show ¬ nI w < (0 : Int32) from znl (b := 0) (Nat.zero_le _) hw), if_pos (show sI (qC B sn lu 0 ln se od co SW LW, uC (xC BC cs tp st ns fx C A S NM BK) p' 4 q x).1 2 = 0 from rfl), if_pos (show sI (qC B sn lu 0 ln se od co SW LW, uC (xC BC cs tp st ns fx C A S NM BK) p' 4 q x).2 2 = 4 from rfl), k, nb_b1]
  cases en with
  | false =>
    rw [if_pos (show bI false = 0 from rfl), show qtL c e false (q, p') = txI (txO c e (e - (q + 1)) (q + 1)) from List.append_nil _, ll]
    exact ⟨rfl, by omega⟩
  | true =>
    rw [if_neg (show ¬ bI true = 0 by decide), kl_C _ (by omega), nb_b1, show qtL c e true (q, p') = txI (txO c e (e - (q + 1)) (q + 1)) ++ [0] from rfl, ltW_a, List.length_append, ll]
    exact ⟨rfl, by show lu + (_ + 1) ≤ p'; omega⟩
/-- readTexts in the class: its loop -/
theorem txc_C {n L e : Nat} {c : Nat → Nat} {BC BR0 : St} (hT0 : atx n L e c BC BR0) {B : St} {sn ln se co : Nat} {od : Int32} {SW : Nat → Int32} (hsn : sn < 8194) {cs tp st ns : Nat} {fx : Bool} {C A S NM BK : Nat → Int32} (en : Bool) (first : Int32) : ∀ (N w g lu : Nat) (LW : Nat → Int32) (p q p' κ τ v : Nat) (x : Int32), e - p < N → N + 2 < g → N ≤ w → w < 2 ^ 31 → TS n L e c BC p q p' κ τ v x → lu ≤ p → ∃ (ys : List (Nat × Nat)) (f p2 q2 p2' κ2 τ2 v2 : Nat) (x2 : Int32), XTr n L e c BC ys p f p2 ∧ ys.length ≤ N ∧ ((f = 1 ∧ ∃ (lu' : Nat) (LW' : Nat → Int32), df_X1_readTexts_14 n g (bI en) first (nI w) (qC B sn lu 0 ln se od co SW LW, uC (xC BC cs tp st ns fx C A S NM BK) p' κ q x) = some (qC B sn lu' (nI 1) ln se od co SW LW', uC (xC BC cs tp st ns fx C A S NM BK) p2' κ2 q2 x2)) ∨ (df_X1_readTexts_14 n g (bI en) first (nI w) (qC B sn lu 0 ln se od co SW LW, uC (xC BC cs tp st ns fx C A S NM BK) p' κ q x) = some (qC B (sn + 1) (lu + (qtA c e en ys).length) 0 ln se od co (rowU SW sn ln se (nI (lu + (qtA c e en ys).length) - first) 6 0 first (nI 0)) (ltW LW lu (qtA c e en ys)), uC (xC BC cs tp st ns fx C A S NM BK) p2' κ2 q2 x2) ∧ (f = if τ2 = 0 then 0 else 1) ∧ TS n L e c BC p2 q2 p2' κ2 τ2 v2 x2 ∧ p ≤ p2 ∧ lu + (qtA c e en ys).length ≤ p2)) := fun N => by
  induction N with
  | zero => intro w g lu LW p q p' κ τ v x h1; omega
  | succ N ih =>
    intro w g lu LW p q p' κ τ v x h1 h2 h3 h4 hT hlu
    obtain ⟨g, rfl⟩ : ∃ m : Nat, g = m + 1 := ⟨g - 1, by omega⟩
    obtain ⟨t1, t2, t3, t4, t5, t6, t7, t8, t9⟩ := id hT
    by_cases ht : τ = 4
    · obtain ⟨k1, k2⟩ := tkp hT0 (B := B) (sn := sn) (lu := lu) (ln := ln) (se := se) (co := co) (od := od) (SW := SW) (LW := LW) (cs := cs) (tp := tp) (st := st) (ns := ns) (fx := fx) (C := C) (A := A) (S := S) (NM := NM) (BK := BK) hT ht hlu en (df_X1_readTexts_14 n g) first w h4
      obtain ⟨q3, p3, κ3, τ3, v3, x3, T3, c1, c2⟩ := t55 hT0 (qC B sn (lu + (qtL c e en (q, p')).length) 0 ln se od co SW (ltW LW lu (qtL c e en (q, p')))) (df_X1_readTexts_14 n g) (bI en) first (nI w) (cs := cs) (tp := tp) (st := st) (ns := ns) (fx := fx) (C := C) (A := A) (S := S) (NM := NM) (BK := BK) hT
      have k1 : df_X1_readTexts_14 n (g + 1) (bI en) first (nI w) (qC B sn lu 0 ln se od co SW LW, uC (xC BC cs tp st ns fx C A S NM BK) p' κ q x) = _ := k1
      have T34 := T3.2.2.1
      have T35 := T3.2.2.2.1
      by_cases cm : τ3 = 44
      · obtain ⟨qn, pn, κn, τn, vn, xn, z1, z2⟩ := c2 cm
        have κ5 : κ3 = 5 := ((ts_sg T3 44 (by omega)).mpr cm).1
        have q4 := T3.2.2.2.2.2.1 (by omega)
        have p3e := T3.2.2.2.2.1
        have lf : nI w + Int32.ofInt (-1) = nI (w - 1) := by
          have h : nI w + Int32.ofInt (-1) = nI w - nI 1 := by
            rw [Int32.sub_eq_add_neg]
            rfl
          rw [h, pk_sub (by omega)]
        rw [lf] at z1
        obtain ⟨ys, f, p2, q2, p2', κ2, τ2, v2, x2, a1, a2, a3⟩ := ih (w - 1) g (lu + (qtL c e en (q, p')).length) (ltW LW lu (qtL c e en (q, p'))) p3 qn pn κn τn vn xn (by omega) (by omega) (by omega) (by omega) z2 (by omega)
        refine ⟨(q, p') :: ys, f, p2, q2, p2', κ2, τ2, v2, x2, ⟨q, p', κ, τ, v, x, hT, Or.inr ⟨ht, rfl, q3, p3, κ3, τ3, v3, x3, T3, Or.inr ⟨cm, a1⟩⟩⟩, by show ys.length + 1 ≤ N + 1; omega, ?_⟩
        rcases a3 with ⟨b1, lu', LW', b2⟩ | ⟨b1, b2, b3, b4, b5⟩
        · exact Or.inl ⟨b1, lu', LW', k1.trans (z1.trans b2)⟩
        · have lq : lu + (qtL c e en (q, p')).length + (qtA c e en ys).length = lu + (qtA c e en ((q, p') :: ys)).length := by
            rw [qtA_s, List.length_append]
            omega
          have lw : ltW (ltW LW lu (qtL c e en (q, p'))) (lu + (qtL c e en (q, p')).length) (qtA c e en ys) = ltW LW lu (qtA c e en ((q, p') :: ys)) := by
            rw [qtA_s, ltW_a]
          rw [lq, lw] at b1
          rw [lq] at b5
          exact Or.inr ⟨k1.trans (z1.trans b1), b2, b3, by omega, b5⟩
      · refine ⟨[(q, p')], if τ3 = 0 then 0 else 1, p', q3, p3, κ3, τ3, v3, x3, ⟨q, p', κ, τ, v, x, hT, Or.inr ⟨ht, rfl, q3, p3, κ3, τ3, v3, x3, T3, Or.inl ⟨cm, rfl, rfl, rfl⟩⟩⟩, by show 1 ≤ N + 1; omega, Or.inr ⟨?_, rfl, T3, by omega, ?_⟩⟩
        · rw [qtA_1]
          exact k1.trans ((c1 cm).trans (t90 _ hsn _))
        · rw [qtA_1]
          exact k2
    · refine ⟨[(0, 0)], 1, p, q, p', κ, τ, v, x, ⟨q, p', κ, τ, v, x, hT, Or.inl ⟨ht, rfl, rfl⟩⟩, by show 1 ≤ N + 1; omega, Or.inl ⟨rfl, lu, LW, ?_⟩⟩
      have κ4 : ¬ κ = 4 := fun z => ht (tk_4 t7 z)
      have k6 : κ ≤ 6 := by unfold tkK at t7; omega
      show dF_X1_readTexts_14 n (df_X1_readTexts_14 n g) (bI en) first (nI w) (qC B sn lu 0 ln se od co SW LW, uC (xC BC cs tp st ns fx C A S NM BK) p' κ q x) = _
      unfold dF_X1_readTexts_14
      rw [if_neg (show ¬ nI w < (0 : Int32) from znl (b := 0) (Nat.zero_le _) h4), if_pos (show sI (qC B sn lu 0 ln se od co SW LW, uC (xC BC cs tp st ns fx C A S NM BK) p' κ q x).1 2 = 0 from rfl), if_neg (show ¬ sI (qC B sn lu 0 ln se od co SW LW, uC (xC BC cs tp st ns fx C A S NM BK) p' κ q x).2 2 = 4 from zne (b := 4) κ4 (by omega) (by omega)), blm_C, nb_b1]
      rfl
/-- readTexts in the class: the whole of it -/
theorem txs_C {n L e : Nat} {c : Nat → Nat} {BC BR0 : St} (hT0 : atx n L e c BC BR0) {B : St} {sn lu ln se co : Nat} {od : Int32} {SW LW : Nat → Int32} (hsn : sn < 8194) {cs tp st ns : Nat} {fx : Bool} {C A S NM BK : Nat → Int32} (en : Bool) {p q p' κ τ v : Nat} {x : Int32} (hT : TS n L e c BC p q p' κ τ v x) (hp0 : 0 < p) (hlu : lu ≤ p) : ∃ (ys : List (Nat × Nat)) (f p2 q2 p2' κ2 τ2 v2 : Nat) (x2 : Int32), XTr n L e c BC ys p f p2 ∧ ys.length ≤ 32768 ∧ ((f = 1 ∧ ∃ (lu' : Nat) (LW' : Nat → Int32), df_X1_readTexts n (bI en) (qC B sn lu 0 ln se od co SW LW, uC (xC BC cs tp st ns fx C A S NM BK) p' κ q x) = some (qC B sn lu' (nI 1) ln se od co SW LW', uC (xC BC cs tp st ns fx C A S NM BK) p2' κ2 q2 x2)) ∨ (df_X1_readTexts n (bI en) (qC B sn lu 0 ln se od co SW LW, uC (xC BC cs tp st ns fx C A S NM BK) p' κ q x) = some (qC B (sn + 1) (lu + (qtA c e en ys).length) 0 ln se od co (rowU SW sn ln se (nI (lu + (qtA c e en ys).length) - (nI lu)) 6 0 (nI lu) (nI 0)) (ltW LW lu (qtA c e en ys)), uC (xC BC cs tp st ns fx C A S NM BK) p2' κ2 q2 x2) ∧ (f = if τ2 = 0 then 0 else 1) ∧ TS n L e c BC p2 q2 p2' κ2 τ2 v2 x2 ∧ p ≤ p2 ∧ lu + (qtA c e en ys).length ≤ p2)) := by
  obtain ⟨hn, hL, heL, h127, hend, hce, hO, hst, htC, h0, htR, hch⟩ := id hT0
  have h := txc_C hT0 (B := B) (sn := sn) (ln := ln) (se := se) (co := co) (od := od) (SW := SW) hsn (cs := cs) (tp := tp) (st := st) (ns := ns) (fx := fx) (C := C) (A := A) (S := S) (NM := NM) (BK := BK) en (nI lu) 32768 32768 n lu LW p q p' κ τ v x (by omega) (by omega) (by omega) (by omega) hT hlu
  have r : df_X1_readTexts n (bI en) (qC B sn lu 0 ln se od co SW LW, uC (xC BC cs tp st ns fx C A S NM BK) p' κ q x) = df_X1_readTexts_14 n n (bI en) (nI lu) (nI 32768) (qC B sn lu 0 ln se od co SW LW, uC (xC BC cs tp st ns fx C A S NM BK) p' κ q x) := by
    unfold df_X1_readTexts df_X1_readTexts_0
    show nd_let (nI lu) _ = _
    rw [nb_let]
    show nd_o (sO (uC (xC BC cs tp st ns fx C A S NM BK) p' κ q x) 0) 8 _ = _
    rw [uC_o, xC_o0, o8S hO]
    rfl
  rw [r]
  exact h

theorem drs_t (n : Nat) (s : St × St) : df_X1_readStatement n 118 s = df_X1_readStatement_72 n 118 s := by
  unfold df_X1_readStatement df_X1_readStatement_0 df_Jx29ce0_ordinal_8abf5 df_Jx29ce0_ordinal_8abf5_0
  rw [lt_y (by omega), lt_y (by omega), nb_b2, show Int32.ofNat 118 = nI 118 from rfl, nm_ck (by omega) (by omega), nI_clamp (by omega), show tb_0 118 = 1 from rfl]
  rfl
theorem drs_d (n : Nat) (s : St × St) : df_X1_readStatement n 119 s = df_X1_readStatement_72 n 119 s := by
  unfold df_X1_readStatement df_X1_readStatement_0 df_Jx29ce0_ordinal_8abf5 df_Jx29ce0_ordinal_8abf5_0
  rw [lt_y (by omega), lt_y (by omega), nb_b2, show Int32.ofNat 119 = nI 119 from rfl, nm_ck (by omega) (by omega), nI_clamp (by omega), show tb_0 119 = 2 from rfl]
  rfl
theorem drs_e (n : Nat) (s : St × St) : df_X1_readStatement n 120 s = nd_b1 (df_X1_readConstant n s) (fun (t : St × St) => df_X1_readStatement_206 n t) := by
  unfold df_X1_readStatement df_X1_readStatement_0 df_Jx29ce0_ordinal_8abf5 df_Jx29ce0_ordinal_8abf5_0
  rw [lt_y (by omega), lt_y (by omega), nb_b2, show Int32.ofNat 120 = nI 120 from rfl, nm_ck (by omega) (by omega), nI_clamp (by omega), show tb_0 120 = 3 from rfl]
  rfl
theorem drs_l1 (n : Nat) (s : St × St) : df_X1_readStatement n 121 s = df_X1_readStatement_90 n 121 s := by
  unfold df_X1_readStatement df_X1_readStatement_0 df_Jx29ce0_ordinal_8abf5 df_Jx29ce0_ordinal_8abf5_0
  rw [lt_y (by omega), lt_y (by omega), nb_b2, show Int32.ofNat 121 = nI 121 from rfl, nm_ck (by omega) (by omega), nI_clamp (by omega), show tb_0 121 = 4 from rfl]
  rfl
theorem drs_l2 (n : Nat) (s : St × St) : df_X1_readStatement n 122 s = df_X1_readStatement_90 n 122 s := by
  unfold df_X1_readStatement df_X1_readStatement_0 df_Jx29ce0_ordinal_8abf5 df_Jx29ce0_ordinal_8abf5_0
  rw [lt_y (by omega), lt_y (by omega), nb_b2, show Int32.ofNat 122 = nI 122 from rfl, nm_ck (by omega) (by omega), nI_clamp (by omega), show tb_0 122 = 5 from rfl]
  rfl
theorem drs_l3 (n : Nat) (s : St × St) : df_X1_readStatement n 123 s = df_X1_readStatement_90 n 123 s := by
  unfold df_X1_readStatement df_X1_readStatement_0 df_Jx29ce0_ordinal_8abf5 df_Jx29ce0_ordinal_8abf5_0
  rw [lt_y (by omega), lt_y (by omega), nb_b2, show Int32.ofNat 123 = nI 123 from rfl, nm_ck (by omega) (by omega), nI_clamp (by omega), show tb_0 123 = 6 from rfl]
  rfl
theorem drs_x (n : Nat) (s : St × St) : df_X1_readStatement n 124 s = df_X1_readStatement_101 n 124 s := by
  unfold df_X1_readStatement df_X1_readStatement_0 df_Jx29ce0_ordinal_8abf5 df_Jx29ce0_ordinal_8abf5_0
  rw [lt_y (by omega), lt_y (by omega), nb_b2, show Int32.ofNat 124 = nI 124 from rfl, nm_ck (by omega) (by omega), nI_clamp (by omega), show tb_0 124 = 7 from rfl]
  rfl
theorem drs_z (n : Nat) (s : St × St) : df_X1_readStatement n 125 s = df_X1_readStatement_101 n 125 s := by
  unfold df_X1_readStatement df_X1_readStatement_0 df_Jx29ce0_ordinal_8abf5 df_Jx29ce0_ordinal_8abf5_0
  rw [lt_y (by omega), lt_y (by omega), nb_b2, show Int32.ofNat 125 = nI 125 from rfl, nm_ck (by omega) (by omega), nI_clamp (by omega), show tb_0 125 = 8 from rfl]
  rfl
theorem drs_s (n : Nat) (s : St × St) : df_X1_readStatement n 126 s = nd_b2 (df_X9_sum n s.2) (fun (u : Int32) (s1 : St) => nd_b2 (df_X1_fixed n u 0 32768 (s.1, s1)) (fun (w : Int32) (s2 : St × St) => nd_b1 (df_X1_add n 7 w 0 (-1) s2) (fun (t : St × St) => df_X1_readStatement_206 n t))) := by
  unfold df_X1_readStatement df_X1_readStatement_0 df_Jx29ce0_ordinal_8abf5 df_Jx29ce0_ordinal_8abf5_0
  rw [lt_y (by omega), lt_y (by omega), nb_b2, show Int32.ofNat 126 = nI 126 from rfl, nm_ck (by omega) (by omega), nI_clamp (by omega), show tb_0 126 = 9 from rfl]
  rfl
theorem drs_a (n : Nat) (s : St × St) : df_X1_readStatement n 127 s = nd_b2 (df_X9_sum n s.2) (fun (u : Int32) (s1 : St) => nd_b2 (df_X1_fixed n u 0 10 (s.1, s1)) (fun (w : Int32) (s2 : St × St) => nd_b1 (df_X1_add n 8 0 ((1 : Int32) <<< (w &&& 31)) (-1) s2) (fun (t : St × St) => df_X1_readStatement_206 n t))) := by
  unfold df_X1_readStatement df_X1_readStatement_0 df_Jx29ce0_ordinal_8abf5 df_Jx29ce0_ordinal_8abf5_0
  rw [lt_y (by omega), lt_y (by omega), nb_b2, show Int32.ofNat 127 = nI 127 from rfl, nm_ck (by omega) (by omega), nI_clamp (by omega), show tb_0 127 = 10 from rfl]
  rfl

/-- .text and .data, lists, texts: readStatement of the class -/
theorem d72_t {n : Nat} {B : St} {sn lu ln se co : Nat} {od ft : Int32} {SW LW : Nat → Int32} (s2 : St) : df_X1_readStatement n 118 (qC B sn lu ft ln se od co SW LW, s2) = df_X1_readStatement_206 n (qC B sn lu ft ln 0 od co SW LW, s2) := by
  rw [drs_t]
  unfold df_X1_readStatement_72
  rw [lt_y (by omega), nb_let, show ko_b 118 = nI 0 from rfl]
  show df_X1_readStatement_206 n (pI (qC B sn lu ft ln se od co SW LW) 4 (nI 0), s2) = _
  rw [qC_w4]
theorem d72_d {n : Nat} {B : St} {sn lu ln se co : Nat} {od ft : Int32} {SW LW : Nat → Int32} (s2 : St) : df_X1_readStatement n 119 (qC B sn lu ft ln se od co SW LW, s2) = df_X1_readStatement_206 n (qC B sn lu ft ln 1 od co SW LW, s2) := by
  rw [drs_d]
  unfold df_X1_readStatement_72
  rw [lt_y (by omega), nb_let, show ko_b 119 = nI 1 from rfl]
  show df_X1_readStatement_206 n (pI (qC B sn lu ft ln se od co SW LW) 4 (nI 1), s2) = _
  rw [qC_w4]
theorem d90_1 (n : Nat) (s : St × St) : df_X1_readStatement n 121 s = nd_b1 (df_X1_readList n (nI 1) s) (fun (t : St × St) => df_X1_readStatement_206 n t) := by
  rw [drs_l1]
  unfold df_X1_readStatement_90
  rw [lt_y (by omega), show ko_b 121 = nI 1 from rfl]
theorem d90_2 (n : Nat) (s : St × St) : df_X1_readStatement n 122 s = nd_b1 (df_X1_readList n (nI 2) s) (fun (t : St × St) => df_X1_readStatement_206 n t) := by
  rw [drs_l2]
  unfold df_X1_readStatement_90
  rw [lt_y (by omega), show ko_b 122 = nI 2 from rfl]
theorem d90_4 (n : Nat) (s : St × St) : df_X1_readStatement n 123 s = nd_b1 (df_X1_readList n (nI 4) s) (fun (t : St × St) => df_X1_readStatement_206 n t) := by
  rw [drs_l3]
  unfold df_X1_readStatement_90
  rw [lt_y (by omega), show ko_b 123 = nI 4 from rfl]
theorem d101_x (n : Nat) (s : St × St) : df_X1_readStatement n 124 s = nd_b1 (df_X1_readTexts n (bI false) s) (fun (t : St × St) => df_X1_readStatement_206 n t) := by
  rw [drs_x]
  unfold df_X1_readStatement_101
  rw [lt_y (by omega), show ko_b 124 = nI 0 from rfl, if_neg (show ¬ nI 0 = (1 : Int32) by decide)]
  rfl
theorem d101_z (n : Nat) (s : St × St) : df_X1_readStatement n 125 s = nd_b1 (df_X1_readTexts n (bI true) s) (fun (t : St × St) => df_X1_readStatement_206 n t) := by
  rw [drs_z]
  unfold df_X1_readStatement_101
  rw [lt_y (by omega), show ko_b 125 = nI 1 from rfl, if_pos (show nI 1 = (1 : Int32) from rfl)]
  rfl

/-- fixed() behind a sum that can't be: the class -/
theorem fix_N {n : Nat} {B : St} {sn lu ln se co : Nat} {od : Int32} {SW LW : Nat → Int32} (s2 : St) (lo hi : Int32) : df_X1_fixed n (-1) lo hi (qC B sn lu 0 ln se od co SW LW, s2) = some (0, (qC B sn lu (nI 1) ln se od co SW LW, s2)) := by
  have h : df_X1_blame n 1 (qC B sn lu 0 ln se od co SW LW, s2) = some (qC B sn lu (nI 1) ln se od co SW LW, s2) := blm_C s2 1
  unfold df_X1_fixed df_X1_fixed_0
  rw [if_pos (show sI (qC B sn lu 0 ln se od co SW LW, s2).1 2 = 0 from rfl)]
  rw [if_pos (show (-1 : Int32) < 0 by decide)]
  unfold df_X1_fixed_23 df_X1_fixed_33
  rw [if_neg (show ¬ (0 : Int32) ≤ -1 by decide), h, nb_b1]
/-- sum() and fixed() in the class: .space, .align, li, .equ -/
theorem sfx_C {n L e : Nat} {c : Nat → Nat} {BC BR0 : St} (hT0 : atx n L e c BC BR0) {B : St} {sn lu ln se co : Nat} {od : Int32} {SW LW : Nat → Int32} {p q p' κ τ v : Nat} {x : Int32} {cs tp st ns : Nat} {fx : Bool} {C A S NM BK : Nat → Int32} {bs ws : Nat → Nat} (hn : 70000 < n) (hT : TS n L e c BC p q p' κ τ v x) (hH : HT L c ns NM BK bs ws) (hcs : cs ≤ p) (hns : 2 * ns ≤ p) (hp : e - p < 32768) {X : Nat → Nat} {nL : Nat} {W : Nat → Int32} (hN : NTB c X nL W ns NM bs ws) (hI : IDX c X nL ns bs ws) (ho : ∀ (p2 m : Nat) (P : Nat → Tp), RX n L e c BC p true p2 m P → one P m) (sx : Nat) (ts lo hi : Int32) : ∃ (ok : Bool) (p2 q2 p2' κ2 τ2 v2 : Nat) (x2 : Int32) (m2 : Nat) (P2 : Nat → Tp) (ns2 : Nat) (fx2 : Bool) (C2 A2 S2 S3 NM2 BK2 : Nat → Int32) (bs2 ws2 : Nat → Nat) (tp2 tp3 : Nat) (BC3 : St) (u : Int32), df_X9_sum n (uC (xC BC cs tp st ns fx C A S NM BK) p' κ q x) = some (u, uC (xC BC (cs + m2 + 1) tp2 (if ok = true then 5 else 6) ns2 fx2 C2 A2 S2 NM2 BK2) p2' κ2 q2 x2) ∧ RX n L e c BC p ok p2 m2 P2 ∧ PS ns NM bs ws ns2 NM2 bs2 ws2 ∧ HT L c ns2 NM2 BK2 bs2 ws2 ∧ (ok = false → df_X1_fixed n u lo hi (qC B sn lu 0 ln se od co SW LW, uC (xC BC (cs + m2 + 1) tp2 (if ok = true then 5 else 6) ns2 fx2 C2 A2 S2 NM2 BK2) p2' κ2 q2 x2) = some (0, (qC B sn lu (nI 1) ln se od co SW LW, uC (xC BC (cs + m2 + 1) tp2 (if ok = true then 5 else 6) ns2 fx2 C2 A2 S2 NM2 BK2) p2' κ2 q2 x2))) ∧ (ok = true → (BC3 = BC ∨ ∃ tr : Int32, BC3 = pI BC 11 tr) ∧ df_X1_fixed n u lo hi (qC B sn lu 0 ln se od co SW LW, uC (xC BC (cs + m2 + 1) tp2 (if ok = true then 5 else 6) ns2 fx2 C2 A2 S2 NM2 BK2) p2' κ2 q2 x2) = some (if fxR fx2 (zV (VV c X e nL sx ts 0 W) P2 m2) (dV (VV c X e nL sx ts 0 W) P2 m2) lo hi = 0 then zV (VV c X e nL sx ts 0 W) P2 m2 else 0, (qC B sn lu (nI (fxR fx2 (zV (VV c X e nL sx ts 0 W) P2 m2) (dV (VV c X e nL sx ts 0 W) P2 m2) lo hi)) ln se od co SW LW, uC (xC BC3 (cs + m2 + 1) tp3 (if ok = true then 5 else 6) ns2 fx2 C2 A2 S3 NM2 BK2) p2' κ2 q2 x2)) ∧ TS n L e c BC p2 q2 p2' κ2 τ2 v2 x2 ∧ p ≤ p2 ∧ CR (sR BC 5) c e C A cs ns2 bs2 ws2 m2 P2 C2 A2 ∧ C2 (cs + m2) = 21 ∧ (fx2 = true ↔ fxQ c e bs2 ws2 NM2 ns2 m2 P2) ∧ cs + m2 ≤ p2 ∧ 2 * ns2 ≤ p2 + 1 ∧ 0 < m2) := by
  have he : e ≤ 32768 := by have := hT0.2.1; have := hT0.2.2.1; omega
  obtain ⟨ok, p2, q2, p2', κ2, τ2, v2, x2, m2, P2, ns2, fx2, C2, A2, S2, NM2, BK2, bs2, ws2, tp2, f1, f2, f3, f4, f5, f6⟩ := exs_2 hT0 p q p' κ τ v x cs tp st ns fx C A S NM BK bs ws hT hH hcs hns hp
  cases ok with
  | false =>
    exact ⟨false, p2, q2, p2', κ2, τ2, v2, x2, m2, P2, ns2, fx2, C2, A2, S2, S2, NM2, BK2, bs2, ws2, tp2, tp2, BC, _, f1, f5, f2, f3, fun _ => fix_N _ lo hi, fun z => absurd z (by decide)⟩
  | true =>
    obtain ⟨T3, u2, u3, u4, u5, u6, u7, u8⟩ := f4 rfl
    have p2e := T3.1
    obtain ⟨BC3, tp3, S3, g1, g2⟩ := fix_C (n := n) (B := B) (sn := sn) (lu := lu) (ln := ln) (se := se) (co := co) (od := od) (SW := SW) (LW := LW) (BC := BC) (cs := cs + m2 + 1) (tp := tp2) (st := if true = true then 5 else 6) (ns := ns2) (fx := fx2) (C := C2) (A := A2) (S := S2) (NM := NM2) (BK := BK2) (p' := p2') (κ := κ2) (q := q2) (x := x2) (s0 := cs) hn (by omega) u3 u4 (by omega) (by omega) (NTB_n hN hI f2 f3) u5 (ho p2 m2 P2 f5) sx ts lo hi
    exact ⟨true, p2, q2, p2', κ2, τ2, v2, x2, m2, P2, ns2, fx2, C2, A2, S2, S3, NM2, BK2, bs2, ws2, tp2, tp3, BC3, _, f1, f5, f2, f3, fun z => absurd z (by decide), fun _ => ⟨g1, g2, T3, u2, u3, u4, u5, u6, u7, u8⟩⟩

/-- .space and .align: readStatement of the class behind sum and fixed -/
theorem sp_s {n : Nat} {B : St} {sn lu ln se co : Nat} {od ft u w : Int32} {SW LW : Nat → Int32} {s0 s1 s3 : St} (hsn : sn < 8194) (h1 : df_X9_sum n s0 = some (u, s1)) (h2 : df_X1_fixed n u 0 32768 (qC B sn lu 0 ln se od co SW LW, s1) = some (w, (qC B sn lu ft ln se od co SW LW, s3))) : (¬ ft = 0 → df_X1_readStatement n 126 (qC B sn lu 0 ln se od co SW LW, s0) = some (qC B sn lu ft ln se od co SW LW, s3)) ∧ (ft = 0 → df_X1_readStatement n 126 (qC B sn lu 0 ln se od co SW LW, s0) = df_X1_readStatement_206 n (qC B (sn + 1) lu 0 ln se od co (rowU SW sn ln se w 7 0 (-1) (nI 0)) LW, s3)) := by
  have e1 : df_X1_readStatement n 126 (qC B sn lu 0 ln se od co SW LW, s0) = nd_b1 (df_X1_add n 7 w 0 (-1) (qC B sn lu ft ln se od co SW LW, s3)) (fun (t : St × St) => df_X1_readStatement_206 n t) := by
    rw [drs_s]
    show nd_b2 (df_X9_sum n s0) _ = _
    rw [h1, nb_b2]
    show nd_b2 (df_X1_fixed n u 0 32768 (qC B sn lu 0 ln se od co SW LW, s1)) _ = _
    rw [h2, nb_b2]
  constructor
  · intro z
    rw [e1, add_F s3 z, nb_b1, end_CF z]
  · intro z
    subst z
    rw [e1, add_C s3 hsn, nb_b1]
theorem sp_a {n : Nat} {B : St} {sn lu ln se co : Nat} {od ft u w : Int32} {SW LW : Nat → Int32} {s0 s1 s3 : St} (hsn : sn < 8194) (h1 : df_X9_sum n s0 = some (u, s1)) (h2 : df_X1_fixed n u 0 10 (qC B sn lu 0 ln se od co SW LW, s1) = some (w, (qC B sn lu ft ln se od co SW LW, s3))) : (¬ ft = 0 → df_X1_readStatement n 127 (qC B sn lu 0 ln se od co SW LW, s0) = some (qC B sn lu ft ln se od co SW LW, s3)) ∧ (ft = 0 → df_X1_readStatement n 127 (qC B sn lu 0 ln se od co SW LW, s0) = df_X1_readStatement_206 n (qC B (sn + 1) lu 0 ln se od co (rowU SW sn ln se 0 8 ((1 : Int32) <<< (w &&& 31)) (-1) (nI 0)) LW, s3)) := by
  have e1 : df_X1_readStatement n 127 (qC B sn lu 0 ln se od co SW LW, s0) = nd_b1 (df_X1_add n 8 0 ((1 : Int32) <<< (w &&& 31)) (-1) (qC B sn lu ft ln se od co SW LW, s3)) (fun (t : St × St) => df_X1_readStatement_206 n t) := by
    rw [drs_a]
    show nd_b2 (df_X9_sum n s0) _ = _
    rw [h1, nb_b2]
    show nd_b2 (df_X1_fixed n u 0 10 (qC B sn lu 0 ln se od co SW LW, s1)) _ = _
    rw [h2, nb_b2]
  constructor
  · intro z
    rw [e1, add_F s3 z, nb_b1, end_CF z]
  · intro z
    subst z
    rw [e1, add_C s3 hsn, nb_b1]

