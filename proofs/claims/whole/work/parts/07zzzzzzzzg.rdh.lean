/-- jumps as they are read: the reference -/
theorem rdr_H {n L e : Nat} {c : Nat → Nat} {BC B : St} {X : Nat → Nat} {nL cu : Nat} (hV : RV n L e c BC B X nL cu) (hc : cstS B) {ct : Nat} {gr : Bool} {PA BY OU : Nat → Int32} {ap : Nat} {S : St} (h : SR B ct gr PA BY OU 0 ap S) {q p1 κ v1 : Nat} {x : Int32} (T : TS n L e c BC q q p1 κ 1 v1 x) {se : Nat} (hP : PA cu = nI ((4 * se) * 2 ^ 17 + q)) (hse : se < 2) (hq : q < 2 ^ 17) {y : Nat} {od : Int32} (hy : y < 128) (hN : NAr n L c q (p1 - q) y od) {q1 p1' κ1 τ1 w1 : Nat} {x1 : Int32} (T1 : TS n L e c BC p1 q1 p1' κ1 τ1 w1 x1) (hk : shT (sgm y) = 34 ∨ (shT (sgm y) = 8 ∧ ¬ tkG c τ1 q1 p1' < 32)) {ok : Bool} {p2 m : Nat} {P : Nat → Tp} (R : RX n L e c BC p1 ok p2 m P) : ∃ S' : St, df_X13_statement n (nI q) 0 S = df_X13_statement_326 n S' ∧ (ok = false → FL e (pI B 15 0) (nI 1 + 16 * sI B 13) S') ∧ (ok = true → SR (pI B 15 0) 2 false (upd PA cu (nI ((4 * se + 8) * 2 ^ 17 + q))) BY OU 0 p2 S') := by
  obtain ⟨S1, e1, e2, e3⟩ := stm_2 hV.1 hc h 0 T hN
  have hV' := RV_p15 hV 0
  have m0 : sI (pI B 15 0) 15 = 0 := rfl
  have go : ∀ (s w : Int32), (s = 34 ∨ ¬ tkG c τ1 q1 p1' < 32) → df_X13_statement_136 n (nI (sgm y)) od S1 = nd_b1 (df_X13_jumps n s w S1) (fun (s : St) => df_X13_statement_326 n s) → ∃ S' : St, df_X13_statement n (nI q) 0 S = df_X13_statement_326 n S' ∧ (ok = false → FL e (pI B 15 0) (nI 1 + 16 * sI B 13) S') ∧ (ok = true → SR (pI B 15 0) 2 false (upd PA cu (nI ((4 * se + 8) * 2 ^ 17 + q))) BY OU 0 p2 S') := fun s w h1 h3 => by
    obtain ⟨S2, f1, f2⟩ := jms_h (B := pI B 15 0) hV.1 e2 T1 s w h1
    cases ok with
    | true =>
      obtain ⟨S3, g1, g2⟩ := jmp_0 hV' f1 hP hse hq m0 R (if s = 34 then w else 1)
      refine ⟨S3, ?_, fun u => (nomatch u), fun _ => ?_⟩
      · rw [e1, h3, f2, g1, nb_b1, nb_b1]
      · rw [Nat.zero_add] at g2
        exact g2
    | false =>
      obtain ⟨S3, g1, g2⟩ := jmp_f hV' f1 (⟨(4 * se) * 2 ^ 17 + q, hP, by omega, by omega⟩ : PY PA cu q) m0 R (if s = 34 then w else 1)
      refine ⟨S3, ?_, fun _ => g2, fun u => (nomatch u)⟩
      rw [e1, h3, f2, g1, nb_b1, nb_b1]
  rcases hk with hk | hk
  · exact go 34 _ (Or.inl rfl) (dsp_34 e3 (sgm y) (sgm_l hy) hk od)
  · exact go 8 _ (Or.inr hk.2) (dsp_8 e3 (sgm y) (sgm_l hy) hk.1 od)
/-- branches as they are read: the reference -/
theorem rdr_B {n L e : Nat} {c : Nat → Nat} {BC B : St} {X : Nat → Nat} {nL cu : Nat} (hV : RV n L e c BC B X nL cu) (hc : cstS B) {ct : Nat} {gr : Bool} {PA BY OU : Nat → Int32} {ap : Nat} {S : St} (h : SR B ct gr PA BY OU 0 ap S) {q p1 κ v1 : Nat} {x : Int32} (T : TS n L e c BC q q p1 κ 1 v1 x) {se : Nat} (hP : PA cu = nI ((4 * se) * 2 ^ 17 + q)) (hse : se < 2) (hq : q < 2 ^ 17) {y : Nat} (hy : y < 128) (hN : NAr n L c q (p1 - q) y 0) (hs : shT (sgm y) = 7 ∨ shT (sgm y) = 35 ∨ shT (sgm y) = 36 ∨ shT (sgm y) = 37) {f p2 : Nat} {rs : List Nat} {m : Nat} {P : Nat → Tp} (hTr : Tr n L e c BC (FRM y) p1 f p2 rs m P) : ∃ S' : St, df_X13_statement n (nI q) 0 S = df_X13_statement_326 n S' ∧ (¬ f = 0 → FL e (pI B 15 0) (nI f + 16 * sI B 13) S') ∧ (f = 0 → SR (pI B 15 0) (if teY y rs = true then 2 else 4) false (upd PA cu (nI ((4 * se + if teY y rs = true then 16 else 25) * 2 ^ 17 + q))) BY OU 0 p2 S') := by
  obtain ⟨S1, e1, e2, e3⟩ := stm_2 hV.1 hc h 0 T hN
  have hV' := RV_p15 hV 0
  have m0 : sI (pI B 15 0) 15 = 0 := rfl
  obtain ⟨r1, r2⟩ := brA_1 hV' (⟨(4 * se) * 2 ^ 17 + q, hP, by omega, by omega⟩ : PY PA cu q) e2 e3 (fun _ => m0) y hy hs hTr
  by_cases u : f = 0
  · obtain ⟨s, r, r', Sk, px, k1, k2, k3, k4, k5, k6, k7, k8, k9, k10⟩ := r2 u
    have bs : brS y = s := by unfold brS; rw [k1, nI_clamp (by omega)]
    have te : teY y rs = teO s (ko_b y) r := by unfold teY; rw [bs, k4]
    obtain ⟨S3, g1, g2⟩ := brn_0 hV' k7 hP hse hq m0 k8 (ko_b y) (brX s r r').1 (brX s r r').2 (teO s (ko_b y) r)
    refine ⟨S3, ?_, fun w => absurd u w, fun _ => ?_⟩
    · rw [e1, k10, g1, nb_b1]
    · rw [te]
      rw [Nat.zero_add] at g2
      exact g2
  · obtain ⟨S3, g1, g2⟩ := r1 u
    exact ⟨S3, e1.trans g1, fun _ => g2, fun w => absurd w u⟩
/-- jal with a register, jalr: plain ones too -/
theorem frm44 : FRM 44 = [100, 44, 74] ∧ shT (sgm 44) = 8 ∧ ptT (sgm 44) = ko_b 44 ∧ ko_b 44 &&& 3 = 3 ∧ shT (sgm 32) = 30 ∧ ptT (sgm 32) = ko_b 32 ∧ ko_b 32 &&& 3 = 3 := by decide +kernel
theorem PLR_J {n L e : Nat} {c : Nat → Nat} {BC : St} {p1 : Nat} {od : Int32} (ho : odK od) {q1 p1' κ1 τ1 w1 : Nat} {x1 : Int32} (T1 : TS n L e c BC p1 q1 p1' κ1 τ1 w1 x1) (hg : tkG c τ1 q1 p1' < 32) {f p2 : Nat} {rs : List Nat} {m : Nat} {P : Nat → Tp} (hTr : Tr n L e c BC (FRM 44) p1 f p2 rs m P) : PLR n L e c BC p1 44 od f p2 m P 74 (ko_b 44 ||| od ||| RGB (FRM 44) rs) := by
  intro B X nL cu st ct gr PA BY OU S hV hY h hw hc h0
  obtain ⟨t1, t2, t3, t4, _⟩ := frm44
  rw [t1] at hTr
  obtain ⟨S1, e1, e2⟩ := jms_r hV.1 h T1 (ko_b 44 ||| od) hg
  rw [if_pos ((b3_b ho _ _).trans frm44.2.2.2.1)] at hw
  obtain ⟨S2, r1, r2, r3⟩ := shp_8 hV hY e1 hw (ko_b 44 ||| od) h0 hTr
  have bz : byZ (ko_b 44 ||| od ||| RGB (FRM 44) rs) = by4 := funext fun v => if_pos (by rw [b3_b ho]; exact t4)
  refine ⟨S2, ?_, r2, fun u => ⟨fun z => absurd z (by decide), fun _ => ?_⟩⟩
  · rw [dsp_8 hc (sgm 44) (sgm_l (by omega)) t2 od, t3, e2, r1, nb_b1]
  · rw [bz, t1]
    exact r3 u
theorem b3_r {k : Int32} (a : Nat) (F rs : List Nat) : (k ||| rgb 100 a ||| RGB F rs) &&& 3 = k &&& 3 := by
  show (k ||| rgb 100 a ||| RGB F rs) &&& nI 3 = k &&& nI 3
  rw [b3_1, b3_1, RGB_3, rgb_3]
  rw [show nI 0 = (0 : Int32) from rfl, or_0, or_0]
theorem PLR_R {n L e : Nat} {c : Nat → Nat} {BC : St} {p1 p q0 κ0 τ0 v0 : Nat} {x0 : Int32} (T0 : TS n L e c BC p1 q0 p κ0 τ0 v0 x0) (g0 : tkG c τ0 q0 p < 32) {q9 p9 κ9 τ9 v9 : Nat} {x9 : Int32} (T9 : TS n L e c BC p q9 p9 κ9 τ9 v9 x9) (h9 : ¬ τ9 = 0) {f p2 : Nat} {rs : List Nat} {m : Nat} {P : Nat → Tp} (hTr : Tr n L e c BC [44, 73, 40, 97, 41] p f p2 rs m P) : PLR n L e c BC p1 32 0 f p2 m P 73 (ko_b 32 ||| rgb 100 (tkG c τ0 q0 p) ||| RGB [44, 73, 40, 97, 41] rs) := by
  intro B X nL cu st ct gr PA BY OU S hV hY h hw hc h0
  obtain ⟨_, _, _, _, t5, t6, t7⟩ := frm44
  rw [if_pos ((b3_r _ _ _).trans frm44.2.2.2.2.2.2)] at hw
  obtain ⟨S2, r1, r2, r3⟩ := shp_30 hV hY h hw (ko_b 32) h0 T0 g0 T9 h9 hTr
  have bz : byZ (ko_b 32 ||| rgb 100 (tkG c τ0 q0 p) ||| RGB [44, 73, 40, 97, 41] rs) = by4 := funext fun v => if_pos (by rw [b3_r]; exact t7)
  refine ⟨S2, ?_, r2, fun u => ⟨fun z => absurd z (by decide), fun _ => ?_⟩⟩
  · rw [dsp_30 hc (sgm 32) (sgm_l (by omega)) t5 0, t6, or_0, r1, nb_b1]
  · rw [bz]
    exact r3 u
theorem jr_3 : ∀ r : Fin 32, ((ko_b 32 ||| 128) ||| nI r.1 <<< ((15 : Int32) &&& 31)) &&& 3 = 3 := by decide +kernel
theorem PLR_R0 {n L e : Nat} {c : Nat → Nat} {BC : St} {p1 p q0 κ0 τ0 v0 : Nat} {x0 : Int32} (T0 : TS n L e c BC p1 q0 p κ0 τ0 v0 x0) (g0 : tkG c τ0 q0 p < 32) {q9 p9 κ9 τ9 v9 : Nat} {x9 : Int32} (T9 : TS n L e c BC p q9 p9 κ9 τ9 v9 x9) (h9 : τ9 = 0) {P : Nat → Tp} : PLR n L e c BC p1 32 0 0 p 0 P 0 ((ko_b 32 ||| 128) ||| nI (tkG c τ0 q0 p) <<< ((15 : Int32) &&& 31)) := by
  intro B X nL cu st ct gr PA BY OU S hV hY h hw hc h0
  obtain ⟨_, _, _, _, t5, t6, t7⟩ := frm44
  obtain ⟨S0a, e0a, h0a⟩ := tak_y hV.1 h T0 g0
  obtain ⟨S0, e0, h0c⟩ := ise_S hV.1 h0a T9
  rw [decide_eq_true h9] at e0
  have e0 : df_X13_isEnd n S0a = some (1, S0) := e0
  rw [if_pos (show ((ko_b 32 ||| 128) ||| nI (tkG c τ0 q0 p) <<< ((15 : Int32) &&& 31)) &&& 3 = 3 from jr_3 ⟨_, g0⟩)] at hw
  obtain ⟨S2, w1, w2⟩ := wor_S (n := n) h0c hw ((ko_b 32 ||| 128) ||| nI (tkG c τ0 q0 p) <<< ((15 : Int32) &&& 31))
  have b3 : ((ko_b 32 ||| 128) ||| nI (tkG c τ0 q0 p) <<< ((15 : Int32) &&& 31)) &&& 3 = 3 := by
    show ((ko_b 32 ||| 128) ||| nI (tkG c τ0 q0 p) <<< nI 15) &&& nI 3 = 3
    rw [b3_1, b3_s _ 15 (by omega)]
    decide
  have bz : byZ ((ko_b 32 ||| 128) ||| nI (tkG c τ0 q0 p) <<< ((15 : Int32) &&& 31)) = by4 := funext fun v => if_pos b3
  refine ⟨S2, ?_, fun u => absurd rfl u, fun _ => ⟨fun _ => ?_, fun z => absurd rfl z⟩⟩
  · rw [dsp_30 hc (sgm 32) (sgm_l (by omega)) t5 0, t6, or_0]
    unfold df_X13_longs df_X13_longs_0
    rw [e0a, nb_b2, if_pos rfl, if_pos (SR_12 h0a), e0, nb_b2, if_neg (by decide), w1, nb_b1, nb_b1]
  · rw [bz]
    exact plo4 rfl w2 rfl
theorem PLR_RF {n L e : Nat} {c : Nat → Nat} {BC : St} {p1 p q0 κ0 τ0 v0 : Nat} {x0 : Int32} (T0 : TS n L e c BC p1 q0 p κ0 τ0 v0 x0) {f : Nat} (g0 : (tkG c τ0 q0 p = 33 ∧ f = 1) ∨ (tkG c τ0 q0 p = 32 ∧ f = 3)) {p2 m : Nat} {P : Nat → Tp} {l : Nat} {b : Int32} : PLR n L e c BC p1 32 0 f p2 m P l b := by
  intro B X nL cu st ct gr PA BY OU S hV hY h hw hc h0
  obtain ⟨_, _, _, _, t5, t6, t7⟩ := frm44
  have hl := hV.2.2.2.2.2.2.2
  obtain ⟨S1, e1, g1⟩ := tak_n hV.1 h T0 (by omega)
  have ne := f13 hl (g := tkG c τ0 q0 p)
  rw [f13e g0] at g1 ne
  have f12 := (FL_f (FN_L g1)).1
  refine ⟨S1, ?_, fun _ => FN_L g1, fun u => by omega⟩
  rw [dsp_30 hc (sgm 32) (sgm_l (by omega)) t5 0, t6, or_0]
  unfold df_X13_longs df_X13_longs_0 df_X13_longs_40
  rw [e1, nb_b2, if_pos rfl, f12, if_neg ne, if_neg (by decide), com_F (FN_L g1) ne, nb_b2, if_pos rfl, nb_b1]
