/-- texts in later rounds and as they are read -/
theorem dirX {y : Nat} (h : y = 124 ∨ y = 125) (n : Nat) (S : St) (hc : cstS S) : df_X13_statement_136 n (nI (sgm y)) 0 S = nd_b1 (df_X13_directive_87 n n (if decide (y = 125) = true then 47 else 46) 0 1 S) (fun (s : St) => df_X13_statement_326 n s) := by
  obtain ⟨_, _, _, _, _, _, a7, a8, _, _, _, _, _, b4, b5⟩ := dirA
  rcases h with h | h <;> subst h
  · rw [dsp_46 hc (sgm 124) (sgm_l (by omega)) a7 0, b4, or_0]
    unfold df_X13_directive df_X13_directive_0
    rw [if_pos (by decide), if_neg (by decide), if_neg (by decide), if_neg (by decide)]
    rfl
  · rw [dsp_47 hc (sgm 125) (sgm_l (by omega)) a8 0, b5, or_0]
    unfold df_X13_directive df_X13_directive_0
    rw [if_pos (by decide), if_neg (by decide), if_neg (by decide), if_neg (by decide)]
    rfl
theorem rfb_X {n L e : Nat} {c : Nat → Nat} {BC BR0 : St} (hT0 : atx n L e c BC BR0) {q p1 κ v1 : Nat} {x : Int32} (T : TS n L e c BC q q p1 κ 1 v1 x) {y : Nat} (hy : y = 124 ∨ y = 125) (hN : NAr n L c q (p1 - q) y 0) {ys : List (Nat × Nat)} (hys : ys.length ≤ 40000) {p2 : Nat} (hTr : XTr n L e c BC ys p1 0 p2) {se : Nat} {X0 : Nat → Nat} {W0 : Nat → Int32} {n0 : Nat} : RFB n L e c BC q se 0 3 (qtA c e (decide (y = 125)) ys).length none X0 W0 n0 (6, 0, 0, [], qtA c e (decide (y = 125)) ys) := by
  intro B X nL cu A ct ap μ gr PA BY OU S hV hc hE h14 hP hA hlw hl hb h hμ hw
  have hn : 70000 < n := hT0.1
  obtain ⟨m1, m2, m3, m4, m5⟩ := md_n (B := B) hμ
  obtain ⟨S1, e1, e2, e3⟩ := stm_2 hV.1 hc h (nI μ) T hN
  obtain ⟨S2, r1, r2, r3⟩ := txt_R (RV_p15 hV (nI μ)) (gr := gr) (PA := PA) (BY := BY) (decide (y = 125)) (f := 0) (p2 := p2) ys p1 0 n OU S1 e2 (by rw [Nat.zero_add]; exact hw) (by omega) hTr
  obtain ⟨j1, j2⟩ := r3 rfl
  have f15 := SR_15 j2
  rw [pt_3 hμ] at j2
  refine ⟨S2, ?_, fun _ w => absurd rfl w, fun _ => ⟨_, p2, gr, j1, fun u => absurd (show (6 : Nat) = 1 ∨ (6 : Nat) = 2 from u) (by decide), j2⟩⟩
  rw [e1, dirX hy n S1 e3, r1, nb_b1]
  exact s326 (by rw [f15, m1]; exact m2)
theorem rdr_X {n L e : Nat} {c : Nat → Nat} {BC B : St} {X : Nat → Nat} {nL cu : Nat} (hV : RV n L e c BC B X nL cu) (hc : cstS B) {ct : Nat} {gr : Bool} {PA BY OU : Nat → Int32} {ap : Nat} {S : St} (h : SR B ct gr PA BY OU 0 ap S) {q p1 κ v1 : Nat} {x : Int32} (T : TS n L e c BC q q p1 κ 1 v1 x) {y : Nat} (hy : y = 124 ∨ y = 125) (hN : NAr n L c q (p1 - q) y 0) {ys : List (Nat × Nat)} (hys : ys.length ≤ 40000) {f p2 : Nat} (hTr : XTr n L e c BC ys p1 f p2) : ∃ S' : St, df_X13_statement n (nI q) 0 S = df_X13_statement_326 n S' ∧ (¬ f = 0 → FL e (pI B 15 0) (nI f + 16 * sI B 13) S') ∧ (f = 0 → p2 ≤ e ∧ SR (pI B 15 0) (qtA c e (decide (y = 125)) ys).length gr PA BY OU 0 p2 S') := by
  have hn : 70000 < n := hV.1.1
  obtain ⟨S1, e1, e2, e3⟩ := stm_2 hV.1 hc h 0 T hN
  have ok0 : ∀ k : Nat, OKW (pI B 15 0) k := fun k u => absurd (show (0 : Int32) = 3 from u) (by decide)
  obtain ⟨S2, r1, r2, r3⟩ := txt_R (RV_p15 hV 0) (gr := gr) (PA := PA) (BY := BY) (decide (y = 125)) (f := f) (p2 := p2) ys p1 0 n OU S1 e2 (ok0 _) (by omega) hTr
  refine ⟨S2, ?_, r2, fun u => ?_⟩
  · rw [e1, dirX hy n S1 e3, r1, nb_b1]
  · obtain ⟨j1, j2⟩ := r3 u
    rw [Nat.zero_add, show ∀ bs : List Int32, pt (pI B 15 0) 0 OU bs = OU from fun bs => if_neg (show ¬ (0 : Int32) = 3 by decide)] at j2
    exact ⟨j1, j2⟩
/-- .text, .data as they are read -/
theorem rdr_T {n L e : Nat} {c : Nat → Nat} {BC B : St} (hT : atx n L e c BC B) (hc : cstS B) {ct : Nat} {gr : Bool} {PA BY OU : Nat → Int32} {ap : Nat} {S : St} (h : SR B ct gr PA BY OU 0 ap S) {q p1 κ v1 : Nat} {x : Int32} (T : TS n L e c BC q q p1 κ 1 v1 x) {y : Nat} (hy : y = 118 ∨ y = 119) (hN : NAr n L c q (p1 - q) y 0) : ∃ S' : St, df_X13_statement n (nI q) 0 S = df_X13_statement_326 n S' ∧ SR (pI (pI B 15 0) 14 (nI (y - 118))) 0 gr PA BY OU 0 p1 S' := by
  obtain ⟨S1, e1, e2, e3⟩ := stm_2 hT hc h 0 T hN
  refine ⟨pI S1 14 (nI (y - 118)), ?_, SR_p14 e2 _⟩
  rcases hy with hy | hy <;> subst hy
  · rw [e1, dsp_40 e3 (sgm 118) (sgm_l (by omega)) dirA.1 0]
    unfold df_X13_directive df_X13_directive_0 df_X13_directive_185
    rw [if_neg (by decide), nb_let, nb_b1]
    rfl
  · rw [e1, dsp_41 e3 (sgm 119) (sgm_l (by omega)) dirA.2.1 0]
    unfold df_X13_directive df_X13_directive_0 df_X13_directive_185
    rw [if_neg (by decide), nb_let, nb_b1]
    rfl
/-- what a fixed expression's range says -/
theorem fxR_0 {fx dv : Bool} {z lo hi : Int32} (h : fxR fx z dv lo hi = 0) : fx = true ∧ dv = false ∧ ¬ z < lo ∧ ¬ hi < z := by
  unfold fxR at h
  cases fx with
  | false => exact absurd (show (5 : Nat) = 0 from h) (by decide)
  | true =>
    rw [if_neg (by decide)] at h
    cases dv with
    | true => exact absurd (show (9 : Nat) = 0 from h) (by decide)
    | false =>
      rw [if_neg (by decide)] at h
      by_cases y : z < lo ∨ hi < z
      · rw [if_pos y] at h; exact absurd h (by decide)
      · exact ⟨rfl, rfl, fun u => y (Or.inl u), fun u => y (Or.inr u)⟩
/-- .align as it is read -/
theorem rdr_L {n L e : Nat} {c : Nat → Nat} {BC B : St} {X : Nat → Nat} {nL cu : Nat} (hV : RV n L e c BC B X nL cu) (hc : cstS B) {ct : Nat} {gr : Bool} {PA BY OU : Nat → Int32} {ap : Nat} {S : St} (h : SR B ct gr PA BY OU 0 ap S) {q p1 κ v1 : Nat} {x : Int32} (T : TS n L e c BC q q p1 κ 1 v1 x) (hY : PY PA cu q) (hN : NAr n L c q (p1 - q) 127 0) {ok : Bool} {p2 m : Nat} {P : Nat → Tp} (R : RX n L e c BC p1 ok p2 m P) : ∃ S' : St, df_X13_statement n (nI q) 0 S = df_X13_statement_326 n S' ∧ (ok = false → FL e (pI B 15 0) (nI 1 + 16 * sI B 13) S') ∧ (ok = true → one P m ∧ p2 ≤ e ∧ (fxR (!lsF (loV c X e nL) P m) (zV (VW c X e nL q B) P m) (dV (VW c X e nL q B) P m) 0 10 = 0 → ∃ k : Nat, k ≤ 10 ∧ zV (VW c X e nL q B) P m = nI k ∧ SR (pI B 15 0) 0 gr PA (upd BY cu (-1 - nI k)) OU 0 p2 S') ∧ (¬ fxR (!lsF (loV c X e nL) P m) (zV (VW c X e nL q B) P m) (dV (VW c X e nL q B) P m) 0 10 = 0 → FL e (pI B 15 0) (nI (fxR (!lsF (loV c X e nL) P m) (zV (VW c X e nL q B) P m) (dV (VW c X e nL q B) P m) 0 10) + 16 * sI B 13) S')) := by
  obtain ⟨S1, e1, e2, e3⟩ := stm_2 hV.1 hc h 0 T hN
  have hcu := hV.2.2.2.2.2.2.1
  have h16 := hV.2.2.2.2.2.1
  have hd : ∀ (w : Int32) (S2 : St), df_X13_fixed n 0 10 S1 = some (w, S2) → sI S2 16 = nI cu → df_X13_statement n (nI q) 0 S = df_X13_statement_326 n (pR S2 5 (upd (sR S2 5) cu (-1 - w))) := fun w S2 f s16 => by
    rw [e1, dsp_49 e3 (sgm 127) (sgm_l (by omega)) dirA.2.2.2.2.2.2.2.2.2.1 0]
    unfold df_X13_directive df_X13_directive_0 df_X13_directive_185
    rw [if_pos (by decide), if_neg (by decide), if_neg (by decide), if_pos rfl, f, nb_b2, s16, nm_ck hcu (by omega), nI_clamp (by omega), nb_let, nb_b1]
  have flw : ∀ (ft : Int32) (S2 : St) (v : Nat → Int32), FL e (pI B 15 0) ft S2 → FL e (pI B 15 0) ft (pR S2 5 v) := fun ft S2 v hh => by
    obtain ⟨ct', gr', PA', BY', OU', ap', h1, h2⟩ := hh
    exact ⟨_, _, _, _, _, _, h1, SR_w5 h2 v⟩
  have f16 : ∀ (ft : Int32) (S2 : St), FL e (pI B 15 0) ft S2 → sI S2 16 = nI cu := fun ft S2 hh => (FL_f hh).2.2.2.2.trans h16
  cases ok with
  | false =>
    obtain ⟨w, S2, f1, f2⟩ := fix_f (RV_p15 hV 0) hY e2 R 0 10
    exact ⟨_, hd w S2 f1 (f16 _ _ f2), fun _ => flw _ _ _ f2, fun u => (nomatch u)⟩
  | true =>
    obtain ⟨w, S2, f1, f2, f3, f4, f5, f6⟩ := fix_R (RV_p15 hV 0) hY e2 rfl R 0 10
    have f3 : w = zV (VW c X e nL q B) P m := f3
    subst f3
    have s16 : sI S2 16 = nI cu := by
      by_cases u : fxR (!lsF (loV c X e nL) P m) (zV (VW c X e nL q B) P m) (dV (VW c X e nL q B) P m) 0 10 = 0
      · exact (SR_16 (f4 u)).trans h16
      · exact f16 _ _ (f5 u)
    refine ⟨_, hd _ S2 f1 s16, fun u => (nomatch u), fun _ => ⟨f6, f2, fun u => ?_, fun u => flw _ _ _ (f5 u)⟩⟩
    obtain ⟨_, _, g1, g2⟩ := fxR_0 u
    obtain ⟨k, hk, ek⟩ := nI_of2 (M := 10) (n := 10) (by decide) g1 (Int32.not_lt.mp g2)
    refine ⟨k, hk, ek, ?_⟩
    have f7 := f4 u
    have f8 := SR_w5 f7 (upd BY cu (-1 - nI k))
    rw [SR_r5 f7, ek]
    exact f8
/-- li as it is read -/
theorem rdr_N {n L e : Nat} {c : Nat → Nat} {BC B : St} {X : Nat → Nat} {nL cu : Nat} (hV : RV n L e c BC B X nL cu) (hc : cstS B) {ct : Nat} {gr : Bool} {PA BY OU : Nat → Int32} {ap : Nat} {S : St} (h : SR B ct gr PA BY OU 0 ap S) {q p1 κ v1 : Nat} {x : Int32} (T : TS n L e c BC q q p1 κ 1 v1 x) (hY : PY PA cu q) (hN : NAr n L c q (p1 - q) 117 0) {f p2 : Nat} {rs : List Nat} {m : Nat} {P : Nat → Tp} (hTr : Tr n L e c BC [100, 44, 65] p1 f p2 rs m P) : ∃ S' : St, df_X13_statement n (nI q) 0 S = df_X13_statement_326 n S' ∧ (¬ f = 0 → FL e (pI B 15 0) (nI f + 16 * sI B 13) S') ∧ (f = 0 → ∃ (r q1 pa κ1 τ1 w1 : Nat) (x1 : Int32) (q2 pb κ2 τ2 w2 : Nat) (x2 : Int32), rs = [r] ∧ TS n L e c BC p1 q1 pa κ1 τ1 w1 x1 ∧ r = tkG c τ1 q1 pa ∧ r < 32 ∧ TS n L e c BC pa q2 pb κ2 τ2 w2 x2 ∧ τ2 = 44 ∧ RX n L e c BC pb true p2 m P ∧ p2 ≤ e ∧ one P m ∧ (fxR (!lsF (loV c X e nL) P m) (zV (VW c X e nL q B) P m) (dV (VW c X e nL q B) P m) (-2147483648) 2147483647 = 0 → SR (pI B 15 0) (numB (nI r) (zV (VW c X e nL q B) P m)).length gr PA BY OU 0 p2 S') ∧ (¬ fxR (!lsF (loV c X e nL) P m) (zV (VW c X e nL q B) P m) (dV (VW c X e nL q B) P m) (-2147483648) 2147483647 = 0 → FL e (pI B 15 0) (nI (fxR (!lsF (loV c X e nL) P m) (zV (VW c X e nL q B) P m) (dV (VW c X e nL q B) P m) (-2147483648) 2147483647) + 16 * sI B 13) S')) := by
  obtain ⟨S1, e1, e2, e3⟩ := stm_2 hV.1 hc h 0 T hN
  have hV' := RV_p15 hV 0
  have hT : atx n L e c BC (pI B 15 0) := hV.1
  have hl : ∃ ln : Nat, sI (pI B 15 0) 13 = nI ln ∧ ln ≤ 40000 := hV.2.2.2.2.2.2.2
  have ok0 : ∀ k : Nat, OKW (pI B 15 0) k := fun k u => absurd (show (0 : Int32) = 3 from u) (by decide)
  have d33 : ¬ (39 : Int32) = 33 := by decide
  have m3 : ¬ sI (pI B 15 0) 15 = 3 := show ¬ (0 : Int32) = 3 by decide
  have h0 : df_X13_statement n (nI q) 0 S = nd_b1 (df_X13_others n 39 (ptT (sgm 117) ||| 0) S1) (fun (s : St) => df_X13_statement_326 n s) := by
    rw [e1, dsp_39 e3 (sgm 117) (sgm_l (by omega)) laA.2.2.2.1 0]
  obtain ⟨q1, pa, κ1, τ1, w1, x1, T1, hTr⟩ := hTr
  rw [if_neg (by decide), if_pos (by decide)] at hTr
  rcases hTr with ⟨g1, r1, rs1, rfl, hTr⟩ | hF
  rotate_left
  · have hF2 : (tkG c τ1 q1 pa = 33 ∧ f = 1) ∨ (tkG c τ1 q1 pa = 32 ∧ f = 3) := by
      rcases hF with hF | ⟨hF | hF, hF2⟩
      · exact Or.inl hF
      · exact Or.inr ⟨hF, hF2⟩
      · exact absurd hF.2 (by unfold rfit; simp)
    obtain ⟨S2, f1, g1⟩ := tak_n hT e2 T1 (by omega)
    have ne := f13 hl (g := tkG c τ1 q1 pa)
    rw [f13e hF2] at g1 ne
    refine ⟨S2, ?_, fun _ => FN_L g1, fun u => by omega⟩
    rw [h0]
    unfold df_X13_others df_X13_others_0
    rw [f1, nb_b2, if_neg d33, com_F (FN_L g1) ne, nb_b2, if_pos rfl, nb_b1]
  obtain ⟨S2, f1, h1⟩ := tak_y hT e2 T1 g1
  obtain ⟨q2, pb, κ2, τ2, w2, x2, T2, hTr⟩ := hTr
  rw [if_pos (by decide)] at hTr
  rcases hTr with ⟨g2, hTr⟩ | hF
  rotate_left
  · obtain ⟨S3, f2, g2⟩ := com_n hT h1 T2 hF.1
    rw [hF.2]
    refine ⟨S3, ?_, fun _ => FN_L g2, fun u => absurd u (by decide)⟩
    rw [h0]
    unfold df_X13_others df_X13_others_0
    rw [f1, nb_b2, if_neg d33, f2, nb_b2, if_pos rfl, nb_b1]
  obtain ⟨S3, f2, h2⟩ := com_y hT h1 T2 g2
  have hd : ∀ (w : Int32) (S4 : St), df_X13_fixed n (-2147483648) 2147483647 S3 = some (w, S4) → df_X13_statement n (nI q) 0 S = nd_b1 (df_X13_others_94 n 39 (nI (tkG c τ1 q1 pa)) w S4) (fun (s : St) => df_X13_statement_326 n s) := fun w S4 f3 => by
    rw [h0]
    unfold df_X13_others df_X13_others_0
    rw [f1, nb_b2, if_neg d33, f2, nb_b2, if_neg (by decide), if_pos (by decide), if_pos rfl, f3, nb_b2]
  have f94 : ∀ (ft : Int32) (w : Int32) (S4 : St), FL e (pI B 15 0) ft S4 → ∃ S5 : St, df_X13_others_94 n 39 (nI (tkG c τ1 q1 pa)) w S4 = some S5 ∧ FL e (pI B 15 0) ft S5 := fun ft w S4 hh => by
    obtain ⟨ct', gr', PA', BY', OU', ap', z1, z2⟩ := hh
    obtain ⟨S5, k1, k2⟩ := li_94g (n := n) z2 (tkG c τ1 q1 pa) g1 w (ok0 _)
    exact ⟨S5, k1, _, _, _, _, _, _, z1, k2⟩
  obtain ⟨q3, pd, κ3, τ3, v3, x3, T3, hTr⟩ := hTr
  rw [if_neg (by decide), if_neg (by decide)] at hTr
  obtain ⟨ok, px, R, hTr⟩ := hTr
  rcases hTr with ⟨rfl, z1, z2, hTr⟩ | ⟨rfl, hF⟩
  · obtain ⟨rfl, rfl, rfl⟩ := hTr
    obtain ⟨w, S4, k1, k2, k3, k4, k5, k6⟩ := fix_R hV' hY h2 rfl R (-2147483648) 2147483647
    have k3 : w = zV (VW c X e nL q B) P m := k3
    subst k3
    by_cases u : fxR (!lsF (loV c X e nL) P m) (zV (VW c X e nL q B) P m) (dV (VW c X e nL q B) P m) (-2147483648) 2147483647 = 0
    · obtain ⟨S5, k7, k8⟩ := li_94 (n := n) (k4 u) (tkG c τ1 q1 pa) g1 (zV (VW c X e nL q B) P m) (ok0 _)
      refine ⟨S5, by rw [hd _ S4 k1, k7, nb_b1], fun z => absurd rfl z, fun _ => ⟨_, q1, pa, κ1, τ1, w1, x1, q2, pb, κ2, τ2, w2, x2, rfl, T1, rfl, g1, T2, g2, R, k2, k6, fun _ => ?_, fun z => absurd u z⟩⟩
      rw [Nat.zero_add, show ∀ bs : List Int32, pt (pI B 15 0) 0 OU bs = OU from fun bs => if_neg (show ¬ (0 : Int32) = 3 by decide)] at k8
      exact k8
    · obtain ⟨S5, k7, k8⟩ := f94 _ (zV (VW c X e nL q B) P m) S4 (k5 u)
      exact ⟨S5, by rw [hd _ S4 k1, k7, nb_b1], fun z => absurd rfl z, fun _ => ⟨_, q1, pa, κ1, τ1, w1, x1, q2, pb, κ2, τ2, w2, x2, rfl, T1, rfl, g1, T2, g2, R, k2, k6, fun z => absurd z u, fun _ => k8⟩⟩
  · obtain ⟨w, S4, k1, fl⟩ := fix_f hV' hY h2 R (-2147483648) 2147483647
    obtain ⟨S5, k7, k8⟩ := f94 _ w S4 fl
    rw [hF]
    exact ⟨S5, by rw [hd _ S4 k1, k7, nb_b1], fun _ => k8, fun u => absurd u (by decide)⟩
