/-- lists in later rounds and as they are read -/
theorem dirK {y : Nat} (h : y = 121 ∨ y = 122 ∨ y = 123) : ∃ s k : Nat, (s = 43 ∨ s = 44 ∨ s = 45) ∧ (k = 1 ∨ k = 2 ∨ k = 4) ∧ k = (if y = 121 then 1 else if y = 122 then 2 else 4) ∧ ∀ (n : Nat) (S : St), cstS S → df_X13_statement_136 n (nI (sgm y)) 0 S = nd_b1 (df_X13_directive_87 n n (nI s) (nI k) 1 S) (fun (s : St) => df_X13_statement_326 n s) := by
  obtain ⟨_, _, _, a4, a5, a6, _, _, _, _, b1, b2, b3, _⟩ := dirA
  rcases h with h | h | h <;> subst h
  · refine ⟨43, 1, by omega, by omega, rfl, fun n S hc => ?_⟩
    rw [dsp_43 hc (sgm 121) (sgm_l (by omega)) a4 0, b1, or_0]
    unfold df_X13_directive df_X13_directive_0
    rw [if_pos (by decide), if_neg (by decide), if_neg (by decide), if_neg (by decide)]
    rfl
  · refine ⟨44, 2, by omega, by omega, rfl, fun n S hc => ?_⟩
    rw [dsp_44 hc (sgm 122) (sgm_l (by omega)) a5 0, b2, or_0]
    unfold df_X13_directive df_X13_directive_0
    rw [if_pos (by decide), if_neg (by decide), if_neg (by decide), if_neg (by decide)]
    rfl
  · refine ⟨45, 4, by omega, by omega, rfl, fun n S hc => ?_⟩
    rw [dsp_45 hc (sgm 123) (sgm_l (by omega)) a6 0, b3, or_0]
    unfold df_X13_directive df_X13_directive_0
    rw [if_pos (by decide), if_neg (by decide), if_neg (by decide), if_neg (by decide)]
    rfl
def kdY (y : Nat) : Nat := if y = 121 then 1 else if y = 122 then 2 else 4
theorem rfb_I {n L e : Nat} {c : Nat → Nat} {BC BR0 : St} (hT0 : atx n L e c BC BR0) {q p1 κ v1 : Nat} {x : Int32} (T : TS n L e c BC q q p1 κ 1 v1 x) {y : Nat} (hy : y = 121 ∨ y = 122 ∨ y = 123) (hN : NAr n L c q (p1 - q) y 0) {ys : List (Nat × (Nat → Tp))} (hys : ys.length ≤ 40000) {p2 : Nat} (hTr : LTr n L e c BC ys p1 0 p2) {se : Nat} {X0 : Nat → Nat} {W0 : Nat → Int32} {n0 : Nat} : RFB n L e c BC q se 0 3 (kdY y * ys.length) none X0 W0 n0 (5, nI (kdY y), kdY y, ys, []) := by
  intro B X nL cu A ct ap μ gr PA BY OU S hV hc hE h14 hP hA hlw hl hb h hμ hw
  have qe : q ≤ e := T.1
  have eL' : e ≤ L := hT0.2.2.1
  have L' : L ≤ 32768 := hT0.2.1
  have hn : 70000 < n := hT0.1
  obtain ⟨m1, m2, m3, m4, m5⟩ := md_n (B := B) hμ
  have hY : PY PA cu q := ⟨A * 2 ^ 17 + q, hP, by omega, by omega⟩
  obtain ⟨S1, e1, e2, e3⟩ := stm_2 hV.1 hc h (nI μ) T hN
  obtain ⟨s, k, s1, k1, k2, k3⟩ := dirK hy
  have k2 : k = kdY y := k2
  have hw : OKW (pI B 15 (nI μ)) (kdY y * ys.length) := hw
  rw [← k2] at hw ⊢
  obtain ⟨S2, r1, r2, r3⟩ := lst_R (RV_p15 hV (nI μ)) (gr := gr) (BY := BY) hY (nI s) k (by omega) (f := 0) (p2 := p2) (fun u => absurd rfl u) ys p1 0 n OU S1 e2 (by rw [Nat.zero_add]; exact hw) (by omega) hTr
  obtain ⟨j1, j2, j3, j4⟩ := r3 rfl
  have hd : df_X13_statement n (nI q) (nI μ) S = df_X13_statement_326 n S2 := by
    rw [e1, k3 n S1 e3, r1, nb_b1]
  have eF : sF (5, nI k, k, ys, []) (VW c X e nL q B) (sI B 17) (A % 4) = liF (VW c X e nL q B) ys := rfl
  have eB : sB (5, nI k, k, ys, []) (VW c X e nL q B) (sI B 17) (A % 4) = liB (VW c X e nL q B) k ys := rfl
  have j3 : nI μ = (2 : Int32) → ¬ liF (VW c X e nL q B) ys = 0 → FL e (pI B 15 (nI μ)) (nI (liF (VW c X e nL q B) ys) + 16 * sI B 13) S2 := j3
  have j4 : (nI μ = (2 : Int32) → liF (VW c X e nL q B) ys = 0) → SR (pI B 15 (nI μ)) (0 + k * ys.length) gr PA BY (pt (pI B 15 (nI μ)) 0 OU (liB (VW c X e nL q B) k ys)) 0 p2 S2 := j4
  have fin : df_X13_statement_326 n S2 = some S2 := s326 (by
    by_cases u : nI μ = (2 : Int32) ∧ ¬ liF (VW c X e nL q B) ys = 0
    · rw [(FL_f (j3 u.1 u.2)).2.1, m1]; exact m2
    · rw [SR_15 (j4 (fun w => Classical.byContradiction fun z => u ⟨w, z⟩)), m1]; exact m2)
  refine ⟨S2, hd.trans fin, fun u w => ?_, fun u => ?_⟩
  · rw [eF] at w ⊢
    exact j3 (m3.mpr u) w
  · rw [eF] at u
    have := j4 (fun w => u (m3.mp w))
    rw [pt_3 hμ] at this
    rw [eB]
    exact ⟨_, p2, gr, j1, fun z => absurd (show (5 : Nat) = 1 ∨ (5 : Nat) = 2 from z) (by decide), this⟩
theorem rdr_I {n L e : Nat} {c : Nat → Nat} {BC B : St} {X : Nat → Nat} {nL cu : Nat} (hV : RV n L e c BC B X nL cu) (hc : cstS B) {ct : Nat} {gr : Bool} {PA BY OU : Nat → Int32} {ap : Nat} {S : St} (h : SR B ct gr PA BY OU 0 ap S) {q p1 κ v1 : Nat} {x : Int32} (T : TS n L e c BC q q p1 κ 1 v1 x) (hY : PY PA cu q) {y : Nat} (hy : y = 121 ∨ y = 122 ∨ y = 123) (hN : NAr n L c q (p1 - q) y 0) {ys : List (Nat × (Nat → Tp))} (hys : ys.length ≤ 40000) {f p2 : Nat} (hTr : LTr n L e c BC ys p1 f p2) : ∃ S' : St, df_X13_statement n (nI q) 0 S = df_X13_statement_326 n S' ∧ (¬ f = 0 → FL e (pI B 15 0) (nI f + 16 * sI B 13) S') ∧ (f = 0 → p2 ≤ e ∧ (∀ y : Nat × (Nat → Tp), y ∈ ys → one y.2 y.1) ∧ SR (pI B 15 0) (kdY y * ys.length) gr PA BY OU 0 p2 S') := by
  have hn : 70000 < n := hV.1.1
  obtain ⟨S1, e1, e2, e3⟩ := stm_2 hV.1 hc h 0 T hN
  have ok0 : ∀ k : Nat, OKW (pI B 15 0) k := fun k u => absurd (show (0 : Int32) = 3 from u) (by decide)
  obtain ⟨s, k, s1, k1, k2, k3⟩ := dirK hy
  have k2 : k = kdY y := k2
  rw [← k2]
  obtain ⟨S2, r1, r2, r3⟩ := lst_R (RV_p15 hV 0) (gr := gr) (BY := BY) hY (nI s) k (by omega) (f := f) (p2 := p2) (fun _ => rfl) ys p1 0 n OU S1 e2 (ok0 _) (by omega) hTr
  refine ⟨S2, ?_, r2, fun u => ?_⟩
  · rw [e1, k3 n S1 e3, r1, nb_b1]
  · obtain ⟨j1, j2, j3, j4⟩ := r3 u
    have := j4 (fun w => absurd (show (0 : Int32) = 2 from w) (by decide))
    rw [Nat.zero_add, show ∀ bs : List Int32, pt (pI B 15 0) 0 OU bs = OU from fun bs => if_neg (show ¬ (0 : Int32) = 3 by decide)] at this
    exact ⟨j1, j2, this⟩
