/-- behind(): a comma and a register -/
theorem bhd_y {n L e : Nat} {c : Nat → Nat} {BC B : St} (hT : atx n L e c BC B) {ct : Nat} {gr : Bool} {PA BY OU : Nat → Int32} {p : Nat} {S : St} (h : SR B ct gr PA BY OU 0 p S) {q p' κ τ v : Nat} {x : Int32} (T : TS n L e c BC p q p' κ τ v x) (ht : τ = 44) {q1 p1 κ1 τ1 v1 : Nat} {x1 : Int32} (T1 : TS n L e c BC p' q1 p1 κ1 τ1 v1 x1) (hg : tkG c τ1 q1 p1 < 32) : ∃ S' : St, df_X13_behind n S = some (nI (tkG c τ1 q1 p1), S') ∧ SR B ct gr PA BY OU 0 p1 S' := by
  obtain ⟨S1, e1, g1, _⟩ := ned_y hT h T 44 (by omega) (by omega) ht
  obtain ⟨S2, e2, g2⟩ := tak_y hT g1 T1 hg
  refine ⟨S2, ?_, g2⟩
  unfold df_X13_behind df_X13_behind_0 df_X13_behind_17
  rw [show (44 : Int32) = nI 44 from rfl, e1, nb_b2, if_neg (by decide), e2, nb_b2]
theorem bhd_1 {n L e : Nat} {c : Nat → Nat} {BC B : St} (hT : atx n L e c BC B) {ct : Nat} {gr : Bool} {PA BY OU : Nat → Int32} {p : Nat} {S : St} (h : SR B ct gr PA BY OU 0 p S) {q p' κ τ v : Nat} {x : Int32} (T : TS n L e c BC p q p' κ τ v x) (ht : ¬ τ = 44) : ∃ (r : Int32) (S' : St), df_X13_behind n S = some (r, S') ∧ FN c e B (nI 1 + 16 * sI B 13) S' := by
  obtain ⟨S1, e1, g1⟩ := ned_n hT h T 44 (by omega) ht
  refine ⟨0, S1, ?_, g1⟩
  unfold df_X13_behind df_X13_behind_0 df_X13_behind_17
  rw [show (44 : Int32) = nI 44 from rfl, e1, nb_b2, if_pos rfl]
theorem bhd_2 {n L e : Nat} {c : Nat → Nat} {BC B : St} (hT : atx n L e c BC B) {ct : Nat} {gr : Bool} {PA BY OU : Nat → Int32} {p : Nat} {S : St} (h : SR B ct gr PA BY OU 0 p S) {q p' κ τ v : Nat} {x : Int32} (T : TS n L e c BC p q p' κ τ v x) (ht : τ = 44) {q1 p1 κ1 τ1 v1 : Nat} {x1 : Int32} (T1 : TS n L e c BC p' q1 p1 κ1 τ1 v1 x1) (hg : ¬ tkG c τ1 q1 p1 < 32) : ∃ (r : Int32) (S' : St), df_X13_behind n S = some (r, S') ∧ FN c e B ((if tkG c τ1 q1 p1 = 33 then 1 else 3) + 16 * sI B 13) S' := by
  obtain ⟨S1, e1, g1, _⟩ := ned_y hT h T 44 (by omega) (by omega) ht
  obtain ⟨S2, e2, g2⟩ := tak_n hT g1 T1 hg
  refine ⟨0, S2, ?_, g2⟩
  unfold df_X13_behind df_X13_behind_0 df_X13_behind_17
  rw [show (44 : Int32) = nI 44 from rfl, e1, nb_b2, if_neg (by decide), e2, nb_b2]
theorem bhd_F {n L e : Nat} {c : Nat → Nat} {BC B : St} (hT : atx n L e c BC B) {ft : Int32} {S : St} (h : FN c e B ft S) (hf : ¬ ft = 0) : ∃ (r : Int32) (S' : St), df_X13_behind n S = some (r, S') ∧ FN c e B ft S' := by
  obtain ⟨b, S1, e1, g1⟩ := ned_F hT h hf 44 (by omega)
  have e1 : df_X13_needs n 44 S = some (bI b, S1) := e1
  unfold df_X13_behind df_X13_behind_0 df_X13_behind_17
  rw [e1, nb_b2]
  cases b with
  | false => rw [if_pos (show bI false = 0 from rfl)]; exact ⟨_, S1, rfl, g1⟩
  | true =>
    obtain ⟨r, S2, e2, g2⟩ := tak_F hT g1 hf
    rw [if_neg (show ¬ bI true = 0 by decide), e2, nb_b2]
    exact ⟨_, S2, rfl, g2⟩
/-- whether a branch is a test of one register -/
def teO (s : Nat) (w : Int32) (r : Nat) : Bool := decide (s = 35) && (!decide (2 ≤ (w >>> ((12 : Int32) &&& 31)) &&& 7) && decide (8 ≤ r ∧ r ≤ 15))
def brX (s : Nat) (r1 r2 : Nat) : Int32 × Int32 := if s = 7 ∨ s = 35 then (nI r1, nI r2) else (nI r2, nI r1)
theorem br_25 {n L e : Nat} {c : Nat → Nat} {BC B : St} (hT : atx n L e c BC B) {ct : Nat} {gr : Bool} {PA BY OU : Nat → Int32} {p : Nat} {S : St} (h : SR B ct gr PA BY OU 0 p S) {q p' κ τ v : Nat} {x : Int32} (T : TS n L e c BC p q p' κ τ v x) (ht : τ = 44) (s : Nat) (hs : s = 7 ∨ s = 35 ∨ s = 36 ∨ s = 37) (w : Int32) (r1 r2 : Nat) (h1 : r1 < 32) : ∃ Sk : St, SR B ct gr PA BY OU 0 p' Sk ∧ df_X13_branches_25 n (nI s) w (nI r1) (nI r2) S = nd_b1 (df_X13_branch n w (brX s r1 r2).1 (brX s r1 r2).2 (bI (teO s w r1)) Sk) (fun (s : St) => some s) := by
  obtain ⟨Sk, e1, e2⟩ := com_y hT h T ht
  refine ⟨Sk, e2, ?_⟩
  unfold df_X13_branches_25 df_X13_branches_68 df_X13_branches_69 df_X13_branches_83 df_X13_branches_105 teO brX
  rw [e1, nb_b2, if_neg (show ¬ (1 : Int32) = 0 by decide)]
  rcases hs with hs | hs | hs | hs <;> subst hs
  · rw [if_neg (show ¬ nI 7 = (35 : Int32) by decide), if_pos (show nI 7 = (7 : Int32) from rfl)]; rfl
  · rw [if_pos (show nI 35 = (35 : Int32) from rfl), if_neg (show ¬ nI 35 = (7 : Int32) by decide), if_pos (show nI 35 = (35 : Int32) from rfl), if_neg (show ¬ nI 35 = (7 : Int32) by decide), if_pos (show nI 35 = (35 : Int32) from rfl)]
    by_cases y : 2 ≤ (w >>> ((12 : Int32) &&& 31)) &&& 7
    · rw [if_pos y, decide_eq_true y]; rfl
    · rw [if_neg y, decide_eq_false y]
      by_cases k1 : r1 ≤ 7
      · rw [if_pos (show nI r1 ≤ (7 : Int32) from zle (b := 7) k1 (by omega)), decide_eq_false (show ¬ (8 ≤ r1 ∧ r1 ≤ 15) by omega)]; rfl
      · rw [if_neg (show ¬ nI r1 ≤ (7 : Int32) from znle (b := 7) (by omega) (by omega))]
        by_cases k2 : 16 ≤ r1
        · rw [if_pos (show (16 : Int32) ≤ nI r1 from zle (a := 16) k2 (by omega)), decide_eq_false (show ¬ (8 ≤ r1 ∧ r1 ≤ 15) by omega)]; rfl
        · rw [if_neg (show ¬ (16 : Int32) ≤ nI r1 from znle (a := 16) (by omega) (by omega)), decide_eq_true (show 8 ≤ r1 ∧ r1 ≤ 15 by omega)]; rfl
  · rw [if_neg (show ¬ nI 36 = (35 : Int32) by decide), if_neg (show ¬ nI 36 = (7 : Int32) by decide), if_neg (show ¬ nI 36 = (35 : Int32) by decide)]; rfl
  · rw [if_neg (show ¬ nI 37 = (35 : Int32) by decide), if_neg (show ¬ nI 37 = (7 : Int32) by decide), if_neg (show ¬ nI 37 = (35 : Int32) by decide)]; rfl
theorem br_25F {n e : Nat} {B : St} {ft : Int32} {S : St} (h : FL e B ft S) (hf : ¬ ft = 0) (s w x y : Int32) : df_X13_branches_25 n s w x y S = some S := by
  unfold df_X13_branches_25
  rw [com_F h hf, nb_b2, if_pos rfl]
theorem br_25n {n L e : Nat} {c : Nat → Nat} {BC B : St} (hT : atx n L e c BC B) {ct : Nat} {gr : Bool} {PA BY OU : Nat → Int32} {p : Nat} {S : St} (h : SR B ct gr PA BY OU 0 p S) {q p' κ τ v : Nat} {x : Int32} (T : TS n L e c BC p q p' κ τ v x) (ht : ¬ τ = 44) (s w x1 x2 : Int32) : ∃ S' : St, df_X13_branches_25 n s w x1 x2 S = some S' ∧ FL e B (nI 1 + 16 * sI B 13) S' := by
  obtain ⟨S1, e1, g1⟩ := com_n hT h T ht
  refine ⟨S1, ?_, FN_L g1⟩
  unfold df_X13_branches_25
  rw [e1, nb_b2, if_pos rfl]
/-- the registers of a branch, one or two, and where its target begins -/
theorem brs_1 {n L e : Nat} {c : Nat → Nat} {BC B : St} {X : Nat → Nat} {nL st cu : Nat} (hV : RV n L e c BC B X nL cu) {ct : Nat} {gr : Bool} {PA BY OU : Nat → Int32} (hY : PY PA cu st) {p : Nat} {S : St} (h : SR B ct gr PA BY OU 0 p S) (w : Int32) {f p2 : Nat} {rs : List Nat} {m : Nat} {P : Nat → Tp} (h0 : ¬ f = 0 → sI B 15 = 0) (s l : Nat) (hs : s = 35 ∨ s = 36) (hl1 : l = 97 ∨ l = 98) (hTr : Tr n L e c BC [l, 44, 84] p f p2 rs m P) : (¬ f = 0 → ∃ S' : St, df_X13_branches n (nI s) w S = some S' ∧ FL e B (nI f + 16 * sI B 13) S') ∧ (f = 0 → ∃ (r : Nat) (Sk : St) (px : Nat), rs = [r] ∧ r < 32 ∧ SR B ct gr PA BY OU 0 px Sk ∧ RX n L e c BC px true p2 m P ∧ p2 ≤ e ∧ df_X13_branches n (nI s) w S = nd_b1 (df_X13_branch n w (brX s r 0).1 (brX s r 0).2 (bI (teO s w r)) Sk) (fun (s : St) => some s)) := by
  have hT := hV.1
  have hl := hV.2.2.2.2.2.2.2
  have rt : ∀ r : Nat, rfit l r = true := fun r => by rcases hl1 with q | q <;> subst q <;> rfl
  have hd : ∀ (r : Int32) (S1 : St), df_X13_taken n S = some (r, S1) → df_X13_branches n (nI s) w S = df_X13_branches_25 n (nI s) w r 0 S1 := fun r S1 e1 => by
    unfold df_X13_branches df_X13_branches_0
    rw [e1, nb_b2, if_neg (show ¬ nI s = (7 : Int32) from zne (b := 7) (by omega) (by omega) (by omega)), if_neg (show ¬ nI s = (37 : Int32) from zne (b := 37) (by omega) (by omega) (by omega))]
  obtain ⟨q1, p1, κ1, τ1, v1, x1, T1, hTr⟩ := hTr
  rw [if_neg (by omega), if_pos (by omega)] at hTr
  rcases hTr with ⟨g1, r1, rs1, rfl, hTr⟩ | hF
  rotate_left
  · have hF2 : (tkG c τ1 q1 p1 = 33 ∧ f = 1) ∨ (tkG c τ1 q1 p1 = 32 ∧ f = 3) := by
      rcases hF with hF | ⟨hF | hF, hF2⟩
      · exact Or.inl hF
      · exact Or.inr ⟨hF, hF2⟩
      · rw [rt] at hF; exact absurd hF.2 (by decide)
    obtain ⟨S1, e1, g1⟩ := tak_n hT h T1 (by omega)
    have ne := f13 hl (g := tkG c τ1 q1 p1)
    rw [f13e hF2] at g1 ne
    refine ⟨fun _ => ⟨S1, ?_, FN_L g1⟩, fun u => by omega⟩
    rw [hd _ _ e1, br_25F (FN_L g1) ne]
  obtain ⟨S1, e1, h1⟩ := tak_y hT h T1 g1
  obtain ⟨q2, p3, κ2, τ2, v2, x2, T2, hTr⟩ := hTr
  rw [if_pos (by decide)] at hTr
  rcases hTr with ⟨g2, hTr⟩ | hF
  rotate_left
  · obtain ⟨S', f1, f2⟩ := br_25n (n := n) hT h1 T2 hF.1 (nI s) w (nI (tkG c τ1 q1 p1)) 0
    rw [← hd _ _ e1] at f1
    rw [hF.2]
    exact ⟨fun _ => ⟨S', f1, f2⟩, fun u => absurd u (by decide)⟩
  obtain ⟨Sk, h2, e2⟩ := br_25 (n := n) hT h1 T2 g2 s (by omega) w (tkG c τ1 q1 p1) 0 g1
  obtain ⟨q3, p4, κ3, τ3, v3, x3, T3, hTr⟩ := hTr
  rw [if_neg (by decide), if_neg (by decide)] at hTr
  obtain ⟨ok, px, R, hTr⟩ := hTr
  rcases hTr with ⟨rfl, z1, z2, hTr⟩ | ⟨rfl, hF⟩
  · obtain ⟨rfl, rfl, rfl⟩ := hTr
    exact ⟨fun u => absurd rfl u, fun _ => ⟨_, Sk, _, rfl, g1, h2, R, z2, (hd _ _ e1).trans e2⟩⟩
  · have m0 := h0 (by omega)
    obtain ⟨S', f1, f2⟩ := brn_f hV h2 hY m0 R w (brX s (tkG c τ1 q1 p1) 0).1 (brX s (tkG c τ1 q1 p1) 0).2 (bI (teO s w (tkG c τ1 q1 p1)))
    rw [hF]
    refine ⟨fun _ => ⟨S', ?_, f2⟩, fun u => absurd u (by decide)⟩
    rw [hd _ _ e1]
    refine e2.trans ?_
    rw [f1, nb_b1]
theorem brs_2 {n L e : Nat} {c : Nat → Nat} {BC B : St} {X : Nat → Nat} {nL st cu : Nat} (hV : RV n L e c BC B X nL cu) {ct : Nat} {gr : Bool} {PA BY OU : Nat → Int32} (hY : PY PA cu st) {p : Nat} {S : St} (h : SR B ct gr PA BY OU 0 p S) (w : Int32) {f p2 : Nat} {rs : List Nat} {m : Nat} {P : Nat → Tp} (h0 : ¬ f = 0 → sI B 15 = 0) (s l l' : Nat) (hs : s = 7 ∨ s = 37) (hl1 : l = 97 ∨ l = 98) (hl2 : l' = 97 ∨ l' = 98) (hTr : Tr n L e c BC [l, 44, l', 44, 84] p f p2 rs m P) : (¬ f = 0 → ∃ S' : St, df_X13_branches n (nI s) w S = some S' ∧ FL e B (nI f + 16 * sI B 13) S') ∧ (f = 0 → ∃ (r r' : Nat) (Sk : St) (px : Nat), rs = [r, r'] ∧ r < 32 ∧ r' < 32 ∧ SR B ct gr PA BY OU 0 px Sk ∧ RX n L e c BC px true p2 m P ∧ p2 ≤ e ∧ df_X13_branches n (nI s) w S = nd_b1 (df_X13_branch n w (brX s r r').1 (brX s r r').2 (bI (teO s w r)) Sk) (fun (s : St) => some s)) := by
  have hT := hV.1
  have hl := hV.2.2.2.2.2.2.2
  have rt : ∀ r : Nat, rfit l r = true := fun r => by rcases hl1 with q | q <;> subst q <;> rfl
  have rt' : ∀ r : Nat, rfit l' r = true := fun r => by rcases hl2 with q | q <;> subst q <;> rfl
  have hd : ∀ (r : Int32) (S1 : St), df_X13_taken n S = some (r, S1) → df_X13_branches n (nI s) w S = nd_b2 (df_X13_behind n S1) (fun (q5 : Int32) (s6 : St) => df_X13_branches_25 n (nI s) w r q5 s6) := fun r S1 e1 => by
    unfold df_X13_branches df_X13_branches_0 df_X13_branches_17
    rw [e1, nb_b2]
    rcases hs with q | q <;> subst q
    · rw [if_pos (show nI 7 = (7 : Int32) from rfl)]
    · rw [if_neg (show ¬ nI 37 = (7 : Int32) by decide), if_pos (show nI 37 = (37 : Int32) from rfl)]
  obtain ⟨q1, p1, κ1, τ1, v1, x1, T1, hTr⟩ := hTr
  rw [if_neg (by omega), if_pos (by omega)] at hTr
  rcases hTr with ⟨g1, r1, rs1, rfl, hTr⟩ | hF
  rotate_left
  · have hF2 : (tkG c τ1 q1 p1 = 33 ∧ f = 1) ∨ (tkG c τ1 q1 p1 = 32 ∧ f = 3) := by
      rcases hF with hF | ⟨hF | hF, hF2⟩
      · exact Or.inl hF
      · exact Or.inr ⟨hF, hF2⟩
      · rw [rt] at hF; exact absurd hF.2 (by decide)
    obtain ⟨S1, e1, g1⟩ := tak_n hT h T1 (by omega)
    have ne := f13 hl (g := tkG c τ1 q1 p1)
    rw [f13e hF2] at g1 ne
    obtain ⟨r, S2, e2, g2⟩ := bhd_F hT g1 ne
    refine ⟨fun _ => ⟨S2, ?_, FN_L g2⟩, fun u => by omega⟩
    rw [hd _ _ e1, e2, nb_b2, br_25F (FN_L g2) ne]
  obtain ⟨S1, e1, h1⟩ := tak_y hT h T1 g1
  obtain ⟨q2, p3, κ2, τ2, v2, x2, T2, hTr⟩ := hTr
  rw [if_pos (by decide)] at hTr
  rcases hTr with ⟨g2, hTr⟩ | hF
  rotate_left
  · obtain ⟨r, S2, e2, g2⟩ := bhd_1 hT h1 T2 hF.1
    have ne : ¬ nI 1 + 16 * sI B 13 = 0 := flt_n hl 1 (by omega)
    rw [hF.2]
    refine ⟨fun _ => ⟨S2, ?_, FN_L g2⟩, fun u => absurd u (by decide)⟩
    rw [hd _ _ e1, e2, nb_b2, br_25F (FN_L g2) ne]
  obtain ⟨q3, p4, κ3, τ3, v3, x3, T3, hTr⟩ := hTr
  rw [if_neg (by omega), if_pos (by omega)] at hTr
  rcases hTr with ⟨g3, r3, rs3, rfl, hTr⟩ | hF
  rotate_left
  · have hF2 : (tkG c τ3 q3 p4 = 33 ∧ f = 1) ∨ (tkG c τ3 q3 p4 = 32 ∧ f = 3) := by
      rcases hF with hF | ⟨hF | hF, hF2⟩
      · exact Or.inl hF
      · exact Or.inr ⟨hF, hF2⟩
      · rw [rt'] at hF; exact absurd hF.2 (by decide)
    obtain ⟨r, S2, e2, g2'⟩ := bhd_2 hT h1 T2 g2 T3 (by omega)
    have ne := f13 hl (g := tkG c τ3 q3 p4)
    rw [f13e hF2] at g2' ne
    refine ⟨fun _ => ⟨S2, ?_, FN_L g2'⟩, fun u => by omega⟩
    rw [hd _ _ e1, e2, nb_b2, br_25F (FN_L g2') ne]
  obtain ⟨S2, e2, h2⟩ := bhd_y hT h1 T2 g2 T3 g3
  obtain ⟨q4, p5, κ4, τ4, v4, x4, T4, hTr⟩ := hTr
  rw [if_pos (by decide)] at hTr
  rcases hTr with ⟨g4, hTr⟩ | hF
  rotate_left
  · obtain ⟨S', f1, f2⟩ := br_25n (n := n) hT h2 T4 hF.1 (nI s) w (nI (tkG c τ1 q1 p1)) (nI (tkG c τ3 q3 p4))
    rw [hF.2]
    refine ⟨fun _ => ⟨S', ?_, f2⟩, fun u => absurd u (by decide)⟩
    rw [hd _ _ e1, e2, nb_b2, f1]
  obtain ⟨Sk, h3, e3⟩ := br_25 (n := n) hT h2 T4 g4 s (by omega) w (tkG c τ1 q1 p1) (tkG c τ3 q3 p4) g1
  have hh : df_X13_branches n (nI s) w S = nd_b1 (df_X13_branch n w (brX s (tkG c τ1 q1 p1) (tkG c τ3 q3 p4)).1 (brX s (tkG c τ1 q1 p1) (tkG c τ3 q3 p4)).2 (bI (teO s w (tkG c τ1 q1 p1))) Sk) (fun (s : St) => some s) := by
    rw [hd _ _ e1, e2, nb_b2]
    exact e3
  obtain ⟨q6, p7, κ6, τ6, v6, x6, T6, hTr⟩ := hTr
  rw [if_neg (by decide), if_neg (by decide)] at hTr
  obtain ⟨ok, px, R, hTr⟩ := hTr
  rcases hTr with ⟨rfl, z1, z2, hTr⟩ | ⟨rfl, hF⟩
  · obtain ⟨rfl, rfl, rfl⟩ := hTr
    exact ⟨fun u => absurd rfl u, fun _ => ⟨_, _, Sk, _, rfl, g1, g3, h3, R, z2, hh⟩⟩
  · have m0 := h0 (by omega)
    obtain ⟨S', f1, f2⟩ := brn_f hV h3 hY m0 R w (brX s (tkG c τ1 q1 p1) (tkG c τ3 q3 p4)).1 (brX s (tkG c τ1 q1 p1) (tkG c τ3 q3 p4)).2 (bI (teO s w (tkG c τ1 q1 p1)))
    rw [hF]
    refine ⟨fun _ => ⟨S', ?_, f2⟩, fun u => absurd u (by decide)⟩
    rw [hh, f1, nb_b1]
/-- jumps(): the look ahead -/
theorem jms_1 {n L e : Nat} {c : Nat → Nat} {BC B : St} (hT : atx n L e c BC B) {ct : Nat} {gr : Bool} {PA BY OU : Nat → Int32} {p : Nat} {S : St} (h : SR B ct gr PA BY OU 0 p S) {q p' κ τ v : Nat} {x : Int32} (T : TS n L e c BC p q p' κ τ v x) (s w : Int32) : ∃ S1 : St, SR B ct gr PA BY OU 0 p (pI S1 7 (nI p)) ∧ df_X13_jumps n s w S = df_X13_jumps_37 n s w (nI p) (bI (decide (tkG c τ q p' < 32))) S1 := by
  obtain ⟨hn, hL, heL, h127, hend, hce, hO, hst, htC, h0', htR, hch⟩ := id hT
  have t3 := ts_300 T
  have tw := ts_w T
  obtain ⟨S1, p2, e1, e2, e3, e4, e5, e6, e7, e8⟩ := scn_S hT h T
  refine ⟨S1, SR_w7 e2 p, ?_⟩
  unfold df_X13_jumps df_X13_jumps_0 df_X13_jumps_36
  rw [SR_7 h, nb_let, e1, nb_b1, e3]
  by_cases y : τ = 1
  · obtain ⟨w1, w2, w3, w4, w5, w6⟩ := tw y
    have p2e := e8 (by omega)
    subst p2e
    have ee := (eT_1 c (show q ≤ e by omega)).1
    have re := re_1 n (S := S1) (c := c) q (p2 - q) (by omega) h127 (by omega) (fun i hi => ⟨(eT_1 c (show q ≤ e by omega)).2.2.2 _ (by omega) (by omega), by rw [SR_r2 e2]; exact htR _ (by omega)⟩)
    rw [show q + (p2 - q) = p2 by omega] at re
    have g : tkG c τ q p2 = reS (p2 - q) (c q) (c (q + 1)) (c (q + 2)) (c (q + 3)) := by unfold tkG; rw [if_neg (by omega), if_pos y]
    rw [if_pos (show nI τ = (1 : Int32) from congrArg nI y), e4, e5, re, nb_b2, g]
    generalize reS (p2 - q) (c q) (c (q + 1)) (c (q + 2)) (c (q + 3)) = r
    by_cases z : r < 32
    · rw [show rI r = nI r from if_pos z, if_neg (show ¬ nI r < (0 : Int32) from znl (b := 0) (Nat.zero_le _) (by omega)), decide_eq_true z]; rfl
    · rw [show rI r = -1 from if_neg z, if_pos (show (-1 : Int32) < 0 by decide), decide_eq_false z]; rfl
  · have g : ¬ tkG c τ q p' < 32 := by
      unfold tkG
      by_cases z : τ = 0 ∨ τ = 5
      · rw [if_pos z]; omega
      · rw [if_neg z, if_neg y]; omega
    rw [if_neg (show ¬ nI τ = (1 : Int32) from zne (b := 1) y (by omega) (by omega)), decide_eq_false g]; rfl
theorem jms_h {n L e : Nat} {c : Nat → Nat} {BC B : St} (hT : atx n L e c BC B) {ct : Nat} {gr : Bool} {PA BY OU : Nat → Int32} {p : Nat} {S : St} (h : SR B ct gr PA BY OU 0 p S) {q p' κ τ v : Nat} {x : Int32} (T : TS n L e c BC p q p' κ τ v x) (s w : Int32) (hs : s = 34 ∨ ¬ tkG c τ q p' < 32) : ∃ S2 : St, SR B ct gr PA BY OU 0 p S2 ∧ df_X13_jumps n s w S = nd_b1 (df_X13_jump n (if s = 34 then w else 1) S2) (fun (s : St) => some s) := by
  obtain ⟨S1, e1, e2⟩ := jms_1 hT h T s w
  refine ⟨_, e1, ?_⟩
  rw [e2]
  unfold df_X13_jumps_37 df_X13_jumps_55 df_X13_jumps_67
  rw [nb_let]
  by_cases y : s = 34
  · rw [if_pos y, if_pos y, if_pos y]
  · rcases hs with hs | hs
    · exact absurd hs y
    · rw [if_neg y, decide_eq_false hs, if_pos (show bI false = 0 from rfl), if_neg y, if_neg y]
theorem jms_r {n L e : Nat} {c : Nat → Nat} {BC B : St} (hT : atx n L e c BC B) {ct : Nat} {gr : Bool} {PA BY OU : Nat → Int32} {p : Nat} {S : St} (h : SR B ct gr PA BY OU 0 p S) {q p' κ τ v : Nat} {x : Int32} (T : TS n L e c BC p q p' κ τ v x) (w : Int32) (hs : tkG c τ q p' < 32) : ∃ S1 : St, SR B ct gr PA BY OU 0 p (pI S1 7 (nI p)) ∧ df_X13_jumps n 8 w S = df_X13_jumps_37 n 8 w (nI p) 1 S1 := by
  obtain ⟨S1, e1, e2⟩ := jms_1 hT h T 8 w
  rw [decide_eq_true hs] at e2
  exact ⟨S1, e1, e2⟩
