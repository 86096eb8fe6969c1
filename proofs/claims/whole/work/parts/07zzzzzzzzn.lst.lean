/-- .byte .half .word: a list of expressions, read from a place on -/
def LTr (n L e : Nat) (c : Nat → Nat) (BC : St) : List (Nat × (Nat → Tp)) → Nat → Nat → Nat → Prop
  | [], _, _, _ => False
  | y :: ys, p, f, p2 => ∃ (ok : Bool) (px : Nat), RX n L e c BC p ok px y.1 y.2 ∧ ((ok = false ∧ f = 1 ∧ ys = []) ∨ (ok = true ∧ p ≤ px ∧ px ≤ e ∧ ∃ (q p' κ τ v : Nat) (x : Int32), TS n L e c BC px q p' κ τ v x ∧ ((¬ τ = 44 ∧ ys = [] ∧ (f = if τ = 0 then 0 else 1) ∧ p2 = px) ∨ (τ = 44 ∧ LTr n L e c BC ys p' f p2))))
theorem ptK_S {n : Nat} {B : St} {gr : Bool} {PA BY : Nat → Int32} {ft : Int32} {ap : Nat} (G : Int32 → Int32 → Int32 → St → Option St) (x1 v : Int32) (k : Nat) (hk : k ≤ 4) : ∀ (j i g ct : Nat) (OU : Nat → Int32) (S : St), i + j = k → j < g → SR B ct gr PA BY OU ft ap S → OKW B (ct + j) → ∃ S' : St, df_X13_directive_129 n G g x1 (nI k) v (nI i) S = df_X13_directive_153 n G x1 (nI k) S' ∧ SR B (ct + j) gr PA BY (pt B ct OU (byK v j i)) ft ap S' := fun j => by
  induction j with
  | zero =>
    intro i g ct OU S h1 h2 h hw
    obtain ⟨g, rfl⟩ : ∃ m : Nat, g = m + 1 := ⟨g - 1, by omega⟩
    refine ⟨S, ?_, ?_⟩
    · show dF_X13_directive_129 n G (df_X13_directive_129 n G g) x1 (nI k) v (nI i) S = _
      unfold dF_X13_directive_129
      rw [if_pos (zle (by omega) (by omega))]
    · rw [show pt B ct OU (byK v 0 i) = OU by unfold pt; split <;> rfl]
      exact h
  | succ j ih =>
    intro i g ct OU S h1 h2 h hw
    obtain ⟨g, rfl⟩ : ∃ m : Nat, g = m + 1 := ⟨g - 1, by omega⟩
    obtain ⟨S1, e1, h3⟩ := put_S (n := n) h (OKW_m hw (by omega)) (v >>> ((8 * nI i) &&& 31))
    obtain ⟨S2, e2, h4⟩ := ih (i + 1) g (ct + 1) _ S1 (by omega) (by omega) h3 (OKW_m hw (by omega))
    refine ⟨S2, ?_, ?_⟩
    · show dF_X13_directive_129 n G (df_X13_directive_129 n G g) x1 (nI k) v (nI i) S = _
      unfold dF_X13_directive_129
      rw [if_neg (znle (by omega) (by omega)), e1, nb_b1, nb_let, i1_n]
      exact e2
    · rw [show pt B (ct + 1) (pt B ct OU [v >>> ((8 * nI i) &&& 31)]) (byK v j (i + 1)) = pt B ct OU (byK v (j + 1) i) from pt_a [v >>> ((8 * nI i) &&& 31)] _, show ct + 1 + j = ct + (j + 1) by omega] at h4
      exact h4
theorem ptK_F {n e : Nat} {B : St} {ft : Int32} (m3 : ¬ sI B 15 = 3) (G : Int32 → Int32 → Int32 → St → Option St) (x1 v : Int32) (k : Nat) (hk : k ≤ 4) : ∀ (j i g : Nat) (S : St), i + j = k → j < g → FL e B ft S → ∃ S' : St, df_X13_directive_129 n G g x1 (nI k) v (nI i) S = df_X13_directive_153 n G x1 (nI k) S' ∧ FL e B ft S' := fun j => by
  induction j with
  | zero =>
    intro i g S h1 h2 h
    obtain ⟨g, rfl⟩ : ∃ m : Nat, g = m + 1 := ⟨g - 1, by omega⟩
    refine ⟨S, ?_, h⟩
    show dF_X13_directive_129 n G (df_X13_directive_129 n G g) x1 (nI k) v (nI i) S = _
    unfold dF_X13_directive_129
    rw [if_pos (zle (by omega) (by omega))]
  | succ j ih =>
    intro i g S h1 h2 h
    obtain ⟨g, rfl⟩ : ∃ m : Nat, g = m + 1 := ⟨g - 1, by omega⟩
    obtain ⟨S1, e1, h3⟩ := put_F (n := n) h m3 (v >>> ((8 * nI i) &&& 31))
    obtain ⟨S2, e2, h4⟩ := ih (i + 1) g S1 (by omega) (by omega) h3
    refine ⟨S2, ?_, h4⟩
    show dF_X13_directive_129 n G (df_X13_directive_129 n G g) x1 (nI k) v (nI i) S = _
    unfold dF_X13_directive_129
    rw [if_neg (znle (by omega) (by omega)), e1, nb_b1, nb_let, i1_n]
    exact e2
theorem byK_l (v : Int32) : ∀ k i : Nat, (byK v k i).length = k := fun k => by
  induction k with
  | zero => intro i; rfl
  | succ k ih => intro i; show (byK v k (i + 1)).length + 1 = k + 1; rw [ih]
theorem d87_0 {n g : Nat} {x1 x2 : Int32} {S : St} : df_X13_directive_87 n (g + 1) x1 x2 0 S = some S := by
  show dF_X13_directive_87 n (df_X13_directive_87 n g) x1 x2 0 S = _
  unfold dF_X13_directive_87 df_X13_directive_185
  rw [if_pos rfl]
theorem d153_F {n g e : Nat} {B : St} {ft : Int32} {S : St} (h : FL e B ft S) (hf : ¬ ft = 0) (x1 x2 : Int32) : df_X13_directive_153 n (df_X13_directive_87 n (g + 1)) x1 x2 S = some S := by
  unfold df_X13_directive_153 df_X13_directive_180 df_X13_directive_181
  rw [if_neg (by rw [(FL_f h).1]; exact hf)]
  exact d87_0
/-- where a list ends; each of its expressions makes one value -/
theorem LTr_e {n L e : Nat} {c : Nat → Nat} {BC : St} {ys : List (Nat × (Nat → Tp))} {px p' τ f p2 : Nat} (h : (¬ τ = 44 ∧ ys = [] ∧ (f = if τ = 0 then 0 else 1) ∧ p2 = px) ∨ (τ = 44 ∧ LTr n L e c BC ys p' f p2)) (hp : px ≤ e) (h0 : f = 0) : p2 ≤ e := by
  rcases h with h | h
  · omega
  · have key : ∀ (ys : List (Nat × (Nat → Tp))) (p : Nat), LTr n L e c BC ys p f p2 → p2 ≤ e := fun ys => by
      induction ys with
      | nil => intro p h; exact h.elim
      | cons y ys ih =>
        intro p h
        obtain ⟨ok, px, R, h⟩ := h
        rcases h with h | ⟨_, _, z2, q, p', κ, τ, v, x, T, h⟩
        · omega
        · rcases h with h | h
          · omega
          · exact ih p' h.2
    exact key ys p' h.2
theorem LTr_1 {n L e : Nat} {c : Nat → Nat} {BC B : St} {X : Nat → Nat} {nL st cu : Nat} (hV : RV n L e c BC B X nL cu) {PA : Nat → Int32} (hY : PY PA cu st) {y : Nat × (Nat → Tp)} {ys : List (Nat × (Nat → Tp))} {px p' τ f p2 : Nat} (h : (¬ τ = 44 ∧ ys = [] ∧ (f = if τ = 0 then 0 else 1) ∧ p2 = px) ∨ (τ = 44 ∧ LTr n L e c BC ys p' f p2)) (h0 : f = 0) (o1 : one y.2 y.1) : ∀ y' : Nat × (Nat → Tp), y' ∈ y :: ys → one y'.2 y'.1 := by
  have key : ∀ (ys : List (Nat × (Nat → Tp))) (p : Nat), LTr n L e c BC ys p f p2 → ∀ y' : Nat × (Nat → Tp), y' ∈ ys → one y'.2 y'.1 := fun ys => by
    induction ys with
    | nil => intro p h; exact h.elim
    | cons y ys ih =>
      intro p h y' hy'
      obtain ⟨ok, px, R, h⟩ := h
      rcases h with h | ⟨rfl, _, z2, q, p', κ, τ, v, x, T, h⟩
      · omega
      · have hA : SR B 0 false PA PA PA 0 p (uR (xR (yR B 0 false PA PA PA) 0 false false false 0 0 PA) p 0 0 0 0) := ⟨false, false, false, 0, 0, PA, 0, 0, 0, 0, rfl⟩
        obtain ⟨w, S1, ms, dv, _, _, _, _, _, e6, _⟩ := exp_y hV hY hA R
        rcases List.mem_cons.mp hy' with r | r
        · rw [r]; exact one_1 e6
        · rcases h with h | h
          · rw [h.2.1] at r; exact absurd r (List.not_mem_nil)
          · exact ih p' h.2 y' r
  intro y' hy'
  rcases List.mem_cons.mp hy' with r | r
  · rw [r]; exact o1
  · rcases h with h | h
    · rw [h.2.1] at r; exact absurd r (List.not_mem_nil)
    · exact key ys p' h.2 y' r
/-- a list in the reference, in every round -/
theorem lst_R {n L e : Nat} {c : Nat → Nat} {BC B : St} {X : Nat → Nat} {nL st cu : Nat} (hV : RV n L e c BC B X nL cu) {gr : Bool} {PA BY : Nat → Int32} (hY : PY PA cu st) (x1 : Int32) (k : Nat) (hk : 1 ≤ k ∧ k ≤ 4) {f p2 : Nat} (h0 : ¬ f = 0 → sI B 15 = 0) : ∀ (ys : List (Nat × (Nat → Tp))) (p ct g : Nat) (OU : Nat → Int32) (S : St), SR B ct gr PA BY OU 0 p S → OKW B (ct + k * ys.length) → ys.length < g → LTr n L e c BC ys p f p2 → ∃ S' : St, df_X13_directive_87 n g x1 (nI k) 1 S = some S' ∧ (¬ f = 0 → FL e B (nI f + 16 * sI B 13) S') ∧ (f = 0 → p2 ≤ e ∧ (∀ y : Nat × (Nat → Tp), y ∈ ys → one y.2 y.1) ∧ (sI B 15 = 2 → ¬ liF (VW c X e nL st B) ys = 0 → FL e B (nI (liF (VW c X e nL st B) ys) + 16 * sI B 13) S') ∧ ((sI B 15 = 2 → liF (VW c X e nL st B) ys = 0) → SR B (ct + k * ys.length) gr PA BY (pt B ct OU (liB (VW c X e nL st B) k ys)) 0 p2 S')) := fun ys => by
  have hT := hV.1
  have hl := hV.2.2.2.2.2.2.2
  have hn : 70000 < n := hT.1
  induction ys with
  | nil => intro p ct g OU S _ _ _ h; exact h.elim
  | cons y ys ih =>
    intro p ct g OU S h hw hg hTr
    obtain ⟨g, rfl⟩ : ∃ m : Nat, g = m + 1 := ⟨g - 1, by omega⟩
    have hg : ys.length + 1 < g + 1 := hg
    obtain ⟨g, rfl⟩ : ∃ m : Nat, g = m + 1 := ⟨g - 1, by omega⟩
    have kl : k * (ys.length + 1) = k + k * ys.length := by rw [Nat.mul_add, Nat.mul_one, Nat.add_comm]
    have hw : OKW B (ct + k * (ys.length + 1)) := hw
    have hd : ∀ (w : Int32) (S1 : St), df_X13_expression n S = some (w, S1) → df_X13_directive_87 n (g + 1 + 1) x1 (nI k) 1 S = df_X13_directive_129 n (df_X13_directive_87 n (g + 1)) n x1 (nI k) w (nI 0) S1 := fun w S1 e1 => by
      show dF_X13_directive_87 n (df_X13_directive_87 n (g + 1)) x1 (nI k) 1 S = _
      unfold dF_X13_directive_87
      rw [if_neg (by decide), if_pos (SR_12 h), if_neg (show ¬ nI k = (0 : Int32) from zne (b := 0) (by omega) (by omega) (by omega)), e1, nb_b2]
      rfl
    obtain ⟨ok, px, R, hTr⟩ := hTr
    rcases hTr with ⟨rfl, hf, hys⟩ | ⟨rfl, z1, z2, q, p', κ, τ, v, x, T, hTr⟩
    · obtain ⟨w, S1, e1, fl⟩ := exp_n hV hY h R
      have m0 := h0 (by omega)
      have ne : ¬ nI 1 + 16 * sI B 13 = 0 := flt_n hl 1 (by omega)
      have fl : FL e B (nI 1 + 16 * sI B 13) S1 := fl
      obtain ⟨S2, e2, f2⟩ := ptK_F (n := n) (m0_3 m0) (df_X13_directive_87 n (g + 1)) x1 w k hk.2 k 0 n S1 (by omega) (by omega) fl
      refine ⟨S2, ?_, fun _ => ?_, fun u => by omega⟩
      · rw [hd w S1 e1, e2, d153_F f2 ne]
      · rw [hf]; exact f2
    · obtain ⟨w, S1, ms, dv, e1, e2, e3, e4, e5, e6, e7⟩ := exp_y hV hY h R
      obtain ⟨y1, y2, y3⟩ := zmd e6
      have o1 := one_1 e6
      by_cases zz : exF B ms dv = 0
      rotate_left
      · -- a fault in CHECK
        have fl : FL e B (exF B ms dv) S1 := SR_FL e2 e3
        have m2 : sI B 15 = 2 := Classical.byContradiction fun u => zz ((exF_0 hl).mpr (fun w => u w.1))
        have f0 := f0_2 h0 m2
        obtain ⟨S2, e8, f2⟩ := ptK_F (n := n) (m2_3 m2) (df_X13_directive_87 n (g + 1)) x1 w k hk.2 k 0 n S1 (by omega) (by omega) fl
        have vf : exF B ms dv = nI (vF ms dv true) + 16 * sI B 13 ∧ ¬ vF ms dv true = 0 := by
          have md := Classical.byContradiction (fun u => zz ((exF_0 hl).mpr u))
          unfold exF vF
          rw [if_pos md]
          cases ms with
          | true => exact ⟨rfl, (by decide : ¬ (8 : Nat) = 0)⟩
          | false =>
            cases dv with
            | true => exact ⟨rfl, (by decide : ¬ (9 : Nat) = 0)⟩
            | false => rcases md.2 with u | u <;> exact nomatch u
        have lf : liF (VW c X e nL st B) (y :: ys) = vF ms dv true := by
          show (if vF (mV (VW c X e nL st B) y.2 y.1) (dV (VW c X e nL st B) y.2 y.1) true = 0 then liF (VW c X e nL st B) ys else vF (mV (VW c X e nL st B) y.2 y.1) (dV (VW c X e nL st B) y.2 y.1) true) = _
          rw [← y2, ← y3, if_neg vf.2]
        refine ⟨S2, ?_, fun u => absurd f0 u, fun _ => ⟨?_, ?_, fun _ _ => ?_, fun u => absurd (u m2) (fun w => vf.2 (lf.symm.trans w))⟩⟩
        · rw [hd w S1 e1, e8, d153_F f2 zz]
        · exact LTr_e hTr z2 f0
        · exact LTr_1 hV hY hTr f0 o1
        · rw [lf, ← vf.1]; exact f2
      · rw [zz] at e2
        have lf : sI B 15 = 2 → vF (mV (VW c X e nL st B) y.2 y.1) (dV (VW c X e nL st B) y.2 y.1) true = 0 := fun m2 => by
          have md := (exF_0 hl).mp zz
          rw [← y2, ← y3]
          unfold vF
          rw [if_neg (fun u => md ⟨m2, Or.inl u⟩), if_neg (fun u => md ⟨m2, Or.inr u⟩), if_pos rfl]
        obtain ⟨S2, e8, h2⟩ := ptK_S (n := n) (df_X13_directive_87 n (g + 1)) x1 w k hk.2 k 0 n ct OU S1 (by omega) (by omega) e2 (OKW_m hw (by omega))
        have hd2 : df_X13_directive_87 n (g + 1 + 1) x1 (nI k) 1 S = df_X13_directive_153 n (df_X13_directive_87 n (g + 1)) x1 (nI k) S2 := (hd w S1 e1).trans e8
        obtain ⟨S3, f3, h3⟩ := ise_S hT h2 T
        rcases hTr with ⟨t1, hys, hf, hp2⟩ | ⟨t1, hTr⟩
        · subst hys
          subst hp2
          by_cases t0 : τ = 0
          · rw [if_pos t0] at hf
            rw [decide_eq_true t0] at f3
            have lfy : sI B 15 = 2 → liF (VW c X e nL st B) [y] = 0 := fun m2 => by
              show (if vF (mV (VW c X e nL st B) y.2 y.1) (dV (VW c X e nL st B) y.2 y.1) true = 0 then 0 else _) = 0
              rw [if_pos (lf m2)]
            refine ⟨S3, ?_, fun u => absurd hf u, fun _ => ⟨z2, fun y' hy' => ?_, fun m2 u => absurd (lfy m2) u, fun _ => ?_⟩⟩
            · rw [hd2]
              unfold df_X13_directive_153 df_X13_directive_180 df_X13_directive_181
              rw [if_pos (SR_12 h2), f3, nb_b2, if_neg (show ¬ bI true = 0 by decide)]
              exact d87_0
            · rw [List.mem_singleton.mp hy']; exact o1
            · show SR B (ct + k * 1) gr PA BY (pt B ct OU (byK (zV (VW c X e nL st B) y.2 y.1) k 0 ++ [])) 0 p2 S3
              rw [Nat.mul_one, List.append_nil, ← y1]
              exact h3
          · rw [if_neg t0] at hf
            rw [decide_eq_false t0] at f3
            have m0 := h0 (by omega)
            obtain ⟨S4, f4, h4⟩ := ned_n hT h3 T 44 (by omega) t1
            have h4 := FN_L h4
            refine ⟨S4, ?_, fun _ => by rw [hf]; exact h4, fun u => by omega⟩
            rw [hd2]
            unfold df_X13_directive_153 df_X13_directive_180 df_X13_directive_181
            rw [if_pos (SR_12 h2), f3, nb_b2, if_pos (show bI false = 0 from rfl), show df_X13_needs n 44 S3 = some (0, S4) from f4, nb_b2, if_pos rfl]
            exact d87_0
        · rw [decide_eq_false (show ¬ τ = 0 by omega)] at f3
          obtain ⟨S4, f4, h4, _⟩ := ned_y hT h3 T 44 (by omega) (by omega) t1
          obtain ⟨S5, f5, i1, i2⟩ := ih p' (ct + k) (g + 1) _ S4 h4 (OKW_m hw (by omega)) (by omega) hTr
          refine ⟨S5, ?_, i1, fun u => ?_⟩
          · rw [hd2, ← f5]
            unfold df_X13_directive_153 df_X13_directive_181
            rw [if_pos (SR_12 h2), f3, nb_b2, if_pos (show bI false = 0 from rfl), show df_X13_needs n 44 S3 = some (1, S4) from f4, nb_b2, if_neg (by decide)]
          · obtain ⟨j1, j2, j3, j4⟩ := i2 u
            have lc : sI B 15 = 2 → liF (VW c X e nL st B) (y :: ys) = liF (VW c X e nL st B) ys := fun m2 => by
              show (if vF (mV (VW c X e nL st B) y.2 y.1) (dV (VW c X e nL st B) y.2 y.1) true = 0 then liF (VW c X e nL st B) ys else _) = _
              rw [if_pos (lf m2)]
            refine ⟨j1, fun y' hy' => ?_, fun m2 w => ?_, fun w => ?_⟩
            · rcases List.mem_cons.mp hy' with r | r
              · rw [r]; exact o1
              · exact j2 y' r
            · rw [lc m2] at w ⊢
              exact j3 m2 w
            · have := j4 (fun m2 => by rw [← lc m2]; exact w m2)
              show SR B (ct + k * (ys.length + 1)) gr PA BY (pt B ct OU (byK (zV (VW c X e nL st B) y.2 y.1) k 0 ++ liB (VW c X e nL st B) k ys)) 0 p2 S5
              rw [← pt_a, byK_l, ← y1, kl, ← Nat.add_assoc]
              exact this
