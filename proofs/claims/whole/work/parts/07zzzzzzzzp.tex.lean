/-- the letters of a text in quotes -/
def txO (c : Nat → Nat) (e : Nat) : Nat → Nat → List Nat
  | 0, _ => []
  | k + 1, i => match shO c e i 34 with
    | none => []
    | some v => v :: txO c e k (i + wdO c e i)
def txI (l : List Nat) : List Int32 := l.map nI
theorem put_10 {n : Nat} {S S' : St} {v : Int32} (h : df_X13_put n v S = some S') : sI S' 10 = sI S 10 := by
  unfold df_X13_put df_X13_put_0 df_X13_put_27 at h
  by_cases y : sI S 15 = 3
  · rw [if_pos y] at h
    unfold nd_o nd_ck at h
    split at h
    · split at h
      · rw [nb_let, nb_let] at h
        rw [← Option.some.inj h]
        rfl
      · exact nomatch h
    · exact nomatch h
  · rw [if_neg y, nb_let] at h
    rw [← Option.some.inj h]
    rfl
theorem shn_S {n L e : Nat} {c : Nat → Nat} {BC B : St} (hT : atx n L e c BC B) {ct : Nat} {gr : Bool} {PA BY OU : Nat → Int32} {ft : Int32} {ap : Nat} {S : St} (h : SR B ct gr PA BY OU ft ap S) (i : Nat) (hi : i < e) (hl : ¬ c i = 10) : ∃ S' : St, df_X13_shown n (nI i) 34 S = some (oI (shO c e i 34), S') ∧ SR B ct gr PA BY OU ft ap S' ∧ sI S' 10 = nI (i + wdO c e i) := by
  obtain ⟨ms, dv, ls, sg, vl, PL, tk, fr, to, nm, rfl⟩ := h
  have r := ar_sh (n := n) (BR := xR (yR B ct gr PA BY OU) ft ms dv ls sg vl PL) (BC := BC) hT i 34 ap tk fr to nm (by omega) (Or.inl rfl) (fun _ => hl)
  rw [if_pos hi] at r
  exact ⟨_, r, ⟨ms, dv, ls, sg, vl, PL, tk, fr, _, nm, rfl⟩, rfl⟩
/-- the loop over a text -/
theorem qt_21 {n L e : Nat} {c : Nat → Nat} {BC B : St} (hT : atx n L e c BC B) {gr : Bool} {PA BY : Nat → Int32} {ap : Nat} (x1 : Int32) (z : Nat) (hz : z ≤ e) (hl : ∀ i : Nat, i < e → z ≤ i + 40000 → True) (lo : Nat) (hlo : ∀ i : Nat, lo ≤ i → i < e → ¬ c i = 10) : ∀ (k i ct g : Nat) (OU : Nat → Int32) (S : St), lo ≤ i → i ≤ e → e - i ≤ k → k + 1 < g → qE c e k i = z → SR B ct gr PA BY OU 0 ap S → OKW B (ct + (txO c e k i).length) → ∃ (S' : St) (g' : Nat), df_X13_quoted_21 n g x1 (nI (z + 1)) (nI i) S = dF_X13_quoted_21 n (df_X13_quoted_21 n g') x1 (nI (z + 1)) (nI z) S' ∧ SR B (ct + (txO c e k i).length) gr PA BY (pt B ct OU (txI (txO c e k i))) 0 ap S' := fun k => by
  have hL : L ≤ 32768 := hT.2.1
  have heL : e ≤ L := hT.2.2.1
  have hce : c e = 10 := hT.2.2.2.2.2.1
  induction k with
  | zero =>
    intro i ct g OU S h1 h2 h3 h4 h5 h hw
    obtain ⟨g, rfl⟩ : ∃ m : Nat, g = m + 1 := ⟨g - 1, by omega⟩
    have h5 : i = z := h5
    subst h5
    refine ⟨S, g, rfl, ?_⟩
    show SR B (ct + 0) gr PA BY (pt B ct OU []) 0 ap S
    rw [show pt B ct OU [] = OU by unfold pt; split <;> rfl]
    exact h
  | succ k ih =>
    intro i ct g OU S h1 h2 h3 h4 h5 h hw
    obtain ⟨g, rfl⟩ : ∃ m : Nat, g = m + 1 := ⟨g - 1, by omega⟩
    have h5 : (match shO c e i 34 with | none => i | some _ => qE c e k (i + wdO c e i)) = z := h5
    have tx : txO c e (k + 1) i = match shO c e i 34 with | none => [] | some v => v :: txO c e k (i + wdO c e i) := rfl
    cases hs : shO c e i 34 with
    | none =>
      rw [hs] at h5 tx
      have h5 : i = z := h5
      have tx : txO c e (k + 1) i = [] := tx
      subst h5
      rw [tx]
      refine ⟨S, g, rfl, ?_⟩
      show SR B (ct + 0) gr PA BY (pt B ct OU []) 0 ap S
      rw [show pt B ct OU [] = OU by unfold pt; split <;> rfl]
      exact h
    | some v =>
      rw [hs] at h5 tx
      have h5 : qE c e k (i + wdO c e i) = z := h5
      have tx : txO c e (k + 1) i = v :: txO c e k (i + wdO c e i) := tx
      obtain ⟨w1, w2, w3⟩ := shO_w hce hs
      have w4 := (qE_1 hce k (i + wdO c e i) w2 (by omega)).1
      rw [tx] at hw ⊢
      have hw : OKW B (ct + ((txO c e k (i + wdO c e i)).length + 1)) := hw
      obtain ⟨S1, e1, f1, f2⟩ := shn_S hT h i w1 (hlo i h1 w1)
      obtain ⟨S2, e2, f3⟩ := put_S (n := n) f1 (OKW_m hw (by omega)) (oI (shO c e i 34))
      have f4 := (put_10 e2).trans f2
      rw [hs] at e1 e2 f3
      obtain ⟨S3, g', e3, f5⟩ := ih (i + wdO c e i) (ct + 1) g _ S2 (by omega) w2 (by omega) (by omega) h5 f3 (OKW_m hw (by omega))
      refine ⟨S3, g', ?_, ?_⟩
      · rw [← e3]
        show dF_X13_quoted_21 n (df_X13_quoted_21 n g) x1 (nI (z + 1)) (nI i) S = _
        unfold dF_X13_quoted_21
        rw [show nI (z + 1) - (1 : Int32) = nI z from pk_sub (b := 1) (by omega), if_neg (znle (by omega) (by omega)), e1, nb_b2, e2, nb_b1, f4, nb_let]
      · rw [show pt B (ct + 1) (pt B ct OU [oI (some v)]) (txI (txO c e k (i + wdO c e i))) = pt B ct OU (txI (v :: txO c e k (i + wdO c e i))) from pt_a [oI (some v)] _, show ct + 1 + (txO c e k (i + wdO c e i)).length = ct + (v :: txO c e k (i + wdO c e i)).length by show ct + 1 + _ = ct + (_ + 1); omega] at f5
        exact f5
/-- a text in quotes, with a 0 behind it or not -/
def qtL (c : Nat → Nat) (e : Nat) (en : Bool) (y : Nat × Nat) : List Int32 := txI (txO c e (e - (y.1 + 1)) (y.1 + 1)) ++ if en = true then [0] else []
theorem ts_4 {n L e : Nat} {c : Nat → Nat} {BC : St} {p q p' κ τ v : Nat} {x : Int32} (T : TS n L e c BC p q p' κ τ v x) (h : τ = 4) : κ = 4 ∧ q < e ∧ p' = qE c e (e - (q + 1)) (q + 1) + 1 := by
  obtain ⟨t1, t2, t3, t4, t5, t6, t7, t8, t9⟩ := T
  by_cases y : κ = 5
  · subst y
    have := tk_5 t7
    omega
  · unfold tkK at t7
    rcases t7 with w | w | w | w | w | w | w
    · omega
    · omega
    · omega
    · omega
    · exact ⟨w.1, (t6 (by omega)).1, w.2.2.2.1⟩
    · omega
    · omega
theorem qtd_S {n L e : Nat} {c : Nat → Nat} {BC B : St} (hT : atx n L e c BC B) {ct : Nat} {gr : Bool} {PA BY OU : Nat → Int32} {p : Nat} {S : St} (h : SR B ct gr PA BY OU 0 p S) {q p' κ τ v : Nat} {x : Int32} (T : TS n L e c BC p q p' κ τ v x) (ht : τ = 4) (en : Bool) (hw : OKW B (ct + (qtL c e en (q, p')).length)) : ∃ S' : St, df_X13_quoted n (bI en) S = some S' ∧ SR B (ct + (qtL c e en (q, p')).length) gr PA BY (pt B ct OU (qtL c e en (q, p'))) 0 p' S' := by
  have hn : 70000 < n := hT.1
  have hL : L ≤ 32768 := hT.2.1
  have heL : e ≤ L := hT.2.2.1
  obtain ⟨k4, qe, pe⟩ := ts_4 T ht
  have hp' : p' ≤ e := T.2.2.2.2.1
  obtain ⟨S1, e1, f1, f9, f10⟩ := ned_y hT h T 4 (by omega) (by omega) ht
  have ql : (qtL c e en (q, p')).length = (txO c e (e - (q + 1)) (q + 1)).length + if en = true then 1 else 0 := by
    unfold qtL txI
    rw [List.length_append, List.length_map]
    cases en <;> rfl
  rw [ql] at hw
  obtain ⟨S2, g', e2, f2⟩ := qt_21 hT (gr := gr) (PA := PA) (BY := BY) (ap := p') (bI en) (qE c e (e - (q + 1)) (q + 1)) (by omega) (fun _ _ _ => trivial) (q + 1) (fun i i1 i2 => T.2.1 i (by have := T.2.2.1; omega) i2) (e - (q + 1)) (q + 1) ct n OU S1 (Nat.le_refl _) (by omega) (Nat.le_refl _) (by omega) rfl f1 (OKW_m hw (by omega))
  rw [← pe] at e2
  have f3 := SR_w7 f2 p'
  have hd : df_X13_quoted n (bI en) S = if bI en = 0 then some (pI S2 7 (nI p')) else nd_b1 (df_X13_put n 0 (pI S2 7 (nI p'))) (fun (s11 : St) => some s11) := by
    unfold df_X13_quoted df_X13_quoted_0
    rw [show df_X13_needs n 4 S = some (1, S1) from e1, nb_b2, if_neg (by decide), f10, f9, nb_let, show nI q + (1 : Int32) = nI (q + 1) from nI_add q 1, nb_let, e2]
    unfold dF_X13_quoted_21 df_X13_quoted_61
    rw [show nI p' - (1 : Int32) = nI (qE c e (e - (q + 1)) (q + 1)) from (pk_sub (b := 1) (by omega)).trans (congrArg nI (by omega)), if_pos (zle (Nat.le_refl _) (by omega)), nb_let]
  rw [ql]
  cases en with
  | false =>
    refine ⟨_, hd.trans (if_pos rfl), ?_⟩
    rw [show qtL c e false (q, p') = txI (txO c e (e - (q + 1)) (q + 1)) from List.append_nil _]
    exact f3
  | true =>
    obtain ⟨S3, e3, f4⟩ := put_S (n := n) f3 (OKW_m hw (by show _ ≤ ct + (_ + 1); omega)) 0
    refine ⟨S3, ?_, ?_⟩
    · rw [hd, if_neg (show ¬ bI true = 0 by decide), e3, nb_b1]
    · rw [show pt B (ct + (txO c e (e - (q + 1)) (q + 1)).length) (pt B ct OU (txI (txO c e (e - (q + 1)) (q + 1)))) [0] = pt B ct OU (qtL c e true (q, p')) by
        rw [show (txO c e (e - (q + 1)) (q + 1)).length = (txI (txO c e (e - (q + 1)) (q + 1))).length from (List.length_map _).symm]
        exact pt_a _ _] at f4
      exact f4
theorem qtd_n {n L e : Nat} {c : Nat → Nat} {BC B : St} (hT : atx n L e c BC B) {ct : Nat} {gr : Bool} {PA BY OU : Nat → Int32} {p : Nat} {S : St} (h : SR B ct gr PA BY OU 0 p S) {q p' κ τ v : Nat} {x : Int32} (T : TS n L e c BC p q p' κ τ v x) (ht : ¬ τ = 4) (en : Int32) : ∃ S' : St, df_X13_quoted n en S = some S' ∧ FL e B (nI 1 + 16 * sI B 13) S' := by
  obtain ⟨S1, e1, f1⟩ := ned_n hT h T 4 (by omega) ht
  refine ⟨S1, ?_, FN_L f1⟩
  unfold df_X13_quoted df_X13_quoted_0
  rw [show df_X13_needs n 4 S = some (0, S1) from e1, nb_b2, if_pos rfl]
/-- texts, one after the other -/
def XTr (n L e : Nat) (c : Nat → Nat) (BC : St) : List (Nat × Nat) → Nat → Nat → Nat → Prop
  | [], _, _, _ => False
  | y :: ys, p, f, p2 => ∃ (q p' κ τ v : Nat) (x : Int32), TS n L e c BC p q p' κ τ v x ∧ ((¬ τ = 4 ∧ f = 1 ∧ ys = []) ∨ (τ = 4 ∧ y = (q, p') ∧ ∃ (q2 p2' κ2 τ2 v2 : Nat) (x2 : Int32), TS n L e c BC p' q2 p2' κ2 τ2 v2 x2 ∧ ((¬ τ2 = 44 ∧ ys = [] ∧ (f = if τ2 = 0 then 0 else 1) ∧ p2 = p') ∨ (τ2 = 44 ∧ XTr n L e c BC ys p2' f p2))))
def qtA (c : Nat → Nat) (e : Nat) (en : Bool) : List (Nat × Nat) → List Int32
  | [] => []
  | y :: ys => qtL c e en y ++ qtA c e en ys
theorem qtA_1 {c : Nat → Nat} {e : Nat} {en : Bool} {y : Nat × Nat} : qtA c e en [y] = qtL c e en y := List.append_nil _
theorem qtA_s {c : Nat → Nat} {e : Nat} {en : Bool} {y : Nat × Nat} {ys : List (Nat × Nat)} : qtA c e en (y :: ys) = qtL c e en y ++ qtA c e en ys := rfl
theorem txt_R {n L e : Nat} {c : Nat → Nat} {BC B : St} {X : Nat → Nat} {nL cu : Nat} (hV : RV n L e c BC B X nL cu) {gr : Bool} {PA BY : Nat → Int32} (en : Bool) {f p2 : Nat} : ∀ (ys : List (Nat × Nat)) (p ct g : Nat) (OU : Nat → Int32) (S : St), SR B ct gr PA BY OU 0 p S → OKW B (ct + (qtA c e en ys).length) → ys.length < g → XTr n L e c BC ys p f p2 → ∃ S' : St, df_X13_directive_87 n g (if en = true then 47 else 46) 0 1 S = some S' ∧ (¬ f = 0 → FL e B (nI f + 16 * sI B 13) S') ∧ (f = 0 → p2 ≤ e ∧ SR B (ct + (qtA c e en ys).length) gr PA BY (pt B ct OU (qtA c e en ys)) 0 p2 S') := fun ys => by
  have hT := hV.1
  have hl := hV.2.2.2.2.2.2.2
  induction ys with
  | nil => intro p ct g OU S _ _ _ h; exact h.elim
  | cons y ys ih =>
    intro p ct g OU S h hw hg hTr
    have hg : ys.length + 1 < g := hg
    obtain ⟨g, rfl⟩ : ∃ m : Nat, g = m + 1 := ⟨g - 1, by omega⟩
    obtain ⟨g, rfl⟩ : ∃ m : Nat, g = m + 1 := ⟨g - 1, by omega⟩
    have al : (qtA c e en (y :: ys)).length = (qtL c e en y).length + (qtA c e en ys).length := by rw [qtA_s, List.length_append]
    rw [al] at hw
    have hd : df_X13_directive_87 n (g + 1 + 1) (if en = true then 47 else 46) 0 1 S = nd_b1 (df_X13_quoted n (bI en) S) (fun (s : St) => df_X13_directive_153 n (df_X13_directive_87 n (g + 1)) (if en = true then 47 else 46) 0 s) := by
      show dF_X13_directive_87 n (df_X13_directive_87 n (g + 1)) (if en = true then 47 else 46) 0 1 S = _
      unfold dF_X13_directive_87 df_X13_directive_114
      rw [if_neg (by decide), if_pos (SR_12 h), if_pos rfl]
      cases en
      · rw [if_neg (by decide)]; rfl
      · rw [if_pos (by decide)]; rfl
    obtain ⟨q, p', κ, τ, v, x, T, hTr⟩ := hTr
    rcases hTr with ⟨t4, hf, hys⟩ | ⟨t4, hy, q2, p2', κ2, τ2, v2, x2, T2, hTr⟩
    · obtain ⟨S1, e1, fl⟩ := qtd_n hT h T t4 (bI en)
      have ne : ¬ nI 1 + 16 * sI B 13 = 0 := flt_n hl 1 (by omega)
      refine ⟨S1, ?_, fun _ => by rw [hf]; exact fl, fun u => by omega⟩
      rw [hd, e1, nb_b1, d153_F fl ne]
    · subst hy
      obtain ⟨S1, e1, h1⟩ := qtd_S hT h T t4 en (OKW_m hw (by omega))
      obtain ⟨S3, f3, h3⟩ := ise_S hT h1 T2
      rcases hTr with ⟨t1, hys, hf, hp2⟩ | ⟨t1, hTr⟩
      · subst hys
        subst hp2
        by_cases t0 : τ2 = 0
        · rw [if_pos t0] at hf
          rw [decide_eq_true t0] at f3
          refine ⟨S3, ?_, fun u => absurd hf u, fun _ => ⟨T.2.2.2.2.1, ?_⟩⟩
          · rw [hd, e1, nb_b1]
            unfold df_X13_directive_153 df_X13_directive_180 df_X13_directive_181
            rw [if_pos (SR_12 h1), f3, nb_b2, if_neg (show ¬ bI true = 0 by decide)]
            exact d87_0
          · rw [qtA_1]
            exact h3
        · rw [if_neg t0] at hf
          rw [decide_eq_false t0] at f3
          obtain ⟨S4, f4, h4⟩ := ned_n hT h3 T2 44 (by omega) t1
          have h4 := FN_L h4
          refine ⟨S4, ?_, fun _ => by rw [hf]; exact h4, fun u => by omega⟩
          rw [hd, e1, nb_b1]
          unfold df_X13_directive_153 df_X13_directive_180 df_X13_directive_181
          rw [if_pos (SR_12 h1), f3, nb_b2, if_pos (show bI false = 0 from rfl), show df_X13_needs n 44 S3 = some (0, S4) from f4, nb_b2, if_pos rfl]
          exact d87_0
      · rw [decide_eq_false (show ¬ τ2 = 0 by omega)] at f3
        obtain ⟨S4, f4, h4, _⟩ := ned_y hT h3 T2 44 (by omega) (by omega) t1
        obtain ⟨S5, f5, i1, i2⟩ := ih p2' (ct + (qtL c e en (q, p')).length) (g + 1) _ S4 h4 (OKW_m hw (by omega)) (by omega) hTr
        refine ⟨S5, ?_, i1, fun u => ?_⟩
        · rw [hd, e1, nb_b1, ← f5]
          unfold df_X13_directive_153 df_X13_directive_181
          rw [if_pos (SR_12 h1), f3, nb_b2, if_pos (show bI false = 0 from rfl), show df_X13_needs n 44 S3 = some (1, S4) from f4, nb_b2, if_neg (by decide)]
        · obtain ⟨j1, j2⟩ := i2 u
          refine ⟨j1, ?_⟩
          rw [pt_a, Nat.add_assoc, ← al, ← qtA_s] at j2
          exact j2
