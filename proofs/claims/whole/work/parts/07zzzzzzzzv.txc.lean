theorem tk_4 {c : Nat → Nat} {e q p' κ τ v : Nat} (h : tkK c e q p' κ τ v) (z : κ = 4) : τ = 4 := by
  unfold tkK at h
  rcases h with w | w | w | w | w | w | w <;> omega
theorem tx_l {c : Nat → Nat} {e : Nat} (hce : c e = 10) : ∀ k i : Nat, i ≤ e → e - i ≤ k → (txO c e k i).length + i ≤ qE c e k i := fun k => by
  induction k with
  | zero => intro i _ _; show 0 + i ≤ i; omega
  | succ k ih =>
    intro i h1 h2
    have tx : txO c e (k + 1) i = match shO c e i 34 with | none => [] | some v => v :: txO c e k (i + wdO c e i) := rfl
    have tq : qE c e (k + 1) i = match shO c e i 34 with | none => i | some _ => qE c e k (i + wdO c e i) := rfl
    cases hs : shO c e i 34 with
    | none =>
      rw [hs] at tx tq
      rw [tx, tq]
      show 0 + i ≤ i
      omega
    | some v =>
      rw [hs] at tx tq
      rw [tx, tq]
      obtain ⟨w1, w2, w3⟩ := shO_w hce hs
      have := ih (i + wdO c e i) w2 (by omega)
      show (txO c e k (i + wdO c e i)).length + 1 + i ≤ qE c e k (i + wdO c e i)
      omega
/-- behind a text: a comma or not -/
theorem t55 {n L e : Nat} {c : Nat → Nat} {BC BR0 : St} (hT0 : atx n L e c BC BR0) (Qs : St) (G : Int32 → Int32 → Int32 → (St × St) → Option (St × St)) (x1 first w : Int32) {cs tp st ns : Nat} {fx : Bool} {C A S NM BK : Nat → Int32} {p q p' κ τ v : Nat} {x : Int32} (T : TS n L e c BC p q p' κ τ v x) : ∃ (q2 p2 κ2 τ2 v2 : Nat) (x2 : Int32), TS n L e c BC p' q2 p2 κ2 τ2 v2 x2 ∧ (¬ τ2 = 44 → df_X1_readTexts_55 n G x1 first w (Qs, uC (xC BC cs tp st ns fx C A S NM BK) p' κ q x) = df_X1_readTexts_90 n first (Qs, uC (xC BC cs tp st ns fx C A S NM BK) p2 κ2 q2 x2)) ∧ (τ2 = 44 → ∃ (qn pn κn τn vn : Nat) (xn : Int32), df_X1_readTexts_55 n G x1 first w (Qs, uC (xC BC cs tp st ns fx C A S NM BK) p' κ q x) = G x1 first (w + Int32.ofInt (-1)) (Qs, uC (xC BC cs tp st ns fx C A S NM BK) pn κn qn xn) ∧ TS n L e c BC p2 qn pn κn τn vn xn) := by
  obtain ⟨t1, t2, t3, t4, t5, t6, t7, t8, t9⟩ := id T
  obtain ⟨q2, p2, κ2, τ2, v2, x2, m1, m2⟩ := nx_1 hT0 (cs := cs) (tp := tp) (st := st) (ns := ns) (fx := fx) (C := C) (A := A) (S := S) (NM := NM) (BK := BK) p' κ q x t5 (fun i i1 i2 => t2 i (by omega) i2)
  obtain ⟨r1, r2, r3, r4, r5, r6, r7, r8, r9⟩ := id m2
  have k6 : κ2 ≤ 6 := by unfold tkK at r7; omega
  have sg := ts_sg m2 44 (by omega)
  have s := xs_1 (n := n) (B := BC) (cs := cs) (tp := tp) (st := st) (ns := ns) (fx := fx) (C := C) (A := A) (S := S) (NM := NM) (BK := BK) (ap := p2) (kd := κ2) (fr := q2) (nm := x2) k6 (44 : Int32)
  refine ⟨q2, p2, κ2, τ2, v2, x2, m2, fun h => ?_, fun h => ?_⟩
  · rw [decide_eq_false (show ¬ (κ2 = 5 ∧ x2 = 44) from fun z => h (sg.mp z))] at s
    unfold df_X1_readTexts_55
    rw [m1, nb_b1, nb_let, s, nb_b2, nb_let]
    exact if_pos rfl
  · obtain ⟨qn, pn, κn, τn, vn, xn, n1, n2⟩ := nx_1 hT0 (cs := cs) (tp := tp) (st := st) (ns := ns) (fx := fx) (C := C) (A := A) (S := S) (NM := NM) (BK := BK) p2 κ2 q2 x2 r5 (fun i i1 i2 => r2 i (by omega) i2)
    refine ⟨qn, pn, κn, τn, vn, xn, ?_, n2⟩
    rw [decide_eq_true (show κ2 = 5 ∧ x2 = 44 from sg.mpr h)] at s
    unfold df_X1_readTexts_55
    rw [m1, nb_b1, nb_let, s, nb_b2, nb_let, if_neg (show ¬ bI true = 0 by decide), n1, nb_b1, nb_let, nb_let]
theorem t90 {n : Nat} {B : St} {sn lu ln se co : Nat} {od : Int32} {SW LW : Nat → Int32} (s2 : St) (h : sn < 8194) (first : Int32) : df_X1_readTexts_90 n first (qC B sn lu 0 ln se od co SW LW, s2) = some (qC B (sn + 1) lu 0 ln se od co (rowU SW sn ln se (nI lu - first) 6 0 first (nI 0)) LW, s2) := by
  unfold df_X1_readTexts_90
  rw [add_C s2 h, nb_b1]
  rfl
/-- one text kept, with its 0 -/
theorem tkp {n L e : Nat} {c : Nat → Nat} {BC BR0 : St} (hT0 : atx n L e c BC BR0) {B : St} {sn lu ln se co : Nat} {od : Int32} {SW LW : Nat → Int32} {cs tp st ns : Nat} {fx : Bool} {C A S NM BK : Nat → Int32} {p q p' κ τ v : Nat} {x : Int32} (T : TS n L e c BC p q p' κ τ v x) (ht : τ = 4) (hlu : lu ≤ p) (en : Bool) (G : Int32 → Int32 → Int32 → (St × St) → Option (St × St)) (first : Int32) (w : Nat) (hw : w < 2 ^ 31) : dF_X1_readTexts_14 n G (bI en) first (nI w) (qC B sn lu 0 ln se od co SW LW, uC (xC BC cs tp st ns fx C A S NM BK) p' κ q x) = df_X1_readTexts_55 n G (bI en) first (nI w) (qC B sn (lu + (qtL c e en (q, p')).length) 0 ln se od co SW (ltW LW lu (qtL c e en (q, p'))), uC (xC BC cs tp st ns fx C A S NM BK) p' κ q x) ∧ lu + (qtL c e en (q, p')).length ≤ p' := by
  have he : e ≤ 32768 := by have := hT0.2.1; have := hT0.2.2.1; omega
  have hce : c e = 10 := hT0.2.2.2.2.2.1
  have hpq := T.2.2.1
  obtain ⟨k4, q4, p4⟩ := ts_4 T ht
  subst k4
  have tl := tx_l hce (e - (q + 1)) (q + 1) (by omega) (by omega)
  have qe := (qE_1 hce (e - (q + 1)) (q + 1) (by omega) (by omega)).2.1
  have k := kt_C (at_C (cs := cs) (tp := tp) (st := st) (ns := ns) (fx := fx) (C := C) (A := A) (S := S) (NM := NM) (BK := BK) hT0) (B := B) (sn := sn) (lu := lu) (ln := ln) (se := se) (co := co) (od := od) (ft := 0) (SW := SW) (LW := LW) q 4 x q4 (by omega)
  rw [← p4] at k
  have ll : (txI (txO c e (e - (q + 1)) (q + 1))).length = (txO c e (e - (q + 1)) (q + 1)).length := List.length_map _
  unfold dF_X1_readTexts_14
  rw [if_neg (show ¬ nI w < (0 : Int32) from znl (b := 0) (Nat.zero_le _) hw), if_pos (show sI (qC B sn lu 0 ln se od co SW LW, uC (xC BC cs tp st ns fx C A S NM BK) p' 4 q x).1 2 = 0 from rfl), if_pos (show sI (qC B sn lu 0 ln se od co SW LW, uC (xC BC cs tp st ns fx C A S NM BK) p' 4 q x).2 2 = 4 from rfl), k, nb_b1]
  cases en with
  | false =>
    rw [if_pos (show bI false = 0 from rfl), show qtL c e false (q, p') = txI (txO c e (e - (q + 1)) (q + 1)) from List.append_nil _, ll]
    exact ⟨rfl, by omega⟩
  | true =>
    rw [if_neg (show ¬ bI true = 0 by decide), kl_C _ (by omega), nb_b1, show qtL c e true (q, p') = txI (txO c e (e - (q + 1)) (q + 1)) ++ [0] from rfl, ltW_a, List.length_append, ll]
    exact ⟨rfl, by show lu + (_ + 1) ≤ p'; omega⟩
/-- readTexts in the class: its loop -/
theorem txc_C {n L e : Nat} {c : Nat → Nat} {BC BR0 : St} (hT0 : atx n L e c BC BR0) {B : St} {sn ln se co : Nat} {od : Int32} {SW : Nat → Int32} (hsn : sn < 8194) {cs tp st ns : Nat} {fx : Bool} {C A S NM BK : Nat → Int32} (en : Bool) (first : Int32) : ∀ (N w g lu : Nat) (LW : Nat → Int32) (p q p' κ τ v : Nat) (x : Int32), e - p < N → N + 2 < g → N ≤ w → w < 2 ^ 31 → TS n L e c BC p q p' κ τ v x → lu ≤ p → ∃ (ys : List (Nat × Nat)) (f p2 q2 p2' κ2 τ2 v2 : Nat) (x2 : Int32), XTr n L e c BC ys p f p2 ∧ ys.length ≤ N ∧ ((f = 1 ∧ ∃ (lu' : Nat) (LW' : Nat → Int32), df_X1_readTexts_14 n g (bI en) first (nI w) (qC B sn lu 0 ln se od co SW LW, uC (xC BC cs tp st ns fx C A S NM BK) p' κ q x) = some (qC B sn lu' (nI 1) ln se od co SW LW', uC (xC BC cs tp st ns fx C A S NM BK) p2' κ2 q2 x2)) ∨ (df_X1_readTexts_14 n g (bI en) first (nI w) (qC B sn lu 0 ln se od co SW LW, uC (xC BC cs tp st ns fx C A S NM BK) p' κ q x) = some (qC B (sn + 1) (lu + (qtA c e en ys).length) 0 ln se od co (rowU SW sn ln se (nI (lu + (qtA c e en ys).length) - first) 6 0 first (nI 0)) (ltW LW lu (qtA c e en ys)), uC (xC BC cs tp st ns fx C A S NM BK) p2' κ2 q2 x2) ∧ (f = if τ2 = 0 then 0 else 1) ∧ TS n L e c BC p2 q2 p2' κ2 τ2 v2 x2 ∧ p ≤ p2 ∧ lu + (qtA c e en ys).length ≤ p2)) := fun N => by
  induction N with
  | zero => intro w g lu LW p q p' κ τ v x h1; omega
  | succ N ih =>
    intro w g lu LW p q p' κ τ v x h1 h2 h3 h4 hT hlu
    obtain ⟨g, rfl⟩ : ∃ m : Nat, g = m + 1 := ⟨g - 1, by omega⟩
    obtain ⟨t1, t2, t3, t4, t5, t6, t7, t8, t9⟩ := id hT
    by_cases ht : τ = 4
    · obtain ⟨k1, k2⟩ := tkp hT0 (B := B) (sn := sn) (lu := lu) (ln := ln) (se := se) (co := co) (od := od) (SW := SW) (LW := LW) (cs := cs) (tp := tp) (st := st) (ns := ns) (fx := fx) (C := C) (A := A) (S := S) (NM := NM) (BK := BK) hT ht hlu en (df_X1_readTexts_14 n g) first w h4
      obtain ⟨q3, p3, κ3, τ3, v3, x3, T3, c1, c2⟩ := t55 hT0 (qC B sn (lu + (qtL c e en (q, p')).length) 0 ln se od co SW (ltW LW lu (qtL c e en (q, p')))) (df_X1_readTexts_14 n g) (bI en) first (nI w) (cs := cs) (tp := tp) (st := st) (ns := ns) (fx := fx) (C := C) (A := A) (S := S) (NM := NM) (BK := BK) hT
      have k1 : df_X1_readTexts_14 n (g + 1) (bI en) first (nI w) (qC B sn lu 0 ln se od co SW LW, uC (xC BC cs tp st ns fx C A S NM BK) p' κ q x) = _ := k1
      have T34 := T3.2.2.1
      have T35 := T3.2.2.2.1
      by_cases cm : τ3 = 44
      · obtain ⟨qn, pn, κn, τn, vn, xn, z1, z2⟩ := c2 cm
        have κ5 : κ3 = 5 := ((ts_sg T3 44 (by omega)).mpr cm).1
        have q4 := T3.2.2.2.2.2.1 (by omega)
        have p3e := T3.2.2.2.2.1
        have lf : nI w + Int32.ofInt (-1) = nI (w - 1) := by
          have h : nI w + Int32.ofInt (-1) = nI w - nI 1 := by
            rw [Int32.sub_eq_add_neg]
            rfl
          rw [h, pk_sub (by omega)]
        rw [lf] at z1
        obtain ⟨ys, f, p2, q2, p2', κ2, τ2, v2, x2, a1, a2, a3⟩ := ih (w - 1) g (lu + (qtL c e en (q, p')).length) (ltW LW lu (qtL c e en (q, p'))) p3 qn pn κn τn vn xn (by omega) (by omega) (by omega) (by omega) z2 (by omega)
        refine ⟨(q, p') :: ys, f, p2, q2, p2', κ2, τ2, v2, x2, ⟨q, p', κ, τ, v, x, hT, Or.inr ⟨ht, rfl, q3, p3, κ3, τ3, v3, x3, T3, Or.inr ⟨cm, a1⟩⟩⟩, by show ys.length + 1 ≤ N + 1; omega, ?_⟩
        rcases a3 with ⟨b1, lu', LW', b2⟩ | ⟨b1, b2, b3, b4, b5⟩
        · exact Or.inl ⟨b1, lu', LW', k1.trans (z1.trans b2)⟩
        · have lq : lu + (qtL c e en (q, p')).length + (qtA c e en ys).length = lu + (qtA c e en ((q, p') :: ys)).length := by
            rw [qtA_s, List.length_append]
            omega
          have lw : ltW (ltW LW lu (qtL c e en (q, p'))) (lu + (qtL c e en (q, p')).length) (qtA c e en ys) = ltW LW lu (qtA c e en ((q, p') :: ys)) := by
            rw [qtA_s, ltW_a]
          rw [lq, lw] at b1
          rw [lq] at b5
          exact Or.inr ⟨k1.trans (z1.trans b1), b2, b3, by omega, b5⟩
      · refine ⟨[(q, p')], if τ3 = 0 then 0 else 1, p', q3, p3, κ3, τ3, v3, x3, ⟨q, p', κ, τ, v, x, hT, Or.inr ⟨ht, rfl, q3, p3, κ3, τ3, v3, x3, T3, Or.inl ⟨cm, rfl, rfl, rfl⟩⟩⟩, by show 1 ≤ N + 1; omega, Or.inr ⟨?_, rfl, T3, by omega, ?_⟩⟩
        · rw [qtA_1]
          exact k1.trans ((c1 cm).trans (t90 _ hsn _))
        · rw [qtA_1]
          exact k2
    · refine ⟨[(0, 0)], 1, p, q, p', κ, τ, v, x, ⟨q, p', κ, τ, v, x, hT, Or.inl ⟨ht, rfl, rfl⟩⟩, by show 1 ≤ N + 1; omega, Or.inl ⟨rfl, lu, LW, ?_⟩⟩
      have κ4 : ¬ κ = 4 := fun z => ht (tk_4 t7 z)
      have k6 : κ ≤ 6 := by unfold tkK at t7; omega
      show dF_X1_readTexts_14 n (df_X1_readTexts_14 n g) (bI en) first (nI w) (qC B sn lu 0 ln se od co SW LW, uC (xC BC cs tp st ns fx C A S NM BK) p' κ q x) = _
      unfold dF_X1_readTexts_14
      rw [if_neg (show ¬ nI w < (0 : Int32) from znl (b := 0) (Nat.zero_le _) h4), if_pos (show sI (qC B sn lu 0 ln se od co SW LW, uC (xC BC cs tp st ns fx C A S NM BK) p' κ q x).1 2 = 0 from rfl), if_neg (show ¬ sI (qC B sn lu 0 ln se od co SW LW, uC (xC BC cs tp st ns fx C A S NM BK) p' κ q x).2 2 = 4 from zne (b := 4) κ4 (by omega) (by omega)), blm_C, nb_b1]
      rfl
/-- readTexts in the class: the whole of it -/
theorem txs_C {n L e : Nat} {c : Nat → Nat} {BC BR0 : St} (hT0 : atx n L e c BC BR0) {B : St} {sn lu ln se co : Nat} {od : Int32} {SW LW : Nat → Int32} (hsn : sn < 8194) {cs tp st ns : Nat} {fx : Bool} {C A S NM BK : Nat → Int32} (en : Bool) {p q p' κ τ v : Nat} {x : Int32} (hT : TS n L e c BC p q p' κ τ v x) (hp0 : 0 < p) (hlu : lu ≤ p) : ∃ (ys : List (Nat × Nat)) (f p2 q2 p2' κ2 τ2 v2 : Nat) (x2 : Int32), XTr n L e c BC ys p f p2 ∧ ys.length ≤ 32768 ∧ ((f = 1 ∧ ∃ (lu' : Nat) (LW' : Nat → Int32), df_X1_readTexts n (bI en) (qC B sn lu 0 ln se od co SW LW, uC (xC BC cs tp st ns fx C A S NM BK) p' κ q x) = some (qC B sn lu' (nI 1) ln se od co SW LW', uC (xC BC cs tp st ns fx C A S NM BK) p2' κ2 q2 x2)) ∨ (df_X1_readTexts n (bI en) (qC B sn lu 0 ln se od co SW LW, uC (xC BC cs tp st ns fx C A S NM BK) p' κ q x) = some (qC B (sn + 1) (lu + (qtA c e en ys).length) 0 ln se od co (rowU SW sn ln se (nI (lu + (qtA c e en ys).length) - (nI lu)) 6 0 (nI lu) (nI 0)) (ltW LW lu (qtA c e en ys)), uC (xC BC cs tp st ns fx C A S NM BK) p2' κ2 q2 x2) ∧ (f = if τ2 = 0 then 0 else 1) ∧ TS n L e c BC p2 q2 p2' κ2 τ2 v2 x2 ∧ p ≤ p2 ∧ lu + (qtA c e en ys).length ≤ p2)) := by
  obtain ⟨hn, hL, heL, h127, hend, hce, hO, hst, htC, h0, htR, hch⟩ := id hT0
  have h := txc_C hT0 (B := B) (sn := sn) (ln := ln) (se := se) (co := co) (od := od) (SW := SW) hsn (cs := cs) (tp := tp) (st := st) (ns := ns) (fx := fx) (C := C) (A := A) (S := S) (NM := NM) (BK := BK) en (nI lu) 32768 32768 n lu LW p q p' κ τ v x (by omega) (by omega) (by omega) (by omega) hT hlu
  have r : df_X1_readTexts n (bI en) (qC B sn lu 0 ln se od co SW LW, uC (xC BC cs tp st ns fx C A S NM BK) p' κ q x) = df_X1_readTexts_14 n n (bI en) (nI lu) (nI 32768) (qC B sn lu 0 ln se od co SW LW, uC (xC BC cs tp st ns fx C A S NM BK) p' κ q x) := by
    unfold df_X1_readTexts df_X1_readTexts_0
    show nd_let (nI lu) _ = _
    rw [nb_let]
    show nd_o (sO (uC (xC BC cs tp st ns fx C A S NM BK) p' κ q x) 0) 8 _ = _
    rw [uC_o, xC_o0, o8S hO]
    rfl
  rw [r]
  exact h
