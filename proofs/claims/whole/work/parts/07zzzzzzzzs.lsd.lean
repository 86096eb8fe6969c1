/-- behind an expression of a list: a comma or not -/
theorem l47 {n L e : Nat} {c : Nat → Nat} {BC BR0 : St} (hT0 : atx n L e c BC BR0) (Qs : St) (G : Int32 → Int32 → Int32 → Int32 → (St × St) → Option (St × St)) (each first w : Int32) (j : Nat) (hj : j < 65536) {cs tp st ns : Nat} {fx : Bool} {C A S NM BK : Nat → Int32} {p q p' κ τ v : Nat} {x : Int32} (T : TS n L e c BC p q p' κ τ v x) : (¬ τ = 44 → df_X1_readList_47 n G each first (nI j) w (Qs, uC (xC BC cs tp st ns fx C A S NM BK) p' κ q x) = df_X1_readList_78 n each first (nI (j + 1)) (Qs, uC (xC BC cs tp st ns fx C A S NM BK) p' κ q x)) ∧ (τ = 44 → ∃ (qn pn κn τn vn : Nat) (xn : Int32), df_X1_readList_47 n G each first (nI j) w (Qs, uC (xC BC cs tp st ns fx C A S NM BK) p' κ q x) = G each first (nI (j + 1)) (w + Int32.ofInt (-1)) (Qs, uC (xC BC cs tp st ns fx C A S NM BK) pn κn qn xn) ∧ TS n L e c BC p' qn pn κn τn vn xn) := by
  obtain ⟨t1, t2, t3, t4, t5, t6, t7, t8, t9⟩ := id T
  have k6 : κ ≤ 6 := by unfold tkK at t7; omega
  have sg := ts_sg T 44 (by omega)
  have j1 : nI j + Int32.ofInt 1 = nI (j + 1) := by rw [show (Int32.ofInt 1 : Int32) = nI 1 from rfl, nI_add]
  have s := xs_1 (n := n) (B := BC) (cs := cs) (tp := tp) (st := st) (ns := ns) (fx := fx) (C := C) (A := A) (S := S) (NM := NM) (BK := BK) (ap := p') (kd := κ) (fr := q) (nm := x) k6 (44 : Int32)
  constructor
  · intro h
    rw [decide_eq_false (show ¬ (κ = 5 ∧ x = 44) from fun z => h (sg.mp z))] at s
    unfold df_X1_readList_47
    rw [nb_let, j1, s, nb_b2, nb_let]
    exact if_pos rfl
  · intro h
    obtain ⟨qn, pn, κn, τn, vn, xn, n1, n2⟩ := nx_1 hT0 (cs := cs) (tp := tp) (st := st) (ns := ns) (fx := fx) (C := C) (A := A) (S := S) (NM := NM) (BK := BK) p' κ q x t5 (fun i i1 i2 => t2 i (by omega) i2)
    refine ⟨qn, pn, κn, τn, vn, xn, ?_, n2⟩
    rw [decide_eq_true (show κ = 5 ∧ x = 44 from sg.mpr h)] at s
    unfold df_X1_readList_47
    rw [nb_let, j1, s, nb_b2, nb_let, if_neg (show ¬ bI true = 0 by decide), n1, nb_b1, nb_let, nb_let]
theorem lsc_C {n L e : Nat} {c : Nat → Nat} {BC BR0 : St} (hT0 : atx n L e c BC BR0) {B : St} {sn lu ln se co : Nat} {od : Int32} {SW LW : Nat → Int32} (hsn : sn < 8194) (each first : Int32) : ∀ (N : Nat) (j g : Nat) (cs tp st ns : Nat) (fx : Bool) (C A S NM BK : Nat → Int32) (bs ws : Nat → Nat) (p q p' κ τ v : Nat) (x : Int32), e - p < N → N + 2 < g → j + N < 32768 + 1 → TS n L e c BC p q p' κ τ v x → HT L c ns NM BK bs ws → 0 < p → cs ≤ p → 2 * ns ≤ p → ∃ (ys : List (Nat × (Nat → Tp))) (f p2 : Nat) (cs' tp' st' ns' : Nat) (fx' : Bool) (C' A' S' NM' BK' : Nat → Int32) (bs' ws' : Nat → Nat) (q2 p2' κ2 τ2 v2 : Nat) (x2 : Int32), LTr n L e c BC ys p f p2 ∧ ys.length ≤ N ∧ ((f = 1 ∧ df_X1_readList_20 n g each first (nI j) (nI (32768 - j)) (qC B sn lu 0 ln se od co SW LW, uC (xC BC cs tp st ns fx C A S NM BK) p' κ q x) = some (qC B sn lu (nI 1) ln se od co SW LW, uC (xC BC cs' tp' st' ns' fx' C' A' S' NM' BK') p2' κ2 q2 x2)) ∨ (df_X1_readList_20 n g each first (nI j) (nI (32768 - j)) (qC B sn lu 0 ln se od co SW LW, uC (xC BC cs tp st ns fx C A S NM BK) p' κ q x) = some (qC B (sn + 1) lu 0 ln se od co (rowU SW sn ln se (nI (j + ys.length) * each) 5 each first (nI 0)) LW, uC (xC BC cs' tp' st' ns' fx' C' A' S' NM' BK') p2' κ2 q2 x2) ∧ (f = if τ2 = 0 then 0 else 1) ∧ TS n L e c BC p2 q2 p2' κ2 τ2 v2 x2 ∧ p ≤ p2 ∧ PS ns NM bs ws ns' NM' bs' ws' ∧ HT L c ns' NM' BK' bs' ws' ∧ cs' ≤ p2 + 1 ∧ 2 * ns' ≤ p2 + 1 ∧ (∀ i : Nat, i < cs → C' i = C i ∧ A' i = A i) ∧ CDS (sR BC 5) c e ns' bs' ws' C' A' cs ys cs')) := fun N => by
  have he : e ≤ 32768 := by have := hT0.2.1; have := hT0.2.2.1; omega
  have n1 : ¬ (nI 1 : Int32) = 0 := by decide
  induction N with
  | zero => intro j g cs tp st ns fx C A S NM BK bs ws p q p' κ τ v x h1; omega
  | succ N ih =>
    intro j g cs tp st ns fx C A S NM BK bs ws p q p' κ τ v x h1 h2 h3 hT hH hp0 hcs hns
    obtain ⟨g, rfl⟩ : ∃ m : Nat, g = m + 1 := ⟨g - 1, by omega⟩
    obtain ⟨g, rfl⟩ : ∃ m : Nat, g = m + 1 := ⟨g - 1, by omega⟩
    have hpe := hT.1
    obtain ⟨ok, p3, q3, p3', κ3, τ3, v3, x3, m2, P2, ns2, fx2, C2, A2, S2, NM2, BK2, bs2, ws2, tp2, f1, f2, f3, f4, f5, pz, τz, vz, f6⟩ := exs_2 hT0 p q p' κ τ v x cs tp st ns fx C A S NM BK bs ws hT hH hcs hns (by omega)
    have st1 : df_X1_readList_20 n (g + 1 + 1) each first (nI j) (nI (32768 - j)) (qC B sn lu 0 ln se od co SW LW, uC (xC BC cs tp st ns fx C A S NM BK) p' κ q x) = (if 0 ≤ (if ok = true then nI cs else (-1 : Int32)) then df_X1_readList_47 n (df_X1_readList_20 n (g + 1)) each first (nI j) (nI (32768 - j)) (qC B sn lu 0 ln se od co SW LW, uC (xC BC (cs + m2 + 1) tp2 (if ok = true then 5 else 6) ns2 fx2 C2 A2 S2 NM2 BK2) p3' κ3 q3 x3) else df_X1_readList_47 n (df_X1_readList_20 n (g + 1)) each first (nI j) (nI (32768 - j)) (qC B sn lu (nI 1) ln se od co SW LW, uC (xC BC (cs + m2 + 1) tp2 (if ok = true then 5 else 6) ns2 fx2 C2 A2 S2 NM2 BK2) p3' κ3 q3 x3)) := by
      show dF_X1_readList_20 n (df_X1_readList_20 n (g + 1)) each first (nI j) (nI (32768 - j)) (qC B sn lu 0 ln se od co SW LW, uC (xC BC cs tp st ns fx C A S NM BK) p' κ q x) = _
      unfold dF_X1_readList_20
      rw [if_neg (show ¬ nI (32768 - j) < (0 : Int32) from znl (b := 0) (Nat.zero_le _) (by omega)), if_pos (show sI (qC B sn lu 0 ln se od co SW LW, uC (xC BC cs tp st ns fx C A S NM BK) p' κ q x).1 2 = 0 from rfl)]
      show nd_b2 (df_X9_sum n (uC (xC BC cs tp st ns fx C A S NM BK) p' κ q x)) _ = _
      rw [f1, nb_b2, nb_let, blm_C, nb_b1]
      rfl
    cases ok with
    | false =>
      rw [if_neg (show ¬ false = true from Bool.false_ne_true), if_neg (show ¬ (0 : Int32) ≤ -1 by decide)] at st1
      have q20 : ∀ (s2 : St) (k l : Int32), df_X1_readList_20 n (g + 1) each first k l (qC B sn lu (nI 1) ln se od co SW LW, s2) = some (qC B sn lu (nI 1) ln se od co SW LW, s2) := fun s2 k l => by
        show dF_X1_readList_20 n (df_X1_readList_20 n g) each first k l (qC B sn lu (nI 1) ln se od co SW LW, s2) = _
        unfold dF_X1_readList_20
        rw [if_neg (show ¬ sI (qC B sn lu (nI 1) ln se od co SW LW, s2).1 2 = 0 from n1), l78F s2 n1]
        split <;> rfl
      have k47 := l47 hT0 (qC B sn lu (nI 1) ln se od co SW LW) (df_X1_readList_20 n (g + 1)) each first (nI (32768 - j)) j (by omega) (cs := cs + m2 + 1) (tp := tp2) (st := if false = true then 5 else 6) (ns := ns2) (fx := fx2) (C := C2) (A := A2) (S := S2) (NM := NM2) (BK := BK2) f6
      by_cases cm : τz = 44
      · obtain ⟨qn, pn, κn, τn, vn, xn, z1, z2⟩ := k47.2 cm
        exact ⟨[(m2, P2)], 1, p, cs + m2 + 1, tp2, _, ns2, fx2, C2, A2, S2, NM2, BK2, bs2, ws2, qn, pn, κn, 0, 0, xn, ⟨false, p3, f5, Or.inl ⟨rfl, rfl, rfl⟩⟩, by show 1 ≤ N + 1; omega, Or.inl ⟨rfl, st1.trans (z1.trans (q20 _ _ _))⟩⟩
      · exact ⟨[(m2, P2)], 1, p, cs + m2 + 1, tp2, _, ns2, fx2, C2, A2, S2, NM2, BK2, bs2, ws2, q3, p3', κ3, 0, 0, x3, ⟨false, p3, f5, Or.inl ⟨rfl, rfl, rfl⟩⟩, by show 1 ≤ N + 1; omega, Or.inl ⟨rfl, st1.trans ((k47.1 cm).trans (l78F _ n1 _ _ _))⟩⟩
    | true =>
      obtain ⟨T3, u2, u3, u4, u5, u6, u7, u8⟩ := f4 rfl
      rw [if_pos (show true = true from rfl), if_pos (show (0 : Int32) ≤ nI cs from zle (a := 0) (Nat.zero_le _) (by omega))] at st1
      obtain ⟨w1, w2, w3, w4, w5, w6, w7, w8, w9⟩ := id T3
      have k47 := l47 hT0 (qC B sn lu 0 ln se od co SW LW) (df_X1_readList_20 n (g + 1)) each first (nI (32768 - j)) j (by omega) (cs := cs + m2 + 1) (tp := tp2) (st := if true = true then 5 else 6) (ns := ns2) (fx := fx2) (C := C2) (A := A2) (S := S2) (NM := NM2) (BK := BK2) T3
      by_cases cm : τ3 = 44
      · obtain ⟨qn, pn, κn, τn, vn, xn, z1, z2⟩ := k47.2 cm
        have κ5 : κ3 = 5 := ((ts_sg T3 44 (by omega)).mpr cm).1
        have q4 := (w6 (by omega)).2
        have lf : nI (32768 - j) + Int32.ofInt (-1) = nI (32768 - (j + 1)) := by
          have h : nI (32768 - j) + Int32.ofInt (-1) = nI (32768 - j) - nI 1 := by
            rw [Int32.sub_eq_add_neg]
            rfl
          rw [h, pk_sub (by omega), show 32768 - j - 1 = 32768 - (j + 1) by omega]
        rw [lf] at z1
        obtain ⟨ys, f, p2, cs', tp', st', ns', fx', C', A', S', NM', BK', bs', ws', q2, p2', κ2, τ2, v2, x2, a1, a2, a3⟩ := ih (j + 1) (g + 1) (cs + m2 + 1) tp2 (if true = true then 5 else 6) ns2 fx2 C2 A2 S2 NM2 BK2 bs2 ws2 p3' qn pn κn τn vn xn (by omega) (by omega) (by omega) z2 f3 (by omega) (by omega) (by omega)
        refine ⟨(m2, P2) :: ys, f, p2, cs', tp', st', ns', fx', C', A', S', NM', BK', bs', ws', q2, p2', κ2, τ2, v2, x2, ⟨true, p3, f5, Or.inr ⟨rfl, u2, by omega, q3, p3', κ3, τ3, v3, x3, T3, Or.inr ⟨cm, a1⟩⟩⟩, by show ys.length + 1 ≤ N + 1; omega, ?_⟩
        rcases a3 with ⟨b1, b2⟩ | ⟨b1, b2, b3, b4, b5, b6, b7, b8, b9, b10⟩
        · exact Or.inl ⟨b1, st1.trans (z1.trans b2)⟩
        · have lq : j + 1 + ys.length = j + ((m2, P2) :: ys).length := by
            show j + 1 + ys.length = j + (ys.length + 1)
            omega
          rw [lq] at b1
          refine Or.inr ⟨st1.trans (z1.trans b1), b2, b3, by omega, PS_t f2 b5, b6, b7, b8, fun i hi => ?_, CR_k u3 (fun i hi => b9 i (show i < cs + m2 + 1 by omega)) b5, (b9 (cs + m2) (by omega)).1.trans u4, u8, b10⟩
          exact ⟨(b9 i (by omega)).1.trans (u3.1 i hi).1, (b9 i (by omega)).2.trans (u3.1 i hi).2⟩
      · refine ⟨[(m2, P2)], if τ3 = 0 then 0 else 1, p3, cs + m2 + 1, tp2, _, ns2, fx2, C2, A2, S2, NM2, BK2, bs2, ws2, q3, p3', κ3, τ3, v3, x3, ⟨true, p3, f5, Or.inr ⟨rfl, u2, by omega, q3, p3', κ3, τ3, v3, x3, T3, Or.inl ⟨cm, rfl, rfl, rfl⟩⟩⟩, by show 1 ≤ N + 1; omega, Or.inr ⟨st1.trans ((k47.1 cm).trans (l78 _ hsn _ _ _)), rfl, T3, u2, f2, f3, by omega, u7, u3.1, CR_k u3 (fun i _ => ⟨rfl, rfl⟩) (PS_r (NM := NM2)), u4, u8, rfl⟩⟩
