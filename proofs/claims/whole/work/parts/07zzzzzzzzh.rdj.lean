/-- is the next token a register? -/
theorem isr_C {n L e : Nat} {c : Nat → Nat} {BC BR0 : St} (hT0 : atx n L e c BC BR0) {cs tp st ns : Nat} {fx : Bool} {C A S NM BK : Nat → Int32} (s1 : St) {p q p' κ τ v : Nat} {x : Int32} (hT : TS n L e c BC p q p' κ τ v x) : df_X1_isRegister n (s1, uC (xC BC cs tp st ns fx C A S NM BK) p' κ q x) = some (bI (decide (tkG c τ q p' < 32)), (s1, uC (xC BC cs tp st ns fx C A S NM BK) p' κ q x)) := by
  obtain ⟨hn, hL, heL, h127, hend, hce, hO, hst, htC, h0, htR, hch⟩ := id hT0
  have z1 : ∀ (b : Bool) (x : Option (Int32 × (St × St))), nd_z .boolean (bI b) x = x := fun b x => by cases b <;> exact nar_z (by decide)
  have kt := ts_0 hT
  have tw := ts_w hT
  unfold df_X1_isRegister df_X1_isRegister_0 df_X1_isRegister_50 df_X1_isRegister_51
  by_cases y : τ = 1
  · have k1 := kt.2.2.1.mpr y
    obtain ⟨w1, w2, _⟩ := tw y
    have ee := (eT_1 c (show q ≤ e by omega))
    have cr := cr_1 n q (p' - q) (c := c) (B := pR nd_st0 0 (sR (uC (xC BC cs tp st ns fx C A S NM BK) p' κ q x) 7)) (by omega) (by omega) h127 (by omega) (fun i hi => ee.2.2.2 (q + i) (by omega) (by omega)) (fun i hi => htC _ (by omega))
    have g : tkG c τ q p' = reS (p' - q) (c q) (c (q + 1)) (c (q + 2)) (c (q + 3)) := by unfold tkG; rw [if_neg (by omega), if_pos y]
    rw [if_pos (show sI (s1, uC (xC BC cs tp st ns fx C A S NM BK) p' κ q x).2 2 = (1 : Int32) from congrArg nI k1)]
    show nd_o (sO (uC (xC BC cs tp st ns fx C A S NM BK) p' κ q x) 0) 8 (nd_b2 (df_X7_registerAt n (sI (uC (xC BC cs tp st ns fx C A S NM BK) p' κ q x) 3) (sI (uC (xC BC cs tp st ns fx C A S NM BK) p' κ q x) 0 - sI (uC (xC BC cs tp st ns fx C A S NM BK) p' κ q x) 3) (pR nd_st0 0 (sR (uC (xC BC cs tp st ns fx C A S NM BK) p' κ q x) 7))) _) = _
    rw [uC_o, xC_o0, o8S hO, uC_i3, uC_i0, show nI p' - nI q = nI (p' - q) from pk_sub (by omega), cr, nb_b2]
    show nd_let (s1, pR (uC (xC BC cs tp st ns fx C A S NM BK) p' κ q x) 7 (sR (pR nd_st0 0 (sR (uC (xC BC cs tp st ns fx C A S NM BK) p' κ q x) 7)) 0)) _ = _
    rw [show pR (uC (xC BC cs tp st ns fx C A S NM BK) p' κ q x) 7 (sR (pR nd_st0 0 (sR (uC (xC BC cs tp st ns fx C A S NM BK) p' κ q x) 7)) 0) = (uC (xC BC cs tp st ns fx C A S NM BK) p' κ q x) from nm_r0 _ 7, nb_let, g]
    generalize reS (p' - q) (c q) (c (q + 1)) (c (q + 2)) (c (q + 3)) = r
    by_cases z : r < 32
    · rw [show rI r = nI r from if_pos z, if_neg (show ¬ nI r < (0 : Int32) from znl (b := 0) (Nat.zero_le _) (by omega)), decide_eq_true z]
      exact z1 true _
    · rw [show rI r = -1 from if_neg z, if_pos (show (-1 : Int32) < 0 by decide), decide_eq_false z]
      exact z1 false _
  · have k1 : ¬ κ = 1 := fun z => y (kt.2.2.1.mp z)
    have g : ¬ tkG c τ q p' < 32 := by
      unfold tkG
      by_cases z : τ = 0 ∨ τ = 5
      · rw [if_pos z]; omega
      · rw [if_neg z, if_neg y]; omega
    rw [if_neg (show ¬ sI (s1, uC (xC BC cs tp st ns fx C A S NM BK) p' κ q x).2 2 = (1 : Int32) from zne (b := 1) k1 (by omega) (by omega)), decide_eq_false g]
    exact z1 false _
theorem drs_11 (n : Nat) (s : St × St) : df_X1_readStatement n 44 s = nd_b2 (df_X1_isRegister n s) (fun (q57 : Int32) (s58 : St × St) => if q57 = 0 then nd_b1 (df_X1_readInstruction n 103 s58) (fun (t : St × St) => df_X1_readStatement_206 n t) else nd_b1 (df_X1_readInstruction n 44 s58) (fun (t : St × St) => df_X1_readStatement_206 n t)) := by
  unfold df_X1_readStatement df_X1_readStatement_0 df_Jx29ce0_ordinal_8abf5 df_Jx29ce0_ordinal_8abf5_0
  rw [lt_y (by omega), lt_y (by omega), nb_b2, show Int32.ofNat 44 = nI 44 from rfl, nm_ck (by omega) (by omega), nI_clamp (by omega), show tb_0 44 = 11 from rfl]
  rfl
theorem drs_12 (n : Nat) (s : St × St) : df_X1_readStatement n 32 s = nd_b1 (df_X1_readJump n s) (fun (t : St × St) => df_X1_readStatement_206 n t) := by
  unfold df_X1_readStatement df_X1_readStatement_0 df_Jx29ce0_ordinal_8abf5 df_Jx29ce0_ordinal_8abf5_0
  rw [lt_y (by omega), lt_y (by omega), nb_b2, show Int32.ofNat 32 = nI 32 from rfl, nm_ck (by omega) (by omega), nI_clamp (by omega), show tb_0 32 = 12 from rfl]
  rfl
/-- with a fault the class's readers do nothing -/
theorem xpt_F {n : Nat} {B : St} {sn lu ln se co : Nat} {od : Int32} {SW LW : Nat → Int32} {ft : Int32} (s2 : St) (h : ¬ ft = 0) (v : Int32) : df_X1_expect n v (qC B sn lu ft ln se od co SW LW, s2) = some (qC B sn lu ft ln se od co SW LW, s2) := by
  unfold df_X1_expect df_X1_expect_0 df_X1_expect_23 df_X1_expect_37
  rw [if_neg (show ¬ sI (qC B sn lu ft ln se od co SW LW, s2).1 2 = 0 from h), if_neg (show ¬ sI (qC B sn lu ft ln se od co SW LW, s2).1 2 = 0 from h)]
theorem rrg_F {n : Nat} {B : St} {sn lu ln se co : Nat} {od : Int32} {SW LW : Nat → Int32} {ft : Int32} (s2 : St) (h : ¬ ft = 0) (v : Int32) : df_X1_readRegister n v (qC B sn lu ft ln se od co SW LW, s2) = some (0, (qC B sn lu ft ln se od co SW LW, s2)) := by
  unfold df_X1_readRegister df_X1_readRegister_0
  rw [if_neg (show ¬ sI (qC B sn lu ft ln se od co SW LW, s2).1 2 = 0 from h)]
theorem j81_F {n : Nat} {B : St} {sn lu ln se co : Nat} {od : Int32} {SW LW : Nat → Int32} {ft : Int32} (s2 : St) (h : ¬ ft = 0) (x1 x2 : Int32) : df_X1_readJump_81 n x1 x2 (qC B sn lu ft ln se od co SW LW, s2) = some (qC B sn lu ft ln se od co SW LW, s2) := by
  unfold df_X1_readJump_81
  rw [xpt_F s2 h, nb_b1, rrg_F s2 h, nb_b2, nb_let, xpt_F s2 h, nb_b1, add_F s2 h, nb_b1, stl_F s2 h, nb_b1]
theorem blm_CF {n : Nat} {B : St} {sn lu ln se co : Nat} {od : Int32} {SW LW : Nat → Int32} {ft : Int32} (s2 : St) (h : ¬ ft = 0) (v : Int32) : df_X1_blame n v (qC B sn lu ft ln se od co SW LW, s2) = some (qC B sn lu ft ln se od co SW LW, s2) := by
  unfold df_X1_blame df_X1_blame_0 df_X1_blame_12
  rw [if_neg (show ¬ sI (qC B sn lu ft ln se od co SW LW, s2).1 2 = 0 from h)]
theorem j71_F {n : Nat} {B : St} {sn lu ln se co : Nat} {od : Int32} {SW LW : Nat → Int32} {ft : Int32} (s2 : St) (h : ¬ ft = 0) (x1 x2 : Int32) : df_X1_readJump_71 n x1 x2 (qC B sn lu ft ln se od co SW LW, s2) = some (qC B sn lu ft ln se od co SW LW, s2) := by
  unfold df_X1_readJump_71
  rw [blm_CF s2 h, nb_b1, j81_F s2 h]
  split <;> rfl
theorem sh_78 (v : Int32) : (v <<< nI 7) <<< nI 8 = v <<< nI 15 := by (apply gb_ext; apply all32; simp (disch := decide) only [gb_or, gb_and, gb_xor, gb_shl, gb_shr, gb_ush, gb_n, gb_m, gb_hi, Nat.reduceAdd, Nat.reduceSub, Nat.reduceLT, Nat.reduceLeDiff, Nat.testBit, Nat.reduceShiftRight, Nat.reduceBNe, Nat.reduceAnd, Nat.one_and_eq_mod_two, Nat.reduceMod, decide_true, decide_false, Bool.and_true, Bool.true_and, Bool.and_false, Bool.false_and, Bool.or_false, Bool.false_or, Bool.or_true, Bool.true_or, Bool.not_true, Bool.not_false, Bool.xor_true, Bool.xor_false, Bool.true_xor, Bool.false_xor, if_true, if_false, ↓reduceIte, and_self, bne_self_eq_false, Bool.or_self, Bool.and_self, Bool.not_not])
/-- jalr behind its first register, with two operands -/
theorem rdj_2 {n L e : Nat} {c : Nat → Nat} {BC BR0 : St} (hT0 : atx n L e c BC BR0) {B : St} {sn lu ln se co : Nat} {od : Int32} {SW LW : Nat → Int32} (hsn : sn < 8194) (cs tp st ns : Nat) (fx : Bool) (C A S NM BK : Nat → Int32) (bs ws : Nat → Nat) (p q p' κ τ v : Nat) (x : Int32) (hT : TS n L e c BC p q p' κ τ v x) (hH : HT L c ns NM BK bs ws) (hp0 : 0 < p) (hcs : cs ≤ p) (hns : 2 * ns ≤ p) (x1 : Int32) : ∃ (f p2 : Nat) (rs : List Nat) (m : Nat) (P : Nat → Tp) (cs' tp' st' ns' : Nat) (fx' : Bool) (C' A' S' NM' BK' : Nat → Int32) (bs' ws' : Nat → Nat) (q2 p2' κ2 τ2 v2 : Nat) (x2 : Int32), Tr n L e c BC [44, 73, 40, 97, 41] p f p2 rs m P ∧ (f = 0 ∨ f = 1 ∨ f = 3) ∧ (¬ f = 0 → df_X1_readJump_47 n x1 (qC B sn lu 0 ln se od co SW LW, uC (xC BC cs tp st ns fx C A S NM BK) p' κ q x) = some (qC B sn lu (nI f) ln se od co SW LW, uC (xC BC cs' tp' st' ns' fx' C' A' S' NM' BK') p2' κ2 q2 x2)) ∧ (f = 0 → df_X1_readJump_47 n x1 (qC B sn lu 0 ln se od co SW LW, uC (xC BC cs tp st ns fx C A S NM BK) p' κ q x) = some (qC B (sn + 1) lu 0 ln se od co (rowU SW sn ln se 4 0 ((ko_b 32 ||| x1) ||| RGB [44, 73, 40, 97, 41] rs) (nI cs) (nI 73)) LW, uC (xC BC cs' tp' st' ns' fx' C' A' S' NM' BK') p2' κ2 q2 x2) ∧ TS n L e c BC p2 q2 p2' κ2 τ2 v2 x2 ∧ p ≤ p2 ∧ PS ns NM bs ws ns' NM' bs' ws' ∧ HT L c ns' NM' BK' bs' ws' ∧ cs' ≤ p2 + 1 ∧ 2 * ns' ≤ p2 + 1 ∧ cs' = cs + m + 1 ∧ CR (sR BC 5) c e C A cs ns' bs' ws' m P C' A' ∧ C' (cs + m) = 21 ∧ 0 < m) := by
  have he : e ≤ 32768 := by have := hT0.2.1; have := hT0.2.2.1; omega
  have n1 : ¬ (nI 1 : Int32) = 0 := by decide
  have n3 : ¬ (nI 3 : Int32) = 0 := by decide
  have pe : p ≤ p' := by have := hT.2.2.1; have := hT.2.2.2.1; omega
  obtain ⟨y1, y2⟩ := xpt_C hT0 (cs := cs) (tp := tp) (st := st) (ns := ns) (fx := fx) (C := C) (A := A) (S := S) (NM := NM) (BK := BK) (qC B sn lu 0 ln se od co SW LW) qC_i2 44 (by omega) p q p' κ τ v x hT
  by_cases t1 : τ = 44
  rotate_left
  · refine ⟨1, p, [], 0, fun _ => (0, 0, 0), cs, tp, st, ns, fx, C, A, S, NM, BK, bs, ws, q, p', κ, τ, v, x, ⟨q, p', κ, τ, v, x, hT, ?_⟩, Or.inr (Or.inl rfl), fun _ => ?_, fun u => absurd u (by decide)⟩
    · rw [if_pos (by decide)]
      exact Or.inr ⟨t1, rfl⟩
    · unfold df_X1_readJump_47
      rw [show df_X1_expect n 44 (qC B sn lu 0 ln se od co SW LW, uC (xC BC cs tp st ns fx C A S NM BK) p' κ q x) = _ from y2 t1, nb_b1, show pI (qC B sn lu 0 ln se od co SW LW) 2 1 = qC B sn lu (nI 1) ln se od co SW LW from qC_w2, if_neg (show ¬ sI (qC B sn lu (nI 1) ln se od co SW LW, uC (xC BC cs tp st ns fx C A S NM BK) p' κ q x).1 2 = 0 from n1), j71_F _ n1]
  obtain ⟨q3, p3, κ3, τ3, v3, x3, e1, T3⟩ := y1 t1
  have e1 : df_X1_expect n 44 (qC B sn lu 0 ln se od co SW LW, uC (xC BC cs tp st ns fx C A S NM BK) p' κ q x) = some (qC B sn lu 0 ln se od co SW LW, uC (xC BC cs tp st ns fx C A S NM BK) p3 κ3 q3 x3) := e1
  have p1 : p' ≤ p3 := by have := T3.2.2.1; have := T3.2.2.2.1; omega
  obtain ⟨ok, p4, q4, p4', κ4, τ4, v4, x4, m2, P2, ns2, fx2, C2, A2, S2, NM2, BK2, bs2, ws2, tp2, f1, f2, f3, f4, f5⟩ := exs_1 hT0 p' q3 p3 κ3 τ3 v3 x3 cs tp st ns fx C A S NM BK bs ws T3 hH (by omega) (by omega) (by omega)
  have hd : df_X1_readJump_47 n x1 (qC B sn lu 0 ln se od co SW LW, uC (xC BC cs tp st ns fx C A S NM BK) p' κ q x) = df_X1_readJump_71 n x1 (if ok = true then nI cs else -1) (qC B sn lu 0 ln se od co SW LW, uC (xC BC (cs + m2 + 1) tp2 (if ok = true then 5 else 6) ns2 fx2 C2 A2 S2 NM2 BK2) p4' κ4 q4 x4) := by
    unfold df_X1_readJump_47
    rw [e1, nb_b1, if_pos (show sI (qC B sn lu 0 ln se od co SW LW, uC (xC BC cs tp st ns fx C A S NM BK) p3 κ3 q3 x3).1 2 = 0 from rfl)]
    show nd_b2 (df_X9_sum n (uC (xC BC cs tp st ns fx C A S NM BK) p3 κ3 q3 x3)) _ = _
    rw [f1, nb_b2, nb_let]
  cases ok with
  | false =>
    refine ⟨1, p, [], m2, P2, cs + m2 + 1, tp2, 6, ns2, fx2, C2, A2, S2, NM2, BK2, bs2, ws2, q4, p4', κ4, τ4, v4, x4, ⟨q, p', κ, τ, v, x, hT, ?_⟩, Or.inr (Or.inl rfl), fun _ => ?_, fun u => absurd u (by decide)⟩
    · rw [if_pos (by decide)]
      refine Or.inl ⟨t1, q3, p3, κ3, τ3, v3, x3, T3, ?_⟩
      rw [if_neg (by decide), if_neg (by decide)]
      exact ⟨false, p4, f5, Or.inr ⟨rfl, rfl⟩⟩
    · rw [hd, if_neg (show ¬ false = true from Bool.false_ne_true)]
      unfold df_X1_readJump_71
      rw [if_neg (show ¬ (0 : Int32) ≤ -1 by decide), blm_C, nb_b1]
      exact j81_F _ n1 _ _
  | true =>
  obtain ⟨d1, d2, d3, d4, d5, d6, d7, d8⟩ := f4 rfl
  have p4e : p4 ≤ p4' := by have := d1.2.2.1; have := d1.2.2.2.1; omega
  rw [if_pos rfl] at hd
  have hd2 : df_X1_readJump_47 n x1 (qC B sn lu 0 ln se od co SW LW, uC (xC BC cs tp st ns fx C A S NM BK) p' κ q x) = df_X1_readJump_81 n x1 (nI cs) (qC B sn lu 0 ln se od co SW LW, uC (xC BC (cs + m2 + 1) tp2 5 ns2 fx2 C2 A2 S2 NM2 BK2) p4' κ4 q4 x4) := by
    rw [hd]
    unfold df_X1_readJump_71
    rw [if_pos (show (0 : Int32) ≤ nI cs from zle (a := 0) (Nat.zero_le _) (by have := hT.1; omega))]
    rfl
  have trA : ∀ (f p2 : Nat) (rs : List Nat), Tr n L e c BC [40, 97, 41] p4 f p2 rs m2 P2 → Tr n L e c BC [44, 73, 40, 97, 41] p f p2 rs m2 P2 := fun f p2 rs h => by
    refine ⟨q, p', κ, τ, v, x, hT, ?_⟩
    rw [if_pos (by decide)]
    refine Or.inl ⟨t1, q3, p3, κ3, τ3, v3, x3, T3, ?_⟩
    rw [if_neg (by decide), if_neg (by decide)]
    exact ⟨true, p4, f5, Or.inl ⟨rfl, d2, d1.1, h⟩⟩
  obtain ⟨y3, y4⟩ := xpt_C hT0 (cs := cs + m2 + 1) (tp := tp2) (st := 5) (ns := ns2) (fx := fx2) (C := C2) (A := A2) (S := S2) (NM := NM2) (BK := BK2) (qC B sn lu 0 ln se od co SW LW) qC_i2 40 (by omega) p4 q4 p4' κ4 τ4 v4 x4 d1
  by_cases t4 : τ4 = 40
  rotate_left
  · refine ⟨1, p, [], m2, P2, cs + m2 + 1, tp2, 5, ns2, fx2, C2, A2, S2, NM2, BK2, bs2, ws2, q4, p4', κ4, τ4, v4, x4, trA 1 p [] ⟨q4, p4', κ4, τ4, v4, x4, d1, by rw [if_pos (by decide)]; exact Or.inr ⟨t4, rfl⟩⟩, Or.inr (Or.inl rfl), fun _ => ?_, fun u => absurd u (by decide)⟩
    rw [hd2]
    unfold df_X1_readJump_81
    rw [show df_X1_expect n 40 _ = _ from y4 t4, nb_b1, show pI (qC B sn lu 0 ln se od co SW LW) 2 1 = qC B sn lu (nI 1) ln se od co SW LW from qC_w2, rrg_F _ n1, nb_b2, nb_let, xpt_F _ n1, nb_b1, add_F _ n1, nb_b1, stl_F _ n1, nb_b1]
  obtain ⟨q5, p5, κ5, τ5, v5, x5, e5, T5⟩ := y3 t4
  have p5e : p4' ≤ p5 := by have := T5.2.2.1; have := T5.2.2.2.1; omega
  obtain ⟨z1, z2, z3⟩ := rrg_C hT0 (cs := cs + m2 + 1) (tp := tp2) (st := 5) (ns := ns2) (fx := fx2) (C := C2) (A := A2) (S := S2) (NM := NM2) (BK := BK2) (qC B sn lu 0 ln se od co SW LW) qC_i2 (nI 97) (rfit 97) (rgb 97) (fun r hr => rf_C n rfl hr) (fun r hr => rgb_C n rfl r) p4' q5 p5 κ5 τ5 v5 x5 T5
  have trB : ∀ (f p2 : Nat) (rs : List Nat), (∃ (q p' κ τ v : Nat) (x : Int32), TS n L e c BC p4' q p' κ τ v x ∧ (if (97 : Nat) < 65 then (τ = 97 ∧ Tr n L e c BC [41] p' f p2 rs m2 P2) ∨ (¬ τ = 97 ∧ f = 1) else if 97 ≤ 97 then (tkG c τ q p' < 32 ∧ rfit 97 (tkG c τ q p') = true ∧ ∃ rs' : List Nat, rs = tkG c τ q p' :: rs' ∧ Tr n L e c BC [41] p' f p2 rs' m2 P2) ∨ (tkG c τ q p' = 33 ∧ f = 1) ∨ ((tkG c τ q p' = 32 ∨ (tkG c τ q p' < 32 ∧ rfit 97 (tkG c τ q p') = false)) ∧ f = 3) else ∃ (ok : Bool) (px : Nat), RX n L e c BC p4' ok px m2 P2 ∧ ((ok = true ∧ p4' ≤ px ∧ px ≤ e ∧ Tr n L e c BC [41] px f p2 rs m2 P2) ∨ (ok = false ∧ f = 1)))) → Tr n L e c BC [40, 97, 41] p4 f p2 rs m2 P2 := fun f p2 rs h => by
    refine ⟨q4, p4', κ4, τ4, v4, x4, d1, ?_⟩
    rw [if_pos (by decide)]
    exact Or.inl ⟨t4, h⟩
  have hd3 : ∀ (r : Int32) (s : St × St), df_X1_readRegister n 97 (qC B sn lu 0 ln se od co SW LW, uC (xC BC (cs + m2 + 1) tp2 5 ns2 fx2 C2 A2 S2 NM2 BK2) p5 κ5 q5 x5) = some (r, s) → df_X1_readJump_47 n x1 (qC B sn lu 0 ln se od co SW LW, uC (xC BC cs tp st ns fx C A S NM BK) p' κ q x) = nd_b1 (df_X1_expect n 41 s) (fun (s19 : St × St) => nd_b1 (df_X1_add n 0 4 ((ko_b 32 ||| x1) ||| r) (nI cs) s19) (fun (s22 : St × St) => nd_b1 (df_X1_setLetter n 73 s22) (fun (s25 : St × St) => some s25))) := fun r s hr => by
    rw [hd2]
    unfold df_X1_readJump_81
    rw [show df_X1_expect n 40 _ = _ from e5, nb_b1, hr, nb_b2, nb_let]
  have tg5 := tkG_l (c := c) (τ := τ5) (q := q5) (p := p5)
  by_cases g5 : tkG c τ5 q5 p5 < 32
  rotate_left
  · have fin : ∀ f : Nat, (f = 1 ∨ f = 3) → df_X1_readRegister n (nI 97) (qC B sn lu 0 ln se od co SW LW, uC (xC BC (cs + m2 + 1) tp2 5 ns2 fx2 C2 A2 S2 NM2 BK2) p5 κ5 q5 x5) = some (0, (pI (qC B sn lu 0 ln se od co SW LW) 2 (nI f), uC (xC BC (cs + m2 + 1) tp2 5 ns2 fx2 C2 A2 S2 NM2 BK2) p5 κ5 q5 x5)) → df_X1_readJump_47 n x1 (qC B sn lu 0 ln se od co SW LW, uC (xC BC cs tp st ns fx C A S NM BK) p' κ q x) = some (qC B sn lu (nI f) ln se od co SW LW, uC (xC BC (cs + m2 + 1) tp2 5 ns2 fx2 C2 A2 S2 NM2 BK2) p5 κ5 q5 x5) := fun f hf hr => by
      have nf : ¬ (nI f : Int32) = 0 := by rcases hf with u | u <;> subst u <;> decide
      rw [hd3 _ _ hr, qC_w2, xpt_F _ nf, nb_b1, add_F _ nf, nb_b1, stl_F _ nf, nb_b1]
    by_cases g6 : tkG c τ5 q5 p5 = 33
    · exact ⟨1, p, [], m2, P2, cs + m2 + 1, tp2, 5, ns2, fx2, C2, A2, S2, NM2, BK2, bs2, ws2, q5, p5, κ5, τ5, v5, x5, trA 1 p [] (trB 1 p [] ⟨q5, p5, κ5, τ5, v5, x5, T5, by rw [if_neg (by decide), if_pos (by decide)]; exact Or.inr (Or.inl ⟨g6, rfl⟩)⟩), Or.inr (Or.inl rfl), fun _ => fin 1 (Or.inl rfl) (z1 g6), fun u => absurd u (by decide)⟩
    · have g7 : tkG c τ5 q5 p5 = 32 := by omega
      exact ⟨3, p, [], m2, P2, cs + m2 + 1, tp2, 5, ns2, fx2, C2, A2, S2, NM2, BK2, bs2, ws2, q5, p5, κ5, τ5, v5, x5, trA 3 p [] (trB 3 p [] ⟨q5, p5, κ5, τ5, v5, x5, T5, by rw [if_neg (by decide), if_pos (by decide)]; exact Or.inr (Or.inr ⟨Or.inl g7, rfl⟩)⟩), Or.inr (Or.inr rfl), fun _ => fin 3 (Or.inr rfl) (z2 (Or.inl g7)), fun u => absurd u (by decide)⟩
  obtain ⟨q6, p6, κ6, τ6, v6, x6, e6, T6⟩ := z3 ⟨g5, rfl⟩
  have e6 : df_X1_readRegister n 97 (qC B sn lu 0 ln se od co SW LW, uC (xC BC (cs + m2 + 1) tp2 5 ns2 fx2 C2 A2 S2 NM2 BK2) p5 κ5 q5 x5) = some (rgb 97 (tkG c τ5 q5 p5), (qC B sn lu 0 ln se od co SW LW, uC (xC BC (cs + m2 + 1) tp2 5 ns2 fx2 C2 A2 S2 NM2 BK2) p6 κ6 q6 x6)) := e6
  have hd4 := hd3 _ _ e6
  have p6e : p5 ≤ p6 := by have := T6.2.2.1; have := T6.2.2.2.1; omega
  have trC : ∀ (f p2 : Nat), Tr n L e c BC [41] p5 f p2 [] m2 P2 → Tr n L e c BC [44, 73, 40, 97, 41] p f p2 [tkG c τ5 q5 p5] m2 P2 := fun f p2 h => trA f p2 _ (trB f p2 _ ⟨q5, p5, κ5, τ5, v5, x5, T5, by rw [if_neg (by decide), if_pos (by decide)]; exact Or.inl ⟨g5, rfl, [], rfl, h⟩⟩)
  obtain ⟨y7, y8⟩ := xpt_C hT0 (cs := cs + m2 + 1) (tp := tp2) (st := 5) (ns := ns2) (fx := fx2) (C := C2) (A := A2) (S := S2) (NM := NM2) (BK := BK2) (qC B sn lu 0 ln se od co SW LW) qC_i2 41 (by omega) p5 q6 p6 κ6 τ6 v6 x6 T6
  by_cases t6 : τ6 = 41
  rotate_left
  · refine ⟨1, p, [tkG c τ5 q5 p5], m2, P2, cs + m2 + 1, tp2, 5, ns2, fx2, C2, A2, S2, NM2, BK2, bs2, ws2, q6, p6, κ6, τ6, v6, x6, trC 1 p ⟨q6, p6, κ6, τ6, v6, x6, T6, by rw [if_pos (by decide)]; exact Or.inr ⟨t6, rfl⟩⟩, Or.inr (Or.inl rfl), fun _ => ?_, fun u => absurd u (by decide)⟩
    rw [hd4, show df_X1_expect n 41 _ = _ from y8 t6, nb_b1, show pI (qC B sn lu 0 ln se od co SW LW) 2 1 = qC B sn lu (nI 1) ln se od co SW LW from qC_w2, add_F _ n1, nb_b1, stl_F _ n1, nb_b1]
  obtain ⟨q7, p7, κ7, τ7, v7, x7, e7, T7⟩ := y7 t6
  refine ⟨0, p6, [tkG c τ5 q5 p5], m2, P2, cs + m2 + 1, tp2, 5, ns2, fx2, C2, A2, S2, NM2, BK2, bs2, ws2, q7, p7, κ7, τ7, v7, x7, trC 0 p6 ⟨q6, p6, κ6, τ6, v6, x6, T6, by rw [if_pos (by decide)]; exact Or.inl ⟨t6, rfl, rfl, rfl⟩⟩, Or.inl rfl, fun u => absurd rfl u, fun _ => ⟨?_, T7, by omega, f2, f3, by omega, by omega, rfl, d3, d4, d8⟩⟩
  rw [hd4, show df_X1_expect n 41 _ = _ from e7, nb_b1, add_C _ hsn, nb_b1, stl_C _ hsn, nb_b1]
  rw [show RGB [44, 73, 40, 97, 41] [tkG c τ5 q5 p5] = rgb 97 (tkG c τ5 q5 p5) ||| 0 from rfl, or_0]
  rfl
