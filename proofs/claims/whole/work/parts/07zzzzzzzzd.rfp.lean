/-- the lowest two bits of an instruction are its name's -/
theorem b3_1 (x y : Int32) : (x ||| y) &&& nI 3 = (x &&& nI 3) ||| (y &&& nI 3) := by (apply gb_ext; apply all32; simp (disch := decide) only [gb_or, gb_and, gb_xor, gb_shl, gb_shr, gb_ush, gb_n, gb_m, gb_hi, Nat.reduceAdd, Nat.reduceSub, Nat.reduceLT, Nat.reduceLeDiff, Nat.testBit, Nat.reduceShiftRight, Nat.reduceBNe, Nat.reduceAnd, Nat.one_and_eq_mod_two, Nat.reduceMod, decide_true, decide_false, Bool.and_true, Bool.true_and, Bool.and_false, Bool.false_and, Bool.or_false, Bool.false_or, Bool.or_true, Bool.true_or, Bool.not_true, Bool.not_false, Bool.xor_true, Bool.xor_false, Bool.true_xor, Bool.false_xor, if_true, if_false, ↓reduceIte, and_self, bne_self_eq_false, Bool.or_self, Bool.and_self, Bool.not_not])
theorem b3_s (v : Int32) (k : Nat) (hk : k = 2 ∨ k = 7 ∨ k = 15 ∨ k = 20) : (v <<< nI k) &&& nI 3 = nI 0 := by
  rcases hk with h | h | h | h <;> subst h <;> (apply gb_ext; apply all32; simp (disch := decide) only [gb_or, gb_and, gb_xor, gb_shl, gb_shr, gb_ush, gb_n, gb_m, gb_hi, Nat.reduceAdd, Nat.reduceSub, Nat.reduceLT, Nat.reduceLeDiff, Nat.testBit, Nat.reduceShiftRight, Nat.reduceBNe, Nat.reduceAnd, Nat.one_and_eq_mod_two, Nat.reduceMod, decide_true, decide_false, Bool.and_true, Bool.true_and, Bool.and_false, Bool.false_and, Bool.or_false, Bool.false_or, Bool.or_true, Bool.true_or, Bool.not_true, Bool.not_false, Bool.xor_true, Bool.xor_false, Bool.true_xor, Bool.false_xor, if_true, if_false, ↓reduceIte, and_self, bne_self_eq_false, Bool.or_self, Bool.and_self, Bool.not_not])
theorem rgb_3 (l r : Nat) : rgb l r &&& nI 3 = nI 0 := by
  unfold rgb
  split
  · exact b3_s _ 15 (by omega)
  · split
    · exact b3_s _ 20 (by omega)
    · split
      · exact b3_s _ 2 (by omega)
      · split
        · exact b3_s _ 2 (by omega)
        · split
          · exact b3_s _ 7 (by omega)
          · exact b3_s _ 7 (by omega)
theorem RGB_3 : ∀ (F rs : List Nat), RGB F rs &&& nI 3 = nI 0 := fun F => by
  induction F with
  | nil => intro rs; show (0 : Int32) &&& nI 3 = nI 0; decide
  | cons l F ih =>
    intro rs
    by_cases y : 97 ≤ l
    · cases rs with
      | nil =>
        rw [show RGB (l :: F) [] = 0 from if_pos y]
        decide
      | cons r rs =>
        rw [show RGB (l :: F) (r :: rs) = rgb l r ||| RGB F rs from if_pos y, b3_1, rgb_3, ih]
        decide
    · rw [show RGB (l :: F) rs = RGB F rs from if_neg y]
      exact ih rs
theorem od_3 {od : Int32} (h : odK od) : od &&& nI 3 = nI 0 := by
  rcases h with h | h | h | h <;> subst h <;> decide
theorem b3_b {k od : Int32} (ho : odK od) (F rs : List Nat) : (k ||| od ||| RGB F rs) &&& 3 = k &&& 3 := by
  show (k ||| od ||| RGB F rs) &&& nI 3 = k &&& nI 3
  rw [b3_1, b3_1, RGB_3, od_3 ho]
  rw [show nI 0 = (0 : Int32) from rfl, or_0, or_0]
theorem byY_Z {y : Nat} {od : Int32} (ho : odK od) (F rs : List Nat) (v : Int32) : byZ (ko_b y ||| od ||| RGB F rs) v = byY y v := by
  unfold byZ byY
  rw [b3_b ho]
theorem byY_l (y : Nat) (v : Int32) : (byY y v).length = if ko_b y &&& 3 = 3 then 4 else 2 := by
  unfold byY
  split <;> rfl
theorem fin_l {n e : Nat} {B : St} {μ : Nat} (hμ : μ = 1 ∨ μ = 2 ∨ μ = 3) {gr : Bool} {PA BY OU : Nat → Int32} {p2 : Nat} {bs : List Int32} {S : St} {ft : Int32} (h : PLO e (pI B 15 (nI μ)) 0 gr PA BY OU p2 ft bs S) : df_X13_statement_326 n S = some S := by
  obtain ⟨m1, m2, m3, m4, m5⟩ := md_n (B := B) hμ
  refine s326 ?_
  by_cases u : ft = 0
  · rw [SR_15 (h.1 u)]; exact m2
  · rw [(FL_f (h.2 u)).2.1]; exact m2
/-- what the reference makes of a plain statement behind its name, from any state -/
def PLR (n L e : Nat) (c : Nat → Nat) (BC : St) (p1 y : Nat) (od : Int32) (f p2 m : Nat) (P : Nat → Tp) (l : Nat) (b : Int32) : Prop := ∀ (B : St) (X : Nat → Nat) (nL cu st ct : Nat) (gr : Bool) (PA BY OU : Nat → Int32) (S : St), RV n L e c BC B X nL cu → PY PA cu st → SR B ct gr PA BY OU 0 p1 S → OKW B (ct + if b &&& 3 = 3 then 4 else 2) → cstS S → (¬ f = 0 → sI B 15 = 0) → ∃ S' : St, df_X13_statement_136 n (nI (sgm y)) od S = df_X13_statement_326 n S' ∧ (¬ f = 0 → FL e B (nI f + 16 * sI B 13) S') ∧ (f = 0 → plnP e B ct gr PA BY OU p2 (VW c X e nL st B) P m l (byZ b) b S')
theorem PLR_P {n L e : Nat} {c : Nat → Nat} {BC : St} {p1 y : Nat} {od : Int32} (hy : y < 128) (ho : odK od) (hp : isPl y) {f p2 : Nat} {rs : List Nat} {m : Nat} {P : Nat → Tp} (hTr : Tr n L e c BC (FRM y) p1 f p2 rs m P) : PLR n L e c BC p1 y od f p2 m P (eL (FRM y)) (ko_b y ||| od ||| RGB (FRM y) rs) := by
  intro B X nL cu st ct gr PA BY OU S hV hY h hw hc h0
  rw [b3_b ho] at hw
  obtain ⟨S2, r1, r2, r3⟩ := pln_R hV hY h hw h0 hc hy od hp hTr
  refine ⟨S2, r1, r2, fun u => ?_⟩
  have := r3 u
  rw [show byZ (ko_b y ||| od ||| RGB (FRM y) rs) = byY y from funext fun v => byY_Z ho _ _ v]
  exact this
/-- plain ones in a later round -/
theorem rfb_P {n L e : Nat} {c : Nat → Nat} {BC BR0 : St} (hT0 : atx n L e c BC BR0) {q p1 κ v1 : Nat} {x : Int32} (T : TS n L e c BC q q p1 κ 1 v1 x) {y : Nat} {od : Int32} (hN : NAr n L c q (p1 - q) y od) {p2 m : Nat} {P : Nat → Tp} {l : Nat} {b : Int32} (hR : PLR n L e c BC p1 y od 0 p2 m P l b) (hp2 : p2 ≤ e) {se : Nat} {X0 : Nat → Nat} {W0 : Nat → Int32} {n0 : Nat} : RFB n L e c BC q se 0 3 4 none X0 W0 n0 (0, b, l, [(m, P)], []) := by
  intro B X nL cu A ct ap μ gr PA BY OU S hV hc hE h14 hP hA hlw hl hb h hμ hw
  have qe : q ≤ e := T.1
  have eL' : e ≤ L := hT0.2.2.1
  have L' : L ≤ 32768 := hT0.2.1
  obtain ⟨m1, m2, m3, m4, m5⟩ := md_n (B := B) hμ
  have hln := hV.2.2.2.2.2.2.2
  obtain ⟨S1, e1, e2, e3⟩ := stm_2 hV.1 hc h (nI μ) T hN
  obtain ⟨S2, r1, r2, r3⟩ := hR _ X nL cu q 0 gr PA BY OU S1 (RV_p15 hV (nI μ)) (⟨A * 2 ^ 17 + q, hP, by omega, by omega⟩ : PY PA cu q) e2 (by rw [Nat.zero_add]; exact hw) e3 (fun u => absurd rfl u)
  obtain ⟨k1, k2⟩ := r3 rfl
  have key : ∀ (a : Int32) (ms dv ok : Bool), PLO e (pI B 15 (nI μ)) 0 gr PA BY OU p2 (wiF (pI B 15 (nI μ)) ms dv ok) (byZ b a) S2 → ∃ S' : St, df_X13_statement n (nI q) (nI μ) S = some S' ∧ (μ = 2 → ¬ vF ms dv ok = 0 → FL e (pI B 15 (nI μ)) (nI (vF ms dv ok) + 16 * sI B 13) S') ∧ ((μ = 2 → vF ms dv ok = 0) → ∃ (ct' p' : Nat) (gr' : Bool), p' ≤ e ∧ ((0 : Nat) = 1 ∨ (0 : Nat) = 2 → gr' = (decide (μ = 1) && sG (0, b, l, [(m, P)], []) (VW c X e nL q B) (sI B 17) (A % 4))) ∧ SR (pI B 15 (nI μ)) ct' gr' PA BY (if μ = 3 then wrL OU (sI B 19).toNatClampNeg (byZ b a) else OU) 0 p' S') := fun a ms dv ok hh => by
    obtain ⟨g1, g2⟩ := plo_l hμ hln hh
    refine ⟨S2, ?_, g1, fun u => ⟨_, p2, gr, hp2, fun z => by omega, g2 u⟩⟩
    rw [e1, r1]
    exact fin_l hμ hh
  by_cases w : l = 0
  · have := k1 w
    have e0 : wiF (pI B 15 (nI μ)) false false true = 0 := by unfold wiF; split <;> rfl
    rw [← e0] at this
    obtain ⟨S', t1, t2, t3⟩ := key _ false false true this
    refine ⟨S', t1, fun u z => absurd ?_ z, fun u => ?_⟩
    · unfold sF
      rw [if_pos rfl, if_pos w]
    · have t3 := t3 (fun _ => rfl)
      rw [show sB (0, b, l, [(m, P)], []) (VW c X e nL q B) (sI B 17) (A % 4) = byZ b b by unfold sB; rw [if_pos rfl, if_pos w]]
      exact t3
  · obtain ⟨z, ms, dv, w1, w2⟩ := k2 w
    obtain ⟨z1, z2, z3⟩ := zmd w1
    obtain ⟨S', t1, t2, t3⟩ := key _ ms dv _ w2
    have eF : sF (0, b, l, [(m, P)], []) (VW c X e nL q B) (sI B 17) (A % 4) = vF ms dv (lfO l (vtO l (sI B 17) z)) := by
      unfold sF
      rw [if_pos rfl, if_neg w, z1, z2, z3]
      rfl
    refine ⟨S', t1, fun u zz => ?_, fun u => ?_⟩
    · rw [eF] at zz ⊢
      exact t2 u zz
    · rw [eF] at u
      have t3 := t3 u
      rw [show sB (0, b, l, [(m, P)], []) (VW c X e nL q B) (sI B 17) (A % 4) = byZ b (b ||| lbO l (vtO l (sI B 17) z)) by unfold sB; rw [if_pos rfl, if_neg w, z1]; rfl]
      exact t3
theorem byZ_l (b v : Int32) : (byZ b v).length = if b &&& 3 = 3 then 4 else 2 := by
  unfold byZ
  split <;> rfl
/-- plain ones as they are read: the reference -/
theorem rdr_P {n L e : Nat} {c : Nat → Nat} {BC B : St} {X : Nat → Nat} {nL cu : Nat} (hV : RV n L e c BC B X nL cu) (hc : cstS B) {ct : Nat} {gr : Bool} {PA BY OU : Nat → Int32} {ap : Nat} {S : St} (h : SR B ct gr PA BY OU 0 ap S) {q p1 κ v1 : Nat} {x : Int32} (T : TS n L e c BC q q p1 κ 1 v1 x) (hY : PY PA cu q) {y : Nat} {od : Int32} (hN : NAr n L c q (p1 - q) y od) {f p2 m : Nat} {P : Nat → Tp} {l : Nat} {b : Int32} (hR : PLR n L e c BC p1 y od f p2 m P l b) : ∃ S' : St, df_X13_statement n (nI q) 0 S = df_X13_statement_326 n S' ∧ (¬ f = 0 → FL e (pI B 15 0) (nI f + 16 * sI B 13) S') ∧ (f = 0 → SR (pI B 15 0) (if b &&& 3 = 3 then 4 else 2) gr PA BY OU 0 p2 S') := by
  obtain ⟨S1, e1, e2, e3⟩ := stm_2 hV.1 hc h 0 T hN
  have ok0 : ∀ k : Nat, OKW (pI B 15 0) k := fun k u => absurd (show (0 : Int32) = 3 from u) (by decide)
  obtain ⟨S2, r1, r2, r3⟩ := hR _ X nL cu q 0 gr PA BY OU S1 (RV_p15 hV 0) hY e2 (ok0 _) e3 (fun _ => rfl)
  refine ⟨S2, e1.trans r1, r2, fun u => ?_⟩
  obtain ⟨k1, k2⟩ := r3 u
  have pt0 : ∀ bs : List Int32, pt (pI B 15 0) 0 OU bs = OU := fun bs => if_neg (show ¬ (0 : Int32) = 3 by decide)
  have w0 : ∀ (ms dv ok : Bool), wiF (pI B 15 0) ms dv ok = 0 := fun ms dv ok => if_neg (show ¬ (0 : Int32) = 2 by decide)
  by_cases w : l = 0
  · have := (k1 w).1 rfl
    rw [pt0, Nat.zero_add, byZ_l] at this
    exact this
  · obtain ⟨z, ms, dv, w1, w2⟩ := k2 w
    have := w2.1 (w0 _ _ _)
    rw [pt0, Nat.zero_add, byZ_l] at this
    exact this
/-- the end of a statement, in both -/
theorem end_R {n L e : Nat} {c : Nat → Nat} {BC B : St} (hT : atx n L e c BC B) (hm : sI B 15 = 0) {ct : Nat} {gr : Bool} {PA BY OU : Nat → Int32} {p : Nat} {S : St} (h : SR B ct gr PA BY OU 0 p S) {q p' κ τ v : Nat} {x : Int32} (T : TS n L e c BC p q p' κ τ v x) : (τ = 0 → ∃ S' : St, df_X13_statement_326 n S = some S' ∧ SR B ct gr PA BY OU 0 p' S') ∧ (¬ τ = 0 → ∃ S' : St, df_X13_statement_326 n S = some S' ∧ FL e B (nI 1 + 16 * sI B 13) S') := by
  have s15 : sI S 15 = 0 := (SR_15 h).trans hm
  refine ⟨fun z => ?_, fun z => ?_⟩
  · obtain ⟨S', e1, e2, _⟩ := ned_y hT h T 0 (by omega) (by omega) z
    refine ⟨S', ?_, e2⟩
    unfold df_X13_statement_326 df_X13_statement_346
    rw [if_pos s15, if_pos (SR_12 h), show df_X13_needs n 0 S = some (1, S') from e1, nb_b2]
  · obtain ⟨S', e1, e2⟩ := ned_n hT h T 0 (by omega) z
    refine ⟨S', ?_, FN_L e2⟩
    unfold df_X13_statement_326 df_X13_statement_346
    rw [if_pos s15, if_pos (SR_12 h), show df_X13_needs n 0 S = some (0, S') from e1, nb_b2]
theorem end_F {n e : Nat} {B : St} {ft : Int32} {S : St} (h : FL e B ft S) (hf : ¬ ft = 0) : df_X13_statement_326 n S = some S := by
  unfold df_X13_statement_326 df_X13_statement_346
  rw [(FL_f h).1, if_neg hf]
  split <;> rfl
theorem ts_0 {n L e : Nat} {c : Nat → Nat} {BC : St} {p q p' κ τ v : Nat} {x : Int32} (T : TS n L e c BC p q p' κ τ v x) : (κ = 0 ↔ τ = 0) ∧ κ ≤ 6 ∧ (κ = 1 ↔ τ = 1) ∧ (τ = 0 → p' = q ∧ (q = e ∨ c q = 35)) := by
  obtain ⟨t1, t2, t3, t4, t5, t6, t7, t8, t9⟩ := T
  by_cases y : κ = 5
  · subst y
    have := tk_5 t7
    omega
  · have h := tk_n t7 y
    unfold tkK at t7
    refine ⟨by omega, by omega, by omega, fun z => ?_⟩
    rcases t7 with w | w | w | w | w | w | w
    · exact ⟨w.2.2.1, w.2.2.2⟩
    all_goals omega
theorem end_C {n : Nat} {B : St} {sn lu ln se co : Nat} {od : Int32} {SW LW : Nat → Int32} {BC : St} {cs tp st ns : Nat} {fx : Bool} {C A S NM BK : Nat → Int32} {p' κ q : Nat} {x : Int32} (hk : κ ≤ 6) : df_X1_readStatement_206 n (qC B sn lu 0 ln se od co SW LW, uC (xC BC cs tp st ns fx C A S NM BK) p' κ q x) = some (qC B sn lu (if κ = 0 then 0 else nI 1) ln se od co SW LW, uC (xC BC cs tp st ns fx C A S NM BK) p' κ q x) := by
  unfold df_X1_readStatement_206 df_X1_readStatement_228
  rw [if_pos (show sI (qC B sn lu 0 ln se od co SW LW, uC (xC BC cs tp st ns fx C A S NM BK) p' κ q x).1 2 = 0 from rfl), blm_C, nb_b1]
  by_cases z : κ = 0
  · rw [if_pos (show sI (qC B sn lu 0 ln se od co SW LW, uC (xC BC cs tp st ns fx C A S NM BK) p' κ q x).2 2 = 0 from congrArg nI z), if_pos z]
  · rw [if_neg (show ¬ sI (qC B sn lu 0 ln se od co SW LW, uC (xC BC cs tp st ns fx C A S NM BK) p' κ q x).2 2 = 0 from zne (b := 0) z (by omega) (by omega)), if_neg z]
    rfl
theorem end_CF {n : Nat} {B : St} {sn lu ln se co : Nat} {ft od : Int32} {SW LW : Nat → Int32} {s2 : St} (h : ¬ ft = 0) : df_X1_readStatement_206 n (qC B sn lu ft ln se od co SW LW, s2) = some (qC B sn lu ft ln se od co SW LW, s2) := by
  unfold df_X1_readStatement_206 df_X1_readStatement_228
  rw [if_neg (show ¬ sI (qC B sn lu ft ln se od co SW LW, s2).1 2 = 0 from h)]
/-- which of the class's methods reads a statement -/
theorem drs_1 (n y : Nat) (hy : y < 128) (s : St × St) (h : tb_0 y = 0) : df_X1_readStatement n y s = nd_b1 (df_X1_readInstruction n y s) (fun (t : St × St) => df_X1_readStatement_206 n t) := by
  unfold df_X1_readStatement df_X1_readStatement_0 df_Jx29ce0_ordinal_8abf5 df_Jx29ce0_ordinal_8abf5_0
  rw [lt_y hy, lt_y hy, nb_b2, show Int32.ofNat y = nI y from rfl, nm_ck hy (by omega), nI_clamp (by omega), h]
  rfl
