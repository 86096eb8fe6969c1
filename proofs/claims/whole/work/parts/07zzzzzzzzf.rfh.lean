/-- jumps and branches in a later round -/
theorem gr_m {B : St} {μ : Nat} (hμ : μ = 1 ∨ μ = 2 ∨ μ = 3) {hop : Bool} {l : Nat} {ms dv : Bool} {off : Int32} : grO (pI B 15 (nI μ)) hop l ms dv off = (decide (μ = 1) && (!ms && (!dv && (decide (l < if hop = true then 1 else 2) && !lfO (hpO hop l) off)))) := by
  obtain ⟨m1, m2, m3, m4, m5⟩ := md_n (B := B) hμ
  unfold grO
  rw [m1, decide_eq_decide.mpr m5]
theorem rfb_H {n L e : Nat} {c : Nat → Nat} {BC BR0 : St} (hT0 : atx n L e c BC BR0) {q p1 κ v1 : Nat} {x : Int32} (T : TS n L e c BC q q p1 κ 1 v1 x) {y : Nat} {od : Int32} (hy : y < 128) (hN : NAr n L c q (p1 - q) y od) {q1 p1' κ1 τ1 w1 : Nat} {x1 : Int32} (T1 : TS n L e c BC p1 q1 p1' κ1 τ1 w1 x1) (hk : shT (sgm y) = 34 ∨ (shT (sgm y) = 8 ∧ ¬ tkG c τ1 q1 p1' < 32)) {p2 m : Nat} {P : Nat → Tp} (R : RX n L e c BC p1 true p2 m P) (hp2 : p2 ≤ e) (b : Int32) (hd : (b >>> ((7 : Int32) &&& 31)) &&& 31 = if shT (sgm y) = 34 then ptT (sgm y) ||| od else 1) {se : Nat} {X0 : Nat → Nat} {W0 : Nat → Int32} {n0 : Nat} : RFB n L e c BC q se 0 1 4 none X0 W0 n0 (1, b, 0, [(m, P)], []) := by
  intro B X nL cu A ct ap μ gr PA BY OU S hV hc hE h14 hP hA hlw hl hb h hμ hw
  have qe : q ≤ e := T.1
  have eL' : e ≤ L := hT0.2.2.1
  have L' : L ≤ 32768 := hT0.2.1
  obtain ⟨m1, m2, m3, m4, m5⟩ := md_n (B := B) hμ
  have hln := hV.2.2.2.2.2.2.2
  obtain ⟨S1, e1, e2, e3⟩ := stm_2 hV.1 hc h (nI μ) T hN
  have go : ∀ (s w : Int32), (s = 34 ∨ ¬ tkG c τ1 q1 p1' < 32) → (b >>> ((7 : Int32) &&& 31)) &&& 31 = (if s = 34 then w else 1) → df_X13_statement_136 n (nI (sgm y)) od S1 = nd_b1 (df_X13_jumps n s w S1) (fun (s : St) => df_X13_statement_326 n s) → ∃ (z : Int32) (ms dv : Bool) (S' : St), df_X13_statement n (nI q) (nI μ) S = some S' ∧ rnF (VW c X e nL q B) P m = ([z], ms, dv) ∧ PLO e (pI B 15 (nI μ)) 0 (grO (pI B 15 (nI μ)) true (A % 4) ms dv (z - sI B 17)) PA BY OU p2 (wiF (pI B 15 (nI μ)) ms dv (lfO (hpO true (A % 4)) (z - sI B 17))) (hopL (A % 4) ((b >>> ((7 : Int32) &&& 31)) &&& 31) (z - sI B 17)) S' := fun s w h1 h2 h3 => by
    obtain ⟨S2, f1, f2⟩ := jms_h (B := pI B 15 (nI μ)) hV.1 e2 T1 s w h1
    obtain ⟨z, ms, dv, S3, g1, g2, g3⟩ := jmp_m (RV_p15 hV (nI μ)) f1 hP hA (by omega) (by rw [m1]; exact m2) (by omega) R (by rw [Nat.zero_add]; exact hw) (if s = 34 then w else 1)
    refine ⟨z, ms, dv, S3, ?_, g2, ?_⟩
    · rw [e1, h3, f2, g1, nb_b1, nb_b1]
      exact fin_l hμ g3
    · rw [h2]
      exact g3
  have key : ∃ (z : Int32) (ms dv : Bool) (S' : St), df_X13_statement n (nI q) (nI μ) S = some S' ∧ rnF (VW c X e nL q B) P m = ([z], ms, dv) ∧ PLO e (pI B 15 (nI μ)) 0 (grO (pI B 15 (nI μ)) true (A % 4) ms dv (z - sI B 17)) PA BY OU p2 (wiF (pI B 15 (nI μ)) ms dv (lfO (hpO true (A % 4)) (z - sI B 17))) (hopL (A % 4) ((b >>> ((7 : Int32) &&& 31)) &&& 31) (z - sI B 17)) S' := by
    rcases hk with hk | hk
    · rw [if_pos hk] at hd
      exact go 34 _ (Or.inl rfl) (by rw [if_pos rfl]; exact hd) (dsp_34 e3 (sgm y) (sgm_l hy) hk od)
    · rw [if_neg (by rw [hk.1]; decide)] at hd
      exact go 8 _ (Or.inr hk.2) (by rw [if_neg (by decide)]; exact hd) (dsp_8 e3 (sgm y) (sgm_l hy) hk.1 od)
  obtain ⟨z, ms, dv, S', k1, k2, k3⟩ := key
  obtain ⟨z1, z2, z3⟩ := zmd k2
  obtain ⟨t1, t2⟩ := plo_l hμ hln k3
  have eF : sF (1, b, 0, [(m, P)], []) (VW c X e nL q B) (sI B 17) (A % 4) = vF ms dv (lfO (hpO true (A % 4)) (z - sI B 17)) := by
    rw [z1, z2, z3]
    rfl
  have eB : sB (1, b, 0, [(m, P)], []) (VW c X e nL q B) (sI B 17) (A % 4) = hopL (A % 4) ((b >>> ((7 : Int32) &&& 31)) &&& 31) (z - sI B 17) := by
    rw [z1]
    rfl
  have grE : grO (pI B 15 (nI μ)) true (A % 4) ms dv (z - sI B 17) = (decide (μ = 1) && sG (1, b, 0, [(m, P)], []) (VW c X e nL q B) (sI B 17) (A % 4)) := by
    rw [gr_m hμ]
    unfold sG
    rw [z1, z2, z3, show offO (A % 4) (zV (VW c X e nL q B) (dQ (1, b, 0, [(m, P)], [])) (dN (1, b, 0, [(m, P)], [])) - sI B 17) = zV (VW c X e nL q B) P m - sI B 17 from if_neg (by omega)]
    rfl
  refine ⟨S', k1, fun u w => ?_, fun u => ?_⟩
  · rw [eF] at w ⊢
    exact t1 u w
  · rw [eF] at u
    rw [eB]
    exact ⟨_, p2, _, hp2, fun _ => grE, t2 u⟩
theorem bx_2 (w x y : Int32) : (w ^^^ nI 4096) ||| (x <<< nI 15 ||| y <<< nI 20) = (w ||| (x <<< nI 15 ||| y <<< nI 20)) ^^^ nI 4096 := by (apply gb_ext; apply all32; simp (disch := decide) only [gb_or, gb_and, gb_xor, gb_shl, gb_shr, gb_ush, gb_n, gb_m, gb_hi, Nat.reduceAdd, Nat.reduceSub, Nat.reduceLT, Nat.reduceLeDiff, Nat.testBit, Nat.reduceShiftRight, Nat.reduceBNe, Nat.reduceAnd, Nat.one_and_eq_mod_two, Nat.reduceMod, decide_true, decide_false, Bool.and_true, Bool.true_and, Bool.and_false, Bool.false_and, Bool.or_false, Bool.false_or, Bool.or_true, Bool.true_or, Bool.not_true, Bool.not_false, Bool.xor_true, Bool.xor_false, Bool.true_xor, Bool.false_xor, if_true, if_false, ↓reduceIte, and_self, bne_self_eq_false, Bool.or_self, Bool.and_self, Bool.not_not])
theorem bx_0 : ∀ r : Fin 16, 8 ≤ r.1 → ∀ f : Fin 2, (1 ||| (if ((nI (99 + 4096 * f.1)) >>> ((12 : Int32) &&& 31)) &&& 7 = 0 then (6 : Int32) else 7) <<< ((13 : Int32) &&& 31)) ||| ((nI r.1 - 8) &&& 7) <<< ((7 : Int32) &&& 31) = (49153 ||| ((nI (99 + 4096 * f.1) ||| (nI r.1 <<< ((15 : Int32) &&& 31) ||| nI 0 <<< ((20 : Int32) &&& 31))) &&& 4096) <<< ((1 : Int32) &&& 31)) ||| ((((nI (99 + 4096 * f.1) ||| (nI r.1 <<< ((15 : Int32) &&& 31) ||| nI 0 <<< ((20 : Int32) &&& 31))) >>> ((15 : Int32) &&& 31)) &&& 31) &&& 7) <<< ((7 : Int32) &&& 31) := by decide +kernel
/-- the branches: shape, form, bits -/
theorem bt_1 : ∀ y : Fin 128, (shT (sgm y.1) = 7 ∨ shT (sgm y.1) = 35 ∨ shT (sgm y.1) = 36 ∨ shT (sgm y.1) = 37) → ptT (sgm y.1) = ko_b y.1 ∧ ko_s y.1 &&& 8 = 0 ∧ ¬ ko_s y.1 &&& 2 = 0 ∧ ko_s y.1 &&& 32 = 0 ∧ tb_0 y.1 = 0 := by decide +kernel
theorem bt_2 : ∀ y : Fin 128, (shT (sgm y.1) = 7 → FRM y.1 = [97, 44, 98, 44, 84]) ∧ (shT (sgm y.1) = 37 → FRM y.1 = [98, 44, 97, 44, 84]) ∧ (shT (sgm y.1) = 35 → FRM y.1 = [97, 44, 84]) ∧ (shT (sgm y.1) = 36 → FRM y.1 = [98, 44, 84]) := by decide +kernel
theorem bt_3 : ∀ y : Fin 128, (¬ ko_s y.1 &&& 4 = 0 ↔ (shT (sgm y.1) = 35 ∧ ¬ 2 ≤ (ko_b y.1 >>> ((12 : Int32) &&& 31)) &&& 7)) := by decide +kernel
theorem bt_4 : ∀ y : Fin 128, (shT (sgm y.1) = 35 ∧ ¬ 2 ≤ (ko_b y.1 >>> ((12 : Int32) &&& 31)) &&& 7) → (ko_b y.1 = nI 99 ∨ ko_b y.1 = nI 4195) := by decide +kernel
theorem brn_e {w : Int32} {s r r' : Nat} {l : Nat} (v : Int32) (h0 : l = 0 → s = 35 ∧ 8 ≤ r ∧ r ≤ 15 ∧ (w = nI 99 ∨ w = nI 4195) ∧ r' = 0) : brnL l w (brX s r r').1 (brX s r r').2 v = brnC l (w ||| ((brX s r r').1 <<< ((15 : Int32) &&& 31) ||| (brX s r r').2 <<< ((20 : Int32) &&& 31))) v := by
  unfold brnL brnC
  by_cases y : l = 0
  · obtain ⟨a1, a2, a3, a4, a5⟩ := h0 y
    subst a1 a5
    rw [if_pos y, if_pos y, show brX 35 r 0 = (nI r, nI 0) from rfl]
    have k := bx_0 ⟨r, by omega⟩ a2
    congr 2
    rcases a4 with w1 | w1 <;> subst w1
    · exact k 0
    · exact k 1
  · rw [if_neg y, if_neg y]
    by_cases z : l = 1
    · rw [if_pos z, if_pos z]
    · rw [if_neg z, if_neg z]
      congr 2
      congr 1
      exact bx_2 w _ _
/-- both registers of a branch in its bits -/
theorem rgb_br {s r r' : Nat} : ((s = 7 → RGB [97, 44, 98, 44, 84] [r, r'] = (brX s r r').1 <<< ((15 : Int32) &&& 31) ||| (brX s r r').2 <<< ((20 : Int32) &&& 31)) ∧ (s = 37 → RGB [98, 44, 97, 44, 84] [r, r'] = (brX s r r').1 <<< ((15 : Int32) &&& 31) ||| (brX s r r').2 <<< ((20 : Int32) &&& 31)) ∧ (s = 35 → RGB [97, 44, 84] [r] = (brX s r 0).1 <<< ((15 : Int32) &&& 31) ||| (brX s r 0).2 <<< ((20 : Int32) &&& 31)) ∧ (s = 36 → RGB [98, 44, 84] [r] = (brX s r 0).1 <<< ((15 : Int32) &&& 31) ||| (brX s r 0).2 <<< ((20 : Int32) &&& 31))) := by
  refine ⟨fun h => ?_, fun h => ?_, fun h => ?_, fun h => ?_⟩ <;> subst h
  · show nI r <<< ((15 : Int32) &&& 31) ||| (nI r' <<< ((20 : Int32) &&& 31) ||| 0) = nI r <<< ((15 : Int32) &&& 31) ||| nI r' <<< ((20 : Int32) &&& 31)
    rw [or_0]
  · show nI r <<< ((20 : Int32) &&& 31) ||| (nI r' <<< ((15 : Int32) &&& 31) ||| 0) = nI r' <<< ((15 : Int32) &&& 31) ||| nI r <<< ((20 : Int32) &&& 31)
    rw [or_0, Int32.or_comm]
  · show nI r <<< ((15 : Int32) &&& 31) ||| 0 = nI r <<< ((15 : Int32) &&& 31) ||| nI 0 <<< ((20 : Int32) &&& 31)
    rw [show nI 0 <<< ((20 : Int32) &&& 31) = (0 : Int32) by decide]
  · show nI r <<< ((20 : Int32) &&& 31) ||| 0 = nI 0 <<< ((15 : Int32) &&& 31) ||| nI r <<< ((20 : Int32) &&& 31)
    rw [show nI 0 <<< ((15 : Int32) &&& 31) = (0 : Int32) by decide, or_0, Int32.or_comm, or_0]
/-- all branches at once: what branches() does with a form that was read -/
def brS (y : Nat) : Nat := (shT (sgm y)).toNatClampNeg
theorem brA_1 {n L e : Nat} {c : Nat → Nat} {BC B : St} {X : Nat → Nat} {nL st cu : Nat} (hV : RV n L e c BC B X nL cu) {ct : Nat} {gr : Bool} {PA BY OU : Nat → Int32} (hY : PY PA cu st) {p : Nat} {S : St} (h : SR B ct gr PA BY OU 0 p S) (hc : cstS S) {f p2 : Nat} {rs : List Nat} {m : Nat} {P : Nat → Tp} (h0 : ¬ f = 0 → sI B 15 = 0) (y : Nat) (hy : y < 128) (hs : shT (sgm y) = 7 ∨ shT (sgm y) = 35 ∨ shT (sgm y) = 36 ∨ shT (sgm y) = 37) (hTr : Tr n L e c BC (FRM y) p f p2 rs m P) : (¬ f = 0 → ∃ S' : St, df_X13_statement_136 n (nI (sgm y)) 0 S = df_X13_statement_326 n S' ∧ FL e B (nI f + 16 * sI B 13) S') ∧ (f = 0 → ∃ (s r r' : Nat) (Sk : St) (px : Nat), shT (sgm y) = nI s ∧ (s = 7 ∨ s = 35 ∨ s = 36 ∨ s = 37) ∧ r < 32 ∧ rs.headD 0 = r ∧ (s = 35 → r' = 0) ∧ RGB (FRM y) rs = (brX s r r').1 <<< ((15 : Int32) &&& 31) ||| (brX s r r').2 <<< ((20 : Int32) &&& 31) ∧ SR B ct gr PA BY OU 0 px Sk ∧ RX n L e c BC px true p2 m P ∧ p2 ≤ e ∧ df_X13_statement_136 n (nI (sgm y)) 0 S = nd_b1 (df_X13_branch n (ko_b y) (brX s r r').1 (brX s r r').2 (bI (teO s (ko_b y) r)) Sk) (fun (s : St) => df_X13_statement_326 n s)) := by
  have b1 := (bt_1 ⟨y, hy⟩ hs).1
  obtain ⟨b3, b4, b5, b6⟩ := bt_2 ⟨y, hy⟩
  have b1 : ptT (sgm y) = ko_b y := b1
  have o0 : ko_b y ||| 0 = ko_b y := or_0 _
  have run : ∀ s : Nat, df_X13_statement_136 n (nI (sgm y)) 0 S = nd_b1 (df_X13_branches n (nI s) (ko_b y) S) (fun (s : St) => df_X13_statement_326 n s) → (¬ f = 0 → ∃ S' : St, df_X13_branches n (nI s) (ko_b y) S = some S' ∧ FL e B (nI f + 16 * sI B 13) S') → (¬ f = 0 → ∃ S' : St, df_X13_statement_136 n (nI (sgm y)) 0 S = df_X13_statement_326 n S' ∧ FL e B (nI f + 16 * sI B 13) S') := fun s d r u => by
    obtain ⟨S', k1, k2⟩ := r u
    exact ⟨S', by rw [d, k1, nb_b1], k2⟩
  rcases hs with hs | hs | hs | hs
  · have d := dsp_7 (n := n) hc (sgm y) (sgm_l hy) hs 0
    rw [b1, o0] at d
    have F : FRM y = [97, 44, 98, 44, 84] := b3 hs
    rw [F] at hTr ⊢
    obtain ⟨r1, r2⟩ := brs_2 hV hY h (ko_b y) h0 7 97 98 (Or.inl rfl) (Or.inl rfl) (Or.inr rfl) hTr
    refine ⟨run 7 d r1, fun u => ?_⟩
    obtain ⟨r, r', Sk, px, k1, k2, k3, k4, k5, k6, k7⟩ := r2 u
    refine ⟨7, r, r', Sk, px, hs, Or.inl rfl, k2, by rw [k1]; rfl, fun z => absurd z (by decide), by rw [k1]; exact rgb_br.1 rfl, k4, k5, k6, ?_⟩
    rw [d, show df_X13_branches n 7 (ko_b y) S = _ from k7]
    cases df_X13_branch n (ko_b y) (brX 7 r r').1 (brX 7 r r').2 (bI (teO 7 (ko_b y) r)) Sk <;> rfl
  · have d := dsp_35 (n := n) hc (sgm y) (sgm_l hy) hs 0
    rw [b1, o0] at d
    have F : FRM y = [97, 44, 84] := b5 hs
    rw [F] at hTr ⊢
    obtain ⟨r1, r2⟩ := brs_1 hV hY h (ko_b y) h0 35 97 (Or.inl rfl) (Or.inl rfl) hTr
    refine ⟨run 35 d r1, fun u => ?_⟩
    obtain ⟨r, Sk, px, k1, k2, k4, k5, k6, k7⟩ := r2 u
    refine ⟨35, r, 0, Sk, px, hs, Or.inr (Or.inl rfl), k2, by rw [k1]; rfl, fun z => rfl, by rw [k1]; exact (rgb_br (s := 35) (r := r) (r' := 0)).2.2.1 rfl, k4, k5, k6, ?_⟩
    rw [d, show df_X13_branches n 35 (ko_b y) S = _ from k7]
    cases df_X13_branch n (ko_b y) (brX 35 r 0).1 (brX 35 r 0).2 (bI (teO 35 (ko_b y) r)) Sk <;> rfl
  · have d := dsp_36 (n := n) hc (sgm y) (sgm_l hy) hs 0
    rw [b1, o0] at d
    have F : FRM y = [98, 44, 84] := b6 hs
    rw [F] at hTr ⊢
    obtain ⟨r1, r2⟩ := brs_1 hV hY h (ko_b y) h0 36 98 (Or.inr rfl) (Or.inr rfl) hTr
    refine ⟨run 36 d r1, fun u => ?_⟩
    obtain ⟨r, Sk, px, k1, k2, k4, k5, k6, k7⟩ := r2 u
    refine ⟨36, r, 0, Sk, px, hs, Or.inr (Or.inr (Or.inl rfl)), k2, by rw [k1]; rfl, fun z => absurd z (by decide), by rw [k1]; exact (rgb_br (s := 36) (r := r) (r' := 0)).2.2.2 rfl, k4, k5, k6, ?_⟩
    rw [d, show df_X13_branches n 36 (ko_b y) S = _ from k7]
    cases df_X13_branch n (ko_b y) (brX 36 r 0).1 (brX 36 r 0).2 (bI (teO 36 (ko_b y) r)) Sk <;> rfl
  · have d := dsp_37 (n := n) hc (sgm y) (sgm_l hy) hs 0
    rw [b1, o0] at d
    have F : FRM y = [98, 44, 97, 44, 84] := b4 hs
    rw [F] at hTr ⊢
    obtain ⟨r1, r2⟩ := brs_2 hV hY h (ko_b y) h0 37 98 97 (Or.inr rfl) (Or.inr rfl) (Or.inl rfl) hTr
    refine ⟨run 37 d r1, fun u => ?_⟩
    obtain ⟨r, r', Sk, px, k1, k2, k3, k4, k5, k6, k7⟩ := r2 u
    refine ⟨37, r, r', Sk, px, hs, Or.inr (Or.inr (Or.inr rfl)), k2, by rw [k1]; rfl, fun z => absurd z (by decide), by rw [k1]; exact rgb_br.2.1 rfl, k4, k5, k6, ?_⟩
    rw [d, show df_X13_branches n 37 (ko_b y) S = _ from k7]
    cases df_X13_branch n (ko_b y) (brX 37 r r').1 (brX 37 r r').2 (bI (teO 37 (ko_b y) r)) Sk <;> rfl
/-- whether a branch begins short -/
def teY (y : Nat) (rs : List Nat) : Bool := teO (brS y) (ko_b y) (rs.headD 0)
theorem rfb_B {n L e : Nat} {c : Nat → Nat} {BC BR0 : St} (hT0 : atx n L e c BC BR0) {q p1 κ v1 : Nat} {x : Int32} (T : TS n L e c BC q q p1 κ 1 v1 x) {y : Nat} (hy : y < 128) (hN : NAr n L c q (p1 - q) y 0) (hs : shT (sgm y) = 7 ∨ shT (sgm y) = 35 ∨ shT (sgm y) = 36 ∨ shT (sgm y) = 37) {p2 : Nat} {rs : List Nat} {m : Nat} {P : Nat → Tp} (hTr : Tr n L e c BC (FRM y) p1 0 p2 rs m P) {se : Nat} {X0 : Nat → Nat} {W0 : Nat → Int32} {n0 : Nat} : RFB n L e c BC q se (if teY y rs = true then 0 else 1) 2 8 none X0 W0 n0 (2, ko_b y ||| RGB (FRM y) rs, 0, [(m, P)], []) := by
  intro B X nL cu A ct ap μ gr PA BY OU S hV hc hE h14 hP hA hlw hl hb h hμ hw
  have qe : q ≤ e := T.1
  have eL' : e ≤ L := hT0.2.2.1
  have L' : L ≤ 32768 := hT0.2.1
  obtain ⟨m1, m2, m3, m4, m5⟩ := md_n (B := B) hμ
  have hln := hV.2.2.2.2.2.2.2
  obtain ⟨S1, e1, e2, e3⟩ := stm_2 hV.1 hc h (nI μ) T hN
  obtain ⟨_, r2⟩ := brA_1 (RV_p15 hV (nI μ)) (⟨A * 2 ^ 17 + q, hP, by omega, by omega⟩ : PY PA cu q) e2 e3 (fun u => absurd rfl u) y hy hs hTr
  obtain ⟨s, r, r', Sk, px, k1, k2, k3, k4, k5, k6, k7, k8, k9, k10⟩ := r2 rfl
  obtain ⟨z, ms, dv, S3, g1, g2, g3⟩ := brn_m (RV_p15 hV (nI μ)) k7 hP hA (by omega) (by rw [m1]; exact m2) hl k8 (by rw [Nat.zero_add]; exact hw) (ko_b y) (brX s r r').1 (brX s r r').2 (bI (teO s (ko_b y) r))
  have bs : brS y = s := by unfold brS; rw [k1, nI_clamp (by omega)]
  have t0 : A % 4 = 0 → s = 35 ∧ 8 ≤ r ∧ r ≤ 15 ∧ (ko_b y = nI 99 ∨ ko_b y = nI 4195) ∧ r' = 0 := fun u => by
    have te : teY y rs = true := Classical.byContradiction fun v => by rw [if_neg v] at hlw; omega
    unfold teY teO at te
    rw [bs, k4, Bool.and_eq_true, Bool.and_eq_true] at te
    have c1 := of_decide_eq_true te.1
    have c2 : ¬ 2 ≤ (ko_b y >>> ((12 : Int32) &&& 31)) &&& 7 := by
      have := te.2.1
      rw [Bool.not_eq_true', decide_eq_false_iff_not] at this
      exact this
    have c3 := of_decide_eq_true te.2.2
    refine ⟨c1, c3.1, c3.2, bt_4 ⟨y, hy⟩ ⟨?_, c2⟩, k5 c1⟩
    show shT (sgm y) = 35
    rw [k1, c1]
    rfl
  have ew := brn_e (w := ko_b y) (s := s) (r := r) (r' := r') (l := A % 4) (z - sI B 17) t0
  have g3 : PLO e (pI B 15 (nI μ)) 0 (grO (pI B 15 (nI μ)) false (A % 4) ms dv (offO (A % 4) (z - sI B 17))) PA BY OU p2 (wiF (pI B 15 (nI μ)) ms dv (lfO (hpO false (A % 4)) (offO (A % 4) (z - sI B 17)))) (brnL (A % 4) (ko_b y) (brX s r r').1 (brX s r r').2 (z - sI B 17)) S3 := g3
  obtain ⟨z1, z2, z3⟩ := zmd g2
  obtain ⟨t1, t2⟩ := plo_l hμ hln g3
  have eF : sF (2, ko_b y ||| RGB (FRM y) rs, 0, [(m, P)], []) (VW c X e nL q B) (sI B 17) (A % 4) = vF ms dv (lfO (hpO false (A % 4)) (offO (A % 4) (z - sI B 17))) := by
    rw [z1, z2, z3]
    rfl
  have eB : sB (2, ko_b y ||| RGB (FRM y) rs, 0, [(m, P)], []) (VW c X e nL q B) (sI B 17) (A % 4) = brnL (A % 4) (ko_b y) (brX s r r').1 (brX s r r').2 (z - sI B 17) := by
    rw [ew, ← k6, z1]
    rfl
  have grE : grO (pI B 15 (nI μ)) false (A % 4) ms dv (offO (A % 4) (z - sI B 17)) = (decide (μ = 1) && sG (2, ko_b y ||| RGB (FRM y) rs, 0, [(m, P)], []) (VW c X e nL q B) (sI B 17) (A % 4)) := by
    rw [gr_m hμ]
    unfold sG
    rw [z1, z2, z3]
    rfl
  refine ⟨S3, ?_, fun u w => ?_, fun u => ?_⟩
  · rw [e1, k10, g1, nb_b1]
    exact fin_l hμ g3
  · rw [eF] at w ⊢
    exact t1 u w
  · rw [eF] at u
    rw [eB]
    exact ⟨_, p2, _, k9, fun _ => grE, t2 u⟩
