/-- a line's labels: how it may end -/
def LJF (e : Nat) (B : St) (ln : Nat) (rC : Option (Option Nat × (St × St))) (rR : Option (Int32 × St)) : Prop := ∃ (f : Nat) (Q' U' S' : St), 1 ≤ f ∧ f ≤ 15 ∧ rC = some (none, (Q', U')) ∧ sI Q' 2 = nI f ∧ sI Q' 3 = nI ln ∧ rR = some (0, S') ∧ FG e B (nI f + 16 * sI B 13) S'
def GRW (X : Nat → Nat) (nL : Nat) (W : Nat → Int32) (ns : Nat) (bs ws sc : Nat → Nat) (p sn : Nat) (X' : Nat → Nat) (nL' : Nat) (W' : Nat → Int32) (ns' : Nat) (bs' ws' sc' : Nat → Nat) : Prop := nL ≤ nL' ∧ (∀ k : Nat, k < nL → X' k = X k ∧ W' k = W k ∧ sc' k = sc k) ∧ (∀ k : Nat, nL ≤ k → k < nL' → sc' k = sn ∧ p ≤ X' k % 131072 ∧ ¬ X' k / 131072 = 2) ∧ ns ≤ ns' ∧ ∀ i : Nat, i < ns → bs' i = bs i ∧ ws' i = ws i
theorem GRW_r {X : Nat → Nat} {nL : Nat} {W : Nat → Int32} {ns : Nat} {bs ws sc : Nat → Nat} {p sn : Nat} : GRW X nL W ns bs ws sc p sn X nL W ns bs ws sc := ⟨Nat.le_refl _, fun _ _ => ⟨rfl, rfl, rfl⟩, fun k h1 h2 => by omega, Nat.le_refl _, fun _ _ => ⟨rfl, rfl⟩⟩
theorem GRW_t {X X1 X2 : Nat → Nat} {nL nL1 nL2 : Nat} {W W1 W2 : Nat → Int32} {ns ns1 ns2 : Nat} {bs ws sc bs1 ws1 sc1 bs2 ws2 sc2 : Nat → Nat} {p p1 sn : Nat} (h : GRW X nL W ns bs ws sc p sn X1 nL1 W1 ns1 bs1 ws1 sc1) (k : GRW X1 nL1 W1 ns1 bs1 ws1 sc1 p1 sn X2 nL2 W2 ns2 bs2 ws2 sc2) (hp : p ≤ p1) : GRW X nL W ns bs ws sc p sn X2 nL2 W2 ns2 bs2 ws2 sc2 := by
  obtain ⟨a1, a2, a3, a4, a5⟩ := h
  obtain ⟨b1, b2, b3, b4, b5⟩ := k
  refine ⟨by omega, fun j hj => ?_, fun j j1 j2 => ?_, by omega, fun i hi => ?_⟩
  · obtain ⟨x1, x2, x3⟩ := a2 j hj
    obtain ⟨y1, y2, y3⟩ := b2 j (by omega)
    exact ⟨y1.trans x1, y2.trans x2, y3.trans x3⟩
  · by_cases z : j < nL1
    · obtain ⟨x1, x2, x3⟩ := a3 j j1 z
      obtain ⟨y1, y2, y3⟩ := b2 j z
      rw [y1, y3]
      exact ⟨x1, x2, x3⟩
    · obtain ⟨x1, x2, x3⟩ := b3 j (by omega) j2
      exact ⟨x1, by omega, x3⟩
  · obtain ⟨x1, x2⟩ := a5 i hi
    obtain ⟨y1, y2⟩ := b5 i (by omega)
    exact ⟨y1.trans x1, y2.trans x2⟩
def LJG (n L e : Nat) (c : Nat → Nat) (B0 Bq : St) (sn lu ln se co : Nat) (od : Int32) (SW LW : Nat → Int32) (cs : Nat) (C A : Nat → Int32) (p : Nat) (X : Nat → Nat) (nL ns : Nat) (bs ws sc : Nat → Nat) (B : St) (ct : Nat) (gr : Bool) (PA BY OU : Nat → Int32) (rC : Option (Option Nat × (St × St))) (rR : Option (Int32 × St)) : Prop := ∃ (X' : Nat → Nat) (nL' : Nat) (B' : St) (ns' : Nat) (NM' BK' : Nat → Int32) (bs' ws' : Nat → Nat) (nl' : Nat) (NR' LB' : Nat → Int32) (sc' : Nat → Nat) (p2 tp st : Nat) (fx : Bool) (Sx : Nat → Int32), GRW X nL (sR B 7) ns bs ws sc p sn X' nL' (sR B' 7) ns' bs' ws' sc' ∧ TBJ L c X' nL' (sR B' 7) ns' NM' BK' bs' ws' nl' NR' LB' sc' p2 ∧ BG B B' ∧ RT0 n L e c (bC B0 e nl' NR' LB') B' X' nL' ∧ p ≤ p2 ∧ p2 ≤ e ∧
  ((∃ (p3 q3 : Nat) (x3 : Int32) (S' : St), p2 ≤ p3 ∧ p3 ≤ e ∧ rC = some (none, ((qC Bq sn lu 0 ln se od co SW LW), uC (xC (bC B0 e nl' NR' LB') cs tp st ns' fx C A Sx NM' BK') p3 0 q3 x3)) ∧ rR = some (0, S') ∧ SR B' ct gr PA BY OU 0 p3 S') ∨
   (∃ (p1 v0 : Nat) (x0 : Int32) (q1 p1' κ1 τ1 v1 : Nat) (x1 : Int32) (S' : St), TS n L e c (bC B0 e nl' NR' LB') p2 p2 p1 1 1 v0 x0 ∧ TS n L e c (bC B0 e nl' NR' LB') p1 q1 p1' κ1 τ1 v1 x1 ∧ rC = nd_b2 (df_X1_statementNamed n (nI p2) (nI (p1 - p2)) (-1) ((qC Bq sn lu 0 ln se od co SW LW), uC (xC (bC B0 e nl' NR' LB') cs tp st ns' fx C A Sx NM' BK') p1' κ1 q1 x1)) (fun (q31 : Option Nat) (s32 : St × St) => nd_m q31 (some (none, s32)) (fun (j34 : Nat) => some (some j34, s32))) ∧ rR = some (1, S') ∧ SR B' ct gr PA BY OU 0 p2 S'))
theorem isg_C {n L e : Nat} {c : Nat → Nat} {BC : St} {cs tp st ns : Nat} {fx : Bool} {C A S NM BK : Nat → Int32} {p q p' κ τ v : Nat} {x : Int32} (T : TS n L e c BC p q p' κ τ v x) : df_X9_isSign n 58 (uC (xC BC cs tp st ns fx C A S NM BK) p' κ q x) = some (bI (decide (τ = 58)), uC (xC BC cs tp st ns fx C A S NM BK) p' κ q x) := by
  rw [xs_1 (ts_0 T).2.1, show decide (κ = 5 ∧ x = 58) = decide (τ = 58) from decide_eq_decide.mpr (ts_sg T 58 (by decide))]
/-- the class: behind a word or a digit -/
theorem rl_107 {n L e : Nat} {c : Nat → Nat} {BC BR0 : St} (hT0 : atx n L e c BC BR0) {cs tp st ns : Nat} {fx : Bool} {C A S NM BK : Nat → Int32} {p q p' κ τ v : Nat} {x : Int32} (T : TS n L e c BC p q p' κ τ v x) (Q : St) (G : Int32 → St × St → Option (Option Nat × (St × St))) (w b l y : Int32) : ∃ (q2 p2 κ2 τ2 v2 : Nat) (x2 : Int32), TS n L e c BC p' q2 p2 κ2 τ2 v2 x2 ∧ df_X1_readLine_107 n G w b l y (Q, uC (xC BC cs tp st ns fx C A S NM BK) p' κ q x) = if τ2 = 58 then nd_b1 (df_X1_readLabel n b l y (Q, uC (xC BC cs tp st ns fx C A S NM BK) p2 κ2 q2 x2)) (fun (s24 : St × St) => nd_b1 (df_X9_next n s24.2) (fun (s27 : St) => G (w + Int32.ofInt (-1)) (s24.1, s27))) else nd_b2 (df_X1_statementNamed n b l y (Q, uC (xC BC cs tp st ns fx C A S NM BK) p2 κ2 q2 x2)) (fun (q31 : Option Nat) (s32 : St × St) => nd_m q31 (some (none, s32)) (fun (j34 : Nat) => some (some j34, s32))) := by
  obtain ⟨q2, p2, κ2, τ2, v2, x2, n1, n2⟩ := nx_1 hT0 (cs := cs) (tp := tp) (st := st) (ns := ns) (fx := fx) (C := C) (A := A) (S := S) (NM := NM) (BK := BK) p' κ q x (ts_le T).2.2 (fun i i1 i2 => T.2.1 i (by have := ts_le T; omega) i2)
  refine ⟨q2, p2, κ2, τ2, v2, x2, n2, ?_⟩
  unfold df_X1_readLine_107
  rw [show df_X9_next n (Q, uC (xC BC cs tp st ns fx C A S NM BK) p' κ q x).2 = _ from n1, nb_b1, nb_let]
  rw [show df_X9_isSign n 58 (Q, uC (xC BC cs tp st ns fx C A S NM BK) p2 κ2 q2 x2).2 = _ from isg_C n2, nb_b2, nb_let]
  by_cases z : τ2 = 58
  · rw [decide_eq_true z, if_neg (show ¬ bI true = 0 by decide), if_pos z]
    rfl
  · rw [decide_eq_false z, if_pos (show bI false = 0 from rfl), if_neg z]
/-- the class: its turn at a token -/
theorem rl_13 {n : Nat} (Q U : St) (hQ : sI Q 2 = 0) (G : Int32 → St × St → Option (Option Nat × (St × St))) (w : Nat) (hw : w < 2 ^ 31) {κ q p' : Nat} (h2 : sI U 2 = nI κ) (h3 : sI U 3 = nI q) (h0 : sI U 0 = nI p') (hqp : q ≤ p') (hp' : p' < 2 ^ 31) (hk : κ ≤ 6) : dF_X1_readLine_13 n G (nI w) (Q, U) = if κ = 0 then some (none, (Q, U)) else if κ = 1 then df_X1_readLine_107 n G (nI w) (nI q) (nI (p' - q)) (-1) (Q, U) else if κ = 2 ∧ p' = q + 1 then (if 0 ≤ sI U 4 then df_X1_readLine_107 n G (nI w) (nI q) (nI (p' - q)) (sI U 4) (Q, U) else nd_b1 (df_X1_blame n 1 (Q, U)) (fun (s37 : St × St) => some (none, s37))) else nd_b1 (df_X1_blame n 1 (Q, U)) (fun (s37 : St × St) => some (none, s37)) := by
  unfold dF_X1_readLine_13 df_X1_readLine_160 df_X1_readLine_86 df_X1_readLine_87
  rw [if_neg (show ¬ nI w < (0 : Int32) from znl (b := 0) (Nat.zero_le _) hw), if_pos (show sI (Q, U).1 2 = 0 from hQ)]
  by_cases k0 : κ = 0
  · rw [if_pos (show sI (Q, U).2 2 = 0 from by rw [show sI (Q, U).2 2 = nI κ from h2, k0]; rfl), if_pos k0]
  · rw [if_neg (show ¬ sI (Q, U).2 2 = 0 from by rw [show sI (Q, U).2 2 = nI κ from h2]; exact zne (b := 0) k0 (by omega) (by omega)), if_neg k0]
    rw [show sI (Q, U).2 2 = nI κ from h2, show sI (Q, U).2 3 = nI q from h3, show sI (Q, U).2 0 = nI p' from h0, nb_let, nb_let, pk_sub hqp, nb_let]
    by_cases k1 : κ = 1
    · subst k1
      rw [if_neg (show ¬ nI 1 = (2 : Int32) by decide), if_pos (show nI 1 = (1 : Int32) from rfl), if_pos rfl]
    · have n1 : ¬ nI κ = (1 : Int32) := zne (b := 1) k1 (by omega) (by omega)
      rw [if_neg k1]
      by_cases k2 : κ = 2
      · subst k2
        rw [if_pos (show nI 2 = (2 : Int32) from rfl)]
        by_cases k3 : p' = q + 1
        · rw [if_pos (show nI (p' - q) = (1 : Int32) from congrArg nI (show p' - q = 1 by omega)), if_neg n1, if_pos (show 2 = 2 ∧ p' = q + 1 from ⟨rfl, k3⟩)]
        · rw [if_neg (show ¬ nI (p' - q) = (1 : Int32) from zne (b := 1) (by omega) (by omega) (by omega)), if_neg n1, if_neg (show ¬ (0 : Int32) ≤ -1 by decide), if_neg (fun z => k3 z.2)]
      · rw [if_neg (show ¬ nI κ = (2 : Int32) from zne (b := 2) k2 (by omega) (by omega)), if_neg n1, if_neg (show ¬ (0 : Int32) ≤ -1 by decide), if_neg (fun z => k2 z.1)]
/-- the reference: its turn at a token (the name lb_0 stands elsewhere) -/
theorem lbz_0 {n : Nat} (G : St → Option (Int32 × St)) {S S1 : St} (h12 : sI S 12 = 0) (hs : df_X13_scan n S = some S1) {τ q p2 : Nat} (h8 : sI S1 8 = nI τ) (h9 : sI S1 9 = nI q) (h10 : sI S1 10 = nI p2) (hqp : q ≤ p2) (hp : p2 < 2 ^ 31) (ht : τ < 300) : dF_X13_labelled_0 n G S = if τ = 0 then some (0, S1) else if τ = 1 then df_X13_labelled_68 n G (nI q) (nI p2) 0 S1 else if τ = 2 ∧ p2 = q + 1 then df_X13_labelled_68 n G (nI q) (nI p2) 1 S1 else nd_b1 (df_X13_blame n 1 S1) (fun (s41 : St) => some (0, s41)) := by
  unfold dF_X13_labelled_0 df_X13_labelled_42 df_X13_labelled_43
  rw [if_pos h12, hs, nb_b1, h9, h10, h8, nb_let, nb_let, nb_let]
  by_cases k0 : τ = 0
  · subst k0
    rw [if_neg (show ¬ nI 0 = (2 : Int32) by decide), if_pos (show nI 0 = (0 : Int32) from rfl), if_pos rfl]
  · have n0 : ¬ nI τ = (0 : Int32) := zne (b := 0) k0 (by omega) (by omega)
    rw [if_neg k0]
    by_cases k1 : τ = 1
    · subst k1
      rw [if_neg (show ¬ nI 1 = (2 : Int32) by decide), if_neg n0, if_pos (show nI 1 = (1 : Int32) from rfl), if_pos rfl]
    · have n1 : ¬ nI τ = (1 : Int32) := zne (b := 1) k1 (by omega) (by omega)
      rw [if_neg k1]
      by_cases k2 : τ = 2
      · subst k2
        rw [if_pos (show nI 2 = (2 : Int32) from rfl)]
        by_cases k3 : p2 = q + 1
        · rw [if_pos (show nI p2 - nI q = (1 : Int32) from (pk_sub hqp).trans (congrArg nI (show p2 - q = 1 by omega))), if_neg n0, if_neg n1, if_neg (show ¬ (1 : Int32) = 0 by decide), if_pos (show 2 = 2 ∧ p2 = q + 1 from ⟨rfl, k3⟩)]
        · rw [if_neg (show ¬ nI p2 - nI q = (1 : Int32) from by rw [pk_sub hqp]; exact zne (b := 1) (by omega) (by omega) (by omega)), if_neg n0, if_neg n1, if_pos rfl, if_neg (fun z => k3 z.2)]
      · rw [if_neg (show ¬ nI τ = (2 : Int32) from zne (b := 2) k2 (by omega) (by omega)), if_neg n0, if_neg n1, if_pos rfl, if_neg (fun z => k2 z.1)]
theorem qle5 {n L e : Nat} {c : Nat → Nat} {BC B : St} (hT : atx n L e c BC B) {ct : Nat} {gr : Bool} {PA BY OU : Nat → Int32} {p : Nat} {S S1 : St} {ft : Int32} (h : SR B ct gr PA BY OU ft p S) {q p' κ τ v : Nat} {x : Int32} (T : TS n L e c BC p q p' κ τ v x) (hs : df_X13_scan n S = some S1) {p2 : Nat} (h10 : sI S1 10 = nI p2) (z : p2 < 2 ^ 31) : q ≤ p2 := by
  obtain ⟨hn, hL, heL, _⟩ := id hT
  obtain ⟨ms, dv, ls, sg, vl, PL, tk, fr, to, nm, rfl⟩ := h
  obtain ⟨t1, t2, t3, t4, t5, t6, t7, t8, t9⟩ := T
  obtain ⟨x2, p3, e1, e2, e3⟩ := t9 (xR (yR B ct gr PA BY OU) ft ms dv ls sg vl PL) hT tk fr to nm
  rw [e1] at hs
  have hs := Option.some.inj hs
  rw [← hs] at h10
  have h10 : nI p3 = nI p2 := h10
  have p3e : p3 ≤ e := by
    rcases e2 with u | u
    · omega
    · omega
  rw [nI_eq (by omega) (by omega)] at h10
  rcases e2 with u | u
  · omega
  · omega
theorem ts_k2 {n L e : Nat} {c : Nat → Nat} {BC : St} {p q p' κ τ v : Nat} {x : Int32} (T : TS n L e c BC p q p' κ τ v x) : κ = 2 ↔ τ = 2 := by
  obtain ⟨t1, t2, t3, t4, t5, t6, t7, t8, t9⟩ := T
  by_cases z : κ = 5
  · subst z
    have h5 := tk_5 t7
    constructor
    · intro w; omega
    · intro w; omega
  · exact (tk_n t7 z).2.2.1.symm
theorem lab_F {n g : Nat} {S : St} {ft : Int32} (hg : 0 < g) (h : sI S 12 = ft) (hf : ¬ ft = 0) : df_X13_labelled_0 n g S = some (0, S) := by
  obtain ⟨g, rfl⟩ : ∃ m : Nat, g = m + 1 := ⟨g - 1, by omega⟩
  show dF_X13_labelled_0 n (df_X13_labelled_0 n g) S = _
  unfold dF_X13_labelled_0
  rw [if_neg (show ¬ sI S 12 = 0 from fun w => hf (h.symm.trans w))]
theorem rl_F {n g : Nat} {w : Int32} {B : St} {sn lu ln se co : Nat} {od ft : Int32} {SW LW : Nat → Int32} {U : St} (hg : 0 < g) (hf : ¬ ft = 0) : df_X1_readLine_13 n g w (qC B sn lu ft ln se od co SW LW, U) = some (none, (qC B sn lu ft ln se od co SW LW, U)) := by
  obtain ⟨g, rfl⟩ : ∃ m : Nat, g = m + 1 := ⟨g - 1, by omega⟩
  show dF_X1_readLine_13 n (df_X1_readLine_13 n g) w _ = _
  unfold dF_X1_readLine_13 df_X1_readLine_160
  rw [if_neg (show ¬ sI (qC B sn lu ft ln se od co SW LW, U).1 2 = 0 from hf)]
  split <;> rfl
theorem w1_s {w : Nat} (h : 1 ≤ w) : nI w + Int32.ofInt (-1) = nI (w - 1) := by
  have e : nI w = nI (w - 1) + nI 1 := by rw [nI_add, show w - 1 + 1 = w by omega]
  rw [e, Int32.add_assoc, show nI 1 + Int32.ofInt (-1) = 0 by decide, Int32.add_zero]
theorem RT0_d {n L e : Nat} {c : Nat → Nat} {BC BC' B : St} {X : Nat → Nat} {nL w : Nat} {v : Int32} (hT : atx n L e c BC' B) (h : RT0 n L e c BC B X nL) (hL : nL < 16500) (hw : w < 2 ^ 20) : RT0 n L e c BC' (dfB B nL (nI w) v) (nwF X nL w) (nL + 1) := by
  obtain ⟨a1, a2, a3, a4⟩ := h
  refine ⟨hT, by omega, rfl, fun k hk => ?_⟩
  have e6 : sR (dfB B nL (nI w) v) 6 = upd (sR B 6) nL (nI w) := rfl
  rw [e6]
  by_cases z : k = nL
  · subst z
    rw [up_e, nw_1]; exact ⟨rfl, hw⟩
  · rw [up_n z, nw_2 (by omega)]
    exact a4 k (by omega)
theorem LJG_t {n L e : Nat} {c : Nat → Nat} {B0 Bq : St} {sn lu ln se co : Nat} {od : Int32} {SW LW : Nat → Int32} {cs : Nat} {C A : Nat → Int32} {p p1 : Nat} {X X1 : Nat → Nat} {nL nL1 ns ns1 : Nat} {bs ws sc bs1 ws1 sc1 : Nat → Nat} {B B1 : St} {ct : Nat} {gr : Bool} {PA BY OU : Nat → Int32} {rC : Option (Option Nat × (St × St))} {rR : Option (Int32 × St)} (h : LJG n L e c B0 Bq sn lu ln se co od SW LW cs C A p1 X1 nL1 ns1 bs1 ws1 sc1 B1 ct gr PA BY OU rC rR) (hg : GRW X nL (sR B 7) ns bs ws sc p sn X1 nL1 (sR B1 7) ns1 bs1 ws1 sc1) (hb : BG B B1) (hp : p ≤ p1) : LJG n L e c B0 Bq sn lu ln se co od SW LW cs C A p X nL ns bs ws sc B ct gr PA BY OU rC rR := by
  obtain ⟨X', nL', B', ns', NM', BK', bs', ws', nl', NR', LB', sc', p2, tp, st, fx, Sx, g1, g2, g3, g4, g5, g6, g7⟩ := h
  exact ⟨X', nL', B', ns', NM', BK', bs', ws', nl', NR', LB', sc', p2, tp, st, fx, Sx, GRW_t hg g1 hp, g2, BG_t hb g3, g4, by omega, g6, g7⟩
/-- the labels of a line, read by both -/
theorem lin_J {n L e : Nat} {c : Nat → Nat} {B0 Bq : St} {sn lu ln se co : Nat} {od : Int32} {SW LW : Nat → Int32} {cs : Nat} {C A : Nat → Int32} {ct : Nat} {gr : Bool} {PA BY OU : Nat → Int32} (hse : se < 2) (hsn : sn < 2 ^ 20) : ∀ (N p q p' κ τ v : Nat) (x : Int32) (w g g' : Nat) (X : Nat → Nat) (nL ns : Nat) (NM BK : Nat → Int32) (bs ws : Nat → Nat) (nl : Nat) (NR LB : Nat → Int32) (sc : Nat → Nat) (tp st : Nat) (fx : Bool) (Sx : Nat → Int32) (B S : St), e - p < N → N < g → N < g' → e - p ≤ w → w < 2 ^ 20 → TBJ L c X nL (sR B 7) ns NM BK bs ws nl NR LB sc p → TS n L e c (bC B0 e nl NR LB) p q p' κ τ v x → RT0 n L e c (bC B0 e nl NR LB) B X nL → sI B 14 = nI se → (∃ l : Nat, sI B 13 = nI l ∧ l ≤ 40000) → SR B ct gr PA BY OU 0 p S → LJF e B ln (df_X1_readLine_13 n g (nI w) ((qC Bq sn lu 0 ln se od co SW LW), (uC (xC (bC B0 e nl NR LB) cs tp st ns fx C A Sx NM BK) p' κ q x))) (df_X13_labelled_0 n g' S) ∨ LJG n L e c B0 Bq sn lu ln se co od SW LW cs C A p X nL ns bs ws sc B ct gr PA BY OU (df_X1_readLine_13 n g (nI w) ((qC Bq sn lu 0 ln se od co SW LW), (uC (xC (bC B0 e nl NR LB) cs tp st ns fx C A Sx NM BK) p' κ q x))) (df_X13_labelled_0 n g' S) := fun N => by
  induction N with
  | zero => intro p q p' κ τ v x w g g' X nL ns NM BK bs ws nl NR LB sc tp st fx Sx B S h; exact absurd h (Nat.not_lt_zero _)
  | succ N ih =>
    intro p q p' κ τ v x w g g' X nL ns NM BK bs ws nl NR LB sc tp st fx Sx B S hN hg hg' hw hw2 hJ T hR h14 hln h
    obtain ⟨g, rfl⟩ : ∃ m : Nat, g = m + 1 := ⟨g - 1, by omega⟩
    obtain ⟨g', rfl⟩ : ∃ m : Nat, g' = m + 1 := ⟨g' - 1, by omega⟩
    have hT0 := hR.1
    obtain ⟨hn, hL, heL, h127, hend, hce, hO, hst, htC, h0, htR, hch⟩ := id hT0
    obtain ⟨j1, j2, j3, j4, j5, j6, j7, j8, j9, j10⟩ := id hJ
    obtain ⟨kt0, k6, kt1, kt2⟩ := ts_0 T
    have hle := ts_le T
    have hlm := lam_le X nL
    obtain ⟨S1, p2r, s1, s2, s3, s4, s5, s6, s7, s8⟩ := scn_S hT0 h T
    have t300 := ts_300 T
    have qle : q ≤ p2r := qle5 hT0 h T s1 s5 (by omega)
    have eC : df_X1_readLine_13 n (g + 1) (nI w) ((qC Bq sn lu 0 ln se od co SW LW), (uC (xC (bC B0 e nl NR LB) cs tp st ns fx C A Sx NM BK) p' κ q x)) = _ := rl_13 (qC Bq sn lu 0 ln se od co SW LW) (uC (xC (bC B0 e nl NR LB) cs tp st ns fx C A Sx NM BK) p' κ q x) rfl (df_X1_readLine_13 n g) w (by omega) (κ := κ) (q := q) (p' := p') rfl rfl rfl hle.2.1 (by omega) k6
    have eR : df_X13_labelled_0 n (g' + 1) S = _ := lbz_0 (df_X13_labelled_0 n g') (SR_12 h) s1 s3 s4 s5 qle (by omega) t300
    rw [eC, eR]
    by_cases z0 : τ = 0
    · -- the end
      rw [if_pos (kt0.mpr z0), if_pos z0]
      right
      have zk := kt0.mpr z0
      have := s8 (by omega)
      subst this
      refine ⟨X, nL, B, ns, NM, BK, bs, ws, nl, NR, LB, sc, p, tp, st, fx, Sx, GRW_r, hJ, BG_r, hR, Nat.le_refl _, by omega, Or.inl ⟨p2r, q, x, S1, s6, s7, ?_, rfl, s2⟩⟩
      rw [zk]
    rw [if_neg (fun z => z0 (kt0.mp z)), if_neg z0]
    by_cases z1 : τ = 1
    · -- a word
      have zk := kt1.mpr z1
      subst z1
      subst zk
      have := s8 (by omega)
      subst this
      obtain ⟨w1, w2, _, _, _, w31⟩ := ts_w T rfl
      have ee := eT_1 c (show q ≤ e by omega)
      have hA : ∀ t : Nat, t < p2r - q → aP (c (q + t)) = true := fun t ht => ee.2.2.2 (q + t) (by omega) (by omega)
      have hqp : q < p2r := (T.2.2.2.2.2.1 (by omega)).2
      have hz : aP (c (q + (p2r - q))) = false := by
        rw [show q + (p2r - q) = p2r by omega]
        by_cases w : p2r < e
        · rw [w2]; exact ee.2.2.1 (by omega)
        · rw [show p2r = e by omega, hce]; decide
      rw [if_pos rfl, if_pos rfl]
      obtain ⟨q2, p2, κ2, τ2, v2, x2, T2, rl⟩ := rl_107 hT0 (cs := cs) (tp := tp) (st := st) (ns := ns) (fx := fx) (C := C) (A := A) (S := Sx) (NM := NM) (BK := BK) T (qC Bq sn lu 0 ln se od co SW LW) (df_X1_readLine_13 n g) (nI w) (nI q) (nI (p2r - q)) (-1)
      rw [rl]
      obtain ⟨S2, p3r, u1, u2, u3, u4, u5, u6, u7, u8⟩ := scn_S hT0 s2 T2
      have hle2 := ts_le T2
      by_cases z58 : τ2 = 58
      · -- a label
        have := u8 (by omega)
        subst this
        have hk2 : ¬ κ2 = 0 := fun w => by have := (ts_0 T2).1.mp w; omega
        have hp2 := (T2.2.2.2.2.2.1 hk2).2
        rw [if_pos z58]
        obtain ⟨id, ns1, NM1, BK1, bs1, ws1, n1, n2, n3, n4, n5, n6, n7, n8, n9, n10, n11⟩ := nmd_C hR (cs := cs) (tp := tp) (st := st) (fx := fx) (C := C) (A := A) (S := Sx) (ap := p3r) (kd := κ2) (fr := q2) (nm := x2) j1 j2 j3 (by omega) q (p2r - q) (by omega) (by omega) hA
        obtain ⟨g1, g2⟩ := nmd_R hR u2 q (p2r - q) (by omega) hA
        rw [show q + (p2r - q) = p2r by omega] at g1 g2
        have eL : df_X1_readLabel n (nI q) (nI (p2r - q)) (-1) ((qC Bq sn lu 0 ln se od co SW LW), (uC (xC (bC B0 e nl NR LB) cs tp st ns fx C A Sx NM BK) p3r κ2 q2 x2)) = (if 0 ≤ rI (reS (p2r - q) (c q) (c (q + 1)) (c (q + 2)) (c (q + 3))) then df_X1_readLabel_60 n ((qC Bq sn lu 0 ln se od co SW LW), (uC (xC (bC B0 e nl NR LB) cs tp st ns1 fx C A Sx NM1 BK1) p3r κ2 q2 x2)) else (if bI (decide (nmK c X nL q (p2r - q) < nL)) = 0 then (nd_b2 (df_X9_addLabel n (nI sn) (nI se) (-1) (uC (xC (bC B0 e nl NR LB) cs tp st ns1 fx C A Sx NM1 BK1) p3r κ2 q2 x2)) (fun (q20 : Int32) (s21 : St) => nd_b1 (df_X9_define n (nI id) 2 q20 s21) (fun (s25 : St) => some ((qC Bq sn lu 0 ln se od co SW LW), s25)))) else (df_X1_readLabel_60 n ((qC Bq sn lu 0 ln se od co SW LW), (uC (xC (bC B0 e nl NR LB) cs tp st ns1 fx C A Sx NM1 BK1) p3r κ2 q2 x2))))) := by
          unfold df_X1_readLabel df_X1_readLabel_0
          rw [if_pos (show (-1 : Int32) < 0 by decide)]
          rw [show df_X9_nameAt n (nI q) (nI (p2r - q)) ((qC Bq sn lu 0 ln se od co SW LW), (uC (xC (bC B0 e nl NR LB) cs tp st ns fx C A Sx NM BK) p3r κ2 q2 x2)).2 = _ from n1, nb_b2, nb_let]
          show nd_o (sO (uC (xC (bC B0 e nl NR LB) cs tp st ns1 fx C A Sx NM1 BK1) p3r κ2 q2 x2) 0) 8 (nd_b2 (df_X7_registerAt n (nI q) (nI (p2r - q)) (pR nd_st0 0 (sR (uC (xC (bC B0 e nl NR LB) cs tp st ns1 fx C A Sx NM1 BK1) p3r κ2 q2 x2) 7))) _) = _
          rw [n9, o8, n10, nb_b2]
          show nd_let ((qC Bq sn lu 0 ln se od co SW LW), pR (uC (xC (bC B0 e nl NR LB) cs tp st ns1 fx C A Sx NM1 BK1) p3r κ2 q2 x2) 7 (sR (pR nd_st0 0 (sR (uC (xC (bC B0 e nl NR LB) cs tp st ns1 fx C A Sx NM1 BK1) p3r κ2 q2 x2) 7)) 0)) _ = _
          rw [show pR (uC (xC (bC B0 e nl NR LB) cs tp st ns1 fx C A Sx NM1 BK1) p3r κ2 q2 x2) 7 (sR (pR nd_st0 0 (sR (uC (xC (bC B0 e nl NR LB) cs tp st ns1 fx C A Sx NM1 BK1) p3r κ2 q2 x2) 7)) 0) = (uC (xC (bC B0 e nl NR LB) cs tp st ns1 fx C A Sx NM1 BK1) p3r κ2 q2 x2) from nm_r0 _ 7, nb_let]
          show (if 0 ≤ _ then _ else nd_b2 (df_X9_isDefined n (nI id) (uC (xC (bC B0 e nl NR LB) cs tp st ns1 fx C A Sx NM1 BK1) p3r κ2 q2 x2)) _) = _
          rw [n11, nb_b2, nb_let]
          rfl
        have e60 : df_X1_readLabel_60 n ((qC Bq sn lu 0 ln se od co SW LW), (uC (xC (bC B0 e nl NR LB) cs tp st ns1 fx C A Sx NM1 BK1) p3r κ2 q2 x2)) = some (qC Bq sn lu (nI 4) ln se od co SW LW, (uC (xC (bC B0 e nl NR LB) cs tp st ns1 fx C A Sx NM1 BK1) p3r κ2 q2 x2)) := by
          unfold df_X1_readLabel_60
          rw [blm_C, nb_b1]
          rfl
        have eR2 : df_X13_labelled_68 n (df_X13_labelled_0 n g') (nI q) (nI p2r) 0 S1 = (if 0 ≤ rI (reS (p2r - q) (c q) (c (q + 1)) (c (q + 2)) (c (q + 3))) then df_X13_labelled_132 n (df_X13_labelled_0 n g') (nI q) (nI p2r) 0 S2 else (if (if fN (fiP c X q (p2r - q)) 0 nL < nL then nI (fN (fiP c X q (p2r - q)) 0 nL) else -1) < 0 then df_X13_labelled_137 n (df_X13_labelled_0 n g') (nI q) (nI p2r) 0 S2 else df_X13_labelled_132 n (df_X13_labelled_0 n g') (nI q) (nI p2r) 0 S2)) := by
          unfold df_X13_labelled_68
          rw [u1, nb_b1, if_pos (show sI S2 8 = 58 from by rw [u3, z58]; rfl), if_pos rfl, g1, nb_b2, g2, nb_b2]
        have e132 : ∃ S3 : St, df_X13_labelled_132 n (df_X13_labelled_0 n g') (nI q) (nI p2r) 0 S2 = some (0, S3) ∧ FL e B (nI 4 + 16 * sI B 13) S3 := by
          obtain ⟨S3, b1, b2⟩ := blm_S (n := n) u2 4
          have nz := flt_n (B := B) hln 4 (by decide)
          refine ⟨S3, ?_, SR_FL b2 u7⟩
          unfold df_X13_labelled_132
          rw [b1, nb_b1]
          unfold df_X13_labelled_137 df_X13_labelled_166
          rw [if_neg (show ¬ sI S3 12 = 0 from fun w9 => nz ((SR_12 b2).symm.trans w9))]
          exact lab_F (by omega) (SR_12 b2) nz
        have bad : 0 ≤ rI (reS (p2r - q) (c q) (c (q + 1)) (c (q + 2)) (c (q + 3))) ∨ nmK c X nL q (p2r - q) < nL → LJF e B ln (nd_b1 (df_X1_readLabel n (nI q) (nI (p2r - q)) (-1) ((qC Bq sn lu 0 ln se od co SW LW), (uC (xC (bC B0 e nl NR LB) cs tp st ns fx C A Sx NM BK) p3r κ2 q2 x2))) (fun (s24 : St × St) => nd_b1 (df_X9_next n s24.2) (fun (s27 : St) => df_X1_readLine_13 n g (nI w + Int32.ofInt (-1)) (s24.1, s27)))) (df_X13_labelled_68 n (df_X13_labelled_0 n g') (nI q) (nI p2r) 0 S1) := fun hb => by
          obtain ⟨S3, b1, b2⟩ := e132
          obtain ⟨q3, p3, κ3, τ3, v3, x3, m1, m2⟩ := nx_1 hT0 (cs := cs) (tp := tp) (st := st) (ns := ns1) (fx := fx) (C := C) (A := A) (S := Sx) (NM := NM1) (BK := BK1) p3r κ2 q2 x2 (by omega) (fun i i1 i2 => T.2.1 i (by omega) i2)
          have cl : df_X1_readLabel n (nI q) (nI (p2r - q)) (-1) ((qC Bq sn lu 0 ln se od co SW LW), (uC (xC (bC B0 e nl NR LB) cs tp st ns fx C A Sx NM BK) p3r κ2 q2 x2)) = some (qC Bq sn lu (nI 4) ln se od co SW LW, (uC (xC (bC B0 e nl NR LB) cs tp st ns1 fx C A Sx NM1 BK1) p3r κ2 q2 x2)) := by
            rw [eL]
            by_cases a : 0 ≤ rI (reS (p2r - q) (c q) (c (q + 1)) (c (q + 2)) (c (q + 3)))
            · rw [if_pos a, e60]
            · rw [if_neg a, decide_eq_true (hb.resolve_left a), if_neg (show ¬ bI true = 0 by decide), e60]
          refine ⟨4, qC Bq sn lu (nI 4) ln se od co SW LW, uC (xC (bC B0 e nl NR LB) cs tp st ns1 fx C A Sx NM1 BK1) p3 κ3 q3 x3, S3, by decide, by decide, ?_, rfl, rfl, ?_, ⟨B, b2, rfl, rfl, rfl, rfl⟩⟩
          · rw [cl, nb_b1]
            show nd_b1 (df_X9_next n (uC (xC (bC B0 e nl NR LB) cs tp st ns1 fx C A Sx NM1 BK1) p3r κ2 q2 x2)) _ = _
            rw [m1, nb_b1]
            exact rl_F (by omega) (by decide)
          · rw [eR2]
            by_cases a : 0 ≤ rI (reS (p2r - q) (c q) (c (q + 1)) (c (q + 2)) (c (q + 3)))
            · rw [if_pos a, b1]
            · have a2 := hb.resolve_left a
              rw [nmK_f (fun w9 => a (rI_n.mpr w9))] at a2
              have := hR.2.1
              rw [if_neg a, if_pos a2, if_neg (show ¬ nI _ < (0 : Int32) from znl (b := 0) (Nat.zero_le _) (by omega)), b1]
        by_cases hr : 0 ≤ rI (reS (p2r - q) (c q) (c (q + 1)) (c (q + 2)) (c (q + 3)))
        · exact Or.inl (bad (Or.inl hr))
        by_cases hk : nmK c X nL q (p2r - q) < nL
        · exact Or.inl (bad (Or.inr hk))
        have hr' : ¬ reS (p2r - q) (c q) (c (q + 1)) (c (q + 2)) (c (q + 3)) < 32 := fun w9 => hr (rI_n.mpr w9)
        have hk' : ¬ fN (fiP c X q (p2r - q)) 0 nL < nL := by rw [← nmK_f hr']; exact hk
        -- it is new
        obtain ⟨S3, d1, d2⟩ := def_S (n := n) u2 (nL := nL) hR.2.2.1 (by omega) (nI q) (nI p2r) (nI se) 0
        rw [or17 (by omega) (by omega)] at d2
        have hns1 := n2.1
        have nJ := TBJ_w hJ n2 n7 n8 (q := q) (l := p2r - q) (p2 := p3r) (se := se) (sn := sn) (id := id) hle.1 ⟨by omega, by omega⟩ (by omega) hse hz hr' hk n3 n4 n5 (nI (se * 131072 + q))
        have T3e := nx_1 (at_b hT0 (nl' := nl + 1) (NR' := NR) (LB' := lrow LB nl (nI sn) (nI se) 1)) (cs := cs) (tp := tp) (st := st) (ns := ns1) (fx := fx) (C := C) (A := A) (S := Sx) (NM := upd (upd NM1 (5 * id + 2) 2) (5 * id + 3) (nI nl)) (BK := BK1) p3r κ2 q2 x2 (by omega) (fun i i1 i2 => T.2.1 i (by omega) i2)
        obtain ⟨q3, p3, κ3, τ3, v3, x3, m1, T3⟩ := T3e
        have cl : nd_b1 (df_X1_readLabel n (nI q) (nI (p2r - q)) (-1) ((qC Bq sn lu 0 ln se od co SW LW), (uC (xC (bC B0 e nl NR LB) cs tp st ns fx C A Sx NM BK) p3r κ2 q2 x2))) (fun (s24 : St × St) => nd_b1 (df_X9_next n s24.2) (fun (s27 : St) => df_X1_readLine_13 n g (nI w + Int32.ofInt (-1)) (s24.1, s27))) = df_X1_readLine_13 n g (nI (w - 1)) ((qC Bq sn lu 0 ln se od co SW LW), uC (xC (bC B0 e (nl + 1) NR (lrow LB nl (nI sn) (nI se) 1)) cs tp st ns1 fx C A Sx (upd (upd NM1 (5 * id + 2) 2) (5 * id + 3) (nI nl)) BK1) p3 κ3 q3 x3) := by
          rw [eL, if_neg hr, decide_eq_false hk, if_pos (show bI false = 0 from rfl), adl_n (by omega), nb_b2, de_9 id 2 (nI nl) (by omega), nb_b1, nb_b1]
          show nd_b1 (df_X9_next n (uC (xC (bC B0 e (nl + 1) NR (lrow LB nl (nI sn) (nI se) 1)) cs tp st ns1 fx C A Sx (upd (upd NM1 (5 * id + 2) 2) (5 * id + 3) (nI nl)) BK1) p3r κ2 q2 x2)) _ = _
          rw [m1, nb_b1, w1_s (by omega)]
        have rl2 : df_X13_labelled_68 n (df_X13_labelled_0 n g') (nI q) (nI p2r) 0 S1 = df_X13_labelled_0 n g' S3 := by
          rw [eR2, if_neg hr, if_neg hk', if_pos (show (-1 : Int32) < 0 by decide)]
          unfold df_X13_labelled_137 df_X13_labelled_161 df_X13_labelled_166
          rw [if_pos (show sI S2 12 = 0 from SR_12 u2), if_pos rfl, show sI S2 14 + 0 = nI se from by rw [SR_14 u2, h14]; exact Int32.add_zero _, d1, nb_b1]
        rw [cl, rl2]
        have hR3 : RT0 n L e c (bC B0 e (nl + 1) NR (lrow LB nl (nI sn) (nI se) 1)) (dfB B nL (nI (se * 131072 + q)) 0) (nwF X nL (se * 131072 + q)) (nL + 1) := RT0_d (at_b hT0) hR (by omega) (by omega)
        rcases ih p3r q3 p3 κ3 τ3 v3 x3 (w - 1) g g' (nwF X nL (se * 131072 + q)) (nL + 1) ns1 (upd (upd NM1 (5 * id + 2) 2) (5 * id + 3) (nI nl)) BK1 bs1 ws1 (nl + 1) NR (lrow LB nl (nI sn) (nI se) 1) (nwF sc nL sn) tp st fx Sx (dfB B nL (nI (se * 131072 + q)) 0) S3 (by omega) (by omega) (by omega) (by omega) (by omega) nJ T3 hR3 h14 hln d2 with r | r
        · left
          obtain ⟨f, Q', U', S', i1, i2, i3, i4, i5, i6, B9, i7, i8, i9, i10, i11⟩ := r
          exact ⟨f, Q', U', S', i1, i2, i3, i4, i5, i6, B9, i7, i8, i9, i10, i11⟩
        · right
          refine LJG_t r ⟨Nat.le_succ _, fun k hk9 => ⟨nw_2 hk9, (up_n (by omega) : upd (sR B 7) nL 0 k = sR B 7 k), nw_2 hk9⟩, fun k k1 k2 => ?_, n6.1, fun i hi => ⟨(n6.2.1 i hi).1, (n6.2.1 i hi).2.1⟩⟩ BG_d (by omega)
          have : k = nL := by omega
          subst this
          rw [nw_1, nw_1]
          exact ⟨rfl, by omega, by omega⟩
      · -- the statement's name
        rw [if_neg z58]
        right
        have hz68 : df_X13_labelled_68 n (df_X13_labelled_0 n g') (nI q) (nI p2r) 0 S1 = some (1, pI S2 7 (nI q)) := by
          unfold df_X13_labelled_68 df_X13_labelled_91 df_X13_labelled_108
          rw [u1, nb_b1, if_neg (show ¬ sI S2 8 = 58 from by rw [u3]; exact zne (b := 58) z58 (by have := ts_300 T2; omega) (by omega)), if_pos rfl, nb_let, if_pos (show sI (pI S2 7 (nI q)) 12 = 0 from SR_12 (SR_w7 u2 q))]
          exact nar_z (by decide)
        obtain ⟨v0, x0, Tq⟩ := ts_q hT0 T
        refine ⟨X, nL, B, ns, NM, BK, bs, ws, nl, NR, LB, sc, q, tp, st, fx, Sx, GRW_r, TBJ_m hJ hle.1, BG_r, hR, hle.1, by omega, Or.inr ⟨p2r, v0, x0, q2, p2, κ2, τ2, v2, x2, pI S2 7 (nI q), Tq, T2, rfl, hz68, SR_w7 u2 q⟩⟩
    · have zk : ¬ κ = 1 := fun z => z1 (kt1.mp z)
      rw [if_neg zk, if_neg z1]
      by_cases z2 : τ = 2 ∧ p2r = q + 1
      · -- a digit
        obtain ⟨z2, zp⟩ := z2
        subst z2
        have := s8 (by omega)
        subst this
        have zk2 : κ = 2 := (ts_k2 T).mpr rfl
        subst zk2
        have hv := T.2.2.2.2.2.2.2.1 (Or.inl rfl)
        have hdg : aD (c q) = true ∧ v = c q - 48 := by
          have := T.2.2.2.2.2.2.1
          unfold tkK at this
          rcases this with y | y | y | y | y | y | y
          · omega
          · omega
          · exact y.2.2.2.2 zp
          · omega
          · omega
          · omega
          · omega
        have hd9 := aD_v.mp hdg.1
        have hvd : v ≤ 9 ∧ c q = 48 + v := by omega
        have hqe : q < e := (T.2.2.2.2.2.1 (by omega)).1
        have x4 : sI (uC (xC (bC B0 e nl NR LB) cs tp st ns fx C A Sx NM BK) p2r 2 q x) 4 = nI v := hv
        rw [if_pos (show 2 = 2 ∧ p2r = q + 1 from ⟨rfl, zp⟩), if_pos (show 2 = 2 ∧ p2r = q + 1 from ⟨rfl, zp⟩), x4, if_pos (show (0 : Int32) ≤ nI v from zle (a := 0) (Nat.zero_le _) (by omega))]
        obtain ⟨q2, p2, κ2, τ2, v2, x2, T2, rl⟩ := rl_107 hT0 (cs := cs) (tp := tp) (st := st) (ns := ns) (fx := fx) (C := C) (A := A) (S := Sx) (NM := NM) (BK := BK) T (qC Bq sn lu 0 ln se od co SW LW) (df_X1_readLine_13 n g) (nI w) (nI q) (nI (p2r - q)) (nI v)
        rw [rl]
        obtain ⟨S2, p3r, u1, u2, u3, u4, u5, u6, u7, u8⟩ := scn_S hT0 s2 T2
        have hle2 := ts_le T2
        by_cases z58 : τ2 = 58
        · have := u8 (by omega)
          subst this
          have hk2 : ¬ κ2 = 0 := fun w => by have := (ts_0 T2).1.mp w; omega
          have hp2 := (T2.2.2.2.2.2.1 hk2).2
          rw [if_pos z58]
          obtain ⟨S3, d1, d2⟩ := def_S (n := n) u2 (nL := nL) hR.2.2.1 (by omega) (nI q) (nI p2r) (nI (se + 3)) 0
          rw [or17 (by omega) (by omega)] at d2
          obtain ⟨NR', LB', nJ, eA⟩ := TBJ_g hJ (q := q) (p2 := p3r) (d := v) (se := se) (sn := sn) hle.1 (by omega) (by omega) hL hvd.1 hvd.2 hse (nI ((se + 3) * 131072 + q)) (by omega)
          obtain ⟨q3, p3, κ3, τ3, v3, x3, m1, T3⟩ := nx_1 (at_b hT0 (nl' := nl + 1) (NR' := NR') (LB' := LB')) (cs := cs) (tp := tp) (st := st) (ns := ns) (fx := fx) (C := C) (A := A) (S := Sx) (NM := NM) (BK := BK) p3r κ2 q2 x2 (by omega) (fun i i1 i2 => T.2.1 i (by omega) i2)
          have cl : nd_b1 (df_X1_readLabel n (nI q) (nI (p2r - q)) (nI v) ((qC Bq sn lu 0 ln se od co SW LW), (uC (xC (bC B0 e nl NR LB) cs tp st ns fx C A Sx NM BK) p3r κ2 q2 x2))) (fun (s24 : St × St) => nd_b1 (df_X9_next n s24.2) (fun (s27 : St) => df_X1_readLine_13 n g (nI w + Int32.ofInt (-1)) (s24.1, s27))) = df_X1_readLine_13 n g (nI (w - 1)) ((qC Bq sn lu 0 ln se od co SW LW), uC (xC (bC B0 e (nl + 1) NR' LB') cs tp st ns fx C A Sx NM BK) p3 κ3 q3 x3) := by
            unfold df_X1_readLabel df_X1_readLabel_0
            rw [if_neg (show ¬ nI v < (0 : Int32) from znl (b := 0) (Nat.zero_le _) (by omega))]
            rw [show df_X9_addLabel n (sI ((qC Bq sn lu 0 ln se od co SW LW), (uC (xC (bC B0 e nl NR LB) cs tp st ns fx C A Sx NM BK) p3r κ2 q2 x2)).1 0) (sI ((qC Bq sn lu 0 ln se od co SW LW), (uC (xC (bC B0 e nl NR LB) cs tp st ns fx C A Sx NM BK) p3r κ2 q2 x2)).1 4) (nI v) ((qC Bq sn lu 0 ln se od co SW LW), (uC (xC (bC B0 e nl NR LB) cs tp st ns fx C A Sx NM BK) p3r κ2 q2 x2)).2 = _ from eA n B0 e cs tp st fx C A Sx p3r κ2 q2 x2, nb_b2, nb_let, nb_b1]
            show nd_b1 (df_X9_next n (uC (xC (bC B0 e (nl + 1) NR' LB') cs tp st ns fx C A Sx NM BK) p3r κ2 q2 x2)) _ = _
            rw [m1, nb_b1, w1_s (by omega)]
          have rl2 : df_X13_labelled_68 n (df_X13_labelled_0 n g') (nI q) (nI p2r) 1 S1 = df_X13_labelled_0 n g' S3 := by
            unfold df_X13_labelled_68
            rw [u1, nb_b1, if_pos (show sI S2 8 = 58 from by rw [u3, z58]; rfl), if_neg (show ¬ (1 : Int32) = 0 by decide)]
            unfold df_X13_labelled_137 df_X13_labelled_161 df_X13_labelled_166
            rw [if_pos (show sI S2 12 = 0 from SR_12 u2), if_neg (show ¬ (1 : Int32) = 0 by decide), show sI S2 14 + 3 = nI (se + 3) from by rw [SR_14 u2, h14, show (3 : Int32) = nI 3 from rfl, nI_add], d1, nb_b1]
          rw [cl, rl2]
          have hR3 : RT0 n L e c (bC B0 e (nl + 1) NR' LB') (dfB B nL (nI ((se + 3) * 131072 + q)) 0) (nwF X nL ((se + 3) * 131072 + q)) (nL + 1) := RT0_d (at_b hT0) hR (by omega) (by omega)
          rcases ih p3r q3 p3 κ3 τ3 v3 x3 (w - 1) g g' (nwF X nL ((se + 3) * 131072 + q)) (nL + 1) ns NM BK bs ws (nl + 1) NR' LB' (nwF sc nL sn) tp st fx Sx (dfB B nL (nI ((se + 3) * 131072 + q)) 0) S3 (by omega) (by omega) (by omega) (by omega) (by omega) nJ T3 hR3 h14 hln d2 with r | r
          · left
            obtain ⟨f, Q', U', S', i1, i2, i3, i4, i5, i6, B9, i7, i8, i9, i10, i11⟩ := r
            exact ⟨f, Q', U', S', i1, i2, i3, i4, i5, i6, B9, i7, i8, i9, i10, i11⟩
          · right
            refine LJG_t r ⟨Nat.le_succ _, fun k hk9 => ⟨nw_2 hk9, (up_n (by omega) : upd (sR B 7) nL 0 k = sR B 7 k), nw_2 hk9⟩, fun k k1 k2 => ?_, Nat.le_refl _, fun i hi => ⟨rfl, rfl⟩⟩ BG_d (by omega)
            have : k = nL := by omega
            subst this
            rw [nw_1, nw_1]
            exact ⟨rfl, by omega, by omega⟩
        · left
          rw [if_neg z58]
          obtain ⟨S3, b1, b2⟩ := blm_S (n := n) u2 1
          have nz := flt_n (B := B) hln 1 (by decide)
          refine ⟨1, qC Bq sn lu (nI 1) ln se od co SW LW, uC (xC (bC B0 e nl NR LB) cs tp st ns fx C A Sx NM BK) p2 κ2 q2 x2, pI S3 7 (nI q), by decide, by decide, ?_, rfl, rfl, ?_, ⟨B, SR_FL (SR_w7 b2 q) (by omega), rfl, rfl, rfl, rfl⟩⟩
          · unfold df_X1_statementNamed df_X1_statementNamed_0
            rw [if_neg (show ¬ nI v < (0 : Int32) from znl (b := 0) (Nat.zero_le _) (by omega)), blm_C, nb_b1, nb_b2, nb_mN]
            rfl
          · unfold df_X13_labelled_68 df_X13_labelled_91 df_X13_labelled_108
            rw [u1, nb_b1, if_neg (show ¬ sI S2 8 = 58 from by rw [u3]; exact zne (b := 58) z58 (by have := ts_300 T2; omega) (by omega)), if_neg (show ¬ (1 : Int32) = 0 by decide), b1, nb_b1, nb_let, if_neg (show ¬ sI (pI S3 7 (nI q)) 12 = 0 from fun w9 => nz ((SR_12 (SR_w7 b2 q)).symm.trans w9))]
            exact nar_z (by decide)
      · -- no word and no digit
        left
        have zc : ¬ (κ = 2 ∧ p' = q + 1) := fun z => z2 (by
          have := (ts_k2 T).mp z.1
          exact ⟨this, by rw [s8 (by omega)]; exact z.2⟩)
        rw [if_neg zc, if_neg z2]
        obtain ⟨S3, b1, b2⟩ := blm_S (n := n) s2 1
        refine ⟨1, qC Bq sn lu (nI 1) ln se od co SW LW, (uC (xC (bC B0 e nl NR LB) cs tp st ns fx C A Sx NM BK) p' κ q x), S3, by decide, by decide, ?_, rfl, rfl, ?_, ⟨B, SR_FL b2 s7, rfl, rfl, rfl, rfl⟩⟩
        · rw [blm_C, nb_b1]
          rfl
        · rw [b1, nb_b1]
