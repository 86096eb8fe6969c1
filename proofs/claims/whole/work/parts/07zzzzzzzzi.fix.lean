/-- what names mean, in both tables, as long as they grow -/
def NTB (c X : Nat → Nat) (nL : Nat) (W : Nat → Int32) (ns : Nat) (NM : Nat → Int32) (bs ws : Nat → Nat) : Prop := ∀ id : Nat, id < ns → (nmK c X nL (bs id) (ws id) < nL ∧ X (nmK c X nL (bs id) (ws id)) / 131072 = 2 → NM (5 * id + 2) = 1 ∧ NM (5 * id + 3) = W (nmK c X nL (bs id) (ws id))) ∧ (nmK c X nL (bs id) (ws id) < nL ∧ ¬ X (nmK c X nL (bs id) (ws id)) / 131072 = 2 → NM (5 * id + 2) = 2 ∧ NM (5 * id + 3) = nI (lam X (nmK c X nL (bs id) (ws id)))) ∧ (¬ nmK c X nL (bs id) (ws id) < nL → NM (5 * id + 2) = 0)
theorem lsF_0 {lo : Tp → Bool} {P : Nat → Tp} : ∀ m : Nat, lsF lo P m = false ↔ ∀ i : Nat, i < m → 16 ≤ (P i).1 → lo (P i) = false := fun m => by
  induction m with
  | zero => exact ⟨fun _ i hi => absurd hi (Nat.not_lt_zero i), fun _ => rfl⟩
  | succ m ih =>
    show (lsF lo P m || (decide (16 ≤ (P m).1) && lo (P m))) = false ↔ _
    rw [Bool.or_eq_false_iff, ih]
    constructor
    · intro h i hi h16
      by_cases z : i = m
      · subst z
        have := h.2
        rw [decide_eq_true h16, Bool.true_and] at this
        exact this
      · exact h.1 i (by omega) h16
    · intro h
      refine ⟨fun i hi => h i (by omega), ?_⟩
      by_cases z : 16 ≤ (P m).1
      · rw [decide_eq_true z, Bool.true_and]
        exact h m (by omega) z
      · rw [decide_eq_false z, Bool.false_and]
theorem fx_lo {NR : Nat → Int32} {c X : Nat → Nat} {e nL : Nat} {W C0 A0 : Nat → Int32} {s0 ns : Nat} {bs ws : Nat → Nat} {m : Nat} {P : Nat → Tp} {C A NM : Nat → Int32} (hC : CR NR c e C0 A0 s0 ns bs ws m P C A) (hN : NTB c X nL W ns NM bs ws) : fxQ c e bs ws NM ns m P ↔ lsF (loV c X e nL) P m = false := by
  rw [lsF_0]
  constructor
  · intro h i hi h16
    obtain ⟨h1, h2⟩ := h i hi
    obtain ⟨c1, a1, a2, a3, a4, a5⟩ := hC.2 i hi
    generalize P i = o at h1 h2 a1 a2 a3 a4 a5 h16
    obtain ⟨κ, q, v⟩ := o
    have h1 : ¬ (κ = 18 ∨ κ = 19 ∨ κ = 20) := h1
    have a5 : 1 ≤ κ ∧ κ ≤ 20 ∧ ¬ κ = 15 ∧ (κ = 19 ∨ κ = 20 → v ≤ 9) := a5
    have h16 : 16 ≤ κ := h16
    rcases (show κ = 16 ∨ κ = 17 by omega) with z | z
    · subst z; rfl
    · subst z
      obtain ⟨id, i1, i2, i3⟩ := h2 rfl
      have i2 : sW c (bs id) (ws id) q (eT c e q - q) := i2
      have kW := nk_W (X := X) (nL := nL) i2
      obtain ⟨t1, t2, t3⟩ := hN id i1
      rw [kW] at t1 t2 t3
      show (!(decide (nmK c X nL q (eT c e q - q) < nL) && decide (X (nmK c X nL q (eT c e q - q)) / 131072 = 2))) = false
      by_cases y : nmK c X nL q (eT c e q - q) < nL
      · by_cases w : X (nmK c X nL q (eT c e q - q)) / 131072 = 2
        · rw [decide_eq_true y, decide_eq_true w]; rfl
        · have := (t2 ⟨y, w⟩).1
          rw [i3] at this
          exact absurd this (by decide)
      · have := t3 y
        rw [i3] at this
        exact absurd this (by decide)
  · intro h i hi
    have hh := h i hi
    obtain ⟨c1, a1, a2, a3, a4, a5⟩ := hC.2 i hi
    generalize P i = o at hh a1 a2 a3 a4 a5
    obtain ⟨κ, q, v⟩ := o
    have hh : 16 ≤ κ → loV c X e nL (κ, q, v) = false := hh
    refine ⟨fun z => ?_, fun z => ?_⟩
    · have z : κ = 18 ∨ κ = 19 ∨ κ = 20 := z
      rcases z with z | z | z <;> subst z <;> exact absurd (show true = false from hh (by omega)) (by decide)
    · have z : κ = 17 := z
      subst z
      obtain ⟨id, i1, i2, i3⟩ := a2 rfl
      have i3 : sW c (bs id) (ws id) q (eT c e q - q) := i3
      refine ⟨id, i2, i3, ?_⟩
      have kW := nk_W (X := X) (nL := nL) i3
      obtain ⟨t1, t2, t3⟩ := hN id i2
      rw [kW] at t1
      have lv := hh (by omega)
      have lv : (!(decide (nmK c X nL q (eT c e q - q) < nL) && decide (X (nmK c X nL q (eT c e q - q)) / 131072 = 2))) = false := lv
      rw [Bool.not_eq_false', Bool.and_eq_true] at lv
      exact (t1 ⟨of_decide_eq_true lv.1, of_decide_eq_true lv.2⟩).1
/-- an expression that is fixed: its operands in the class -/
theorem evH_f {n : Nat} {B : St} {hr : Int32} {c X : Nat → Nat} {e nL st : Nat} {ts : Int32} {W NRp C0 A0 : Nat → Int32} {s0 ns m : Nat} {bs ws : Nat → Nat} {P : Nat → Tp} (hns : ns ≤ 16384) (hC : CR NRp c e C0 A0 s0 ns bs ws m P (sR B 0) (sR B 1)) (hN : NTB c X nL W ns (sR B 3) bs ws) (hl : lsF (loV c X e nL) P m = false) : evH n B hr (VV c X e nL st ts hr W) s0 m P := by
  intro i hi h16 tp tr S
  have hh := (lsF_0 m).mp hl i hi h16
  obtain ⟨c1, a1, a2, a3, a4, a5⟩ := hC.2 i hi
  rw [c1]
  generalize P i = o at hh a1 a2 a3 a4 a5 h16
  obtain ⟨κ, q, v⟩ := o
  have a5 : 1 ≤ κ ∧ κ ≤ 20 ∧ ¬ κ = 15 ∧ (κ = 19 ∨ κ = 20 → v ≤ 9) := a5
  have h16 : 16 ≤ κ := h16
  show df_X9_operand n (nI κ) (sR B 1 (s0 + i)) hr (vC B tp tr S) = _
  unfold df_X9_operand df_X9_operand_0
  rcases (show κ = 16 ∨ κ = 17 ∨ κ = 18 ∨ κ = 19 ∨ κ = 20 by omega) with z | z | z | z | z
  · subst z
    rw [if_pos (show nI 16 = (16 : Int32) from rfl), a1 rfl]
    rfl
  · subst z
    obtain ⟨id, e1, e2, e3⟩ := a2 rfl
    have e3 : sW c (bs id) (ws id) q (eT c e q - q) := e3
    have kW := nk_W (X := X) (nL := nL) e3
    obtain ⟨t1, t2, t3⟩ := hN id e2
    rw [kW] at t1 t2 t3
    rw [if_neg (show ¬ nI 17 = (16 : Int32) by decide), if_neg (show ¬ nI 17 = (18 : Int32) by decide), if_pos (show nI 17 = (17 : Int32) from rfl), e1, show nI id * (5 : Int32) = nI (5 * id) from (pk_mul id 5).trans (congrArg nI (Nat.mul_comm id 5)), show nI (5 * id) + (2 : Int32) = nI (5 * id + 2) from nI_add (5 * id) 2, show nI (5 * id) + (3 : Int32) = nI (5 * id + 3) from nI_add (5 * id) 3, nm_ck (by omega) (by omega), nI_clamp (by omega), vC_r3, nb_let, nm_ck (by omega) (by omega), nI_clamp (by omega), nm_ck (by omega) (by omega)]
    have ev : VV c X e nL st ts hr W (17, q, v) = if nmK c X nL q (eT c e q - q) < nL then (vlO ts X W (nmK c X nL q (eT c e q - q)), false) else (0, true) := rfl
    have hh : (!(decide (nmK c X nL q (eT c e q - q) < nL) && decide (X (nmK c X nL q (eT c e q - q)) / 131072 = 2))) = false := hh
    rw [Bool.not_eq_false', Bool.and_eq_true] at hh
    have y := of_decide_eq_true hh.1
    have w := of_decide_eq_true hh.2
    obtain ⟨u1, u2⟩ := t1 ⟨y, w⟩
    rw [ev, if_pos y]
    rw [u1, if_pos rfl, u2, show vlO ts X W (nmK c X nL q (eT c e q - q)) = W (nmK c X nL q (eT c e q - q)) from if_neg (by omega)]
    rfl
  all_goals (subst z; exact absurd hh (by decide : ¬ true = false))
/-- the same row of signs with the same values -/
theorem rn_v {V V' : Tp → Int32 × Bool} {P : Nat → Tp} : ∀ m : Nat, (∀ i : Nat, i < m → 16 ≤ (P i).1 → V (P i) = V' (P i)) → rnF V P m = rnF V' P m := fun m => by
  induction m with
  | zero => intro _; rfl
  | succ m ih =>
    intro h
    show stp V (P m) (rnF V P m) = stp V' (P m) (rnF V' P m)
    rw [ih (fun i hi => h i (by omega))]
    unfold stp
    by_cases y : 16 ≤ (P m).1
    · rw [if_pos y, if_pos y, h m (by omega) y]
    · rw [if_neg y, if_neg y]
theorem rn_ms {V : Tp → Int32 × Bool} {P : Nat → Tp} : ∀ m : Nat, (∀ i : Nat, i < m → 16 ≤ (P i).1 → (V (P i)).2 = false) → (rnF V P m).2.1 = false := fun m => by
  induction m with
  | zero => intro _; rfl
  | succ m ih =>
    intro h
    have i1 := ih (fun i hi => h i (by omega))
    show (stp V (P m) (rnF V P m)).2.1 = false
    unfold stp
    by_cases y : 16 ≤ (P m).1
    · rw [if_pos y]
      show ((rnF V P m).2.1 || (V (P m)).2) = false
      rw [i1, h m (by omega) y]; rfl
    · rw [if_neg y]
      by_cases z : 11 ≤ (P m).1
      · rw [if_pos z]; exact i1
      · rw [if_neg z]
        split
        · exact i1
        · exact i1
/-- how many values stand there does not depend on what they are -/
theorem rn_l {V V' : Tp → Int32 × Bool} {P : Nat → Tp} : ∀ m : Nat, (rnF V P m).1.length = (rnF V' P m).1.length := fun m => by
  induction m with
  | zero => rfl
  | succ m ih =>
    show (stp V (P m) (rnF V P m)).1.length = (stp V' (P m) (rnF V' P m)).1.length
    generalize rnF V P m = a at ih
    generalize rnF V' P m = b at ih
    obtain ⟨a1, a2⟩ := a
    obtain ⟨b1, b2⟩ := b
    have ih : a1.length = b1.length := ih
    unfold stp
    by_cases y : 16 ≤ (P m).1
    · rw [if_pos y, if_pos y]
      show a1.length + 1 = b1.length + 1
      rw [ih]
    · rw [if_neg y, if_neg y]
      by_cases z : 11 ≤ (P m).1
      · rw [if_pos z, if_pos z]
        cases a1 with
        | nil => cases b1 with
          | nil => rfl
          | cons u v => exact absurd ih (by show ¬ 0 = v.length + 1; omega)
        | cons s t => cases b1 with
          | nil => exact absurd ih (by show ¬ t.length + 1 = 0; omega)
          | cons u v => exact ih
      · rw [if_neg z, if_neg z]
        cases a1 with
        | nil => cases b1 with
          | nil => rfl
          | cons u v => exact absurd ih (by show ¬ 0 = v.length + 1; omega)
        | cons s t => cases b1 with
          | nil => exact absurd ih (by show ¬ t.length + 1 = 0; omega)
          | cons u v =>
            have ih : t.length + 1 = v.length + 1 := ih
            cases t with
            | nil => cases v with
              | nil => rfl
              | cons g h => exact absurd ih (by show ¬ 0 + 1 = h.length + 1 + 1; omega)
            | cons s' t' => cases v with
              | nil => exact absurd ih (by show ¬ t'.length + 1 + 1 = 0 + 1; omega)
              | cons g h =>
                show t'.length + 1 = h.length + 1
                have ih : t'.length + 1 + 1 = h.length + 1 + 1 := ih
                omega
/-- a row of signs that makes one value makes one for every valuation -/
def one (P : Nat → Tp) (m : Nat) : Prop := ∀ V : Tp → Int32 × Bool, rnF V P m = ([zV V P m], mV V P m, dV V P m)
theorem one_1 {V : Tp → Int32 × Bool} {P : Nat → Tp} {m : Nat} {z : Int32} {ms dv : Bool} (h : rnF V P m = ([z], ms, dv)) : one P m := fun V' => by
  have l := rn_l (V := V') (V' := V) (P := P) m
  rw [h] at l
  have l : (rnF V' P m).1.length = 1 := l
  unfold zV mV dV
  generalize rnF V' P m = a at l
  obtain ⟨a1, a2, a3⟩ := a
  have l : a1.length = 1 := l
  obtain ⟨v, hv⟩ := ls_i l
  subst hv
  rfl
/-- what a fixed expression may be: 5, 9, 6 are its faults -/
def fxR (fx : Bool) (z : Int32) (dv : Bool) (lo hi : Int32) : Nat := if fx = false then 5 else if dv = true then 9 else if z < lo ∨ hi < z then 6 else 0
theorem vC_u {BC : St} {cs tp st ns : Nat} {fx : Bool} {C A S NM BK : Nat → Int32} {p' κ q : Nat} {x : Int32} {tr : Int32} {S' : Nat → Int32} : vC (uC (xC BC cs tp st ns fx C A S NM BK) p' κ q x) 1 tr S' = uC (xC (pI BC 11 tr) cs 1 st ns fx C A S' NM BK) p' κ q x := Prod.ext (funext fun j => by
  unfold vC uC xC pI
  by_cases h6 : j = 6
  · subst h6; rfl
  · by_cases h11 : j = 11
    · subst h11; rfl
    · simp only [if_neg h6, if_neg h11]) (Prod.ext rfl (Prod.ext (funext fun j => by
  unfold vC uC xC pI
  by_cases h2 : j = 2
  · subst h2; rfl
  · simp only [if_neg h2]) rfl))
theorem fix_C {n : Nat} {B : St} {sn lu ln se co : Nat} {od : Int32} {SW LW : Nat → Int32} {BC : St} {cs tp st ns : Nat} {fx : Bool} {C A S NM BK : Nat → Int32} {p' κ q : Nat} {x : Int32} {c X : Nat → Nat} {e nL : Nat} {W NRp C0 A0 : Nat → Int32} {s0 m : Nat} {bs ws : Nat → Nat} {P : Nat → Tp} (hn : 70000 < n) (hns : ns ≤ 16384) (hC : CR NRp c e C0 A0 s0 ns bs ws m P C A) (h21 : C (s0 + m) = 21) (hm : s0 + m < cs) (hcs : cs ≤ 32832) (hN : NTB c X nL W ns NM bs ws) (hfx : fx = true ↔ fxQ c e bs ws NM ns m P) (ho : one P m) (sx : Nat) (ts : Int32) (lo hi : Int32) : ∃ (BC' : St) (tp' : Nat) (S' : Nat → Int32), (BC' = BC ∨ ∃ tr : Int32, BC' = pI BC 11 tr) ∧ df_X1_fixed n (nI s0) lo hi (qC B sn lu 0 ln se od co SW LW, uC (xC BC cs tp st ns fx C A S NM BK) p' κ q x) = some (if fxR fx (zV (VV c X e nL sx ts 0 W) P m) (dV (VV c X e nL sx ts 0 W) P m) lo hi = 0 then zV (VV c X e nL sx ts 0 W) P m else 0, (qC B sn lu (nI (fxR fx (zV (VV c X e nL sx ts 0 W) P m) (dV (VV c X e nL sx ts 0 W) P m) lo hi)) ln se od co SW LW, uC (xC BC' cs tp' st ns fx C A S' NM BK) p' κ q x)) := by
  unfold df_X1_fixed df_X1_fixed_0
  rw [if_pos (show sI (qC B sn lu 0 ln se od co SW LW, uC (xC BC cs tp st ns fx C A S NM BK) p' κ q x).1 2 = 0 from rfl), if_neg (show ¬ nI s0 < (0 : Int32) from znl (b := 0) (Nat.zero_le _) (by omega))]
  show ∃ (BC' : St) (tp' : Nat) (S' : Nat → Int32), _ ∧ (if bI fx = 0 then _ else _) = _
  cases fx with
  | false =>
    refine ⟨BC, tp, S, Or.inl rfl, ?_⟩
    rw [if_pos (show bI false = 0 from rfl)]
    unfold df_X1_fixed_23 df_X1_fixed_33
    rw [if_pos (show (0 : Int32) ≤ nI s0 from zle (a := 0) (Nat.zero_le _) (by omega)), blm_C, nb_b1]
    rfl
  | true =>
    rw [if_neg (show ¬ bI true = 0 by decide)]
    have hl := (fx_lo hC hN).mp (hfx.mp rfl)
    have eh := evH_f (n := n) (B := uC (xC BC cs tp st ns true C A S NM BK) p' κ q x) (hr := 0) (st := sx) (ts := ts) hns hC hN hl
    have ms : mV (VV c X e nL sx ts 0 W) P m = false := by
      refine rn_ms m (fun i hi h16 => ?_)
      have hh := (lsF_0 m).mp hl i hi h16
      have cp := CR_P hC i hi
      generalize P i = o at hh cp h16
      obtain ⟨κ, q, v⟩ := o
      have h16 : 16 ≤ κ := h16
      have cp : 1 ≤ κ ∧ κ ≤ 20 ∧ ¬ κ = 15 := cp
      rcases (show κ = 16 ∨ κ = 17 ∨ κ = 18 ∨ κ = 19 ∨ κ = 20 by omega) with z | z | z | z | z
      · subst z; rfl
      · subst z
        have hh : (!(decide (nmK c X nL q (eT c e q - q) < nL) && decide (X (nmK c X nL q (eT c e q - q)) / 131072 = 2))) = false := hh
        rw [Bool.not_eq_false', Bool.and_eq_true] at hh
        have y := of_decide_eq_true hh.1
        show (if nmK c X nL q (eT c e q - q) < nL then (vlO ts X W (nmK c X nL q (eT c e q - q)), false) else ((0 : Int32), true)).2 = false
        rw [if_pos y]
      all_goals (subst z; exact absurd hh (by decide : ¬ true = false))
    obtain ⟨S', e1⟩ := evl_all hn eh (fun i hi => (hC.2 i hi).1) (CR_P hC) (cs := cs) xC_u5 hcs hm h21 _ _ _ (ho _)
    rw [ms] at e1
    refine ⟨pI BC 11 (trO false (dV (VV c X e nL sx ts 0 W) P m)), 1, S', Or.inr ⟨_, rfl⟩, ?_⟩
    rw [show df_X9_evaluate n (nI s0) 0 (qC B sn lu 0 ln se od co SW LW, uC (xC BC cs tp st ns true C A S NM BK) p' κ q x).2 = _ from e1, nb_b2, vC_u, nb_let]
    generalize zV (VV c X e nL sx ts 0 W) P m = z
    cases dV (VV c X e nL sx ts 0 W) P m with
    | true =>
      rw [if_neg (show ¬ sI (qC B sn lu 0 ln se od co SW LW, uC (xC (pI BC 11 (trO false true)) cs 1 st ns true C A S' NM BK) p' κ q x).2 11 = 0 from (by decide : ¬ (9 : Int32) = 0))]
      unfold df_X1_fixed_71 df_X1_fixed_94
      rw [if_neg (show ¬ sI (qC B sn lu 0 ln se od co SW LW, uC (xC (pI BC 11 (trO false true)) cs 1 st ns true C A S' NM BK) p' κ q x).2 11 = 0 from (by decide : ¬ (9 : Int32) = 0))]
      rw [blm_C, nb_b1]
      rfl
    | false =>
      rw [if_pos (show sI (qC B sn lu 0 ln se od co SW LW, uC (xC (pI BC 11 (trO false false)) cs 1 st ns true C A S' NM BK) p' κ q x).2 11 = 0 from rfl)]
      unfold df_X1_fixed_71 df_X1_fixed_94 fxR
      rw [if_pos (show sI (qC B sn lu 0 ln se od co SW LW, uC (xC (pI BC 11 (trO false false)) cs 1 st ns true C A S' NM BK) p' κ q x).2 11 = 0 from rfl), blm_C, nb_b1, if_neg (show ¬ true = false by decide), if_neg (show ¬ false = true by decide)]
      by_cases a1 : z < lo
      · rw [if_pos a1, if_pos (Or.inl a1), if_neg (show ¬ (6 : Nat) = 0 by decide)]; rfl
      · rw [if_neg a1]
        by_cases a2 : hi < z
        · rw [if_neg (show ¬ z ≤ hi from Int32.not_le.mpr a2), if_pos (Or.inr a2), if_neg (show ¬ (6 : Nat) = 0 by decide)]; rfl
        · rw [if_pos (show z ≤ hi from Int32.not_lt.mp a2), if_neg (show ¬ (z < lo ∨ hi < z) from fun w => by rcases w with w | w; exact a1 w; exact a2 w), if_pos rfl]; rfl
/-- the same in the reference -/
theorem fix_R {n L e : Nat} {c : Nat → Nat} {BC B : St} {X : Nat → Nat} {nL st cu : Nat} (hV : RV n L e c BC B X nL cu) {ct : Nat} {gr : Bool} {PA BY OU : Nat → Int32} (hY : PY PA cu st) {p : Nat} {S : St} (h : SR B ct gr PA BY OU 0 p S) (hm : sI B 15 = 0) {p2 m : Nat} {P : Nat → Tp} (R : RX n L e c BC p true p2 m P) (lo hi : Int32) : ∃ (w : Int32) (S' : St), df_X13_fixed n lo hi S = some (w, S') ∧ p2 ≤ e ∧ w = zV (VW c X e nL st B) P m ∧ (fxR (!lsF (loV c X e nL) P m) w (dV (VW c X e nL st B) P m) lo hi = 0 → SR B ct gr PA BY OU 0 p2 S') ∧ (¬ fxR (!lsF (loV c X e nL) P m) w (dV (VW c X e nL st B) P m) lo hi = 0 → FL e B (nI (fxR (!lsF (loV c X e nL) P m) w (dV (VW c X e nL st B) P m) lo hi) + 16 * sI B 13) S') ∧ one P m := by
  obtain ⟨w, S1, ms, dv, e1, e2, e3, e4, e5, e6, e7⟩ := exp_y hV hY h R
  have x0 : exF B ms dv = 0 := if_neg (fun z => by have := z.1; rw [hm] at this; exact absurd this (by decide))
  rw [x0] at e2
  obtain ⟨z1, z2, z3⟩ := zmd e6
  have o1 := one_1 e6
  rw [← z3]
  have hd : df_X13_fixed n lo hi S = (if bI (lsF (loV c X e nL) P m) = 0 then (if bI dv = 0 then (if w < lo then df_X13_fixed_60 n w S1 else (if w ≤ hi then df_X13_fixed_66 n w S1 else df_X13_fixed_60 n w S1)) else nd_b1 (df_X13_blame n 9 S1) (fun (s : St) => df_X13_fixed_66 n w s)) else nd_b1 (df_X13_blame n 5 S1) (fun (s : St) => df_X13_fixed_66 n w s)) := by
    unfold df_X13_fixed df_X13_fixed_0
    rw [e1, nb_b2, if_pos ((SR_15 e2).trans hm), if_pos (SR_12 e2), e7, e5]
  have bad : ∀ f : Nat, (∃ S2 : St, df_X13_blame n (nI f) S1 = some S2 ∧ SR B ct gr PA BY OU (nI f + 16 * sI B 13) p2 S2) := fun f => blm_S (n := n) e2 (nI f)
  generalize lsF (loV c X e nL) P m = lb at hd ⊢
  cases lb with
  | true =>
    obtain ⟨S2, b1, b2⟩ := bad 5
    have b1 : df_X13_blame n 5 S1 = some S2 := b1
    refine ⟨w, S2, ?_, e3, z1, fun u => absurd (show (5 : Nat) = 0 from u) (by decide), fun _ => SR_FL b2 e3, o1⟩
    rw [hd, if_neg (show ¬ bI true = 0 by decide), b1, nb_b1]
    rfl
  | false =>
    rw [if_pos (show bI false = 0 from rfl)] at hd
    cases dv with
    | true =>
      obtain ⟨S2, b1, b2⟩ := bad 9
      have b1 : df_X13_blame n 9 S1 = some S2 := b1
      refine ⟨w, S2, ?_, e3, z1, fun u => absurd (show (9 : Nat) = 0 from u) (by decide), fun _ => SR_FL b2 e3, o1⟩
      rw [hd, if_neg (show ¬ bI true = 0 by decide), b1, nb_b1]
      rfl
    | false =>
      rw [if_pos (show bI false = 0 from rfl)] at hd
      obtain ⟨S2, b1, b2⟩ := bad 6
      have b1 : df_X13_blame n 6 S1 = some S2 := b1
      have s60 : df_X13_fixed_60 n w S1 = some (w, S2) := by
        unfold df_X13_fixed_60 df_X13_fixed_66
        rw [b1, nb_b1]
      have fx : fxR (!false) w false lo hi = if w < lo ∨ hi < w then 6 else 0 := rfl
      by_cases a1 : w < lo
      · refine ⟨w, S2, ?_, e3, z1, fun u => ?_, fun _ => ?_, o1⟩
        · rw [hd, if_pos a1, s60]
        · rw [fx, if_pos (Or.inl a1)] at u; exact absurd u (by decide)
        · rw [fx, if_pos (Or.inl a1)]; exact SR_FL b2 e3
      · by_cases a2 : hi < w
        · refine ⟨w, S2, ?_, e3, z1, fun u => ?_, fun _ => ?_, o1⟩
          · rw [hd, if_neg a1, if_neg (show ¬ w ≤ hi from Int32.not_le.mpr a2), s60]
          · rw [fx, if_pos (Or.inr a2)] at u; exact absurd u (by decide)
          · rw [fx, if_pos (Or.inr a2)]; exact SR_FL b2 e3
        · refine ⟨w, S1, ?_, e3, z1, fun _ => e2, fun u => ?_, o1⟩
          · rw [hd, if_neg a1, if_pos (show w ≤ hi from Int32.not_lt.mp a2)]
            rfl
          · rw [fx, if_neg (fun z => by rcases z with z | z; exact a1 z; exact a2 z)] at u; exact absurd rfl u
theorem fix_f {n L e : Nat} {c : Nat → Nat} {BC B : St} {X : Nat → Nat} {nL st cu : Nat} (hV : RV n L e c BC B X nL cu) {ct : Nat} {gr : Bool} {PA BY OU : Nat → Int32} (hY : PY PA cu st) {p : Nat} {S : St} (h : SR B ct gr PA BY OU 0 p S) {p2 m : Nat} {P : Nat → Tp} (R : RX n L e c BC p false p2 m P) (lo hi : Int32) : ∃ (w : Int32) (S' : St), df_X13_fixed n lo hi S = some (w, S') ∧ FL e B (nI 1 + 16 * sI B 13) S' := by
  obtain ⟨w, S1, e1, fl⟩ := exp_n hV hY h R
  have ne : ¬ nI 1 + 16 * sI B 13 = 0 := flt_n hV.2.2.2.2.2.2.2 1 (by omega)
  have fl : FL e B (nI 1 + 16 * sI B 13) S1 := fl
  refine ⟨w, S1, ?_, fl⟩
  unfold df_X13_fixed df_X13_fixed_0 df_X13_fixed_66
  rw [e1, nb_b2, if_neg (show ¬ sI S1 12 = 0 by rw [(FL_f fl).1]; exact ne)]
  split <;> rfl
theorem fix_M {n L e : Nat} {c : Nat → Nat} {BC B : St} {X : Nat → Nat} {nL st cu : Nat} (hV : RV n L e c BC B X nL cu) {ct : Nat} {gr : Bool} {PA BY OU : Nat → Int32} (hY : PY PA cu st) {p : Nat} {S : St} (h : SR B ct gr PA BY OU 0 p S) (hm : ¬ sI B 15 = 0) {p2 m : Nat} {P : Nat → Tp} (R : RX n L e c BC p true p2 m P) (lo hi : Int32) : ∃ S' : St, df_X13_fixed n lo hi S = some (zV (VW c X e nL st B) P m, S') ∧ p2 ≤ e ∧ SR B ct gr PA BY OU (exF B (mV (VW c X e nL st B) P m) (dV (VW c X e nL st B) P m)) p2 S' := by
  obtain ⟨w, S1, ms, dv, e1, e2, e3, e4, e5, e6, e7⟩ := exp_y hV hY h R
  obtain ⟨z1, z2, z3⟩ := zmd e6
  rw [z2, z3] at e2
  rw [z1] at e1
  refine ⟨S1, ?_, e3, e2⟩
  unfold df_X13_fixed df_X13_fixed_0 df_X13_fixed_66
  rw [e1, nb_b2, if_neg (by rw [SR_15 e2]; exact hm)]
