/-- the class: a sign that must be there -/
theorem xpt_C {n L e : Nat} {c : Nat → Nat} {BC BR0 : St} (hT0 : atx n L e c BC BR0) {cs tp st ns : Nat} {fx : Bool} {C A S NM BK : Nat → Int32} (s1 : St) (h2 : sI s1 2 = 0) (y : Nat) (hy : 37 ≤ y ∧ y ≤ 126) (p q p' κ τ v : Nat) (x : Int32) (hT : TS n L e c BC p q p' κ τ v x) : (τ = y → ∃ (q2 p2 κ2 τ2 v2 : Nat) (x2 : Int32), df_X1_expect n (nI y) (s1, (uC (xC BC cs tp st ns fx C A S NM BK) p' κ q x)) = some (s1, (uC (xC BC cs tp st ns fx C A S NM BK) p2 κ2 q2 x2)) ∧ TS n L e c BC p' q2 p2 κ2 τ2 v2 x2) ∧ (¬ τ = y → df_X1_expect n (nI y) (s1, (uC (xC BC cs tp st ns fx C A S NM BK) p' κ q x)) = some (pI s1 2 1, (uC (xC BC cs tp st ns fx C A S NM BK) p' κ q x))) := by
  obtain ⟨t1, t2, t3, t4, t5, t6, t7, t8, t9⟩ := id hT
  have k6 : κ ≤ 6 := by unfold tkK at t7; omega
  have kk : τ = y ↔ (κ = 5 ∧ x = nI y) := by
    by_cases z : κ = 5
    · subst z
      have h5 := tk_5 t7
      have hx := t8 (Or.inr (Or.inr rfl))
      rw [hx]
      constructor
      · intro w
        exact ⟨rfl, congrArg nI (by omega)⟩
      · intro w
        have w2 := w.2
        rw [nI_eq (by omega) (by omega)] at w2
        omega
    · have := (tk_n t7 z).1
      exact ⟨fun w => by omega, fun w => absurd w.1 z⟩
  constructor
  · intro z
    obtain ⟨q2, p2, κ2, τ2, v2, x2, n1, n2⟩ := nx_1 hT0 (cs := cs) (tp := tp) (st := st) (ns := ns) (fx := fx) (C := C) (A := A) (S := S) (NM := NM) (BK := BK) p' κ q x t5 (fun i i1 i2 => t2 i (by omega) i2)
    refine ⟨q2, p2, κ2, τ2, v2, x2, ?_, n2⟩
    unfold df_X1_expect df_X1_expect_0 df_X1_expect_23 df_X1_expect_37
    rw [if_pos h2, xs_1 k6, nb_b2, nb_let, decide_eq_true (kk.mp z), if_neg (show ¬ bI true = 0 by decide), if_pos h2, n1, nb_b1, nb_let]
  · intro z
    unfold df_X1_expect df_X1_expect_0 df_X1_expect_23 df_X1_expect_37
    rw [if_pos h2, xs_1 k6, nb_b2, nb_let, decide_eq_false (fun w => z (kk.mpr w)), if_pos (show bI false = 0 from rfl), bl_X1 1 h2, nb_b1]
    have e : sI (pI s1 2 1) 2 = 1 := rfl
    rw [e, if_neg (show ¬ (1 : Int32) = 0 by decide)]
