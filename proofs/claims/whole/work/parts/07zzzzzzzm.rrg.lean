/-- the class: a register -/
theorem bl_X1 {n : Nat} {s1 s2 : St} (v : Int32) (h : sI s1 2 = 0) : df_X1_blame n v (s1, s2) = some (pI s1 2 v, s2) := by
  unfold df_X1_blame df_X1_blame_0 df_X1_blame_12
  rw [if_pos h, nb_let]
theorem rrg_C {n L e : Nat} {c : Nat → Nat} {BC BR0 : St} (hT0 : atx n L e c BC BR0) {cs tp st ns : Nat} {fx : Bool} {C A S NM BK : Nat → Int32} (s1 : St) (h2 : sI s1 2 = 0) (lt : Int32) (F : Nat → Bool) (D : Nat → Int32) (hF : ∀ r : Nat, r < 32 → df_X7_fits n lt (nI r) () = some (bI (F r), ())) (hD : ∀ r : Nat, r < 32 → df_X7_placed n lt (nI r) () = some (D r, ())) (p q p' κ τ v : Nat) (x : Int32) (hT : TS n L e c BC p q p' κ τ v x) : (tkG c τ q p' = 33 → df_X1_readRegister n lt (s1, (uC (xC BC cs tp st ns fx C A S NM BK) p' κ q x)) = some (0, (pI s1 2 1, (uC (xC BC cs tp st ns fx C A S NM BK) p' κ q x)))) ∧ (tkG c τ q p' = 32 ∨ (tkG c τ q p' < 32 ∧ F (tkG c τ q p') = false) → df_X1_readRegister n lt (s1, (uC (xC BC cs tp st ns fx C A S NM BK) p' κ q x)) = some (0, (pI s1 2 3, (uC (xC BC cs tp st ns fx C A S NM BK) p' κ q x)))) ∧ (tkG c τ q p' < 32 ∧ F (tkG c τ q p') = true → ∃ (q2 p2 κ2 τ2 v2 : Nat) (x2 : Int32), df_X1_readRegister n lt (s1, (uC (xC BC cs tp st ns fx C A S NM BK) p' κ q x)) = some (D (tkG c τ q p'), (s1, (uC (xC BC cs tp st ns fx C A S NM BK) p2 κ2 q2 x2))) ∧ TS n L e c BC p' q2 p2 κ2 τ2 v2 x2) := by
  obtain ⟨hn, hL, heL, h127, hend, hce, hO, hst, htC, h0, htR, hch⟩ := id hT0
  obtain ⟨t1, t2, t3, t4, t5, t6, t7, t8, t9⟩ := id hT
  have k6 : κ ≤ 6 := by unfold tkK at t7; omega
  have kt : (κ = 0 ∨ κ = 6 ↔ τ = 0 ∨ τ = 5) ∧ (κ = 1 ↔ τ = 1) := by
    by_cases y : κ = 5
    · subst y
      have := tk_5 t7
      omega
    · have h := tk_n t7 y
      unfold tkK at t7
      omega
  have e33 : κ = 0 ∨ κ = 6 → df_X1_readRegister n lt (s1, (uC (xC BC cs tp st ns fx C A S NM BK) p' κ q x)) = some (0, (pI s1 2 1, (uC (xC BC cs tp st ns fx C A S NM BK) p' κ q x))) := fun z => by
    unfold df_X1_readRegister df_X1_readRegister_0 df_X1_readRegister_31
    rw [if_pos h2, bl_X1 1 h2, nb_b1, uC_i2]
    rcases z with z | z
    · rw [if_pos (show nI κ = (0 : Int32) from congrArg nI z)]
    · rw [if_neg (show ¬ nI κ = (0 : Int32) from zne (b := 0) (by omega) (by omega) (by omega)), if_pos (show nI κ = (6 : Int32) from congrArg nI z)]
  have hd : ¬ (κ = 0 ∨ κ = 6) → df_X1_readRegister n lt (s1, (uC (xC BC cs tp st ns fx C A S NM BK) p' κ q x)) = df_X1_readRegister_87 n lt (if tkG c τ q p' < 32 then nI (tkG c τ q p') else -1) (s1, (uC (xC BC cs tp st ns fx C A S NM BK) p' κ q x)) := fun z => by
    unfold df_X1_readRegister df_X1_readRegister_0
    rw [if_pos h2, uC_i2, if_neg (show ¬ nI κ = (0 : Int32) from zne (b := 0) (by omega) (by omega) (by omega)), if_neg (show ¬ nI κ = (6 : Int32) from zne (b := 6) (by omega) (by omega) (by omega)), uC_i0, uC_i3, show nI p' - nI q = nI (p' - q) from pk_sub (by omega), nb_let]
    by_cases y : κ = 1
    · have y2 := kt.2.mp y
      have lt31 : q < e ∧ p' = eT c e q := by unfold tkK at t7; omega
      have cr := cr_1 n q (p' - q) (c := c) (B := pR nd_st0 0 (sR (uC (xC BC cs tp st ns fx C A S NM BK) p' κ q x) 7)) (by omega) (by omega) h127 (by omega) (fun i hi => (eT_1 c (show q ≤ e by omega)).2.2.2 (q + i) (by omega) (by omega)) (fun i hi => htC _ (by omega))
      have g : tkG c τ q p' = reS (p' - q) (c q) (c (q + 1)) (c (q + 2)) (c (q + 3)) := by unfold tkG; rw [if_neg (by omega), if_pos y2]
      rw [if_pos (show nI κ = (1 : Int32) from congrArg nI y), uC_o, xC_o0, o8S hO, cr, nb_b2, show pR (uC (xC BC cs tp st ns fx C A S NM BK) p' κ q x) 7 (sR (pR nd_st0 0 (sR (uC (xC BC cs tp st ns fx C A S NM BK) p' κ q x) 7)) 0) = (uC (xC BC cs tp st ns fx C A S NM BK) p' κ q x) from nm_r0 _ 7, nb_let, g]
      rfl
    · have g : tkG c τ q p' = 32 := by unfold tkG; rw [if_neg (by omega), if_neg (by omega)]
      rw [if_neg (show ¬ nI κ = (1 : Int32) from zne (b := 1) y (by omega) (by omega)), g, if_neg (Nat.lt_irrefl 32)]
  refine ⟨fun z => ?_, fun z => ?_, fun z => ?_⟩
  · refine e33 (Classical.byContradiction fun w => ?_)
    have rl := reS_l (p' - q) (c q) (c (q + 1)) (c (q + 2)) (c (q + 3))
    unfold tkG at z
    rw [if_neg (fun u => w (kt.1.mpr u))] at z
    split at z <;> omega
  · have nk : ¬ (κ = 0 ∨ κ = 6) := fun w => by
      have g : tkG c τ q p' = 33 := by unfold tkG; rw [if_pos (kt.1.mp w)]
      omega
    rw [hd nk]
    unfold df_X1_readRegister_87 df_X1_readRegister_100
    rw [bl_X1 3 h2, nb_b1]
    rcases z with z | z
    · rw [z, if_neg (Nat.lt_irrefl 32), if_pos (show (-1 : Int32) < 0 by decide)]
    · rw [if_pos z.1, if_neg (show ¬ nI (tkG c τ q p') < (0 : Int32) from znl (b := 0) (Nat.zero_le _) (by omega)), hF _ z.1, nb_b2, z.2, if_pos (show bI false = 0 from rfl)]
  · have nk : ¬ (κ = 0 ∨ κ = 6) := fun w => by
      have g : tkG c τ q p' = 33 := by unfold tkG; rw [if_pos (kt.1.mp w)]
      omega
    obtain ⟨q2, p2, κ2, τ2, v2, x2, n1, n2⟩ := nx_1 hT0 (cs := cs) (tp := tp) (st := st) (ns := ns) (fx := fx) (C := C) (A := A) (S := S) (NM := NM) (BK := BK) p' κ q x t5 (fun i i1 i2 => t2 i (by omega) i2)
    refine ⟨q2, p2, κ2, τ2, v2, x2, ?_, n2⟩
    rw [hd nk]
    unfold df_X1_readRegister_87
    rw [if_pos z.1, if_neg (show ¬ nI (tkG c τ q p') < (0 : Int32) from znl (b := 0) (Nat.zero_le _) (by omega)), hF _ z.1, nb_b2, z.2, if_neg (show ¬ bI true = 0 by decide), n1, nb_b1, nb_let, hD _ z.1, nb_b2]
