/-- findAddresses() of the class: the whole of it -/
def bsN (t : Nat) : Nat := (t + 1023) / 1024 * 1024
theorem bs_C {t : Nat} (h : t ≤ 2 ^ 30) : ((((nI t + 1024) - 1) / 1024) * 1024 : Int32) = nI (bsN t) := by
  rw [show (1024 : Int32) = nI 1024 from rfl, nI_add, show (1 : Int32) = nI 1 from rfl, pk_sub (by omega), show t + 1024 - 1 = t + 1023 by omega, nm_div (by omega) (by omega) (by omega), pk_mul]
  rfl
theorem bs_R {t : Nat} (h : t ≤ 2 ^ 30) : bseO (nI t) = nI (bsN t) := by
  unfold bseO
  rw [show (1023 : Int32) = nI 1023 from rfl, nI_add, show (1024 : Int32) = nI 1024 from rfl, nm_div (by omega) (by omega) (by omega), pk_mul]
  rfl
theorem fa_C {n : Nat} {Q U : St} {sn nl : Nat} (hn : 70000 < n) (h0 : sI Q 0 = nI sn) (h9 : sI U 9 = nI nl) (hsn : sn ≤ 8194) (hnl : nl ≤ 16384) (cS cZ : Nat → Nat) (hcZ : ∀ j : Nat, cZ j < 2) (hm : ∀ j j' : Nat, j < j' → j' < nl → cS j ≤ cS j') (hcs : ∀ j : Nat, j < nl → cS j ≤ sn) (hL0 : ∀ j : Nat, j < nl → sR U 6 (5 * j) = nI (cS j) ∧ sR U 6 (5 * j + 1) = nI (cZ j)) (F : Nat → Nat × Nat) (hF0 : F 0 = (0, 0)) (hFs : (F sn).1 ≤ 2 ^ 30) (z kd ln pl : Nat → Nat) (hst : ∀ i : Nat, i < sn → z i < 2 ∧ pl i = (if z i = 1 then (F i).2 else (F i).1) ∧ F (i + 1) = (if z i = 1 then ((F i).1, (F i).2 + ln i) else ((F i).1 + ln i, (F i).2)) ∧ sR Q 0 (8 * i + 1) = nI (z i) ∧ sR Q 0 (8 * i + 4) = nI (kd i) ∧ kd i < 10 ∧ (kd i = 8 → nI (ln i) = (-nI (pl i)) &&& (sR Q 0 (8 * i + 5) - 1)) ∧ (¬ kd i = 8 → sR Q 0 (8 * i + 3) = nI (ln i))) (v : Nat → Nat) (hv : ∀ j : Nat, j < nl → v j = if cZ j = 0 then (F (cS j)).1 else (F (cS j)).2) : df_X1_findAddresses n (Q, U) = some (pI (pR (pI (pI Q 7 (nI (F sn).1)) 8 (nI (bsN (F sn).1))) 0 (SWm (SWf (sR Q 0) pl ln sn) z (nI (bsN (F sn).1)) sn)) 9 (if nI (F sn).2 ≤ 0 then nI (F sn).1 else nI (bsN (F sn).1) + nI (F sn).2), pR U 6 (LBm (LBf (sR U 6) v nl) cZ (nI (bsN (F sn).1)) nl)) := by
  have r := fa_9 (n := n) (Q := Q) (U := U) (sn := sn) (nl := nl) (SW := sR Q 0) (LB := sR U 6) hn h0 h9 hsn hnl cS cZ hcZ hm hcs hL0 F z kd ln pl hst v hv sn 0 n (by omega) (by omega)
  rw [hF0, lC_0 hm, SWf_0, LBf_0, nm_r0, nm_r0] at r
  unfold df_X1_findAddresses df_X1_findAddresses_0
  refine Eq.trans r ?_
  rw [nb_let, nb_let, bs_C hFs]
  have key : ∀ w : Int32, df_X1_findAddresses_226 n w (pI (pI (pR Q 0 (SWf (sR Q 0) pl ln sn)) 7 (nI (F sn).1)) 8 (nI (bsN (F sn).1)), pR U 6 (LBf (sR U 6) v nl)) = some (pI (pR (pI (pI Q 7 (nI (F sn).1)) 8 (nI (bsN (F sn).1))) 0 (SWm (SWf (sR Q 0) pl ln sn) z (nI (bsN (F sn).1)) sn)) 9 w, pR U 6 (LBm (LBf (sR U 6) v nl) cZ (nI (bsN (F sn).1)) nl)) := fun w => by
    unfold df_X1_findAddresses_226 df_X1_moveData df_X1_moveData_0
    rw [nb_let]
    have eQ : pI (pI (pI (pR Q 0 (SWf (sR Q 0) pl ln sn)) 7 (nI (F sn).1)) 8 (nI (bsN (F sn).1))) 9 w = pR (pI (pI (pI Q 7 (nI (F sn).1)) 8 (nI (bsN (F sn).1))) 9 w) 0 (SWm (SWf (sR Q 0) pl ln sn) z (nI (bsN (F sn).1)) 0) := by
      have e : SWm (SWf (sR Q 0) pl ln sn) z (nI (bsN (F sn).1)) 0 = SWf (sR Q 0) pl ln sn := funext fun x => if_neg (by omega)
      rw [e]
      rfl
    have m1 := mv_2 (n := n) (Q := pI (pI (pI Q 7 (nI (F sn).1)) 8 (nI (bsN (F sn).1))) 9 w) (U := U) (sn := sn) (D := nI (bsN (F sn).1)) (SW := SWf (sR Q 0) pl ln sn) (LB := LBf (sR U 6) v nl) rfl h0 hsn z (fun i hi => ⟨(hst i hi).1, by rw [SWf_r (by omega) (by omega) (by omega)]; exact (hst i hi).2.2.2.1⟩) sn 0 n (by omega) (by omega)
    have m2 := mv_51 (n := n) (Q := pR (pI (pI (pI Q 7 (nI (F sn).1)) 8 (nI (bsN (F sn).1))) 9 w) 0 (SWm (SWf (sR Q 0) pl ln sn) z (nI (bsN (F sn).1)) sn)) (U := U) (nl := nl) (D := nI (bsN (F sn).1)) (LB := LBf (sR U 6) v nl) rfl h9 hnl cZ (fun j hj => ⟨hcZ j, by rw [LBf_r (by omega) (by omega)]; exact (hL0 j hj).2⟩) nl 0 n (by omega) (by omega)
    have e5 : LBm (LBf (sR U 6) v nl) cZ (nI (bsN (F sn).1)) 0 = LBf (sR U 6) v nl := funext fun x => if_neg (by omega)
    rw [e5] at m2
    show nd_b1 (df_X1_moveData_2 n n 0 (pI (pI (pI (pR Q 0 (SWf (sR Q 0) pl ln sn)) 7 (nI (F sn).1)) 8 (nI (bsN (F sn).1))) 9 w, pR U 6 (LBf (sR U 6) v nl))) _ = _
    rw [eQ, show df_X1_moveData_2 n n 0 (pR (pI (pI (pI Q 7 (nI (F sn).1)) 8 (nI (bsN (F sn).1))) 9 w) 0 (SWm (SWf (sR Q 0) pl ln sn) z (nI (bsN (F sn).1)) 0), pR U 6 (LBf (sR U 6) v nl)) = _ from m1, show df_X1_moveData_51 n n 0 (pR (pI (pI (pI Q 7 (nI (F sn).1)) 8 (nI (bsN (F sn).1))) 9 w) 0 (SWm (SWf (sR Q 0) pl ln sn) z (nI (bsN (F sn).1)) sn), pR U 6 (LBf (sR U 6) v nl)) = _ from m2, nb_b1]
    rfl
  by_cases y : nI (F sn).2 ≤ 0
  · rw [if_pos y, if_pos y]
    exact key _
  · rw [if_neg y, if_neg y]
    exact key _
