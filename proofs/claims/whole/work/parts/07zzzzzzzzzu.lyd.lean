/-- labels before a statement of the class: how many stand before statement i -/
def lC (cS : Nat → Nat) (nl i : Nat) : Nat := fN (fun j => !decide (cS j < i)) 0 nl
theorem lC_1 {cS : Nat → Nat} {nl i : Nat} (hm : ∀ j j' : Nat, j < j' → j' < nl → cS j ≤ cS j') : lC cS nl i ≤ nl ∧ (∀ j : Nat, j < lC cS nl i → cS j < i) ∧ ∀ j : Nat, lC cS nl i ≤ j → j < nl → i ≤ cS j := by
  obtain ⟨a, b, d, f⟩ := fN_le (fun j => !decide (cS j < i)) nl 0
  have hb : lC cS nl i ≤ nl := by unfold lC; omega
  refine ⟨hb, fun j hj => ?_, fun j h1 h2 => ?_⟩
  · have g : (!decide (cS j < i)) = false := f j (Nat.zero_le _) hj
    exact Classical.byContradiction fun y => by
      rw [decide_eq_false y] at g
      exact absurd g (by decide)
  · have g : (!decide (cS (lC cS nl i) < i)) = true := d (by unfold lC at h1; omega)
    have g2 : i ≤ cS (lC cS nl i) := Nat.not_lt.mp fun y => by
      rw [decide_eq_true y] at g
      exact absurd g (by decide)
    by_cases z : lC cS nl i = j
    · rw [← z]; exact g2
    · have := hm (lC cS nl i) j (by omega) h2
      omega
theorem lC_0 {cS : Nat → Nat} {nl : Nat} (hm : ∀ j j' : Nat, j < j' → j' < nl → cS j ≤ cS j') : lC cS nl 0 = 0 := by
  have := (lC_1 (i := 0) hm).2.1 0
  omega
theorem lC_s {cS : Nat → Nat} {nl i : Nat} (hm : ∀ j j' : Nat, j < j' → j' < nl → cS j ≤ cS j') : lC cS nl i ≤ lC cS nl (i + 1) ∧ ∀ j : Nat, lC cS nl i ≤ j → j < lC cS nl (i + 1) → cS j = i := by
  obtain ⟨a1, a2, a3⟩ := lC_1 (i := i) hm
  obtain ⟨b1, b2, b3⟩ := lC_1 (i := i + 1) hm
  refine ⟨Nat.not_lt.mp fun z => ?_, fun j h1 h2 => ?_⟩
  · have := a2 (lC cS nl (i + 1)) z
    have := b3 (lC cS nl (i + 1)) (Nat.le_refl _) (by omega)
    omega
  · have := b2 j h2
    have := a3 j h1 (by omega)
    omega
/-- rows while addresses are found -/
def SWf (SW : Nat → Int32) (pl ln : Nat → Nat) (i : Nat) : Nat → Int32 := fun x => if x / 8 < i ∧ x % 8 = 2 then nI (pl (x / 8)) else if x / 8 < i ∧ x % 8 = 3 then nI (ln (x / 8)) else SW x
def LBf (LB : Nat → Int32) (v : Nat → Nat) (l : Nat) : Nat → Int32 := fun x => if x / 5 < l ∧ x % 5 = 2 then nI (v (x / 5)) else LB x
theorem SWf_0 {SW : Nat → Int32} {pl ln : Nat → Nat} : SWf SW pl ln 0 = SW := funext fun x => by
  unfold SWf
  rw [if_neg (by omega), if_neg (by omega)]
theorem LBf_0 {LB : Nat → Int32} {v : Nat → Nat} : LBf LB v 0 = LB := funext fun x => by
  unfold LBf
  rw [if_neg (by omega)]
theorem SWf_s {SW : Nat → Int32} {pl ln : Nat → Nat} {i : Nat} : upd (upd (SWf SW pl ln i) (8 * i + 2) (nI (pl i))) (8 * i + 3) (nI (ln i)) = SWf SW pl ln (i + 1) := funext fun x => by
  unfold SWf
  by_cases z3 : x = 8 * i + 3
  · rw [z3, up_e, if_neg (by omega), if_pos (by omega), show (8 * i + 3) / 8 = i by omega]
  · rw [up_n z3]
    by_cases z2 : x = 8 * i + 2
    · rw [z2, up_e, if_pos (by omega), show (8 * i + 2) / 8 = i by omega]
    · rw [up_n z2]
      by_cases y : x / 8 < i ∧ x % 8 = 2
      · rw [if_pos y, if_pos (by omega)]
      · rw [if_neg y, if_neg (show ¬ (x / 8 < i + 1 ∧ x % 8 = 2) by omega)]
        by_cases w : x / 8 < i ∧ x % 8 = 3
        · rw [if_pos w, if_pos (by omega)]
        · rw [if_neg w, if_neg (by omega)]
theorem SWf_o {SW : Nat → Int32} {pl ln : Nat → Nat} {i j k : Nat} (h : i ≤ j) (hk : k < 8) : SWf SW pl ln i (8 * j + k) = SW (8 * j + k) := by
  unfold SWf
  rw [if_neg (by omega), if_neg (by omega)]
theorem SWf_r {SW : Nat → Int32} {pl ln : Nat → Nat} {i j k : Nat} (hk : k < 8) (h2 : ¬ k = 2) (h3 : ¬ k = 3) : SWf SW pl ln i (8 * j + k) = SW (8 * j + k) := by
  unfold SWf
  rw [if_neg (by omega), if_neg (by omega)]
theorem LBf_s {LB : Nat → Int32} {v : Nat → Nat} {l j1 : Nat} (h : l ≤ j1) (u : Nat → Int32) (hu : ∀ j : Nat, l ≤ j → j < j1 → u j = nI (v j)) : plF (LBf LB v l) u l j1 = LBf LB v j1 := funext fun x => by
  unfold plF LBf
  by_cases y : x % 5 = 2 ∧ l ≤ x / 5 ∧ x / 5 < j1
  · rw [if_pos y, if_pos (by omega), hu _ y.2.1 y.2.2]
  · rw [if_neg y]
    by_cases w : x / 5 < l ∧ x % 5 = 2
    · rw [if_pos w, if_pos (by omega)]
    · rw [if_neg w, if_neg (by omega)]
theorem LBf_r {LB : Nat → Int32} {v : Nat → Nat} {l j k : Nat} (hk : k < 5) (h2 : ¬ k = 2) : LBf LB v l (5 * j + k) = LB (5 * j + k) := by
  unfold LBf
  rw [if_neg (by omega)]
/-- all statements -/
theorem fa_9 {n : Nat} {Q U : St} {sn nl : Nat} {SW LB : Nat → Int32} (hn : 70000 < n) (h0 : sI Q 0 = nI sn) (h9 : sI U 9 = nI nl) (hsn : sn ≤ 8194) (hnl : nl ≤ 16384) (cS cZ : Nat → Nat) (hcZ : ∀ j : Nat, cZ j < 2) (hm : ∀ j j' : Nat, j < j' → j' < nl → cS j ≤ cS j') (hcs : ∀ j : Nat, j < nl → cS j ≤ sn) (hL0 : ∀ j : Nat, j < nl → LB (5 * j) = nI (cS j) ∧ LB (5 * j + 1) = nI (cZ j)) (F : Nat → Nat × Nat) (z kd ln pl : Nat → Nat) (hst : ∀ i : Nat, i < sn → z i < 2 ∧ pl i = (if z i = 1 then (F i).2 else (F i).1) ∧ F (i + 1) = (if z i = 1 then ((F i).1, (F i).2 + ln i) else ((F i).1 + ln i, (F i).2)) ∧ SW (8 * i + 1) = nI (z i) ∧ SW (8 * i + 4) = nI (kd i) ∧ kd i < 10 ∧ (kd i = 8 → nI (ln i) = (-nI (pl i)) &&& (SW (8 * i + 5) - 1)) ∧ (¬ kd i = 8 → SW (8 * i + 3) = nI (ln i))) (v : Nat → Nat) (hv : ∀ j : Nat, j < nl → v j = if cZ j = 0 then (F (cS j)).1 else (F (cS j)).2) : ∀ (m i g : Nat), i + m = sn → m + 1 < g → df_X1_findAddresses_9 n g (nI (F i).1) (nI (F i).2) (nI (lC cS nl i)) (nI i) (pR Q 0 (SWf SW pl ln i), pR U 6 (LBf LB v (lC cS nl i))) = nd_let (pI (pR Q 0 (SWf SW pl ln sn)) 7 (nI (F sn).1), pR U 6 (LBf LB v nl)) (fun (s2 : St × St) => nd_let (pI s2.1 8 ((((nI (F sn).1 + 1024) - 1) / 1024) * 1024), s2.2) (fun (s3 : St × St) => if nI (F sn).2 ≤ 0 then (df_X1_findAddresses_226 n (nI (F sn).1) s3) else (df_X1_findAddresses_226 n (sI s3.1 8 + nI (F sn).2) s3))) := fun m => by
  have inner : ∀ (i g : Nat) (G : Int32 → Int32 → Int32 → Int32 → (St × St) → Option (St × St)), i ≤ sn → nl < g → df_X1_findAddresses_18 n G g (nI (F i).1) (nI (F i).2) (nI (lC cS nl i)) (nI i) (pR Q 0 (SWf SW pl ln i), pR U 6 (LBf LB v (lC cS nl i))) = df_X1_findAddresses_58 n G (nI (F i).1) (nI (F i).2) (nI (lC cS nl (i + 1))) (nI i) (pR Q 0 (SWf SW pl ln i), pR U 6 (LBf LB v (lC cS nl (i + 1)))) := fun i g G hi hg => by
    obtain ⟨a1, a2, a3⟩ := lC_1 (i := i) hm
    obtain ⟨b1, b2, b3⟩ := lC_1 (i := i + 1) hm
    obtain ⟨s1, s2⟩ := lC_s (i := i) hm
    rw [pl_58 (nl := nl) G h9 hnl (by omega) cZ hcZ (lC cS nl (i + 1)) b1 (lC cS nl (i + 1) - lC cS nl i) (lC cS nl i) g (LBf LB v (lC cS nl i)) (by omega) (by omega) (fun j j1 j2 => by
      rw [show 5 * j = 5 * j + 0 by omega, LBf_r (by omega) (by omega)]
      rw [show 5 * j + 0 = 5 * j by omega, (hL0 j (by omega)).1, s2 j j1 j2]) (fun j j1 j2 => by
      rw [LBf_r (by omega) (by omega)]
      exact (hL0 j (by omega)).2) (fun hz => ⟨cS (lC cS nl (i + 1)), by
        rw [show 5 * lC cS nl (i + 1) = 5 * lC cS nl (i + 1) + 0 by omega, LBf_r (by omega) (by omega)]
        exact (hL0 _ hz).1, by have := b3 _ (Nat.le_refl _) hz; omega, by have := hcs _ hz; omega⟩)]
    rw [LBf_s s1 _ (fun j j1 j2 => by
      show (if cZ j = 0 then nI (F i).1 else nI (F i).2) = nI (v j)
      rw [hv j (by omega), s2 j j1 j2]
      split <;> rfl)]
  induction m with
  | zero =>
    intro i g h1 h2
    have : i = sn := by omega
    subst this
    obtain ⟨g, rfl⟩ : ∃ k : Nat, g = k + 1 + 1 := ⟨g - 2, by omega⟩
    show dF_X1_findAddresses_9 n (df_X1_findAddresses_9 n (g + 1)) (nI (F i).1) (nI (F i).2) (nI (lC cS nl i)) (nI i) (pR Q 0 (SWf SW pl ln i), pR U 6 (LBf LB v (lC cS nl i))) = _
    unfold dF_X1_findAddresses_9
    rw [show sI (pR Q 0 (SWf SW pl ln i), pR U 6 (LBf LB v (lC cS nl i))).1 0 = nI i from h0, if_neg (znl (Nat.le_refl i) (by omega)), inner i n _ (Nat.le_refl _) (by omega)]
    have e : lC cS nl (i + 1) = nl := by
      obtain ⟨b1, b2, b3⟩ := lC_1 (i := i + 1) hm
      refine Classical.byContradiction fun y => ?_
      have := b3 (lC cS nl (i + 1)) (Nat.le_refl _) (by omega)
      have := hcs (lC cS nl (i + 1)) (by omega)
      omega
    rw [e]
    unfold df_X1_findAddresses_58 df_X1_findAddresses_181
    rw [show sI (pR Q 0 (SWf SW pl ln i), pR U 6 (LBf LB v nl)).1 0 = nI i from h0, if_pos (zle (Nat.le_refl i) (by omega)), nb_let, show nI i + Int32.ofInt 1 = nI (i + 1) from nI_add i 1]
    show dF_X1_findAddresses_9 n (df_X1_findAddresses_9 n g) (nI (F i).1) (nI (F i).2) (nI nl) (nI (i + 1)) (pR Q 0 (SWf SW pl ln i), pR U 6 (LBf LB v nl)) = _
    unfold dF_X1_findAddresses_9
    rw [show sI (pR Q 0 (SWf SW pl ln i), pR U 6 (LBf LB v nl)).1 0 = nI i from h0, if_pos (zlt (by omega) (by omega))]
  | succ m ih =>
    intro i g h1 h2
    obtain ⟨g, rfl⟩ : ∃ k : Nat, g = k + 1 := ⟨g - 1, by omega⟩
    show dF_X1_findAddresses_9 n (df_X1_findAddresses_9 n g) (nI (F i).1) (nI (F i).2) (nI (lC cS nl i)) (nI i) (pR Q 0 (SWf SW pl ln i), pR U 6 (LBf LB v (lC cS nl i))) = _
    unfold dF_X1_findAddresses_9
    rw [show sI (pR Q 0 (SWf SW pl ln i), pR U 6 (LBf LB v (lC cS nl i))).1 0 = nI sn from h0, if_neg (znl (show i ≤ sn by omega) (by omega)), inner i n _ (by omega) (by omega)]
    obtain ⟨c1, c2, c3, c4, c5, c6, c7, c8⟩ := hst i (by omega)
    rw [fa_58 (sn := sn) (kd := kd i) (len := ln i) (pl := pl i) (z := z i) (df_X1_findAddresses_9 n g) h0 (by omega) hsn c1 c2 (by rw [SWf_o (Nat.le_refl _) (by omega)]; exact c4) (by rw [SWf_o (Nat.le_refl _) (by omega)]; exact c5) c6 (fun w => by rw [SWf_o (Nat.le_refl _) (by omega)]; exact c7 w) (fun w => by rw [SWf_o (Nat.le_refl _) (by omega)]; exact c8 w), SWf_s]
    have := ih (i + 1) g (by omega) (by omega)
    rw [c3] at this
    rw [← this]
    by_cases y : z i = 1
    · rw [if_pos y, if_pos y, if_pos y]
    · rw [if_neg y, if_neg y, if_neg y]
/-- data moves behind the text -/
def SWm (SW : Nat → Int32) (z : Nat → Nat) (D : Int32) (i : Nat) : Nat → Int32 := fun x => if x / 8 < i ∧ x % 8 = 2 ∧ z (x / 8) = 1 then SW x + D else SW x
def LBm (LB : Nat → Int32) (z : Nat → Nat) (D : Int32) (i : Nat) : Nat → Int32 := fun x => if x / 5 < i ∧ x % 5 = 2 ∧ z (x / 5) = 1 then LB x + D else LB x
theorem mv_51 {n : Nat} {Q U : St} {nl : Nat} {D : Int32} {LB : Nat → Int32} (h8 : sI Q 8 = D) (h9 : sI U 9 = nI nl) (hnl : nl ≤ 16384) (cZ : Nat → Nat) (hz : ∀ j : Nat, j < nl → cZ j < 2 ∧ LB (5 * j + 1) = nI (cZ j)) : ∀ m j g : Nat, j + m = nl → m < g → df_X1_moveData_51 n g (nI j) (Q, pR U 6 (LBm LB cZ D j)) = some (Q, pR U 6 (LBm LB cZ D nl)) := fun m => by
  induction m with
  | zero =>
    intro j g h1 h2
    have : j = nl := by omega
    subst this
    obtain ⟨g, rfl⟩ : ∃ k : Nat, g = k + 1 := ⟨g - 1, by omega⟩
    show dF_X1_moveData_51 n (df_X1_moveData_51 n g) (nI j) (Q, pR U 6 (LBm LB cZ D j)) = _
    unfold dF_X1_moveData_51
    rw [show sI (Q, pR U 6 (LBm LB cZ D j)).2 9 = nI j from h9, if_pos (zle (Nat.le_refl j) (by omega))]
  | succ m ih =>
    intro j g h1 h2
    obtain ⟨g, rfl⟩ : ∃ k : Nat, g = k + 1 := ⟨g - 1, by omega⟩
    show dF_X1_moveData_51 n (df_X1_moveData_51 n g) (nI j) (Q, pR U 6 (LBm LB cZ D j)) = _
    unfold dF_X1_moveData_51 df_X1_moveData_99
    obtain ⟨z1, z2⟩ := hz j (by omega)
    have e1 : LBm LB cZ D j (5 * j + 1) = nI (cZ j) := by
      unfold LBm
      rw [if_neg (by omega)]; exact z2
    rw [show sI (Q, pR U 6 (LBm LB cZ D j)).2 9 = nI nl from h9, if_neg (znle (show j < nl by omega) (by omega)), show nI j * 5 + 1 = nI (5 * j + 1) from ix5 j 1, show nI j * 5 + 2 = nI (5 * j + 2) from ix5 j 2, nm_ck (by omega) (by omega), nI_clamp (by omega), show sR (Q, pR U 6 (LBm LB cZ D j)).2 6 = LBm LB cZ D j from pR_e, e1]
    by_cases y : cZ j = 1
    · rw [if_pos (show nI (cZ j) = 1 from congrArg nI y), nm_ck (by omega) (by omega), nm_ck (by omega) (by omega), nI_clamp (by omega)]
      rw [show sI (Q, pR U 6 (LBm LB cZ D j)).1 8 = D from h8, show pR (Q, pR U 6 (LBm LB cZ D j)).2 6 (upd (LBm LB cZ D j) (5 * j + 2) (LBm LB cZ D j (5 * j + 2) + D)) = pR U 6 (upd (LBm LB cZ D j) (5 * j + 2) (LBm LB cZ D j (5 * j + 2) + D)) from pR_2, nb_let, nb_let, show nI j + Int32.ofInt 1 = nI (j + 1) from nI_add j 1]
      have e : upd (LBm LB cZ D j) (5 * j + 2) (LBm LB cZ D j (5 * j + 2) + D) = LBm LB cZ D (j + 1) := funext fun x => by
        by_cases w : x = 5 * j + 2
        · rw [w, up_e]
          unfold LBm
          rw [if_neg (by omega), if_pos ⟨by omega, by omega, by rw [show (5 * j + 2) / 5 = j by omega]; exact y⟩]
        · rw [up_n w]
          unfold LBm
          by_cases u : x / 5 < j ∧ x % 5 = 2 ∧ cZ (x / 5) = 1
          · rw [if_pos u, if_pos ⟨by omega, u.2⟩]
          · rw [if_neg u, if_neg (fun t => u ⟨by omega, t.2⟩)]
      rw [e]
      exact ih (j + 1) g (by omega) (by omega)
    · rw [if_neg (show ¬ nI (cZ j) = 1 from zne (b := 1) y (by omega) (by omega)), nb_let, show nI j + Int32.ofInt 1 = nI (j + 1) from nI_add j 1]
      have e : LBm LB cZ D j = LBm LB cZ D (j + 1) := funext fun x => by
        unfold LBm
        by_cases u : x / 5 < j ∧ x % 5 = 2 ∧ cZ (x / 5) = 1
        · rw [if_pos u, if_pos ⟨by omega, u.2⟩]
        · rw [if_neg u, if_neg (fun t => by
            by_cases w : x / 5 = j
            · rw [w] at t; exact y t.2.2
            · exact u ⟨by omega, t.2⟩)]
      rw [e]
      exact ih (j + 1) g (by omega) (by omega)
theorem mv_2 {n : Nat} {Q U : St} {sn : Nat} {D : Int32} {SW LB : Nat → Int32} (h8 : sI Q 8 = D) (h0 : sI Q 0 = nI sn) (hsn : sn ≤ 8194) (z : Nat → Nat) (hz : ∀ i : Nat, i < sn → z i < 2 ∧ SW (8 * i + 1) = nI (z i)) : ∀ m i g : Nat, i + m = sn → m < g → df_X1_moveData_2 n g (nI i) (pR Q 0 (SWm SW z D i), pR U 6 LB) = df_X1_moveData_51 n n 0 (pR Q 0 (SWm SW z D sn), pR U 6 LB) := fun m => by
  induction m with
  | zero =>
    intro i g h1 h2
    have : i = sn := by omega
    subst this
    obtain ⟨g, rfl⟩ : ∃ k : Nat, g = k + 1 := ⟨g - 1, by omega⟩
    show dF_X1_moveData_2 n (df_X1_moveData_2 n g) (nI i) (pR Q 0 (SWm SW z D i), pR U 6 LB) = _
    unfold dF_X1_moveData_2
    rw [show sI (pR Q 0 (SWm SW z D i), pR U 6 LB).1 0 = nI i from h0, if_pos (zle (Nat.le_refl i) (by omega))]
  | succ m ih =>
    intro i g h1 h2
    obtain ⟨g, rfl⟩ : ∃ k : Nat, g = k + 1 := ⟨g - 1, by omega⟩
    show dF_X1_moveData_2 n (df_X1_moveData_2 n g) (nI i) (pR Q 0 (SWm SW z D i), pR U 6 LB) = _
    unfold dF_X1_moveData_2 df_X1_moveData_43
    obtain ⟨z1, z2⟩ := hz i (by omega)
    have e1 : SWm SW z D i (8 * i + 1) = nI (z i) := by
      unfold SWm
      rw [if_neg (by omega)]; exact z2
    rw [show sI (pR Q 0 (SWm SW z D i), pR U 6 LB).1 0 = nI sn from h0, if_neg (znle (show i < sn by omega) (by omega)), show nI i * 8 + 1 = nI (8 * i + 1) from ix8 i 1, show nI i * 8 + 2 = nI (8 * i + 2) from ix8 i 2, nm_ck (by omega) (by omega), nI_clamp (by omega), show sR (pR Q 0 (SWm SW z D i), pR U 6 LB).1 0 = SWm SW z D i from pR_e, e1]
    by_cases y : z i = 1
    · rw [if_pos (show nI (z i) = 1 from congrArg nI y), nm_ck (by omega) (by omega), nm_ck (by omega) (by omega), nI_clamp (by omega)]
      rw [show sI (pR Q 0 (SWm SW z D i), pR U 6 LB).1 8 = D from h8, show pR (pR Q 0 (SWm SW z D i), pR U 6 LB).1 0 (upd (SWm SW z D i) (8 * i + 2) (SWm SW z D i (8 * i + 2) + D)) = pR Q 0 (upd (SWm SW z D i) (8 * i + 2) (SWm SW z D i (8 * i + 2) + D)) from pR_2, nb_let, nb_let, show nI i + Int32.ofInt 1 = nI (i + 1) from nI_add i 1]
      have e : upd (SWm SW z D i) (8 * i + 2) (SWm SW z D i (8 * i + 2) + D) = SWm SW z D (i + 1) := funext fun x => by
        by_cases w : x = 8 * i + 2
        · rw [w, up_e]
          unfold SWm
          rw [if_neg (by omega), if_pos ⟨by omega, by omega, by rw [show (8 * i + 2) / 8 = i by omega]; exact y⟩]
        · rw [up_n w]
          unfold SWm
          by_cases u : x / 8 < i ∧ x % 8 = 2 ∧ z (x / 8) = 1
          · rw [if_pos u, if_pos ⟨by omega, u.2⟩]
          · rw [if_neg u, if_neg (fun t => u ⟨by omega, t.2⟩)]
      rw [e]
      exact ih (i + 1) g (by omega) (by omega)
    · rw [if_neg (show ¬ nI (z i) = 1 from zne (b := 1) y (by omega) (by omega)), nb_let, show nI i + Int32.ofInt 1 = nI (i + 1) from nI_add i 1]
      have e : SWm SW z D i = SWm SW z D (i + 1) := funext fun x => by
        unfold SWm
        by_cases u : x / 8 < i ∧ x % 8 = 2 ∧ z (x / 8) = 1
        · rw [if_pos u, if_pos ⟨by omega, u.2⟩]
        · rw [if_neg u, if_neg (fun t => by
            by_cases w : x / 8 = i
            · rw [w] at t; exact y t.2.2
            · exact u ⟨by omega, t.2⟩)]
      rw [e]
      exact ih (i + 1) g (by omega) (by omega)
