/-- what names and near labels are worth, from the reference's table -/
def nmO (c X : Nat → Nat) (e nL : Nat) (o : Tp) : Nat := nmK c X nL o.2.1 (eT c e o.2.1 - o.2.1)
def VV (c X : Nat → Nat) (e nL st : Nat) (ts ad : Int32) (W : Nat → Int32) (o : Tp) : Int32 × Bool := if o.1 = 16 then (nI o.2.2, false) else if o.1 = 18 then (ad, false) else if o.1 = 17 then (if nmO c X e nL o < nL then (vlO ts X W (nmO c X e nL o), false) else (0, true)) else (if 0 < frF (decide (o.1 = 19)) (nrP c X st o.2.2 (decide (o.1 = 19))) nL then (vlO ts X W (frF (decide (o.1 = 19)) (nrP c X st o.2.2 (decide (o.1 = 19))) nL - 1), false) else (0, true))
def loV (c X : Nat → Nat) (e nL : Nat) (o : Tp) : Bool := if o.1 = 16 then false else if o.1 = 17 then !(decide (nmO c X e nL o < nL) && decide (X (nmO c X e nL o) / 131072 = 2)) else true
theorem VA_1 {n L e : Nat} {c : Nat → Nat} {BC B : St} (hT : atx n L e c BC B) (nL : Nat) (X : Nat → Nat) (hL : nL ≤ 16500) (h3 : sI B 3 = nI nL) (hX : ∀ k : Nat, k < nL → sR B 6 k = nI (X k) ∧ X k < 2 ^ 20) (hD : ∀ k : Nat, k < nL → 3 ≤ X k / 131072 → X k % 131072 < L ∧ 48 ≤ c (X k % 131072)) (st cu Y : Nat) (h16 : sI B 16 = nI cu) (hcu : cu < 11000) (hY : sR B 3 cu = nI Y) (hY2 : Y < 2 ^ 31) (hst : st = Y % 131072) : VA n e c B (VV c X e nL st (sI B 4) (sI B 17) (sR B 7)) (loV c X e nL) := by
  have heL := hT.2.2.1
  refine ⟨fun v => ⟨rfl, rfl, rfl, rfl⟩, ?_, ?_⟩
  · intro q hq ha hd hw ft ms dv ls sg vl PL ap nm hv
    obtain ⟨e1, e2, e3, e4⟩ := eT_1 c (Nat.le_of_lt hq)
    have e5 := eT_p c hq ha
    have r := nam_R (ft := ft) (ms := ms) (dv := dv) (ls := ls) (sg := sg) (vl := vl) (PL := PL) (ap := ap) (nm := nm) hT q (eT c e q - q) (by omega) (by omega) (fun i hi => e4 _ (by omega) (by omega)) nL X hL h3 hX hv
    rw [show q + (eT c e q - q) = eT c e q by omega] at r
    rw [r]
    unfold opW
    by_cases y : eT c e q = q + 1 ∧ c q = 46
    · rw [if_pos (show eT c e q - q = 1 ∧ c q = 46 from ⟨by omega, y.2⟩), if_pos y, show VV c X e nL st (sI B 4) (sI B 17) (sR B 7) (18, 0, 0) = (sI B 17, false) from rfl, show loV c X e nL (18, 0, 0) = true from rfl, Bool.or_true, Bool.or_false]
    · rw [if_neg (show ¬ (eT c e q - q = 1 ∧ c q = 46) from fun z => y ⟨by omega, z.2⟩), if_neg y]
      have ev : VV c X e nL st (sI B 4) (sI B 17) (sR B 7) (17, q, 0) = if nmK c X nL q (eT c e q - q) < nL then (vlO (sI B 4) X (sR B 7) (nmK c X nL q (eT c e q - q)), false) else (0, true) := rfl
      have el : loV c X e nL (17, q, 0) = !(decide (nmK c X nL q (eT c e q - q) < nL) && decide (X (nmK c X nL q (eT c e q - q)) / 131072 = 2)) := rfl
      rw [ev, el]
      by_cases z : nmK c X nL q (eT c e q - q) < nL
      · rw [if_pos z, if_pos z, decide_eq_true z, Bool.true_and, Bool.or_false]
      · rw [if_neg z, if_neg z, decide_eq_false z, Bool.false_and, show (!false) = true from rfl, Bool.or_true, Bool.or_true]
  · intro d fw hd ft ms dv ls sg vl PL ap tk fr to nm
    have r := nea_R (ft := ft) (ms := ms) (dv := dv) (ls := ls) (sg := sg) (vl := vl) (PL := PL) (ap := ap) (tk := tk) (fr := fr) (to := to) (nm := nm) hT nL X hL h3 hX hD d st cu Y fw hd h16 hcu hY hY2 hst
    rw [r]
    have ev : VV c X e nL st (sI B 4) (sI B 17) (sR B 7) (if fw = true then 19 else 20, 0, d) = if 0 < frF fw (nrP c X st d fw) nL then (vlO (sI B 4) X (sR B 7) (frF fw (nrP c X st d fw) nL - 1), false) else (0, true) := by cases fw <;> rfl
    rw [ev]
    by_cases z : 0 < frF fw (nrP c X st d fw) nL
    · rw [if_pos z, if_pos z, decide_eq_false (by omega)]
    · rw [if_neg z, if_neg z, decide_eq_true (show frF fw (nrP c X st d fw) nL = 0 by omega)]
