/-- the reference's name() -/
theorem zf_1 {b : Bool} {x : Option St} : nd_f .boolean (bI b) (nd_z .boolean (bI b) x) = x := by
  have z2 : nd_z .boolean (bI b) x = x := by cases b <;> exact nar_z (by decide)
  rw [z2]
  cases b <;> rfl
theorem nt_161 {n : Nat} {B : St} {ft : Int32} {ms dv ls : Bool} {sg vl : Nat} {PL : Nat → Int32} {ap tk fr to : Nat} {nm : Int32} (v : Int32) (h : vl < 32800) : df_X13_name_161 n v (uR (xR B ft ms dv ls sg (vl + 1) PL) ap tk fr to nm) = some (uR (xR B ft ms dv ls sg vl (upd PL vl v)) ap tk fr to nm) := by
  unfold df_X13_name_161
  rw [rv_1 v h, nb_b1]
theorem nt_133 {n : Nat} {B : St} {ft : Int32} {ms dv ls : Bool} {sg vl : Nat} {PL : Nat → Int32} {ap tk fr to : Nat} {nm : Int32} (x1 x2 : Int32) (b : Bool) : df_X13_name_133 n x1 x2 (bI b) (uR (xR B ft ms dv ls sg (vl + 1) PL) ap tk fr to nm) = if x1 = 0 then (if 0 ≤ x2 then nd_b2 (df_X13_valueOf n x2 (uR (xR B ft b dv ls sg (vl + 1) PL) ap tk fr to nm)) (fun q s => df_X13_name_161 n q s) else df_X13_name_161 n 0 (uR (xR B ft b dv ls sg (vl + 1) PL) ap tk fr to nm)) else df_X13_name_161 n (sI B 17) (uR (xR B ft b dv ls sg (vl + 1) PL) ap tk fr to nm) := by
  unfold df_X13_name_133
  rw [xR_w21, nb_let, zf_1, xR_u17]
theorem nt_109 {n : Nat} {B : St} {ft : Int32} {ms dv ls : Bool} {sg vl : Nat} {PL : Nat → Int32} {ap tk fr to : Nat} {nm : Int32} (x1 x2 : Int32) (b : Bool) : df_X13_name_109 n x1 x2 (bI b) (uR (xR B ft ms dv ls sg (vl + 1) PL) ap tk fr to nm) = df_X13_name_133 n x1 x2 (bI (ms || (decide (x1 = 0) && !decide (0 ≤ x2)))) (uR (xR B ft ms dv b sg (vl + 1) PL) ap tk fr to nm) := by
  unfold df_X13_name_109 df_X13_name_128 df_X13_name_132
  rw [xR_w23, nb_let, zf_1, xR_u21]
  cases ms with
  | true => rw [if_neg (show ¬ bI true = 0 by decide), Bool.true_or]; rfl
  | false =>
    rw [if_pos (show bI false = 0 from rfl), Bool.false_or]
    by_cases y : x1 = 0
    · rw [if_pos y, decide_eq_true y, Bool.true_and]
      by_cases z : 0 ≤ x2
      · rw [if_pos z, decide_eq_true z]; rfl
      · rw [if_neg z, decide_eq_false z]; rfl
    · rw [if_neg y, decide_eq_false y, Bool.false_and]; rfl
theorem nt_91 {n : Nat} {B : St} {ft : Int32} {ms dv ls : Bool} {sg vl : Nat} {PL : Nat → Int32} {ap tk fr to : Nat} {nm : Int32} (x1 x2 : Int32) (b : Bool) : df_X13_name_91 n x1 x2 (bI b) (uR (xR B ft ms dv ls sg (vl + 1) PL) ap tk fr to nm) = df_X13_name_109 n x1 x2 (bI (ls || !b)) (uR (xR B ft ms dv ls sg (vl + 1) PL) ap tk fr to nm) := by
  unfold df_X13_name_91 df_X13_name_104
  rw [xR_u23]
  cases ls with
  | true => rw [if_neg (show ¬ bI true = 0 by decide)]; rfl
  | false =>
    rw [if_pos (show bI false = 0 from rfl)]
    cases b with
    | true => rw [if_neg (show ¬ bI true = 0 by decide)]; rfl
    | false => rw [if_pos (show bI false = 0 from rfl)]; rfl
/-- the place itself -/
theorem nt_d {n : Nat} {B : St} {ft : Int32} {ms dv ls : Bool} {sg vl : Nat} {PL : Nat → Int32} {ap tk fr to : Nat} {nm : Int32} (h : vl < 32800) : df_X13_name_68 n 1 (-1) (uR (xR B ft ms dv ls sg (vl + 1) PL) ap tk fr to nm) = some (uR (xR B ft ms dv true sg vl (upd PL vl (sI B 17))) ap tk fr to nm) := by
  unfold df_X13_name_68 df_X13_name_90
  rw [if_pos (show (-1 : Int32) < 0 by decide), show (0 : Int32) = bI false from rfl, nt_91, nt_109, nt_133, if_neg (show ¬ (1 : Int32) = 0 by decide), nt_161 _ h, decide_eq_false (show ¬ (1 : Int32) = 0 by decide), Bool.false_and, Bool.or_false, show (!false) = true from rfl, Bool.or_true]
/-- a name that isn't there -/
theorem nt_n {n : Nat} {B : St} {ft : Int32} {ms dv ls : Bool} {sg vl : Nat} {PL : Nat → Int32} {ap tk fr to : Nat} {nm : Int32} (h : vl < 32800) : df_X13_name_68 n 0 (-1) (uR (xR B ft ms dv ls sg (vl + 1) PL) ap tk fr to nm) = some (uR (xR B ft true dv true sg vl (upd PL vl 0)) ap tk fr to nm) := by
  unfold df_X13_name_68 df_X13_name_90
  rw [if_pos (show (-1 : Int32) < 0 by decide)]
  have e := nt_91 (n := n) (B := B) (ft := ft) (ms := ms) (dv := dv) (ls := ls) (sg := sg) (vl := vl) (PL := PL) (ap := ap) (tk := tk) (fr := fr) (to := to) (nm := nm) 0 (-1) false
  rw [show df_X13_name_91 n 0 (-1) 0 = df_X13_name_91 n 0 (-1) (bI false) from rfl, e, nt_109, nt_133, if_pos rfl, if_neg (show ¬ (0 : Int32) ≤ -1 by decide), nt_161 _ h, decide_eq_true (show (0 : Int32) = 0 from rfl), decide_eq_false (show ¬ (0 : Int32) ≤ -1 by decide), show (true && !false) = true from rfl, Bool.or_true, show (!false) = true from rfl, Bool.or_true]
/-- a name that is there -/
theorem nt_k {n : Nat} {B : St} {ft : Int32} {ms dv ls : Bool} {sg vl : Nat} {PL : Nat → Int32} {ap tk fr to : Nat} {nm : Int32} (h : vl < 32800) (k nL : Nat) (X : Nat → Nat) (hk : k < nL) (hL : nL ≤ 16500) (hX : sR B 6 k = nI (X k) ∧ X k < 2 ^ 20) : df_X13_name_68 n 0 (nI k) (uR (xR B ft ms dv ls sg (vl + 1) PL) ap tk fr to nm) = some (uR (xR B ft ms dv (ls || !decide (X k / 131072 = 2)) sg vl (upd PL vl (vlO (sI B 4) X (sR B 7) k))) ap tk fr to nm) := by
  have s1 : (nI (X k) : Int32) >>> ((17 : Int32) &&& 31) = nI (X k / 131072) := pk_shrN (by have := hX.2; omega) _ 17 (by decide)
  have X2 := hX.2
  have fin : ∀ b : Bool, df_X13_name_91 n 0 (nI k) (bI b) (uR (xR B ft ms dv ls sg (vl + 1) PL) ap tk fr to nm) = some (uR (xR B ft ms dv (ls || !b) sg vl (upd PL vl (vlO (sI B 4) X (sR B 7) k))) ap tk fr to nm) := fun b => by
    have z0 : (0 : Int32) ≤ nI k := zle (a := 0) (Nat.zero_le k) (by omega)
    have vo := vo_1 (n := n) (S := (uR (xR B ft ms dv (ls || !b) sg (vl + 1) PL) ap tk fr to nm)) k nL X hk hL hX
    rw [nt_91, nt_109, nt_133, if_pos rfl, if_pos z0, decide_eq_true z0, show (decide ((0 : Int32) = 0) && !true) = false from rfl, Bool.or_false, vo, nb_b2, nt_161 _ h]
    rfl
  unfold df_X13_name_68 df_X13_name_90
  rw [if_neg (show ¬ nI k < (0 : Int32) from znl (b := 0) (Nat.zero_le k) (by omega)), nm_ck (by omega) (by omega), nI_clamp (by omega), uR_r, xR_r6, hX.1, s1]
  by_cases y : X k / 131072 = 2
  · rw [if_pos (show nI (X k / 131072) = (2 : Int32) from congrArg nI y), decide_eq_true y]
    exact fin true
  · rw [if_neg (show ¬ nI (X k / 131072) = (2 : Int32) from zne (b := 2) y (by omega) (by omega)), decide_eq_false y]
    exact fin false
/-- all of name(): the entry's number, if there is one -/
def nmK (c : Nat → Nat) (X : Nat → Nat) (nL q l : Nat) : Nat := if reS l (c q) (c (q + 1)) (c (q + 2)) (c (q + 3)) < 32 then nL else fN (fiP c X q l) 0 nL
theorem nam_R {n L e : Nat} {c : Nat → Nat} {BC B : St} (hT : atx n L e c BC B) {ft : Int32} {ms dv ls : Bool} {sg vl : Nat} {PL : Nat → Int32} {ap : Nat} {nm : Int32} (q l : Nat) (hl : 1 ≤ l) (hq : q + l ≤ L) (hP : ∀ i : Nat, i < l → aP (c (q + i)) = true) (nL : Nat) (X : Nat → Nat) (hL : nL ≤ 16500) (h3 : sI B 3 = nI nL) (hX : ∀ k : Nat, k < nL → sR B 6 k = nI (X k) ∧ X k < 2 ^ 20) (hv : vl < 32800) : df_X13_name n (uR (xR B ft ms dv ls sg (vl + 1) PL) ap 1 q (q + l) nm) = some (if l = 1 ∧ c q = 46 then (uR (xR B ft ms dv true sg vl (upd PL vl (sI B 17))) ap 1 q (q + l) nm) else if nmK c X nL q l < nL then (uR (xR B ft ms dv (ls || !decide (X (nmK c X nL q l) / 131072 = 2)) sg vl (upd PL vl (vlO (sI B 4) X (sR B 7) (nmK c X nL q l)))) ap 1 q (q + l) nm) else (uR (xR B ft true dv true sg vl (upd PL vl 0)) ap 1 q (q + l) nm)) := by
  obtain ⟨hn, hLL, heL, h127, hend, hce, hO, h1, htC, h0, htR, hch⟩ := id hT
  have c127 := h127 q
  have w : df_X13_name_32 n 0 (uR (xR B ft ms dv ls sg (vl + 1) PL) ap 1 q (q + l) nm) = some (if nmK c X nL q l < nL then (uR (xR B ft ms dv (ls || !decide (X (nmK c X nL q l) / 131072 = 2)) sg vl (upd PL vl (vlO (sI B 4) X (sR B 7) (nmK c X nL q l)))) ap 1 q (q + l) nm) else (uR (xR B ft true dv true sg vl (upd PL vl 0)) ap 1 q (q + l) nm)) := by
    have re := re_1 n (S := (uR (xR B ft ms dv ls sg (vl + 1) PL) ap 1 q (q + l) nm)) (c := c) q l (by omega) h127 (by omega) (fun i hi => ⟨hP i hi, htR _ (by omega)⟩)
    have fi := fi_1 (at_R (ft := ft) (ms := ms) (dv := dv) (ls := ls) (sg := sg) (vl := vl + 1) (PL := PL) hT) q l ap 1 q (q + l) nm hq nL X hL h3 hX
    unfold df_X13_name_32 df_X13_name_52 nmK
    rw [if_pos rfl, uR_i9, uR_i10, re, nb_b2]
    by_cases y : reS l (c q) (c (q + 1)) (c (q + 2)) (c (q + 3)) < 32
    · have ri : rI (reS l (c q) (c (q + 1)) (c (q + 2)) (c (q + 3))) = nI (reS l (c q) (c (q + 1)) (c (q + 2)) (c (q + 3))) := if_pos y
      rw [ri, if_neg (show ¬ nI (reS l (c q) (c (q + 1)) (c (q + 2)) (c (q + 3))) < (0 : Int32) from znl (b := 0) (Nat.zero_le _) (by omega)), nt_n hv, if_pos y, if_neg (Nat.lt_irrefl _)]
    · have ri : rI (reS l (c q) (c (q + 1)) (c (q + 2)) (c (q + 3))) = -1 := if_neg y
      rw [ri, if_pos (show (-1 : Int32) < 0 by decide), uR_i9, uR_i10, fi, nb_b2, if_neg y]
      by_cases z : fN (fiP c X q l) 0 nL < nL
      · rw [if_pos z, if_pos z, nt_k hv _ nL X z hL (hX _ z)]
      · rw [if_neg z, if_neg z, nt_n hv]
  unfold df_X13_name df_X13_name_0 df_X13_name_31
  rw [uR_i10, uR_i9, show nI (q + l) - nI q = nI l from (pk_sub (by omega)).trans (congrArg nI (by omega))]
  by_cases y : l = 1
  · rw [if_pos (show nI l = (1 : Int32) from congrArg nI y), nm_ck (by omega) (by omega), nI_clamp (by omega), uR_r, xR_r2, htR q (by omega)]
    by_cases z : c q = 46
    · rw [if_pos (show nI (c q) = (46 : Int32) from congrArg nI z), if_pos ⟨y, z⟩]
      unfold df_X13_name_32 df_X13_name_52
      rw [if_neg (show ¬ (1 : Int32) = 0 by decide), nt_d hv]
    · rw [if_neg (show ¬ nI (c q) = (46 : Int32) from zne (b := 46) z (by omega) (by omega)), if_neg (fun u => z u.2)]
      exact w
  · rw [if_neg (show ¬ nI l = (1 : Int32) from zne (b := 1) y (by omega) (by omega)), if_neg (fun u => y u.1)]
    exact w
