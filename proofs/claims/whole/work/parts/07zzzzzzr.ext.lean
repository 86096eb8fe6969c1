/-- expressions: the reference's operands -/
theorem rbl_1 {n : Nat} {B : St} {ft : Int32} {ms dv ls : Bool} {sg vl : Nat} {PL : Nat → Int32} {ap tk fr to : Nat} {nm : Int32} (v : Int32) : df_X13_blame n v (uR (xR B ft ms dv ls sg vl PL) ap tk fr to nm) = some (uR (xR B (if ft = 0 then v + 16 * sI B 13 else ft) ms dv ls sg vl PL) ap tk fr to nm) := by
  unfold df_X13_blame df_X13_blame_0 df_X13_blame_20
  rw [xR_u12, xR_u13]
  by_cases y : ft = 0
  · rw [if_pos y, if_pos y, xR_w12, nb_let]
  · rw [if_neg y, if_neg y]
def usP : List Nat → List Nat
  | [] => []
  | x :: l => if x = 11 ∨ x = 12 then x :: usP l else []
def rsP : List Nat → List Nat
  | [] => []
  | x :: l => if x = 11 ∨ x = 12 then rsP l else x :: l
theorem us_1 : ∀ l : List Nat, okS l → l = usP l ++ rsP l ∧ hdU (rsP l) ∧ okS (rsP l) ∧ nbS (rsP l) = nbS l ∧ bkS (rsP l) = bkS l ∧ flat l = (usP l).map uo ++ flat (rsP l) ∧ (∀ u : Nat, u ∈ usP l → u = 11 ∨ u = 12) ∧ (usP l).length + (rsP l).length = l.length := fun l => by
  induction l with
  | nil => intro h; exact ⟨rfl, fun y r z => (nomatch z), h, rfl, rfl, rfl, fun u z => (nomatch z), rfl⟩
  | cons x l ih =>
    intro h
    by_cases y : x = 11 ∨ x = 12
    · obtain ⟨a1, a2, a3, a4, a5, a6, a7, a8⟩ := ih h.2.2
      have e1 : usP (x :: l) = x :: usP l := if_pos y
      have e2 : rsP (x :: l) = rsP l := if_pos y
      rw [e1, e2]
      refine ⟨congrArg (List.cons x) a1, a2, a3, ?_, ?_, ?_, fun u hu => ?_, ?_⟩
      · show _ = (if x ≤ 10 then 1 else 0) + nbS l
        rw [if_neg (by omega), Nat.zero_add]
        exact a4
      · show _ = (if 13 ≤ x then 1 else 0) + bkS l
        rw [if_neg (by omega), Nat.zero_add]
        exact a5
      · rw [flat_b (by omega), a6]
        show sgO x :: _ = uo x :: _
        rcases y with z | z <;> subst z <;> rfl
      · rcases List.mem_cons.mp hu with z | z
        · rw [z]; exact y
        · exact a7 u z
      · show (usP l).length + 1 + (rsP l).length = l.length + 1
        omega
    · have e1 : usP (x :: l) = [] := if_neg y
      have e2 : rsP (x :: l) = x :: l := if_neg y
      rw [e1, e2]
      exact ⟨rfl, fun z r hz => by
        have : x = z := (List.cons.inj hz).1
        rw [← this]; exact y, h, rfl, rfl, rfl, fun u z => (nomatch z), Nat.zero_add _⟩
theorem hd_f {ρ : List Nat} (h1 : okS ρ) (h2 : hdU ρ) : ∀ (x : Nat) (r : List Nat), flat ρ = x :: r → (x < 2 ∨ 5 < x) ∧ x < 200 := fun x r h => by
  cases ρ with
  | nil => exact nomatch h
  | cons y l =>
    have e : sgO y = x := (List.cons.inj h).1
    have k := rr_x ⟨y, by have := h1.1; omega⟩ h1.1.1
    have k1 : sgO y < 127 := k.1
    have k2 : y ≤ 10 → rkR (sgO y) = rkA y ∧ 6 ≤ sgO y := k.2.1
    have k3 : 13 ≤ y → sgO y = 1 := k.2.2
    have nu := h2 y l rfl
    have := h1.1
    by_cases z : y ≤ 10
    · have := (k2 z).2
      omega
    · have := k3 (by omega)
      omega
def opW (c : Nat → Nat) (e q : Nat) : Tp := if eT c e q = q + 1 ∧ c q = 46 then (18, 0, 0) else (17, q, 0)
/-- what names and near labels are worth in a state of the reference, and whether they are loose -/
def VA (n e : Nat) (c : Nat → Nat) (B : St) (V : Tp → Int32 × Bool) (lo : Tp → Bool) : Prop := (∀ v : Nat, V (16, 0, v) = (nI v, false) ∧ lo (16, 0, v) = false ∧ lo (19, 0, v) = true ∧ lo (20, 0, v) = true) ∧ (∀ q : Nat, q < e → aP (c q) = true → aD (c q) = false → eT c e q - q ≤ 31 → ∀ (ft : Int32) (ms dv ls : Bool) (sg vl : Nat) (PL : Nat → Int32) (ap : Nat) (nm : Int32), vl < 32800 → df_X13_name n (uR (xR B ft ms dv ls sg (vl + 1) PL) ap 1 q (eT c e q) nm) = some (uR (xR B ft (ms || (V (opW c e q)).2) dv (ls || lo (opW c e q)) sg vl (upd PL vl (V (opW c e q)).1)) ap 1 q (eT c e q) nm)) ∧ ∀ (d : Nat) (fw : Bool), d ≤ 9 → ∀ (ft : Int32) (ms dv ls : Bool) (sg vl : Nat) (PL : Nat → Int32) (ap tk fr to : Nat) (nm : Int32), df_X13_near n (nI d) (bI fw) (uR (xR B ft ms dv ls sg vl PL) ap tk fr to nm) = some ((V (if fw = true then 19 else 20, 0, d)).1, (uR (xR B ft (ms || (V (if fw = true then 19 else 20, 0, d)).2) dv ls sg vl PL) ap tk fr to nm))
def lsF (lo : Tp → Bool) (P : Nat → Tp) : Nat → Bool
  | 0 => false
  | m + 1 => lsF lo P m || (decide (16 ≤ (P m).1) && lo (P m))
theorem ls_c {lo : Tp → Bool} {P Q : Nat → Tp} : ∀ m : Nat, (∀ i : Nat, i < m → P i = Q i) → lsF lo P m = lsF lo Q m := fun m => by
  induction m with
  | zero => intro _; rfl
  | succ m ih =>
    intro h
    show (lsF lo P m || (decide (16 ≤ (P m).1) && lo (P m))) = (lsF lo Q m || (decide (16 ≤ (Q m).1) && lo (Q m)))
    rw [h m (by omega), ih (fun i hi => h i (by omega))]
theorem ls_w {lo : Tp → Bool} {P : Nat → Tp} {m : Nat} (o : Tp) : lsF lo (nwT P m o) (m + 1) = (lsF lo P m || (decide (16 ≤ o.1) && lo o)) := by
  show (lsF lo (nwT P m o) m || (decide (16 ≤ (nwT P m o m).1) && lo (nwT P m o m))) = _
  rw [show nwT P m o m = o from if_pos rfl, ls_c m (fun i hi => show nwT P m o i = P i from if_neg (by omega))]
theorem ls_a {lo : Tp → Bool} : ∀ (xs : List Nat) (P : Nat → Tp) (m : Nat), (∀ x : Nat, x ∈ xs → x < 16) → lsF lo (apl P m xs) (m + xs.length) = lsF lo P m := fun xs => by
  induction xs with
  | nil => intro P m _; rfl
  | cons x xs ih =>
    intro P m h
    show lsF lo (apl (nwT P m (x, 0, 0)) (m + 1) xs) (m + (xs.length + 1)) = _
    rw [show m + (xs.length + 1) = m + 1 + xs.length by omega, ih (nwT P m (x, 0, 0)) (m + 1) (fun y hy => h y (List.mem_cons_of_mem _ hy)), ls_w]
    have := h x (List.mem_cons_self ..)
    rw [decide_eq_false (show ¬ 16 ≤ x by omega), Bool.false_and, Bool.or_false]
/-- behind a value: the signs before it -/
theorem ro_B {n : Nat} {B : St} {ms dv ls : Bool} {PL : Nat → Int32} {ap tk fr to : Nat} {nm : Int32} {V : Tp → Int32 × Bool} {P : Nat → Tp} {m : Nat} {ft : Int32} (hn : 70000 < n) (l : List Nat) (v : Int32) (vs : List Int32) (hl : okS l) (h3 : (flat l).length + vs.length < 32780) (h4 : stk PL (flat l)) (h5 : vst PL (v :: vs)) (h6 : rnF V P m = (v :: vs, ms, dv)) : ∃ (PL' : Nat → Int32) (v' : Int32), df_X13_bind n (uR (xR B ft ms dv ls (flat l).length (32800 - (v :: vs).length) PL) ap tk fr to nm) = some (uR (xR B ft ms dv ls (flat (rsP l)).length (32800 - (v' :: vs).length) PL') ap tk fr to nm) ∧ stk PL' (flat (rsP l)) ∧ vst PL' (v' :: vs) ∧ rnF V (apl P m (usP l)) (m + (usP l).length) = (v' :: vs, ms, dv) := by
  obtain ⟨a1, a2, a3, a4, a5, a6, a7, a8⟩ := us_1 l hl
  have fl := (flat_l l).1
  have lm : (flat l).length = (usP l).length + (flat (rsP l)).length := by rw [a6, List.length_append, List.length_map]
  rw [a6] at h4
  obtain ⟨PL', v', e1, e2, e3, e4⟩ := rpb_2 (n := n) (B := B) (ft := ft) (ms := ms) (dv := dv) (ls := ls) (ap := ap) (tk := tk) (fr := fr) (to := to) (nm := nm) (V := V) (flat (rsP l)) vs (hd_f a3 a2) (usP l) n m P PL v (fun y hy => by have := a7 y hy; omega) (by omega) (by omega) h4 h5 h6
  refine ⟨PL', v', ?_, e2, e3, e4⟩
  rw [a6]
  exact e1
theorem ro_2 {n : Nat} {B : St} {ms dv ls : Bool} {PL : Nat → Int32} {ap fr to : Nat} {nm : Int32} {V : Tp → Int32 × Bool} {P : Nat → Tp} {m : Nat} {e : Nat} {c : Nat → Nat} {lo : Tp → Bool} (hV : VA n e c B V lo) (x : Nat) (hn : 70000 < n) (l : List Nat) (vs : List Int32) (hl : okS l) (h3 : (flat l).length + vs.length < 32770) (h4 : stk PL (flat l)) (h5 : vst PL vs) (h6 : rnF V P m = (vs, ms, dv)) : ∃ (PL' : Nat → Int32) (v' : Int32), df_X13_operand n (uR (xR B 0 ms dv ls (flat l).length (32800 - vs.length) PL) ap 2 fr to (nI x)) = some (1, (uR (xR B 0 (ms || (V (16, 0, x)).2) dv ls (flat (rsP l)).length (32800 - (v' :: vs).length) PL') ap 2 fr to (nI x))) ∧ stk PL' (flat (rsP l)) ∧ vst PL' (v' :: vs) ∧ rnF V (apl (nwT P m (16, 0, x)) (m + 1) (usP l)) (m + 1 + (usP l).length) = (v' :: vs, (ms || (V (16, 0, x)).2), dv) := by
  obtain ⟨PL', v', e1, e2, e3, e4⟩ := ro_B (n := n) (B := B) (ms := ms || (V (16, 0, x)).2) (dv := dv) (ls := ls) (PL := upd PL (32800 - (vs.length + 1)) (V (16, 0, x)).1) (ap := ap) (tk := 2) (fr := fr) (to := to) (nm := nI x) (V := V) (P := nwT P m (16, 0, x)) (m := m + 1) (ft := 0) hn l (V (16, 0, x)).1 vs hl (by omega) (stk_u _ _ (by omega) h4) (vst_p _ (by omega) h5) (by
    rw [rn_w, h6]
    unfold stp
    rw [if_pos (by show 16 ≤ 16; omega)])
  refine ⟨PL', v', ?_, e2, e3, e4⟩
  have e1 : df_X13_bind n (uR (xR B 0 (ms || (V (16, 0, x)).2) dv ls (flat l).length (32800 - (vs.length + 1)) (upd PL (32800 - (vs.length + 1)) (V (16, 0, x)).1)) ap 2 fr to (nI x)) = _ := e1
  rw [(hV.1 x).1] at e1 ⊢
  have e0 : (ms || ((nI x, false) : Int32 × Bool).2) = ms := Bool.or_false ms
  rw [e0] at e1 ⊢
  unfold df_X13_operand df_X13_operand_0 df_X13_operand_242
  rw [uR_i8, if_neg (show ¬ nI 2 = (1 : Int32) by decide), if_pos (show nI 2 = (2 : Int32) from rfl), uR_i11, show 32800 - vs.length = 32800 - (vs.length + 1) + 1 by omega, rv_1 (nI x) (by omega), nb_b1, e1, nb_b1]
theorem ro_1 {n : Nat} {B : St} {ms dv ls : Bool} {PL : Nat → Int32} {ap : Nat} {nm : Int32} {V : Tp → Int32 × Bool} {P : Nat → Tp} {m : Nat} {e : Nat} {c : Nat → Nat} {lo : Tp → Bool} (hV : VA n e c B V lo) (q : Nat) (hq : q < e) (ha : aP (c q) = true) (hd : aD (c q) = false) (hw : eT c e q - q ≤ 31) (hn : 70000 < n) (l : List Nat) (vs : List Int32) (hl : okS l) (h3 : (flat l).length + vs.length < 32770) (h4 : stk PL (flat l)) (h5 : vst PL vs) (h6 : rnF V P m = (vs, ms, dv)) : ∃ (PL' : Nat → Int32) (v' : Int32), df_X13_operand n (uR (xR B 0 ms dv ls (flat l).length (32800 - vs.length) PL) ap 1 q (eT c e q) nm) = some (1, (uR (xR B 0 (ms || (V (opW c e q)).2) dv (ls || lo (opW c e q)) (flat (rsP l)).length (32800 - (v' :: vs).length) PL') ap 1 q (eT c e q) nm)) ∧ stk PL' (flat (rsP l)) ∧ vst PL' (v' :: vs) ∧ rnF V (apl (nwT P m (opW c e q)) (m + 1) (usP l)) (m + 1 + (usP l).length) = (v' :: vs, (ms || (V (opW c e q)).2), dv) := by
  obtain ⟨PL', v', e1, e2, e3, e4⟩ := ro_B (n := n) (B := B) (ms := ms || (V (opW c e q)).2) (dv := dv) (ls := (ls || lo (opW c e q))) (PL := upd PL (32800 - (vs.length + 1)) (V (opW c e q)).1) (ap := ap) (tk := 1) (fr := q) (to := (eT c e q)) (nm := nm) (V := V) (P := nwT P m (opW c e q)) (m := m + 1) (ft := 0) hn l (V (opW c e q)).1 vs hl (by omega) (stk_u _ _ (by omega) h4) (vst_p _ (by omega) h5) (by
    rw [rn_w, h6]
    unfold stp
    rw [if_pos (by unfold opW; split <;> (show 16 ≤ _; omega))])
  refine ⟨PL', v', ?_, e2, e3, e4⟩
  have e1 : df_X13_bind n (uR (xR B 0 (ms || (V (opW c e q)).2) dv (ls || lo (opW c e q)) (flat l).length (32800 - (vs.length + 1)) (upd PL (32800 - (vs.length + 1)) (V (opW c e q)).1)) ap 1 q (eT c e q) (nm)) = _ := e1
  have hN := hV.2.1 q hq ha hd hw 0 ms dv ls (flat l).length (32800 - (vs.length + 1)) PL ap nm (by omega)
  rw [show 32800 - (vs.length + 1) + 1 = 32800 - vs.length by omega] at hN
  unfold df_X13_operand df_X13_operand_0 df_X13_operand_242
  rw [uR_i8, if_pos (show nI 1 = (1 : Int32) from rfl), hN, nb_b1, e1, nb_b1]
theorem ro_3 {n : Nat} {B : St} {ms dv ls : Bool} {PL : Nat → Int32} {ap fr to : Nat} {nm : Int32} {V : Tp → Int32 × Bool} {P : Nat → Tp} {m : Nat} {e : Nat} {c : Nat → Nat} {lo : Tp → Bool} (hV : VA n e c B V lo) (d x : Nat) (fw : Bool) (hd : d ≤ 9) (ht : to < 32768) (hx : sR B 2 to = nI x) (hx2 : x < 127) (hf : fw = decide (x = 102)) (hn : 70000 < n) (l : List Nat) (vs : List Int32) (hl : okS l) (h3 : (flat l).length + vs.length < 32770) (h4 : stk PL (flat l)) (h5 : vst PL vs) (h6 : rnF V P m = (vs, ms, dv)) : ∃ (PL' : Nat → Int32) (v' : Int32), df_X13_operand n (uR (xR B 0 ms dv ls (flat l).length (32800 - vs.length) PL) ap 3 fr (to + 1) (nI d)) = some (1, (uR (xR B 0 (ms || (V (if fw = true then 19 else 20, 0, d)).2) dv true (flat (rsP l)).length (32800 - (v' :: vs).length) PL') ap 3 fr (to + 1) (nI d))) ∧ stk PL' (flat (rsP l)) ∧ vst PL' (v' :: vs) ∧ rnF V (apl (nwT P m (if fw = true then 19 else 20, 0, d)) (m + 1) (usP l)) (m + 1 + (usP l).length) = (v' :: vs, (ms || (V (if fw = true then 19 else 20, 0, d)).2), dv) := by
  obtain ⟨PL', v', e1, e2, e3, e4⟩ := ro_B (n := n) (B := B) (ms := ms || (V (if fw = true then 19 else 20, 0, d)).2) (dv := dv) (ls := true) (PL := upd PL (32800 - (vs.length + 1)) (V (if fw = true then 19 else 20, 0, d)).1) (ap := ap) (tk := 3) (fr := fr) (to := (to + 1)) (nm := nI d) (V := V) (P := nwT P m (if fw = true then 19 else 20, 0, d)) (m := m + 1) (ft := 0) hn l (V (if fw = true then 19 else 20, 0, d)).1 vs hl (by omega) (stk_u _ _ (by omega) h4) (vst_p _ (by omega) h5) (by
    rw [rn_w, h6]
    unfold stp
    rw [if_pos (by split <;> (show 16 ≤ _; omega))])
  refine ⟨PL', v', ?_, e2, e3, e4⟩
  have e1 : df_X13_bind n (uR (xR B 0 (ms || (V (if fw = true then 19 else 20, 0, d)).2) dv true (flat l).length (32800 - (vs.length + 1)) (upd PL (32800 - (vs.length + 1)) (V (if fw = true then 19 else 20, 0, d)).1)) ap 3 fr (to + 1) (nI d)) = _ := e1
  have hN := hV.2.2 d fw hd 0 ms dv true (flat l).length (32800 - vs.length) PL ap 3 fr (to + 1) (nI d)
  have fin : df_X13_operand_122 n (nI d) (bI fw) (uR (xR B 0 ms dv true (flat l).length (32800 - vs.length) PL) ap 3 fr (to + 1) (nI d)) = some (1, (uR (xR B 0 (ms || (V (if fw = true then 19 else 20, 0, d)).2) dv true (flat (rsP l)).length (32800 - (v' :: vs).length) PL') ap 3 fr (to + 1) (nI d))) := by
    unfold df_X13_operand_122 df_X13_operand_242
    rw [hN, nb_b2, show 32800 - vs.length = 32800 - (vs.length + 1) + 1 by omega, rv_1 _ (by omega), nb_b1, e1, nb_b1]
  unfold df_X13_operand df_X13_operand_0
  rw [uR_i8, if_neg (show ¬ nI 3 = (1 : Int32) by decide), if_neg (show ¬ nI 3 = (2 : Int32) by decide), if_pos (show nI 3 = (3 : Int32) from rfl), show pI (uR (xR B 0 ms dv ls (flat l).length (32800 - vs.length) PL) ap 3 fr (to + 1) (nI d)) 23 1 = _ from xR_w23 (v := true), nb_let, uR_i10, show nI (to + 1) - (1 : Int32) = nI to from pk_sub (b := 1) (by omega), nm_ck (by omega) (by omega), nI_clamp (by omega), uR_r, xR_r2, hx, uR_i11]
  by_cases y : x = 102
  · rw [if_pos (show nI x = (102 : Int32) from congrArg nI y)]
    rw [decide_eq_true y] at hf
    subst hf
    exact fin
  · rw [if_neg (show ¬ nI x = (102 : Int32) from zne (b := 102) y (by omega) (by omega))]
    rw [decide_eq_false y] at hf
    subst hf
    exact fin
/-- a sign before a value, a bracket; nothing that can be there -/
theorem ro_S {n : Nat} {B : St} {ft : Int32} {ms dv ls : Bool} {sg vl : Nat} {PL : Nat → Int32} {ap tk fr to : Nat} {nm : Int32} (x s : Nat) (hx : (x = 40 ∧ s = 1) ∨ (x = 45 ∧ s = 2) ∨ (x = 126 ∧ s = 3)) (h : sg < 32800) : df_X13_operand n (uR (xR B ft ms dv ls sg vl PL) ap x fr to nm) = some (0, (uR (xR B ft ms dv ls (sg + 1) vl (upd PL sg (nI s))) ap x fr to nm)) := by
  unfold df_X13_operand df_X13_operand_0
  rw [uR_i8]
  rcases hx with ⟨e1, e2⟩ | ⟨e1, e2⟩ | ⟨e1, e2⟩ <;> subst e1 <;> subst e2
  · rw [if_neg (show ¬ nI 40 = (1 : Int32) by decide), if_neg (show ¬ nI 40 = (2 : Int32) by decide), if_neg (show ¬ nI 40 = (3 : Int32) by decide), if_neg (show ¬ nI 40 = (37 : Int32) by decide), if_pos (show nI 40 = (40 : Int32) from rfl), rps_1 1 h, nb_b1]
    rfl
  · rw [if_neg (show ¬ nI 45 = (1 : Int32) by decide), if_neg (show ¬ nI 45 = (2 : Int32) by decide), if_neg (show ¬ nI 45 = (3 : Int32) by decide), if_neg (show ¬ nI 45 = (37 : Int32) by decide), if_neg (show ¬ nI 45 = (40 : Int32) by decide), if_pos (show nI 45 = (45 : Int32) from rfl), rps_1 2 h, nb_b1]
    rfl
  · rw [if_neg (show ¬ nI 126 = (1 : Int32) by decide), if_neg (show ¬ nI 126 = (2 : Int32) by decide), if_neg (show ¬ nI 126 = (3 : Int32) by decide), if_neg (show ¬ nI 126 = (37 : Int32) by decide), if_neg (show ¬ nI 126 = (40 : Int32) by decide), if_neg (show ¬ nI 126 = (45 : Int32) by decide), if_pos (show nI 126 = (126 : Int32) from rfl), rps_1 3 h, nb_b1]
    rfl
theorem ro_X {n : Nat} {B : St} {ms dv ls : Bool} {sg vl : Nat} {PL : Nat → Int32} {ap tk fr to : Nat} {nm : Int32} (hx : tk < 300 ∧ ¬ tk = 1 ∧ ¬ tk = 2 ∧ ¬ tk = 3 ∧ ¬ tk = 37 ∧ ¬ tk = 40 ∧ ¬ tk = 45 ∧ ¬ tk = 126) : df_X13_operand n (uR (xR B 0 ms dv ls sg vl PL) ap tk fr to nm) = some (0, (uR (xR B (1 + 16 * sI B 13) ms dv ls sg vl PL) ap tk fr to nm)) := by
  unfold df_X13_operand df_X13_operand_0
  rw [uR_i8, if_neg (show ¬ nI tk = (1 : Int32) from zne (b := 1) (by omega) (by omega) (by omega)), if_neg (show ¬ nI tk = (2 : Int32) from zne (b := 2) (by omega) (by omega) (by omega)), if_neg (show ¬ nI tk = (3 : Int32) from zne (b := 3) (by omega) (by omega) (by omega)), if_neg (show ¬ nI tk = (37 : Int32) from zne (b := 37) (by omega) (by omega) (by omega)), if_neg (show ¬ nI tk = (40 : Int32) from zne (b := 40) (by omega) (by omega) (by omega)), if_neg (show ¬ nI tk = (45 : Int32) from zne (b := 45) (by omega) (by omega) (by omega)), if_neg (show ¬ nI tk = (126 : Int32) from zne (b := 126) (by omega) (by omega) (by omega)), rbl_1, nb_b1, if_pos rfl]
/-- turns of expression -/
theorem e33_1 {n g : Nat} {x1 : Int32} {K s24 : St} {τ : Nat} (h12 : sI K 12 = 0) (hs : df_X13_scan n K = some s24) (ht : sI s24 8 = nI τ) (hτ : τ < 300) : df_X13_expression_33 n (g + 1) x1 1 1 K = df_X13_expression_81 n (df_X13_expression_33 n g) x1 1 (bI (decide (τ = 40 ∨ τ = 37))) s24 := by
  show dF_X13_expression_33 n (df_X13_expression_33 n g) x1 1 1 K = _
  unfold dF_X13_expression_33 df_X13_expression_76
  rw [if_neg (show ¬ (1 : Int32) = 0 by decide), if_pos h12, nb_let, hs, nb_b1, if_neg (show ¬ (1 : Int32) = 0 by decide), ht]
  by_cases y : τ = 40
  · rw [if_pos (show nI τ = (40 : Int32) from congrArg nI y), decide_eq_true (Or.inl y)]
    rfl
  rw [if_neg (show ¬ nI τ = (40 : Int32) from zne (b := 40) y (by omega) (by omega))]
  by_cases z : τ = 37
  · rw [if_pos (show nI τ = (37 : Int32) from congrArg nI z), decide_eq_true (Or.inr z)]
    rfl
  rw [if_neg (show ¬ nI τ = (37 : Int32) from zne (b := 37) z (by omega) (by omega)), decide_eq_false (by omega)]
  rfl
theorem e33_0 {n g : Nat} {x1 : Int32} {K s24 : St} {τ : Nat} (h12 : sI K 12 = 0) (hs : df_X13_scan n K = some s24) (ht : sI s24 8 = nI τ) (hτ : τ < 300) : df_X13_expression_33 n (g + 1) x1 0 1 K = if 0 < rkR τ then df_X13_expression_129 n (df_X13_expression_33 n g) n x1 1 s24 else df_X13_expression_180 n (df_X13_expression_33 n g) x1 0 1 (sI K 7) s24 := by
  show dF_X13_expression_33 n (df_X13_expression_33 n g) x1 0 1 K = _
  unfold dF_X13_expression_33
  have r6 := (rr_0 ⟨τ, hτ⟩).2
  have r6 : rkR τ ≤ 6 := r6
  rw [if_neg (show ¬ (1 : Int32) = 0 by decide), if_pos h12, nb_let, hs, nb_b1, if_pos rfl, ht, rr_R n hτ, nb_b2]
  by_cases y : 0 < rkR τ
  · rw [if_neg (show ¬ nI (rkR τ) ≤ (0 : Int32) from znle (b := 0) y (by omega)), if_neg (show ¬ nI τ = (0 : Int32) from zne (b := 0) (fun z => by rw [z] at y; exact absurd y (by decide)) (by omega) (by omega)), if_pos y]
  · rw [if_pos (show nI (rkR τ) ≤ (0 : Int32) from zle (b := 0) (by omega) (by omega)), if_neg y]
theorem e81_1 {n op : Nat} {G : Int32 → Int32 → Int32 → St → Option (Int32 × St)} {y r : Bool} {s s2 : St} (h : df_X13_operand n s = some (bI r, s2)) : df_X13_expression_81 n G (nI op) 1 (bI y) s = G (nI (if y = true then op + 1 else op)) (bI (!r)) 1 s2 := by
  unfold df_X13_expression_81
  rw [h, nb_b2]
  unfold df_X13_expression_95 df_X13_expression_108 df_X13_expression_252
  cases r <;> cases y
  · rw [if_pos (show bI false = 0 from rfl), if_pos (show bI false = 0 from rfl)]; rfl
  · rw [if_pos (show bI false = 0 from rfl), if_neg (show ¬ bI true = 0 by decide), show nI op + (1 : Int32) = nI (op + 1) from nI_add op 1]; rfl
  · rw [if_neg (show ¬ bI true = 0 by decide), if_pos (show bI false = 0 from rfl)]; rfl
  · rw [if_neg (show ¬ bI true = 0 by decide), if_neg (show ¬ bI true = 0 by decide), show nI op + (1 : Int32) = nI (op + 1) from nI_add op 1]; rfl
/-- a fault ends it -/
theorem ef_1 {n : Nat} {B : St} {ft : Int32} {ms dv ls : Bool} {sg vl : Nat} {PL : Nat → Int32} {ap tk fr to : Nat} {nm : Int32} (hn : 70000 < n) (g : Nat) (x1 x2 x3 : Int32) (hf : ¬ ft = 0) : df_X13_expression_33 n (g + 1) x1 x2 x3 (uR (xR B ft ms dv ls sg vl PL) ap tk fr to nm) = some (0, (uR (xR B ft ms dv ls sg vl PL) ap tk fr to nm)) := by
  have e1 : ∀ y1 : Int32, df_X13_expression_335 n 0 y1 (uR (xR B ft ms dv ls sg vl PL) ap tk fr to nm) = some (0, (uR (xR B ft ms dv ls sg vl PL) ap tk fr to nm)) := fun y1 => by
    unfold df_X13_expression_335 df_X13_expression_338
    rw [rbl_1, nb_b1, if_neg hf]
  have e2 : df_X13_expression_296 n 0 (uR (xR B ft ms dv ls sg vl PL) ap tk fr to nm) = some (0, (uR (xR B ft ms dv ls sg vl PL) ap tk fr to nm)) := by
    unfold df_X13_expression_296 df_X13_expression_320 df_X13_expression_338
    rw [e1, e1]
    repeat' split
    all_goals rfl
  have e3 : df_X13_expression_276 n (uR (xR B ft ms dv ls sg vl PL) ap tk fr to nm) = some (0, (uR (xR B ft ms dv ls sg vl PL) ap tk fr to nm)) := by
    unfold df_X13_expression_276
    rw [xR_u12, if_neg hf]
    exact e2
  have e4 : df_X13_expression_255 n n (uR (xR B ft ms dv ls sg vl PL) ap tk fr to nm) = some (0, (uR (xR B ft ms dv ls sg vl PL) ap tk fr to nm)) := by
    obtain ⟨k, rfl⟩ : ∃ k : Nat, n = k + 1 := ⟨n - 1, by omega⟩
    show dF_X13_expression_255 (k + 1) (df_X13_expression_255 (k + 1) k) (uR (xR B ft ms dv ls sg vl PL) ap tk fr to nm) = _
    unfold dF_X13_expression_255
    rw [xR_u12, if_neg hf, e3]
    split <;> rfl
  show dF_X13_expression_33 n (df_X13_expression_33 n g) x1 x2 x3 (uR (xR B ft ms dv ls sg vl PL) ap tk fr to nm) = _
  unfold dF_X13_expression_33
  rw [xR_u12, if_neg hf, e4]
  split <;> rfl
