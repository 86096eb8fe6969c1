/-- expressions: the reference's pile -/
def sgO (x : Nat) : Nat := ([0, 42, 47, 37, 43, 45, 6, 7, 38, 94, 124, 2, 3, 1, 1, 1] : List Nat).getD x 0
def uo (y : Nat) : Nat := y - 9
def sgl (y : Nat) (v : Int32) : Int32 := if y = 11 then -v else if y = 12 then v ^^^ (-1) else if y = 13 then ((v + 2048).toUInt32 >>> ((12 : Int32).toUInt32 &&& Int32.toUInt32 31)).toInt32 else (v <<< ((20 : Int32) &&& 31)) >>> ((20 : Int32) &&& 31)
def jn (x : Nat) (v w : Int32) : Int32 := if x = 1 then v * w else if x = 2 then (if w = 0 then 0 else v / w) else if x = 3 then (if w = 0 then 0 else v - v / w * w) else if x = 4 then v + w else if x = 5 then v - w else if x = 6 then v <<< ((w &&& 31) &&& 31) else if x = 7 then v >>> ((w &&& 31) &&& 31) else if x = 8 then v &&& w else if x = 9 then v ^^^ w else v ||| w
def dz (x : Nat) (w : Int32) : Bool := (decide (x = 2) || decide (x = 3)) && decide (w = 0)
/-- what a row of signs makes of values -/
def stp (V : Tp → Int32 × Bool) (o : Tp) (s : List Int32 × Bool × Bool) : List Int32 × Bool × Bool := if 16 ≤ o.1 then ((V o).1 :: s.1, s.2.1 || (V o).2, s.2.2) else if 11 ≤ o.1 then (match s.1 with | v :: r => sgl o.1 v :: r | [] => [], s.2.1, s.2.2) else (match s.1 with | w :: v :: r => (jn o.1 v w :: r, s.2.1, s.2.2 || dz o.1 w) | _ => s)
def rnF (V : Tp → Int32 × Bool) (P : Nat → Tp) : Nat → List Int32 × Bool × Bool
  | 0 => ([], false, false)
  | m + 1 => stp V (P m) (rnF V P m)
theorem rn_c {V : Tp → Int32 × Bool} {P Q : Nat → Tp} : ∀ m : Nat, (∀ i : Nat, i < m → P i = Q i) → rnF V P m = rnF V Q m := fun m => by
  induction m with
  | zero => intro _; rfl
  | succ m ih =>
    intro h
    show stp V (P m) (rnF V P m) = stp V (Q m) (rnF V Q m)
    rw [h m (by omega), ih (fun i hi => h i (by omega))]
theorem rn_w {V : Tp → Int32 × Bool} {P : Nat → Tp} {m : Nat} (o : Tp) : rnF V (nwT P m o) (m + 1) = stp V o (rnF V P m) := by
  show stp V (nwT P m o m) (rnF V (nwT P m o) m) = _
  rw [show nwT P m o m = o from if_pos rfl, rn_c m (fun i hi => show nwT P m o i = P i from if_neg (by omega))]
def vst (PL : Nat → Int32) : List Int32 → Prop
  | [] => True
  | v :: l => PL (32800 - (l.length + 1)) = v ∧ vst PL l
theorem vst_u {PL : Nat → Int32} {v : Int32} : ∀ (l : List Int32) (k : Nat), k + l.length < 32800 → vst PL l → vst (upd PL k v) l := fun l => by
  induction l with
  | nil => intro k _ _; exact trivial
  | cons x l ih =>
    intro k hk h
    have hk : k + (l.length + 1) < 32800 := hk
    exact ⟨(up_n (by omega)).trans h.1, ih k (by omega) h.2⟩
theorem vst_p {PL : Nat → Int32} {l : List Int32} (v : Int32) (hl : l.length < 32800) (h : vst PL l) : vst (upd PL (32800 - (l.length + 1)) v) (v :: l) := ⟨up_e, vst_u l _ (by omega) h⟩
theorem rps_1 {n : Nat} {B : St} {ft : Int32} {ms dv ls : Bool} {sg vl : Nat} {PL : Nat → Int32} {ap tk fr to : Nat} {nm : Int32} (v : Int32) (h : sg < 32800) : df_X13_sign n v (uR (xR B ft ms dv ls sg vl PL) ap tk fr to nm) = some (uR (xR B ft ms dv ls (sg + 1) vl (upd PL sg v)) ap tk fr to nm) := by
  unfold df_X13_sign df_X13_sign_0
  rw [xR_u24, nm_ck (by omega) (by omega), nI_clamp (by omega), uR_r, xR_r8, xR_y8, nb_let, xR_u24, show nI sg + (1 : Int32) = nI (sg + 1) from nI_add sg 1, xR_w24, nb_let]
theorem rv_1 {n : Nat} {B : St} {ft : Int32} {ms dv ls : Bool} {sg vl : Nat} {PL : Nat → Int32} {ap tk fr to : Nat} {nm : Int32} (v : Int32) (h : vl < 32800) : df_X13_value n v (uR (xR B ft ms dv ls sg (vl + 1) PL) ap tk fr to nm) = some (uR (xR B ft ms dv ls sg vl (upd PL vl v)) ap tk fr to nm) := by
  unfold df_X13_value df_X13_value_0
  rw [xR_u25, show nI (vl + 1) - (1 : Int32) = nI vl from pk_sub (b := 1) (by omega), xR_w25, nb_let, xR_u25, nm_ck (by omega) (by omega), nI_clamp (by omega), uR_r, xR_r8, xR_y8, nb_let]
theorem rw_1 {n : Nat} {B : St} {ft : Int32} {ms dv ls : Bool} {sg vl : Nat} {PL : Nat → Int32} {ap tk fr to : Nat} {nm : Int32} (x : Nat) (v w : Int32) (hx : 1 ≤ x ∧ x ≤ 10) : df_X13_worked n (nI (sgO x)) v w (uR (xR B ft ms dv ls sg vl PL) ap tk fr to nm) = some (jn x v w, (uR (xR B ft ms (dv || dz x w) ls sg vl PL) ap tk fr to nm)) := by
  unfold df_X13_worked df_X13_worked_0
  have fin : ∀ (s : Nat) (b : Bool), (if nI s = (47 : Int32) then nd_nz (decide (w = 0)) (df_X13_worked_157 n (v / w) (uR (xR B ft ms b ls sg vl PL) ap tk fr to nm)) else nd_nz (decide (w = 0)) (df_X13_worked_157 n (v - v / w * w) (uR (xR B ft ms b ls sg vl PL) ap tk fr to nm))) = (if w = 0 then none else some (if nI s = (47 : Int32) then v / w else v - v / w * w, (uR (xR B ft ms b ls sg vl PL) ap tk fr to nm))) := fun s b => by
    unfold nd_nz df_X13_worked_157
    by_cases y : w = 0
    · rw [decide_eq_true y, if_pos y, if_pos rfl, if_pos rfl]
      split <;> rfl
    · rw [decide_eq_false y, if_neg y, if_neg Bool.false_ne_true, if_neg Bool.false_ne_true]
      split <;> rfl
  have q : ∀ (s : Nat) (b : Bool), df_X13_worked_131 n (nI s) v w (bI b) (uR (xR B ft ms dv ls sg vl PL) ap tk fr to nm) = some (if w = 0 then 0 else if nI s = (47 : Int32) then v / w else v - v / w * w, (uR (xR B ft ms b ls sg vl PL) ap tk fr to nm)) := fun s b => by
    unfold df_X13_worked_131
    have z1 : ∀ x : Option (Int32 × St), nd_f .boolean (bI b) x = x := fun x => by cases b <;> rfl
    have z2 : ∀ x : Option (Int32 × St), nd_z .boolean (bI b) x = x := fun x => by cases b <;> exact nar_z (by decide)
    rw [z1, z2, xR_w22, nb_let, fin s b]
    by_cases y : w = 0
    · rw [if_pos y, if_pos y]; rfl
    · rw [if_neg y, if_neg y, if_neg y]
  have p : ∀ s : Nat, (if sI (uR (xR B ft ms dv ls sg vl PL) ap tk fr to nm) 22 = 0 then if w = 0 then df_X13_worked_126 n (nI s) v w (uR (xR B ft ms dv ls sg vl PL) ap tk fr to nm) else df_X13_worked_131 n (nI s) v w 0 (uR (xR B ft ms dv ls sg vl PL) ap tk fr to nm) else df_X13_worked_126 n (nI s) v w (uR (xR B ft ms dv ls sg vl PL) ap tk fr to nm)) = some (if w = 0 then 0 else if nI s = (47 : Int32) then v / w else v - v / w * w, (uR (xR B ft ms (dv || decide (w = 0)) ls sg vl PL) ap tk fr to nm)) := fun s => by
    unfold df_X13_worked_126
    rw [xR_u22]
    cases dv with
    | true =>
      rw [if_neg (show ¬ bI true = 0 by decide), show (1 : Int32) = bI true from rfl, q s true, Bool.true_or]
    | false =>
      rw [if_pos (show bI false = 0 from rfl)]
      by_cases y : w = 0
      · rw [if_pos y, show (1 : Int32) = bI true from rfl, q s true, decide_eq_true y]
        rfl
      · rw [if_neg y, show df_X13_worked_131 n (nI s) v w 0 (uR (xR B ft ms false ls sg vl PL) ap tk fr to nm) = _ from q s false, decide_eq_false y]
        rfl
  have c : x = 1 ∨ x = 2 ∨ x = 3 ∨ x = 4 ∨ x = 5 ∨ x = 6 ∨ x = 7 ∨ x = 8 ∨ x = 9 ∨ x = 10 := by omega
  rcases c with c | c | c | c | c | c | c | c | c | c <;> subst c
  · rw [show sgO 1 = 42 from rfl, if_neg (show ¬ nI 42 = (6 : Int32) by decide), if_neg (show ¬ nI 42 = (7 : Int32) by decide), if_neg (show ¬ nI 42 = (38 : Int32) by decide), if_pos (show nI 42 = (42 : Int32) from rfl), show dz 1 w = false from rfl, Bool.or_false]
    rfl
  · rw [show sgO 2 = 47 from rfl, if_neg (show ¬ nI 47 = (6 : Int32) by decide), if_neg (show ¬ nI 47 = (7 : Int32) by decide), if_neg (show ¬ nI 47 = (38 : Int32) by decide), if_neg (show ¬ nI 47 = (42 : Int32) by decide), if_neg (show ¬ nI 47 = (43 : Int32) by decide), if_neg (show ¬ nI 47 = (45 : Int32) by decide), if_neg (show ¬ nI 47 = (94 : Int32) by decide), if_neg (show ¬ nI 47 = (124 : Int32) by decide), p 47, show dz 2 w = decide (w = 0) from Bool.true_and _]
    rfl
  · rw [show sgO 3 = 37 from rfl, if_neg (show ¬ nI 37 = (6 : Int32) by decide), if_neg (show ¬ nI 37 = (7 : Int32) by decide), if_neg (show ¬ nI 37 = (38 : Int32) by decide), if_neg (show ¬ nI 37 = (42 : Int32) by decide), if_neg (show ¬ nI 37 = (43 : Int32) by decide), if_neg (show ¬ nI 37 = (45 : Int32) by decide), if_neg (show ¬ nI 37 = (94 : Int32) by decide), if_neg (show ¬ nI 37 = (124 : Int32) by decide), p 37, show dz 3 w = decide (w = 0) from Bool.true_and _]
    rfl
  · rw [show sgO 4 = 43 from rfl, if_neg (show ¬ nI 43 = (6 : Int32) by decide), if_neg (show ¬ nI 43 = (7 : Int32) by decide), if_neg (show ¬ nI 43 = (38 : Int32) by decide), if_neg (show ¬ nI 43 = (42 : Int32) by decide), if_pos (show nI 43 = (43 : Int32) from rfl), show dz 4 w = false from rfl, Bool.or_false]
    rfl
  · rw [show sgO 5 = 45 from rfl, if_neg (show ¬ nI 45 = (6 : Int32) by decide), if_neg (show ¬ nI 45 = (7 : Int32) by decide), if_neg (show ¬ nI 45 = (38 : Int32) by decide), if_neg (show ¬ nI 45 = (42 : Int32) by decide), if_neg (show ¬ nI 45 = (43 : Int32) by decide), if_pos (show nI 45 = (45 : Int32) from rfl), show dz 5 w = false from rfl, Bool.or_false]
    rfl
  · rw [show sgO 6 = 6 from rfl, if_pos (show nI 6 = (6 : Int32) from rfl), show dz 6 w = false from rfl, Bool.or_false]
    rfl
  · rw [show sgO 7 = 7 from rfl, if_neg (show ¬ nI 7 = (6 : Int32) by decide), if_pos (show nI 7 = (7 : Int32) from rfl), show dz 7 w = false from rfl, Bool.or_false]
    rfl
  · rw [show sgO 8 = 38 from rfl, if_neg (show ¬ nI 38 = (6 : Int32) by decide), if_neg (show ¬ nI 38 = (7 : Int32) by decide), if_pos (show nI 38 = (38 : Int32) from rfl), show dz 8 w = false from rfl, Bool.or_false]
    rfl
  · rw [show sgO 9 = 94 from rfl, if_neg (show ¬ nI 94 = (6 : Int32) by decide), if_neg (show ¬ nI 94 = (7 : Int32) by decide), if_neg (show ¬ nI 94 = (38 : Int32) by decide), if_neg (show ¬ nI 94 = (42 : Int32) by decide), if_neg (show ¬ nI 94 = (43 : Int32) by decide), if_neg (show ¬ nI 94 = (45 : Int32) by decide), if_pos (show nI 94 = (94 : Int32) from rfl), show dz 9 w = false from rfl, Bool.or_false]
    rfl
  · rw [show sgO 10 = 124 from rfl, if_neg (show ¬ nI 124 = (6 : Int32) by decide), if_neg (show ¬ nI 124 = (7 : Int32) by decide), if_neg (show ¬ nI 124 = (38 : Int32) by decide), if_neg (show ¬ nI 124 = (42 : Int32) by decide), if_neg (show ¬ nI 124 = (43 : Int32) by decide), if_neg (show ¬ nI 124 = (45 : Int32) by decide), if_neg (show ¬ nI 124 = (94 : Int32) by decide), if_pos (show nI 124 = (124 : Int32) from rfl), show dz 10 w = false from rfl, Bool.or_false]
    rfl
theorem rj_1 {n : Nat} {B : St} {ft : Int32} {ms dv ls : Bool} {sg vl : Nat} {PL : Nat → Int32} {ap tk fr to : Nat} {nm : Int32} (x : Nat) (v w : Int32) (hx : 1 ≤ x ∧ x ≤ 10) (hs : sg < 32800) (hv : vl + 1 < 32800) (p1 : PL sg = nI (sgO x)) (p2 : PL vl = w) (p3 : PL (vl + 1) = v) : df_X13_join n (uR (xR B ft ms dv ls (sg + 1) vl PL) ap tk fr to nm) = some (uR (xR B ft ms (dv || dz x w) ls sg (vl + 1) (upd PL (vl + 1) (jn x v w))) ap tk fr to nm) := by
  unfold df_X13_join df_X13_join_0
  rw [xR_u24, show nI (sg + 1) - (1 : Int32) = nI sg from pk_sub (b := 1) (by omega), xR_w24, nb_let, xR_u25, nm_ck (by omega) (by omega), nI_clamp (by omega), uR_r, xR_r8, p2, nb_let, show nI vl + (1 : Int32) = nI (vl + 1) from nI_add vl 1, xR_w25, nb_let, xR_u24, xR_u25, nm_ck (by omega) (by omega), nm_ck (by omega) (by omega), nI_clamp (by omega), nI_clamp (by omega), uR_r, xR_r8, p1, p3, rw_1 x v w hx, nb_b2, nm_ck (by omega) (by omega), uR_r, xR_r8, xR_y8, nb_let]
/-- one join on the lists -/
theorem rj_2 {n : Nat} {B : St} {ft : Int32} {ms dv ls : Bool} {PL : Nat → Int32} {ap tk fr to : Nat} {nm : Int32} {V : Tp → Int32 × Bool} {P : Nat → Tp} {m : Nat} (x : Nat) (f : List Nat) (w v : Int32) (vs : List Int32) (hx : 1 ≤ x ∧ x ≤ 10) (h1 : stk PL (sgO x :: f)) (h2 : vst PL (w :: v :: vs)) (h3 : f.length + vs.length < 32790) (h4 : rnF V P m = (w :: v :: vs, ms, dv)) : ∃ (PL' : Nat → Int32) (dv' : Bool), df_X13_join n (uR (xR B ft ms dv ls (sgO x :: f).length (32800 - (w :: v :: vs).length) PL) ap tk fr to nm) = some (uR (xR B ft ms dv' ls f.length (32800 - (jn x v w :: vs).length) PL') ap tk fr to nm) ∧ stk PL' f ∧ vst PL' (jn x v w :: vs) ∧ rnF V (nwT P m (x, 0, 0)) (m + 1) = (jn x v w :: vs, ms, dv') := by
  have e := rj_1 (n := n) (B := B) (ft := ft) (ms := ms) (dv := dv) (ls := ls) (sg := f.length) (vl := 32800 - (vs.length + 2)) (PL := PL) (ap := ap) (tk := tk) (fr := fr) (to := to) (nm := nm) x v w hx (by omega) (by omega) h1.1 h2.1 (by rw [show 32800 - (vs.length + 2) + 1 = 32800 - (vs.length + 1) by omega]; exact h2.2.1)
  rw [show 32800 - (vs.length + 2) + 1 = 32800 - (vs.length + 1) by omega] at e
  refine ⟨upd PL (32800 - (vs.length + 1)) (jn x v w), dv || dz x w, e, stk_u f _ (by omega) h1.2, vst_p _ (by omega) h2.2.2, ?_⟩
  rw [rn_w, h4]
  unfold stp
  rw [if_neg (show ¬ 16 ≤ x by omega), if_neg (show ¬ 11 ≤ x by omega)]
/-- unary signs, %hi, %lo: worked out at once -/
theorem rpb_2 {n : Nat} {B : St} {ft : Int32} {ms dv ls : Bool} {ap tk fr to : Nat} {nm : Int32} {V : Tp → Int32 × Bool} (f : List Nat) (vs : List Int32) (hf : ∀ (x : Nat) (r : List Nat), f = x :: r → (x < 2 ∨ 5 < x) ∧ x < 200) : ∀ (ys : List Nat) (g m : Nat) (P : Nat → Tp) (PL : Nat → Int32) (v : Int32), (∀ y : Nat, y ∈ ys → 11 ≤ y ∧ y ≤ 14) → ys.length + 1 < g → ys.length + f.length + vs.length < 32790 → stk PL (ys.map uo ++ f) → vst PL (v :: vs) → rnF V P m = (v :: vs, ms, dv) → ∃ (PL' : Nat → Int32) (v' : Int32), df_X13_bind_2 n g 1 (uR (xR B ft ms dv ls (ys.map uo ++ f).length (32800 - (v :: vs).length) PL) ap tk fr to nm) = some (uR (xR B ft ms dv ls f.length (32800 - (v' :: vs).length) PL') ap tk fr to nm) ∧ stk PL' f ∧ vst PL' (v' :: vs) ∧ rnF V (apl P m ys) (m + ys.length) = (v' :: vs, ms, dv) := fun ys => by
  induction ys with
  | nil =>
    intro g m P PL v h1 h2 h3 h4 h5 h6
    obtain ⟨g, rfl⟩ : ∃ m : Nat, g = m + 1 + 1 := ⟨g - 2, by have : ([] : List Nat).length = 0 := rfl; omega⟩
    have h4 : stk PL f := h4
    have h30 : 0 + f.length + vs.length < 32790 := h3
    refine ⟨PL, v, ?_, h4, h5, h6⟩
    show dF_X13_bind_2 n (df_X13_bind_2 n (g + 1)) 1 (uR (xR B ft ms dv ls (List.map uo [] ++ f).length (32800 - (v :: vs).length) PL) ap tk fr to nm) = _
    unfold dF_X13_bind_2
    rw [if_neg (show ¬ (1 : Int32) = 0 by decide), xR_u24]
    cases f with
    | nil =>
      rw [show (List.map uo [] ++ ([] : List Nat)).length = 0 from rfl, if_pos (show nI 0 ≤ (0 : Int32) by decide)]
      rfl
    | cons x f =>
      have lf : (x :: f).length = f.length + 1 := rfl
      have lg : (List.map uo [] ++ (x :: f)).length = f.length + 1 := rfl
      obtain ⟨hx, hx2⟩ := hf x f rfl
      rw [lf] at h30
      have stop : ∀ w : Int32, df_X13_bind_49 n (df_X13_bind_2 n (g + 1)) (nI x) w (uR (xR B ft ms dv ls (f.length + 1) (32800 - (v :: vs).length) PL) ap tk fr to nm) = some (uR (xR B ft ms dv ls (x :: f).length (32800 - (v :: vs).length) PL) ap tk fr to nm) := fun w => by
        unfold df_X13_bind_49 df_X13_bind_50
        rw [if_pos rfl]
        show dF_X13_bind_2 n (df_X13_bind_2 n g) 0 (uR (xR B ft ms dv ls (f.length + 1) (32800 - (v :: vs).length) PL) ap tk fr to nm) = _
        unfold dF_X13_bind_2
        rw [if_pos rfl]
        rfl
      rw [lg, if_neg (show ¬ nI (f.length + 1) ≤ (0 : Int32) from znle (b := 0) (by omega) (by omega)), show nI (f.length + 1) - (1 : Int32) = nI f.length from pk_sub (b := 1) (by omega), nm_ck (by omega) (by omega), nI_clamp (by omega), uR_r, xR_r8, show PL f.length = nI x from h4.1, nb_let, xR_u25, nm_ck (by show 32800 - (vs.length + 1) < 32800; omega) (by omega), nb_let]
      rcases hx with hx | hx
      · rw [if_pos (show nI x ≤ (1 : Int32) from zle (b := 1) (by omega) (by omega))]
        exact stop _
      · rw [if_neg (show ¬ nI x ≤ (1 : Int32) from znle (b := 1) (by omega) (by omega)), if_pos (show (5 : Int32) < nI x from zlt (a := 5) (by omega) (by omega))]
        exact stop _
  | cons y ys ih =>
    intro g m P PL v h1 h2 h3 h4 h5 h6
    obtain ⟨g, rfl⟩ : ∃ m : Nat, g = m + 1 := ⟨g - 1, by omega⟩
    have ly : (y :: ys).length = ys.length + 1 := rfl
    rw [ly] at h2 h3
    have hy := h1 y (List.mem_cons_self ..)
    have h4 : PL (ys.map uo ++ f).length = nI (uo y) ∧ stk PL (ys.map uo ++ f) := h4
    have lm : (ys.map uo ++ f).length = ys.length + f.length := by rw [List.length_append, List.length_map]
    have lg : ((y :: ys).map uo ++ f).length = (ys.map uo ++ f).length + 1 := rfl
    have hu : uo y = y - 9 := rfl
    obtain ⟨PL', v', e1, e2, e3, e4⟩ := ih g (m + 1) (nwT P m (y, 0, 0)) (upd PL (32800 - (vs.length + 1)) (sgl y v)) (sgl y v) (fun z hz => h1 z (List.mem_cons_of_mem _ hz)) (by omega) (by omega) (stk_u _ _ (by omega) h4.2) (vst_p _ (by omega) h5.2) (by
      rw [rn_w, h6]
      unfold stp
      rw [if_neg (show ¬ 16 ≤ y by omega), if_pos (show 11 ≤ y by omega)])
    refine ⟨PL', v', ?_, e2, e3, ?_⟩
    · rw [← e1]
      have b110 : ∀ w : Int32, df_X13_bind_110 n (df_X13_bind_2 n g) 1 (sI (uR (xR B ft ms dv ls ((y :: ys).map uo ++ f).length (32800 - (v :: vs).length) PL) ap tk fr to nm) 25) w (uR (xR B ft ms dv ls ((y :: ys).map uo ++ f).length (32800 - (v :: vs).length) PL) ap tk fr to nm) = df_X13_bind_2 n g 1 (uR (xR B ft ms dv ls (ys.map uo ++ f).length (32800 - (sgl y v :: vs).length) (upd PL (32800 - (vs.length + 1)) w)) ap tk fr to nm) := fun w => by
        unfold df_X13_bind_110
        rw [xR_u25, nm_ck (by show 32800 - (vs.length + 1) < 32800; omega) (by omega), nI_clamp (by omega), uR_r, xR_r8, xR_y8, nb_let, xR_u24, lg, show nI ((ys.map uo ++ f).length + 1) - (1 : Int32) = nI (ys.map uo ++ f).length from pk_sub (b := 1) (by omega), xR_w24, nb_let]
        rfl
      show dF_X13_bind_2 n (df_X13_bind_2 n g) 1 (uR (xR B ft ms dv ls ((y :: ys).map uo ++ f).length (32800 - (v :: vs).length) PL) ap tk fr to nm) = _
      unfold dF_X13_bind_2
      rw [if_neg (show ¬ (1 : Int32) = 0 by decide), xR_u24, lg, if_neg (show ¬ nI ((ys.map uo ++ f).length + 1) ≤ (0 : Int32) from znle (b := 0) (by omega) (by omega)), show nI ((ys.map uo ++ f).length + 1) - (1 : Int32) = nI (ys.map uo ++ f).length from pk_sub (b := 1) (by omega), nm_ck (by omega) (by omega), nI_clamp (by omega), uR_r, xR_r8, h4.1, nb_let, xR_u25, nm_ck (by show 32800 - (vs.length + 1) < 32800; omega) (by omega), nI_clamp (by omega), show PL (32800 - (v :: vs).length) = v from h5.1, nb_let, if_neg (show ¬ nI (uo y) ≤ (1 : Int32) from znle (b := 1) (by omega) (by omega)), if_neg (show ¬ (5 : Int32) < nI (uo y) from znl (a := 5) (by omega) (by omega))]
      unfold df_X13_bind_50
      rw [if_neg (show ¬ (1 : Int32) = 0 by decide)]
      rw [lg] at b110
      have c : y = 11 ∨ y = 12 ∨ y = 13 ∨ y = 14 := by omega
      rcases c with c | c | c | c <;> subst c
      · rw [show uo 11 = 2 from rfl, if_pos (show nI 2 = (2 : Int32) from rfl), b110]
        rfl
      · rw [show uo 12 = 3 from rfl, if_neg (show ¬ nI 3 = (2 : Int32) by decide), if_pos (show nI 3 = (3 : Int32) from rfl), b110]
        rfl
      · rw [show uo 13 = 4 from rfl, if_neg (show ¬ nI 4 = (2 : Int32) by decide), if_neg (show ¬ nI 4 = (3 : Int32) by decide), if_pos (show nI 4 = (4 : Int32) from rfl), b110]
        rfl
      · rw [show uo 14 = 5 from rfl, if_neg (show ¬ nI 5 = (2 : Int32) by decide), if_neg (show ¬ nI 5 = (3 : Int32) by decide), if_neg (show ¬ nI 5 = (4 : Int32) by decide), b110]
        rfl
    · rw [ly, show m + (ys.length + 1) = m + 1 + ys.length by omega]
      exact e4
