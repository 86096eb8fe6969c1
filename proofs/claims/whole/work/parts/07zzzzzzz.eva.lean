/-- the class's worth of an expression's code -/
def vC (B : St) (tp : Nat) (tr : Int32) (S : Nat → Int32) : St := (fun j => if j = 6 then nI tp else if j = 11 then tr else B.1 j, B.2.1, fun j => if j = 2 then S else B.2.2.1 j, B.2.2.2)
theorem vC_i6 {B : St} {tp : Nat} {tr : Int32} {S : Nat → Int32} : sI (vC B tp tr S) 6 = nI tp := rfl
theorem vC_i11 {B : St} {tp : Nat} {tr : Int32} {S : Nat → Int32} : sI (vC B tp tr S) 11 = tr := rfl
theorem vC_i5 {B : St} {tp : Nat} {tr : Int32} {S : Nat → Int32} : sI (vC B tp tr S) 5 = sI B 5 := rfl
theorem vC_r0 {B : St} {tp : Nat} {tr : Int32} {S : Nat → Int32} : sR (vC B tp tr S) 0 = sR B 0 := rfl
theorem vC_r1 {B : St} {tp : Nat} {tr : Int32} {S : Nat → Int32} : sR (vC B tp tr S) 1 = sR B 1 := rfl
theorem vC_r2 {B : St} {tp : Nat} {tr : Int32} {S : Nat → Int32} : sR (vC B tp tr S) 2 = S := rfl
theorem vC_r3 {B : St} {tp : Nat} {tr : Int32} {S : Nat → Int32} : sR (vC B tp tr S) 3 = sR B 3 := rfl
theorem vC_r5 {B : St} {tp : Nat} {tr : Int32} {S : Nat → Int32} : sR (vC B tp tr S) 5 = sR B 5 := rfl
theorem vC_r6 {B : St} {tp : Nat} {tr : Int32} {S : Nat → Int32} : sR (vC B tp tr S) 6 = sR B 6 := rfl
theorem vC_w6 {B : St} {tp : Nat} {tr : Int32} {S : Nat → Int32} {v : Nat} : pI (vC B tp tr S) 6 (nI v) = vC B v tr S := Prod.ext (funext fun j => by
  show (if j = 6 then nI v else _) = _
  by_cases h : j = 6
  · subst h; rfl
  · unfold vC
    simp only [if_neg h]) rfl
theorem vC_w11 {B : St} {tp : Nat} {tr : Int32} {S : Nat → Int32} {v : Int32} : pI (vC B tp tr S) 11 v = vC B tp v S := Prod.ext (funext fun j => by
  show (if j = 11 then v else _) = _
  by_cases h : j = 11
  · subst h; rfl
  · unfold vC
    simp only [if_neg h]) rfl
theorem vC_y2 {B : St} {tp : Nat} {tr : Int32} {S : Nat → Int32} {v : Nat → Int32} : pR (vC B tp tr S) 2 v = vC B tp tr v := Prod.ext rfl (Prod.ext rfl (Prod.ext (funext fun j => by
  show (if j = 2 then v else _) = _
  by_cases h : j = 2
  · subst h; rfl
  · unfold vC
    simp only [if_neg h]) rfl))
theorem vC_of (B : St) {tp : Nat} {tr : Int32} (h6 : sI B 6 = nI tp) (h11 : sI B 11 = tr) : B = vC B tp tr (sR B 2) := Prod.ext (funext fun j => by
  show B.1 j = (if j = 6 then nI tp else if j = 11 then tr else B.1 j)
  by_cases e0 : j = 6
  · rw [if_pos e0, e0]; exact h6
  rw [if_neg e0]
  by_cases e1 : j = 11
  · rw [if_pos e1, e1]; exact h11
  rw [if_neg e1]) (Prod.ext rfl (Prod.ext (funext fun j => by
  show B.2.2.1 j = (if j = 2 then sR B 2 else B.2.2.1 j)
  by_cases e0 : j = 2
  · rw [if_pos e0, e0]; rfl
  rw [if_neg e0]) rfl))
def trO (ms dv : Bool) : Int32 := if ms = true then 8 else if dv = true then 9 else 0
def cst (S : Nat → Int32) : List Int32 → Prop
  | [] => True
  | v :: l => S l.length = v ∧ cst S l
theorem cst_u {S : Nat → Int32} {v : Int32} : ∀ (l : List Int32) (k : Nat), l.length ≤ k → cst S l → cst (upd S k v) l := fun l => by
  induction l with
  | nil => intro k _ _; exact trivial
  | cons x l ih =>
    intro k hk h
    have hk : l.length + 1 ≤ k := hk
    exact ⟨(up_n (by omega)).trans h.1, ih k (by omega) h.2⟩
theorem cst_p {S : Nat → Int32} {l : List Int32} (v : Int32) (h : cst S l) : cst (upd S l.length v) (v :: l) := ⟨up_e, cst_u l l.length (Nat.le_refl _) h⟩
theorem ad31 (w : Int32) : (w &&& 31) &&& 31 = w &&& 31 := by rw [Int32.and_assoc, show (31 : Int32) &&& 31 = 31 by decide]
theorem jo_1 {n : Nat} {B : St} {tp : Nat} {ms dv : Bool} {S : Nat → Int32} (x : Nat) (v w : Int32) (hx : 1 ≤ x ∧ x ≤ 10) : df_X9_joined n (nI x) v w (vC B tp (trO ms dv) S) = some (jn x v w, (vC B tp (trO ms (dv || dz x w)) S)) := by
  unfold df_X9_joined df_X9_joined_0
  have nz : ∀ z : Option (Int32 × St), ¬ w = 0 → nd_nz (decide (w = 0)) z = z := fun z h => by
    unfold nd_nz
    rw [decide_eq_false h, if_neg Bool.false_ne_true]
  have p : ∀ s : Nat, df_X9_joined_56 n (nI s) v w (vC B tp (trO ms dv) S) = some (if w = 0 then 0 else if nI s = (2 : Int32) then v / w else v - v / w * w, (vC B tp (trO ms (dv || decide (w = 0))) S)) := fun s => by
    unfold df_X9_joined_56 df_X9_joined_77 df_X9_joined_80 df_X9_joined_102
    by_cases y : w = 0
    · simp only [if_pos y, vC_i11, vC_w11, nb_let, decide_eq_true y, Bool.or_true]
      cases ms <;> cases dv <;> rfl
    · rw [if_neg y, if_neg y, if_neg y, nz _ y, nz _ y, decide_eq_false y, Bool.or_false]
      split <;> rfl
  have c : x = 1 ∨ x = 2 ∨ x = 3 ∨ x = 4 ∨ x = 5 ∨ x = 6 ∨ x = 7 ∨ x = 8 ∨ x = 9 ∨ x = 10 := by omega
  rcases c with c | c | c | c | c | c | c | c | c | c <;> subst c
  · rw [if_pos (show nI 1 = (1 : Int32) from rfl), show dz 1 w = false from rfl, Bool.or_false]
    rfl
  · rw [if_neg (show ¬ nI 2 = (1 : Int32) by decide), if_pos (show nI 2 = (2 : Int32) from rfl), p 2, show dz 2 w = decide (w = 0) from Bool.true_and _]
    rfl
  · rw [if_neg (show ¬ nI 3 = (1 : Int32) by decide), if_neg (show ¬ nI 3 = (2 : Int32) by decide), if_pos (show nI 3 = (3 : Int32) from rfl), p 3, show dz 3 w = decide (w = 0) from Bool.true_and _]
    rfl
  · rw [if_neg (show ¬ nI 4 = (1 : Int32) by decide), if_neg (show ¬ nI 4 = (2 : Int32) by decide), if_neg (show ¬ nI 4 = (3 : Int32) by decide), if_pos (show nI 4 = (4 : Int32) from rfl), show dz 4 w = false from rfl, Bool.or_false]
    rfl
  · rw [if_neg (show ¬ nI 5 = (1 : Int32) by decide), if_neg (show ¬ nI 5 = (2 : Int32) by decide), if_neg (show ¬ nI 5 = (3 : Int32) by decide), if_neg (show ¬ nI 5 = (4 : Int32) by decide), if_pos (show nI 5 = (5 : Int32) from rfl), show dz 5 w = false from rfl, Bool.or_false]
    rfl
  · rw [if_neg (show ¬ nI 6 = (1 : Int32) by decide), if_neg (show ¬ nI 6 = (2 : Int32) by decide), if_neg (show ¬ nI 6 = (3 : Int32) by decide), if_neg (show ¬ nI 6 = (4 : Int32) by decide), if_neg (show ¬ nI 6 = (5 : Int32) by decide), if_pos (show nI 6 = (6 : Int32) from rfl), show dz 6 w = false from rfl, Bool.or_false, ← ad31]
    rfl
  · rw [if_neg (show ¬ nI 7 = (1 : Int32) by decide), if_neg (show ¬ nI 7 = (2 : Int32) by decide), if_neg (show ¬ nI 7 = (3 : Int32) by decide), if_neg (show ¬ nI 7 = (4 : Int32) by decide), if_neg (show ¬ nI 7 = (5 : Int32) by decide), if_neg (show ¬ nI 7 = (6 : Int32) by decide), if_pos (show nI 7 = (7 : Int32) from rfl), show dz 7 w = false from rfl, Bool.or_false, ← ad31]
    rfl
  · rw [if_neg (show ¬ nI 8 = (1 : Int32) by decide), if_neg (show ¬ nI 8 = (2 : Int32) by decide), if_neg (show ¬ nI 8 = (3 : Int32) by decide), if_neg (show ¬ nI 8 = (4 : Int32) by decide), if_neg (show ¬ nI 8 = (5 : Int32) by decide), if_neg (show ¬ nI 8 = (6 : Int32) by decide), if_neg (show ¬ nI 8 = (7 : Int32) by decide), if_pos (show nI 8 = (8 : Int32) from rfl), show dz 8 w = false from rfl, Bool.or_false]
    rfl
  · rw [if_neg (show ¬ nI 9 = (1 : Int32) by decide), if_neg (show ¬ nI 9 = (2 : Int32) by decide), if_neg (show ¬ nI 9 = (3 : Int32) by decide), if_neg (show ¬ nI 9 = (4 : Int32) by decide), if_neg (show ¬ nI 9 = (5 : Int32) by decide), if_neg (show ¬ nI 9 = (6 : Int32) by decide), if_neg (show ¬ nI 9 = (7 : Int32) by decide), if_neg (show ¬ nI 9 = (8 : Int32) by decide), if_pos (show nI 9 = (9 : Int32) from rfl), show dz 9 w = false from rfl, Bool.or_false]
    rfl
  · rw [if_neg (show ¬ nI 10 = (1 : Int32) by decide), if_neg (show ¬ nI 10 = (2 : Int32) by decide), if_neg (show ¬ nI 10 = (3 : Int32) by decide), if_neg (show ¬ nI 10 = (4 : Int32) by decide), if_neg (show ¬ nI 10 = (5 : Int32) by decide), if_neg (show ¬ nI 10 = (6 : Int32) by decide), if_neg (show ¬ nI 10 = (7 : Int32) by decide), if_neg (show ¬ nI 10 = (8 : Int32) by decide), if_neg (show ¬ nI 10 = (9 : Int32) by decide), show dz 10 w = false from rfl, Bool.or_false]
    rfl
theorem sl_1 (n y : Nat) (v : Int32) (hy : 11 ≤ y ∧ y ≤ 14) : df_X9_single n (nI y) v () = some (sgl y v, ()) := by
  unfold df_X9_single df_X9_single_0 df_X9_high df_X9_high_0 df_X9_low df_X9_low_0
  have c : y = 11 ∨ y = 12 ∨ y = 13 ∨ y = 14 := by omega
  rcases c with c | c | c | c <;> subst c
  · rw [if_pos (show nI 11 = (11 : Int32) from rfl)]; rfl
  · rw [if_neg (show ¬ nI 12 = (11 : Int32) by decide), if_pos (show nI 12 = (12 : Int32) from rfl)]; rfl
  · rw [if_neg (show ¬ nI 13 = (11 : Int32) by decide), if_neg (show ¬ nI 13 = (12 : Int32) by decide), if_pos (show nI 13 = (13 : Int32) from rfl), nb_b2]; rfl
  · rw [if_neg (show ¬ nI 14 = (11 : Int32) by decide), if_neg (show ¬ nI 14 = (12 : Int32) by decide), if_neg (show ¬ nI 14 = (13 : Int32) by decide), nb_b2]; rfl
/-- one turn -/
def evH (n : Nat) (B : St) (hr : Int32) (V : Tp → Int32 × Bool) (s0 m : Nat) (P : Nat → Tp) : Prop := ∀ i : Nat, i < m → 16 ≤ (P i).1 → ∀ (tp : Nat) (tr : Int32) (S : Nat → Int32), df_X9_operand n (sR B 0 (s0 + i)) (sR B 1 (s0 + i)) hr (vC B tp tr S) = some ((V (P i)).1, vC B tp (if (V (P i)).2 = true then 8 else tr) S)
theorem evl_1 {n g : Nat} {B : St} {hr : Int32} {V : Tp → Int32 × Bool} {s0 m : Nat} {P : Nat → Tp} {S : Nat → Int32} (hV : evH n B hr V s0 m P) (hC : ∀ i : Nat, i < m → sR B 0 (s0 + i) = nI (P i).1) (hP : ∀ i : Nat, i < m → 1 ≤ (P i).1 ∧ (P i).1 ≤ 20 ∧ ¬ (P i).1 = 15) {cs : Nat} (h5 : sI B 5 = nI cs) (hcs : cs ≤ 32832) (hm : s0 + m ≤ cs) (i : Nat) (hi : i < m) (vs : List Int32) (ms dv : Bool) (hl : vs.length ≤ i) (h : cst S vs) : ∃ S' : Nat → Int32, df_X9_evaluate_16 n (g + 1) hr (nI (s0 + i)) (vC B vs.length (trO ms dv) S) = df_X9_evaluate_16 n g hr (nI (s0 + (i + 1))) (vC B (stp V (P i) (vs, ms, dv)).1.length (trO (stp V (P i) (vs, ms, dv)).2.1 (stp V (P i) (vs, ms, dv)).2.2) S') ∧ cst S' (stp V (P i) (vs, ms, dv)).1 ∧ (stp V (P i) (vs, ms, dv)).1.length ≤ i + 1 := by
  have ci := hC i hi
  have pi := hP i hi
  have nx : ∀ s : St, df_X9_evaluate_181 n (df_X9_evaluate_16 n g) hr (nI (s0 + i)) s = df_X9_evaluate_16 n g hr (nI (s0 + (i + 1))) s := fun s => by
    unfold df_X9_evaluate_181
    rw [nb_let, show nI (s0 + i) + Int32.ofInt 1 = nI (s0 + i + 1) from nI_add (s0 + i) 1]
    rfl
  have hd : df_X9_evaluate_16 n (g + 1) hr (nI (s0 + i)) (vC B vs.length (trO ms dv) S) = dF_X9_evaluate_16 n (df_X9_evaluate_16 n g) hr (nI (s0 + i)) (vC B vs.length (trO ms dv) S) := rfl
  rw [hd]
  unfold dF_X9_evaluate_16
  rw [vC_i5, h5, if_neg (znle (show s0 + i < cs by omega) (by omega)), nm_ck (by omega) (by omega), nI_clamp (by omega), vC_r0, ci, if_neg (show ¬ nI (P i).1 = (21 : Int32) from zne (b := 21) (by omega) (by omega) (by omega)), nm_ck (by omega) (by omega)]
  by_cases y : 16 ≤ (P i).1
  · have o := hV i hi y vs.length (trO ms dv) S
    rw [ci] at o
    have es : stp V (P i) (vs, ms, dv) = ((V (P i)).1 :: vs, ms || (V (P i)).2, dv) := by unfold stp; rw [if_pos y]
    rw [es, if_neg (show ¬ nI (P i).1 < (16 : Int32) from znl (b := 16) y (by omega)), nm_ck (by omega) (by omega), nm_ck (by omega) (by omega), vC_r1, o, nb_b2]
    refine ⟨upd S vs.length (V (P i)).1, ?_, cst_p _ h, by show vs.length + 1 ≤ i + 1; omega⟩
    unfold df_X9_push df_X9_push_0 df_X9_push_32
    rw [vC_i6, if_neg (show ¬ (32832 : Int32) ≤ nI vs.length from znle (a := 32832) (by omega) (by omega)), nm_ck (by omega) (by omega), nI_clamp (by omega), vC_r2, vC_y2, nb_let, vC_i6, show nI vs.length + (1 : Int32) = nI (vs.length + 1) from nI_add vs.length 1, vC_w6, nb_let, nb_b1, nx]
    have et : (if (V (P i)).2 = true then 8 else trO ms dv) = trO (ms || (V (P i)).2) dv := by
      unfold trO
      cases ms <;> cases (V (P i)).2 <;> rfl
    rw [et]
    rfl
  · rw [if_pos (show nI (P i).1 < (16 : Int32) from zlt (b := 16) (by omega) (by omega)), nm_ck (by omega) (by omega)]
    by_cases z : 11 ≤ (P i).1
    · rw [if_neg (show ¬ nI (P i).1 < (11 : Int32) from znl (b := 11) z (by omega)), vC_i6]
      cases vs with
      | nil =>
        have es : stp V (P i) ([], ms, dv) = ([], ms, dv) := by unfold stp; rw [if_neg y, if_pos z]
        rw [es, if_pos (show nI ([] : List Int32).length ≤ (0 : Int32) by decide)]
        unfold df_X9_evaluate_122
        rw [vC_i6, if_pos (show nI ([] : List Int32).length ≤ (1 : Int32) by decide), nx]
        exact ⟨S, rfl, h, Nat.zero_le _⟩
      | cons v r =>
        have es : stp V (P i) (v :: r, ms, dv) = (sgl (P i).1 v :: r, ms, dv) := by unfold stp; rw [if_neg y, if_pos z]
        have lr : (v :: r).length = r.length + 1 := rfl
        have lr2 : (sgl (P i).1 v :: r).length = r.length + 1 := rfl
        rw [lr] at hl
        rw [es, lr, lr2, if_neg (show ¬ nI (r.length + 1) ≤ (0 : Int32) from znle (b := 0) (by omega) (by omega)), nm_ck (by omega) (by omega), show nI (r.length + 1) - (1 : Int32) = nI r.length from pk_sub (b := 1) (by omega), nm_ck (by omega) (by omega), nI_clamp (by omega), vC_r2, show S r.length = v from h.1, sl_1 n _ v (by omega), nb_b2, nm_ck (by omega) (by omega), vC_y2, nb_let, nx]
        exact ⟨upd S r.length (sgl (P i).1 v), rfl, cst_p _ h.2, by omega⟩
    · rw [if_pos (show nI (P i).1 < (11 : Int32) from zlt (b := 11) (by omega) (by omega))]
      unfold df_X9_evaluate_122
      rw [vC_i6]
      cases vs with
      | nil =>
        have es : stp V (P i) ([], ms, dv) = ([], ms, dv) := by unfold stp; rw [if_neg y, if_neg z]
        rw [es, if_pos (show nI ([] : List Int32).length ≤ (1 : Int32) by decide), nx]
        exact ⟨S, rfl, h, Nat.zero_le _⟩
      | cons w r =>
        cases r with
        | nil =>
          have es : stp V (P i) ([w], ms, dv) = ([w], ms, dv) := by unfold stp; rw [if_neg y, if_neg z]
          rw [es, if_pos (show nI [w].length ≤ (1 : Int32) by show nI 1 ≤ (1 : Int32); decide), nx]
          exact ⟨S, rfl, h, by show 1 ≤ i + 1; omega⟩
        | cons v r =>
          have es : stp V (P i) (w :: v :: r, ms, dv) = (jn (P i).1 v w :: r, ms, dv || dz (P i).1 w) := by unfold stp; rw [if_neg y, if_neg z]
          have lr : (w :: v :: r).length = r.length + 1 + 1 := rfl
          have lr2 : (jn (P i).1 v w :: r).length = r.length + 1 := rfl
          rw [lr] at hl
          rw [es, lr, lr2, if_neg (show ¬ nI (r.length + 1 + 1) ≤ (1 : Int32) from znle (b := 1) (by omega) (by omega)), show nI (r.length + 1 + 1) - (1 : Int32) = nI (r.length + 1) from pk_sub (b := 1) (by omega), vC_w6, nb_let, nm_ck (by omega) (by omega), vC_i6, show nI (r.length + 1) - (1 : Int32) = nI r.length from pk_sub (b := 1) (by omega), nm_ck (by omega) (by omega), nm_ck (by omega) (by omega), nI_clamp (by omega), nI_clamp (by omega), nI_clamp (by omega), vC_r0, ci, vC_r2, show S (r.length + 1) = w from h.1, show S r.length = v from h.2.1, jo_1 (P i).1 v w (by omega), nb_b2, nm_ck (by omega) (by omega), vC_r2, vC_y2, nb_let, nx]
          exact ⟨upd S r.length (jn (P i).1 v w), rfl, cst_p _ h.2.2, by omega⟩
/-- all of it -/
theorem evl_n {n : Nat} {B : St} {hr : Int32} {V : Tp → Int32 × Bool} {s0 m : Nat} {P : Nat → Tp} (hV : evH n B hr V s0 m P) (hC : ∀ i : Nat, i < m → sR B 0 (s0 + i) = nI (P i).1) (hP : ∀ i : Nat, i < m → 1 ≤ (P i).1 ∧ (P i).1 ≤ 20 ∧ ¬ (P i).1 = 15) {cs : Nat} (h5 : sI B 5 = nI cs) (hcs : cs ≤ 32832) (hm : s0 + m ≤ cs) : ∀ (j i g : Nat) (S : Nat → Int32), i + j = m → j < g → cst S (rnF V P i).1 → (rnF V P i).1.length ≤ i → ∃ (S' : Nat → Int32) (g' : Nat), df_X9_evaluate_16 n g hr (nI (s0 + i)) (vC B (rnF V P i).1.length (trO (rnF V P i).2.1 (rnF V P i).2.2) S) = df_X9_evaluate_16 n (g' + 1) hr (nI (s0 + m)) (vC B (rnF V P m).1.length (trO (rnF V P m).2.1 (rnF V P m).2.2) S') ∧ cst S' (rnF V P m).1 := fun j => by
  induction j with
  | zero =>
    intro i g S h1 h2 h3 h4
    have e : i = m := by omega
    subst e
    exact ⟨S, g - 1, by rw [show g - 1 + 1 = g by omega], h3⟩
  | succ j ih =>
    intro i g S h1 h2 h3 h4
    obtain ⟨g, rfl⟩ : ∃ k : Nat, g = k + 1 := ⟨g - 1, by omega⟩
    obtain ⟨S1, e1, e2, e3⟩ := evl_1 (g := g) (S := S) hV hC hP h5 hcs hm i (by omega) (rnF V P i).1 (rnF V P i).2.1 (rnF V P i).2.2 h4 h3
    have er : stp V (P i) ((rnF V P i).1, (rnF V P i).2.1, (rnF V P i).2.2) = rnF V P (i + 1) := rfl
    rw [er] at e1 e2 e3
    obtain ⟨S', g', f1, f2⟩ := ih (i + 1) g S1 (by omega) (by omega) e2 e3
    exact ⟨S', g', e1.trans f1, f2⟩
/-- the value of an expression whose code ends with 21 -/
theorem evl_all {n : Nat} {B : St} {hr : Int32} {V : Tp → Int32 × Bool} {s0 m : Nat} {P : Nat → Tp} (hn : 70000 < n) (hV : evH n B hr V s0 m P) (hC : ∀ i : Nat, i < m → sR B 0 (s0 + i) = nI (P i).1) (hP : ∀ i : Nat, i < m → 1 ≤ (P i).1 ∧ (P i).1 ≤ 20 ∧ ¬ (P i).1 = 15) {cs : Nat} (h5 : sI B 5 = nI cs) (hcs : cs ≤ 32832) (hm : s0 + m < cs) (h21 : sR B 0 (s0 + m) = 21) (w : Int32) (ms dv : Bool) (hr2 : rnF V P m = ([w], ms, dv)) : ∃ S' : Nat → Int32, df_X9_evaluate n (nI s0) hr B = some (w, vC B 1 (trO ms dv) S') := by
  obtain ⟨S', g', e1, e2⟩ := evl_n hV hC hP h5 hcs (by omega) m 0 n (sR B 2) (by omega) (by omega) trivial (Nat.le_refl 0)
  rw [hr2] at e1 e2
  refine ⟨S', ?_⟩
  have b0 : pI (pI B 11 0) 6 0 = vC B 0 0 (sR B 2) := by
    obtain ⟨A, _, eA⟩ := nI_ex (sI B 6)
    have e : B = vC B A (sI B 11) (sR B 2) := vC_of B eA rfl
    have f : pI (pI (vC B A (sI B 11) (sR B 2)) 11 0) 6 (nI 0) = vC B 0 0 (sR B 2) := by rw [vC_w11, vC_w6]
    exact (congrArg (fun z => pI (pI z 11 0) 6 (nI 0)) e).trans f
  have s : df_X9_evaluate n (nI s0) hr B = df_X9_evaluate_16 n n hr (nI (s0 + 0)) (vC B 0 0 (sR B 2)) := by
    unfold df_X9_evaluate df_X9_evaluate_0
    rw [nb_let, nb_let, b0]
    by_cases y : s0 = 0
    · subst y
      rw [if_neg (show ¬ (0 : Int32) < nI 0 by decide), nb_let]
      rfl
    · rw [if_pos (show (0 : Int32) < nI s0 from zlt (a := 0) (by omega) (by omega)), nb_let]
      rfl
  rw [s]
  refine Eq.trans (show _ = df_X9_evaluate_16 n (g' + 1) hr (nI (s0 + m)) (vC B [w].length (trO ms dv) S') from e1) ?_
  show dF_X9_evaluate_16 n (df_X9_evaluate_16 n g') hr (nI (s0 + m)) (vC B 1 (trO ms dv) S') = _
  unfold dF_X9_evaluate_16 df_X9_evaluate_187 df_X9_evaluate_204
  rw [vC_i5, h5, if_neg (znle hm (by omega)), nm_ck (by omega) (by omega), nI_clamp (by omega), vC_r0, h21, if_pos rfl, vC_i6, if_neg (show ¬ nI 1 ≤ (0 : Int32) by decide), vC_r2, show S' (Int32.toNatClampNeg 0) = w from e2.1]
