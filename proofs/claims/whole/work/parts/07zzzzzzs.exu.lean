/-- expressions: the reference's operators -/
theorem ls_o {l : List Int32} (h : 1 ≤ l.length) : ∃ (v : Int32) (r : List Int32), l = v :: r := by
  cases l with
  | nil => exact absurd h (by decide)
  | cons v r => exact ⟨v, r, rfl⟩
theorem ls_i {l : List Int32} (h : l.length = 1) : ∃ v : Int32, l = [v] := by
  obtain ⟨v, r, rfl⟩ := ls_o (l := l) (by omega)
  cases r with
  | nil => exact ⟨v, rfl⟩
  | cons w r =>
    have h : r.length + 1 + 1 = 1 := h
    omega
theorem bk_p (r : Nat) : ∀ l : List Nat, bkS (popB r l) = bkS l := fun l => by
  induction l with
  | nil => rfl
  | cons x l ih =>
    unfold popB
    by_cases y : x < 13 ∧ r ≤ rkA x
    · rw [if_pos y, ih]
      show _ = (if 13 ≤ x then 1 else 0) + bkS l
      rw [if_neg (by omega), Nat.zero_add]
    · rw [if_neg y]
theorem p0_h : ∀ l : List Nat, ∀ (x : Nat) (r : List Nat), popB 0 l = x :: r → 13 ≤ x := fun l => by
  induction l with
  | nil => intro x r h; exact nomatch h
  | cons y l ih =>
    intro x r h
    unfold popB at h
    by_cases z : y < 13 ∧ 0 ≤ rkA y
    · rw [if_pos z] at h; exact ih x r h
    · rw [if_neg z] at h
      have e := (List.cons.inj h).1
      omega
theorem p0_n (l : List Nat) (h : bkS l = 0) : popB 0 l = [] := by
  cases e : popB 0 l with
  | nil => rfl
  | cons x r =>
    have k := p0_h l x r e
    have b := bk_p 0 l
    rw [e, h] at b
    have b : (if 13 ≤ x then 1 else 0) + bkS r = 0 := b
    rw [if_pos k] at b
    omega
theorem p0_y (l : List Nat) (h : 0 < bkS l) : ∃ (x : Nat) (r : List Nat), popB 0 l = x :: r := by
  cases e : popB 0 l with
  | nil =>
    have b := bk_p 0 l
    rw [e] at b
    have b : 0 = bkS l := b
    omega
  | cons x r => exact ⟨x, r, rfl⟩
theorem nb_p (r : Nat) : ∀ l : List Nat, nbS (popB r l) ≤ nbS l := fun l => by
  induction l with
  | nil => exact Nat.le_refl 0
  | cons x l ih =>
    unfold popB
    by_cases y : x < 13 ∧ r ≤ rkA x
    · rw [if_pos y]
      show _ ≤ (if x ≤ 10 then 1 else 0) + nbS l
      omega
    · rw [if_neg y]
      exact Nat.le_refl _
theorem pop_h (r : Nat) : ∀ (l : List Nat) (x : Nat) (q : List Nat), popB r l = x :: q → ¬ (x < 13 ∧ r ≤ rkA x) := fun l => by
  induction l with
  | nil => intro x q h; exact nomatch h
  | cons y l ih =>
    intro x q h
    unfold popB at h
    by_cases z : y < 13 ∧ r ≤ rkA y
    · rw [if_pos z] at h; exact ih x q h
    · rw [if_neg z] at h
      rw [← (List.cons.inj h).1]
      exact z
theorem eo_B {n : Nat} {B : St} {ms dv ls : Bool} {PL : Nat → Int32} {ap tk fr to : Nat} {nm : Int32} {V : Tp → Int32 × Bool} {P : Nat → Tp} {m : Nat} {G : Int32 → Int32 → Int32 → St → Option (Int32 × St)} (x1 : Int32) (hn : 70000 < n) (ρ : List Nat) (vs : List Int32) (h1 : okS ρ) (h2 : hdU ρ) (h3 : (flat ρ).length + vs.length < 32780) (h4 : stk PL (flat ρ)) (h5 : vst PL vs) (h7 : vs.length = nbS ρ + 1) (h6 : rnF V P m = (vs, ms, dv)) (b : Nat) (hb : 1 ≤ b ∧ b ≤ 10) (ht : tk = sgO b) : ∃ (PL' : Nat → Int32) (vs' : List Int32) (dv' : Bool), df_X13_expression_129 n G n x1 1 (uR (xR B 0 ms dv ls (flat ρ).length (32800 - vs.length) PL) ap tk fr to nm) = G x1 1 1 (uR (xR B 0 ms dv' ls (flat (b :: popB (rkA b) ρ)).length (32800 - vs'.length) PL') ap tk fr to nm) ∧ stk PL' (flat (b :: popB (rkA b) ρ)) ∧ vst PL' vs' ∧ vs'.length = nbS (b :: popB (rkA b) ρ) ∧ rnF V (apl P m (popA (rkA b) ρ)) (m + (popA (rkA b) ρ).length) = (vs', ms, dv') ∧ okS (b :: popB (rkA b) ρ) := by
  subst ht
  have fl := (flat_l ρ).1
  have kb := rr_x ⟨b, by omega⟩ hb.1
  have kb1 : sgO b < 127 := kb.1
  have kb2 : rkR (sgO b) = rkA b ∧ 6 ≤ sgO b := kb.2.1 hb.2
  have rb := (rk_t ⟨b, by omega⟩).2
  have rb : rkA b ≤ 7 := rb
  have rpos : 1 ≤ rkA b := by
    have c : b = 1 ∨ b = 2 ∨ b = 3 ∨ b = 4 ∨ b = 5 ∨ b = 6 ∨ b = 7 ∨ b = 8 ∨ b = 9 ∨ b = 10 := by omega
    rcases c with c | c | c | c | c | c | c | c | c | c <;> subst c <;> decide
  obtain ⟨g', PL', vs', dv', i1, i2, i3, i4, i5, i6, i7, i8, i9⟩ := jl_1 (n := n) (B := B) (ft := 0) (ms := ms) (ls := ls) (ap := ap) (tk := sgO b) (fr := fr) (to := to) (nm := nm) (V := V) (fun g s => df_X13_expression_129 n G g x1 1 s) (rkA b) (fun g x f PL vl dv x1' x2' x3' x4' x5' => by
    have kx := rr_x ⟨x, by omega⟩ x1'
    have kx1 : sgO x < 127 := kx.1
    have kx2 : rkR (sgO x) = rkA x := (kx.2.1 x2').1
    have rx := (rk_t ⟨x, by omega⟩).2
    have rx : rkA x ≤ 7 := rx
    have lf : (sgO x :: f).length = f.length + 1 := rfl
    show dF_X13_expression_129 n G (df_X13_expression_129 n G g) x1 1 _ = _
    unfold dF_X13_expression_129
    rw [lf, xR_u24, if_neg (show ¬ nI (f.length + 1) ≤ (0 : Int32) from znle (b := 0) (by omega) (by omega)), show nI (f.length + 1) - (1 : Int32) = nI f.length from pk_sub (b := 1) (by omega), nm_ck (by omega) (by omega), nI_clamp (by omega), uR_r, xR_r8, x4', rr_R n (by omega), nb_b2, uR_i8, rr_R n (by omega), nb_b2, kx2, kb2.1, if_neg (znl x3' (by omega))]) ρ n m P PL vs dv h1 h2 (by omega) (by omega) h4 h5 (by omega) h6
  have np := nb_p (rkA b) ρ
  have fp := (flat_l (popB (rkA b) ρ)).1
  have nbb : nbS (b :: popB (rkA b) ρ) = 1 + nbS (popB (rkA b) ρ) := by show (if b ≤ 10 then 1 else 0) + _ = _; rw [if_pos hb.2]
  refine ⟨upd PL' (flat (popB (rkA b) ρ)).length (nI (sgO b)), vs', dv', ?_, ?_, vst_u _ _ (by omega) i3, by rw [nbb]; omega, i6, ⟨⟨hb.1, by omega⟩, fun _ => i5, okS_p _ ρ h1⟩⟩
  · refine Eq.trans i1 ?_
    have fin : df_X13_expression_167 n G x1 1 (uR (xR B 0 ms dv' ls (flat (popB (rkA b) ρ)).length (32800 - vs'.length) PL') ap (sgO b) fr to nm) = G x1 1 1 (uR (xR B 0 ms dv' ls (flat (b :: popB (rkA b) ρ)).length (32800 - vs'.length) (upd PL' (flat (popB (rkA b) ρ)).length (nI (sgO b)))) ap (sgO b) fr to nm) := by
      unfold df_X13_expression_167 df_X13_expression_252
      rw [uR_i8, rps_1 (nI (sgO b)) (by omega), nb_b1, flat_b (show b ≤ 12 ∨ b = 15 by omega)]
      rfl
    rw [← fin]
    show dF_X13_expression_129 n G (df_X13_expression_129 n G g') x1 1 _ = _
    unfold dF_X13_expression_129
    rw [xR_u24]
    have ok2 := okS_p (rkA b) ρ h1
    have hd2 : ∀ (x : Nat) (l : List Nat), popB (rkA b) ρ = x :: l → ¬ (x < 13 ∧ rkA b ≤ rkA x) := fun x l => pop_h (rkA b) ρ x l
    generalize popB (rkA b) ρ = ρ2 at i2 i5 i7 ok2 hd2
    cases ρ2 with
    | nil =>
      rw [show (flat []).length = 0 from rfl, if_pos (show nI 0 ≤ (0 : Int32) by decide)]
    | cons x l =>
      have i2 : PL' (if x = 13 ∨ x = 14 then uo x :: flat l else flat l).length = nI (sgO x) := i2.1
      have lf : (flat (x :: l)).length = (if x = 13 ∨ x = 14 then uo x :: flat l else flat l).length + 1 := rfl
      rw [lf] at i7
      have kx := rr_x ⟨x, by have := ok2.1; omega⟩ ok2.1.1
      have kx1 : sgO x < 127 := kx.1
      have kx2 : x ≤ 10 → rkR (sgO x) = rkA x ∧ 6 ≤ sgO x := kx.2.1
      have kx3 : 13 ≤ x → sgO x = 1 := kx.2.2
      have hx := hd2 x l rfl
      have hu := i5 x l rfl
      have hr : rkR (sgO x) < rkA b := by
        by_cases z : x ≤ 10
        · rw [(kx2 z).1]; omega
        · rw [kx3 (by have := ok2.1; omega)]
          show 0 < rkA b
          omega
      rw [lf, if_neg (show ¬ nI (_ + 1) ≤ (0 : Int32) from znle (b := 0) (by omega) (by omega)), show nI ((if x = 13 ∨ x = 14 then uo x :: flat l else flat l).length + 1) - (1 : Int32) = nI (if x = 13 ∨ x = 14 then uo x :: flat l else flat l).length from pk_sub (b := 1) (by omega), nm_ck (by omega) (by omega), nI_clamp (by omega), uR_r, xR_r8, i2, rr_R n (by omega), nb_b2, uR_i8, rr_R n (by omega), nb_b2, kb2.1, if_pos (zlt hr (by omega))]
  · rw [flat_b (by omega)]
    exact stk_p _ i2
/-- a bracket is shut -/
theorem eo_C {n : Nat} {B : St} {ms dv ls : Bool} {PL : Nat → Int32} {ap tk fr to : Nat} {nm : Int32} {V : Tp → Int32 × Bool} {P : Nat → Tp} {m : Nat} {G : Int32 → Int32 → Int32 → St → Option (Int32 × St)} (op : Nat) (hn : 70000 < n) (ρ : List Nat) (vs : List Int32) (h1 : okS ρ) (h2 : hdU ρ) (h3 : (flat ρ).length + vs.length < 32780) (h4 : stk PL (flat ρ)) (h5 : vst PL vs) (h7 : vs.length = nbS ρ + 1) (h6 : rnF V P m = (vs, ms, dv)) (x : Nat) (l : List Nat) (hz : popB 0 ρ = x :: l) : ∃ (PL' : Nat → Int32) (vs' : List Int32) (dv' : Bool), df_X13_expression_193 n G n (nI (op + 1)) 0 1 (uR (xR B 0 ms dv ls (flat ρ).length (32800 - vs.length) PL) ap tk fr to nm) = G (nI op) 0 1 (uR (xR B 0 ms dv' ls (flat (rsP l)).length (32800 - vs'.length) PL') ap tk fr to nm) ∧ stk PL' (flat (rsP l)) ∧ vst PL' vs' ∧ vs'.length = nbS (rsP l) + 1 ∧ rnF V (apl P m (popA 0 ρ ++ ((if x = 15 then [] else [x]) ++ usP l))) (m + (popA 0 ρ ++ ((if x = 15 then [] else [x]) ++ usP l)).length) = (vs', ms, dv') ∧ okS l := by
  have fl := (flat_l ρ).1
  obtain ⟨g', PL', vs', dv', i1, i2, i3, i4, i5, i6, i7, i8, i9⟩ := jl_1 (n := n) (B := B) (ft := 0) (ms := ms) (ls := ls) (ap := ap) (tk := tk) (fr := fr) (to := to) (nm := nm) (V := V) (fun g s => df_X13_expression_193 n G g (nI (op + 1)) 0 1 s) 0 (fun g x f PL vl dv x1' x2' x3' x4' x5' => by
    have kx := rr_x ⟨x, by omega⟩ x1'
    have kx1 : sgO x < 127 := kx.1
    have kx2 : 6 ≤ sgO x := (kx.2.1 x2').2
    have lf : (sgO x :: f).length = f.length + 1 := rfl
    show dF_X13_expression_193 n G (df_X13_expression_193 n G g) (nI (op + 1)) 0 1 _ = _
    unfold dF_X13_expression_193
    rw [lf, xR_u24, show nI (f.length + 1) - (1 : Int32) = nI f.length from pk_sub (b := 1) (by omega), nm_ck (by omega) (by omega), nI_clamp (by omega), uR_r, xR_r8, x4', if_neg (show ¬ nI (sgO x) = (1 : Int32) from zne (b := 1) (by omega) (by omega) (by omega))]) ρ n m P PL vs dv h1 h2 (by omega) (by omega) h4 h5 (by omega) h6
  have ok2 := okS_p 0 ρ h1
  rw [hz] at i1 i2 i4 i5 i7 ok2
  have x13 := p0_h ρ x l hz
  have x15 := ok2.1.2
  have kx := rr_x ⟨x, by omega⟩ ok2.1.1
  have kx3 : sgO x = 1 := kx.2.2 x13
  have nbx : nbS (x :: l) = nbS l := by show (if x ≤ 10 then 1 else 0) + nbS l = _; rw [if_neg (by omega), Nat.zero_add]
  rw [nbx] at i4
  have lf : (flat (x :: l)).length = (if x = 13 ∨ x = 14 then uo x :: flat l else flat l).length + 1 := rfl
  obtain ⟨a1, a2, a3, a4, a5, a6, a7, a8⟩ := us_1 l ok2.2.2
  have ys : (if x = 13 ∨ x = 14 then uo x :: flat l else flat l) = ((if x = 15 then [] else [x]) ++ usP l).map uo ++ flat (rsP l) := by
    by_cases y : x = 15
    · rw [if_neg (by omega), if_pos y]
      exact a6
    · rw [if_pos (by omega), if_neg y, a6]
      rfl
  have i2a : PL' (if x = 13 ∨ x = 14 then uo x :: flat l else flat l).length = nI (sgO x) := i2.1
  have i2b : stk PL' (if x = 13 ∨ x = 14 then uo x :: flat l else flat l) := i2.2
  rw [lf] at i7
  rw [ys] at i2b
  obtain ⟨v, vs0, rfl⟩ : ∃ (v : Int32) (vs0 : List Int32), vs' = v :: vs0 := ls_o (by omega)
  have lv : (v :: vs0).length = vs0.length + 1 := rfl
  rw [lv] at i4 i7
  have lm : (if x = 13 ∨ x = 14 then uo x :: flat l else flat l).length = ((if x = 15 then [] else [x]) ++ usP l).length + (flat (rsP l)).length := by rw [ys, List.length_append, List.length_map]
  obtain ⟨PL2, v2, e1, e2, e3, e4⟩ := rpb_2 (n := n) (B := B) (ft := 0) (ms := ms) (dv := dv') (ls := ls) (ap := ap) (tk := tk) (fr := fr) (to := to) (nm := nm) (V := V) (flat (rsP l)) vs0 (hd_f a3 a2) ((if x = 15 then [] else [x]) ++ usP l) n (m + (popA 0 ρ).length) (apl P m (popA 0 ρ)) PL' v (fun y hy => by
    rcases List.mem_append.mp hy with w | w
    · by_cases z : x = 15
      · rw [if_pos z] at w; exact nomatch w
      · rw [if_neg z] at w
        have := List.mem_singleton.mp w
        omega
    · have := a7 y w
      omega) (by omega) (by omega) i2b i3 i6
  refine ⟨PL2, v2 :: vs0, dv', ?_, e2, e3, by show vs0.length + 1 = _; omega, ?_, ok2.2.2⟩
  · refine Eq.trans i1 ?_
    show dF_X13_expression_193 n G (df_X13_expression_193 n G g') (nI (op + 1)) 0 1 _ = _
    unfold dF_X13_expression_193 df_X13_expression_252
    have e1 : df_X13_bind n (uR (xR B 0 ms dv' ls (((if x = 15 then [] else [x]) ++ usP l).map uo ++ flat (rsP l)).length (32800 - (v :: vs0).length) PL') ap tk fr to nm) = _ := e1
    rw [xR_u24, lf, show nI ((if x = 13 ∨ x = 14 then uo x :: flat l else flat l).length + 1) - (1 : Int32) = nI (if x = 13 ∨ x = 14 then uo x :: flat l else flat l).length from pk_sub (b := 1) (by omega), nm_ck (by omega) (by omega), nI_clamp (by omega), uR_r, xR_r8, i2a, kx3, if_pos (show nI 1 = (1 : Int32) from rfl), xR_w24, nb_let, show nI (op + 1) + Int32.ofInt (-1) = nI op by rw [show Int32.ofInt (-1) = -nI 1 by decide, ← Int32.sub_eq_add_neg, pk_sub (by omega)]; rfl, nb_let, ys, e1, nb_b1]
  · rw [apl_a, List.length_append, ← Nat.add_assoc]
    exact e4
/-- the end: what waits is joined -/
theorem eo_E {n : Nat} {B : St} {ms dv ls : Bool} {PL : Nat → Int32} {ap tk fr to : Nat} {nm : Int32} {V : Tp → Int32 × Bool} {P : Nat → Tp} {m : Nat} (g : Nat) (x1 x2 : Int32) (hn : 70000 < n) (ρ : List Nat) (vs : List Int32) (h1 : okS ρ) (h2 : hdU ρ) (h3 : (flat ρ).length + vs.length < 32780) (h4 : stk PL (flat ρ)) (h5 : vst PL vs) (h7 : vs.length = nbS ρ + 1) (h6 : rnF V P m = (vs, ms, dv)) (hz : bkS ρ = 0) : ∃ (PL' : Nat → Int32) (v : Int32) (dv' : Bool), df_X13_expression_33 n (g + 1) x1 x2 0 (uR (xR B 0 ms dv ls (flat ρ).length (32800 - vs.length) PL) ap tk fr to nm) = some (v, (uR (xR B (if sI B 15 = 2 ∧ (ms = true ∨ dv' = true) then (if ms = true then 8 else 9) + 16 * sI B 13 else 0) ms dv' ls 0 32799 PL') ap tk fr to nm)) ∧ rnF V (apl P m (popA 0 ρ)) (m + (popA 0 ρ).length) = ([v], ms, dv') := by
  have fl := (flat_l ρ).1
  obtain ⟨g', PL', vs', dv', i1, i2, i3, i4, i5, i6, i7, i8, i9⟩ := jl_1 (n := n) (B := B) (ft := 0) (ms := ms) (ls := ls) (ap := ap) (tk := tk) (fr := fr) (to := to) (nm := nm) (V := V) (fun g s => df_X13_expression_255 n g s) 0 (fun g x f PL vl dv x1' x2' x3' x4' x5' => by
    have lf : (sgO x :: f).length = f.length + 1 := rfl
    show dF_X13_expression_255 n (df_X13_expression_255 n g) _ = _
    unfold dF_X13_expression_255
    rw [lf, xR_u24, xR_u12, if_neg (show ¬ nI (f.length + 1) ≤ (0 : Int32) from znle (b := 0) (by omega) (by omega)), if_pos rfl]) ρ n m P PL vs dv h1 h2 (by omega) (by omega) h4 h5 (by omega) h6
  rw [p0_n ρ hz] at i1 i2 i4
  have nz : nbS [] = 0 := rfl
  rw [nz] at i4
  obtain ⟨v, rfl⟩ : ∃ v : Int32, vs' = [v] := ls_i (by omega)
  refine ⟨PL', v, dv', ?_, i6⟩
  have s0 : df_X13_expression_33 n (g + 1) x1 x2 0 (uR (xR B 0 ms dv ls (flat ρ).length (32800 - vs.length) PL) ap tk fr to nm) = df_X13_expression_255 n n (uR (xR B 0 ms dv ls (flat ρ).length (32800 - vs.length) PL) ap tk fr to nm) := by
    show dF_X13_expression_33 n (df_X13_expression_33 n g) x1 x2 0 _ = _
    unfold dF_X13_expression_33
    rw [if_pos rfl]
  rw [s0]
  refine Eq.trans i1 ?_
  show dF_X13_expression_255 n (df_X13_expression_255 n g') _ = _
  unfold dF_X13_expression_255 df_X13_expression_276 df_X13_expression_296 df_X13_expression_320 df_X13_expression_338 df_X13_expression_335
  rw [xR_u24, if_pos (show nI (flat []).length ≤ (0 : Int32) by decide), xR_u12, if_pos rfl, xR_u25, nm_ck (by show 32799 < 32800; omega) (by omega), nI_clamp (by show 32799 < 2 ^ 31; omega), uR_r, xR_r8, show PL' (32800 - [v].length) = v from i3.1, xR_u15, xR_u21, xR_u22, rbl_1, nb_b1, rbl_1, nb_b1, if_pos rfl]
  unfold df_X13_expression_338
  by_cases y : sI B 15 = 2
  · rw [if_pos y]
    cases ms with
    | true =>
      rw [if_neg (show ¬ bI true = 0 by decide), if_neg (show ¬ bI true = 0 by decide), if_pos (show sI B 15 = 2 ∧ (true = true ∨ dv' = true) from ⟨y, Or.inl rfl⟩)]
      rfl
    | false =>
      rw [if_pos (show bI false = 0 from rfl)]
      cases dv' with
      | true =>
        rw [if_neg (show ¬ bI true = 0 by decide), if_pos (show bI false = 0 from rfl), if_pos (show sI B 15 = 2 ∧ (false = true ∨ true = true) from ⟨y, Or.inr rfl⟩)]
        rfl
      | false =>
        rw [if_pos (show bI false = 0 from rfl), if_neg (show ¬ (sI B 15 = 2 ∧ (false = true ∨ false = true)) from fun z => by rcases z.2 with w | w <;> exact absurd w (by decide))]
        rfl
  · rw [if_neg y, if_neg (fun z => y z.1)]
    rfl
