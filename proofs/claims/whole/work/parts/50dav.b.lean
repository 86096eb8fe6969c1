/-- expressions: the reference's operators -/
theorem ls_o {l : List Int32} (h : 1 ≤ l.length) : ∃ (v : Int32) (r : List Int32), l = v :: r := by
  cases l with
  | nil => exact absurd h (by decide)
  | cons v r => exact ⟨v, r, rfl⟩
theorem ls_i {l : List Int32} (h : l.length = 1) : ∃ v : Int32, l = [v] := by
  obtain ⟨v, r, rfl⟩ := ls_o (l := l) (by omega)
  cases r with
  | nil => exact ⟨v, rfl⟩
  | cons w r =>
    have h : r.length + 1 + 1 = 1 := h
    omega
theorem bk_p (r : Nat) : ∀ l : List Nat, bkS (popB r l) = bkS l := fun l => by
  induction l with
  | nil => rfl
  | cons x l ih =>
    unfold popB
    by_cases y : x < 13 ∧ r ≤ rkA x
    · rw [if_pos y, ih]
      show _ = (if 13 ≤ x then 1 else 0) + bkS l
      rw [if_neg (by omega), Nat.zero_add]
    · rw [if_neg y]
theorem p0_h : ∀ l : List Nat, ∀ (x : Nat) (r : List Nat), popB 0 l = x :: r → 13 ≤ x := fun l => by
  induction l with
  | nil => intro x r h; exact nomatch h
  | cons y l ih =>
    intro x r h
    unfold popB at h
    by_cases z : y < 13 ∧ 0 ≤ rkA y
    · rw [if_pos z] at h; exact ih x r h
    · rw [if_neg z] at h
      have e := (List.cons.inj h).1
      omega
theorem p0_n (l : List Nat) (h : bkS l = 0) : popB 0 l = [] := by
  cases e : popB 0 l with
  | nil => rfl
  | cons x r =>
    have k := p0_h l x r e
    have b := bk_p 0 l
    rw [e, h] at b
    have b : (if 13 ≤ x then 1 else 0) + bkS r = 0 := b
    rw [if_pos k] at b
    omega
theorem p0_y (l : List Nat) (h : 0 < bkS l) : ∃ (x : Nat) (r : List Nat), popB 0 l = x :: r := by
  cases e : popB 0 l with
  | nil =>
    have b := bk_p 0 l
    rw [e] at b
    have b : 0 = bkS l := b
    omega
  | cons x r => exact ⟨x, r, rfl⟩
theorem nb_p (r : Nat) : ∀ l : List Nat, nbS (popB r l) ≤ nbS l := fun l => by
  induction l with
  | nil => exact Nat.le_refl 0
  | cons x l ih =>
    unfold popB
    by_cases y : x < 13 ∧ r ≤ rkA x
    · rw [if_pos y]
      show _ ≤ (if x ≤ 10 then 1 else 0) + nbS l
      omega
    · rw [if_neg y]
      exact Nat.le_refl _
theorem pop_h (r : Nat) : ∀ (l : List Nat) (x : Nat) (q : List Nat), popB r l = x :: q → ¬ (x < 13 ∧ r ≤ rkA x) := fun l => by
  induction l with
  | nil => intro x q h; exact nomatch h
  | cons y l ih =>
    intro x q h
    unfold popB at h
    by_cases z : y < 13 ∧ r ≤ rkA y
    · rw [if_pos z] at h; exact ih x q h
    · rw [if_neg z] at h
      rw [← (List.cons.inj h).1]
      exact z
theorem eo_B {n : Nat} {B : St} {ms dv ls : Bool} {PL : Nat → Int32} {ap tk fr to : Nat} {nm : Int32} {V : Tp → Int32 × Bool} {P : Nat → Tp} {m : Nat} {G : Int32 → Int32 → Int32 → St → Option (Int32 × St)} (x1 : Int32) (hn : 70000 < n) (ρ : List Nat) (vs : List Int32) (h1 : okS ρ) (h2 : hdU ρ) (h3 : (flat ρ).length + vs.length < 32780) (h4 : stk PL (flat ρ)) (h5 : vst PL vs) (h7 : vs.length = nbS ρ + 1) (h6 : rnF V P m = (vs, ms, dv)) (b : Nat) (hb : 1 ≤ b ∧ b ≤ 10) (ht : tk = sgO b) : ∃ (PL' : Nat → Int32) (vs' : List Int32) (dv' : Bool), df_X13_expression_129 n G n x1 1 (uR (xR B 0 ms dv ls (flat ρ).length (32800 - vs.length) PL) ap tk fr to nm) = G x1 1 1 (uR (xR B 0 ms dv' ls (flat (b :: popB (rkA b) ρ)).length (32800 - vs'.length) PL') ap tk fr to nm) ∧ stk PL' (flat (b :: popB (rkA b) ρ)) ∧ vst PL' vs' ∧ vs'.length = nbS (b :: popB (rkA b) ρ) ∧ rnF V (apl P m (popA (rkA b) ρ)) (m + (popA (rkA b) ρ).length) = (vs', ms, dv') ∧ okS (b :: popB (rkA b) ρ) := by
  subst ht
  have fl := (flat_l ρ).1
  have kb := rr_x ⟨b, by omega⟩ hb.1
  have kb1 : sgO b < 127 := kb.1
  have kb2 : rkR (sgO b) = rkA b ∧ 6 ≤ sgO b := kb.2.1 hb.2
  have rb := (rk_t ⟨b, by omega⟩).2
  have rb : rkA b ≤ 7 := rb
  have rpos : 1 ≤ rkA b := by
    have c : b = 1 ∨ b = 2 ∨ b = 3 ∨ b = 4 ∨ b = 5 ∨ b = 6 ∨ b = 7 ∨ b = 8 ∨ b = 9 ∨ b = 10 := by omega
    rcases c with c | c | c | c | c | c | c | c | c | c <;> subst c <;> decide
  obtain ⟨g', PL', vs', dv', i1, i2, i3, i4, i5, i6, i7, i8, i9⟩ := jl_1 (n := n) (B := B) (ft := 0) (ms := ms) (ls := ls) (ap := ap) (tk := sgO b) (fr := fr) (to := to) (nm := nm) (V := V) (fun g s => df_X13_expression_129 n G g x1 1 s) (rkA b) (fun g x f PL vl dv x1' x2' x3' x4' x5' => by
    have kx := rr_x ⟨x, by omega⟩ x1'
    have kx1 : sgO x < 127 := kx.1
    have kx2 : rkR (sgO x) = rkA x := (kx.2.1 x2').1
    have rx := (rk_t ⟨x, by omega⟩).2
    have rx : rkA x ≤ 7 := rx
    have lf : (sgO x :: f).length = f.length + 1 := rfl
    show dF_X13_expression_129 n G (df_X13_expression_129 n G g) x1 1 _ = _
    unfold dF_X13_expression_129
    rw [lf, xR_u24, if_neg (show ¬ nI (f.length + 1) ≤ (0 : Int32) from znle (b := 0) (by omega) (by omega)), show nI (f.length + 1) - (1 : Int32) = nI f.length from pk_sub (b := 1) (by omega), nm_ck (by omega) (by omega), nI_clamp (by omega), uR_r, xR_r8, x4', rr_R n (by omega), nb_b2, uR_i8, rr_R n (by omega), nb_b2, kx2, kb2.1, if_neg (znl x3' (by omega))]) ρ n m P PL vs dv h1 h2 (by omega) (by omega) h4 h5 (by omega) h6
  have np := nb_p (rkA b) ρ
  have fp := (flat_l (popB (rkA b) ρ)).1
  have nbb : nbS (b :: popB (rkA b) ρ) = 1 + nbS (popB (rkA b) ρ) := by show (if b ≤ 10 then 1 else 0) + _ = _; rw [if_pos hb.2]
  refine ⟨upd PL' (flat (popB (rkA b) ρ)).length (nI (sgO b)), vs', dv', ?_, ?_, vst_u _ _ (by omega) i3, by rw [nbb]; omega, i6, ⟨⟨hb.1, by omega⟩, fun _ => i5, okS_p _ ρ h1⟩⟩
  · refine Eq.trans i1 ?_
    have fin : df_X13_expression_167 n G x1 1 (uR (xR B 0 ms dv' ls (flat (popB (rkA b) ρ)).length (32800 - vs'.length) PL') ap (sgO b) fr to nm) = G x1 1 1 (uR (xR B 0 ms dv' ls (flat (b :: popB (rkA b) ρ)).length (32800 - vs'.length) (upd PL' (flat (popB (rkA b) ρ)).length (nI (sgO b)))) ap (sgO b) fr to nm) := by
      unfold df_X13_expression_167 df_X13_expression_252
      rw [uR_i8, rps_1 (nI (sgO b)) (by omega), nb_b1, flat_b (show b ≤ 12 ∨ b = 15 by omega)]
      rfl
    rw [← fin]
    show dF_X13_expression_129 n G (df_X13_expression_129 n G g') x1 1 _ = _
    unfold dF_X13_expression_129
    rw [xR_u24]
    have ok2 := okS_p (rkA b) ρ h1
    have hd2 : ∀ (x : Nat) (l : List Nat), popB (rkA b) ρ = x :: l → ¬ (x < 13 ∧ rkA b ≤ rkA x) := fun x l => pop_h (rkA b) ρ x l
    generalize popB (rkA b) ρ = ρ2 at i2 i5 i7 ok2 hd2
    cases ρ2 with
    | nil =>
      rw [show (flat []).length = 0 from rfl, if_pos (show nI 0 ≤ (0 : Int32) by decide)]
    | cons x l =>
      have i2 : PL' (if x = 13 ∨ x = 14 then uo x :: flat l else flat l).length = nI (sgO x) := i2.1
      have lf : (flat (x :: l)).length = (if x = 13 ∨ x = 14 then uo x :: flat l else flat l).length + 1 := rfl
      rw [lf] at i7
      have kx := rr_x ⟨x, by have := ok2.1; omega⟩ ok2.1.1
      have kx1 : sgO x < 127 := kx.1
      have kx2 : x ≤ 10 → rkR (sgO x) = rkA x ∧ 6 ≤ sgO x := kx.2.1
      have kx3 : 13 ≤ x → sgO x = 1 := kx.2.2
      have hx := hd2 x l rfl
      have hu := i5 x l rfl
      have hr : rkR (sgO x) < rkA b := by
        by_cases z : x ≤ 10
        · rw [(kx2 z).1]; omega
        · rw [kx3 (by have := ok2.1; omega)]
          show 0 < rkA b
          omega
      rw [lf, if_neg (show ¬ nI (_ + 1) ≤ (0 : Int32) from znle (b := 0) (by omega) (by omega)), show nI ((if x = 13 ∨ x = 14 then uo x :: flat l else flat l).length + 1) - (1 : Int32) = nI (if x = 13 ∨ x = 14 then uo x :: flat l else flat l).length from pk_sub (b := 1) (by omega), nm_ck (by omega) (by omega), nI_clamp (by omega), uR_r, xR_r8, i2, rr_R n (by omega), nb_b2, uR_i8, rr_R n (by omega), nb_b2, kb2.1, if_pos (zlt hr (by omega))]
  · rw [flat_b (by omega)]
    exact stk_p _ i2
/-- a bracket is shut -/
theorem eo_C {n : Nat} {B : St} {ms dv ls : Bool} {PL : Nat → Int32} {ap tk fr to : Nat} {nm : Int32} {V : Tp → Int32 × Bool} {P : Nat → Tp} {m : Nat} {G : Int32 → Int32 → Int32 → St → Option (Int32 × St)} (op : Nat) (hn : 70000 < n) (ρ : List Nat) (vs : List Int32) (h1 : okS ρ) (h2 : hdU ρ) (h3 : (flat ρ).length + vs.length < 32780) (h4 : stk PL (flat ρ)) (h5 : vst PL vs) (h7 : vs.length = nbS ρ + 1) (h6 : rnF V P m = (vs, ms, dv)) (x : Nat) (l : List Nat) (hz : popB 0 ρ = x :: l) : ∃ (PL' : Nat → Int32) (vs' : List Int32) (dv' : Bool), df_X13_expression_193 n G n (nI (op + 1)) 0 1 (uR (xR B 0 ms dv ls (flat ρ).length (32800 - vs.length) PL) ap tk fr to nm) = G (nI op) 0 1 (uR (xR B 0 ms dv' ls (flat (rsP l)).length (32800 - vs'.length) PL') ap tk fr to nm) ∧ stk PL' (flat (rsP l)) ∧ vst PL' vs' ∧ vs'.length = nbS (rsP l) + 1 ∧ rnF V (apl P m (popA 0 ρ ++ ((if x = 15 then [] else [x]) ++ usP l))) (m + (popA 0 ρ ++ ((if x = 15 then [] else [x]) ++ usP l)).length) = (vs', ms, dv') ∧ okS l := by
  have fl := (flat_l ρ).1
  obtain ⟨g', PL', vs', dv', i1, i2, i3, i4, i5, i6, i7, i8, i9⟩ := jl_1 (n := n) (B := B) (ft := 0) (ms := ms) (ls := ls) (ap := ap) (tk := tk) (fr := fr) (to := to) (nm := nm) (V := V) (fun g s => df_X13_expression_193 n G g (nI (op + 1)) 0 1 s) 0 (fun g x f PL vl dv x1' x2' x3' x4' x5' => by
    have kx := rr_x ⟨x, by omega⟩ x1'
    have kx1 : sgO x < 127 := kx.1
    have kx2 : 6 ≤ sgO x := (kx.2.1 x2').2
    have lf : (sgO x :: f).length = f.length + 1 := rfl
    show dF_X13_expression_193 n G (df_X13_expression_193 n G g) (nI (op + 1)) 0 1 _ = _
    unfold dF_X13_expression_193
    rw [lf, xR_u24, show nI (f.length + 1) - (1 : Int32) = nI f.length from pk_sub (b := 1) (by omega), nm_ck (by omega) (by omega), nI_clamp (by omega), uR_r, xR_r8, x4', if_neg (show ¬ nI (sgO x) = (1 : Int32) from zne (b := 1) (by omega) (by omega) (by omega))]) ρ n m P PL vs dv h1 h2 (by omega) (by omega) h4 h5 (by omega) h6
  have ok2 := okS_p 0 ρ h1
  rw [hz] at i1 i2 i4 i5 i7 ok2
  have x13 := p0_h ρ x l hz
  have x15 := ok2.1.2
  have kx := rr_x ⟨x, by omega⟩ ok2.1.1
  have kx3 : sgO x = 1 := kx.2.2 x13
  have nbx : nbS (x :: l) = nbS l := by show (if x ≤ 10 then 1 else 0) + nbS l = _; rw [if_neg (by omega), Nat.zero_add]
  rw [nbx] at i4
  have lf : (flat (x :: l)).length = (if x = 13 ∨ x = 14 then uo x :: flat l else flat l).length + 1 := rfl
  obtain ⟨a1, a2, a3, a4, a5, a6, a7, a8⟩ := us_1 l ok2.2.2
  have ys : (if x = 13 ∨ x = 14 then uo x :: flat l else flat l) = ((if x = 15 then [] else [x]) ++ usP l).map uo ++ flat (rsP l) := by
    by_cases y : x = 15
    · rw [if_neg (by omega), if_pos y]
      exact a6
    · rw [if_pos (by omega), if_neg y, a6]
      rfl
  have i2a : PL' (if x = 13 ∨ x = 14 then uo x :: flat l else flat l).length = nI (sgO x) := i2.1
  have i2b : stk PL' (if x = 13 ∨ x = 14 then uo x :: flat l else flat l) := i2.2
  rw [lf] at i7
  rw [ys] at i2b
  obtain ⟨v, vs0, rfl⟩ : ∃ (v : Int32) (vs0 : List Int32), vs' = v :: vs0 := ls_o (by omega)
  have lv : (v :: vs0).length = vs0.length + 1 := rfl
  rw [lv] at i4 i7
  have lm : (if x = 13 ∨ x = 14 then uo x :: flat l else flat l).length = ((if x = 15 then [] else [x]) ++ usP l).length + (flat (rsP l)).length := by rw [ys, List.length_append, List.length_map]
  obtain ⟨PL2, v2, e1, e2, e3, e4⟩ := rpb_2 (n := n) (B := B) (ft := 0) (ms := ms) (dv := dv') (ls := ls) (ap := ap) (tk := tk) (fr := fr) (to := to) (nm := nm) (V := V) (flat (rsP l)) vs0 (hd_f a3 a2) ((if x = 15 then [] else [x]) ++ usP l) n (m + (popA 0 ρ).length) (apl P m (popA 0 ρ)) PL' v (fun y hy => by
    rcases List.mem_append.mp hy with w | w
    · by_cases z : x = 15
      · rw [if_pos z] at w; exact nomatch w
      · rw [if_neg z] at w
        have := List.mem_singleton.mp w
        omega
    · have := a7 y w
      omega) (by omega) (by omega) i2b i3 i6
  refine ⟨PL2, v2 :: vs0, dv', ?_, e2, e3, by show vs0.length + 1 = _; omega, ?_, ok2.2.2⟩
  · refine Eq.trans i1 ?_
    show dF_X13_expression_193 n G (df_X13_expression_193 n G g') (nI (op + 1)) 0 1 _ = _
    unfold dF_X13_expression_193 df_X13_expression_252
    have e1 : df_X13_bind n (uR (xR B 0 ms dv' ls (((if x = 15 then [] else [x]) ++ usP l).map uo ++ flat (rsP l)).length (32800 - (v :: vs0).length) PL') ap tk fr to nm) = _ := e1
    rw [xR_u24, lf, show nI ((if x = 13 ∨ x = 14 then uo x :: flat l else flat l).length + 1) - (1 : Int32) = nI (if x = 13 ∨ x = 14 then uo x :: flat l else flat l).length from pk_sub (b := 1) (by omega), nm_ck (by omega) (by omega), nI_clamp (by omega), uR_r, xR_r8, i2a, kx3, if_pos (show nI 1 = (1 : Int32) from rfl), xR_w24, nb_let, show nI (op + 1) + Int32.ofInt (-1) = nI op by rw [show Int32.ofInt (-1) = -nI 1 by decide, ← Int32.sub_eq_add_neg, pk_sub (by omega)]; rfl, nb_let, ys, e1, nb_b1]
  · rw [apl_a, List.length_append, ← Nat.add_assoc]
    exact e4
/-- the end: what waits is joined -/
theorem eo_E {n : Nat} {B : St} {ms dv ls : Bool} {PL : Nat → Int32} {ap tk fr to : Nat} {nm : Int32} {V : Tp → Int32 × Bool} {P : Nat → Tp} {m : Nat} (g : Nat) (x1 x2 : Int32) (hn : 70000 < n) (ρ : List Nat) (vs : List Int32) (h1 : okS ρ) (h2 : hdU ρ) (h3 : (flat ρ).length + vs.length < 32780) (h4 : stk PL (flat ρ)) (h5 : vst PL vs) (h7 : vs.length = nbS ρ + 1) (h6 : rnF V P m = (vs, ms, dv)) (hz : bkS ρ = 0) : ∃ (PL' : Nat → Int32) (v : Int32) (dv' : Bool), df_X13_expression_33 n (g + 1) x1 x2 0 (uR (xR B 0 ms dv ls (flat ρ).length (32800 - vs.length) PL) ap tk fr to nm) = some (v, (uR (xR B (if sI B 15 = 2 ∧ (ms = true ∨ dv' = true) then (if ms = true then 8 else 9) + 16 * sI B 13 else 0) ms dv' ls 0 32799 PL') ap tk fr to nm)) ∧ rnF V (apl P m (popA 0 ρ)) (m + (popA 0 ρ).length) = ([v], ms, dv') := by
  have fl := (flat_l ρ).1
  obtain ⟨g', PL', vs', dv', i1, i2, i3, i4, i5, i6, i7, i8, i9⟩ := jl_1 (n := n) (B := B) (ft := 0) (ms := ms) (ls := ls) (ap := ap) (tk := tk) (fr := fr) (to := to) (nm := nm) (V := V) (fun g s => df_X13_expression_255 n g s) 0 (fun g x f PL vl dv x1' x2' x3' x4' x5' => by
    have lf : (sgO x :: f).length = f.length + 1 := rfl
    show dF_X13_expression_255 n (df_X13_expression_255 n g) _ = _
    unfold dF_X13_expression_255
    rw [lf, xR_u24, xR_u12, if_neg (show ¬ nI (f.length + 1) ≤ (0 : Int32) from znle (b := 0) (by omega) (by omega)), if_pos rfl]) ρ n m P PL vs dv h1 h2 (by omega) (by omega) h4 h5 (by omega) h6
  rw [p0_n ρ hz] at i1 i2 i4
  have nz : nbS [] = 0 := rfl
  rw [nz] at i4
  obtain ⟨v, rfl⟩ : ∃ v : Int32, vs' = [v] := ls_i (by omega)
  refine ⟨PL', v, dv', ?_, i6⟩
  have s0 : df_X13_expression_33 n (g + 1) x1 x2 0 (uR (xR B 0 ms dv ls (flat ρ).length (32800 - vs.length) PL) ap tk fr to nm) = df_X13_expression_255 n n (uR (xR B 0 ms dv ls (flat ρ).length (32800 - vs.length) PL) ap tk fr to nm) := by
    show dF_X13_expression_33 n (df_X13_expression_33 n g) x1 x2 0 _ = _
    unfold dF_X13_expression_33
    rw [if_pos rfl]
  rw [s0]
  refine Eq.trans i1 ?_
  show dF_X13_expression_255 n (df_X13_expression_255 n g') _ = _
  unfold dF_X13_expression_255 df_X13_expression_276 df_X13_expression_296 df_X13_expression_320 df_X13_expression_338 df_X13_expression_335
  rw [xR_u24, if_pos (show nI (flat []).length ≤ (0 : Int32) by decide), xR_u12, if_pos rfl, xR_u25, nm_ck (by show 32799 < 32800; omega) (by omega), nI_clamp (by show 32799 < 2 ^ 31; omega), uR_r, xR_r8, show PL' (32800 - [v].length) = v from i3.1, xR_u15, xR_u21, xR_u22, rbl_1, nb_b1, rbl_1, nb_b1, if_pos rfl]
  unfold df_X13_expression_338
  by_cases y : sI B 15 = 2
  · rw [if_pos y]
    cases ms with
    | true =>
      rw [if_neg (show ¬ bI true = 0 by decide), if_neg (show ¬ bI true = 0 by decide), if_pos (show sI B 15 = 2 ∧ (true = true ∨ dv' = true) from ⟨y, Or.inl rfl⟩)]
      rfl
    | false =>
      rw [if_pos (show bI false = 0 from rfl)]
      cases dv' with
      | true =>
        rw [if_neg (show ¬ bI true = 0 by decide), if_pos (show bI false = 0 from rfl), if_pos (show sI B 15 = 2 ∧ (false = true ∨ true = true) from ⟨y, Or.inr rfl⟩)]
        rfl
      | false =>
        rw [if_pos (show bI false = 0 from rfl), if_neg (show ¬ (sI B 15 = 2 ∧ (false = true ∨ false = true)) from fun z => by rcases z.2 with w | w <;> exact absurd w (by decide))]
        rfl
  · rw [if_neg y, if_neg (fun z => y z.1)]
    rfl

/-- expressions, in both: a token that the class has read and the reference has before it -/
def RT (n L e : Nat) (c : Nat → Nat) (BC : St) (p q p' τ v : Nat) : Prop := ∀ BR : St, atx n L e c BC BR → ∀ (tk fr to : Nat) (nm : Int32), ∃ (x : Int32) (p2 : Nat), df_X13_scan n (uR BR p tk fr to nm) = some (uR BR p2 τ q p2 x) ∧ (p2 = p' ∨ (τ = 5 ∧ p2 = q)) ∧ (τ = 2 ∨ τ = 3 → x = nI v)
def TS (n L e : Nat) (c : Nat → Nat) (BC : St) (p q p' κ τ v : Nat) (x : Int32) : Prop := p ≤ e ∧ (∀ i : Nat, p ≤ i → i < e → ¬ c i = 10) ∧ p ≤ q ∧ q ≤ p' ∧ p' ≤ e ∧ (¬ κ = 0 → q < e ∧ q < p') ∧ tkK c e q p' κ τ v ∧ (κ = 2 ∨ κ = 3 ∨ κ = 5 → x = nI v) ∧ RT n L e c BC p q p' τ v
theorem nx_1 {n L e : Nat} {c : Nat → Nat} {BC BR0 : St} (hT0 : atx n L e c BC BR0) {cs tp st ns : Nat} {fx : Bool} {C A S NM BK : Nat → Int32} (p kd fr : Nat) (nm : Int32) (hp : p ≤ e) (hl : ∀ i : Nat, p ≤ i → i < e → ¬ c i = 10) : ∃ (q p' κ τ v : Nat) (x : Int32), df_X9_next n (uC (xC BC cs tp st ns fx C A S NM BK) p kd fr nm) = some (uC (xC BC cs tp st ns fx C A S NM BK) p' κ q x) ∧ TS n L e c BC p q p' κ τ v x := by
  obtain ⟨p', κ, τ, v, h1, h2, h3, h4, h5⟩ := tok2 (BC := xC BC cs tp st ns fx C A S NM BK) p hp hl (BR0 := BR0) (at_C hT0)
  obtain ⟨x, e1, e2⟩ := (h5 BR0 (at_C hT0)).1 kd fr nm
  exact ⟨qT c e p, p', κ, τ, v, x, e1, hp, hl, (qT_1 c hp).1, h1, h2, h3, h4, e2, fun BR hT => (h5 BR (at_C hT)).2⟩
def fxQ (c : Nat → Nat) (e : Nat) (bs ws : Nat → Nat) (NM : Nat → Int32) (ns m : Nat) (P : Nat → Tp) : Prop := ∀ i : Nat, i < m → ¬ ((P i).1 = 18 ∨ (P i).1 = 19 ∨ (P i).1 = 20) ∧ ((P i).1 = 17 → ∃ id : Nat, id < ns ∧ sW c (bs id) (ws id) (P i).2.1 (eT c e (P i).2.1 - (P i).2.1) ∧ NM (5 * id + 2) = 1)
def PS (ns : Nat) (NM : Nat → Int32) (bs ws : Nat → Nat) (ns' : Nat) (NM' : Nat → Int32) (bs' ws' : Nat → Nat) : Prop := ns ≤ ns' ∧ (∀ i : Nat, i < ns → bs' i = bs i ∧ ws' i = ws i ∧ NM' (5 * i + 2) = NM (5 * i + 2) ∧ NM' (5 * i + 3) = NM (5 * i + 3)) ∧ ∀ i : Nat, ns ≤ i → i < ns' → NM' (5 * i + 2) = 0
theorem PS_r {ns : Nat} {NM : Nat → Int32} {bs ws : Nat → Nat} : PS ns NM bs ws ns NM bs ws := ⟨Nat.le_refl _, fun i _ => ⟨rfl, rfl, rfl, rfl⟩, fun i h1 h2 => by omega⟩
theorem PS_t {ns ns1 ns2 : Nat} {NM NM1 NM2 : Nat → Int32} {bs ws bs1 ws1 bs2 ws2 : Nat → Nat} (h : PS ns NM bs ws ns1 NM1 bs1 ws1) (k : PS ns1 NM1 bs1 ws1 ns2 NM2 bs2 ws2) : PS ns NM bs ws ns2 NM2 bs2 ws2 := by
  have h0 := h.1
  have k0 := k.1
  refine ⟨by omega, fun i hi => ?_, fun i h1 h2 => ?_⟩
  · obtain ⟨a1, a2, a3, a4⟩ := h.2.1 i hi
    obtain ⟨b1, b2, b3, b4⟩ := k.2.1 i (by omega)
    exact ⟨b1.trans a1, b2.trans a2, b3.trans a3, b4.trans a4⟩
  · by_cases y : i < ns1
    · rw [(k.2.1 i y).2.2.1]; exact h.2.2 i h1 y
    · exact k.2.2 i (by omega) h2
def HTS (n L e : Nat) (c : Nat → Nat) (BC : St) (ns : Nat) (NM BK : Nat → Int32) (bs ws : Nat → Nat) (q p' κ : Nat) (x : Int32) : Prop := HT L c ns NM BK bs ws ∧ ∃ pz τz vz : Nat, TS n L e c BC pz q p' κ τz vz x
def EC (L e : Nat) (c : Nat → Nat) (BC : St) (C0 A0 : Nat → Int32) (s0 p m ns : Nat) (l : List Nat) (P : Nat → Tp) (fx : Bool) (C A S NM BK : Nat → Int32) (bs ws : Nat → Nat) : Prop := okS l ∧ stk S l ∧ CR (sR BC 5) c e C0 A0 s0 ns bs ws m P C A ∧ HT L c ns NM BK bs ws ∧ (fx = true ↔ fxQ c e bs ws NM ns m P) ∧ s0 + m + l.length ≤ p
def ER (V : Tp → Int32 × Bool) (lo : Tp → Bool) (P : Nat → Tp) (m : Nat) (l : List Nat) (vs : List Int32) (ms dv ls : Bool) (PL : Nat → Int32) : Prop := stk PL (flat l) ∧ vst PL vs ∧ rnF V P m = (vs, ms, dv) ∧ ls = lsF lo P m
def RO (n L e : Nat) (c : Nat → Nat) (BC : St) (p : Nat) (ok : Bool) (p2 m2 : Nat) (P2 : Nat → Tp) (du : Bool) (l : List Nat) (m : Nat) (P : Nat → Tp) (nv : Nat) : Prop := ∀ (B : St) (V : Tp → Int32 × Bool) (lo : Tp → Bool), atx n L e c BC B → VA n e c B V lo → (∃ ln : Nat, sI B 13 = nI ln ∧ ln ≤ 40000) → ∀ (vs : List Int32) (ms dv ls : Bool) (PL : Nat → Int32) (tk fr to : Nat) (nm : Int32) (g : Nat), ER V lo P m l vs ms dv ls PL → vs.length = nv → e - p + 3 ≤ g → ∃ (w ft2 : Int32) (ms2 dv2 ls2 : Bool) (sg2 vl2 : Nat) (PL2 : Nat → Int32) (ap2 tk2 fr2 to2 : Nat) (nm2 : Int32), df_X13_expression_33 n g (nI (bkS l)) (bI du) 1 (uR (xR B 0 ms dv ls (flat l).length (32800 - vs.length) PL) p tk fr to nm) = some (w, (uR (xR B ft2 ms2 dv2 ls2 sg2 vl2 PL2) ap2 tk2 fr2 to2 nm2)) ∧ ap2 ≤ e ∧ (ok = true → ap2 = p2 ∧ rnF V P2 m2 = ([w], ms2, dv2) ∧ ls2 = lsF lo P2 m2 ∧ ft2 = if sI B 15 = 2 ∧ (ms2 = true ∨ dv2 = true) then (if ms2 = true then 8 else 9) + 16 * sI B 13 else 0) ∧ (ok = false → ft2 = 1 + 16 * sI B 13)
theorem f1_n {ln : Nat} (h : ln ≤ 40000) {x : Int32} (hx : x = nI ln) : ¬ (1 + 16 * x : Int32) = 0 := by
  rw [hx, show (1 : Int32) = nI 1 from rfl, show (16 : Int32) = nI 16 from rfl, pk_mul, nI_add]
  exact zne (b := 0) (by omega) (by omega) (by omega)
def clA (n L e : Nat) (c : Nat → Nat) (BC : St) (C0 A0 : Nat → Int32) (s0 : Nat) (N : Nat) : Prop := ∀ (p q p' κ τ v : Nat) (x : Int32) (l : List Nat) (m : Nat) (P : Nat → Tp) (ns : Nat) (fx : Bool) (C A S NM BK : Nat → Int32) (bs ws : Nat → Nat) (k g : Nat) (x1 : Int32), e - p < N → TS n L e c BC p q p' κ τ v x → EC L e c BC C0 A0 s0 p m ns l P fx C A S NM BK bs ws →  (flat l).length + nbS l ≤ p → 2 * ns ≤ p → e - p + 1 ≤ k → k < 2 ^ 20 → e - p + 3 ≤ g → ∃ (ok : Bool) (p2 q2 p2' κ2 τ2 v2 : Nat) (x2 : Int32) (m2 : Nat) (P2 : Nat → Tp) (ns2 : Nat) (fx2 : Bool) (C2 A2 S2 NM2 BK2 : Nat → Int32) (bs2 ws2 : Nat → Nat) (tp2 : Nat), df_X9_sum_26 n g x1 (nI k) (uC (xC BC (s0 + m) l.length 0 ns fx C A S NM BK) p' κ q x) = some (if ok = true then x1 else -1, (uC (xC BC (s0 + m2 + 1) tp2 (if ok = true then 5 else 6) ns2 fx2 C2 A2 S2 NM2 BK2) p2' κ2 q2 x2)) ∧ PS ns NM bs ws ns2 NM2 bs2 ws2 ∧ HTS n L e c BC ns2 NM2 BK2 bs2 ws2 q2 p2' κ2 x2 ∧ (ok = true → TS n L e c BC p2 q2 p2' κ2 τ2 v2 x2 ∧ p ≤ p2 ∧ CR (sR BC 5) c e C0 A0 s0 ns2 bs2 ws2 m2 P2 C2 A2 ∧ C2 (s0 + m2) = 21 ∧ (fx2 = true ↔ fxQ c e bs2 ws2 NM2 ns2 m2 P2) ∧ s0 + m2 ≤ p2 ∧ 2 * ns2 ≤ p2 + 1 ∧ 0 < m2) ∧ RO n L e c BC p ok p2 m2 P2 true l m P (nbS l)
def clB (n L e : Nat) (c : Nat → Nat) (BC : St) (C0 A0 : Nat → Int32) (s0 : Nat) (N : Nat) : Prop := ∀ (p q p' κ τ v : Nat) (x : Int32) (l : List Nat) (m : Nat) (P : Nat → Tp) (ns : Nat) (fx : Bool) (C A S NM BK : Nat → Int32) (bs ws : Nat → Nat) (k g : Nat) (x1 : Int32), e - p < N → TS n L e c BC p q p' κ τ v x → EC L e c BC C0 A0 s0 p m ns l P fx C A S NM BK bs ws →  (flat (rsP l)).length + nbS l + 1 ≤ p → 2 * ns ≤ p + 1 → 0 < m → e - p + 1 ≤ k → k < 2 ^ 20 → e - p + 3 ≤ g → ∃ (ok : Bool) (p2 q2 p2' κ2 τ2 v2 : Nat) (x2 : Int32) (m2 : Nat) (P2 : Nat → Tp) (ns2 : Nat) (fx2 : Bool) (C2 A2 S2 NM2 BK2 : Nat → Int32) (bs2 ws2 : Nat → Nat) (tp2 : Nat), df_X9_sum_26 n g x1 (nI k) (uC (xC BC (s0 + m) l.length 1 ns fx C A S NM BK) p' κ q x) = some (if ok = true then x1 else -1, (uC (xC BC (s0 + m2 + 1) tp2 (if ok = true then 5 else 6) ns2 fx2 C2 A2 S2 NM2 BK2) p2' κ2 q2 x2)) ∧ PS ns NM bs ws ns2 NM2 bs2 ws2 ∧ HTS n L e c BC ns2 NM2 BK2 bs2 ws2 q2 p2' κ2 x2 ∧ (ok = true → TS n L e c BC p2 q2 p2' κ2 τ2 v2 x2 ∧ p ≤ p2 ∧ CR (sR BC 5) c e C0 A0 s0 ns2 bs2 ws2 m2 P2 C2 A2 ∧ C2 (s0 + m2) = 21 ∧ (fx2 = true ↔ fxQ c e bs2 ws2 NM2 ns2 m2 P2) ∧ s0 + m2 ≤ p2 ∧ 2 * ns2 ≤ p2 + 1 ∧ 0 < m2) ∧ RO n L e c BC p ok p2 m2 P2 false (rsP l) (m + (usP l).length) (apl P m (usP l)) (nbS l + 1)
/-- behind a value: on with an operator -/
theorem jV (n L e : Nat) (c : Nat → Nat) (BC : St) (C0 A0 : Nat → Int32) (s0 : Nat) (N : Nat) {BR0 : St} (hT0 : atx n L e c BC BR0) (hB : clB n L e c BC C0 A0 s0 N) (o : Tp) (p q p' κ τ v : Nat) (x : Int32) (l : List Nat) (m : Nat) (P : Nat → Tp) (ns ns1 : Nat) (fx fx1 : Bool) (C A S NM BK C1 A1 NM1 BK1 : Nat → Int32) (bs ws bs1 ws1 : Nat → Nat) (k g : Nat) (x1 : Int32) (hN : e - p < N + 1) (hT : TS n L e c BC p q p' κ τ v x) (hκ : ¬ κ = 0) (h1 : okS l) (h2 : (flat l).length + nbS l ≤ p) (hE : EC L e c BC C0 A0 s0 p' (m + 1) ns1 l (nwT P m o) fx1 C1 A1 S NM1 BK1 bs1 ws1) (hns : 2 * ns1 ≤ p' + 1) (hps : PS ns NM bs ws ns1 NM1 bs1 ws1) (hk : e - p + 1 ≤ k) (hk2 : k < 2 ^ 20) (hg : e - p + 3 ≤ g) (hc : df_X9_takeOperand n (uC (xC BC (s0 + m) l.length 0 ns fx C A S NM BK) p' κ q x) = some (uC (xC BC (s0 + (m + 1)) l.length 1 ns1 fx1 C1 A1 S NM1 BK1) p' κ q x)) (hr : ∀ (B : St) (V : Tp → Int32 × Bool) (lo : Tp → Bool), atx n L e c BC B → VA n e c B V lo → ∀ (vs : List Int32) (ms dv ls : Bool) (PL : Nat → Int32) (xr : Int32), vs.length = nbS l → ER V lo P m l vs ms dv ls PL → (τ = 2 ∨ τ = 3 → xr = nI v) → ∃ (PL' : Nat → Int32) (v' : Int32) (ms' ls' : Bool) (tk' fr' to' : Nat) (nm' : Int32), df_X13_operand n (uR (xR B 0 ms dv ls (flat l).length (32800 - vs.length) PL) p' τ q p' xr) = some (1, (uR (xR B 0 ms' dv ls' (flat (rsP l)).length (32800 - (v' :: vs).length) PL') p' tk' fr' to' nm')) ∧ ER V lo (apl (nwT P m o) (m + 1) (usP l)) (m + 1 + (usP l).length) (rsP l) (v' :: vs) ms' dv ls' PL') (hτ : τ < 4 ∧ ¬ τ = 0) : ∃ (ok : Bool) (p2 q2 p2' κ2 τ2 v2 : Nat) (x2 : Int32) (m2 : Nat) (P2 : Nat → Tp) (ns2 : Nat) (fx2 : Bool) (C2 A2 S2 NM2 BK2 : Nat → Int32) (bs2 ws2 : Nat → Nat) (tp2 : Nat), df_X9_sum_26 n g x1 (nI k) (uC (xC BC (s0 + m) l.length 0 ns fx C A S NM BK) p' κ q x) = some (if ok = true then x1 else -1, (uC (xC BC (s0 + m2 + 1) tp2 (if ok = true then 5 else 6) ns2 fx2 C2 A2 S2 NM2 BK2) p2' κ2 q2 x2)) ∧ PS ns NM bs ws ns2 NM2 bs2 ws2 ∧ HTS n L e c BC ns2 NM2 BK2 bs2 ws2 q2 p2' κ2 x2 ∧ (ok = true → TS n L e c BC p2 q2 p2' κ2 τ2 v2 x2 ∧ p ≤ p2 ∧ CR (sR BC 5) c e C0 A0 s0 ns2 bs2 ws2 m2 P2 C2 A2 ∧ C2 (s0 + m2) = 21 ∧ (fx2 = true ↔ fxQ c e bs2 ws2 NM2 ns2 m2 P2) ∧ s0 + m2 ≤ p2 ∧ 2 * ns2 ≤ p2 + 1 ∧ 0 < m2) ∧ RO n L e c BC p ok p2 m2 P2 true l m P (nbS l) := by
  obtain ⟨t1, t2, t3, t4, t5, t6, t7, t8, t9⟩ := hT
  obtain ⟨q1, q2⟩ := t6 hκ
  obtain ⟨a1, a2, a3, a4, a5, a6, a7, a8⟩ := us_1 l h1
  have lm : (flat l).length = (usP l).length + (flat (rsP l)).length := by rw [a6, List.length_append, List.length_map]
  obtain ⟨qn, pn, κn, τn, vn, xn, n1, n2⟩ := nx_1 hT0 (cs := s0 + (m + 1)) (tp := l.length) (st := 1) (ns := ns1) (fx := fx1) (C := C1) (A := A1) (S := S) (NM := NM1) (BK := BK1) p' κ q x t5 (fun i i1 i2 => t2 i (by omega) i2)
  obtain ⟨g, rfl⟩ : ∃ j : Nat, g = j + 1 := ⟨g - 1, by omega⟩
  obtain ⟨k, rfl⟩ : ∃ j : Nat, k = j + 1 := ⟨k - 1, by omega⟩
  have st := su_n (n := n) (g := g) (x1 := x1) k (by omega) (s := (uC (xC BC (s0 + m) l.length 0 ns fx C A S NM BK) p' κ q x)) (s' := (uC (xC BC (s0 + (m + 1)) l.length 1 ns1 fx1 C1 A1 S NM1 BK1) p' κ q x)) (show ¬ nI 0 = (5 : Int32) by decide) (show ¬ nI 0 = (6 : Int32) by decide) ((if_pos (show nI 0 = (0 : Int32) from rfl)).trans hc) (show ¬ nI 1 = (5 : Int32) by decide) (show ¬ nI 1 = (6 : Int32) by decide) n1
  obtain ⟨ok, p2, q2', p2', κ2, τ2, v2, x2, m2, P2, ns2, fx2, C2, A2, S2, NM2, BK2, bs2, ws2, tp2, r1, r2, r3, r4, r5⟩ := hB p' qn pn κn τn vn xn l (m + 1) (nwT P m o) ns1 fx1 C1 A1 S NM1 BK1 bs1 ws1 k g x1 (by omega) n2 hE (by omega) hns (by omega) (by omega) (by omega) (by omega)
  refine ⟨ok, p2, q2', p2', κ2, τ2, v2, x2, m2, P2, ns2, fx2, C2, A2, S2, NM2, BK2, bs2, ws2, tp2, st.trans r1, PS_t hps r2, r3, fun z => ?_, ?_⟩
  · obtain ⟨u1, u2, u3⟩ := r4 z
    exact ⟨u1, by omega, u3⟩
  · intro B V lo hTB hV hln vs ms dv ls PL tk fr to nm gr hER hvl hgr
    obtain ⟨gr, rfl⟩ : ∃ j : Nat, gr = j + 1 := ⟨gr - 1, by omega⟩
    obtain ⟨xr, p3, s1, s2, s3⟩ := t9 (xR B 0 ms dv ls (flat l).length (32800 - vs.length) PL) (at_R hTB) tk fr to nm
    have p3e : p3 = p' := by omega
    subst p3e
    obtain ⟨PL', v', ms', ls', tk', fr', to', nm', w1, w2⟩ := hr B V lo hTB hV vs ms dv ls PL xr hvl hER s3
    have e1 := e33_1 (n := n) (g := gr) (x1 := nI (bkS l)) (K := (uR (xR B 0 ms dv ls (flat l).length (32800 - vs.length) PL) p tk fr to nm)) (s24 := (uR (xR B 0 ms dv ls (flat l).length (32800 - vs.length) PL) p3 τ q p3 xr)) (τ := τ) rfl s1 rfl (by omega)
    have e2 := e81_1 (n := n) (op := bkS l) (G := df_X13_expression_33 n gr) (y := decide (τ = 40 ∨ τ = 37)) (r := true) (s := (uR (xR B 0 ms dv ls (flat l).length (32800 - vs.length) PL) p3 τ q p3 xr)) w1
    obtain ⟨w, ft2, ms2, dv2, ls2, sg2, vl2, PL2, ap2, tk2, fr2, to2, nm2, z1, z2, z3, z4⟩ := r5 B V lo hTB hV hln (v' :: vs) ms' dv ls' PL' tk' fr' to' nm' gr w2 (by show vs.length + 1 = _; omega) (by omega)
    refine ⟨w, ft2, ms2, dv2, ls2, sg2, vl2, PL2, ap2, tk2, fr2, to2, nm2, ?_, z2, z3, z4⟩
    refine Eq.trans e1 (Eq.trans e2 ?_)
    rw [decide_eq_false (show ¬ (τ = 40 ∨ τ = 37) by omega)]
    rw [a5] at z1
    exact z1

/-- constants alone or not -/
theorem nwT_n {P : Nat → Tp} {m i : Nat} {o : Tp} (h : ¬ i = m) : nwT P m o i = P i := if_neg h
theorem nwT_e {P : Nat → Tp} {m : Nat} {o : Tp} : nwT P m o m = o := if_pos rfl
theorem fx_k {c : Nat → Nat} {e : Nat} {bs ws : Nat → Nat} {NM : Nat → Int32} {ns m : Nat} {P : Nat → Tp} (o : Tp) (h : o.1 ≤ 16) : fxQ c e bs ws NM ns m P ↔ fxQ c e bs ws NM ns (m + 1) (nwT P m o) := by
  constructor
  · intro z i hi
    by_cases y : i = m
    · rw [y, nwT_e]
      exact ⟨by omega, fun w => by omega⟩
    · rw [nwT_n y]
      exact z i (by omega)
  · intro z i hi
    have := z i (by omega)
    rw [nwT_n (by omega)] at this
    exact this
theorem fx_a {c : Nat → Nat} {e : Nat} {bs ws : Nat → Nat} {NM : Nat → Int32} {ns : Nat} : ∀ (xs : List Nat) (P : Nat → Tp) (m : Nat), (∀ x : Nat, x ∈ xs → x < 16) → (fxQ c e bs ws NM ns m P ↔ fxQ c e bs ws NM ns (m + xs.length) (apl P m xs)) := fun xs => by
  induction xs with
  | nil => intro P m _; exact Iff.rfl
  | cons x xs ih =>
    intro P m h
    have h1 := h x (List.mem_cons_self ..)
    rw [fx_k (m := m) (P := P) (x, 0, 0) (show x ≤ 16 by omega), ih (nwT P m (x, 0, 0)) (m + 1) (fun y hy => h y (List.mem_cons_of_mem _ hy)), show m + 1 + xs.length = m + (x :: xs).length by show _ = m + (xs.length + 1); omega]
    exact Iff.rfl
theorem fx_0 {c : Nat → Nat} {e : Nat} {bs ws : Nat → Nat} {NM : Nat → Int32} {ns m : Nat} {P : Nat → Tp} (o : Tp) (h : o.1 = 18 ∨ o.1 = 19 ∨ o.1 = 20) : false = true ↔ fxQ c e bs ws NM ns (m + 1) (nwT P m o) := by
  constructor
  · intro z; exact absurd z (by decide)
  · intro z
    have := (z m (by omega)).1
    rw [nwT_e] at this
    exact absurd h this
theorem sW_t {c : Nat → Nat} {b l b' l' b2 l2 : Nat} (h : sW c b l b2 l2) (k : sW c b' l' b2 l2) : sW c b l b' l' := ⟨h.1.trans k.1.symm, fun t ht => (h.2 t ht).trans (k.2 t (by have := h.1; have := k.1; omega)).symm⟩
theorem fx_w {L : Nat} {c : Nat → Nat} {e : Nat} {bs ws bs' ws' : Nat → Nat} {NM NM' BK' NR C0 A0 C A : Nat → Int32} {s0 ns ns' m : Nat} {P : Nat → Tp} {fx : Bool} (hp : PS ns NM bs ws ns' NM' bs' ws') (hH : HT L c ns' NM' BK' bs' ws') (hC : CR NR c e C0 A0 s0 ns bs ws m P C A) (h : fx = true ↔ fxQ c e bs ws NM ns m P) (id q : Nat) (h1 : id < ns') (h2 : sW c (bs' id) (ws' id) q (eT c e q - q)) : (fx && decide (NM' (5 * id + 2) = 1)) = true ↔ fxQ c e bs' ws' NM' ns' (m + 1) (nwT P m (17, q, 0)) := by
  rw [Bool.and_eq_true, h, decide_eq_true_eq]
  have p0 := hp.1
  constructor
  · rintro ⟨z, w⟩ i hi
    by_cases y : i = m
    · rw [y, nwT_e]
      exact ⟨by show ¬ (17 = 18 ∨ 17 = 19 ∨ 17 = 20); omega, fun _ => ⟨id, h1, h2, w⟩⟩
    · rw [nwT_n y]
      obtain ⟨u1, u2⟩ := z i (by omega)
      refine ⟨u1, fun v => ?_⟩
      obtain ⟨j, j1, j2, j3⟩ := u2 v
      obtain ⟨k1, k2, k3, _⟩ := hp.2.1 j j1
      exact ⟨j, by omega, by rw [k1, k2]; exact j2, by rw [k3]; exact j3⟩
  · intro z
    constructor
    · intro i hi
      have zi := z i (by omega)
      rw [nwT_n (by omega)] at zi
      refine ⟨zi.1, fun v => ?_⟩
      obtain ⟨j, j1, j2, j3⟩ := zi.2 v
      obtain ⟨j0, _, l0, w0⟩ := (hC.2 i hi).2.2.1 v
      obtain ⟨k1, k2, k3, _⟩ := hp.2.1 j0 l0
      have w0' : sW c (bs' j0) (ws' j0) (P i).2.1 (eT c e (P i).2.1 - (P i).2.1) := by rw [k1, k2]; exact w0
      have e := hH.2.2.2.1 j j0 j1 (by omega) (sW_t j2 w0')
      subst e
      exact ⟨j, l0, w0, by rw [← k3]; exact j3⟩
    · have zm := z m (by omega)
      rw [nwT_e] at zm
      obtain ⟨j, j1, j2, j3⟩ := zm.2 rfl
      have e := hH.2.2.2.1 j id j1 h1 (sW_t j2 h2)
      subst e
      exact j3
theorem lsX {lo : Tp → Bool} {P : Nat → Tp} {m : Nat} {l : List Nat} (o : Tp) (h : okS l) (ho : 16 ≤ o.1) : lsF lo (apl (nwT P m o) (m + 1) (usP l)) (m + 1 + (usP l).length) = (lsF lo P m || lo o) := by
  rw [ls_a (usP l) _ _ (fun x hx => by have := (us_1 l h).2.2.2.2.2.2.1 x hx; omega), ls_w, decide_eq_true ho, Bool.true_and]
/-- a number -/
theorem jA_2 (n L e : Nat) (c : Nat → Nat) (BC : St) (C0 A0 : Nat → Int32) (s0 : Nat) (N : Nat) {BR0 : St} (hT0 : atx n L e c BC BR0) (hB : clB n L e c BC C0 A0 s0 N) (p q p' κ τ v : Nat) (x : Int32) (l : List Nat) (m : Nat) (P : Nat → Tp) (ns : Nat) (fx : Bool) (C A S NM BK : Nat → Int32) (bs ws : Nat → Nat) (k g : Nat) (x1 : Int32) (hN : e - p < N + 1) (hT : TS n L e c BC p q p' κ τ v x) (hE : EC L e c BC C0 A0 s0 p m ns l P fx C A S NM BK bs ws) (h2 : (flat l).length + nbS l ≤ p) (hns : 2 * ns ≤ p) (hk : e - p + 1 ≤ k) (hk2 : k < 2 ^ 20) (hg : e - p + 3 ≤ g) (hκ : κ = 2) : ∃ (ok : Bool) (p2 q2 p2' κ2 τ2 v2 : Nat) (x2 : Int32) (m2 : Nat) (P2 : Nat → Tp) (ns2 : Nat) (fx2 : Bool) (C2 A2 S2 NM2 BK2 : Nat → Int32) (bs2 ws2 : Nat → Nat) (tp2 : Nat), df_X9_sum_26 n g x1 (nI k) (uC (xC BC (s0 + m) l.length 0 ns fx C A S NM BK) p' κ q x) = some (if ok = true then x1 else -1, (uC (xC BC (s0 + m2 + 1) tp2 (if ok = true then 5 else 6) ns2 fx2 C2 A2 S2 NM2 BK2) p2' κ2 q2 x2)) ∧ PS ns NM bs ws ns2 NM2 bs2 ws2 ∧ HTS n L e c BC ns2 NM2 BK2 bs2 ws2 q2 p2' κ2 x2 ∧ (ok = true → TS n L e c BC p2 q2 p2' κ2 τ2 v2 x2 ∧ p ≤ p2 ∧ CR (sR BC 5) c e C0 A0 s0 ns2 bs2 ws2 m2 P2 C2 A2 ∧ C2 (s0 + m2) = 21 ∧ (fx2 = true ↔ fxQ c e bs2 ws2 NM2 ns2 m2 P2) ∧ s0 + m2 ≤ p2 ∧ 2 * ns2 ≤ p2 + 1 ∧ 0 < m2) ∧ RO n L e c BC p ok p2 m2 P2 true l m P (nbS l) := by
  obtain ⟨hn, hL, heL, h127, hend, hce, hO, hst, htC, h0, htR, hch⟩ := id hT0
  obtain ⟨t1, t2, t3, t4, t5, t6, t7, t8, t9⟩ := id hT
  obtain ⟨E1, E2, E3, E4, E5, E6⟩ := id hE
  subst hκ
  have hx : x = nI v := t8 (Or.inl rfl)
  have hτ : τ = 2 := by unfold tkK at t7; omega
  have q2 := (t6 (by decide)).2
  subst hτ
  subst hx
  refine jV n L e c BC C0 A0 s0 N hT0 hB (16, 0, v) p q p' 2 2 v (nI v) l m P ns ns fx fx C A S NM BK (upd C (s0 + m) 16) (upd A (s0 + m) (nI v)) NM BK bs ws bs ws k g x1 hN hT (by decide) E1 h2 ⟨E1, E2, CR_w E3 (16, 0, v) (nI v) ⟨fun _ => rfl, fun z => absurd (show 16 = 17 from z) (by decide), fun z => absurd (show 16 = 19 from z) (by decide), fun z => absurd (show 16 = 20 from z) (by decide), show 1 ≤ 16 ∧ 16 ≤ 20 ∧ ¬ 16 = 15 ∧ (16 = 19 ∨ 16 = 20 → v ≤ 9) by omega⟩, E4, E5.trans (fx_k (16, 0, v) (Nat.le_refl 16)), by omega⟩ (by omega) PS_r hk hk2 hg (xd_N (by omega)) ?_ (by omega)
  intro B V lo hTB hV vs ms dv ls PL xr hvl hER hxr
  obtain ⟨R1, R2, R3, R4⟩ := hER
  have hx := hxr (Or.inl rfl)
  subst hx
  obtain ⟨PL', v', o1, o2, o3, o4⟩ := ro_2 (nm := 0) (n := n) (B := B) (ms := ms) (dv := dv) (ls := ls) (PL := PL) (ap := p') (fr := q) (to := p') (V := V) (P := P) (m := m) hV v hn l vs E1 (by omega) R1 R2 R3
  refine ⟨PL', v', _, ls, 2, q, p', nI v, o1, o2, o3, o4, ?_⟩
  rw [lsX (16, 0, v) E1 (Nat.le_refl 16), (hV.1 v).2.1, Bool.or_false]
  exact R4
/-- the place itself, a name -/
theorem jA_1 (n L e : Nat) (c : Nat → Nat) (BC : St) (C0 A0 : Nat → Int32) (s0 : Nat) (N : Nat) {BR0 : St} (hT0 : atx n L e c BC BR0) (hB : clB n L e c BC C0 A0 s0 N) (p q p' κ τ v : Nat) (x : Int32) (l : List Nat) (m : Nat) (P : Nat → Tp) (ns : Nat) (fx : Bool) (C A S NM BK : Nat → Int32) (bs ws : Nat → Nat) (k g : Nat) (x1 : Int32) (hN : e - p < N + 1) (hT : TS n L e c BC p q p' κ τ v x) (hE : EC L e c BC C0 A0 s0 p m ns l P fx C A S NM BK bs ws) (h2 : (flat l).length + nbS l ≤ p) (hns : 2 * ns ≤ p) (hk : e - p + 1 ≤ k) (hk2 : k < 2 ^ 20) (hg : e - p + 3 ≤ g) (hκ : κ = 1) : ∃ (ok : Bool) (p2 q2 p2' κ2 τ2 v2 : Nat) (x2 : Int32) (m2 : Nat) (P2 : Nat → Tp) (ns2 : Nat) (fx2 : Bool) (C2 A2 S2 NM2 BK2 : Nat → Int32) (bs2 ws2 : Nat → Nat) (tp2 : Nat), df_X9_sum_26 n g x1 (nI k) (uC (xC BC (s0 + m) l.length 0 ns fx C A S NM BK) p' κ q x) = some (if ok = true then x1 else -1, (uC (xC BC (s0 + m2 + 1) tp2 (if ok = true then 5 else 6) ns2 fx2 C2 A2 S2 NM2 BK2) p2' κ2 q2 x2)) ∧ PS ns NM bs ws ns2 NM2 bs2 ws2 ∧ HTS n L e c BC ns2 NM2 BK2 bs2 ws2 q2 p2' κ2 x2 ∧ (ok = true → TS n L e c BC p2 q2 p2' κ2 τ2 v2 x2 ∧ p ≤ p2 ∧ CR (sR BC 5) c e C0 A0 s0 ns2 bs2 ws2 m2 P2 C2 A2 ∧ C2 (s0 + m2) = 21 ∧ (fx2 = true ↔ fxQ c e bs2 ws2 NM2 ns2 m2 P2) ∧ s0 + m2 ≤ p2 ∧ 2 * ns2 ≤ p2 + 1 ∧ 0 < m2) ∧ RO n L e c BC p ok p2 m2 P2 true l m P (nbS l) := by
  obtain ⟨hn, hL, heL, h127, hend, hce, hO, hst, htC, h0, htR, hch⟩ := id hT0
  obtain ⟨t1, t2, t3, t4, t5, t6, t7, t8, t9⟩ := id hT
  obtain ⟨E1, E2, E3, E4, E5, E6⟩ := id hE
  subst hκ
  have K : τ = 1 ∧ q < e ∧ aP (c q) = true ∧ aD (c q) = false ∧ p' = eT c e q ∧ p' - q ≤ 31 := by
    unfold tkK at t7
    rcases t7 with y | y | y | y | y | y | y
    · omega
    · exact y.2
    · omega
    · omega
    · omega
    · omega
    · omega
  obtain ⟨hτ, k1, k2, k3, k4, k5⟩ := K
  subst hτ
  have q2 := (t6 (by decide)).2
  have ref : ∀ (B : St) (V : Tp → Int32 × Bool) (lo : Tp → Bool), atx n L e c BC B → VA n e c B V lo → ∀ (vs : List Int32) (ms dv ls : Bool) (PL : Nat → Int32) (xr : Int32), vs.length = nbS l → ER V lo P m l vs ms dv ls PL → (1 = 2 ∨ 1 = 3 → xr = nI v) → ∃ (PL' : Nat → Int32) (v' : Int32) (ms' ls' : Bool) (tk' fr' to' : Nat) (nm' : Int32), df_X13_operand n (uR (xR B 0 ms dv ls (flat l).length (32800 - vs.length) PL) p' 1 q p' xr) = some (1, (uR (xR B 0 ms' dv ls' (flat (rsP l)).length (32800 - (v' :: vs).length) PL') p' tk' fr' to' nm')) ∧ ER V lo (apl (nwT P m (opW c e q)) (m + 1) (usP l)) (m + 1 + (usP l).length) (rsP l) (v' :: vs) ms' dv ls' PL' := by
    intro B V lo hTB hV vs ms dv ls PL xr hvl hER hxr
    obtain ⟨R1, R2, R3, R4⟩ := hER
    obtain ⟨PL', v', o1, o2, o3, o4⟩ := ro_1 (n := n) (B := B) (ms := ms) (dv := dv) (ls := ls) (PL := PL) (ap := p') (nm := xr) (V := V) (P := P) (m := m) hV q k1 k2 k3 (by omega) hn l vs E1 (by omega) R1 R2 R3
    rw [← k4] at o1
    refine ⟨PL', v', _, _, 1, q, p', xr, o1, o2, o3, o4, ?_⟩
    rw [lsX (opW c e q) E1 (by unfold opW; split <;> (show 16 ≤ _; omega)), R4]
  by_cases y : p' = q + 1 ∧ c q = 46
  · have eo : opW c e q = (18, 0, 0) := by unfold opW; rw [if_pos (by rw [← k4]; exact y)]
    rw [eo] at ref
    obtain ⟨y1, y2⟩ := y
    subst y1
    refine jV n L e c BC C0 A0 s0 N hT0 hB (18, 0, 0) p q (q + 1) 1 1 v x l m P ns ns fx false C A S NM BK (upd C (s0 + m) 18) (upd A (s0 + m) 0) NM BK bs ws bs ws k g x1 hN hT (by decide) E1 h2 ⟨E1, E2, CR_w E3 (18, 0, 0) 0 ⟨fun z => absurd (show 18 = 16 from z) (by decide), fun z => absurd (show 18 = 17 from z) (by decide), fun z => absurd (show 18 = 19 from z) (by decide), fun z => absurd (show 18 = 20 from z) (by decide), show 1 ≤ 18 ∧ 18 ≤ 20 ∧ ¬ 18 = 15 ∧ (18 = 19 ∨ 18 = 20 → 0 ≤ 9) by omega⟩, E4, fx_0 (18, 0, 0) (Or.inl rfl), by omega⟩ (by omega) PS_r hk hk2 hg (xd_H hO (by omega) (by omega) (by rw [htC q (by omega), y2]; rfl)) ref (by omega)
  · have eo : opW c e q = (17, q, 0) := by unfold opW; rw [if_neg (by rw [← k4]; exact y)]
    rw [eo] at ref
    obtain ⟨w, ew⟩ : ∃ w : Nat, p' = q + w := ⟨p' - q, by omega⟩
    have hwl : eT c e q - q = w := by omega
    subst ew
    obtain ⟨id, ns1, NM1, BK1, bs1, ws1, e1, e2, e3, e4, e5, e6, e7, e8⟩ := xd_W (tp := l.length) (st := 0) (fx := fx) (C := C) (A := A) (S := S) (fr := q) (l := w) (nm := x) (cs := s0 + m) hT0 E4 (by omega) (by omega) (by omega) (by omega) (fun z => y ⟨by omega, z.2⟩) (fun t ht => (eT_1 c (show q ≤ e by omega)).2.2.2 (q + t) (by omega) (by omega))
    have hps : PS ns NM bs ws ns1 NM1 bs1 ws1 := ⟨e5, e7, e8⟩
    refine jV n L e c BC C0 A0 s0 N hT0 hB (17, q, 0) p q (q + w) 1 1 v x l m P ns ns1 fx (fx && decide (NM1 (5 * id + 2) = 1)) C A S NM BK (upd C (s0 + m) 17) (upd A (s0 + m) (nI id)) NM1 BK1 bs ws bs1 ws1 k g x1 hN hT (by decide) E1 h2 ⟨E1, E2, CR_w (CR_n e5 (fun i hi => ⟨(e7 i hi).1, (e7 i hi).2.1⟩) E3) (17, q, 0) (nI id) ⟨fun z => absurd (show 17 = 16 from z) (by decide), fun _ => ⟨id, rfl, e3, by show sW c (bs1 id) (ws1 id) q (eT c e q - q); rw [hwl]; exact e4⟩, fun z => absurd (show 17 = 19 from z) (by decide), fun z => absurd (show 17 = 20 from z) (by decide), show 1 ≤ 17 ∧ 17 ≤ 20 ∧ ¬ 17 = 15 ∧ (17 = 19 ∨ 17 = 20 → 0 ≤ 9) by omega⟩, e2, fx_w hps e2 E3 E5 id q e3 (by rw [hwl]; exact e4), by omega⟩ (by omega) hps hk hk2 hg e1 ref (by omega)
/-- a near label -/
theorem jA_3 (n L e : Nat) (c : Nat → Nat) (BC : St) (C0 A0 : Nat → Int32) (s0 : Nat) (N : Nat) {BR0 : St} (hT0 : atx n L e c BC BR0) (hB : clB n L e c BC C0 A0 s0 N) (p q p' κ τ v : Nat) (x : Int32) (l : List Nat) (m : Nat) (P : Nat → Tp) (ns : Nat) (fx : Bool) (C A S NM BK : Nat → Int32) (bs ws : Nat → Nat) (k g : Nat) (x1 : Int32) (hN : e - p < N + 1) (hT : TS n L e c BC p q p' κ τ v x) (hE : EC L e c BC C0 A0 s0 p m ns l P fx C A S NM BK bs ws) (h2 : (flat l).length + nbS l ≤ p) (hns : 2 * ns ≤ p) (hk : e - p + 1 ≤ k) (hk2 : k < 2 ^ 20) (hg : e - p + 3 ≤ g) (hκ : κ = 3) : ∃ (ok : Bool) (p2 q2 p2' κ2 τ2 v2 : Nat) (x2 : Int32) (m2 : Nat) (P2 : Nat → Tp) (ns2 : Nat) (fx2 : Bool) (C2 A2 S2 NM2 BK2 : Nat → Int32) (bs2 ws2 : Nat → Nat) (tp2 : Nat), df_X9_sum_26 n g x1 (nI k) (uC (xC BC (s0 + m) l.length 0 ns fx C A S NM BK) p' κ q x) = some (if ok = true then x1 else -1, (uC (xC BC (s0 + m2 + 1) tp2 (if ok = true then 5 else 6) ns2 fx2 C2 A2 S2 NM2 BK2) p2' κ2 q2 x2)) ∧ PS ns NM bs ws ns2 NM2 bs2 ws2 ∧ HTS n L e c BC ns2 NM2 BK2 bs2 ws2 q2 p2' κ2 x2 ∧ (ok = true → TS n L e c BC p2 q2 p2' κ2 τ2 v2 x2 ∧ p ≤ p2 ∧ CR (sR BC 5) c e C0 A0 s0 ns2 bs2 ws2 m2 P2 C2 A2 ∧ C2 (s0 + m2) = 21 ∧ (fx2 = true ↔ fxQ c e bs2 ws2 NM2 ns2 m2 P2) ∧ s0 + m2 ≤ p2 ∧ 2 * ns2 ≤ p2 + 1 ∧ 0 < m2) ∧ RO n L e c BC p ok p2 m2 P2 true l m P (nbS l) := by
  obtain ⟨hn, hL, heL, h127, hend, hce, hO, hst, htC, h0, htR, hch⟩ := id hT0
  obtain ⟨t1, t2, t3, t4, t5, t6, t7, t8, t9⟩ := id hT
  obtain ⟨E1, E2, E3, E4, E5, E6⟩ := id hE
  subst hκ
  have K : τ = 3 ∧ p' = q + 2 ∧ aD (c q) = true ∧ v = c q - 48 ∧ (c (q + 1) = 102 ∨ c (q + 1) = 98) := by
    unfold tkK at t7
    rcases t7 with y | y | y | y | y | y | y
    · omega
    · omega
    · omega
    · exact y.2
    · omega
    · omega
    · omega
  obtain ⟨hτ, k1, k2, k3, k4⟩ := K
  have k2 := aD_v.mp k2
  have hx : x = nI v := t8 (Or.inr (Or.inl rfl))
  subst hτ
  subst hx
  subst k1
  have v9 : v ≤ 9 := by omega
  have aG1 : ∀ (κ' : Nat) (α : Int32), (κ' = 19 → α = if sR BC 5 (10 + v) - 1 < 0 then -1 - nI v else sR BC 5 (10 + v) - 1) → (κ' = 20 → α = sR BC 5 (10 + v) - 1) → κ' = 19 ∨ κ' = 20 → aG (sR BC 5) c e ns bs ws (κ', 0, v) α := fun κ' α z1 z2 z3 => ⟨fun z => absurd (show κ' = 16 from z) (by omega), fun z => absurd (show κ' = 17 from z) (by omega), z1, z2, show 1 ≤ κ' ∧ κ' ≤ 20 ∧ ¬ κ' = 15 ∧ (κ' = 19 ∨ κ' = 20 → v ≤ 9) by omega⟩
  have go : ∀ (κ' : Nat) (α : Int32) (fw : Bool), κ' = (if fw = true then 19 else 20) → fw = decide (c (q + 1) = 102) → (c (q + 1) = 98 → nI κ' = 20 ∧ α = sR BC 5 (10 + v) - 1) → (c (q + 1) = 102 → nI κ' = 19 ∧ α = if sR BC 5 (10 + v) - 1 < 0 then -1 - nI v else sR BC 5 (10 + v) - 1) → aG (sR BC 5) c e ns bs ws (κ', 0, v) α → ∃ (ok : Bool) (p2 q2 p2' κ2 τ2 v2 : Nat) (x2 : Int32) (m2 : Nat) (P2 : Nat → Tp) (ns2 : Nat) (fx2 : Bool) (C2 A2 S2 NM2 BK2 : Nat → Int32) (bs2 ws2 : Nat → Nat) (tp2 : Nat), df_X9_sum_26 n g x1 (nI k) (uC (xC BC (s0 + m) l.length 0 ns fx C A S NM BK) (q + 2) 3 q (nI v)) = some (if ok = true then x1 else -1, (uC (xC BC (s0 + m2 + 1) tp2 (if ok = true then 5 else 6) ns2 fx2 C2 A2 S2 NM2 BK2) p2' κ2 q2 x2)) ∧ PS ns NM bs ws ns2 NM2 bs2 ws2 ∧ HTS n L e c BC ns2 NM2 BK2 bs2 ws2 q2 p2' κ2 x2 ∧ (ok = true → TS n L e c BC p2 q2 p2' κ2 τ2 v2 x2 ∧ p ≤ p2 ∧ CR (sR BC 5) c e C0 A0 s0 ns2 bs2 ws2 m2 P2 C2 A2 ∧ C2 (s0 + m2) = 21 ∧ (fx2 = true ↔ fxQ c e bs2 ws2 NM2 ns2 m2 P2) ∧ s0 + m2 ≤ p2 ∧ 2 * ns2 ≤ p2 + 1 ∧ 0 < m2) ∧ RO n L e c BC p ok p2 m2 P2 true l m P (nbS l) := by
    intro κ' α fw f1 f2 f3 f4 f5
    refine jV n L e c BC C0 A0 s0 N hT0 hB (κ', 0, v) p q (q + 2) 3 3 v (nI v) l m P ns ns fx false C A S NM BK (upd C (s0 + m) (nI κ')) (upd A (s0 + m) α) NM BK bs ws bs ws k g x1 hN hT (by decide) E1 h2 ⟨E1, E2, CR_w E3 (κ', 0, v) α f5, E4, fx_0 (κ', 0, v) (by rw [f1]; split <;> simp), by omega⟩ (by omega) PS_r hk hk2 hg (xd_R hO (by omega) v (c (q + 1)) (nI κ') α v9 (by omega) (Or.symm k4) (htC (q + 1) (by omega)) rfl f3 f4) ?_ (by omega)
    intro B V lo hTB hV vs ms dv ls PL xr hvl hER hxr
    obtain ⟨R1, R2, R3, R4⟩ := hER
    have hx := hxr (Or.inr rfl)
    subst hx
    obtain ⟨_, _, _, _, _, _, _, _, _, _, htB, _⟩ := id hTB
    subst f1
    obtain ⟨PL', v', o1, o2, o3, o4⟩ := ro_3 (nm := 0) (n := n) (B := B) (ms := ms) (dv := dv) (ls := ls) (PL := PL) (ap := q + 2) (fr := q) (to := q + 1) (V := V) (P := P) (m := m) hV v (c (q + 1)) fw v9 (by omega) (htB (q + 1) (by omega)) (h127 _) f2 hn l vs E1 (by omega) R1 R2 R3
    refine ⟨PL', v', _, true, 3, q, q + 2, nI v, o1, o2, o3, o4, ?_⟩
    rw [lsX _ E1 (by show 16 ≤ (if fw = true then 19 else 20); split <;> omega)]
    cases fw
    · rw [show lo (if false = true then 19 else 20, 0, v) = true from (hV.1 v).2.2.2, Bool.or_true]
    · rw [show lo (if true = true then 19 else 20, 0, v) = true from (hV.1 v).2.2.1, Bool.or_true]
  by_cases y : c (q + 1) = 102
  · exact go 19 _ true rfl (decide_eq_true y).symm (fun z => by omega) (fun _ => ⟨rfl, rfl⟩) (aG1 19 _ (fun _ => rfl) (fun z => by omega) (Or.inl rfl))
  · exact go 20 _ false rfl (decide_eq_false y).symm (fun _ => ⟨rfl, rfl⟩) (fun z => absurd z y) (aG1 20 _ (fun z => by omega) (fun _ => rfl) (Or.inr rfl))

/-- lists of what waits -/
theorem hd_p (r : Nat) : ∀ l : List Nat, okS l → hdU l → hdU (popB r l) := fun l => by
  induction l with
  | nil => intro _ h; exact h
  | cons x l ih =>
    intro h1 h2
    unfold popB
    by_cases y : x < 13 ∧ r ≤ rkA x
    · rw [if_pos y]
      have := h2 x l rfl
      exact ih h1.2.2 (h1.2.1 (by omega))
    · rw [if_neg y]; exact h2
theorem popA_m (r : Nat) : ∀ (l : List Nat) (x : Nat), x ∈ popA r l → x ∈ l := fun l => by
  induction l with
  | nil => intro x h; exact h
  | cons y l ih =>
    intro x h
    unfold popA at h
    by_cases z : y < 13 ∧ r ≤ rkA y
    · rw [if_pos z] at h
      rcases List.mem_cons.mp h with w | w
      · rw [w]; exact List.mem_cons_self ..
      · exact List.mem_cons_of_mem _ (ih x w)
    · rw [if_neg z] at h; exact nomatch h
theorem flp_1 (r : Nat) : ∀ l : List Nat, (flat (popB r l)).length ≤ (flat l).length := fun l => by
  induction l with
  | nil => exact Nat.le_refl _
  | cons x l ih =>
    have e : (flat (x :: l)).length = (if x = 13 ∨ x = 14 then uo x :: flat l else flat l).length + 1 := rfl
    have f : (flat l).length ≤ (if x = 13 ∨ x = 14 then uo x :: flat l else flat l).length := by
      split
      · show (flat l).length ≤ (flat l).length + 1; omega
      · exact Nat.le_refl _
    unfold popB
    by_cases y : x < 13 ∧ r ≤ rkA x
    · rw [if_pos y]; omega
    · rw [if_neg y]; exact Nat.le_refl _
theorem fl_c (x : Nat) (l : List Nat) : (flat l).length + 1 ≤ (flat (x :: l)).length := by
  have e : (flat (x :: l)).length = (if x = 13 ∨ x = 14 then uo x :: flat l else flat l).length + 1 := rfl
  have f : (flat l).length ≤ (if x = 13 ∨ x = 14 then uo x :: flat l else flat l).length := by
    split
    · show (flat l).length ≤ (flat l).length + 1; omega
    · exact Nat.le_refl _
  omega
theorem fl_r {l : List Nat} (h : okS l) : (flat (rsP l)).length ≤ (flat l).length := by
  have a6 := (us_1 l h).2.2.2.2.2.1
  have lm : (flat l).length = (usP l).length + (flat (rsP l)).length := by
    have := congrArg List.length a6
    rw [List.length_append, List.length_map] at this
    exact this
  omega
theorem CR_u {NR : Nat → Int32} {c : Nat → Nat} {e : Nat} {C0 A0 : Nat → Int32} {s0 ns : Nat} {bs ws : Nat → Nat} {m : Nat} {P : Nat → Tp} {C A : Nat → Int32} (h : CR NR c e C0 A0 s0 ns bs ws m P C A) (u w : Int32) : CR NR c e C0 A0 s0 ns bs ws m P (upd C (s0 + m) u) (upd A (s0 + m) w) := ⟨fun i hi => by
  rw [up_n (by omega), up_n (by omega)]; exact h.1 i hi, fun i hi => by
  rw [up_n (by omega), up_n (by omega)]; exact h.2 i hi⟩
theorem tk_5 {c : Nat → Nat} {e q p' τ v : Nat} (h : tkK c e q p' 5 τ v) : v < 300 ∧ ((v = 256 ∧ τ = 6) ∨ (v = 257 ∧ τ = 7) ∨ (37 ≤ v ∧ v ≤ 126 ∧ τ = v)) := by
  unfold tkK at h
  rcases h with y | y | y | y | y | y | y
  · omega
  · omega
  · omega
  · omega
  · omega
  · rcases y.2.2 with w | w | w
    · omega
    · omega
    · have := sgA_l w.1
      omega
  · omega
theorem tk_n {c : Nat → Nat} {e q p' κ τ v : Nat} (h : tkK c e q p' κ τ v) (h5 : ¬ κ = 5) : τ < 6 ∧ (τ = 1 ↔ κ = 1) ∧ (τ = 2 ↔ κ = 2) ∧ (τ = 3 ↔ κ = 3) := by
  unfold tkK at h
  omega
theorem rr_z : ∀ v : Fin 127, 37 ≤ v.1 → bnO v.1 = 0 → rkR v.1 = 0 := by decide +kernel
theorem rr_y : ∀ v : Fin 6, rkR v.1 = 0 := by decide +kernel
/-- the sign 45 before a value -/
theorem jA_s45 (n L e : Nat) (c : Nat → Nat) (BC : St) (C0 A0 : Nat → Int32) (s0 : Nat) (N : Nat) {BR0 : St} (hT0 : atx n L e c BC BR0) (hA : clA n L e c BC C0 A0 s0 N) (p q p' κ τ v : Nat) (x : Int32) (l : List Nat) (m : Nat) (P : Nat → Tp) (ns : Nat) (fx : Bool) (C A S NM BK : Nat → Int32) (bs ws : Nat → Nat) (k g : Nat) (x1 : Int32) (hN : e - p < N + 1) (hT : TS n L e c BC p q p' κ τ v x) (hE : EC L e c BC C0 A0 s0 p m ns l P fx C A S NM BK bs ws) (h2 : (flat l).length + nbS l ≤ p) (hns : 2 * ns ≤ p) (hk : e - p + 1 ≤ k) (hk2 : k < 2 ^ 20) (hg : e - p + 3 ≤ g) (hκ : κ = 5) (hv : v = 45) : ∃ (ok : Bool) (p2 q2 p2' κ2 τ2 v2 : Nat) (x2 : Int32) (m2 : Nat) (P2 : Nat → Tp) (ns2 : Nat) (fx2 : Bool) (C2 A2 S2 NM2 BK2 : Nat → Int32) (bs2 ws2 : Nat → Nat) (tp2 : Nat), df_X9_sum_26 n g x1 (nI k) (uC (xC BC (s0 + m) l.length 0 ns fx C A S NM BK) p' κ q x) = some (if ok = true then x1 else -1, (uC (xC BC (s0 + m2 + 1) tp2 (if ok = true then 5 else 6) ns2 fx2 C2 A2 S2 NM2 BK2) p2' κ2 q2 x2)) ∧ PS ns NM bs ws ns2 NM2 bs2 ws2 ∧ HTS n L e c BC ns2 NM2 BK2 bs2 ws2 q2 p2' κ2 x2 ∧ (ok = true → TS n L e c BC p2 q2 p2' κ2 τ2 v2 x2 ∧ p ≤ p2 ∧ CR (sR BC 5) c e C0 A0 s0 ns2 bs2 ws2 m2 P2 C2 A2 ∧ C2 (s0 + m2) = 21 ∧ (fx2 = true ↔ fxQ c e bs2 ws2 NM2 ns2 m2 P2) ∧ s0 + m2 ≤ p2 ∧ 2 * ns2 ≤ p2 + 1 ∧ 0 < m2) ∧ RO n L e c BC p ok p2 m2 P2 true l m P (nbS l) := by
  obtain ⟨hn, hL, heL, h127, hend, hce, hO, hst, htC, h0, htR, hch⟩ := id hT0
  obtain ⟨t1, t2, t3, t4, t5, t6, t7, t8, t9⟩ := id hT
  obtain ⟨E1, E2, E3, E4, E5, E6⟩ := id hE
  subst hκ
  have hx : x = nI v := t8 (Or.inr (Or.inr rfl))
  have h5 := tk_5 t7
  have hτ : τ = 45 := by omega
  subst hv
  subst hτ
  subst hx
  obtain ⟨q1, q2⟩ := t6 (by decide)
  obtain ⟨qn, pn, κn, τn, vn, xn, n1, n2⟩ := nx_1 hT0 (cs := s0 + m) (tp := l.length + 1) (st := 0) (ns := ns) (fx := fx) (C := C) (A := A) (S := upd S l.length (nI 11)) (NM := NM) (BK := BK) p' 5 q (nI 45) t5 (fun i i1 i2 => t2 i (by omega) i2)
  obtain ⟨g, rfl⟩ : ∃ j : Nat, g = j + 1 := ⟨g - 1, by omega⟩
  obtain ⟨k, rfl⟩ : ∃ j : Nat, k = j + 1 := ⟨k - 1, by omega⟩
  have hc : df_X9_takeOperand n (uC (xC BC (s0 + m) l.length 0 ns fx C A S NM BK) p' 5 q (nI 45)) = some (uC (xC BC (s0 + m) (l.length + 1) 0 ns fx C A (upd S l.length (nI 11)) NM BK) p' 5 q (nI 45)) := xd_S (n := n) (by omega) 45 (by omega) rfl
  have st := su_n (n := n) (g := g) (x1 := x1) k (by omega) (s := (uC (xC BC (s0 + m) l.length 0 ns fx C A S NM BK) p' 5 q (nI 45))) (s' := (uC (xC BC (s0 + m) (l.length + 1) 0 ns fx C A (upd S l.length (nI 11)) NM BK) p' 5 q (nI 45))) (show ¬ nI 0 = (5 : Int32) by decide) (show ¬ nI 0 = (6 : Int32) by decide) ((if_pos (show nI 0 = (0 : Int32) from rfl)).trans hc) (show ¬ nI 0 = (5 : Int32) by decide) (show ¬ nI 0 = (6 : Int32) by decide) n1
  have fl : flat (11 :: l) = sgO 11 :: flat l := flat_b (by omega)
  have fll : (flat (11 :: l)).length = (flat l).length + 1 := by rw [fl]; rfl
  have nbl : nbS (11 :: l) = nbS l := Nat.zero_add _
  obtain ⟨ok, p2, q2', p2', κ2, τ2, v2, x2, m2, P2, ns2, fx2, C2, A2, S2, NM2, BK2, bs2, ws2, tp2, r1, r2, r3, r4, r5⟩ := hA p' qn pn κn τn vn xn (11 :: l) m P ns fx C A (upd S l.length (nI 11)) NM BK bs ws k g x1 (by omega) n2 ⟨⟨by omega, fun z => absurd z (by decide), E1⟩, stk_p 11 E2, E3, E4, E5, by show s0 + m + (l.length + 1) ≤ p'; omega⟩ (by rw [fll, nbl]; omega) (by omega) (by omega) (by omega) (by omega)
  refine ⟨ok, p2, q2', p2', κ2, τ2, v2, x2, m2, P2, ns2, fx2, C2, A2, S2, NM2, BK2, bs2, ws2, tp2, st.trans r1, r2, r3, fun z => ?_, ?_⟩
  · obtain ⟨u1, u2, u3⟩ := r4 z
    exact ⟨u1, by omega, u3⟩
  · intro B V lo hTB hV hln vs ms dv ls PL tk fr to nm gr hER hvl hgr
    obtain ⟨gr, rfl⟩ : ∃ j : Nat, gr = j + 1 := ⟨gr - 1, by omega⟩
    obtain ⟨xr, p3, s1, s2, s3⟩ := t9 (xR B 0 ms dv ls (flat l).length (32800 - vs.length) PL) (at_R hTB) tk fr to nm
    have p3e : p3 = p' := by omega
    subst p3e
    obtain ⟨R1, R2, R3, R4⟩ := hER
    have w1 := ro_S (tk := 0) (n := n) (B := B) (ft := 0) (ms := ms) (dv := dv) (ls := ls) (sg := (flat l).length) (vl := 32800 - vs.length) (PL := PL) (ap := p3) (fr := q) (to := p3) (nm := xr) 45 2 (by omega) (by omega)
    have e1 := e33_1 (n := n) (g := gr) (x1 := nI (bkS l)) (K := (uR (xR B 0 ms dv ls (flat l).length (32800 - vs.length) PL) p tk fr to nm)) (s24 := (uR (xR B 0 ms dv ls (flat l).length (32800 - vs.length) PL) p3 45 q p3 xr)) (τ := 45) rfl s1 rfl (by omega)
    have e2 := e81_1 (n := n) (op := bkS l) (G := df_X13_expression_33 n gr) (y := decide (45 = 40 ∨ 45 = 37)) (r := false) (s := (uR (xR B 0 ms dv ls (flat l).length (32800 - vs.length) PL) p3 45 q p3 xr)) w1
    obtain ⟨w, ft2, ms2, dv2, ls2, sg2, vl2, PL2, ap2, tk2, fr2, to2, nm2, z1, z2, z3, z4⟩ := r5 B V lo hTB hV hln vs ms dv ls (upd PL (flat l).length (nI 2)) 45 q p3 xr gr ⟨by rw [fl]; exact stk_p (sgO 11) R1, vst_u _ _ (by omega) R2, R3, R4⟩ (by omega) (by omega)
    refine ⟨w, ft2, ms2, dv2, ls2, sg2, vl2, PL2, ap2, tk2, fr2, to2, nm2, ?_, z2, z3, z4⟩
    refine Eq.trans e1 (Eq.trans e2 ?_)
    rw [fll, show bkS (11 :: l) = bkS l from Nat.zero_add _] at z1
    exact z1
/-- the sign 126 before a value -/
theorem jA_s126 (n L e : Nat) (c : Nat → Nat) (BC : St) (C0 A0 : Nat → Int32) (s0 : Nat) (N : Nat) {BR0 : St} (hT0 : atx n L e c BC BR0) (hA : clA n L e c BC C0 A0 s0 N) (p q p' κ τ v : Nat) (x : Int32) (l : List Nat) (m : Nat) (P : Nat → Tp) (ns : Nat) (fx : Bool) (C A S NM BK : Nat → Int32) (bs ws : Nat → Nat) (k g : Nat) (x1 : Int32) (hN : e - p < N + 1) (hT : TS n L e c BC p q p' κ τ v x) (hE : EC L e c BC C0 A0 s0 p m ns l P fx C A S NM BK bs ws) (h2 : (flat l).length + nbS l ≤ p) (hns : 2 * ns ≤ p) (hk : e - p + 1 ≤ k) (hk2 : k < 2 ^ 20) (hg : e - p + 3 ≤ g) (hκ : κ = 5) (hv : v = 126) : ∃ (ok : Bool) (p2 q2 p2' κ2 τ2 v2 : Nat) (x2 : Int32) (m2 : Nat) (P2 : Nat → Tp) (ns2 : Nat) (fx2 : Bool) (C2 A2 S2 NM2 BK2 : Nat → Int32) (bs2 ws2 : Nat → Nat) (tp2 : Nat), df_X9_sum_26 n g x1 (nI k) (uC (xC BC (s0 + m) l.length 0 ns fx C A S NM BK) p' κ q x) = some (if ok = true then x1 else -1, (uC (xC BC (s0 + m2 + 1) tp2 (if ok = true then 5 else 6) ns2 fx2 C2 A2 S2 NM2 BK2) p2' κ2 q2 x2)) ∧ PS ns NM bs ws ns2 NM2 bs2 ws2 ∧ HTS n L e c BC ns2 NM2 BK2 bs2 ws2 q2 p2' κ2 x2 ∧ (ok = true → TS n L e c BC p2 q2 p2' κ2 τ2 v2 x2 ∧ p ≤ p2 ∧ CR (sR BC 5) c e C0 A0 s0 ns2 bs2 ws2 m2 P2 C2 A2 ∧ C2 (s0 + m2) = 21 ∧ (fx2 = true ↔ fxQ c e bs2 ws2 NM2 ns2 m2 P2) ∧ s0 + m2 ≤ p2 ∧ 2 * ns2 ≤ p2 + 1 ∧ 0 < m2) ∧ RO n L e c BC p ok p2 m2 P2 true l m P (nbS l) := by
  obtain ⟨hn, hL, heL, h127, hend, hce, hO, hst, htC, h0, htR, hch⟩ := id hT0
  obtain ⟨t1, t2, t3, t4, t5, t6, t7, t8, t9⟩ := id hT
  obtain ⟨E1, E2, E3, E4, E5, E6⟩ := id hE
  subst hκ
  have hx : x = nI v := t8 (Or.inr (Or.inr rfl))
  have h5 := tk_5 t7
  have hτ : τ = 126 := by omega
  subst hv
  subst hτ
  subst hx
  obtain ⟨q1, q2⟩ := t6 (by decide)
  obtain ⟨qn, pn, κn, τn, vn, xn, n1, n2⟩ := nx_1 hT0 (cs := s0 + m) (tp := l.length + 1) (st := 0) (ns := ns) (fx := fx) (C := C) (A := A) (S := upd S l.length (nI 12)) (NM := NM) (BK := BK) p' 5 q (nI 126) t5 (fun i i1 i2 => t2 i (by omega) i2)
  obtain ⟨g, rfl⟩ : ∃ j : Nat, g = j + 1 := ⟨g - 1, by omega⟩
  obtain ⟨k, rfl⟩ : ∃ j : Nat, k = j + 1 := ⟨k - 1, by omega⟩
  have hc : df_X9_takeOperand n (uC (xC BC (s0 + m) l.length 0 ns fx C A S NM BK) p' 5 q (nI 126)) = some (uC (xC BC (s0 + m) (l.length + 1) 0 ns fx C A (upd S l.length (nI 12)) NM BK) p' 5 q (nI 126)) := xd_S (n := n) (by omega) 126 (by omega) rfl
  have st := su_n (n := n) (g := g) (x1 := x1) k (by omega) (s := (uC (xC BC (s0 + m) l.length 0 ns fx C A S NM BK) p' 5 q (nI 126))) (s' := (uC (xC BC (s0 + m) (l.length + 1) 0 ns fx C A (upd S l.length (nI 12)) NM BK) p' 5 q (nI 126))) (show ¬ nI 0 = (5 : Int32) by decide) (show ¬ nI 0 = (6 : Int32) by decide) ((if_pos (show nI 0 = (0 : Int32) from rfl)).trans hc) (show ¬ nI 0 = (5 : Int32) by decide) (show ¬ nI 0 = (6 : Int32) by decide) n1
  have fl : flat (12 :: l) = sgO 12 :: flat l := flat_b (by omega)
  have fll : (flat (12 :: l)).length = (flat l).length + 1 := by rw [fl]; rfl
  have nbl : nbS (12 :: l) = nbS l := Nat.zero_add _
  obtain ⟨ok, p2, q2', p2', κ2, τ2, v2, x2, m2, P2, ns2, fx2, C2, A2, S2, NM2, BK2, bs2, ws2, tp2, r1, r2, r3, r4, r5⟩ := hA p' qn pn κn τn vn xn (12 :: l) m P ns fx C A (upd S l.length (nI 12)) NM BK bs ws k g x1 (by omega) n2 ⟨⟨by omega, fun z => absurd z (by decide), E1⟩, stk_p 12 E2, E3, E4, E5, by show s0 + m + (l.length + 1) ≤ p'; omega⟩ (by rw [fll, nbl]; omega) (by omega) (by omega) (by omega) (by omega)
  refine ⟨ok, p2, q2', p2', κ2, τ2, v2, x2, m2, P2, ns2, fx2, C2, A2, S2, NM2, BK2, bs2, ws2, tp2, st.trans r1, r2, r3, fun z => ?_, ?_⟩
  · obtain ⟨u1, u2, u3⟩ := r4 z
    exact ⟨u1, by omega, u3⟩
  · intro B V lo hTB hV hln vs ms dv ls PL tk fr to nm gr hER hvl hgr
    obtain ⟨gr, rfl⟩ : ∃ j : Nat, gr = j + 1 := ⟨gr - 1, by omega⟩
    obtain ⟨xr, p3, s1, s2, s3⟩ := t9 (xR B 0 ms dv ls (flat l).length (32800 - vs.length) PL) (at_R hTB) tk fr to nm
    have p3e : p3 = p' := by omega
    subst p3e
    obtain ⟨R1, R2, R3, R4⟩ := hER
    have w1 := ro_S (tk := 0) (n := n) (B := B) (ft := 0) (ms := ms) (dv := dv) (ls := ls) (sg := (flat l).length) (vl := 32800 - vs.length) (PL := PL) (ap := p3) (fr := q) (to := p3) (nm := xr) 126 3 (by omega) (by omega)
    have e1 := e33_1 (n := n) (g := gr) (x1 := nI (bkS l)) (K := (uR (xR B 0 ms dv ls (flat l).length (32800 - vs.length) PL) p tk fr to nm)) (s24 := (uR (xR B 0 ms dv ls (flat l).length (32800 - vs.length) PL) p3 126 q p3 xr)) (τ := 126) rfl s1 rfl (by omega)
    have e2 := e81_1 (n := n) (op := bkS l) (G := df_X13_expression_33 n gr) (y := decide (126 = 40 ∨ 126 = 37)) (r := false) (s := (uR (xR B 0 ms dv ls (flat l).length (32800 - vs.length) PL) p3 126 q p3 xr)) w1
    obtain ⟨w, ft2, ms2, dv2, ls2, sg2, vl2, PL2, ap2, tk2, fr2, to2, nm2, z1, z2, z3, z4⟩ := r5 B V lo hTB hV hln vs ms dv ls (upd PL (flat l).length (nI 3)) 126 q p3 xr gr ⟨by rw [fl]; exact stk_p (sgO 12) R1, vst_u _ _ (by omega) R2, R3, R4⟩ (by omega) (by omega)
    refine ⟨w, ft2, ms2, dv2, ls2, sg2, vl2, PL2, ap2, tk2, fr2, to2, nm2, ?_, z2, z3, z4⟩
    refine Eq.trans e1 (Eq.trans e2 ?_)
    rw [fll, show bkS (12 :: l) = bkS l from Nat.zero_add _] at z1
    exact z1
/-- the sign 40 before a value -/
theorem jA_s40 (n L e : Nat) (c : Nat → Nat) (BC : St) (C0 A0 : Nat → Int32) (s0 : Nat) (N : Nat) {BR0 : St} (hT0 : atx n L e c BC BR0) (hA : clA n L e c BC C0 A0 s0 N) (p q p' κ τ v : Nat) (x : Int32) (l : List Nat) (m : Nat) (P : Nat → Tp) (ns : Nat) (fx : Bool) (C A S NM BK : Nat → Int32) (bs ws : Nat → Nat) (k g : Nat) (x1 : Int32) (hN : e - p < N + 1) (hT : TS n L e c BC p q p' κ τ v x) (hE : EC L e c BC C0 A0 s0 p m ns l P fx C A S NM BK bs ws) (h2 : (flat l).length + nbS l ≤ p) (hns : 2 * ns ≤ p) (hk : e - p + 1 ≤ k) (hk2 : k < 2 ^ 20) (hg : e - p + 3 ≤ g) (hκ : κ = 5) (hv : v = 40) : ∃ (ok : Bool) (p2 q2 p2' κ2 τ2 v2 : Nat) (x2 : Int32) (m2 : Nat) (P2 : Nat → Tp) (ns2 : Nat) (fx2 : Bool) (C2 A2 S2 NM2 BK2 : Nat → Int32) (bs2 ws2 : Nat → Nat) (tp2 : Nat), df_X9_sum_26 n g x1 (nI k) (uC (xC BC (s0 + m) l.length 0 ns fx C A S NM BK) p' κ q x) = some (if ok = true then x1 else -1, (uC (xC BC (s0 + m2 + 1) tp2 (if ok = true then 5 else 6) ns2 fx2 C2 A2 S2 NM2 BK2) p2' κ2 q2 x2)) ∧ PS ns NM bs ws ns2 NM2 bs2 ws2 ∧ HTS n L e c BC ns2 NM2 BK2 bs2 ws2 q2 p2' κ2 x2 ∧ (ok = true → TS n L e c BC p2 q2 p2' κ2 τ2 v2 x2 ∧ p ≤ p2 ∧ CR (sR BC 5) c e C0 A0 s0 ns2 bs2 ws2 m2 P2 C2 A2 ∧ C2 (s0 + m2) = 21 ∧ (fx2 = true ↔ fxQ c e bs2 ws2 NM2 ns2 m2 P2) ∧ s0 + m2 ≤ p2 ∧ 2 * ns2 ≤ p2 + 1 ∧ 0 < m2) ∧ RO n L e c BC p ok p2 m2 P2 true l m P (nbS l) := by
  obtain ⟨hn, hL, heL, h127, hend, hce, hO, hst, htC, h0, htR, hch⟩ := id hT0
  obtain ⟨t1, t2, t3, t4, t5, t6, t7, t8, t9⟩ := id hT
  obtain ⟨E1, E2, E3, E4, E5, E6⟩ := id hE
  subst hκ
  have hx : x = nI v := t8 (Or.inr (Or.inr rfl))
  have h5 := tk_5 t7
  have hτ : τ = 40 := by omega
  subst hv
  subst hτ
  subst hx
  obtain ⟨q1, q2⟩ := t6 (by decide)
  obtain ⟨qn, pn, κn, τn, vn, xn, n1, n2⟩ := nx_1 hT0 (cs := s0 + m) (tp := l.length + 1) (st := 0) (ns := ns) (fx := fx) (C := C) (A := A) (S := upd S l.length (nI 15)) (NM := NM) (BK := BK) p' 5 q (nI 40) t5 (fun i i1 i2 => t2 i (by omega) i2)
  obtain ⟨g, rfl⟩ : ∃ j : Nat, g = j + 1 := ⟨g - 1, by omega⟩
  obtain ⟨k, rfl⟩ : ∃ j : Nat, k = j + 1 := ⟨k - 1, by omega⟩
  have hc : df_X9_takeOperand n (uC (xC BC (s0 + m) l.length 0 ns fx C A S NM BK) p' 5 q (nI 40)) = some (uC (xC BC (s0 + m) (l.length + 1) 0 ns fx C A (upd S l.length (nI 15)) NM BK) p' 5 q (nI 40)) := xd_S (n := n) (by omega) 40 (by omega) rfl
  have st := su_n (n := n) (g := g) (x1 := x1) k (by omega) (s := (uC (xC BC (s0 + m) l.length 0 ns fx C A S NM BK) p' 5 q (nI 40))) (s' := (uC (xC BC (s0 + m) (l.length + 1) 0 ns fx C A (upd S l.length (nI 15)) NM BK) p' 5 q (nI 40))) (show ¬ nI 0 = (5 : Int32) by decide) (show ¬ nI 0 = (6 : Int32) by decide) ((if_pos (show nI 0 = (0 : Int32) from rfl)).trans hc) (show ¬ nI 0 = (5 : Int32) by decide) (show ¬ nI 0 = (6 : Int32) by decide) n1
  have fl : flat (15 :: l) = sgO 15 :: flat l := flat_b (by omega)
  have fll : (flat (15 :: l)).length = (flat l).length + 1 := by rw [fl]; rfl
  have nbl : nbS (15 :: l) = nbS l := Nat.zero_add _
  obtain ⟨ok, p2, q2', p2', κ2, τ2, v2, x2, m2, P2, ns2, fx2, C2, A2, S2, NM2, BK2, bs2, ws2, tp2, r1, r2, r3, r4, r5⟩ := hA p' qn pn κn τn vn xn (15 :: l) m P ns fx C A (upd S l.length (nI 15)) NM BK bs ws k g x1 (by omega) n2 ⟨⟨by omega, fun z => absurd z (by decide), E1⟩, stk_p 15 E2, E3, E4, E5, by show s0 + m + (l.length + 1) ≤ p'; omega⟩ (by rw [fll, nbl]; omega) (by omega) (by omega) (by omega) (by omega)
  refine ⟨ok, p2, q2', p2', κ2, τ2, v2, x2, m2, P2, ns2, fx2, C2, A2, S2, NM2, BK2, bs2, ws2, tp2, st.trans r1, r2, r3, fun z => ?_, ?_⟩
  · obtain ⟨u1, u2, u3⟩ := r4 z
    exact ⟨u1, by omega, u3⟩
  · intro B V lo hTB hV hln vs ms dv ls PL tk fr to nm gr hER hvl hgr
    obtain ⟨gr, rfl⟩ : ∃ j : Nat, gr = j + 1 := ⟨gr - 1, by omega⟩
    obtain ⟨xr, p3, s1, s2, s3⟩ := t9 (xR B 0 ms dv ls (flat l).length (32800 - vs.length) PL) (at_R hTB) tk fr to nm
    have p3e : p3 = p' := by omega
    subst p3e
    obtain ⟨R1, R2, R3, R4⟩ := hER
    have w1 := ro_S (tk := 0) (n := n) (B := B) (ft := 0) (ms := ms) (dv := dv) (ls := ls) (sg := (flat l).length) (vl := 32800 - vs.length) (PL := PL) (ap := p3) (fr := q) (to := p3) (nm := xr) 40 1 (by omega) (by omega)
    have e1 := e33_1 (n := n) (g := gr) (x1 := nI (bkS l)) (K := (uR (xR B 0 ms dv ls (flat l).length (32800 - vs.length) PL) p tk fr to nm)) (s24 := (uR (xR B 0 ms dv ls (flat l).length (32800 - vs.length) PL) p3 40 q p3 xr)) (τ := 40) rfl s1 rfl (by omega)
    have e2 := e81_1 (n := n) (op := bkS l) (G := df_X13_expression_33 n gr) (y := decide (40 = 40 ∨ 40 = 37)) (r := false) (s := (uR (xR B 0 ms dv ls (flat l).length (32800 - vs.length) PL) p3 40 q p3 xr)) w1
    obtain ⟨w, ft2, ms2, dv2, ls2, sg2, vl2, PL2, ap2, tk2, fr2, to2, nm2, z1, z2, z3, z4⟩ := r5 B V lo hTB hV hln vs ms dv ls (upd PL (flat l).length (nI 1)) 40 q p3 xr gr ⟨by rw [fl]; exact stk_p (sgO 15) R1, vst_u _ _ (by omega) R2, R3, R4⟩ (by omega) (by omega)
    refine ⟨w, ft2, ms2, dv2, ls2, sg2, vl2, PL2, ap2, tk2, fr2, to2, nm2, ?_, z2, z3, z4⟩
    refine Eq.trans e1 (Eq.trans e2 ?_)
    rw [fll, show bkS (15 :: l) = bkS l + 1 from Nat.add_comm 1 _] at z1
    exact z1
/-- what can't be where a value is due -/
theorem jA_X (n L e : Nat) (c : Nat → Nat) (BC : St) (C0 A0 : Nat → Int32) (s0 : Nat) (N : Nat) {BR0 : St} (hT0 : atx n L e c BC BR0) (p q p' κ τ v : Nat) (x : Int32) (l : List Nat) (m : Nat) (P : Nat → Tp) (ns : Nat) (fx : Bool) (C A S NM BK : Nat → Int32) (bs ws : Nat → Nat) (k g : Nat) (x1 : Int32) (hN : e - p < N + 1) (hT : TS n L e c BC p q p' κ τ v x) (hE : EC L e c BC C0 A0 s0 p m ns l P fx C A S NM BK bs ws) (h2 : (flat l).length + nbS l ≤ p) (hns : 2 * ns ≤ p) (hk : e - p + 1 ≤ k) (hk2 : k < 2 ^ 20) (hg : e - p + 3 ≤ g) (hκ : κ = 0 ∨ κ = 4 ∨ κ = 6 ∨ (κ = 5 ∧ ¬ v = 45 ∧ ¬ v = 126 ∧ ¬ v = 40 ∧ ¬ v = 37)) : ∃ (ok : Bool) (p2 q2 p2' κ2 τ2 v2 : Nat) (x2 : Int32) (m2 : Nat) (P2 : Nat → Tp) (ns2 : Nat) (fx2 : Bool) (C2 A2 S2 NM2 BK2 : Nat → Int32) (bs2 ws2 : Nat → Nat) (tp2 : Nat), df_X9_sum_26 n g x1 (nI k) (uC (xC BC (s0 + m) l.length 0 ns fx C A S NM BK) p' κ q x) = some (if ok = true then x1 else -1, (uC (xC BC (s0 + m2 + 1) tp2 (if ok = true then 5 else 6) ns2 fx2 C2 A2 S2 NM2 BK2) p2' κ2 q2 x2)) ∧ PS ns NM bs ws ns2 NM2 bs2 ws2 ∧ HTS n L e c BC ns2 NM2 BK2 bs2 ws2 q2 p2' κ2 x2 ∧ (ok = true → TS n L e c BC p2 q2 p2' κ2 τ2 v2 x2 ∧ p ≤ p2 ∧ CR (sR BC 5) c e C0 A0 s0 ns2 bs2 ws2 m2 P2 C2 A2 ∧ C2 (s0 + m2) = 21 ∧ (fx2 = true ↔ fxQ c e bs2 ws2 NM2 ns2 m2 P2) ∧ s0 + m2 ≤ p2 ∧ 2 * ns2 ≤ p2 + 1 ∧ 0 < m2) ∧ RO n L e c BC p ok p2 m2 P2 true l m P (nbS l) := by
  obtain ⟨hn, hL, heL, h127, hend, hce, hO, hst, htC, h0, htR, hch⟩ := id hT0
  obtain ⟨t1, t2, t3, t4, t5, t6, t7, t8, t9⟩ := id hT
  obtain ⟨E1, E2, E3, E4, E5, E6⟩ := id hE
  obtain ⟨g, rfl⟩ : ∃ j : Nat, g = j + 1 + 1 := ⟨g - 2, by omega⟩
  obtain ⟨k, rfl⟩ : ∃ j : Nat, k = j + 1 := ⟨k - 1, by omega⟩
  have tf : τ < 300 ∧ ¬ τ = 1 ∧ ¬ τ = 2 ∧ ¬ τ = 3 ∧ ¬ τ = 37 ∧ ¬ τ = 40 ∧ ¬ τ = 45 ∧ ¬ τ = 126 := by
    by_cases y : κ = 5
    · subst y
      have := tk_5 t7
      omega
    · have := tk_n t7 y
      omega
  have hc : df_X9_takeOperand n (uC (xC BC (s0 + m) l.length 0 ns fx C A S NM BK) p' κ q x) = some (uC (xC BC (s0 + m) l.length 6 ns fx C A S NM BK) p' κ q x) := by
    have h := xd_X (n := n) (B := BC) (cs := s0 + m) (tp := l.length) (st := 0) (ns := ns) (fx := fx) (C := C) (A := A) (S := S) (NM := NM) (BK := BK) (ap := p') (kd := κ) (fr := q) (nm := x) (by
      rcases hκ with y | y | y | y
      · exact Or.inl y
      · exact Or.inr (Or.inl y)
      · exact Or.inr (Or.inr (Or.inl y))
      · obtain ⟨y0, y1, y2, y3, _⟩ := y
        subst y0
        exact Or.inr (Or.inr (Or.inr ⟨rfl, v, (tk_5 t7).1, t8 (Or.inr (Or.inr rfl)), y1, y2, y3⟩)))
    rw [if_neg (show ¬ (κ = 5 ∧ x = 37) from fun z => by
      obtain ⟨z1, z2⟩ := z
      subst z1
      have v3 := (tk_5 t7).1
      rw [t8 (Or.inr (Or.inr rfl))] at z2
      have z2 : nI v = nI 37 := z2
      rw [nI_eq (by omega) (by omega)] at z2
      omega)] at h
    exact h
  have st := su_e (n := n) (g := g) (x1 := x1) k (by omega) (s := (uC (xC BC (s0 + m) l.length 0 ns fx C A S NM BK) p' κ q x)) (s' := (uC (xC BC (s0 + m) l.length 6 ns fx C A S NM BK) p' κ q x)) (show ¬ nI 0 = (5 : Int32) by decide) (show ¬ nI 0 = (6 : Int32) by decide) ((if_pos (show nI 0 = (0 : Int32) from rfl)).trans hc) (Or.inr (show nI 6 = (6 : Int32) from rfl))
  have sz := su_z (n := n) (B := BC) (cs := s0 + m) (tp := l.length) (st := 6) (ns := ns) (fx := fx) (C := C) (A := A) (S := S) (NM := NM) (BK := BK) (ap := p') (kd := κ) (fr := q) (nm := x) x1 (by omega) (Or.inr rfl)
  refine ⟨false, 0, q, p', κ, 0, 0, x, m, P, ns, fx, upd C (s0 + m) 21, upd A (s0 + m) 0, S, NM, BK, bs, ws, l.length, st.trans sz, PS_r, ⟨E4, p, τ, v, hT⟩, fun z => absurd z (by decide), ?_⟩
  intro B V lo hTB hV hln vs ms dv ls PL tk fr to nm gr hER hvl hgr
  obtain ⟨gr, rfl⟩ : ∃ j : Nat, gr = j + 1 + 1 := ⟨gr - 2, by omega⟩
  obtain ⟨xr, p3, s1, s2, s3⟩ := t9 (xR B 0 ms dv ls (flat l).length (32800 - vs.length) PL) (at_R hTB) tk fr to nm
  obtain ⟨ln, l1, l2⟩ := hln
  have w1 := ro_X (n := n) (B := B) (ms := ms) (dv := dv) (ls := ls) (sg := (flat l).length) (vl := 32800 - vs.length) (PL := PL) (ap := p3) (tk := τ) (fr := q) (to := p3) (nm := xr) tf
  have e1 := e33_1 (n := n) (g := gr + 1) (x1 := nI (bkS l)) (K := (uR (xR B 0 ms dv ls (flat l).length (32800 - vs.length) PL) p tk fr to nm)) (s24 := (uR (xR B 0 ms dv ls (flat l).length (32800 - vs.length) PL) p3 τ q p3 xr)) (τ := τ) rfl s1 rfl (by omega)
  have e2 := e81_1 (n := n) (op := bkS l) (G := df_X13_expression_33 n (gr + 1)) (y := decide (τ = 40 ∨ τ = 37)) (r := false) (s := (uR (xR B 0 ms dv ls (flat l).length (32800 - vs.length) PL) p3 τ q p3 xr)) w1
  exact ⟨0, 1 + 16 * sI B 13, ms, dv, ls, (flat l).length, 32800 - vs.length, PL, p3, τ, q, p3, xr, e1.trans (e2.trans (ef_1 hn gr _ _ _ (f1_n l2 l1))), by omega, fun z => absurd z (by decide), fun _ => rfl⟩
/-- a sign between two values -/
theorem jB_B (n L e : Nat) (c : Nat → Nat) (BC : St) (C0 A0 : Nat → Int32) (s0 : Nat) (N : Nat) {BR0 : St} (hT0 : atx n L e c BC BR0) (hA : clA n L e c BC C0 A0 s0 N) (p q p' κ τ v : Nat) (x : Int32) (l : List Nat) (m : Nat) (P : Nat → Tp) (ns : Nat) (fx : Bool) (C A S NM BK : Nat → Int32) (bs ws : Nat → Nat) (k g : Nat) (x1 : Int32) (hN : e - p < N + 1) (hT : TS n L e c BC p q p' κ τ v x) (hE : EC L e c BC C0 A0 s0 p m ns l P fx C A S NM BK bs ws) (h2 : (flat (rsP l)).length + nbS l + 1 ≤ p) (hns : 2 * ns ≤ p + 1) (hm : 0 < m) (hk : e - p + 1 ≤ k) (hk2 : k < 2 ^ 20) (hg : e - p + 3 ≤ g) (hκ : κ = 5) (hb : 0 < bnO v) : ∃ (ok : Bool) (p2 q2 p2' κ2 τ2 v2 : Nat) (x2 : Int32) (m2 : Nat) (P2 : Nat → Tp) (ns2 : Nat) (fx2 : Bool) (C2 A2 S2 NM2 BK2 : Nat → Int32) (bs2 ws2 : Nat → Nat) (tp2 : Nat), df_X9_sum_26 n g x1 (nI k) (uC (xC BC (s0 + m) l.length 1 ns fx C A S NM BK) p' κ q x) = some (if ok = true then x1 else -1, (uC (xC BC (s0 + m2 + 1) tp2 (if ok = true then 5 else 6) ns2 fx2 C2 A2 S2 NM2 BK2) p2' κ2 q2 x2)) ∧ PS ns NM bs ws ns2 NM2 bs2 ws2 ∧ HTS n L e c BC ns2 NM2 BK2 bs2 ws2 q2 p2' κ2 x2 ∧ (ok = true → TS n L e c BC p2 q2 p2' κ2 τ2 v2 x2 ∧ p ≤ p2 ∧ CR (sR BC 5) c e C0 A0 s0 ns2 bs2 ws2 m2 P2 C2 A2 ∧ C2 (s0 + m2) = 21 ∧ (fx2 = true ↔ fxQ c e bs2 ws2 NM2 ns2 m2 P2) ∧ s0 + m2 ≤ p2 ∧ 2 * ns2 ≤ p2 + 1 ∧ 0 < m2) ∧ RO n L e c BC p ok p2 m2 P2 false (rsP l) (m + (usP l).length) (apl P m (usP l)) (nbS l + 1) := by
  obtain ⟨hn, hL, heL, h127, hend, hce, hO, hst, htC, h0, htR, hch⟩ := id hT0
  obtain ⟨t1, t2, t3, t4, t5, t6, t7, t8, t9⟩ := id hT
  obtain ⟨E1, E2, E3, E4, E5, E6⟩ := id hE
  subst hκ
  have hx : x = nI v := t8 (Or.inr (Or.inr rfl))
  obtain ⟨v3, h5⟩ := tk_5 t7
  obtain ⟨q1, q2⟩ := t6 (by decide)
  have b10 := (bn_0 ⟨v, v3⟩).2
  have b10 : bnO v ≤ 10 := b10
  have rv := rr_v ⟨v, v3⟩ hb
  have hτ : τ = sgO (bnO v) := by
    rw [show sgO (bnO v) = (if v = 256 then 6 else if v = 257 then 7 else v) from rv.2.1]
    split
    · omega
    · split <;> omega
  have rτ : rkR τ = rkA (bnO v) := by
    rw [show rkA (bnO v) = rkR (if v = 256 then 6 else if v = 257 then 7 else v) from rv.1, hτ, show sgO (bnO v) = (if v = 256 then 6 else if v = 257 then 7 else v) from rv.2.1]
  have rp : 1 ≤ rkA (bnO v) := rv.2.2
  have r7 : rkA (bnO v) ≤ 7 := (rk_t ⟨bnO v, by omega⟩).2
  have τl : τ < 300 := by omega
  obtain ⟨a1, a2, a3, a4, a5, a6, a7, a8⟩ := us_1 l E1
  obtain ⟨pu1, pu2⟩ := pop_u (rkA (bnO v)) r7 (rsP l) (usP l) a7
  rw [← a1] at pu1 pu2
  have lA := pop_l (rkA (bnO v)) l
  obtain ⟨C', A', e1, e2, e3⟩ := xt_B (n := n) (B := BC) (st := 1) (ns := ns) (fx := fx) (S := S) (NM := NM) (BK := BK) (ap := p') (kd := 5) (fr := q) (nm := x) hn l m P C A E2 (okS_m l E1) (by omega) (by omega) E3 v v3 hb rfl hx
  obtain ⟨qn, pn, κn, τn, vn, xn, n1, n2⟩ := nx_1 hT0 (cs := s0 + m + (popA (rkA (bnO v)) l).length) (tp := (popB (rkA (bnO v)) l).length + 1) (st := 0) (ns := ns) (fx := fx) (C := C') (A := A') (S := upd S (popB (rkA (bnO v)) l).length (nI (bnO v))) (NM := NM) (BK := BK) p' 5 q x t5 (fun i i1 i2 => t2 i (by omega) i2)
  obtain ⟨g, rfl⟩ : ∃ j : Nat, g = j + 1 := ⟨g - 1, by omega⟩
  obtain ⟨k, rfl⟩ : ∃ j : Nat, k = j + 1 := ⟨k - 1, by omega⟩
  have st := su_n (n := n) (g := g) (x1 := x1) k (by omega) (s := (uC (xC BC (s0 + m) l.length 1 ns fx C A S NM BK) p' 5 q x)) (show ¬ nI 1 = (5 : Int32) by decide) (show ¬ nI 1 = (6 : Int32) by decide) ((if_neg (show ¬ nI 1 = (0 : Int32) by decide)).trans ((if_pos (show nI 1 = (1 : Int32) from rfl)).trans e1)) (show ¬ nI 0 = (5 : Int32) by decide) (show ¬ nI 0 = (6 : Int32) by decide) n1
  have fl : flat (bnO v :: popB (rkA (bnO v)) l) = sgO (bnO v) :: flat (popB (rkA (bnO v)) l) := flat_b (by omega)
  have fll : (flat (bnO v :: popB (rkA (bnO v)) l)).length = (flat (popB (rkA (bnO v)) l)).length + 1 := by rw [fl]; rfl
  have nbl : nbS (bnO v :: popB (rkA (bnO v)) l) = 1 + nbS (popB (rkA (bnO v)) l) := by show (if bnO v ≤ 10 then 1 else 0) + _ = _; rw [if_pos b10]
  have f1 := flp_1 (rkA (bnO v)) (rsP l)
  have f2 := nb_p (rkA (bnO v)) l
  rw [Nat.add_assoc s0 m] at n1 st
  obtain ⟨ok, p2, q2', p2', κ2, τ2, v2, x2, m2, P2, ns2, fx2, C2, A2, S2, NM2, BK2, bs2, ws2, tp2, r1, r2, r3, r4, r5⟩ := hA p' qn pn κn τn vn xn (bnO v :: popB (rkA (bnO v)) l) (m + (popA (rkA (bnO v)) l).length) (apl P m (popA (rkA (bnO v)) l)) ns fx C' A' (upd S (popB (rkA (bnO v)) l).length (nI (bnO v))) NM BK bs ws k g x1 (by omega) n2 ⟨⟨by omega, fun _ => by rw [pu2]; exact hd_p _ _ a3 a2, okS_p _ l E1⟩, e3, e2, E4, E5.trans (fx_a _ P m (fun w hw => by have := okS_m l E1 w (popA_m _ l w hw); omega)), by show s0 + _ + ((popB (rkA (bnO v)) l).length + 1) ≤ p'; omega⟩ (by rw [fll, nbl, pu2]; rw [pu2] at f2; omega) (by omega) (by omega) (by omega) (by omega)
  refine ⟨ok, p2, q2', p2', κ2, τ2, v2, x2, m2, P2, ns2, fx2, C2, A2, S2, NM2, BK2, bs2, ws2, tp2, st.trans r1, r2, r3, fun z => ?_, ?_⟩
  · obtain ⟨u1, u2, u3⟩ := r4 z
    exact ⟨u1, by omega, u3⟩
  · intro B V lo hTB hV hln vs ms dv ls PL tk fr to nm gr hER hvl hgr
    obtain ⟨gr, rfl⟩ : ∃ j : Nat, gr = j + 1 := ⟨gr - 1, by omega⟩
    obtain ⟨xr, p3, s1, s2, s3⟩ := t9 (xR B 0 ms dv ls (flat (rsP l)).length (32800 - vs.length) PL) (at_R hTB) tk fr to nm
    have p3e : p3 = p' := by omega
    subst p3e
    obtain ⟨R1, R2, R3, R4⟩ := hER
    have e4 := e33_0 (n := n) (g := gr) (x1 := nI (bkS (rsP l))) (K := (uR (xR B 0 ms dv ls (flat (rsP l)).length (32800 - vs.length) PL) p tk fr to nm)) (s24 := (uR (xR B 0 ms dv ls (flat (rsP l)).length (32800 - vs.length) PL) p3 τ q p3 xr)) (τ := τ) rfl s1 rfl τl
    rw [if_pos (show 0 < rkR τ by omega)] at e4
    obtain ⟨PL', vs', dv', o1, o2, o3, o4, o5, o6⟩ := eo_B (n := n) (B := B) (ms := ms) (dv := dv) (ls := ls) (PL := PL) (ap := p3) (tk := τ) (fr := q) (to := p3) (nm := xr) (V := V) (P := apl P m (usP l)) (m := m + (usP l).length) (G := df_X13_expression_33 n gr) (nI (bkS (rsP l))) hn (rsP l) vs a3 a2 (by omega) R1 R2 (by omega) R3 (bnO v) (by omega) hτ
    rw [← pu2] at o1 o2 o4
    have o5' : rnF V (apl P m (popA (rkA (bnO v)) l)) (m + (popA (rkA (bnO v)) l).length) = (vs', ms, dv') := by
      rw [pu1, apl_a, List.length_append, ← Nat.add_assoc]
      exact o5
    obtain ⟨w, ft2, ms2, dv2, ls2, sg2, vl2, PL2, ap2, tk2, fr2, to2, nm2, z1, z2, z3, z4⟩ := r5 B V lo hTB hV hln vs' ms dv' ls PL' τ q p3 xr gr ⟨o2, o3, o5', by
      rw [R4, ls_a (usP l) P m (fun w hw => by have := a7 w hw; omega), ls_a (popA (rkA (bnO v)) l) P m (fun w hw => by have := okS_m l E1 w (popA_m _ l w hw); omega)]⟩ o4 (by omega)
    refine ⟨w, ft2, ms2, dv2, ls2, sg2, vl2, PL2, ap2, tk2, fr2, to2, nm2, ?_, z2, z3, z4⟩
    refine Eq.trans e4 (Eq.trans o1 ?_)
    have bb : bkS (bnO v :: popB (rkA (bnO v)) l) = bkS (rsP l) := by
      show (if 13 ≤ bnO v then 1 else 0) + bkS (popB (rkA (bnO v)) l) = _
      rw [if_neg (by omega), Nat.zero_add, pu2, bk_p]
    rw [bb] at z1
    exact z1

theorem bk_le : ∀ l : List Nat, bkS l ≤ l.length := fun l => by
  induction l with
  | nil => exact Nat.le_refl 0
  | cons x l ih =>
    show (if 13 ≤ x then 1 else 0) + bkS l ≤ l.length + 1
    split <;> omega
/-- a bracket is shut, in both -/
theorem jB_C (n L e : Nat) (c : Nat → Nat) (BC : St) (C0 A0 : Nat → Int32) (s0 : Nat) (N : Nat) {BR0 : St} (hT0 : atx n L e c BC BR0) (hB : clB n L e c BC C0 A0 s0 N) (p q p' κ τ v : Nat) (x : Int32) (l : List Nat) (m : Nat) (P : Nat → Tp) (ns : Nat) (fx : Bool) (C A S NM BK : Nat → Int32) (bs ws : Nat → Nat) (k g : Nat) (x1 : Int32) (hN : e - p < N + 1) (hT : TS n L e c BC p q p' κ τ v x) (hE : EC L e c BC C0 A0 s0 p m ns l P fx C A S NM BK bs ws) (h2 : (flat (rsP l)).length + nbS l + 1 ≤ p) (hns : 2 * ns ≤ p + 1) (hm : 0 < m) (hk : e - p + 1 ≤ k) (hk2 : k < 2 ^ 20) (hg : e - p + 3 ≤ g) (hκ : κ = 5) (hv : v = 41) (hb : 0 < bkS l) : ∃ (ok : Bool) (p2 q2 p2' κ2 τ2 v2 : Nat) (x2 : Int32) (m2 : Nat) (P2 : Nat → Tp) (ns2 : Nat) (fx2 : Bool) (C2 A2 S2 NM2 BK2 : Nat → Int32) (bs2 ws2 : Nat → Nat) (tp2 : Nat), df_X9_sum_26 n g x1 (nI k) (uC (xC BC (s0 + m) l.length 1 ns fx C A S NM BK) p' κ q x) = some (if ok = true then x1 else -1, (uC (xC BC (s0 + m2 + 1) tp2 (if ok = true then 5 else 6) ns2 fx2 C2 A2 S2 NM2 BK2) p2' κ2 q2 x2)) ∧ PS ns NM bs ws ns2 NM2 bs2 ws2 ∧ HTS n L e c BC ns2 NM2 BK2 bs2 ws2 q2 p2' κ2 x2 ∧ (ok = true → TS n L e c BC p2 q2 p2' κ2 τ2 v2 x2 ∧ p ≤ p2 ∧ CR (sR BC 5) c e C0 A0 s0 ns2 bs2 ws2 m2 P2 C2 A2 ∧ C2 (s0 + m2) = 21 ∧ (fx2 = true ↔ fxQ c e bs2 ws2 NM2 ns2 m2 P2) ∧ s0 + m2 ≤ p2 ∧ 2 * ns2 ≤ p2 + 1 ∧ 0 < m2) ∧ RO n L e c BC p ok p2 m2 P2 false (rsP l) (m + (usP l).length) (apl P m (usP l)) (nbS l + 1) := by
  obtain ⟨hn, hL, heL, h127, hend, hce, hO, hst, htC, h0, htR, hch⟩ := id hT0
  obtain ⟨t1, t2, t3, t4, t5, t6, t7, t8, t9⟩ := id hT
  obtain ⟨E1, E2, E3, E4, E5, E6⟩ := id hE
  subst hκ
  have hx : x = nI v := t8 (Or.inr (Or.inr rfl))
  obtain ⟨v3, h5⟩ := tk_5 t7
  subst hv
  obtain ⟨q1, q2⟩ := t6 (by decide)
  have hτ : τ = 41 := by omega
  subst hτ
  obtain ⟨a1, a2, a3, a4, a5, a6, a7, a8⟩ := us_1 l E1
  obtain ⟨pu1, pu2⟩ := pop_u 0 (by omega) (rsP l) (usP l) a7
  rw [← a1] at pu1 pu2
  have lA := pop_l 0 l
  obtain ⟨y, l2, hz⟩ := p0_y l hb
  have hzr : popB 0 (rsP l) = y :: l2 := by rw [← pu2]; exact hz
  have y13 := p0_h l y l2 hz
  have ok2 : okS (y :: l2) := hz ▸ okS_p 0 l E1
  have y15 := ok2.1.2
  have sk2 : stk S (y :: l2) := hz ▸ pop_s 0 l E2
  have lz : (y :: l2).length = l2.length + 1 := rfl
  rw [hz, lz] at lA
  obtain ⟨C', A', e1, e2⟩ := xt_C (n := n) (B := BC) (st := 1) (ns := ns) (fx := fx) (S := S) (NM := NM) (BK := BK) (ap := p') (kd := 5) (fr := q) (nm := x) hn l m P C A E2 (okS_m l E1) (by omega) (by omega) E3 rfl hx y l2 hz
  generalize hxs : popA 0 l ++ (if y = 15 then [] else [y]) = xs at e1 e2
  have xl : xs.length ≤ (popA 0 l).length + 1 := by
    rw [← hxs, List.length_append]
    split
    · show _ + 0 ≤ _; omega
    · exact Nat.le_refl _
  have xm : ∀ w : Nat, w ∈ xs → w < 16 := fun w hw => by
    rw [← hxs] at hw
    rcases List.mem_append.mp hw with u | u
    · have := okS_m l E1 w (popA_m _ l w u)
      omega
    · by_cases z : y = 15
      · rw [if_pos z] at u; exact nomatch u
      · rw [if_neg z] at u
        have := List.mem_singleton.mp u
        omega
  obtain ⟨qn, pn, κn, τn, vn, xn, n1, n2⟩ := nx_1 hT0 (cs := s0 + m + xs.length) (tp := l2.length) (st := 1) (ns := ns) (fx := fx) (C := C') (A := A') (S := S) (NM := NM) (BK := BK) p' 5 q x t5 (fun i i1 i2 => t2 i (by omega) i2)
  obtain ⟨g, rfl⟩ : ∃ j : Nat, g = j + 1 := ⟨g - 1, by omega⟩
  obtain ⟨k, rfl⟩ : ∃ j : Nat, k = j + 1 := ⟨k - 1, by omega⟩
  have st := su_n (n := n) (g := g) (x1 := x1) k (by omega) (s := (uC (xC BC (s0 + m) l.length 1 ns fx C A S NM BK) p' 5 q x)) (show ¬ nI 1 = (5 : Int32) by decide) (show ¬ nI 1 = (6 : Int32) by decide) ((if_neg (show ¬ nI 1 = (0 : Int32) by decide)).trans ((if_pos (show nI 1 = (1 : Int32) from rfl)).trans e1)) (show ¬ nI 1 = (5 : Int32) by decide) (show ¬ nI 1 = (6 : Int32) by decide) n1
  rw [Nat.add_assoc s0 m] at st
  have f1 := flp_1 0 (rsP l)
  rw [hzr] at f1
  have f2 := fl_c y l2
  have f3 := fl_r ok2.2.2
  have f4 := nb_p 0 l
  rw [hz] at f4
  have f5 : nbS (y :: l2) = nbS l2 := by show (if y ≤ 10 then 1 else 0) + nbS l2 = _; rw [if_neg (by omega), Nat.zero_add]
  have b1 := bk_p 0 (rsP l)
  rw [hzr] at b1
  have b2 : bkS (y :: l2) = 1 + bkS l2 := by show (if 13 ≤ y then 1 else 0) + bkS l2 = _; rw [if_pos y13]
  have b3 := (us_1 l2 ok2.2.2).2.2.2.2.1
  obtain ⟨ok, p2, q2', p2', κ2, τ2, v2, x2, m2, P2, ns2, fx2, C2, A2, S2, NM2, BK2, bs2, ws2, tp2, r1, r2, r3, r4, r5⟩ := hB p' qn pn κn τn vn xn l2 (m + xs.length) (apl P m xs) ns fx C' A' S NM BK bs ws k g x1 (by omega) n2 ⟨ok2.2.2, sk2.2, e2, E4, E5.trans (fx_a xs P m xm), by omega⟩ (by omega) (by omega) (by omega) (by omega) (by omega) (by omega)
  refine ⟨ok, p2, q2', p2', κ2, τ2, v2, x2, m2, P2, ns2, fx2, C2, A2, S2, NM2, BK2, bs2, ws2, tp2, st.trans r1, r2, r3, fun z => ?_, ?_⟩
  · obtain ⟨u1, u2, u3⟩ := r4 z
    exact ⟨u1, by omega, u3⟩
  · intro B V lo hTB hV hln vs ms dv ls PL tk fr to nm gr hER hvl hgr
    obtain ⟨gr, rfl⟩ : ∃ j : Nat, gr = j + 1 := ⟨gr - 1, by omega⟩
    obtain ⟨xr, p3, s1, s2, s3⟩ := t9 (xR B 0 ms dv ls (flat (rsP l)).length (32800 - vs.length) PL) (at_R hTB) tk fr to nm
    have p3e : p3 = p' := by omega
    subst p3e
    obtain ⟨R1, R2, R3, R4⟩ := hER
    have e4 := e33_0 (n := n) (g := gr) (x1 := nI (bkS (rsP l))) (K := (uR (xR B 0 ms dv ls (flat (rsP l)).length (32800 - vs.length) PL) p tk fr to nm)) (s24 := (uR (xR B 0 ms dv ls (flat (rsP l)).length (32800 - vs.length) PL) p3 41 q p3 xr)) (τ := 41) rfl s1 rfl (by omega)
    rw [if_neg (show ¬ 0 < rkR 41 by decide)] at e4
    have bl : bkS (rsP l) = bkS l2 + 1 := by omega
    have e5 : df_X13_expression_180 n (df_X13_expression_33 n gr) (nI (bkS (rsP l))) 0 1 (sI (uR (xR B 0 ms dv ls (flat (rsP l)).length (32800 - vs.length) PL) p tk fr to nm) 7) (uR (xR B 0 ms dv ls (flat (rsP l)).length (32800 - vs.length) PL) p3 41 q p3 xr) = df_X13_expression_193 n (df_X13_expression_33 n gr) n (nI (bkS l2 + 1)) 0 1 (uR (xR B 0 ms dv ls (flat (rsP l)).length (32800 - vs.length) PL) p3 41 q p3 xr) := by
      have bz := nb_le l
      have bq : bkS l ≤ l.length := bk_le l
      unfold df_X13_expression_180
      rw [uR_i8, if_pos (show nI 41 = (41 : Int32) from rfl), bl, if_neg (show ¬ nI (bkS l2 + 1) ≤ (0 : Int32) from znle (b := 0) (by omega) (by omega))]
    obtain ⟨PL', vs', dv', o1, o2, o3, o4, o5, o6⟩ := eo_C (n := n) (B := B) (ms := ms) (dv := dv) (ls := ls) (PL := PL) (ap := p3) (tk := 41) (fr := q) (to := p3) (nm := xr) (V := V) (P := apl P m (usP l)) (m := m + (usP l).length) (G := df_X13_expression_33 n gr) (bkS l2) hn (rsP l) vs a3 a2 (by omega) R1 R2 (by omega) R3 y l2 hzr
    have o5' : rnF V (apl (apl P m xs) (m + xs.length) (usP l2)) (m + xs.length + (usP l2).length) = (vs', ms, dv') := by
      rw [← o5, ← apl_a, ← apl_a]
      have q1 : xs ++ usP l2 = usP l ++ (popA 0 (rsP l) ++ ((if y = 15 then [] else [y]) ++ usP l2)) := by
        rw [← hxs, pu1, List.append_assoc, List.append_assoc]
      rw [q1, show m + xs.length + (usP l2).length = m + (xs ++ usP l2).length by rw [List.length_append]; omega, q1, List.length_append, Nat.add_assoc]
    obtain ⟨w, ft2, ms2, dv2, ls2, sg2, vl2, PL2, ap2, tk2, fr2, to2, nm2, z1, z2, z3, z4⟩ := r5 B V lo hTB hV hln vs' ms dv' ls PL' 41 q p3 xr gr ⟨o2, o3, o5', by
      rw [R4, ls_a (usP l) P m (fun w hw => by have := a7 w hw; omega), ls_a (usP l2) _ _ (fun w hw => by have := (us_1 l2 ok2.2.2).2.2.2.2.2.2.1 w hw; omega), ls_a xs P m xm]⟩ (by have := (us_1 l2 ok2.2.2).2.2.2.1; omega) (by omega)
    refine ⟨w, ft2, ms2, dv2, ls2, sg2, vl2, PL2, ap2, tk2, fr2, to2, nm2, ?_, z2, z3, z4⟩
    refine Eq.trans e4 (Eq.trans e5 (Eq.trans o1 ?_))
    rw [b3] at z1
    exact z1
/-- the end of an expression -/
theorem jB_E (n L e : Nat) (c : Nat → Nat) (BC : St) (C0 A0 : Nat → Int32) (s0 : Nat) (N : Nat) {BR0 : St} (hT0 : atx n L e c BC BR0) (p q p' κ τ v : Nat) (x : Int32) (l : List Nat) (m : Nat) (P : Nat → Tp) (ns : Nat) (fx : Bool) (C A S NM BK : Nat → Int32) (bs ws : Nat → Nat) (k g : Nat) (x1 : Int32) (hN : e - p < N + 1) (hT : TS n L e c BC p q p' κ τ v x) (hE : EC L e c BC C0 A0 s0 p m ns l P fx C A S NM BK bs ws) (h2 : (flat (rsP l)).length + nbS l + 1 ≤ p) (hns : 2 * ns ≤ p + 1) (hm : 0 < m) (hk : e - p + 1 ≤ k) (hk2 : k < 2 ^ 20) (hg : e - p + 3 ≤ g) (hnb : κ = 5 → bnO v = 0) (hb : bkS l = 0) : ∃ (ok : Bool) (p2 q2 p2' κ2 τ2 v2 : Nat) (x2 : Int32) (m2 : Nat) (P2 : Nat → Tp) (ns2 : Nat) (fx2 : Bool) (C2 A2 S2 NM2 BK2 : Nat → Int32) (bs2 ws2 : Nat → Nat) (tp2 : Nat), df_X9_sum_26 n g x1 (nI k) (uC (xC BC (s0 + m) l.length 1 ns fx C A S NM BK) p' κ q x) = some (if ok = true then x1 else -1, (uC (xC BC (s0 + m2 + 1) tp2 (if ok = true then 5 else 6) ns2 fx2 C2 A2 S2 NM2 BK2) p2' κ2 q2 x2)) ∧ PS ns NM bs ws ns2 NM2 bs2 ws2 ∧ HTS n L e c BC ns2 NM2 BK2 bs2 ws2 q2 p2' κ2 x2 ∧ (ok = true → TS n L e c BC p2 q2 p2' κ2 τ2 v2 x2 ∧ p ≤ p2 ∧ CR (sR BC 5) c e C0 A0 s0 ns2 bs2 ws2 m2 P2 C2 A2 ∧ C2 (s0 + m2) = 21 ∧ (fx2 = true ↔ fxQ c e bs2 ws2 NM2 ns2 m2 P2) ∧ s0 + m2 ≤ p2 ∧ 2 * ns2 ≤ p2 + 1 ∧ 0 < m2) ∧ RO n L e c BC p ok p2 m2 P2 false (rsP l) (m + (usP l).length) (apl P m (usP l)) (nbS l + 1) := by
  obtain ⟨hn, hL, heL, h127, hend, hce, hO, hst, htC, h0, htR, hch⟩ := id hT0
  obtain ⟨t1, t2, t3, t4, t5, t6, t7, t8, t9⟩ := id hT
  obtain ⟨E1, E2, E3, E4, E5, E6⟩ := id hE
  obtain ⟨a1, a2, a3, a4, a5, a6, a7, a8⟩ := us_1 l E1
  obtain ⟨pu1, pu2⟩ := pop_u 0 (by omega) (rsP l) (usP l) a7
  rw [← a1] at pu1 pu2
  have lA := pop_l 0 l
  have hk6 : κ ≤ 6 := by unfold tkK at t7; omega
  have h0 : κ = 5 → ∃ w : Nat, w < 300 ∧ x = nI w ∧ bnO w = 0 := fun z => by
    subst z
    exact ⟨v, (tk_5 t7).1, t8 (Or.inr (Or.inr rfl)), hnb rfl⟩
  have tf : τ < 300 ∧ rkR τ = 0 := by
    by_cases y : κ = 5
    · subst y
      have h5 := tk_5 t7
      have hb := hnb rfl
      rcases h5.2 with z | z | z
      · rw [z.1] at hb; exact absurd hb (by decide)
      · rw [z.1] at hb; exact absurd hb (by decide)
      · have := rr_z ⟨v, by omega⟩ z.1 hb
        rw [z.2.2]
        exact ⟨by omega, this⟩
    · have h := (tk_n t7 y).1
      exact ⟨by omega, rr_y ⟨τ, h⟩⟩
  have hz := p0_n l hb
  obtain ⟨C', A', e1, e2⟩ := xt_E (n := n) (B := BC) (st := 1) (ns := ns) (fx := fx) (S := S) (NM := NM) (BK := BK) (ap := p') (kd := κ) (fr := q) (nm := x) hn l m P C A E2 (okS_m l E1) (by omega) (by omega) E3 h0 hk6 hz
  obtain ⟨g, rfl⟩ : ∃ j : Nat, g = j + 1 + 1 := ⟨g - 2, by omega⟩
  obtain ⟨k, rfl⟩ : ∃ j : Nat, k = j + 1 := ⟨k - 1, by omega⟩
  have st := su_e (n := n) (g := g) (x1 := x1) k (by omega) (s := (uC (xC BC (s0 + m) l.length 1 ns fx C A S NM BK) p' κ q x)) (show ¬ nI 1 = (5 : Int32) by decide) (show ¬ nI 1 = (6 : Int32) by decide) ((if_neg (show ¬ nI 1 = (0 : Int32) by decide)).trans ((if_pos (show nI 1 = (1 : Int32) from rfl)).trans e1)) (Or.inl (show nI 5 = (5 : Int32) from rfl))
  have sz := su_z (n := n) (B := BC) (cs := s0 + m + (popA 0 l).length) (tp := 0) (st := 5) (ns := ns) (fx := fx) (C := C') (A := A') (S := S) (NM := NM) (BK := BK) (ap := p') (kd := κ) (fr := q) (nm := x) x1 (by omega) (Or.inl rfl)
  have xm : ∀ w : Nat, w ∈ popA 0 l → w < 16 := fun w hw => by
    have := okS_m l E1 w (popA_m _ l w hw)
    omega
  have c1 := st.trans sz
  rw [Nat.add_assoc s0 m] at c1
  refine ⟨true, p, q, p', κ, τ, v, x, m + (popA 0 l).length, apl P m (popA 0 l), ns, fx, upd C' (s0 + (m + (popA 0 l).length)) 21, upd A' (s0 + (m + (popA 0 l).length)) 0, S, NM, BK, bs, ws, 0, c1, PS_r, ⟨E4, p, τ, v, hT⟩, fun _ => ⟨hT, Nat.le_refl _, CR_u e2 21 0, up_e, E5.trans (fx_a _ P m xm), by omega, hns, by omega⟩, ?_⟩
  intro B V lo hTB hV hln vs ms dv ls PL tk fr to nm gr hER hvl hgr
  obtain ⟨gr, rfl⟩ : ∃ j : Nat, gr = j + 1 + 1 := ⟨gr - 2, by omega⟩
  obtain ⟨xr, p3, s1, s2, s3⟩ := t9 (xR B 0 ms dv ls (flat (rsP l)).length (32800 - vs.length) PL) (at_R hTB) tk fr to nm
  obtain ⟨R1, R2, R3, R4⟩ := hER
  have e4 := e33_0 (n := n) (g := gr + 1) (x1 := nI (bkS (rsP l))) (K := (uR (xR B 0 ms dv ls (flat (rsP l)).length (32800 - vs.length) PL) p tk fr to nm)) (s24 := (uR (xR B 0 ms dv ls (flat (rsP l)).length (32800 - vs.length) PL) p3 τ q p3 xr)) (τ := τ) rfl s1 rfl tf.1
  rw [if_neg (show ¬ 0 < rkR τ by omega)] at e4
  have bz : bkS (rsP l) = 0 := by omega
  have e5 : df_X13_expression_180 n (df_X13_expression_33 n (gr + 1)) (nI (bkS (rsP l))) 0 1 (sI (uR (xR B 0 ms dv ls (flat (rsP l)).length (32800 - vs.length) PL) p tk fr to nm) 7) (uR (xR B 0 ms dv ls (flat (rsP l)).length (32800 - vs.length) PL) p3 τ q p3 xr) = df_X13_expression_33 n (gr + 1) (nI 0) 0 0 (uR (xR B 0 ms dv ls (flat (rsP l)).length (32800 - vs.length) PL) p τ q p3 xr) := by
    have q5 : df_X13_expression_235 n (df_X13_expression_33 n (gr + 1)) (nI 0) 0 (nI p) (uR (xR B 0 ms dv ls (flat (rsP l)).length (32800 - vs.length) PL) p3 τ q p3 xr) = df_X13_expression_33 n (gr + 1) (nI 0) 0 0 (uR (xR B 0 ms dv ls (flat (rsP l)).length (32800 - vs.length) PL) p τ q p3 xr) := by
      unfold df_X13_expression_235 df_X13_expression_246 df_X13_expression_252
      rw [if_pos (show nI 0 ≤ (0 : Int32) by decide), uR_w7, nb_let]
    unfold df_X13_expression_180
    rw [uR_i8, uR_i7, bz, if_pos (show nI 0 ≤ (0 : Int32) by decide), q5]
    split <;> rfl
  obtain ⟨PL', w, dv', o1, o2⟩ := eo_E (n := n) (B := B) (ms := ms) (dv := dv) (ls := ls) (PL := PL) (ap := p) (tk := τ) (fr := q) (to := p3) (nm := xr) (V := V) (P := apl P m (usP l)) (m := m + (usP l).length) gr (nI 0) 0 hn (rsP l) vs a3 a2 (by omega) R1 R2 (by omega) R3 bz
  refine ⟨w, _, ms, dv', ls, 0, 32799, PL', p, τ, q, p3, xr, e4.trans (e5.trans o1), t1, fun _ => ⟨rfl, ?_, ?_, rfl⟩, fun z => absurd z (by decide)⟩
  · rw [pu1, apl_a, List.length_append, ← Nat.add_assoc]
    exact o2
  · rw [R4, ls_a (usP l) P m (fun w hw => by have := a7 w hw; omega), ls_a (popA 0 l) P m xm]
/-- a bracket that isn't shut -/
theorem jB_W (n L e : Nat) (c : Nat → Nat) (BC : St) (C0 A0 : Nat → Int32) (s0 : Nat) (N : Nat) {BR0 : St} (hT0 : atx n L e c BC BR0) (p q p' κ τ v : Nat) (x : Int32) (l : List Nat) (m : Nat) (P : Nat → Tp) (ns : Nat) (fx : Bool) (C A S NM BK : Nat → Int32) (bs ws : Nat → Nat) (k g : Nat) (x1 : Int32) (hN : e - p < N + 1) (hT : TS n L e c BC p q p' κ τ v x) (hE : EC L e c BC C0 A0 s0 p m ns l P fx C A S NM BK bs ws) (h2 : (flat (rsP l)).length + nbS l + 1 ≤ p) (hns : 2 * ns ≤ p + 1) (hm : 0 < m) (hk : e - p + 1 ≤ k) (hk2 : k < 2 ^ 20) (hg : e - p + 3 ≤ g) (hnb : κ = 5 → bnO v = 0) (hb : 0 < bkS l) (h41 : ¬ (κ = 5 ∧ v = 41)) : ∃ (ok : Bool) (p2 q2 p2' κ2 τ2 v2 : Nat) (x2 : Int32) (m2 : Nat) (P2 : Nat → Tp) (ns2 : Nat) (fx2 : Bool) (C2 A2 S2 NM2 BK2 : Nat → Int32) (bs2 ws2 : Nat → Nat) (tp2 : Nat), df_X9_sum_26 n g x1 (nI k) (uC (xC BC (s0 + m) l.length 1 ns fx C A S NM BK) p' κ q x) = some (if ok = true then x1 else -1, (uC (xC BC (s0 + m2 + 1) tp2 (if ok = true then 5 else 6) ns2 fx2 C2 A2 S2 NM2 BK2) p2' κ2 q2 x2)) ∧ PS ns NM bs ws ns2 NM2 bs2 ws2 ∧ HTS n L e c BC ns2 NM2 BK2 bs2 ws2 q2 p2' κ2 x2 ∧ (ok = true → TS n L e c BC p2 q2 p2' κ2 τ2 v2 x2 ∧ p ≤ p2 ∧ CR (sR BC 5) c e C0 A0 s0 ns2 bs2 ws2 m2 P2 C2 A2 ∧ C2 (s0 + m2) = 21 ∧ (fx2 = true ↔ fxQ c e bs2 ws2 NM2 ns2 m2 P2) ∧ s0 + m2 ≤ p2 ∧ 2 * ns2 ≤ p2 + 1 ∧ 0 < m2) ∧ RO n L e c BC p ok p2 m2 P2 false (rsP l) (m + (usP l).length) (apl P m (usP l)) (nbS l + 1) := by
  obtain ⟨hn, hL, heL, h127, hend, hce, hO, hst, htC, h0, htR, hch⟩ := id hT0
  obtain ⟨t1, t2, t3, t4, t5, t6, t7, t8, t9⟩ := id hT
  obtain ⟨E1, E2, E3, E4, E5, E6⟩ := id hE
  obtain ⟨a1, a2, a3, a4, a5, a6, a7, a8⟩ := us_1 l E1
  obtain ⟨pu1, pu2⟩ := pop_u 0 (by omega) (rsP l) (usP l) a7
  rw [← a1] at pu1 pu2
  have lA := pop_l 0 l
  have hk6 : κ ≤ 6 := by unfold tkK at t7; omega
  have h0 : κ = 5 → ∃ w : Nat, w < 300 ∧ x = nI w ∧ bnO w = 0 := fun z => by
    subst z
    exact ⟨v, (tk_5 t7).1, t8 (Or.inr (Or.inr rfl)), hnb rfl⟩
  have tf : τ < 300 ∧ rkR τ = 0 := by
    by_cases y : κ = 5
    · subst y
      have h5 := tk_5 t7
      have hb := hnb rfl
      rcases h5.2 with z | z | z
      · rw [z.1] at hb; exact absurd hb (by decide)
      · rw [z.1] at hb; exact absurd hb (by decide)
      · have := rr_z ⟨v, by omega⟩ z.1 hb
        rw [z.2.2]
        exact ⟨by omega, this⟩
    · have h := (tk_n t7 y).1
      exact ⟨by omega, rr_y ⟨τ, h⟩⟩
  obtain ⟨y, l2, hz⟩ := p0_y l hb
  have n41 : ¬ (κ = 5 ∧ x = 41) := fun z => by
    obtain ⟨z1, z2⟩ := z
    subst z1
    have v3 := (tk_5 t7).1
    rw [t8 (Or.inr (Or.inr rfl))] at z2
    have z2 : nI v = nI 41 := z2
    rw [nI_eq (by omega) (by omega)] at z2
    exact h41 ⟨rfl, z2⟩
  have τ41 : ¬ τ = 41 := fun z => by
    by_cases y : κ = 5
    · subst y
      have := tk_5 t7
      exact h41 ⟨rfl, by omega⟩
    · have := (tk_n t7 y).1
      omega
  have lz : (y :: l2).length = l2.length + 1 := rfl
  obtain ⟨C', A', e1, e2⟩ := xt_W (n := n) (B := BC) (st := 1) (ns := ns) (fx := fx) (S := S) (NM := NM) (BK := BK) (ap := p') (kd := κ) (fr := q) (nm := x) hn l m P C A E2 (okS_m l E1) (by omega) (by omega) E3 h0 hk6 y l2 hz n41
  obtain ⟨g, rfl⟩ : ∃ j : Nat, g = j + 1 + 1 := ⟨g - 2, by omega⟩
  obtain ⟨k, rfl⟩ : ∃ j : Nat, k = j + 1 := ⟨k - 1, by omega⟩
  have st := su_e (n := n) (g := g) (x1 := x1) k (by omega) (s := (uC (xC BC (s0 + m) l.length 1 ns fx C A S NM BK) p' κ q x)) (show ¬ nI 1 = (5 : Int32) by decide) (show ¬ nI 1 = (6 : Int32) by decide) ((if_neg (show ¬ nI 1 = (0 : Int32) by decide)).trans ((if_pos (show nI 1 = (1 : Int32) from rfl)).trans e1)) (Or.inr (show nI 6 = (6 : Int32) from rfl))
  have sz := su_z (n := n) (B := BC) (cs := s0 + m + (popA 0 l).length) (tp := l2.length + 1) (st := 6) (ns := ns) (fx := fx) (C := C') (A := A') (S := S) (NM := NM) (BK := BK) (ap := p') (kd := κ) (fr := q) (nm := x) x1 (by omega) (Or.inr rfl)
  have c1 := st.trans sz
  rw [Nat.add_assoc s0 m] at c1
  refine ⟨false, 0, q, p', κ, 0, 0, x, m + (popA 0 l).length, P, ns, fx, _, _, S, NM, BK, bs, ws, l2.length + 1, c1, PS_r, ⟨E4, p, τ, v, hT⟩, fun z => absurd z (by decide), ?_⟩
  intro B V lo hTB hV hln vs ms dv ls PL tk fr to nm gr hER hvl hgr
  obtain ⟨gr, rfl⟩ : ∃ j : Nat, gr = j + 1 + 1 := ⟨gr - 2, by omega⟩
  obtain ⟨xr, p3, s1, s2, s3⟩ := t9 (xR B 0 ms dv ls (flat (rsP l)).length (32800 - vs.length) PL) (at_R hTB) tk fr to nm
  obtain ⟨ln, l1, l3⟩ := hln
  have e4 := e33_0 (n := n) (g := gr + 1) (x1 := nI (bkS (rsP l))) (K := (uR (xR B 0 ms dv ls (flat (rsP l)).length (32800 - vs.length) PL) p tk fr to nm)) (s24 := (uR (xR B 0 ms dv ls (flat (rsP l)).length (32800 - vs.length) PL) p3 τ q p3 xr)) (τ := τ) rfl s1 rfl tf.1
  rw [if_neg (show ¬ 0 < rkR τ by omega)] at e4
  have bq : bkS l ≤ l.length := bk_le l
  have e5 : df_X13_expression_180 n (df_X13_expression_33 n (gr + 1)) (nI (bkS (rsP l))) 0 1 (sI (uR (xR B 0 ms dv ls (flat (rsP l)).length (32800 - vs.length) PL) p tk fr to nm) 7) (uR (xR B 0 ms dv ls (flat (rsP l)).length (32800 - vs.length) PL) p3 τ q p3 xr) = df_X13_expression_33 n (gr + 1) (nI (bkS (rsP l))) 0 0 (uR (xR B (1 + 16 * sI B 13) ms dv ls (flat (rsP l)).length (32800 - vs.length) PL) p τ q p3 xr) := by
    unfold df_X13_expression_180 df_X13_expression_235 df_X13_expression_246 df_X13_expression_252
    rw [uR_i8, uR_i7, if_neg (show ¬ nI τ = (41 : Int32) from zne (b := 41) τ41 (by omega) (by omega)), if_neg (show ¬ nI (bkS (rsP l)) ≤ (0 : Int32) from znle (b := 0) (by omega) (by omega)), rbl_1, nb_b1, if_pos rfl, uR_w7, nb_let]
  exact ⟨0, 1 + 16 * sI B 13, ms, dv, ls, (flat (rsP l)).length, 32800 - vs.length, PL, p, τ, q, p3, xr, e4.trans (e5.trans (ef_1 hn gr _ _ _ (f1_n l3 l1))), t1, fun z => absurd z (by decide), fun _ => rfl⟩

/-- the bracket behind %hi or %lo, in the reference -/
theorem p216 {n : Nat} {B : St} {ft : Int32} {ms dv ls : Bool} {sg vl : Nat} {PL : Nat → Int32} {ap tk fr to : Nat} {nm : Int32} (s : Nat) (hs : sg + 1 < 32800) {p3 τ3 q3 t3 : Nat} {x3 : Int32} (h3 : τ3 < 300) (T : df_X13_scan n (uR (xR B ft ms dv ls (sg + 1) vl (upd PL sg (nI s))) ap tk fr to nm) = some (uR (xR B ft ms dv ls (sg + 1) vl (upd PL sg (nI s))) p3 τ3 q3 t3 x3)) : df_X13_operand_216 n (nI s) (uR (xR B ft ms dv ls sg vl PL) ap tk fr to nm) = if τ3 = 40 then some (0, (uR (xR B ft ms dv ls (sg + 1 + 1) vl (upd (upd PL sg (nI s)) (sg + 1) 1)) p3 τ3 q3 t3 x3)) else some (0, (uR (xR B (if ft = 0 then 1 + 16 * sI B 13 else ft) ms dv ls (sg + 1) vl (upd PL sg (nI s))) p3 τ3 q3 t3 x3)) := by
  unfold df_X13_operand_216 df_X13_needs df_X13_needs_0 df_X13_operand_233
  rw [rps_1 (nI s) (by omega), nb_b1, T, nb_b1, uR_i8]
  have z1 : ∀ (b : Bool) (x : Option (Int32 × St)), nd_z .boolean (bI b) x = x := fun b x => by cases b <;> exact nar_z (by decide)
  by_cases y : τ3 = 40
  · have f : df_X13_needs_17 n 40 (uR (xR B ft ms dv ls (sg + 1) vl (upd PL sg (nI s))) p3 τ3 q3 t3 x3) = some (bI true, (uR (xR B ft ms dv ls (sg + 1) vl (upd PL sg (nI s))) p3 τ3 q3 t3 x3)) := by
      unfold df_X13_needs_17 df_X13_needs_30
      rw [uR_i8, if_pos (show nI τ3 = (40 : Int32) from congrArg nI y), show (1 : Int32) = bI true from rfl, z1]
    rw [if_pos (show nI τ3 = (40 : Int32) from congrArg nI y), f, nb_b2, if_neg (show ¬ bI true = 0 by decide), rps_1 1 (by omega), nb_b1, if_pos y]
  · have f : df_X13_needs_17 n 40 (uR (xR B (if ft = 0 then 1 + 16 * sI B 13 else ft) ms dv ls (sg + 1) vl (upd PL sg (nI s))) p3 τ3 q3 t3 x3) = some (bI false, (uR (xR B (if ft = 0 then 1 + 16 * sI B 13 else ft) ms dv ls (sg + 1) vl (upd PL sg (nI s))) p3 τ3 q3 t3 x3)) := by
      unfold df_X13_needs_17 df_X13_needs_30
      rw [uR_i8, if_neg (show ¬ nI τ3 = (40 : Int32) from zne (b := 40) y (by omega) (by omega)), show (0 : Int32) = bI false from rfl, z1]
    rw [if_neg (show ¬ nI τ3 = (40 : Int32) from zne (b := 40) y (by omega) (by omega)), rbl_1, nb_b1, f, nb_b2, if_pos (show bI false = 0 from rfl), if_neg y]
theorem sc_t {n L e : Nat} {c : Nat → Nat} {BC BR : St} (hT : atx n L e c BC BR) (p tk fr to : Nat) (nm : Int32) (hp : p ≤ e) (hl : ∀ i : Nat, p ≤ i → i < e → ¬ c i = 10) : ∃ (p3 τ3 q3 : Nat) (x3 : Int32), df_X13_scan n (uR BR p tk fr to nm) = some (uR BR p3 τ3 q3 p3 x3) ∧ p3 ≤ e ∧ τ3 < 300 := by
  obtain ⟨q, p', κ, τ, v, x, _, n2⟩ := nx_1 (cs := 0) (tp := 0) (st := 0) (ns := 0) (fx := true) (C := fun _ => 0) (A := fun _ => 0) (S := fun _ => 0) (NM := fun _ => 0) (BK := fun _ => 0) hT p 0 0 0 hp hl
  obtain ⟨t1, t2, t3, t4, t5, t6, t7, t8, t9⟩ := n2
  obtain ⟨xr, p3, s1, s2, s3⟩ := t9 BR hT tk fr to nm
  refine ⟨p3, τ, q, xr, s1, by omega, ?_⟩
  by_cases y : κ = 5
  · subst y
    have := tk_5 t7
    omega
  · have := tk_n t7 y
    omega
/-- %hi, %lo and no bracket, or neither of them: a fault -/
theorem roP_F {n L e : Nat} {c : Nat → Nat} {BC B : St} (hT : atx n L e c BC B) {ms dv ls : Bool} {sg vl : Nat} {PL : Nat → Int32} {fr to : Nat} {nm : Int32} (hs : sg + 1 < 32800) (hln : ∃ ln : Nat, sI B 13 = nI ln ∧ ln ≤ 40000) {p p2 τ2 q2 : Nat} {x2 : Int32} (he : p2 ≤ e) (h2 : τ2 < 300) (hl : ∀ i : Nat, p2 ≤ i → i < e → ¬ c i = 10) (T : df_X13_scan n (uR (xR B 0 ms dv ls sg vl PL) p 37 fr to nm) = some (uR (xR B 0 ms dv ls sg vl PL) p2 τ2 q2 p2 x2)) (hb : τ2 = 1 → q2 < e ∧ q2 ≤ p2 ∧ (∀ i : Nat, q2 ≤ i → i < p2 → aP (c i) = true) ∧ ¬ (p2 = q2 + 2 ∧ c q2 = 104 ∧ c (q2 + 1) = 105) ∧ ¬ (p2 = q2 + 2 ∧ c q2 = 108 ∧ c (q2 + 1) = 111)) : ∃ (sg' : Nat) (PL' : Nat → Int32) (p3 τ3 q3 : Nat) (x3 : Int32), df_X13_operand n (uR (xR B 0 ms dv ls sg vl PL) p 37 fr to nm) = some (0, (uR (xR B (1 + 16 * sI B 13) ms dv ls sg' vl PL') p3 τ3 q3 p3 x3)) ∧ p3 ≤ e := by
  obtain ⟨hn, hL, heL, h127, hend, hce, hO, hst, htC, h0, htR, hch⟩ := id hT
  obtain ⟨ln, l1, l2⟩ := hln
  have f0 := f1_n l2 l1
  have fin : ∃ (sg' : Nat) (PL' : Nat → Int32) (p3 τ3 q3 : Nat) (x3 : Int32), df_X13_operand_216 n (nI 5) (uR (xR B (1 + 16 * sI B 13) ms dv ls sg vl PL) p2 τ2 q2 p2 x2) = some (0, (uR (xR B (1 + 16 * sI B 13) ms dv ls sg' vl PL') p3 τ3 q3 p3 x3)) ∧ p3 ≤ e := by
    obtain ⟨p3, τ3, q3, x3, s1, s2, s3⟩ := sc_t (at_R (ft := 1 + 16 * sI B 13) (ms := ms) (dv := dv) (ls := ls) (sg := sg + 1) (vl := vl) (PL := upd PL sg (nI 5)) hT) p2 τ2 q2 p2 x2 he hl
    have r := p216 (n := n) (B := B) (ft := 1 + 16 * sI B 13) (ms := ms) (dv := dv) (ls := ls) (sg := sg) (vl := vl) (PL := PL) (ap := p2) (tk := τ2) (fr := q2) (to := p2) (nm := x2) 5 hs s3 s1
    rw [if_neg f0] at r
    by_cases y : τ3 = 40
    · rw [if_pos y] at r
      exact ⟨_, _, p3, τ3, q3, x3, r, s2⟩
    · rw [if_neg y] at r
      exact ⟨_, _, p3, τ3, q3, x3, r, s2⟩
  have key : ∀ y0 : Int64, ¬ lg_cmp y0 584 = 0 → ¬ lg_cmp y0 972 = 0 → df_X13_operand_180 n y0 (uR (xR B 0 ms dv ls sg vl PL) p2 τ2 q2 p2 x2) = df_X13_operand_216 n (nI 5) (uR (xR B (1 + 16 * sI B 13) ms dv ls sg vl PL) p2 τ2 q2 p2 x2) := fun y0 y1 y2 => by
    unfold df_X13_operand_180 df_X13_operand_202
    rw [if_neg y1, if_neg y2, rbl_1, nb_b1, if_neg y1, if_pos rfl]
    rfl
  have st : df_X13_operand n (uR (xR B 0 ms dv ls sg vl PL) p 37 fr to nm) = df_X13_operand_216 n (nI 5) (uR (xR B (1 + 16 * sI B 13) ms dv ls sg vl PL) p2 τ2 q2 p2 x2) := by
    unfold df_X13_operand df_X13_operand_0
    rw [uR_i8, if_neg (show ¬ nI 37 = (1 : Int32) by decide), if_neg (show ¬ nI 37 = (2 : Int32) by decide), if_neg (show ¬ nI 37 = (3 : Int32) by decide), if_pos (show nI 37 = (37 : Int32) from rfl), T, nb_b1, uR_i8]
    by_cases y : τ2 = 1
    · obtain ⟨b0, b1, b2, b3, b4⟩ := hb y
      rw [if_pos (show nI τ2 = (1 : Int32) from congrArg nI y), uR_i9, uR_i10]
      have pk := pk_1 n (S := (uR (xR B 0 ms dv ls sg vl PL) p2 τ2 q2 p2 x2)) (c := c) q2 (p2 - q2) (by omega) h127 (by omega) (fun i hi => ⟨b2 _ (by omega) (by omega), htR _ (by omega)⟩)
      rw [show q2 + (p2 - q2) = p2 by omega] at pk
      rw [pk, nb_b2]
      refine key _ (fun z => b3 ?_) (fun z => b4 ?_)
      · have := (pq_2 q2 (p2 - q2) 104 105 584 (by decide) (by decide) (by decide) h127).mp z
        exact ⟨by omega, this.2⟩
      · have := (pq_2 q2 (p2 - q2) 108 111 972 (by decide) (by decide) (by decide) h127).mp z
        exact ⟨by omega, this.2⟩
    · rw [if_neg (show ¬ nI τ2 = (1 : Int32) from zne (b := 1) y (by omega) (by omega))]
      exact key 0 (by decide) (by decide)
  rw [st]
  exact fin
/-- %hi or %lo -/
theorem roP_1 {n L e : Nat} {c : Nat → Nat} {BC B : St} (hT : atx n L e c BC B) {ms dv ls : Bool} {sg vl : Nat} {PL : Nat → Int32} {fr to : Nat} {nm : Int32} (hs : sg + 1 < 32800) {p q2 : Nat} {x2 : Int32} (he : q2 + 2 ≤ e) (y : Nat) (hy : (y = 13 ∧ c q2 = 104 ∧ c (q2 + 1) = 105) ∨ (y = 14 ∧ c q2 = 108 ∧ c (q2 + 1) = 111)) (T : df_X13_scan n (uR (xR B 0 ms dv ls sg vl PL) p 37 fr to nm) = some (uR (xR B 0 ms dv ls sg vl PL) (q2 + 2) 1 q2 (q2 + 2) x2)) : df_X13_operand n (uR (xR B 0 ms dv ls sg vl PL) p 37 fr to nm) = df_X13_operand_216 n (nI (uo y)) (uR (xR B 0 ms dv ls sg vl PL) (q2 + 2) 1 q2 (q2 + 2) x2) := by
  obtain ⟨hn, hL, heL, h127, hend, hce, hO, hst, htC, h0, htR, hch⟩ := id hT
  unfold df_X13_operand df_X13_operand_0
  rw [uR_i8, if_neg (show ¬ nI 37 = (1 : Int32) by decide), if_neg (show ¬ nI 37 = (2 : Int32) by decide), if_neg (show ¬ nI 37 = (3 : Int32) by decide), if_pos (show nI 37 = (37 : Int32) from rfl), T, nb_b1, uR_i8, if_pos (show nI 1 = (1 : Int32) from rfl), uR_i9, uR_i10]
  have pl : ∀ i : Nat, i < 2 → aP (c (q2 + i)) = true ∧ sR (uR (xR B 0 ms dv ls sg vl PL) (q2 + 2) 1 q2 (q2 + 2) x2) 2 (q2 + i) = nI (c (q2 + i)) := fun i hi => by
    refine ⟨?_, htR _ (by omega)⟩
    have ci : i = 0 ∨ i = 1 := by omega
    rcases hy with ⟨_, u, w⟩ | ⟨_, u, w⟩ <;> rcases ci with z | z <;> subst z
    · rw [Nat.add_zero, u]; decide
    · rw [w]; decide
    · rw [Nat.add_zero, u]; decide
    · rw [w]; decide
  have pk := pk_1 n (S := (uR (xR B 0 ms dv ls sg vl PL) (q2 + 2) 1 q2 (q2 + 2) x2)) (c := c) q2 2 (by omega) h127 (by omega) pl
  rw [pk, nb_b2]
  have k1 := pq_2 (c := c) q2 2 104 105 584 (by decide) (by decide) (by decide) h127
  have k2 := pq_2 (c := c) q2 2 108 111 972 (by decide) (by decide) (by decide) h127
  unfold df_X13_operand_180 df_X13_operand_202
  rcases hy with ⟨e1, u, w⟩ | ⟨e1, u, w⟩
  · subst e1
    rw [if_pos (k1.mpr ⟨rfl, u, w⟩), if_pos (k1.mpr ⟨rfl, u, w⟩)]
    rfl
  · subst e1
    have nk : ¬ lg_cmp (pkO c q2 2) 584 = 0 := fun z => by have := k1.mp z; omega
    rw [if_neg nk, if_pos (k2.mpr ⟨rfl, u, w⟩), if_neg nk]
    rfl

/-- a bracket of %hi or %lo -/
theorem jP_1 (n L e : Nat) (c : Nat → Nat) (BC : St) (C0 A0 : Nat → Int32) (s0 : Nat) (N : Nat) {BR0 : St} (hT0 : atx n L e c BC BR0) (hA : clA n L e c BC C0 A0 s0 N) (p q p' v : Nat) (x : Int32) (l : List Nat) (m : Nat) (P : Nat → Tp) (ns : Nat) (fx : Bool) (C A S NM BK : Nat → Int32) (bs ws : Nat → Nat) (k g : Nat) (x1 : Int32) (hN : e - p < N + 1) (hT : TS n L e c BC p q p' 5 37 v x) (hE : EC L e c BC C0 A0 s0 p m ns l P fx C A S NM BK bs ws) (h2 : (flat l).length + nbS l ≤ p) (hns : 2 * ns ≤ p) (hk : e - p + 1 ≤ k + 2) (hk2 : k < 2 ^ 20) (hg : e - p + 3 ≤ g + 2) (qa va : Nat) (xa : Int32) (y : Nat) (hy : (y = 13 ∧ c qa = 104 ∧ c (qa + 1) = 105) ∨ (y = 14 ∧ c qa = 108 ∧ c (qa + 1) = 111)) (hTa : TS n L e c BC p' qa (qa + 2) 1 1 va xa) (qb pb κb τb vb : Nat) (xb : Int32) (hTb : TS n L e c BC (qa + 2) qb pb κb τb vb xb) : ∃ (ok : Bool) (p2 q2 p2' κ2 τ2 v2 : Nat) (x2 : Int32) (m2 : Nat) (P2 : Nat → Tp) (ns2 : Nat) (fx2 : Bool) (C2 A2 S2 NM2 BK2 : Nat → Int32) (bs2 ws2 : Nat → Nat) (tp2 : Nat), df_X9_sum_26 n g x1 (nI k) (uC (xC BC (s0 + m) l.length (if y = 13 then 3 else 4) ns fx C A S NM BK) pb κb qb xb) = some (if ok = true then x1 else -1, (uC (xC BC (s0 + m2 + 1) tp2 (if ok = true then 5 else 6) ns2 fx2 C2 A2 S2 NM2 BK2) p2' κ2 q2 x2)) ∧ PS ns NM bs ws ns2 NM2 bs2 ws2 ∧ HTS n L e c BC ns2 NM2 BK2 bs2 ws2 q2 p2' κ2 x2 ∧ (ok = true → TS n L e c BC p2 q2 p2' κ2 τ2 v2 x2 ∧ p ≤ p2 ∧ CR (sR BC 5) c e C0 A0 s0 ns2 bs2 ws2 m2 P2 C2 A2 ∧ C2 (s0 + m2) = 21 ∧ (fx2 = true ↔ fxQ c e bs2 ws2 NM2 ns2 m2 P2) ∧ s0 + m2 ≤ p2 ∧ 2 * ns2 ≤ p2 + 1 ∧ 0 < m2) ∧ RO n L e c BC p ok p2 m2 P2 true l m P (nbS l) := by
  obtain ⟨hn, hL, heL, h127, hend, hce, hO, hst, htC, h0, htR, hch⟩ := id hT0
  obtain ⟨t1, t2, t3, t4, t5, t6, t7, t8, t9⟩ := id hT
  obtain ⟨E1, E2, E3, E4, E5, E6⟩ := id hE
  obtain ⟨u1, u2, u3, u4, u5, u6, u7, u8, u9⟩ := id hTa
  obtain ⟨w1, w2, w3, w4, w5, w6, w7, w8, w9⟩ := id hTb
  obtain ⟨q1, q2⟩ := t6 (by decide)
  have κb6 : κb ≤ 6 := by unfold tkK at w7; omega
  have y14 : y = 13 ∨ y = 14 := by omega
  have hc : df_X9_takeHalf n (uC (xC BC (s0 + m) l.length (if y = 13 then 3 else 4) ns fx C A S NM BK) pb κb qb xb) = some (uC (xC BC (s0 + m) (l.length + 1) (if decide (κb = 5 ∧ xb = 40) = true then 0 else 6) ns fx C A (upd S l.length (nI y)) NM BK) pb κb qb xb) := by
    have h := xh_2 (n := n) (B := BC) (cs := s0 + m) (tp := l.length) (st := if y = 13 then 3 else 4) (ns := ns) (fx := fx) (C := C) (A := A) (S := S) (NM := NM) (BK := BK) (ap := pb) (kd := κb) (fr := qb) (nm := xb) (by omega) κb6 (by split <;> omega)
    have e0 : (if (if y = 13 then 3 else 4) = 3 then (13 : Int32) else 14) = nI y := by
      rcases y14 with z | z <;> subst z <;> rfl
    rw [e0] at h
    exact h
  have τb3 : τb < 300 ∧ (τb = 40 ↔ (κb = 5 ∧ xb = 40)) := by
    by_cases z : κb = 5
    · subst z
      have h5 := tk_5 w7
      have hx := w8 (Or.inr (Or.inr rfl))
      refine ⟨by omega, fun z => ⟨rfl, ?_⟩, fun z => ?_⟩
      · rw [hx, show vb = 40 by omega]; rfl
      · have z2 := z.2
        rw [hx] at z2
        have z2 : nI vb = nI 40 := z2
        rw [nI_eq (by omega) (by omega)] at z2
        omega
    · have := (tk_n w7 z).1
      exact ⟨by omega, fun u => by omega, fun u => absurd u.1 z⟩
  have s7 : ∀ (s : Nat), s = (if y = 13 then 3 else 4) → (¬ nI s = (5 : Int32)) ∧ (¬ nI s = (6 : Int32)) ∧ (¬ nI s = (0 : Int32)) ∧ (¬ nI s = (1 : Int32)) := fun s hs => by
    subst hs
    rcases y14 with z | z <;> subst z <;> decide
  obtain ⟨s71, s72, s73, s74⟩ := s7 _ rfl
  have refO : ∀ (B : St), atx n L e c BC B → ∀ (vs : List Int32) (ms dv ls : Bool) (PL : Nat → Int32) (xr : Int32), (flat l).length + 1 < 32800 → ∃ (p3 : Nat) (x3 : Int32), (p3 = pb ∨ (τb = 5 ∧ p3 = qb)) ∧ df_X13_operand n (uR (xR B 0 ms dv ls (flat l).length (32800 - vs.length) PL) p' 37 q p' xr) = if τb = 40 then some (0, (uR (xR B 0 ms dv ls ((flat l).length + 1 + 1) (32800 - vs.length) (upd (upd PL (flat l).length (nI (uo y))) ((flat l).length + 1) 1)) p3 τb qb p3 x3)) else some (0, (uR (xR B (1 + 16 * sI B 13) ms dv ls ((flat l).length + 1) (32800 - vs.length) (upd PL (flat l).length (nI (uo y)))) p3 τb qb p3 x3)) := fun B hTB vs ms dv ls PL xr hl => by
    obtain ⟨xr2, p2r, s1, s2, s3⟩ := u9 (xR B 0 ms dv ls (flat l).length (32800 - vs.length) PL) (at_R hTB) 37 q p' xr
    have e2 : p2r = qa + 2 := by omega
    subst e2
    obtain ⟨xr3, p3r, z1, z2, z3⟩ := w9 (xR B 0 ms dv ls ((flat l).length + 1) (32800 - vs.length) (upd PL (flat l).length (nI (uo y)))) (at_R hTB) 1 qa (qa + 2) xr2
    have r1 := roP_1 (n := n) (BC := BC) (B := B) hTB (ms := ms) (dv := dv) (ls := ls) (sg := (flat l).length) (vl := 32800 - vs.length) (PL := PL) (fr := q) (to := p') (nm := xr) hl (p := p') (q2 := qa) (x2 := xr2) (by omega) y hy s1
    have r2 := p216 (n := n) (B := B) (ft := 0) (ms := ms) (dv := dv) (ls := ls) (sg := (flat l).length) (vl := 32800 - vs.length) (PL := PL) (ap := qa + 2) (tk := 1) (fr := qa) (to := qa + 2) (nm := xr2) (uo y) hl τb3.1 z1
    rw [if_pos rfl] at r2
    exact ⟨p3r, xr3, z2, r1.trans r2⟩
  by_cases br : τb = 40
  · have dec : decide (κb = 5 ∧ xb = 40) = true := decide_eq_true (τb3.2.mp br)
    rw [dec] at hc
    have hc : df_X9_takeHalf n (uC (xC BC (s0 + m) l.length (if y = 13 then 3 else 4) ns fx C A S NM BK) pb κb qb xb) = some (uC (xC BC (s0 + m) (l.length + 1) 0 ns fx C A (upd S l.length (nI y)) NM BK) pb κb qb xb) := hc
    have κb0 : ¬ κb = 0 := fun z => by have := (τb3.2.mp br).1; omega
    obtain ⟨v1, v2'⟩ := w6 κb0
    obtain ⟨qn, pn, κn, τn, vn, xn, n1, n2⟩ := nx_1 hT0 (cs := s0 + m) (tp := l.length + 1) (st := 0) (ns := ns) (fx := fx) (C := C) (A := A) (S := upd S l.length (nI y)) (NM := NM) (BK := BK) pb κb qb xb w5 (fun i i1 i2 => t2 i (by omega) i2)
    obtain ⟨g, rfl⟩ : ∃ j : Nat, g = j + 1 := ⟨g - 1, by omega⟩
    obtain ⟨k, rfl⟩ : ∃ j : Nat, k = j + 1 := ⟨k - 1, by omega⟩
    have st := su_n (n := n) (g := g) (x1 := x1) k (by omega) (s := (uC (xC BC (s0 + m) l.length (if y = 13 then 3 else 4) ns fx C A S NM BK) pb κb qb xb)) (s' := (uC (xC BC (s0 + m) (l.length + 1) 0 ns fx C A (upd S l.length (nI y)) NM BK) pb κb qb xb)) s71 s72 ((if_neg s73).trans ((if_neg s74).trans hc)) (show ¬ nI 0 = (5 : Int32) by decide) (show ¬ nI 0 = (6 : Int32) by decide) n1
    have fl : flat (y :: l) = sgO y :: uo y :: flat l := by show sgO y :: (if y = 13 ∨ y = 14 then uo y :: flat l else flat l) = _; rw [if_pos y14]
    have fll : (flat (y :: l)).length = (flat l).length + 1 + 1 := by rw [fl]; rfl
    have nbl : nbS (y :: l) = nbS l := by show (if y ≤ 10 then 1 else 0) + nbS l = _; rw [if_neg (by omega), Nat.zero_add]
    have bkl : bkS (y :: l) = bkS l + 1 := by show (if 13 ≤ y then 1 else 0) + bkS l = _; rw [if_pos (by omega), Nat.add_comm]
    have sg1 : sgO y = 1 := by rcases y14 with z | z <;> subst z <;> rfl
    obtain ⟨ok, p2, q2', p2', κ2, τ2, v2, x2, m2, P2, ns2, fx2, C2, A2, S2, NM2, BK2, bs2, ws2, tp2, r1, r2, r3, r4, r5⟩ := hA pb qn pn κn τn vn xn (y :: l) m P ns fx C A (upd S l.length (nI y)) NM BK bs ws k g x1 (by omega) n2 ⟨⟨by omega, fun z => absurd z (by omega), E1⟩, stk_p y E2, E3, E4, E5, by show s0 + m + (l.length + 1) ≤ pb; omega⟩ (by rw [fll, nbl]; omega) (by omega) (by omega) (by omega) (by omega)
    refine ⟨ok, p2, q2', p2', κ2, τ2, v2, x2, m2, P2, ns2, fx2, C2, A2, S2, NM2, BK2, bs2, ws2, tp2, st.trans r1, r2, r3, fun z => ?_, ?_⟩
    · obtain ⟨a1, a2, a3⟩ := r4 z
      exact ⟨a1, by omega, a3⟩
    · intro B V lo hTB hV hln vs ms dv ls PL tk fr to nm gr hER hvl hgr
      obtain ⟨gr, rfl⟩ : ∃ j : Nat, gr = j + 1 := ⟨gr - 1, by omega⟩
      obtain ⟨xr, p3, s1, s2, s3⟩ := t9 (xR B 0 ms dv ls (flat l).length (32800 - vs.length) PL) (at_R hTB) tk fr to nm
      have p3e : p3 = p' := by omega
      subst p3e
      obtain ⟨R1, R2, R3, R4⟩ := hER
      obtain ⟨pr, xr3, b1, b2⟩ := refO B hTB vs ms dv ls PL xr (by omega)
      rw [if_pos br] at b2
      have pre : pr = pb := by omega
      subst pre
      have e1 := e33_1 (n := n) (g := gr) (x1 := nI (bkS l)) (K := (uR (xR B 0 ms dv ls (flat l).length (32800 - vs.length) PL) p tk fr to nm)) (s24 := (uR (xR B 0 ms dv ls (flat l).length (32800 - vs.length) PL) p3 37 q p3 xr)) (τ := 37) rfl s1 rfl (by omega)
      have e2 := e81_1 (n := n) (op := bkS l) (G := df_X13_expression_33 n gr) (y := decide (37 = 40 ∨ 37 = 37)) (r := false) (s := (uR (xR B 0 ms dv ls (flat l).length (32800 - vs.length) PL) p3 37 q p3 xr)) b2
      obtain ⟨w, ft2, ms2, dv2, ls2, sg2, vl2, PL2, ap2, tk2, fr2, to2, nm2, z1, z2, z3, z4⟩ := r5 B V lo hTB hV hln vs ms dv ls (upd (upd PL (flat l).length (nI (uo y))) ((flat l).length + 1) 1) τb qb pr xr3 gr ⟨by
        rw [fl, sg1]
        exact stk_p (l := uo y :: flat l) 1 (stk_p (uo y) R1), vst_u _ _ (by omega) (vst_u _ _ (by omega) R2), R3, R4⟩ (by omega) (by omega)
      refine ⟨w, ft2, ms2, dv2, ls2, sg2, vl2, PL2, ap2, tk2, fr2, to2, nm2, ?_, z2, z3, z4⟩
      refine Eq.trans e1 (Eq.trans e2 ?_)
      rw [fll, bkl] at z1
      exact z1
  · have dec : decide (κb = 5 ∧ xb = 40) = false := decide_eq_false (fun z => br (τb3.2.mpr z))
    rw [dec] at hc
    have hc : df_X9_takeHalf n (uC (xC BC (s0 + m) l.length (if y = 13 then 3 else 4) ns fx C A S NM BK) pb κb qb xb) = some (uC (xC BC (s0 + m) (l.length + 1) 6 ns fx C A (upd S l.length (nI y)) NM BK) pb κb qb xb) := hc
    obtain ⟨g, rfl⟩ : ∃ j : Nat, g = j + 1 + 1 := ⟨g - 2, by omega⟩
    obtain ⟨k, rfl⟩ : ∃ j : Nat, k = j + 1 := ⟨k - 1, by omega⟩
    have st := su_e (n := n) (g := g) (x1 := x1) k (by omega) (s := (uC (xC BC (s0 + m) l.length (if y = 13 then 3 else 4) ns fx C A S NM BK) pb κb qb xb)) (s' := (uC (xC BC (s0 + m) (l.length + 1) 6 ns fx C A (upd S l.length (nI y)) NM BK) pb κb qb xb)) s71 s72 ((if_neg s73).trans ((if_neg s74).trans hc)) (Or.inr (show nI 6 = (6 : Int32) from rfl))
    have sz := su_z (n := n) (B := BC) (cs := s0 + m) (tp := l.length + 1) (st := 6) (ns := ns) (fx := fx) (C := C) (A := A) (S := upd S l.length (nI y)) (NM := NM) (BK := BK) (ap := pb) (kd := κb) (fr := qb) (nm := xb) x1 (by omega) (Or.inr rfl)
    refine ⟨false, 0, qb, pb, κb, 0, 0, xb, m, P, ns, fx, _, _, _, NM, BK, bs, ws, l.length + 1, st.trans sz, PS_r, ⟨E4, qa + 2, τb, vb, hTb⟩, fun z => absurd z (by decide), ?_⟩
    intro B V lo hTB hV hln vs ms dv ls PL tk fr to nm gr hER hvl hgr
    obtain ⟨gr, rfl⟩ : ∃ j : Nat, gr = j + 1 + 1 := ⟨gr - 2, by omega⟩
    obtain ⟨xr, p3, s1, s2, s3⟩ := t9 (xR B 0 ms dv ls (flat l).length (32800 - vs.length) PL) (at_R hTB) tk fr to nm
    have p3e : p3 = p' := by omega
    subst p3e
    obtain ⟨ln, l1, l2⟩ := hln
    obtain ⟨pr, xr3, b1, b2⟩ := refO B hTB vs ms dv ls PL xr (by omega)
    rw [if_neg br] at b2
    have e1 := e33_1 (n := n) (g := gr + 1) (x1 := nI (bkS l)) (K := (uR (xR B 0 ms dv ls (flat l).length (32800 - vs.length) PL) p tk fr to nm)) (s24 := (uR (xR B 0 ms dv ls (flat l).length (32800 - vs.length) PL) p3 37 q p3 xr)) (τ := 37) rfl s1 rfl (by omega)
    have e2 := e81_1 (n := n) (op := bkS l) (G := df_X13_expression_33 n (gr + 1)) (y := decide (37 = 40 ∨ 37 = 37)) (r := false) (s := (uR (xR B 0 ms dv ls (flat l).length (32800 - vs.length) PL) p3 37 q p3 xr)) b2
    exact ⟨0, 1 + 16 * sI B 13, ms, dv, ls, (flat l).length + 1, 32800 - vs.length, _, pr, τb, qb, pr, xr3, e1.trans (e2.trans (ef_1 hn gr _ _ _ (f1_n l2 l1))), by omega, fun z => absurd z (by decide), fun _ => rfl⟩
/-- %hi and %lo, in both -/
theorem jA_P (n L e : Nat) (c : Nat → Nat) (BC : St) (C0 A0 : Nat → Int32) (s0 : Nat) (N : Nat) {BR0 : St} (hT0 : atx n L e c BC BR0) (hA : clA n L e c BC C0 A0 s0 N) (p q p' κ τ v : Nat) (x : Int32) (l : List Nat) (m : Nat) (P : Nat → Tp) (ns : Nat) (fx : Bool) (C A S NM BK : Nat → Int32) (bs ws : Nat → Nat) (k g : Nat) (x1 : Int32) (hN : e - p < N + 1) (hT : TS n L e c BC p q p' κ τ v x) (hE : EC L e c BC C0 A0 s0 p m ns l P fx C A S NM BK bs ws) (h2 : (flat l).length + nbS l ≤ p) (hns : 2 * ns ≤ p) (hk : e - p + 1 ≤ k) (hk2 : k < 2 ^ 20) (hg : e - p + 3 ≤ g) (hκ : κ = 5) (hv : v = 37) : ∃ (ok : Bool) (p2 q2 p2' κ2 τ2 v2 : Nat) (x2 : Int32) (m2 : Nat) (P2 : Nat → Tp) (ns2 : Nat) (fx2 : Bool) (C2 A2 S2 NM2 BK2 : Nat → Int32) (bs2 ws2 : Nat → Nat) (tp2 : Nat), df_X9_sum_26 n g x1 (nI k) (uC (xC BC (s0 + m) l.length 0 ns fx C A S NM BK) p' κ q x) = some (if ok = true then x1 else -1, (uC (xC BC (s0 + m2 + 1) tp2 (if ok = true then 5 else 6) ns2 fx2 C2 A2 S2 NM2 BK2) p2' κ2 q2 x2)) ∧ PS ns NM bs ws ns2 NM2 bs2 ws2 ∧ HTS n L e c BC ns2 NM2 BK2 bs2 ws2 q2 p2' κ2 x2 ∧ (ok = true → TS n L e c BC p2 q2 p2' κ2 τ2 v2 x2 ∧ p ≤ p2 ∧ CR (sR BC 5) c e C0 A0 s0 ns2 bs2 ws2 m2 P2 C2 A2 ∧ C2 (s0 + m2) = 21 ∧ (fx2 = true ↔ fxQ c e bs2 ws2 NM2 ns2 m2 P2) ∧ s0 + m2 ≤ p2 ∧ 2 * ns2 ≤ p2 + 1 ∧ 0 < m2) ∧ RO n L e c BC p ok p2 m2 P2 true l m P (nbS l) := by
  obtain ⟨hn, hL, heL, h127, hend, hce, hO, hst, htC, h0, htR, hch⟩ := id hT0
  obtain ⟨t1, t2, t3, t4, t5, t6, t7, t8, t9⟩ := id hT
  obtain ⟨E1, E2, E3, E4, E5, E6⟩ := id hE
  subst hκ
  have hx : x = nI v := t8 (Or.inr (Or.inr rfl))
  have h5 := tk_5 t7
  have hτ : τ = 37 := by omega
  subst hv
  subst hτ
  subst hx
  obtain ⟨q1, q2⟩ := t6 (by decide)
  have hc : df_X9_takeOperand n (uC (xC BC (s0 + m) l.length 0 ns fx C A S NM BK) p' 5 q (nI 37)) = some (uC (xC BC (s0 + m) l.length 2 ns fx C A S NM BK) p' 5 q (nI 37)) := by
    have h := xd_X (n := n) (B := BC) (cs := s0 + m) (tp := l.length) (st := 0) (ns := ns) (fx := fx) (C := C) (A := A) (S := S) (NM := NM) (BK := BK) (ap := p') (kd := 5) (fr := q) (nm := nI 37) (Or.inr (Or.inr (Or.inr ⟨rfl, 37, by omega, rfl, by omega, by omega, by omega⟩)))
    rw [if_pos ⟨rfl, rfl⟩] at h
    exact h
  obtain ⟨qa, pa, κa, τa, va, xa, n1, n2⟩ := nx_1 hT0 (cs := s0 + m) (tp := l.length) (st := 2) (ns := ns) (fx := fx) (C := C) (A := A) (S := S) (NM := NM) (BK := BK) p' 5 q (nI 37) t5 (fun i i1 i2 => t2 i (by omega) i2)
  obtain ⟨u1, u2, u3, u4, u5, u6, u7, u8, u9⟩ := id n2
  obtain ⟨g, rfl⟩ : ∃ j : Nat, g = j + 1 := ⟨g - 1, by omega⟩
  obtain ⟨k, rfl⟩ : ∃ j : Nat, k = j + 1 := ⟨k - 1, by omega⟩
  have st := su_n (n := n) (g := g) (x1 := x1) k (by omega) (s := (uC (xC BC (s0 + m) l.length 0 ns fx C A S NM BK) p' 5 q (nI 37))) (s' := (uC (xC BC (s0 + m) l.length 2 ns fx C A S NM BK) p' 5 q (nI 37))) (show ¬ nI 0 = (5 : Int32) by decide) (show ¬ nI 0 = (6 : Int32) by decide) ((if_pos (show nI 0 = (0 : Int32) from rfl)).trans hc) (show ¬ nI 2 = (5 : Int32) by decide) (show ¬ nI 2 = (6 : Int32) by decide) n1
  have κa6 : κa ≤ 6 := by unfold tkK at u7; omega
  obtain ⟨wa, ea⟩ : ∃ w : Nat, pa = qa + w := ⟨pa - qa, by omega⟩
  subst ea
  have hh := xh_1 (n := n) (L := L) (e := e) (c := c) (B := BC) (BR := BR0) (cs := s0 + m) (tp := l.length) (ns := ns) (fx := fx) (C := C) (A := A) (S := S) (NM := NM) (BK := BK) (fr := qa) (l := wa) (kd := κa) (nm := xa) hT0 κa6 (by omega)
  by_cases good : κa = 1 ∧ wa = 2 ∧ ((c qa = 104 ∧ c (qa + 1) = 105) ∨ (c qa = 108 ∧ c (qa + 1) = 111))
  · obtain ⟨g1, g2, g3⟩ := good
    subst g1
    subst g2
    obtain ⟨y, hy, hst⟩ : ∃ y : Nat, ((y = 13 ∧ c qa = 104 ∧ c (qa + 1) = 105) ∨ (y = 14 ∧ c qa = 108 ∧ c (qa + 1) = 111)) ∧ (if 1 = 1 ∧ 2 = 2 ∧ c qa = 104 ∧ c (qa + 1) = 105 then 3 else if 1 = 1 ∧ 2 = 2 ∧ c qa = 108 ∧ c (qa + 1) = 111 then 4 else 6) = (if y = 13 then 3 else 4) := by
      rcases g3 with z | z
      · exact ⟨13, Or.inl ⟨rfl, z⟩, by rw [if_pos ⟨rfl, rfl, z⟩]; rfl⟩
      · exact ⟨14, Or.inr ⟨rfl, z⟩, by rw [if_neg (by omega), if_pos ⟨rfl, rfl, z⟩]; rfl⟩
    rw [hst] at hh
    have τa1 : τa = 1 := ((tk_n u7 (by decide)).2.1).mpr rfl
    subst τa1
    obtain ⟨qb, pb, κb, τb, vb, xb, m1, m2'⟩ := nx_1 hT0 (cs := s0 + m) (tp := l.length) (st := if y = 13 then 3 else 4) (ns := ns) (fx := fx) (C := C) (A := A) (S := S) (NM := NM) (BK := BK) (qa + 2) 1 qa xa u5 (fun i i1 i2 => t2 i (by omega) i2)
    obtain ⟨g, rfl⟩ : ∃ j : Nat, g = j + 1 := ⟨g - 1, by omega⟩
    obtain ⟨k, rfl⟩ : ∃ j : Nat, k = j + 1 := ⟨k - 1, by omega⟩
    have y14 : y = 13 ∨ y = 14 := by omega
    have st2 := su_n (n := n) (g := g) (x1 := x1) k (by omega) (s := (uC (xC BC (s0 + m) l.length 2 ns fx C A S NM BK) (qa + 2) 1 qa xa)) (s' := (uC (xC BC (s0 + m) l.length (if y = 13 then 3 else 4) ns fx C A S NM BK) (qa + 2) 1 qa xa)) (show ¬ nI 2 = (5 : Int32) by decide) (show ¬ nI 2 = (6 : Int32) by decide) ((if_neg (show ¬ nI 2 = (0 : Int32) by decide)).trans ((if_neg (show ¬ nI 2 = (1 : Int32) by decide)).trans hh)) (show ¬ nI (if y = 13 then 3 else 4) = (5 : Int32) by rcases y14 with z | z <;> subst z <;> decide) (show ¬ nI (if y = 13 then 3 else 4) = (6 : Int32) by rcases y14 with z | z <;> subst z <;> decide) m1
    obtain ⟨ok, p2, q2', p2', κ2, τ2, v2, x2, m2, P2, ns2, fx2, C2, A2, S2, NM2, BK2, bs2, ws2, tp2, r1, r2⟩ := jP_1 n L e c BC C0 A0 s0 N hT0 hA p q p' 37 (nI 37) l m P ns fx C A S NM BK bs ws k g x1 hN hT hE h2 hns (by omega) (by omega) (by omega) qa va xa y hy n2 qb pb κb τb vb xb m2'
    exact ⟨ok, p2, q2', p2', κ2, τ2, v2, x2, m2, P2, ns2, fx2, C2, A2, S2, NM2, BK2, bs2, ws2, tp2, st.trans (st2.trans r1), r2⟩
  · rw [if_neg (show ¬ (κa = 1 ∧ wa = 2 ∧ c qa = 104 ∧ c (qa + 1) = 105) from fun z => good ⟨z.1, z.2.1, Or.inl z.2.2⟩), if_neg (show ¬ (κa = 1 ∧ wa = 2 ∧ c qa = 108 ∧ c (qa + 1) = 111) from fun z => good ⟨z.1, z.2.1, Or.inr z.2.2⟩)] at hh
    obtain ⟨g, rfl⟩ : ∃ j : Nat, g = j + 1 + 1 := ⟨g - 2, by omega⟩
    obtain ⟨k, rfl⟩ : ∃ j : Nat, k = j + 1 := ⟨k - 1, by omega⟩
    have st2 := su_e (n := n) (g := g) (x1 := x1) k (by omega) (s := (uC (xC BC (s0 + m) l.length 2 ns fx C A S NM BK) (qa + wa) κa qa xa)) (s' := (uC (xC BC (s0 + m) l.length 6 ns fx C A S NM BK) (qa + wa) κa qa xa)) (show ¬ nI 2 = (5 : Int32) by decide) (show ¬ nI 2 = (6 : Int32) by decide) ((if_neg (show ¬ nI 2 = (0 : Int32) by decide)).trans ((if_neg (show ¬ nI 2 = (1 : Int32) by decide)).trans hh)) (Or.inr (show nI 6 = (6 : Int32) from rfl))
    have sz := su_z (n := n) (B := BC) (cs := s0 + m) (tp := l.length) (st := 6) (ns := ns) (fx := fx) (C := C) (A := A) (S := S) (NM := NM) (BK := BK) (ap := qa + wa) (kd := κa) (fr := qa) (nm := xa) x1 (by omega) (Or.inr rfl)
    refine ⟨false, 0, qa, qa + wa, κa, 0, 0, xa, m, P, ns, fx, _, _, S, NM, BK, bs, ws, l.length, st.trans (st2.trans sz), PS_r, ⟨E4, p', τa, va, n2⟩, fun z => absurd z (by decide), ?_⟩
    intro B V lo hTB hV hln vs ms dv ls PL tk fr to nm gr hER hvl hgr
    obtain ⟨gr, rfl⟩ : ∃ j : Nat, gr = j + 1 + 1 := ⟨gr - 2, by omega⟩
    obtain ⟨xr, p3, s1, s2, s3⟩ := t9 (xR B 0 ms dv ls (flat l).length (32800 - vs.length) PL) (at_R hTB) tk fr to nm
    have p3e : p3 = p' := by omega
    subst p3e
    obtain ⟨ln, l1, l2⟩ := id hln
    obtain ⟨xr2, p2r, z1, z2, z3⟩ := u9 (xR B 0 ms dv ls (flat l).length (32800 - vs.length) PL) (at_R hTB) 37 q p3 xr
    have τa3 : τa < 300 := by
      by_cases y : κa = 5
      · subst y
        have := tk_5 u7
        omega
      · have := (tk_n u7 y).1
        omega
    obtain ⟨sg', PL', pr, τr, qr, xr3, b1, b2⟩ := roP_F (n := n) (L := L) (e := e) (c := c) (BC := BC) (B := B) hTB (ms := ms) (dv := dv) (ls := ls) (sg := (flat l).length) (vl := 32800 - vs.length) (PL := PL) (fr := q) (to := p3) (nm := xr) (by omega) hln (p := p3) (p2 := p2r) (τ2 := τa) (q2 := qa) (x2 := xr2) (by omega) τa3 (fun i i1 i2 => t2 i (by omega) i2) z1 (fun y => by
      have κa1 : κa = 1 := by
        by_cases y5 : κa = 5
        · subst y5
          have := tk_5 u7
          omega
        · exact ((tk_n u7 y5).2.1).mp y
      subst κa1
      have pe : p2r = qa + wa := by omega
      have ew : qa + wa = eT c e qa := by
        unfold tkK at u7
        omega
      have lt := u6 (by decide)
      refine ⟨by omega, by omega, fun i i1 i2 => (eT_1 c (show qa ≤ e by omega)).2.2.2 i i1 (by omega), fun w => good ⟨rfl, by omega, Or.inl w.2⟩, fun w => good ⟨rfl, by omega, Or.inr w.2⟩⟩)
    have e1 := e33_1 (n := n) (g := gr + 1) (x1 := nI (bkS l)) (K := (uR (xR B 0 ms dv ls (flat l).length (32800 - vs.length) PL) p tk fr to nm)) (s24 := (uR (xR B 0 ms dv ls (flat l).length (32800 - vs.length) PL) p3 37 q p3 xr)) (τ := 37) rfl s1 rfl (by omega)
    have e2 := e81_1 (n := n) (op := bkS l) (G := df_X13_expression_33 n (gr + 1)) (y := decide (37 = 40 ∨ 37 = 37)) (r := false) (s := (uR (xR B 0 ms dv ls (flat l).length (32800 - vs.length) PL) p3 37 q p3 xr)) b1
    exact ⟨0, 1 + 16 * sI B 13, ms, dv, ls, sg', 32800 - vs.length, PL', pr, τr, qr, pr, xr3, e1.trans (e2.trans (ef_1 hn gr _ _ _ (f1_n l2 l1))), b2, fun z => absurd z (by decide), fun _ => rfl⟩
/-- every expression, from every place -/
theorem ex_N (n L e : Nat) (c : Nat → Nat) (BC : St) (C0 A0 : Nat → Int32) (s0 : Nat) {BR0 : St} (hT0 : atx n L e c BC BR0) : ∀ N : Nat, clA n L e c BC C0 A0 s0 N ∧ clB n L e c BC C0 A0 s0 N := fun N => by
  induction N with
  | zero => exact ⟨fun p q p' κ τ v x l m P ns fx C A S NM BK bs ws k g x1 h => absurd h (Nat.not_lt_zero _), fun p q p' κ τ v x l m P ns fx C A S NM BK bs ws k g x1 h => absurd h (Nat.not_lt_zero _)⟩
  | succ N ih =>
    obtain ⟨hA, hB⟩ := ih
    constructor
    · intro p q p' κ τ v x l m P ns fx C A S NM BK bs ws k g x1 hN hT hE h2 hns hk hk2 hg
      have k6 : κ ≤ 6 := by
        have t7 := hT.2.2.2.2.2.2.1
        unfold tkK at t7
        omega
      by_cases y1 : κ = 1
      · exact jA_1 n L e c BC C0 A0 s0 N hT0 hB p q p' κ τ v x l m P ns fx C A S NM BK bs ws k g x1 hN hT hE h2 hns hk hk2 hg y1
      by_cases y2 : κ = 2
      · exact jA_2 n L e c BC C0 A0 s0 N hT0 hB p q p' κ τ v x l m P ns fx C A S NM BK bs ws k g x1 hN hT hE h2 hns hk hk2 hg y2
      by_cases y3 : κ = 3
      · exact jA_3 n L e c BC C0 A0 s0 N hT0 hB p q p' κ τ v x l m P ns fx C A S NM BK bs ws k g x1 hN hT hE h2 hns hk hk2 hg y3
      by_cases y5 : κ = 5
      · by_cases z1 : v = 45
        · exact jA_s45 n L e c BC C0 A0 s0 N hT0 hA p q p' κ τ v x l m P ns fx C A S NM BK bs ws k g x1 hN hT hE h2 hns hk hk2 hg y5 z1
        by_cases z2 : v = 126
        · exact jA_s126 n L e c BC C0 A0 s0 N hT0 hA p q p' κ τ v x l m P ns fx C A S NM BK bs ws k g x1 hN hT hE h2 hns hk hk2 hg y5 z2
        by_cases z3 : v = 40
        · exact jA_s40 n L e c BC C0 A0 s0 N hT0 hA p q p' κ τ v x l m P ns fx C A S NM BK bs ws k g x1 hN hT hE h2 hns hk hk2 hg y5 z3
        by_cases z4 : v = 37
        · exact jA_P n L e c BC C0 A0 s0 N hT0 hA p q p' κ τ v x l m P ns fx C A S NM BK bs ws k g x1 hN hT hE h2 hns hk hk2 hg y5 z4
        exact jA_X n L e c BC C0 A0 s0 N hT0 p q p' κ τ v x l m P ns fx C A S NM BK bs ws k g x1 hN hT hE h2 hns hk hk2 hg (Or.inr (Or.inr (Or.inr ⟨y5, z1, z2, z3, z4⟩)))
      · exact jA_X n L e c BC C0 A0 s0 N hT0 p q p' κ τ v x l m P ns fx C A S NM BK bs ws k g x1 hN hT hE h2 hns hk hk2 hg (by omega)
    · intro p q p' κ τ v x l m P ns fx C A S NM BK bs ws k g x1 hN hT hE h2 hns hm hk hk2 hg
      by_cases y : κ = 5 ∧ 0 < bnO v
      · exact jB_B n L e c BC C0 A0 s0 N hT0 hA p q p' κ τ v x l m P ns fx C A S NM BK bs ws k g x1 hN hT hE h2 hns hm hk hk2 hg y.1 y.2
      have hnb : κ = 5 → bnO v = 0 := fun z => by
        have : ¬ 0 < bnO v := fun w => y ⟨z, w⟩
        omega
      by_cases b : bkS l = 0
      · exact jB_E n L e c BC C0 A0 s0 N hT0 p q p' κ τ v x l m P ns fx C A S NM BK bs ws k g x1 hN hT hE h2 hns hm hk hk2 hg hnb b
      by_cases z : κ = 5 ∧ v = 41
      · exact jB_C n L e c BC C0 A0 s0 N hT0 hB p q p' κ τ v x l m P ns fx C A S NM BK bs ws k g x1 hN hT hE h2 hns hm hk hk2 hg z.1 z.2 (by omega)
      · exact jB_W n L e c BC C0 A0 s0 N hT0 p q p' κ τ v x l m P ns fx C A S NM BK bs ws k g x1 hN hT hE h2 hns hm hk hk2 hg hnb (by omega) z

/-- the class's worth of an expression's code -/
def vC (B : St) (tp : Nat) (tr : Int32) (S : Nat → Int32) : St := (fun j => if j = 6 then nI tp else if j = 11 then tr else B.1 j, B.2.1, fun j => if j = 2 then S else B.2.2.1 j, B.2.2.2)
theorem vC_i6 {B : St} {tp : Nat} {tr : Int32} {S : Nat → Int32} : sI (vC B tp tr S) 6 = nI tp := rfl
theorem vC_i11 {B : St} {tp : Nat} {tr : Int32} {S : Nat → Int32} : sI (vC B tp tr S) 11 = tr := rfl
theorem vC_i5 {B : St} {tp : Nat} {tr : Int32} {S : Nat → Int32} : sI (vC B tp tr S) 5 = sI B 5 := rfl
theorem vC_r0 {B : St} {tp : Nat} {tr : Int32} {S : Nat → Int32} : sR (vC B tp tr S) 0 = sR B 0 := rfl
theorem vC_r1 {B : St} {tp : Nat} {tr : Int32} {S : Nat → Int32} : sR (vC B tp tr S) 1 = sR B 1 := rfl
theorem vC_r2 {B : St} {tp : Nat} {tr : Int32} {S : Nat → Int32} : sR (vC B tp tr S) 2 = S := rfl
theorem vC_r3 {B : St} {tp : Nat} {tr : Int32} {S : Nat → Int32} : sR (vC B tp tr S) 3 = sR B 3 := rfl
theorem vC_r5 {B : St} {tp : Nat} {tr : Int32} {S : Nat → Int32} : sR (vC B tp tr S) 5 = sR B 5 := rfl
theorem vC_r6 {B : St} {tp : Nat} {tr : Int32} {S : Nat → Int32} : sR (vC B tp tr S) 6 = sR B 6 := rfl
theorem vC_w6 {B : St} {tp : Nat} {tr : Int32} {S : Nat → Int32} {v : Nat} : pI (vC B tp tr S) 6 (nI v) = vC B v tr S := Prod.ext (funext fun j => by
  show (if j = 6 then nI v else _) = _
  by_cases h : j = 6
  · subst h; rfl
  · unfold vC
    simp only [if_neg h]) rfl
theorem vC_w11 {B : St} {tp : Nat} {tr : Int32} {S : Nat → Int32} {v : Int32} : pI (vC B tp tr S) 11 v = vC B tp v S := Prod.ext (funext fun j => by
  show (if j = 11 then v else _) = _
  by_cases h : j = 11
  · subst h; rfl
  · unfold vC
    simp only [if_neg h]) rfl
theorem vC_y2 {B : St} {tp : Nat} {tr : Int32} {S : Nat → Int32} {v : Nat → Int32} : pR (vC B tp tr S) 2 v = vC B tp tr v := Prod.ext rfl (Prod.ext rfl (Prod.ext (funext fun j => by
  show (if j = 2 then v else _) = _
  by_cases h : j = 2
  · subst h; rfl
  · unfold vC
    simp only [if_neg h]) rfl))
theorem vC_of (B : St) {tp : Nat} {tr : Int32} (h6 : sI B 6 = nI tp) (h11 : sI B 11 = tr) : B = vC B tp tr (sR B 2) := Prod.ext (funext fun j => by
  show B.1 j = (if j = 6 then nI tp else if j = 11 then tr else B.1 j)
  by_cases e0 : j = 6
  · rw [if_pos e0, e0]; exact h6
  rw [if_neg e0]
  by_cases e1 : j = 11
  · rw [if_pos e1, e1]; exact h11
  rw [if_neg e1]) (Prod.ext rfl (Prod.ext (funext fun j => by
  show B.2.2.1 j = (if j = 2 then sR B 2 else B.2.2.1 j)
  by_cases e0 : j = 2
  · rw [if_pos e0, e0]; rfl
  rw [if_neg e0]) rfl))
def trO (ms dv : Bool) : Int32 := if ms = true then 8 else if dv = true then 9 else 0
def cst (S : Nat → Int32) : List Int32 → Prop
  | [] => True
  | v :: l => S l.length = v ∧ cst S l
theorem cst_u {S : Nat → Int32} {v : Int32} : ∀ (l : List Int32) (k : Nat), l.length ≤ k → cst S l → cst (upd S k v) l := fun l => by
  induction l with
  | nil => intro k _ _; exact trivial
  | cons x l ih =>
    intro k hk h
    have hk : l.length + 1 ≤ k := hk
    exact ⟨(up_n (by omega)).trans h.1, ih k (by omega) h.2⟩
theorem cst_p {S : Nat → Int32} {l : List Int32} (v : Int32) (h : cst S l) : cst (upd S l.length v) (v :: l) := ⟨up_e, cst_u l l.length (Nat.le_refl _) h⟩
theorem ad31 (w : Int32) : (w &&& 31) &&& 31 = w &&& 31 := by rw [Int32.and_assoc, show (31 : Int32) &&& 31 = 31 by decide]
theorem jo_1 {n : Nat} {B : St} {tp : Nat} {ms dv : Bool} {S : Nat → Int32} (x : Nat) (v w : Int32) (hx : 1 ≤ x ∧ x ≤ 10) : df_X9_joined n (nI x) v w (vC B tp (trO ms dv) S) = some (jn x v w, (vC B tp (trO ms (dv || dz x w)) S)) := by
  unfold df_X9_joined df_X9_joined_0
  have nz : ∀ z : Option (Int32 × St), ¬ w = 0 → nd_nz (decide (w = 0)) z = z := fun z h => by
    unfold nd_nz
    rw [decide_eq_false h, if_neg Bool.false_ne_true]
  have p : ∀ s : Nat, df_X9_joined_56 n (nI s) v w (vC B tp (trO ms dv) S) = some (if w = 0 then 0 else if nI s = (2 : Int32) then v / w else v - v / w * w, (vC B tp (trO ms (dv || decide (w = 0))) S)) := fun s => by
    unfold df_X9_joined_56 df_X9_joined_77 df_X9_joined_80 df_X9_joined_102
    by_cases y : w = 0
    · simp only [if_pos y, vC_i11, vC_w11, nb_let, decide_eq_true y, Bool.or_true]
      cases ms <;> cases dv <;> rfl
    · rw [if_neg y, if_neg y, if_neg y, nz _ y, nz _ y, decide_eq_false y, Bool.or_false]
      split <;> rfl
  have c : x = 1 ∨ x = 2 ∨ x = 3 ∨ x = 4 ∨ x = 5 ∨ x = 6 ∨ x = 7 ∨ x = 8 ∨ x = 9 ∨ x = 10 := by omega
  rcases c with c | c | c | c | c | c | c | c | c | c <;> subst c
  · rw [if_pos (show nI 1 = (1 : Int32) from rfl), show dz 1 w = false from rfl, Bool.or_false]
    rfl
  · rw [if_neg (show ¬ nI 2 = (1 : Int32) by decide), if_pos (show nI 2 = (2 : Int32) from rfl), p 2, show dz 2 w = decide (w = 0) from Bool.true_and _]
    rfl
  · rw [if_neg (show ¬ nI 3 = (1 : Int32) by decide), if_neg (show ¬ nI 3 = (2 : Int32) by decide), if_pos (show nI 3 = (3 : Int32) from rfl), p 3, show dz 3 w = decide (w = 0) from Bool.true_and _]
    rfl
  · rw [if_neg (show ¬ nI 4 = (1 : Int32) by decide), if_neg (show ¬ nI 4 = (2 : Int32) by decide), if_neg (show ¬ nI 4 = (3 : Int32) by decide), if_pos (show nI 4 = (4 : Int32) from rfl), show dz 4 w = false from rfl, Bool.or_false]
    rfl
  · rw [if_neg (show ¬ nI 5 = (1 : Int32) by decide), if_neg (show ¬ nI 5 = (2 : Int32) by decide), if_neg (show ¬ nI 5 = (3 : Int32) by decide), if_neg (show ¬ nI 5 = (4 : Int32) by decide), if_pos (show nI 5 = (5 : Int32) from rfl), show dz 5 w = false from rfl, Bool.or_false]
    rfl
  · rw [if_neg (show ¬ nI 6 = (1 : Int32) by decide), if_neg (show ¬ nI 6 = (2 : Int32) by decide), if_neg (show ¬ nI 6 = (3 : Int32) by decide), if_neg (show ¬ nI 6 = (4 : Int32) by decide), if_neg (show ¬ nI 6 = (5 : Int32) by decide), if_pos (show nI 6 = (6 : Int32) from rfl), show dz 6 w = false from rfl, Bool.or_false, ← ad31]
    rfl
  · rw [if_neg (show ¬ nI 7 = (1 : Int32) by decide), if_neg (show ¬ nI 7 = (2 : Int32) by decide), if_neg (show ¬ nI 7 = (3 : Int32) by decide), if_neg (show ¬ nI 7 = (4 : Int32) by decide), if_neg (show ¬ nI 7 = (5 : Int32) by decide), if_neg (show ¬ nI 7 = (6 : Int32) by decide), if_pos (show nI 7 = (7 : Int32) from rfl), show dz 7 w = false from rfl, Bool.or_false, ← ad31]
    rfl
  · rw [if_neg (show ¬ nI 8 = (1 : Int32) by decide), if_neg (show ¬ nI 8 = (2 : Int32) by decide), if_neg (show ¬ nI 8 = (3 : Int32) by decide), if_neg (show ¬ nI 8 = (4 : Int32) by decide), if_neg (show ¬ nI 8 = (5 : Int32) by decide), if_neg (show ¬ nI 8 = (6 : Int32) by decide), if_neg (show ¬ nI 8 = (7 : Int32) by decide), if_pos (show nI 8 = (8 : Int32) from rfl), show dz 8 w = false from rfl, Bool.or_false]
    rfl
  · rw [if_neg (show ¬ nI 9 = (1 : Int32) by decide), if_neg (show ¬ nI 9 = (2 : Int32) by decide), if_neg (show ¬ nI 9 = (3 : Int32) by decide), if_neg (show ¬ nI 9 = (4 : Int32) by decide), if_neg (show ¬ nI 9 = (5 : Int32) by decide), if_neg (show ¬ nI 9 = (6 : Int32) by decide), if_neg (show ¬ nI 9 = (7 : Int32) by decide), if_neg (show ¬ nI 9 = (8 : Int32) by decide), if_pos (show nI 9 = (9 : Int32) from rfl), show dz 9 w = false from rfl, Bool.or_false]
    rfl
  · rw [if_neg (show ¬ nI 10 = (1 : Int32) by decide), if_neg (show ¬ nI 10 = (2 : Int32) by decide), if_neg (show ¬ nI 10 = (3 : Int32) by decide), if_neg (show ¬ nI 10 = (4 : Int32) by decide), if_neg (show ¬ nI 10 = (5 : Int32) by decide), if_neg (show ¬ nI 10 = (6 : Int32) by decide), if_neg (show ¬ nI 10 = (7 : Int32) by decide), if_neg (show ¬ nI 10 = (8 : Int32) by decide), if_neg (show ¬ nI 10 = (9 : Int32) by decide), show dz 10 w = false from rfl, Bool.or_false]
    rfl
theorem sl_1 (n y : Nat) (v : Int32) (hy : 11 ≤ y ∧ y ≤ 14) : df_X9_single n (nI y) v () = some (sgl y v, ()) := by
  unfold df_X9_single df_X9_single_0 df_X9_high df_X9_high_0 df_X9_low df_X9_low_0
  have c : y = 11 ∨ y = 12 ∨ y = 13 ∨ y = 14 := by omega
  rcases c with c | c | c | c <;> subst c
  · rw [if_pos (show nI 11 = (11 : Int32) from rfl)]; rfl
  · rw [if_neg (show ¬ nI 12 = (11 : Int32) by decide), if_pos (show nI 12 = (12 : Int32) from rfl)]; rfl
  · rw [if_neg (show ¬ nI 13 = (11 : Int32) by decide), if_neg (show ¬ nI 13 = (12 : Int32) by decide), if_pos (show nI 13 = (13 : Int32) from rfl), nb_b2]; rfl
  · rw [if_neg (show ¬ nI 14 = (11 : Int32) by decide), if_neg (show ¬ nI 14 = (12 : Int32) by decide), if_neg (show ¬ nI 14 = (13 : Int32) by decide), nb_b2]; rfl
/-- one turn -/
def evH (n : Nat) (B : St) (hr : Int32) (V : Tp → Int32 × Bool) (s0 m : Nat) (P : Nat → Tp) : Prop := ∀ i : Nat, i < m → 16 ≤ (P i).1 → ∀ (tp : Nat) (tr : Int32) (S : Nat → Int32), df_X9_operand n (sR B 0 (s0 + i)) (sR B 1 (s0 + i)) hr (vC B tp tr S) = some ((V (P i)).1, vC B tp (if (V (P i)).2 = true then 8 else tr) S)
theorem evl_1 {n g : Nat} {B : St} {hr : Int32} {V : Tp → Int32 × Bool} {s0 m : Nat} {P : Nat → Tp} {S : Nat → Int32} (hV : evH n B hr V s0 m P) (hC : ∀ i : Nat, i < m → sR B 0 (s0 + i) = nI (P i).1) (hP : ∀ i : Nat, i < m → 1 ≤ (P i).1 ∧ (P i).1 ≤ 20 ∧ ¬ (P i).1 = 15) {cs : Nat} (h5 : sI B 5 = nI cs) (hcs : cs ≤ 32832) (hm : s0 + m ≤ cs) (i : Nat) (hi : i < m) (vs : List Int32) (ms dv : Bool) (hl : vs.length ≤ i) (h : cst S vs) : ∃ S' : Nat → Int32, df_X9_evaluate_16 n (g + 1) hr (nI (s0 + i)) (vC B vs.length (trO ms dv) S) = df_X9_evaluate_16 n g hr (nI (s0 + (i + 1))) (vC B (stp V (P i) (vs, ms, dv)).1.length (trO (stp V (P i) (vs, ms, dv)).2.1 (stp V (P i) (vs, ms, dv)).2.2) S') ∧ cst S' (stp V (P i) (vs, ms, dv)).1 ∧ (stp V (P i) (vs, ms, dv)).1.length ≤ i + 1 := by
  have ci := hC i hi
  have pi := hP i hi
  have nx : ∀ s : St, df_X9_evaluate_181 n (df_X9_evaluate_16 n g) hr (nI (s0 + i)) s = df_X9_evaluate_16 n g hr (nI (s0 + (i + 1))) s := fun s => by
    unfold df_X9_evaluate_181
    rw [nb_let, show nI (s0 + i) + Int32.ofInt 1 = nI (s0 + i + 1) from nI_add (s0 + i) 1]
    rfl
  have hd : df_X9_evaluate_16 n (g + 1) hr (nI (s0 + i)) (vC B vs.length (trO ms dv) S) = dF_X9_evaluate_16 n (df_X9_evaluate_16 n g) hr (nI (s0 + i)) (vC B vs.length (trO ms dv) S) := rfl
  rw [hd]
  unfold dF_X9_evaluate_16
  rw [vC_i5, h5, if_neg (znle (show s0 + i < cs by omega) (by omega)), nm_ck (by omega) (by omega), nI_clamp (by omega), vC_r0, ci, if_neg (show ¬ nI (P i).1 = (21 : Int32) from zne (b := 21) (by omega) (by omega) (by omega)), nm_ck (by omega) (by omega)]
  by_cases y : 16 ≤ (P i).1
  · have o := hV i hi y vs.length (trO ms dv) S
    rw [ci] at o
    have es : stp V (P i) (vs, ms, dv) = ((V (P i)).1 :: vs, ms || (V (P i)).2, dv) := by unfold stp; rw [if_pos y]
    rw [es, if_neg (show ¬ nI (P i).1 < (16 : Int32) from znl (b := 16) y (by omega)), nm_ck (by omega) (by omega), nm_ck (by omega) (by omega), vC_r1, o, nb_b2]
    refine ⟨upd S vs.length (V (P i)).1, ?_, cst_p _ h, by show vs.length + 1 ≤ i + 1; omega⟩
    unfold df_X9_push df_X9_push_0 df_X9_push_32
    rw [vC_i6, if_neg (show ¬ (32832 : Int32) ≤ nI vs.length from znle (a := 32832) (by omega) (by omega)), nm_ck (by omega) (by omega), nI_clamp (by omega), vC_r2, vC_y2, nb_let, vC_i6, show nI vs.length + (1 : Int32) = nI (vs.length + 1) from nI_add vs.length 1, vC_w6, nb_let, nb_b1, nx]
    have et : (if (V (P i)).2 = true then 8 else trO ms dv) = trO (ms || (V (P i)).2) dv := by
      unfold trO
      cases ms <;> cases (V (P i)).2 <;> rfl
    rw [et]
    rfl
  · rw [if_pos (show nI (P i).1 < (16 : Int32) from zlt (b := 16) (by omega) (by omega)), nm_ck (by omega) (by omega)]
    by_cases z : 11 ≤ (P i).1
    · rw [if_neg (show ¬ nI (P i).1 < (11 : Int32) from znl (b := 11) z (by omega)), vC_i6]
      cases vs with
      | nil =>
        have es : stp V (P i) ([], ms, dv) = ([], ms, dv) := by unfold stp; rw [if_neg y, if_pos z]
        rw [es, if_pos (show nI ([] : List Int32).length ≤ (0 : Int32) by decide)]
        unfold df_X9_evaluate_122
        rw [vC_i6, if_pos (show nI ([] : List Int32).length ≤ (1 : Int32) by decide), nx]
        exact ⟨S, rfl, h, Nat.zero_le _⟩
      | cons v r =>
        have es : stp V (P i) (v :: r, ms, dv) = (sgl (P i).1 v :: r, ms, dv) := by unfold stp; rw [if_neg y, if_pos z]
        have lr : (v :: r).length = r.length + 1 := rfl
        have lr2 : (sgl (P i).1 v :: r).length = r.length + 1 := rfl
        rw [lr] at hl
        rw [es, lr, lr2, if_neg (show ¬ nI (r.length + 1) ≤ (0 : Int32) from znle (b := 0) (by omega) (by omega)), nm_ck (by omega) (by omega), show nI (r.length + 1) - (1 : Int32) = nI r.length from pk_sub (b := 1) (by omega), nm_ck (by omega) (by omega), nI_clamp (by omega), vC_r2, show S r.length = v from h.1, sl_1 n _ v (by omega), nb_b2, nm_ck (by omega) (by omega), vC_y2, nb_let, nx]
        exact ⟨upd S r.length (sgl (P i).1 v), rfl, cst_p _ h.2, by omega⟩
    · rw [if_pos (show nI (P i).1 < (11 : Int32) from zlt (b := 11) (by omega) (by omega))]
      unfold df_X9_evaluate_122
      rw [vC_i6]
      cases vs with
      | nil =>
        have es : stp V (P i) ([], ms, dv) = ([], ms, dv) := by unfold stp; rw [if_neg y, if_neg z]
        rw [es, if_pos (show nI ([] : List Int32).length ≤ (1 : Int32) by decide), nx]
        exact ⟨S, rfl, h, Nat.zero_le _⟩
      | cons w r =>
        cases r with
        | nil =>
          have es : stp V (P i) ([w], ms, dv) = ([w], ms, dv) := by unfold stp; rw [if_neg y, if_neg z]
          rw [es, if_pos (show nI [w].length ≤ (1 : Int32) by show nI 1 ≤ (1 : Int32); decide), nx]
          exact ⟨S, rfl, h, by show 1 ≤ i + 1; omega⟩
        | cons v r =>
          have es : stp V (P i) (w :: v :: r, ms, dv) = (jn (P i).1 v w :: r, ms, dv || dz (P i).1 w) := by unfold stp; rw [if_neg y, if_neg z]
          have lr : (w :: v :: r).length = r.length + 1 + 1 := rfl
          have lr2 : (jn (P i).1 v w :: r).length = r.length + 1 := rfl
          rw [lr] at hl
          rw [es, lr, lr2, if_neg (show ¬ nI (r.length + 1 + 1) ≤ (1 : Int32) from znle (b := 1) (by omega) (by omega)), show nI (r.length + 1 + 1) - (1 : Int32) = nI (r.length + 1) from pk_sub (b := 1) (by omega), vC_w6, nb_let, nm_ck (by omega) (by omega), vC_i6, show nI (r.length + 1) - (1 : Int32) = nI r.length from pk_sub (b := 1) (by omega), nm_ck (by omega) (by omega), nm_ck (by omega) (by omega), nI_clamp (by omega), nI_clamp (by omega), nI_clamp (by omega), vC_r0, ci, vC_r2, show S (r.length + 1) = w from h.1, show S r.length = v from h.2.1, jo_1 (P i).1 v w (by omega), nb_b2, nm_ck (by omega) (by omega), vC_r2, vC_y2, nb_let, nx]
          exact ⟨upd S r.length (jn (P i).1 v w), rfl, cst_p _ h.2.2, by omega⟩
/-- all of it -/
theorem evl_n {n : Nat} {B : St} {hr : Int32} {V : Tp → Int32 × Bool} {s0 m : Nat} {P : Nat → Tp} (hV : evH n B hr V s0 m P) (hC : ∀ i : Nat, i < m → sR B 0 (s0 + i) = nI (P i).1) (hP : ∀ i : Nat, i < m → 1 ≤ (P i).1 ∧ (P i).1 ≤ 20 ∧ ¬ (P i).1 = 15) {cs : Nat} (h5 : sI B 5 = nI cs) (hcs : cs ≤ 32832) (hm : s0 + m ≤ cs) : ∀ (j i g : Nat) (S : Nat → Int32), i + j = m → j < g → cst S (rnF V P i).1 → (rnF V P i).1.length ≤ i → ∃ (S' : Nat → Int32) (g' : Nat), df_X9_evaluate_16 n g hr (nI (s0 + i)) (vC B (rnF V P i).1.length (trO (rnF V P i).2.1 (rnF V P i).2.2) S) = df_X9_evaluate_16 n (g' + 1) hr (nI (s0 + m)) (vC B (rnF V P m).1.length (trO (rnF V P m).2.1 (rnF V P m).2.2) S') ∧ cst S' (rnF V P m).1 := fun j => by
  induction j with
  | zero =>
    intro i g S h1 h2 h3 h4
    have e : i = m := by omega
    subst e
    exact ⟨S, g - 1, by rw [show g - 1 + 1 = g by omega], h3⟩
  | succ j ih =>
    intro i g S h1 h2 h3 h4
    obtain ⟨g, rfl⟩ : ∃ k : Nat, g = k + 1 := ⟨g - 1, by omega⟩
    obtain ⟨S1, e1, e2, e3⟩ := evl_1 (g := g) (S := S) hV hC hP h5 hcs hm i (by omega) (rnF V P i).1 (rnF V P i).2.1 (rnF V P i).2.2 h4 h3
    have er : stp V (P i) ((rnF V P i).1, (rnF V P i).2.1, (rnF V P i).2.2) = rnF V P (i + 1) := rfl
    rw [er] at e1 e2 e3
    obtain ⟨S', g', f1, f2⟩ := ih (i + 1) g S1 (by omega) (by omega) e2 e3
    exact ⟨S', g', e1.trans f1, f2⟩
/-- the value of an expression whose code ends with 21 -/
theorem evl_all {n : Nat} {B : St} {hr : Int32} {V : Tp → Int32 × Bool} {s0 m : Nat} {P : Nat → Tp} (hn : 70000 < n) (hV : evH n B hr V s0 m P) (hC : ∀ i : Nat, i < m → sR B 0 (s0 + i) = nI (P i).1) (hP : ∀ i : Nat, i < m → 1 ≤ (P i).1 ∧ (P i).1 ≤ 20 ∧ ¬ (P i).1 = 15) {cs : Nat} (h5 : sI B 5 = nI cs) (hcs : cs ≤ 32832) (hm : s0 + m < cs) (h21 : sR B 0 (s0 + m) = 21) (w : Int32) (ms dv : Bool) (hr2 : rnF V P m = ([w], ms, dv)) : ∃ S' : Nat → Int32, df_X9_evaluate n (nI s0) hr B = some (w, vC B 1 (trO ms dv) S') := by
  obtain ⟨S', g', e1, e2⟩ := evl_n hV hC hP h5 hcs (by omega) m 0 n (sR B 2) (by omega) (by omega) trivial (Nat.le_refl 0)
  rw [hr2] at e1 e2
  refine ⟨S', ?_⟩
  have b0 : pI (pI B 11 0) 6 0 = vC B 0 0 (sR B 2) := by
    obtain ⟨A, _, eA⟩ := nI_ex (sI B 6)
    have e : B = vC B A (sI B 11) (sR B 2) := vC_of B eA rfl
    have f : pI (pI (vC B A (sI B 11) (sR B 2)) 11 0) 6 (nI 0) = vC B 0 0 (sR B 2) := by rw [vC_w11, vC_w6]
    exact (congrArg (fun z => pI (pI z 11 0) 6 (nI 0)) e).trans f
  have s : df_X9_evaluate n (nI s0) hr B = df_X9_evaluate_16 n n hr (nI (s0 + 0)) (vC B 0 0 (sR B 2)) := by
    unfold df_X9_evaluate df_X9_evaluate_0
    rw [nb_let, nb_let, b0]
    by_cases y : s0 = 0
    · subst y
      rw [if_neg (show ¬ (0 : Int32) < nI 0 by decide), nb_let]
      rfl
    · rw [if_pos (show (0 : Int32) < nI s0 from zlt (a := 0) (by omega) (by omega)), nb_let]
      rfl
  rw [s]
  refine Eq.trans (show _ = df_X9_evaluate_16 n (g' + 1) hr (nI (s0 + m)) (vC B [w].length (trO ms dv) S') from e1) ?_
  show dF_X9_evaluate_16 n (df_X9_evaluate_16 n g') hr (nI (s0 + m)) (vC B 1 (trO ms dv) S') = _
  unfold dF_X9_evaluate_16 df_X9_evaluate_187 df_X9_evaluate_204
  rw [vC_i5, h5, if_neg (znle hm (by omega)), nm_ck (by omega) (by omega), nI_clamp (by omega), vC_r0, h21, if_pos rfl, vC_i6, if_neg (show ¬ nI 1 ≤ (0 : Int32) by decide), vC_r2, show S' (Int32.toNatClampNeg 0) = w from e2.1]

/-- the reference's expression() from a place: what it answers in every state -/
def RX (n L e : Nat) (c : Nat → Nat) (BC : St) (p : Nat) (ok : Bool) (p2 m2 : Nat) (P2 : Nat → Tp) : Prop := ∀ (B : St) (V : Tp → Int32 × Bool) (lo : Tp → Bool), atx n L e c BC B → VA n e c B V lo → (∃ ln : Nat, sI B 13 = nI ln ∧ ln ≤ 40000) → ∀ (ms dv ls : Bool) (sg vl : Nat) (PL : Nat → Int32) (tk fr to : Nat) (nm : Int32), ∃ (w ft2 : Int32) (ms2 dv2 ls2 : Bool) (sg2 vl2 : Nat) (PL2 : Nat → Int32) (ap2 tk2 fr2 to2 : Nat) (nm2 : Int32), df_X13_expression n (uR (xR B 0 ms dv ls sg vl PL) p tk fr to nm) = some (w, (uR (xR B ft2 ms2 dv2 ls2 sg2 vl2 PL2) ap2 tk2 fr2 to2 nm2)) ∧ ap2 ≤ e ∧ (ok = true → ap2 = p2 ∧ rnF V P2 m2 = ([w], ms2, dv2) ∧ ls2 = lsF lo P2 m2 ∧ ft2 = if sI B 15 = 2 ∧ (ms2 = true ∨ dv2 = true) then (if ms2 = true then 8 else 9) + 16 * sI B 13 else 0) ∧ (ok = false → ft2 = 1 + 16 * sI B 13)
/-- sum() and expression(): both read the same expression, or neither can -/
theorem exs_2 {n L e : Nat} {c : Nat → Nat} {BC BR0 : St} (hT0 : atx n L e c BC BR0) (p q p' κ τ v : Nat) (x : Int32) (s0 tp st ns : Nat) (fx : Bool) (C A S NM BK : Nat → Int32) (bs ws : Nat → Nat) (hT : TS n L e c BC p q p' κ τ v x) (hH : HT L c ns NM BK bs ws) (hs : s0 ≤ p) (hns : 2 * ns ≤ p) (hp : e - p < 32768) : ∃ (ok : Bool) (p2 q2 p2' κ2 τ2 v2 : Nat) (x2 : Int32) (m2 : Nat) (P2 : Nat → Tp) (ns2 : Nat) (fx2 : Bool) (C2 A2 S2 NM2 BK2 : Nat → Int32) (bs2 ws2 : Nat → Nat) (tp2 : Nat), df_X9_sum n (uC (xC BC s0 tp st ns fx C A S NM BK) p' κ q x) = some (if ok = true then nI s0 else -1, (uC (xC BC (s0 + m2 + 1) tp2 (if ok = true then 5 else 6) ns2 fx2 C2 A2 S2 NM2 BK2) p2' κ2 q2 x2)) ∧ PS ns NM bs ws ns2 NM2 bs2 ws2 ∧ HT L c ns2 NM2 BK2 bs2 ws2 ∧ (ok = true → TS n L e c BC p2 q2 p2' κ2 τ2 v2 x2 ∧ p ≤ p2 ∧ CR (sR BC 5) c e C A s0 ns2 bs2 ws2 m2 P2 C2 A2 ∧ C2 (s0 + m2) = 21 ∧ (fx2 = true ↔ fxQ c e bs2 ws2 NM2 ns2 m2 P2) ∧ s0 + m2 ≤ p2 ∧ 2 * ns2 ≤ p2 + 1 ∧ 0 < m2) ∧ RX n L e c BC p ok p2 m2 P2 ∧ ∃ pz τz vz : Nat, TS n L e c BC pz q2 p2' κ2 τz vz x2 := by
  obtain ⟨hn, hL, heL, h127, hend, hce, hO, hst, htC, h0, htR, hch⟩ := id hT0
  have t1 := hT.1
  obtain ⟨ok, p2, q2, p2', κ2, τ2, v2, x2, m2, P2, ns2, fx2, C2, A2, S2, NM2, BK2, bs2, ws2, tp2, r1, r2, r3, r4, r5⟩ := (ex_N n L e c BC C A s0 hT0 (e - p + 1)).1 p q p' κ τ v x [] 0 (fun _ => (0, 0, 0)) ns true C A S NM BK bs ws 32768 n (nI s0) (by omega) hT ⟨trivial, trivial, ⟨fun i _ => ⟨rfl, rfl⟩, fun i hi => absurd hi (Nat.not_lt_zero i)⟩, hH, ⟨fun _ i hi => absurd hi (Nat.not_lt_zero i), fun _ => rfl⟩, hs⟩ (Nat.zero_le _) hns (by omega) (by omega) (by omega)
  refine ⟨ok, p2, q2, p2', κ2, τ2, v2, x2, m2, P2, ns2, fx2, C2, A2, S2, NM2, BK2, bs2, ws2, tp2, ?_, r2, r3.1, r4, ?_, r3.2⟩
  · rw [← r1]
    unfold df_X9_sum df_X9_sum_0
    rw [xC_u5, nb_let, show pI (uC (xC BC s0 tp st ns fx C A S NM BK) p' κ q x) 6 0 = _ from xC_w6 (v := 0), nb_let, show pI (uC (xC BC s0 0 st ns fx C A S NM BK) p' κ q x) 10 1 = _ from xC_w10 (v := true), nb_let, show pI (uC (xC BC s0 0 st ns true C A S NM BK) p' κ q x) 7 0 = _ from xC_w7 (v := 0), nb_let, uC_o, xC_o0, o8S hO]
    rfl
  · intro B V lo hTB hV hln ms dv ls sg vl PL tk fr to nm
    obtain ⟨w, ft2, ms2, dv2, ls2, sg2, vl2, PL2, ap2, tk2, fr2, to2, nm2, z1, z2, z3, z4⟩ := r5 B V lo hTB hV hln [] false false false PL tk fr to nm n ⟨trivial, trivial, rfl, rfl⟩ rfl (by omega)
    refine ⟨w, ft2, ms2, dv2, ls2, sg2, vl2, PL2, ap2, tk2, fr2, to2, nm2, ?_, z2, z3, z4⟩
    rw [← z1]
    unfold df_X13_expression df_X13_expression_0
    rw [show pI (uR (xR B 0 ms dv ls sg vl PL) p tk fr to nm) 24 0 = _ from xR_w24 (v := 0), nb_let, show pI (uR (xR B 0 ms dv ls 0 vl PL) p tk fr to nm) 25 32800 = _ from xR_w25 (v := 32800), nb_let, show pI (uR (xR B 0 ms dv ls 0 32800 PL) p tk fr to nm) 21 0 = _ from xR_w21 (v := false), nb_let, show pI (uR (xR B 0 false dv ls 0 32800 PL) p tk fr to nm) 22 0 = _ from xR_w22 (v := false), nb_let, show pI (uR (xR B 0 false false ls 0 32800 PL) p tk fr to nm) 23 0 = _ from xR_w23 (v := false), nb_let]
    rfl
theorem exs_1 {n L e : Nat} {c : Nat → Nat} {BC BR0 : St} (hT0 : atx n L e c BC BR0) (p q p' κ τ v : Nat) (x : Int32) (s0 tp st ns : Nat) (fx : Bool) (C A S NM BK : Nat → Int32) (bs ws : Nat → Nat) (hT : TS n L e c BC p q p' κ τ v x) (hH : HT L c ns NM BK bs ws) (hs : s0 ≤ p) (hns : 2 * ns ≤ p) (hp : e - p < 32768) : ∃ (ok : Bool) (p2 q2 p2' κ2 τ2 v2 : Nat) (x2 : Int32) (m2 : Nat) (P2 : Nat → Tp) (ns2 : Nat) (fx2 : Bool) (C2 A2 S2 NM2 BK2 : Nat → Int32) (bs2 ws2 : Nat → Nat) (tp2 : Nat), df_X9_sum n (uC (xC BC s0 tp st ns fx C A S NM BK) p' κ q x) = some (if ok = true then nI s0 else -1, (uC (xC BC (s0 + m2 + 1) tp2 (if ok = true then 5 else 6) ns2 fx2 C2 A2 S2 NM2 BK2) p2' κ2 q2 x2)) ∧ PS ns NM bs ws ns2 NM2 bs2 ws2 ∧ HT L c ns2 NM2 BK2 bs2 ws2 ∧ (ok = true → TS n L e c BC p2 q2 p2' κ2 τ2 v2 x2 ∧ p ≤ p2 ∧ CR (sR BC 5) c e C A s0 ns2 bs2 ws2 m2 P2 C2 A2 ∧ C2 (s0 + m2) = 21 ∧ (fx2 = true ↔ fxQ c e bs2 ws2 NM2 ns2 m2 P2) ∧ s0 + m2 ≤ p2 ∧ 2 * ns2 ≤ p2 + 1 ∧ 0 < m2) ∧ RX n L e c BC p ok p2 m2 P2 := by
  obtain ⟨ok, p2, q2, p2', κ2, τ2, v2, x2, m2, P2, ns2, fx2, C2, A2, S2, NM2, BK2, bs2, ws2, tp2, r1, r2, r3, r4, r5, _⟩ := exs_2 hT0 p q p' κ τ v x s0 tp st ns fx C A S NM BK bs ws hT hH hs hns hp
  exact ⟨ok, p2, q2, p2', κ2, τ2, v2, x2, m2, P2, ns2, fx2, C2, A2, S2, NM2, BK2, bs2, ws2, tp2, r1, r2, r3, r4, r5⟩
/-- the codes of an expression, once it is read -/
theorem CR_P {NR : Nat → Int32} {c : Nat → Nat} {e : Nat} {C0 A0 : Nat → Int32} {s0 ns : Nat} {bs ws : Nat → Nat} {m : Nat} {P : Nat → Tp} {C A : Nat → Int32} (h : CR NR c e C0 A0 s0 ns bs ws m P C A) : ∀ i : Nat, i < m → 1 ≤ (P i).1 ∧ (P i).1 ≤ 20 ∧ ¬ (P i).1 = 15 := fun i hi => ⟨(h.2 i hi).2.2.2.2.2.1, (h.2 i hi).2.2.2.2.2.2.1, (h.2 i hi).2.2.2.2.2.2.2.1⟩

/-- the reference's table of names: a word against another, the first that is alike, what it is worth -/
def alk (c : Nat → Nat) (q l o : Nat) : Bool := decide (∀ t : Nat, t < l → c (o + t) = c (q + t)) && !aP (c (o + l))
theorem al_3 {n L e : Nat} {c : Nat → Nat} {BC BR : St} (hT : atx n L e c BC BR) (q l o ap tk fr to : Nat) (nm : Int32) (hq : q + l ≤ L) (ho : o < 2 ^ 20) : ∀ j i g : Nat, i + j = l → j < g → (∀ t : Nat, t < i → c (o + t) = c (q + t)) → df_X13_isAlike_3 n g (nI q) (nI (q + l)) (nI o) (nI (q + i)) (uR BR ap tk fr to nm) = some (bI (alk c q l o), uR BR ap tk fr to nm) := fun j => by
  obtain ⟨hn, hL, heL, h127, hend, hce, hO, h1, htC, h0, htR, hch⟩ := id hT
  have z1 : ∀ (b : Bool) (x : Option (Int32 × St)), nd_z .boolean (bI b) x = x := fun b x => by cases b <;> exact nar_z (by decide)
  induction j with
  | zero =>
    intro i g h1 h2 h3
    obtain ⟨g, rfl⟩ : ∃ k : Nat, g = k + 1 := ⟨g - 1, by omega⟩
    have e : i = l := by omega
    subst e
    have ca := ca_13 hT (o + i) ap tk fr to nm (by omega)
    have ip := ip_13 n (c := c (o + i)) (by have := h127 (o + i); omega)
    have es : alk c q i o = !aP (c (o + i)) := by unfold alk; rw [decide_eq_true h3, Bool.true_and]
    show dF_X13_isAlike_3 n (df_X13_isAlike_3 n g) (nI q) (nI (q + i)) (nI o) (nI (q + i)) (uR BR ap tk fr to nm) = _
    unfold dF_X13_isAlike_3 df_X13_isAlike_57
    rw [if_pos (zle (Nat.le_refl (q + i)) (by omega)), show nI o + nI (q + i) - nI q = nI (o + i) by rw [nI_add, pk_sub (by omega)]; exact congrArg nI (by omega), ca, nb_b2, ip, nb_b2, es]
    cases aP (c (o + i)) with
    | false =>
      rw [if_pos (show bI false = 0 from rfl), show (1 : Int32) = bI true from rfl, z1]
      rfl
    | true =>
      rw [if_neg (show ¬ bI true = 0 by decide), show (0 : Int32) = bI false from rfl, z1]
      rfl
  | succ j ih =>
    intro i g h1 h2 h3
    obtain ⟨g, rfl⟩ : ∃ k : Nat, g = k + 1 := ⟨g - 1, by omega⟩
    have ca := ca_13 hT (o + i) ap tk fr to nm (by omega)
    have c1 := h127 (o + i)
    have c2 := h127 (q + i)
    show dF_X13_isAlike_3 n (df_X13_isAlike_3 n g) (nI q) (nI (q + l)) (nI o) (nI (q + i)) (uR BR ap tk fr to nm) = _
    unfold dF_X13_isAlike_3
    rw [if_neg (znle (show q + i < q + l by omega) (by omega)), show nI o + nI (q + i) - nI q = nI (o + i) by rw [nI_add, pk_sub (by omega)]; exact congrArg nI (by omega), ca, nb_b2, nm_ck (by omega) (by omega), nI_clamp (by omega), uR_r, htR (q + i) (by omega)]
    by_cases y : c (o + i) = c (q + i)
    · rw [if_pos (congrArg nI y), nb_let, show nI (q + i) + Int32.ofInt 1 = nI (q + (i + 1)) from nI_add (q + i) 1]
      exact ih (i + 1) g (by omega) (by omega) (fun t ht => by
        by_cases z : t = i
        · rw [z]; exact y
        · exact h3 t (by omega))
    · rw [if_neg (zne y (by omega) (by omega)), show alk c q l o = false by unfold alk; rw [decide_eq_false (fun w => y (w i (by omega))), Bool.false_and]]
      rfl
theorem al_1 {n L e : Nat} {c : Nat → Nat} {BC BR : St} (hT : atx n L e c BC BR) (q l o ap tk fr to : Nat) (nm : Int32) (hq : q + l ≤ L) (ho : o < 2 ^ 20) : df_X13_isAlike n (nI q) (nI (q + l)) (nI o) (uR BR ap tk fr to nm) = some (bI (alk c q l o), uR BR ap tk fr to nm) := by
  have hn := hT.1
  have hL := hT.2.1
  exact al_3 hT q l o ap tk fr to nm hq ho l 0 n (by omega) (by omega) (fun t ht => absurd ht (Nat.not_lt_zero t))
/-- the rows: X k is place and kind of entry k -/
def fiP (c : Nat → Nat) (X : Nat → Nat) (q l : Nat) : Nat → Bool := fun k => decide (X k / 131072 < 3) && alk c q l (X k % 131072)
theorem fi_1 {n L e : Nat} {c : Nat → Nat} {BC BR : St} (hT : atx n L e c BC BR) (q l ap tk fr to : Nat) (nm : Int32) (hq : q + l ≤ L) (nL : Nat) (X : Nat → Nat) (hL : nL ≤ 16500) (h3 : sI BR 3 = nI nL) (hX : ∀ k : Nat, k < nL → sR BR 6 k = nI (X k) ∧ X k < 2 ^ 20) : df_X13_find n (nI q) (nI (q + l)) (uR BR ap tk fr to nm) = some (if fN (fiP c X q l) 0 nL < nL then nI (fN (fiP c X q l) 0 nL) else -1, uR BR ap tk fr to nm) := by
  have hn := hT.1
  have sh : ∀ k : Nat, k < nL → (nI (X k) : Int32) >>> ((17 : Int32) &&& 31) = nI (X k / 131072) ∧ nI (X k) &&& 131071 = nI (X k % 131072) := fun k hk => by
    have := (hX k hk).2
    exact ⟨pk_shrN (by omega) _ 17 (by decide), pk_andN (by omega) 17 (by decide)⟩
  have turn : ∀ (k m : Nat), k < nL → df_X13_find_2 n (m + 1) (nI q) (nI (q + l)) (nI k) (uR BR ap tk fr to nm) = if fiP c X q l k = true then some (nI k, uR BR ap tk fr to nm) else df_X13_find_2 n m (nI q) (nI (q + l)) (nI (k + 1)) (uR BR ap tk fr to nm) := fun k m hk => by
    obtain ⟨x1, x2⟩ := hX k hk
    obtain ⟨s1, s2⟩ := sh k hk
    have al := al_1 hT q l (X k % 131072) ap tk fr to nm hq (by omega)
    have go : df_X13_find_44 n (df_X13_find_2 n m) (nI q) (nI (q + l)) (nI k) (uR BR ap tk fr to nm) = df_X13_find_2 n m (nI q) (nI (q + l)) (nI (k + 1)) (uR BR ap tk fr to nm) := by
      unfold df_X13_find_44
      rw [nb_let, show nI k + Int32.ofInt 1 = nI (k + 1) from nI_add k 1]
    show dF_X13_find_2 n (df_X13_find_2 n m) (nI q) (nI (q + l)) (nI k) (uR BR ap tk fr to nm) = _
    unfold dF_X13_find_2 fiP
    rw [uR_i3, h3, if_neg (znle hk (by omega)), nm_ck (by omega) (by omega), nI_clamp (by omega), uR_r, x1, s1, s2]
    by_cases y : X k / 131072 < 3
    · rw [if_neg (show ¬ (3 : Int32) ≤ nI (X k / 131072) from znle (a := 3) y (by omega)), nm_ck (by omega) (by omega), al, nb_b2, decide_eq_true y, Bool.true_and]
      cases alk c q l (X k % 131072) with
      | false => rw [if_pos (show bI false = 0 from rfl), go, if_neg (by decide)]
      | true => rw [if_neg (show ¬ bI true = 0 by decide), if_pos rfl]
    · rw [if_pos (show (3 : Int32) ≤ nI (X k / 131072) from zle (a := 3) (by omega) (by omega)), go, decide_eq_false y, Bool.false_and, if_neg (by decide)]
  obtain ⟨m, em⟩ := nm_ls (fun g i => df_X13_find_2 n g (nI q) (nI (q + l)) (nI i) (uR BR ap tk fr to nm)) (fiP c X q l) 0 nL n (by omega) (fun k m k1 k2 k3 => by
    show df_X13_find_2 n (m + 1) (nI q) (nI (q + l)) (nI k) (uR BR ap tk fr to nm) = _
    rw [turn k m (by omega), k3, if_neg (by decide)])
  refine Eq.trans (show _ = df_X13_find_2 n n (nI q) (nI (q + l)) (nI 0) (uR BR ap tk fr to nm) from rfl) (Eq.trans em ?_)
  obtain ⟨f1, f2, f3, f4⟩ := fN_le (fiP c X q l) nL 0
  generalize fN (fiP c X q l) 0 nL = f at f1 f2 f3 f4
  by_cases y : f < nL
  · show df_X13_find_2 n (m + 1) (nI q) (nI (q + l)) (nI f) (uR BR ap tk fr to nm) = _
    rw [turn f m y, f3 (by omega), if_pos rfl, if_pos y]
  · have e : f = nL := by omega
    subst e
    rw [if_neg (Nat.lt_irrefl _)]
    show dF_X13_find_2 n (df_X13_find_2 n m) (nI q) (nI (q + l)) (nI f) (uR BR ap tk fr to nm) = _
    unfold dF_X13_find_2
    rw [uR_i3, h3, if_pos (zle (Nat.le_refl f) (by omega))]
/-- what an entry is worth -/
def bseO (ts : Int32) : Int32 := ((ts + 1023) / 1024) * 1024
def vlO (ts : Int32) (X : Nat → Nat) (W : Nat → Int32) (k : Nat) : Int32 := if X k / 131072 = 1 ∨ X k / 131072 = 4 then bseO ts + W k else W k
theorem vo_1 {n : Nat} {S : St} (k nL : Nat) (X : Nat → Nat) (hk : k < nL) (hL : nL ≤ 16500) (hX : sR S 6 k = nI (X k) ∧ X k < 2 ^ 20) : df_X13_valueOf n (nI k) S = some (vlO (sI S 4) X (sR S 7) k, S) := by
  obtain ⟨x1, x2⟩ := hX
  have s1 : (nI (X k) : Int32) >>> ((17 : Int32) &&& 31) = nI (X k / 131072) := pk_shrN (by omega) _ 17 (by decide)
  have t34 : df_X13_valueOf_34 n (nI k) S = some (bseO (sI S 4) + sR S 7 k, S) := by
    unfold df_X13_valueOf_34 df_X13_base df_X13_base_0 df_X13_valueOf_54
    rw [nb_b2, nm_ck (by omega) (by omega), nI_clamp (by omega)]
    rfl
  unfold df_X13_valueOf df_X13_valueOf_0 df_X13_valueOf_54 vlO
  rw [nm_ck (by omega) (by omega), nI_clamp (by omega), x1, s1, nb_let, t34, nm_ck (by omega) (by omega)]
  by_cases y2 : X k / 131072 = 2
  · rw [if_pos (show nI (X k / 131072) = (2 : Int32) from congrArg nI y2), if_neg (by omega)]
  rw [if_neg (show ¬ nI (X k / 131072) = (2 : Int32) from zne (b := 2) y2 (by omega) (by omega))]
  by_cases y1 : X k / 131072 = 1
  · rw [if_pos (show nI (X k / 131072) = (1 : Int32) from congrArg nI y1), if_pos (Or.inl y1)]
  rw [if_neg (show ¬ nI (X k / 131072) = (1 : Int32) from zne (b := 1) y1 (by omega) (by omega))]
  by_cases y4 : X k / 131072 = 4
  · rw [if_pos (show nI (X k / 131072) = (4 : Int32) from congrArg nI y4), if_pos (Or.inr y4)]
  · rw [if_neg (show ¬ nI (X k / 131072) = (4 : Int32) from zne (b := 4) y4 (by omega) (by omega)), if_neg (by omega)]

/-- the reference's name() -/
theorem zf_1 {b : Bool} {x : Option St} : nd_f .boolean (bI b) (nd_z .boolean (bI b) x) = x := by
  have z2 : nd_z .boolean (bI b) x = x := by cases b <;> exact nar_z (by decide)
  rw [z2]
  cases b <;> rfl
theorem nt_161 {n : Nat} {B : St} {ft : Int32} {ms dv ls : Bool} {sg vl : Nat} {PL : Nat → Int32} {ap tk fr to : Nat} {nm : Int32} (v : Int32) (h : vl < 32800) : df_X13_name_161 n v (uR (xR B ft ms dv ls sg (vl + 1) PL) ap tk fr to nm) = some (uR (xR B ft ms dv ls sg vl (upd PL vl v)) ap tk fr to nm) := by
  unfold df_X13_name_161
  rw [rv_1 v h, nb_b1]
theorem nt_133 {n : Nat} {B : St} {ft : Int32} {ms dv ls : Bool} {sg vl : Nat} {PL : Nat → Int32} {ap tk fr to : Nat} {nm : Int32} (x1 x2 : Int32) (b : Bool) : df_X13_name_133 n x1 x2 (bI b) (uR (xR B ft ms dv ls sg (vl + 1) PL) ap tk fr to nm) = if x1 = 0 then (if 0 ≤ x2 then nd_b2 (df_X13_valueOf n x2 (uR (xR B ft b dv ls sg (vl + 1) PL) ap tk fr to nm)) (fun q s => df_X13_name_161 n q s) else df_X13_name_161 n 0 (uR (xR B ft b dv ls sg (vl + 1) PL) ap tk fr to nm)) else df_X13_name_161 n (sI B 17) (uR (xR B ft b dv ls sg (vl + 1) PL) ap tk fr to nm) := by
  unfold df_X13_name_133
  rw [xR_w21, nb_let, zf_1, xR_u17]
theorem nt_109 {n : Nat} {B : St} {ft : Int32} {ms dv ls : Bool} {sg vl : Nat} {PL : Nat → Int32} {ap tk fr to : Nat} {nm : Int32} (x1 x2 : Int32) (b : Bool) : df_X13_name_109 n x1 x2 (bI b) (uR (xR B ft ms dv ls sg (vl + 1) PL) ap tk fr to nm) = df_X13_name_133 n x1 x2 (bI (ms || (decide (x1 = 0) && !decide (0 ≤ x2)))) (uR (xR B ft ms dv b sg (vl + 1) PL) ap tk fr to nm) := by
  unfold df_X13_name_109 df_X13_name_128 df_X13_name_132
  rw [xR_w23, nb_let, zf_1, xR_u21]
  cases ms with
  | true => rw [if_neg (show ¬ bI true = 0 by decide), Bool.true_or]; rfl
  | false =>
    rw [if_pos (show bI false = 0 from rfl), Bool.false_or]
    by_cases y : x1 = 0
    · rw [if_pos y, decide_eq_true y, Bool.true_and]
      by_cases z : 0 ≤ x2
      · rw [if_pos z, decide_eq_true z]; rfl
      · rw [if_neg z, decide_eq_false z]; rfl
    · rw [if_neg y, decide_eq_false y, Bool.false_and]; rfl
theorem nt_91 {n : Nat} {B : St} {ft : Int32} {ms dv ls : Bool} {sg vl : Nat} {PL : Nat → Int32} {ap tk fr to : Nat} {nm : Int32} (x1 x2 : Int32) (b : Bool) : df_X13_name_91 n x1 x2 (bI b) (uR (xR B ft ms dv ls sg (vl + 1) PL) ap tk fr to nm) = df_X13_name_109 n x1 x2 (bI (ls || !b)) (uR (xR B ft ms dv ls sg (vl + 1) PL) ap tk fr to nm) := by
  unfold df_X13_name_91 df_X13_name_104
  rw [xR_u23]
  cases ls with
  | true => rw [if_neg (show ¬ bI true = 0 by decide)]; rfl
  | false =>
    rw [if_pos (show bI false = 0 from rfl)]
    cases b with
    | true => rw [if_neg (show ¬ bI true = 0 by decide)]; rfl
    | false => rw [if_pos (show bI false = 0 from rfl)]; rfl
/-- the place itself -/
theorem nt_d {n : Nat} {B : St} {ft : Int32} {ms dv ls : Bool} {sg vl : Nat} {PL : Nat → Int32} {ap tk fr to : Nat} {nm : Int32} (h : vl < 32800) : df_X13_name_68 n 1 (-1) (uR (xR B ft ms dv ls sg (vl + 1) PL) ap tk fr to nm) = some (uR (xR B ft ms dv true sg vl (upd PL vl (sI B 17))) ap tk fr to nm) := by
  unfold df_X13_name_68 df_X13_name_90
  rw [if_pos (show (-1 : Int32) < 0 by decide), show (0 : Int32) = bI false from rfl, nt_91, nt_109, nt_133, if_neg (show ¬ (1 : Int32) = 0 by decide), nt_161 _ h, decide_eq_false (show ¬ (1 : Int32) = 0 by decide), Bool.false_and, Bool.or_false, show (!false) = true from rfl, Bool.or_true]
/-- a name that isn't there -/
theorem nt_n {n : Nat} {B : St} {ft : Int32} {ms dv ls : Bool} {sg vl : Nat} {PL : Nat → Int32} {ap tk fr to : Nat} {nm : Int32} (h : vl < 32800) : df_X13_name_68 n 0 (-1) (uR (xR B ft ms dv ls sg (vl + 1) PL) ap tk fr to nm) = some (uR (xR B ft true dv true sg vl (upd PL vl 0)) ap tk fr to nm) := by
  unfold df_X13_name_68 df_X13_name_90
  rw [if_pos (show (-1 : Int32) < 0 by decide)]
  have e := nt_91 (n := n) (B := B) (ft := ft) (ms := ms) (dv := dv) (ls := ls) (sg := sg) (vl := vl) (PL := PL) (ap := ap) (tk := tk) (fr := fr) (to := to) (nm := nm) 0 (-1) false
  rw [show df_X13_name_91 n 0 (-1) 0 = df_X13_name_91 n 0 (-1) (bI false) from rfl, e, nt_109, nt_133, if_pos rfl, if_neg (show ¬ (0 : Int32) ≤ -1 by decide), nt_161 _ h, decide_eq_true (show (0 : Int32) = 0 from rfl), decide_eq_false (show ¬ (0 : Int32) ≤ -1 by decide), show (true && !false) = true from rfl, Bool.or_true, show (!false) = true from rfl, Bool.or_true]
/-- a name that is there -/
theorem nt_k {n : Nat} {B : St} {ft : Int32} {ms dv ls : Bool} {sg vl : Nat} {PL : Nat → Int32} {ap tk fr to : Nat} {nm : Int32} (h : vl < 32800) (k nL : Nat) (X : Nat → Nat) (hk : k < nL) (hL : nL ≤ 16500) (hX : sR B 6 k = nI (X k) ∧ X k < 2 ^ 20) : df_X13_name_68 n 0 (nI k) (uR (xR B ft ms dv ls sg (vl + 1) PL) ap tk fr to nm) = some (uR (xR B ft ms dv (ls || !decide (X k / 131072 = 2)) sg vl (upd PL vl (vlO (sI B 4) X (sR B 7) k))) ap tk fr to nm) := by
  have s1 : (nI (X k) : Int32) >>> ((17 : Int32) &&& 31) = nI (X k / 131072) := pk_shrN (by have := hX.2; omega) _ 17 (by decide)
  have X2 := hX.2
  have fin : ∀ b : Bool, df_X13_name_91 n 0 (nI k) (bI b) (uR (xR B ft ms dv ls sg (vl + 1) PL) ap tk fr to nm) = some (uR (xR B ft ms dv (ls || !b) sg vl (upd PL vl (vlO (sI B 4) X (sR B 7) k))) ap tk fr to nm) := fun b => by
    have z0 : (0 : Int32) ≤ nI k := zle (a := 0) (Nat.zero_le k) (by omega)
    have vo := vo_1 (n := n) (S := (uR (xR B ft ms dv (ls || !b) sg (vl + 1) PL) ap tk fr to nm)) k nL X hk hL hX
    rw [nt_91, nt_109, nt_133, if_pos rfl, if_pos z0, decide_eq_true z0, show (decide ((0 : Int32) = 0) && !true) = false from rfl, Bool.or_false, vo, nb_b2, nt_161 _ h]
    rfl
  unfold df_X13_name_68 df_X13_name_90
  rw [if_neg (show ¬ nI k < (0 : Int32) from znl (b := 0) (Nat.zero_le k) (by omega)), nm_ck (by omega) (by omega), nI_clamp (by omega), uR_r, xR_r6, hX.1, s1]
  by_cases y : X k / 131072 = 2
  · rw [if_pos (show nI (X k / 131072) = (2 : Int32) from congrArg nI y), decide_eq_true y]
    exact fin true
  · rw [if_neg (show ¬ nI (X k / 131072) = (2 : Int32) from zne (b := 2) y (by omega) (by omega)), decide_eq_false y]
    exact fin false
/-- all of name(): the entry's number, if there is one -/
def nmK (c : Nat → Nat) (X : Nat → Nat) (nL q l : Nat) : Nat := if reS l (c q) (c (q + 1)) (c (q + 2)) (c (q + 3)) < 32 then nL else fN (fiP c X q l) 0 nL
theorem nam_R {n L e : Nat} {c : Nat → Nat} {BC B : St} (hT : atx n L e c BC B) {ft : Int32} {ms dv ls : Bool} {sg vl : Nat} {PL : Nat → Int32} {ap : Nat} {nm : Int32} (q l : Nat) (hl : 1 ≤ l) (hq : q + l ≤ L) (hP : ∀ i : Nat, i < l → aP (c (q + i)) = true) (nL : Nat) (X : Nat → Nat) (hL : nL ≤ 16500) (h3 : sI B 3 = nI nL) (hX : ∀ k : Nat, k < nL → sR B 6 k = nI (X k) ∧ X k < 2 ^ 20) (hv : vl < 32800) : df_X13_name n (uR (xR B ft ms dv ls sg (vl + 1) PL) ap 1 q (q + l) nm) = some (if l = 1 ∧ c q = 46 then (uR (xR B ft ms dv true sg vl (upd PL vl (sI B 17))) ap 1 q (q + l) nm) else if nmK c X nL q l < nL then (uR (xR B ft ms dv (ls || !decide (X (nmK c X nL q l) / 131072 = 2)) sg vl (upd PL vl (vlO (sI B 4) X (sR B 7) (nmK c X nL q l)))) ap 1 q (q + l) nm) else (uR (xR B ft true dv true sg vl (upd PL vl 0)) ap 1 q (q + l) nm)) := by
  obtain ⟨hn, hLL, heL, h127, hend, hce, hO, h1, htC, h0, htR, hch⟩ := id hT
  have c127 := h127 q
  have w : df_X13_name_32 n 0 (uR (xR B ft ms dv ls sg (vl + 1) PL) ap 1 q (q + l) nm) = some (if nmK c X nL q l < nL then (uR (xR B ft ms dv (ls || !decide (X (nmK c X nL q l) / 131072 = 2)) sg vl (upd PL vl (vlO (sI B 4) X (sR B 7) (nmK c X nL q l)))) ap 1 q (q + l) nm) else (uR (xR B ft true dv true sg vl (upd PL vl 0)) ap 1 q (q + l) nm)) := by
    have re := re_1 n (S := (uR (xR B ft ms dv ls sg (vl + 1) PL) ap 1 q (q + l) nm)) (c := c) q l (by omega) h127 (by omega) (fun i hi => ⟨hP i hi, htR _ (by omega)⟩)
    have fi := fi_1 (at_R (ft := ft) (ms := ms) (dv := dv) (ls := ls) (sg := sg) (vl := vl + 1) (PL := PL) hT) q l ap 1 q (q + l) nm hq nL X hL h3 hX
    unfold df_X13_name_32 df_X13_name_52 nmK
    rw [if_pos rfl, uR_i9, uR_i10, re, nb_b2]
    by_cases y : reS l (c q) (c (q + 1)) (c (q + 2)) (c (q + 3)) < 32
    · have ri : rI (reS l (c q) (c (q + 1)) (c (q + 2)) (c (q + 3))) = nI (reS l (c q) (c (q + 1)) (c (q + 2)) (c (q + 3))) := if_pos y
      rw [ri, if_neg (show ¬ nI (reS l (c q) (c (q + 1)) (c (q + 2)) (c (q + 3))) < (0 : Int32) from znl (b := 0) (Nat.zero_le _) (by omega)), nt_n hv, if_pos y, if_neg (Nat.lt_irrefl _)]
    · have ri : rI (reS l (c q) (c (q + 1)) (c (q + 2)) (c (q + 3))) = -1 := if_neg y
      rw [ri, if_pos (show (-1 : Int32) < 0 by decide), uR_i9, uR_i10, fi, nb_b2, if_neg y]
      by_cases z : fN (fiP c X q l) 0 nL < nL
      · rw [if_pos z, if_pos z, nt_k hv _ nL X z hL (hX _ z)]
      · rw [if_neg z, if_neg z, nt_n hv]
  unfold df_X13_name df_X13_name_0 df_X13_name_31
  rw [uR_i10, uR_i9, show nI (q + l) - nI q = nI l from (pk_sub (by omega)).trans (congrArg nI (by omega))]
  by_cases y : l = 1
  · rw [if_pos (show nI l = (1 : Int32) from congrArg nI y), nm_ck (by omega) (by omega), nI_clamp (by omega), uR_r, xR_r2, htR q (by omega)]
    by_cases z : c q = 46
    · rw [if_pos (show nI (c q) = (46 : Int32) from congrArg nI z), if_pos ⟨y, z⟩]
      unfold df_X13_name_32 df_X13_name_52
      rw [if_neg (show ¬ (1 : Int32) = 0 by decide), nt_d hv]
    · rw [if_neg (show ¬ nI (c q) = (46 : Int32) from zne (b := 46) z (by omega) (by omega)), if_neg (fun u => z u.2)]
      exact w
  · rw [if_neg (show ¬ nI l = (1 : Int32) from zne (b := 1) y (by omega) (by omega)), if_neg (fun u => y u.1)]
    exact w

/-- the reference's near(): 1 + the entry that a near label means, or 0 -/
def nrP (c X : Nat → Nat) (st d : Nat) (fw : Bool) (k : Nat) : Bool := decide (3 ≤ X k / 131072) && (decide (c (X k % 131072) = 48 + d) && decide (fw = decide (st < X k % 131072)))
def frF (fw : Bool) (P : Nat → Bool) : Nat → Nat
  | 0 => 0
  | k + 1 => if P k = true ∧ ¬ (fw = true ∧ 0 < frF fw P k) then k + 1 else frF fw P k
theorem fr_l (fw : Bool) (P : Nat → Bool) : ∀ k : Nat, frF fw P k ≤ k := fun k => by
  induction k with
  | zero => exact Nat.le_refl 0
  | succ k ih =>
    show (if P k = true ∧ ¬ (fw = true ∧ 0 < frF fw P k) then k + 1 else frF fw P k) ≤ k + 1
    split <;> omega
theorem fm_0 {f : Nat} (h : f < 2 ^ 30) : (nI f - 1 < (0 : Int32) ↔ f = 0) ∧ ((0 : Int32) ≤ nI f - 1 ↔ 0 < f) := by
  have e : (nI f - 1 : Int32).toInt = (f : Int) - 1 := by rw [show (1 : Int32) = nI 1 from rfl, pk_sub_toInt h (by omega)]; rfl
  have z : (0 : Int32).toInt = 0 := rfl
  rw [Int32.lt_iff_toInt_lt, Int32.le_iff_toInt_le, e, z]
  omega
theorem ne_t {n L e : Nat} {c : Nat → Nat} {BC : St} {B : St} {ft : Int32} {ms dv ls : Bool} {sg vl : Nat} {PL : Nat → Int32} {ap tk fr to : Nat} {nm : Int32} (hT : atx n L e c BC B) (nL : Nat) (X : Nat → Nat) (hL : nL ≤ 16500) (h3 : sI B 3 = nI nL) (hX : ∀ k : Nat, k < nL → sR B 6 k = nI (X k) ∧ X k < 2 ^ 20) (hD : ∀ k : Nat, k < nL → 3 ≤ X k / 131072 → X k % 131072 < L ∧ 48 ≤ c (X k % 131072)) (d st : Nat) (fw : Bool) (hd : d ≤ 9) (hst : st < 2 ^ 20) (k g : Nat) (hk : k < nL) : df_X13_near_20 n (g + 1) (nI d) (bI fw) (nI st) (nI (frF fw (nrP c X st d fw) k) - 1) (nI k) (uR (xR B ft ms dv ls sg vl PL) ap tk fr to nm) = df_X13_near_20 n g (nI d) (bI fw) (nI st) (nI (frF fw (nrP c X st d fw) (k + 1)) - 1) (nI (k + 1)) (uR (xR B ft ms dv ls sg vl PL) ap tk fr to nm) := by
  obtain ⟨hn, hLL, heL, h127, hend, hce, hO, h1, htC, h0, htR, hch⟩ := id hT
  obtain ⟨x1, x2⟩ := hX k hk
  have s1 : (nI (X k) : Int32) >>> ((17 : Int32) &&& 31) = nI (X k / 131072) := pk_shrN (by omega) _ 17 (by decide)
  have s2 : nI (X k) &&& 131071 = nI (X k % 131072) := pk_andN (by omega) 17 (by decide)
  have fl := fr_l fw (nrP c X st d fw) k
  have f0 := fm_0 (f := frF fw (nrP c X st d fw) k) (by omega)
  have go : ∀ x4 : Int32, df_X13_near_101 n (df_X13_near_20 n g) (nI d) (bI fw) (nI st) x4 (nI k) (uR (xR B ft ms dv ls sg vl PL) ap tk fr to nm) = df_X13_near_20 n g (nI d) (bI fw) (nI st) x4 (nI (k + 1)) (uR (xR B ft ms dv ls sg vl PL) ap tk fr to nm) := fun x4 => by
    unfold df_X13_near_101
    rw [nb_let, show nI k + Int32.ofInt 1 = nI (k + 1) from nI_add k 1]
  have sk : nrP c X st d fw k = false → frF fw (nrP c X st d fw) (k + 1) = frF fw (nrP c X st d fw) k := fun z => if_neg (fun w => by rw [z] at w; exact absurd w.1 (by decide))
  show dF_X13_near_20 n (df_X13_near_20 n g) (nI d) (bI fw) (nI st) (nI (frF fw (nrP c X st d fw) k) - 1) (nI k) (uR (xR B ft ms dv ls sg vl PL) ap tk fr to nm) = _
  unfold dF_X13_near_20
  rw [xR_u3, h3, if_neg (znle hk (by omega)), nm_ck (by omega) (by omega), nI_clamp (by omega), uR_r, xR_r6, x1, s2, nb_let, nm_ck (by omega) (by omega), s1]
  by_cases y : X k / 131072 < 3
  · rw [if_pos (show nI (X k / 131072) < (3 : Int32) from zlt (b := 3) y (by omega)), go, sk (by unfold nrP; rw [decide_eq_false (by omega), Bool.false_and])]
  rw [if_neg (show ¬ nI (X k / 131072) < (3 : Int32) from znl (b := 3) (by omega) (by omega))]
  obtain ⟨d1, d2⟩ := hD k hk (by omega)
  have c1 := h127 (X k % 131072)
  rw [nm_ck (by omega) (by omega), nI_clamp (by omega), uR_r, xR_r2, htR _ d1, show nI (c (X k % 131072)) - (48 : Int32) = nI (c (X k % 131072) - 48) from pk_sub (b := 48) d2]
  by_cases z : c (X k % 131072) = 48 + d
  · rw [if_pos (show nI (c (X k % 131072) - 48) = nI d from congrArg nI (by omega))]
    have ee : nrP c X st d fw k = decide (fw = decide (st < X k % 131072)) := by unfold nrP; rw [decide_eq_true (show 3 ≤ X k / 131072 by omega), decide_eq_true z, Bool.true_and, Bool.true_and]
    have key : ∀ b : Bool, b = decide (st < X k % 131072) → df_X13_near_82 n (df_X13_near_20 n g) (nI d) (bI fw) (nI st) (nI (frF fw (nrP c X st d fw) k) - 1) (nI k) (bI fw) (bI b) (uR (xR B ft ms dv ls sg vl PL) ap tk fr to nm) = df_X13_near_20 n g (nI d) (bI fw) (nI st) (nI (frF fw (nrP c X st d fw) (k + 1)) - 1) (nI (k + 1)) (uR (xR B ft ms dv ls sg vl PL) ap tk fr to nm) := fun b hb => by
      unfold df_X13_near_82 df_X13_near_97
      rw [go, go]
      rw [← hb] at ee
      by_cases q : fw = b
      · have ey : nrP c X st d fw k = true := by rw [ee]; exact decide_eq_true q
        rw [if_pos (congrArg bI q)]
        have hit : ¬ (fw = true ∧ 0 < frF fw (nrP c X st d fw) k) → frF fw (nrP c X st d fw) (k + 1) = k + 1 := fun w => if_pos ⟨ey, w⟩
        have k1 : nI (k + 1) - (1 : Int32) = nI k := pk_sub (b := 1) (by omega)
        by_cases u : fw = true
        · rw [if_neg (show ¬ bI fw = 0 by rw [u]; decide)]
          by_cases w : frF fw (nrP c X st d fw) k = 0
          · rw [if_pos (f0.1.mpr w), hit (by omega), k1]
          · rw [if_neg (fun v => w (f0.1.mp v)), show frF fw (nrP c X st d fw) (k + 1) = frF fw (nrP c X st d fw) k from if_neg (fun v => v.2 ⟨u, by omega⟩)]
        · rw [if_pos (show bI fw = 0 by rw [show fw = false by cases fw; rfl; exact absurd rfl u]; rfl), hit (fun v => u v.1), k1]
      · have en : nrP c X st d fw k = false := by rw [ee]; exact decide_eq_false q
        rw [if_neg (show ¬ bI fw = bI b from fun v => q (by revert v; cases fw <;> cases b <;> decide)), sk en]
    by_cases w : st < X k % 131072
    · rw [if_neg (znle w (by omega))]
      exact key true (decide_eq_true w).symm
    · rw [if_pos (zle (show X k % 131072 ≤ st by omega) (by omega))]
      exact key false (decide_eq_false w).symm
  · rw [if_neg (zne (show ¬ c (X k % 131072) - 48 = d by omega) (by omega) (by omega)), go, sk (by unfold nrP; rw [decide_eq_false z, Bool.false_and, Bool.and_false])]
/-- all of near() -/
theorem nea_R {n L e : Nat} {c : Nat → Nat} {BC : St} {B : St} {ft : Int32} {ms dv ls : Bool} {sg vl : Nat} {PL : Nat → Int32} {ap tk fr to : Nat} {nm : Int32} (hT : atx n L e c BC B) (nL : Nat) (X : Nat → Nat) (hL : nL ≤ 16500) (h3 : sI B 3 = nI nL) (hX : ∀ k : Nat, k < nL → sR B 6 k = nI (X k) ∧ X k < 2 ^ 20) (hD : ∀ k : Nat, k < nL → 3 ≤ X k / 131072 → X k % 131072 < L ∧ 48 ≤ c (X k % 131072)) (d st cu Y : Nat) (fw : Bool) (hd : d ≤ 9) (h16 : sI B 16 = nI cu) (hcu : cu < 11000) (hY : sR B 3 cu = nI Y) (hY2 : Y < 2 ^ 31) (hst : st = Y % 131072) : df_X13_near n (nI d) (bI fw) (uR (xR B ft ms dv ls sg vl PL) ap tk fr to nm) = some (if 0 < frF fw (nrP c X st d fw) nL then vlO (sI B 4) X (sR B 7) (frF fw (nrP c X st d fw) nL - 1) else 0, (uR (xR B ft (ms || decide (frF fw (nrP c X st d fw) nL = 0)) dv ls sg vl PL) ap tk fr to nm)) := by
  have hn := hT.1
  have lp : ∀ j k g : Nat, k + j = nL → j < g → ∃ g' : Nat, df_X13_near_20 n g (nI d) (bI fw) (nI st) (nI (frF fw (nrP c X st d fw) k) - 1) (nI k) (uR (xR B ft ms dv ls sg vl PL) ap tk fr to nm) = df_X13_near_20 n (g' + 1) (nI d) (bI fw) (nI st) (nI (frF fw (nrP c X st d fw) nL) - 1) (nI nL) (uR (xR B ft ms dv ls sg vl PL) ap tk fr to nm) := fun j => by
    induction j with
    | zero =>
      intro k g e1 e2
      have e : k = nL := by omega
      subst e
      exact ⟨g - 1, by rw [show g - 1 + 1 = g by omega]⟩
    | succ j ih =>
      intro k g e1 e2
      obtain ⟨g, rfl⟩ : ∃ i : Nat, g = i + 1 := ⟨g - 1, by omega⟩
      rw [ne_t hT nL X hL h3 hX hD d st fw hd (by omega) k g (by omega)]
      exact ih (k + 1) g (by omega) (by omega)
  obtain ⟨g', lg⟩ := lp nL 0 n (by omega) (by omega)
  have fl := fr_l fw (nrP c X st d fw) nL
  have f0 := fm_0 (f := frF fw (nrP c X st d fw) nL) (by omega)
  have hd0 : df_X13_near n (nI d) (bI fw) (uR (xR B ft ms dv ls sg vl PL) ap tk fr to nm) = df_X13_near_20 n n (nI d) (bI fw) (nI st) (nI (frF fw (nrP c X st d fw) 0) - 1) (nI 0) (uR (xR B ft ms dv ls sg vl PL) ap tk fr to nm) := by
    unfold df_X13_near df_X13_near_0
    rw [xR_u16, h16, nm_ck hcu (by omega), nI_clamp (by omega), uR_r, xR_r3, hY, show nI Y &&& 131071 = nI (Y % 131072) from pk_andN (by omega) 17 (by decide), nb_let, ← hst]
    rfl
  rw [hd0, lg]
  generalize frF fw (nrP c X st d fw) nL = f at fl f0
  have fin : ∀ b : Bool, df_X13_near_125 n (nI f - 1) (bI b) (uR (xR B ft ms dv ls sg vl PL) ap tk fr to nm) = some (if 0 < f then vlO (sI B 4) X (sR B 7) (f - 1) else 0, (uR (xR B ft b dv ls sg vl PL) ap tk fr to nm)) := fun b => by
    have z1 : ∀ x : Option (Int32 × St), nd_f .boolean (bI b) (nd_z .boolean (bI b) x) = x := fun x => by
      have z2 : nd_z .boolean (bI b) x = x := by cases b <;> exact nar_z (by decide)
      rw [z2]
      cases b <;> rfl
    unfold df_X13_near_125 df_X13_near_143
    rw [xR_w21, nb_let, z1]
    by_cases y : 0 < f
    · have vo := vo_1 (n := n) (S := (uR (xR B ft b dv ls sg vl PL) ap tk fr to nm)) (f - 1) nL X (by omega) hL (hX _ (by omega))
      rw [if_pos (f0.2.mpr y), if_pos y, show nI f - (1 : Int32) = nI (f - 1) from pk_sub (b := 1) y, vo, nb_b2]
      rfl
    · rw [if_neg (fun v => y (f0.2.mp v)), if_neg y]
  show dF_X13_near_20 n (df_X13_near_20 n g') (nI d) (bI fw) (nI st) (nI f - 1) (nI nL) (uR (xR B ft ms dv ls sg vl PL) ap tk fr to nm) = _
  unfold dF_X13_near_20 df_X13_near_120
  rw [xR_u3, h3, if_pos (zle (Nat.le_refl nL) (by omega)), xR_u21]
  cases ms with
  | true => rw [if_neg (show ¬ bI true = 0 by decide), show df_X13_near_125 n (nI f - 1) 1 (uR (xR B ft true dv ls sg vl PL) ap tk fr to nm) = _ from fin true, Bool.true_or]
  | false =>
    rw [if_pos (show bI false = 0 from rfl)]
    by_cases y : 0 < f
    · rw [if_pos (f0.2.mpr y), show df_X13_near_125 n (nI f - 1) 0 (uR (xR B ft false dv ls sg vl PL) ap tk fr to nm) = _ from fin false, decide_eq_false (show ¬ f = 0 by omega)]
      rfl
    · rw [if_neg (fun v => y (f0.2.mp v)), show df_X13_near_125 n (nI f - 1) 1 (uR (xR B ft false dv ls sg vl PL) ap tk fr to nm) = _ from fin true, decide_eq_true (show f = 0 by omega)]
      rfl

/-- what names and near labels are worth, from the reference's table -/
def nmO (c X : Nat → Nat) (e nL : Nat) (o : Tp) : Nat := nmK c X nL o.2.1 (eT c e o.2.1 - o.2.1)
def VV (c X : Nat → Nat) (e nL st : Nat) (ts ad : Int32) (W : Nat → Int32) (o : Tp) : Int32 × Bool := if o.1 = 16 then (nI o.2.2, false) else if o.1 = 18 then (ad, false) else if o.1 = 17 then (if nmO c X e nL o < nL then (vlO ts X W (nmO c X e nL o), false) else (0, true)) else (if 0 < frF (decide (o.1 = 19)) (nrP c X st o.2.2 (decide (o.1 = 19))) nL then (vlO ts X W (frF (decide (o.1 = 19)) (nrP c X st o.2.2 (decide (o.1 = 19))) nL - 1), false) else (0, true))
def loV (c X : Nat → Nat) (e nL : Nat) (o : Tp) : Bool := if o.1 = 16 then false else if o.1 = 17 then !(decide (nmO c X e nL o < nL) && decide (X (nmO c X e nL o) / 131072 = 2)) else true
theorem VA_1 {n L e : Nat} {c : Nat → Nat} {BC B : St} (hT : atx n L e c BC B) (nL : Nat) (X : Nat → Nat) (hL : nL ≤ 16500) (h3 : sI B 3 = nI nL) (hX : ∀ k : Nat, k < nL → sR B 6 k = nI (X k) ∧ X k < 2 ^ 20) (hD : ∀ k : Nat, k < nL → 3 ≤ X k / 131072 → X k % 131072 < L ∧ 48 ≤ c (X k % 131072)) (st cu Y : Nat) (h16 : sI B 16 = nI cu) (hcu : cu < 11000) (hY : sR B 3 cu = nI Y) (hY2 : Y < 2 ^ 31) (hst : st = Y % 131072) : VA n e c B (VV c X e nL st (sI B 4) (sI B 17) (sR B 7)) (loV c X e nL) := by
  have heL := hT.2.2.1
  refine ⟨fun v => ⟨rfl, rfl, rfl, rfl⟩, ?_, ?_⟩
  · intro q hq ha hd hw ft ms dv ls sg vl PL ap nm hv
    obtain ⟨e1, e2, e3, e4⟩ := eT_1 c (Nat.le_of_lt hq)
    have e5 := eT_p c hq ha
    have r := nam_R (ft := ft) (ms := ms) (dv := dv) (ls := ls) (sg := sg) (vl := vl) (PL := PL) (ap := ap) (nm := nm) hT q (eT c e q - q) (by omega) (by omega) (fun i hi => e4 _ (by omega) (by omega)) nL X hL h3 hX hv
    rw [show q + (eT c e q - q) = eT c e q by omega] at r
    rw [r]
    unfold opW
    by_cases y : eT c e q = q + 1 ∧ c q = 46
    · rw [if_pos (show eT c e q - q = 1 ∧ c q = 46 from ⟨by omega, y.2⟩), if_pos y, show VV c X e nL st (sI B 4) (sI B 17) (sR B 7) (18, 0, 0) = (sI B 17, false) from rfl, show loV c X e nL (18, 0, 0) = true from rfl, Bool.or_true, Bool.or_false]
    · rw [if_neg (show ¬ (eT c e q - q = 1 ∧ c q = 46) from fun z => y ⟨by omega, z.2⟩), if_neg y]
      have ev : VV c X e nL st (sI B 4) (sI B 17) (sR B 7) (17, q, 0) = if nmK c X nL q (eT c e q - q) < nL then (vlO (sI B 4) X (sR B 7) (nmK c X nL q (eT c e q - q)), false) else (0, true) := rfl
      have el : loV c X e nL (17, q, 0) = !(decide (nmK c X nL q (eT c e q - q) < nL) && decide (X (nmK c X nL q (eT c e q - q)) / 131072 = 2)) := rfl
      rw [ev, el]
      by_cases z : nmK c X nL q (eT c e q - q) < nL
      · rw [if_pos z, if_pos z, decide_eq_true z, Bool.true_and, Bool.or_false]
      · rw [if_neg z, if_neg z, decide_eq_false z, Bool.false_and, show (!false) = true from rfl, Bool.or_true, Bool.or_true]
  · intro d fw hd ft ms dv ls sg vl PL ap tk fr to nm
    have r := nea_R (ft := ft) (ms := ms) (dv := dv) (ls := ls) (sg := sg) (vl := vl) (PL := PL) (ap := ap) (tk := tk) (fr := fr) (to := to) (nm := nm) hT nL X hL h3 hX hD d st cu Y fw hd h16 hcu hY hY2 hst
    rw [r]
    have ev : VV c X e nL st (sI B 4) (sI B 17) (sR B 7) (if fw = true then 19 else 20, 0, d) = if 0 < frF fw (nrP c X st d fw) nL then (vlO (sI B 4) X (sR B 7) (frF fw (nrP c X st d fw) nL - 1), false) else (0, true) := by cases fw <;> rfl
    rw [ev]
    by_cases z : 0 < frF fw (nrP c X st d fw) nL
    · rw [if_pos z, if_pos z, decide_eq_false (by omega)]
    · rw [if_neg z, if_neg z, decide_eq_true (show frF fw (nrP c X st d fw) nL = 0 by omega)]

/-- the class's tables against the reference's: what a name, a near label is worth -/
def lam (X : Nat → Nat) : Nat → Nat
  | 0 => 0
  | k + 1 => lam X k + (if X k / 131072 = 2 then 0 else 1)
theorem lam_m (X : Nat → Nat) : ∀ j k : Nat, lam X k ≤ lam X (k + j) := fun j => by
  induction j with
  | zero => intro k; exact Nat.le_refl _
  | succ j ih =>
    intro k
    have := ih k
    show lam X k ≤ lam X (k + j) + (if X (k + j) / 131072 = 2 then 0 else 1)
    omega
theorem lam_l {X : Nat → Nat} {k nL : Nat} (h : k < nL) (hk : ¬ X k / 131072 = 2) : lam X k < lam X nL := by
  have a := lam_m X (nL - (k + 1)) (k + 1)
  rw [show k + 1 + (nL - (k + 1)) = nL by omega] at a
  have b : lam X (k + 1) = lam X k + 1 := by show lam X k + (if X k / 131072 = 2 then 0 else 1) = _; rw [if_neg hk]
  omega
theorem re_c {l a b d e a' b' d' e' : Nat} (h0 : 0 < l → a = a') (h1 : 1 < l → b = b') (h2 : 2 < l → d = d') (h3 : 3 < l → e = e') : reS l a b d e = reS l a' b' d' e' := by
  by_cases y : l < 2 ∨ 4 < l
  · unfold reS
    rw [if_neg (show ¬ (l = 4 ∧ a = 122 ∧ b = 101 ∧ d = 114 ∧ e = 111) by omega), if_neg (show ¬ (l = 2 ∧ a = 114 ∧ b = 97) by omega), if_neg (show ¬ (l = 2 ∧ a = 115 ∧ b = 112) by omega), if_neg (show ¬ (l = 2 ∧ a = 103 ∧ b = 112) by omega), if_neg (show ¬ (l = 2 ∧ a = 116 ∧ b = 112) by omega), if_neg (show ¬ (l = 2 ∧ a = 102 ∧ b = 112) by omega), if_pos (show l < 2 ∨ 3 < l by omega), if_neg (show ¬ (l = 4 ∧ a' = 122 ∧ b' = 101 ∧ d' = 114 ∧ e' = 111) by omega), if_neg (show ¬ (l = 2 ∧ a' = 114 ∧ b' = 97) by omega), if_neg (show ¬ (l = 2 ∧ a' = 115 ∧ b' = 112) by omega), if_neg (show ¬ (l = 2 ∧ a' = 103 ∧ b' = 112) by omega), if_neg (show ¬ (l = 2 ∧ a' = 116 ∧ b' = 112) by omega), if_neg (show ¬ (l = 2 ∧ a' = 102 ∧ b' = 112) by omega), if_pos (show l < 2 ∨ 3 < l by omega)]
  · have h0 := h0 (by omega)
    have h1 := h1 (by omega)
    subst h0
    subst h1
    by_cases y2 : l = 2
    · subst y2
      exact (ts2 a b d e).trans (ts2 a b d' e').symm
    have h2 := h2 (by omega)
    subst h2
    by_cases y3 : l = 3
    · subst y3
      exact (ts3 a b d e).trans (ts3 a b d e').symm
    have h3 := h3 (by omega)
    subst h3
    rfl
theorem nk_W {c X : Nat → Nat} {nL b l q l' : Nat} (h : sW c b l q l') : nmK c X nL b l = nmK c X nL q l' := by
  obtain ⟨e, h⟩ := h
  subst e
  unfold nmK
  rw [re_c (l := l) (a := c b) (b := c (b + 1)) (d := c (b + 2)) (e := c (b + 3)) (a' := c q) (b' := c (q + 1)) (d' := c (q + 2)) (e' := c (q + 3)) (fun z => h 0 z) (fun z => h 1 z) (fun z => h 2 z) (fun z => h 3 z), show fiP c X b l = fiP c X q l from funext fun k => by
    unfold fiP alk
    congr 2
    exact decide_eq_decide.mpr ⟨fun z t ht => (z t ht).trans (h t ht), fun z t ht => (z t ht).trans (h t ht).symm⟩]
theorem o117_y {n : Nat} {B : St} {tp : Nat} {tr : Int32} {S : Nat → Int32} (j : Nat) (hj : j < 16384) : df_X9_operand_117 n (nI j) (vC B tp tr S) = some (sR B 6 (5 * j + 2), vC B tp tr S) := by
  unfold df_X9_operand_117
  rw [if_pos (show (0 : Int32) ≤ nI j from zle (a := 0) (Nat.zero_le j) (by omega)), show nI j * (5 : Int32) = nI (5 * j) from (pk_mul j 5).trans (congrArg nI (Nat.mul_comm j 5)), show nI (5 * j) + (2 : Int32) = nI (5 * j + 2) from nI_add (5 * j) 2, nm_ck (by omega) (by omega), nI_clamp (by omega), vC_r6]
theorem o117_n {n : Nat} {B : St} {tp : Nat} {tr : Int32} {S : Nat → Int32} {x : Int32} (h : ¬ 0 ≤ x) : df_X9_operand_117 n x (vC B tp tr S) = some (0, vC B tp 8 S) := by
  unfold df_X9_operand_117
  rw [if_neg h, vC_w11, nb_let]
/-- the class's label that an entry of the reference is, 1 more, or 0 -/
def lmF (X : Nat → Nat) (f : Nat) : Nat := if f = 0 then 0 else lam X (f - 1) + 1
/-- both tables say the same -/
def TT (c X : Nat → Nat) (nL st : Nat) (ts : Int32) (W : Nat → Int32) (NRp : Nat → Int32) (ns : Nat) (bs ws : Nat → Nat) (B : St) : Prop := lam X nL ≤ 16384 ∧ (∀ id : Nat, id < ns → (nmK c X nL (bs id) (ws id) < nL ∧ X (nmK c X nL (bs id) (ws id)) / 131072 = 2 → sR B 3 (5 * id + 2) = 1 ∧ sR B 3 (5 * id + 3) = W (nmK c X nL (bs id) (ws id))) ∧ (nmK c X nL (bs id) (ws id) < nL ∧ ¬ X (nmK c X nL (bs id) (ws id)) / 131072 = 2 → sR B 3 (5 * id + 2) = 2 ∧ sR B 3 (5 * id + 3) = nI (lam X (nmK c X nL (bs id) (ws id)))) ∧ (¬ nmK c X nL (bs id) (ws id) < nL → sR B 3 (5 * id + 2) = 0)) ∧ (∀ k : Nat, k < nL → ¬ X k / 131072 = 2 → sR B 6 (5 * lam X k + 2) = vlO ts X W k) ∧ (∀ d : Nat, d ≤ 9 → NRp (10 + d) = nI (lmF X (frF false (nrP c X st d false) nL)) ∧ (NRp (10 + d) = 0 → sR B 5 d = nI (lmF X (frF true (nrP c X st d true) nL))) ∧ ∀ j : Nat, j < 16384 → NRp (10 + d) = nI (j + 1) → sR B 6 (5 * j + 3) = nI (lmF X (frF true (nrP c X st d true) nL)))
theorem fr_P (fw : Bool) (P : Nat → Bool) : ∀ k : Nat, 0 < frF fw P k → P (frF fw P k - 1) = true := fun k => by
  induction k with
  | zero => intro h; exact absurd h (Nat.lt_irrefl 0)
  | succ k ih =>
    intro h
    by_cases y : P k = true ∧ ¬ (fw = true ∧ 0 < frF fw P k)
    · rw [show frF fw P (k + 1) = k + 1 from if_pos y]
      exact y.1
    · rw [show frF fw P (k + 1) = frF fw P k from if_neg y] at h ⊢
      exact ih h
theorem o113_1 {n : Nat} {B : St} {tp : Nat} {tr : Int32} {S : Nat → Int32} {c X : Nat → Nat} {nL st d : Nat} {fw : Bool} {ts : Int32} {W : Nat → Int32} (hl : lam X nL ≤ 16384) (hp : ∀ k : Nat, k < nL → ¬ X k / 131072 = 2 → sR B 6 (5 * lam X k + 2) = vlO ts X W k) : df_X9_operand_117 n (nI (lmF X (frF fw (nrP c X st d fw) nL)) - 1) (vC B tp tr S) = some ((if 0 < frF fw (nrP c X st d fw) nL then (vlO ts X W (frF fw (nrP c X st d fw) nL - 1), false) else ((0 : Int32), true)).1, vC B tp (if (if 0 < frF fw (nrP c X st d fw) nL then (vlO ts X W (frF fw (nrP c X st d fw) nL - 1), false) else ((0 : Int32), true)).2 = true then 8 else tr) S) := by
  have fl := fr_l fw (nrP c X st d fw) nL
  have fp := fr_P fw (nrP c X st d fw) nL
  generalize frF fw (nrP c X st d fw) nL = f at fl fp
  unfold lmF
  by_cases y : f = 0
  · rw [if_pos y, if_neg (show ¬ 0 < f by omega), o117_n (show ¬ (0 : Int32) ≤ nI 0 - 1 by decide), if_pos rfl]
  · have P1 := fp (by omega)
    have k2 : ¬ X (f - 1) / 131072 = 2 := fun z => by
      unfold nrP at P1
      rw [decide_eq_false (by omega), Bool.false_and] at P1
      exact absurd P1 (by decide)
    have ll := lam_l (X := X) (k := f - 1) (nL := nL) (by omega) k2
    rw [if_neg y, if_pos (show 0 < f by omega), show nI (lam X (f - 1) + 1) - (1 : Int32) = nI (lam X (f - 1)) from pk_sub (b := 1) (by omega), o117_y _ (by omega), hp _ (by omega) k2, if_neg (show ¬ false = true by decide)]
theorem evH_1 {n : Nat} {B : St} {hr : Int32} {c X : Nat → Nat} {e nL st : Nat} {ts : Int32} {W NRp C0 A0 : Nat → Int32} {s0 ns m : Nat} {bs ws : Nat → Nat} {P : Nat → Tp} (hns : ns ≤ 16384) (hC : CR NRp c e C0 A0 s0 ns bs ws m P (sR B 0) (sR B 1)) (hTT : TT c X nL st ts W NRp ns bs ws B) : evH n B hr (VV c X e nL st ts hr W) s0 m P := by
  intro i hi h16 tp tr S
  obtain ⟨c1, a1, a2, a3, a4, a5⟩ := hC.2 i hi
  obtain ⟨T1, T2, T3, T4⟩ := hTT
  rw [c1]
  generalize P i = o at a1 a2 a3 a4 a5 h16
  obtain ⟨κ, q, v⟩ := o
  have a5 : 1 ≤ κ ∧ κ ≤ 20 ∧ ¬ κ = 15 ∧ (κ = 19 ∨ κ = 20 → v ≤ 9) := a5
  have h16 : 16 ≤ κ := h16
  show df_X9_operand n (nI κ) (sR B 1 (s0 + i)) hr (vC B tp tr S) = _
  have cc : κ = 16 ∨ κ = 17 ∨ κ = 18 ∨ κ = 19 ∨ κ = 20 := by omega
  unfold df_X9_operand df_X9_operand_0
  rcases cc with z | z | z | z | z
  · subst z
    rw [if_pos (show nI 16 = (16 : Int32) from rfl), a1 rfl]
    rfl
  · subst z
    obtain ⟨id, e1, e2, e3⟩ := a2 rfl
    have e3 : sW c (bs id) (ws id) q (eT c e q - q) := e3
    have kW := nk_W (X := X) (nL := nL) e3
    obtain ⟨t1, t2, t3⟩ := T2 id e2
    rw [kW] at t1 t2 t3
    rw [if_neg (show ¬ nI 17 = (16 : Int32) by decide), if_neg (show ¬ nI 17 = (18 : Int32) by decide), if_pos (show nI 17 = (17 : Int32) from rfl), e1, show nI id * (5 : Int32) = nI (5 * id) from (pk_mul id 5).trans (congrArg nI (Nat.mul_comm id 5)), show nI (5 * id) + (2 : Int32) = nI (5 * id + 2) from nI_add (5 * id) 2, show nI (5 * id) + (3 : Int32) = nI (5 * id + 3) from nI_add (5 * id) 3, nm_ck (by omega) (by omega), nI_clamp (by omega), vC_r3, nb_let, nm_ck (by omega) (by omega), nI_clamp (by omega), nm_ck (by omega) (by omega)]
    have ev : VV c X e nL st ts hr W (17, q, v) = if nmK c X nL q (eT c e q - q) < nL then (vlO ts X W (nmK c X nL q (eT c e q - q)), false) else (0, true) := rfl
    rw [ev]
    unfold df_X9_operand_71
    by_cases y : nmK c X nL q (eT c e q - q) < nL
    · rw [if_pos y]
      by_cases w : X (nmK c X nL q (eT c e q - q)) / 131072 = 2
      · obtain ⟨u1, u2⟩ := t1 ⟨y, w⟩
        rw [u1, if_pos rfl, u2, show vlO ts X W (nmK c X nL q (eT c e q - q)) = W (nmK c X nL q (eT c e q - q)) from if_neg (by omega)]
        rfl
      · obtain ⟨u1, u2⟩ := t2 ⟨y, w⟩
        have ll := lam_l y w
        rw [u1, if_neg (show ¬ (2 : Int32) = 1 by decide), if_pos rfl, u2, o117_y _ (by omega), T3 _ y w]
        rfl
    · rw [if_neg y, t3 y, if_neg (show ¬ (0 : Int32) = 1 by decide), if_neg (show ¬ (0 : Int32) = 2 by decide), o117_n (show ¬ (0 : Int32) ≤ -1 by decide)]
      rfl
  · subst z
    rw [if_neg (show ¬ nI 18 = (16 : Int32) by decide), if_pos (show nI 18 = (18 : Int32) from rfl)]
    rfl
  · subst z
    have v9 := a5.2.2.2 (Or.inl rfl)
    obtain ⟨u1, u2, u3⟩ := T4 v v9
    have α := a3 rfl
    have α : sR B 1 (s0 + i) = if NRp (10 + v) - 1 < 0 then -1 - nI v else NRp (10 + v) - 1 := α
    have ev : VV c X e nL st ts hr W (19, q, v) = if 0 < frF true (nrP c X st v true) nL then (vlO ts X W (frF true (nrP c X st v true) nL - 1), false) else (0, true) := rfl
    have fin := o113_1 (n := n) (B := B) (tp := tp) (tr := tr) (S := S) (c := c) (X := X) (nL := nL) (st := st) (d := v) (fw := true) (ts := ts) (W := W) T1 T3
    rw [if_neg (show ¬ nI 19 = (16 : Int32) by decide), if_neg (show ¬ nI 19 = (18 : Int32) by decide), if_neg (show ¬ nI 19 = (17 : Int32) by decide), if_neg (show ¬ nI 19 = (20 : Int32) by decide), ev]
    unfold df_X9_operand_113
    have fl := fr_l false (nrP c X st v false) nL
    have fP := fr_P false (nrP c X st v false) nL
    generalize frF false (nrP c X st v false) nL = f at u1 fl fP
    by_cases y : f = 0
    · have u1 : NRp (10 + v) = 0 := by rw [u1, y]; rfl
      rw [u1, if_pos (show (0 : Int32) - 1 < 0 by decide)] at α
      have neg : ¬ (0 : Int32) ≤ -1 - nI v := by
        intro z
        rw [Int32.le_iff_toInt_le, show (-1 : Int32) - nI v = nI 0 - nI (1 + v) by rw [← nI_add, show (-1 : Int32) = nI 0 - nI 1 by decide, Int32.sub_sub], pk_sub_toInt (by omega) (by omega)] at z
        have z : (0 : Int) ≤ ((0 : Nat) : Int) - ((1 + v : Nat) : Int) := z
        omega
      have idx : (-1 : Int32) - (-1 - nI v) = nI v := by rw [Int32.sub_eq_add_neg (-1) (-1 - nI v), Int32.neg_sub, Int32.add_comm, Int32.sub_add_cancel]
      rw [α, if_neg neg, idx, nm_ck (by omega) (by omega), nI_clamp (by omega), vC_r5, u2 u1, nb_let]
      exact fin
    · have P1 := fP (by omega)
      have k2 : ¬ X (f - 1) / 131072 = 2 := fun z => by
        unfold nrP at P1
        rw [decide_eq_false (by omega), Bool.false_and] at P1
        exact absurd P1 (by decide)
      have ll := lam_l (X := X) (k := f - 1) (nL := nL) (by omega) k2
      have u1 : NRp (10 + v) = nI (lam X (f - 1) + 1) := by rw [u1]; unfold lmF; rw [if_neg y]
      have u4 := u3 (lam X (f - 1)) (by omega) u1
      rw [u1, show nI (lam X (f - 1) + 1) - (1 : Int32) = nI (lam X (f - 1)) from pk_sub (b := 1) (by omega), if_neg (show ¬ nI (lam X (f - 1)) < (0 : Int32) from znl (b := 0) (Nat.zero_le _) (by omega))] at α
      rw [α, if_pos (show (0 : Int32) ≤ nI (lam X (f - 1)) from zle (a := 0) (Nat.zero_le _) (by omega)), show nI (lam X (f - 1)) * (5 : Int32) = nI (5 * lam X (f - 1)) from (pk_mul _ 5).trans (congrArg nI (Nat.mul_comm _ 5)), show nI (5 * lam X (f - 1)) + (3 : Int32) = nI (5 * lam X (f - 1) + 3) from nI_add _ 3, nm_ck (by omega) (by omega), nI_clamp (by omega), vC_r6, u4, nb_let]
      exact fin
  · subst z
    have v9 := a5.2.2.2 (Or.inr rfl)
    obtain ⟨u1, u2, u3⟩ := T4 v v9
    have α : sR B 1 (s0 + i) = NRp (10 + v) - 1 := a4 rfl
    have ev : VV c X e nL st ts hr W (20, q, v) = if 0 < frF false (nrP c X st v false) nL then (vlO ts X W (frF false (nrP c X st v false) nL - 1), false) else (0, true) := rfl
    have fin := o113_1 (n := n) (B := B) (tp := tp) (tr := tr) (S := S) (c := c) (X := X) (nL := nL) (st := st) (d := v) (fw := false) (ts := ts) (W := W) T1 T3
    rw [if_neg (show ¬ nI 20 = (16 : Int32) by decide), if_neg (show ¬ nI 20 = (18 : Int32) by decide), if_neg (show ¬ nI 20 = (17 : Int32) by decide), if_pos (show nI 20 = (20 : Int32) from rfl), ev, α, u1]
    exact fin

/-- tables that grow: one entry more in the reference's, a name that gets its meaning in the class's -/
theorem fN_a (P : Nat → Bool) (n : Nat) : fN P 0 (n + 1) = if fN P 0 n < n then fN P 0 n else if P n = true then n else n + 1 := by
  obtain ⟨f1, f2, f3, f4⟩ := fN_le P n 0
  by_cases y : fN P 0 n < n
  · rw [if_pos y]
    exact fN_is (Nat.zero_le _) (by omega) (f3 (by omega)) (fun i h1 h2 => f4 i h1 h2)
  · rw [if_neg y]
    have e : fN P 0 n = n := by omega
    by_cases z : P n = true
    · rw [if_pos z]
      exact fN_is (Nat.zero_le _) (by omega) z (fun i h1 h2 => f4 i h1 (by omega))
    · rw [if_neg z]
      refine (fN_no (fun i h1 h2 => ?_)).trans (Nat.zero_add _)
      by_cases w : i = n
      · rw [w]
        cases hh : P n with
        | false => rfl
        | true => exact absurd hh z
      · exact f4 i h1 (by omega)
theorem nk_a {c X Y : Nat → Nat} {nL b l : Nat} (h : ∀ k : Nat, k < nL → Y k = X k) : nmK c Y (nL + 1) b l = if reS l (c b) (c (b + 1)) (c (b + 2)) (c (b + 3)) < 32 then nL + 1 else if nmK c X nL b l < nL then nmK c X nL b l else if fiP c Y b l nL = true then nL else nL + 1 := by
  unfold nmK
  by_cases y : reS l (c b) (c (b + 1)) (c (b + 2)) (c (b + 3)) < 32
  · rw [if_pos y, if_pos y]
  · rw [if_neg y, if_neg y, if_neg y, fN_a, fN_c (P := fiP c Y b l) (Q := fiP c X b l) nL 0 (fun i h1 h2 => by
      unfold fiP
      rw [h i (by omega)])]
theorem lam_c {X Y : Nat → Nat} : ∀ k : Nat, (∀ i : Nat, i < k → Y i = X i) → lam Y k = lam X k := fun k => by
  induction k with
  | zero => intro _; rfl
  | succ k ih =>
    intro h
    show lam Y k + (if Y k / 131072 = 2 then 0 else 1) = lam X k + (if X k / 131072 = 2 then 0 else 1)
    rw [ih (fun i hi => h i (by omega)), h k (by omega)]
theorem fr_c {fw : Bool} {P Q : Nat → Bool} : ∀ k : Nat, (∀ i : Nat, i < k → P i = Q i) → frF fw P k = frF fw Q k := fun k => by
  induction k with
  | zero => intro _; rfl
  | succ k ih =>
    intro h
    show (if P k = true ∧ ¬ (fw = true ∧ 0 < frF fw P k) then k + 1 else frF fw P k) = (if Q k = true ∧ ¬ (fw = true ∧ 0 < frF fw Q k) then k + 1 else frF fw Q k)
    rw [ih (fun i hi => h i (by omega)), h k (by omega)]
/-- the class: a name gets its meaning, has one -/
theorem de_9 {n : Nat} {B : St} {cs tp st ns : Nat} {fx : Bool} {C A S NM BK : Nat → Int32} {ap kd fr : Nat} {nm : Int32} (id : Nat) (v w : Int32) (h : id < 16384) : df_X9_define n (nI id) v w (uC (xC B cs tp st ns fx C A S NM BK) ap kd fr nm) = some (uC (xC B cs tp st ns fx C A S (upd (upd NM (5 * id + 2) v) (5 * id + 3) w) BK) ap kd fr nm) := by
  unfold df_X9_define df_X9_define_0
  rw [show nI id * (5 : Int32) = nI (5 * id) from (pk_mul id 5).trans (congrArg nI (Nat.mul_comm id 5)), show nI (5 * id) + (2 : Int32) = nI (5 * id + 2) from nI_add (5 * id) 2, show nI (5 * id) + (3 : Int32) = nI (5 * id + 3) from nI_add (5 * id) 3, nm_ck (by omega) (by omega), nI_clamp (by omega), uC_r, xC_r3, xC_y3, nb_let, nm_ck (by omega) (by omega), nI_clamp (by omega), uC_r, xC_r3, xC_y3, nb_let]
theorem df_9 {n : Nat} {B : St} {cs tp st ns : Nat} {fx : Bool} {C A S NM BK : Nat → Int32} {ap kd fr : Nat} {nm : Int32} (id : Nat) (h : id < 16384) : df_X9_isDefined n (nI id) (uC (xC B cs tp st ns fx C A S NM BK) ap kd fr nm) = some (bI (!decide (NM (5 * id + 2) = 0)), uC (xC B cs tp st ns fx C A S NM BK) ap kd fr nm) := by
  have z1 : ∀ (b : Bool) (x : Option (Int32 × St)), nd_z .boolean (bI b) x = x := fun b x => by cases b <;> exact nar_z (by decide)
  unfold df_X9_isDefined df_X9_isDefined_0 df_X9_isDefined_18
  rw [show nI id * (5 : Int32) = nI (5 * id) from (pk_mul id 5).trans (congrArg nI (Nat.mul_comm id 5)), show nI (5 * id) + (2 : Int32) = nI (5 * id + 2) from nI_add (5 * id) 2, nm_ck (by omega) (by omega), nI_clamp (by omega), uC_r, xC_r3]
  by_cases y : NM (5 * id + 2) = 0
  · rw [if_pos y, decide_eq_true y]
    exact z1 false _
  · rw [if_neg y, decide_eq_false y]
    exact z1 true _
/-- a meaning leaves the table of names as it is -/
theorem HT_d {L : Nat} {c : Nat → Nat} {ns : Nat} {NM BK : Nat → Int32} {bs ws : Nat → Nat} (h : HT L c ns NM BK bs ws) (id : Nat) (v w : Int32) : HT L c ns (upd (upd NM (5 * id + 2) v) (5 * id + 3) w) BK bs ws := by
  obtain ⟨h1, h2, h3, h4⟩ := h
  refine ⟨h1, fun i hi => ?_, h3, h4⟩
  rw [up_n (show ¬ 5 * i = 5 * id + 3 by omega), up_n (show ¬ 5 * i = 5 * id + 2 by omega), up_n (show ¬ 5 * i + 1 = 5 * id + 3 by omega), up_n (show ¬ 5 * i + 1 = 5 * id + 2 by omega), up_n (show ¬ 5 * i + 4 = 5 * id + 3 by omega), up_n (show ¬ 5 * i + 4 = 5 * id + 2 by omega)]
  exact h2 i hi

