/-- expressions: what waits in both -/
def flat : List Nat → List Nat
  | [] => []
  | x :: l => sgO x :: (if x = 13 ∨ x = 14 then uo x :: flat l else flat l)
def okS : List Nat → Prop
  | [] => True
  | x :: l => (1 ≤ x ∧ x ≤ 15) ∧ (x ≤ 10 → ∀ (y : Nat) (r : List Nat), l = y :: r → ¬ (y = 11 ∨ y = 12)) ∧ okS l
def nbS : List Nat → Nat
  | [] => 0
  | x :: l => (if x ≤ 10 then 1 else 0) + nbS l
def bkS : List Nat → Nat
  | [] => 0
  | x :: l => (if 13 ≤ x then 1 else 0) + bkS l
def hdU (l : List Nat) : Prop := ∀ (y : Nat) (r : List Nat), l = y :: r → ¬ (y = 11 ∨ y = 12)
theorem flat_l : ∀ l : List Nat, l.length ≤ (flat l).length ∧ (flat l).length ≤ 2 * l.length := fun l => by
  induction l with
  | nil => exact ⟨Nat.le_refl 0, Nat.le_refl 0⟩
  | cons x l ih =>
    have e : flat (x :: l) = sgO x :: (if x = 13 ∨ x = 14 then uo x :: flat l else flat l) := rfl
    have k : (x :: l).length = l.length + 1 := rfl
    rw [e, k]
    by_cases y : x = 13 ∨ x = 14
    · rw [if_pos y]
      show l.length + 1 ≤ (flat l).length + 1 + 1 ∧ (flat l).length + 1 + 1 ≤ 2 * (l.length + 1)
      omega
    · rw [if_neg y]
      show l.length + 1 ≤ (flat l).length + 1 ∧ (flat l).length + 1 ≤ 2 * (l.length + 1)
      omega
theorem flat_b {x : Nat} {l : List Nat} (h : x ≤ 12 ∨ x = 15) : flat (x :: l) = sgO x :: flat l := by
  show sgO x :: (if x = 13 ∨ x = 14 then uo x :: flat l else flat l) = _
  rw [if_neg (by omega)]
def rkR (s : Nat) : Nat := if s = 42 ∨ s = 47 ∨ s = 37 then 6 else if s = 43 ∨ s = 45 then 5 else if s = 6 ∨ s = 7 then 4 else if s = 38 then 3 else if s = 94 then 2 else if s = 124 then 1 else 0
theorem rr_0 : ∀ s : Fin 300, df_X13_rank 0 (nI s.1) () = some (nI (rkR s.1), ()) ∧ rkR s.1 ≤ 6 := by decide +kernel
theorem rr_R (n : Nat) {s : Nat} (h : s < 300) : df_X13_rank n (nI s) () = some (nI (rkR s), ()) := (show df_X13_rank n (nI s) () = df_X13_rank 0 (nI s) () from rfl).trans (rr_0 ⟨s, h⟩).1
theorem rr_x : ∀ x : Fin 16, 1 ≤ x.1 → sgO x.1 < 127 ∧ (x.1 ≤ 10 → rkR (sgO x.1) = rkA x.1 ∧ 6 ≤ sgO x.1) ∧ (13 ≤ x.1 → sgO x.1 = 1) := by decide +kernel
theorem rr_v : ∀ v : Fin 300, 0 < bnO v.1 → rkA (bnO v.1) = rkR (if v.1 = 256 then 6 else if v.1 = 257 then 7 else v.1) ∧ sgO (bnO v.1) = (if v.1 = 256 then 6 else if v.1 = 257 then 7 else v.1) ∧ 1 ≤ rkA (bnO v.1) := by decide +kernel
theorem pop_u (r : Nat) (hr : r ≤ 7) (ρ : List Nat) : ∀ us : List Nat, (∀ u : Nat, u ∈ us → u = 11 ∨ u = 12) → popA r (us ++ ρ) = us ++ popA r ρ ∧ popB r (us ++ ρ) = popB r ρ := fun us => by
  induction us with
  | nil => intro _; exact ⟨rfl, rfl⟩
  | cons u us ih =>
    intro h
    have hu := h u (List.mem_cons_self ..)
    have k : u < 13 ∧ r ≤ rkA u := by
      rcases hu with e | e <;> subst e
      · exact ⟨by omega, by show r ≤ 7; omega⟩
      · exact ⟨by omega, by show r ≤ 7; omega⟩
    obtain ⟨i1, i2⟩ := ih (fun w hw => h w (List.mem_cons_of_mem _ hw))
    constructor
    · show (if u < 13 ∧ r ≤ rkA u then u :: popA r (us ++ ρ) else []) = _
      rw [if_pos k, i1]
      rfl
    · show (if u < 13 ∧ r ≤ rkA u then popB r (us ++ ρ) else u :: (us ++ ρ)) = _
      rw [if_pos k, i2]
theorem okS_p (r : Nat) : ∀ l : List Nat, okS l → okS (popB r l) := fun l => by
  induction l with
  | nil => intro h; exact h
  | cons x l ih =>
    intro h
    unfold popB
    by_cases y : x < 13 ∧ r ≤ rkA x
    · rw [if_pos y]; exact ih h.2.2
    · rw [if_neg y]; exact h
theorem okS_m : ∀ l : List Nat, okS l → ∀ x : Nat, x ∈ l → 1 ≤ x ∧ x ≤ 15 := fun l => by
  induction l with
  | nil => intro _ x h; exact absurd h (by intro z; cases z)
  | cons y l ih =>
    intro h x hx
    rcases List.mem_cons.mp hx with e | e
    · rw [e]; exact h.1
    · exact ih h.2.2 x e
theorem nb_le : ∀ l : List Nat, nbS l ≤ l.length := fun l => by
  induction l with
  | nil => exact Nat.le_refl 0
  | cons x l ih =>
    show (if x ≤ 10 then 1 else 0) + nbS l ≤ l.length + 1
    split <;> omega
/-- joins, one after the other, in any of the three loops -/
theorem jl_1 {X : Type} {n : Nat} {B : St} {ft : Int32} {ms ls : Bool} {ap tk fr to : Nat} {nm : Int32} {V : Tp → Int32 × Bool} (F : Nat → St → Option X) (r : Nat) (hF : ∀ (g x : Nat) (f : List Nat) (PL : Nat → Int32) (vl : Nat) (dv : Bool), 1 ≤ x → x ≤ 10 → r ≤ rkA x → PL f.length = nI (sgO x) → f.length < 32790 → F (g + 1) (uR (xR B ft ms dv ls (sgO x :: f).length vl PL) ap tk fr to nm) = nd_b1 (df_X13_join n (uR (xR B ft ms dv ls (sgO x :: f).length vl PL) ap tk fr to nm)) (fun s => F g s)) : ∀ (ρ : List Nat) (g m : Nat) (P : Nat → Tp) (PL : Nat → Int32) (vs : List Int32) (dv : Bool), okS ρ → hdU ρ → ρ.length < g → (flat ρ).length + vs.length < 32790 → stk PL (flat ρ) → vst PL vs → nbS ρ + 1 ≤ vs.length → rnF V P m = (vs, ms, dv) → ∃ (g' : Nat) (PL' : Nat → Int32) (vs' : List Int32) (dv' : Bool), F g (uR (xR B ft ms dv ls (flat ρ).length (32800 - vs.length) PL) ap tk fr to nm) = F (g' + 1) (uR (xR B ft ms dv' ls (flat (popB r ρ)).length (32800 - vs'.length) PL') ap tk fr to nm) ∧ stk PL' (flat (popB r ρ)) ∧ vst PL' vs' ∧ vs'.length + nbS ρ = vs.length + nbS (popB r ρ) ∧ hdU (popB r ρ) ∧ rnF V (apl P m (popA r ρ)) (m + (popA r ρ).length) = (vs', ms, dv') ∧ (flat (popB r ρ)).length + vs'.length < 32790 ∧ bkS (popB r ρ) = bkS ρ ∧ g ≤ g' + 1 + ρ.length := fun ρ => by
  induction ρ with
  | nil =>
    intro g m P PL vs dv h1 h2 h3 h4 h5 h6 h7 h8
    exact ⟨g - 1, PL, vs, dv, by rw [show g - 1 + 1 = g by have : ([] : List Nat).length = 0 := rfl; omega]; rfl, h5, h6, rfl, h2, h8, h4, rfl, by omega⟩
  | cons x l ih =>
    intro g m P PL vs dv h1 h2 h3 h4 h5 h6 h7 h8
    have lx : (x :: l).length = l.length + 1 := rfl
    rw [lx] at h3
    by_cases y : x < 13 ∧ r ≤ rkA x
    · have x10 : x ≤ 10 := by
        have := h2 x l rfl
        omega
      have pa : popA r (x :: l) = x :: popA r l := if_pos y
      have pb : popB r (x :: l) = popB r l := if_pos y
      have fl : flat (x :: l) = sgO x :: flat l := flat_b (by omega)
      have nbx : nbS (x :: l) = 1 + nbS l := by show (if x ≤ 10 then 1 else 0) + nbS l = _; rw [if_pos x10]
      have bkx : bkS (x :: l) = bkS l := by show (if 13 ≤ x then 1 else 0) + bkS l = _; rw [if_neg (by omega), Nat.zero_add]
      rw [fl] at h4 h5
      rw [nbx] at h7
      obtain ⟨w, v, vs0, rfl⟩ : ∃ (w v : Int32) (vs0 : List Int32), vs = w :: v :: vs0 := by
        match vs, h7 with
        | [], h7 => exact absurd h7 (by show ¬ 1 + nbS l + 1 ≤ 0; omega)
        | [_], h7 => exact absurd h7 (by show ¬ 1 + nbS l + 1 ≤ 0 + 1; omega)
        | w :: v :: r, _ => exact ⟨w, v, r, rfl⟩
      have lv : (w :: v :: vs0).length = vs0.length + 1 + 1 := rfl
      have lf : (sgO x :: flat l).length = (flat l).length + 1 := rfl
      rw [lv, lf] at h4
      rw [lv] at h7
      obtain ⟨PL1, dv1, e1, e2, e3, e4⟩ := rj_2 (n := n) (B := B) (ft := ft) (ls := ls) (ap := ap) (tk := tk) (fr := fr) (to := to) (nm := nm) x (flat l) w v vs0 ⟨h1.1.1, x10⟩ h5 h6 (by omega) h8
      obtain ⟨g, rfl⟩ : ∃ k : Nat, g = k + 1 := ⟨g - 1, by omega⟩
      obtain ⟨g', PL', vs', dv', i1, i2, i3, i4, i5, i6, i7, i8, i9⟩ := ih g (m + 1) (nwT P m (x, 0, 0)) PL1 (jn x v w :: vs0) dv1 h1.2.2 (h1.2.1 x10) (by omega) (by show (flat l).length + (vs0.length + 1) < 32790; omega) e2 e3 (by show nbS l + 1 ≤ vs0.length + 1; omega) e4
      refine ⟨g', PL', vs', dv', ?_, by rw [pb]; exact i2, i3, ?_, by rw [pb]; exact i5, ?_, by rw [pb]; exact i7, by rw [pb, bkx]; exact i8, by rw [lx]; omega⟩
      · rw [fl, pb, hF g x (flat l) PL _ dv h1.1.1 x10 y.2 h5.1 (by omega), e1, nb_b1]
        exact i1
      · rw [nbx, pb, lv]
        have i4 : vs'.length + nbS l = (vs0.length + 1) + nbS (popB r l) := i4
        omega
      · rw [pa]
        show rnF V (apl (nwT P m (x, 0, 0)) (m + 1) (popA r l)) (m + ((popA r l).length + 1)) = _
        rw [show m + ((popA r l).length + 1) = m + 1 + (popA r l).length by omega]
        exact i6
    · have pa : popA r (x :: l) = [] := if_neg y
      have pb : popB r (x :: l) = x :: l := if_neg y
      rw [pa, pb]
      exact ⟨g - 1, PL, vs, dv, by rw [show g - 1 + 1 = g by omega], h5, h6, rfl, h2, h8, h4, rfl, by omega⟩
