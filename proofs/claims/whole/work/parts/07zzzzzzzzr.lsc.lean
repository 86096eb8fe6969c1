/-- a sign, in both -/
theorem ts_sg {n L e : Nat} {c : Nat → Nat} {BC : St} {p q p' κ τ v : Nat} {x : Int32} (T : TS n L e c BC p q p' κ τ v x) (y : Nat) (hy : 37 ≤ y ∧ y ≤ 126) : (κ = 5 ∧ x = nI y) ↔ τ = y := by
  obtain ⟨t1, t2, t3, t4, t5, t6, t7, t8, t9⟩ := T
  by_cases k : κ = 5
  · subst k
    have x5 := t8 (Or.inr (Or.inr rfl))
    have := tk_5 t7
    rw [x5, nI_eq (by omega) (by omega)]
    omega
  · have := tk_n t7 k
    constructor
    · intro h; exact absurd h.1 k
    · intro h; omega
/-- the codes of several expressions, one behind the other -/
def CDS (NR : Nat → Int32) (c : Nat → Nat) (e ns : Nat) (bs ws : Nat → Nat) (C A : Nat → Int32) : Nat → List (Nat × (Nat → Tp)) → Nat → Prop
  | s0, [], cs => s0 = cs
  | s0, y :: ys, cs => CR NR c e C A s0 ns bs ws y.1 y.2 C A ∧ C (s0 + y.1) = 21 ∧ 0 < y.1 ∧ CDS NR c e ns bs ws C A (s0 + y.1 + 1) ys cs
theorem CR_k {NR : Nat → Int32} {c : Nat → Nat} {e : Nat} {C0 A0 : Nat → Int32} {s0 ns ns' : Nat} {bs ws bs' ws' : Nat → Nat} {NM NM' : Nat → Int32} {m : Nat} {P : Nat → Tp} {C A C' A' : Nat → Int32} (h : CR NR c e C0 A0 s0 ns bs ws m P C A) (hk : ∀ i : Nat, i < s0 + m → C' i = C i ∧ A' i = A i) (hp : PS ns NM bs ws ns' NM' bs' ws') : CR NR c e C' A' s0 ns' bs' ws' m P C' A' := by
  have h2 := CR_n hp.1 (fun i hi => ⟨(hp.2.1 i hi).1, (hp.2.1 i hi).2.1⟩) h
  refine ⟨fun i hi => ⟨rfl, rfl⟩, fun i hi => ?_⟩
  rw [(hk (s0 + i) (by omega)).1, (hk (s0 + i) (by omega)).2]
  exact h2.2 i hi
theorem l78 {n : Nat} {B : St} {sn lu ln se co : Nat} {od : Int32} {SW LW : Nat → Int32} (s2 : St) (h : sn < 8194) (each k first : Int32) : df_X1_readList_78 n each first k (qC B sn lu 0 ln se od co SW LW, s2) = some (qC B (sn + 1) lu 0 ln se od co (rowU SW sn ln se (k * each) 5 each first (nI 0)) LW, s2) := by
  unfold df_X1_readList_78
  rw [add_C s2 h, nb_b1]
theorem l78F {n : Nat} {B : St} {sn lu ln se co : Nat} {od : Int32} {SW LW : Nat → Int32} {ft : Int32} (s2 : St) (h : ¬ ft = 0) (each k first : Int32) : df_X1_readList_78 n each first k (qC B sn lu ft ln se od co SW LW, s2) = some (qC B sn lu ft ln se od co SW LW, s2) := by
  unfold df_X1_readList_78
  rw [add_F s2 h, nb_b1]
