/-- how many bytes a statement puts -/
theorem liB_l {V : Tp → Int32 × Bool} {k : Nat} : ∀ xs : List (Nat × (Nat → Tp)), (liB V k xs).length = k * xs.length := fun xs => by
  induction xs with
  | nil => rfl
  | cons x xs ih =>
    show (byK (zV V x.2 x.1) k 0 ++ liB V k xs).length = k * (xs.length + 1)
    rw [List.length_append, byK_l, ih, Nat.mul_succ, Nat.add_comm]
theorem sB_l {D : Dt} {V : Tp → Int32 × Bool} {ad : Int32} {l : Nat} : (sB D V ad l).length = sZ D l := by
  unfold sB sZ
  by_cases d0 : D.1 = 0
  · rw [if_pos d0, if_pos d0]
    unfold byZ
    by_cases y : D.2.1 &&& 3 = 3
    · rw [if_pos y, if_pos y, if_pos y]
      split <;> rfl
    · rw [if_neg y, if_neg y, if_neg y]
      split <;> rfl
  rw [if_neg d0, if_neg d0]
  by_cases d1 : D.1 = 1
  · rw [if_pos d1, if_pos d1]
    unfold hopL
    split <;> rfl
  rw [if_neg d1, if_neg d1]
  by_cases d2 : D.1 = 2
  · rw [if_pos d2, if_pos d2]
    unfold brnC
    by_cases l0 : l = 0
    · rw [if_pos l0, if_pos l0]; rfl
    · rw [if_neg l0, if_neg l0]
      by_cases l1 : l = 1
      · rw [if_pos l1, if_pos l1]; rfl
      · rw [if_neg l1, if_neg l1]; rfl
  rw [if_neg d2, if_neg d2]
  by_cases d3 : D.1 = 3
  · rw [if_pos d3, if_pos d3]; rfl
  rw [if_neg d3, if_neg d3]
  by_cases d5 : D.1 = 5
  · rw [if_pos d5, if_pos d5]
    exact liB_l _
  rw [if_neg d5, if_neg d5]
theorem sZ_le {n L : Nat} {c X : Nat → Nat} {nL : Nat} {W SW LW C A : Nat → Int32} {ns : Nat} {bs ws : Nat → Nat} {cs lu i : Nat} {pa bb : Int32} {D : Dt} {q e se ln fl n0 : Nat} {NP : Nat → Int32} (h : STr n L c X nL W SW LW C A ns bs ws cs lu i pa bb D q e se ln fl n0 NP) (hlu : lu ≤ 32832) {l : Nat} (hz : ZK D bb fl l) (off : Nat) : sZ D l ≤ szN D bb l off := by
  obtain ⟨c1, c2, c3, c4, c5, c6, c6', c7, c8, c9, c10, c11, c12, c13⟩ := h
  obtain ⟨z1, z2, z3, z4, z5⟩ := sz_1 hz off
  have oth : ¬ D.1 = 0 → ¬ D.1 = 1 → ¬ D.1 = 2 → ¬ D.1 = 3 → ¬ D.1 = 5 → sZ D l = D.2.2.2.2.length := fun w0 w1 w2 w3 w5 => (if_neg w0).trans ((if_neg w1).trans ((if_neg w2).trans ((if_neg w3).trans (if_neg w5))))
  have eqn : ∀ m : Nat, m < 2 ^ 20 → nI (szN D bb l off) = nI m → szN D bb l off = m := fun m hm he => (nI_eq (by omega) (by omega)).mp he
  rcases c13 with z | ⟨z, le, b, cd, lt, s0, s1, u0, u1, w0, w1, w3, w4, w5, w6, w7, w8, w9, w10⟩
  · rw [oth (by omega) (by omega) (by omega) (by omega) (by omega), z.2.1]; exact Nat.zero_le _
  rcases w8 with h | h | h | h | h | h | h | h | h
  · obtain ⟨k1, k2, k3, k4, k5, k6, k7, k8⟩ := h
    have e := (z5 (by omega) (by omega) (by omega)).trans (k5.trans k4)
    have e0 : sZ D l = if D.2.1 &&& 3 = 3 then 4 else 2 := if_pos k1
    rw [e0]
    by_cases y : D.2.1 &&& 3 = 3
    · rw [if_pos y] at e ⊢
      rw [eqn 4 (by omega) e]; exact Nat.le_refl _
    · rw [if_neg y] at e ⊢
      rw [eqn 2 (by omega) e]; exact Nat.le_refl _
  · have e0 : sZ D l = if l = 0 then 2 else 4 := (if_neg (by omega)).trans (if_pos h.1)
    have l1 : l ≤ 1 := by
      rcases hz with y | y | y | y
      · exact y.2.2.1
      · exact absurd y.1 (by omega)
      · exact absurd y.1 (by omega)
      · exact absurd h.1 y.1
    rw [e0, z4 (Or.inl h.1)]
    rcases (show l = 0 ∨ l = 1 by omega) with y | y <;> subst y <;> decide
  · have e0 : sZ D l = if l = 0 then 2 else if l = 1 then 4 else 8 := (if_neg (by omega)).trans ((if_neg (by omega)).trans (if_pos h.1))
    have l1 : l ≤ 2 := by
      rcases hz with y | y | y | y
      · exact absurd y.1 (by omega)
      · exact y.2.2.1
      · exact absurd y.1 (by omega)
      · exact absurd h.1 y.2.1
    rw [e0, z4 (Or.inr h.1)]
    rcases (show l = 0 ∨ l = 1 ∨ l = 2 by omega) with y | y | y <;> subst y <;> decide
  · obtain ⟨k1, k2, k3, k4, k5, k6, k7, k8, k9⟩ := h
    have e := (z5 (by omega) (by omega) (by omega)).trans (k5.trans k4)
    have e0 : sZ D l = 8 := (if_neg (by omega)).trans ((if_neg (by omega)).trans ((if_neg (by omega)).trans (if_pos k1)))
    rw [e0, eqn 8 (by omega) e]; exact Nat.le_refl _
  · obtain ⟨k1, k2, k3, k4, k5, k6, k7, k8⟩ := h
    have e := (z5 (by omega) (by omega) (by omega)).trans (k6.trans k5)
    have hnl := numB_l b cd
    rw [oth (by omega) (by omega) (by omega) (by omega) (by omega), k8, eqn _ (by omega) e]; exact Nat.le_refl _
  · obtain ⟨k1, k2, k3, k4, k5, k6, k7, k8, k9, k10⟩ := h
    have e := (z5 (by omega) (by omega) (by omega)).trans (k6.trans k5)
    have lb : D.2.2.1 * D.2.2.2.1.length ≤ 4 * 32768 := Nat.mul_le_mul (by omega) k10
    have e0 : sZ D l = D.2.2.1 * D.2.2.2.1.length := (if_neg (by omega)).trans ((if_neg (by omega)).trans ((if_neg (by omega)).trans ((if_neg (by omega)).trans (if_pos k1))))
    rw [e0, eqn _ (by omega) e]; exact Nat.le_refl _
  · obtain ⟨k1, k2, k3, k4, k5, k6, k7, k8⟩ := h
    have e := (z5 (by omega) (by omega) (by omega)).trans (k4.trans k3)
    rw [oth (by omega) (by omega) (by omega) (by omega) (by omega), eqn _ (by omega) e]; exact Nat.le_refl _
  · rw [oth (by have := h.1; omega) (by have := h.1; omega) (by have := h.1; omega) (by have := h.1; omega) (by have := h.1; omega), h.2.2.1.2]; exact Nat.zero_le _
  · rw [oth (by have := h.1; omega) (by have := h.1; omega) (by have := h.1; omega) (by have := h.1; omega) (by have := h.1; omega), h.2.2.1.2]; exact Nat.zero_le _
theorem SR_w9 {B : St} {ct : Nat} {gr : Bool} {PA BY OU : Nat → Int32} {ft : Int32} {ap : Nat} {S : St} (h : SR B ct gr PA BY OU ft ap S) (v : Nat → Int32) : SR B ct gr PA BY v ft ap (pR S 9 v) := by
  obtain ⟨ms, dv, ls, sg, vl, PL, tk, fr, to, nm, rfl⟩ := h
  refine ⟨ms, dv, ls, sg, vl, PL, tk, fr, to, nm, Prod.ext rfl (Prod.ext rfl (Prod.ext (funext fun j => ?_) rfl))⟩
  show (if j = 9 then v else _) = _
  by_cases h : j = 9
  · subst h; rfl
  · unfold uR xR yR
    simp only [if_neg h]
theorem SR_p19 {B : St} {ct : Nat} {gr : Bool} {PA BY OU : Nat → Int32} {ft : Int32} {ap : Nat} {S : St} (h : SR B ct gr PA BY OU ft ap S) (v : Int32) : SR (pI B 19 v) ct gr PA BY OU ft ap (pI S 19 v) := by
  obtain ⟨ms, dv, ls, sg, vl, PL, tk, fr, to, nm, rfl⟩ := h
  refine ⟨ms, dv, ls, sg, vl, PL, tk, fr, to, nm, Prod.ext (funext fun j => ?_) rfl⟩
  show (if j = 19 then v else _) = _
  by_cases h : j = 19
  · subst h; rfl
  · unfold uR xR yR pI
    simp only [if_neg h]
theorem SR_pO {B : St} {ct : Nat} {gr : Bool} {PA BY OU : Nat → Int32} {ft : Int32} {ap : Nat} {S : St} (h : SR B ct gr PA BY OU ft ap S) (o : Option Nat) : SR (pO B 0 o) ct gr PA BY OU ft ap (pO S 0 o) := by
  obtain ⟨ms, dv, ls, sg, vl, PL, tk, fr, to, nm, rfl⟩ := h
  exact ⟨ms, dv, ls, sg, vl, PL, tk, fr, to, nm, rfl⟩
/-- lines in the reference's row -/
def orL (OU : Nat → Int32) (a k ln : Nat) : Nat → Int32 := fun i => if a ≤ i ∧ i < a + k then OU i ||| (nI ln <<< ((8 : Int32) &&& 31)) else OU i
theorem orL_s {OU : Nat → Int32} {a k ln : Nat} : orL (upd OU a (OU a ||| (nI ln <<< ((8 : Int32) &&& 31)))) (a + 1) k ln = orL OU a (k + 1) ln := funext fun i => by
  unfold orL
  by_cases y : i = a
  · subst y
    rw [if_neg (show ¬ (i + 1 ≤ i ∧ i < i + 1 + k) by omega), if_pos (show i ≤ i ∧ i < i + (k + 1) by omega), up_e]
  · rw [up_n y]
    by_cases z : a ≤ i ∧ i < a + (k + 1)
    · rw [if_pos (show a + 1 ≤ i ∧ i < a + 1 + k by omega), if_pos z]
    · rw [if_neg (show ¬ (a + 1 ≤ i ∧ i < a + 1 + k) by omega), if_neg z]
theorem orL_0 {OU : Nat → Int32} {a ln : Nat} : orL OU a 0 ln = OU := funext fun i => if_neg (by omega)
theorem wr_112 {n : Nat} {B : St} {ct : Nat} {gr : Bool} {PA BY : Nat → Int32} {ap s A q : Nat} {D : Dt} {fl l off bg : Nat} (hs : s < 11000) (hP : PA s = nI (A * 2 ^ 17 + q)) (hA : A < 64) (hq : q < 131072) (hZ : ZK D (BY s) fl l) (hfl : A / 8 = fl / 8) (hl : A % 4 = l) (h4 : sR B 4 s = nI off) (h19 : sI B 19 = nI bg) (hb : bg + szN D (BY s) l off ≤ 131072) (G : Int32 → Int32 → Int32 → Int32 → St → Option St) (x2 x4 : Int32) (ln : Nat) : ∀ (m x g : Nat) (OU : Nat → Int32) (S : St), x + m = szN D (BY s) l off → m < g → SR B ct gr PA BY OU 0 ap S → ∃ S' : St, df_X13_put__112 n G g x2 (nI ln) x4 (nI s) (nI x) S = G x2 (nI ln) x4 (nI (s + 1)) S' ∧ SR B ct gr PA BY (orL OU (bg + x) m ln) 0 ap S' := fun m => by
  induction m with
  | zero =>
    intro x g OU S h1 h2 h
    obtain ⟨g, rfl⟩ : ∃ k : Nat, g = k + 1 := ⟨g - 1, by omega⟩
    refine ⟨S, ?_, by rw [orL_0]; exact h⟩
    show dF_X13_put__112 n G (df_X13_put__112 n G g) x2 (nI ln) x4 (nI s) (nI x) S = _
    unfold dF_X13_put__112
    have e4 : sR S 4 s = nI off := by rw [SR_r4 h]; exact h4
    rw [nm_ck hs (by omega), nI_clamp (by omega), e4, (sz_R (n := n) hs ((congrFun (SR_r3 h) s).trans hP) hA hq (congrFun (SR_r5 h) s) hZ hfl hl).1, nb_b2, if_pos (zle (show szN D (BY s) l off ≤ x by omega) (by omega)), nb_let, show nI s + Int32.ofInt 1 = nI (s + 1) from nI_add s 1]
  | succ m ih =>
    intro x g OU S h1 h2 h
    obtain ⟨g, rfl⟩ : ∃ k : Nat, g = k + 1 := ⟨g - 1, by omega⟩
    have e4 : sR S 4 s = nI off := by rw [SR_r4 h]; exact h4
    have h9 := SR_w9 h (upd OU (bg + x) (OU (bg + x) ||| (nI ln <<< ((8 : Int32) &&& 31))))
    obtain ⟨S', r1, r2⟩ := ih (x + 1) g _ _ (by omega) (by omega) h9
    refine ⟨S', ?_, ?_⟩
    · show dF_X13_put__112 n G (df_X13_put__112 n G g) x2 (nI ln) x4 (nI s) (nI x) S = _
      unfold dF_X13_put__112
      rw [nm_ck hs (by omega), nI_clamp (by omega), e4, (sz_R (n := n) hs ((congrFun (SR_r3 h) s).trans hP) hA hq (congrFun (SR_r5 h) s) hZ hfl hl).1, nb_b2, if_neg (znle (show x < szN D (BY s) l off by omega) (by omega)), SR_19 h, h19, nI_add, nm_ck (by omega) (by omega), nm_ck (by omega) (by omega), nI_clamp (by omega), SR_r9 h, nb_let, nb_let, show nI x + Int32.ofInt 1 = nI (x + 1) from nI_add x 1]
      exact r1
    · rw [show bg + (x + 1) = bg + x + 1 by omega, orL_s] at r2
      exact r2
