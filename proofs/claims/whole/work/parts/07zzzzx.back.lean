/-- what a condition is worth at a count, of what was the count before, whoever asks -/
def vA (n vn : Nat) (Q : St) (L : Nat → List (Nat × Int64 × Int32)) (A : Nat) (Cd Y : St) (d : Nat) (v : Int64) : Prop := ∀ (M0 M1 X0 X1 : St × St) (Cd' Y' : St), tA n (nI vn) Q L (d - 1) M0 → RA n (nI vn) Q L (d - 1) X0 → tA n (nI vn) Q L d M1 → RA n (nI vn) Q L d X1 → cSt Cd Cd' → ySt A Y Y' → ∃ Cd2 Y2 Cd3 Y3 : St, df_X2_remember n (nI (d - 1)) (nd_st0, (Cd', M0)) = some (nd_st0, (Cd2, M0)) ∧ df_X15_remember n (nI A) (Y', X0) = some (Y2, X0) ∧ cSt Cd' Cd2 ∧ yFr Y' Y2 ∧ df_X2_worth n (nI d) (nd_st0, (Cd2, M1)) = some (v, (nd_st0, (Cd3, M1))) ∧ df_X15_value n (nI A) (Y2, X1) = some (v, (Y3, X1)) ∧ cSt Cd2 Cd3 ∧ yFr Y2 Y3
theorem vA_ex {n vn A N : Nat} {Q : St} {L : Nat → List (Nat × Int64 × Int32)} {pos : Nat → Nat} {Cd Y : St} {e : Nat} (he : e ≤ 60000) (hs : hsT n (nI vn) Q L e) (hB : bCd n A N pos Cd Y) {d : Nat} (hd : d ≤ e) : ∃ v : Int64, vA n vn Q L A Cd Y d v := by
  obtain ⟨Ma, ta, _⟩ := hs.2 (d - 1) (by omega)
  obtain ⟨Mb, tb, _⟩ := hs.2 d hd
  obtain ⟨⟨Xa, xa⟩, ta2⟩ := id ta
  obtain ⟨⟨Xb, xb⟩, tb2⟩ := id tb
  have bb := hB.2.2.2
  obtain ⟨p1, p2, p3, _⟩ := ta2 Xa xa
  obtain ⟨q1, q2, q3, _⟩ := tb2 Xb xb
  obtain ⟨⟨CA, YB, a1, a2, a3, a4, a5, a6⟩, _⟩ := bb _ (d - 1) Ma Xa Cd Y p1 p2 p3 (by omega) (cSt_r _) (ySt_r _ _)
  obtain ⟨vs, CA3, YB3, b1, b2, b3, b4, b5, b6⟩ := (bb _ d Mb Xb CA YB q1 q2 q3 (by omega) a3 (yFr_s a4 A)).2 a6
  refine ⟨vs, fun M0 M1 X0 X1 C' Y' t0 x0 t1 x1 hc hy => ?_⟩
  obtain ⟨r1, r2, r3, _⟩ := t0.2 X0 x0
  obtain ⟨s1, s2, s3, _⟩ := t1.2 X1 x1
  obtain ⟨⟨C2, Y2, c1, c2, c3, c4, c5, c6⟩, _⟩ := bb _ (d - 1) M0 X0 C' Y' r1 r2 r3 (by omega) hc hy
  -- the first class's memory against the second reference's
  obtain ⟨u1, u2, u3, _⟩ := ta2 X0 x0
  obtain ⟨⟨C4, Y4, d1, d2, d3, d4, d5, d6⟩, _⟩ := bb _ (d - 1) Ma X0 Cd Y' u1 u2 u3 (by omega) (cSt_r _) hy
  rw [a1] at d1
  injection d1 with d1
  injection d1 with _ d1
  injection d1 with d1 _
  subst d1
  rw [c2] at d2
  injection d2 with d2
  injection d2 with d2 _
  subst d2
  -- what both are worth
  obtain ⟨v', C3, Y3, e1, e2, e3, e4, e5, e6⟩ := (bb _ d M1 X1 C2 Y2 s1 s2 s3 (by omega) (cSt_t hc c3) (ySt_t hy (yFr_s c4 A))).2 c6
  obtain ⟨w1, w2, w3, _⟩ := tb2 X1 x1
  obtain ⟨v2, C5, Y5, f1, f2, f3, f4, f5, f6⟩ := (bb _ d Mb X1 CA Y2 w1 w2 w3 (by omega) a3 (ySt_t hy (yFr_s c4 A))).2 d6
  rw [b1] at f1
  injection f1 with f1
  injection f1 with f1 _
  rw [e2] at f2
  injection f2 with f2
  injection f2 with f2 _
  have ev : v' = vs := f2.trans f1.symm
  subst ev
  exact ⟨C2, Y2, C3, Y3, c1, c2, c3, c4, e1, e2, e3, e5⟩
/-- the greatest of some more -/
def rng (f : Nat → Bool) : Nat → Nat → Int32 → Int32
  | _, 0, x => x
  | d, m + 1, x => rng f (d + 1) m (if f (d + 1) = true then nI (d + 1) else x)
theorem rng_lw (f : Nat → Bool) : ∀ m d : Nat, rng f d m (lw f (d + 1)) = lw f (d + m + 1)
  | 0, _ => rfl
  | m + 1, d => by
    unfold rng
    have : (if f (d + 1) = true then nI (d + 1) else lw f (d + 1)) = lw f (d + 1 + 1) := rfl
    rw [this, rng_lw f m (d + 1), show d + 1 + m + 1 = d + (m + 1) + 1 by omega]
theorem rng_2 (f : Nat → Bool) : ∀ (m d : Nat) (x : Int32), (rng f d m x = x ∧ lw f (d + m + 1) = lw f (d + 1)) ∨ ∃ q : Nat, q ≤ d + m ∧ rng f d m x = nI q ∧ lw f (d + m + 1) = nI q
  | 0, _, x => Or.inl ⟨rfl, rfl⟩
  | m + 1, d, x => by
    unfold rng
    rw [show d + (m + 1) + 1 = d + 1 + m + 1 by omega]
    by_cases c : f (d + 1) = true
    · rw [if_pos c]
      rcases rng_2 f m (d + 1) (nI (d + 1)) with ⟨a, b⟩ | ⟨q, q1, a, b⟩
      · refine Or.inr ⟨d + 1, by omega, a, b.trans ?_⟩
        show (if f (d + 1) = true then nI (d + 1) else lw f (d + 1)) = _
        rw [if_pos c]
      · exact Or.inr ⟨q, by omega, a, b⟩
    · rw [if_neg c]
      rcases rng_2 f m (d + 1) x with ⟨a, b⟩ | ⟨q, q1, a, b⟩
      · refine Or.inl ⟨a, b.trans ?_⟩
        show (if f (d + 1) = true then nI (d + 1) else lw f (d + 1)) = _
        rw [if_neg c]
      · exact Or.inr ⟨q, by omega, a, b⟩
/-- what looking back leaves of the class -/
def fJ (j : Nat) (t t' : S11) : Prop := (∀ k : Nat, k = 0 ∨ k = 4 ∨ k = 6 ∨ k = 7 → sI t'.1 k = sI t.1 k) ∧ (∀ k : Nat, sO t'.1 k = sO t.1 k) ∧ (∀ r : Nat, ¬ r = 3 → t'.2.1 r = t.2.1 r) ∧ t'.2.2.2.2.2.1 = t.2.2.2.2.2.1 ∧ (∀ i : Nat, ¬ i = j → t'.2.2.2.2.2.2.1 i = t.2.2.2.2.2.2.1 i) ∧ cSt (t.2.2.2.2.2.2.1 j) (t'.2.2.2.2.2.2.1 j)
theorem fJ_t {j : Nat} {a b c : S11} (h : fJ j a b) (g : fJ j b c) : fJ j a c := ⟨fun k z => (g.1 k z).trans (h.1 k z), fun k => (g.2.1 k).trans (h.2.1 k), fun r z => (g.2.2.1 r z).trans (h.2.2.1 r z), g.2.2.2.1.trans h.2.2.2.1, fun i z => (g.2.2.2.2.1 i z).trans (h.2.2.2.2.1 i z), cSt_t h.2.2.2.2.2 g.2.2.2.2.2⟩
theorem fJ_f {j : Nat} {t t' : S11} (h : fI t t') : fJ j t t' := ⟨h.1, h.2.1, h.2.2.1, h.2.2.2.2.2.2.1, fun i _ => by rw [h.2.2.2.2.2.2.2], by rw [h.2.2.2.2.2.2.2]; exact cSt_r _⟩
theorem fJ_K {j : Nat} {t : S11} {C : St} (h : cSt (t.2.2.2.2.2.2.1 j) C) : fJ j t (stK t (fun i => if i = j then C else t.2.2.2.2.2.2.1 i)) := ⟨fun _ _ => rfl, fun _ => rfl, fun _ _ => rfl, rfl, fun i hi => if_neg hi, by
  show cSt _ (if j = j then C else _)
  rw [if_pos rfl]
  exact h⟩
/-- copies below a count stand where some stood -/
def sbU (u : Nat) (t t' : S11) : Prop := ∃ cp cp' : Nat, sI t.1 1 = nI cp ∧ sI t'.1 1 = nI cp' ∧ cp ≤ 8 ∧ cp' ≤ 8 ∧ ∀ i p : Nat, i < cp' → p < u → sR t'.1 1 i = nI p → ∃ x : Nat, x < cp ∧ sR t.1 1 x = nI p
theorem sbU_c {c u : Nat} {t t' : S11} (h : sbC c t t') (hu : u ≤ c + 1) (hc : c ≤ 60000) : sbU u t t' := by
  obtain ⟨cp, cp', a, b, d, e, f⟩ := h
  refine ⟨cp, cp', a, b, d, e, fun i p hi hp z => ?_⟩
  rcases f i hi with y | ⟨x, x1, x2⟩
  · rw [y] at z
    have := (nI_eq (by omega) (by omega)).mp z
    omega
  · exact ⟨x, x1, by rw [← x2]; exact z⟩
theorem sbU_t {u : Nat} {a b c : S11} (h : sbU u a b) (g : sbU u b c) : sbU u a c := by
  obtain ⟨p1, p2, p3, p4, p5, p6, p7⟩ := h
  obtain ⟨q1, q2, q3, q4, q5, q6, q7⟩ := g
  have : q1 = p2 := nm_inI (by omega) (by omega) (q3.symm.trans p4)
  subst this
  refine ⟨p1, q2, p3, q4, p5, q6, fun i p hi hp z => ?_⟩
  obtain ⟨x, x1, x2⟩ := q7 i p hi hp z
  exact p7 x p x1 hp x2
theorem sbU_e {u : Nat} {t t' : S11} {cp : Nat} (h : t'.1 = t.1) (hc : sI t.1 1 = nI cp) (h8 : cp ≤ 8) : sbU u t t' := ⟨cp, cp, hc, by rw [h]; exact hc, h8, h8, fun i p hi _ z => ⟨i, hi, by rw [← h]; exact z⟩⟩
/-- the class looks through some counts -/
theorem in_71 (n : Nat) (hn : 40000 < n) {vn A j : Nat} {Q V : St} {N T e : Nat} {lo : Nat → Nat} {Cd Y : St} {hv : Nat → Int64} (hj : j < 9) (he : e ≤ 60000) (hhv : ∀ d : Nat, d ≤ e → vA n vn Q (lgL (evK V) lo) A Cd Y d (hv d)) (g10 : Nat → Int32 → Int32 → S11 → Option (Int32 × S11)) (x3 x5 : Int32) : ∀ (m d g : Nat) (x6 : Int32) (t : S11), m < g → d + m ≤ e → cI n vn Q V N T e d lo t → cSt Cd (t.2.2.2.2.2.2.1 j) → ∃ (t' : S11) (g' : Nat), df_X11_latest_71 n g10 g j x3 x5 x6 (nI m) t = dF_X11_latest_71 n g10 (df_X11_latest_71 n g10 g') j x3 x5 (rng (fun d => decide (¬ hv d = 0)) d m x6) (nI 0) t' ∧ cI n vn Q V N T e (d + m) lo t' ∧ fJ j t t' ∧ sbU (d + 1) t t' := fun m => by
  induction m with
  | zero =>
    intro d g x6 t hg hd h hc
    obtain ⟨g1, rfl⟩ : ∃ g1 : Nat, g = g1 + 1 := ⟨g - 1, by omega⟩
    obtain ⟨_, _, _, _, _, _, _, _, _, ⟨cp, sp, at_, ix, hC⟩, _⟩ := id h
    exact ⟨t, g1, rfl, h, fJ_f (fI_r t), sbU_e rfl hC.1.2.2.1 hC.1.2.1⟩
  | succ m ih =>
    intro d g x6 t hg hd h hc
    obtain ⟨g1, rfl⟩ : ∃ g1 : Nat, g = g1 + 1 := ⟨g - 1, by omega⟩
    obtain ⟨_, _, hs, _, _, c3, _, _, tA0, ⟨cp, sp, at_, ix, hC⟩, _⟩ := id h
    obtain ⟨M2, tA2, _⟩ := hs.2 (d + 1) (by omega)
    obtain ⟨X0, x0⟩ := tA0.1
    obtain ⟨X1, x1⟩ := tA2.1
    obtain ⟨C2, Y2, _, _, r1, _, r3, _, _⟩ := hhv (d + 1) (by omega) t.2.2.1.2.2 M2 X0 X1 (t.2.2.2.2.2.2.1 j) Y tA0 x0 tA2 x1 hc (ySt_r _ _)
    have r1 : df_X2_remember n (nI d) (nd_st0, (t.2.2.2.2.2.2.1 j, t.2.2.1.2.2)) = some (nd_st0, (C2, t.2.2.1.2.2)) := r1
    obtain ⟨t1, a1, a2, a3, a4⟩ := ad_in2 n hn (s := stK t (fun i => if i = j then C2 else t.2.2.2.2.2.2.1 i)) (c := d) h (by omega)
    obtain ⟨_, _, _, _, _, c3', _, _, tA1, _, _⟩ := id a2
    have k1 : t1.2.2.2.2.2.2.1 = (fun i => if i = j then C2 else t.2.2.2.2.2.2.1 i) := a3.2.2.2.2.2.2.2
    obtain ⟨C2', Y2', C3, Y3, s1, _, _, _, s5, _, s7, _⟩ := hhv (d + 1) (by omega) t.2.2.1.2.2 t1.2.2.1.2.2 X0 X1 (t.2.2.2.2.2.2.1 j) Y tA0 x0 tA1 x1 hc (ySt_r _ _)
    have s1 : df_X2_remember n (nI d) (nd_st0, (t.2.2.2.2.2.2.1 j, t.2.2.1.2.2)) = some (nd_st0, (C2', t.2.2.1.2.2)) := s1
    rw [r1] at s1
    injection s1 with s1
    injection s1 with _ s1
    injection s1 with s1 _
    subst s1
    have k1j : t1.2.2.2.2.2.2.1 j = C2 := by rw [k1]; show (if j = j then C2 else _) = _; rw [if_pos rfl]
    have f1 : fJ j t (stK t (fun i => if i = j then C2 else t.2.2.2.2.2.2.1 i)) := fJ_K r3
    have f2 : fJ j (stK t (fun i => if i = j then C2 else t.2.2.2.2.2.2.1 i)) t1 := fJ_f a3
    have f3 : fJ j t1 (stK t1 (fun i => if i = j then C3 else t1.2.2.2.2.2.2.1 i)) := fJ_K (by rw [k1j]; exact s7)
    have fA := fJ_t f1 (fJ_t f2 f3)
    have u2 : sbU (d + 1) t t1 := sbU_c (t := stK t (fun i => if i = j then C2 else t.2.2.2.2.2.2.1 i)) a4 (by omega) (by omega)
    obtain ⟨_, _, _, _, _, _, _, _, _, ⟨cp1, sp1, at1, ix1, hC1⟩, _⟩ := id a2
    have u3 : sbU (d + 1) t1 (stK t1 (fun i => if i = j then C3 else t1.2.2.2.2.2.2.1 i)) := sbU_e rfl hC1.1.2.2.1 hC1.1.2.1
    obtain ⟨t', g', i1, i2, i3, i4⟩ := ih (d + 1) g1 (if (decide (¬ hv (d + 1) = 0)) = true then nI (d + 1) else x6) (stK t1 (fun i => if i = j then C3 else t1.2.2.2.2.2.2.1 i)) (by omega) (by omega) a2 (cSt_t hc fA.2.2.2.2.2)
    have i4 : sbU (d + 1) (stK t1 (fun i => if i = j then C3 else t1.2.2.2.2.2.2.1 i)) t' := by
      obtain ⟨p1, p2, p3, p4, p5, p6, p7⟩ := i4
      exact ⟨p1, p2, p3, p4, p5, p6, fun i p hi hp z => p7 i p hi (by omega) z⟩
    refine ⟨t', g', Eq.trans ?_ i1, by rw [show d + (m + 1) = d + 1 + m by omega]; exact i2, fJ_t fA i3, sbU_t u2 (sbU_t u3 i4)⟩
    show dF_X11_latest_71 n g10 (df_X11_latest_71 n g10 g1) j x3 x5 x6 (nI (m + 1)) t = _
    generalize df_X11_latest_71 n g10 g1 = G
    unfold dF_X11_latest_71 df_X11_latest_115
    rw [if_neg (show ¬ nI (m + 1) ≤ (0 : Int32) from fun z => by have z : nI (m + 1) ≤ nI 0 := z; rw [nI_leI (by omega) (by omega)] at z; omega), nb_lt hj, c3, r1, nb_b1, nb_let]
    have a1 : df_X11_advance n (t.1, (t.2.1, ((t.2.2.1.1, (t.2.2.1.2.1, t.2.2.1.2.2)), (t.2.2.2.1, (t.2.2.2.2.1, (t.2.2.2.2.2.1, ((fun i => if i = j then C2 else t.2.2.2.2.2.2.1 i), t.2.2.2.2.2.2.2))))))) = some t1 := a1
    dsimp only
    rw [a1, nb_b1, c3', k1j, s5, nb_b2, nb_let, nb_let, nb_let, nb_let, dn_1, show nI (m + 1) - nI 1 = nI m from dn_2 m]
    by_cases z : hv (d + 1) = 0
    · rw [if_pos ((lcE _ _).mpr z), decide_eq_false (fun y => y z)]
      rfl
    · rw [if_neg (fun y => z ((lcE _ _).mp y)), decide_eq_true z, if_pos rfl]
      dsimp only
      rw [c3']
      rfl
