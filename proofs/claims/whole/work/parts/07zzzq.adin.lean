/-- what a tick from a count wrote, as the class keeps it -/
def wK (n : Nat) (v : Int32) (Q : St) (L : Nat → List (Nat × Int64 × Int32)) (k : Nat) (x : Int32) : Prop := ∀ X : St × St, RA n v Q L k X → ∃ (p : Nat) (w : Int32) (X' : St × St), p < 16 ∧ sI X.1 1 = nI p ∧ df_X16_tick n X = some (w, X') ∧ wrR X p x w
/-- the class's time, at a count of what was recorded -/
def cI (n vn : Nat) (Q V : St) (N T e c : Nat) (lo : Nat → Nat) (s : St × Rw × (St × (St × (St × (St)))) × (St) × (St) × (Nat → St) × (Nat → St) × (Nat → St × (St))) : Prop := eA s V ∧ cLg V N T e lo ∧ hsT n (nI vn) Q (lgL (evK V) lo) e ∧ rPp s Q ∧ c ≤ e ∧ sI s.1 3 = nI c ∧ sI s.1 4 = nI e ∧ sI s.1 5 = nI (lo (c + 1)) ∧ tA n (nI vn) Q (lgL (evK V) lo) c s.2.2.1.2.2 ∧ (∃ (cp sp : Nat) (at_ ix : Nat → Nat), cC n (nI vn) Q (lgL (evK V) lo) s cp sp e at_ ix) ∧ ∀ k : Nat, k < e → wK n (nI vn) Q (lgL (evK V) lo) k (sR s.1 0 k)
/-- what going to another count leaves as it was -/
def fI (s s' : St × Rw × (St × (St × (St × (St)))) × (St) × (St) × (Nat → St) × (Nat → St) × (Nat → St × (St))) : Prop := (∀ k : Nat, k = 0 ∨ k = 4 ∨ k = 6 ∨ k = 7 → sI s'.1 k = sI s.1 k) ∧ (∀ k : Nat, sO s'.1 k = sO s.1 k) ∧ (∀ r : Nat, ¬ r = 3 → s'.2.1 r = s.2.1 r) ∧ (∀ k : Nat, sO s'.2.2.1.1 k = sO s.2.2.1.1 k) ∧ s'.2.2.2.1 = s.2.2.2.1 ∧ s'.2.2.2.2.1 = s.2.2.2.2.1 ∧ s'.2.2.2.2.2.1 = s.2.2.2.2.2.1 ∧ s'.2.2.2.2.2.2.1 = s.2.2.2.2.2.2.1
theorem fI_r (s : St × Rw × (St × (St × (St × (St)))) × (St) × (St) × (Nat → St) × (Nat → St) × (Nat → St × (St))) : fI s s := ⟨fun _ _ => rfl, fun _ => rfl, fun _ _ => rfl, fun _ => rfl, rfl, rfl, rfl, rfl⟩
theorem fI_t {a b c : St × Rw × (St × (St × (St × (St)))) × (St) × (St) × (Nat → St) × (Nat → St) × (Nat → St × (St))} (h : fI a b) (g : fI b c) : fI a c := by
  obtain ⟨h1, h2, h3, h4, h5, h6, h7, h8⟩ := h
  obtain ⟨g1, g2, g3, g4, g5, g6, g7, g8⟩ := g
  exact ⟨fun k a => (g1 k a).trans (h1 k a), fun k => (g2 k).trans (h2 k), fun r a => (g3 r a).trans (h3 r a), fun k => (g4 k).trans (h4 k), g5.trans h5, g6.trans h6, g7.trans h7, g8.trans h8⟩
theorem eA_f {s s' : St × Rw × (St × (St × (St × (St)))) × (St) × (St) × (Nat → St) × (Nat → St) × (Nat → St × (St))} {V : St} (h : eA s V) (f : fI s s') : eA s' V := by
  obtain ⟨_, f2, _, _, f5, f6, _⟩ := f
  rcases h with ⟨a, b⟩ | ⟨a, b⟩
  · exact Or.inl ⟨(f2 0).trans a, f5.trans b⟩
  · exact Or.inr ⟨(f2 0).trans a, f6.trans b⟩
theorem rPp_f {s s' : St × Rw × (St × (St × (St × (St)))) × (St) × (St) × (Nat → St) × (Nat → St) × (Nat → St × (St))} {Q : St} (h : rPp s Q) (f : fI s s') : rPp s' Q := by
  obtain ⟨_, _, f3, f4, _, _, f7, _⟩ := f
  obtain ⟨a, b⟩ := h
  refine ⟨(f4 0).trans a, fun v hv => ?_⟩
  rw [f3 0 (by omega), f7]
  exact b v hv
/-- where copies stand behind one tick: there, or where one stood -/
def sbC (c : Nat) (s s' : St × Rw × (St × (St × (St × (St)))) × (St) × (St) × (Nat → St) × (Nat → St) × (Nat → St × (St))) : Prop := ∃ cp cp' : Nat, sI s.1 1 = nI cp ∧ sI s'.1 1 = nI cp' ∧ cp ≤ 8 ∧ cp' ≤ 8 ∧ ∀ i : Nat, i < cp' → sR s'.1 1 i = nI (c + 1) ∨ ∃ x : Nat, x < cp ∧ sR s'.1 1 i = sR s.1 1 x
/-- the class goes on by one tick, where it has been -/
theorem ad_in2 (n : Nat) (hn : 40000 < n) {vn : Nat} {Q V : St} {N T e c : Nat} {lo : Nat → Nat} {s : St × Rw × (St × (St × (St × (St)))) × (St) × (St) × (Nat → St) × (Nat → St) × (Nat → St × (St))} (h : cI n vn Q V N T e c lo s) (hc : c < e) : ∃ s' : St × Rw × (St × (St × (St × (St)))) × (St) × (St) × (Nat → St) × (Nat → St) × (Nat → St × (St)), df_X11_advance n s = some s' ∧ cI n vn Q V N T e (c + 1) lo s' ∧ fI s s' ∧ sbC c s s' := by
  obtain ⟨hV, hL, hs, hP, hce, h3, h4, h5, hA, ⟨cp, sp, at_, ix, hC⟩, hW⟩ := h
  have e6 := hL.2.2.2.2.2.2.2
  have h0 : ¬ sI s.2.2.1.2.2.1 3 = -nI 1 := fun z => by
    obtain ⟨M, hM, hcur⟩ := hs.2 c hce
    obtain ⟨X, hX⟩ := hA.1
    have a1 := (hA.2 X hX).1.2.2.2.2.1.1
    have a2 := (hM.2 X hX).1.2.2.2.2.1.1
    exact hcur hc (a2.trans (a1.symm.trans z))
  obtain ⟨K', c1, c2, c3, c4⟩ := tA_tick n hn (s := s) hA (by omega) hP h0
  have hC2 : cC n (nI vn) Q (lgL (evK V) lo) (pR s.1 0 (upd (sR s.1 0) c (sI K'.2.2.1 7)), (s.2.1, (K', s.2.2.2))) cp sp e at_ ix := hC
  obtain ⟨s3, cp', sp', at', ix', a1, a2, a3, a4, a5⟩ := ad_35 n (by omega) hC2 h3 c2 (show c + 1 ≤ e by omega) e6
  obtain ⟨g1, g2, g3, g4, g5, g6, g7, g8, g9⟩ := a3
  have g2 : sR s3.1 0 = upd (sR s.1 0) c (sI K'.2.2.1 7) := g2
  have g5 : s3.2.2.1 = K' := g5
  have fI1 : fI s s3 := ⟨fun k hk => g1 k (by omega) (by omega) (by omega), g3, g4, fun k => by rw [g5]; exact c3 k, g6, g7, g8, g9⟩
  obtain ⟨M', t1, t2⟩ := ct_take n hn (s := s3) (show c + 1 ≤ e by omega) hL (eA_f hV fI1) ((g1 5 (by omega) (by omega) (by omega)).trans h5) a4 (by rw [g5]; exact c2)
  refine ⟨(pI s3.1 5 (nI (lo (c + 1 + 1))), (s3.2.1, ((s3.2.2.1.1, (s3.2.2.1.2.1, M')), s3.2.2.2))), ?_, ⟨?_, hL, hs, ?_, by omega, a4, (g1 4 (by omega) (by omega) (by omega)).trans h4, rfl, t1, ⟨cp', sp', at', ix', a2⟩, fun k hk => ?_⟩, ?_, ?_⟩
  · unfold df_X11_advance df_X11_advance_0
    rw [c1, nb_b1]
    dsimp only
    rw [h3, if_neg (show ¬ (60000 : Int32) ≤ nI c from fun z => by have z : nI 60000 ≤ nI c := z; rw [nI_leI (by omega) (by omega)] at z; omega), nm_ck (by omega) (by omega), nI_clamp (by omega), nb_let, a1]
    unfold df_X11_advance_112
    rw [t2, nb_b1]
    dsimp only
    rw [show sI (pI s3.1 5 (nI (lo (c + 1 + 1)))) 3 = nI (c + 1) from a4, show sI (pI s3.1 5 (nI (lo (c + 1 + 1)))) 4 = nI e from (g1 4 (by omega) (by omega) (by omega)).trans h4, if_pos (by rw [nI_leI (by omega) (by omega)]; omega)]
    rfl
  · exact eA_f hV ⟨fun k hk => (nb_II s3.1 5 k _).trans ((if_neg (by omega)).trans (fI1.1 k hk)), fI1.2.1, fI1.2.2.1, fI1.2.2.2.1, fI1.2.2.2.2⟩
  · exact rPp_f hP ⟨fun k hk => (nb_II s3.1 5 k _).trans ((if_neg (by omega)).trans (fI1.1 k hk)), fI1.2.1, fI1.2.2.1, fI1.2.2.2.1, fI1.2.2.2.2⟩
  · show wK n (nI vn) Q (lgL (evK V) lo) k (sR s3.1 0 k)
    rw [g2]
    by_cases d : k = c
    · rw [d, nm_us]
      intro X hX
      obtain ⟨p, w, X', x1, x2, x3, x4, x5, x6, x7⟩ := c4 X hX
      exact ⟨p, w, X', x1, x2, x3, x7⟩
    · rw [nm_un d]; exact hW k hk
  · exact ⟨fun k hk => (nb_II s3.1 5 k _).trans ((if_neg (by omega)).trans (fI1.1 k hk)), fI1.2.1, fI1.2.2.1, fI1.2.2.2.1, fI1.2.2.2.2⟩
  · refine ⟨cp, cp', hC.1.2.2.1, a2.1.2.2.1, hC.1.2.1, a2.1.2.1, fun i hi => ?_⟩
    show sR s3.1 1 i = nI (c + 1) ∨ ∃ x : Nat, x < cp ∧ sR s3.1 1 i = sR s.1 1 x
    obtain ⟨_, _, y3, _⟩ := a2.2.2.2.2.2 i hi
    rcases a5 i hi with z | ⟨x, z1, z2⟩
    · exact Or.inl (by rw [y3, z])
    · obtain ⟨_, _, x3, _⟩ := hC.2.2.2.2.2 x z1
      exact Or.inr ⟨x, z1, by rw [y3, z2, x3]⟩
/-- the class goes on by one tick, where it has been -/
theorem ad_in (n : Nat) (hn : 40000 < n) {vn : Nat} {Q V : St} {N T e c : Nat} {lo : Nat → Nat} {s : St × Rw × (St × (St × (St × (St)))) × (St) × (St) × (Nat → St) × (Nat → St) × (Nat → St × (St))} (h : cI n vn Q V N T e c lo s) (hc : c < e) : ∃ s' : St × Rw × (St × (St × (St × (St)))) × (St) × (St) × (Nat → St) × (Nat → St) × (Nat → St × (St)), df_X11_advance n s = some s' ∧ cI n vn Q V N T e (c + 1) lo s' ∧ fI s s' := by
  obtain ⟨s', a, b, d, _⟩ := ad_in2 n hn h hc
  exact ⟨s', a, b, d⟩
/-- and by several -/
theorem mv_39 (n : Nat) (hn : 40000 < n) {vn : Nat} {Q V : St} {N T e : Nat} {lo : Nat → Nat} : ∀ (m c g : Nat) (s : St × Rw × (St × (St × (St × (St)))) × (St) × (St) × (Nat → St) × (Nat → St) × (Nat → St × (St))), m < g → c + m ≤ e → m ≤ 60000 → cI n vn Q V N T e c lo s → ∃ s' : St × Rw × (St × (St × (St × (St)))) × (St) × (St) × (Nat → St) × (Nat → St) × (Nat → St × (St)), df_X11_moveTo_39 n g (nI m) s = some s' ∧ cI n vn Q V N T e (c + m) lo s' ∧ fI s s'
  | 0, c, g, s, hg, _, _, h => by
    obtain ⟨g', rfl⟩ : ∃ g' : Nat, g = g' + 1 := ⟨g - 1, by omega⟩
    refine ⟨s, ?_, h, fI_r s⟩
    rw [show df_X11_moveTo_39 n (g' + 1) = dF_X11_moveTo_39 n (df_X11_moveTo_39 n g') from rfl]
    unfold dF_X11_moveTo_39
    rw [if_pos (show nI 0 ≤ (0 : Int32) by decide)]
  | m + 1, c, g, s, hg, hc, hm, h => by
    obtain ⟨g', rfl⟩ : ∃ g' : Nat, g = g' + 1 := ⟨g - 1, by omega⟩
    obtain ⟨s1, a1, a2, a3⟩ := ad_in n hn h (by omega)
    obtain ⟨s2, b1, b2, b3⟩ := mv_39 n hn m (c + 1) g' s1 (by omega) (by omega) (by omega) a2
    refine ⟨s2, ?_, by rw [show c + (m + 1) = c + 1 + m by omega]; exact b2, fI_t a3 b3⟩
    rw [show df_X11_moveTo_39 n (g' + 1) = dF_X11_moveTo_39 n (df_X11_moveTo_39 n g') from rfl]
    unfold dF_X11_moveTo_39
    have k3 : nI (m + 1) + Int32.ofInt (-1) = nI m := by
      have : nI (m + 1) + Int32.ofInt (-1) = nI (m + 1) - nI 1 := by
        rw [Int32.sub_eq_add_neg]
        rfl
      rw [this, pk_sub (by omega), show m + 1 - 1 = m by omega]
    rw [if_neg (show ¬ nI (m + 1) ≤ (0 : Int32) from fun z => by have z : nI (m + 1) ≤ nI 0 := z; rw [nI_leI (by omega) (by omega)] at z; omega), a1, nb_b1, nb_let, k3]
    exact b1
