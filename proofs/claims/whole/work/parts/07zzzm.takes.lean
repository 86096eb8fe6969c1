/-- which of the two recordings is the one that counts -/
def eA (s : St × Rw × (St × (St × (St × (St)))) × (St) × (St) × (Nat → St) × (Nat → St) × (Nat → St × (St))) (V : St) : Prop := (sO s.1 0 = some 27 ∧ s.2.2.2.1 = V) ∨ (sO s.1 0 = some 32 ∧ s.2.2.2.2.1 = V)
/-- an event of the class's recording -/
def evK (V : St) (i : Nat) : Nat × Int64 × Int32 := (Int32.toNatClampNeg (sR V 0 i), sQ V 1 i, sR V 1 i)
/-- the class's recording: N events have come, T are there, up to a count -/
def cLg (V : St) (N T e : Nat) (lo : Nat → Nat) : Prop := sI V 0 = nI N ∧ sI V 1 = nI T ∧ N ≤ T ∧ T ≤ 2048 ∧ okL N e lo ∧ (∀ i c : Nat, c ≤ e → lo c ≤ i → i < lo (c + 1) → sQ V 0 i = (nI c).toInt64) ∧ (∀ i : Nat, i < T → ∃ k : Nat, k < 5 ∧ sR V 0 i = nI k ∧ evV k (sQ V 1 i) (sR V 1 i)) ∧ e ≤ 60000
theorem i64_in {c d : Nat} (hc : c < 2 ^ 31) (hd : d < 2 ^ 31) (h : (nI c).toInt64 = (nI d).toInt64) : c = d := by
  have e := congrArg Int64.toInt h
  rw [Int32.toInt_toInt64, Int32.toInt_toInt64, nI_toInt hc, nI_toInt hd] at e
  omega
theorem ia_1 (n : Nat) {V : St} {T i c : Nat} (hT : T ≤ 2048) (hi : i < T) (e1 : sI V 1 = nI T) (e : sQ V 0 i = (nI c).toInt64) : df_X3_isAt n (nI i) (nI c) V = some (nI 1, V) := by
  have u1 : i < 2 ^ 31 := by omega
  unfold df_X3_isAt df_X3_isAt_0
  rw [if_neg (show ¬ nI i < (0 : Int32) from fun z => by have z : nI i < nI 0 := z; rw [nI_ltI u1 (by omega)] at z; omega), e1, if_neg (show ¬ nI T ≤ nI i from fun z => by rw [nI_leI (by omega) u1] at z; omega), nm_ck (by omega) u1, nI_clamp u1, e, if_pos (show lg_cmp (nI c).toInt64 (nI c).toInt64 = 0 from (lc_eq _ _).mpr rfl)]
  exact nm_z1
theorem ia_0 (n : Nat) {V : St} {T i c : Nat} (hT : T ≤ 2048) (hi : i ≤ 2048) (e1 : sI V 1 = nI T) (e : i < T → ¬ sQ V 0 i = (nI c).toInt64) : df_X3_isAt n (nI i) (nI c) V = some (nI 0, V) := by
  have u1 : i < 2 ^ 31 := by omega
  unfold df_X3_isAt df_X3_isAt_0
  rw [if_neg (show ¬ nI i < (0 : Int32) from fun z => by have z : nI i < nI 0 := z; rw [nI_ltI u1 (by omega)] at z; omega), e1]
  by_cases d : T ≤ i
  · rw [if_pos (show nI T ≤ nI i by rw [nI_leI (by omega) u1]; exact d)]
    exact nm_z0
  · rw [if_neg (show ¬ nI T ≤ nI i from fun z => by rw [nI_leI (by omega) u1] at z; exact d z), nm_ck (by omega) u1, nI_clamp u1, if_neg (show ¬ lg_cmp (sQ V 0 i) (nI c).toInt64 = 0 from fun z => e (by omega) ((lc_eq _ _).mp z))]
    exact nm_z0
/-- one turn of the class's taking -/
theorem tr_1 (n : Nat) {s : St × Rw × (St × (St × (St × (St)))) × (St) × (St) × (Nat → St) × (Nat → St) × (Nat → St × (St))} {V : St} (hV : eA s V) (g : St × Rw × (St × (St × (St × (St)))) × (St) × (St) × (Nat → St) × (Nat → St) × (Nat → St × (St)) → Option (St × Rw × (St × (St × (St × (St)))) × (St) × (St) × (Nat → St) × (Nat → St) × (Nat → St × (St)))) {N i c : Nat} (hN : N ≤ 2048) (hi : i ≤ 2048) (e0 : sI V 0 = nI N) (e5 : sI s.1 5 = nI i) (e3 : sI s.1 3 = nI c) : (N ≤ i → dF_X11_takeRecorded_0 n g s = some s) ∧ (¬ N ≤ i → df_X3_isAt n (nI i) (nI c) V = some (nI 0, V) → dF_X11_takeRecorded_0 n g s = some s) ∧ (¬ N ≤ i → df_X3_isAt n (nI i) (nI c) V = some (nI 1, V) → ∀ (r : Int32) (K' : St × (St × (St × St))), df_X5_come n (sR V 0 i) (sQ V 1 i) (sR V 1 i) s.2.2.1 = some (r, K') → dF_X11_takeRecorded_0 n g s = g (pI s.1 5 (nI (i + 1)), (s.2.1, (K', s.2.2.2)))) := by
  have u1 : i < 2 ^ 31 := by omega
  have u2 : N < 2 ^ 31 := by omega
  have k2 : nI i + 1 = nI (i + 1) := nI_add ..
  rcases hV with ⟨o, rfl⟩ | ⟨o, rfl⟩
  · refine ⟨fun z => ?_, fun z y => ?_, fun z y r K' x => ?_⟩
    · unfold dF_X11_takeRecorded_0
      rw [if_pos o, e0, e5, if_pos (by rw [nI_leI u2 u1]; exact z)]
      rfl
    · unfold dF_X11_takeRecorded_0
      rw [if_pos o, e0, e5, if_neg (fun w => by rw [nI_leI u2 u1] at w; exact z w), e3, y, nb_b2, nb_let, if_pos (show nI 0 = (0 : Int32) from rfl)]
      rfl
    · unfold dF_X11_takeRecorded_0
      rw [if_pos o, e0, e5, if_neg (fun w => by rw [nI_leI u2 u1] at w; exact z w), e3, y, nb_b2, nb_let, if_neg (show ¬ nI 1 = (0 : Int32) by decide)]
      dsimp only
      rw [e5, nm_ck (by omega) u1, nm_ck (by omega) u1, nm_ck (by omega) u1, nI_clamp u1, x, nb_b2, nb_let, nb_let]
      dsimp only
      rw [e5, k2]
  · refine ⟨fun z => ?_, fun z y => ?_, fun z y r K' x => ?_⟩
    · unfold dF_X11_takeRecorded_0
      rw [if_neg (show ¬ sO s.1 0 = some 27 by rw [o]; decide), if_pos o, e0, e5, if_pos (by rw [nI_leI u2 u1]; exact z)]
      rfl
    · unfold dF_X11_takeRecorded_0
      rw [if_neg (show ¬ sO s.1 0 = some 27 by rw [o]; decide), if_pos o, e0, e5, if_neg (fun w => by rw [nI_leI u2 u1] at w; exact z w), e3, y, nb_b2, nb_let, if_pos (show nI 0 = (0 : Int32) from rfl)]
      rfl
    · unfold dF_X11_takeRecorded_0
      rw [if_neg (show ¬ sO s.1 0 = some 27 by rw [o]; decide), if_pos o, e0, e5, if_neg (fun w => by rw [nI_leI u2 u1] at w; exact z w), e3, y, nb_b2, nb_let, if_neg (show ¬ nI 1 = (0 : Int32) by decide)]
      dsimp only
      rw [e5, nm_ck (by omega) u1, nm_ck (by omega) u1, nm_ck (by omega) u1, nI_clamp u1, x, nb_b2, nb_let, nb_let]
      dsimp only
      rw [e5, k2]
/-- the class takes what is recorded of a count -/
theorem ct_rec (n : Nat) (hn : 1024 < n) {Q V : St} {N T e c : Nat} {lo : Nat → Nat} (hc : c ≤ e) (hL : cLg V N T e lo) : ∀ (m i g : Nat) (s : St × Rw × (St × (St × (St × (St)))) × (St) × (St) × (Nat → St) × (Nat → St) × (Nat → St × (St))) (X : St × St), m < g → i + m = lo (c + 1) → lo c ≤ i → eA s V → sI s.1 5 = nI i → sI s.1 3 = nI c → tX n Q c s.2.2.1.2.2 X → ∃ M' : St × St, evC n (evs (evK V) i m) s.2.2.1 = some (s.2.2.1.1, (s.2.2.1.2.1, M')) ∧ df_X11_takeRecorded_0 n g s = some (pI s.1 5 (nI (lo (c + 1))), (s.2.1, ((s.2.2.1.1, (s.2.2.1.2.1, M')), s.2.2.2)))
  | 0, i, g, s, X, hg, hi, h1, hV, h5, h3, hX => by
    obtain ⟨l1, l2, l3, l4, l5, l6, l7, l8⟩ := hL
    obtain ⟨g', rfl⟩ : ∃ g' : Nat, g = g' + 1 := ⟨g - 1, by omega⟩
    have ln := okL_N l5 (c + 1)
    have hi : i = lo (c + 1) := by omega
    refine ⟨s.2.2.1.2.2, rfl, ?_⟩
    have e0 : (pI s.1 5 (nI (lo (c + 1))), (s.2.1, ((s.2.2.1.1, (s.2.2.1.2.1, s.2.2.1.2.2)), s.2.2.2))) = s := by
      rw [← hi, ← h5, nm_i0]
    rw [e0, show df_X11_takeRecorded_0 n (g' + 1) = dF_X11_takeRecorded_0 n (df_X11_takeRecorded_0 n g') from rfl]
    obtain ⟨t1, t2, _⟩ := tr_1 n hV (df_X11_takeRecorded_0 n g') (N := N) (i := i) (c := c) (by omega) (by omega) l1 h5 h3
    by_cases y : N ≤ i
    · exact t1 y
    · obtain ⟨c', g1, g2, g3, g4⟩ := okL_at l5 (show i < N by omega) (e - c) (c + 1) (by omega) (by omega)
      exact t2 y (ia_0 n l4 (by omega) l2 (fun _ z => by
        rw [l6 i c' g2 g3 g4] at z
        have := i64_in (by omega) (by omega) z
        omega))
  | m + 1, i, g, s, X, hg, hi, h1, hV, h5, h3, hX => by
    obtain ⟨l1, l2, l3, l4, l5, l6, l7, l8⟩ := id hL
    obtain ⟨g', rfl⟩ : ∃ g' : Nat, g = g' + 1 := ⟨g - 1, by omega⟩
    have ln := okL_N l5 (c + 1)
    obtain ⟨k, k5, ek, ev⟩ := l7 i (by omega)
    obtain ⟨r, M1, X1, _, a1, a2, a3, _⟩ := tX_ev n hn (K := s.2.2.1) ev hX
    obtain ⟨M', b1, b2⟩ := ct_rec n hn hc hL m (i + 1) g' (pI s.1 5 (nI (i + 1)), (s.2.1, ((s.2.2.1.1, (s.2.2.1.2.1, M1)), s.2.2.2))) X1 (by omega) (by omega) (by omega) hV rfl h3 a3
    have ee : evK V i = (k, sQ V 1 i, sR V 1 i) := by
      unfold evK
      rw [ek, nI_clamp (by omega)]
    refine ⟨M', ?_, ?_⟩
    · show nd_b2 (df_X5_come n (nI (evK V i).1) (evK V i).2.1 (evK V i).2.2 s.2.2.1) _ = _
      rw [ee]
      show nd_b2 (df_X5_come n (nI k) (sQ V 1 i) (sR V 1 i) s.2.2.1) _ = _
      rw [a1, nb_b2]
      exact b1
    · rw [show df_X11_takeRecorded_0 n (g' + 1) = dF_X11_takeRecorded_0 n (df_X11_takeRecorded_0 n g') from rfl]
      obtain ⟨_, _, t3⟩ := tr_1 n hV (df_X11_takeRecorded_0 n g') (N := N) (i := i) (c := c) (by omega) (by omega) l1 h5 h3
      rw [t3 (by omega) (ia_1 n l4 (by omega) l2 (l6 i c hc h1 (by omega))) r _ (by rw [ek]; exact a1)]
      have b2 : df_X11_takeRecorded_0 n g' (pI s.1 5 (nI (i + 1)), (s.2.1, ((s.2.2.1.1, (s.2.2.1.2.1, M1)), s.2.2.2))) = some (pI (pI s.1 5 (nI (i + 1))) 5 (nI (lo (c + 1))), (s.2.1, ((s.2.2.1.1, (s.2.2.1.2.1, M')), s.2.2.2))) := b2
      rw [nm_ii] at b2
      exact b2
/-- and so a whole count, with all that is tied -/
theorem ct_take (n : Nat) (hn : 40000 < n) {v : Int32} {Q V : St} {N T e c : Nat} {lo : Nat → Nat} {s : St × Rw × (St × (St × (St × (St)))) × (St) × (St) × (Nat → St) × (Nat → St) × (Nat → St × (St))} (hc : c ≤ e) (hL : cLg V N T e lo) (hV : eA s V) (h5 : sI s.1 5 = nI (lo c)) (h3 : sI s.1 3 = nI c) (hB : tB n v Q (lgL (evK V) lo) c s.2.2.1.2.2) : ∃ M' : St × St, tA n v Q (lgL (evK V) lo) c M' ∧ df_X11_takeRecorded n s = some (pI s.1 5 (nI (lo (c + 1))), (s.2.1, ((s.2.2.1.1, (s.2.2.1.2.1, M')), s.2.2.2))) := by
  obtain ⟨l1, l2, l3, l4, l5, l6, l7, l8⟩ := id hL
  have ln := okL_N l5 (c + 1)
  have lm := l5.2.1 c
  obtain ⟨X, hX⟩ := hB.1
  obtain ⟨M', b1, b2⟩ := ct_rec n (by omega) hc hL (lo (c + 1) - lo c) (lo c) n s X (by omega) (by omega) (Nat.le_refl _) hV h5 h3 (hB.2 X hX)
  obtain ⟨M2, c1, c2⟩ := tB_A n (by omega) (K := s.2.2.1) hB (fun x hx => by
    obtain ⟨k, g1, g2, g3⟩ := evs_m _ _ hx
    obtain ⟨kk, k5, e1, e2⟩ := l7 k (by omega)
    rw [g3]
    show evV (Int32.toNatClampNeg (sR V 0 k)) (sQ V 1 k) (sR V 1 k)
    rw [e1, nI_clamp (by omega)]
    exact e2)
  have c1 : evC n (evs (evK V) (lo c) (lo (c + 1) - lo c)) s.2.2.1 = some (s.2.2.1.1, (s.2.2.1.2.1, M2)) := c1
  rw [b1] at c1
  injection c1 with c1
  injection c1 with _ c1
  injection c1 with _ c1
  subst c1
  exact ⟨M', c2, b2⟩
