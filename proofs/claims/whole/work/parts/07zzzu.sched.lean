/-- one turn of the class's taking of what is scheduled -/
theorem ts_1 (n : Nat) {s : St × Rw × (St × (St × (St × (St)))) × (St) × (St) × (Nat → St) × (Nat → St) × (Nat → St × (St))} {V : St} (hV : eA s V) (g : St × Rw × (St × (St × (St × (St)))) × (St) × (St) × (Nat → St) × (Nat → St) × (Nat → St × (St)) → Option (St × Rw × (St × (St × (St × (St)))) × (St) × (St) × (Nat → St) × (Nat → St) × (Nat → St × (St)))) {N T e : Nat} (hT : T ≤ 2048) (hN : N ≤ T) (e0 : sI V 0 = nI N) (e1 : sI V 1 = nI T) (e4 : sI s.1 4 = nI e) (e5 : sI s.1 5 = nI N) : (T ≤ N → dF_X11_takeScheduled_0 n g s = some s) ∧ (N < T → df_X3_isAt n (nI N) (nI e) V = some (nI 0, V) → dF_X11_takeScheduled_0 n g s = some s) ∧ (N < T → df_X3_isAt n (nI N) (nI e) V = some (nI 1, V) → ∀ (r : Int32) (K' : St × (St × (St × St))), df_X5_come n (sR V 0 N) (sQ V 1 N) (sR V 1 N) s.2.2.1 = some (r, K') → (r = nI 0 → ∃ s' : St × Rw × (St × (St × (St × (St)))) × (St) × (St) × (Nat → St) × (Nat → St) × (Nat → St × (St)), dF_X11_takeScheduled_0 n g s = g s' ∧ s'.1 = pI s.1 6 (nI 1) ∧ s'.2.1 = s.2.1 ∧ s'.2.2.1 = K' ∧ eA s' (pI V 1 (nI N)) ∧ s'.2.2.2.2.2 = s.2.2.2.2.2) ∧ (r = nI 1 → ∃ s' : St × Rw × (St × (St × (St × (St)))) × (St) × (St) × (Nat → St) × (Nat → St) × (Nat → St × (St)), dF_X11_takeScheduled_0 n g s = g s' ∧ s'.1 = pI s.1 5 (nI (N + 1)) ∧ s'.2.1 = s.2.1 ∧ s'.2.2.1 = K' ∧ eA s' (pI V 0 (nI (N + 1))) ∧ s'.2.2.2.2.2 = s.2.2.2.2.2)) := by
  have u1 : N < 2 ^ 31 := by omega
  have u2 : T < 2 ^ 31 := by omega
  have k2 : nI N + 1 = nI (N + 1) := nI_add ..
  rcases hV with ⟨o, rfl⟩ | ⟨o, rfl⟩
  · refine ⟨fun z => ?_, fun z y => ?_, fun z y r K' x => ⟨fun hr => ⟨(pI s.1 6 (nI 1), (s.2.1, (K', (pI s.2.2.2.1 1 (nI N), s.2.2.2.2)))), ?_, rfl, rfl, rfl, Or.inl ⟨o, rfl⟩, rfl⟩, fun hr => ⟨(pI s.1 5 (nI (N + 1)), (s.2.1, (K', (pI s.2.2.2.1 0 (nI (N + 1)), s.2.2.2.2)))), ?_, rfl, rfl, rfl, Or.inl ⟨o, rfl⟩, rfl⟩⟩⟩
    · unfold dF_X11_takeScheduled_0
      rw [if_pos o, e1, e0, if_pos (by rw [nI_leI u2 u1]; exact z)]
      rfl
    · unfold dF_X11_takeScheduled_0
      rw [if_pos o, e1, e0, if_neg (fun w => by rw [nI_leI u2 u1] at w; omega), e4, y, nb_b2, nb_let, if_pos (show nI 0 = (0 : Int32) from rfl)]
      rfl
    · unfold dF_X11_takeScheduled_0
      rw [if_pos o, e1, e0, if_neg (fun w => by rw [nI_leI u2 u1] at w; omega), e4, y, nb_b2, nb_let, if_neg (show ¬ nI 1 = (0 : Int32) by decide)]
      dsimp only
      rw [e0, nb_let, nm_ck (by omega) u1, nm_ck (by omega) u1, nm_ck (by omega) u1, nI_clamp u1, x, nb_b2, nb_let, hr, if_pos (show nI 0 = (0 : Int32) from rfl)]
      dsimp only
      rw [e0, nb_let, nb_let]
      rfl
    · unfold dF_X11_takeScheduled_0
      rw [if_pos o, e1, e0, if_neg (fun w => by rw [nI_leI u2 u1] at w; omega), e4, y, nb_b2, nb_let, if_neg (show ¬ nI 1 = (0 : Int32) by decide)]
      dsimp only
      rw [e0, nb_let, nm_ck (by omega) u1, nm_ck (by omega) u1, nm_ck (by omega) u1, nI_clamp u1, x, nb_b2, nb_let, hr, if_neg (show ¬ nI 1 = (0 : Int32) by decide)]
      dsimp only
      rw [e0, nb_let, k2]
      dsimp only
      rw [e5, nb_let, k2]
      rfl
  · refine ⟨fun z => ?_, fun z y => ?_, fun z y r K' x => ⟨fun hr => ⟨(pI s.1 6 (nI 1), (s.2.1, (K', (s.2.2.2.1, (pI s.2.2.2.2.1 1 (nI N), s.2.2.2.2.2))))), ?_, rfl, rfl, rfl, Or.inr ⟨o, rfl⟩, rfl⟩, fun hr => ⟨(pI s.1 5 (nI (N + 1)), (s.2.1, (K', (s.2.2.2.1, (pI s.2.2.2.2.1 0 (nI (N + 1)), s.2.2.2.2.2))))), ?_, rfl, rfl, rfl, Or.inr ⟨o, rfl⟩, rfl⟩⟩⟩
    · unfold dF_X11_takeScheduled_0
      rw [if_neg (show ¬ sO s.1 0 = some 27 by rw [o]; decide), if_pos o, e1, e0, if_pos (by rw [nI_leI u2 u1]; exact z)]
      rfl
    · unfold dF_X11_takeScheduled_0
      rw [if_neg (show ¬ sO s.1 0 = some 27 by rw [o]; decide), if_pos o, e1, e0, if_neg (fun w => by rw [nI_leI u2 u1] at w; omega), e4, y, nb_b2, nb_let, if_pos (show nI 0 = (0 : Int32) from rfl)]
      rfl
    · unfold dF_X11_takeScheduled_0
      rw [if_neg (show ¬ sO s.1 0 = some 27 by rw [o]; decide), if_pos o, e1, e0, if_neg (fun w => by rw [nI_leI u2 u1] at w; omega), e4, y, nb_b2, nb_let, if_neg (show ¬ nI 1 = (0 : Int32) by decide)]
      dsimp only
      rw [e0, nb_let, nm_ck (by omega) u1, nm_ck (by omega) u1, nm_ck (by omega) u1, nI_clamp u1, x, nb_b2, nb_let, hr, if_pos (show nI 0 = (0 : Int32) from rfl)]
      dsimp only
      rw [e0, nb_let, nb_let]
      rfl
    · unfold dF_X11_takeScheduled_0
      rw [if_neg (show ¬ sO s.1 0 = some 27 by rw [o]; decide), if_pos o, e1, e0, if_neg (fun w => by rw [nI_leI u2 u1] at w; omega), e4, y, nb_b2, nb_let, if_neg (show ¬ nI 1 = (0 : Int32) by decide)]
      dsimp only
      rw [e0, nb_let, nm_ck (by omega) u1, nm_ck (by omega) u1, nm_ck (by omega) u1, nI_clamp u1, x, nb_b2, nb_let, hr, if_neg (show ¬ nI 1 = (0 : Int32) by decide)]
      dsimp only
      rw [e0, nb_let, k2]
      dsimp only
      rw [e5, nb_let, k2]
      rfl
/-- one more of those that are there has come -/
theorem cLg_n {V : St} {N T e : Nat} {lo : Nat → Nat} (h : cLg V N T e lo) (hN : N < T) (ha : sQ V 0 N = (nI e).toInt64) : cLg (pI V 0 (nI (N + 1))) (N + 1) T e (loA lo e N) := by
  obtain ⟨l1, l2, l3, l4, l5, l6, l7, l8⟩ := h
  refine ⟨rfl, l2, by omega, l4, okL_a l5, fun i c hc h1 h2 => ?_, l7, l8⟩
  show sQ V 0 i = _
  have h1 : (if c ≤ e then lo c else N + 1) ≤ i := h1
  have h2 : i < (if c + 1 ≤ e then lo (c + 1) else N + 1) := h2
  rw [if_pos hc] at h1
  by_cases d : c + 1 ≤ e
  · rw [if_pos d] at h2
    exact l6 i c hc h1 h2
  · rw [if_neg d] at h2
    have ce : c = e := by omega
    by_cases y : i = N
    · rw [y, ce]; exact ha
    · exact l6 i c hc h1 (by rw [l5.2.2 (c + 1) (by omega)]; omega)
theorem cLg_t {V : St} {N T e : Nat} {lo : Nat → Nat} (h : cLg V N T e lo) : cLg (pI V 1 (nI N)) N N e lo := by
  obtain ⟨l1, l2, l3, l4, l5, l6, l7, l8⟩ := h
  exact ⟨l1, rfl, Nat.le_refl N, by omega, l5, l6, fun i hi => l7 i (by omega), l8⟩
/-- the class's time behind another recording of the same count -/
theorem cI_k {n vn : Nat} {Q V V' : St} {N T N' T' e : Nat} {lo lo' : Nat → Nat} {s s' : St × Rw × (St × (St × (St × (St)))) × (St) × (St) × (Nat → St) × (Nat → St) × (Nat → St × (St))} {M' : St × St} (h : cI n vn Q V N T e e lo s) (hL' : cLg V' N' T' e lo') (la : ∀ i : Nat, i < e → lgL (evK V) lo i = lgL (evK V') lo' i) (hA' : tA n (nI vn) Q (lgL (evK V') lo') e M') (hV' : eA s' V') (y1 : (∀ k : Nat, k = 1 ∨ k = 2 ∨ k = 3 ∨ k = 4 → sI s'.1 k = sI s.1 k) ∧ sR s'.1 0 = sR s.1 0 ∧ sR s'.1 1 = sR s.1 1 ∧ sI s'.1 5 = nI (lo' (e + 1))) (y2 : s'.2.1 = s.2.1) (y3 : s'.2.2.1 = (s.2.2.1.1, (s.2.2.1.2.1, M'))) (y5 : s'.2.2.2.2.2 = s.2.2.2.2.2) : cI n vn Q V' N' T' e e lo' s' := by
  obtain ⟨hV, hL, hs, hP, hce, h3, h4, h5, hA, ⟨cp, sp, at_, ix, hC⟩, hW⟩ := h
  obtain ⟨q1, q2, q3, q4⟩ := y1
  have y8 : s'.2.2.2.2.2.1 = s.2.2.2.2.2.1 := congrArg Prod.fst y5
  have y9 : s'.2.2.2.2.2.2.2 = s.2.2.2.2.2.2.2 := congrArg (fun p => p.2.2) y5
  refine ⟨hV', hL', ⟨fun j hj => ?_, fun j hj => ?_⟩, ?_, hce, (q1 3 (by omega)).trans h3, (q1 4 (by omega)).trans h4, q4, by rw [y3]; exact hA', ⟨cp, sp, at_, ix, ?_⟩, fun j hj => ?_⟩
  · obtain ⟨M, hM⟩ := hs.1 j hj
    exact ⟨M, tB_c (fun i hi => la i (by omega)) hM⟩
  · by_cases y : j = e
    · rw [y]; exact ⟨M', hA', fun z => by omega⟩
    · obtain ⟨M, hM, hc⟩ := hs.2 j hj
      exact ⟨M, tA_c (fun i hi => la i (by omega)) hM, hc⟩
  · obtain ⟨p1, p2⟩ := hP
    refine ⟨by rw [y3]; exact p1, fun j hj => ?_⟩
    rw [y2, y8]
    exact p2 j hj
  · obtain ⟨⟨b1, b2, b3, b4, b5, b6⟩, d1, d2, d3, d4, d5⟩ := hC
    refine ⟨⟨b1, b2, (q1 1 (by omega)).trans b3, (q1 2 (by omega)).trans b4, b5, b6⟩, fun i hi => by rw [y2]; exact d1 i hi, d2, d3, d4, fun i hi => ?_⟩
    obtain ⟨g1, g2, g3, g4⟩ := d5 i hi
    exact ⟨g1, g2, by rw [q3]; exact g3, by rw [y9]; exact tB_c (fun j hj => la j (by omega)) g4⟩
  · rw [q2]
    intro X hX
    exact hW j hj X (RA_c (fun i hi => (la i (by omega)).symm) hX)
/-- one turn, with all that is tied -/
theorem ts_2 (n : Nat) (hn : 40000 < n) {vn : Nat} {Q V : St} {N T e : Nat} {lo : Nat → Nat} {s : St × Rw × (St × (St × (St × (St)))) × (St) × (St) × (Nat → St) × (Nat → St) × (Nat → St × (St))} (g : St × Rw × (St × (St × (St × (St)))) × (St) × (St) × (Nat → St) × (Nat → St) × (Nat → St × (St)) → Option (St × Rw × (St × (St × (St × (St)))) × (St) × (St) × (Nat → St) × (Nat → St) × (Nat → St × (St)))) (h : cI n vn Q V N T e e lo s) (hN : N < T) (ha : sQ V 0 N = (nI e).toInt64) : ∃ (r : Int32) (s' : St × Rw × (St × (St × (St × (St)))) × (St) × (St) × (Nat → St) × (Nat → St) × (Nat → St × (St))), (r = nI 0 ∨ r = nI 1) ∧ dF_X11_takeScheduled_0 n g s = g s' ∧ (∀ X : St × St, RA n (nI vn) Q (lgL (evK V) lo) e X → ∃ X' : St × St, df_X16_event n (sR V 0 N) (sQ V 1 N) (sR V 1 N) X = some (r, X') ∧ sI X'.1 14 = sI X.1 14 ∧ (r = nI 0 → X' = X) ∧ (r = nI 1 → RA n (nI vn) Q (lgL (evK V) (loA lo e N)) e X')) ∧ (r = nI 0 → cI n vn Q (pI V 1 (nI N)) N N e e lo s' ∧ sI s'.1 6 = nI 1) ∧ (r = nI 1 → cI n vn Q (pI V 0 (nI (N + 1))) (N + 1) T e e (loA lo e N) s' ∧ sI s'.1 6 = sI s.1 6) ∧ (sI s'.1 0 = sI s.1 0 ∧ sI s'.1 7 = sI s.1 7 ∧ (∀ k : Nat, sO s'.1 k = sO s.1 k) ∧ s'.2.1 = s.2.1 ∧ s'.2.2.2.2.2 = s.2.2.2.2.2) := by
  obtain ⟨hV, hL, hs, hP, hce, h3, h4, h5, hA, _, hW⟩ := id h
  obtain ⟨l1, l2, l3, l4, l5, l6, l7, l8⟩ := id hL
  obtain ⟨k, k5, ek, ev⟩ := l7 N hN
  have ee : evK V N = (k, sQ V 1 N, sR V 1 N) := by
    unfold evK
    rw [ek, nI_clamp (by omega)]
  obtain ⟨la, lb⟩ := lg_a (f := evK V) (g := evK V) l5 (fun _ _ => rfl)
  rw [ee] at lb
  obtain ⟨r, M', r1, c1, c2, c3, c4⟩ := tA_rec n (by omega) (K := s.2.2.1) (x := (k, sQ V 1 N, sR V 1 N)) la lb hA ev
  have c1 : df_X5_come n (sR V 0 N) (sQ V 1 N) (sR V 1 N) s.2.2.1 = some (r, (s.2.2.1.1, (s.2.2.1.2.1, M'))) := by rw [ek]; exact c1
  have h5' : sI s.1 5 = nI N := by rw [h5, l5.2.2 (e + 1) (by omega)]
  obtain ⟨_, _, t3⟩ := ts_1 n hV g l4 l3 l1 l2 h4 h5'
  obtain ⟨t4, t5⟩ := t3 hN (ia_1 n l4 hN l2 ha) r _ c1
  have wit : ∀ X : St × St, RA n (nI vn) Q (lgL (evK V) lo) e X → ∃ X' : St × St, df_X16_event n (sR V 0 N) (sQ V 1 N) (sR V 1 N) X = some (r, X') ∧ sI X'.1 14 = sI X.1 14 ∧ (r = nI 0 → X' = X) ∧ (r = nI 1 → RA n (nI vn) Q (lgL (evK V) (loA lo e N)) e X') := fun X hX => by
    obtain ⟨X', x1, x2, x3, x4⟩ := c3 X hX
    exact ⟨X', by rw [ek]; exact x1, x3, x4, fun _ => x2⟩
  rcases r1 with z | z
  · obtain ⟨s', a1, a2, a3, a4, a5, a6⟩ := t4 z
    refine ⟨r, s', Or.inl z, a1, wit, fun _ => ⟨cI_k h (cLg_t hL) (fun _ _ => rfl) (c4 z) a5 ⟨fun j hj => ?_, by rw [a2]; rfl, by rw [a2]; rfl, by rw [a2]; exact h5⟩ a3 a4 a6, by rw [a2]; rfl⟩, fun y => absurd (z.symm.trans y) (by decide), by rw [a2]; rfl, by rw [a2]; rfl, fun j => by rw [a2]; rfl, a3, a6⟩
    rw [a2, nb_II, if_neg (by omega)]
  · obtain ⟨s', a1, a2, a3, a4, a5, a6⟩ := t5 z
    refine ⟨r, s', Or.inr z, a1, wit, fun y => absurd (z.symm.trans y) (by decide), fun _ => ⟨cI_k h (cLg_n hL hN ha) la c2 a5 ⟨fun j hj => ?_, by rw [a2]; rfl, by rw [a2]; rfl, ?_⟩ a3 a4 a6, by rw [a2]; rfl⟩, by rw [a2]; rfl, by rw [a2]; rfl, fun j => by rw [a2]; rfl, a3, a6⟩
    · rw [a2, nb_II, if_neg (by omega)]
    · rw [a2]
      show nI (N + 1) = nI (loA lo e N (e + 1))
      rw [show loA lo e N (e + 1) = N + 1 from if_neg (by omega)]
