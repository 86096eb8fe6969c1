/-- the latest copy that is not behind a count -/
theorem cu_7 (n : Nat) {v : Int32} {Q : St} {L : Nat → List (Nat × Int64 × Int32)} {s : St × Rw × (St × (St × (St × (St)))) × (St) × (St) × (Nat → St) × (Nat → St) × (Nat → St × (St))} {cp sp e c : Nat} {at_ ix : Nat → Nat} (hC : cC n v Q L s cp sp e at_ ix) (he : e ≤ 60000) (hc : c ≤ 60000) : ∀ k g : Nat, k < g → k < cp → ∃ i : Nat, i ≤ k ∧ df_X11_copyUpTo_7 n g (nI c) (nI k) s = some (nI i, s) ∧ at_ i ≤ c ∧ ∀ j : Nat, i < j → j ≤ k → c < at_ j
  | 0, g, hg, hk => by
    obtain ⟨g', rfl⟩ : ∃ g' : Nat, g = g' + 1 := ⟨g - 1, by omega⟩
    refine ⟨0, by omega, ?_, by rw [hC.2.2.2.1]; omega, fun j h1 h2 => by omega⟩
    rw [show df_X11_copyUpTo_7 n (g' + 1) = dF_X11_copyUpTo_7 n (df_X11_copyUpTo_7 n g') from rfl]
    unfold dF_X11_copyUpTo_7
    rw [if_pos (show nI 0 ≤ (0 : Int32) by decide)]
    rfl
  | k + 1, g, hg, hk => by
    obtain ⟨g', rfl⟩ : ∃ g' : Nat, g = g' + 1 := ⟨g - 1, by omega⟩
    obtain ⟨⟨a1, a2, a3, a4, a5, a6⟩, b1, b2, b3, b4, b5⟩ := id hC
    obtain ⟨p1, p2, p3, p4⟩ := b5 (k + 1) hk
    have u1 : k + 1 < 2 ^ 31 := by omega
    have k3 : nI (k + 1) + Int32.ofInt (-1) = nI k := by
      have : nI (k + 1) + Int32.ofInt (-1) = nI (k + 1) - nI 1 := by
        rw [Int32.sub_eq_add_neg]
        rfl
      rw [this, pk_sub (by omega), show k + 1 - 1 = k by omega]
    have A : df_X11_copyUpTo_7 n (g' + 1) (nI c) (nI (k + 1)) s = if nI (at_ (k + 1)) ≤ nI c then df_X11_copyUpTo_27 n (nI (k + 1)) s else df_X11_copyUpTo_7 n g' (nI c) (nI k) s := by
      rw [show df_X11_copyUpTo_7 n (g' + 1) = dF_X11_copyUpTo_7 n (df_X11_copyUpTo_7 n g') from rfl]
      unfold dF_X11_copyUpTo_7
      rw [if_neg (show ¬ nI (k + 1) ≤ (0 : Int32) from fun z => by have z : nI (k + 1) ≤ nI 0 := z; rw [nI_leI u1 (by omega)] at z; omega), nm_ck (by omega) u1, nI_clamp u1, p3, nb_let, k3]
    rw [A]
    by_cases d : at_ (k + 1) ≤ c
    · refine ⟨k + 1, by omega, ?_, d, fun j h1 h2 => by omega⟩
      rw [if_pos (show nI (at_ (k + 1)) ≤ nI c by rw [nI_leI (by omega) (by omega)]; exact d)]
      unfold df_X11_copyUpTo_27
      rw [if_pos (show (0 : Int32) < nI (k + 1) from (show nI 0 < nI (k + 1) by rw [nI_ltI (by omega) u1]; omega))]
    · obtain ⟨i, q1, q2, q3, q4⟩ := cu_7 n hC he hc k g' (by omega) (by omega)
      refine ⟨i, by omega, ?_, q3, fun j h1 h2 => ?_⟩
      · rw [if_neg (show ¬ nI (at_ (k + 1)) ≤ nI c from fun z => by rw [nI_leI (by omega) (by omega)] at z; exact d z)]
        exact q2
      · by_cases y : j = k + 1
        · rw [y]; omega
        · exact q4 j h1 (by omega)
theorem cu_1 (n : Nat) (hn : 1024 < n) {v : Int32} {Q : St} {L : Nat → List (Nat × Int64 × Int32)} {s : St × Rw × (St × (St × (St × (St)))) × (St) × (St) × (Nat → St) × (Nat → St) × (Nat → St × (St))} {cp sp e c : Nat} {at_ ix : Nat → Nat} (hC : cC n v Q L s cp sp e at_ ix) (he : e ≤ 60000) (hc : c ≤ 60000) : ∃ i : Nat, i < cp ∧ df_X11_copyUpTo n (nI c) s = some (nI i, s) ∧ at_ i ≤ c ∧ ∀ j : Nat, i < j → j < cp → c < at_ j := by
  obtain ⟨⟨a1, a2, a3, a4, a5, a6⟩, _⟩ := id hC
  obtain ⟨i, q1, q2, q3, q4⟩ := cu_7 n hC he hc (cp - 1) n (by omega) (by omega)
  refine ⟨i, by omega, ?_, q3, fun j h1 h2 => q4 j h1 (by omega)⟩
  unfold df_X11_copyUpTo df_X11_copyUpTo_0
  rw [a3, show nI cp - 1 = nI (cp - 1) from pk_sub a1, nb_let]
  exact q2
theorem lc_ge (a b : Nat) (ha : a < 2 ^ 31) (hb : b < 2 ^ 31) : (0 : Int32) ≤ lg_cmp (nI a).toInt64 (nI b).toInt64 ↔ b ≤ a := by
  have lt : (nI b).toInt64 < (nI a).toInt64 ↔ b < a := by
    rw [Int64.lt_iff_toInt_lt, Int32.toInt_toInt64, Int32.toInt_toInt64, nI_toInt ha, nI_toInt hb]
    omega
  unfold lg_cmp
  by_cases c : b < a
  · rw [if_pos (lt.mpr c)]
    exact ⟨fun _ => by omega, fun _ => by decide⟩
  · rw [if_neg (fun z => c (lt.mp z))]
    by_cases d : a = b
    · rw [if_pos (by rw [d])]
      exact ⟨fun _ => by omega, fun _ => by decide⟩
    · rw [if_neg (fun z => d (i64_in ha hb z))]
      exact ⟨fun z => absurd z (by decide), fun z => by omega⟩
/-- how many events came before a count -/
theorem rb_2 (n : Nat) {V : St} {N T e c : Nat} {lo : Nat → Nat} (hL : cLg V N T e lo) (hc : c ≤ e) : ∀ m k g : Nat, m < g → k + m = lo c → df_X3_recordedBefore_2 n g (nI c) (nI k) V = some (nI (lo c), V)
  | 0, k, g, hg, hk => by
    obtain ⟨g', rfl⟩ : ∃ g' : Nat, g = g' + 1 := ⟨g - 1, by omega⟩
    obtain ⟨l1, l2, l3, l4, l5, l6, l7, l8⟩ := hL
    have ln := okL_N l5 c
    have hk : k = lo c := by omega
    rw [show df_X3_recordedBefore_2 n (g' + 1) = dF_X3_recordedBefore_2 n (df_X3_recordedBefore_2 n g') from rfl]
    unfold dF_X3_recordedBefore_2
    by_cases y : N ≤ k
    · rw [l1, if_pos (show nI N ≤ nI k by rw [nI_leI (by omega) (by omega)]; exact y), hk]
      rfl
    · obtain ⟨c', g1, g2, g3, g4⟩ := okL_at l5 (show k < N by omega) (e + 1 - c) c (by omega) (by omega)
      rw [l1, if_neg (show ¬ nI N ≤ nI k from fun z => by rw [nI_leI (by omega) (by omega)] at z; exact y z), nm_ck (by omega) (by omega), nI_clamp (by omega), l6 k c' g2 g3 g4, if_pos ((lc_ge c' c (by omega) (by omega)).mpr g1), hk]
      rfl
  | m + 1, k, g, hg, hk => by
    obtain ⟨g', rfl⟩ : ∃ g' : Nat, g = g' + 1 := ⟨g - 1, by omega⟩
    obtain ⟨l1, l2, l3, l4, l5, l6, l7, l8⟩ := id hL
    have ln := okL_N l5 c
    obtain ⟨c', g1, g2, g3, g4⟩ := okL_at l5 (show k < N by omega) (e + 1) 0 (by omega) (by rw [l5.1]; omega)
    have c'c : c' < c := by
      by_cases z : c' < c
      · exact z
      · have := okL_le l5 c c' (by omega)
        omega
    rw [show df_X3_recordedBefore_2 n (g' + 1) = dF_X3_recordedBefore_2 n (df_X3_recordedBefore_2 n g') from rfl]
    unfold dF_X3_recordedBefore_2
    rw [l1, if_neg (show ¬ nI N ≤ nI k from fun z => by rw [nI_leI (by omega) (by omega)] at z; omega), nm_ck (by omega) (by omega), nI_clamp (by omega), l6 k c' g2 g3 g4, if_neg (fun z => by have := (lc_ge c' c (by omega) (by omega)).mp z; omega), nb_let, show nI k + Int32.ofInt 1 = nI (k + 1) from nI_add ..]
    exact rb_2 n hL hc m (k + 1) g' (by omega) (by omega)
theorem rb_1 (n : Nat) (hn : 40000 < n) {V : St} {N T e c : Nat} {lo : Nat → Nat} (hL : cLg V N T e lo) (hc : c ≤ e) : df_X3_recordedBefore n (nI c) V = some (nI (lo c), V) := by
  have ln := okL_N hL.2.2.2.2.1 c
  have := hL.2.2.1
  have := hL.2.2.2.1
  exact rb_2 n hL hc (lo c) 0 n (by omega) (by omega)
theorem po_id {f : Nat → St × St} {j : Nat} : (fun i => if i = j then f j else f i) = f := by
  funext i
  by_cases c : i = j
  · rw [if_pos c, c]
  · rw [if_neg c]
/-- the class goes back to a copy -/
theorem rs_1c (n : Nat) (hn : 40000 < n) {vn : Nat} {Q V : St} {N T e c cp sp i : Nat} {lo at_ ix : Nat → Nat} {s : St × Rw × (St × (St × (St × (St)))) × (St) × (St) × (Nat → St) × (Nat → St) × (Nat → St × (St))} (h : cI n vn Q V N T e c lo s) (hC : cC n (nI vn) Q (lgL (evK V) lo) s cp sp e at_ ix) (hi : i < cp) : ∃ s' : St × Rw × (St × (St × (St × (St)))) × (St) × (St) × (Nat → St) × (Nat → St) × (Nat → St × (St)), df_X11_restore n (nI i) s = some s' ∧ cI n vn Q V N T e (at_ i) lo s' ∧ fI s s' ∧ cC n (nI vn) Q (lgL (evK V) lo) s' cp sp e at_ ix := by
  obtain ⟨hV, hL, hs, hP, hce, h3, h4, h5, hA, _, hW⟩ := h
  obtain ⟨⟨a1, a2, a3, a4, a5, a6⟩, b1, b2, b3, b4, b5⟩ := id hC
  obtain ⟨p1, p2, p3, p4⟩ := b5 i hi
  obtain ⟨x1, x2⟩ := b1 i (by omega)
  obtain ⟨M1, k1, k2⟩ := tB_become n (by omega) (A := s.2.2.1.2.2) (s0 := nd_st0) p4
  have u1 : i < 2 ^ 31 := by omega
  have rb := rb_1 n hn hL p2
  have fI0 : ∀ K : Nat, fI s (pI (pI s.1 3 (nI (at_ i))) 5 (nI (lo (at_ i))), (s.2.1, ((s.2.2.1.1, (s.2.2.1.2.1, M1)), s.2.2.2))) := fun _ => ⟨fun k hk => by
    show sI (pI (pI s.1 3 _) 5 _) k = sI s.1 k
    rw [nb_II, if_neg (by omega), nb_II, if_neg (by omega)], fun _ => rfl, fun _ _ => rfl, fun _ => rfl, rfl, rfl, rfl, rfl⟩
  obtain ⟨M', t1, t2⟩ := ct_take n hn (s := (pI (pI s.1 3 (nI (at_ i))) 5 (nI (lo (at_ i))), (s.2.1, ((s.2.2.1.1, (s.2.2.1.2.1, M1)), s.2.2.2)))) p2 hL (eA_f hV (fI0 0)) rfl rfl k2
  have fI1 : fI s (pI (pI s.1 3 (nI (at_ i))) 5 (nI (lo (at_ i + 1))), (s.2.1, ((s.2.2.1.1, (s.2.2.1.2.1, M')), s.2.2.2))) := ⟨fun k hk => by
    show sI (pI (pI s.1 3 _) 5 _) k = sI s.1 k
    rw [nb_II, if_neg (by omega), nb_II, if_neg (by omega)], fun _ => rfl, fun _ _ => rfl, fun _ => rfl, rfl, rfl, rfl, rfl⟩
  have t2 : df_X11_takeRecorded n (pI (pI s.1 3 (nI (at_ i))) 5 (nI (lo (at_ i))), (s.2.1, ((s.2.2.1.1, (s.2.2.1.2.1, M1)), s.2.2.2))) = some (pI (pI (pI s.1 3 (nI (at_ i))) 5 (nI (lo (at_ i)))) 5 (nI (lo (at_ i + 1))), (s.2.1, ((s.2.2.1.1, (s.2.2.1.2.1, M')), s.2.2.2))) := t2
  rw [nm_ii] at t2
  refine ⟨(pI (pI s.1 3 (nI (at_ i))) 5 (nI (lo (at_ i + 1))), (s.2.1, ((s.2.2.1.1, (s.2.2.1.2.1, M')), s.2.2.2))), ?_, ⟨eA_f hV fI1, hL, hs, rPp_f hP fI1, p2, rfl, h4, rfl, t1, ⟨cp, sp, at_, ix, hC⟩, hW⟩, fI1, hC⟩
  unfold df_X11_restore df_X11_restore_0
  rw [nm_ck (by omega) u1, nI_clamp u1, x1, nb_mS, nb_lt x2, k1, nb_b1, nb_let]
  dsimp only
  rw [po_id, nm_ck (by omega) u1, p3, nb_let]
  dsimp only
  rcases hV with ⟨o1, o2⟩ | ⟨o1, o2⟩
  · rw [if_pos (show sO (pI s.1 3 (nI (at_ i))) 0 = some 27 from o1), show sI (pI s.1 3 (nI (at_ i))) 3 = nI (at_ i) from rfl, o2, rb, nb_b2, nb_let, nb_let]
    dsimp only
    rw [← o2, t2, nb_b1]
  · rw [if_neg (show ¬ sO (pI s.1 3 (nI (at_ i))) 0 = some 27 from (show ¬ sO s.1 0 = some 27 by rw [o1]; decide)), if_pos (show sO (pI s.1 3 (nI (at_ i))) 0 = some 32 from o1), show sI (pI s.1 3 (nI (at_ i))) 3 = nI (at_ i) from rfl, o2, rb, nb_b2, nb_let, nb_let]
    dsimp only
    rw [← o2, t2, nb_b1]
theorem rs_1 (n : Nat) (hn : 40000 < n) {vn : Nat} {Q V : St} {N T e c cp sp i : Nat} {lo at_ ix : Nat → Nat} {s : St × Rw × (St × (St × (St × (St)))) × (St) × (St) × (Nat → St) × (Nat → St) × (Nat → St × (St))} (h : cI n vn Q V N T e c lo s) (hC : cC n (nI vn) Q (lgL (evK V) lo) s cp sp e at_ ix) (hi : i < cp) : ∃ s' : St × Rw × (St × (St × (St × (St)))) × (St) × (St) × (Nat → St) × (Nat → St) × (Nat → St × (St)), df_X11_restore n (nI i) s = some s' ∧ cI n vn Q V N T e (at_ i) lo s' ∧ fI s s' := by
  obtain ⟨s', a, b, d, _⟩ := rs_1c n hn h hC hi
  exact ⟨s', a, b, d⟩
/-- the class goes to a count -/
theorem mv_1 (n : Nat) (hn : 70000 < n) {vn : Nat} {Q V : St} {N T e c d : Nat} {lo : Nat → Nat} {s : St × Rw × (St × (St × (St × (St)))) × (St) × (St) × (Nat → St) × (Nat → St) × (Nat → St × (St))} (h : cI n vn Q V N T e c lo s) (hd : d ≤ e) : ∃ s' : St × Rw × (St × (St × (St × (St)))) × (St) × (St) × (Nat → St) × (Nat → St) × (Nat → St × (St)), df_X11_moveTo n (nI d) s = some s' ∧ cI n vn Q V N T e d lo s' ∧ fI s s' := by
  obtain ⟨hV, hL, hs, hP, hce, h3, h4, h5, hA, ⟨cp, sp, at_, ix, hC⟩, hW⟩ := id h
  have e6 := hL.2.2.2.2.2.2.2
  obtain ⟨i, q1, q2, q3, q4⟩ := cu_1 n (by omega) (c := d) hC e6 (by omega)
  obtain ⟨p1, p2, p3, p4⟩ := hC.2.2.2.2.2 i q1
  have i8 : i < 8 := by have := hC.1.2.1; omega
  have go : ∀ (s1 : St × Rw × (St × (St × (St × (St)))) × (St) × (St) × (Nat → St) × (Nat → St) × (Nat → St × (St))) (k : Nat), cI n vn Q V N T e k lo s1 → k ≤ d → ∃ s' : St × Rw × (St × (St × (St × (St)))) × (St) × (St) × (Nat → St) × (Nat → St) × (Nat → St × (St)), df_X11_moveTo_32 n (nI d) s1 = some s' ∧ cI n vn Q V N T e d lo s' ∧ fI s1 s' := fun s1 k hk hkd => by
    obtain ⟨s2, m1, m2, m3⟩ := mv_39 n (by omega) (d - k) k n s1 (by omega) (by omega) (by omega) hk
    refine ⟨s2, ?_, by rw [show d = k + (d - k) by omega]; exact m2, m3⟩
    unfold df_X11_moveTo_32
    rw [hk.2.2.2.2.2.1, pk_sub hkd, nb_let]
    exact m1
  have back : ∃ s' : St × Rw × (St × (St × (St × (St)))) × (St) × (St) × (Nat → St) × (Nat → St) × (Nat → St × (St)), df_X11_moveTo_27 n (nI d) (nI i) s = some s' ∧ cI n vn Q V N T e d lo s' ∧ fI s s' := by
    obtain ⟨s1, r1, r2, r3⟩ := rs_1 n (by omega) h hC q1
    obtain ⟨s2, g1, g2, g3⟩ := go s1 (at_ i) r2 q3
    refine ⟨s2, ?_, g2, fI_t r3 g3⟩
    unfold df_X11_moveTo_27
    rw [r1, nb_b1]
    exact g1
  unfold df_X11_moveTo df_X11_moveTo_0
  rw [q2, nb_b2, h3]
  by_cases y : d < c
  · rw [if_pos (show nI d < nI c by rw [nI_ltI (by omega) (by omega)]; exact y)]
    exact back
  · rw [if_neg (show ¬ nI d < nI c from fun z => by rw [nI_ltI (by omega) (by omega)] at z; exact y z), nm_ck (by omega) (by omega), nI_clamp (by omega), p3]
    by_cases x : at_ i ≤ c
    · rw [if_pos (show nI (at_ i) ≤ nI c by rw [nI_leI (by omega) (by omega)]; exact x)]
      exact go s c h (by omega)
    · rw [if_neg (show ¬ nI (at_ i) ≤ nI c from fun z => by rw [nI_leI (by omega) (by omega)] at z; exact x z)]
      exact back
