abbrev S11 : Type := St × Rw × (St × (St × (St × (St)))) × (St) × (St) × (Nat → St) × (Nat → St) × (Nat → St × (St))
/-- both where a machine goes: the class is at c, the reference's machine stands at k -/
def jM (n vn : Nat) (Q V : St) (N T e c k : Nat) (lo : Nat → Nat) (t : S11) (τ : S19) : Prop := cI n vn Q V N T e c lo t ∧ rLg τ.1 N e lo ∧ (∀ i : Nat, i < N → evT τ.1 i = evK V i) ∧ (vn < 4 ∧ ¬ sR Q 0 vn = nI 0) ∧ (sI τ.1 4 = nI vn ∧ sI τ.1 5 = nI c ∧ sI τ.1 6 = nI e) ∧ k ≤ e ∧ RA n (nI vn) Q (lgL (evK V) lo) k τ.2.2.1.2 ∧ sI τ.1 10 = nI (lo (k + 1)) ∧ sI τ.2.2.1.2.1 14 = -nI 1 ∧ sch τ.1 V N T ∧ (sI t.1 6 = sI τ.1 11 ∧ okB (sI τ.1 11))
theorem jm_pg {n vn : Nat} {Q V : St} {N T e c k : Nat} {lo : Nat → Nat} {t : S11} {τ : S19} (h : jM n vn Q V N T e c k lo t τ) : ∃ (P : St) (T' Z : Nat), rPg P Q vn T' Z := by
  obtain ⟨⟨_, _, _, hP, _⟩, _, _, ⟨hv, hq⟩, _⟩ := h
  rcases hP.2 vn hv with ⟨_, z⟩ | ⟨j, T', Z, _, _, _, z⟩
  · exact absurd z hq
  · exact ⟨_, T', Z, z⟩
/-- the reference comes to a count -/
theorem jm_come (n : Nat) (hn : 70000 < n) {vn : Nat} {Q V : St} {N T e c k d : Nat} {lo : Nat → Nat} {t : S11} {τ : S19} (h : jM n vn Q V N T e c k lo t τ) (hd : d ≤ e) : ∃ X' : St × St, df_X19_come n (nI d) τ = some (pI τ.1 10 (nI (lo (d + 1))), (τ.2.1, ((τ.2.2.1.1, X'), τ.2.2.2))) ∧ jM n vn Q V N T e c d lo t (pI τ.1 10 (nI (lo (d + 1))), (τ.2.1, ((τ.2.2.1.1, X'), τ.2.2.2))) := by
  obtain ⟨P, T', Z, pg⟩ := jm_pg h
  obtain ⟨hI, hL, hev, hv, ⟨h4, h5, h6⟩, hk, hX, h10, h14, hS, h11⟩ := h
  obtain ⟨_, _, hs, hP, _⟩ := id hI
  have lq := lg_eq hL.2.2.1 hev
  obtain ⟨X', g1, g2, g3⟩ := rf_come n hn hP hv.1 pg (by rw [lq]; exact hs) hL h4 hd hk (by rw [lq]; exact hX) h10 h14
  rw [lq] at g2
  exact ⟨X', g1, hI, hL, hev, hv, ⟨h4, h5, h6⟩, hd, g2, rfl, g3, hS, h11⟩
/-- and the class -/
theorem jm_go (n : Nat) (hn : 70000 < n) {vn : Nat} {Q V : St} {N T e c k d : Nat} {lo : Nat → Nat} {t : S11} {τ : S19} (h : jM n vn Q V N T e c k lo t τ) (hd : d ≤ e) : ∃ t' : S11, df_X11_moveTo n (nI d) t = some t' ∧ jM n vn Q V N T e d k lo t' (pI τ.1 5 (nI d), τ.2) ∧ fI t t' := by
  obtain ⟨hI, hL, hev, hv, ⟨h4, h5, h6⟩, hk, hX, h10, h14, hS, h11⟩ := h
  obtain ⟨t', g1, g2, g3⟩ := mv_1 n hn hI hd
  exact ⟨t', g1, ⟨g2, hL, hev, hv, ⟨h4, rfl, h6⟩, hk, hX, h10, h14, hS, (g3.1 6 (by omega)).trans h11.1, h11.2⟩, g3⟩
/-- the code alone changes -/
theorem jm_0 {n vn : Nat} {Q V : St} {N T e c k : Nat} {lo : Nat → Nat} {t : S11} {τ : S19} (h : jM n vn Q V N T e c k lo t τ) (x : Int32) : jM n vn Q V N T e c k lo t (pI τ.1 0 x, τ.2) := h
theorem cut_40 (n : Nat) {L c : Nat} {x : Int32} : ∀ (m g : Nat) (τ : S19), m < g → sI τ.1 8 = nI (L + m) → L + m ≤ 2048 → c ≤ 60000 → (∀ i : Nat, L ≤ i → i < L + m → ∃ c' : Nat, c < c' ∧ c' ≤ 60000 ∧ sR τ.1 7 i = nI c') → (0 < L → ∃ c' : Nat, c' ≤ c ∧ sR τ.1 7 (L - 1) = nI c') → sI τ.1 5 = nI c → df_X19_cut_40 n g x τ = df_X19_cut_78 n x (pI τ.1 8 (nI L), τ.2)
  | 0, g, τ, hg, h8, hL, hc, _, h0, h5 => by
    obtain ⟨g', rfl⟩ : ∃ g' : Nat, g = g' + 1 := ⟨g - 1, by omega⟩
    have h8 : sI τ.1 8 = nI L := h8
    have e0 : (pI τ.1 8 (nI L), τ.2) = τ := by rw [← h8, nm_i0]
    rw [e0, show df_X19_cut_40 n (g' + 1) = dF_X19_cut_40 n (df_X19_cut_40 n g') from rfl]
    generalize df_X19_cut_40 n g' = G
    unfold dF_X19_cut_40
    by_cases y : L = 0
    · rw [h8, if_pos (show nI L ≤ (0 : Int32) from (show nI L ≤ nI 0 by rw [nI_leI (by omega) (by omega)]; omega))]
    · obtain ⟨c', q1, q2⟩ := h0 (by omega)
      rw [h8, if_neg (show ¬ nI L ≤ (0 : Int32) from fun z => by have z : nI L ≤ nI 0 := z; rw [nI_leI (by omega) (by omega)] at z; omega), show nI L - 1 = nI (L - 1) from pk_sub (show 1 ≤ L by omega), nm_ck (by omega) (by omega), nI_clamp (by omega), q2, h5, if_pos (by rw [nI_leI (by omega) (by omega)]; exact q1)]
  | m + 1, g, τ, hg, h8, hL, hc, h1, h0, h5 => by
    obtain ⟨g', rfl⟩ : ∃ g' : Nat, g = g' + 1 := ⟨g - 1, by omega⟩
    obtain ⟨c', q1, q2, q3⟩ := h1 (L + m) (by omega) (by omega)
    have ih := cut_40 n (L := L) (c := c) (x := x) m g' (pI τ.1 8 (nI (L + m)), τ.2) (by omega) rfl (by omega) hc (fun i a b => h1 i a (by omega)) h0 h5
    have ih : df_X19_cut_40 n g' x (pI τ.1 8 (nI (L + m)), τ.2) = df_X19_cut_78 n x (pI (pI τ.1 8 (nI (L + m))) 8 (nI L), τ.2) := ih
    rw [nm_ii] at ih
    rw [show df_X19_cut_40 n (g' + 1) = dF_X19_cut_40 n (df_X19_cut_40 n g') from rfl]
    generalize df_X19_cut_40 n g' = G at ih
    unfold dF_X19_cut_40
    have s1 : nI (L + (m + 1)) - 1 = nI (L + m) := (pk_sub (show 1 ≤ L + (m + 1) by omega)).trans (by rw [show L + (m + 1) - 1 = L + m by omega])
    rw [h8, if_neg (show ¬ nI (L + (m + 1)) ≤ (0 : Int32) from fun z => by have z : nI (L + (m + 1)) ≤ nI 0 := z; rw [nI_leI (by omega) (by omega)] at z; omega), s1, nm_ck (by omega) (by omega), nI_clamp (by omega), q3, h5, if_neg (show ¬ nI c' ≤ nI c from fun z => by rw [nI_leI (by omega) (by omega)] at z; omega), nb_let]
    exact ih
/-- what is behind now is forgotten, in both -/
theorem jm_cut (n : Nat) (hn : 70000 < n) {vn : Nat} {Q V : St} {N T e c k : Nat} {lo : Nat → Nat} {t : S11} {τ : S19} (h : jM n vn Q V N T e c k lo t τ) (hb : ¬ sI τ.1 3 = 0) : ∃ (V' : St) (L : Nat) (lo' : Nat → Nat) (t' : S11) (X' : St × St), df_X11_forgetBehind n t = some (nI (e - c), t') ∧ df_X19_cut n τ = some (nI (e - c), (pI (pI (pI (pI (pI (pI (pI τ.1 0 0) 10 (nI (lo (c + 1)))) 6 (nI c)) 8 (nI L)) 10 (nI L)) 9 0) 11 0, (τ.2.1, ((τ.2.2.1.1, X'), τ.2.2.2)))) ∧ jM n vn Q V' L L c c c lo' t' (pI (pI (pI (pI (pI (pI (pI τ.1 0 0) 10 (nI (lo (c + 1)))) 6 (nI c)) 8 (nI L)) 10 (nI L)) 9 0) 11 0, (τ.2.1, ((τ.2.2.1.1, X'), τ.2.2.2))) ∧ (sI t'.1 0 = sI t.1 0 ∧ sI t'.1 7 = sI t.1 7 ∧ (∀ k : Nat, sO t'.1 k = sO t.1 k) ∧ t'.2.1 = t.2.1 ∧ t'.2.2.1 = t.2.2.1 ∧ t'.2.2.2.2.2 = t.2.2.2.2.2) := by
  have hce : c ≤ e := h.1.2.2.2.2.1
  obtain ⟨X', r1, r2⟩ := jm_come n hn (jm_0 h 0) hce
  obtain ⟨V', t', a1, a2, a3, a4, a5⟩ := fb_1 n (by omega) h.1
  obtain ⟨hI, hL, hev, hv, ⟨h4, h5, h6⟩, hk, hX, h10, h14, hS, h11⟩ := h
  have rX : RA n (nI vn) Q (lgL (evK V) lo) c X' := r2.2.2.2.2.2.2.1
  have r14 : sI X'.1 14 = -nI 1 := r2.2.2.2.2.2.2.2.2.1
  obtain ⟨l1, l2, l3, l4, l5, l6⟩ := id hL
  have ln := okL_N l3 (c + 1)
  refine ⟨V', lo (c + 1), fun k => if k ≤ c then lo k else lo (c + 1), t', X', a1, ?_, ⟨a2, ?_, fun i hi => (hev i (by omega)).trans (a3 i).symm, hv, ⟨h4, h5, rfl⟩, Nat.le_refl c, ?_, ?_, r14, ⟨?_, fun i hi => by omega⟩, a4, Or.inl rfl⟩, a5⟩
  · unfold df_X19_cut df_X19_cut_0
    rw [nb_let, if_neg (show ¬ sI (pI τ.1 0 0) 3 = 0 from hb)]
    have e1 : sI (pI τ.1 0 0) 6 - sI (pI τ.1 0 0) 5 = nI (e - c) := by
      show sI τ.1 6 - sI τ.1 5 = _
      rw [h6, h5]; exact pk_sub hce
    rw [e1, nb_let, show sI (pI τ.1 0 0) 5 = nI c from h5, r1, nb_b1, nb_let]
    dsimp only
    rw [show sI (pI (pI τ.1 0 0) 10 (nI (lo (c + 1)))) 5 = nI c from h5]
    refine Eq.trans (cut_40 n (L := lo (c + 1)) (c := c) (x := nI (e - c)) (N - lo (c + 1)) n (pI (pI (pI τ.1 0 0) 10 (nI (lo (c + 1)))) 6 (nI c), (τ.2.1, ((τ.2.2.1.1, X'), τ.2.2.2))) (by omega) (show sI τ.1 8 = nI (lo (c + 1) + (N - lo (c + 1))) by rw [l1, show lo (c + 1) + (N - lo (c + 1)) = N by omega]) (by omega) (by omega) (fun i q1 q2 => ?_) (fun q0 => ?_) h5) rfl
    · obtain ⟨c', g1, g2, g3, g4⟩ := okL_at l3 (show i < N by omega) (e - c) (c + 1) (by omega) q1
      exact ⟨c', by omega, by omega, l4 i c' g2 g3 g4⟩
    · obtain ⟨c', g1, g2, g3, g4⟩ := okL_at l3 (show lo (c + 1) - 1 < N by omega) (e + 1) 0 (by omega) (by rw [l3.1]; omega)
      refine ⟨c', ?_, l4 _ c' g2 g3 g4⟩
      by_cases y : c' ≤ c
      · exact y
      · have := okL_le l3 (c + 1) c' (by omega)
        omega
  · refine ⟨rfl, by omega, a2.2.1.2.2.2.2.1, fun i c' hc' q1 q2 => ?_, fun i hi => l5 i (by omega), by omega⟩
    have q1 : (if c' ≤ c then lo c' else lo (c + 1)) ≤ i := q1
    have q2 : i < (if c' + 1 ≤ c then lo (c' + 1) else lo (c + 1)) := q2
    rw [if_pos hc'] at q1
    show sR τ.1 7 i = nI c'
    by_cases y : c' + 1 ≤ c
    · rw [if_pos y] at q2
      exact l4 i c' (by omega) q1 q2
    · rw [if_neg y] at q2
      exact l4 i c' (by omega) q1 (by rw [show c' + 1 = c + 1 by omega]; exact q2)
  · refine RA_c (fun j hj => ?_) rX
    rw [funext a3]
    unfold lgL
    dsimp only
    rw [if_pos hj]
    by_cases y : j + 1 ≤ c
    · rw [if_pos y]
    · rw [if_neg y, show j + 1 = c + 1 by omega]
  · show nI (lo (c + 1)) = nI (if c + 1 ≤ c then lo (c + 1) else lo (c + 1))
    rw [if_neg (by omega)]
  · show nI 0 = nI (lo (c + 1) - lo (c + 1))
    rw [Nat.sub_self]
