/-- what was reached up to a count -/
def hsT (n : Nat) (v : Int32) (Q : St) (L : Nat → List (Nat × Int64 × Int32)) (e : Nat) : Prop := (∀ k : Nat, k ≤ e → ∃ M : St × St, tB n v Q L k M) ∧ ∀ k : Nat, k ≤ e → ∃ M : St × St, tA n v Q L k M ∧ (k < e → ¬ sI M.1 3 = -nI 1)
theorem RA_n {n : Nat} {v : Int32} {Q : St} {L : Nat → List (Nat × Int64 × Int32)} {e k : Nat} (hs : hsT n v Q L e) (hk : k ≤ e) {X : St × St} (hX : RA n v Q L k X) : sI X.1 0 = nI k ∧ X.2 = Q := by
  obtain ⟨M, h1, _⟩ := hs.2 k hk
  obtain ⟨_, _, h3, h4⟩ := h1.2 X hX
  exact ⟨h3, h4⟩
/-- the reference's tick, and what is recorded of the next count -/
theorem rf_tick (n : Nat) (hn : 40000 < n) {v : Int32} {Q : St} {N e k : Nat} {lo : Nat → Nat} {τ : S19} {s : St × Rw × (St × (St × (St × (St)))) × (St) × (St) × (Nat → St) × (Nat → St) × (Nat → St × (St))} (hs : hsT n v Q (lgL (evT τ.1) lo) e) (hP : rPp s Q) (hL : rLg τ.1 N e lo) (hk : k < e) (hX : RA n v Q (lgL (evT τ.1) lo) k τ.2.2.1.2) (ht : sI τ.1 10 = nI (lo (k + 1))) : ∃ (w : Int32) (X1 X' : St × St), df_X16_tick n τ.2.2.1.2 = some (w, X1) ∧ df_X19_tick n τ = some (w, (pI τ.1 10 (nI (lo (k + 2))), (τ.2.1, ((τ.2.2.1.1, X'), τ.2.2.2)))) ∧ RA n v Q (lgL (evT τ.1) lo) (k + 1) X' ∧ sI X'.1 14 = sI τ.2.2.1.2.1 14 ∧ sI X'.1 15 = sI τ.2.2.1.2.1 15 := by
  obtain ⟨M, hM, hcur⟩ := hs.2 k (by omega)
  have e6 := hL.2.2.2.2.2
  obtain ⟨K', c1, c2, c3, c4⟩ := tA_tick n hn (s := (s.1, (s.2.1, ((s.2.2.1.1, (s.2.2.1.2.1, M)), s.2.2.2)))) hM (by omega) hP (hcur hk)
  obtain ⟨p, w, X1, x1, x2, x3, x4, x5, x6, x7⟩ := c4 _ hX
  have rb : RB n v Q (lgL (evT τ.1) lo) (k + 1) X1 := by
    obtain ⟨Y0, y1, y2⟩ := hX
    exact ⟨Y0, _, w, y1, y2, x3⟩
  have l1 := hL.2.2.1.2.1 (k + 1)
  have l2 := okL_N hL.2.2.1 (k + 2)
  have l3 := hL.2.1
  obtain ⟨M', X', a1, a2, a3, a4, a5, a6⟩ := rf_rec n (by omega) (show k + 1 ≤ e by omega) (lo (k + 2) - lo (k + 1)) (lo (k + 1)) n (τ.1, (τ.2.1, ((τ.2.2.1.1, X1), τ.2.2.2))) K' (by omega) (show lo (k + 1) + (lo (k + 2) - lo (k + 1)) = lo (k + 2) by have l1 : lo (k + 1) ≤ lo (k + 2) := l1; omega) (Nat.le_refl _) hL ht x4
  have a2 : evR n (lgL (evT τ.1) lo (k + 1)) X1 = some X' := a2
  have a4 : sI X'.1 14 = sI X1.1 14 := a4
  have a5 : sI X'.1 15 = sI X1.1 15 := a5
  refine ⟨w, X1, X', x3, ?_, ⟨X1, rb, evW_of n _ _ _ a2⟩, a4.trans x5, a5.trans x6⟩
  have a6 : df_X19_takeRecorded n (τ.1, (τ.2.1, ((τ.2.2.1.1, X1), τ.2.2.2))) = some (pI τ.1 10 (nI (lo (k + 2))), (τ.2.1, ((τ.2.2.1.1, X'), τ.2.2.2))) := a6
  unfold df_X19_tick df_X19_tick_0
  rw [x3, nb_b2, nb_let, a6, nb_b1]
  rcases okB_wr x7 with z | z
  · rw [z]; exact nm_z0
  · rw [z]; exact nm_z1
theorem okY_0 : okY nd_st0 := ⟨fun _ _ => (show fits .byte (.int 0) = true by decide), fun _ _ => (show fits .byte (.int 0) = true by decide), fun _ _ => (show fits .byte (.int 0) = true by decide), fun _ _ => (show fits .byte (.int 0) = true by decide), fun _ _ => (show fits .byte (.int 0) = true by decide)⟩
/-- the reference begins anew -/
theorem rf_anew (n : Nat) (hn : 40000 < n) {Q : St} {N e vn T Z : Nat} {lo : Nat → Nat} {τ : S19} {P : St} (hv : vn < 4) (pg : rPg P Q vn T Z) (hs : hsT n (nI vn) Q (lgL (evT τ.1) lo) e) (hL : rLg τ.1 N e lo) (h4 : sI τ.1 4 = nI vn) (hQ : τ.2.2.1.2.2 = Q) : ∃ X' : St × St, df_X19_anew n τ = some (pI τ.1 10 (nI (lo 1)), (τ.2.1, ((τ.2.2.1.1, X'), τ.2.2.2))) ∧ RA n (nI vn) Q (lgL (evT τ.1) lo) 0 X' ∧ sI X'.1 14 = -nI 1 := by
  obtain ⟨M0, X0, _, e2, _, _, _, e14, _⟩ := nk_boot n hn (M := (nd_st0, nd_st0)) (X := τ.2.2.1.2) (P := P) (s0 := nd_st0) okY_0 hv (by rw [hQ]; exact pg)
  have rb : RB n (nI vn) Q (lgL (evT τ.1) lo) 0 X0 := ⟨τ.2.2.1.2, hQ, e2⟩
  obtain ⟨M, hM⟩ := hs.1 0 (by omega)
  have x4 := hM.2 X0 rb
  have l1 := hL.2.2.1.1
  have l2 := okL_N hL.2.2.1 1
  have l3 := hL.2.1
  obtain ⟨M', X', a1, a2, a3, a4, a5, a6⟩ := rf_rec n (by omega) (show 0 ≤ e by omega) (lo 1 - lo 0) (lo 0) n (pI τ.1 10 (nI 0), (τ.2.1, ((τ.2.2.1.1, X0), τ.2.2.2))) (nd_st0, (nd_st0, M)) (by omega) (show lo 0 + (lo 1 - lo 0) = lo 1 by rw [l1]; omega) (Nat.le_refl _) hL (show nI 0 = nI (lo 0) by rw [l1]) x4
  have a2 : evR n (lgL (evT τ.1) lo 0) X0 = some X' := a2
  have a4 : sI X'.1 14 = sI X0.1 14 := a4
  refine ⟨X', ?_, ⟨X0, rb, evW_of n _ _ _ a2⟩, a4.trans e14⟩
  have a6 : df_X19_takeRecorded n (pI τ.1 10 (nI 0), (τ.2.1, ((τ.2.2.1.1, X0), τ.2.2.2))) = some (pI (pI τ.1 10 (nI 0)) 10 (nI (lo 1)), (τ.2.1, ((τ.2.2.1.1, X'), τ.2.2.2))) := a6
  rw [nm_ii] at a6
  have a6 : df_X19_takeRecorded n (pI τ.1 10 0, (τ.2.1, ((τ.2.2.1.1, X0), τ.2.2.2))) = some (pI τ.1 10 (nI (lo 1)), (τ.2.1, ((τ.2.2.1.1, X'), τ.2.2.2))) := a6
  unfold df_X19_anew df_X19_anew_0
  rw [h4, e2, nb_b1, nb_let, nb_let, a6, nb_b1]
/-- the reference goes on to a count -/
theorem rf_go (n : Nat) (hn : 40000 < n) {v : Int32} {Q : St} {N e c : Nat} {lo : Nat → Nat} {s : St × Rw × (St × (St × (St × (St)))) × (St) × (St) × (Nat → St) × (Nat → St) × (Nat → St × (St))} (hP : rPp s Q) (hc : c ≤ e) : ∀ (m k g : Nat) (τ : S19), m < g → k + m = c → hsT n v Q (lgL (evT τ.1) lo) e → rLg τ.1 N e lo → RA n v Q (lgL (evT τ.1) lo) k τ.2.2.1.2 → sI τ.1 10 = nI (lo (k + 1)) → ∃ X' : St × St, df_X19_come_15 n g (nI c) τ = some (pI τ.1 10 (nI (lo (c + 1))), (τ.2.1, ((τ.2.2.1.1, X'), τ.2.2.2))) ∧ RA n v Q (lgL (evT τ.1) lo) c X' ∧ sI X'.1 14 = sI τ.2.2.1.2.1 14 ∧ sI X'.1 15 = sI τ.2.2.1.2.1 15
  | 0, k, g, τ, hg, hk, hs, hL, hX, ht => by
    obtain ⟨g', rfl⟩ : ∃ g' : Nat, g = g' + 1 := ⟨g - 1, by omega⟩
    have hk : k = c := by omega
    subst hk
    have e6 := hL.2.2.2.2.2
    have x0 := (RA_n hs hc hX).1
    have nw : df_X16_now n τ.2.2.1.2 = some (nI k, τ.2.2.1.2) := by
      unfold df_X16_now df_X16_now_0
      rw [x0]
    refine ⟨τ.2.2.1.2, ?_, hX, rfl, rfl⟩
    rw [show df_X19_come_15 n (g' + 1) = dF_X19_come_15 n (df_X19_come_15 n g') from rfl]
    unfold dF_X19_come_15
    rw [nw, nb_b2, nb_let, if_pos (by rw [nI_leI (by omega) (by omega)]; exact Nat.le_refl k), ← ht, nm_i0]
  | m + 1, k, g, τ, hg, hk, hs, hL, hX, ht => by
    obtain ⟨g', rfl⟩ : ∃ g' : Nat, g = g' + 1 := ⟨g - 1, by omega⟩
    have e6 := hL.2.2.2.2.2
    have x0 := (RA_n hs (show k ≤ e by omega) hX).1
    have nw : df_X16_now n τ.2.2.1.2 = some (nI k, τ.2.2.1.2) := by
      unfold df_X16_now df_X16_now_0
      rw [x0]
    obtain ⟨w, X1, X2, t1, t2, t3, t4, t5⟩ := rf_tick n hn hs hP hL (show k < e by omega) hX ht
    obtain ⟨X', g1, g2, g3, g4⟩ := rf_go n hn hP hc m (k + 1) g' (pI τ.1 10 (nI (lo (k + 2))), (τ.2.1, ((τ.2.2.1.1, X2), τ.2.2.2))) (by omega) (by omega) hs hL t3 rfl
    have g1 : df_X19_come_15 n g' (nI c) (pI τ.1 10 (nI (lo (k + 2))), (τ.2.1, ((τ.2.2.1.1, X2), τ.2.2.2))) = some (pI (pI τ.1 10 (nI (lo (k + 2)))) 10 (nI (lo (c + 1))), (τ.2.1, ((τ.2.2.1.1, X'), τ.2.2.2))) := g1
    rw [nm_ii] at g1
    have g3 : sI X'.1 14 = sI X2.1 14 := g3
    have g4 : sI X'.1 15 = sI X2.1 15 := g4
    refine ⟨X', ?_, g2, g3.trans t4, g4.trans t5⟩
    rw [show df_X19_come_15 n (g' + 1) = dF_X19_come_15 n (df_X19_come_15 n g') from rfl]
    generalize df_X19_come_15 n g' = G at g1
    unfold dF_X19_come_15
    rw [nw, nb_b2, nb_let, if_neg (fun z => by rw [nI_leI (by omega) (by omega)] at z; omega)]
    rw [show (τ.1, (τ.2.1, ((τ.2.2.1.1, τ.2.2.1.2), τ.2.2.2))) = τ from rfl, t2, nb_b2]
    exact g1
/-- the reference comes to a count, from wherever it is -/
theorem rf_come (n : Nat) (hn : 70000 < n) {Q : St} {N e c k vn T Z : Nat} {lo : Nat → Nat} {τ : S19} {P : St} {s : St × Rw × (St × (St × (St × (St)))) × (St) × (St) × (Nat → St) × (Nat → St) × (Nat → St × (St))} (hP : rPp s Q) (hv : vn < 4) (pg : rPg P Q vn T Z) (hs : hsT n (nI vn) Q (lgL (evT τ.1) lo) e) (hL : rLg τ.1 N e lo) (h4 : sI τ.1 4 = nI vn) (hc : c ≤ e) (hk : k ≤ e) (hX : RA n (nI vn) Q (lgL (evT τ.1) lo) k τ.2.2.1.2) (ht : sI τ.1 10 = nI (lo (k + 1))) (h14 : sI τ.2.2.1.2.1 14 = -nI 1) : ∃ X' : St × St, df_X19_come n (nI c) τ = some (pI τ.1 10 (nI (lo (c + 1))), (τ.2.1, ((τ.2.2.1.1, X'), τ.2.2.2))) ∧ RA n (nI vn) Q (lgL (evT τ.1) lo) c X' ∧ sI X'.1 14 = -nI 1 := by
  have e6 := hL.2.2.2.2.2
  obtain ⟨x0, xQ⟩ := RA_n hs hk hX
  have nw : df_X16_now n τ.2.2.1.2 = some (nI k, τ.2.2.1.2) := by
    unfold df_X16_now df_X16_now_0
    rw [x0]
  by_cases y : k ≤ c
  · obtain ⟨X', g1, g2, g3, _⟩ := rf_go n (by omega) hP hc (c - k) k n τ (by omega) (by omega) hs hL hX ht
    refine ⟨X', ?_, g2, g3.trans h14⟩
    unfold df_X19_come df_X19_come_0
    rw [nw, nb_b2, nb_let, if_pos (by rw [nI_leI (by omega) (by omega)]; exact y)]
    exact g1
  · obtain ⟨X1, a1, a2, a3⟩ := rf_anew n (by omega) hv pg hs hL h4 xQ
    obtain ⟨X', g1, g2, g3, _⟩ := rf_go n (by omega) hP hc c 0 n (pI τ.1 10 (nI (lo 1)), (τ.2.1, ((τ.2.2.1.1, X1), τ.2.2.2))) (by omega) (by omega) hs hL a2 rfl
    have g1 : df_X19_come_15 n n (nI c) (pI τ.1 10 (nI (lo 1)), (τ.2.1, ((τ.2.2.1.1, X1), τ.2.2.2))) = some (pI (pI τ.1 10 (nI (lo 1))) 10 (nI (lo (c + 1))), (τ.2.1, ((τ.2.2.1.1, X'), τ.2.2.2))) := g1
    rw [nm_ii] at g1
    have g3 : sI X'.1 14 = sI X1.1 14 := g3
    refine ⟨X', ?_, g2, g3.trans a3⟩
    unfold df_X19_come df_X19_come_0
    rw [nw, nb_b2, nb_let, if_neg (fun z => by rw [nI_leI (by omega) (by omega)] at z; omega)]
    rw [show (τ.1, (τ.2.1, ((τ.2.2.1.1, τ.2.2.1.2), τ.2.2.2))) = τ from rfl, a1, nb_b1]
    exact g1
