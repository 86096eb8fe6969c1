/-- an event of the reference's recording -/
def evT (T : St) (i : Nat) : Nat × Int64 × Int32 := (Int32.toNatClampNeg (sR T 5 i), sQ T 0 i, sR T 6 i)
def evs (f : Nat → Nat × Int64 × Int32) : Nat → Nat → List (Nat × Int64 × Int32)
  | _, 0 => []
  | i, m + 1 => f i :: evs f (i + 1) m
/-- the events of a count: those between two places of the recording -/
def lgL (f : Nat → Nat × Int64 × Int32) (lo : Nat → Nat) (c : Nat) : List (Nat × Int64 × Int32) := evs f (lo c) (lo (c + 1) - lo c)
theorem evs_m {f : Nat → Nat × Int64 × Int32} {e : Nat × Int64 × Int32} : ∀ (m i : Nat), e ∈ evs f i m → ∃ k : Nat, i ≤ k ∧ k < i + m ∧ e = f k
  | 0, _, h => nomatch h
  | m + 1, i, h => by
    rcases List.mem_cons.mp h with z | z
    · exact ⟨i, by omega, by omega, z⟩
    · obtain ⟨k, h1, h2, h3⟩ := evs_m m (i + 1) z
      exact ⟨k, by omega, by omega, h3⟩
/-- places of a recording of N events up to a count -/
def okL (N e : Nat) (lo : Nat → Nat) : Prop := lo 0 = 0 ∧ (∀ c : Nat, lo c ≤ lo (c + 1)) ∧ (∀ c : Nat, e < c → lo c = N)
theorem okL_le {N e : Nat} {lo : Nat → Nat} (h : okL N e lo) : ∀ (c d : Nat), c ≤ d → lo c ≤ lo d := fun c d => by
  induction d with
  | zero => intro z; have : c = 0 := by omega
            rw [this]; exact Nat.le_refl _
  | succ d ih =>
    intro z
    by_cases y : c = d + 1
    · rw [y]; exact Nat.le_refl _
    · exact Nat.le_trans (ih (by omega)) (h.2.1 d)
theorem okL_N {N e : Nat} {lo : Nat → Nat} (h : okL N e lo) (c : Nat) : lo c ≤ N := by
  by_cases y : e < c
  · rw [h.2.2 c y]; exact Nat.le_refl _
  · have := okL_le h c (e + 1) (by omega)
    rw [h.2.2 (e + 1) (by omega)] at this
    exact this
/-- which count an event is of -/
theorem okL_at {N e : Nat} {lo : Nat → Nat} (h : okL N e lo) {i : Nat} (hi : i < N) : ∀ (m c : Nat), c + m = e + 1 → lo c ≤ i → ∃ c' : Nat, c ≤ c' ∧ c' ≤ e ∧ lo c' ≤ i ∧ i < lo (c' + 1)
  | 0, c, hc, h1 => by
    have := h.2.2 c (by omega)
    omega
  | m + 1, c, hc, h1 => by
    by_cases y : i < lo (c + 1)
    · exact ⟨c, by omega, by omega, h1, y⟩
    · obtain ⟨c', g1, g2, g3, g4⟩ := okL_at h hi m (c + 1) (by omega) (by omega)
      exact ⟨c', by omega, g2, g3, g4⟩
/-- the reference's recording -/
def rLg (T : St) (N e : Nat) (lo : Nat → Nat) : Prop := sI T 8 = nI N ∧ N ≤ 2048 ∧ okL N e lo ∧ (∀ i c : Nat, c ≤ e → lo c ≤ i → i < lo (c + 1) → sR T 7 i = nI c) ∧ (∀ i : Nat, i < N → ∃ k : Nat, k < 5 ∧ sR T 5 i = nI k ∧ evV k (sQ T 0 i) (sR T 6 i)) ∧ e ≤ 60000
theorem rLg_v {T : St} {N e : Nat} {lo : Nat → Nat} (h : rLg T N e lo) (c : Nat) : ∀ x : Nat × Int64 × Int32, x ∈ lgL (evT T) lo c → evV x.1 x.2.1 x.2.2 := fun x hx => by
  obtain ⟨k, h1, h2, h3⟩ := evs_m _ _ hx
  have l1 := okL_N h.2.2.1 (c + 1)
  have l2 := h.2.2.1.2.1 c
  obtain ⟨kk, k5, e1, e2⟩ := h.2.2.2.2.1 k (by omega)
  rw [h3]
  show evV (Int32.toNatClampNeg (sR T 5 k)) (sQ T 0 k) (sR T 6 k)
  rw [e1, nI_clamp (by omega)]
  exact e2
/-- the reference takes what is recorded of a count -/
theorem rf_rec (n : Nat) (hn : 1024 < n) {Q : St} {N e c : Nat} {lo : Nat → Nat} (hc : c ≤ e) : ∀ (m i g : Nat) (τ : S19) (K : St × (St × (St × St))), m < g → i + m = lo (c + 1) → lo c ≤ i → rLg τ.1 N e lo → sI τ.1 10 = nI i → tX n Q c K.2.2 τ.2.2.1.2 → ∃ M' X' : St × St, evC n (evs (evT τ.1) i m) K = some (K.1, (K.2.1, M')) ∧ evR n (evs (evT τ.1) i m) τ.2.2.1.2 = some X' ∧ tX n Q c M' X' ∧ sI X'.1 14 = sI τ.2.2.1.2.1 14 ∧ sI X'.1 15 = sI τ.2.2.1.2.1 15 ∧ df_X19_takeRecorded_0 n g τ = some (pI τ.1 10 (nI (lo (c + 1))), (τ.2.1, ((τ.2.2.1.1, X'), τ.2.2.2)))
  | 0, i, g, τ, K, hg, hi, h1, hL, ht, hX => by
    refine ⟨K.2.2, τ.2.2.1.2, rfl, rfl, hX, rfl, rfl, ?_⟩
    obtain ⟨l1, l2, l3, l4, l5, l6⟩ := hL
    obtain ⟨g', rfl⟩ : ∃ g' : Nat, g = g' + 1 := ⟨g - 1, by omega⟩
    have ln := okL_N l3 (c + 1)
    have e0 : (pI τ.1 10 (nI (lo (c + 1))), (τ.2.1, ((τ.2.2.1.1, τ.2.2.1.2), τ.2.2.2))) = τ := by
      rw [← hi, Nat.add_zero, ← ht, nm_i0]
    rw [e0, show df_X19_takeRecorded_0 n (g' + 1) = dF_X19_takeRecorded_0 n (df_X19_takeRecorded_0 n g') from rfl]
    generalize df_X19_takeRecorded_0 n g' = G
    have hi : i = lo (c + 1) := by omega
    have u1 : i < 2 ^ 31 := by omega
    have u2 : N < 2 ^ 31 := by omega
    by_cases y : N ≤ i
    · unfold dF_X19_takeRecorded_0
      rw [l1, ht, if_pos (by rw [nI_leI u2 u1]; exact y)]
      rfl
    · obtain ⟨c', g1, g2, g3, g4⟩ := okL_at l3 (show i < N by omega) (e - c) (c + 1) (by omega) (by omega)
      have w := l4 i c' g2 g3 g4
      have nw : df_X16_now n τ.2.2.1.2 = some (nI c, τ.2.2.1.2) := by
        unfold df_X16_now df_X16_now_0
        rw [hX.2.2.1]
      unfold dF_X19_takeRecorded_0
      rw [l1, ht, if_neg (fun z => by rw [nI_leI u2 u1] at z; exact y z), nm_ck (by omega) u1, nI_clamp u1, nw, nb_b2, nb_let, w, if_neg (fun z => by have := nm_inI (by omega) (by omega) z; omega)]
      rfl
  | m + 1, i, g, τ, K, hg, hi, h1, hL, ht, hX => by
    obtain ⟨l1, l2, l3, l4, l5, l6⟩ := id hL
    obtain ⟨g', rfl⟩ : ∃ g' : Nat, g = g' + 1 := ⟨g - 1, by omega⟩
    have ln := okL_N l3 (c + 1)
    have w := l4 i c hc h1 (by omega)
    obtain ⟨k, k5, ek, ev⟩ := l5 i (by omega)
    obtain ⟨r, M1, X1, _, a1, a2, a3, a4, a5, _⟩ := tX_ev n hn (K := K) ev hX
    have hL' : rLg (pI τ.1 10 (nI (i + 1))) N e lo := hL
    obtain ⟨M', X', b1, b2, b3, b4, b5, b6⟩ := rf_rec n hn hc m (i + 1) g' (pI τ.1 10 (nI (i + 1)), (τ.2.1, ((τ.2.2.1.1, X1), τ.2.2.2))) (K.1, (K.2.1, M1)) (by omega) (by omega) (by omega) hL' rfl a3
    have b1 : evC n (evs (evT τ.1) (i + 1) m) (K.1, (K.2.1, M1)) = some (K.1, (K.2.1, M')) := b1
    have b2 : evR n (evs (evT τ.1) (i + 1) m) X1 = some X' := b2
    have b4 : sI X'.1 14 = sI X1.1 14 := b4
    have b5 : sI X'.1 15 = sI X1.1 15 := b5
    have ee : evT τ.1 i = (k, sQ τ.1 0 i, sR τ.1 6 i) := by
      unfold evT
      rw [ek, nI_clamp (by omega)]
    refine ⟨M', X', ?_, ?_, b3, b4.trans a4, b5.trans a5, ?_⟩
    · show nd_b2 (df_X5_come n (nI (evT τ.1 i).1) (evT τ.1 i).2.1 (evT τ.1 i).2.2 K) _ = _
      rw [ee]
      show nd_b2 (df_X5_come n (nI k) (sQ τ.1 0 i) (sR τ.1 6 i) K) _ = _
      rw [a1, nb_b2]
      exact b1
    · show nd_b2 (df_X16_event n (nI (evT τ.1 i).1) (evT τ.1 i).2.1 (evT τ.1 i).2.2 τ.2.2.1.2) _ = _
      rw [ee]
      show nd_b2 (df_X16_event n (nI k) (sQ τ.1 0 i) (sR τ.1 6 i) τ.2.2.1.2) _ = _
      rw [a2, nb_b2]
      exact b2
    · rw [show df_X19_takeRecorded_0 n (g' + 1) = dF_X19_takeRecorded_0 n (df_X19_takeRecorded_0 n g') from rfl]
      have u1 : i < 2 ^ 31 := by omega
      have u2 : N < 2 ^ 31 := by omega
      have nw : df_X16_now n τ.2.2.1.2 = some (nI c, τ.2.2.1.2) := by
        unfold df_X16_now df_X16_now_0
        rw [hX.2.2.1]
      have b6 : df_X19_takeRecorded_0 n g' (pI τ.1 10 (nI (i + 1)), (τ.2.1, ((τ.2.2.1.1, X1), τ.2.2.2))) = some (pI (pI τ.1 10 (nI (i + 1))) 10 (nI (lo (c + 1))), (τ.2.1, ((τ.2.2.1.1, X'), τ.2.2.2))) := b6
      rw [nm_ii] at b6
      generalize df_X19_takeRecorded_0 n g' = G at b6
      unfold dF_X19_takeRecorded_0
      rw [l1, ht, if_neg (fun z => by rw [nI_leI u2 u1] at z; omega), nm_ck (by omega) u1, nI_clamp u1, nw, nb_b2, nb_let, w, if_pos rfl]
      dsimp only
      rw [ht, nm_ck (by omega) u1, nm_ck (by omega) u1, nm_ck (by omega) u1, nI_clamp u1]
      rw [ek, a2, nb_b2, nb_let]
      dsimp only
      rw [ht, nb_let, show nI i + 1 = nI (i + 1) from nI_add ..]
      exact b6
