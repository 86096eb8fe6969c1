/-- the reference's recording with one event more -/
def aT (T : St) (N e k : Nat) (a : Int64) (b : Int32) : St := pI (pI (pR (pR (pQ (pR T 5 (upd (sR T 5) N (nI k))) 0 (vp_updL (sQ T 0) N a)) 6 (upd (sR T 6) N b)) 7 (upd (sR T 7) N (nI e))) 8 (nI (N + 1))) 10 (nI (N + 1))
theorem aT_r (T : St) (N e k : Nat) (a : Int64) (b : Int32) : sR (aT T N e k a b) 5 = upd (sR T 5) N (nI k) ∧ sQ (aT T N e k a b) 0 = vp_updL (sQ T 0) N a ∧ sR (aT T N e k a b) 6 = upd (sR T 6) N b ∧ sR (aT T N e k a b) 7 = upd (sR T 7) N (nI e) ∧ sI (aT T N e k a b) 8 = nI (N + 1) ∧ sI (aT T N e k a b) 10 = nI (N + 1) ∧ ∀ j : Nat, ¬ j = 8 → ¬ j = 10 → sI (aT T N e k a b) j = sI T j := ⟨rfl, rfl, rfl, rfl, rfl, rfl, fun j h1 h2 => by
  unfold aT
  rw [nb_II, if_neg h2, nb_II, if_neg h1]
  rfl⟩
theorem aT_e {T : St} {N e k : Nat} (hk : k < 5) {a : Int64} {b : Int32} : (∀ i : Nat, i < N → evT (aT T N e k a b) i = evT T i) ∧ evT (aT T N e k a b) N = (k, a, b) := by
  obtain ⟨r1, r2, r3, r4, r5, r6, r7⟩ := aT_r T N e k a b
  refine ⟨fun i hi => ?_, ?_⟩
  · unfold evT
    rw [r1, r2, r3, nm_un (by omega), up_o (by omega), nm_un (by omega)]
  · unfold evT
    rw [r1, r2, r3, nm_us, ul_s, nm_us, nI_clamp (by omega)]
theorem rLg_a {T : St} {N e k : Nat} {lo : Nat → Nat} (h : rLg T N e lo) (hN : N < 2048) (hk : k < 5) {a : Int64} {b : Int32} (hv : evV k a b) : rLg (aT T N e k a b) (N + 1) e (loA lo e N) := by
  obtain ⟨l1, l2, l3, l4, l5, l6⟩ := h
  obtain ⟨r1, r2, r3, r4, r5, r6, r7⟩ := aT_r T N e k a b
  refine ⟨r5, by omega, okL_a l3, fun i c hc h1 h2 => ?_, fun i hi => ?_, l6⟩
  · rw [r4]
    have h1 : (if c ≤ e then lo c else N + 1) ≤ i := h1
    have h2 : i < (if c + 1 ≤ e then lo (c + 1) else N + 1) := h2
    rw [if_pos hc] at h1
    by_cases d : c + 1 ≤ e
    · rw [if_pos d] at h2
      have := okL_N l3 (c + 1)
      rw [nm_un (by omega)]
      exact l4 i c hc h1 h2
    · rw [if_neg d] at h2
      have ce : c = e := by omega
      by_cases y : i = N
      · rw [y, nm_us, ce]
      · rw [nm_un y]
        exact l4 i c hc h1 (by rw [l3.2.2 (c + 1) (by omega)]; omega)
  · rw [r1, r2, r3]
    by_cases y : i = N
    · rw [y, nm_us, ul_s, nm_us]
      exact ⟨k, hk, rfl, hv⟩
    · rw [nm_un y, up_o y, nm_un y]
      exact l5 i (by omega)
/-- the reference records an event at its end -/
theorem rc_rec (n : Nat) {N e k : Nat} {lo : Nat → Nat} {τ : S19} (hL : rLg τ.1 N e lo) (hN : N < 2048) (h6 : sI τ.1 6 = nI e) {a : Int64} {b r : Int32} {X' : St × St} (hr : r = nI 0 ∨ r = nI 1) (he : df_X16_event n (nI k) a b τ.2.2.1.2 = some (r, X')) : (r = nI 0 → df_X19_record n (nI k) a b τ = some (nI 0, (τ.1, (τ.2.1, ((τ.2.2.1.1, X'), τ.2.2.2))))) ∧ (r = nI 1 → df_X19_record n (nI k) a b τ = some (nI 1, (aT τ.1 N e k a b, (τ.2.1, ((τ.2.2.1.1, X'), τ.2.2.2))))) := by
  obtain ⟨l1, l2, l3, l4, l5, l6⟩ := hL
  have u1 : N < 2 ^ 31 := by omega
  have n8 : ¬ nI N = (2048 : Int32) := fun z => by
    have := nm_inI (by omega) (by omega) (show nI N = nI 2048 from z)
    omega
  refine ⟨fun z => ?_, fun z => ?_⟩
  · unfold df_X19_record df_X19_record_0
    rw [l1, if_neg n8, he, nb_b2, nb_let, z, if_pos (show nI 0 = (0 : Int32) from rfl)]
    rfl
  · unfold df_X19_record df_X19_record_0
    rw [l1, if_neg n8, he, nb_b2, nb_let, z, if_neg (show ¬ nI 1 = (0 : Int32) by decide)]
    dsimp only
    rw [l1, nm_ck hN u1, nI_clamp u1, nb_let]
    dsimp only
    rw [show ∀ f : Nat → Int32, sI (pR τ.1 5 f) 8 = nI N from fun _ => l1, nm_ck hN u1, nI_clamp u1, nb_let]
    dsimp only
    rw [show ∀ (f : Nat → Int32) (g : Nat → Int64), sI (pQ (pR τ.1 5 f) 0 g) 8 = nI N from fun _ _ => l1, nm_ck hN u1, nI_clamp u1, nb_let]
    dsimp only
    rw [show ∀ (f h : Nat → Int32) (g : Nat → Int64), sI (pR (pQ (pR τ.1 5 f) 0 g) 6 h) 8 = nI N from fun _ _ _ => l1, nm_ck hN u1, nI_clamp u1, nb_let]
    dsimp only
    rw [show ∀ (f h : Nat → Int32) (g : Nat → Int64), sI (pR (pQ (pR τ.1 5 f) 0 g) 6 h) 6 = nI e from fun _ _ _ => h6]
    rw [show ∀ (f h j : Nat → Int32) (g : Nat → Int64), sI (pR (pR (pQ (pR τ.1 5 f) 0 g) 6 h) 7 j) 8 = nI N from fun _ _ _ _ => l1, show nI N + 1 = nI (N + 1) from nI_add .., nb_let, nb_let]
    rfl
