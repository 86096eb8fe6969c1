/-- the program that nothing uses -/
def slP (σ : S12) (s : Nat) : Option Nat := if s < 4 then σ.2.1 1 s else σ.2.1 0 (s - 4)
theorem isU (n T L i : Nat) (hn : 20 < n) (hi : i < 9) {σ : S12} (h1 : ∀ k : Nat, k < 4 → σ.2.1 1 k = none ∨ ∃ j : Nat, j < 9 ∧ σ.2.1 1 k = some j) (h0 : ∀ k : Nat, k < 4 → σ.2.1 0 k = none ∨ ∃ j : Nat, j < 9 ∧ σ.2.1 0 k = some j) : (df_X12_isUsedProgram n T L i σ = some (1, σ) ∧ ∃ s : Nat, s < 8 ∧ slP σ s = some i) ∨ (df_X12_isUsedProgram n T L i σ = some (0, σ) ∧ ∀ k : Nat, k < 4 → ¬ σ.2.1 1 k = some i ∧ ¬ σ.2.1 0 k = some i) := by
  have st : ∀ k m : Nat, k < 4 → ((σ.2.1 1 k = some i ∨ σ.2.1 0 k = some i) → df_X12_isUsedProgram_2 n T L (m + 1) i (nI k) σ = some (1, σ)) ∧ (¬ (σ.2.1 1 k = some i ∨ σ.2.1 0 k = some i) → df_X12_isUsedProgram_2 n T L (m + 1) i (nI k) σ = df_X12_isUsedProgram_2 n T L m i (nI (k + 1)) σ) := fun k m hk => by
    have w : nI k + Int32.ofInt 1 = nI (k + 1) := nI_add k 1
    have ck : ∀ x : Option (Int32 × S12), nd_ck (nI k) 4 x = x := fun x => nm_ck (by omega) (by omega)
    have lt9 : ∀ x : Option (Int32 × S12), nd_lt i 9 x = x := fun x => nb_lt hi
    have e0 : df_X12_isUsedProgram_2 n T L (m + 1) i (nI k) σ = nd_m (σ.2.1 1 k) (nd_m (σ.2.1 0 k) (df_X12_isUsedProgram_2 n T L m i (nI (k + 1)) σ) (fun j5 => nd_lt j5 9 (if j5 = i then some (1, σ) else df_X12_isUsedProgram_2 n T L m i (nI (k + 1)) σ))) (fun j3 => nd_lt j3 9 (if j3 = i then some (1, σ) else nd_m (σ.2.1 0 k) (df_X12_isUsedProgram_2 n T L m i (nI (k + 1)) σ) (fun j5 => nd_lt j5 9 (if j5 = i then some (1, σ) else df_X12_isUsedProgram_2 n T L m i (nI (k + 1)) σ)))) := by
      show dF_X12_isUsedProgram_2 n T L (df_X12_isUsedProgram_2 n T L m) i (nI k) σ = _
      unfold dF_X12_isUsedProgram_2 df_X12_isUsedProgram_30
      rw [if_neg (show ¬ (4 : Int32) ≤ nI k from znle (a := 4) hk (by omega))]
      simp only [ck, lt9, w, nb_let, nI_clamp (show k < 2 ^ 31 by omega)]
    have zz : ∀ x : Option (Int32 × S12), (σ.2.1 0 k = some i → nd_m (σ.2.1 0 k) x (fun j5 => nd_lt j5 9 (if j5 = i then some (1, σ) else x)) = some (1, σ)) ∧ (¬ σ.2.1 0 k = some i → nd_m (σ.2.1 0 k) x (fun j5 => nd_lt j5 9 (if j5 = i then some (1, σ) else x)) = x) := fun x => by
      refine ⟨fun e => ?_, fun e => ?_⟩
      · rw [e, nb_mS, nb_lt hi, if_pos rfl]
      · rcases h0 k hk with y | ⟨j, y1, y2⟩
        · rw [y, nb_mN]
        · rw [y2, nb_mS, nb_lt y1, if_neg (fun z => e (by rw [y2, z]))]
    rw [e0]
    refine ⟨fun e => ?_, fun e => ?_⟩
    · rcases h1 k hk with y | ⟨j, y1, y2⟩
      · rw [y, nb_mN]
        exact (zz _).1 (e.resolve_left (by rw [y]; exact fun z => by cases z))
      · rw [y2, nb_mS, nb_lt y1]
        by_cases z : j = i
        · rw [if_pos z]
        · rw [if_neg z]
          exact (zz _).1 (e.resolve_left (by rw [y2]; exact fun q => z (Option.some.inj q)))
    · rcases h1 k hk with y | ⟨j, y1, y2⟩
      · rw [y, nb_mN]
        exact (zz _).2 (fun z => e (Or.inr z))
      · rw [y2, nb_mS, nb_lt y1, if_neg (fun z => e (Or.inl (by rw [y2, z])))]
        exact (zz _).2 (fun z => e (Or.inr z))
  obtain ⟨m, e⟩ := nm_ls (fun m k => df_X12_isUsedProgram_2 n T L m i (nI k) σ) (fun k => decide (σ.2.1 1 k = some i ∨ σ.2.1 0 k = some i)) 0 4 n (by omega) (fun k m _ hk hP => (st k m (by omega)).2 (of_decide_eq_false hP))
  have e : df_X12_isUsedProgram n T L i σ = df_X12_isUsedProgram_2 n T L (m + 1) i (nI (fN (fun k => decide (σ.2.1 1 k = some i ∨ σ.2.1 0 k = some i)) 0 4)) σ := e
  obtain ⟨_, x2, x3, x4⟩ := fN_le (fun k => decide (σ.2.1 1 k = some i ∨ σ.2.1 0 k = some i)) 4 0
  generalize fN (fun k => decide (σ.2.1 1 k = some i ∨ σ.2.1 0 k = some i)) 0 4 = E at e x2 x3 x4
  by_cases c : E < 4
  · have x3 := of_decide_eq_true (x3 (by omega))
    refine Or.inl ⟨e.trans ((st E m c).1 x3), ?_⟩
    rcases x3 with y | y
    · exact ⟨E, by omega, by unfold slP; rw [if_pos c]; exact y⟩
    · exact ⟨E + 4, by omega, by unfold slP; rw [if_neg (by omega), show E + 4 - 4 = E by omega]; exact y⟩
  · refine Or.inr ⟨e.trans ?_, fun k hk => ?_⟩
    · rw [show E = 4 by omega]
      show dF_X12_isUsedProgram_2 n T L (df_X12_isUsedProgram_2 n T L m) i (nI 4) σ = _
      unfold dF_X12_isUsedProgram_2
      exact if_pos (show (4 : Int32) ≤ nI 4 by decide)
    · have := of_decide_eq_false (x4 k (by omega) (by omega))
      exact ⟨fun z => this (Or.inl z), fun z => this (Or.inr z)⟩
theorem unP (n T L : Nat) (hn : 20 < n) {σ : S12} (h1 : ∀ k : Nat, k < 4 → σ.2.1 1 k = none ∨ ∃ j : Nat, j < 9 ∧ σ.2.1 1 k = some j) (h0 : ∀ k : Nat, k < 4 → σ.2.1 0 k = none ∨ ∃ j : Nat, j < 9 ∧ σ.2.1 0 k = some j) (hp : ∀ i : Nat, i < 9 → σ.2.1 4 i = some i) : ∃ j : Nat, j < 9 ∧ df_X12_unusedProgram n T L σ = some (some j, σ) ∧ ∀ k : Nat, k < 4 → ¬ σ.2.1 1 k = some j ∧ ¬ σ.2.1 0 k = some j := by
  have e32 : ∀ i : Nat, i < 9 → df_X12_unusedProgram_32 n T L (nI i) σ = some (some i, σ) := fun i hi => by
    unfold df_X12_unusedProgram_32
    rw [nm_ck (by omega) (by omega), nI_clamp (by omega), hp i hi, nb_mS]
  have g : ∀ d i m : Nat, i + d = 8 → d < m → (∀ i' : Nat, i' < i → ∃ s : Nat, s < 8 ∧ slP σ s = some i') → ∃ j : Nat, j < 9 ∧ df_X12_unusedProgram_2 n T L m (nI i) σ = some (some j, σ) ∧ ∀ k : Nat, k < 4 → ¬ σ.2.1 1 k = some j ∧ ¬ σ.2.1 0 k = some j := fun d => by
    induction d with
    | zero =>
      intro i m hi hm hu
      obtain ⟨m, rfl⟩ : ∃ j : Nat, m = j + 1 := ⟨m - 1, by omega⟩
      rw [show i = 8 by omega] at hu ⊢
      have no : ∀ s : Nat, s < 8 → ¬ slP σ s = some 8 := fun s hs e => by
        have hq : ∀ i' : Nat, ∃ k : Nat, i' < 9 → k < 8 ∧ slP σ k = some i' := fun i' => by
          by_cases c : i' < 8
          · obtain ⟨k, a, b⟩ := hu i' c
            exact ⟨k, fun _ => ⟨a, b⟩⟩
          · exact ⟨s, fun y => ⟨hs, by rw [e, show i' = 8 by omega]⟩⟩
        obtain ⟨a, b, h1, h2, h3⟩ := pgn 8 (fun i' => Classical.choose (hq i')) (fun i' hi' => (Classical.choose_spec (hq i') hi').1)
        have s1 := (Classical.choose_spec (hq a) (by omega)).2
        have s2 := (Classical.choose_spec (hq b) h2).2
        have h3 : Classical.choose (hq a) = Classical.choose (hq b) := h3
        rw [h3, s2] at s1
        have := Option.some.inj s1
        omega
      refine ⟨8, by omega, ?_, fun k hk => ⟨fun e => no k (by omega) (by unfold slP; rw [if_pos hk]; exact e), fun e => no (k + 4) (by omega) (by unfold slP; rw [if_neg (by omega), show k + 4 - 4 = k by omega]; exact e)⟩⟩
      show dF_X12_unusedProgram_2 n T L (df_X12_unusedProgram_2 n T L m) (nI 8) σ = _
      unfold dF_X12_unusedProgram_2
      rw [if_pos (show (8 : Int32) ≤ nI 8 by decide)]
      exact e32 8 (by omega)
    | succ d ih =>
      intro i m hi hm hu
      obtain ⟨m, rfl⟩ : ∃ j : Nat, m = j + 1 := ⟨m - 1, by omega⟩
      have e0 : df_X12_unusedProgram_2 n T L (m + 1) (nI i) σ = nd_b2 (df_X12_isUsedProgram n T L i σ) (fun q7 s8 => if q7 = 0 then df_X12_unusedProgram_32 n T L (nI i) s8 else df_X12_unusedProgram_2 n T L m (nI (i + 1)) s8) := by
        show dF_X12_unusedProgram_2 n T L (df_X12_unusedProgram_2 n T L m) (nI i) σ = _
        unfold dF_X12_unusedProgram_2
        rw [if_neg (show ¬ (8 : Int32) ≤ nI i from znle (a := 8) (by omega) (by omega)), nm_ck (by omega) (by omega), nI_clamp (by omega), hp i (by omega), nb_mS, show nI i + Int32.ofInt 1 = nI (i + 1) from nI_add i 1]
        rfl
      rw [e0]
      rcases isU n T L i hn (by omega) h1 h0 with ⟨a, b⟩ | ⟨a, b⟩
      · rw [a, nb_b2, if_neg (by decide)]
        exact ih (i + 1) m (by omega) (by omega) (fun i' hi' => by
          by_cases c : i' = i
          · rw [c]; exact b
          · exact hu i' (by omega))
      · rw [a, nb_b2, if_pos rfl]
        exact ⟨i, by omega, e32 i (by omega), b⟩
  exact g 8 0 n (by omega) (by omega) (fun i' hi' => by omega)
