/-- pages and frames of the two machines -/
def mU (M : St × St) (w u g : Nat → Int32) (fu : Int32) : St × St := (pI (pR (pR (pR M.1 0 w) 1 u) 2 g) 0 fu, M.2)
def xU (X : St × St) (b fr ri ho : Nat → Int32) (us : Int32) : St × St := (pI (pR (pR (pR (pR X.1 15 b) 16 fr) 17 ri) 18 ho) 6 us, X.2)
/-- how many pages are on a frame; how many frames have a page -/
def cF (fr : Nat → Int32) (f : Nat) : Nat := cN (fun i => decide (fr i = nI f)) 1024
def cU (fr : Nat → Int32) : Nat := cN (fun f => decide (0 < cF fr f)) 256
def rQ (w u g b fr ri ho : Nat → Int32) (fu us : Int32) : Prop := (∀ i : Nat, i < 1024 → (fr i = -nI 1 ∧ g i = nI 0) ∨ ∃ f r : Nat, f < 256 ∧ 1 ≤ r ∧ r < 8 ∧ fr i = nI f ∧ ri i = nI r ∧ g i = nI (f * 8 + r) ∧ ∀ j : Nat, j < 256 → w (f * 256 + j) = b (i * 256 + j)) ∧ (∀ f : Nat, f < 256 → u f = nI (cF fr f) ∧ ho f = nI (cF fr f)) ∧ (∀ f : Nat, 256 ≤ f → f < 1024 → ho f = nI 0) ∧ fu = nI (cU fr) ∧ us = nI (cU fr)
def rK (M X : St × St) : Prop := rQ (sR M.1 0) (sR M.1 1) (sR M.1 2) (sR X.1 15) (sR X.1 16) (sR X.1 17) (sR X.1 18) (sI M.1 0) (sI X.1 6)
theorem nk_ne {f : Nat} (h : f < 2 ^ 31) : ¬ nI f = -nI 1 := fun z => (nm_eqm h).mp z
theorem cF_le (fr : Nat → Int32) (f : Nat) : cF fr f ≤ 1024 := cN_le _ _
theorem cU_le (fr : Nat → Int32) : cU fr ≤ 256 := cN_le _ _
/-- one page's frame changed -/
theorem cF_ch (fr : Nat → Int32) {i : Nat} (v : Int32) (hi : i < 1024) (a : Nat) : cF (upd fr i v) a + (decide (fr i = nI a)).toNat = cF fr a + (decide (v = nI a)).toNat := by
  have := cN_u (P := fun i => decide (fr i = nI a)) (Q := fun j => decide (upd fr i v j = nI a)) (j := i) (fun k hk => by rw [nm_un hk]) hi
  rw [nm_us] at this
  exact this
/-- a page leaves its frame -/
theorem cF_leave {fr : Nat → Int32} {i f : Nat} (hi : i < 1024) (hf : f < 256) (h : fr i = nI f) : (∀ a : Nat, a < 256 → a ≠ f → cF (upd fr i (-nI 1)) a = cF fr a) ∧ cF (upd fr i (-nI 1)) f + 1 = cF fr f := by
  refine ⟨fun a ha hne => ?_, ?_⟩
  · have := cF_ch fr (-nI 1) hi a
    rw [nm_df (p := -nI 1 = nI a) (fun q => nk_ne (f := a) (by omega) q.symm), nm_df (fun q => hne ((nI_eq (by omega) (by omega)).mp (h.symm.trans q)).symm)] at this
    omega
  · have := cF_ch fr (-nI 1) hi f
    rw [nm_df (p := -nI 1 = nI f) (fun q => nk_ne (f := f) (by omega) q.symm), nm_dt h] at this
    omega
/-- a page comes to a frame -/
theorem cF_stand {fr : Nat → Int32} {i f : Nat} (hi : i < 1024) (hf : f < 256) (h : fr i = -nI 1) : (∀ a : Nat, a < 256 → a ≠ f → cF (upd fr i (nI f)) a = cF fr a) ∧ cF (upd fr i (nI f)) f = cF fr f + 1 := by
  refine ⟨fun a ha hne => ?_, ?_⟩
  · have := cF_ch fr (nI f) hi a
    rw [nm_df (fun q => nk_ne (by omega) (q.symm.trans h)), nm_df (fun q => hne ((nI_eq (by omega) (by omega)).mp q).symm)] at this
    omega
  · have := cF_ch fr (nI f) hi f
    rw [nm_df (fun q => nk_ne (by omega) (q.symm.trans h)), nm_dt rfl] at this
    omega
theorem cU_ch {fr fs : Nat → Int32} {f : Nat} (hf : f < 256) (h : ∀ a : Nat, a < 256 → a ≠ f → cF fs a = cF fr a) : cU fs + (decide (0 < cF fr f)).toNat = cU fr + (decide (0 < cF fs f)).toNat := by
  have : ∀ N : Nat, N ≤ 256 → (f < N → cN (fun f => decide (0 < cF fs f)) N + (decide (0 < cF fr f)).toNat = cN (fun f => decide (0 < cF fr f)) N + (decide (0 < cF fs f)).toNat) ∧ (¬ f < N → cN (fun f => decide (0 < cF fs f)) N = cN (fun f => decide (0 < cF fr f)) N) := by
    intro N
    induction N with
    | zero => intro _; exact ⟨fun h => absurd h (by omega), fun _ => by unfold cN; rfl⟩
    | succ N ih =>
      intro hN
      obtain ⟨i1, i2⟩ := ih (by omega)
      rw [cN_s, cN_s]
      by_cases c : f = N
      · have := i2 (by omega)
        rw [this, ← c]
        exact ⟨fun _ => by omega, fun q => by omega⟩
      · rw [h N (by omega) (fun q => c q.symm)]
        exact ⟨fun q => by have := i1 (by omega); omega, fun q => by have := i2 (by omega); omega⟩
  exact (this 256 (by omega)).1 hf
