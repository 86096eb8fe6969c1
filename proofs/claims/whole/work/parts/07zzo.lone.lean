theorem cN_or (P Q : Nat → Bool) : ∀ N : Nat, cN (fun k => P k || Q k) N ≤ cN P N + cN Q N
  | 0 => Nat.le_refl 0
  | N + 1 => by
    have ih := cN_or P Q N
    rw [cN_s, cN_s, cN_s]
    cases P N <;> cases Q N <;> simp only [Bool.or_true, Bool.or_false, Bool.toNat_true, Bool.toNat_false] <;> omega
theorem cN_lt (a : Nat) : ∀ N : Nat, cN (fun k => decide (k < a)) N ≤ a ∧ cN (fun k => decide (k < a)) N ≤ N
  | 0 => ⟨Nat.zero_le a, Nat.le_refl 0⟩
  | N + 1 => by
    have ih := cN_lt a N
    rw [cN_s]
    by_cases c : N < a
    · rw [decide_eq_true c]
      show cN (fun k => decide (k < a)) N + 1 ≤ a ∧ cN (fun k => decide (k < a)) N + 1 ≤ N + 1
      omega
    · rw [decide_eq_false c]
      show cN (fun k => decide (k < a)) N + 0 ≤ a ∧ cN (fun k => decide (k < a)) N + 0 ≤ N + 1
      omega
/-- one page less -/
theorem cU_rm {fr : Nat → Int32} {i f : Nat} (hi : i < 1024) (hf : f < 256) (e : fr i = nI f) : cU fr ≤ cU (upd fr i (-nI 1)) + 1 ∧ (1 < cF fr f → cU fr ≤ cU (upd fr i (-nI 1))) := by
  obtain ⟨c1, c2⟩ := cF_leave hi hf e
  have u := cU_ch (fr := fr) (fs := upd fr i (-nI 1)) hf c1
  have l : ∀ b : Bool, b.toNat ≤ 1 := fun b => by cases b <;> decide
  have l1 := l (decide (0 < cF fr f))
  have l2 := l (decide (0 < cF (upd fr i (-nI 1)) f))
  rw [decide_eq_true (show 0 < cF fr f by omega)] at u
  have u : cU (upd fr i (-nI 1)) + 1 = cU fr + (decide (0 < cF (upd fr i (-nI 1)) f)).toNat := u
  refine ⟨by omega, fun z => ?_⟩
  rw [decide_eq_true (show 0 < cF (upd fr i (-nI 1)) f by omega)] at u
  have u : cU (upd fr i (-nI 1)) + 1 = cU fr + 1 := u
  omega
/-- pages that were not there want a frame each, at the most -/
theorem cU_more {fr0 : Nat → Int32} {s : Nat} : ∀ (m : Nat) (fr : Nat → Int32), s + m ≤ 1024 → (∀ i : Nat, ¬ (s ≤ i ∧ i < s + m) → fr i = fr0 i) → (∀ k : Nat, k < m → fr0 (s + k) = -nI 1) → (∀ k : Nat, k < m → fr (s + k) = -nI 1 ∨ ∃ f : Nat, f < 256 ∧ fr (s + k) = nI f) → cU fr ≤ cU fr0 + cN (fun k => decide (¬ fr (s + k) = -nI 1)) m
  | 0, fr, _, h1, _, _ => by
    have : fr = fr0 := funext (fun i => h1 i (by omega))
    rw [this]
    exact Nat.le_add_right _ _
  | m + 1, fr, hs, h1, h2, h3 => by
    have ih := cU_more (fr0 := fr0) (s := s) m (upd fr (s + m) (-nI 1)) (by omega) (fun i hi => by
      by_cases c : i = s + m
      · rw [c, nm_us]; exact (h2 m (by omega)).symm
      · rw [nm_un c]; exact h1 i (by omega)) (fun k hk => h2 k (by omega)) (fun k hk => by rw [nm_un (by omega)]; exact h3 k (by omega))
    have ec : cN (fun k => decide (¬ upd fr (s + m) (-nI 1) (s + k) = -nI 1)) m = cN (fun k => decide (¬ fr (s + k) = -nI 1)) m := cN_c (fun k hk => by rw [nm_un (by omega)])
    rw [ec] at ih
    rw [cN_s]
    rcases h3 m (by omega) with z | ⟨f, hf, z⟩
    · have e : upd fr (s + m) (-nI 1) = fr := by
        funext i
        by_cases c : i = s + m
        · rw [c, nm_us, z]
        · rw [nm_un c]
      rw [e] at ih
      exact Nat.le_trans ih (Nat.add_le_add_left (Nat.le_add_right _ _) _)
    · have r := (cU_rm (fr := fr) (i := s + m) (by omega) hf z).1
      rw [decide_eq_true (show ¬ fr (s + m) = -nI 1 by rw [z]; exact nk_ne (by omega))]
      show _ ≤ cU fr0 + (cN (fun k => decide (¬ fr (s + k) = -nI 1)) m + 1)
      omega
/-- and where they took as many as they are, no two share one -/
theorem cF_lone {fr0 fr : Nat → Int32} {s m c : Nat} (hs : s + m ≤ 1024) (h1 : ∀ i : Nat, ¬ (s ≤ i ∧ i < s + m) → fr i = fr0 i) (h2 : ∀ k : Nat, k < m → fr0 (s + k) = -nI 1) (h3 : ∀ k : Nat, k < m → fr (s + k) = -nI 1 ∨ ∃ f : Nat, f < 256 ∧ fr (s + k) = nI f) (hc : cN (fun k => decide (¬ fr (s + k) = -nI 1)) m ≤ c) (hu : cU fr = cU fr0 + c) {k f : Nat} (hk : k < m) (hf : f < 256) (e : fr (s + k) = nI f) : cF fr f = 1 := by
  have p0 := cF_pos (fr := fr) (i := s + k) (by omega) e
  by_cases z : 1 < cF fr f
  · exfalso
    have r := (cU_rm (fr := fr) (i := s + k) (by omega) hf e).2 z
    have mo := cU_more (fr0 := fr0) (s := s) m (upd fr (s + k) (-nI 1)) hs (fun i hi => by rw [nm_un (by omega)]; exact h1 i hi) h2 (fun j hj => by
      by_cases c : j = k
      · rw [c, nm_us]; exact Or.inl rfl
      · rw [nm_un (by omega)]; exact h3 j hj)
    have u := cN_u (P := fun j => decide (¬ fr (s + j) = -nI 1)) (Q := fun j => decide (¬ upd fr (s + k) (-nI 1) (s + j) = -nI 1)) (j := k) (fun i hi => by rw [nm_un (by omega)]) (N := m) hk
    rw [nm_us, decide_eq_true (show ¬ fr (s + k) = -nI 1 by rw [e]; exact nk_ne (by omega)), decide_eq_false (show ¬ ¬ (-nI 1 : Int32) = -nI 1 from fun y => y rfl)] at u
    have u : cN (fun j => decide (¬ upd fr (s + k) (-nI 1) (s + j) = -nI 1)) m + 1 = cN (fun j => decide (¬ fr (s + j) = -nI 1)) m + 0 := u
    omega
  · omega
/-- pages that go leave no more frames in use -/
theorem cU_drop {fr fr' : Nat → Int32} (h : ∀ i : Nat, fr' i = -nI 1 ∨ fr' i = fr i) : cU fr' ≤ cU fr := cN_mono (fun f hf z => by
  have z := of_decide_eq_true z
  obtain ⟨i, hi, e⟩ := cN_ex (P := fun i => decide (fr' i = nI f)) z
  have e := of_decide_eq_true e
  rcases h i with y | y
  · exact absurd (e.symm.trans y) (nk_ne (by omega))
  · exact decide_eq_true (cF_pos (i := i) hi (y.symm.trans e)))
/-- bytes of a word that are put one after the other: in which order doesn't matter -/
theorem pw_ne (x v : Int32) {a b : Nat} (ha : a < 4) (hb : b < 4) (h : a ≠ b) : pw (pw x (8 * a) (nI 255) v) (8 * b) (nI 255) (nI 0) = pw (pw x (8 * b) (nI 255) (nI 0)) (8 * a) (nI 255) v := by
  have ha : a = 0 ∨ a = 1 ∨ a = 2 ∨ a = 3 := by omega
  have hb : b = 0 ∨ b = 1 ∨ b = 2 ∨ b = 3 := by omega
  unfold pw
  rcases ha with e | e | e | e <;> rcases hb with d | d | d | d <;> first | (exfalso; omega) | (rw [e, d]; simp only [Nat.mul_zero, Nat.reduceMul]; (apply gb_ext; apply all32; simp (disch := decide) only [gb_or, gb_and, gb_xor, gb_shl, gb_shr, gb_ush, gb_n, gb_m, gb_hi, Nat.reduceAdd, Nat.reduceSub, Nat.reduceLT, Nat.reduceLeDiff, Nat.testBit, Nat.reduceShiftRight, Nat.reduceBNe, Nat.reduceAnd, Nat.one_and_eq_mod_two, Nat.reduceMod, decide_true, decide_false, Bool.and_true, Bool.true_and, Bool.and_false, Bool.false_and, Bool.or_false, Bool.false_or, Bool.or_true, Bool.true_or, Bool.not_true, Bool.not_false, Bool.xor_true, Bool.xor_false, Bool.true_xor, Bool.false_xor, if_true, if_false, ↓reduceIte, and_self, bne_self_eq_false, Bool.or_self, Bool.and_self, Bool.not_not]))
/-- a byte that is nothing -/
def zb (b : Nat → Int32) (A : Nat) : Prop := pw (b (A / 4)) (8 * (A % 4)) (nI 255) (nI 0) = b (A / 4)
theorem zb_0 {b : Nat → Int32} {A : Nat} (h : b (A / 4) = nI 0) : zb b A := by
  unfold zb
  rw [h]
  have : A % 4 = 0 ∨ A % 4 = 1 ∨ A % 4 = 2 ∨ A % 4 = 3 := by omega
  rcases this with e | e | e | e <;> (rw [e]; decide)
theorem zb_p {b : Nat → Int32} {A : Nat} (h : zb b A) : pb b A (nI 0) = b := by
  unfold zb at h
  unfold pb
  rw [h]
  funext j
  by_cases c : j = A / 4
  · rw [c, nm_us]
  · rw [nm_un c]
theorem zb_k {b : Nat → Int32} {A C : Nat} (h : zb b C) (hne : A ≠ C) (v : Int32) : zb (pb b A v) C := by
  unfold zb at h ⊢
  unfold pb
  by_cases c : C / 4 = A / 4
  · rw [c, nm_us]
    rw [c] at h
    rw [pw_ne _ _ (by omega) (by omega) (by omega), h]
  · rw [nm_un c]
    exact h
theorem b8_and : ∀ z : Fin 256, (vp_nar .byte ((nI z.1).toInt8.toInt32)) &&& nI 255 = nI z.1 &&& nI 255 := by decide +kernel
theorem b8_zz : ∀ z : Fin 256, (vp_nar .byte ((nI z.1).toInt8.toInt32)) = nI 0 ↔ nI z.1 = nI 0 := by decide +kernel
theorem pb_b8 {s u : Int32} (h : b8 s u) (b : Nat → Int32) (A : Nat) : pb b A s = pb b A u := by
  obtain ⟨z, hz, e1, e2⟩ := h
  unfold pb pw
  rw [e1, e2, b8_and ⟨z, hz⟩]
theorem b8_n0 {s u : Int32} (h : b8 s u) : s = nI 0 ↔ u = nI 0 := by
  obtain ⟨z, hz, e1, e2⟩ := h
  rw [e1, e2]
  exact b8_zz ⟨z, hz⟩
