/-- the entries of a description -/
theorem dsS_s {SW R2 R3 : Nat → Int32} {i : Nat} : ((dsS SW R2 R3 (i + 1)).1 = (dsS SW R2 R3 i).1 ∧ SW (8 * i + 3) ≤ 0) ∨ ((dsS SW R2 R3 (i + 1)).1 = (dsS SW R2 R3 i).1 + 1 ∧ ¬ SW (8 * i + 3) ≤ 0) := by
  by_cases y : SW (8 * i + 3) ≤ 0
  · have e : dsS SW R2 R3 (i + 1) = dsS SW R2 R3 i := if_pos y
    exact Or.inl ⟨by rw [e], y⟩
  · have e : dsS SW R2 R3 (i + 1) = ((dsS SW R2 R3 i).1 + 1, upd (dsS SW R2 R3 i).2.1 (dsS SW R2 R3 i).1 (SW (8 * i + 2)), upd (dsS SW R2 R3 i).2.2 (dsS SW R2 R3 i).1 (SW (8 * i))) := if_neg y
    exact Or.inr ⟨by rw [e], y⟩
theorem ds_e {SW R2 R3 : Nat → Int32} : ∀ (m i : Nat), i < m → ¬ SW (8 * i + 3) ≤ 0 → (dsS SW R2 R3 i).1 < (dsS SW R2 R3 m).1 ∧ (dsS SW R2 R3 m).2.1 (dsS SW R2 R3 i).1 = SW (8 * i + 2) ∧ (dsS SW R2 R3 m).2.2 (dsS SW R2 R3 i).1 = SW (8 * i) := fun m => by
  induction m with
  | zero => intro i h; exact absurd h (Nat.not_lt_zero _)
  | succ m ih =>
    intro i h hi
    by_cases y : SW (8 * m + 3) ≤ 0
    · have e : dsS SW R2 R3 (m + 1) = dsS SW R2 R3 m := if_pos y
      rw [e]
      have : ¬ i = m := fun w => by subst w; exact hi y
      exact ih i (by omega) hi
    · have e : dsS SW R2 R3 (m + 1) = ((dsS SW R2 R3 m).1 + 1, upd (dsS SW R2 R3 m).2.1 (dsS SW R2 R3 m).1 (SW (8 * m + 2)), upd (dsS SW R2 R3 m).2.2 (dsS SW R2 R3 m).1 (SW (8 * m))) := if_neg y
      rw [e]
      by_cases w : i = m
      · subst w
        exact ⟨Nat.lt_succ_self _, up_e, up_e⟩
      · obtain ⟨a1, a2, a3⟩ := ih i (by omega) hi
        refine ⟨Nat.lt_succ_of_lt a1, ?_, ?_⟩
        · exact (up_n (by omega)).trans a2
        · exact (up_n (by omega)).trans a3
/-- where statements lie -/
def inS (ad sz : Nat → Nat) (s i : Nat) : Prop := ad s ≤ i ∧ i < ad s + sz s
theorem cov_1 {Ds : Nat → Dt} {Zs : Nat → Nat} {BY : Nat → Int32} {lv : Nat → Nat} {i : Nat} : ∀ m : Nat, i < (lay Ds Zs BY lv m).1 → ∃ s : Nat, s < m ∧ ¬ Zs s = 1 ∧ (lay Ds Zs BY lv s).1 ≤ i ∧ i < (lay Ds Zs BY lv s).1 + szN (Ds s) (BY s) (lv s) (lay Ds Zs BY lv s).1 := fun m => by
  induction m with
  | zero => intro h; exact absurd h (Nat.not_lt_zero _)
  | succ m ih =>
    intro h
    by_cases y : Zs m = 1
    · have e : lay Ds Zs BY lv (m + 1) = ((lay Ds Zs BY lv m).1, (lay Ds Zs BY lv m).2 + szN (Ds m) (BY m) (lv m) (lay Ds Zs BY lv m).2) := if_pos y
      rw [e] at h
      obtain ⟨s, h1, h2⟩ := ih h
      exact ⟨s, by omega, h2⟩
    · have e : lay Ds Zs BY lv (m + 1) = ((lay Ds Zs BY lv m).1 + szN (Ds m) (BY m) (lv m) (lay Ds Zs BY lv m).1, (lay Ds Zs BY lv m).2) := if_neg y
      rw [e] at h
      have h : i < (lay Ds Zs BY lv m).1 + szN (Ds m) (BY m) (lv m) (lay Ds Zs BY lv m).1 := h
      by_cases w : i < (lay Ds Zs BY lv m).1
      · obtain ⟨s, h1, h2⟩ := ih w
        exact ⟨s, by omega, h2⟩
      · exact ⟨m, by omega, y, by omega, h⟩
theorem cov_2 {Ds : Nat → Dt} {Zs : Nat → Nat} {BY : Nat → Int32} {lv : Nat → Nat} {i : Nat} : ∀ m : Nat, i < (lay Ds Zs BY lv m).2 → ∃ s : Nat, s < m ∧ Zs s = 1 ∧ (lay Ds Zs BY lv s).2 ≤ i ∧ i < (lay Ds Zs BY lv s).2 + szN (Ds s) (BY s) (lv s) (lay Ds Zs BY lv s).2 := fun m => by
  induction m with
  | zero => intro h; exact absurd h (Nat.not_lt_zero _)
  | succ m ih =>
    intro h
    by_cases y : Zs m = 1
    · have e : lay Ds Zs BY lv (m + 1) = ((lay Ds Zs BY lv m).1, (lay Ds Zs BY lv m).2 + szN (Ds m) (BY m) (lv m) (lay Ds Zs BY lv m).2) := if_pos y
      rw [e] at h
      have h : i < (lay Ds Zs BY lv m).2 + szN (Ds m) (BY m) (lv m) (lay Ds Zs BY lv m).2 := h
      by_cases w : i < (lay Ds Zs BY lv m).2
      · obtain ⟨s, h1, h2⟩ := ih w
        exact ⟨s, by omega, h2⟩
      · exact ⟨m, by omega, y, by omega, h⟩
    · have e : lay Ds Zs BY lv (m + 1) = ((lay Ds Zs BY lv m).1 + szN (Ds m) (BY m) (lv m) (lay Ds Zs BY lv m).1, (lay Ds Zs BY lv m).2) := if_neg y
      rw [e] at h
      obtain ⟨s, h1, h2⟩ := ih h
      exact ⟨s, by omega, h2⟩
theorem bsN_l (t : Nat) : t ≤ bsN t := by unfold bsN; omega
/-- all that is to be known of where statements lie -/
theorem lie {Ds : Nat → Dt} {Zs : Nat → Nat} {BY : Nat → Int32} {lv : Nat → Nat} {nS : Nat} {ad sz : Nat → Nat} (had : ∀ s : Nat, s < nS → ad s = adN Zs (ofs Ds Zs BY lv) (lay Ds Zs BY lv nS).1 s ∧ sz s = szN (Ds s) (BY s) (lv s) (ofs Ds Zs BY lv s)) : (∀ s i : Nat, s < nS → inS ad sz s i → (i < (lay Ds Zs BY lv nS).1 ∨ bsN (lay Ds Zs BY lv nS).1 ≤ i)) ∧ (∀ s t i : Nat, s < nS → t < nS → inS ad sz s i → inS ad sz t i → s = t) ∧ (∀ i : Nat, i < szA (lay Ds Zs BY lv nS) → (i < (lay Ds Zs BY lv nS).1 ∨ bsN (lay Ds Zs BY lv nS).1 ≤ i) → ∃ s : Nat, s < nS ∧ inS ad sz s i) := by
  have hb := bsN_l (lay Ds Zs BY lv nS).1
  have tx : ∀ s t : Nat, s < t → t ≤ nS → ¬ Zs s = 1 → ad s = (lay Ds Zs BY lv s).1 ∧ sz s = szN (Ds s) (BY s) (lv s) (lay Ds Zs BY lv s).1 ∧ ad s + sz s ≤ (lay Ds Zs BY lv t).1 := fun s t h1 h2 h3 => by
    obtain ⟨e1, e2⟩ := had s (by omega)
    have e : lay Ds Zs BY lv (s + 1) = ((lay Ds Zs BY lv s).1 + szN (Ds s) (BY s) (lv s) (lay Ds Zs BY lv s).1, (lay Ds Zs BY lv s).2) := if_neg h3
    have h4 := (lay_m (Ds := Ds) (Zs := Zs) (BY := BY) (lv := lv) (t - (s + 1)) (s + 1)).1
    rw [show s + 1 + (t - (s + 1)) = t by omega, e] at h4
    have h4 : (lay Ds Zs BY lv s).1 + szN (Ds s) (BY s) (lv s) (lay Ds Zs BY lv s).1 ≤ (lay Ds Zs BY lv t).1 := h4
    unfold adN ofs at e1
    unfold ofs at e2
    rw [if_neg h3, if_neg h3] at e1
    rw [if_neg h3] at e2
    exact ⟨by omega, e2, by omega⟩
  have dx : ∀ s t : Nat, s < t → t ≤ nS → Zs s = 1 → ad s = bsN (lay Ds Zs BY lv nS).1 + (lay Ds Zs BY lv s).2 ∧ sz s = szN (Ds s) (BY s) (lv s) (lay Ds Zs BY lv s).2 ∧ ad s + sz s ≤ bsN (lay Ds Zs BY lv nS).1 + (lay Ds Zs BY lv t).2 := fun s t h1 h2 h3 => by
    obtain ⟨e1, e2⟩ := had s (by omega)
    have e : lay Ds Zs BY lv (s + 1) = ((lay Ds Zs BY lv s).1, (lay Ds Zs BY lv s).2 + szN (Ds s) (BY s) (lv s) (lay Ds Zs BY lv s).2) := if_pos h3
    have h4 := (lay_m (Ds := Ds) (Zs := Zs) (BY := BY) (lv := lv) (t - (s + 1)) (s + 1)).2
    rw [show s + 1 + (t - (s + 1)) = t by omega, e] at h4
    have h4 : (lay Ds Zs BY lv s).2 + szN (Ds s) (BY s) (lv s) (lay Ds Zs BY lv s).2 ≤ (lay Ds Zs BY lv t).2 := h4
    unfold adN ofs at e1
    unfold ofs at e2
    rw [if_pos h3, if_pos h3] at e1
    rw [if_pos h3] at e2
    exact ⟨by omega, e2, by omega⟩
  have two : ∀ s t i : Nat, s < t → t < nS → inS ad sz s i → inS ad sz t i → False := fun s t i h1 h2 h3 h4 => by
    unfold inS at h3 h4
    by_cases y : Zs s = 1
    · obtain ⟨a1, a2, a3⟩ := dx s t h1 (by omega) y
      by_cases z : Zs t = 1
      · obtain ⟨b1, b2, b3⟩ := dx t nS h2 (by omega) z
        omega
      · obtain ⟨b1, b2, b3⟩ := tx t nS h2 (by omega) z
        omega
    · obtain ⟨a1, a2, a3⟩ := tx s t h1 (by omega) y
      by_cases z : Zs t = 1
      · obtain ⟨b1, b2, b3⟩ := dx t nS h2 (by omega) z
        obtain ⟨c1, c2, c3⟩ := tx s nS (by omega) (by omega) y
        omega
      · obtain ⟨b1, b2, b3⟩ := tx t nS h2 (by omega) z
        omega
  refine ⟨fun s i hs h => ?_, fun s t i hs ht h1 h2 => ?_, fun i hi hr => ?_⟩
  · unfold inS at h
    by_cases y : Zs s = 1
    · obtain ⟨a1, a2, a3⟩ := dx s nS hs (Nat.le_refl _) y
      right; omega
    · obtain ⟨a1, a2, a3⟩ := tx s nS hs (Nat.le_refl _) y
      left; omega
  · rcases Nat.lt_trichotomy s t with w | w | w
    · exact absurd (two s t i w ht h1 h2) id
    · exact w
    · exact absurd (two t s i w hs h2 h1) id
  · rcases hr with hr | hr
    · obtain ⟨s, s1, s2, s3, s4⟩ := cov_1 nS hr
      obtain ⟨a1, a2, a3⟩ := tx s nS s1 (Nat.le_refl _) s2
      exact ⟨s, s1, by omega, by omega⟩
    · have hd : i - bsN (lay Ds Zs BY lv nS).1 < (lay Ds Zs BY lv nS).2 := by
        unfold szA at hi
        by_cases w : (lay Ds Zs BY lv nS).2 = 0
        · rw [if_pos w] at hi
          omega
        · rw [if_neg w] at hi
          omega
      obtain ⟨s, s1, s2, s3, s4⟩ := cov_2 nS hd
      obtain ⟨a1, a2, a3⟩ := dx s nS s1 (Nat.le_refl _) s2
      exact ⟨s, s1, by omega, by omega⟩
