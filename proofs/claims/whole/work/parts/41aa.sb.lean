def uM (u : Nat) (o : Option Sb) : Prop := ∀ r, o = some r → ∃ d : Nat, r.2.1 = u + d ∧ (u ≤ 1 → r.2.1 ≤ 1)
theorem uM_none {u : Nat} : uM u none := fun r h => nomatch h
theorem uM_some {u : Nat} {s : Sb} (e : s.2.1 = u) : uM u (some s) := fun r h => by
  obtain rfl := Option.some.inj h
  exact ⟨0, e, fun h => by rw [e]; exact h⟩
theorem uM_let {u : Nat} {α : Type} {x : α} {k : α → Option Sb} (h : uM u (k x)) : uM u (nd_let x k) := h
theorem uM_lg {u : Nat} {α : Type} {x : α} {k : α → Option Sb} (h : ∀ y, uM u (k y)) : uM u (nd_let x k) := h x
theorem uM_b1 {u : Nat} {α : Type} {x : Option α} {k : α → Option Sb} (h : ∀ z, uM u (k z)) : uM u (nd_b1 x k) := fun r hr => by
  obtain ⟨z, -, h1⟩ := nd_b1_e hr
  exact h z r h1
theorem uM_b2 {u : Nat} {α β : Type} {x : Option (α × β)} {k : α → β → Option Sb} (h : ∀ z w, uM u (k z w)) : uM u (nd_b2 x k) := fun r hr => by
  obtain ⟨z, w, -, h1⟩ := nd_b2_e hr
  exact h z w r h1
theorem uM_ite {u : Nat} {c : Prop} {i : Decidable c} {x y : Option Sb} (h1 : uM u x) (h2 : uM u y) : uM u (@ite _ c i x y) := by
  by_cases h : c
  · rw [if_pos h]; exact h1
  · rw [if_neg h]; exact h2
theorem uM_ck {u : Nat} {i : Int32} {n : Nat} {x : Option Sb} (h : uM u x) : uM u (nd_ck i n x) := fun r hr => h r (nd_ck_e hr).2
theorem uM_lt {u j n : Nat} {x : Option Sb} (h : uM u x) : uM u (nd_lt j n x) := fun r hr => h r (nd_lt_e hr).2
theorem uM_c {u : Nat} {x : Option Sb} {k : Sb → Option Sb} (h1 : uM u x) (h : ∀ z : Sb, uM z.2.1 (k z)) : uM u (nd_b1 x k) := fun r hr => by
  obtain ⟨z, h2, h3⟩ := nd_b1_e hr
  obtain ⟨d, e, l⟩ := h1 z h2
  obtain ⟨d2, e2, l2⟩ := h z r h3
  exact ⟨d + d2, by omega, fun q => l2 (l q)⟩
theorem uM_e {u : Nat} {s : Sb} {o : Option Sb} (h : uM s.2.1 o) (e : s.2.1 = u) : uM u o := e ▸ h
theorem uM_le {u : Nat} {o : Option Sb} {r : Sb} (h : uM u o) (e : o = some r) : u ≤ r.2.1 := by
  obtain ⟨d, e2, -⟩ := h r e
  omega
theorem um_J5_ensureCapacityInternal_d00df {n : Nat} {v0 : Int32} {s0 r : Sb} (h : df_J5_ensureCapacityInternal_d00df n v0 s0 = some r) : ∃ d : Nat, r.2.1 = s0.2.1 + d ∧ (s0.2.1 ≤ 1 → r.2.1 ≤ 1) := by
  unfold df_J5_ensureCapacityInternal_d00df at h
  split at h
  · split at h
    · obtain rfl := Option.some.inj h
      exact ⟨0, rfl, id⟩
    · split at h
      · rename_i hc
        obtain ⟨-, h⟩ := nd_fa_e h
        obtain rfl := Option.some.inj h
        exact ⟨1, by show 1 = s0.2.1 + 1; omega, fun _ => Nat.le_refl 1⟩
      · exact nomatch h
  · exact nomatch h
theorem uc_J5_ensureCapacityInternal_d00df {n : Nat} {v0 : Int32} {s0 : Sb} : uM s0.2.1 (df_J5_ensureCapacityInternal_d00df n v0 s0) := fun _ h => um_J5_ensureCapacityInternal_d00df h
theorem um_df_J5_append_cf1ce_0 (n : Nat) (v0 : Nat) (s0 : Sb) : uM s0.2.1 (df_J5_append_cf1ce_0 n v0 s0) := by
  unfold df_J5_append_cf1ce_0
  repeat (with_reducible (first | refine uM_ite ?_ ?_ | refine uM_let (α := Sb) ?_ | refine uM_lg (fun _ => ?_) | exact uM_none | exact uM_some rfl | refine uM_c uc_J5_ensureCapacityInternal_d00df (fun _ => ?_) | refine uM_b1 (fun _ => ?_) | refine uM_b2 (fun _ _ => ?_) | refine uM_ck ?_ | refine uM_lt ?_))
theorem um_J5_append_cf1ce {n : Nat} {v0 : Nat} {s0 r : Sb} (h : df_J5_append_cf1ce n v0 s0 = some r) : ∃ d : Nat, r.2.1 = s0.2.1 + d ∧ (s0.2.1 ≤ 1 → r.2.1 ≤ 1) := um_df_J5_append_cf1ce_0 n v0 s0 r h
theorem uc_J5_append_cf1ce {n : Nat} {v0 : Nat} {s0 : Sb} : uM s0.2.1 (df_J5_append_cf1ce n v0 s0) := um_df_J5_append_cf1ce_0 n v0 s0
theorem um_df_J5_append_3fe6f_75 (n : Nat) (s0 : Sb) : uM s0.2.1 (df_J5_append_3fe6f_75 n s0) := by
  unfold df_J5_append_3fe6f_75
  repeat (with_reducible (first | refine uM_ite ?_ ?_ | refine uM_let (α := Sb) ?_ | refine uM_lg (fun _ => ?_) | exact uM_none | exact uM_some rfl | refine uM_c uc_J5_ensureCapacityInternal_d00df (fun _ => ?_) | refine uM_c uc_J5_append_cf1ce (fun _ => ?_) | refine uM_b1 (fun _ => ?_) | refine uM_b2 (fun _ _ => ?_) | refine uM_ck ?_ | refine uM_lt ?_))
theorem um_df_J5_append_3fe6f_0 (n : Nat) (v0 : Int32) (s0 : Sb) : uM s0.2.1 (df_J5_append_3fe6f_0 n v0 s0) := by
  unfold df_J5_append_3fe6f_0
  repeat (with_reducible (first | refine uM_ite ?_ ?_ | refine uM_let (α := Sb) ?_ | refine uM_lg (fun _ => ?_) | exact uM_none | exact uM_some rfl | exact uM_e (um_df_J5_append_3fe6f_75 n _) rfl | refine uM_c uc_J5_ensureCapacityInternal_d00df (fun _ => ?_) | refine uM_c uc_J5_append_cf1ce (fun _ => ?_) | refine uM_b1 (fun _ => ?_) | refine uM_b2 (fun _ _ => ?_) | refine uM_ck ?_ | refine uM_lt ?_))
theorem um_J5_append_3fe6f {n : Nat} {v0 : Int32} {s0 r : Sb} (h : df_J5_append_3fe6f n v0 s0 = some r) : ∃ d : Nat, r.2.1 = s0.2.1 + d ∧ (s0.2.1 ≤ 1 → r.2.1 ≤ 1) := um_df_J5_append_3fe6f_0 n v0 s0 r h
theorem uc_J5_append_3fe6f {n : Nat} {v0 : Int32} {s0 : Sb} : uM s0.2.1 (df_J5_append_3fe6f n v0 s0) := um_df_J5_append_3fe6f_0 n v0 s0
theorem um_df_J5_append_c97b9_48 (n : Nat) (x3 : Int32) (s0 : Sb) : uM s0.2.1 (df_J5_append_c97b9_48 n x3 s0) := by
  unfold df_J5_append_c97b9_48
  repeat (with_reducible (first | refine uM_ite ?_ ?_ | refine uM_let (α := Sb) ?_ | refine uM_lg (fun _ => ?_) | exact uM_none | exact uM_some rfl | refine uM_c uc_J5_ensureCapacityInternal_d00df (fun _ => ?_) | refine uM_c uc_J5_append_cf1ce (fun _ => ?_) | refine uM_c uc_J5_append_3fe6f (fun _ => ?_) | refine uM_b1 (fun _ => ?_) | refine uM_b2 (fun _ _ => ?_) | refine uM_ck ?_ | refine uM_lt ?_))
theorem um_df_J5_append_c97b9_0 (n : Nat) (v0 : Int32) (s0 : Sb) : uM s0.2.1 (df_J5_append_c97b9_0 n v0 s0) := by
  unfold df_J5_append_c97b9_0
  repeat (with_reducible (first | refine uM_ite ?_ ?_ | refine uM_let (α := Sb) ?_ | refine uM_lg (fun _ => ?_) | exact uM_none | exact uM_some rfl | exact uM_e (um_df_J5_append_c97b9_48 n _ _) rfl | refine uM_c uc_J5_ensureCapacityInternal_d00df (fun _ => ?_) | refine uM_c uc_J5_append_cf1ce (fun _ => ?_) | refine uM_c uc_J5_append_3fe6f (fun _ => ?_) | refine uM_b1 (fun _ => ?_) | refine uM_b2 (fun _ _ => ?_) | refine uM_ck ?_ | refine uM_lt ?_))
theorem um_J5_append_c97b9 {n : Nat} {v0 : Int32} {s0 r : Sb} (h : df_J5_append_c97b9 n v0 s0 = some r) : ∃ d : Nat, r.2.1 = s0.2.1 + d ∧ (s0.2.1 ≤ 1 → r.2.1 ≤ 1) := um_df_J5_append_c97b9_0 n v0 s0 r h
theorem uc_J5_append_c97b9 {n : Nat} {v0 : Int32} {s0 : Sb} : uM s0.2.1 (df_J5_append_c97b9 n v0 s0) := um_df_J5_append_c97b9_0 n v0 s0
theorem um_df_J4_append_15ec4_0 (n : Nat) (v0 : Nat) (s0 : Sb) : uM s0.2.1 (df_J4_append_15ec4_0 n v0 s0) := by
  unfold df_J4_append_15ec4_0
  repeat (with_reducible (first | refine uM_ite ?_ ?_ | refine uM_let (α := Sb) ?_ | refine uM_lg (fun _ => ?_) | exact uM_none | exact uM_some rfl | refine uM_c uc_J5_ensureCapacityInternal_d00df (fun _ => ?_) | refine uM_c uc_J5_append_cf1ce (fun _ => ?_) | refine uM_c uc_J5_append_3fe6f (fun _ => ?_) | refine uM_c uc_J5_append_c97b9 (fun _ => ?_) | refine uM_b1 (fun _ => ?_) | refine uM_b2 (fun _ _ => ?_) | refine uM_ck ?_ | refine uM_lt ?_))
theorem um_J4_append_15ec4 {n : Nat} {v0 : Nat} {s0 r : Sb} (h : df_J4_append_15ec4 n v0 s0 = some r) : ∃ d : Nat, r.2.1 = s0.2.1 + d ∧ (s0.2.1 ≤ 1 → r.2.1 ≤ 1) := um_df_J4_append_15ec4_0 n v0 s0 r h
theorem uc_J4_append_15ec4 {n : Nat} {v0 : Nat} {s0 : Sb} : uM s0.2.1 (df_J4_append_15ec4 n v0 s0) := um_df_J4_append_15ec4_0 n v0 s0
theorem um_df_J4_append_cf468_0 (n : Nat) (v0 : Int32) (s0 : Sb) : uM s0.2.1 (df_J4_append_cf468_0 n v0 s0) := by
  unfold df_J4_append_cf468_0
  repeat (with_reducible (first | refine uM_ite ?_ ?_ | refine uM_let (α := Sb) ?_ | refine uM_lg (fun _ => ?_) | exact uM_none | exact uM_some rfl | refine uM_c uc_J5_ensureCapacityInternal_d00df (fun _ => ?_) | refine uM_c uc_J5_append_cf1ce (fun _ => ?_) | refine uM_c uc_J5_append_3fe6f (fun _ => ?_) | refine uM_c uc_J5_append_c97b9 (fun _ => ?_) | refine uM_c uc_J4_append_15ec4 (fun _ => ?_) | refine uM_b1 (fun _ => ?_) | refine uM_b2 (fun _ _ => ?_) | refine uM_ck ?_ | refine uM_lt ?_))
theorem um_J4_append_cf468 {n : Nat} {v0 : Int32} {s0 r : Sb} (h : df_J4_append_cf468 n v0 s0 = some r) : ∃ d : Nat, r.2.1 = s0.2.1 + d ∧ (s0.2.1 ≤ 1 → r.2.1 ≤ 1) := um_df_J4_append_cf468_0 n v0 s0 r h
theorem uc_J4_append_cf468 {n : Nat} {v0 : Int32} {s0 : Sb} : uM s0.2.1 (df_J4_append_cf468 n v0 s0) := um_df_J4_append_cf468_0 n v0 s0
theorem um_df_J4_append_bf812_0 (n : Nat) (v0 : Int32) (s0 : Sb) : uM s0.2.1 (df_J4_append_bf812_0 n v0 s0) := by
  unfold df_J4_append_bf812_0
  repeat (with_reducible (first | refine uM_ite ?_ ?_ | refine uM_let (α := Sb) ?_ | refine uM_lg (fun _ => ?_) | exact uM_none | exact uM_some rfl | refine uM_c uc_J5_ensureCapacityInternal_d00df (fun _ => ?_) | refine uM_c uc_J5_append_cf1ce (fun _ => ?_) | refine uM_c uc_J5_append_3fe6f (fun _ => ?_) | refine uM_c uc_J5_append_c97b9 (fun _ => ?_) | refine uM_c uc_J4_append_15ec4 (fun _ => ?_) | refine uM_c uc_J4_append_cf468 (fun _ => ?_) | refine uM_b1 (fun _ => ?_) | refine uM_b2 (fun _ _ => ?_) | refine uM_ck ?_ | refine uM_lt ?_))
theorem um_J4_append_bf812 {n : Nat} {v0 : Int32} {s0 r : Sb} (h : df_J4_append_bf812 n v0 s0 = some r) : ∃ d : Nat, r.2.1 = s0.2.1 + d ∧ (s0.2.1 ≤ 1 → r.2.1 ≤ 1) := um_df_J4_append_bf812_0 n v0 s0 r h
theorem uc_J4_append_bf812 {n : Nat} {v0 : Int32} {s0 : Sb} : uM s0.2.1 (df_J4_append_bf812 n v0 s0) := um_df_J4_append_bf812_0 n v0 s0
theorem um_df_X7_writeRegister_61 (n : Nat) (s0 : Sb) : uM s0.2.1 (df_X7_writeRegister_61 n s0) := by
  unfold df_X7_writeRegister_61
  repeat (with_reducible (first | refine uM_ite ?_ ?_ | refine uM_let (α := Sb) ?_ | refine uM_lg (fun _ => ?_) | exact uM_none | exact uM_some rfl | refine uM_c uc_J5_ensureCapacityInternal_d00df (fun _ => ?_) | refine uM_c uc_J5_append_cf1ce (fun _ => ?_) | refine uM_c uc_J5_append_3fe6f (fun _ => ?_) | refine uM_c uc_J5_append_c97b9 (fun _ => ?_) | refine uM_c uc_J4_append_15ec4 (fun _ => ?_) | refine uM_c uc_J4_append_cf468 (fun _ => ?_) | refine uM_c uc_J4_append_bf812 (fun _ => ?_) | refine uM_b1 (fun _ => ?_) | refine uM_b2 (fun _ _ => ?_) | refine uM_ck ?_ | refine uM_lt ?_))
theorem um_df_X7_writeRegister_55 (n : Nat) (g14 : Int32 → Int32 → (Sb) → Option (Sb)) (G14 : ∀ (y0 : Int32) (y1 : Int32) (s : Sb), uM s.2.1 (g14 y0 y1 s)) (x1 : Int32) (x2 : Int32) (s0 : Sb) : uM s0.2.1 (df_X7_writeRegister_55 n g14 x1 x2 s0) := by
  unfold df_X7_writeRegister_55
  repeat (with_reducible (first | refine uM_ite ?_ ?_ | refine uM_let (α := Sb) ?_ | refine uM_lg (fun _ => ?_) | exact uM_none | exact uM_some rfl | exact uM_e (G14 _ _ _) rfl | exact uM_e (um_df_X7_writeRegister_61 n _) rfl | refine uM_c uc_J5_ensureCapacityInternal_d00df (fun _ => ?_) | refine uM_c uc_J5_append_cf1ce (fun _ => ?_) | refine uM_c uc_J5_append_3fe6f (fun _ => ?_) | refine uM_c uc_J5_append_c97b9 (fun _ => ?_) | refine uM_c uc_J4_append_15ec4 (fun _ => ?_) | refine uM_c uc_J4_append_cf468 (fun _ => ?_) | refine uM_c uc_J4_append_bf812 (fun _ => ?_) | refine uM_b1 (fun _ => ?_) | refine uM_b2 (fun _ _ => ?_) | refine uM_ck ?_ | refine uM_lt ?_))
theorem um_dF_X7_writeRegister_14 (n : Nat) (g14 : Int32 → Int32 → (Sb) → Option (Sb)) (G14 : ∀ (y0 : Int32) (y1 : Int32) (s : Sb), uM s.2.1 (g14 y0 y1 s)) (x1 : Int32) (x2 : Int32) (s0 : Sb) : uM s0.2.1 (dF_X7_writeRegister_14 n g14 x1 x2 s0) := by
  unfold dF_X7_writeRegister_14
  repeat (with_reducible (first | refine uM_ite ?_ ?_ | refine uM_let (α := Sb) ?_ | refine uM_lg (fun _ => ?_) | exact uM_none | exact uM_some rfl | exact uM_e (G14 _ _ _) rfl | exact uM_e (um_df_X7_writeRegister_61 n _) rfl | exact uM_e (um_df_X7_writeRegister_55 n _ G14 _ _ _) rfl | refine uM_c uc_J5_ensureCapacityInternal_d00df (fun _ => ?_) | refine uM_c uc_J5_append_cf1ce (fun _ => ?_) | refine uM_c uc_J5_append_3fe6f (fun _ => ?_) | refine uM_c uc_J5_append_c97b9 (fun _ => ?_) | refine uM_c uc_J4_append_15ec4 (fun _ => ?_) | refine uM_c uc_J4_append_cf468 (fun _ => ?_) | refine uM_c uc_J4_append_bf812 (fun _ => ?_) | refine uM_b1 (fun _ => ?_) | refine uM_b2 (fun _ _ => ?_) | refine uM_ck ?_ | refine uM_lt ?_))
theorem um_df_X7_writeRegister_14 (n : Nat) : ∀ (k : Nat) (x1 : Int32) (x2 : Int32) (s0 : Sb), uM s0.2.1 (df_X7_writeRegister_14 n k x1 x2 s0) := fun k => by
  induction k with
  | zero => intro x1 x2 s0; exact uM_none
  | succ k ih => intro x1 x2 s0; exact um_dF_X7_writeRegister_14 n _ ih x1 x2 s0
theorem um_df_X7_writeRegister_12 (n : Nat) (x1 : Int32) (s0 : Sb) : uM s0.2.1 (df_X7_writeRegister_12 n x1 s0) := by
  unfold df_X7_writeRegister_12
  repeat (with_reducible (first | refine uM_ite ?_ ?_ | refine uM_let (α := Sb) ?_ | refine uM_lg (fun _ => ?_) | exact uM_none | exact uM_some rfl | exact uM_e (um_df_X7_writeRegister_61 n _) rfl | exact uM_e (um_df_X7_writeRegister_55 n _ G14 _ _ _) rfl | exact uM_e (um_df_X7_writeRegister_14 n n _ _ _) rfl | refine uM_c uc_J5_ensureCapacityInternal_d00df (fun _ => ?_) | refine uM_c uc_J5_append_cf1ce (fun _ => ?_) | refine uM_c uc_J5_append_3fe6f (fun _ => ?_) | refine uM_c uc_J5_append_c97b9 (fun _ => ?_) | refine uM_c uc_J4_append_15ec4 (fun _ => ?_) | refine uM_c uc_J4_append_cf468 (fun _ => ?_) | refine uM_c uc_J4_append_bf812 (fun _ => ?_) | refine uM_b1 (fun _ => ?_) | refine uM_b2 (fun _ _ => ?_) | refine uM_ck ?_ | refine uM_lt ?_))
theorem um_df_X7_writeRegister_0 (n : Nat) (v1 : Int32) (s0 : Sb) : uM s0.2.1 (df_X7_writeRegister_0 n v1 s0) := by
  unfold df_X7_writeRegister_0
  repeat (with_reducible (first | refine uM_ite ?_ ?_ | refine uM_let (α := Sb) ?_ | refine uM_lg (fun _ => ?_) | exact uM_none | exact uM_some rfl | exact uM_e (um_df_X7_writeRegister_61 n _) rfl | exact uM_e (um_df_X7_writeRegister_55 n _ G14 _ _ _) rfl | exact uM_e (um_df_X7_writeRegister_14 n n _ _ _) rfl | exact uM_e (um_df_X7_writeRegister_12 n _ _) rfl | refine uM_c uc_J5_ensureCapacityInternal_d00df (fun _ => ?_) | refine uM_c uc_J5_append_cf1ce (fun _ => ?_) | refine uM_c uc_J5_append_3fe6f (fun _ => ?_) | refine uM_c uc_J5_append_c97b9 (fun _ => ?_) | refine uM_c uc_J4_append_15ec4 (fun _ => ?_) | refine uM_c uc_J4_append_cf468 (fun _ => ?_) | refine uM_c uc_J4_append_bf812 (fun _ => ?_) | refine uM_b1 (fun _ => ?_) | refine uM_b2 (fun _ _ => ?_) | refine uM_ck ?_ | refine uM_lt ?_))
theorem um_X7_writeRegister {n : Nat} {v1 : Int32} {s0 r : Sb} (h : df_X7_writeRegister n v1 s0 = some r) : ∃ d : Nat, r.2.1 = s0.2.1 + d ∧ (s0.2.1 ≤ 1 → r.2.1 ≤ 1) := um_df_X7_writeRegister_0 n v1 s0 r h
theorem uc_X7_writeRegister {n : Nat} {v1 : Int32} {s0 : Sb} : uM s0.2.1 (df_X7_writeRegister n v1 s0) := um_df_X7_writeRegister_0 n v1 s0
theorem um_df_X7_write_211 (n : Nat) (g67 : Nat → Int32 → Int32 → (Sb) → Option (Sb)) (G67 : ∀ (y0 : Nat) (y1 : Int32) (y2 : Int32) (s : Sb), uM s.2.1 (g67 y0 y1 y2 s)) (x0 : Nat) (x2 : Int32) (x3 : Int32) (s0 : Sb) : uM s0.2.1 (df_X7_write_211 n g67 x0 x2 x3 s0) := by
  unfold df_X7_write_211
  repeat (with_reducible (first | refine uM_ite ?_ ?_ | refine uM_let (α := Sb) ?_ | refine uM_lg (fun _ => ?_) | exact uM_none | exact uM_some rfl | exact uM_e (G67 _ _ _ _) rfl | refine uM_c uc_J5_ensureCapacityInternal_d00df (fun _ => ?_) | refine uM_c uc_J5_append_cf1ce (fun _ => ?_) | refine uM_c uc_J5_append_3fe6f (fun _ => ?_) | refine uM_c uc_J5_append_c97b9 (fun _ => ?_) | refine uM_c uc_J4_append_15ec4 (fun _ => ?_) | refine uM_c uc_J4_append_cf468 (fun _ => ?_) | refine uM_c uc_J4_append_bf812 (fun _ => ?_) | refine uM_c uc_X7_writeRegister (fun _ => ?_) | refine uM_b1 (fun _ => ?_) | refine uM_b2 (fun _ _ => ?_) | refine uM_ck ?_ | refine uM_lt ?_))
theorem um_df_X7_write_200 (n : Nat) (g67 : Nat → Int32 → Int32 → (Sb) → Option (Sb)) (G67 : ∀ (y0 : Nat) (y1 : Int32) (y2 : Int32) (s : Sb), uM s.2.1 (g67 y0 y1 y2 s)) (x0 : Nat) (x2 : Int32) (x3 : Int32) (x5 : Int32) (y1 : Nat) (s0 : Sb) : uM s0.2.1 (df_X7_write_200 n g67 x0 x2 x3 x5 y1 s0) := by
  unfold df_X7_write_200
  repeat (with_reducible (first | refine uM_ite ?_ ?_ | refine uM_let (α := Sb) ?_ | refine uM_lg (fun _ => ?_) | exact uM_none | exact uM_some rfl | exact uM_e (G67 _ _ _ _) rfl | exact uM_e (um_df_X7_write_211 n _ G67 _ _ _ _) rfl | refine uM_c uc_J5_ensureCapacityInternal_d00df (fun _ => ?_) | refine uM_c uc_J5_append_cf1ce (fun _ => ?_) | refine uM_c uc_J5_append_3fe6f (fun _ => ?_) | refine uM_c uc_J5_append_c97b9 (fun _ => ?_) | refine uM_c uc_J4_append_15ec4 (fun _ => ?_) | refine uM_c uc_J4_append_cf468 (fun _ => ?_) | refine uM_c uc_J4_append_bf812 (fun _ => ?_) | refine uM_c uc_X7_writeRegister (fun _ => ?_) | refine uM_b1 (fun _ => ?_) | refine uM_b2 (fun _ _ => ?_) | refine uM_ck ?_ | refine uM_lt ?_))
theorem um_df_X7_write_136 (n : Nat) (g67 : Nat → Int32 → Int32 → (Sb) → Option (Sb)) (G67 : ∀ (y0 : Nat) (y1 : Int32) (y2 : Int32) (s : Sb), uM s.2.1 (g67 y0 y1 y2 s)) (x0 : Nat) (x2 : Int32) (x3 : Int32) (y1 : Nat) (s0 : Sb) : uM s0.2.1 (df_X7_write_136 n g67 x0 x2 x3 y1 s0) := by
  unfold df_X7_write_136
  repeat (with_reducible (first | refine uM_ite ?_ ?_ | refine uM_let (α := Sb) ?_ | refine uM_lg (fun _ => ?_) | exact uM_none | exact uM_some rfl | exact uM_e (G67 _ _ _ _) rfl | exact uM_e (um_df_X7_write_211 n _ G67 _ _ _ _) rfl | exact uM_e (um_df_X7_write_200 n _ G67 _ _ _ _ _ _) rfl | refine uM_c uc_J5_ensureCapacityInternal_d00df (fun _ => ?_) | refine uM_c uc_J5_append_cf1ce (fun _ => ?_) | refine uM_c uc_J5_append_3fe6f (fun _ => ?_) | refine uM_c uc_J5_append_c97b9 (fun _ => ?_) | refine uM_c uc_J4_append_15ec4 (fun _ => ?_) | refine uM_c uc_J4_append_cf468 (fun _ => ?_) | refine uM_c uc_J4_append_bf812 (fun _ => ?_) | refine uM_c uc_X7_writeRegister (fun _ => ?_) | refine uM_b1 (fun _ => ?_) | refine uM_b2 (fun _ _ => ?_) | refine uM_ck ?_ | refine uM_lt ?_))
theorem um_df_X7_write_99 (n : Nat) (g67 : Nat → Int32 → Int32 → (Sb) → Option (Sb)) (G67 : ∀ (y0 : Nat) (y1 : Int32) (y2 : Int32) (s : Sb), uM s.2.1 (g67 y0 y1 y2 s)) (x0 : Nat) (x2 : Int32) (x3 : Int32) (x4 : Int32) (s0 : Sb) : uM s0.2.1 (df_X7_write_99 n g67 x0 x2 x3 x4 s0) := by
  unfold df_X7_write_99
  repeat (with_reducible (first | refine uM_ite ?_ ?_ | refine uM_let (α := Sb) ?_ | refine uM_lg (fun _ => ?_) | exact uM_none | exact uM_some rfl | exact uM_e (G67 _ _ _ _) rfl | exact uM_e (um_df_X7_write_211 n _ G67 _ _ _ _) rfl | exact uM_e (um_df_X7_write_200 n _ G67 _ _ _ _ _ _) rfl | exact uM_e (um_df_X7_write_136 n _ G67 _ _ _ _ _) rfl | refine uM_c uc_J5_ensureCapacityInternal_d00df (fun _ => ?_) | refine uM_c uc_J5_append_cf1ce (fun _ => ?_) | refine uM_c uc_J5_append_3fe6f (fun _ => ?_) | refine uM_c uc_J5_append_c97b9 (fun _ => ?_) | refine uM_c uc_J4_append_15ec4 (fun _ => ?_) | refine uM_c uc_J4_append_cf468 (fun _ => ?_) | refine uM_c uc_J4_append_bf812 (fun _ => ?_) | refine uM_c uc_X7_writeRegister (fun _ => ?_) | refine uM_b1 (fun _ => ?_) | refine uM_b2 (fun _ _ => ?_) | refine uM_ck ?_ | refine uM_lt ?_))
theorem um_dF_X7_write_67 (n : Nat) (g67 : Nat → Int32 → Int32 → (Sb) → Option (Sb)) (G67 : ∀ (y0 : Nat) (y1 : Int32) (y2 : Int32) (s : Sb), uM s.2.1 (g67 y0 y1 y2 s)) (x0 : Nat) (x2 : Int32) (x3 : Int32) (s0 : Sb) : uM s0.2.1 (dF_X7_write_67 n g67 x0 x2 x3 s0) := by
  unfold dF_X7_write_67
  repeat (with_reducible (first | refine uM_ite ?_ ?_ | refine uM_let (α := Sb) ?_ | refine uM_lg (fun _ => ?_) | exact uM_none | exact uM_some rfl | exact uM_e (G67 _ _ _ _) rfl | exact uM_e (um_df_X7_write_211 n _ G67 _ _ _ _) rfl | exact uM_e (um_df_X7_write_200 n _ G67 _ _ _ _ _ _) rfl | exact uM_e (um_df_X7_write_136 n _ G67 _ _ _ _ _) rfl | exact uM_e (um_df_X7_write_99 n _ G67 _ _ _ _ _) rfl | refine uM_c uc_J5_ensureCapacityInternal_d00df (fun _ => ?_) | refine uM_c uc_J5_append_cf1ce (fun _ => ?_) | refine uM_c uc_J5_append_3fe6f (fun _ => ?_) | refine uM_c uc_J5_append_c97b9 (fun _ => ?_) | refine uM_c uc_J4_append_15ec4 (fun _ => ?_) | refine uM_c uc_J4_append_cf468 (fun _ => ?_) | refine uM_c uc_J4_append_bf812 (fun _ => ?_) | refine uM_c uc_X7_writeRegister (fun _ => ?_) | refine uM_b1 (fun _ => ?_) | refine uM_b2 (fun _ _ => ?_) | refine uM_ck ?_ | refine uM_lt ?_))
theorem um_df_X7_write_67 (n : Nat) : ∀ (k : Nat) (x0 : Nat) (x2 : Int32) (x3 : Int32) (s0 : Sb), uM s0.2.1 (df_X7_write_67 n k x0 x2 x3 s0) := fun k => by
  induction k with
  | zero => intro x0 x2 x3 s0; exact uM_none
  | succ k ih => intro x0 x2 x3 s0; exact um_dF_X7_write_67 n _ ih x0 x2 x3 s0
theorem um_df_X7_write_65 (n : Nat) (x0 : Nat) (x2 : Int32) (s0 : Sb) : uM s0.2.1 (df_X7_write_65 n x0 x2 s0) := by
  unfold df_X7_write_65
  repeat (with_reducible (first | refine uM_ite ?_ ?_ | refine uM_let (α := Sb) ?_ | refine uM_lg (fun _ => ?_) | exact uM_none | exact uM_some rfl | exact uM_e (um_df_X7_write_211 n _ G67 _ _ _ _) rfl | exact uM_e (um_df_X7_write_200 n _ G67 _ _ _ _ _ _) rfl | exact uM_e (um_df_X7_write_136 n _ G67 _ _ _ _ _) rfl | exact uM_e (um_df_X7_write_99 n _ G67 _ _ _ _ _) rfl | exact uM_e (um_df_X7_write_67 n n _ _ _ _) rfl | refine uM_c uc_J5_ensureCapacityInternal_d00df (fun _ => ?_) | refine uM_c uc_J5_append_cf1ce (fun _ => ?_) | refine uM_c uc_J5_append_3fe6f (fun _ => ?_) | refine uM_c uc_J5_append_c97b9 (fun _ => ?_) | refine uM_c uc_J4_append_15ec4 (fun _ => ?_) | refine uM_c uc_J4_append_cf468 (fun _ => ?_) | refine uM_c uc_J4_append_bf812 (fun _ => ?_) | refine uM_c uc_X7_writeRegister (fun _ => ?_) | refine uM_b1 (fun _ => ?_) | refine uM_b2 (fun _ _ => ?_) | refine uM_ck ?_ | refine uM_lt ?_))
theorem um_df_X7_write_61 (n : Nat) (x0 : Nat) (x2 : Int32) (y1 : Nat) (s0 : Sb) : uM s0.2.1 (df_X7_write_61 n x0 x2 y1 s0) := by
  unfold df_X7_write_61
  repeat (with_reducible (first | refine uM_ite ?_ ?_ | refine uM_let (α := Sb) ?_ | refine uM_lg (fun _ => ?_) | exact uM_none | exact uM_some rfl | exact uM_e (um_df_X7_write_211 n _ G67 _ _ _ _) rfl | exact uM_e (um_df_X7_write_200 n _ G67 _ _ _ _ _ _) rfl | exact uM_e (um_df_X7_write_136 n _ G67 _ _ _ _ _) rfl | exact uM_e (um_df_X7_write_99 n _ G67 _ _ _ _ _) rfl | exact uM_e (um_df_X7_write_67 n n _ _ _ _) rfl | exact uM_e (um_df_X7_write_65 n _ _ _) rfl | refine uM_c uc_J5_ensureCapacityInternal_d00df (fun _ => ?_) | refine uM_c uc_J5_append_cf1ce (fun _ => ?_) | refine uM_c uc_J5_append_3fe6f (fun _ => ?_) | refine uM_c uc_J5_append_c97b9 (fun _ => ?_) | refine uM_c uc_J4_append_15ec4 (fun _ => ?_) | refine uM_c uc_J4_append_cf468 (fun _ => ?_) | refine uM_c uc_J4_append_bf812 (fun _ => ?_) | refine uM_c uc_X7_writeRegister (fun _ => ?_) | refine uM_b1 (fun _ => ?_) | refine uM_b2 (fun _ _ => ?_) | refine uM_ck ?_ | refine uM_lt ?_))
theorem um_df_X7_write_0 (n : Nat) (vt : Nat) (v1 : Int32) (s0 : Sb) : uM s0.2.1 (df_X7_write_0 n vt v1 s0) := by
  unfold df_X7_write_0
  repeat (with_reducible (first | refine uM_ite ?_ ?_ | refine uM_let (α := Sb) ?_ | refine uM_lg (fun _ => ?_) | exact uM_none | exact uM_some rfl | exact uM_e (um_df_X7_write_211 n _ G67 _ _ _ _) rfl | exact uM_e (um_df_X7_write_200 n _ G67 _ _ _ _ _ _) rfl | exact uM_e (um_df_X7_write_136 n _ G67 _ _ _ _ _) rfl | exact uM_e (um_df_X7_write_99 n _ G67 _ _ _ _ _) rfl | exact uM_e (um_df_X7_write_67 n n _ _ _ _) rfl | exact uM_e (um_df_X7_write_65 n _ _ _) rfl | exact uM_e (um_df_X7_write_61 n _ _ _ _) rfl | refine uM_c uc_J5_ensureCapacityInternal_d00df (fun _ => ?_) | refine uM_c uc_J5_append_cf1ce (fun _ => ?_) | refine uM_c uc_J5_append_3fe6f (fun _ => ?_) | refine uM_c uc_J5_append_c97b9 (fun _ => ?_) | refine uM_c uc_J4_append_15ec4 (fun _ => ?_) | refine uM_c uc_J4_append_cf468 (fun _ => ?_) | refine uM_c uc_J4_append_bf812 (fun _ => ?_) | refine uM_c uc_X7_writeRegister (fun _ => ?_) | refine uM_b1 (fun _ => ?_) | refine uM_b2 (fun _ _ => ?_) | refine uM_ck ?_ | refine uM_lt ?_))
theorem um_X7_write {n : Nat} {vt : Nat} {v1 : Int32} {s0 r : Sb} (h : df_X7_write n vt v1 s0 = some r) : ∃ d : Nat, r.2.1 = s0.2.1 + d ∧ (s0.2.1 ≤ 1 → r.2.1 ≤ 1) := um_df_X7_write_0 n vt v1 s0 r h
theorem uc_X7_write {n : Nat} {vt : Nat} {v1 : Int32} {s0 : Sb} : uM s0.2.1 (df_X7_write n vt v1 s0) := um_df_X7_write_0 n vt v1 s0
theorem um_df_X7_spell_99 (n : Nat) (x2 : Int64) (s0 : Sb) : uM s0.2.1 (df_X7_spell_99 n x2 s0) := by
  unfold df_X7_spell_99
  repeat (with_reducible (first | refine uM_ite ?_ ?_ | refine uM_let (α := Sb) ?_ | refine uM_lg (fun _ => ?_) | exact uM_none | exact uM_some rfl | refine uM_c uc_J5_ensureCapacityInternal_d00df (fun _ => ?_) | refine uM_c uc_J5_append_cf1ce (fun _ => ?_) | refine uM_c uc_J5_append_3fe6f (fun _ => ?_) | refine uM_c uc_J5_append_c97b9 (fun _ => ?_) | refine uM_c uc_J4_append_15ec4 (fun _ => ?_) | refine uM_c uc_J4_append_cf468 (fun _ => ?_) | refine uM_c uc_J4_append_bf812 (fun _ => ?_) | refine uM_c uc_X7_writeRegister (fun _ => ?_) | refine uM_c uc_X7_write (fun _ => ?_) | refine uM_b1 (fun _ => ?_) | refine uM_b2 (fun _ _ => ?_) | refine uM_ck ?_ | refine uM_lt ?_))
theorem um_df_X7_spell_69 (n : Nat) (x1 : Int32) (y1 : Nat) (s0 : Sb) : uM s0.2.1 (df_X7_spell_69 n x1 y1 s0) := by
  unfold df_X7_spell_69
  exact uM_c uc_J4_append_15ec4 (fun z => uM_lg (fun y => uM_ite (um_df_X7_spell_99 n y z) (uM_c uc_J4_append_bf812 (fun z2 => um_df_X7_spell_99 n y z2))))
theorem um_df_X7_spell_46 (n : Nat) (g2 : Int32 → Int32 → (Sb) → Option (Sb)) (G2 : ∀ (y0 : Int32) (y1 : Int32) (s : Sb), uM s.2.1 (g2 y0 y1 s)) (x1 : Int32) (x2 : Int32) (s0 : Sb) : uM s0.2.1 (df_X7_spell_46 n g2 x1 x2 s0) := by
  unfold df_X7_spell_46
  repeat (with_reducible (first | refine uM_ite ?_ ?_ | refine uM_let (α := Sb) ?_ | refine uM_lg (fun _ => ?_) | exact uM_none | exact uM_some rfl | exact uM_e (G2 _ _ _) rfl | exact uM_e (um_df_X7_spell_99 n _ _) rfl | exact uM_e (um_df_X7_spell_69 n _ _ _) rfl | refine uM_c uc_J5_ensureCapacityInternal_d00df (fun _ => ?_) | refine uM_c uc_J5_append_cf1ce (fun _ => ?_) | refine uM_c uc_J5_append_3fe6f (fun _ => ?_) | refine uM_c uc_J5_append_c97b9 (fun _ => ?_) | refine uM_c uc_J4_append_15ec4 (fun _ => ?_) | refine uM_c uc_J4_append_cf468 (fun _ => ?_) | refine uM_c uc_J4_append_bf812 (fun _ => ?_) | refine uM_c uc_X7_writeRegister (fun _ => ?_) | refine uM_c uc_X7_write (fun _ => ?_) | refine uM_b1 (fun _ => ?_) | refine uM_b2 (fun _ _ => ?_) | refine uM_ck ?_ | refine uM_lt ?_))
theorem um_dF_X7_spell_2 (n : Nat) (g2 : Int32 → Int32 → (Sb) → Option (Sb)) (G2 : ∀ (y0 : Int32) (y1 : Int32) (s : Sb), uM s.2.1 (g2 y0 y1 s)) (x1 : Int32) (x2 : Int32) (s0 : Sb) : uM s0.2.1 (dF_X7_spell_2 n g2 x1 x2 s0) := by
  unfold dF_X7_spell_2
  repeat (with_reducible (first | refine uM_ite ?_ ?_ | refine uM_let (α := Sb) ?_ | refine uM_lg (fun _ => ?_) | exact uM_none | exact uM_some rfl | exact uM_e (G2 _ _ _) rfl | exact uM_e (um_df_X7_spell_99 n _ _) rfl | exact uM_e (um_df_X7_spell_69 n _ _ _) rfl | exact uM_e (um_df_X7_spell_46 n _ G2 _ _ _) rfl | refine uM_c uc_J5_ensureCapacityInternal_d00df (fun _ => ?_) | refine uM_c uc_J5_append_cf1ce (fun _ => ?_) | refine uM_c uc_J5_append_3fe6f (fun _ => ?_) | refine uM_c uc_J5_append_c97b9 (fun _ => ?_) | refine uM_c uc_J4_append_15ec4 (fun _ => ?_) | refine uM_c uc_J4_append_cf468 (fun _ => ?_) | refine uM_c uc_J4_append_bf812 (fun _ => ?_) | refine uM_c uc_X7_writeRegister (fun _ => ?_) | refine uM_c uc_X7_write (fun _ => ?_) | refine uM_b1 (fun _ => ?_) | refine uM_b2 (fun _ _ => ?_) | refine uM_ck ?_ | refine uM_lt ?_))
theorem um_df_X7_spell_2 (n : Nat) : ∀ (k : Nat) (x1 : Int32) (x2 : Int32) (s0 : Sb), uM s0.2.1 (df_X7_spell_2 n k x1 x2 s0) := fun k => by
  induction k with
  | zero => intro x1 x2 s0; exact uM_none
  | succ k ih => intro x1 x2 s0; exact um_dF_X7_spell_2 n _ ih x1 x2 s0
theorem um_df_X7_spell_0 (n : Nat) (v1 : Int32) (s0 : Sb) : uM s0.2.1 (df_X7_spell_0 n v1 s0) := by
  unfold df_X7_spell_0
  repeat (with_reducible (first | refine uM_ite ?_ ?_ | refine uM_let (α := Sb) ?_ | refine uM_lg (fun _ => ?_) | exact uM_none | exact uM_some rfl | exact uM_e (um_df_X7_spell_99 n _ _) rfl | exact uM_e (um_df_X7_spell_69 n _ _ _) rfl | exact uM_e (um_df_X7_spell_46 n _ G2 _ _ _) rfl | exact uM_e (um_df_X7_spell_2 n n _ _ _) rfl | refine uM_c uc_J5_ensureCapacityInternal_d00df (fun _ => ?_) | refine uM_c uc_J5_append_cf1ce (fun _ => ?_) | refine uM_c uc_J5_append_3fe6f (fun _ => ?_) | refine uM_c uc_J5_append_c97b9 (fun _ => ?_) | refine uM_c uc_J4_append_15ec4 (fun _ => ?_) | refine uM_c uc_J4_append_cf468 (fun _ => ?_) | refine uM_c uc_J4_append_bf812 (fun _ => ?_) | refine uM_c uc_X7_writeRegister (fun _ => ?_) | refine uM_c uc_X7_write (fun _ => ?_) | refine uM_b1 (fun _ => ?_) | refine uM_b2 (fun _ _ => ?_) | refine uM_ck ?_ | refine uM_lt ?_))
theorem um_X7_spell {n : Nat} {v1 : Int32} {s0 r : Sb} (h : df_X7_spell n v1 s0 = some r) : ∃ d : Nat, r.2.1 = s0.2.1 + d ∧ (s0.2.1 ≤ 1 → r.2.1 ≤ 1) := um_df_X7_spell_0 n v1 s0 r h
theorem uc_X7_spell {n : Nat} {v1 : Int32} {s0 : Sb} : uM s0.2.1 (df_X7_spell n v1 s0) := um_df_X7_spell_0 n v1 s0

def dw_BYm (a : Nat → Nat) (ac : Nat → ClassId) (σ : St) : va_W := [(a 0, .inl (ac 0, a 1, .inl (sR σ 0)))]
def dk_BYm (ac : Nat → ClassId) : List (ClassId × FieldType) := [(ac 0, .byte)]
def nv_G (B : Nat → Prop) (U : State) : Prop := (∃ b : Nat, va_Z "java/lang/Integer" "DigitOnes" "[B" (.ref b) B U U.heap ∧ va_T .byte b 100 (fun j => .int (dg_o j)) B U U.heap) ∧ ∃ b : Nat, va_Z "java/lang/Integer" "DigitTens" "[B" (.ref b) B U U.heap ∧ va_T .byte b 100 (fun j => .int (dg_t j)) B U U.heap
def nv_H (J : Nat → Nat → Nat) (B : Nat → Prop) (U : State) : Prop := nv_E J B U ∧ nv_G B U
theorem nv_Hs {J : Nat → Nat → Nat} {B : Nat → Prop} {u U : State} (e : u.vm = U.vm) (e2 : u.heap = U.heap) (h : nv_H J B u) : nv_H J B U := by
  have al : u.vm.Alike U.vm := by rw [e]; exact Vm.Alike.refl _
  obtain ⟨h0, ⟨b, p1, p2⟩, ⟨c, p3, p4⟩⟩ := h
  exact ⟨nv_same e e2 h0, ⟨b, by rw [← e2]; exact va_Z.moved al p1, by rw [← e2]; exact va_T.moved al p2⟩, ⟨c, by rw [← e2]; exact va_Z.moved al p3, by rw [← e2]; exact va_T.moved al p4⟩⟩
theorem nv_Hc {J : Nat → Nat → Nat} {A B : Nat → Prop} {s U : State} {H : Heap} {locs : List Loc} (hS : va_S A s.heap H locs) (hF : ∀ q, B q → A q) (hU : U.heap = H) (hW : s.WarmedH U.vm) (h : nv_H J A s) : nv_H J B U := by
  have al := hW.alike
  obtain ⟨h0, ⟨b, p1, p2⟩, ⟨c, p3, p4⟩⟩ := h
  exact ⟨nv_call hS hF hU hW h0, ⟨b, by rw [hU]; exact ((va_Z.moved al p1).kept hS.2.1).narrow hF, by rw [hU]; exact ((va_T.moved al p2).kept hS.2.1).narrow hF⟩, ⟨c, by rw [hU]; exact ((va_Z.moved al p3).kept hS.2.1).narrow hF, by rw [hU]; exact ((va_T.moved al p4).kept hS.2.1).narrow hF⟩⟩
def nd_CH (p : Program) (l : Launch) (s : State) (m : MethodId) (args : Array Value) (c : Code) (A : Nat → Prop) (D : va_G) (cc : ByteArray) (ml : Nat) (own : String) (ow : List Cond) (tys : List (ClassId × FieldType)) : Prop := l.stackTraces = false ∧ p.tables.exec = Jvm.exec ∧ c.code = cc ∧ c.maxLocals = ml ∧ s.vm.findClass own = some m.cls ∧ (∀ w ∈ ow, w.before args s = true) ∧ nv_H D.2 A s ∧ (∀ q : Nat, s.heap.size ≤ q → A q) ∧ va_K D vwCl tys s
def nd_Sr (p : Program) (l : Launch) (e : Env) (R : Room) (s : State) (m : MethodId) (args : Array Value) (below : List Frame) (meth : Method) (c : Code) (Q : State → Prop) (A : Nat → Prop) (D : va_G) (cc : ByteArray) (wf : Nat → Sb → va_W) (u0 : Nat) (r : Sb) : Prop := ∀ (pc x : Nat) (τ : Sb) (v k : Nat) (H : Heap) (locs : List Loc) (ls : Array Slot), decode cc pc = .ok (.areturn, 1) → τ.2.1 = u0 + k → r = τ → va_P D vwCl (wf v τ) H → va_D A (wf v τ) → va_S A s.heap H locs → W p l e R s m args below meth c H locs k (34 * k) Q (F0 m pc ls [.ref x])
def nd_Sv (p : Program) (l : Launch) (e : Env) (R : Room) (s : State) (m : MethodId) (args : Array Value) (below : List Frame) (meth : Method) (c : Code) (Q : State → Prop) (A : Nat → Prop) (D : va_G) (cc : ByteArray) (wf : Nat → Sb → va_W) (u0 : Nat) (r : Sb) : Prop := ∀ (pc : Nat) (τ : Sb) (v k : Nat) (H : Heap) (locs : List Loc) (ls : Array Slot), decode cc pc = .ok (.return_, 1) → τ.2.1 = u0 + k → r = τ → va_P D vwCl (wf v τ) H → va_D A (wf v τ) → va_S A s.heap H locs → W p l e R s m args below meth c H locs k (34 * k) Q (F0 m pc ls [])
theorem nd_uX {u0 k d a b bd dd : Nat} (hk : a = u0 + k) (he : b = a + d) (hm : b ≤ bd) (HR : bd ≤ u0 + dd) : k + d ≤ dd ∧ 34 * k + 34 * d ≤ 34 * dd := ⟨by omega, by omega⟩
theorem nd_uP {u0 k a bd dd : Nat} (hk : a = u0 + k) (hm : a ≤ bd) (HR : bd ≤ u0 + dd) : k + 0 ≤ dd ∧ 34 * k + 0 ≤ 34 * dd := ⟨by omega, by omega⟩
theorem nd_uN {u0 k d a b k2 : Nat} (hk : a = u0 + k) (he : b = a + d) (e2 : k + d = k2) : b = u0 + k2 := by omega
theorem nd_uK {u0 k a dd : Nat} (hk : a = u0 + k) (hd : a = u0 + dd) : k ≤ dd ∧ 34 * k ≤ 34 * dd := ⟨by omega, by omega⟩
theorem nd_w34 {p : Program} {l : Launch} {e : Env} {R : Room} {s : State} {m : MethodId} {args : Array Value} {below : List Frame} {meth : Method} {c : Code} {H : Heap} {locs : List Loc} {k d : Nat} {Q : State → Prop} {g : JFrame} (h : W p l e R s m args below meth c H locs (k + d) (34 * (k + d)) Q g) : W p l e R s m args below meth c H locs (k + d) (34 * k + 34 * d) Q g := by
  rw [← Nat.mul_add]; exact h
theorem nv_cpT {cell : Cell} {c1 : ClassId} {N n1 sp dp n : Nat} {f g : Nat → Int32} (hs : sp + n ≤ N) (h6 : ∀ j : Nat, j < N → cell.slots[j]? = some (.int (f j))) : (arrV c1 n1 (fun j => .int (g j))).storeRun dp (cell.stretch sp n) = arrV c1 n1 (fun j => .int (va_cpy f g sp dp n j)) := by
  have e : cell.stretch sp n = (List.range n).map (fun i => .int (f (sp + i))) := by
    unfold Cell.stretch
    apply List.map_congr_left
    intro i hi
    have hi' := List.mem_range.mp hi
    rw [Array.getD_eq_getD_getElem?, h6 (sp + i) (by omega)]
    rfl
  rw [e, Cell.storeRun, va_pairs]
  congr 1
  funext k
  simp only [va_cpy, List.length_map, List.length_range, Nat.add_zero]
  by_cases h : dp ≤ k ∧ k < dp + n
  · rw [if_pos h, if_pos h, List.getD_eq_getElem?_getD, List.getElem?_map, List.getElem?_range (by omega)]
    rfl
  · rw [if_neg h, if_neg h]
theorem ks_fit (i j : Nat) : fits .byte (.int (ks_b i j)) = true := by
  have h : ∀ L ∈ ks_l, ∀ x ∈ L, fits .byte (.int x) = true := by decide +kernel
  unfold ks_b
  rw [List.getD_eq_getElem?_getD, List.getD_eq_getElem?_getD]
  cases e : ks_l[i]? with
  | none => rfl
  | some L =>
    show fits .byte (.int (L[j]?.getD 0)) = true
    cases e2 : L[j]? with
    | none => rfl
    | some x => exact h L (List.mem_of_getElem? e) x (List.mem_of_getElem? e2)
theorem nv_copyT {p : Program} {l : Launch} {e : Env} {R : Room} {s : State} {m : MethodId} {args : Array Value} {below : List Frame} {meth : Method} {c : Code} {H : Heap} {locs : List Loc} {cells slots : Nat} {Q : State → Prop} {pc : Nat} {ls : Array Slot} {rest : List Value} {D : va_G} {cl : List vw_C} {A : Nat → Prop} {a : Nat} {tys : List (ClassId × FieldType)} {ws : va_W} {cc : ByteArray} (hexec : p.tables.exec = Jvm.exec) (hb : c.code = cc) (hml : c.maxLocals = ls.size) {own : String} {index : Nat} (hown : s.vm.findClass own = some m.cls) (hlink : (Cond.methodLink own index arraycopyName).before args s = true) (hnat : (Cond.native arraycopyName).before args s = true) (hstat : (Cond.static arraycopyName).before args s = true) (hini : (Cond.initialized "java/lang/System").before args s = true)
    (hK : va_K D cl tys s) (hP : va_P D cl ws H) (hD : va_D A ws) (hS : va_S A s.heap H locs) {a0 N : Nat} {f : Nat → Int32} {ty : FieldType} (hT : va_T ty a0 N (fun j => .int (f j)) A s s.heap) (q1 t1 : Nat) {c1 : ClassId} {n1 : Nat} {g : Nat → Int32} (ha1 : ws[q1]? = some (a, .inl (c1, n1, .inl g))) (ht1 : tys[t1]? = some (c1, ty)) (hprim : refKind ty = false)
    {sp dp n : Int32} (h1 : ¬ sp < 0) (h2 : ¬ dp < 0) (h3 : ¬ n < 0) (h4 : sp.toNatClampNeg + n.toNatClampNeg ≤ N) (h5 : dp.toNatClampNeg + n.toNatClampNeg ≤ n1) (hfit : ∀ i, i < n.toNatClampNeg → fits ty (.int (f (sp.toNatClampNeg + i))) = true)
    (hframes : 1 ≤ R.frames) (hlocals : (rest.map fun v => v.category).sum + (nativeFrameWords "java/lang/System" "arraycopy" 5 + 11) ≤ R.locals) (hdg : decode cc pc = .ok (.invokestatic index, 3))
    (kk : ∀ (H1 : Heap) (locs1 : List Loc), va_P D cl (ws.set q1 (a, .inl (c1, n1, .inl (va_cpy f g sp.toNatClampNeg dp.toNatClampNeg n.toNatClampNeg)))) H1 → va_D A (ws.set q1 (a, .inl (c1, n1, .inl (va_cpy f g sp.toNatClampNeg dp.toNatClampNeg n.toNatClampNeg)))) → va_S A s.heap H1 locs1 → W p l e R s m args below meth c H1 locs1 cells slots Q (F0 m (pc + 3) ls rest)) : W p l e R s m args below meth c H locs cells slots Q (F0 m pc ls (.int n :: .int dp :: .ref a :: .int sp :: .ref a0 :: rest)) := by
  have nn : ∀ z : Int32, ¬ z < 0 → z.toInt = (z.toNatClampNeg : Int) := by
    intro z hz
    have hz0 : (0 : Int) ≤ z.toInt := by
      have := Int32.not_lt.mp hz
      simpa using Int32.le_iff_toInt_le.mp this
    show z.toInt = ((z.toInt.toNat : Nat) : Int)
    omega
  intro T hTT X
  obtain ⟨cell, g1, g2, g3, g4, g5, g6, g7⟩ := hT
  have hc0 : H[a0]? = some cell := by rw [hS.2.1 a0 (Array.getElem?_eq_some_iff.mp g1).1 g7]; exact g1
  have hc1 : H[a]? = some (vp_cell c1 (n1, .inl g)) := hP q1 _ ha1
  obtain ⟨no0, k0, hk0, cm0, hkk0⟩ := g2
  obtain ⟨-, k1, hk1, cm1, hkk1⟩ := (hK.2 t1 _ ht1).1 n1 (fun j => .int (g j))
  obtain ⟨vm', X', step⟩ := X.arraycopy hexec hown hlink hnat hstat hini (src := a0) (dst := a) (cs := cell) (cd := vp_cell c1 (n1, .inl g)) (srcPos := sp) (destPos := dp) (n := n) (by rw [hTT]; exact hc0) (by rw [hTT]; exact hc1)
    no0 (fun _ h => by cases h) g3 (fun h => by cases h) hk0 hk1 hkk0 hkk1 (by simp [hprim]) h1 h2 h3
    (by rw [nn sp h1, nn n h3]; omega)
    (by rw [nn dp h2, nn n h3]; show ¬ _ > ((arrV c1 n1 (fun j => .int (g j))).slots.size : Int); rw [arrV_size]; omega)
    (fun vm₁ _ i hi => by
      have e : cell.slots.getD (sp.toNatClampNeg + i) .null = .int (f (sp.toNatClampNeg + i)) := by
        rw [Array.getD_eq_getD_getElem?, g6 _ (by omega)]
        rfl
      refine ⟨?_, ?_⟩
      · rw [e]
        exact hfit i hi
      · rw [e]
        exact trivial)
    (g := F0 m pc ls (.int n :: .int dp :: .ref a :: .int sp :: .ref a0 :: rest)) rfl (by rw [hml]) (rest := rest) rfl (by rw [hb]; exact hdg) hframes (by show 2 * 0 + _ + _ ≤ _; omega)
  have e1 : copied cell (vp_cell c1 (n1, .inl g)) sp dp n = vp_cell c1 (n1, .inl (va_cpy f g sp.toNatClampNeg dp.toNatClampNeg n.toNatClampNeg)) := nv_cpT h4 g6
  rw [e1] at X' step
  have hl : a < H.size := (Array.getElem?_eq_some_iff.mp hc1).1
  have hheap : ((T.setVm vm').setCell a (vp_cell c1 (n1, .inl (va_cpy f g sp.toNatClampNeg dp.toNatClampNeg n.toNatClampNeg)))).heap = H.setIfInBounds a (vp_cell c1 (n1, .inl (va_cpy f g sp.toNatClampNeg dp.toNatClampNeg n.toNatClampNeg))) := by rw [← hTT]; rfl
  have oq : ∀ q : Nat, q ≠ a → (H.setIfInBounds a (vp_cell c1 (n1, .inl (va_cpy f g sp.toNatClampNeg dp.toNatClampNeg n.toNatClampNeg))))[q]? = H[q]? := fun q hq => by simp [Array.getElem?_setIfInBounds, Ne.symm hq]
  obtain ⟨t, a1, b1⟩ := kk _ _ (hP.set hD ha1 (show (H.setIfInBounds a _)[a]? = some _ by simp [Array.getElem?_setIfInBounds, hl]) oq) (hD.set ha1) ⟨by simp; exact hS.1, fun q g1 g2 => by
      rw [oq q (fun e => g2 (by rw [e]; exact hD.2 q1 _ ha1))]
      exact hS.2.1 q g1 g2, fun q hq => by
      rcases List.mem_append.mp hq with h | h
      · exact hS.2.2 q h
      · obtain ⟨z, -, hz⟩ := List.mem_map.mp h
        rw [← hz]
        exact hD.2 q1 _ ha1⟩ _ hheap X'
  exact ⟨t, step t a1, b1⟩
set_option maxHeartbeats 40000000 in
set_option maxRecDepth 100000 in
theorem nd_gVi {p : Program} {l : Launch} {e : Env} {R : Room} {s : State} {m : MethodId} {args : Array Value} {below : List Frame} {meth : Method} {c : Code} {H : Heap} {locs : List Loc} {cells slots : Nat} {Q : State → Prop} {A : Nat → Prop} {D : va_G} {cc : ByteArray} {nL : Nat} {own C : String} {Ts ows : List Cond} {index : Nat} {y : MethodName} {bytes : ByteArray} {maxL : Nat} {ret : Option FieldType} {rm : Room} {n mc ms : Nat} {S : Type} {w : va_W} {w' : S → va_W} {tys : List (ClassId × FieldType)} {b : Nat} {As rest : List Value} {q : Int32} {pc : Nat} {ls : Array Slot} {st : List Value} {E : (Nat → Prop) → State → Prop} (eS : ∀ {B : Nat → Prop} {u U : State}, u.vm = U.vm → u.heap = U.heap → E B u → E B U) (eC : ∀ {A B : Nat → Prop} {s U : State} {H : Heap} {locs : List Loc}, va_S A s.heap H locs → (∀ q, B q → A q) → U.heap = H → s.WarmedH U.vm → E A s → E B U) (Sx : CallFix p m c cc nL s args Ts own)
    (hM : ∀ sz : Nat, Met l y ows rm (va_Pc (.ref b :: As) (fun U => U.heap.size = sz ∧ va_P D vwCl w U.heap ∧ va_K D vwCl tys U ∧ va_D (fun _ => True) w ∧ E (va_A w sz) U)) (va_Qi (fun x (_ : S) => x = q) (fun u t => va_P D vwCl (w' u) t.heap ∧ va_K D vwCl tys t ∧ va_D (va_A w sz) (w' u)) (va_A w sz)) mc ms (va_A w sz))
    (cw : CallW R s args own C index y bytes maxL ret ows rm mc ms n) (hP : va_P D vwCl w H) (hD : va_D A w) (hK : va_K D vwCl tys s) (hS : va_S A s.heap H locs) (hA : ∀ q : Nat, s.heap.size ≤ q → A q) (hN : E A s) (hv : ∃ cell : Cell, H[b]? = some cell ∧ cell.vm.isStatics = false ∧ s.vm.findClass C = some cell.cls) (hn : As.length = n) (hsize : ls.size = nL) (hst : st = As.reverse ++ .ref b :: rest) (hW : (rest.map fun v => v.category).sum ≤ 8) (hdg : decode cc pc = .ok (.invokevirtual index, 3)) (hcs : cells + mc ≤ R.cells ∧ slots + ms ≤ R.slots)
    (kk : ∀ (u : S) (H1 : Heap) (locs1 : List Loc), va_P D vwCl (w' u) H1 → va_D (va_A w H.size) (w' u) → (∀ q : Nat, q < H.size → ¬ va_A w H.size q → H1[q]? = H[q]?) → va_S A s.heap H1 locs1 → W p l e R s m args below meth c H1 locs1 (cells + mc) (slots + ms) Q (F0 m (pc + 3) ls (.int q :: rest))) : W p l e R s m args below meth c H locs cells slots Q (F0 m pc ls st) := by
  have hF := nd_rs hD hS hA
  subst hst
  refine va_calli (va_runV (As := As) (rest := rest) Sx (hM H.size) cw ⟨fun a U g mk q => by obtain ⟨q0, q1, qP, qK, qD, qN⟩ := q; exact ⟨q0, q1, qP, va_K.moved (u := U) (U := U.calling g mk a) (Vm.Alike.refl U.vm) qK, qD, eS (u := U) (U := U.calling g mk a) rfl rfl qN⟩, hv, fun U hU hW => ⟨rfl, by rw [hU], by rw [hU]; exact hP, va_K.moved hW.alike hK, hD.weaken (fun _ _ _ _ => trivial), eC hS hF hU hW hN⟩⟩ rfl hn hsize rfl (lv_room hW) hdg hcs) hS (fun q _ h => hF q h) hF (fun r u t H1 locs ht hvm hw hB hz1 hk1 hS => ?_)
  obtain rfl : q = r := Eq.symm hw
  obtain ⟨hP1, -, hD1⟩ := hB
  rw [ht] at hP1
  exact kk u H1 locs hP1 hD1 hk1 hS
set_option maxHeartbeats 40000000 in
set_option maxRecDepth 100000 in
theorem nd_gVr {p : Program} {l : Launch} {e : Env} {R : Room} {s : State} {m : MethodId} {args : Array Value} {below : List Frame} {meth : Method} {c : Code} {H : Heap} {locs : List Loc} {cells slots : Nat} {Q : State → Prop} {A : Nat → Prop} {D : va_G} {cc : ByteArray} {nL : Nat} {own C : String} {Ts ows : List Cond} {index : Nat} {y : MethodName} {bytes : ByteArray} {maxL : Nat} {ret : Option FieldType} {rm : Room} {n mc ms : Nat} {S : Type} {w : va_W} {w' : S → va_W} {tys : List (ClassId × FieldType)} {b : Nat} {As rest : List Value} {pc : Nat} {ls : Array Slot} {st : List Value} {E : (Nat → Prop) → State → Prop} (eS : ∀ {B : Nat → Prop} {u U : State}, u.vm = U.vm → u.heap = U.heap → E B u → E B U) (eC : ∀ {A B : Nat → Prop} {s U : State} {H : Heap} {locs : List Loc}, va_S A s.heap H locs → (∀ q, B q → A q) → U.heap = H → s.WarmedH U.vm → E A s → E B U) (Sx : CallFix p m c cc nL s args Ts own)
    (hM : ∀ sz : Nat, Met l y ows rm (va_Pc (.ref b :: As) (fun U => U.heap.size = sz ∧ va_P D vwCl w U.heap ∧ va_K D vwCl tys U ∧ va_D (fun _ => True) w ∧ E (va_A w sz) U)) (va_Qr (fun (_ : S) => True) (fun u _ t => va_P D vwCl (w' u) t.heap ∧ va_K D vwCl tys t ∧ va_D (va_A w sz) (w' u)) (va_A w sz)) mc ms (va_A w sz))
    (cw : CallW R s args own C index y bytes maxL ret ows rm mc ms n) (hP : va_P D vwCl w H) (hD : va_D A w) (hK : va_K D vwCl tys s) (hS : va_S A s.heap H locs) (hA : ∀ q : Nat, s.heap.size ≤ q → A q) (hN : E A s) (hv : ∃ cell : Cell, H[b]? = some cell ∧ cell.vm.isStatics = false ∧ s.vm.findClass C = some cell.cls) (hn : As.length = n) (hsize : ls.size = nL) (hst : st = As.reverse ++ .ref b :: rest) (hW : (rest.map fun v => v.category).sum ≤ 8) (hdg : decode cc pc = .ok (.invokevirtual index, 3)) (hcs : cells + mc ≤ R.cells ∧ slots + ms ≤ R.slots)
    (kk : ∀ (u : S) (ra : Nat) (H1 : Heap) (locs1 : List Loc), va_P D vwCl (w' u) H1 → va_D (va_A w H.size) (w' u) → (∀ q : Nat, q < H.size → ¬ va_A w H.size q → H1[q]? = H[q]?) → va_S A s.heap H1 locs1 → W p l e R s m args below meth c H1 locs1 (cells + mc) (slots + ms) Q (F0 m (pc + 3) ls (.ref ra :: rest))) : W p l e R s m args below meth c H locs cells slots Q (F0 m pc ls st) := by
  have hF := nd_rs hD hS hA
  subst hst
  refine va_callr (va_runV (As := As) (rest := rest) Sx (hM H.size) cw ⟨fun a U g mk q => by obtain ⟨q0, q1, qP, qK, qD, qN⟩ := q; exact ⟨q0, q1, qP, va_K.moved (u := U) (U := U.calling g mk a) (Vm.Alike.refl U.vm) qK, qD, eS (u := U) (U := U.calling g mk a) rfl rfl qN⟩, hv, fun U hU hW => ⟨rfl, by rw [hU], by rw [hU]; exact hP, va_K.moved hW.alike hK, hD.weaken (fun _ _ _ _ => trivial), eC hS hF hU hW hN⟩⟩ rfl hn hsize rfl (lv_room hW) hdg hcs) hS (fun q _ h => hF q h) hF (fun u ra t H1 locs ht hvm hw hB hz1 hk1 hS => ?_)
  obtain ⟨hP1, -, hD1⟩ := hB
  rw [ht] at hP1
  exact kk u ra H1 locs hP1 hD1 hk1 hS
set_option maxHeartbeats 40000000 in
set_option maxRecDepth 100000 in
theorem nd_gVv {p : Program} {l : Launch} {e : Env} {R : Room} {s : State} {m : MethodId} {args : Array Value} {below : List Frame} {meth : Method} {c : Code} {H : Heap} {locs : List Loc} {cells slots : Nat} {Q : State → Prop} {A : Nat → Prop} {D : va_G} {cc : ByteArray} {nL : Nat} {own C : String} {Ts ows : List Cond} {index : Nat} {y : MethodName} {bytes : ByteArray} {maxL : Nat} {ret : Option FieldType} {rm : Room} {n mc ms : Nat} {S : Type} {w : va_W} {w' : S → va_W} {tys : List (ClassId × FieldType)} {b : Nat} {As rest : List Value} {pc : Nat} {ls : Array Slot} {st : List Value} {E : (Nat → Prop) → State → Prop} (eS : ∀ {B : Nat → Prop} {u U : State}, u.vm = U.vm → u.heap = U.heap → E B u → E B U) (eC : ∀ {A B : Nat → Prop} {s U : State} {H : Heap} {locs : List Loc}, va_S A s.heap H locs → (∀ q, B q → A q) → U.heap = H → s.WarmedH U.vm → E A s → E B U) (Sx : CallFix p m c cc nL s args Ts own)
    (hM : ∀ sz : Nat, Met l y ows rm (va_Pc (.ref b :: As) (fun U => U.heap.size = sz ∧ va_P D vwCl w U.heap ∧ va_K D vwCl tys U ∧ va_D (fun _ => True) w ∧ E (va_A w sz) U)) (va_Qv (fun (_ : S) => True) (fun u t => va_P D vwCl (w' u) t.heap ∧ va_K D vwCl tys t ∧ va_D (va_A w sz) (w' u)) (va_A w sz)) mc ms (va_A w sz))
    (cw : CallW R s args own C index y bytes maxL ret ows rm mc ms n) (hP : va_P D vwCl w H) (hD : va_D A w) (hK : va_K D vwCl tys s) (hS : va_S A s.heap H locs) (hA : ∀ q : Nat, s.heap.size ≤ q → A q) (hN : E A s) (hv : ∃ cell : Cell, H[b]? = some cell ∧ cell.vm.isStatics = false ∧ s.vm.findClass C = some cell.cls) (hn : As.length = n) (hsize : ls.size = nL) (hst : st = As.reverse ++ .ref b :: rest) (hW : (rest.map fun v => v.category).sum ≤ 8) (hdg : decode cc pc = .ok (.invokevirtual index, 3)) (hcs : cells + mc ≤ R.cells ∧ slots + ms ≤ R.slots)
    (kk : ∀ (u : S) (H1 : Heap) (locs1 : List Loc), va_P D vwCl (w' u) H1 → va_D (va_A w H.size) (w' u) → (∀ q : Nat, q < H.size → ¬ va_A w H.size q → H1[q]? = H[q]?) → va_S A s.heap H1 locs1 → W p l e R s m args below meth c H1 locs1 (cells + mc) (slots + ms) Q (F0 m (pc + 3) ls (rest))) : W p l e R s m args below meth c H locs cells slots Q (F0 m pc ls st) := by
  have hF := nd_rs hD hS hA
  subst hst
  refine va_callv (va_runV (As := As) (rest := rest) Sx (hM H.size) cw ⟨fun a U g mk q => by obtain ⟨q0, q1, qP, qK, qD, qN⟩ := q; exact ⟨q0, q1, qP, va_K.moved (u := U) (U := U.calling g mk a) (Vm.Alike.refl U.vm) qK, qD, eS (u := U) (U := U.calling g mk a) rfl rfl qN⟩, hv, fun U hU hW => ⟨rfl, by rw [hU], by rw [hU]; exact hP, va_K.moved hW.alike hK, hD.weaken (fun _ _ _ _ => trivial), eC hS hF hU hW hN⟩⟩ rfl hn hsize rfl (lv_room hW) hdg hcs) hS (fun q _ h => hF q h) hF (fun u t H1 locs ht hvm hw hB hz1 hk1 hS => ?_)
  obtain ⟨hP1, -, hD1⟩ := hB
  rw [ht] at hP1
  exact kk u H1 locs hP1 hD1 hk1 hS
set_option maxHeartbeats 40000000 in
set_option maxRecDepth 100000 in
theorem nd_gUi {p : Program} {l : Launch} {e : Env} {R : Room} {s : State} {m : MethodId} {args : Array Value} {below : List Frame} {meth : Method} {c : Code} {H : Heap} {locs : List Loc} {cells slots : Nat} {Q : State → Prop} {A : Nat → Prop} {D : va_G} {cc : ByteArray} {nL : Nat} {own C owner : String} {Ts ows : List Cond} {index : Nat} {y : MethodName} {bytes : ByteArray} {maxL : Nat} {ret : Option FieldType} {rm : Room} {n mc ms : Nat} {S : Type} {w : va_W} {w' : S → va_W} {tys : List (ClassId × FieldType)} {b : Nat} {x : MethodName} {As rest : List Value} {q : Int32} {pc : Nat} {ls : Array Slot} {st : List Value} {E : (Nat → Prop) → State → Prop} (eS : ∀ {B : Nat → Prop} {u U : State}, u.vm = U.vm → u.heap = U.heap → E B u → E B U) (eC : ∀ {A B : Nat → Prop} {s U : State} {H : Heap} {locs : List Loc}, va_S A s.heap H locs → (∀ q, B q → A q) → U.heap = H → s.WarmedH U.vm → E A s → E B U) (Sx : CallFix p m c cc nL s args Ts own)
    (hM : ∀ sz : Nat, Met l y ows rm (va_Pc (.ref b :: As) (fun U => U.heap.size = sz ∧ va_P D vwCl w U.heap ∧ va_K D vwCl tys U ∧ va_D (fun _ => True) w ∧ E (va_A w sz) U)) (va_Qi (fun x (_ : S) => x = q) (fun u t => va_P D vwCl (w' u) t.heap ∧ va_K D vwCl tys t ∧ va_D (va_A w sz) (w' u)) (va_A w sz)) mc ms (va_A w sz))
    (cw : va_CU R s args own C owner index x y bytes maxL ret ows rm mc ms n) (hP : va_P D vwCl w H) (hD : va_D A w) (hK : va_K D vwCl tys s) (hS : va_S A s.heap H locs) (hA : ∀ q : Nat, s.heap.size ≤ q → A q) (hN : E A s) (hv : ∃ cell : Cell, H[b]? = some cell ∧ cell.vm.isStatics = false ∧ s.vm.findClass C = some cell.cls) (hn : As.length = n) (hsize : ls.size = nL) (hst : st = As.reverse ++ .ref b :: rest) (hW : (rest.map fun v => v.category).sum ≤ 8) (hdg : decode cc pc = .ok (.invokevirtual index, 3)) (hcs : cells + mc ≤ R.cells ∧ slots + ms ≤ R.slots)
    (kk : ∀ (u : S) (H1 : Heap) (locs1 : List Loc), va_P D vwCl (w' u) H1 → va_D (va_A w H.size) (w' u) → (∀ q : Nat, q < H.size → ¬ va_A w H.size q → H1[q]? = H[q]?) → va_S A s.heap H1 locs1 → W p l e R s m args below meth c H1 locs1 (cells + mc) (slots + ms) Q (F0 m (pc + 3) ls (.int q :: rest))) : W p l e R s m args below meth c H locs cells slots Q (F0 m pc ls st) := by
  have hF := nd_rs hD hS hA
  subst hst
  refine va_calli (va_runU (As := As) (rest := rest) Sx (hM H.size) cw ⟨fun a U g mk q => by obtain ⟨q0, q1, qP, qK, qD, qN⟩ := q; exact ⟨q0, q1, qP, va_K.moved (u := U) (U := U.calling g mk a) (Vm.Alike.refl U.vm) qK, qD, eS (u := U) (U := U.calling g mk a) rfl rfl qN⟩, hv, fun U hU hW => ⟨rfl, by rw [hU], by rw [hU]; exact hP, va_K.moved hW.alike hK, hD.weaken (fun _ _ _ _ => trivial), eC hS hF hU hW hN⟩⟩ rfl hn hsize rfl (lv_room hW) hdg hcs) hS (fun q _ h => hF q h) hF (fun r u t H1 locs ht hvm hw hB hz1 hk1 hS => ?_)
  obtain rfl : q = r := Eq.symm hw
  obtain ⟨hP1, -, hD1⟩ := hB
  rw [ht] at hP1
  exact kk u H1 locs hP1 hD1 hk1 hS
set_option maxHeartbeats 40000000 in
set_option maxRecDepth 100000 in
theorem nd_gUv {p : Program} {l : Launch} {e : Env} {R : Room} {s : State} {m : MethodId} {args : Array Value} {below : List Frame} {meth : Method} {c : Code} {H : Heap} {locs : List Loc} {cells slots : Nat} {Q : State → Prop} {A : Nat → Prop} {D : va_G} {cc : ByteArray} {nL : Nat} {own C owner : String} {Ts ows : List Cond} {index : Nat} {y : MethodName} {bytes : ByteArray} {maxL : Nat} {ret : Option FieldType} {rm : Room} {n mc ms : Nat} {S : Type} {w : va_W} {w' : S → va_W} {tys : List (ClassId × FieldType)} {b : Nat} {x : MethodName} {As rest : List Value} {pc : Nat} {ls : Array Slot} {st : List Value} {E : (Nat → Prop) → State → Prop} (eS : ∀ {B : Nat → Prop} {u U : State}, u.vm = U.vm → u.heap = U.heap → E B u → E B U) (eC : ∀ {A B : Nat → Prop} {s U : State} {H : Heap} {locs : List Loc}, va_S A s.heap H locs → (∀ q, B q → A q) → U.heap = H → s.WarmedH U.vm → E A s → E B U) (Sx : CallFix p m c cc nL s args Ts own)
    (hM : ∀ sz : Nat, Met l y ows rm (va_Pc (.ref b :: As) (fun U => U.heap.size = sz ∧ va_P D vwCl w U.heap ∧ va_K D vwCl tys U ∧ va_D (fun _ => True) w ∧ E (va_A w sz) U)) (va_Qv (fun (_ : S) => True) (fun u t => va_P D vwCl (w' u) t.heap ∧ va_K D vwCl tys t ∧ va_D (va_A w sz) (w' u)) (va_A w sz)) mc ms (va_A w sz))
    (cw : va_CU R s args own C owner index x y bytes maxL ret ows rm mc ms n) (hP : va_P D vwCl w H) (hD : va_D A w) (hK : va_K D vwCl tys s) (hS : va_S A s.heap H locs) (hA : ∀ q : Nat, s.heap.size ≤ q → A q) (hN : E A s) (hv : ∃ cell : Cell, H[b]? = some cell ∧ cell.vm.isStatics = false ∧ s.vm.findClass C = some cell.cls) (hn : As.length = n) (hsize : ls.size = nL) (hst : st = As.reverse ++ .ref b :: rest) (hW : (rest.map fun v => v.category).sum ≤ 8) (hdg : decode cc pc = .ok (.invokevirtual index, 3)) (hcs : cells + mc ≤ R.cells ∧ slots + ms ≤ R.slots)
    (kk : ∀ (u : S) (H1 : Heap) (locs1 : List Loc), va_P D vwCl (w' u) H1 → va_D (va_A w H.size) (w' u) → (∀ q : Nat, q < H.size → ¬ va_A w H.size q → H1[q]? = H[q]?) → va_S A s.heap H1 locs1 → W p l e R s m args below meth c H1 locs1 (cells + mc) (slots + ms) Q (F0 m (pc + 3) ls (rest))) : W p l e R s m args below meth c H locs cells slots Q (F0 m pc ls st) := by
  have hF := nd_rs hD hS hA
  subst hst
  refine va_callv (va_runU (As := As) (rest := rest) Sx (hM H.size) cw ⟨fun a U g mk q => by obtain ⟨q0, q1, qP, qK, qD, qN⟩ := q; exact ⟨q0, q1, qP, va_K.moved (u := U) (U := U.calling g mk a) (Vm.Alike.refl U.vm) qK, qD, eS (u := U) (U := U.calling g mk a) rfl rfl qN⟩, hv, fun U hU hW => ⟨rfl, by rw [hU], by rw [hU]; exact hP, va_K.moved hW.alike hK, hD.weaken (fun _ _ _ _ => trivial), eC hS hF hU hW hN⟩⟩ rfl hn hsize rfl (lv_room hW) hdg hcs) hS (fun q _ h => hF q h) hF (fun u t H1 locs ht hvm hw hB hz1 hk1 hS => ?_)
  obtain ⟨hP1, -, hD1⟩ := hB
  rw [ht] at hP1
  exact kk u H1 locs hP1 hD1 hk1 hS
set_option maxHeartbeats 40000000 in
set_option maxRecDepth 100000 in
theorem nd_gSi {p : Program} {l : Launch} {e : Env} {R : Room} {s : State} {m : MethodId} {args : Array Value} {below : List Frame} {meth : Method} {c : Code} {H : Heap} {locs : List Loc} {cells slots : Nat} {Q : State → Prop} {A : Nat → Prop} {D : va_G} {cc : ByteArray} {nL : Nat} {own : String} {Ts ows : List Cond} {index : Nat} {y : MethodName} {bytes : ByteArray} {maxL : Nat} {ret : Option FieldType} {rm : Room} {n mc ms : Nat} {S : Type} {w : va_W} {w' : S → va_W} {tys : List (ClassId × FieldType)} {As rest : List Value} {q : Int32} {pc : Nat} {ls : Array Slot} {st : List Value} {E : (Nat → Prop) → State → Prop} (eS : ∀ {B : Nat → Prop} {u U : State}, u.vm = U.vm → u.heap = U.heap → E B u → E B U) (eC : ∀ {A B : Nat → Prop} {s U : State} {H : Heap} {locs : List Loc}, va_S A s.heap H locs → (∀ q, B q → A q) → U.heap = H → s.WarmedH U.vm → E A s → E B U) (Sx : CallFix p m c cc nL s args Ts own)
    (hM : ∀ sz : Nat, Met l y ows rm (va_Pc As (fun U => U.heap.size = sz ∧ va_P D vwCl w U.heap ∧ va_K D vwCl tys U ∧ va_D (fun _ => True) w ∧ E (va_A w sz) U)) (va_Qi (fun x (_ : S) => x = q) (fun u t => va_P D vwCl (w' u) t.heap ∧ va_K D vwCl tys t ∧ va_D (va_A w sz) (w' u)) (va_A w sz)) mc ms (va_A w sz))
    (cw : CallB R s args own index y bytes maxL ret ows rm mc ms n ∧ (Cond.static y).before args s = true) (hP : va_P D vwCl w H) (hD : va_D A w) (hK : va_K D vwCl tys s) (hS : va_S A s.heap H locs) (hA : ∀ q : Nat, s.heap.size ≤ q → A q) (hN : E A s) (hn : As.length = n) (hsize : ls.size = nL) (hst : st = As.reverse ++ rest) (hW : (rest.map fun v => v.category).sum ≤ 8) (hdg : decode cc pc = .ok (.invokestatic index, 3)) (hcs : cells + mc ≤ R.cells ∧ slots + ms ≤ R.slots)
    (kk : ∀ (u : S) (H1 : Heap) (locs1 : List Loc), va_P D vwCl (w' u) H1 → va_D (va_A w H.size) (w' u) → (∀ q : Nat, q < H.size → ¬ va_A w H.size q → H1[q]? = H[q]?) → va_S A s.heap H1 locs1 → W p l e R s m args below meth c H1 locs1 (cells + mc) (slots + ms) Q (F0 m (pc + 3) ls (.int q :: rest))) : W p l e R s m args below meth c H locs cells slots Q (F0 m pc ls st) := by
  have hF := nd_rs hD hS hA
  subst hst
  refine va_calli (va_runS (As := As) (rest := rest) Sx (hM H.size) cw ⟨fun a U g mk q => by obtain ⟨q0, q1, qP, qK, qD, qN⟩ := q; exact ⟨q0, q1, qP, va_K.moved (u := U) (U := U.calling g mk a) (Vm.Alike.refl U.vm) qK, qD, eS (u := U) (U := U.calling g mk a) rfl rfl qN⟩, fun U hU hW => ⟨rfl, by rw [hU], by rw [hU]; exact hP, va_K.moved hW.alike hK, hD.weaken (fun _ _ _ _ => trivial), eC hS hF hU hW hN⟩⟩ rfl hn hsize rfl (lv_room hW) hdg hcs) hS (fun q _ h => hF q h) hF (fun r u t H1 locs ht hvm hw hB hz1 hk1 hS => ?_)
  obtain rfl : q = r := Eq.symm hw
  obtain ⟨hP1, -, hD1⟩ := hB
  rw [ht] at hP1
  exact kk u H1 locs hP1 hD1 hk1 hS
set_option maxHeartbeats 40000000 in
set_option maxRecDepth 100000 in
theorem nd_gSv {p : Program} {l : Launch} {e : Env} {R : Room} {s : State} {m : MethodId} {args : Array Value} {below : List Frame} {meth : Method} {c : Code} {H : Heap} {locs : List Loc} {cells slots : Nat} {Q : State → Prop} {A : Nat → Prop} {D : va_G} {cc : ByteArray} {nL : Nat} {own : String} {Ts ows : List Cond} {index : Nat} {y : MethodName} {bytes : ByteArray} {maxL : Nat} {ret : Option FieldType} {rm : Room} {n mc ms : Nat} {S : Type} {w : va_W} {w' : S → va_W} {tys : List (ClassId × FieldType)} {As rest : List Value} {pc : Nat} {ls : Array Slot} {st : List Value} {E : (Nat → Prop) → State → Prop} (eS : ∀ {B : Nat → Prop} {u U : State}, u.vm = U.vm → u.heap = U.heap → E B u → E B U) (eC : ∀ {A B : Nat → Prop} {s U : State} {H : Heap} {locs : List Loc}, va_S A s.heap H locs → (∀ q, B q → A q) → U.heap = H → s.WarmedH U.vm → E A s → E B U) (Sx : CallFix p m c cc nL s args Ts own)
    (hM : ∀ sz : Nat, Met l y ows rm (va_Pc As (fun U => U.heap.size = sz ∧ va_P D vwCl w U.heap ∧ va_K D vwCl tys U ∧ va_D (fun _ => True) w ∧ E (va_A w sz) U)) (va_Qv (fun (_ : S) => True) (fun u t => va_P D vwCl (w' u) t.heap ∧ va_K D vwCl tys t ∧ va_D (va_A w sz) (w' u)) (va_A w sz)) mc ms (va_A w sz))
    (cw : CallB R s args own index y bytes maxL ret ows rm mc ms n ∧ (Cond.static y).before args s = true) (hP : va_P D vwCl w H) (hD : va_D A w) (hK : va_K D vwCl tys s) (hS : va_S A s.heap H locs) (hA : ∀ q : Nat, s.heap.size ≤ q → A q) (hN : E A s) (hn : As.length = n) (hsize : ls.size = nL) (hst : st = As.reverse ++ rest) (hW : (rest.map fun v => v.category).sum ≤ 8) (hdg : decode cc pc = .ok (.invokestatic index, 3)) (hcs : cells + mc ≤ R.cells ∧ slots + ms ≤ R.slots)
    (kk : ∀ (u : S) (H1 : Heap) (locs1 : List Loc), va_P D vwCl (w' u) H1 → va_D (va_A w H.size) (w' u) → (∀ q : Nat, q < H.size → ¬ va_A w H.size q → H1[q]? = H[q]?) → va_S A s.heap H1 locs1 → W p l e R s m args below meth c H1 locs1 (cells + mc) (slots + ms) Q (F0 m (pc + 3) ls (rest))) : W p l e R s m args below meth c H locs cells slots Q (F0 m pc ls st) := by
  have hF := nd_rs hD hS hA
  subst hst
  refine va_callv (va_runS (As := As) (rest := rest) Sx (hM H.size) cw ⟨fun a U g mk q => by obtain ⟨q0, q1, qP, qK, qD, qN⟩ := q; exact ⟨q0, q1, qP, va_K.moved (u := U) (U := U.calling g mk a) (Vm.Alike.refl U.vm) qK, qD, eS (u := U) (U := U.calling g mk a) rfl rfl qN⟩, fun U hU hW => ⟨rfl, by rw [hU], by rw [hU]; exact hP, va_K.moved hW.alike hK, hD.weaken (fun _ _ _ _ => trivial), eC hS hF hU hW hN⟩⟩ rfl hn hsize rfl (lv_room hW) hdg hcs) hS (fun q _ h => hF q h) hF (fun u t H1 locs ht hvm hw hB hz1 hk1 hS => ?_)
  obtain ⟨hP1, -, hD1⟩ := hB
  rw [ht] at hP1
  exact kk u H1 locs hP1 hD1 hk1 hS
set_option maxHeartbeats 40000000 in
set_option maxRecDepth 100000 in
theorem nd_gWi {p : Program} {l : Launch} {e : Env} {R : Room} {s : State} {m : MethodId} {args : Array Value} {below : List Frame} {meth : Method} {c : Code} {H : Heap} {locs : List Loc} {cells slots : Nat} {Q : State → Prop} {A : Nat → Prop} {D : va_G} {cc : ByteArray} {nL : Nat} {own C : String} {Ts ows : List Cond} {index : Nat} {y : MethodName} {bytes : ByteArray} {maxL : Nat} {ret : Option FieldType} {rm : Room} {n mc ms : Nat} {S : Type} {w : va_W} {w' : S → va_W} {tys : List (ClassId × FieldType)} {b : Nat} {cC : ClassId} {As rest : List Value} {q : Int32} {pc : Nat} {ls : Array Slot} {st : List Value} {E : (Nat → Prop) → State → Prop} (eS : ∀ {B : Nat → Prop} {u U : State}, u.vm = U.vm → u.heap = U.heap → E B u → E B U) (eC : ∀ {A B : Nat → Prop} {s U : State} {H : Heap} {locs : List Loc}, va_S A s.heap H locs → (∀ q, B q → A q) → U.heap = H → s.WarmedH U.vm → E A s → E B U) (hat : ClassAt s C cC) (Sx : CallFix p m c cc nL s args Ts own)
    (hM : ∀ sz : Nat, Met l y ows rm (va_Pc (.ref b :: As) (fun U => U.heap.size = sz ∧ va_P D vwCl w U.heap ∧ va_K D vwCl tys U ∧ va_D (fun _ => True) w ∧ E (va_A w sz) U)) (va_Qi (fun x (_ : S) => x = q) (fun u t => va_P D vwCl (w' u) t.heap ∧ va_K D vwCl tys t ∧ va_D (va_A w sz) (w' u)) (va_A w sz)) mc ms (va_A w sz))
    (cw : va_CS R s args own index y bytes maxL ret ows rm mc ms n) (hP : va_P D vwCl w H) (hD : va_D A w) (hK : va_K D vwCl tys s) (hS : va_S A s.heap H locs) (hA : ∀ q : Nat, s.heap.size ≤ q → A q) (hN : E A s) (hv : ∃ cell : Cell, H[b]? = some cell ∧ cell.vm.isStatics = false ∧ s.vm.findClass C = some cell.cls) (hn : As.length = n) (hsize : ls.size = nL) (hst : st = As.reverse ++ .ref b :: rest) (hW : (rest.map fun v => v.category).sum ≤ 8) (hdg : decode cc pc = .ok (.invokespecial index, 3)) (hcs : cells + mc ≤ R.cells ∧ slots + ms ≤ R.slots)
    (kk : ∀ (u : S) (H1 : Heap) (locs1 : List Loc), va_P D vwCl (w' u) H1 → va_D (va_A w H.size) (w' u) → (∀ q : Nat, q < H.size → ¬ va_A w H.size q → H1[q]? = H[q]?) → va_S A s.heap H1 locs1 → W p l e R s m args below meth c H1 locs1 (cells + mc) (slots + ms) Q (F0 m (pc + 3) ls (.int q :: rest))) : W p l e R s m args below meth c H locs cells slots Q (F0 m pc ls st) := by
  have hF := nd_rs hD hS hA
  subst hst
  refine va_calli (va_runSU (C := C) hat (As := As) (rest := rest) Sx (hM H.size) cw ⟨fun a U g mk q => by obtain ⟨q0, q1, qP, qK, qD, qN⟩ := q; exact ⟨q0, q1, qP, va_K.moved (u := U) (U := U.calling g mk a) (Vm.Alike.refl U.vm) qK, qD, eS (u := U) (U := U.calling g mk a) rfl rfl qN⟩, hv, fun U hU hW => ⟨rfl, by rw [hU], by rw [hU]; exact hP, va_K.moved hW.alike hK, hD.weaken (fun _ _ _ _ => trivial), eC hS hF hU hW hN⟩⟩ rfl hn hsize rfl (lv_room hW) hdg hcs) hS (fun q _ h => hF q h) hF (fun r u t H1 locs ht hvm hw hB hz1 hk1 hS => ?_)
  obtain rfl : q = r := Eq.symm hw
  obtain ⟨hP1, -, hD1⟩ := hB
  rw [ht] at hP1
  exact kk u H1 locs hP1 hD1 hk1 hS
set_option maxHeartbeats 40000000 in
set_option maxRecDepth 100000 in
theorem nd_gWv {p : Program} {l : Launch} {e : Env} {R : Room} {s : State} {m : MethodId} {args : Array Value} {below : List Frame} {meth : Method} {c : Code} {H : Heap} {locs : List Loc} {cells slots : Nat} {Q : State → Prop} {A : Nat → Prop} {D : va_G} {cc : ByteArray} {nL : Nat} {own C : String} {Ts ows : List Cond} {index : Nat} {y : MethodName} {bytes : ByteArray} {maxL : Nat} {ret : Option FieldType} {rm : Room} {n mc ms : Nat} {S : Type} {w : va_W} {w' : S → va_W} {tys : List (ClassId × FieldType)} {b : Nat} {cC : ClassId} {As rest : List Value} {pc : Nat} {ls : Array Slot} {st : List Value} {E : (Nat → Prop) → State → Prop} (eS : ∀ {B : Nat → Prop} {u U : State}, u.vm = U.vm → u.heap = U.heap → E B u → E B U) (eC : ∀ {A B : Nat → Prop} {s U : State} {H : Heap} {locs : List Loc}, va_S A s.heap H locs → (∀ q, B q → A q) → U.heap = H → s.WarmedH U.vm → E A s → E B U) (hat : ClassAt s C cC) (Sx : CallFix p m c cc nL s args Ts own)
    (hM : ∀ sz : Nat, Met l y ows rm (va_Pc (.ref b :: As) (fun U => U.heap.size = sz ∧ va_P D vwCl w U.heap ∧ va_K D vwCl tys U ∧ va_D (fun _ => True) w ∧ E (va_A w sz) U)) (va_Qv (fun (_ : S) => True) (fun u t => va_P D vwCl (w' u) t.heap ∧ va_K D vwCl tys t ∧ va_D (va_A w sz) (w' u)) (va_A w sz)) mc ms (va_A w sz))
    (cw : va_CS R s args own index y bytes maxL ret ows rm mc ms n) (hP : va_P D vwCl w H) (hD : va_D A w) (hK : va_K D vwCl tys s) (hS : va_S A s.heap H locs) (hA : ∀ q : Nat, s.heap.size ≤ q → A q) (hN : E A s) (hv : ∃ cell : Cell, H[b]? = some cell ∧ cell.vm.isStatics = false ∧ s.vm.findClass C = some cell.cls) (hn : As.length = n) (hsize : ls.size = nL) (hst : st = As.reverse ++ .ref b :: rest) (hW : (rest.map fun v => v.category).sum ≤ 8) (hdg : decode cc pc = .ok (.invokespecial index, 3)) (hcs : cells + mc ≤ R.cells ∧ slots + ms ≤ R.slots)
    (kk : ∀ (u : S) (H1 : Heap) (locs1 : List Loc), va_P D vwCl (w' u) H1 → va_D (va_A w H.size) (w' u) → (∀ q : Nat, q < H.size → ¬ va_A w H.size q → H1[q]? = H[q]?) → va_S A s.heap H1 locs1 → W p l e R s m args below meth c H1 locs1 (cells + mc) (slots + ms) Q (F0 m (pc + 3) ls (rest))) : W p l e R s m args below meth c H locs cells slots Q (F0 m pc ls st) := by
  have hF := nd_rs hD hS hA
  subst hst
  refine va_callv (va_runSU (C := C) hat (As := As) (rest := rest) Sx (hM H.size) cw ⟨fun a U g mk q => by obtain ⟨q0, q1, qP, qK, qD, qN⟩ := q; exact ⟨q0, q1, qP, va_K.moved (u := U) (U := U.calling g mk a) (Vm.Alike.refl U.vm) qK, qD, eS (u := U) (U := U.calling g mk a) rfl rfl qN⟩, hv, fun U hU hW => ⟨rfl, by rw [hU], by rw [hU]; exact hP, va_K.moved hW.alike hK, hD.weaken (fun _ _ _ _ => trivial), eC hS hF hU hW hN⟩⟩ rfl hn hsize rfl (lv_room hW) hdg hcs) hS (fun q _ h => hF q h) hF (fun u t H1 locs ht hvm hw hB hz1 hk1 hS => ?_)
  obtain ⟨hP1, -, hD1⟩ := hB
  rw [ht] at hP1
  exact kk u H1 locs hP1 hD1 hk1 hS
set_option maxHeartbeats 40000000 in
set_option maxRecDepth 100000 in
theorem nd_gWr {p : Program} {l : Launch} {e : Env} {R : Room} {s : State} {m : MethodId} {args : Array Value} {below : List Frame} {meth : Method} {c : Code} {H : Heap} {locs : List Loc} {cells slots : Nat} {Q : State → Prop} {A : Nat → Prop} {D : va_G} {cc : ByteArray} {nL : Nat} {own C : String} {Ts ows : List Cond} {index : Nat} {y : MethodName} {bytes : ByteArray} {maxL : Nat} {ret : Option FieldType} {rm : Room} {n mc ms : Nat} {S : Type} {w : va_W} {w' : S → va_W} {tys : List (ClassId × FieldType)} {b : Nat} {cC : ClassId} {As rest : List Value} {pc : Nat} {ls : Array Slot} {st : List Value} {E : (Nat → Prop) → State → Prop} (eS : ∀ {B : Nat → Prop} {u U : State}, u.vm = U.vm → u.heap = U.heap → E B u → E B U) (eC : ∀ {A B : Nat → Prop} {s U : State} {H : Heap} {locs : List Loc}, va_S A s.heap H locs → (∀ q, B q → A q) → U.heap = H → s.WarmedH U.vm → E A s → E B U) (hat : ClassAt s C cC) (Sx : CallFix p m c cc nL s args Ts own)
    (hM : ∀ sz : Nat, Met l y ows rm (va_Pc (.ref b :: As) (fun U => U.heap.size = sz ∧ va_P D vwCl w U.heap ∧ va_K D vwCl tys U ∧ va_D (fun _ => True) w ∧ E (va_A w sz) U)) (va_Qr (fun (_ : S) => True) (fun u _ t => va_P D vwCl (w' u) t.heap ∧ va_K D vwCl tys t ∧ va_D (va_A w sz) (w' u)) (va_A w sz)) mc ms (va_A w sz))
    (cw : va_CS R s args own index y bytes maxL ret ows rm mc ms n) (hP : va_P D vwCl w H) (hD : va_D A w) (hK : va_K D vwCl tys s) (hS : va_S A s.heap H locs) (hA : ∀ q : Nat, s.heap.size ≤ q → A q) (hN : E A s) (hv : ∃ cell : Cell, H[b]? = some cell ∧ cell.vm.isStatics = false ∧ s.vm.findClass C = some cell.cls) (hn : As.length = n) (hsize : ls.size = nL) (hst : st = As.reverse ++ .ref b :: rest) (hW : (rest.map fun v => v.category).sum ≤ 8) (hdg : decode cc pc = .ok (.invokespecial index, 3)) (hcs : cells + mc ≤ R.cells ∧ slots + ms ≤ R.slots)
    (kk : ∀ (u : S) (ra : Nat) (H1 : Heap) (locs1 : List Loc), va_P D vwCl (w' u) H1 → va_D (va_A w H.size) (w' u) → (∀ q : Nat, q < H.size → ¬ va_A w H.size q → H1[q]? = H[q]?) → va_S A s.heap H1 locs1 → W p l e R s m args below meth c H1 locs1 (cells + mc) (slots + ms) Q (F0 m (pc + 3) ls (.ref ra :: rest))) : W p l e R s m args below meth c H locs cells slots Q (F0 m pc ls st) := by
  have hF := nd_rs hD hS hA
  subst hst
  refine va_callr (va_runSU (C := C) hat (As := As) (rest := rest) Sx (hM H.size) cw ⟨fun a U g mk q => by obtain ⟨q0, q1, qP, qK, qD, qN⟩ := q; exact ⟨q0, q1, qP, va_K.moved (u := U) (U := U.calling g mk a) (Vm.Alike.refl U.vm) qK, qD, eS (u := U) (U := U.calling g mk a) rfl rfl qN⟩, hv, fun U hU hW => ⟨rfl, by rw [hU], by rw [hU]; exact hP, va_K.moved hW.alike hK, hD.weaken (fun _ _ _ _ => trivial), eC hS hF hU hW hN⟩⟩ rfl hn hsize rfl (lv_room hW) hdg hcs) hS (fun q _ h => hF q h) hF (fun u ra t H1 locs ht hvm hw hB hz1 hk1 hS => ?_)
  obtain ⟨hP1, -, hD1⟩ := hB
  rw [ht] at hP1
  exact kk u ra H1 locs hP1 hD1 hk1 hS
set_option maxHeartbeats 40000000 in
set_option maxRecDepth 100000 in
theorem nd_hSr {p : Program} {l : Launch} {e : Env} {R : Room} {s : State} {m : MethodId} {args : Array Value} {below : List Frame} {meth : Method} {c : Code} {H : Heap} {locs : List Loc} {cells slots : Nat} {Q : State → Prop} {A : Nat → Prop} {D : va_G} {cc : ByteArray} {nL : Nat} {own : String} {Ts ows : List Cond} {index : Nat} {y : MethodName} {bytes : ByteArray} {maxL : Nat} {ret : Option FieldType} {rm : Room} {n mc ms : Nat} {w : va_W} {w' : Nat → va_W} {tys : List (ClassId × FieldType)} {As rest : List Value} {pc : Nat} {ls : Array Slot} {st : List Value} {E : (Nat → Prop) → State → Prop} (eS : ∀ {B : Nat → Prop} {u U : State}, u.vm = U.vm → u.heap = U.heap → E B u → E B U) (eC : ∀ {A B : Nat → Prop} {s U : State} {H : Heap} {locs : List Loc}, va_S A s.heap H locs → (∀ q, B q → A q) → U.heap = H → s.WarmedH U.vm → E A s → E B U) (Sx : CallFix p m c cc nL s args Ts own)
    (hM : ∀ sz : Nat, Met l y ows rm (va_Pc As (fun U => U.heap.size = sz ∧ va_P D vwCl w U.heap ∧ va_K D vwCl tys U ∧ va_D (fun _ => True) w ∧ E (va_A w sz) U)) (va_Qr (fun (_ : Unit) => True) (fun _ na t => va_P D vwCl (w' na) t.heap ∧ va_K D vwCl tys t ∧ va_D (va_A w sz) (w' na)) (va_A w sz)) mc ms (va_A w sz))
    (cw : CallB R s args own index y bytes maxL ret ows rm mc ms n ∧ (Cond.static y).before args s = true) (hP : va_P D vwCl w H) (hD : va_D A w) (hK : va_K D vwCl tys s) (hS : va_S A s.heap H locs) (hA : ∀ q : Nat, s.heap.size ≤ q → A q) (hN : E A s) (hn : As.length = n) (hsize : ls.size = nL) (hst : st = As.reverse ++ rest) (hW : (rest.map fun v => v.category).sum ≤ 8) (hdg : decode cc pc = .ok (.invokestatic index, 3)) (hcs : cells + mc ≤ R.cells ∧ slots + ms ≤ R.slots)
    (kk : ∀ (ra : Nat) (H1 : Heap) (locs1 : List Loc), va_P D vwCl (w' ra) H1 → va_D (va_A w H.size) (w' ra) → (∀ q : Nat, q < H.size → ¬ va_A w H.size q → H1[q]? = H[q]?) → va_S A s.heap H1 locs1 → W p l e R s m args below meth c H1 locs1 (cells + mc) (slots + ms) Q (F0 m (pc + 3) ls (.ref ra :: rest))) : W p l e R s m args below meth c H locs cells slots Q (F0 m pc ls st) := by
  have hF := nd_rs hD hS hA
  subst hst
  refine va_callr (va_runS (As := As) (rest := rest) Sx (hM H.size) cw ⟨fun a U g mk q => by obtain ⟨q0, q1, qP, qK, qD, qN⟩ := q; exact ⟨q0, q1, qP, va_K.moved (u := U) (U := U.calling g mk a) (Vm.Alike.refl U.vm) qK, qD, eS (u := U) (U := U.calling g mk a) rfl rfl qN⟩, fun U hU hW => ⟨rfl, by rw [hU], by rw [hU]; exact hP, va_K.moved hW.alike hK, hD.weaken (fun _ _ _ _ => trivial), eC hS hF hU hW hN⟩⟩ rfl hn hsize rfl (lv_room hW) hdg hcs) hS (fun q _ h => hF q h) hF (fun u ra t H1 locs ht hvm hw hB hz1 hk1 hS => ?_)
  obtain ⟨hP1, -, hD1⟩ := hB
  rw [ht] at hP1
  exact kk ra H1 locs hP1 hD1 hk1 hS
def ow_dm_J5_isLatin1_aae02 : List Cond := Cond.code yJ5_isLatin1_aae02 cJ5_isLatin1_aae02 1 (some .boolean) :: ([Cond.fieldLink RJ5 18 "java/lang/String" "COMPACT_STRINGS" "Z", Cond.fieldLink RJ5 22 "java/lang/AbstractStringBuilder" "coder" "B"] ++ (u_ws RJ4 TJ4 4 ++ []))
theorem gd_dm_J5_isLatin1_aae02 : ∀ w ∈ ow_dm_J5_isLatin1_aae02, (w.onTables && w.keeps) = true ∨ ∃ ty, w = Cond.arrayClass ty := List.forall_mem_cons.mpr ⟨good_of_word rfl, List.forall_mem_append.mpr ⟨fun w h => good_of_word (List.all_eq_true.mp (by decide +kernel) w h), List.forall_mem_append.mpr ⟨gu_J4, fun _ h => nomatch h⟩⟩⟩
theorem hi_dm_J5_isLatin1_aae02_J4 : ∀ w ∈ u_ws RJ4 TJ4 4, w ∈ ow_dm_J5_isLatin1_aae02 := fun w h => List.mem_cons_of_mem _ (List.mem_append_right _ (List.mem_append_left _ h))
def dj_J5_isLatin1_aae02_18 (p : Program) (l : Launch) (e : Env) (s : State) (m : MethodId) (args : Array Value) (below : List Frame) (meth : Method) (c : Code) (Q : State → Prop) (A : Nat → Prop) (dC : Nat → ClassId) (dI : Nat → Nat → Nat) (a : Nat → Nat) (ac : Nat → ClassId) (g : Int32 → (St) → Option (Int32 × (St))) (r : Int32 × (St)) : Prop := ∀ (y0 : Int32) (s0 : St) (H : Heap) (locs : List Loc) (ls : Array Slot), g y0 s0 = some r → va_P (dC, dI) vwCl (dw_J4 a ac s0) H → va_D A (dw_J4 a ac s0) → va_S A s.heap H locs → lv_has ls 1 [] → W p l e (headSpec ow_dm_J5_isLatin1_aae02 ({ frames := 0, cells := 0, slots := 0, locals := 0 })).room s m args below meth c H locs 0 0 Q (F0 m 18 ls [.int y0])
def dj_J5_isLatin1_aae02_17 (p : Program) (l : Launch) (e : Env) (s : State) (m : MethodId) (args : Array Value) (below : List Frame) (meth : Method) (c : Code) (Q : State → Prop) (A : Nat → Prop) (dC : Nat → ClassId) (dI : Nat → Nat → Nat) (a : Nat → Nat) (ac : Nat → ClassId) (g : (St) → Option (Int32 × (St))) (r : Int32 × (St)) : Prop := ∀ (s0 : St) (H : Heap) (locs : List Loc) (ls : Array Slot), g s0 = some r → va_P (dC, dI) vwCl (dw_J4 a ac s0) H → va_D A (dw_J4 a ac s0) → va_S A s.heap H locs → lv_has ls 1 [] → W p l e (headSpec ow_dm_J5_isLatin1_aae02 ({ frames := 0, cells := 0, slots := 0, locals := 0 })).room s m args below meth c H locs 0 0 Q (F0 m 17 ls [])
def dj_J5_isLatin1_aae02_0 (p : Program) (l : Launch) (e : Env) (s : State) (m : MethodId) (args : Array Value) (below : List Frame) (meth : Method) (c : Code) (Q : State → Prop) (A : Nat → Prop) (dC : Nat → ClassId) (dI : Nat → Nat → Nat) (a : Nat → Nat) (ac : Nat → ClassId) (g : (St) → Option (Int32 × (St))) (r : Int32 × (St)) : Prop := ∀ (s0 : St) (H : Heap) (locs : List Loc) (ls : Array Slot), g s0 = some r → va_P (dC, dI) vwCl (dw_J4 a ac s0) H → va_D A (dw_J4 a ac s0) → va_S A s.heap H locs → lv_has ls 1 [(0, .ref (a 0))] → W p l e (headSpec ow_dm_J5_isLatin1_aae02 ({ frames := 0, cells := 0, slots := 0, locals := 0 })).room s m args below meth c H locs 0 0 Q (F0 m 0 ls [])
set_option maxHeartbeats 40000000 in
set_option maxRecDepth 100000 in
theorem db_J5_isLatin1_aae02_18 {p : Program} {l : Launch} {e : Env} {s : State} {m : MethodId} {args : Array Value} {below : List Frame} {meth : Method} {c : Code} {Q : State → Prop} {A : Nat → Prop} {dC : Nat → ClassId} {dI : Nat → Nat → Nat} {a : Nat → Nat} {ac : Nat → ClassId} {n : Nat} {r : Int32 × (St)} (C : nd_C p l s m args c A (dC, dI) cJ5_isLatin1_aae02 1 RJ5 ow_dm_J5_isLatin1_aae02 (dk_J4 ac)) (K : nd_Ki p l e (headSpec ow_dm_J5_isLatin1_aae02 ({ frames := 0, cells := 0, slots := 0, locals := 0 })).room s m args below meth c Q A (dC, dI) cJ5_isLatin1_aae02 .boolean (St) (dw_J4 a ac) r) : dj_J5_isLatin1_aae02_18 p l e s m args below meth c Q A dC dI a ac (df_J5_isLatin1_aae02_18 n (a 2)) r := by
  obtain ⟨hlt, hx, hb, hml, hown, hts, hN, hA, hK⟩ := id C
  intro y0 s0 H locs ls h hP hD hS hl
  unfold df_J5_isLatin1_aae02_18 at h
  obtain ⟨n2, h⟩ := nd_z_e ⟨_, rfl⟩ h
  exact K _ _ _ _ _ _ dJ5_isLatin1_aae02_18 n2 (Option.some.inj h).symm hP hD hS
set_option maxHeartbeats 40000000 in
set_option maxRecDepth 100000 in
theorem db_J5_isLatin1_aae02_17 {p : Program} {l : Launch} {e : Env} {s : State} {m : MethodId} {args : Array Value} {below : List Frame} {meth : Method} {c : Code} {Q : State → Prop} {A : Nat → Prop} {dC : Nat → ClassId} {dI : Nat → Nat → Nat} {a : Nat → Nat} {ac : Nat → ClassId} {n : Nat} {r : Int32 × (St)} (C : nd_C p l s m args c A (dC, dI) cJ5_isLatin1_aae02 1 RJ5 ow_dm_J5_isLatin1_aae02 (dk_J4 ac)) (K : nd_Ki p l e (headSpec ow_dm_J5_isLatin1_aae02 ({ frames := 0, cells := 0, slots := 0, locals := 0 })).room s m args below meth c Q A (dC, dI) cJ5_isLatin1_aae02 .boolean (St) (dw_J4 a ac) r) : dj_J5_isLatin1_aae02_17 p l e s m args below meth c Q A dC dI a ac (df_J5_isLatin1_aae02_17 n (a 2)) r := by
  obtain ⟨hlt, hx, hb, hml, hown, hts, hN, hA, hK⟩ := id C
  intro s0 H locs ls h hP hD hS hl
  unfold df_J5_isLatin1_aae02_17 at h
  refine lv_iconst (v := 0) hx hb dJ5_isLatin1_aae02_17 (by decide) ?_
  exact (db_J5_isLatin1_aae02_18 C K) (0) s0 _ _ _ h hP hD hS (lv_sub hl [] rfl)
set_option maxHeartbeats 40000000 in
set_option maxRecDepth 100000 in
theorem db_J5_isLatin1_aae02_0 {p : Program} {l : Launch} {e : Env} {s : State} {m : MethodId} {args : Array Value} {below : List Frame} {meth : Method} {c : Code} {Q : State → Prop} {A : Nat → Prop} {dC : Nat → ClassId} {dI : Nat → Nat → Nat} {a : Nat → Nat} {ac : Nat → ClassId} {n : Nat} {r : Int32 × (St)} (C : nd_C p l s m args c A (dC, dI) cJ5_isLatin1_aae02 1 RJ5 ow_dm_J5_isLatin1_aae02 (dk_J4 ac)) (K : nd_Ki p l e (headSpec ow_dm_J5_isLatin1_aae02 ({ frames := 0, cells := 0, slots := 0, locals := 0 })).room s m args below meth c Q A (dC, dI) cJ5_isLatin1_aae02 .boolean (St) (dw_J4 a ac) r) : dj_J5_isLatin1_aae02_0 p l e s m args below meth c Q A dC dI a ac (df_J5_isLatin1_aae02_0 n (a 2)) r := by
  obtain ⟨hlt, hx, hb, hml, hown, hts, hN, hA, hK⟩ := id C
  intro s0 H locs ls h hP hD hS hl
  unfold df_J5_isLatin1_aae02_0 at h
  refine va_gets (v := .int 1) hx hb hN.2.2.2.2.1 hS hown (hts (.fieldLink RJ5 18 "java/lang/String" "COMPACT_STRINGS" "Z") (List.mem_of_getElem? (i := 1) rfl)) (fun _ h9 => h9) dJ5_isLatin1_aae02_0 ?_
  refine lv_if_eq (tgt := 17) hx hb dJ5_isLatin1_aae02_3 (by decide) (fun h9 => absurd h9 (by decide)) (fun _ => ?_)
  refine lv_aload_n hx hb dJ5_isLatin1_aae02_6 rfl (lv_at hl 0 rfl) ?_
  refine va_get (D := (dC, dI)) (ci := 1) (v := .int (sI s0 0)) (C := RJ4) (T := TJ4) (N := 4) hx hb hts hi_dm_J5_isLatin1_aae02_J4 hown hK hP 0 rfl rfl 1 (by decide) (hts (.fieldLink RJ5 22 "java/lang/AbstractStringBuilder" "coder" "B") (List.mem_of_getElem? (i := 2) rfl)) (fun _ h9 => h9) rfl dJ5_isLatin1_aae02_7 ?_
  refine lv_if_ne (tgt := 17) hx hb dJ5_isLatin1_aae02_10 (by decide) (fun c1 => ?_) (fun c1 => ?_)
  · have h := nd_neg h c1
    exact (db_J5_isLatin1_aae02_17 C K)  s0 _ _ _ h hP hD hS (lv_sub hl [] rfl)
  · have h := nd_pos h c1
    refine lv_iconst (v := 1) hx hb dJ5_isLatin1_aae02_13 (by decide) ?_
    refine lv_goto (tgt := 18) hx hb dJ5_isLatin1_aae02_14 (by decide) ?_
    exact (db_J5_isLatin1_aae02_18 C K) (1) s0 _ _ _ h hP hD hS (lv_sub hl [] rfl)
set_option maxHeartbeats 40000000 in
set_option maxRecDepth 100000 in
theorem dm_J5_isLatin1_aae02 (l : Launch) (hlt : l.stackTraces = false) (dC : Nat → ClassId) (dI : Nat → Nat → Nat) (a : Nat → Nat) (ac : Nat → ClassId) (n : Nat) (s0 : St) {r : Int32 × (St)} (h : df_J5_isLatin1_aae02 n (a 2) s0 = some r) (sz : Nat) : Met l yJ5_isLatin1_aae02 ow_dm_J5_isLatin1_aae02 ({ frames := 0, cells := 0, slots := 0, locals := 0 }) (va_Pc [.ref (a 0)] (fun U => U.heap.size = sz ∧ va_P (dC, dI) vwCl (dw_J4 a ac s0) U.heap ∧ va_K (dC, dI) vwCl (dk_J4 ac) U ∧ va_D (fun _ => True) (dw_J4 a ac s0) ∧ nv_E dI (va_A (dw_J4 a ac s0) sz) U)) (va_Qi (fun x _ => x = r.1) (fun (_ : Unit) t => va_P (dC, dI) vwCl (dw_J4 a ac r.2) t.heap ∧ va_K (dC, dI) vwCl (dk_J4 ac) t ∧ va_D (va_A (dw_J4 a ac s0) sz) (dw_J4 a ac r.2)) (va_A (dw_J4 a ac s0) sz)) 0 0 (va_A (dw_J4 a ac s0) sz) := by
  refine Met.ofW (cc := cJ5_isLatin1_aae02) (maxL := 1) (ret := (some .boolean)) (by decide) rfl ?_
  intro p e s m args below meth c s₁ B hml hv
  obtain ⟨rfl, hsz, hP, hK, hD0, hN⟩ := hv
  have hx := B.exec
  have hb := B.bytes
  have hr := B.returns
  have hts := atoms_spec (ws := ow_dm_J5_isLatin1_aae02) B.pre
  have hown : s.vm.findClass RJ5 = some m.cls := findClass_of_methodNamed B.named
  have hlocks := B.notSynchronized
  subst hsz
  have hD := hD0.self (sz := s.heap.size)
  generalize hAe : va_A (dw_J4 a ac s0) s.heap.size = A at hD hN ⊢
  have hA : ∀ q : Nat, s.heap.size ≤ q → A q := fun q h => by rw [← hAe]; exact Or.inr h
  have hl := lv_entry ([.ref (a 0)]) (n := 1) (Nat.le_of_ble_eq_true rfl)
  rw [lg_entry_eq]
  generalize (lg_sl ([.ref (a 0)]) ++ List.replicate (1 - (lg_sl ([.ref (a 0)])).length) Slot.unset).toArray = ls at hl ⊢
  have hl : lv_has ls 1 [(0, .ref (a 0))] := hl
  exact db_J5_isLatin1_aae02_0 (dC := dC) (dI := dI) (a := a) (ac := ac) (n := n) (r := r) ⟨hlt, hx, hb, hml, hown, hts, hN, hA, hK⟩ (fun pc v τ H locs ls d z er hP hD hS => by subst er; exact W.zret (v := v) hx hb hr z (fun t ht hW => ⟨⟨v, (), rfl, rfl, by rw [ht]; exact hP, va_K.moved hW.alike hK, hD⟩, hS.F ht⟩) hS.2.2 d) s0 _ _ _ h hP hD va_S.rf (lv_sub hl [0] rfl)
def ow_dm_J5_length_8abf5 : List Cond := Cond.code yJ5_length_8abf5 cJ5_length_8abf5 1 (some .int) :: ([Cond.fieldLink RJ5 79 "java/lang/AbstractStringBuilder" "count" "I"] ++ (u_ws RJ4 TJ4 4 ++ []))
theorem gd_dm_J5_length_8abf5 : ∀ w ∈ ow_dm_J5_length_8abf5, (w.onTables && w.keeps) = true ∨ ∃ ty, w = Cond.arrayClass ty := List.forall_mem_cons.mpr ⟨good_of_word rfl, List.forall_mem_append.mpr ⟨fun w h => good_of_word (List.all_eq_true.mp (by decide +kernel) w h), List.forall_mem_append.mpr ⟨gu_J4, fun _ h => nomatch h⟩⟩⟩
theorem hi_dm_J5_length_8abf5_J4 : ∀ w ∈ u_ws RJ4 TJ4 4, w ∈ ow_dm_J5_length_8abf5 := fun w h => List.mem_cons_of_mem _ (List.mem_append_right _ (List.mem_append_left _ h))
def dj_J5_length_8abf5_0 (p : Program) (l : Launch) (e : Env) (s : State) (m : MethodId) (args : Array Value) (below : List Frame) (meth : Method) (c : Code) (Q : State → Prop) (A : Nat → Prop) (dC : Nat → ClassId) (dI : Nat → Nat → Nat) (a : Nat → Nat) (ac : Nat → ClassId) (g : (St) → Option (Int32 × (St))) (r : Int32 × (St)) : Prop := ∀ (s0 : St) (H : Heap) (locs : List Loc) (ls : Array Slot), g s0 = some r → va_P (dC, dI) vwCl (dw_J4 a ac s0) H → va_D A (dw_J4 a ac s0) → va_S A s.heap H locs → lv_has ls 1 [(0, .ref (a 0))] → W p l e (headSpec ow_dm_J5_length_8abf5 ({ frames := 0, cells := 0, slots := 0, locals := 0 })).room s m args below meth c H locs 0 0 Q (F0 m 0 ls [])
set_option maxHeartbeats 40000000 in
set_option maxRecDepth 100000 in
theorem db_J5_length_8abf5_0 {p : Program} {l : Launch} {e : Env} {s : State} {m : MethodId} {args : Array Value} {below : List Frame} {meth : Method} {c : Code} {Q : State → Prop} {A : Nat → Prop} {dC : Nat → ClassId} {dI : Nat → Nat → Nat} {a : Nat → Nat} {ac : Nat → ClassId} {n : Nat} {r : Int32 × (St)} (C : nd_C p l s m args c A (dC, dI) cJ5_length_8abf5 1 RJ5 ow_dm_J5_length_8abf5 (dk_J4 ac)) (K : nd_Ki p l e (headSpec ow_dm_J5_length_8abf5 ({ frames := 0, cells := 0, slots := 0, locals := 0 })).room s m args below meth c Q A (dC, dI) cJ5_length_8abf5 .int (St) (dw_J4 a ac) r) : dj_J5_length_8abf5_0 p l e s m args below meth c Q A dC dI a ac (df_J5_length_8abf5_0 n (a 2)) r := by
  obtain ⟨hlt, hx, hb, hml, hown, hts, hN, hA, hK⟩ := id C
  intro s0 H locs ls h hP hD hS hl
  unfold df_J5_length_8abf5_0 at h
  refine lv_aload_n hx hb dJ5_length_8abf5_0 rfl (lv_at hl 0 rfl) ?_
  refine va_get (D := (dC, dI)) (ci := 1) (v := .int (sI s0 2)) (C := RJ4) (T := TJ4) (N := 4) hx hb hts hi_dm_J5_length_8abf5_J4 hown hK hP 0 rfl rfl 3 (by decide) (hts (.fieldLink RJ5 79 "java/lang/AbstractStringBuilder" "count" "I") (List.mem_of_getElem? (i := 1) rfl)) (fun _ h9 => h9) rfl dJ5_length_8abf5_1 ?_
  exact K _ _ _ _ _ _ dJ5_length_8abf5_4 rfl (Option.some.inj h).symm hP hD hS
set_option maxHeartbeats 40000000 in
set_option maxRecDepth 100000 in
theorem dm_J5_length_8abf5 (l : Launch) (hlt : l.stackTraces = false) (dC : Nat → ClassId) (dI : Nat → Nat → Nat) (a : Nat → Nat) (ac : Nat → ClassId) (n : Nat) (s0 : St) {r : Int32 × (St)} (h : df_J5_length_8abf5 n (a 2) s0 = some r) (sz : Nat) : Met l yJ5_length_8abf5 ow_dm_J5_length_8abf5 ({ frames := 0, cells := 0, slots := 0, locals := 0 }) (va_Pc [.ref (a 0)] (fun U => U.heap.size = sz ∧ va_P (dC, dI) vwCl (dw_J4 a ac s0) U.heap ∧ va_K (dC, dI) vwCl (dk_J4 ac) U ∧ va_D (fun _ => True) (dw_J4 a ac s0) ∧ nv_E dI (va_A (dw_J4 a ac s0) sz) U)) (va_Qi (fun x _ => x = r.1) (fun (_ : Unit) t => va_P (dC, dI) vwCl (dw_J4 a ac r.2) t.heap ∧ va_K (dC, dI) vwCl (dk_J4 ac) t ∧ va_D (va_A (dw_J4 a ac s0) sz) (dw_J4 a ac r.2)) (va_A (dw_J4 a ac s0) sz)) 0 0 (va_A (dw_J4 a ac s0) sz) := by
  refine Met.ofW (cc := cJ5_length_8abf5) (maxL := 1) (ret := (some .int)) (by decide) rfl ?_
  intro p e s m args below meth c s₁ B hml hv
  obtain ⟨rfl, hsz, hP, hK, hD0, hN⟩ := hv
  have hx := B.exec
  have hb := B.bytes
  have hr := B.returns
  have hts := atoms_spec (ws := ow_dm_J5_length_8abf5) B.pre
  have hown : s.vm.findClass RJ5 = some m.cls := findClass_of_methodNamed B.named
  have hlocks := B.notSynchronized
  subst hsz
  have hD := hD0.self (sz := s.heap.size)
  generalize hAe : va_A (dw_J4 a ac s0) s.heap.size = A at hD hN ⊢
  have hA : ∀ q : Nat, s.heap.size ≤ q → A q := fun q h => by rw [← hAe]; exact Or.inr h
  have hl := lv_entry ([.ref (a 0)]) (n := 1) (Nat.le_of_ble_eq_true rfl)
  rw [lg_entry_eq]
  generalize (lg_sl ([.ref (a 0)]) ++ List.replicate (1 - (lg_sl ([.ref (a 0)])).length) Slot.unset).toArray = ls at hl ⊢
  have hl : lv_has ls 1 [(0, .ref (a 0))] := hl
  exact db_J5_length_8abf5_0 (dC := dC) (dI := dI) (a := a) (ac := ac) (n := n) (r := r) ⟨hlt, hx, hb, hml, hown, hts, hN, hA, hK⟩ (fun pc v τ H locs ls d z er hP hD hS => by subst er; exact W.zret (v := v) hx hb hr z (fun t ht hW => ⟨⟨v, (), rfl, rfl, by rw [ht]; exact hP, va_K.moved hW.alike hK, hD⟩, hS.F ht⟩) hS.2.2 d) s0 _ _ _ h hP hD va_S.rf (lv_sub hl [0] rfl)
def ow_dm_J8_hugeLength_7cf53 : List Cond := Cond.code yJ8_hugeLength_7cf53 cJ8_hugeLength_7cf53 3 (some .int) :: ([Cond.constant RJ8 200 (2147483639)] ++ [])
theorem gd_dm_J8_hugeLength_7cf53 : ∀ w ∈ ow_dm_J8_hugeLength_7cf53, (w.onTables && w.keeps) = true ∨ ∃ ty, w = Cond.arrayClass ty := List.forall_mem_cons.mpr ⟨good_of_word rfl, List.forall_mem_append.mpr ⟨fun w h => good_of_word (List.all_eq_true.mp (by decide +kernel) w h), fun _ h => nomatch h⟩⟩
def dj_J8_hugeLength_7cf53_0 (p : Program) (l : Launch) (e : Env) (s : State) (m : MethodId) (args : Array Value) (below : List Frame) (meth : Method) (c : Code) (Q : State → Prop) (A : Nat → Prop) (dC : Nat → ClassId) (dI : Nat → Nat → Nat) (a : Nat → Nat) (ac : Nat → ClassId) (g : Int32 → Int32 → (Unit) → Option (Int32 × (Unit))) (r : Int32 × (Unit)) : Prop := ∀ (v0 : Int32) (v1 : Int32) (s0 : Unit) (H : Heap) (locs : List Loc) (ls : Array Slot), g v0 v1 s0 = some r → va_P (dC, dI) vwCl (dw_P a ac s0) H → va_D A (dw_P a ac s0) → va_S A s.heap H locs → lv_has ls 3 [(0, .int v0), (1, .int v1)] → W p l e (headSpec ow_dm_J8_hugeLength_7cf53 ({ frames := 0, cells := 0, slots := 0, locals := 0 })).room s m args below meth c H locs 0 0 Q (F0 m 0 ls [])
set_option maxHeartbeats 40000000 in
set_option maxRecDepth 100000 in
theorem db_J8_hugeLength_7cf53_0 {p : Program} {l : Launch} {e : Env} {s : State} {m : MethodId} {args : Array Value} {below : List Frame} {meth : Method} {c : Code} {Q : State → Prop} {A : Nat → Prop} {dC : Nat → ClassId} {dI : Nat → Nat → Nat} {a : Nat → Nat} {ac : Nat → ClassId} {n : Nat} {r : Int32 × (Unit)} (C : nd_C p l s m args c A (dC, dI) cJ8_hugeLength_7cf53 3 RJ8 ow_dm_J8_hugeLength_7cf53 (dk_P ac)) (K : nd_Ki p l e (headSpec ow_dm_J8_hugeLength_7cf53 ({ frames := 0, cells := 0, slots := 0, locals := 0 })).room s m args below meth c Q A (dC, dI) cJ8_hugeLength_7cf53 .int (Unit) (dw_P a ac) r) : dj_J8_hugeLength_7cf53_0 p l e s m args below meth c Q A dC dI a ac (df_J8_hugeLength_7cf53_0 n) r := by
  obtain ⟨hlt, hx, hb, hml, hown, hts, hN, hA, hK⟩ := id C
  intro v0 v1 s0 H locs ls h hP hD hS hl
  unfold df_J8_hugeLength_7cf53_0 at h
  refine lv_iload_n hx hb dJ8_hugeLength_7cf53_0 rfl (lv_at hl 0 rfl) ?_
  refine lv_iload_n hx hb dJ8_hugeLength_7cf53_1 rfl (lv_at hl 1 rfl) ?_
  refine lv_iadd hx hb dJ8_hugeLength_7cf53_2 ?_
  refine lv_topi (fun z1 ez1 => ?_)
  have h := nd_at h ez1
  refine lv_istore_n (lv' := [(2, .int z1), (0, .int v0), (1, .int v1)]) hx hb dJ8_hugeLength_7cf53_3 rfl hl (by decide) rfl (fun ls hl => ?_)
  refine lv_iload_n hx hb dJ8_hugeLength_7cf53_4 rfl (lv_at hl 0 rfl) ?_
  refine lv_if_ge (tgt := 49) hx hb dJ8_hugeLength_7cf53_5 (by decide) (fun c2 => ?_) (fun c2 => ?_)
  · have h := nd_pos h c2
    refine lv_iload_n hx hb dJ8_hugeLength_7cf53_49 rfl (lv_at hl 0 rfl) ?_
    refine lv_ldc hx hb hown (hts (.constant RJ8 200 (2147483639)) (List.mem_of_getElem? (i := 1) rfl)) dJ8_hugeLength_7cf53_50 ?_
    refine lv_icmp_gt (tgt := 58) hx hb dJ8_hugeLength_7cf53_52 (by decide) (fun c3 => ?_) (fun c3 => ?_)
    · have h := nd_pos h c3
      refine lv_iload_n hx hb dJ8_hugeLength_7cf53_58 rfl (lv_at hl 0 rfl) ?_
      exact K _ _ _ _ _ _ dJ8_hugeLength_7cf53_59 rfl (Option.some.inj h).symm hP hD hS
    · have h := nd_neg h c3
      refine lv_ldc hx hb hown (hts (.constant RJ8 200 (2147483639)) (List.mem_of_getElem? (i := 1) rfl)) dJ8_hugeLength_7cf53_55 ?_
      exact K _ _ _ _ _ _ dJ8_hugeLength_7cf53_57 rfl (Option.some.inj h).symm hP hD hS
  · have h := nd_neg h c2
    exact nomatch (show (none : Option (Int32 × (Unit))) = some r from h)
set_option maxHeartbeats 40000000 in
set_option maxRecDepth 100000 in
theorem dm_J8_hugeLength_7cf53 (l : Launch) (hlt : l.stackTraces = false) (dC : Nat → ClassId) (dI : Nat → Nat → Nat) (a : Nat → Nat) (ac : Nat → ClassId) (n : Nat) (v0 : Int32) (v1 : Int32) (s0 : Unit) {r : Int32 × (Unit)} (h : df_J8_hugeLength_7cf53 n v0 v1 s0 = some r) (sz : Nat) : Met l yJ8_hugeLength_7cf53 ow_dm_J8_hugeLength_7cf53 ({ frames := 0, cells := 0, slots := 0, locals := 0 }) (va_Pc [.int v0, .int v1] (fun U => U.heap.size = sz ∧ va_P (dC, dI) vwCl (dw_P a ac s0) U.heap ∧ va_K (dC, dI) vwCl (dk_P ac) U ∧ va_D (fun _ => True) (dw_P a ac s0) ∧ nv_E dI (va_A (dw_P a ac s0) sz) U)) (va_Qi (fun x _ => x = r.1) (fun (_ : Unit) t => va_P (dC, dI) vwCl (dw_P a ac r.2) t.heap ∧ va_K (dC, dI) vwCl (dk_P ac) t ∧ va_D (va_A (dw_P a ac s0) sz) (dw_P a ac r.2)) (va_A (dw_P a ac s0) sz)) 0 0 (va_A (dw_P a ac s0) sz) := by
  refine Met.ofW (cc := cJ8_hugeLength_7cf53) (maxL := 3) (ret := (some .int)) (by decide) rfl ?_
  intro p e s m args below meth c s₁ B hml hv
  obtain ⟨rfl, hsz, hP, hK, hD0, hN⟩ := hv
  have hx := B.exec
  have hb := B.bytes
  have hr := B.returns
  have hts := atoms_spec (ws := ow_dm_J8_hugeLength_7cf53) B.pre
  have hown : s.vm.findClass RJ8 = some m.cls := findClass_of_methodNamed B.named
  have hlocks := B.notSynchronized
  subst hsz
  have hD := hD0.self (sz := s.heap.size)
  generalize hAe : va_A (dw_P a ac s0) s.heap.size = A at hD hN ⊢
  have hA : ∀ q : Nat, s.heap.size ≤ q → A q := fun q h => by rw [← hAe]; exact Or.inr h
  have hl := lv_entry ([.int v0, .int v1]) (n := 3) (Nat.le_of_ble_eq_true rfl)
  rw [lg_entry_eq]
  generalize (lg_sl ([.int v0, .int v1]) ++ List.replicate (3 - (lg_sl ([.int v0, .int v1])).length) Slot.unset).toArray = ls at hl ⊢
  have hl : lv_has ls 3 [(0, .int v0), (1, .int v1)] := hl
  exact db_J8_hugeLength_7cf53_0 (dC := dC) (dI := dI) (a := a) (ac := ac) (n := n) (r := r) ⟨hlt, hx, hb, hml, hown, hts, hN, hA, hK⟩ (fun pc v τ H locs ls d z er hP hD hS => by subst er; exact W.zret (v := v) hx hb hr z (fun t ht hW => ⟨⟨v, (), rfl, rfl, by rw [ht]; exact hP, va_K.moved hW.alike hK, hD⟩, hS.F ht⟩) hS.2.2 d) v0 v1 s0 _ _ _ h hP hD va_S.rf (lv_sub hl [0, 1] rfl)
def ow_dm_J8_newLength_cabcc : List Cond := Cond.code yJ8_newLength_cabcc cJ8_newLength_cabcc 4 (some .int) :: ([Cond.methodLink RJ8 194 Lib.Math.max.name, Cond.static Lib.Math.max.name, Cond.initialized "java/lang/Math", Cond.code Lib.Math.max.name Lib.Math.max.code 2 (some .int), Cond.methodLink RJ8 201 yJ8_hugeLength_7cf53, Cond.static yJ8_hugeLength_7cf53, Cond.initialized RJ8, Cond.constant RJ8 200 (2147483639)] ++ (ow_dm_J8_hugeLength_7cf53 ++ []))
theorem gd_dm_J8_newLength_cabcc : ∀ w ∈ ow_dm_J8_newLength_cabcc, (w.onTables && w.keeps) = true ∨ ∃ ty, w = Cond.arrayClass ty := List.forall_mem_cons.mpr ⟨good_of_word rfl, List.forall_mem_append.mpr ⟨fun w h => good_of_word (List.all_eq_true.mp (by decide +kernel) w h), List.forall_mem_append.mpr ⟨gd_dm_J8_hugeLength_7cf53, fun _ h => nomatch h⟩⟩⟩
theorem gi_dm_J8_newLength_cabcc_0 : GoodIn ow_dm_J8_newLength_cabcc (wsS RJ8 201 yJ8_hugeLength_7cf53 ow_dm_J8_hugeLength_7cf53) := goodIn_app (goodIn_of _ (by decide +kernel)) (fun w h => ⟨List.mem_cons_of_mem _ (List.mem_append_right _ (List.mem_append_left _ h)), gd_dm_J8_hugeLength_7cf53 w h⟩)
def dj_J8_newLength_cabcc_21 (p : Program) (l : Launch) (e : Env) (s : State) (m : MethodId) (args : Array Value) (below : List Frame) (meth : Method) (c : Code) (Q : State → Prop) (A : Nat → Prop) (dC : Nat → ClassId) (dI : Nat → Nat → Nat) (a : Nat → Nat) (ac : Nat → ClassId) (g : Int32 → Int32 → (Unit) → Option (Int32 × (Unit))) (r : Int32 × (Unit)) : Prop := ∀ (x0 : Int32) (x1 : Int32) (s0 : Unit) (H : Heap) (locs : List Loc) (ls : Array Slot), g x0 x1 s0 = some r → va_P (dC, dI) vwCl (dw_P a ac s0) H → va_D A (dw_P a ac s0) → va_S A s.heap H locs → lv_has ls 4 [(0, .int x0), (1, .int x1)] → W p l e (headSpec ow_dm_J8_newLength_cabcc ({ frames := 1, cells := 0, slots := 0, locals := 22 })).room s m args below meth c H locs 0 0 Q (F0 m 21 ls [])
def dj_J8_newLength_cabcc_0 (p : Program) (l : Launch) (e : Env) (s : State) (m : MethodId) (args : Array Value) (below : List Frame) (meth : Method) (c : Code) (Q : State → Prop) (A : Nat → Prop) (dC : Nat → ClassId) (dI : Nat → Nat → Nat) (a : Nat → Nat) (ac : Nat → ClassId) (g : Int32 → Int32 → Int32 → (Unit) → Option (Int32 × (Unit))) (r : Int32 × (Unit)) : Prop := ∀ (v0 : Int32) (v1 : Int32) (v2 : Int32) (s0 : Unit) (H : Heap) (locs : List Loc) (ls : Array Slot), g v0 v1 v2 s0 = some r → va_P (dC, dI) vwCl (dw_P a ac s0) H → va_D A (dw_P a ac s0) → va_S A s.heap H locs → lv_has ls 4 [(0, .int v0), (1, .int v1), (2, .int v2)] → W p l e (headSpec ow_dm_J8_newLength_cabcc ({ frames := 1, cells := 0, slots := 0, locals := 22 })).room s m args below meth c H locs 0 0 Q (F0 m 0 ls [])
set_option maxHeartbeats 40000000 in
set_option maxRecDepth 100000 in
theorem db_J8_newLength_cabcc_21 {p : Program} {l : Launch} {e : Env} {s : State} {m : MethodId} {args : Array Value} {below : List Frame} {meth : Method} {c : Code} {Q : State → Prop} {A : Nat → Prop} {dC : Nat → ClassId} {dI : Nat → Nat → Nat} {a : Nat → Nat} {ac : Nat → ClassId} {n : Nat} {r : Int32 × (Unit)} (C : nd_C p l s m args c A (dC, dI) cJ8_newLength_cabcc 4 RJ8 ow_dm_J8_newLength_cabcc (dk_P ac)) (K : nd_Ki p l e (headSpec ow_dm_J8_newLength_cabcc ({ frames := 1, cells := 0, slots := 0, locals := 22 })).room s m args below meth c Q A (dC, dI) cJ8_newLength_cabcc .int (Unit) (dw_P a ac) r) : dj_J8_newLength_cabcc_21 p l e s m args below meth c Q A dC dI a ac (df_J8_newLength_cabcc_21 n) r := by
  obtain ⟨hlt, hx, hb, hml, hown, hts, hN, hA, hK⟩ := id C
  intro x0 x1 s0 H locs ls h hP hD hS hl
  unfold df_J8_newLength_cabcc_21 at h
  refine lv_iload_n hx hb dJ8_newLength_cabcc_21 rfl (lv_at hl 0 rfl) ?_
  refine lv_iload_n hx hb dJ8_newLength_cabcc_22 rfl (lv_at hl 1 rfl) ?_
  obtain ⟨q3, s4, hq, h⟩ := nd_b2_e h
  have hPc : va_P (dC, dI) vwCl (dw_P a ac ()) H := nd_p0
  have hDc : va_D A (dw_P a ac ()) := nd_d0
  have hKc : va_K (dC, dI) vwCl (dk_P ac) s := nd_y0 hK
  have hFc : ∀ q, va_A (dw_P a ac ()) H.size q → A q := nd_r0 hS hA
  refine nd_cSi (As := [.int x0, .int x1]) (rest := []) (q := q3) (w' := dw_P a ac s4) ⟨hx, hb, hml, hown, hts⟩ (fun sz => dm_J8_hugeLength_7cf53 l hlt dC dI a ac n (x0) (x1) () hq sz) (cwS 2 hts gi_dm_J8_newLength_cabcc_0 rfl rfl rfl (by decide +kernel) ⟨Nat.le_of_ble_eq_true rfl, Nat.le_of_ble_eq_true rfl⟩) hPc hDc hKc hS hA hN rfl hl.1 rfl (Nat.le_of_ble_eq_true rfl) dJ8_newLength_cabcc_23 (fun H locs hP1 hD1 hk1 hS => ?_)
  have hP := nd_n0 hP hk1
  exact K _ _ _ _ _ _ dJ8_newLength_cabcc_26 rfl (Option.some.inj h).symm hP hD hS
set_option maxHeartbeats 40000000 in
set_option maxRecDepth 100000 in
theorem db_J8_newLength_cabcc_0 {p : Program} {l : Launch} {e : Env} {s : State} {m : MethodId} {args : Array Value} {below : List Frame} {meth : Method} {c : Code} {Q : State → Prop} {A : Nat → Prop} {dC : Nat → ClassId} {dI : Nat → Nat → Nat} {a : Nat → Nat} {ac : Nat → ClassId} {n : Nat} {r : Int32 × (Unit)} (C : nd_C p l s m args c A (dC, dI) cJ8_newLength_cabcc 4 RJ8 ow_dm_J8_newLength_cabcc (dk_P ac)) (K : nd_Ki p l e (headSpec ow_dm_J8_newLength_cabcc ({ frames := 1, cells := 0, slots := 0, locals := 22 })).room s m args below meth c Q A (dC, dI) cJ8_newLength_cabcc .int (Unit) (dw_P a ac) r) : dj_J8_newLength_cabcc_0 p l e s m args below meth c Q A dC dI a ac (df_J8_newLength_cabcc_0 n) r := by
  obtain ⟨hlt, hx, hb, hml, hown, hts, hN, hA, hK⟩ := id C
  intro v0 v1 v2 s0 H locs ls h hP hD hS hl
  unfold df_J8_newLength_cabcc_0 at h
  refine lv_iload_n hx hb dJ8_newLength_cabcc_0 rfl (lv_at hl 0 rfl) ?_
  refine lv_iload_n hx hb dJ8_newLength_cabcc_1 rfl (lv_at hl 1 rfl) ?_
  refine lv_iload_n hx hb dJ8_newLength_cabcc_2 rfl (lv_at hl 2 rfl) ?_
  refine va_mmax hx hb (by rw [hml]; exact hl.1.symm) hown (hts (.methodLink RJ8 194 Lib.Math.max.name) (List.mem_of_getElem? (i := 1) rfl)) (hts (.static Lib.Math.max.name) (List.mem_of_getElem? (i := 2) rfl)) (hts (.initialized "java/lang/Math") (List.mem_of_getElem? (i := 3) rfl)) (hts (.code Lib.Math.max.name Lib.Math.max.code 2 (some .int)) (List.mem_of_getElem? (i := 4) rfl)) (Nat.le_of_ble_eq_true rfl) (Nat.le_of_ble_eq_true rfl) (by decide +kernel) (by decide +kernel) dJ8_newLength_cabcc_3 ?_
  refine lv_iadd hx hb dJ8_newLength_cabcc_6 ?_
  refine lv_topi (fun z1 ez1 => ?_)
  have h := nd_at h ez1
  refine lv_istore_n (lv' := [(3, .int z1), (0, .int v0), (1, .int v1), (2, .int v2)]) hx hb dJ8_newLength_cabcc_7 rfl hl (by decide) rfl (fun ls hl => ?_)
  refine lv_iconst (v := 0) hx hb dJ8_newLength_cabcc_8 (by decide) ?_
  refine lv_iload_n hx hb dJ8_newLength_cabcc_9 rfl (lv_at hl 0 rfl) ?_
  refine lv_icmp_ge (tgt := 21) hx hb dJ8_newLength_cabcc_10 (by decide) (fun c2 => ?_) (fun c2 => ?_)
  · have h := nd_pos h c2
    exact (db_J8_newLength_cabcc_21 C K) (v0) (v1) s0 _ _ _ h hP hD hS (lv_sub hl [1, 2] rfl)
  · have h := nd_neg h c2
    refine lv_iload_n hx hb dJ8_newLength_cabcc_13 rfl (lv_at hl 0 rfl) ?_
    refine lv_ldc hx hb hown (hts (.constant RJ8 200 (2147483639)) (List.mem_of_getElem? (i := 8) rfl)) dJ8_newLength_cabcc_14 ?_
    refine lv_icmp_gt (tgt := 21) hx hb dJ8_newLength_cabcc_16 (by decide) (fun c6 => ?_) (fun c6 => ?_)
    · have h := nd_pos h c6
      exact (db_J8_newLength_cabcc_21 C K) (v0) (v1) s0 _ _ _ h hP hD hS (lv_sub hl [1, 2] rfl)
    · have h := nd_neg h c6
      refine lv_iload_n hx hb dJ8_newLength_cabcc_19 rfl (lv_at hl 0 rfl) ?_
      exact K _ _ _ _ _ _ dJ8_newLength_cabcc_20 rfl (Option.some.inj h).symm hP hD hS
set_option maxHeartbeats 40000000 in
set_option maxRecDepth 100000 in
theorem dm_J8_newLength_cabcc (l : Launch) (hlt : l.stackTraces = false) (dC : Nat → ClassId) (dI : Nat → Nat → Nat) (a : Nat → Nat) (ac : Nat → ClassId) (n : Nat) (v0 : Int32) (v1 : Int32) (v2 : Int32) (s0 : Unit) {r : Int32 × (Unit)} (h : df_J8_newLength_cabcc n v0 v1 v2 s0 = some r) (sz : Nat) : Met l yJ8_newLength_cabcc ow_dm_J8_newLength_cabcc ({ frames := 1, cells := 0, slots := 0, locals := 22 }) (va_Pc [.int v0, .int v1, .int v2] (fun U => U.heap.size = sz ∧ va_P (dC, dI) vwCl (dw_P a ac s0) U.heap ∧ va_K (dC, dI) vwCl (dk_P ac) U ∧ va_D (fun _ => True) (dw_P a ac s0) ∧ nv_E dI (va_A (dw_P a ac s0) sz) U)) (va_Qi (fun x _ => x = r.1) (fun (_ : Unit) t => va_P (dC, dI) vwCl (dw_P a ac r.2) t.heap ∧ va_K (dC, dI) vwCl (dk_P ac) t ∧ va_D (va_A (dw_P a ac s0) sz) (dw_P a ac r.2)) (va_A (dw_P a ac s0) sz)) 0 0 (va_A (dw_P a ac s0) sz) := by
  refine Met.ofW (cc := cJ8_newLength_cabcc) (maxL := 4) (ret := (some .int)) (by decide) rfl ?_
  intro p e s m args below meth c s₁ B hml hv
  obtain ⟨rfl, hsz, hP, hK, hD0, hN⟩ := hv
  have hx := B.exec
  have hb := B.bytes
  have hr := B.returns
  have hts := atoms_spec (ws := ow_dm_J8_newLength_cabcc) B.pre
  have hown : s.vm.findClass RJ8 = some m.cls := findClass_of_methodNamed B.named
  have hlocks := B.notSynchronized
  subst hsz
  have hD := hD0.self (sz := s.heap.size)
  generalize hAe : va_A (dw_P a ac s0) s.heap.size = A at hD hN ⊢
  have hA : ∀ q : Nat, s.heap.size ≤ q → A q := fun q h => by rw [← hAe]; exact Or.inr h
  have hl := lv_entry ([.int v0, .int v1, .int v2]) (n := 4) (Nat.le_of_ble_eq_true rfl)
  rw [lg_entry_eq]
  generalize (lg_sl ([.int v0, .int v1, .int v2]) ++ List.replicate (4 - (lg_sl ([.int v0, .int v1, .int v2])).length) Slot.unset).toArray = ls at hl ⊢
  have hl : lv_has ls 4 [(0, .int v0), (1, .int v1), (2, .int v2)] := hl
  exact db_J8_newLength_cabcc_0 (dC := dC) (dI := dI) (a := a) (ac := ac) (n := n) (r := r) ⟨hlt, hx, hb, hml, hown, hts, hN, hA, hK⟩ (fun pc v τ H locs ls d z er hP hD hS => by subst er; exact W.zret (v := v) hx hb hr z (fun t ht hW => ⟨⟨v, (), rfl, rfl, by rw [ht]; exact hP, va_K.moved hW.alike hK, hD⟩, hS.F ht⟩) hS.2.2 d) v0 v1 v2 s0 _ _ _ h hP hD va_S.rf (lv_sub hl [0, 1, 2] rfl)
def ow_dm_J5_newCapacity_0f7a4 : List Cond := Cond.code yJ5_newCapacity_0f7a4 cJ5_newCapacity_0f7a4 6 (some .int) :: ([Cond.fieldLink RJ5 15 "java/lang/AbstractStringBuilder" "value" "[B", Cond.fieldLink RJ5 22 "java/lang/AbstractStringBuilder" "coder" "B", Cond.methodLink RJ5 114 yJ8_newLength_cabcc, Cond.static yJ8_newLength_cabcc, Cond.initialized RJ8, Cond.constant RJ5 39 (2147483647)] ++ (u_ws RJ4 TJ4 4 ++ (ow_dm_J8_newLength_cabcc ++ [])))
theorem gd_dm_J5_newCapacity_0f7a4 : ∀ w ∈ ow_dm_J5_newCapacity_0f7a4, (w.onTables && w.keeps) = true ∨ ∃ ty, w = Cond.arrayClass ty := List.forall_mem_cons.mpr ⟨good_of_word rfl, List.forall_mem_append.mpr ⟨fun w h => good_of_word (List.all_eq_true.mp (by decide +kernel) w h), List.forall_mem_append.mpr ⟨gu_J4, List.forall_mem_append.mpr ⟨gd_dm_J8_newLength_cabcc, fun _ h => nomatch h⟩⟩⟩⟩
theorem hi_dm_J5_newCapacity_0f7a4_J4 : ∀ w ∈ u_ws RJ4 TJ4 4, w ∈ ow_dm_J5_newCapacity_0f7a4 := fun w h => List.mem_cons_of_mem _ (List.mem_append_right _ (List.mem_append_left _ h))
theorem gi_dm_J5_newCapacity_0f7a4_0 : GoodIn ow_dm_J5_newCapacity_0f7a4 (va_wsS RJ5 114 yJ8_newLength_cabcc ow_dm_J8_newLength_cabcc) := goodIn_app (goodIn_of _ (by decide +kernel)) (fun w h => ⟨List.mem_cons_of_mem _ (List.mem_append_right _ (List.mem_append_right _ (List.mem_append_left _ h))), gd_dm_J8_newLength_cabcc w h⟩)
def dj_J5_newCapacity_0f7a4_0 (p : Program) (l : Launch) (e : Env) (s : State) (m : MethodId) (args : Array Value) (below : List Frame) (meth : Method) (c : Code) (Q : State → Prop) (A : Nat → Prop) (dC : Nat → ClassId) (dI : Nat → Nat → Nat) (a : Nat → Nat) (ac : Nat → ClassId) (g : Int32 → (St) → Option (Int32 × (St))) (r : Int32 × (St)) : Prop := ∀ (v0 : Int32) (s0 : St) (H : Heap) (locs : List Loc) (ls : Array Slot), g v0 s0 = some r → va_P (dC, dI) vwCl (dw_J4 a ac s0) H → va_D A (dw_J4 a ac s0) → va_S A s.heap H locs → lv_has ls 6 [(0, .ref (a 0)), (1, .int v0)] → W p l e (headSpec ow_dm_J5_newCapacity_0f7a4 ({ frames := 2, cells := 0, slots := 0, locals := 45 })).room s m args below meth c H locs 0 0 Q (F0 m 0 ls [])
set_option maxHeartbeats 40000000 in
set_option maxRecDepth 100000 in
theorem db_J5_newCapacity_0f7a4_0 {p : Program} {l : Launch} {e : Env} {s : State} {m : MethodId} {args : Array Value} {below : List Frame} {meth : Method} {c : Code} {Q : State → Prop} {A : Nat → Prop} {dC : Nat → ClassId} {dI : Nat → Nat → Nat} {a : Nat → Nat} {ac : Nat → ClassId} {n : Nat} {r : Int32 × (St)} (C : nd_C p l s m args c A (dC, dI) cJ5_newCapacity_0f7a4 6 RJ5 ow_dm_J5_newCapacity_0f7a4 (dk_J4 ac)) (K : nd_Ki p l e (headSpec ow_dm_J5_newCapacity_0f7a4 ({ frames := 2, cells := 0, slots := 0, locals := 45 })).room s m args below meth c Q A (dC, dI) cJ5_newCapacity_0f7a4 .int (St) (dw_J4 a ac) r) : dj_J5_newCapacity_0f7a4_0 p l e s m args below meth c Q A dC dI a ac (df_J5_newCapacity_0f7a4_0 n (a 2)) r := by
  obtain ⟨hlt, hx, hb, hml, hown, hts, hN, hA, hK⟩ := id C
  intro v0 s0 H locs ls h hP hD hS hl
  unfold df_J5_newCapacity_0f7a4_0 at h
  refine lv_aload_n hx hb dJ5_newCapacity_0f7a4_0 rfl (lv_at hl 0 rfl) ?_
  refine va_get (D := (dC, dI)) (ci := 1) (v := .ref (a 1)) (C := RJ4) (T := TJ4) (N := 4) hx hb hts hi_dm_J5_newCapacity_0f7a4_J4 hown hK hP 0 rfl rfl 0 (by decide) (hts (.fieldLink RJ5 15 "java/lang/AbstractStringBuilder" "value" "[B") (List.mem_of_getElem? (i := 1) rfl)) (fun _ h9 => h9) rfl dJ5_newCapacity_0f7a4_1 ?_
  refine va_alen (v := Int32.ofNat (a 2)) hx hb hK hP 1 0 rfl rfl rfl dJ5_newCapacity_0f7a4_4 ?_
  refine lv_topi (fun z1 ez1 => ?_)
  have h := nd_at h ez1
  refine lv_istore_n (lv' := [(2, .int z1), (0, .ref (a 0)), (1, .int v0)]) hx hb dJ5_newCapacity_0f7a4_5 rfl hl (by decide) rfl (fun ls hl => ?_)
  refine lv_iload_n hx hb dJ5_newCapacity_0f7a4_6 rfl (lv_at hl 2 rfl) ?_
  refine lv_aload_n hx hb dJ5_newCapacity_0f7a4_7 rfl (lv_at hl 1 rfl) ?_
  refine va_get (D := (dC, dI)) (ci := 1) (v := .int (sI s0 0)) (C := RJ4) (T := TJ4) (N := 4) hx hb hts hi_dm_J5_newCapacity_0f7a4_J4 hown hK hP 0 rfl rfl 1 (by decide) (hts (.fieldLink RJ5 22 "java/lang/AbstractStringBuilder" "coder" "B") (List.mem_of_getElem? (i := 2) rfl)) (fun _ h9 => h9) rfl dJ5_newCapacity_0f7a4_8 ?_
  refine lv_ishl hx hb dJ5_newCapacity_0f7a4_11 ?_
  refine lv_topi (fun z2 ez2 => ?_)
  have h := nd_at h ez2
  refine lv_istore_n (lv' := [(3, .int z2), (2, .int z1), (0, .ref (a 0)), (1, .int v0)]) hx hb dJ5_newCapacity_0f7a4_12 rfl hl (by decide) rfl (fun ls hl => ?_)
  refine lv_iload_n hx hb dJ5_newCapacity_0f7a4_13 rfl (lv_at hl 0 rfl) ?_
  refine lv_iload_n hx hb dJ5_newCapacity_0f7a4_14 rfl (lv_at hl 1 rfl) ?_
  refine lv_isub hx hb dJ5_newCapacity_0f7a4_15 ?_
  refine lv_topi (fun z3 ez3 => ?_)
  have h := nd_at h ez3
  refine lv_istore (lv' := [(4, .int z3), (3, .int z2), (2, .int z1), (0, .ref (a 0)), (1, .int v0)]) hx hb dJ5_newCapacity_0f7a4_16 hl (by decide) rfl (fun ls hl => ?_)
  refine lv_iload_n hx hb dJ5_newCapacity_0f7a4_18 rfl (lv_at hl 2 rfl) ?_
  refine lv_iload hx hb dJ5_newCapacity_0f7a4_19 (lv_at hl 0 rfl) ?_
  refine lv_iload_n hx hb dJ5_newCapacity_0f7a4_21 rfl (lv_at hl 2 rfl) ?_
  refine lv_iconst (v := 2) hx hb dJ5_newCapacity_0f7a4_22 (by decide) ?_
  refine lv_aload_n hx hb dJ5_newCapacity_0f7a4_23 rfl (lv_at hl 3 rfl) ?_
  refine va_get (D := (dC, dI)) (ci := 1) (v := .int (sI s0 0)) (C := RJ4) (T := TJ4) (N := 4) hx hb hts hi_dm_J5_newCapacity_0f7a4_J4 hown hK hP 0 rfl rfl 1 (by decide) (hts (.fieldLink RJ5 22 "java/lang/AbstractStringBuilder" "coder" "B") (List.mem_of_getElem? (i := 2) rfl)) (fun _ h9 => h9) rfl dJ5_newCapacity_0f7a4_24 ?_
  refine lv_ishl hx hb dJ5_newCapacity_0f7a4_27 ?_
  refine lv_iadd hx hb dJ5_newCapacity_0f7a4_28 ?_
  obtain ⟨q4, s5, hq, h⟩ := nd_b2_e h
  have hPc : va_P (dC, dI) vwCl (dw_P a ac ()) H := nd_p0
  have hDc : va_D A (dw_P a ac ()) := nd_d0
  have hKc : va_K (dC, dI) vwCl (dk_P ac) s := nd_y0 hK
  have hFc : ∀ q, va_A (dw_P a ac ()) H.size q → A q := nd_r0 hS hA
  refine nd_cSi (As := [.int z1, .int z3, .int (z1 + ((2 : Int32) <<< (((sI s0 0) : Int32) &&& 31)))]) (rest := []) (q := q4) (w' := dw_P a ac s5) ⟨hx, hb, hml, hown, hts⟩ (fun sz => dm_J8_newLength_cabcc l hlt dC dI a ac n (z1) (z3) ((z1 + ((2 : Int32) <<< (((sI s0 0) : Int32) &&& 31)))) () hq sz) (va_cwS 3 hts gi_dm_J5_newCapacity_0f7a4_0 rfl rfl rfl (by decide +kernel) ⟨Nat.le_of_ble_eq_true rfl, Nat.le_of_ble_eq_true rfl⟩) hPc hDc hKc hS hA hN rfl hl.1 rfl (Nat.le_of_ble_eq_true rfl) dJ5_newCapacity_0f7a4_29 (fun H locs hP1 hD1 hk1 hS => ?_)
  have hP := nd_n0 hP hk1
  refine lv_istore (lv' := [(5, .int q4), (4, .int z3), (3, .int z2), (2, .int z1), (0, .ref (a 0)), (1, .int v0)]) hx hb dJ5_newCapacity_0f7a4_32 hl (by decide) rfl (fun ls hl => ?_)
  refine lv_iload hx hb dJ5_newCapacity_0f7a4_34 (lv_at hl 0 rfl) ?_
  refine lv_ldc hx hb hown (hts (.constant RJ5 39 (2147483647)) (List.mem_of_getElem? (i := 6) rfl)) dJ5_newCapacity_0f7a4_36 ?_
  refine lv_icmp_ne (tgt := 51) hx hb dJ5_newCapacity_0f7a4_38 (by decide) (fun c7 => ?_) (fun c7 => ?_)
  · have h := nd_neg h c7
    refine lv_iload hx hb dJ5_newCapacity_0f7a4_51 (lv_at hl 0 rfl) ?_
    refine lv_aload_n hx hb dJ5_newCapacity_0f7a4_53 rfl (lv_at hl 4 rfl) ?_
    refine va_get (D := (dC, dI)) (ci := 1) (v := .int (sI s0 0)) (C := RJ4) (T := TJ4) (N := 4) hx hb hts hi_dm_J5_newCapacity_0f7a4_J4 hown hK hP 0 rfl rfl 1 (by decide) (hts (.fieldLink RJ5 22 "java/lang/AbstractStringBuilder" "coder" "B") (List.mem_of_getElem? (i := 2) rfl)) (fun _ h9 => h9) rfl dJ5_newCapacity_0f7a4_54 ?_
    refine lv_ishr hx hb dJ5_newCapacity_0f7a4_57 ?_
    exact K _ _ _ _ _ _ dJ5_newCapacity_0f7a4_58 rfl (Option.some.inj h).symm hP hD hS
  · have h := nd_pos h c7
    exact nomatch (show (none : Option (Int32 × (St))) = some r from h)
set_option maxHeartbeats 40000000 in
set_option maxRecDepth 100000 in
theorem dm_J5_newCapacity_0f7a4 (l : Launch) (hlt : l.stackTraces = false) (dC : Nat → ClassId) (dI : Nat → Nat → Nat) (a : Nat → Nat) (ac : Nat → ClassId) (n : Nat) (v0 : Int32) (s0 : St) {r : Int32 × (St)} (h : df_J5_newCapacity_0f7a4 n (a 2) v0 s0 = some r) (sz : Nat) : Met l yJ5_newCapacity_0f7a4 ow_dm_J5_newCapacity_0f7a4 ({ frames := 2, cells := 0, slots := 0, locals := 45 }) (va_Pc [.ref (a 0), .int v0] (fun U => U.heap.size = sz ∧ va_P (dC, dI) vwCl (dw_J4 a ac s0) U.heap ∧ va_K (dC, dI) vwCl (dk_J4 ac) U ∧ va_D (fun _ => True) (dw_J4 a ac s0) ∧ nv_E dI (va_A (dw_J4 a ac s0) sz) U)) (va_Qi (fun x _ => x = r.1) (fun (_ : Unit) t => va_P (dC, dI) vwCl (dw_J4 a ac r.2) t.heap ∧ va_K (dC, dI) vwCl (dk_J4 ac) t ∧ va_D (va_A (dw_J4 a ac s0) sz) (dw_J4 a ac r.2)) (va_A (dw_J4 a ac s0) sz)) 0 0 (va_A (dw_J4 a ac s0) sz) := by
  refine Met.ofW (cc := cJ5_newCapacity_0f7a4) (maxL := 6) (ret := (some .int)) (by decide) rfl ?_
  intro p e s m args below meth c s₁ B hml hv
  obtain ⟨rfl, hsz, hP, hK, hD0, hN⟩ := hv
  have hx := B.exec
  have hb := B.bytes
  have hr := B.returns
  have hts := atoms_spec (ws := ow_dm_J5_newCapacity_0f7a4) B.pre
  have hown : s.vm.findClass RJ5 = some m.cls := findClass_of_methodNamed B.named
  have hlocks := B.notSynchronized
  subst hsz
  have hD := hD0.self (sz := s.heap.size)
  generalize hAe : va_A (dw_J4 a ac s0) s.heap.size = A at hD hN ⊢
  have hA : ∀ q : Nat, s.heap.size ≤ q → A q := fun q h => by rw [← hAe]; exact Or.inr h
  have hl := lv_entry ([.ref (a 0), .int v0]) (n := 6) (Nat.le_of_ble_eq_true rfl)
  rw [lg_entry_eq]
  generalize (lg_sl ([.ref (a 0), .int v0]) ++ List.replicate (6 - (lg_sl ([.ref (a 0), .int v0])).length) Slot.unset).toArray = ls at hl ⊢
  have hl : lv_has ls 6 [(0, .ref (a 0)), (1, .int v0)] := hl
  exact db_J5_newCapacity_0f7a4_0 (dC := dC) (dI := dI) (a := a) (ac := ac) (n := n) (r := r) ⟨hlt, hx, hb, hml, hown, hts, hN, hA, hK⟩ (fun pc v τ H locs ls d z er hP hD hS => by subst er; exact W.zret (v := v) hx hb hr z (fun t ht hW => ⟨⟨v, (), rfl, rfl, by rw [ht]; exact hP, va_K.moved hW.alike hK, hD⟩, hS.F ht⟩) hS.2.2 d) v0 s0 _ _ _ h hP hD va_S.rf (lv_sub hl [0, 1] rfl)
def ow_dm_J5_charAt_5068e : List Cond := Cond.code yJ5_charAt_5068e cJ5_charAt_5068e 5 (some .char) :: ([Cond.fieldLink RJ5 22 "java/lang/AbstractStringBuilder" "coder" "B", Cond.fieldLink RJ5 15 "java/lang/AbstractStringBuilder" "value" "[B", Cond.fieldLink RJ5 79 "java/lang/AbstractStringBuilder" "count" "I", Cond.methodLink RJ5 138 Lib.Math.min.name, Cond.static Lib.Math.min.name, Cond.initialized "java/lang/Math", Cond.code Lib.Math.min.name Lib.Math.min.code 2 (some .int), Cond.methodLink RJ5 144 yJ0_checkIndex_df160, Cond.static yJ0_checkIndex_df160, Cond.initialized RJ0] ++ (u_ws RJ4 TJ4 4 ++ (ow_dm_J0_checkIndex_df160 ++ [])))
theorem gd_dm_J5_charAt_5068e : ∀ w ∈ ow_dm_J5_charAt_5068e, (w.onTables && w.keeps) = true ∨ ∃ ty, w = Cond.arrayClass ty := List.forall_mem_cons.mpr ⟨good_of_word rfl, List.forall_mem_append.mpr ⟨fun w h => good_of_word (List.all_eq_true.mp (by decide +kernel) w h), List.forall_mem_append.mpr ⟨gu_J4, List.forall_mem_append.mpr ⟨gd_dm_J0_checkIndex_df160, fun _ h => nomatch h⟩⟩⟩⟩
theorem hi_dm_J5_charAt_5068e_J4 : ∀ w ∈ u_ws RJ4 TJ4 4, w ∈ ow_dm_J5_charAt_5068e := fun w h => List.mem_cons_of_mem _ (List.mem_append_right _ (List.mem_append_left _ h))
theorem gi_dm_J5_charAt_5068e_0 : GoodIn ow_dm_J5_charAt_5068e (va_wsS RJ5 144 yJ0_checkIndex_df160 ow_dm_J0_checkIndex_df160) := goodIn_app (goodIn_of _ (by decide +kernel)) (fun w h => ⟨List.mem_cons_of_mem _ (List.mem_append_right _ (List.mem_append_right _ (List.mem_append_left _ h))), gd_dm_J0_checkIndex_df160 w h⟩)
def dj_J5_charAt_5068e_0 (p : Program) (l : Launch) (e : Env) (s : State) (m : MethodId) (args : Array Value) (below : List Frame) (meth : Method) (c : Code) (Q : State → Prop) (A : Nat → Prop) (dC : Nat → ClassId) (dI : Nat → Nat → Nat) (a : Nat → Nat) (ac : Nat → ClassId) (g : Int32 → (St) → Option (Int32 × (St))) (r : Int32 × (St)) : Prop := ∀ (v0 : Int32) (s0 : St) (H : Heap) (locs : List Loc) (ls : Array Slot), g v0 s0 = some r → va_P (dC, dI) vwCl (dw_J4 a ac s0) H → va_D A (dw_J4 a ac s0) → va_S A s.heap H locs → lv_has ls 5 [(0, .ref (a 0)), (1, .int v0)] → W p l e (headSpec ow_dm_J5_charAt_5068e ({ frames := 2, cells := 0, slots := 0, locals := 43 })).room s m args below meth c H locs 0 0 Q (F0 m 0 ls [])
set_option maxHeartbeats 40000000 in
set_option maxRecDepth 100000 in
theorem db_J5_charAt_5068e_0 {p : Program} {l : Launch} {e : Env} {s : State} {m : MethodId} {args : Array Value} {below : List Frame} {meth : Method} {c : Code} {Q : State → Prop} {A : Nat → Prop} {dC : Nat → ClassId} {dI : Nat → Nat → Nat} {a : Nat → Nat} {ac : Nat → ClassId} {n : Nat} {r : Int32 × (St)} (C : nd_C p l s m args c A (dC, dI) cJ5_charAt_5068e 5 RJ5 ow_dm_J5_charAt_5068e (dk_J4 ac)) (K : nd_Ki p l e (headSpec ow_dm_J5_charAt_5068e ({ frames := 2, cells := 0, slots := 0, locals := 43 })).room s m args below meth c Q A (dC, dI) cJ5_charAt_5068e .char (St) (dw_J4 a ac) r) : dj_J5_charAt_5068e_0 p l e s m args below meth c Q A dC dI a ac (df_J5_charAt_5068e_0 n (a 2)) r := by
  obtain ⟨hlt, hx, hb, hml, hown, hts, hN, hA, hK⟩ := id C
  intro v0 s0 H locs ls h hP hD hS hl
  unfold df_J5_charAt_5068e_0 at h
  refine lv_aload_n hx hb dJ5_charAt_5068e_0 rfl (lv_at hl 0 rfl) ?_
  refine va_get (D := (dC, dI)) (ci := 1) (v := .int (sI s0 0)) (C := RJ4) (T := TJ4) (N := 4) hx hb hts hi_dm_J5_charAt_5068e_J4 hown hK hP 0 rfl rfl 1 (by decide) (hts (.fieldLink RJ5 22 "java/lang/AbstractStringBuilder" "coder" "B") (List.mem_of_getElem? (i := 1) rfl)) (fun _ h9 => h9) rfl dJ5_charAt_5068e_1 ?_
  refine lv_topi (fun z1 ez1 => ?_)
  have h := nd_at h ez1
  refine lv_istore_n (lv' := [(2, .int z1), (0, .ref (a 0)), (1, .int v0)]) hx hb dJ5_charAt_5068e_4 rfl hl (by decide) rfl (fun ls hl => ?_)
  refine lv_aload_n hx hb dJ5_charAt_5068e_5 rfl (lv_at hl 1 rfl) ?_
  refine va_get (D := (dC, dI)) (ci := 1) (v := .ref (a 1)) (C := RJ4) (T := TJ4) (N := 4) hx hb hts hi_dm_J5_charAt_5068e_J4 hown hK hP 0 rfl rfl 0 (by decide) (hts (.fieldLink RJ5 15 "java/lang/AbstractStringBuilder" "value" "[B") (List.mem_of_getElem? (i := 2) rfl)) (fun _ h9 => h9) rfl dJ5_charAt_5068e_6 ?_
  refine lv_astore_n (lv' := [(3, .ref (a 1)), (2, .int z1), (0, .ref (a 0)), (1, .int v0)]) hx hb dJ5_charAt_5068e_9 rfl hl (by decide) rfl (fun ls hl => ?_)
  refine lv_aload_n hx hb dJ5_charAt_5068e_10 rfl (lv_at hl 2 rfl) ?_
  refine va_get (D := (dC, dI)) (ci := 1) (v := .int (sI s0 2)) (C := RJ4) (T := TJ4) (N := 4) hx hb hts hi_dm_J5_charAt_5068e_J4 hown hK hP 0 rfl rfl 3 (by decide) (hts (.fieldLink RJ5 79 "java/lang/AbstractStringBuilder" "count" "I") (List.mem_of_getElem? (i := 3) rfl)) (fun _ h9 => h9) rfl dJ5_charAt_5068e_11 ?_
  refine lv_aload_n hx hb dJ5_charAt_5068e_14 rfl (lv_at hl 0 rfl) ?_
  refine va_alen (v := Int32.ofNat (a 2)) hx hb hK hP 1 0 rfl rfl rfl dJ5_charAt_5068e_15 ?_
  refine lv_topi (fun z2 ez2 => ?_)
  have h := nd_at h ez2
  refine lv_iload_n hx hb dJ5_charAt_5068e_16 rfl (lv_at hl 1 rfl) ?_
  refine lv_ishr hx hb dJ5_charAt_5068e_17 ?_
  refine va_mmin hx hb (by rw [hml]; exact hl.1.symm) hown (hts (.methodLink RJ5 138 Lib.Math.min.name) (List.mem_of_getElem? (i := 4) rfl)) (hts (.static Lib.Math.min.name) (List.mem_of_getElem? (i := 5) rfl)) (hts (.initialized "java/lang/Math") (List.mem_of_getElem? (i := 6) rfl)) (hts (.code Lib.Math.min.name Lib.Math.min.code 2 (some .int)) (List.mem_of_getElem? (i := 7) rfl)) (Nat.le_of_ble_eq_true rfl) (Nat.le_of_ble_eq_true rfl) (by decide +kernel) (by decide +kernel) dJ5_charAt_5068e_18 ?_
  refine lv_topi (fun z3 ez3 => ?_)
  have h := nd_at h ez3
  refine lv_istore (lv' := [(4, .int z3), (3, .ref (a 1)), (2, .int z1), (0, .ref (a 0)), (1, .int v0)]) hx hb dJ5_charAt_5068e_21 hl (by decide) rfl (fun ls hl => ?_)
  refine lv_iload_n hx hb dJ5_charAt_5068e_23 rfl (lv_at hl 4 rfl) ?_
  refine lv_iload hx hb dJ5_charAt_5068e_24 (lv_at hl 0 rfl) ?_
  obtain ⟨s5, hq, h⟩ := nd_b1_e h
  have hPc : va_P (dC, dI) vwCl (dw_P a ac ()) H := nd_p0
  have hDc : va_D A (dw_P a ac ()) := nd_d0
  have hKc : va_K (dC, dI) vwCl (dk_P ac) s := nd_y0 hK
  have hFc : ∀ q, va_A (dw_P a ac ()) H.size q → A q := nd_r0 hS hA
  refine nd_cSv (As := [.int v0, .int z3]) (rest := []) (w' := dw_P a ac s5) ⟨hx, hb, hml, hown, hts⟩ (fun sz => dm_J0_checkIndex_df160 l hlt dC dI a ac n (v0) (z3) () hq sz) (va_cwS 2 hts gi_dm_J5_charAt_5068e_0 rfl rfl rfl (by decide +kernel) ⟨Nat.le_of_ble_eq_true rfl, Nat.le_of_ble_eq_true rfl⟩) hPc hDc hKc hS hA hN rfl hl.1 rfl (Nat.le_of_ble_eq_true rfl) dJ5_charAt_5068e_26 (fun H locs hP1 hD1 hk1 hS => ?_)
  have hP := nd_n0 hP hk1
  refine lv_iload_n hx hb dJ5_charAt_5068e_29 rfl (lv_at hl 2 rfl) ?_
  refine lv_if_ne (tgt := 42) hx hb dJ5_charAt_5068e_30 (by decide) (fun c7 => ?_) (fun c7 => ?_)
  · have h := nd_neg h c7
    exact nomatch (show (none : Option (Int32 × (St))) = some r from h)
  · have h := nd_pos h c7
    refine lv_aload_n hx hb dJ5_charAt_5068e_33 rfl (lv_at hl 1 rfl) ?_
    refine lv_iload_n hx hb dJ5_charAt_5068e_34 rfl (lv_at hl 4 rfl) ?_
    obtain ⟨i8, h⟩ := nd_ck_e h
    refine va_bald (i := v0) hx hb hK hP 1 0 rfl rfl i8 dJ5_charAt_5068e_35 ?_
    refine lv_sipush (v := 255) hx hb dJ5_charAt_5068e_36 (by decide) ?_
    refine lv_iand hx hb dJ5_charAt_5068e_39 ?_
    refine lv_i2c hx hb dJ5_charAt_5068e_40 rfl ?_
    obtain ⟨n9, h⟩ := nd_z_e ⟨_, rfl⟩ h
    exact K _ _ _ _ _ _ dJ5_charAt_5068e_41 n9 (Option.some.inj h).symm hP hD hS
set_option maxHeartbeats 40000000 in
set_option maxRecDepth 100000 in
theorem dm_J5_charAt_5068e (l : Launch) (hlt : l.stackTraces = false) (dC : Nat → ClassId) (dI : Nat → Nat → Nat) (a : Nat → Nat) (ac : Nat → ClassId) (n : Nat) (v0 : Int32) (s0 : St) {r : Int32 × (St)} (h : df_J5_charAt_5068e n (a 2) v0 s0 = some r) (sz : Nat) : Met l yJ5_charAt_5068e ow_dm_J5_charAt_5068e ({ frames := 2, cells := 0, slots := 0, locals := 43 }) (va_Pc [.ref (a 0), .int v0] (fun U => U.heap.size = sz ∧ va_P (dC, dI) vwCl (dw_J4 a ac s0) U.heap ∧ va_K (dC, dI) vwCl (dk_J4 ac) U ∧ va_D (fun _ => True) (dw_J4 a ac s0) ∧ nv_E dI (va_A (dw_J4 a ac s0) sz) U)) (va_Qi (fun x _ => x = r.1) (fun (_ : Unit) t => va_P (dC, dI) vwCl (dw_J4 a ac r.2) t.heap ∧ va_K (dC, dI) vwCl (dk_J4 ac) t ∧ va_D (va_A (dw_J4 a ac s0) sz) (dw_J4 a ac r.2)) (va_A (dw_J4 a ac s0) sz)) 0 0 (va_A (dw_J4 a ac s0) sz) := by
  refine Met.ofW (cc := cJ5_charAt_5068e) (maxL := 5) (ret := (some .char)) (by decide) rfl ?_
  intro p e s m args below meth c s₁ B hml hv
  obtain ⟨rfl, hsz, hP, hK, hD0, hN⟩ := hv
  have hx := B.exec
  have hb := B.bytes
  have hr := B.returns
  have hts := atoms_spec (ws := ow_dm_J5_charAt_5068e) B.pre
  have hown : s.vm.findClass RJ5 = some m.cls := findClass_of_methodNamed B.named
  have hlocks := B.notSynchronized
  subst hsz
  have hD := hD0.self (sz := s.heap.size)
  generalize hAe : va_A (dw_J4 a ac s0) s.heap.size = A at hD hN ⊢
  have hA : ∀ q : Nat, s.heap.size ≤ q → A q := fun q h => by rw [← hAe]; exact Or.inr h
  have hl := lv_entry ([.ref (a 0), .int v0]) (n := 5) (Nat.le_of_ble_eq_true rfl)
  rw [lg_entry_eq]
  generalize (lg_sl ([.ref (a 0), .int v0]) ++ List.replicate (5 - (lg_sl ([.ref (a 0), .int v0])).length) Slot.unset).toArray = ls at hl ⊢
  have hl : lv_has ls 5 [(0, .ref (a 0)), (1, .int v0)] := hl
  exact db_J5_charAt_5068e_0 (dC := dC) (dI := dI) (a := a) (ac := ac) (n := n) (r := r) ⟨hlt, hx, hb, hml, hown, hts, hN, hA, hK⟩ (fun pc v τ H locs ls d z er hP hD hS => by subst er; exact W.zret (v := v) hx hb hr z (fun t ht hW => ⟨⟨v, (), rfl, rfl, by rw [ht]; exact hP, va_K.moved hW.alike hK, hD⟩, hS.F ht⟩) hS.2.2 d) v0 s0 _ _ _ h hP hD va_S.rf (lv_sub hl [0, 1] rfl)
def ow_dm_J5_inflateIfNeededFor_a7421 : List Cond := Cond.code yJ5_inflateIfNeededFor_a7421 cJ5_inflateIfNeededFor_a7421 2 none :: ([Cond.fieldLink RJ5 18 "java/lang/String" "COMPACT_STRINGS" "Z", Cond.fieldLink RJ5 22 "java/lang/AbstractStringBuilder" "coder" "B", Cond.methodLink RJ5 40 yJ0_coder_7d493, Cond.instanceMethod yJ0_coder_7d493, Cond.selects RJ0 yJ0_coder_7d493 yJ0_coder_7d493, Cond.initialized RJ0] ++ (u_ws RJ4 TJ4 4 ++ (ow_dm_J0_coder_7d493 ++ [])))
theorem gd_dm_J5_inflateIfNeededFor_a7421 : ∀ w ∈ ow_dm_J5_inflateIfNeededFor_a7421, (w.onTables && w.keeps) = true ∨ ∃ ty, w = Cond.arrayClass ty := List.forall_mem_cons.mpr ⟨good_of_word rfl, List.forall_mem_append.mpr ⟨fun w h => good_of_word (List.all_eq_true.mp (by decide +kernel) w h), List.forall_mem_append.mpr ⟨gu_J4, List.forall_mem_append.mpr ⟨gd_dm_J0_coder_7d493, fun _ h => nomatch h⟩⟩⟩⟩
theorem hi_dm_J5_inflateIfNeededFor_a7421_J4 : ∀ w ∈ u_ws RJ4 TJ4 4, w ∈ ow_dm_J5_inflateIfNeededFor_a7421 := fun w h => List.mem_cons_of_mem _ (List.mem_append_right _ (List.mem_append_left _ h))
theorem gi_dm_J5_inflateIfNeededFor_a7421_0 : GoodIn ow_dm_J5_inflateIfNeededFor_a7421 (wsV RJ5 40 RJ0 yJ0_coder_7d493 ow_dm_J0_coder_7d493) := goodIn_app (goodIn_of _ (by decide +kernel)) (fun w h => ⟨List.mem_cons_of_mem _ (List.mem_append_right _ (List.mem_append_right _ (List.mem_append_left _ h))), gd_dm_J0_coder_7d493 w h⟩)
def dj_J5_inflateIfNeededFor_a7421_21 (p : Program) (l : Launch) (e : Env) (s : State) (m : MethodId) (args : Array Value) (below : List Frame) (meth : Method) (c : Code) (Q : State → Prop) (A : Nat → Prop) (dC : Nat → ClassId) (dI : Nat → Nat → Nat) (a : Nat → Nat) (ac : Nat → ClassId) (g : (St) → Option (St)) (r : St) : Prop := ∀ (s0 : St) (H : Heap) (locs : List Loc) (ls : Array Slot), g s0 = some r → va_P (dC, dI) vwCl (dw_J4 a ac s0) H → va_D A (dw_J4 a ac s0) → va_S A s.heap H locs → lv_has ls 2 [] → W p l e (headSpec ow_dm_J5_inflateIfNeededFor_a7421 ({ frames := 1, cells := 0, slots := 0, locals := 20 })).room s m args below meth c H locs 0 0 Q (F0 m 21 ls [])
def dj_J5_inflateIfNeededFor_a7421_0 (p : Program) (l : Launch) (e : Env) (s : State) (m : MethodId) (args : Array Value) (below : List Frame) (meth : Method) (c : Code) (Q : State → Prop) (A : Nat → Prop) (dC : Nat → ClassId) (dI : Nat → Nat → Nat) (a : Nat → Nat) (ac : Nat → ClassId) (g : Nat → (St) → Option (St)) (r : St) : Prop := ∀ (v0 : Nat) (s0 : St) (H : Heap) (locs : List Loc) (ls : Array Slot), g v0 s0 = some r → va_P (dC, dI) vwCl (dw_J4 a ac s0) H → va_D A (dw_J4 a ac s0) → va_S A s.heap H locs → lv_has ls 2 [(0, .ref (a 0)), (1, .ref (dI 1000 v0))] → W p l e (headSpec ow_dm_J5_inflateIfNeededFor_a7421 ({ frames := 1, cells := 0, slots := 0, locals := 20 })).room s m args below meth c H locs 0 0 Q (F0 m 0 ls [])
set_option maxHeartbeats 40000000 in
set_option maxRecDepth 100000 in
theorem db_J5_inflateIfNeededFor_a7421_21 {p : Program} {l : Launch} {e : Env} {s : State} {m : MethodId} {args : Array Value} {below : List Frame} {meth : Method} {c : Code} {Q : State → Prop} {A : Nat → Prop} {dC : Nat → ClassId} {dI : Nat → Nat → Nat} {a : Nat → Nat} {ac : Nat → ClassId} {n : Nat} {r : St} (C : nd_C p l s m args c A (dC, dI) cJ5_inflateIfNeededFor_a7421 2 RJ5 ow_dm_J5_inflateIfNeededFor_a7421 (dk_J4 ac)) (K : nd_Kv p l e (headSpec ow_dm_J5_inflateIfNeededFor_a7421 ({ frames := 1, cells := 0, slots := 0, locals := 20 })).room s m args below meth c Q A (dC, dI) cJ5_inflateIfNeededFor_a7421 (St) (dw_J4 a ac) r) : dj_J5_inflateIfNeededFor_a7421_21 p l e s m args below meth c Q A dC dI a ac (df_J5_inflateIfNeededFor_a7421_21 n (a 2)) r := by
  obtain ⟨hlt, hx, hb, hml, hown, hts, hN, hA, hK⟩ := id C
  intro s0 H locs ls h hP hD hS hl
  unfold df_J5_inflateIfNeededFor_a7421_21 at h
  exact K _ _ _ _ _ dJ5_inflateIfNeededFor_a7421_21 (Option.some.inj h).symm hP hD hS
set_option maxHeartbeats 40000000 in
set_option maxRecDepth 100000 in
theorem db_J5_inflateIfNeededFor_a7421_0 {p : Program} {l : Launch} {e : Env} {s : State} {m : MethodId} {args : Array Value} {below : List Frame} {meth : Method} {c : Code} {Q : State → Prop} {A : Nat → Prop} {dC : Nat → ClassId} {dI : Nat → Nat → Nat} {a : Nat → Nat} {ac : Nat → ClassId} {n : Nat} {r : St} (C : nd_C p l s m args c A (dC, dI) cJ5_inflateIfNeededFor_a7421 2 RJ5 ow_dm_J5_inflateIfNeededFor_a7421 (dk_J4 ac)) (K : nd_Kv p l e (headSpec ow_dm_J5_inflateIfNeededFor_a7421 ({ frames := 1, cells := 0, slots := 0, locals := 20 })).room s m args below meth c Q A (dC, dI) cJ5_inflateIfNeededFor_a7421 (St) (dw_J4 a ac) r) : dj_J5_inflateIfNeededFor_a7421_0 p l e s m args below meth c Q A dC dI a ac (df_J5_inflateIfNeededFor_a7421_0 n (a 2)) r := by
  obtain ⟨hlt, hx, hb, hml, hown, hts, hN, hA, hK⟩ := id C
  intro v0 s0 H locs ls h hP hD hS hl
  unfold df_J5_inflateIfNeededFor_a7421_0 at h
  refine va_gets (v := .int 1) hx hb hN.2.2.2.2.1 hS hown (hts (.fieldLink RJ5 18 "java/lang/String" "COMPACT_STRINGS" "Z") (List.mem_of_getElem? (i := 1) rfl)) (fun _ h9 => h9) dJ5_inflateIfNeededFor_a7421_0 ?_
  refine lv_if_eq (tgt := 21) hx hb dJ5_inflateIfNeededFor_a7421_3 (by decide) (fun h9 => absurd h9 (by decide)) (fun _ => ?_)
  refine lv_aload_n hx hb dJ5_inflateIfNeededFor_a7421_6 rfl (lv_at hl 0 rfl) ?_
  refine va_get (D := (dC, dI)) (ci := 1) (v := .int (sI s0 0)) (C := RJ4) (T := TJ4) (N := 4) hx hb hts hi_dm_J5_inflateIfNeededFor_a7421_J4 hown hK hP 0 rfl rfl 1 (by decide) (hts (.fieldLink RJ5 22 "java/lang/AbstractStringBuilder" "coder" "B") (List.mem_of_getElem? (i := 2) rfl)) (fun _ h9 => h9) rfl dJ5_inflateIfNeededFor_a7421_7 ?_
  refine lv_aload_n hx hb dJ5_inflateIfNeededFor_a7421_10 rfl (lv_at hl 1 rfl) ?_
  obtain ⟨i3, h⟩ := nd_lt_e h
  obtain ⟨q1, s2, hq, h⟩ := nd_b2_e h
  have hPc : va_P (dC, dI) vwCl (dw_P a ac ()) H := nd_p0
  have hDc : va_D A (dw_P a ac ()) := nd_d0
  have hKc : va_K (dC, dI) vwCl (dk_P ac) s := nd_y0 hK
  have hFc : ∀ q, va_A (dw_P a ac ()) H.size q → A q := nd_r0 hS hA
  refine nd_cVi (As := []) (rest := [.int (sI s0 0)]) (q := q1) (w' := dw_P a ac s2) ⟨hx, hb, hml, hown, hts⟩ (fun sz => dm_J0_coder_7d493 l hlt dC dI a ac n (v0) () hq sz) (cwV 0 hts gi_dm_J5_inflateIfNeededFor_a7421_0 rfl rfl rfl (by decide +kernel) ⟨Nat.le_of_ble_eq_true rfl, Nat.le_of_ble_eq_true rfl⟩) hPc hDc hKc hS hA hN (nv_rcv hN.2.2.2.2.2.2.2.2.2.2.2 i3 hS) rfl hl.1 rfl (Nat.le_of_ble_eq_true rfl) dJ5_inflateIfNeededFor_a7421_11 (fun H locs hP1 hD1 hk1 hS => ?_)
  have hP := nd_n0 hP hk1
  refine lv_icmp_eq (tgt := 21) hx hb dJ5_inflateIfNeededFor_a7421_14 (by decide) (fun c5 => ?_) (fun c5 => ?_)
  · have h := nd_pos h c5
    exact (db_J5_inflateIfNeededFor_a7421_21 C K)  s0 _ _ _ h hP hD hS (lv_sub hl [] rfl)
  · have h := nd_neg h c5
    exact nomatch (show (none : Option (St)) = some r from h)
set_option maxHeartbeats 40000000 in
set_option maxRecDepth 100000 in
theorem dm_J5_inflateIfNeededFor_a7421 (l : Launch) (hlt : l.stackTraces = false) (dC : Nat → ClassId) (dI : Nat → Nat → Nat) (a : Nat → Nat) (ac : Nat → ClassId) (n : Nat) (v0 : Nat) (s0 : St) {r : St} (h : df_J5_inflateIfNeededFor_a7421 n (a 2) v0 s0 = some r) (sz : Nat) : Met l yJ5_inflateIfNeededFor_a7421 ow_dm_J5_inflateIfNeededFor_a7421 ({ frames := 1, cells := 0, slots := 0, locals := 20 }) (va_Pc [.ref (a 0), .ref (dI 1000 v0)] (fun U => U.heap.size = sz ∧ va_P (dC, dI) vwCl (dw_J4 a ac s0) U.heap ∧ va_K (dC, dI) vwCl (dk_J4 ac) U ∧ va_D (fun _ => True) (dw_J4 a ac s0) ∧ nv_E dI (va_A (dw_J4 a ac s0) sz) U)) (va_Qv (fun _ => True) (fun (_ : Unit) t => va_P (dC, dI) vwCl (dw_J4 a ac r) t.heap ∧ va_K (dC, dI) vwCl (dk_J4 ac) t ∧ va_D (va_A (dw_J4 a ac s0) sz) (dw_J4 a ac r)) (va_A (dw_J4 a ac s0) sz)) 0 0 (va_A (dw_J4 a ac s0) sz) := by
  refine Met.ofW (cc := cJ5_inflateIfNeededFor_a7421) (maxL := 2) (ret := none) (by decide) rfl ?_
  intro p e s m args below meth c s₁ B hml hv
  obtain ⟨rfl, hsz, hP, hK, hD0, hN⟩ := hv
  have hx := B.exec
  have hb := B.bytes
  have hr := B.returns
  have hts := atoms_spec (ws := ow_dm_J5_inflateIfNeededFor_a7421) B.pre
  have hown : s.vm.findClass RJ5 = some m.cls := findClass_of_methodNamed B.named
  have hlocks := B.notSynchronized
  subst hsz
  have hD := hD0.self (sz := s.heap.size)
  generalize hAe : va_A (dw_J4 a ac s0) s.heap.size = A at hD hN ⊢
  have hA : ∀ q : Nat, s.heap.size ≤ q → A q := fun q h => by rw [← hAe]; exact Or.inr h
  have hl := lv_entry ([.ref (a 0), .ref (dI 1000 v0)]) (n := 2) (Nat.le_of_ble_eq_true rfl)
  rw [lg_entry_eq]
  generalize (lg_sl ([.ref (a 0), .ref (dI 1000 v0)]) ++ List.replicate (2 - (lg_sl ([.ref (a 0), .ref (dI 1000 v0)])).length) Slot.unset).toArray = ls at hl ⊢
  have hl : lv_has ls 2 [(0, .ref (a 0)), (1, .ref (dI 1000 v0))] := hl
  exact db_J5_inflateIfNeededFor_a7421_0 (dC := dC) (dI := dI) (a := a) (ac := ac) (n := n) (r := r) ⟨hlt, hx, hb, hml, hown, hts, hN, hA, hK⟩ (fun pc τ H locs ls d er hP hD hS => by subst er; exact W.vret hx hb hr (fun t ht hW => ⟨⟨(), rfl, trivial, by rw [ht]; exact hP, va_K.moved hW.alike hK, hD⟩, hS.F ht⟩) hS.2.2 d) v0 s0 _ _ _ h hP hD va_S.rf (lv_sub hl [0, 1] rfl)
def ow_dm_J0_getBytes_840e7 : List Cond := Cond.code yJ0_getBytes_840e7 cJ0_getBytes_840e7 4 none :: ([Cond.methodLink RJ0 335 yJ0_coder_7d493, Cond.instanceMethod yJ0_coder_7d493, Cond.selects RJ0 yJ0_coder_7d493 yJ0_coder_7d493, Cond.initialized RJ0, Cond.fieldLink RJ0 9 "java/lang/String" "value" "[B", Cond.methodLink RJ0 212 arraycopyName, .native arraycopyName, Cond.static arraycopyName, Cond.initialized "java/lang/System"] ++ (ow_dm_J0_coder_7d493 ++ []))
theorem gd_dm_J0_getBytes_840e7 : ∀ w ∈ ow_dm_J0_getBytes_840e7, (w.onTables && w.keeps) = true ∨ ∃ ty, w = Cond.arrayClass ty := List.forall_mem_cons.mpr ⟨good_of_word rfl, List.forall_mem_append.mpr ⟨fun w h => good_of_word (List.all_eq_true.mp (by decide +kernel) w h), List.forall_mem_append.mpr ⟨gd_dm_J0_coder_7d493, fun _ h => nomatch h⟩⟩⟩
theorem gi_dm_J0_getBytes_840e7_0 : GoodIn ow_dm_J0_getBytes_840e7 (wsV RJ0 335 RJ0 yJ0_coder_7d493 ow_dm_J0_coder_7d493) := goodIn_app (goodIn_of _ (by decide +kernel)) (fun w h => ⟨List.mem_cons_of_mem _ (List.mem_append_right _ (List.mem_append_left _ h)), gd_dm_J0_coder_7d493 w h⟩)
def dj_J0_getBytes_840e7_43 (p : Program) (l : Launch) (e : Env) (s : State) (m : MethodId) (args : Array Value) (below : List Frame) (meth : Method) (c : Code) (Q : State → Prop) (A : Nat → Prop) (dC : Nat → ClassId) (dI : Nat → Nat → Nat) (a : Nat → Nat) (ac : Nat → ClassId) (g : (St) → Option (St)) (r : St) : Prop := ∀ (s0 : St) (H : Heap) (locs : List Loc) (ls : Array Slot), g s0 = some r → va_P (dC, dI) vwCl (dw_BYm a ac s0) H → va_D A (dw_BYm a ac s0) → va_S A s.heap H locs → lv_has ls 4 [] → W p l e (headSpec ow_dm_J0_getBytes_840e7 ({ frames := 1, cells := 0, slots := 0, locals := 40 })).room s m args below meth c H locs 0 0 Q (F0 m 43 ls [])
def dj_J0_getBytes_840e7_0 (p : Program) (l : Launch) (e : Env) (s : State) (m : MethodId) (args : Array Value) (below : List Frame) (meth : Method) (c : Code) (Q : State → Prop) (A : Nat → Prop) (dC : Nat → ClassId) (dI : Nat → Nat → Nat) (a : Nat → Nat) (ac : Nat → ClassId) (g : Nat → Int32 → Int32 → (St) → Option (St)) (r : St) : Prop := ∀ (vt : Nat) (v1 : Int32) (v2 : Int32) (s0 : St) (H : Heap) (locs : List Loc) (ls : Array Slot), g vt v1 v2 s0 = some r → va_P (dC, dI) vwCl (dw_BYm a ac s0) H → va_D A (dw_BYm a ac s0) → va_S A s.heap H locs → lv_has ls 4 [(0, .ref (dI 1000 vt)), (1, .ref (a 0)), (2, .int v1), (3, .int v2)] → W p l e (headSpec ow_dm_J0_getBytes_840e7 ({ frames := 1, cells := 0, slots := 0, locals := 40 })).room s m args below meth c H locs 0 0 Q (F0 m 0 ls [])
set_option maxHeartbeats 40000000 in
set_option maxRecDepth 100000 in
theorem db_J0_getBytes_840e7_43 {p : Program} {l : Launch} {e : Env} {s : State} {m : MethodId} {args : Array Value} {below : List Frame} {meth : Method} {c : Code} {Q : State → Prop} {A : Nat → Prop} {dC : Nat → ClassId} {dI : Nat → Nat → Nat} {a : Nat → Nat} {ac : Nat → ClassId} {n : Nat} {r : St} (C : nd_C p l s m args c A (dC, dI) cJ0_getBytes_840e7 4 RJ0 ow_dm_J0_getBytes_840e7 (dk_BYm ac)) (K : nd_Kv p l e (headSpec ow_dm_J0_getBytes_840e7 ({ frames := 1, cells := 0, slots := 0, locals := 40 })).room s m args below meth c Q A (dC, dI) cJ0_getBytes_840e7 (St) (dw_BYm a ac) r) : dj_J0_getBytes_840e7_43 p l e s m args below meth c Q A dC dI a ac (df_J0_getBytes_840e7_43 n (a 1)) r := by
  obtain ⟨hlt, hx, hb, hml, hown, hts, hN, hA, hK⟩ := id C
  intro s0 H locs ls h hP hD hS hl
  unfold df_J0_getBytes_840e7_43 at h
  exact K _ _ _ _ _ dJ0_getBytes_840e7_43 (Option.some.inj h).symm hP hD hS
set_option maxHeartbeats 40000000 in
set_option maxRecDepth 100000 in
theorem db_J0_getBytes_840e7_0 {p : Program} {l : Launch} {e : Env} {s : State} {m : MethodId} {args : Array Value} {below : List Frame} {meth : Method} {c : Code} {Q : State → Prop} {A : Nat → Prop} {dC : Nat → ClassId} {dI : Nat → Nat → Nat} {a : Nat → Nat} {ac : Nat → ClassId} {n : Nat} {r : St} (C : nd_C p l s m args c A (dC, dI) cJ0_getBytes_840e7 4 RJ0 ow_dm_J0_getBytes_840e7 (dk_BYm ac)) (K : nd_Kv p l e (headSpec ow_dm_J0_getBytes_840e7 ({ frames := 1, cells := 0, slots := 0, locals := 40 })).room s m args below meth c Q A (dC, dI) cJ0_getBytes_840e7 (St) (dw_BYm a ac) r) : dj_J0_getBytes_840e7_0 p l e s m args below meth c Q A dC dI a ac (df_J0_getBytes_840e7_0 n (a 1)) r := by
  obtain ⟨hlt, hx, hb, hml, hown, hts, hN, hA, hK⟩ := id C
  intro vt v1 v2 s0 H locs ls h hP hD hS hl
  unfold df_J0_getBytes_840e7_0 at h
  refine lv_aload_n hx hb dJ0_getBytes_840e7_0 rfl (lv_at hl 0 rfl) ?_
  obtain ⟨i3, h⟩ := nd_lt_e h
  obtain ⟨q1, s2, hq, h⟩ := nd_b2_e h
  have hPc : va_P (dC, dI) vwCl (dw_P a ac ()) H := nd_p0
  have hDc : va_D A (dw_P a ac ()) := nd_d0
  have hKc : va_K (dC, dI) vwCl (dk_P ac) s := nd_y0 hK
  have hFc : ∀ q, va_A (dw_P a ac ()) H.size q → A q := nd_r0 hS hA
  refine nd_cVi (As := []) (rest := []) (q := q1) (w' := dw_P a ac s2) ⟨hx, hb, hml, hown, hts⟩ (fun sz => dm_J0_coder_7d493 l hlt dC dI a ac n (vt) () hq sz) (cwV 0 hts gi_dm_J0_getBytes_840e7_0 rfl rfl rfl (by decide +kernel) ⟨Nat.le_of_ble_eq_true rfl, Nat.le_of_ble_eq_true rfl⟩) hPc hDc hKc hS hA hN (nv_rcv hN.2.2.2.2.2.2.2.2.2.2.2 i3 hS) rfl hl.1 rfl (Nat.le_of_ble_eq_true rfl) dJ0_getBytes_840e7_1 (fun H locs hP1 hD1 hk1 hS => ?_)
  have hP := nd_n0 hP hk1
  refine lv_iload_n hx hb dJ0_getBytes_840e7_4 rfl (lv_at hl 3 rfl) ?_
  refine lv_icmp_ne (tgt := 28) hx hb dJ0_getBytes_840e7_5 (by decide) (fun c5 => ?_) (fun c5 => ?_)
  · have h := nd_neg h c5
    exact nomatch (show (none : Option (St)) = some r from h)
  · have h := nd_pos h c5
    refine lv_aload_n hx hb dJ0_getBytes_840e7_8 rfl (lv_at hl 0 rfl) ?_
    obtain ⟨i6, h⟩ := nd_lt_e h
    refine vk_getf hx hb (hN.2.2.2.2.2.2.2.2.2.2.2.1 vt i6).2.2.1 hS hown (hts (.fieldLink RJ0 9 "java/lang/String" "value" "[B") (List.mem_of_getElem? (i := 5) rfl)) (fun _ h9 => h9) dJ0_getBytes_840e7_9 ?_
    refine lv_iconst (v := 0) hx hb dJ0_getBytes_840e7_12 (by decide) ?_
    refine lv_aload_n hx hb dJ0_getBytes_840e7_13 rfl (lv_at hl 1 rfl) ?_
    refine lv_iload_n hx hb dJ0_getBytes_840e7_14 rfl (lv_at hl 2 rfl) ?_
    refine lv_iload_n hx hb dJ0_getBytes_840e7_15 rfl (lv_at hl 3 rfl) ?_
    refine lv_ishl hx hb dJ0_getBytes_840e7_16 ?_
    refine lv_aload_n hx hb dJ0_getBytes_840e7_17 rfl (lv_at hl 0 rfl) ?_
    obtain ⟨i7, h⟩ := nd_lt_e h
    refine vk_getf hx hb (hN.2.2.2.2.2.2.2.2.2.2.2.1 vt i7).2.2.1 hS hown (hts (.fieldLink RJ0 9 "java/lang/String" "value" "[B") (List.mem_of_getElem? (i := 5) rfl)) (fun _ h9 => h9) dJ0_getBytes_840e7_18 ?_
    obtain ⟨i8, h⟩ := nd_lt_e h
    refine va_tlen (v := Int32.ofNat (ks_n vt)) hx hb (hN.2.2.2.2.2.2.2.2.2.2.2.1 vt i8).2.2.2 hS rfl dJ0_getBytes_840e7_21 ?_
    obtain ⟨i9, h⟩ := nd_lt_e h
    obtain ⟨k10, h⟩ := nd_cp_e h
    refine nv_copyT (sp := 0) (dp := ((v1 : Int32) <<< ((v2 : Int32) &&& 31))) (n := (Int32.ofNat (ks_n vt))) hx hb (by rw [hml]; exact hl.1.symm) hown (hts (.methodLink RJ0 212 arraycopyName) (List.mem_of_getElem? (i := 6) rfl)) (hts (.native arraycopyName) (List.mem_of_getElem? (i := 7) rfl)) (hts (.static arraycopyName) (List.mem_of_getElem? (i := 8) rfl)) (hts (.initialized "java/lang/System") (List.mem_of_getElem? (i := 9) rfl)) hK hP hD hS (hN.2.2.2.2.2.2.2.2.2.2.2.1 vt i9).2.2.2 0 0 rfl rfl rfl k10.1 k10.2.1 k10.2.2.1 k10.2.2.2.1 k10.2.2.2.2 (fun _ _ => ks_fit _ _) (Nat.le_of_ble_eq_true rfl) (by decide +kernel) dJ0_getBytes_840e7_22 (fun H locs hP hD hS => ?_)
    obtain ⟨s11, es11, h⟩ := nd_let_e h
    have hP : va_P (dC, dI) vwCl (dw_BYm a ac s11) H := by rw [es11]; exact hP
    have hD : va_D A (dw_BYm a ac s11) := by rw [es11]; exact hD
    refine lv_goto (tgt := 43) hx hb dJ0_getBytes_840e7_25 (by decide) ?_
    exact (db_J0_getBytes_840e7_43 C K)  s11 _ _ _ h hP hD hS (lv_sub hl [] rfl)
set_option maxHeartbeats 40000000 in
set_option maxRecDepth 100000 in
theorem dm_J0_getBytes_840e7 (l : Launch) (hlt : l.stackTraces = false) (dC : Nat → ClassId) (dI : Nat → Nat → Nat) (a : Nat → Nat) (ac : Nat → ClassId) (n : Nat) (vt : Nat) (v1 : Int32) (v2 : Int32) (s0 : St) {r : St} (h : df_J0_getBytes_840e7 n (a 1) vt v1 v2 s0 = some r) (sz : Nat) : Met l yJ0_getBytes_840e7 ow_dm_J0_getBytes_840e7 ({ frames := 1, cells := 0, slots := 0, locals := 40 }) (va_Pc [.ref (dI 1000 vt), .ref (a 0), .int v1, .int v2] (fun U => U.heap.size = sz ∧ va_P (dC, dI) vwCl (dw_BYm a ac s0) U.heap ∧ va_K (dC, dI) vwCl (dk_BYm ac) U ∧ va_D (fun _ => True) (dw_BYm a ac s0) ∧ nv_E dI (va_A (dw_BYm a ac s0) sz) U)) (va_Qv (fun _ => True) (fun (_ : Unit) t => va_P (dC, dI) vwCl (dw_BYm a ac r) t.heap ∧ va_K (dC, dI) vwCl (dk_BYm ac) t ∧ va_D (va_A (dw_BYm a ac s0) sz) (dw_BYm a ac r)) (va_A (dw_BYm a ac s0) sz)) 0 0 (va_A (dw_BYm a ac s0) sz) := by
  refine Met.ofW (cc := cJ0_getBytes_840e7) (maxL := 4) (ret := none) (by decide) rfl ?_
  intro p e s m args below meth c s₁ B hml hv
  obtain ⟨rfl, hsz, hP, hK, hD0, hN⟩ := hv
  have hx := B.exec
  have hb := B.bytes
  have hr := B.returns
  have hts := atoms_spec (ws := ow_dm_J0_getBytes_840e7) B.pre
  have hown : s.vm.findClass RJ0 = some m.cls := findClass_of_methodNamed B.named
  have hlocks := B.notSynchronized
  subst hsz
  have hD := hD0.self (sz := s.heap.size)
  generalize hAe : va_A (dw_BYm a ac s0) s.heap.size = A at hD hN ⊢
  have hA : ∀ q : Nat, s.heap.size ≤ q → A q := fun q h => by rw [← hAe]; exact Or.inr h
  have hl := lv_entry ([.ref (dI 1000 vt), .ref (a 0), .int v1, .int v2]) (n := 4) (Nat.le_of_ble_eq_true rfl)
  rw [lg_entry_eq]
  generalize (lg_sl ([.ref (dI 1000 vt), .ref (a 0), .int v1, .int v2]) ++ List.replicate (4 - (lg_sl ([.ref (dI 1000 vt), .ref (a 0), .int v1, .int v2])).length) Slot.unset).toArray = ls at hl ⊢
  have hl : lv_has ls 4 [(0, .ref (dI 1000 vt)), (1, .ref (a 0)), (2, .int v1), (3, .int v2)] := hl
  exact db_J0_getBytes_840e7_0 (dC := dC) (dI := dI) (a := a) (ac := ac) (n := n) (r := r) ⟨hlt, hx, hb, hml, hown, hts, hN, hA, hK⟩ (fun pc τ H locs ls d er hP hD hS => by subst er; exact W.vret hx hb hr (fun t ht hW => ⟨⟨(), rfl, trivial, by rw [ht]; exact hP, va_K.moved hW.alike hK, hD⟩, hS.F ht⟩) hS.2.2 d) vt v1 v2 s0 _ _ _ h hP hD va_S.rf (lv_sub hl [0, 1, 2, 3] rfl)
set_option maxHeartbeats 40000000 in
set_option maxRecDepth 100000 in
theorem dp_vJ4_BYm_0 {D : va_G} {H : Heap} {a : Nat → Nat} {ac : Nat → ClassId} {σ : St} (h : va_P D vwCl (dw_J4 a ac σ) H) : va_P D vwCl (dw_BYm (fun k => a (nd_ix [1, 2] k)) (fun k => ac (nd_ix [1, 2] k)) ((pR nd_st0 0 (sR σ 0)))) H := h.sub [1] rfl
set_option maxHeartbeats 40000000 in
set_option maxRecDepth 100000 in
theorem dd_vJ4_BYm_0 {A : Nat → Prop} {a : Nat → Nat} {ac : Nat → ClassId} {σ : St} (h : va_D A (dw_J4 a ac σ)) : va_D A (dw_BYm (fun k => a (nd_ix [1, 2] k)) (fun k => ac (nd_ix [1, 2] k)) ((pR nd_st0 0 (sR σ 0)))) := h.sub [1] (by decide) rfl
set_option maxHeartbeats 40000000 in
set_option maxRecDepth 100000 in
theorem dy_vJ4_BYm_0 {D : va_G} {U : State} {ac : Nat → ClassId} (h : va_K D vwCl (dk_J4 ac) U) : va_K D vwCl (dk_BYm (fun k => ac (nd_ix [1, 2] k))) U := h.sub [0] rfl
set_option maxHeartbeats 40000000 in
set_option maxRecDepth 100000 in
theorem dn_vJ4_BYm_0 {A0 : Nat → Prop} {D : va_G} {H H1 : Heap} {a : Nat → Nat} {ac : Nat → ClassId} {σ : St} {τ : St} (hP : va_P D vwCl (dw_J4 a ac σ) H) (hD : va_D A0 (dw_J4 a ac σ)) (hA : ∀ q : Nat, H.size ≤ q → A0 q) (hk : ∀ q : Nat, q < H.size → ¬ va_A (dw_BYm (fun k => a (nd_ix [1, 2] k)) (fun k => ac (nd_ix [1, 2] k)) ((pR nd_st0 0 (sR σ 0)))) H.size q → H1[q]? = H[q]?) (h1 : va_P D vwCl (dw_BYm (fun k => a (nd_ix [1, 2] k)) (fun k => ac (nd_ix [1, 2] k)) τ) H1) (h2 : va_D (va_A (dw_BYm (fun k => a (nd_ix [1, 2] k)) (fun k => ac (nd_ix [1, 2] k)) ((pR nd_st0 0 (sR σ 0)))) H.size) (dw_BYm (fun k => a (nd_ix [1, 2] k)) (fun k => ac (nd_ix [1, 2] k)) τ)) : va_P D vwCl (dw_J4 a ac (pR σ 0 (sR τ 0))) H1 ∧ va_D A0 (dw_J4 a ac (pR σ 0 (sR τ 0))) := by
  obtain ⟨h1, h2⟩ := va_join (wr := [0].filterMap (fun i => (dw_J4 a ac σ)[i]?)) hP hD [1] [0] rfl rfl (by decide) (by decide) hk (nd_rq (dd_vJ4_BYm_0 hD) hA) h1 h2
  exact ⟨h1.sub [0, 1] rfl, h2.sub [0, 1] (by decide) rfl⟩
def ow_dm_J5_putStringAt_47b60 : List Cond := Cond.code yJ5_putStringAt_47b60 cJ5_putStringAt_47b60 3 none :: ([Cond.methodLink RJ5 397 ⟨"java/lang/AbstractStringBuilder", "inflateIfNeededFor", "(Ljava/lang/String;)V"⟩, .sameMethod "java/lang/AbstractStringBuilder" "java/lang/AbstractStringBuilder" "inflateIfNeededFor" "(Ljava/lang/String;)V", Cond.selects RJ4 ⟨"java/lang/AbstractStringBuilder", "inflateIfNeededFor", "(Ljava/lang/String;)V"⟩ yJ5_inflateIfNeededFor_a7421, Cond.instanceMethod yJ5_inflateIfNeededFor_a7421, Cond.initialized RJ5, Cond.fieldLink RJ5 15 "java/lang/AbstractStringBuilder" "value" "[B", Cond.fieldLink RJ5 22 "java/lang/AbstractStringBuilder" "coder" "B", Cond.methodLink RJ5 399 yJ0_getBytes_840e7, Cond.instanceMethod yJ0_getBytes_840e7, Cond.selects RJ0 yJ0_getBytes_840e7 yJ0_getBytes_840e7, Cond.initialized RJ0] ++ (u_ws RJ4 TJ4 4 ++ (ow_dm_J5_inflateIfNeededFor_a7421 ++ (ow_dm_J0_getBytes_840e7 ++ []))))
theorem gd_dm_J5_putStringAt_47b60 : ∀ w ∈ ow_dm_J5_putStringAt_47b60, (w.onTables && w.keeps) = true ∨ ∃ ty, w = Cond.arrayClass ty := List.forall_mem_cons.mpr ⟨good_of_word rfl, List.forall_mem_append.mpr ⟨fun w h => good_of_word (List.all_eq_true.mp (by decide +kernel) w h), List.forall_mem_append.mpr ⟨gu_J4, List.forall_mem_append.mpr ⟨gd_dm_J5_inflateIfNeededFor_a7421, List.forall_mem_append.mpr ⟨gd_dm_J0_getBytes_840e7, fun _ h => nomatch h⟩⟩⟩⟩⟩
theorem hi_dm_J5_putStringAt_47b60_J4 : ∀ w ∈ u_ws RJ4 TJ4 4, w ∈ ow_dm_J5_putStringAt_47b60 := fun w h => List.mem_cons_of_mem _ (List.mem_append_right _ (List.mem_append_left _ h))
theorem gi_dm_J5_putStringAt_47b60_0 : GoodIn ow_dm_J5_putStringAt_47b60 (va_wsU RJ5 397 RJ4 "java/lang/AbstractStringBuilder" ⟨"java/lang/AbstractStringBuilder", "inflateIfNeededFor", "(Ljava/lang/String;)V"⟩ yJ5_inflateIfNeededFor_a7421 ow_dm_J5_inflateIfNeededFor_a7421) := goodIn_app (goodIn_of _ (by decide +kernel)) (fun w h => ⟨List.mem_cons_of_mem _ (List.mem_append_right _ (List.mem_append_right _ (List.mem_append_left _ h))), gd_dm_J5_inflateIfNeededFor_a7421 w h⟩)
theorem gi_dm_J5_putStringAt_47b60_1 : GoodIn ow_dm_J5_putStringAt_47b60 (wsV RJ5 399 RJ0 yJ0_getBytes_840e7 ow_dm_J0_getBytes_840e7) := goodIn_app (goodIn_of _ (by decide +kernel)) (fun w h => ⟨List.mem_cons_of_mem _ (List.mem_append_right _ (List.mem_append_right _ (List.mem_append_right _ (List.mem_append_left _ h)))), gd_dm_J0_getBytes_840e7 w h⟩)
def dj_J5_putStringAt_47b60_0 (p : Program) (l : Launch) (e : Env) (s : State) (m : MethodId) (args : Array Value) (below : List Frame) (meth : Method) (c : Code) (Q : State → Prop) (A : Nat → Prop) (dC : Nat → ClassId) (dI : Nat → Nat → Nat) (a : Nat → Nat) (ac : Nat → ClassId) (g : Int32 → Nat → (St) → Option (St)) (r : St) : Prop := ∀ (v0 : Int32) (v1 : Nat) (s0 : St) (H : Heap) (locs : List Loc) (ls : Array Slot), g v0 v1 s0 = some r → va_P (dC, dI) vwCl (dw_J4 a ac s0) H → va_D A (dw_J4 a ac s0) → va_S A s.heap H locs → lv_has ls 3 [(0, .ref (a 0)), (1, .int v0), (2, .ref (dI 1000 v1))] → W p l e (headSpec ow_dm_J5_putStringAt_47b60 ({ frames := 2, cells := 0, slots := 0, locals := 63 })).room s m args below meth c H locs 0 0 Q (F0 m 0 ls [])
set_option maxHeartbeats 40000000 in
set_option maxRecDepth 100000 in
theorem db_J5_putStringAt_47b60_0 {p : Program} {l : Launch} {e : Env} {s : State} {m : MethodId} {args : Array Value} {below : List Frame} {meth : Method} {c : Code} {Q : State → Prop} {A : Nat → Prop} {dC : Nat → ClassId} {dI : Nat → Nat → Nat} {a : Nat → Nat} {ac : Nat → ClassId} {n : Nat} {r : St} (C : nd_C p l s m args c A (dC, dI) cJ5_putStringAt_47b60 3 RJ5 ow_dm_J5_putStringAt_47b60 (dk_J4 ac)) (K : nd_Kv p l e (headSpec ow_dm_J5_putStringAt_47b60 ({ frames := 2, cells := 0, slots := 0, locals := 63 })).room s m args below meth c Q A (dC, dI) cJ5_putStringAt_47b60 (St) (dw_J4 a ac) r) : dj_J5_putStringAt_47b60_0 p l e s m args below meth c Q A dC dI a ac (df_J5_putStringAt_47b60_0 n (a 2)) r := by
  obtain ⟨hlt, hx, hb, hml, hown, hts, hN, hA, hK⟩ := id C
  intro v0 v1 s0 H locs ls h hP hD hS hl
  unfold df_J5_putStringAt_47b60_0 at h
  refine lv_aload_n hx hb dJ5_putStringAt_47b60_0 rfl (lv_at hl 0 rfl) ?_
  refine lv_aload_n hx hb dJ5_putStringAt_47b60_1 rfl (lv_at hl 2 rfl) ?_
  obtain ⟨s2, hq, h⟩ := nd_b1_e h
  have hPc := hP
  have hDc := hD
  have hKc := hK
  have hFc := nd_rs hD hS hA
  refine nd_cUv (As := [.ref (dI 1000 v1)]) (rest := []) (w' := dw_J4 a ac s2) ⟨hx, hb, hml, hown, hts⟩ (fun sz => dm_J5_inflateIfNeededFor_a7421 l hlt dC dI a ac n (v1) s0 hq sz) (va_cwU 1 hts gi_dm_J5_putStringAt_47b60_0 rfl rfl rfl rfl (by decide +kernel) ⟨Nat.le_of_ble_eq_true rfl, Nat.le_of_ble_eq_true rfl⟩) hPc hDc hKc hS hA hN (va_recv hKc hPc (ci := 1) (q0 := 0) rfl rfl) rfl hl.1 rfl (Nat.le_of_ble_eq_true rfl) dJ5_putStringAt_47b60_2 (fun H locs hP1 hD1 hk1 hS => ?_)
  have hP := hP1
  have hD := hD1.weaken (fun k q _ h => hFc q.1 h)
  refine lv_aload_n hx hb dJ5_putStringAt_47b60_5 rfl (lv_at hl 2 rfl) ?_
  refine lv_aload_n hx hb dJ5_putStringAt_47b60_6 rfl (lv_at hl 0 rfl) ?_
  refine va_get (D := (dC, dI)) (ci := 1) (v := .ref (a 1)) (C := RJ4) (T := TJ4) (N := 4) hx hb hts hi_dm_J5_putStringAt_47b60_J4 hown hK hP 0 rfl rfl 0 (by decide) (hts (.fieldLink RJ5 15 "java/lang/AbstractStringBuilder" "value" "[B") (List.mem_of_getElem? (i := 6) rfl)) (fun _ h9 => h9) rfl dJ5_putStringAt_47b60_7 ?_
  refine lv_iload_n hx hb dJ5_putStringAt_47b60_10 rfl (lv_at hl 1 rfl) ?_
  refine lv_aload_n hx hb dJ5_putStringAt_47b60_11 rfl (lv_at hl 0 rfl) ?_
  refine va_get (D := (dC, dI)) (ci := 1) (v := .int (sI s2 0)) (C := RJ4) (T := TJ4) (N := 4) hx hb hts hi_dm_J5_putStringAt_47b60_J4 hown hK hP 0 rfl rfl 1 (by decide) (hts (.fieldLink RJ5 22 "java/lang/AbstractStringBuilder" "coder" "B") (List.mem_of_getElem? (i := 7) rfl)) (fun _ h9 => h9) rfl dJ5_putStringAt_47b60_12 ?_
  obtain ⟨i6, h⟩ := nd_lt_e h
  obtain ⟨s5, hq, h⟩ := nd_b1_e h
  have hPc := dp_vJ4_BYm_0 hP
  have hDc := dd_vJ4_BYm_0 hD
  have hKc := dy_vJ4_BYm_0 hK
  have hFc := nd_rs hDc hS hA
  have hzA : ∀ q : Nat, H.size ≤ q → A q := fun q h => hA q (Nat.le_trans hS.1 h)
  refine nd_cVv (As := [.ref (a 1), .int v0, .int (sI s2 0)]) (rest := []) (w' := dw_BYm (fun k => a (nd_ix [1, 2] k)) (fun k => ac (nd_ix [1, 2] k)) s5) ⟨hx, hb, hml, hown, hts⟩ (fun sz => dm_J0_getBytes_840e7 l hlt dC dI (fun k => a (nd_ix [1, 2] k)) (fun k => ac (nd_ix [1, 2] k)) n (v1) (v0) ((sI s2 0)) ((pR nd_st0 0 (sR s2 0))) hq sz) (cwV 3 hts gi_dm_J5_putStringAt_47b60_1 rfl rfl rfl (by decide +kernel) ⟨Nat.le_of_ble_eq_true rfl, Nat.le_of_ble_eq_true rfl⟩) hPc hDc hKc hS hA hN (nv_rcv hN.2.2.2.2.2.2.2.2.2.2.2 i6 hS) rfl hl.1 rfl (Nat.le_of_ble_eq_true rfl) dJ5_putStringAt_47b60_15 (fun H locs hP1 hD1 hk1 hS => ?_)
  obtain ⟨hP, hD⟩ := dn_vJ4_BYm_0 hP hD hzA hk1 hP1 hD1
  obtain ⟨s8, es8, h⟩ := nd_let_e h
  have hP : va_P (dC, dI) vwCl (dw_J4 a ac s8) H := by rw [es8]; exact hP
  have hD : va_D A (dw_J4 a ac s8) := by rw [es8]; exact hD
  exact K _ _ _ _ _ dJ5_putStringAt_47b60_18 (Option.some.inj h).symm hP hD hS
set_option maxHeartbeats 40000000 in
set_option maxRecDepth 100000 in
theorem dm_J5_putStringAt_47b60 (l : Launch) (hlt : l.stackTraces = false) (dC : Nat → ClassId) (dI : Nat → Nat → Nat) (a : Nat → Nat) (ac : Nat → ClassId) (n : Nat) (v0 : Int32) (v1 : Nat) (s0 : St) {r : St} (h : df_J5_putStringAt_47b60 n (a 2) v0 v1 s0 = some r) (sz : Nat) : Met l yJ5_putStringAt_47b60 ow_dm_J5_putStringAt_47b60 ({ frames := 2, cells := 0, slots := 0, locals := 63 }) (va_Pc [.ref (a 0), .int v0, .ref (dI 1000 v1)] (fun U => U.heap.size = sz ∧ va_P (dC, dI) vwCl (dw_J4 a ac s0) U.heap ∧ va_K (dC, dI) vwCl (dk_J4 ac) U ∧ va_D (fun _ => True) (dw_J4 a ac s0) ∧ nv_E dI (va_A (dw_J4 a ac s0) sz) U)) (va_Qv (fun _ => True) (fun (_ : Unit) t => va_P (dC, dI) vwCl (dw_J4 a ac r) t.heap ∧ va_K (dC, dI) vwCl (dk_J4 ac) t ∧ va_D (va_A (dw_J4 a ac s0) sz) (dw_J4 a ac r)) (va_A (dw_J4 a ac s0) sz)) 0 0 (va_A (dw_J4 a ac s0) sz) := by
  refine Met.ofW (cc := cJ5_putStringAt_47b60) (maxL := 3) (ret := none) (by decide) rfl ?_
  intro p e s m args below meth c s₁ B hml hv
  obtain ⟨rfl, hsz, hP, hK, hD0, hN⟩ := hv
  have hx := B.exec
  have hb := B.bytes
  have hr := B.returns
  have hts := atoms_spec (ws := ow_dm_J5_putStringAt_47b60) B.pre
  have hown : s.vm.findClass RJ5 = some m.cls := findClass_of_methodNamed B.named
  have hlocks := B.notSynchronized
  subst hsz
  have hD := hD0.self (sz := s.heap.size)
  generalize hAe : va_A (dw_J4 a ac s0) s.heap.size = A at hD hN ⊢
  have hA : ∀ q : Nat, s.heap.size ≤ q → A q := fun q h => by rw [← hAe]; exact Or.inr h
  have hl := lv_entry ([.ref (a 0), .int v0, .ref (dI 1000 v1)]) (n := 3) (Nat.le_of_ble_eq_true rfl)
  rw [lg_entry_eq]
  generalize (lg_sl ([.ref (a 0), .int v0, .ref (dI 1000 v1)]) ++ List.replicate (3 - (lg_sl ([.ref (a 0), .int v0, .ref (dI 1000 v1)])).length) Slot.unset).toArray = ls at hl ⊢
  have hl : lv_has ls 3 [(0, .ref (a 0)), (1, .int v0), (2, .ref (dI 1000 v1))] := hl
  exact db_J5_putStringAt_47b60_0 (dC := dC) (dI := dI) (a := a) (ac := ac) (n := n) (r := r) ⟨hlt, hx, hb, hml, hown, hts, hN, hA, hK⟩ (fun pc τ H locs ls d er hP hD hS => by subst er; exact W.vret hx hb hr (fun t ht hW => ⟨⟨(), rfl, trivial, by rw [ht]; exact hP, va_K.moved hW.alike hK, hD⟩, hS.F ht⟩) hS.2.2 d) v0 v1 s0 _ _ _ h hP hD va_S.rf (lv_sub hl [0, 1, 2] rfl)
def ow_dm_J6_getChars_ba4f3 : List Cond := Cond.code yJ6_getChars_ba4f3 cJ6_getChars_ba4f3 7 (some .int) :: ([Cond.fieldLink RJ6 83 "java/lang/Integer" "DigitOnes" "[B", Cond.fieldLink RJ6 87 "java/lang/Integer" "DigitTens" "[B"] ++ [])
theorem gd_dm_J6_getChars_ba4f3 : ∀ w ∈ ow_dm_J6_getChars_ba4f3, (w.onTables && w.keeps) = true ∨ ∃ ty, w = Cond.arrayClass ty := List.forall_mem_cons.mpr ⟨good_of_word rfl, List.forall_mem_append.mpr ⟨fun w h => good_of_word (List.all_eq_true.mp (by decide +kernel) w h), fun _ h => nomatch h⟩⟩
def dj_J6_getChars_ba4f3_118 (p : Program) (l : Launch) (e : Env) (s : State) (m : MethodId) (args : Array Value) (below : List Frame) (meth : Method) (c : Code) (Q : State → Prop) (A : Nat → Prop) (dC : Nat → ClassId) (dI : Nat → Nat → Nat) (a : Nat → Nat) (ac : Nat → ClassId) (g : Int32 → (St) → Option (Int32 × (St))) (r : Int32 × (St)) : Prop := ∀ (x5 : Int32) (s0 : St) (H : Heap) (locs : List Loc) (ls : Array Slot), g x5 s0 = some r → va_P (dC, dI) vwCl (dw_BYm a ac s0) H → va_D A (dw_BYm a ac s0) → va_S A s.heap H locs → lv_has ls 7 [(5, .int x5)] → W p l e (headSpec ow_dm_J6_getChars_ba4f3 ({ frames := 0, cells := 0, slots := 0, locals := 0 })).room s m args below meth c H locs 0 0 Q (F0 m 118 ls [])
def dj_J6_getChars_ba4f3_104 (p : Program) (l : Launch) (e : Env) (s : State) (m : MethodId) (args : Array Value) (below : List Frame) (meth : Method) (c : Code) (Q : State → Prop) (A : Nat → Prop) (dC : Nat → ClassId) (dI : Nat → Nat → Nat) (a : Nat → Nat) (ac : Nat → ClassId) (g : Int32 → Int32 → (St) → Option (Int32 × (St))) (r : Int32 × (St)) : Prop := ∀ (x5 : Int32) (x6 : Int32) (s0 : St) (H : Heap) (locs : List Loc) (ls : Array Slot), g x5 x6 s0 = some r → va_P (dC, dI) vwCl (dw_BYm a ac s0) H → va_D A (dw_BYm a ac s0) → va_S A s.heap H locs → lv_has ls 7 [(2, .ref (a 0)), (5, .int x5), (6, .int x6)] → W p l e (headSpec ow_dm_J6_getChars_ba4f3 ({ frames := 0, cells := 0, slots := 0, locals := 0 })).room s m args below meth c H locs 0 0 Q (F0 m 104 ls [])
def dj_J6_getChars_ba4f3_22 (p : Program) (l : Launch) (e : Env) (s : State) (m : MethodId) (args : Array Value) (below : List Frame) (meth : Method) (c : Code) (Q : State → Prop) (A : Nat → Prop) (dC : Nat → ClassId) (dI : Nat → Nat → Nat) (a : Nat → Nat) (ac : Nat → ClassId) (g : Int32 → Int32 → Int32 → (St) → Option (Int32 × (St))) (r : Int32 × (St)) : Prop := ∀ (x0 : Int32) (x5 : Int32) (x6 : Int32) (s0 : St) (H : Heap) (locs : List Loc) (ls : Array Slot), g x0 x5 x6 s0 = some r → va_P (dC, dI) vwCl (dw_BYm a ac s0) H → va_D A (dw_BYm a ac s0) → va_S A s.heap H locs → lv_has ls 7 [(0, .int x0), (2, .ref (a 0)), (5, .int x5), (6, .int x6)] → W p l e (headSpec ow_dm_J6_getChars_ba4f3 ({ frames := 0, cells := 0, slots := 0, locals := 0 })).room s m args below meth c H locs 0 0 Q (F0 m 22 ls [])
def dj_J6_getChars_ba4f3_12 (p : Program) (l : Launch) (e : Env) (s : State) (m : MethodId) (args : Array Value) (below : List Frame) (meth : Method) (c : Code) (Q : State → Prop) (A : Nat → Prop) (dC : Nat → ClassId) (dI : Nat → Nat → Nat) (a : Nat → Nat) (ac : Nat → ClassId) (g : Int32 → Int32 → Int32 → (St) → Option (Int32 × (St))) (r : Int32 × (St)) : Prop := ∀ (x0 : Int32) (x5 : Int32) (y0 : Int32) (s0 : St) (H : Heap) (locs : List Loc) (ls : Array Slot), g x0 x5 y0 s0 = some r → va_P (dC, dI) vwCl (dw_BYm a ac s0) H → va_D A (dw_BYm a ac s0) → va_S A s.heap H locs → lv_has ls 7 [(0, .int x0), (2, .ref (a 0)), (5, .int x5)] → W p l e (headSpec ow_dm_J6_getChars_ba4f3 ({ frames := 0, cells := 0, slots := 0, locals := 0 })).room s m args below meth c H locs 0 0 Q (F0 m 12 ls [.int y0])
def dj_J6_getChars_ba4f3_0 (p : Program) (l : Launch) (e : Env) (s : State) (m : MethodId) (args : Array Value) (below : List Frame) (meth : Method) (c : Code) (Q : State → Prop) (A : Nat → Prop) (dC : Nat → ClassId) (dI : Nat → Nat → Nat) (a : Nat → Nat) (ac : Nat → ClassId) (g : Int32 → Int32 → (St) → Option (Int32 × (St))) (r : Int32 × (St)) : Prop := ∀ (v0 : Int32) (v1 : Int32) (s0 : St) (H : Heap) (locs : List Loc) (ls : Array Slot), g v0 v1 s0 = some r → va_P (dC, dI) vwCl (dw_BYm a ac s0) H → va_D A (dw_BYm a ac s0) → va_S A s.heap H locs → lv_has ls 7 [(0, .int v0), (1, .int v1), (2, .ref (a 0))] → W p l e (headSpec ow_dm_J6_getChars_ba4f3 ({ frames := 0, cells := 0, slots := 0, locals := 0 })).room s m args below meth c H locs 0 0 Q (F0 m 0 ls [])
set_option maxHeartbeats 40000000 in
set_option maxRecDepth 100000 in
theorem db_J6_getChars_ba4f3_118 {p : Program} {l : Launch} {e : Env} {s : State} {m : MethodId} {args : Array Value} {below : List Frame} {meth : Method} {c : Code} {Q : State → Prop} {A : Nat → Prop} {dC : Nat → ClassId} {dI : Nat → Nat → Nat} {a : Nat → Nat} {ac : Nat → ClassId} {n : Nat} {r : Int32 × (St)} (C : nd_CH p l s m args c A (dC, dI) cJ6_getChars_ba4f3 7 RJ6 ow_dm_J6_getChars_ba4f3 (dk_BYm ac)) (K : nd_Ki p l e (headSpec ow_dm_J6_getChars_ba4f3 ({ frames := 0, cells := 0, slots := 0, locals := 0 })).room s m args below meth c Q A (dC, dI) cJ6_getChars_ba4f3 .int (St) (dw_BYm a ac) r) : dj_J6_getChars_ba4f3_118 p l e s m args below meth c Q A dC dI a ac (df_J6_getChars_ba4f3_118 n (a 1)) r := by
  obtain ⟨hlt, hx, hb, hml, hown, hts, hN, hA, hK⟩ := id C
  intro x5 s0 H locs ls h hP hD hS hl
  unfold df_J6_getChars_ba4f3_118 at h
  refine lv_iload hx hb dJ6_getChars_ba4f3_118 (lv_at hl 0 rfl) ?_
  exact K _ _ _ _ _ _ dJ6_getChars_ba4f3_120 rfl (Option.some.inj h).symm hP hD hS
set_option maxHeartbeats 40000000 in
set_option maxRecDepth 100000 in
theorem db_J6_getChars_ba4f3_104 {p : Program} {l : Launch} {e : Env} {s : State} {m : MethodId} {args : Array Value} {below : List Frame} {meth : Method} {c : Code} {Q : State → Prop} {A : Nat → Prop} {dC : Nat → ClassId} {dI : Nat → Nat → Nat} {a : Nat → Nat} {ac : Nat → ClassId} {n : Nat} {r : Int32 × (St)} (C : nd_CH p l s m args c A (dC, dI) cJ6_getChars_ba4f3 7 RJ6 ow_dm_J6_getChars_ba4f3 (dk_BYm ac)) (K : nd_Ki p l e (headSpec ow_dm_J6_getChars_ba4f3 ({ frames := 0, cells := 0, slots := 0, locals := 0 })).room s m args below meth c Q A (dC, dI) cJ6_getChars_ba4f3 .int (St) (dw_BYm a ac) r) : dj_J6_getChars_ba4f3_104 p l e s m args below meth c Q A dC dI a ac (df_J6_getChars_ba4f3_104 n (a 1)) r := by
  obtain ⟨hlt, hx, hb, hml, hown, hts, hN, hA, hK⟩ := id C
  intro x5 x6 s0 H locs ls h hP hD hS hl
  unfold df_J6_getChars_ba4f3_104 at h
  refine lv_iload hx hb dJ6_getChars_ba4f3_104 (lv_at hl 2 rfl) ?_
  refine lv_if_eq (tgt := 118) hx hb dJ6_getChars_ba4f3_106 (by decide) (fun c10 => ?_) (fun c10 => ?_)
  · have h := nd_pos h c10
    exact (db_J6_getChars_ba4f3_118 C K) (x5) s0 _ _ _ h hP hD hS (lv_sub hl [1] rfl)
  · have h := nd_neg h c10
    refine lv_aload_n hx hb dJ6_getChars_ba4f3_109 rfl (lv_at hl 0 rfl) ?_
    obtain ⟨z11, ez11, h⟩ := nd_let_e h
    refine lv_iinc (v := z11) (lv' := [(5, .int z11), (2, .ref (a 0)), (6, .int x6)]) hx hb dJ6_getChars_ba4f3_110 hl (k := 1) rfl (by rw [ez11]) (by decide) rfl (fun ls hl => ?_)
    refine lv_iload hx hb dJ6_getChars_ba4f3_113 (lv_at hl 0 rfl) ?_
    refine lv_bipush (v := 45) hx hb dJ6_getChars_ba4f3_115 (by decide) ?_
    obtain ⟨i12, h⟩ := nd_ck_e h
    refine va_bast (i := z11) (x := 45) hx hb hK hP hD hS 0 0 rfl rfl i12 dJ6_getChars_ba4f3_117 (fun H locs hP hD hS => ?_)
    obtain ⟨s13, es13, h⟩ := nd_let_e h
    have hP : va_P (dC, dI) vwCl (dw_BYm a ac s13) H := by rw [es13]; exact hP
    have hD : va_D A (dw_BYm a ac s13) := by rw [es13]; exact hD
    exact (db_J6_getChars_ba4f3_118 C K) (z11) s13 _ _ _ h hP hD hS (lv_sub hl [0] rfl)
set_option maxHeartbeats 40000000 in
set_option maxRecDepth 100000 in
theorem dB_J6_getChars_ba4f3_22 {p : Program} {l : Launch} {e : Env} {s : State} {m : MethodId} {args : Array Value} {below : List Frame} {meth : Method} {c : Code} {Q : State → Prop} {A : Nat → Prop} {dC : Nat → ClassId} {dI : Nat → Nat → Nat} {a : Nat → Nat} {ac : Nat → ClassId} {n : Nat} {r : Int32 × (St)} (C : nd_CH p l s m args c A (dC, dI) cJ6_getChars_ba4f3 7 RJ6 ow_dm_J6_getChars_ba4f3 (dk_BYm ac)) (K : nd_Ki p l e (headSpec ow_dm_J6_getChars_ba4f3 ({ frames := 0, cells := 0, slots := 0, locals := 0 })).room s m args below meth c Q A (dC, dI) cJ6_getChars_ba4f3 .int (St) (dw_BYm a ac) r) {g22 : Int32 → Int32 → Int32 → (St) → Option (Int32 × (St))} (J22 : dj_J6_getChars_ba4f3_22 p l e s m args below meth c Q A dC dI a ac g22 r) : dj_J6_getChars_ba4f3_22 p l e s m args below meth c Q A dC dI a ac (dF_J6_getChars_ba4f3_22 n (a 1) g22) r := by
  obtain ⟨hlt, hx, hb, hml, hown, hts, hN, hA, hK⟩ := id C
  intro x0 x5 x6 s0 H locs ls h hP hD hS hl
  unfold dF_J6_getChars_ba4f3_22 at h
  refine lv_iload_n hx hb dJ6_getChars_ba4f3_22 rfl (lv_at hl 0 rfl) ?_
  refine lv_bipush (v := (-100)) hx hb dJ6_getChars_ba4f3_23 (by decide) ?_
  refine lv_icmp_gt (tgt := 72) hx hb dJ6_getChars_ba4f3_25 (by decide) (fun c3 => ?_) (fun c3 => ?_)
  · have h := nd_pos h c3
    refine lv_aload_n hx hb dJ6_getChars_ba4f3_72 rfl (lv_at hl 1 rfl) ?_
    obtain ⟨z4, ez4, h⟩ := nd_let_e h
    refine lv_iinc (v := z4) (lv' := [(5, .int z4), (0, .int x0), (2, .ref (a 0)), (6, .int x6)]) hx hb dJ6_getChars_ba4f3_73 hl (k := 2) rfl (by rw [ez4]) (by decide) rfl (fun ls hl => ?_)
    refine lv_iload hx hb dJ6_getChars_ba4f3_76 (lv_at hl 0 rfl) ?_
    obtain ⟨b5, zb5, tb5⟩ := hN.2.1
    refine va_gets hx hb zb5 hS hown (hts (.fieldLink RJ6 83 "java/lang/Integer" "DigitOnes" "[B") (List.mem_of_getElem? (i := 1) rfl)) (fun _ h9 => h9) dJ6_getChars_ba4f3_78 ?_
    refine lv_iload_n hx hb dJ6_getChars_ba4f3_81 rfl (lv_at hl 1 rfl) ?_
    refine lv_ineg hx hb dJ6_getChars_ba4f3_82 ?_
    obtain ⟨i6, h⟩ := nd_ck_e h
    refine va_tb (i := (-x0)) hx hb tb5 hS i6 rfl dJ6_getChars_ba4f3_83 ?_
    obtain ⟨i7, h⟩ := nd_ck_e h
    refine va_bast (i := z4) (x := (dg_o (Int32.toNatClampNeg (-x0)))) hx hb hK hP hD hS 0 0 rfl rfl i7 dJ6_getChars_ba4f3_84 (fun H locs hP hD hS => ?_)
    obtain ⟨s8, es8, h⟩ := nd_let_e h
    have hP : va_P (dC, dI) vwCl (dw_BYm a ac s8) H := by rw [es8]; exact hP
    have hD : va_D A (dw_BYm a ac s8) := by rw [es8]; exact hD
    refine lv_iload_n hx hb dJ6_getChars_ba4f3_85 rfl (lv_at hl 1 rfl) ?_
    refine lv_bipush (v := (-9)) hx hb dJ6_getChars_ba4f3_86 (by decide) ?_
    refine lv_icmp_ge (tgt := 104) hx hb dJ6_getChars_ba4f3_88 (by decide) (fun c9 => ?_) (fun c9 => ?_)
    · have h := nd_pos h c9
      exact (db_J6_getChars_ba4f3_104 C K) (z4) (x6) s8 _ _ _ h hP hD hS (lv_sub hl [2, 0, 3] rfl)
    · have h := nd_neg h c9
      refine lv_aload_n hx hb dJ6_getChars_ba4f3_91 rfl (lv_at hl 2 rfl) ?_
      obtain ⟨z14, ez14, h⟩ := nd_let_e h
      refine lv_iinc (v := z14) (lv' := [(5, .int z14), (0, .int x0), (2, .ref (a 0)), (6, .int x6)]) hx hb dJ6_getChars_ba4f3_92 hl (k := 0) rfl (by rw [ez14]) (by decide) rfl (fun ls hl => ?_)
      refine lv_iload hx hb dJ6_getChars_ba4f3_95 (lv_at hl 0 rfl) ?_
      obtain ⟨b15, zb15, tb15⟩ := hN.2.2
      refine va_gets hx hb zb15 hS hown (hts (.fieldLink RJ6 87 "java/lang/Integer" "DigitTens" "[B") (List.mem_of_getElem? (i := 2) rfl)) (fun _ h9 => h9) dJ6_getChars_ba4f3_97 ?_
      refine lv_iload_n hx hb dJ6_getChars_ba4f3_100 rfl (lv_at hl 1 rfl) ?_
      refine lv_ineg hx hb dJ6_getChars_ba4f3_101 ?_
      obtain ⟨i16, h⟩ := nd_ck_e h
      refine va_tb (i := (-x0)) hx hb tb15 hS i16 rfl dJ6_getChars_ba4f3_102 ?_
      obtain ⟨i17, h⟩ := nd_ck_e h
      refine va_bast (i := z14) (x := (dg_t (Int32.toNatClampNeg (-x0)))) hx hb hK hP hD hS 0 0 rfl rfl i17 dJ6_getChars_ba4f3_103 (fun H locs hP hD hS => ?_)
      obtain ⟨s18, es18, h⟩ := nd_let_e h
      have hP : va_P (dC, dI) vwCl (dw_BYm a ac s18) H := by rw [es18]; exact hP
      have hD : va_D A (dw_BYm a ac s18) := by rw [es18]; exact hD
      exact (db_J6_getChars_ba4f3_104 C K) (z14) (x6) s18 _ _ _ h hP hD hS (lv_sub hl [2, 0, 3] rfl)
  · have h := nd_neg h c3
    refine lv_iload_n hx hb dJ6_getChars_ba4f3_28 rfl (lv_at hl 0 rfl) ?_
    refine lv_bipush (v := 100) hx hb dJ6_getChars_ba4f3_29 (by decide) ?_
    refine lv_idiv hx hb dJ6_getChars_ba4f3_31 (by decide) ?_
    refine lv_topi (fun z19 ez19 => ?_)
    have h := nd_at h ez19
    refine lv_istore_n (lv' := [(3, .int z19), (0, .int x0), (2, .ref (a 0)), (5, .int x5), (6, .int x6)]) hx hb dJ6_getChars_ba4f3_32 rfl hl (by decide) rfl (fun ls hl => ?_)
    refine lv_iload_n hx hb dJ6_getChars_ba4f3_33 rfl (lv_at hl 0 rfl) ?_
    refine lv_bipush (v := 100) hx hb dJ6_getChars_ba4f3_34 (by decide) ?_
    refine lv_imul hx hb dJ6_getChars_ba4f3_36 ?_
    refine lv_iload_n hx hb dJ6_getChars_ba4f3_37 rfl (lv_at hl 1 rfl) ?_
    refine lv_isub hx hb dJ6_getChars_ba4f3_38 ?_
    refine lv_topi (fun z20 ez20 => ?_)
    have h := nd_at h ez20
    refine lv_istore (lv' := [(4, .int z20), (3, .int z19), (0, .int x0), (2, .ref (a 0)), (5, .int x5), (6, .int x6)]) hx hb dJ6_getChars_ba4f3_39 hl (by decide) rfl (fun ls hl => ?_)
    refine lv_iload_n hx hb dJ6_getChars_ba4f3_41 rfl (lv_at hl 1 rfl) ?_
    refine lv_istore_n (lv' := [(0, .int z19), (4, .int z20), (3, .int z19), (2, .ref (a 0)), (5, .int x5), (6, .int x6)]) hx hb dJ6_getChars_ba4f3_42 rfl hl (by decide) rfl (fun ls hl => ?_)
    refine lv_aload_n hx hb dJ6_getChars_ba4f3_43 rfl (lv_at hl 3 rfl) ?_
    obtain ⟨z21, ez21, h⟩ := nd_let_e h
    refine lv_iinc (v := z21) (lv' := [(5, .int z21), (0, .int z19), (4, .int z20), (3, .int z19), (2, .ref (a 0)), (6, .int x6)]) hx hb dJ6_getChars_ba4f3_44 hl (k := 4) rfl (by rw [ez21]) (by decide) rfl (fun ls hl => ?_)
    refine lv_iload hx hb dJ6_getChars_ba4f3_47 (lv_at hl 0 rfl) ?_
    obtain ⟨b22, zb22, tb22⟩ := hN.2.1
    refine va_gets hx hb zb22 hS hown (hts (.fieldLink RJ6 83 "java/lang/Integer" "DigitOnes" "[B") (List.mem_of_getElem? (i := 1) rfl)) (fun _ h9 => h9) dJ6_getChars_ba4f3_49 ?_
    refine lv_iload hx hb dJ6_getChars_ba4f3_52 (lv_at hl 2 rfl) ?_
    obtain ⟨i23, h⟩ := nd_ck_e h
    refine va_tb (i := z20) hx hb tb22 hS i23 rfl dJ6_getChars_ba4f3_54 ?_
    obtain ⟨i24, h⟩ := nd_ck_e h
    refine va_bast (i := z21) (x := (dg_o (Int32.toNatClampNeg z20))) hx hb hK hP hD hS 0 0 rfl rfl i24 dJ6_getChars_ba4f3_55 (fun H locs hP hD hS => ?_)
    obtain ⟨s25, es25, h⟩ := nd_let_e h
    have hP : va_P (dC, dI) vwCl (dw_BYm a ac s25) H := by rw [es25]; exact hP
    have hD : va_D A (dw_BYm a ac s25) := by rw [es25]; exact hD
    refine lv_aload_n hx hb dJ6_getChars_ba4f3_56 rfl (lv_at hl 4 rfl) ?_
    obtain ⟨z26, ez26, h⟩ := nd_let_e h
    refine lv_iinc (v := z26) (lv' := [(5, .int z26), (0, .int z19), (4, .int z20), (3, .int z19), (2, .ref (a 0)), (6, .int x6)]) hx hb dJ6_getChars_ba4f3_57 hl (k := 0) rfl (by rw [ez26]) (by decide) rfl (fun ls hl => ?_)
    refine lv_iload hx hb dJ6_getChars_ba4f3_60 (lv_at hl 0 rfl) ?_
    obtain ⟨b27, zb27, tb27⟩ := hN.2.2
    refine va_gets hx hb zb27 hS hown (hts (.fieldLink RJ6 87 "java/lang/Integer" "DigitTens" "[B") (List.mem_of_getElem? (i := 2) rfl)) (fun _ h9 => h9) dJ6_getChars_ba4f3_62 ?_
    refine lv_iload hx hb dJ6_getChars_ba4f3_65 (lv_at hl 2 rfl) ?_
    obtain ⟨i28, h⟩ := nd_ck_e h
    refine va_tb (i := z20) hx hb tb27 hS i28 rfl dJ6_getChars_ba4f3_67 ?_
    obtain ⟨i29, h⟩ := nd_ck_e h
    refine va_bast (i := z26) (x := (dg_t (Int32.toNatClampNeg z20))) hx hb hK hP hD hS 0 0 rfl rfl i29 dJ6_getChars_ba4f3_68 (fun H locs hP hD hS => ?_)
    obtain ⟨s30, es30, h⟩ := nd_let_e h
    have hP : va_P (dC, dI) vwCl (dw_BYm a ac s30) H := by rw [es30]; exact hP
    have hD : va_D A (dw_BYm a ac s30) := by rw [es30]; exact hD
    refine lv_goto (tgt := 22) hx hb dJ6_getChars_ba4f3_69 (by decide) ?_
    exact (J22) (z19) (z26) (x6) s30 _ _ _ h hP hD hS (lv_sub hl [1, 4, 0, 5] rfl)
set_option maxHeartbeats 40000000 in
set_option maxRecDepth 100000 in
theorem db_J6_getChars_ba4f3_22 {p : Program} {l : Launch} {e : Env} {s : State} {m : MethodId} {args : Array Value} {below : List Frame} {meth : Method} {c : Code} {Q : State → Prop} {A : Nat → Prop} {dC : Nat → ClassId} {dI : Nat → Nat → Nat} {a : Nat → Nat} {ac : Nat → ClassId} {n : Nat} {r : Int32 × (St)} (C : nd_CH p l s m args c A (dC, dI) cJ6_getChars_ba4f3 7 RJ6 ow_dm_J6_getChars_ba4f3 (dk_BYm ac)) (K : nd_Ki p l e (headSpec ow_dm_J6_getChars_ba4f3 ({ frames := 0, cells := 0, slots := 0, locals := 0 })).room s m args below meth c Q A (dC, dI) cJ6_getChars_ba4f3 .int (St) (dw_BYm a ac) r) (k : Nat) : dj_J6_getChars_ba4f3_22 p l e s m args below meth c Q A dC dI a ac (df_J6_getChars_ba4f3_22 n (a 1) k) r := by
  induction k with
  | zero => intro x0 x5 x6 s0 H locs ls h; exact nomatch (show (none : Option (Int32 × (St))) = some r from h)
  | succ k ih => exact dB_J6_getChars_ba4f3_22 C K ih
set_option maxHeartbeats 40000000 in
set_option maxRecDepth 100000 in
theorem db_J6_getChars_ba4f3_12 {p : Program} {l : Launch} {e : Env} {s : State} {m : MethodId} {args : Array Value} {below : List Frame} {meth : Method} {c : Code} {Q : State → Prop} {A : Nat → Prop} {dC : Nat → ClassId} {dI : Nat → Nat → Nat} {a : Nat → Nat} {ac : Nat → ClassId} {n : Nat} {r : Int32 × (St)} (C : nd_CH p l s m args c A (dC, dI) cJ6_getChars_ba4f3 7 RJ6 ow_dm_J6_getChars_ba4f3 (dk_BYm ac)) (K : nd_Ki p l e (headSpec ow_dm_J6_getChars_ba4f3 ({ frames := 0, cells := 0, slots := 0, locals := 0 })).room s m args below meth c Q A (dC, dI) cJ6_getChars_ba4f3 .int (St) (dw_BYm a ac) r) : dj_J6_getChars_ba4f3_12 p l e s m args below meth c Q A dC dI a ac (df_J6_getChars_ba4f3_12 n (a 1)) r := by
  obtain ⟨hlt, hx, hb, hml, hown, hts, hN, hA, hK⟩ := id C
  intro x0 x5 y0 s0 H locs ls h hP hD hS hl
  unfold df_J6_getChars_ba4f3_12 at h
  refine lv_istore (lv' := [(6, .int y0), (0, .int x0), (2, .ref (a 0)), (5, .int x5)]) hx hb dJ6_getChars_ba4f3_12 hl (by decide) rfl (fun ls hl => ?_)
  refine lv_iload hx hb dJ6_getChars_ba4f3_14 (lv_at hl 0 rfl) ?_
  refine lv_if_ne (tgt := 22) hx hb dJ6_getChars_ba4f3_16 (by decide) (fun c2 => ?_) (fun c2 => ?_)
  · have h := nd_neg h c2
    exact (db_J6_getChars_ba4f3_22 C K n) (x0) (x5) (y0) s0 _ _ _ h hP hD hS (lv_sub hl [1, 2, 3, 0] rfl)
  · have h := nd_pos h c2
    refine lv_iload_n hx hb dJ6_getChars_ba4f3_19 rfl (lv_at hl 1 rfl) ?_
    refine lv_ineg hx hb dJ6_getChars_ba4f3_20 ?_
    refine lv_topi (fun z31 ez31 => ?_)
    have h := nd_at h ez31
    refine lv_istore_n (lv' := [(0, .int z31), (6, .int y0), (2, .ref (a 0)), (5, .int x5)]) hx hb dJ6_getChars_ba4f3_21 rfl hl (by decide) rfl (fun ls hl => ?_)
    exact (db_J6_getChars_ba4f3_22 C K n) (z31) (x5) (y0) s0 _ _ _ h hP hD hS (lv_sub hl [0, 2, 3, 1] rfl)
set_option maxHeartbeats 40000000 in
set_option maxRecDepth 100000 in
theorem db_J6_getChars_ba4f3_0 {p : Program} {l : Launch} {e : Env} {s : State} {m : MethodId} {args : Array Value} {below : List Frame} {meth : Method} {c : Code} {Q : State → Prop} {A : Nat → Prop} {dC : Nat → ClassId} {dI : Nat → Nat → Nat} {a : Nat → Nat} {ac : Nat → ClassId} {n : Nat} {r : Int32 × (St)} (C : nd_CH p l s m args c A (dC, dI) cJ6_getChars_ba4f3 7 RJ6 ow_dm_J6_getChars_ba4f3 (dk_BYm ac)) (K : nd_Ki p l e (headSpec ow_dm_J6_getChars_ba4f3 ({ frames := 0, cells := 0, slots := 0, locals := 0 })).room s m args below meth c Q A (dC, dI) cJ6_getChars_ba4f3 .int (St) (dw_BYm a ac) r) : dj_J6_getChars_ba4f3_0 p l e s m args below meth c Q A dC dI a ac (df_J6_getChars_ba4f3_0 n (a 1)) r := by
  obtain ⟨hlt, hx, hb, hml, hown, hts, hN, hA, hK⟩ := id C
  intro v0 v1 s0 H locs ls h hP hD hS hl
  unfold df_J6_getChars_ba4f3_0 at h
  refine lv_iload_n hx hb dJ6_getChars_ba4f3_0 rfl (lv_at hl 1 rfl) ?_
  refine lv_istore (lv' := [(5, .int v1), (0, .int v0), (1, .int v1), (2, .ref (a 0))]) hx hb dJ6_getChars_ba4f3_1 hl (by decide) rfl (fun ls hl => ?_)
  refine lv_iload_n hx hb dJ6_getChars_ba4f3_3 rfl (lv_at hl 1 rfl) ?_
  refine lv_if_ge (tgt := 11) hx hb dJ6_getChars_ba4f3_4 (by decide) (fun c1 => ?_) (fun c1 => ?_)
  · have h := nd_pos h c1
    refine lv_iconst (v := 0) hx hb dJ6_getChars_ba4f3_11 (by decide) ?_
    exact (db_J6_getChars_ba4f3_12 C K) (v0) (v1) (0) s0 _ _ _ h hP hD hS (lv_sub hl [1, 3, 0] rfl)
  · have h := nd_neg h c1
    refine lv_iconst (v := 1) hx hb dJ6_getChars_ba4f3_7 (by decide) ?_
    refine lv_goto (tgt := 12) hx hb dJ6_getChars_ba4f3_8 (by decide) ?_
    exact (db_J6_getChars_ba4f3_12 C K) (v0) (v1) (1) s0 _ _ _ h hP hD hS (lv_sub hl [1, 3, 0] rfl)
set_option maxHeartbeats 40000000 in
set_option maxRecDepth 100000 in
theorem dm_J6_getChars_ba4f3 (l : Launch) (hlt : l.stackTraces = false) (dC : Nat → ClassId) (dI : Nat → Nat → Nat) (a : Nat → Nat) (ac : Nat → ClassId) (n : Nat) (v0 : Int32) (v1 : Int32) (s0 : St) {r : Int32 × (St)} (h : df_J6_getChars_ba4f3 n (a 1) v0 v1 s0 = some r) (sz : Nat) : Met l yJ6_getChars_ba4f3 ow_dm_J6_getChars_ba4f3 ({ frames := 0, cells := 0, slots := 0, locals := 0 }) (va_Pc [.int v0, .int v1, .ref (a 0)] (fun U => U.heap.size = sz ∧ va_P (dC, dI) vwCl (dw_BYm a ac s0) U.heap ∧ va_K (dC, dI) vwCl (dk_BYm ac) U ∧ va_D (fun _ => True) (dw_BYm a ac s0) ∧ nv_H dI (va_A (dw_BYm a ac s0) sz) U)) (va_Qi (fun x _ => x = r.1) (fun (_ : Unit) t => va_P (dC, dI) vwCl (dw_BYm a ac r.2) t.heap ∧ va_K (dC, dI) vwCl (dk_BYm ac) t ∧ va_D (va_A (dw_BYm a ac s0) sz) (dw_BYm a ac r.2)) (va_A (dw_BYm a ac s0) sz)) 0 0 (va_A (dw_BYm a ac s0) sz) := by
  refine Met.ofW (cc := cJ6_getChars_ba4f3) (maxL := 7) (ret := (some .int)) (by decide) rfl ?_
  intro p e s m args below meth c s₁ B hml hv
  obtain ⟨rfl, hsz, hP, hK, hD0, hN⟩ := hv
  have hx := B.exec
  have hb := B.bytes
  have hr := B.returns
  have hts := atoms_spec (ws := ow_dm_J6_getChars_ba4f3) B.pre
  have hown : s.vm.findClass RJ6 = some m.cls := findClass_of_methodNamed B.named
  have hlocks := B.notSynchronized
  subst hsz
  have hD := hD0.self (sz := s.heap.size)
  generalize hAe : va_A (dw_BYm a ac s0) s.heap.size = A at hD hN ⊢
  have hA : ∀ q : Nat, s.heap.size ≤ q → A q := fun q h => by rw [← hAe]; exact Or.inr h
  have hl := lv_entry ([.int v0, .int v1, .ref (a 0)]) (n := 7) (Nat.le_of_ble_eq_true rfl)
  rw [lg_entry_eq]
  generalize (lg_sl ([.int v0, .int v1, .ref (a 0)]) ++ List.replicate (7 - (lg_sl ([.int v0, .int v1, .ref (a 0)])).length) Slot.unset).toArray = ls at hl ⊢
  have hl : lv_has ls 7 [(0, .int v0), (1, .int v1), (2, .ref (a 0))] := hl
  exact db_J6_getChars_ba4f3_0 (dC := dC) (dI := dI) (a := a) (ac := ac) (n := n) (r := r) ⟨hlt, hx, hb, hml, hown, hts, hN, hA, hK⟩ (fun pc v τ H locs ls d z er hP hD hS => by subst er; exact W.zret (v := v) hx hb hr z (fun t ht hW => ⟨⟨v, (), rfl, rfl, by rw [ht]; exact hP, va_K.moved hW.alike hK, hD⟩, hS.F ht⟩) hS.2.2 d) v0 v1 s0 _ _ _ h hP hD va_S.rf (lv_sub hl [0, 1, 2] rfl)
def ow_dm_J5_ensureCapacityInternal_d00df_z : List Cond := Cond.code yJ5_ensureCapacityInternal_d00df cJ5_ensureCapacityInternal_d00df 3 none :: ([Cond.fieldLink RJ5 15 "java/lang/AbstractStringBuilder" "value" "[B", Cond.fieldLink RJ5 22 "java/lang/AbstractStringBuilder" "coder" "B"] ++ (u_ws RJ4 TJ4 4 ++ []))
theorem gd_dm_J5_ensureCapacityInternal_d00df_z : ∀ w ∈ ow_dm_J5_ensureCapacityInternal_d00df_z, (w.onTables && w.keeps) = true ∨ ∃ ty, w = Cond.arrayClass ty := List.forall_mem_cons.mpr ⟨good_of_word rfl, List.forall_mem_append.mpr ⟨fun w h => good_of_word (List.all_eq_true.mp (by decide +kernel) w h), List.forall_mem_append.mpr ⟨gu_J4, fun _ h => nomatch h⟩⟩⟩
theorem hi_dm_J5_ensureCapacityInternal_d00df_z_J4 : ∀ w ∈ u_ws RJ4 TJ4 4, w ∈ ow_dm_J5_ensureCapacityInternal_d00df_z := fun w h => List.mem_cons_of_mem _ (List.mem_append_right _ (List.mem_append_left _ h))
def dj_J5_ensureCapacityInternal_d00df_z_38 (p : Program) (l : Launch) (e : Env) (s : State) (m : MethodId) (args : Array Value) (below : List Frame) (meth : Method) (c : Code) (Q : State → Prop) (A : Nat → Prop) (dC : Nat → ClassId) (dI : Nat → Nat → Nat) (a : Nat → Nat) (ac : Nat → ClassId) (g : (St) → Option (St)) (r : St) : Prop := ∀ (s0 : St) (H : Heap) (locs : List Loc) (ls : Array Slot), g s0 = some r → va_P (dC, dI) vwCl (dw_J4 a ac s0) H → va_D A (dw_J4 a ac s0) → va_S A s.heap H locs → lv_has ls 3 [] → W p l e (headSpec ow_dm_J5_ensureCapacityInternal_d00df_z ({ frames := 0, cells := 0, slots := 0, locals := 0 })).room s m args below meth c H locs 0 0 Q (F0 m 38 ls [])
def dj_J5_ensureCapacityInternal_d00df_z_0 (p : Program) (l : Launch) (e : Env) (s : State) (m : MethodId) (args : Array Value) (below : List Frame) (meth : Method) (c : Code) (Q : State → Prop) (A : Nat → Prop) (dC : Nat → ClassId) (dI : Nat → Nat → Nat) (a : Nat → Nat) (ac : Nat → ClassId) (g : Int32 → (St) → Option (St)) (r : St) : Prop := ∀ (v0 : Int32) (s0 : St) (H : Heap) (locs : List Loc) (ls : Array Slot), g v0 s0 = some r → va_P (dC, dI) vwCl (dw_J4 a ac s0) H → va_D A (dw_J4 a ac s0) → va_S A s.heap H locs → lv_has ls 3 [(0, .ref (a 0)), (1, .int v0)] → W p l e (headSpec ow_dm_J5_ensureCapacityInternal_d00df_z ({ frames := 0, cells := 0, slots := 0, locals := 0 })).room s m args below meth c H locs 0 0 Q (F0 m 0 ls [])
set_option maxHeartbeats 40000000 in
set_option maxRecDepth 100000 in
theorem db_J5_ensureCapacityInternal_d00df_z_38 {p : Program} {l : Launch} {e : Env} {s : State} {m : MethodId} {args : Array Value} {below : List Frame} {meth : Method} {c : Code} {Q : State → Prop} {A : Nat → Prop} {dC : Nat → ClassId} {dI : Nat → Nat → Nat} {a : Nat → Nat} {ac : Nat → ClassId} {n : Nat} {r : St} (C : nd_C p l s m args c A (dC, dI) cJ5_ensureCapacityInternal_d00df 3 RJ5 ow_dm_J5_ensureCapacityInternal_d00df_z (dk_J4 ac)) (K : nd_Kv p l e (headSpec ow_dm_J5_ensureCapacityInternal_d00df_z ({ frames := 0, cells := 0, slots := 0, locals := 0 })).room s m args below meth c Q A (dC, dI) cJ5_ensureCapacityInternal_d00df (St) (dw_J4 a ac) r) : dj_J5_ensureCapacityInternal_d00df_z_38 p l e s m args below meth c Q A dC dI a ac (df_J5_ensureCapacityInternal_d00df_z_38 n (a 2)) r := by
  obtain ⟨hlt, hx, hb, hml, hown, hts, hN, hA, hK⟩ := id C
  intro s0 H locs ls h hP hD hS hl
  unfold df_J5_ensureCapacityInternal_d00df_z_38 at h
  exact K _ _ _ _ _ dJ5_ensureCapacityInternal_d00df_38 (Option.some.inj h).symm hP hD hS
set_option maxHeartbeats 40000000 in
set_option maxRecDepth 100000 in
theorem db_J5_ensureCapacityInternal_d00df_z_0 {p : Program} {l : Launch} {e : Env} {s : State} {m : MethodId} {args : Array Value} {below : List Frame} {meth : Method} {c : Code} {Q : State → Prop} {A : Nat → Prop} {dC : Nat → ClassId} {dI : Nat → Nat → Nat} {a : Nat → Nat} {ac : Nat → ClassId} {n : Nat} {r : St} (C : nd_C p l s m args c A (dC, dI) cJ5_ensureCapacityInternal_d00df 3 RJ5 ow_dm_J5_ensureCapacityInternal_d00df_z (dk_J4 ac)) (K : nd_Kv p l e (headSpec ow_dm_J5_ensureCapacityInternal_d00df_z ({ frames := 0, cells := 0, slots := 0, locals := 0 })).room s m args below meth c Q A (dC, dI) cJ5_ensureCapacityInternal_d00df (St) (dw_J4 a ac) r) : dj_J5_ensureCapacityInternal_d00df_z_0 p l e s m args below meth c Q A dC dI a ac (df_J5_ensureCapacityInternal_d00df_z_0 n (a 2)) r := by
  obtain ⟨hlt, hx, hb, hml, hown, hts, hN, hA, hK⟩ := id C
  intro v0 s0 H locs ls h hP hD hS hl
  unfold df_J5_ensureCapacityInternal_d00df_z_0 at h
  refine lv_aload_n hx hb dJ5_ensureCapacityInternal_d00df_0 rfl (lv_at hl 0 rfl) ?_
  refine va_get (D := (dC, dI)) (ci := 1) (v := .ref (a 1)) (C := RJ4) (T := TJ4) (N := 4) hx hb hts hi_dm_J5_ensureCapacityInternal_d00df_z_J4 hown hK hP 0 rfl rfl 0 (by decide) (hts (.fieldLink RJ5 15 "java/lang/AbstractStringBuilder" "value" "[B") (List.mem_of_getElem? (i := 1) rfl)) (fun _ h9 => h9) rfl dJ5_ensureCapacityInternal_d00df_1 ?_
  refine va_alen (v := Int32.ofNat (a 2)) hx hb hK hP 1 0 rfl rfl rfl dJ5_ensureCapacityInternal_d00df_4 ?_
  refine lv_topi (fun z1 ez1 => ?_)
  have h := nd_at h ez1
  refine lv_aload_n hx hb dJ5_ensureCapacityInternal_d00df_5 rfl (lv_at hl 0 rfl) ?_
  refine va_get (D := (dC, dI)) (ci := 1) (v := .int (sI s0 0)) (C := RJ4) (T := TJ4) (N := 4) hx hb hts hi_dm_J5_ensureCapacityInternal_d00df_z_J4 hown hK hP 0 rfl rfl 1 (by decide) (hts (.fieldLink RJ5 22 "java/lang/AbstractStringBuilder" "coder" "B") (List.mem_of_getElem? (i := 2) rfl)) (fun _ h9 => h9) rfl dJ5_ensureCapacityInternal_d00df_6 ?_
  refine lv_ishr hx hb dJ5_ensureCapacityInternal_d00df_9 ?_
  refine lv_topi (fun z2 ez2 => ?_)
  have h := nd_at h ez2
  refine lv_istore_n (lv' := [(2, .int z2), (0, .ref (a 0)), (1, .int v0)]) hx hb dJ5_ensureCapacityInternal_d00df_10 rfl hl (by decide) rfl (fun ls hl => ?_)
  refine lv_iload_n hx hb dJ5_ensureCapacityInternal_d00df_11 rfl (lv_at hl 2 rfl) ?_
  refine lv_iload_n hx hb dJ5_ensureCapacityInternal_d00df_12 rfl (lv_at hl 0 rfl) ?_
  refine lv_isub hx hb dJ5_ensureCapacityInternal_d00df_13 ?_
  refine lv_if_le (tgt := 38) hx hb dJ5_ensureCapacityInternal_d00df_14 (by decide) (fun c3 => ?_) (fun c3 => ?_)
  · have h := nd_pos h c3
    exact (db_J5_ensureCapacityInternal_d00df_z_38 C K)  s0 _ _ _ h hP hD hS (lv_sub hl [] rfl)
  · have h := nd_neg h c3
    exact nomatch (show (none : Option (St)) = some r from h)
set_option maxHeartbeats 40000000 in
set_option maxRecDepth 100000 in
theorem dm_J5_ensureCapacityInternal_d00df_z (l : Launch) (hlt : l.stackTraces = false) (dC : Nat → ClassId) (dI : Nat → Nat → Nat) (a : Nat → Nat) (ac : Nat → ClassId) (n : Nat) (v0 : Int32) (s0 : St) {r : St} (h : df_J5_ensureCapacityInternal_d00df_z n (a 2) v0 s0 = some r) (sz : Nat) : Met l yJ5_ensureCapacityInternal_d00df ow_dm_J5_ensureCapacityInternal_d00df_z ({ frames := 0, cells := 0, slots := 0, locals := 0 }) (va_Pc [.ref (a 0), .int v0] (fun U => U.heap.size = sz ∧ va_P (dC, dI) vwCl (dw_J4 a ac s0) U.heap ∧ va_K (dC, dI) vwCl (dk_J4 ac) U ∧ va_D (fun _ => True) (dw_J4 a ac s0) ∧ nv_E dI (va_A (dw_J4 a ac s0) sz) U)) (va_Qv (fun _ => True) (fun (_ : Unit) t => va_P (dC, dI) vwCl (dw_J4 a ac r) t.heap ∧ va_K (dC, dI) vwCl (dk_J4 ac) t ∧ va_D (va_A (dw_J4 a ac s0) sz) (dw_J4 a ac r)) (va_A (dw_J4 a ac s0) sz)) 0 0 (va_A (dw_J4 a ac s0) sz) := by
  refine Met.ofW (cc := cJ5_ensureCapacityInternal_d00df) (maxL := 3) (ret := none) (by decide) rfl ?_
  intro p e s m args below meth c s₁ B hml hv
  obtain ⟨rfl, hsz, hP, hK, hD0, hN⟩ := hv
  have hx := B.exec
  have hb := B.bytes
  have hr := B.returns
  have hts := atoms_spec (ws := ow_dm_J5_ensureCapacityInternal_d00df_z) B.pre
  have hown : s.vm.findClass RJ5 = some m.cls := findClass_of_methodNamed B.named
  have hlocks := B.notSynchronized
  subst hsz
  have hD := hD0.self (sz := s.heap.size)
  generalize hAe : va_A (dw_J4 a ac s0) s.heap.size = A at hD hN ⊢
  have hA : ∀ q : Nat, s.heap.size ≤ q → A q := fun q h => by rw [← hAe]; exact Or.inr h
  have hl := lv_entry ([.ref (a 0), .int v0]) (n := 3) (Nat.le_of_ble_eq_true rfl)
  rw [lg_entry_eq]
  generalize (lg_sl ([.ref (a 0), .int v0]) ++ List.replicate (3 - (lg_sl ([.ref (a 0), .int v0])).length) Slot.unset).toArray = ls at hl ⊢
  have hl : lv_has ls 3 [(0, .ref (a 0)), (1, .int v0)] := hl
  exact db_J5_ensureCapacityInternal_d00df_z_0 (dC := dC) (dI := dI) (a := a) (ac := ac) (n := n) (r := r) ⟨hlt, hx, hb, hml, hown, hts, hN, hA, hK⟩ (fun pc τ H locs ls d er hP hD hS => by subst er; exact W.vret hx hb hr (fun t ht hW => ⟨⟨(), rfl, trivial, by rw [ht]; exact hP, va_K.moved hW.alike hK, hD⟩, hS.F ht⟩) hS.2.2 d) v0 s0 _ _ _ h hP hD va_S.rf (lv_sub hl [0, 1] rfl)
def ow_dm_J5_setLength_d00df : List Cond := Cond.code yJ5_setLength_d00df cJ5_setLength_d00df 2 none :: ([Cond.methodLink RJ5 100 ⟨"java/lang/AbstractStringBuilder", "ensureCapacityInternal", "(I)V"⟩, .sameMethod "java/lang/AbstractStringBuilder" "java/lang/AbstractStringBuilder" "ensureCapacityInternal" "(I)V", Cond.selects RJ4 ⟨"java/lang/AbstractStringBuilder", "ensureCapacityInternal", "(I)V"⟩ yJ5_ensureCapacityInternal_d00df, Cond.instanceMethod yJ5_ensureCapacityInternal_d00df, Cond.initialized RJ5, Cond.fieldLink RJ5 79 "java/lang/AbstractStringBuilder" "count" "I", Cond.fieldLink RJ5 73 "java/lang/AbstractStringBuilder" "maybeLatin1" "Z"] ++ (u_ws RJ4 TJ4 4 ++ (ow_dm_J5_ensureCapacityInternal_d00df_z ++ [])))
theorem gd_dm_J5_setLength_d00df : ∀ w ∈ ow_dm_J5_setLength_d00df, (w.onTables && w.keeps) = true ∨ ∃ ty, w = Cond.arrayClass ty := List.forall_mem_cons.mpr ⟨good_of_word rfl, List.forall_mem_append.mpr ⟨fun w h => good_of_word (List.all_eq_true.mp (by decide +kernel) w h), List.forall_mem_append.mpr ⟨gu_J4, List.forall_mem_append.mpr ⟨gd_dm_J5_ensureCapacityInternal_d00df_z, fun _ h => nomatch h⟩⟩⟩⟩
theorem hi_dm_J5_setLength_d00df_J4 : ∀ w ∈ u_ws RJ4 TJ4 4, w ∈ ow_dm_J5_setLength_d00df := fun w h => List.mem_cons_of_mem _ (List.mem_append_right _ (List.mem_append_left _ h))
theorem gi_dm_J5_setLength_d00df_0 : GoodIn ow_dm_J5_setLength_d00df (va_wsU RJ5 100 RJ4 "java/lang/AbstractStringBuilder" ⟨"java/lang/AbstractStringBuilder", "ensureCapacityInternal", "(I)V"⟩ yJ5_ensureCapacityInternal_d00df ow_dm_J5_ensureCapacityInternal_d00df_z) := goodIn_app (goodIn_of _ (by decide +kernel)) (fun w h => ⟨List.mem_cons_of_mem _ (List.mem_append_right _ (List.mem_append_right _ (List.mem_append_left _ h))), gd_dm_J5_ensureCapacityInternal_d00df_z w h⟩)
def dj_J5_setLength_d00df_76 (p : Program) (l : Launch) (e : Env) (s : State) (m : MethodId) (args : Array Value) (below : List Frame) (meth : Method) (c : Code) (Q : State → Prop) (A : Nat → Prop) (dC : Nat → ClassId) (dI : Nat → Nat → Nat) (a : Nat → Nat) (ac : Nat → ClassId) (g : Int32 → (St) → Option (St)) (r : St) : Prop := ∀ (x1 : Int32) (s0 : St) (H : Heap) (locs : List Loc) (ls : Array Slot), g x1 s0 = some r → va_P (dC, dI) vwCl (dw_J4 a ac s0) H → va_D A (dw_J4 a ac s0) → va_S A s.heap H locs → lv_has ls 2 [(0, .ref (a 0)), (1, .int x1)] → W p l e (headSpec ow_dm_J5_setLength_d00df ({ frames := 1, cells := 0, slots := 0, locals := 22 })).room s m args below meth c H locs 0 0 Q (F0 m 76 ls [])
def dj_J5_setLength_d00df_0 (p : Program) (l : Launch) (e : Env) (s : State) (m : MethodId) (args : Array Value) (below : List Frame) (meth : Method) (c : Code) (Q : State → Prop) (A : Nat → Prop) (dC : Nat → ClassId) (dI : Nat → Nat → Nat) (a : Nat → Nat) (ac : Nat → ClassId) (g : Int32 → (St) → Option (St)) (r : St) : Prop := ∀ (v0 : Int32) (s0 : St) (H : Heap) (locs : List Loc) (ls : Array Slot), g v0 s0 = some r → va_P (dC, dI) vwCl (dw_J4 a ac s0) H → va_D A (dw_J4 a ac s0) → va_S A s.heap H locs → lv_has ls 2 [(0, .ref (a 0)), (1, .int v0)] → W p l e (headSpec ow_dm_J5_setLength_d00df ({ frames := 1, cells := 0, slots := 0, locals := 22 })).room s m args below meth c H locs 0 0 Q (F0 m 0 ls [])
set_option maxHeartbeats 40000000 in
set_option maxRecDepth 100000 in
theorem db_J5_setLength_d00df_76 {p : Program} {l : Launch} {e : Env} {s : State} {m : MethodId} {args : Array Value} {below : List Frame} {meth : Method} {c : Code} {Q : State → Prop} {A : Nat → Prop} {dC : Nat → ClassId} {dI : Nat → Nat → Nat} {a : Nat → Nat} {ac : Nat → ClassId} {n : Nat} {r : St} (C : nd_C p l s m args c A (dC, dI) cJ5_setLength_d00df 2 RJ5 ow_dm_J5_setLength_d00df (dk_J4 ac)) (K : nd_Kv p l e (headSpec ow_dm_J5_setLength_d00df ({ frames := 1, cells := 0, slots := 0, locals := 22 })).room s m args below meth c Q A (dC, dI) cJ5_setLength_d00df (St) (dw_J4 a ac) r) : dj_J5_setLength_d00df_76 p l e s m args below meth c Q A dC dI a ac (df_J5_setLength_d00df_76 n (a 2)) r := by
  obtain ⟨hlt, hx, hb, hml, hown, hts, hN, hA, hK⟩ := id C
  intro x1 s0 H locs ls h hP hD hS hl
  unfold df_J5_setLength_d00df_76 at h
  refine lv_aload_n hx hb dJ5_setLength_d00df_76 rfl (lv_at hl 0 rfl) ?_
  refine lv_iload_n hx hb dJ5_setLength_d00df_77 rfl (lv_at hl 1 rfl) ?_
  refine va_put (D := (dC, dI)) (ci := 1) (v := .int x1) (ty := .int) (C := RJ4) (T := TJ4) (N := 4) hx hb hts hi_dm_J5_setLength_d00df_J4 tyJ4 tyJ4_ok nmJ4 hown hK hP hD hS 0 rfl rfl 3 (by decide) (hts (.fieldLink RJ5 79 "java/lang/AbstractStringBuilder" "count" "I") (List.mem_of_getElem? (i := 6) rfl)) (fun _ h9 => h9) rfl (by decide +kernel) rfl rfl (Nat.le_of_ble_eq_true rfl) dJ5_setLength_d00df_78 (fun H locs hP hD hS => ?_)
  obtain ⟨s7, es7, h⟩ := nd_let_e h
  have hP : va_P (dC, dI) vwCl (dw_J4 a ac s7) H := by rw [es7]; exact hP
  have hD : va_D A (dw_J4 a ac s7) := by rw [es7]; exact hD
  exact K _ _ _ _ _ dJ5_setLength_d00df_81 (Option.some.inj h).symm hP hD hS
set_option maxHeartbeats 40000000 in
set_option maxRecDepth 100000 in
theorem db_J5_setLength_d00df_0 {p : Program} {l : Launch} {e : Env} {s : State} {m : MethodId} {args : Array Value} {below : List Frame} {meth : Method} {c : Code} {Q : State → Prop} {A : Nat → Prop} {dC : Nat → ClassId} {dI : Nat → Nat → Nat} {a : Nat → Nat} {ac : Nat → ClassId} {n : Nat} {r : St} (C : nd_C p l s m args c A (dC, dI) cJ5_setLength_d00df 2 RJ5 ow_dm_J5_setLength_d00df (dk_J4 ac)) (K : nd_Kv p l e (headSpec ow_dm_J5_setLength_d00df ({ frames := 1, cells := 0, slots := 0, locals := 22 })).room s m args below meth c Q A (dC, dI) cJ5_setLength_d00df (St) (dw_J4 a ac) r) : dj_J5_setLength_d00df_0 p l e s m args below meth c Q A dC dI a ac (df_J5_setLength_d00df_0 n (a 2)) r := by
  obtain ⟨hlt, hx, hb, hml, hown, hts, hN, hA, hK⟩ := id C
  intro v0 s0 H locs ls h hP hD hS hl
  unfold df_J5_setLength_d00df_0 at h
  refine lv_iload_n hx hb dJ5_setLength_d00df_0 rfl (lv_at hl 1 rfl) ?_
  refine lv_if_ge (tgt := 13) hx hb dJ5_setLength_d00df_1 (by decide) (fun c1 => ?_) (fun c1 => ?_)
  · have h := nd_pos h c1
    refine lv_aload_n hx hb dJ5_setLength_d00df_13 rfl (lv_at hl 0 rfl) ?_
    refine lv_iload_n hx hb dJ5_setLength_d00df_14 rfl (lv_at hl 1 rfl) ?_
    obtain ⟨s3, hq, h⟩ := nd_b1_e h
    have hPc := hP
    have hDc := hD
    have hKc := hK
    have hFc := nd_rs hD hS hA
    refine nd_cUv (As := [.int v0]) (rest := []) (w' := dw_J4 a ac s3) ⟨hx, hb, hml, hown, hts⟩ (fun sz => dm_J5_ensureCapacityInternal_d00df_z l hlt dC dI a ac n (v0) s0 hq sz) (va_cwU 1 hts gi_dm_J5_setLength_d00df_0 rfl rfl rfl rfl (by decide +kernel) ⟨Nat.le_of_ble_eq_true rfl, Nat.le_of_ble_eq_true rfl⟩) hPc hDc hKc hS hA hN (va_recv hKc hPc (ci := 1) (q0 := 0) rfl rfl) rfl hl.1 rfl (Nat.le_of_ble_eq_true rfl) dJ5_setLength_d00df_15 (fun H locs hP1 hD1 hk1 hS => ?_)
    have hP := hP1
    have hD := hD1.weaken (fun k q _ h => hFc q.1 h)
    refine lv_aload_n hx hb dJ5_setLength_d00df_18 rfl (lv_at hl 0 rfl) ?_
    refine va_get (D := (dC, dI)) (ci := 1) (v := .int (sI s3 2)) (C := RJ4) (T := TJ4) (N := 4) hx hb hts hi_dm_J5_setLength_d00df_J4 hown hK hP 0 rfl rfl 3 (by decide) (hts (.fieldLink RJ5 79 "java/lang/AbstractStringBuilder" "count" "I") (List.mem_of_getElem? (i := 6) rfl)) (fun _ h9 => h9) rfl dJ5_setLength_d00df_19 ?_
    refine lv_iload_n hx hb dJ5_setLength_d00df_22 rfl (lv_at hl 1 rfl) ?_
    refine lv_icmp_ge (tgt := 63) hx hb dJ5_setLength_d00df_23 (by decide) (fun c5 => ?_) (fun c5 => ?_)
    · have h := nd_pos h c5
      refine lv_aload_n hx hb dJ5_setLength_d00df_63 rfl (lv_at hl 0 rfl) ?_
      refine va_get (D := (dC, dI)) (ci := 1) (v := .int (sI s3 2)) (C := RJ4) (T := TJ4) (N := 4) hx hb hts hi_dm_J5_setLength_d00df_J4 hown hK hP 0 rfl rfl 3 (by decide) (hts (.fieldLink RJ5 79 "java/lang/AbstractStringBuilder" "count" "I") (List.mem_of_getElem? (i := 6) rfl)) (fun _ h9 => h9) rfl dJ5_setLength_d00df_64 ?_
      refine lv_iload_n hx hb dJ5_setLength_d00df_67 rfl (lv_at hl 1 rfl) ?_
      refine lv_icmp_le (tgt := 76) hx hb dJ5_setLength_d00df_68 (by decide) (fun c6 => ?_) (fun c6 => ?_)
      · have h := nd_pos h c6
        exact (db_J5_setLength_d00df_76 C K) (v0) s3 _ _ _ h hP hD hS (lv_sub hl [0, 1] rfl)
      · have h := nd_neg h c6
        refine lv_aload_n hx hb dJ5_setLength_d00df_71 rfl (lv_at hl 0 rfl) ?_
        refine lv_iconst (v := 1) hx hb dJ5_setLength_d00df_72 (by decide) ?_
        refine va_put (D := (dC, dI)) (ci := 1) (v := .int 1) (ty := .boolean) (C := RJ4) (T := TJ4) (N := 4) hx hb hts hi_dm_J5_setLength_d00df_J4 tyJ4 tyJ4_ok nmJ4 hown hK hP hD hS 0 rfl rfl 2 (by decide) (hts (.fieldLink RJ5 73 "java/lang/AbstractStringBuilder" "maybeLatin1" "Z") (List.mem_of_getElem? (i := 7) rfl)) (fun _ h9 => h9) rfl (by decide +kernel) (by first | rfl | decide) rfl (Nat.le_of_ble_eq_true rfl) dJ5_setLength_d00df_73 (fun H locs hP hD hS => ?_)
        obtain ⟨s8, es8, h⟩ := nd_let_e h
        have hP : va_P (dC, dI) vwCl (dw_J4 a ac s8) H := by rw [es8]; exact hP
        have hD : va_D A (dw_J4 a ac s8) := by rw [es8]; exact hD
        exact (db_J5_setLength_d00df_76 C K) (v0) s8 _ _ _ h hP hD hS (lv_sub hl [0, 1] rfl)
    · have h := nd_neg h c5
      exact nomatch (show (none : Option (St)) = some r from h)
  · have h := nd_neg h c1
    exact nomatch (show (none : Option (St)) = some r from h)
set_option maxHeartbeats 40000000 in
set_option maxRecDepth 100000 in
theorem dm_J5_setLength_d00df (l : Launch) (hlt : l.stackTraces = false) (dC : Nat → ClassId) (dI : Nat → Nat → Nat) (a : Nat → Nat) (ac : Nat → ClassId) (n : Nat) (v0 : Int32) (s0 : St) {r : St} (h : df_J5_setLength_d00df n (a 2) v0 s0 = some r) (sz : Nat) : Met l yJ5_setLength_d00df ow_dm_J5_setLength_d00df ({ frames := 1, cells := 0, slots := 0, locals := 22 }) (va_Pc [.ref (a 0), .int v0] (fun U => U.heap.size = sz ∧ va_P (dC, dI) vwCl (dw_J4 a ac s0) U.heap ∧ va_K (dC, dI) vwCl (dk_J4 ac) U ∧ va_D (fun _ => True) (dw_J4 a ac s0) ∧ nv_E dI (va_A (dw_J4 a ac s0) sz) U)) (va_Qv (fun _ => True) (fun (_ : Unit) t => va_P (dC, dI) vwCl (dw_J4 a ac r) t.heap ∧ va_K (dC, dI) vwCl (dk_J4 ac) t ∧ va_D (va_A (dw_J4 a ac s0) sz) (dw_J4 a ac r)) (va_A (dw_J4 a ac s0) sz)) 0 0 (va_A (dw_J4 a ac s0) sz) := by
  refine Met.ofW (cc := cJ5_setLength_d00df) (maxL := 2) (ret := none) (by decide) rfl ?_
  intro p e s m args below meth c s₁ B hml hv
  obtain ⟨rfl, hsz, hP, hK, hD0, hN⟩ := hv
  have hx := B.exec
  have hb := B.bytes
  have hr := B.returns
  have hts := atoms_spec (ws := ow_dm_J5_setLength_d00df) B.pre
  have hown : s.vm.findClass RJ5 = some m.cls := findClass_of_methodNamed B.named
  have hlocks := B.notSynchronized
  subst hsz
  have hD := hD0.self (sz := s.heap.size)
  generalize hAe : va_A (dw_J4 a ac s0) s.heap.size = A at hD hN ⊢
  have hA : ∀ q : Nat, s.heap.size ≤ q → A q := fun q h => by rw [← hAe]; exact Or.inr h
  have hl := lv_entry ([.ref (a 0), .int v0]) (n := 2) (Nat.le_of_ble_eq_true rfl)
  rw [lg_entry_eq]
  generalize (lg_sl ([.ref (a 0), .int v0]) ++ List.replicate (2 - (lg_sl ([.ref (a 0), .int v0])).length) Slot.unset).toArray = ls at hl ⊢
  have hl : lv_has ls 2 [(0, .ref (a 0)), (1, .int v0)] := hl
  exact db_J5_setLength_d00df_0 (dC := dC) (dI := dI) (a := a) (ac := ac) (n := n) (r := r) ⟨hlt, hx, hb, hml, hown, hts, hN, hA, hK⟩ (fun pc τ H locs ls d er hP hD hS => by subst er; exact W.vret hx hb hr (fun t ht hW => ⟨⟨(), rfl, trivial, by rw [ht]; exact hP, va_K.moved hW.alike hK, hD⟩, hS.F ht⟩) hS.2.2 d) v0 s0 _ _ _ h hP hD va_S.rf (lv_sub hl [0, 1] rfl)
def ow_dm_J4_setLength_d00df : List Cond := Cond.code yJ4_setLength_d00df cJ4_setLength_d00df 2 none :: ([Cond.methodLink RJ4 333 yJ5_setLength_d00df, .sameMethod "java/lang/AbstractStringBuilder" "java/lang/AbstractStringBuilder" "setLength" "(I)V", .superclass RJ4 RJ5, Cond.instanceMethod yJ5_setLength_d00df, Cond.initialized RJ5] ++ (ow_dm_J5_setLength_d00df ++ []))
theorem gd_dm_J4_setLength_d00df : ∀ w ∈ ow_dm_J4_setLength_d00df, (w.onTables && w.keeps) = true ∨ ∃ ty, w = Cond.arrayClass ty := List.forall_mem_cons.mpr ⟨good_of_word rfl, List.forall_mem_append.mpr ⟨fun w h => good_of_word (List.all_eq_true.mp (by decide +kernel) w h), List.forall_mem_append.mpr ⟨gd_dm_J5_setLength_d00df, fun _ h => nomatch h⟩⟩⟩
theorem gi_dm_J4_setLength_d00df_0 : GoodIn ow_dm_J4_setLength_d00df (va_wsSU RJ4 333 yJ5_setLength_d00df ow_dm_J5_setLength_d00df) := goodIn_app (goodIn_of _ (by decide +kernel)) (fun w h => ⟨List.mem_cons_of_mem _ (List.mem_append_right _ (List.mem_append_left _ h)), gd_dm_J5_setLength_d00df w h⟩)
def dj_J4_setLength_d00df_0 (p : Program) (l : Launch) (e : Env) (s : State) (m : MethodId) (args : Array Value) (below : List Frame) (meth : Method) (c : Code) (Q : State → Prop) (A : Nat → Prop) (dC : Nat → ClassId) (dI : Nat → Nat → Nat) (a : Nat → Nat) (ac : Nat → ClassId) (g : Int32 → (St) → Option (St)) (r : St) : Prop := ∀ (v0 : Int32) (s0 : St) (H : Heap) (locs : List Loc) (ls : Array Slot), g v0 s0 = some r → va_P (dC, dI) vwCl (dw_J4 a ac s0) H → va_D A (dw_J4 a ac s0) → va_S A s.heap H locs → lv_has ls 2 [(0, .ref (a 0)), (1, .int v0)] → W p l e (headSpec ow_dm_J4_setLength_d00df ({ frames := 2, cells := 0, slots := 0, locals := 43 })).room s m args below meth c H locs 0 0 Q (F0 m 0 ls [])
set_option maxHeartbeats 40000000 in
set_option maxRecDepth 100000 in
theorem db_J4_setLength_d00df_0 {p : Program} {l : Launch} {e : Env} {s : State} {m : MethodId} {args : Array Value} {below : List Frame} {meth : Method} {c : Code} {Q : State → Prop} {A : Nat → Prop} {dC : Nat → ClassId} {dI : Nat → Nat → Nat} {a : Nat → Nat} {ac : Nat → ClassId} {n : Nat} {r : St} (C : nd_C p l s m args c A (dC, dI) cJ4_setLength_d00df 2 RJ4 ow_dm_J4_setLength_d00df (dk_J4 ac)) (K : nd_Kv p l e (headSpec ow_dm_J4_setLength_d00df ({ frames := 2, cells := 0, slots := 0, locals := 43 })).room s m args below meth c Q A (dC, dI) cJ4_setLength_d00df (St) (dw_J4 a ac) r) : dj_J4_setLength_d00df_0 p l e s m args below meth c Q A dC dI a ac (df_J4_setLength_d00df_0 n (a 2)) r := by
  obtain ⟨hlt, hx, hb, hml, hown, hts, hN, hA, hK⟩ := id C
  intro v0 s0 H locs ls h hP hD hS hl
  unfold df_J4_setLength_d00df_0 at h
  refine lv_aload_n hx hb dJ4_setLength_d00df_0 rfl (lv_at hl 0 rfl) ?_
  refine lv_iload_n hx hb dJ4_setLength_d00df_1 rfl (lv_at hl 1 rfl) ?_
  obtain ⟨s2, hq, h⟩ := nd_b1_e h
  have hFc := nd_rs hD hS hA
  refine nd_gWv (E := nv_E dI) (As := [.int v0]) (rest := []) (w' := fun (_ : Unit) => dw_J4 a ac s2) nv_same nv_call ((hK.1 1 _ rfl).2) ⟨hx, hb, hml, hown, hts⟩ (fun sz => dm_J5_setLength_d00df l hlt dC dI a ac n (v0) s0 hq sz) (va_cwSU 1 hts gi_dm_J4_setLength_d00df_0 rfl rfl rfl (by decide +kernel) ⟨Nat.le_of_ble_eq_true rfl, Nat.le_of_ble_eq_true rfl⟩) hP hD hK hS hA hN (va_recv hK hP (ci := 1) (q0 := 0) rfl rfl) rfl hl.1 rfl (Nat.le_of_ble_eq_true rfl) dJ4_setLength_d00df_2 ⟨Nat.le_of_ble_eq_true rfl, Nat.le_of_ble_eq_true rfl⟩ (fun _ H locs hP1 hD1 hk1 hS => ?_)
  have hP := hP1
  have hD := hD1.weaken (fun k q _ h => hFc q.1 h)
  exact K _ _ _ _ _ dJ4_setLength_d00df_5 (Option.some.inj h).symm hP hD hS
set_option maxHeartbeats 40000000 in
set_option maxRecDepth 100000 in
theorem dm_J4_setLength_d00df (l : Launch) (hlt : l.stackTraces = false) (dC : Nat → ClassId) (dI : Nat → Nat → Nat) (a : Nat → Nat) (ac : Nat → ClassId) (n : Nat) (v0 : Int32) (s0 : St) {r : St} (h : df_J4_setLength_d00df n (a 2) v0 s0 = some r) (sz : Nat) : Met l yJ4_setLength_d00df ow_dm_J4_setLength_d00df ({ frames := 2, cells := 0, slots := 0, locals := 43 }) (va_Pc [.ref (a 0), .int v0] (fun U => U.heap.size = sz ∧ va_P (dC, dI) vwCl (dw_J4 a ac s0) U.heap ∧ va_K (dC, dI) vwCl (dk_J4 ac) U ∧ va_D (fun _ => True) (dw_J4 a ac s0) ∧ nv_E dI (va_A (dw_J4 a ac s0) sz) U)) (va_Qv (fun _ => True) (fun (_ : Unit) t => va_P (dC, dI) vwCl (dw_J4 a ac r) t.heap ∧ va_K (dC, dI) vwCl (dk_J4 ac) t ∧ va_D (va_A (dw_J4 a ac s0) sz) (dw_J4 a ac r)) (va_A (dw_J4 a ac s0) sz)) 0 0 (va_A (dw_J4 a ac s0) sz) := by
  refine Met.ofW (cc := cJ4_setLength_d00df) (maxL := 2) (ret := none) (by decide) rfl ?_
  intro p e s m args below meth c s₁ B hml hv
  obtain ⟨rfl, hsz, hP, hK, hD0, hN⟩ := hv
  have hx := B.exec
  have hb := B.bytes
  have hr := B.returns
  have hts := atoms_spec (ws := ow_dm_J4_setLength_d00df) B.pre
  have hown : s.vm.findClass RJ4 = some m.cls := findClass_of_methodNamed B.named
  have hlocks := B.notSynchronized
  subst hsz
  have hD := hD0.self (sz := s.heap.size)
  generalize hAe : va_A (dw_J4 a ac s0) s.heap.size = A at hD hN ⊢
  have hA : ∀ q : Nat, s.heap.size ≤ q → A q := fun q h => by rw [← hAe]; exact Or.inr h
  have hl := lv_entry ([.ref (a 0), .int v0]) (n := 2) (Nat.le_of_ble_eq_true rfl)
  rw [lg_entry_eq]
  generalize (lg_sl ([.ref (a 0), .int v0]) ++ List.replicate (2 - (lg_sl ([.ref (a 0), .int v0])).length) Slot.unset).toArray = ls at hl ⊢
  have hl : lv_has ls 2 [(0, .ref (a 0)), (1, .int v0)] := hl
  exact db_J4_setLength_d00df_0 (dC := dC) (dI := dI) (a := a) (ac := ac) (n := n) (r := r) ⟨hlt, hx, hb, hml, hown, hts, hN, hA, hK⟩ (fun pc τ H locs ls d er hP hD hS => by subst er; exact W.vret hx hb hr (fun t ht hW => ⟨⟨(), rfl, trivial, by rw [ht]; exact hP, va_K.moved hW.alike hK, hD⟩, hS.F ht⟩) hS.2.2 d) v0 s0 _ _ _ h hP hD va_S.rf (lv_sub hl [0, 1] rfl)
def ow_dm_J4_length_8abf5 : List Cond := Cond.code yJ4_length_8abf5 cJ4_length_8abf5 1 (some .int) :: ([Cond.methodLink RJ4 343 yJ5_length_8abf5, .sameMethod "java/lang/AbstractStringBuilder" "java/lang/AbstractStringBuilder" "length" "()I", .superclass RJ4 RJ5, Cond.instanceMethod yJ5_length_8abf5, Cond.initialized RJ5] ++ (ow_dm_J5_length_8abf5 ++ []))
theorem gd_dm_J4_length_8abf5 : ∀ w ∈ ow_dm_J4_length_8abf5, (w.onTables && w.keeps) = true ∨ ∃ ty, w = Cond.arrayClass ty := List.forall_mem_cons.mpr ⟨good_of_word rfl, List.forall_mem_append.mpr ⟨fun w h => good_of_word (List.all_eq_true.mp (by decide +kernel) w h), List.forall_mem_append.mpr ⟨gd_dm_J5_length_8abf5, fun _ h => nomatch h⟩⟩⟩
theorem gi_dm_J4_length_8abf5_0 : GoodIn ow_dm_J4_length_8abf5 (va_wsSU RJ4 343 yJ5_length_8abf5 ow_dm_J5_length_8abf5) := goodIn_app (goodIn_of _ (by decide +kernel)) (fun w h => ⟨List.mem_cons_of_mem _ (List.mem_append_right _ (List.mem_append_left _ h)), gd_dm_J5_length_8abf5 w h⟩)
def dj_J4_length_8abf5_0 (p : Program) (l : Launch) (e : Env) (s : State) (m : MethodId) (args : Array Value) (below : List Frame) (meth : Method) (c : Code) (Q : State → Prop) (A : Nat → Prop) (dC : Nat → ClassId) (dI : Nat → Nat → Nat) (a : Nat → Nat) (ac : Nat → ClassId) (g : (St) → Option (Int32 × (St))) (r : Int32 × (St)) : Prop := ∀ (s0 : St) (H : Heap) (locs : List Loc) (ls : Array Slot), g s0 = some r → va_P (dC, dI) vwCl (dw_J4 a ac s0) H → va_D A (dw_J4 a ac s0) → va_S A s.heap H locs → lv_has ls 1 [(0, .ref (a 0))] → W p l e (headSpec ow_dm_J4_length_8abf5 ({ frames := 1, cells := 0, slots := 0, locals := 20 })).room s m args below meth c H locs 0 0 Q (F0 m 0 ls [])
set_option maxHeartbeats 40000000 in
set_option maxRecDepth 100000 in
theorem db_J4_length_8abf5_0 {p : Program} {l : Launch} {e : Env} {s : State} {m : MethodId} {args : Array Value} {below : List Frame} {meth : Method} {c : Code} {Q : State → Prop} {A : Nat → Prop} {dC : Nat → ClassId} {dI : Nat → Nat → Nat} {a : Nat → Nat} {ac : Nat → ClassId} {n : Nat} {r : Int32 × (St)} (C : nd_C p l s m args c A (dC, dI) cJ4_length_8abf5 1 RJ4 ow_dm_J4_length_8abf5 (dk_J4 ac)) (K : nd_Ki p l e (headSpec ow_dm_J4_length_8abf5 ({ frames := 1, cells := 0, slots := 0, locals := 20 })).room s m args below meth c Q A (dC, dI) cJ4_length_8abf5 .int (St) (dw_J4 a ac) r) : dj_J4_length_8abf5_0 p l e s m args below meth c Q A dC dI a ac (df_J4_length_8abf5_0 n (a 2)) r := by
  obtain ⟨hlt, hx, hb, hml, hown, hts, hN, hA, hK⟩ := id C
  intro s0 H locs ls h hP hD hS hl
  unfold df_J4_length_8abf5_0 at h
  refine lv_aload_n hx hb dJ4_length_8abf5_0 rfl (lv_at hl 0 rfl) ?_
  obtain ⟨q1, s2, hq, h⟩ := nd_b2_e h
  have hFc := nd_rs hD hS hA
  refine nd_gWi (E := nv_E dI) (As := []) (rest := []) (q := q1) (w' := fun (_ : Unit) => dw_J4 a ac s2) nv_same nv_call ((hK.1 1 _ rfl).2) ⟨hx, hb, hml, hown, hts⟩ (fun sz => dm_J5_length_8abf5 l hlt dC dI a ac n  s0 hq sz) (va_cwSU 0 hts gi_dm_J4_length_8abf5_0 rfl rfl rfl (by decide +kernel) ⟨Nat.le_of_ble_eq_true rfl, Nat.le_of_ble_eq_true rfl⟩) hP hD hK hS hA hN (va_recv hK hP (ci := 1) (q0 := 0) rfl rfl) rfl hl.1 rfl (Nat.le_of_ble_eq_true rfl) dJ4_length_8abf5_1 ⟨Nat.le_of_ble_eq_true rfl, Nat.le_of_ble_eq_true rfl⟩ (fun _ H locs hP1 hD1 hk1 hS => ?_)
  have hP := hP1
  have hD := hD1.weaken (fun k q _ h => hFc q.1 h)
  exact K _ _ _ _ _ _ dJ4_length_8abf5_4 rfl (Option.some.inj h).symm hP hD hS
set_option maxHeartbeats 40000000 in
set_option maxRecDepth 100000 in
theorem dm_J4_length_8abf5 (l : Launch) (hlt : l.stackTraces = false) (dC : Nat → ClassId) (dI : Nat → Nat → Nat) (a : Nat → Nat) (ac : Nat → ClassId) (n : Nat) (s0 : St) {r : Int32 × (St)} (h : df_J4_length_8abf5 n (a 2) s0 = some r) (sz : Nat) : Met l yJ4_length_8abf5 ow_dm_J4_length_8abf5 ({ frames := 1, cells := 0, slots := 0, locals := 20 }) (va_Pc [.ref (a 0)] (fun U => U.heap.size = sz ∧ va_P (dC, dI) vwCl (dw_J4 a ac s0) U.heap ∧ va_K (dC, dI) vwCl (dk_J4 ac) U ∧ va_D (fun _ => True) (dw_J4 a ac s0) ∧ nv_E dI (va_A (dw_J4 a ac s0) sz) U)) (va_Qi (fun x _ => x = r.1) (fun (_ : Unit) t => va_P (dC, dI) vwCl (dw_J4 a ac r.2) t.heap ∧ va_K (dC, dI) vwCl (dk_J4 ac) t ∧ va_D (va_A (dw_J4 a ac s0) sz) (dw_J4 a ac r.2)) (va_A (dw_J4 a ac s0) sz)) 0 0 (va_A (dw_J4 a ac s0) sz) := by
  refine Met.ofW (cc := cJ4_length_8abf5) (maxL := 1) (ret := (some .int)) (by decide) rfl ?_
  intro p e s m args below meth c s₁ B hml hv
  obtain ⟨rfl, hsz, hP, hK, hD0, hN⟩ := hv
  have hx := B.exec
  have hb := B.bytes
  have hr := B.returns
  have hts := atoms_spec (ws := ow_dm_J4_length_8abf5) B.pre
  have hown : s.vm.findClass RJ4 = some m.cls := findClass_of_methodNamed B.named
  have hlocks := B.notSynchronized
  subst hsz
  have hD := hD0.self (sz := s.heap.size)
  generalize hAe : va_A (dw_J4 a ac s0) s.heap.size = A at hD hN ⊢
  have hA : ∀ q : Nat, s.heap.size ≤ q → A q := fun q h => by rw [← hAe]; exact Or.inr h
  have hl := lv_entry ([.ref (a 0)]) (n := 1) (Nat.le_of_ble_eq_true rfl)
  rw [lg_entry_eq]
  generalize (lg_sl ([.ref (a 0)]) ++ List.replicate (1 - (lg_sl ([.ref (a 0)])).length) Slot.unset).toArray = ls at hl ⊢
  have hl : lv_has ls 1 [(0, .ref (a 0))] := hl
  exact db_J4_length_8abf5_0 (dC := dC) (dI := dI) (a := a) (ac := ac) (n := n) (r := r) ⟨hlt, hx, hb, hml, hown, hts, hN, hA, hK⟩ (fun pc v τ H locs ls d z er hP hD hS => by subst er; exact W.zret (v := v) hx hb hr z (fun t ht hW => ⟨⟨v, (), rfl, rfl, by rw [ht]; exact hP, va_K.moved hW.alike hK, hD⟩, hS.F ht⟩) hS.2.2 d) s0 _ _ _ h hP hD va_S.rf (lv_sub hl [0] rfl)
def ow_dm_J4_charAt_5068e : List Cond := Cond.code yJ4_charAt_5068e cJ4_charAt_5068e 2 (some .char) :: ([Cond.methodLink RJ4 329 yJ5_charAt_5068e, .sameMethod "java/lang/AbstractStringBuilder" "java/lang/AbstractStringBuilder" "charAt" "(I)C", .superclass RJ4 RJ5, Cond.instanceMethod yJ5_charAt_5068e, Cond.initialized RJ5] ++ (ow_dm_J5_charAt_5068e ++ []))
theorem gd_dm_J4_charAt_5068e : ∀ w ∈ ow_dm_J4_charAt_5068e, (w.onTables && w.keeps) = true ∨ ∃ ty, w = Cond.arrayClass ty := List.forall_mem_cons.mpr ⟨good_of_word rfl, List.forall_mem_append.mpr ⟨fun w h => good_of_word (List.all_eq_true.mp (by decide +kernel) w h), List.forall_mem_append.mpr ⟨gd_dm_J5_charAt_5068e, fun _ h => nomatch h⟩⟩⟩
theorem gi_dm_J4_charAt_5068e_0 : GoodIn ow_dm_J4_charAt_5068e (va_wsSU RJ4 329 yJ5_charAt_5068e ow_dm_J5_charAt_5068e) := goodIn_app (goodIn_of _ (by decide +kernel)) (fun w h => ⟨List.mem_cons_of_mem _ (List.mem_append_right _ (List.mem_append_left _ h)), gd_dm_J5_charAt_5068e w h⟩)
def dj_J4_charAt_5068e_0 (p : Program) (l : Launch) (e : Env) (s : State) (m : MethodId) (args : Array Value) (below : List Frame) (meth : Method) (c : Code) (Q : State → Prop) (A : Nat → Prop) (dC : Nat → ClassId) (dI : Nat → Nat → Nat) (a : Nat → Nat) (ac : Nat → ClassId) (g : Int32 → (St) → Option (Int32 × (St))) (r : Int32 × (St)) : Prop := ∀ (v0 : Int32) (s0 : St) (H : Heap) (locs : List Loc) (ls : Array Slot), g v0 s0 = some r → va_P (dC, dI) vwCl (dw_J4 a ac s0) H → va_D A (dw_J4 a ac s0) → va_S A s.heap H locs → lv_has ls 2 [(0, .ref (a 0)), (1, .int v0)] → W p l e (headSpec ow_dm_J4_charAt_5068e ({ frames := 3, cells := 0, slots := 0, locals := 67 })).room s m args below meth c H locs 0 0 Q (F0 m 0 ls [])
set_option maxHeartbeats 40000000 in
set_option maxRecDepth 100000 in
theorem db_J4_charAt_5068e_0 {p : Program} {l : Launch} {e : Env} {s : State} {m : MethodId} {args : Array Value} {below : List Frame} {meth : Method} {c : Code} {Q : State → Prop} {A : Nat → Prop} {dC : Nat → ClassId} {dI : Nat → Nat → Nat} {a : Nat → Nat} {ac : Nat → ClassId} {n : Nat} {r : Int32 × (St)} (C : nd_C p l s m args c A (dC, dI) cJ4_charAt_5068e 2 RJ4 ow_dm_J4_charAt_5068e (dk_J4 ac)) (K : nd_Ki p l e (headSpec ow_dm_J4_charAt_5068e ({ frames := 3, cells := 0, slots := 0, locals := 67 })).room s m args below meth c Q A (dC, dI) cJ4_charAt_5068e .char (St) (dw_J4 a ac) r) : dj_J4_charAt_5068e_0 p l e s m args below meth c Q A dC dI a ac (df_J4_charAt_5068e_0 n (a 2)) r := by
  obtain ⟨hlt, hx, hb, hml, hown, hts, hN, hA, hK⟩ := id C
  intro v0 s0 H locs ls h hP hD hS hl
  unfold df_J4_charAt_5068e_0 at h
  refine lv_aload_n hx hb dJ4_charAt_5068e_0 rfl (lv_at hl 0 rfl) ?_
  refine lv_iload_n hx hb dJ4_charAt_5068e_1 rfl (lv_at hl 1 rfl) ?_
  obtain ⟨q1, s2, hq, h⟩ := nd_b2_e h
  have hFc := nd_rs hD hS hA
  refine nd_gWi (E := nv_E dI) (As := [.int v0]) (rest := []) (q := q1) (w' := fun (_ : Unit) => dw_J4 a ac s2) nv_same nv_call ((hK.1 1 _ rfl).2) ⟨hx, hb, hml, hown, hts⟩ (fun sz => dm_J5_charAt_5068e l hlt dC dI a ac n (v0) s0 hq sz) (va_cwSU 1 hts gi_dm_J4_charAt_5068e_0 rfl rfl rfl (by decide +kernel) ⟨Nat.le_of_ble_eq_true rfl, Nat.le_of_ble_eq_true rfl⟩) hP hD hK hS hA hN (va_recv hK hP (ci := 1) (q0 := 0) rfl rfl) rfl hl.1 rfl (Nat.le_of_ble_eq_true rfl) dJ4_charAt_5068e_2 ⟨Nat.le_of_ble_eq_true rfl, Nat.le_of_ble_eq_true rfl⟩ (fun _ H locs hP1 hD1 hk1 hS => ?_)
  have hP := hP1
  have hD := hD1.weaken (fun k q _ h => hFc q.1 h)
  obtain ⟨n3, h⟩ := nd_z_e ⟨_, rfl⟩ h
  exact K _ _ _ _ _ _ dJ4_charAt_5068e_5 n3 (Option.some.inj h).symm hP hD hS
set_option maxHeartbeats 40000000 in
set_option maxRecDepth 100000 in
theorem dm_J4_charAt_5068e (l : Launch) (hlt : l.stackTraces = false) (dC : Nat → ClassId) (dI : Nat → Nat → Nat) (a : Nat → Nat) (ac : Nat → ClassId) (n : Nat) (v0 : Int32) (s0 : St) {r : Int32 × (St)} (h : df_J4_charAt_5068e n (a 2) v0 s0 = some r) (sz : Nat) : Met l yJ4_charAt_5068e ow_dm_J4_charAt_5068e ({ frames := 3, cells := 0, slots := 0, locals := 67 }) (va_Pc [.ref (a 0), .int v0] (fun U => U.heap.size = sz ∧ va_P (dC, dI) vwCl (dw_J4 a ac s0) U.heap ∧ va_K (dC, dI) vwCl (dk_J4 ac) U ∧ va_D (fun _ => True) (dw_J4 a ac s0) ∧ nv_E dI (va_A (dw_J4 a ac s0) sz) U)) (va_Qi (fun x _ => x = r.1) (fun (_ : Unit) t => va_P (dC, dI) vwCl (dw_J4 a ac r.2) t.heap ∧ va_K (dC, dI) vwCl (dk_J4 ac) t ∧ va_D (va_A (dw_J4 a ac s0) sz) (dw_J4 a ac r.2)) (va_A (dw_J4 a ac s0) sz)) 0 0 (va_A (dw_J4 a ac s0) sz) := by
  refine Met.ofW (cc := cJ4_charAt_5068e) (maxL := 2) (ret := (some .char)) (by decide) rfl ?_
  intro p e s m args below meth c s₁ B hml hv
  obtain ⟨rfl, hsz, hP, hK, hD0, hN⟩ := hv
  have hx := B.exec
  have hb := B.bytes
  have hr := B.returns
  have hts := atoms_spec (ws := ow_dm_J4_charAt_5068e) B.pre
  have hown : s.vm.findClass RJ4 = some m.cls := findClass_of_methodNamed B.named
  have hlocks := B.notSynchronized
  subst hsz
  have hD := hD0.self (sz := s.heap.size)
  generalize hAe : va_A (dw_J4 a ac s0) s.heap.size = A at hD hN ⊢
  have hA : ∀ q : Nat, s.heap.size ≤ q → A q := fun q h => by rw [← hAe]; exact Or.inr h
  have hl := lv_entry ([.ref (a 0), .int v0]) (n := 2) (Nat.le_of_ble_eq_true rfl)
  rw [lg_entry_eq]
  generalize (lg_sl ([.ref (a 0), .int v0]) ++ List.replicate (2 - (lg_sl ([.ref (a 0), .int v0])).length) Slot.unset).toArray = ls at hl ⊢
  have hl : lv_has ls 2 [(0, .ref (a 0)), (1, .int v0)] := hl
  exact db_J4_charAt_5068e_0 (dC := dC) (dI := dI) (a := a) (ac := ac) (n := n) (r := r) ⟨hlt, hx, hb, hml, hown, hts, hN, hA, hK⟩ (fun pc v τ H locs ls d z er hP hD hS => by subst er; exact W.zret (v := v) hx hb hr z (fun t ht hW => ⟨⟨v, (), rfl, rfl, by rw [ht]; exact hP, va_K.moved hW.alike hK, hD⟩, hS.F ht⟩) hS.2.2 d) v0 s0 _ _ _ h hP hD va_S.rf (lv_sub hl [0, 1] rfl)
def ow_dm_J1_canEncode_fc78d : List Cond := Cond.code yJ1_canEncode_fc78d cJ1_canEncode_fc78d 1 (some .boolean) :: ([] ++ [])
theorem gd_dm_J1_canEncode_fc78d : ∀ w ∈ ow_dm_J1_canEncode_fc78d, (w.onTables && w.keeps) = true ∨ ∃ ty, w = Cond.arrayClass ty := List.forall_mem_cons.mpr ⟨good_of_word rfl, List.forall_mem_append.mpr ⟨fun w h => good_of_word (List.all_eq_true.mp (by decide +kernel) w h), fun _ h => nomatch h⟩⟩
def dj_J1_canEncode_fc78d_12 (p : Program) (l : Launch) (e : Env) (s : State) (m : MethodId) (args : Array Value) (below : List Frame) (meth : Method) (c : Code) (Q : State → Prop) (A : Nat → Prop) (dC : Nat → ClassId) (dI : Nat → Nat → Nat) (a : Nat → Nat) (ac : Nat → ClassId) (g : Int32 → (Unit) → Option (Int32 × (Unit))) (r : Int32 × (Unit)) : Prop := ∀ (y0 : Int32) (s0 : Unit) (H : Heap) (locs : List Loc) (ls : Array Slot), g y0 s0 = some r → va_P (dC, dI) vwCl (dw_P a ac s0) H → va_D A (dw_P a ac s0) → va_S A s.heap H locs → lv_has ls 1 [] → W p l e (headSpec ow_dm_J1_canEncode_fc78d ({ frames := 0, cells := 0, slots := 0, locals := 0 })).room s m args below meth c H locs 0 0 Q (F0 m 12 ls [.int y0])
def dj_J1_canEncode_fc78d_0 (p : Program) (l : Launch) (e : Env) (s : State) (m : MethodId) (args : Array Value) (below : List Frame) (meth : Method) (c : Code) (Q : State → Prop) (A : Nat → Prop) (dC : Nat → ClassId) (dI : Nat → Nat → Nat) (a : Nat → Nat) (ac : Nat → ClassId) (g : Int32 → (Unit) → Option (Int32 × (Unit))) (r : Int32 × (Unit)) : Prop := ∀ (v0 : Int32) (s0 : Unit) (H : Heap) (locs : List Loc) (ls : Array Slot), g v0 s0 = some r → va_P (dC, dI) vwCl (dw_P a ac s0) H → va_D A (dw_P a ac s0) → va_S A s.heap H locs → lv_has ls 1 [(0, .int v0)] → W p l e (headSpec ow_dm_J1_canEncode_fc78d ({ frames := 0, cells := 0, slots := 0, locals := 0 })).room s m args below meth c H locs 0 0 Q (F0 m 0 ls [])
set_option maxHeartbeats 40000000 in
set_option maxRecDepth 100000 in
theorem db_J1_canEncode_fc78d_12 {p : Program} {l : Launch} {e : Env} {s : State} {m : MethodId} {args : Array Value} {below : List Frame} {meth : Method} {c : Code} {Q : State → Prop} {A : Nat → Prop} {dC : Nat → ClassId} {dI : Nat → Nat → Nat} {a : Nat → Nat} {ac : Nat → ClassId} {n : Nat} {r : Int32 × (Unit)} (C : nd_C p l s m args c A (dC, dI) cJ1_canEncode_fc78d 1 RJ1 ow_dm_J1_canEncode_fc78d (dk_P ac)) (K : nd_Ki p l e (headSpec ow_dm_J1_canEncode_fc78d ({ frames := 0, cells := 0, slots := 0, locals := 0 })).room s m args below meth c Q A (dC, dI) cJ1_canEncode_fc78d .boolean (Unit) (dw_P a ac) r) : dj_J1_canEncode_fc78d_12 p l e s m args below meth c Q A dC dI a ac (df_J1_canEncode_fc78d_12 n) r := by
  obtain ⟨hlt, hx, hb, hml, hown, hts, hN, hA, hK⟩ := id C
  intro y0 s0 H locs ls h hP hD hS hl
  unfold df_J1_canEncode_fc78d_12 at h
  obtain ⟨n2, h⟩ := nd_z_e ⟨_, rfl⟩ h
  exact K _ _ _ _ _ _ dJ1_canEncode_fc78d_12 n2 (Option.some.inj h).symm hP hD hS
set_option maxHeartbeats 40000000 in
set_option maxRecDepth 100000 in
theorem db_J1_canEncode_fc78d_0 {p : Program} {l : Launch} {e : Env} {s : State} {m : MethodId} {args : Array Value} {below : List Frame} {meth : Method} {c : Code} {Q : State → Prop} {A : Nat → Prop} {dC : Nat → ClassId} {dI : Nat → Nat → Nat} {a : Nat → Nat} {ac : Nat → ClassId} {n : Nat} {r : Int32 × (Unit)} (C : nd_C p l s m args c A (dC, dI) cJ1_canEncode_fc78d 1 RJ1 ow_dm_J1_canEncode_fc78d (dk_P ac)) (K : nd_Ki p l e (headSpec ow_dm_J1_canEncode_fc78d ({ frames := 0, cells := 0, slots := 0, locals := 0 })).room s m args below meth c Q A (dC, dI) cJ1_canEncode_fc78d .boolean (Unit) (dw_P a ac) r) : dj_J1_canEncode_fc78d_0 p l e s m args below meth c Q A dC dI a ac (df_J1_canEncode_fc78d_0 n) r := by
  obtain ⟨hlt, hx, hb, hml, hown, hts, hN, hA, hK⟩ := id C
  intro v0 s0 H locs ls h hP hD hS hl
  unfold df_J1_canEncode_fc78d_0 at h
  refine lv_iload_n hx hb dJ1_canEncode_fc78d_0 rfl (lv_at hl 0 rfl) ?_
  refine lv_sipush (v := 255) hx hb dJ1_canEncode_fc78d_1 (by decide) ?_
  refine lv_icmp_gt (tgt := 11) hx hb dJ1_canEncode_fc78d_4 (by decide) (fun c1 => ?_) (fun c1 => ?_)
  · have h := nd_pos h c1
    refine lv_iconst (v := 0) hx hb dJ1_canEncode_fc78d_11 (by decide) ?_
    exact (db_J1_canEncode_fc78d_12 C K) (0) s0 _ _ _ h hP hD hS (lv_sub hl [] rfl)
  · have h := nd_neg h c1
    refine lv_iconst (v := 1) hx hb dJ1_canEncode_fc78d_7 (by decide) ?_
    refine lv_goto (tgt := 12) hx hb dJ1_canEncode_fc78d_8 (by decide) ?_
    exact (db_J1_canEncode_fc78d_12 C K) (1) s0 _ _ _ h hP hD hS (lv_sub hl [] rfl)
set_option maxHeartbeats 40000000 in
set_option maxRecDepth 100000 in
theorem dm_J1_canEncode_fc78d (l : Launch) (hlt : l.stackTraces = false) (dC : Nat → ClassId) (dI : Nat → Nat → Nat) (a : Nat → Nat) (ac : Nat → ClassId) (n : Nat) (v0 : Int32) (s0 : Unit) {r : Int32 × (Unit)} (h : df_J1_canEncode_fc78d n v0 s0 = some r) (sz : Nat) : Met l yJ1_canEncode_fc78d ow_dm_J1_canEncode_fc78d ({ frames := 0, cells := 0, slots := 0, locals := 0 }) (va_Pc [.int v0] (fun U => U.heap.size = sz ∧ va_P (dC, dI) vwCl (dw_P a ac s0) U.heap ∧ va_K (dC, dI) vwCl (dk_P ac) U ∧ va_D (fun _ => True) (dw_P a ac s0) ∧ nv_E dI (va_A (dw_P a ac s0) sz) U)) (va_Qi (fun x _ => x = r.1) (fun (_ : Unit) t => va_P (dC, dI) vwCl (dw_P a ac r.2) t.heap ∧ va_K (dC, dI) vwCl (dk_P ac) t ∧ va_D (va_A (dw_P a ac s0) sz) (dw_P a ac r.2)) (va_A (dw_P a ac s0) sz)) 0 0 (va_A (dw_P a ac s0) sz) := by
  refine Met.ofW (cc := cJ1_canEncode_fc78d) (maxL := 1) (ret := (some .boolean)) (by decide) rfl ?_
  intro p e s m args below meth c s₁ B hml hv
  obtain ⟨rfl, hsz, hP, hK, hD0, hN⟩ := hv
  have hx := B.exec
  have hb := B.bytes
  have hr := B.returns
  have hts := atoms_spec (ws := ow_dm_J1_canEncode_fc78d) B.pre
  have hown : s.vm.findClass RJ1 = some m.cls := findClass_of_methodNamed B.named
  have hlocks := B.notSynchronized
  subst hsz
  have hD := hD0.self (sz := s.heap.size)
  generalize hAe : va_A (dw_P a ac s0) s.heap.size = A at hD hN ⊢
  have hA : ∀ q : Nat, s.heap.size ≤ q → A q := fun q h => by rw [← hAe]; exact Or.inr h
  have hl := lv_entry ([.int v0]) (n := 1) (Nat.le_of_ble_eq_true rfl)
  rw [lg_entry_eq]
  generalize (lg_sl ([.int v0]) ++ List.replicate (1 - (lg_sl ([.int v0])).length) Slot.unset).toArray = ls at hl ⊢
  have hl : lv_has ls 1 [(0, .int v0)] := hl
  exact db_J1_canEncode_fc78d_0 (dC := dC) (dI := dI) (a := a) (ac := ac) (n := n) (r := r) ⟨hlt, hx, hb, hml, hown, hts, hN, hA, hK⟩ (fun pc v τ H locs ls d z er hP hD hS => by subst er; exact W.zret (v := v) hx hb hr z (fun t ht hW => ⟨⟨v, (), rfl, rfl, by rw [ht]; exact hP, va_K.moved hW.alike hK, hD⟩, hS.F ht⟩) hS.2.2 d) v0 s0 _ _ _ h hP hD va_S.rf (lv_sub hl [0] rfl)
def ow_dm_J6_stringSize_0f7a4 : List Cond := Cond.code yJ6_stringSize_0f7a4 cJ6_stringSize_0f7a4 4 (some .int) :: ([] ++ [])
theorem gd_dm_J6_stringSize_0f7a4 : ∀ w ∈ ow_dm_J6_stringSize_0f7a4, (w.onTables && w.keeps) = true ∨ ∃ ty, w = Cond.arrayClass ty := List.forall_mem_cons.mpr ⟨good_of_word rfl, List.forall_mem_append.mpr ⟨fun w h => good_of_word (List.all_eq_true.mp (by decide +kernel) w h), fun _ h => nomatch h⟩⟩
def dj_J6_stringSize_0f7a4_16 (p : Program) (l : Launch) (e : Env) (s : State) (m : MethodId) (args : Array Value) (below : List Frame) (meth : Method) (c : Code) (Q : State → Prop) (A : Nat → Prop) (dC : Nat → ClassId) (dI : Nat → Nat → Nat) (a : Nat → Nat) (ac : Nat → ClassId) (g : Int32 → Int32 → Int32 → Int32 → (Unit) → Option (Int32 × (Unit))) (r : Int32 × (Unit)) : Prop := ∀ (x0 : Int32) (x1 : Int32) (x2 : Int32) (x3 : Int32) (s0 : Unit) (H : Heap) (locs : List Loc) (ls : Array Slot), g x0 x1 x2 x3 s0 = some r → va_P (dC, dI) vwCl (dw_P a ac s0) H → va_D A (dw_P a ac s0) → va_S A s.heap H locs → lv_has ls 4 [(0, .int x0), (1, .int x1), (2, .int x2), (3, .int x3)] → W p l e (headSpec ow_dm_J6_stringSize_0f7a4 ({ frames := 0, cells := 0, slots := 0, locals := 0 })).room s m args below meth c H locs 0 0 Q (F0 m 16 ls [])
def dj_J6_stringSize_0f7a4_11 (p : Program) (l : Launch) (e : Env) (s : State) (m : MethodId) (args : Array Value) (below : List Frame) (meth : Method) (c : Code) (Q : State → Prop) (A : Nat → Prop) (dC : Nat → ClassId) (dI : Nat → Nat → Nat) (a : Nat → Nat) (ac : Nat → ClassId) (g : Int32 → Int32 → (Unit) → Option (Int32 × (Unit))) (r : Int32 × (Unit)) : Prop := ∀ (x0 : Int32) (x1 : Int32) (s0 : Unit) (H : Heap) (locs : List Loc) (ls : Array Slot), g x0 x1 s0 = some r → va_P (dC, dI) vwCl (dw_P a ac s0) H → va_D A (dw_P a ac s0) → va_S A s.heap H locs → lv_has ls 4 [(0, .int x0), (1, .int x1)] → W p l e (headSpec ow_dm_J6_stringSize_0f7a4 ({ frames := 0, cells := 0, slots := 0, locals := 0 })).room s m args below meth c H locs 0 0 Q (F0 m 11 ls [])
def dj_J6_stringSize_0f7a4_0 (p : Program) (l : Launch) (e : Env) (s : State) (m : MethodId) (args : Array Value) (below : List Frame) (meth : Method) (c : Code) (Q : State → Prop) (A : Nat → Prop) (dC : Nat → ClassId) (dI : Nat → Nat → Nat) (a : Nat → Nat) (ac : Nat → ClassId) (g : Int32 → (Unit) → Option (Int32 × (Unit))) (r : Int32 × (Unit)) : Prop := ∀ (v0 : Int32) (s0 : Unit) (H : Heap) (locs : List Loc) (ls : Array Slot), g v0 s0 = some r → va_P (dC, dI) vwCl (dw_P a ac s0) H → va_D A (dw_P a ac s0) → va_S A s.heap H locs → lv_has ls 4 [(0, .int v0)] → W p l e (headSpec ow_dm_J6_stringSize_0f7a4 ({ frames := 0, cells := 0, slots := 0, locals := 0 })).room s m args below meth c H locs 0 0 Q (F0 m 0 ls [])
set_option maxHeartbeats 40000000 in
set_option maxRecDepth 100000 in
theorem dB_J6_stringSize_0f7a4_16 {p : Program} {l : Launch} {e : Env} {s : State} {m : MethodId} {args : Array Value} {below : List Frame} {meth : Method} {c : Code} {Q : State → Prop} {A : Nat → Prop} {dC : Nat → ClassId} {dI : Nat → Nat → Nat} {a : Nat → Nat} {ac : Nat → ClassId} {n : Nat} {r : Int32 × (Unit)} (C : nd_C p l s m args c A (dC, dI) cJ6_stringSize_0f7a4 4 RJ6 ow_dm_J6_stringSize_0f7a4 (dk_P ac)) (K : nd_Ki p l e (headSpec ow_dm_J6_stringSize_0f7a4 ({ frames := 0, cells := 0, slots := 0, locals := 0 })).room s m args below meth c Q A (dC, dI) cJ6_stringSize_0f7a4 .int (Unit) (dw_P a ac) r) {g16 : Int32 → Int32 → Int32 → Int32 → (Unit) → Option (Int32 × (Unit))} (J16 : dj_J6_stringSize_0f7a4_16 p l e s m args below meth c Q A dC dI a ac g16 r) : dj_J6_stringSize_0f7a4_16 p l e s m args below meth c Q A dC dI a ac (dF_J6_stringSize_0f7a4_16 n g16) r := by
  obtain ⟨hlt, hx, hb, hml, hown, hts, hN, hA, hK⟩ := id C
  intro x0 x1 x2 x3 s0 H locs ls h hP hD hS hl
  unfold dF_J6_stringSize_0f7a4_16 at h
  refine lv_iload_n hx hb dJ6_stringSize_0f7a4_16 rfl (lv_at hl 3 rfl) ?_
  refine lv_bipush (v := 10) hx hb dJ6_stringSize_0f7a4_17 (by decide) ?_
  refine lv_icmp_ge (tgt := 42) hx hb dJ6_stringSize_0f7a4_19 (by decide) (fun c2 => ?_) (fun c2 => ?_)
  · have h := nd_pos h c2
    refine lv_bipush (v := 10) hx hb dJ6_stringSize_0f7a4_42 (by decide) ?_
    refine lv_iload_n hx hb dJ6_stringSize_0f7a4_44 rfl (lv_at hl 1 rfl) ?_
    refine lv_iadd hx hb dJ6_stringSize_0f7a4_45 ?_
    exact K _ _ _ _ _ _ dJ6_stringSize_0f7a4_46 rfl (Option.some.inj h).symm hP hD hS
  · have h := nd_neg h c2
    refine lv_iload_n hx hb dJ6_stringSize_0f7a4_22 rfl (lv_at hl 0 rfl) ?_
    refine lv_iload_n hx hb dJ6_stringSize_0f7a4_23 rfl (lv_at hl 2 rfl) ?_
    refine lv_icmp_le (tgt := 31) hx hb dJ6_stringSize_0f7a4_24 (by decide) (fun c3 => ?_) (fun c3 => ?_)
    · have h := nd_pos h c3
      refine lv_bipush (v := 10) hx hb dJ6_stringSize_0f7a4_31 (by decide) ?_
      refine lv_iload_n hx hb dJ6_stringSize_0f7a4_33 rfl (lv_at hl 2 rfl) ?_
      refine lv_imul hx hb dJ6_stringSize_0f7a4_34 ?_
      refine lv_topi (fun z4 ez4 => ?_)
      have h := nd_at h ez4
      refine lv_istore_n (lv' := [(2, .int z4), (0, .int x0), (1, .int x1), (3, .int x3)]) hx hb dJ6_stringSize_0f7a4_35 rfl hl (by decide) rfl (fun ls hl => ?_)
      obtain ⟨z5, ez5, h⟩ := nd_let_e h
      refine lv_iinc (v := z5) (lv' := [(3, .int z5), (2, .int z4), (0, .int x0), (1, .int x1)]) hx hb dJ6_stringSize_0f7a4_36 hl (k := 3) rfl (by rw [ez5]) (by decide) rfl (fun ls hl => ?_)
      refine lv_goto (tgt := 16) hx hb dJ6_stringSize_0f7a4_39 (by decide) ?_
      exact (J16) (x0) (x1) (z4) (z5) s0 _ _ _ h hP hD hS (lv_sub hl [2, 3, 1, 0] rfl)
    · have h := nd_neg h c3
      refine lv_iload_n hx hb dJ6_stringSize_0f7a4_27 rfl (lv_at hl 3 rfl) ?_
      refine lv_iload_n hx hb dJ6_stringSize_0f7a4_28 rfl (lv_at hl 1 rfl) ?_
      refine lv_iadd hx hb dJ6_stringSize_0f7a4_29 ?_
      exact K _ _ _ _ _ _ dJ6_stringSize_0f7a4_30 rfl (Option.some.inj h).symm hP hD hS
set_option maxHeartbeats 40000000 in
set_option maxRecDepth 100000 in
theorem db_J6_stringSize_0f7a4_16 {p : Program} {l : Launch} {e : Env} {s : State} {m : MethodId} {args : Array Value} {below : List Frame} {meth : Method} {c : Code} {Q : State → Prop} {A : Nat → Prop} {dC : Nat → ClassId} {dI : Nat → Nat → Nat} {a : Nat → Nat} {ac : Nat → ClassId} {n : Nat} {r : Int32 × (Unit)} (C : nd_C p l s m args c A (dC, dI) cJ6_stringSize_0f7a4 4 RJ6 ow_dm_J6_stringSize_0f7a4 (dk_P ac)) (K : nd_Ki p l e (headSpec ow_dm_J6_stringSize_0f7a4 ({ frames := 0, cells := 0, slots := 0, locals := 0 })).room s m args below meth c Q A (dC, dI) cJ6_stringSize_0f7a4 .int (Unit) (dw_P a ac) r) (k : Nat) : dj_J6_stringSize_0f7a4_16 p l e s m args below meth c Q A dC dI a ac (df_J6_stringSize_0f7a4_16 n k) r := by
  induction k with
  | zero => intro x0 x1 x2 x3 s0 H locs ls h; exact nomatch (show (none : Option (Int32 × (Unit))) = some r from h)
  | succ k ih => exact dB_J6_stringSize_0f7a4_16 C K ih
set_option maxHeartbeats 40000000 in
set_option maxRecDepth 100000 in
theorem db_J6_stringSize_0f7a4_11 {p : Program} {l : Launch} {e : Env} {s : State} {m : MethodId} {args : Array Value} {below : List Frame} {meth : Method} {c : Code} {Q : State → Prop} {A : Nat → Prop} {dC : Nat → ClassId} {dI : Nat → Nat → Nat} {a : Nat → Nat} {ac : Nat → ClassId} {n : Nat} {r : Int32 × (Unit)} (C : nd_C p l s m args c A (dC, dI) cJ6_stringSize_0f7a4 4 RJ6 ow_dm_J6_stringSize_0f7a4 (dk_P ac)) (K : nd_Ki p l e (headSpec ow_dm_J6_stringSize_0f7a4 ({ frames := 0, cells := 0, slots := 0, locals := 0 })).room s m args below meth c Q A (dC, dI) cJ6_stringSize_0f7a4 .int (Unit) (dw_P a ac) r) : dj_J6_stringSize_0f7a4_11 p l e s m args below meth c Q A dC dI a ac (df_J6_stringSize_0f7a4_11 n) r := by
  obtain ⟨hlt, hx, hb, hml, hown, hts, hN, hA, hK⟩ := id C
  intro x0 x1 s0 H locs ls h hP hD hS hl
  unfold df_J6_stringSize_0f7a4_11 at h
  refine lv_bipush (v := (-10)) hx hb dJ6_stringSize_0f7a4_11 (by decide) ?_
  refine lv_istore_n (lv' := [(2, .int (-10)), (0, .int x0), (1, .int x1)]) hx hb dJ6_stringSize_0f7a4_13 rfl hl (by decide) rfl (fun ls hl => ?_)
  refine lv_iconst (v := 1) hx hb dJ6_stringSize_0f7a4_14 (by decide) ?_
  refine lv_istore_n (lv' := [(3, .int 1), (2, .int (-10)), (0, .int x0), (1, .int x1)]) hx hb dJ6_stringSize_0f7a4_15 rfl hl (by decide) rfl (fun ls hl => ?_)
  exact (db_J6_stringSize_0f7a4_16 C K n) (x0) (x1) ((-10)) (1) s0 _ _ _ h hP hD hS (lv_sub hl [2, 3, 1, 0] rfl)
set_option maxHeartbeats 40000000 in
set_option maxRecDepth 100000 in
theorem db_J6_stringSize_0f7a4_0 {p : Program} {l : Launch} {e : Env} {s : State} {m : MethodId} {args : Array Value} {below : List Frame} {meth : Method} {c : Code} {Q : State → Prop} {A : Nat → Prop} {dC : Nat → ClassId} {dI : Nat → Nat → Nat} {a : Nat → Nat} {ac : Nat → ClassId} {n : Nat} {r : Int32 × (Unit)} (C : nd_C p l s m args c A (dC, dI) cJ6_stringSize_0f7a4 4 RJ6 ow_dm_J6_stringSize_0f7a4 (dk_P ac)) (K : nd_Ki p l e (headSpec ow_dm_J6_stringSize_0f7a4 ({ frames := 0, cells := 0, slots := 0, locals := 0 })).room s m args below meth c Q A (dC, dI) cJ6_stringSize_0f7a4 .int (Unit) (dw_P a ac) r) : dj_J6_stringSize_0f7a4_0 p l e s m args below meth c Q A dC dI a ac (df_J6_stringSize_0f7a4_0 n) r := by
  obtain ⟨hlt, hx, hb, hml, hown, hts, hN, hA, hK⟩ := id C
  intro v0 s0 H locs ls h hP hD hS hl
  unfold df_J6_stringSize_0f7a4_0 at h
  refine lv_iconst (v := 1) hx hb dJ6_stringSize_0f7a4_0 (by decide) ?_
  refine lv_istore_n (lv' := [(1, .int 1), (0, .int v0)]) hx hb dJ6_stringSize_0f7a4_1 rfl hl (by decide) rfl (fun ls hl => ?_)
  refine lv_iload_n hx hb dJ6_stringSize_0f7a4_2 rfl (lv_at hl 1 rfl) ?_
  refine lv_if_lt (tgt := 11) hx hb dJ6_stringSize_0f7a4_3 (by decide) (fun c1 => ?_) (fun c1 => ?_)
  · have h := nd_pos h c1
    exact (db_J6_stringSize_0f7a4_11 C K) (v0) (1) s0 _ _ _ h hP hD hS (lv_sub hl [1, 0] rfl)
  · have h := nd_neg h c1
    refine lv_iconst (v := 0) hx hb dJ6_stringSize_0f7a4_6 (by decide) ?_
    refine lv_istore_n (lv' := [(1, .int 0), (0, .int v0)]) hx hb dJ6_stringSize_0f7a4_7 rfl hl (by decide) rfl (fun ls hl => ?_)
    refine lv_iload_n hx hb dJ6_stringSize_0f7a4_8 rfl (lv_at hl 1 rfl) ?_
    refine lv_ineg hx hb dJ6_stringSize_0f7a4_9 ?_
    refine lv_topi (fun z6 ez6 => ?_)
    have h := nd_at h ez6
    refine lv_istore_n (lv' := [(0, .int z6), (1, .int 0)]) hx hb dJ6_stringSize_0f7a4_10 rfl hl (by decide) rfl (fun ls hl => ?_)
    exact (db_J6_stringSize_0f7a4_11 C K) (z6) (0) s0 _ _ _ h hP hD hS (lv_sub hl [0, 1] rfl)
set_option maxHeartbeats 40000000 in
set_option maxRecDepth 100000 in
theorem dm_J6_stringSize_0f7a4 (l : Launch) (hlt : l.stackTraces = false) (dC : Nat → ClassId) (dI : Nat → Nat → Nat) (a : Nat → Nat) (ac : Nat → ClassId) (n : Nat) (v0 : Int32) (s0 : Unit) {r : Int32 × (Unit)} (h : df_J6_stringSize_0f7a4 n v0 s0 = some r) (sz : Nat) : Met l yJ6_stringSize_0f7a4 ow_dm_J6_stringSize_0f7a4 ({ frames := 0, cells := 0, slots := 0, locals := 0 }) (va_Pc [.int v0] (fun U => U.heap.size = sz ∧ va_P (dC, dI) vwCl (dw_P a ac s0) U.heap ∧ va_K (dC, dI) vwCl (dk_P ac) U ∧ va_D (fun _ => True) (dw_P a ac s0) ∧ nv_E dI (va_A (dw_P a ac s0) sz) U)) (va_Qi (fun x _ => x = r.1) (fun (_ : Unit) t => va_P (dC, dI) vwCl (dw_P a ac r.2) t.heap ∧ va_K (dC, dI) vwCl (dk_P ac) t ∧ va_D (va_A (dw_P a ac s0) sz) (dw_P a ac r.2)) (va_A (dw_P a ac s0) sz)) 0 0 (va_A (dw_P a ac s0) sz) := by
  refine Met.ofW (cc := cJ6_stringSize_0f7a4) (maxL := 4) (ret := (some .int)) (by decide) rfl ?_
  intro p e s m args below meth c s₁ B hml hv
  obtain ⟨rfl, hsz, hP, hK, hD0, hN⟩ := hv
  have hx := B.exec
  have hb := B.bytes
  have hr := B.returns
  have hts := atoms_spec (ws := ow_dm_J6_stringSize_0f7a4) B.pre
  have hown : s.vm.findClass RJ6 = some m.cls := findClass_of_methodNamed B.named
  have hlocks := B.notSynchronized
  subst hsz
  have hD := hD0.self (sz := s.heap.size)
  generalize hAe : va_A (dw_P a ac s0) s.heap.size = A at hD hN ⊢
  have hA : ∀ q : Nat, s.heap.size ≤ q → A q := fun q h => by rw [← hAe]; exact Or.inr h
  have hl := lv_entry ([.int v0]) (n := 4) (Nat.le_of_ble_eq_true rfl)
  rw [lg_entry_eq]
  generalize (lg_sl ([.int v0]) ++ List.replicate (4 - (lg_sl ([.int v0])).length) Slot.unset).toArray = ls at hl ⊢
  have hl : lv_has ls 4 [(0, .int v0)] := hl
  exact db_J6_stringSize_0f7a4_0 (dC := dC) (dI := dI) (a := a) (ac := ac) (n := n) (r := r) ⟨hlt, hx, hb, hml, hown, hts, hN, hA, hK⟩ (fun pc v τ H locs ls d z er hP hD hS => by subst er; exact W.zret (v := v) hx hb hr z (fun t ht hW => ⟨⟨v, (), rfl, rfl, by rw [ht]; exact hP, va_K.moved hW.alike hK, hD⟩, hS.F ht⟩) hS.2.2 d) v0 s0 _ _ _ h hP hD va_S.rf (lv_sub hl [0] rfl)

