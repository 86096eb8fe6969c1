/-- what the reference's functions leave alone -/
def Ok {β : Type} (R : β → Prop) (o : Option β) : Prop := (∀ b : β, o = some b → R b) ∧ True
theorem ok_none {β : Type} {R : β → Prop} : Ok R (none : Option β) := ⟨fun b h => (by cases h), trivial⟩
theorem ok_some {β : Type} {R : β → Prop} {b : β} (h : R b) : Ok R (some b) := ⟨fun c hc => (by
  cases hc; exact h), trivial⟩
theorem ok_lv {α β : Type} {R : β → Prop} {x : α} {k : α → Option β} (h : ∀ z : α, Ok R (k z)) : Ok R (nd_let x k) := h x
theorem ok_ck {β : Type} {R : β → Prop} {i : Int32} {n : Nat} {x : Option β} (h : Ok R x) : Ok R (nd_ck i n x) := ⟨fun b hb => (by
  unfold nd_ck at hb
  split at hb
  · exact h.1 b hb
  · cases hb), trivial⟩
theorem ok_o {β : Type} {R : β → Prop} {i : Option Nat} {n : Nat} {x : Option β} (h : Ok R x) : Ok R (nd_o i n x) := ⟨fun b hb => (by
  unfold nd_o at hb
  split at hb
  · exact h.1 b hb
  · cases hb), trivial⟩
theorem ok_z {β : Type} {R : β → Prop} {t : FieldType} {v : Int32} {x : Option β} (h : Ok R x) : Ok R (nd_z t v x) := ⟨fun b hb => (by
  unfold nd_z at hb
  split at hb
  · exact h.1 b hb
  · cases hb), trivial⟩
theorem ok_nz {β : Type} {R : β → Prop} {c : Bool} {x : Option β} (h : Ok R x) : Ok R (nd_nz c x) := ⟨fun b hb => (by
  unfold nd_nz at hb
  split at hb
  · cases hb
  · exact h.1 b hb), trivial⟩
theorem ok_lt {β : Type} {R : β → Prop} {j n : Nat} {x : Option β} (h : Ok R x) : Ok R (nd_lt j n x) := ⟨fun b hb => (by
  unfold nd_lt at hb
  split at hb
  · exact h.1 b hb
  · cases hb), trivial⟩
theorem ok_m {β : Type} {R : β → Prop} {o : Option Nat} {x : Option β} {k : Nat → Option β} (h : Ok R x) (h' : ∀ j : Nat, Ok R (k j)) : Ok R (nd_m o x k) := ⟨fun b hb => (by
  cases o with
  | none => exact h.1 b hb
  | some j => exact (h' j).1 b hb), trivial⟩
theorem ok_f {β : Type} {R : β → Prop} {t : FieldType} {v : Int32} {x : Option β} (h : fits t (.int v) = true → Ok R x) : Ok R (nd_f t v x) := ⟨fun b hb => (by
  unfold nd_f at hb
  split at hb
  · rename_i w; exact (h w).1 b hb
  · cases hb), trivial⟩
theorem ok_ite {β : Type} {R : β → Prop} {c : Prop} [Decidable c] {x y : Option β} (h : c → Ok R x) (h' : ¬ c → Ok R y) : Ok R (if c then x else y) := ⟨fun b hb => (by
  split at hb
  · rename_i w; exact (h w).1 b hb
  · rename_i w; exact (h' w).1 b hb), trivial⟩
theorem ok_n1 {α β : Type} {R : β → Prop} {x : Option α} {k : α → Option β} (h' : ∀ s : α, Ok R (k s)) : Ok R (nd_b1 x k) := ⟨fun b hb => (by
  cases x with
  | none => cases hb
  | some s => exact (h' s).1 b hb), trivial⟩
theorem ok_n2 {α γ β : Type} {R : β → Prop} {x : Option (α × γ)} {k : α → γ → Option β} (h' : ∀ (q : α) (s : γ), Ok R (k q s)) : Ok R (nd_b2 x k) := ⟨fun b hb => (by
  cases x with
  | none => cases hb
  | some s => exact (h' s.1 s.2).1 b hb), trivial⟩
theorem ok_g1 {α β : Type} {R : β → Prop} {P : α → Prop} {x : Option α} {k : α → Option β} (h : Ok P x) (h' : ∀ s : α, P s → Ok R (k s)) : Ok R (nd_b1 x k) := ⟨fun b hb => (by
  cases x with
  | none => cases hb
  | some s => exact (h' s (h.1 s rfl)).1 b hb), trivial⟩
theorem ok_g2 {α γ β : Type} {R : β → Prop} {P : γ → Prop} {x : Option (α × γ)} {k : α → γ → Option β} (h : Ok (fun r => P r.2) x) (h' : ∀ (q : α) (s : γ), P s → Ok R (k q s)) : Ok R (nd_b2 x k) := ⟨fun b hb => (by
  cases x with
  | none => cases hb
  | some s => exact (h' s.1 s.2 (h.1 s rfl)).1 b hb), trivial⟩
theorem b01_f {v : Int32} (h : fits .boolean (.int v) = true) : b01 v := by
  unfold fits at h
  simpa [b01] using h
def FrR (w m : Prop) (S0 S : St) : Prop := sR S 0 = sR S0 0 ∧ sR S 1 = sR S0 1 ∧ sQ S = sQ S0 ∧ (w → sR S 9 = sR S0 9) ∧ (m → ¬ sI S 15 = 3) ∧ b01 (sI S 20) ∧ b01 (sI S 21) ∧ b01 (sI S 22) ∧ b01 (sI S 23)
theorem fr_I {w m : Prop} {S0 S : St} {k : Nat} {v : Int32} (hk : (k < 20 ∨ 23 < k) ∧ ¬ k = 15) (h : FrR w m S0 S) : FrR w m S0 (pI S k v) := by
  obtain ⟨a1, a2, a3, a4, a9, a5, a6, a7, a8⟩ := h
  refine ⟨a1, a2, a3, a4, fun hw => ?_, ?_, ?_, ?_, ?_⟩
  · rw [sI_ne (by omega)]; exact a9 hw
  · rw [sI_ne (by omega)]; exact a5
  · rw [sI_ne (by omega)]; exact a6
  · rw [sI_ne (by omega)]; exact a7
  · rw [sI_ne (by omega)]; exact a8
theorem fr_B {w m : Prop} {S0 S : St} {k : Nat} {v : Int32} (hk : 20 ≤ k ∧ k ≤ 23) (hv : b01 v) (h : FrR w m S0 S) : FrR w m S0 (pI S k v) := by
  obtain ⟨a1, a2, a3, a4, a9, a5, a6, a7, a8⟩ := h
  have e : ∀ j : Nat, b01 (sI S j) → b01 (sI (pI S k v) j) := fun j hj => by
    rw [nb_II]
    by_cases c : j = k
    · rw [if_pos c]; exact hv
    · rw [if_neg c]; exact hj
  exact ⟨a1, a2, a3, a4, fun hw => by rw [sI_ne (by omega)]; exact a9 hw, e 20 a5, e 21 a6, e 22 a7, e 23 a8⟩
theorem fr_M {w m : Prop} {S0 S : St} {v : Int32} (hv : w ∨ m → ¬ v = 3) (h : FrR w m S0 S) : FrR w (w ∨ m) S0 (pI S 15 v) := by
  obtain ⟨a1, a2, a3, a4, a9, a5, a6, a7, a8⟩ := h
  refine ⟨a1, a2, a3, a4, fun hw => ?_, a5, a6, a7, a8⟩
  show ¬ v = 3
  exact hv hw
theorem fr_R {w m : Prop} {S0 S : St} {k : Nat} {f : Nat → Int32} (hk : 2 ≤ k ∧ k ≤ 8) (h : FrR w m S0 S) : FrR w m S0 (pR S k f) := by
  obtain ⟨a1, a2, a3, a4, a9, a5, a6, a7, a8⟩ := h
  refine ⟨?_, ?_, a3, fun hw => ?_, a9, a5, a6, a7, a8⟩
  · rw [sR_ne (by omega)]; exact a1
  · rw [sR_ne (by omega)]; exact a2
  · rw [sR_ne (by omega)]; exact a4 hw
theorem fr_9 {w m : Prop} {S0 S : St} {f : Nat → Int32} (hc : sI S 15 = 3) (hwm : w → m) (h : FrR w m S0 S) : FrR w m S0 (pR S 9 f) := by
  obtain ⟨a1, a2, a3, a4, a9, a5, a6, a7, a8⟩ := h
  exact ⟨a1, a2, a3, fun hw => absurd hc (a9 (hwm hw)), a9, a5, a6, a7, a8⟩
theorem fr_9n {w m : Prop} {S0 S : St} {f : Nat → Int32} (hw : ¬ (w ∨ m)) (h : FrR w m S0 S) : FrR w m S0 (pR S 9 f) := by
  obtain ⟨a1, a2, a3, a4, a9, a5, a6, a7, a8⟩ := h
  exact ⟨a1, a2, a3, fun x => absurd (Or.inl x) hw, a9, a5, a6, a7, a8⟩
theorem fr_O {w m : Prop} {S0 S : St} {k : Nat} {v : Option Nat} (h : FrR w m S0 S) : FrR w m S0 (pO S k v) := h
theorem ok_w {w m : Prop} {S0 : St} {o : Option St} (h : Ok (fun r => FrR w (w ∨ m) S0 r) o) : Ok (fun r => FrR w m S0 r) o := ⟨fun b hb => by
  obtain ⟨a1, a2, a3, a4, a9, a5, a6, a7, a8⟩ := h.1 b hb
  exact ⟨a1, a2, a3, a4, fun x => a9 (Or.inr x), a5, a6, a7, a8⟩, trivial⟩
theorem ok_lS {β : Type} {R : β → Prop} {w m : Prop} {S0 x : St} {k : St → Option β} (h : FrR w m S0 x) (h' : ∀ s : St, FrR w m S0 s → Ok R (k s)) : Ok R (nd_let x k) := h' x h
theorem ok_lP {β : Type} {R : β → Prop} {w m : Prop} {S0 : St} {x : St × St} {k : St × St → Option β} (h : FrR w m S0 x.2) (h' : ∀ s : St × St, FrR w m S0 s.2 → Ok R (k s)) : Ok R (nd_let x k) := h' x h
theorem ok_b1S {β : Type} {R : β → Prop} {w m : Prop} {S0 : St} {x : Option St} {k : St → Option β} (h : Ok (fun r => FrR w m S0 r) x) (h' : ∀ s : St, FrR w m S0 s → Ok R (k s)) : Ok R (nd_b1 x k) := ok_g1 h h'
theorem ok_b2S {α β : Type} {R : β → Prop} {w m : Prop} {S0 : St} {x : Option (α × St)} {k : α → St → Option β} (h : Ok (fun r => FrR w m S0 r.2) x) (h' : ∀ (q : α) (s : St), FrR w m S0 s → Ok R (k q s)) : Ok R (nd_b2 x k) := ok_g2 h h'
theorem ok_df_X13_charAt_19 {w m : Prop} {S0 : St} (n : Nat) (y0 : Int32) (s0 : St) (h0 : FrR w m S0 s0) : Ok (fun r => FrR w m S0 r.2) (df_X13_charAt_19 n y0 s0) := by
  unfold df_X13_charAt_19
  exact ok_some (h0)
theorem ok_df_X13_charAt_0 {w m : Prop} {S0 : St} (n : Nat) (v0 : Int32) (s0 : St) (h0 : FrR w m S0 s0) : Ok (fun r => FrR w m S0 r.2) (df_X13_charAt_0 n v0 s0) := by
  unfold df_X13_charAt_0
  exact ok_ite (fun hc => ok_df_X13_charAt_19 n (10) s0 h0) (fun _ => ok_ck (ok_df_X13_charAt_19 n ((sR s0 2 (Int32.toNatClampNeg v0))) s0 h0))
theorem ok_df_X13_charAt {w m : Prop} {S0 : St} (n : Nat) (v0 : Int32) (s0 : St) (h0 : FrR w m S0 s0) : Ok (fun r => FrR w m S0 r.2) (df_X13_charAt n v0 s0) := by
  unfold df_X13_charAt
  exact ok_df_X13_charAt_0 n v0 s0 h0
theorem ok_dF_X13_plain_2 {w m : Prop} {S0 : St} (n : Nat) (g2 : Int32 → (St) → Option (Int32 × (St))) (x2 : Int32) (hg2 : ∀ (y0 : Int32) (s : (St)), FrR w m S0 s → Ok (fun r => FrR w m S0 r.2) (g2 y0 s)) (s0 : St) (h0 : FrR w m S0 s0) : Ok (fun r => FrR w m S0 r.2) (dF_X13_plain_2 n g2 x2 s0) := by
  unfold dF_X13_plain_2
  exact ok_b2S (ok_df_X13_charAt n (x2) s0 h0) (fun q1 s2 h1 => ok_n2 (fun q4 s5 => ok_ite (fun hc => ok_some (h1)) (fun _ => ok_lv (fun z8 => hg2 (z8) s2 h1))))
theorem ok_df_X13_plain_2 {w m : Prop} {S0 : St} (n : Nat)  : ∀ (kk : Nat) (y0 : Int32) (s : (St)), FrR w m S0 s → Ok (fun r => FrR w m S0 r.2) (df_X13_plain_2 n  kk y0 s) := fun kk => by
  induction kk with
  | zero => intros; exact ok_none
  | succ kk ih =>
    intro y0 s hs
    exact ok_dF_X13_plain_2 n  (df_X13_plain_2 n  kk) y0  ih s hs
theorem ok_df_X13_plain_0 {w m : Prop} {S0 : St} (n : Nat) (v0 : Int32) (s0 : St) (h0 : FrR w m S0 s0) : Ok (fun r => FrR w m S0 r.2) (df_X13_plain_0 n v0 s0) := by
  unfold df_X13_plain_0
  exact ok_df_X13_plain_2 n  n (v0) s0 h0
theorem ok_df_X13_plain {w m : Prop} {S0 : St} (n : Nat) (v0 : Int32) (s0 : St) (h0 : FrR w m S0 s0) : Ok (fun r => FrR w m S0 r.2) (df_X13_plain n v0 s0) := by
  unfold df_X13_plain
  exact ok_df_X13_plain_0 n v0 s0 h0
theorem ok_df_X13_bad_0 {w m : Prop} {S0 : St} (n : Nat)  (s0 : St) (h0 : FrR w m S0 s0) : Ok (fun r => FrR w m S0 r) (df_X13_bad_0 n  s0) := by
  unfold df_X13_bad_0
  exact ok_lS ((fr_I (by decide) h0)) (fun s1 h1 => ok_lS ((fr_I (by decide) h1)) (fun s2 h2 => ok_some (h2)))
theorem ok_df_X13_bad {w m : Prop} {S0 : St} (n : Nat)  (s0 : St) (h0 : FrR w m S0 s0) : Ok (fun r => FrR w m S0 r) (df_X13_bad n  s0) := by
  unfold df_X13_bad
  exact ok_df_X13_bad_0 n  s0 h0
theorem ok_df_X13_shown_36 {w m : Prop} {S0 : St} (n : Nat)  (s0 : St) (h0 : FrR w m S0 s0) : Ok (fun r => FrR w m S0 r.2) (df_X13_shown_36 n  s0) := by
  unfold df_X13_shown_36
  exact ok_some (h0)
theorem ok_df_X13_shown_124 {w m : Prop} {S0 : St} (n : Nat) (y0 : Int32) (s0 : St) (h0 : FrR w m S0 s0) : Ok (fun r => FrR w m S0 r.2) (df_X13_shown_124 n y0 s0) := by
  unfold df_X13_shown_124
  exact ok_some (h0)
theorem ok_df_X13_shown_118 {w m : Prop} {S0 : St} (n : Nat) (x4 : Int32) (s0 : St) (h0 : FrR w m S0 s0) : Ok (fun r => FrR w m S0 r.2) (df_X13_shown_118 n x4 s0) := by
  unfold df_X13_shown_118
  exact ok_df_X13_shown_124 n (x4) s0 h0
theorem ok_df_X13_shown_38 {w m : Prop} {S0 : St} (n : Nat) (x1 : Int32) (x3 : Int32) (s0 : St) (h0 : FrR w m S0 s0) : Ok (fun r => FrR w m S0 r.2) (df_X13_shown_38 n x1 x3 s0) := by
  unfold df_X13_shown_38
  exact ok_ite (fun hc => ok_b2S (ok_df_X13_charAt n ((x1 + 1)) s0 h0) (fun q8 s9 h1 => ok_lS ((fr_I (by decide) h1)) (fun s11 h2 => ok_ite (fun hc => ok_df_X13_shown_124 n (10) s11 h2) (fun _ => ok_ite (fun hc => ok_df_X13_shown_124 n (9) s11 h2) (fun _ => ok_ite (fun hc => ok_df_X13_shown_124 n (0) s11 h2) (fun _ => ok_ite (fun hc => ok_df_X13_shown_118 n (q8) s11 h2) (fun _ => ok_ite (fun hc => ok_df_X13_shown_118 n (q8) s11 h2) (fun _ => ok_ite (fun hc => ok_df_X13_shown_118 n (q8) s11 h2) (fun _ => ok_df_X13_shown_124 n ((-1)) s11 h2))))))))) (fun _ => ok_some (h0))
theorem ok_df_X13_shown_0 {w m : Prop} {S0 : St} (n : Nat) (v0 : Int32) (v1 : Int32) (s0 : St) (h0 : FrR w m S0 s0) : Ok (fun r => FrR w m S0 r.2) (df_X13_shown_0 n v0 v1 s0) := by
  unfold df_X13_shown_0
  exact ok_b2S (ok_df_X13_charAt n (v0) s0 h0) (fun q1 s2 h1 => ok_lS ((fr_I (by decide) h1)) (fun s4 h2 => ok_ite (fun hc => ok_df_X13_shown_36 n  s4 h2) (fun _ => ok_ite (fun hc => ok_df_X13_shown_38 n (v0) (q1) s4 h2) (fun _ => ok_ite (fun hc => ok_df_X13_shown_36 n  s4 h2) (fun _ => ok_ite (fun hc => ok_df_X13_shown_38 n (v0) (q1) s4 h2) (fun _ => ok_df_X13_shown_36 n  s4 h2))))))
theorem ok_df_X13_shown {w m : Prop} {S0 : St} (n : Nat) (v0 : Int32) (v1 : Int32) (s0 : St) (h0 : FrR w m S0 s0) : Ok (fun r => FrR w m S0 r.2) (df_X13_shown n v0 v1 s0) := by
  unfold df_X13_shown
  exact ok_df_X13_shown_0 n v0 v1 s0 h0
theorem ok_df_X13_quote_59 {w m : Prop} {S0 : St} (n : Nat)  (s0 : St) (h0 : FrR w m S0 s0) : Ok (fun r => FrR w m S0 r) (df_X13_quote_59 n  s0) := by
  unfold df_X13_quote_59
  exact ok_some (h0)
theorem ok_df_X13_quote_44 {w m : Prop} {S0 : St} (n : Nat) (x1 : Int32) (x2 : Int32) (s0 : St) (h0 : FrR w m S0 s0) : Ok (fun r => FrR w m S0 r) (df_X13_quote_44 n x1 x2 s0) := by
  unfold df_X13_quote_44
  exact ok_lS ((fr_I (by decide) h0)) (fun s4 h1 => ok_ite (fun hc => ok_df_X13_quote_59 n  s4 h1) (fun _ => ok_b1S (ok_df_X13_bad n  s4 h1) (fun s7 h2 => ok_df_X13_quote_59 n  s7 h2)))
theorem ok_dF_X13_quote_14 {w m : Prop} {S0 : St} (n : Nat) (g14 : Int32 → Int32 → (St) → Option (St)) (x1 : Int32) (x2 : Int32) (hg14 : ∀ (y0 : Int32) (y1 : Int32) (s : (St)), FrR w m S0 s → Ok (fun r => FrR w m S0 r) (g14 y0 y1 s)) (s0 : St) (h0 : FrR w m S0 s0) : Ok (fun r => FrR w m S0 r) (dF_X13_quote_14 n g14 x1 x2 s0) := by
  unfold dF_X13_quote_14
  exact ok_ite (fun hc => ok_df_X13_quote_44 n (x1) (x2) s0 h0) (fun _ => ok_b2S (ok_df_X13_charAt n (x1) s0 h0) (fun q9 s10 h1 => ok_ite (fun hc => ok_df_X13_quote_44 n (x1) (x2) s10 h1) (fun _ => ok_b2S (ok_df_X13_shown n (x1) (34) s10 h1) (fun q13 s14 h2 => ok_lv (fun z16 => hg14 (z16) (q13) s14 h2)))))
theorem ok_df_X13_quote_14 {w m : Prop} {S0 : St} (n : Nat)  : ∀ (kk : Nat) (y0 : Int32) (y1 : Int32) (s : (St)), FrR w m S0 s → Ok (fun r => FrR w m S0 r) (df_X13_quote_14 n  kk y0 y1 s) := fun kk => by
  induction kk with
  | zero => intros; exact ok_none
  | succ kk ih =>
    intro y0 y1 s hs
    exact ok_dF_X13_quote_14 n  (df_X13_quote_14 n  kk) y0 y1  ih s hs
theorem ok_df_X13_quote_0 {w m : Prop} {S0 : St} (n : Nat)  (s0 : St) (h0 : FrR w m S0 s0) : Ok (fun r => FrR w m S0 r) (df_X13_quote_0 n  s0) := by
  unfold df_X13_quote_0
  exact ok_lS ((fr_I (by decide) h0)) (fun s1 h1 => ok_lv (fun z2 => ok_df_X13_quote_14 n  n (z2) (0) s1 h1))
theorem ok_df_X13_quote {w m : Prop} {S0 : St} (n : Nat)  (s0 : St) (h0 : FrR w m S0 s0) : Ok (fun r => FrR w m S0 r) (df_X13_quote n  s0) := by
  unfold df_X13_quote
  exact ok_df_X13_quote_0 n  s0 h0
theorem ok_df_X13_character_79 {w m : Prop} {S0 : St} (n : Nat)  (s0 : St) (h0 : FrR w m S0 s0) : Ok (fun r => FrR w m S0 r) (df_X13_character_79 n  s0) := by
  unfold df_X13_character_79
  exact ok_some (h0)
theorem ok_df_X13_character_75 {w m : Prop} {S0 : St} (n : Nat)  (s0 : St) (h0 : FrR w m S0 s0) : Ok (fun r => FrR w m S0 r) (df_X13_character_75 n  s0) := by
  unfold df_X13_character_75
  exact ok_b1S (ok_df_X13_bad n  s0 h0) (fun s10 h1 => ok_df_X13_character_79 n  s10 h1)
theorem ok_df_X13_character_46 {w m : Prop} {S0 : St} (n : Nat) (y0 : Int32) (s0 : St) (h0 : FrR w m S0 s0) : Ok (fun r => FrR w m S0 r) (df_X13_character_46 n y0 s0) := by
  unfold df_X13_character_46
  exact ok_lS ((fr_I (by decide) h0)) (fun s7 h1 => ok_ite (fun hc => ok_df_X13_character_75 n  s7 h1) (fun _ => ok_b2S (ok_df_X13_charAt n ((sI s7 10)) s7 h1) (fun q12 s13 h2 => ok_n2 (fun q15 s16 => ok_ite (fun hc => ok_df_X13_character_79 n  s13 h2) (fun _ => ok_df_X13_character_75 n  s13 h2)))))
theorem ok_df_X13_character_45 {w m : Prop} {S0 : St} (n : Nat)  (s0 : St) (h0 : FrR w m S0 s0) : Ok (fun r => FrR w m S0 r) (df_X13_character_45 n  s0) := by
  unfold df_X13_character_45
  exact ok_df_X13_character_46 n (0) s0 h0
theorem ok_df_X13_character_0 {w m : Prop} {S0 : St} (n : Nat)  (s0 : St) (h0 : FrR w m S0 s0) : Ok (fun r => FrR w m S0 r) (df_X13_character_0 n  s0) := by
  unfold df_X13_character_0
  exact ok_b2S (ok_df_X13_shown n (((sI s0 7) + 1)) (39) s0 h0) (fun q1 s2 h1 => ok_lS ((fr_I (by decide) h1)) (fun s4 h2 => ok_lS ((fr_I (by decide) h2)) (fun s5 h3 => ok_ite (fun hc => ok_df_X13_character_45 n  s5 h3) (fun _ => ok_b2S (ok_df_X13_charAt n ((sI s5 10)) s5 h3) (fun q19 s20 h4 => ok_ite (fun hc => ok_df_X13_character_46 n (1) s20 h4) (fun _ => ok_df_X13_character_45 n  s20 h4))))))
theorem ok_df_X13_character {w m : Prop} {S0 : St} (n : Nat)  (s0 : St) (h0 : FrR w m S0 s0) : Ok (fun r => FrR w m S0 r) (df_X13_character n  s0) := by
  unfold df_X13_character
  exact ok_df_X13_character_0 n  s0 h0
theorem ok_df_X13_numeral_90 {w m : Prop} {S0 : St} (n : Nat) (x4 : Int64) (s0 : St) (h0 : FrR w m S0 s0) : Ok (fun r => FrR w m S0 r.2) (df_X13_numeral_90 n x4 s0) := by
  unfold df_X13_numeral_90
  exact ok_some (h0)
theorem ok_df_X13_numeral_82 {w m : Prop} {S0 : St} (n : Nat) (g17 : Int32 → Int32 → Int64 → Int32 → (St) → Option (Int64 × (St))) (x2 : Int32) (x3 : Int32) (x6 : Int32) (y0 : Int64) (hg17 : ∀ (y0 : Int32) (y1 : Int32) (y2 : Int64) (y3 : Int32) (s : (St)), FrR w m S0 s → Ok (fun r => FrR w m S0 r.2) (g17 y0 y1 y2 y3 s)) (s0 : St) (h0 : FrR w m S0 s0) : Ok (fun r => FrR w m S0 r.2) (df_X13_numeral_82 n g17 x2 x3 x6 y0 s0) := by
  unfold df_X13_numeral_82
  exact ok_lv (fun z10 => hg17 (x2) (x3) (y0) (z10) s0 h0)
theorem ok_df_X13_numeral_63 {w m : Prop} {S0 : St} (n : Nat) (g17 : Int32 → Int32 → Int64 → Int32 → (St) → Option (Int64 × (St))) (x2 : Int32) (x3 : Int32) (x6 : Int32) (y0 : Int64) (hg17 : ∀ (y0 : Int32) (y1 : Int32) (y2 : Int64) (y3 : Int32) (s : (St)), FrR w m S0 s → Ok (fun r => FrR w m S0 r.2) (g17 y0 y1 y2 y3 s)) (s0 : St) (h0 : FrR w m S0 s0) : Ok (fun r => FrR w m S0 r.2) (df_X13_numeral_63 n g17 x2 x3 x6 y0 s0) := by
  unfold df_X13_numeral_63
  exact ok_ite (fun hc => ok_df_X13_numeral_82 n g17 (x2) (x3) (x6) (y0) hg17 s0 h0) (fun _ => ok_df_X13_numeral_82 n g17 (x2) (x3) (x6) ((-1)) hg17 s0 h0)
theorem ok_dF_X13_numeral_17 {w m : Prop} {S0 : St} (n : Nat) (g17 : Int32 → Int32 → Int64 → Int32 → (St) → Option (Int64 × (St))) (x2 : Int32) (x3 : Int32) (x4 : Int64) (x6 : Int32) (hg17 : ∀ (y0 : Int32) (y1 : Int32) (y2 : Int64) (y3 : Int32) (s : (St)), FrR w m S0 s → Ok (fun r => FrR w m S0 r.2) (g17 y0 y1 y2 y3 s)) (s0 : St) (h0 : FrR w m S0 s0) : Ok (fun r => FrR w m S0 r.2) (dF_X13_numeral_17 n g17 x2 x3 x4 x6 s0) := by
  unfold dF_X13_numeral_17
  exact ok_ite (fun hc => ok_df_X13_numeral_90 n (x4) s0 h0) (fun _ => ok_ite (fun hc => ok_df_X13_numeral_90 n (x4) s0 h0) (fun _ => ok_ck (ok_n2 (fun q5 s6 => ok_ite (fun hc => ok_df_X13_numeral_63 n g17 (x2) (x3) (x6) ((-1)) hg17 s0 h0) (fun _ => ok_df_X13_numeral_63 n g17 (x2) (x3) (x6) (((((x4 : Int64) * (x3.toInt64)) : Int64) + (q5.toInt64))) hg17 s0 h0)))))
theorem ok_df_X13_numeral_17 {w m : Prop} {S0 : St} (n : Nat)  : ∀ (kk : Nat) (y0 : Int32) (y1 : Int32) (y2 : Int64) (y3 : Int32) (s : (St)), FrR w m S0 s → Ok (fun r => FrR w m S0 r.2) (df_X13_numeral_17 n  kk y0 y1 y2 y3 s) := fun kk => by
  induction kk with
  | zero => intros; exact ok_none
  | succ kk ih =>
    intro y0 y1 y2 y3 s hs
    exact ok_dF_X13_numeral_17 n  (df_X13_numeral_17 n  kk) y0 y1 y2 y3  ih s hs
theorem ok_df_X13_numeral_12 {w m : Prop} {S0 : St} (n : Nat) (x1 : Int32) (x2 : Int32) (x3 : Int32) (y0 : Int64) (s0 : St) (h0 : FrR w m S0 s0) : Ok (fun r => FrR w m S0 r.2) (df_X13_numeral_12 n x1 x2 x3 y0 s0) := by
  unfold df_X13_numeral_12
  exact ok_df_X13_numeral_17 n  n (x2) (x3) (y0) (x1) s0 h0
theorem ok_df_X13_numeral_0 {w m : Prop} {S0 : St} (n : Nat) (v0 : Int32) (v1 : Int32) (v2 : Int32) (s0 : St) (h0 : FrR w m S0 s0) : Ok (fun r => FrR w m S0 r.2) (df_X13_numeral_0 n v0 v1 v2 s0) := by
  unfold df_X13_numeral_0
  exact ok_ite (fun hc => ok_df_X13_numeral_12 n (v0) (v1) (v2) ((-1)) s0 h0) (fun _ => ok_df_X13_numeral_12 n (v0) (v1) (v2) (0) s0 h0)
theorem ok_df_X13_numeral {w m : Prop} {S0 : St} (n : Nat) (v0 : Int32) (v1 : Int32) (v2 : Int32) (s0 : St) (h0 : FrR w m S0 s0) : Ok (fun r => FrR w m S0 r.2) (df_X13_numeral n v0 v1 v2 s0) := by
  unfold df_X13_numeral
  exact ok_df_X13_numeral_0 n v0 v1 v2 s0 h0
theorem ok_df_X13_digits_202 {w m : Prop} {S0 : St} (n : Nat)  (s0 : St) (h0 : FrR w m S0 s0) : Ok (fun r => FrR w m S0 r) (df_X13_digits_202 n  s0) := by
  unfold df_X13_digits_202
  exact ok_some (h0)
theorem ok_df_X13_digits_177 {w m : Prop} {S0 : St} (n : Nat) (y0 : Int64) (s0 : St) (h0 : FrR w m S0 s0) : Ok (fun r => FrR w m S0 r) (df_X13_digits_177 n y0 s0) := by
  unfold df_X13_digits_177
  exact ok_lS ((fr_I (by decide) h0)) (fun s11 h1 => ok_lS ((fr_I (by decide) h1)) (fun s12 h2 => ok_ite (fun hc => ok_df_X13_digits_202 n  s12 h2) (fun _ => ok_b1S (ok_df_X13_bad n  s12 h2) (fun s15 h3 => ok_df_X13_digits_202 n  s15 h3))))
theorem ok_df_X13_digits_163 {w m : Prop} {S0 : St} (n : Nat)  (s0 : St) (h0 : FrR w m S0 s0) : Ok (fun r => FrR w m S0 r) (df_X13_digits_163 n  s0) := by
  unfold df_X13_digits_163
  exact ok_b2S (ok_df_X13_numeral n ((sI s0 9)) ((sI s0 10)) (10) s0 h0) (fun q8 s9 h1 => ok_df_X13_digits_177 n (q8) s9 h1)
theorem ok_df_X13_digits_135 {w m : Prop} {S0 : St} (n : Nat) (x1 : Int32) (x3 : Int32) (s0 : St) (h0 : FrR w m S0 s0) : Ok (fun r => FrR w m S0 r) (df_X13_digits_135 n x1 x3 s0) := by
  unfold df_X13_digits_135
  exact ok_ite (fun hc => ok_df_X13_digits_163 n  s0 h0) (fun _ => ok_ite (fun hc => ok_b2S (ok_df_X13_numeral n (((sI s0 9) + 2)) ((sI s0 10)) (2) s0 h0) (fun q18 s19 h1 => ok_df_X13_digits_177 n (q18) s19 h1)) (fun _ => ok_df_X13_digits_163 n  s0 h0))
theorem ok_df_X13_digits_105 {w m : Prop} {S0 : St} (n : Nat) (x1 : Int32) (y0 : Int32) (s0 : St) (h0 : FrR w m S0 s0) : Ok (fun r => FrR w m S0 r) (df_X13_digits_105 n x1 y0 s0) := by
  unfold df_X13_digits_105
  exact ok_ite (fun hc => ok_df_X13_digits_135 n (x1) (y0) s0 h0) (fun _ => ok_ite (fun hc => ok_b2S (ok_df_X13_numeral n (((sI s0 9) + 2)) ((sI s0 10)) (16) s0 h0) (fun q22 s23 h1 => ok_df_X13_digits_177 n (q22) s23 h1)) (fun _ => ok_df_X13_digits_135 n (x1) (y0) s0 h0))
theorem ok_df_X13_digits_59 {w m : Prop} {S0 : St} (n : Nat) (x1 : Int32) (y0 : Int32) (s0 : St) (h0 : FrR w m S0 s0) : Ok (fun r => FrR w m S0 r) (df_X13_digits_59 n x1 y0 s0) := by
  unfold df_X13_digits_59
  exact ok_ite (fun hc => ok_ck (ok_ite (fun hc => ok_df_X13_digits_105 n (x1) (1) s0 h0) (fun _ => ok_df_X13_digits_105 n (x1) (0) s0 h0))) (fun _ => ok_lS ((fr_I (by decide) h0)) (fun s25 h1 => ok_ck (ok_lS ((fr_I (by decide) h1)) (fun s27 h2 => ok_some (h2)))))
theorem ok_df_X13_digits_58 {w m : Prop} {S0 : St} (n : Nat) (x1 : Int32) (s0 : St) (h0 : FrR w m S0 s0) : Ok (fun r => FrR w m S0 r) (df_X13_digits_58 n x1 s0) := by
  unfold df_X13_digits_58
  exact ok_df_X13_digits_59 n (x1) (0) s0 h0
theorem ok_df_X13_digits_54 {w m : Prop} {S0 : St} (n : Nat) (x1 : Int32) (s0 : St) (h0 : FrR w m S0 s0) : Ok (fun r => FrR w m S0 r) (df_X13_digits_54 n x1 s0) := by
  unfold df_X13_digits_54
  exact ok_df_X13_digits_59 n (x1) (1) s0 h0
theorem ok_df_X13_digits_28 {w m : Prop} {S0 : St} (n : Nat) (y0 : Int32) (s0 : St) (h0 : FrR w m S0 s0) : Ok (fun r => FrR w m S0 r) (df_X13_digits_28 n y0 s0) := by
  unfold df_X13_digits_28
  exact ok_ite (fun hc => ok_ite (fun hc => ok_df_X13_digits_54 n (y0) s0 h0) (fun _ => ok_ite (fun hc => ok_df_X13_digits_54 n (y0) s0 h0) (fun _ => ok_df_X13_digits_58 n (y0) s0 h0))) (fun _ => ok_df_X13_digits_58 n (y0) s0 h0)
theorem ok_df_X13_digits_0 {w m : Prop} {S0 : St} (n : Nat)  (s0 : St) (h0 : FrR w m S0 s0) : Ok (fun r => FrR w m S0 r) (df_X13_digits_0 n  s0) := by
  unfold df_X13_digits_0
  exact ok_ite (fun hc => ok_df_X13_digits_28 n (0) s0 h0) (fun _ => ok_ck (ok_df_X13_digits_28 n ((sR s0 2 (Int32.toNatClampNeg ((sI s0 9) + 1)))) s0 h0))
theorem ok_df_X13_digits {w m : Prop} {S0 : St} (n : Nat)  (s0 : St) (h0 : FrR w m S0 s0) : Ok (fun r => FrR w m S0 r) (df_X13_digits n  s0) := by
  unfold df_X13_digits
  exact ok_df_X13_digits_0 n  s0 h0
theorem ok_df_X13_scan_26 {w m : Prop} {S0 : St} (n : Nat) (g0 : (St) → Option (St)) (hg0 : ∀  (s : (St)), FrR w m S0 s → Ok (fun r => FrR w m S0 r) (g0 s)) (s0 : St) (h0 : FrR w m S0 s0) : Ok (fun r => FrR w m S0 r) (df_X13_scan_26 n g0 s0) := by
  unfold df_X13_scan_26
  exact ok_lS ((fr_I (by decide) h0)) (fun s5 h1 => hg0  s5 h1)
theorem ok_df_X13_scan_348 {w m : Prop} {S0 : St} (n : Nat)  (s0 : St) (h0 : FrR w m S0 s0) : Ok (fun r => FrR w m S0 r) (df_X13_scan_348 n  s0) := by
  unfold df_X13_scan_348
  exact ok_lS ((fr_I (by decide) h0)) (fun s18 h1 => ok_some (h1))
theorem ok_df_X13_scan_78 {w m : Prop} {S0 : St} (n : Nat)  (s0 : St) (h0 : FrR w m S0 s0) : Ok (fun r => FrR w m S0 r) (df_X13_scan_78 n  s0) := by
  unfold df_X13_scan_78
  exact ok_lS ((fr_I (by decide) h0)) (fun s16 h1 => ok_lS ((fr_I (by decide) h1)) (fun s17 h2 => ok_df_X13_scan_348 n  s17 h2))
theorem ok_df_X13_scan_217 {w m : Prop} {S0 : St} (n : Nat) (x1 : Int32) (y1 : Int32) (s0 : St) (h0 : FrR w m S0 s0) : Ok (fun r => FrR w m S0 r) (df_X13_scan_217 n x1 y1 s0) := by
  unfold df_X13_scan_217
  exact ok_lS ((fr_I (by decide) h0)) (fun s32 h1 => ok_lS ((fr_I (by decide) h1)) (fun s33 h2 => ok_b2S (ok_df_X13_charAt n (((sI s33 7) + 1)) s33 h2) (fun q34 s35 h3 => ok_ite (fun hc => ok_df_X13_scan_348 n  s35 h3) (fun _ => ok_b1S (ok_df_X13_bad n  s35 h3) (fun s39 h4 => ok_df_X13_scan_348 n  s39 h4)))))
theorem ok_df_X13_scan_203 {w m : Prop} {S0 : St} (n : Nat) (x1 : Int32) (s0 : St) (h0 : FrR w m S0 s0) : Ok (fun r => FrR w m S0 r) (df_X13_scan_203 n x1 s0) := by
  unfold df_X13_scan_203
  exact ok_ite (fun hc => ok_df_X13_scan_217 n (x1) (6) s0 h0) (fun _ => ok_df_X13_scan_217 n (x1) (7) s0 h0)
theorem ok_df_X13_scan_334 {w m : Prop} {S0 : St} (n : Nat) (x1 : Int32) (y0 : Int32) (s0 : St) (h0 : FrR w m S0 s0) : Ok (fun r => FrR w m S0 r) (df_X13_scan_334 n x1 y0 s0) := by
  unfold df_X13_scan_334
  exact ok_lS ((fr_I (by decide) h0)) (fun s43 h1 => ok_ite (fun hc => ok_b1S (ok_df_X13_bad n  s43 h1) (fun s46 h2 => ok_df_X13_scan_348 n  s46 h2)) (fun _ => ok_df_X13_scan_348 n  s43 h1))
theorem ok_df_X13_scan_329 {w m : Prop} {S0 : St} (n : Nat) (x1 : Int32) (s0 : St) (h0 : FrR w m S0 s0) : Ok (fun r => FrR w m S0 r) (df_X13_scan_329 n x1 s0) := by
  unfold df_X13_scan_329
  exact ok_df_X13_scan_334 n (x1) (1) s0 h0
theorem ok_dF_X13_scan_0 {w m : Prop} {S0 : St} (n : Nat) (g0 : (St) → Option (St)) (hg0 : ∀  (s : (St)), FrR w m S0 s → Ok (fun r => FrR w m S0 r) (g0 s)) (s0 : St) (h0 : FrR w m S0 s0) : Ok (fun r => FrR w m S0 r) (dF_X13_scan_0 n g0 s0) := by
  unfold dF_X13_scan_0
  exact ok_b2S (ok_df_X13_charAt n ((sI s0 7)) s0 h0) (fun q1 s2 h1 => ok_ite (fun hc => ok_df_X13_scan_26 n g0 hg0 s2 h1) (fun _ => ok_b2S (ok_df_X13_charAt n ((sI s2 7)) s2 h1) (fun q6 s7 h2 => ok_ite (fun hc => ok_df_X13_scan_26 n g0 hg0 s7 h2) (fun _ => ok_lS ((fr_I (by decide) h2)) (fun s10 h3 => ok_b2S (ok_df_X13_charAt n ((sI s10 7)) s10 h3) (fun q11 s12 h4 => ok_lS ((fr_I (by decide) h4)) (fun s14 h5 => ok_ite (fun hc => ok_df_X13_scan_78 n  s14 h5) (fun _ => ok_ite (fun hc => ok_df_X13_scan_78 n  s14 h5) (fun _ => ok_n2 (fun q20 s21 => ok_ite (fun hc => ok_n2 (fun q24 s25 => ok_ite (fun hc => ok_ite (fun hc => ok_b1S (ok_df_X13_character n  s14 h5) (fun s64 h6 => ok_df_X13_scan_348 n  s64 h6)) (fun _ => ok_ite (fun hc => ok_b1S (ok_df_X13_quote n  s14 h5) (fun s61 h7 => ok_df_X13_scan_348 n  s61 h7)) (fun _ => ok_ite (fun hc => ok_df_X13_scan_203 n (q11) s14 h5) (fun _ => ok_ite (fun hc => ok_df_X13_scan_203 n (q11) s14 h5) (fun _ => ok_ite (fun hc => ok_df_X13_scan_329 n (q11) s14 h5) (fun _ => ok_ite (fun hc => ok_df_X13_scan_329 n (q11) s14 h5) (fun _ => ok_ite (fun hc => ok_df_X13_scan_329 n (q11) s14 h5) (fun _ => ok_ite (fun hc => ok_df_X13_scan_329 n (q11) s14 h5) (fun _ => ok_ite (fun hc => ok_df_X13_scan_329 n (q11) s14 h5) (fun _ => ok_ite (fun hc => ok_df_X13_scan_329 n (q11) s14 h5) (fun _ => ok_ite (fun hc => ok_df_X13_scan_329 n (q11) s14 h5) (fun _ => ok_ite (fun hc => ok_df_X13_scan_329 n (q11) s14 h5) (fun _ => ok_ite (fun hc => ok_df_X13_scan_329 n (q11) s14 h5) (fun _ => ok_ite (fun hc => ok_df_X13_scan_329 n (q11) s14 h5) (fun _ => ok_ite (fun hc => ok_df_X13_scan_329 n (q11) s14 h5) (fun _ => ok_ite (fun hc => ok_df_X13_scan_329 n (q11) s14 h5) (fun _ => ok_ite (fun hc => ok_df_X13_scan_329 n (q11) s14 h5) (fun _ => ok_df_X13_scan_334 n (q11) (0) s14 h5)))))))))))))))))) (fun _ => ok_b2S (ok_df_X13_plain n ((sI s14 7)) s14 h5) (fun q66 s67 h8 => ok_lS ((fr_I (by decide) h8)) (fun s69 h9 => ok_lS ((fr_I (by decide) h9)) (fun s70 h10 => ok_ite (fun hc => ok_df_X13_scan_348 n  s70 h10) (fun _ => ok_b1S (ok_df_X13_bad n  s70 h10) (fun s73 h11 => ok_df_X13_scan_348 n  s73 h11)))))))) (fun _ => ok_b2S (ok_df_X13_plain n ((sI s14 7)) s14 h5) (fun q75 s76 h12 => ok_lS ((fr_I (by decide) h12)) (fun s78 h13 => ok_b1S (ok_df_X13_digits n  s78 h13) (fun s80 h14 => ok_df_X13_scan_348 n  s80 h14))))))))))))))
theorem ok_df_X13_scan_0 {w m : Prop} {S0 : St} (n : Nat)  : ∀ (kk : Nat)  (s : (St)), FrR w m S0 s → Ok (fun r => FrR w m S0 r) (df_X13_scan_0 n  kk  s) := fun kk => by
  induction kk with
  | zero => intros; exact ok_none
  | succ kk ih =>
    intro  s hs
    exact ok_dF_X13_scan_0 n  (df_X13_scan_0 n  kk)   ih s hs
theorem ok_df_X13_scan {w m : Prop} {S0 : St} (n : Nat)  (s0 : St) (h0 : FrR w m S0 s0) : Ok (fun r => FrR w m S0 r) (df_X13_scan n  s0) := by
  unfold df_X13_scan
  exact ok_df_X13_scan_0 n  n s0 h0
theorem ok_df_X13_blame_20 {w m : Prop} {S0 : St} (n : Nat)  (s0 : St) (h0 : FrR w m S0 s0) : Ok (fun r => FrR w m S0 r) (df_X13_blame_20 n  s0) := by
  unfold df_X13_blame_20
  exact ok_some (h0)
theorem ok_df_X13_blame_0 {w m : Prop} {S0 : St} (n : Nat) (v0 : Int32) (s0 : St) (h0 : FrR w m S0 s0) : Ok (fun r => FrR w m S0 r) (df_X13_blame_0 n v0 s0) := by
  unfold df_X13_blame_0
  exact ok_ite (fun hc => ok_lS ((fr_I (by decide) h0)) (fun s2 h1 => ok_df_X13_blame_20 n  s2 h1)) (fun _ => ok_df_X13_blame_20 n  s0 h0)
theorem ok_df_X13_blame {w m : Prop} {S0 : St} (n : Nat) (v0 : Int32) (s0 : St) (h0 : FrR w m S0 s0) : Ok (fun r => FrR w m S0 r) (df_X13_blame n v0 s0) := by
  unfold df_X13_blame
  exact ok_df_X13_blame_0 n v0 s0 h0
theorem ok_df_X13_needs_30 {w m : Prop} {S0 : St} (n : Nat) (y0 : Int32) (s0 : St) (h0 : FrR w m S0 s0) : Ok (fun r => FrR w m S0 r.2) (df_X13_needs_30 n y0 s0) := by
  unfold df_X13_needs_30
  exact ok_z (ok_some (h0))
theorem ok_df_X13_needs_17 {w m : Prop} {S0 : St} (n : Nat) (x1 : Int32) (s0 : St) (h0 : FrR w m S0 s0) : Ok (fun r => FrR w m S0 r.2) (df_X13_needs_17 n x1 s0) := by
  unfold df_X13_needs_17
  exact ok_ite (fun hc => ok_df_X13_needs_30 n (1) s0 h0) (fun _ => ok_df_X13_needs_30 n (0) s0 h0)
theorem ok_df_X13_needs_0 {w m : Prop} {S0 : St} (n : Nat) (v0 : Int32) (s0 : St) (h0 : FrR w m S0 s0) : Ok (fun r => FrR w m S0 r.2) (df_X13_needs_0 n v0 s0) := by
  unfold df_X13_needs_0
  exact ok_b1S (ok_df_X13_scan n  s0 h0) (fun s2 h1 => ok_ite (fun hc => ok_df_X13_needs_17 n (v0) s2 h1) (fun _ => ok_b1S (ok_df_X13_blame n (1) s2 h1) (fun s8 h2 => ok_df_X13_needs_17 n (v0) s8 h2)))
theorem ok_df_X13_needs {w m : Prop} {S0 : St} (n : Nat) (v0 : Int32) (s0 : St) (h0 : FrR w m S0 s0) : Ok (fun r => FrR w m S0 r.2) (df_X13_needs n v0 s0) := by
  unfold df_X13_needs
  exact ok_df_X13_needs_0 n v0 s0 h0
theorem ok_df_X13_packed_60 {w m : Prop} {S0 : St} (n : Nat)  (s0 : St) (h0 : FrR w m S0 s0) : Ok (fun r => FrR w m S0 r.2) (df_X13_packed_60 n  s0) := by
  unfold df_X13_packed_60
  exact ok_some (h0)
theorem ok_df_X13_packed_102 {w m : Prop} {S0 : St} (n : Nat) (g17 : Int32 → Int64 → Int32 → (St) → Option (Int64 × (St))) (x1 : Int32) (x5 : Int32) (y0 : Int64) (y1 : Int32) (hg17 : ∀ (y0 : Int32) (y1 : Int64) (y2 : Int32) (s : (St)), FrR w m S0 s → Ok (fun r => FrR w m S0 r.2) (g17 y0 y1 y2 s)) (s0 : St) (h0 : FrR w m S0 s0) : Ok (fun r => FrR w m S0 r.2) (df_X13_packed_102 n g17 x1 x5 y0 y1 s0) := by
  unfold df_X13_packed_102
  exact ok_lv (fun z14 => ok_lv (fun z15 => hg17 (x1) (z14) (z15) s0 h0))
theorem ok_df_X13_packed_46 {w m : Prop} {S0 : St} (n : Nat) (g17 : Int32 → Int64 → Int32 → (St) → Option (Int64 × (St))) (x1 : Int32) (x3 : Int64) (x5 : Int32) (x6 : Int32) (hg17 : ∀ (y0 : Int32) (y1 : Int64) (y2 : Int32) (s : (St)), FrR w m S0 s → Ok (fun r => FrR w m S0 r.2) (g17 y0 y1 y2 s)) (s0 : St) (h0 : FrR w m S0 s0) : Ok (fun r => FrR w m S0 r.2) (df_X13_packed_46 n g17 x1 x3 x5 x6 s0) := by
  unfold df_X13_packed_46
  exact ok_ite (fun hc => ok_df_X13_packed_60 n  s0 h0) (fun _ => ok_ite (fun hc => ok_df_X13_packed_60 n  s0 h0) (fun _ => ok_ite (fun hc => ok_df_X13_packed_102 n g17 (x1) (x5) (((x3 : Int64) <<< ((6 : Int32).toInt64 &&& 63))) (37) hg17 s0 h0) (fun _ => ok_n2 (fun q10 s11 => ok_ite (fun hc => ok_df_X13_packed_102 n g17 (x1) (x5) (((x3 : Int64) <<< ((6 : Int32).toInt64 &&& 63))) ((x6 - 96)) hg17 s0 h0) (fun _ => ok_df_X13_packed_102 n g17 (x1) (x5) (((x3 : Int64) <<< ((6 : Int32).toInt64 &&& 63))) (((27 + x6) - 48)) hg17 s0 h0)))))
theorem ok_dF_X13_packed_17 {w m : Prop} {S0 : St} (n : Nat) (g17 : Int32 → Int64 → Int32 → (St) → Option (Int64 × (St))) (x1 : Int32) (x3 : Int64) (x5 : Int32) (hg17 : ∀ (y0 : Int32) (y1 : Int64) (y2 : Int32) (s : (St)), FrR w m S0 s → Ok (fun r => FrR w m S0 r.2) (g17 y0 y1 y2 s)) (s0 : St) (h0 : FrR w m S0 s0) : Ok (fun r => FrR w m S0 r.2) (dF_X13_packed_17 n g17 x1 x3 x5 s0) := by
  unfold dF_X13_packed_17
  exact ok_ite (fun hc => ok_some (h0)) (fun _ => ok_ck (ok_lv (fun z5 => ok_ite (fun hc => ok_df_X13_packed_46 n g17 (x1) (x3) (x5) (z5) hg17 s0 h0) (fun _ => ok_ite (fun hc => ok_df_X13_packed_60 n  s0 h0) (fun _ => ok_df_X13_packed_46 n g17 (x1) (x3) (x5) (z5) hg17 s0 h0)))))
theorem ok_df_X13_packed_17 {w m : Prop} {S0 : St} (n : Nat)  : ∀ (kk : Nat) (y0 : Int32) (y1 : Int64) (y2 : Int32) (s : (St)), FrR w m S0 s → Ok (fun r => FrR w m S0 r.2) (df_X13_packed_17 n  kk y0 y1 y2 s) := fun kk => by
  induction kk with
  | zero => intros; exact ok_none
  | succ kk ih =>
    intro y0 y1 y2 s hs
    exact ok_dF_X13_packed_17 n  (df_X13_packed_17 n  kk) y0 y1 y2  ih s hs
theorem ok_df_X13_packed_0 {w m : Prop} {S0 : St} (n : Nat) (v0 : Int32) (v1 : Int32) (s0 : St) (h0 : FrR w m S0 s0) : Ok (fun r => FrR w m S0 r.2) (df_X13_packed_0 n v0 v1 s0) := by
  unfold df_X13_packed_0
  exact ok_ite (fun hc => ok_lv (fun z2 => ok_df_X13_packed_17 n  n (v0) (0) (z2) s0 h0)) (fun _ => ok_some (h0))
theorem ok_df_X13_packed {w m : Prop} {S0 : St} (n : Nat) (v0 : Int32) (v1 : Int32) (s0 : St) (h0 : FrR w m S0 s0) : Ok (fun r => FrR w m S0 r.2) (df_X13_packed n v0 v1 s0) := by
  unfold df_X13_packed
  exact ok_df_X13_packed_0 n v0 v1 s0 h0
theorem ok_df_X13_register_96 {w m : Prop} {S0 : St} (n : Nat)  (s0 : St) (h0 : FrR w m S0 s0) : Ok (fun r => FrR w m S0 r.2) (df_X13_register_96 n  s0) := by
  unfold df_X13_register_96
  exact ok_some (h0)
theorem ok_df_X13_register_292 {w m : Prop} {S0 : St} (n : Nat) (y0 : Int32) (s0 : St) (h0 : FrR w m S0 s0) : Ok (fun r => FrR w m S0 r.2) (df_X13_register_292 n y0 s0) := by
  unfold df_X13_register_292
  exact ok_some (h0)
theorem ok_df_X13_register_250 {w m : Prop} {S0 : St} (n : Nat) (y0 : Int32) (s0 : St) (h0 : FrR w m S0 s0) : Ok (fun r => FrR w m S0 r.2) (df_X13_register_250 n y0 s0) := by
  unfold df_X13_register_250
  exact ok_some (h0)
theorem ok_df_X13_register_213 {w m : Prop} {S0 : St} (n : Nat) (y0 : Int32) (s0 : St) (h0 : FrR w m S0 s0) : Ok (fun r => FrR w m S0 r.2) (df_X13_register_213 n y0 s0) := by
  unfold df_X13_register_213
  exact ok_some (h0)
theorem ok_df_X13_register_189 {w m : Prop} {S0 : St} (n : Nat) (y0 : Int32) (s0 : St) (h0 : FrR w m S0 s0) : Ok (fun r => FrR w m S0 r.2) (df_X13_register_189 n y0 s0) := by
  unfold df_X13_register_189
  exact ok_some (h0)
theorem ok_df_X13_register_161 {w m : Prop} {S0 : St} (n : Nat) (x1 : Int32) (x5 : Int32) (s0 : St) (h0 : FrR w m S0 s0) : Ok (fun r => FrR w m S0 r.2) (df_X13_register_161 n x1 x5 s0) := by
  unfold df_X13_register_161
  exact ok_ck (ok_lv (fun z21 => ok_ite (fun hc => ok_ite (fun hc => ok_df_X13_register_189 n ((-1)) s0 h0) (fun _ => ok_df_X13_register_189 n (x5) s0 h0)) (fun _ => ok_ite (fun hc => ok_ite (fun hc => ok_df_X13_register_213 n ((-1)) s0 h0) (fun _ => ok_df_X13_register_213 n ((10 + x5)) s0 h0)) (fun _ => ok_ite (fun hc => ok_ite (fun hc => ok_ite (fun hc => ok_df_X13_register_250 n ((-1)) s0 h0) (fun _ => ok_df_X13_register_250 n ((25 + x5)) s0 h0)) (fun _ => ok_df_X13_register_250 n ((5 + x5)) s0 h0)) (fun _ => ok_ite (fun hc => ok_ite (fun hc => ok_ite (fun hc => ok_df_X13_register_292 n ((-1)) s0 h0) (fun _ => ok_df_X13_register_292 n ((16 + x5)) s0 h0)) (fun _ => ok_df_X13_register_292 n ((8 + x5)) s0 h0)) (fun _ => ok_df_X13_register_292 n ((-1)) s0 h0))))))
theorem ok_df_X13_register_159 {w m : Prop} {S0 : St} (n : Nat) (x1 : Int32) (y0 : Int32) (s0 : St) (h0 : FrR w m S0 s0) : Ok (fun r => FrR w m S0 r.2) (df_X13_register_159 n x1 y0 s0) := by
  unfold df_X13_register_159
  exact ok_df_X13_register_161 n (x1) (y0) s0 h0
theorem ok_df_X13_register_137 {w m : Prop} {S0 : St} (n : Nat) (x1 : Int32) (s0 : St) (h0 : FrR w m S0 s0) : Ok (fun r => FrR w m S0 r.2) (df_X13_register_137 n x1 s0) := by
  unfold df_X13_register_137
  exact ok_df_X13_register_159 n (x1) (99) s0 h0
theorem ok_df_X13_register_0 {w m : Prop} {S0 : St} (n : Nat) (v0 : Int32) (v1 : Int32) (s0 : St) (h0 : FrR w m S0 s0) : Ok (fun r => FrR w m S0 r.2) (df_X13_register_0 n v0 v1 s0) := by
  unfold df_X13_register_0
  exact ok_b2S (ok_df_X13_packed n (v0) (v1) s0 h0) (fun q1 s2 h1 => ok_ite (fun hc => ok_some (h1)) (fun _ => ok_ite (fun hc => ok_some (h1)) (fun _ => ok_ite (fun hc => ok_some (h1)) (fun _ => ok_ite (fun hc => ok_some (h1)) (fun _ => ok_ite (fun hc => ok_some (h1)) (fun _ => ok_ite (fun hc => ok_some (h1)) (fun _ => ok_ite (fun hc => ok_df_X13_register_96 n  s2 h1) (fun _ => ok_ite (fun hc => ok_df_X13_register_96 n  s2 h1) (fun _ => ok_ck (ok_n2 (fun q13 s14 => ok_ite (fun hc => ok_df_X13_register_96 n  s2 h1) (fun _ => ok_ck (ok_lv (fun z18 => ok_ite (fun hc => ok_ite (fun hc => ok_df_X13_register_137 n (v0) s2 h1) (fun _ => ok_ck (ok_n2 (fun q34 s35 => ok_ite (fun hc => ok_df_X13_register_137 n (v0) s2 h1) (fun _ => ok_ck (ok_df_X13_register_159 n (v0) ((((10 * z18) + (sR s2 2 (Int32.toNatClampNeg (v0 + 2)))) - 48)) s2 h1)))))) (fun _ => ok_df_X13_register_161 n (v0) (z18) s2 h1)))))))))))))))
theorem ok_df_X13_register {w m : Prop} {S0 : St} (n : Nat) (v0 : Int32) (v1 : Int32) (s0 : St) (h0 : FrR w m S0 s0) : Ok (fun r => FrR w m S0 r.2) (df_X13_register n v0 v1 s0) := by
  unfold df_X13_register
  exact ok_df_X13_register_0 n v0 v1 s0 h0
theorem ok_df_X13_isAlike_57 {w m : Prop} {S0 : St} (n : Nat) (y0 : Int32) (s0 : St) (h0 : FrR w m S0 s0) : Ok (fun r => FrR w m S0 r.2) (df_X13_isAlike_57 n y0 s0) := by
  unfold df_X13_isAlike_57
  exact ok_z (ok_some (h0))
theorem ok_dF_X13_isAlike_3 {w m : Prop} {S0 : St} (n : Nat) (g3 : Int32 → Int32 → Int32 → Int32 → (St) → Option (Int32 × (St))) (x1 : Int32) (x2 : Int32) (x3 : Int32) (x4 : Int32) (hg3 : ∀ (y0 : Int32) (y1 : Int32) (y2 : Int32) (y3 : Int32) (s : (St)), FrR w m S0 s → Ok (fun r => FrR w m S0 r.2) (g3 y0 y1 y2 y3 s)) (s0 : St) (h0 : FrR w m S0 s0) : Ok (fun r => FrR w m S0 r.2) (dF_X13_isAlike_3 n g3 x1 x2 x3 x4 s0) := by
  unfold dF_X13_isAlike_3
  exact ok_ite (fun hc => ok_b2S (ok_df_X13_charAt n (((x3 + x2) - x1)) s0 h0) (fun q2 s3 h1 => ok_n2 (fun q5 s6 => ok_ite (fun hc => ok_df_X13_isAlike_57 n (1) s3 h1) (fun _ => ok_df_X13_isAlike_57 n (0) s3 h1)))) (fun _ => ok_b2S (ok_df_X13_charAt n (((x3 + x4) - x1)) s0 h0) (fun q10 s11 h2 => ok_ck (ok_ite (fun hc => ok_lv (fun z15 => hg3 (x1) (x2) (x3) (z15) s11 h2)) (fun _ => ok_some (h2)))))
theorem ok_df_X13_isAlike_3 {w m : Prop} {S0 : St} (n : Nat)  : ∀ (kk : Nat) (y0 : Int32) (y1 : Int32) (y2 : Int32) (y3 : Int32) (s : (St)), FrR w m S0 s → Ok (fun r => FrR w m S0 r.2) (df_X13_isAlike_3 n  kk y0 y1 y2 y3 s) := fun kk => by
  induction kk with
  | zero => intros; exact ok_none
  | succ kk ih =>
    intro y0 y1 y2 y3 s hs
    exact ok_dF_X13_isAlike_3 n  (df_X13_isAlike_3 n  kk) y0 y1 y2 y3  ih s hs
theorem ok_df_X13_isAlike_0 {w m : Prop} {S0 : St} (n : Nat) (v0 : Int32) (v1 : Int32) (v2 : Int32) (s0 : St) (h0 : FrR w m S0 s0) : Ok (fun r => FrR w m S0 r.2) (df_X13_isAlike_0 n v0 v1 v2 s0) := by
  unfold df_X13_isAlike_0
  exact ok_df_X13_isAlike_3 n  n (v0) (v1) (v2) (v0) s0 h0
theorem ok_df_X13_isAlike {w m : Prop} {S0 : St} (n : Nat) (v0 : Int32) (v1 : Int32) (v2 : Int32) (s0 : St) (h0 : FrR w m S0 s0) : Ok (fun r => FrR w m S0 r.2) (df_X13_isAlike n v0 v1 v2 s0) := by
  unfold df_X13_isAlike
  exact ok_df_X13_isAlike_0 n v0 v1 v2 s0 h0
theorem ok_df_X13_find_44 {w m : Prop} {S0 : St} (n : Nat) (g2 : Int32 → Int32 → Int32 → (St) → Option (Int32 × (St))) (x1 : Int32) (x2 : Int32) (x3 : Int32) (hg2 : ∀ (y0 : Int32) (y1 : Int32) (y2 : Int32) (s : (St)), FrR w m S0 s → Ok (fun r => FrR w m S0 r.2) (g2 y0 y1 y2 s)) (s0 : St) (h0 : FrR w m S0 s0) : Ok (fun r => FrR w m S0 r.2) (df_X13_find_44 n g2 x1 x2 x3 s0) := by
  unfold df_X13_find_44
  exact ok_lv (fun z4 => hg2 (x1) (x2) (z4) s0 h0)
theorem ok_dF_X13_find_2 {w m : Prop} {S0 : St} (n : Nat) (g2 : Int32 → Int32 → Int32 → (St) → Option (Int32 × (St))) (x1 : Int32) (x2 : Int32) (x3 : Int32) (hg2 : ∀ (y0 : Int32) (y1 : Int32) (y2 : Int32) (s : (St)), FrR w m S0 s → Ok (fun r => FrR w m S0 r.2) (g2 y0 y1 y2 s)) (s0 : St) (h0 : FrR w m S0 s0) : Ok (fun r => FrR w m S0 r.2) (dF_X13_find_2 n g2 x1 x2 x3 s0) := by
  unfold dF_X13_find_2
  exact ok_ite (fun hc => ok_some (h0)) (fun _ => ok_ck (ok_ite (fun hc => ok_df_X13_find_44 n g2 (x1) (x2) (x3) hg2 s0 h0) (fun _ => ok_ck (ok_b2S (ok_df_X13_isAlike n (x1) (x2) (((sR s0 6 (Int32.toNatClampNeg x3)) &&& 131071)) s0 h0) (fun q6 s7 h1 => ok_ite (fun hc => ok_df_X13_find_44 n g2 (x1) (x2) (x3) hg2 s7 h1) (fun _ => ok_some (h1)))))))
theorem ok_df_X13_find_2 {w m : Prop} {S0 : St} (n : Nat)  : ∀ (kk : Nat) (y0 : Int32) (y1 : Int32) (y2 : Int32) (s : (St)), FrR w m S0 s → Ok (fun r => FrR w m S0 r.2) (df_X13_find_2 n  kk y0 y1 y2 s) := fun kk => by
  induction kk with
  | zero => intros; exact ok_none
  | succ kk ih =>
    intro y0 y1 y2 s hs
    exact ok_dF_X13_find_2 n  (df_X13_find_2 n  kk) y0 y1 y2  ih s hs
theorem ok_df_X13_find_0 {w m : Prop} {S0 : St} (n : Nat) (v0 : Int32) (v1 : Int32) (s0 : St) (h0 : FrR w m S0 s0) : Ok (fun r => FrR w m S0 r.2) (df_X13_find_0 n v0 v1 s0) := by
  unfold df_X13_find_0
  exact ok_df_X13_find_2 n  n (v0) (v1) (0) s0 h0
theorem ok_df_X13_find {w m : Prop} {S0 : St} (n : Nat) (v0 : Int32) (v1 : Int32) (s0 : St) (h0 : FrR w m S0 s0) : Ok (fun r => FrR w m S0 r.2) (df_X13_find n v0 v1 s0) := by
  unfold df_X13_find
  exact ok_df_X13_find_0 n v0 v1 s0 h0
theorem ok_df_X13_define_0 {w m : Prop} {S0 : St} (n : Nat) (v0 : Int32) (v1 : Int32) (v2 : Int32) (v3 : Int32) (s0 : St) (h0 : FrR w m S0 s0) : Ok (fun r => FrR w m S0 r) (df_X13_define_0 n v0 v1 v2 v3 s0) := by
  unfold df_X13_define_0
  exact ok_ck (ok_lS ((fr_R (by decide) h0)) (fun s2 h1 => ok_ck (ok_lS ((fr_R (by decide) h1)) (fun s4 h2 => ok_lS ((fr_I (by decide) h2)) (fun s5 h3 => ok_some (h3))))))
theorem ok_df_X13_define {w m : Prop} {S0 : St} (n : Nat) (v0 : Int32) (v1 : Int32) (v2 : Int32) (v3 : Int32) (s0 : St) (h0 : FrR w m S0 s0) : Ok (fun r => FrR w m S0 r) (df_X13_define n v0 v1 v2 v3 s0) := by
  unfold df_X13_define
  exact ok_df_X13_define_0 n v0 v1 v2 v3 s0 h0
theorem ok_df_X13_base_0 {w m : Prop} {S0 : St} (n : Nat)  (s0 : St) (h0 : FrR w m S0 s0) : Ok (fun r => FrR w m S0 r.2) (df_X13_base_0 n  s0) := by
  unfold df_X13_base_0
  exact ok_some (h0)
theorem ok_df_X13_base {w m : Prop} {S0 : St} (n : Nat)  (s0 : St) (h0 : FrR w m S0 s0) : Ok (fun r => FrR w m S0 r.2) (df_X13_base n  s0) := by
  unfold df_X13_base
  exact ok_df_X13_base_0 n  s0 h0
theorem ok_df_X13_valueOf_54 {w m : Prop} {S0 : St} (n : Nat) (y0 : Int32) (s0 : St) (h0 : FrR w m S0 s0) : Ok (fun r => FrR w m S0 r.2) (df_X13_valueOf_54 n y0 s0) := by
  unfold df_X13_valueOf_54
  exact ok_some (h0)
theorem ok_df_X13_valueOf_34 {w m : Prop} {S0 : St} (n : Nat) (x1 : Int32) (s0 : St) (h0 : FrR w m S0 s0) : Ok (fun r => FrR w m S0 r.2) (df_X13_valueOf_34 n x1 s0) := by
  unfold df_X13_valueOf_34
  exact ok_b2S (ok_df_X13_base n  s0 h0) (fun q5 s6 h1 => ok_ck (ok_df_X13_valueOf_54 n ((q5 + (sR s6 7 (Int32.toNatClampNeg x1)))) s6 h1))
theorem ok_df_X13_valueOf_0 {w m : Prop} {S0 : St} (n : Nat) (v0 : Int32) (s0 : St) (h0 : FrR w m S0 s0) : Ok (fun r => FrR w m S0 r.2) (df_X13_valueOf_0 n v0 s0) := by
  unfold df_X13_valueOf_0
  exact ok_ck (ok_lv (fun z2 => ok_ite (fun hc => ok_ck (ok_df_X13_valueOf_54 n ((sR s0 7 (Int32.toNatClampNeg v0))) s0 h0)) (fun _ => ok_ite (fun hc => ok_df_X13_valueOf_34 n (v0) s0 h0) (fun _ => ok_ite (fun hc => ok_df_X13_valueOf_34 n (v0) s0 h0) (fun _ => ok_ck (ok_df_X13_valueOf_54 n ((sR s0 7 (Int32.toNatClampNeg v0))) s0 h0))))))
theorem ok_df_X13_valueOf {w m : Prop} {S0 : St} (n : Nat) (v0 : Int32) (s0 : St) (h0 : FrR w m S0 s0) : Ok (fun r => FrR w m S0 r.2) (df_X13_valueOf n v0 s0) := by
  unfold df_X13_valueOf
  exact ok_df_X13_valueOf_0 n v0 s0 h0
theorem ok_df_X13_near_143 {w m : Prop} {S0 : St} (n : Nat) (y0 : Int32) (s0 : St) (h0 : FrR w m S0 s0) : Ok (fun r => FrR w m S0 r.2) (df_X13_near_143 n y0 s0) := by
  unfold df_X13_near_143
  exact ok_some (h0)
theorem ok_df_X13_near_125 {w m : Prop} {S0 : St} (n : Nat) (x4 : Int32) (y1 : Int32) (s0 : St) (h0 : FrR w m S0 s0) : Ok (fun r => FrR w m S0 r.2) (df_X13_near_125 n x4 y1 s0) := by
  unfold df_X13_near_125
  exact ok_f (fun hf1 => ok_z (ok_lS ((fr_B (by decide) (b01_f hf1) h0)) (fun s7 h2 => ok_ite (fun hc => ok_b2S (ok_df_X13_valueOf n (x4) s7 h2) (fun q9 s10 h3 => ok_df_X13_near_143 n (q9) s10 h3)) (fun _ => ok_df_X13_near_143 n (0) s7 h2))))
theorem ok_df_X13_near_120 {w m : Prop} {S0 : St} (n : Nat) (x4 : Int32) (s0 : St) (h0 : FrR w m S0 s0) : Ok (fun r => FrR w m S0 r.2) (df_X13_near_120 n x4 s0) := by
  unfold df_X13_near_120
  exact ok_df_X13_near_125 n (x4) (1) s0 h0
theorem ok_df_X13_near_101 {w m : Prop} {S0 : St} (n : Nat) (g20 : Int32 → Int32 → Int32 → Int32 → Int32 → (St) → Option (Int32 × (St))) (x1 : Int32) (x2 : Int32) (x3 : Int32) (x4 : Int32) (x5 : Int32) (hg20 : ∀ (y0 : Int32) (y1 : Int32) (y2 : Int32) (y3 : Int32) (y4 : Int32) (s : (St)), FrR w m S0 s → Ok (fun r => FrR w m S0 r.2) (g20 y0 y1 y2 y3 y4 s)) (s0 : St) (h0 : FrR w m S0 s0) : Ok (fun r => FrR w m S0 r.2) (df_X13_near_101 n g20 x1 x2 x3 x4 x5 s0) := by
  unfold df_X13_near_101
  exact ok_lv (fun z17 => hg20 (x1) (x2) (x3) (x4) (z17) s0 h0)
theorem ok_df_X13_near_97 {w m : Prop} {S0 : St} (n : Nat) (g20 : Int32 → Int32 → Int32 → Int32 → Int32 → (St) → Option (Int32 × (St))) (x1 : Int32) (x2 : Int32) (x3 : Int32) (x5 : Int32) (hg20 : ∀ (y0 : Int32) (y1 : Int32) (y2 : Int32) (y3 : Int32) (y4 : Int32) (s : (St)), FrR w m S0 s → Ok (fun r => FrR w m S0 r.2) (g20 y0 y1 y2 y3 y4 s)) (s0 : St) (h0 : FrR w m S0 s0) : Ok (fun r => FrR w m S0 r.2) (df_X13_near_97 n g20 x1 x2 x3 x5 s0) := by
  unfold df_X13_near_97
  exact ok_df_X13_near_101 n g20 (x1) (x2) (x3) (x5) (x5) hg20 s0 h0
theorem ok_df_X13_near_82 {w m : Prop} {S0 : St} (n : Nat) (g20 : Int32 → Int32 → Int32 → Int32 → Int32 → (St) → Option (Int32 × (St))) (x1 : Int32) (x2 : Int32) (x3 : Int32) (x4 : Int32) (x5 : Int32) (y0 : Int32) (y1 : Int32) (hg20 : ∀ (y0 : Int32) (y1 : Int32) (y2 : Int32) (y3 : Int32) (y4 : Int32) (s : (St)), FrR w m S0 s → Ok (fun r => FrR w m S0 r.2) (g20 y0 y1 y2 y3 y4 s)) (s0 : St) (h0 : FrR w m S0 s0) : Ok (fun r => FrR w m S0 r.2) (df_X13_near_82 n g20 x1 x2 x3 x4 x5 y0 y1 s0) := by
  unfold df_X13_near_82
  exact ok_ite (fun hc => ok_ite (fun hc => ok_df_X13_near_97 n g20 (x1) (x2) (x3) (x5) hg20 s0 h0) (fun _ => ok_ite (fun hc => ok_df_X13_near_97 n g20 (x1) (x2) (x3) (x5) hg20 s0 h0) (fun _ => ok_df_X13_near_101 n g20 (x1) (x2) (x3) (x4) (x5) hg20 s0 h0))) (fun _ => ok_df_X13_near_101 n g20 (x1) (x2) (x3) (x4) (x5) hg20 s0 h0)
theorem ok_dF_X13_near_20 {w m : Prop} {S0 : St} (n : Nat) (g20 : Int32 → Int32 → Int32 → Int32 → Int32 → (St) → Option (Int32 × (St))) (x1 : Int32) (x2 : Int32) (x3 : Int32) (x4 : Int32) (x5 : Int32) (hg20 : ∀ (y0 : Int32) (y1 : Int32) (y2 : Int32) (y3 : Int32) (y4 : Int32) (s : (St)), FrR w m S0 s → Ok (fun r => FrR w m S0 r.2) (g20 y0 y1 y2 y3 y4 s)) (s0 : St) (h0 : FrR w m S0 s0) : Ok (fun r => FrR w m S0 r.2) (dF_X13_near_20 n g20 x1 x2 x3 x4 x5 s0) := by
  unfold dF_X13_near_20
  exact ok_ite (fun hc => ok_ite (fun hc => ok_ite (fun hc => ok_df_X13_near_125 n (x4) (0) s0 h0) (fun _ => ok_df_X13_near_120 n (x4) s0 h0)) (fun _ => ok_df_X13_near_120 n (x4) s0 h0)) (fun _ => ok_ck (ok_lv (fun z14 => ok_ck (ok_ite (fun hc => ok_df_X13_near_101 n g20 (x1) (x2) (x3) (x4) (x5) hg20 s0 h0) (fun _ => ok_ck (ok_ite (fun hc => ok_ite (fun hc => ok_df_X13_near_82 n g20 (x1) (x2) (x3) (x4) (x5) (x2) (0) hg20 s0 h0) (fun _ => ok_df_X13_near_82 n g20 (x1) (x2) (x3) (x4) (x5) (x2) (1) hg20 s0 h0)) (fun _ => ok_df_X13_near_101 n g20 (x1) (x2) (x3) (x4) (x5) hg20 s0 h0)))))))
theorem ok_df_X13_near_20 {w m : Prop} {S0 : St} (n : Nat)  : ∀ (kk : Nat) (y0 : Int32) (y1 : Int32) (y2 : Int32) (y3 : Int32) (y4 : Int32) (s : (St)), FrR w m S0 s → Ok (fun r => FrR w m S0 r.2) (df_X13_near_20 n  kk y0 y1 y2 y3 y4 s) := fun kk => by
  induction kk with
  | zero => intros; exact ok_none
  | succ kk ih =>
    intro y0 y1 y2 y3 y4 s hs
    exact ok_dF_X13_near_20 n  (df_X13_near_20 n  kk) y0 y1 y2 y3 y4  ih s hs
theorem ok_df_X13_near_0 {w m : Prop} {S0 : St} (n : Nat) (v0 : Int32) (v1 : Int32) (s0 : St) (h0 : FrR w m S0 s0) : Ok (fun r => FrR w m S0 r.2) (df_X13_near_0 n v0 v1 s0) := by
  unfold df_X13_near_0
  exact ok_ck (ok_lv (fun z2 => ok_df_X13_near_20 n  n (v0) (v1) (z2) ((-1)) (0) s0 h0))
theorem ok_df_X13_near {w m : Prop} {S0 : St} (n : Nat) (v0 : Int32) (v1 : Int32) (s0 : St) (h0 : FrR w m S0 s0) : Ok (fun r => FrR w m S0 r.2) (df_X13_near n v0 v1 s0) := by
  unfold df_X13_near
  exact ok_df_X13_near_0 n v0 v1 s0 h0
theorem ok_df_X13_sign_0 {w m : Prop} {S0 : St} (n : Nat) (v0 : Int32) (s0 : St) (h0 : FrR w m S0 s0) : Ok (fun r => FrR w m S0 r) (df_X13_sign_0 n v0 s0) := by
  unfold df_X13_sign_0
  exact ok_ck (ok_lS ((fr_R (by decide) h0)) (fun s2 h1 => ok_lS ((fr_I (by decide) h1)) (fun s3 h2 => ok_some (h2))))
theorem ok_df_X13_sign {w m : Prop} {S0 : St} (n : Nat) (v0 : Int32) (s0 : St) (h0 : FrR w m S0 s0) : Ok (fun r => FrR w m S0 r) (df_X13_sign n v0 s0) := by
  unfold df_X13_sign
  exact ok_df_X13_sign_0 n v0 s0 h0
theorem ok_df_X13_value_0 {w m : Prop} {S0 : St} (n : Nat) (v0 : Int32) (s0 : St) (h0 : FrR w m S0 s0) : Ok (fun r => FrR w m S0 r) (df_X13_value_0 n v0 s0) := by
  unfold df_X13_value_0
  exact ok_lS ((fr_I (by decide) h0)) (fun s1 h1 => ok_ck (ok_lS ((fr_R (by decide) h1)) (fun s3 h2 => ok_some (h2))))
theorem ok_df_X13_value {w m : Prop} {S0 : St} (n : Nat) (v0 : Int32) (s0 : St) (h0 : FrR w m S0 s0) : Ok (fun r => FrR w m S0 r) (df_X13_value n v0 s0) := by
  unfold df_X13_value
  exact ok_df_X13_value_0 n v0 s0 h0
theorem ok_df_X13_worked_157 {w m : Prop} {S0 : St} (n : Nat) (y0 : Int32) (s0 : St) (h0 : FrR w m S0 s0) : Ok (fun r => FrR w m S0 r.2) (df_X13_worked_157 n y0 s0) := by
  unfold df_X13_worked_157
  exact ok_some (h0)
theorem ok_df_X13_worked_131 {w m : Prop} {S0 : St} (n : Nat) (x1 : Int32) (x2 : Int32) (x3 : Int32) (y1 : Int32) (s0 : St) (h0 : FrR w m S0 s0) : Ok (fun r => FrR w m S0 r.2) (df_X13_worked_131 n x1 x2 x3 y1 s0) := by
  unfold df_X13_worked_131
  exact ok_f (fun hf1 => ok_z (ok_lS ((fr_B (by decide) (b01_f hf1) h0)) (fun s12 h2 => ok_ite (fun hc => ok_df_X13_worked_157 n (0) s12 h2) (fun _ => ok_ite (fun hc => ok_nz (ok_df_X13_worked_157 n (((x2 : Int32) / x3)) s12 h2)) (fun _ => ok_nz (ok_df_X13_worked_157 n (((x2 : Int32) - x2 / x3 * x3)) s12 h2))))))
theorem ok_df_X13_worked_126 {w m : Prop} {S0 : St} (n : Nat) (x1 : Int32) (x2 : Int32) (x3 : Int32) (s0 : St) (h0 : FrR w m S0 s0) : Ok (fun r => FrR w m S0 r.2) (df_X13_worked_126 n x1 x2 x3 s0) := by
  unfold df_X13_worked_126
  exact ok_df_X13_worked_131 n (x1) (x2) (x3) (1) s0 h0
theorem ok_df_X13_worked_0 {w m : Prop} {S0 : St} (n : Nat) (v0 : Int32) (v1 : Int32) (v2 : Int32) (s0 : St) (h0 : FrR w m S0 s0) : Ok (fun r => FrR w m S0 r.2) (df_X13_worked_0 n v0 v1 v2 s0) := by
  unfold df_X13_worked_0
  exact ok_ite (fun hc => ok_some (h0)) (fun _ => ok_ite (fun hc => ok_some (h0)) (fun _ => ok_ite (fun hc => ok_some (h0)) (fun _ => ok_ite (fun hc => ok_some (h0)) (fun _ => ok_ite (fun hc => ok_some (h0)) (fun _ => ok_ite (fun hc => ok_some (h0)) (fun _ => ok_ite (fun hc => ok_some (h0)) (fun _ => ok_ite (fun hc => ok_some (h0)) (fun _ => ok_ite (fun hc => ok_ite (fun hc => ok_df_X13_worked_126 n (v0) (v1) (v2) s0 h0) (fun _ => ok_df_X13_worked_131 n (v0) (v1) (v2) (0) s0 h0)) (fun _ => ok_df_X13_worked_126 n (v0) (v1) (v2) s0 h0)))))))))
theorem ok_df_X13_worked {w m : Prop} {S0 : St} (n : Nat) (v0 : Int32) (v1 : Int32) (v2 : Int32) (s0 : St) (h0 : FrR w m S0 s0) : Ok (fun r => FrR w m S0 r.2) (df_X13_worked n v0 v1 v2 s0) := by
  unfold df_X13_worked
  exact ok_df_X13_worked_0 n v0 v1 v2 s0 h0
theorem ok_df_X13_join_0 {w m : Prop} {S0 : St} (n : Nat)  (s0 : St) (h0 : FrR w m S0 s0) : Ok (fun r => FrR w m S0 r) (df_X13_join_0 n  s0) := by
  unfold df_X13_join_0
  exact ok_lS ((fr_I (by decide) h0)) (fun s1 h1 => ok_ck (ok_lv (fun z3 => ok_lS ((fr_I (by decide) h1)) (fun s4 h2 => ok_ck (ok_ck (ok_b2S (ok_df_X13_worked n ((sR s4 8 (Int32.toNatClampNeg (sI s4 24)))) ((sR s4 8 (Int32.toNatClampNeg (sI s4 25)))) (z3) s4 h2) (fun q7 s8 h3 => ok_ck (ok_lS ((fr_R (by decide) h3)) (fun s11 h4 => ok_some (h4))))))))))
theorem ok_df_X13_join {w m : Prop} {S0 : St} (n : Nat)  (s0 : St) (h0 : FrR w m S0 s0) : Ok (fun r => FrR w m S0 r) (df_X13_join n  s0) := by
  unfold df_X13_join
  exact ok_df_X13_join_0 n  s0 h0
theorem ok_df_X13_bind_124 {w m : Prop} {S0 : St} (n : Nat)  (s0 : St) (h0 : FrR w m S0 s0) : Ok (fun r => FrR w m S0 r) (df_X13_bind_124 n  s0) := by
  unfold df_X13_bind_124
  exact ok_some (h0)
theorem ok_df_X13_bind_110 {w m : Prop} {S0 : St} (n : Nat) (g2 : Int32 → (St) → Option (St)) (x1 : Int32) (y1 : Int32) (y2 : Int32) (hg2 : ∀ (y0 : Int32) (s : (St)), FrR w m S0 s → Ok (fun r => FrR w m S0 r) (g2 y0 s)) (s0 : St) (h0 : FrR w m S0 s0) : Ok (fun r => FrR w m S0 r) (df_X13_bind_110 n g2 x1 y1 y2 s0) := by
  unfold df_X13_bind_110
  exact ok_ck (ok_lS ((fr_R (by decide) h0)) (fun s13 h1 => ok_lS ((fr_I (by decide) h1)) (fun s14 h2 => hg2 (x1) s14 h2)))
theorem ok_df_X13_bind_50 {w m : Prop} {S0 : St} (n : Nat) (g2 : Int32 → (St) → Option (St)) (x2 : Int32) (x3 : Int32) (y0 : Int32) (hg2 : ∀ (y0 : Int32) (s : (St)), FrR w m S0 s → Ok (fun r => FrR w m S0 r) (g2 y0 s)) (s0 : St) (h0 : FrR w m S0 s0) : Ok (fun r => FrR w m S0 r) (df_X13_bind_50 n g2 x2 x3 y0 s0) := by
  unfold df_X13_bind_50
  exact ok_ite (fun hc => hg2 (y0) s0 h0) (fun _ => ok_ite (fun hc => ok_df_X13_bind_110 n g2 (y0) ((sI s0 25)) ((-x3)) hg2 s0 h0) (fun _ => ok_ite (fun hc => ok_df_X13_bind_110 n g2 (y0) ((sI s0 25)) ((x3 ^^^ (-1))) hg2 s0 h0) (fun _ => ok_ite (fun hc => ok_df_X13_bind_110 n g2 (y0) ((sI s0 25)) (((((x3 + 2048) : Int32).toUInt32 >>> ((12 : Int32).toUInt32 &&& Int32.toUInt32 31)).toInt32)) hg2 s0 h0) (fun _ => ok_df_X13_bind_110 n g2 (y0) ((sI s0 25)) (((((x3 : Int32) <<< ((20 : Int32) &&& 31)) : Int32) >>> ((20 : Int32) &&& 31))) hg2 s0 h0))))
theorem ok_df_X13_bind_49 {w m : Prop} {S0 : St} (n : Nat) (g2 : Int32 → (St) → Option (St)) (x2 : Int32) (x3 : Int32) (hg2 : ∀ (y0 : Int32) (s : (St)), FrR w m S0 s → Ok (fun r => FrR w m S0 r) (g2 y0 s)) (s0 : St) (h0 : FrR w m S0 s0) : Ok (fun r => FrR w m S0 r) (df_X13_bind_49 n g2 x2 x3 s0) := by
  unfold df_X13_bind_49
  exact ok_df_X13_bind_50 n g2 (x2) (x3) (0) hg2 s0 h0
theorem ok_dF_X13_bind_2 {w m : Prop} {S0 : St} (n : Nat) (g2 : Int32 → (St) → Option (St)) (x1 : Int32) (hg2 : ∀ (y0 : Int32) (s : (St)), FrR w m S0 s → Ok (fun r => FrR w m S0 r) (g2 y0 s)) (s0 : St) (h0 : FrR w m S0 s0) : Ok (fun r => FrR w m S0 r) (dF_X13_bind_2 n g2 x1 s0) := by
  unfold dF_X13_bind_2
  exact ok_ite (fun hc => ok_df_X13_bind_124 n  s0 h0) (fun _ => ok_ite (fun hc => ok_df_X13_bind_124 n  s0 h0) (fun _ => ok_ck (ok_lv (fun z4 => ok_ck (ok_lv (fun z6 => ok_ite (fun hc => ok_df_X13_bind_49 n g2 (z4) (z6) hg2 s0 h0) (fun _ => ok_ite (fun hc => ok_df_X13_bind_49 n g2 (z4) (z6) hg2 s0 h0) (fun _ => ok_df_X13_bind_50 n g2 (z4) (z6) (1) hg2 s0 h0))))))))
theorem ok_df_X13_bind_2 {w m : Prop} {S0 : St} (n : Nat)  : ∀ (kk : Nat) (y0 : Int32) (s : (St)), FrR w m S0 s → Ok (fun r => FrR w m S0 r) (df_X13_bind_2 n  kk y0 s) := fun kk => by
  induction kk with
  | zero => intros; exact ok_none
  | succ kk ih =>
    intro y0 s hs
    exact ok_dF_X13_bind_2 n  (df_X13_bind_2 n  kk) y0  ih s hs
theorem ok_df_X13_bind_0 {w m : Prop} {S0 : St} (n : Nat)  (s0 : St) (h0 : FrR w m S0 s0) : Ok (fun r => FrR w m S0 r) (df_X13_bind_0 n  s0) := by
  unfold df_X13_bind_0
  exact ok_df_X13_bind_2 n  n (1) s0 h0
theorem ok_df_X13_bind {w m : Prop} {S0 : St} (n : Nat)  (s0 : St) (h0 : FrR w m S0 s0) : Ok (fun r => FrR w m S0 r) (df_X13_bind n  s0) := by
  unfold df_X13_bind
  exact ok_df_X13_bind_0 n  s0 h0
theorem ok_df_X13_name_161 {w m : Prop} {S0 : St} (n : Nat) (y1 : Int32) (s0 : St) (h0 : FrR w m S0 s0) : Ok (fun r => FrR w m S0 r) (df_X13_name_161 n y1 s0) := by
  unfold df_X13_name_161
  exact ok_b1S (ok_df_X13_value n (y1) s0 h0) (fun s18 h1 => ok_some (h1))
theorem ok_df_X13_name_133 {w m : Prop} {S0 : St} (n : Nat) (x1 : Int32) (x2 : Int32) (y1 : Int32) (s0 : St) (h0 : FrR w m S0 s0) : Ok (fun r => FrR w m S0 r) (df_X13_name_133 n x1 x2 y1 s0) := by
  unfold df_X13_name_133
  exact ok_f (fun hf1 => ok_z (ok_lS ((fr_B (by decide) (b01_f hf1) h0)) (fun s11 h2 => ok_ite (fun hc => ok_ite (fun hc => ok_b2S (ok_df_X13_valueOf n (x2) s11 h2) (fun q14 s15 h3 => ok_df_X13_name_161 n (q14) s15 h3)) (fun _ => ok_df_X13_name_161 n (0) s11 h2)) (fun _ => ok_df_X13_name_161 n ((sI s11 17)) s11 h2))))
theorem ok_df_X13_name_128 {w m : Prop} {S0 : St} (n : Nat) (x1 : Int32) (x2 : Int32) (s0 : St) (h0 : FrR w m S0 s0) : Ok (fun r => FrR w m S0 r) (df_X13_name_128 n x1 x2 s0) := by
  unfold df_X13_name_128
  exact ok_df_X13_name_133 n (x1) (x2) (1) s0 h0
theorem ok_df_X13_name_132 {w m : Prop} {S0 : St} (n : Nat) (x1 : Int32) (x2 : Int32) (s0 : St) (h0 : FrR w m S0 s0) : Ok (fun r => FrR w m S0 r) (df_X13_name_132 n x1 x2 s0) := by
  unfold df_X13_name_132
  exact ok_df_X13_name_133 n (x1) (x2) (0) s0 h0
theorem ok_df_X13_name_109 {w m : Prop} {S0 : St} (n : Nat) (x1 : Int32) (x2 : Int32) (y1 : Int32) (s0 : St) (h0 : FrR w m S0 s0) : Ok (fun r => FrR w m S0 r) (df_X13_name_109 n x1 x2 y1 s0) := by
  unfold df_X13_name_109
  exact ok_f (fun hf1 => ok_z (ok_lS ((fr_B (by decide) (b01_f hf1) h0)) (fun s7 h2 => ok_ite (fun hc => ok_ite (fun hc => ok_ite (fun hc => ok_df_X13_name_132 n (x1) (x2) s7 h2) (fun _ => ok_df_X13_name_128 n (x1) (x2) s7 h2)) (fun _ => ok_df_X13_name_132 n (x1) (x2) s7 h2)) (fun _ => ok_df_X13_name_128 n (x1) (x2) s7 h2))))
theorem ok_df_X13_name_104 {w m : Prop} {S0 : St} (n : Nat) (x1 : Int32) (x2 : Int32) (s0 : St) (h0 : FrR w m S0 s0) : Ok (fun r => FrR w m S0 r) (df_X13_name_104 n x1 x2 s0) := by
  unfold df_X13_name_104
  exact ok_df_X13_name_109 n (x1) (x2) (1) s0 h0
theorem ok_df_X13_name_91 {w m : Prop} {S0 : St} (n : Nat) (x1 : Int32) (x2 : Int32) (y0 : Int32) (s0 : St) (h0 : FrR w m S0 s0) : Ok (fun r => FrR w m S0 r) (df_X13_name_91 n x1 x2 y0 s0) := by
  unfold df_X13_name_91
  exact ok_ite (fun hc => ok_ite (fun hc => ok_df_X13_name_104 n (x1) (x2) s0 h0) (fun _ => ok_df_X13_name_109 n (x1) (x2) (0) s0 h0)) (fun _ => ok_df_X13_name_104 n (x1) (x2) s0 h0)
theorem ok_df_X13_name_90 {w m : Prop} {S0 : St} (n : Nat) (x1 : Int32) (x2 : Int32) (s0 : St) (h0 : FrR w m S0 s0) : Ok (fun r => FrR w m S0 r) (df_X13_name_90 n x1 x2 s0) := by
  unfold df_X13_name_90
  exact ok_df_X13_name_91 n (x1) (x2) (0) s0 h0
theorem ok_df_X13_name_68 {w m : Prop} {S0 : St} (n : Nat) (x1 : Int32) (y0 : Int32) (s0 : St) (h0 : FrR w m S0 s0) : Ok (fun r => FrR w m S0 r) (df_X13_name_68 n x1 y0 s0) := by
  unfold df_X13_name_68
  exact ok_ite (fun hc => ok_df_X13_name_90 n (x1) (y0) s0 h0) (fun _ => ok_ck (ok_ite (fun hc => ok_df_X13_name_91 n (x1) (y0) (1) s0 h0) (fun _ => ok_df_X13_name_90 n (x1) (y0) s0 h0)))
theorem ok_df_X13_name_52 {w m : Prop} {S0 : St} (n : Nat) (x1 : Int32) (s0 : St) (h0 : FrR w m S0 s0) : Ok (fun r => FrR w m S0 r) (df_X13_name_52 n x1 s0) := by
  unfold df_X13_name_52
  exact ok_df_X13_name_68 n (x1) ((-1)) s0 h0
theorem ok_df_X13_name_32 {w m : Prop} {S0 : St} (n : Nat) (y0 : Int32) (s0 : St) (h0 : FrR w m S0 s0) : Ok (fun r => FrR w m S0 r) (df_X13_name_32 n y0 s0) := by
  unfold df_X13_name_32
  exact ok_ite (fun hc => ok_b2S (ok_df_X13_register n ((sI s0 9)) ((sI s0 10)) s0 h0) (fun q25 s26 h1 => ok_ite (fun hc => ok_b2S (ok_df_X13_find n ((sI s26 9)) ((sI s26 10)) s26 h1) (fun q29 s30 h2 => ok_df_X13_name_68 n (y0) (q29) s30 h2)) (fun _ => ok_df_X13_name_52 n (y0) s26 h1))) (fun _ => ok_df_X13_name_52 n (y0) s0 h0)
theorem ok_df_X13_name_31 {w m : Prop} {S0 : St} (n : Nat)  (s0 : St) (h0 : FrR w m S0 s0) : Ok (fun r => FrR w m S0 r) (df_X13_name_31 n  s0) := by
  unfold df_X13_name_31
  exact ok_df_X13_name_32 n (0) s0 h0
theorem ok_df_X13_name_0 {w m : Prop} {S0 : St} (n : Nat)  (s0 : St) (h0 : FrR w m S0 s0) : Ok (fun r => FrR w m S0 r) (df_X13_name_0 n  s0) := by
  unfold df_X13_name_0
  exact ok_ite (fun hc => ok_ck (ok_ite (fun hc => ok_df_X13_name_32 n (1) s0 h0) (fun _ => ok_df_X13_name_31 n  s0 h0))) (fun _ => ok_df_X13_name_31 n  s0 h0)
theorem ok_df_X13_name {w m : Prop} {S0 : St} (n : Nat)  (s0 : St) (h0 : FrR w m S0 s0) : Ok (fun r => FrR w m S0 r) (df_X13_name n  s0) := by
  unfold df_X13_name
  exact ok_df_X13_name_0 n  s0 h0
theorem ok_df_X13_operand_242 {w m : Prop} {S0 : St} (n : Nat)  (s0 : St) (h0 : FrR w m S0 s0) : Ok (fun r => FrR w m S0 r.2) (df_X13_operand_242 n  s0) := by
  unfold df_X13_operand_242
  exact ok_b1S (ok_df_X13_bind n  s0 h0) (fun s6 h1 => ok_some (h1))
theorem ok_df_X13_operand_122 {w m : Prop} {S0 : St} (n : Nat) (y2 : Int32) (y3 : Int32) (s0 : St) (h0 : FrR w m S0 s0) : Ok (fun r => FrR w m S0 r.2) (df_X13_operand_122 n y2 y3 s0) := by
  unfold df_X13_operand_122
  exact ok_b2S (ok_df_X13_near n (y2) (y3) s0 h0) (fun q16 s17 h1 => ok_b1S (ok_df_X13_value n (q16) s17 h1) (fun s20 h2 => ok_df_X13_operand_242 n  s20 h2))
theorem ok_df_X13_operand_233 {w m : Prop} {S0 : St} (n : Nat)  (s0 : St) (h0 : FrR w m S0 s0) : Ok (fun r => FrR w m S0 r.2) (df_X13_operand_233 n  s0) := by
  unfold df_X13_operand_233
  exact ok_some (h0)
theorem ok_df_X13_operand_216 {w m : Prop} {S0 : St} (n : Nat) (y1 : Int32) (s0 : St) (h0 : FrR w m S0 s0) : Ok (fun r => FrR w m S0 r.2) (df_X13_operand_216 n y1 s0) := by
  unfold df_X13_operand_216
  exact ok_b1S (ok_df_X13_sign n (y1) s0 h0) (fun s30 h1 => ok_b2S (ok_df_X13_needs n (40) s30 h1) (fun q32 s33 h2 => ok_ite (fun hc => ok_df_X13_operand_233 n  s33 h2) (fun _ => ok_b1S (ok_df_X13_sign n (1) s33 h2) (fun s37 h3 => ok_df_X13_operand_233 n  s37 h3))))
theorem ok_df_X13_operand_202 {w m : Prop} {S0 : St} (n : Nat) (x1 : Int64) (s0 : St) (h0 : FrR w m S0 s0) : Ok (fun r => FrR w m S0 r.2) (df_X13_operand_202 n x1 s0) := by
  unfold df_X13_operand_202
  exact ok_ite (fun hc => ok_df_X13_operand_216 n (4) s0 h0) (fun _ => ok_df_X13_operand_216 n (5) s0 h0)
theorem ok_df_X13_operand_180 {w m : Prop} {S0 : St} (n : Nat) (y0 : Int64) (s0 : St) (h0 : FrR w m S0 s0) : Ok (fun r => FrR w m S0 r.2) (df_X13_operand_180 n y0 s0) := by
  unfold df_X13_operand_180
  exact ok_ite (fun hc => ok_df_X13_operand_202 n (y0) s0 h0) (fun _ => ok_ite (fun hc => ok_df_X13_operand_202 n (y0) s0 h0) (fun _ => ok_b1S (ok_df_X13_blame n (1) s0 h0) (fun s41 h1 => ok_df_X13_operand_202 n (y0) s41 h1)))
theorem ok_df_X13_operand_0 {w m : Prop} {S0 : St} (n : Nat)  (s0 : St) (h0 : FrR w m S0 s0) : Ok (fun r => FrR w m S0 r.2) (df_X13_operand_0 n  s0) := by
  unfold df_X13_operand_0
  exact ok_ite (fun hc => ok_b1S (ok_df_X13_name n  s0 h0) (fun s3 h1 => ok_df_X13_operand_242 n  s3 h1)) (fun _ => ok_ite (fun hc => ok_b1S (ok_df_X13_value n ((sI s0 11)) s0 h0) (fun s10 h2 => ok_df_X13_operand_242 n  s10 h2)) (fun _ => ok_ite (fun hc => ok_lS ((fr_B (by decide) (Or.inr rfl) h0)) (fun s13 h3 => ok_ck (ok_ite (fun hc => ok_df_X13_operand_122 n ((sI s13 11)) (1) s13 h3) (fun _ => ok_df_X13_operand_122 n ((sI s13 11)) (0) s13 h3)))) (fun _ => ok_ite (fun hc => ok_b1S (ok_df_X13_scan n  s0 h0) (fun s24 h4 => ok_ite (fun hc => ok_b2S (ok_df_X13_packed n ((sI s24 9)) ((sI s24 10)) s24 h4) (fun q43 s44 h5 => ok_df_X13_operand_180 n (q43) s44 h5)) (fun _ => ok_df_X13_operand_180 n (0) s24 h4))) (fun _ => ok_ite (fun hc => ok_b1S (ok_df_X13_sign n (1) s0 h0) (fun s48 h6 => ok_some (h6))) (fun _ => ok_ite (fun hc => ok_b1S (ok_df_X13_sign n (2) s0 h0) (fun s52 h7 => ok_some (h7))) (fun _ => ok_ite (fun hc => ok_b1S (ok_df_X13_sign n (3) s0 h0) (fun s56 h8 => ok_some (h8))) (fun _ => ok_b1S (ok_df_X13_blame n (1) s0 h0) (fun s59 h9 => ok_some (h9)))))))))
theorem ok_df_X13_operand {w m : Prop} {S0 : St} (n : Nat)  (s0 : St) (h0 : FrR w m S0 s0) : Ok (fun r => FrR w m S0 r.2) (df_X13_operand n  s0) := by
  unfold df_X13_operand
  exact ok_df_X13_operand_0 n  s0 h0
theorem ok_df_X13_expression_338 {w m : Prop} {S0 : St} (n : Nat) (x4 : Int32) (s0 : St) (h0 : FrR w m S0 s0) : Ok (fun r => FrR w m S0 r.2) (df_X13_expression_338 n x4 s0) := by
  unfold df_X13_expression_338
  exact ok_some (h0)
theorem ok_df_X13_expression_335 {w m : Prop} {S0 : St} (n : Nat) (x4 : Int32) (y1 : Int32) (s0 : St) (h0 : FrR w m S0 s0) : Ok (fun r => FrR w m S0 r.2) (df_X13_expression_335 n x4 y1 s0) := by
  unfold df_X13_expression_335
  exact ok_b1S (ok_df_X13_blame n (y1) s0 h0) (fun s13 h1 => ok_df_X13_expression_338 n (x4) s13 h1)
theorem ok_df_X13_expression_320 {w m : Prop} {S0 : St} (n : Nat) (x4 : Int32) (s0 : St) (h0 : FrR w m S0 s0) : Ok (fun r => FrR w m S0 r.2) (df_X13_expression_320 n x4 s0) := by
  unfold df_X13_expression_320
  exact ok_ite (fun hc => ok_df_X13_expression_335 n (x4) (9) s0 h0) (fun _ => ok_df_X13_expression_335 n (x4) (8) s0 h0)
theorem ok_df_X13_expression_296 {w m : Prop} {S0 : St} (n : Nat) (y0 : Int32) (s0 : St) (h0 : FrR w m S0 s0) : Ok (fun r => FrR w m S0 r.2) (df_X13_expression_296 n y0 s0) := by
  unfold df_X13_expression_296
  exact ok_ite (fun hc => ok_ite (fun hc => ok_ite (fun hc => ok_df_X13_expression_338 n (y0) s0 h0) (fun _ => ok_df_X13_expression_320 n (y0) s0 h0)) (fun _ => ok_df_X13_expression_320 n (y0) s0 h0)) (fun _ => ok_df_X13_expression_338 n (y0) s0 h0)
theorem ok_df_X13_expression_276 {w m : Prop} {S0 : St} (n : Nat)  (s0 : St) (h0 : FrR w m S0 s0) : Ok (fun r => FrR w m S0 r.2) (df_X13_expression_276 n  s0) := by
  unfold df_X13_expression_276
  exact ok_ite (fun hc => ok_ck (ok_df_X13_expression_296 n ((sR s0 8 (Int32.toNatClampNeg (sI s0 25)))) s0 h0)) (fun _ => ok_df_X13_expression_296 n (0) s0 h0)
theorem ok_dF_X13_expression_255 {w m : Prop} {S0 : St} (n : Nat) (g255 : (St) → Option (Int32 × (St))) (hg255 : ∀  (s : (St)), FrR w m S0 s → Ok (fun r => FrR w m S0 r.2) (g255 s)) (s0 : St) (h0 : FrR w m S0 s0) : Ok (fun r => FrR w m S0 r.2) (dF_X13_expression_255 n g255 s0) := by
  unfold dF_X13_expression_255
  exact ok_ite (fun hc => ok_df_X13_expression_276 n  s0 h0) (fun _ => ok_ite (fun hc => ok_b1S (ok_df_X13_join n  s0 h0) (fun s19 h1 => hg255  s19 h1)) (fun _ => ok_df_X13_expression_276 n  s0 h0))
theorem ok_df_X13_expression_255 {w m : Prop} {S0 : St} (n : Nat)  : ∀ (kk : Nat)  (s : (St)), FrR w m S0 s → Ok (fun r => FrR w m S0 r.2) (df_X13_expression_255 n  kk  s) := fun kk => by
  induction kk with
  | zero => intros; exact ok_none
  | succ kk ih =>
    intro  s hs
    exact ok_dF_X13_expression_255 n  (df_X13_expression_255 n  kk)   ih s hs
theorem ok_df_X13_expression_252 {w m : Prop} {S0 : St} (n : Nat) (g33 : Int32 → Int32 → Int32 → (St) → Option (Int32 × (St))) (x1 : Int32) (x2 : Int32) (x3 : Int32) (hg33 : ∀ (y0 : Int32) (y1 : Int32) (y2 : Int32) (s : (St)), FrR w m S0 s → Ok (fun r => FrR w m S0 r.2) (g33 y0 y1 y2 s)) (s0 : St) (h0 : FrR w m S0 s0) : Ok (fun r => FrR w m S0 r.2) (df_X13_expression_252 n g33 x1 x2 x3 s0) := by
  unfold df_X13_expression_252
  exact hg33 (x1) (x2) (x3) s0 h0
theorem ok_df_X13_expression_246 {w m : Prop} {S0 : St} (n : Nat) (g33 : Int32 → Int32 → Int32 → (St) → Option (Int32 × (St))) (x1 : Int32) (x2 : Int32) (x3 : Int32) (x4 : Int32) (hg33 : ∀ (y0 : Int32) (y1 : Int32) (y2 : Int32) (s : (St)), FrR w m S0 s → Ok (fun r => FrR w m S0 r.2) (g33 y0 y1 y2 s)) (s0 : St) (h0 : FrR w m S0 s0) : Ok (fun r => FrR w m S0 r.2) (df_X13_expression_246 n g33 x1 x2 x3 x4 s0) := by
  unfold df_X13_expression_246
  exact ok_lS ((fr_I (by decide) h0)) (fun s33 h1 => ok_df_X13_expression_252 n g33 (x1) (x2) (x3) hg33 s33 h1)
theorem ok_df_X13_expression_235 {w m : Prop} {S0 : St} (n : Nat) (g33 : Int32 → Int32 → Int32 → (St) → Option (Int32 × (St))) (x1 : Int32) (x2 : Int32) (x4 : Int32) (hg33 : ∀ (y0 : Int32) (y1 : Int32) (y2 : Int32) (s : (St)), FrR w m S0 s → Ok (fun r => FrR w m S0 r.2) (g33 y0 y1 y2 s)) (s0 : St) (h0 : FrR w m S0 s0) : Ok (fun r => FrR w m S0 r.2) (df_X13_expression_235 n g33 x1 x2 x4 s0) := by
  unfold df_X13_expression_235
  exact ok_ite (fun hc => ok_df_X13_expression_246 n g33 (x1) (x2) (0) (x4) hg33 s0 h0) (fun _ => ok_b1S (ok_df_X13_blame n (1) s0 h0) (fun s35 h1 => ok_df_X13_expression_246 n g33 (x1) (x2) (0) (x4) hg33 s35 h1))
theorem ok_dF_X13_expression_193 {w m : Prop} {S0 : St} (n : Nat) (g33 : Int32 → Int32 → Int32 → (St) → Option (Int32 × (St))) (g193 : Int32 → Int32 → Int32 → (St) → Option (Int32 × (St))) (x1 : Int32) (x2 : Int32) (x3 : Int32) (hg33 : ∀ (y0 : Int32) (y1 : Int32) (y2 : Int32) (s : (St)), FrR w m S0 s → Ok (fun r => FrR w m S0 r.2) (g33 y0 y1 y2 s)) (hg193 : ∀ (y0 : Int32) (y1 : Int32) (y2 : Int32) (s : (St)), FrR w m S0 s → Ok (fun r => FrR w m S0 r.2) (g193 y0 y1 y2 s)) (s0 : St) (h0 : FrR w m S0 s0) : Ok (fun r => FrR w m S0 r.2) (dF_X13_expression_193 n g33 g193 x1 x2 x3 s0) := by
  unfold dF_X13_expression_193
  exact ok_ck (ok_ite (fun hc => ok_lS ((fr_I (by decide) h0)) (fun s40 h1 => ok_lv (fun z41 => ok_b1S (ok_df_X13_bind n  s40 h1) (fun s43 h2 => ok_df_X13_expression_252 n g33 (z41) (x2) (x3) hg33 s43 h2)))) (fun _ => ok_b1S (ok_df_X13_join n  s0 h0) (fun s46 h3 => hg193 (x1) (x2) (x3) s46 h3)))
theorem ok_df_X13_expression_193 {w m : Prop} {S0 : St} (n : Nat) (g33 : Int32 → Int32 → Int32 → (St) → Option (Int32 × (St))) (hg33 : ∀ (y0 : Int32) (y1 : Int32) (y2 : Int32) (s : (St)), FrR w m S0 s → Ok (fun r => FrR w m S0 r.2) (g33 y0 y1 y2 s)) : ∀ (kk : Nat) (y0 : Int32) (y1 : Int32) (y2 : Int32) (s : (St)), FrR w m S0 s → Ok (fun r => FrR w m S0 r.2) (df_X13_expression_193 n g33 kk y0 y1 y2 s) := fun kk => by
  induction kk with
  | zero => intros; exact ok_none
  | succ kk ih =>
    intro y0 y1 y2 s hs
    exact ok_dF_X13_expression_193 n g33 (df_X13_expression_193 n g33 kk) y0 y1 y2 hg33 ih s hs
theorem ok_df_X13_expression_180 {w m : Prop} {S0 : St} (n : Nat) (g33 : Int32 → Int32 → Int32 → (St) → Option (Int32 × (St))) (x1 : Int32) (x2 : Int32) (x3 : Int32) (x4 : Int32) (hg33 : ∀ (y0 : Int32) (y1 : Int32) (y2 : Int32) (s : (St)), FrR w m S0 s → Ok (fun r => FrR w m S0 r.2) (g33 y0 y1 y2 s)) (s0 : St) (h0 : FrR w m S0 s0) : Ok (fun r => FrR w m S0 r.2) (df_X13_expression_180 n g33 x1 x2 x3 x4 s0) := by
  unfold df_X13_expression_180
  exact ok_ite (fun hc => ok_ite (fun hc => ok_df_X13_expression_235 n g33 (x1) (x2) (x4) hg33 s0 h0) (fun _ => ok_df_X13_expression_193 n g33 hg33 n (x1) (x2) (x3) s0 h0)) (fun _ => ok_df_X13_expression_235 n g33 (x1) (x2) (x4) hg33 s0 h0)
theorem ok_df_X13_expression_167 {w m : Prop} {S0 : St} (n : Nat) (g33 : Int32 → Int32 → Int32 → (St) → Option (Int32 × (St))) (x1 : Int32) (x3 : Int32) (hg33 : ∀ (y0 : Int32) (y1 : Int32) (y2 : Int32) (s : (St)), FrR w m S0 s → Ok (fun r => FrR w m S0 r.2) (g33 y0 y1 y2 s)) (s0 : St) (h0 : FrR w m S0 s0) : Ok (fun r => FrR w m S0 r.2) (df_X13_expression_167 n g33 x1 x3 s0) := by
  unfold df_X13_expression_167
  exact ok_b1S (ok_df_X13_sign n ((sI s0 8)) s0 h0) (fun s51 h1 => ok_df_X13_expression_252 n g33 (x1) (1) (x3) hg33 s51 h1)
theorem ok_dF_X13_expression_129 {w m : Prop} {S0 : St} (n : Nat) (g33 : Int32 → Int32 → Int32 → (St) → Option (Int32 × (St))) (g129 : Int32 → Int32 → (St) → Option (Int32 × (St))) (x1 : Int32) (x3 : Int32) (hg33 : ∀ (y0 : Int32) (y1 : Int32) (y2 : Int32) (s : (St)), FrR w m S0 s → Ok (fun r => FrR w m S0 r.2) (g33 y0 y1 y2 s)) (hg129 : ∀ (y0 : Int32) (y1 : Int32) (s : (St)), FrR w m S0 s → Ok (fun r => FrR w m S0 r.2) (g129 y0 y1 s)) (s0 : St) (h0 : FrR w m S0 s0) : Ok (fun r => FrR w m S0 r.2) (dF_X13_expression_129 n g33 g129 x1 x3 s0) := by
  unfold dF_X13_expression_129
  exact ok_ite (fun hc => ok_df_X13_expression_167 n g33 (x1) (x3) hg33 s0 h0) (fun _ => ok_ck (ok_n2 (fun q54 s55 => ok_n2 (fun q57 s58 => ok_ite (fun hc => ok_df_X13_expression_167 n g33 (x1) (x3) hg33 s0 h0) (fun _ => ok_b1S (ok_df_X13_join n  s0 h0) (fun s62 h1 => hg129 (x1) (x3) s62 h1))))))
theorem ok_df_X13_expression_129 {w m : Prop} {S0 : St} (n : Nat) (g33 : Int32 → Int32 → Int32 → (St) → Option (Int32 × (St))) (hg33 : ∀ (y0 : Int32) (y1 : Int32) (y2 : Int32) (s : (St)), FrR w m S0 s → Ok (fun r => FrR w m S0 r.2) (g33 y0 y1 y2 s)) : ∀ (kk : Nat) (y0 : Int32) (y1 : Int32) (s : (St)), FrR w m S0 s → Ok (fun r => FrR w m S0 r.2) (df_X13_expression_129 n g33 kk y0 y1 s) := fun kk => by
  induction kk with
  | zero => intros; exact ok_none
  | succ kk ih =>
    intro y0 y1 s hs
    exact ok_dF_X13_expression_129 n g33 (df_X13_expression_129 n g33 kk) y0 y1 hg33 ih s hs
theorem ok_df_X13_expression_108 {w m : Prop} {S0 : St} (n : Nat) (g33 : Int32 → Int32 → Int32 → (St) → Option (Int32 × (St))) (x2 : Int32) (x3 : Int32) (y0 : Int32) (hg33 : ∀ (y0 : Int32) (y1 : Int32) (y2 : Int32) (s : (St)), FrR w m S0 s → Ok (fun r => FrR w m S0 r.2) (g33 y0 y1 y2 s)) (s0 : St) (h0 : FrR w m S0 s0) : Ok (fun r => FrR w m S0 r.2) (df_X13_expression_108 n g33 x2 x3 y0 s0) := by
  unfold df_X13_expression_108
  exact ok_df_X13_expression_252 n g33 (y0) (x2) (x3) hg33 s0 h0
theorem ok_df_X13_expression_95 {w m : Prop} {S0 : St} (n : Nat) (g33 : Int32 → Int32 → Int32 → (St) → Option (Int32 × (St))) (x1 : Int32) (x3 : Int32) (x5 : Int32) (y0 : Int32) (hg33 : ∀ (y0 : Int32) (y1 : Int32) (y2 : Int32) (s : (St)), FrR w m S0 s → Ok (fun r => FrR w m S0 r.2) (g33 y0 y1 y2 s)) (s0 : St) (h0 : FrR w m S0 s0) : Ok (fun r => FrR w m S0 r.2) (df_X13_expression_95 n g33 x1 x3 x5 y0 s0) := by
  unfold df_X13_expression_95
  exact ok_ite (fun hc => ok_df_X13_expression_108 n g33 (y0) (x3) (x1) hg33 s0 h0) (fun _ => ok_df_X13_expression_108 n g33 (y0) (x3) ((x1 + 1)) hg33 s0 h0)
theorem ok_df_X13_expression_81 {w m : Prop} {S0 : St} (n : Nat) (g33 : Int32 → Int32 → Int32 → (St) → Option (Int32 × (St))) (x1 : Int32) (x3 : Int32) (y0 : Int32) (hg33 : ∀ (y0 : Int32) (y1 : Int32) (y2 : Int32) (s : (St)), FrR w m S0 s → Ok (fun r => FrR w m S0 r.2) (g33 y0 y1 y2 s)) (s0 : St) (h0 : FrR w m S0 s0) : Ok (fun r => FrR w m S0 r.2) (df_X13_expression_81 n g33 x1 x3 y0 s0) := by
  unfold df_X13_expression_81
  exact ok_b2S (ok_df_X13_operand n  s0 h0) (fun q65 s66 h1 => ok_ite (fun hc => ok_df_X13_expression_95 n g33 (x1) (x3) (y0) (1) hg33 s66 h1) (fun _ => ok_df_X13_expression_95 n g33 (x1) (x3) (y0) (0) hg33 s66 h1))
theorem ok_df_X13_expression_76 {w m : Prop} {S0 : St} (n : Nat) (g33 : Int32 → Int32 → Int32 → (St) → Option (Int32 × (St))) (x1 : Int32) (x3 : Int32) (hg33 : ∀ (y0 : Int32) (y1 : Int32) (y2 : Int32) (s : (St)), FrR w m S0 s → Ok (fun r => FrR w m S0 r.2) (g33 y0 y1 y2 s)) (s0 : St) (h0 : FrR w m S0 s0) : Ok (fun r => FrR w m S0 r.2) (df_X13_expression_76 n g33 x1 x3 s0) := by
  unfold df_X13_expression_76
  exact ok_df_X13_expression_81 n g33 (x1) (x3) (1) hg33 s0 h0
theorem ok_dF_X13_expression_33 {w m : Prop} {S0 : St} (n : Nat) (g33 : Int32 → Int32 → Int32 → (St) → Option (Int32 × (St))) (x1 : Int32) (x2 : Int32) (x3 : Int32) (hg33 : ∀ (y0 : Int32) (y1 : Int32) (y2 : Int32) (s : (St)), FrR w m S0 s → Ok (fun r => FrR w m S0 r.2) (g33 y0 y1 y2 s)) (s0 : St) (h0 : FrR w m S0 s0) : Ok (fun r => FrR w m S0 r.2) (dF_X13_expression_33 n g33 x1 x2 x3 s0) := by
  unfold dF_X13_expression_33
  exact ok_ite (fun hc => ok_df_X13_expression_255 n  n s0 h0) (fun _ => ok_ite (fun hc => ok_lv (fun z22 => ok_b1S (ok_df_X13_scan n  s0 h0) (fun s24 h1 => ok_ite (fun hc => ok_n2 (fun q27 s28 => ok_ite (fun hc => ok_df_X13_expression_180 n g33 (x1) (x2) (x3) (z22) hg33 s24 h1) (fun _ => ok_ite (fun hc => ok_df_X13_expression_180 n g33 (x1) (x2) (x3) (z22) hg33 s24 h1) (fun _ => ok_df_X13_expression_129 n g33 hg33 n (x1) (x3) s24 h1)))) (fun _ => ok_ite (fun hc => ok_df_X13_expression_76 n g33 (x1) (x3) hg33 s24 h1) (fun _ => ok_ite (fun hc => ok_df_X13_expression_76 n g33 (x1) (x3) hg33 s24 h1) (fun _ => ok_df_X13_expression_81 n g33 (x1) (x3) (0) hg33 s24 h1)))))) (fun _ => ok_df_X13_expression_255 n  n s0 h0))
theorem ok_df_X13_expression_33 {w m : Prop} {S0 : St} (n : Nat)  : ∀ (kk : Nat) (y0 : Int32) (y1 : Int32) (y2 : Int32) (s : (St)), FrR w m S0 s → Ok (fun r => FrR w m S0 r.2) (df_X13_expression_33 n  kk y0 y1 y2 s) := fun kk => by
  induction kk with
  | zero => intros; exact ok_none
  | succ kk ih =>
    intro y0 y1 y2 s hs
    exact ok_dF_X13_expression_33 n  (df_X13_expression_33 n  kk) y0 y1 y2  ih s hs
theorem ok_df_X13_expression_0 {w m : Prop} {S0 : St} (n : Nat)  (s0 : St) (h0 : FrR w m S0 s0) : Ok (fun r => FrR w m S0 r.2) (df_X13_expression_0 n  s0) := by
  unfold df_X13_expression_0
  exact ok_lS ((fr_I (by decide) h0)) (fun s1 h1 => ok_lS ((fr_I (by decide) h1)) (fun s2 h2 => ok_lS ((fr_B (by decide) (Or.inl rfl) h2)) (fun s3 h3 => ok_lS ((fr_B (by decide) (Or.inl rfl) h3)) (fun s4 h4 => ok_lS ((fr_B (by decide) (Or.inl rfl) h4)) (fun s5 h5 => ok_df_X13_expression_33 n  n (0) (1) (1) s5 h5)))))
theorem ok_df_X13_expression {w m : Prop} {S0 : St} (n : Nat)  (s0 : St) (h0 : FrR w m S0 s0) : Ok (fun r => FrR w m S0 r.2) (df_X13_expression n  s0) := by
  unfold df_X13_expression
  exact ok_df_X13_expression_0 n  s0 h0
theorem ok_df_X13_fits_31 {w m : Prop} {S0 : St} (n : Nat)  (s0 : St) (h0 : FrR w m S0 s0) : Ok (fun r => FrR w m S0 r) (df_X13_fits_31 n  s0) := by
  unfold df_X13_fits_31
  exact ok_some (h0)
theorem ok_df_X13_fits_25 {w m : Prop} {S0 : St} (n : Nat)  (s0 : St) (h0 : FrR w m S0 s0) : Ok (fun r => FrR w m S0 r) (df_X13_fits_25 n  s0) := by
  unfold df_X13_fits_25
  exact ok_b1S (ok_df_X13_blame n (10) s0 h0) (fun s4 h1 => ok_df_X13_fits_31 n  s4 h1)
theorem ok_df_X13_fits_0 {w m : Prop} {S0 : St} (n : Nat) (v0 : Int32) (v1 : Int32) (v2 : Int32) (v3 : Int32) (s0 : St) (h0 : FrR w m S0 s0) : Ok (fun r => FrR w m S0 r) (df_X13_fits_0 n v0 v1 v2 v3 s0) := by
  unfold df_X13_fits_0
  exact ok_ite (fun hc => ok_ite (fun hc => ok_df_X13_fits_25 n  s0 h0) (fun _ => ok_ite (fun hc => ok_df_X13_fits_25 n  s0 h0) (fun _ => ok_nz (ok_ite (fun hc => ok_df_X13_fits_31 n  s0 h0) (fun _ => ok_df_X13_fits_25 n  s0 h0))))) (fun _ => ok_df_X13_fits_31 n  s0 h0)
theorem ok_df_X13_fits {w m : Prop} {S0 : St} (n : Nat) (v0 : Int32) (v1 : Int32) (v2 : Int32) (v3 : Int32) (s0 : St) (h0 : FrR w m S0 s0) : Ok (fun r => FrR w m S0 r) (df_X13_fits n v0 v1 v2 v3 s0) := by
  unfold df_X13_fits
  exact ok_df_X13_fits_0 n v0 v1 v2 v3 s0 h0
theorem ok_df_X13_within_0 {w m : Prop} {S0 : St} (n : Nat) (v0 : Int32) (v1 : Int32) (v2 : Int32) (s0 : St) (h0 : FrR w m S0 s0) : Ok (fun r => FrR w m S0 r.2) (df_X13_within_0 n v0 v1 v2 s0) := by
  unfold df_X13_within_0
  exact ok_b2S (ok_df_X13_expression n  s0 h0) (fun q1 s2 h1 => ok_b1S (ok_df_X13_fits n (q1) (v0) (v1) (v2) s2 h1) (fun s5 h2 => ok_some (h2)))
theorem ok_df_X13_within {w m : Prop} {S0 : St} (n : Nat) (v0 : Int32) (v1 : Int32) (v2 : Int32) (s0 : St) (h0 : FrR w m S0 s0) : Ok (fun r => FrR w m S0 r.2) (df_X13_within n v0 v1 v2 s0) := by
  unfold df_X13_within
  exact ok_df_X13_within_0 n v0 v1 v2 s0 h0
theorem ok_df_X13_fixed_66 {w m : Prop} {S0 : St} (n : Nat) (x3 : Int32) (s0 : St) (h0 : FrR w m S0 s0) : Ok (fun r => FrR w m S0 r.2) (df_X13_fixed_66 n x3 s0) := by
  unfold df_X13_fixed_66
  exact ok_some (h0)
theorem ok_df_X13_fixed_60 {w m : Prop} {S0 : St} (n : Nat) (x3 : Int32) (s0 : St) (h0 : FrR w m S0 s0) : Ok (fun r => FrR w m S0 r.2) (df_X13_fixed_60 n x3 s0) := by
  unfold df_X13_fixed_60
  exact ok_b1S (ok_df_X13_blame n (6) s0 h0) (fun s10 h1 => ok_df_X13_fixed_66 n (x3) s10 h1)
theorem ok_df_X13_fixed_0 {w m : Prop} {S0 : St} (n : Nat) (v0 : Int32) (v1 : Int32) (s0 : St) (h0 : FrR w m S0 s0) : Ok (fun r => FrR w m S0 r.2) (df_X13_fixed_0 n v0 v1 s0) := by
  unfold df_X13_fixed_0
  exact ok_b2S (ok_df_X13_expression n  s0 h0) (fun q1 s2 h1 => ok_ite (fun hc => ok_ite (fun hc => ok_ite (fun hc => ok_ite (fun hc => ok_ite (fun hc => ok_df_X13_fixed_60 n (q1) s2 h1) (fun _ => ok_ite (fun hc => ok_df_X13_fixed_66 n (q1) s2 h1) (fun _ => ok_df_X13_fixed_60 n (q1) s2 h1))) (fun _ => ok_b1S (ok_df_X13_blame n (9) s2 h1) (fun s14 h2 => ok_df_X13_fixed_66 n (q1) s14 h2))) (fun _ => ok_b1S (ok_df_X13_blame n (5) s2 h1) (fun s17 h3 => ok_df_X13_fixed_66 n (q1) s17 h3))) (fun _ => ok_df_X13_fixed_66 n (q1) s2 h1)) (fun _ => ok_df_X13_fixed_66 n (q1) s2 h1))
theorem ok_df_X13_fixed {w m : Prop} {S0 : St} (n : Nat) (v0 : Int32) (v1 : Int32) (s0 : St) (h0 : FrR w m S0 s0) : Ok (fun r => FrR w m S0 r.2) (df_X13_fixed n v0 v1 s0) := by
  unfold df_X13_fixed
  exact ok_df_X13_fixed_0 n v0 v1 s0 h0
theorem ok_df_X13_taken_70 {w m : Prop} {S0 : St} (n : Nat) (y0 : Int32) (s0 : St) (h0 : FrR w m S0 s0) : Ok (fun r => FrR w m S0 r.2) (df_X13_taken_70 n y0 s0) := by
  unfold df_X13_taken_70
  exact ok_some (h0)
theorem ok_df_X13_taken_61 {w m : Prop} {S0 : St} (n : Nat) (x1 : Int32) (s0 : St) (h0 : FrR w m S0 s0) : Ok (fun r => FrR w m S0 r.2) (df_X13_taken_61 n x1 s0) := by
  unfold df_X13_taken_61
  exact ok_ite (fun hc => ok_df_X13_taken_70 n (x1) s0 h0) (fun _ => ok_df_X13_taken_70 n (0) s0 h0)
theorem ok_df_X13_taken_44 {w m : Prop} {S0 : St} (n : Nat) (x1 : Int32) (s0 : St) (h0 : FrR w m S0 s0) : Ok (fun r => FrR w m S0 r.2) (df_X13_taken_44 n x1 s0) := by
  unfold df_X13_taken_44
  exact ok_b1S (ok_df_X13_blame n (1) s0 h0) (fun s7 h1 => ok_df_X13_taken_61 n (x1) s7 h1)
theorem ok_df_X13_taken_28 {w m : Prop} {S0 : St} (n : Nat) (y0 : Int32) (s0 : St) (h0 : FrR w m S0 s0) : Ok (fun r => FrR w m S0 r.2) (df_X13_taken_28 n y0 s0) := by
  unfold df_X13_taken_28
  exact ok_ite (fun hc => ok_df_X13_taken_44 n (y0) s0 h0) (fun _ => ok_ite (fun hc => ok_df_X13_taken_44 n (y0) s0 h0) (fun _ => ok_ite (fun hc => ok_df_X13_taken_61 n (y0) s0 h0) (fun _ => ok_b1S (ok_df_X13_blame n (3) s0 h0) (fun s13 h1 => ok_df_X13_taken_61 n (y0) s13 h1))))
theorem ok_df_X13_taken_0 {w m : Prop} {S0 : St} (n : Nat)  (s0 : St) (h0 : FrR w m S0 s0) : Ok (fun r => FrR w m S0 r.2) (df_X13_taken_0 n  s0) := by
  unfold df_X13_taken_0
  exact ok_b1S (ok_df_X13_scan n  s0 h0) (fun s2 h1 => ok_ite (fun hc => ok_b2S (ok_df_X13_register n ((sI s2 9)) ((sI s2 10)) s2 h1) (fun q15 s16 h2 => ok_df_X13_taken_28 n (q15) s16 h2)) (fun _ => ok_df_X13_taken_28 n ((-1)) s2 h1))
theorem ok_df_X13_taken {w m : Prop} {S0 : St} (n : Nat)  (s0 : St) (h0 : FrR w m S0 s0) : Ok (fun r => FrR w m S0 r.2) (df_X13_taken n  s0) := by
  unfold df_X13_taken
  exact ok_df_X13_taken_0 n  s0 h0
theorem ok_df_X13_near8_22 {w m : Prop} {S0 : St} (n : Nat) (x1 : Int32) (s0 : St) (h0 : FrR w m S0 s0) : Ok (fun r => FrR w m S0 r.2) (df_X13_near8_22 n x1 s0) := by
  unfold df_X13_near8_22
  exact ok_some (h0)
theorem ok_df_X13_near8_17 {w m : Prop} {S0 : St} (n : Nat) (x1 : Int32) (s0 : St) (h0 : FrR w m S0 s0) : Ok (fun r => FrR w m S0 r.2) (df_X13_near8_17 n x1 s0) := by
  unfold df_X13_near8_17
  exact ok_b1S (ok_df_X13_blame n (3) s0 h0) (fun s6 h1 => ok_df_X13_near8_22 n (x1) s6 h1)
theorem ok_df_X13_near8_0 {w m : Prop} {S0 : St} (n : Nat)  (s0 : St) (h0 : FrR w m S0 s0) : Ok (fun r => FrR w m S0 r.2) (df_X13_near8_0 n  s0) := by
  unfold df_X13_near8_0
  exact ok_b2S (ok_df_X13_taken n  s0 h0) (fun q1 s2 h1 => ok_ite (fun hc => ok_df_X13_near8_17 n (q1) s2 h1) (fun _ => ok_ite (fun hc => ok_df_X13_near8_22 n (q1) s2 h1) (fun _ => ok_df_X13_near8_17 n (q1) s2 h1)))
theorem ok_df_X13_near8 {w m : Prop} {S0 : St} (n : Nat)  (s0 : St) (h0 : FrR w m S0 s0) : Ok (fun r => FrR w m S0 r.2) (df_X13_near8 n  s0) := by
  unfold df_X13_near8
  exact ok_df_X13_near8_0 n  s0 h0
theorem ok_df_X13_behind_17 {w m : Prop} {S0 : St} (n : Nat) (y0 : Int32) (s0 : St) (h0 : FrR w m S0 s0) : Ok (fun r => FrR w m S0 r.2) (df_X13_behind_17 n y0 s0) := by
  unfold df_X13_behind_17
  exact ok_some (h0)
theorem ok_df_X13_behind_0 {w m : Prop} {S0 : St} (n : Nat)  (s0 : St) (h0 : FrR w m S0 s0) : Ok (fun r => FrR w m S0 r.2) (df_X13_behind_0 n  s0) := by
  unfold df_X13_behind_0
  exact ok_b2S (ok_df_X13_needs n (44) s0 h0) (fun q1 s2 h1 => ok_ite (fun hc => ok_df_X13_behind_17 n (0) s2 h1) (fun _ => ok_b2S (ok_df_X13_taken n  s2 h1) (fun q5 s6 h2 => ok_df_X13_behind_17 n (q5) s6 h2)))
theorem ok_df_X13_behind {w m : Prop} {S0 : St} (n : Nat)  (s0 : St) (h0 : FrR w m S0 s0) : Ok (fun r => FrR w m S0 r.2) (df_X13_behind n  s0) := by
  unfold df_X13_behind
  exact ok_df_X13_behind_0 n  s0 h0
theorem ok_df_X13_not_10 {w m : Prop} {S0 : St} (n : Nat) (x1 : Int32) (s0 : St) (h0 : FrR w m S0 s0) : Ok (fun r => FrR w m S0 r.2) (df_X13_not_10 n x1 s0) := by
  unfold df_X13_not_10
  exact ok_some (h0)
theorem ok_df_X13_not_0 {w m : Prop} {S0 : St} (n : Nat) (v0 : Int32) (v1 : Int32) (s0 : St) (h0 : FrR w m S0 s0) : Ok (fun r => FrR w m S0 r.2) (df_X13_not_0 n v0 v1 s0) := by
  unfold df_X13_not_0
  exact ok_ite (fun hc => ok_b1S (ok_df_X13_blame n (3) s0 h0) (fun s3 h1 => ok_df_X13_not_10 n (v0) s3 h1)) (fun _ => ok_df_X13_not_10 n (v0) s0 h0)
theorem ok_df_X13_not {w m : Prop} {S0 : St} (n : Nat) (v0 : Int32) (v1 : Int32) (s0 : St) (h0 : FrR w m S0 s0) : Ok (fun r => FrR w m S0 r.2) (df_X13_not n v0 v1 s0) := by
  unfold df_X13_not
  exact ok_df_X13_not_0 n v0 v1 s0 h0
theorem ok_df_X13_bracketed_32 {w m : Prop} {S0 : St} (n : Nat) (x1 : Int32) (s0 : St) (h0 : FrR w m S0 s0) : Ok (fun r => FrR w m S0 r.2) (df_X13_bracketed_32 n x1 s0) := by
  unfold df_X13_bracketed_32
  exact ok_some (h0)
theorem ok_df_X13_bracketed_17 {w m : Prop} {S0 : St} (n : Nat) (y0 : Int32) (s0 : St) (h0 : FrR w m S0 s0) : Ok (fun r => FrR w m S0 r.2) (df_X13_bracketed_17 n y0 s0) := by
  unfold df_X13_bracketed_17
  exact ok_ite (fun hc => ok_b2S (ok_df_X13_needs n (41) s0 h0) (fun q6 s7 h1 => ok_df_X13_bracketed_32 n (y0) s7 h1)) (fun _ => ok_df_X13_bracketed_32 n (y0) s0 h0)
theorem ok_df_X13_bracketed_0 {w m : Prop} {S0 : St} (n : Nat)  (s0 : St) (h0 : FrR w m S0 s0) : Ok (fun r => FrR w m S0 r.2) (df_X13_bracketed_0 n  s0) := by
  unfold df_X13_bracketed_0
  exact ok_b2S (ok_df_X13_needs n (40) s0 h0) (fun q1 s2 h1 => ok_ite (fun hc => ok_df_X13_bracketed_17 n (0) s2 h1) (fun _ => ok_b2S (ok_df_X13_taken n  s2 h1) (fun q9 s10 h2 => ok_df_X13_bracketed_17 n (q9) s10 h2)))
theorem ok_df_X13_bracketed {w m : Prop} {S0 : St} (n : Nat)  (s0 : St) (h0 : FrR w m S0 s0) : Ok (fun r => FrR w m S0 r.2) (df_X13_bracketed n  s0) := by
  unfold df_X13_bracketed
  exact ok_df_X13_bracketed_0 n  s0 h0
theorem ok_df_X13_isEnd_26 {w m : Prop} {S0 : St} (n : Nat) (y0 : Int32) (s0 : St) (h0 : FrR w m S0 s0) : Ok (fun r => FrR w m S0 r.2) (df_X13_isEnd_26 n y0 s0) := by
  unfold df_X13_isEnd_26
  exact ok_z (ok_some (h0))
theorem ok_df_X13_isEnd_0 {w m : Prop} {S0 : St} (n : Nat)  (s0 : St) (h0 : FrR w m S0 s0) : Ok (fun r => FrR w m S0 r.2) (df_X13_isEnd_0 n  s0) := by
  unfold df_X13_isEnd_0
  exact ok_lv (fun z1 => ok_b1S (ok_df_X13_scan n  s0 h0) (fun s3 h1 => ok_lS ((fr_I (by decide) h1)) (fun s5 h2 => ok_ite (fun hc => ok_df_X13_isEnd_26 n (1) s5 h2) (fun _ => ok_df_X13_isEnd_26 n (0) s5 h2))))
theorem ok_df_X13_isEnd {w m : Prop} {S0 : St} (n : Nat)  (s0 : St) (h0 : FrR w m S0 s0) : Ok (fun r => FrR w m S0 r.2) (df_X13_isEnd n  s0) := by
  unfold df_X13_isEnd
  exact ok_df_X13_isEnd_0 n  s0 h0
theorem ok_df_X13_put_27 {w m : Prop} {S0 : St} (n : Nat)  (s0 : St) (h0 : FrR w m S0 s0) : Ok (fun r => FrR w m S0 r) (df_X13_put_27 n  s0) := by
  unfold df_X13_put_27
  exact ok_lS ((fr_I (by decide) h0)) (fun s2 h1 => ok_some (h1))
theorem ok_df_X13_put_0 {w m : Prop} {S0 : St} (n : Nat) (v0 : Int32) (hwm : w → m) (s0 : St) (h0 : FrR w m S0 s0) : Ok (fun r => FrR w m S0 r) (df_X13_put_0 n v0 s0) := by
  unfold df_X13_put_0
  exact ok_ite (fun hc => ok_o (ok_ck (ok_lS ((fr_9 hc hwm h0)) (fun s5 h1 => ok_df_X13_put_27 n  s5 h1)))) (fun _ => ok_df_X13_put_27 n  s0 h0)
theorem ok_df_X13_put {w m : Prop} {S0 : St} (n : Nat) (v0 : Int32) (hwm : w → m) (s0 : St) (h0 : FrR w m S0 s0) : Ok (fun r => FrR w m S0 r) (df_X13_put n v0 s0) := by
  unfold df_X13_put
  exact ok_df_X13_put_0 n v0 hwm s0 h0
theorem ok_df_X13_half_0 {w m : Prop} {S0 : St} (n : Nat) (v0 : Int32) (hwm : w → m) (s0 : St) (h0 : FrR w m S0 s0) : Ok (fun r => FrR w m S0 r) (df_X13_half_0 n v0 s0) := by
  unfold df_X13_half_0
  exact ok_b1S (ok_df_X13_put n (v0) hwm s0 h0) (fun s2 h1 => ok_b1S (ok_df_X13_put n (((v0 : Int32) >>> ((8 : Int32) &&& 31))) hwm s2 h1) (fun s5 h2 => ok_some (h2)))
theorem ok_df_X13_half {w m : Prop} {S0 : St} (n : Nat) (v0 : Int32) (hwm : w → m) (s0 : St) (h0 : FrR w m S0 s0) : Ok (fun r => FrR w m S0 r) (df_X13_half n v0 s0) := by
  unfold df_X13_half
  exact ok_df_X13_half_0 n v0 hwm s0 h0
theorem ok_df_X13_word_0 {w m : Prop} {S0 : St} (n : Nat) (v0 : Int32) (hwm : w → m) (s0 : St) (h0 : FrR w m S0 s0) : Ok (fun r => FrR w m S0 r) (df_X13_word_0 n v0 s0) := by
  unfold df_X13_word_0
  exact ok_b1S (ok_df_X13_half n (v0) hwm s0 h0) (fun s2 h1 => ok_b1S (ok_df_X13_half n (((v0 : Int32) >>> ((16 : Int32) &&& 31))) hwm s2 h1) (fun s5 h2 => ok_some (h2)))
theorem ok_df_X13_word {w m : Prop} {S0 : St} (n : Nat) (v0 : Int32) (hwm : w → m) (s0 : St) (h0 : FrR w m S0 s0) : Ok (fun r => FrR w m S0 r) (df_X13_word n v0 s0) := by
  unfold df_X13_word
  exact ok_df_X13_word_0 n v0 hwm s0 h0
theorem ok_df_X13_level_0 {w m : Prop} {S0 : St} (n : Nat)  (s0 : St) (h0 : FrR w m S0 s0) : Ok (fun r => FrR w m S0 r.2) (df_X13_level_0 n  s0) := by
  unfold df_X13_level_0
  exact ok_ck (ok_some (h0))
theorem ok_df_X13_level {w m : Prop} {S0 : St} (n : Nat)  (s0 : St) (h0 : FrR w m S0 s0) : Ok (fun r => FrR w m S0 r.2) (df_X13_level n  s0) := by
  unfold df_X13_level
  exact ok_df_X13_level_0 n  s0 h0
theorem ok_df_X13_target_202 {w m : Prop} {S0 : St} (n : Nat) (x3 : Int32) (y1 : Int32) (s0 : St) (h0 : FrR w m S0 s0) : Ok (fun r => FrR w m S0 r.2) (df_X13_target_202 n x3 y1 s0) := by
  unfold df_X13_target_202
  exact ok_f (fun hf1 => ok_z (ok_lS ((fr_B (by decide) (b01_f hf1) h0)) (fun s18 h2 => ok_some (h2))))
theorem ok_df_X13_target_201 {w m : Prop} {S0 : St} (n : Nat) (x3 : Int32) (s0 : St) (h0 : FrR w m S0 s0) : Ok (fun r => FrR w m S0 r.2) (df_X13_target_201 n x3 s0) := by
  unfold df_X13_target_201
  exact ok_df_X13_target_202 n (x3) (0) s0 h0
theorem ok_df_X13_target_197 {w m : Prop} {S0 : St} (n : Nat) (x3 : Int32) (s0 : St) (h0 : FrR w m S0 s0) : Ok (fun r => FrR w m S0 r.2) (df_X13_target_197 n x3 s0) := by
  unfold df_X13_target_197
  exact ok_df_X13_target_202 n (x3) (1) s0 h0
theorem ok_df_X13_target_170 {w m : Prop} {S0 : St} (n : Nat) (x3 : Int32) (x5 : Int32) (x6 : Int32) (y1 : Int32) (y2 : Int32) (s0 : St) (h0 : FrR w m S0 s0) : Ok (fun r => FrR w m S0 r.2) (df_X13_target_170 n x3 x5 x6 y1 y2 s0) := by
  unfold df_X13_target_170
  exact ok_ite (fun hc => ok_df_X13_target_201 n (x3) s0 h0) (fun _ => ok_ite (fun hc => ok_df_X13_target_197 n (x3) s0 h0) (fun _ => ok_ite (fun hc => ok_df_X13_target_197 n (x3) s0 h0) (fun _ => ok_ite (fun hc => ok_df_X13_target_201 n (x3) s0 h0) (fun _ => ok_df_X13_target_197 n (x3) s0 h0))))
theorem ok_df_X13_target_119 {w m : Prop} {S0 : St} (n : Nat) (x1 : Int32) (x3 : Int32) (x4 : Int32) (x5 : Int32) (y0 : Int32) (s0 : St) (h0 : FrR w m S0 s0) : Ok (fun r => FrR w m S0 r.2) (df_X13_target_119 n x1 x3 x4 x5 y0 s0) := by
  unfold df_X13_target_119
  exact ok_b1S (ok_df_X13_fits n (x5) (((-y0) - 2)) (y0) (2) s0 h0) (fun s13 h1 => ok_ite (fun hc => ok_ite (fun hc => ok_ite (fun hc => ok_ite (fun hc => ok_df_X13_target_170 n (x3) (x5) (y0) (x4) (1) s13 h1) (fun _ => ok_df_X13_target_170 n (x3) (x5) (y0) (x4) (2) s13 h1)) (fun _ => ok_df_X13_target_201 n (x3) s13 h1)) (fun _ => ok_df_X13_target_201 n (x3) s13 h1)) (fun _ => ok_df_X13_target_201 n (x3) s13 h1))
theorem ok_df_X13_target_87 {w m : Prop} {S0 : St} (n : Nat) (x1 : Int32) (x3 : Int32) (x4 : Int32) (x5 : Int32) (s0 : St) (h0 : FrR w m S0 s0) : Ok (fun r => FrR w m S0 r.2) (df_X13_target_87 n x1 x3 x4 x5 s0) := by
  unfold df_X13_target_87
  exact ok_df_X13_target_119 n (x1) (x3) (x4) (x5) (1048574) s0 h0
theorem ok_df_X13_target_93 {w m : Prop} {S0 : St} (n : Nat) (x1 : Int32) (x3 : Int32) (x4 : Int32) (x5 : Int32) (s0 : St) (h0 : FrR w m S0 s0) : Ok (fun r => FrR w m S0 r.2) (df_X13_target_93 n x1 x3 x4 x5 s0) := by
  unfold df_X13_target_93
  exact ok_ite (fun hc => ok_df_X13_target_119 n (x1) (x3) (x4) (x5) (4094) s0 h0) (fun _ => ok_ite (fun hc => ok_df_X13_target_119 n (x1) (x3) (x4) (x5) (2046) s0 h0) (fun _ => ok_df_X13_target_119 n (x1) (x3) (x4) (x5) (254) s0 h0))
theorem ok_df_X13_target_68 {w m : Prop} {S0 : St} (n : Nat) (x1 : Int32) (x3 : Int32) (x4 : Int32) (y0 : Int32) (s0 : St) (h0 : FrR w m S0 s0) : Ok (fun r => FrR w m S0 r.2) (df_X13_target_68 n x1 x3 x4 y0 s0) := by
  unfold df_X13_target_68
  exact ok_ite (fun hc => ok_df_X13_target_87 n (x1) (x3) (x4) (y0) s0 h0) (fun _ => ok_ite (fun hc => ok_ite (fun hc => ok_df_X13_target_87 n (x1) (x3) (x4) (y0) s0 h0) (fun _ => ok_df_X13_target_93 n (x1) (x3) (x4) (y0) s0 h0)) (fun _ => ok_df_X13_target_93 n (x1) (x3) (x4) (y0) s0 h0))
theorem ok_df_X13_target_53 {w m : Prop} {S0 : St} (n : Nat) (x1 : Int32) (x3 : Int32) (y0 : Int32) (s0 : St) (h0 : FrR w m S0 s0) : Ok (fun r => FrR w m S0 r.2) (df_X13_target_53 n x1 x3 y0 s0) := by
  unfold df_X13_target_53
  exact ok_ite (fun hc => ok_df_X13_target_68 n (x1) (x3) (y0) ((x3 - 4)) s0 h0) (fun _ => ok_df_X13_target_68 n (x1) (x3) (y0) (x3) s0 h0)
theorem ok_df_X13_target_38 {w m : Prop} {S0 : St} (n : Nat) (x1 : Int32) (x2 : Int32) (x3 : Int32) (s0 : St) (h0 : FrR w m S0 s0) : Ok (fun r => FrR w m S0 r.2) (df_X13_target_38 n x1 x2 x3 s0) := by
  unfold df_X13_target_38
  exact ok_ite (fun hc => ok_df_X13_target_53 n (x1) (x3) (x2) s0 h0) (fun _ => ok_b2S (ok_df_X13_level n  s0 h0) (fun q7 s8 h1 => ok_df_X13_target_53 n (x1) (x3) (q7) s8 h1))
theorem ok_df_X13_target_0 {w m : Prop} {S0 : St} (n : Nat) (v0 : Int32) (v1 : Int32) (s0 : St) (h0 : FrR w m S0 s0) : Ok (fun r => FrR w m S0 r.2) (df_X13_target_0 n v0 v1 s0) := by
  unfold df_X13_target_0
  exact ok_b2S (ok_df_X13_expression n  s0 h0) (fun q1 s2 h1 => ok_lv (fun z4 => ok_ite (fun hc => ok_ck (ok_ck (ok_lS ((fr_R (by decide) h1)) (fun s32 h2 => ok_df_X13_target_38 n (v0) (v1) (z4) s32 h2)))) (fun _ => ok_df_X13_target_38 n (v0) (v1) (z4) s2 h1)))
theorem ok_df_X13_target {w m : Prop} {S0 : St} (n : Nat) (v0 : Int32) (v1 : Int32) (s0 : St) (h0 : FrR w m S0 s0) : Ok (fun r => FrR w m S0 r.2) (df_X13_target n v0 v1 s0) := by
  unfold df_X13_target
  exact ok_df_X13_target_0 n v0 v1 s0 h0
theorem ok_df_X13_jump_57 {w m : Prop} {S0 : St} (n : Nat)  (s0 : St) (h0 : FrR w m S0 s0) : Ok (fun r => FrR w m S0 r) (df_X13_jump_57 n  s0) := by
  unfold df_X13_jump_57
  exact ok_some (h0)
theorem ok_df_X13_jump_26 {w m : Prop} {S0 : St} (n : Nat) (x2 : Int32) (y1 : Int32) (y2 : Int32) (hwm : w → m) (s0 : St) (h0 : FrR w m S0 s0) : Ok (fun r => FrR w m S0 r) (df_X13_jump_26 n x2 y1 y2 s0) := by
  unfold df_X13_jump_26
  exact ok_n2 (fun q15 s16 => ok_b1S (ok_df_X13_half n (((y1 ||| ((y2 : Int32) <<< ((13 : Int32) &&& 31))) ||| q15)) hwm s0 h0) (fun s19 h1 => ok_df_X13_jump_57 n  s19 h1))
theorem ok_df_X13_jump_0 {w m : Prop} {S0 : St} (n : Nat) (v0 : Int32) (hwm : w → m) (s0 : St) (h0 : FrR w m S0 s0) : Ok (fun r => FrR w m S0 r) (df_X13_jump_0 n v0 s0) := by
  unfold df_X13_jump_0
  exact ok_b2S (ok_df_X13_target n (1) (0) s0 h0) (fun q1 s2 h1 => ok_b2S (ok_df_X13_level n  s2 h1) (fun q4 s5 h2 => ok_ite (fun hc => ok_ite (fun hc => ok_df_X13_jump_26 n (q1) (1) (1) hwm s5 h2) (fun _ => ok_df_X13_jump_26 n (q1) (1) (5) hwm s5 h2)) (fun _ => ok_n2 (fun q8 s9 => ok_b1S (ok_df_X13_word n (((111 ||| ((v0 : Int32) <<< ((7 : Int32) &&& 31))) ||| q8)) hwm s5 h2) (fun s12 h3 => ok_df_X13_jump_57 n  s12 h3)))))
theorem ok_df_X13_jump {w m : Prop} {S0 : St} (n : Nat) (v0 : Int32) (hwm : w → m) (s0 : St) (h0 : FrR w m S0 s0) : Ok (fun r => FrR w m S0 r) (df_X13_jump n v0 s0) := by
  unfold df_X13_jump
  exact ok_df_X13_jump_0 n v0 hwm s0 h0
theorem ok_df_X13_branch_111 {w m : Prop} {S0 : St} (n : Nat) (x1 : Int32) (x5 : Int32) (x6 : Int32) (x7 : Int32) (hwm : w → m) (s0 : St) (h0 : FrR w m S0 s0) : Ok (fun r => FrR w m S0 r) (df_X13_branch_111 n x1 x5 x6 x7 s0) := by
  unfold df_X13_branch_111
  exact ok_ite (fun hc => ok_n2 (fun q13 s14 => ok_b1S (ok_df_X13_word n ((((x1 ^^^ 4096) ||| x7) ||| q13)) hwm s0 h0) (fun s17 h1 => ok_n2 (fun q19 s20 => ok_b1S (ok_df_X13_word n ((111 ||| q19)) hwm s17 h1) (fun s23 h2 => ok_some (h2)))))) (fun _ => ok_some (h0))
theorem ok_df_X13_branch_91 {w m : Prop} {S0 : St} (n : Nat) (x1 : Int32) (x5 : Int32) (x6 : Int32) (x7 : Int32) (hwm : w → m) (s0 : St) (h0 : FrR w m S0 s0) : Ok (fun r => FrR w m S0 r) (df_X13_branch_91 n x1 x5 x6 x7 s0) := by
  unfold df_X13_branch_91
  exact ok_ite (fun hc => ok_n2 (fun q25 s26 => ok_b1S (ok_df_X13_word n (((x1 ||| x7) ||| q25)) hwm s0 h0) (fun s29 h1 => ok_df_X13_branch_111 n (x1) (x5) (x6) (x7) hwm s29 h1))) (fun _ => ok_df_X13_branch_111 n (x1) (x5) (x6) (x7) hwm s0 h0)
theorem ok_df_X13_branch_67 {w m : Prop} {S0 : St} (n : Nat) (x1 : Int32) (x2 : Int32) (x5 : Int32) (x6 : Int32) (x7 : Int32) (y1 : Int32) (y2 : Int32) (hwm : w → m) (s0 : St) (h0 : FrR w m S0 s0) : Ok (fun r => FrR w m S0 r) (df_X13_branch_67 n x1 x2 x5 x6 x7 y1 y2 s0) := by
  unfold df_X13_branch_67
  exact ok_n2 (fun q32 s33 => ok_b1S (ok_df_X13_half n ((((y1 ||| ((y2 : Int32) <<< ((13 : Int32) &&& 31))) ||| ((((x2 - 8) &&& 7) : Int32) <<< ((7 : Int32) &&& 31))) ||| q32)) hwm s0 h0) (fun s36 h1 => ok_df_X13_branch_91 n (x1) (x5) (x6) (x7) hwm s36 h1))
theorem ok_df_X13_branch_21 {w m : Prop} {S0 : St} (n : Nat) (x1 : Int32) (x2 : Int32) (x3 : Int32) (y1 : Int32) (y2 : Int32) (hwm : w → m) (s0 : St) (h0 : FrR w m S0 s0) : Ok (fun r => FrR w m S0 r) (df_X13_branch_21 n x1 x2 x3 y1 y2 s0) := by
  unfold df_X13_branch_21
  exact ok_b2S (ok_df_X13_target n (y1) (y2) s0 h0) (fun q3 s4 h1 => ok_b2S (ok_df_X13_level n  s4 h1) (fun q6 s7 h2 => ok_lv (fun z9 => ok_ite (fun hc => ok_ite (fun hc => ok_df_X13_branch_67 n (x1) (x2) (q3) (q6) (z9) (1) (6) hwm s7 h2) (fun _ => ok_df_X13_branch_67 n (x1) (x2) (q3) (q6) (z9) (1) (7) hwm s7 h2)) (fun _ => ok_df_X13_branch_91 n (x1) (q3) (q6) (z9) hwm s7 h2))))
theorem ok_df_X13_branch_11 {w m : Prop} {S0 : St} (n : Nat) (x1 : Int32) (x2 : Int32) (x3 : Int32) (x4 : Int32) (y1 : Int32) (hwm : w → m) (s0 : St) (h0 : FrR w m S0 s0) : Ok (fun r => FrR w m S0 r) (df_X13_branch_11 n x1 x2 x3 x4 y1 s0) := by
  unfold df_X13_branch_11
  exact ok_ite (fun hc => ok_df_X13_branch_21 n (x1) (x2) (x3) (y1) (1) hwm s0 h0) (fun _ => ok_df_X13_branch_21 n (x1) (x2) (x3) (y1) (0) hwm s0 h0)
theorem ok_df_X13_branch_0 {w m : Prop} {S0 : St} (n : Nat) (v0 : Int32) (v1 : Int32) (v2 : Int32) (v3 : Int32) (hwm : w → m) (s0 : St) (h0 : FrR w m S0 s0) : Ok (fun r => FrR w m S0 r) (df_X13_branch_0 n v0 v1 v2 v3 s0) := by
  unfold df_X13_branch_0
  exact ok_ite (fun hc => ok_df_X13_branch_11 n (v0) (v1) (v2) (v3) (3) hwm s0 h0) (fun _ => ok_df_X13_branch_11 n (v0) (v1) (v2) (v3) (2) hwm s0 h0)
theorem ok_df_X13_branch {w m : Prop} {S0 : St} (n : Nat) (v0 : Int32) (v1 : Int32) (v2 : Int32) (v3 : Int32) (hwm : w → m) (s0 : St) (h0 : FrR w m S0 s0) : Ok (fun r => FrR w m S0 r) (df_X13_branch n v0 v1 v2 v3 s0) := by
  unfold df_X13_branch
  exact ok_df_X13_branch_0 n v0 v1 v2 v3 hwm s0 h0
theorem ok_df_X13_comma_21 {w m : Prop} {S0 : St} (n : Nat) (y0 : Int32) (s0 : St) (h0 : FrR w m S0 s0) : Ok (fun r => FrR w m S0 r.2) (df_X13_comma_21 n y0 s0) := by
  unfold df_X13_comma_21
  exact ok_z (ok_some (h0))
theorem ok_df_X13_comma_20 {w m : Prop} {S0 : St} (n : Nat)  (s0 : St) (h0 : FrR w m S0 s0) : Ok (fun r => FrR w m S0 r.2) (df_X13_comma_20 n  s0) := by
  unfold df_X13_comma_20
  exact ok_df_X13_comma_21 n (0) s0 h0
theorem ok_df_X13_comma_0 {w m : Prop} {S0 : St} (n : Nat)  (s0 : St) (h0 : FrR w m S0 s0) : Ok (fun r => FrR w m S0 r.2) (df_X13_comma_0 n  s0) := by
  unfold df_X13_comma_0
  exact ok_ite (fun hc => ok_b2S (ok_df_X13_needs n (44) s0 h0) (fun q3 s4 h1 => ok_ite (fun hc => ok_df_X13_comma_20 n  s4 h1) (fun _ => ok_df_X13_comma_21 n (1) s4 h1))) (fun _ => ok_df_X13_comma_20 n  s0 h0)
theorem ok_df_X13_comma {w m : Prop} {S0 : St} (n : Nat)  (s0 : St) (h0 : FrR w m S0 s0) : Ok (fun r => FrR w m S0 r.2) (df_X13_comma n  s0) := by
  unfold df_X13_comma
  exact ok_df_X13_comma_0 n  s0 h0
theorem ok_df_X13_longs_384 {w m : Prop} {S0 : St} (n : Nat)  (s0 : St) (h0 : FrR w m S0 s0) : Ok (fun r => FrR w m S0 r) (df_X13_longs_384 n  s0) := by
  unfold df_X13_longs_384
  exact ok_some (h0)
theorem ok_df_X13_longs_171 {w m : Prop} {S0 : St} (n : Nat) (y1 : Int32) (hwm : w → m) (s0 : St) (h0 : FrR w m S0 s0) : Ok (fun r => FrR w m S0 r) (df_X13_longs_171 n y1 s0) := by
  unfold df_X13_longs_171
  exact ok_b1S (ok_df_X13_word n (y1) hwm s0 h0) (fun s17 h1 => ok_df_X13_longs_384 n  s17 h1)
theorem ok_df_X13_longs_109 {w m : Prop} {S0 : St} (n : Nat) (x1 : Int32) (x2 : Int32) (x3 : Int32) (x4 : Int32) (y0 : Int32) (hwm : w → m) (s0 : St) (h0 : FrR w m S0 s0) : Ok (fun r => FrR w m S0 r) (df_X13_longs_109 n x1 x2 x3 x4 y0 s0) := by
  unfold df_X13_longs_109
  exact ok_ite (fun hc => ok_n2 (fun q19 s20 => ok_n2 (fun q22 s23 => ok_df_X13_longs_171 n (((((x2 ||| q19) ||| q22) ||| ((y0 : Int32) <<< ((15 : Int32) &&& 31))) ||| ((x3 : Int32) <<< ((20 : Int32) &&& 31)))) hwm s0 h0))) (fun _ => ok_df_X13_longs_171 n ((((x2 ||| ((x3 : Int32) <<< ((7 : Int32) &&& 31))) ||| ((y0 : Int32) <<< ((15 : Int32) &&& 31))) ||| ((x4 : Int32) <<< ((20 : Int32) &&& 31)))) hwm s0 h0)
theorem ok_df_X13_longs_81 {w m : Prop} {S0 : St} (n : Nat) (x1 : Int32) (x2 : Int32) (x3 : Int32) (hwm : w → m) (s0 : St) (h0 : FrR w m S0 s0) : Ok (fun r => FrR w m S0 r) (df_X13_longs_81 n x1 x2 x3 s0) := by
  unfold df_X13_longs_81
  exact ok_b2S (ok_df_X13_within n ((-2048)) (2047) (1) s0 h0) (fun q11 s12 h1 => ok_ite (fun hc => ok_b2S (ok_df_X13_bracketed n  s12 h1) (fun q25 s26 h2 => ok_df_X13_longs_109 n (x1) (x2) (x3) (q11) (q25) hwm s26 h2)) (fun _ => ok_df_X13_longs_109 n (x1) (x2) (x3) (q11) (0) hwm s12 h1))
theorem ok_df_X13_longs_40 {w m : Prop} {S0 : St} (n : Nat) (x1 : Int32) (x2 : Int32) (x3 : Int32) (hwm : w → m) (s0 : St) (h0 : FrR w m S0 s0) : Ok (fun r => FrR w m S0 r) (df_X13_longs_40 n x1 x2 x3 s0) := by
  unfold df_X13_longs_40
  exact ok_ite (fun hc => ok_b1S (ok_df_X13_word n ((x2 ||| ((x3 : Int32) <<< ((7 : Int32) &&& 31)))) hwm s0 h0) (fun s79 h1 => ok_some (h1))) (fun _ => ok_b2S (ok_df_X13_comma n  s0 h0) (fun q6 s7 h2 => ok_ite (fun hc => ok_some (h2)) (fun _ => ok_ite (fun hc => ok_df_X13_longs_81 n (x1) (x2) (x3) hwm s7 h2) (fun _ => ok_ite (fun hc => ok_df_X13_longs_81 n (x1) (x2) (x3) hwm s7 h2) (fun _ => ok_ite (fun hc => ok_df_X13_longs_81 n (x1) (x2) (x3) hwm s7 h2) (fun _ => ok_ite (fun hc => ok_b2S (ok_df_X13_within n (0) (1048575) (1) s7 h2) (fun q72 s73 h3 => ok_b1S (ok_df_X13_word n (((x2 ||| ((x3 : Int32) <<< ((7 : Int32) &&& 31))) ||| ((q72 : Int32) <<< ((12 : Int32) &&& 31)))) hwm s73 h3) (fun s76 h4 => ok_df_X13_longs_384 n  s76 h4))) (fun _ => ok_ite (fun hc => ok_b2S (ok_df_X13_bracketed n  s7 h2) (fun q66 s67 h5 => ok_b1S (ok_df_X13_word n (((x2 ||| ((x3 : Int32) <<< ((7 : Int32) &&& 31))) ||| ((q66 : Int32) <<< ((15 : Int32) &&& 31)))) hwm s67 h5) (fun s70 h6 => ok_df_X13_longs_384 n  s70 h6))) (fun _ => ok_b2S (ok_df_X13_taken n  s7 h2) (fun q32 s33 h7 => ok_b2S (ok_df_X13_comma n  s33 h7) (fun q35 s36 h8 => ok_ite (fun hc => ok_some (h8)) (fun _ => ok_ite (fun hc => ok_b2S (ok_df_X13_taken n  s36 h8) (fun q60 s61 h9 => ok_b1S (ok_df_X13_word n ((((x2 ||| ((x3 : Int32) <<< ((7 : Int32) &&& 31))) ||| ((q32 : Int32) <<< ((15 : Int32) &&& 31))) ||| ((q60 : Int32) <<< ((20 : Int32) &&& 31)))) hwm s61 h9) (fun s64 h10 => ok_df_X13_longs_384 n  s64 h10))) (fun _ => ok_ite (fun hc => ok_b2S (ok_df_X13_within n ((-2048)) (2047) (1) s36 h8) (fun q54 s55 h11 => ok_b1S (ok_df_X13_word n ((((x2 ||| ((x3 : Int32) <<< ((7 : Int32) &&& 31))) ||| ((q32 : Int32) <<< ((15 : Int32) &&& 31))) ||| ((q54 : Int32) <<< ((20 : Int32) &&& 31)))) hwm s55 h11) (fun s58 h12 => ok_df_X13_longs_384 n  s58 h12))) (fun _ => ok_ite (fun hc => ok_b2S (ok_df_X13_within n (0) (31) (1) s36 h8) (fun q48 s49 h13 => ok_b1S (ok_df_X13_word n ((((x2 ||| ((x3 : Int32) <<< ((7 : Int32) &&& 31))) ||| ((q32 : Int32) <<< ((15 : Int32) &&& 31))) ||| (((q48 &&& 31) : Int32) <<< ((20 : Int32) &&& 31)))) hwm s49 h13) (fun s52 h14 => ok_df_X13_longs_384 n  s52 h14))) (fun _ => ok_b2S (ok_df_X13_bracketed n  s36 h8) (fun q42 s43 h15 => ok_b1S (ok_df_X13_word n ((((x2 ||| ((x3 : Int32) <<< ((7 : Int32) &&& 31))) ||| ((q32 : Int32) <<< ((20 : Int32) &&& 31))) ||| ((q42 : Int32) <<< ((15 : Int32) &&& 31)))) hwm s43 h15) (fun s46 h16 => ok_df_X13_longs_384 n  s46 h16))))))))))))))))
theorem ok_df_X13_longs_0 {w m : Prop} {S0 : St} (n : Nat) (v0 : Int32) (v1 : Int32) (hwm : w → m) (s0 : St) (h0 : FrR w m S0 s0) : Ok (fun r => FrR w m S0 r) (df_X13_longs_0 n v0 v1 s0) := by
  unfold df_X13_longs_0
  exact ok_b2S (ok_df_X13_taken n  s0 h0) (fun q1 s2 h1 => ok_ite (fun hc => ok_ite (fun hc => ok_b2S (ok_df_X13_isEnd n  s2 h1) (fun q82 s83 h2 => ok_ite (fun hc => ok_df_X13_longs_40 n (v0) (v1) (q1) hwm s83 h2) (fun _ => ok_b1S (ok_df_X13_word n (((v1 ||| 128) ||| ((q1 : Int32) <<< ((15 : Int32) &&& 31)))) hwm s83 h2) (fun s87 h3 => ok_some (h3))))) (fun _ => ok_df_X13_longs_40 n (v0) (v1) (q1) hwm s2 h1)) (fun _ => ok_df_X13_longs_40 n (v0) (v1) (q1) hwm s2 h1))
theorem ok_df_X13_longs {w m : Prop} {S0 : St} (n : Nat) (v0 : Int32) (v1 : Int32) (hwm : w → m) (s0 : St) (h0 : FrR w m S0 s0) : Ok (fun r => FrR w m S0 r) (df_X13_longs n v0 v1 s0) := by
  unfold df_X13_longs
  exact ok_df_X13_longs_0 n v0 v1 hwm s0 h0
theorem ok_df_X13_branches_105 {w m : Prop} {S0 : St} (n : Nat)  (s0 : St) (h0 : FrR w m S0 s0) : Ok (fun r => FrR w m S0 r) (df_X13_branches_105 n  s0) := by
  unfold df_X13_branches_105
  exact ok_some (h0)
theorem ok_df_X13_branches_83 {w m : Prop} {S0 : St} (n : Nat) (x2 : Int32) (x3 : Int32) (x4 : Int32) (x5 : Int32) (hwm : w → m) (s0 : St) (h0 : FrR w m S0 s0) : Ok (fun r => FrR w m S0 r) (df_X13_branches_83 n x2 x3 x4 x5 s0) := by
  unfold df_X13_branches_83
  exact ok_b1S (ok_df_X13_branch n (x2) (x3) (x4) (x5) hwm s0 h0) (fun s15 h1 => ok_df_X13_branches_105 n  s15 h1)
theorem ok_df_X13_branches_69 {w m : Prop} {S0 : St} (n : Nat) (x1 : Int32) (x2 : Int32) (x3 : Int32) (x4 : Int32) (y0 : Int32) (hwm : w → m) (s0 : St) (h0 : FrR w m S0 s0) : Ok (fun r => FrR w m S0 r) (df_X13_branches_69 n x1 x2 x3 x4 y0 s0) := by
  unfold df_X13_branches_69
  exact ok_ite (fun hc => ok_df_X13_branches_83 n (x2) (x3) (x4) (y0) hwm s0 h0) (fun _ => ok_ite (fun hc => ok_df_X13_branches_83 n (x2) (x3) (x4) (y0) hwm s0 h0) (fun _ => ok_b1S (ok_df_X13_branch n (x2) (x4) (x3) (0) hwm s0 h0) (fun s19 h1 => ok_df_X13_branches_105 n  s19 h1)))
theorem ok_df_X13_branches_68 {w m : Prop} {S0 : St} (n : Nat) (x1 : Int32) (x2 : Int32) (x3 : Int32) (x4 : Int32) (hwm : w → m) (s0 : St) (h0 : FrR w m S0 s0) : Ok (fun r => FrR w m S0 r) (df_X13_branches_68 n x1 x2 x3 x4 s0) := by
  unfold df_X13_branches_68
  exact ok_df_X13_branches_69 n (x1) (x2) (x3) (x4) (0) hwm s0 h0
theorem ok_df_X13_branches_25 {w m : Prop} {S0 : St} (n : Nat) (x1 : Int32) (x2 : Int32) (x3 : Int32) (y0 : Int32) (hwm : w → m) (s0 : St) (h0 : FrR w m S0 s0) : Ok (fun r => FrR w m S0 r) (df_X13_branches_25 n x1 x2 x3 y0 s0) := by
  unfold df_X13_branches_25
  exact ok_b2S (ok_df_X13_comma n  s0 h0) (fun q8 s9 h1 => ok_ite (fun hc => ok_some (h1)) (fun _ => ok_ite (fun hc => ok_ite (fun hc => ok_df_X13_branches_68 n (x1) (x2) (x3) (y0) hwm s9 h1) (fun _ => ok_ite (fun hc => ok_df_X13_branches_68 n (x1) (x2) (x3) (y0) hwm s9 h1) (fun _ => ok_ite (fun hc => ok_df_X13_branches_68 n (x1) (x2) (x3) (y0) hwm s9 h1) (fun _ => ok_df_X13_branches_69 n (x1) (x2) (x3) (y0) (1) hwm s9 h1)))) (fun _ => ok_df_X13_branches_68 n (x1) (x2) (x3) (y0) hwm s9 h1)))
theorem ok_df_X13_branches_17 {w m : Prop} {S0 : St} (n : Nat) (x1 : Int32) (x2 : Int32) (x3 : Int32) (hwm : w → m) (s0 : St) (h0 : FrR w m S0 s0) : Ok (fun r => FrR w m S0 r) (df_X13_branches_17 n x1 x2 x3 s0) := by
  unfold df_X13_branches_17
  exact ok_b2S (ok_df_X13_behind n  s0 h0) (fun q5 s6 h1 => ok_df_X13_branches_25 n (x1) (x2) (x3) (q5) hwm s6 h1)
theorem ok_df_X13_branches_0 {w m : Prop} {S0 : St} (n : Nat) (v0 : Int32) (v1 : Int32) (hwm : w → m) (s0 : St) (h0 : FrR w m S0 s0) : Ok (fun r => FrR w m S0 r) (df_X13_branches_0 n v0 v1 s0) := by
  unfold df_X13_branches_0
  exact ok_b2S (ok_df_X13_taken n  s0 h0) (fun q1 s2 h1 => ok_ite (fun hc => ok_df_X13_branches_17 n (v0) (v1) (q1) hwm s2 h1) (fun _ => ok_ite (fun hc => ok_df_X13_branches_17 n (v0) (v1) (q1) hwm s2 h1) (fun _ => ok_df_X13_branches_25 n (v0) (v1) (q1) (0) hwm s2 h1)))
theorem ok_df_X13_branches {w m : Prop} {S0 : St} (n : Nat) (v0 : Int32) (v1 : Int32) (hwm : w → m) (s0 : St) (h0 : FrR w m S0 s0) : Ok (fun r => FrR w m S0 r) (df_X13_branches n v0 v1 s0) := by
  unfold df_X13_branches
  exact ok_df_X13_branches_0 n v0 v1 hwm s0 h0
theorem ok_df_X13_jumps_67 {w m : Prop} {S0 : St} (n : Nat) (y1 : Int32) (hwm : w → m) (s0 : St) (h0 : FrR w m S0 s0) : Ok (fun r => FrR w m S0 r) (df_X13_jumps_67 n y1 s0) := by
  unfold df_X13_jumps_67
  exact ok_b1S (ok_df_X13_jump n (y1) hwm s0 h0) (fun s10 h1 => ok_some (h1))
theorem ok_df_X13_jumps_55 {w m : Prop} {S0 : St} (n : Nat) (x1 : Int32) (x2 : Int32) (hwm : w → m) (s0 : St) (h0 : FrR w m S0 s0) : Ok (fun r => FrR w m S0 r) (df_X13_jumps_55 n x1 x2 s0) := by
  unfold df_X13_jumps_55
  exact ok_ite (fun hc => ok_df_X13_jumps_67 n (x2) hwm s0 h0) (fun _ => ok_df_X13_jumps_67 n (1) hwm s0 h0)
theorem ok_df_X13_jumps_37 {w m : Prop} {S0 : St} (n : Nat) (x1 : Int32) (x2 : Int32) (x3 : Int32) (y0 : Int32) (hwm : w → m) (s0 : St) (h0 : FrR w m S0 s0) : Ok (fun r => FrR w m S0 r) (df_X13_jumps_37 n x1 x2 x3 y0 s0) := by
  unfold df_X13_jumps_37
  exact ok_lS ((fr_I (by decide) h0)) (fun s6 h1 => ok_ite (fun hc => ok_df_X13_jumps_55 n (x1) (x2) hwm s6 h1) (fun _ => ok_ite (fun hc => ok_df_X13_jumps_55 n (x1) (x2) hwm s6 h1) (fun _ => ok_b2S (ok_df_X13_taken n  s6 h1) (fun q13 s14 h2 => ok_b2S (ok_df_X13_comma n  s14 h2) (fun q16 s17 h3 => ok_ite (fun hc => ok_some (h3)) (fun _ => ok_b2S (ok_df_X13_expression n  s17 h3) (fun q20 s21 h4 => ok_lv (fun z23 => ok_b1S (ok_df_X13_fits n (z23) ((-1048576)) (1048574) (2) s21 h4) (fun s25 h5 => ok_n2 (fun q27 s28 => ok_b1S (ok_df_X13_word n (((x2 ||| ((q13 : Int32) <<< ((7 : Int32) &&& 31))) ||| q27)) hwm s25 h5) (fun s31 h6 => ok_some (h6))))))))))))
theorem ok_df_X13_jumps_36 {w m : Prop} {S0 : St} (n : Nat) (x1 : Int32) (x2 : Int32) (x3 : Int32) (hwm : w → m) (s0 : St) (h0 : FrR w m S0 s0) : Ok (fun r => FrR w m S0 r) (df_X13_jumps_36 n x1 x2 x3 s0) := by
  unfold df_X13_jumps_36
  exact ok_df_X13_jumps_37 n (x1) (x2) (x3) (0) hwm s0 h0
theorem ok_df_X13_jumps_0 {w m : Prop} {S0 : St} (n : Nat) (v0 : Int32) (v1 : Int32) (hwm : w → m) (s0 : St) (h0 : FrR w m S0 s0) : Ok (fun r => FrR w m S0 r) (df_X13_jumps_0 n v0 v1 s0) := by
  unfold df_X13_jumps_0
  exact ok_lv (fun z1 => ok_b1S (ok_df_X13_scan n  s0 h0) (fun s3 h1 => ok_ite (fun hc => ok_b2S (ok_df_X13_register n ((sI s3 9)) ((sI s3 10)) s3 h1) (fun q33 s34 h2 => ok_ite (fun hc => ok_df_X13_jumps_36 n (v0) (v1) (z1) hwm s34 h2) (fun _ => ok_df_X13_jumps_37 n (v0) (v1) (z1) (1) hwm s34 h2))) (fun _ => ok_df_X13_jumps_36 n (v0) (v1) (z1) hwm s3 h1)))
theorem ok_df_X13_jumps {w m : Prop} {S0 : St} (n : Nat) (v0 : Int32) (v1 : Int32) (hwm : w → m) (s0 : St) (h0 : FrR w m S0 s0) : Ok (fun r => FrR w m S0 r) (df_X13_jumps n v0 v1 s0) := by
  unfold df_X13_jumps
  exact ok_df_X13_jumps_0 n v0 v1 hwm s0 h0
theorem ok_df_X13_others_321 {w m : Prop} {S0 : St} (n : Nat)  (s0 : St) (h0 : FrR w m S0 s0) : Ok (fun r => FrR w m S0 r) (df_X13_others_321 n  s0) := by
  unfold df_X13_others_321
  exact ok_some (h0)
theorem ok_df_X13_others_304 {w m : Prop} {S0 : St} (n : Nat) (x3 : Int32) (x4 : Int32) (hwm : w → m) (s0 : St) (h0 : FrR w m S0 s0) : Ok (fun r => FrR w m S0 r) (df_X13_others_304 n x3 x4 s0) := by
  unfold df_X13_others_304
  exact ok_b1S (ok_df_X13_word n (((19 ||| ((x3 : Int32) <<< ((7 : Int32) &&& 31))) ||| ((x4 : Int32) <<< ((20 : Int32) &&& 31)))) hwm s0 h0) (fun s31 h1 => ok_df_X13_others_321 n  s31 h1)
theorem ok_df_X13_others_264 {w m : Prop} {S0 : St} (n : Nat) (x1 : Int32) (x3 : Int32) (x4 : Int32) (hwm : w → m) (s0 : St) (h0 : FrR w m S0 s0) : Ok (fun r => FrR w m S0 r) (df_X13_others_264 n x1 x3 x4 s0) := by
  unfold df_X13_others_264
  exact ok_ite (fun hc => ok_ite (fun hc => ok_df_X13_others_321 n  s0 h0) (fun _ => ok_ite (fun hc => ok_df_X13_others_321 n  s0 h0) (fun _ => ok_ite (fun hc => ok_df_X13_others_304 n (x3) (x4) hwm s0 h0) (fun _ => ok_ite (fun hc => ok_df_X13_others_304 n (x3) (x4) hwm s0 h0) (fun _ => ok_ite (fun hc => ok_df_X13_others_321 n  s0 h0) (fun _ => ok_df_X13_others_304 n (x3) (x4) hwm s0 h0)))))) (fun _ => ok_df_X13_others_321 n  s0 h0)
theorem ok_df_X13_others_242 {w m : Prop} {S0 : St} (n : Nat) (x1 : Int32) (x3 : Int32) (x4 : Int32) (x6 : Int32) (hwm : w → m) (s0 : St) (h0 : FrR w m S0 s0) : Ok (fun r => FrR w m S0 r) (df_X13_others_242 n x1 x3 x4 x6 s0) := by
  unfold df_X13_others_242
  exact ok_b1S (ok_df_X13_word n ((((19 ||| ((x3 : Int32) <<< ((7 : Int32) &&& 31))) ||| ((x3 : Int32) <<< ((15 : Int32) &&& 31))) ||| ((x6 : Int32) <<< ((20 : Int32) &&& 31)))) hwm s0 h0) (fun s24 h1 => ok_df_X13_others_264 n (x1) (x3) (x4) hwm s24 h1)
theorem ok_df_X13_others_237 {w m : Prop} {S0 : St} (n : Nat) (x1 : Int32) (x3 : Int32) (x4 : Int32) (x6 : Int32) (hwm : w → m) (s0 : St) (h0 : FrR w m S0 s0) : Ok (fun r => FrR w m S0 r) (df_X13_others_237 n x1 x3 x4 x6 s0) := by
  unfold df_X13_others_237
  exact ok_ite (fun hc => ok_df_X13_others_264 n (x1) (x3) (x4) hwm s0 h0) (fun _ => ok_df_X13_others_242 n (x1) (x3) (x4) (x6) hwm s0 h0)
theorem ok_df_X13_others_215 {w m : Prop} {S0 : St} (n : Nat) (x1 : Int32) (x3 : Int32) (x4 : Int32) (x6 : Int32) (hwm : w → m) (s0 : St) (h0 : FrR w m S0 s0) : Ok (fun r => FrR w m S0 r) (df_X13_others_215 n x1 x3 x4 x6 s0) := by
  unfold df_X13_others_215
  exact ok_ite (fun hc => ok_df_X13_others_242 n (x1) (x3) (x4) (x6) hwm s0 h0) (fun _ => ok_ite (fun hc => ok_df_X13_others_237 n (x1) (x3) (x4) (x6) hwm s0 h0) (fun _ => ok_ite (fun hc => ok_df_X13_others_264 n (x1) (x3) (x4) hwm s0 h0) (fun _ => ok_df_X13_others_237 n (x1) (x3) (x4) (x6) hwm s0 h0)))
theorem ok_df_X13_others_198 {w m : Prop} {S0 : St} (n : Nat) (x1 : Int32) (x3 : Int32) (x4 : Int32) (x5 : Int32) (x6 : Int32) (hwm : w → m) (s0 : St) (h0 : FrR w m S0 s0) : Ok (fun r => FrR w m S0 r) (df_X13_others_198 n x1 x3 x4 x5 x6 s0) := by
  unfold df_X13_others_198
  exact ok_b1S (ok_df_X13_word n (((55 ||| ((x3 : Int32) <<< ((7 : Int32) &&& 31))) ||| ((x5 : Int32) <<< ((12 : Int32) &&& 31)))) hwm s0 h0) (fun s20 h1 => ok_df_X13_others_215 n (x1) (x3) (x4) (x6) hwm s20 h1)
theorem ok_df_X13_others_182 {w m : Prop} {S0 : St} (n : Nat) (x1 : Int32) (x3 : Int32) (x4 : Int32) (x5 : Int32) (x6 : Int32) (hwm : w → m) (s0 : St) (h0 : FrR w m S0 s0) : Ok (fun r => FrR w m S0 r) (df_X13_others_182 n x1 x3 x4 x5 x6 s0) := by
  unfold df_X13_others_182
  exact ok_ite (fun hc => ok_df_X13_others_198 n (x1) (x3) (x4) (x5) (x6) hwm s0 h0) (fun _ => ok_ite (fun hc => ok_df_X13_others_215 n (x1) (x3) (x4) (x6) hwm s0 h0) (fun _ => ok_df_X13_others_198 n (x1) (x3) (x4) (x5) (x6) hwm s0 h0))
theorem ok_df_X13_others_94 {w m : Prop} {S0 : St} (n : Nat) (x1 : Int32) (x3 : Int32) (y0 : Int32) (hwm : w → m) (s0 : St) (h0 : FrR w m S0 s0) : Ok (fun r => FrR w m S0 r) (df_X13_others_94 n x1 x3 y0 s0) := by
  unfold df_X13_others_94
  exact ok_lv (fun z14 => ok_lv (fun z15 => ok_ite (fun hc => ok_b1S (ok_df_X13_word n (((23 ||| ((x3 : Int32) <<< ((7 : Int32) &&& 31))) ||| ((z14 : Int32) <<< ((12 : Int32) &&& 31)))) hwm s0 h0) (fun s48 h1 => ok_df_X13_others_215 n (x1) (x3) (y0) (z15) hwm s48 h1)) (fun _ => ok_ite (fun hc => ok_df_X13_others_182 n (x1) (x3) (y0) (z14) (z15) hwm s0 h0) (fun _ => ok_ite (fun hc => ok_df_X13_others_182 n (x1) (x3) (y0) (z14) (z15) hwm s0 h0) (fun _ => ok_ite (fun hc => ok_df_X13_others_182 n (x1) (x3) (y0) (z14) (z15) hwm s0 h0) (fun _ => ok_n2 (fun q41 s42 => ok_b1S (ok_df_X13_half n (((16385 ||| ((x3 : Int32) <<< ((7 : Int32) &&& 31))) ||| q41)) hwm s0 h0) (fun s45 h2 => ok_df_X13_others_215 n (x1) (x3) (y0) (z15) hwm s45 h2))))))))
theorem ok_df_X13_others_60 {w m : Prop} {S0 : St} (n : Nat) (y1 : Int32) (y2 : Int32) (y3 : Int32) (hwm : w → m) (s0 : St) (h0 : FrR w m S0 s0) : Ok (fun r => FrR w m S0 r) (df_X13_others_60 n y1 y2 y3 s0) := by
  unfold df_X13_others_60
  exact ok_b1S (ok_df_X13_word n ((y1 ||| ((y2 : Int32) <<< ((y3 : Int32) &&& 31)))) hwm s0 h0) (fun s58 h1 => ok_some (h1))
theorem ok_df_X13_others_0 {w m : Prop} {S0 : St} (n : Nat) (v0 : Int32) (v1 : Int32) (hwm : w → m) (s0 : St) (h0 : FrR w m S0 s0) : Ok (fun r => FrR w m S0 r) (df_X13_others_0 n v0 v1 s0) := by
  unfold df_X13_others_0
  exact ok_b2S (ok_df_X13_taken n  s0 h0) (fun q1 s2 h1 => ok_ite (fun hc => ok_b1S (ok_df_X13_word n ((v1 ||| ((q1 : Int32) <<< ((15 : Int32) &&& 31)))) hwm s2 h1) (fun s61 h2 => ok_some (h2))) (fun _ => ok_b2S (ok_df_X13_comma n  s2 h1) (fun q5 s6 h3 => ok_ite (fun hc => ok_some (h3)) (fun _ => ok_ite (fun hc => ok_ite (fun hc => ok_b2S (ok_df_X13_fixed n ((-2147483648)) (2147483647) s6 h3) (fun q50 s51 h4 => ok_df_X13_others_94 n (v0) (q1) (q50) hwm s51 h4)) (fun _ => ok_b2S (ok_df_X13_expression n  s6 h3) (fun q11 s12 h5 => ok_df_X13_others_94 n (v0) (q1) ((q11 - (sI s12 17))) hwm s12 h5))) (fun _ => ok_b2S (ok_df_X13_taken n  s6 h3) (fun q53 s54 h6 => ok_ite (fun hc => ok_df_X13_others_60 n ((v1 ||| ((q1 : Int32) <<< ((7 : Int32) &&& 31)))) (q53) (15) hwm s54 h6) (fun _ => ok_df_X13_others_60 n ((v1 ||| ((q1 : Int32) <<< ((7 : Int32) &&& 31)))) (q53) (20) hwm s54 h6)))))))
theorem ok_df_X13_others {w m : Prop} {S0 : St} (n : Nat) (v0 : Int32) (v1 : Int32) (hwm : w → m) (s0 : St) (h0 : FrR w m S0 s0) : Ok (fun r => FrR w m S0 r) (df_X13_others n v0 v1 s0) := by
  unfold df_X13_others
  exact ok_df_X13_others_0 n v0 v1 hwm s0 h0
theorem ok_df_X13_notZero_18 {w m : Prop} {S0 : St} (n : Nat)  (s0 : St) (h0 : FrR w m S0 s0) : Ok (fun r => FrR w m S0 r) (df_X13_notZero_18 n  s0) := by
  unfold df_X13_notZero_18
  exact ok_some (h0)
theorem ok_df_X13_notZero_0 {w m : Prop} {S0 : St} (n : Nat) (v0 : Int32) (s0 : St) (h0 : FrR w m S0 s0) : Ok (fun r => FrR w m S0 r) (df_X13_notZero_0 n v0 s0) := by
  unfold df_X13_notZero_0
  exact ok_ite (fun hc => ok_ite (fun hc => ok_b1S (ok_df_X13_blame n (10) s0 h0) (fun s4 h1 => ok_df_X13_notZero_18 n  s4 h1)) (fun _ => ok_df_X13_notZero_18 n  s0 h0)) (fun _ => ok_df_X13_notZero_18 n  s0 h0)
theorem ok_df_X13_notZero {w m : Prop} {S0 : St} (n : Nat) (v0 : Int32) (s0 : St) (h0 : FrR w m S0 s0) : Ok (fun r => FrR w m S0 r) (df_X13_notZero n v0 s0) := by
  unfold df_X13_notZero
  exact ok_df_X13_notZero_0 n v0 s0 h0
theorem ok_df_X13_plainSix_21 {w m : Prop} {S0 : St} (n : Nat) (x1 : Int32) (x2 : Int32) (x4 : Int32) (hwm : w → m) (s0 : St) (h0 : FrR w m S0 s0) : Ok (fun r => FrR w m S0 r) (df_X13_plainSix_21 n x1 x2 x4 s0) := by
  unfold df_X13_plainSix_21
  exact ok_n2 (fun q5 s6 => ok_b1S (ok_df_X13_half n (((x1 ||| ((x2 : Int32) <<< ((7 : Int32) &&& 31))) ||| q5)) hwm s0 h0) (fun s9 h1 => ok_some (h1)))
theorem ok_df_X13_plainSix_0 {w m : Prop} {S0 : St} (n : Nat) (v0 : Int32) (v1 : Int32) (v2 : Int32) (hwm : w → m) (s0 : St) (h0 : FrR w m S0 s0) : Ok (fun r => FrR w m S0 r) (df_X13_plainSix_0 n v0 v1 v2 s0) := by
  unfold df_X13_plainSix_0
  exact ok_b2S (ok_df_X13_within n ((-32)) (31) (1) s0 h0) (fun q1 s2 h1 => ok_ite (fun hc => ok_df_X13_plainSix_21 n (v0) (v1) (q1) hwm s2 h1) (fun _ => ok_b1S (ok_df_X13_notZero n (q1) s2 h1) (fun s12 h2 => ok_df_X13_plainSix_21 n (v0) (v1) (q1) hwm s12 h2)))
theorem ok_df_X13_plainSix {w m : Prop} {S0 : St} (n : Nat) (v0 : Int32) (v1 : Int32) (v2 : Int32) (hwm : w → m) (s0 : St) (h0 : FrR w m S0 s0) : Ok (fun r => FrR w m S0 r) (df_X13_plainSix n v0 v1 v2 s0) := by
  unfold df_X13_plainSix
  exact ok_df_X13_plainSix_0 n v0 v1 v2 hwm s0 h0
theorem ok_df_X13_stacked_84 {w m : Prop} {S0 : St} (n : Nat) (y1 : Int32) (hwm : w → m) (s0 : St) (h0 : FrR w m S0 s0) : Ok (fun r => FrR w m S0 r) (df_X13_stacked_84 n y1 s0) := by
  unfold df_X13_stacked_84
  exact ok_b1S (ok_df_X13_half n (y1) hwm s0 h0) (fun s12 h1 => ok_some (h1))
theorem ok_df_X13_stacked_0 {w m : Prop} {S0 : St} (n : Nat) (v0 : Int32) (v1 : Int32) (v2 : Int32) (hwm : w → m) (s0 : St) (h0 : FrR w m S0 s0) : Ok (fun r => FrR w m S0 r) (df_X13_stacked_0 n v0 v1 v2 s0) := by
  unfold df_X13_stacked_0
  exact ok_b2S (ok_df_X13_within n (0) (252) (4) s0 h0) (fun q1 s2 h1 => ok_ite (fun hc => ok_n2 (fun q14 s15 => ok_n2 (fun q17 s18 => ok_n2 (fun q20 s21 => ok_df_X13_stacked_84 n (((((v1 ||| ((v2 : Int32) <<< ((7 : Int32) &&& 31))) ||| q14) ||| q17) ||| q20)) hwm s2 h1)))) (fun _ => ok_n2 (fun q5 s6 => ok_n2 (fun q8 s9 => ok_df_X13_stacked_84 n ((((v1 ||| ((v2 : Int32) <<< ((2 : Int32) &&& 31))) ||| q5) ||| q8)) hwm s2 h1))))
theorem ok_df_X13_stacked {w m : Prop} {S0 : St} (n : Nat) (v0 : Int32) (v1 : Int32) (v2 : Int32) (hwm : w → m) (s0 : St) (h0 : FrR w m S0 s0) : Ok (fun r => FrR w m S0 r) (df_X13_stacked n v0 v1 v2 s0) := by
  unfold df_X13_stacked
  exact ok_df_X13_stacked_0 n v0 v1 v2 hwm s0 h0
theorem ok_df_X13_smalls_306 {w m : Prop} {S0 : St} (n : Nat)  (s0 : St) (h0 : FrR w m S0 s0) : Ok (fun r => FrR w m S0 r) (df_X13_smalls_306 n  s0) := by
  unfold df_X13_smalls_306
  exact ok_some (h0)
theorem ok_df_X13_smalls_126 {w m : Prop} {S0 : St} (n : Nat) (x2 : Int32) (x3 : Int32) (x4 : Int32) (x5 : Int32) (hwm : w → m) (s0 : St) (h0 : FrR w m S0 s0) : Ok (fun r => FrR w m S0 r) (df_X13_smalls_126 n x2 x3 x4 x5 s0) := by
  unfold df_X13_smalls_126
  exact ok_n2 (fun q45 s46 => ok_n2 (fun q48 s49 => ok_n2 (fun q51 s52 => ok_b1S (ok_df_X13_half n ((((((x2 ||| q45) ||| q48) ||| q51) ||| ((x5 : Int32) <<< ((7 : Int32) &&& 31))) ||| ((x3 : Int32) <<< ((2 : Int32) &&& 31)))) hwm s0 h0) (fun s55 h1 => ok_df_X13_smalls_306 n  s55 h1))))
theorem ok_df_X13_smalls_110 {w m : Prop} {S0 : St} (n : Nat) (x2 : Int32) (x3 : Int32) (x4 : Int32) (y0 : Int32) (hwm : w → m) (s0 : St) (h0 : FrR w m S0 s0) : Ok (fun r => FrR w m S0 r) (df_X13_smalls_110 n x2 x3 x4 y0 s0) := by
  unfold df_X13_smalls_110
  exact ok_ite (fun hc => ok_b2S (ok_df_X13_needs n (41) s0 h0) (fun q57 s58 h1 => ok_df_X13_smalls_126 n (x2) (x3) (x4) (y0) hwm s58 h1)) (fun _ => ok_df_X13_smalls_126 n (x2) (x3) (x4) (y0) hwm s0 h0)
theorem ok_df_X13_smalls_109 {w m : Prop} {S0 : St} (n : Nat) (x2 : Int32) (x3 : Int32) (x4 : Int32) (hwm : w → m) (s0 : St) (h0 : FrR w m S0 s0) : Ok (fun r => FrR w m S0 r) (df_X13_smalls_109 n x2 x3 x4 s0) := by
  unfold df_X13_smalls_109
  exact ok_df_X13_smalls_110 n (x2) (x3) (x4) (0) hwm s0 h0
theorem ok_df_X13_smalls_0 {w m : Prop} {S0 : St} (n : Nat) (v0 : Int32) (v1 : Int32) (v2 : Int32) (hwm : w → m) (s0 : St) (h0 : FrR w m S0 s0) : Ok (fun r => FrR w m S0 r) (df_X13_smalls_0 n v0 v1 v2 s0) := by
  unfold df_X13_smalls_0
  exact ok_ite (fun hc => ok_b2S (ok_df_X13_within n (4) (1020) (4) s0 h0) (fun q67 s68 h1 => ok_n2 (fun q70 s71 => ok_n2 (fun q73 s74 => ok_n2 (fun q76 s77 => ok_n2 (fun q79 s80 => ok_b1S (ok_df_X13_half n ((((((v1 ||| q70) ||| q73) ||| q76) ||| q79) ||| ((v2 : Int32) <<< ((2 : Int32) &&& 31)))) hwm s68 h1) (fun s83 h2 => ok_df_X13_smalls_306 n  s83 h2))))))) (fun _ => ok_ite (fun hc => ok_ite (fun hc => ok_b2S (ok_df_X13_within n (0) (31) (1) s0 h0) (fun q34 s35 h3 => ok_b1S (ok_df_X13_half n (((v1 ||| ((v2 : Int32) <<< ((7 : Int32) &&& 31))) ||| (((q34 &&& 31) : Int32) <<< ((2 : Int32) &&& 31)))) hwm s35 h3) (fun s38 h4 => ok_df_X13_smalls_306 n  s38 h4))) (fun _ => ok_ite (fun hc => ok_b2S (ok_df_X13_within n ((-32)) (31) (1) s0 h0) (fun q25 s26 h5 => ok_n2 (fun q28 s29 => ok_b1S (ok_df_X13_half n (((v1 ||| ((v2 : Int32) <<< ((7 : Int32) &&& 31))) ||| q28)) hwm s26 h5) (fun s32 h6 => ok_df_X13_smalls_306 n  s32 h6)))) (fun _ => ok_ite (fun hc => ok_b2S (ok_df_X13_near8 n  s0 h0) (fun q19 s20 h7 => ok_b1S (ok_df_X13_half n (((v1 ||| ((v2 : Int32) <<< ((7 : Int32) &&& 31))) ||| ((q19 : Int32) <<< ((2 : Int32) &&& 31)))) hwm s20 h7) (fun s23 h8 => ok_df_X13_smalls_306 n  s23 h8))) (fun _ => ok_b2S (ok_df_X13_expression n  s0 h0) (fun q6 s7 h9 => ok_lv (fun z9 => ok_b1S (ok_df_X13_fits n (z9) ((-256)) (254) (2) s7 h9) (fun s11 h10 => ok_n2 (fun q13 s14 => ok_b1S (ok_df_X13_half n (((v1 ||| ((v2 : Int32) <<< ((7 : Int32) &&& 31))) ||| q13)) hwm s11 h10) (fun s17 h11 => ok_df_X13_smalls_306 n  s17 h11))))))))) (fun _ => ok_b2S (ok_df_X13_within n (0) (124) (4) s0 h0) (fun q40 s41 h12 => ok_ite (fun hc => ok_b2S (ok_df_X13_needs n (40) s41 h12) (fun q60 s61 h13 => ok_ite (fun hc => ok_df_X13_smalls_109 n (v1) (v2) (q40) hwm s61 h13) (fun _ => ok_b2S (ok_df_X13_near8 n  s61 h13) (fun q64 s65 h14 => ok_df_X13_smalls_110 n (v1) (v2) (q40) (q64) hwm s65 h14)))) (fun _ => ok_df_X13_smalls_109 n (v1) (v2) (q40) hwm s41 h12))))
theorem ok_df_X13_smalls {w m : Prop} {S0 : St} (n : Nat) (v0 : Int32) (v1 : Int32) (v2 : Int32) (hwm : w → m) (s0 : St) (h0 : FrR w m S0 s0) : Ok (fun r => FrR w m S0 r) (df_X13_smalls n v0 v1 v2 s0) := by
  unfold df_X13_smalls
  exact ok_df_X13_smalls_0 n v0 v1 v2 hwm s0 h0
theorem ok_df_X13_shorts_341 {w m : Prop} {S0 : St} (n : Nat)  (s0 : St) (h0 : FrR w m S0 s0) : Ok (fun r => FrR w m S0 r) (df_X13_shorts_341 n  s0) := by
  unfold df_X13_shorts_341
  exact ok_some (h0)
theorem ok_df_X13_shorts_287 {w m : Prop} {S0 : St} (n : Nat) (x2 : Int32) (x4 : Int32) (x5 : Int32) (hwm : w → m) (s0 : St) (h0 : FrR w m S0 s0) : Ok (fun r => FrR w m S0 r) (df_X13_shorts_287 n x2 x4 x5 s0) := by
  unfold df_X13_shorts_287
  exact ok_b1S (ok_df_X13_plainSix n (x2) (x4) (x5) hwm s0 h0) (fun s20 h1 => ok_df_X13_shorts_341 n  s20 h1)
theorem ok_df_X13_shorts_221 {w m : Prop} {S0 : St} (n : Nat) (x1 : Int32) (x2 : Int32) (x3 : Int32) (x4 : Int32) (x5 : Int32) (hwm : w → m) (s0 : St) (h0 : FrR w m S0 s0) : Ok (fun r => FrR w m S0 r) (df_X13_shorts_221 n x1 x2 x3 x4 x5 s0) := by
  unfold df_X13_shorts_221
  exact ok_b2S (ok_df_X13_comma n  s0 h0) (fun q12 s13 h1 => ok_ite (fun hc => ok_some (h1)) (fun _ => ok_ite (fun hc => ok_ite (fun hc => ok_b2S (ok_df_X13_taken n  s13 h1) (fun q33 s34 h2 => ok_b2S (ok_df_X13_not n (q33) (0) s34 h2) (fun q36 s37 h3 => ok_b1S (ok_df_X13_half n (((x2 ||| ((x4 : Int32) <<< ((7 : Int32) &&& 31))) ||| ((q36 : Int32) <<< ((2 : Int32) &&& 31)))) hwm s37 h3) (fun s40 h4 => ok_df_X13_shorts_341 n  s40 h4)))) (fun _ => ok_ite (fun hc => ok_df_X13_shorts_287 n (x2) (x4) (x5) hwm s13 h1) (fun _ => ok_ite (fun hc => ok_ite (fun hc => ok_b2S (ok_df_X13_within n (0) (31) (1) s13 h1) (fun q27 s28 h5 => ok_b1S (ok_df_X13_half n (((x2 ||| ((x4 : Int32) <<< ((7 : Int32) &&& 31))) ||| (((q27 &&& 31) : Int32) <<< ((2 : Int32) &&& 31)))) hwm s28 h5) (fun s31 h6 => ok_df_X13_shorts_341 n  s31 h6))) (fun _ => ok_b1S (ok_df_X13_stacked n (x1) (x2) (x4) hwm s13 h1) (fun s25 h7 => ok_df_X13_shorts_341 n  s25 h7))) (fun _ => ok_df_X13_shorts_287 n (x2) (x4) (x5) hwm s13 h1)))) (fun _ => ok_b1S (ok_df_X13_smalls n (x1) (x2) (x4) hwm s13 h1) (fun s43 h8 => ok_df_X13_shorts_341 n  s43 h8))))
theorem ok_df_X13_shorts_206 {w m : Prop} {S0 : St} (n : Nat) (x1 : Int32) (x2 : Int32) (x3 : Int32) (x4 : Int32) (y0 : Int32) (hwm : w → m) (s0 : St) (h0 : FrR w m S0 s0) : Ok (fun r => FrR w m S0 r) (df_X13_shorts_206 n x1 x2 x3 x4 y0 s0) := by
  unfold df_X13_shorts_206
  exact ok_ite (fun hc => ok_df_X13_shorts_221 n (x1) (x2) (x3) (x4) (y0) hwm s0 h0) (fun _ => ok_b2S (ok_df_X13_not n (x4) (2) s0 h0) (fun q45 s46 h1 => ok_df_X13_shorts_221 n (x1) (x2) (x3) (x4) (y0) hwm s46 h1))
theorem ok_df_X13_shorts_195 {w m : Prop} {S0 : St} (n : Nat) (x1 : Int32) (x2 : Int32) (x3 : Int32) (x4 : Int32) (hwm : w → m) (s0 : St) (h0 : FrR w m S0 s0) : Ok (fun r => FrR w m S0 r) (df_X13_shorts_195 n x1 x2 x3 x4 s0) := by
  unfold df_X13_shorts_195
  exact ok_ite (fun hc => ok_df_X13_shorts_206 n (x1) (x2) (x3) (x4) (1) hwm s0 h0) (fun _ => ok_df_X13_shorts_206 n (x1) (x2) (x3) (x4) (0) hwm s0 h0)
theorem ok_df_X13_shorts_156 {w m : Prop} {S0 : St} (n : Nat) (x1 : Int32) (x2 : Int32) (x3 : Int32) (y0 : Int32) (hwm : w → m) (s0 : St) (h0 : FrR w m S0 s0) : Ok (fun r => FrR w m S0 r) (df_X13_shorts_156 n x1 x2 x3 y0 s0) := by
  unfold df_X13_shorts_156
  exact ok_ite (fun hc => ok_b2S (ok_df_X13_not n (y0) (0) s0 h0) (fun q51 s52 h1 => ok_b1S (ok_df_X13_half n ((x2 ||| ((q51 : Int32) <<< ((7 : Int32) &&& 31)))) hwm s52 h1) (fun s55 h2 => ok_some (h2)))) (fun _ => ok_ite (fun hc => ok_b2S (ok_df_X13_not n (y0) (0) s0 h0) (fun q48 s49 h3 => ok_df_X13_shorts_195 n (x1) (x2) (x3) (y0) hwm s49 h3)) (fun _ => ok_df_X13_shorts_195 n (x1) (x2) (x3) (y0) hwm s0 h0))
theorem ok_df_X13_shorts_140 {w m : Prop} {S0 : St} (n : Nat) (x1 : Int32) (x2 : Int32) (y0 : Int32) (hwm : w → m) (s0 : St) (h0 : FrR w m S0 s0) : Ok (fun r => FrR w m S0 r) (df_X13_shorts_140 n x1 x2 y0 s0) := by
  unfold df_X13_shorts_140
  exact ok_ite (fun hc => ok_b2S (ok_df_X13_taken n  s0 h0) (fun q5 s6 h1 => ok_df_X13_shorts_156 n (x1) (x2) (y0) (q5) hwm s6 h1)) (fun _ => ok_b2S (ok_df_X13_near8 n  s0 h0) (fun q57 s58 h2 => ok_df_X13_shorts_156 n (x1) (x2) (y0) (q57) hwm s58 h2))
theorem ok_df_X13_shorts_135 {w m : Prop} {S0 : St} (n : Nat) (x1 : Int32) (x2 : Int32) (hwm : w → m) (s0 : St) (h0 : FrR w m S0 s0) : Ok (fun r => FrR w m S0 r) (df_X13_shorts_135 n x1 x2 s0) := by
  unfold df_X13_shorts_135
  exact ok_df_X13_shorts_140 n (x1) (x2) (1) hwm s0 h0
theorem ok_df_X13_shorts_139 {w m : Prop} {S0 : St} (n : Nat) (x1 : Int32) (x2 : Int32) (hwm : w → m) (s0 : St) (h0 : FrR w m S0 s0) : Ok (fun r => FrR w m S0 r) (df_X13_shorts_139 n x1 x2 s0) := by
  unfold df_X13_shorts_139
  exact ok_df_X13_shorts_140 n (x1) (x2) (0) hwm s0 h0
theorem ok_df_X13_shorts_0 {w m : Prop} {S0 : St} (n : Nat) (v0 : Int32) (v1 : Int32) (hwm : w → m) (s0 : St) (h0 : FrR w m S0 s0) : Ok (fun r => FrR w m S0 r) (df_X13_shorts_0 n v0 v1 s0) := by
  unfold df_X13_shorts_0
  exact ok_ite (fun hc => ok_b2S (ok_df_X13_expression n  s0 h0) (fun q86 s87 h1 => ok_lv (fun z89 => ok_b1S (ok_df_X13_fits n (z89) ((-2048)) (2046) (2) s87 h1) (fun s91 h2 => ok_n2 (fun q93 s94 => ok_b1S (ok_df_X13_half n ((v1 ||| q93)) hwm s91 h2) (fun s97 h3 => ok_some (h3))))))) (fun _ => ok_ite (fun hc => ok_b2S (ok_df_X13_within n ((-512)) (496) (16) s0 h0) (fun q62 s63 h4 => ok_b1S (ok_df_X13_notZero n (q62) s63 h4) (fun s66 h5 => ok_n2 (fun q68 s69 => ok_n2 (fun q71 s72 => ok_n2 (fun q74 s75 => ok_n2 (fun q77 s78 => ok_n2 (fun q80 s81 => ok_b1S (ok_df_X13_half n ((((((v1 ||| q68) ||| q71) ||| q74) ||| q77) ||| q80)) hwm s66 h5) (fun s84 h6 => ok_some (h6)))))))))) (fun _ => ok_ite (fun hc => ok_df_X13_shorts_135 n (v0) (v1) hwm s0 h0) (fun _ => ok_ite (fun hc => ok_df_X13_shorts_139 n (v0) (v1) hwm s0 h0) (fun _ => ok_ite (fun hc => ok_df_X13_shorts_139 n (v0) (v1) hwm s0 h0) (fun _ => ok_df_X13_shorts_135 n (v0) (v1) hwm s0 h0)))))
theorem ok_df_X13_shorts {w m : Prop} {S0 : St} (n : Nat) (v0 : Int32) (v1 : Int32) (hwm : w → m) (s0 : St) (h0 : FrR w m S0 s0) : Ok (fun r => FrR w m S0 r) (df_X13_shorts n v0 v1 s0) := by
  unfold df_X13_shorts
  exact ok_df_X13_shorts_0 n v0 v1 hwm s0 h0
theorem ok_df_X13_constant_90 {w m : Prop} {S0 : St} (n : Nat)  (s0 : St) (h0 : FrR w m S0 s0) : Ok (fun r => FrR w m S0 r) (df_X13_constant_90 n  s0) := by
  unfold df_X13_constant_90
  exact ok_some (h0)
theorem ok_df_X13_constant_49 {w m : Prop} {S0 : St} (n : Nat) (x1 : Int32) (x2 : Int32) (s0 : St) (h0 : FrR w m S0 s0) : Ok (fun r => FrR w m S0 r) (df_X13_constant_49 n x1 x2 s0) := by
  unfold df_X13_constant_49
  exact ok_b2S (ok_df_X13_comma n  s0 h0) (fun q8 s9 h1 => ok_ite (fun hc => ok_some (h1)) (fun _ => ok_b2S (ok_df_X13_fixed n ((-2147483648)) (2147483647) s9 h1) (fun q12 s13 h2 => ok_ite (fun hc => ok_ite (fun hc => ok_b1S (ok_df_X13_define n (x1) (x2) (2) (q12) s13 h2) (fun s18 h3 => ok_df_X13_constant_90 n  s18 h3)) (fun _ => ok_df_X13_constant_90 n  s13 h2)) (fun _ => ok_df_X13_constant_90 n  s13 h2))))
theorem ok_df_X13_constant_44 {w m : Prop} {S0 : St} (n : Nat) (x1 : Int32) (x2 : Int32) (s0 : St) (h0 : FrR w m S0 s0) : Ok (fun r => FrR w m S0 r) (df_X13_constant_44 n x1 x2 s0) := by
  unfold df_X13_constant_44
  exact ok_b1S (ok_df_X13_blame n (4) s0 h0) (fun s25 h1 => ok_df_X13_constant_49 n (x1) (x2) s25 h1)
theorem ok_df_X13_constant_0 {w m : Prop} {S0 : St} (n : Nat)  (s0 : St) (h0 : FrR w m S0 s0) : Ok (fun r => FrR w m S0 r) (df_X13_constant_0 n  s0) := by
  unfold df_X13_constant_0
  exact ok_b2S (ok_df_X13_needs n (1) s0 h0) (fun q1 s2 h1 => ok_ite (fun hc => ok_some (h1)) (fun _ => ok_lv (fun z5 => ok_lv (fun z6 => ok_ite (fun hc => ok_b2S (ok_df_X13_register n (z5) (z6) s2 h1) (fun q20 s21 h2 => ok_ite (fun hc => ok_df_X13_constant_44 n (z5) (z6) s21 h2) (fun _ => ok_b2S (ok_df_X13_find n (z5) (z6) s21 h2) (fun q27 s28 h3 => ok_ite (fun hc => ok_df_X13_constant_49 n (z5) (z6) s28 h3) (fun _ => ok_df_X13_constant_44 n (z5) (z6) s28 h3))))) (fun _ => ok_df_X13_constant_49 n (z5) (z6) s2 h1)))))
theorem ok_df_X13_constant {w m : Prop} {S0 : St} (n : Nat)  (s0 : St) (h0 : FrR w m S0 s0) : Ok (fun r => FrR w m S0 r) (df_X13_constant n  s0) := by
  unfold df_X13_constant
  exact ok_df_X13_constant_0 n  s0 h0
theorem ok_df_X13_quoted_61 {w m : Prop} {S0 : St} (n : Nat)  (s0 : St) (h0 : FrR w m S0 s0) : Ok (fun r => FrR w m S0 r) (df_X13_quoted_61 n  s0) := by
  unfold df_X13_quoted_61
  exact ok_some (h0)
theorem ok_dF_X13_quoted_21 {w m : Prop} {S0 : St} (n : Nat) (g21 : Int32 → Int32 → Int32 → (St) → Option (St)) (x1 : Int32) (x2 : Int32) (x3 : Int32) (hg21 : ∀ (y0 : Int32) (y1 : Int32) (y2 : Int32) (s : (St)), FrR w m S0 s → Ok (fun r => FrR w m S0 r) (g21 y0 y1 y2 s)) (hwm : w → m) (s0 : St) (h0 : FrR w m S0 s0) : Ok (fun r => FrR w m S0 r) (dF_X13_quoted_21 n g21 x1 x2 x3 s0) := by
  unfold dF_X13_quoted_21
  exact ok_ite (fun hc => ok_lS ((fr_I (by decide) h0)) (fun s8 h1 => ok_ite (fun hc => ok_df_X13_quoted_61 n  s8 h1) (fun _ => ok_b1S (ok_df_X13_put n (0) hwm s8 h1) (fun s11 h2 => ok_df_X13_quoted_61 n  s11 h2)))) (fun _ => ok_b2S (ok_df_X13_shown n (x3) (34) s0 h0) (fun q13 s14 h3 => ok_b1S (ok_df_X13_put n (q13) hwm s14 h3) (fun s17 h4 => ok_lv (fun z19 => hg21 (x1) (x2) (z19) s17 h4))))
theorem ok_df_X13_quoted_21 {w m : Prop} {S0 : St} (n : Nat)  (hwm : w → m) : ∀ (kk : Nat) (y0 : Int32) (y1 : Int32) (y2 : Int32) (s : (St)), FrR w m S0 s → Ok (fun r => FrR w m S0 r) (df_X13_quoted_21 n  kk y0 y1 y2 s) := fun kk => by
  induction kk with
  | zero => intros; exact ok_none
  | succ kk ih =>
    intro y0 y1 y2 s hs
    exact ok_dF_X13_quoted_21 n  (df_X13_quoted_21 n  kk) y0 y1 y2  ih hwm s hs
theorem ok_df_X13_quoted_0 {w m : Prop} {S0 : St} (n : Nat) (v0 : Int32) (hwm : w → m) (s0 : St) (h0 : FrR w m S0 s0) : Ok (fun r => FrR w m S0 r) (df_X13_quoted_0 n v0 s0) := by
  unfold df_X13_quoted_0
  exact ok_b2S (ok_df_X13_needs n (4) s0 h0) (fun q1 s2 h1 => ok_ite (fun hc => ok_some (h1)) (fun _ => ok_lv (fun z5 => ok_lv (fun z6 => ok_df_X13_quoted_21 n  hwm n (v0) (z5) (z6) s2 h1))))
theorem ok_df_X13_quoted {w m : Prop} {S0 : St} (n : Nat) (v0 : Int32) (hwm : w → m) (s0 : St) (h0 : FrR w m S0 s0) : Ok (fun r => FrR w m S0 r) (df_X13_quoted n v0 s0) := by
  unfold df_X13_quoted
  exact ok_df_X13_quoted_0 n v0 hwm s0 h0
theorem ok_df_X13_directive_185 {w m : Prop} {S0 : St} (n : Nat)  (s0 : St) (h0 : FrR w m S0 s0) : Ok (fun r => FrR w m S0 r) (df_X13_directive_185 n  s0) := by
  unfold df_X13_directive_185
  exact ok_some (h0)
theorem ok_df_X13_directive_181 {w m : Prop} {S0 : St} (n : Nat) (g87 : Int32 → Int32 → Int32 → (St) → Option (St)) (x1 : Int32) (x2 : Int32) (y0 : Int32) (hg87 : ∀ (y0 : Int32) (y1 : Int32) (y2 : Int32) (s : (St)), FrR w m S0 s → Ok (fun r => FrR w m S0 r) (g87 y0 y1 y2 s)) (s0 : St) (h0 : FrR w m S0 s0) : Ok (fun r => FrR w m S0 r) (df_X13_directive_181 n g87 x1 x2 y0 s0) := by
  unfold df_X13_directive_181
  exact hg87 (x1) (x2) (y0) s0 h0
theorem ok_df_X13_directive_180 {w m : Prop} {S0 : St} (n : Nat) (g87 : Int32 → Int32 → Int32 → (St) → Option (St)) (x1 : Int32) (x2 : Int32) (hg87 : ∀ (y0 : Int32) (y1 : Int32) (y2 : Int32) (s : (St)), FrR w m S0 s → Ok (fun r => FrR w m S0 r) (g87 y0 y1 y2 s)) (s0 : St) (h0 : FrR w m S0 s0) : Ok (fun r => FrR w m S0 r) (df_X13_directive_180 n g87 x1 x2 s0) := by
  unfold df_X13_directive_180
  exact ok_df_X13_directive_181 n g87 (x1) (x2) (0) hg87 s0 h0
theorem ok_df_X13_directive_153 {w m : Prop} {S0 : St} (n : Nat) (g87 : Int32 → Int32 → Int32 → (St) → Option (St)) (x1 : Int32) (x2 : Int32) (hg87 : ∀ (y0 : Int32) (y1 : Int32) (y2 : Int32) (s : (St)), FrR w m S0 s → Ok (fun r => FrR w m S0 r) (g87 y0 y1 y2 s)) (s0 : St) (h0 : FrR w m S0 s0) : Ok (fun r => FrR w m S0 r) (df_X13_directive_153 n g87 x1 x2 s0) := by
  unfold df_X13_directive_153
  exact ok_ite (fun hc => ok_b2S (ok_df_X13_isEnd n  s0 h0) (fun q13 s14 h1 => ok_ite (fun hc => ok_b2S (ok_df_X13_needs n (44) s14 h1) (fun q17 s18 h2 => ok_ite (fun hc => ok_df_X13_directive_180 n g87 (x1) (x2) hg87 s18 h2) (fun _ => ok_df_X13_directive_181 n g87 (x1) (x2) (1) hg87 s18 h2))) (fun _ => ok_df_X13_directive_180 n g87 (x1) (x2) hg87 s14 h1))) (fun _ => ok_df_X13_directive_180 n g87 (x1) (x2) hg87 s0 h0)
theorem ok_dF_X13_directive_129 {w m : Prop} {S0 : St} (n : Nat) (g87 : Int32 → Int32 → Int32 → (St) → Option (St)) (g129 : Int32 → Int32 → Int32 → Int32 → (St) → Option (St)) (x1 : Int32) (x2 : Int32) (x4 : Int32) (x5 : Int32) (hg87 : ∀ (y0 : Int32) (y1 : Int32) (y2 : Int32) (s : (St)), FrR w m S0 s → Ok (fun r => FrR w m S0 r) (g87 y0 y1 y2 s)) (hg129 : ∀ (y0 : Int32) (y1 : Int32) (y2 : Int32) (y3 : Int32) (s : (St)), FrR w m S0 s → Ok (fun r => FrR w m S0 r) (g129 y0 y1 y2 y3 s)) (hwm : w → m) (s0 : St) (h0 : FrR w m S0 s0) : Ok (fun r => FrR w m S0 r) (dF_X13_directive_129 n g87 g129 x1 x2 x4 x5 s0) := by
  unfold dF_X13_directive_129
  exact ok_ite (fun hc => ok_df_X13_directive_153 n g87 (x1) (x2) hg87 s0 h0) (fun _ => ok_b1S (ok_df_X13_put n (((x4 : Int32) >>> (((8 * x5) : Int32) &&& 31))) hwm s0 h0) (fun s22 h1 => ok_lv (fun z24 => hg129 (x1) (x2) (x4) (z24) s22 h1)))
theorem ok_df_X13_directive_129 {w m : Prop} {S0 : St} (n : Nat) (g87 : Int32 → Int32 → Int32 → (St) → Option (St)) (hg87 : ∀ (y0 : Int32) (y1 : Int32) (y2 : Int32) (s : (St)), FrR w m S0 s → Ok (fun r => FrR w m S0 r) (g87 y0 y1 y2 s)) (hwm : w → m) : ∀ (kk : Nat) (y0 : Int32) (y1 : Int32) (y2 : Int32) (y3 : Int32) (s : (St)), FrR w m S0 s → Ok (fun r => FrR w m S0 r) (df_X13_directive_129 n g87 kk y0 y1 y2 y3 s) := fun kk => by
  induction kk with
  | zero => intros; exact ok_none
  | succ kk ih =>
    intro y0 y1 y2 y3 s hs
    exact ok_dF_X13_directive_129 n g87 (df_X13_directive_129 n g87 kk) y0 y1 y2 y3 hg87 ih hwm s hs
theorem ok_df_X13_directive_114 {w m : Prop} {S0 : St} (n : Nat) (g87 : Int32 → Int32 → Int32 → (St) → Option (St)) (x1 : Int32) (x2 : Int32) (y1 : Int32) (hg87 : ∀ (y0 : Int32) (y1 : Int32) (y2 : Int32) (s : (St)), FrR w m S0 s → Ok (fun r => FrR w m S0 r) (g87 y0 y1 y2 s)) (hwm : w → m) (s0 : St) (h0 : FrR w m S0 s0) : Ok (fun r => FrR w m S0 r) (df_X13_directive_114 n g87 x1 x2 y1 s0) := by
  unfold df_X13_directive_114
  exact ok_b1S (ok_df_X13_quoted n (y1) hwm s0 h0) (fun s27 h1 => ok_df_X13_directive_153 n g87 (x1) (x2) hg87 s27 h1)
theorem ok_dF_X13_directive_87 {w m : Prop} {S0 : St} (n : Nat) (g87 : Int32 → Int32 → Int32 → (St) → Option (St)) (x1 : Int32) (x2 : Int32) (x3 : Int32) (hg87 : ∀ (y0 : Int32) (y1 : Int32) (y2 : Int32) (s : (St)), FrR w m S0 s → Ok (fun r => FrR w m S0 r) (g87 y0 y1 y2 s)) (hwm : w → m) (s0 : St) (h0 : FrR w m S0 s0) : Ok (fun r => FrR w m S0 r) (dF_X13_directive_87 n g87 x1 x2 x3 s0) := by
  unfold dF_X13_directive_87
  exact ok_ite (fun hc => ok_df_X13_directive_185 n  s0 h0) (fun _ => ok_ite (fun hc => ok_ite (fun hc => ok_ite (fun hc => ok_df_X13_directive_114 n g87 (x1) (x2) (1) hg87 hwm s0 h0) (fun _ => ok_df_X13_directive_114 n g87 (x1) (x2) (0) hg87 hwm s0 h0)) (fun _ => ok_b2S (ok_df_X13_expression n  s0 h0) (fun q8 s9 h1 => ok_df_X13_directive_129 n g87 hg87 hwm n (x1) (x2) (q8) (0) s9 h1))) (fun _ => ok_df_X13_directive_185 n  s0 h0))
theorem ok_df_X13_directive_87 {w m : Prop} {S0 : St} (n : Nat)  (hwm : w → m) : ∀ (kk : Nat) (y0 : Int32) (y1 : Int32) (y2 : Int32) (s : (St)), FrR w m S0 s → Ok (fun r => FrR w m S0 r) (df_X13_directive_87 n  kk y0 y1 y2 s) := fun kk => by
  induction kk with
  | zero => intros; exact ok_none
  | succ kk ih =>
    intro y0 y1 y2 s hs
    exact ok_dF_X13_directive_87 n  (df_X13_directive_87 n  kk) y0 y1 y2  ih hwm s hs
theorem ok_df_X13_directive_0 {w m : Prop} {S0 : St} (n : Nat) (v0 : Int32) (v1 : Int32) (hwm : w → m) (s0 : St) (h0 : FrR w m S0 s0) : Ok (fun r => FrR w m S0 r) (df_X13_directive_0 n v0 v1 s0) := by
  unfold df_X13_directive_0
  exact ok_ite (fun hc => ok_ite (fun hc => ok_b1S (ok_df_X13_constant n  s0 h0) (fun s39 h1 => ok_df_X13_directive_185 n  s39 h1)) (fun _ => ok_ite (fun hc => ok_b2S (ok_df_X13_fixed n (0) (32768) s0 h0) (fun q34 s35 h2 => ok_lS ((fr_I (by decide) h2)) (fun s37 h3 => ok_df_X13_directive_185 n  s37 h3))) (fun _ => ok_ite (fun hc => ok_b2S (ok_df_X13_fixed n (0) (10) s0 h0) (fun q29 s30 h4 => ok_ck (ok_lS ((fr_R (by decide) h4)) (fun s33 h5 => ok_df_X13_directive_185 n  s33 h5)))) (fun _ => ok_df_X13_directive_87 n  hwm n (v0) (v1) (1) s0 h0)))) (fun _ => ok_lS ((fr_I (by decide) h0)) (fun s41 h6 => ok_df_X13_directive_185 n  s41 h6))
theorem ok_df_X13_directive {w m : Prop} {S0 : St} (n : Nat) (v0 : Int32) (v1 : Int32) (hwm : w → m) (s0 : St) (h0 : FrR w m S0 s0) : Ok (fun r => FrR w m S0 r) (df_X13_directive n v0 v1 s0) := by
  unfold df_X13_directive
  exact ok_df_X13_directive_0 n v0 v1 hwm s0 h0
theorem ok_dF_X13_named_10 {w m : Prop} {S0 : St} (n : Nat) (g10 : Int64 → Int32 → (St) → Option (Int32 × (St))) (x3 : Int64) (x5 : Int32) (hg10 : ∀ (y0 : Int64) (y1 : Int32) (s : (St)), FrR w m S0 s → Ok (fun r => FrR w m S0 r.2) (g10 y0 y1 s)) (s0 : St) (h0 : FrR w m S0 s0) : Ok (fun r => FrR w m S0 r.2) (dF_X13_named_10 n g10 x3 x5 s0) := by
  unfold dF_X13_named_10
  exact ok_ite (fun hc => ok_some (h0)) (fun _ => ok_ck (ok_ite (fun hc => ok_some (h0)) (fun _ => ok_lv (fun z7 => hg10 (x3) (z7) s0 h0))))
theorem ok_df_X13_named_10 {w m : Prop} {S0 : St} (n : Nat)  : ∀ (kk : Nat) (y0 : Int64) (y1 : Int32) (s : (St)), FrR w m S0 s → Ok (fun r => FrR w m S0 r.2) (df_X13_named_10 n  kk y0 y1 s) := fun kk => by
  induction kk with
  | zero => intros; exact ok_none
  | succ kk ih =>
    intro y0 y1 s hs
    exact ok_dF_X13_named_10 n  (df_X13_named_10 n  kk) y0 y1  ih s hs
theorem ok_df_X13_named_0 {w m : Prop} {S0 : St} (n : Nat) (v0 : Int32) (v1 : Int32) (s0 : St) (h0 : FrR w m S0 s0) : Ok (fun r => FrR w m S0 r.2) (df_X13_named_0 n v0 v1 s0) := by
  unfold df_X13_named_0
  exact ok_b2S (ok_df_X13_packed n (v0) (v1) s0 h0) (fun q1 s2 h1 => ok_df_X13_named_10 n  n (q1) (0) s2 h1)
theorem ok_df_X13_named {w m : Prop} {S0 : St} (n : Nat) (v0 : Int32) (v1 : Int32) (s0 : St) (h0 : FrR w m S0 s0) : Ok (fun r => FrR w m S0 r.2) (df_X13_named n v0 v1 s0) := by
  unfold df_X13_named
  exact ok_df_X13_named_0 n v0 v1 s0 h0
theorem ok_df_X13_suffix_212 {w m : Prop} {S0 : St} (n : Nat) (y0 : Int32) (s0 : St) (h0 : FrR w m S0 s0) : Ok (fun r => FrR w m S0 r.2) (df_X13_suffix_212 n y0 s0) := by
  unfold df_X13_suffix_212
  exact ok_some (h0)
theorem ok_df_X13_suffix_211 {w m : Prop} {S0 : St} (n : Nat)  (s0 : St) (h0 : FrR w m S0 s0) : Ok (fun r => FrR w m S0 r.2) (df_X13_suffix_211 n  s0) := by
  unfold df_X13_suffix_211
  exact ok_df_X13_suffix_212 n (0) s0 h0
theorem ok_df_X13_suffix_191 {w m : Prop} {S0 : St} (n : Nat)  (s0 : St) (h0 : FrR w m S0 s0) : Ok (fun r => FrR w m S0 r.2) (df_X13_suffix_191 n  s0) := by
  unfold df_X13_suffix_191
  exact ok_ck (ok_ite (fun hc => ok_df_X13_suffix_212 n (3) s0 h0) (fun _ => ok_df_X13_suffix_211 n  s0 h0))
theorem ok_df_X13_suffix_182 {w m : Prop} {S0 : St} (n : Nat) (x2 : Int32) (y0 : Int32) (s0 : St) (h0 : FrR w m S0 s0) : Ok (fun r => FrR w m S0 r.2) (df_X13_suffix_182 n x2 y0 s0) := by
  unfold df_X13_suffix_182
  exact ok_ite (fun hc => ok_ite (fun hc => ok_df_X13_suffix_211 n  s0 h0) (fun _ => ok_df_X13_suffix_191 n  s0 h0)) (fun _ => ok_df_X13_suffix_191 n  s0 h0)
theorem ok_df_X13_suffix_181 {w m : Prop} {S0 : St} (n : Nat) (x2 : Int32) (s0 : St) (h0 : FrR w m S0 s0) : Ok (fun r => FrR w m S0 r.2) (df_X13_suffix_181 n x2 s0) := by
  unfold df_X13_suffix_181
  exact ok_df_X13_suffix_182 n (x2) (0) s0 h0
theorem ok_df_X13_suffix_139 {w m : Prop} {S0 : St} (n : Nat) (x1 : Int32) (y0 : Int32) (s0 : St) (h0 : FrR w m S0 s0) : Ok (fun r => FrR w m S0 r.2) (df_X13_suffix_139 n x1 y0 s0) := by
  unfold df_X13_suffix_139
  exact ok_ite (fun hc => ok_df_X13_suffix_181 n (y0) s0 h0) (fun _ => ok_ck (ok_ite (fun hc => ok_ck (ok_ite (fun hc => ok_df_X13_suffix_182 n (y0) (1) s0 h0) (fun _ => ok_df_X13_suffix_181 n (y0) s0 h0))) (fun _ => ok_df_X13_suffix_181 n (y0) s0 h0)))
theorem ok_df_X13_suffix_138 {w m : Prop} {S0 : St} (n : Nat) (x1 : Int32) (s0 : St) (h0 : FrR w m S0 s0) : Ok (fun r => FrR w m S0 r.2) (df_X13_suffix_138 n x1 s0) := by
  unfold df_X13_suffix_138
  exact ok_df_X13_suffix_139 n (x1) (0) s0 h0
theorem ok_df_X13_suffix_97 {w m : Prop} {S0 : St} (n : Nat) (x1 : Int32) (s0 : St) (h0 : FrR w m S0 s0) : Ok (fun r => FrR w m S0 r.2) (df_X13_suffix_97 n x1 s0) := by
  unfold df_X13_suffix_97
  exact ok_ite (fun hc => ok_df_X13_suffix_138 n (x1) s0 h0) (fun _ => ok_ck (ok_ite (fun hc => ok_ck (ok_ite (fun hc => ok_df_X13_suffix_139 n (x1) (1) s0 h0) (fun _ => ok_df_X13_suffix_138 n (x1) s0 h0))) (fun _ => ok_df_X13_suffix_138 n (x1) s0 h0)))
theorem ok_df_X13_suffix_0 {w m : Prop} {S0 : St} (n : Nat)  (s0 : St) (h0 : FrR w m S0 s0) : Ok (fun r => FrR w m S0 r.2) (df_X13_suffix_0 n  s0) := by
  unfold df_X13_suffix_0
  exact ok_lv (fun z1 => ok_ite (fun hc => ok_df_X13_suffix_97 n (z1) s0 h0) (fun _ => ok_ck (ok_ite (fun hc => ok_ck (ok_ite (fun hc => ok_ck (ok_ite (fun hc => ok_ck (ok_ite (fun hc => ok_ck (ok_ite (fun hc => ok_some (h0)) (fun _ => ok_df_X13_suffix_97 n (z1) s0 h0))) (fun _ => ok_df_X13_suffix_97 n (z1) s0 h0))) (fun _ => ok_df_X13_suffix_97 n (z1) s0 h0))) (fun _ => ok_df_X13_suffix_97 n (z1) s0 h0))) (fun _ => ok_df_X13_suffix_97 n (z1) s0 h0))))
theorem ok_df_X13_suffix {w m : Prop} {S0 : St} (n : Nat)  (s0 : St) (h0 : FrR w m S0 s0) : Ok (fun r => FrR w m S0 r.2) (df_X13_suffix n  s0) := by
  unfold df_X13_suffix
  exact ok_df_X13_suffix_0 n  s0 h0
theorem ok_df_X13_statement_346 {w m : Prop} {S0 : St} (n : Nat)  (s0 : St) (h0 : FrR w m S0 s0) : Ok (fun r => FrR w m S0 r) (df_X13_statement_346 n  s0) := by
  unfold df_X13_statement_346
  exact ok_some (h0)
theorem ok_df_X13_statement_326 {w m : Prop} {S0 : St} (n : Nat)  (s0 : St) (h0 : FrR w m S0 s0) : Ok (fun r => FrR w m S0 r) (df_X13_statement_326 n  s0) := by
  unfold df_X13_statement_326
  exact ok_ite (fun hc => ok_ite (fun hc => ok_b2S (ok_df_X13_needs n (0) s0 h0) (fun q28 s29 h1 => ok_df_X13_statement_346 n  s29 h1)) (fun _ => ok_df_X13_statement_346 n  s0 h0)) (fun _ => ok_df_X13_statement_346 n  s0 h0)
theorem ok_df_X13_statement_232 {w m : Prop} {S0 : St} (n : Nat) (x6 : Int32) (x7 : Int32) (hwm : w → m) (s0 : St) (h0 : FrR w m S0 s0) : Ok (fun r => FrR w m S0 r) (df_X13_statement_232 n x6 x7 s0) := by
  unfold df_X13_statement_232
  exact ok_b1S (ok_df_X13_jumps n (x6) (x7) hwm s0 h0) (fun s24 h1 => ok_df_X13_statement_326 n  s24 h1)
theorem ok_df_X13_statement_264 {w m : Prop} {S0 : St} (n : Nat) (x6 : Int32) (x7 : Int32) (hwm : w → m) (s0 : St) (h0 : FrR w m S0 s0) : Ok (fun r => FrR w m S0 r) (df_X13_statement_264 n x6 x7 s0) := by
  unfold df_X13_statement_264
  exact ok_b1S (ok_df_X13_branches n (x6) (x7) hwm s0 h0) (fun s34 h1 => ok_df_X13_statement_326 n  s34 h1)
theorem ok_df_X13_statement_289 {w m : Prop} {S0 : St} (n : Nat) (x6 : Int32) (x7 : Int32) (hwm : w → m) (s0 : St) (h0 : FrR w m S0 s0) : Ok (fun r => FrR w m S0 r) (df_X13_statement_289 n x6 x7 s0) := by
  unfold df_X13_statement_289
  exact ok_b1S (ok_df_X13_longs n (x6) (x7) hwm s0 h0) (fun s39 h1 => ok_df_X13_statement_326 n  s39 h1)
theorem ok_df_X13_statement_275 {w m : Prop} {S0 : St} (n : Nat) (x6 : Int32) (x7 : Int32) (hwm : w → m) (s0 : St) (h0 : FrR w m S0 s0) : Ok (fun r => FrR w m S0 r) (df_X13_statement_275 n x6 x7 s0) := by
  unfold df_X13_statement_275
  exact ok_ite (fun hc => ok_df_X13_statement_289 n (x6) (x7) hwm s0 h0) (fun _ => ok_ite (fun hc => ok_df_X13_statement_289 n (x6) (x7) hwm s0 h0) (fun _ => ok_ite (fun hc => ok_b1S (ok_df_X13_others n (x6) (x7) hwm s0 h0) (fun s44 h1 => ok_df_X13_statement_326 n  s44 h1)) (fun _ => ok_b1S (ok_df_X13_shorts n (x6) (x7) hwm s0 h0) (fun s47 h2 => ok_df_X13_statement_326 n  s47 h2))))
theorem ok_df_X13_statement_136 {w m : Prop} {S0 : St} (n : Nat) (x4 : Int32) (x5 : Int32) (hwm : w → m) (s0 : St) (h0 : FrR w m S0 s0) : Ok (fun r => FrR w m S0 r) (df_X13_statement_136 n x4 x5 s0) := by
  unfold df_X13_statement_136
  exact ok_ite (fun hc => ok_ck (ok_lv (fun z16 => ok_ck (ok_lv (fun z18 => ok_ite (fun hc => ok_ite (fun hc => ok_b1S (ok_df_X13_word n (z18) hwm s0 h0) (fun s54 h1 => ok_df_X13_statement_326 n  s54 h1)) (fun _ => ok_ite (fun hc => ok_b1S (ok_df_X13_half n (z18) hwm s0 h0) (fun s51 h2 => ok_df_X13_statement_326 n  s51 h2)) (fun _ => ok_ite (fun hc => ok_df_X13_statement_232 n (z16) (z18) hwm s0 h0) (fun _ => ok_ite (fun hc => ok_df_X13_statement_232 n (z16) (z18) hwm s0 h0) (fun _ => ok_ite (fun hc => ok_df_X13_statement_264 n (z16) (z18) hwm s0 h0) (fun _ => ok_ite (fun hc => ok_df_X13_statement_275 n (z16) (z18) hwm s0 h0) (fun _ => ok_ite (fun hc => ok_df_X13_statement_275 n (z16) (z18) hwm s0 h0) (fun _ => ok_df_X13_statement_264 n (z16) (z18) hwm s0 h0)))))))) (fun _ => ok_b1S (ok_df_X13_directive n (z16) (z18) hwm s0 h0) (fun s57 h3 => ok_df_X13_statement_326 n  s57 h3))))))) (fun _ => ok_b1S (ok_df_X13_blame n (2) s0 h0) (fun s60 h4 => ok_some (h4)))
theorem ok_df_X13_statement_102 {w m : Prop} {S0 : St} (n : Nat) (x4 : Int32) (y0 : Int32) (hwm : w → m) (s0 : St) (h0 : FrR w m S0 s0) : Ok (fun r => FrR w m S0 r) (df_X13_statement_102 n x4 y0 s0) := by
  unfold df_X13_statement_102
  exact ok_ite (fun hc => ok_df_X13_statement_136 n (x4) (y0) hwm s0 h0) (fun _ => ok_ck (ok_ite (fun hc => ok_df_X13_statement_136 n (x4) (y0) hwm s0 h0) (fun _ => ok_ck (ok_ite (fun hc => ok_df_X13_statement_136 n (x4) (y0) hwm s0 h0) (fun _ => ok_df_X13_statement_136 n ((-1)) (y0) hwm s0 h0)))))
theorem ok_df_X13_statement_0 {w m : Prop} {S0 : St} (n : Nat) (v0 : Int32) (v1 : Int32) (hm : w ∨ m → ¬ v1 = 3) (s0 : St) (h0 : FrR w m S0 s0) : Ok (fun r => FrR w m S0 r) (df_X13_statement_0 n v0 v1 s0) := by
  unfold df_X13_statement_0
  exact ok_w (ok_lS ((fr_M hm h0)) (fun s1 h1 => ok_lS ((fr_I (by decide) h1)) (fun s2 h2 => ok_lS ((fr_I (by decide) h2)) (fun s3 h3 => ok_b1S (ok_df_X13_scan n  s3 h3) (fun s5 h4 => ok_b2S (ok_df_X13_suffix n  s5 h4) (fun q7 s8 h5 => ok_b2S (ok_df_X13_named n ((sI s8 9)) ((sI s8 10)) s8 h5) (fun q10 s11 h6 => ok_ite (fun hc => ok_df_X13_statement_136 n (q10) (0) Or.inl s11 h6) (fun _ => ok_ite (fun hc => ok_df_X13_statement_136 n (q10) (0) Or.inl s11 h6) (fun _ => ok_b2S (ok_df_X13_named n ((sI s11 9)) (((sI s11 10) - q7)) s11 h6) (fun q63 s64 h7 => ok_ite (fun hc => ok_df_X13_statement_102 n (q63) (100663296) Or.inl s64 h7) (fun _ => ok_ck (ok_ite (fun hc => ok_df_X13_statement_102 n (q63) (67108864) Or.inl s64 h7) (fun _ => ok_df_X13_statement_102 n (q63) (33554432) Or.inl s64 h7)))))))))))))
theorem ok_df_X13_statement {w m : Prop} {S0 : St} (n : Nat) (v0 : Int32) (v1 : Int32) (hm : w ∨ m → ¬ v1 = 3) (s0 : St) (h0 : FrR w m S0 s0) : Ok (fun r => FrR w m S0 r) (df_X13_statement n v0 v1 s0) := by
  unfold df_X13_statement
  exact ok_df_X13_statement_0 n v0 v1 hm s0 h0
theorem ok_df_X13_labelled_166 {w m : Prop} {S0 : St} (n : Nat) (g0 : (St) → Option (Int32 × (St))) (hg0 : ∀  (s : (St)), FrR w m S0 s → Ok (fun r => FrR w m S0 r.2) (g0 s)) (s0 : St) (h0 : FrR w m S0 s0) : Ok (fun r => FrR w m S0 r.2) (df_X13_labelled_166 n g0 s0) := by
  unfold df_X13_labelled_166
  exact hg0  s0 h0
theorem ok_df_X13_labelled_161 {w m : Prop} {S0 : St} (n : Nat) (g0 : (St) → Option (Int32 × (St))) (y1 : Int32) (y2 : Int32) (y3 : Int32) (y4 : Int32) (hg0 : ∀  (s : (St)), FrR w m S0 s → Ok (fun r => FrR w m S0 r.2) (g0 s)) (s0 : St) (h0 : FrR w m S0 s0) : Ok (fun r => FrR w m S0 r.2) (df_X13_labelled_161 n g0 y1 y2 y3 y4 s0) := by
  unfold df_X13_labelled_161
  exact ok_b1S (ok_df_X13_define n (y1) (y2) ((y3 + y4)) (0) s0 h0) (fun s19 h1 => ok_df_X13_labelled_166 n g0 hg0 s19 h1)
theorem ok_df_X13_labelled_137 {w m : Prop} {S0 : St} (n : Nat) (g0 : (St) → Option (Int32 × (St))) (x1 : Int32) (x2 : Int32) (x4 : Int32) (hg0 : ∀  (s : (St)), FrR w m S0 s → Ok (fun r => FrR w m S0 r.2) (g0 s)) (s0 : St) (h0 : FrR w m S0 s0) : Ok (fun r => FrR w m S0 r.2) (df_X13_labelled_137 n g0 x1 x2 x4 s0) := by
  unfold df_X13_labelled_137
  exact ok_ite (fun hc => ok_ite (fun hc => ok_df_X13_labelled_161 n g0 (x1) (x2) ((sI s0 14)) (0) hg0 s0 h0) (fun _ => ok_df_X13_labelled_161 n g0 (x1) (x2) ((sI s0 14)) (3) hg0 s0 h0)) (fun _ => ok_df_X13_labelled_166 n g0 hg0 s0 h0)
theorem ok_df_X13_labelled_132 {w m : Prop} {S0 : St} (n : Nat) (g0 : (St) → Option (Int32 × (St))) (x1 : Int32) (x2 : Int32) (x4 : Int32) (hg0 : ∀  (s : (St)), FrR w m S0 s → Ok (fun r => FrR w m S0 r.2) (g0 s)) (s0 : St) (h0 : FrR w m S0 s0) : Ok (fun r => FrR w m S0 r.2) (df_X13_labelled_132 n g0 x1 x2 x4 s0) := by
  unfold df_X13_labelled_132
  exact ok_b1S (ok_df_X13_blame n (4) s0 h0) (fun s26 h1 => ok_df_X13_labelled_137 n g0 (x1) (x2) (x4) hg0 s26 h1)
theorem ok_df_X13_labelled_108 {w m : Prop} {S0 : St} (n : Nat) (y0 : Int32) (s0 : St) (h0 : FrR w m S0 s0) : Ok (fun r => FrR w m S0 r.2) (df_X13_labelled_108 n y0 s0) := by
  unfold df_X13_labelled_108
  exact ok_z (ok_some (h0))
theorem ok_df_X13_labelled_91 {w m : Prop} {S0 : St} (n : Nat) (x1 : Int32) (s0 : St) (h0 : FrR w m S0 s0) : Ok (fun r => FrR w m S0 r.2) (df_X13_labelled_91 n x1 s0) := by
  unfold df_X13_labelled_91
  exact ok_lS ((fr_I (by decide) h0)) (fun s33 h1 => ok_ite (fun hc => ok_df_X13_labelled_108 n (1) s33 h1) (fun _ => ok_df_X13_labelled_108 n (0) s33 h1))
theorem ok_df_X13_labelled_68 {w m : Prop} {S0 : St} (n : Nat) (g0 : (St) → Option (Int32 × (St))) (x1 : Int32) (x2 : Int32) (x4 : Int32) (hg0 : ∀  (s : (St)), FrR w m S0 s → Ok (fun r => FrR w m S0 r.2) (g0 s)) (s0 : St) (h0 : FrR w m S0 s0) : Ok (fun r => FrR w m S0 r.2) (df_X13_labelled_68 n g0 x1 x2 x4 s0) := by
  unfold df_X13_labelled_68
  exact ok_b1S (ok_df_X13_scan n  s0 h0) (fun s12 h1 => ok_ite (fun hc => ok_ite (fun hc => ok_b2S (ok_df_X13_register n (x1) (x2) s12 h1) (fun q21 s22 h2 => ok_ite (fun hc => ok_df_X13_labelled_132 n g0 (x1) (x2) (x4) hg0 s22 h2) (fun _ => ok_b2S (ok_df_X13_find n (x1) (x2) s22 h2) (fun q28 s29 h3 => ok_ite (fun hc => ok_df_X13_labelled_137 n g0 (x1) (x2) (x4) hg0 s29 h3) (fun _ => ok_df_X13_labelled_132 n g0 (x1) (x2) (x4) hg0 s29 h3))))) (fun _ => ok_df_X13_labelled_137 n g0 (x1) (x2) (x4) hg0 s12 h1)) (fun _ => ok_ite (fun hc => ok_df_X13_labelled_91 n (x1) s12 h1) (fun _ => ok_b1S (ok_df_X13_blame n (1) s12 h1) (fun s37 h4 => ok_df_X13_labelled_91 n (x1) s37 h4))))
theorem ok_df_X13_labelled_43 {w m : Prop} {S0 : St} (n : Nat) (g0 : (St) → Option (Int32 × (St))) (x1 : Int32) (x2 : Int32) (x3 : Int32) (y0 : Int32) (hg0 : ∀  (s : (St)), FrR w m S0 s → Ok (fun r => FrR w m S0 r.2) (g0 s)) (s0 : St) (h0 : FrR w m S0 s0) : Ok (fun r => FrR w m S0 r.2) (df_X13_labelled_43 n g0 x1 x2 x3 y0 s0) := by
  unfold df_X13_labelled_43
  exact ok_ite (fun hc => ok_some (h0)) (fun _ => ok_ite (fun hc => ok_df_X13_labelled_68 n g0 (x1) (x2) (y0) hg0 s0 h0) (fun _ => ok_ite (fun hc => ok_b1S (ok_df_X13_blame n (1) s0 h0) (fun s41 h1 => ok_some (h1))) (fun _ => ok_df_X13_labelled_68 n g0 (x1) (x2) (y0) hg0 s0 h0)))
theorem ok_df_X13_labelled_42 {w m : Prop} {S0 : St} (n : Nat) (g0 : (St) → Option (Int32 × (St))) (x1 : Int32) (x2 : Int32) (x3 : Int32) (hg0 : ∀  (s : (St)), FrR w m S0 s → Ok (fun r => FrR w m S0 r.2) (g0 s)) (s0 : St) (h0 : FrR w m S0 s0) : Ok (fun r => FrR w m S0 r.2) (df_X13_labelled_42 n g0 x1 x2 x3 s0) := by
  unfold df_X13_labelled_42
  exact ok_df_X13_labelled_43 n g0 (x1) (x2) (x3) (0) hg0 s0 h0
theorem ok_dF_X13_labelled_0 {w m : Prop} {S0 : St} (n : Nat) (g0 : (St) → Option (Int32 × (St))) (hg0 : ∀  (s : (St)), FrR w m S0 s → Ok (fun r => FrR w m S0 r.2) (g0 s)) (s0 : St) (h0 : FrR w m S0 s0) : Ok (fun r => FrR w m S0 r.2) (dF_X13_labelled_0 n g0 s0) := by
  unfold dF_X13_labelled_0
  exact ok_ite (fun hc => ok_b1S (ok_df_X13_scan n  s0 h0) (fun s3 h1 => ok_lv (fun z5 => ok_lv (fun z6 => ok_lv (fun z7 => ok_ite (fun hc => ok_ite (fun hc => ok_df_X13_labelled_43 n g0 (z5) (z6) (z7) (1) hg0 s3 h1) (fun _ => ok_df_X13_labelled_42 n g0 (z5) (z6) (z7) hg0 s3 h1)) (fun _ => ok_df_X13_labelled_42 n g0 (z5) (z6) (z7) hg0 s3 h1)))))) (fun _ => ok_some (h0))
theorem ok_df_X13_labelled_0 {w m : Prop} {S0 : St} (n : Nat)  : ∀ (kk : Nat)  (s : (St)), FrR w m S0 s → Ok (fun r => FrR w m S0 r.2) (df_X13_labelled_0 n  kk  s) := fun kk => by
  induction kk with
  | zero => intros; exact ok_none
  | succ kk ih =>
    intro  s hs
    exact ok_dF_X13_labelled_0 n  (df_X13_labelled_0 n  kk)   ih s hs
theorem ok_df_X13_labelled {w m : Prop} {S0 : St} (n : Nat)  (s0 : St) (h0 : FrR w m S0 s0) : Ok (fun r => FrR w m S0 r.2) (df_X13_labelled n  s0) := by
  unfold df_X13_labelled
  exact ok_df_X13_labelled_0 n  n s0 h0
theorem ok_df_X13_readAll_201 {w m : Prop} {S0 : St} (n : Nat)  (s0 : St) (h0 : FrR w m S0 s0) : Ok (fun r => FrR w m S0 r) (df_X13_readAll_201 n  s0) := by
  unfold df_X13_readAll_201
  exact ok_some (h0)
theorem ok_dF_X13_readAll_152 {w m : Prop} {S0 : St} (n : Nat) (g25 : (St) → Option (St)) (g152 : (St) → Option (St)) (hg25 : ∀  (s : (St)), FrR w m S0 s → Ok (fun r => FrR w m S0 r) (g25 s)) (hg152 : ∀  (s : (St)), FrR w m S0 s → Ok (fun r => FrR w m S0 r) (g152 s)) (s0 : St) (h0 : FrR w m S0 s0) : Ok (fun r => FrR w m S0 r) (dF_X13_readAll_152 n g25 g152 s0) := by
  unfold dF_X13_readAll_152
  exact ok_b2S (ok_df_X13_charAt n ((sI s0 7)) s0 h0) (fun q12 s13 h1 => ok_ite (fun hc => ok_lS ((fr_I (by decide) h1)) (fun s16 h2 => ok_lS ((fr_I (by decide) h2)) (fun s17 h3 => hg25  s17 h3))) (fun _ => ok_lS ((fr_I (by decide) h1)) (fun s18 h4 => hg152  s18 h4)))
theorem ok_df_X13_readAll_152 {w m : Prop} {S0 : St} (n : Nat) (g25 : (St) → Option (St)) (hg25 : ∀  (s : (St)), FrR w m S0 s → Ok (fun r => FrR w m S0 r) (g25 s)) : ∀ (kk : Nat)  (s : (St)), FrR w m S0 s → Ok (fun r => FrR w m S0 r) (df_X13_readAll_152 n g25 kk  s) := fun kk => by
  induction kk with
  | zero => intros; exact ok_none
  | succ kk ih =>
    intro  s hs
    exact ok_dF_X13_readAll_152 n g25 (df_X13_readAll_152 n g25 kk)  hg25 ih s hs
theorem ok_df_X13_readAll_118 {w m : Prop} {S0 : St} (n : Nat) (g25 : (St) → Option (St)) (y0 : Int32) (hg25 : ∀  (s : (St)), FrR w m S0 s → Ok (fun r => FrR w m S0 r) (g25 s)) (s0 : St) (h0 : FrR w m S0 s0) : Ok (fun r => FrR w m S0 r) (df_X13_readAll_118 n g25 y0 s0) := by
  unfold df_X13_readAll_118
  exact ok_ite (fun hc => ok_df_X13_readAll_152 n g25 hg25 n s0 h0) (fun _ => ok_lS ((fr_I (by decide) h0)) (fun s31 h1 => ok_ck (ok_ite (fun hc => ok_ck (ok_lS ((fr_R (by decide) h1)) (fun s35 h2 => ok_df_X13_readAll_152 n g25 hg25 n s35 h2))) (fun _ => ok_df_X13_readAll_152 n g25 hg25 n s31 h1))))
theorem ok_dF_X13_readAll_25 {w m : Prop} {S0 : St} (n : Nat) (g25 : (St) → Option (St)) (hg25 : ∀  (s : (St)), FrR w m S0 s → Ok (fun r => FrR w m S0 r) (g25 s)) (s0 : St) (h0 : FrR w m S0 s0) : Ok (fun r => FrR w m S0 r) (dF_X13_readAll_25 n g25 s0) := by
  unfold dF_X13_readAll_25
  exact ok_ite (fun hc => ok_ite (fun hc => ok_df_X13_readAll_201 n  s0 h0) (fun _ => ok_b2S (ok_df_X13_labelled n  s0 h0) (fun q8 s9 h1 => ok_ite (fun hc => ok_df_X13_readAll_152 n g25 hg25 n s9 h1) (fun _ => ok_lS ((fr_I (by decide) h1)) (fun s19 h2 => ok_lv (fun z20 => ok_ck (ok_lS ((fr_R (by decide) h2)) (fun s22 h3 => ok_ck (ok_lS ((fr_R (by decide) h3)) (fun s24 h4 => ok_lv (fun z25 => ok_b1S (ok_df_X13_statement n (z20) (0) (fun _ => by decide) s24 h4) (fun s27 h5 => ok_ite (fun hc => ok_df_X13_readAll_118 n g25 ((sI s27 16)) hg25 s27 h5) (fun _ => ok_df_X13_readAll_118 n g25 ((-1)) hg25 s27 h5))))))))))))) (fun _ => ok_df_X13_readAll_201 n  s0 h0)
theorem ok_df_X13_readAll_25 {w m : Prop} {S0 : St} (n : Nat)  : ∀ (kk : Nat)  (s : (St)), FrR w m S0 s → Ok (fun r => FrR w m S0 r) (df_X13_readAll_25 n  kk  s) := fun kk => by
  induction kk with
  | zero => intros; exact ok_none
  | succ kk ih =>
    intro  s hs
    exact ok_dF_X13_readAll_25 n  (df_X13_readAll_25 n  kk)   ih s hs
theorem ok_df_X13_readAll_0 {w m : Prop} {S0 : St} (n : Nat)  (s0 : St) (h0 : FrR w m S0 s0) : Ok (fun r => FrR w m S0 r) (df_X13_readAll_0 n  s0) := by
  unfold df_X13_readAll_0
  exact ok_lS ((fr_I (by decide) h0)) (fun s1 h1 => ok_lS ((fr_I (by decide) h1)) (fun s2 h2 => ok_lS ((fr_I (by decide) h2)) (fun s3 h3 => ok_lS ((fr_I (by decide) h3)) (fun s4 h4 => ok_lS ((fr_I (by decide) h4)) (fun s5 h5 => ok_df_X13_readAll_25 n  n s5 h5)))))
theorem ok_df_X13_readAll {w m : Prop} {S0 : St} (n : Nat)  (s0 : St) (h0 : FrR w m S0 s0) : Ok (fun r => FrR w m S0 r) (df_X13_readAll n  s0) := by
  unfold df_X13_readAll
  exact ok_df_X13_readAll_0 n  s0 h0
theorem ok_df_X13_sizeAt_59 {w m : Prop} {S0 : St} (n : Nat) (y0 : Int32) (s0 : St) (h0 : FrR w m S0 s0) : Ok (fun r => FrR w m S0 r.2) (df_X13_sizeAt_59 n y0 s0) := by
  unfold df_X13_sizeAt_59
  exact ok_some (h0)
theorem ok_df_X13_sizeAt_0 {w m : Prop} {S0 : St} (n : Nat) (v0 : Int32) (v1 : Int32) (s0 : St) (h0 : FrR w m S0 s0) : Ok (fun r => FrR w m S0 r.2) (df_X13_sizeAt_0 n v0 v1 s0) := by
  unfold df_X13_sizeAt_0
  exact ok_ck (ok_ite (fun hc => ok_ck (ok_ite (fun hc => ok_ck (ok_df_X13_sizeAt_59 n ((sR s0 5 (Int32.toNatClampNeg v0))) s0 h0)) (fun _ => ok_ck (ok_df_X13_sizeAt_59 n (((2 : Int32) <<< ((((((sR s0 3 (Int32.toNatClampNeg v0)) : Int32) >>> ((17 : Int32) &&& 31)) &&& 3) : Int32) &&& 31))) s0 h0)))) (fun _ => ok_ck (ok_some (h0))))
theorem ok_df_X13_sizeAt {w m : Prop} {S0 : St} (n : Nat) (v0 : Int32) (v1 : Int32) (s0 : St) (h0 : FrR w m S0 s0) : Ok (fun r => FrR w m S0 r.2) (df_X13_sizeAt n v0 v1 s0) := by
  unfold df_X13_sizeAt
  exact ok_df_X13_sizeAt_0 n v0 v1 s0 h0
theorem ok_df_X13_sectionOf_0 {w m : Prop} {S0 : St} (n : Nat) (v0 : Int32) (s0 : St) (h0 : FrR w m S0 s0) : Ok (fun r => FrR w m S0 r.2) (df_X13_sectionOf_0 n v0 s0) := by
  unfold df_X13_sectionOf_0
  exact ok_ck (ok_some (h0))
theorem ok_df_X13_sectionOf {w m : Prop} {S0 : St} (n : Nat) (v0 : Int32) (s0 : St) (h0 : FrR w m S0 s0) : Ok (fun r => FrR w m S0 r.2) (df_X13_sectionOf n v0 s0) := by
  unfold df_X13_sectionOf
  exact ok_df_X13_sectionOf_0 n v0 s0 h0
theorem ok_df_X13_layout_213 {w m : Prop} {S0 : St} (n : Nat) (g14 : Int32 → Int32 → (St) → Option (St)) (x1 : Int32) (x2 : Int32) (y1 : Int32) (y2 : Int32) (hg14 : ∀ (y0 : Int32) (y1 : Int32) (s : (St)), FrR w m S0 s → Ok (fun r => FrR w m S0 r) (g14 y0 y1 s)) (s0 : St) (h0 : FrR w m S0 s0) : Ok (fun r => FrR w m S0 r) (df_X13_layout_213 n g14 x1 x2 y1 y2 s0) := by
  unfold df_X13_layout_213
  exact ok_lS ((fr_I (by decide) h0)) (fun s26 h1 => ok_lv (fun z27 => hg14 (x1) (z27) s26 h1))
theorem ok_df_X13_layout_189 {w m : Prop} {S0 : St} (n : Nat) (g14 : Int32 → Int32 → (St) → Option (St)) (x1 : Int32) (x2 : Int32) (x4 : Int32) (y1 : Int32) (y2 : Int32) (hg14 : ∀ (y0 : Int32) (y1 : Int32) (s : (St)), FrR w m S0 s → Ok (fun r => FrR w m S0 r) (g14 y0 y1 s)) (s0 : St) (h0 : FrR w m S0 s0) : Ok (fun r => FrR w m S0 r) (df_X13_layout_189 n g14 x1 x2 x4 y1 y2 s0) := by
  unfold df_X13_layout_189
  exact ok_lS ((fr_I (by decide) h0)) (fun s21 h1 => ok_b2S (ok_df_X13_sectionOf n (x2) s21 h1) (fun q22 s23 h2 => ok_ite (fun hc => ok_df_X13_layout_213 n g14 (x1) (x2) ((sI s21 4)) (0) hg14 s23 h2) (fun _ => ok_df_X13_layout_213 n g14 (x1) (x2) ((sI s21 4)) (x4) hg14 s23 h2)))
theorem ok_df_X13_layout_155 {w m : Prop} {S0 : St} (n : Nat) (g14 : Int32 → Int32 → (St) → Option (St)) (x1 : Int32) (x2 : Int32) (y1 : Int32) (y2 : Int32) (hg14 : ∀ (y0 : Int32) (y1 : Int32) (s : (St)), FrR w m S0 s → Ok (fun r => FrR w m S0 r) (g14 y0 y1 s)) (s0 : St) (h0 : FrR w m S0 s0) : Ok (fun r => FrR w m S0 r) (df_X13_layout_155 n g14 x1 x2 y1 y2 s0) := by
  unfold df_X13_layout_155
  exact ok_ck (ok_lS ((fr_R (by decide) h0)) (fun s12 h1 => ok_ck (ok_b2S (ok_df_X13_sizeAt n (x2) ((sR s12 4 (Int32.toNatClampNeg x2))) s12 h1) (fun q14 s15 h2 => ok_b2S (ok_df_X13_sectionOf n (x2) s15 h2) (fun q17 s18 h3 => ok_ite (fun hc => ok_df_X13_layout_189 n g14 (x1) (x2) (q14) ((sI s15 5)) (q14) hg14 s18 h3) (fun _ => ok_df_X13_layout_189 n g14 (x1) (x2) (q14) ((sI s15 5)) (0) hg14 s18 h3))))))
theorem ok_df_X13_layout_121 {w m : Prop} {S0 : St} (n : Nat) (g14 : Int32 → Int32 → (St) → Option (St)) (x1 : Int32) (x2 : Int32) (hg14 : ∀ (y0 : Int32) (y1 : Int32) (s : (St)), FrR w m S0 s → Ok (fun r => FrR w m S0 r) (g14 y0 y1 s)) (s0 : St) (h0 : FrR w m S0 s0) : Ok (fun r => FrR w m S0 r) (df_X13_layout_121 n g14 x1 x2 s0) := by
  unfold df_X13_layout_121
  exact ok_ite (fun hc => ok_some (h0)) (fun _ => ok_b2S (ok_df_X13_sectionOf n (x2) s0 h0) (fun q7 s8 h1 => ok_ite (fun hc => ok_df_X13_layout_155 n g14 (x1) (x2) (x2) ((sI s8 5)) hg14 s8 h1) (fun _ => ok_df_X13_layout_155 n g14 (x1) (x2) (x2) ((sI s8 4)) hg14 s8 h1)))
theorem ok_df_X13_layout_115 {w m : Prop} {S0 : St} (n : Nat) (g14 : Int32 → Int32 → (St) → Option (St)) (g47 : Int32 → Int32 → Int32 → (St) → Option (St)) (x1 : Int32) (x2 : Int32) (x3 : Int32) (hg14 : ∀ (y0 : Int32) (y1 : Int32) (s : (St)), FrR w m S0 s → Ok (fun r => FrR w m S0 r) (g14 y0 y1 s)) (hg47 : ∀ (y0 : Int32) (y1 : Int32) (y2 : Int32) (s : (St)), FrR w m S0 s → Ok (fun r => FrR w m S0 r) (g47 y0 y1 y2 s)) (s0 : St) (h0 : FrR w m S0 s0) : Ok (fun r => FrR w m S0 r) (df_X13_layout_115 n g14 g47 x1 x2 x3 s0) := by
  unfold df_X13_layout_115
  exact ok_lv (fun z33 => hg47 (z33) (x2) (x3) s0 h0)
theorem ok_df_X13_layout_114 {w m : Prop} {S0 : St} (n : Nat) (g14 : Int32 → Int32 → (St) → Option (St)) (g47 : Int32 → Int32 → Int32 → (St) → Option (St)) (x1 : Int32) (x2 : Int32) (x3 : Int32) (y1 : Int32) (y2 : Int32) (hg14 : ∀ (y0 : Int32) (y1 : Int32) (s : (St)), FrR w m S0 s → Ok (fun r => FrR w m S0 r) (g14 y0 y1 s)) (hg47 : ∀ (y0 : Int32) (y1 : Int32) (y2 : Int32) (s : (St)), FrR w m S0 s → Ok (fun r => FrR w m S0 r) (g47 y0 y1 y2 s)) (s0 : St) (h0 : FrR w m S0 s0) : Ok (fun r => FrR w m S0 r) (df_X13_layout_114 n g14 g47 x1 x2 x3 y1 y2 s0) := by
  unfold df_X13_layout_114
  exact ok_ck (ok_lS ((fr_R (by decide) h0)) (fun s36 h1 => ok_df_X13_layout_115 n g14 g47 (x1) (x2) (x3) hg14 hg47 s36 h1))
theorem ok_df_X13_layout_103 {w m : Prop} {S0 : St} (n : Nat) (g14 : Int32 → Int32 → (St) → Option (St)) (g47 : Int32 → Int32 → Int32 → (St) → Option (St)) (x1 : Int32) (x2 : Int32) (x3 : Int32) (y1 : Int32) (hg14 : ∀ (y0 : Int32) (y1 : Int32) (s : (St)), FrR w m S0 s → Ok (fun r => FrR w m S0 r) (g14 y0 y1 s)) (hg47 : ∀ (y0 : Int32) (y1 : Int32) (y2 : Int32) (s : (St)), FrR w m S0 s → Ok (fun r => FrR w m S0 r) (g47 y0 y1 y2 s)) (s0 : St) (h0 : FrR w m S0 s0) : Ok (fun r => FrR w m S0 r) (df_X13_layout_103 n g14 g47 x1 x2 x3 y1 s0) := by
  unfold df_X13_layout_103
  exact ok_df_X13_layout_114 n g14 g47 (x1) (x2) (x3) (y1) ((sI s0 5)) hg14 hg47 s0 h0
theorem ok_dF_X13_layout_47 {w m : Prop} {S0 : St} (n : Nat) (g14 : Int32 → Int32 → (St) → Option (St)) (g47 : Int32 → Int32 → Int32 → (St) → Option (St)) (x1 : Int32) (x2 : Int32) (x3 : Int32) (hg14 : ∀ (y0 : Int32) (y1 : Int32) (s : (St)), FrR w m S0 s → Ok (fun r => FrR w m S0 r) (g14 y0 y1 s)) (hg47 : ∀ (y0 : Int32) (y1 : Int32) (y2 : Int32) (s : (St)), FrR w m S0 s → Ok (fun r => FrR w m S0 r) (g47 y0 y1 y2 s)) (s0 : St) (h0 : FrR w m S0 s0) : Ok (fun r => FrR w m S0 r) (dF_X13_layout_47 n g14 g47 x1 x2 x3 s0) := by
  unfold dF_X13_layout_47
  exact ok_ite (fun hc => ok_df_X13_layout_121 n g14 (x1) (x2) hg14 s0 h0) (fun _ => ok_ck (ok_ite (fun hc => ok_df_X13_layout_121 n g14 (x1) (x2) hg14 s0 h0) (fun _ => ok_ck (ok_lv (fun z31 => ok_ite (fun hc => ok_df_X13_layout_115 n g14 g47 (x1) (x2) (x3) hg14 hg47 s0 h0) (fun _ => ok_ite (fun hc => ok_df_X13_layout_103 n g14 g47 (x1) (x2) (x3) (x1) hg14 hg47 s0 h0) (fun _ => ok_ite (fun hc => ok_df_X13_layout_103 n g14 g47 (x1) (x2) (x3) (x1) hg14 hg47 s0 h0) (fun _ => ok_df_X13_layout_114 n g14 g47 (x1) (x2) (x3) (x1) ((sI s0 4)) hg14 hg47 s0 h0))))))))
theorem ok_df_X13_layout_47 {w m : Prop} {S0 : St} (n : Nat) (g14 : Int32 → Int32 → (St) → Option (St)) (hg14 : ∀ (y0 : Int32) (y1 : Int32) (s : (St)), FrR w m S0 s → Ok (fun r => FrR w m S0 r) (g14 y0 y1 s)) : ∀ (kk : Nat) (y0 : Int32) (y1 : Int32) (y2 : Int32) (s : (St)), FrR w m S0 s → Ok (fun r => FrR w m S0 r) (df_X13_layout_47 n g14 kk y0 y1 y2 s) := fun kk => by
  induction kk with
  | zero => intros; exact ok_none
  | succ kk ih =>
    intro y0 y1 y2 s hs
    exact ok_dF_X13_layout_47 n g14 (df_X13_layout_47 n g14 kk) y0 y1 y2 hg14 ih s hs
theorem ok_df_X13_layout_46 {w m : Prop} {S0 : St} (n : Nat) (g14 : Int32 → Int32 → (St) → Option (St)) (x1 : Int32) (x2 : Int32) (y0 : Int32) (hg14 : ∀ (y0 : Int32) (y1 : Int32) (s : (St)), FrR w m S0 s → Ok (fun r => FrR w m S0 r) (g14 y0 y1 s)) (s0 : St) (h0 : FrR w m S0 s0) : Ok (fun r => FrR w m S0 r) (df_X13_layout_46 n g14 x1 x2 y0 s0) := by
  unfold df_X13_layout_46
  exact ok_df_X13_layout_47 n g14 hg14 n (x1) (x2) (y0) s0 h0
theorem ok_dF_X13_layout_14 {w m : Prop} {S0 : St} (n : Nat) (g14 : Int32 → Int32 → (St) → Option (St)) (x1 : Int32) (x2 : Int32) (hg14 : ∀ (y0 : Int32) (y1 : Int32) (s : (St)), FrR w m S0 s → Ok (fun r => FrR w m S0 r) (g14 y0 y1 s)) (s0 : St) (h0 : FrR w m S0 s0) : Ok (fun r => FrR w m S0 r) (dF_X13_layout_14 n g14 x1 x2 s0) := by
  unfold dF_X13_layout_14
  exact ok_ite (fun hc => ok_some (h0)) (fun _ => ok_ite (fun hc => ok_df_X13_layout_46 n g14 (x1) (x2) (131071) hg14 s0 h0) (fun _ => ok_ck (ok_df_X13_layout_46 n g14 (x1) (x2) (((sR s0 3 (Int32.toNatClampNeg x2)) &&& 131071)) hg14 s0 h0)))
theorem ok_df_X13_layout_14 {w m : Prop} {S0 : St} (n : Nat)  : ∀ (kk : Nat) (y0 : Int32) (y1 : Int32) (s : (St)), FrR w m S0 s → Ok (fun r => FrR w m S0 r) (df_X13_layout_14 n  kk y0 y1 s) := fun kk => by
  induction kk with
  | zero => intros; exact ok_none
  | succ kk ih =>
    intro y0 y1 s hs
    exact ok_dF_X13_layout_14 n  (df_X13_layout_14 n  kk) y0 y1  ih s hs
theorem ok_df_X13_layout_0 {w m : Prop} {S0 : St} (n : Nat)  (s0 : St) (h0 : FrR w m S0 s0) : Ok (fun r => FrR w m S0 r) (df_X13_layout_0 n  s0) := by
  unfold df_X13_layout_0
  exact ok_lS ((fr_I (by decide) h0)) (fun s1 h1 => ok_lS ((fr_I (by decide) h1)) (fun s2 h2 => ok_df_X13_layout_14 n  n (0) (0) s2 h2))
theorem ok_df_X13_layout {w m : Prop} {S0 : St} (n : Nat)  (s0 : St) (h0 : FrR w m S0 s0) : Ok (fun r => FrR w m S0 r) (df_X13_layout n  s0) := by
  unfold df_X13_layout
  exact ok_df_X13_layout_0 n  s0 h0
theorem ok_df_X13_addressOf_23 {w m : Prop} {S0 : St} (n : Nat) (y0 : Int32) (y1 : Int32) (s0 : St) (h0 : FrR w m S0 s0) : Ok (fun r => FrR w m S0 r.2) (df_X13_addressOf_23 n y0 y1 s0) := by
  unfold df_X13_addressOf_23
  exact ok_some (h0)
theorem ok_df_X13_addressOf_0 {w m : Prop} {S0 : St} (n : Nat) (v0 : Int32) (s0 : St) (h0 : FrR w m S0 s0) : Ok (fun r => FrR w m S0 r.2) (df_X13_addressOf_0 n v0 s0) := by
  unfold df_X13_addressOf_0
  exact ok_ck (ok_b2S (ok_df_X13_sectionOf n (v0) s0 h0) (fun q2 s3 h1 => ok_ite (fun hc => ok_b2S (ok_df_X13_base n  s3 h1) (fun q6 s7 h2 => ok_df_X13_addressOf_23 n ((sR s0 4 (Int32.toNatClampNeg v0))) (q6) s7 h2)) (fun _ => ok_df_X13_addressOf_23 n ((sR s0 4 (Int32.toNatClampNeg v0))) (0) s3 h1)))
theorem ok_df_X13_addressOf {w m : Prop} {S0 : St} (n : Nat) (v0 : Int32) (s0 : St) (h0 : FrR w m S0 s0) : Ok (fun r => FrR w m S0 r.2) (df_X13_addressOf n v0 s0) := by
  unfold df_X13_addressOf
  exact ok_df_X13_addressOf_0 n v0 s0 h0
theorem ok_df_X13_again_0 {w m : Prop} {S0 : St} (n : Nat) (v0 : Int32) (v1 : Int32) (hm : w ∨ m → ¬ v1 = 3) (s0 : St) (h0 : FrR w m S0 s0) : Ok (fun r => FrR w m S0 r) (df_X13_again_0 n v0 v1 s0) := by
  unfold df_X13_again_0
  exact ok_lS ((fr_I (by decide) h0)) (fun s1 h1 => ok_b2S (ok_df_X13_addressOf n (v0) s1 h1) (fun q2 s3 h2 => ok_lS ((fr_I (by decide) h2)) (fun s5 h3 => ok_b2S (ok_df_X13_sectionOf n (v0) s5 h3) (fun q6 s7 h4 => ok_lS ((fr_I (by decide) h4)) (fun s9 h5 => ok_ck (ok_b1S (ok_df_X13_statement n (((sR s9 3 (Int32.toNatClampNeg v0)) &&& 131071)) (v1) hm s9 h5) (fun s12 h6 => ok_some (h6))))))))
theorem ok_df_X13_again {w m : Prop} {S0 : St} (n : Nat) (v0 : Int32) (v1 : Int32) (hm : w ∨ m → ¬ v1 = 3) (s0 : St) (h0 : FrR w m S0 s0) : Ok (fun r => FrR w m S0 r) (df_X13_again n v0 v1 s0) := by
  unfold df_X13_again
  exact ok_df_X13_again_0 n v0 v1 hm s0 h0
theorem ok_df_X13_stretch_113 {w m : Prop} {S0 : St} (n : Nat) (g7 : Int32 → (St) → Option (St)) (x1 : Int32) (y1 : Int32) (hg7 : ∀ (y0 : Int32) (s : (St)), FrR w m S0 s → Ok (fun r => FrR w m S0 r) (g7 y0 s)) (s0 : St) (h0 : FrR w m S0 s0) : Ok (fun r => FrR w m S0 r) (df_X13_stretch_113 n g7 x1 y1 s0) := by
  unfold df_X13_stretch_113
  exact ok_lS ((fr_I (by decide) h0)) (fun s8 h1 => hg7 (x1) s8 h1)
theorem ok_df_X13_stretch_89 {w m : Prop} {S0 : St} (n : Nat) (g7 : Int32 → (St) → Option (St)) (g19 : Int32 → Int32 → (St) → Option (St)) (x1 : Int32) (x2 : Int32) (hg7 : ∀ (y0 : Int32) (s : (St)), FrR w m S0 s → Ok (fun r => FrR w m S0 r) (g7 y0 s)) (hg19 : ∀ (y0 : Int32) (y1 : Int32) (s : (St)), FrR w m S0 s → Ok (fun r => FrR w m S0 r) (g19 y0 y1 s)) (s0 : St) (h0 : FrR w m S0 s0) : Ok (fun r => FrR w m S0 r) (df_X13_stretch_89 n g7 g19 x1 x2 s0) := by
  unfold df_X13_stretch_89
  exact ok_lv (fun z17 => hg19 (x1) (z17) s0 h0)
theorem ok_df_X13_stretch_88 {w m : Prop} {S0 : St} (n : Nat) (g7 : Int32 → (St) → Option (St)) (g19 : Int32 → Int32 → (St) → Option (St)) (x2 : Int32) (y0 : Int32) (hg7 : ∀ (y0 : Int32) (s : (St)), FrR w m S0 s → Ok (fun r => FrR w m S0 r) (g7 y0 s)) (hg19 : ∀ (y0 : Int32) (y1 : Int32) (s : (St)), FrR w m S0 s → Ok (fun r => FrR w m S0 r) (g19 y0 y1 s)) (s0 : St) (h0 : FrR w m S0 s0) : Ok (fun r => FrR w m S0 r) (df_X13_stretch_88 n g7 g19 x2 y0 s0) := by
  unfold df_X13_stretch_88
  exact ok_df_X13_stretch_89 n g7 g19 (y0) (x2) hg7 hg19 s0 h0
theorem ok_df_X13_stretch_83 {w m : Prop} {S0 : St} (n : Nat) (g7 : Int32 → (St) → Option (St)) (g19 : Int32 → Int32 → (St) → Option (St)) (x2 : Int32) (hg7 : ∀ (y0 : Int32) (s : (St)), FrR w m S0 s → Ok (fun r => FrR w m S0 r) (g7 y0 s)) (hg19 : ∀ (y0 : Int32) (y1 : Int32) (s : (St)), FrR w m S0 s → Ok (fun r => FrR w m S0 r) (g19 y0 y1 s)) (s0 : St) (h0 : FrR w m S0 s0) : Ok (fun r => FrR w m S0 r) (df_X13_stretch_83 n g7 g19 x2 s0) := by
  unfold df_X13_stretch_83
  exact ok_df_X13_stretch_88 n g7 g19 (x2) (1) hg7 hg19 s0 h0
theorem ok_df_X13_stretch_72 {w m : Prop} {S0 : St} (n : Nat) (g7 : Int32 → (St) → Option (St)) (g19 : Int32 → Int32 → (St) → Option (St)) (x1 : Int32) (x2 : Int32) (hg7 : ∀ (y0 : Int32) (s : (St)), FrR w m S0 s → Ok (fun r => FrR w m S0 r) (g7 y0 s)) (hg19 : ∀ (y0 : Int32) (y1 : Int32) (s : (St)), FrR w m S0 s → Ok (fun r => FrR w m S0 r) (g19 y0 y1 s)) (s0 : St) (h0 : FrR w m S0 s0) : Ok (fun r => FrR w m S0 r) (df_X13_stretch_72 n g7 g19 x1 x2 s0) := by
  unfold df_X13_stretch_72
  exact ok_ite (fun hc => ok_ite (fun hc => ok_df_X13_stretch_88 n g7 g19 (x2) (0) hg7 hg19 s0 h0) (fun _ => ok_df_X13_stretch_83 n g7 g19 (x2) hg7 hg19 s0 h0)) (fun _ => ok_df_X13_stretch_83 n g7 g19 (x2) hg7 hg19 s0 h0)
theorem ok_dF_X13_stretch_19 {w m : Prop} {S0 : St} (n : Nat) (g7 : Int32 → (St) → Option (St)) (g19 : Int32 → Int32 → (St) → Option (St)) (x1 : Int32) (x2 : Int32) (hg7 : ∀ (y0 : Int32) (s : (St)), FrR w m S0 s → Ok (fun r => FrR w m S0 r) (g7 y0 s)) (hg19 : ∀ (y0 : Int32) (y1 : Int32) (s : (St)), FrR w m S0 s → Ok (fun r => FrR w m S0 r) (g19 y0 y1 s)) (s0 : St) (h0 : FrR w m S0 s0) : Ok (fun r => FrR w m S0 r) (dF_X13_stretch_19 n g7 g19 x1 x2 s0) := by
  unfold dF_X13_stretch_19
  exact ok_ite (fun hc => ok_ite (fun hc => ok_df_X13_stretch_113 n g7 (x1) ((sI s0 6)) hg7 s0 h0) (fun _ => ok_df_X13_stretch_113 n g7 (x1) (((sI s0 6) + 1)) hg7 s0 h0)) (fun _ => ok_ck (ok_ite (fun hc => ok_df_X13_stretch_89 n g7 g19 (x1) (x2) hg7 hg19 s0 h0) (fun _ => ok_lS ((fr_B (by decide) (Or.inl rfl) h0)) (fun s11 h1 => ok_b1S (ok_df_X13_again n (x2) (1) (fun _ => by decide) s11 h1) (fun s13 h2 => ok_ite (fun hc => ok_df_X13_stretch_72 n g7 g19 (x1) (x2) hg7 hg19 s13 h2) (fun _ => ok_ck (ok_ck (ok_lS ((fr_R (by decide) h2)) (fun s21 h3 => ok_df_X13_stretch_72 n g7 g19 (x1) (x2) hg7 hg19 s21 h3)))))))))
theorem ok_df_X13_stretch_19 {w m : Prop} {S0 : St} (n : Nat) (g7 : Int32 → (St) → Option (St)) (hg7 : ∀ (y0 : Int32) (s : (St)), FrR w m S0 s → Ok (fun r => FrR w m S0 r) (g7 y0 s)) : ∀ (kk : Nat) (y0 : Int32) (y1 : Int32) (s : (St)), FrR w m S0 s → Ok (fun r => FrR w m S0 r) (df_X13_stretch_19 n g7 kk y0 y1 s) := fun kk => by
  induction kk with
  | zero => intros; exact ok_none
  | succ kk ih =>
    intro y0 y1 s hs
    exact ok_dF_X13_stretch_19 n g7 (df_X13_stretch_19 n g7 kk) y0 y1 hg7 ih s hs
theorem ok_dF_X13_stretch_7 {w m : Prop} {S0 : St} (n : Nat) (g7 : Int32 → (St) → Option (St)) (x1 : Int32) (hg7 : ∀ (y0 : Int32) (s : (St)), FrR w m S0 s → Ok (fun r => FrR w m S0 r) (g7 y0 s)) (s0 : St) (h0 : FrR w m S0 s0) : Ok (fun r => FrR w m S0 r) (dF_X13_stretch_7 n g7 x1 s0) := by
  unfold dF_X13_stretch_7
  exact ok_ite (fun hc => ok_some (h0)) (fun _ => ok_b1S (ok_df_X13_layout n  s0 h0) (fun s4 h1 => ok_df_X13_stretch_19 n g7 hg7 n (0) (0) s4 h1))
theorem ok_df_X13_stretch_7 {w m : Prop} {S0 : St} (n : Nat)  : ∀ (kk : Nat) (y0 : Int32) (s : (St)), FrR w m S0 s → Ok (fun r => FrR w m S0 r) (df_X13_stretch_7 n  kk y0 s) := fun kk => by
  induction kk with
  | zero => intros; exact ok_none
  | succ kk ih =>
    intro y0 s hs
    exact ok_dF_X13_stretch_7 n  (df_X13_stretch_7 n  kk) y0  ih s hs
theorem ok_df_X13_stretch_0 {w m : Prop} {S0 : St} (n : Nat)  (s0 : St) (h0 : FrR w m S0 s0) : Ok (fun r => FrR w m S0 r) (df_X13_stretch_0 n  s0) := by
  unfold df_X13_stretch_0
  exact ok_lS ((fr_I (by decide) h0)) (fun s1 h1 => ok_df_X13_stretch_7 n  n (1) s1 h1)
theorem ok_df_X13_stretch {w m : Prop} {S0 : St} (n : Nat)  (s0 : St) (h0 : FrR w m S0 s0) : Ok (fun r => FrR w m S0 r) (df_X13_stretch n  s0) := by
  unfold df_X13_stretch
  exact ok_df_X13_stretch_0 n  s0 h0
theorem ok_df_X13_lineOf_27 {w m : Prop} {S0 : St} (n : Nat) (g4 : Int32 → Int32 → Int32 → (St) → Option (Int32 × (St))) (x1 : Int32) (x3 : Int32) (y0 : Int32) (hg4 : ∀ (y0 : Int32) (y1 : Int32) (y2 : Int32) (s : (St)), FrR w m S0 s → Ok (fun r => FrR w m S0 r.2) (g4 y0 y1 y2 s)) (s0 : St) (h0 : FrR w m S0 s0) : Ok (fun r => FrR w m S0 r.2) (df_X13_lineOf_27 n g4 x1 x3 y0 s0) := by
  unfold df_X13_lineOf_27
  exact ok_lv (fun z4 => hg4 (x1) (y0) (z4) s0 h0)
theorem ok_dF_X13_lineOf_4 {w m : Prop} {S0 : St} (n : Nat) (g4 : Int32 → Int32 → Int32 → (St) → Option (Int32 × (St))) (x1 : Int32) (x2 : Int32) (x3 : Int32) (hg4 : ∀ (y0 : Int32) (y1 : Int32) (y2 : Int32) (s : (St)), FrR w m S0 s → Ok (fun r => FrR w m S0 r.2) (g4 y0 y1 y2 s)) (s0 : St) (h0 : FrR w m S0 s0) : Ok (fun r => FrR w m S0 r.2) (dF_X13_lineOf_4 n g4 x1 x2 x3 s0) := by
  unfold dF_X13_lineOf_4
  exact ok_ite (fun hc => ok_some (h0)) (fun _ => ok_ck (ok_ite (fun hc => ok_df_X13_lineOf_27 n g4 (x1) (x3) ((x2 + 1)) hg4 s0 h0) (fun _ => ok_df_X13_lineOf_27 n g4 (x1) (x3) (x2) hg4 s0 h0)))
theorem ok_df_X13_lineOf_4 {w m : Prop} {S0 : St} (n : Nat)  : ∀ (kk : Nat) (y0 : Int32) (y1 : Int32) (y2 : Int32) (s : (St)), FrR w m S0 s → Ok (fun r => FrR w m S0 r.2) (df_X13_lineOf_4 n  kk y0 y1 y2 s) := fun kk => by
  induction kk with
  | zero => intros; exact ok_none
  | succ kk ih =>
    intro y0 y1 y2 s hs
    exact ok_dF_X13_lineOf_4 n  (df_X13_lineOf_4 n  kk) y0 y1 y2  ih s hs
theorem ok_df_X13_lineOf_0 {w m : Prop} {S0 : St} (n : Nat) (v0 : Int32) (s0 : St) (h0 : FrR w m S0 s0) : Ok (fun r => FrR w m S0 r.2) (df_X13_lineOf_0 n v0 s0) := by
  unfold df_X13_lineOf_0
  exact ok_df_X13_lineOf_4 n  n (v0) (1) (0) s0 h0
theorem ok_df_X13_lineOf {w m : Prop} {S0 : St} (n : Nat) (v0 : Int32) (s0 : St) (h0 : FrR w m S0 s0) : Ok (fun r => FrR w m S0 r.2) (df_X13_lineOf n v0 s0) := by
  unfold df_X13_lineOf
  exact ok_df_X13_lineOf_0 n v0 s0 h0
theorem ok_df_X13_all_34 {w m : Prop} {S0 : St} (n : Nat) (y0 : Int32) (s0 : St) (h0 : FrR w m S0 s0) : Ok (fun r => FrR w m S0 r.2) (df_X13_all_34 n y0 s0) := by
  unfold df_X13_all_34
  exact ok_some (h0)
theorem ok_df_X13_all_0 {w m : Prop} {S0 : St} (n : Nat)  (s0 : St) (h0 : FrR w m S0 s0) : Ok (fun r => FrR w m S0 r.2) (df_X13_all_0 n  s0) := by
  unfold df_X13_all_0
  exact ok_ite (fun hc => ok_df_X13_all_34 n (0) s0 h0) (fun _ => ok_ite (fun hc => ok_df_X13_all_34 n ((sI s0 4)) s0 h0) (fun _ => ok_b2S (ok_df_X13_base n  s0 h0) (fun q3 s4 h1 => ok_df_X13_all_34 n ((q3 + (sI s4 5))) s4 h1)))
theorem ok_df_X13_all {w m : Prop} {S0 : St} (n : Nat)  (s0 : St) (h0 : FrR w m S0 s0) : Ok (fun r => FrR w m S0 r.2) (df_X13_all n  s0) := by
  unfold df_X13_all
  exact ok_df_X13_all_0 n  s0 h0
theorem ok_df_X13_countOf_59 {w m : Prop} {S0 : St} (n : Nat) (g4 : Int32 → Int32 → Int32 → (St) → Option (Int32 × (St))) (x1 : Int32) (x3 : Int32) (y0 : Int32) (hg4 : ∀ (y0 : Int32) (y1 : Int32) (y2 : Int32) (s : (St)), FrR w m S0 s → Ok (fun r => FrR w m S0 r.2) (g4 y0 y1 y2 s)) (s0 : St) (h0 : FrR w m S0 s0) : Ok (fun r => FrR w m S0 r.2) (df_X13_countOf_59 n g4 x1 x3 y0 s0) := by
  unfold df_X13_countOf_59
  exact ok_lv (fun z5 => hg4 (x1) (y0) (z5) s0 h0)
theorem ok_dF_X13_countOf_4 {w m : Prop} {S0 : St} (n : Nat) (g4 : Int32 → Int32 → Int32 → (St) → Option (Int32 × (St))) (x1 : Int32) (x2 : Int32) (x3 : Int32) (hg4 : ∀ (y0 : Int32) (y1 : Int32) (y2 : Int32) (s : (St)), FrR w m S0 s → Ok (fun r => FrR w m S0 r.2) (g4 y0 y1 y2 s)) (s0 : St) (h0 : FrR w m S0 s0) : Ok (fun r => FrR w m S0 r.2) (dF_X13_countOf_4 n g4 x1 x2 x3 s0) := by
  unfold dF_X13_countOf_4
  exact ok_ite (fun hc => ok_some (h0)) (fun _ => ok_ite (fun hc => ok_ck (ok_ite (fun hc => ok_df_X13_countOf_59 n g4 (x1) (x3) (x2) hg4 s0 h0) (fun _ => ok_df_X13_countOf_59 n g4 (x1) (x3) ((x2 + 1)) hg4 s0 h0))) (fun _ => ok_ck (ok_ite (fun hc => ok_df_X13_countOf_59 n g4 (x1) (x3) ((x2 + 1)) hg4 s0 h0) (fun _ => ok_df_X13_countOf_59 n g4 (x1) (x3) (x2) hg4 s0 h0))))
theorem ok_df_X13_countOf_4 {w m : Prop} {S0 : St} (n : Nat)  : ∀ (kk : Nat) (y0 : Int32) (y1 : Int32) (y2 : Int32) (s : (St)), FrR w m S0 s → Ok (fun r => FrR w m S0 r.2) (df_X13_countOf_4 n  kk y0 y1 y2 s) := fun kk => by
  induction kk with
  | zero => intros; exact ok_none
  | succ kk ih =>
    intro y0 y1 y2 s hs
    exact ok_dF_X13_countOf_4 n  (df_X13_countOf_4 n  kk) y0 y1 y2  ih s hs
theorem ok_df_X13_countOf_0 {w m : Prop} {S0 : St} (n : Nat) (v0 : Int32) (s0 : St) (h0 : FrR w m S0 s0) : Ok (fun r => FrR w m S0 r.2) (df_X13_countOf_0 n v0 s0) := by
  unfold df_X13_countOf_0
  exact ok_df_X13_countOf_4 n  n (v0) (0) (0) s0 h0
theorem ok_df_X13_countOf {w m : Prop} {S0 : St} (n : Nat) (v0 : Int32) (s0 : St) (h0 : FrR w m S0 s0) : Ok (fun r => FrR w m S0 r.2) (df_X13_countOf n v0 s0) := by
  unfold df_X13_countOf
  exact ok_df_X13_countOf_0 n v0 s0 h0
theorem ok_df_X13_textSize_0 {w m : Prop} {S0 : St} (n : Nat)  (s0 : St) (h0 : FrR w m S0 s0) : Ok (fun r => FrR w m S0 r.2) (df_X13_textSize_0 n  s0) := by
  unfold df_X13_textSize_0
  exact ok_some (h0)
theorem ok_df_X13_textSize {w m : Prop} {S0 : St} (n : Nat)  (s0 : St) (h0 : FrR w m S0 s0) : Ok (fun r => FrR w m S0 r.2) (df_X13_textSize n  s0) := by
  unfold df_X13_textSize
  exact ok_df_X13_textSize_0 n  s0 h0
theorem ok_df_X13_dataBegin_0 {w m : Prop} {S0 : St} (n : Nat)  (s0 : St) (h0 : FrR w m S0 s0) : Ok (fun r => FrR w m S0 r.2) (df_X13_dataBegin_0 n  s0) := by
  unfold df_X13_dataBegin_0
  exact ok_b2S (ok_df_X13_base n  s0 h0) (fun q1 s2 h1 => ok_some (h1))
theorem ok_df_X13_dataBegin {w m : Prop} {S0 : St} (n : Nat)  (s0 : St) (h0 : FrR w m S0 s0) : Ok (fun r => FrR w m S0 r.2) (df_X13_dataBegin n  s0) := by
  unfold df_X13_dataBegin
  exact ok_df_X13_dataBegin_0 n  s0 h0
theorem ok_df_X13_end_0 {w m : Prop} {S0 : St} (n : Nat)  (s0 : St) (h0 : FrR w m S0 s0) : Ok (fun r => FrR w m S0 r.2) (df_X13_end_0 n  s0) := by
  unfold df_X13_end_0
  exact ok_b2S (ok_df_X13_all n  s0 h0) (fun q1 s2 h1 => ok_some (h1))
theorem ok_df_X13_end {w m : Prop} {S0 : St} (n : Nat)  (s0 : St) (h0 : FrR w m S0 s0) : Ok (fun r => FrR w m S0 r.2) (df_X13_end n  s0) := by
  unfold df_X13_end
  exact ok_df_X13_end_0 n  s0 h0
theorem ok_dF_X13_put__112 {w m : Prop} {S0 : St} (n : Nat) (g35 : Int32 → Int32 → Int32 → Int32 → (St) → Option (St)) (g112 : Int32 → Int32 → Int32 → Int32 → Int32 → (St) → Option (St)) (x2 : Int32) (x3 : Int32) (x4 : Int32) (x5 : Int32) (x7 : Int32) (hg35 : ∀ (y0 : Int32) (y1 : Int32) (y2 : Int32) (y3 : Int32) (s : (St)), FrR w m S0 s → Ok (fun r => FrR w m S0 r) (g35 y0 y1 y2 y3 s)) (hg112 : ∀ (y0 : Int32) (y1 : Int32) (y2 : Int32) (y3 : Int32) (y4 : Int32) (s : (St)), FrR w m S0 s → Ok (fun r => FrR w m S0 r) (g112 y0 y1 y2 y3 y4 s)) (hw : ¬ (w ∨ m)) (s0 : St) (h0 : FrR w m S0 s0) : Ok (fun r => FrR w m S0 r) (dF_X13_put__112 n g35 g112 x2 x3 x4 x5 x7 s0) := by
  unfold dF_X13_put__112
  exact ok_ck (ok_b2S (ok_df_X13_sizeAt n (x5) ((sR s0 4 (Int32.toNatClampNeg x5))) s0 h0) (fun q17 s18 h1 => ok_ite (fun hc => ok_lv (fun z21 => hg35 (x2) (x3) (x4) (z21) s18 h1)) (fun _ => ok_ck (ok_ck (ok_lS ((fr_9n hw h1)) (fun s24 h2 => ok_lv (fun z25 => hg112 (x2) (x3) (x4) (x5) (z25) s24 h2)))))))
theorem ok_df_X13_put__112 {w m : Prop} {S0 : St} (n : Nat) (g35 : Int32 → Int32 → Int32 → Int32 → (St) → Option (St)) (hg35 : ∀ (y0 : Int32) (y1 : Int32) (y2 : Int32) (y3 : Int32) (s : (St)), FrR w m S0 s → Ok (fun r => FrR w m S0 r) (g35 y0 y1 y2 y3 s)) (hw : ¬ (w ∨ m)) : ∀ (kk : Nat) (y0 : Int32) (y1 : Int32) (y2 : Int32) (y3 : Int32) (y4 : Int32) (s : (St)), FrR w m S0 s → Ok (fun r => FrR w m S0 r) (df_X13_put__112 n g35 kk y0 y1 y2 y3 y4 s) := fun kk => by
  induction kk with
  | zero => intros; exact ok_none
  | succ kk ih =>
    intro y0 y1 y2 y3 y4 s hs
    exact ok_dF_X13_put__112 n g35 (df_X13_put__112 n g35 kk) y0 y1 y2 y3 y4 hg35 ih hw s hs
theorem ok_df_X13_put__79 {w m : Prop} {S0 : St} (n : Nat) (g35 : Int32 → Int32 → Int32 → Int32 → (St) → Option (St)) (g44 : Int32 → Int32 → Int32 → Int32 → (St) → Option (St)) (x2 : Int32) (x4 : Int32) (x5 : Int32) (y0 : Int32) (hg35 : ∀ (y0 : Int32) (y1 : Int32) (y2 : Int32) (y3 : Int32) (s : (St)), FrR w m S0 s → Ok (fun r => FrR w m S0 r) (g35 y0 y1 y2 y3 s)) (hg44 : ∀ (y0 : Int32) (y1 : Int32) (y2 : Int32) (y3 : Int32) (s : (St)), FrR w m S0 s → Ok (fun r => FrR w m S0 r) (g44 y0 y1 y2 y3 s)) (hw : ¬ (w ∨ m)) (s0 : St) (h0 : FrR w m S0 s0) : Ok (fun r => FrR w m S0 r) (df_X13_put__79 n g35 g44 x2 x4 x5 y0 s0) := by
  unfold df_X13_put__79
  exact ok_lv (fun z28 => hg44 (x2) (y0) (z28) (x5) s0 h0)
theorem ok_dF_X13_put__44 {w m : Prop} {S0 : St} (n : Nat) (g35 : Int32 → Int32 → Int32 → Int32 → (St) → Option (St)) (g44 : Int32 → Int32 → Int32 → Int32 → (St) → Option (St)) (x2 : Int32) (x3 : Int32) (x4 : Int32) (x5 : Int32) (hg35 : ∀ (y0 : Int32) (y1 : Int32) (y2 : Int32) (y3 : Int32) (s : (St)), FrR w m S0 s → Ok (fun r => FrR w m S0 r) (g35 y0 y1 y2 y3 s)) (hg44 : ∀ (y0 : Int32) (y1 : Int32) (y2 : Int32) (y3 : Int32) (s : (St)), FrR w m S0 s → Ok (fun r => FrR w m S0 r) (g44 y0 y1 y2 y3 s)) (hw : ¬ (w ∨ m)) (s0 : St) (h0 : FrR w m S0 s0) : Ok (fun r => FrR w m S0 r) (dF_X13_put__44 n g35 g44 x2 x3 x4 x5 s0) := by
  unfold dF_X13_put__44
  exact ok_ck (ok_ite (fun hc => ok_b2S (ok_df_X13_addressOf n (x5) s0 h0) (fun q9 s10 h1 => ok_lS ((fr_I (by decide) h1)) (fun s12 h2 => ok_b1S (ok_df_X13_again n (x5) (3) (fun x => (hw x).elim) s12 h2) (fun s14 h3 => ok_df_X13_put__112 n g35 hg35 hw n (x2) (x3) (x4) (x5) (0) s14 h3)))) (fun _ => ok_ck (ok_ite (fun hc => ok_df_X13_put__79 n g35 g44 (x2) (x4) (x5) ((x3 + 1)) hg35 hg44 hw s0 h0) (fun _ => ok_df_X13_put__79 n g35 g44 (x2) (x4) (x5) (x3) hg35 hg44 hw s0 h0))))
theorem ok_df_X13_put__44 {w m : Prop} {S0 : St} (n : Nat) (g35 : Int32 → Int32 → Int32 → Int32 → (St) → Option (St)) (hg35 : ∀ (y0 : Int32) (y1 : Int32) (y2 : Int32) (y3 : Int32) (s : (St)), FrR w m S0 s → Ok (fun r => FrR w m S0 r) (g35 y0 y1 y2 y3 s)) (hw : ¬ (w ∨ m)) : ∀ (kk : Nat) (y0 : Int32) (y1 : Int32) (y2 : Int32) (y3 : Int32) (s : (St)), FrR w m S0 s → Ok (fun r => FrR w m S0 r) (df_X13_put__44 n g35 kk y0 y1 y2 y3 s) := fun kk => by
  induction kk with
  | zero => intros; exact ok_none
  | succ kk ih =>
    intro y0 y1 y2 y3 s hs
    exact ok_dF_X13_put__44 n g35 (df_X13_put__44 n g35 kk) y0 y1 y2 y3 hg35 ih hw s hs
theorem ok_dF_X13_put__35 {w m : Prop} {S0 : St} (n : Nat) (g35 : Int32 → Int32 → Int32 → Int32 → (St) → Option (St)) (x2 : Int32) (x3 : Int32) (x4 : Int32) (x5 : Int32) (hg35 : ∀ (y0 : Int32) (y1 : Int32) (y2 : Int32) (y3 : Int32) (s : (St)), FrR w m S0 s → Ok (fun r => FrR w m S0 r) (g35 y0 y1 y2 y3 s)) (hw : ¬ (w ∨ m)) (s0 : St) (h0 : FrR w m S0 s0) : Ok (fun r => FrR w m S0 r) (dF_X13_put__35 n g35 x2 x3 x4 x5 s0) := by
  unfold dF_X13_put__35
  exact ok_ite (fun hc => ok_some (h0)) (fun _ => ok_df_X13_put__44 n g35 hg35 hw n (x2) (x3) (x4) (x5) s0 h0)
theorem ok_df_X13_put__35 {w m : Prop} {S0 : St} (n : Nat)  (hw : ¬ (w ∨ m)) : ∀ (kk : Nat) (y0 : Int32) (y1 : Int32) (y2 : Int32) (y3 : Int32) (s : (St)), FrR w m S0 s → Ok (fun r => FrR w m S0 r) (df_X13_put__35 n  kk y0 y1 y2 y3 s) := fun kk => by
  induction kk with
  | zero => intros; exact ok_none
  | succ kk ih =>
    intro y0 y1 y2 y3 s hs
    exact ok_dF_X13_put__35 n  (df_X13_put__35 n  kk) y0 y1 y2 y3  ih hw s hs
theorem ok_dF_X13_put__2 {w m : Prop} {S0 : St} (n : Nat) (g2 : Int32 → Int32 → (St) → Option (St)) (x2 : Int32) (x3 : Int32) (hg2 : ∀ (y0 : Int32) (y1 : Int32) (s : (St)), FrR w m S0 s → Ok (fun r => FrR w m S0 r) (g2 y0 y1 s)) (hw : ¬ (w ∨ m)) (s0 : St) (h0 : FrR w m S0 s0) : Ok (fun r => FrR w m S0 r) (dF_X13_put__2 n g2 x2 x3 s0) := by
  unfold dF_X13_put__2
  exact ok_b2S (ok_df_X13_all n  s0 h0) (fun q1 s2 h1 => ok_ite (fun hc => ok_lS ((fr_O h1)) (fun s5 h2 => ok_df_X13_put__35 n  hw n (x2) (1) (0) (0) s5 h2)) (fun _ => ok_ck (ok_lS ((fr_9n hw h1)) (fun s30 h3 => ok_lv (fun z31 => hg2 (x2) (z31) s30 h3)))))
theorem ok_df_X13_put__2 {w m : Prop} {S0 : St} (n : Nat)  (hw : ¬ (w ∨ m)) : ∀ (kk : Nat) (y0 : Int32) (y1 : Int32) (s : (St)), FrR w m S0 s → Ok (fun r => FrR w m S0 r) (df_X13_put__2 n  kk y0 y1 s) := fun kk => by
  induction kk with
  | zero => intros; exact ok_none
  | succ kk ih =>
    intro y0 y1 s hs
    exact ok_dF_X13_put__2 n  (df_X13_put__2 n  kk) y0 y1  ih hw s hs
theorem ok_df_X13_put__0 {w m : Prop} {S0 : St} (n : Nat) (v1 : Int32) (hw : ¬ (w ∨ m)) (s0 : St) (h0 : FrR w m S0 s0) : Ok (fun r => FrR w m S0 r) (df_X13_put__0 n v1 s0) := by
  unfold df_X13_put__0
  exact ok_df_X13_put__2 n  hw n (v1) (0) s0 h0
theorem ok_df_X13_put_ {w m : Prop} {S0 : St} (n : Nat) (v1 : Int32) (hw : ¬ (w ∨ m)) (s0 : St) (h0 : FrR w m S0 s0) : Ok (fun r => FrR w m S0 r) (df_X13_put_ n v1 s0) := by
  unfold df_X13_put_
  exact ok_df_X13_put__0 n v1 hw s0 h0
theorem ok_df_X13_assemble_142 {w m : Prop} {S0 : St} (n : Nat) (y1 : Int32) (s0 : St × (St)) (h0 : FrR w m S0 s0.2) : Ok (fun r => FrR w m S0 r.2.2) (df_X13_assemble_142 n y1 s0) := by
  unfold df_X13_assemble_142
  exact ok_f (fun hf1 => ok_z (ok_lP ((fr_I (by decide) h0)) (fun s24 h2 => ok_some (h2))))
theorem ok_df_X13_assemble_129 {w m : Prop} {S0 : St} (n : Nat)  (s0 : St × (St)) (h0 : FrR w m S0 s0.2) : Ok (fun r => FrR w m S0 r.2.2) (df_X13_assemble_129 n  s0) := by
  unfold df_X13_assemble_129
  exact ok_ite (fun hc => ok_df_X13_assemble_142 n (1) s0 h0) (fun _ => ok_df_X13_assemble_142 n (0) s0 h0)
theorem ok_dF_X13_assemble_84 {w m : Prop} {S0 : St} (n : Nat) (g84 : Int32 → (St × (St)) → Option (Int32 × (St × (St)))) (x3 : Int32) (hg84 : ∀ (y0 : Int32) (s : (St × (St))), FrR w m S0 s.2 → Ok (fun r => FrR w m S0 r.2.2) (g84 y0 s)) (s0 : St × (St)) (h0 : FrR w m S0 s0.2) : Ok (fun r => FrR w m S0 r.2.2) (dF_X13_assemble_84 n g84 x3 s0) := by
  unfold dF_X13_assemble_84
  exact ok_ite (fun hc => ok_df_X13_assemble_129 n  s0 h0) (fun _ => ok_ite (fun hc => ok_ck (ok_b2S (ok_df_X13_lineOf n (((sR s0.2 3 (Int32.toNatClampNeg x3)) &&& 131071)) s0.2 h0) (fun q27 s28 h1 => ok_lP (h1) (fun s30 h2 => ok_lP ((fr_I (by decide) h2)) (fun s31 h3 => ok_b1S (ok_df_X13_again n (x3) (2) (fun _ => by decide) s31.2 h3) (fun s33 h4 => ok_lP (h4) (fun s35 h5 => ok_lv (fun z36 => hg84 (z36) s35 h5)))))))) (fun _ => ok_df_X13_assemble_129 n  s0 h0))
theorem ok_df_X13_assemble_84 {w m : Prop} {S0 : St} (n : Nat)  : ∀ (kk : Nat) (y0 : Int32) (s : (St × (St))), FrR w m S0 s.2 → Ok (fun r => FrR w m S0 r.2.2) (df_X13_assemble_84 n  kk y0 s) := fun kk => by
  induction kk with
  | zero => intros; exact ok_none
  | succ kk ih =>
    intro y0 s hs
    exact ok_dF_X13_assemble_84 n  (df_X13_assemble_84 n  kk) y0  ih s hs
theorem ok_df_X13_assemble_82 {w m : Prop} {S0 : St} (n : Nat)  (s0 : St × (St)) (h0 : FrR w m S0 s0.2) : Ok (fun r => FrR w m S0 r.2.2) (df_X13_assemble_82 n  s0) := by
  unfold df_X13_assemble_82
  exact ok_df_X13_assemble_84 n  n (0) s0 h0
theorem ok_dF_X13_assemble_7 {w m : Prop} {S0 : St} (n : Nat) (g7 : Int32 → (St × (St)) → Option (Int32 × (St × (St)))) (x3 : Int32) (hg7 : ∀ (y0 : Int32) (s : (St × (St))), FrR w m S0 s.2 → Ok (fun r => FrR w m S0 r.2.2) (g7 y0 s)) (s0 : St × (St)) (h0 : FrR w m S0 s0.2) : Ok (fun r => FrR w m S0 r.2.2) (dF_X13_assemble_7 n g7 x3 s0) := by
  unfold dF_X13_assemble_7
  exact ok_ite (fun hc => ok_lP ((fr_I (by decide) h0)) (fun s3 h1 => ok_lP ((fr_I (by decide) h1)) (fun s4 h2 => ok_b1S (ok_df_X13_readAll n  s4.2 h2) (fun s6 h3 => ok_lP (h3) (fun s8 h4 => ok_ite (fun hc => ok_b1S (ok_df_X13_stretch n  s8.2 h4) (fun s11 h5 => ok_lP (h5) (fun s13 h6 => ok_lP ((fr_I (by decide) h6)) (fun s14 h7 => ok_b2S (ok_df_X13_all n  s14.2 h7) (fun q15 s16 h8 => ok_lP (h8) (fun s18 h9 => ok_ite (fun hc => ok_df_X13_assemble_82 n  s18 h9) (fun _ => ok_lP ((fr_I (by decide) h9)) (fun s37 h10 => ok_df_X13_assemble_82 n  s37 h10)))))))) (fun _ => ok_some (h4))))))) (fun _ => ok_ck (ok_ck (ok_lP ((fr_R (by decide) h0)) (fun s40 h11 => ok_lv (fun z41 => hg7 (z41) s40 h11)))))
theorem ok_df_X13_assemble_7 {w m : Prop} {S0 : St} (n : Nat)  : ∀ (kk : Nat) (y0 : Int32) (s : (St × (St))), FrR w m S0 s.2 → Ok (fun r => FrR w m S0 r.2.2) (df_X13_assemble_7 n  kk y0 s) := fun kk => by
  induction kk with
  | zero => intros; exact ok_none
  | succ kk ih =>
    intro y0 s hs
    exact ok_dF_X13_assemble_7 n  (df_X13_assemble_7 n  kk) y0  ih s hs
theorem ok_df_X13_assemble_0 {w m : Prop} {S0 : St} (n : Nat) (v1 : Int32) (s0 : St × (St)) (h0 : FrR w m S0 s0.2) : Ok (fun r => FrR w m S0 r.2.2) (df_X13_assemble_0 n v1 s0) := by
  unfold df_X13_assemble_0
  exact ok_lP ((fr_I (by decide) h0)) (fun s1 h1 => ok_df_X13_assemble_7 n  n (0) s1 h1)
theorem ok_df_X13_assemble {w m : Prop} {S0 : St} (n : Nat) (v1 : Int32) (s0 : St × (St)) (h0 : FrR w m S0 s0.2) : Ok (fun r => FrR w m S0 r.2.2) (df_X13_assemble n v1 s0) := by
  unfold df_X13_assemble
  exact ok_df_X13_assemble_0 n v1 s0 h0

