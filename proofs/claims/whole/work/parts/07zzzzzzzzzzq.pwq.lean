/-- bytes at a place -/
theorem wrC_p : ∀ (xs : List Int32) (f : Nat → Int32) (a i : Nat), wrC f a xs i = if a ≤ i ∧ i < a + xs.length then btI (xs.getD (i - a) 0) else f i := fun xs => by
  induction xs with
  | nil =>
    intro f a i
    rw [if_neg (show ¬ (a ≤ i ∧ i < a + ([] : List Int32).length) by show ¬ (a ≤ i ∧ i < a + 0); omega)]
    rfl
  | cons x xs ih =>
    intro f a i
    show wrC (upd f a (btI x)) (a + 1) xs i = if a ≤ i ∧ i < a + (xs.length + 1) then btI ((x :: xs).getD (i - a) 0) else f i
    rw [ih]
    by_cases y : i = a
    · subst y
      rw [if_neg (show ¬ (i + 1 ≤ i ∧ i < i + 1 + xs.length) by omega), if_pos (show i ≤ i ∧ i < i + (xs.length + 1) by omega), up_e, Nat.sub_self]
      rfl
    · by_cases z : a ≤ i ∧ i < a + (xs.length + 1)
      · rw [if_pos (show a + 1 ≤ i ∧ i < a + 1 + xs.length by omega), if_pos z, show i - a = (i - (a + 1)) + 1 by omega]
        rfl
      · rw [if_neg (show ¬ (a + 1 ≤ i ∧ i < a + 1 + xs.length) by omega), if_neg z, up_n y]
theorem wrL_p : ∀ (xs : List Int32) (f : Nat → Int32) (a i : Nat), wrL f a xs i = if a ≤ i ∧ i < a + xs.length then (xs.getD (i - a) 0) &&& 255 else f i := fun xs => by
  induction xs with
  | nil =>
    intro f a i
    rw [if_neg (show ¬ (a ≤ i ∧ i < a + ([] : List Int32).length) by show ¬ (a ≤ i ∧ i < a + 0); omega)]
    rfl
  | cons x xs ih =>
    intro f a i
    show wrL (upd f a (x &&& 255)) (a + 1) xs i = if a ≤ i ∧ i < a + (xs.length + 1) then ((x :: xs).getD (i - a) 0) &&& 255 else f i
    rw [ih]
    by_cases y : i = a
    · subst y
      rw [if_neg (show ¬ (i + 1 ≤ i ∧ i < i + 1 + xs.length) by omega), if_pos (show i ≤ i ∧ i < i + (xs.length + 1) by omega), up_e, Nat.sub_self]
      rfl
    · by_cases z : a ≤ i ∧ i < a + (xs.length + 1)
      · rw [if_pos (show a + 1 ≤ i ∧ i < a + 1 + xs.length by omega), if_pos z, show i - a = (i - (a + 1)) + 1 by omega]
        rfl
      · rw [if_neg (show ¬ (a + 1 ≤ i ∧ i < a + 1 + xs.length) by omega), if_neg z, up_n y]
/-- no statement lies there -/
theorem imC_o {f0 : Nat → Int32} {ad : Nat → Nat} {BB : Nat → List Int32} {i : Nat} : ∀ m : Nat, (∀ t : Nat, t < m → ¬ (ad t ≤ i ∧ i < ad t + (BB t).length)) → imC f0 ad BB m i = f0 i := fun m => by
  induction m with
  | zero => intro _; rfl
  | succ m ih =>
    intro h
    show wrC (imC f0 ad BB m) (ad m) (BB m) i = _
    rw [wrC_p, if_neg (h m (by omega))]
    exact ih (fun t ht => h t (by omega))
theorem imC_i {f0 : Nat → Int32} {ad : Nat → Nat} {BB : Nat → List Int32} {i s : Nat} : ∀ m : Nat, s < m → (∀ t : Nat, t < m → ad t ≤ i → i < ad t + (BB t).length → t = s) → imC f0 ad BB m i = if ad s ≤ i ∧ i < ad s + (BB s).length then btI ((BB s).getD (i - ad s) 0) else f0 i := fun m => by
  induction m with
  | zero => intro h; exact absurd h (Nat.not_lt_zero _)
  | succ m ih =>
    intro h hu
    show wrC (imC f0 ad BB m) (ad m) (BB m) i = _
    rw [wrC_p]
    by_cases y : m = s
    · subst y
      rw [imC_o m (fun t ht w => by have := hu t (by omega) w.1 w.2; omega)]
    · rw [if_neg (fun w => y (hu m (by omega) w.1 w.2))]
      exact ih (by omega) (fun t ht => hu t (by omega))
theorem orL_p {OU : Nat → Int32} {a k ln i : Nat} : orL OU a k ln i = if a ≤ i ∧ i < a + k then OU i ||| (nI ln <<< ((8 : Int32) &&& 31)) else OU i := rfl
theorem rmR_o {OU0 : Nat → Int32} {fm : Nat} {ad : Nat → Nat} {BB : Nat → List Int32} {sz Ls : Nat → Nat} {i : Nat} : ∀ m : Nat, (∀ t : Nat, t < m → (BB t).length ≤ sz t ∧ ¬ (ad t ≤ i ∧ i < ad t + sz t)) → rmR OU0 fm ad BB sz Ls m (fm + i) = OU0 (fm + i) := fun m => by
  induction m with
  | zero => intro _; rfl
  | succ m ih =>
    intro h
    obtain ⟨h1, h2⟩ := h m (by omega)
    show orL (wrL (rmR OU0 fm ad BB sz Ls m) (fm + ad m) (BB m)) (fm + ad m) (sz m) (Ls m) (fm + i) = _
    rw [orL_p, if_neg (show ¬ (fm + ad m ≤ fm + i ∧ fm + i < fm + ad m + sz m) by omega), wrL_p, if_neg (show ¬ (fm + ad m ≤ fm + i ∧ fm + i < fm + ad m + (BB m).length) by omega)]
    exact ih (fun t ht => h t (by omega))
theorem rmR_i {OU0 : Nat → Int32} {fm : Nat} {ad : Nat → Nat} {BB : Nat → List Int32} {sz Ls : Nat → Nat} {i s : Nat} (hi : ad s ≤ i ∧ i < ad s + sz s) : ∀ m : Nat, s < m → (∀ t : Nat, t < m → (BB t).length ≤ sz t ∧ (ad t ≤ i → i < ad t + sz t → t = s)) → rmR OU0 fm ad BB sz Ls m (fm + i) = (if i < ad s + (BB s).length then (BB s).getD (i - ad s) 0 &&& 255 else OU0 (fm + i)) ||| (nI (Ls s) <<< ((8 : Int32) &&& 31)) := fun m => by
  induction m with
  | zero => intro h; exact absurd h (Nat.not_lt_zero _)
  | succ m ih =>
    intro h hu
    obtain ⟨h1, h2⟩ := hu m (by omega)
    show orL (wrL (rmR OU0 fm ad BB sz Ls m) (fm + ad m) (BB m)) (fm + ad m) (sz m) (Ls m) (fm + i) = _
    by_cases y : m = s
    · subst y
      rw [orL_p, if_pos (show fm + ad m ≤ fm + i ∧ fm + i < fm + ad m + sz m by omega), wrL_p, rmR_o m (fun t ht => ⟨(hu t (by omega)).1, fun w => by have := (hu t (by omega)).2 w.1 w.2; omega⟩)]
      congr 1
      by_cases w : i < ad m + (BB m).length
      · rw [if_pos w, if_pos (show fm + ad m ≤ fm + i ∧ fm + i < fm + ad m + (BB m).length by omega), show fm + i - (fm + ad m) = i - ad m by omega]
      · rw [if_neg w, if_neg (show ¬ (fm + ad m ≤ fm + i ∧ fm + i < fm + ad m + (BB m).length) by omega)]
    · have no : ¬ (ad m ≤ i ∧ i < ad m + sz m) := fun w => y (h2 w.1 w.2)
      rw [orL_p, if_neg (show ¬ (fm + ad m ≤ fm + i ∧ fm + i < fm + ad m + sz m) by omega), wrL_p, if_neg (show ¬ (fm + ad m ≤ fm + i ∧ fm + i < fm + ad m + (BB m).length) by omega)]
      exact ih (by omega) (fun t ht => hu t (by omega))
theorem or_8 {z l : Nat} (hz : z < 256) (hl : l < 2 ^ 22) : nI z ||| (nI l <<< ((8 : Int32) &&& 31)) = nI (l * 256 + z) := by
  rw [show ((8 : Int32) &&& 31) = nI 8 from by decide, nm_shl (by omega) (by omega), Int32.or_comm]
  exact nm_orG 8 (show z < 2 ^ 8 from hz) (by omega)
/-- the same byte and the line, at a place that a statement has -/
theorem byte_J {x : Int32} {l : Nat} (hl : l < 2 ^ 22) : ∃ z : Nat, z < 256 ∧ btI x = vp_nar .byte ((nI z).toInt8.toInt32) ∧ (x &&& 255) ||| (nI l <<< ((8 : Int32) &&& 31)) = nI (l * 256 + z) := by
  obtain ⟨z, h1, h2, h3⟩ := byte_m x
  exact ⟨z, h1, h3, by rw [h2]; exact or_8 h1 hl⟩
theorem byte_Z {l : Nat} (hl : l < 2 ^ 22) : vp_nar .byte 0 = vp_nar .byte ((nI 0).toInt8.toInt32) ∧ (0 : Int32) ||| (nI l <<< ((8 : Int32) &&& 31)) = nI (l * 256 + 0) := ⟨by decide, or_8 (z := 0) (by omega) hl⟩
/-- the class: the line of a place -/
theorem ln_34 {n : Nat} {P : St} {cnt i κ : Nat} {pl ln : Nat → Nat} (h5 : sI P 5 = nI cnt) (hc : cnt ≤ 8194) (h2 : ∀ k : Nat, k < cnt → sR P 2 k = nI (pl k) ∧ pl k ≤ 65536 ∧ sR P 3 k = nI (ln k)) (hi : i ≤ 65536) (hκ : κ < cnt) (hp : pl κ ≤ i) (hu : ∀ k : Nat, k < cnt → ¬ k = κ → pl k ≤ i → pl k < pl κ) : ∀ (m x g : Nat) (b : Option Nat), x + m = cnt → m < g → ((b = none ∧ x ≤ κ) ∨ ∃ b' : Nat, b = some b' ∧ b' < x ∧ pl b' ≤ i ∧ (κ < x → b' = κ)) → df_X8_lineOf_34 n g (nI i) (match b with | none => -1 | some b' => nI b') (nI x) P = some (nI (ln κ), P) := fun m => by
  induction m with
  | zero =>
    intro x g b e1 e2 hb
    obtain ⟨g, rfl⟩ : ∃ k : Nat, g = k + 1 := ⟨g - 1, by omega⟩
    rcases hb with ⟨b1, b2⟩ | ⟨b', b1, b2, b3, b4⟩
    · omega
    · have := b4 (by omega)
      subst this
      subst b1
      show dF_X8_lineOf_34 n (df_X8_lineOf_34 n g) (nI i) (nI b') (nI x) P = _
      unfold dF_X8_lineOf_34 df_X8_lineOf_93
      rw [h5, if_pos (zle (show cnt ≤ x by omega) (by omega)), if_pos (show (0 : Int32) ≤ nI b' from zle (a := 0) (Nat.zero_le _) (by omega)), nm_ck (by omega) (by omega), nI_clamp (by omega), (h2 b' hκ).2.2]
  | succ m ih =>
    intro x g b e1 e2 hb
    obtain ⟨g, rfl⟩ : ∃ k : Nat, g = k + 1 := ⟨g - 1, by omega⟩
    obtain ⟨p1, p2, p3⟩ := h2 x (by omega)
    have keep : ∀ b2 : Option Nat, ((b2 = none ∧ x + 1 ≤ κ) ∨ ∃ b' : Nat, b2 = some b' ∧ b' < x + 1 ∧ pl b' ≤ i ∧ (κ < x + 1 → b' = κ)) → df_X8_lineOf_73 n (df_X8_lineOf_34 n g) (nI i) (match b2 with | none => -1 | some b' => nI b') (nI x) P = some (nI (ln κ), P) := fun b2 hb2 => by
      unfold df_X8_lineOf_73
      rw [nb_let, show nI x + Int32.ofInt 1 = nI (x + 1) from nI_add x 1]
      exact ih (x + 1) g b2 (by omega) (by omega) hb2
    show dF_X8_lineOf_34 n (df_X8_lineOf_34 n g) (nI i) _ (nI x) P = _
    unfold dF_X8_lineOf_34 df_X8_lineOf_71
    rw [h5, if_neg (znle (show x < cnt by omega) (by omega)), nm_ck (by omega) (by omega), nI_clamp (by omega), p1]
    by_cases y : i < pl x
    · rw [if_pos (zlt y (by omega))]
      refine keep b ?_
      rcases hb with ⟨b1, b2⟩ | ⟨b', b1, b2, b3, b4⟩
      · refine Or.inl ⟨b1, ?_⟩
        by_cases w : x = κ
        · subst w; omega
        · omega
      · refine Or.inr ⟨b', b1, by omega, b3, fun w => ?_⟩
        by_cases w2 : x = κ
        · subst w2; omega
        · exact b4 (by omega)
    · rw [if_neg (znl (by omega) (by omega))]
      rcases hb with ⟨b1, b2⟩ | ⟨b', b1, b2, b3, b4⟩
      · subst b1
        dsimp only
        rw [if_pos (show (-1 : Int32) < 0 by decide)]
        refine keep (some x) (Or.inr ⟨x, rfl, by omega, by omega, fun w => ?_⟩)
        omega
      · subst b1
        obtain ⟨r1, r2, r3⟩ := h2 b' (by omega)
        dsimp only
        rw [if_neg (show ¬ nI b' < 0 from znl (b := 0) (Nat.zero_le _) (by omega)), nm_ck (by omega) (by omega), nm_ck (by omega) (by omega), nI_clamp (by omega), r1]
        by_cases w : pl x ≤ pl b'
        · rw [if_pos (zle w (by omega))]
          refine keep (some b') (Or.inr ⟨b', rfl, by omega, b3, fun w2 => ?_⟩)
          by_cases w3 : κ < x
          · exact b4 w3
          · have : x = κ := by omega
            subst this
            have := hu b' (by omega) (by omega) b3
            omega
        · rw [if_neg (znle (show pl b' < pl x by omega) (by omega))]
          refine keep (some x) (Or.inr ⟨x, rfl, by omega, by omega, fun w2 => ?_⟩)
          by_cases w3 : x = κ
          · exact w3
          · have w4 := b4 (by omega)
            have := hu x (by omega) w3 (by omega)
            rw [w4] at w
            omega
