/-- what becomes a tied machine is tied -/
theorem tB_become (n : Nat) (hn : 1024 < n) {v : Int32} {Q : St} {L : Nat → List (Nat × Int64 × Int32)} {c : Nat} {A B : St × St} {s0 : St} (h : tB n v Q L c B) : ∃ M' : St × St, df_X6_become n (s0, (A, B)) = some (s0, (M', B)) ∧ tB n v Q L c M' := by
  obtain ⟨⟨X, hX⟩, h2⟩ := h
  obtain ⟨M', e1, e2⟩ := rM_become n hn (A := A) (s0 := s0) (h2 X hX).1
  refine ⟨M', e1, ⟨X, hX⟩, fun Y hY => ?_⟩
  obtain ⟨a1, a2⟩ := h2 Y hY
  exact ⟨e2 _ Y a1, a2⟩
/-- a copy is kept -/
theorem kc_1 (n : Nat) {s : St × Rw × (St × (St × (St × (St)))) × (St) × (St) × (Nat → St) × (Nat → St) × (Nat → St × (St))} {cp c j : Nat} {M' : St × St} (hcp : cp < 8) (e1 : sI s.1 1 = nI cp) (e3 : sI s.1 3 = nI c) (ej : s.2.1 3 cp = some j) (hj : j < 8) (hb : df_X6_become n (nd_st0, (s.2.2.2.2.2.2.2 j, s.2.2.1.2.2)) = some (nd_st0, (M', s.2.2.1.2.2))) : df_X11_keepCopy n s = some (pI (pR s.1 1 (upd (sR s.1 1) cp (nI c))) 1 (nI (cp + 1)), (s.2.1, (s.2.2.1, (s.2.2.2.1, (s.2.2.2.2.1, (s.2.2.2.2.2.1, (s.2.2.2.2.2.2.1, fun i => if i = j then M' else s.2.2.2.2.2.2.2 i))))))) := by
  have u1 : cp < 2 ^ 31 := by omega
  have k2 : nI cp + 1 = nI (cp + 1) := nI_add ..
  unfold df_X11_keepCopy df_X11_keepCopy_0
  rw [e1, if_neg (show ¬ (8 : Int32) ≤ nI cp from fun z => by have z : nI 8 ≤ nI cp := z; rw [nI_leI (by omega) u1] at z; omega), nm_ck hcp u1, nI_clamp u1, ej, nb_mS, nb_lt hj, hb, nb_b1, nb_let]
  dsimp only
  rw [e1, nm_ck hcp u1, nI_clamp u1, e3, nb_let, nb_let]
  dsimp only
  rw [show ∀ f : Nat → Int32, sI (pR s.1 1 f) 1 = nI cp from fun _ => e1, k2]
  rfl
/-- one turn of thinning out -/
theorem th_1 (n : Nat) {s : St × Rw × (St × (St × (St × (St)))) × (St) × (St) × (Nat → St) × (Nat → St) × (Nat → St × (St))} {g : Int32 → St × Rw × (St × (St × (St × (St)))) × (St) × (St) × (Nat → St) × (Nat → St) × (Nat → St × (St)) → Option (St × Rw × (St × (St × (St × (St)))) × (St) × (St) × (Nat → St) × (Nat → St) × (Nat → St × (St)))} {i j1 j2 : Nat} (hi : 1 ≤ i) (hi3 : i ≤ 3) (e1 : s.2.1 3 i = some j1) (e2 : s.2.1 3 (2 * i) = some j2) (h1 : j1 < 8) (h2 : j2 < 8) : dF_X11_thinOut_2 n g (nI i) s = g (nI (i + 1)) (pR s.1 1 (upd (sR s.1 1) i (sR s.1 1 (2 * i))), (pW s.2.1 3 (va_up (va_up (s.2.1 3) i (some j2)) (2 * i) (some j1)), s.2.2)) := by
  have u1 : i < 2 ^ 31 := by omega
  have u2 : 2 * i < 2 ^ 31 := by omega
  have k1 : (2 : Int32) * nI i = nI (2 * i) := by
    show nI 2 * nI i = nI (2 * i)
    exact pk_mul ..
  have k2 : nI i + Int32.ofInt 1 = nI (i + 1) := nI_add ..
  have pw : ∀ (r : Rw) (f g : Nat → Option Nat), pW (pW r 3 f) 3 g = pW r 3 g := fun r f g => by
    funext a
    unfold pW
    by_cases c : a = 3
    · rw [if_pos c, if_pos c]
    · rw [if_neg c, if_neg c, if_neg c]
  have pr : ∀ (r : Rw) (f : Nat → Option Nat), (pW r 3 f) 3 = f := fun r f => if_pos rfl
  unfold dF_X11_thinOut_2
  rw [k1, if_neg (show ¬ (8 : Int32) ≤ nI (2 * i) from fun z => by have z : nI 8 ≤ nI (2 * i) := z; rw [nI_leI (by omega) u2] at z; omega), nm_ck (by omega) u1, nI_clamp u1, e1, nb_mS, nm_ck (by omega) u2, nI_clamp u2, e2, nb_mS, nm_ck (by omega) u1, nb_lt h2, nb_let, nm_ck (by omega) u2, nb_lt h1, nb_let, nm_ck (by omega) u2, nm_ck (by omega) u1, nb_let, nb_let, k2]
  dsimp only
  rw [pr, pw]
theorem th_4 (n : Nat) {s : St × Rw × (St × (St × (St × (St)))) × (St) × (St) × (Nat → St) × (Nat → St) × (Nat → St × (St))} {g : Int32 → St × Rw × (St × (St × (St × (St)))) × (St) × (St) × (Nat → St) × (Nat → St) × (Nat → St × (St)) → Option (St × Rw × (St × (St × (St × (St)))) × (St) × (St) × (Nat → St) × (Nat → St) × (Nat → St × (St)))} {sp : Nat} (e2 : sI s.1 2 = nI sp) : dF_X11_thinOut_2 n g (nI 4) s = some (pI (pI s.1 1 (nI 4)) 2 (nI (sp * 2)), s.2) := by
  unfold dF_X11_thinOut_2
  rw [if_pos (show (8 : Int32) ≤ 2 * nI 4 by decide), nb_let, nb_let]
  dsimp only
  rw [show sI (pI s.1 1 4) 2 = nI sp from e2, show nI sp * 2 = nI (sp * 2) from pk_mul ..]
  rfl
