/-- where the copies go as every second one goes -/
def tx (i : Nat) : Nat := if i = 1 then 2 else if i = 2 then 4 else if i = 3 then 6 else if i = 4 then 1 else if i = 6 then 3 else i
theorem tx_8 : ∀ i : Fin 8, tx i.1 < 8 := by decide
theorem tx_in : ∀ i j : Fin 8, tx i.1 = tx j.1 → i = j := by decide
theorem tx_4 : ∀ i : Fin 4, tx i.1 = 2 * i.1 := by decide
theorem vu_s {f : Nat → Option Nat} {i : Nat} {v : Option Nat} : va_up f i v i = v := if_pos rfl
theorem vu_n {f : Nat → Option Nat} {i j : Nat} {v : Option Nat} (h : j ≠ i) : va_up f i v j = f j := if_neg h
theorem th_all (n : Nat) (hn : 1024 < n) {s : St × Rw × (St × (St × (St × (St)))) × (St) × (St) × (Nat → St) × (Nat → St) × (Nat → St × (St))} {ix : Nat → Nat} {sp : Nat} (hx : ∀ i : Nat, i < 8 → s.2.1 3 i = some (ix i) ∧ ix i < 8) (e2 : sI s.1 2 = nI sp) : ∃ (R : Nat → Int32) (W : Nat → Option Nat), df_X11_thinOut n s = some (pI (pI (pR s.1 1 R) 1 (nI 4)) 2 (nI (sp * 2)), (pW s.2.1 3 W, s.2.2)) ∧ (∀ i : Nat, i < 8 → W i = some (ix (tx i)) ∧ ix (tx i) < 8) ∧ (∀ i : Nat, i < 4 → R i = sR s.1 1 (2 * i)) := by
  obtain ⟨m, rfl⟩ : ∃ m : Nat, n = m + 4 := ⟨n - 4, by omega⟩
  have pr : ∀ (r : Rw) (f : Nat → Option Nat), (pW r 3 f) 3 = f := fun r f => if_pos rfl
  have pw : ∀ (r : Rw) (f g : Nat → Option Nat), pW (pW r 3 f) 3 g = pW r 3 g := fun r f g => by
    funext a
    unfold pW
    by_cases c : a = 3
    · rw [if_pos c, if_pos c]
    · rw [if_neg c, if_neg c, if_neg c]
  obtain ⟨x1, y1⟩ := hx 1 (by omega)
  obtain ⟨x2, y2⟩ := hx 2 (by omega)
  obtain ⟨x3, y3⟩ := hx 3 (by omega)
  obtain ⟨x4, y4⟩ := hx 4 (by omega)
  obtain ⟨x6, y6⟩ := hx 6 (by omega)
  obtain ⟨x0, y0⟩ := hx 0 (by omega)
  obtain ⟨x5, y5⟩ := hx 5 (by omega)
  obtain ⟨x7, y7⟩ := hx 7 (by omega)
  generalize hW : s.2.1 3 = W at x0 x1 x2 x3 x4 x5 x6 x7
  have a1 := th_1 (m + 4) (g := df_X11_thinOut_2 (m + 4) (m + 3)) (s := s) (i := 1) (by omega) (by omega) (by rw [hW]; exact x1) (by rw [hW]; exact x2) y1 y2
  rw [hW] at a1
  have w2 : va_up (va_up W 1 (some (ix 2))) 2 (some (ix 1)) 2 = some (ix 1) := vu_s
  have w4 : va_up (va_up W 1 (some (ix 2))) 2 (some (ix 1)) 4 = some (ix 4) := by rw [vu_n (by omega), vu_n (by omega)]; exact x4
  have a2 := th_1 (m + 4) (g := df_X11_thinOut_2 (m + 4) (m + 2)) (s := (pR s.1 1 (upd (sR s.1 1) 1 (sR s.1 1 2)), (pW s.2.1 3 (va_up (va_up W 1 (some (ix 2))) 2 (some (ix 1))), s.2.2))) (i := 2) (by omega) (by omega) (by show (pW s.2.1 3 _) 3 2 = _; rw [pr]; exact w2) (by show (pW s.2.1 3 _) 3 4 = _; rw [pr]; exact w4) y1 y4
  dsimp only at a2
  rw [pr, pw] at a2
  have w3 : va_up (va_up (va_up (va_up W 1 (some (ix 2))) 2 (some (ix 1))) 2 (some (ix 4))) 4 (some (ix 1)) 3 = some (ix 3) := by rw [vu_n (by omega), vu_n (by omega), vu_n (by omega), vu_n (by omega)]; exact x3
  have w6 : va_up (va_up (va_up (va_up W 1 (some (ix 2))) 2 (some (ix 1))) 2 (some (ix 4))) 4 (some (ix 1)) 6 = some (ix 6) := by rw [vu_n (by omega), vu_n (by omega), vu_n (by omega), vu_n (by omega)]; exact x6
  have r1 : sR (pR s.1 1 (upd (sR s.1 1) 1 (sR s.1 1 2))) 1 = upd (sR s.1 1) 1 (sR s.1 1 2) := rfl
  rw [r1, nm_rr] at a2
  have q4 : upd (sR s.1 1) 1 (sR s.1 1 2) (2 * 2) = sR s.1 1 4 := nm_un (by omega)
  rw [q4] at a2
  have a3 := th_1 (m + 4) (g := df_X11_thinOut_2 (m + 4) (m + 1)) (s := (pR s.1 1 (upd (upd (sR s.1 1) 1 (sR s.1 1 2)) 2 (sR s.1 1 4)), (pW s.2.1 3 (va_up (va_up (va_up (va_up W 1 (some (ix 2))) 2 (some (ix 1))) 2 (some (ix 4))) 4 (some (ix 1))), s.2.2))) (i := 3) (by omega) (by omega) (by show (pW s.2.1 3 _) 3 3 = _; rw [pr]; exact w3) (by show (pW s.2.1 3 _) 3 6 = _; rw [pr]; exact w6) y3 y6
  dsimp only at a3
  rw [pr, pw] at a3
  have r2 : sR (pR s.1 1 (upd (upd (sR s.1 1) 1 (sR s.1 1 2)) 2 (sR s.1 1 4))) 1 = upd (upd (sR s.1 1) 1 (sR s.1 1 2)) 2 (sR s.1 1 4) := rfl
  rw [r2, nm_rr] at a3
  have q6 : upd (upd (sR s.1 1) 1 (sR s.1 1 2)) 2 (sR s.1 1 4) (2 * 3) = sR s.1 1 6 := by rw [nm_un (by omega), nm_un (by omega)]
  rw [q6] at a3
  refine ⟨upd (upd (upd (sR s.1 1) 1 (sR s.1 1 2)) 2 (sR s.1 1 4)) 3 (sR s.1 1 6), va_up (va_up (va_up (va_up (va_up (va_up W 1 (some (ix 2))) 2 (some (ix 1))) 2 (some (ix 4))) 4 (some (ix 1))) 3 (some (ix 6))) 6 (some (ix 3)), ?_, fun i hi => ?_, fun i hi => ?_⟩
  · refine Eq.trans (b := dF_X11_thinOut_2 (m + 4) (df_X11_thinOut_2 (m + 4) (m + 3)) (nI 1) s) rfl ?_
    rw [a1]
    refine Eq.trans (b := dF_X11_thinOut_2 (m + 4) (df_X11_thinOut_2 (m + 4) (m + 2)) (nI 2) (pR s.1 1 (upd (sR s.1 1) 1 (sR s.1 1 2)), (pW s.2.1 3 (va_up (va_up W 1 (some (ix 2))) 2 (some (ix 1))), s.2.2))) rfl ?_
    rw [a2]
    refine Eq.trans (b := dF_X11_thinOut_2 (m + 4) (df_X11_thinOut_2 (m + 4) (m + 1)) (nI 3) (pR s.1 1 (upd (upd (sR s.1 1) 1 (sR s.1 1 2)) 2 (sR s.1 1 4)), (pW s.2.1 3 (va_up (va_up (va_up (va_up W 1 (some (ix 2))) 2 (some (ix 1))) 2 (some (ix 4))) 4 (some (ix 1))), s.2.2))) rfl ?_
    rw [a3]
    refine Eq.trans (b := dF_X11_thinOut_2 (m + 4) (df_X11_thinOut_2 (m + 4) m) (nI 4) (pR s.1 1 (upd (upd (upd (sR s.1 1) 1 (sR s.1 1 2)) 2 (sR s.1 1 4)) 3 (sR s.1 1 6)), (pW s.2.1 3 (va_up (va_up (va_up (va_up (va_up (va_up W 1 (some (ix 2))) 2 (some (ix 1))) 2 (some (ix 4))) 4 (some (ix 1))) 3 (some (ix 6))) 6 (some (ix 3))), s.2.2))) rfl ?_
    exact th_4 (m + 4) (sp := sp) e2
  · have h8 : i = 0 ∨ i = 1 ∨ i = 2 ∨ i = 3 ∨ i = 4 ∨ i = 5 ∨ i = 6 ∨ i = 7 := by omega
    rcases h8 with e | e | e | e | e | e | e | e
    · subst e; exact ⟨by rw [vu_n (by omega), vu_n (by omega), vu_n (by omega), vu_n (by omega), vu_n (by omega), vu_n (by omega)]; exact x0, y0⟩
    · subst e; exact ⟨by rw [vu_n (by omega), vu_n (by omega), vu_n (by omega), vu_n (by omega), vu_n (by omega), vu_s]; rfl, y2⟩
    · subst e; exact ⟨by rw [vu_n (by omega), vu_n (by omega), vu_n (by omega), vu_s]; rfl, y4⟩
    · subst e; exact ⟨by rw [vu_n (by omega), vu_s]; rfl, y6⟩
    · subst e; exact ⟨by rw [vu_n (by omega), vu_n (by omega), vu_s]; rfl, y1⟩
    · subst e; exact ⟨by rw [vu_n (by omega), vu_n (by omega), vu_n (by omega), vu_n (by omega), vu_n (by omega), vu_n (by omega)]; exact x5, y5⟩
    · subst e; exact ⟨by rw [vu_s]; rfl, y3⟩
    · subst e; exact ⟨by rw [vu_n (by omega), vu_n (by omega), vu_n (by omega), vu_n (by omega), vu_n (by omega), vu_n (by omega)]; exact x7, y7⟩
  · have h4 : i = 0 ∨ i = 1 ∨ i = 2 ∨ i = 3 := by omega
    rcases h4 with e | e | e | e
    · subst e; rw [nm_un (by omega), nm_un (by omega), nm_un (by omega)]
    · subst e; rw [nm_un (by omega), nm_un (by omega)]; exact nm_us
    · subst e; rw [nm_un (by omega)]; exact nm_us
    · subst e; exact nm_us
