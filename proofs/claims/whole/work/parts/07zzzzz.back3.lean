/-- the reference looks through all counts -/
theorem rk_67 (n : Nat) (hn : 70000 < n) {vn A : Nat} {Q V : St} {N T e c : Nat} {lo : Nat → Nat} {Cd Y : St} {hv : Nat → Int64} {t : S11} (hI : cI n vn Q V N T e c lo t) (he : e ≤ 60000) (hhv : ∀ d : Nat, d ≤ e → vA n vn Q (lgL (evK V) lo) A Cd Y d (hv d)) : ∀ (m k g : Nat) (τ : S19), m + 1 < g → k + m + 1 = c → rLg τ.1 N e lo → (∀ i : Nat, i < N → evT τ.1 i = evK V i) → RA n (nI vn) Q (lgL (evK V) lo) k τ.2.2.1.2 → sI τ.1 10 = nI (lo (k + 1)) → sI τ.1 5 = nI c → sI τ.2.2.1.2.1 14 = -nI 1 → ySt A Y τ.2.2.1.1 → (k = 0 ∨ ∃ (X0 : St × St) (Y0 : St), RA n (nI vn) Q (lgL (evK V) lo) (k - 1) X0 ∧ ySt A Y Y0 ∧ df_X15_remember n (nI A) (Y0, X0) = some (τ.2.2.1.1, X0)) → ∃ (X' : St × St) (Y' : St), df_X19_backTo_67 n g (nI A) (lw (fun d => decide (¬ hv d = 0)) k) (nI k) τ = some (lw (fun d => decide (¬ hv d = 0)) c, (pI (pI τ.1 10 (nI (lo c))) 5 (if lw (fun d => decide (¬ hv d = 0)) c = -nI 1 then nI c else lw (fun d => decide (¬ hv d = 0)) c), (τ.2.1, ((Y', X'), τ.2.2.2)))) ∧ RA n (nI vn) Q (lgL (evK V) lo) (c - 1) X' ∧ sI X'.1 14 = -nI 1 ∧ yFr τ.2.2.1.1 Y' := fun m => by
  induction m with
  | zero =>
    intro k g τ hg hk hL hev hX h10 h5 h14 hY hm
    obtain ⟨g1, rfl⟩ : ∃ g1 : Nat, g = g1 + 2 := ⟨g - 2, by omega⟩
    obtain ⟨_, _, hs, hPp, hce, _⟩ := id hI
    obtain ⟨M0, tA0, _⟩ := hs.2 (k - 1) (by omega)
    obtain ⟨M1, tA1, _⟩ := hs.2 k (by omega)
    obtain ⟨M2, tA2, _⟩ := hs.2 (k + 1) (by omega)
    obtain ⟨X2, x2⟩ := tA2.1
    have k1 : nI k + Int32.ofInt 1 = nI (k + 1) := nI_add ..
    have k1' : nI k + 1 = nI (k + 1) := nI_add ..
    -- what follows, of a memory
    have go : ∀ (X0 : St × St) (Y0 Y1 : St), RA n (nI vn) Q (lgL (evK V) lo) (k - 1) X0 → ySt A Y Y0 → df_X15_remember n (nI A) (Y0, X0) = some (Y1, X0) → yFr τ.2.2.1.1 Y1 → ∃ Y' : St, df_X19_backTo_89 n (df_X19_backTo_67 n (g1 + 1)) (nI A) (lw (fun d => decide (¬ hv d = 0)) k) (nI k) (stY τ Y1) = some (lw (fun d => decide (¬ hv d = 0)) c, (pI (pI τ.1 10 (nI (lo c))) 5 (if lw (fun d => decide (¬ hv d = 0)) c = -nI 1 then nI c else lw (fun d => decide (¬ hv d = 0)) c), (τ.2.1, ((Y', τ.2.2.1.2), τ.2.2.2)))) ∧ yFr τ.2.2.1.1 Y' := fun X0 Y0 Y1 x0 y0 rm yf => by
      obtain ⟨_, Y2, _, Y3, _, r2, _, _, _, r6, _, r8⟩ := hhv k (by omega) M0 M1 X0 τ.2.2.1.2 Cd Y0 tA0 x0 tA1 hX (cSt_r _) y0
      rw [rm] at r2
      injection r2 with r2
      injection r2 with r2 _
      subst r2
      obtain ⟨_, Y4, _, _, _, s2, _, s4, _⟩ := hhv (k + 1) (by omega) M1 M2 τ.2.2.1.2 X2 Cd Y3 tA1 hX tA2 x2 (cSt_r _) (ySt_t hY (yFr_s (yFr_t yf r8) A))
      refine ⟨Y4, ?_, yFr_t yf (yFr_t r8 s4)⟩
      have fin : ∀ x3 : Int32, x3 = lw (fun d => decide (¬ hv d = 0)) c → df_X19_backTo_105 n (df_X19_backTo_67 n (g1 + 1)) (nI A) x3 (nI k) (τ.1, (τ.2.1, ((Y3, τ.2.2.1.2), τ.2.2.2))) = some (lw (fun d => decide (¬ hv d = 0)) c, (pI (pI τ.1 10 (nI (lo c))) 5 (if lw (fun d => decide (¬ hv d = 0)) c = -nI 1 then nI c else lw (fun d => decide (¬ hv d = 0)) c), (τ.2.1, ((Y4, τ.2.2.1.2), τ.2.2.2)))) := fun x3 ex => by
        unfold df_X19_backTo_105 df_X19_backTo_129
        dsimp only
        rw [s2, nb_b1, nb_let]
        dsimp only
        rw [h5, k1', k1, if_pos (show nI c ≤ nI (k + 1) by rw [nI_leI (by omega) (by omega)]; omega), nb_let]
        show dF_X19_backTo_67 n (df_X19_backTo_67 n g1) (nI A) x3 (nI (k + 1)) _ = _
        unfold dF_X19_backTo_67 df_X19_backTo_149
        dsimp only
        rw [h5, if_pos (show nI c ≤ nI (k + 1) by rw [nI_leI (by omega) (by omega)]; omega), nb_let, nb_let, show pI τ.1 10 (nI (lo c)) = τ.1 by rw [show c = k + 1 by omega, ← h10, nm_i0]]
        by_cases z : x3 = -1
        · rw [if_pos z, if_pos (show lw (fun d => decide (¬ hv d = 0)) c = -nI 1 from ex.symm.trans z), ← ex]
        · rw [if_neg z, if_neg (show ¬ lw (fun d => decide (¬ hv d = 0)) c = -nI 1 from fun y => z (ex.trans y)), ← ex]
      unfold df_X19_backTo_89
      rw [show (stY τ Y1).2.2.1 = (Y1, τ.2.2.1.2) from rfl, r6, nb_b2, nb_let]
      by_cases z : hv k = 0
      · rw [if_pos ((lcE _ _).mpr z)]
        refine fin _ ?_
        rw [show c = k + 1 by omega]
        show _ = (if decide (¬ hv k = 0) = true then nI k else _)
        rw [decide_eq_false (fun y => y z), if_neg Bool.false_ne_true]
      · rw [if_neg (fun y => z ((lcE _ _).mp y))]
        refine fin _ ?_
        rw [show c = k + 1 by omega]
        show _ = (if decide (¬ hv k = 0) = true then nI k else _)
        rw [decide_eq_true z, if_pos rfl]
    have st : df_X19_backTo_67 n (g1 + 2) (nI A) (lw (fun d => decide (¬ hv d = 0)) k) (nI k) τ = if nI k = 0 then nd_b1 (df_X15_remember n (nI A) τ.2.2.1) (fun s32 => df_X19_backTo_89 n (df_X19_backTo_67 n (g1 + 1)) (nI A) (lw (fun d => decide (¬ hv d = 0)) k) (nI k) (τ.1, (τ.2.1, (s32, τ.2.2.2)))) else df_X19_backTo_89 n (df_X19_backTo_67 n (g1 + 1)) (nI A) (lw (fun d => decide (¬ hv d = 0)) k) (nI k) τ := by
      show dF_X19_backTo_67 n (df_X19_backTo_67 n (g1 + 1)) _ _ _ τ = _
      generalize df_X19_backTo_67 n (g1 + 1) = G
      unfold dF_X19_backTo_67
      rw [h5, if_neg (show ¬ nI c ≤ nI k from fun z => by rw [nI_leI (by omega) (by omega)] at z; omega)]
      rfl
    rw [st]
    by_cases k0 : k = 0
    · obtain ⟨_, Y2, _, _, _, r2, _, r4, _⟩ := hhv k (by omega) M0 M1 τ.2.2.1.2 τ.2.2.1.2 Cd τ.2.2.1.1 tA0 (by rw [show k - 1 = k by omega]; exact hX) tA1 hX (cSt_r _) hY
      obtain ⟨Y', j1, j2⟩ := go τ.2.2.1.2 τ.2.2.1.1 Y2 (by rw [show k - 1 = k by omega]; exact hX) hY r2 r4
      refine ⟨τ.2.2.1.2, Y', ?_, by rw [show c - 1 = k by omega]; exact hX, h14, j2⟩
      have r2 : df_X15_remember n (nI A) τ.2.2.1 = some (Y2, τ.2.2.1.2) := r2
      rw [if_pos (show nI k = (0 : Int32) by rw [k0]; rfl), r2, nb_b1]
      exact j1
    · rcases hm with y | ⟨X0, Y0, x0, y0, rm⟩
      · exact absurd y k0
      · obtain ⟨Y', j1, j2⟩ := go X0 Y0 τ.2.2.1.1 x0 y0 rm (yFr_r _)
        refine ⟨τ.2.2.1.2, Y', ?_, by rw [show c - 1 = k by omega]; exact hX, h14, j2⟩
        rw [if_neg (show ¬ nI k = (0 : Int32) from fun z => by have z : nI k = nI 0 := z; rw [nI_eq (by omega) (by omega)] at z; exact k0 z)]
        exact j1
  | succ m ih =>
    intro k g τ hg hk hL hev hX h10 h5 h14 hY hm
    obtain ⟨g1, rfl⟩ : ∃ g1 : Nat, g = g1 + 1 := ⟨g - 1, by omega⟩
    obtain ⟨_, _, hs, hPp, hce, _⟩ := id hI
    obtain ⟨M0, tA0, _⟩ := hs.2 (k - 1) (by omega)
    obtain ⟨M1, tA1, _⟩ := hs.2 k (by omega)
    obtain ⟨M2, tA2, _⟩ := hs.2 (k + 1) (by omega)
    obtain ⟨X2, x2⟩ := tA2.1
    have lq := lg_eq hL.2.2.1 hev
    have k1 : nI k + Int32.ofInt 1 = nI (k + 1) := nI_add ..
    have k1' : nI k + 1 = nI (k + 1) := nI_add ..
    have go : ∀ (X0 : St × St) (Y0 Y1 : St), RA n (nI vn) Q (lgL (evK V) lo) (k - 1) X0 → ySt A Y Y0 → df_X15_remember n (nI A) (Y0, X0) = some (Y1, X0) → yFr τ.2.2.1.1 Y1 → ∃ (X' : St × St) (Y' : St), df_X19_backTo_89 n (df_X19_backTo_67 n g1) (nI A) (lw (fun d => decide (¬ hv d = 0)) k) (nI k) (stY τ Y1) = some (lw (fun d => decide (¬ hv d = 0)) c, (pI (pI τ.1 10 (nI (lo c))) 5 (if lw (fun d => decide (¬ hv d = 0)) c = -nI 1 then nI c else lw (fun d => decide (¬ hv d = 0)) c), (τ.2.1, ((Y', X'), τ.2.2.2)))) ∧ RA n (nI vn) Q (lgL (evK V) lo) (c - 1) X' ∧ sI X'.1 14 = -nI 1 ∧ yFr τ.2.2.1.1 Y' := fun X0 Y0 Y1 x0 y0 rm yf => by
      obtain ⟨_, Y2, _, Y3, _, r2, _, _, _, r6, _, r8⟩ := hhv k (by omega) M0 M1 X0 τ.2.2.1.2 Cd Y0 tA0 x0 tA1 hX (cSt_r _) y0
      rw [rm] at r2
      injection r2 with r2
      injection r2 with r2 _
      subst r2
      have hY3 : ySt A Y Y3 := ySt_t hY (yFr_s (yFr_t yf r8) A)
      obtain ⟨_, Y4, _, _, _, s2, _, s4, _⟩ := hhv (k + 1) (by omega) M1 M2 τ.2.2.1.2 X2 Cd Y3 tA1 hX tA2 x2 (cSt_r _) hY3
      obtain ⟨w, _, X3, _, t2, t3, t4, _⟩ := rf_tick n (by omega) (v := nI vn) (Q := Q) (τ := stY τ Y4) (by rw [show lgL (evT (stY τ Y4).1) lo = lgL (evK V) lo from lq]; exact hs) hPp hL (show k < e by omega) (by rw [show lgL (evT (stY τ Y4).1) lo = lgL (evK V) lo from lq]; exact hX) h10
      rw [show lgL (evT (stY τ Y4).1) lo = lgL (evK V) lo from lq] at t3
      obtain ⟨X', Y', j1, j2, j3, j4⟩ := ih (k + 1) g1 (pI τ.1 10 (nI (lo (k + 2))), (τ.2.1, ((Y4, X3), τ.2.2.2))) (by omega) (by omega) hL hev t3 rfl h5 (t4.trans h14) (ySt_t hY3 (yFr_s s4 A)) (Or.inr ⟨τ.2.2.1.2, Y3, hX, hY3, s2⟩)
      have j1 : df_X19_backTo_67 n g1 (nI A) (lw (fun d => decide (¬ hv d = 0)) (k + 1)) (nI (k + 1)) (pI τ.1 10 (nI (lo (k + 2))), (τ.2.1, ((Y4, X3), τ.2.2.2))) = some (lw (fun d => decide (¬ hv d = 0)) c, (pI (pI (pI τ.1 10 (nI (lo (k + 2)))) 10 (nI (lo c))) 5 (if lw (fun d => decide (¬ hv d = 0)) c = -nI 1 then nI c else lw (fun d => decide (¬ hv d = 0)) c), (τ.2.1, ((Y', X'), τ.2.2.2)))) := j1
      rw [nm_ii] at j1
      refine ⟨X', Y', ?_, j2, j3, yFr_t yf (yFr_t r8 (yFr_t s4 j4))⟩
      have fin : ∀ x3 : Int32, x3 = lw (fun d => decide (¬ hv d = 0)) (k + 1) → df_X19_backTo_105 n (df_X19_backTo_67 n g1) (nI A) x3 (nI k) (τ.1, (τ.2.1, ((Y3, τ.2.2.1.2), τ.2.2.2))) = some (lw (fun d => decide (¬ hv d = 0)) c, (pI (pI τ.1 10 (nI (lo c))) 5 (if lw (fun d => decide (¬ hv d = 0)) c = -nI 1 then nI c else lw (fun d => decide (¬ hv d = 0)) c), (τ.2.1, ((Y', X'), τ.2.2.2)))) := fun x3 ex => by
        rw [ex]
        unfold df_X19_backTo_105 df_X19_backTo_129
        dsimp only
        rw [s2, nb_b1, nb_let]
        dsimp only
        have t2 : df_X19_tick n (τ.1, (τ.2.1, ((Y4, τ.2.2.1.2), τ.2.2.2))) = some (w, (pI τ.1 10 (nI (lo (k + 2))), (τ.2.1, ((Y4, X3), τ.2.2.2)))) := t2
        rw [h5, k1', k1, if_neg (show ¬ nI c ≤ nI (k + 1) from fun z => by rw [nI_leI (by omega) (by omega)] at z; omega), t2, nb_b2, nb_let]
        exact j1
      unfold df_X19_backTo_89
      rw [show (stY τ Y1).2.2.1 = (Y1, τ.2.2.1.2) from rfl, r6, nb_b2, nb_let]
      by_cases z : hv k = 0
      · rw [if_pos ((lcE _ _).mpr z)]
        refine fin _ ?_
        show _ = (if decide (¬ hv k = 0) = true then nI k else _)
        rw [decide_eq_false (fun y => y z), if_neg Bool.false_ne_true]
      · rw [if_neg (fun y => z ((lcE _ _).mp y))]
        refine fin _ ?_
        show _ = (if decide (¬ hv k = 0) = true then nI k else _)
        rw [decide_eq_true z, if_pos rfl]
    have st : df_X19_backTo_67 n (g1 + 1) (nI A) (lw (fun d => decide (¬ hv d = 0)) k) (nI k) τ = if nI k = 0 then nd_b1 (df_X15_remember n (nI A) τ.2.2.1) (fun s32 => df_X19_backTo_89 n (df_X19_backTo_67 n g1) (nI A) (lw (fun d => decide (¬ hv d = 0)) k) (nI k) (τ.1, (τ.2.1, (s32, τ.2.2.2)))) else df_X19_backTo_89 n (df_X19_backTo_67 n g1) (nI A) (lw (fun d => decide (¬ hv d = 0)) k) (nI k) τ := by
      show dF_X19_backTo_67 n (df_X19_backTo_67 n g1) _ _ _ τ = _
      generalize df_X19_backTo_67 n g1 = G
      unfold dF_X19_backTo_67
      rw [h5, if_neg (show ¬ nI c ≤ nI k from fun z => by rw [nI_leI (by omega) (by omega)] at z; omega)]
      rfl
    rw [st]
    by_cases k0 : k = 0
    · obtain ⟨_, Y2, _, _, _, r2, _, r4, _⟩ := hhv k (by omega) M0 M1 τ.2.2.1.2 τ.2.2.1.2 Cd τ.2.2.1.1 tA0 (by rw [show k - 1 = k by omega]; exact hX) tA1 hX (cSt_r _) hY
      obtain ⟨X', Y', j1, j2⟩ := go τ.2.2.1.2 τ.2.2.1.1 Y2 (by rw [show k - 1 = k by omega]; exact hX) hY r2 r4
      refine ⟨X', Y', ?_, j2⟩
      have r2 : df_X15_remember n (nI A) τ.2.2.1 = some (Y2, τ.2.2.1.2) := r2
      rw [if_pos (show nI k = (0 : Int32) by rw [k0]; rfl), r2, nb_b1]
      exact j1
    · rcases hm with y | ⟨X0, Y0, x0, y0, rm⟩
      · exact absurd y k0
      · obtain ⟨X', Y', j1, j2⟩ := go X0 Y0 τ.2.2.1.1 x0 y0 rm (yFr_r _)
        refine ⟨X', Y', ?_, j2⟩
        rw [if_neg (show ¬ nI k = (0 : Int32) from fun z => by have z : nI k = nI 0 := z; rw [nI_eq (by omega) (by omega)] at z; exact k0 z)]
        exact j1
