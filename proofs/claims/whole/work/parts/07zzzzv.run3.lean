/-- run -/
theorem jc_run (n T L : Nat) (hn : 70000 < n) (v : Int32) (σ : S12) (τ : S19) {Nb : Nat → Nat} {pos : Nat → Nat → Nat} (h : jA n (tl σ) τ) (hb : bRk n (σ.2.1 2) (tl σ).2.2.2.2.2.2.1 τ.2.2.1.1 Nb pos) : (df_X12_run n T L v σ = some (Sum.inr ("java/lang/IllegalArgumentException", σ)) ∧ df_X19_run n v τ = some (0, (pI τ.1 0 1, τ.2))) ∨ (df_X12_run n T L v σ = some (Sum.inr ("java/lang/IllegalStateException", σ)) ∧ df_X19_run n v τ = some (0, (pI τ.1 0 2, τ.2))) ∨ ∃ (r : Int32) (t' : S11) (τ' : S19), df_X12_run n T L v σ = some (Sum.inl (r, pl σ t')) ∧ df_X19_run n v τ = some (r, τ') ∧ sI τ'.1 0 = 0 ∧ jA n t' τ' ∧ bRk n (t'.2.1 2) t'.2.2.2.2.2.2.1 τ'.2.2.1.1 Nb pos ∧ sI t'.1 7 = sI τ'.1 7 ∧ kC2 (tl σ) t' ∧ kR2 (pI τ.1 0 0, τ.2) τ' := by
  have n1 : ¬ nI 1 = (0 : Int32) := by decide
  obtain ⟨A, hA, rfl⟩ := nI_ex v
  have inE : df_X19_in n (nI A).toInt64 0 60000 () = some (if A ≤ 60000 then nI 1 else nI 0, ()) := in_b n (b := 60000) hA (by omega) rfl
  by_cases d : A ≤ 60000
  · have lt0 : ¬ nI A < (0 : Int32) := fun z => by rw [lz_0 hA] at z; omega
    have le6 : nI A ≤ (60000 : Int32) := (show nI A ≤ nI 60000 by rw [nI_leI (by omega) (by omega)]; exact d)
    obtain ⟨h0, ⟨h1, h2, _⟩ | ⟨h1, h2, vn, Q, V, N, T', e, c, k, lo, h3⟩⟩ := h
    · refine Or.inr (Or.inl ⟨?_, ?_⟩)
      · unfold df_X12_run df_X12_run_0
        rw [if_neg lt0, if_pos le6, if_pos (show sI σ.2.2.2.2.1 0 = 0 from h1)]
      · unfold df_X19_run df_X19_run_0 df_X19_run_20 df_X19_run_36
        rw [inE, nb_b2, if_pos d, if_neg n1, if_neg n1, if_pos (show sI τ.1 3 = 0 from h2), nb_fails, nb_b2]
        rfl
    · refine Or.inr (Or.inr ?_)
      have b1 : ¬ sI σ.2.2.2.2.1 0 = 0 := by
        rw [show sI σ.2.2.2.2.1 0 = nI 1 from h1]; decide
      have b2 : ¬ sI τ.1 3 = 0 := by rw [h2]; decide
      have hce : c ≤ e := h3.1.2.2.2.2.1
      obtain ⟨X', r1, r2⟩ := jm_come n hn (jm_0 h3 0) hce
      have e5 : sI τ.1 5 = nI c := h3.2.2.2.2.1.2.1
      have h11 := h3.2.2.2.2.2.2.2.2.2.2
      have goR : df_X19_run n (nI A) τ = if sI τ.1 11 = 0 then df_X19_run_65 n (nI A) 0 (pI (pI τ.1 0 0) 10 (nI (lo (c + 1))), (τ.2.1, ((τ.2.2.1.1, X'), τ.2.2.2))) else df_X19_run_65 n (nI A) 5 (pI (pI τ.1 0 0) 10 (nI (lo (c + 1))), (τ.2.1, ((τ.2.2.1.1, X'), τ.2.2.2))) := by
        unfold df_X19_run df_X19_run_0 df_X19_run_20 df_X19_run_35 df_X19_run_36
        rw [inE, nb_b2, if_pos d, if_neg n1, if_neg n1, if_neg b2, nb_fails, nb_b2, if_pos (show (0 : Int32) = 0 ∧ (0 : Int32) = 0 from ⟨rfl, rfl⟩), if_pos rfl, if_pos rfl, if_pos rfl]
        dsimp only
        rw [show sI (pI τ.1 0 0) 5 = nI c from e5, r1, nb_b1]
        rfl
      have goC : ∀ (r : Int32) (t' : S11), df_X11_ticks n (nI A) (tl σ) = some (r, t') → df_X12_run n T L (nI A) σ = some (Sum.inl (r, pl σ t')) := fun r t' e => by
        unfold df_X12_run df_X12_run_0
        have e : df_X11_ticks n (nI A) (σ.2.2.2.2.1, σ.2.1, σ.2.2.2.2.2.1, σ.2.2.2.2.2.2.1, σ.2.2.2.2.2.2.2.1, σ.2.2.2.2.2.2.2.2.1, σ.2.2.2.2.2.2.2.2.2.1, σ.2.2.2.2.2.2.2.2.2.2) = some (r, t') := e
        rw [if_neg lt0, if_pos le6, if_neg b1, e, nb_b2, nb_let]
        rfl
      rcases h11.2 with m0 | m1
      · have m0 : sI τ.1 11 = nI 0 := m0
        have t6 : sI (tl σ).1 6 = nI 0 := h11.1.trans m0
        have jk : jK n (tl σ) (pI (pI (pI (pI τ.1 0 0) 10 (nI (lo (c + 1)))) 7 0) 11 0, (τ.2.1, ((τ.2.2.1.1, X'), τ.2.2.2))) vn Q V N T' e c lo Nb pos := by
          obtain ⟨q1, q2, q3, q4, q5, q6, q7, q8, q9, qa, qb⟩ := r2
          exact ⟨⟨q1, q2, q3, q4, q5, q6, q7, q8, q9, qa, t6, Or.inl rfl⟩, hb⟩
        obtain ⟨q, t', τ', V', N', T2, e', c', lo', i1, i2, i3, i4, i5, i6⟩ := jm_run n hn d A n n 0 (tl σ) _ V N T' e c lo (by omega) (by omega) (by omega) jk t6 rfl
        refine ⟨nI q, t', τ', goC _ _ ?_, ?_, (i6.1 0 (by omega)).trans rfl, ⟨?_, Or.inr ⟨i5.1.trans h1, (i6.1 3 (by omega)).trans h2, vn, Q, V', N', T2, e', c', c', lo', i3.1⟩⟩, i3.2, i4, i5, ?_⟩
        · unfold df_X11_ticks df_X11_ticks_0
          rw [if_pos (show sI (tl σ).1 6 = 0 from t6)]
          exact i1
        · rw [goR, if_pos (show sI τ.1 11 = 0 from m0)]
          unfold df_X19_run_65
          rw [nb_let, nb_let]
          exact i2
        · unfold sp2
          rw [i5.2.1 0, i5.2.1 1]
          exact h0
        · refine ⟨fun j hj => (i6.1 j hj).trans ?_, i6.2.1, i6.2.2.1, i6.2.2.2.1, i6.2.2.2.2⟩
          show sI (pI (pI (pI (pI τ.1 0 0) 10 _) 7 0) 11 0) j = _
          rw [nb_II, if_neg (by omega), nb_II, if_neg (by omega), nb_II, if_neg (by omega)]
      · have m1 : sI τ.1 11 = nI 1 := m1
        have t6 : sI (tl σ).1 6 = nI 1 := h11.1.trans m1
        refine ⟨0, (pI (pI (tl σ).1 6 0) 7 5, (tl σ).2), (pI (pI (pI (pI τ.1 0 0) 10 (nI (lo (c + 1)))) 7 5) 11 0, (τ.2.1, ((τ.2.2.1.1, X'), τ.2.2.2))), goC _ _ ?_, ?_, rfl, ⟨h0, Or.inr ⟨h1, h2, vn, Q, V, N, T', e, c, c, lo, ?_⟩⟩, hb, rfl, ⟨rfl, fun _ => rfl, fun _ _ => rfl, rfl⟩, ⟨fun j hj => ?_, fun _ _ => rfl, fun _ => rfl, rfl, rfl⟩⟩
        · unfold df_X11_ticks df_X11_ticks_0
          rw [if_neg (show ¬ sI (tl σ).1 6 = 0 by rw [t6]; decide), nb_let, nb_let]
        · rw [goR, if_neg (show ¬ sI τ.1 11 = 0 by rw [m1]; decide)]
          unfold df_X19_run_65
          rw [nb_let, nb_let]
          obtain ⟨n', rfl⟩ : ∃ n' : Nat, n = n' + 1 := ⟨n - 1, by omega⟩
          show dF_X19_run_75 (n' + 1) (df_X19_run_75 (n' + 1) n') (nI A) 0 _ = _
          unfold dF_X19_run_75 df_X19_run_237
          rw [if_neg (show ¬ sI (pI (pI (pI (pI τ.1 0 0) 10 (nI (lo (c + 1)))) 7 5) 11 0) 7 = 0 from (by decide : ¬ (5 : Int32) = 0))]
          by_cases z : nI A ≤ (0 : Int32)
          · rw [if_pos z]
          · rw [if_neg z]
        · obtain ⟨q1, q2, q3, q4, q5, q6, q7, q8, q9, qa, qb⟩ := r2
          exact ⟨q1, q2, q3, q4, q5, q6, q7, q8, q9, qa, rfl, Or.inl rfl⟩
        · show sI (pI (pI (pI (pI τ.1 0 0) 10 _) 7 5) 11 0) j = _
          rw [nb_II, if_neg (by omega), nb_II, if_neg (by omega), nb_II, if_neg (by omega)]
  · refine Or.inl ⟨?_, ?_⟩
    · unfold df_X12_run df_X12_run_0 df_X12_run_10
      rcases rg_e hA (k := 60000) (by omega) d with b | ⟨b1, b2⟩
      · rw [if_pos b]
      · rw [if_neg b1, if_neg (show ¬ nI A ≤ (60000 : Int32) from b2)]
    · unfold df_X19_run df_X19_run_0 df_X19_run_20 df_X19_run_35 df_X19_run_36
      rw [inE, nb_b2, if_neg d, if_pos (show nI 0 = (0 : Int32) from rfl), if_pos (show nI 0 = (0 : Int32) from rfl), nb_fails, nb_b2]
      rfl
