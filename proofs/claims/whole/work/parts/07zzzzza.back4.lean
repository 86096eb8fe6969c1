/-- looking back, in both -/
theorem jm_back (n T L : Nat) (hn : 70000 < n) {vn : Nat} {Q V : St} {N T' e c k : Nat} {lo : Nat → Nat} {σ : S12} {τ : S19} (h : jM n vn Q V N T' e c k lo (tl σ) τ) {Nb : Nat → Nat} {pos : Nat → Nat → Nat} (hb : bRk n (σ.2.1 2) (tl σ).2.2.2.2.2.2.1 τ.2.2.1.1 Nb pos) {A j : Nat} (hA : A < 8) (hr : σ.2.1 2 A = some j) : ∃ (r : Int32) (t' : S11) (τ' : S19) (c' : Nat), nd_b2 (df_X11_latest n j (tl σ)) (fun q7 s8 => if 0 ≤ q7 then df_X12_backTo_80 n T L q7 q7 (pl σ s8) else df_X12_backTo_80 n T L q7 (nI c) (pl σ s8)) = some (Sum.inl (r, pl σ t')) ∧ nd_b1 (df_X19_anew n τ) (fun s11 => df_X19_backTo_67 n n (nI A) (-1) 0 s11) = some (r, τ') ∧ jM n vn Q V N T' e c' (c - 1) lo t' τ' ∧ bRk n (t'.2.1 2) t'.2.2.2.2.2.2.1 τ'.2.2.1.1 Nb pos ∧ (kC2 (tl σ) t' ∧ sI t'.1 7 = sI (tl σ).1 7) ∧ (kR2 τ τ' ∧ sI τ'.1 7 = sI τ.1 7) := by
  obtain ⟨Pg, Tg, Z, pg⟩ := jm_pg h
  obtain ⟨hI, hL, hev, hv4, ⟨h4, h5, h6⟩, hk, hX, h10, h14, hS, h11⟩ := id h
  obtain ⟨_, _, hs, hPp, hce, _⟩ := id hI
  have lq := lg_eq hL.2.2.1 hev
  have he : e ≤ 60000 := hL.2.2.2.2.2
  obtain ⟨hkB, hd⟩ := id hb
  obtain ⟨i, i9, ir, _, hB⟩ | ⟨ir, _⟩ := (hkB A hA).symm
  · rw [hr] at ir
    injection ir with ir
    subst ir
    have vex : ∀ d : Nat, ∃ v : Int64, d ≤ e → vA n vn Q (lgL (evK V) lo) A ((tl σ).2.2.2.2.2.2.1 j) τ.2.2.1.1 d v := fun d => by
      by_cases y : d ≤ e
      · obtain ⟨v, hv⟩ := vA_ex he hs hB y
        exact ⟨v, fun _ => hv⟩
      · exact ⟨0, fun z => absurd z y⟩
    obtain ⟨hv, hhv⟩ := Classical.axiomOfChoice vex
    obtain ⟨t1, c1, a1, a2, a3⟩ := cl_all n hn i9 he hhv hI (cSt_r _)
    -- the reference
    obtain ⟨X1, b1, b2, b3⟩ := rf_anew n (by omega) (τ := τ) hv4.1 pg (show hsT n (nI vn) Q (lgL (evT τ.1) lo) e by rw [lq]; exact hs) hL h4 (show τ.2.2.1.2.2 = Q from (RA_n hs hk hX).2)
    rw [lq] at b2
    obtain ⟨X', Y', d1, d2, d3, d4⟩ : ∃ (X' : St × St) (Y' : St), df_X19_backTo_67 n n (nI A) (-1) 0 (pI τ.1 10 (nI (lo 1)), (τ.2.1, ((τ.2.2.1.1, X1), τ.2.2.2))) = some (lw (fun d => decide (¬ hv d = 0)) c, (pI (pI τ.1 10 (nI (lo (c - 1 + 1)))) 5 (if lw (fun d => decide (¬ hv d = 0)) c = -nI 1 then nI c else lw (fun d => decide (¬ hv d = 0)) c), (τ.2.1, ((Y', X'), τ.2.2.2)))) ∧ RA n (nI vn) Q (lgL (evK V) lo) (c - 1) X' ∧ sI X'.1 14 = -nI 1 ∧ yFr τ.2.2.1.1 Y' := by
      by_cases c0 : c = 0
      · refine ⟨X1, τ.2.2.1.1, ?_, by rw [c0]; exact b2, b3, yFr_r _⟩
        obtain ⟨n', rfl⟩ : ∃ n' : Nat, n = n' + 1 := ⟨n - 1, by omega⟩
        show dF_X19_backTo_67 (n' + 1) (df_X19_backTo_67 (n' + 1) n') (nI A) (-1) 0 _ = _
        unfold dF_X19_backTo_67 df_X19_backTo_149
        rw [show sI (pI τ.1 10 (nI (lo 1))) 5 = nI c from h5, c0, if_pos (show nI 0 ≤ (0 : Int32) by decide), if_pos rfl, nb_let]
        rfl
      · obtain ⟨X', Y', d1, d2, d3, d4⟩ := rk_67 n hn hI he hhv (c - 1) 0 n (pI τ.1 10 (nI (lo 1)), (τ.2.1, ((τ.2.2.1.1, X1), τ.2.2.2))) (by omega) (by omega) hL hev b2 rfl h5 b3 (ySt_r _ _) (Or.inl rfl)
        have d1 : df_X19_backTo_67 n n (nI A) (-1) 0 (pI τ.1 10 (nI (lo 1)), (τ.2.1, ((τ.2.2.1.1, X1), τ.2.2.2))) = some (lw (fun d => decide (¬ hv d = 0)) c, (pI (pI (pI τ.1 10 (nI (lo 1))) 10 (nI (lo c))) 5 (if lw (fun d => decide (¬ hv d = 0)) c = -nI 1 then nI c else lw (fun d => decide (¬ hv d = 0)) c), (τ.2.1, ((Y', X'), τ.2.2.2)))) := d1
        rw [nm_ii] at d1
        exact ⟨X', Y', by rw [show c - 1 + 1 = c by omega]; exact d1, d2, d3, d4⟩
    -- the class goes there
    have fin : ∀ (c' : Nat), c' ≤ e → (if lw (fun d => decide (¬ hv d = 0)) c = -nI 1 then nI c else lw (fun d => decide (¬ hv d = 0)) c) = nI c' → (∀ s8 : S12, (if 0 ≤ lw (fun d => decide (¬ hv d = 0)) c then df_X12_backTo_80 n T L (lw (fun d => decide (¬ hv d = 0)) c) (lw (fun d => decide (¬ hv d = 0)) c) s8 else df_X12_backTo_80 n T L (lw (fun d => decide (¬ hv d = 0)) c) (nI c) s8) = df_X12_backTo_80 n T L (lw (fun d => decide (¬ hv d = 0)) c) (nI c') s8) → ∃ (r : Int32) (t' : S11) (τ' : S19) (c' : Nat), nd_b2 (df_X11_latest n j (tl σ)) (fun q7 s8 => if 0 ≤ q7 then df_X12_backTo_80 n T L q7 q7 (pl σ s8) else df_X12_backTo_80 n T L q7 (nI c) (pl σ s8)) = some (Sum.inl (r, pl σ t')) ∧ nd_b1 (df_X19_anew n τ) (fun s11 => df_X19_backTo_67 n n (nI A) (-1) 0 s11) = some (r, τ') ∧ jM n vn Q V N T' e c' (c - 1) lo t' τ' ∧ bRk n (t'.2.1 2) t'.2.2.2.2.2.2.1 τ'.2.2.1.1 Nb pos ∧ (kC2 (tl σ) t' ∧ sI t'.1 7 = sI (tl σ).1 7) ∧ (kR2 τ τ' ∧ sI τ'.1 7 = sI τ.1 7) := fun c' hc' e1 e2 => by
      obtain ⟨t2, m1, m2, m3⟩ := mv_1 n hn a2 (d := c') hc'
      have tp : tl (pl σ t1) = t1 := tl_pl' (fun r a b => a3.2.2.1 r a)
      have row2 : t2.2.1 2 = σ.2.1 2 := (m3.2.2.1 2 (by omega)).trans (a3.2.2.1 2 (by omega))
      refine ⟨lw (fun d => decide (¬ hv d = 0)) c, t2, (pI (pI τ.1 10 (nI (lo (c - 1 + 1)))) 5 (if lw (fun d => decide (¬ hv d = 0)) c = -nI 1 then nI c else lw (fun d => decide (¬ hv d = 0)) c), (τ.2.1, ((Y', X'), τ.2.2.2))), c', ?_, by rw [b1, nb_b1]; exact d1, ?_, ?_, ⟨⟨(m3.1 0 (by omega)).trans (a3.1 0 (by omega)), fun q => (m3.2.1 q).trans (a3.2.1 q), fun r z => (m3.2.2.1 r z).trans (a3.2.2.1 r z), m3.2.2.2.2.2.2.1.trans a3.2.2.2.1⟩, (m3.1 7 (by omega)).trans (a3.1 7 (by omega))⟩, ⟨⟨fun i hi => ?_, fun _ _ => rfl, fun _ => rfl, rfl, rfl⟩, rfl⟩⟩
      · rw [a1, nb_b2, e2]
        unfold df_X12_backTo_80
        show nd_b1 (df_X11_moveTo n (nI c') (tl (pl σ t1))) _ = _
        rw [tp, m1, nb_b1, nb_let]
        show some (Sum.inl (_, pl (pl σ t1) t2)) = _
        rw [pl_pl]
      · rw [e1]
        exact ⟨m2, hL, hev, hv4, ⟨h4, rfl, h6⟩, by omega, d2, rfl, d3, hS, ((m3.1 6 (by omega)).trans (a3.1 6 (by omega))).trans h11.1, h11.2⟩
      · rw [row2, m3.2.2.2.2.2.2.2]
        have pe : t1.2.2.2.2.2.2.1 = fun i => if i = j then t1.2.2.2.2.2.2.1 j else (tl σ).2.2.2.2.2.2.1 i := by
          funext i
          by_cases y : i = j
          · rw [if_pos y, y]
          · rw [if_neg y]
            exact a3.2.2.2.2.1 i y
        rw [pe]
        exact bRk_t hb a3.2.2.2.2.2 d4
      · show sI (pI (pI τ.1 10 _) 5 _) i = _
        rw [nb_II, if_neg (by omega), nb_II, if_neg (by omega)]
    rcases lw_c (fun d => decide (¬ hv d = 0)) c with w | ⟨q, qq, w⟩
    · exact fin c hce (by rw [if_pos w]) (fun s8 => by rw [w, if_neg (show ¬ (0 : Int32) ≤ -nI 1 by decide)])
    · exact fin q (by omega) (by rw [w, if_neg (show ¬ nI q = -nI 1 from fun z => dn_3 (k := q) (by omega) (by rw [z]; decide))]) (fun s8 => by rw [w, if_pos (show (0 : Int32) ≤ nI q from (show nI 0 ≤ nI q by rw [nI_leI (by omega) (by omega)]; omega))])
  · rw [hr] at ir; exact nomatch ir
/-- backTo -/
theorem jc_backTo (n T L : Nat) (hn : 70000 < n) (v : Int32) (σ : S12) (τ : S19) {Nb : Nat → Nat} {pos : Nat → Nat → Nat} (h : jA n (tl σ) τ) (hb : bRk n (σ.2.1 2) (tl σ).2.2.2.2.2.2.1 τ.2.2.1.1 Nb pos) : (df_X12_backTo n T L v σ = some (Sum.inr ("java/lang/IllegalArgumentException", σ)) ∧ df_X19_backTo n v τ = some (0, (pI τ.1 0 1, τ.2))) ∨ (df_X12_backTo n T L v σ = some (Sum.inr ("java/lang/IllegalStateException", σ)) ∧ df_X19_backTo n v τ = some (0, (pI τ.1 0 2, τ.2))) ∨ ∃ (r : Int32) (t' : S11) (τ' : S19), df_X12_backTo n T L v σ = some (Sum.inl (r, pl σ t')) ∧ df_X19_backTo n v τ = some (r, τ') ∧ sI τ'.1 0 = 0 ∧ jA n t' τ' ∧ bRk n (t'.2.1 2) t'.2.2.2.2.2.2.1 τ'.2.2.1.1 Nb pos ∧ (kC2 (tl σ) t' ∧ sI t'.1 7 = sI (tl σ).1 7) ∧ (kR2 (pI τ.1 0 0, τ.2) τ' ∧ sI τ'.1 7 = sI τ.1 7) := by
  have n1 : ¬ nI 1 = (0 : Int32) := by decide
  obtain ⟨A, hA, rfl⟩ := nI_ex v
  have inE : df_X19_in n (nI A).toInt64 0 7 () = some (if A ≤ 7 then nI 1 else nI 0, ()) := in_b n (b := 7) hA (by omega) rfl
  by_cases d : A ≤ 7
  · have lt0 : ¬ nI A < (0 : Int32) := fun z => by rw [lz_0 hA] at z; omega
    have lt8 : nI A < (8 : Int32) := (show nI A < nI 8 by rw [nI_ltI (by omega) (by omega)]; omega)
    have a7 : nI A &&& 7 = nI A := (nm_m7 (by omega)).trans (by rw [Nat.mod_eq_of_lt (by omega)])
    have bad : (∀ s : S19, df_X19_backTo_45 n (nI A) 0 s = some (0, (pI s.1 0 2, s.2))) := fun s => by
      unfold df_X19_backTo_45 df_X19_backTo_50
      rw [nb_fails, nb_b2]
      rfl
    obtain ⟨h0, ⟨h1, h2, _⟩ | ⟨h1, h2, vn, Q, V, N, T', e, c, k, lo, h3⟩⟩ := h
    · refine Or.inr (Or.inl ⟨?_, ?_⟩)
      · unfold df_X12_backTo df_X12_backTo_0 df_X12_backTo_39
        rw [if_neg lt0, if_pos lt8, nm_ck (by omega) (by omega), nI_clamp (by omega)]
        cases σ.2.1 2 A with
        | none => rw [nb_mN]
        | some j => rw [nb_mS, if_pos (show sI σ.2.2.2.2.1 0 = 0 from h1)]
      · unfold df_X19_backTo df_X19_backTo_0 df_X19_backTo_20
        rw [inE, nb_b2, if_pos d, if_neg n1, if_neg n1, if_pos (show sI τ.1 3 = 0 from h2), bad]
    · have b1 : ¬ sI σ.2.2.2.2.1 0 = 0 := by
        rw [show sI σ.2.2.2.2.1 0 = nI 1 from h1]; decide
      have b2 : ¬ sI τ.1 3 = 0 := by rw [h2]; decide
      rcases hb.1 A (by omega) with ⟨a, b⟩ | ⟨j, j9, a, b, hB⟩
      · refine Or.inr (Or.inl ⟨?_, ?_⟩)
        · unfold df_X12_backTo df_X12_backTo_0 df_X12_backTo_39
          rw [if_neg lt0, if_pos lt8, nm_ck (by omega) (by omega), nI_clamp (by omega), a, nb_mN]
        · unfold df_X19_backTo df_X19_backTo_0 df_X19_backTo_20
          have it := it_15 n (X := τ.2.2.1.2) (show A < 8 by omega) (Or.inl rfl) b
          have it : df_X15_isThere n (nI A) τ.2.2.1 = some (nI 0, τ.2.2.1) := it
          rw [inE, nb_b2, if_pos d, if_neg n1, if_neg n1, if_neg b2, a7, it, nb_b2, nb_let, if_pos (show nI 0 = (0 : Int32) from rfl), bad]
      · refine Or.inr (Or.inr ?_)
        obtain ⟨r, t', τ', c', g1, g2, g3, g4, g5, g6⟩ := jm_back n T L hn (jm_0 h3 0) hb (show A < 8 by omega) a
        have c3 : sI σ.2.2.2.2.1 3 = nI c := h3.1.2.2.2.2.2.1
        refine ⟨r, t', τ', ?_, ?_, (g6.1.1 0 (by omega)).trans rfl, ⟨?_, Or.inr ⟨g5.1.1.trans h1, (g6.1.1 3 (by omega)).trans h2, vn, Q, V, N, T', e, c', c - 1, lo, g3⟩⟩, g4, g5, g6⟩
        · unfold df_X12_backTo df_X12_backTo_0
          rw [if_neg lt0, if_pos lt8, nm_ck (by omega) (by omega), nI_clamp (by omega), a, nb_mS, if_neg b1, nb_let, c3]
          exact g1
        · unfold df_X19_backTo df_X19_backTo_0 df_X19_backTo_20 df_X19_backTo_49 df_X19_backTo_50
          have it := it_15 n (X := τ.2.2.1.2) (show A < 8 by omega) (Or.inr rfl) b
          have it : df_X15_isThere n (nI A) τ.2.2.1 = some (nI 1, τ.2.2.1) := it
          rw [inE, nb_b2, if_pos d, if_neg n1, if_neg n1, if_neg b2, a7, it, nb_b2, nb_let, if_neg n1, nb_fails, nb_b2, if_pos (show (0 : Int32) = 0 ∧ (0 : Int32) = 0 from ⟨rfl, rfl⟩), if_pos rfl, if_pos rfl, if_pos rfl]
          exact g2
        · unfold sp2
          rw [g5.1.2.1 0, g5.1.2.1 1]
          exact h0
  · refine Or.inl ⟨?_, ?_⟩
    · unfold df_X12_backTo df_X12_backTo_0 df_X12_backTo_10
      rcases rg_e hA (k := 7) (by omega) d with b | ⟨b1, b2⟩
      · rw [if_pos b]
      · rw [if_neg b1, if_neg (show ¬ nI A < (8 : Int32) from fun z => b2 (by rw [Int32.le_iff_toInt_le]; have z : nI A < nI 8 := z; rw [Int32.lt_iff_toInt_lt, nI_toInt (show 8 < 2 ^ 31 by omega)] at z; rw [nI_toInt (show 7 < 2 ^ 31 by omega)]; omega))]
    · unfold df_X19_backTo df_X19_backTo_0 df_X19_backTo_20 df_X19_backTo_49 df_X19_backTo_50
      rw [inE, nb_b2, if_neg d, if_pos (show nI 0 = (0 : Int32) from rfl), if_pos (show nI 0 = (0 : Int32) from rfl), nb_fails, nb_b2]
      rfl
