theorem lg_eq {f g : Nat → Nat × Int64 × Int32} {N e : Nat} {lo : Nat → Nat} (h : okL N e lo) (hf : ∀ i : Nat, i < N → f i = g i) : lgL f lo = lgL g lo := by
  funext c
  have := okL_N h (c + 1)
  have := h.2.1 c
  exact evs_c _ _ (fun k h1 h2 => hf k (by omega))
theorem rLg_e {T : St} {N e : Nat} {lo : Nat → Nat} (h : rLg T N e lo) (he : e < 60000) : rLg T N (e + 1) lo := by
  obtain ⟨l1, l2, l3, l4, l5, l6⟩ := h
  have eL : lo (e + 1) = N := l3.2.2 (e + 1) (by omega)
  refine ⟨l1, l2, ⟨l3.1, l3.2.1, fun c hc => l3.2.2 c (by omega)⟩, fun i c hc q1 q2 => ?_, l5, by omega⟩
  by_cases y : c ≤ e
  · exact l4 i c y q1 q2
  · have y : c = e + 1 := by omega
    rw [y, eL] at q1
    rw [y, l3.2.2 (e + 1 + 1) (by omega)] at q2
    omega
/-- one tick at the end of what was recorded, in both -/
theorem jt_end (n : Nat) (hn : 40000 < n) {vn : Nat} {Q V : St} {N T e : Nat} {lo : Nat → Nat} {s : St × Rw × (St × (St × (St × (St)))) × (St) × (St) × (Nat → St) × (Nat → St) × (Nat → St × (St))} {τ : S19} (h : jJ n vn Q V N T e lo s τ) (he : e < 60000) (h0 : ¬ sI s.2.2.1.2.2.1 3 = -nI 1) : ∃ (w al : Int32) (τ1 : S19) (V' : St) (N' T' : Nat) (lo' : Nat → Nat) (s' : St × Rw × (St × (St × (St × (St)))) × (St) × (St) × (Nat → St) × (Nat → St) × (Nat → St × (St))) (τ3 : S19), df_X11_advance n s = some s' ∧ df_X19_tick n τ = some (w, τ1) ∧ df_X19_takeScheduled n (pI (pI τ1.1 5 (nI (e + 1))) 6 (nI (e + 1)), τ1.2) = some (al, τ3) ∧ jJ n vn Q V' N' T' (e + 1) lo' s' τ3 ∧ ((al = nI 1 ∧ sI s'.1 6 = sI s.1 6) ∨ (al = nI 0 ∧ sI s'.1 6 = nI 1)) ∧ (∀ j : Nat, ¬ j = 10 → sI τ1.1 j = sI τ.1 j) ∧ sI τ3.1 5 = nI (e + 1) ∧ N' ≤ T' ∧ (sI s'.1 0 = sI s.1 0 ∧ sI s'.1 7 = sI s.1 7 ∧ (∀ k : Nat, sO s'.1 k = sO s.1 k) ∧ (∀ r : Nat, ¬ r = 3 → s'.2.1 r = s.2.1 r) ∧ s'.2.2.2.2.2.1 = s.2.2.2.2.2.1 ∧ s'.2.2.2.2.2.2.1 = s.2.2.2.2.2.2.1) ∧ ((∀ j : Nat, ¬ j = 5 → ¬ j = 6 → ¬ j = 8 → ¬ j = 9 → ¬ j = 10 → sI τ3.1 j = sI τ.1 j) ∧ (∀ j : Nat, j < 5 ∨ 10 ≤ j → sR τ3.1 j = sR τ.1 j) ∧ (∀ j : Nat, sO τ3.1 j = sO τ.1 j) ∧ τ3.2.1 = τ.2.1 ∧ τ3.2.2.1.1 = τ.2.2.1.1 ∧ τ3.2.2.2 = τ.2.2.2) := by
  obtain ⟨hI, hL, hev, h4, h6, h10, hX, h14, hS⟩ := h
  obtain ⟨s1, a1, a2, a3, a4, a5, a6, a7⟩ := ad_end n hn hI he h0
  obtain ⟨hV, hC, hs, hP, hce, c3, c4, c5, hA, _, hW⟩ := id a2
  have lq := lg_eq hL.2.2.1 hev
  have hL' := rLg_e hL he
  have eL : lo (e + 1) = N := hL.2.2.1.2.2 (e + 1) (by omega)
  have eL2 : lo (e + 2) = N := hL.2.2.1.2.2 (e + 2) (by omega)
  obtain ⟨w, X1, X', t1, t2, t3, t4, t5⟩ := rf_tick n hn (v := nI vn) (Q := Q) (N := N) (e := e + 1) (k := e) (lo := lo) (τ := τ) (s := s1) (by rw [lq]; exact hs) hP hL' (by omega) (by rw [lq]; exact hX) (by rw [eL]; exact h10)
  rw [lq] at t3
  have j1 : jJ n vn Q V N T (e + 1) lo s1 (pI (pI (pI τ.1 10 (nI (lo (e + 2)))) 5 (nI (e + 1))) 6 (nI (e + 1)), (τ.2.1, ((τ.2.2.1.1, X'), τ.2.2.2))) := ⟨a2, hL', hev, h4, rfl, (show nI (lo (e + 2)) = nI N by rw [eL2]), t3, t4.trans h14, hS⟩
  have hNT : N ≤ T := hC.2.2.1
  have hT : T ≤ 2048 := hC.2.2.2.1
  obtain ⟨al, V', N', T', lo', s', τ3, b1, b2, b3, b4, b5, b6, b7⟩ := sc_all n hn (T - N) V N T lo s1 _ n n rfl hNT (by omega) (by omega) j1
  obtain ⟨f1, f2, f3, f4, f5, f6⟩ := b6
  refine ⟨w, al, _, V', N', T', lo', s', τ3, ?_, t2, b2, b3, ?_, fun j hj => ?_, ?_, b7, ⟨b5.1.trans (a3 0 (by omega)), b5.2.1.trans (a3 7 (by omega)), fun k => (b5.2.2.1 k).trans (a4 k), fun r hr => by rw [b5.2.2.2.1]; exact a5 r hr, ?_, ?_⟩, fun j q1 q2 q3 q4 q5 => ?_, fun j hj => f2 j hj, f3, f4, f5, f6⟩
  · rw [a1]
    have b1 : df_X11_takeScheduled n s1 = some s' := b1
    rw [b1, nb_b1]
  · rcases b4 with ⟨u1, u2⟩ | u
    · exact Or.inl ⟨u1, u2.trans (a3 6 (by omega))⟩
    · exact Or.inr u
  · show sI (pI τ.1 10 _) j = _
    rw [nb_II, if_neg hj]
  · refine (f1 5 (by omega) (by omega) (by omega)).trans ?_
    rfl
  · exact (congrArg Prod.fst b5.2.2.2.2).trans a6
  · exact (congrArg (fun p => p.2.1) b5.2.2.2.2).trans a7
  · refine (f1 j q3 q4 q5).trans ?_
    show sI (pI (pI (pI τ.1 10 _) 5 _) 6 _) j = _
    rw [nb_II, if_neg q2, nb_II, if_neg q1, nb_II, if_neg q5]
/-- what is behind now is forgotten, in the class -/
theorem fb_1 (n : Nat) (hn : 40000 < n) {vn : Nat} {Q V : St} {N T e c : Nat} {lo : Nat → Nat} {s : St × Rw × (St × (St × (St × (St)))) × (St) × (St) × (Nat → St) × (Nat → St) × (Nat → St × (St))} (h : cI n vn Q V N T e c lo s) : ∃ (V' : St) (s' : St × Rw × (St × (St × (St × (St)))) × (St) × (St) × (Nat → St) × (Nat → St) × (Nat → St × (St))), df_X11_forgetBehind n s = some (nI (e - c), s') ∧ cI n vn Q V' (lo (c + 1)) (lo (c + 1)) c c (fun k => if k ≤ c then lo k else lo (c + 1)) s' ∧ (∀ i : Nat, evK V' i = evK V i) ∧ sI s'.1 6 = nI 0 ∧ (sI s'.1 0 = sI s.1 0 ∧ sI s'.1 7 = sI s.1 7 ∧ (∀ k : Nat, sO s'.1 k = sO s.1 k) ∧ s'.2.1 = s.2.1 ∧ s'.2.2.1 = s.2.2.1 ∧ s'.2.2.2.2.2 = s.2.2.2.2.2) := by
  obtain ⟨hV, hL, hs, hP, hce, h3, h4, h5, hA, ⟨cp, sp, at_, ix, hC⟩, hW⟩ := h
  obtain ⟨l1, l2, l3, l4, l5, l6, l7, l8⟩ := id hL
  have ln := okL_N l5 (c + 1)
  have e6 : sI s.1 4 - sI s.1 3 = nI (e - c) := by rw [h4, h3]; exact pk_sub hce
  have okl : okL (lo (c + 1)) c (fun k => if k ≤ c then lo k else lo (c + 1)) := by
    refine ⟨?_, fun k => ?_, fun k hk => if_neg (by omega)⟩
    · show (if 0 ≤ c then lo 0 else lo (c + 1)) = 0
      rw [if_pos (by omega)]; exact l5.1
    · show (if k ≤ c then lo k else lo (c + 1)) ≤ (if k + 1 ≤ c then lo (k + 1) else lo (c + 1))
      by_cases y : k + 1 ≤ c
      · rw [if_pos y, if_pos (by omega)]; exact l5.2.1 k
      · rw [if_neg y]
        by_cases y' : k ≤ c
        · rw [if_pos y']; exact okL_le l5 k (c + 1) (by omega)
        · rw [if_neg y']; exact Nat.le_refl _
  have lgE : ∀ (f : Nat → Nat × Int64 × Int32) (k : Nat), k ≤ c → lgL f lo k = lgL f (fun k => if k ≤ c then lo k else lo (c + 1)) k := fun f k hk => by
    unfold lgL
    dsimp only
    rw [if_pos hk]
    by_cases y : k + 1 ≤ c
    · rw [if_pos y]
    · rw [if_neg y, show k + 1 = c + 1 by omega]
  -- the copies
  have main : ∀ (V' : St) (s1 s' : St × Rw × (St × (St × (St × (St)))) × (St) × (St) × (Nat → St) × (Nat → St) × (Nat → St × (St))), (∀ i : Nat, evK V' i = evK V i) → cLg V' (lo (c + 1)) (lo (c + 1)) c (fun k => if k ≤ c then lo k else lo (c + 1)) → eA s' V' → (∃ i : Nat, i < cp ∧ at_ i ≤ c ∧ (∀ j : Nat, i < j → j < cp → c < at_ j) ∧ s'.1 = pI s1.1 1 (nI (i + 1))) → (∀ k : Nat, k = 2 ∨ k = 3 ∨ k = 5 → sI s1.1 k = sI s.1 k) → sI s1.1 4 = nI c → sR s1.1 0 = sR s.1 0 → sR s1.1 1 = sR s.1 1 → s'.2.1 = s.2.1 → s'.2.2.1 = s.2.2.1 → s'.2.2.2.2.2 = s.2.2.2.2.2 → cI n vn Q V' (lo (c + 1)) (lo (c + 1)) c c (fun k => if k ≤ c then lo k else lo (c + 1)) s' := fun V' s1 s' ev hc' ha' ⟨i, i1, i2, i3, i4⟩ q1 q2 q3 q4 q5 q6 q7 => by
    have evf : evK V' = evK V := funext ev
    have y8 : s'.2.2.2.2.2.1 = s.2.2.2.2.2.1 := congrArg Prod.fst q7
    have y9 : s'.2.2.2.2.2.2.2 = s.2.2.2.2.2.2.2 := congrArg (fun p => p.2.2) q7
    have n1 : ∀ k : Nat, ¬ k = 1 → sI s'.1 k = sI s1.1 k := fun k hk => by rw [i4, nb_II, if_neg hk]
    refine ⟨ha', hc', ⟨fun j hj => ?_, fun j hj => ?_⟩, ?_, Nat.le_refl c, (n1 3 (by omega)).trans ((q1 3 (by omega)).trans h3), (n1 4 (by omega)).trans q2, ?_, ?_, ⟨i + 1, sp, at_, ix, ?_⟩, fun j hj => ?_⟩
    · obtain ⟨M, hM⟩ := hs.1 j (by omega)
      rw [evf]
      exact ⟨M, tB_c (fun k hk => lgE _ k (by omega)) hM⟩
    · obtain ⟨M, hM, hcur⟩ := hs.2 j (by omega)
      rw [evf]
      exact ⟨M, tA_c (fun k hk => lgE _ k (by omega)) hM, fun z => hcur (by omega)⟩
    · obtain ⟨p1, p2⟩ := hP
      refine ⟨by rw [q6]; exact p1, fun j hj => ?_⟩
      rw [q5, y8]
      exact p2 j hj
    · refine (n1 5 (by omega)).trans ((q1 5 (by omega)).trans ?_)
      rw [h5]
      show nI (lo (c + 1)) = nI (if c + 1 ≤ c then lo (c + 1) else lo (c + 1))
      rw [if_neg (by omega)]
    · rw [q6, evf]
      exact tA_c (fun k hk => lgE _ k hk) hA
    · obtain ⟨⟨b1, b2, b3, b4, b5, b6⟩, d1, d2, d3, d4, d5⟩ := hC
      refine ⟨⟨by omega, by omega, by rw [i4]; rfl, (n1 2 (by omega)).trans ((q1 2 (by omega)).trans b4), b5, b6⟩, fun k hk => by rw [q5]; exact d1 k hk, d2, d3, fun k hk => d4 k (by omega), fun k hk => ?_⟩
      obtain ⟨g1, g2, g3, g4⟩ := d5 k (by omega)
      have le : at_ k ≤ c := by
        by_cases y : k = i
        · rw [y]; exact i2
        · have := at_mono d4 (i - k) k (by omega)
          rw [show k + (i - k) = i by omega] at this
          omega
      refine ⟨g1, le, ?_, ?_⟩
      · rw [i4]
        show sR s1.1 1 k = _
        rw [q4]; exact g3
      · rw [y9, evf]
        exact tB_c (fun j hj => lgE _ j (by omega)) g4
    · rw [i4]
      show wK _ _ _ _ j (sR s1.1 0 j)
      rw [q3, evf]
      intro X hX
      exact hW j (by omega) X (RA_c (fun k hk => (lgE _ k (by omega)).symm) hX)
  have cl' : cLg (pI (pI V 0 (nI (lo (c + 1)))) 1 (nI (lo (c + 1)))) (lo (c + 1)) (lo (c + 1)) c (fun k => if k ≤ c then lo k else lo (c + 1)) := by
    refine ⟨rfl, rfl, Nat.le_refl _, by omega, okl, fun i k hk q1 q2 => ?_, fun i hi => l7 i (by omega), by omega⟩
    have q1 : (if k ≤ c then lo k else lo (c + 1)) ≤ i := q1
    have q2 : i < (if k + 1 ≤ c then lo (k + 1) else lo (c + 1)) := q2
    rw [if_pos hk] at q1
    show sQ V 0 i = _
    by_cases y : k + 1 ≤ c
    · rw [if_pos y] at q2
      exact l6 i k (by omega) q1 q2
    · rw [if_neg y] at q2
      exact l6 i k (by omega) q1 (by rw [show k + 1 = c + 1 by omega]; exact q2)
  have hC1 : ∀ W : St × St × (Nat → St) × (Nat → St) × (Nat → St × St), W.2.2 = s.2.2.2.2.2 → cC n (nI vn) Q (lgL (evK V) lo) (pI (pI s.1 4 (nI c)) 6 (nI 0), (s.2.1, (s.2.2.1, W))) cp sp e at_ ix := fun W hW => by
    have y9 : W.2.2.2.2 = s.2.2.2.2.2.2.2 := congrArg (fun p => p.2.2) hW
    obtain ⟨b1, d1, d2, d3, d4, d5⟩ := hC
    refine ⟨b1, d1, d2, d3, d4, fun k hk => ?_⟩
    show _ ∧ _ ∧ _ ∧ tB _ _ _ _ _ (W.2.2.2.2 (ix k))
    rw [y9]
    exact d5 k hk
  have cmm : ∀ x : St, pI (pI x 0 (sI s.1 5)) 1 (sI s.1 5) = pI (pI x 0 (nI (lo (c + 1)))) 1 (nI (lo (c + 1))) := fun x => by rw [h5]
  rcases hV with ⟨o1, o2⟩ | ⟨o1, o2⟩
  · obtain ⟨i, q1, q2, q3, q4⟩ := cu_1 n (by omega) (c := c) (hC1 (pI (pI s.2.2.2.1 0 (nI (lo (c + 1)))) 1 (nI (lo (c + 1))), s.2.2.2.2) rfl) l8 (by omega)
    refine ⟨pI (pI V 0 (nI (lo (c + 1)))) 1 (nI (lo (c + 1))), (pI (pI (pI s.1 4 (nI c)) 6 (nI 0)) 1 (nI (i + 1)), (s.2.1, (s.2.2.1, (pI (pI s.2.2.2.1 0 (nI (lo (c + 1)))) 1 (nI (lo (c + 1))), s.2.2.2.2)))), ?_, main _ (pI (pI s.1 4 (nI c)) 6 (nI 0), s.2) _ (fun _ => rfl) cl' (Or.inl ⟨o1, by rw [o2]⟩) ⟨i, q1, q3, q4, rfl⟩ (fun k hk => ?_) rfl rfl rfl rfl rfl rfl, fun _ => rfl, rfl, rfl, rfl, fun _ => rfl, rfl, rfl, rfl⟩
    · unfold df_X11_forgetBehind df_X11_forgetBehind_0
      rw [e6, nb_let, h3, nb_let, if_pos (show sO (pI s.1 4 (nI c)) 0 = some 27 from o1), nb_let, nb_let, nb_let]
      dsimp only
      rw [show sI (pI s.1 4 (nI c)) 5 = sI s.1 5 from rfl, cmm, show sI (pI (pI s.1 4 (nI c)) 6 0) 3 = nI c from h3]
      have q2 : df_X11_copyUpTo n (nI c) (pI (pI s.1 4 (nI c)) 6 0, (s.2.1, (s.2.2.1, (pI (pI s.2.2.2.1 0 (nI (lo (c + 1)))) 1 (nI (lo (c + 1))), s.2.2.2.2)))) = some (nI i, (pI (pI s.1 4 (nI c)) 6 0, (s.2.1, (s.2.2.1, (pI (pI s.2.2.2.1 0 (nI (lo (c + 1)))) 1 (nI (lo (c + 1))), s.2.2.2.2))))) := q2
      rw [q2, nb_b2, show nI i + 1 = nI (i + 1) from nI_add .., nb_let]
      rfl
    · show sI (pI (pI s.1 4 _) 6 _) k = _
      rw [nb_II, if_neg (by omega), nb_II, if_neg (by omega)]
  · obtain ⟨i, q1, q2, q3, q4⟩ := cu_1 n (by omega) (c := c) (hC1 (s.2.2.2.1, (pI (pI s.2.2.2.2.1 0 (nI (lo (c + 1)))) 1 (nI (lo (c + 1))), s.2.2.2.2.2)) rfl) l8 (by omega)
    refine ⟨pI (pI V 0 (nI (lo (c + 1)))) 1 (nI (lo (c + 1))), (pI (pI (pI s.1 4 (nI c)) 6 (nI 0)) 1 (nI (i + 1)), (s.2.1, (s.2.2.1, (s.2.2.2.1, (pI (pI s.2.2.2.2.1 0 (nI (lo (c + 1)))) 1 (nI (lo (c + 1))), s.2.2.2.2.2))))), ?_, main _ (pI (pI s.1 4 (nI c)) 6 (nI 0), s.2) _ (fun _ => rfl) cl' (Or.inr ⟨o1, by rw [o2]⟩) ⟨i, q1, q3, q4, rfl⟩ (fun k hk => ?_) rfl rfl rfl rfl rfl rfl, fun _ => rfl, rfl, rfl, rfl, fun _ => rfl, rfl, rfl, rfl⟩
    · unfold df_X11_forgetBehind df_X11_forgetBehind_0
      rw [e6, nb_let, h3, nb_let, if_neg (show ¬ sO (pI s.1 4 (nI c)) 0 = some 27 from (show ¬ sO s.1 0 = some 27 by rw [o1]; decide)), if_pos (show sO (pI s.1 4 (nI c)) 0 = some 32 from o1), nb_let, nb_let, nb_let]
      dsimp only
      rw [show sI (pI s.1 4 (nI c)) 5 = sI s.1 5 from rfl, cmm, show sI (pI (pI s.1 4 (nI c)) 6 0) 3 = nI c from h3]
      have q2 : df_X11_copyUpTo n (nI c) (pI (pI s.1 4 (nI c)) 6 0, (s.2.1, (s.2.2.1, (s.2.2.2.1, (pI (pI s.2.2.2.2.1 0 (nI (lo (c + 1)))) 1 (nI (lo (c + 1))), s.2.2.2.2.2))))) = some (nI i, (pI (pI s.1 4 (nI c)) 6 0, (s.2.1, (s.2.2.1, (s.2.2.2.1, (pI (pI s.2.2.2.2.1 0 (nI (lo (c + 1)))) 1 (nI (lo (c + 1))), s.2.2.2.2.2)))))) := q2
      rw [q2, nb_b2, show nI i + 1 = nI (i + 1) from nI_add .., nb_let]
      rfl
    · show sI (pI (pI s.1 4 _) 6 _) k = _
      rw [nb_II, if_neg (by omega), nb_II, if_neg (by omega)]
