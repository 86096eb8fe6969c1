theorem pl_pl (σ : S12) (a b : S11) : pl (pl σ a) b = pl σ b := by
  have r : nd_mix 4 b.2.1 (nd_mix 4 a.2.1 σ.2.1) = nd_mix 4 b.2.1 σ.2.1 := by
    funext i
    unfold nd_mix
    by_cases c : i < 4
    · rw [if_pos c, if_pos c]
    · rw [if_neg c, if_neg c, if_neg c]
  show (σ.1, nd_mix 4 b.2.1 (nd_mix 4 a.2.1 σ.2.1), σ.2.2.1, σ.2.2.2.1, b.1, b.2.2.1, b.2.2.2.1, b.2.2.2.2.1, b.2.2.2.2.2.1, b.2.2.2.2.2.2.1, b.2.2.2.2.2.2.2) = _
  rw [r]
  rfl
/-- what the class is worth at now -/
theorem vl_C (n T L : Nat) {σ : S12} {t : S11} {j : Nat} {z : Int32} {v : Int64} {C : St} (hj : j < 9) (h : df_X2_worth n z (nd_st0, (t.2.2.2.2.2.2.1 j, t.2.2.1.2.2)) = some (v, (nd_st0, (C, t.2.2.1.2.2)))) : df_X12_value_102 n T L j z (pl σ t) = some (Sum.inl (v, pl σ (stK t (fun i => if i = j then C else t.2.2.2.2.2.2.1 i)))) := by
  unfold df_X12_value_102
  rw [nb_lt hj]
  have h : df_X2_worth n z (nd_st0, ((pl σ t).2.2.2.2.2.2.2.2.2.1 j, (pl σ t).2.2.2.2.2.1.2.2)) = some (v, (nd_st0, (C, t.2.2.1.2.2))) := h
  rw [h, nb_b2, nb_let]
  rfl
/-- the time that the class asks for is the reference's -/
theorem bf_1 {c : Nat} (h : c ≤ 60000) : (if (0 : Int32) < nI c - 1 then nI c - 1 else 0) = nI (c - 1) := by
  by_cases c0 : c = 0
  · subst c0; decide
  · have e : nI c - 1 = nI (c - 1) := pk_sub (show 1 ≤ c by omega)
    rw [e]
    by_cases c1 : c = 1
    · subst c1; decide
    · rw [if_pos (show (0 : Int32) < nI (c - 1) from (show nI 0 < nI (c - 1) by rw [nI_ltI (by omega) (by omega)]; omega))]
/-- one condition remembers at the count before and is worth now, in both -/
theorem jm_value (n T L : Nat) (hn : 70000 < n) {vn : Nat} {Q V : St} {N T' e c k : Nat} {lo : Nat → Nat} {σ : S12} {τ : S19} (h : jM n vn Q V N T' e c k lo (tl σ) τ) {Nb : Nat → Nat} {pos : Nat → Nat → Nat} (hb : bRk n (σ.2.1 2) (tl σ).2.2.2.2.2.2.1 τ.2.2.1.1 Nb pos) {A j : Nat} (hA : A < 8) (hr : σ.2.1 2 A = some j) : ∃ (v : Int64) (t' : S11) (τ' : S19), (nd_lt j 9 (if sI (σ.2.2.2.2.2.2.2.2.2.1 j) 2 ≤ 0 then df_X12_value_102 n T L j (nI c) σ else nd_b1 (df_X11_moveTo n (nI (c - 1)) (tl σ)) (fun s15 => nd_b1 (df_X2_remember n (sI s15.1 3) (nd_st0, (s15.2.2.2.2.2.2.1 j, s15.2.2.1.2.2))) (fun s19 => nd_b1 (df_X11_moveTo n (nI c) (tl (pl σ (s15.1, (s15.2.1, ((s15.2.2.1.1, (s15.2.2.1.2.1, s19.2.2)), (s15.2.2.2.1, (s15.2.2.2.2.1, (s15.2.2.2.2.2.1, ((fun i => if i = j then s19.2.1 else s15.2.2.2.2.2.2.1 i), s15.2.2.2.2.2.2.2)))))))))) (fun s23 => df_X12_value_102 n T L j (nI c) (pl σ s23)))))) = some (Sum.inl (v, pl σ t')) ∧ df_X19_value_76 n (nI A) (nI (c - 1)) τ = some (v, τ') ∧ jM n vn Q V N T' e c c lo t' τ' ∧ bRk n (t'.2.1 2) t'.2.2.2.2.2.2.1 τ'.2.2.1.1 Nb pos ∧ (kC2 (tl σ) t' ∧ sI t'.1 7 = sI (tl σ).1 7) ∧ (kR2 τ τ' ∧ sI τ'.1 7 = sI τ.1 7) := by
  have hce : c ≤ e := h.1.2.2.2.2.1
  have he : e ≤ 60000 := h.2.1.2.2.2.2.2
  -- the reference at the count before
  obtain ⟨X1, a1, a2⟩ := jm_come n hn (d := c - 1) h (by omega)
  have rx1 : RA n (nI vn) Q (lgL (evK V) lo) (c - 1) X1 := a2.2.2.2.2.2.2.1
  obtain ⟨M0, tA0, _⟩ := h.1.2.2.1.2 (c - 1) (by omega)
  obtain ⟨hk, hd⟩ := id hb
  obtain ⟨i, i9, ir, _, hB⟩ | ⟨ir, _⟩ := (hk A hA).symm
  · rw [hr] at ir
    injection ir with ir
    subst ir
    have N40 : Nb A ≤ 40 := hB.2.1
    have oN : sI (σ.2.2.2.2.2.2.2.2.2.1 j) 2 = nI (Nb A) := hB.1
    -- what follows: both at now
    have fin : ∀ (t2 : S11) (Y2 : St), cI n vn Q V N T' e c lo t2 → sI t2.1 6 = sI (tl σ).1 6 → t2.2.1 2 = σ.2.1 2 → bRk n (σ.2.1 2) t2.2.2.2.2.2.2.1 Y2 Nb pos → tiO (Nb A) (pos A) (t2.2.2.2.2.2.2.1 j) Y2 → yFr τ.2.2.1.1 Y2 → df_X15_remember n (nI A) (τ.2.2.1.1, X1) = some (Y2, X1) → ∃ (v : Int64) (C : St) (τ' : S19), df_X2_worth n (nI c) (nd_st0, (t2.2.2.2.2.2.2.1 j, t2.2.2.1.2.2)) = some (v, (nd_st0, (C, t2.2.2.1.2.2))) ∧ df_X19_value_76 n (nI A) (nI (c - 1)) τ = some (v, τ') ∧ jM n vn Q V N T' e c c lo (stK t2 (fun i => if i = j then C else t2.2.2.2.2.2.2.1 i)) τ' ∧ bRk n (σ.2.1 2) (fun i => if i = j then C else t2.2.2.2.2.2.2.1 i) τ'.2.2.1.1 Nb pos ∧ (kR2 τ τ' ∧ sI τ'.1 7 = sI τ.1 7) := fun t2 Y2 q1 q2 q3 q4 q5 q6 q7 => by
      obtain ⟨X2, b1, b2⟩ := jm_come n hn (d := c) (τ := stY (pI τ.1 10 (nI (lo (c - 1 + 1))), (τ.2.1, ((τ.2.2.1.1, X1), τ.2.2.2))) Y2) (t := tl σ) a2 hce
      have rx2 : RA n (nI vn) Q (lgL (evK V) lo) c X2 := b2.2.2.2.2.2.2.1
      obtain ⟨_, _, _, _, _, _, _, _, tAc, _, _⟩ := id q1
      obtain ⟨m1, m2, m3, _⟩ := tAc.2 X2 rx2
      obtain ⟨j', j9', jr, _, hB2⟩ | ⟨jr, _⟩ := (q4.1 A hA).symm
      · rw [hr] at jr
        injection jr with jr
        subst jr
        obtain ⟨v, C, Y3, r1, r2, r3, r4, r5, r6⟩ := (hB2.2.2.2 (512 * c) c t2.2.2.1.2.2 X2 (t2.2.2.2.2.2.2.1 j) Y2 m1 m2 m3 (by omega) (cSt_r _) (ySt_r _ _)).2 q5
        refine ⟨v, C, (pI (pI τ.1 10 (nI (lo (c - 1 + 1)))) 10 (nI (lo (c + 1))), (τ.2.1, ((Y3, X2), τ.2.2.2))), r1, ?_, ?_, bRk_t q4 r3 r5, ⟨fun i hi => ?_, fun _ _ => rfl, fun _ => rfl, rfl, rfl⟩, rfl⟩
        · unfold df_X19_value_76
          rw [a1, nb_b1]
          dsimp only
          rw [q7, nb_b1, nb_let]
          dsimp only
          rw [show sI (pI τ.1 10 (nI (lo (c - 1 + 1)))) 5 = nI c from h.2.2.2.2.1.2.1]
          have b1 : df_X19_come n (nI c) (pI τ.1 10 (nI (lo (c - 1 + 1))), (τ.2.1, ((Y2, X1), τ.2.2.2))) = some (pI (pI τ.1 10 (nI (lo (c - 1 + 1)))) 10 (nI (lo (c + 1))), (τ.2.1, ((Y2, X2), τ.2.2.2))) := b1
          rw [b1, nb_b1]
          dsimp only
          rw [r2, nb_b2, nb_let]
        · obtain ⟨z1, z2, z3, z4, z5, z6, z7, z8, z9, za, zb⟩ := b2
          exact ⟨q1, z2, z3, z4, z5, z6, z7, z8, z9, za, q2.trans zb.1, zb.2⟩
        · show sI (pI (pI τ.1 10 _) 10 _) i = _
          rw [nb_II, if_neg (by omega), nb_II, if_neg (by omega)]
      · rw [hr] at jr; exact nomatch jr
    by_cases n0 : Nb A = 0
    · -- nothing is remembered
      obtain ⟨m1, m2, m3, _⟩ := tA0.2 X1 rx1
      obtain ⟨⟨C2, Y2, r1, r2, r3, r4, r5, r6⟩, _⟩ := hB.2.2.2 (512 * (c - 1)) (c - 1) M0 X1 ((tl σ).2.2.2.2.2.2.1 j) τ.2.2.1.1 m1 m2 m3 (by omega) (cSt_r _) (ySt_r _ _)
      obtain ⟨v, C, τ', f1, f2, f3, f4, f5⟩ := fin (tl σ) Y2 h.1 rfl rfl (bRk_y hb r4) (fun q hq => by omega) r4 r2
      refine ⟨v, _, τ', ?_, f2, f3, f4, ⟨⟨rfl, fun _ => rfl, fun _ _ => rfl, rfl⟩, rfl⟩, f5⟩
      rw [nb_lt i9, oN, n0, if_pos (show nI 0 ≤ (0 : Int32) by decide)]
      have := vl_C n T L (σ := σ) (t := tl σ) (z := nI c) i9 f1
      rw [pl_tl] at this
      exact this
    · obtain ⟨t1, d1, d2, d3⟩ := mv_1 n hn h.1 (d := c - 1) (by omega)
      obtain ⟨_, _, _, _, _, c3', _, _, tA1, _, _⟩ := id d2
      obtain ⟨m1, m2, m3, _⟩ := tA1.2 X1 rx1
      have kk : t1.2.2.2.2.2.2.1 = (tl σ).2.2.2.2.2.2.1 := d3.2.2.2.2.2.2.2
      obtain ⟨⟨C2, Y2, r1, r2, r3, r4, r5, r6⟩, _⟩ := hB.2.2.2 (512 * (c - 1)) (c - 1) t1.2.2.1.2.2 X1 (t1.2.2.2.2.2.2.1 j) τ.2.2.1.1 m1 m2 m3 (by omega) (by rw [kk]; exact cSt_r _) (ySt_r _ _)
      obtain ⟨t2, e1, e2, e3⟩ := mv_1 n hn (s := stK t1 (fun i => if i = j then C2 else t1.2.2.2.2.2.2.1 i)) (d := c) d2 hce
      have kk2 : t2.2.2.2.2.2.2.1 = (fun i => if i = j then C2 else t1.2.2.2.2.2.2.1 i) := e3.2.2.2.2.2.2.2
      have row2 : t2.2.1 2 = σ.2.1 2 := (e3.2.2.1 2 (by omega)).trans (d3.2.2.1 2 (by omega))
      have hb2 : bRk n (σ.2.1 2) t2.2.2.2.2.2.2.1 Y2 Nb pos := by
        rw [kk2, kk]
        rw [kk] at r3
        exact bRk_t hb r3 r4
      obtain ⟨v, C, τ', f1, f2, f3, f4, f5⟩ := fin t2 Y2 e2 ((e3.1 6 (by omega)).trans (d3.1 6 (by omega))) row2 hb2 (by rw [kk2]; show tiO _ _ (if j = j then C2 else _) Y2; rw [if_pos rfl]; exact r6) r4 r2
      refine ⟨v, _, τ', ?_, f2, f3, ?_, ⟨⟨(e3.1 0 (by omega)).trans (d3.1 0 (by omega)), fun q => (e3.2.1 q).trans (d3.2.1 q), fun r z => (e3.2.2.1 r z).trans (d3.2.2.1 r z), e3.2.2.2.2.2.2.1.trans d3.2.2.2.2.2.2.1⟩, (e3.1 7 (by omega)).trans (d3.1 7 (by omega))⟩, f5⟩
      · rw [nb_lt i9, oN, if_neg (show ¬ nI (Nb A) ≤ (0 : Int32) from fun z => by have z : nI (Nb A) ≤ nI 0 := z; rw [nm_nle0 (by omega)] at z; exact n0 z), d1, nb_b1, c3', r1, nb_b1]
        have tp : tl (pl σ (stK t1 (fun i => if i = j then C2 else t1.2.2.2.2.2.2.1 i))) = stK t1 (fun i => if i = j then C2 else t1.2.2.2.2.2.2.1 i) := tl_pl' (fun r a b => d3.2.2.1 r a)
        show nd_b1 (df_X11_moveTo n (nI c) (tl (pl σ (stK t1 (fun i => if i = j then C2 else t1.2.2.2.2.2.2.1 i))))) _ = _
        rw [tp, e1, nb_b1]
        exact vl_C n T L i9 f1
      · show bRk n (t2.2.1 2) _ _ Nb pos
        rw [row2]
        exact f4
  · rw [hr] at ir; exact nomatch ir
theorem it_15 (n : Nat) {Y : St} {X : St × St} {k : Nat} (hk : k < 8) {v : Int32} (hv : v = nI 0 ∨ v = nI 1) (e : sR Y 1 k = v) : df_X15_isThere n (nI k) (Y, X) = some (v, (Y, X)) := by
  unfold df_X15_isThere df_X15_isThere_0
  rw [nm_ck hk (by omega), nI_clamp (by omega)]
  dsimp only
  rw [e]
  rcases hv with rfl | rfl
  · exact nm_z0
  · exact nm_z1
/-- value -/
theorem jc_value (n T L : Nat) (hn : 70000 < n) (v : Int32) (σ : S12) (τ : S19) {Nb : Nat → Nat} {pos : Nat → Nat → Nat} (h : jA n (tl σ) τ) (hb : bRk n (σ.2.1 2) (tl σ).2.2.2.2.2.2.1 τ.2.2.1.1 Nb pos) : (df_X12_value n T L v σ = some (Sum.inr ("java/lang/IllegalArgumentException", σ)) ∧ df_X19_value n v τ = some (0, (pI τ.1 0 1, τ.2))) ∨ (df_X12_value n T L v σ = some (Sum.inr ("java/lang/IllegalStateException", σ)) ∧ df_X19_value n v τ = some (0, (pI τ.1 0 2, τ.2))) ∨ ∃ (r : Int64) (t' : S11) (τ' : S19), df_X12_value n T L v σ = some (Sum.inl (r, pl σ t')) ∧ df_X19_value n v τ = some (r, τ') ∧ sI τ'.1 0 = 0 ∧ jA n t' τ' ∧ bRk n (t'.2.1 2) t'.2.2.2.2.2.2.1 τ'.2.2.1.1 Nb pos ∧ (kC2 (tl σ) t' ∧ sI t'.1 7 = sI (tl σ).1 7) ∧ (kR2 (pI τ.1 0 0, τ.2) τ' ∧ sI τ'.1 7 = sI τ.1 7) := by
  have n1 : ¬ nI 1 = (0 : Int32) := by decide
  obtain ⟨A, hA, rfl⟩ := nI_ex v
  have inE : df_X19_in n (nI A).toInt64 0 7 () = some (if A ≤ 7 then nI 1 else nI 0, ()) := in_b n (b := 7) hA (by omega) rfl
  by_cases d : A ≤ 7
  · have lt0 : ¬ nI A < (0 : Int32) := fun z => by rw [lz_0 hA] at z; omega
    have lt8 : nI A < (8 : Int32) := (show nI A < nI 8 by rw [nI_ltI (by omega) (by omega)]; omega)
    have a7 : nI A &&& 7 = nI A := (nm_m7 (by omega)).trans (by rw [Nat.mod_eq_of_lt (by omega)])
    have bad : (∀ s : S19, df_X19_value_45 n (nI A) 0 s = some (0, (pI s.1 0 2, s.2))) := fun s => by
      unfold df_X19_value_45 df_X19_value_50
      rw [nb_fails, nb_b2]
      rfl
    obtain ⟨h0, ⟨h1, h2, _⟩ | ⟨h1, h2, vn, Q, V, N, T', e, c, k, lo, h3⟩⟩ := h
    · refine Or.inr (Or.inl ⟨?_, ?_⟩)
      · unfold df_X12_value df_X12_value_0 df_X12_value_39
        rw [if_neg lt0, if_pos lt8, nm_ck (by omega) (by omega), nI_clamp (by omega)]
        cases σ.2.1 2 A with
        | none => rw [nb_mN]
        | some j => rw [nb_mS, if_pos (show sI σ.2.2.2.2.1 0 = 0 from h1)]
      · unfold df_X19_value df_X19_value_0 df_X19_value_20
        rw [inE, nb_b2, if_pos d, if_neg n1, if_neg n1, if_pos (show sI τ.1 3 = 0 from h2), bad]
    · have b1 : ¬ sI σ.2.2.2.2.1 0 = 0 := by
        rw [show sI σ.2.2.2.2.1 0 = nI 1 from h1]; decide
      have b2 : ¬ sI τ.1 3 = 0 := by rw [h2]; decide
      rcases hb.1 A (by omega) with ⟨a, b⟩ | ⟨j, j9, a, b, hB⟩
      · refine Or.inr (Or.inl ⟨?_, ?_⟩)
        · unfold df_X12_value df_X12_value_0 df_X12_value_39
          rw [if_neg lt0, if_pos lt8, nm_ck (by omega) (by omega), nI_clamp (by omega), a, nb_mN]
        · unfold df_X19_value df_X19_value_0 df_X19_value_20
          have it := it_15 n (X := τ.2.2.1.2) (show A < 8 by omega) (Or.inl rfl) b
          have it : df_X15_isThere n (nI A) τ.2.2.1 = some (nI 0, τ.2.2.1) := it
          rw [inE, nb_b2, if_pos d, if_neg n1, if_neg n1, if_neg b2, a7, it, nb_b2, nb_let, if_pos (show nI 0 = (0 : Int32) from rfl), bad]
      · refine Or.inr (Or.inr ?_)
        have hce : c ≤ e := h3.1.2.2.2.2.1
        have he : e ≤ 60000 := h3.2.1.2.2.2.2.2
        obtain ⟨r, t', τ', g1, g2, g3, g4, g5, g6⟩ := jm_value n T L hn (jm_0 h3 0) hb (show A < 8 by omega) a
        have c3 : sI σ.2.2.2.2.1 3 = nI c := h3.1.2.2.2.2.2.1
        have e5 : sI (pI τ.1 0 0) 5 = nI c := h3.2.2.2.2.1.2.1
        refine ⟨r, t', τ', ?_, ?_, (g6.1.1 0 (by omega)).trans rfl, ⟨?_, Or.inr ⟨g5.1.1.trans h1, (g6.1.1 3 (by omega)).trans h2, vn, Q, V, N, T', e, c, c, lo, g3⟩⟩, g4, g5, g6⟩
        · unfold df_X12_value df_X12_value_0
          rw [if_neg lt0, if_pos lt8, nm_ck (by omega) (by omega), nI_clamp (by omega), a, nb_mS, if_neg b1, nb_let, c3, bf_1 (by omega)]
          refine Eq.trans ?_ g1
          congr 1
          by_cases q : sI (σ.2.2.2.2.2.2.2.2.2.1 j) 2 ≤ 0
          · rw [if_pos q, if_pos q]
          · rw [if_neg q, if_neg q]
            show nd_b1 (df_X11_moveTo n (nI (c - 1)) (tl σ)) _ = nd_b1 (df_X11_moveTo n (nI (c - 1)) (tl σ)) _
            congr 1
            funext s15
            rw [nb_let]
            show nd_b1 (df_X2_remember n (sI s15.1 3) (nd_st0, (s15.2.2.2.2.2.2.1 j, s15.2.2.1.2.2))) _ = nd_b1 _ _
            congr 1
            funext s19
            rw [nb_let]
            show nd_b1 (df_X11_moveTo n (nI c) (tl (pl σ (s15.1, (s15.2.1, ((s15.2.2.1.1, (s15.2.2.1.2.1, s19.2.2)), (s15.2.2.2.1, (s15.2.2.2.2.1, (s15.2.2.2.2.2.1, ((fun i => if i = j then s19.2.1 else s15.2.2.2.2.2.2.1 i), s15.2.2.2.2.2.2.2)))))))))) _ = nd_b1 _ _
            congr 1
            funext s23
            rw [nb_let]
            show df_X12_value_102 n T L j (nI c) (pl (pl σ (s15.1, (s15.2.1, ((s15.2.2.1.1, (s15.2.2.1.2.1, s19.2.2)), (s15.2.2.2.1, (s15.2.2.2.2.1, (s15.2.2.2.2.2.1, ((fun i => if i = j then s19.2.1 else s15.2.2.2.2.2.2.1 i), s15.2.2.2.2.2.2.2)))))))) s23) = _
            rw [pl_pl]
        · unfold df_X19_value df_X19_value_0 df_X19_value_20 df_X19_value_49 df_X19_value_50
          have it := it_15 n (X := τ.2.2.1.2) (show A < 8 by omega) (Or.inr rfl) b
          have it : df_X15_isThere n (nI A) τ.2.2.1 = some (nI 1, τ.2.2.1) := it
          rw [inE, nb_b2, if_pos d, if_neg n1, if_neg n1, if_neg b2, a7, it, nb_b2, nb_let, if_neg n1, nb_fails, nb_b2, if_pos (show (0 : Int32) = 0 ∧ (0 : Int32) = 0 from ⟨rfl, rfl⟩), if_pos rfl, if_pos rfl, if_pos rfl]
          dsimp only
          rw [e5]
          by_cases c0 : c = 0
          · rw [if_pos (show nI c = (0 : Int32) by rw [c0]; rfl)]
            rw [c0] at g2
            exact g2
          · rw [if_neg (show ¬ nI c = (0 : Int32) from fun z => by have z : nI c = nI 0 := z; rw [nI_eq (by omega) (by omega)] at z; exact c0 z), show nI c - 1 = nI (c - 1) from pk_sub (show 1 ≤ c by omega)]
            exact g2
        · unfold sp2
          rw [g5.1.2.1 0, g5.1.2.1 1]
          exact h0
  · refine Or.inl ⟨?_, ?_⟩
    · unfold df_X12_value df_X12_value_0 df_X12_value_10
      rcases rg_e hA (k := 7) (by omega) d with b | ⟨b1, b2⟩
      · rw [if_pos b]
      · rw [if_neg b1, if_neg (show ¬ nI A < (8 : Int32) from fun z => b2 (by rw [Int32.le_iff_toInt_le]; have z : nI A < nI 8 := z; rw [Int32.lt_iff_toInt_lt, nI_toInt (show 8 < 2 ^ 31 by omega)] at z; rw [nI_toInt (show 7 < 2 ^ 31 by omega)]; omega))]
    · unfold df_X19_value df_X19_value_0 df_X19_value_20 df_X19_value_49 df_X19_value_50
      rw [inE, nb_b2, if_neg d, if_pos (show nI 0 = (0 : Int32) from rfl), if_pos (show nI 0 = (0 : Int32) from rfl), nb_fails, nb_b2]
      rfl
