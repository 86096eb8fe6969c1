theorem tl_pl' {σ : S12} {t' : S11} (h : ∀ r : Nat, ¬ r = 3 → ¬ r = 0 → t'.2.1 r = σ.2.1 r) : tl (pl σ t') = t' := by
  have r : nd_mix 4 t'.2.1 σ.2.1 = t'.2.1 := by
    funext i
    by_cases c : i < 4
    · exact if_pos c
    · exact (if_neg c).trans (h i (by omega) (by omega)).symm
  show (t'.1, nd_mix 4 t'.2.1 σ.2.1, t'.2.2.1, t'.2.2.2.1, t'.2.2.2.2.1, t'.2.2.2.2.2.1, t'.2.2.2.2.2.2.1, t'.2.2.2.2.2.2.2) = t'
  rw [r]
/-- the class's replay, the spare events being one or the other -/
theorem rc_27 (n T L : Nat) {σ : S12} {A j len : Nat} {r : Int32} {V' : St} (hA : A < 4) (x : σ.2.1 1 A = some j) (o : sO σ.2.2.2.2.1 1 = some 27) (tp : sI σ.1 0 = nI len) (rl : df_X3_readLog n T (nI len) (pR nd_st0 0 (sR σ.2.2.2.1.2 7), σ.2.2.2.2.2.2.1) = some (r, (pR nd_st0 0 (sR σ.2.2.2.1.2 7), V'))) : df_X12_replay n T L (nI A) σ = if r < 0 then some (Sum.inl (r, (pI (pI σ.1 0 0) 1 0, (σ.2.1, (σ.2.2.1, (σ.2.2.2.1, (σ.2.2.2.2.1, (σ.2.2.2.2.2.1, (V', σ.2.2.2.2.2.2.2))))))))) else nd_b1 (df_X11_startWith n (nI A) (tl (pI (pI σ.1 0 0) 1 0, (σ.2.1, (σ.2.2.1, (σ.2.2.2.1, (σ.2.2.2.2.1, (σ.2.2.2.2.2.1, (V', σ.2.2.2.2.2.2.2))))))))) (fun s15 => some (Sum.inl (r, pl (pI (pI σ.1 0 0) 1 0, (σ.2.1, (σ.2.2.1, (σ.2.2.2.1, (σ.2.2.2.2.1, (σ.2.2.2.2.2.1, (V', σ.2.2.2.2.2.2.2))))))) s15))) := by
  have lt0 : ¬ nI A < (0 : Int32) := fun z => by rw [lz_0 (by omega)] at z; omega
  have lt4 : nI A < (4 : Int32) := (show nI A < nI 4 by rw [nI_ltI (by omega) (by omega)]; omega)
  have ut : df_X12_useTape n T L σ = some (nI len, (pI (pI σ.1 0 0) 1 0, σ.2)) := by rw [← tp]; rfl
  unfold df_X12_replay df_X12_replay_0 df_X12_replay_69
  rw [if_neg lt0, if_pos lt4, nm_ck (by omega) (by omega), nI_clamp (by omega), x, nb_mS, if_pos o, ut, nb_b2]
  dsimp only
  rw [rl, nb_b2, nb_let]
  dsimp only
  rw [show sR (pR nd_st0 0 (sR σ.2.2.2.1.2 7)) 0 = sR σ.2.2.2.1.2 7 from rfl, nm_r0]
  rfl
theorem rc_32 (n T L : Nat) {σ : S12} {A j len : Nat} {r : Int32} {V' : St} (hA : A < 4) (x : σ.2.1 1 A = some j) (o : sO σ.2.2.2.2.1 1 = some 32) (tp : sI σ.1 0 = nI len) (rl : df_X3_readLog n T (nI len) (pR nd_st0 0 (sR σ.2.2.2.1.2 7), σ.2.2.2.2.2.2.2.1) = some (r, (pR nd_st0 0 (sR σ.2.2.2.1.2 7), V'))) : df_X12_replay n T L (nI A) σ = if r < 0 then some (Sum.inl (r, (pI (pI σ.1 0 0) 1 0, (σ.2.1, (σ.2.2.1, (σ.2.2.2.1, (σ.2.2.2.2.1, (σ.2.2.2.2.2.1, (σ.2.2.2.2.2.2.1, (V', σ.2.2.2.2.2.2.2.2)))))))))) else nd_b1 (df_X11_startWith n (nI A) (tl (pI (pI σ.1 0 0) 1 0, (σ.2.1, (σ.2.2.1, (σ.2.2.2.1, (σ.2.2.2.2.1, (σ.2.2.2.2.2.1, (σ.2.2.2.2.2.2.1, (V', σ.2.2.2.2.2.2.2.2)))))))))) (fun s15 => some (Sum.inl (r, pl (pI (pI σ.1 0 0) 1 0, (σ.2.1, (σ.2.2.1, (σ.2.2.2.1, (σ.2.2.2.2.1, (σ.2.2.2.2.2.1, (σ.2.2.2.2.2.2.1, (V', σ.2.2.2.2.2.2.2.2)))))))) s15))) := by
  have lt0 : ¬ nI A < (0 : Int32) := fun z => by rw [lz_0 (by omega)] at z; omega
  have lt4 : nI A < (4 : Int32) := (show nI A < nI 4 by rw [nI_ltI (by omega) (by omega)]; omega)
  have ut : df_X12_useTape n T L σ = some (nI len, (pI (pI σ.1 0 0) 1 0, σ.2)) := by rw [← tp]; rfl
  unfold df_X12_replay df_X12_replay_0 df_X12_replay_69
  rw [if_neg lt0, if_pos lt4, nm_ck (by omega) (by omega), nI_clamp (by omega), x, nb_mS, if_neg (show ¬ sO σ.2.2.2.2.1 1 = some 27 by rw [o]; decide), if_pos o, ut, nb_b2]
  dsimp only
  rw [rl, nb_b2, nb_let]
  dsimp only
  rw [show sR (pR nd_st0 0 (sR σ.2.2.2.1.2 7)) 0 = sR σ.2.2.2.1.2 7 from rfl, nm_r0]
  rfl
/-- replay -/
theorem jc_replay (n T L : Nat) (hn : 70000 < n) (v : Int32) (σ : S12) (τ : S19) (h : jA n (tl σ) τ) (hp : rpP (σ.2.1 1) σ.2.2.2.2.2.2.2.2.1 τ.1 (sR τ.2.1 9)) (ht : rt σ τ) : (df_X12_replay n T L v σ = some (Sum.inr ("java/lang/IllegalArgumentException", σ)) ∧ df_X19_replay n v τ = some (0, (pI τ.1 0 1, τ.2))) ∨ (df_X12_replay n T L v σ = some (Sum.inr ("java/lang/IllegalStateException", σ)) ∧ df_X19_replay n v τ = some (0, (pI τ.1 0 2, τ.2))) ∨ ∃ (r : Int32) (σ' : S12) (τ' : S19), df_X12_replay n T L v σ = some (Sum.inl (r, σ')) ∧ df_X19_replay n v τ = some (r, τ') ∧ sI τ'.1 0 = 0 ∧ jA n (tl σ') τ' ∧ (sI σ'.1 0 = 0 ∧ sI σ'.1 1 = 0 ∧ sI τ'.1 1 = 0 ∧ sI τ'.1 2 = 0) ∧ ((∀ k : Nat, ¬ k = 0 → ¬ k = 1 → sI σ'.1 k = sI σ.1 k) ∧ (∀ k : Nat, sO σ'.1 k = sO σ.1 k) ∧ (∀ r : Nat, ¬ r = 3 → ¬ r = 0 → σ'.2.1 r = σ.2.1 r) ∧ σ'.2.2.1 = σ.2.2.1 ∧ σ'.2.2.2.1 = σ.2.2.2.1 ∧ sI (tl σ').1 7 = sI (tl σ).1 7 ∧ (tl σ').2.2.2.2.2.1 = (tl σ).2.2.2.2.2.1 ∧ (tl σ').2.2.2.2.2.2.1 = (tl σ).2.2.2.2.2.2.1) ∧ ((∀ j : Nat, j = 7 ∨ j = 12 → sI τ'.1 j = sI τ.1 j) ∧ (∀ j : Nat, j < 5 ∨ 10 ≤ j → sR τ'.1 j = sR τ.1 j) ∧ (∀ j : Nat, sO τ'.1 j = sO τ.1 j) ∧ τ'.2.1 = τ.2.1 ∧ τ'.2.2.1.1 = τ.2.2.1.1 ∧ τ'.2.2.2.2 = τ.2.2.2.2) := by
  have n1 : ¬ nI 1 = (0 : Int32) := by decide
  obtain ⟨A, hA, rfl⟩ := nI_ex v
  have inE : df_X19_in n (nI A).toInt64 0 3 () = some (if A ≤ 3 then nI 1 else nI 0, ()) := in_b n (b := 3) hA (by omega) rfl
  by_cases d : A ≤ 3
  · have lt0 : ¬ nI A < (0 : Int32) := fun z => by rw [lz_0 hA] at z; omega
    have lt4 : nI A < (4 : Int32) := (show nI A < nI 4 by rw [nI_ltI (by omega) (by omega)]; omega)
    have a3 : nI A &&& 3 = nI A := (nm_m3 (by omega)).trans (by rw [Nat.mod_eq_of_lt (by omega)])
    cases x : σ.2.1 1 A with
    | none =>
      have e0 : sR τ.1 0 A = nI 0 := by
        rcases hp A (by omega) with ⟨a, b⟩ | ⟨j', a1, a2, _⟩
        · exact b
        · rw [a2] at x; exact nomatch x
      refine Or.inr (Or.inl ⟨?_, ?_⟩)
      · unfold df_X12_replay df_X12_replay_0
        rw [if_neg lt0, if_pos lt4, nm_ck (by omega) (by omega), nI_clamp (by omega), x, nb_mN]
      · unfold df_X19_replay df_X19_replay_0 df_X19_replay_18 df_X19_replay_46
        rw [inE, nb_b2, if_pos d, if_neg n1, nb_b2, if_neg n1, a3, nm_ck (by omega) (by omega), nI_clamp (by omega), e0, if_pos (show nI 0 = (0 : Int32) from rfl), nb_fails, nb_b2]
        rfl
    | some j =>
      have e0 : ¬ sR τ.1 0 A = (0 : Int32) := by
        rcases hp A (by omega) with ⟨a, b⟩ | ⟨j', a1, a2, a3, _⟩
        · rw [a] at x; exact nomatch x
        · rw [a3]; decide
      refine Or.inr (Or.inr ?_)
      obtain ⟨t1, t2, t3, t4, t5, t6⟩ := ht
      obtain ⟨len, l1, l2, l3⟩ := ix_nI (k := 32768) t3 t4
      have l3' : (sI σ.1 0).toInt = (len : Int) := l3
      have rdt : ∀ j : Nat, j < len → ∃ z : Nat, z < 256 ∧ sR τ.2.2.2.1 3 j = nI z ∧ sR (pR nd_st0 0 (sR σ.2.2.2.1.2 7)) 0 j &&& 255 = nI z := fun j hj => by
        obtain ⟨z, z1, z2⟩ := pk_andE (sR σ.2.2.2.1.2 7 j) (m := 255) 8 (by decide)
        exact ⟨z, by omega, (t6 j (by omega)).trans z2, z2⟩
      have eR : df_X19_replay n (nI A) τ = nd_b2 (df_X14_read n (nI len) τ.2.2.2.1) (fun q13 s14 => if q13 ≤ 0 then nd_b1 (df_X19_begin n (nI A) (pI (pI (pI τ.1 0 0) 1 0) 2 0, (τ.2.1, (τ.2.2.1, (s14, τ.2.2.2.2))))) (fun s22 => nd_let (pI s22.1 9 (sI s22.2.2.2.1 0), s22.2) (fun s24 => df_X19_replay_103 n n 0 0 s24)) else some (-1 - q13, (pI (pI (pI τ.1 0 0) 1 0) 2 0, (τ.2.1, (τ.2.2.1, (s14, τ.2.2.2.2)))))) := by
        unfold df_X19_replay df_X19_replay_0 df_X19_replay_18 df_X19_replay_45 df_X19_replay_46
        rw [inE, nb_b2, if_pos d, if_neg n1, nb_b2, if_neg n1, a3, nm_ck (by omega) (by omega), nI_clamp (by omega), if_neg e0, nb_fails, nb_b2, if_pos (show (0 : Int32) = 0 ∧ (0 : Int32) = 0 from ⟨rfl, rfl⟩), if_pos rfl, if_pos rfl, if_pos rfl]
        dsimp only
        rw [show sI (pI τ.1 0 0) 1 = nI len by show sI τ.1 1 = _; rw [← t1]; exact l2]
        rfl
      have U1 : ∀ C' : St, sU τ (pI (pI (pI τ.1 0 0) 1 0) 2 0, (τ.2.1, (τ.2.2.1, (C', τ.2.2.2.2)))) := fun C' => ⟨fun j j1 j2 => by
        show sI (pI (pI (pI τ.1 0 0) 1 0) 2 0) j = _
        rw [nb_II, if_neg (by omega), nb_II, if_neg (by omega), nb_II, if_neg (by omega)], fun _ _ _ => rfl, fun _ => rfl, rfl⟩
      have F1 : ∀ j : Nat, j = 7 ∨ j = 12 → sI (pI (pI (pI τ.1 0 0) 1 0) 2 0) j = sI τ.1 j := fun j hj => by rw [nb_II, if_neg (by omega), nb_II, if_neg (by omega), nb_II, if_neg (by omega)]
      have G1 : ∀ k : Nat, ¬ k = 0 → ¬ k = 1 → sI (pI (pI σ.1 0 0) 1 0) k = sI σ.1 k := fun k k0 k1 => by rw [nb_II, if_neg k1, nb_II, if_neg k0]
      obtain ⟨⟨V, hV⟩, oy, o34, ix, hix, hin⟩ := jA_b h
      obtain ⟨hs, _⟩ := id h
      rcases hs with ⟨sa, sb⟩ | ⟨sa, sb⟩
      · -- the recording is the first, what is spare the second
        have eV : (tl σ).2.2.2.1 = V := by
          rcases hV with ⟨_, o2⟩ | ⟨o1, _⟩
          · exact o2
          · rw [sa] at o1; exact absurd o1 (by decide)
        obtain ⟨r, f, V', C', k1, k2, k3⟩ := rd_all n hn (T := T) (R := pR nd_st0 0 (sR σ.2.2.2.1.2 7)) (V := σ.2.2.2.2.2.2.2.1) (C := τ.2.2.2.1) l1 rdt
        rw [rc_32 n T L (by omega) x sb l2 k1, eR, k2, nb_b2]
        rcases k3 with ⟨m, u, m1, m2, m3, m4⟩ | ⟨fc, f1, f2, f3, f4⟩
        · subst m1 m2
          have mm := m3.1.1
          rw [if_neg (dn_3 (by omega)), if_pos (show nI 0 ≤ (0 : Int32) by decide)]
          obtain ⟨t', τ', w1, w2, w3, w4, w5, w6⟩ := jm_with n hn (t := (pO (pO σ.2.2.2.2.1 0 (some 32)) 1 (some 27), (σ.2.1, (σ.2.2.2.2.2.1, (σ.2.2.2.2.2.2.1, (V', σ.2.2.2.2.2.2.2.2)))))) (τ := (pI (pI (pI τ.1 0 0) 1 0) 2 0, (τ.2.1, (τ.2.2.1, (C', τ.2.2.2.2))))) (V := V') (A := A) (m := m) (u := u) (by omega) (Or.inr ⟨rfl, rfl⟩) (Or.inr ⟨rfl, rfl⟩) m4 m3 oy o34 (ix := ix) hix hin hp ⟨j, x⟩
          have sw : df_X11_startWith n (nI A) (tl (pI (pI σ.1 0 0) 1 0, (σ.2.1, (σ.2.2.1, (σ.2.2.2.1, (σ.2.2.2.2.1, (σ.2.2.2.2.2.1, (σ.2.2.2.2.2.2.1, (V', σ.2.2.2.2.2.2.2.2))))))))) = some t' := by
            unfold df_X11_startWith df_X11_startWith_0 tl
            dsimp only
            rw [if_pos (show sO σ.2.2.2.2.1 0 = some 27 from sa), if_neg (show ¬ sO σ.2.2.2.2.1 1 = some 27 by rw [show sO σ.2.2.2.2.1 1 = some 32 from sb]; decide), if_pos (show sO σ.2.2.2.2.1 1 = some 32 from sb), nb_let, nb_let]
            exact w1
          rw [sw, nb_b1, w2]
          have tlp : tl (pl (pI (pI σ.1 0 0) 1 0, (σ.2.1, (σ.2.2.1, (σ.2.2.2.1, (σ.2.2.2.2.1, (σ.2.2.2.2.2.1, (σ.2.2.2.2.2.2.1, (V', σ.2.2.2.2.2.2.2.2)))))))) t') = t' := tl_pl' w5.2.1
          refine ⟨nI m, _, τ', rfl, rfl, w4.trans rfl, by rw [tlp]; exact w3, ⟨rfl, rfl, (w6.1 1 (by omega)).trans rfl, (w6.1 2 (by omega)).trans rfl⟩, ⟨G1, fun _ => rfl, fun r a b => ?_, rfl, rfl, by rw [tlp]; exact w5.1, by rw [tlp]; exact w5.2.2.1, by rw [tlp]; exact w5.2.2.2⟩, ⟨fun j hj => (w6.1 j (by omega)).trans (F1 j hj), w6.2.1, w6.2.2.1, w6.2.2.2.1, w6.2.2.2.2.1, (congrArg Prod.snd w6.2.2.2.2.2).trans rfl⟩⟩
          show nd_mix 4 t'.2.1 σ.2.1 r = _
          unfold nd_mix
          by_cases c : r < 4
          · rw [if_pos c]; exact w5.2.1 r a b
          · rw [if_neg c]
        · subst f3 f4
          rw [if_pos (m1_lt f2), if_neg (show ¬ nI fc ≤ (0 : Int32) from fun z => by have z : nI fc ≤ nI 0 := z; rw [nI_leI (by omega) (by omega)] at z; omega)]
          refine ⟨_, _, _, rfl, rfl, rfl, ?_, ⟨rfl, rfl, rfl, rfl⟩, ⟨G1, fun _ => rfl, fun _ _ _ => rfl, rfl, rfl, rfl, rfl, rfl⟩, ⟨F1, fun _ _ => rfl, fun _ => rfl, rfl, rfl, rfl⟩⟩
          exact jA_V (V := V) (V' := V) h hV ⟨rfl, rfl, fun _ => rfl, fun _ => rfl⟩ ⟨rfl, rfl, rfl, rfl⟩ (U1 C') (Or.inl ⟨sa, eV⟩)
      · have eV : (tl σ).2.2.2.2.1 = V := by
          rcases hV with ⟨o1, _⟩ | ⟨_, o2⟩
          · rw [sa] at o1; exact absurd o1 (by decide)
          · exact o2
        obtain ⟨r, f, V', C', k1, k2, k3⟩ := rd_all n hn (T := T) (R := pR nd_st0 0 (sR σ.2.2.2.1.2 7)) (V := σ.2.2.2.2.2.2.1) (C := τ.2.2.2.1) l1 rdt
        rw [rc_27 n T L (by omega) x sb l2 k1, eR, k2, nb_b2]
        rcases k3 with ⟨m, u, m1, m2, m3, m4⟩ | ⟨fc, f1, f2, f3, f4⟩
        · subst m1 m2
          have mm := m3.1.1
          rw [if_neg (dn_3 (by omega)), if_pos (show nI 0 ≤ (0 : Int32) by decide)]
          obtain ⟨t', τ', w1, w2, w3, w4, w5, w6⟩ := jm_with n hn (t := (pO (pO σ.2.2.2.2.1 0 (some 27)) 1 (some 32), (σ.2.1, (σ.2.2.2.2.2.1, (V', σ.2.2.2.2.2.2.2))))) (τ := (pI (pI (pI τ.1 0 0) 1 0) 2 0, (τ.2.1, (τ.2.2.1, (C', τ.2.2.2.2))))) (V := V') (A := A) (m := m) (u := u) (by omega) (Or.inl ⟨rfl, rfl⟩) (Or.inl ⟨rfl, rfl⟩) m4 m3 oy o34 (ix := ix) hix hin hp ⟨j, x⟩
          have sw : df_X11_startWith n (nI A) (tl (pI (pI σ.1 0 0) 1 0, (σ.2.1, (σ.2.2.1, (σ.2.2.2.1, (σ.2.2.2.2.1, (σ.2.2.2.2.2.1, (V', σ.2.2.2.2.2.2.2)))))))) = some t' := by
            unfold df_X11_startWith df_X11_startWith_0 tl
            dsimp only
            rw [if_neg (show ¬ sO σ.2.2.2.2.1 0 = some 27 by rw [show sO σ.2.2.2.2.1 0 = some 32 from sa]; decide), if_pos (show sO σ.2.2.2.2.1 0 = some 32 from sa), if_pos (show sO σ.2.2.2.2.1 1 = some 27 from sb), nb_let, nb_let]
            exact w1
          rw [sw, nb_b1, w2]
          have tlp : tl (pl (pI (pI σ.1 0 0) 1 0, (σ.2.1, (σ.2.2.1, (σ.2.2.2.1, (σ.2.2.2.2.1, (σ.2.2.2.2.2.1, (V', σ.2.2.2.2.2.2.2))))))) t') = t' := tl_pl' w5.2.1
          refine ⟨nI m, _, τ', rfl, rfl, w4.trans rfl, by rw [tlp]; exact w3, ⟨rfl, rfl, (w6.1 1 (by omega)).trans rfl, (w6.1 2 (by omega)).trans rfl⟩, ⟨G1, fun _ => rfl, fun r a b => ?_, rfl, rfl, by rw [tlp]; exact w5.1, by rw [tlp]; exact w5.2.2.1, by rw [tlp]; exact w5.2.2.2⟩, ⟨fun j hj => (w6.1 j (by omega)).trans (F1 j hj), w6.2.1, w6.2.2.1, w6.2.2.2.1, w6.2.2.2.2.1, (congrArg Prod.snd w6.2.2.2.2.2).trans rfl⟩⟩
          show nd_mix 4 t'.2.1 σ.2.1 r = _
          unfold nd_mix
          by_cases c : r < 4
          · rw [if_pos c]; exact w5.2.1 r a b
          · rw [if_neg c]
        · subst f3 f4
          rw [if_pos (m1_lt f2), if_neg (show ¬ nI fc ≤ (0 : Int32) from fun z => by have z : nI fc ≤ nI 0 := z; rw [nI_leI (by omega) (by omega)] at z; omega)]
          refine ⟨_, _, _, rfl, rfl, rfl, ?_, ⟨rfl, rfl, rfl, rfl⟩, ⟨G1, fun _ => rfl, fun _ _ _ => rfl, rfl, rfl, rfl, rfl, rfl⟩, ⟨F1, fun _ _ => rfl, fun _ => rfl, rfl, rfl, rfl⟩⟩
          exact jA_V (V := V) (V' := V) h hV ⟨rfl, rfl, fun _ => rfl, fun _ => rfl⟩ ⟨rfl, rfl, rfl, rfl⟩ (U1 C') (Or.inr ⟨sa, eV⟩)
  · refine Or.inl ⟨?_, ?_⟩
    · unfold df_X12_replay df_X12_replay_0 df_X12_replay_9
      by_cases y : A < 2 ^ 31
      · rw [if_neg (show ¬ nI A < (0 : Int32) from fun z => by rw [lz_0 hA] at z; omega), if_neg (show ¬ nI A < (4 : Int32) from fun z => by have z : nI A < nI 4 := z; rw [nI_ltI y (by omega)] at z; omega)]
      · rw [if_pos (show nI A < (0 : Int32) by rw [lz_0 hA]; omega)]
    · unfold df_X19_replay df_X19_replay_0 df_X19_replay_18 df_X19_replay_45 df_X19_replay_46
      rw [inE, nb_b2, if_neg d, if_pos (show nI 0 = (0 : Int32) from rfl), nb_b2, if_pos (show nI 0 = (0 : Int32) from rfl), nb_fails, nb_b2]
      rfl
