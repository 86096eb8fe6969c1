theorem nz_0 {α : Type} {x : Option α} : nd_z .boolean (0 : Int32) x = x := nm_z0
theorem nz_1 {α : Type} {x : Option α} : nd_z .boolean (1 : Int32) x = x := nm_z1
/-- the class's line of time, and it put back -/
def tl (σ : S12) : S11 := (σ.2.2.2.2.1, σ.2.1, σ.2.2.2.2.2.1, σ.2.2.2.2.2.2.1, σ.2.2.2.2.2.2.2.1, σ.2.2.2.2.2.2.2.2.1, σ.2.2.2.2.2.2.2.2.2.1, σ.2.2.2.2.2.2.2.2.2.2)
def pl (σ : S12) (t : S11) : S12 := (σ.1, nd_mix 4 t.2.1 σ.2.1, σ.2.2.1, σ.2.2.2.1, t.1, t.2.2.1, t.2.2.2.1, t.2.2.2.2.1, t.2.2.2.2.2.1, t.2.2.2.2.2.2.1, t.2.2.2.2.2.2.2)
/-- what calls that go in time leave of the class, of the reference -/
def kC (t t' : S11) : Prop := sI t'.1 0 = sI t.1 0 ∧ sI t'.1 7 = sI t.1 7 ∧ (∀ k : Nat, sO t'.1 k = sO t.1 k) ∧ (∀ r : Nat, ¬ r = 3 → t'.2.1 r = t.2.1 r) ∧ t'.2.2.2.2.2.1 = t.2.2.2.2.2.1 ∧ t'.2.2.2.2.2.2.1 = t.2.2.2.2.2.2.1
def kR (τ τ' : S19) : Prop := (∀ j : Nat, j = 1 ∨ j = 2 ∨ j = 3 ∨ j = 7 ∨ j = 12 → sI τ'.1 j = sI τ.1 j) ∧ (∀ j : Nat, j < 5 ∨ 10 ≤ j → sR τ'.1 j = sR τ.1 j) ∧ (∀ j : Nat, sO τ'.1 j = sO τ.1 j) ∧ τ'.2.1 = τ.2.1 ∧ τ'.2.2.1.1 = τ.2.2.1.1 ∧ τ'.2.2.2 = τ.2.2.2
theorem kC_r (t : S11) : kC t t := ⟨rfl, rfl, fun _ => rfl, fun _ _ => rfl, rfl, rfl⟩
theorem kR_r (τ : S19) : kR τ τ := ⟨fun _ _ => rfl, fun _ _ => rfl, fun _ => rfl, rfl, rfl, rfl⟩
theorem kC_t {a b c : S11} (h : kC a b) (g : kC b c) : kC a c := ⟨g.1.trans h.1, g.2.1.trans h.2.1, fun k => (g.2.2.1 k).trans (h.2.2.1 k), fun r z => (g.2.2.2.1 r z).trans (h.2.2.2.1 r z), g.2.2.2.2.1.trans h.2.2.2.2.1, g.2.2.2.2.2.trans h.2.2.2.2.2⟩
theorem kR_t {a b c : S19} (h : kR a b) (g : kR b c) : kR a c := ⟨fun j z => (g.1 j z).trans (h.1 j z), fun j z => (g.2.1 j z).trans (h.2.1 j z), fun j => (g.2.2.1 j).trans (h.2.2.1 j), g.2.2.2.1.trans h.2.2.2.1, g.2.2.2.2.1.trans h.2.2.2.2.1, g.2.2.2.2.2.trans h.2.2.2.2.2⟩
theorem kC_f {t t' : S11} (h : fI t t') : kC t t' := ⟨h.1 0 (by omega), h.1 7 (by omega), h.2.1, h.2.2.1, h.2.2.2.2.2.2.1, h.2.2.2.2.2.2.2⟩
/-- the code, the machine, where it stands -/
theorem kR_m (τ : S19) (x y : Int32) (X' : St × St) : kR τ (pI (pI τ.1 0 x) 10 y, (τ.2.1, ((τ.2.2.1.1, X'), τ.2.2.2))) := by
  refine ⟨fun j hj => ?_, fun _ _ => rfl, fun _ => rfl, rfl, rfl, rfl⟩
  show sI (pI (pI τ.1 0 x) 10 y) j = _
  rw [nb_II, if_neg (by omega), nb_II, if_neg (by omega)]
theorem kR_0 (τ : S19) (x : Int32) : kR τ (pI τ.1 0 x, τ.2) := by
  refine ⟨fun j hj => ?_, fun _ _ => rfl, fun _ => rfl, rfl, rfl, rfl⟩
  show sI (pI τ.1 0 x) j = _
  rw [nb_II, if_neg (by omega)]
theorem tl_pl {σ : S12} {t' : S11} (h : kC (tl σ) t') : tl (pl σ t') = t' := by
  have r : nd_mix 4 t'.2.1 σ.2.1 = t'.2.1 := by
    funext i
    by_cases c : i < 4
    · exact if_pos c
    · exact (if_neg c).trans (h.2.2.2.1 i (by omega)).symm
  show (t'.1, nd_mix 4 t'.2.1 σ.2.1, t'.2.2.1, t'.2.2.2.1, t'.2.2.2.2.1, t'.2.2.2.2.2.1, t'.2.2.2.2.2.2.1, t'.2.2.2.2.2.2.2) = t'
  rw [r]
/-- the two recordings of the class change places -/
def sp2 (t : S11) : Prop := (sO t.1 0 = some 27 ∧ sO t.1 1 = some 32) ∨ (sO t.1 0 = some 32 ∧ sO t.1 1 = some 27)
/-- before a first boot -/
def jN (t : S11) (τ : S19) : Prop := (∃ V : St, eA t V ∧ sI V 0 = nI 0 ∧ sI V 1 = nI 0) ∧ okY t.2.2.1.2.2.2 ∧ sO t.2.2.1.1 0 = some 34 ∧ (∃ ix : Nat → Nat, (∀ i : Nat, i < 8 → t.2.1 3 i = some (ix i) ∧ ix i < 8) ∧ ∀ i j : Nat, i < 8 → j < 8 → ix i = ix j → i = j) ∧ sI τ.1 8 = nI 0 ∧ ∀ v : Nat, v < 4 → t.2.1 0 v = none
def jA (n : Nat) (t : S11) (τ : S19) : Prop := sp2 t ∧ ((sI t.1 0 = nI 0 ∧ sI τ.1 3 = nI 0 ∧ jN t τ) ∨ (sI t.1 0 = nI 1 ∧ sI τ.1 3 = nI 1 ∧ ∃ (vn : Nat) (Q V : St) (N T e c k : Nat) (lo : Nat → Nat), jM n vn Q V N T e c k lo t τ))
theorem sp2_k {t t' : S11} (h : sp2 t) (g : kC t t') : sp2 t' := by
  unfold sp2
  rw [g.2.2.1 0, g.2.2.1 1]
  exact h
theorem jA_0 {n : Nat} {t : S11} {τ : S19} (h : jA n t τ) (x : Int32) : jA n t (pI τ.1 0 x, τ.2) := by
  obtain ⟨h0, h1 | ⟨h1, h2, vn, Q, V, N, T, e, c, k, lo, h3⟩⟩ := h
  · exact ⟨h0, Or.inl h1⟩
  · exact ⟨h0, Or.inr ⟨h1, h2, vn, Q, V, N, T, e, c, k, lo, h3⟩⟩
theorem in_b (n : Nat) {A B : Nat} {b : Int32} (hA : A < 2 ^ 32) (hB : B < 2 ^ 31) (e : b = nI B) : df_X19_in n (nI A).toInt64 0 b.toInt64 () = some (if A ≤ B then nI 1 else nI 0, ()) := by
  refine (nb_in32 n (nI A) 0 b).trans ?_
  have z0 : (0 : Int32).toInt = 0 := rfl
  rw [e, nI_toInt hB, z0]
  by_cases c : A < 2 ^ 31
  · rw [nI_toInt c]
    by_cases d : A ≤ B
    · rw [if_pos (by omega), if_pos d]; rfl
    · rw [if_neg (by omega), if_neg d]; rfl
  · have g := nm_neg (by omega) hA
    rw [Int32.lt_iff_toInt_lt, show (nI 0).toInt = 0 from rfl] at g
    rw [if_neg (by omega), if_neg (by omega)]; rfl
theorem lz_0 {A : Nat} (hA : A < 2 ^ 32) : nI A < (0 : Int32) ↔ 2 ^ 31 ≤ A := by
  by_cases c : A < 2 ^ 31
  · refine ⟨fun z => ?_, fun z => by omega⟩
    have z : nI A < nI 0 := z
    rw [nI_ltI c (by omega)] at z
    omega
  · exact ⟨fun _ => by omega, fun _ => nm_neg (by omega) hA⟩
/-- go -/
theorem jc_go (n T L : Nat) (hn : 70000 < n) (v : Int32) (σ : S12) (τ : S19) (h : jA n (tl σ) τ) : (df_X12_go n T L v σ = some (Sum.inr ("java/lang/IllegalArgumentException", σ)) ∧ df_X19_go n v τ = some (pI τ.1 0 1, τ.2)) ∨ ∃ (t' : S11) (τ' : S19), df_X12_go n T L v σ = some (Sum.inl (pl σ t')) ∧ df_X19_go n v τ = some τ' ∧ sI τ'.1 0 = 0 ∧ jA n t' τ' ∧ kC (tl σ) t' ∧ kR τ τ' := by
  obtain ⟨h0, ⟨h1, h2, _⟩ | ⟨h1, h2, vn, Q, V, N, T', e, c, k, lo, h3⟩⟩ := h
  · refine Or.inl ⟨?_, ?_⟩
    · unfold df_X12_go df_X12_go_0
      rw [if_pos (show sI σ.2.2.2.2.1 0 = 0 from h1)]
      rfl
    · unfold df_X19_go df_X19_go_0 df_X19_go_22 df_X19_go_27
      rw [if_pos (show sI τ.1 3 = 0 from h2), nb_fails, nb_b2]
      rfl
  · obtain ⟨A, hA, rfl⟩ := nI_ex v
    obtain ⟨hI, hL, hev, hv, ⟨h4, h5, h6⟩, hk, hX, h10, h14, hS, h11⟩ := id h3
    have e6 := hL.2.2.2.2.2
    have c4 : sI (tl σ).1 4 = nI e := hI.2.2.2.2.2.2.1
    have b1 : ¬ sI σ.2.2.2.2.1 0 = 0 := by
      rw [show sI σ.2.2.2.2.1 0 = nI 1 from h1]; decide
    have b2 : ¬ sI τ.1 3 = 0 := by rw [h2]; decide
    have inE := in_b n (b := sI τ.1 6) hA (show e < 2 ^ 31 by omega) h6
    by_cases d : A ≤ e
    · refine Or.inr ?_
      obtain ⟨t', g1, g2, g3⟩ := jm_go n hn h3 d
      refine ⟨t', (pI (pI τ.1 0 0) 5 (nI A), τ.2), ?_, ?_, rfl, ⟨sp2_k h0 (kC_f g3), Or.inr ⟨(kC_f g3).1.trans h1, h2, vn, Q, V, N, T', e, A, k, lo, g2⟩⟩, kC_f g3, ?_⟩
      · unfold df_X12_go df_X12_go_0
        rw [if_neg b1, if_neg (show ¬ nI A < (0 : Int32) from fun z => by rw [lz_0 hA] at z; omega), show sI σ.2.2.2.2.1 4 = nI e from c4, if_pos (by rw [nI_leI (by omega) (by omega)]; exact d)]
        have g1 : df_X11_moveTo n (nI A) (σ.2.2.2.2.1, σ.2.1, σ.2.2.2.2.2.1, σ.2.2.2.2.2.2.1, σ.2.2.2.2.2.2.2.1, σ.2.2.2.2.2.2.2.2.1, σ.2.2.2.2.2.2.2.2.2.1, σ.2.2.2.2.2.2.2.2.2.2) = some t' := g1
        rw [g1, nb_b1, nb_let]
        rfl
      · unfold df_X19_go df_X19_go_0 df_X19_go_27
        rw [if_neg b2, inE, nb_b2, if_pos d, if_neg (show ¬ nI 1 = (0 : Int32) by decide), nb_fails, nb_b2, if_pos (show (0 : Int32) = 0 ∧ (0 : Int32) = 0 from ⟨rfl, rfl⟩), if_pos rfl, nb_let]
        rfl
      · refine ⟨fun j hj => ?_, fun _ _ => rfl, fun _ => rfl, rfl, rfl, rfl⟩
        show sI (pI (pI τ.1 0 0) 5 _) j = _
        rw [nb_II, if_neg (by omega), nb_II, if_neg (by omega)]
    · refine Or.inl ⟨?_, ?_⟩
      · unfold df_X12_go df_X12_go_0
        rw [if_neg b1]
        by_cases y : A < 2 ^ 31
        · rw [if_neg (show ¬ nI A < (0 : Int32) from fun z => by rw [lz_0 hA] at z; omega), show sI σ.2.2.2.2.1 4 = nI e from c4, if_neg (show ¬ nI A ≤ nI e from fun z => by rw [nI_leI y (by omega)] at z; exact d z)]
          rfl
        · rw [if_pos (show nI A < (0 : Int32) by rw [lz_0 hA]; omega)]
          rfl
      · unfold df_X19_go df_X19_go_0 df_X19_go_22 df_X19_go_27
        rw [if_neg b2, inE, nb_b2, if_neg d, if_pos (show nI 0 = (0 : Int32) from rfl), nb_fails, nb_b2]
        rfl
/-- cut -/
theorem jc_cut (n T L : Nat) (hn : 70000 < n) (σ : S12) (τ : S19) (h : jA n (tl σ) τ) : ∃ (r : Int32) (t' : S11) (τ' : S19), df_X12_cut n T L σ = some (r, pl σ t') ∧ df_X19_cut n τ = some (r, τ') ∧ jA n t' τ' ∧ kC (tl σ) t' ∧ kR τ τ' := by
  obtain ⟨h0, ⟨h1, h2, h3⟩ | ⟨h1, h2, vn, Q, V, N, T', e, c, k, lo, h3⟩⟩ := h
  · refine ⟨0, tl σ, (pI τ.1 0 0, τ.2), ?_, ?_, jA_0 ⟨h0, Or.inl ⟨h1, h2, h3⟩⟩ 0, kC_r _, kR_0 τ 0⟩
    · unfold df_X12_cut df_X12_cut_0
      rw [if_pos (show sI σ.2.2.2.2.1 0 = 0 from h1)]
      have r : nd_mix 4 σ.2.1 σ.2.1 = σ.2.1 := by
        funext i
        by_cases c : i < 4
        · exact if_pos c
        · exact if_neg c
      show some ((0 : Int32), σ) = some ((0 : Int32), (σ.1, nd_mix 4 σ.2.1 σ.2.1, σ.2.2))
      rw [r]
    · unfold df_X19_cut df_X19_cut_0
      rw [nb_let, if_pos (show sI (pI τ.1 0 0) 3 = 0 from h2)]
  · have b1 : ¬ sI σ.2.2.2.2.1 0 = 0 := by
      rw [show sI σ.2.2.2.2.1 0 = nI 1 from h1]; decide
    have b2 : ¬ sI τ.1 3 = 0 := by rw [h2]; decide
    obtain ⟨V', L', lo', t', X', g1, g2, g3, g4⟩ := jm_cut n hn h3 b2
    have kc : kC (tl σ) t' := ⟨g4.1, g4.2.1, g4.2.2.1, fun r _ => by rw [g4.2.2.2.1], congrArg Prod.fst g4.2.2.2.2.2, congrArg (fun p => p.2.1) g4.2.2.2.2.2⟩
    refine ⟨_, t', _, ?_, g2, ⟨sp2_k h0 kc, Or.inr ⟨kc.1.trans h1, h2, vn, Q, V', L', L', c, c, c, lo', g3⟩⟩, kc, ?_⟩
    · unfold df_X12_cut df_X12_cut_0
      rw [if_neg b1]
      have g1 : df_X11_forgetBehind n (σ.2.2.2.2.1, σ.2.1, σ.2.2.2.2.2.1, σ.2.2.2.2.2.2.1, σ.2.2.2.2.2.2.2.1, σ.2.2.2.2.2.2.2.2.1, σ.2.2.2.2.2.2.2.2.2.1, σ.2.2.2.2.2.2.2.2.2.2) = some (nI (e - c), t') := g1
      rw [g1, nb_b2, nb_let]
      rfl
    · refine ⟨fun j hj => ?_, fun _ _ => rfl, fun _ => rfl, rfl, rfl, rfl⟩
      show sI (pI (pI (pI (pI (pI (pI (pI τ.1 0 0) 10 _) 6 _) 8 _) 10 _) 9 0) 11 0) j = _
      rw [nb_II, if_neg (by omega), nb_II, if_neg (by omega), nb_II, if_neg (by omega), nb_II, if_neg (by omega), nb_II, if_neg (by omega), nb_II, if_neg (by omega), nb_II, if_neg (by omega)]
/-- wrote -/
theorem jc_wrote (n T L : Nat) (hn : 70000 < n) (p a : Int32) (σ : S12) (τ : S19) (h : jA n (tl σ) τ) : ∃ (r : Int32) (τ' : S19), df_X12_wrote n T L p a σ = some (r, σ) ∧ df_X19_wrote n p a τ = some (r, τ') ∧ jA n (tl σ) τ' ∧ kR τ τ' := by
  have mx : nd_mix 4 σ.2.1 σ.2.1 = σ.2.1 := by
    funext i
    by_cases c : i < 4
    · exact if_pos c
    · exact if_neg c
  obtain ⟨h0, ⟨h1, h2, h3⟩ | ⟨h1, h2, vn, Q, V, N, T', e, c, k, lo, h3⟩⟩ := h
  · refine ⟨-1, (pI τ.1 0 0, τ.2), ?_, ?_, jA_0 ⟨h0, Or.inl ⟨h1, h2, h3⟩⟩ 0, kR_0 τ 0⟩
    · unfold df_X12_wrote df_X12_wrote_0 df_X12_isThere df_X12_isThere_0
      rw [if_pos (show sI σ.2.2.2.2.1 0 = 0 from h1)]
      unfold df_X12_isThere_24 df_X12_isThere_25
      rw [nz_0, nb_b2, if_pos rfl]
      rfl
    · unfold df_X19_wrote df_X19_wrote_0
      rw [nb_let, if_pos (show sI (pI τ.1 0 0) 3 = 0 from h2)]
      rfl
  · have b1 : ¬ sI σ.2.2.2.2.1 0 = 0 := by
      rw [show sI σ.2.2.2.2.1 0 = nI 1 from h1]; decide
    have b2 : ¬ sI τ.1 3 = 0 := by rw [h2]; decide
    obtain ⟨P, hP, rfl⟩ := nI_ex p
    obtain ⟨A, hA, rfl⟩ := nI_ex a
    have i16 : df_X12_isThere n T L (nI P) σ = some (if P < 16 then nI 1 else nI 0, σ) := by
      unfold df_X12_isThere df_X12_isThere_0 df_X12_isThere_24 df_X12_isThere_25
      rw [if_neg b1]
      by_cases y : P < 2 ^ 31
      · rw [if_neg (show ¬ nI P < (0 : Int32) from fun z => by rw [lz_0 hP] at z; omega)]
        by_cases y2 : P < 16
        · rw [if_neg (show ¬ (16 : Int32) ≤ nI P from fun z => by have z : nI 16 ≤ nI P := z; rw [nI_leI (by omega) y] at z; omega), if_pos y2, nz_1]
          rfl
        · rw [if_pos (show (16 : Int32) ≤ nI P from (show nI 16 ≤ nI P by rw [nI_leI (by omega) y]; omega)), if_neg y2, nz_0]
          rfl
      · rw [if_pos (show nI P < (0 : Int32) by rw [lz_0 hP]; omega), if_neg (by omega), nz_0]
        rfl
    by_cases y : P < 16
    · obtain ⟨X', g1, g2⟩ := jm_wrote n hn h3 b2 y hA
      refine ⟨_, _, ?_, g1, ⟨h0, Or.inr ⟨h1, h2, vn, Q, V, N, T', e, c, c, lo, g2⟩⟩, kR_m τ _ _ _⟩
      unfold df_X12_wrote df_X12_wrote_0 df_X12_wrote_30 df_X12_wrote_31
      rw [i16, nb_b2, if_pos y, if_neg (show ¬ nI 1 = (0 : Int32) by decide)]
      by_cases z : A < 65536
      · rw [if_neg (show ¬ nI A < (0 : Int32) from fun z => by rw [lz_0 hA] at z; omega), if_neg (show ¬ (65536 : Int32) ≤ nI A from fun z => by have z : nI 65536 ≤ nI A := z; rw [nI_leI (by omega) (by omega)] at z; omega)]
        have c3 : sI σ.2.2.2.2.1 3 = nI c := h3.1.2.2.2.2.2.1
        have e6 := h3.2.1.2.2.2.2.2
        have hce : c ≤ e := h3.1.2.2.2.2.1
        rw [cw_all n hn (s := (σ.2.2.2.2.1, σ.2.1, σ.2.2.2.2.2.1, σ.2.2.2.2.2.2.1, σ.2.2.2.2.2.2.2.1, σ.2.2.2.2.2.2.2.2.1, σ.2.2.2.2.2.2.2.2.2.1, σ.2.2.2.2.2.2.2.2.2.2)) c3 (by omega), nb_b2, nb_let, mx]
        rw [decide_eq_true z]
        rfl
      · have l0 : lw (fun j => decide (A < 65536) && hb (nI P) (nI A) (sR (tl σ).1 0 j)) c = -1 := lw_0 c (fun j _ => by rw [decide_eq_false z, Bool.false_and])
        rw [l0]
        by_cases y2 : A < 2 ^ 31
        · rw [if_neg (show ¬ nI A < (0 : Int32) from fun z => by rw [lz_0 hA] at z; omega), if_pos (show (65536 : Int32) ≤ nI A from (show nI 65536 ≤ nI A by rw [nI_leI (by omega) y2]; omega))]
        · rw [if_pos (show nI A < (0 : Int32) by rw [lz_0 hA]; omega)]
    · refine ⟨-1, (pI τ.1 0 0, τ.2), ?_, ?_, jA_0 ⟨h0, Or.inr ⟨h1, h2, vn, Q, V, N, T', e, c, k, lo, h3⟩⟩ 0, kR_0 τ 0⟩
      · unfold df_X12_wrote df_X12_wrote_0
        rw [i16, nb_b2, if_neg y, if_pos (show nI 0 = (0 : Int32) from rfl)]
        rfl
      · unfold df_X19_wrote df_X19_wrote_0
        rw [nb_let, if_neg (show ¬ sI (pI τ.1 0 0) 3 = 0 from b2)]
        have i15 : df_X19_in n (nI P).toInt64 0 15 () = some (if P ≤ 15 then nI 1 else nI 0, ()) := in_b n (b := 15) hP (by omega) rfl
        rw [i15, nb_b2, if_neg (show ¬ P ≤ 15 by omega), if_pos (show nI 0 = (0 : Int32) from rfl)]
        rfl
/-- what shows: the reference's machine comes to now -/
theorem jc_shows (n : Nat) (hn : 70000 < n) {t : S11} {τ : S19} (h : jA n t τ) : (sI t.1 0 = nI 0 ∧ df_X19_shows n τ = some (nI 0, (pI τ.1 0 0, τ.2)) ∧ jN t τ) ∨ ∃ (vn : Nat) (Q V : St) (N T e c : Nat) (lo : Nat → Nat) (τ' : S19), sI t.1 0 = nI 1 ∧ df_X19_shows n τ = some (nI 1, τ') ∧ jM n vn Q V N T e c c lo t τ' ∧ sI τ'.1 3 = nI 1 ∧ rM (512 * c) t.2.2.1.2.2 τ'.2.2.1.2 ∧ sD n τ'.2.2.1.2 ∧ kR τ τ' ∧ jA n t τ' := by
  obtain ⟨h0, ⟨h1, h2, h3⟩ | ⟨h1, h2, vn, Q, V, N, T', e, c, k, lo, h3⟩⟩ := h
  · refine Or.inl ⟨h1, ?_, h3⟩
    unfold df_X19_shows df_X19_shows_0
    rw [nb_let, if_pos (show sI (pI τ.1 0 0) 3 = 0 from h2)]
    unfold df_X19_shows_20
    rw [show sI (pI τ.1 0 0) 3 = 0 from h2]
    exact nm_z0
  · refine Or.inr ?_
    have hce : c ≤ e := h3.1.2.2.2.2.1
    obtain ⟨X', g1, g2⟩ := jm_come n hn (jm_0 h3 0) hce
    have tx := h3.1.2.2.2.2.2.2.2.2.1.2 X' g2.2.2.2.2.2.2.1
    refine ⟨vn, Q, V, N, T', e, c, lo, (pI (pI τ.1 0 0) 10 (nI (lo (c + 1))), (τ.2.1, ((τ.2.2.1.1, X'), τ.2.2.2))), h1, ?_, g2, h2, tx.1, tx.2.1, kR_m τ _ _ _, h0, Or.inr ⟨h1, h2, vn, Q, V, N, T', e, c, c, lo, g2⟩⟩
    unfold df_X19_shows df_X19_shows_0
    rw [nb_let, if_neg (show ¬ sI (pI τ.1 0 0) 3 = 0 from (show ¬ sI τ.1 3 = 0 by rw [h2]; decide)), show sI (pI τ.1 0 0) 5 = nI c from h3.2.2.2.2.1.2.1, g1, nb_b1]
    unfold df_X19_shows_20
    dsimp only
    rw [show sI (pI (pI τ.1 0 0) 10 (nI (lo (c + 1)))) 3 = nI 1 from h2]
    exact nm_z1
