/-- whether some process waits, as the reference asks it -/
theorem sg_wait (n : Nat) (hn : 100 < n) (X : St × St) : df_X16_isWaiting n X = some (if 0 < cW (sR X.1 1) then nI 1 else nI 0, X) := by
  have cs : ∀ k : Nat, 0 < cN (fun q => decide (sR X.1 1 q = nI 2)) (k + 1) ↔ (0 < cN (fun q => decide (sR X.1 1 q = nI 2)) k ∨ sR X.1 1 k = nI 2) := fun k => by
    rw [cN_s]
    by_cases c : sR X.1 1 k = nI 2
    · rw [decide_eq_true c]
      exact ⟨fun _ => Or.inr c, fun _ => by show 0 < _ + 1; omega⟩
    · rw [decide_eq_false c]
      exact ⟨fun z => Or.inl z, fun z => z.elim (fun y => y) (fun y => absurd y c)⟩
  obtain ⟨m, e⟩ := nm_lq (fun g k => df_X16_isWaiting_4 n g (if 0 < cN (fun q => decide (sR X.1 1 q = nI 2)) k then nI 1 else nI 0) (nI k) X) 16 n (by omega) (fun k m hk => by
    have s1 : nI k + Int32.ofInt 1 = nI (k + 1) := nI_add ..
    show dF_X16_isWaiting_4 n (df_X16_isWaiting_4 n m) _ (nI k) X = df_X16_isWaiting_4 n m _ (nI (k + 1)) X
    generalize df_X16_isWaiting_4 n m = G
    unfold dF_X16_isWaiting_4 df_X16_isWaiting_24 df_X16_isWaiting_29
    rw [if_neg (show ¬ (16 : Int32) ≤ nI k from fun z => by have z : nI 16 ≤ nI k := z; rw [nI_leI (by omega) (by omega)] at z; omega), nm_ck hk (by omega), nI_clamp (by omega), nb_let, nb_let, s1]
    by_cases a : 0 < cN (fun q => decide (sR X.1 1 q = nI 2)) k
    · rw [if_pos a, if_neg (show ¬ nI 1 = (0 : Int32) by decide), if_pos ((cs k).mpr (Or.inl a))]
      rfl
    · rw [if_neg a, if_pos (show nI 0 = (0 : Int32) from rfl)]
      by_cases b : sR X.1 1 k = nI 2
      · rw [if_pos (show sR X.1 1 k = 2 from b), if_pos ((cs k).mpr (Or.inr b))]
        rfl
      · rw [if_neg (show ¬ sR X.1 1 k = 2 from b), if_neg (fun z => ((cs k).mp z).elim a b)]
        rfl)
  have e : df_X16_isWaiting_4 n n (nI 0) (nI 0) X = df_X16_isWaiting_4 n (m + 1) (if 0 < cW (sR X.1 1) then nI 1 else nI 0) (nI 16) X := e
  refine Eq.trans e ?_
  show dF_X16_isWaiting_4 n (df_X16_isWaiting_4 n m) _ (nI 16) X = _
  unfold dF_X16_isWaiting_4
  rw [if_pos (show (16 : Int32) ≤ nI 16 by decide)]
  exact nz_n
/-- what a run leaves of the class, of the reference -/
def kC2 (t t' : S11) : Prop := sI t'.1 0 = sI t.1 0 ∧ (∀ k : Nat, sO t'.1 k = sO t.1 k) ∧ (∀ r : Nat, ¬ r = 3 → t'.2.1 r = t.2.1 r) ∧ t'.2.2.2.2.2.1 = t.2.2.2.2.2.1
def kR2 (τ τ' : S19) : Prop := (∀ j : Nat, j = 0 ∨ j = 1 ∨ j = 2 ∨ j = 3 ∨ j = 12 → sI τ'.1 j = sI τ.1 j) ∧ (∀ j : Nat, j < 5 ∨ 10 ≤ j → sR τ'.1 j = sR τ.1 j) ∧ (∀ j : Nat, sO τ'.1 j = sO τ.1 j) ∧ τ'.2.1 = τ.2.1 ∧ τ'.2.2.2 = τ.2.2.2
theorem kC2_t {a b c : S11} (h : kC2 a b) (g : kC2 b c) : kC2 a c := ⟨g.1.trans h.1, fun k => (g.2.1 k).trans (h.2.1 k), fun r z => (g.2.2.1 r z).trans (h.2.2.1 r z), g.2.2.2.trans h.2.2.2⟩
theorem kR2_t {a b c : S19} (h : kR2 a b) (g : kR2 b c) : kR2 a c := ⟨fun j z => (g.1 j z).trans (h.1 j z), fun j z => (g.2.1 j z).trans (h.2.1 j z), fun j => (g.2.2.1 j).trans (h.2.2.1 j), g.2.2.2.1.trans h.2.2.2.1, g.2.2.2.2.trans h.2.2.2.2⟩
theorem kC2_r (t : S11) : kC2 t t := ⟨rfl, fun _ => rfl, fun _ _ => rfl, rfl⟩
theorem kR2_r (τ : S19) : kR2 τ τ := ⟨fun _ _ => rfl, fun _ _ => rfl, fun _ => rfl, rfl, rfl⟩
/-- both where they stand at now, with the breaks -/
def jK (n : Nat) (t : S11) (τ : S19) (vn : Nat) (Q V : St) (N T e c : Nat) (lo : Nat → Nat) (Nb : Nat → Nat) (pos : Nat → Nat → Nat) : Prop := jM n vn Q V N T e c c lo t τ ∧ bRk n (t.2.1 2) t.2.2.2.2.2.2.1 τ.2.2.1.1 Nb pos
/-- the numbers of the class and of the reference that do not matter there -/
theorem jM_7 {n vn : Nat} {Q V : St} {N T e c k : Nat} {lo : Nat → Nat} {t : S11} {τ : S19} (h : jM n vn Q V N T e c k lo t τ) (x y : Int32) : jM n vn Q V N T e c k lo (pI t.1 7 x, t.2) (pI τ.1 7 y, τ.2) := h
theorem jM_x {n vn : Nat} {Q V : St} {N T e c : Nat} {lo : Nat → Nat} {t : S11} {τ : S19} (h : jM n vn Q V N T e c c lo t τ) : rM (512 * c) t.2.2.1.2.2 τ.2.2.1.2 ∧ sD n τ.2.2.1.2 ∧ sI τ.2.2.1.2.1 0 = nI c := by
  obtain ⟨hI, hL, hev, hv, h456, hk, hX, h10, h14, hS, h11⟩ := h
  obtain ⟨_, _, _, _, _, _, _, _, hA, _, _⟩ := hI
  obtain ⟨a, b, c', d⟩ := hA.2 _ hX
  exact ⟨a, b, c'⟩
/-- one tick of a run, in both, wherever they stand -/
theorem jm_tick (n : Nat) (hn : 70000 < n) {vn : Nat} {Q V : St} {N T e c : Nat} {lo : Nat → Nat} {t : S11} {τ : S19} (h : jM n vn Q V N T e c c lo t τ) (hc : c < 60000) (h0 : ¬ sI t.2.2.1.2.2.1 3 = -nI 1) (h6 : sI t.1 6 = nI 0) : ∃ (w al : Int32) (t' : S11) (τ1 τ' : S19) (V' : St) (N' T' e' : Nat) (lo' : Nat → Nat), df_X11_advance n t = some t' ∧ df_X19_tick n τ = some (w, τ1) ∧ sI τ1.1 5 = nI c ∧ ((sI τ1.1 6 = nI e ∧ c < e ∧ al = nI 1 ∧ τ' = (pI τ1.1 5 (nI (c + 1)), τ1.2)) ∨ (sI τ1.1 6 = nI c ∧ df_X19_takeScheduled n (pI (pI τ1.1 5 (nI (c + 1))) 6 (nI (c + 1)), τ1.2) = some (al, τ'))) ∧ jM n vn Q V' N' T' e' (c + 1) (c + 1) lo' (pI t'.1 6 (nI 0), t'.2) τ' ∧ ((al = nI 1 ∧ sI t'.1 6 = nI 0) ∨ (al = nI 0 ∧ sI t'.1 6 = nI 1)) ∧ kC2 t t' ∧ kR2 τ τ' ∧ sI τ'.1 7 = sI τ.1 7 ∧ t'.2.2.2.2.2.2.1 = t.2.2.2.2.2.2.1 ∧ τ'.2.2.1.1 = τ.2.2.1.1 := by
  obtain ⟨hI, hL, hev, hv, ⟨g4, g5, g6⟩, hk, hX, h10, h14, hS, h11⟩ := id h
  have hce : c ≤ e := hI.2.2.2.2.1
  have r11 : sI τ.1 11 = nI 0 := h11.1.symm.trans h6
  by_cases d : c < e
  · obtain ⟨t', a1, a2, a3⟩ := ad_in n (by omega) hI d
    obtain ⟨_, _, hs, hP, _⟩ := id hI
    have lq := lg_eq hL.2.2.1 hev
    obtain ⟨w, X1, X', t1, t2, t3, t4, t5⟩ := rf_tick n (by omega) (v := nI vn) (Q := Q) (N := N) (e := e) (k := c) (lo := lo) (τ := τ) (s := t) (by rw [lq]; exact hs) hP hL d (by rw [lq]; exact hX) h10
    rw [lq] at t3
    refine ⟨w, nI 1, t', _, _, V, N, T, e, lo, a1, t2, g5, Or.inl ⟨g6, d, rfl, rfl⟩, ⟨a2, hL, hev, hv, ⟨g4, rfl, g6⟩, by omega, t3, rfl, t4.trans h14, hS, r11.symm, Or.inl r11⟩, Or.inl ⟨rfl, (a3.1 6 (by omega)).trans h6⟩, ⟨a3.1 0 (by omega), a3.2.1, a3.2.2.1, a3.2.2.2.2.2.2.1⟩, ⟨fun j hj => ?_, fun _ _ => rfl, fun _ => rfl, rfl, rfl⟩, rfl, a3.2.2.2.2.2.2.2, rfl⟩
    show sI (pI (pI τ.1 10 _) 5 _) j = _
    rw [nb_II, if_neg (by omega), nb_II, if_neg (by omega)]
  · have ce : c = e := by omega
    subst ce
    have J : jJ n vn Q V N T c lo t τ := ⟨hI, hL, hev, g4, g6, by rw [h10, hL.2.2.1.2.2 (c + 1) (by omega)], hX, h14, hS⟩
    obtain ⟨w, al, τ1, V', N', T', lo', t', τ3, b1, b2, b3, b4, b5, b6, b7, b8, ⟨b90, b97, b9O, b9W, b9P, b9K⟩, bA, bB, bC, bD, bE, bF⟩ := jt_end n (by omega) J hc h0
    obtain ⟨y1, y2, y3, y4, y5, y6, y7, y8, y9⟩ := id b4
    refine ⟨w, al, t', τ1, τ3, V', N', T', c + 1, lo', b1, b2, (b6 5 (by omega)).trans g5, Or.inr ⟨(b6 6 (by omega)).trans g6, b3⟩, ⟨y1, y2, y3, hv, ⟨y4, b7, y5⟩, Nat.le_refl _, y7, ?_, y8, y9, ?_⟩, ?_, ⟨b90, b9O, b9W, b9P⟩, ⟨fun j hj => bA j (by omega) (by omega) (by omega) (by omega) (by omega), bB, bC, bD, bF⟩, bA 7 (by omega) (by omega) (by omega) (by omega) (by omega), b9K, bE⟩
    · rw [y6, y2.2.2.1.2.2 (c + 1 + 1) (by omega)]
    · have e11 : sI τ3.1 11 = nI 0 := (bA 11 (by omega) (by omega) (by omega) (by omega) (by omega)).trans r11
      exact ⟨e11.symm, Or.inl e11⟩
    · rcases b5 with ⟨u1, u2⟩ | u
      · exact Or.inl ⟨u1, u2.trans h6⟩
      · exact Or.inr u
