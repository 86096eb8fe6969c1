/-- what stays of a condition of the class; of the reference's; where one of them stands -/
def cSt (A B : St) : Prop := sR B 0 = sR A 0 ∧ sQ B 0 = sQ A 0 ∧ sI B 0 = sI A 0 ∧ sR B 3 = sR A 3 ∧ sR B 4 = sR A 4 ∧ sI B 2 = sI A 2
def yFr (A B : St) : Prop := (∀ k : Nat, 1 ≤ k → k ≤ 4 → sR B k = sR A k) ∧ sQ B 0 = sQ A 0
def ySt (k : Nat) (A B : St) : Prop := sR B 2 k = sR A 2 k ∧ ∀ i : Nat, 120 * k ≤ i → i < 120 * k + 120 → sR B 3 i = sR A 3 i ∧ sR B 4 i = sR A 4 i ∧ sQ B 0 i = sQ A 0 i
/-- what both remember is the same -/
def tiO (N : Nat) (pos : Nat → Nat) (Cd Y : St) : Prop := ∀ j : Nat, j < N → sQ Cd 2 j = sQ Y 1 (pos j)
/-- a condition, in both: it remembers and is worth the same at machines that are tied -/
def bCd (n k N : Nat) (pos : Nat → Nat) (Cd Y : St) : Prop := sI Cd 2 = nI N ∧ N ≤ 40 ∧ (∀ j : Nat, j < N → 120 * k ≤ pos j ∧ pos j < 120 * k + 120) ∧ ∀ (B c : Nat) (M X : St × St) (Cd' Y' : St), rM B M X → sD n X → sI X.1 0 = nI c → c ≤ 60000 → cSt Cd Cd' → ySt k Y Y' → (∃ Cd2 Y2 : St, df_X2_remember n (nI c) (nd_st0, (Cd', M)) = some (nd_st0, (Cd2, M)) ∧ df_X15_remember n (nI k) (Y', X) = some (Y2, X) ∧ cSt Cd' Cd2 ∧ yFr Y' Y2 ∧ (∀ i : Nat, i < 120 * k ∨ 120 * k + 120 ≤ i → sQ Y2 1 i = sQ Y' 1 i) ∧ tiO N pos Cd2 Y2) ∧ (tiO N pos Cd' Y' → ∃ (v : Int64) (Cd2 Y2 : St), df_X2_worth n (nI c) (nd_st0, (Cd', M)) = some (v, (nd_st0, (Cd2, M))) ∧ df_X15_value n (nI k) (Y', X) = some (v, (Y2, X)) ∧ cSt Cd' Cd2 ∧ sQ Cd2 2 = sQ Cd' 2 ∧ yFr Y' Y2 ∧ sQ Y2 1 = sQ Y' 1)
/-- all breaks -/
def bRk (n : Nat) (row : Nat → Option Nat) (pool : Nat → St) (Y : St) (N : Nat → Nat) (pos : Nat → Nat → Nat) : Prop := (∀ k : Nat, k < 8 → (row k = none ∧ sR Y 1 k = nI 0) ∨ ∃ j : Nat, j < 9 ∧ row k = some j ∧ sR Y 1 k = nI 1 ∧ bCd n k (N k) (pos k) (pool j) Y) ∧ ∀ k k' j : Nat, k < 8 → k' < 8 → row k = some j → row k' = some j → k = k'
theorem cSt_t {A B C : St} (h : cSt A B) (g : cSt B C) : cSt A C := ⟨g.1.trans h.1, g.2.1.trans h.2.1, g.2.2.1.trans h.2.2.1, g.2.2.2.1.trans h.2.2.2.1, g.2.2.2.2.1.trans h.2.2.2.2.1, g.2.2.2.2.2.trans h.2.2.2.2.2⟩
theorem cSt_r (A : St) : cSt A A := ⟨rfl, rfl, rfl, rfl, rfl, rfl⟩
theorem ySt_t {k : Nat} {A B C : St} (h : ySt k A B) (g : ySt k B C) : ySt k A C := ⟨g.1.trans h.1, fun i a b => ⟨(g.2 i a b).1.trans (h.2 i a b).1, (g.2 i a b).2.1.trans (h.2 i a b).2.1, (g.2 i a b).2.2.trans (h.2 i a b).2.2⟩⟩
theorem ySt_r (k : Nat) (A : St) : ySt k A A := ⟨rfl, fun _ _ _ => ⟨rfl, rfl, rfl⟩⟩
theorem yFr_s {A B : St} (h : yFr A B) (k : Nat) : ySt k A B := ⟨by rw [h.1 2 (by omega) (by omega)], fun i _ _ => by rw [h.1 3 (by omega) (by omega), h.1 4 (by omega) (by omega), h.2]; exact ⟨rfl, rfl, rfl⟩⟩
theorem yFr_r (A : St) : yFr A A := ⟨fun _ _ _ => rfl, rfl⟩
theorem yFr_t {A B C : St} (h : yFr A B) (g : yFr B C) : yFr A C := ⟨fun k a b => (g.1 k a b).trans (h.1 k a b), g.2.trans h.2⟩
theorem bCd_t {n k N : Nat} {pos : Nat → Nat} {Cd Y Cd' Y' : St} (h : bCd n k N pos Cd Y) (hc : cSt Cd Cd') (hy : ySt k Y Y') : bCd n k N pos Cd' Y' := by
  obtain ⟨h1, h2, h3, h4⟩ := h
  exact ⟨hc.2.2.2.2.2.trans h1, h2, h3, fun B c M X C2 Y2 a1 a2 a3 a4 a5 a6 => h4 B c M X C2 Y2 a1 a2 a3 a4 (cSt_t hc a5) (ySt_t hy a6)⟩
/-- one condition of the pool has gone on, and the reference with it -/
theorem bRk_t {n : Nat} {row : Nat → Option Nat} {pool : Nat → St} {Y Y' : St} {N : Nat → Nat} {pos : Nat → Nat → Nat} (h : bRk n row pool Y N pos) {j : Nat} {C : St} (hc : cSt (pool j) C) (hy : yFr Y Y') : bRk n row (fun i => if i = j then C else pool i) Y' N pos := by
  refine ⟨fun k hk => ?_, h.2⟩
  rcases h.1 k hk with ⟨a, b⟩ | ⟨i, i1, i2, i3, i4⟩
  · exact Or.inl ⟨a, by rw [hy.1 1 (by omega) (by omega)]; exact b⟩
  · refine Or.inr ⟨i, i1, i2, by rw [hy.1 1 (by omega) (by omega)]; exact i3, ?_⟩
    by_cases y : i = j
    · subst y
      show bCd n k (N k) (pos k) (if i = i then C else pool i) Y'
      rw [if_pos rfl]
      exact bCd_t i4 hc (yFr_s hy k)
    · show bCd n k (N k) (pos k) (if i = j then C else pool i) Y'
      rw [if_neg y]
      exact bCd_t i4 (cSt_r _) (yFr_s hy k)
theorem bRk_y {n : Nat} {row : Nat → Option Nat} {pool : Nat → St} {Y Y' : St} {N : Nat → Nat} {pos : Nat → Nat → Nat} (h : bRk n row pool Y N pos) (hy : yFr Y Y') : bRk n row pool Y' N pos := by
  have g := bRk_t h (j := 0) (cSt_r _) hy
  rw [pool_id] at g
  exact g
def stK (t : S11) (K : Nat → St) : S11 := (t.1, (t.2.1, (t.2.2.1, (t.2.2.2.1, (t.2.2.2.2.1, (t.2.2.2.2.2.1, (K, t.2.2.2.2.2.2.2)))))))
def stY (τ : S19) (Y : St) : S19 := (τ.1, (τ.2.1, ((Y, τ.2.2.1.2), τ.2.2.2)))
/-- all breaks remember, in both -/
theorem rm_all (n : Nat) (hn : 100 < n) {B c : Nat} {t : S11} {τ : S19} {N : Nat → Nat} {pos : Nat → Nat → Nat} (h1 : rM B t.2.2.1.2.2 τ.2.2.1.2) (h2 : sD n τ.2.2.1.2) (h3 : sI τ.2.2.1.2.1 0 = nI c) (h4 : c ≤ 60000) (h5 : sI t.1 3 = nI c) (hb : bRk n (t.2.1 2) t.2.2.2.2.2.2.1 τ.2.2.1.1 N pos) : ∃ (K : Nat → St) (Y : St), df_X11_rememberAll n t = some (stK t K) ∧ df_X19_remember n τ = some (stY τ Y) ∧ bRk n (t.2.1 2) K Y N pos ∧ ∀ k j : Nat, k < 8 → t.2.1 2 k = some j → tiO (N k) (pos k) (K j) Y := by
  obtain ⟨m, KY, KY2, ⟨i1, i2, i3⟩, e1, e2⟩ := nm_l2 (S := (Nat → St)) (T := St) (fun g k K => df_X11_rememberAll_2 n g (nI k) (stK t K)) (fun g k Y => df_X19_remember_2 n g (nI k) (stY τ Y)) (fun k K Y => bRk n (t.2.1 2) K Y N pos ∧ (∀ k' j : Nat, k' < k → t.2.1 2 k' = some j → tiO (N k') (pos k') (K j) Y) ∧ True) 8 n (by omega) (fun k m K Y hk ⟨i1, i2, _⟩ => by
    have u1 : k < 2 ^ 31 := by omega
    have n8 : ¬ (8 : Int32) ≤ nI k := fun z => by have z : nI 8 ≤ nI k := z; rw [nI_leI (by omega) (by omega)] at z; omega
    have s1 : nI k + Int32.ofInt 1 = nI (k + 1) := nI_add ..
    have it : ∀ v : Int32, (v = nI 0 ∨ v = nI 1) → sR Y 1 k = v → df_X15_isThere n (nI k) (Y, τ.2.2.1.2) = some (v, (Y, τ.2.2.1.2)) := fun v hv e => by
      unfold df_X15_isThere df_X15_isThere_0
      rw [nm_ck hk u1, nI_clamp u1]
      dsimp only
      rw [e]
      rcases hv with rfl | rfl
      · exact nm_z0
      · exact nm_z1
    show ∃ (K' : Nat → St) (Y' : St), _ ∧ dF_X11_rememberAll_2 n (df_X11_rememberAll_2 n m) (nI k) (stK t K) = df_X11_rememberAll_2 n m (nI (k + 1)) (stK t K') ∧ dF_X19_remember_2 n (df_X19_remember_2 n m) (nI k) (stY τ Y) = df_X19_remember_2 n m (nI (k + 1)) (stY τ Y')
    generalize df_X11_rememberAll_2 n m = G
    generalize df_X19_remember_2 n m = H
    have eC : dF_X11_rememberAll_2 n G (nI k) (stK t K) = nd_m (t.2.1 2 k) (G (nI (k + 1)) (stK t K)) (fun j3 => nd_m (t.2.1 2 k) none (fun j6 => nd_lt j6 9 (nd_b1 (df_X2_remember n (sI t.1 3) (nd_st0, (K j6, t.2.2.1.2.2))) (fun s9 => G (nI (k + 1)) (t.1, (t.2.1, ((t.2.2.1.1, (t.2.2.1.2.1, s9.2.2)), (t.2.2.2.1, (t.2.2.2.2.1, (t.2.2.2.2.2.1, ((fun i => if i = j6 then s9.2.1 else K i), t.2.2.2.2.2.2.2))))))))))) := by
      unfold dF_X11_rememberAll_2 df_X11_rememberAll_28
      rw [if_neg n8, nm_ck hk u1, nm_ck hk u1, nI_clamp u1, nb_let, s1]
      rw [← s1]
      rfl
    have eR : dF_X19_remember_2 n H (nI k) (stY τ Y) = nd_b2 (df_X15_isThere n (nI k) (Y, τ.2.2.1.2)) (fun q2 s3 => if q2 = 0 then H (nI (k + 1)) (τ.1, (τ.2.1, (s3, τ.2.2.2))) else nd_b1 (df_X15_remember n (nI k) s3) (fun s9 => H (nI (k + 1)) (τ.1, (τ.2.1, (s9, τ.2.2.2))))) := by
      unfold dF_X19_remember_2 df_X19_remember_27
      rw [if_neg n8, ← s1]
      rfl
    rw [eC, eR]
    rcases i1.1 k hk with ⟨a, b⟩ | ⟨j, j9, a, b, hB⟩
    · rw [a, nb_mN, it (nI 0) (Or.inl rfl) b, nb_b2, if_pos (show nI 0 = (0 : Int32) from rfl)]
      refine ⟨K, Y, ⟨i1, fun k' j hk' e => ?_, trivial⟩, rfl, rfl⟩
      by_cases y : k' = k
      · rw [y, a] at e; exact nomatch e
      · exact i2 k' j (by omega) e
    · obtain ⟨⟨C2, Y2, r1, r2, r3, r4, r5, r6⟩, _⟩ := hB.2.2.2 B c t.2.2.1.2.2 τ.2.2.1.2 (K j) Y h1 h2 h3 h4 (cSt_r _) (ySt_r _ _)
      have r2' : df_X15_remember n (nI k) (Y, τ.2.2.1.2) = some (Y2, τ.2.2.1.2) := r2
      rw [a, nb_mS, nb_mS, nb_lt j9, h5, r1, nb_b1, it (nI 1) (Or.inr rfl) b, nb_b2, if_neg (show ¬ nI 1 = (0 : Int32) by decide), r2', nb_b1]
      refine ⟨fun i => if i = j then C2 else K i, Y2, ⟨bRk_t i1 r3 r4, fun k' j' hk' e => ?_, trivial⟩, rfl, rfl⟩
      · by_cases y : k' = k
        · subst y
          rw [a] at e
          injection e with e
          subst e
          show tiO _ _ (if j = j then C2 else K j) Y2
          rw [if_pos rfl]
          exact r6
        · have hne : ¬ j' = j := fun z => y (i1.2 k' k j (by omega) hk (by rw [← z]; exact e) a)
          show tiO _ _ (if j' = j then C2 else K j') Y2
          rw [if_neg hne]
          intro q hq
          rw [i2 k' j' (by omega) e q hq]
          obtain ⟨i', _, a', _, hB'⟩ | ⟨a', _⟩ := (i1.1 k' (by omega)).symm
          · have p := hB'.2.2.1 q hq
            rw [r5 (pos k' q) (by omega)]
          · rw [a'] at e; exact nomatch e) t.2.2.2.2.2.2.1 τ.2.2.1.1 ⟨hb, fun k' j hk' => by omega, trivial⟩
  refine ⟨KY, KY2, ?_, ?_, i1, i2⟩
  · refine Eq.trans (show df_X11_rememberAll n t = df_X11_rememberAll_2 n n (nI 0) (stK t t.2.2.2.2.2.2.1) from rfl) (Eq.trans e1 ?_)
    show dF_X11_rememberAll_2 n (df_X11_rememberAll_2 n m) (nI 8) _ = _
    unfold dF_X11_rememberAll_2
    rw [if_pos (show (8 : Int32) ≤ nI 8 by decide)]
  · refine Eq.trans (show df_X19_remember n τ = df_X19_remember_2 n n (nI 0) (stY τ τ.2.2.1.1) from rfl) (Eq.trans e2 ?_)
    show dF_X19_remember_2 n (df_X19_remember_2 n m) (nI 8) _ = _
    unfold dF_X19_remember_2
    rw [if_pos (show (8 : Int32) ≤ nI 8 by decide)]
/-- the first break that holds, in both -/
theorem ht_all (n : Nat) {B c : Nat} {t : S11} {τ : S19} {N : Nat → Nat} {pos : Nat → Nat → Nat} (h1 : rM B t.2.2.1.2.2 τ.2.2.1.2) (h2 : sD n τ.2.2.1.2) (h3 : sI τ.2.2.1.2.1 0 = nI c) (h4 : c ≤ 60000) (h5 : sI t.1 3 = nI c) : ∀ (m k g g' : Nat) (K : Nat → St) (Y : St), k + m = 8 → m < g → m < g' → bRk n (t.2.1 2) K Y N pos → (∀ k j : Nat, k < 8 → t.2.1 2 k = some j → tiO (N k) (pos k) (K j) Y) → ∃ (K' : Nat → St) (Y' : St), bRk n (t.2.1 2) K' Y' N pos ∧ yFr Y Y' ∧ ((df_X11_hit_2 n g (nI k) (stK t K) = some (nI 0, stK t K') ∧ df_X19_hit_2 n g' (nI k) (stY τ Y) = some (-1, stY τ Y')) ∨ ∃ q : Nat, q < 8 ∧ df_X11_hit_2 n g (nI k) (stK t K) = some (nI (3 + 8 * q), stK t K') ∧ df_X19_hit_2 n g' (nI k) (stY τ Y) = some (nI q, stY τ Y')) := fun m => by
  induction m with
  | zero =>
    intro k g g' K Y hk hg hg' hb ht
    obtain ⟨g1, rfl⟩ : ∃ g1 : Nat, g = g1 + 1 := ⟨g - 1, by omega⟩
    obtain ⟨g2, rfl⟩ : ∃ g2 : Nat, g' = g2 + 1 := ⟨g' - 1, by omega⟩
    have hk : k = 8 := by omega
    subst hk
    refine ⟨K, Y, hb, yFr_r Y, Or.inl ⟨?_, ?_⟩⟩
    · show dF_X11_hit_2 n (df_X11_hit_2 n g1) (nI 8) _ = _
      unfold dF_X11_hit_2
      rw [if_pos (show (8 : Int32) ≤ nI 8 by decide)]
      rfl
    · show dF_X19_hit_2 n (df_X19_hit_2 n g2) (nI 8) _ = _
      unfold dF_X19_hit_2 df_X19_hit_38
      rw [if_pos (show (8 : Int32) ≤ nI 8 by decide), if_pos (show (8 : Int32) ≤ nI 8 by decide)]
      rfl
  | succ m ih =>
    intro k g g' K Y hkm hg hg' hb ht
    obtain ⟨g1, rfl⟩ : ∃ g1 : Nat, g = g1 + 1 := ⟨g - 1, by omega⟩
    obtain ⟨g2, rfl⟩ : ∃ g2 : Nat, g' = g2 + 1 := ⟨g' - 1, by omega⟩
    have hk : k < 8 := by omega
    have u1 : k < 2 ^ 31 := by omega
    have n8 : ¬ (8 : Int32) ≤ nI k := fun z => by have z : nI 8 ≤ nI k := z; rw [nI_leI (by omega) (by omega)] at z; omega
    have s1 : nI k + Int32.ofInt 1 = nI (k + 1) := nI_add ..
    have it : ∀ v : Int32, (v = nI 0 ∨ v = nI 1) → sR Y 1 k = v → df_X15_isThere n (nI k) (Y, τ.2.2.1.2) = some (v, (Y, τ.2.2.1.2)) := fun v hv e => by
      unfold df_X15_isThere df_X15_isThere_0
      rw [nm_ck hk u1, nI_clamp u1]
      dsimp only
      rw [e]
      rcases hv with rfl | rfl
      · exact nm_z0
      · exact nm_z1
    have ih := fun K Y hb ht => ih (k + 1) g1 g2 K Y (by omega) (by omega) (by omega) hb ht
    show ∃ (K' : Nat → St) (Y' : St), _ ∧ _ ∧ ((dF_X11_hit_2 n (df_X11_hit_2 n g1) (nI k) (stK t K) = _ ∧ dF_X19_hit_2 n (df_X19_hit_2 n g2) (nI k) (stY τ Y) = _) ∨ ∃ q : Nat, q < 8 ∧ dF_X11_hit_2 n (df_X11_hit_2 n g1) (nI k) (stK t K) = _ ∧ dF_X19_hit_2 n (df_X19_hit_2 n g2) (nI k) (stY τ Y) = _)
    generalize df_X11_hit_2 n g1 = G at ih
    generalize df_X19_hit_2 n g2 = H at ih
    have eC : dF_X11_hit_2 n G (nI k) (stK t K) = nd_m (t.2.1 2 k) (G (nI (k + 1)) (stK t K)) (fun j3 => nd_m (t.2.1 2 k) none (fun j6 => nd_lt j6 9 (nd_b2 (df_X2_worth n (sI t.1 3) (nd_st0, (K j6, t.2.2.1.2.2))) (fun q8 s9 => if lg_cmp q8 0 = 0 then G (nI (k + 1)) (t.1, (t.2.1, ((t.2.2.1.1, (t.2.2.1.2.1, s9.2.2)), (t.2.2.2.1, (t.2.2.2.2.1, (t.2.2.2.2.2.1, ((fun i => if i = j6 then s9.2.1 else K i), t.2.2.2.2.2.2.2))))))) else some (3 + 8 * nI k, (t.1, (t.2.1, ((t.2.2.1.1, (t.2.2.1.2.1, s9.2.2)), (t.2.2.2.1, (t.2.2.2.2.1, (t.2.2.2.2.2.1, ((fun i => if i = j6 then s9.2.1 else K i), t.2.2.2.2.2.2.2)))))))))))) := by
      unfold dF_X11_hit_2 df_X11_hit_40
      rw [if_neg n8, nm_ck hk u1, nm_ck hk u1, nI_clamp u1, nb_let, s1]
      rfl
    have eR : dF_X19_hit_2 n H (nI k) (stY τ Y) = nd_b2 (df_X15_isThere n (nI k) (Y, τ.2.2.1.2)) (fun q3 s4 => if q3 = 0 then H (nI (k + 1)) (τ.1, (τ.2.1, (s4, τ.2.2.2))) else nd_b2 (df_X15_value n (nI k) s4) (fun q9 s10 => if lg_cmp q9 0 = 0 then H (nI (k + 1)) (τ.1, (τ.2.1, (s10, τ.2.2.2))) else some (nI k, (τ.1, (τ.2.1, (s10, τ.2.2.2)))))) := by
      unfold dF_X19_hit_2 df_X19_hit_32 df_X19_hit_38 df_X19_hit_49
      rw [if_neg n8, ← s1]
      simp only [if_neg n8]
      rfl
    rw [eC, eR]
    rcases hb.1 k hk with ⟨a, b⟩ | ⟨j, j9, a, b, hB⟩
    · rw [a, nb_mN, it (nI 0) (Or.inl rfl) b, nb_b2, if_pos (show nI 0 = (0 : Int32) from rfl)]
      exact ih K Y hb ht
    · obtain ⟨v, C2, Y2, r1, r2, r3, r4, r5, r6⟩ := (hB.2.2.2 B c t.2.2.1.2.2 τ.2.2.1.2 (K j) Y h1 h2 h3 h4 (cSt_r _) (ySt_r _ _)).2 (ht k j hk a)
      rw [a, nb_mS, nb_mS, nb_lt j9, h5, r1, nb_b2, it (nI 1) (Or.inr rfl) b, nb_b2, if_neg (show ¬ nI 1 = (0 : Int32) by decide), r2, nb_b2]
      have hb' := bRk_t hb (j := j) r3 r5
      by_cases z : lg_cmp v 0 = (0 : Int32)
      · rw [if_pos z, if_pos z]
        have tt : ∀ k' j' : Nat, k' < 8 → t.2.1 2 k' = some j' → tiO (N k') (pos k') ((fun i => if i = j then C2 else K i) j') Y2 := fun k' j' hk' e q hq => by
          have base := ht k' j' hk' e q hq
          rw [r6]
          show sQ (if j' = j then C2 else K j') 2 q = _
          by_cases y : j' = j
          · rw [if_pos y, r4, ← y]; exact base
          · rw [if_neg y]; exact base
        obtain ⟨K3, Y3, z1, z2, z3⟩ := ih (fun i => if i = j then C2 else K i) Y2 hb' tt
        exact ⟨K3, Y3, z1, yFr_t r5 z2, z3⟩
      · rw [if_neg z, if_neg z]
        refine ⟨fun i => if i = j then C2 else K i, Y2, hb', r5, Or.inr ⟨k, hk, ?_, rfl⟩⟩
        rw [show (3 : Int32) + 8 * nI k = nI (3 + 8 * k) by rw [show (8 : Int32) * nI k = nI (8 * k) from pk_mul ..]; exact nI_add ..]
        rfl
