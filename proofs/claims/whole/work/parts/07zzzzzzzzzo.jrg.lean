/-- a row with one thing more -/
def nwA {α : Type} (f : Nat → α) (n : Nat) (v : α) : Nat → α := fun i => if i = n then v else f i
theorem na_y {α : Type} {f : Nat → α} {n : Nat} {v : α} : nwA f n v n = v := if_pos rfl
theorem na_n {α : Type} {f : Nat → α} {n i : Nat} {v : α} (h : i < n) : nwA f n v i = f i := if_neg (by omega)
theorem mu_c {Ds Dt' : Nat → Dt} : ∀ s : Nat, (∀ i : Nat, i < s → Dt' i = Ds i) → mu Dt' s = mu Ds s := fun s => by
  induction s with
  | zero => intro _; rfl
  | succ s ih =>
    intro h
    show mu Dt' s + (if (Dt' s).1 = 9 then 0 else 1) = mu Ds s + (if (Ds s).1 = 9 then 0 else 1)
    rw [ih (fun i hi => h i (by omega)), h s (by omega)]
theorem mu_m (Ds : Nat → Dt) : ∀ j s : Nat, mu Ds s ≤ mu Ds (s + j) := fun j => by
  induction j with
  | zero => intro s; exact Nat.le_refl _
  | succ j ih =>
    intro s
    have := ih s
    show mu Ds s ≤ mu Ds (s + j) + (if (Ds (s + j)).1 = 9 then 0 else 1)
    split <;> omega
theorem mu_l (Ds : Nat → Dt) : ∀ s : Nat, mu Ds s ≤ s := fun s => by
  induction s with
  | zero => exact Nat.le_refl 0
  | succ s ih =>
    show mu Ds s + (if (Ds s).1 = 9 then 0 else 1) ≤ s + 1
    split <;> omega
theorem mu_i {Ds : Nat → Dt} {s t : Nat} (h : s < t) (h9 : ¬ (Ds s).1 = 9) : mu Ds s + 1 ≤ mu Ds t := by
  have := mu_m Ds (t - (s + 1)) (s + 1)
  rw [show s + 1 + (t - (s + 1)) = t by omega] at this
  have e : mu Ds (s + 1) = mu Ds s + 1 := by
    show mu Ds s + (if (Ds s).1 = 9 then 0 else 1) = _
    rw [if_neg h9]
  omega
theorem mu_s {Ds : Nat → Dt} {s : Nat} : mu Ds (s + 1) = mu Ds s + (if (Ds s).1 = 9 then 0 else 1) := rfl
theorem nlC_a {c : Nat → Nat} : ∀ j p : Nat, (∀ i : Nat, p ≤ i → i < p + j → ¬ c i = 10) → nlC c (p + j) = nlC c p := fun j => by
  induction j with
  | zero => intro p _; rfl
  | succ j ih =>
    intro p h
    show nlC c (p + j) + (if c (p + j) = 10 then 1 else 0) = nlC c p
    rw [if_neg (h (p + j) (by omega) (by omega)), ih p (fun i i1 i2 => h i i1 (by omega))]
    rfl
theorem nlC_l (c : Nat → Nat) : ∀ p : Nat, nlC c p ≤ p := fun p => by
  induction p with
  | zero => exact Nat.le_refl 0
  | succ p ih =>
    show nlC c p + (if c p = 10 then 1 else 0) ≤ p + 1
    split <;> omega
/-- READ over a line without a statement -/
theorem READ_n {n L : Nat} {c : Nat → Nat} {p : Nat} {B : St} {sn lu ln se co : Nat} {SW LW : Nat → Int32} {cs ns : Nat} {C A NM BK : Nat → Int32} {bs ws : Nat → Nat} {nl : Nat} {NR LB : Nat → Int32} {sc X : Nat → Nat} {nL nS : Nat} {PA BY : Nat → Int32} {Ds : Nat → Dt} {Qs Es Zs Ls Fs N0 : Nat → Nat} {NP : Nat → Nat → Int32} (h : READ n L c p B sn lu ln se co SW LW cs ns C A NM BK bs ws nl NR LB sc X nL nS PA BY Ds Qs Es Zs Ls Fs N0 NP) {X' : Nat → Nat} {nL' : Nat} {B' : St} {ns' : Nat} {NM' BK' : Nat → Int32} {bs' ws' : Nat → Nat} {nl' : Nat} {NR' LB' : Nat → Int32} {sc' : Nat → Nat} (hg : GRW X nL (sR B 7) ns bs ws sc p sn X' nL' (sR B' 7) ns' bs' ws' sc') {p' se' : Nat} (hJ : TBJ L c X' nL' (sR B' 7) ns' NM' BK' bs' ws' nl' NR' LB' sc' p') (hp : p ≤ p') (h2 : sI B' 2 = nI nS) (h3 : sI B' 3 = nI nL') (h6 : ∀ k : Nat, k < nL' → sR B' 6 k = nI (X' k)) (h13 : sI B' 13 = nI (ln + 1 + 1)) (h14 : sI B' 14 = nI se') (hse : se' < 2) (hc : cstS B') (hln : ln + 1 = nlC c p') : READ n L c p' B' sn lu (ln + 1) se' co SW LW cs ns' C A NM' BK' bs' ws' nl' NR' LB' sc' X' nL' nS PA BY Ds Qs Es Zs Ls Fs N0 NP := by
  obtain ⟨a1, a2, a3, a4, a5, a6, a7, a8, a9, a10, a11, a12, a13, a14, a15, a16, a17, a18, a19⟩ := h
  obtain ⟨g1, g2, g3, g4, g5⟩ := hg
  have hlam : co + lam X' nL' = nL' := by
    have e : ∀ j : Nat, nL + j ≤ nL' → lam X' (nL + j) = lam X nL + j := fun j => by
      induction j with
      | zero => intro _; exact lam_c nL (fun i hi => (g2 i hi).1)
      | succ j ih =>
        intro hj
        show lam X' (nL + j) + (if X' (nL + j) / 131072 = 2 then 0 else 1) = lam X nL + (j + 1)
        rw [if_neg (g3 (nL + j) (by omega) (by omega)).2.2, ih (by omega)]
        omega
    have := e (nL' - nL) (by omega)
    rw [show nL + (nL' - nL) = nL' by omega] at this
    omega
  refine ⟨hJ, h2, h3, h6, h13, h14, hse, hc, hln, by omega, by omega, by omega, a13, hlam, fun s hs => ?_, a16, fun k k' hk hk' => ?_, fun k hk => ?_, fun k s hk hs => ?_⟩
  · obtain ⟨b1, b2, b3⟩ := a15 s hs
    exact ⟨STr_k (fun k hk => (g2 k hk).1) g1 (fun k k1 k2 => by have := (g3 k k1 k2).2.1; omega) (fun k hk => (g2 k hk).2.1) (fun _ _ _ _ => rfl) (fun _ _ => ⟨rfl, rfl⟩) g4 g5 (fun _ _ => rfl) (Nat.le_refl _) (Nat.le_refl _) b1, by omega, b3⟩
  · by_cases z : k' < nL
    · rw [(g2 k (by omega)).2.2, (g2 k' z).2.2]; exact a17 k k' hk z
    · rw [(g3 k' (by omega) hk').1]
      by_cases y : k < nL
      · rw [(g2 k y).2.2]; exact a18 k y
      · rw [(g3 k (by omega) (by omega)).1]; exact Nat.le_refl _
  · by_cases y : k < nL
    · rw [(g2 k y).2.2]; exact a18 k y
    · rw [(g3 k (by omega) hk).1]; exact Nat.le_refl _
  · by_cases y : k < nL
    · rw [(g2 k y).2.2]; exact a19 k s y hs
    · rw [(g3 k (by omega) hk).1]
      have hN := (a15 s hs).1.2.2.2.2.2.2.2.2.1
      refine ⟨fun w => absurd w (by omega), fun _ => ?_⟩
      rw [a13]
      have := mu_m Ds (nS - (s + 1)) (s + 1)
      rw [show s + 1 + (nS - (s + 1)) = nS by omega] at this
      exact this
/-- READ with a statement more -/
theorem READ_a {n L : Nat} {c : Nat → Nat} {p : Nat} {B : St} {sn lu ln se co : Nat} {SW LW : Nat → Int32} {cs ns : Nat} {C A NM BK : Nat → Int32} {bs ws : Nat → Nat} {nl : Nat} {NR LB : Nat → Int32} {sc X : Nat → Nat} {nL nS : Nat} {PA BY : Nat → Int32} {Ds : Nat → Dt} {Qs Es Zs Ls Fs N0 : Nat → Nat} {NP : Nat → Nat → Int32} (h : READ n L c p B sn lu ln se co SW LW cs ns C A NM BK bs ws nl NR LB sc X nL nS PA BY Ds Qs Es Zs Ls Fs N0 NP) {X' : Nat → Nat} {nL' : Nat} {B' : St} {ns' : Nat} {NM' BK' : Nat → Int32} {bs' ws' : Nat → Nat} {nl' : Nat} {NR' LB' : Nat → Int32} {sc' : Nat → Nat} {SW' LW' C' A' : Nat → Int32} {cs' lu' co' : Nat} {PA' BY' : Nat → Int32} {D : Dt} {q e fl n0 : Nat} {NP0 : Nat → Int32} {p' : Nat} (hJ : TBJ L c X' nL' (sR B' 7) ns' NM' BK' bs' ws' nl' NR' LB' sc' p') (hX : ∀ k : Nat, k < nL → X' k = X k ∧ sR B' 7 k = sR B 7 k ∧ sc' k = sc k) (hnL : nL ≤ nL') (hXn : ∀ k : Nat, nL ≤ k → k < nL' → sc' k = sn ∧ p ≤ X' k % 131072) (hns : ns ≤ ns') (hb : ∀ i : Nat, i < ns → bs' i = bs i ∧ ws' i = ws i) (hS : ∀ j : Nat, j < sn * 8 → SW' j = SW j) (hk : ∀ i : Nat, i < cs → C' i = C i ∧ A' i = A i) (hl : ∀ i : Nat, i < lu → LW' i = LW i) (hcs : cs ≤ cs') (hlu : lu ≤ lu') (hcp : cs' ≤ p') (hlp : lu' ≤ p') (hp : p ≤ q) (hq : q + 4 ≤ p') (hPA : ∀ s : Nat, s < nS → PA' s = PA s ∧ BY' s = BY s) (hco : co' + lam X' nL' = nL') (h2 : sI B' 2 = nI (nS + 1)) (h3 : sI B' 3 = nI nL') (h6 : ∀ k : Nat, k < nL' → sR B' 6 k = nI (X' k)) (h13 : sI B' 13 = nI (ln + 1 + 1)) (h14 : sI B' 14 = nI se) (hc : cstS B') (hln : ln + 1 = nlC c p') (hn0 : nL ≤ n0) (hn0' : n0 ≤ nL') (hsame : ∀ k : Nat, n0 ≤ k → k < nL' → sn + (if D.1 = 9 then 0 else 1) = sn) (h0q : ∀ k : Nat, k < n0 → X' k % 131072 < q) (hst : STr n L c X' nL' (sR B' 7) SW' LW' C' A' ns' bs' ws' cs' lu' sn (PA' nS) (BY' nS) D q e se (ln + 1) fl n0 NP0) : READ n L c p' B' (sn + (if D.1 = 9 then 0 else 1)) lu' (ln + 1) se co' SW' LW' cs' ns' C' A' NM' BK' bs' ws' nl' NR' LB' sc' X' nL' (nS + 1) PA' BY' (nwA Ds nS D) (nwA Qs nS q) (nwA Es nS e) (nwA Zs nS se) (nwA Ls nS (ln + 1)) (nwA Fs nS fl) (nwA N0 nS n0) (nwA NP nS NP0) := by
  obtain ⟨a1, a2, a3, a4, a5, a6, a7, a8, a9, a10, a11, a12, a13, a14, a15, a16, a17, a18, a19⟩ := h
  have hmu : ∀ s : Nat, s ≤ nS → mu (nwA Ds nS D) s = mu Ds s := fun s hs => mu_c s (fun i hi => na_n (by omega))
  have hN : ∀ s : Nat, s < nS → N0 s ≤ nL := fun s hs => (a15 s hs).1.2.2.2.2.2.2.2.2.1
  refine ⟨hJ, h2, h3, h6, h13, h14, a7, hc, hln, hcp, hlp, by omega, ?_, hco, fun s hs => ?_, fun s t hst2 ht => ?_, fun k k' hk1 hk' => ?_, fun k hk1 => ?_, fun k s hk1 hs => ?_⟩
  · rw [mu_s, hmu nS (Nat.le_refl _), na_y, a13]
  · by_cases z : s = nS
    · subst z
      rw [hmu s (Nat.le_refl _), na_y, na_y, na_y, na_y, na_y, na_y, na_y, na_y, ← a13]
      exact ⟨hst, by omega, fun t ht => by rw [na_n ht]; have := (a15 t ht).2.1; omega⟩
    · have zl : s < nS := by omega
      obtain ⟨b1, b2, b3⟩ := a15 s zl
      rw [hmu s (by omega), na_n zl, na_n zl, na_n zl, na_n zl, na_n zl, na_n zl, na_n zl, na_n zl, (hPA s zl).1, (hPA s zl).2]
      refine ⟨STr_k (fun k hk1 => (hX k hk1).1) hnL (fun k k1 k2 => by have := (hXn k k1 k2).2; omega) (fun k hk1 => (hX k hk1).2.1) (fun h8 j j1 j2 => hS j ?_) hk hns hb hl hcs hlu b1, by omega, fun t ht => by rw [na_n (show t < nS by omega)]; exact b3 t ht⟩
      have := mu_i (Ds := Ds) zl (by omega)
      omega
  · by_cases z : t = nS
    · subst z
      rw [na_y]
      by_cases y : s = t
      · rw [y, na_y]; exact Nat.le_refl _
      · rw [na_n (by omega)]
        have := hN s (by omega)
        omega
    · rw [na_n (by omega), na_n (by omega)]
      exact a16 s t hst2 (by omega)
  · by_cases z : k' < nL
    · rw [(hX k (by omega)).2.2, (hX k' z).2.2]; exact a17 k k' hk1 z
    · rw [(hXn k' (by omega) hk').1]
      by_cases y : k < nL
      · rw [(hX k y).2.2]; exact a18 k y
      · rw [(hXn k (by omega) (by omega)).1]; exact Nat.le_refl _
  · by_cases y : k < nL
    · rw [(hX k y).2.2]
      have := a18 k y
      omega
    · rw [(hXn k (by omega) hk1).1]; omega
  · have hsck : sc' k ≤ sn := by
      by_cases y : k < nL
      · rw [(hX k y).2.2]; exact a18 k y
      · rw [(hXn k (by omega) hk1).1]; exact Nat.le_refl _
    by_cases z : s = nS
    · subst z
      rw [na_y, hmu s (Nat.le_refl _), mu_s, hmu s (Nat.le_refl _), na_y, ← a13]
      refine ⟨fun _ => hsck, fun hk0 => ?_⟩
      rw [(hXn k (by omega) hk1).1]
      exact Nat.le_of_eq (hsame k hk0 hk1)
    · have zl : s < nS := by omega
      rw [na_n zl, hmu s (by omega), hmu (s + 1) (by omega)]
      by_cases y : k < nL
      · rw [(hX k y).2.2]; exact a19 k s y zl
      · rw [(hXn k (by omega) hk1).1]
        have := hN s zl
        refine ⟨fun w => absurd w (by omega), fun _ => ?_⟩
        rw [a13]
        have := mu_m Ds (nS - (s + 1)) (s + 1)
        rw [show s + 1 + (nS - (s + 1)) = nS by omega] at this
        exact this
