/-- every statement -/
theorem yAll : ∀ y : Fin 128, isPl y.1 ∨ y.1 = 44 ∨ y.1 = 32 ∨ shT (sgm y.1) = 34 ∨ (shT (sgm y.1) = 7 ∨ shT (sgm y.1) = 35 ∨ shT (sgm y.1) = 36 ∨ shT (sgm y.1) = 37) ∨ y.1 = 116 ∨ y.1 = 117 ∨ (y.1 = 118 ∨ y.1 = 119) ∨ y.1 = 120 ∨ (y.1 = 121 ∨ y.1 = 122 ∨ y.1 = 123) ∨ (y.1 = 124 ∨ y.1 = 125) ∨ y.1 = 126 ∨ y.1 = 127 := by unfold isPl; decide +kernel
theorem stj {n L e : Nat} {c : Nat → Nat} {BC B Bq : St} {sn lu ln se co cs ns : Nat} {od : Int32} {SW LW NM BK : Nat → Int32} {bs ws X : Nat → Nat} {nL cu : Nat} {PA BY OU : Nat → Int32} {q p1 y : Nat} (J : JH n L e c BC B sn lu ln se cs ns NM BK bs ws X nL cu PA BY q p1 y od) (tp st : Nat) (fx : Bool) (C A Sx : Nat → Int32) {q1 p' κ τ v : Nat} {x : Int32} (T : TS n L e c BC p1 q1 p' κ τ v x) {ct ap : Nat} {gr : Bool} {S : St} (h : SR B ct gr PA BY OU 0 ap S) (hnL : 2 * nL ≤ p1) : JF n e B (qC Bq sn lu 0 ln se od co SW LW) (uC (xC BC cs tp st ns fx C A Sx NM BK) p' κ q1 x) S ln q y ∨ JG n L e c BC B Bq (uC (xC BC cs tp st ns fx C A Sx NM BK) p' κ q1 x) S sn lu ln se co od SW LW cs ns C A NM bs ws X nL cu PA BY OU q p1 y ∨ JT n L e c BC B Bq (uC (xC BC cs tp st ns fx C A Sx NM BK) p' κ q1 x) S sn lu ln se co od SW LW cs ns C A NM BK X nL cu PA BY OU q p1 y ∨ JE n L e c BC B Bq (uC (xC BC cs tp st ns fx C A Sx NM BK) p' κ q1 x) S sn lu ln se co od SW LW cs ns C A NM bs ws X nL cu PA BY OU q p1 y := by
  have hy : y < 128 := J.2.2.2.2.2.2.2.2.2.2.2.2.2.2.1
  have f1 : ∀ {a b d f : Prop}, a ∨ b → a ∨ b ∨ d ∨ f := fun h => h.elim Or.inl (fun z => Or.inr (Or.inl z))
  rcases yAll ⟨y, hy⟩ with z | z | z | z | z | z | z | z | z | z | z | z | z
  · exact f1 (stj_P J z tp st fx C A Sx T h)
  · by_cases g : tkG c τ q1 p' < 32
    · exact f1 (stj_L J z tp st fx C A Sx T h g)
    · exact f1 (stj_H J 103 (Or.inl rfl) tp st fx C A Sx T h (Or.inr ⟨z, rfl, g⟩))
  · exact f1 (stj_R J z tp st fx C A Sx T h)
  · exact f1 (stj_H J y (hp_k.1 ⟨y, hy⟩ z) tp st fx C A Sx T h (Or.inl ⟨z, rfl⟩))
  · exact f1 (stj_B J z tp st fx C A Sx T h)
  · exact f1 (stj_A J z tp st fx C A Sx T h)
  · exact f1 (stj_N J z tp st fx C A Sx T h)
  · exact (stj_T J z tp st fx C A Sx T h).elim Or.inl (fun w => Or.inr (Or.inr (Or.inl w)))
  · exact (stj_E J z tp st fx C A Sx T h hnL).elim Or.inl (fun w => Or.inr (Or.inr (Or.inr w)))
  · exact f1 (stj_D J z tp st fx C A Sx T h)
  · exact f1 (stj_X J z tp st fx C A Sx T h)
  · exact f1 (stj_S J z tp st fx C A Sx T h)
  · exact f1 (stj_Q J z tp st fx C A Sx T h)
/-- codes that stay while tables grow -/
theorem CDS_k {NR : Nat → Int32} {c : Nat → Nat} {e ns ns' : Nat} {bs ws bs' ws' : Nat → Nat} {C A C' A' : Nat → Int32} {cs : Nat} (hk : ∀ i : Nat, i < cs → C' i = C i ∧ A' i = A i) (hn : ns ≤ ns') (hb : ∀ i : Nat, i < ns → bs' i = bs i ∧ ws' i = ws i) : ∀ {ys : List (Nat × (Nat → Tp))} {s0 s1 : Nat}, s1 ≤ cs → CDS NR c e ns bs ws C A s0 ys s1 → CDS NR c e ns' bs' ws' C' A' s0 ys s1
  | [], _, _, _, h => h
  | y :: ys, s0, s1, h1, h => by
    obtain ⟨a1, a2, a3, a4⟩ := h
    have l := CDS_l a4
    have h2 := CR_n hn hb a1
    refine ⟨⟨fun i hi => ⟨rfl, rfl⟩, fun i hi => ?_⟩, ?_, a3, CDS_k hk hn hb h1 a4⟩
    · rw [(hk (s0 + i) (by omega)).1, (hk (s0 + i) (by omega)).2]
      exact h2.2 i hi
    · rw [(hk (s0 + y.1) (by omega)).1]; exact a2
theorem DRW_k {NR : Nat → Int32} {c : Nat → Nat} {e ns ns' : Nat} {bs ws bs' ws' : Nat → Nat} {C A C' A' LW LW' : Nat → Int32} {cs lu s0 s1 u0 u1 : Nat} {le b cd lt : Int32} {fl : Nat} {bb : Int32} {D : Dt} (hk : ∀ i : Nat, i < cs → C' i = C i ∧ A' i = A i) (hn : ns ≤ ns') (hb : ∀ i : Nat, i < ns → bs' i = bs i ∧ ws' i = ws i) (hl : ∀ i : Nat, i < lu → LW' i = LW i) (h1 : s1 ≤ cs) (h2 : u1 ≤ lu) (h : DRW NR c e ns bs ws C A LW s0 s1 u0 u1 le b cd lt fl bb D) : DRW NR c e ns' bs' ws' C' A' LW' s0 s1 u0 u1 le b cd lt fl bb D := by
  have co : ∀ ys : List (Nat × (Nat → Tp)), CDo NR c e ns bs ws C A s0 ys s1 → CDo NR c e ns' bs' ws' C' A' s0 ys s1 := fun ys h => ⟨CDS_k hk hn hb h1 h.1, h.2⟩
  rcases h with h | h | h | h | h | h | h | h | h
  · obtain ⟨a1, a2, a3, a4, a5, a6, a7, a8⟩ := h
    exact Or.inl ⟨a1, a2, a3, a4, a5, a6, a7, fun z => ⟨(a8 z).1, co _ (a8 z).2.1, (a8 z).2.2⟩⟩
  · obtain ⟨a1, a2, a3, a4, a5, a6, a7, a8⟩ := h
    exact Or.inr (Or.inl ⟨a1, a2, a3, a4, a5, a6, co _ a7, a8⟩)
  · obtain ⟨a1, a2, a3, a4, a5, a6, a7⟩ := h
    exact Or.inr (Or.inr (Or.inl ⟨a1, a2, a3, a4, a5, co _ a6, a7⟩))
  · obtain ⟨a1, a2, a3, a4, a5, a6, a7, a8, a9⟩ := h
    exact Or.inr (Or.inr (Or.inr (Or.inl ⟨a1, a2, a3, a4, a5, a6, a7, co _ a8, a9⟩)))
  · exact Or.inr (Or.inr (Or.inr (Or.inr (Or.inl h))))
  · obtain ⟨a1, a2, a3, a4, a5, a6, a7, a8, a9, a10⟩ := h
    exact Or.inr (Or.inr (Or.inr (Or.inr (Or.inr (Or.inl ⟨a1, a2, a3, a4, a5, a6, a7, a8, co _ a9, a10⟩)))))
  · obtain ⟨a1, a2, a3, a4, a5, a6, a7, a8⟩ := h
    refine Or.inr (Or.inr (Or.inr (Or.inr (Or.inr (Or.inr (Or.inl ⟨a1, a2, a3, a4, a5, a6, a7, fun i hi => ?_⟩))))))
    rw [hl _ (by omega)]; exact a8 i hi
  · exact Or.inr (Or.inr (Or.inr (Or.inr (Or.inr (Or.inr (Or.inr (Or.inl h)))))))
  · exact Or.inr (Or.inr (Or.inr (Or.inr (Or.inr (Or.inr (Or.inr (Or.inr h)))))))
/-- how many statements of the class there are among the reference's -/
def mu (Ds : Nat → Dt) : Nat → Nat
  | 0 => 0
  | s + 1 => mu Ds s + (if (Ds s).1 = 9 then 0 else 1)
def nlC (c : Nat → Nat) : Nat → Nat
  | 0 => 0
  | p + 1 => nlC c p + (if c p = 10 then 1 else 0)
/-- what is kept of a statement -/
def STr (n L : Nat) (c X : Nat → Nat) (nL : Nat) (W SW LW C A : Nat → Int32) (ns : Nat) (bs ws : Nat → Nat) (cs lu i : Nat) (pa bb : Int32) (D : Dt) (q e se ln fl n0 : Nat) (NP : Nat → Int32) : Prop := pa = nI ((4 * se + fl) * 2 ^ 17 + q) ∧ se < 2 ∧ (fl = 0 ∨ fl = 8 ∨ fl = 16 ∨ fl = 25) ∧ q + 3 ≤ e ∧ e ≤ L ∧ c e = 10 ∧ (∀ i : Nat, q ≤ i → i < e → ¬ c i = 10) ∧ ln = nlC c q + 1 ∧ n0 ≤ nL ∧ (∀ k : Nat, k < n0 → X k % 131072 < q) ∧ (∀ k : Nat, n0 ≤ k → k < nL → q < X k % 131072) ∧ (∀ d : Nat, d ≤ 9 → NP (10 + d) = nI (lmF X (frF false (dgP c X d) n0))) ∧ (∃ (lw lv sz : Nat) (ba : Option Int32) (X0 : Nat → Nat) (W0 : Nat → Int32), (∀ BC : St, RFB n L e c BC q se lw lv sz ba X0 W0 n0 D) ∧ (∀ k : Nat, k < n0 → X0 k = X k ∧ (X k / 131072 = 2 → W0 k = W k)) ∧ (∀ v : Int32, ba = some v → bb = v) ∧ lw ≤ fl % 4 ∧ fl % 4 ≤ lv ∧ (D.1 = 1 → lv = 1) ∧ (D.1 = 2 → lv = 2)) ∧ ((D.1 = 9 ∧ D.2.2.2.2 = [] ∧ bb = 0 ∧ fl = 0) ∨ (D.1 ≤ 8 ∧ ∃ (le b cd lt : Int32) (s0 s1 u0 u1 : Nat), SW (i * 8) = nI ln ∧ SW (i * 8 + 1) = nI se ∧ SW (i * 8 + 3) = le ∧ SW (i * 8 + 4) = nI D.1 ∧ SW (i * 8 + 5) = b ∧ SW (i * 8 + 6) = cd ∧ SW (i * 8 + 7) = lt ∧ DRW NP c e ns bs ws C A LW s0 s1 u0 u1 le b cd lt fl bb D ∧ s1 ≤ cs ∧ u1 ≤ lu))
theorem lmF_c {X X' : Nat → Nat} {f n : Nat} (hf : f ≤ n) (h : ∀ k : Nat, k < n → X' k = X k) : lmF X' f = lmF X f := by
  unfold lmF
  by_cases z : f = 0
  · rw [if_pos z, if_pos z]
  · rw [if_neg z, if_neg z, lam_c (f - 1) (fun i hi => h i (by omega))]
theorem STr_k {n L : Nat} {c X X' : Nat → Nat} {nL nL' : Nat} {W W' SW SW' LW LW' C A C' A' : Nat → Int32} {ns ns' : Nat} {bs ws bs' ws' : Nat → Nat} {cs lu cs' lu' i : Nat} {pa bb : Int32} {D : Dt} {q e se ln fl n0 : Nat} {NP : Nat → Int32} (hX : ∀ k : Nat, k < nL → X' k = X k) (hnL : nL ≤ nL') (hXn : ∀ k : Nat, nL ≤ k → k < nL' → q < X' k % 131072) (hW : ∀ k : Nat, k < nL → W' k = W k) (hS : D.1 ≤ 8 → ∀ j : Nat, i * 8 ≤ j → j < i * 8 + 8 → SW' j = SW j) (hk : ∀ i : Nat, i < cs → C' i = C i ∧ A' i = A i) (hn : ns ≤ ns') (hb : ∀ i : Nat, i < ns → bs' i = bs i ∧ ws' i = ws i) (hl : ∀ i : Nat, i < lu → LW' i = LW i) (hcs : cs ≤ cs') (hlu : lu ≤ lu') (h : STr n L c X nL W SW LW C A ns bs ws cs lu i pa bb D q e se ln fl n0 NP) : STr n L c X' nL' W' SW' LW' C' A' ns' bs' ws' cs' lu' i pa bb D q e se ln fl n0 NP := by
  obtain ⟨a1, a2, a3, a4, a5, a6, a6', a7, a8, a9, a10, a11, ⟨lw, lv, sz, ba, X0, W0, b1, b2, b3, b4, b5, b6, b7⟩, a13⟩ := h
  refine ⟨a1, a2, a3, a4, a5, a6, a6', a7, by omega, fun k hk0 => by rw [hX k (by omega)]; exact a9 k hk0, fun k k1 k2 => ?_, fun d hd => ?_, ⟨lw, lv, sz, ba, X0, W0, b1, fun k hk0 => ?_, b3, b4, b5, b6, b7⟩, ?_⟩
  · by_cases z : k < nL
    · rw [hX k z]; exact a10 k k1 z
    · exact hXn k (by omega) k2
  · rw [fr_c n0 (Q := dgP c X d) (fun j hj => by unfold dgP; rw [hX j (by omega)]), lmF_c (fr_l _ _ _) (fun k hk0 => hX k (by omega))]
    exact a11 d hd
  · rw [hX k (by omega), hW k (by omega)]; exact b2 k hk0
  · rcases a13 with z | ⟨z, le, b, cd, lt, s0, s1, u0, u1, c1, c2, c3, c4, c5, c6, c7, c8, c9, c10⟩
    · exact Or.inl z
    · refine Or.inr ⟨z, le, b, cd, lt, s0, s1, u0, u1, ?_, ?_, ?_, ?_, ?_, ?_, ?_, DRW_k hk hn hb hl c9 c10 c8, by omega, by omega⟩
      · rw [hS z _ (by omega) (by omega)]; exact c1
      · rw [hS z _ (by omega) (by omega)]; exact c2
      · rw [hS z _ (by omega) (by omega)]; exact c3
      · rw [hS z _ (by omega) (by omega)]; exact c4
      · rw [hS z _ (by omega) (by omega)]; exact c5
      · rw [hS z _ (by omega) (by omega)]; exact c6
      · rw [hS z _ (by omega) (by omega)]; exact c7
/-- all of it, between two lines -/
def READ (n L : Nat) (c : Nat → Nat) (p : Nat) (B : St) (sn lu ln se co : Nat) (SW LW : Nat → Int32) (cs ns : Nat) (C A NM BK : Nat → Int32) (bs ws : Nat → Nat) (nl : Nat) (NR LB : Nat → Int32) (sc X : Nat → Nat) (nL nS : Nat) (PA BY : Nat → Int32) (Ds : Nat → Dt) (Qs Es Zs Ls Fs N0 : Nat → Nat) (NP : Nat → Nat → Int32) : Prop := TBJ L c X nL (sR B 7) ns NM BK bs ws nl NR LB sc p ∧ sI B 2 = nI nS ∧ sI B 3 = nI nL ∧ (∀ k : Nat, k < nL → sR B 6 k = nI (X k)) ∧ sI B 13 = nI (ln + 1) ∧ sI B 14 = nI se ∧ se < 2 ∧ cstS B ∧ ln = nlC c p ∧ cs ≤ p ∧ lu ≤ p ∧ 4 * nS ≤ p ∧ sn = mu Ds nS ∧ co + lam X nL = nL ∧ (∀ s : Nat, s < nS → STr n L c X nL (sR B 7) SW LW C A ns bs ws cs lu (mu Ds s) (PA s) (BY s) (Ds s) (Qs s) (Es s) (Zs s) (Ls s) (Fs s) (N0 s) (NP s) ∧ Qs s < p ∧ ∀ t : Nat, t < s → Qs t < Qs s) ∧ (∀ s t : Nat, s ≤ t → t < nS → N0 s ≤ N0 t) ∧ (∀ k k' : Nat, k < k' → k' < nL → sc k ≤ sc k') ∧ (∀ k : Nat, k < nL → sc k ≤ sn) ∧ (∀ k s : Nat, k < nL → s < nS → (k < N0 s → sc k ≤ mu Ds s) ∧ (N0 s ≤ k → mu Ds (s + 1) ≤ sc k))
/-- both states, between two lines -/
def RDst (n L : Nat) (c : Nat → Nat) (p : Nat) (Q U S : St) : Prop := ∃ (B Bq B0 : St) (sn lu ln se co : Nat) (od : Int32) (SW LW : Nat → Int32) (cs ns : Nat) (C A NM BK : Nat → Int32) (bs ws : Nat → Nat) (nl : Nat) (NR LB : Nat → Int32) (sc X : Nat → Nat) (nL nS : Nat) (PA BY OU : Nat → Int32) (Ds : Nat → Dt) (Qs Es Zs Ls Fs N0 : Nat → Nat) (NP : Nat → Nat → Int32) (e0 tp st : Nat) (fx : Bool) (Sx : Nat → Int32) (ap kd fr : Nat) (nm : Int32) (ct : Nat) (gr : Bool), READ n L c p B sn lu ln se co SW LW cs ns C A NM BK bs ws nl NR LB sc X nL nS PA BY Ds Qs Es Zs Ls Fs N0 NP ∧ Q = qC Bq sn lu 0 ln se od co SW LW ∧ U = uC (xC (bC B0 e0 nl NR LB) cs tp st ns fx C A Sx NM BK) ap kd fr nm ∧ SR B ct gr PA BY OU 0 p S ∧ sO B0 0 = some 8 ∧ (∀ i : Nat, i < L → sR B0 7 i = nI (c i)) ∧ sI B 0 = nI L ∧ (∀ i : Nat, i < L → sR B 2 i = nI (c i))
