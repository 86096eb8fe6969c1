/-- where a line ends -/
def lnE (c : Nat → Nat) (L p : Nat) : Nat := fN (fun i => decide (c i = 10)) p (L - p)
theorem lnE_1 {c : Nat → Nat} {L p : Nat} (hp : p ≤ L) (hend : ∀ i : Nat, L ≤ i → c i = 10) : p ≤ lnE c L p ∧ lnE c L p ≤ L ∧ c (lnE c L p) = 10 ∧ ∀ i : Nat, p ≤ i → i < lnE c L p → ¬ c i = 10 := by
  obtain ⟨a, b, d, f⟩ := fN_le (fun i => decide (c i = 10)) (L - p) p
  have hb : lnE c L p ≤ L := by unfold lnE; omega
  refine ⟨a, hb, ?_, fun i h1 h2 => ?_⟩
  · by_cases z : lnE c L p < L
    · have := d (by unfold lnE at z; omega)
      exact of_decide_eq_true this
    · exact hend _ (by omega)
  · have := f i h1 h2
    exact of_decide_eq_false this
theorem chA {n L : Nat} {c : Nat → Nat} {S : St} (hL : L ≤ 32768) (h0 : sI S 0 = nI L) (ht : ∀ i : Nat, i < L → sR S 2 i = nI (c i)) (hend : ∀ i : Nat, L ≤ i → c i = 10) {k : Nat} (hk : k < 2 ^ 30) : df_X13_charAt n (nI k) S = some (nI (c k), S) := by
  unfold df_X13_charAt df_X13_charAt_0
  rw [h0]
  by_cases z : k < L
  · rw [if_neg (znle z (by omega)), nm_ck (by omega) (by omega), nI_clamp (by omega), ht k z]
    rfl
  · rw [if_pos (zle (by omega) (by omega)), hend k (by omega)]
    rfl
/-- the reference: to the next line -/
theorem rd_152 {n L e : Nat} {c : Nat → Nat} {S : St} (G : St → Option St) (hL : L ≤ 32768) (heL : e ≤ L) (h0 : sI S 0 = nI L) (ht : ∀ i : Nat, i < L → sR S 2 i = nI (c i)) (hend : ∀ i : Nat, L ≤ i → c i = 10) (hce : c e = 10) (h127 : ∀ i : Nat, c i < 127) : ∀ j ap g : Nat, ap + j = e → j < g → (∀ i : Nat, ap ≤ i → i < e → ¬ c i = 10) → df_X13_readAll_152 n G g (pI S 7 (nI ap)) = G (pI (pI S 7 (nI (e + 1))) 13 (sI S 13 + 1)) := fun j => by
  have p7 : ∀ a b : Int32, pI (pI S 7 a) 7 b = pI S 7 b := fun a b => Prod.ext (funext fun i => by
    show (if i = 7 then b else if i = 7 then a else S.1 i) = (if i = 7 then b else S.1 i)
    by_cases z : i = 7
    · rw [if_pos z, if_pos z]
    · rw [if_neg z, if_neg z, if_neg z]) rfl
  induction j with
  | zero =>
    intro ap g h1 h2 h3
    obtain ⟨g, rfl⟩ : ∃ m : Nat, g = m + 1 := ⟨g - 1, by omega⟩
    have : ap = e := by omega
    subst this
    show dF_X13_readAll_152 n G (df_X13_readAll_152 n G g) (pI S 7 (nI ap)) = _
    unfold dF_X13_readAll_152
    rw [show sI (pI S 7 (nI ap)) 7 = nI ap from rfl, chA (S := pI S 7 (nI ap)) hL h0 ht hend (by omega), nb_b2, if_pos (show nI (c ap) = 10 from congrArg nI hce), nb_let, show sI (pI S 7 (nI ap)) 7 + 1 = nI (ap + 1) from nI_add ap 1, p7, nb_let]
    rfl
  | succ j ih =>
    intro ap g h1 h2 h3
    obtain ⟨g, rfl⟩ : ∃ m : Nat, g = m + 1 := ⟨g - 1, by omega⟩
    show dF_X13_readAll_152 n G (df_X13_readAll_152 n G g) (pI S 7 (nI ap)) = _
    unfold dF_X13_readAll_152
    have := h127 ap
    rw [show sI (pI S 7 (nI ap)) 7 = nI ap from rfl, chA (S := pI S 7 (nI ap)) hL h0 ht hend (by omega), nb_b2, if_neg (show ¬ nI (c ap) = 10 from zne (b := 10) (h3 ap (Nat.le_refl _) (by omega)) (by omega) (by omega)), nb_let, show sI (pI S 7 (nI ap)) 7 + 1 = nI (ap + 1) from nI_add ap 1, p7]
    exact ih (ap + 1) g (by omega) (by omega) (fun i i1 i2 => h3 i (by omega) i2)
/-- the class: to the end of a line -/
theorem mk_w {n L e p : Nat} {c : Nat → Nat} {s1 s3 Q U : St} (hL : L ≤ 32768) (heL : e ≤ L) (hQ : sI Q 2 = 0) (ht : ∀ i : Nat, i < L → sR U 7 i = nI (c i)) (hce : c e = 10) (h127 : ∀ i : Nat, c i < 127) : ∀ j i g : Nat, i + j = e → j < g → (∀ k : Nat, i ≤ k → k < e → ¬ c k = 10) → df_X1_make_12 n g (nI L) (nI p) (nI i) (s1, ((Q, U), s3)) = df_X1_make_40 n (df_X1_make_12 n (g - j - 1)) (nI L) (nI p) (nI e) (s1, ((Q, U), s3)) := fun j => by
  induction j with
  | zero =>
    intro i g h1 h2 h3
    obtain ⟨g, rfl⟩ : ∃ m : Nat, g = m + 1 := ⟨g - 1, by omega⟩
    have : i = e := by omega
    subst this
    show dF_X1_make_12 n (df_X1_make_12 n g) (nI L) (nI p) (nI i) (s1, ((Q, U), s3)) = _
    unfold dF_X1_make_12
    rw [if_neg (znl heL (by omega)), if_pos (show sI (s1, ((Q, U), s3)).2.1.1 2 = 0 from hQ)]
    rw [show g + 1 - 0 - 1 = g by omega]
    by_cases z : i = L
    · rw [if_pos (congrArg nI z)]
    · rw [if_neg (zne z (by omega) (by omega)), nm_ck (by omega) (by omega), nI_clamp (by omega), if_pos (show sR (s1, ((Q, U), s3)).2.1.2 7 i = 10 from by rw [show sR (s1, ((Q, U), s3)).2.1.2 7 i = nI (c i) from ht i (by omega), hce]; rfl)]
  | succ j ih =>
    intro i g h1 h2 h3
    obtain ⟨g, rfl⟩ : ∃ m : Nat, g = m + 1 := ⟨g - 1, by omega⟩
    show dF_X1_make_12 n (df_X1_make_12 n g) (nI L) (nI p) (nI i) (s1, ((Q, U), s3)) = _
    unfold dF_X1_make_12 df_X1_make_84
    have := h127 i
    rw [if_neg (znl (show i ≤ L by omega) (by omega)), if_pos (show sI (s1, ((Q, U), s3)).2.1.1 2 = 0 from hQ), if_neg (zne (show ¬ i = L by omega) (by omega) (by omega)), nm_ck (by omega) (by omega), nI_clamp (by omega), if_neg (show ¬ sR (s1, ((Q, U), s3)).2.1.2 7 i = 10 from by rw [show sR (s1, ((Q, U), s3)).2.1.2 7 i = nI (c i) from ht i (by omega)]; exact zne (b := 10) (h3 i (Nat.le_refl _) (by omega)) (by omega) (by omega)), nb_let, show nI i + Int32.ofInt 1 = nI (i + 1) from nI_add i 1]
    rw [ih (i + 1) g (by omega) (by omega) (fun k k1 k2 => h3 k (by omega) k2), show g + 1 - (j + 1) - 1 = g - j - 1 by omega]
/-- the class begins a line -/
theorem stl_L {n L e p : Nat} {c : Nat → Nat} {B0 BR0 : St} {e0 nl : Nat} {NR LB : Nat → Int32} {cs tp st ns : Nat} {fx : Bool} {C A S NM BK : Nat → Int32} {ap kd fr : Nat} {nm : Int32} (hT : atx n L e c (bC B0 e nl NR LB) BR0) (hp : p ≤ e) (hl : ∀ i : Nat, p ≤ i → i < e → ¬ c i = 10) (Q : St) : ∃ (q p' κ τ v : Nat) (x : Int32), TS n L e c (bC B0 e nl NR LB) p q p' κ τ v x ∧ df_X1_readLine n (nI p) (nI e) (Q, uC (xC (bC B0 e0 nl NR LB) cs tp st ns fx C A S NM BK) ap kd fr nm) = df_X1_readLine_13 n n (nI (e - p)) (Q, uC (xC (bC B0 e nl NR LB) cs tp st ns fx C A S NM BK) p' κ q x) := by
  obtain ⟨hn, hL, heL, h127, hend, hce, hO, hst, htC, h0, htR, hch⟩ := id hT
  obtain ⟨q, p', κ, τ, v, x, n1, n2⟩ := nx_1 hT (cs := cs) (tp := tp) (st := st) (ns := ns) (fx := fx) (C := C) (A := A) (S := S) (NM := NM) (BK := BK) p kd fr nm hp hl
  refine ⟨q, p', κ, τ, v, x, n2, ?_⟩
  unfold df_X1_readLine df_X1_readLine_0 df_X9_startLine df_X9_startLine_0
  show nd_b1 (nd_let (pI (uC (xC (bC B0 e0 nl NR LB) cs tp st ns fx C A S NM BK) ap kd fr nm) 0 (nI p)) _) _ = _
  rw [uC_w0, nb_let, show sO (uC (xC (bC B0 e0 nl NR LB) cs tp st ns fx C A S NM BK) p kd fr nm) 0 = some 8 from hO, o8, if_neg (show ¬ (32768 : Int32) < nI e from znl (a := 32768) (by omega) (by omega)), bC_w1, nb_let, n1, nb_b1, nb_b1, nb_let, pk_sub hp, nb_let]

/-- every statement -/
theorem yAll : ∀ y : Fin 128, isPl y.1 ∨ y.1 = 44 ∨ y.1 = 32 ∨ shT (sgm y.1) = 34 ∨ (shT (sgm y.1) = 7 ∨ shT (sgm y.1) = 35 ∨ shT (sgm y.1) = 36 ∨ shT (sgm y.1) = 37) ∨ y.1 = 116 ∨ y.1 = 117 ∨ (y.1 = 118 ∨ y.1 = 119) ∨ y.1 = 120 ∨ (y.1 = 121 ∨ y.1 = 122 ∨ y.1 = 123) ∨ (y.1 = 124 ∨ y.1 = 125) ∨ y.1 = 126 ∨ y.1 = 127 := by unfold isPl; decide +kernel
theorem stj {n L e : Nat} {c : Nat → Nat} {BC B Bq : St} {sn lu ln se co cs ns : Nat} {od : Int32} {SW LW NM BK : Nat → Int32} {bs ws X : Nat → Nat} {nL cu : Nat} {PA BY OU : Nat → Int32} {q p1 y : Nat} (J : JH n L e c BC B sn lu ln se cs ns NM BK bs ws X nL cu PA BY q p1 y od) (tp st : Nat) (fx : Bool) (C A Sx : Nat → Int32) {q1 p' κ τ v : Nat} {x : Int32} (T : TS n L e c BC p1 q1 p' κ τ v x) {ct ap : Nat} {gr : Bool} {S : St} (h : SR B ct gr PA BY OU 0 ap S) (hnL : 2 * nL ≤ p1) : JF n e B (qC Bq sn lu 0 ln se od co SW LW) (uC (xC BC cs tp st ns fx C A Sx NM BK) p' κ q1 x) S ln q y ∨ JG n L e c BC B Bq (uC (xC BC cs tp st ns fx C A Sx NM BK) p' κ q1 x) S sn lu ln se co od SW LW cs ns C A NM bs ws X nL cu PA BY OU q p1 y ∨ JT n L e c BC B Bq (uC (xC BC cs tp st ns fx C A Sx NM BK) p' κ q1 x) S sn lu ln se co od SW LW cs ns C A NM BK X nL cu PA BY OU q p1 y ∨ JE n L e c BC B Bq (uC (xC BC cs tp st ns fx C A Sx NM BK) p' κ q1 x) S sn lu ln se co od SW LW cs ns C A NM bs ws X nL cu PA BY OU q p1 y := by
  have hy : y < 128 := J.2.2.2.2.2.2.2.2.2.2.2.2.2.2.1
  have f1 : ∀ {a b d f : Prop}, a ∨ b → a ∨ b ∨ d ∨ f := fun h => h.elim Or.inl (fun z => Or.inr (Or.inl z))
  rcases yAll ⟨y, hy⟩ with z | z | z | z | z | z | z | z | z | z | z | z | z
  · exact f1 (stj_P J z tp st fx C A Sx T h)
  · by_cases g : tkG c τ q1 p' < 32
    · exact f1 (stj_L J z tp st fx C A Sx T h g)
    · exact f1 (stj_H J 103 (Or.inl rfl) tp st fx C A Sx T h (Or.inr ⟨z, rfl, g⟩))
  · exact f1 (stj_R J z tp st fx C A Sx T h)
  · exact f1 (stj_H J y (hp_k.1 ⟨y, hy⟩ z) tp st fx C A Sx T h (Or.inl ⟨z, rfl⟩))
  · exact f1 (stj_B J z tp st fx C A Sx T h)
  · exact f1 (stj_A J z tp st fx C A Sx T h)
  · exact f1 (stj_N J z tp st fx C A Sx T h)
  · exact (stj_T J z tp st fx C A Sx T h).elim Or.inl (fun w => Or.inr (Or.inr (Or.inl w)))
  · exact (stj_E J z tp st fx C A Sx T h hnL).elim Or.inl (fun w => Or.inr (Or.inr (Or.inr w)))
  · exact f1 (stj_D J z tp st fx C A Sx T h)
  · exact f1 (stj_X J z tp st fx C A Sx T h)
  · exact f1 (stj_S J z tp st fx C A Sx T h)
  · exact f1 (stj_Q J z tp st fx C A Sx T h)
/-- codes that stay while tables grow -/
theorem CDS_k {NR : Nat → Int32} {c : Nat → Nat} {e ns ns' : Nat} {bs ws bs' ws' : Nat → Nat} {C A C' A' : Nat → Int32} {cs : Nat} (hk : ∀ i : Nat, i < cs → C' i = C i ∧ A' i = A i) (hn : ns ≤ ns') (hb : ∀ i : Nat, i < ns → bs' i = bs i ∧ ws' i = ws i) : ∀ {ys : List (Nat × (Nat → Tp))} {s0 s1 : Nat}, s1 ≤ cs → CDS NR c e ns bs ws C A s0 ys s1 → CDS NR c e ns' bs' ws' C' A' s0 ys s1
  | [], _, _, _, h => h
  | y :: ys, s0, s1, h1, h => by
    obtain ⟨a1, a2, a3, a4⟩ := h
    have l := CDS_l a4
    have h2 := CR_n hn hb a1
    refine ⟨⟨fun i hi => ⟨rfl, rfl⟩, fun i hi => ?_⟩, ?_, a3, CDS_k hk hn hb h1 a4⟩
    · rw [(hk (s0 + i) (by omega)).1, (hk (s0 + i) (by omega)).2]
      exact h2.2 i hi
    · rw [(hk (s0 + y.1) (by omega)).1]; exact a2
theorem DRW_k {NR : Nat → Int32} {c : Nat → Nat} {e ns ns' : Nat} {bs ws bs' ws' : Nat → Nat} {C A C' A' LW LW' : Nat → Int32} {cs lu s0 s1 u0 u1 : Nat} {le b cd lt : Int32} {fl : Nat} {bb : Int32} {D : Dt} (hk : ∀ i : Nat, i < cs → C' i = C i ∧ A' i = A i) (hn : ns ≤ ns') (hb : ∀ i : Nat, i < ns → bs' i = bs i ∧ ws' i = ws i) (hl : ∀ i : Nat, i < lu → LW' i = LW i) (h1 : s1 ≤ cs) (h2 : u1 ≤ lu) (h : DRW NR c e ns bs ws C A LW s0 s1 u0 u1 le b cd lt fl bb D) : DRW NR c e ns' bs' ws' C' A' LW' s0 s1 u0 u1 le b cd lt fl bb D := by
  have co : ∀ ys : List (Nat × (Nat → Tp)), CDo NR c e ns bs ws C A s0 ys s1 → CDo NR c e ns' bs' ws' C' A' s0 ys s1 := fun ys h => ⟨CDS_k hk hn hb h1 h.1, h.2⟩
  rcases h with h | h | h | h | h | h | h | h | h
  · obtain ⟨a1, a2, a3, a4, a5, a6, a7, a8⟩ := h
    exact Or.inl ⟨a1, a2, a3, a4, a5, a6, a7, fun z => ⟨(a8 z).1, co _ (a8 z).2.1, (a8 z).2.2⟩⟩
  · obtain ⟨a1, a2, a3, a4, a5, a6, a7, a8⟩ := h
    exact Or.inr (Or.inl ⟨a1, a2, a3, a4, a5, a6, co _ a7, a8⟩)
  · obtain ⟨a1, a2, a3, a4, a5, a6, a7⟩ := h
    exact Or.inr (Or.inr (Or.inl ⟨a1, a2, a3, a4, a5, co _ a6, a7⟩))
  · obtain ⟨a1, a2, a3, a4, a5, a6, a7, a8, a9⟩ := h
    exact Or.inr (Or.inr (Or.inr (Or.inl ⟨a1, a2, a3, a4, a5, a6, a7, co _ a8, a9⟩)))
  · exact Or.inr (Or.inr (Or.inr (Or.inr (Or.inl h))))
  · obtain ⟨a1, a2, a3, a4, a5, a6, a7, a8, a9, a10⟩ := h
    exact Or.inr (Or.inr (Or.inr (Or.inr (Or.inr (Or.inl ⟨a1, a2, a3, a4, a5, a6, a7, a8, co _ a9, a10⟩)))))
  · obtain ⟨a1, a2, a3, a4, a5, a6, a7, a8⟩ := h
    refine Or.inr (Or.inr (Or.inr (Or.inr (Or.inr (Or.inr (Or.inl ⟨a1, a2, a3, a4, a5, a6, a7, fun i hi => ?_⟩))))))
    rw [hl _ (by omega)]; exact a8 i hi
  · exact Or.inr (Or.inr (Or.inr (Or.inr (Or.inr (Or.inr (Or.inr (Or.inl h)))))))
  · exact Or.inr (Or.inr (Or.inr (Or.inr (Or.inr (Or.inr (Or.inr (Or.inr h)))))))
/-- how many statements of the class there are among the reference's -/
def mu (Ds : Nat → Dt) : Nat → Nat
  | 0 => 0
  | s + 1 => mu Ds s + (if (Ds s).1 = 9 then 0 else 1)
def nlC (c : Nat → Nat) : Nat → Nat
  | 0 => 0
  | p + 1 => nlC c p + (if c p = 10 then 1 else 0)
/-- what is kept of a statement -/
def STr (n L : Nat) (c X : Nat → Nat) (nL : Nat) (W SW LW C A : Nat → Int32) (ns : Nat) (bs ws : Nat → Nat) (cs lu i : Nat) (pa bb : Int32) (D : Dt) (q e se ln fl n0 : Nat) (NP : Nat → Int32) : Prop := pa = nI ((4 * se + fl) * 2 ^ 17 + q) ∧ se < 2 ∧ (fl = 0 ∨ fl = 8 ∨ fl = 16 ∨ fl = 25) ∧ q + 3 ≤ e ∧ e ≤ L ∧ c e = 10 ∧ (∀ i : Nat, q ≤ i → i < e → ¬ c i = 10) ∧ ln = nlC c q + 1 ∧ n0 ≤ nL ∧ (∀ k : Nat, k < n0 → X k % 131072 < q) ∧ (∀ k : Nat, n0 ≤ k → k < nL → q < X k % 131072) ∧ (∀ d : Nat, d ≤ 9 → NP (10 + d) = nI (lmF X (frF false (dgP c X d) n0))) ∧ (∃ (lw lv sz : Nat) (ba : Option Int32) (X0 : Nat → Nat) (W0 : Nat → Int32), (∀ BC : St, RFB n L e c BC q se lw lv sz ba X0 W0 n0 D) ∧ (∀ k : Nat, k < n0 → X0 k = X k ∧ (X k / 131072 = 2 → W0 k = W k)) ∧ (∀ v : Int32, ba = some v → bb = v) ∧ lw ≤ fl % 4 ∧ fl % 4 ≤ lv ∧ (D.1 = 1 → lv = 1) ∧ (D.1 = 2 → lv = 2)) ∧ ((D.1 = 9 ∧ D.2.2.2.2 = [] ∧ bb = 0 ∧ fl = 0) ∨ (D.1 ≤ 8 ∧ ∃ (le b cd lt : Int32) (s0 s1 u0 u1 : Nat), SW (i * 8) = nI ln ∧ SW (i * 8 + 1) = nI se ∧ SW (i * 8 + 3) = le ∧ SW (i * 8 + 4) = nI D.1 ∧ SW (i * 8 + 5) = b ∧ SW (i * 8 + 6) = cd ∧ SW (i * 8 + 7) = lt ∧ DRW NP c e ns bs ws C A LW s0 s1 u0 u1 le b cd lt fl bb D ∧ s1 ≤ cs ∧ u1 ≤ lu))
theorem lmF_c {X X' : Nat → Nat} {f n : Nat} (hf : f ≤ n) (h : ∀ k : Nat, k < n → X' k = X k) : lmF X' f = lmF X f := by
  unfold lmF
  by_cases z : f = 0
  · rw [if_pos z, if_pos z]
  · rw [if_neg z, if_neg z, lam_c (f - 1) (fun i hi => h i (by omega))]
theorem STr_k {n L : Nat} {c X X' : Nat → Nat} {nL nL' : Nat} {W W' SW SW' LW LW' C A C' A' : Nat → Int32} {ns ns' : Nat} {bs ws bs' ws' : Nat → Nat} {cs lu cs' lu' i : Nat} {pa bb : Int32} {D : Dt} {q e se ln fl n0 : Nat} {NP : Nat → Int32} (hX : ∀ k : Nat, k < nL → X' k = X k) (hnL : nL ≤ nL') (hXn : ∀ k : Nat, nL ≤ k → k < nL' → q < X' k % 131072) (hW : ∀ k : Nat, k < nL → W' k = W k) (hS : D.1 ≤ 8 → ∀ j : Nat, i * 8 ≤ j → j < i * 8 + 8 → SW' j = SW j) (hk : ∀ i : Nat, i < cs → C' i = C i ∧ A' i = A i) (hn : ns ≤ ns') (hb : ∀ i : Nat, i < ns → bs' i = bs i ∧ ws' i = ws i) (hl : ∀ i : Nat, i < lu → LW' i = LW i) (hcs : cs ≤ cs') (hlu : lu ≤ lu') (h : STr n L c X nL W SW LW C A ns bs ws cs lu i pa bb D q e se ln fl n0 NP) : STr n L c X' nL' W' SW' LW' C' A' ns' bs' ws' cs' lu' i pa bb D q e se ln fl n0 NP := by
  obtain ⟨a1, a2, a3, a4, a5, a6, a6', a7, a8, a9, a10, a11, ⟨lw, lv, sz, ba, X0, W0, b1, b2, b3, b4, b5, b6, b7⟩, a13⟩ := h
  refine ⟨a1, a2, a3, a4, a5, a6, a6', a7, by omega, fun k hk0 => by rw [hX k (by omega)]; exact a9 k hk0, fun k k1 k2 => ?_, fun d hd => ?_, ⟨lw, lv, sz, ba, X0, W0, b1, fun k hk0 => ?_, b3, b4, b5, b6, b7⟩, ?_⟩
  · by_cases z : k < nL
    · rw [hX k z]; exact a10 k k1 z
    · exact hXn k (by omega) k2
  · rw [fr_c n0 (Q := dgP c X d) (fun j hj => by unfold dgP; rw [hX j (by omega)]), lmF_c (fr_l _ _ _) (fun k hk0 => hX k (by omega))]
    exact a11 d hd
  · rw [hX k (by omega), hW k (by omega)]; exact b2 k hk0
  · rcases a13 with z | ⟨z, le, b, cd, lt, s0, s1, u0, u1, c1, c2, c3, c4, c5, c6, c7, c8, c9, c10⟩
    · exact Or.inl z
    · refine Or.inr ⟨z, le, b, cd, lt, s0, s1, u0, u1, ?_, ?_, ?_, ?_, ?_, ?_, ?_, DRW_k hk hn hb hl c9 c10 c8, by omega, by omega⟩
      · rw [hS z _ (by omega) (by omega)]; exact c1
      · rw [hS z _ (by omega) (by omega)]; exact c2
      · rw [hS z _ (by omega) (by omega)]; exact c3
      · rw [hS z _ (by omega) (by omega)]; exact c4
      · rw [hS z _ (by omega) (by omega)]; exact c5
      · rw [hS z _ (by omega) (by omega)]; exact c6
      · rw [hS z _ (by omega) (by omega)]; exact c7
/-- all of it, between two lines -/
def READ (n L : Nat) (c : Nat → Nat) (p : Nat) (B : St) (sn lu ln se co : Nat) (SW LW : Nat → Int32) (cs ns : Nat) (C A NM BK : Nat → Int32) (bs ws : Nat → Nat) (nl : Nat) (NR LB : Nat → Int32) (sc X : Nat → Nat) (nL nS : Nat) (PA BY : Nat → Int32) (Ds : Nat → Dt) (Qs Es Zs Ls Fs N0 : Nat → Nat) (NP : Nat → Nat → Int32) : Prop := TBJ L c X nL (sR B 7) ns NM BK bs ws nl NR LB sc p ∧ sI B 2 = nI nS ∧ sI B 3 = nI nL ∧ (∀ k : Nat, k < nL → sR B 6 k = nI (X k)) ∧ sI B 13 = nI (ln + 1) ∧ sI B 14 = nI se ∧ se < 2 ∧ cstS B ∧ ln = nlC c p ∧ cs ≤ p ∧ lu ≤ p ∧ 4 * nS ≤ p ∧ sn = mu Ds nS ∧ co + lam X nL = nL ∧ (∀ s : Nat, s < nS → STr n L c X nL (sR B 7) SW LW C A ns bs ws cs lu (mu Ds s) (PA s) (BY s) (Ds s) (Qs s) (Es s) (Zs s) (Ls s) (Fs s) (N0 s) (NP s) ∧ Qs s < p ∧ ∀ t : Nat, t < s → Qs t < Qs s) ∧ (∀ s t : Nat, s ≤ t → t < nS → N0 s ≤ N0 t) ∧ (∀ k k' : Nat, k < k' → k' < nL → sc k ≤ sc k') ∧ (∀ k : Nat, k < nL → sc k ≤ sn) ∧ (∀ k s : Nat, k < nL → s < nS → (k < N0 s → sc k ≤ mu Ds s) ∧ (N0 s ≤ k → mu Ds (s + 1) ≤ sc k))
/-- both states, between two lines -/
def RDst (n L : Nat) (c : Nat → Nat) (p : Nat) (Q U S : St) : Prop := ∃ (B Bq B0 : St) (sn lu ln se co : Nat) (od : Int32) (SW LW : Nat → Int32) (cs ns : Nat) (C A NM BK : Nat → Int32) (bs ws : Nat → Nat) (nl : Nat) (NR LB : Nat → Int32) (sc X : Nat → Nat) (nL nS : Nat) (PA BY OU : Nat → Int32) (Ds : Nat → Dt) (Qs Es Zs Ls Fs N0 : Nat → Nat) (NP : Nat → Nat → Int32) (e0 tp st : Nat) (fx : Bool) (Sx : Nat → Int32) (ap kd fr : Nat) (nm : Int32) (ct : Nat) (gr : Bool), READ n L c p B sn lu ln se co SW LW cs ns C A NM BK bs ws nl NR LB sc X nL nS PA BY Ds Qs Es Zs Ls Fs N0 NP ∧ Q = qC Bq sn lu 0 ln se od co SW LW ∧ U = uC (xC (bC B0 e0 nl NR LB) cs tp st ns fx C A Sx NM BK) ap kd fr nm ∧ SR B ct gr PA BY OU 0 p S ∧ sO B0 0 = some 8 ∧ (∀ i : Nat, i < L → sR B0 7 i = nI (c i)) ∧ sI B 0 = nI L ∧ (∀ i : Nat, i < L → sR B 2 i = nI (c i))

/-- a row with one thing more -/
def nwA {α : Type} (f : Nat → α) (n : Nat) (v : α) : Nat → α := fun i => if i = n then v else f i
theorem na_y {α : Type} {f : Nat → α} {n : Nat} {v : α} : nwA f n v n = v := if_pos rfl
theorem na_n {α : Type} {f : Nat → α} {n i : Nat} {v : α} (h : i < n) : nwA f n v i = f i := if_neg (by omega)
theorem mu_c {Ds Dt' : Nat → Dt} : ∀ s : Nat, (∀ i : Nat, i < s → Dt' i = Ds i) → mu Dt' s = mu Ds s := fun s => by
  induction s with
  | zero => intro _; rfl
  | succ s ih =>
    intro h
    show mu Dt' s + (if (Dt' s).1 = 9 then 0 else 1) = mu Ds s + (if (Ds s).1 = 9 then 0 else 1)
    rw [ih (fun i hi => h i (by omega)), h s (by omega)]
theorem mu_m (Ds : Nat → Dt) : ∀ j s : Nat, mu Ds s ≤ mu Ds (s + j) := fun j => by
  induction j with
  | zero => intro s; exact Nat.le_refl _
  | succ j ih =>
    intro s
    have := ih s
    show mu Ds s ≤ mu Ds (s + j) + (if (Ds (s + j)).1 = 9 then 0 else 1)
    split <;> omega
theorem mu_l (Ds : Nat → Dt) : ∀ s : Nat, mu Ds s ≤ s := fun s => by
  induction s with
  | zero => exact Nat.le_refl 0
  | succ s ih =>
    show mu Ds s + (if (Ds s).1 = 9 then 0 else 1) ≤ s + 1
    split <;> omega
theorem mu_i {Ds : Nat → Dt} {s t : Nat} (h : s < t) (h9 : ¬ (Ds s).1 = 9) : mu Ds s + 1 ≤ mu Ds t := by
  have := mu_m Ds (t - (s + 1)) (s + 1)
  rw [show s + 1 + (t - (s + 1)) = t by omega] at this
  have e : mu Ds (s + 1) = mu Ds s + 1 := by
    show mu Ds s + (if (Ds s).1 = 9 then 0 else 1) = _
    rw [if_neg h9]
  omega
theorem mu_s {Ds : Nat → Dt} {s : Nat} : mu Ds (s + 1) = mu Ds s + (if (Ds s).1 = 9 then 0 else 1) := rfl
theorem nlC_a {c : Nat → Nat} : ∀ j p : Nat, (∀ i : Nat, p ≤ i → i < p + j → ¬ c i = 10) → nlC c (p + j) = nlC c p := fun j => by
  induction j with
  | zero => intro p _; rfl
  | succ j ih =>
    intro p h
    show nlC c (p + j) + (if c (p + j) = 10 then 1 else 0) = nlC c p
    rw [if_neg (h (p + j) (by omega) (by omega)), ih p (fun i i1 i2 => h i i1 (by omega))]
    rfl
theorem nlC_l (c : Nat → Nat) : ∀ p : Nat, nlC c p ≤ p := fun p => by
  induction p with
  | zero => exact Nat.le_refl 0
  | succ p ih =>
    show nlC c p + (if c p = 10 then 1 else 0) ≤ p + 1
    split <;> omega
/-- READ over a line without a statement -/
theorem READ_n {n L : Nat} {c : Nat → Nat} {p : Nat} {B : St} {sn lu ln se co : Nat} {SW LW : Nat → Int32} {cs ns : Nat} {C A NM BK : Nat → Int32} {bs ws : Nat → Nat} {nl : Nat} {NR LB : Nat → Int32} {sc X : Nat → Nat} {nL nS : Nat} {PA BY : Nat → Int32} {Ds : Nat → Dt} {Qs Es Zs Ls Fs N0 : Nat → Nat} {NP : Nat → Nat → Int32} (h : READ n L c p B sn lu ln se co SW LW cs ns C A NM BK bs ws nl NR LB sc X nL nS PA BY Ds Qs Es Zs Ls Fs N0 NP) {X' : Nat → Nat} {nL' : Nat} {B' : St} {ns' : Nat} {NM' BK' : Nat → Int32} {bs' ws' : Nat → Nat} {nl' : Nat} {NR' LB' : Nat → Int32} {sc' : Nat → Nat} (hg : GRW X nL (sR B 7) ns bs ws sc p sn X' nL' (sR B' 7) ns' bs' ws' sc') {p' se' : Nat} (hJ : TBJ L c X' nL' (sR B' 7) ns' NM' BK' bs' ws' nl' NR' LB' sc' p') (hp : p ≤ p') (h2 : sI B' 2 = nI nS) (h3 : sI B' 3 = nI nL') (h6 : ∀ k : Nat, k < nL' → sR B' 6 k = nI (X' k)) (h13 : sI B' 13 = nI (ln + 1 + 1)) (h14 : sI B' 14 = nI se') (hse : se' < 2) (hc : cstS B') (hln : ln + 1 = nlC c p') : READ n L c p' B' sn lu (ln + 1) se' co SW LW cs ns' C A NM' BK' bs' ws' nl' NR' LB' sc' X' nL' nS PA BY Ds Qs Es Zs Ls Fs N0 NP := by
  obtain ⟨a1, a2, a3, a4, a5, a6, a7, a8, a9, a10, a11, a12, a13, a14, a15, a16, a17, a18, a19⟩ := h
  obtain ⟨g1, g2, g3, g4, g5⟩ := hg
  have hlam : co + lam X' nL' = nL' := by
    have e : ∀ j : Nat, nL + j ≤ nL' → lam X' (nL + j) = lam X nL + j := fun j => by
      induction j with
      | zero => intro _; exact lam_c nL (fun i hi => (g2 i hi).1)
      | succ j ih =>
        intro hj
        show lam X' (nL + j) + (if X' (nL + j) / 131072 = 2 then 0 else 1) = lam X nL + (j + 1)
        rw [if_neg (g3 (nL + j) (by omega) (by omega)).2.2, ih (by omega)]
        omega
    have := e (nL' - nL) (by omega)
    rw [show nL + (nL' - nL) = nL' by omega] at this
    omega
  refine ⟨hJ, h2, h3, h6, h13, h14, hse, hc, hln, by omega, by omega, by omega, a13, hlam, fun s hs => ?_, a16, fun k k' hk hk' => ?_, fun k hk => ?_, fun k s hk hs => ?_⟩
  · obtain ⟨b1, b2, b3⟩ := a15 s hs
    exact ⟨STr_k (fun k hk => (g2 k hk).1) g1 (fun k k1 k2 => by have := (g3 k k1 k2).2.1; omega) (fun k hk => (g2 k hk).2.1) (fun _ _ _ _ => rfl) (fun _ _ => ⟨rfl, rfl⟩) g4 g5 (fun _ _ => rfl) (Nat.le_refl _) (Nat.le_refl _) b1, by omega, b3⟩
  · by_cases z : k' < nL
    · rw [(g2 k (by omega)).2.2, (g2 k' z).2.2]; exact a17 k k' hk z
    · rw [(g3 k' (by omega) hk').1]
      by_cases y : k < nL
      · rw [(g2 k y).2.2]; exact a18 k y
      · rw [(g3 k (by omega) (by omega)).1]; exact Nat.le_refl _
  · by_cases y : k < nL
    · rw [(g2 k y).2.2]; exact a18 k y
    · rw [(g3 k (by omega) hk).1]; exact Nat.le_refl _
  · by_cases y : k < nL
    · rw [(g2 k y).2.2]; exact a19 k s y hs
    · rw [(g3 k (by omega) hk).1]
      have hN := (a15 s hs).1.2.2.2.2.2.2.2.2.1
      refine ⟨fun w => absurd w (by omega), fun _ => ?_⟩
      rw [a13]
      have := mu_m Ds (nS - (s + 1)) (s + 1)
      rw [show s + 1 + (nS - (s + 1)) = nS by omega] at this
      exact this
/-- READ with a statement more -/
theorem READ_a {n L : Nat} {c : Nat → Nat} {p : Nat} {B : St} {sn lu ln se co : Nat} {SW LW : Nat → Int32} {cs ns : Nat} {C A NM BK : Nat → Int32} {bs ws : Nat → Nat} {nl : Nat} {NR LB : Nat → Int32} {sc X : Nat → Nat} {nL nS : Nat} {PA BY : Nat → Int32} {Ds : Nat → Dt} {Qs Es Zs Ls Fs N0 : Nat → Nat} {NP : Nat → Nat → Int32} (h : READ n L c p B sn lu ln se co SW LW cs ns C A NM BK bs ws nl NR LB sc X nL nS PA BY Ds Qs Es Zs Ls Fs N0 NP) {X' : Nat → Nat} {nL' : Nat} {B' : St} {ns' : Nat} {NM' BK' : Nat → Int32} {bs' ws' : Nat → Nat} {nl' : Nat} {NR' LB' : Nat → Int32} {sc' : Nat → Nat} {SW' LW' C' A' : Nat → Int32} {cs' lu' co' : Nat} {PA' BY' : Nat → Int32} {D : Dt} {q e fl n0 : Nat} {NP0 : Nat → Int32} {p' : Nat} (hJ : TBJ L c X' nL' (sR B' 7) ns' NM' BK' bs' ws' nl' NR' LB' sc' p') (hX : ∀ k : Nat, k < nL → X' k = X k ∧ sR B' 7 k = sR B 7 k ∧ sc' k = sc k) (hnL : nL ≤ nL') (hXn : ∀ k : Nat, nL ≤ k → k < nL' → sc' k = sn ∧ p ≤ X' k % 131072) (hns : ns ≤ ns') (hb : ∀ i : Nat, i < ns → bs' i = bs i ∧ ws' i = ws i) (hS : ∀ j : Nat, j < sn * 8 → SW' j = SW j) (hk : ∀ i : Nat, i < cs → C' i = C i ∧ A' i = A i) (hl : ∀ i : Nat, i < lu → LW' i = LW i) (hcs : cs ≤ cs') (hlu : lu ≤ lu') (hcp : cs' ≤ p') (hlp : lu' ≤ p') (hp : p ≤ q) (hq : q + 4 ≤ p') (hPA : ∀ s : Nat, s < nS → PA' s = PA s ∧ BY' s = BY s) (hco : co' + lam X' nL' = nL') (h2 : sI B' 2 = nI (nS + 1)) (h3 : sI B' 3 = nI nL') (h6 : ∀ k : Nat, k < nL' → sR B' 6 k = nI (X' k)) (h13 : sI B' 13 = nI (ln + 1 + 1)) (h14 : sI B' 14 = nI se) (hc : cstS B') (hln : ln + 1 = nlC c p') (hn0 : nL ≤ n0) (hn0' : n0 ≤ nL') (hsame : ∀ k : Nat, n0 ≤ k → k < nL' → sn + (if D.1 = 9 then 0 else 1) = sn) (h0q : ∀ k : Nat, k < n0 → X' k % 131072 < q) (hst : STr n L c X' nL' (sR B' 7) SW' LW' C' A' ns' bs' ws' cs' lu' sn (PA' nS) (BY' nS) D q e se (ln + 1) fl n0 NP0) : READ n L c p' B' (sn + (if D.1 = 9 then 0 else 1)) lu' (ln + 1) se co' SW' LW' cs' ns' C' A' NM' BK' bs' ws' nl' NR' LB' sc' X' nL' (nS + 1) PA' BY' (nwA Ds nS D) (nwA Qs nS q) (nwA Es nS e) (nwA Zs nS se) (nwA Ls nS (ln + 1)) (nwA Fs nS fl) (nwA N0 nS n0) (nwA NP nS NP0) := by
  obtain ⟨a1, a2, a3, a4, a5, a6, a7, a8, a9, a10, a11, a12, a13, a14, a15, a16, a17, a18, a19⟩ := h
  have hmu : ∀ s : Nat, s ≤ nS → mu (nwA Ds nS D) s = mu Ds s := fun s hs => mu_c s (fun i hi => na_n (by omega))
  have hN : ∀ s : Nat, s < nS → N0 s ≤ nL := fun s hs => (a15 s hs).1.2.2.2.2.2.2.2.2.1
  refine ⟨hJ, h2, h3, h6, h13, h14, a7, hc, hln, hcp, hlp, by omega, ?_, hco, fun s hs => ?_, fun s t hst2 ht => ?_, fun k k' hk1 hk' => ?_, fun k hk1 => ?_, fun k s hk1 hs => ?_⟩
  · rw [mu_s, hmu nS (Nat.le_refl _), na_y, a13]
  · by_cases z : s = nS
    · subst z
      rw [hmu s (Nat.le_refl _), na_y, na_y, na_y, na_y, na_y, na_y, na_y, na_y, ← a13]
      exact ⟨hst, by omega, fun t ht => by rw [na_n ht]; have := (a15 t ht).2.1; omega⟩
    · have zl : s < nS := by omega
      obtain ⟨b1, b2, b3⟩ := a15 s zl
      rw [hmu s (by omega), na_n zl, na_n zl, na_n zl, na_n zl, na_n zl, na_n zl, na_n zl, na_n zl, (hPA s zl).1, (hPA s zl).2]
      refine ⟨STr_k (fun k hk1 => (hX k hk1).1) hnL (fun k k1 k2 => by have := (hXn k k1 k2).2; omega) (fun k hk1 => (hX k hk1).2.1) (fun h8 j j1 j2 => hS j ?_) hk hns hb hl hcs hlu b1, by omega, fun t ht => by rw [na_n (show t < nS by omega)]; exact b3 t ht⟩
      have := mu_i (Ds := Ds) zl (by omega)
      omega
  · by_cases z : t = nS
    · subst z
      rw [na_y]
      by_cases y : s = t
      · rw [y, na_y]; exact Nat.le_refl _
      · rw [na_n (by omega)]
        have := hN s (by omega)
        omega
    · rw [na_n (by omega), na_n (by omega)]
      exact a16 s t hst2 (by omega)
  · by_cases z : k' < nL
    · rw [(hX k (by omega)).2.2, (hX k' z).2.2]; exact a17 k k' hk1 z
    · rw [(hXn k' (by omega) hk').1]
      by_cases y : k < nL
      · rw [(hX k y).2.2]; exact a18 k y
      · rw [(hXn k (by omega) (by omega)).1]; exact Nat.le_refl _
  · by_cases y : k < nL
    · rw [(hX k y).2.2]
      have := a18 k y
      omega
    · rw [(hXn k (by omega) hk1).1]; omega
  · have hsck : sc' k ≤ sn := by
      by_cases y : k < nL
      · rw [(hX k y).2.2]; exact a18 k y
      · rw [(hXn k (by omega) hk1).1]; exact Nat.le_refl _
    by_cases z : s = nS
    · subst z
      rw [na_y, hmu s (Nat.le_refl _), mu_s, hmu s (Nat.le_refl _), na_y, ← a13]
      refine ⟨fun _ => hsck, fun hk0 => ?_⟩
      rw [(hXn k (by omega) hk1).1]
      exact Nat.le_of_eq (hsame k hk0 hk1)
    · have zl : s < nS := by omega
      rw [na_n zl, hmu s (by omega), hmu (s + 1) (by omega)]
      by_cases y : k < nL
      · rw [(hX k y).2.2]; exact a19 k s y zl
      · rw [(hXn k (by omega) hk1).1]
        have := hN s zl
        refine ⟨fun w => absurd w (by omega), fun _ => ?_⟩
        rw [a13]
        have := mu_m Ds (nS - (s + 1)) (s + 1)
        rw [show s + 1 + (nS - (s + 1)) = nS by omega] at this
        exact this

theorem SR_p2 {B : St} {ct : Nat} {gr : Bool} {PA BY OU : Nat → Int32} {ft : Int32} {ap : Nat} {S : St} (h : SR B ct gr PA BY OU ft ap S) (v : Int32) : SR (pI B 2 v) ct gr PA BY OU ft ap (pI S 2 v) := by
  obtain ⟨ms, dv, ls, sg, vl, PL, tk, fr, to, nm, rfl⟩ := h
  refine ⟨ms, dv, ls, sg, vl, PL, tk, fr, to, nm, Prod.ext (funext fun j => ?_) rfl⟩
  show (if j = 2 then v else _) = _
  by_cases h : j = 2
  · subst h; rfl
  · unfold uR xR yR pI
    simp only [if_neg h]
theorem SR_p13 {B : St} {ct : Nat} {gr : Bool} {PA BY OU : Nat → Int32} {ft : Int32} {ap : Nat} {S : St} (h : SR B ct gr PA BY OU ft ap S) (v : Int32) : SR (pI B 13 v) ct gr PA BY OU ft ap (pI S 13 v) := by
  obtain ⟨ms, dv, ls, sg, vl, PL, tk, fr, to, nm, rfl⟩ := h
  refine ⟨ms, dv, ls, sg, vl, PL, tk, fr, to, nm, Prod.ext (funext fun j => ?_) rfl⟩
  show (if j = 13 then v else _) = _
  by_cases h : j = 13
  · subst h; rfl
  · unfold uR xR yR pI
    simp only [if_neg h]
theorem SR_p16 {B : St} {ct : Nat} {gr : Bool} {PA BY OU : Nat → Int32} {ft : Int32} {ap : Nat} {S : St} (h : SR B ct gr PA BY OU ft ap S) (v : Int32) : SR (pI B 16 v) ct gr PA BY OU ft ap (pI S 16 v) := by
  obtain ⟨ms, dv, ls, sg, vl, PL, tk, fr, to, nm, rfl⟩ := h
  refine ⟨ms, dv, ls, sg, vl, PL, tk, fr, to, nm, Prod.ext (funext fun j => ?_) rfl⟩
  show (if j = 16 then v else _) = _
  by_cases h : j = 16
  · subst h; rfl
  · unfold uR xR yR pI
    simp only [if_neg h]
/-- the class: one line -/
theorem mk_40 {n L e p : Nat} {Bq : St} {sn lu ln se co : Nat} {od : Int32} {SW LW : Nat → Int32} {U s1 s3 : St} (G : Int32 → Int32 → Int32 → (St × (St × St) × St) → Option (Int32 × (St × (St × St) × St))) : df_X1_make_40 n G (nI L) (nI p) (nI e) (s1, ((qC Bq sn lu 0 ln se od co SW LW, U), s3)) = nd_b2 (df_X1_readLine n (nI p) (nI e) (qC Bq sn lu 0 (ln + 1) se od co SW LW, U)) (fun (q23 : Option Nat) (s24 : St × St) => nd_m q23 (G (nI L) (nI (e + 1)) (nI (e + 1)) (s1, (s24, s3))) (fun (j27 : Nat) => if (sI s24.1 2 : Int32) = 0 then nd_b1 (df_X1_readStatement n j27 s24) (fun (s33 : St × St) => G (nI L) (nI (e + 1)) (nI (e + 1)) (s1, (s33, s3))) else G (nI L) (nI (e + 1)) (nI (e + 1)) (s1, (s24, s3)))) := by
  unfold df_X1_make_40 df_X1_make_78 df_X1_make_84
  rw [nb_let]
  show nd_b2 (df_X1_readLine n (nI p) (nI e) (pI (qC Bq sn lu 0 ln se od co SW LW) 3 (nI ln + 1), U)) _ = _
  rw [show nI ln + 1 = nI (ln + 1) from nI_add ln 1, qC_w3]
  apply congrArg (nd_b2 (df_X1_readLine n (nI p) (nI e) (qC Bq sn lu 0 (ln + 1) se od co SW LW, U)))
  funext q23 s24
  rw [nb_let]
  rw [show nI e + 1 = nI (e + 1) from nI_add e 1, show nI e + Int32.ofInt 1 = nI (e + 1) from nI_add e 1]
  cases q23 with
  | none =>
    rw [nb_mN, nb_mN]
    split <;> (rw [nb_let, nb_let])
  | some j =>
    rw [nb_mS, nb_mS]
    split
    · apply congrArg (nd_b1 (df_X1_readStatement n j s24))
      funext s33
      rw [nb_let, nb_let, nb_let]
    · rw [nb_let, nb_let]
/-- the reference: one line -/
theorem rd_25 {n L p : Nat} {S : St} (G : St → Option St) (h12 : sI S 12 = 0) (h0 : sI S 0 = nI L) (h7 : sI S 7 = nI p) (hp : p < L) (hL : L ≤ 32768) : dF_X13_readAll_25 n G S = nd_b2 (df_X13_labelled n S) (fun (q8 : Int32) (s9 : St) => if q8 = 0 then (df_X13_readAll_152 n G n s9) else (nd_let ((pI s9 16 (sI s9 2))) (fun (s19 : St) => nd_let ((sI s19 7)) (fun (z20 : Int32) => nd_ck ((sI s19 16)) 11000 (nd_let ((pR s19 3 (upd (sR s19 3) (Int32.toNatClampNeg (sI s19 16)) ((z20 ||| (((sI s19 14) : Int32) <<< ((19 : Int32) &&& 31))))))) (fun (s22 : St) => nd_ck ((sI s22 16)) 11000 (nd_let ((pR s22 5 (upd (sR s22 5) (Int32.toNatClampNeg (sI s22 16)) (0)))) (fun (s24 : St) => nd_let ((sI s24 14)) (fun (z25 : Int32) => nd_b1 (df_X13_statement n (z20) (0) s24) (fun (s27 : St) => if z25 = (sI s27 14) then (df_X13_readAll_118 n G ((sI s27 16)) s27) else (df_X13_readAll_118 n G ((-1)) s27))))))))))) := by
  unfold dF_X13_readAll_25
  rw [if_pos h12, h0, h7, if_neg (znle hp (by omega))]
/-- with a fault: on to the next line, whatever it is -/
theorem rd_F {n L e : Nat} {c : Nat → Nat} {B S : St} {ft : Int32} (G : St → Option St) (hn : 70000 < n) (hL : L ≤ 32768) (heL : e ≤ L) (hend : ∀ i : Nat, L ≤ i → c i = 10) (h127 : ∀ i : Nat, c i < 127) (h0 : sI B 0 = nI L) (ht : ∀ i : Nat, i < L → sR B 2 i = nI (c i)) (h : FL e B ft S) : ∃ S' : St, df_X13_readAll_152 n G n S = G S' ∧ sI S' 12 = ft := by
  obtain ⟨ct, gr, PA, BY, OU, ap, hap, h⟩ := h
  obtain ⟨l1, l2, l3, l4⟩ := lnE_1 (c := c) (L := L) (p := ap) (by omega) hend
  have h7 := SR_7 h
  have e7 : pI S 7 (nI ap) = S := by
    have := pI_s S 7
    rw [h7] at this
    exact this
  refine ⟨_, (show df_X13_readAll_152 n G n S = df_X13_readAll_152 n G n (pI S 7 (nI ap)) by rw [e7]).trans (rd_152 G hL l2 ((SR_0 h).trans h0) (fun i hi => by rw [SR_r2 h]; exact ht i hi) hend l3 h127 (lnE c L ap - ap) ap n (by omega) (by omega) l4), ?_⟩
  show sI S 12 = ft
  exact SR_12 h
theorem rd_118F {n L e nS : Nat} {c : Nat → Nat} {B S : St} {ft : Int32} (G : St → Option St) (hn : 70000 < n) (hL : L ≤ 32768) (heL : e ≤ L) (hend : ∀ i : Nat, L ≤ i → c i = 10) (h127 : ∀ i : Nat, c i < 127) (h0 : sI B 0 = nI L) (ht : ∀ i : Nat, i < L → sR B 2 i = nI (c i)) (h16 : sI B 16 = nI nS) (hnS : nS < 11000) (h : FG e B ft S) (z : Int32) : ∃ S' : St, (if z = sI S 14 then df_X13_readAll_118 n G (sI S 16) S else df_X13_readAll_118 n G (-1) S) = G S' ∧ sI S' 12 = ft := by
  obtain ⟨B9, hF, i1, i2, i3, i4⟩ := h
  have h0' : sI B9 0 = nI L := i1.trans h0
  have ht' : ∀ i : Nat, i < L → sR B9 2 i = nI (c i) := fun i hi => by rw [i4]; exact ht i hi
  by_cases y : z = sI S 14
  · rw [if_pos y]
    obtain ⟨ct, gr, PA, BY, OU, ap, hap, hS⟩ := id hF
    have s16 : sI S 16 = nI nS := (SR_16 hS).trans (i3.trans h16)
    unfold df_X13_readAll_118
    rw [s16, if_neg (show ¬ nI nS < (0 : Int32) from znl (b := 0) (Nat.zero_le _) (by omega)), nb_let, nm_ck hnS (by omega)]
    have hF2 : FL e (pI B9 2 (sI S 2 + 1)) ft (pI S 2 (sI S 2 + 1)) := ⟨ct, gr, PA, BY, OU, ap, hap, SR_p2 hS _⟩
    by_cases u : sR (pI S 2 (sI S 2 + 1)) 5 (nI nS).toNatClampNeg = 0
    · rw [if_pos u, nm_ck hnS (by omega), nb_let]
      exact rd_F (B := pI B9 2 (sI S 2 + 1)) G hn hL heL hend h127 h0' ht' ⟨ct, gr, PA, _, OU, ap, hap, SR_w5 (SR_p2 hS (sI S 2 + 1)) _⟩
    · rw [if_neg u]
      exact rd_F (B := pI B9 2 (sI S 2 + 1)) G hn hL heL hend h127 h0' ht' hF2
  · rw [if_neg y]
    unfold df_X13_readAll_118
    rw [if_pos (show (-1 : Int32) < 0 by decide)]
    exact rd_F G hn hL heL hend h127 h0' ht' hF
/-- without a fault: to the next line -/
theorem rd_G {n L e : Nat} {c : Nat → Nat} {B S : St} {ct : Nat} {gr : Bool} {PA BY OU : Nat → Int32} {ap l : Nat} (G : St → Option St) (hn : 70000 < n) (hL : L ≤ 32768) (heL : e ≤ L) (hend : ∀ i : Nat, L ≤ i → c i = 10) (h127 : ∀ i : Nat, c i < 127) (hce : c e = 10) (h0 : sI B 0 = nI L) (ht : ∀ i : Nat, i < L → sR B 2 i = nI (c i)) (h13 : sI B 13 = nI l) (h : SR B ct gr PA BY OU 0 ap S) (hap : ap ≤ e) (hl : ∀ i : Nat, ap ≤ i → i < e → ¬ c i = 10) : ∃ S' : St, df_X13_readAll_152 n G n S = G S' ∧ SR (pI B 13 (nI (l + 1))) ct gr PA BY OU 0 (e + 1) S' := by
  have h7 := SR_7 h
  have e7 : pI S 7 (nI ap) = S := by
    have := pI_s S 7
    rw [h7] at this
    exact this
  refine ⟨_, (show df_X13_readAll_152 n G n S = df_X13_readAll_152 n G n (pI S 7 (nI ap)) by rw [e7]).trans (rd_152 G hL heL ((SR_0 h).trans h0) (fun i hi => by rw [SR_r2 h]; exact ht i hi) hend hce h127 (e - ap) ap n (by omega) (by omega) hl), ?_⟩
  rw [SR_13 h, h13, show nI l + 1 = nI (l + 1) from nI_add l 1]
  exact SR_p13 (SR_w7 h (e + 1)) (nI (l + 1))
/-- a statement is counted -/
theorem rd_118 {n L e nS : Nat} {c : Nat → Nat} {B S : St} {ct : Nat} {gr : Bool} {PA BY OU : Nat → Int32} {ap l : Nat} (G : St → Option St) (hn : 70000 < n) (hL : L ≤ 32768) (heL : e ≤ L) (hend : ∀ i : Nat, L ≤ i → c i = 10) (h127 : ∀ i : Nat, c i < 127) (hce : c e = 10) (h0 : sI B 0 = nI L) (ht : ∀ i : Nat, i < L → sR B 2 i = nI (c i)) (h13 : sI B 13 = nI l) (h16 : sI B 16 = nI nS) (h2 : sI B 2 = nI nS) (hnS : nS < 11000) (h : SR B ct gr PA BY OU 0 ap S) (hap : ap ≤ e) (hl : ∀ i : Nat, ap ≤ i → i < e → ¬ c i = 10) (z : Int32) (hz : z = sI B 14) : ∃ S' : St, (if z = sI S 14 then df_X13_readAll_118 n G (sI S 16) S else df_X13_readAll_118 n G (-1) S) = G S' ∧ SR (pI (pI B 2 (nI (nS + 1))) 13 (nI (l + 1))) ct gr PA (upd BY nS (if BY nS = 0 then nI ct else BY nS)) OU 0 (e + 1) S' := by
  rw [if_pos (hz.trans (SR_14 h).symm)]
  unfold df_X13_readAll_118
  rw [SR_16 h, h16, if_neg (show ¬ nI nS < (0 : Int32) from znl (b := 0) (Nat.zero_le _) (by omega)), SR_2 h, h2, show nI nS + 1 = nI (nS + 1) from nI_add nS 1, nb_let, nm_ck hnS (by omega), nI_clamp (by omega)]
  have h' := SR_p2 h (nI (nS + 1))
  rw [SR_r5 h', SR_18 h']
  by_cases u : BY nS = 0
  · rw [if_pos u, if_pos u, nm_ck hnS (by omega), nb_let]
    exact rd_G (B := pI B 2 (nI (nS + 1))) G hn hL heL hend h127 hce h0 ht h13 (SR_w5 h' _) hap hl
  · rw [if_neg u, if_neg u, upd_s rfl]
    exact rd_G (B := pI B 2 (nI (nS + 1))) G hn hL heL hend h127 hce h0 ht h13 h' hap hl

theorem lam_g {X : Nat → Nat} {nL : Nat} {W : Nat → Int32} {ns : Nat} {bs ws sc : Nat → Nat} {p sn : Nat} {X' : Nat → Nat} {nL' : Nat} {W' : Nat → Int32} {ns' : Nat} {bs' ws' sc' : Nat → Nat} (g : GRW X nL W ns bs ws sc p sn X' nL' W' ns' bs' ws' sc') : ∀ j : Nat, nL + j ≤ nL' → lam X' (nL + j) = lam X nL + j := fun j => by
  induction j with
  | zero => intro _; exact lam_c nL (fun i hi => (g.2.1 i hi).1)
  | succ j ih =>
    intro hj
    show lam X' (nL + j) + (if X' (nL + j) / 131072 = 2 then 0 else 1) = lam X nL + (j + 1)
    rw [if_neg (g.2.2.1 (nL + j) (by omega) (by omega)).2.2, ih (by omega)]
    omega
theorem lam_h {X : Nat → Nat} {nL : Nat} {W : Nat → Int32} {ns : Nat} {bs ws sc : Nat → Nat} {p sn co : Nat} {X' : Nat → Nat} {nL' : Nat} {W' : Nat → Int32} {ns' : Nat} {bs' ws' sc' : Nat → Nat} (g : GRW X nL W ns bs ws sc p sn X' nL' W' ns' bs' ws' sc') (h : co + lam X nL = nL) : co + lam X' nL' = nL' := by
  have g1 := g.1
  have := lam_g g (nL' - nL) (by omega)
  rw [show nL + (nL' - nL) = nL' by omega] at this
  omega
theorem pI_b {B0 : St} {e nl : Nat} {NR LB : Nat → Int32} {tr : Int32} : pI (bC B0 e nl NR LB) 11 tr = bC (pI B0 11 tr) e nl NR LB := Prod.ext (funext fun j => by
  show (if j = 11 then tr else _) = _
  by_cases h : j = 11
  · subst h; rfl
  · unfold bC pI
    simp only [if_neg h]) rfl
theorem RFB_b {n L e : Nat} {c : Nat → Nat} {BC BR0 : St} (hT0 : atx n L e c BC BR0) {q se lw lv sz : Nat} {ba : Option Int32} {X0 : Nat → Nat} {W0 : Nat → Int32} {n0 : Nat} {D : Dt} (h : RFB n L e c BC q se lw lv sz ba X0 W0 n0 D) (BC' : St) : RFB n L e c BC' q se lw lv sz ba X0 W0 n0 D := by
  intro B X nL cu A ct ap μ gr PA BY OU S hV
  obtain ⟨⟨hn, hL, heL, h127, hend, hce, hO, hst, htC, h0, htR, hch⟩, hV2⟩ := hV
  obtain ⟨_, _, _, _, _, _, hO', hst', htC', _, _, _⟩ := hT0
  exact h B X nL cu A ct ap μ gr PA BY OU S ⟨⟨hn, hL, heL, h127, hend, hce, hO', hst', htC', h0, htR, hch⟩, hV2⟩
theorem DRW_f {NR : Nat → Int32} {c : Nat → Nat} {e ns : Nat} {bs ws : Nat → Nat} {C A LW : Nat → Int32} {s0 s1 u0 u1 : Nat} {le b cd lt : Int32} {fl : Nat} {bb : Int32} {D : Dt} (h : DRW NR c e ns bs ws C A LW s0 s1 u0 u1 le b cd lt fl bb D) : fl = 0 ∨ fl = 8 ∨ fl = 16 ∨ fl = 25 := by
  rcases h with h | h | h | h | h | h | h | h | h
  · exact Or.inl h.2.1
  · exact Or.inr (Or.inl h.2.1)
  · rcases h.2.1 with z | z
    · exact Or.inr (Or.inr (Or.inl z.1))
    · exact Or.inr (Or.inr (Or.inr z.1))
  · exact Or.inl h.2.1
  · exact Or.inl h.2.1
  · exact Or.inl h.2.1
  · exact Or.inl h.2.1
  · exact Or.inl h.2.1
  · exact Or.inl h.2.1
theorem READ_p {n L : Nat} {c : Nat → Nat} {p : Nat} {B : St} {sn lu ln se co : Nat} {SW LW : Nat → Int32} {cs ns : Nat} {C A NM BK : Nat → Int32} {bs ws : Nat → Nat} {nl : Nat} {NR LB : Nat → Int32} {sc X : Nat → Nat} {nL nS : Nat} {PA BY PA' BY' : Nat → Int32} {Ds : Nat → Dt} {Qs Es Zs Ls Fs N0 : Nat → Nat} {NP : Nat → Nat → Int32} (h : READ n L c p B sn lu ln se co SW LW cs ns C A NM BK bs ws nl NR LB sc X nL nS PA BY Ds Qs Es Zs Ls Fs N0 NP) (hp : ∀ s : Nat, s < nS → PA' s = PA s ∧ BY' s = BY s) : READ n L c p B sn lu ln se co SW LW cs ns C A NM BK bs ws nl NR LB sc X nL nS PA' BY' Ds Qs Es Zs Ls Fs N0 NP := by
  obtain ⟨a1, a2, a3, a4, a5, a6, a7, a8, a9, a10, a11, a12, a13, a14, a15, a16, a17, a18, a19⟩ := h
  refine ⟨a1, a2, a3, a4, a5, a6, a7, a8, a9, a10, a11, a12, a13, a14, fun s hs => ?_, a16, a17, a18, a19⟩
  rw [(hp s hs).1, (hp s hs).2]
  exact a15 s hs
theorem BG_c {B B' : St} (h : BG B B') (hc : cstS B) : cstS B' := fun k hk => by
  rw [h.2.2.1 0, h.2.1 0 (by decide) (by decide), h.2.1 1 (by decide) (by decide)]
  exact hc k hk
theorem or19 {p se : Nat} (hp : p < 131072) (hk : se < 2) : nI p ||| nI se <<< ((19 : Int32) &&& 31) = nI ((4 * se) * 2 ^ 17 + p) := by
  rw [show ((19 : Int32) &&& 31) = nI 19 from by decide, nm_shl (by omega) (by omega), Int32.or_comm, show se * 2 ^ 19 = (4 * se) * 2 ^ 17 by omega]
  exact nm_orG 17 (show p < 2 ^ 17 from hp) (by omega)
/-- one line in both -/
theorem rd_S {n L p : Nat} {c : Nat → Nat} {Q U S s1 s3 : St} (hn : 70000 < n) (hL : L ≤ 32768) (h127 : ∀ i : Nat, c i < 127) (hend : ∀ i : Nat, L ≤ i → c i = 10) (hch : ∀ i : Nat, c i = 9 ∨ c i = 10 ∨ 32 ≤ c i) (hp : p < L) (h : RDst n L c p Q U S) (G : Int32 → Int32 → Int32 → (St × (St × St) × St) → Option (Int32 × (St × (St × St) × St))) (G' : St → Option St) : ∃ Q' U' S' : St, df_X1_make_40 n G (nI L) (nI p) (nI (lnE c L p)) (s1, ((Q, U), s3)) = G (nI L) (nI (lnE c L p + 1)) (nI (lnE c L p + 1)) (s1, ((Q', U'), s3)) ∧ dF_X13_readAll_25 n G' S = G' S' ∧ ((∃ f l : Nat, 1 ≤ f ∧ f ≤ 15 ∧ l ≤ 40000 ∧ sI Q' 2 = nI f ∧ sI Q' 3 = nI l ∧ sI S' 12 = nI f + 16 * nI l) ∨ RDst n L c (lnE c L p + 1) Q' U' S') := by
  obtain ⟨B, Bq, B0, sn, lu, ln, se, co, od, SW, LW, cs, ns, C, A, NM, BK, bs, ws, nl, NR, LB, sc, X, nL, nS, PA, BY, OU, Ds, Qs, Es, Zs, Ls, Fs, N0, NP, e0, tp, st, fx, Sx, ap, kd, fr, nm, ct, gr, hR, rfl, rfl, hS, hO, htC, h0, htR⟩ := h
  obtain ⟨a1, a2, a3, a4, a5, a6, a7, a8, a9, a10, a11, a12, a13, a14, a15, a16, a17, a18, a19⟩ := id hR
  obtain ⟨l1, l2, l3, l4⟩ := lnE_1 (c := c) (L := L) (p := p) (by omega) hend
  obtain ⟨e, he⟩ : ∃ e : Nat, e = lnE c L p := ⟨_, rfl⟩
  rw [← he] at l1 l2 l3 l4 ⊢
  have hlnl := nlC_l c p
  have hmul := mu_l Ds nS
  have hnLb := a1.2.2.2.2.2.2.2.2.1
  have hT : atx n L e c (bC B0 e nl NR LB) B := ⟨hn, hL, l2, h127, hend, l3, hO, rfl, htC, h0, htR, hch⟩
  have hR0 : RT0 n L e c (bC B0 e nl NR LB) B X nL := ⟨hT, by omega, a3, fun k hk => ⟨a4 k hk, by have := (a1.2.2.2.2.2.2.1 k hk).2.1; omega⟩⟩
  obtain ⟨q, p', κ, τ, v, x, T, hrl⟩ := stl_L (e0 := e0) (cs := cs) (tp := tp) (st := st) (ns := ns) (fx := fx) (C := C) (A := A) (S := Sx) (NM := NM) (BK := BK) (ap := ap) (kd := kd) (fr := fr) (nm := nm) hT l1 l4 (qC Bq sn lu 0 (ln + 1) se od co SW LW)
  have hC := mk_40 (n := n) (L := L) (e := e) (p := p) (Bq := Bq) (sn := sn) (lu := lu) (ln := ln) (se := se) (co := co) (od := od) (SW := SW) (LW := LW) (U := uC (xC (bC B0 e0 nl NR LB) cs tp st ns fx C A Sx NM BK) ap kd fr nm) (s1 := s1) (s3 := s3) G
  rw [hrl] at hC
  have hRf := rd_25 (n := n) G' (SR_12 hS) ((SR_0 hS).trans h0) (SR_7 hS) hp hL
  have hline : ln + 1 = nlC c (e + 1) := by
    have e1 := nlC_a (c := c) (e - p) p (fun i i1 i2 => l4 i i1 (by omega))
    rw [show p + (e - p) = e by omega] at e1
    show ln + 1 = nlC c e + (if c e = 10 then 1 else 0)
    rw [if_pos l3, e1, a9]
  rcases lin_J (n := n) (L := L) (c := c) (B0 := B0) (Bq := Bq) (lu := lu) (ln := ln + 1) (co := co) (od := od) (SW := SW) (LW := LW) (cs := cs) (C := C) (A := A) (ct := ct) (gr := gr) (PA := PA) (BY := BY) (OU := OU) a7 (show sn < 2 ^ 20 by omega) (e - p + 1) p q p' κ τ v x (e - p) n n X nL ns NM BK bs ws nl NR LB sc tp st fx Sx B S (by omega) (by omega) (by omega) (Nat.le_refl _) (by omega) a1 T hR0 a6 ⟨ln + 1, a5, by omega⟩ hS with hF | hG
  · obtain ⟨f, Q', U', S', f1, f2, f3, f4, f5, f6, B9, f7, i1, i2, i3, i4⟩ := hF
    rw [f3, nb_b2, nb_mN] at hC
    rw [show df_X13_labelled n S = some (0, S') from f6, nb_b2, if_pos rfl] at hRf
    obtain ⟨S'', r1, r2⟩ := rd_F (B := B9) G' hn hL l2 hend h127 (i1.trans h0) (fun i hi => by rw [i4]; exact htR i hi) f7
    exact ⟨Q', U', S'', hC, hRf.trans r1, Or.inl ⟨f, ln + 1, f1, f2, by omega, f4, f5, by rw [r2, a5]⟩⟩
  · obtain ⟨X', nL', B', ns', NM', BK', bs', ws', nl', NR', LB', sc', p2, tp', st', fx', Sx', g1, g2, g3, g4, g5, g6, g7⟩ := hG
    have b0 : sI B' 0 = nI L := (g3.1 0 (by decide)).trans h0
    have bt : ∀ i : Nat, i < L → sR B' 2 i = nI (c i) := fun i hi => by rw [g3.2.1 2 (by decide) (by decide)]; exact htR i hi
    have b13 : sI B' 13 = nI (ln + 1) := (g3.1 13 (by decide)).trans a5
    have b14 : sI B' 14 = nI se := (g3.1 14 (by decide)).trans a6
    have b2 : sI B' 2 = nI nS := (g3.1 2 (by decide)).trans a2
    have bc : cstS B' := BG_c g3 a8
    rcases g7 with ⟨p3, q3, x3, S', k1, k2, k3, k4, k5⟩ | ⟨p1, v0, x0, q1, p1', κ1, τ1, v1, x1, S', T0, T1, k3, k4, k5⟩
    · -- no statement
      rw [k3, nb_b2, nb_mN] at hC
      rw [show df_X13_labelled n S = some (0, S') from k4, nb_b2, if_pos rfl] at hRf
      obtain ⟨S'', r1, r2⟩ := rd_G (B := B') (l := ln + 1) G' hn hL l2 hend h127 l3 b0 bt b13 k5 k2 (fun i i1 i2 => l4 i (by omega) i2)
      refine ⟨_, _, S'', hC, hRf.trans r1, Or.inr ⟨pI B' 13 (nI (ln + 1 + 1)), Bq, B0, sn, lu, ln + 1, se, co, od, SW, LW, cs, ns', C, A, NM', BK', bs', ws', nl', NR', LB', sc', X', nL', nS, PA, BY, OU, Ds, Qs, Es, Zs, Ls, Fs, N0, NP, e, tp', st', fx', Sx', p3, 0, q3, x3, ct, gr, READ_n hR (B' := pI B' 13 (nI (ln + 1 + 1))) g1 (TBJ_m g2 (by omega)) (by omega) b2 g4.2.2.1 (fun k hk => (g4.2.2.2 k hk).1) rfl b14 a7 bc hline, rfl, rfl, r2, hO, htC, b0, bt⟩⟩
    · -- a statement's name
      obtain ⟨w1, w2, _, w4, w5, w31⟩ := ts_w T0 rfl
      have ee := eT_1 c (show p2 ≤ e by omega)
      have hqp : p2 < p1 := (T0.2.2.2.2.2.1 (by decide)).2
      have hle1 := ts_le T1
      have hp1e := (ts_le T0).2.2
      have hA : ∀ t : Nat, t < p1 - p2 → aP (c (p2 + t)) = true := fun t ht => ee.2.2.2 (p2 + t) (by omega) (by omega)
      have SRa := SR_p16 k5 (nI nS)
      have SRb := SR_w3 SRa (upd PA nS (nI ((4 * se) * 2 ^ 17 + p2)))
      have SRc := SR_w5 SRb (upd BY nS (nI 0))
      have nS8 : nS < 11000 := by omega
      have hRf2 : dF_X13_readAll_25 n G' S = nd_b1 (df_X13_statement n (nI p2) 0 (pR (pR (pI S' 16 (nI nS)) 3 (upd PA nS (nI ((4 * se) * 2 ^ 17 + p2)))) 5 (upd BY nS (nI 0)))) (fun (s27 : St) => if nI se = (sI s27 14) then (df_X13_readAll_118 n G' ((sI s27 16)) s27) else (df_X13_readAll_118 n G' ((-1)) s27)) := by
        rw [hRf, show df_X13_labelled n S = some (1, S') from k4, nb_b2, if_neg (show ¬ (1 : Int32) = 0 by decide), SR_2 k5, b2, nb_let, SR_7 SRa, nb_let]
        rw [show sI (pI S' 16 (nI nS)) 16 = nI nS from rfl, nm_ck nS8 (by omega), nI_clamp (by omega), SR_14 SRa, show sI (pI B' 16 (nI nS)) 14 = nI se from b14, or19 (by omega) a7, SR_r3 SRa, nb_let]
        rw [show sI (pR (pI S' 16 (nI nS)) 3 (upd PA nS (nI ((4 * se) * 2 ^ 17 + p2)))) 16 = nI nS from rfl, nm_ck nS8 (by omega), nI_clamp (by omega), SR_r5 SRb, nb_let]
        rw [show sI (pR (pR (pI S' 16 (nI nS)) 3 (upd PA nS (nI ((4 * se) * 2 ^ 17 + p2)))) 5 (upd BY nS 0)) 14 = nI se from (SR_14 SRc).trans b14, nb_let]
        rfl
      have hTb : atx n L e c (bC B0 e nl' NR' LB') B' := BG_a g3 (at_b hT)
      have hV : RV n L e c (bC B0 e nl' NR' LB') (pI B' 16 (nI nS)) X' nL' nS := ⟨hTb, g4.2.1, g4.2.2.1, g4.2.2.2, fun k hk hk3 => (g2.2.2.2.2.2.2.1 k hk).2.2 hk3, rfl, nS8, ln + 1, b13, by omega⟩
      have hT2 := hV.1
      have c0 : sI (pI B' 16 (nI nS)) 0 = nI L := b0
      have ct2 : ∀ i : Nat, i < L → sR (pI B' 16 (nI nS)) 2 i = nI (c i) := bt
      have hplen : nlC c p2 = ln := by
        have e1 := nlC_a (c := c) (p2 - p) p (fun i i1 i2 => l4 i i1 (by omega))
        rw [show p + (p2 - p) = p2 by omega] at e1
        rw [e1, a9]
      rcases nme_1 (n := n) (L := L) (c := c) hn hL h127 p2 (p1 - p2) (by omega) (by omega) hA (s2 := uC (xC (bC B0 e nl' NR' LB') cs tp' st' ns' fx' C A Sx' NM' BK') p1' κ1 q1 x1) hO htC with ⟨y, od', hy, ho, hod, hcl, ⟨l2', hl2, hkl⟩, hNA⟩ | ⟨hcl, hNA⟩
      · -- the class knows it
        have hcl := hcl (qC Bq sn lu 0 (ln + 1) se od co SW LW)
        rw [qC_w5] at hcl
        rw [k3, hcl, nb_b2, nb_mS, nb_b2, nb_mS, if_pos (show sI (qC Bq sn lu 0 (ln + 1) se od' co SW LW, uC (xC (bC B0 e nl' NR' LB') cs tp' st' ns' fx' C A Sx' NM' BK') p1' κ1 q1 x1).1 2 = 0 from rfl)] at hC
        have J : JH n L e c (bC B0 e nl' NR' LB') (pI B' 16 (nI nS)) sn lu (ln + 1) se cs ns' NM' BK' bs' ws' X' nL' nS (upd PA nS (nI ((4 * se) * 2 ^ 17 + p2))) (upd BY nS (nI 0)) p2 p1 y od' := ⟨hV, bc, g2.1, g2.2.1, g2.2.2.1, b13, b14, a7, by omega, by omega, by have := g2.2.2.2.2.2.2.2.2.2; omega, by omega, up_e, up_e, hy, ho, hod, hNA, ⟨1, v0, x0, T0⟩, by omega⟩
        have hnl' := g2.2.2.2.2.2.2.2.2.1
        rcases stj J tp' st' fx' C A Sx' T1 SRc (by omega) (Bq := Bq) (co := co) (SW := SW) (LW := LW) (OU := OU) with jf | jg | jt | je
        · -- a fault
          obtain ⟨f, Q', U', S9, f1, f2, f3, f4, f5, f6, f7⟩ := jf
          rw [f3, nb_b1] at hC
          rw [f6, nb_b1] at hRf2
          obtain ⟨S'', r1, r2⟩ := rd_118F (B := pI B' 16 (nI nS)) G' hn hL l2 hend h127 c0 ct2 rfl nS8 f7 (nI se)
          exact ⟨Q', U', S'', hC, hRf2.trans r1, Or.inl ⟨f, ln + 1, f1, f2, by omega, f4, f5, by rw [r2]; show nI f + 16 * sI B' 13 = _; rw [b13]⟩⟩
        · -- a row more
          obtain ⟨D, fl, lw, lv, sz, ba, le, b, cd, lt, lu', LW', cs', ns2, C', A', NM2, BK2, bs2, ws2, p3, ct', gr', BY', U', S2, r1, ⟨BC', tp2, st2, fx2, S2x, κ2, q2, x2, hBC, rfl⟩, r3, r4, r5, r6, r7, r8, r9, r10, r11, r12, r13, r14, r15, r16, r17, r18, r19, r20, r21, r22, r22a, r22b, r23⟩ := jg
          rw [r1, nb_b1] at hC
          rw [r3, nb_b1] at hRf2
          obtain ⟨S'', z1, z2⟩ := rd_118 (B := pI (pI B' 16 (nI nS)) 15 0) (l := ln + 1) G' hn hL l2 hend h127 l3 c0 ct2 b13 rfl b2 nS8 r4 r6 (fun i i1 i2 => l4 i (by omega) i2) (nI se) b14.symm
          have hBC2 : ∃ B0' : St, BC' = bC B0' e nl' NR' LB' ∧ sO B0' 0 = some 8 ∧ ∀ i : Nat, i < L → sR B0' 7 i = nI (c i) := by
            rcases hBC with w | ⟨tr, w⟩
            · exact ⟨B0, w, hO, htC⟩
            · exact ⟨pI B0 11 tr, w.trans pI_b, hO, htC⟩
          obtain ⟨B0', hB0', hO', htC'⟩ := hBC2
          have nJ : TBJ L c X' nL' (sR B' 7) ns2 NM2 BK2 bs2 ws2 nl' NR' LB' sc' (e + 1) := by
            obtain ⟨q1', q2', q3', q4', q5', q6', q7', q8', q9', q10'⟩ := TBJ_m g2 (show p2 ≤ e + 1 by omega)
            exact ⟨r9, NTB_n q2' q3' r8 r9, IDX_n q3' r8, q4', q5', q6', q7', q8', q9', ⟨by omega, q10'.2⟩⟩
          have ri := rowU_i (R := SW) (j := sn) (ln := ln + 1) (se := se) (le := le) (kd := nI D.1) (b := b) (cd := cd) (lt := lt)
          have d9 : (if D.1 = 9 then 0 else 1) = 1 := if_neg (by omega)
          have hgn := g1.2.2.1
          have hst : STr n L c X' nL' (sR B' 7) (rowU SW sn (ln + 1) se le (nI D.1) b cd lt) LW' C' A' ns2 bs2 ws2 cs' lu' sn (upd (upd PA nS (nI ((4 * se) * 2 ^ 17 + p2))) nS (nI ((4 * se + fl) * 2 ^ 17 + p2)) nS) (upd BY' nS (if BY' nS = 0 then nI ct' else BY' nS) nS) D p2 e se (ln + 1) fl nL' NR' := by
            refine ⟨up_e, a7, DRW_f r23, r7, l2, l3, fun i i1 i2 => l4 i (by omega) i2, by rw [hplen], Nat.le_refl _, fun k hk => (g2.2.2.2.2.2.2.1 k hk).1, fun k k1 k2 => by omega, fun d hd => (g2.2.2.2.2.1 d hd).1, ⟨lw, lv, sz, ba, X', sR B' 7, fun BC9 => RFB_b hT2 r18 BC9, fun k _ => ⟨rfl, fun _ => rfl⟩, fun w hw => ?_, r20, r21, r22a, r22b⟩, Or.inr ⟨r22, le, b, cd, lt, cs, cs', lu, lu', ri.1, ri.2.1, ri.2.2.2.1, ri.2.2.2.2.1, ri.2.2.2.2.2.1, ri.2.2.2.2.2.2.1, ri.2.2.2.2.2.2.2, by rw [up_e]; exact r23, Nat.le_refl _, Nat.le_refl _⟩⟩
            obtain ⟨y1, y2⟩ := r19 w hw
            rw [up_e, y1, if_neg y2]
          refine ⟨_, _, S'', hC, hRf2.trans z1, Or.inr ⟨pI (pI (pI (pI B' 16 (nI nS)) 15 0) 2 (nI (nS + 1))) 13 (nI (ln + 1 + 1)), Bq, B0', sn + 1, lu', ln + 1, se, co, od', rowU SW sn (ln + 1) se le (nI D.1) b cd lt, LW', cs', ns2, C', A', NM2, BK2, bs2, ws2, nl', NR', LB', sc', X', nL', nS + 1, upd (upd PA nS (nI ((4 * se) * 2 ^ 17 + p2))) nS (nI ((4 * se + fl) * 2 ^ 17 + p2)), upd BY' nS (if BY' nS = 0 then nI ct' else BY' nS), OU, nwA Ds nS D, nwA Qs nS p2, nwA Es nS e, nwA Zs nS se, nwA Ls nS (ln + 1), nwA Fs nS fl, nwA N0 nS nL', nwA NP nS NR', e, tp2, st2, fx2, S2x, p3, κ2, q2, x2, ct', gr', ?_, rfl, by rw [hB0'], z2, hO', htC', c0, ct2⟩⟩
          have rd := READ_a hR (B' := pI (pI (pI (pI B' 16 (nI nS)) 15 0) 2 (nI (nS + 1))) 13 (nI (ln + 1 + 1))) (p' := e + 1) (co' := co) (q := p2) (e := e) (fl := fl) (n0 := nL') (NP0 := NR') (D := D) nJ g1.2.1 g1.1 (fun k k1 k2 => ⟨(hgn k k1 k2).1, (hgn k k1 k2).2.1⟩) (by have := g1.2.2.2.1; have := r8.1; omega) (fun i hi => by
              obtain ⟨y1, y2⟩ := g1.2.2.2.2 i hi
              obtain ⟨y3, y4, _, _⟩ := r8.2.1 i (by have := g1.2.2.2.1; omega)
              exact ⟨y3.trans y1, y4.trans y2⟩) (fun j hj => rowU_o (Or.inl hj)) r15 r16 r10 r13 (by omega) (by omega) g5 (by omega) (PA' := upd (upd PA nS (nI ((4 * se) * 2 ^ 17 + p2))) nS (nI ((4 * se + fl) * 2 ^ 17 + p2))) (BY' := upd BY' nS (if BY' nS = 0 then nI ct' else BY' nS)) (fun s hs => ⟨by rw [up_n (by omega), up_n (by omega)], by rw [up_n (by omega), r17 s (by omega), up_n (by omega)]⟩) (lam_h g1 a14) rfl g4.2.2.1 (fun k hk => (g4.2.2.2 k hk).1) rfl b14 bc hline g1.1 (Nat.le_refl _) (fun k k1 k2 => by omega) (fun k hk => (g2.2.2.2.2.2.2.1 k hk).1) hst
          rw [d9] at rd
          exact rd
        · -- .text, .data
          obtain ⟨se', p3, gr', U', S2, r0, r1, ⟨BC', tp2, st2, fx2, S2x, κ2, q2, x2, hBC, rfl⟩, r3, r4, r5, r6, r7, r8⟩ := jt
          rw [r1, nb_b1] at hC
          rw [r3, nb_b1] at hRf2
          have hBC2 : ∃ B0' : St, BC' = bC B0' e nl' NR' LB' ∧ sO B0' 0 = some 8 ∧ ∀ i : Nat, i < L → sR B0' 7 i = nI (c i) := by
            rcases hBC with w | ⟨tr, w⟩
            · exact ⟨B0, w, hO, htC⟩
            · exact ⟨pI B0 11 tr, w.trans pI_b, hO, htC⟩
          obtain ⟨B0', hB0', hO', htC'⟩ := hBC2
          have nJ := TBJ_m g2 (show p2 ≤ e + 1 by omega)
          by_cases zs : se' = se
          · subst zs
            obtain ⟨S'', z1, z2⟩ := rd_118 (B := pI (pI (pI B' 16 (nI nS)) 15 0) 14 (nI se')) (l := ln + 1) G' hn hL l2 hend h127 l3 c0 ct2 b13 rfl b2 nS8 r4 r6 (fun i i1 i2 => l4 i (by omega) i2) (nI se') rfl
            have hgn := g1.2.2.1
            have hst : STr n L c X' nL' (sR B' 7) SW LW C A ns' bs' ws' cs lu sn (upd PA nS (nI ((4 * se') * 2 ^ 17 + p2)) nS) (upd (upd BY nS (nI 0)) nS (if upd BY nS (nI 0) nS = 0 then nI 0 else upd BY nS (nI 0) nS) nS) (9, 0, 0, [], []) p2 e se' (ln + 1) 0 nL' NR' := by
              refine ⟨up_e, a7, Or.inl rfl, r7, l2, l3, fun i i1 i2 => l4 i (by omega) i2, by rw [hplen], Nat.le_refl _, fun k hk => (g2.2.2.2.2.2.2.1 k hk).1, fun k k1 k2 => by omega, fun d hd => (g2.2.2.2.2.1 d hd).1, ⟨0, 3, 0, none, X', sR B' 7, fun BC9 => RFB_b hT2 r8 BC9, fun k _ => ⟨rfl, fun _ => rfl⟩, (fun _ z => nomatch z), Nat.le_refl _, Nat.le_of_ble_eq_true rfl, (fun z => by have z : (9 : Nat) = 1 := z; omega), (fun z => by have z : (9 : Nat) = 2 := z; omega)⟩, Or.inl ⟨rfl, rfl, ?_, rfl⟩⟩
              rw [up_e, up_e]; exact if_pos (show nI 0 = (0 : Int32) from rfl)
            refine ⟨_, _, S'', hC, hRf2.trans z1, Or.inr ⟨pI (pI (pI (pI (pI B' 16 (nI nS)) 15 0) 14 (nI se')) 2 (nI (nS + 1))) 13 (nI (ln + 1 + 1)), Bq, B0', sn, lu, ln + 1, se', co, od', SW, LW, cs, ns', C, A, NM', BK', bs', ws', nl', NR', LB', sc', X', nL', nS + 1, upd PA nS (nI ((4 * se') * 2 ^ 17 + p2)), upd (upd BY nS (nI 0)) nS (if upd BY nS (nI 0) nS = 0 then nI 0 else upd BY nS (nI 0) nS), OU, nwA Ds nS (9, 0, 0, [], []), nwA Qs nS p2, nwA Es nS e, nwA Zs nS se', nwA Ls nS (ln + 1), nwA Fs nS 0, nwA N0 nS nL', nwA NP nS NR', e, tp2, st2, fx2, S2x, p3, κ2, q2, x2, 0, gr', ?_, rfl, by rw [hB0'], z2, hO', htC', c0, ct2⟩⟩
            exact READ_a hR (B' := pI (pI (pI (pI (pI B' 16 (nI nS)) 15 0) 14 (nI se')) 2 (nI (nS + 1))) 13 (nI (ln + 1 + 1))) (p' := e + 1) (co' := co) (q := p2) (e := e) (fl := 0) (n0 := nL') (NP0 := NR') (D := (9, 0, 0, [], [])) nJ g1.2.1 g1.1 (fun k k1 k2 => ⟨(hgn k k1 k2).1, (hgn k k1 k2).2.1⟩) g1.2.2.2.1 g1.2.2.2.2 (fun _ _ => rfl) (fun _ _ => ⟨rfl, rfl⟩) (fun _ _ => rfl) (Nat.le_refl _) (Nat.le_refl _) (by omega) (by omega) g5 (by omega) (PA' := upd PA nS (nI ((4 * se') * 2 ^ 17 + p2))) (BY' := upd (upd BY nS (nI 0)) nS (if upd BY nS (nI 0) nS = 0 then nI 0 else upd BY nS (nI 0) nS)) (fun s hs => ⟨by rw [up_n (by omega)], by rw [up_n (by omega), up_n (by omega)]⟩) (lam_h g1 a14) rfl g4.2.2.1 (fun k hk => (g4.2.2.2 k hk).1) rfl rfl bc hline g1.1 (Nat.le_refl _) (fun k k1 k2 => by omega) (fun k hk => (g2.2.2.2.2.2.2.1 k hk).1) hst
          · -- another section
            rw [if_neg (show ¬ nI se = sI S2 14 from fun w => zs (((nI_eq (a := se) (b := se') (by omega) (by omega)).mp (w.trans (SR_14 r4))).symm))] at hRf2
            unfold df_X13_readAll_118 at hRf2
            rw [if_pos (show (-1 : Int32) < 0 by decide)] at hRf2
            obtain ⟨S'', z1, z2⟩ := rd_G (B := pI (pI (pI B' 16 (nI nS)) 15 0) 14 (nI se')) (l := ln + 1) G' hn hL l2 hend h127 l3 c0 ct2 b13 r4 r6 (fun i i1 i2 => l4 i (by omega) i2)
            refine ⟨_, _, S'', hC, hRf2.trans z1, Or.inr ⟨pI (pI (pI (pI B' 16 (nI nS)) 15 0) 14 (nI se')) 13 (nI (ln + 1 + 1)), Bq, B0', sn, lu, ln + 1, se', co, od', SW, LW, cs, ns', C, A, NM', BK', bs', ws', nl', NR', LB', sc', X', nL', nS, upd PA nS (nI ((4 * se) * 2 ^ 17 + p2)), upd BY nS (nI 0), OU, Ds, Qs, Es, Zs, Ls, Fs, N0, NP, e, tp2, st2, fx2, S2x, p3, κ2, q2, x2, 0, gr', ?_, rfl, by rw [hB0'], z2, hO', htC', c0, ct2⟩⟩
            exact READ_p (READ_n hR (B' := pI (pI (pI (pI B' 16 (nI nS)) 15 0) 14 (nI se')) 13 (nI (ln + 1 + 1))) g1 nJ (by omega) b2 g4.2.2.1 (fun k hk => (g4.2.2.2 k hk).1) rfl rfl r0 bc hline) (fun s hs => ⟨up_n (by omega), up_n (by omega)⟩)
        · -- .equ
          obtain ⟨qn, z, cs', ns2, C', A', NM2, BK2, bs2, ws2, p3, gr', U', S2, r1, ⟨BC', tp2, st2, fx2, S2x, κ2, q2, x2, hBC, rfl⟩, r3, r4, r5, r5a, r6, r7, r8, r9, r10, r11, r12, r13, r14, r15, r16⟩ := je
          rw [r1, nb_b1] at hC
          rw [r3, nb_b1] at hRf2
          have hBC2 : ∃ B0' : St, BC' = bC B0' e nl' NR' LB' ∧ sO B0' 0 = some 8 ∧ ∀ i : Nat, i < L → sR B0' 7 i = nI (c i) := by
            rcases hBC with w | ⟨tr, w⟩
            · exact ⟨B0, w, hO, htC⟩
            · exact ⟨pI B0 11 tr, w.trans pI_b, hO, htC⟩
          obtain ⟨B0', hB0', hO', htC'⟩ := hBC2
          obtain ⟨q1', q2', q3', q4', q5', q6', q7', q8', q9', q10'⟩ := id g2
          have ew : (2 * 131072 + qn) / 131072 = 2 := by omega
          have eq : (2 * 131072 + qn) % 131072 = qn := by omega
          obtain ⟨pl1, pl2⟩ := plc_n (w := 2 * 131072 + qn) (p2 := e + 1) q7' q8' (by omega) (by omega) (by omega) (fun w => by omega) (by omega)
          have lamn : nl' = lam (nwF X' nL' (2 * 131072 + qn)) (nL' + 1) := by
            rw [lam_n1, if_pos ew, q4']
            rfl
          have nJ : TBJ L c (nwF X' nL' (2 * 131072 + qn)) (nL' + 1) (upd (sR B' 7) nL' z) ns2 NM2 BK2 bs2 ws2 nl' NR' LB' (nwF sc' nL' sn) (e + 1) := ⟨r8, r9, r10, lamn, NRI_o q5' (by omega) (fun _ _ => rfl), LBI_c q6' ew, pl1, pl2, by omega, ⟨by omega, NLB_o q10'.2 (by omega) (by omega)⟩⟩
          obtain ⟨S'', z1, z2⟩ := rd_118 (B := dfB (pI (pI B' 16 (nI nS)) 15 0) nL' (nI (2 * 131072 + qn)) z) (l := ln + 1) G' hn hL l2 hend h127 l3 c0 ct2 b13 rfl b2 nS8 r4 r6 (fun i i1 i2 => l4 i (by omega) i2) (nI se) b14.symm
          have hgn := g1.2.2.1
          have hgo := g1.2.1
          have hg1 := g1.1
          have hst : STr n L c (nwF X' nL' (2 * 131072 + qn)) (nL' + 1) (upd (sR B' 7) nL' z) SW LW C' A' ns2 bs2 ws2 cs' lu sn (upd PA nS (nI ((4 * se) * 2 ^ 17 + p2)) nS) (upd (upd BY nS (nI 0)) nS (if upd BY nS (nI 0) nS = 0 then nI 0 else upd BY nS (nI 0) nS) nS) (9, 0, 0, [], []) p2 e se (ln + 1) 0 nL' NR' := by
            refine ⟨up_e, a7, Or.inl rfl, r7, l2, l3, fun i i1 i2 => l4 i (by omega) i2, by rw [hplen], by omega, fun k hk => by rw [nw_2 hk]; exact (q7' k hk).1, fun k k1 k2 => ?_, fun d hd => ?_, ⟨0, 3, 0, none, X', sR B' 7, fun BC9 => RFB_b hT2 r16 BC9, fun k hk => ⟨(nw_2 hk).symm, fun _ => (up_n (by omega)).symm⟩, (fun _ z => nomatch z), Nat.le_refl _, Nat.le_of_ble_eq_true rfl, (fun z => by have z : (9 : Nat) = 1 := z; omega), (fun z => by have z : (9 : Nat) = 2 := z; omega)⟩, Or.inl ⟨rfl, rfl, ?_, rfl⟩⟩
            · have : k = nL' := by omega
              subst this
              rw [nw_1, eq]; omega
            · rw [fr_nw, lmF_nw (fr_l _ _ _)]; exact (q5' d hd).1
            · rw [up_e, up_e]; exact if_pos (show nI 0 = (0 : Int32) from rfl)
          refine ⟨_, _, S'', hC, hRf2.trans z1, Or.inr ⟨pI (pI (dfB (pI (pI B' 16 (nI nS)) 15 0) nL' (nI (2 * 131072 + qn)) z) 2 (nI (nS + 1))) 13 (nI (ln + 1 + 1)), Bq, B0', sn, lu, ln + 1, se, co + 1, od', SW, LW, cs', ns2, C', A', NM2, BK2, bs2, ws2, nl', NR', LB', nwF sc' nL' sn, nwF X' nL' (2 * 131072 + qn), nL' + 1, nS + 1, upd PA nS (nI ((4 * se) * 2 ^ 17 + p2)), upd (upd BY nS (nI 0)) nS (if upd BY nS (nI 0) nS = 0 then nI 0 else upd BY nS (nI 0) nS), OU, nwA Ds nS (9, 0, 0, [], []), nwA Qs nS p2, nwA Es nS e, nwA Zs nS se, nwA Ls nS (ln + 1), nwA Fs nS 0, nwA N0 nS nL', nwA NP nS NR', e, tp2, st2, fx2, S2x, p3, κ2, q2, x2, 0, gr', ?_, rfl, by rw [hB0'], z2, hO', htC', c0, ct2⟩⟩
          have lamo := lam_h g1 a14
          refine READ_a hR (B' := pI (pI (dfB (pI (pI B' 16 (nI nS)) 15 0) nL' (nI (2 * 131072 + qn)) z) 2 (nI (nS + 1))) 13 (nI (ln + 1 + 1))) (p' := e + 1) (co' := co + 1) (q := p2) (e := e) (fl := 0) (n0 := nL') (NP0 := NR') (D := (9, 0, 0, [], [])) nJ (fun k hk => ⟨(nw_2 (by omega)).trans (hgo k hk).1, (up_n (by omega) : upd (sR B' 7) nL' z k = sR B' 7 k).trans (hgo k hk).2.1, (nw_2 (by omega)).trans (hgo k hk).2.2⟩) (by omega) (fun k k1 k2 => by
              by_cases w : k = nL'
              · subst w
                rw [nw_1, nw_1, eq]
                exact ⟨rfl, by omega⟩
              · rw [nw_2 (by omega), nw_2 (by omega)]
                exact ⟨(hgn k k1 (by omega)).1, (hgn k k1 (by omega)).2.1⟩) (by have := g1.2.2.2.1; have := r11.1; omega) (fun i hi => by
              obtain ⟨y1, y2⟩ := g1.2.2.2.2 i hi
              obtain ⟨y3, y4⟩ := r11.2 i (by have := g1.2.2.2.1; omega)
              exact ⟨y3.trans y1, y4.trans y2⟩) (fun _ _ => rfl) r15 (fun _ _ => rfl) r12 (Nat.le_refl _) (by omega) (by omega) g5 (by omega) (PA' := upd PA nS (nI ((4 * se) * 2 ^ 17 + p2))) (BY' := upd (upd BY nS (nI 0)) nS (if upd BY nS (nI 0) nS = 0 then nI 0 else upd BY nS (nI 0) nS)) (fun s hs => ⟨by rw [up_n (by omega)], by rw [up_n (by omega), up_n (by omega)]⟩) (by rw [← lamn, q4']; omega) rfl rfl (fun k hk => ?_) rfl b14 bc hline g1.1 (by omega) (fun k k1 k2 => rfl) (fun k hk => by rw [nw_2 hk]; exact (q7' k hk).1) hst
          show upd (sR B' 6) nL' (nI (2 * 131072 + qn)) k = nI (nwF X' nL' (2 * 131072 + qn) k)
          by_cases w : k = nL'
          · subst w; rw [up_e, nw_1]
          · rw [up_n w, nw_2 (by omega)]; exact (g4.2.2.2 k (by omega)).1
      · -- nobody knows it
        obtain ⟨od', hcl⟩ := hcl (qC Bq sn lu 0 (ln + 1) se od co SW LW) rfl
        rw [qC_w5, qC_w2] at hcl
        rw [k3, hcl, nb_b2, nb_mN, nb_b2, nb_mN] at hC
        obtain ⟨S9, y1, y2, y3, y4, y5, y6⟩ := stm_1 (B := pI B' 16 (nI nS)) hT2 bc SRc 0 T0
        obtain ⟨od9, y7⟩ := hNA S9 y5 y6 y3 (by rw [y4, show p2 + (p1 - p2) = p1 by omega])
        obtain ⟨S10, b1, b2'⟩ := blm_S (n := n) y2 2
        have hst9 : df_X13_statement n (nI p2) 0 (pR (pR (pI S' 16 (nI nS)) 3 (upd PA nS (nI ((4 * se) * 2 ^ 17 + p2)))) 5 (upd BY nS (nI 0))) = some S10 := by
          rw [y1, y7]
          unfold df_X13_statement_136
          rw [if_neg (show ¬ (0 : Int32) ≤ -1 by decide), b1, nb_b1]
        rw [hst9, nb_b1] at hRf2
        have fg : FG e (pI B' 16 (nI nS)) (nI 2 + 16 * sI B' 13) S10 := ⟨pI (pI B' 16 (nI nS)) 15 0, SR_FL b2' hp1e, rfl, rfl, rfl, rfl⟩
        obtain ⟨S'', r1, r2⟩ := rd_118F (B := pI B' 16 (nI nS)) G' hn hL l2 hend h127 c0 ct2 rfl nS8 fg (nI se)
        exact ⟨_, _, S'', hC, hRf2.trans r1, Or.inl ⟨2, ln + 1, by decide, by decide, by omega, rfl, rfl, by rw [r2, b13]⟩⟩

/-- at the end of the text -/
def RDfin (n L : Nat) (c : Nat → Nat) (p : Nat) (Q U S : St) : Prop := ∃ (B Bq B0 : St) (sn lu ln lx se co : Nat) (od : Int32) (SW LW : Nat → Int32) (cs ns : Nat) (C A NM BK : Nat → Int32) (bs ws : Nat → Nat) (nl : Nat) (NR LB : Nat → Int32) (sc X : Nat → Nat) (nL nS : Nat) (PA BY OU : Nat → Int32) (Ds : Nat → Dt) (Qs Es Zs Ls Fs N0 : Nat → Nat) (NP : Nat → Nat → Int32) (e0 tp st : Nat) (fx : Bool) (Sx : Nat → Int32) (ap kd fr : Nat) (nm : Int32) (ct : Nat) (gr : Bool), READ n L c p B sn lu ln se co SW LW cs ns C A NM BK bs ws nl NR LB sc X nL nS PA BY Ds Qs Es Zs Ls Fs N0 NP ∧ Q = qC Bq sn lu 0 lx se od co SW LW ∧ U = uC (xC (bC B0 e0 nl NR LB) cs tp st ns fx C A Sx NM BK) ap kd fr nm ∧ SR B ct gr PA BY OU 0 p S ∧ sO B0 0 = some 8 ∧ (∀ i : Nat, i < L → sR B0 7 i = nI (c i)) ∧ sI B 0 = nI L ∧ (∀ i : Nat, i < L → sR B 2 i = nI (c i))
theorem RD_f {n L : Nat} {c : Nat → Nat} {p : Nat} {Q U S : St} (h : RDst n L c p Q U S) : RDfin n L c p Q U S := by
  obtain ⟨B, Bq, B0, sn, lu, ln, se, co, od, SW, LW, cs, ns, C, A, NM, BK, bs, ws, nl, NR, LB, sc, X, nL, nS, PA, BY, OU, Ds, Qs, Es, Zs, Ls, Fs, N0, NP, e0, tp, st, fx, Sx, ap, kd, fr, nm, ct, gr, h⟩ := h
  exact ⟨B, Bq, B0, sn, lu, ln, ln, se, co, od, SW, LW, cs, ns, C, A, NM, BK, bs, ws, nl, NR, LB, sc, X, nL, nS, PA, BY, OU, Ds, Qs, Es, Zs, Ls, Fs, N0, NP, e0, tp, st, fx, Sx, ap, kd, fr, nm, ct, gr, h⟩
/-- the class's last line, which is empty -/
theorem rd_Z {n L : Nat} {c : Nat → Nat} {Q U S s1 s3 : St} (hn : 70000 < n) (hL : L ≤ 32768) (h127 : ∀ i : Nat, c i < 127) (hend : ∀ i : Nat, L ≤ i → c i = 10) (hch : ∀ i : Nat, c i = 9 ∨ c i = 10 ∨ 32 ≤ c i) (h : RDst n L c L Q U S) (G : Int32 → Int32 → Int32 → (St × (St × St) × St) → Option (Int32 × (St × (St × St) × St))) : ∃ Q' U' : St, df_X1_make_40 n G (nI L) (nI L) (nI L) (s1, ((Q, U), s3)) = G (nI L) (nI (L + 1)) (nI (L + 1)) (s1, ((Q', U'), s3)) ∧ sI Q' 2 = 0 ∧ RDfin n L c L Q' U' S := by
  obtain ⟨B, Bq, B0, sn, lu, ln, se, co, od, SW, LW, cs, ns, C, A, NM, BK, bs, ws, nl, NR, LB, sc, X, nL, nS, PA, BY, OU, Ds, Qs, Es, Zs, Ls, Fs, N0, NP, e0, tp, st, fx, Sx, ap, kd, fr, nm, ct, gr, hR, rfl, rfl, hS, hO, htC, h0, htR⟩ := h
  have hT : atx n L L c (bC B0 L nl NR LB) B := ⟨hn, hL, Nat.le_refl _, h127, hend, hend L (Nat.le_refl _), hO, rfl, htC, h0, htR, hch⟩
  obtain ⟨q, p', κ, τ, v, x, T, hrl⟩ := stl_L (e0 := e0) (cs := cs) (tp := tp) (st := st) (ns := ns) (fx := fx) (C := C) (A := A) (S := Sx) (NM := NM) (BK := BK) (ap := ap) (kd := kd) (fr := fr) (nm := nm) hT (Nat.le_refl _) (fun i i1 i2 => by omega) (qC Bq sn lu 0 (ln + 1) se od co SW LW)
  have zk : κ = 0 := Classical.byContradiction fun w => by
    have := T.2.2.2.2.2.1 w
    have := T.2.2.1
    omega
  subst zk
  have hC := mk_40 (n := n) (L := L) (e := L) (p := L) (Bq := Bq) (sn := sn) (lu := lu) (ln := ln) (se := se) (co := co) (od := od) (SW := SW) (LW := LW) (U := uC (xC (bC B0 e0 nl NR LB) cs tp st ns fx C A Sx NM BK) ap kd fr nm) (s1 := s1) (s3 := s3) G
  rw [hrl] at hC
  obtain ⟨g, hg⟩ : ∃ g : Nat, n = g + 1 := ⟨n - 1, by omega⟩
  have hle := ts_le T
  have e1 : df_X1_readLine_13 n n (nI (L - L)) (qC Bq sn lu 0 (ln + 1) se od co SW LW, uC (xC (bC B0 L nl NR LB) cs tp st ns fx C A Sx NM BK) p' 0 q x) = some (none, (qC Bq sn lu 0 (ln + 1) se od co SW LW, uC (xC (bC B0 L nl NR LB) cs tp st ns fx C A Sx NM BK) p' 0 q x)) := by
    have e2 : df_X1_readLine_13 n n (nI (L - L)) (qC Bq sn lu 0 (ln + 1) se od co SW LW, uC (xC (bC B0 L nl NR LB) cs tp st ns fx C A Sx NM BK) p' 0 q x) = df_X1_readLine_13 n (g + 1) (nI (L - L)) (qC Bq sn lu 0 (ln + 1) se od co SW LW, uC (xC (bC B0 L nl NR LB) cs tp st ns fx C A Sx NM BK) p' 0 q x) := congrArg (fun z => df_X1_readLine_13 n z (nI (L - L)) (qC Bq sn lu 0 (ln + 1) se od co SW LW, uC (xC (bC B0 L nl NR LB) cs tp st ns fx C A Sx NM BK) p' 0 q x)) hg
    rw [e2]
    have e3 := rl_13 (n := n) (qC Bq sn lu 0 (ln + 1) se od co SW LW) (uC (xC (bC B0 L nl NR LB) cs tp st ns fx C A Sx NM BK) p' 0 q x) rfl (df_X1_readLine_13 n g) (L - L) (by omega) (κ := 0) (q := q) (p' := p') rfl rfl rfl hle.2.1 (by omega) (by decide)
    rw [if_pos rfl] at e3
    exact e3
  rw [e1, nb_b2, nb_mN] at hC
  exact ⟨_, _, hC, rfl, B, Bq, B0, sn, lu, ln, ln + 1, se, co, od, SW, LW, cs, ns, C, A, NM, BK, bs, ws, nl, NR, LB, sc, X, nL, nS, PA, BY, OU, Ds, Qs, Es, Zs, Ls, Fs, N0, NP, L, tp, st, fx, Sx, p', 0, q, x, ct, gr, hR, rfl, rfl, hS, hO, htC, h0, htR⟩
/-- all lines -/
theorem rdl_all {n L : Nat} {c : Nat → Nat} {s1 s3 : St} (hn : 70000 < n) (hL : L ≤ 32768) (h127 : ∀ i : Nat, c i < 127) (hend : ∀ i : Nat, L ≤ i → c i = 10) (hch : ∀ i : Nat, c i = 9 ∨ c i = 10 ∨ 32 ≤ c i) : ∀ (N p g g' : Nat) (Q U S : St), L + 1 - p < N → p ≤ L + 1 → L + 1 - p < g → L + 1 - p < g' → RDst n L c p Q U S → ∃ Q' U' S' : St, df_X1_make_12 n g (nI L) (nI p) (nI p) (s1, ((Q, U), s3)) = df_X1_make_90 n (s1, ((Q', U'), s3)) ∧ df_X13_readAll_25 n g' S = some S' ∧ ((∃ f l : Nat, 1 ≤ f ∧ f ≤ 15 ∧ l ≤ 40000 ∧ sI Q' 2 = nI f ∧ sI Q' 3 = nI l ∧ sI S' 12 = nI f + 16 * nI l) ∨ (sI Q' 2 = 0 ∧ ∃ p' : Nat, L ≤ p' ∧ p' ≤ L + 1 ∧ RDfin n L c p' Q' U' S')) := fun N => by
  induction N with
  | zero => intro p g g' Q U S h; exact absurd h (Nat.not_lt_zero _)
  | succ N ih =>
    intro p g g' Q U S hN hp hg hg' h
    obtain ⟨g', rfl⟩ : ∃ m : Nat, g' = m + 1 := ⟨g' - 1, by omega⟩
    have hrs : ∃ (B Bq B0 : St) (sn lu ln se co : Nat) (od : Int32) (SW LW : Nat → Int32) (ct : Nat) (gr : Bool) (PA BY OU : Nat → Int32), Q = qC Bq sn lu 0 ln se od co SW LW ∧ SR B ct gr PA BY OU 0 p S ∧ sI B 0 = nI L ∧ ∀ i : Nat, i < L → sR U 7 i = nI (c i) := by
      obtain ⟨B, Bq, B0, sn, lu, ln, se, co, od, SW, LW, cs, ns, C, A, NM, BK, bs, ws, nl, NR, LB, sc, X, nL, nS, PA, BY, OU, Ds, Qs, Es, Zs, Ls, Fs, N0, NP, e0, tp, st, fx, Sx, ap, kd, fr, nm, ct, gr, hR, rfl, rfl, hS, hO, htC, h0, htR⟩ := h
      exact ⟨B, Bq, B0, sn, lu, ln, se, co, od, SW, LW, ct, gr, PA, BY, OU, rfl, hS, h0, htC⟩
    obtain ⟨B, Bq, B0, sn, lu, ln, se, co, od, SW, LW, ct, gr, PA, BY, OU, hQ, hS, h0, htU⟩ := hrs
    have hQ2 : sI Q 2 = 0 := by rw [hQ]; rfl
    have stop : L ≤ p → df_X13_readAll_25 n (g' + 1) S = some S := fun hp => by
      show dF_X13_readAll_25 n (df_X13_readAll_25 n g') S = some S
      unfold dF_X13_readAll_25 df_X13_readAll_201
      rw [if_pos (SR_12 hS), SR_0 hS, h0, SR_7 hS, if_pos (zle hp (by omega))]
    by_cases z : p = L + 1
    · subst z
      obtain ⟨g, rfl⟩ : ∃ m : Nat, g = m + 1 := ⟨g - 1, by omega⟩
      refine ⟨Q, U, S, ?_, stop (by omega), Or.inr ⟨hQ2, L + 1, by omega, Nat.le_refl _, RD_f h⟩⟩
      show dF_X1_make_12 n (df_X1_make_12 n g) (nI L) (nI (L + 1)) (nI (L + 1)) (s1, ((Q, U), s3)) = _
      unfold dF_X1_make_12
      rw [if_pos (zlt (by omega) (by omega))]
    · obtain ⟨l1, l2, l3, l4⟩ := lnE_1 (c := c) (L := L) (p := p) (by omega) hend
      have hw := mk_w (n := n) (L := L) (e := lnE c L p) (p := p) (c := c) (s1 := s1) (s3 := s3) (Q := Q) (U := U) hL l2 hQ2 htU l3 h127 (lnE c L p - p) p g (by omega) (by omega) l4
      by_cases y : p = L
      · subst y
        have e : lnE c p p = p := by omega
        rw [e] at hw
        obtain ⟨Q', U', r1, r2, r3⟩ := rd_Z (s1 := s1) (s3 := s3) hn hL h127 hend hch h (df_X1_make_12 n (g - (p - p) - 1))
        refine ⟨Q', U', S, ?_, stop (Nat.le_refl _), Or.inr ⟨r2, p, Nat.le_refl _, by omega, r3⟩⟩
        rw [hw, r1]
        obtain ⟨g2, hg2⟩ : ∃ m : Nat, g - (p - p) - 1 = m + 1 := ⟨g - 2, by omega⟩
        rw [hg2]
        show dF_X1_make_12 n (df_X1_make_12 n g2) (nI p) (nI (p + 1)) (nI (p + 1)) (s1, ((Q', U'), s3)) = _
        unfold dF_X1_make_12
        rw [if_pos (zlt (by omega) (by omega))]
      · obtain ⟨Q', U', S', r1, r2, r3⟩ := rd_S (s1 := s1) (s3 := s3) hn hL h127 hend hch (show p < L by omega) h (df_X1_make_12 n (g - (lnE c L p - p) - 1)) (df_X13_readAll_25 n g')
        have r2 : df_X13_readAll_25 n (g' + 1) S = df_X13_readAll_25 n g' S' := r2
        rw [hw, r1, r2]
        rcases r3 with ⟨f, l, f1, f2, f3, f4, f5, f6⟩ | r3
        · refine ⟨Q', U', S', ?_, ?_, Or.inl ⟨f, l, f1, f2, f3, f4, f5, f6⟩⟩
          · obtain ⟨g2, hg2⟩ : ∃ m : Nat, g - (lnE c L p - p) - 1 = m + 1 := ⟨g - (lnE c L p - p) - 2, by omega⟩
            rw [hg2]
            show dF_X1_make_12 n (df_X1_make_12 n g2) (nI L) (nI (lnE c L p + 1)) (nI (lnE c L p + 1)) (s1, ((Q', U'), s3)) = _
            unfold dF_X1_make_12
            rw [if_neg (show ¬ sI (s1, ((Q', U'), s3)).2.1.1 2 = 0 from by rw [show sI (s1, ((Q', U'), s3)).2.1.1 2 = nI f from f4]; exact zne (b := 0) (by omega) (by omega) (by omega))]
            split <;> rfl
          · obtain ⟨g2, rfl⟩ : ∃ m : Nat, g' = m + 1 := ⟨g' - 1, by omega⟩
            show dF_X13_readAll_25 n (df_X13_readAll_25 n g2) S' = some S'
            unfold dF_X13_readAll_25 df_X13_readAll_201
            have hz : ¬ sI S' 12 = 0 := by
              rw [f6, show (16 : Int32) = nI 16 from rfl, pk_mul, nI_add]
              exact zne (b := 0) (by omega) (by omega) (by omega)
            rw [if_neg hz]
        · obtain ⟨Q2, U2, S2, t1, t2, t3⟩ := ih (lnE c L p + 1) (g - (lnE c L p - p) - 1) g' Q' U' S' (by omega) (by omega) (by omega) (by omega) r3
          exact ⟨Q2, U2, S2, t1, t2, t3⟩

/-- layout: how long a statement is, where it lies in its section -/
def szN (D : Dt) (bb : Int32) (l off : Nat) : Nat := if D.1 = 1 ∨ D.1 = 2 then 2 * 2 ^ l else if D.1 = 8 then ((-nI off) &&& (((1 : Int32) <<< ((-1 - bb) &&& 31)) - 1)).toNatClampNeg else bb.toNatClampNeg
def lay (Ds : Nat → Dt) (Zs : Nat → Nat) (BY : Nat → Int32) (lv : Nat → Nat) : Nat → Nat × Nat
  | 0 => (0, 0)
  | s + 1 => if Zs s = 1 then ((lay Ds Zs BY lv s).1, (lay Ds Zs BY lv s).2 + szN (Ds s) (BY s) (lv s) (lay Ds Zs BY lv s).2) else ((lay Ds Zs BY lv s).1 + szN (Ds s) (BY s) (lv s) (lay Ds Zs BY lv s).1, (lay Ds Zs BY lv s).2)
def ofs (Ds : Nat → Dt) (Zs : Nat → Nat) (BY : Nat → Int32) (lv : Nat → Nat) (s : Nat) : Nat := if Zs s = 1 then (lay Ds Zs BY lv s).2 else (lay Ds Zs BY lv s).1
/-- what of a statement matters for its length -/
def ZK (D : Dt) (bb : Int32) (fl l : Nat) : Prop := (D.1 = 1 ∧ fl = 8 ∧ l ≤ 1 ∧ ∃ k : Nat, k ≤ 8 ∧ bb = nI k) ∨ (D.1 = 2 ∧ (fl = 16 ∨ fl = 25) ∧ l ≤ 2 ∧ ∃ k : Nat, k ≤ 8 ∧ bb = nI k) ∨ (D.1 = 8 ∧ fl = 0 ∧ l = 0 ∧ ∃ k : Nat, k ≤ 10 ∧ bb = -1 - nI k) ∨ (¬ D.1 = 1 ∧ ¬ D.1 = 2 ∧ ¬ D.1 = 8 ∧ fl = 0 ∧ l = 0 ∧ ∃ m : Nat, m ≤ 131072 ∧ bb = nI m ∧ (D.1 = 9 → m = 0))
theorem numB_l (d v : Int32) : (numB d v).length ≤ 8 := by
  unfold numB
  split
  · exact Nat.le_of_ble_eq_true rfl
  · split
    · exact Nat.le_of_ble_eq_true rfl
    · rw [List.length_append]
      split
      · exact Nat.le_of_ble_eq_true rfl
      · exact Nat.le_of_ble_eq_true rfl
theorem STr_z {n L : Nat} {c X : Nat → Nat} {nL : Nat} {W SW LW C A : Nat → Int32} {ns : Nat} {bs ws : Nat → Nat} {cs lu i : Nat} {pa bb : Int32} {D : Dt} {q e se ln fl n0 : Nat} {NP : Nat → Int32} (h : STr n L c X nL W SW LW C A ns bs ws cs lu i pa bb D q e se ln fl n0 NP) (hlu : lu ≤ 131072) (l : Nat) (h1 : D.1 = 1 → l ≤ 1) (h2 : D.1 = 2 → l ≤ 2) (h3 : ¬ D.1 = 1 → ¬ D.1 = 2 → l = 0) : ZK D bb fl l := by
  obtain ⟨a1, a2, a3, a4, a5, a6, a6', a7, a8, a9, a10, a11, a12, a13⟩ := h
  rcases a13 with ⟨z1, z2, z3, z4⟩ | ⟨z, le, b, cd, lt, s0, s1, u0, u1, c1, c2, c3, c4, c5, c6, c7, c8, c9, c10⟩
  · exact Or.inr (Or.inr (Or.inr ⟨by omega, by omega, by omega, z4, h3 (by omega) (by omega), 0, by omega, z3, fun _ => rfl⟩))
  · rcases c8 with h | h | h | h | h | h | h | h | h
    · obtain ⟨k1, k2, k3, k4, k5, k6⟩ := h
      refine Or.inr (Or.inr (Or.inr ⟨by omega, by omega, by omega, k2, h3 (by omega) (by omega), (if D.2.1 &&& 3 = 3 then 4 else 2), ?_, ?_, by omega⟩))
      · split <;> omega
      · rw [k5, k4]; split <;> rfl
    · exact Or.inl ⟨h.1, h.2.1, h1 h.1, h.2.2.2.2.2.2.2.2⟩
    · refine Or.inr (Or.inl ⟨h.1, ?_, h2 h.1, h.2.2.2.2.2.2.2⟩)
      rcases h.2.1 with w | w
      · exact Or.inl w.1
      · exact Or.inr w.1
    · obtain ⟨k1, k2, k3, k4, k5, k6⟩ := h
      exact Or.inr (Or.inr (Or.inr ⟨by omega, by omega, by omega, k2, h3 (by omega) (by omega), 8, by omega, by rw [k5, k4], by omega⟩))
    · obtain ⟨k1, k2, k3, k4, k5, k6, k7⟩ := h
      exact Or.inr (Or.inr (Or.inr ⟨by omega, by omega, by omega, k2, h3 (by omega) (by omega), (numB b cd).length, by have := numB_l b cd; omega, by rw [k6, k5], by omega⟩))
    · obtain ⟨k1, k2, k3, k4, k5, k6, k7, k8, k9, k10⟩ := h
      refine Or.inr (Or.inr (Or.inr ⟨by omega, by omega, by omega, k2, h3 (by omega) (by omega), D.2.2.1 * D.2.2.2.1.length, ?_, by rw [k6, k5], by omega⟩))
      rcases k3 with w | w | w <;> (rw [w]; omega)
    · obtain ⟨k1, k2, k3, k4, k5, k6, k7, k8⟩ := h
      exact Or.inr (Or.inr (Or.inr ⟨by omega, by omega, by omega, k2, h3 (by omega) (by omega), D.2.2.2.2.length, by omega, by rw [k4, k3], by omega⟩))
    · obtain ⟨k1, k2, k3, k, k4, k5, k6⟩ := h
      exact Or.inr (Or.inr (Or.inr ⟨by omega, by omega, by omega, k2, h3 (by omega) (by omega), k, by omega, by rw [k6, k5], by omega⟩))
    · obtain ⟨k1, k2, k3, k, k4, k5, k6, k7⟩ := h
      exact Or.inr (Or.inr (Or.inl ⟨k1, k2, h3 (by omega) (by omega), k, k4, k7⟩))
theorem al_m : ∀ k : Fin 11, ((1 : Int32) <<< ((-1 - (-1 - nI k.1)) &&& 31)) - 1 = nI (2 ^ k.1 - 1) ∧ (1 : Int32) <<< (nI k.1 &&& 31) - 1 = nI (2 ^ k.1 - 1) ∧ 2 ^ k.1 ≤ 1024 ∧ 1 ≤ 2 ^ k.1 := by decide +kernel
theorem and_b (x : Int32) {m : Nat} (hm : m < 2 ^ 31) : ∃ r : Nat, r ≤ m ∧ x &&& nI m = nI r := by
  obtain ⟨A, hA, e⟩ := nI_ex x
  refine ⟨A &&& m, Nat.and_le_right, ?_⟩
  rw [e]
  apply Int32.toBitVec_inj.mp
  show (BitVec.ofInt 32 (A : Int)) &&& (BitVec.ofInt 32 (m : Int)) = BitVec.ofInt 32 ((A &&& m : Nat) : Int)
  rw [BitVec.ofInt_natCast, BitVec.ofInt_natCast, BitVec.ofInt_natCast]
  apply BitVec.eq_of_toNat_eq
  rw [BitVec.toNat_and, BitVec.toNat_ofNat, BitVec.toNat_ofNat, BitVec.toNat_ofNat, Nat.mod_eq_of_lt hA, Nat.mod_eq_of_lt (by omega), Nat.mod_eq_of_lt (Nat.lt_of_le_of_lt Nat.and_le_left hA)]
/-- a length is small, and is what both count -/
theorem sz_1 {D : Dt} {bb : Int32} {fl l : Nat} (h : ZK D bb fl l) (off : Nat) : szN D bb l off ≤ 131072 ∧ (D.1 = 9 → szN D bb l off = 0) ∧ (D.1 = 8 → nI (szN D bb l off) = (-nI off) &&& (((1 : Int32) <<< ((-1 - bb) &&& 31)) - 1)) ∧ (D.1 = 1 ∨ D.1 = 2 → szN D bb l off = 2 * 2 ^ l) ∧ (¬ D.1 = 1 → ¬ D.1 = 2 → ¬ D.1 = 8 → nI (szN D bb l off) = bb) := by
  rcases h with ⟨h1, h2, h3, _⟩ | ⟨h1, h2, h3, _⟩ | ⟨h1, h2, h3, k, hk, hb⟩ | ⟨h1, h2, h3, h4, h5, m, hm, hb, h9⟩
  · have e : szN D bb l off = 2 * 2 ^ l := if_pos (Or.inl h1)
    have : l = 0 ∨ l = 1 := by omega
    refine ⟨?_, by omega, by omega, fun _ => e, fun w => absurd h1 w⟩
    rw [e]
    rcases this with w | w <;> (rw [w]; decide)
  · have e : szN D bb l off = 2 * 2 ^ l := if_pos (Or.inr h1)
    have : l = 0 ∨ l = 1 ∨ l = 2 := by omega
    refine ⟨?_, by omega, by omega, fun _ => e, fun _ w => absurd h1 w⟩
    rw [e]
    rcases this with w | w | w <;> (rw [w]; decide)
  · have e : szN D bb l off = ((-nI off) &&& (((1 : Int32) <<< ((-1 - bb) &&& 31)) - 1)).toNatClampNeg := (if_neg (by omega)).trans (if_pos h1)
    have ha := al_m ⟨k, by omega⟩
    rw [← hb] at ha
    have ha1 : ((1 : Int32) <<< ((-1 - bb) &&& 31)) - 1 = nI (2 ^ k - 1) := ha.1
    have ha3 : 2 ^ k ≤ 1024 ∧ 1 ≤ 2 ^ k := ha.2.2
    obtain ⟨r, hr, er⟩ := and_b (-nI off) (m := 2 ^ k - 1) (by omega)
    rw [e, ha1, er, nI_clamp (by omega)]
    exact ⟨by omega, by omega, fun _ => rfl, by omega, fun _ _ w => absurd h1 w⟩
  · have e : szN D bb l off = bb.toNatClampNeg := (if_neg (by omega)).trans (if_neg h3)
    rw [e, hb, nI_clamp (by omega)]
    exact ⟨by omega, fun w => h9 w, fun w => absurd w h3, by omega, fun _ _ _ => rfl⟩
theorem lay_l {Ds : Nat → Dt} {Zs : Nat → Nat} {BY : Nat → Int32} {lv Fs : Nat → Nat} : ∀ s : Nat, (∀ i : Nat, i < s → ZK (Ds i) (BY i) (Fs i) (lv i)) → (lay Ds Zs BY lv s).1 + (lay Ds Zs BY lv s).2 ≤ s * 131072 := fun s => by
  induction s with
  | zero => intro _; exact Nat.le_refl 0
  | succ s ih =>
    intro h
    have i1 := ih (fun i hi => h i (by omega))
    have h1 := (sz_1 (h s (by omega)) (lay Ds Zs BY lv s).1).1
    have h2 := (sz_1 (h s (by omega)) (lay Ds Zs BY lv s).2).1
    show (if Zs s = 1 then _ else _ : Nat × Nat).1 + (if Zs s = 1 then _ else _ : Nat × Nat).2 ≤ _
    split
    · show (lay Ds Zs BY lv s).1 + ((lay Ds Zs BY lv s).2 + _) ≤ _
      omega
    · show (lay Ds Zs BY lv s).1 + _ + (lay Ds Zs BY lv s).2 ≤ _
      omega
theorem lay_mu {Ds : Nat → Dt} {Zs : Nat → Nat} {BY : Nat → Int32} {lv Fs : Nat → Nat} {nS : Nat} (h : ∀ i : Nat, i < nS → ZK (Ds i) (BY i) (Fs i) (lv i)) : ∀ j s : Nat, s + j ≤ nS → mu Ds s = mu Ds (s + j) → lay Ds Zs BY lv (s + j) = lay Ds Zs BY lv s := fun j => by
  induction j with
  | zero => intro s _ _; rfl
  | succ j ih =>
    intro s hs hm
    have m1 := mu_m Ds j s
    have e : mu Ds (s + (j + 1)) = mu Ds (s + j) + (if (Ds (s + j)).1 = 9 then 0 else 1) := rfl
    have h9 : (Ds (s + j)).1 = 9 := Classical.byContradiction fun w => by
      rw [if_neg w] at e; omega
    rw [if_pos h9] at e
    have z1 := (sz_1 (h (s + j) (by omega)) (lay Ds Zs BY lv (s + j)).1).2.1 h9
    have z2 := (sz_1 (h (s + j) (by omega)) (lay Ds Zs BY lv (s + j)).2).2.1 h9
    have i1 := ih s (by omega) (by omega)
    rw [← i1]
    show (if Zs (s + j) = 1 then ((lay Ds Zs BY lv (s + j)).1, (lay Ds Zs BY lv (s + j)).2 + szN (Ds (s + j)) (BY (s + j)) (lv (s + j)) (lay Ds Zs BY lv (s + j)).2) else ((lay Ds Zs BY lv (s + j)).1 + szN (Ds (s + j)) (BY (s + j)) (lv (s + j)) (lay Ds Zs BY lv (s + j)).1, (lay Ds Zs BY lv (s + j)).2)) = _
    rw [z1, z2, Nat.add_zero, Nat.add_zero]
    split <;> rfl
theorem lay_e {Ds : Nat → Dt} {Zs : Nat → Nat} {BY : Nat → Int32} {lv Fs : Nat → Nat} {nS : Nat} (h : ∀ i : Nat, i < nS → ZK (Ds i) (BY i) (Fs i) (lv i)) {s t : Nat} (hs : s ≤ nS) (ht : t ≤ nS) (hm : mu Ds s = mu Ds t) : lay Ds Zs BY lv s = lay Ds Zs BY lv t := by
  by_cases z : s ≤ t
  · have := lay_mu (Zs := Zs) h (t - s) s (by omega) (by rw [show s + (t - s) = t by omega]; exact hm)
    rw [show s + (t - s) = t by omega] at this
    exact this.symm
  · have := lay_mu (Zs := Zs) h (s - t) t (by omega) (by rw [show t + (s - t) = s by omega]; exact hm.symm)
    rw [show t + (s - t) = s by omega] at this
    exact this
/-- a counting row turned round -/
theorem inv_ex (f : Nat → Nat) (hs : ∀ s : Nat, f (s + 1) = f s ∨ f (s + 1) = f s + 1) (h0 : f 0 = 0) : ∀ n : Nat, ∃ g : Nat → Nat, ∀ j : Nat, j < f n → g j < n ∧ f (g j) = j ∧ f (g j + 1) = j + 1 := fun n => by
  induction n with
  | zero => exact ⟨fun _ => 0, fun j hj => by omega⟩
  | succ n ih =>
    obtain ⟨g, hg⟩ := ih
    rcases hs n with h | h
    · exact ⟨g, fun j hj => by
        obtain ⟨a, b, d⟩ := hg j (by omega)
        exact ⟨by omega, b, d⟩⟩
    · refine ⟨nwF g (f n) n, fun j hj => ?_⟩
      by_cases z : j = f n
      · subst z
        rw [nw_1]
        exact ⟨by omega, rfl, h⟩
      · rw [nw_2 (by omega)]
        obtain ⟨a, b, d⟩ := hg j (by omega)
        exact ⟨by omega, b, d⟩
theorem sg_ex (Ds : Nat → Dt) (nS : Nat) : ∃ sg : Nat → Nat, (∀ i : Nat, i < mu Ds nS → sg i < nS ∧ mu Ds (sg i) = i ∧ ¬ (Ds (sg i)).1 = 9) ∧ sg (mu Ds nS) = nS := by
  obtain ⟨g, hg⟩ := inv_ex (mu Ds) (fun s => by
    show mu Ds s + (if (Ds s).1 = 9 then 0 else 1) = mu Ds s ∨ mu Ds s + (if (Ds s).1 = 9 then 0 else 1) = mu Ds s + 1
    split
    · exact Or.inl rfl
    · exact Or.inr rfl) rfl nS
  refine ⟨nwF g (mu Ds nS) nS, fun i hi => ?_, nw_1⟩
  rw [nw_2 hi]
  obtain ⟨a, b, d⟩ := hg i hi
  refine ⟨a, b, fun w => ?_⟩
  rw [mu_s, if_pos w, b] at d
  omega
theorem ek_ex (X : Nat → Nat) (nL : Nat) : ∃ ek : Nat → Nat, ∀ j : Nat, j < lam X nL → ek j < nL ∧ lam X (ek j) = j ∧ ¬ X (ek j) / 131072 = 2 := by
  obtain ⟨g, hg⟩ := inv_ex (lam X) (fun s => by
    show lam X s + (if X s / 131072 = 2 then 0 else 1) = lam X s ∨ lam X s + (if X s / 131072 = 2 then 0 else 1) = lam X s + 1
    split
    · exact Or.inl rfl
    · exact Or.inr rfl) rfl nL
  refine ⟨g, fun j hj => ?_⟩
  obtain ⟨a, b, d⟩ := hg j hj
  refine ⟨a, b, fun w => ?_⟩
  have e : lam X (g j + 1) = lam X (g j) + (if X (g j) / 131072 = 2 then 0 else 1) := rfl
  rw [e, if_pos w, b] at d
  omega
/-- the statement before which a label stands, in the reference -/
def sK (N0 : Nat → Nat) (nS k : Nat) : Nat := fN (fun s => decide (k < N0 s)) 0 nS
theorem sK_1 (N0 : Nat → Nat) (nS k : Nat) : sK N0 nS k ≤ nS ∧ (sK N0 nS k < nS → k < N0 (sK N0 nS k)) ∧ ∀ s : Nat, s < sK N0 nS k → N0 s ≤ k := by
  obtain ⟨a, b, d, f⟩ := fN_le (fun s => decide (k < N0 s)) nS 0
  refine ⟨by unfold sK; omega, fun h => ?_, fun s hs => ?_⟩
  · have := d (by unfold sK at h; omega)
    exact of_decide_eq_true this
  · have := f s (Nat.zero_le _) hs
    exact Nat.not_lt.mp (of_decide_eq_false this)
theorem sK_m {N0 sc : Nat → Nat} {Ds : Nat → Dt} {nS nL sn k : Nat} (hsn : sn = mu Ds nS) (h1 : ∀ k : Nat, k < nL → sc k ≤ sn) (h2 : ∀ k s : Nat, k < nL → s < nS → (k < N0 s → sc k ≤ mu Ds s) ∧ (N0 s ≤ k → mu Ds (s + 1) ≤ sc k)) (hk : k < nL) : mu Ds (sK N0 nS k) = sc k := by
  obtain ⟨a, b, d⟩ := sK_1 N0 nS k
  have up : sc k ≤ mu Ds (sK N0 nS k) := by
    by_cases z : sK N0 nS k < nS
    · exact (h2 k _ hk z).1 (b z)
    · rw [show sK N0 nS k = nS by omega, ← hsn]; exact h1 k hk
  by_cases z : sK N0 nS k = 0
  · rw [z] at up ⊢
    have : mu Ds 0 = 0 := rfl
    omega
  · have := (h2 k (sK N0 nS k - 1) hk (by omega)).2 (d _ (by omega))
    rw [show sK N0 nS k - 1 + 1 = sK N0 nS k by omega] at this
    omega

/-- the class finds all addresses -/
theorem pR_2 {S : St} {k : Nat} {f g : Nat → Int32} : pR (pR S k f) k g = pR S k g := Prod.ext rfl (Prod.ext rfl (Prod.ext (funext fun j => by
  show (if j = k then g else if j = k then f else S.2.2.1 j) = (if j = k then g else S.2.2.1 j)
  by_cases z : j = k
  · rw [if_pos z, if_pos z]
  · rw [if_neg z, if_neg z, if_neg z]) rfl))
theorem pR_e {S : St} {k : Nat} {f : Nat → Int32} : sR (pR S k f) k = f := if_pos rfl
theorem ix8 (j k : Nat) : nI j * 8 + nI k = nI (8 * j + k) := by
  rw [show (8 : Int32) = nI 8 from rfl, pk_mul, nI_add, Nat.mul_comm]
theorem ix8z (j : Nat) : nI j * 8 = nI (8 * j) := by
  rw [show (8 : Int32) = nI 8 from rfl, pk_mul, Nat.mul_comm]
def plF (LB v : Nat → Int32) (l j1 : Nat) : Nat → Int32 := fun x => if x % 5 = 2 ∧ l ≤ x / 5 ∧ x / 5 < j1 then v (x / 5) else LB x
theorem pl_58 {n : Nat} {Q U : St} {nl i t d : Nat} {SW : Nat → Int32} (G : Int32 → Int32 → Int32 → Int32 → (St × St) → Option (St × St)) (h9 : sI U 9 = nI nl) (hnl : nl ≤ 16384) (hi : i < 2 ^ 20) (cZ : Nat → Nat) (hcZ : ∀ j : Nat, cZ j < 2) (j1 : Nat) (hj1 : j1 ≤ nl) : ∀ (m l g : Nat) (LB : Nat → Int32), l + m = j1 → m < g → (∀ j : Nat, l ≤ j → j < j1 → LB (5 * j) = nI i) → (∀ j : Nat, l ≤ j → j < j1 → LB (5 * j + 1) = nI (cZ j)) → (j1 < nl → ∃ i' : Nat, LB (5 * j1) = nI i' ∧ ¬ i' = i ∧ i' < 2 ^ 20) → df_X1_findAddresses_18 n G g (nI t) (nI d) (nI l) (nI i) (pR Q 0 SW, pR U 6 LB) = df_X1_findAddresses_58 n G (nI t) (nI d) (nI j1) (nI i) (pR Q 0 SW, pR U 6 (plF LB (fun j => if cZ j = 0 then nI t else nI d) l j1)) := fun m => by
  induction m with
  | zero =>
    intro l g LB h1 h2 h3 h4 h5
    have : l = j1 := by omega
    subst this
    obtain ⟨g, rfl⟩ : ∃ k : Nat, g = k + 1 := ⟨g - 1, by omega⟩
    have e : plF LB (fun j => if cZ j = 0 then nI t else nI d) l l = LB := funext fun x => if_neg (by omega)
    rw [e]
    show dF_X1_findAddresses_18 n G (df_X1_findAddresses_18 n G g) (nI t) (nI d) (nI l) (nI i) (pR Q 0 SW, pR U 6 LB) = _
    unfold dF_X1_findAddresses_18
    rw [show sI (pR Q 0 SW, pR U 6 LB).2 9 = nI nl from h9]
    by_cases z : nl ≤ l
    · rw [if_pos (zle z (by omega))]
    · rw [if_neg (znle (show l < nl by omega) (by omega))]
      obtain ⟨i', w1, w2, w3⟩ := h5 (by omega)
      unfold df_X9_standsBefore df_X9_standsBefore_0 df_X9_standsBefore_19
      rw [show nI l * 5 + 0 = nI (5 * l) from ix5 l 0, nm_ck (by omega) (by omega), nI_clamp (by omega), show sR (pR Q 0 SW, pR U 6 LB).2 6 = LB from pR_e, w1, if_neg (zne w2 (by omega) (by omega)), show nd_z .boolean (0 : Int32) (some ((0 : Int32), (pR Q 0 SW, pR U 6 LB).2)) = some (0, (pR Q 0 SW, pR U 6 LB).2) from nar_z (by decide), nb_b2, nb_let, if_pos rfl]
  | succ m ih =>
    intro l g LB h1 h2 h3 h4 h5
    obtain ⟨g, rfl⟩ : ∃ k : Nat, g = k + 1 := ⟨g - 1, by omega⟩
    show dF_X1_findAddresses_18 n G (df_X1_findAddresses_18 n G g) (nI t) (nI d) (nI l) (nI i) (pR Q 0 SW, pR U 6 LB) = _
    unfold dF_X1_findAddresses_18
    rw [show sI (pR Q 0 SW, pR U 6 LB).2 9 = nI nl from h9, if_neg (znle (show l < nl by omega) (by omega))]
    unfold df_X9_standsBefore df_X9_standsBefore_0 df_X9_standsBefore_19
    rw [show nI l * 5 + 0 = nI (5 * l) from ix5 l 0, nm_ck (by omega) (by omega), nI_clamp (by omega), show sR (pR Q 0 SW, pR U 6 LB).2 6 = LB from pR_e, h3 l (Nat.le_refl _) (by omega), if_pos rfl, show nd_z .boolean (1 : Int32) (some ((1 : Int32), (pR Q 0 SW, pR U 6 LB).2)) = some (1, (pR Q 0 SW, pR U 6 LB).2) from nar_z (by decide), nb_b2, nb_let, if_neg (show ¬ (1 : Int32) = 0 by decide)]
    have pl : df_X9_place n (nI l) (nI t) (nI d) (pR U 6 LB) = some (pR U 6 (upd LB (5 * l + 2) (if cZ l = 0 then nI t else nI d))) := by
      unfold df_X9_place df_X9_place_0 df_X9_place_27
      rw [show nI l * 5 + 1 = nI (5 * l + 1) from ix5 l 1, show nI l * 5 + 2 = nI (5 * l + 2) from ix5 l 2, nm_ck (by omega) (by omega), nI_clamp (by omega), pR_e, h4 l (Nat.le_refl _) (by omega)]
      have := hcZ l
      by_cases z : cZ l = 0
      · rw [if_pos (show nI (cZ l) = 0 from congrArg nI z), nm_ck (by omega) (by omega), nI_clamp (by omega), pR_2, nb_let, if_pos z]
      · rw [if_neg (show ¬ nI (cZ l) = 0 from zne (b := 0) z (by omega) (by omega)), nm_ck (by omega) (by omega), nI_clamp (by omega), pR_2, nb_let, if_neg z]
    rw [show df_X9_place n (nI l) (nI t) (nI d) (pR Q 0 SW, (pR Q 0 SW, pR U 6 LB).2).2 = _ from pl, nb_b1, nb_let, nb_let, show nI l + Int32.ofInt 1 = nI (l + 1) from nI_add l 1]
    rw [show ((pR Q 0 SW, (pR Q 0 SW, pR U 6 LB).2).1, pR U 6 (upd LB (5 * l + 2) (if cZ l = 0 then nI t else nI d))) = (pR Q 0 SW, pR U 6 (upd LB (5 * l + 2) (if cZ l = 0 then nI t else nI d))) from rfl]
    rw [ih (l + 1) g (upd LB (5 * l + 2) (if cZ l = 0 then nI t else nI d)) (by omega) (by omega) (fun j j1' j2' => by rw [up_n (by omega)]; exact h3 j (by omega) j2') (fun j j1' j2' => by rw [up_n (by omega)]; exact h4 j (by omega) j2') (fun z => by
      obtain ⟨i', w1, w2, w3⟩ := h5 z
      exact ⟨i', by rw [up_n (by omega)]; exact w1, w2, w3⟩)]
    have e : plF (upd LB (5 * l + 2) (if cZ l = 0 then nI t else nI d)) (fun j => if cZ j = 0 then nI t else nI d) (l + 1) j1 = plF LB (fun j => if cZ j = 0 then nI t else nI d) l j1 := funext fun x => by
      unfold plF
      by_cases y : x % 5 = 2 ∧ l ≤ x / 5 ∧ x / 5 < j1
      · rw [if_pos y]
        by_cases w : x / 5 = l
        · rw [if_neg (by omega), w, show x = 5 * l + 2 by omega, up_e]
        · rw [if_pos (by omega)]
      · rw [if_neg y, if_neg (by omega), up_n (by omega)]
    rw [e]
/-- one statement -/
theorem fa_58 {n : Nat} {Q U : St} {sn i t d l : Nat} {SW LB : Nat → Int32} (G : Int32 → Int32 → Int32 → Int32 → (St × St) → Option (St × St)) (h0 : sI Q 0 = nI sn) (hi : i < sn) (hsn : sn ≤ 8194) {z kd len pl : Nat} (hz : z < 2) (hpl : pl = if z = 1 then d else t) (h1 : SW (8 * i + 1) = nI z) (h4 : SW (8 * i + 4) = nI kd) (hkd : kd < 10) (h8 : kd = 8 → nI len = (-nI pl) &&& (SW (8 * i + 5) - 1)) (h3 : ¬ kd = 8 → SW (8 * i + 3) = nI len) : df_X1_findAddresses_58 n G (nI t) (nI d) (nI l) (nI i) (pR Q 0 SW, pR U 6 LB) = G (nI (if z = 1 then t else t + len)) (nI (if z = 1 then d + len else d)) (nI l) (nI (i + 1)) (pR Q 0 (upd (upd SW (8 * i + 2) (nI pl)) (8 * i + 3) (nI len)), pR U 6 LB) := by
  have e91 : df_X1_findAddresses_91 n G (nI t) (nI d) (nI l) (nI i) (nI (8 * i)) (nI pl) (pR Q 0 SW, pR U 6 LB) = G (nI (if z = 1 then t else t + len)) (nI (if z = 1 then d + len else d)) (nI l) (nI (i + 1)) (pR Q 0 (upd (upd SW (8 * i + 2) (nI pl)) (8 * i + 3) (nI len)), pR U 6 LB) := by
    have e142 : ∀ SW' : Nat → Int32, SW' (8 * i + 1) = nI z → SW' (8 * i + 3) = nI len → df_X1_findAddresses_142 n G (nI t) (nI d) (nI l) (nI i) (nI (8 * i)) (pR Q 0 SW', pR U 6 LB) = G (nI (if z = 1 then t else t + len)) (nI (if z = 1 then d + len else d)) (nI l) (nI (i + 1)) (pR Q 0 SW', pR U 6 LB) := fun SW' g1 g3 => by
      unfold df_X1_findAddresses_142 df_X1_findAddresses_181
      rw [show nI (8 * i) + 1 = nI (8 * i + 1) from nI_add (8 * i) 1, show nI (8 * i) + 3 = nI (8 * i + 3) from nI_add (8 * i) 3, nm_ck (by omega) (by omega), nI_clamp (by omega), show sR (pR Q 0 SW', pR U 6 LB).1 0 = SW' from pR_e, g1, nI_clamp (by omega), g3, nI_add, nI_add, show nI i + Int32.ofInt 1 = nI (i + 1) from nI_add i 1]
      by_cases y : z = 1
      · rw [if_neg (show ¬ nI z = 0 from zne (b := 0) (by omega) (by omega) (by omega)), nm_ck (by omega) (by omega), nb_let, nb_let, if_pos y, if_pos y]
      · rw [if_pos (show nI z = 0 from congrArg nI (show z = 0 by omega)), nm_ck (by omega) (by omega), nb_let, nb_let, if_neg y, if_neg y]
    unfold df_X1_findAddresses_91
    rw [show nI (8 * i) + 2 = nI (8 * i + 2) from nI_add (8 * i) 2, show nI (8 * i) + 4 = nI (8 * i + 4) from nI_add (8 * i) 4, show nI (8 * i) + 5 = nI (8 * i + 5) from nI_add (8 * i) 5, show nI (8 * i) + 3 = nI (8 * i + 3) from nI_add (8 * i) 3, nm_ck (by omega) (by omega), nI_clamp (by omega)]
    rw [show sR (pR Q 0 SW, pR U 6 LB).1 0 = SW from pR_e, show pR (pR Q 0 SW, pR U 6 LB).1 0 (upd SW (8 * i + 2) (nI pl)) = pR Q 0 (upd SW (8 * i + 2) (nI pl)) from pR_2, nb_let, nm_ck (by omega) (by omega), nI_clamp (by omega)]
    rw [show sR (pR Q 0 (upd SW (8 * i + 2) (nI pl)), (pR Q 0 SW, pR U 6 LB).2).1 0 = upd SW (8 * i + 2) (nI pl) from pR_e, up_n (show ¬ 8 * i + 4 = 8 * i + 2 by omega), h4]
    by_cases y : kd = 8
    · rw [if_pos (show nI kd = 8 from congrArg nI y), nm_ck (by omega) (by omega), nI_clamp (by omega), nm_ck (by omega) (by omega), nI_clamp (by omega), up_n (show ¬ 8 * i + 5 = 8 * i + 2 by omega), ← h8 y]
      rw [show pR (pR Q 0 (upd SW (8 * i + 2) (nI pl)), (pR Q 0 SW, pR U 6 LB).2).1 0 (upd (upd SW (8 * i + 2) (nI pl)) (8 * i + 3) (nI len)) = pR Q 0 (upd (upd SW (8 * i + 2) (nI pl)) (8 * i + 3) (nI len)) from pR_2, nb_let]
      exact e142 (upd (upd SW (8 * i + 2) (nI pl)) (8 * i + 3) (nI len)) (by rw [up_n (by omega), up_n (by omega)]; exact h1) up_e
    · rw [if_neg (show ¬ nI kd = 8 from zne (b := 8) y (by omega) (by omega))]
      have eu : upd SW (8 * i + 2) (nI pl) = upd (upd SW (8 * i + 2) (nI pl)) (8 * i + 3) (nI len) := (upd_s (by rw [up_n (by omega)]; exact h3 y)).symm
      rw [show (pR Q 0 (upd SW (8 * i + 2) (nI pl)), (pR Q 0 SW, pR U 6 LB).2) = (pR Q 0 (upd SW (8 * i + 2) (nI pl)), pR U 6 LB) from rfl, ← eu]
      exact e142 (upd SW (8 * i + 2) (nI pl)) (by rw [up_n (by omega)]; exact h1) (by rw [up_n (by omega)]; exact h3 y)
  unfold df_X1_findAddresses_58
  rw [show sI (pR Q 0 SW, pR U 6 LB).1 0 = nI sn from h0, if_neg (znle hi (by omega)), show nI i * 8 = nI (8 * i) from ix8z i, nb_let, show nI (8 * i) + 1 = nI (8 * i + 1) from nI_add (8 * i) 1, nm_ck (by omega) (by omega), nI_clamp (by omega), show sR (pR Q 0 SW, pR U 6 LB).1 0 = SW from pR_e, h1]
  by_cases y : z = 1
  · rw [if_neg (show ¬ nI z = 0 from zne (b := 0) (by omega) (by omega) (by omega))]
    rw [if_pos y] at hpl
    rw [← hpl] at e91 ⊢
    exact e91
  · rw [if_pos (show nI z = 0 from congrArg nI (show z = 0 by omega))]
    rw [if_neg y] at hpl
    rw [← hpl] at e91 ⊢
    exact e91

/-- labels before a statement of the class: how many stand before statement i -/
def lC (cS : Nat → Nat) (nl i : Nat) : Nat := fN (fun j => !decide (cS j < i)) 0 nl
theorem lC_1 {cS : Nat → Nat} {nl i : Nat} (hm : ∀ j j' : Nat, j < j' → j' < nl → cS j ≤ cS j') : lC cS nl i ≤ nl ∧ (∀ j : Nat, j < lC cS nl i → cS j < i) ∧ ∀ j : Nat, lC cS nl i ≤ j → j < nl → i ≤ cS j := by
  obtain ⟨a, b, d, f⟩ := fN_le (fun j => !decide (cS j < i)) nl 0
  have hb : lC cS nl i ≤ nl := by unfold lC; omega
  refine ⟨hb, fun j hj => ?_, fun j h1 h2 => ?_⟩
  · have g : (!decide (cS j < i)) = false := f j (Nat.zero_le _) hj
    exact Classical.byContradiction fun y => by
      rw [decide_eq_false y] at g
      exact absurd g (by decide)
  · have g : (!decide (cS (lC cS nl i) < i)) = true := d (by unfold lC at h1; omega)
    have g2 : i ≤ cS (lC cS nl i) := Nat.not_lt.mp fun y => by
      rw [decide_eq_true y] at g
      exact absurd g (by decide)
    by_cases z : lC cS nl i = j
    · rw [← z]; exact g2
    · have := hm (lC cS nl i) j (by omega) h2
      omega
theorem lC_0 {cS : Nat → Nat} {nl : Nat} (hm : ∀ j j' : Nat, j < j' → j' < nl → cS j ≤ cS j') : lC cS nl 0 = 0 := by
  have := (lC_1 (i := 0) hm).2.1 0
  omega
theorem lC_s {cS : Nat → Nat} {nl i : Nat} (hm : ∀ j j' : Nat, j < j' → j' < nl → cS j ≤ cS j') : lC cS nl i ≤ lC cS nl (i + 1) ∧ ∀ j : Nat, lC cS nl i ≤ j → j < lC cS nl (i + 1) → cS j = i := by
  obtain ⟨a1, a2, a3⟩ := lC_1 (i := i) hm
  obtain ⟨b1, b2, b3⟩ := lC_1 (i := i + 1) hm
  refine ⟨Nat.not_lt.mp fun z => ?_, fun j h1 h2 => ?_⟩
  · have := a2 (lC cS nl (i + 1)) z
    have := b3 (lC cS nl (i + 1)) (Nat.le_refl _) (by omega)
    omega
  · have := b2 j h2
    have := a3 j h1 (by omega)
    omega
/-- rows while addresses are found -/
def SWf (SW : Nat → Int32) (pl ln : Nat → Nat) (i : Nat) : Nat → Int32 := fun x => if x / 8 < i ∧ x % 8 = 2 then nI (pl (x / 8)) else if x / 8 < i ∧ x % 8 = 3 then nI (ln (x / 8)) else SW x
def LBf (LB : Nat → Int32) (v : Nat → Nat) (l : Nat) : Nat → Int32 := fun x => if x / 5 < l ∧ x % 5 = 2 then nI (v (x / 5)) else LB x
theorem SWf_0 {SW : Nat → Int32} {pl ln : Nat → Nat} : SWf SW pl ln 0 = SW := funext fun x => by
  unfold SWf
  rw [if_neg (by omega), if_neg (by omega)]
theorem LBf_0 {LB : Nat → Int32} {v : Nat → Nat} : LBf LB v 0 = LB := funext fun x => by
  unfold LBf
  rw [if_neg (by omega)]
theorem SWf_s {SW : Nat → Int32} {pl ln : Nat → Nat} {i : Nat} : upd (upd (SWf SW pl ln i) (8 * i + 2) (nI (pl i))) (8 * i + 3) (nI (ln i)) = SWf SW pl ln (i + 1) := funext fun x => by
  unfold SWf
  by_cases z3 : x = 8 * i + 3
  · rw [z3, up_e, if_neg (by omega), if_pos (by omega), show (8 * i + 3) / 8 = i by omega]
  · rw [up_n z3]
    by_cases z2 : x = 8 * i + 2
    · rw [z2, up_e, if_pos (by omega), show (8 * i + 2) / 8 = i by omega]
    · rw [up_n z2]
      by_cases y : x / 8 < i ∧ x % 8 = 2
      · rw [if_pos y, if_pos (by omega)]
      · rw [if_neg y, if_neg (show ¬ (x / 8 < i + 1 ∧ x % 8 = 2) by omega)]
        by_cases w : x / 8 < i ∧ x % 8 = 3
        · rw [if_pos w, if_pos (by omega)]
        · rw [if_neg w, if_neg (by omega)]
theorem SWf_o {SW : Nat → Int32} {pl ln : Nat → Nat} {i j k : Nat} (h : i ≤ j) (hk : k < 8) : SWf SW pl ln i (8 * j + k) = SW (8 * j + k) := by
  unfold SWf
  rw [if_neg (by omega), if_neg (by omega)]
theorem SWf_r {SW : Nat → Int32} {pl ln : Nat → Nat} {i j k : Nat} (hk : k < 8) (h2 : ¬ k = 2) (h3 : ¬ k = 3) : SWf SW pl ln i (8 * j + k) = SW (8 * j + k) := by
  unfold SWf
  rw [if_neg (by omega), if_neg (by omega)]
theorem LBf_s {LB : Nat → Int32} {v : Nat → Nat} {l j1 : Nat} (h : l ≤ j1) (u : Nat → Int32) (hu : ∀ j : Nat, l ≤ j → j < j1 → u j = nI (v j)) : plF (LBf LB v l) u l j1 = LBf LB v j1 := funext fun x => by
  unfold plF LBf
  by_cases y : x % 5 = 2 ∧ l ≤ x / 5 ∧ x / 5 < j1
  · rw [if_pos y, if_pos (by omega), hu _ y.2.1 y.2.2]
  · rw [if_neg y]
    by_cases w : x / 5 < l ∧ x % 5 = 2
    · rw [if_pos w, if_pos (by omega)]
    · rw [if_neg w, if_neg (by omega)]
theorem LBf_r {LB : Nat → Int32} {v : Nat → Nat} {l j k : Nat} (hk : k < 5) (h2 : ¬ k = 2) : LBf LB v l (5 * j + k) = LB (5 * j + k) := by
  unfold LBf
  rw [if_neg (by omega)]
/-- all statements -/
theorem fa_9 {n : Nat} {Q U : St} {sn nl : Nat} {SW LB : Nat → Int32} (hn : 70000 < n) (h0 : sI Q 0 = nI sn) (h9 : sI U 9 = nI nl) (hsn : sn ≤ 8194) (hnl : nl ≤ 16384) (cS cZ : Nat → Nat) (hcZ : ∀ j : Nat, cZ j < 2) (hm : ∀ j j' : Nat, j < j' → j' < nl → cS j ≤ cS j') (hcs : ∀ j : Nat, j < nl → cS j ≤ sn) (hL0 : ∀ j : Nat, j < nl → LB (5 * j) = nI (cS j) ∧ LB (5 * j + 1) = nI (cZ j)) (F : Nat → Nat × Nat) (z kd ln pl : Nat → Nat) (hst : ∀ i : Nat, i < sn → z i < 2 ∧ pl i = (if z i = 1 then (F i).2 else (F i).1) ∧ F (i + 1) = (if z i = 1 then ((F i).1, (F i).2 + ln i) else ((F i).1 + ln i, (F i).2)) ∧ SW (8 * i + 1) = nI (z i) ∧ SW (8 * i + 4) = nI (kd i) ∧ kd i < 10 ∧ (kd i = 8 → nI (ln i) = (-nI (pl i)) &&& (SW (8 * i + 5) - 1)) ∧ (¬ kd i = 8 → SW (8 * i + 3) = nI (ln i))) (v : Nat → Nat) (hv : ∀ j : Nat, j < nl → v j = if cZ j = 0 then (F (cS j)).1 else (F (cS j)).2) : ∀ (m i g : Nat), i + m = sn → m + 1 < g → df_X1_findAddresses_9 n g (nI (F i).1) (nI (F i).2) (nI (lC cS nl i)) (nI i) (pR Q 0 (SWf SW pl ln i), pR U 6 (LBf LB v (lC cS nl i))) = nd_let (pI (pR Q 0 (SWf SW pl ln sn)) 7 (nI (F sn).1), pR U 6 (LBf LB v nl)) (fun (s2 : St × St) => nd_let (pI s2.1 8 ((((nI (F sn).1 + 1024) - 1) / 1024) * 1024), s2.2) (fun (s3 : St × St) => if nI (F sn).2 ≤ 0 then (df_X1_findAddresses_226 n (nI (F sn).1) s3) else (df_X1_findAddresses_226 n (sI s3.1 8 + nI (F sn).2) s3))) := fun m => by
  have inner : ∀ (i g : Nat) (G : Int32 → Int32 → Int32 → Int32 → (St × St) → Option (St × St)), i ≤ sn → nl < g → df_X1_findAddresses_18 n G g (nI (F i).1) (nI (F i).2) (nI (lC cS nl i)) (nI i) (pR Q 0 (SWf SW pl ln i), pR U 6 (LBf LB v (lC cS nl i))) = df_X1_findAddresses_58 n G (nI (F i).1) (nI (F i).2) (nI (lC cS nl (i + 1))) (nI i) (pR Q 0 (SWf SW pl ln i), pR U 6 (LBf LB v (lC cS nl (i + 1)))) := fun i g G hi hg => by
    obtain ⟨a1, a2, a3⟩ := lC_1 (i := i) hm
    obtain ⟨b1, b2, b3⟩ := lC_1 (i := i + 1) hm
    obtain ⟨s1, s2⟩ := lC_s (i := i) hm
    rw [pl_58 (nl := nl) G h9 hnl (by omega) cZ hcZ (lC cS nl (i + 1)) b1 (lC cS nl (i + 1) - lC cS nl i) (lC cS nl i) g (LBf LB v (lC cS nl i)) (by omega) (by omega) (fun j j1 j2 => by
      rw [show 5 * j = 5 * j + 0 by omega, LBf_r (by omega) (by omega)]
      rw [show 5 * j + 0 = 5 * j by omega, (hL0 j (by omega)).1, s2 j j1 j2]) (fun j j1 j2 => by
      rw [LBf_r (by omega) (by omega)]
      exact (hL0 j (by omega)).2) (fun hz => ⟨cS (lC cS nl (i + 1)), by
        rw [show 5 * lC cS nl (i + 1) = 5 * lC cS nl (i + 1) + 0 by omega, LBf_r (by omega) (by omega)]
        exact (hL0 _ hz).1, by have := b3 _ (Nat.le_refl _) hz; omega, by have := hcs _ hz; omega⟩)]
    rw [LBf_s s1 _ (fun j j1 j2 => by
      show (if cZ j = 0 then nI (F i).1 else nI (F i).2) = nI (v j)
      rw [hv j (by omega), s2 j j1 j2]
      split <;> rfl)]
  induction m with
  | zero =>
    intro i g h1 h2
    have : i = sn := by omega
    subst this
    obtain ⟨g, rfl⟩ : ∃ k : Nat, g = k + 1 + 1 := ⟨g - 2, by omega⟩
    show dF_X1_findAddresses_9 n (df_X1_findAddresses_9 n (g + 1)) (nI (F i).1) (nI (F i).2) (nI (lC cS nl i)) (nI i) (pR Q 0 (SWf SW pl ln i), pR U 6 (LBf LB v (lC cS nl i))) = _
    unfold dF_X1_findAddresses_9
    rw [show sI (pR Q 0 (SWf SW pl ln i), pR U 6 (LBf LB v (lC cS nl i))).1 0 = nI i from h0, if_neg (znl (Nat.le_refl i) (by omega)), inner i n _ (Nat.le_refl _) (by omega)]
    have e : lC cS nl (i + 1) = nl := by
      obtain ⟨b1, b2, b3⟩ := lC_1 (i := i + 1) hm
      refine Classical.byContradiction fun y => ?_
      have := b3 (lC cS nl (i + 1)) (Nat.le_refl _) (by omega)
      have := hcs (lC cS nl (i + 1)) (by omega)
      omega
    rw [e]
    unfold df_X1_findAddresses_58 df_X1_findAddresses_181
    rw [show sI (pR Q 0 (SWf SW pl ln i), pR U 6 (LBf LB v nl)).1 0 = nI i from h0, if_pos (zle (Nat.le_refl i) (by omega)), nb_let, show nI i + Int32.ofInt 1 = nI (i + 1) from nI_add i 1]
    show dF_X1_findAddresses_9 n (df_X1_findAddresses_9 n g) (nI (F i).1) (nI (F i).2) (nI nl) (nI (i + 1)) (pR Q 0 (SWf SW pl ln i), pR U 6 (LBf LB v nl)) = _
    unfold dF_X1_findAddresses_9
    rw [show sI (pR Q 0 (SWf SW pl ln i), pR U 6 (LBf LB v nl)).1 0 = nI i from h0, if_pos (zlt (by omega) (by omega))]
  | succ m ih =>
    intro i g h1 h2
    obtain ⟨g, rfl⟩ : ∃ k : Nat, g = k + 1 := ⟨g - 1, by omega⟩
    show dF_X1_findAddresses_9 n (df_X1_findAddresses_9 n g) (nI (F i).1) (nI (F i).2) (nI (lC cS nl i)) (nI i) (pR Q 0 (SWf SW pl ln i), pR U 6 (LBf LB v (lC cS nl i))) = _
    unfold dF_X1_findAddresses_9
    rw [show sI (pR Q 0 (SWf SW pl ln i), pR U 6 (LBf LB v (lC cS nl i))).1 0 = nI sn from h0, if_neg (znl (show i ≤ sn by omega) (by omega)), inner i n _ (by omega) (by omega)]
    obtain ⟨c1, c2, c3, c4, c5, c6, c7, c8⟩ := hst i (by omega)
    rw [fa_58 (sn := sn) (kd := kd i) (len := ln i) (pl := pl i) (z := z i) (df_X1_findAddresses_9 n g) h0 (by omega) hsn c1 c2 (by rw [SWf_o (Nat.le_refl _) (by omega)]; exact c4) (by rw [SWf_o (Nat.le_refl _) (by omega)]; exact c5) c6 (fun w => by rw [SWf_o (Nat.le_refl _) (by omega)]; exact c7 w) (fun w => by rw [SWf_o (Nat.le_refl _) (by omega)]; exact c8 w), SWf_s]
    have := ih (i + 1) g (by omega) (by omega)
    rw [c3] at this
    rw [← this]
    by_cases y : z i = 1
    · rw [if_pos y, if_pos y, if_pos y]
    · rw [if_neg y, if_neg y, if_neg y]
/-- data moves behind the text -/
def SWm (SW : Nat → Int32) (z : Nat → Nat) (D : Int32) (i : Nat) : Nat → Int32 := fun x => if x / 8 < i ∧ x % 8 = 2 ∧ z (x / 8) = 1 then SW x + D else SW x
def LBm (LB : Nat → Int32) (z : Nat → Nat) (D : Int32) (i : Nat) : Nat → Int32 := fun x => if x / 5 < i ∧ x % 5 = 2 ∧ z (x / 5) = 1 then LB x + D else LB x
theorem mv_51 {n : Nat} {Q U : St} {nl : Nat} {D : Int32} {LB : Nat → Int32} (h8 : sI Q 8 = D) (h9 : sI U 9 = nI nl) (hnl : nl ≤ 16384) (cZ : Nat → Nat) (hz : ∀ j : Nat, j < nl → cZ j < 2 ∧ LB (5 * j + 1) = nI (cZ j)) : ∀ m j g : Nat, j + m = nl → m < g → df_X1_moveData_51 n g (nI j) (Q, pR U 6 (LBm LB cZ D j)) = some (Q, pR U 6 (LBm LB cZ D nl)) := fun m => by
  induction m with
  | zero =>
    intro j g h1 h2
    have : j = nl := by omega
    subst this
    obtain ⟨g, rfl⟩ : ∃ k : Nat, g = k + 1 := ⟨g - 1, by omega⟩
    show dF_X1_moveData_51 n (df_X1_moveData_51 n g) (nI j) (Q, pR U 6 (LBm LB cZ D j)) = _
    unfold dF_X1_moveData_51
    rw [show sI (Q, pR U 6 (LBm LB cZ D j)).2 9 = nI j from h9, if_pos (zle (Nat.le_refl j) (by omega))]
  | succ m ih =>
    intro j g h1 h2
    obtain ⟨g, rfl⟩ : ∃ k : Nat, g = k + 1 := ⟨g - 1, by omega⟩
    show dF_X1_moveData_51 n (df_X1_moveData_51 n g) (nI j) (Q, pR U 6 (LBm LB cZ D j)) = _
    unfold dF_X1_moveData_51 df_X1_moveData_99
    obtain ⟨z1, z2⟩ := hz j (by omega)
    have e1 : LBm LB cZ D j (5 * j + 1) = nI (cZ j) := by
      unfold LBm
      rw [if_neg (by omega)]; exact z2
    rw [show sI (Q, pR U 6 (LBm LB cZ D j)).2 9 = nI nl from h9, if_neg (znle (show j < nl by omega) (by omega)), show nI j * 5 + 1 = nI (5 * j + 1) from ix5 j 1, show nI j * 5 + 2 = nI (5 * j + 2) from ix5 j 2, nm_ck (by omega) (by omega), nI_clamp (by omega), show sR (Q, pR U 6 (LBm LB cZ D j)).2 6 = LBm LB cZ D j from pR_e, e1]
    by_cases y : cZ j = 1
    · rw [if_pos (show nI (cZ j) = 1 from congrArg nI y), nm_ck (by omega) (by omega), nm_ck (by omega) (by omega), nI_clamp (by omega)]
      rw [show sI (Q, pR U 6 (LBm LB cZ D j)).1 8 = D from h8, show pR (Q, pR U 6 (LBm LB cZ D j)).2 6 (upd (LBm LB cZ D j) (5 * j + 2) (LBm LB cZ D j (5 * j + 2) + D)) = pR U 6 (upd (LBm LB cZ D j) (5 * j + 2) (LBm LB cZ D j (5 * j + 2) + D)) from pR_2, nb_let, nb_let, show nI j + Int32.ofInt 1 = nI (j + 1) from nI_add j 1]
      have e : upd (LBm LB cZ D j) (5 * j + 2) (LBm LB cZ D j (5 * j + 2) + D) = LBm LB cZ D (j + 1) := funext fun x => by
        by_cases w : x = 5 * j + 2
        · rw [w, up_e]
          unfold LBm
          rw [if_neg (by omega), if_pos ⟨by omega, by omega, by rw [show (5 * j + 2) / 5 = j by omega]; exact y⟩]
        · rw [up_n w]
          unfold LBm
          by_cases u : x / 5 < j ∧ x % 5 = 2 ∧ cZ (x / 5) = 1
          · rw [if_pos u, if_pos ⟨by omega, u.2⟩]
          · rw [if_neg u, if_neg (fun t => u ⟨by omega, t.2⟩)]
      rw [e]
      exact ih (j + 1) g (by omega) (by omega)
    · rw [if_neg (show ¬ nI (cZ j) = 1 from zne (b := 1) y (by omega) (by omega)), nb_let, show nI j + Int32.ofInt 1 = nI (j + 1) from nI_add j 1]
      have e : LBm LB cZ D j = LBm LB cZ D (j + 1) := funext fun x => by
        unfold LBm
        by_cases u : x / 5 < j ∧ x % 5 = 2 ∧ cZ (x / 5) = 1
        · rw [if_pos u, if_pos ⟨by omega, u.2⟩]
        · rw [if_neg u, if_neg (fun t => by
            by_cases w : x / 5 = j
            · rw [w] at t; exact y t.2.2
            · exact u ⟨by omega, t.2⟩)]
      rw [e]
      exact ih (j + 1) g (by omega) (by omega)
theorem mv_2 {n : Nat} {Q U : St} {sn : Nat} {D : Int32} {SW LB : Nat → Int32} (h8 : sI Q 8 = D) (h0 : sI Q 0 = nI sn) (hsn : sn ≤ 8194) (z : Nat → Nat) (hz : ∀ i : Nat, i < sn → z i < 2 ∧ SW (8 * i + 1) = nI (z i)) : ∀ m i g : Nat, i + m = sn → m < g → df_X1_moveData_2 n g (nI i) (pR Q 0 (SWm SW z D i), pR U 6 LB) = df_X1_moveData_51 n n 0 (pR Q 0 (SWm SW z D sn), pR U 6 LB) := fun m => by
  induction m with
  | zero =>
    intro i g h1 h2
    have : i = sn := by omega
    subst this
    obtain ⟨g, rfl⟩ : ∃ k : Nat, g = k + 1 := ⟨g - 1, by omega⟩
    show dF_X1_moveData_2 n (df_X1_moveData_2 n g) (nI i) (pR Q 0 (SWm SW z D i), pR U 6 LB) = _
    unfold dF_X1_moveData_2
    rw [show sI (pR Q 0 (SWm SW z D i), pR U 6 LB).1 0 = nI i from h0, if_pos (zle (Nat.le_refl i) (by omega))]
  | succ m ih =>
    intro i g h1 h2
    obtain ⟨g, rfl⟩ : ∃ k : Nat, g = k + 1 := ⟨g - 1, by omega⟩
    show dF_X1_moveData_2 n (df_X1_moveData_2 n g) (nI i) (pR Q 0 (SWm SW z D i), pR U 6 LB) = _
    unfold dF_X1_moveData_2 df_X1_moveData_43
    obtain ⟨z1, z2⟩ := hz i (by omega)
    have e1 : SWm SW z D i (8 * i + 1) = nI (z i) := by
      unfold SWm
      rw [if_neg (by omega)]; exact z2
    rw [show sI (pR Q 0 (SWm SW z D i), pR U 6 LB).1 0 = nI sn from h0, if_neg (znle (show i < sn by omega) (by omega)), show nI i * 8 + 1 = nI (8 * i + 1) from ix8 i 1, show nI i * 8 + 2 = nI (8 * i + 2) from ix8 i 2, nm_ck (by omega) (by omega), nI_clamp (by omega), show sR (pR Q 0 (SWm SW z D i), pR U 6 LB).1 0 = SWm SW z D i from pR_e, e1]
    by_cases y : z i = 1
    · rw [if_pos (show nI (z i) = 1 from congrArg nI y), nm_ck (by omega) (by omega), nm_ck (by omega) (by omega), nI_clamp (by omega)]
      rw [show sI (pR Q 0 (SWm SW z D i), pR U 6 LB).1 8 = D from h8, show pR (pR Q 0 (SWm SW z D i), pR U 6 LB).1 0 (upd (SWm SW z D i) (8 * i + 2) (SWm SW z D i (8 * i + 2) + D)) = pR Q 0 (upd (SWm SW z D i) (8 * i + 2) (SWm SW z D i (8 * i + 2) + D)) from pR_2, nb_let, nb_let, show nI i + Int32.ofInt 1 = nI (i + 1) from nI_add i 1]
      have e : upd (SWm SW z D i) (8 * i + 2) (SWm SW z D i (8 * i + 2) + D) = SWm SW z D (i + 1) := funext fun x => by
        by_cases w : x = 8 * i + 2
        · rw [w, up_e]
          unfold SWm
          rw [if_neg (by omega), if_pos ⟨by omega, by omega, by rw [show (8 * i + 2) / 8 = i by omega]; exact y⟩]
        · rw [up_n w]
          unfold SWm
          by_cases u : x / 8 < i ∧ x % 8 = 2 ∧ z (x / 8) = 1
          · rw [if_pos u, if_pos ⟨by omega, u.2⟩]
          · rw [if_neg u, if_neg (fun t => u ⟨by omega, t.2⟩)]
      rw [e]
      exact ih (i + 1) g (by omega) (by omega)
    · rw [if_neg (show ¬ nI (z i) = 1 from zne (b := 1) y (by omega) (by omega)), nb_let, show nI i + Int32.ofInt 1 = nI (i + 1) from nI_add i 1]
      have e : SWm SW z D i = SWm SW z D (i + 1) := funext fun x => by
        unfold SWm
        by_cases u : x / 8 < i ∧ x % 8 = 2 ∧ z (x / 8) = 1
        · rw [if_pos u, if_pos ⟨by omega, u.2⟩]
        · rw [if_neg u, if_neg (fun t => by
            by_cases w : x / 8 = i
            · rw [w] at t; exact y t.2.2
            · exact u ⟨by omega, t.2⟩)]
      rw [e]
      exact ih (i + 1) g (by omega) (by omega)

/-- the reference finds all places: its state as one term -/
def yL (S : St) (t d : Nat) (OF W : Nat → Int32) : St := (fun j => if j = 4 then nI t else if j = 5 then nI d else S.1 j, S.2.1, fun j => if j = 4 then OF else if j = 7 then W else S.2.2.1 j, S.2.2.2)
theorem yL_4 {S : St} {t d : Nat} {OF W : Nat → Int32} : sI (yL S t d OF W) 4 = nI t := rfl
theorem yL_5 {S : St} {t d : Nat} {OF W : Nat → Int32} : sI (yL S t d OF W) 5 = nI d := rfl
theorem yL_i {S : St} {t d : Nat} {OF W : Nat → Int32} {j : Nat} (h4 : ¬ j = 4) (h5 : ¬ j = 5) : sI (yL S t d OF W) j = sI S j := (if_neg h4).trans (if_neg h5)
theorem yL_r4 {S : St} {t d : Nat} {OF W : Nat → Int32} : sR (yL S t d OF W) 4 = OF := rfl
theorem yL_r7 {S : St} {t d : Nat} {OF W : Nat → Int32} : sR (yL S t d OF W) 7 = W := rfl
theorem yL_r {S : St} {t d : Nat} {OF W : Nat → Int32} {j : Nat} (h4 : ¬ j = 4) (h7 : ¬ j = 7) : sR (yL S t d OF W) j = sR S j := (if_neg h4).trans (if_neg h7)
theorem yL_w4 {S : St} {t d v : Nat} {OF W : Nat → Int32} : pI (yL S t d OF W) 4 (nI v) = yL S v d OF W := Prod.ext (funext fun j => by
  show (if j = 4 then nI v else if j = 4 then nI t else if j = 5 then nI d else S.1 j) = (if j = 4 then nI v else if j = 5 then nI d else S.1 j)
  by_cases z : j = 4
  · rw [if_pos z, if_pos z]
  · rw [if_neg z, if_neg z, if_neg z]) rfl
theorem yL_w5 {S : St} {t d v : Nat} {OF W : Nat → Int32} : pI (yL S t d OF W) 5 (nI v) = yL S t v OF W := Prod.ext (funext fun j => by
  show (if j = 5 then nI v else if j = 4 then nI t else if j = 5 then nI d else S.1 j) = (if j = 4 then nI t else if j = 5 then nI v else S.1 j)
  by_cases z : j = 5
  · subst z; rfl
  · rw [if_neg z, if_neg z, if_neg z]) rfl
theorem yL_y4 {S : St} {t d : Nat} {OF W f : Nat → Int32} : pR (yL S t d OF W) 4 f = yL S t d f W := Prod.ext rfl (Prod.ext rfl (Prod.ext (funext fun j => by
  show (if j = 4 then f else if j = 4 then OF else if j = 7 then W else S.2.2.1 j) = (if j = 4 then f else if j = 7 then W else S.2.2.1 j)
  by_cases z : j = 4
  · rw [if_pos z, if_pos z]
  · rw [if_neg z, if_neg z, if_neg z]) rfl))
theorem yL_y7 {S : St} {t d : Nat} {OF W f : Nat → Int32} : pR (yL S t d OF W) 7 f = yL S t d OF f := Prod.ext rfl (Prod.ext rfl (Prod.ext (funext fun j => by
  show (if j = 7 then f else if j = 4 then OF else if j = 7 then W else S.2.2.1 j) = (if j = 4 then OF else if j = 7 then f else S.2.2.1 j)
  by_cases z : j = 7
  · subst z; rfl
  · rw [if_neg z, if_neg z, if_neg z]) rfl))
/-- a place's parts: A section, flag and level, q where it starts -/
theorem pla_1 {A q : Nat} (hA : A < 64) (hq : q < 131072) : nI (A * 2 ^ 17 + q) &&& 131071 = nI q ∧ (nI (A * 2 ^ 17 + q) >>> ((19 : Int32) &&& 31)) &&& 1 = nI (A / 4 % 2) ∧ nI (A * 2 ^ 17 + q) >>> ((20 : Int32) &&& 31) = nI (A / 8) ∧ (nI (A * 2 ^ 17 + q) >>> ((17 : Int32) &&& 31)) &&& 3 = nI (A % 4) := by
  have hw : A * 2 ^ 17 + q < 2 ^ 31 := by omega
  refine ⟨?_, ?_, ?_, ?_⟩
  · rw [pk_andN (m := 131071) (by omega) 17 (by decide)]
    exact congrArg nI (by omega)
  · rw [show ((19 : Int32) &&& 31) = nI 19 from by decide, nm_shr hw (by omega), show (1 : Int32) = nI 1 from rfl, nm_m1 (by omega)]
    exact congrArg nI (by omega)
  · rw [show ((20 : Int32) &&& 31) = nI 20 from by decide, nm_shr hw (by omega)]
    exact congrArg nI (by omega)
  · rw [show ((17 : Int32) &&& 31) = nI 17 from by decide, nm_shr hw (by omega), show (3 : Int32) = nI 3 from rfl, nm_m3 (by omega)]
    exact congrArg nI (by omega)
theorem xk_1 {w : Nat} (h : w < 2 ^ 20) : nI w &&& 131071 = nI (w % 131072) ∧ nI w >>> ((17 : Int32) &&& 31) = nI (w / 131072) := by
  constructor
  · rw [pk_andN (m := 131071) (by omega) 17 (by decide)]
  · rw [show ((17 : Int32) &&& 31) = nI 17 from by decide, nm_shr (by omega) (by omega)]
/-- labels before a statement -/
def wlF (X : Nat → Nat) (W : Nat → Int32) (t d l j1 : Nat) : Nat → Int32 := fun k => if l ≤ k ∧ k < j1 ∧ ¬ X k / 131072 = 2 then (if X k / 131072 = 1 ∨ X k / 131072 = 4 then nI d else nI t) else W k
theorem ly_47 {n : Nat} {S : St} {nL s start t d : Nat} {X : Nat → Nat} {OF : Nat → Int32} (G : Int32 → Int32 → St → Option St) (h3 : sI S 3 = nI nL) (hnL : nL ≤ 16500) (hX : ∀ k : Nat, k < nL → sR S 6 k = nI (X k) ∧ X k < 2 ^ 20) (hst : start < 2 ^ 20) (j1 : Nat) (hj1 : j1 ≤ nL) (hlt : ∀ k : Nat, k < j1 → X k % 131072 < start) (hge : j1 < nL → start ≤ X j1 % 131072) : ∀ (m l g : Nat) (W : Nat → Int32), l + m = j1 → m < g → df_X13_layout_47 n G g (nI l) (nI s) (nI start) (yL S t d OF W) = df_X13_layout_121 n G (nI j1) (nI s) (yL S t d OF (wlF X W t d l j1)) := fun m => by
  induction m with
  | zero =>
    intro l g W h1 h2
    have : l = j1 := by omega
    subst this
    obtain ⟨g, rfl⟩ : ∃ k : Nat, g = k + 1 := ⟨g - 1, by omega⟩
    have e : wlF X W t d l l = W := funext fun k => if_neg (by omega)
    rw [e]
    show dF_X13_layout_47 n G (df_X13_layout_47 n G g) (nI l) (nI s) (nI start) (yL S t d OF W) = _
    unfold dF_X13_layout_47
    rw [yL_i (by decide) (by decide), h3]
    by_cases z : nL ≤ l
    · rw [if_pos (zle z (by omega))]
    · have hl : l < nL := by omega
      rw [if_neg (znle hl (by omega)), nm_ck (by omega) (by omega), nI_clamp (by omega), yL_r (by decide) (by decide), (hX l hl).1, (xk_1 (hX l hl).2).1, if_pos (zle (hge hl) (by omega))]
  | succ m ih =>
    intro l g W h1 h2
    obtain ⟨g, rfl⟩ : ∃ k : Nat, g = k + 1 := ⟨g - 1, by omega⟩
    have hl : l < nL := by omega
    have hx := (hX l hl).2
    show dF_X13_layout_47 n G (df_X13_layout_47 n G g) (nI l) (nI s) (nI start) (yL S t d OF W) = _
    unfold dF_X13_layout_47 df_X13_layout_103 df_X13_layout_114 df_X13_layout_115
    rw [yL_i (by decide) (by decide), h3, if_neg (znle hl (by omega)), nm_ck (by omega) (by omega), nI_clamp (by omega), yL_r (by decide) (by decide), (hX l hl).1, (xk_1 hx).1, if_neg (znle (hlt l (by omega)) (by omega)), nm_ck (by omega) (by omega), (xk_1 hx).2, nb_let]
    rw [yL_4, yL_5, yL_r7, yL_y7, yL_y7, show nI l + Int32.ofInt 1 = nI (l + 1) from nI_add l 1]
    have step : ∀ W' : Nat → Int32, W' = (fun k => if k = l ∧ ¬ X l / 131072 = 2 then (if X l / 131072 = 1 ∨ X l / 131072 = 4 then nI d else nI t) else W k) → df_X13_layout_47 n G g (nI (l + 1)) (nI s) (nI start) (yL S t d OF W') = df_X13_layout_121 n G (nI j1) (nI s) (yL S t d OF (wlF X W t d l j1)) := fun W' hW' => by
      rw [ih (l + 1) g W' (by omega) (by omega)]
      have e : wlF X W' t d (l + 1) j1 = wlF X W t d l j1 := funext fun k => by
        unfold wlF
        rw [hW']
        by_cases y : k = l
        · subst y
          rw [if_neg (by omega)]
          show (if k = k ∧ ¬ X k / 131072 = 2 then _ else W k) = _
          by_cases w : X k / 131072 = 2
          · rw [if_neg (fun u => u.2 w), if_neg (fun u => u.2.2 w)]
          · rw [if_pos (show k = k ∧ ¬ X k / 131072 = 2 from ⟨rfl, w⟩), if_pos (show k ≤ k ∧ k < j1 ∧ ¬ X k / 131072 = 2 from ⟨Nat.le_refl _, by omega, w⟩)]
        · by_cases w : l ≤ k ∧ k < j1 ∧ ¬ X k / 131072 = 2
          · rw [if_pos w, if_pos ⟨by omega, w.2⟩]
          · rw [if_neg w, if_neg (fun u => w ⟨by omega, u.2⟩)]
            show (if k = l ∧ _ then _ else W k) = _
            rw [if_neg (fun u => y u.1)]
      rw [e]
    by_cases k2 : X l / 131072 = 2
    · rw [if_pos (show nI (X l / 131072) = 2 from congrArg nI k2), nb_let]
      exact step W (funext fun k => by
        show W k = if k = l ∧ ¬ X l / 131072 = 2 then _ else W k
        rw [if_neg (fun u => u.2 k2)])
    · rw [if_neg (show ¬ nI (X l / 131072) = 2 from zne (b := 2) k2 (by omega) (by omega))]
      have ue : ∀ v : Int32, upd W l v = fun k => if k = l then v else W k := fun v => rfl
      by_cases k1 : X l / 131072 = 1
      · rw [if_pos (show nI (X l / 131072) = 1 from congrArg nI k1), nm_ck (by omega) (by omega), nb_let, nb_let]
        exact step _ (funext fun k => by
          show (if k = l then nI d else W k) = if k = l ∧ ¬ X l / 131072 = 2 then _ else W k
          by_cases y : k = l
          · rw [if_pos y, if_pos ⟨y, k2⟩, if_pos (Or.inl k1)]
          · rw [if_neg y, if_neg (fun u => y u.1)])
      · rw [if_neg (show ¬ nI (X l / 131072) = 1 from zne (b := 1) k1 (by omega) (by omega))]
        by_cases k4 : X l / 131072 = 4
        · rw [if_pos (show nI (X l / 131072) = 4 from congrArg nI k4), nm_ck (by omega) (by omega), nb_let, nb_let]
          exact step _ (funext fun k => by
            show (if k = l then nI d else W k) = if k = l ∧ ¬ X l / 131072 = 2 then _ else W k
            by_cases y : k = l
            · rw [if_pos y, if_pos ⟨y, k2⟩, if_pos (Or.inr k4)]
            · rw [if_neg y, if_neg (fun u => y u.1)])
        · rw [if_neg (show ¬ nI (X l / 131072) = 4 from zne (b := 4) k4 (by omega) (by omega)), nm_ck (by omega) (by omega), nb_let, nb_let]
          exact step _ (funext fun k => by
            show (if k = l then nI t else W k) = if k = l ∧ ¬ X l / 131072 = 2 then _ else W k
            by_cases y : k = l
            · rw [if_pos y, if_pos ⟨y, k2⟩, if_neg (fun u => u.elim k1 k4)]
            · rw [if_neg y, if_neg (fun u => y u.1)])
theorem al_g (k : Nat) (h : k ≤ 10) : ¬ (0 : Int32) ≤ -1 - nI k := by
  have : ∀ k : Fin 11, ¬ (0 : Int32) ≤ -1 - nI k.1 := by decide +kernel
  exact this ⟨k, by omega⟩
theorem sh_2 {l : Nat} (h : l ≤ 2) : (2 : Int32) <<< (nI l &&& 31) = nI (2 * 2 ^ l) := by
  have : ∀ l : Fin 3, (2 : Int32) <<< (nI l.1 &&& 31) = nI (2 * 2 ^ l.1) := by decide +kernel
  exact this ⟨l, by omega⟩
/-- one statement -/
theorem sz_R {n : Nat} {S : St} {s A q : Nat} {D : Dt} {bb : Int32} {fl l off : Nat} (hs : s < 11000) (h3 : sR S 3 s = nI (A * 2 ^ 17 + q)) (hA : A < 64) (hq : q < 131072) (h5 : sR S 5 s = bb) (hZ : ZK D bb fl l) (hfl : A / 8 = fl / 8) (hl : A % 4 = l) : df_X13_sizeAt n (nI s) (nI off) S = some (nI (szN D bb l off), S) ∧ df_X13_sectionOf n (nI s) S = some (nI (A / 4 % 2), S) := by
  obtain ⟨p1, p2, p3, p4⟩ := pla_1 hA hq
  obtain ⟨z1, z2, z3, z4, z5⟩ := sz_1 hZ off
  constructor
  · unfold df_X13_sizeAt df_X13_sizeAt_0 df_X13_sizeAt_59
    rw [nm_ck hs (by omega), nI_clamp (by omega), h5, h3, p3, p4]
    rcases hZ with ⟨h1, h2, hh, kk, hkk, hbk⟩ | ⟨h1, h2, hh, kk, hkk, hbk⟩ | ⟨h1, h2, hh, k, hk, hb⟩ | ⟨h1, h2, h3', h4, h5', m, hm, hb, h9⟩
    · have big : ¬ nI (A / 8) ≤ (0 : Int32) := znle (b := 0) (by omega) (by omega)
      rw [z4 (Or.inl h1), hl, sh_2 (by omega)]
      rw [nm_ck hs (by omega), if_neg big, nm_ck hs (by omega), nm_ck hs (by omega)]
      rw [if_pos (show (0 : Int32) ≤ bb from by rw [hbk]; exact zle (a := 0) (Nat.zero_le _) (by omega))]
    · have big : ¬ nI (A / 8) ≤ (0 : Int32) := znle (b := 0) (by omega) (by omega)
      rw [z4 (Or.inr h1), hl, sh_2 (by omega)]
      rw [nm_ck hs (by omega), if_neg big, nm_ck hs (by omega), nm_ck hs (by omega)]
      rw [if_pos (show (0 : Int32) ≤ bb from by rw [hbk]; exact zle (a := 0) (Nat.zero_le _) (by omega))]
    · rw [if_neg (show ¬ (0 : Int32) ≤ bb from by rw [hb]; exact al_g k hk), nm_ck hs (by omega), ← z3 h1]
    · rw [if_pos (show (0 : Int32) ≤ bb from by rw [hb]; exact zle (a := 0) (Nat.zero_le _) (by omega)), nm_ck hs (by omega), if_pos (show nI (A / 8) ≤ (0 : Int32) from zle (b := 0) (by omega) (by omega)), nm_ck hs (by omega), z5 h1 h2 h3']
  · unfold df_X13_sectionOf df_X13_sectionOf_0
    rw [nm_ck hs (by omega), nI_clamp (by omega), h3, p2]

/-- the reference: all statements and labels laid out -/
def lR (N0 : Nat → Nat) (s : Nat) : Nat := if s = 0 then 0 else N0 (s - 1)
theorem sK_e {N0 : Nat → Nat} {nS s k : Nat} (hm : ∀ s t : Nat, s ≤ t → t < nS → N0 s ≤ N0 t) (hs : s ≤ nS) (h1 : lR N0 s ≤ k) (h2 : s < nS → k < N0 s) : sK N0 nS k = s := by
  obtain ⟨a, b, d⟩ := sK_1 N0 nS k
  rcases Nat.lt_trichotomy (sK N0 nS k) s with z | z | z
  · have := b (by omega)
    have := hm (sK N0 nS k) (s - 1) (by omega) (by omega)
    unfold lR at h1
    rw [if_neg (by omega)] at h1
    omega
  · exact z
  · have := d s z
    have := h2 (by omega)
    omega
def labV (X : Nat → Nat) (F : Nat → Nat × Nat) (N0 : Nat → Nat) (nS k : Nat) : Nat := if X k / 131072 = 1 ∨ X k / 131072 = 4 then (F (sK N0 nS k)).2 else (F (sK N0 nS k)).1
def LYR (S : St) (nS nL : Nat) (X : Nat → Nat) (Ds : Nat → Dt) (Zs Qs Fs N0 AA : Nat → Nat) (BY : Nat → Int32) (lv : Nat → Nat) : Prop := sI S 2 = nI nS ∧ sI S 3 = nI nL ∧ nS ≤ 8200 ∧ nL ≤ 16500 ∧ (∀ k : Nat, k < nL → sR S 6 k = nI (X k) ∧ X k < 2 ^ 20 ∧ X k % 131072 < 40000) ∧ (∀ s t : Nat, s ≤ t → t < nS → N0 s ≤ N0 t) ∧ (∀ s : Nat, s < nS → sR S 3 s = nI (AA s * 2 ^ 17 + Qs s) ∧ AA s < 64 ∧ Qs s < 131072 ∧ AA s / 4 % 2 = Zs s ∧ AA s % 4 = lv s ∧ AA s / 8 = Fs s / 8 ∧ sR S 5 s = BY s ∧ ZK (Ds s) (BY s) (Fs s) (lv s) ∧ N0 s ≤ nL ∧ (∀ k : Nat, k < N0 s → X k % 131072 < Qs s) ∧ ∀ k : Nat, N0 s ≤ k → k < nL → Qs s < X k % 131072)
theorem ly_14 {n : Nat} {S : St} {nS nL : Nat} {X : Nat → Nat} {Ds : Nat → Dt} {Zs Qs Fs N0 AA : Nat → Nat} {BY : Nat → Int32} {lv : Nat → Nat} (hn : 70000 < n) (h : LYR S nS nL X Ds Zs Qs Fs N0 AA BY lv) : ∀ (m s g : Nat) (OF W : Nat → Int32), s + m = nS → m + 1 < g → df_X13_layout_14 n g (nI (lR N0 s)) (nI s) (yL S (lay Ds Zs BY lv s).1 (lay Ds Zs BY lv s).2 OF W) = some (yL S (lay Ds Zs BY lv nS).1 (lay Ds Zs BY lv nS).2 (fun i => if s ≤ i ∧ i < nS then nI (ofs Ds Zs BY lv i) else OF i) (fun k => if lR N0 s ≤ k ∧ k < nL ∧ ¬ X k / 131072 = 2 then nI (labV X (lay Ds Zs BY lv) N0 nS k) else W k)) := fun m => by
  obtain ⟨h2, h3, hnS, hnL, hX, hm, hst⟩ := h
  induction m with
  | zero =>
    intro s g OF W h1 hg
    have : s = nS := by omega
    subst this
    obtain ⟨g, rfl⟩ : ∃ k : Nat, g = k + 1 := ⟨g - 1, by omega⟩
    have lRl : lR N0 s ≤ nL := by
      unfold lR
      split
      · omega
      · exact (hst (s - 1) (by omega)).2.2.2.2.2.2.2.2.1
    show dF_X13_layout_14 n (df_X13_layout_14 n g) (nI (lR N0 s)) (nI s) (yL S (lay Ds Zs BY lv s).1 (lay Ds Zs BY lv s).2 OF W) = _
    unfold dF_X13_layout_14 df_X13_layout_46
    rw [yL_i (by decide) (by decide), h2, if_neg (znl (Nat.le_refl s) (by omega)), if_pos (zle (Nat.le_refl s) (by omega))]
    rw [show (131071 : Int32) = nI 131071 from rfl, ly_47 (nL := nL) (X := X) (df_X13_layout_14 n g) h3 hnL (fun k hk => ⟨(hX k hk).1, (hX k hk).2.1⟩) (by omega) nL (Nat.le_refl _) (fun k hk => by have := (hX k hk).2.2; omega) (fun z => by omega) (nL - lR N0 s) (lR N0 s) n W (by omega) (by omega)]
    unfold df_X13_layout_121
    rw [yL_i (by decide) (by decide), h2, if_pos rfl]
    have e1 : (fun i => if s ≤ i ∧ i < s then nI (ofs Ds Zs BY lv i) else OF i) = OF := funext fun i => if_neg (by omega)
    have e2 : (fun k => if lR N0 s ≤ k ∧ k < nL ∧ ¬ X k / 131072 = 2 then nI (labV X (lay Ds Zs BY lv) N0 s k) else W k) = wlF X W (lay Ds Zs BY lv s).1 (lay Ds Zs BY lv s).2 (lR N0 s) nL := funext fun k => by
      unfold wlF
      by_cases y : lR N0 s ≤ k ∧ k < nL ∧ ¬ X k / 131072 = 2
      · rw [if_pos y, if_pos y]
        unfold labV
        rw [sK_e hm (Nat.le_refl _) y.1 (fun w => by omega)]
        split <;> rfl
      · rw [if_neg y, if_neg y]
    rw [e1, e2]
  | succ m ih =>
    intro s g OF W h1 hg
    obtain ⟨g, rfl⟩ : ∃ k : Nat, g = k + 1 := ⟨g - 1, by omega⟩
    obtain ⟨c1, c2, c3, c4, c5, c6, c7, c8, c9, c10, c11⟩ := hst s (by omega)
    have lRl : lR N0 s ≤ N0 s := by
      unfold lR
      split
      · omega
      · exact hm (s - 1) s (by omega) (by omega)
    have zb : AA s / 4 % 2 < 2 := by omega
    show dF_X13_layout_14 n (df_X13_layout_14 n g) (nI (lR N0 s)) (nI s) (yL S (lay Ds Zs BY lv s).1 (lay Ds Zs BY lv s).2 OF W) = _
    unfold dF_X13_layout_14 df_X13_layout_46
    rw [yL_i (by decide) (by decide), h2, if_neg (znl (show s ≤ nS by omega) (by omega)), if_neg (znle (show s < nS by omega) (by omega)), nm_ck (by omega) (by omega), nI_clamp (by omega), yL_r (by decide) (by decide), c1, (pla_1 c2 c3).1]
    rw [ly_47 (nL := nL) (X := X) (df_X13_layout_14 n g) h3 hnL (fun k hk => ⟨(hX k hk).1, (hX k hk).2.1⟩) (by omega) (N0 s) c9 c10 (fun z => Nat.le_of_lt (c11 _ (Nat.le_refl _) z)) (N0 s - lR N0 s) (lR N0 s) n W (by omega) (by omega)]
    unfold df_X13_layout_121 df_X13_layout_155 df_X13_layout_189 df_X13_layout_213
    have sec : ∀ (t d : Nat) (OF W : Nat → Int32), df_X13_sectionOf n (nI s) (yL S t d OF W) = some (nI (Zs s), yL S t d OF W) := fun t d OF W => by
      have := (sz_R (n := n) (S := yL S t d OF W) (off := 0) (show s < 11000 by omega) (by rw [yL_r (by decide) (by decide)]; exact c1) c2 c3 (by rw [yL_r (by decide) (by decide)]; exact c7) c8 c6 c5).2
      rw [c4] at this
      exact this
    have siz : ∀ (off t d : Nat) (OF W : Nat → Int32), df_X13_sizeAt n (nI s) (nI off) (yL S t d OF W) = some (nI (szN (Ds s) (BY s) (lv s) off), yL S t d OF W) := fun off t d OF W => (sz_R (n := n) (S := yL S t d OF W) (off := off) (show s < 11000 by omega) (by rw [yL_r (by decide) (by decide)]; exact c1) c2 c3 (by rw [yL_r (by decide) (by decide)]; exact c7) c8 c6 c5).1
    rw [yL_i (by decide) (by decide), h2, if_neg (zne (show ¬ s = nS by omega) (by omega) (by omega)), sec, nb_b2]
    have fin : ∀ OF' W' : Nat → Int32, OF' = upd OF s (nI (ofs Ds Zs BY lv s)) → W' = wlF X W (lay Ds Zs BY lv s).1 (lay Ds Zs BY lv s).2 (lR N0 s) (N0 s) → df_X13_layout_14 n g (nI (N0 s)) (nI (s + 1)) (yL S (lay Ds Zs BY lv (s + 1)).1 (lay Ds Zs BY lv (s + 1)).2 OF' W') = some (yL S (lay Ds Zs BY lv nS).1 (lay Ds Zs BY lv nS).2 (fun i => if s ≤ i ∧ i < nS then nI (ofs Ds Zs BY lv i) else OF i) (fun k => if lR N0 s ≤ k ∧ k < nL ∧ ¬ X k / 131072 = 2 then nI (labV X (lay Ds Zs BY lv) N0 nS k) else W k)) := fun OF' W' hO hW => by
      have r := ih (s + 1) g OF' W' (by omega) (by omega)
      have el : lR N0 (s + 1) = N0 s := by
        unfold lR
        rw [if_neg (by omega), Nat.add_sub_cancel]
      rw [el] at r
      rw [r]
      have e1 : (fun i => if s + 1 ≤ i ∧ i < nS then nI (ofs Ds Zs BY lv i) else OF' i) = (fun i => if s ≤ i ∧ i < nS then nI (ofs Ds Zs BY lv i) else OF i) := funext fun i => by
        by_cases y : i = s
        · subst y
          rw [if_neg (by omega), if_pos (by omega), hO, up_e]
        · by_cases w : s ≤ i ∧ i < nS
          · rw [if_pos w, if_pos (by omega)]
          · rw [if_neg w, if_neg (by omega), hO, up_n y]
      have e2 : (fun k => if N0 s ≤ k ∧ k < nL ∧ ¬ X k / 131072 = 2 then nI (labV X (lay Ds Zs BY lv) N0 nS k) else W' k) = (fun k => if lR N0 s ≤ k ∧ k < nL ∧ ¬ X k / 131072 = 2 then nI (labV X (lay Ds Zs BY lv) N0 nS k) else W k) := funext fun k => by
        by_cases y : N0 s ≤ k ∧ k < nL ∧ ¬ X k / 131072 = 2
        · rw [if_pos y, if_pos (show lR N0 s ≤ k ∧ k < nL ∧ ¬ X k / 131072 = 2 from ⟨by omega, y.2⟩)]
        · rw [if_neg y, hW]
          unfold wlF
          by_cases w : lR N0 s ≤ k ∧ k < N0 s ∧ ¬ X k / 131072 = 2
          · rw [if_pos w, if_pos (show lR N0 s ≤ k ∧ k < nL ∧ ¬ X k / 131072 = 2 from ⟨w.1, by omega, w.2.2⟩)]
            unfold labV
            rw [sK_e hm (by omega) w.1 (fun _ => w.2.1)]
            split <;> rfl
          · rw [if_neg w, if_neg (fun u => by
              by_cases x : k < N0 s
              · exact w ⟨u.1, x, u.2.2⟩
              · exact y ⟨by omega, u.2⟩)]
      rw [e1, e2]
    have ls : lay Ds Zs BY lv (s + 1) = if Zs s = 1 then ((lay Ds Zs BY lv s).1, (lay Ds Zs BY lv s).2 + szN (Ds s) (BY s) (lv s) (lay Ds Zs BY lv s).2) else ((lay Ds Zs BY lv s).1 + szN (Ds s) (BY s) (lv s) (lay Ds Zs BY lv s).1, (lay Ds Zs BY lv s).2) := rfl
    have zs2 : Zs s < 2 := by omega
    by_cases y : Zs s = 1
    · have eo : ofs Ds Zs BY lv s = (lay Ds Zs BY lv s).2 := if_pos y
      rw [if_pos (show nI (Zs s) = 1 from congrArg nI y), yL_5, nm_ck (by omega) (by omega), nI_clamp (by omega), yL_r4, yL_y4, nb_let, nm_ck (by omega) (by omega), yL_r4, up_e, siz, nb_b2, sec, nb_b2, if_pos (show nI (Zs s) = 1 from congrArg nI y), yL_5, nI_add, yL_w5, nb_let, sec, nb_b2, if_pos (show nI (Zs s) = 1 from congrArg nI y), yL_4, show nI (lay Ds Zs BY lv s).1 + 0 = nI (lay Ds Zs BY lv s).1 from Int32.add_zero _, yL_w4, nb_let, nb_let, show nI s + Int32.ofInt 1 = nI (s + 1) from nI_add s 1]
      rw [if_pos y] at ls
      have := fin (upd OF s (nI (lay Ds Zs BY lv s).2)) (wlF X W (lay Ds Zs BY lv s).1 (lay Ds Zs BY lv s).2 (lR N0 s) (N0 s)) (by rw [eo]) rfl
      rw [ls] at this
      exact this
    · have eo : ofs Ds Zs BY lv s = (lay Ds Zs BY lv s).1 := if_neg y
      have n1 : ¬ nI (Zs s) = 1 := zne (b := 1) y (by omega) (by omega)
      rw [if_neg n1, yL_4, nm_ck (by omega) (by omega), nI_clamp (by omega), yL_r4, yL_y4, nb_let, nm_ck (by omega) (by omega), yL_r4, up_e, siz, nb_b2, sec, nb_b2, if_neg n1, yL_5, show nI (lay Ds Zs BY lv s).2 + 0 = nI (lay Ds Zs BY lv s).2 from Int32.add_zero _, yL_w5, nb_let, sec, nb_b2, if_neg n1, yL_4, nI_add, yL_w4, nb_let, nb_let, show nI s + Int32.ofInt 1 = nI (s + 1) from nI_add s 1]
      rw [if_neg y] at ls
      have := fin (upd OF s (nI (lay Ds Zs BY lv s).1)) (wlF X W (lay Ds Zs BY lv s).1 (lay Ds Zs BY lv s).2 (lR N0 s) (N0 s)) (by rw [eo]) rfl
      rw [ls] at this
      exact this
/-- layout() of the reference -/
theorem ly_R {n : Nat} {S : St} {nS nL : Nat} {X : Nat → Nat} {Ds : Nat → Dt} {Zs Qs Fs N0 AA : Nat → Nat} {BY : Nat → Int32} {lv : Nat → Nat} (hn : 70000 < n) (h : LYR S nS nL X Ds Zs Qs Fs N0 AA BY lv) : df_X13_layout n S = some (yL S (lay Ds Zs BY lv nS).1 (lay Ds Zs BY lv nS).2 (fun i => if i < nS then nI (ofs Ds Zs BY lv i) else sR S 4 i) (fun k => if k < nL ∧ ¬ X k / 131072 = 2 then nI (labV X (lay Ds Zs BY lv) N0 nS k) else sR S 7 k)) := by
  have e0 : pI (pI S 4 0) 5 0 = yL S 0 0 (sR S 4) (sR S 7) := Prod.ext (funext fun j => by
    show (if j = 5 then (0 : Int32) else if j = 4 then 0 else S.1 j) = (if j = 4 then nI 0 else if j = 5 then nI 0 else S.1 j)
    by_cases z : j = 5
    · subst z; rfl
    · rw [if_neg z, if_neg z]; rfl) (Prod.ext rfl (Prod.ext (funext fun j => by
    show S.2.2.1 j = (if j = 4 then sR S 4 else if j = 7 then sR S 7 else S.2.2.1 j)
    by_cases z : j = 4
    · rw [if_pos z, z]; rfl
    · rw [if_neg z]
      by_cases y : j = 7
      · rw [if_pos y, y]; rfl
      · rw [if_neg y]) rfl))
  unfold df_X13_layout df_X13_layout_0
  rw [nb_let, nb_let, e0]
  have hnS := h.2.2.1
  have r := ly_14 hn h nS 0 n (sR S 4) (sR S 7) (by omega) (by omega)
  have el : lR N0 0 = 0 := rfl
  rw [el] at r
  refine Eq.trans r ?_
  have e1 : (fun i => if 0 ≤ i ∧ i < nS then nI (ofs Ds Zs BY lv i) else sR S 4 i) = (fun i => if i < nS then nI (ofs Ds Zs BY lv i) else sR S 4 i) := funext fun i => by
    by_cases y : i < nS
    · rw [if_pos ⟨Nat.zero_le _, y⟩, if_pos y]
    · rw [if_neg (fun u => y u.2), if_neg y]
  have e2 : (fun k => if 0 ≤ k ∧ k < nL ∧ ¬ X k / 131072 = 2 then nI (labV X (lay Ds Zs BY lv) N0 nS k) else sR S 7 k) = (fun k => if k < nL ∧ ¬ X k / 131072 = 2 then nI (labV X (lay Ds Zs BY lv) N0 nS k) else sR S 7 k) := funext fun k => by
    by_cases y : k < nL ∧ ¬ X k / 131072 = 2
    · rw [if_pos ⟨Nat.zero_le _, y⟩, if_pos y]
    · rw [if_neg (fun u => y u.2), if_neg y]
  rw [e1, e2]

/-- findAddresses() of the class: the whole of it -/
def bsN (t : Nat) : Nat := (t + 1023) / 1024 * 1024
theorem bs_C {t : Nat} (h : t ≤ 2 ^ 30) : ((((nI t + 1024) - 1) / 1024) * 1024 : Int32) = nI (bsN t) := by
  rw [show (1024 : Int32) = nI 1024 from rfl, nI_add, show (1 : Int32) = nI 1 from rfl, pk_sub (by omega), show t + 1024 - 1 = t + 1023 by omega, nm_div (by omega) (by omega) (by omega), pk_mul]
  rfl
theorem bs_R {t : Nat} (h : t ≤ 2 ^ 30) : bseO (nI t) = nI (bsN t) := by
  unfold bseO
  rw [show (1023 : Int32) = nI 1023 from rfl, nI_add, show (1024 : Int32) = nI 1024 from rfl, nm_div (by omega) (by omega) (by omega), pk_mul]
  rfl
theorem fa_C {n : Nat} {Q U : St} {sn nl : Nat} (hn : 70000 < n) (h0 : sI Q 0 = nI sn) (h9 : sI U 9 = nI nl) (hsn : sn ≤ 8194) (hnl : nl ≤ 16384) (cS cZ : Nat → Nat) (hcZ : ∀ j : Nat, cZ j < 2) (hm : ∀ j j' : Nat, j < j' → j' < nl → cS j ≤ cS j') (hcs : ∀ j : Nat, j < nl → cS j ≤ sn) (hL0 : ∀ j : Nat, j < nl → sR U 6 (5 * j) = nI (cS j) ∧ sR U 6 (5 * j + 1) = nI (cZ j)) (F : Nat → Nat × Nat) (hF0 : F 0 = (0, 0)) (hFs : (F sn).1 ≤ 2 ^ 30) (z kd ln pl : Nat → Nat) (hst : ∀ i : Nat, i < sn → z i < 2 ∧ pl i = (if z i = 1 then (F i).2 else (F i).1) ∧ F (i + 1) = (if z i = 1 then ((F i).1, (F i).2 + ln i) else ((F i).1 + ln i, (F i).2)) ∧ sR Q 0 (8 * i + 1) = nI (z i) ∧ sR Q 0 (8 * i + 4) = nI (kd i) ∧ kd i < 10 ∧ (kd i = 8 → nI (ln i) = (-nI (pl i)) &&& (sR Q 0 (8 * i + 5) - 1)) ∧ (¬ kd i = 8 → sR Q 0 (8 * i + 3) = nI (ln i))) (v : Nat → Nat) (hv : ∀ j : Nat, j < nl → v j = if cZ j = 0 then (F (cS j)).1 else (F (cS j)).2) : df_X1_findAddresses n (Q, U) = some (pI (pR (pI (pI Q 7 (nI (F sn).1)) 8 (nI (bsN (F sn).1))) 0 (SWm (SWf (sR Q 0) pl ln sn) z (nI (bsN (F sn).1)) sn)) 9 (if nI (F sn).2 ≤ 0 then nI (F sn).1 else nI (bsN (F sn).1) + nI (F sn).2), pR U 6 (LBm (LBf (sR U 6) v nl) cZ (nI (bsN (F sn).1)) nl)) := by
  have r := fa_9 (n := n) (Q := Q) (U := U) (sn := sn) (nl := nl) (SW := sR Q 0) (LB := sR U 6) hn h0 h9 hsn hnl cS cZ hcZ hm hcs hL0 F z kd ln pl hst v hv sn 0 n (by omega) (by omega)
  rw [hF0, lC_0 hm, SWf_0, LBf_0, nm_r0, nm_r0] at r
  unfold df_X1_findAddresses df_X1_findAddresses_0
  refine Eq.trans r ?_
  rw [nb_let, nb_let, bs_C hFs]
  have key : ∀ w : Int32, df_X1_findAddresses_226 n w (pI (pI (pR Q 0 (SWf (sR Q 0) pl ln sn)) 7 (nI (F sn).1)) 8 (nI (bsN (F sn).1)), pR U 6 (LBf (sR U 6) v nl)) = some (pI (pR (pI (pI Q 7 (nI (F sn).1)) 8 (nI (bsN (F sn).1))) 0 (SWm (SWf (sR Q 0) pl ln sn) z (nI (bsN (F sn).1)) sn)) 9 w, pR U 6 (LBm (LBf (sR U 6) v nl) cZ (nI (bsN (F sn).1)) nl)) := fun w => by
    unfold df_X1_findAddresses_226 df_X1_moveData df_X1_moveData_0
    rw [nb_let]
    have eQ : pI (pI (pI (pR Q 0 (SWf (sR Q 0) pl ln sn)) 7 (nI (F sn).1)) 8 (nI (bsN (F sn).1))) 9 w = pR (pI (pI (pI Q 7 (nI (F sn).1)) 8 (nI (bsN (F sn).1))) 9 w) 0 (SWm (SWf (sR Q 0) pl ln sn) z (nI (bsN (F sn).1)) 0) := by
      have e : SWm (SWf (sR Q 0) pl ln sn) z (nI (bsN (F sn).1)) 0 = SWf (sR Q 0) pl ln sn := funext fun x => if_neg (by omega)
      rw [e]
      rfl
    have m1 := mv_2 (n := n) (Q := pI (pI (pI Q 7 (nI (F sn).1)) 8 (nI (bsN (F sn).1))) 9 w) (U := U) (sn := sn) (D := nI (bsN (F sn).1)) (SW := SWf (sR Q 0) pl ln sn) (LB := LBf (sR U 6) v nl) rfl h0 hsn z (fun i hi => ⟨(hst i hi).1, by rw [SWf_r (by omega) (by omega) (by omega)]; exact (hst i hi).2.2.2.1⟩) sn 0 n (by omega) (by omega)
    have m2 := mv_51 (n := n) (Q := pR (pI (pI (pI Q 7 (nI (F sn).1)) 8 (nI (bsN (F sn).1))) 9 w) 0 (SWm (SWf (sR Q 0) pl ln sn) z (nI (bsN (F sn).1)) sn)) (U := U) (nl := nl) (D := nI (bsN (F sn).1)) (LB := LBf (sR U 6) v nl) rfl h9 hnl cZ (fun j hj => ⟨hcZ j, by rw [LBf_r (by omega) (by omega)]; exact (hL0 j hj).2⟩) nl 0 n (by omega) (by omega)
    have e5 : LBm (LBf (sR U 6) v nl) cZ (nI (bsN (F sn).1)) 0 = LBf (sR U 6) v nl := funext fun x => if_neg (by omega)
    rw [e5] at m2
    show nd_b1 (df_X1_moveData_2 n n 0 (pI (pI (pI (pR Q 0 (SWf (sR Q 0) pl ln sn)) 7 (nI (F sn).1)) 8 (nI (bsN (F sn).1))) 9 w, pR U 6 (LBf (sR U 6) v nl))) _ = _
    rw [eQ, show df_X1_moveData_2 n n 0 (pR (pI (pI (pI Q 7 (nI (F sn).1)) 8 (nI (bsN (F sn).1))) 9 w) 0 (SWm (SWf (sR Q 0) pl ln sn) z (nI (bsN (F sn).1)) 0), pR U 6 (LBf (sR U 6) v nl)) = _ from m1, show df_X1_moveData_51 n n 0 (pR (pI (pI (pI Q 7 (nI (F sn).1)) 8 (nI (bsN (F sn).1))) 9 w) 0 (SWm (SWf (sR Q 0) pl ln sn) z (nI (bsN (F sn).1)) sn), pR U 6 (LBf (sR U 6) v nl)) = _ from m2, nb_b1]
    rfl
  by_cases y : nI (F sn).2 ≤ 0
  · rw [if_pos y, if_pos y]
    exact key _
  · rw [if_neg y, if_neg y]
    exact key _

/-- near labels, as a statement sees them -/
theorem nr_dg {c X : Nat → Nat} {st d : Nat} {fw : Bool} {k : Nat} : nrP c X st d fw k = (dgP c X d k && decide (fw = decide (st < X k % 131072))) := by
  unfold nrP dgP
  rw [Bool.and_assoc]
theorem nrq_b {c X : Nat → Nat} {nL q d n0 : Nat} (hn : n0 ≤ nL) (h1 : ∀ k : Nat, k < n0 → X k % 131072 < q) (h2 : ∀ k : Nat, n0 ≤ k → k < nL → q < X k % 131072) : frF false (nrP c X q d false) nL = frF false (dgP c X d) n0 := by
  have lo : ∀ k : Nat, k < n0 → nrP c X q d false k = dgP c X d k := fun k hk => by
    rw [nr_dg, decide_eq_false (show ¬ q < X k % 131072 by have := h1 k hk; omega)]
    exact Bool.and_true _
  have hi : ∀ k : Nat, n0 ≤ k → k < nL → nrP c X q d false k = false := fun k hk hk2 => by
    rw [nr_dg, decide_eq_true (h2 k hk hk2)]
    exact Bool.and_false _
  cases hf : frF false (dgP c X d) n0 with
  | zero =>
    have no := (fr_z false _ n0).mp hf
    refine (fr_z false _ nL).mpr fun j hj => ?_
    by_cases y : j < n0
    · rw [lo j y]; exact no j y
    · exact hi j (by omega) hj
  | succ k =>
    obtain ⟨s1, s2, s3, _⟩ := fr_s false _ n0 k hf
    refine fr_u false _ nL k (by omega) (by rw [lo k s1]; exact s2) (fun _ j j1 j2 => ?_) (fun z => absurd z (by decide))
    by_cases y : j < n0
    · rw [lo j y]; exact s3 rfl j j1 y
    · exact hi j (by omega) j2
theorem nrq_f {c X : Nat → Nat} {nL q d n0 : Nat} (h1 : ∀ k : Nat, k < n0 → X k % 131072 < q) (h2 : ∀ k : Nat, n0 ≤ k → k < nL → q < X k % 131072) (P : Nat → Bool) (hlo : ∀ k : Nat, k < n0 → P k = false) (hhi : ∀ k : Nat, n0 ≤ k → k < nL → P k = dgP c X d k) : frF true P nL = frF true (nrP c X q d true) nL := fr_c nL (fun k hk => by
  by_cases y : k < n0
  · rw [hlo k y, nr_dg, decide_eq_false (show ¬ q < X k % 131072 by have := h1 k y; omega)]
    exact (Bool.and_false _).symm
  · rw [hhi k (by omega) hk, nr_dg, decide_eq_true (h2 k (by omega) hk)]
    exact (Bool.and_true _).symm)
/-- both tables say the same, once the labels have their places -/
theorem TT_1 {c X : Nat → Nat} {nL q n0 : Nat} {ts : Int32} {W0 W NP : Nat → Int32} {ns : Nat} {NM : Nat → Int32} {bs ws : Nat → Nat} {NR LB : Nat → Int32} {U : St} (hl : lam X nL ≤ 16384) (hN : NTB c X nL W0 ns NM bs ws) (hW : ∀ k : Nat, k < nL → X k / 131072 = 2 → W k = W0 k) (hR : NRI c X nL NR LB) (hn : n0 ≤ nL) (h1 : ∀ k : Nat, k < n0 → X k % 131072 < q) (h2 : ∀ k : Nat, n0 ≤ k → k < nL → q < X k % 131072) (hP : ∀ d : Nat, d ≤ 9 → NP (10 + d) = nI (lmF X (frF false (dgP c X d) n0))) (u3 : sR U 3 = NM) (u5 : sR U 5 = NR) (u6 : ∀ j : Nat, j < lam X nL → sR U 6 (5 * j + 3) = LB (5 * j + 3)) (hp : ∀ k : Nat, k < nL → ¬ X k / 131072 = 2 → sR U 6 (5 * lam X k + 2) = vlO ts X W k) : TT c X nL q ts W NP ns bs ws U := by
  refine ⟨hl, fun id hid => ?_, hp, fun d hd => ?_⟩
  · obtain ⟨a1, a2, a3⟩ := hN id hid
    rw [u3]
    exact ⟨fun z => ⟨(a1 z).1, by rw [hW _ z.1 z.2]; exact (a1 z).2⟩, a2, a3⟩
  · obtain ⟨b1, b2, b3⟩ := hR d hd
    have fl := fr_l false (dgP c X d) n0
    have lb := lmF_l (X := X) (nL := nL) (f := frF false (dgP c X d) n0) (by omega)
    have hi : ∀ (k0 : Nat), k0 < n0 → ∀ k : Nat, n0 ≤ k → (dgP c X d k && decide (k0 < k)) = dgP c X d k := fun k0 hk0 k hk => by
      rw [decide_eq_true (show k0 < k by omega)]
      exact Bool.and_true _
    refine ⟨by rw [nrq_b hn h1 h2]; exact hP d hd, fun z => ?_, fun j hj z => ?_⟩
    · rw [hP d hd, show (0 : Int32) = nI 0 from rfl, nI_eq (by omega) (by omega), lmF_0] at z
      have no := (fr_z false _ n0).mp z
      rw [u5, b2, nrq_f h1 h2 (dgP c X d) no (fun _ _ _ => rfl)]
    · rw [hP d hd, nI_eq (by omega) (by omega)] at z
      obtain ⟨kl, hkl⟩ : ∃ kl : Nat, frF false (dgP c X d) n0 = kl + 1 := by
        cases hf : frF false (dgP c X d) n0 with
        | zero => rw [hf] at z; exact absurd (show 0 = j + 1 from z) (by omega)
        | succ k => exact ⟨k, rfl⟩
      obtain ⟨s1, s2, s3, _⟩ := fr_s false _ n0 kl hkl
      have hj2 : j = lam X kl := by
        rw [hkl] at z
        unfold lmF at z
        rw [if_neg (by omega), Nat.add_sub_cancel] at z
        omega
      rw [hj2, u6 _ (lam_l (show kl < nL by omega) (show ¬ X kl / 131072 = 2 by have := (dg_3 s2).1; omega)), b3 kl (by omega) s2, nrq_f h1 h2 (fun i => dgP c X d i && decide (kl < i)) (fun k hk => by
        show (dgP c X d k && decide (kl < k)) = false
        by_cases y : kl < k
        · rw [s3 rfl k y hk]; rfl
        · rw [decide_eq_false y]; exact Bool.and_false _) (fun k k1 _ => hi kl s1 k k1)]
/-- the class's reader while statements are laid out and put -/
def URD (U : St) (cs nl ns : Nat) (C A NM NR LB : Nat → Int32) : Prop := sI U 5 = nI cs ∧ sI U 9 = nI nl ∧ sR U 0 = C ∧ sR U 1 = A ∧ sR U 3 = NM ∧ sR U 5 = NR ∧ sR U 6 = LB ∧ cs ≤ 32832 ∧ ns ≤ 16384
theorem URD_v {U : St} {cs nl ns : Nat} {C A NM NR LB : Nat → Int32} (h : URD U cs nl ns C A NM NR LB) (tp : Nat) (tr : Int32) (S : Nat → Int32) : URD (vC U tp tr S) cs nl ns C A NM NR LB := h
theorem vC_11 {U : St} {tp : Nat} {tr : Int32} {S : Nat → Int32} : sI (vC U tp tr S) 11 = tr := rfl
/-- the value of an expression, in the class -/
theorem ev_C {n : Nat} {U : St} {cs nl ns : Nat} {C A NM NR LB : Nat → Int32} (hn : 70000 < n) (hU : URD U cs nl ns C A NM NR LB) {c X : Nat → Nat} {e nL q : Nat} {ts hr : Int32} {W NP : Nat → Int32} {bs ws : Nat → Nat} (hT : TT c X nL q ts W NP ns bs ws U) {s0 m : Nat} {P : Nat → Tp} (hC : CR NP c e C A s0 ns bs ws m P C A) (h21 : C (s0 + m) = 21) (hm : s0 + m < cs) (ho : one P m) : ∃ S' : Nat → Int32, df_X9_evaluate n (nI s0) hr U = some (zV (VV c X e nL q ts hr W) P m, vC U 1 (trO (mV (VV c X e nL q ts hr W) P m) (dV (VV c X e nL q ts hr W) P m)) S') := by
  obtain ⟨u5, u9, u0, u1, u3, ur5, u6, hcs, hns⟩ := hU
  have hC' : CR NP c e C A s0 ns bs ws m P (sR U 0) (sR U 1) := by rw [u0, u1]; exact hC
  exact evl_all hn (evH_1 hns hC' hT) (fun i hi => (hC'.2 i hi).1) (CR_P hC) u5 hcs hm (by rw [u0]; exact h21) _ _ _ (ho _)

/-- the class: statements grow -/
def anyF (gw : Nat → Bool) : Nat → Bool
  | 0 => false
  | k + 1 => anyF gw k || gw k
def SWg (SW : Nat → Int32) (gw : Nat → Bool) (ln : Nat → Nat) (i : Nat) : Nat → Int32 := fun x => if x / 8 < i ∧ x % 8 = 3 ∧ gw (x / 8) = true then nI (2 * ln (x / 8)) else SW x
theorem SWg_0 {SW : Nat → Int32} {gw : Nat → Bool} {ln : Nat → Nat} : SWg SW gw ln 0 = SW := funext fun x => if_neg (by omega)
theorem SWg_o {SW : Nat → Int32} {gw : Nat → Bool} {ln : Nat → Nat} {i j k : Nat} (h : i ≤ j) (hk : k < 8) : SWg SW gw ln i (8 * j + k) = SW (8 * j + k) := if_neg (by omega)
theorem SWg_y {SW : Nat → Int32} {gw : Nat → Bool} {ln : Nat → Nat} {i : Nat} (h : gw i = true) : upd (SWg SW gw ln i) (8 * i + 3) (nI (2 * ln i)) = SWg SW gw ln (i + 1) := funext fun x => by
  unfold SWg
  by_cases z : x = 8 * i + 3
  · rw [z, up_e, if_pos ⟨by omega, by omega, by rw [show (8 * i + 3) / 8 = i by omega]; exact h⟩, show (8 * i + 3) / 8 = i by omega]
  · rw [up_n z]
    by_cases y : x / 8 < i ∧ x % 8 = 3 ∧ gw (x / 8) = true
    · rw [if_pos y, if_pos ⟨by omega, y.2⟩]
    · rw [if_neg y, if_neg (fun u => y ⟨by omega, u.2⟩)]
theorem SWg_n {SW : Nat → Int32} {gw : Nat → Bool} {ln : Nat → Nat} {i : Nat} (h : gw i = false) : SWg SW gw ln i = SWg SW gw ln (i + 1) := funext fun x => by
  unfold SWg
  by_cases y : x / 8 < i ∧ x % 8 = 3 ∧ gw (x / 8) = true
  · rw [if_pos y, if_pos ⟨by omega, y.2⟩]
  · rw [if_neg y, if_neg (fun u => by
      by_cases w : x / 8 = i
      · rw [w, h] at u; exact absurd u.2.2 (by decide)
      · exact y ⟨by omega, u.2⟩)]
/-- which statements are looked at, by kind and length -/
def gcd2 (kd ln : Nat) : Bool := decide ((kd = 1 ∧ ln < 4) ∨ (kd = 2 ∧ ln < 8))
theorem gr_4 {n : Nat} {Q : St} {sn cs nl ns : Nat} {C A NM NR LB SW : Nat → Int32} (h0 : sI Q 0 = nI sn) (hsn : sn ≤ 8194) (kd ln lt : Nat → Nat) (vl tr : Nat → Int32) (ok gw : Nat → Bool) (hk : ∀ i : Nat, i < sn → kd i < 10 ∧ ln i < 2 ^ 30 ∧ SW (8 * i + 4) = nI (kd i) ∧ SW (8 * i + 3) = nI (ln i) ∧ gw i = (gcd2 (kd i) (ln i) && (decide (tr i = 0) && !ok i)) ∧ (gcd2 (kd i) (ln i) = true → (∀ U : St, URD U cs nl ns C A NM NR LB → ∃ S' : Nat → Int32, df_X9_evaluate n (SW (8 * i + 6)) (SW (8 * i + 2)) U = some (vl i, vC U 1 (tr i) S')) ∧ df_X1_growingLetter n (nI (kd i)) (nI (ln i)) () = some (nI (lt i), ()) ∧ df_X7_fits n (nI (lt i)) (vl i - SW (8 * i + 2)) () = some (bI (ok i), ()))) : ∀ (m i g : Nat) (U : St), i + m = sn → m < g → URD U cs nl ns C A NM NR LB → ∃ U' : St, df_X1_grow_4 n g (bI (anyF gw i)) (nI i) (pR Q 0 (SWg SW gw ln i), U) = some (bI (anyF gw sn), (pR Q 0 (SWg SW gw ln sn), U')) ∧ URD U' cs nl ns C A NM NR LB ∧ sO U' = sO U ∧ sR U' 7 = sR U 7 := fun m => by
  induction m with
  | zero =>
    intro i g U h1 h2 hU
    have : i = sn := by omega
    subst this
    obtain ⟨g, rfl⟩ : ∃ k : Nat, g = k + 1 := ⟨g - 1, by omega⟩
    refine ⟨U, ?_, hU, rfl, rfl⟩
    show dF_X1_grow_4 n (df_X1_grow_4 n g) (bI (anyF gw i)) (nI i) (pR Q 0 (SWg SW gw ln i), U) = _
    unfold dF_X1_grow_4
    rw [show sI (pR Q 0 (SWg SW gw ln i), U).1 0 = nI i from h0, if_pos (zle (Nat.le_refl i) (by omega))]
    cases anyF gw i
    · exact nar_z (by decide)
    · exact nar_z (by decide)
  | succ m ih =>
    intro i g U h1 h2 hU
    obtain ⟨g, rfl⟩ : ∃ k : Nat, g = k + 1 := ⟨g - 1, by omega⟩
    obtain ⟨k1, k2, k3, k4, k5, k6⟩ := hk i (by omega)
    have e136 : ∀ (b : Bool) (SW' : Nat → Int32) (U1 : St), b = anyF gw (i + 1) → SW' = SWg SW gw ln (i + 1) → URD U1 cs nl ns C A NM NR LB → sO U1 = sO U → sR U1 7 = sR U 7 → ∃ U' : St, df_X1_grow_136 n (df_X1_grow_4 n g) (bI b) (nI i) (pR Q 0 SW', U1) = some (bI (anyF gw sn), (pR Q 0 (SWg SW gw ln sn), U')) ∧ URD U' cs nl ns C A NM NR LB ∧ sO U' = sO U ∧ sR U' 7 = sR U 7 := fun b SW' U1 hb hS hU1 o1 o2 => by
      subst hb
      subst hS
      obtain ⟨U', r1, r2, r3, r4⟩ := ih (i + 1) g U1 (by omega) (by omega) hU1
      refine ⟨U', ?_, r2, r3.trans o1, r4.trans o2⟩
      unfold df_X1_grow_136
      rw [nb_let, show nI i + Int32.ofInt 1 = nI (i + 1) from nI_add i 1]
      exact r1
    have eS : sR (pR Q 0 (SWg SW gw ln i), U).1 0 = SWg SW gw ln i := pR_e
    have skip : gcd2 (kd i) (ln i) = false → ∃ U' : St, df_X1_grow_136 n (df_X1_grow_4 n g) (bI (anyF gw i)) (nI i) (pR Q 0 (SWg SW gw ln i), U) = some (bI (anyF gw sn), (pR Q 0 (SWg SW gw ln sn), U')) ∧ URD U' cs nl ns C A NM NR LB ∧ sO U' = sO U ∧ sR U' 7 = sR U 7 := fun hg => by
      have gf : gw i = false := by rw [k5, hg]; rfl
      exact e136 (anyF gw i) (SWg SW gw ln i) U (by show anyF gw i = (anyF gw i || gw i); rw [gf, Bool.or_false]) (SWg_n gf) hU rfl rfl
    have look : gcd2 (kd i) (ln i) = true → ∃ U' : St, df_X1_grow_62 n (df_X1_grow_4 n g) (bI (anyF gw i)) (nI i) (nI (8 * i)) (nI (kd i)) (nI (ln i)) (pR Q 0 (SWg SW gw ln i), U) = some (bI (anyF gw sn), (pR Q 0 (SWg SW gw ln sn), U')) ∧ URD U' cs nl ns C A NM NR LB ∧ sO U' = sO U ∧ sR U' 7 = sR U 7 := fun hg => by
      obtain ⟨l1, l2, l3⟩ := k6 hg
      obtain ⟨S', l4⟩ := l1 U hU
      have hUv := URD_v hU 1 (tr i) S'
      unfold df_X1_grow_62
      rw [show nI (8 * i) + 6 = nI (8 * i + 6) from nI_add (8 * i) 6, show nI (8 * i) + 2 = nI (8 * i + 2) from nI_add (8 * i) 2, show nI (8 * i) + 3 = nI (8 * i + 3) from nI_add (8 * i) 3, nm_ck (by omega) (by omega), nm_ck (by omega) (by omega), nI_clamp (by omega), nI_clamp (by omega), eS, SWg_o (Nat.le_refl _) (by omega), SWg_o (Nat.le_refl _) (by omega)]
      rw [show df_X9_evaluate n (SW (8 * i + 6)) (SW (8 * i + 2)) (pR Q 0 (SWg SW gw ln i), U).2 = _ from l4, nb_b2, nb_let, nm_ck (by omega) (by omega)]
      rw [show sR ((pR Q 0 (SWg SW gw ln i), U).1, vC U 1 (tr i) S').1 0 = SWg SW gw ln i from pR_e, SWg_o (Nat.le_refl _) (by omega), nb_let, show sI ((pR Q 0 (SWg SW gw ln i), U).1, vC U 1 (tr i) S').2 11 = tr i from rfl]
      by_cases t0 : tr i = 0
      · rw [if_pos t0, l2, nb_b2, l3, nb_b2]
        cases ho : ok i with
        | true =>
          rw [if_neg (show ¬ bI true = 0 by decide)]
          have gf : gw i = false := by rw [k5, hg, ho]; simp
          exact e136 (anyF gw i) (SWg SW gw ln i) (vC U 1 (tr i) S') (by show anyF gw i = (anyF gw i || gw i); rw [gf, Bool.or_false]) (SWg_n gf) hUv rfl rfl
        | false =>
          have gt : gw i = true := by rw [k5, hg, ho, decide_eq_true t0]; rfl
          rw [if_pos (show bI false = 0 from rfl), nm_ck (by omega) (by omega), show nI (ln i) * 2 = nI (2 * ln i) from by rw [show (2 : Int32) = nI 2 from rfl, pk_mul, Nat.mul_comm]]
          rw [show pR ((pR Q 0 (SWg SW gw ln i), U).1, vC U 1 (tr i) S').1 0 (upd (SWg SW gw ln i) (nI (8 * i + 3)).toNatClampNeg (nI (2 * ln i))) = pR Q 0 (upd (SWg SW gw ln i) (nI (8 * i + 3)).toNatClampNeg (nI (2 * ln i))) from pR_2, nI_clamp (by omega), nb_let]
          exact e136 true (upd (SWg SW gw ln i) (8 * i + 3) (nI (2 * ln i))) (vC U 1 (tr i) S') (by show true = (anyF gw i || gw i); rw [gt, Bool.or_true]) (SWg_y gt) hUv rfl rfl
      · rw [if_neg t0]
        have gf : gw i = false := by rw [k5, decide_eq_false t0]; simp
        exact e136 (anyF gw i) (SWg SW gw ln i) (vC U 1 (tr i) S') (by show anyF gw i = (anyF gw i || gw i); rw [gf, Bool.or_false]) (SWg_n gf) hUv rfl rfl
    show ∃ U' : St, dF_X1_grow_4 n (df_X1_grow_4 n g) (bI (anyF gw i)) (nI i) (pR Q 0 (SWg SW gw ln i), U) = _ ∧ _
    unfold dF_X1_grow_4 df_X1_grow_49
    rw [show sI (pR Q 0 (SWg SW gw ln i), U).1 0 = nI sn from h0, if_neg (znle (show i < sn by omega) (by omega)), ix8z i, nb_let, show nI (8 * i) + 4 = nI (8 * i + 4) from nI_add (8 * i) 4, show nI (8 * i) + 3 = nI (8 * i + 3) from nI_add (8 * i) 3, nm_ck (by omega) (by omega), nI_clamp (by omega), eS, SWg_o (Nat.le_refl _) (by omega), k3, nb_let, nm_ck (by omega) (by omega), nI_clamp (by omega), SWg_o (Nat.le_refl _) (by omega), k4, nb_let]
    by_cases d1 : kd i = 1
    · rw [if_pos (show nI (kd i) = 1 from congrArg nI d1)]
      by_cases d4 : ln i < 4
      · rw [if_pos (show nI (ln i) < 4 from zlt (b := 4) d4 (by omega))]
        exact look (decide_eq_true (Or.inl ⟨d1, d4⟩))
      · rw [if_neg (show ¬ nI (ln i) < 4 from znl (b := 4) (by omega) (by omega)), if_neg (show ¬ nI (kd i) = 2 from zne (b := 2) (by omega) (by omega) (by omega))]
        exact skip (decide_eq_false (by omega))
    · rw [if_neg (show ¬ nI (kd i) = 1 from zne (b := 1) d1 (by omega) (by omega))]
      by_cases d2 : kd i = 2
      · rw [if_pos (show nI (kd i) = 2 from congrArg nI d2)]
        by_cases d8 : 8 ≤ ln i
        · rw [if_pos (show (8 : Int32) ≤ nI (ln i) from zle (a := 8) d8 (by omega))]
          exact skip (decide_eq_false (by omega))
        · rw [if_neg (show ¬ (8 : Int32) ≤ nI (ln i) from znle (a := 8) (by omega) (by omega))]
          exact look (decide_eq_true (Or.inr ⟨d2, by omega⟩))
      · rw [if_neg (show ¬ nI (kd i) = 2 from zne (b := 2) d2 (by omega) (by omega))]
        exact skip (decide_eq_false (by omega))

theorem SR_p17 {B : St} {ct : Nat} {gr : Bool} {PA BY OU : Nat → Int32} {ft : Int32} {ap : Nat} {S : St} (h : SR B ct gr PA BY OU ft ap S) (v : Int32) : SR (pI B 17 v) ct gr PA BY OU ft ap (pI S 17 v) := by
  obtain ⟨ms, dv, ls, sg, vl, PL, tk, fr, to, nm, rfl⟩ := h
  refine ⟨ms, dv, ls, sg, vl, PL, tk, fr, to, nm, Prod.ext (funext fun j => ?_) rfl⟩
  show (if j = 17 then v else _) = _
  by_cases h : j = 17
  · subst h; rfl
  · unfold uR xR yR pI
    simp only [if_neg h]
/-- the text, and the class's row of it -/
def TXT (n L : Nat) (c : Nat → Nat) (B0 : St) : Prop := 70000 < n ∧ L ≤ 32768 ∧ (∀ i : Nat, c i < 127) ∧ (∀ i : Nat, L ≤ i → c i = 10) ∧ (∀ i : Nat, c i = 9 ∨ c i = 10 ∨ 32 ≤ c i) ∧ sO B0 0 = some 8 ∧ ∀ i : Nat, i < L → sR B0 7 i = nI (c i)
/-- the reference when all is laid out -/
def RBd (L : Nat) (c X : Nat → Nat) (nL nS T : Nat) (OF W : Nat → Int32) (B : St) : Prop := sI B 0 = nI L ∧ (∀ i : Nat, i < L → sR B 2 i = nI (c i)) ∧ sI B 2 = nI nS ∧ sI B 3 = nI nL ∧ (∀ k : Nat, k < nL → sR B 6 k = nI (X k)) ∧ sI B 4 = nI T ∧ sR B 4 = OF ∧ sR B 7 = W ∧ cstS B ∧ (∃ l : Nat, sI B 13 = nI l ∧ l ≤ 40000)
def XOK (L : Nat) (c X : Nat → Nat) (nL : Nat) : Prop := nL ≤ 16500 ∧ ∀ k : Nat, k < nL → X k < 5 * 131072 ∧ X k % 131072 < 40000 ∧ (3 ≤ X k / 131072 → X k % 131072 < L ∧ 48 ≤ c (X k % 131072))
def adN (Zs : Nat → Nat) (of : Nat → Nat) (T s : Nat) : Nat := of s + (if Zs s = 1 then bsN T else 0)
def BX (B : St) (s : Nat) (ad : Int32) (se : Nat) (μ : Int32) : St := pI (pI (pI (pI B 16 (nI s)) 17 ad) 14 (nI se)) 15 μ
theorem again_R {n L : Nat} {c : Nat → Nat} {B0 : St} (hX : TXT n L c B0) {X : Nat → Nat} {nL nS T : Nat} {OF W : Nat → Int32} {B : St} (hB : RBd L c X nL nS T OF W B) (hK : XOK L c X nL) {ct : Nat} {gr : Bool} {PA BY OU : Nat → Int32} {ap : Nat} {S : St} (h : SR B ct gr PA BY OU 0 ap S) {s q e se A of lw lv sz n0 : Nat} {ba : Option Int32} {X0 : Nat → Nat} {W0 : Nat → Int32} {D : Dt} (hs : s < 11000) (hPA : PA s = nI (A * 2 ^ 17 + q)) (hA : A < 64) (hZ : A / 4 % 2 = se) (hq : q + 3 ≤ e) (heL : e ≤ L) (hce : c e = 10) (hof : OF s = nI of) (hT : T ≤ 2 ^ 30) (hR : ∀ BC : St, RFB n L e c BC q se lw lv sz ba X0 W0 n0 D) (hn0 : n0 ≤ nL) (hX0 : ∀ k : Nat, k < n0 → X0 k = X k ∧ (X k / 131072 = 2 → W0 k = W k)) (hba : ∀ v : Int32, ba = some v → BY s = v) (hlw : lw ≤ A % 4) (hlv : A % 4 ≤ lv) {μ : Nat} (hμ : μ = 1 ∨ μ = 2 ∨ μ = 3) (hw : OKW (BX B s (nI (of + (if se = 1 then bsN T else 0))) se (nI μ)) (sZ D (A % 4))) : ∃ S' : St, df_X13_again n (nI s) (nI μ) S = some S' ∧ (μ = 2 → ¬ sF D (VV c X e nL q (nI T) (nI (of + (if se = 1 then bsN T else 0))) W) (nI (of + (if se = 1 then bsN T else 0))) (A % 4) = 0 → FL e (BX B s (nI (of + (if se = 1 then bsN T else 0))) se (nI μ)) (nI (sF D (VV c X e nL q (nI T) (nI (of + (if se = 1 then bsN T else 0))) W) (nI (of + (if se = 1 then bsN T else 0))) (A % 4)) + 16 * sI B 13) S') ∧ ((μ = 2 → sF D (VV c X e nL q (nI T) (nI (of + (if se = 1 then bsN T else 0))) W) (nI (of + (if se = 1 then bsN T else 0))) (A % 4) = 0) → ∃ (ct' p' : Nat) (gr' : Bool), p' ≤ e ∧ (D.1 = 1 ∨ D.1 = 2 → gr' = (decide (μ = 1) && sG D (VV c X e nL q (nI T) (nI (of + (if se = 1 then bsN T else 0))) W) (nI (of + (if se = 1 then bsN T else 0))) (A % 4))) ∧ SR (BX B s (nI (of + (if se = 1 then bsN T else 0))) se (nI μ)) ct' gr' PA BY (if μ = 3 then wrL OU (sI B 19).toNatClampNeg (sB D (VV c X e nL q (nI T) (nI (of + (if se = 1 then bsN T else 0))) W) (nI (of + (if se = 1 then bsN T else 0))) (A % 4)) else OU) 0 p' S') := by
  obtain ⟨hn, hL, h127, hend, hch, hO, htC⟩ := hX
  obtain ⟨b0, b2, bn, b3, b6, b4, bo, bw, bc, bl⟩ := hB
  obtain ⟨k1, k2⟩ := hK
  have qb : q < 131072 := by omega
  obtain ⟨p1, p2, p3, p4⟩ := pla_1 hA qb
  generalize had : of + (if se = 1 then bsN T else 0) = ad at hw ⊢
  have h1 := SR_p16 h (nI s)
  have h2 := SR_p17 h1 (nI ad)
  have h3 := SR_p14 h2 (nI se)
  have sec : ∀ S9 : St, sR S9 3 = PA → df_X13_sectionOf n (nI s) S9 = some (nI se, S9) := fun S9 h9 => by
    unfold df_X13_sectionOf df_X13_sectionOf_0
    rw [nm_ck hs (by omega), nI_clamp (by omega), h9, hPA, p2, hZ]
  have se2 : se < 2 := by omega
  have adr : df_X13_addressOf n (nI s) (pI S 16 (nI s)) = some (nI ad, pI S 16 (nI s)) := by
    unfold df_X13_addressOf df_X13_addressOf_0 df_X13_addressOf_23
    have r4 : sR (pI S 16 (nI s)) 4 = OF := (SR_r4 h1).trans bo
    rw [nm_ck hs (by omega), sec _ (SR_r3 h1), nb_b2, nI_clamp (by omega), r4, hof]
    by_cases y : se = 1
    · rw [if_pos (show nI se = 1 from congrArg nI y)]
      unfold df_X13_base df_X13_base_0
      rw [nb_b2, show sI (pI S 16 (nI s)) 4 = nI T from (SR_4 h1).trans b4]
      have e1 : ((((nI T + 1023) / 1024) * 1024 : Int32)) = nI (bsN T) := bs_R hT
      rw [e1, nI_add, ← had, if_pos y]
    · rw [if_neg (show ¬ nI se = 1 from zne (b := 1) y (by omega) (by omega)), ← had, if_neg y]
      rw [show nI of + 0 = nI (of + 0) from Int32.add_zero _]
  have hag : df_X13_again n (nI s) (nI μ) S = nd_b1 (df_X13_statement n (nI q) (nI μ) (pI (pI (pI S 16 (nI s)) 17 (nI ad)) 14 (nI se))) (fun (s12 : St) => some s12) := by
    unfold df_X13_again df_X13_again_0
    rw [nb_let, adr, nb_b2, nb_let, sec _ (SR_r3 h2), nb_b2, nb_let, nm_ck hs (by omega), nI_clamp (by omega), SR_r3 h3, hPA, p1]
  have hT0 : atx n L e c (bC B0 e 0 (fun _ => 0) (fun _ => 0)) (pI (pI (pI B 16 (nI s)) 17 (nI ad)) 14 (nI se)) := ⟨hn, hL, heL, h127, hend, hce, hO, rfl, htC, b0, b2, hch⟩
  have hV : RV n L e c (bC B0 e 0 (fun _ => 0) (fun _ => 0)) (pI (pI (pI B 16 (nI s)) 17 (nI ad)) 14 (nI se)) X nL s := ⟨hT0, k1, b3, fun k hk => ⟨b6 k hk, by have := (k2 k hk).1; omega⟩, fun k hk hk3 => (k2 k hk).2.2 hk3, rfl, hs, bl⟩
  have hE : tbE X0 W0 n0 X nL (pI (pI (pI B 16 (nI s)) 17 (nI ad)) 14 (nI se)) := ⟨hn0, fun k hk => ((hX0 k hk).1).symm, fun k hk hk2 => by
    rw [(hX0 k hk).1] at hk2
    show sR B 7 k = W0 k
    rw [bw]
    exact ((hX0 k hk).2 hk2).symm⟩
  obtain ⟨S', r1, r2, r3⟩ := hR (bC B0 e 0 (fun _ => 0) (fun _ => 0)) (pI (pI (pI B 16 (nI s)) 17 (nI ad)) 14 (nI se)) X nL s A ct ap μ gr PA BY OU (pI (pI (pI S 16 (nI s)) 17 (nI ad)) 14 (nI se)) hV bc hE rfl hPA hA hlw hlv hba h3 hμ hw
  have eV : VW c X e nL q (pI (pI (pI B 16 (nI s)) 17 (nI ad)) 14 (nI se)) = VV c X e nL q (nI T) (nI ad) W := by
    unfold VW
    show VV c X e nL q (sI B 4) (nI ad) (sR B 7) = _
    rw [b4, bw]
  rw [eV] at r2 r3
  refine ⟨S', by rw [hag, r1, nb_b1], r2, r3⟩

theorem SR_p6 {B : St} {ct : Nat} {gr : Bool} {PA BY OU : Nat → Int32} {ft : Int32} {ap : Nat} {S : St} (h : SR B ct gr PA BY OU ft ap S) (v : Int32) : SR (pI B 6 v) ct gr PA BY OU ft ap (pI S 6 v) := by
  obtain ⟨ms, dv, ls, sg, vl, PL, tk, fr, to, nm, rfl⟩ := h
  refine ⟨ms, dv, ls, sg, vl, PL, tk, fr, to, nm, Prod.ext (funext fun j => ?_) rfl⟩
  show (if j = 6 then v else _) = _
  by_cases h : j = 6
  · subst h; rfl
  · unfold uR xR yR pI
    simp only [if_neg h]
/-- what a later round needs of a statement: D, its line's end, and how it behaves -/
def SRD (n L : Nat) (c X : Nat → Nat) (nL : Nat) (W BY : Nat → Int32) (s : Nat) (D : Dt) (q e se fl n0 A : Nat) : Prop := A < 64 ∧ A / 4 % 2 = se ∧ A / 8 = fl / 8 ∧ (fl = 0 ∨ fl = 8 ∨ fl = 16 ∨ fl = 25) ∧ (0 < fl ↔ (D.1 = 1 ∨ D.1 = 2)) ∧ q + 3 ≤ e ∧ e ≤ L ∧ c e = 10 ∧ n0 ≤ nL ∧ ∃ (lw lv sz : Nat) (ba : Option Int32) (X0 : Nat → Nat) (W0 : Nat → Int32), (∀ BC : St, RFB n L e c BC q se lw lv sz ba X0 W0 n0 D) ∧ (∀ k : Nat, k < n0 → X0 k = X k ∧ (X k / 131072 = 2 → W0 k = W k)) ∧ (∀ v : Int32, ba = some v → BY s = v) ∧ lw ≤ A % 4 ∧ A % 4 ≤ lv
def PAg (PA0 : Nat → Int32) (AA Qs : Nat → Nat) (gG : Nat → Bool) (s : Nat) : Nat → Int32 := fun x => if x < s ∧ gG x = true then nI ((AA x + 1) * 2 ^ 17 + Qs x) else PA0 x
theorem PAg_0 {PA0 : Nat → Int32} {AA Qs : Nat → Nat} {gG : Nat → Bool} : PAg PA0 AA Qs gG 0 = PA0 := funext fun x => if_neg (by omega)
theorem PAg_o {PA0 : Nat → Int32} {AA Qs : Nat → Nat} {gG : Nat → Bool} {s : Nat} : PAg PA0 AA Qs gG s s = PA0 s := if_neg (by omega)
theorem PAg_y {PA0 : Nat → Int32} {AA Qs : Nat → Nat} {gG : Nat → Bool} {s : Nat} (h : gG s = true) : upd (PAg PA0 AA Qs gG s) s (nI ((AA s + 1) * 2 ^ 17 + Qs s)) = PAg PA0 AA Qs gG (s + 1) := funext fun x => by
  unfold PAg
  by_cases z : x = s
  · rw [z, up_e, if_pos ⟨by omega, h⟩]
  · rw [up_n z]
    by_cases y : x < s ∧ gG x = true
    · rw [if_pos y, if_pos ⟨by omega, y.2⟩]
    · rw [if_neg y, if_neg (fun u => y ⟨by omega, u.2⟩)]
theorem PAg_n {PA0 : Nat → Int32} {AA Qs : Nat → Nat} {gG : Nat → Bool} {s : Nat} (h : gG s = false) : PAg PA0 AA Qs gG s = PAg PA0 AA Qs gG (s + 1) := funext fun x => by
  unfold PAg
  by_cases y : x < s ∧ gG x = true
  · rw [if_pos y, if_pos ⟨by omega, y.2⟩]
  · rw [if_neg y, if_neg (fun u => by
      by_cases w : x = s
      · rw [w, h] at u; exact absurd u.2 (by decide)
      · exact y ⟨by omega, u.2⟩)]
/-- whether a statement grows -/
def gwF (c X : Nat → Nat) (nL T : Nat) (W : Nat → Int32) (D : Dt) (q e ad l : Nat) : Bool := decide (D.1 = 1 ∨ D.1 = 2) && sG D (VV c X e nL q (nI T) (nI ad) W) (nI ad) l
theorem st_19 {n L : Nat} {c : Nat → Nat} {B0 : St} (hX : TXT n L c B0) {X : Nat → Nat} {nL nS T : Nat} {OF W : Nat → Int32} (hK : XOK L c X nL) {BY OU PA0 : Nat → Int32} {Ds : Nat → Dt} {Qs Es Zs Fs N0 AA of : Nat → Nat} (G : Int32 → St → Option St) (hnS : nS ≤ 8200) (hT : T ≤ 2 ^ 30) (hst : ∀ s : Nat, s < nS → SRD n L c X nL W BY s (Ds s) (Qs s) (Es s) (Zs s) (Fs s) (N0 s) (AA s) ∧ PA0 s = nI (AA s * 2 ^ 17 + Qs s) ∧ OF s = nI (of s)) (gG : Nat → Bool) (hg : ∀ s : Nat, s < nS → gG s = gwF c X nL T W (Ds s) (Qs s) (Es s) (of s + (if Zs s = 1 then bsN T else 0)) (AA s % 4)) : ∀ (m s g : Nat) (B S : St) (ct ap : Nat) (gr : Bool), s + m = nS → m < g → RBd L c X nL nS T OF W B → SR B ct gr (PAg PA0 AA Qs gG s) BY OU 0 ap S → ∃ (B' S' : St) (ct' ap' : Nat) (gr' : Bool), df_X13_stretch_19 n G g (bI (anyF gG s)) (nI s) S = G (bI (anyF gG nS)) S' ∧ RBd L c X nL nS T OF W B' ∧ SR B' ct' gr' (PAg PA0 AA Qs gG nS) BY OU 0 ap' S' ∧ sI B' 13 = sI B 13 ∧ sI B' 1 = sI B 1 ∧ sI B' 5 = sI B 5 ∧ sO B' = sO B := fun m => by
  induction m with
  | zero =>
    intro s g B S ct ap gr h1 h2 hB h
    have : s = nS := by omega
    subst this
    obtain ⟨g, rfl⟩ : ∃ k : Nat, g = k + 1 := ⟨g - 1, by omega⟩
    have e19 : ∀ w : Int32, (∃ (B' S' : St) (ct' ap' : Nat) (gr' : Bool), df_X13_stretch_113 n G (bI (anyF gG s)) w S = G (bI (anyF gG s)) S' ∧ RBd L c X nL s T OF W B' ∧ SR B' ct' gr' (PAg PA0 AA Qs gG s) BY OU 0 ap' S' ∧ sI B' 13 = sI B 13 ∧ sI B' 1 = sI B 1 ∧ sI B' 5 = sI B 5 ∧ sO B' = sO B) := fun w => ⟨pI B 6 w, pI S 6 w, ct, ap, gr, by unfold df_X13_stretch_113; rw [nb_let], hB, SR_p6 h w, rfl, rfl, rfl, rfl⟩
    show ∃ (B' S' : St) (ct' ap' : Nat) (gr' : Bool), dF_X13_stretch_19 n G (df_X13_stretch_19 n G g) (bI (anyF gG s)) (nI s) S = _ ∧ _
    unfold dF_X13_stretch_19
    rw [SR_2 h, hB.2.2.1, if_pos (zle (Nat.le_refl s) (by omega))]
    by_cases y : bI (anyF gG s) = 0
    · rw [if_pos y]; exact e19 _
    · rw [if_neg y]; exact e19 _
  | succ m ih =>
    intro s g B S ct ap gr h1 h2 hB h
    obtain ⟨g, rfl⟩ : ∃ k : Nat, g = k + 1 := ⟨g - 1, by omega⟩
    obtain ⟨⟨c1, c2, c3, c4, c5, c6, c7, c8, c9, lw, lv, sz, ba, X0, W0, d1, d2, d3, d4, d5⟩, hP, hO⟩ := hst s (by omega)
    have hL := hX.2.1
    have qb : Qs s < 131072 := by omega
    obtain ⟨p1, p2, p3, p4⟩ := pla_1 c1 qb
    have gs := hg s (by omega)
    show ∃ (B' S' : St) (ct' ap' : Nat) (gr' : Bool), dF_X13_stretch_19 n G (df_X13_stretch_19 n G g) (bI (anyF gG s)) (nI s) S = _ ∧ _
    unfold dF_X13_stretch_19
    rw [SR_2 h, hB.2.2.1, if_neg (znle (show s < nS by omega) (by omega)), nm_ck (by omega) (by omega), nI_clamp (by omega), SR_r3 h, PAg_o, hP, p3]
    by_cases z : Fs s = 0
    · have kn : ¬ ((Ds s).1 = 1 ∨ (Ds s).1 = 2) := fun w => by have := c5.mpr w; omega
      have gf : gG s = false := by rw [gs]; unfold gwF; rw [decide_eq_false kn]; rfl
      rw [if_pos (show nI (AA s / 8) = 0 from congrArg nI (show AA s / 8 = 0 by omega))]
      unfold df_X13_stretch_89
      rw [nb_let, show nI s + Int32.ofInt 1 = nI (s + 1) from nI_add s 1]
      have ea : anyF gG s = anyF gG (s + 1) := by
        show anyF gG s = (anyF gG s || gG s)
        rw [gf, Bool.or_false]
      rw [ea]
      rw [PAg_n gf] at h
      exact ih (s + 1) g B S ct ap gr (by omega) (by omega) hB h
    · have kn : (Ds s).1 = 1 ∨ (Ds s).1 = 2 := c5.mp (by omega)
      rw [if_neg (show ¬ nI (AA s / 8) = 0 from zne (b := 0) (by omega) (by omega) (by omega)), nb_let]
      have h20 := SR_w20 h false
      obtain ⟨S1, r1, r2, r3⟩ := again_R hX hB hK h20 (s := s) (q := Qs s) (e := Es s) (se := Zs s) (A := AA s) (of := of s) (n0 := N0 s) (D := Ds s) (by omega) (PAg_o.trans hP) c1 c2 c6 c7 c8 hO hT d1 c9 d2 d3 d4 d5 (μ := 1) (Or.inl rfl) (fun w => absurd w (show ¬ nI 1 = 3 by decide))
      obtain ⟨ct1, p1', gr1, q1, q2, q3⟩ := r3 (fun w => absurd w (by decide))
      have q2 := q2 kn
      rw [decide_eq_true (rfl : (1 : Nat) = 1), Bool.true_and] at q2
      have gg : gr1 = gG s := by
        rw [q2, gs]
        unfold gwF
        rw [decide_eq_true kn, Bool.true_and]
      rw [gg, if_neg (show ¬ (1 : Nat) = 3 by decide)] at q3
      rw [show df_X13_again n (nI s) 1 (pI S 20 0) = some S1 from r1, nb_b1, SR_20 q3]
      have hB1 : RBd L c X nL nS T OF W (BX B s (nI (of s + (if Zs s = 1 then bsN T else 0))) (Zs s) (nI 1)) := hB
      have e72 : ∀ S2 : St, (∃ (PA2 : Nat → Int32), PA2 = PAg PA0 AA Qs gG (s + 1) ∧ SR (BX B s (nI (of s + (if Zs s = 1 then bsN T else 0))) (Zs s) (nI 1)) ct1 (gG s) PA2 BY OU 0 p1' S2) → ∃ (B' S' : St) (ct' ap' : Nat) (gr' : Bool), df_X13_stretch_72 n G (df_X13_stretch_19 n G g) (bI (anyF gG s)) (nI s) S2 = G (bI (anyF gG nS)) S' ∧ RBd L c X nL nS T OF W B' ∧ SR B' ct' gr' (PAg PA0 AA Qs gG nS) BY OU 0 ap' S' ∧ sI B' 13 = sI B 13 ∧ sI B' 1 = sI B 1 ∧ sI B' 5 = sI B 5 ∧ sO B' = sO B := fun S2 hS2 => by
        obtain ⟨PA2, e2, hS2⟩ := hS2
        subst e2
        obtain ⟨B', S', ct', ap', gr', t1, t2, t3, t4, t5, t6, t7⟩ := ih (s + 1) g _ S2 ct1 p1' (gG s) (by omega) (by omega) hB1 hS2
        refine ⟨B', S', ct', ap', gr', ?_, t2, t3, t4, t5, t6, t7⟩
        unfold df_X13_stretch_72 df_X13_stretch_83 df_X13_stretch_88 df_X13_stretch_89
        rw [nb_let, nb_let, show nI s + Int32.ofInt 1 = nI (s + 1) from nI_add s 1, SR_20 hS2]
        have t1 : df_X13_stretch_19 n G g (bI (anyF gG s || gG s)) (nI (s + 1)) S2 = G (bI (anyF gG nS)) S' := t1
        rw [← t1]
        cases hh : anyF gG s with
        | false =>
          rw [if_pos (show bI false = 0 from rfl)]
          cases hg2 : gG s with
          | false => rw [if_pos (show bI false = 0 from rfl)]; rfl
          | true => rw [if_neg (show ¬ bI true = 0 by decide)]; rfl
        | true => rw [if_neg (show ¬ bI true = 0 by decide)]; rfl
      cases hgs : gG s with
      | false =>
        rw [hgs] at q3
        rw [if_pos (show bI false = 0 from rfl)]
        refine e72 S1 ⟨PAg PA0 AA Qs gG s, PAg_n hgs, ?_⟩
        rw [hgs]; exact q3
      | true =>
        rw [hgs] at q3
        rw [if_neg (show ¬ bI true = 0 by decide), nm_ck (by omega) (by omega), nm_ck (by omega) (by omega), SR_r3 q3, PAg_o, hP, show nI (AA s * 2 ^ 17 + Qs s) + 131072 = nI ((AA s + 1) * 2 ^ 17 + Qs s) from by rw [show (131072 : Int32) = nI 131072 from rfl, nI_add]; exact congrArg nI (by omega), nb_let]
        refine e72 _ ⟨upd (PAg PA0 AA Qs gG s) s (nI ((AA s + 1) * 2 ^ 17 + Qs s)), PAg_y hgs, ?_⟩
        rw [hgs]; exact SR_w3 q3 _

/-- levels, and the reference's rows with them -/
def lvK (Ds : Nat → Dt) (Fs lv : Nat → Nat) (nS : Nat) : Prop := ∀ s : Nat, s < nS → ((Ds s).1 = 1 → lv s ≤ 1) ∧ ((Ds s).1 = 2 → lv s ≤ 2) ∧ (¬ (Ds s).1 = 1 → ¬ (Ds s).1 = 2 → lv s = 0) ∧ Fs s % 4 ≤ lv s
def AAl (Zs Fs lv : Nat → Nat) (s : Nat) : Nat := 4 * Zs s + Fs s / 8 * 8 + lv s
theorem AAl_1 {Zs Fs lv : Nat → Nat} {s : Nat} (hz : Zs s < 2) (hf : Fs s = 0 ∨ Fs s = 8 ∨ Fs s = 16 ∨ Fs s = 25) (hl : lv s ≤ 2) : AAl Zs Fs lv s < 64 ∧ AAl Zs Fs lv s / 4 % 2 = Zs s ∧ AAl Zs Fs lv s % 4 = lv s ∧ AAl Zs Fs lv s / 8 = Fs s / 8 := by
  unfold AAl
  rcases hf with h | h | h | h <;> (rw [h]; omega)
/-- one round begins: both states -/
def RJ (n L : Nat) (c : Nat → Nat) (Bz : St) (sn : Nat) (SW0 : Nat → Int32) (cs ns : Nat) (C A NM : Nat → Int32) (nl : Nat) (NR LB0 : Nat → Int32) (X : Nat → Nat) (nL nS : Nat) (BY : Nat → Int32) (Ds : Nat → Dt) (Qs Zs Fs sg lv : Nat → Nat) (Q U S : St) : Prop := (∃ (B : St) (ct : Nat) (gr : Bool) (PA OU : Nat → Int32) (ap : Nat), SR B ct gr PA BY OU 0 ap S ∧ (∀ s : Nat, s < nS → PA s = nI (AAl Zs Fs lv s * 2 ^ 17 + Qs s)) ∧ sI B 0 = nI L ∧ (∀ i : Nat, i < L → sR B 2 i = nI (c i)) ∧ sI B 2 = nI nS ∧ sI B 3 = nI nL ∧ (∀ k : Nat, k < nL → sR B 6 k = nI (X k)) ∧ (∀ k : Nat, k < nL → X k / 131072 = 2 → sR B 7 k = sR Bz 7 k) ∧ cstS B ∧ (∃ l : Nat, sI B 13 = nI l ∧ l ≤ 40000)) ∧ sI Q 0 = nI sn ∧ (∀ i x : Nat, i < sn → x < 8 → ¬ x = 2 → ¬ x = 3 → sR Q 0 (8 * i + x) = SW0 (8 * i + x)) ∧ (∀ i : Nat, i < sn → ¬ (Ds (sg i)).1 = 8 → sR Q 0 (8 * i + 3) = nI (szN (Ds (sg i)) (BY (sg i)) (lv (sg i)) 0)) ∧ URD U cs nl ns C A NM NR (sR U 6) ∧ (∀ j x : Nat, j < nl → x < 5 → ¬ x = 2 → sR U 6 (5 * j + x) = LB0 (5 * j + x))
/-- all is laid out: both states -/
def LD (n L : Nat) (c : Nat → Nat) (Bz : St) (sn : Nat) (SW0 : Nat → Int32) (cs ns : Nat) (C A NM : Nat → Int32) (nl : Nat) (NR LB0 : Nat → Int32) (X : Nat → Nat) (nL nS : Nat) (BY : Nat → Int32) (Ds : Nat → Dt) (Qs Zs Fs N0 sg lv : Nat → Nat) (Q U S : St) : Prop := (∃ (B : St) (ct : Nat) (gr : Bool) (PA OU : Nat → Int32) (ap : Nat) (OF W : Nat → Int32), SR B ct gr PA BY OU 0 ap S ∧ (∀ s : Nat, s < nS → PA s = nI (AAl Zs Fs lv s * 2 ^ 17 + Qs s)) ∧ RBd L c X nL nS (lay Ds Zs BY lv nS).1 OF W B ∧ sI B 5 = nI (lay Ds Zs BY lv nS).2 ∧ (∀ s : Nat, s < nS → OF s = nI (ofs Ds Zs BY lv s)) ∧ (∀ k : Nat, k < nL → X k / 131072 = 2 → W k = sR Bz 7 k) ∧ (∀ k : Nat, k < nL → ¬ X k / 131072 = 2 → W k = nI (labV X (lay Ds Zs BY lv) N0 nS k)) ∧ (∀ k : Nat, k < nL → ¬ X k / 131072 = 2 → sR U 6 (5 * lam X k + 2) = vlO (nI (lay Ds Zs BY lv nS).1) X W k)) ∧ sI Q 0 = nI sn ∧ (∀ i x : Nat, i < sn → x < 8 → ¬ x = 2 → ¬ x = 3 → sR Q 0 (8 * i + x) = SW0 (8 * i + x)) ∧ (∀ i : Nat, i < sn → sR Q 0 (8 * i + 2) = nI (adN Zs (ofs Ds Zs BY lv) (lay Ds Zs BY lv nS).1 (sg i)) ∧ sR Q 0 (8 * i + 3) = nI (szN (Ds (sg i)) (BY (sg i)) (lv (sg i)) (ofs Ds Zs BY lv (sg i)))) ∧ URD U cs nl ns C A NM NR (sR U 6) ∧ (∀ j x : Nat, j < nl → x < 5 → ¬ x = 2 → sR U 6 (5 * j + x) = LB0 (5 * j + x)) ∧ sI Q 7 = nI (lay Ds Zs BY lv nS).1 ∧ sI Q 8 = nI (bsN (lay Ds Zs BY lv nS).1) ∧ sI Q 9 = (if nI (lay Ds Zs BY lv nS).2 ≤ 0 then nI (lay Ds Zs BY lv nS).1 else nI (bsN (lay Ds Zs BY lv nS).1) + nI (lay Ds Zs BY lv nS).2)
theorem pR_i0 {S : St} {f : Nat → Int32} {v : Int32} : sR (pI (pR S 0 f) 9 v) 0 = f := (pR_e : sR (pR S 0 f) 0 = f)
theorem URD_6 {U : St} {cs nl ns : Nat} {C A NM NR LB f : Nat → Int32} (h : URD U cs nl ns C A NM NR LB) : URD (pR U 6 f) cs nl ns C A NM NR f := ⟨h.1, h.2.1, h.2.2.1, h.2.2.2.1, h.2.2.2.2.1, h.2.2.2.2.2.1, pR_e, h.2.2.2.2.2.2.2.1, h.2.2.2.2.2.2.2.2⟩
theorem szN_o {D : Dt} {bb : Int32} {l o o' : Nat} (h : ¬ D.1 = 8) : szN D bb l o = szN D bb l o' := by
  unfold szN
  rw [if_neg h, if_neg h]
theorem SR_yL {B : St} {ct : Nat} {gr : Bool} {PA BY OU : Nat → Int32} {ft : Int32} {ap : Nat} {S : St} (h : SR B ct gr PA BY OU ft ap S) (t d : Nat) (OF W : Nat → Int32) : SR (yL B t d OF W) ct gr PA BY OU ft ap (yL S t d OF W) := by
  obtain ⟨ms, dv, ls, sg, vl, PL, tk, fr, to, nm, rfl⟩ := h
  refine ⟨ms, dv, ls, sg, vl, PL, tk, fr, to, nm, Prod.ext (funext fun j => ?_) (Prod.ext rfl (Prod.ext (funext fun j => ?_) rfl))⟩
  · show (if j = 4 then nI t else if j = 5 then nI d else _) = _
    by_cases h4 : j = 4
    · subst h4; rfl
    · by_cases h5 : j = 5
      · subst h5; rfl
      · unfold uR xR yR yL
        simp only [if_neg h4, if_neg h5]
  · show (if j = 4 then OF else if j = 7 then W else _) = _
    by_cases h4 : j = 4
    · subst h4; rfl
    · by_cases h7 : j = 7
      · subst h7; rfl
      · unfold uR xR yR yL
        simp only [if_neg h4, if_neg h7]
/-- what READ says of the lengths -/
theorem RD_Z {n L : Nat} {c : Nat → Nat} {p : Nat} {Bz : St} {sn lu ln se co : Nat} {SW0 LW : Nat → Int32} {cs ns : Nat} {C A NM BK : Nat → Int32} {bs ws : Nat → Nat} {nl : Nat} {NR LB0 : Nat → Int32} {sc X : Nat → Nat} {nL nS : Nat} {PAz BY : Nat → Int32} {Ds : Nat → Dt} {Qs Es Zs Ls Fs N0 : Nat → Nat} {NP : Nat → Nat → Int32} (hR : READ n L c p Bz sn lu ln se co SW0 LW cs ns C A NM BK bs ws nl NR LB0 sc X nL nS PAz BY Ds Qs Es Zs Ls Fs N0 NP) (hp : p ≤ 40000) {lv : Nat → Nat} (hlv : lvK Ds Fs lv nS) : (∀ s : Nat, s < nS → ZK (Ds s) (BY s) (Fs s) (lv s)) ∧ (∀ s : Nat, s < nS → lv s ≤ 2) := by
  obtain ⟨a1, a2, a3, a4, a5, a6, a7, a8, a9, a10, a11, a12, a13, a14, a15, a16, a17, a18, a19⟩ := hR
  constructor
  · intro s hs
    obtain ⟨l1, l2, l3, l4⟩ := hlv s hs
    exact STr_z (a15 s hs).1 (by omega) (lv s) l1 l2 l3
  · intro s hs
    obtain ⟨l1, l2, l3, l4⟩ := hlv s hs
    by_cases z : (Ds s).1 = 1
    · have := l1 z; omega
    · by_cases y : (Ds s).1 = 2
      · have := l2 y; omega
      · have := l3 z y; omega
/-- addresses in both -/
theorem RJ_L {n L : Nat} {c : Nat → Nat} {p : Nat} {Bz : St} {sn lu ln se co : Nat} {SW0 LW : Nat → Int32} {cs ns : Nat} {C A NM BK : Nat → Int32} {bs ws : Nat → Nat} {nl : Nat} {NR LB0 : Nat → Int32} {sc X : Nat → Nat} {nL nS : Nat} {PAz BY : Nat → Int32} {Ds : Nat → Dt} {Qs Es Zs Ls Fs N0 : Nat → Nat} {NP : Nat → Nat → Int32} (hR : READ n L c p Bz sn lu ln se co SW0 LW cs ns C A NM BK bs ws nl NR LB0 sc X nL nS PAz BY Ds Qs Es Zs Ls Fs N0 NP) (hp : p ≤ 32769) (hn : 70000 < n) {lv : Nat → Nat} (hlv : lvK Ds Fs lv nS) {sg : Nat → Nat} (hsg : (∀ i : Nat, i < mu Ds nS → sg i < nS ∧ mu Ds (sg i) = i ∧ ¬ (Ds (sg i)).1 = 9) ∧ sg (mu Ds nS) = nS) {Q U S : St} (hJ : RJ n L c Bz sn SW0 cs ns C A NM nl NR LB0 X nL nS BY Ds Qs Zs Fs sg lv Q U S) : ∃ Q1 U1 S1 : St, df_X1_findAddresses n (Q, U) = some (Q1, U1) ∧ df_X13_layout n S = some S1 ∧ LD n L c Bz sn SW0 cs ns C A NM nl NR LB0 X nL nS BY Ds Qs Zs Fs N0 sg lv Q1 U1 S1 ∧ (∀ j : Nat, ¬ j = 7 → ¬ j = 8 → ¬ j = 9 → sI Q1 j = sI Q j) ∧ sR Q1 1 = sR Q 1 ∧ sO U1 = sO U ∧ sR U1 7 = sR U 7 := by
  obtain ⟨hZ, hl2⟩ := RD_Z hR (by omega) hlv
  obtain ⟨a1, a2, a3, a4, a5, a6, a7, a8, a9, a10, a11, a12, a13, a14, a15, a16, a17, a18, a19⟩ := id hR
  obtain ⟨t1, t2, t3, t4, t5, t6, t7, t8, t9, t10⟩ := a1
  obtain ⟨⟨B, ct, gr, PA, OU, ap, hS, hPA, b0, b2, bn, b3, b6, b7, bc, bl⟩, q0, q1, q2, hU, u6⟩ := hJ
  obtain ⟨sg1, sg2⟩ := hsg
  have hmu := mu_l Ds nS
  have hlm := lam_le X nL
  have sgm : ∀ i : Nat, i ≤ sn → sg i ≤ nS ∧ mu Ds (sg i) = i := fun i hi => by
    by_cases z : i < sn
    · obtain ⟨w1, w2, w3⟩ := sg1 i (by omega)
      exact ⟨by omega, w2⟩
    · have : i = mu Ds nS := by omega
      rw [this, sg2]
      exact ⟨Nat.le_refl _, rfl⟩
  obtain ⟨ek, hek⟩ := ek_ex X nL
  rw [← t4] at hek
  have ekm : ∀ j j' : Nat, j < j' → j' < nl → ek j < ek j' := fun j j' h1 h2 => Nat.not_le.mp fun w => by
    obtain ⟨x1, x2, x3⟩ := hek j (by omega)
    obtain ⟨y1, y2, y3⟩ := hek j' h2
    have := lam_m X (ek j - ek j') (ek j')
    rw [show ek j' + (ek j - ek j') = ek j by omega] at this
    omega
  have eke : ∀ k : Nat, k < nL → ¬ X k / 131072 = 2 → lam X k < nl ∧ ek (lam X k) = k := fun k hk h2 => by
    have l1 := lam_l hk h2
    rw [← t4] at l1
    refine ⟨l1, ?_⟩
    obtain ⟨y1, y2, y3⟩ := hek (lam X k) l1
    rcases Nat.lt_trichotomy (ek (lam X k)) k with w | w | w
    · have := lam_i (X := X) y3 w; omega
    · exact w
    · have := lam_i (X := X) h2 w; omega
  have hstr : ∀ s : Nat, s < nS → STr n L c X nL (sR Bz 7) SW0 LW C A ns bs ws cs lu (mu Ds s) (PAz s) (BY s) (Ds s) (Qs s) (Es s) (Zs s) (Ls s) (Fs s) (N0 s) (NP s) := fun s hs => (a15 s hs).1
  have layb := lay_l (Ds := Ds) (Zs := Zs) (BY := BY) (lv := lv) (Fs := Fs) nS hZ
  have hF : ∀ i : Nat, i < sn → lay Ds Zs BY lv (sg (i + 1)) = lay Ds Zs BY lv (sg i + 1) := fun i hi => by
    obtain ⟨w1, w2, w3⟩ := sg1 i (by omega)
    refine lay_e (Zs := Zs) hZ (sgm (i + 1) (by omega)).1 (by omega) ?_
    rw [(sgm (i + 1) (by omega)).2, mu_s, if_neg w3, w2]
  have row : ∀ i : Nat, i < sn → SW0 (8 * i + 1) = nI (Zs (sg i)) ∧ SW0 (8 * i + 4) = nI (Ds (sg i)).1 ∧ (Ds (sg i)).1 ≤ 8 ∧ Zs (sg i) < 2 ∧ ((Ds (sg i)).1 = 8 → ∃ k : Nat, k ≤ 10 ∧ SW0 (8 * i + 5) = (1 : Int32) <<< (nI k &&& 31) ∧ BY (sg i) = -1 - nI k) := fun i hi => by
    obtain ⟨w1, w2, w3⟩ := sg1 i (by omega)
    obtain ⟨c1, c2, c3, c4, c5, c6, c6', c7, c8, c9, c10, c11, c12, c13⟩ := hstr (sg i) w1
    rcases c13 with z | ⟨z, le, b, cd, lt, s0, s1, u0, u1, r1, r2, r3, r4, r5, r6, r7, r8, r9, r10⟩
    · exact absurd z.1 w3
    · rw [w2, Nat.mul_comm i 8] at r1 r2 r3 r4 r5 r6 r7
      refine ⟨r2, r4, z, c2, fun h8 => ?_⟩
      rcases r8 with h | h | h | h | h | h | h | h | h
      iterate 8 (exact absurd h.1 (by omega))
      obtain ⟨k1, k2, k3, k, k4, k5, k6, k7⟩ := h
      exact ⟨k, k4, by rw [r5, k6], k7⟩
  have hfa := fa_C (n := n) (Q := Q) (U := U) (sn := sn) (nl := nl) hn q0 hU.2.1 (by omega) (by omega) (fun j => sc (ek j)) (fun j => if X (ek j) / 131072 = 1 ∨ X (ek j) / 131072 = 4 then 1 else 0) (fun j => by show (if _ then 1 else 0) < 2; split <;> omega) (fun j j' h1 h2 => a17 _ _ (ekm j j' h1 h2) (hek j' h2).1) (fun j hj => a18 _ (hek j hj).1) (fun j hj => by
    obtain ⟨y1, y2, y3⟩ := hek j hj
    obtain ⟨l1, l2, l3⟩ := t6 (ek j) y1 y3
    rw [y2] at l1 l2
    refine ⟨?_, ?_⟩
    · rw [show 5 * j = 5 * j + 0 by omega, u6 j 0 hj (by omega) (by omega), show 5 * j + 0 = 5 * j by omega]; exact l1
    · rw [u6 j 1 hj (by omega) (by omega)]; exact l2) (fun i => lay Ds Zs BY lv (sg i)) (by
    have : lay Ds Zs BY lv (sg 0) = lay Ds Zs BY lv 0 := lay_e (Zs := Zs) hZ (sgm 0 (by omega)).1 (by omega) (sgm 0 (by omega)).2
    exact this) (by
    show (lay Ds Zs BY lv (sg sn)).1 ≤ 2 ^ 30
    rw [a13, sg2]; omega) (fun i => Zs (sg i)) (fun i => (Ds (sg i)).1) (fun i => szN (Ds (sg i)) (BY (sg i)) (lv (sg i)) (ofs Ds Zs BY lv (sg i))) (fun i => ofs Ds Zs BY lv (sg i)) (fun i hi => by
    obtain ⟨w1, w2, w3⟩ := sg1 i (by omega)
    obtain ⟨r1, r2, r3, r4, r5⟩ := row i hi
    obtain ⟨z1, z2, z3, z4, z5⟩ := sz_1 (hZ (sg i) w1) (ofs Ds Zs BY lv (sg i))
    refine ⟨r4, rfl, ?_, by rw [q1 i 1 hi (by omega) (by omega) (by omega)]; exact r1, by rw [q1 i 4 hi (by omega) (by omega) (by omega)]; exact r2, by omega, fun h8 => ?_, fun h8 => ?_⟩
    · show lay Ds Zs BY lv (sg (i + 1)) = _
      rw [hF i hi]
      show (if Zs (sg i) = 1 then _ else _) = (if Zs (sg i) = 1 then _ else _)
      by_cases y : Zs (sg i) = 1
      · rw [if_pos y, if_pos y]
        have : ofs Ds Zs BY lv (sg i) = (lay Ds Zs BY lv (sg i)).2 := if_pos y
        rw [this]
      · rw [if_neg y, if_neg y]
        have : ofs Ds Zs BY lv (sg i) = (lay Ds Zs BY lv (sg i)).1 := if_neg y
        rw [this]
    · obtain ⟨k, k1, k2, k3⟩ := r5 h8
      have am := al_m ⟨k, by omega⟩
      rw [z3 h8, q1 i 5 hi (by omega) (by omega) (by omega), k2, k3]
      rw [show ((1 : Int32) <<< ((-1 - (-1 - nI k)) &&& 31)) - 1 = nI (2 ^ k - 1) from am.1, show (1 : Int32) <<< (nI k &&& 31) - 1 = nI (2 ^ k - 1) from am.2.1]
    · rw [q2 i hi h8]
      exact congrArg nI (szN_o h8)) (fun j => if X (ek j) / 131072 = 1 ∨ X (ek j) / 131072 = 4 then (lay Ds Zs BY lv (sg (sc (ek j)))).2 else (lay Ds Zs BY lv (sg (sc (ek j)))).1) (fun j hj => by
    show (if X (ek j) / 131072 = 1 ∨ X (ek j) / 131072 = 4 then _ else _) = if (if X (ek j) / 131072 = 1 ∨ X (ek j) / 131072 = 4 then 1 else 0) = 0 then _ else _
    by_cases y : X (ek j) / 131072 = 1 ∨ X (ek j) / 131072 = 4
    · rw [if_pos y, if_pos y, if_neg (show ¬ (1 : Nat) = 0 by decide)]
    · rw [if_neg y, if_neg y, if_pos (show (0 : Nat) = 0 from rfl)])
  have esn : sg sn = nS := by rw [a13, sg2]
  have hly := ly_R (n := n) (S := S) (nS := nS) (nL := nL) (X := X) (Ds := Ds) (Zs := Zs) (Qs := Qs) (Fs := Fs) (N0 := N0) (AA := AAl Zs Fs lv) (BY := BY) (lv := lv) hn ⟨(SR_2 hS).trans bn, (SR_3 hS).trans b3, by omega, by omega, fun k hk => ⟨by rw [SR_r6 hS]; exact b6 k hk, by have := (t7 k hk).2.1; omega, by have := (t7 k hk).1; omega⟩, a16, fun s hs => by
    obtain ⟨c1, c2, c3, c4, c5, c6, c6', c7, c8, c9, c10, c11, c12, c13⟩ := hstr s hs
    obtain ⟨g1, g2, g3, g4⟩ := AAl_1 (Zs := Zs) (Fs := Fs) (lv := lv) c2 c3 (hl2 s hs)
    exact ⟨by rw [SR_r3 hS]; exact hPA s hs, g1, by have := (a15 s hs).2.1; omega, g2, g3, g4, by rw [SR_r5 hS], hZ s hs, c8, c9, c10⟩⟩
  have hyL := SR_yL hS (lay Ds Zs BY lv nS).1 (lay Ds Zs BY lv nS).2 (fun i => if i < nS then nI (ofs Ds Zs BY lv i) else sR S 4 i) (fun k => if k < nL ∧ ¬ X k / 131072 = 2 then nI (labV X (lay Ds Zs BY lv) N0 nS k) else sR S 7 k)
  simp only [esn] at hfa
  refine ⟨_, _, _, hfa, hly, ⟨⟨yL B (lay Ds Zs BY lv nS).1 (lay Ds Zs BY lv nS).2 (fun i => if i < nS then nI (ofs Ds Zs BY lv i) else sR S 4 i) (fun k => if k < nL ∧ ¬ X k / 131072 = 2 then nI (labV X (lay Ds Zs BY lv) N0 nS k) else sR S 7 k), ct, gr, PA, OU, ap, (fun i => if i < nS then nI (ofs Ds Zs BY lv i) else sR S 4 i), (fun k => if k < nL ∧ ¬ X k / 131072 = 2 then nI (labV X (lay Ds Zs BY lv) N0 nS k) else sR S 7 k), hyL, hPA, ⟨b0, b2, bn, b3, b6, rfl, rfl, rfl, bc, bl⟩, rfl, fun s hs => if_pos hs, fun k hk h2 => ?_, fun k hk h2 => if_pos ⟨hk, h2⟩, fun k hk h2 => ?_⟩, q0, fun i x hi hx h2 h3 => ?_, fun i hi => ⟨?_, ?_⟩, by rw [pR_e]; exact URD_6 hU, fun j x hj hx h2 => ?_, rfl, rfl, rfl⟩, fun j h7 h8 h9 => ?_, rfl, rfl, rfl⟩
  · show (if k < nL ∧ ¬ X k / 131072 = 2 then _ else sR S 7 k) = _
    rw [if_neg (fun u => u.2 h2), SR_r7 hS]; exact b7 k hk h2
  · obtain ⟨l1, l2⟩ := eke k hk h2
    rw [pR_e]
    have e1 : lay Ds Zs BY lv (sg (sc k)) = lay Ds Zs BY lv (sK N0 nS k) := lay_e (Zs := Zs) hZ (sgm (sc k) (a18 k hk)).1 (sK_1 N0 nS k).1 (by rw [(sgm (sc k) (a18 k hk)).2, sK_m a13 a18 a19 hk])
    unfold vlO
    dsimp only
    rw [if_pos (show k < nL ∧ ¬ X k / 131072 = 2 from ⟨hk, h2⟩)]
    have ed : (5 * lam X k + 2) / 5 = lam X k := by omega
    have em : (5 * lam X k + 2) % 5 = 2 := by omega
    have ev : LBf (sR U 6) (fun j => if X (ek j) / 131072 = 1 ∨ X (ek j) / 131072 = 4 then (lay Ds Zs BY lv (sg (sc (ek j)))).2 else (lay Ds Zs BY lv (sg (sc (ek j)))).1) nl (5 * lam X k + 2) = nI (labV X (lay Ds Zs BY lv) N0 nS k) := by
      unfold LBf
      rw [if_pos ⟨by omega, em⟩, ed]
      dsimp only
      rw [l2, e1]
      rfl
    unfold LBm
    by_cases y : X k / 131072 = 1 ∨ X k / 131072 = 4
    · rw [if_pos ⟨by omega, em, by rw [ed]; dsimp only; rw [l2, if_pos y]⟩, if_pos y, ev, bs_R (by omega), Int32.add_comm]
    · rw [if_neg (fun u => by rw [ed] at u; dsimp only at u; rw [l2, if_neg y] at u; omega), if_neg y, ev]
  · rw [pR_i0]
    unfold SWm
    rw [if_neg (by omega), SWf_r hx h2 h3]
    exact q1 i x hi hx h2 h3
  · rw [pR_i0]
    have ed : (8 * i + 2) / 8 = i := by omega
    have ev : SWf (sR Q 0) (fun i => ofs Ds Zs BY lv (sg i)) (fun i => szN (Ds (sg i)) (BY (sg i)) (lv (sg i)) (ofs Ds Zs BY lv (sg i))) sn (8 * i + 2) = nI (ofs Ds Zs BY lv (sg i)) := by
      unfold SWf
      rw [if_pos ⟨by omega, by omega⟩, ed]
    unfold SWm adN
    by_cases y : Zs (sg i) = 1
    · rw [if_pos ⟨by omega, by omega, by rw [ed]; exact y⟩, if_pos y, ev, nI_add]
    · rw [if_neg (fun u => by rw [ed] at u; exact y u.2.2), if_neg y, ev]
      rfl
  · rw [pR_i0]
    unfold SWm
    rw [if_neg (by omega)]
    unfold SWf
    rw [if_neg (by omega), if_pos ⟨by omega, by omega⟩, show (8 * i + 3) / 8 = i by omega]
  · rw [pR_e]
    unfold LBm
    rw [if_neg (by omega), LBf_r hx h2]
    exact u6 j x hj hx h2
  · show (if j = 9 then _ else (if j = 8 then _ else (if j = 7 then _ else sI Q j))) = sI Q j
    rw [if_neg h9, if_neg h8, if_neg h7]

