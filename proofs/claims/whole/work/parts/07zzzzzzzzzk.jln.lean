/-- the labels of a line, in both -/
def BG (B B' : St) : Prop := (∀ j : Nat, ¬ j = 3 → sI B' j = sI B j) ∧ (∀ j : Nat, ¬ j = 6 → ¬ j = 7 → sR B' j = sR B j) ∧ (∀ j : Nat, sQ B' j = sQ B j) ∧ ∀ j : Nat, sO B' j = sO B j
theorem BG_r {B : St} : BG B B := ⟨fun _ _ => rfl, fun _ _ _ => rfl, fun _ => rfl, fun _ => rfl⟩
theorem BG_t {B B1 B2 : St} (h : BG B B1) (k : BG B1 B2) : BG B B2 := ⟨fun j z => (k.1 j z).trans (h.1 j z), fun j z w => (k.2.1 j z w).trans (h.2.1 j z w), fun j => (k.2.2.1 j).trans (h.2.2.1 j), fun j => (k.2.2.2 j).trans (h.2.2.2 j)⟩
theorem BG_d {B : St} {nL : Nat} {w v : Int32} : BG B (dfB B nL w v) := ⟨fun j z => if_neg z, fun j z w => by
  show (if j = 7 then _ else (if j = 6 then _ else sR B j)) = sR B j
  rw [if_neg w, if_neg z], fun _ => rfl, fun _ => rfl⟩
theorem BG_a {n L e : Nat} {c : Nat → Nat} {BC B B' : St} (h : BG B B') (hT : atx n L e c BC B) : atx n L e c BC B' := by
  obtain ⟨hn, hL, heL, h127, hend, hce, hO, hst, htC, h0, htR, hch⟩ := hT
  exact ⟨hn, hL, heL, h127, hend, hce, hO, hst, htC, (h.1 0 (by decide)).trans h0, fun i hi => by rw [h.2.1 2 (by decide) (by decide)]; exact htR i hi, hch⟩
/-- how many labels have names -/
def nmd (X : Nat → Nat) : Nat → Nat
  | 0 => 0
  | k + 1 => nmd X k + (if X k / 131072 < 2 then 1 else 0)
def cnB (g : Nat → Bool) : Nat → Nat
  | 0 => 0
  | k + 1 => cnB g k + (if g k = true then 1 else 0)
def NLB (c X : Nat → Nat) (nL p : Nat) : Prop := ∃ g : Nat → Bool, (∀ v : Nat, g v = true → ∃ k : Nat, k < nL ∧ X k / 131072 < 3 ∧ c (X k % 131072) = v ∧ aP (c (X k % 131072 + 1)) = false) ∧ 3 * nmd X nL ≤ p + cnB g 127
theorem cnB_l (g : Nat → Bool) : ∀ m : Nat, cnB g m ≤ m := fun m => by
  induction m with
  | zero => exact Nat.le_refl 0
  | succ m ih =>
    show cnB g m + (if g m = true then 1 else 0) ≤ m + 1
    split <;> omega
theorem cnB_o {g : Nat → Bool} {v : Nat} : ∀ m : Nat, m ≤ v → cnB (fun i => decide (i = v) || g i) m = cnB g m := fun m => by
  induction m with
  | zero => intro _; rfl
  | succ m ih =>
    intro h
    show cnB (fun i => decide (i = v) || g i) m + (if (decide (m = v) || g m) = true then 1 else 0) = cnB g m + (if g m = true then 1 else 0)
    rw [ih (by omega), decide_eq_false (show ¬ m = v by omega), Bool.false_or]
theorem cnB_n {g : Nat → Bool} {v : Nat} (hv : g v = false) : ∀ m : Nat, v < m → cnB (fun i => decide (i = v) || g i) m = cnB g m + 1 := fun m => by
  induction m with
  | zero => intro h; exact absurd h (Nat.not_lt_zero _)
  | succ m ih =>
    intro h
    show cnB (fun i => decide (i = v) || g i) m + (if (decide (m = v) || g m) = true then 1 else 0) = cnB g m + (if g m = true then 1 else 0) + 1
    by_cases z : m = v
    · subst z
      rw [cnB_o m (Nat.le_refl _), decide_eq_true rfl, Bool.true_or, if_pos rfl, hv, if_neg (by decide)]
    · rw [ih (by omega), decide_eq_false z, Bool.false_or]
      omega
theorem nmd_e {X Y : Nat → Nat} : ∀ m : Nat, (∀ k : Nat, k < m → Y k = X k) → nmd Y m = nmd X m := fun m => by
  induction m with
  | zero => intro _; rfl
  | succ m ih =>
    intro h
    show nmd Y m + (if Y m / 131072 < 2 then 1 else 0) = nmd X m + (if X m / 131072 < 2 then 1 else 0)
    rw [ih (fun k hk => h k (by omega)), h m (by omega)]
theorem NLB_m {c X : Nat → Nat} {nL p p' : Nat} (h : NLB c X nL p) (hp : p ≤ p') : NLB c X nL p' := by
  obtain ⟨g, a1, a2⟩ := h
  exact ⟨g, a1, by omega⟩
theorem NLB_l {c X : Nat → Nat} {nL p : Nat} (h : NLB c X nL p) : 3 * nmd X nL ≤ p + 127 := by
  obtain ⟨g, a1, a2⟩ := h
  have := cnB_l g 127
  omega
theorem NLB_o {c X : Nat → Nat} {nL p p2 w : Nat} (h : NLB c X nL p) (hw : 2 ≤ w / 131072) (hp : p ≤ p2) : NLB c (nwF X nL w) (nL + 1) p2 := by
  obtain ⟨g, a1, a2⟩ := h
  refine ⟨g, fun v hv => ?_, ?_⟩
  · obtain ⟨k, b1, b2⟩ := a1 v hv
    exact ⟨k, by omega, by rw [nw_2 b1]; exact b2⟩
  · show 3 * (nmd (nwF X nL w) nL + (if nwF X nL w nL / 131072 < 2 then 1 else 0)) ≤ p2 + cnB g 127
    rw [nmd_e (X := X) nL (fun k hk => nw_2 hk), nw_1, if_neg (by omega)]
    omega
theorem aP_127 {x : Nat} (h : aP x = true) : x < 127 := by
  simp only [aP, aD, aL, Bool.or_eq_true, Bool.and_eq_true, decide_eq_true_eq] at h
  omega
theorem NLB_w {c X : Nat → Nat} {nL p p2 w q l : Nat} (h : NLB c X nL p) (hw : w / 131072 < 2) (hwq : w % 131072 = q) (hl : 1 ≤ l) (hq : p ≤ q) (hp : q + l + 1 ≤ p2) (hz : aP (c (q + l)) = false) (ha : aP (c q) = true) (hr : ¬ reS l (c q) (c (q + 1)) (c (q + 2)) (c (q + 3)) < 32) (hk : ¬ nmK c X nL q l < nL) : NLB c (nwF X nL w) (nL + 1) p2 := by
  obtain ⟨g, a1, a2⟩ := h
  have e : nmd (nwF X nL w) (nL + 1) = nmd X nL + 1 := by
    show nmd (nwF X nL w) nL + (if nwF X nL w nL / 131072 < 2 then 1 else 0) = _
    rw [nmd_e (X := X) nL (fun k hk => nw_2 hk), nw_1, if_pos hw]
  by_cases z : l = 1
  · subst z
    have hg : g (c q) = false := by
      cases hh : g (c q) with
      | false => rfl
      | true =>
        obtain ⟨k, b1, b2, b3, b4⟩ := a1 _ hh
        have hP : fiP c X q 1 k = true := by
          unfold fiP
          rw [decide_eq_true b2, Bool.true_and]
          refine alk_t.mpr ⟨fun t ht => ?_, b4⟩
          have : t = 0 := by omega
          subst this
          exact b3
        have hf := fN_le (fiP c X q 1) nL 0
        have : nmK c X nL q 1 = fN (fiP c X q 1) 0 nL := if_neg hr
        rw [this] at hk
        have := hf.2.2.2 k (by omega) (by omega)
        rw [this] at hP
        exact absurd hP (by decide)
    refine ⟨fun i => decide (i = c q) || g i, fun v hv => ?_, ?_⟩
    · by_cases y : v = c q
      · subst y
        exact ⟨nL, by omega, by rw [nw_1]; omega, by rw [nw_1, hwq], by rw [nw_1, hwq]; exact hz⟩
      · have hv' : g v = true := by
          have hv : (decide (v = c q) || g v) = true := hv
          rw [decide_eq_false y, Bool.false_or] at hv
          exact hv
        obtain ⟨k, b1, b2⟩ := a1 v hv'
        exact ⟨k, by omega, by rw [nw_2 b1]; exact b2⟩
    · rw [e, cnB_n hg 127 (aP_127 ha)]
      omega
  · refine ⟨g, fun v hv => ?_, ?_⟩
    · obtain ⟨k, b1, b2⟩ := a1 v hv
      exact ⟨k, by omega, by rw [nw_2 b1]; exact b2⟩
    · rw [e]
      omega
def TBJ (L : Nat) (c X : Nat → Nat) (nL : Nat) (W : Nat → Int32) (ns : Nat) (NM BK : Nat → Int32) (bs ws : Nat → Nat) (nl : Nat) (NR LB : Nat → Int32) (sc : Nat → Nat) (p : Nat) : Prop := HT L c ns NM BK bs ws ∧ NTB c X nL W ns NM bs ws ∧ IDX c X nL ns bs ws ∧ nl = lam X nL ∧ NRI c X nL NR LB ∧ LBI X nL LB sc ∧ (∀ k : Nat, k < nL → X k % 131072 < p ∧ X k < 5 * 131072 ∧ (3 ≤ X k / 131072 → X k % 131072 < L ∧ 48 ≤ c (X k % 131072))) ∧ (∀ i j : Nat, i < j → j < nL → X i % 131072 < X j % 131072) ∧ 2 * nL ≤ p ∧ (2 * ns ≤ p ∧ NLB c X nL p)
theorem TBJ_m {L : Nat} {c X : Nat → Nat} {nL : Nat} {W : Nat → Int32} {ns : Nat} {NM BK : Nat → Int32} {bs ws : Nat → Nat} {nl : Nat} {NR LB : Nat → Int32} {sc : Nat → Nat} {p p' : Nat} (h : TBJ L c X nL W ns NM BK bs ws nl NR LB sc p) (hp : p ≤ p') : TBJ L c X nL W ns NM BK bs ws nl NR LB sc p' := by
  obtain ⟨a1, a2, a3, a4, a5, a6, a7, a8, a9, a10⟩ := h
  exact ⟨a1, a2, a3, a4, a5, a6, fun k hk => ⟨by have := (a7 k hk).1; omega, (a7 k hk).2⟩, a8, by omega, ⟨by omega, NLB_m a10.2 hp⟩⟩
theorem lam_le (X : Nat → Nat) : ∀ k : Nat, lam X k ≤ k := fun k => by
  induction k with
  | zero => exact Nat.le_refl 0
  | succ k ih =>
    show lam X k + (if X k / 131072 = 2 then 0 else 1) ≤ k + 1
    split <;> omega
/-- places of entries, one more -/
theorem plc_n {c X : Nat → Nat} {L nL p w p2 : Nat} (a7 : ∀ k : Nat, k < nL → X k % 131072 < p ∧ X k < 5 * 131072 ∧ (3 ≤ X k / 131072 → X k % 131072 < L ∧ 48 ≤ c (X k % 131072))) (a8 : ∀ i j : Nat, i < j → j < nL → X i % 131072 < X j % 131072) (h1 : p ≤ w % 131072) (h2 : w % 131072 < p2) (h3 : w < 5 * 131072) (h4 : 3 ≤ w / 131072 → w % 131072 < L ∧ 48 ≤ c (w % 131072)) (hp : p ≤ p2) : (∀ k : Nat, k < nL + 1 → nwF X nL w k % 131072 < p2 ∧ nwF X nL w k < 5 * 131072 ∧ (3 ≤ nwF X nL w k / 131072 → nwF X nL w k % 131072 < L ∧ 48 ≤ c (nwF X nL w k % 131072))) ∧ (∀ i j : Nat, i < j → j < nL + 1 → nwF X nL w i % 131072 < nwF X nL w j % 131072) := by
  constructor
  · intro k hk
    by_cases z : k = nL
    · subst z; rw [nw_1]; exact ⟨h2, h3, h4⟩
    · rw [nw_2 (by omega)]
      have := a7 k (by omega)
      exact ⟨by omega, this.2⟩
  · intro i j hij hj
    by_cases z : j = nL
    · subst z
      rw [nw_1, nw_2 hij]
      have := (a7 i hij).1
      omega
    · rw [nw_2 (by omega), nw_2 (by omega)]
      exact a8 i j hij (by omega)
/-- a digit's label, in both tables -/
theorem TBJ_g {L : Nat} {c X : Nat → Nat} {nL : Nat} {B : St} {ns : Nat} {NM BK : Nat → Int32} {bs ws : Nat → Nat} {nl : Nat} {NR LB : Nat → Int32} {sc : Nat → Nat} {p : Nat} (h : TBJ L c X nL (sR B 7) ns NM BK bs ws nl NR LB sc p) {q p2 d se sn : Nat} (hq : p ≤ q) (hp2 : q + 2 ≤ p2) (hqL : q < L) (hL : L ≤ 32768) (hd : d ≤ 9) (hc : c q = 48 + d) (hse : se < 2) (w : Int32) (hnl : nl < 16384) : ∃ NR' LB' : Nat → Int32, TBJ L c (nwF X nL ((se + 3) * 131072 + q)) (nL + 1) (sR (dfB B nL w 0) 7) ns NM BK bs ws (nl + 1) NR' LB' (nwF sc nL sn) p2 ∧ ∀ (n : Nat) (B0 : St) (e cs tp st : Nat) (fx : Bool) (C A S : Nat → Int32) (ap kd fr : Nat) (nm : Int32), df_X9_addLabel n (nI sn) (nI se) (nI d) (uC (xC (bC B0 e nl NR LB) cs tp st ns fx C A S NM BK) ap kd fr nm) = some (nI nl, uC (xC (bC B0 e (nl + 1) NR' LB') cs tp st ns fx C A S NM BK) ap kd fr nm) := by
  obtain ⟨a1, a2, a3, a4, a5, a6, a7, a8, a9, a10⟩ := h
  have ew : ((se + 3) * 131072 + q) / 131072 = se + 3 := by omega
  have eq : ((se + 3) * 131072 + q) % 131072 = q := by omega
  have h3 : 3 ≤ ((se + 3) * 131072 + q) / 131072 := by omega
  obtain ⟨p1, p2'⟩ := plc_n (w := (se + 3) * 131072 + q) (p2 := p2) a7 a8 (by omega) (by omega) (by omega) (fun _ => by rw [eq]; exact ⟨hqL, by omega⟩) (by omega)
  have hW : ∀ k : Nat, k < nL → sR (dfB B nL w 0) 7 k = sR B 7 k := fun k hk => (up_n (by omega) : upd (sR B 7) nL 0 k = sR B 7 k)
  have n1 := NTB_g (Y := nwF X nL ((se + 3) * 131072 + q)) (W' := sR (dfB B nL w 0) 7) a2 (fun k hk => nw_2 hk) (by rw [nw_1]; exact h3) hW
  have n2 := IDX_g (Y := nwF X nL ((se + 3) * 131072 + q)) a3 (fun k hk => nw_2 hk) (by rw [nw_1]; exact h3)
  have n3 : nl + 1 = lam (nwF X nL ((se + 3) * 131072 + q)) (nL + 1) := by
    rw [lam_n1, if_neg (by omega), a4]
  obtain ⟨g1, g2⟩ := NRI_d a5 (w := (se + 3) * 131072 + q) (d0 := d) h3 hd (by rw [eq]; exact hc) (by omega) (nI sn) (nI se)
  rw [← a4] at g1 g2
  have lrw : ∀ i : Nat, i < 5 * lam X nL → ¬ i % 5 = 3 → lrow LB nl (nI sn) (nI se) 0 i = LB i := fun i hi _ => lrow_o (by omega)
  have lr := lrow_i (LB := LB) (nl := nl) (a := nI sn) (b := nI se) (d := 0)
  have e1 : nI se = nI (if ((se + 3) * 131072 + q) / 131072 = 1 ∨ ((se + 3) * 131072 + q) / 131072 = 4 then 1 else 0) := by
    rw [ew]
    have : se = 0 ∨ se = 1 := by omega
    rcases this with z | z <;> subst z <;> rfl
  have e4 : (0 : Int32) = nI (if ((se + 3) * 131072 + q) / 131072 < 2 then 1 else 0) := by
    rw [if_neg (by omega)]; rfl
  have hb := lmF_l (X := X) (fr_l false (dgP c X d) nL)
  obtain ⟨b1, _, _⟩ := a5 d hd
  by_cases z : NR (10 + d) = 0
  · refine ⟨upd (upd NR d (nI (nl + 1))) (10 + d) (nI (nl + 1)), lrow LB nl (nI sn) (nI se) 0, ⟨a1, n1, n2, n3, g1 z, LBI_l a6 (by omega) lrw (by rw [← a4]; exact lr.1) (by rw [← a4, ← e1]; exact lr.2.1) (by rw [← a4, ← e4]; exact lr.2.2.2), p1, p2', by omega, ⟨by omega, NLB_o a10.2 (by omega) (by omega)⟩⟩, fun n B0 e cs tp st fx C A S ap kd fr nm => (adl_d hnl (nI sn) (nI se) d hd).1 z⟩
  · obtain ⟨j, hj⟩ : ∃ j : Nat, lmF X (frF false (dgP c X d) nL) = j + 1 := by
      cases hh : lmF X (frF false (dgP c X d) nL) with
      | zero => rw [b1, hh] at z; exact absurd rfl z
      | succ j => exact ⟨j, rfl⟩
    have hz : NR (10 + d) = nI (j + 1) := by rw [b1, hj]
    obtain ⟨j1, j2⟩ := g2 j (by omega) hz
    refine ⟨upd NR (10 + d) (nI (nl + 1)), upd (lrow LB nl (nI sn) (nI se) 0) (5 * j + 3) (nI (nl + 1)), ⟨a1, n1, n2, n3, j2, LBI_l a6 (by omega) (fun i hi h5 => by rw [up_n (by omega)]; exact lrw i hi h5) (by rw [← a4, up_n (by omega)]; exact lr.1) (by rw [← a4, ← e1, up_n (by omega)]; exact lr.2.1) (by rw [← a4, ← e4, up_n (by omega)]; exact lr.2.2.2), p1, p2', by omega, ⟨by omega, NLB_o a10.2 (by omega) (by omega)⟩⟩, fun n B0 e cs tp st fx C A S ap kd fr nm => (adl_d hnl (nI sn) (nI se) d hd).2 j (by omega) hz⟩
/-- a label with a name, in both tables -/
theorem TBJ_w {L : Nat} {c X : Nat → Nat} {nL : Nat} {B : St} {ns : Nat} {NM BK : Nat → Int32} {bs ws : Nat → Nat} {nl : Nat} {NR LB : Nat → Int32} {sc : Nat → Nat} {p : Nat} (h : TBJ L c X nL (sR B 7) ns NM BK bs ws nl NR LB sc p) {ns' : Nat} {NM' BK' : Nat → Int32} {bs' ws' : Nat → Nat} (hH : HT L c ns' NM' BK' bs' ws') (hN : NTB c X nL (sR B 7) ns' NM' bs' ws') (hI : IDX c X nL ns' bs' ws') {q l p2 se sn id : Nat} (hq : p ≤ q) (hp2 : 1 ≤ l ∧ q + l + 1 ≤ p2) (hqL : q < 32768) (hse : se < 2) (hz : aP (c (q + l)) = false) (hr : ¬ reS l (c q) (c (q + 1)) (c (q + 2)) (c (q + 3)) < 32) (hk : ¬ nmK c X nL q l < nL) (hid : id < ns') (hs : sW c (bs' id) (ws' id) q l) (hns : ns' ≤ ns + 1) (w : Int32) : TBJ L c (nwF X nL (se * 131072 + q)) (nL + 1) (sR (dfB B nL w 0) 7) ns' (upd (upd NM' (5 * id + 2) 2) (5 * id + 3) (nI nl)) BK' bs' ws' (nl + 1) NR (lrow LB nl (nI sn) (nI se) 1) (nwF sc nL sn) p2 := by
  obtain ⟨a1, a2, a3, a4, a5, a6, a7, a8, a9, a10⟩ := h
  have ew : (se * 131072 + q) / 131072 = se := by omega
  have eq : (se * 131072 + q) % 131072 = q := by omega
  obtain ⟨p1, p2'⟩ := plc_n (w := se * 131072 + q) (p2 := p2) a7 a8 (by omega) (by omega) (by omega) (fun z => by omega) (by omega)
  have hW : ∀ k : Nat, k < nL → sR (dfB B nL w 0) 7 k = sR B 7 k := fun k hk => (up_n (by omega) : upd (sR B 7) nL 0 k = sR B 7 k)
  have lr := lrow_i (LB := LB) (nl := nl) (a := nI sn) (b := nI se) (d := 1)
  have haq : aP (c q) = true := by
    have h1 := hH.2.2.2.2 id hid 0 (by have := hs.1; omega)
    have h2 := hs.2 0 (by have := hs.1; omega)
    rw [h2] at h1
    exact h1
  refine ⟨HT_d hH id 2 (nI nl), NTB_d hN hH (q := q) (l := l) (κ := se) (fun k hk => nw_2 hk) nw_1 (by omega) (by omega) hW hz hr hk hid hs 2 (nI nl) (by rw [if_neg (by omega)]) (by rw [if_neg (by omega), a4]), IDX_d hI (q := q) (l := l) (κ := se) (fun k hk => nw_2 hk) nw_1 (by omega) hz hid hs, ?_, NRI_o a5 (by omega) (fun i hi => lrow_o (by omega)), LBI_l a6 (by omega) (fun i hi _ => lrow_o (by omega)) (by rw [← a4]; exact lr.1) ?_ ?_, p1, p2', by omega, ⟨by omega, NLB_w a10.2 (q := q) (l := l) (by omega) eq hp2.1 hq hp2.2 hz haq hr hk⟩⟩
  · rw [lam_n1, if_neg (by omega), a4]
  · rw [← a4, ew, lr.2.1]
    have : se = 0 ∨ se = 1 := by omega
    rcases this with z | z <;> subst z <;> rfl
  · rw [← a4, ew, lr.2.2.2, if_pos hse]; rfl
