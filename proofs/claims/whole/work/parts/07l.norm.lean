theorem nm_ck {α : Type} {k n : Nat} {x : Option α} (h : k < n) (h1 : k < 2 ^ 31) : nd_ck (nI k) n x = x := nb_ck (by rw [nI_toInt h1]; omega) (by rw [nI_toInt h1]; omega)
theorem nm_z0 {α : Type} {x : Option α} : nd_z .boolean (nI 0) x = x := if_pos (by decide)
theorem nm_z1 {α : Type} {x : Option α} : nd_z .boolean (nI 1) x = x := if_pos (by decide)
theorem no_1 : Int32.ofInt 1 = nI 1 := rfl
theorem no_1024 : Int32.ofInt 1024 = nI 1024 := rfl
/-- a loop whose states are known -/
theorem nm_lq {R : Type} (F : Nat → Nat → Option R) (N n : Nat) (hn : N < n) (h : ∀ k m : Nat, k < N → F (m + 1) k = F m (k + 1)) : ∃ m : Nat, F n 0 = F (m + 1) N := by
  have g : ∀ j m : Nat, j ≤ N → F (m + j) 0 = F m j := by
    intro j
    induction j with
    | zero => intro m _; rfl
    | succ j ih =>
      intro m hj
      rw [show m + (j + 1) = (m + 1) + j from by omega, ih (m + 1) (by omega), h j m (by omega)]
  exact ⟨n - N - 1, by rw [← g N (n - N - 1 + 1) (Nat.le_refl N), show n - N - 1 + 1 + N = n from by omega]⟩
/-- a loop whose states are tied -/
theorem nm_lp {S R : Type} (F : Nat → S → Option R) (I : Nat → S → Prop) (N n : Nat) (hn : N < n) (h : ∀ (k m : Nat) (s : S), k < N → I k s → ∃ s' : S, I (k + 1) s' ∧ F (m + 1) s = F m s') (s : S) (h0 : I 0 s) : ∃ (m : Nat) (s' : S), I N s' ∧ F n s = F (m + 1) s' := by
  have g : ∀ j m : Nat, j ≤ N → ∃ s' : S, I j s' ∧ F (m + j) s = F m s' := by
    intro j
    induction j with
    | zero => intro m _; exact ⟨s, h0, rfl⟩
    | succ j ih =>
      intro m hj
      obtain ⟨s1, i1, e1⟩ := ih (m + 1) (by omega)
      obtain ⟨s2, i2, e2⟩ := h j m s1 (by omega) i1
      exact ⟨s2, i2, by rw [show m + (j + 1) = (m + 1) + j from by omega, e1, e2]⟩
  obtain ⟨s', i', e'⟩ := g N (n - N - 1 + 1) (Nat.le_refl N)
  exact ⟨n - N - 1, s', i', by rw [← e', show n - N - 1 + 1 + N = n from by omega]⟩
/-- how many below n -/
def cN (P : Nat → Bool) : Nat → Nat
  | 0 => 0
  | k + 1 => cN P k + (P k).toNat
theorem cN_s (P : Nat → Bool) (k : Nat) : cN P (k + 1) = cN P k + (P k).toNat := rfl
theorem cN_c {P Q : Nat → Bool} : ∀ {N : Nat}, (∀ i : Nat, i < N → P i = Q i) → cN P N = cN Q N
  | 0, _ => rfl
  | k + 1, h => by rw [cN_s, cN_s, cN_c (fun i hi => h i (by omega)), h k (by omega)]
theorem cN_le (P : Nat → Bool) : ∀ N : Nat, cN P N ≤ N
  | 0 => Nat.le_refl 0
  | k + 1 => by
    have := cN_le P k
    have := Bool.toNat_le (P k)
    rw [cN_s]
    omega
theorem cN_0 {P : Nat → Bool} : ∀ {N : Nat}, (∀ i : Nat, i < N → P i = false) → cN P N = 0
  | 0, _ => rfl
  | k + 1, h => by rw [cN_s, cN_0 (fun i hi => h i (by omega)), h k (by omega)]; rfl
theorem cN_p {P : Nat → Bool} {i : Nat} (hi : P i = true) : ∀ {N : Nat}, i < N → 0 < cN P N
  | 0, h => absurd h (by omega)
  | k + 1, h => by
    rw [cN_s]
    by_cases c : i = k
    · rw [← c, hi]; show 0 < _ + 1; omega
    · have := cN_p hi (N := k) (by omega)
      omega
theorem cN_ex {P : Nat → Bool} : ∀ {N : Nat}, 0 < cN P N → ∃ i : Nat, i < N ∧ P i = true
  | 0, h => absurd h (by show ¬ 0 < 0; omega)
  | k + 1, h => by
    cases c : P k with
    | true => exact ⟨k, by omega, c⟩
    | false =>
      rw [cN_s, c] at h
      obtain ⟨i, a, b⟩ := cN_ex (N := k) (P := P) (by have h : 0 < cN P k + 0 := h; omega)
      exact ⟨i, by omega, b⟩
theorem cN_fr {P : Nat → Bool} : ∀ {N : Nat}, cN P N < N → ∃ i : Nat, i < N ∧ P i = false
  | 0, h => absurd h (by omega)
  | k + 1, h => by
    cases c : P k with
    | false => exact ⟨k, by omega, c⟩
    | true =>
      rw [cN_s, c] at h
      have h : cN P k + 1 < k + 1 := h
      obtain ⟨i, a, b⟩ := cN_fr (N := k) (P := P) (by omega)
      exact ⟨i, by omega, b⟩
/-- one place changed -/
theorem cN_u {P Q : Nat → Bool} {j : Nat} (h : ∀ i : Nat, i ≠ j → P i = Q i) : ∀ {N : Nat}, j < N → cN Q N + (P j).toNat = cN P N + (Q j).toNat
  | 0, hj => absurd hj (by omega)
  | k + 1, hj => by
    rw [cN_s, cN_s]
    by_cases c : j = k
    · rw [← c, cN_c (P := Q) (Q := P) (fun i hi => (h i (by omega)).symm)]
      omega
    · have := cN_u h (N := k) (by omega)
      rw [h k (by omega)]
      omega
/-- the first from k on, of m -/
def fN (P : Nat → Bool) : Nat → Nat → Nat
  | k, 0 => k
  | k, m + 1 => if P k = true then k else fN P (k + 1) m
theorem fN_s (P : Nat → Bool) (k m : Nat) : fN P k (m + 1) = if P k = true then k else fN P (k + 1) m := rfl
theorem fN_c {P Q : Nat → Bool} : ∀ (m k : Nat), (∀ i : Nat, k ≤ i → i < k + m → P i = Q i) → fN P k m = fN Q k m
  | 0, _, _ => rfl
  | m + 1, k, h => by rw [fN_s, fN_s, h k (by omega) (by omega), fN_c m (k + 1) (fun i a b => h i (by omega) (by omega))]
theorem fN_le (P : Nat → Bool) : ∀ (m k : Nat), k ≤ fN P k m ∧ fN P k m ≤ k + m ∧ (fN P k m < k + m → P (fN P k m) = true) ∧ ∀ i : Nat, k ≤ i → i < fN P k m → P i = false
  | 0, k => ⟨Nat.le_refl k, Nat.le_refl k, fun h => absurd h (Nat.lt_irrefl k), fun i a b => absurd b (by show ¬ i < k; omega)⟩
  | m + 1, k => by
    rw [fN_s]
    by_cases c : P k = true
    · rw [if_pos c]
      exact ⟨Nat.le_refl k, by omega, fun _ => c, fun i a b => by omega⟩
    · rw [if_neg c]
      obtain ⟨a, b, d, e⟩ := fN_le P m (k + 1)
      refine ⟨by omega, by omega, fun h => d (by omega), fun i x y => ?_⟩
      by_cases z : i = k
      · rw [z]; exact Bool.eq_false_iff.mpr c
      · exact e i (by omega) y
/-- it is the first -/
theorem fN_is {P : Nat → Bool} {k m j : Nat} (h1 : k ≤ j) (h2 : j < k + m) (h3 : P j = true) (h4 : ∀ i : Nat, k ≤ i → i < j → P i = false) : fN P k m = j := by
  obtain ⟨a, b, d, e⟩ := fN_le P m k
  by_cases c : fN P k m < j
  · have := d (by omega)
    rw [h4 _ a c] at this
    exact nomatch this
  · by_cases c2 : j < fN P k m
    · rw [e j h1 c2] at h3
      exact nomatch h3
    · omega
theorem fN_no {P : Nat → Bool} {k m : Nat} (h : ∀ i : Nat, k ≤ i → i < k + m → P i = false) : fN P k m = k + m := by
  obtain ⟨a, b, d, e⟩ := fN_le P m k
  by_cases c : fN P k m < k + m
  · have := d c
    rw [h _ a c] at this
    exact nomatch this
  · omega
/-- a loop that looks for the first -/
theorem nm_ls {R : Type} (F : Nat → Nat → Option R) (P : Nat → Bool) (a N n : Nat) (hn : N < n) (h : ∀ k m : Nat, a ≤ k → k < a + N → P k = false → F (m + 1) k = F m (k + 1)) : ∃ m : Nat, F n a = F (m + 1) (fN P a N) := by
  obtain ⟨x1, x2, x3, x4⟩ := fN_le P N a
  have g : ∀ j m : Nat, a + j ≤ fN P a N → F (m + j) a = F m (a + j) := by
    intro j
    induction j with
    | zero => intro m _; rfl
    | succ j ih =>
      intro m hj
      rw [show m + (j + 1) = (m + 1) + j from by omega, ih (m + 1) (by omega), h (a + j) m (by omega) (by omega) (x4 _ (by omega) (by omega))]
      rfl
  refine ⟨n - (fN P a N - a) - 1, ?_⟩
  have := g (fN P a N - a) (n - (fN P a N - a) - 1 + 1) (by omega)
  rw [show n - (fN P a N - a) - 1 + 1 + (fN P a N - a) = n from by omega, show a + (fN P a N - a) = fN P a N from by omega] at this
  exact this
theorem nm_IL (σ : St) (k j : Nat) (v : Int64) : sI (pL σ k v) j = sI σ j := rfl
theorem nm_IQ (σ : St) (k j : Nat) (v : Nat → Int64) : sI (pQ σ k v) j = sI σ j := rfl
theorem nm_RL (σ : St) (k j : Nat) (v : Int64) : sR (pL σ k v) j = sR σ j := rfl
theorem nm_RQ (σ : St) (k j : Nat) (v : Nat → Int64) : sR (pQ σ k v) j = sR σ j := rfl
theorem nm_LI (σ : St) (k j : Nat) (v : Int32) : sL (pI σ k v) j = sL σ j := rfl
theorem nm_LR (σ : St) (k j : Nat) (v : Nat → Int32) : sL (pR σ k v) j = sL σ j := rfl
theorem nm_LL (σ : St) (k j : Nat) (v : Int64) : sL (pL σ k v) j = if j = k then v else sL σ j := rfl
theorem nm_LQ (σ : St) (k j : Nat) (v : Nat → Int64) : sL (pQ σ k v) j = sL σ j := rfl
theorem nm_QI (σ : St) (k j : Nat) (v : Int32) : sQ (pI σ k v) j = sQ σ j := rfl
theorem nm_QR (σ : St) (k j : Nat) (v : Nat → Int32) : sQ (pR σ k v) j = sQ σ j := rfl
theorem nm_QL (σ : St) (k j : Nat) (v : Int64) : sQ (pL σ k v) j = sQ σ j := rfl
theorem nm_QQ (σ : St) (k j : Nat) (v : Nat → Int64) : sQ (pQ σ k v) j = if j = k then v else sQ σ j := rfl
theorem nm_rr (σ : St) (k : Nat) (f g : Nat → Int32) : pR (pR σ k f) k g = pR σ k g := by
  unfold pR
  congr 3
  funext j
  dsimp only
  by_cases c : j = k
  · rw [if_pos c, if_pos c]
  · rw [if_neg c, if_neg c, if_neg c]
theorem nm_ii (σ : St) (k : Nat) (f g : Int32) : pI (pI σ k f) k g = pI σ k g := by
  unfold pI
  congr 1
  funext j
  dsimp only
  by_cases c : j = k
  · rw [if_pos c, if_pos c]
  · rw [if_neg c, if_neg c, if_neg c]
theorem nm_r0 (σ : St) (k : Nat) : pR σ k (sR σ k) = σ := by
  unfold pR sR
  obtain ⟨a, b, c, d⟩ := σ
  dsimp only
  congr 3
  funext j
  by_cases z : j = k
  · rw [if_pos z, z]
  · rw [if_neg z]
theorem nm_i0 (σ : St) (k : Nat) : pI σ k (sI σ k) = σ := by
  unfold pI sI
  obtain ⟨a, b⟩ := σ
  dsimp only
  congr 1
  funext j
  by_cases z : j = k
  · rw [if_pos z, z]
  · rw [if_neg z]
theorem nm_nle0 {k : Nat} (h : k < 2 ^ 31) : nI k ≤ nI 0 ↔ k = 0 := by rw [nI_leI h (by omega)]; omega
theorem nm_eqm {k : Nat} (h : k < 2 ^ 31) : nI k = -nI 1 ↔ False := ⟨fun z => absurd (congrArg Int32.toInt z) (by rw [nI_toInt h, show (-nI 1 : Int32).toInt = -1 from by decide]; omega), False.elim⟩
theorem nm_ltm : (-nI 1 : Int32) < nI 0 ↔ True := by decide
theorem nm_m1 {k : Nat} (h : k < 2 ^ 32) : nI k &&& nI 1 = nI (k % 2) := pk_andN h 1 (by decide)
theorem nm_m3 {k : Nat} (h : k < 2 ^ 32) : nI k &&& nI 3 = nI (k % 4) := pk_andN h 2 (by decide)
theorem nm_m7 {k : Nat} (h : k < 2 ^ 32) : nI k &&& nI 7 = nI (k % 8) := pk_andN h 3 (by decide)
theorem nm_m15 {k : Nat} (h : k < 2 ^ 32) : nI k &&& nI 15 = nI (k % 16) := pk_andN h 4 (by decide)
theorem nm_m31 {k : Nat} (h : k < 2 ^ 32) : nI k &&& nI 31 = nI (k % 32) := pk_andN h 5 (by decide)
theorem nm_m63 {k : Nat} (h : k < 2 ^ 32) : nI k &&& nI 63 = nI (k % 64) := pk_andN h 6 (by decide)
theorem nm_m255 {k : Nat} (h : k < 2 ^ 32) : nI k &&& nI 255 = nI (k % 256) := pk_andN h 8 (by decide)
theorem nm_m511 {k : Nat} (h : k < 2 ^ 32) : nI k &&& nI 511 = nI (k % 512) := pk_andN h 9 (by decide)
theorem nm_m1023 {k : Nat} (h : k < 2 ^ 32) : nI k &&& nI 1023 = nI (k % 1024) := pk_andN h 10 (by decide)
theorem nm_m2047 {k : Nat} (h : k < 2 ^ 32) : nI k &&& nI 2047 = nI (k % 2048) := pk_andN h 11 (by decide)
theorem nm_m65535 {k : Nat} (h : k < 2 ^ 32) : nI k &&& nI 65535 = nI (k % 65536) := pk_andN h 16 (by decide)
theorem nm_sh : ∀ s : Nat, s < 32 → ((nI s).toBitVec.smod 32).toNat = s := by decide
theorem nm_su : ∀ s : Nat, s < 32 → (((nI s).toUInt32 &&& Int32.toUInt32 (nI 31)).toBitVec % 32).toNat = s := by decide
theorem nm_shl {a s : Nat} (hs : s < 32) (h : a * 2 ^ s < 2 ^ 32) : nI a <<< nI s = nI (a * 2 ^ s) := pk_shlN (nI s) s (nm_sh s hs) h
theorem nm_shr {a s : Nat} (h : a < 2 ^ 31) (hs : s < 32) : nI a >>> nI s = nI (a / 2 ^ s) := pk_shrN h (nI s) s (nm_sh s hs)
theorem nm_ush {a s : Nat} (h : a < 2 ^ 32) (hs : s < 32) : ((nI a).toUInt32 >>> ((nI s).toUInt32 &&& Int32.toUInt32 (nI 31))).toInt32 = nI (a / 2 ^ s) := pk_ushrN h (nI s) s (nm_su s hs)
theorem nm_orG (s : Nat) {a b : Nat} (hb : b < 2 ^ s) (h : a * 2 ^ s + b < 2 ^ 32) : nI (a * 2 ^ s) ||| nI b = nI (a * 2 ^ s + b) := by
  apply Int32.toBitVec_inj.mp
  apply BitVec.eq_of_toNat_eq
  rw [Int32.toBitVec_or, BitVec.toNat_or, pk_tn (by omega), pk_tn (by omega), pk_tn (by omega)]
  rw [show a * 2 ^ s = a <<< s from by rw [Nat.shiftLeft_eq], ← Nat.shiftLeft_add_eq_or_of_lt hb]
theorem nm_or8 {a b : Nat} (hb : b < 8) (h : a * 8 + b < 2 ^ 32) : nI (a * 8) ||| nI b = nI (a * 8 + b) := nm_orG 3 hb h
theorem nm_or64 {a b : Nat} (hb : b < 64) (h : a * 64 + b < 2 ^ 32) : nI (a * 64) ||| nI b = nI (a * 64 + b) := nm_orG 6 hb h
theorem nm_or256 {a b : Nat} (hb : b < 256) (h : a * 256 + b < 2 ^ 32) : nI (a * 256) ||| nI b = nI (a * 256 + b) := nm_orG 8 hb h
/-- division of a number that is not below 0 -/
theorem nm_div {a d : Nat} (ha : a < 2 ^ 31) (h0 : 0 < d) (hd : d < 2 ^ 31) : nI a / nI d = nI (a / d) := pk_div ha h0 hd
theorem nm_eqz (a : Nat) (h : a < 2 ^ 31) (h0 : 0 < a) : nI a = nI 0 ↔ False := ⟨fun z => nI_ne0 h0 h z, False.elim⟩
theorem nm_bo : vp_nar .boolean (nI 0) = nI 0 := by decide
theorem nm_bi : vp_nar .boolean (nI 1) = nI 1 := by decide
theorem nm_us {f : Nat → Int32} {i : Nat} {v : Int32} : upd f i v i = v := if_pos rfl
theorem nm_un {f : Nat → Int32} {i j : Nat} {v : Int32} (h : j ≠ i) : upd f i v j = f j := if_neg h
theorem nm_dt {p : Prop} {i : Decidable p} (h : p) : (@decide p i).toNat = 1 := by rw [decide_eq_true h]; rfl
theorem nm_df {p : Prop} {i : Decidable p} (h : ¬ p) : (@decide p i).toNat = 0 := by rw [decide_eq_false h]; rfl
theorem nm_rc {σ : St} {a b : Nat} {f g : Nat → Int32} (h : b < a) : pR (pR σ a f) b g = pR (pR σ b g) a f := by
  unfold pR
  congr 3
  funext j
  dsimp only
  by_cases c : j = a
  · rw [if_neg (by omega), if_pos c, if_pos c]
  · rw [if_neg c, if_neg c]
theorem nm_ic {σ : St} {a b : Nat} {f g : Int32} (h : b < a) : pI (pI σ a f) b g = pI (pI σ b g) a f := by
  unfold pI
  congr 1
  funext j
  dsimp only
  by_cases c : j = a
  · rw [if_neg (by omega), if_pos c, if_pos c]
  · rw [if_neg c, if_neg c]
theorem nm_ri (σ : St) (a b : Nat) (v : Int32) (g : Nat → Int32) : pR (pI σ a v) b g = pI (pR σ b g) a v := rfl
theorem nm_rl (σ : St) (a b : Nat) (v : Int64) (g : Nat → Int32) : pR (pL σ a v) b g = pL (pR σ b g) a v := rfl
theorem nm_rq (σ : St) (a b : Nat) (v : Nat → Int64) (g : Nat → Int32) : pR (pQ σ a v) b g = pQ (pR σ b g) a v := rfl
theorem nm_ql (σ : St) (a b : Nat) (v : Int64) (g : Nat → Int64) : pQ (pL σ a v) b g = pL (pQ σ b g) a v := rfl
theorem nm_qi (σ : St) (a b : Nat) (v : Int32) (g : Nat → Int64) : pQ (pI σ a v) b g = pI (pQ σ b g) a v := rfl
theorem nm_li (σ : St) (a b : Nat) (v : Int32) (g : Int64) : pL (pI σ a v) b g = pI (pL σ b g) a v := rfl
theorem nm_uu (f : Nat → Int32) (i : Nat) (a b : Int32) : upd (upd f i a) i b = upd f i b := by
  funext j
  by_cases c : j = i
  · rw [c, nm_us, nm_us]
  · rw [nm_un c, nm_un c, nm_un c]
theorem nm_u0 (f : Nat → Int32) (i : Nat) : upd f i (f i) = f := by
  funext j
  by_cases c : j = i
  · rw [c, nm_us]
  · rw [nm_un c]
/-- two loops side by side -/
theorem nm_l2 {S T R Q : Type} (F : Nat → Nat → S → Option R) (G : Nat → Nat → T → Option Q) (I : Nat → S → T → Prop) (N n : Nat) (hn : N < n) (h : ∀ (k m : Nat) (s : S) (t : T), k < N → I k s t → ∃ (s' : S) (t' : T), I (k + 1) s' t' ∧ F (m + 1) k s = F m (k + 1) s' ∧ G (m + 1) k t = G m (k + 1) t') (s : S) (t : T) (h0 : I 0 s t) : ∃ (m : Nat) (s' : S) (t' : T), I N s' t' ∧ F n 0 s = F (m + 1) N s' ∧ G n 0 t = G (m + 1) N t' := by
  have g : ∀ j m : Nat, j ≤ N → ∃ (s' : S) (t' : T), I j s' t' ∧ F (m + j) 0 s = F m j s' ∧ G (m + j) 0 t = G m j t' := by
    intro j
    induction j with
    | zero => intro m _; exact ⟨s, t, h0, rfl, rfl⟩
    | succ j ih =>
      intro m hj
      obtain ⟨s1, t1, i1, e1, f1⟩ := ih (m + 1) (by omega)
      obtain ⟨s2, t2, i2, e2, f2⟩ := h j m s1 t1 (by omega) i1
      exact ⟨s2, t2, i2, by rw [show m + (j + 1) = (m + 1) + j from by omega, e1, e2], by rw [show m + (j + 1) = (m + 1) + j from by omega, f1, f2]⟩
  obtain ⟨s', t', i', e', f'⟩ := g N (n - N - 1 + 1) (Nat.le_refl N)
  exact ⟨n - N - 1, s', t', i', by rw [← e', show n - N - 1 + 1 + N = n from by omega], by rw [← f', show n - N - 1 + 1 + N = n from by omega]⟩
/-- a loop of one side -/
theorem nm_l1 {S R : Type} (F : Nat → Nat → S → Option R) (I : Nat → S → Prop) (N n : Nat) (hn : N < n) (h : ∀ (k m : Nat) (s : S), k < N → I k s → ∃ s' : S, I (k + 1) s' ∧ F (m + 1) k s = F m (k + 1) s') (s : S) (h0 : I 0 s) : ∃ (m : Nat) (s' : S), I N s' ∧ F n 0 s = F (m + 1) N s' := by
  obtain ⟨m, s', t', i, e, f⟩ := nm_l2 F (fun _ _ _ => (none : Option Unit)) (fun k s (_ : Unit) => I k s) N n hn (fun k m s t hk hi => by
    obtain ⟨s', i', e'⟩ := h k m s hk hi
    exact ⟨s', t, i', e', rfl⟩) s () h0
  exact ⟨m, s', i, e⟩
/-- a loop that may end early -/
theorem nm_le {S R : Type} (F : Nat → Nat → S → Option R) (I : Nat → S → Prop) (D : Option R → Prop) (N n : Nat) (hn : N < n) (h : ∀ (k m : Nat) (s : S), k < N → I k s → D (F (m + 1) k s) ∨ ∃ s' : S, I (k + 1) s' ∧ F (m + 1) k s = F m (k + 1) s') (h1 : ∀ (m : Nat) (s : S), I N s → D (F (m + 1) N s)) (s : S) (h0 : I 0 s) : D (F n 0 s) := by
  have g : ∀ j m k : Nat, ∀ s : S, k + j = N → I k s → D (F (m + 1 + j) k s) := by
    intro j
    induction j with
    | zero => intro m k s hk hi; have hk : k = N := hk; subst hk; exact h1 m s hi
    | succ j ih =>
      intro m k s hk hi
      rcases h k (m + 1 + j) s (by omega) hi with d | ⟨s', i', e'⟩
      · exact d
      · rw [show m + 1 + (j + 1) = m + 1 + j + 1 from by omega, e']
        exact ih m (k + 1) s' (by omega) i'
  have := g N (n - N - 1) 0 s (by omega) h0
  rw [show n - N - 1 + 1 + N = n from by omega] at this
  exact this
theorem nm_cp {α : Type} {a b c n0 n1 : Nat} {x : Option α} (h0 : a + c ≤ n0) (h1 : b + c ≤ n1) (g0 : n0 < 2 ^ 31) (g1 : n1 < 2 ^ 31) : nd_cp (nI a) (nI b) (nI c) n0 n1 x = x := by
  refine if_pos ⟨nI_pos (by omega), nI_pos (by omega), nI_pos (by omega), ?_, ?_⟩
  · rw [nI_clamp (by omega), nI_clamp (by omega)]; exact h0
  · rw [nI_clamp (by omega), nI_clamp (by omega)]; exact h1
theorem nm_ltI1 {α : Type} {x y : α} {k : Nat} (h : k < 2 ^ 31) (g : ¬ k < 1) : (if nI k < nI 1 then x else y) = y := if_neg (by rw [nI_ltI h (by omega)]; exact g)
theorem cN_1 {P : Nat → Bool} {N : Nat} (h : ∀ i : Nat, i < N → P i = true) : cN P N = N := by
  induction N with
  | zero => rfl
  | succ k ih => rw [cN_s, ih (fun i hi => h i (by omega)), h k (by omega)]; rfl
theorem nm_sk (k : Nat) {a s : Nat} (h : a < 2 ^ 32) (hs : s + k ≤ 32) (h31 : s < 32) : (nI a >>> nI s) &&& nI (2 ^ k - 1) = nI (a / 2 ^ s % 2 ^ k) := by
  apply Int32.toBitVec_inj.mp
  apply BitVec.eq_of_getLsbD_eq
  intro i hi
  rw [Int32.toBitVec_and, BitVec.getLsbD_and, Int32.toBitVec_shiftRight, BitVec.sshiftRight_eq', nm_sh s h31, BitVec.getLsbD_sshiftRight]
  show ((!decide (32 ≤ i) && if s + i < 32 then (BitVec.ofNat 32 a).getLsbD (s + i) else (BitVec.ofNat 32 a).msb) && (BitVec.ofNat 32 (2 ^ k - 1)).getLsbD i) = (BitVec.ofNat 32 (a / 2 ^ s % 2 ^ k)).getLsbD i
  rw [BitVec.getLsbD_ofNat, BitVec.getLsbD_ofNat, BitVec.getLsbD_ofNat, decide_eq_true hi, decide_eq_false (show ¬ 32 ≤ i by omega), Bool.true_and, Bool.true_and, Bool.not_false, Bool.true_and, Nat.testBit_two_pow_sub_one, Nat.testBit_mod_two_pow, Nat.testBit_div_two_pow]
  by_cases c : i < k
  · rw [if_pos (show s + i < 32 by omega), decide_eq_true c, decide_eq_true (show s + i < 32 by omega), Bool.true_and, Bool.and_true, Bool.true_and, Nat.add_comm s i]
  · rw [decide_eq_false c, Bool.and_false, Bool.false_and]
theorem nm_sa31 {a s : Nat} (h : a < 2 ^ 32) (hs : s + 5 ≤ 32) : (nI a >>> nI s) &&& nI 31 = nI (a / 2 ^ s % 32) := nm_sk 5 h hs (by omega)
theorem nm_sa7 {a s : Nat} (h : a < 2 ^ 32) (hs : s + 3 ≤ 32) : (nI a >>> nI s) &&& nI 7 = nI (a / 2 ^ s % 8) := nm_sk 3 h hs (by omega)
theorem nm_m127 {k : Nat} (h : k < 2 ^ 32) : nI k &&& nI 127 = nI (k % 128) := pk_andN h 7 (by decide)
theorem nm_m2 {k : Nat} (h : k < 2 ^ 32) : nI k &&& nI 2 = nI (k / 2 % 2 * 2) := by
  apply Int32.toBitVec_inj.mp
  apply BitVec.eq_of_toNat_eq
  rw [Int32.toBitVec_and, BitVec.toNat_and, pk_tn h, pk_tn (by omega), pk_tn (by omega)]
  apply Nat.eq_of_testBit_eq
  intro i
  rw [Nat.testBit_and, show (2 : Nat) = 2 ^ 1 from rfl, Nat.testBit_two_pow, show k / 2 ^ 1 % 2 ^ 1 * 2 ^ 1 = 2 ^ 1 * (k / 2 ^ 1 % 2 ^ 1) from Nat.mul_comm _ _, Nat.testBit_two_pow_mul, Nat.testBit_mod_two_pow, Nat.testBit_div_two_pow]
  by_cases c : 1 = i
  · subst c
    show (k.testBit 1 && true) = (true && (true && k.testBit 1))
    rw [Bool.and_true, Bool.true_and, Bool.true_and]
  · rw [decide_eq_false c, Bool.and_false]
    by_cases d : i ≥ 1
    · rw [decide_eq_true d, decide_eq_false (show ¬ i - 1 < 1 by omega)]; rfl
    · rw [decide_eq_false d]; rfl
theorem nm_nz {α : Type} {x : Option α} {k : Nat} (h : 0 < k) (h2 : k < 2 ^ 31) : nd_nz (decide (nI k = nI 0)) x = x := if_neg (by rw [decide_eq_false (show ¬ nI k = nI 0 from nI_ne0 h h2)]; exact Bool.false_ne_true)
theorem nm_nzk {α : Type} {x : Option α} {k : Nat} {i : Decidable (k = 0)} (h : 0 < k) : nd_nz (@decide (k = 0) i) x = x := if_neg (by rw [decide_eq_false (by omega)]; exact Bool.false_ne_true)
theorem nm_eq32 {a b : Nat} (ha : a < 2 ^ 32) (hb : b < 2 ^ 32) : nI a = nI b ↔ a = b := ⟨fun z => by
  have z := congrArg (fun y => y.toBitVec.toNat) z
  have z : (nI a).toBitVec.toNat = (nI b).toBitVec.toNat := z
  rw [pk_tn ha, pk_tn hb] at z
  exact z, fun z => by rw [z]⟩
theorem nm_nzf {α : Type} {x : Option α} {i : Decidable False} : nd_nz (@decide False i) x = x := if_neg (by rw [decide_eq_false (fun z => z)]; exact Bool.false_ne_true)
theorem nl_0 : (0 : Int32) = nI 0 := rfl
theorem nl_1 : (1 : Int32) = nI 1 := rfl
theorem nl_2 : (2 : Int32) = nI 2 := rfl
theorem nl_3 : (3 : Int32) = nI 3 := rfl
theorem nl_4 : (4 : Int32) = nI 4 := rfl
theorem nl_5 : (5 : Int32) = nI 5 := rfl
theorem nl_6 : (6 : Int32) = nI 6 := rfl
theorem nl_7 : (7 : Int32) = nI 7 := rfl
theorem nl_8 : (8 : Int32) = nI 8 := rfl
theorem nl_9 : (9 : Int32) = nI 9 := rfl
theorem nl_10 : (10 : Int32) = nI 10 := rfl
theorem nl_11 : (11 : Int32) = nI 11 := rfl
theorem nl_12 : (12 : Int32) = nI 12 := rfl
theorem nl_13 : (13 : Int32) = nI 13 := rfl
theorem nl_14 : (14 : Int32) = nI 14 := rfl
theorem nl_15 : (15 : Int32) = nI 15 := rfl
theorem nl_16 : (16 : Int32) = nI 16 := rfl
theorem nl_17 : (17 : Int32) = nI 17 := rfl
theorem nl_18 : (18 : Int32) = nI 18 := rfl
theorem nl_19 : (19 : Int32) = nI 19 := rfl
theorem nl_20 : (20 : Int32) = nI 20 := rfl
theorem nl_21 : (21 : Int32) = nI 21 := rfl
theorem nl_22 : (22 : Int32) = nI 22 := rfl
theorem nl_23 : (23 : Int32) = nI 23 := rfl
theorem nl_24 : (24 : Int32) = nI 24 := rfl
theorem nl_25 : (25 : Int32) = nI 25 := rfl
theorem nl_26 : (26 : Int32) = nI 26 := rfl
theorem nl_27 : (27 : Int32) = nI 27 := rfl
theorem nl_28 : (28 : Int32) = nI 28 := rfl
theorem nl_29 : (29 : Int32) = nI 29 := rfl
theorem nl_30 : (30 : Int32) = nI 30 := rfl
theorem nl_31 : (31 : Int32) = nI 31 := rfl
theorem nl_32 : (32 : Int32) = nI 32 := rfl
theorem nl_33 : (33 : Int32) = nI 33 := rfl
theorem nl_34 : (34 : Int32) = nI 34 := rfl
theorem nl_35 : (35 : Int32) = nI 35 := rfl
theorem nl_36 : (36 : Int32) = nI 36 := rfl
theorem nl_37 : (37 : Int32) = nI 37 := rfl
theorem nl_38 : (38 : Int32) = nI 38 := rfl
theorem nl_39 : (39 : Int32) = nI 39 := rfl
theorem nl_40 : (40 : Int32) = nI 40 := rfl
theorem nl_41 : (41 : Int32) = nI 41 := rfl
theorem nl_42 : (42 : Int32) = nI 42 := rfl
theorem nl_43 : (43 : Int32) = nI 43 := rfl
theorem nl_44 : (44 : Int32) = nI 44 := rfl
theorem nl_45 : (45 : Int32) = nI 45 := rfl
theorem nl_46 : (46 : Int32) = nI 46 := rfl
theorem nl_47 : (47 : Int32) = nI 47 := rfl
theorem nl_48 : (48 : Int32) = nI 48 := rfl
theorem nl_49 : (49 : Int32) = nI 49 := rfl
theorem nl_50 : (50 : Int32) = nI 50 := rfl
theorem nl_51 : (51 : Int32) = nI 51 := rfl
theorem nl_52 : (52 : Int32) = nI 52 := rfl
theorem nl_53 : (53 : Int32) = nI 53 := rfl
theorem nl_54 : (54 : Int32) = nI 54 := rfl
theorem nl_55 : (55 : Int32) = nI 55 := rfl
theorem nl_56 : (56 : Int32) = nI 56 := rfl
theorem nl_57 : (57 : Int32) = nI 57 := rfl
theorem nl_58 : (58 : Int32) = nI 58 := rfl
theorem nl_59 : (59 : Int32) = nI 59 := rfl
theorem nl_60 : (60 : Int32) = nI 60 := rfl
theorem nl_61 : (61 : Int32) = nI 61 := rfl
theorem nl_62 : (62 : Int32) = nI 62 := rfl
theorem nl_63 : (63 : Int32) = nI 63 := rfl
theorem nl_64 : (64 : Int32) = nI 64 := rfl
theorem nl_65 : (65 : Int32) = nI 65 := rfl
theorem nl_70 : (70 : Int32) = nI 70 := rfl
theorem nl_72 : (72 : Int32) = nI 72 := rfl
theorem nl_73 : (73 : Int32) = nI 73 := rfl
theorem nl_74 : (74 : Int32) = nI 74 := rfl
theorem nl_75 : (75 : Int32) = nI 75 := rfl
theorem nl_76 : (76 : Int32) = nI 76 := rfl
theorem nl_77 : (77 : Int32) = nI 77 := rfl
theorem nl_78 : (78 : Int32) = nI 78 := rfl
theorem nl_79 : (79 : Int32) = nI 79 := rfl
theorem nl_80 : (80 : Int32) = nI 80 := rfl
theorem nl_81 : (81 : Int32) = nI 81 := rfl
theorem nl_82 : (82 : Int32) = nI 82 := rfl
theorem nl_83 : (83 : Int32) = nI 83 := rfl
theorem nl_84 : (84 : Int32) = nI 84 := rfl
theorem nl_85 : (85 : Int32) = nI 85 := rfl
theorem nl_86 : (86 : Int32) = nI 86 := rfl
theorem nl_87 : (87 : Int32) = nI 87 := rfl
theorem nl_88 : (88 : Int32) = nI 88 := rfl
theorem nl_89 : (89 : Int32) = nI 89 := rfl
theorem nl_90 : (90 : Int32) = nI 90 := rfl
theorem nl_91 : (91 : Int32) = nI 91 := rfl
theorem nl_92 : (92 : Int32) = nI 92 := rfl
theorem nl_93 : (93 : Int32) = nI 93 := rfl
theorem nl_94 : (94 : Int32) = nI 94 := rfl
theorem nl_95 : (95 : Int32) = nI 95 := rfl
theorem nl_96 : (96 : Int32) = nI 96 := rfl
theorem nl_97 : (97 : Int32) = nI 97 := rfl
theorem nl_98 : (98 : Int32) = nI 98 := rfl
theorem nl_99 : (99 : Int32) = nI 99 := rfl
theorem nl_100 : (100 : Int32) = nI 100 := rfl
theorem nl_101 : (101 : Int32) = nI 101 := rfl
theorem nl_102 : (102 : Int32) = nI 102 := rfl
theorem nl_103 : (103 : Int32) = nI 103 := rfl
theorem nl_104 : (104 : Int32) = nI 104 := rfl
theorem nl_105 : (105 : Int32) = nI 105 := rfl
theorem nl_106 : (106 : Int32) = nI 106 := rfl
theorem nl_107 : (107 : Int32) = nI 107 := rfl
theorem nl_108 : (108 : Int32) = nI 108 := rfl
theorem nl_109 : (109 : Int32) = nI 109 := rfl
theorem nl_110 : (110 : Int32) = nI 110 := rfl
theorem nl_111 : (111 : Int32) = nI 111 := rfl
theorem nl_112 : (112 : Int32) = nI 112 := rfl
theorem nl_113 : (113 : Int32) = nI 113 := rfl
theorem nl_114 : (114 : Int32) = nI 114 := rfl
theorem nl_115 : (115 : Int32) = nI 115 := rfl
theorem nl_116 : (116 : Int32) = nI 116 := rfl
theorem nl_117 : (117 : Int32) = nI 117 := rfl
theorem nl_118 : (118 : Int32) = nI 118 := rfl
theorem nl_119 : (119 : Int32) = nI 119 := rfl
theorem nl_120 : (120 : Int32) = nI 120 := rfl
theorem nl_121 : (121 : Int32) = nI 121 := rfl
theorem nl_122 : (122 : Int32) = nI 122 := rfl
theorem nl_124 : (124 : Int32) = nI 124 := rfl
theorem nl_126 : (126 : Int32) = nI 126 := rfl
theorem nl_127 : (127 : Int32) = nI 127 := rfl
theorem nl_128 : (128 : Int32) = nI 128 := rfl
theorem nl_130 : (130 : Int32) = nI 130 := rfl
theorem nl_160 : (160 : Int32) = nI 160 := rfl
theorem nl_190 : (190 : Int32) = nI 190 := rfl
theorem nl_192 : (192 : Int32) = nI 192 := rfl
theorem nl_240 : (240 : Int32) = nI 240 := rfl
theorem nl_252 : (252 : Int32) = nI 252 := rfl
theorem nl_254 : (254 : Int32) = nI 254 := rfl
theorem nl_255 : (255 : Int32) = nI 255 := rfl
theorem nl_256 : (256 : Int32) = nI 256 := rfl
theorem nl_257 : (257 : Int32) = nI 257 := rfl
theorem nl_384 : (384 : Int32) = nI 384 := rfl
theorem nl_496 : (496 : Int32) = nI 496 := rfl
theorem nl_511 : (511 : Int32) = nI 511 := rfl
theorem nl_512 : (512 : Int32) = nI 512 := rfl
theorem nl_528 : (528 : Int32) = nI 528 := rfl
theorem nl_584 : (584 : Int32) = nI 584 := rfl
theorem nl_768 : (768 : Int32) = nI 768 := rfl
theorem nl_960 : (960 : Int32) = nI 960 := rfl
theorem nl_972 : (972 : Int32) = nI 972 := rfl
theorem nl_1020 : (1020 : Int32) = nI 1020 := rfl
theorem nl_1023 : (1023 : Int32) = nI 1023 := rfl
theorem nl_1024 : (1024 : Int32) = nI 1024 := rfl
theorem nl_1030 : (1030 : Int32) = nI 1030 := rfl
theorem nl_1031 : (1031 : Int32) = nI 1031 := rfl
theorem nl_1043 : (1043 : Int32) = nI 1043 := rfl
theorem nl_1044 : (1044 : Int32) = nI 1044 := rfl
theorem nl_2000 : (2000 : Int32) = nI 2000 := rfl
theorem nl_2016 : (2016 : Int32) = nI 2016 := rfl
theorem nl_2046 : (2046 : Int32) = nI 2046 := rfl
theorem nl_2047 : (2047 : Int32) = nI 2047 := rfl
theorem nl_2048 : (2048 : Int32) = nI 2048 := rfl
theorem nl_2049 : (2049 : Int32) = nI 2049 := rfl
theorem nl_3072 : (3072 : Int32) = nI 3072 := rfl
theorem nl_3073 : (3073 : Int32) = nI 3073 := rfl
theorem nl_3074 : (3074 : Int32) = nI 3074 := rfl
theorem nl_3200 : (3200 : Int32) = nI 3200 := rfl
theorem nl_3201 : (3201 : Int32) = nI 3201 := rfl
theorem nl_3202 : (3202 : Int32) = nI 3202 := rfl
theorem nl_4094 : (4094 : Int32) = nI 4094 := rfl
theorem nl_4096 : (4096 : Int32) = nI 4096 := rfl
theorem nl_4111 : (4111 : Int32) = nI 4111 := rfl
theorem nl_8192 : (8192 : Int32) = nI 8192 := rfl
theorem nl_8193 : (8193 : Int32) = nI 8193 := rfl
theorem nl_8194 : (8194 : Int32) = nI 8194 := rfl
theorem nl_10986 : (10986 : Int32) = nI 10986 := rfl
theorem nl_11000 : (11000 : Int32) = nI 11000 := rfl
theorem nl_16384 : (16384 : Int32) = nI 16384 := rfl
theorem nl_16385 : (16385 : Int32) = nI 16385 := rfl
theorem nl_16500 : (16500 : Int32) = nI 16500 := rfl
theorem nl_24576 : (24576 : Int32) = nI 24576 := rfl
theorem nl_25196 : (25196 : Int32) = nI 25196 := rfl
theorem nl_25203 : (25203 : Int32) = nI 25203 := rfl
theorem nl_25456 : (25456 : Int32) = nI 25456 := rfl
theorem nl_25459 : (25459 : Int32) = nI 25459 := rfl
theorem nl_25714 : (25714 : Int32) = nI 25714 := rfl
theorem nl_26732 : (26732 : Int32) = nI 26732 := rfl
theorem nl_26739 : (26739 : Int32) = nI 26739 := rfl
theorem nl_28272 : (28272 : Int32) = nI 28272 := rfl
theorem nl_28672 : (28672 : Int32) = nI 28672 := rfl
theorem nl_28787 : (28787 : Int32) = nI 28787 := rfl
theorem nl_29292 : (29292 : Int32) = nI 29292 := rfl
theorem nl_29295 : (29295 : Int32) = nI 29295 := rfl
theorem nl_30510 : (30510 : Int32) = nI 30510 := rfl
theorem nl_30572 : (30572 : Int32) = nI 30572 := rfl
theorem nl_30579 : (30579 : Int32) = nI 30579 := rfl
theorem nl_32768 : (32768 : Int32) = nI 32768 := rfl
theorem nl_32772 : (32772 : Int32) = nI 32772 := rfl
theorem nl_32800 : (32800 : Int32) = nI 32800 := rfl
theorem nl_32832 : (32832 : Int32) = nI 32832 := rfl
theorem nl_40961 : (40961 : Int32) = nI 40961 := rfl
theorem nl_49153 : (49153 : Int32) = nI 49153 := rfl
theorem nl_60000 : (60000 : Int32) = nI 60000 := rfl
theorem nl_60416 : (60416 : Int32) = nI 60416 := rfl
theorem nl_65535 : (65535 : Int32) = nI 65535 := rfl
theorem nl_65536 : (65536 : Int32) = nI 65536 := rfl
theorem nl_65552 : (65552 : Int32) = nI 65552 := rfl
theorem nl_81925 : (81925 : Int32) = nI 81925 := rfl
theorem nl_131071 : (131071 : Int32) = nI 131071 := rfl
theorem nl_131072 : (131072 : Int32) = nI 131072 := rfl
theorem nl_262144 : (262144 : Int32) = nI 262144 := rfl
theorem nl_1044480 : (1044480 : Int32) = nI 1044480 := rfl
theorem nl_1048574 : (1048574 : Int32) = nI 1048574 := rfl
theorem nl_1048575 : (1048575 : Int32) = nI 1048575 := rfl
theorem nl_1048576 : (1048576 : Int32) = nI 1048576 := rfl
theorem nl_1048691 : (1048691 : Int32) = nI 1048691 := rfl
theorem nl_4006234 : (4006234 : Int32) = nI 4006234 := rfl
theorem nl_6386291 : (6386291 : Int32) = nI 6386291 := rfl
theorem nl_6452595 : (6452595 : Int32) = nI 6452595 := rfl
theorem nl_6579297 : (6579297 : Int32) = nI 6579297 := rfl
theorem nl_6580592 : (6580592 : Int32) = nI 6580592 := rfl
theorem nl_6581359 : (6581359 : Int32) = nI 6581359 := rfl
theorem nl_6581857 : (6581857 : Int32) = nI 6581857 := rfl
theorem nl_6645602 : (6645602 : Int32) = nI 6645602 := rfl
theorem nl_6647394 : (6647394 : Int32) = nI 6647394 := rfl
theorem nl_6910575 : (6910575 : Int32) = nI 6910575 := rfl
theorem nl_6911340 : (6911340 : Int32) = nI 6911340 := rfl
theorem nl_6958691 : (6958691 : Int32) = nI 6958691 := rfl
theorem nl_7102826 : (7102826 : Int32) = nI 7102826 := rfl
theorem nl_7105651 : (7105651 : Int32) = nI 7105651 := rfl
theorem nl_7107118 : (7107118 : Int32) = nI 7107118 := rfl
theorem nl_7107187 : (7107187 : Int32) = nI 7107187 := rfl
theorem nl_7107949 : (7107949 : Int32) = nI 7107949 := rfl
theorem nl_7169394 : (7169394 : Int32) = nI 7169394 := rfl
theorem nl_7235949 : (7235949 : Int32) = nI 7235949 := rfl
theorem nl_7302497 : (7302497 : Int32) = nI 7302497 := rfl
theorem nl_7430446 : (7430446 : Int32) = nI 7430446 := rfl
theorem nl_7431522 : (7431522 : Int32) = nI 7431522 := rfl
theorem nl_7499640 : (7499640 : Int32) = nI 7499640 := rfl
theorem nl_7629922 : (7629922 : Int32) = nI 7629922 := rfl
theorem nl_7629939 : (7629939 : Int32) = nI 7629939 := rfl
theorem nl_7692908 : (7692908 : Int32) = nI 7692908 := rfl
theorem nl_7694444 : (7694444 : Int32) = nI 7694444 := rfl
theorem nl_7760228 : (7760228 : Int32) = nI 7760228 := rfl
theorem nl_7889261 : (7889261 : Int32) = nI 7889261 := rfl
theorem nl_33554432 : (33554432 : Int32) = nI 33554432 := rfl
theorem nl_67108864 : (67108864 : Int32) = nI 67108864 := rfl
theorem nl_100663296 : (100663296 : Int32) = nI 100663296 := rfl
theorem nl_267386895 : (267386895 : Int32) = nI 267386895 := rfl
theorem nl_1073741824 : (1073741824 : Int32) = nI 1073741824 := rfl
theorem nl_1701669236 : (1701669236 : Int32) = nI 1701669236 := rfl
theorem nl_1702132066 : (1702132066 : Int32) = nI 1702132066 := rfl
theorem nl_1718378856 : (1718378856 : Int32) = nI 1718378856 := rfl
theorem nl_1751938413 : (1751938413 : Int32) = nI 1751938413 := rfl
theorem nl_1767993971 : (1767993971 : Int32) = nI 1767993971 := rfl
theorem nl_1768186977 : (1768186977 : Int32) = nI 1768186977 := rfl
theorem nl_1768189537 : (1768189537 : Int32) = nI 1768189537 := rfl
theorem nl_1768697443 : (1768697443 : Int32) = nI 1768697443 := rfl
theorem nl_1768713331 : (1768713331 : Int32) = nI 1768713331 := rfl
theorem nl_1768714867 : (1768714867 : Int32) = nI 1768714867 := rfl
theorem nl_1769107320 : (1769107320 : Int32) = nI 1769107320 := rfl
theorem nl_1769237619 : (1769237619 : Int32) = nI 1769237619 := rfl
theorem nl_1885435763 : (1885435763 : Int32) = nI 1885435763 := rfl
theorem nl_1919561315 : (1919561315 : Int32) = nI 1919561315 := rfl
theorem nl_1919705450 : (1919705450 : Int32) = nI 1919705450 := rfl
theorem nl_1919888995 : (1919888995 : Int32) = nI 1919888995 := rfl
theorem nl_1969579874 : (1969579874 : Int32) = nI 1969579874 := rfl
theorem nl_1970103666 : (1970103666 : Int32) = nI 1970103666 := rfl
theorem nl_1970170221 : (1970170221 : Int32) = nI 1970170221 := rfl
theorem nl_1970564194 : (1970564194 : Int32) = nI 1970564194 := rfl
theorem nl_1970564211 : (1970564211 : Int32) = nI 1970564211 := rfl
theorem nl_1970694500 : (1970694500 : Int32) = nI 1970694500 := rfl
theorem nl_1970823533 : (1970823533 : Int32) = nI 1970823533 := rfl
theorem nl_1986866787 : (1986866787 : Int32) = nI 1986866787 := rfl
theorem nl_2003578467 : (2003578467 : Int32) = nI 2003578467 := rfl
theorem nl_2004037219 : (2004037219 : Int32) = nI 2004037219 := rfl
theorem nl_2147483647 : (2147483647 : Int32) = nI 2147483647 := rfl
theorem nl_2147483648 : (2147483648 : Int32) = nI 2147483648 := rfl
theorem nl_4294967295 : (4294967295 : Int32) = nI 4294967295 := rfl
theorem nl_1099511627776 : (1099511627776 : Int32) = nI 1099511627776 := rfl
theorem nl_2199023255552 : (2199023255552 : Int32) = nI 2199023255552 := rfl
