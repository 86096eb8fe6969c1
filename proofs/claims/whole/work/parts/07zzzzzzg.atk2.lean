/-- numbers, in both -/
def nuO (b : Nat) (c : Nat → Nat) : Nat → Nat → Nat → Option Nat
  | 0, _, a => some a
  | k + 1, i, a => if dgv (c i) < b ∧ a * b + dgv (c i) < 2 ^ 32 then nuO b c k (i + 1) (a * b + dgv (c i)) else none
def oL (o : Option Nat) : Int64 := match o with | some x => Int64.ofNat x | none => -1
def cN2 (BC : St) (y q : Nat) (nm : Int32) (o : Option Nat) : Option St := match o with | some x => some (uC BC y 2 q (nI x)) | none => some (uC BC y 6 q nm)
def cWt (BC : St) (y q : Nat) (nm : Int32) (o : Option (Nat × Nat)) : St := match o with | some w => uC BC y w.1 q (nI w.2) | none => uC BC y 6 q nm
def rW (BR : St) (ap y q : Nat) (x' : Int32) (o : Option (Nat × Nat)) : St := match o with | some w => uR BR ap w.1 q y (nI w.2) | none => uR BR q 5 q q x'
theorem or_32 : ∀ c : Fin 128, nI c.1 ||| nI 32 = nI (c.1 ||| 32) := by decide +kernel
theorem or_v : ∀ c : Fin 128, ((97 ≤ c.1 ||| 32 ∧ c.1 ||| 32 ≤ 102) → (c.1 ||| 32) - 97 + 10 = dgv c.1) ∧ (¬ (97 ≤ c.1 ||| 32 ∧ c.1 ||| 32 ≤ 102) → 57 < c.1 → dgv c.1 = 99) ∧ c.1 ||| 32 < 128 := by decide +kernel
theorem dgv_d {c : Nat} (h : 48 ≤ c) (h2 : c ≤ 57) : dgv c = c - 48 := if_pos ⟨h, h2⟩
theorem dgv_s {c : Nat} (h : c < 48) : dgv c = 99 := by
  unfold dgv
  rw [if_neg (by omega), if_neg (by omega), if_neg (by omega)]
theorem dgv_lt : ∀ c : Fin 128, dgv c.1 < 100 := by decide +kernel
theorem an_255 (n : Nat) (G : Int32 → Int64 → Int32 → St → Option St) (b d a i : Nat) (S : St) (hb : b < 20) (hd : d < b) (ha : a < 2 ^ 32) (hi : i < 2 ^ 30) : df_X9_readNumber_255 n G (nI b) (Int64.ofNat a) (nI i) (nI d) S = if a * b + d < 2 ^ 32 then G (nI b) (Int64.ofNat (a * b + d)) (nI (i + 1)) S else df_X9_readNumber_288 n S := by
  have hm : a * b ≤ 2 ^ 32 * 20 := Nat.mul_le_mul (Nat.le_of_lt ha) (Nat.le_of_lt hb)
  have e1 := lma a b d (by omega) (by omega)
  have cm := (nlb (a * b + d) (by omega)).1
  have w : nI i + Int32.ofInt 1 = nI (i + 1) := by rw [show Int32.ofInt 1 = nI 1 from rfl, nI_add]
  unfold df_X9_readNumber_255
  rw [nb_let, e1, if_neg (show ¬ nI d < 0 from fun z => by have z : nI d < nI 0 := z; rw [nI_ltI (by omega) (by omega)] at z; omega), if_neg (show ¬ nI b ≤ nI d from fun z => by rw [nI_leI (by omega) (by omega)] at z; omega)]
  by_cases y : a * b + d < 2 ^ 32
  · rw [if_pos y, if_pos (show lg_cmp (Int64.ofNat (a * b + d)) 4294967295 ≤ 0 from cm.mpr y), nb_let, w]
  · rw [if_neg y, if_neg (show ¬ lg_cmp (Int64.ofNat (a * b + d)) 4294967295 ≤ 0 from fun z => y (cm.mp z))]
theorem an_255b (n : Nat) (G : Int32 → Int64 → Int32 → St → Option St) (b : Nat) (d : Int32) (x : Int64) (i : Int32) (S : St) (h : d < 0 ∨ nI b ≤ d) : df_X9_readNumber_255 n G (nI b) x i d S = df_X9_readNumber_288 n S := by
  unfold df_X9_readNumber_255
  rw [nb_let]
  by_cases y : d < 0
  · rw [if_pos y]
  · rw [if_neg y, if_pos (h.resolve_left y)]
theorem an_288 (n : Nat) (BC : St) (ap kd fr : Nat) (nm : Int32) : df_X9_readNumber_288 n (uC BC ap kd fr nm) = some (uC BC ap 6 fr nm) := by
  simp (disch := (first | assumption | decide | omega)) only [df_X9_readNumber_288, uC_i0, uC_i1, uC_i2, uC_i3, uC_i4, uC_r, uC_o, uC_w0, uC_w2, uC_w3, uC_w4, eq_self, Nat.reduceEqDiff, Nat.reduceLeDiff, nl_2, nl_6, no_1, no_1024, pk_mul, nI_add, nm_ck, nI_clamp, nI_ltI, nI_leI, nI_eq, nb_b2, nb_b1, ↓nb_let, nm_z0, nm_z1, nb_II, nb_IR, nb_RI, nb_RR, nm_IL, nm_IQ, nm_RL, nm_RQ, nm_LI, nm_LR, nm_LL, nm_LQ, nm_QI, nm_QR, nm_QL, nm_QQ, nm_rr, nm_ii, nm_eqm, not_false_eq_true, pk_sub, nm_div, nm_shl, nm_shr, nm_ush, nm_or8, nm_or64, nm_or256, nm_m1, nm_m3, nm_m7, nm_m15, nm_m31, nm_m63, nm_m255, nm_m511, nm_m1023, nm_m2047, nm_m65535, Nat.reduceMod, Nat.reducePow, Nat.reduceAdd, Nat.reduceSub, Nat.reduceMul, nm_bo, nm_bi, nm_rc, nm_ic, nm_ri, nm_rl, nm_rq, nm_ql, nm_qi, nm_li, nm_us, nm_uu, nm_cp, nm_sa31, nm_sa7, nm_m127, nm_m2, nm_nz, nm_nzk, nm_eq32, nm_nzf, if_true, if_false, ↓reduceIte, if_pos, if_neg]
theorem an_187 {n L e : Nat} {c : Nat → Nat} {BC BR : St} (hT : atx n L e c BC BR) (m b y i q : Nat) (x : Int64) (nm : Int32) (hy : y ≤ e) (hi : i < y) : df_X9_readNumber_187 n (m + 1) (nI b) x (nI i) (uC BC y 2 q nm) = if c i ≤ 57 then df_X9_readNumber_255 n (df_X9_readNumber_187 n m) (nI b) x (nI i) (nI (c i) - 48) (uC BC y 2 q nm) else if 97 ≤ c i ||| 32 ∧ c i ||| 32 ≤ 102 then df_X9_readNumber_255 n (df_X9_readNumber_187 n m) (nI b) x (nI i) (nI (dgv (c i))) (uC BC y 2 q nm) else df_X9_readNumber_255 n (df_X9_readNumber_187 n m) (nI b) x (nI i) (nI b) (uC BC y 2 q nm) := by
  obtain ⟨hn, hL, heL, h127, hend, hce, hO, h1, htC, h0, htR, hch⟩ := hT
  have t := htC i (by omega)
  have i127 := h127 i
  have ov := or_v ⟨c i, by omega⟩
  have o3 := or_32 ⟨c i, by omega⟩
  have o3 : nI (c i) ||| 32 = nI (c i ||| 32) := o3
  have o1 : (97 ≤ c i ||| 32 ∧ c i ||| 32 ≤ 102) → (c i ||| 32) - 97 + 10 = dgv (c i) := ov.1
  have o2 : c i ||| 32 < 128 := ov.2.2
  show dF_X9_readNumber_187 n (df_X9_readNumber_187 n m) (nI b) x (nI i) (uC BC y 2 q nm) = _
  unfold dF_X9_readNumber_187
  rw [uC_i0, if_neg (show ¬ nI y ≤ nI i from fun z => by rw [nI_leI (by omega) (by omega)] at z; omega), uC_o, hO, o8, nm_ck (by omega) (by omega), uC_r, nI_clamp (by omega), t, nb_let, nb_let]
  by_cases a : c i ≤ 57
  · rw [if_pos a, if_pos (show nI (c i) ≤ 57 by show nI (c i) ≤ nI 57; rw [nI_leI (by omega) (by omega)]; exact a)]
  · rw [if_neg a, if_neg (show ¬ nI (c i) ≤ 57 from fun z => a (by have z : nI (c i) ≤ nI 57 := z; rw [nI_leI (by omega) (by omega)] at z; exact z)), nb_let, o3]
    generalize c i ||| 32 = w at o1 o2
    by_cases d : 97 ≤ w
    · rw [if_neg (show ¬ nI w < 97 from fun z => by have z : nI w < nI 97 := z; rw [nI_ltI (by omega) (by omega)] at z; omega)]
      by_cases f : w ≤ 102
      · rw [if_pos (show 97 ≤ w ∧ w ≤ 102 from ⟨d, f⟩), if_neg (show ¬ 102 < nI w from fun z => by have z : nI 102 < nI w := z; rw [nI_ltI (by omega) (by omega)] at z; omega)]
        unfold df_X9_readNumber_253
        rw [show nI w - 97 + 10 = nI (w - 97 + 10) by rw [show (97 : Int32) = nI 97 from rfl, show (10 : Int32) = nI 10 from rfl, pk_sub d, nI_add], o1 ⟨d, f⟩]
      · rw [if_neg (show ¬ (97 ≤ w ∧ w ≤ 102) from fun z => f z.2), if_pos (show 102 < nI w by show nI 102 < nI w; rw [nI_ltI (by omega) (by omega)]; omega)]
        rfl
    · rw [if_neg (show ¬ (97 ≤ w ∧ w ≤ 102) from fun z => d z.1), if_pos (show nI w < 97 by show nI w < nI 97; rw [nI_ltI (by omega) (by omega)]; omega)]
      rfl
theorem an_t {n L e : Nat} {c : Nat → Nat} {BC BR : St} (hT : atx n L e c BC BR) (m b y i q a : Nat) (nm : Int32) (hy : y ≤ e) (hi : i < y) (hb : b = 2 ∨ b = 10 ∨ b = 16) (ha : a < 2 ^ 32) : df_X9_readNumber_187 n (m + 1) (nI b) (Int64.ofNat a) (nI i) (uC BC y 2 q nm) = if dgv (c i) < b ∧ a * b + dgv (c i) < 2 ^ 32 then df_X9_readNumber_187 n m (nI b) (Int64.ofNat (a * b + dgv (c i))) (nI (i + 1)) (uC BC y 2 q nm) else some (uC BC y 6 q nm) := by
  have hL := hT.2.1
  have heL := hT.2.2.1
  have i127 := hT.2.2.2.1 i
  have ov := or_v ⟨c i, by omega⟩
  have o2 : ¬ (97 ≤ c i ||| 32 ∧ c i ||| 32 ≤ 102) → 57 < c i → dgv (c i) = 99 := ov.2.1
  have dl := dgv_lt ⟨c i, by omega⟩
  have dl : dgv (c i) < 100 := dl
  have fin : ∀ d : Nat, d < 100 → (if d < b ∧ a * b + d < 2 ^ 32 then df_X9_readNumber_187 n m (nI b) (Int64.ofNat (a * b + d)) (nI (i + 1)) (uC BC y 2 q nm) else some (uC BC y 6 q nm)) = df_X9_readNumber_255 n (df_X9_readNumber_187 n m) (nI b) (Int64.ofNat a) (nI i) (nI d) (uC BC y 2 q nm) := fun d hd => by
    by_cases k : d < b
    · rw [an_255 n _ b d a i _ (by omega) k ha (by omega)]
      by_cases k2 : a * b + d < 2 ^ 32
      · rw [if_pos ⟨k, k2⟩, if_pos k2]
      · rw [if_neg (fun z => k2 z.2), if_neg k2, an_288]
    · rw [if_neg (fun z => k z.1), an_255b n _ b (nI d) _ _ _ (Or.inr (by rw [nI_leI (by omega) (by omega)]; omega)), an_288]
  rw [an_187 hT m b y i q (Int64.ofNat a) nm hy hi, fin (dgv (c i)) dl]
  by_cases k : c i ≤ 57
  · rw [if_pos k]
    by_cases k2 : 48 ≤ c i
    · rw [dgv_d k2 k, show nI (c i) - 48 = nI (c i - 48) from pk_sub k2]
    · rw [dgv_s (by omega), an_255b n _ b (nI 99) _ _ _ (Or.inr (by rw [nI_leI (by omega) (by omega)]; omega))]
      refine an_255b n _ b _ _ _ _ (Or.inl ?_)
      have e : ∀ c : Fin 48, nI c.1 - 48 < 0 := by decide +kernel
      exact e ⟨c i, by omega⟩
  · rw [if_neg k]
    by_cases k2 : 97 ≤ c i ||| 32 ∧ c i ||| 32 ≤ 102
    · rw [if_pos k2]
    · rw [if_neg k2, o2 k2 (by omega), an_255b n _ b (nI 99) _ _ _ (Or.inr (by rw [nI_leI (by omega) (by omega)]; omega))]
      exact an_255b n _ b (nI b) _ _ _ (Or.inr (by rw [nI_leI (by omega) (by omega)]; omega))
theorem i64_32 (a : Nat) : (Int64.ofNat a).toInt32 = nI a := Int64.toInt32_ofNat'
theorem an_all {n L e : Nat} {c : Nat → Nat} {BC BR : St} (hT : atx n L e c BC BR) (b y q : Nat) (nm : Int32) (hy : y ≤ e) (hb : b = 2 ∨ b = 10 ∨ b = 16) : ∀ k i a g : Nat, i + k = y → k < g → a < 2 ^ 32 → df_X9_readNumber_187 n g (nI b) (Int64.ofNat a) (nI i) (uC BC y 2 q nm) = cN2 BC y q nm (nuO b c k i a) := fun k => by
  have hL := hT.2.1
  have heL := hT.2.2.1
  induction k with
  | zero =>
    intro i a g hi hg ha
    obtain ⟨m, rfl⟩ : ∃ m : Nat, g = m + 1 := ⟨g - 1, by omega⟩
    rw [show i = y by omega]
    show dF_X9_readNumber_187 n (df_X9_readNumber_187 n m) (nI b) (Int64.ofNat a) (nI y) (uC BC y 2 q nm) = some (uC BC y 2 q (nI a))
    unfold dF_X9_readNumber_187
    rw [uC_i0, if_pos (show nI y ≤ nI y by rw [nI_leI (by omega) (by omega)]; omega), i64_32, uC_w4, nb_let]
  | succ k ih =>
    intro i a g hi hg ha
    obtain ⟨m, rfl⟩ : ∃ m : Nat, g = m + 1 := ⟨g - 1, by omega⟩
    rw [an_t hT m b y i q a nm hy (by omega) hb ha]
    show _ = cN2 BC y q nm ((if dgv (c i) < b ∧ a * b + dgv (c i) < 2 ^ 32 then nuO b c k (i + 1) (a * b + dgv (c i)) else none))
    by_cases h : dgv (c i) < b ∧ a * b + dgv (c i) < 2 ^ 32
    · rw [if_pos h, if_pos h]
      exact ih (i + 1) (a * b + dgv (c i)) m (by omega) (by omega) h.2
    · rw [if_neg h, if_neg h]
      rfl
/-- the reference's -/
theorem ar_m (n g y b i : Nat) (S : St) (hg : 0 < g) : df_X13_numeral_17 n g (nI y) (nI b) (-1) (nI i) S = some (-1, S) := by
  obtain ⟨m, rfl⟩ : ∃ m : Nat, g = m + 1 := ⟨g - 1, by omega⟩
  show dF_X13_numeral_17 n (df_X13_numeral_17 n m) (nI y) (nI b) (-1) (nI i) S = _
  unfold dF_X13_numeral_17 df_X13_numeral_90
  by_cases h : nI y ≤ nI i
  · rw [if_pos h]
  · rw [if_neg h, if_pos (show lg_cmp (-1) 0 < 0 by decide)]
theorem ar_all {n L e : Nat} {c : Nat → Nat} {BC BR : St} (hT : atx n L e c BC BR) (b y ap tk fr to : Nat) (nm : Int32) (hy : y ≤ e) (hb : b = 2 ∨ b = 10 ∨ b = 16) : ∀ k i a g : Nat, i + k = y → k + 1 < g → a < 2 ^ 32 → df_X13_numeral_17 n g (nI y) (nI b) (Int64.ofNat a) (nI i) (uR BR ap tk fr to nm) = some (oL (nuO b c k i a), uR BR ap tk fr to nm) := fun k => by
  obtain ⟨hn, hL, heL, h127, hend, hce, hO, h1, htC, h0, htR, hch⟩ := hT
  induction k with
  | zero =>
    intro i a g hi hg ha
    obtain ⟨m, rfl⟩ : ∃ m : Nat, g = m + 1 := ⟨g - 1, by omega⟩
    rw [show i = y by omega]
    show dF_X13_numeral_17 n (df_X13_numeral_17 n m) (nI y) (nI b) (Int64.ofNat a) (nI y) _ = some (Int64.ofNat a, _)
    unfold dF_X13_numeral_17 df_X13_numeral_90
    rw [if_pos (show nI y ≤ nI y by rw [nI_leI (by omega) (by omega)]; omega)]
  | succ k ih =>
    intro i a g hi hg ha
    obtain ⟨m, rfl⟩ : ∃ m : Nat, g = m + 1 := ⟨g - 1, by omega⟩
    have t := htR i (by omega)
    have i127 := h127 i
    have wo := wo_13 n (c := c i) (by omega)
    have dl : dgv (c i) < 100 := dgv_lt ⟨c i, by omega⟩
    have w : nI i + Int32.ofInt 1 = nI (i + 1) := by rw [show Int32.ofInt 1 = nI 1 from rfl, nI_add]
    have hm : a * b ≤ 2 ^ 32 * 20 := Nat.mul_le_mul (Nat.le_of_lt ha) (by omega)
    show _ = some (oL ((if dgv (c i) < b ∧ a * b + dgv (c i) < 2 ^ 32 then nuO b c k (i + 1) (a * b + dgv (c i)) else none)), _)
    have cz : ¬ lg_cmp (Int64.ofNat a) 0 < 0 := fun z => by
      have z : lg_cmp (Int64.ofNat a) 0 < nI 0 := z
      rw [lgA, Int64.toInt_ofNat_of_lt (by omega)] at z
      have z : (a : Int) < 0 := z
      omega
    have s1 : df_X13_numeral_17 n (m + 1) (nI y) (nI b) (Int64.ofNat a) (nI i) (uR BR ap tk fr to nm) = if b ≤ dgv (c i) then df_X13_numeral_63 n (df_X13_numeral_17 n m) (nI y) (nI b) (nI i) (-1) (uR BR ap tk fr to nm) else df_X13_numeral_63 n (df_X13_numeral_17 n m) (nI y) (nI b) (nI i) (Int64.ofNat a * (nI b).toInt64 + (nI (dgv (c i))).toInt64) (uR BR ap tk fr to nm) := by
      show dF_X13_numeral_17 n (df_X13_numeral_17 n m) (nI y) (nI b) (Int64.ofNat a) (nI i) (uR BR ap tk fr to nm) = _
      unfold dF_X13_numeral_17
      rw [if_neg (show ¬ nI y ≤ nI i from fun z => by rw [nI_leI (by omega) (by omega)] at z; omega), if_neg cz, nm_ck (by omega) (by omega), uR_r, nI_clamp (by omega), t, wo, nb_b2]
      by_cases h : b ≤ dgv (c i)
      · rw [if_pos h, if_pos (show nI b ≤ nI (dgv (c i)) by rw [nI_leI (by omega) (by omega)]; exact h)]
      · rw [if_neg h, if_neg (show ¬ nI b ≤ nI (dgv (c i)) from fun z => h (by rw [nI_leI (by omega) (by omega)] at z; exact z))]
    rw [s1]
    by_cases h : b ≤ dgv (c i)
    · rw [if_pos h, if_neg (show ¬ (dgv (c i) < b ∧ a * b + dgv (c i) < 2 ^ 32) from fun z => by omega)]
      unfold df_X13_numeral_63 df_X13_numeral_82
      rw [if_pos (show lg_cmp (-1) 4294967295 ≤ 0 by decide), nb_let, w]
      exact ar_m n m y b (i + 1) _ (by omega)
    · have e1 := lma a b (dgv (c i)) (by omega) (by omega)
      have cm := (nlb (a * b + dgv (c i)) (by omega)).1
      rw [if_neg h, e1]
      unfold df_X13_numeral_63 df_X13_numeral_82
      by_cases h2 : a * b + dgv (c i) < 2 ^ 32
      · rw [if_pos (show dgv (c i) < b ∧ a * b + dgv (c i) < 2 ^ 32 from ⟨by omega, h2⟩), if_pos (show lg_cmp (Int64.ofNat (a * b + dgv (c i))) 4294967295 ≤ 0 from cm.mpr h2), nb_let, w]
        exact ih (i + 1) (a * b + dgv (c i)) m (by omega) (by omega) h2
      · rw [if_neg (show ¬ (dgv (c i) < b ∧ a * b + dgv (c i) < 2 ^ 32) from fun z => h2 z.2), if_neg (show ¬ lg_cmp (Int64.ofNat (a * b + dgv (c i))) 4294967295 ≤ 0 from fun z => h2 (cm.mp z)), nb_let, w]
        exact ar_m n m y b (i + 1) _ (by omega)
theorem ar_1 {n L e : Nat} {c : Nat → Nat} {BC BR : St} (hT : atx n L e c BC BR) (b y ap tk fr to i : Nat) (nm : Int32) (hy : y ≤ e) (hb : b = 2 ∨ b = 10 ∨ b = 16) (hi : i < y) : df_X13_numeral n (nI i) (nI y) (nI b) (uR BR ap tk fr to nm) = some (oL (nuO b c (y - i) i 0), uR BR ap tk fr to nm) := by
  have hL := hT.2.1
  have heL := hT.2.2.1
  have hn := hT.1
  have a := ar_all hT b y ap tk fr to nm hy hb (y - i) i 0 n (by omega) (by omega) (by omega)
  unfold df_X13_numeral df_X13_numeral_0 df_X13_numeral_12
  rw [if_neg (show ¬ nI y ≤ nI i from fun z => by rw [nI_leI (by omega) (by omega)] at z; omega)]
  exact a
theorem ar_0 {n L e : Nat} {c : Nat → Nat} {BC BR : St} (hT : atx n L e c BC BR) (b y ap tk fr to : Nat) (nm : Int32) (hy : y ≤ e) : df_X13_numeral n (nI y) (nI y) (nI b) (uR BR ap tk fr to nm) = some (-1, uR BR ap tk fr to nm) := by
  have hL := hT.2.1
  have heL := hT.2.2.1
  have hn := hT.1
  unfold df_X13_numeral df_X13_numeral_0 df_X13_numeral_12
  rw [if_pos (show nI y ≤ nI y by rw [nI_leI (by omega) (by omega)]; omega)]
  exact ar_m n n y b y _ (by omega)
/-- a number's token -/
def nuT (c : Nat → Nat) (q y : Nat) : Option (Nat × Nat) := if y - q = 2 ∧ (c (q + 1) = 102 ∨ c (q + 1) = 98) then some (3, c q - 48) else Option.map (fun x => (2, x)) (if 2 < y - q ∧ c q = 48 ∧ c (q + 1) = 120 then nuO 16 c (y - (q + 2)) (q + 2) 0 else if 2 < y - q ∧ c q = 48 ∧ c (q + 1) = 98 then nuO 2 c (y - (q + 2)) (q + 2) 0 else nuO 10 c (y - q) q 0)
theorem nu_m {BC : St} {y q : Nat} {nm : Int32} (o : Option Nat) : cN2 BC y q nm o = some (cWt BC y q nm (Option.map (fun x => ((2 : Nat), x)) o)) := by
  cases o <;> rfl
theorem ak_D {n L e : Nat} {c : Nat → Nat} {BC BR : St} (hT : atx n L e c BC BR) (q kd fr : Nat) (nm : Int32) (hq : q < e) (hd : aD (c q) = true) : df_X9_next_52 n (uC BC q kd fr nm) = some (cWt BC (eT c e q) q nm (nuT c q (eT c e q))) := by
  obtain ⟨hn, hL, heL, h127, hend, hce, hO, h1, htC, h0, htR, hch⟩ := id hT
  have hp := aD_P hd
  have d9 := aD_v.mp hd
  rw [ak_1 hT q kd fr nm hq (by omega)]
  have e0 := eT_p c hq hp
  have e2 := (eT_1 c (Nat.le_of_lt hq)).2.1
  generalize eT c e q = y at e0 e2
  have w : nI y - nI q = nI (y - q) := by rw [pk_sub (by omega)]
  have t := htC q (by omega)
  have q127 := h127 q
  have s1 : df_X9_next_140 n (nI (c q)) (uC BC y kd q nm) = df_X9_readNumber n (uC BC y kd q nm) := by
    have a1 : ¬ c q < 48 := by omega
    have a2 : ¬ 57 < c q := by omega
    unfold df_X9_next_140
    rw [if_neg (show ¬ nI (c q) < 48 from fun z => by have z : nI (c q) < nI 48 := z; rw [nI_ltI (by omega) (by omega)] at z; omega), if_neg (show ¬ 57 < nI (c q) from fun z => by have z : nI 57 < nI (c q) := z; rw [nI_ltI (by omega) (by omega)] at z; omega)]
    cases df_X9_readNumber n (uC BC y kd q nm) <;> rfl
  rw [s1]
  have s10 : ∀ kd : Nat, df_X9_readNumber_185 n (nI 10) 0 (nI q) (uC BC y 2 q nm) = some (cWt BC y q nm (Option.map (fun x => ((2 : Nat), x)) (nuO 10 c (y - q) q 0))) := fun kd => by
    unfold df_X9_readNumber_185
    rw [← nu_m]
    exact an_all hT 10 y q nm e2 (Or.inr (Or.inl rfl)) (y - q) q 0 n (by omega) (by omega) (by omega)
  have sxx : ∀ b : Nat, b = 2 ∨ b = 10 ∨ b = 16 → 2 < y - q → df_X9_readNumber_172 n (nI b) 0 (uC BC y 2 q nm) = some (cWt BC y q nm (Option.map (fun x => ((2 : Nat), x)) (nuO b c (y - (q + 2)) (q + 2) 0))) := fun b hb hl => by
    unfold df_X9_readNumber_172 df_X9_readNumber_185
    rw [← nu_m, uC_i3, show nI q + 2 = nI (q + 2) by rw [show (2 : Int32) = nI 2 from rfl, nI_add]]
    exact an_all hT b y q nm e2 hb (y - (q + 2)) (q + 2) 0 n (by omega) (by omega) (by omega)
  have s16 := sxx 16 (Or.inr (Or.inr rfl))
  have s2 := sxx 2 (Or.inl rfl)
  have s10 := s10 kd
  unfold nuT
  by_cases l1 : y - q ≤ 1
  · rw [if_neg (by omega), if_neg (by omega), if_neg (by omega)]
    have l2 : ¬ y - q = 2 := by omega
    have l3 : y - q ≤ 2 := by omega
    rw [← s10]
    simp (disch := (first | assumption | decide | omega)) only [df_X9_readNumber, df_X9_readNumber_0, df_X9_readNumber_30, df_X9_readNumber_70, df_X9_readNumber_99, df_X9_readNumber_100, df_X9_readNumber_130, df_X9_readNumber_131, df_X9_readNumber_153, uC_i0, uC_i1, uC_i2, uC_i3, uC_i4, uC_r, uC_o, uC_w0, uC_w2, uC_w3, uC_w4, w, eq_self, Nat.reduceEqDiff, Nat.reduceLeDiff, nl_0, nl_1, nl_2, nl_3, nl_7, nl_8, nl_10, nl_16, nl_48, nl_98, nl_102, nl_120, nl_32768, no_1, no_1024, pk_mul, nI_add, nm_ck, nI_clamp, nI_ltI, nI_leI, nI_eq, nb_b2, nb_b1, ↓nb_let, nm_z0, nm_z1, nb_II, nb_IR, nb_RI, nb_RR, nm_IL, nm_IQ, nm_RL, nm_RQ, nm_LI, nm_LR, nm_LL, nm_LQ, nm_QI, nm_QR, nm_QL, nm_QQ, nm_rr, nm_ii, nm_eqm, not_false_eq_true, pk_sub, nm_div, nm_shl, nm_shr, nm_ush, nm_or8, nm_or64, nm_or256, nm_m1, nm_m3, nm_m7, nm_m15, nm_m31, nm_m63, nm_m255, nm_m511, nm_m1023, nm_m2047, nm_m65535, Nat.reduceMod, Nat.reducePow, Nat.reduceAdd, Nat.reduceSub, Nat.reduceMul, nm_bo, nm_bi, nm_rc, nm_ic, nm_ri, nm_rl, nm_rq, nm_ql, nm_qi, nm_li, nm_us, nm_uu, nm_cp, nm_sa31, nm_sa7, nm_m127, nm_m2, nm_nz, nm_nzk, nm_eq32, nm_nzf, if_true, if_false, ↓reduceIte, if_pos, if_neg]
  · have t1 := htC (q + 1) (by omega)
    have r127 := h127 (q + 1)
    by_cases l2 : y - q = 2
    · by_cases nr : c (q + 1) = 102 ∨ c (q + 1) = 98
      · rw [if_pos ⟨l2, nr⟩]
        have sb : nI (c q) - nI 48 = nI (c q - 48) := pk_sub (by omega)
        rcases nr with nr | nr
        · rw [nr] at t1
          simp (disch := (first | assumption | decide | omega)) only [df_X9_readNumber, df_X9_readNumber_0, df_X9_readNumber_30, df_X9_readNumber_48, uC_i0, uC_i1, uC_i2, uC_i3, uC_i4, uC_r, uC_o, uC_w0, uC_w2, uC_w3, uC_w4, hO, o8, w, t1, t, sb, l2, eq_self, Nat.reduceEqDiff, Nat.reduceLeDiff, nl_0, nl_1, nl_2, nl_3, nl_4, nl_7, nl_8, nl_48, nl_98, nl_102, nl_32768, no_1, no_1024, pk_mul, nI_add, nm_ck, nI_clamp, nI_ltI, nI_leI, nI_eq, nb_b2, nb_b1, ↓nb_let, nm_z0, nm_z1, nb_II, nb_IR, nb_RI, nb_RR, nm_IL, nm_IQ, nm_RL, nm_RQ, nm_LI, nm_LR, nm_LL, nm_LQ, nm_QI, nm_QR, nm_QL, nm_QQ, nm_rr, nm_ii, nm_eqm, not_false_eq_true, pk_sub, nm_div, nm_shl, nm_shr, nm_ush, nm_or8, nm_or64, nm_or256, nm_m1, nm_m3, nm_m7, nm_m15, nm_m31, nm_m63, nm_m255, nm_m511, nm_m1023, nm_m2047, nm_m65535, Nat.reduceMod, Nat.reducePow, Nat.reduceAdd, Nat.reduceSub, Nat.reduceMul, nm_bo, nm_bi, nm_rc, nm_ic, nm_ri, nm_rl, nm_rq, nm_ql, nm_qi, nm_li, nm_us, nm_uu, nm_cp, nm_sa31, nm_sa7, nm_m127, nm_m2, nm_nz, nm_nzk, nm_eq32, nm_nzf, if_true, if_false, ↓reduceIte, if_pos, if_neg]
          rfl
        · rw [nr] at t1
          simp (disch := (first | assumption | decide | omega)) only [df_X9_readNumber, df_X9_readNumber_0, df_X9_readNumber_30, df_X9_readNumber_48, uC_i0, uC_i1, uC_i2, uC_i3, uC_i4, uC_r, uC_o, uC_w0, uC_w2, uC_w3, uC_w4, hO, o8, w, t1, t, sb, l2, eq_self, Nat.reduceEqDiff, Nat.reduceLeDiff, nl_0, nl_1, nl_2, nl_3, nl_4, nl_7, nl_8, nl_48, nl_98, nl_102, nl_32768, no_1, no_1024, pk_mul, nI_add, nm_ck, nI_clamp, nI_ltI, nI_leI, nI_eq, nb_b2, nb_b1, ↓nb_let, nm_z0, nm_z1, nb_II, nb_IR, nb_RI, nb_RR, nm_IL, nm_IQ, nm_RL, nm_RQ, nm_LI, nm_LR, nm_LL, nm_LQ, nm_QI, nm_QR, nm_QL, nm_QQ, nm_rr, nm_ii, nm_eqm, not_false_eq_true, pk_sub, nm_div, nm_shl, nm_shr, nm_ush, nm_or8, nm_or64, nm_or256, nm_m1, nm_m3, nm_m7, nm_m15, nm_m31, nm_m63, nm_m255, nm_m511, nm_m1023, nm_m2047, nm_m65535, Nat.reduceMod, Nat.reducePow, Nat.reduceAdd, Nat.reduceSub, Nat.reduceMul, nm_bo, nm_bi, nm_rc, nm_ic, nm_ri, nm_rl, nm_rq, nm_ql, nm_qi, nm_li, nm_us, nm_uu, nm_cp, nm_sa31, nm_sa7, nm_m127, nm_m2, nm_nz, nm_nzk, nm_eq32, nm_nzf, if_true, if_false, ↓reduceIte, if_pos, if_neg]
          rfl
      · rw [if_neg (fun z => nr z.2), if_neg (by omega), if_neg (by omega), ← s10]
        have n1 : ¬ c (q + 1) = 102 := fun z => nr (Or.inl z)
        have n2 : ¬ c (q + 1) = 98 := fun z => nr (Or.inr z)
        simp (disch := (first | assumption | decide | omega)) only [df_X9_readNumber, df_X9_readNumber_0, df_X9_readNumber_30, df_X9_readNumber_70, df_X9_readNumber_99, df_X9_readNumber_100, df_X9_readNumber_130, df_X9_readNumber_131, df_X9_readNumber_153, uC_i0, uC_i1, uC_i2, uC_i3, uC_i4, uC_r, uC_o, uC_w0, uC_w2, uC_w3, uC_w4, hO, o8, w, t1, t, l2, n1, n2, eq_self, Nat.reduceEqDiff, Nat.reduceLeDiff, nl_0, nl_1, nl_2, nl_3, nl_7, nl_8, nl_10, nl_16, nl_48, nl_98, nl_102, nl_120, nl_32768, no_1, no_1024, pk_mul, nI_add, nm_ck, nI_clamp, nI_ltI, nI_leI, nI_eq, nb_b2, nb_b1, ↓nb_let, nm_z0, nm_z1, nb_II, nb_IR, nb_RI, nb_RR, nm_IL, nm_IQ, nm_RL, nm_RQ, nm_LI, nm_LR, nm_LL, nm_LQ, nm_QI, nm_QR, nm_QL, nm_QQ, nm_rr, nm_ii, nm_eqm, not_false_eq_true, pk_sub, nm_div, nm_shl, nm_shr, nm_ush, nm_or8, nm_or64, nm_or256, nm_m1, nm_m3, nm_m7, nm_m15, nm_m31, nm_m63, nm_m255, nm_m511, nm_m1023, nm_m2047, nm_m65535, Nat.reduceMod, Nat.reducePow, Nat.reduceAdd, Nat.reduceSub, Nat.reduceMul, nm_bo, nm_bi, nm_rc, nm_ic, nm_ri, nm_rl, nm_rq, nm_ql, nm_qi, nm_li, nm_us, nm_uu, nm_cp, nm_sa31, nm_sa7, nm_m127, nm_m2, nm_nz, nm_nzk, nm_eq32, nm_nzf, if_true, if_false, ↓reduceIte, if_pos, if_neg]
    · have l3 : ¬ y - q ≤ 2 := by omega
      rw [if_neg (fun z => l2 z.1)]
      by_cases z0 : c q = 48
      · rw [z0] at t
        by_cases x1 : c (q + 1) = 120
        · rw [if_pos ⟨by omega, z0, x1⟩, ← s16 (by omega)]
          rw [x1] at t1
          simp (disch := (first | assumption | decide | omega)) only [df_X9_readNumber, df_X9_readNumber_0, df_X9_readNumber_30, df_X9_readNumber_70, df_X9_readNumber_99, df_X9_readNumber_100, df_X9_readNumber_130, df_X9_readNumber_131, df_X9_readNumber_153, uC_i0, uC_i1, uC_i2, uC_i3, uC_i4, uC_r, uC_o, uC_w0, uC_w2, uC_w3, uC_w4, hO, o8, w, t1, t, l2, eq_self, Nat.reduceEqDiff, Nat.reduceLeDiff, nl_0, nl_1, nl_2, nl_3, nl_7, nl_8, nl_10, nl_16, nl_48, nl_98, nl_102, nl_120, nl_32768, no_1, no_1024, pk_mul, nI_add, nm_ck, nI_clamp, nI_ltI, nI_leI, nI_eq, nb_b2, nb_b1, ↓nb_let, nm_z0, nm_z1, nb_II, nb_IR, nb_RI, nb_RR, nm_IL, nm_IQ, nm_RL, nm_RQ, nm_LI, nm_LR, nm_LL, nm_LQ, nm_QI, nm_QR, nm_QL, nm_QQ, nm_rr, nm_ii, nm_eqm, not_false_eq_true, pk_sub, nm_div, nm_shl, nm_shr, nm_ush, nm_or8, nm_or64, nm_or256, nm_m1, nm_m3, nm_m7, nm_m15, nm_m31, nm_m63, nm_m255, nm_m511, nm_m1023, nm_m2047, nm_m65535, Nat.reduceMod, Nat.reducePow, Nat.reduceAdd, Nat.reduceSub, Nat.reduceMul, nm_bo, nm_bi, nm_rc, nm_ic, nm_ri, nm_rl, nm_rq, nm_ql, nm_qi, nm_li, nm_us, nm_uu, nm_cp, nm_sa31, nm_sa7, nm_m127, nm_m2, nm_nz, nm_nzk, nm_eq32, nm_nzf, if_true, if_false, ↓reduceIte, if_pos, if_neg]
        · rw [if_neg (fun z => x1 z.2.2)]
          by_cases b1 : c (q + 1) = 98
          · rw [if_pos ⟨by omega, z0, b1⟩, ← s2 (by omega)]
            rw [b1] at t1
            simp (disch := (first | assumption | decide | omega)) only [df_X9_readNumber, df_X9_readNumber_0, df_X9_readNumber_30, df_X9_readNumber_70, df_X9_readNumber_99, df_X9_readNumber_100, df_X9_readNumber_130, df_X9_readNumber_131, df_X9_readNumber_153, uC_i0, uC_i1, uC_i2, uC_i3, uC_i4, uC_r, uC_o, uC_w0, uC_w2, uC_w3, uC_w4, hO, o8, w, t1, t, l2, eq_self, Nat.reduceEqDiff, Nat.reduceLeDiff, nl_0, nl_1, nl_2, nl_3, nl_7, nl_8, nl_10, nl_16, nl_48, nl_98, nl_102, nl_120, nl_32768, no_1, no_1024, pk_mul, nI_add, nm_ck, nI_clamp, nI_ltI, nI_leI, nI_eq, nb_b2, nb_b1, ↓nb_let, nm_z0, nm_z1, nb_II, nb_IR, nb_RI, nb_RR, nm_IL, nm_IQ, nm_RL, nm_RQ, nm_LI, nm_LR, nm_LL, nm_LQ, nm_QI, nm_QR, nm_QL, nm_QQ, nm_rr, nm_ii, nm_eqm, not_false_eq_true, pk_sub, nm_div, nm_shl, nm_shr, nm_ush, nm_or8, nm_or64, nm_or256, nm_m1, nm_m3, nm_m7, nm_m15, nm_m31, nm_m63, nm_m255, nm_m511, nm_m1023, nm_m2047, nm_m65535, Nat.reduceMod, Nat.reducePow, Nat.reduceAdd, Nat.reduceSub, Nat.reduceMul, nm_bo, nm_bi, nm_rc, nm_ic, nm_ri, nm_rl, nm_rq, nm_ql, nm_qi, nm_li, nm_us, nm_uu, nm_cp, nm_sa31, nm_sa7, nm_m127, nm_m2, nm_nz, nm_nzk, nm_eq32, nm_nzf, if_true, if_false, ↓reduceIte, if_pos, if_neg]
          · rw [if_neg (fun z => b1 z.2.2), ← s10]
            simp (disch := (first | assumption | decide | omega)) only [df_X9_readNumber, df_X9_readNumber_0, df_X9_readNumber_30, df_X9_readNumber_70, df_X9_readNumber_99, df_X9_readNumber_100, df_X9_readNumber_130, df_X9_readNumber_131, df_X9_readNumber_153, uC_i0, uC_i1, uC_i2, uC_i3, uC_i4, uC_r, uC_o, uC_w0, uC_w2, uC_w3, uC_w4, hO, o8, w, t1, t, l2, x1, b1, eq_self, Nat.reduceEqDiff, Nat.reduceLeDiff, nl_0, nl_1, nl_2, nl_3, nl_7, nl_8, nl_10, nl_16, nl_48, nl_98, nl_102, nl_120, nl_32768, no_1, no_1024, pk_mul, nI_add, nm_ck, nI_clamp, nI_ltI, nI_leI, nI_eq, nb_b2, nb_b1, ↓nb_let, nm_z0, nm_z1, nb_II, nb_IR, nb_RI, nb_RR, nm_IL, nm_IQ, nm_RL, nm_RQ, nm_LI, nm_LR, nm_LL, nm_LQ, nm_QI, nm_QR, nm_QL, nm_QQ, nm_rr, nm_ii, nm_eqm, not_false_eq_true, pk_sub, nm_div, nm_shl, nm_shr, nm_ush, nm_or8, nm_or64, nm_or256, nm_m1, nm_m3, nm_m7, nm_m15, nm_m31, nm_m63, nm_m255, nm_m511, nm_m1023, nm_m2047, nm_m65535, Nat.reduceMod, Nat.reducePow, Nat.reduceAdd, Nat.reduceSub, Nat.reduceMul, nm_bo, nm_bi, nm_rc, nm_ic, nm_ri, nm_rl, nm_rq, nm_ql, nm_qi, nm_li, nm_us, nm_uu, nm_cp, nm_sa31, nm_sa7, nm_m127, nm_m2, nm_nz, nm_nzk, nm_eq32, nm_nzf, if_true, if_false, ↓reduceIte, if_pos, if_neg]
      · rw [if_neg (fun z => z0 z.2.1), if_neg (fun z => z0 z.2.1), ← s10]
        simp (disch := (first | assumption | decide | omega)) only [df_X9_readNumber, df_X9_readNumber_0, df_X9_readNumber_30, df_X9_readNumber_70, df_X9_readNumber_99, df_X9_readNumber_100, df_X9_readNumber_130, df_X9_readNumber_131, df_X9_readNumber_153, uC_i0, uC_i1, uC_i2, uC_i3, uC_i4, uC_r, uC_o, uC_w0, uC_w2, uC_w3, uC_w4, hO, o8, w, t1, t, l2, z0, eq_self, Nat.reduceEqDiff, Nat.reduceLeDiff, nl_0, nl_1, nl_2, nl_3, nl_7, nl_8, nl_10, nl_16, nl_48, nl_98, nl_102, nl_120, nl_32768, no_1, no_1024, pk_mul, nI_add, nm_ck, nI_clamp, nI_ltI, nI_leI, nI_eq, nb_b2, nb_b1, ↓nb_let, nm_z0, nm_z1, nb_II, nb_IR, nb_RI, nb_RR, nm_IL, nm_IQ, nm_RL, nm_RQ, nm_LI, nm_LR, nm_LL, nm_LQ, nm_QI, nm_QR, nm_QL, nm_QQ, nm_rr, nm_ii, nm_eqm, not_false_eq_true, pk_sub, nm_div, nm_shl, nm_shr, nm_ush, nm_or8, nm_or64, nm_or256, nm_m1, nm_m3, nm_m7, nm_m15, nm_m31, nm_m63, nm_m255, nm_m511, nm_m1023, nm_m2047, nm_m65535, Nat.reduceMod, Nat.reducePow, Nat.reduceAdd, Nat.reduceSub, Nat.reduceMul, nm_bo, nm_bi, nm_rc, nm_ic, nm_ri, nm_rl, nm_rq, nm_ql, nm_qi, nm_li, nm_us, nm_uu, nm_cp, nm_sa31, nm_sa7, nm_m127, nm_m2, nm_nz, nm_nzk, nm_eq32, nm_nzf, if_true, if_false, ↓reduceIte, if_pos, if_neg]
theorem ar_177 (n : Nat) (BR : St) (q tk to : Nat) (nm : Int32) (hto : to < 2 ^ 30) (o : Option Nat) (ho : ∀ x : Nat, o = some x → x < 2 ^ 32) : ∃ x' : Int32, df_X13_digits_177 n (oL o) (uR BR q tk q to nm) = some (rW BR q to q x' (Option.map (fun x => ((2 : Nat), x)) o)) := by
  cases o with
  | none =>
    have bd := bad_13 n BR q 2 q to ((-1 : Int64).toInt32)
    refine ⟨(-1 : Int64).toInt32, ?_⟩
    unfold df_X13_digits_177 df_X13_digits_202
    rw [show (2 : Int32) = nI 2 from rfl, uR_w8, nb_let, uR_w11, nb_let, if_neg (show ¬ (0 : Int32) ≤ lg_cmp (oL none) 0 by decide), show (oL none).toInt32 = (-1 : Int64).toInt32 from rfl, bd, nb_b1]
    rfl
  | some x =>
    have hx := ho x rfl
    refine ⟨0, ?_⟩
    have cz : (0 : Int32) ≤ lg_cmp (oL (some x)) 0 := by
      show nI 0 ≤ lg_cmp (Int64.ofNat x) 0
      rw [lgB, Int64.toInt_ofNat_of_lt (by omega)]
      show (0 : Int) ≤ x
      omega
    unfold df_X13_digits_177 df_X13_digits_202
    rw [show (2 : Int32) = nI 2 from rfl, uR_w8, nb_let, uR_w11, nb_let, if_pos cz, show (oL (some x)).toInt32 = nI x from i64_32 x]
    rfl
theorem nuO_l (b : Nat) (c : Nat → Nat) : ∀ k i a x : Nat, a < 2 ^ 32 → nuO b c k i a = some x → x < 2 ^ 32
  | 0, _, a, x, h, e => by
    have := Option.some.inj e
    omega
  | k + 1, i, a, x, h, e => by
    have e : (if dgv (c i) < b ∧ a * b + dgv (c i) < 2 ^ 32 then nuO b c k (i + 1) (a * b + dgv (c i)) else none) = some x := e
    by_cases y : dgv (c i) < b ∧ a * b + dgv (c i) < 2 ^ 32
    · rw [if_pos y] at e
      exact nuO_l b c k (i + 1) _ x y.2 e
    · rw [if_neg y] at e
      exact nomatch e
theorem ar_D {n L e : Nat} {c : Nat → Nat} {BC BR : St} (hT : atx n L e c BC BR) (q y tk : Nat) (nm : Int32) (hy : y ≤ e) (hq : q < y) (hd : aD (c q) = true) : ∃ x' : Int32, df_X13_digits n (uR BR q tk q y nm) = some (rW BR q y q x' (nuT c q y)) := by
  obtain ⟨hn, hL, heL, h127, hend, hce, hO, h1, htC, h0, htR, hch⟩ := id hT
  have d9 := aD_v.mp hd
  have w : nI y - nI q = nI (y - q) := by rw [pk_sub (by omega)]
  have t := htR q (by omega)
  have q127 := h127 q
  have w2 : nI q + nI 2 = nI (q + 2) := nI_add q 2
  have nu10 := ar_1 hT 10 y q tk q y q nm hy (Or.inr (Or.inl rfl)) hq
  obtain ⟨x10, f10⟩ := ar_177 n BR q tk y nm (by omega) (nuO 10 c (y - q) q 0) (fun x h => nuO_l _ _ _ _ _ _ (by omega) h)
  unfold nuT
  by_cases l1 : y - q ≤ 1
  · rw [if_neg (by omega), if_neg (by omega), if_neg (by omega)]
    refine ⟨x10, ?_⟩
    have l2 : ¬ y - q = 2 := by omega
    rw [← f10]
    by_cases z0 : c q = 48
    · rw [z0] at t
      simp (disch := (first | assumption | decide | omega)) only [df_X13_digits, df_X13_digits_0, df_X13_digits_28, df_X13_digits_58, df_X13_digits_59, df_X13_digits_105, df_X13_digits_135, df_X13_digits_163, uR_i0, uR_i7, uR_i8, uR_i9, uR_i10, uR_i11, uR_r, uR_w7, uR_w8, uR_w9, uR_w10, uR_w11, w, t, nu10, eq_self, Nat.reduceEqDiff, Nat.reduceLeDiff, nl_0, nl_1, nl_2, nl_3, nl_8, nl_9, nl_10, nl_11, nl_16, nl_48, nl_98, nl_102, nl_120, nl_32772, no_1, no_1024, pk_mul, nI_add, nm_ck, nI_clamp, nI_ltI, nI_leI, nI_eq, nb_b2, nb_b1, ↓nb_let, nm_z0, nm_z1, nb_II, nb_IR, nb_RI, nb_RR, nm_IL, nm_IQ, nm_RL, nm_RQ, nm_LI, nm_LR, nm_LL, nm_LQ, nm_QI, nm_QR, nm_QL, nm_QQ, nm_rr, nm_ii, nm_eqm, not_false_eq_true, pk_sub, nm_div, nm_shl, nm_shr, nm_ush, nm_or8, nm_or64, nm_or256, nm_m1, nm_m3, nm_m7, nm_m15, nm_m31, nm_m63, nm_m255, nm_m511, nm_m1023, nm_m2047, nm_m65535, Nat.reduceMod, Nat.reducePow, Nat.reduceAdd, Nat.reduceSub, Nat.reduceMul, nm_bo, nm_bi, nm_rc, nm_ic, nm_ri, nm_rl, nm_rq, nm_ql, nm_qi, nm_li, nm_us, nm_uu, nm_cp, nm_sa31, nm_sa7, nm_m127, nm_m2, nm_nz, nm_nzk, nm_eq32, nm_nzf, if_true, if_false, ↓reduceIte, if_pos, if_neg]
    · simp (disch := (first | assumption | decide | omega)) only [df_X13_digits, df_X13_digits_0, df_X13_digits_28, df_X13_digits_58, df_X13_digits_59, df_X13_digits_105, df_X13_digits_135, df_X13_digits_163, uR_i0, uR_i7, uR_i8, uR_i9, uR_i10, uR_i11, uR_r, uR_w7, uR_w8, uR_w9, uR_w10, uR_w11, w, t, nu10, z0, eq_self, Nat.reduceEqDiff, Nat.reduceLeDiff, nl_0, nl_1, nl_2, nl_3, nl_8, nl_9, nl_10, nl_11, nl_16, nl_48, nl_98, nl_102, nl_120, nl_32772, no_1, no_1024, pk_mul, nI_add, nm_ck, nI_clamp, nI_ltI, nI_leI, nI_eq, nb_b2, nb_b1, ↓nb_let, nm_z0, nm_z1, nb_II, nb_IR, nb_RI, nb_RR, nm_IL, nm_IQ, nm_RL, nm_RQ, nm_LI, nm_LR, nm_LL, nm_LQ, nm_QI, nm_QR, nm_QL, nm_QQ, nm_rr, nm_ii, nm_eqm, not_false_eq_true, pk_sub, nm_div, nm_shl, nm_shr, nm_ush, nm_or8, nm_or64, nm_or256, nm_m1, nm_m3, nm_m7, nm_m15, nm_m31, nm_m63, nm_m255, nm_m511, nm_m1023, nm_m2047, nm_m65535, Nat.reduceMod, Nat.reducePow, Nat.reduceAdd, Nat.reduceSub, Nat.reduceMul, nm_bo, nm_bi, nm_rc, nm_ic, nm_ri, nm_rl, nm_rq, nm_ql, nm_qi, nm_li, nm_us, nm_uu, nm_cp, nm_sa31, nm_sa7, nm_m127, nm_m2, nm_nz, nm_nzk, nm_eq32, nm_nzf, if_true, if_false, ↓reduceIte, if_pos, if_neg]
  · have t1 := htR (q + 1) (by omega)
    have r127 := h127 (q + 1)
    by_cases l2 : y - q = 2
    · by_cases nr : c (q + 1) = 102 ∨ c (q + 1) = 98
      · rw [if_pos ⟨l2, nr⟩]
        refine ⟨0, ?_⟩
        have sb : nI (c q) - nI 48 = nI (c q - 48) := pk_sub (by omega)
        rcases nr with nr | nr
        · rw [nr] at t1
          simp (disch := (first | assumption | decide | omega)) only [df_X13_digits, df_X13_digits_0, df_X13_digits_28, df_X13_digits_54, df_X13_digits_59, uR_i0, uR_i7, uR_i8, uR_i9, uR_i10, uR_i11, uR_r, uR_w7, uR_w8, uR_w9, uR_w10, uR_w11, w, t1, t, sb, l2, eq_self, Nat.reduceEqDiff, Nat.reduceLeDiff, nl_0, nl_1, nl_2, nl_3, nl_8, nl_9, nl_10, nl_11, nl_48, nl_98, nl_102, nl_32772, no_1, no_1024, pk_mul, nI_add, nm_ck, nI_clamp, nI_ltI, nI_leI, nI_eq, nb_b2, nb_b1, ↓nb_let, nm_z0, nm_z1, nb_II, nb_IR, nb_RI, nb_RR, nm_IL, nm_IQ, nm_RL, nm_RQ, nm_LI, nm_LR, nm_LL, nm_LQ, nm_QI, nm_QR, nm_QL, nm_QQ, nm_rr, nm_ii, nm_eqm, not_false_eq_true, pk_sub, nm_div, nm_shl, nm_shr, nm_ush, nm_or8, nm_or64, nm_or256, nm_m1, nm_m3, nm_m7, nm_m15, nm_m31, nm_m63, nm_m255, nm_m511, nm_m1023, nm_m2047, nm_m65535, Nat.reduceMod, Nat.reducePow, Nat.reduceAdd, Nat.reduceSub, Nat.reduceMul, nm_bo, nm_bi, nm_rc, nm_ic, nm_ri, nm_rl, nm_rq, nm_ql, nm_qi, nm_li, nm_us, nm_uu, nm_cp, nm_sa31, nm_sa7, nm_m127, nm_m2, nm_nz, nm_nzk, nm_eq32, nm_nzf, if_true, if_false, ↓reduceIte, if_pos, if_neg]
          rfl
        · rw [nr] at t1
          simp (disch := (first | assumption | decide | omega)) only [df_X13_digits, df_X13_digits_0, df_X13_digits_28, df_X13_digits_54, df_X13_digits_59, uR_i0, uR_i7, uR_i8, uR_i9, uR_i10, uR_i11, uR_r, uR_w7, uR_w8, uR_w9, uR_w10, uR_w11, w, t1, t, sb, l2, eq_self, Nat.reduceEqDiff, Nat.reduceLeDiff, nl_0, nl_1, nl_2, nl_3, nl_8, nl_9, nl_10, nl_11, nl_48, nl_98, nl_102, nl_32772, no_1, no_1024, pk_mul, nI_add, nm_ck, nI_clamp, nI_ltI, nI_leI, nI_eq, nb_b2, nb_b1, ↓nb_let, nm_z0, nm_z1, nb_II, nb_IR, nb_RI, nb_RR, nm_IL, nm_IQ, nm_RL, nm_RQ, nm_LI, nm_LR, nm_LL, nm_LQ, nm_QI, nm_QR, nm_QL, nm_QQ, nm_rr, nm_ii, nm_eqm, not_false_eq_true, pk_sub, nm_div, nm_shl, nm_shr, nm_ush, nm_or8, nm_or64, nm_or256, nm_m1, nm_m3, nm_m7, nm_m15, nm_m31, nm_m63, nm_m255, nm_m511, nm_m1023, nm_m2047, nm_m65535, Nat.reduceMod, Nat.reducePow, Nat.reduceAdd, Nat.reduceSub, Nat.reduceMul, nm_bo, nm_bi, nm_rc, nm_ic, nm_ri, nm_rl, nm_rq, nm_ql, nm_qi, nm_li, nm_us, nm_uu, nm_cp, nm_sa31, nm_sa7, nm_m127, nm_m2, nm_nz, nm_nzk, nm_eq32, nm_nzf, if_true, if_false, ↓reduceIte, if_pos, if_neg]
          rfl
      · rw [if_neg (fun z => nr z.2), if_neg (by omega), if_neg (by omega)]
        have n1 : ¬ c (q + 1) = 102 := fun z => nr (Or.inl z)
        have n2 : ¬ c (q + 1) = 98 := fun z => nr (Or.inr z)
        by_cases z0 : c q = 48
        · rw [z0] at t
          by_cases x1 : c (q + 1) = 120
          · -- 0x alone
            rw [x1] at t1
            have e2 : q + 2 = y := by omega
            have m0 := ar_0 hT 16 y q tk q y nm hy
            obtain ⟨x0, f0⟩ := ar_177 n BR q tk y nm (by omega) none (fun x h => nomatch h)
            have f0 : df_X13_digits_177 n (-1) (uR BR q tk q y nm) = some (uR BR q 5 q q x0) := f0
            have v0 : nuO 10 c (y - q) q 0 = none := by
              rw [l2]
              show (if dgv (c q) < 10 ∧ 0 * 10 + dgv (c q) < 2 ^ 32 then (if dgv (c (q + 1)) < 10 ∧ (0 * 10 + dgv (c q)) * 10 + dgv (c (q + 1)) < 2 ^ 32 then nuO 10 c 0 (q + 1 + 1) ((0 * 10 + dgv (c q)) * 10 + dgv (c (q + 1))) else none) else none) = none
              have g : dgv (c (q + 1)) = 99 := by rw [x1]; rfl
              rw [if_neg (show ¬ (dgv (c (q + 1)) < 10 ∧ (0 * 10 + dgv (c q)) * 10 + dgv (c (q + 1)) < 2 ^ 32) by rw [g]; omega)]
              split <;> rfl
            refine ⟨x0, ?_⟩
            rw [v0]
            show df_X13_digits n (uR BR q tk q y nm) = some (uR BR q 5 q q x0)
            rw [← f0]
            simp (disch := (first | assumption | decide | omega)) only [df_X13_digits, df_X13_digits_0, df_X13_digits_28, df_X13_digits_58, df_X13_digits_59, df_X13_digits_105, uR_i0, uR_i7, uR_i8, uR_i9, uR_i10, uR_i11, uR_r, uR_w7, uR_w8, uR_w9, uR_w10, uR_w11, w, t1, t, l2, w2, e2, m0, eq_self, Nat.reduceEqDiff, Nat.reduceLeDiff, nl_0, nl_1, nl_2, nl_3, nl_8, nl_9, nl_10, nl_11, nl_16, nl_48, nl_98, nl_102, nl_120, nl_32772, no_1, no_1024, pk_mul, nI_add, nm_ck, nI_clamp, nI_ltI, nI_leI, nI_eq, nb_b2, nb_b1, ↓nb_let, nm_z0, nm_z1, nb_II, nb_IR, nb_RI, nb_RR, nm_IL, nm_IQ, nm_RL, nm_RQ, nm_LI, nm_LR, nm_LL, nm_LQ, nm_QI, nm_QR, nm_QL, nm_QQ, nm_rr, nm_ii, nm_eqm, not_false_eq_true, pk_sub, nm_div, nm_shl, nm_shr, nm_ush, nm_or8, nm_or64, nm_or256, nm_m1, nm_m3, nm_m7, nm_m15, nm_m31, nm_m63, nm_m255, nm_m511, nm_m1023, nm_m2047, nm_m65535, Nat.reduceMod, Nat.reducePow, Nat.reduceAdd, Nat.reduceSub, Nat.reduceMul, nm_bo, nm_bi, nm_rc, nm_ic, nm_ri, nm_rl, nm_rq, nm_ql, nm_qi, nm_li, nm_us, nm_uu, nm_cp, nm_sa31, nm_sa7, nm_m127, nm_m2, nm_nz, nm_nzk, nm_eq32, nm_nzf, if_true, if_false, ↓reduceIte, if_pos, if_neg]
          · refine ⟨x10, ?_⟩
            rw [← f10]
            simp (disch := (first | assumption | decide | omega)) only [df_X13_digits, df_X13_digits_0, df_X13_digits_28, df_X13_digits_58, df_X13_digits_59, df_X13_digits_105, df_X13_digits_135, df_X13_digits_163, uR_i0, uR_i7, uR_i8, uR_i9, uR_i10, uR_i11, uR_r, uR_w7, uR_w8, uR_w9, uR_w10, uR_w11, w, t1, t, nu10, l2, n1, n2, x1, eq_self, Nat.reduceEqDiff, Nat.reduceLeDiff, nl_0, nl_1, nl_2, nl_3, nl_8, nl_9, nl_10, nl_11, nl_16, nl_48, nl_98, nl_102, nl_120, nl_32772, no_1, no_1024, pk_mul, nI_add, nm_ck, nI_clamp, nI_ltI, nI_leI, nI_eq, nb_b2, nb_b1, ↓nb_let, nm_z0, nm_z1, nb_II, nb_IR, nb_RI, nb_RR, nm_IL, nm_IQ, nm_RL, nm_RQ, nm_LI, nm_LR, nm_LL, nm_LQ, nm_QI, nm_QR, nm_QL, nm_QQ, nm_rr, nm_ii, nm_eqm, not_false_eq_true, pk_sub, nm_div, nm_shl, nm_shr, nm_ush, nm_or8, nm_or64, nm_or256, nm_m1, nm_m3, nm_m7, nm_m15, nm_m31, nm_m63, nm_m255, nm_m511, nm_m1023, nm_m2047, nm_m65535, Nat.reduceMod, Nat.reducePow, Nat.reduceAdd, Nat.reduceSub, Nat.reduceMul, nm_bo, nm_bi, nm_rc, nm_ic, nm_ri, nm_rl, nm_rq, nm_ql, nm_qi, nm_li, nm_us, nm_uu, nm_cp, nm_sa31, nm_sa7, nm_m127, nm_m2, nm_nz, nm_nzk, nm_eq32, nm_nzf, if_true, if_false, ↓reduceIte, if_pos, if_neg]
        · refine ⟨x10, ?_⟩
          rw [← f10]
          simp (disch := (first | assumption | decide | omega)) only [df_X13_digits, df_X13_digits_0, df_X13_digits_28, df_X13_digits_58, df_X13_digits_59, df_X13_digits_105, df_X13_digits_135, df_X13_digits_163, uR_i0, uR_i7, uR_i8, uR_i9, uR_i10, uR_i11, uR_r, uR_w7, uR_w8, uR_w9, uR_w10, uR_w11, w, t1, t, nu10, l2, n1, n2, z0, eq_self, Nat.reduceEqDiff, Nat.reduceLeDiff, nl_0, nl_1, nl_2, nl_3, nl_8, nl_9, nl_10, nl_11, nl_16, nl_48, nl_98, nl_102, nl_120, nl_32772, no_1, no_1024, pk_mul, nI_add, nm_ck, nI_clamp, nI_ltI, nI_leI, nI_eq, nb_b2, nb_b1, ↓nb_let, nm_z0, nm_z1, nb_II, nb_IR, nb_RI, nb_RR, nm_IL, nm_IQ, nm_RL, nm_RQ, nm_LI, nm_LR, nm_LL, nm_LQ, nm_QI, nm_QR, nm_QL, nm_QQ, nm_rr, nm_ii, nm_eqm, not_false_eq_true, pk_sub, nm_div, nm_shl, nm_shr, nm_ush, nm_or8, nm_or64, nm_or256, nm_m1, nm_m3, nm_m7, nm_m15, nm_m31, nm_m63, nm_m255, nm_m511, nm_m1023, nm_m2047, nm_m65535, Nat.reduceMod, Nat.reducePow, Nat.reduceAdd, Nat.reduceSub, Nat.reduceMul, nm_bo, nm_bi, nm_rc, nm_ic, nm_ri, nm_rl, nm_rq, nm_ql, nm_qi, nm_li, nm_us, nm_uu, nm_cp, nm_sa31, nm_sa7, nm_m127, nm_m2, nm_nz, nm_nzk, nm_eq32, nm_nzf, if_true, if_false, ↓reduceIte, if_pos, if_neg]
    · rw [if_neg (fun z => l2 z.1)]
      by_cases z0 : c q = 48
      · rw [z0] at t
        by_cases x1 : c (q + 1) = 120
        · rw [if_pos ⟨by omega, z0, x1⟩]
          have nu := ar_1 hT 16 y q tk q y (q + 2) nm hy (Or.inr (Or.inr rfl)) (by omega)
          obtain ⟨x16, f16⟩ := ar_177 n BR q tk y nm (by omega) (nuO 16 c (y - (q + 2)) (q + 2) 0) (fun x h => nuO_l _ _ _ _ _ _ (by omega) h)
          refine ⟨x16, ?_⟩
          rw [← f16]
          rw [x1] at t1
          simp (disch := (first | assumption | decide | omega)) only [df_X13_digits, df_X13_digits_0, df_X13_digits_28, df_X13_digits_58, df_X13_digits_59, df_X13_digits_105, uR_i0, uR_i7, uR_i8, uR_i9, uR_i10, uR_i11, uR_r, uR_w7, uR_w8, uR_w9, uR_w10, uR_w11, w, t1, t, l2, w2, nu, eq_self, Nat.reduceEqDiff, Nat.reduceLeDiff, nl_0, nl_1, nl_2, nl_3, nl_8, nl_9, nl_10, nl_11, nl_16, nl_48, nl_98, nl_102, nl_120, nl_32772, no_1, no_1024, pk_mul, nI_add, nm_ck, nI_clamp, nI_ltI, nI_leI, nI_eq, nb_b2, nb_b1, ↓nb_let, nm_z0, nm_z1, nb_II, nb_IR, nb_RI, nb_RR, nm_IL, nm_IQ, nm_RL, nm_RQ, nm_LI, nm_LR, nm_LL, nm_LQ, nm_QI, nm_QR, nm_QL, nm_QQ, nm_rr, nm_ii, nm_eqm, not_false_eq_true, pk_sub, nm_div, nm_shl, nm_shr, nm_ush, nm_or8, nm_or64, nm_or256, nm_m1, nm_m3, nm_m7, nm_m15, nm_m31, nm_m63, nm_m255, nm_m511, nm_m1023, nm_m2047, nm_m65535, Nat.reduceMod, Nat.reducePow, Nat.reduceAdd, Nat.reduceSub, Nat.reduceMul, nm_bo, nm_bi, nm_rc, nm_ic, nm_ri, nm_rl, nm_rq, nm_ql, nm_qi, nm_li, nm_us, nm_uu, nm_cp, nm_sa31, nm_sa7, nm_m127, nm_m2, nm_nz, nm_nzk, nm_eq32, nm_nzf, if_true, if_false, ↓reduceIte, if_pos, if_neg]
        · rw [if_neg (fun z => x1 z.2.2)]
          by_cases b1 : c (q + 1) = 98
          · rw [if_pos ⟨by omega, z0, b1⟩]
            have nu := ar_1 hT 2 y q tk q y (q + 2) nm hy (Or.inl rfl) (by omega)
            obtain ⟨x2, f2⟩ := ar_177 n BR q tk y nm (by omega) (nuO 2 c (y - (q + 2)) (q + 2) 0) (fun x h => nuO_l _ _ _ _ _ _ (by omega) h)
            refine ⟨x2, ?_⟩
            rw [← f2]
            rw [b1] at t1
            simp (disch := (first | assumption | decide | omega)) only [df_X13_digits, df_X13_digits_0, df_X13_digits_28, df_X13_digits_58, df_X13_digits_59, df_X13_digits_105, df_X13_digits_135, uR_i0, uR_i7, uR_i8, uR_i9, uR_i10, uR_i11, uR_r, uR_w7, uR_w8, uR_w9, uR_w10, uR_w11, w, t1, t, l2, w2, nu, eq_self, Nat.reduceEqDiff, Nat.reduceLeDiff, nl_0, nl_1, nl_2, nl_3, nl_8, nl_9, nl_10, nl_11, nl_16, nl_48, nl_98, nl_102, nl_120, nl_32772, no_1, no_1024, pk_mul, nI_add, nm_ck, nI_clamp, nI_ltI, nI_leI, nI_eq, nb_b2, nb_b1, ↓nb_let, nm_z0, nm_z1, nb_II, nb_IR, nb_RI, nb_RR, nm_IL, nm_IQ, nm_RL, nm_RQ, nm_LI, nm_LR, nm_LL, nm_LQ, nm_QI, nm_QR, nm_QL, nm_QQ, nm_rr, nm_ii, nm_eqm, not_false_eq_true, pk_sub, nm_div, nm_shl, nm_shr, nm_ush, nm_or8, nm_or64, nm_or256, nm_m1, nm_m3, nm_m7, nm_m15, nm_m31, nm_m63, nm_m255, nm_m511, nm_m1023, nm_m2047, nm_m65535, Nat.reduceMod, Nat.reducePow, Nat.reduceAdd, Nat.reduceSub, Nat.reduceMul, nm_bo, nm_bi, nm_rc, nm_ic, nm_ri, nm_rl, nm_rq, nm_ql, nm_qi, nm_li, nm_us, nm_uu, nm_cp, nm_sa31, nm_sa7, nm_m127, nm_m2, nm_nz, nm_nzk, nm_eq32, nm_nzf, if_true, if_false, ↓reduceIte, if_pos, if_neg]
          · rw [if_neg (fun z => b1 z.2.2)]
            refine ⟨x10, ?_⟩
            rw [← f10]
            simp (disch := (first | assumption | decide | omega)) only [df_X13_digits, df_X13_digits_0, df_X13_digits_28, df_X13_digits_58, df_X13_digits_59, df_X13_digits_105, df_X13_digits_135, df_X13_digits_163, uR_i0, uR_i7, uR_i8, uR_i9, uR_i10, uR_i11, uR_r, uR_w7, uR_w8, uR_w9, uR_w10, uR_w11, w, t1, t, nu10, l2, x1, b1, eq_self, Nat.reduceEqDiff, Nat.reduceLeDiff, nl_0, nl_1, nl_2, nl_3, nl_8, nl_9, nl_10, nl_11, nl_16, nl_48, nl_98, nl_102, nl_120, nl_32772, no_1, no_1024, pk_mul, nI_add, nm_ck, nI_clamp, nI_ltI, nI_leI, nI_eq, nb_b2, nb_b1, ↓nb_let, nm_z0, nm_z1, nb_II, nb_IR, nb_RI, nb_RR, nm_IL, nm_IQ, nm_RL, nm_RQ, nm_LI, nm_LR, nm_LL, nm_LQ, nm_QI, nm_QR, nm_QL, nm_QQ, nm_rr, nm_ii, nm_eqm, not_false_eq_true, pk_sub, nm_div, nm_shl, nm_shr, nm_ush, nm_or8, nm_or64, nm_or256, nm_m1, nm_m3, nm_m7, nm_m15, nm_m31, nm_m63, nm_m255, nm_m511, nm_m1023, nm_m2047, nm_m65535, Nat.reduceMod, Nat.reducePow, Nat.reduceAdd, Nat.reduceSub, Nat.reduceMul, nm_bo, nm_bi, nm_rc, nm_ic, nm_ri, nm_rl, nm_rq, nm_ql, nm_qi, nm_li, nm_us, nm_uu, nm_cp, nm_sa31, nm_sa7, nm_m127, nm_m2, nm_nz, nm_nzk, nm_eq32, nm_nzf, if_true, if_false, ↓reduceIte, if_pos, if_neg]
      · rw [if_neg (fun z => z0 z.2.1), if_neg (fun z => z0 z.2.1)]
        refine ⟨x10, ?_⟩
        rw [← f10]
        simp (disch := (first | assumption | decide | omega)) only [df_X13_digits, df_X13_digits_0, df_X13_digits_28, df_X13_digits_58, df_X13_digits_59, df_X13_digits_105, df_X13_digits_135, df_X13_digits_163, uR_i0, uR_i7, uR_i8, uR_i9, uR_i10, uR_i11, uR_r, uR_w7, uR_w8, uR_w9, uR_w10, uR_w11, w, t1, t, nu10, l2, z0, eq_self, Nat.reduceEqDiff, Nat.reduceLeDiff, nl_0, nl_1, nl_2, nl_3, nl_8, nl_9, nl_10, nl_11, nl_16, nl_48, nl_98, nl_102, nl_120, nl_32772, no_1, no_1024, pk_mul, nI_add, nm_ck, nI_clamp, nI_ltI, nI_leI, nI_eq, nb_b2, nb_b1, ↓nb_let, nm_z0, nm_z1, nb_II, nb_IR, nb_RI, nb_RR, nm_IL, nm_IQ, nm_RL, nm_RQ, nm_LI, nm_LR, nm_LL, nm_LQ, nm_QI, nm_QR, nm_QL, nm_QQ, nm_rr, nm_ii, nm_eqm, not_false_eq_true, pk_sub, nm_div, nm_shl, nm_shr, nm_ush, nm_or8, nm_or64, nm_or256, nm_m1, nm_m3, nm_m7, nm_m15, nm_m31, nm_m63, nm_m255, nm_m511, nm_m1023, nm_m2047, nm_m65535, Nat.reduceMod, Nat.reducePow, Nat.reduceAdd, Nat.reduceSub, Nat.reduceMul, nm_bo, nm_bi, nm_rc, nm_ic, nm_ri, nm_rl, nm_rq, nm_ql, nm_qi, nm_li, nm_us, nm_uu, nm_cp, nm_sa31, nm_sa7, nm_m127, nm_m2, nm_nz, nm_nzk, nm_eq32, nm_nzf, if_true, if_false, ↓reduceIte, if_pos, if_neg]
theorem as_D {n L e : Nat} {c : Nat → Nat} {BC BR : St} (hT : atx n L e c BC BR) {G : St → Option St} (q tk fr to : Nat) (nm : Int32) (hq : q < e) (hd : aD (c q) = true) : ∃ x' : Int32, dF_X13_scan_0 n G (uR BR q tk fr to nm) = some (rW BR (eT c e q) (eT c e q) q x' (nuT c q (eT c e q))) := by
  have h127 := hT.2.2.2.1 q
  have hL := hT.2.1
  have heL := hT.2.2.1
  have d9 := aD_v.mp hd
  rw [as_0 hT q tk fr to nm (Nat.le_of_lt hq) (by omega), if_neg (show ¬ (c q = 10 ∨ c q = 35) by omega), if_pos hd]
  have pl := pl_13 hT q q tk q (q + 1) nm (Nat.le_of_lt hq)
  have e0 := eT_p c hq (aD_P hd)
  have e2 := (eT_1 c (Nat.le_of_lt hq)).2.1
  generalize eT c e q = y at e0 e2 pl
  obtain ⟨x', dg⟩ := ar_D hT q y tk nm e2 e0 hd
  refine ⟨x', ?_⟩
  cases hv : nuT c q y with
  | none =>
    rw [hv] at dg
    have dg : df_X13_digits n (uR BR q tk q y nm) = some (uR BR q 5 q q x') := dg
    simp (disch := (first | assumption | decide | omega)) only [df_X13_scan_348, uR_i0, uR_i7, uR_i8, uR_i9, uR_i10, uR_i11, uR_r, uR_w7, uR_w8, uR_w9, uR_w10, uR_w11, pl, dg, eq_self, Nat.reduceEqDiff, Nat.reduceLeDiff, nl_7, nl_10, no_1, no_1024, pk_mul, nI_add, nm_ck, nI_clamp, nI_ltI, nI_leI, nI_eq, nb_b2, nb_b1, ↓nb_let, nm_z0, nm_z1, nb_II, nb_IR, nb_RI, nb_RR, nm_IL, nm_IQ, nm_RL, nm_RQ, nm_LI, nm_LR, nm_LL, nm_LQ, nm_QI, nm_QR, nm_QL, nm_QQ, nm_rr, nm_ii, nm_eqm, not_false_eq_true, pk_sub, nm_div, nm_shl, nm_shr, nm_ush, nm_or8, nm_or64, nm_or256, nm_m1, nm_m3, nm_m7, nm_m15, nm_m31, nm_m63, nm_m255, nm_m511, nm_m1023, nm_m2047, nm_m65535, Nat.reduceMod, Nat.reducePow, Nat.reduceAdd, Nat.reduceSub, Nat.reduceMul, nm_bo, nm_bi, nm_rc, nm_ic, nm_ri, nm_rl, nm_rq, nm_ql, nm_qi, nm_li, nm_us, nm_uu, nm_cp, nm_sa31, nm_sa7, nm_m127, nm_m2, nm_nz, nm_nzk, nm_eq32, nm_nzf, if_true, if_false, ↓reduceIte, if_pos, if_neg]
    rfl
  | some v =>
    rw [hv] at dg
    have dg : df_X13_digits n (uR BR q tk q y nm) = some (uR BR q v.1 q y (nI v.2)) := dg
    simp (disch := (first | assumption | decide | omega)) only [df_X13_scan_348, uR_i0, uR_i7, uR_i8, uR_i9, uR_i10, uR_i11, uR_r, uR_w7, uR_w8, uR_w9, uR_w10, uR_w11, pl, dg, eq_self, Nat.reduceEqDiff, Nat.reduceLeDiff, nl_7, nl_10, no_1, no_1024, pk_mul, nI_add, nm_ck, nI_clamp, nI_ltI, nI_leI, nI_eq, nb_b2, nb_b1, ↓nb_let, nm_z0, nm_z1, nb_II, nb_IR, nb_RI, nb_RR, nm_IL, nm_IQ, nm_RL, nm_RQ, nm_LI, nm_LR, nm_LL, nm_LQ, nm_QI, nm_QR, nm_QL, nm_QQ, nm_rr, nm_ii, nm_eqm, not_false_eq_true, pk_sub, nm_div, nm_shl, nm_shr, nm_ush, nm_or8, nm_or64, nm_or256, nm_m1, nm_m3, nm_m7, nm_m15, nm_m31, nm_m63, nm_m255, nm_m511, nm_m1023, nm_m2047, nm_m65535, Nat.reduceMod, Nat.reducePow, Nat.reduceAdd, Nat.reduceSub, Nat.reduceMul, nm_bo, nm_bi, nm_rc, nm_ic, nm_ri, nm_rl, nm_rq, nm_ql, nm_qi, nm_li, nm_us, nm_uu, nm_cp, nm_sa31, nm_sa7, nm_m127, nm_m2, nm_nz, nm_nzk, nm_eq32, nm_nzf, if_true, if_false, ↓reduceIte, if_pos, if_neg]
    rfl
