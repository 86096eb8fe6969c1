/-- letters packed to one number, in the reference -/
theorem zlt {a b : Nat} (h : a < b) (hb : b < 2 ^ 31) : nI a < nI b := (nI_ltI (by omega) hb).mpr h
theorem znl {a b : Nat} (h : b ≤ a) (ha : a < 2 ^ 31) : ¬ nI a < nI b := fun z => by rw [nI_ltI ha (by omega)] at z; omega
theorem zle {a b : Nat} (h : a ≤ b) (hb : b < 2 ^ 31) : nI a ≤ nI b := (nI_leI (by omega) hb).mpr h
theorem znle {a b : Nat} (h : b < a) (ha : a < 2 ^ 31) : ¬ nI a ≤ nI b := fun z => by rw [nI_leI ha (by omega)] at z; omega
theorem zne {a b : Nat} (h : ¬ a = b) (ha : a < 2 ^ 31) (hb : b < 2 ^ 31) : ¬ nI a = nI b := fun z => by rw [nI_eq (by omega) (by omega)] at z; exact h z
def kcd (c : Nat) : Nat := if c = 46 then 37 else if 48 ≤ c ∧ c ≤ 57 then c - 21 else c - 96
def kOK (c : Nat) : Bool := decide (c = 46 ∨ 48 ≤ c ∧ c ≤ 57 ∨ 97 ≤ c ∧ c ≤ 122)
def pkV (c : Nat → Nat) : Nat → Nat → Nat
  | 0, _ => 0
  | j + 1, p => pkV c j (p + 1) * 64 + kcd (c p)
theorem kcd_l {c : Nat} (h : c < 127) : kcd c < 64 := by unfold kcd; split <;> (try split) <;> omega
theorem pkV_l {c : Nat → Nat} (h : ∀ i : Nat, c i < 127) : ∀ d p : Nat, pkV c d p < 64 ^ d := fun d => by
  induction d with
  | zero => intro p; exact Nat.one_pos
  | succ d ih =>
    intro p
    have := ih (p + 1)
    have k := kcd_l (h p)
    show pkV c d (p + 1) * 64 + kcd (c p) < 64 ^ (d + 1)
    rw [Nat.pow_succ]
    omega
theorem pkV_b {c : Nat → Nat} (h : ∀ i : Nat, c i < 127) (d p : Nat) (hd : d ≤ 9) : pkV c d p < 2 ^ 54 := Nat.lt_of_lt_of_le (pkV_l h d p) (Nat.le_trans (Nat.pow_le_pow_right (by omega) hd) (by decide))
theorem sh_64 : (6 : Int64).toBitVec.smod 64 = 6#64 := by decide
theorem pk64 {V d : Nat} (hV : V < 2 ^ 54) (hd : d < 64) : (Int64.ofNat V <<< ((6 : Int32).toInt64 &&& 63)) ||| (nI d).toInt64 = Int64.ofNat (V * 64 + d) := by
  rw [n64 (by omega), show ((6 : Int32).toInt64 &&& 63) = (6 : Int64) by decide]
  apply Int64.toBitVec_inj.mp
  apply BitVec.eq_of_toNat_eq
  rw [Int64.toBitVec_or, Int64.toBitVec_shiftLeft, sh_64, Int64.toBitVec_ofNat', Int64.toBitVec_ofNat', Int64.toBitVec_ofNat', BitVec.toNat_or, BitVec.shiftLeft_eq', BitVec.toNat_shiftLeft, BitVec.toNat_ofNat, BitVec.toNat_ofNat, BitVec.toNat_ofNat, BitVec.toNat_ofNat, Nat.mod_eq_of_lt (show V < 2 ^ 64 by omega), Nat.mod_eq_of_lt (show d < 2 ^ 64 by omega), Nat.mod_eq_of_lt (show V * 64 + d < 2 ^ 64 by omega), show 6 % 2 ^ 64 = 6 from rfl, Nat.shiftLeft_eq, Nat.mod_eq_of_lt (show V * 2 ^ 6 < 2 ^ 64 by omega), ← Nat.shiftLeft_eq, ← Nat.shiftLeft_add_eq_or_of_lt (show d < 2 ^ 6 by omega), Nat.shiftLeft_eq]
theorem p102 (n : Nat) (G : Int32 → Int64 → Int32 → St → Option (Int64 × St)) (q k V d : Nat) (S : St) (hV : V < 2 ^ 54) (hd : d < 64) : df_X13_packed_102 n G (nI q) (nI k) (Int64.ofNat V <<< ((6 : Int32).toInt64 &&& 63)) (nI d) S = G (nI q) (Int64.ofNat (V * 64 + d)) (nI k - 1) S := by
  unfold df_X13_packed_102
  rw [nb_let, nb_let, pk64 hV hd, Int32.sub_eq_add_neg, show Int32.ofInt (-1) = -(1 : Int32) by decide]
theorem p46 (n : Nat) (G : Int32 → Int64 → Int32 → St → Option (Int64 × St)) (q k V c : Nat) (S : St) (hV : V < 2 ^ 54) (hc : c < 127) (hp : aP c = true) (hA : ¬ (65 ≤ c ∧ c ≤ 90)) : df_X13_packed_46 n G (nI q) (Int64.ofNat V) (nI k) (nI c) S = if kOK c = true then G (nI q) (Int64.ofNat (V * 64 + kcd c)) (nI k - 1) S else some (0, S) := by
  have ip := id_13 n (c := c) (by omega)
  unfold df_X13_packed_46 df_X13_packed_60
  by_cases y1 : c = 95
  · subst y1
    rw [if_pos (show nI 95 = (95 : Int32) from rfl)]; rfl
  rw [if_neg (show ¬ nI c = (95 : Int32) from zne (b := 95) y1 (by omega) (by omega))]
  by_cases y2 : c = 36
  · subst y2
    rw [if_pos (show nI 36 = (36 : Int32) from rfl)]; rfl
  rw [if_neg (show ¬ nI c = (36 : Int32) from zne (b := 36) y2 (by omega) (by omega))]
  by_cases y3 : c = 46
  · subst y3
    rw [if_pos (show nI 46 = (46 : Int32) from rfl), show (37 : Int32) = nI 37 from rfl, p102 n G q k V 37 S hV (by omega)]
    rfl
  rw [if_neg (show ¬ nI c = (46 : Int32) from zne (b := 46) y3 (by omega) (by omega)), ip, nb_b2]
  by_cases y4 : 48 ≤ c ∧ c ≤ 57
  · have d1 : aD c = true := aD_v.mpr y4
    have ok : kOK c = true := decide_eq_true (Or.inr (Or.inl y4))
    have ek : kcd c = c - 21 := by unfold kcd; rw [if_neg y3, if_pos y4]
    rw [d1, if_neg (show ¬ bI true = 0 by decide), if_pos ok, ek, show ((27 : Int32) + nI c) - 48 = nI (c - 21) by rw [show (27 : Int32) = nI 27 from rfl, show (48 : Int32) = nI 48 from rfl, nI_add, pk_sub (by omega)]; exact congrArg nI (by omega), p102 n G q k V (c - 21) S hV (by omega)]
  · have d1 : aD c = false := by
      cases hh : aD c with
      | true => exact absurd (aD_v.mp hh) y4
      | false => rfl
    have l1 : 97 ≤ c ∧ c ≤ 122 := by
      unfold aP at hp
      rw [d1, Bool.false_or] at hp
      cases hh : aL c with
      | true =>
        have hh : 97 ≤ c ∧ c ≤ 122 ∨ 65 ≤ c ∧ c ≤ 90 := of_decide_eq_true hh
        omega
      | false =>
        rw [hh, Bool.false_or] at hp
        have hp := of_decide_eq_true hp
        omega
    have ok : kOK c = true := decide_eq_true (Or.inr (Or.inr l1))
    have ek : kcd c = c - 96 := by unfold kcd; rw [if_neg y3, if_neg y4]
    rw [d1, if_pos (show bI false = 0 from rfl), if_pos ok, ek, show nI c - (96 : Int32) = nI (c - 96) by rw [show (96 : Int32) = nI 96 from rfl, pk_sub (by omega)], p102 n G q k V (c - 96) S hV (by omega)]
theorem pk_l (n : Nat) {S : St} {c : Nat → Nat} (q : Nat) (h127 : ∀ i : Nat, c i < 127) : ∀ j d g : Nat, j + d ≤ 10 → j < g → q + j ≤ 32768 → (∀ i : Nat, i < j → aP (c (q + i)) = true ∧ sR S 2 (q + i) = nI (c (q + i))) → df_X13_packed_17 n g (nI q) (Int64.ofNat (pkV c d (q + j))) (nI (q + j) - 1) S = some (if ∀ i : Nat, i < j → kOK (c (q + i)) = true then Int64.ofNat (pkV c (d + j) q) else 0, S) := fun j => by
  induction j with
  | zero =>
    intro d g a1 a2 a3 a4
    obtain ⟨g, rfl⟩ : ∃ m : Nat, g = m + 1 := ⟨g - 1, by omega⟩
    rw [if_pos (fun i hi => absurd hi (Nat.not_lt_zero i))]
    show dF_X13_packed_17 n (df_X13_packed_17 n g) (nI q) (Int64.ofNat (pkV c d q)) (nI q - 1) S = _
    unfold dF_X13_packed_17
    rw [if_pos (show nI q - 1 < nI q by
      rw [Int32.lt_iff_toInt_lt, show (1 : Int32) = nI 1 from rfl, pk_sub_toInt (by omega) (by omega), nI_toInt (by omega)]
      omega)]
    rfl
  | succ j ih =>
    intro d g a1 a2 a3 a4
    obtain ⟨g, rfl⟩ : ∃ m : Nat, g = m + 1 := ⟨g - 1, by omega⟩
    obtain ⟨hp, hs⟩ := a4 j (by omega)
    have cl := h127 (q + j)
    have V := pkV_b h127 d (q + j + 1) (by omega)
    rw [show nI (q + (j + 1)) - (1 : Int32) = nI (q + j) by rw [show (1 : Int32) = nI 1 from rfl, pk_sub (by omega)]; rfl]
    show dF_X13_packed_17 n (df_X13_packed_17 n g) (nI q) (Int64.ofNat (pkV c d (q + j + 1))) (nI (q + j)) S = _
    unfold dF_X13_packed_17
    rw [if_neg (show ¬ nI (q + j) < nI q from znl (by omega) (by omega)), nm_ck (by omega) (by omega), nI_clamp (by omega), hs, nb_let]
    have stop : kOK (c (q + j)) = false → (if ∀ i : Nat, i < j + 1 → kOK (c (q + i)) = true then Int64.ofNat (pkV c (d + (j + 1)) q) else 0) = (0 : Int64) := fun z => if_neg (fun w => by
      have := w j (by omega)
      rw [z] at this
      exact absurd this (by decide))
    by_cases hA : 65 ≤ c (q + j) ∧ c (q + j) ≤ 90
    · rw [if_neg (show ¬ nI (c (q + j)) < (65 : Int32) from znl (b := 65) hA.1 (by omega)), if_pos (show nI (c (q + j)) ≤ (90 : Int32) from zle (b := 90) hA.2 (by omega)), stop (decide_eq_false (by omega))]
      rfl
    have e : (if nI (c (q + j)) < (65 : Int32) then df_X13_packed_46 n (df_X13_packed_17 n g) (nI q) (Int64.ofNat (pkV c d (q + j + 1))) (nI (q + j)) (nI (c (q + j))) S else if nI (c (q + j)) ≤ (90 : Int32) then df_X13_packed_60 n S else df_X13_packed_46 n (df_X13_packed_17 n g) (nI q) (Int64.ofNat (pkV c d (q + j + 1))) (nI (q + j)) (nI (c (q + j))) S) = df_X13_packed_46 n (df_X13_packed_17 n g) (nI q) (Int64.ofNat (pkV c d (q + j + 1))) (nI (q + j)) (nI (c (q + j))) S := by
      by_cases z : c (q + j) < 65
      · rw [if_pos (show nI (c (q + j)) < (65 : Int32) from zlt (b := 65) z (by omega))]
      · rw [if_neg (show ¬ nI (c (q + j)) < (65 : Int32) from znl (b := 65) (by omega) (by omega)), if_neg (show ¬ nI (c (q + j)) ≤ (90 : Int32) from znle (b := 90) (by omega) (by omega))]
    rw [e, p46 n _ q (q + j) _ (c (q + j)) S V cl hp hA]
    cases hk : kOK (c (q + j)) with
    | false =>
      rw [if_neg (by decide), stop hk]
    | true =>
      rw [if_pos rfl]
      have r := ih (d + 1) g (by omega) (by omega) (by omega) (fun i hi => a4 i (by omega))
      refine Eq.trans (show _ = df_X13_packed_17 n g (nI q) (Int64.ofNat (pkV c (d + 1) (q + j))) (nI (q + j) - 1) S from rfl) (Eq.trans r ?_)
      rw [show d + 1 + j = d + (j + 1) by omega]
      by_cases z : ∀ i : Nat, i < j → kOK (c (q + i)) = true
      · rw [if_pos z, if_pos (fun i hi => by
          by_cases w : i = j
          · rw [w]; exact hk
          · exact z i (by omega))]
      · rw [if_neg z, if_neg (fun w => z (fun i hi => w i (by omega)))]
def pkO (c : Nat → Nat) (q l : Nat) : Int64 := if l ≤ 10 then (if ∀ i : Nat, i < l → kOK (c (q + i)) = true then Int64.ofNat (pkV c l q) else 0) else 0
theorem pk_1 (n : Nat) {S : St} {c : Nat → Nat} (q l : Nat) (hn : 20 < n) (h127 : ∀ i : Nat, c i < 127) (hl : q + l ≤ 32768) (hP : ∀ i : Nat, i < l → aP (c (q + i)) = true ∧ sR S 2 (q + i) = nI (c (q + i))) : df_X13_packed n (nI q) (nI (q + l)) S = some (pkO c q l, S) := by
  unfold df_X13_packed df_X13_packed_0 pkO
  rw [pk_sub (by omega), show q + l - q = l by omega]
  by_cases y : l ≤ 10
  · have r := pk_l n (S := S) q h127 l 0 n (by omega) (by omega) hl hP
    rw [if_pos (show nI l ≤ (10 : Int32) from zle (b := 10) y (by omega)), nb_let, if_pos y]
    rw [Nat.zero_add] at r
    exact r
  · rw [if_neg (show ¬ nI l ≤ (10 : Int32) from znle (b := 10) (by omega) (by omega)), if_neg y]
/-- packing loses nothing -/
theorem kcd_p {c : Nat} (h : kOK c = true) : 1 ≤ kcd c ∧ kcd c ≤ 37 := by
  have h := of_decide_eq_true h
  unfold kcd
  split
  · omega
  · split <;> omega
theorem kcd_j {a b : Nat} (ha : kOK a = true) (hb : kOK b = true) (h : kcd a = kcd b) : a = b := by
  have ha := of_decide_eq_true ha
  have hb := of_decide_eq_true hb
  unfold kcd at h
  split at h <;> split at h <;> (try split at h) <;> (try split at h) <;> omega
theorem pkV_j : ∀ (l m : Nat) (c d : Nat → Nat) (p q : Nat), (∀ i : Nat, i < l → kOK (c (p + i)) = true) → (∀ i : Nat, i < m → kOK (d (q + i)) = true) → pkV c l p = pkV d m q → l = m ∧ ∀ i : Nat, i < l → c (p + i) = d (q + i) := fun l => by
  induction l with
  | zero =>
    intro m c d p q h1 h2 h
    cases m with
    | zero => exact ⟨rfl, fun i hi => absurd hi (Nat.not_lt_zero i)⟩
    | succ m =>
      have k := kcd_p (h2 0 (by omega))
      have h : 0 = pkV d m (q + 1) * 64 + kcd (d q) := h
      rw [Nat.add_zero] at k
      omega
  | succ l ih =>
    intro m c d p q h1 h2 h
    have k1 := kcd_p (h1 0 (by omega))
    rw [Nat.add_zero] at k1
    cases m with
    | zero =>
      have h : pkV c l (p + 1) * 64 + kcd (c p) = 0 := h
      omega
    | succ m =>
      have k2 := kcd_p (h2 0 (by omega))
      rw [Nat.add_zero] at k2
      have h : pkV c l (p + 1) * 64 + kcd (c p) = pkV d m (q + 1) * 64 + kcd (d q) := h
      obtain ⟨e, r⟩ := ih m c d (p + 1) (q + 1) (fun i hi => by rw [show p + 1 + i = p + (i + 1) by omega]; exact h1 (i + 1) (by omega)) (fun i hi => by rw [show q + 1 + i = q + (i + 1) by omega]; exact h2 (i + 1) (by omega)) (by omega)
      refine ⟨by omega, fun i hi => ?_⟩
      cases i with
      | zero => exact kcd_j (h1 0 (by omega)) (h2 0 (by omega)) (by rw [Nat.add_zero, Nat.add_zero]; omega)
      | succ i =>
        have := r i (by omega)
        rw [show p + 1 + i = p + (i + 1) by omega, show q + 1 + i = q + (i + 1) by omega] at this
        exact this
/-- letters of a constant, as numbers -/
def kl (k i : Nat) : Nat := (ks_b k i).toNatClampNeg
theorem kl_1 : ∀ k : Fin 190, ∀ i : Fin 100, ks_b k.1 i.1 = nI (kl k.1 i.1) ∧ kl k.1 i.1 < 127 := by decide +kernel
/-- a word of at most ten letters, all of them such as can be packed -/
def kw (k : Nat) : Bool := decide (1 ≤ ks_n k ∧ ks_n k ≤ 10 ∧ ∀ i : Nat, i < ks_n k → kOK (kl k i) = true)
theorem wq_P (k q l : Nat) {c : Nat → Nat} {R : Nat → Int32} (hk : k < 190) (hw : kw k = true) (h127 : ∀ i : Nat, c i < 127) (hR : ∀ i : Nat, i < l → R (q + i) = nI (c (q + i))) : wq k q l R ↔ pkO c q l = Int64.ofNat (pkV (kl k) (ks_n k) 0) := by
  have hw := of_decide_eq_true hw
  have Lb : ∀ i : Nat, i < ks_n k → ks_b k i = nI (kl k i) ∧ kl k i < 127 := fun i hi => kl_1 ⟨k, hk⟩ ⟨i, by omega⟩
  have V2 : pkV (kl k) (ks_n k) 0 < 2 ^ 60 := by
    have a : ∀ d p : Nat, p + d ≤ ks_n k → pkV (kl k) d p < 64 ^ d := fun d => by
      induction d with
      | zero => intro p _; exact Nat.one_pos
      | succ d ih =>
        intro p hp
        have u := ih (p + 1) (by omega)
        have v := kcd_l (Lb p (by omega)).2
        show pkV (kl k) d (p + 1) * 64 + kcd (kl k p) < 64 ^ (d + 1)
        rw [Nat.pow_succ]
        omega
    exact Nat.lt_of_lt_of_le (a (ks_n k) 0 (by omega)) (Nat.le_trans (Nat.pow_le_pow_right (by omega) hw.2.1) (by decide))
  have V0 : 0 < pkV (kl k) (ks_n k) 0 := by
    obtain ⟨m, em⟩ : ∃ m : Nat, ks_n k = m + 1 := ⟨ks_n k - 1, by omega⟩
    rw [em]
    have := (kcd_p (hw.2.2 0 (by omega))).1
    show 0 < pkV (kl k) m (0 + 1) * 64 + kcd (kl k 0)
    omega
  have inj : ∀ a b : Nat, a < 2 ^ 60 → b < 2 ^ 60 → Int64.ofNat a = Int64.ofNat b → a = b := fun a b ha hb h => by
    have h := congrArg Int64.toInt h
    rw [Int64.toInt_ofNat_of_lt (by omega), Int64.toInt_ofNat_of_lt (by omega)] at h
    omega
  constructor
  · rintro ⟨e, h⟩
    have hc : ∀ i : Nat, i < l → c (q + i) = kl k i := fun i hi => by
      have a := h i hi
      rw [hR i hi, (Lb i (by omega)).1, nI_eq (by have := h127 (q + i); omega) (by have := (Lb i (by omega)).2; omega)] at a
      exact a
    unfold pkO
    rw [if_pos (by omega), if_pos (fun i hi => by rw [hc i hi]; exact hw.2.2 i (by omega)), e]
    congr 1
    have g : ∀ d p : Nat, p + d ≤ l → pkV c d (q + p) = pkV (kl k) d p := fun d => by
      induction d with
      | zero => intro p _; rfl
      | succ d ih =>
        intro p hp
        show pkV c d (q + p + 1) * 64 + kcd (c (q + p)) = pkV (kl k) d (p + 1) * 64 + kcd (kl k p)
        rw [hc p (by omega), show q + p + 1 = q + (p + 1) by omega, ih (p + 1) (by omega)]
    exact g l 0 (by omega)
  · intro h
    unfold pkO at h
    by_cases y : l ≤ 10
    · rw [if_pos y] at h
      by_cases z : ∀ i : Nat, i < l → kOK (c (q + i)) = true
      · rw [if_pos z] at h
        have V1 : pkV c l q < 2 ^ 60 := Nat.lt_of_lt_of_le (pkV_l h127 l q) (Nat.le_trans (Nat.pow_le_pow_right (by omega) y) (by decide))
        obtain ⟨e, r⟩ := pkV_j l (ks_n k) c (kl k) q 0 z (fun i hi => by rw [Nat.zero_add]; exact hw.2.2 i hi) (inj _ _ V1 V2 h)
        refine ⟨e.symm, fun i hi => ?_⟩
        rw [hR i hi, r i hi, Nat.zero_add, ((Lb i (by omega)).1)]
      · rw [if_neg z] at h
        exact absurd (inj 0 _ (by omega) V2 h) (by omega)
    · rw [if_neg y] at h
      exact absurd (inj 0 _ (by omega) V2 h) (by omega)
/-- names of statements -/
def sgm (i : Nat) : Nat := ([0, 1, 2, 3, 4, 5, 6, 7, 8, 9, 10, 11, 12, 13, 14, 15, 16, 17, 18, 19, 20, 21, 22, 23, 24, 25, 26, 27, 28, 29, 30, 31, 32, 33, 34, 35, 36, 37, 38, 39, 40, 41, 42, 43, 44, 55, 45, 46, 47, 48, 49, 50, 51, 52, 53, 54, 56, 57, 58, 59, 60, 61, 62, 63, 64, 65, 68, 69, 70, 71, 73, 76, 77, 74, 78, 75, 79, 80, 81, 82, 83, 84, 85, 86, 87, 88, 89, 90, 92, 72, 91, 93, 94, 66, 95, 96, 99, 97, 100, 98, 101, 102, 67, 103, 104, 105, 106, 107, 108, 109, 110, 111, 112, 113, 114, 115, 116, 117, 118, 119, 120, 121, 122, 123, 124, 125, 126, 127] : List Nat).getD i 0
theorem sgm_1 : ∀ i : Fin 128, ko_w i.1 < 190 ∧ kw (ko_w i.1) = true ∧ sgm i.1 < 128 ∧ nmT (sgm i.1) = Int64.ofNat (pkV (kl (ko_w i.1)) (ks_n (ko_w i.1)) 0) := by decide +kernel
theorem sgm_j : ∀ i j : Fin 128, sgm i.1 = sgm j.1 → i = j := by decide +kernel
theorem sgm_s : ∀ j : Fin 128, ∃ i : Fin 128, sgm i.1 = j.1 := by decide +kernel
theorem nmT_j : ∀ i j : Fin 128, nmT i.1 = nmT j.1 → i = j := by decide +kernel
/-- the number of the statement whose name stands there, of the class's, or 128 -/
def opA (q l : Nat) (R : Nat → Int32) : Nat → Bool := fun i => decide (ks_n (ko_w i) = l ∧ ∀ t : Nat, t < l → R (q + t) = ks_b (ko_w i) t)
theorem opA_t {q l : Nat} {R : Nat → Int32} {i : Nat} : opA q l R i = true ↔ wq (ko_w i) q l R := by unfold opA wq; exact decide_eq_true_iff
theorem opA_f {q l : Nat} {R : Nat → Int32} {i : Nat} : opA q l R i = false ↔ ¬ wq (ko_w i) q l R := by unfold opA wq; exact decide_eq_false_iff_not
theorem cn_1 (n q l : Nat) {B : St} (hn : 200 < n) (hl : l < n) (hq : q + l ≤ 32768) : df_X7_named n (nI q) (nI l) B = some (if fN (opA q l (sR B 0)) 0 128 < 128 then some (fN (opA q l (sR B 0)) 0 128) else none, B) := by
  obtain ⟨m, em⟩ := nm_ls (fun g i => df_X7_named_2 n g (nI q) (nI l) (nI i) B) (opA q l (sR B 0)) 0 128 n (by omega) (fun k m k1 k2 k3 => by
    have w := sgm_1 ⟨k, by omega⟩
    have k3 : ¬ wq (ko_w k) q l (sR B 0) := opA_f.mp k3
    have s := sn_n n (ko_w k) q l hl w.1 hq k3
    show dF_X7_named_2 n (df_X7_named_2 n m) (nI q) (nI l) (nI k) B = df_X7_named_2 n m (nI q) (nI l) (nI (k + 1)) B
    unfold dF_X7_named_2
    rw [if_neg (show ¬ (128 : Int32) ≤ nI k from znle (a := 128) (by omega) (by omega)), nm_ck (by omega) (by omega), nI_clamp (by omega), nb_lt (by omega), s, nb_b2, if_pos (show nI 0 = (0 : Int32) from rfl), nb_let, show nI k + Int32.ofInt 1 = nI (k + 1) from nI_add k 1])
  refine Eq.trans (show _ = df_X7_named_2 n n (nI q) (nI l) (nI 0) B from rfl) (Eq.trans em ?_)
  obtain ⟨f1, f2, f3, f4⟩ := fN_le (opA q l (sR B 0)) 128 0
  generalize fN (opA q l (sR B 0)) 0 128 = f at f1 f2 f3 f4
  show dF_X7_named_2 n (df_X7_named_2 n m) (nI q) (nI l) (nI f) B = _
  unfold dF_X7_named_2
  by_cases y : f < 128
  · have w := sgm_1 ⟨f, y⟩
    have k3 : wq (ko_w f) q l (sR B 0) := opA_t.mp (f3 (by omega))
    have s := sn_y n (ko_w f) q l hl w.1 hq k3
    rw [if_neg (show ¬ (128 : Int32) ≤ nI f from znle (a := 128) (by omega) (by omega)), nm_ck (by omega) (by omega), nI_clamp (by omega), nb_lt (by omega), s, nb_b2, if_neg (show ¬ nI 1 = (0 : Int32) by decide), nm_ck (by omega) (by omega), if_pos y]
  · have y2 : f = 128 := by omega
    subst y2
    rw [if_pos (show (128 : Int32) ≤ nI 128 from zle (Nat.le_refl 128) (by omega)), if_neg (Nat.lt_irrefl 128)]
def opB (v : Int64) : Nat → Bool := fun i => decide (nmT i = v)
theorem lg0 (a b : Int64) : lg_cmp a b = 0 ↔ a = b := by
  constructor
  · intro h
    rcases lcm a b with y | y | y
    · rw [y.2] at h; exact absurd h (by decide)
    · exact Int64.toInt_inj.mp y.1
    · rw [y.2] at h; exact absurd h (by decide)
  · intro h
    subst h
    rcases lcm a a with y | y | y
    · omega
    · exact y.2
    · omega
theorem rn_1 (n : Nat) {S : St} {c : Nat → Nat} (q l : Nat) (hn : 200 < n) (h127 : ∀ i : Nat, c i < 127) (hl : q + l ≤ 32768) (hP : ∀ i : Nat, i < l → aP (c (q + i)) = true ∧ sR S 2 (q + i) = nI (c (q + i))) (hN : ∀ k : Nat, k < 128 → sQ S 0 k = nmT k) : df_X13_named n (nI q) (nI (q + l)) S = some (if fN (opB (pkO c q l)) 0 128 < 128 then nI (fN (opB (pkO c q l)) 0 128) else -1, S) := by
  have p := pk_1 n q l (by omega) h127 hl hP
  unfold df_X13_named df_X13_named_0
  rw [p, nb_b2]
  generalize pkO c q l = v
  obtain ⟨m, em⟩ := nm_ls (fun g i => df_X13_named_10 n g v (nI i) S) (opB v) 0 128 n (by omega) (fun k m k1 k2 k3 => by
    have k3 : ¬ nmT k = v := of_decide_eq_false k3
    show dF_X13_named_10 n (df_X13_named_10 n m) v (nI k) S = df_X13_named_10 n m v (nI (k + 1)) S
    unfold dF_X13_named_10
    rw [if_neg (show ¬ (128 : Int32) ≤ nI k from znle (a := 128) (by omega) (by omega)), nm_ck (by omega) (by omega), nI_clamp (by omega), hN k (by omega), if_neg (fun z => k3 ((lg0 _ _).mp z)), nb_let, show nI k + Int32.ofInt 1 = nI (k + 1) from nI_add k 1])
  refine Eq.trans (show _ = df_X13_named_10 n n v (nI 0) S from rfl) (Eq.trans em ?_)
  obtain ⟨f1, f2, f3, f4⟩ := fN_le (opB v) 128 0
  generalize fN (opB v) 0 128 = f at f1 f2 f3 f4
  show dF_X13_named_10 n (df_X13_named_10 n m) v (nI f) S = _
  unfold dF_X13_named_10
  by_cases y : f < 128
  · have k3 : nmT f = v := of_decide_eq_true (f3 (by omega))
    rw [if_neg (show ¬ (128 : Int32) ≤ nI f from znle (a := 128) (by omega) (by omega)), nm_ck (by omega) (by omega), nI_clamp (by omega), hN f (by omega), if_pos ((lg0 _ _).mpr k3), if_pos y]
  · have y2 : f = 128 := by omega
    subst y2
    rw [if_pos (show (128 : Int32) ≤ nI 128 from zle (Nat.le_refl 128) (by omega)), if_neg (Nat.lt_irrefl 128)]
/-- both find the same statement -/
theorem nam_2 {c : Nat → Nat} (q l : Nat) {R : Nat → Int32} (h127 : ∀ i : Nat, c i < 127) (hR : ∀ i : Nat, i < l → R (q + i) = nI (c (q + i))) : (fN (opA q l R) 0 128 < 128 → fN (opB (pkO c q l)) 0 128 = sgm (fN (opA q l R) 0 128)) ∧ (¬ fN (opA q l R) 0 128 < 128 → fN (opB (pkO c q l)) 0 128 = 128) := by
  obtain ⟨f1, f2, f3, f4⟩ := fN_le (opA q l R) 128 0
  generalize fN (opA q l R) 0 128 = f at f1 f2 f3 f4
  have T : ∀ i : Nat, i < 128 → (wq (ko_w i) q l R ↔ pkO c q l = nmT (sgm i)) := fun i hi => by
    have w := sgm_1 ⟨i, hi⟩
    rw [wq_P (ko_w i) q l w.1 w.2.1 h127 hR, show nmT (sgm i) = _ from w.2.2.2]
  constructor
  · intro y
    have w := sgm_1 ⟨f, y⟩
    have e := (T f y).mp (opA_t.mp (f3 (by omega)))
    refine fN_is (Nat.zero_le _) (by have := w.2.2.1; omega) (decide_eq_true e.symm) (fun i _ hi => decide_eq_false (fun z => ?_))
    rw [e] at z
    have lt : sgm f < 128 := w.2.2.1
    have z := nmT_j ⟨i, by omega⟩ ⟨sgm f, lt⟩ z
    have z : i = sgm f := congrArg Fin.val z
    omega
  · intro y
    refine (fN_no (fun i _ hi => decide_eq_false (fun z => ?_))).trans (Nat.zero_add 128)
    obtain ⟨j, ej⟩ := sgm_s ⟨i, by omega⟩
    have ej : sgm j.1 = i := ej
    have := f4 j.1 (Nat.zero_le _) (by have := j.2; omega)
    exact opA_f.mp this ((T j.1 j.2).mpr (by rw [ej]; exact z.symm))
