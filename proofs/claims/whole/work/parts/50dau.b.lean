/-- letters packed to one number, in the reference -/
theorem zlt {a b : Nat} (h : a < b) (hb : b < 2 ^ 31) : nI a < nI b := (nI_ltI (by omega) hb).mpr h
theorem znl {a b : Nat} (h : b ≤ a) (ha : a < 2 ^ 31) : ¬ nI a < nI b := fun z => by rw [nI_ltI ha (by omega)] at z; omega
theorem zle {a b : Nat} (h : a ≤ b) (hb : b < 2 ^ 31) : nI a ≤ nI b := (nI_leI (by omega) hb).mpr h
theorem znle {a b : Nat} (h : b < a) (ha : a < 2 ^ 31) : ¬ nI a ≤ nI b := fun z => by rw [nI_leI ha (by omega)] at z; omega
theorem zne {a b : Nat} (h : ¬ a = b) (ha : a < 2 ^ 31) (hb : b < 2 ^ 31) : ¬ nI a = nI b := fun z => by rw [nI_eq (by omega) (by omega)] at z; exact h z
def kcd (c : Nat) : Nat := if c = 46 then 37 else if 48 ≤ c ∧ c ≤ 57 then c - 21 else c - 96
def kOK (c : Nat) : Bool := decide (c = 46 ∨ 48 ≤ c ∧ c ≤ 57 ∨ 97 ≤ c ∧ c ≤ 122)
def pkV (c : Nat → Nat) : Nat → Nat → Nat
  | 0, _ => 0
  | j + 1, p => pkV c j (p + 1) * 64 + kcd (c p)
theorem kcd_l {c : Nat} (h : c < 127) : kcd c < 64 := by unfold kcd; split <;> (try split) <;> omega
theorem pkV_l {c : Nat → Nat} (h : ∀ i : Nat, c i < 127) : ∀ d p : Nat, pkV c d p < 64 ^ d := fun d => by
  induction d with
  | zero => intro p; exact Nat.one_pos
  | succ d ih =>
    intro p
    have := ih (p + 1)
    have k := kcd_l (h p)
    show pkV c d (p + 1) * 64 + kcd (c p) < 64 ^ (d + 1)
    rw [Nat.pow_succ]
    omega
theorem pkV_b {c : Nat → Nat} (h : ∀ i : Nat, c i < 127) (d p : Nat) (hd : d ≤ 9) : pkV c d p < 2 ^ 54 := Nat.lt_of_lt_of_le (pkV_l h d p) (Nat.le_trans (Nat.pow_le_pow_right (by omega) hd) (by decide))
theorem sh_64 : (6 : Int64).toBitVec.smod 64 = 6#64 := by decide
theorem pk64 {V d : Nat} (hV : V < 2 ^ 54) (hd : d < 64) : (Int64.ofNat V <<< ((6 : Int32).toInt64 &&& 63)) ||| (nI d).toInt64 = Int64.ofNat (V * 64 + d) := by
  rw [n64 (by omega), show ((6 : Int32).toInt64 &&& 63) = (6 : Int64) by decide]
  apply Int64.toBitVec_inj.mp
  apply BitVec.eq_of_toNat_eq
  rw [Int64.toBitVec_or, Int64.toBitVec_shiftLeft, sh_64, Int64.toBitVec_ofNat', Int64.toBitVec_ofNat', Int64.toBitVec_ofNat', BitVec.toNat_or, BitVec.shiftLeft_eq', BitVec.toNat_shiftLeft, BitVec.toNat_ofNat, BitVec.toNat_ofNat, BitVec.toNat_ofNat, BitVec.toNat_ofNat, Nat.mod_eq_of_lt (show V < 2 ^ 64 by omega), Nat.mod_eq_of_lt (show d < 2 ^ 64 by omega), Nat.mod_eq_of_lt (show V * 64 + d < 2 ^ 64 by omega), show 6 % 2 ^ 64 = 6 from rfl, Nat.shiftLeft_eq, Nat.mod_eq_of_lt (show V * 2 ^ 6 < 2 ^ 64 by omega), ← Nat.shiftLeft_eq, ← Nat.shiftLeft_add_eq_or_of_lt (show d < 2 ^ 6 by omega), Nat.shiftLeft_eq]
theorem p102 (n : Nat) (G : Int32 → Int64 → Int32 → St → Option (Int64 × St)) (q k V d : Nat) (S : St) (hV : V < 2 ^ 54) (hd : d < 64) : df_X13_packed_102 n G (nI q) (nI k) (Int64.ofNat V <<< ((6 : Int32).toInt64 &&& 63)) (nI d) S = G (nI q) (Int64.ofNat (V * 64 + d)) (nI k - 1) S := by
  unfold df_X13_packed_102
  rw [nb_let, nb_let, pk64 hV hd, Int32.sub_eq_add_neg, show Int32.ofInt (-1) = -(1 : Int32) by decide]
theorem p46 (n : Nat) (G : Int32 → Int64 → Int32 → St → Option (Int64 × St)) (q k V c : Nat) (S : St) (hV : V < 2 ^ 54) (hc : c < 127) (hp : aP c = true) (hA : ¬ (65 ≤ c ∧ c ≤ 90)) : df_X13_packed_46 n G (nI q) (Int64.ofNat V) (nI k) (nI c) S = if kOK c = true then G (nI q) (Int64.ofNat (V * 64 + kcd c)) (nI k - 1) S else some (0, S) := by
  have ip := id_13 n (c := c) (by omega)
  unfold df_X13_packed_46 df_X13_packed_60
  by_cases y1 : c = 95
  · subst y1
    rw [if_pos (show nI 95 = (95 : Int32) from rfl)]; rfl
  rw [if_neg (show ¬ nI c = (95 : Int32) from zne (b := 95) y1 (by omega) (by omega))]
  by_cases y2 : c = 36
  · subst y2
    rw [if_pos (show nI 36 = (36 : Int32) from rfl)]; rfl
  rw [if_neg (show ¬ nI c = (36 : Int32) from zne (b := 36) y2 (by omega) (by omega))]
  by_cases y3 : c = 46
  · subst y3
    rw [if_pos (show nI 46 = (46 : Int32) from rfl), show (37 : Int32) = nI 37 from rfl, p102 n G q k V 37 S hV (by omega)]
    rfl
  rw [if_neg (show ¬ nI c = (46 : Int32) from zne (b := 46) y3 (by omega) (by omega)), ip, nb_b2]
  by_cases y4 : 48 ≤ c ∧ c ≤ 57
  · have d1 : aD c = true := aD_v.mpr y4
    have ok : kOK c = true := decide_eq_true (Or.inr (Or.inl y4))
    have ek : kcd c = c - 21 := by unfold kcd; rw [if_neg y3, if_pos y4]
    rw [d1, if_neg (show ¬ bI true = 0 by decide), if_pos ok, ek, show ((27 : Int32) + nI c) - 48 = nI (c - 21) by rw [show (27 : Int32) = nI 27 from rfl, show (48 : Int32) = nI 48 from rfl, nI_add, pk_sub (by omega)]; exact congrArg nI (by omega), p102 n G q k V (c - 21) S hV (by omega)]
  · have d1 : aD c = false := by
      cases hh : aD c with
      | true => exact absurd (aD_v.mp hh) y4
      | false => rfl
    have l1 : 97 ≤ c ∧ c ≤ 122 := by
      unfold aP at hp
      rw [d1, Bool.false_or] at hp
      cases hh : aL c with
      | true =>
        have hh : 97 ≤ c ∧ c ≤ 122 ∨ 65 ≤ c ∧ c ≤ 90 := of_decide_eq_true hh
        omega
      | false =>
        rw [hh, Bool.false_or] at hp
        have hp := of_decide_eq_true hp
        omega
    have ok : kOK c = true := decide_eq_true (Or.inr (Or.inr l1))
    have ek : kcd c = c - 96 := by unfold kcd; rw [if_neg y3, if_neg y4]
    rw [d1, if_pos (show bI false = 0 from rfl), if_pos ok, ek, show nI c - (96 : Int32) = nI (c - 96) by rw [show (96 : Int32) = nI 96 from rfl, pk_sub (by omega)], p102 n G q k V (c - 96) S hV (by omega)]
theorem pk_l (n : Nat) {S : St} {c : Nat → Nat} (q : Nat) (h127 : ∀ i : Nat, c i < 127) : ∀ j d g : Nat, j + d ≤ 10 → j < g → q + j ≤ 32768 → (∀ i : Nat, i < j → aP (c (q + i)) = true ∧ sR S 2 (q + i) = nI (c (q + i))) → df_X13_packed_17 n g (nI q) (Int64.ofNat (pkV c d (q + j))) (nI (q + j) - 1) S = some (if ∀ i : Nat, i < j → kOK (c (q + i)) = true then Int64.ofNat (pkV c (d + j) q) else 0, S) := fun j => by
  induction j with
  | zero =>
    intro d g a1 a2 a3 a4
    obtain ⟨g, rfl⟩ : ∃ m : Nat, g = m + 1 := ⟨g - 1, by omega⟩
    rw [if_pos (fun i hi => absurd hi (Nat.not_lt_zero i))]
    show dF_X13_packed_17 n (df_X13_packed_17 n g) (nI q) (Int64.ofNat (pkV c d q)) (nI q - 1) S = _
    unfold dF_X13_packed_17
    rw [if_pos (show nI q - 1 < nI q by
      rw [Int32.lt_iff_toInt_lt, show (1 : Int32) = nI 1 from rfl, pk_sub_toInt (by omega) (by omega), nI_toInt (by omega)]
      omega)]
    rfl
  | succ j ih =>
    intro d g a1 a2 a3 a4
    obtain ⟨g, rfl⟩ : ∃ m : Nat, g = m + 1 := ⟨g - 1, by omega⟩
    obtain ⟨hp, hs⟩ := a4 j (by omega)
    have cl := h127 (q + j)
    have V := pkV_b h127 d (q + j + 1) (by omega)
    rw [show nI (q + (j + 1)) - (1 : Int32) = nI (q + j) by rw [show (1 : Int32) = nI 1 from rfl, pk_sub (by omega)]; rfl]
    show dF_X13_packed_17 n (df_X13_packed_17 n g) (nI q) (Int64.ofNat (pkV c d (q + j + 1))) (nI (q + j)) S = _
    unfold dF_X13_packed_17
    rw [if_neg (show ¬ nI (q + j) < nI q from znl (by omega) (by omega)), nm_ck (by omega) (by omega), nI_clamp (by omega), hs, nb_let]
    have stop : kOK (c (q + j)) = false → (if ∀ i : Nat, i < j + 1 → kOK (c (q + i)) = true then Int64.ofNat (pkV c (d + (j + 1)) q) else 0) = (0 : Int64) := fun z => if_neg (fun w => by
      have := w j (by omega)
      rw [z] at this
      exact absurd this (by decide))
    by_cases hA : 65 ≤ c (q + j) ∧ c (q + j) ≤ 90
    · rw [if_neg (show ¬ nI (c (q + j)) < (65 : Int32) from znl (b := 65) hA.1 (by omega)), if_pos (show nI (c (q + j)) ≤ (90 : Int32) from zle (b := 90) hA.2 (by omega)), stop (decide_eq_false (by omega))]
      rfl
    have e : (if nI (c (q + j)) < (65 : Int32) then df_X13_packed_46 n (df_X13_packed_17 n g) (nI q) (Int64.ofNat (pkV c d (q + j + 1))) (nI (q + j)) (nI (c (q + j))) S else if nI (c (q + j)) ≤ (90 : Int32) then df_X13_packed_60 n S else df_X13_packed_46 n (df_X13_packed_17 n g) (nI q) (Int64.ofNat (pkV c d (q + j + 1))) (nI (q + j)) (nI (c (q + j))) S) = df_X13_packed_46 n (df_X13_packed_17 n g) (nI q) (Int64.ofNat (pkV c d (q + j + 1))) (nI (q + j)) (nI (c (q + j))) S := by
      by_cases z : c (q + j) < 65
      · rw [if_pos (show nI (c (q + j)) < (65 : Int32) from zlt (b := 65) z (by omega))]
      · rw [if_neg (show ¬ nI (c (q + j)) < (65 : Int32) from znl (b := 65) (by omega) (by omega)), if_neg (show ¬ nI (c (q + j)) ≤ (90 : Int32) from znle (b := 90) (by omega) (by omega))]
    rw [e, p46 n _ q (q + j) _ (c (q + j)) S V cl hp hA]
    cases hk : kOK (c (q + j)) with
    | false =>
      rw [if_neg (by decide), stop hk]
    | true =>
      rw [if_pos rfl]
      have r := ih (d + 1) g (by omega) (by omega) (by omega) (fun i hi => a4 i (by omega))
      refine Eq.trans (show _ = df_X13_packed_17 n g (nI q) (Int64.ofNat (pkV c (d + 1) (q + j))) (nI (q + j) - 1) S from rfl) (Eq.trans r ?_)
      rw [show d + 1 + j = d + (j + 1) by omega]
      by_cases z : ∀ i : Nat, i < j → kOK (c (q + i)) = true
      · rw [if_pos z, if_pos (fun i hi => by
          by_cases w : i = j
          · rw [w]; exact hk
          · exact z i (by omega))]
      · rw [if_neg z, if_neg (fun w => z (fun i hi => w i (by omega)))]
def pkO (c : Nat → Nat) (q l : Nat) : Int64 := if l ≤ 10 then (if ∀ i : Nat, i < l → kOK (c (q + i)) = true then Int64.ofNat (pkV c l q) else 0) else 0
theorem pk_1 (n : Nat) {S : St} {c : Nat → Nat} (q l : Nat) (hn : 20 < n) (h127 : ∀ i : Nat, c i < 127) (hl : q + l ≤ 32768) (hP : ∀ i : Nat, i < l → aP (c (q + i)) = true ∧ sR S 2 (q + i) = nI (c (q + i))) : df_X13_packed n (nI q) (nI (q + l)) S = some (pkO c q l, S) := by
  unfold df_X13_packed df_X13_packed_0 pkO
  rw [pk_sub (by omega), show q + l - q = l by omega]
  by_cases y : l ≤ 10
  · have r := pk_l n (S := S) q h127 l 0 n (by omega) (by omega) hl hP
    rw [if_pos (show nI l ≤ (10 : Int32) from zle (b := 10) y (by omega)), nb_let, if_pos y]
    rw [Nat.zero_add] at r
    exact r
  · rw [if_neg (show ¬ nI l ≤ (10 : Int32) from znle (b := 10) (by omega) (by omega)), if_neg y]
/-- packing loses nothing -/
theorem kcd_p {c : Nat} (h : kOK c = true) : 1 ≤ kcd c ∧ kcd c ≤ 37 := by
  have h := of_decide_eq_true h
  unfold kcd
  split
  · omega
  · split <;> omega
theorem kcd_j {a b : Nat} (ha : kOK a = true) (hb : kOK b = true) (h : kcd a = kcd b) : a = b := by
  have ha := of_decide_eq_true ha
  have hb := of_decide_eq_true hb
  unfold kcd at h
  split at h <;> split at h <;> (try split at h) <;> (try split at h) <;> omega
theorem pkV_j : ∀ (l m : Nat) (c d : Nat → Nat) (p q : Nat), (∀ i : Nat, i < l → kOK (c (p + i)) = true) → (∀ i : Nat, i < m → kOK (d (q + i)) = true) → pkV c l p = pkV d m q → l = m ∧ ∀ i : Nat, i < l → c (p + i) = d (q + i) := fun l => by
  induction l with
  | zero =>
    intro m c d p q h1 h2 h
    cases m with
    | zero => exact ⟨rfl, fun i hi => absurd hi (Nat.not_lt_zero i)⟩
    | succ m =>
      have k := kcd_p (h2 0 (by omega))
      have h : 0 = pkV d m (q + 1) * 64 + kcd (d q) := h
      rw [Nat.add_zero] at k
      omega
  | succ l ih =>
    intro m c d p q h1 h2 h
    have k1 := kcd_p (h1 0 (by omega))
    rw [Nat.add_zero] at k1
    cases m with
    | zero =>
      have h : pkV c l (p + 1) * 64 + kcd (c p) = 0 := h
      omega
    | succ m =>
      have k2 := kcd_p (h2 0 (by omega))
      rw [Nat.add_zero] at k2
      have h : pkV c l (p + 1) * 64 + kcd (c p) = pkV d m (q + 1) * 64 + kcd (d q) := h
      obtain ⟨e, r⟩ := ih m c d (p + 1) (q + 1) (fun i hi => by rw [show p + 1 + i = p + (i + 1) by omega]; exact h1 (i + 1) (by omega)) (fun i hi => by rw [show q + 1 + i = q + (i + 1) by omega]; exact h2 (i + 1) (by omega)) (by omega)
      refine ⟨by omega, fun i hi => ?_⟩
      cases i with
      | zero => exact kcd_j (h1 0 (by omega)) (h2 0 (by omega)) (by rw [Nat.add_zero, Nat.add_zero]; omega)
      | succ i =>
        have := r i (by omega)
        rw [show p + 1 + i = p + (i + 1) by omega, show q + 1 + i = q + (i + 1) by omega] at this
        exact this
/-- letters of a constant, as numbers -/
def kl (k i : Nat) : Nat := (ks_b k i).toNatClampNeg
theorem kl_1 : ∀ k : Fin 190, ∀ i : Fin 100, ks_b k.1 i.1 = nI (kl k.1 i.1) ∧ kl k.1 i.1 < 127 := by decide +kernel
/-- a word of at most ten letters, all of them such as can be packed -/
def kw (k : Nat) : Bool := decide (1 ≤ ks_n k ∧ ks_n k ≤ 10 ∧ ∀ i : Nat, i < ks_n k → kOK (kl k i) = true)
theorem wq_P (k q l : Nat) {c : Nat → Nat} {R : Nat → Int32} (hk : k < 190) (hw : kw k = true) (h127 : ∀ i : Nat, c i < 127) (hR : ∀ i : Nat, i < l → R (q + i) = nI (c (q + i))) : wq k q l R ↔ pkO c q l = Int64.ofNat (pkV (kl k) (ks_n k) 0) := by
  have hw := of_decide_eq_true hw
  have Lb : ∀ i : Nat, i < ks_n k → ks_b k i = nI (kl k i) ∧ kl k i < 127 := fun i hi => kl_1 ⟨k, hk⟩ ⟨i, by omega⟩
  have V2 : pkV (kl k) (ks_n k) 0 < 2 ^ 60 := by
    have a : ∀ d p : Nat, p + d ≤ ks_n k → pkV (kl k) d p < 64 ^ d := fun d => by
      induction d with
      | zero => intro p _; exact Nat.one_pos
      | succ d ih =>
        intro p hp
        have u := ih (p + 1) (by omega)
        have v := kcd_l (Lb p (by omega)).2
        show pkV (kl k) d (p + 1) * 64 + kcd (kl k p) < 64 ^ (d + 1)
        rw [Nat.pow_succ]
        omega
    exact Nat.lt_of_lt_of_le (a (ks_n k) 0 (by omega)) (Nat.le_trans (Nat.pow_le_pow_right (by omega) hw.2.1) (by decide))
  have V0 : 0 < pkV (kl k) (ks_n k) 0 := by
    obtain ⟨m, em⟩ : ∃ m : Nat, ks_n k = m + 1 := ⟨ks_n k - 1, by omega⟩
    rw [em]
    have := (kcd_p (hw.2.2 0 (by omega))).1
    show 0 < pkV (kl k) m (0 + 1) * 64 + kcd (kl k 0)
    omega
  have inj : ∀ a b : Nat, a < 2 ^ 60 → b < 2 ^ 60 → Int64.ofNat a = Int64.ofNat b → a = b := fun a b ha hb h => by
    have h := congrArg Int64.toInt h
    rw [Int64.toInt_ofNat_of_lt (by omega), Int64.toInt_ofNat_of_lt (by omega)] at h
    omega
  constructor
  · rintro ⟨e, h⟩
    have hc : ∀ i : Nat, i < l → c (q + i) = kl k i := fun i hi => by
      have a := h i hi
      rw [hR i hi, (Lb i (by omega)).1, nI_eq (by have := h127 (q + i); omega) (by have := (Lb i (by omega)).2; omega)] at a
      exact a
    unfold pkO
    rw [if_pos (by omega), if_pos (fun i hi => by rw [hc i hi]; exact hw.2.2 i (by omega)), e]
    congr 1
    have g : ∀ d p : Nat, p + d ≤ l → pkV c d (q + p) = pkV (kl k) d p := fun d => by
      induction d with
      | zero => intro p _; rfl
      | succ d ih =>
        intro p hp
        show pkV c d (q + p + 1) * 64 + kcd (c (q + p)) = pkV (kl k) d (p + 1) * 64 + kcd (kl k p)
        rw [hc p (by omega), show q + p + 1 = q + (p + 1) by omega, ih (p + 1) (by omega)]
    exact g l 0 (by omega)
  · intro h
    unfold pkO at h
    by_cases y : l ≤ 10
    · rw [if_pos y] at h
      by_cases z : ∀ i : Nat, i < l → kOK (c (q + i)) = true
      · rw [if_pos z] at h
        have V1 : pkV c l q < 2 ^ 60 := Nat.lt_of_lt_of_le (pkV_l h127 l q) (Nat.le_trans (Nat.pow_le_pow_right (by omega) y) (by decide))
        obtain ⟨e, r⟩ := pkV_j l (ks_n k) c (kl k) q 0 z (fun i hi => by rw [Nat.zero_add]; exact hw.2.2 i hi) (inj _ _ V1 V2 h)
        refine ⟨e.symm, fun i hi => ?_⟩
        rw [hR i hi, r i hi, Nat.zero_add, ((Lb i (by omega)).1)]
      · rw [if_neg z] at h
        exact absurd (inj 0 _ (by omega) V2 h) (by omega)
    · rw [if_neg y] at h
      exact absurd (inj 0 _ (by omega) V2 h) (by omega)
/-- names of statements -/
def sgm (i : Nat) : Nat := ([0, 1, 2, 3, 4, 5, 6, 7, 8, 9, 10, 11, 12, 13, 14, 15, 16, 17, 18, 19, 20, 21, 22, 23, 24, 25, 26, 27, 28, 29, 30, 31, 32, 33, 34, 35, 36, 37, 38, 39, 40, 41, 42, 43, 44, 55, 45, 46, 47, 48, 49, 50, 51, 52, 53, 54, 56, 57, 58, 59, 60, 61, 62, 63, 64, 65, 68, 69, 70, 71, 73, 76, 77, 74, 78, 75, 79, 80, 81, 82, 83, 84, 85, 86, 87, 88, 89, 90, 92, 72, 91, 93, 94, 66, 95, 96, 99, 97, 100, 98, 101, 102, 67, 103, 104, 105, 106, 107, 108, 109, 110, 111, 112, 113, 114, 115, 116, 117, 118, 119, 120, 121, 122, 123, 124, 125, 126, 127] : List Nat).getD i 0
theorem sgm_1 : ∀ i : Fin 128, ko_w i.1 < 190 ∧ kw (ko_w i.1) = true ∧ sgm i.1 < 128 ∧ nmT (sgm i.1) = Int64.ofNat (pkV (kl (ko_w i.1)) (ks_n (ko_w i.1)) 0) := by decide +kernel
theorem sgm_j : ∀ i j : Fin 128, sgm i.1 = sgm j.1 → i = j := by decide +kernel
theorem sgm_s : ∀ j : Fin 128, ∃ i : Fin 128, sgm i.1 = j.1 := by decide +kernel
theorem nmT_j : ∀ i j : Fin 128, nmT i.1 = nmT j.1 → i = j := by decide +kernel
/-- the number of the statement whose name stands there, of the class's, or 128 -/
def opA (q l : Nat) (R : Nat → Int32) : Nat → Bool := fun i => decide (ks_n (ko_w i) = l ∧ ∀ t : Nat, t < l → R (q + t) = ks_b (ko_w i) t)
theorem opA_t {q l : Nat} {R : Nat → Int32} {i : Nat} : opA q l R i = true ↔ wq (ko_w i) q l R := by unfold opA wq; exact decide_eq_true_iff
theorem opA_f {q l : Nat} {R : Nat → Int32} {i : Nat} : opA q l R i = false ↔ ¬ wq (ko_w i) q l R := by unfold opA wq; exact decide_eq_false_iff_not
theorem cn_1 (n q l : Nat) {B : St} (hn : 200 < n) (hl : l < n) (hq : q + l ≤ 32768) : df_X7_named n (nI q) (nI l) B = some (if fN (opA q l (sR B 0)) 0 128 < 128 then some (fN (opA q l (sR B 0)) 0 128) else none, B) := by
  obtain ⟨m, em⟩ := nm_ls (fun g i => df_X7_named_2 n g (nI q) (nI l) (nI i) B) (opA q l (sR B 0)) 0 128 n (by omega) (fun k m k1 k2 k3 => by
    have w := sgm_1 ⟨k, by omega⟩
    have k3 : ¬ wq (ko_w k) q l (sR B 0) := opA_f.mp k3
    have s := sn_n n (ko_w k) q l hl w.1 hq k3
    show dF_X7_named_2 n (df_X7_named_2 n m) (nI q) (nI l) (nI k) B = df_X7_named_2 n m (nI q) (nI l) (nI (k + 1)) B
    unfold dF_X7_named_2
    rw [if_neg (show ¬ (128 : Int32) ≤ nI k from znle (a := 128) (by omega) (by omega)), nm_ck (by omega) (by omega), nI_clamp (by omega), nb_lt (by omega), s, nb_b2, if_pos (show nI 0 = (0 : Int32) from rfl), nb_let, show nI k + Int32.ofInt 1 = nI (k + 1) from nI_add k 1])
  refine Eq.trans (show _ = df_X7_named_2 n n (nI q) (nI l) (nI 0) B from rfl) (Eq.trans em ?_)
  obtain ⟨f1, f2, f3, f4⟩ := fN_le (opA q l (sR B 0)) 128 0
  generalize fN (opA q l (sR B 0)) 0 128 = f at f1 f2 f3 f4
  show dF_X7_named_2 n (df_X7_named_2 n m) (nI q) (nI l) (nI f) B = _
  unfold dF_X7_named_2
  by_cases y : f < 128
  · have w := sgm_1 ⟨f, y⟩
    have k3 : wq (ko_w f) q l (sR B 0) := opA_t.mp (f3 (by omega))
    have s := sn_y n (ko_w f) q l hl w.1 hq k3
    rw [if_neg (show ¬ (128 : Int32) ≤ nI f from znle (a := 128) (by omega) (by omega)), nm_ck (by omega) (by omega), nI_clamp (by omega), nb_lt (by omega), s, nb_b2, if_neg (show ¬ nI 1 = (0 : Int32) by decide), nm_ck (by omega) (by omega), if_pos y]
  · have y2 : f = 128 := by omega
    subst y2
    rw [if_pos (show (128 : Int32) ≤ nI 128 from zle (Nat.le_refl 128) (by omega)), if_neg (Nat.lt_irrefl 128)]
def opB (v : Int64) : Nat → Bool := fun i => decide (nmT i = v)
theorem lg0 (a b : Int64) : lg_cmp a b = 0 ↔ a = b := by
  constructor
  · intro h
    rcases lcm a b with y | y | y
    · rw [y.2] at h; exact absurd h (by decide)
    · exact Int64.toInt_inj.mp y.1
    · rw [y.2] at h; exact absurd h (by decide)
  · intro h
    subst h
    rcases lcm a a with y | y | y
    · omega
    · exact y.2
    · omega
theorem rn_1 (n : Nat) {S : St} {c : Nat → Nat} (q l : Nat) (hn : 200 < n) (h127 : ∀ i : Nat, c i < 127) (hl : q + l ≤ 32768) (hP : ∀ i : Nat, i < l → aP (c (q + i)) = true ∧ sR S 2 (q + i) = nI (c (q + i))) (hN : ∀ k : Nat, k < 128 → sQ S 0 k = nmT k) : df_X13_named n (nI q) (nI (q + l)) S = some (if fN (opB (pkO c q l)) 0 128 < 128 then nI (fN (opB (pkO c q l)) 0 128) else -1, S) := by
  have p := pk_1 n q l (by omega) h127 hl hP
  unfold df_X13_named df_X13_named_0
  rw [p, nb_b2]
  generalize pkO c q l = v
  obtain ⟨m, em⟩ := nm_ls (fun g i => df_X13_named_10 n g v (nI i) S) (opB v) 0 128 n (by omega) (fun k m k1 k2 k3 => by
    have k3 : ¬ nmT k = v := of_decide_eq_false k3
    show dF_X13_named_10 n (df_X13_named_10 n m) v (nI k) S = df_X13_named_10 n m v (nI (k + 1)) S
    unfold dF_X13_named_10
    rw [if_neg (show ¬ (128 : Int32) ≤ nI k from znle (a := 128) (by omega) (by omega)), nm_ck (by omega) (by omega), nI_clamp (by omega), hN k (by omega), if_neg (fun z => k3 ((lg0 _ _).mp z)), nb_let, show nI k + Int32.ofInt 1 = nI (k + 1) from nI_add k 1])
  refine Eq.trans (show _ = df_X13_named_10 n n v (nI 0) S from rfl) (Eq.trans em ?_)
  obtain ⟨f1, f2, f3, f4⟩ := fN_le (opB v) 128 0
  generalize fN (opB v) 0 128 = f at f1 f2 f3 f4
  show dF_X13_named_10 n (df_X13_named_10 n m) v (nI f) S = _
  unfold dF_X13_named_10
  by_cases y : f < 128
  · have k3 : nmT f = v := of_decide_eq_true (f3 (by omega))
    rw [if_neg (show ¬ (128 : Int32) ≤ nI f from znle (a := 128) (by omega) (by omega)), nm_ck (by omega) (by omega), nI_clamp (by omega), hN f (by omega), if_pos ((lg0 _ _).mpr k3), if_pos y]
  · have y2 : f = 128 := by omega
    subst y2
    rw [if_pos (show (128 : Int32) ≤ nI 128 from zle (Nat.le_refl 128) (by omega)), if_neg (Nat.lt_irrefl 128)]
/-- both find the same statement -/
theorem nam_2 {c : Nat → Nat} (q l : Nat) {R : Nat → Int32} (h127 : ∀ i : Nat, c i < 127) (hR : ∀ i : Nat, i < l → R (q + i) = nI (c (q + i))) : (fN (opA q l R) 0 128 < 128 → fN (opB (pkO c q l)) 0 128 = sgm (fN (opA q l R) 0 128)) ∧ (¬ fN (opA q l R) 0 128 < 128 → fN (opB (pkO c q l)) 0 128 = 128) := by
  obtain ⟨f1, f2, f3, f4⟩ := fN_le (opA q l R) 128 0
  generalize fN (opA q l R) 0 128 = f at f1 f2 f3 f4
  have T : ∀ i : Nat, i < 128 → (wq (ko_w i) q l R ↔ pkO c q l = nmT (sgm i)) := fun i hi => by
    have w := sgm_1 ⟨i, hi⟩
    rw [wq_P (ko_w i) q l w.1 w.2.1 h127 hR, show nmT (sgm i) = _ from w.2.2.2]
  constructor
  · intro y
    have w := sgm_1 ⟨f, y⟩
    have e := (T f y).mp (opA_t.mp (f3 (by omega)))
    refine fN_is (Nat.zero_le _) (by have := w.2.2.1; omega) (decide_eq_true e.symm) (fun i _ hi => decide_eq_false (fun z => ?_))
    rw [e] at z
    have lt : sgm f < 128 := w.2.2.1
    have z := nmT_j ⟨i, by omega⟩ ⟨sgm f, lt⟩ z
    have z : i = sgm f := congrArg Fin.val z
    omega
  · intro y
    refine (fN_no (fun i _ hi => decide_eq_false (fun z => ?_))).trans (Nat.zero_add 128)
    obtain ⟨j, ej⟩ := sgm_s ⟨i, by omega⟩
    have ej : sgm j.1 = i := ej
    have := f4 j.1 (Nat.zero_le _) (by have := j.2; omega)
    exact opA_f.mp this ((T j.1 j.2).mpr (by rw [ej]; exact z.symm))

/-- registers' names -/
theorem pq_U {c : Nat → Nat} (q l : Nat) (u : Nat → Nat) (N : Nat) (hN : 1 ≤ N ∧ N ≤ 10) (hu : ∀ i : Nat, i < N → kOK (u i) = true) (h127 : ∀ i : Nat, c i < 127) : pkO c q l = Int64.ofNat (pkV u N 0) ↔ l = N ∧ ∀ i : Nat, i < l → c (q + i) = u i := by
  have V2 : pkV u N 0 < 2 ^ 60 := by
    have a : ∀ d p : Nat, p + d ≤ N → pkV u d p < 64 ^ d := fun d => by
      induction d with
      | zero => intro p _; exact Nat.one_pos
      | succ d ih =>
        intro p hp
        have w := ih (p + 1) (by omega)
        have v := (kcd_p (hu p (by omega))).2
        show pkV u d (p + 1) * 64 + kcd (u p) < 64 ^ (d + 1)
        rw [Nat.pow_succ]
        omega
    exact Nat.lt_of_lt_of_le (a N 0 (by omega)) (Nat.le_trans (Nat.pow_le_pow_right (by omega) hN.2) (by decide))
  have V0 : 0 < pkV u N 0 := by
    obtain ⟨m, em⟩ : ∃ m : Nat, N = m + 1 := ⟨N - 1, by omega⟩
    rw [em]
    have := (kcd_p (hu 0 (by omega))).1
    show 0 < pkV u m (0 + 1) * 64 + kcd (u 0)
    omega
  have inj : ∀ a b : Nat, a < 2 ^ 60 → b < 2 ^ 60 → Int64.ofNat a = Int64.ofNat b → a = b := fun a b ha hb h => by
    have h := congrArg Int64.toInt h
    rw [Int64.toInt_ofNat_of_lt (by omega), Int64.toInt_ofNat_of_lt (by omega)] at h
    omega
  constructor
  · intro h
    unfold pkO at h
    by_cases y : l ≤ 10
    · rw [if_pos y] at h
      by_cases z : ∀ i : Nat, i < l → kOK (c (q + i)) = true
      · rw [if_pos z] at h
        have V1 : pkV c l q < 2 ^ 60 := Nat.lt_of_lt_of_le (pkV_l h127 l q) (Nat.le_trans (Nat.pow_le_pow_right (by omega) y) (by decide))
        obtain ⟨e, r⟩ := pkV_j l N c u q 0 z (fun i hi => by rw [Nat.zero_add]; exact hu i hi) (inj _ _ V1 V2 h)
        refine ⟨e, fun i hi => ?_⟩
        rw [r i hi, Nat.zero_add]
      · rw [if_neg z] at h
        exact absurd (inj 0 _ (by omega) V2 h) (by omega)
    · rw [if_neg y] at h
      exact absurd (inj 0 _ (by omega) V2 h) (by omega)
  · rintro ⟨e, hc⟩
    subst e
    unfold pkO
    rw [if_pos hN.2, if_pos (fun i hi => by rw [hc i hi]; exact hu i hi)]
    congr 1
    have g : ∀ d p : Nat, p + d ≤ l → pkV c d (q + p) = pkV u d p := fun d => by
      induction d with
      | zero => intro p _; rfl
      | succ d ih =>
        intro p hp
        show pkV c d (q + p + 1) * 64 + kcd (c (q + p)) = pkV u d (p + 1) * 64 + kcd (u p)
        rw [hc p (by omega), show q + p + 1 = q + (p + 1) by omega, ih (p + 1) (by omega)]
    exact g l 0 (by omega)
theorem pq_2 {c : Nat → Nat} (q l x y : Nat) (K : Int64) (hx : kOK x = true) (hy : kOK y = true) (hK : K = Int64.ofNat (kcd y * 64 + kcd x)) (h127 : ∀ i : Nat, c i < 127) : lg_cmp (pkO c q l) K = 0 ↔ l = 2 ∧ c q = x ∧ c (q + 1) = y := by
  rw [lg0, hK, show Int64.ofNat (kcd y * 64 + kcd x) = Int64.ofNat (pkV (fun i => if i = 0 then x else y) 2 0) by
    congr 1
    show kcd y * 64 + kcd x = (0 * 64 + kcd y) * 64 + kcd x
    omega, pq_U q l _ 2 (by omega) (fun i hi => by
    show kOK (if i = 0 then x else y) = true
    split <;> assumption) h127]
  constructor
  · rintro ⟨e, h⟩
    exact ⟨e, h 0 (by omega), h 1 (by omega)⟩
  · rintro ⟨e, h1, h2⟩
    refine ⟨e, fun i hi => ?_⟩
    by_cases z : i = 0
    · subst z; exact h1
    · have z : i = 1 := by omega
      subst z; exact h2
theorem pq_4 {c : Nat → Nat} (q l : Nat) (h127 : ∀ i : Nat, c i < 127) : lg_cmp (pkO c q l) 4006234 = 0 ↔ l = 4 ∧ c q = 122 ∧ c (q + 1) = 101 ∧ c (q + 2) = 114 ∧ c (q + 3) = 111 := by
  rw [lg0, show (4006234 : Int64) = Int64.ofNat (pkV (fun i => if i = 0 then 122 else if i = 1 then 101 else if i = 2 then 114 else 111) 4 0) by decide, pq_U q l _ 4 (by omega) (fun i hi => by
    show kOK (if i = 0 then 122 else if i = 1 then 101 else if i = 2 then 114 else 111) = true
    split
    · decide
    · split
      · decide
      · split <;> decide) h127]
  constructor
  · rintro ⟨e, h⟩
    exact ⟨e, h 0 (by omega), h 1 (by omega), h 2 (by omega), h 3 (by omega)⟩
  · rintro ⟨e, h1, h2, h3, h4⟩
    refine ⟨e, fun i hi => ?_⟩
    by_cases z : i = 0
    · subst z; exact h1
    by_cases z1 : i = 1
    · subst z1; exact h2
    by_cases z2 : i = 2
    · subst z2; exact h3
    · have z : i = 3 := by omega
      subst z; exact h4
def reM (l b d : Nat) : Nat := if l = 3 then (if b = 48 ∨ ¬ (48 ≤ d ∧ d ≤ 57) then 99 else 10 * (b - 48) + (d - 48)) else b - 48
def reK (a m : Nat) : Nat := if a = 120 then (if m < 32 then m else 32) else if a = 97 then (if m < 8 then 10 + m else 32) else if a = 116 then (if m < 3 then 5 + m else if m < 7 then 25 + m else 32) else if a = 115 then (if m < 2 then 8 + m else if m < 12 then 16 + m else 32) else 32
def reS (l a b d e : Nat) : Nat := if l = 4 ∧ a = 122 ∧ b = 101 ∧ d = 114 ∧ e = 111 then 0 else if l = 2 ∧ a = 114 ∧ b = 97 then 1 else if l = 2 ∧ a = 115 ∧ b = 112 then 2 else if l = 2 ∧ a = 103 ∧ b = 112 then 3 else if l = 2 ∧ a = 116 ∧ b = 112 then 4 else if l = 2 ∧ a = 102 ∧ b = 112 then 8 else if l < 2 ∨ 3 < l then 32 else if ¬ (48 ≤ b ∧ b ≤ 57) then 32 else reK a (reM l b d)
def rI (r : Nat) : Int32 := if r < 32 then nI r else -1
theorem reM_l {l b d : Nat} (hb : b < 127) : reM l b d < 900 := by
  unfold reM
  split
  · split <;> omega
  · omega
theorem rg161 (n q m : Nat) {S : St} {a : Nat} (hq : q < 32768) (ha : a < 127) (hm : m < 900) (hS : sR S 2 q = nI a) : df_X13_register_161 n (nI q) (nI m) S = some (rI (reK a m), S) := by
  unfold df_X13_register_161 reK
  rw [nm_ck (by omega) (by omega), nI_clamp (by omega), hS, nb_let]
  by_cases y1 : a = 120
  · rw [if_pos y1, if_pos (show nI a = (120 : Int32) from congrArg nI y1)]
    by_cases z : m < 32
    · rw [if_neg (show ¬ (32 : Int32) ≤ nI m from znle (a := 32) z (by omega)), if_pos z]
      unfold df_X13_register_189 rI
      rw [if_pos z]
    · rw [if_pos (show (32 : Int32) ≤ nI m from zle (a := 32) (by omega) (by omega)), if_neg z]
      rfl
  rw [if_neg y1, if_neg (show ¬ nI a = (120 : Int32) from zne (b := 120) y1 (by omega) (by omega))]
  by_cases y2 : a = 97
  · rw [if_pos y2, if_pos (show nI a = (97 : Int32) from congrArg nI y2)]
    by_cases z : m < 8
    · rw [if_neg (show ¬ (8 : Int32) ≤ nI m from znle (a := 8) z (by omega)), if_pos z]
      unfold df_X13_register_213 rI
      rw [if_pos (by omega), show (10 : Int32) + nI m = nI (10 + m) from nI_add 10 m]
    · rw [if_pos (show (8 : Int32) ≤ nI m from zle (a := 8) (by omega) (by omega)), if_neg z]
      rfl
  rw [if_neg y2, if_neg (show ¬ nI a = (97 : Int32) from zne (b := 97) y2 (by omega) (by omega))]
  by_cases y3 : a = 116
  · rw [if_pos y3, if_pos (show nI a = (116 : Int32) from congrArg nI y3)]
    by_cases z : m < 3
    · rw [if_neg (show ¬ (3 : Int32) ≤ nI m from znle (a := 3) z (by omega)), if_pos z]
      unfold df_X13_register_250 rI
      rw [if_pos (by omega), show (5 : Int32) + nI m = nI (5 + m) from nI_add 5 m]
    · rw [if_pos (show (3 : Int32) ≤ nI m from zle (a := 3) (by omega) (by omega)), if_neg z]
      by_cases z2 : m < 7
      · rw [if_neg (show ¬ (7 : Int32) ≤ nI m from znle (a := 7) z2 (by omega)), if_pos z2]
        unfold df_X13_register_250 rI
        rw [if_pos (by omega), show (25 : Int32) + nI m = nI (25 + m) from nI_add 25 m]
      · rw [if_pos (show (7 : Int32) ≤ nI m from zle (a := 7) (by omega) (by omega)), if_neg z2]
        rfl
  rw [if_neg y3, if_neg (show ¬ nI a = (116 : Int32) from zne (b := 116) y3 (by omega) (by omega))]
  by_cases y4 : a = 115
  · rw [if_pos y4, if_pos (show nI a = (115 : Int32) from congrArg nI y4)]
    by_cases z : m < 2
    · rw [if_neg (show ¬ (2 : Int32) ≤ nI m from znle (a := 2) z (by omega)), if_pos z]
      unfold df_X13_register_292 rI
      rw [if_pos (by omega), show (8 : Int32) + nI m = nI (8 + m) from nI_add 8 m]
    · rw [if_pos (show (2 : Int32) ≤ nI m from zle (a := 2) (by omega) (by omega)), if_neg z]
      by_cases z2 : m < 12
      · rw [if_neg (show ¬ (12 : Int32) ≤ nI m from znle (a := 12) z2 (by omega)), if_pos z2]
        unfold df_X13_register_292 rI
        rw [if_pos (by omega), show (16 : Int32) + nI m = nI (16 + m) from nI_add 16 m]
      · rw [if_pos (show (12 : Int32) ≤ nI m from zle (a := 12) (by omega) (by omega)), if_neg z2]
        rfl
  rw [if_neg y4, if_neg (show ¬ nI a = (115 : Int32) from zne (b := 115) y4 (by omega) (by omega))]
  rfl
theorem re_1 (n : Nat) {S : St} {c : Nat → Nat} (q l : Nat) (hn : 200 < n) (h127 : ∀ i : Nat, c i < 127) (hl : q + l ≤ 32768) (hP : ∀ i : Nat, i < l → aP (c (q + i)) = true ∧ sR S 2 (q + i) = nI (c (q + i))) : df_X13_register n (nI q) (nI (q + l)) S = some (rI (reS l (c q) (c (q + 1)) (c (q + 2)) (c (q + 3))), S) := by
  have p := pk_1 n q l (by omega) h127 hl hP
  unfold df_X13_register df_X13_register_0
  rw [p, nb_b2]
  have k4 := pq_4 (c := c) q l h127
  have w1 := pq_2 (c := c) q l 114 97 82 (by decide) (by decide) (by decide) h127
  have w2 := pq_2 (c := c) q l 115 112 1043 (by decide) (by decide) (by decide) h127
  have w3 := pq_2 (c := c) q l 103 112 1031 (by decide) (by decide) (by decide) h127
  have w4 := pq_2 (c := c) q l 116 112 1044 (by decide) (by decide) (by decide) h127
  have w8 := pq_2 (c := c) q l 102 112 1030 (by decide) (by decide) (by decide) h127
  unfold reS
  by_cases y0 : l = 4 ∧ c q = 122 ∧ c (q + 1) = 101 ∧ c (q + 2) = 114 ∧ c (q + 3) = 111
  · rw [if_pos y0, if_pos (k4.mpr y0)]; rfl
  rw [if_neg y0, if_neg (fun z => y0 (k4.mp z))]
  by_cases y1 : l = 2 ∧ c q = 114 ∧ c (q + 1) = 97
  · rw [if_pos y1, if_pos (w1.mpr y1)]; rfl
  rw [if_neg y1, if_neg (fun z => y1 (w1.mp z))]
  by_cases y2 : l = 2 ∧ c q = 115 ∧ c (q + 1) = 112
  · rw [if_pos y2, if_pos (w2.mpr y2)]; rfl
  rw [if_neg y2, if_neg (fun z => y2 (w2.mp z))]
  by_cases y3 : l = 2 ∧ c q = 103 ∧ c (q + 1) = 112
  · rw [if_pos y3, if_pos (w3.mpr y3)]; rfl
  rw [if_neg y3, if_neg (fun z => y3 (w3.mp z))]
  by_cases y4 : l = 2 ∧ c q = 116 ∧ c (q + 1) = 112
  · rw [if_pos y4, if_pos (w4.mpr y4)]; rfl
  rw [if_neg y4, if_neg (fun z => y4 (w4.mp z))]
  by_cases y8 : l = 2 ∧ c q = 102 ∧ c (q + 1) = 112
  · rw [if_pos y8, if_pos (w8.mpr y8)]; rfl
  rw [if_neg y8, if_neg (fun z => y8 (w8.mp z))]
  clear k4 w1 w2 w3 w4 w8 y1 y2 y3 y4 y8 y0 p
  rw [pk_sub (by omega), show q + l - q = l by omega]
  by_cases z1 : l < 2
  · rw [if_pos (show nI l < (2 : Int32) from zlt (b := 2) z1 (by omega)), if_pos (Or.inl z1)]; rfl
  rw [if_neg (show ¬ nI l < (2 : Int32) from znl (b := 2) (by omega) (by omega))]
  by_cases z2 : 3 < l
  · rw [if_pos (show (3 : Int32) < nI l from zlt (a := 3) z2 (by omega)), if_pos (Or.inr z2)]; rfl
  rw [if_neg (show ¬ (3 : Int32) < nI l from znl (a := 3) (by omega) (by omega)), if_neg (by omega)]
  have b127 := h127 (q + 1)
  have d127 := h127 (q + 2)
  have t0 := (hP 0 (by omega)).2
  have t1 := (hP 1 (by omega)).2
  have i1 := id_13 n (c := c (q + 1)) (by omega)
  rw [show nI q + (1 : Int32) = nI (q + 1) from nI_add q 1, nm_ck (by omega) (by omega), nI_clamp (by omega), t1, i1, nb_b2]
  rw [Nat.add_zero] at t0
  by_cases z3 : 48 ≤ c (q + 1) ∧ c (q + 1) ≤ 57
  · rw [show aD (c (q + 1)) = true from aD_v.mpr z3, if_neg (show ¬ bI true = 0 by decide), if_neg (fun w => w z3), nm_ck (by omega) (by omega), nb_let, show nI (c (q + 1)) - (48 : Int32) = nI (c (q + 1) - 48) from pk_sub (b := 48) z3.1]
    have rm := reM_l (l := l) (d := c (q + 2)) b127
    have fin := rg161 n q (reM l (c (q + 1)) (c (q + 2))) (S := S) (by omega) (h127 q) rm t0
    by_cases z4 : l = 3
    · rw [if_pos (show nI l = (3 : Int32) from congrArg nI z4)]
      by_cases z5 : c (q + 1) = 48
      · rw [if_pos (show nI (c (q + 1) - 48) = (0 : Int32) by rw [z5]; rfl)]
        have e : reM l (c (q + 1)) (c (q + 2)) = 99 := by unfold reM; rw [if_pos z4, if_pos (Or.inl z5)]
        rw [e] at fin ⊢
        exact fin
      · have t2 := (hP 2 (by omega)).2
        have i2 := id_13 n (c := c (q + 2)) (by omega)
        rw [if_neg (show ¬ nI (c (q + 1) - 48) = (0 : Int32) from zne (b := 0) (by omega) (by omega) (by omega)), show nI q + (2 : Int32) = nI (q + 2) from nI_add q 2, nm_ck (by omega) (by omega), nI_clamp (by omega), t2, i2, nb_b2]
        by_cases z6 : 48 ≤ c (q + 2) ∧ c (q + 2) ≤ 57
        · have e : reM l (c (q + 1)) (c (q + 2)) = 10 * (c (q + 1) - 48) + (c (q + 2) - 48) := by unfold reM; rw [if_pos z4, if_neg (by omega)]
          rw [show aD (c (q + 2)) = true from aD_v.mpr z6, if_neg (show ¬ bI true = 0 by decide), nm_ck (by omega) (by omega), show (10 : Int32) * nI (c (q + 1) - 48) = nI (10 * (c (q + 1) - 48)) from pk_mul 10 _, nI_add, show nI (10 * (c (q + 1) - 48) + c (q + 2)) - (48 : Int32) = nI (10 * (c (q + 1) - 48) + (c (q + 2) - 48)) from (pk_sub (b := 48) (by omega)).trans (congrArg nI (by omega))]
          rw [e] at fin ⊢
          exact fin
        · have e : reM l (c (q + 1)) (c (q + 2)) = 99 := by unfold reM; rw [if_pos z4, if_pos (Or.inr z6)]
          have f : aD (c (q + 2)) = false := by
            cases hh : aD (c (q + 2)) with
            | true => exact absurd (aD_v.mp hh) z6
            | false => rfl
          rw [f, if_pos (show bI false = 0 from rfl)]
          rw [e] at fin ⊢
          exact fin
    · rw [if_neg (show ¬ nI l = (3 : Int32) from zne (b := 3) z4 (by omega) (by omega))]
      have e : reM l (c (q + 1)) (c (q + 2)) = c (q + 1) - 48 := by unfold reM; rw [if_neg z4]
      rw [e] at fin ⊢
      exact fin
  · have f : aD (c (q + 1)) = false := by
      cases hh : aD (c (q + 1)) with
      | true => exact absurd (aD_v.mp hh) z3
      | false => rfl
    rw [f, if_pos (show bI false = 0 from rfl), if_pos z3]
    rfl
/-- the class: the row of names -/
def cN3 (l a b d : Nat) : Nat → Bool := fun r => decide (kl 11 (3 * (r - 1)) = a ∧ kl 11 (3 * (r - 1) + 1) = b ∧ kl 11 (3 * (r - 1) + 2) = (if l = 3 then d else 32))
theorem ks_11 : ks_n 11 = 93 := by decide +kernel
theorem is_s (n m r q l i : Nat) {c : Nat → Nat} {B : St} (h127 : ∀ i : Nat, c i < 127) (hr : 1 ≤ r ∧ r ≤ 31) (hi : i < 3) (hl : l ≤ 3) (hq : q + l ≤ 32768) (hB : ∀ i : Nat, i < l → sR B 0 (q + i) = nI (c (q + i))) : df_X7_isNamed_3 n (m + 1) (nI r) (nI q) (nI l) (nI i) B = if kl 11 (3 * (r - 1) + i) = (if i < l then c (q + i) else 32) then df_X7_isNamed_3 n m (nI r) (nI q) (nI l) (nI (i + 1)) B else some (nI 0, B) := by
  have k := kl_1 ⟨11, by omega⟩ ⟨3 * (r - 1) + i, by omega⟩
  have k1 : ks_b 11 (3 * (r - 1) + i) = nI (kl 11 (3 * (r - 1) + i)) := k.1
  have k2 : kl 11 (3 * (r - 1) + i) < 127 := k.2
  have ch := ch_1 n 11 (3 * (r - 1) + i) (by omega) (by rw [ks_11]; omega)
  rw [k1] at ch
  generalize kl 11 (3 * (r - 1) + i) = x at k2 ch
  have c127 := h127 (q + i)
  show dF_X7_isNamed_3 n (df_X7_isNamed_3 n m) (nI r) (nI q) (nI l) (nI i) B = _
  unfold dF_X7_isNamed_3
  rw [if_neg (show ¬ (3 : Int32) ≤ nI i from znle (a := 3) hi (by omega)), show ((nI r - 1) * 3 + nI i : Int32) = nI (3 * (r - 1) + i) by
    rw [show (1 : Int32) = nI 1 from rfl, show (3 : Int32) = nI 3 from rfl, pk_sub (by omega), pk_mul, nI_add, Nat.mul_comm], ch, nb_b2]
  by_cases y : i < l
  · rw [if_neg (show ¬ nI l ≤ nI i from znle y (by omega)), nI_add, nm_ck (by omega) (by omega), nI_clamp (by omega), hB i y, if_pos y]
    unfold df_X7_isNamed_44
    by_cases z : x = c (q + i)
    · rw [if_pos z, if_pos (congrArg nI z), nb_let, show nI i + Int32.ofInt 1 = nI (i + 1) from nI_add i 1]
    · rw [if_neg z, if_neg (zne z (by omega) (by omega))]
      rfl
  · rw [if_pos (show nI l ≤ nI i from zle (by omega) (by omega)), if_neg y]
    unfold df_X7_isNamed_44
    by_cases z : x = 32
    · rw [if_pos z, if_pos (show nI x = (32 : Int32) from congrArg nI z), nb_let, show nI i + Int32.ofInt 1 = nI (i + 1) from nI_add i 1]
    · rw [if_neg z, if_neg (show ¬ nI x = (32 : Int32) from zne (b := 32) z (by omega) (by omega))]
      rfl
theorem is_1 (n r q l : Nat) {c : Nat → Nat} {B : St} (hn : 10 < n) (h127 : ∀ i : Nat, c i < 127) (hr : 1 ≤ r ∧ r ≤ 31) (hl : l = 2 ∨ l = 3) (hq : q + l ≤ 32768) (hB : ∀ i : Nat, i < l → sR B 0 (q + i) = nI (c (q + i))) : df_X7_isNamed n (nI r) (nI q) (nI l) B = some (bI (cN3 l (c q) (c (q + 1)) (c (q + 2)) r), B) := by
  obtain ⟨m, hm⟩ : ∃ m : Nat, n = m + 1 + 1 + 1 + 1 := ⟨n - 4, by omega⟩
  refine Eq.trans (show _ = df_X7_isNamed_3 n n (nI r) (nI q) (nI l) (nI 0) B from rfl) ?_
  rw [congrArg (fun g => df_X7_isNamed_3 n g (nI r) (nI q) (nI l) (nI 0) B) hm]
  show df_X7_isNamed_3 n (m + 1 + 1 + 1 + 1) (nI r) (nI q) (nI l) (nI 0) B = _
  have s0 := is_s n (m + 1 + 1 + 1) r q l 0 (c := c) (B := B) h127 hr (by omega) (by omega) hq hB
  have s1 := is_s n (m + 1 + 1) r q l 1 (c := c) (B := B) h127 hr (by omega) (by omega) hq hB
  have s2 := is_s n (m + 1) r q l 2 (c := c) (B := B) h127 hr (by omega) (by omega) hq hB
  rw [if_pos (show 0 < l by omega)] at s0
  rw [if_pos (show 1 < l by omega)] at s1
  rw [Nat.add_zero (3 * (r - 1)), Nat.add_zero q] at s0
  rw [s0]
  unfold cN3
  have e2 : (if 2 < l then c (q + 2) else 32) = (if l = 3 then c (q + 2) else 32) := by
    rcases hl with hl | hl <;> subst hl <;> rfl
  rw [e2] at s2
  have fin : df_X7_isNamed_3 n (m + 1) (nI r) (nI q) (nI l) (nI 3) B = some (nI 1, B) := by
    show dF_X7_isNamed_3 n (df_X7_isNamed_3 n m) (nI r) (nI q) (nI l) (nI 3) B = _
    unfold dF_X7_isNamed_3
    rw [if_pos (show (3 : Int32) ≤ nI 3 from zle (a := 3) (Nat.le_refl 3) (by omega))]
    rfl
  by_cases y0 : kl 11 (3 * (r - 1)) = c q
  · rw [if_pos y0, s1]
    by_cases y1 : kl 11 (3 * (r - 1) + 1) = c (q + 1)
    · rw [if_pos y1, s2]
      by_cases y2 : kl 11 (3 * (r - 1) + 2) = (if l = 3 then c (q + 2) else 32)
      · rw [if_pos y2, fin, decide_eq_true ⟨y0, y1, y2⟩]
        rfl
      · rw [if_neg y2, decide_eq_false (fun z => y2 z.2.2)]
        rfl
    · rw [if_neg y1, decide_eq_false (fun z => y1 z.2.1)]
      rfl
  · rw [if_neg y0, decide_eq_false (fun z => y0 z.1)]
    rfl
theorem rl_1 (n q l : Nat) {c : Nat → Nat} {B : St} (hn : 100 < n) (h127 : ∀ i : Nat, c i < 127) (hl : l = 2 ∨ l = 3) (hq : q + l ≤ 32768) (hB : ∀ i : Nat, i < l → sR B 0 (q + i) = nI (c (q + i))) : df_X7_registerAt_74 n n (nI q) (nI l) (nI 1) B = some (rI (fN (cN3 l (c q) (c (q + 1)) (c (q + 2))) 1 31), B) := by
  obtain ⟨m, em⟩ := nm_ls (fun g i => df_X7_registerAt_74 n g (nI q) (nI l) (nI i) B) (cN3 l (c q) (c (q + 1)) (c (q + 2))) 1 31 n (by omega) (fun k m k1 k2 k3 => by
    have s := is_1 n k q l (c := c) (B := B) (by omega) h127 (by omega) hl hq hB
    rw [k3] at s
    show dF_X7_registerAt_74 n (df_X7_registerAt_74 n m) (nI q) (nI l) (nI k) B = df_X7_registerAt_74 n m (nI q) (nI l) (nI (k + 1)) B
    unfold dF_X7_registerAt_74
    rw [if_neg (show ¬ (32 : Int32) ≤ nI k from znle (a := 32) (by omega) (by omega)), s, nb_b2, if_pos (show bI false = 0 from rfl), nb_let, show nI k + Int32.ofInt 1 = nI (k + 1) from nI_add k 1])
  refine Eq.trans em ?_
  obtain ⟨f1, f2, f3, f4⟩ := fN_le (cN3 l (c q) (c (q + 1)) (c (q + 2))) 31 1
  generalize fN (cN3 l (c q) (c (q + 1)) (c (q + 2))) 1 31 = f at f1 f2 f3 f4
  show dF_X7_registerAt_74 n (df_X7_registerAt_74 n m) (nI q) (nI l) (nI f) B = _
  unfold dF_X7_registerAt_74
  by_cases y : f < 32
  · have s := is_1 n f q l (c := c) (B := B) (by omega) h127 (by omega) hl hq hB
    rw [f3 (by omega)] at s
    rw [if_neg (show ¬ (32 : Int32) ≤ nI f from znle (a := 32) y (by omega)), s, nb_b2, if_neg (show ¬ bI true = 0 by decide)]
    unfold rI
    rw [if_pos y]
  · have y2 : f = 32 := by omega
    subst y2
    rw [if_pos (show (32 : Int32) ≤ nI 32 from zle (a := 32) (Nat.le_refl 32) (by omega))]
    rfl
/-- the row of names says what reS says -/
theorem tb2 : ∀ r : Fin 32, 1 ≤ r.1 → kl 11 (3 * (r.1 - 1) + 2) = 32 → reS 2 (kl 11 (3 * (r.1 - 1))) (kl 11 (3 * (r.1 - 1) + 1)) 0 0 = r.1 := by decide +kernel
theorem tb3 : ∀ r : Fin 32, 1 ≤ r.1 → ¬ kl 11 (3 * (r.1 - 1) + 2) = 32 → reS 3 (kl 11 (3 * (r.1 - 1))) (kl 11 (3 * (r.1 - 1) + 1)) (kl 11 (3 * (r.1 - 1) + 2)) 0 = r.1 := by decide +kernel
theorem ts2 (a b d e : Nat) : reS 2 a b d e = reS 2 a b 0 0 := rfl
theorem ts3 (a b d e : Nat) : reS 3 a b d e = reS 3 a b d 0 := rfl
theorem tn2 (a b d r : Nat) : cN3 2 a b d r = cN3 2 a b 0 r := rfl
theorem t97 : ∀ m : Fin 8, cN3 2 97 (48 + m.1) 0 (10 + m.1) = true := by decide +kernel
theorem t116a : ∀ m : Fin 3, cN3 2 116 (48 + m.1) 0 (5 + m.1) = true := by decide +kernel
theorem t116b : ∀ m : Fin 7, 3 ≤ m.1 → cN3 2 116 (48 + m.1) 0 (25 + m.1) = true := by decide +kernel
theorem t115a : ∀ m : Fin 2, cN3 2 115 (48 + m.1) 0 (8 + m.1) = true := by decide +kernel
theorem t115b : ∀ m : Fin 10, 2 ≤ m.1 → cN3 2 115 (48 + m.1) 0 (16 + m.1) = true := by decide +kernel
theorem t115c : ∀ m : Fin 2, cN3 3 115 49 (48 + m.1) (26 + m.1) = true := by decide +kernel
theorem tq : cN3 2 114 97 0 1 = true ∧ cN3 2 115 112 0 2 = true ∧ cN3 2 103 112 0 3 = true ∧ cN3 2 116 112 0 4 = true := by decide +kernel
theorem cj_A {l a b d e : Nat} (hl : l = 2 ∨ l = 3) (ha : ¬ a = 120) (hd : l = 3 → ¬ d = 32) {r : Nat} (h1 : 1 ≤ r) (h2 : r ≤ 31) (h : cN3 l a b d r = true) : reS l a b d e = r := by
  obtain ⟨e1, e2, e3⟩ := of_decide_eq_true h
  rcases hl with hl | hl
  · subst hl
    have e3 : kl 11 (3 * (r - 1) + 2) = 32 := e3
    have := tb2 ⟨r, by omega⟩ h1 e3
    rw [ts2, ← e1, ← e2]
    exact this
  · subst hl
    have e3 : kl 11 (3 * (r - 1) + 2) = d := e3
    have := tb3 ⟨r, by omega⟩ h1 (by
      show ¬ kl 11 (3 * (r - 1) + 2) = 32
      rw [e3]
      exact hd rfl)
    rw [ts3, ← e1, ← e2, ← e3]
    exact this
theorem cj_B {l a b d e : Nat} (hl : l = 2 ∨ l = 3) (ha : ¬ a = 120) (hf : ¬ (l = 2 ∧ a = 102 ∧ b = 112)) (h : reS l a b d e < 32) : 1 ≤ reS l a b d e ∧ cN3 l a b d (reS l a b d e) = true := by
  unfold reS at h ⊢
  rw [if_neg (show ¬ (l = 4 ∧ a = 122 ∧ b = 101 ∧ d = 114 ∧ e = 111) by omega)] at h ⊢
  by_cases y1 : l = 2 ∧ a = 114 ∧ b = 97
  · rw [if_pos y1]
    obtain ⟨e0, e1, e2⟩ := y1
    subst e0; subst e1; subst e2
    exact ⟨Nat.le_refl 1, (tn2 _ _ _ _).trans tq.1⟩
  rw [if_neg y1] at h ⊢
  by_cases y2 : l = 2 ∧ a = 115 ∧ b = 112
  · rw [if_pos y2]
    obtain ⟨e0, e1, e2⟩ := y2
    subst e0; subst e1; subst e2
    exact ⟨by omega, (tn2 _ _ _ _).trans tq.2.1⟩
  rw [if_neg y2] at h ⊢
  by_cases y3 : l = 2 ∧ a = 103 ∧ b = 112
  · rw [if_pos y3]
    obtain ⟨e0, e1, e2⟩ := y3
    subst e0; subst e1; subst e2
    exact ⟨by omega, (tn2 _ _ _ _).trans tq.2.2.1⟩
  rw [if_neg y3] at h ⊢
  by_cases y4 : l = 2 ∧ a = 116 ∧ b = 112
  · rw [if_pos y4]
    obtain ⟨e0, e1, e2⟩ := y4
    subst e0; subst e1; subst e2
    exact ⟨by omega, (tn2 _ _ _ _).trans tq.2.2.2⟩
  rw [if_neg y4, if_neg hf, if_neg (show ¬ (l < 2 ∨ 3 < l) by omega)] at h ⊢
  by_cases y5 : 48 ≤ b ∧ b ≤ 57
  · rw [if_neg (fun z => z y5)] at h ⊢
    clear y1 y2 y3 y4 hf
    rcases hl with hl | hl
    · subst hl
      have em : reM 2 b d = b - 48 := rfl
      rw [em] at h ⊢
      obtain ⟨m, rfl⟩ : ∃ m : Nat, b = 48 + m := ⟨b - 48, by omega⟩
      rw [show 48 + m - 48 = m by omega] at h ⊢
      rw [tn2]
      unfold reK at h ⊢
      rw [if_neg ha] at h ⊢
      by_cases z1 : a = 97
      · subst z1
        rw [if_pos rfl] at h ⊢
        by_cases w : m < 8
        · rw [if_pos w]
          exact ⟨by omega, t97 ⟨m, w⟩⟩
        · rw [if_neg w] at h; omega
      rw [if_neg z1] at h ⊢
      by_cases z2 : a = 116
      · subst z2
        rw [if_pos rfl] at h ⊢
        by_cases w : m < 3
        · rw [if_pos w]
          exact ⟨by omega, t116a ⟨m, w⟩⟩
        · rw [if_neg w] at h ⊢
          by_cases w2 : m < 7
          · rw [if_pos w2]
            exact ⟨by omega, t116b ⟨m, w2⟩ (show 3 ≤ m by omega)⟩
          · rw [if_neg w2] at h; omega
      rw [if_neg z2] at h ⊢
      by_cases z3 : a = 115
      · subst z3
        rw [if_pos rfl] at h ⊢
        by_cases w : m < 2
        · rw [if_pos w]
          exact ⟨by omega, t115a ⟨m, w⟩⟩
        · rw [if_neg w] at h ⊢
          rw [if_pos (show m < 12 by omega)]
          exact ⟨by omega, t115b ⟨m, by omega⟩ (show 2 ≤ m by omega)⟩
      rw [if_neg z3] at h
      omega
    · subst hl
      have em : reM 3 b d = if b = 48 ∨ ¬ (48 ≤ d ∧ d ≤ 57) then 99 else 10 * (b - 48) + (d - 48) := rfl
      have m10 : 10 ≤ reM 3 b d := by rw [em]; split <;> omega
      unfold reK at h ⊢
      rw [if_neg ha] at h ⊢
      by_cases z1 : a = 97
      · rw [if_pos z1, if_neg (by omega)] at h; omega
      rw [if_neg z1] at h ⊢
      by_cases z2 : a = 116
      · rw [if_pos z2, if_neg (by omega), if_neg (by omega)] at h; omega
      rw [if_neg z2] at h ⊢
      by_cases z3 : a = 115
      · subst z3
        rw [if_pos rfl, if_neg (by omega)] at h ⊢
        by_cases w : reM 3 b d < 12
        · rw [if_pos w]
          have hb : b = 49 ∧ (d = 48 ∨ d = 49) ∧ reM 3 b d = 10 + (d - 48) := by
            rw [em] at w ⊢
            split at w
            · omega
            · rename_i k
              rw [if_neg k]
              omega
          obtain ⟨b1, b2, b3⟩ := hb
          rw [b3]
          subst b1
          have := t115c ⟨d - 48, by omega⟩
          rw [show 48 + (⟨d - 48, (by omega : d - 48 < 2)⟩ : Fin 2).1 = d from (by show 48 + (d - 48) = d; omega)] at this
          refine ⟨by omega, ?_⟩
          rw [show 16 + (10 + (d - 48)) = 26 + (d - 48) by omega]
          exact this
        · rw [if_neg w] at h; omega
      rw [if_neg z3] at h
      omega
  · rw [if_pos y5] at h
    omega
theorem cj_1 {l a b d e : Nat} (hl : l = 2 ∨ l = 3) (ha : ¬ a = 120) (hf : ¬ (l = 2 ∧ a = 102 ∧ b = 112)) (hd : l = 3 → ¬ d = 32) : rI (fN (cN3 l a b d) 1 31) = rI (reS l a b d e) := by
  by_cases y : reS l a b d e < 32
  · obtain ⟨h1, h2⟩ := cj_B hl ha hf y
    rw [fN_is (j := reS l a b d e) h1 (by omega) h2 (fun i i1 i2 => by
      cases hh : cN3 l a b d i with
      | false => rfl
      | true =>
        have := cj_A (e := e) hl ha hd i1 (by omega) hh
        omega)]
  · rw [fN_no (fun i i1 i2 => by
      cases hh : cN3 l a b d i with
      | false => rfl
      | true =>
        have := cj_A (e := e) hl ha hd i1 (by omega) hh
        omega)]
    unfold rI
    rw [if_neg (by omega), if_neg y]
/-- the class: x and a number -/
theorem nu_s (n m q k v i x : Nat) {B : St} (hi : i < k) (hk : k ≤ 2) (hv : v < 100) (hx : x < 127) (hq : q + k ≤ 32768) (hB : sR B 0 (q + i) = nI x) : df_X7_numbered_5 n (m + 1) (nI q) (nI k) (nI v) (nI i) B = if 48 ≤ x ∧ x ≤ 57 then df_X7_numbered_5 n m (nI q) (nI k) (nI (v * 10 + (x - 48))) (nI (i + 1)) B else some (-1, B) := by
  show dF_X7_numbered_5 n (df_X7_numbered_5 n m) (nI q) (nI k) (nI v) (nI i) B = _
  unfold dF_X7_numbered_5
  rw [if_neg (show ¬ nI k ≤ nI i from znle hi (by omega)), nI_add, nm_ck (by omega) (by omega), nI_clamp (by omega), hB, nb_let]
  by_cases y : x < 48
  · rw [if_pos (show nI x - 48 < (0 : Int32) by
      rw [Int32.lt_iff_toInt_lt, show (48 : Int32) = nI 48 from rfl, pk_sub_toInt (by omega) (by omega)]
      show (x : Int) - 48 < 0
      omega), if_neg (by omega)]
    rfl
  · rw [show nI x - (48 : Int32) = nI (x - 48) from pk_sub (b := 48) (by omega), if_neg (show ¬ nI (x - 48) < (0 : Int32) from znl (b := 0) (by omega) (by omega))]
    by_cases z : x ≤ 57
    · rw [if_pos (show nI (x - 48) ≤ (9 : Int32) from zle (b := 9) (by omega) (by omega)), if_pos ⟨by omega, z⟩, nb_let, nb_let, show nI v * (10 : Int32) = nI (v * 10) from pk_mul v 10, nI_add, show nI i + Int32.ofInt 1 = nI (i + 1) from nI_add i 1]
    · rw [if_neg (show ¬ nI (x - 48) ≤ (9 : Int32) from znle (b := 9) (by omega) (by omega)), if_neg (by omega)]
      rfl
theorem nu_z (n m q k v : Nat) {B : St} (hk : k = 1 ∨ k = 2) (hv : v < 1000) (h1 : k = 1 → v < 10) : df_X7_numbered_5 n (m + 1) (nI q) (nI k) (nI v) (nI k) B = some (rI (if k = 2 ∧ v < 10 then 32 else v), B) := by
  show dF_X7_numbered_5 n (df_X7_numbered_5 n m) (nI q) (nI k) (nI v) (nI k) B = _
  unfold dF_X7_numbered_5
  rw [if_pos (show nI k ≤ nI k from zle (Nat.le_refl k) (by omega))]
  by_cases y : 31 < v
  · rw [if_pos (show (31 : Int32) < nI v from zlt (a := 31) y (by omega)), if_neg (by omega)]
    unfold rI
    rw [if_neg (by omega)]
    rfl
  rw [if_neg (show ¬ (31 : Int32) < nI v from znl (a := 31) (by omega) (by omega))]
  rcases hk with hk | hk
  · subst hk
    rw [if_neg (show ¬ nI 1 = (2 : Int32) by decide), if_neg (by omega)]
    unfold rI
    rw [if_pos (by omega)]
    rfl
  · subst hk
    rw [if_pos (show nI 2 = (2 : Int32) from rfl)]
    by_cases z : v < 10
    · rw [if_neg (show ¬ (10 : Int32) ≤ nI v from znle (a := 10) z (by omega)), if_pos ⟨rfl, z⟩]
      rfl
    · rw [if_pos (show (10 : Int32) ≤ nI v from zle (a := 10) (by omega) (by omega)), if_neg (fun w => z w.2)]
      unfold rI
      rw [if_pos (by omega)]
      rfl
theorem nu_1 (n q l b d e : Nat) {B : St} (hn : 10 < n) (hl : l = 2 ∨ l = 3) (hb : b < 127) (hd : d < 127) (hq : q + l ≤ 32768) (h1 : sR B 0 (q + 1) = nI b) (h2 : l = 3 → sR B 0 (q + 2) = nI d) : df_X7_numbered n (nI (q + 1)) (nI (l - 1)) B = some (rI (reS l 120 b d e), B) := by
  obtain ⟨m, hm⟩ : ∃ m : Nat, n = m + 1 + 1 + 1 := ⟨n - 3, by omega⟩
  refine Eq.trans (show _ = df_X7_numbered_5 n n (nI (q + 1)) (nI (l - 1)) (nI 0) (nI 0) B from rfl) ?_
  rw [congrArg (fun g => df_X7_numbered_5 n g (nI (q + 1)) (nI (l - 1)) (nI 0) (nI 0) B) hm]
  show df_X7_numbered_5 n (m + 1 + 1 + 1) (nI (q + 1)) (nI (l - 1)) (nI 0) (nI 0) B = _
  have s0 := nu_s n (m + 1 + 1) (q + 1) (l - 1) 0 0 b (B := B) (by omega) (by omega) (by omega) hb (by omega) h1
  rw [s0]
  unfold reS
  rw [if_neg (show ¬ (l = 4 ∧ 120 = 122 ∧ b = 101 ∧ d = 114 ∧ e = 111) by omega), if_neg (show ¬ (l = 2 ∧ 120 = 114 ∧ b = 97) by omega), if_neg (show ¬ (l = 2 ∧ 120 = 115 ∧ b = 112) by omega), if_neg (show ¬ (l = 2 ∧ 120 = 103 ∧ b = 112) by omega), if_neg (show ¬ (l = 2 ∧ 120 = 116 ∧ b = 112) by omega), if_neg (show ¬ (l = 2 ∧ 120 = 102 ∧ b = 112) by omega), if_neg (show ¬ (l < 2 ∨ 3 < l) by omega)]
  by_cases y : 48 ≤ b ∧ b ≤ 57
  · rw [if_pos y, if_neg (fun z => z y), show 0 * 10 + (b - 48) = b - 48 by omega]
    unfold reK
    rw [if_pos (show 120 = 120 from rfl)]
    rcases hl with hl | hl
    · subst hl
      have f := nu_z n (m + 1) (q + 1) 1 (b - 48) (B := B) (Or.inl rfl) (by omega) (fun _ => by omega)
      rw [if_neg (by omega)] at f
      have em : reM 2 b d = b - 48 := rfl
      rw [em, if_pos (by omega)]
      exact f
    · subst hl
      have s1 := nu_s n (m + 1) (q + 1) 2 (b - 48) 1 d (B := B) (by omega) (by omega) (by omega) hd (by omega) (h2 rfl)
      have em : reM 3 b d = if b = 48 ∨ ¬ (48 ≤ d ∧ d ≤ 57) then 99 else 10 * (b - 48) + (d - 48) := rfl
      refine Eq.trans (show _ = df_X7_numbered_5 n (m + 1 + 1) (nI (q + 1)) (nI 2) (nI (b - 48)) (nI 1) B from rfl) ?_
      rw [s1, em]
      by_cases z : 48 ≤ d ∧ d ≤ 57
      · have f := nu_z n m (q + 1) 2 ((b - 48) * 10 + (d - 48)) (B := B) (Or.inr rfl) (by omega) (by omega)
        rw [if_pos z]
        refine Eq.trans f ?_
        by_cases w : b = 48
        · rw [if_pos (show b = 48 ∨ ¬ (48 ≤ d ∧ d ≤ 57) from Or.inl w), if_pos (by omega), if_neg (by omega)]
        · rw [if_neg (show ¬ (b = 48 ∨ ¬ (48 ≤ d ∧ d ≤ 57)) by omega), if_neg (show ¬ (2 = 2 ∧ (b - 48) * 10 + (d - 48) < 10) by omega), Nat.mul_comm (b - 48) 10]
          by_cases u : 10 * (b - 48) + (d - 48) < 32
          · rw [if_pos u]
          · rw [if_neg u]
            unfold rI
            rw [if_neg u, if_neg (by omega)]
      · rw [if_neg z, if_pos (show b = 48 ∨ ¬ (48 ≤ d ∧ d ≤ 57) from Or.inr z), if_neg (by omega)]
        rfl
  · rw [if_neg y, if_pos y]
    rfl
/-- the class: a register's name -/
theorem cr_1 (n q l : Nat) {c : Nat → Nat} {B : St} (hn : 200 < n) (hln : l < n) (h127 : ∀ i : Nat, c i < 127) (hq : q + l ≤ 32768) (hP : ∀ i : Nat, i < l → aP (c (q + i)) = true) (hB : ∀ i : Nat, i < l → sR B 0 (q + i) = nI (c (q + i))) : df_X7_registerAt n (nI q) (nI l) B = some (rI (reS l (c q) (c (q + 1)) (c (q + 2)) (c (q + 3))), B) := by
  have K10 : ks_n 10 = 4 ∧ ks_b 10 0 = nI 122 ∧ ks_b 10 1 = nI 101 ∧ ks_b 10 2 = nI 114 ∧ ks_b 10 3 = nI 111 := by decide +kernel
  have K18 : ks_n 18 = 2 ∧ ks_b 18 0 = nI 102 ∧ ks_b 18 1 = nI 112 := by decide +kernel
  have N : ∀ i : Nat, c i < 2 ^ 31 := fun i => by have := h127 i; omega
  have w10 : wq 10 q l (sR B 0) ↔ (l = 4 ∧ c q = 122 ∧ c (q + 1) = 101 ∧ c (q + 2) = 114 ∧ c (q + 3) = 111) := by
    constructor
    · rintro ⟨e, h⟩
      rw [K10.1] at e
      have g : ∀ i v : Nat, i < l → v < 2 ^ 31 → ks_b 10 i = nI v → c (q + i) = v := fun i v hi hv hk => by
        have := h i hi
        rw [hB i hi, hk, nI_eq (by have := N (q + i); omega) (by omega)] at this
        exact this
      exact ⟨e.symm, g 0 122 (by omega) (by omega) K10.2.1, g 1 101 (by omega) (by omega) K10.2.2.1, g 2 114 (by omega) (by omega) K10.2.2.2.1, g 3 111 (by omega) (by omega) K10.2.2.2.2⟩
    · rintro ⟨e, h0, h1, h2, h3⟩
      refine ⟨by rw [K10.1, e], fun i hi => ?_⟩
      rw [hB i hi]
      by_cases z0 : i = 0
      · subst z0; rw [K10.2.1]; exact congrArg nI h0
      by_cases z1 : i = 1
      · subst z1; rw [K10.2.2.1, h1]
      by_cases z2 : i = 2
      · subst z2; rw [K10.2.2.2.1, h2]
      · have z : i = 3 := by omega
        subst z; rw [K10.2.2.2.2, h3]
  have w18 : wq 18 q l (sR B 0) ↔ (l = 2 ∧ c q = 102 ∧ c (q + 1) = 112) := by
    constructor
    · rintro ⟨e, h⟩
      rw [K18.1] at e
      have g : ∀ i v : Nat, i < l → v < 2 ^ 31 → ks_b 18 i = nI v → c (q + i) = v := fun i v hi hv hk => by
        have := h i hi
        rw [hB i hi, hk, nI_eq (by have := N (q + i); omega) (by omega)] at this
        exact this
      exact ⟨e.symm, g 0 102 (by omega) (by omega) K18.2.1, g 1 112 (by omega) (by omega) K18.2.2⟩
    · rintro ⟨e, h0, h1⟩
      refine ⟨by rw [K18.1, e], fun i hi => ?_⟩
      rw [hB i hi]
      by_cases z0 : i = 0
      · subst z0; rw [K18.2.1]; exact congrArg nI h0
      · have z : i = 1 := by omega
        subst z; rw [K18.2.2, h1]
  unfold df_X7_registerAt df_X7_registerAt_0
  by_cases y0 : l = 4 ∧ c q = 122 ∧ c (q + 1) = 101 ∧ c (q + 2) = 114 ∧ c (q + 3) = 111
  · rw [sn_y n 10 q l hln (by omega) hq (w10.mpr y0), nb_b2, if_neg (show ¬ nI 1 = (0 : Int32) by decide)]
    unfold reS
    rw [if_pos y0]
    rfl
  rw [sn_n n 10 q l hln (by omega) hq (fun z => y0 (w10.mp z)), nb_b2, if_pos (show nI 0 = (0 : Int32) from rfl)]
  by_cases y8 : l = 2 ∧ c q = 102 ∧ c (q + 1) = 112
  · rw [sn_y n 18 q l hln (by omega) hq (w18.mpr y8), nb_b2, if_neg (show ¬ nI 1 = (0 : Int32) by decide)]
    obtain ⟨e0, e1, e2⟩ := y8
    rw [e0, e1, e2]
    rfl
  rw [sn_n n 18 q l hln (by omega) hq (fun z => y8 (w18.mp z)), nb_b2, if_pos (show nI 0 = (0 : Int32) from rfl)]
  clear w10 w18 K10 K18
  have out : l < 2 ∨ 3 < l → reS l (c q) (c (q + 1)) (c (q + 2)) (c (q + 3)) = 32 := fun z => by
    unfold reS
    rw [if_neg y0]
    have z2 : ¬ l = 2 := by omega
    rw [if_neg (fun w => z2 w.1), if_neg (fun w => z2 w.1), if_neg (fun w => z2 w.1), if_neg (fun w => z2 w.1), if_neg (fun w => z2 w.1), if_pos z]
  by_cases z1 : l < 2
  · rw [if_pos (show nI l < (2 : Int32) from zlt (b := 2) z1 (by omega)), out (Or.inl z1)]; rfl
  rw [if_neg (show ¬ nI l < (2 : Int32) from znl (b := 2) (by omega) (by omega))]
  by_cases z2 : 3 < l
  · rw [if_pos (show (3 : Int32) < nI l from zlt (a := 3) z2 (by omega)), out (Or.inr z2)]; rfl
  clear out
  rw [if_neg (show ¬ (3 : Int32) < nI l from znl (a := 3) (by omega) (by omega)), if_neg (show ¬ nI q < (0 : Int32) from znl (b := 0) (by omega) (by omega)), nI_add, if_pos (show nI (q + l) ≤ (32768 : Int32) from zle (b := 32768) hq (by omega)), nm_ck (by omega) (by omega), nI_clamp (by omega)]
  have t0 : sR B 0 q = nI (c q) := hB 0 (by omega)
  rw [t0]
  have hl : l = 2 ∨ l = 3 := by omega
  by_cases z3 : c q = 120
  · rw [if_pos (show nI (c q) = (120 : Int32) from congrArg nI z3), show nI q + (1 : Int32) = nI (q + 1) from nI_add q 1, show nI l - (1 : Int32) = nI (l - 1) from pk_sub (b := 1) (by omega), nu_1 n q l (c (q + 1)) (c (q + 2)) (c (q + 3)) (by omega) hl (h127 _) (h127 _) hq (hB 1 (by omega)) (fun e => hB 2 (by omega)), nb_b2, z3]
  · rw [if_neg (show ¬ nI (c q) = (120 : Int32) from zne (b := 120) z3 (by have := N q; omega) (by omega))]
    refine Eq.trans (rl_1 n q l (c := c) (by omega) h127 hl hq hB) ?_
    rw [cj_1 (e := c (q + 3)) hl z3 y8 (fun e w => by
      have := hP 2 (by omega)
      rw [w] at this
      exact absurd this (by decide))]

/-- both states while an expression is read: around uC, uR -/
def xC (B : St) (cs : Nat) (tp : Nat) (st : Nat) (ns : Nat) (fx : Bool) (C : Nat → Int32) (A : Nat → Int32) (S : Nat → Int32) (NM : Nat → Int32) (BK : Nat → Int32) : St := (fun j => if j = 5 then nI cs else if j = 6 then nI tp else if j = 7 then nI st else if j = 8 then nI ns else if j = 10 then bI fx else B.1 j, B.2.1, fun j => if j = 0 then C else if j = 1 then A else if j = 2 then S else if j = 3 then NM else if j = 4 then BK else B.2.2.1 j, B.2.2.2)
theorem xC_i5 {B : St} {cs : Nat} {tp : Nat} {st : Nat} {ns : Nat} {fx : Bool} {C : Nat → Int32} {A : Nat → Int32} {S : Nat → Int32} {NM : Nat → Int32} {BK : Nat → Int32} : sI (xC B cs tp st ns fx C A S NM BK) 5 = nI cs := rfl
theorem xC_u5 {B : St} {cs : Nat} {tp : Nat} {st : Nat} {ns : Nat} {fx : Bool} {C : Nat → Int32} {A : Nat → Int32} {S : Nat → Int32} {NM : Nat → Int32} {BK : Nat → Int32} {ap kd fr : Nat} {nm : Int32} : sI (uC (xC B cs tp st ns fx C A S NM BK) ap kd fr nm) 5 = nI cs := rfl
theorem xC_i6 {B : St} {cs : Nat} {tp : Nat} {st : Nat} {ns : Nat} {fx : Bool} {C : Nat → Int32} {A : Nat → Int32} {S : Nat → Int32} {NM : Nat → Int32} {BK : Nat → Int32} : sI (xC B cs tp st ns fx C A S NM BK) 6 = nI tp := rfl
theorem xC_u6 {B : St} {cs : Nat} {tp : Nat} {st : Nat} {ns : Nat} {fx : Bool} {C : Nat → Int32} {A : Nat → Int32} {S : Nat → Int32} {NM : Nat → Int32} {BK : Nat → Int32} {ap kd fr : Nat} {nm : Int32} : sI (uC (xC B cs tp st ns fx C A S NM BK) ap kd fr nm) 6 = nI tp := rfl
theorem xC_i7 {B : St} {cs : Nat} {tp : Nat} {st : Nat} {ns : Nat} {fx : Bool} {C : Nat → Int32} {A : Nat → Int32} {S : Nat → Int32} {NM : Nat → Int32} {BK : Nat → Int32} : sI (xC B cs tp st ns fx C A S NM BK) 7 = nI st := rfl
theorem xC_u7 {B : St} {cs : Nat} {tp : Nat} {st : Nat} {ns : Nat} {fx : Bool} {C : Nat → Int32} {A : Nat → Int32} {S : Nat → Int32} {NM : Nat → Int32} {BK : Nat → Int32} {ap kd fr : Nat} {nm : Int32} : sI (uC (xC B cs tp st ns fx C A S NM BK) ap kd fr nm) 7 = nI st := rfl
theorem xC_i8 {B : St} {cs : Nat} {tp : Nat} {st : Nat} {ns : Nat} {fx : Bool} {C : Nat → Int32} {A : Nat → Int32} {S : Nat → Int32} {NM : Nat → Int32} {BK : Nat → Int32} : sI (xC B cs tp st ns fx C A S NM BK) 8 = nI ns := rfl
theorem xC_u8 {B : St} {cs : Nat} {tp : Nat} {st : Nat} {ns : Nat} {fx : Bool} {C : Nat → Int32} {A : Nat → Int32} {S : Nat → Int32} {NM : Nat → Int32} {BK : Nat → Int32} {ap kd fr : Nat} {nm : Int32} : sI (uC (xC B cs tp st ns fx C A S NM BK) ap kd fr nm) 8 = nI ns := rfl
theorem xC_i10 {B : St} {cs : Nat} {tp : Nat} {st : Nat} {ns : Nat} {fx : Bool} {C : Nat → Int32} {A : Nat → Int32} {S : Nat → Int32} {NM : Nat → Int32} {BK : Nat → Int32} : sI (xC B cs tp st ns fx C A S NM BK) 10 = bI fx := rfl
theorem xC_u10 {B : St} {cs : Nat} {tp : Nat} {st : Nat} {ns : Nat} {fx : Bool} {C : Nat → Int32} {A : Nat → Int32} {S : Nat → Int32} {NM : Nat → Int32} {BK : Nat → Int32} {ap kd fr : Nat} {nm : Int32} : sI (uC (xC B cs tp st ns fx C A S NM BK) ap kd fr nm) 10 = bI fx := rfl
theorem xC_r0 {B : St} {cs : Nat} {tp : Nat} {st : Nat} {ns : Nat} {fx : Bool} {C : Nat → Int32} {A : Nat → Int32} {S : Nat → Int32} {NM : Nat → Int32} {BK : Nat → Int32} : sR (xC B cs tp st ns fx C A S NM BK) 0 = C := rfl
theorem xC_r1 {B : St} {cs : Nat} {tp : Nat} {st : Nat} {ns : Nat} {fx : Bool} {C : Nat → Int32} {A : Nat → Int32} {S : Nat → Int32} {NM : Nat → Int32} {BK : Nat → Int32} : sR (xC B cs tp st ns fx C A S NM BK) 1 = A := rfl
theorem xC_r2 {B : St} {cs : Nat} {tp : Nat} {st : Nat} {ns : Nat} {fx : Bool} {C : Nat → Int32} {A : Nat → Int32} {S : Nat → Int32} {NM : Nat → Int32} {BK : Nat → Int32} : sR (xC B cs tp st ns fx C A S NM BK) 2 = S := rfl
theorem xC_r3 {B : St} {cs : Nat} {tp : Nat} {st : Nat} {ns : Nat} {fx : Bool} {C : Nat → Int32} {A : Nat → Int32} {S : Nat → Int32} {NM : Nat → Int32} {BK : Nat → Int32} : sR (xC B cs tp st ns fx C A S NM BK) 3 = NM := rfl
theorem xC_r4 {B : St} {cs : Nat} {tp : Nat} {st : Nat} {ns : Nat} {fx : Bool} {C : Nat → Int32} {A : Nat → Int32} {S : Nat → Int32} {NM : Nat → Int32} {BK : Nat → Int32} : sR (xC B cs tp st ns fx C A S NM BK) 4 = BK := rfl
theorem xC_i1 {B : St} {cs : Nat} {tp : Nat} {st : Nat} {ns : Nat} {fx : Bool} {C : Nat → Int32} {A : Nat → Int32} {S : Nat → Int32} {NM : Nat → Int32} {BK : Nat → Int32} : sI (xC B cs tp st ns fx C A S NM BK) 1 = sI B 1 := rfl
theorem xC_u1 {B : St} {cs : Nat} {tp : Nat} {st : Nat} {ns : Nat} {fx : Bool} {C : Nat → Int32} {A : Nat → Int32} {S : Nat → Int32} {NM : Nat → Int32} {BK : Nat → Int32} {ap kd fr : Nat} {nm : Int32} : sI (uC (xC B cs tp st ns fx C A S NM BK) ap kd fr nm) 1 = sI B 1 := rfl
theorem xC_i9 {B : St} {cs : Nat} {tp : Nat} {st : Nat} {ns : Nat} {fx : Bool} {C : Nat → Int32} {A : Nat → Int32} {S : Nat → Int32} {NM : Nat → Int32} {BK : Nat → Int32} : sI (xC B cs tp st ns fx C A S NM BK) 9 = sI B 9 := rfl
theorem xC_u9 {B : St} {cs : Nat} {tp : Nat} {st : Nat} {ns : Nat} {fx : Bool} {C : Nat → Int32} {A : Nat → Int32} {S : Nat → Int32} {NM : Nat → Int32} {BK : Nat → Int32} {ap kd fr : Nat} {nm : Int32} : sI (uC (xC B cs tp st ns fx C A S NM BK) ap kd fr nm) 9 = sI B 9 := rfl
theorem xC_i11 {B : St} {cs : Nat} {tp : Nat} {st : Nat} {ns : Nat} {fx : Bool} {C : Nat → Int32} {A : Nat → Int32} {S : Nat → Int32} {NM : Nat → Int32} {BK : Nat → Int32} : sI (xC B cs tp st ns fx C A S NM BK) 11 = sI B 11 := rfl
theorem xC_u11 {B : St} {cs : Nat} {tp : Nat} {st : Nat} {ns : Nat} {fx : Bool} {C : Nat → Int32} {A : Nat → Int32} {S : Nat → Int32} {NM : Nat → Int32} {BK : Nat → Int32} {ap kd fr : Nat} {nm : Int32} : sI (uC (xC B cs tp st ns fx C A S NM BK) ap kd fr nm) 11 = sI B 11 := rfl
theorem xC_r5 {B : St} {cs : Nat} {tp : Nat} {st : Nat} {ns : Nat} {fx : Bool} {C : Nat → Int32} {A : Nat → Int32} {S : Nat → Int32} {NM : Nat → Int32} {BK : Nat → Int32} : sR (xC B cs tp st ns fx C A S NM BK) 5 = sR B 5 := rfl
theorem xC_r6 {B : St} {cs : Nat} {tp : Nat} {st : Nat} {ns : Nat} {fx : Bool} {C : Nat → Int32} {A : Nat → Int32} {S : Nat → Int32} {NM : Nat → Int32} {BK : Nat → Int32} : sR (xC B cs tp st ns fx C A S NM BK) 6 = sR B 6 := rfl
theorem xC_r7 {B : St} {cs : Nat} {tp : Nat} {st : Nat} {ns : Nat} {fx : Bool} {C : Nat → Int32} {A : Nat → Int32} {S : Nat → Int32} {NM : Nat → Int32} {BK : Nat → Int32} : sR (xC B cs tp st ns fx C A S NM BK) 7 = sR B 7 := rfl
theorem xC_o0 {B : St} {cs : Nat} {tp : Nat} {st : Nat} {ns : Nat} {fx : Bool} {C : Nat → Int32} {A : Nat → Int32} {S : Nat → Int32} {NM : Nat → Int32} {BK : Nat → Int32} : sO (xC B cs tp st ns fx C A S NM BK) 0 = sO B 0 := rfl
theorem xC_w5 {B : St} {cs : Nat} {tp : Nat} {st : Nat} {ns : Nat} {fx : Bool} {C : Nat → Int32} {A : Nat → Int32} {S : Nat → Int32} {NM : Nat → Int32} {BK : Nat → Int32} {ap kd fr : Nat} {nm : Int32} {v : Nat} : pI (uC (xC B cs tp st ns fx C A S NM BK) ap kd fr nm) 5 (nI v) = uC (xC B v tp st ns fx C A S NM BK) ap kd fr nm := Prod.ext (funext fun j => by
  show (if j = 5 then nI v else _) = _
  by_cases h : j = 5
  · subst h; rfl
  · unfold uC xC
    simp only [if_neg h]) rfl
theorem xC_w6 {B : St} {cs : Nat} {tp : Nat} {st : Nat} {ns : Nat} {fx : Bool} {C : Nat → Int32} {A : Nat → Int32} {S : Nat → Int32} {NM : Nat → Int32} {BK : Nat → Int32} {ap kd fr : Nat} {nm : Int32} {v : Nat} : pI (uC (xC B cs tp st ns fx C A S NM BK) ap kd fr nm) 6 (nI v) = uC (xC B cs v st ns fx C A S NM BK) ap kd fr nm := Prod.ext (funext fun j => by
  show (if j = 6 then nI v else _) = _
  by_cases h : j = 6
  · subst h; rfl
  · unfold uC xC
    simp only [if_neg h]) rfl
theorem xC_w7 {B : St} {cs : Nat} {tp : Nat} {st : Nat} {ns : Nat} {fx : Bool} {C : Nat → Int32} {A : Nat → Int32} {S : Nat → Int32} {NM : Nat → Int32} {BK : Nat → Int32} {ap kd fr : Nat} {nm : Int32} {v : Nat} : pI (uC (xC B cs tp st ns fx C A S NM BK) ap kd fr nm) 7 (nI v) = uC (xC B cs tp v ns fx C A S NM BK) ap kd fr nm := Prod.ext (funext fun j => by
  show (if j = 7 then nI v else _) = _
  by_cases h : j = 7
  · subst h; rfl
  · unfold uC xC
    simp only [if_neg h]) rfl
theorem xC_w8 {B : St} {cs : Nat} {tp : Nat} {st : Nat} {ns : Nat} {fx : Bool} {C : Nat → Int32} {A : Nat → Int32} {S : Nat → Int32} {NM : Nat → Int32} {BK : Nat → Int32} {ap kd fr : Nat} {nm : Int32} {v : Nat} : pI (uC (xC B cs tp st ns fx C A S NM BK) ap kd fr nm) 8 (nI v) = uC (xC B cs tp st v fx C A S NM BK) ap kd fr nm := Prod.ext (funext fun j => by
  show (if j = 8 then nI v else _) = _
  by_cases h : j = 8
  · subst h; rfl
  · unfold uC xC
    simp only [if_neg h]) rfl
theorem xC_w10 {B : St} {cs : Nat} {tp : Nat} {st : Nat} {ns : Nat} {fx : Bool} {C : Nat → Int32} {A : Nat → Int32} {S : Nat → Int32} {NM : Nat → Int32} {BK : Nat → Int32} {ap kd fr : Nat} {nm : Int32} {v : Bool} : pI (uC (xC B cs tp st ns fx C A S NM BK) ap kd fr nm) 10 (bI v) = uC (xC B cs tp st ns v C A S NM BK) ap kd fr nm := Prod.ext (funext fun j => by
  show (if j = 10 then bI v else _) = _
  by_cases h : j = 10
  · subst h; rfl
  · unfold uC xC
    simp only [if_neg h]) rfl
theorem xC_y0 {B : St} {cs : Nat} {tp : Nat} {st : Nat} {ns : Nat} {fx : Bool} {C : Nat → Int32} {A : Nat → Int32} {S : Nat → Int32} {NM : Nat → Int32} {BK : Nat → Int32} {ap kd fr : Nat} {nm : Int32} {v : Nat → Int32} : pR (uC (xC B cs tp st ns fx C A S NM BK) ap kd fr nm) 0 v = uC (xC B cs tp st ns fx v A S NM BK) ap kd fr nm := Prod.ext rfl (Prod.ext rfl (Prod.ext (funext fun j => by
  show (if j = 0 then v else _) = _
  by_cases h : j = 0
  · subst h; rfl
  · unfold uC xC
    simp only [if_neg h]) rfl))
theorem xC_y1 {B : St} {cs : Nat} {tp : Nat} {st : Nat} {ns : Nat} {fx : Bool} {C : Nat → Int32} {A : Nat → Int32} {S : Nat → Int32} {NM : Nat → Int32} {BK : Nat → Int32} {ap kd fr : Nat} {nm : Int32} {v : Nat → Int32} : pR (uC (xC B cs tp st ns fx C A S NM BK) ap kd fr nm) 1 v = uC (xC B cs tp st ns fx C v S NM BK) ap kd fr nm := Prod.ext rfl (Prod.ext rfl (Prod.ext (funext fun j => by
  show (if j = 1 then v else _) = _
  by_cases h : j = 1
  · subst h; rfl
  · unfold uC xC
    simp only [if_neg h]) rfl))
theorem xC_y2 {B : St} {cs : Nat} {tp : Nat} {st : Nat} {ns : Nat} {fx : Bool} {C : Nat → Int32} {A : Nat → Int32} {S : Nat → Int32} {NM : Nat → Int32} {BK : Nat → Int32} {ap kd fr : Nat} {nm : Int32} {v : Nat → Int32} : pR (uC (xC B cs tp st ns fx C A S NM BK) ap kd fr nm) 2 v = uC (xC B cs tp st ns fx C A v NM BK) ap kd fr nm := Prod.ext rfl (Prod.ext rfl (Prod.ext (funext fun j => by
  show (if j = 2 then v else _) = _
  by_cases h : j = 2
  · subst h; rfl
  · unfold uC xC
    simp only [if_neg h]) rfl))
theorem xC_y3 {B : St} {cs : Nat} {tp : Nat} {st : Nat} {ns : Nat} {fx : Bool} {C : Nat → Int32} {A : Nat → Int32} {S : Nat → Int32} {NM : Nat → Int32} {BK : Nat → Int32} {ap kd fr : Nat} {nm : Int32} {v : Nat → Int32} : pR (uC (xC B cs tp st ns fx C A S NM BK) ap kd fr nm) 3 v = uC (xC B cs tp st ns fx C A S v BK) ap kd fr nm := Prod.ext rfl (Prod.ext rfl (Prod.ext (funext fun j => by
  show (if j = 3 then v else _) = _
  by_cases h : j = 3
  · subst h; rfl
  · unfold uC xC
    simp only [if_neg h]) rfl))
theorem xC_y4 {B : St} {cs : Nat} {tp : Nat} {st : Nat} {ns : Nat} {fx : Bool} {C : Nat → Int32} {A : Nat → Int32} {S : Nat → Int32} {NM : Nat → Int32} {BK : Nat → Int32} {ap kd fr : Nat} {nm : Int32} {v : Nat → Int32} : pR (uC (xC B cs tp st ns fx C A S NM BK) ap kd fr nm) 4 v = uC (xC B cs tp st ns fx C A S NM v) ap kd fr nm := Prod.ext rfl (Prod.ext rfl (Prod.ext (funext fun j => by
  show (if j = 4 then v else _) = _
  by_cases h : j = 4
  · subst h; rfl
  · unfold uC xC
    simp only [if_neg h]) rfl))
def xR (B : St) (ft : Int32) (ms : Bool) (dv : Bool) (ls : Bool) (sg : Nat) (vl : Nat) (PL : Nat → Int32) : St := (fun j => if j = 12 then ft else if j = 21 then bI ms else if j = 22 then bI dv else if j = 23 then bI ls else if j = 24 then nI sg else if j = 25 then nI vl else B.1 j, B.2.1, fun j => if j = 8 then PL else B.2.2.1 j, B.2.2.2)
theorem xR_i12 {B : St} {ft : Int32} {ms : Bool} {dv : Bool} {ls : Bool} {sg : Nat} {vl : Nat} {PL : Nat → Int32} : sI (xR B ft ms dv ls sg vl PL) 12 = ft := rfl
theorem xR_u12 {B : St} {ft : Int32} {ms : Bool} {dv : Bool} {ls : Bool} {sg : Nat} {vl : Nat} {PL : Nat → Int32} {ap tk fr to : Nat} {nm : Int32} : sI (uR (xR B ft ms dv ls sg vl PL) ap tk fr to nm) 12 = ft := rfl
theorem xR_i21 {B : St} {ft : Int32} {ms : Bool} {dv : Bool} {ls : Bool} {sg : Nat} {vl : Nat} {PL : Nat → Int32} : sI (xR B ft ms dv ls sg vl PL) 21 = bI ms := rfl
theorem xR_u21 {B : St} {ft : Int32} {ms : Bool} {dv : Bool} {ls : Bool} {sg : Nat} {vl : Nat} {PL : Nat → Int32} {ap tk fr to : Nat} {nm : Int32} : sI (uR (xR B ft ms dv ls sg vl PL) ap tk fr to nm) 21 = bI ms := rfl
theorem xR_i22 {B : St} {ft : Int32} {ms : Bool} {dv : Bool} {ls : Bool} {sg : Nat} {vl : Nat} {PL : Nat → Int32} : sI (xR B ft ms dv ls sg vl PL) 22 = bI dv := rfl
theorem xR_u22 {B : St} {ft : Int32} {ms : Bool} {dv : Bool} {ls : Bool} {sg : Nat} {vl : Nat} {PL : Nat → Int32} {ap tk fr to : Nat} {nm : Int32} : sI (uR (xR B ft ms dv ls sg vl PL) ap tk fr to nm) 22 = bI dv := rfl
theorem xR_i23 {B : St} {ft : Int32} {ms : Bool} {dv : Bool} {ls : Bool} {sg : Nat} {vl : Nat} {PL : Nat → Int32} : sI (xR B ft ms dv ls sg vl PL) 23 = bI ls := rfl
theorem xR_u23 {B : St} {ft : Int32} {ms : Bool} {dv : Bool} {ls : Bool} {sg : Nat} {vl : Nat} {PL : Nat → Int32} {ap tk fr to : Nat} {nm : Int32} : sI (uR (xR B ft ms dv ls sg vl PL) ap tk fr to nm) 23 = bI ls := rfl
theorem xR_i24 {B : St} {ft : Int32} {ms : Bool} {dv : Bool} {ls : Bool} {sg : Nat} {vl : Nat} {PL : Nat → Int32} : sI (xR B ft ms dv ls sg vl PL) 24 = nI sg := rfl
theorem xR_u24 {B : St} {ft : Int32} {ms : Bool} {dv : Bool} {ls : Bool} {sg : Nat} {vl : Nat} {PL : Nat → Int32} {ap tk fr to : Nat} {nm : Int32} : sI (uR (xR B ft ms dv ls sg vl PL) ap tk fr to nm) 24 = nI sg := rfl
theorem xR_i25 {B : St} {ft : Int32} {ms : Bool} {dv : Bool} {ls : Bool} {sg : Nat} {vl : Nat} {PL : Nat → Int32} : sI (xR B ft ms dv ls sg vl PL) 25 = nI vl := rfl
theorem xR_u25 {B : St} {ft : Int32} {ms : Bool} {dv : Bool} {ls : Bool} {sg : Nat} {vl : Nat} {PL : Nat → Int32} {ap tk fr to : Nat} {nm : Int32} : sI (uR (xR B ft ms dv ls sg vl PL) ap tk fr to nm) 25 = nI vl := rfl
theorem xR_r8 {B : St} {ft : Int32} {ms : Bool} {dv : Bool} {ls : Bool} {sg : Nat} {vl : Nat} {PL : Nat → Int32} : sR (xR B ft ms dv ls sg vl PL) 8 = PL := rfl
theorem xR_i0 {B : St} {ft : Int32} {ms : Bool} {dv : Bool} {ls : Bool} {sg : Nat} {vl : Nat} {PL : Nat → Int32} : sI (xR B ft ms dv ls sg vl PL) 0 = sI B 0 := rfl
theorem xR_u0 {B : St} {ft : Int32} {ms : Bool} {dv : Bool} {ls : Bool} {sg : Nat} {vl : Nat} {PL : Nat → Int32} {ap tk fr to : Nat} {nm : Int32} : sI (uR (xR B ft ms dv ls sg vl PL) ap tk fr to nm) 0 = sI B 0 := rfl
theorem xR_i2 {B : St} {ft : Int32} {ms : Bool} {dv : Bool} {ls : Bool} {sg : Nat} {vl : Nat} {PL : Nat → Int32} : sI (xR B ft ms dv ls sg vl PL) 2 = sI B 2 := rfl
theorem xR_u2 {B : St} {ft : Int32} {ms : Bool} {dv : Bool} {ls : Bool} {sg : Nat} {vl : Nat} {PL : Nat → Int32} {ap tk fr to : Nat} {nm : Int32} : sI (uR (xR B ft ms dv ls sg vl PL) ap tk fr to nm) 2 = sI B 2 := rfl
theorem xR_i3 {B : St} {ft : Int32} {ms : Bool} {dv : Bool} {ls : Bool} {sg : Nat} {vl : Nat} {PL : Nat → Int32} : sI (xR B ft ms dv ls sg vl PL) 3 = sI B 3 := rfl
theorem xR_u3 {B : St} {ft : Int32} {ms : Bool} {dv : Bool} {ls : Bool} {sg : Nat} {vl : Nat} {PL : Nat → Int32} {ap tk fr to : Nat} {nm : Int32} : sI (uR (xR B ft ms dv ls sg vl PL) ap tk fr to nm) 3 = sI B 3 := rfl
theorem xR_i4 {B : St} {ft : Int32} {ms : Bool} {dv : Bool} {ls : Bool} {sg : Nat} {vl : Nat} {PL : Nat → Int32} : sI (xR B ft ms dv ls sg vl PL) 4 = sI B 4 := rfl
theorem xR_u4 {B : St} {ft : Int32} {ms : Bool} {dv : Bool} {ls : Bool} {sg : Nat} {vl : Nat} {PL : Nat → Int32} {ap tk fr to : Nat} {nm : Int32} : sI (uR (xR B ft ms dv ls sg vl PL) ap tk fr to nm) 4 = sI B 4 := rfl
theorem xR_i5 {B : St} {ft : Int32} {ms : Bool} {dv : Bool} {ls : Bool} {sg : Nat} {vl : Nat} {PL : Nat → Int32} : sI (xR B ft ms dv ls sg vl PL) 5 = sI B 5 := rfl
theorem xR_u5 {B : St} {ft : Int32} {ms : Bool} {dv : Bool} {ls : Bool} {sg : Nat} {vl : Nat} {PL : Nat → Int32} {ap tk fr to : Nat} {nm : Int32} : sI (uR (xR B ft ms dv ls sg vl PL) ap tk fr to nm) 5 = sI B 5 := rfl
theorem xR_i13 {B : St} {ft : Int32} {ms : Bool} {dv : Bool} {ls : Bool} {sg : Nat} {vl : Nat} {PL : Nat → Int32} : sI (xR B ft ms dv ls sg vl PL) 13 = sI B 13 := rfl
theorem xR_u13 {B : St} {ft : Int32} {ms : Bool} {dv : Bool} {ls : Bool} {sg : Nat} {vl : Nat} {PL : Nat → Int32} {ap tk fr to : Nat} {nm : Int32} : sI (uR (xR B ft ms dv ls sg vl PL) ap tk fr to nm) 13 = sI B 13 := rfl
theorem xR_i14 {B : St} {ft : Int32} {ms : Bool} {dv : Bool} {ls : Bool} {sg : Nat} {vl : Nat} {PL : Nat → Int32} : sI (xR B ft ms dv ls sg vl PL) 14 = sI B 14 := rfl
theorem xR_u14 {B : St} {ft : Int32} {ms : Bool} {dv : Bool} {ls : Bool} {sg : Nat} {vl : Nat} {PL : Nat → Int32} {ap tk fr to : Nat} {nm : Int32} : sI (uR (xR B ft ms dv ls sg vl PL) ap tk fr to nm) 14 = sI B 14 := rfl
theorem xR_i15 {B : St} {ft : Int32} {ms : Bool} {dv : Bool} {ls : Bool} {sg : Nat} {vl : Nat} {PL : Nat → Int32} : sI (xR B ft ms dv ls sg vl PL) 15 = sI B 15 := rfl
theorem xR_u15 {B : St} {ft : Int32} {ms : Bool} {dv : Bool} {ls : Bool} {sg : Nat} {vl : Nat} {PL : Nat → Int32} {ap tk fr to : Nat} {nm : Int32} : sI (uR (xR B ft ms dv ls sg vl PL) ap tk fr to nm) 15 = sI B 15 := rfl
theorem xR_i16 {B : St} {ft : Int32} {ms : Bool} {dv : Bool} {ls : Bool} {sg : Nat} {vl : Nat} {PL : Nat → Int32} : sI (xR B ft ms dv ls sg vl PL) 16 = sI B 16 := rfl
theorem xR_u16 {B : St} {ft : Int32} {ms : Bool} {dv : Bool} {ls : Bool} {sg : Nat} {vl : Nat} {PL : Nat → Int32} {ap tk fr to : Nat} {nm : Int32} : sI (uR (xR B ft ms dv ls sg vl PL) ap tk fr to nm) 16 = sI B 16 := rfl
theorem xR_i17 {B : St} {ft : Int32} {ms : Bool} {dv : Bool} {ls : Bool} {sg : Nat} {vl : Nat} {PL : Nat → Int32} : sI (xR B ft ms dv ls sg vl PL) 17 = sI B 17 := rfl
theorem xR_u17 {B : St} {ft : Int32} {ms : Bool} {dv : Bool} {ls : Bool} {sg : Nat} {vl : Nat} {PL : Nat → Int32} {ap tk fr to : Nat} {nm : Int32} : sI (uR (xR B ft ms dv ls sg vl PL) ap tk fr to nm) 17 = sI B 17 := rfl
theorem xR_i18 {B : St} {ft : Int32} {ms : Bool} {dv : Bool} {ls : Bool} {sg : Nat} {vl : Nat} {PL : Nat → Int32} : sI (xR B ft ms dv ls sg vl PL) 18 = sI B 18 := rfl
theorem xR_u18 {B : St} {ft : Int32} {ms : Bool} {dv : Bool} {ls : Bool} {sg : Nat} {vl : Nat} {PL : Nat → Int32} {ap tk fr to : Nat} {nm : Int32} : sI (uR (xR B ft ms dv ls sg vl PL) ap tk fr to nm) 18 = sI B 18 := rfl
theorem xR_i19 {B : St} {ft : Int32} {ms : Bool} {dv : Bool} {ls : Bool} {sg : Nat} {vl : Nat} {PL : Nat → Int32} : sI (xR B ft ms dv ls sg vl PL) 19 = sI B 19 := rfl
theorem xR_u19 {B : St} {ft : Int32} {ms : Bool} {dv : Bool} {ls : Bool} {sg : Nat} {vl : Nat} {PL : Nat → Int32} {ap tk fr to : Nat} {nm : Int32} : sI (uR (xR B ft ms dv ls sg vl PL) ap tk fr to nm) 19 = sI B 19 := rfl
theorem xR_i20 {B : St} {ft : Int32} {ms : Bool} {dv : Bool} {ls : Bool} {sg : Nat} {vl : Nat} {PL : Nat → Int32} : sI (xR B ft ms dv ls sg vl PL) 20 = sI B 20 := rfl
theorem xR_u20 {B : St} {ft : Int32} {ms : Bool} {dv : Bool} {ls : Bool} {sg : Nat} {vl : Nat} {PL : Nat → Int32} {ap tk fr to : Nat} {nm : Int32} : sI (uR (xR B ft ms dv ls sg vl PL) ap tk fr to nm) 20 = sI B 20 := rfl
theorem xR_r0 {B : St} {ft : Int32} {ms : Bool} {dv : Bool} {ls : Bool} {sg : Nat} {vl : Nat} {PL : Nat → Int32} : sR (xR B ft ms dv ls sg vl PL) 0 = sR B 0 := rfl
theorem xR_r1 {B : St} {ft : Int32} {ms : Bool} {dv : Bool} {ls : Bool} {sg : Nat} {vl : Nat} {PL : Nat → Int32} : sR (xR B ft ms dv ls sg vl PL) 1 = sR B 1 := rfl
theorem xR_r2 {B : St} {ft : Int32} {ms : Bool} {dv : Bool} {ls : Bool} {sg : Nat} {vl : Nat} {PL : Nat → Int32} : sR (xR B ft ms dv ls sg vl PL) 2 = sR B 2 := rfl
theorem xR_r3 {B : St} {ft : Int32} {ms : Bool} {dv : Bool} {ls : Bool} {sg : Nat} {vl : Nat} {PL : Nat → Int32} : sR (xR B ft ms dv ls sg vl PL) 3 = sR B 3 := rfl
theorem xR_r4 {B : St} {ft : Int32} {ms : Bool} {dv : Bool} {ls : Bool} {sg : Nat} {vl : Nat} {PL : Nat → Int32} : sR (xR B ft ms dv ls sg vl PL) 4 = sR B 4 := rfl
theorem xR_r5 {B : St} {ft : Int32} {ms : Bool} {dv : Bool} {ls : Bool} {sg : Nat} {vl : Nat} {PL : Nat → Int32} : sR (xR B ft ms dv ls sg vl PL) 5 = sR B 5 := rfl
theorem xR_r6 {B : St} {ft : Int32} {ms : Bool} {dv : Bool} {ls : Bool} {sg : Nat} {vl : Nat} {PL : Nat → Int32} : sR (xR B ft ms dv ls sg vl PL) 6 = sR B 6 := rfl
theorem xR_r7 {B : St} {ft : Int32} {ms : Bool} {dv : Bool} {ls : Bool} {sg : Nat} {vl : Nat} {PL : Nat → Int32} : sR (xR B ft ms dv ls sg vl PL) 7 = sR B 7 := rfl
theorem xR_r9 {B : St} {ft : Int32} {ms : Bool} {dv : Bool} {ls : Bool} {sg : Nat} {vl : Nat} {PL : Nat → Int32} : sR (xR B ft ms dv ls sg vl PL) 9 = sR B 9 := rfl
theorem xR_w12 {B : St} {ft : Int32} {ms : Bool} {dv : Bool} {ls : Bool} {sg : Nat} {vl : Nat} {PL : Nat → Int32} {ap tk fr to : Nat} {nm : Int32} {v : Int32} : pI (uR (xR B ft ms dv ls sg vl PL) ap tk fr to nm) 12 (v) = uR (xR B v ms dv ls sg vl PL) ap tk fr to nm := Prod.ext (funext fun j => by
  show (if j = 12 then v else _) = _
  by_cases h : j = 12
  · subst h; rfl
  · unfold uR xR
    simp only [if_neg h]) rfl
theorem xR_w21 {B : St} {ft : Int32} {ms : Bool} {dv : Bool} {ls : Bool} {sg : Nat} {vl : Nat} {PL : Nat → Int32} {ap tk fr to : Nat} {nm : Int32} {v : Bool} : pI (uR (xR B ft ms dv ls sg vl PL) ap tk fr to nm) 21 (bI v) = uR (xR B ft v dv ls sg vl PL) ap tk fr to nm := Prod.ext (funext fun j => by
  show (if j = 21 then bI v else _) = _
  by_cases h : j = 21
  · subst h; rfl
  · unfold uR xR
    simp only [if_neg h]) rfl
theorem xR_w22 {B : St} {ft : Int32} {ms : Bool} {dv : Bool} {ls : Bool} {sg : Nat} {vl : Nat} {PL : Nat → Int32} {ap tk fr to : Nat} {nm : Int32} {v : Bool} : pI (uR (xR B ft ms dv ls sg vl PL) ap tk fr to nm) 22 (bI v) = uR (xR B ft ms v ls sg vl PL) ap tk fr to nm := Prod.ext (funext fun j => by
  show (if j = 22 then bI v else _) = _
  by_cases h : j = 22
  · subst h; rfl
  · unfold uR xR
    simp only [if_neg h]) rfl
theorem xR_w23 {B : St} {ft : Int32} {ms : Bool} {dv : Bool} {ls : Bool} {sg : Nat} {vl : Nat} {PL : Nat → Int32} {ap tk fr to : Nat} {nm : Int32} {v : Bool} : pI (uR (xR B ft ms dv ls sg vl PL) ap tk fr to nm) 23 (bI v) = uR (xR B ft ms dv v sg vl PL) ap tk fr to nm := Prod.ext (funext fun j => by
  show (if j = 23 then bI v else _) = _
  by_cases h : j = 23
  · subst h; rfl
  · unfold uR xR
    simp only [if_neg h]) rfl
theorem xR_w24 {B : St} {ft : Int32} {ms : Bool} {dv : Bool} {ls : Bool} {sg : Nat} {vl : Nat} {PL : Nat → Int32} {ap tk fr to : Nat} {nm : Int32} {v : Nat} : pI (uR (xR B ft ms dv ls sg vl PL) ap tk fr to nm) 24 (nI v) = uR (xR B ft ms dv ls v vl PL) ap tk fr to nm := Prod.ext (funext fun j => by
  show (if j = 24 then nI v else _) = _
  by_cases h : j = 24
  · subst h; rfl
  · unfold uR xR
    simp only [if_neg h]) rfl
theorem xR_w25 {B : St} {ft : Int32} {ms : Bool} {dv : Bool} {ls : Bool} {sg : Nat} {vl : Nat} {PL : Nat → Int32} {ap tk fr to : Nat} {nm : Int32} {v : Nat} : pI (uR (xR B ft ms dv ls sg vl PL) ap tk fr to nm) 25 (nI v) = uR (xR B ft ms dv ls sg v PL) ap tk fr to nm := Prod.ext (funext fun j => by
  show (if j = 25 then nI v else _) = _
  by_cases h : j = 25
  · subst h; rfl
  · unfold uR xR
    simp only [if_neg h]) rfl
theorem xR_y8 {B : St} {ft : Int32} {ms : Bool} {dv : Bool} {ls : Bool} {sg : Nat} {vl : Nat} {PL : Nat → Int32} {ap tk fr to : Nat} {nm : Int32} {v : Nat → Int32} : pR (uR (xR B ft ms dv ls sg vl PL) ap tk fr to nm) 8 v = uR (xR B ft ms dv ls sg vl v) ap tk fr to nm := Prod.ext rfl (Prod.ext rfl (Prod.ext (funext fun j => by
  show (if j = 8 then v else _) = _
  by_cases h : j = 8
  · subst h; rfl
  · unfold uR xR
    simp only [if_neg h]) rfl))
theorem uC_i5 {B : St} {ap kd fr : Nat} {nm : Int32} : sI (uC B ap kd fr nm) 5 = sI B 5 := rfl
theorem uC_i6 {B : St} {ap kd fr : Nat} {nm : Int32} : sI (uC B ap kd fr nm) 6 = sI B 6 := rfl
theorem uC_i7 {B : St} {ap kd fr : Nat} {nm : Int32} : sI (uC B ap kd fr nm) 7 = sI B 7 := rfl
theorem uC_i8 {B : St} {ap kd fr : Nat} {nm : Int32} : sI (uC B ap kd fr nm) 8 = sI B 8 := rfl
theorem uC_i9 {B : St} {ap kd fr : Nat} {nm : Int32} : sI (uC B ap kd fr nm) 9 = sI B 9 := rfl
theorem uC_i10 {B : St} {ap kd fr : Nat} {nm : Int32} : sI (uC B ap kd fr nm) 10 = sI B 10 := rfl
theorem uC_i11 {B : St} {ap kd fr : Nat} {nm : Int32} : sI (uC B ap kd fr nm) 11 = sI B 11 := rfl
theorem uR_i2 {B : St} {ap tk fr to : Nat} {nm : Int32} : sI (uR B ap tk fr to nm) 2 = sI B 2 := rfl
theorem uR_i3 {B : St} {ap tk fr to : Nat} {nm : Int32} : sI (uR B ap tk fr to nm) 3 = sI B 3 := rfl
theorem uR_i4 {B : St} {ap tk fr to : Nat} {nm : Int32} : sI (uR B ap tk fr to nm) 4 = sI B 4 := rfl
theorem uR_i5 {B : St} {ap tk fr to : Nat} {nm : Int32} : sI (uR B ap tk fr to nm) 5 = sI B 5 := rfl
theorem uR_i12 {B : St} {ap tk fr to : Nat} {nm : Int32} : sI (uR B ap tk fr to nm) 12 = sI B 12 := rfl
theorem uR_i13 {B : St} {ap tk fr to : Nat} {nm : Int32} : sI (uR B ap tk fr to nm) 13 = sI B 13 := rfl
theorem uR_i14 {B : St} {ap tk fr to : Nat} {nm : Int32} : sI (uR B ap tk fr to nm) 14 = sI B 14 := rfl
theorem uR_i15 {B : St} {ap tk fr to : Nat} {nm : Int32} : sI (uR B ap tk fr to nm) 15 = sI B 15 := rfl
theorem uR_i16 {B : St} {ap tk fr to : Nat} {nm : Int32} : sI (uR B ap tk fr to nm) 16 = sI B 16 := rfl
theorem uR_i17 {B : St} {ap tk fr to : Nat} {nm : Int32} : sI (uR B ap tk fr to nm) 17 = sI B 17 := rfl
theorem uR_i18 {B : St} {ap tk fr to : Nat} {nm : Int32} : sI (uR B ap tk fr to nm) 18 = sI B 18 := rfl
theorem uR_i19 {B : St} {ap tk fr to : Nat} {nm : Int32} : sI (uR B ap tk fr to nm) 19 = sI B 19 := rfl
theorem uR_i20 {B : St} {ap tk fr to : Nat} {nm : Int32} : sI (uR B ap tk fr to nm) 20 = sI B 20 := rfl
theorem uR_i21 {B : St} {ap tk fr to : Nat} {nm : Int32} : sI (uR B ap tk fr to nm) 21 = sI B 21 := rfl
theorem uR_i22 {B : St} {ap tk fr to : Nat} {nm : Int32} : sI (uR B ap tk fr to nm) 22 = sI B 22 := rfl
theorem uR_i23 {B : St} {ap tk fr to : Nat} {nm : Int32} : sI (uR B ap tk fr to nm) 23 = sI B 23 := rfl
theorem uR_i24 {B : St} {ap tk fr to : Nat} {nm : Int32} : sI (uR B ap tk fr to nm) 24 = sI B 24 := rfl
theorem uR_i25 {B : St} {ap tk fr to : Nat} {nm : Int32} : sI (uR B ap tk fr to nm) 25 = sI B 25 := rfl
theorem at_C {n L e : Nat} {c : Nat → Nat} {B : St} {cs tp st ns : Nat} {fx : Bool} {C A S NM BK : Nat → Int32} {BR : St} (h : atx n L e c B BR) : atx n L e c (xC B cs tp st ns fx C A S NM BK) BR := h
theorem at_R {n L e : Nat} {c : Nat → Nat} {BC : St} {B : St} {ft : Int32} {ms dv ls : Bool} {sg vl : Nat} {PL : Nat → Int32} (h : atx n L e c BC B) : atx n L e c BC (xR B ft ms dv ls sg vl PL) := h
theorem sgA_l {v : Nat} (h : sgA v = true) : 37 ≤ v ∧ v ≤ 126 := by
  have h := of_decide_eq_true h
  omega
theorem tkK_b {c : Nat → Nat} {e q p' κ τ v : Nat} (h : tkK c e q p' κ τ v) (z : κ = 2 ∨ κ = 3 ∨ κ = 5) : v < 2 ^ 32 := by
  rcases h with y | y | y | y | y | y | y
  · omega
  · omega
  · omega
  · have := aD_v.mp y.2.2.2.1
    omega
  · omega
  · rcases y.2.2 with w | w | w
    · omega
    · omega
    · have := sgA_l w.1
      omega
  · omega
/-- a token, the same for every state of the reference -/
theorem tok2 {n L e : Nat} {c : Nat → Nat} {BC : St} (p : Nat) (hp : p ≤ e) (hl : ∀ i : Nat, p ≤ i → i < e → ¬ c i = 10) {BR0 : St} (hT0 : atx n L e c BC BR0) : ∃ p' κ τ v : Nat, qT c e p ≤ p' ∧ p' ≤ e ∧ (¬ κ = 0 → qT c e p < e ∧ qT c e p < p') ∧ tkK c e (qT c e p) p' κ τ v ∧ ∀ BR : St, atx n L e c BC BR → tkJ n p (qT c e p) p' κ τ v BC BR := by
  obtain ⟨q, p', κ, τ, v, h1, h2, h3, h4, h5, h6, h7⟩ := tok_all hT0 p hp hl
  subst h2
  refine ⟨p', κ, τ, v, h3, h4, h5, h7, fun BR hT => ?_⟩
  obtain ⟨q, p2, κ2, τ2, v2, g1, g2, g3, g4, g5, g6, g7⟩ := tok_all hT p hp hl
  subst g2
  obtain ⟨hn, hL, heL, _⟩ := id hT
  obtain ⟨x, ex, vx⟩ := h6.1 0 0 0
  obtain ⟨y, ey, vy⟩ := g6.1 0 0 0
  rw [ex] at ey
  have ey := Option.some.inj ey
  have q1 : nI p' = nI p2 := congrArg (fun s => sI s 0) ey
  have q2 : nI κ = nI κ2 := congrArg (fun s => sI s 2) ey
  have q4 : x = y := congrArg (fun s => sI s 4) ey
  have k1 : κ ≤ 6 := by unfold tkK at h7; omega
  have k2 : κ2 ≤ 6 := by unfold tkK at g7; omega
  rw [nI_eq (by omega) (by omega)] at q1 q2
  subst q1; subst q2; subst q4
  have vb : κ = 2 ∨ κ = 3 ∨ κ = 5 → v = v2 := fun z => by
    have e := (vx z).symm.trans (vy z)
    have b1 : v < 2 ^ 32 := tkK_b h7 z
    have b2 : v2 < 2 ^ 32 := tkK_b g7 z
    rw [nm_eq32 b1 b2] at e
    exact e
  have tt : τ = τ2 := by
    unfold tkK at h7 g7
    by_cases z : κ = 5
    · have := vb (Or.inr (Or.inr z))
      subst this
      have A : sgA 256 = false := rfl
      have B : sgA 257 = false := rfl
      rcases h7 with y | y | y | y | y | y | y
      iterate 5 omega
      · rcases g7 with w | w | w | w | w | w | w
        iterate 5 omega
        · obtain ⟨_, _, y⟩ := y
          obtain ⟨_, _, w⟩ := w
          rcases y with y | y | y <;> rcases w with w | w | w
          · omega
          · omega
          · rw [y.1, A] at w; exact absurd w.1 (by decide)
          · omega
          · omega
          · rw [y.1, B] at w; exact absurd w.1 (by decide)
          · rw [w.1, A] at y; exact absurd y.1 (by decide)
          · rw [w.1, B] at y; exact absurd y.1 (by decide)
          · omega
        · omega
      · omega
    · omega
  subst tt
  refine ⟨fun kd fr nm => ?_, fun tk fr to nm => ?_⟩
  · obtain ⟨x, ex, vx⟩ := h6.1 kd fr nm
    exact ⟨x, ex, vx⟩
  · obtain ⟨x, p3, ex, hp3, vx⟩ := g6.2 tk fr to nm
    refine ⟨x, p3, ex, hp3, fun z => ?_⟩
    rw [vx z, vb (by unfold tkK at h7; omega)]

/-- the class's table of names -/
def sW (c : Nat → Nat) (b l b' l' : Nat) : Prop := l = l' ∧ ∀ t : Nat, t < l → c (b + t) = c (b' + t)
def hsF (c : Nat → Nat) (q : Nat) : Nat → Int32
  | 0 => 0
  | i + 1 => hsF c q i * 31 + nI (c (q + i))
def hkX (x : Int32) : Int32 := (x ^^^ (x >>> ((8 : Int32) &&& 31))) &&& 255
def hk (c : Nat → Nat) (q l : Nat) : Nat := (hkX (hsF c q l)).toNatClampNeg
theorem hk_1 (x : Int32) : hkX x = nI (hkX x).toNatClampNeg ∧ (hkX x).toNatClampNeg < 256 := by
  unfold hkX
  obtain ⟨A, hA, e⟩ := nI_ex (x ^^^ (x >>> ((8 : Int32) &&& 31)))
  rw [e, show (255 : Int32) = nI 255 from rfl, nm_m255 hA, nI_clamp (by omega)]
  exact ⟨rfl, by omega⟩
theorem hs_W {c : Nat → Nat} {b b' : Nat} : ∀ l : Nat, (∀ t : Nat, t < l → c (b + t) = c (b' + t)) → hsF c b l = hsF c b' l := fun l => by
  induction l with
  | zero => intro _; rfl
  | succ l ih =>
    intro h
    show hsF c b l * 31 + nI (c (b + l)) = hsF c b' l * 31 + nI (c (b' + l))
    rw [ih (fun t ht => h t (by omega)), h l (by omega)]
theorem hk_W {c : Nat → Nat} {b l b' l' : Nat} (h : sW c b l b' l') : hk c b l = hk c b' l' := by
  obtain ⟨e, h⟩ := h
  subst e
  unfold hk
  rw [hs_W l h]
def prv (H : Nat → Nat) (h : Nat) : Nat → Nat
  | 0 => 0
  | N + 1 => if H N = h then N + 1 else prv H h N
theorem prv_1 (H : Nat → Nat) (h : Nat) : ∀ N : Nat, prv H h N ≤ N ∧ (∀ j : Nat, prv H h N = j + 1 → H j = h ∧ j < N) ∧ ∀ i : Nat, prv H h N ≤ i → i < N → ¬ H i = h := fun N => by
  induction N with
  | zero => exact ⟨Nat.le_refl 0, fun j hj => absurd (show 0 = j + 1 from hj) (by omega), fun i _ hi => absurd hi (Nat.not_lt_zero i)⟩
  | succ N ih =>
    obtain ⟨a, b, d⟩ := ih
    by_cases y : H N = h
    · have e : prv H h (N + 1) = N + 1 := if_pos y
      rw [e]
      exact ⟨Nat.le_refl _, fun j hj => (show N = j by omega) ▸ ⟨y, by omega⟩, fun i h1 h2 => by omega⟩
    · have e : prv H h (N + 1) = prv H h N := if_neg y
      rw [e]
      refine ⟨by omega, fun j hj => ?_, fun i h1 h2 => ?_⟩
      · obtain ⟨u, v⟩ := b j hj
        exact ⟨u, by omega⟩
      · by_cases z : i = N
        · rw [z]; exact y
        · exact d i h1 (by omega)
theorem prv_c {H G : Nat → Nat} {h : Nat} : ∀ N : Nat, (∀ i : Nat, i < N → H i = G i) → prv H h N = prv G h N := fun N => by
  induction N with
  | zero => intro _; rfl
  | succ N ih =>
    intro z
    show (if H N = h then N + 1 else prv H h N) = if G N = h then N + 1 else prv G h N
    rw [z N (by omega), ih (fun i hi => z i (by omega))]
def HT (L : Nat) (c : Nat → Nat) (ns : Nat) (NM BK : Nat → Int32) (bs ws : Nat → Nat) : Prop := ns ≤ 16384 ∧ (∀ i : Nat, i < ns → NM (5 * i) = nI (bs i) ∧ NM (5 * i + 1) = nI (ws i) ∧ bs i + ws i ≤ L ∧ NM (5 * i + 4) = nI (prv (fun j => hk c (bs j) (ws j)) (hk c (bs i) (ws i)) i)) ∧ (∀ h : Nat, h < 256 → BK h = nI (prv (fun j => hk c (bs j) (ws j)) h ns)) ∧ (∀ i j : Nat, i < ns → j < ns → sW c (bs i) (ws i) (bs j) (ws j) → i = j) ∧ ∀ i : Nat, i < ns → ∀ t : Nat, t < ws i → aP (c (bs i + t)) = true
theorem o8S {α : Type} {x : Option α} {B : St} (h : sO B 0 = some 8) : nd_o (sO B 0) 8 x = x := by rw [h]; exact o8
theorem na_5 {n L : Nat} {c : Nat → Nat} {S : St} (hL : L ≤ 32768) (hO : sO S 0 = some 8) (hS : ∀ i : Nat, i < L → sR S 7 i = nI (c i)) (q l : Nat) (hq : q + l ≤ L) : ∀ j i g : Nat, i + j = l → j < g → df_X9_nameAt_5 n g (nI q) (nI l) (hsF c q i) (nI i) S = df_X9_nameAt_44 n (nI q) (nI l) (hsF c q l) S := fun j => by
  induction j with
  | zero =>
    intro i g h1 h2
    obtain ⟨g, rfl⟩ : ∃ m : Nat, g = m + 1 := ⟨g - 1, by omega⟩
    have h1 : i = l := by omega
    subst h1
    show dF_X9_nameAt_5 n (df_X9_nameAt_5 n g) (nI q) (nI i) (hsF c q i) (nI i) S = _
    unfold dF_X9_nameAt_5
    rw [if_pos (zle (Nat.le_refl i) (by omega))]
  | succ j ih =>
    intro i g h1 h2
    obtain ⟨g, rfl⟩ : ∃ m : Nat, g = m + 1 := ⟨g - 1, by omega⟩
    show dF_X9_nameAt_5 n (df_X9_nameAt_5 n g) (nI q) (nI l) (hsF c q i) (nI i) S = _
    unfold dF_X9_nameAt_5
    rw [if_neg (znle (show i < l by omega) (by omega)), o8S hO, nI_add, if_neg (show ¬ (32768 : Int32) ≤ nI (q + i) from znle (a := 32768) (by omega) (by omega)), o8S hO, nm_ck (by omega) (by omega), nI_clamp (by omega), hS _ (by omega), nb_let, nb_let, show nI i + Int32.ofInt 1 = nI (i + 1) from nI_add i 1]
    exact ih (i + 1) g (by omega) (by omega)
def eqW (c : Nat → Nat) (b q l i : Nat) : Bool := decide (∀ t : Nat, t < l → i ≤ t → c (b + t) = c (q + t))
theorem na_119 {n L : Nat} {c : Nat → Nat} {S : St} {G : Int32 → Int32 → Int32 → Int32 → Int32 → St → Option (Int32 × St)} (hL : L ≤ 32768) (h127 : ∀ i : Nat, c i < 127) (hO : sO S 0 = some 8) (hS : ∀ i : Nat, i < L → sR S 7 i = nI (c i)) (q l b : Nat) (hh id k : Int32) (hq : q + l ≤ L) : ∀ j i g : Nat, ∀ s : Bool, (s = true → b + l ≤ L) → i + j = l → j + 1 < g → df_X9_nameAt_119 n G g (nI q) (nI l) hh id k (nI b) (bI s) (nI i) S = df_X9_nameAt_165 n G (nI q) (nI l) hh id k (bI (s && eqW c b q l i)) S := fun j => by
  have off : ∀ (i g : Nat), 0 < g → df_X9_nameAt_119 n G g (nI q) (nI l) hh id k (nI b) (bI false) (nI i) S = df_X9_nameAt_165 n G (nI q) (nI l) hh id k (bI false) S := fun i g hg => by
    obtain ⟨g, rfl⟩ : ∃ m : Nat, g = m + 1 := ⟨g - 1, by omega⟩
    show dF_X9_nameAt_119 n G (df_X9_nameAt_119 n G g) (nI q) (nI l) hh id k (nI b) (bI false) (nI i) S = _
    unfold dF_X9_nameAt_119
    rw [if_pos (show bI false = 0 from rfl)]
  induction j with
  | zero =>
    intro i g s hs h1 h2
    cases s with
    | false => exact off i g (by omega)
    | true =>
      obtain ⟨g, rfl⟩ : ∃ m : Nat, g = m + 1 := ⟨g - 1, by omega⟩
      have h1 : i = l := by omega
      subst h1
      rw [show eqW c b q i i = true from decide_eq_true (fun t h3 h4 => by omega)]
      show dF_X9_nameAt_119 n G (df_X9_nameAt_119 n G g) (nI q) (nI i) hh id k (nI b) (bI true) (nI i) S = _
      unfold dF_X9_nameAt_119
      rw [if_neg (show ¬ bI true = 0 by decide), if_pos (zle (Nat.le_refl i) (by omega))]
      rfl
  | succ j ih =>
    intro i g s hs h1 h2
    cases s with
    | false => exact off i g (by omega)
    | true =>
      obtain ⟨g, rfl⟩ : ∃ m : Nat, g = m + 1 := ⟨g - 1, by omega⟩
      have hb := hs rfl
      have c1 := h127 (b + i)
      have c2 := h127 (q + i)
      show dF_X9_nameAt_119 n G (df_X9_nameAt_119 n G g) (nI q) (nI l) hh id k (nI b) (bI true) (nI i) S = _
      unfold dF_X9_nameAt_119
      rw [if_neg (show ¬ bI true = 0 by decide), if_neg (znle (show i < l by omega) (by omega)), o8S hO, nI_add, nm_ck (by omega) (by omega), o8S hO, nI_add, nm_ck (by omega) (by omega), nI_clamp (by omega), nI_clamp (by omega), hS _ (by omega), hS _ (by omega)]
      unfold df_X9_nameAt_157
      by_cases y : c (b + i) = c (q + i)
      · rw [if_pos (congrArg nI y), nb_let, show nI i + Int32.ofInt 1 = nI (i + 1) from nI_add i 1]
        have r := ih (i + 1) g true (fun _ => hb) (by omega) (by omega)
        refine Eq.trans r ?_
        rw [show eqW c b q l (i + 1) = eqW c b q l i from decide_eq_decide.mpr ⟨fun z t t1 t2 => by
          by_cases w : t = i
          · rw [w]; exact y
          · exact z t t1 (by omega), fun z t t1 t2 => z t t1 (by omega)⟩]
      · rw [if_neg (zne y (by omega) (by omega)), nb_let, show nI i + Int32.ofInt 1 = nI (i + 1) from nI_add i 1]
        refine Eq.trans (off (i + 1) g (by omega)) ?_
        rw [show eqW c b q l i = false from decide_eq_false (fun z => y (z i (by omega) (Nat.le_refl i)))]
        rfl
/-- along a chain -/
theorem na_71 {n L ns : Nat} {c : Nat → Nat} {S : St} {NM BK : Nat → Int32} {bs ws : Nat → Nat} (hn : 70000 < n) (hL : L ≤ 32768) (h127 : ∀ i : Nat, c i < 127) (hO : sO S 0 = some 8) (hS : ∀ i : Nat, i < L → sR S 7 i = nI (c i)) (hN : sR S 3 = NM) (hH : HT L c ns NM BK bs ws) (q l : Nat) (hq : q + l ≤ L) : ∀ N k g : Nat, N ≤ ns → N ≤ k → k < 2 ^ 20 → N < g → (∀ id : Nat, id < N → sW c (bs id) (ws id) q l → df_X9_nameAt_71 n g (nI q) (nI l) (nI (hk c q l)) (nI (prv (fun j => hk c (bs j) (ws j)) (hk c q l) N) - 1) (nI k) S = some (nI id, S)) ∧ ((∀ id : Nat, id < N → ¬ sW c (bs id) (ws id) q l) → df_X9_nameAt_71 n g (nI q) (nI l) (nI (hk c q l)) (nI (prv (fun j => hk c (bs j) (ws j)) (hk c q l) N) - 1) (nI k) S = df_X9_nameAt_194 n (nI q) (nI l) (nI (hk c q l)) S) := fun N => by
  obtain ⟨n1, H1, H2, H3, H4⟩ := id hH
  induction N using Nat.strongRecOn with
  | _ N ih =>
    intro k g a1 a2 a3 a4
    obtain ⟨g, rfl⟩ : ∃ m : Nat, g = m + 1 := ⟨g - 1, by omega⟩
    obtain ⟨p1, p2, p3⟩ := prv_1 (fun j => hk c (bs j) (ws j)) (hk c q l) N
    cases hj : prv (fun j => hk c (bs j) (ws j)) (hk c q l) N with
    | zero =>
      rw [hj] at p3
      constructor
      · intro id h1 h2
        exact absurd (hk_W h2) (p3 id (Nat.zero_le _) h1)
      · intro _
        show dF_X9_nameAt_71 n (df_X9_nameAt_71 n g) (nI q) (nI l) (nI (hk c q l)) (nI 0 - 1) (nI k) S = _
        unfold dF_X9_nameAt_71
        rw [if_pos (show nI 0 - 1 < (0 : Int32) by decide)]
        split <;> rfl
    | succ j =>
      obtain ⟨e1, e2⟩ := p2 j hj
      have e1 : hk c (bs j) (ws j) = hk c q l := e1
      obtain ⟨b1, b2, b3, b4⟩ := H1 j (by omega)
      have st : df_X9_nameAt_71 n (g + 1) (nI q) (nI l) (nI (hk c q l)) (nI (j + 1) - 1) (nI k) S = df_X9_nameAt_165 n (df_X9_nameAt_71 n g) (nI q) (nI l) (nI (hk c q l)) (nI j) (nI k) (bI (decide (ws j = l) && eqW c (bs j) q l 0)) S := by
        have r := na_119 (n := n) (G := df_X9_nameAt_71 n g) hL h127 hO hS q l (bs j) (nI (hk c q l)) (nI j) (nI k) hq l 0 n (decide (ws j = l)) (fun z => by have := of_decide_eq_true z; omega) (by omega) (by omega)
        rw [← r]
        show dF_X9_nameAt_71 n (df_X9_nameAt_71 n g) (nI q) (nI l) (nI (hk c q l)) (nI (j + 1) - 1) (nI k) S = _
        unfold dF_X9_nameAt_71
        rw [show nI (j + 1) - (1 : Int32) = nI j from pk_sub (b := 1) (by omega), if_neg (show ¬ nI k ≤ (0 : Int32) from znle (b := 0) (by omega) (by omega)), if_neg (show ¬ nI j < (0 : Int32) from znl (b := 0) (by omega) (by omega)), show nI j * (5 : Int32) = nI (5 * j) from (pk_mul j 5).trans (congrArg nI (Nat.mul_comm j 5)), show nI (5 * j) + (0 : Int32) = nI (5 * j) from nI_add (5 * j) 0, show nI (5 * j) + (1 : Int32) = nI (5 * j + 1) from nI_add (5 * j) 1, nm_ck (by omega) (by omega), nI_clamp (by omega), hN, b1, nb_let, nm_ck (by omega) (by omega), nI_clamp (by omega), b2]
        unfold df_X9_nameAt_114
        by_cases y : ws j = l
        · rw [if_pos (congrArg nI y), decide_eq_true y]; rfl
        · rw [if_neg (zne y (by omega) (by omega)), decide_eq_false y]; rfl
      rw [st]
      have q0 := (prv_1 (fun j => hk c (bs j) (ws j)) (hk c q l) j).1
      have go : (decide (ws j = l) && eqW c (bs j) q l 0) = false → df_X9_nameAt_165 n (df_X9_nameAt_71 n g) (nI q) (nI l) (nI (hk c q l)) (nI j) (nI k) (bI (decide (ws j = l) && eqW c (bs j) q l 0)) S = df_X9_nameAt_71 n g (nI q) (nI l) (nI (hk c q l)) (nI (prv (fun j => hk c (bs j) (ws j)) (hk c q l) j) - 1) (nI (k - 1)) S := fun z => by
        rw [z]
        unfold df_X9_nameAt_165
        rw [if_pos (show bI false = 0 from rfl), show nI j * (5 : Int32) = nI (5 * j) from (pk_mul j 5).trans (congrArg nI (Nat.mul_comm j 5)), show nI (5 * j) + (4 : Int32) = nI (5 * j + 4) from nI_add (5 * j) 4, nm_ck (by omega) (by omega), nI_clamp (by omega), hN, b4, e1, nb_let, nb_let, show nI k + Int32.ofInt (-1) = nI (k - 1) by rw [show Int32.ofInt (-1) = -nI 1 by decide, ← Int32.sub_eq_add_neg, pk_sub (by omega)]]
      by_cases y : sW c (bs j) (ws j) q l
      · obtain ⟨y1, y2⟩ := y
        have z : (decide (ws j = l) && eqW c (bs j) q l 0) = true := by
          rw [decide_eq_true y1, show eqW c (bs j) q l 0 = true from decide_eq_true (fun t t1 _ => y2 t (by omega))]; rfl
        rw [z]
        have hit : df_X9_nameAt_165 n (df_X9_nameAt_71 n g) (nI q) (nI l) (nI (hk c q l)) (nI j) (nI k) (bI true) S = some (nI j, S) := by
          unfold df_X9_nameAt_165
          rw [if_neg (show ¬ bI true = 0 by decide)]
        constructor
        · intro id h1 h2
          have : id = j := H3 id j (by omega) (by omega) ⟨h2.1.trans y1.symm, fun t ht => (h2.2 t ht).trans (y2 t (by have := h2.1; omega)).symm⟩
          rw [this]
          exact hit
        · intro h
          exact absurd ⟨y1, y2⟩ (h j (by omega))
      · have z : (decide (ws j = l) && eqW c (bs j) q l 0) = false := by
          by_cases y1 : ws j = l
          · rw [show eqW c (bs j) q l 0 = false from decide_eq_false (fun w => y ⟨y1, fun t ht => w t (by omega) (Nat.zero_le t)⟩), Bool.and_false]
          · rw [decide_eq_false y1, Bool.false_and]
        obtain ⟨i1, i2⟩ := ih j (by omega) (k - 1) g (by omega) (by omega) (by omega) (by omega)
        constructor
        · intro id h1 h2
          have lt : id < j := by
            refine Classical.byContradiction fun w => ?_
            by_cases v : id = j
            · rw [v] at h2; exact y h2
            · exact p3 id (by omega) h1 (hk_W h2)
          exact (go z).trans (i1 id lt h2)
        · intro h
          exact (go z).trans (i2 (fun id h1 => h id (by omega)))
def nwF (f : Nat → Nat) (n v : Nat) : Nat → Nat := fun i => if i = n then v else f i
theorem nw_1 {f : Nat → Nat} {n v : Nat} : nwF f n v n = v := if_pos rfl
theorem nw_2 {f : Nat → Nat} {n v i : Nat} (h : i < n) : nwF f n v i = f i := if_neg (by omega)
theorem up_e {f : Nat → Int32} {k : Nat} {v : Int32} : upd f k v k = v := if_pos rfl
theorem up_n {f : Nat → Int32} {k i : Nat} {v : Int32} (h : ¬ i = k) : upd f k v i = f i := if_neg h
def nmN (NM BK : Nat → Int32) (ns q l h : Nat) : Nat → Int32 := upd (upd (upd (upd NM (5 * ns) (nI q)) (5 * ns + 1) (nI l)) (5 * ns + 2) 0) (5 * ns + 4) (BK h)
theorem na_194 {n L e : Nat} {c : Nat → Nat} {B BR : St} {cs tp st ns : Nat} {fx : Bool} {C A S NM BK : Nat → Int32} {ap kd fr : Nat} {nm : Int32} (hns : ns < 16384) (q l h : Nat) (hh : h < 256) : df_X9_nameAt_194 n (nI q) (nI l) (nI h) (uC (xC B cs tp st ns fx C A S NM BK) ap kd fr nm) = some (nI ns, uC (xC B cs tp st (ns + 1) fx C A S (nmN NM BK ns q l h) (upd BK h (nI (ns + 1)))) ap kd fr nm) := by
  unfold df_X9_nameAt_194 df_X9_nameAt_214
  rw [xC_u8, if_neg (show ¬ (16384 : Int32) ≤ nI ns from znle (a := 16384) hns (by omega)), show nI ns + (1 : Int32) = nI (ns + 1) from nI_add ns 1, xC_w8, nb_let, xC_u8, show nI (ns + 1) - (1 : Int32) = nI ns from pk_sub (b := 1) (by omega), nb_let, show nI ns * (5 : Int32) = nI (5 * ns) from (pk_mul ns 5).trans (congrArg nI (Nat.mul_comm ns 5)), show nI (5 * ns) + (0 : Int32) = nI (5 * ns) from nI_add (5 * ns) 0, show nI (5 * ns) + (1 : Int32) = nI (5 * ns + 1) from nI_add (5 * ns) 1, show nI (5 * ns) + (2 : Int32) = nI (5 * ns + 2) from nI_add (5 * ns) 2, show nI (5 * ns) + (4 : Int32) = nI (5 * ns + 4) from nI_add (5 * ns) 4, nm_ck (by omega) (by omega), nI_clamp (by omega), uC_r, xC_r3, xC_y3, nb_let, nm_ck (by omega) (by omega), nI_clamp (by omega), uC_r, xC_r3, xC_y3, nb_let, nm_ck (by omega) (by omega), nI_clamp (by omega), uC_r, xC_r3, xC_y3, nb_let, nm_ck (by omega) (by omega), nm_ck (by omega) (by omega), nI_clamp (by omega), nI_clamp (by omega), uC_r, uC_r, xC_r3, xC_r4, xC_y3, nb_let, nm_ck (by omega) (by omega), uC_r, xC_r4, xC_y4, nb_let, show nI ns + (1 : Int32) = nI (ns + 1) from nI_add ns 1]
  rfl
theorem na_1 {n L e : Nat} {c : Nat → Nat} {B BR : St} {cs tp st ns : Nat} {fx : Bool} {C A S NM BK : Nat → Int32} {ap kd fr : Nat} {nm : Int32} {bs ws : Nat → Nat} (hT : atx n L e c B BR) (hH : HT L c ns NM BK bs ws) (hns : ns < 16384) (q l : Nat) (hq : q + l ≤ L) (hA : ∀ t : Nat, t < l → aP (c (q + t)) = true) : ∃ (id ns' : Nat) (NM' BK' : Nat → Int32) (bs' ws' : Nat → Nat), df_X9_nameAt n (nI q) (nI l) (uC (xC B cs tp st ns fx C A S NM BK) ap kd fr nm) = some (nI id, uC (xC B cs tp st ns' fx C A S NM' BK') ap kd fr nm) ∧ HT L c ns' NM' BK' bs' ws' ∧ id < ns' ∧ sW c (bs' id) (ws' id) q l ∧ ns ≤ ns' ∧ ns' ≤ ns + 1 ∧ (∀ i : Nat, i < ns → bs' i = bs i ∧ ws' i = ws i ∧ NM' (5 * i + 2) = NM (5 * i + 2) ∧ NM' (5 * i + 3) = NM (5 * i + 3)) ∧ (∀ i : Nat, ns ≤ i → i < ns' → NM' (5 * i + 2) = 0) := by
  obtain ⟨hn, hL, heL, h127, hend, hce, hO, h1, htC, h0, htR, hch⟩ := id hT
  obtain ⟨n1, H1, H2, H3, H4⟩ := id hH
  have k1 := hk_1 (hsF c q l)
  have k1a : hkX (hsF c q l) = nI (hk c q l) := k1.1
  have k1b : hk c q l < 256 := k1.2
  have hd : df_X9_nameAt n (nI q) (nI l) (uC (xC B cs tp st ns fx C A S NM BK) ap kd fr nm) = df_X9_nameAt_71 n n (nI q) (nI l) (nI (hk c q l)) (nI (prv (fun j => hk c (bs j) (ws j)) (hk c q l) ns) - 1) (nI ns) (uC (xC B cs tp st ns fx C A S NM BK) ap kd fr nm) := by
    refine Eq.trans (na_5 (n := n) (S := uC (xC B cs tp st ns fx C A S NM BK) ap kd fr nm) hL hO htC q l hq l 0 n (by omega) (by omega)) ?_
    unfold df_X9_nameAt_44
    rw [show (((hsF c q l) ^^^ ((hsF c q l : Int32) >>> ((8 : Int32) &&& 31))) &&& 255) = nI (hk c q l) from k1a, nb_let, nm_ck (by omega) (by omega), nI_clamp (by omega), uC_r, xC_r4, H2 _ k1b, nb_let, xC_u8, nb_let]
  obtain ⟨w1, w2⟩ := na_71 (S := uC (xC B cs tp st ns fx C A S NM BK) ap kd fr nm) hn hL h127 hO htC rfl hH q l hq ns ns n (Nat.le_refl _) (Nat.le_refl _) (by omega) (by omega)
  by_cases y : ∃ id : Nat, id < ns ∧ sW c (bs id) (ws id) q l
  · obtain ⟨id, y1, y2⟩ := y
    exact ⟨id, ns, NM, BK, bs, ws, hd.trans (w1 id y1 y2), hH, y1, y2, Nat.le_refl _, by omega, fun i hi => ⟨rfl, rfl, rfl, rfl⟩, fun i i1 i2 => by omega⟩
  · have nw : ∀ id : Nat, id < ns → ¬ sW c (bs id) (ws id) q l := fun id z1 z2 => y ⟨id, z1, z2⟩
    have r := na_194 (n := n) (L := L) (e := e) (c := c) (B := B) (BR := BR) (cs := cs) (tp := tp) (st := st) (fx := fx) (C := C) (A := A) (S := S) (NM := NM) (BK := BK) (ap := ap) (kd := kd) (fr := fr) (nm := nm) hns q l (hk c q l) k1b
    have nA : ∀ i : Nat, (¬ i = 5 * ns) → (¬ i = 5 * ns + 1) → (¬ i = 5 * ns + 2) → (¬ i = 5 * ns + 4) → nmN NM BK ns q l (hk c q l) i = NM i := fun i a b d f => by
      unfold nmN
      rw [up_n f, up_n d, up_n b, up_n a]
    refine ⟨ns, ns + 1, nmN NM BK ns q l (hk c q l), upd BK (hk c q l) (nI (ns + 1)), nwF bs ns q, nwF ws ns l, hd.trans ((w2 nw).trans r), ⟨by omega, fun i hi => ?_, fun h hh => ?_, fun i j hi hj hs => ?_, fun i hi t ht => ?_⟩, by omega, ?_, by omega, by omega, fun i hi => ⟨nw_2 hi, nw_2 hi, nA _ (by omega) (by omega) (by omega) (by omega), nA _ (by omega) (by omega) (by omega) (by omega)⟩, fun i i1 i2 => ?_⟩
    · by_cases z : i = ns
      · subst z
        rw [nw_1, nw_1]
        refine ⟨?_, ?_, hq, ?_⟩
        · unfold nmN
          rw [up_n (by omega), up_n (by omega), up_n (by omega), up_e]
        · unfold nmN
          rw [up_n (by omega), up_n (by omega), up_e]
        · unfold nmN
          rw [up_e, H2 _ k1b]
          congr 1
          exact prv_c i (fun j hj => by
            show hk c (bs j) (ws j) = hk c (nwF bs i q j) (nwF ws i l j)
            rw [nw_2 hj, nw_2 hj])
      · obtain ⟨b1, b2, b3, b4⟩ := H1 i (by omega)
        rw [nA _ (by omega) (by omega) (by omega) (by omega), nA _ (by omega) (by omega) (by omega) (by omega), nA _ (by omega) (by omega) (by omega) (by omega), nw_2 (by omega), nw_2 (by omega)]
        refine ⟨b1, b2, b3, b4.trans ?_⟩
        congr 1
        exact prv_c i (fun j hj => by
          show hk c (bs j) (ws j) = hk c (nwF bs ns q j) (nwF ws ns l j)
          rw [nw_2 (by omega), nw_2 (by omega)])
    · have pc : prv (fun j => hk c (nwF bs ns q j) (nwF ws ns l j)) h ns = prv (fun j => hk c (bs j) (ws j)) h ns := prv_c ns (fun j hj => by
          show hk c (nwF bs ns q j) (nwF ws ns l j) = hk c (bs j) (ws j)
          rw [nw_2 hj, nw_2 hj])
      have e0 : prv (fun j => hk c (nwF bs ns q j) (nwF ws ns l j)) h (ns + 1) = if hk c (nwF bs ns q ns) (nwF ws ns l ns) = h then ns + 1 else prv (fun j => hk c (nwF bs ns q j) (nwF ws ns l j)) h ns := rfl
      rw [e0, pc, nw_1, nw_1]
      by_cases z : hk c q l = h
      · rw [if_pos z, z, up_e]
      · rw [if_neg z, up_n (fun w => z w.symm)]
        exact H2 h hh
    · by_cases z1 : i = ns
      · by_cases z2 : j = ns
        · rw [z1, z2]
        · rw [z1, nw_1, nw_1, nw_2 (show j < ns by omega), nw_2 (show j < ns by omega)] at hs
          exact absurd ⟨hs.1.symm, fun t ht => (hs.2 t (by have := hs.1; omega)).symm⟩ (nw j (by omega))
      · rw [nw_2 (show i < ns by omega), nw_2 (show i < ns by omega)] at hs
        by_cases z2 : j = ns
        · rw [z2, nw_1, nw_1] at hs
          exact absurd hs (nw i (by omega))
        · rw [nw_2 (show j < ns by omega), nw_2 (show j < ns by omega)] at hs
          exact H3 i j (by omega) (by omega) hs
    · by_cases z : i = ns
      · subst z
        rw [nw_1] at ht ⊢
        exact hA t ht
      · rw [nw_2 (by omega)] at ht ⊢
        exact H4 i (by omega) t ht
    · rw [nw_1, nw_1]
      exact ⟨rfl, fun t _ => rfl⟩
    · have z : i = ns := by omega
      subst z
      unfold nmN
      rw [up_n (by omega), up_e]

/-- expressions: what the class writes, one sign after the other -/
abbrev Tp : Type := Nat × Nat × Nat
def nwT (P : Nat → Tp) (m : Nat) (o : Tp) : Nat → Tp := fun i => if i = m then o else P i
def apl : (Nat → Tp) → Nat → List Nat → (Nat → Tp)
  | P, _, [] => P
  | P, m, x :: xs => apl (nwT P m (x, 0, 0)) (m + 1) xs
def aG (NR : Nat → Int32) (c : Nat → Nat) (e ns : Nat) (bs ws : Nat → Nat) (o : Tp) (α : Int32) : Prop := (o.1 = 16 → α = nI o.2.2) ∧ (o.1 = 17 → ∃ id : Nat, α = nI id ∧ id < ns ∧ sW c (bs id) (ws id) o.2.1 (eT c e o.2.1 - o.2.1)) ∧ (o.1 = 19 → α = if NR (10 + o.2.2) - 1 < 0 then -1 - nI o.2.2 else NR (10 + o.2.2) - 1) ∧ (o.1 = 20 → α = NR (10 + o.2.2) - 1) ∧ (1 ≤ o.1 ∧ o.1 ≤ 20 ∧ ¬ o.1 = 15 ∧ (o.1 = 19 ∨ o.1 = 20 → o.2.2 ≤ 9))
def CR (NR : Nat → Int32) (c : Nat → Nat) (e : Nat) (C0 A0 : Nat → Int32) (s0 ns : Nat) (bs ws : Nat → Nat) (m : Nat) (P : Nat → Tp) (C A : Nat → Int32) : Prop := (∀ i : Nat, i < s0 → C i = C0 i ∧ A i = A0 i) ∧ ∀ i : Nat, i < m → C (s0 + i) = nI (P i).1 ∧ aG NR c e ns bs ws (P i) (A (s0 + i))
theorem aG_s {NR : Nat → Int32} {c : Nat → Nat} {e ns : Nat} {bs ws : Nat → Nat} {x : Nat} (h : 1 ≤ x ∧ x < 15) {q v : Nat} {α : Int32} : aG NR c e ns bs ws (x, q, v) α := ⟨fun z => absurd (show x = 16 from z) (by omega), fun z => absurd (show x = 17 from z) (by omega), fun z => absurd (show x = 19 from z) (by omega), fun z => absurd (show x = 20 from z) (by omega), show 1 ≤ x ∧ x ≤ 20 ∧ ¬ x = 15 ∧ (x = 19 ∨ x = 20 → v ≤ 9) by omega⟩
theorem aG_n {NR : Nat → Int32} {c : Nat → Nat} {e ns ns' : Nat} {bs ws bs' ws' : Nat → Nat} {o : Tp} {α : Int32} (hn : ns ≤ ns') (hb : ∀ i : Nat, i < ns → bs' i = bs i ∧ ws' i = ws i) (h : aG NR c e ns bs ws o α) : aG NR c e ns' bs' ws' o α := ⟨h.1, fun z => by
  obtain ⟨id, h1, h2, h3⟩ := h.2.1 z
  refine ⟨id, h1, by omega, ?_⟩
  rw [(hb id h2).1, (hb id h2).2]
  exact h3, h.2.2.1, h.2.2.2.1, h.2.2.2.2⟩
theorem CR_w {NR : Nat → Int32} {c : Nat → Nat} {e : Nat} {C0 A0 : Nat → Int32} {s0 ns : Nat} {bs ws : Nat → Nat} {m : Nat} {P : Nat → Tp} {C A : Nat → Int32} (h : CR NR c e C0 A0 s0 ns bs ws m P C A) (o : Tp) (α : Int32) (ho : aG NR c e ns bs ws o α) : CR NR c e C0 A0 s0 ns bs ws (m + 1) (nwT P m o) (upd C (s0 + m) (nI o.1)) (upd A (s0 + m) α) := by
  obtain ⟨h1, h2⟩ := h
  refine ⟨fun i hi => ?_, fun i hi => ?_⟩
  · rw [up_n (by omega), up_n (by omega)]
    exact h1 i hi
  · by_cases z : i = m
    · subst z
      rw [up_e, up_e, show nwT P i o i = o from if_pos rfl]
      exact ⟨rfl, ho⟩
    · rw [up_n (by omega), up_n (by omega), show nwT P m o i = P i from if_neg z]
      exact h2 i (by omega)
theorem CR_n {NR : Nat → Int32} {c : Nat → Nat} {e : Nat} {C0 A0 : Nat → Int32} {s0 ns ns' : Nat} {bs ws bs' ws' : Nat → Nat} {m : Nat} {P : Nat → Tp} {C A : Nat → Int32} (hn : ns ≤ ns') (hb : ∀ i : Nat, i < ns → bs' i = bs i ∧ ws' i = ws i) (h : CR NR c e C0 A0 s0 ns bs ws m P C A) : CR NR c e C0 A0 s0 ns' bs' ws' m P C A := ⟨h.1, fun i hi => ⟨(h.2 i hi).1, aG_n hn hb (h.2 i hi).2⟩⟩
def rkA (x : Nat) : Nat := ([0, 6, 6, 6, 5, 5, 4, 4, 3, 2, 1, 7, 7] : List Nat).getD x 0
theorem rk_t : ∀ x : Fin 13, tb_2 x.1 = nI (rkA x.1) ∧ rkA x.1 ≤ 7 := by decide +kernel
def stk (S : Nat → Int32) : List Nat → Prop
  | [] => True
  | x :: l => S l.length = nI x ∧ stk S l
theorem stk_u {S : Nat → Int32} {v : Int32} : ∀ (l : List Nat) (k : Nat), l.length ≤ k → stk S l → stk (upd S k v) l := fun l => by
  induction l with
  | nil => intro k _ _; exact trivial
  | cons x l ih =>
    intro k hk h
    have hk : l.length + 1 ≤ k := hk
    exact ⟨(up_n (by omega)).trans h.1, ih k (by omega) h.2⟩
theorem stk_p {S : Nat → Int32} {l : List Nat} (x : Nat) (h : stk S l) : stk (upd S l.length (nI x)) (x :: l) := ⟨up_e, stk_u l l.length (Nat.le_refl _) h⟩
def popA (r : Nat) : List Nat → List Nat
  | [] => []
  | x :: l => if x < 13 ∧ r ≤ rkA x then x :: popA r l else []
def popB (r : Nat) : List Nat → List Nat
  | [] => []
  | x :: l => if x < 13 ∧ r ≤ rkA x then popB r l else x :: l
theorem pop_l (r : Nat) : ∀ l : List Nat, (popA r l).length + (popB r l).length = l.length := fun l => by
  induction l with
  | nil => rfl
  | cons x l ih =>
    unfold popA popB
    by_cases y : x < 13 ∧ r ≤ rkA x
    · rw [if_pos y, if_pos y]
      show (popA r l).length + 1 + (popB r l).length = l.length + 1
      omega
    · rw [if_neg y, if_neg y]
      exact Nat.zero_add _
theorem pop_s {S : Nat → Int32} (r : Nat) : ∀ l : List Nat, stk S l → stk S (popB r l) := fun l => by
  induction l with
  | nil => intro h; exact h
  | cons x l ih =>
    intro h
    unfold popB
    by_cases y : x < 13 ∧ r ≤ rkA x
    · rw [if_pos y]; exact ih h.2
    · rw [if_neg y]; exact h
theorem xe_1 {n : Nat} {B : St} {cs tp st ns : Nat} {fx : Bool} {C A S NM BK : Nat → Int32} {ap kd fr : Nat} {nm : Int32} (κ α : Int32) (h : cs < 32832) : df_X9_emit n κ α (uC (xC B cs tp st ns fx C A S NM BK) ap kd fr nm) = some (uC (xC B (cs + 1) tp st ns fx (upd C cs κ) (upd A cs α) S NM BK) ap kd fr nm) := by
  simp (disch := (first | assumption | decide | omega)) only [df_X9_emit_42, df_X9_emit_0, df_X9_emit, uC_i0, uC_i1, uC_i2, uC_i3, uC_i4, uC_r, uC_o, uC_w0, uC_w2, uC_w3, uC_w4, xC_i5, xC_u5, xC_i6, xC_u6, xC_i7, xC_u7, xC_i8, xC_u8, xC_i10, xC_u10, xC_r0, xC_r1, xC_r2, xC_r3, xC_r4, xC_i1, xC_u1, xC_i9, xC_u9, xC_i11, xC_u11, xC_r5, xC_r6, xC_r7, xC_o0, xC_w5, xC_w6, xC_w7, xC_w8, xC_w10, xC_y0, xC_y1, xC_y2, xC_y3, xC_y4, eq_self, Nat.reduceEqDiff, Nat.reduceLeDiff, nl_0, nl_1, nl_5, nl_32832, no_1, no_1024, pk_mul, nI_add, nm_ck, nI_clamp, nI_ltI, nI_leI, nI_eq, nb_b2, nb_b1, ↓nb_let, nm_z0, nm_z1, nb_II, nb_IR, nb_RI, nb_RR, nm_IL, nm_IQ, nm_RL, nm_RQ, nm_LI, nm_LR, nm_LL, nm_LQ, nm_QI, nm_QR, nm_QL, nm_QQ, nm_rr, nm_ii, nm_eqm, not_false_eq_true, pk_sub, nm_div, nm_shl, nm_shr, nm_ush, nm_or8, nm_or64, nm_or256, nm_m1, nm_m3, nm_m7, nm_m15, nm_m31, nm_m63, nm_m255, nm_m511, nm_m1023, nm_m2047, nm_m65535, Nat.reduceMod, Nat.reducePow, Nat.reduceAdd, Nat.reduceSub, Nat.reduceMul, nm_bo, nm_bi, nm_rc, nm_ic, nm_ri, nm_rl, nm_rq, nm_ql, nm_qi, nm_li, nm_us, nm_uu, nm_cp, nm_sa31, nm_sa7, nm_m127, nm_m2, nm_nz, nm_nzk, nm_eq32, nm_nzf, if_true, if_false, ↓reduceIte, if_pos, if_neg]
theorem xp_1 {n : Nat} {B : St} {cs tp st ns : Nat} {fx : Bool} {C A S NM BK : Nat → Int32} {ap kd fr : Nat} {nm : Int32} (κ : Int32) (h : tp < 32832) : df_X9_push n κ (uC (xC B cs tp st ns fx C A S NM BK) ap kd fr nm) = some (uC (xC B cs (tp + 1) st ns fx C A (upd S tp κ) NM BK) ap kd fr nm) := by
  simp (disch := (first | assumption | decide | omega)) only [df_X9_push_32, df_X9_push_0, df_X9_push, uC_i0, uC_i1, uC_i2, uC_i3, uC_i4, uC_r, uC_o, uC_w0, uC_w2, uC_w3, uC_w4, xC_i5, xC_u5, xC_i6, xC_u6, xC_i7, xC_u7, xC_i8, xC_u8, xC_i10, xC_u10, xC_r0, xC_r1, xC_r2, xC_r3, xC_r4, xC_i1, xC_u1, xC_i9, xC_u9, xC_i11, xC_u11, xC_r5, xC_r6, xC_r7, xC_o0, xC_w5, xC_w6, xC_w7, xC_w8, xC_w10, xC_y0, xC_y1, xC_y2, xC_y3, xC_y4, eq_self, Nat.reduceEqDiff, Nat.reduceLeDiff, nl_1, nl_2, nl_6, nl_32832, no_1, no_1024, pk_mul, nI_add, nm_ck, nI_clamp, nI_ltI, nI_leI, nI_eq, nb_b2, nb_b1, ↓nb_let, nm_z0, nm_z1, nb_II, nb_IR, nb_RI, nb_RR, nm_IL, nm_IQ, nm_RL, nm_RQ, nm_LI, nm_LR, nm_LL, nm_LQ, nm_QI, nm_QR, nm_QL, nm_QQ, nm_rr, nm_ii, nm_eqm, not_false_eq_true, pk_sub, nm_div, nm_shl, nm_shr, nm_ush, nm_or8, nm_or64, nm_or256, nm_m1, nm_m3, nm_m7, nm_m15, nm_m31, nm_m63, nm_m255, nm_m511, nm_m1023, nm_m2047, nm_m65535, Nat.reduceMod, Nat.reducePow, Nat.reduceAdd, Nat.reduceSub, Nat.reduceMul, nm_bo, nm_bi, nm_rc, nm_ic, nm_ri, nm_rl, nm_rq, nm_ql, nm_qi, nm_li, nm_us, nm_uu, nm_cp, nm_sa31, nm_sa7, nm_m127, nm_m2, nm_nz, nm_nzk, nm_eq32, nm_nzf, if_true, if_false, ↓reduceIte, if_pos, if_neg]
theorem xs_1 {n : Nat} {B : St} {cs tp st ns : Nat} {fx : Bool} {C A S NM BK : Nat → Int32} {ap kd fr : Nat} {nm : Int32} (hk : kd ≤ 6) (x : Int32) : df_X9_isSign n x (uC (xC B cs tp st ns fx C A S NM BK) ap kd fr nm) = some (bI (decide (kd = 5 ∧ nm = x)), (uC (xC B cs tp st ns fx C A S NM BK) ap kd fr nm)) := by
  unfold df_X9_isSign df_X9_isSign_0 df_X9_isSign_20 df_X9_isSign_21
  rw [uC_i2, uC_i4]
  by_cases y : kd = 5
  · rw [if_pos (show nI kd = (5 : Int32) from congrArg nI y)]
    by_cases z : nm = x
    · rw [if_pos z, decide_eq_true ⟨y, z⟩]
      exact nar_z (by decide)
    · rw [if_neg z, decide_eq_false (fun w => z w.2)]
      exact nar_z (by decide)
  · rw [if_neg (show ¬ nI kd = (5 : Int32) from zne (b := 5) y (by omega) (by omega)), decide_eq_false (fun w => y w.1)]
    exact nar_z (by decide)
/-- what waits is taken off -/
theorem xo_1 {n : Nat} {B : St} {st ns : Nat} {fx : Bool} {S NM BK : Nat → Int32} {ap kd fr : Nat} {nm : Int32} {NR : Nat → Int32} {c : Nat → Nat} {e : Nat} {C0 A0 : Nat → Int32} {s0 : Nat} {bs ws : Nat → Nat} (r : Nat) (hr : r ≤ 7) : ∀ (l : List Nat) (g m : Nat) (P : Nat → Tp) (C A : Nat → Int32), stk S l → (∀ x : Nat, x ∈ l → 1 ≤ x ∧ x ≤ 15) → l.length < g → l.length ≤ 32768 → s0 + m + l.length ≤ 32832 → CR NR c e C0 A0 s0 ns bs ws m P C A → ∃ C' A' : Nat → Int32, df_X9_popTo_0 n g (nI r) (uC (xC B (s0 + m) l.length st ns fx C A S NM BK) ap kd fr nm) = some (uC (xC B (s0 + m + (popA r l).length) (popB r l).length st ns fx C' A' S NM BK) ap kd fr nm) ∧ CR NR c e C0 A0 s0 ns bs ws (m + (popA r l).length) (apl P m (popA r l)) C' A' := fun l => by
  induction l with
  | nil =>
    intro g m P C A h1 h2 h3 h4 h5 h6
    obtain ⟨g, rfl⟩ : ∃ m : Nat, g = m + 1 := ⟨g - 1, by have : ([] : List Nat).length = 0 := rfl; omega⟩
    refine ⟨C, A, ?_, h6⟩
    show dF_X9_popTo_0 n (df_X9_popTo_0 n g) (nI r) (uC (xC B (s0 + m) 0 st ns fx C A S NM BK) ap kd fr nm) = _
    unfold dF_X9_popTo_0
    rw [xC_u6, if_pos (show nI 0 ≤ (0 : Int32) by decide)]
    rfl
  | cons x l ih =>
    intro g m P C A h1 h2 h3 h4 h5 h6
    have hl : (x :: l).length = l.length + 1 := rfl
    obtain ⟨g, rfl⟩ : ∃ m : Nat, g = m + 1 := ⟨g - 1, by omega⟩
    have hx := h2 x (List.mem_cons_self ..)
    have sx : S l.length = nI x := h1.1
    have hd : df_X9_popTo_0 n (g + 1) (nI r) (uC (xC B (s0 + m) (x :: l).length st ns fx C A S NM BK) ap kd fr nm) = dF_X9_popTo_0 n (df_X9_popTo_0 n g) (nI r) (uC (xC B (s0 + m) (x :: l).length st ns fx C A S NM BK) ap kd fr nm) := rfl
    rw [hd]
    unfold dF_X9_popTo_0
    rw [hl, xC_u6, if_neg (show ¬ nI (l.length + 1) ≤ (0 : Int32) from znle (b := 0) (by omega) (by omega)), show nI (l.length + 1) - (1 : Int32) = nI l.length from pk_sub (b := 1) (by omega), nm_ck (by omega) (by omega), nI_clamp (by omega), uC_r, xC_r2, sx]
    by_cases y : x < 13
    · obtain ⟨rt, rb⟩ := rk_t ⟨x, y⟩
      have rt : tb_2 x = nI (rkA x) := rt
      have rb : rkA x ≤ 7 := rb
      rw [if_neg (show ¬ (13 : Int32) ≤ nI x from znle (a := 13) y (by omega)), nm_ck (by omega) (by omega), nm_ck y (by omega), nI_clamp (by omega), rt]
      by_cases z : r ≤ rkA x
      · rw [if_neg (show ¬ nI (rkA x) < nI r from znl z (by omega)), xC_w6, nb_let, xC_u6, nm_ck (by omega) (by omega), nI_clamp (by omega), uC_r, xC_r2, sx, xe_1 (nI x) 0 (by omega), nb_b1]
        obtain ⟨C', A', e1, e2⟩ := ih g (m + 1) (nwT P m (x, 0, 0)) (upd C (s0 + m) (nI x)) (upd A (s0 + m) 0) h1.2 (fun w hw => h2 w (List.mem_cons_of_mem _ hw)) (by omega) (by omega) (by omega) (CR_w h6 (x, 0, 0) 0 (aG_s (by omega)))
        have pa : popA r (x :: l) = x :: popA r l := if_pos ⟨y, z⟩
        have pb : popB r (x :: l) = popB r l := if_pos ⟨y, z⟩
        rw [pa, pb]
        refine ⟨C', A', ?_, ?_⟩
        · rw [show s0 + m + (x :: popA r l).length = s0 + (m + 1) + (popA r l).length by show s0 + m + ((popA r l).length + 1) = _; omega]
          exact e1
        · rw [show m + (x :: popA r l).length = m + 1 + (popA r l).length by show m + ((popA r l).length + 1) = _; omega]
          exact e2
      · have pa : popA r (x :: l) = [] := if_neg (fun w => z w.2)
        have pb : popB r (x :: l) = x :: l := if_neg (fun w => z w.2)
        rw [pa, pb, if_pos (show nI (rkA x) < nI r from zlt (by omega) (by omega))]
        exact ⟨C, A, rfl, h6⟩
    · have pa : popA r (x :: l) = [] := if_neg (fun w => y w.1)
      have pb : popB r (x :: l) = x :: l := if_neg (fun w => y w.1)
      rw [pa, pb, if_pos (show (13 : Int32) ≤ nI x from zle (a := 13) (by omega) (by omega))]
      exact ⟨C, A, rfl, h6⟩
/-- signs between two values -/
def bnO (v : Nat) : Nat := if v = 37 then 3 else if v = 38 then 8 else if v = 42 then 1 else if v = 43 then 4 else if v = 45 then 5 else if v = 47 then 2 else if v = 94 then 9 else if v = 124 then 10 else if v = 256 then 6 else if v = 257 then 7 else 0
theorem bn_0 : ∀ v : Fin 300, df_X9_binary 0 (nI v.1) () = some (nI (bnO v.1), ()) ∧ bnO v.1 ≤ 10 := by decide +kernel
theorem bn_1 (n : Nat) {v : Nat} (h : v < 300) : df_X9_binary n (nI v) () = some (nI (bnO v), ()) := (show df_X9_binary n (nI v) () = df_X9_binary 0 (nI v) () from rfl).trans (bn_0 ⟨v, h⟩).1
theorem pop_m (r : Nat) : ∀ (l : List Nat) (x : Nat), x ∈ popB r l → x ∈ l := fun l => by
  induction l with
  | nil => intro x h; exact h
  | cons y l ih =>
    intro x h
    unfold popB at h
    by_cases z : y < 13 ∧ r ≤ rkA y
    · rw [if_pos z] at h; exact List.mem_cons_of_mem _ (ih x h)
    · rw [if_neg z] at h; exact h
theorem apl_a : ∀ (xs ys : List Nat) (P : Nat → Tp) (m : Nat), apl P m (xs ++ ys) = apl (apl P m xs) (m + xs.length) ys := fun xs => by
  induction xs with
  | nil => intro ys P m; rfl
  | cons x xs ih =>
    intro ys P m
    show apl (nwT P m (x, 0, 0)) (m + 1) (xs ++ ys) = apl (apl (nwT P m (x, 0, 0)) (m + 1) xs) (m + (xs.length + 1)) ys
    rw [ih ys (nwT P m (x, 0, 0)) (m + 1), show m + 1 + xs.length = m + (xs.length + 1) by omega]
/-- an operator: a sign between two values -/
theorem xt_B {n : Nat} {B : St} {st ns : Nat} {fx : Bool} {S NM BK : Nat → Int32} {ap kd fr : Nat} {nm : Int32} {NR : Nat → Int32} {c : Nat → Nat} {e : Nat} {C0 A0 : Nat → Int32} {s0 : Nat} {bs ws : Nat → Nat} (hn : 70000 < n) (l : List Nat) (m : Nat) (P : Nat → Tp) (C A : Nat → Int32) (h1 : stk S l) (h2 : ∀ x : Nat, x ∈ l → 1 ≤ x ∧ x ≤ 15) (h4 : l.length ≤ 32768) (h5 : s0 + m + l.length < 32832) (h6 : CR NR c e C0 A0 s0 ns bs ws m P C A) (v : Nat) (hv : v < 300) (hb : 0 < bnO v) (hk : kd = 5) (hm : nm = nI v) : ∃ C' A' : Nat → Int32, df_X9_takeOperator n (uC (xC B (s0 + m) l.length st ns fx C A S NM BK) ap kd fr nm) = some (uC (xC B (s0 + m + (popA (rkA (bnO v)) l).length) ((popB (rkA (bnO v)) l).length + 1) 0 ns fx C' A' (upd S (popB (rkA (bnO v)) l).length (nI (bnO v))) NM BK) ap kd fr nm) ∧ CR NR c e C0 A0 s0 ns bs ws (m + (popA (rkA (bnO v)) l).length) (apl P m (popA (rkA (bnO v)) l)) C' A' ∧ stk (upd S (popB (rkA (bnO v)) l).length (nI (bnO v))) (bnO v :: popB (rkA (bnO v)) l) := by
  have b10 := (bn_0 ⟨v, hv⟩).2
  have b10 : bnO v ≤ 10 := b10
  obtain ⟨rt, rb⟩ := rk_t ⟨bnO v, by omega⟩
  have rt : tb_2 (bnO v) = nI (rkA (bnO v)) := rt
  have rb : rkA (bnO v) ≤ 7 := rb
  obtain ⟨C', A', e1, e2⟩ := xo_1 (n := n) (B := B) (st := st) (fx := fx) (NM := NM) (BK := BK) (ap := ap) (kd := kd) (fr := fr) (nm := nm) (rkA (bnO v)) rb l n m P C A h1 h2 (by omega) h4 (by omega) h6
  have pl := pop_l (rkA (bnO v)) l
  refine ⟨C', A', ?_, e2, stk_p _ (pop_s _ l h1)⟩
  have e1 : df_X9_popTo n (nI (rkA (bnO v))) (uC (xC B (s0 + m) l.length st ns fx C A S NM BK) ap kd fr nm) = _ := e1
  unfold df_X9_takeOperator df_X9_takeOperator_0 df_X9_takeOperator_19
  rw [uC_i2, uC_i4, hk, hm, if_pos (show nI 5 = (5 : Int32) from rfl), bn_1 n hv, nb_b2, if_neg (show ¬ nI (bnO v) = (0 : Int32) from zne (b := 0) (by omega) (by omega) (by omega)), nm_ck (by omega) (by omega), nI_clamp (by omega), rt, ← hk, ← hm, e1, nb_b1, xp_1 (nI (bnO v)) (by omega), nb_b1, show (0 : Int32) = nI 0 from rfl, xC_w7, nb_let]
/-- an operator: none, the end of the expression or of a bracket -/
theorem xt_E {n : Nat} {B : St} {st ns : Nat} {fx : Bool} {S NM BK : Nat → Int32} {ap kd fr : Nat} {nm : Int32} {NR : Nat → Int32} {c : Nat → Nat} {e : Nat} {C0 A0 : Nat → Int32} {s0 : Nat} {bs ws : Nat → Nat} (hn : 70000 < n) (l : List Nat) (m : Nat) (P : Nat → Tp) (C A : Nat → Int32) (h1 : stk S l) (h2 : ∀ x : Nat, x ∈ l → 1 ≤ x ∧ x ≤ 15) (h4 : l.length ≤ 32768) (h5 : s0 + m + l.length < 32832) (h6 : CR NR c e C0 A0 s0 ns bs ws m P C A) (h0 : kd = 5 → ∃ v : Nat, v < 300 ∧ nm = nI v ∧ bnO v = 0) (hk : kd ≤ 6) (hz : popB 0 l = []) : ∃ C' A' : Nat → Int32, df_X9_takeOperator n (uC (xC B (s0 + m) l.length st ns fx C A S NM BK) ap kd fr nm) = some (uC (xC B (s0 + m + (popA 0 l).length) 0 5 ns fx C' A' S NM BK) ap kd fr nm) ∧ CR NR c e C0 A0 s0 ns bs ws (m + (popA 0 l).length) (apl P m (popA 0 l)) C' A' := by
  obtain ⟨C', A', e1, e2⟩ := xo_1 (n := n) (B := B) (st := st) (fx := fx) (NM := NM) (BK := BK) (ap := ap) (kd := kd) (fr := fr) (nm := nm) 0 (by omega) l n m P C A h1 h2 (by omega) h4 (by omega) h6
  refine ⟨C', A', ?_, e2⟩
  have e1 : df_X9_popTo n (nI 0) (uC (xC B (s0 + m) l.length st ns fx C A S NM BK) ap kd fr nm) = _ := e1
  have s : df_X9_takeOperator n (uC (xC B (s0 + m) l.length st ns fx C A S NM BK) ap kd fr nm) = df_X9_takeOperator_19 n 0 (uC (xC B (s0 + m) l.length st ns fx C A S NM BK) ap kd fr nm) := by
    unfold df_X9_takeOperator df_X9_takeOperator_0
    rw [uC_i2, uC_i4]
    by_cases y : kd = 5
    · obtain ⟨v, v1, v2, v3⟩ := h0 y
      rw [if_pos (show nI kd = (5 : Int32) from congrArg nI y), v2, bn_1 n v1, nb_b2, v3]
      rfl
    · rw [if_neg (show ¬ nI kd = (5 : Int32) from zne (b := 5) y (by omega) (by omega))]
  rw [s]
  unfold df_X9_takeOperator_19
  rw [if_pos rfl, show df_X9_popTo n 0 (uC (xC B (s0 + m) l.length st ns fx C A S NM BK) ap kd fr nm) = _ from e1, nb_b1, hz, xC_u6, if_pos (show nI ([] : List Nat).length = (0 : Int32) from rfl), show (5 : Int32) = nI 5 from rfl, xC_w7, nb_let]
  rfl
theorem xt_W {n : Nat} {B : St} {st ns : Nat} {fx : Bool} {S NM BK : Nat → Int32} {ap kd fr : Nat} {nm : Int32} {NR : Nat → Int32} {c : Nat → Nat} {e : Nat} {C0 A0 : Nat → Int32} {s0 : Nat} {bs ws : Nat → Nat} (hn : 70000 < n) (l : List Nat) (m : Nat) (P : Nat → Tp) (C A : Nat → Int32) (h1 : stk S l) (h2 : ∀ x : Nat, x ∈ l → 1 ≤ x ∧ x ≤ 15) (h4 : l.length ≤ 32768) (h5 : s0 + m + l.length < 32832) (h6 : CR NR c e C0 A0 s0 ns bs ws m P C A) (h0 : kd = 5 → ∃ v : Nat, v < 300 ∧ nm = nI v ∧ bnO v = 0) (hk : kd ≤ 6) (x : Nat) (l2 : List Nat) (hz : popB 0 l = x :: l2) (h41 : ¬ (kd = 5 ∧ nm = 41)) : ∃ C' A' : Nat → Int32, df_X9_takeOperator n (uC (xC B (s0 + m) l.length st ns fx C A S NM BK) ap kd fr nm) = some (uC (xC B (s0 + m + (popA 0 l).length) (l2.length + 1) 6 ns fx C' A' S NM BK) ap kd fr nm) ∧ CR NR c e C0 A0 s0 ns bs ws (m + (popA 0 l).length) (apl P m (popA 0 l)) C' A' := by
  obtain ⟨C', A', e1, e2⟩ := xo_1 (n := n) (B := B) (st := st) (fx := fx) (NM := NM) (BK := BK) (ap := ap) (kd := kd) (fr := fr) (nm := nm) 0 (by omega) l n m P C A h1 h2 (by omega) h4 (by omega) h6
  have pl := pop_l 0 l
  refine ⟨C', A', ?_, e2⟩
  have e1 : df_X9_popTo n (nI 0) (uC (xC B (s0 + m) l.length st ns fx C A S NM BK) ap kd fr nm) = _ := e1
  have s : df_X9_takeOperator n (uC (xC B (s0 + m) l.length st ns fx C A S NM BK) ap kd fr nm) = df_X9_takeOperator_19 n 0 (uC (xC B (s0 + m) l.length st ns fx C A S NM BK) ap kd fr nm) := by
    unfold df_X9_takeOperator df_X9_takeOperator_0
    rw [uC_i2, uC_i4]
    by_cases y : kd = 5
    · obtain ⟨v, v1, v2, v3⟩ := h0 y
      rw [if_pos (show nI kd = (5 : Int32) from congrArg nI y), v2, bn_1 n v1, nb_b2, v3]
      rfl
    · rw [if_neg (show ¬ nI kd = (5 : Int32) from zne (b := 5) y (by omega) (by omega))]
  rw [s]
  have lx : (x :: l2).length = l2.length + 1 := rfl
  rw [hz, lx] at pl
  unfold df_X9_takeOperator_19
  rw [if_pos rfl, show df_X9_popTo n 0 (uC (xC B (s0 + m) l.length st ns fx C A S NM BK) ap kd fr nm) = _ from e1, nb_b1, hz, lx, xC_u6, if_neg (show ¬ nI (l2.length + 1) = (0 : Int32) from zne (b := 0) (by omega) (by omega) (by omega)), xs_1 hk, nb_b2, decide_eq_false h41, if_pos (show bI false = 0 from rfl), show (6 : Int32) = nI 6 from rfl, xC_w7, nb_let]
  rfl
theorem xt_C {n : Nat} {B : St} {st ns : Nat} {fx : Bool} {S NM BK : Nat → Int32} {ap kd fr : Nat} {nm : Int32} {NR : Nat → Int32} {c : Nat → Nat} {e : Nat} {C0 A0 : Nat → Int32} {s0 : Nat} {bs ws : Nat → Nat} (hn : 70000 < n) (l : List Nat) (m : Nat) (P : Nat → Tp) (C A : Nat → Int32) (h1 : stk S l) (h2 : ∀ x : Nat, x ∈ l → 1 ≤ x ∧ x ≤ 15) (h4 : l.length ≤ 32768) (h5 : s0 + m + l.length < 32832) (h6 : CR NR c e C0 A0 s0 ns bs ws m P C A) (hk : kd = 5) (hm : nm = 41) (x : Nat) (l2 : List Nat) (hz : popB 0 l = x :: l2) : ∃ C' A' : Nat → Int32, df_X9_takeOperator n (uC (xC B (s0 + m) l.length st ns fx C A S NM BK) ap kd fr nm) = some (uC (xC B (s0 + m + (popA 0 l ++ if x = 15 then [] else [x]).length) l2.length st ns fx C' A' S NM BK) ap kd fr nm) ∧ CR NR c e C0 A0 s0 ns bs ws (m + (popA 0 l ++ if x = 15 then [] else [x]).length) (apl P m (popA 0 l ++ if x = 15 then [] else [x])) C' A' := by
  obtain ⟨C', A', e1, e2⟩ := xo_1 (n := n) (B := B) (st := st) (fx := fx) (NM := NM) (BK := BK) (ap := ap) (kd := kd) (fr := fr) (nm := nm) 0 (by omega) l n m P C A h1 h2 (by omega) h4 (by omega) h6
  have pl := pop_l 0 l
  have e1 : df_X9_popTo n (nI 0) (uC (xC B (s0 + m) l.length st ns fx C A S NM BK) ap kd fr nm) = _ := e1
  have sx : stk S (x :: l2) := hz ▸ pop_s 0 l h1
  have mx : 1 ≤ x ∧ x ≤ 15 := h2 x (pop_m 0 l x (by rw [hz]; exact List.mem_cons_self ..))
  have lx : (x :: l2).length = l2.length + 1 := rfl
  rw [hz, lx] at pl
  have s : df_X9_takeOperator n (uC (xC B (s0 + m) l.length st ns fx C A S NM BK) ap kd fr nm) = df_X9_takeOperator_19 n 0 (uC (xC B (s0 + m) l.length st ns fx C A S NM BK) ap kd fr nm) := by
    unfold df_X9_takeOperator df_X9_takeOperator_0
    rw [uC_i2, uC_i4, hk, hm, if_pos (show nI 5 = (5 : Int32) from rfl), show (41 : Int32) = nI 41 from rfl, bn_1 n (show 41 < 300 by omega), nb_b2]
    rfl
  rw [s]
  unfold df_X9_takeOperator_19
  rw [if_pos rfl, show df_X9_popTo n 0 (uC (xC B (s0 + m) l.length st ns fx C A S NM BK) ap kd fr nm) = _ from e1, nb_b1, hz, lx, xC_u6, if_neg (show ¬ nI (l2.length + 1) = (0 : Int32) from zne (b := 0) (by omega) (by omega) (by omega)), xs_1 (by omega), nb_b2, decide_eq_true ⟨hk, hm⟩, if_neg (show ¬ bI true = 0 by decide), xC_u6, show nI (l2.length + 1) - (1 : Int32) = nI l2.length from pk_sub (b := 1) (by omega), xC_w6, nb_let, xC_u6, nm_ck (by omega) (by omega), nI_clamp (by omega), uC_r, xC_r2, show S l2.length = nI x from sx.1]
  by_cases y : x = 15
  · rw [if_pos (show nI x = (15 : Int32) from congrArg nI y), if_pos y, List.append_nil]
    exact ⟨C', A', rfl, e2⟩
  · rw [if_neg (show ¬ nI x = (15 : Int32) from zne (b := 15) y (by omega) (by omega)), if_neg y, nm_ck (by omega) (by omega), xe_1 (nI x) 0 (by omega), nb_b1, List.length_append, apl_a]
    exact ⟨_, _, rfl, by
      have w := CR_w e2 (x, 0, 0) 0 (aG_s (by omega))
      rw [← Nat.add_assoc s0 m] at w
      exact w⟩

/-- operands -/
theorem xd_N {n : Nat} {B : St} {cs tp st ns : Nat} {fx : Bool} {C A S NM BK : Nat → Int32} {ap fr : Nat} {nm : Int32} (h : cs < 32832) : df_X9_takeOperand n (uC (xC B cs tp st ns fx C A S NM BK) ap 2 fr nm) = some (uC (xC B (cs + 1) tp 1 ns fx (upd C cs 16) (upd A cs nm) S NM BK) ap 2 fr nm) := by
  unfold df_X9_takeOperand df_X9_takeOperand_0
  rw [show (1 : Int32) = nI 1 from rfl, xC_w7, nb_let, uC_i2, if_pos (show nI 2 = (2 : Int32) from rfl), uC_i4, xe_1 16 nm h, nb_b1]
  rfl
theorem xd_H {n : Nat} {B : St} {cs tp st ns : Nat} {fx : Bool} {C A S NM BK : Nat → Int32} {fr : Nat} {nm : Int32} (hO : sO B 0 = some 8) (h : cs < 32832) (hf : fr < 32768) (hp : sR B 7 fr = 46) : df_X9_takeOperand n (uC (xC B cs tp st ns fx C A S NM BK) (fr + 1) 1 fr nm) = some (uC (xC B (cs + 1) tp 1 ns false (upd C cs 18) (upd A cs 0) S NM BK) (fr + 1) 1 fr nm) := by
  unfold df_X9_takeOperand df_X9_takeOperand_0
  rw [show (1 : Int32) = nI 1 from rfl, xC_w7, nb_let, uC_i2, if_neg (show ¬ nI 1 = (2 : Int32) by decide), if_pos rfl, uC_i0, uC_i3, show nI (fr + 1) - nI fr = nI 1 from (pk_sub (by omega)).trans (congrArg nI (by omega)), if_pos rfl, uC_o, xC_o0, o8S hO, nm_ck (by omega) (by omega), nI_clamp (by omega), uC_r, xC_r7, hp, if_pos rfl, show (0 : Int32) = bI false from rfl, xC_w10, nb_let, show (bI false : Int32) = 0 from rfl, xe_1 18 0 h, nb_b1]
  rfl
theorem xd_W {n L e : Nat} {c : Nat → Nat} {B BR : St} {cs tp st ns : Nat} {fx : Bool} {C A S NM BK : Nat → Int32} {fr l : Nat} {nm : Int32} {bs ws : Nat → Nat} (hT : atx n L e c B BR) (hH : HT L c ns NM BK bs ws) (hns : ns < 16384) (h : cs < 32832) (hl : 1 ≤ l) (hq : fr + l ≤ L) (hp : ¬ (l = 1 ∧ c fr = 46)) (hA : ∀ t : Nat, t < l → aP (c (fr + t)) = true) : ∃ (id ns' : Nat) (NM' BK' : Nat → Int32) (bs' ws' : Nat → Nat), df_X9_takeOperand n (uC (xC B cs tp st ns fx C A S NM BK) (fr + l) 1 fr nm) = some (uC (xC B (cs + 1) tp 1 ns' (fx && decide (NM' (5 * id + 2) = 1)) (upd C cs 17) (upd A cs (nI id)) S NM' BK') (fr + l) 1 fr nm) ∧ HT L c ns' NM' BK' bs' ws' ∧ id < ns' ∧ sW c (bs' id) (ws' id) fr l ∧ ns ≤ ns' ∧ ns' ≤ ns + 1 ∧ (∀ i : Nat, i < ns → bs' i = bs i ∧ ws' i = ws i ∧ NM' (5 * i + 2) = NM (5 * i + 2) ∧ NM' (5 * i + 3) = NM (5 * i + 3)) ∧ (∀ i : Nat, ns ≤ i → i < ns' → NM' (5 * i + 2) = 0) := by
  obtain ⟨hn, hL, heL, h127, hend, hce, hO, h1, htC, h0, htR, hch⟩ := id hT
  obtain ⟨id, ns', NM', BK', bs', ws', e1, e2, e3, e4, e5, e6, e7, e8⟩ := na_1 (cs := cs) (tp := tp) (st := 1) (fx := fx) (C := C) (A := A) (S := S) (ap := fr + l) (kd := 1) (fr := fr) (nm := nm) hT hH hns fr l hq hA
  refine ⟨id, ns', NM', BK', bs', ws', ?_, e2, e3, e4, e5, e6, e7, e8⟩
  have n2 := e2.1
  have c127 := h127 fr
  have s : df_X9_takeOperand n (uC (xC B cs tp st ns fx C A S NM BK) (fr + l) 1 fr nm) = df_X9_takeOperand_76 n (uC (xC B cs tp 1 ns fx C A S NM BK) (fr + l) 1 fr nm) := by
    unfold df_X9_takeOperand df_X9_takeOperand_0
    rw [show (1 : Int32) = nI 1 from rfl, xC_w7, nb_let, uC_i2, if_neg (show ¬ nI 1 = (2 : Int32) by decide), if_pos rfl, uC_i0, uC_i3, show nI (fr + l) - nI fr = nI l from (pk_sub (by omega)).trans (congrArg nI (by omega))]
    by_cases y : l = 1
    · rw [if_pos (congrArg nI y), uC_o, xC_o0, o8S hO, nm_ck (by omega) (by omega), nI_clamp (by omega), uC_r, xC_r7, htC fr (by omega), if_neg (show ¬ nI (c fr) = (46 : Int32) from zne (b := 46) (fun z => hp ⟨y, z⟩) (by omega) (by omega))]
    · rw [if_neg (zne y (by omega) (by omega))]
  rw [s]
  unfold df_X9_takeOperand_76
  rw [uC_i2, if_pos (show nI 1 = (1 : Int32) from rfl), uC_i0, uC_i3, show nI (fr + l) - nI fr = nI l from (pk_sub (by omega)).trans (congrArg nI (by omega)), e1, nb_b2, xC_u10]
  unfold df_X9_takeOperand_128
  have fin : ∀ b : Bool, df_X9_takeOperand_129 n (nI id) (bI b) (uC (xC B cs tp 1 ns' fx C A S NM' BK') (fr + l) 1 fr nm) = some (uC (xC B (cs + 1) tp 1 ns' b (upd C cs 17) (upd A cs (nI id)) S NM' BK') (fr + l) 1 fr nm) := fun b => by
    unfold df_X9_takeOperand_129
    have z1 : ∀ x : Option St, nd_f .boolean (bI b) x = x := fun x => by cases b <;> rfl
    have z2 : ∀ x : Option St, nd_z .boolean (bI b) x = x := fun x => by cases b <;> exact nar_z (by decide)
    rw [z1, z2, xC_w10, nb_let, xe_1 17 (nI id) h, nb_b1]
    rfl
  cases fx with
  | false =>
    rw [if_pos (show bI false = 0 from rfl)]
    exact fin false
  | true =>
    rw [if_neg (show ¬ bI true = 0 by decide), show nI id * (5 : Int32) = nI (5 * id) from (pk_mul id 5).trans (congrArg nI (Nat.mul_comm id 5)), show nI (5 * id) + (2 : Int32) = nI (5 * id + 2) from nI_add (5 * id) 2, nm_ck (by omega) (by omega), nI_clamp (by omega), uC_r, xC_r3]
    by_cases y : NM' (5 * id + 2) = 1
    · rw [if_pos y, decide_eq_true y]
      exact fin true
    · rw [if_neg y, decide_eq_false y]
      exact fin false
theorem xd_R {n : Nat} {B : St} {cs tp st ns : Nat} {fx : Bool} {C A S NM BK : Nat → Int32} {ap fr : Nat} {nm : Int32} (hO : sO B 0 = some 8) (h : cs < 32832) (d x : Nat) (κ α : Int32) (hd : d ≤ 9) (hf : fr + 1 < 32768) (hx : x = 98 ∨ x = 102) (hp : sR B 7 (fr + 1) = nI x) (hm : nm = nI d) (hα : x = 98 → κ = 20 ∧ α = sR B 5 (10 + d) - 1) (hβ : x = 102 → κ = 19 ∧ α = if sR B 5 (10 + d) - 1 < 0 then -1 - nI d else sR B 5 (10 + d) - 1) : df_X9_takeOperand n (uC (xC B cs tp st ns fx C A S NM BK) ap 3 fr nm) = some (uC (xC B (cs + 1) tp 1 ns false (upd C cs κ) (upd A cs α) S NM BK) ap 3 fr nm) := by
  unfold df_X9_takeOperand df_X9_takeOperand_0 df_X9_takeOperand_76
  rw [show (1 : Int32) = nI 1 from rfl, xC_w7, nb_let, uC_i2, if_neg (show ¬ nI 3 = (2 : Int32) by decide), if_neg (show ¬ nI 3 = nI 1 by decide), if_neg (show ¬ nI 3 = nI 1 by decide), if_pos (show nI 3 = (3 : Int32) from rfl)]
  have q : df_X9_takeNear n (uC (xC B cs tp 1 ns fx C A S NM BK) ap 3 fr nm) = some (uC (xC B (cs + 1) tp 1 ns false (upd C cs κ) (upd A cs α) S NM BK) ap 3 fr nm) := by
    unfold df_X9_takeNear df_X9_takeNear_0 df_X9_takeNear_63
    rw [show pI (uC (xC B cs tp 1 ns fx C A S NM BK) ap 3 fr nm) 10 0 = _ from xC_w10 (v := false), nb_let, uC_i4, hm, show (10 : Int32) + nI d = nI (10 + d) from nI_add 10 d, nm_ck (by omega) (by omega), nI_clamp (by omega), uC_r, xC_r5, nb_let, uC_o, xC_o0, o8S hO, uC_i3, show nI fr + (1 : Int32) = nI (fr + 1) from nI_add fr 1, nm_ck (by omega) (by omega), nI_clamp (by omega), uC_r, xC_r7, hp]
    rcases hx with hx | hx
    · obtain ⟨e1, e2⟩ := hα hx
      subst hx
      rw [if_pos (show nI 98 = (98 : Int32) from rfl), xe_1 20 _ h, nb_b1, e1, e2]
      rfl
    · obtain ⟨e1, e2⟩ := hβ hx
      subst hx
      rw [if_neg (show ¬ nI 102 = (98 : Int32) by decide)]
      by_cases y : sR B 5 (10 + d) - 1 < 0
      · rw [if_pos y] at e2 ⊢
        rw [xe_1 19 _ h, nb_b1, e1, e2]
        rfl
      · rw [if_neg y] at e2 ⊢
        rw [xe_1 19 _ h, nb_b1, e1, e2]
        rfl
  rw [q, nb_b1]
  rfl
theorem xd_S {n : Nat} {B : St} {cs tp st ns : Nat} {fx : Bool} {C A S NM BK : Nat → Int32} {ap fr : Nat} {nm : Int32} (h : tp < 32832) (v : Nat) (hv : v = 45 ∨ v = 126 ∨ v = 40) (hm : nm = nI v) : df_X9_takeOperand n (uC (xC B cs tp st ns fx C A S NM BK) ap 5 fr nm) = some (uC (xC B cs (tp + 1) 0 ns fx C A (upd S tp (if v = 45 then 11 else if v = 126 then 12 else 15)) NM BK) ap 5 fr (nI v)) := by
  unfold df_X9_takeOperand df_X9_takeOperand_0 df_X9_takeOperand_76
  rw [show (1 : Int32) = nI 1 from rfl, xC_w7, nb_let, uC_i2, if_neg (show ¬ nI 5 = (2 : Int32) by decide), if_neg (show ¬ nI 5 = nI 1 by decide), if_neg (show ¬ nI 5 = nI 1 by decide), if_neg (show ¬ nI 5 = (3 : Int32) by decide), if_pos (show nI 5 = (5 : Int32) from rfl), uC_i4, hm]
  unfold df_X9_takeOperand_192 df_X9_takeOperand_223
  rw [uC_i4]
  rcases hv with hv | hv | hv
  · subst hv
    rw [if_pos (show nI 45 = (45 : Int32) from rfl), if_pos (show nI 45 = (45 : Int32) from rfl), xp_1 11 h, nb_b1, show (0 : Int32) = nI 0 from rfl, xC_w7, nb_let]
    rfl
  · subst hv
    rw [if_neg (show ¬ nI 126 = (45 : Int32) by decide), if_pos (show nI 126 = (126 : Int32) from rfl), if_neg (show ¬ nI 126 = (45 : Int32) by decide), if_pos (show nI 126 = (126 : Int32) from rfl), xp_1 12 h, nb_b1, show (0 : Int32) = nI 0 from rfl, xC_w7, nb_let]
    rfl
  · subst hv
    rw [if_neg (show ¬ nI 40 = (45 : Int32) by decide), if_neg (show ¬ nI 40 = (126 : Int32) by decide), if_pos (show nI 40 = (40 : Int32) from rfl), if_neg (show ¬ nI 40 = (45 : Int32) by decide), if_neg (show ¬ nI 40 = (126 : Int32) by decide), xp_1 15 h, nb_b1, show (0 : Int32) = nI 0 from rfl, xC_w7, nb_let]
    rfl
theorem xd_X {n : Nat} {B : St} {cs tp st ns : Nat} {fx : Bool} {C A S NM BK : Nat → Int32} {ap kd fr : Nat} {nm : Int32} (hk : kd = 0 ∨ kd = 4 ∨ kd = 6 ∨ (kd = 5 ∧ ∃ v : Nat, v < 300 ∧ nm = nI v ∧ ¬ v = 45 ∧ ¬ v = 126 ∧ ¬ v = 40)) : df_X9_takeOperand n (uC (xC B cs tp st ns fx C A S NM BK) ap kd fr nm) = some (uC (xC B cs tp (if kd = 5 ∧ nm = 37 then 2 else 6) ns fx C A S NM BK) ap kd fr nm) := by
  have h6 : kd ≤ 6 := by omega
  have s1 : ∀ b : Bool, (if bI b = 0 then df_X9_takeOperand_250 n 6 (uC (xC B cs tp 1 ns fx C A S NM BK) ap kd fr nm) else df_X9_takeOperand_250 n 2 (uC (xC B cs tp 1 ns fx C A S NM BK) ap kd fr nm)) = some (uC (xC B cs tp (if b = true then 2 else 6) ns fx C A S NM BK) ap kd fr nm) := fun b => by
    unfold df_X9_takeOperand_250
    cases b with
    | false => rw [if_pos (show bI false = 0 from rfl), show (6 : Int32) = nI 6 from rfl, xC_w7, nb_let]; rfl
    | true => rw [if_neg (show ¬ bI true = 0 by decide), show (2 : Int32) = nI 2 from rfl, xC_w7, nb_let]; rfl
  have s2 : df_X9_takeOperand_234 n (uC (xC B cs tp 1 ns fx C A S NM BK) ap kd fr nm) = some (uC (xC B cs tp (if decide (kd = 5 ∧ nm = 37) = true then 2 else 6) ns fx C A S NM BK) ap kd fr nm) := by
    unfold df_X9_takeOperand_234
    rw [xs_1 h6, nb_b2]
    exact s1 _
  unfold df_X9_takeOperand df_X9_takeOperand_0 df_X9_takeOperand_76
  rw [show (1 : Int32) = nI 1 from rfl, xC_w7, nb_let, uC_i2, if_neg (show ¬ nI kd = (2 : Int32) from zne (b := 2) (by omega) (by omega) (by omega)), if_neg (zne (show ¬ kd = 1 by omega) (by omega) (by omega)), if_neg (zne (show ¬ kd = 1 by omega) (by omega) (by omega)), if_neg (show ¬ nI kd = (3 : Int32) from zne (b := 3) (by omega) (by omega) (by omega))]
  by_cases y : kd = 5
  · obtain ⟨v, v1, v2, v3, v4, v5⟩ : ∃ v : Nat, v < 300 ∧ nm = nI v ∧ ¬ v = 45 ∧ ¬ v = 126 ∧ ¬ v = 40 := by
      rcases hk with z | z | z | z
      · omega
      · omega
      · omega
      · exact z.2
    rw [if_pos (show nI kd = (5 : Int32) from congrArg nI y), uC_i4, if_neg (show ¬ nm = (45 : Int32) by rw [v2]; exact zne (b := 45) v3 (by omega) (by omega)), if_neg (show ¬ nm = (126 : Int32) by rw [v2]; exact zne (b := 126) v4 (by omega) (by omega)), if_neg (show ¬ nm = (40 : Int32) by rw [v2]; exact zne (b := 40) v5 (by omega) (by omega))]
    rw [s2]
    simp only [decide_eq_true_eq]
  · rw [if_neg (show ¬ nI kd = (5 : Int32) from zne (b := 5) y (by omega) (by omega))]
    rw [s2]
    simp only [decide_eq_true_eq]
/-- %hi and %lo -/
theorem hl_w (k q l x y : Nat) {c : Nat → Nat} {R : Nat → Int32} (h127 : ∀ i : Nat, c i < 127) (hK : ks_n k = 2 ∧ ks_b k 0 = nI x ∧ ks_b k 1 = nI y) (hx : x < 127) (hy : y < 127) (hB : ∀ i : Nat, i < l → R (q + i) = nI (c (q + i))) : wq k q l R ↔ (l = 2 ∧ c q = x ∧ c (q + 1) = y) := by
  constructor
  · rintro ⟨e, h⟩
    rw [hK.1] at e
    have g : ∀ i v : Nat, i < l → v < 127 → ks_b k i = nI v → c (q + i) = v := fun i v hi hv hk => by
      have z := h i hi
      rw [hB i hi, hk, nI_eq (by have := h127 (q + i); omega) (by omega)] at z
      exact z
    exact ⟨e.symm, g 0 x (by omega) hx hK.2.1, g 1 y (by omega) hy hK.2.2⟩
  · rintro ⟨e, h0, h1⟩
    refine ⟨by rw [hK.1, e], fun i hi => ?_⟩
    rw [hB i hi]
    by_cases z0 : i = 0
    · subst z0; rw [hK.2.1]; exact congrArg nI h0
    · have z : i = 1 := by omega
      subst z; rw [hK.2.2, h1]
theorem k19 : ks_n 19 = 2 ∧ ks_b 19 0 = nI 104 ∧ ks_b 19 1 = nI 105 := by decide +kernel
theorem k20 : ks_n 20 = 2 ∧ ks_b 20 0 = nI 108 ∧ ks_b 20 1 = nI 111 := by decide +kernel
theorem xh_1 {n L e : Nat} {c : Nat → Nat} {B BR : St} {cs tp ns : Nat} {fx : Bool} {C A S NM BK : Nat → Int32} {fr l kd : Nat} {nm : Int32} (hT : atx n L e c B BR) (hk : kd ≤ 6) (hq : fr + l ≤ L) : df_X9_takeHalf n (uC (xC B cs tp 2 ns fx C A S NM BK) (fr + l) kd fr nm) = some (uC (xC B cs tp (if kd = 1 ∧ l = 2 ∧ c fr = 104 ∧ c (fr + 1) = 105 then 3 else if kd = 1 ∧ l = 2 ∧ c fr = 108 ∧ c (fr + 1) = 111 then 4 else 6) ns fx C A S NM BK) (fr + l) kd fr nm) := by
  obtain ⟨hn, hL, heL, h127, hend, hce, hO, h1, htC, h0, htR, hch⟩ := id hT
  have fin : ∀ s : Nat, df_X9_takeHalf_130 n (nI s) (uC (xC B cs tp 2 ns fx C A S NM BK) (fr + l) kd fr nm) = some (uC (xC B cs tp s ns fx C A S NM BK) (fr + l) kd fr nm) := fun s => by
    unfold df_X9_takeHalf_130
    rw [xC_w7, nb_let]
    rfl
  unfold df_X9_takeHalf df_X9_takeHalf_0
  rw [xC_u7, if_pos (show nI 2 = (2 : Int32) from rfl), uC_i2]
  by_cases y : kd = 1
  · have rs : sR (pR nd_st0 0 (sR (uC (xC B cs tp 2 ns fx C A S NM BK) (fr + l) kd fr nm) 7)) 0 = sR B 7 := rfl
    have hB : ∀ i : Nat, i < l → sR (pR nd_st0 0 (sR (uC (xC B cs tp 2 ns fx C A S NM BK) (fr + l) kd fr nm) 7)) 0 (fr + i) = nI (c (fr + i)) := fun i hi => by rw [rs]; exact htC _ (by omega)
    have w1 := hl_w 19 fr l 104 105 h127 k19 (by omega) (by omega) hB
    have w2 := hl_w 20 fr l 108 111 h127 k20 (by omega) (by omega) hB
    rw [if_pos (show nI kd = (1 : Int32) from congrArg nI y), uC_o, xC_o0, o8S hO, uC_i3, uC_i0, show nI (fr + l) - nI fr = nI l from (pk_sub (by omega)).trans (congrArg nI (by omega))]
    by_cases z : l = 2 ∧ c fr = 104 ∧ c (fr + 1) = 105
    · rw [sn_y n 19 fr l (by omega) (by omega) (by omega) (w1.mpr z), nb_b2, show pR (uC (xC B cs tp 2 ns fx C A S NM BK) (fr + l) kd fr nm) 7 (sR (pR nd_st0 0 (sR (uC (xC B cs tp 2 ns fx C A S NM BK) (fr + l) kd fr nm) 7)) 0) = (uC (xC B cs tp 2 ns fx C A S NM BK) (fr + l) kd fr nm) from nm_r0 _ 7, nb_let, if_neg (show ¬ nI 1 = (0 : Int32) by decide), show (3 : Int32) = nI 3 from rfl, xC_w7, nb_let, if_pos ⟨y, z⟩]
      rfl
    · rw [sn_n n 19 fr l (by omega) (by omega) (by omega) (fun v => z (w1.mp v)), nb_b2, show pR (uC (xC B cs tp 2 ns fx C A S NM BK) (fr + l) kd fr nm) 7 (sR (pR nd_st0 0 (sR (uC (xC B cs tp 2 ns fx C A S NM BK) (fr + l) kd fr nm) 7)) 0) = (uC (xC B cs tp 2 ns fx C A S NM BK) (fr + l) kd fr nm) from nm_r0 _ 7, nb_let, if_pos (show nI 0 = (0 : Int32) from rfl), if_neg (fun v => z v.2)]
      unfold df_X9_takeHalf_90
      rw [uC_i2, if_pos (show nI kd = (1 : Int32) from congrArg nI y), uC_o, xC_o0, o8S hO, uC_i3, uC_i0, show nI (fr + l) - nI fr = nI l from (pk_sub (by omega)).trans (congrArg nI (by omega))]
      by_cases u : l = 2 ∧ c fr = 108 ∧ c (fr + 1) = 111
      · rw [sn_y n 20 fr l (by omega) (by omega) (by omega) (w2.mpr u), nb_b2, show pR (uC (xC B cs tp 2 ns fx C A S NM BK) (fr + l) kd fr nm) 7 (sR (pR nd_st0 0 (sR (uC (xC B cs tp 2 ns fx C A S NM BK) (fr + l) kd fr nm) 7)) 0) = (uC (xC B cs tp 2 ns fx C A S NM BK) (fr + l) kd fr nm) from nm_r0 _ 7, nb_let, if_neg (show ¬ nI 1 = (0 : Int32) by decide), if_pos ⟨y, u⟩]
        exact fin 4
      · rw [sn_n n 20 fr l (by omega) (by omega) (by omega) (fun v => u (w2.mp v)), nb_b2, show pR (uC (xC B cs tp 2 ns fx C A S NM BK) (fr + l) kd fr nm) 7 (sR (pR nd_st0 0 (sR (uC (xC B cs tp 2 ns fx C A S NM BK) (fr + l) kd fr nm) 7)) 0) = (uC (xC B cs tp 2 ns fx C A S NM BK) (fr + l) kd fr nm) from nm_r0 _ 7, nb_let, if_pos (show nI 0 = (0 : Int32) from rfl), if_neg (fun v => u v.2)]
        exact fin 6
  · rw [if_neg (show ¬ nI kd = (1 : Int32) from zne (b := 1) y (by omega) (by omega)), if_neg (fun v => y v.1), if_neg (fun v => y v.1)]
    unfold df_X9_takeHalf_90
    rw [uC_i2, if_neg (show ¬ nI kd = (1 : Int32) from zne (b := 1) y (by omega) (by omega))]
    exact fin 6
theorem xh_2 {n : Nat} {B : St} {cs tp st ns : Nat} {fx : Bool} {C A S NM BK : Nat → Int32} {ap kd fr : Nat} {nm : Int32} (h : tp < 32832) (hk : kd ≤ 6) (hs : st = 3 ∨ st = 4) : df_X9_takeHalf n (uC (xC B cs tp st ns fx C A S NM BK) ap kd fr nm) = some (uC (xC B cs (tp + 1) (if decide (kd = 5 ∧ nm = 40) = true then 0 else 6) ns fx C A (upd S tp (if st = 3 then 13 else 14)) NM BK) ap kd fr nm) := by
  have fin : ∀ (y1 : Nat) (S' : Nat → Int32) (b : Bool), (if bI b = 0 then df_X9_takeHalf_43 n 6 (uC (xC B cs (tp + 1) st ns fx C A S' NM BK) ap kd fr nm) else df_X9_takeHalf_43 n 0 (uC (xC B cs (tp + 1) st ns fx C A S' NM BK) ap kd fr nm)) = some (uC (xC B cs (tp + 1) (if b = true then 0 else 6) ns fx C A S' NM BK) ap kd fr nm) := fun y1 S' b => by
    unfold df_X9_takeHalf_43
    cases b with
    | false => rw [if_pos (show bI false = 0 from rfl), show (6 : Int32) = nI 6 from rfl, xC_w7, nb_let]; rfl
    | true => rw [if_neg (show ¬ bI true = 0 by decide), show (0 : Int32) = nI 0 from rfl, xC_w7, nb_let]; rfl
  unfold df_X9_takeHalf df_X9_takeHalf_0
  rw [xC_u7, if_neg (show ¬ nI st = (2 : Int32) from zne (b := 2) (by omega) (by omega) (by omega))]
  unfold df_X9_takeHalf_24
  rcases hs with hs | hs
  · rw [if_pos (show nI st = (3 : Int32) from congrArg nI hs), xp_1 13 h, nb_b1, xs_1 hk, nb_b2, if_pos hs]
    exact fin 13 _ _
  · rw [if_neg (show ¬ nI st = (3 : Int32) from zne (b := 3) (by omega) (by omega) (by omega)), xp_1 14 h, nb_b1, xs_1 hk, nb_b2, if_neg (show ¬ st = 3 by omega)]
    exact fin 14 _ _
/-- turns of sum -/
theorem su_n {n g : Nat} {x1 : Int32} (k : Nat) (hk : k < 2 ^ 20) {s s' s2 : St} (h5 : ¬ sI s 7 = 5) (h6 : ¬ sI s 7 = 6) (ht : (if sI s 7 = 0 then df_X9_takeOperand n s else if sI s 7 = 1 then df_X9_takeOperator n s else df_X9_takeHalf n s) = some s') (g5 : ¬ sI s' 7 = 5) (g6 : ¬ sI s' 7 = 6) (hx : df_X9_next n s' = some s2) : df_X9_sum_26 n (g + 1) x1 (nI (k + 1)) s = df_X9_sum_26 n g x1 (nI k) s2 := by
  have fin : df_X9_sum_80 n (df_X9_sum_26 n g) x1 (nI (k + 1)) s' = df_X9_sum_26 n g x1 (nI k) s2 := by
    unfold df_X9_sum_80 df_X9_sum_101
    rw [if_neg g5, if_neg g6, hx, nb_b1, nb_let, show nI (k + 1) + Int32.ofInt (-1) = nI k by rw [show Int32.ofInt (-1) = -nI 1 by decide, ← Int32.sub_eq_add_neg, pk_sub (by omega)]; rfl]
  show dF_X9_sum_26 n (df_X9_sum_26 n g) x1 (nI (k + 1)) s = _
  unfold dF_X9_sum_26
  rw [if_neg (show ¬ nI (k + 1) < (0 : Int32) from znl (b := 0) (by omega) (by omega)), if_neg h5, if_neg h6]
  by_cases y0 : sI s 7 = 0
  · rw [if_pos y0] at ht ⊢
    rw [ht, nb_b1, fin]
  rw [if_neg y0] at ht ⊢
  by_cases y1 : sI s 7 = 1
  · rw [if_pos y1] at ht ⊢
    rw [ht, nb_b1, fin]
  · rw [if_neg y1] at ht ⊢
    rw [ht, nb_b1, fin]
theorem su_e {n g : Nat} {x1 : Int32} (k : Nat) (hk : k < 2 ^ 20) {s s' : St} (h5 : ¬ sI s 7 = 5) (h6 : ¬ sI s 7 = 6) (ht : (if sI s 7 = 0 then df_X9_takeOperand n s else if sI s 7 = 1 then df_X9_takeOperator n s else df_X9_takeHalf n s) = some s') (g5 : sI s' 7 = 5 ∨ sI s' 7 = 6) : df_X9_sum_26 n (g + 1 + 1) x1 (nI (k + 1)) s = df_X9_sum_107 n x1 s' := by
  have e2 : df_X9_sum_26 n (g + 1) x1 (nI k) s' = df_X9_sum_107 n x1 s' := by
    show dF_X9_sum_26 n (df_X9_sum_26 n g) x1 (nI k) s' = _
    unfold dF_X9_sum_26
    rw [if_neg (show ¬ nI k < (0 : Int32) from znl (b := 0) (by omega) (by omega))]
    rcases g5 with g5 | g5
    · rw [if_pos g5]
    · rw [if_neg (show ¬ sI s' 7 = 5 by rw [g5]; decide), if_pos g5]
  have fin : df_X9_sum_80 n (df_X9_sum_26 n (g + 1)) x1 (nI (k + 1)) s' = df_X9_sum_107 n x1 s' := by
    rw [← e2]
    unfold df_X9_sum_80 df_X9_sum_101
    rw [nb_let, show nI (k + 1) + Int32.ofInt (-1) = nI k by rw [show Int32.ofInt (-1) = -nI 1 by decide, ← Int32.sub_eq_add_neg, pk_sub (by omega)]; rfl]
    rcases g5 with g5 | g5
    · rw [if_pos g5]
    · rw [if_neg (show ¬ sI s' 7 = 5 by rw [g5]; decide), if_pos g5]
  show dF_X9_sum_26 n (df_X9_sum_26 n (g + 1)) x1 (nI (k + 1)) s = _
  unfold dF_X9_sum_26
  rw [if_neg (show ¬ nI (k + 1) < (0 : Int32) from znl (b := 0) (by omega) (by omega)), if_neg h5, if_neg h6]
  by_cases y0 : sI s 7 = 0
  · rw [if_pos y0] at ht ⊢
    rw [ht, nb_b1, fin]
  rw [if_neg y0] at ht ⊢
  by_cases y1 : sI s 7 = 1
  · rw [if_pos y1] at ht ⊢
    rw [ht, nb_b1, fin]
  · rw [if_neg y1] at ht ⊢
    rw [ht, nb_b1, fin]
theorem su_z {n : Nat} {B : St} {cs tp st ns : Nat} {fx : Bool} {C A S NM BK : Nat → Int32} {ap kd fr : Nat} {nm : Int32} (x1 : Int32) (h : cs < 32832) (hs : st = 5 ∨ st = 6) : df_X9_sum_107 n x1 (uC (xC B cs tp st ns fx C A S NM BK) ap kd fr nm) = some (if st = 5 then x1 else -1, (uC (xC B (cs + 1) tp st ns fx (upd C cs 21) (upd A cs 0) S NM BK) ap kd fr nm)) := by
  unfold df_X9_sum_107
  rw [xe_1 21 0 h, nb_b1, xC_u7]
  rcases hs with hs | hs
  · rw [if_pos (show nI st = (5 : Int32) from congrArg nI hs), if_pos hs]
    rfl
  · rw [if_neg (show ¬ nI st = (5 : Int32) from zne (b := 5) (by omega) (by omega) (by omega)), if_neg (by omega)]
    rfl

/-- expressions: the reference's pile -/
def sgO (x : Nat) : Nat := ([0, 42, 47, 37, 43, 45, 6, 7, 38, 94, 124, 2, 3, 1, 1, 1] : List Nat).getD x 0
def uo (y : Nat) : Nat := y - 9
def sgl (y : Nat) (v : Int32) : Int32 := if y = 11 then -v else if y = 12 then v ^^^ (-1) else if y = 13 then ((v + 2048).toUInt32 >>> ((12 : Int32).toUInt32 &&& Int32.toUInt32 31)).toInt32 else (v <<< ((20 : Int32) &&& 31)) >>> ((20 : Int32) &&& 31)
def jn (x : Nat) (v w : Int32) : Int32 := if x = 1 then v * w else if x = 2 then (if w = 0 then 0 else v / w) else if x = 3 then (if w = 0 then 0 else v - v / w * w) else if x = 4 then v + w else if x = 5 then v - w else if x = 6 then v <<< ((w &&& 31) &&& 31) else if x = 7 then v >>> ((w &&& 31) &&& 31) else if x = 8 then v &&& w else if x = 9 then v ^^^ w else v ||| w
def dz (x : Nat) (w : Int32) : Bool := (decide (x = 2) || decide (x = 3)) && decide (w = 0)
/-- what a row of signs makes of values -/
def stp (V : Tp → Int32 × Bool) (o : Tp) (s : List Int32 × Bool × Bool) : List Int32 × Bool × Bool := if 16 ≤ o.1 then ((V o).1 :: s.1, s.2.1 || (V o).2, s.2.2) else if 11 ≤ o.1 then (match s.1 with | v :: r => sgl o.1 v :: r | [] => [], s.2.1, s.2.2) else (match s.1 with | w :: v :: r => (jn o.1 v w :: r, s.2.1, s.2.2 || dz o.1 w) | _ => s)
def rnF (V : Tp → Int32 × Bool) (P : Nat → Tp) : Nat → List Int32 × Bool × Bool
  | 0 => ([], false, false)
  | m + 1 => stp V (P m) (rnF V P m)
theorem rn_c {V : Tp → Int32 × Bool} {P Q : Nat → Tp} : ∀ m : Nat, (∀ i : Nat, i < m → P i = Q i) → rnF V P m = rnF V Q m := fun m => by
  induction m with
  | zero => intro _; rfl
  | succ m ih =>
    intro h
    show stp V (P m) (rnF V P m) = stp V (Q m) (rnF V Q m)
    rw [h m (by omega), ih (fun i hi => h i (by omega))]
theorem rn_w {V : Tp → Int32 × Bool} {P : Nat → Tp} {m : Nat} (o : Tp) : rnF V (nwT P m o) (m + 1) = stp V o (rnF V P m) := by
  show stp V (nwT P m o m) (rnF V (nwT P m o) m) = _
  rw [show nwT P m o m = o from if_pos rfl, rn_c m (fun i hi => show nwT P m o i = P i from if_neg (by omega))]
def vst (PL : Nat → Int32) : List Int32 → Prop
  | [] => True
  | v :: l => PL (32800 - (l.length + 1)) = v ∧ vst PL l
theorem vst_u {PL : Nat → Int32} {v : Int32} : ∀ (l : List Int32) (k : Nat), k + l.length < 32800 → vst PL l → vst (upd PL k v) l := fun l => by
  induction l with
  | nil => intro k _ _; exact trivial
  | cons x l ih =>
    intro k hk h
    have hk : k + (l.length + 1) < 32800 := hk
    exact ⟨(up_n (by omega)).trans h.1, ih k (by omega) h.2⟩
theorem vst_p {PL : Nat → Int32} {l : List Int32} (v : Int32) (hl : l.length < 32800) (h : vst PL l) : vst (upd PL (32800 - (l.length + 1)) v) (v :: l) := ⟨up_e, vst_u l _ (by omega) h⟩
theorem rps_1 {n : Nat} {B : St} {ft : Int32} {ms dv ls : Bool} {sg vl : Nat} {PL : Nat → Int32} {ap tk fr to : Nat} {nm : Int32} (v : Int32) (h : sg < 32800) : df_X13_sign n v (uR (xR B ft ms dv ls sg vl PL) ap tk fr to nm) = some (uR (xR B ft ms dv ls (sg + 1) vl (upd PL sg v)) ap tk fr to nm) := by
  unfold df_X13_sign df_X13_sign_0
  rw [xR_u24, nm_ck (by omega) (by omega), nI_clamp (by omega), uR_r, xR_r8, xR_y8, nb_let, xR_u24, show nI sg + (1 : Int32) = nI (sg + 1) from nI_add sg 1, xR_w24, nb_let]
theorem rv_1 {n : Nat} {B : St} {ft : Int32} {ms dv ls : Bool} {sg vl : Nat} {PL : Nat → Int32} {ap tk fr to : Nat} {nm : Int32} (v : Int32) (h : vl < 32800) : df_X13_value n v (uR (xR B ft ms dv ls sg (vl + 1) PL) ap tk fr to nm) = some (uR (xR B ft ms dv ls sg vl (upd PL vl v)) ap tk fr to nm) := by
  unfold df_X13_value df_X13_value_0
  rw [xR_u25, show nI (vl + 1) - (1 : Int32) = nI vl from pk_sub (b := 1) (by omega), xR_w25, nb_let, xR_u25, nm_ck (by omega) (by omega), nI_clamp (by omega), uR_r, xR_r8, xR_y8, nb_let]
theorem rw_1 {n : Nat} {B : St} {ft : Int32} {ms dv ls : Bool} {sg vl : Nat} {PL : Nat → Int32} {ap tk fr to : Nat} {nm : Int32} (x : Nat) (v w : Int32) (hx : 1 ≤ x ∧ x ≤ 10) : df_X13_worked n (nI (sgO x)) v w (uR (xR B ft ms dv ls sg vl PL) ap tk fr to nm) = some (jn x v w, (uR (xR B ft ms (dv || dz x w) ls sg vl PL) ap tk fr to nm)) := by
  unfold df_X13_worked df_X13_worked_0
  have fin : ∀ (s : Nat) (b : Bool), (if nI s = (47 : Int32) then nd_nz (decide (w = 0)) (df_X13_worked_157 n (v / w) (uR (xR B ft ms b ls sg vl PL) ap tk fr to nm)) else nd_nz (decide (w = 0)) (df_X13_worked_157 n (v - v / w * w) (uR (xR B ft ms b ls sg vl PL) ap tk fr to nm))) = (if w = 0 then none else some (if nI s = (47 : Int32) then v / w else v - v / w * w, (uR (xR B ft ms b ls sg vl PL) ap tk fr to nm))) := fun s b => by
    unfold nd_nz df_X13_worked_157
    by_cases y : w = 0
    · rw [decide_eq_true y, if_pos y, if_pos rfl, if_pos rfl]
      split <;> rfl
    · rw [decide_eq_false y, if_neg y, if_neg Bool.false_ne_true, if_neg Bool.false_ne_true]
      split <;> rfl
  have q : ∀ (s : Nat) (b : Bool), df_X13_worked_131 n (nI s) v w (bI b) (uR (xR B ft ms dv ls sg vl PL) ap tk fr to nm) = some (if w = 0 then 0 else if nI s = (47 : Int32) then v / w else v - v / w * w, (uR (xR B ft ms b ls sg vl PL) ap tk fr to nm)) := fun s b => by
    unfold df_X13_worked_131
    have z1 : ∀ x : Option (Int32 × St), nd_f .boolean (bI b) x = x := fun x => by cases b <;> rfl
    have z2 : ∀ x : Option (Int32 × St), nd_z .boolean (bI b) x = x := fun x => by cases b <;> exact nar_z (by decide)
    rw [z1, z2, xR_w22, nb_let, fin s b]
    by_cases y : w = 0
    · rw [if_pos y, if_pos y]; rfl
    · rw [if_neg y, if_neg y, if_neg y]
  have p : ∀ s : Nat, (if sI (uR (xR B ft ms dv ls sg vl PL) ap tk fr to nm) 22 = 0 then if w = 0 then df_X13_worked_126 n (nI s) v w (uR (xR B ft ms dv ls sg vl PL) ap tk fr to nm) else df_X13_worked_131 n (nI s) v w 0 (uR (xR B ft ms dv ls sg vl PL) ap tk fr to nm) else df_X13_worked_126 n (nI s) v w (uR (xR B ft ms dv ls sg vl PL) ap tk fr to nm)) = some (if w = 0 then 0 else if nI s = (47 : Int32) then v / w else v - v / w * w, (uR (xR B ft ms (dv || decide (w = 0)) ls sg vl PL) ap tk fr to nm)) := fun s => by
    unfold df_X13_worked_126
    rw [xR_u22]
    cases dv with
    | true =>
      rw [if_neg (show ¬ bI true = 0 by decide), show (1 : Int32) = bI true from rfl, q s true, Bool.true_or]
    | false =>
      rw [if_pos (show bI false = 0 from rfl)]
      by_cases y : w = 0
      · rw [if_pos y, show (1 : Int32) = bI true from rfl, q s true, decide_eq_true y]
        rfl
      · rw [if_neg y, show df_X13_worked_131 n (nI s) v w 0 (uR (xR B ft ms false ls sg vl PL) ap tk fr to nm) = _ from q s false, decide_eq_false y]
        rfl
  have c : x = 1 ∨ x = 2 ∨ x = 3 ∨ x = 4 ∨ x = 5 ∨ x = 6 ∨ x = 7 ∨ x = 8 ∨ x = 9 ∨ x = 10 := by omega
  rcases c with c | c | c | c | c | c | c | c | c | c <;> subst c
  · rw [show sgO 1 = 42 from rfl, if_neg (show ¬ nI 42 = (6 : Int32) by decide), if_neg (show ¬ nI 42 = (7 : Int32) by decide), if_neg (show ¬ nI 42 = (38 : Int32) by decide), if_pos (show nI 42 = (42 : Int32) from rfl), show dz 1 w = false from rfl, Bool.or_false]
    rfl
  · rw [show sgO 2 = 47 from rfl, if_neg (show ¬ nI 47 = (6 : Int32) by decide), if_neg (show ¬ nI 47 = (7 : Int32) by decide), if_neg (show ¬ nI 47 = (38 : Int32) by decide), if_neg (show ¬ nI 47 = (42 : Int32) by decide), if_neg (show ¬ nI 47 = (43 : Int32) by decide), if_neg (show ¬ nI 47 = (45 : Int32) by decide), if_neg (show ¬ nI 47 = (94 : Int32) by decide), if_neg (show ¬ nI 47 = (124 : Int32) by decide), p 47, show dz 2 w = decide (w = 0) from Bool.true_and _]
    rfl
  · rw [show sgO 3 = 37 from rfl, if_neg (show ¬ nI 37 = (6 : Int32) by decide), if_neg (show ¬ nI 37 = (7 : Int32) by decide), if_neg (show ¬ nI 37 = (38 : Int32) by decide), if_neg (show ¬ nI 37 = (42 : Int32) by decide), if_neg (show ¬ nI 37 = (43 : Int32) by decide), if_neg (show ¬ nI 37 = (45 : Int32) by decide), if_neg (show ¬ nI 37 = (94 : Int32) by decide), if_neg (show ¬ nI 37 = (124 : Int32) by decide), p 37, show dz 3 w = decide (w = 0) from Bool.true_and _]
    rfl
  · rw [show sgO 4 = 43 from rfl, if_neg (show ¬ nI 43 = (6 : Int32) by decide), if_neg (show ¬ nI 43 = (7 : Int32) by decide), if_neg (show ¬ nI 43 = (38 : Int32) by decide), if_neg (show ¬ nI 43 = (42 : Int32) by decide), if_pos (show nI 43 = (43 : Int32) from rfl), show dz 4 w = false from rfl, Bool.or_false]
    rfl
  · rw [show sgO 5 = 45 from rfl, if_neg (show ¬ nI 45 = (6 : Int32) by decide), if_neg (show ¬ nI 45 = (7 : Int32) by decide), if_neg (show ¬ nI 45 = (38 : Int32) by decide), if_neg (show ¬ nI 45 = (42 : Int32) by decide), if_neg (show ¬ nI 45 = (43 : Int32) by decide), if_pos (show nI 45 = (45 : Int32) from rfl), show dz 5 w = false from rfl, Bool.or_false]
    rfl
  · rw [show sgO 6 = 6 from rfl, if_pos (show nI 6 = (6 : Int32) from rfl), show dz 6 w = false from rfl, Bool.or_false]
    rfl
  · rw [show sgO 7 = 7 from rfl, if_neg (show ¬ nI 7 = (6 : Int32) by decide), if_pos (show nI 7 = (7 : Int32) from rfl), show dz 7 w = false from rfl, Bool.or_false]
    rfl
  · rw [show sgO 8 = 38 from rfl, if_neg (show ¬ nI 38 = (6 : Int32) by decide), if_neg (show ¬ nI 38 = (7 : Int32) by decide), if_pos (show nI 38 = (38 : Int32) from rfl), show dz 8 w = false from rfl, Bool.or_false]
    rfl
  · rw [show sgO 9 = 94 from rfl, if_neg (show ¬ nI 94 = (6 : Int32) by decide), if_neg (show ¬ nI 94 = (7 : Int32) by decide), if_neg (show ¬ nI 94 = (38 : Int32) by decide), if_neg (show ¬ nI 94 = (42 : Int32) by decide), if_neg (show ¬ nI 94 = (43 : Int32) by decide), if_neg (show ¬ nI 94 = (45 : Int32) by decide), if_pos (show nI 94 = (94 : Int32) from rfl), show dz 9 w = false from rfl, Bool.or_false]
    rfl
  · rw [show sgO 10 = 124 from rfl, if_neg (show ¬ nI 124 = (6 : Int32) by decide), if_neg (show ¬ nI 124 = (7 : Int32) by decide), if_neg (show ¬ nI 124 = (38 : Int32) by decide), if_neg (show ¬ nI 124 = (42 : Int32) by decide), if_neg (show ¬ nI 124 = (43 : Int32) by decide), if_neg (show ¬ nI 124 = (45 : Int32) by decide), if_neg (show ¬ nI 124 = (94 : Int32) by decide), if_pos (show nI 124 = (124 : Int32) from rfl), show dz 10 w = false from rfl, Bool.or_false]
    rfl
theorem rj_1 {n : Nat} {B : St} {ft : Int32} {ms dv ls : Bool} {sg vl : Nat} {PL : Nat → Int32} {ap tk fr to : Nat} {nm : Int32} (x : Nat) (v w : Int32) (hx : 1 ≤ x ∧ x ≤ 10) (hs : sg < 32800) (hv : vl + 1 < 32800) (p1 : PL sg = nI (sgO x)) (p2 : PL vl = w) (p3 : PL (vl + 1) = v) : df_X13_join n (uR (xR B ft ms dv ls (sg + 1) vl PL) ap tk fr to nm) = some (uR (xR B ft ms (dv || dz x w) ls sg (vl + 1) (upd PL (vl + 1) (jn x v w))) ap tk fr to nm) := by
  unfold df_X13_join df_X13_join_0
  rw [xR_u24, show nI (sg + 1) - (1 : Int32) = nI sg from pk_sub (b := 1) (by omega), xR_w24, nb_let, xR_u25, nm_ck (by omega) (by omega), nI_clamp (by omega), uR_r, xR_r8, p2, nb_let, show nI vl + (1 : Int32) = nI (vl + 1) from nI_add vl 1, xR_w25, nb_let, xR_u24, xR_u25, nm_ck (by omega) (by omega), nm_ck (by omega) (by omega), nI_clamp (by omega), nI_clamp (by omega), uR_r, xR_r8, p1, p3, rw_1 x v w hx, nb_b2, nm_ck (by omega) (by omega), uR_r, xR_r8, xR_y8, nb_let]
/-- one join on the lists -/
theorem rj_2 {n : Nat} {B : St} {ft : Int32} {ms dv ls : Bool} {PL : Nat → Int32} {ap tk fr to : Nat} {nm : Int32} {V : Tp → Int32 × Bool} {P : Nat → Tp} {m : Nat} (x : Nat) (f : List Nat) (w v : Int32) (vs : List Int32) (hx : 1 ≤ x ∧ x ≤ 10) (h1 : stk PL (sgO x :: f)) (h2 : vst PL (w :: v :: vs)) (h3 : f.length + vs.length < 32790) (h4 : rnF V P m = (w :: v :: vs, ms, dv)) : ∃ (PL' : Nat → Int32) (dv' : Bool), df_X13_join n (uR (xR B ft ms dv ls (sgO x :: f).length (32800 - (w :: v :: vs).length) PL) ap tk fr to nm) = some (uR (xR B ft ms dv' ls f.length (32800 - (jn x v w :: vs).length) PL') ap tk fr to nm) ∧ stk PL' f ∧ vst PL' (jn x v w :: vs) ∧ rnF V (nwT P m (x, 0, 0)) (m + 1) = (jn x v w :: vs, ms, dv') := by
  have e := rj_1 (n := n) (B := B) (ft := ft) (ms := ms) (dv := dv) (ls := ls) (sg := f.length) (vl := 32800 - (vs.length + 2)) (PL := PL) (ap := ap) (tk := tk) (fr := fr) (to := to) (nm := nm) x v w hx (by omega) (by omega) h1.1 h2.1 (by rw [show 32800 - (vs.length + 2) + 1 = 32800 - (vs.length + 1) by omega]; exact h2.2.1)
  rw [show 32800 - (vs.length + 2) + 1 = 32800 - (vs.length + 1) by omega] at e
  refine ⟨upd PL (32800 - (vs.length + 1)) (jn x v w), dv || dz x w, e, stk_u f _ (by omega) h1.2, vst_p _ (by omega) h2.2.2, ?_⟩
  rw [rn_w, h4]
  unfold stp
  rw [if_neg (show ¬ 16 ≤ x by omega), if_neg (show ¬ 11 ≤ x by omega)]
/-- unary signs, %hi, %lo: worked out at once -/
theorem rpb_2 {n : Nat} {B : St} {ft : Int32} {ms dv ls : Bool} {ap tk fr to : Nat} {nm : Int32} {V : Tp → Int32 × Bool} (f : List Nat) (vs : List Int32) (hf : ∀ (x : Nat) (r : List Nat), f = x :: r → (x < 2 ∨ 5 < x) ∧ x < 200) : ∀ (ys : List Nat) (g m : Nat) (P : Nat → Tp) (PL : Nat → Int32) (v : Int32), (∀ y : Nat, y ∈ ys → 11 ≤ y ∧ y ≤ 14) → ys.length + 1 < g → ys.length + f.length + vs.length < 32790 → stk PL (ys.map uo ++ f) → vst PL (v :: vs) → rnF V P m = (v :: vs, ms, dv) → ∃ (PL' : Nat → Int32) (v' : Int32), df_X13_bind_2 n g 1 (uR (xR B ft ms dv ls (ys.map uo ++ f).length (32800 - (v :: vs).length) PL) ap tk fr to nm) = some (uR (xR B ft ms dv ls f.length (32800 - (v' :: vs).length) PL') ap tk fr to nm) ∧ stk PL' f ∧ vst PL' (v' :: vs) ∧ rnF V (apl P m ys) (m + ys.length) = (v' :: vs, ms, dv) := fun ys => by
  induction ys with
  | nil =>
    intro g m P PL v h1 h2 h3 h4 h5 h6
    obtain ⟨g, rfl⟩ : ∃ m : Nat, g = m + 1 + 1 := ⟨g - 2, by have : ([] : List Nat).length = 0 := rfl; omega⟩
    have h4 : stk PL f := h4
    have h30 : 0 + f.length + vs.length < 32790 := h3
    refine ⟨PL, v, ?_, h4, h5, h6⟩
    show dF_X13_bind_2 n (df_X13_bind_2 n (g + 1)) 1 (uR (xR B ft ms dv ls (List.map uo [] ++ f).length (32800 - (v :: vs).length) PL) ap tk fr to nm) = _
    unfold dF_X13_bind_2
    rw [if_neg (show ¬ (1 : Int32) = 0 by decide), xR_u24]
    cases f with
    | nil =>
      rw [show (List.map uo [] ++ ([] : List Nat)).length = 0 from rfl, if_pos (show nI 0 ≤ (0 : Int32) by decide)]
      rfl
    | cons x f =>
      have lf : (x :: f).length = f.length + 1 := rfl
      have lg : (List.map uo [] ++ (x :: f)).length = f.length + 1 := rfl
      obtain ⟨hx, hx2⟩ := hf x f rfl
      rw [lf] at h30
      have stop : ∀ w : Int32, df_X13_bind_49 n (df_X13_bind_2 n (g + 1)) (nI x) w (uR (xR B ft ms dv ls (f.length + 1) (32800 - (v :: vs).length) PL) ap tk fr to nm) = some (uR (xR B ft ms dv ls (x :: f).length (32800 - (v :: vs).length) PL) ap tk fr to nm) := fun w => by
        unfold df_X13_bind_49 df_X13_bind_50
        rw [if_pos rfl]
        show dF_X13_bind_2 n (df_X13_bind_2 n g) 0 (uR (xR B ft ms dv ls (f.length + 1) (32800 - (v :: vs).length) PL) ap tk fr to nm) = _
        unfold dF_X13_bind_2
        rw [if_pos rfl]
        rfl
      rw [lg, if_neg (show ¬ nI (f.length + 1) ≤ (0 : Int32) from znle (b := 0) (by omega) (by omega)), show nI (f.length + 1) - (1 : Int32) = nI f.length from pk_sub (b := 1) (by omega), nm_ck (by omega) (by omega), nI_clamp (by omega), uR_r, xR_r8, show PL f.length = nI x from h4.1, nb_let, xR_u25, nm_ck (by show 32800 - (vs.length + 1) < 32800; omega) (by omega), nb_let]
      rcases hx with hx | hx
      · rw [if_pos (show nI x ≤ (1 : Int32) from zle (b := 1) (by omega) (by omega))]
        exact stop _
      · rw [if_neg (show ¬ nI x ≤ (1 : Int32) from znle (b := 1) (by omega) (by omega)), if_pos (show (5 : Int32) < nI x from zlt (a := 5) (by omega) (by omega))]
        exact stop _
  | cons y ys ih =>
    intro g m P PL v h1 h2 h3 h4 h5 h6
    obtain ⟨g, rfl⟩ : ∃ m : Nat, g = m + 1 := ⟨g - 1, by omega⟩
    have ly : (y :: ys).length = ys.length + 1 := rfl
    rw [ly] at h2 h3
    have hy := h1 y (List.mem_cons_self ..)
    have h4 : PL (ys.map uo ++ f).length = nI (uo y) ∧ stk PL (ys.map uo ++ f) := h4
    have lm : (ys.map uo ++ f).length = ys.length + f.length := by rw [List.length_append, List.length_map]
    have lg : ((y :: ys).map uo ++ f).length = (ys.map uo ++ f).length + 1 := rfl
    have hu : uo y = y - 9 := rfl
    obtain ⟨PL', v', e1, e2, e3, e4⟩ := ih g (m + 1) (nwT P m (y, 0, 0)) (upd PL (32800 - (vs.length + 1)) (sgl y v)) (sgl y v) (fun z hz => h1 z (List.mem_cons_of_mem _ hz)) (by omega) (by omega) (stk_u _ _ (by omega) h4.2) (vst_p _ (by omega) h5.2) (by
      rw [rn_w, h6]
      unfold stp
      rw [if_neg (show ¬ 16 ≤ y by omega), if_pos (show 11 ≤ y by omega)])
    refine ⟨PL', v', ?_, e2, e3, ?_⟩
    · rw [← e1]
      have b110 : ∀ w : Int32, df_X13_bind_110 n (df_X13_bind_2 n g) 1 (sI (uR (xR B ft ms dv ls ((y :: ys).map uo ++ f).length (32800 - (v :: vs).length) PL) ap tk fr to nm) 25) w (uR (xR B ft ms dv ls ((y :: ys).map uo ++ f).length (32800 - (v :: vs).length) PL) ap tk fr to nm) = df_X13_bind_2 n g 1 (uR (xR B ft ms dv ls (ys.map uo ++ f).length (32800 - (sgl y v :: vs).length) (upd PL (32800 - (vs.length + 1)) w)) ap tk fr to nm) := fun w => by
        unfold df_X13_bind_110
        rw [xR_u25, nm_ck (by show 32800 - (vs.length + 1) < 32800; omega) (by omega), nI_clamp (by omega), uR_r, xR_r8, xR_y8, nb_let, xR_u24, lg, show nI ((ys.map uo ++ f).length + 1) - (1 : Int32) = nI (ys.map uo ++ f).length from pk_sub (b := 1) (by omega), xR_w24, nb_let]
        rfl
      show dF_X13_bind_2 n (df_X13_bind_2 n g) 1 (uR (xR B ft ms dv ls ((y :: ys).map uo ++ f).length (32800 - (v :: vs).length) PL) ap tk fr to nm) = _
      unfold dF_X13_bind_2
      rw [if_neg (show ¬ (1 : Int32) = 0 by decide), xR_u24, lg, if_neg (show ¬ nI ((ys.map uo ++ f).length + 1) ≤ (0 : Int32) from znle (b := 0) (by omega) (by omega)), show nI ((ys.map uo ++ f).length + 1) - (1 : Int32) = nI (ys.map uo ++ f).length from pk_sub (b := 1) (by omega), nm_ck (by omega) (by omega), nI_clamp (by omega), uR_r, xR_r8, h4.1, nb_let, xR_u25, nm_ck (by show 32800 - (vs.length + 1) < 32800; omega) (by omega), nI_clamp (by omega), show PL (32800 - (v :: vs).length) = v from h5.1, nb_let, if_neg (show ¬ nI (uo y) ≤ (1 : Int32) from znle (b := 1) (by omega) (by omega)), if_neg (show ¬ (5 : Int32) < nI (uo y) from znl (a := 5) (by omega) (by omega))]
      unfold df_X13_bind_50
      rw [if_neg (show ¬ (1 : Int32) = 0 by decide)]
      rw [lg] at b110
      have c : y = 11 ∨ y = 12 ∨ y = 13 ∨ y = 14 := by omega
      rcases c with c | c | c | c <;> subst c
      · rw [show uo 11 = 2 from rfl, if_pos (show nI 2 = (2 : Int32) from rfl), b110]
        rfl
      · rw [show uo 12 = 3 from rfl, if_neg (show ¬ nI 3 = (2 : Int32) by decide), if_pos (show nI 3 = (3 : Int32) from rfl), b110]
        rfl
      · rw [show uo 13 = 4 from rfl, if_neg (show ¬ nI 4 = (2 : Int32) by decide), if_neg (show ¬ nI 4 = (3 : Int32) by decide), if_pos (show nI 4 = (4 : Int32) from rfl), b110]
        rfl
      · rw [show uo 14 = 5 from rfl, if_neg (show ¬ nI 5 = (2 : Int32) by decide), if_neg (show ¬ nI 5 = (3 : Int32) by decide), if_neg (show ¬ nI 5 = (4 : Int32) by decide), b110]
        rfl
    · rw [ly, show m + (ys.length + 1) = m + 1 + ys.length by omega]
      exact e4

/-- expressions: what waits in both -/
def flat : List Nat → List Nat
  | [] => []
  | x :: l => sgO x :: (if x = 13 ∨ x = 14 then uo x :: flat l else flat l)
def okS : List Nat → Prop
  | [] => True
  | x :: l => (1 ≤ x ∧ x ≤ 15) ∧ (x ≤ 10 → ∀ (y : Nat) (r : List Nat), l = y :: r → ¬ (y = 11 ∨ y = 12)) ∧ okS l
def nbS : List Nat → Nat
  | [] => 0
  | x :: l => (if x ≤ 10 then 1 else 0) + nbS l
def bkS : List Nat → Nat
  | [] => 0
  | x :: l => (if 13 ≤ x then 1 else 0) + bkS l
def hdU (l : List Nat) : Prop := ∀ (y : Nat) (r : List Nat), l = y :: r → ¬ (y = 11 ∨ y = 12)
theorem flat_l : ∀ l : List Nat, l.length ≤ (flat l).length ∧ (flat l).length ≤ 2 * l.length := fun l => by
  induction l with
  | nil => exact ⟨Nat.le_refl 0, Nat.le_refl 0⟩
  | cons x l ih =>
    have e : flat (x :: l) = sgO x :: (if x = 13 ∨ x = 14 then uo x :: flat l else flat l) := rfl
    have k : (x :: l).length = l.length + 1 := rfl
    rw [e, k]
    by_cases y : x = 13 ∨ x = 14
    · rw [if_pos y]
      show l.length + 1 ≤ (flat l).length + 1 + 1 ∧ (flat l).length + 1 + 1 ≤ 2 * (l.length + 1)
      omega
    · rw [if_neg y]
      show l.length + 1 ≤ (flat l).length + 1 ∧ (flat l).length + 1 ≤ 2 * (l.length + 1)
      omega
theorem flat_b {x : Nat} {l : List Nat} (h : x ≤ 12 ∨ x = 15) : flat (x :: l) = sgO x :: flat l := by
  show sgO x :: (if x = 13 ∨ x = 14 then uo x :: flat l else flat l) = _
  rw [if_neg (by omega)]
def rkR (s : Nat) : Nat := if s = 42 ∨ s = 47 ∨ s = 37 then 6 else if s = 43 ∨ s = 45 then 5 else if s = 6 ∨ s = 7 then 4 else if s = 38 then 3 else if s = 94 then 2 else if s = 124 then 1 else 0
theorem rr_0 : ∀ s : Fin 300, df_X13_rank 0 (nI s.1) () = some (nI (rkR s.1), ()) ∧ rkR s.1 ≤ 6 := by decide +kernel
theorem rr_R (n : Nat) {s : Nat} (h : s < 300) : df_X13_rank n (nI s) () = some (nI (rkR s), ()) := (show df_X13_rank n (nI s) () = df_X13_rank 0 (nI s) () from rfl).trans (rr_0 ⟨s, h⟩).1
theorem rr_x : ∀ x : Fin 16, 1 ≤ x.1 → sgO x.1 < 127 ∧ (x.1 ≤ 10 → rkR (sgO x.1) = rkA x.1 ∧ 6 ≤ sgO x.1) ∧ (13 ≤ x.1 → sgO x.1 = 1) := by decide +kernel
theorem rr_v : ∀ v : Fin 300, 0 < bnO v.1 → rkA (bnO v.1) = rkR (if v.1 = 256 then 6 else if v.1 = 257 then 7 else v.1) ∧ sgO (bnO v.1) = (if v.1 = 256 then 6 else if v.1 = 257 then 7 else v.1) ∧ 1 ≤ rkA (bnO v.1) := by decide +kernel
theorem pop_u (r : Nat) (hr : r ≤ 7) (ρ : List Nat) : ∀ us : List Nat, (∀ u : Nat, u ∈ us → u = 11 ∨ u = 12) → popA r (us ++ ρ) = us ++ popA r ρ ∧ popB r (us ++ ρ) = popB r ρ := fun us => by
  induction us with
  | nil => intro _; exact ⟨rfl, rfl⟩
  | cons u us ih =>
    intro h
    have hu := h u (List.mem_cons_self ..)
    have k : u < 13 ∧ r ≤ rkA u := by
      rcases hu with e | e <;> subst e
      · exact ⟨by omega, by show r ≤ 7; omega⟩
      · exact ⟨by omega, by show r ≤ 7; omega⟩
    obtain ⟨i1, i2⟩ := ih (fun w hw => h w (List.mem_cons_of_mem _ hw))
    constructor
    · show (if u < 13 ∧ r ≤ rkA u then u :: popA r (us ++ ρ) else []) = _
      rw [if_pos k, i1]
      rfl
    · show (if u < 13 ∧ r ≤ rkA u then popB r (us ++ ρ) else u :: (us ++ ρ)) = _
      rw [if_pos k, i2]
theorem okS_p (r : Nat) : ∀ l : List Nat, okS l → okS (popB r l) := fun l => by
  induction l with
  | nil => intro h; exact h
  | cons x l ih =>
    intro h
    unfold popB
    by_cases y : x < 13 ∧ r ≤ rkA x
    · rw [if_pos y]; exact ih h.2.2
    · rw [if_neg y]; exact h
theorem okS_m : ∀ l : List Nat, okS l → ∀ x : Nat, x ∈ l → 1 ≤ x ∧ x ≤ 15 := fun l => by
  induction l with
  | nil => intro _ x h; exact absurd h (by intro z; cases z)
  | cons y l ih =>
    intro h x hx
    rcases List.mem_cons.mp hx with e | e
    · rw [e]; exact h.1
    · exact ih h.2.2 x e
theorem nb_le : ∀ l : List Nat, nbS l ≤ l.length := fun l => by
  induction l with
  | nil => exact Nat.le_refl 0
  | cons x l ih =>
    show (if x ≤ 10 then 1 else 0) + nbS l ≤ l.length + 1
    split <;> omega
/-- joins, one after the other, in any of the three loops -/
theorem jl_1 {X : Type} {n : Nat} {B : St} {ft : Int32} {ms ls : Bool} {ap tk fr to : Nat} {nm : Int32} {V : Tp → Int32 × Bool} (F : Nat → St → Option X) (r : Nat) (hF : ∀ (g x : Nat) (f : List Nat) (PL : Nat → Int32) (vl : Nat) (dv : Bool), 1 ≤ x → x ≤ 10 → r ≤ rkA x → PL f.length = nI (sgO x) → f.length < 32790 → F (g + 1) (uR (xR B ft ms dv ls (sgO x :: f).length vl PL) ap tk fr to nm) = nd_b1 (df_X13_join n (uR (xR B ft ms dv ls (sgO x :: f).length vl PL) ap tk fr to nm)) (fun s => F g s)) : ∀ (ρ : List Nat) (g m : Nat) (P : Nat → Tp) (PL : Nat → Int32) (vs : List Int32) (dv : Bool), okS ρ → hdU ρ → ρ.length < g → (flat ρ).length + vs.length < 32790 → stk PL (flat ρ) → vst PL vs → nbS ρ + 1 ≤ vs.length → rnF V P m = (vs, ms, dv) → ∃ (g' : Nat) (PL' : Nat → Int32) (vs' : List Int32) (dv' : Bool), F g (uR (xR B ft ms dv ls (flat ρ).length (32800 - vs.length) PL) ap tk fr to nm) = F (g' + 1) (uR (xR B ft ms dv' ls (flat (popB r ρ)).length (32800 - vs'.length) PL') ap tk fr to nm) ∧ stk PL' (flat (popB r ρ)) ∧ vst PL' vs' ∧ vs'.length + nbS ρ = vs.length + nbS (popB r ρ) ∧ hdU (popB r ρ) ∧ rnF V (apl P m (popA r ρ)) (m + (popA r ρ).length) = (vs', ms, dv') ∧ (flat (popB r ρ)).length + vs'.length < 32790 ∧ bkS (popB r ρ) = bkS ρ ∧ g ≤ g' + 1 + ρ.length := fun ρ => by
  induction ρ with
  | nil =>
    intro g m P PL vs dv h1 h2 h3 h4 h5 h6 h7 h8
    exact ⟨g - 1, PL, vs, dv, by rw [show g - 1 + 1 = g by have : ([] : List Nat).length = 0 := rfl; omega]; rfl, h5, h6, rfl, h2, h8, h4, rfl, by omega⟩
  | cons x l ih =>
    intro g m P PL vs dv h1 h2 h3 h4 h5 h6 h7 h8
    have lx : (x :: l).length = l.length + 1 := rfl
    rw [lx] at h3
    by_cases y : x < 13 ∧ r ≤ rkA x
    · have x10 : x ≤ 10 := by
        have := h2 x l rfl
        omega
      have pa : popA r (x :: l) = x :: popA r l := if_pos y
      have pb : popB r (x :: l) = popB r l := if_pos y
      have fl : flat (x :: l) = sgO x :: flat l := flat_b (by omega)
      have nbx : nbS (x :: l) = 1 + nbS l := by show (if x ≤ 10 then 1 else 0) + nbS l = _; rw [if_pos x10]
      have bkx : bkS (x :: l) = bkS l := by show (if 13 ≤ x then 1 else 0) + bkS l = _; rw [if_neg (by omega), Nat.zero_add]
      rw [fl] at h4 h5
      rw [nbx] at h7
      obtain ⟨w, v, vs0, rfl⟩ : ∃ (w v : Int32) (vs0 : List Int32), vs = w :: v :: vs0 := by
        match vs, h7 with
        | [], h7 => exact absurd h7 (by show ¬ 1 + nbS l + 1 ≤ 0; omega)
        | [_], h7 => exact absurd h7 (by show ¬ 1 + nbS l + 1 ≤ 0 + 1; omega)
        | w :: v :: r, _ => exact ⟨w, v, r, rfl⟩
      have lv : (w :: v :: vs0).length = vs0.length + 1 + 1 := rfl
      have lf : (sgO x :: flat l).length = (flat l).length + 1 := rfl
      rw [lv, lf] at h4
      rw [lv] at h7
      obtain ⟨PL1, dv1, e1, e2, e3, e4⟩ := rj_2 (n := n) (B := B) (ft := ft) (ls := ls) (ap := ap) (tk := tk) (fr := fr) (to := to) (nm := nm) x (flat l) w v vs0 ⟨h1.1.1, x10⟩ h5 h6 (by omega) h8
      obtain ⟨g, rfl⟩ : ∃ k : Nat, g = k + 1 := ⟨g - 1, by omega⟩
      obtain ⟨g', PL', vs', dv', i1, i2, i3, i4, i5, i6, i7, i8, i9⟩ := ih g (m + 1) (nwT P m (x, 0, 0)) PL1 (jn x v w :: vs0) dv1 h1.2.2 (h1.2.1 x10) (by omega) (by show (flat l).length + (vs0.length + 1) < 32790; omega) e2 e3 (by show nbS l + 1 ≤ vs0.length + 1; omega) e4
      refine ⟨g', PL', vs', dv', ?_, by rw [pb]; exact i2, i3, ?_, by rw [pb]; exact i5, ?_, by rw [pb]; exact i7, by rw [pb, bkx]; exact i8, by rw [lx]; omega⟩
      · rw [fl, pb, hF g x (flat l) PL _ dv h1.1.1 x10 y.2 h5.1 (by omega), e1, nb_b1]
        exact i1
      · rw [nbx, pb, lv]
        have i4 : vs'.length + nbS l = (vs0.length + 1) + nbS (popB r l) := i4
        omega
      · rw [pa]
        show rnF V (apl (nwT P m (x, 0, 0)) (m + 1) (popA r l)) (m + ((popA r l).length + 1)) = _
        rw [show m + ((popA r l).length + 1) = m + 1 + (popA r l).length by omega]
        exact i6
    · have pa : popA r (x :: l) = [] := if_neg y
      have pb : popB r (x :: l) = x :: l := if_neg y
      rw [pa, pb]
      exact ⟨g - 1, PL, vs, dv, by rw [show g - 1 + 1 = g by omega], h5, h6, rfl, h2, h8, h4, rfl, by omega⟩

/-- expressions: the reference's operands -/
theorem rbl_1 {n : Nat} {B : St} {ft : Int32} {ms dv ls : Bool} {sg vl : Nat} {PL : Nat → Int32} {ap tk fr to : Nat} {nm : Int32} (v : Int32) : df_X13_blame n v (uR (xR B ft ms dv ls sg vl PL) ap tk fr to nm) = some (uR (xR B (if ft = 0 then v + 16 * sI B 13 else ft) ms dv ls sg vl PL) ap tk fr to nm) := by
  unfold df_X13_blame df_X13_blame_0 df_X13_blame_20
  rw [xR_u12, xR_u13]
  by_cases y : ft = 0
  · rw [if_pos y, if_pos y, xR_w12, nb_let]
  · rw [if_neg y, if_neg y]
def usP : List Nat → List Nat
  | [] => []
  | x :: l => if x = 11 ∨ x = 12 then x :: usP l else []
def rsP : List Nat → List Nat
  | [] => []
  | x :: l => if x = 11 ∨ x = 12 then rsP l else x :: l
theorem us_1 : ∀ l : List Nat, okS l → l = usP l ++ rsP l ∧ hdU (rsP l) ∧ okS (rsP l) ∧ nbS (rsP l) = nbS l ∧ bkS (rsP l) = bkS l ∧ flat l = (usP l).map uo ++ flat (rsP l) ∧ (∀ u : Nat, u ∈ usP l → u = 11 ∨ u = 12) ∧ (usP l).length + (rsP l).length = l.length := fun l => by
  induction l with
  | nil => intro h; exact ⟨rfl, fun y r z => (nomatch z), h, rfl, rfl, rfl, fun u z => (nomatch z), rfl⟩
  | cons x l ih =>
    intro h
    by_cases y : x = 11 ∨ x = 12
    · obtain ⟨a1, a2, a3, a4, a5, a6, a7, a8⟩ := ih h.2.2
      have e1 : usP (x :: l) = x :: usP l := if_pos y
      have e2 : rsP (x :: l) = rsP l := if_pos y
      rw [e1, e2]
      refine ⟨congrArg (List.cons x) a1, a2, a3, ?_, ?_, ?_, fun u hu => ?_, ?_⟩
      · show _ = (if x ≤ 10 then 1 else 0) + nbS l
        rw [if_neg (by omega), Nat.zero_add]
        exact a4
      · show _ = (if 13 ≤ x then 1 else 0) + bkS l
        rw [if_neg (by omega), Nat.zero_add]
        exact a5
      · rw [flat_b (by omega), a6]
        show sgO x :: _ = uo x :: _
        rcases y with z | z <;> subst z <;> rfl
      · rcases List.mem_cons.mp hu with z | z
        · rw [z]; exact y
        · exact a7 u z
      · show (usP l).length + 1 + (rsP l).length = l.length + 1
        omega
    · have e1 : usP (x :: l) = [] := if_neg y
      have e2 : rsP (x :: l) = x :: l := if_neg y
      rw [e1, e2]
      exact ⟨rfl, fun z r hz => by
        have : x = z := (List.cons.inj hz).1
        rw [← this]; exact y, h, rfl, rfl, rfl, fun u z => (nomatch z), Nat.zero_add _⟩
theorem hd_f {ρ : List Nat} (h1 : okS ρ) (h2 : hdU ρ) : ∀ (x : Nat) (r : List Nat), flat ρ = x :: r → (x < 2 ∨ 5 < x) ∧ x < 200 := fun x r h => by
  cases ρ with
  | nil => exact nomatch h
  | cons y l =>
    have e : sgO y = x := (List.cons.inj h).1
    have k := rr_x ⟨y, by have := h1.1; omega⟩ h1.1.1
    have k1 : sgO y < 127 := k.1
    have k2 : y ≤ 10 → rkR (sgO y) = rkA y ∧ 6 ≤ sgO y := k.2.1
    have k3 : 13 ≤ y → sgO y = 1 := k.2.2
    have nu := h2 y l rfl
    have := h1.1
    by_cases z : y ≤ 10
    · have := (k2 z).2
      omega
    · have := k3 (by omega)
      omega
def opW (c : Nat → Nat) (e q : Nat) : Tp := if eT c e q = q + 1 ∧ c q = 46 then (18, 0, 0) else (17, q, 0)
/-- what names and near labels are worth in a state of the reference, and whether they are loose -/
def VA (n e : Nat) (c : Nat → Nat) (B : St) (V : Tp → Int32 × Bool) (lo : Tp → Bool) : Prop := (∀ v : Nat, V (16, 0, v) = (nI v, false) ∧ lo (16, 0, v) = false ∧ lo (19, 0, v) = true ∧ lo (20, 0, v) = true) ∧ (∀ q : Nat, q < e → aP (c q) = true → aD (c q) = false → eT c e q - q ≤ 31 → ∀ (ft : Int32) (ms dv ls : Bool) (sg vl : Nat) (PL : Nat → Int32) (ap : Nat) (nm : Int32), vl < 32800 → df_X13_name n (uR (xR B ft ms dv ls sg (vl + 1) PL) ap 1 q (eT c e q) nm) = some (uR (xR B ft (ms || (V (opW c e q)).2) dv (ls || lo (opW c e q)) sg vl (upd PL vl (V (opW c e q)).1)) ap 1 q (eT c e q) nm)) ∧ ∀ (d : Nat) (fw : Bool), d ≤ 9 → ∀ (ft : Int32) (ms dv ls : Bool) (sg vl : Nat) (PL : Nat → Int32) (ap tk fr to : Nat) (nm : Int32), df_X13_near n (nI d) (bI fw) (uR (xR B ft ms dv ls sg vl PL) ap tk fr to nm) = some ((V (if fw = true then 19 else 20, 0, d)).1, (uR (xR B ft (ms || (V (if fw = true then 19 else 20, 0, d)).2) dv ls sg vl PL) ap tk fr to nm))
def lsF (lo : Tp → Bool) (P : Nat → Tp) : Nat → Bool
  | 0 => false
  | m + 1 => lsF lo P m || (decide (16 ≤ (P m).1) && lo (P m))
theorem ls_c {lo : Tp → Bool} {P Q : Nat → Tp} : ∀ m : Nat, (∀ i : Nat, i < m → P i = Q i) → lsF lo P m = lsF lo Q m := fun m => by
  induction m with
  | zero => intro _; rfl
  | succ m ih =>
    intro h
    show (lsF lo P m || (decide (16 ≤ (P m).1) && lo (P m))) = (lsF lo Q m || (decide (16 ≤ (Q m).1) && lo (Q m)))
    rw [h m (by omega), ih (fun i hi => h i (by omega))]
theorem ls_w {lo : Tp → Bool} {P : Nat → Tp} {m : Nat} (o : Tp) : lsF lo (nwT P m o) (m + 1) = (lsF lo P m || (decide (16 ≤ o.1) && lo o)) := by
  show (lsF lo (nwT P m o) m || (decide (16 ≤ (nwT P m o m).1) && lo (nwT P m o m))) = _
  rw [show nwT P m o m = o from if_pos rfl, ls_c m (fun i hi => show nwT P m o i = P i from if_neg (by omega))]
theorem ls_a {lo : Tp → Bool} : ∀ (xs : List Nat) (P : Nat → Tp) (m : Nat), (∀ x : Nat, x ∈ xs → x < 16) → lsF lo (apl P m xs) (m + xs.length) = lsF lo P m := fun xs => by
  induction xs with
  | nil => intro P m _; rfl
  | cons x xs ih =>
    intro P m h
    show lsF lo (apl (nwT P m (x, 0, 0)) (m + 1) xs) (m + (xs.length + 1)) = _
    rw [show m + (xs.length + 1) = m + 1 + xs.length by omega, ih (nwT P m (x, 0, 0)) (m + 1) (fun y hy => h y (List.mem_cons_of_mem _ hy)), ls_w]
    have := h x (List.mem_cons_self ..)
    rw [decide_eq_false (show ¬ 16 ≤ x by omega), Bool.false_and, Bool.or_false]
/-- behind a value: the signs before it -/
theorem ro_B {n : Nat} {B : St} {ms dv ls : Bool} {PL : Nat → Int32} {ap tk fr to : Nat} {nm : Int32} {V : Tp → Int32 × Bool} {P : Nat → Tp} {m : Nat} {ft : Int32} (hn : 70000 < n) (l : List Nat) (v : Int32) (vs : List Int32) (hl : okS l) (h3 : (flat l).length + vs.length < 32780) (h4 : stk PL (flat l)) (h5 : vst PL (v :: vs)) (h6 : rnF V P m = (v :: vs, ms, dv)) : ∃ (PL' : Nat → Int32) (v' : Int32), df_X13_bind n (uR (xR B ft ms dv ls (flat l).length (32800 - (v :: vs).length) PL) ap tk fr to nm) = some (uR (xR B ft ms dv ls (flat (rsP l)).length (32800 - (v' :: vs).length) PL') ap tk fr to nm) ∧ stk PL' (flat (rsP l)) ∧ vst PL' (v' :: vs) ∧ rnF V (apl P m (usP l)) (m + (usP l).length) = (v' :: vs, ms, dv) := by
  obtain ⟨a1, a2, a3, a4, a5, a6, a7, a8⟩ := us_1 l hl
  have fl := (flat_l l).1
  have lm : (flat l).length = (usP l).length + (flat (rsP l)).length := by rw [a6, List.length_append, List.length_map]
  rw [a6] at h4
  obtain ⟨PL', v', e1, e2, e3, e4⟩ := rpb_2 (n := n) (B := B) (ft := ft) (ms := ms) (dv := dv) (ls := ls) (ap := ap) (tk := tk) (fr := fr) (to := to) (nm := nm) (V := V) (flat (rsP l)) vs (hd_f a3 a2) (usP l) n m P PL v (fun y hy => by have := a7 y hy; omega) (by omega) (by omega) h4 h5 h6
  refine ⟨PL', v', ?_, e2, e3, e4⟩
  rw [a6]
  exact e1
theorem ro_2 {n : Nat} {B : St} {ms dv ls : Bool} {PL : Nat → Int32} {ap fr to : Nat} {nm : Int32} {V : Tp → Int32 × Bool} {P : Nat → Tp} {m : Nat} {e : Nat} {c : Nat → Nat} {lo : Tp → Bool} (hV : VA n e c B V lo) (x : Nat) (hn : 70000 < n) (l : List Nat) (vs : List Int32) (hl : okS l) (h3 : (flat l).length + vs.length < 32770) (h4 : stk PL (flat l)) (h5 : vst PL vs) (h6 : rnF V P m = (vs, ms, dv)) : ∃ (PL' : Nat → Int32) (v' : Int32), df_X13_operand n (uR (xR B 0 ms dv ls (flat l).length (32800 - vs.length) PL) ap 2 fr to (nI x)) = some (1, (uR (xR B 0 (ms || (V (16, 0, x)).2) dv ls (flat (rsP l)).length (32800 - (v' :: vs).length) PL') ap 2 fr to (nI x))) ∧ stk PL' (flat (rsP l)) ∧ vst PL' (v' :: vs) ∧ rnF V (apl (nwT P m (16, 0, x)) (m + 1) (usP l)) (m + 1 + (usP l).length) = (v' :: vs, (ms || (V (16, 0, x)).2), dv) := by
  obtain ⟨PL', v', e1, e2, e3, e4⟩ := ro_B (n := n) (B := B) (ms := ms || (V (16, 0, x)).2) (dv := dv) (ls := ls) (PL := upd PL (32800 - (vs.length + 1)) (V (16, 0, x)).1) (ap := ap) (tk := 2) (fr := fr) (to := to) (nm := nI x) (V := V) (P := nwT P m (16, 0, x)) (m := m + 1) (ft := 0) hn l (V (16, 0, x)).1 vs hl (by omega) (stk_u _ _ (by omega) h4) (vst_p _ (by omega) h5) (by
    rw [rn_w, h6]
    unfold stp
    rw [if_pos (by show 16 ≤ 16; omega)])
  refine ⟨PL', v', ?_, e2, e3, e4⟩
  have e1 : df_X13_bind n (uR (xR B 0 (ms || (V (16, 0, x)).2) dv ls (flat l).length (32800 - (vs.length + 1)) (upd PL (32800 - (vs.length + 1)) (V (16, 0, x)).1)) ap 2 fr to (nI x)) = _ := e1
  rw [(hV.1 x).1] at e1 ⊢
  have e0 : (ms || ((nI x, false) : Int32 × Bool).2) = ms := Bool.or_false ms
  rw [e0] at e1 ⊢
  unfold df_X13_operand df_X13_operand_0 df_X13_operand_242
  rw [uR_i8, if_neg (show ¬ nI 2 = (1 : Int32) by decide), if_pos (show nI 2 = (2 : Int32) from rfl), uR_i11, show 32800 - vs.length = 32800 - (vs.length + 1) + 1 by omega, rv_1 (nI x) (by omega), nb_b1, e1, nb_b1]
theorem ro_1 {n : Nat} {B : St} {ms dv ls : Bool} {PL : Nat → Int32} {ap : Nat} {nm : Int32} {V : Tp → Int32 × Bool} {P : Nat → Tp} {m : Nat} {e : Nat} {c : Nat → Nat} {lo : Tp → Bool} (hV : VA n e c B V lo) (q : Nat) (hq : q < e) (ha : aP (c q) = true) (hd : aD (c q) = false) (hw : eT c e q - q ≤ 31) (hn : 70000 < n) (l : List Nat) (vs : List Int32) (hl : okS l) (h3 : (flat l).length + vs.length < 32770) (h4 : stk PL (flat l)) (h5 : vst PL vs) (h6 : rnF V P m = (vs, ms, dv)) : ∃ (PL' : Nat → Int32) (v' : Int32), df_X13_operand n (uR (xR B 0 ms dv ls (flat l).length (32800 - vs.length) PL) ap 1 q (eT c e q) nm) = some (1, (uR (xR B 0 (ms || (V (opW c e q)).2) dv (ls || lo (opW c e q)) (flat (rsP l)).length (32800 - (v' :: vs).length) PL') ap 1 q (eT c e q) nm)) ∧ stk PL' (flat (rsP l)) ∧ vst PL' (v' :: vs) ∧ rnF V (apl (nwT P m (opW c e q)) (m + 1) (usP l)) (m + 1 + (usP l).length) = (v' :: vs, (ms || (V (opW c e q)).2), dv) := by
  obtain ⟨PL', v', e1, e2, e3, e4⟩ := ro_B (n := n) (B := B) (ms := ms || (V (opW c e q)).2) (dv := dv) (ls := (ls || lo (opW c e q))) (PL := upd PL (32800 - (vs.length + 1)) (V (opW c e q)).1) (ap := ap) (tk := 1) (fr := q) (to := (eT c e q)) (nm := nm) (V := V) (P := nwT P m (opW c e q)) (m := m + 1) (ft := 0) hn l (V (opW c e q)).1 vs hl (by omega) (stk_u _ _ (by omega) h4) (vst_p _ (by omega) h5) (by
    rw [rn_w, h6]
    unfold stp
    rw [if_pos (by unfold opW; split <;> (show 16 ≤ _; omega))])
  refine ⟨PL', v', ?_, e2, e3, e4⟩
  have e1 : df_X13_bind n (uR (xR B 0 (ms || (V (opW c e q)).2) dv (ls || lo (opW c e q)) (flat l).length (32800 - (vs.length + 1)) (upd PL (32800 - (vs.length + 1)) (V (opW c e q)).1)) ap 1 q (eT c e q) (nm)) = _ := e1
  have hN := hV.2.1 q hq ha hd hw 0 ms dv ls (flat l).length (32800 - (vs.length + 1)) PL ap nm (by omega)
  rw [show 32800 - (vs.length + 1) + 1 = 32800 - vs.length by omega] at hN
  unfold df_X13_operand df_X13_operand_0 df_X13_operand_242
  rw [uR_i8, if_pos (show nI 1 = (1 : Int32) from rfl), hN, nb_b1, e1, nb_b1]
theorem ro_3 {n : Nat} {B : St} {ms dv ls : Bool} {PL : Nat → Int32} {ap fr to : Nat} {nm : Int32} {V : Tp → Int32 × Bool} {P : Nat → Tp} {m : Nat} {e : Nat} {c : Nat → Nat} {lo : Tp → Bool} (hV : VA n e c B V lo) (d x : Nat) (fw : Bool) (hd : d ≤ 9) (ht : to < 32768) (hx : sR B 2 to = nI x) (hx2 : x < 127) (hf : fw = decide (x = 102)) (hn : 70000 < n) (l : List Nat) (vs : List Int32) (hl : okS l) (h3 : (flat l).length + vs.length < 32770) (h4 : stk PL (flat l)) (h5 : vst PL vs) (h6 : rnF V P m = (vs, ms, dv)) : ∃ (PL' : Nat → Int32) (v' : Int32), df_X13_operand n (uR (xR B 0 ms dv ls (flat l).length (32800 - vs.length) PL) ap 3 fr (to + 1) (nI d)) = some (1, (uR (xR B 0 (ms || (V (if fw = true then 19 else 20, 0, d)).2) dv true (flat (rsP l)).length (32800 - (v' :: vs).length) PL') ap 3 fr (to + 1) (nI d))) ∧ stk PL' (flat (rsP l)) ∧ vst PL' (v' :: vs) ∧ rnF V (apl (nwT P m (if fw = true then 19 else 20, 0, d)) (m + 1) (usP l)) (m + 1 + (usP l).length) = (v' :: vs, (ms || (V (if fw = true then 19 else 20, 0, d)).2), dv) := by
  obtain ⟨PL', v', e1, e2, e3, e4⟩ := ro_B (n := n) (B := B) (ms := ms || (V (if fw = true then 19 else 20, 0, d)).2) (dv := dv) (ls := true) (PL := upd PL (32800 - (vs.length + 1)) (V (if fw = true then 19 else 20, 0, d)).1) (ap := ap) (tk := 3) (fr := fr) (to := (to + 1)) (nm := nI d) (V := V) (P := nwT P m (if fw = true then 19 else 20, 0, d)) (m := m + 1) (ft := 0) hn l (V (if fw = true then 19 else 20, 0, d)).1 vs hl (by omega) (stk_u _ _ (by omega) h4) (vst_p _ (by omega) h5) (by
    rw [rn_w, h6]
    unfold stp
    rw [if_pos (by split <;> (show 16 ≤ _; omega))])
  refine ⟨PL', v', ?_, e2, e3, e4⟩
  have e1 : df_X13_bind n (uR (xR B 0 (ms || (V (if fw = true then 19 else 20, 0, d)).2) dv true (flat l).length (32800 - (vs.length + 1)) (upd PL (32800 - (vs.length + 1)) (V (if fw = true then 19 else 20, 0, d)).1)) ap 3 fr (to + 1) (nI d)) = _ := e1
  have hN := hV.2.2 d fw hd 0 ms dv true (flat l).length (32800 - vs.length) PL ap 3 fr (to + 1) (nI d)
  have fin : df_X13_operand_122 n (nI d) (bI fw) (uR (xR B 0 ms dv true (flat l).length (32800 - vs.length) PL) ap 3 fr (to + 1) (nI d)) = some (1, (uR (xR B 0 (ms || (V (if fw = true then 19 else 20, 0, d)).2) dv true (flat (rsP l)).length (32800 - (v' :: vs).length) PL') ap 3 fr (to + 1) (nI d))) := by
    unfold df_X13_operand_122 df_X13_operand_242
    rw [hN, nb_b2, show 32800 - vs.length = 32800 - (vs.length + 1) + 1 by omega, rv_1 _ (by omega), nb_b1, e1, nb_b1]
  unfold df_X13_operand df_X13_operand_0
  rw [uR_i8, if_neg (show ¬ nI 3 = (1 : Int32) by decide), if_neg (show ¬ nI 3 = (2 : Int32) by decide), if_pos (show nI 3 = (3 : Int32) from rfl), show pI (uR (xR B 0 ms dv ls (flat l).length (32800 - vs.length) PL) ap 3 fr (to + 1) (nI d)) 23 1 = _ from xR_w23 (v := true), nb_let, uR_i10, show nI (to + 1) - (1 : Int32) = nI to from pk_sub (b := 1) (by omega), nm_ck (by omega) (by omega), nI_clamp (by omega), uR_r, xR_r2, hx, uR_i11]
  by_cases y : x = 102
  · rw [if_pos (show nI x = (102 : Int32) from congrArg nI y)]
    rw [decide_eq_true y] at hf
    subst hf
    exact fin
  · rw [if_neg (show ¬ nI x = (102 : Int32) from zne (b := 102) y (by omega) (by omega))]
    rw [decide_eq_false y] at hf
    subst hf
    exact fin
/-- a sign before a value, a bracket; nothing that can be there -/
theorem ro_S {n : Nat} {B : St} {ft : Int32} {ms dv ls : Bool} {sg vl : Nat} {PL : Nat → Int32} {ap tk fr to : Nat} {nm : Int32} (x s : Nat) (hx : (x = 40 ∧ s = 1) ∨ (x = 45 ∧ s = 2) ∨ (x = 126 ∧ s = 3)) (h : sg < 32800) : df_X13_operand n (uR (xR B ft ms dv ls sg vl PL) ap x fr to nm) = some (0, (uR (xR B ft ms dv ls (sg + 1) vl (upd PL sg (nI s))) ap x fr to nm)) := by
  unfold df_X13_operand df_X13_operand_0
  rw [uR_i8]
  rcases hx with ⟨e1, e2⟩ | ⟨e1, e2⟩ | ⟨e1, e2⟩ <;> subst e1 <;> subst e2
  · rw [if_neg (show ¬ nI 40 = (1 : Int32) by decide), if_neg (show ¬ nI 40 = (2 : Int32) by decide), if_neg (show ¬ nI 40 = (3 : Int32) by decide), if_neg (show ¬ nI 40 = (37 : Int32) by decide), if_pos (show nI 40 = (40 : Int32) from rfl), rps_1 1 h, nb_b1]
    rfl
  · rw [if_neg (show ¬ nI 45 = (1 : Int32) by decide), if_neg (show ¬ nI 45 = (2 : Int32) by decide), if_neg (show ¬ nI 45 = (3 : Int32) by decide), if_neg (show ¬ nI 45 = (37 : Int32) by decide), if_neg (show ¬ nI 45 = (40 : Int32) by decide), if_pos (show nI 45 = (45 : Int32) from rfl), rps_1 2 h, nb_b1]
    rfl
  · rw [if_neg (show ¬ nI 126 = (1 : Int32) by decide), if_neg (show ¬ nI 126 = (2 : Int32) by decide), if_neg (show ¬ nI 126 = (3 : Int32) by decide), if_neg (show ¬ nI 126 = (37 : Int32) by decide), if_neg (show ¬ nI 126 = (40 : Int32) by decide), if_neg (show ¬ nI 126 = (45 : Int32) by decide), if_pos (show nI 126 = (126 : Int32) from rfl), rps_1 3 h, nb_b1]
    rfl
theorem ro_X {n : Nat} {B : St} {ms dv ls : Bool} {sg vl : Nat} {PL : Nat → Int32} {ap tk fr to : Nat} {nm : Int32} (hx : tk < 300 ∧ ¬ tk = 1 ∧ ¬ tk = 2 ∧ ¬ tk = 3 ∧ ¬ tk = 37 ∧ ¬ tk = 40 ∧ ¬ tk = 45 ∧ ¬ tk = 126) : df_X13_operand n (uR (xR B 0 ms dv ls sg vl PL) ap tk fr to nm) = some (0, (uR (xR B (1 + 16 * sI B 13) ms dv ls sg vl PL) ap tk fr to nm)) := by
  unfold df_X13_operand df_X13_operand_0
  rw [uR_i8, if_neg (show ¬ nI tk = (1 : Int32) from zne (b := 1) (by omega) (by omega) (by omega)), if_neg (show ¬ nI tk = (2 : Int32) from zne (b := 2) (by omega) (by omega) (by omega)), if_neg (show ¬ nI tk = (3 : Int32) from zne (b := 3) (by omega) (by omega) (by omega)), if_neg (show ¬ nI tk = (37 : Int32) from zne (b := 37) (by omega) (by omega) (by omega)), if_neg (show ¬ nI tk = (40 : Int32) from zne (b := 40) (by omega) (by omega) (by omega)), if_neg (show ¬ nI tk = (45 : Int32) from zne (b := 45) (by omega) (by omega) (by omega)), if_neg (show ¬ nI tk = (126 : Int32) from zne (b := 126) (by omega) (by omega) (by omega)), rbl_1, nb_b1, if_pos rfl]
/-- turns of expression -/
theorem e33_1 {n g : Nat} {x1 : Int32} {K s24 : St} {τ : Nat} (h12 : sI K 12 = 0) (hs : df_X13_scan n K = some s24) (ht : sI s24 8 = nI τ) (hτ : τ < 300) : df_X13_expression_33 n (g + 1) x1 1 1 K = df_X13_expression_81 n (df_X13_expression_33 n g) x1 1 (bI (decide (τ = 40 ∨ τ = 37))) s24 := by
  show dF_X13_expression_33 n (df_X13_expression_33 n g) x1 1 1 K = _
  unfold dF_X13_expression_33 df_X13_expression_76
  rw [if_neg (show ¬ (1 : Int32) = 0 by decide), if_pos h12, nb_let, hs, nb_b1, if_neg (show ¬ (1 : Int32) = 0 by decide), ht]
  by_cases y : τ = 40
  · rw [if_pos (show nI τ = (40 : Int32) from congrArg nI y), decide_eq_true (Or.inl y)]
    rfl
  rw [if_neg (show ¬ nI τ = (40 : Int32) from zne (b := 40) y (by omega) (by omega))]
  by_cases z : τ = 37
  · rw [if_pos (show nI τ = (37 : Int32) from congrArg nI z), decide_eq_true (Or.inr z)]
    rfl
  rw [if_neg (show ¬ nI τ = (37 : Int32) from zne (b := 37) z (by omega) (by omega)), decide_eq_false (by omega)]
  rfl
theorem e33_0 {n g : Nat} {x1 : Int32} {K s24 : St} {τ : Nat} (h12 : sI K 12 = 0) (hs : df_X13_scan n K = some s24) (ht : sI s24 8 = nI τ) (hτ : τ < 300) : df_X13_expression_33 n (g + 1) x1 0 1 K = if 0 < rkR τ then df_X13_expression_129 n (df_X13_expression_33 n g) n x1 1 s24 else df_X13_expression_180 n (df_X13_expression_33 n g) x1 0 1 (sI K 7) s24 := by
  show dF_X13_expression_33 n (df_X13_expression_33 n g) x1 0 1 K = _
  unfold dF_X13_expression_33
  have r6 := (rr_0 ⟨τ, hτ⟩).2
  have r6 : rkR τ ≤ 6 := r6
  rw [if_neg (show ¬ (1 : Int32) = 0 by decide), if_pos h12, nb_let, hs, nb_b1, if_pos rfl, ht, rr_R n hτ, nb_b2]
  by_cases y : 0 < rkR τ
  · rw [if_neg (show ¬ nI (rkR τ) ≤ (0 : Int32) from znle (b := 0) y (by omega)), if_neg (show ¬ nI τ = (0 : Int32) from zne (b := 0) (fun z => by rw [z] at y; exact absurd y (by decide)) (by omega) (by omega)), if_pos y]
  · rw [if_pos (show nI (rkR τ) ≤ (0 : Int32) from zle (b := 0) (by omega) (by omega)), if_neg y]
theorem e81_1 {n op : Nat} {G : Int32 → Int32 → Int32 → St → Option (Int32 × St)} {y r : Bool} {s s2 : St} (h : df_X13_operand n s = some (bI r, s2)) : df_X13_expression_81 n G (nI op) 1 (bI y) s = G (nI (if y = true then op + 1 else op)) (bI (!r)) 1 s2 := by
  unfold df_X13_expression_81
  rw [h, nb_b2]
  unfold df_X13_expression_95 df_X13_expression_108 df_X13_expression_252
  cases r <;> cases y
  · rw [if_pos (show bI false = 0 from rfl), if_pos (show bI false = 0 from rfl)]; rfl
  · rw [if_pos (show bI false = 0 from rfl), if_neg (show ¬ bI true = 0 by decide), show nI op + (1 : Int32) = nI (op + 1) from nI_add op 1]; rfl
  · rw [if_neg (show ¬ bI true = 0 by decide), if_pos (show bI false = 0 from rfl)]; rfl
  · rw [if_neg (show ¬ bI true = 0 by decide), if_neg (show ¬ bI true = 0 by decide), show nI op + (1 : Int32) = nI (op + 1) from nI_add op 1]; rfl
/-- a fault ends it -/
theorem ef_1 {n : Nat} {B : St} {ft : Int32} {ms dv ls : Bool} {sg vl : Nat} {PL : Nat → Int32} {ap tk fr to : Nat} {nm : Int32} (hn : 70000 < n) (g : Nat) (x1 x2 x3 : Int32) (hf : ¬ ft = 0) : df_X13_expression_33 n (g + 1) x1 x2 x3 (uR (xR B ft ms dv ls sg vl PL) ap tk fr to nm) = some (0, (uR (xR B ft ms dv ls sg vl PL) ap tk fr to nm)) := by
  have e1 : ∀ y1 : Int32, df_X13_expression_335 n 0 y1 (uR (xR B ft ms dv ls sg vl PL) ap tk fr to nm) = some (0, (uR (xR B ft ms dv ls sg vl PL) ap tk fr to nm)) := fun y1 => by
    unfold df_X13_expression_335 df_X13_expression_338
    rw [rbl_1, nb_b1, if_neg hf]
  have e2 : df_X13_expression_296 n 0 (uR (xR B ft ms dv ls sg vl PL) ap tk fr to nm) = some (0, (uR (xR B ft ms dv ls sg vl PL) ap tk fr to nm)) := by
    unfold df_X13_expression_296 df_X13_expression_320 df_X13_expression_338
    rw [e1, e1]
    repeat' split
    all_goals rfl
  have e3 : df_X13_expression_276 n (uR (xR B ft ms dv ls sg vl PL) ap tk fr to nm) = some (0, (uR (xR B ft ms dv ls sg vl PL) ap tk fr to nm)) := by
    unfold df_X13_expression_276
    rw [xR_u12, if_neg hf]
    exact e2
  have e4 : df_X13_expression_255 n n (uR (xR B ft ms dv ls sg vl PL) ap tk fr to nm) = some (0, (uR (xR B ft ms dv ls sg vl PL) ap tk fr to nm)) := by
    obtain ⟨k, rfl⟩ : ∃ k : Nat, n = k + 1 := ⟨n - 1, by omega⟩
    show dF_X13_expression_255 (k + 1) (df_X13_expression_255 (k + 1) k) (uR (xR B ft ms dv ls sg vl PL) ap tk fr to nm) = _
    unfold dF_X13_expression_255
    rw [xR_u12, if_neg hf, e3]
    split <;> rfl
  show dF_X13_expression_33 n (df_X13_expression_33 n g) x1 x2 x3 (uR (xR B ft ms dv ls sg vl PL) ap tk fr to nm) = _
  unfold dF_X13_expression_33
  rw [xR_u12, if_neg hf, e4]
  split <;> rfl

