/-- registers' names -/
theorem pq_U {c : Nat → Nat} (q l : Nat) (u : Nat → Nat) (N : Nat) (hN : 1 ≤ N ∧ N ≤ 10) (hu : ∀ i : Nat, i < N → kOK (u i) = true) (h127 : ∀ i : Nat, c i < 127) : pkO c q l = Int64.ofNat (pkV u N 0) ↔ l = N ∧ ∀ i : Nat, i < l → c (q + i) = u i := by
  have V2 : pkV u N 0 < 2 ^ 60 := by
    have a : ∀ d p : Nat, p + d ≤ N → pkV u d p < 64 ^ d := fun d => by
      induction d with
      | zero => intro p _; exact Nat.one_pos
      | succ d ih =>
        intro p hp
        have w := ih (p + 1) (by omega)
        have v := (kcd_p (hu p (by omega))).2
        show pkV u d (p + 1) * 64 + kcd (u p) < 64 ^ (d + 1)
        rw [Nat.pow_succ]
        omega
    exact Nat.lt_of_lt_of_le (a N 0 (by omega)) (Nat.le_trans (Nat.pow_le_pow_right (by omega) hN.2) (by decide))
  have V0 : 0 < pkV u N 0 := by
    obtain ⟨m, em⟩ : ∃ m : Nat, N = m + 1 := ⟨N - 1, by omega⟩
    rw [em]
    have := (kcd_p (hu 0 (by omega))).1
    show 0 < pkV u m (0 + 1) * 64 + kcd (u 0)
    omega
  have inj : ∀ a b : Nat, a < 2 ^ 60 → b < 2 ^ 60 → Int64.ofNat a = Int64.ofNat b → a = b := fun a b ha hb h => by
    have h := congrArg Int64.toInt h
    rw [Int64.toInt_ofNat_of_lt (by omega), Int64.toInt_ofNat_of_lt (by omega)] at h
    omega
  constructor
  · intro h
    unfold pkO at h
    by_cases y : l ≤ 10
    · rw [if_pos y] at h
      by_cases z : ∀ i : Nat, i < l → kOK (c (q + i)) = true
      · rw [if_pos z] at h
        have V1 : pkV c l q < 2 ^ 60 := Nat.lt_of_lt_of_le (pkV_l h127 l q) (Nat.le_trans (Nat.pow_le_pow_right (by omega) y) (by decide))
        obtain ⟨e, r⟩ := pkV_j l N c u q 0 z (fun i hi => by rw [Nat.zero_add]; exact hu i hi) (inj _ _ V1 V2 h)
        refine ⟨e, fun i hi => ?_⟩
        rw [r i hi, Nat.zero_add]
      · rw [if_neg z] at h
        exact absurd (inj 0 _ (by omega) V2 h) (by omega)
    · rw [if_neg y] at h
      exact absurd (inj 0 _ (by omega) V2 h) (by omega)
  · rintro ⟨e, hc⟩
    subst e
    unfold pkO
    rw [if_pos hN.2, if_pos (fun i hi => by rw [hc i hi]; exact hu i hi)]
    congr 1
    have g : ∀ d p : Nat, p + d ≤ l → pkV c d (q + p) = pkV u d p := fun d => by
      induction d with
      | zero => intro p _; rfl
      | succ d ih =>
        intro p hp
        show pkV c d (q + p + 1) * 64 + kcd (c (q + p)) = pkV u d (p + 1) * 64 + kcd (u p)
        rw [hc p (by omega), show q + p + 1 = q + (p + 1) by omega, ih (p + 1) (by omega)]
    exact g l 0 (by omega)
theorem pq_2 {c : Nat → Nat} (q l x y : Nat) (K : Int64) (hx : kOK x = true) (hy : kOK y = true) (hK : K = Int64.ofNat (kcd y * 64 + kcd x)) (h127 : ∀ i : Nat, c i < 127) : lg_cmp (pkO c q l) K = 0 ↔ l = 2 ∧ c q = x ∧ c (q + 1) = y := by
  rw [lg0, hK, show Int64.ofNat (kcd y * 64 + kcd x) = Int64.ofNat (pkV (fun i => if i = 0 then x else y) 2 0) by
    congr 1
    show kcd y * 64 + kcd x = (0 * 64 + kcd y) * 64 + kcd x
    omega, pq_U q l _ 2 (by omega) (fun i hi => by
    show kOK (if i = 0 then x else y) = true
    split <;> assumption) h127]
  constructor
  · rintro ⟨e, h⟩
    exact ⟨e, h 0 (by omega), h 1 (by omega)⟩
  · rintro ⟨e, h1, h2⟩
    refine ⟨e, fun i hi => ?_⟩
    by_cases z : i = 0
    · subst z; exact h1
    · have z : i = 1 := by omega
      subst z; exact h2
theorem pq_4 {c : Nat → Nat} (q l : Nat) (h127 : ∀ i : Nat, c i < 127) : lg_cmp (pkO c q l) 4006234 = 0 ↔ l = 4 ∧ c q = 122 ∧ c (q + 1) = 101 ∧ c (q + 2) = 114 ∧ c (q + 3) = 111 := by
  rw [lg0, show (4006234 : Int64) = Int64.ofNat (pkV (fun i => if i = 0 then 122 else if i = 1 then 101 else if i = 2 then 114 else 111) 4 0) by decide, pq_U q l _ 4 (by omega) (fun i hi => by
    show kOK (if i = 0 then 122 else if i = 1 then 101 else if i = 2 then 114 else 111) = true
    split
    · decide
    · split
      · decide
      · split <;> decide) h127]
  constructor
  · rintro ⟨e, h⟩
    exact ⟨e, h 0 (by omega), h 1 (by omega), h 2 (by omega), h 3 (by omega)⟩
  · rintro ⟨e, h1, h2, h3, h4⟩
    refine ⟨e, fun i hi => ?_⟩
    by_cases z : i = 0
    · subst z; exact h1
    by_cases z1 : i = 1
    · subst z1; exact h2
    by_cases z2 : i = 2
    · subst z2; exact h3
    · have z : i = 3 := by omega
      subst z; exact h4
def reM (l b d : Nat) : Nat := if l = 3 then (if b = 48 ∨ ¬ (48 ≤ d ∧ d ≤ 57) then 99 else 10 * (b - 48) + (d - 48)) else b - 48
def reK (a m : Nat) : Nat := if a = 120 then (if m < 32 then m else 32) else if a = 97 then (if m < 8 then 10 + m else 32) else if a = 116 then (if m < 3 then 5 + m else if m < 7 then 25 + m else 32) else if a = 115 then (if m < 2 then 8 + m else if m < 12 then 16 + m else 32) else 32
def reS (l a b d e : Nat) : Nat := if l = 4 ∧ a = 122 ∧ b = 101 ∧ d = 114 ∧ e = 111 then 0 else if l = 2 ∧ a = 114 ∧ b = 97 then 1 else if l = 2 ∧ a = 115 ∧ b = 112 then 2 else if l = 2 ∧ a = 103 ∧ b = 112 then 3 else if l = 2 ∧ a = 116 ∧ b = 112 then 4 else if l = 2 ∧ a = 102 ∧ b = 112 then 8 else if l < 2 ∨ 3 < l then 32 else if ¬ (48 ≤ b ∧ b ≤ 57) then 32 else reK a (reM l b d)
def rI (r : Nat) : Int32 := if r < 32 then nI r else -1
theorem reM_l {l b d : Nat} (hb : b < 127) : reM l b d < 900 := by
  unfold reM
  split
  · split <;> omega
  · omega
theorem rg161 (n q m : Nat) {S : St} {a : Nat} (hq : q < 32768) (ha : a < 127) (hm : m < 900) (hS : sR S 2 q = nI a) : df_X13_register_161 n (nI q) (nI m) S = some (rI (reK a m), S) := by
  unfold df_X13_register_161 reK
  rw [nm_ck (by omega) (by omega), nI_clamp (by omega), hS, nb_let]
  by_cases y1 : a = 120
  · rw [if_pos y1, if_pos (show nI a = (120 : Int32) from congrArg nI y1)]
    by_cases z : m < 32
    · rw [if_neg (show ¬ (32 : Int32) ≤ nI m from znle (a := 32) z (by omega)), if_pos z]
      unfold df_X13_register_189 rI
      rw [if_pos z]
    · rw [if_pos (show (32 : Int32) ≤ nI m from zle (a := 32) (by omega) (by omega)), if_neg z]
      rfl
  rw [if_neg y1, if_neg (show ¬ nI a = (120 : Int32) from zne (b := 120) y1 (by omega) (by omega))]
  by_cases y2 : a = 97
  · rw [if_pos y2, if_pos (show nI a = (97 : Int32) from congrArg nI y2)]
    by_cases z : m < 8
    · rw [if_neg (show ¬ (8 : Int32) ≤ nI m from znle (a := 8) z (by omega)), if_pos z]
      unfold df_X13_register_213 rI
      rw [if_pos (by omega), show (10 : Int32) + nI m = nI (10 + m) from nI_add 10 m]
    · rw [if_pos (show (8 : Int32) ≤ nI m from zle (a := 8) (by omega) (by omega)), if_neg z]
      rfl
  rw [if_neg y2, if_neg (show ¬ nI a = (97 : Int32) from zne (b := 97) y2 (by omega) (by omega))]
  by_cases y3 : a = 116
  · rw [if_pos y3, if_pos (show nI a = (116 : Int32) from congrArg nI y3)]
    by_cases z : m < 3
    · rw [if_neg (show ¬ (3 : Int32) ≤ nI m from znle (a := 3) z (by omega)), if_pos z]
      unfold df_X13_register_250 rI
      rw [if_pos (by omega), show (5 : Int32) + nI m = nI (5 + m) from nI_add 5 m]
    · rw [if_pos (show (3 : Int32) ≤ nI m from zle (a := 3) (by omega) (by omega)), if_neg z]
      by_cases z2 : m < 7
      · rw [if_neg (show ¬ (7 : Int32) ≤ nI m from znle (a := 7) z2 (by omega)), if_pos z2]
        unfold df_X13_register_250 rI
        rw [if_pos (by omega), show (25 : Int32) + nI m = nI (25 + m) from nI_add 25 m]
      · rw [if_pos (show (7 : Int32) ≤ nI m from zle (a := 7) (by omega) (by omega)), if_neg z2]
        rfl
  rw [if_neg y3, if_neg (show ¬ nI a = (116 : Int32) from zne (b := 116) y3 (by omega) (by omega))]
  by_cases y4 : a = 115
  · rw [if_pos y4, if_pos (show nI a = (115 : Int32) from congrArg nI y4)]
    by_cases z : m < 2
    · rw [if_neg (show ¬ (2 : Int32) ≤ nI m from znle (a := 2) z (by omega)), if_pos z]
      unfold df_X13_register_292 rI
      rw [if_pos (by omega), show (8 : Int32) + nI m = nI (8 + m) from nI_add 8 m]
    · rw [if_pos (show (2 : Int32) ≤ nI m from zle (a := 2) (by omega) (by omega)), if_neg z]
      by_cases z2 : m < 12
      · rw [if_neg (show ¬ (12 : Int32) ≤ nI m from znle (a := 12) z2 (by omega)), if_pos z2]
        unfold df_X13_register_292 rI
        rw [if_pos (by omega), show (16 : Int32) + nI m = nI (16 + m) from nI_add 16 m]
      · rw [if_pos (show (12 : Int32) ≤ nI m from zle (a := 12) (by omega) (by omega)), if_neg z2]
        rfl
  rw [if_neg y4, if_neg (show ¬ nI a = (115 : Int32) from zne (b := 115) y4 (by omega) (by omega))]
  rfl
theorem re_1 (n : Nat) {S : St} {c : Nat → Nat} (q l : Nat) (hn : 200 < n) (h127 : ∀ i : Nat, c i < 127) (hl : q + l ≤ 32768) (hP : ∀ i : Nat, i < l → aP (c (q + i)) = true ∧ sR S 2 (q + i) = nI (c (q + i))) : df_X13_register n (nI q) (nI (q + l)) S = some (rI (reS l (c q) (c (q + 1)) (c (q + 2)) (c (q + 3))), S) := by
  have p := pk_1 n q l (by omega) h127 hl hP
  unfold df_X13_register df_X13_register_0
  rw [p, nb_b2]
  have k4 := pq_4 (c := c) q l h127
  have w1 := pq_2 (c := c) q l 114 97 82 (by decide) (by decide) (by decide) h127
  have w2 := pq_2 (c := c) q l 115 112 1043 (by decide) (by decide) (by decide) h127
  have w3 := pq_2 (c := c) q l 103 112 1031 (by decide) (by decide) (by decide) h127
  have w4 := pq_2 (c := c) q l 116 112 1044 (by decide) (by decide) (by decide) h127
  have w8 := pq_2 (c := c) q l 102 112 1030 (by decide) (by decide) (by decide) h127
  unfold reS
  by_cases y0 : l = 4 ∧ c q = 122 ∧ c (q + 1) = 101 ∧ c (q + 2) = 114 ∧ c (q + 3) = 111
  · rw [if_pos y0, if_pos (k4.mpr y0)]; rfl
  rw [if_neg y0, if_neg (fun z => y0 (k4.mp z))]
  by_cases y1 : l = 2 ∧ c q = 114 ∧ c (q + 1) = 97
  · rw [if_pos y1, if_pos (w1.mpr y1)]; rfl
  rw [if_neg y1, if_neg (fun z => y1 (w1.mp z))]
  by_cases y2 : l = 2 ∧ c q = 115 ∧ c (q + 1) = 112
  · rw [if_pos y2, if_pos (w2.mpr y2)]; rfl
  rw [if_neg y2, if_neg (fun z => y2 (w2.mp z))]
  by_cases y3 : l = 2 ∧ c q = 103 ∧ c (q + 1) = 112
  · rw [if_pos y3, if_pos (w3.mpr y3)]; rfl
  rw [if_neg y3, if_neg (fun z => y3 (w3.mp z))]
  by_cases y4 : l = 2 ∧ c q = 116 ∧ c (q + 1) = 112
  · rw [if_pos y4, if_pos (w4.mpr y4)]; rfl
  rw [if_neg y4, if_neg (fun z => y4 (w4.mp z))]
  by_cases y8 : l = 2 ∧ c q = 102 ∧ c (q + 1) = 112
  · rw [if_pos y8, if_pos (w8.mpr y8)]; rfl
  rw [if_neg y8, if_neg (fun z => y8 (w8.mp z))]
  clear k4 w1 w2 w3 w4 w8 y1 y2 y3 y4 y8 y0 p
  rw [pk_sub (by omega), show q + l - q = l by omega]
  by_cases z1 : l < 2
  · rw [if_pos (show nI l < (2 : Int32) from zlt (b := 2) z1 (by omega)), if_pos (Or.inl z1)]; rfl
  rw [if_neg (show ¬ nI l < (2 : Int32) from znl (b := 2) (by omega) (by omega))]
  by_cases z2 : 3 < l
  · rw [if_pos (show (3 : Int32) < nI l from zlt (a := 3) z2 (by omega)), if_pos (Or.inr z2)]; rfl
  rw [if_neg (show ¬ (3 : Int32) < nI l from znl (a := 3) (by omega) (by omega)), if_neg (by omega)]
  have b127 := h127 (q + 1)
  have d127 := h127 (q + 2)
  have t0 := (hP 0 (by omega)).2
  have t1 := (hP 1 (by omega)).2
  have i1 := id_13 n (c := c (q + 1)) (by omega)
  rw [show nI q + (1 : Int32) = nI (q + 1) from nI_add q 1, nm_ck (by omega) (by omega), nI_clamp (by omega), t1, i1, nb_b2]
  rw [Nat.add_zero] at t0
  by_cases z3 : 48 ≤ c (q + 1) ∧ c (q + 1) ≤ 57
  · rw [show aD (c (q + 1)) = true from aD_v.mpr z3, if_neg (show ¬ bI true = 0 by decide), if_neg (fun w => w z3), nm_ck (by omega) (by omega), nb_let, show nI (c (q + 1)) - (48 : Int32) = nI (c (q + 1) - 48) from pk_sub (b := 48) z3.1]
    have rm := reM_l (l := l) (d := c (q + 2)) b127
    have fin := rg161 n q (reM l (c (q + 1)) (c (q + 2))) (S := S) (by omega) (h127 q) rm t0
    by_cases z4 : l = 3
    · rw [if_pos (show nI l = (3 : Int32) from congrArg nI z4)]
      by_cases z5 : c (q + 1) = 48
      · rw [if_pos (show nI (c (q + 1) - 48) = (0 : Int32) by rw [z5]; rfl)]
        have e : reM l (c (q + 1)) (c (q + 2)) = 99 := by unfold reM; rw [if_pos z4, if_pos (Or.inl z5)]
        rw [e] at fin ⊢
        exact fin
      · have t2 := (hP 2 (by omega)).2
        have i2 := id_13 n (c := c (q + 2)) (by omega)
        rw [if_neg (show ¬ nI (c (q + 1) - 48) = (0 : Int32) from zne (b := 0) (by omega) (by omega) (by omega)), show nI q + (2 : Int32) = nI (q + 2) from nI_add q 2, nm_ck (by omega) (by omega), nI_clamp (by omega), t2, i2, nb_b2]
        by_cases z6 : 48 ≤ c (q + 2) ∧ c (q + 2) ≤ 57
        · have e : reM l (c (q + 1)) (c (q + 2)) = 10 * (c (q + 1) - 48) + (c (q + 2) - 48) := by unfold reM; rw [if_pos z4, if_neg (by omega)]
          rw [show aD (c (q + 2)) = true from aD_v.mpr z6, if_neg (show ¬ bI true = 0 by decide), nm_ck (by omega) (by omega), show (10 : Int32) * nI (c (q + 1) - 48) = nI (10 * (c (q + 1) - 48)) from pk_mul 10 _, nI_add, show nI (10 * (c (q + 1) - 48) + c (q + 2)) - (48 : Int32) = nI (10 * (c (q + 1) - 48) + (c (q + 2) - 48)) from (pk_sub (b := 48) (by omega)).trans (congrArg nI (by omega))]
          rw [e] at fin ⊢
          exact fin
        · have e : reM l (c (q + 1)) (c (q + 2)) = 99 := by unfold reM; rw [if_pos z4, if_pos (Or.inr z6)]
          have f : aD (c (q + 2)) = false := by
            cases hh : aD (c (q + 2)) with
            | true => exact absurd (aD_v.mp hh) z6
            | false => rfl
          rw [f, if_pos (show bI false = 0 from rfl)]
          rw [e] at fin ⊢
          exact fin
    · rw [if_neg (show ¬ nI l = (3 : Int32) from zne (b := 3) z4 (by omega) (by omega))]
      have e : reM l (c (q + 1)) (c (q + 2)) = c (q + 1) - 48 := by unfold reM; rw [if_neg z4]
      rw [e] at fin ⊢
      exact fin
  · have f : aD (c (q + 1)) = false := by
      cases hh : aD (c (q + 1)) with
      | true => exact absurd (aD_v.mp hh) z3
      | false => rfl
    rw [f, if_pos (show bI false = 0 from rfl), if_pos z3]
    rfl
/-- the class: the row of names -/
def cN3 (l a b d : Nat) : Nat → Bool := fun r => decide (kl 11 (3 * (r - 1)) = a ∧ kl 11 (3 * (r - 1) + 1) = b ∧ kl 11 (3 * (r - 1) + 2) = (if l = 3 then d else 32))
theorem ks_11 : ks_n 11 = 93 := by decide +kernel
theorem is_s (n m r q l i : Nat) {c : Nat → Nat} {B : St} (h127 : ∀ i : Nat, c i < 127) (hr : 1 ≤ r ∧ r ≤ 31) (hi : i < 3) (hl : l ≤ 3) (hq : q + l ≤ 32768) (hB : ∀ i : Nat, i < l → sR B 0 (q + i) = nI (c (q + i))) : df_X7_isNamed_3 n (m + 1) (nI r) (nI q) (nI l) (nI i) B = if kl 11 (3 * (r - 1) + i) = (if i < l then c (q + i) else 32) then df_X7_isNamed_3 n m (nI r) (nI q) (nI l) (nI (i + 1)) B else some (nI 0, B) := by
  have k := kl_1 ⟨11, by omega⟩ ⟨3 * (r - 1) + i, by omega⟩
  have k1 : ks_b 11 (3 * (r - 1) + i) = nI (kl 11 (3 * (r - 1) + i)) := k.1
  have k2 : kl 11 (3 * (r - 1) + i) < 127 := k.2
  have ch := ch_1 n 11 (3 * (r - 1) + i) (by omega) (by rw [ks_11]; omega)
  rw [k1] at ch
  generalize kl 11 (3 * (r - 1) + i) = x at k2 ch
  have c127 := h127 (q + i)
  show dF_X7_isNamed_3 n (df_X7_isNamed_3 n m) (nI r) (nI q) (nI l) (nI i) B = _
  unfold dF_X7_isNamed_3
  rw [if_neg (show ¬ (3 : Int32) ≤ nI i from znle (a := 3) hi (by omega)), show ((nI r - 1) * 3 + nI i : Int32) = nI (3 * (r - 1) + i) by
    rw [show (1 : Int32) = nI 1 from rfl, show (3 : Int32) = nI 3 from rfl, pk_sub (by omega), pk_mul, nI_add, Nat.mul_comm], ch, nb_b2]
  by_cases y : i < l
  · rw [if_neg (show ¬ nI l ≤ nI i from znle y (by omega)), nI_add, nm_ck (by omega) (by omega), nI_clamp (by omega), hB i y, if_pos y]
    unfold df_X7_isNamed_44
    by_cases z : x = c (q + i)
    · rw [if_pos z, if_pos (congrArg nI z), nb_let, show nI i + Int32.ofInt 1 = nI (i + 1) from nI_add i 1]
    · rw [if_neg z, if_neg (zne z (by omega) (by omega))]
      rfl
  · rw [if_pos (show nI l ≤ nI i from zle (by omega) (by omega)), if_neg y]
    unfold df_X7_isNamed_44
    by_cases z : x = 32
    · rw [if_pos z, if_pos (show nI x = (32 : Int32) from congrArg nI z), nb_let, show nI i + Int32.ofInt 1 = nI (i + 1) from nI_add i 1]
    · rw [if_neg z, if_neg (show ¬ nI x = (32 : Int32) from zne (b := 32) z (by omega) (by omega))]
      rfl
theorem is_1 (n r q l : Nat) {c : Nat → Nat} {B : St} (hn : 10 < n) (h127 : ∀ i : Nat, c i < 127) (hr : 1 ≤ r ∧ r ≤ 31) (hl : l = 2 ∨ l = 3) (hq : q + l ≤ 32768) (hB : ∀ i : Nat, i < l → sR B 0 (q + i) = nI (c (q + i))) : df_X7_isNamed n (nI r) (nI q) (nI l) B = some (bI (cN3 l (c q) (c (q + 1)) (c (q + 2)) r), B) := by
  obtain ⟨m, hm⟩ : ∃ m : Nat, n = m + 1 + 1 + 1 + 1 := ⟨n - 4, by omega⟩
  refine Eq.trans (show _ = df_X7_isNamed_3 n n (nI r) (nI q) (nI l) (nI 0) B from rfl) ?_
  rw [congrArg (fun g => df_X7_isNamed_3 n g (nI r) (nI q) (nI l) (nI 0) B) hm]
  show df_X7_isNamed_3 n (m + 1 + 1 + 1 + 1) (nI r) (nI q) (nI l) (nI 0) B = _
  have s0 := is_s n (m + 1 + 1 + 1) r q l 0 (c := c) (B := B) h127 hr (by omega) (by omega) hq hB
  have s1 := is_s n (m + 1 + 1) r q l 1 (c := c) (B := B) h127 hr (by omega) (by omega) hq hB
  have s2 := is_s n (m + 1) r q l 2 (c := c) (B := B) h127 hr (by omega) (by omega) hq hB
  rw [if_pos (show 0 < l by omega)] at s0
  rw [if_pos (show 1 < l by omega)] at s1
  rw [Nat.add_zero (3 * (r - 1)), Nat.add_zero q] at s0
  rw [s0]
  unfold cN3
  have e2 : (if 2 < l then c (q + 2) else 32) = (if l = 3 then c (q + 2) else 32) := by
    rcases hl with hl | hl <;> subst hl <;> rfl
  rw [e2] at s2
  have fin : df_X7_isNamed_3 n (m + 1) (nI r) (nI q) (nI l) (nI 3) B = some (nI 1, B) := by
    show dF_X7_isNamed_3 n (df_X7_isNamed_3 n m) (nI r) (nI q) (nI l) (nI 3) B = _
    unfold dF_X7_isNamed_3
    rw [if_pos (show (3 : Int32) ≤ nI 3 from zle (a := 3) (Nat.le_refl 3) (by omega))]
    rfl
  by_cases y0 : kl 11 (3 * (r - 1)) = c q
  · rw [if_pos y0, s1]
    by_cases y1 : kl 11 (3 * (r - 1) + 1) = c (q + 1)
    · rw [if_pos y1, s2]
      by_cases y2 : kl 11 (3 * (r - 1) + 2) = (if l = 3 then c (q + 2) else 32)
      · rw [if_pos y2, fin, decide_eq_true ⟨y0, y1, y2⟩]
        rfl
      · rw [if_neg y2, decide_eq_false (fun z => y2 z.2.2)]
        rfl
    · rw [if_neg y1, decide_eq_false (fun z => y1 z.2.1)]
      rfl
  · rw [if_neg y0, decide_eq_false (fun z => y0 z.1)]
    rfl
theorem rl_1 (n q l : Nat) {c : Nat → Nat} {B : St} (hn : 100 < n) (h127 : ∀ i : Nat, c i < 127) (hl : l = 2 ∨ l = 3) (hq : q + l ≤ 32768) (hB : ∀ i : Nat, i < l → sR B 0 (q + i) = nI (c (q + i))) : df_X7_registerAt_74 n n (nI q) (nI l) (nI 1) B = some (rI (fN (cN3 l (c q) (c (q + 1)) (c (q + 2))) 1 31), B) := by
  obtain ⟨m, em⟩ := nm_ls (fun g i => df_X7_registerAt_74 n g (nI q) (nI l) (nI i) B) (cN3 l (c q) (c (q + 1)) (c (q + 2))) 1 31 n (by omega) (fun k m k1 k2 k3 => by
    have s := is_1 n k q l (c := c) (B := B) (by omega) h127 (by omega) hl hq hB
    rw [k3] at s
    show dF_X7_registerAt_74 n (df_X7_registerAt_74 n m) (nI q) (nI l) (nI k) B = df_X7_registerAt_74 n m (nI q) (nI l) (nI (k + 1)) B
    unfold dF_X7_registerAt_74
    rw [if_neg (show ¬ (32 : Int32) ≤ nI k from znle (a := 32) (by omega) (by omega)), s, nb_b2, if_pos (show bI false = 0 from rfl), nb_let, show nI k + Int32.ofInt 1 = nI (k + 1) from nI_add k 1])
  refine Eq.trans em ?_
  obtain ⟨f1, f2, f3, f4⟩ := fN_le (cN3 l (c q) (c (q + 1)) (c (q + 2))) 31 1
  generalize fN (cN3 l (c q) (c (q + 1)) (c (q + 2))) 1 31 = f at f1 f2 f3 f4
  show dF_X7_registerAt_74 n (df_X7_registerAt_74 n m) (nI q) (nI l) (nI f) B = _
  unfold dF_X7_registerAt_74
  by_cases y : f < 32
  · have s := is_1 n f q l (c := c) (B := B) (by omega) h127 (by omega) hl hq hB
    rw [f3 (by omega)] at s
    rw [if_neg (show ¬ (32 : Int32) ≤ nI f from znle (a := 32) y (by omega)), s, nb_b2, if_neg (show ¬ bI true = 0 by decide)]
    unfold rI
    rw [if_pos y]
  · have y2 : f = 32 := by omega
    subst y2
    rw [if_pos (show (32 : Int32) ≤ nI 32 from zle (a := 32) (Nat.le_refl 32) (by omega))]
    rfl
/-- the row of names says what reS says -/
theorem tb2 : ∀ r : Fin 32, 1 ≤ r.1 → kl 11 (3 * (r.1 - 1) + 2) = 32 → reS 2 (kl 11 (3 * (r.1 - 1))) (kl 11 (3 * (r.1 - 1) + 1)) 0 0 = r.1 := by decide +kernel
theorem tb3 : ∀ r : Fin 32, 1 ≤ r.1 → ¬ kl 11 (3 * (r.1 - 1) + 2) = 32 → reS 3 (kl 11 (3 * (r.1 - 1))) (kl 11 (3 * (r.1 - 1) + 1)) (kl 11 (3 * (r.1 - 1) + 2)) 0 = r.1 := by decide +kernel
theorem ts2 (a b d e : Nat) : reS 2 a b d e = reS 2 a b 0 0 := rfl
theorem ts3 (a b d e : Nat) : reS 3 a b d e = reS 3 a b d 0 := rfl
theorem tn2 (a b d r : Nat) : cN3 2 a b d r = cN3 2 a b 0 r := rfl
theorem t97 : ∀ m : Fin 8, cN3 2 97 (48 + m.1) 0 (10 + m.1) = true := by decide +kernel
theorem t116a : ∀ m : Fin 3, cN3 2 116 (48 + m.1) 0 (5 + m.1) = true := by decide +kernel
theorem t116b : ∀ m : Fin 7, 3 ≤ m.1 → cN3 2 116 (48 + m.1) 0 (25 + m.1) = true := by decide +kernel
theorem t115a : ∀ m : Fin 2, cN3 2 115 (48 + m.1) 0 (8 + m.1) = true := by decide +kernel
theorem t115b : ∀ m : Fin 10, 2 ≤ m.1 → cN3 2 115 (48 + m.1) 0 (16 + m.1) = true := by decide +kernel
theorem t115c : ∀ m : Fin 2, cN3 3 115 49 (48 + m.1) (26 + m.1) = true := by decide +kernel
theorem tq : cN3 2 114 97 0 1 = true ∧ cN3 2 115 112 0 2 = true ∧ cN3 2 103 112 0 3 = true ∧ cN3 2 116 112 0 4 = true := by decide +kernel
theorem cj_A {l a b d e : Nat} (hl : l = 2 ∨ l = 3) (ha : ¬ a = 120) (hd : l = 3 → ¬ d = 32) {r : Nat} (h1 : 1 ≤ r) (h2 : r ≤ 31) (h : cN3 l a b d r = true) : reS l a b d e = r := by
  obtain ⟨e1, e2, e3⟩ := of_decide_eq_true h
  rcases hl with hl | hl
  · subst hl
    have e3 : kl 11 (3 * (r - 1) + 2) = 32 := e3
    have := tb2 ⟨r, by omega⟩ h1 e3
    rw [ts2, ← e1, ← e2]
    exact this
  · subst hl
    have e3 : kl 11 (3 * (r - 1) + 2) = d := e3
    have := tb3 ⟨r, by omega⟩ h1 (by
      show ¬ kl 11 (3 * (r - 1) + 2) = 32
      rw [e3]
      exact hd rfl)
    rw [ts3, ← e1, ← e2, ← e3]
    exact this
theorem cj_B {l a b d e : Nat} (hl : l = 2 ∨ l = 3) (ha : ¬ a = 120) (hf : ¬ (l = 2 ∧ a = 102 ∧ b = 112)) (h : reS l a b d e < 32) : 1 ≤ reS l a b d e ∧ cN3 l a b d (reS l a b d e) = true := by
  unfold reS at h ⊢
  rw [if_neg (show ¬ (l = 4 ∧ a = 122 ∧ b = 101 ∧ d = 114 ∧ e = 111) by omega)] at h ⊢
  by_cases y1 : l = 2 ∧ a = 114 ∧ b = 97
  · rw [if_pos y1]
    obtain ⟨e0, e1, e2⟩ := y1
    subst e0; subst e1; subst e2
    exact ⟨Nat.le_refl 1, (tn2 _ _ _ _).trans tq.1⟩
  rw [if_neg y1] at h ⊢
  by_cases y2 : l = 2 ∧ a = 115 ∧ b = 112
  · rw [if_pos y2]
    obtain ⟨e0, e1, e2⟩ := y2
    subst e0; subst e1; subst e2
    exact ⟨by omega, (tn2 _ _ _ _).trans tq.2.1⟩
  rw [if_neg y2] at h ⊢
  by_cases y3 : l = 2 ∧ a = 103 ∧ b = 112
  · rw [if_pos y3]
    obtain ⟨e0, e1, e2⟩ := y3
    subst e0; subst e1; subst e2
    exact ⟨by omega, (tn2 _ _ _ _).trans tq.2.2.1⟩
  rw [if_neg y3] at h ⊢
  by_cases y4 : l = 2 ∧ a = 116 ∧ b = 112
  · rw [if_pos y4]
    obtain ⟨e0, e1, e2⟩ := y4
    subst e0; subst e1; subst e2
    exact ⟨by omega, (tn2 _ _ _ _).trans tq.2.2.2⟩
  rw [if_neg y4, if_neg hf, if_neg (show ¬ (l < 2 ∨ 3 < l) by omega)] at h ⊢
  by_cases y5 : 48 ≤ b ∧ b ≤ 57
  · rw [if_neg (fun z => z y5)] at h ⊢
    clear y1 y2 y3 y4 hf
    rcases hl with hl | hl
    · subst hl
      have em : reM 2 b d = b - 48 := rfl
      rw [em] at h ⊢
      obtain ⟨m, rfl⟩ : ∃ m : Nat, b = 48 + m := ⟨b - 48, by omega⟩
      rw [show 48 + m - 48 = m by omega] at h ⊢
      rw [tn2]
      unfold reK at h ⊢
      rw [if_neg ha] at h ⊢
      by_cases z1 : a = 97
      · subst z1
        rw [if_pos rfl] at h ⊢
        by_cases w : m < 8
        · rw [if_pos w]
          exact ⟨by omega, t97 ⟨m, w⟩⟩
        · rw [if_neg w] at h; omega
      rw [if_neg z1] at h ⊢
      by_cases z2 : a = 116
      · subst z2
        rw [if_pos rfl] at h ⊢
        by_cases w : m < 3
        · rw [if_pos w]
          exact ⟨by omega, t116a ⟨m, w⟩⟩
        · rw [if_neg w] at h ⊢
          by_cases w2 : m < 7
          · rw [if_pos w2]
            exact ⟨by omega, t116b ⟨m, w2⟩ (show 3 ≤ m by omega)⟩
          · rw [if_neg w2] at h; omega
      rw [if_neg z2] at h ⊢
      by_cases z3 : a = 115
      · subst z3
        rw [if_pos rfl] at h ⊢
        by_cases w : m < 2
        · rw [if_pos w]
          exact ⟨by omega, t115a ⟨m, w⟩⟩
        · rw [if_neg w] at h ⊢
          rw [if_pos (show m < 12 by omega)]
          exact ⟨by omega, t115b ⟨m, by omega⟩ (show 2 ≤ m by omega)⟩
      rw [if_neg z3] at h
      omega
    · subst hl
      have em : reM 3 b d = if b = 48 ∨ ¬ (48 ≤ d ∧ d ≤ 57) then 99 else 10 * (b - 48) + (d - 48) := rfl
      have m10 : 10 ≤ reM 3 b d := by rw [em]; split <;> omega
      unfold reK at h ⊢
      rw [if_neg ha] at h ⊢
      by_cases z1 : a = 97
      · rw [if_pos z1, if_neg (by omega)] at h; omega
      rw [if_neg z1] at h ⊢
      by_cases z2 : a = 116
      · rw [if_pos z2, if_neg (by omega), if_neg (by omega)] at h; omega
      rw [if_neg z2] at h ⊢
      by_cases z3 : a = 115
      · subst z3
        rw [if_pos rfl, if_neg (by omega)] at h ⊢
        by_cases w : reM 3 b d < 12
        · rw [if_pos w]
          have hb : b = 49 ∧ (d = 48 ∨ d = 49) ∧ reM 3 b d = 10 + (d - 48) := by
            rw [em] at w ⊢
            split at w
            · omega
            · rename_i k
              rw [if_neg k]
              omega
          obtain ⟨b1, b2, b3⟩ := hb
          rw [b3]
          subst b1
          have := t115c ⟨d - 48, by omega⟩
          rw [show 48 + (⟨d - 48, (by omega : d - 48 < 2)⟩ : Fin 2).1 = d from (by show 48 + (d - 48) = d; omega)] at this
          refine ⟨by omega, ?_⟩
          rw [show 16 + (10 + (d - 48)) = 26 + (d - 48) by omega]
          exact this
        · rw [if_neg w] at h; omega
      rw [if_neg z3] at h
      omega
  · rw [if_pos y5] at h
    omega
theorem cj_1 {l a b d e : Nat} (hl : l = 2 ∨ l = 3) (ha : ¬ a = 120) (hf : ¬ (l = 2 ∧ a = 102 ∧ b = 112)) (hd : l = 3 → ¬ d = 32) : rI (fN (cN3 l a b d) 1 31) = rI (reS l a b d e) := by
  by_cases y : reS l a b d e < 32
  · obtain ⟨h1, h2⟩ := cj_B hl ha hf y
    rw [fN_is (j := reS l a b d e) h1 (by omega) h2 (fun i i1 i2 => by
      cases hh : cN3 l a b d i with
      | false => rfl
      | true =>
        have := cj_A (e := e) hl ha hd i1 (by omega) hh
        omega)]
  · rw [fN_no (fun i i1 i2 => by
      cases hh : cN3 l a b d i with
      | false => rfl
      | true =>
        have := cj_A (e := e) hl ha hd i1 (by omega) hh
        omega)]
    unfold rI
    rw [if_neg (by omega), if_neg y]
/-- the class: x and a number -/
theorem nu_s (n m q k v i x : Nat) {B : St} (hi : i < k) (hk : k ≤ 2) (hv : v < 100) (hx : x < 127) (hq : q + k ≤ 32768) (hB : sR B 0 (q + i) = nI x) : df_X7_numbered_5 n (m + 1) (nI q) (nI k) (nI v) (nI i) B = if 48 ≤ x ∧ x ≤ 57 then df_X7_numbered_5 n m (nI q) (nI k) (nI (v * 10 + (x - 48))) (nI (i + 1)) B else some (-1, B) := by
  show dF_X7_numbered_5 n (df_X7_numbered_5 n m) (nI q) (nI k) (nI v) (nI i) B = _
  unfold dF_X7_numbered_5
  rw [if_neg (show ¬ nI k ≤ nI i from znle hi (by omega)), nI_add, nm_ck (by omega) (by omega), nI_clamp (by omega), hB, nb_let]
  by_cases y : x < 48
  · rw [if_pos (show nI x - 48 < (0 : Int32) by
      rw [Int32.lt_iff_toInt_lt, show (48 : Int32) = nI 48 from rfl, pk_sub_toInt (by omega) (by omega)]
      show (x : Int) - 48 < 0
      omega), if_neg (by omega)]
    rfl
  · rw [show nI x - (48 : Int32) = nI (x - 48) from pk_sub (b := 48) (by omega), if_neg (show ¬ nI (x - 48) < (0 : Int32) from znl (b := 0) (by omega) (by omega))]
    by_cases z : x ≤ 57
    · rw [if_pos (show nI (x - 48) ≤ (9 : Int32) from zle (b := 9) (by omega) (by omega)), if_pos ⟨by omega, z⟩, nb_let, nb_let, show nI v * (10 : Int32) = nI (v * 10) from pk_mul v 10, nI_add, show nI i + Int32.ofInt 1 = nI (i + 1) from nI_add i 1]
    · rw [if_neg (show ¬ nI (x - 48) ≤ (9 : Int32) from znle (b := 9) (by omega) (by omega)), if_neg (by omega)]
      rfl
theorem nu_z (n m q k v : Nat) {B : St} (hk : k = 1 ∨ k = 2) (hv : v < 1000) (h1 : k = 1 → v < 10) : df_X7_numbered_5 n (m + 1) (nI q) (nI k) (nI v) (nI k) B = some (rI (if k = 2 ∧ v < 10 then 32 else v), B) := by
  show dF_X7_numbered_5 n (df_X7_numbered_5 n m) (nI q) (nI k) (nI v) (nI k) B = _
  unfold dF_X7_numbered_5
  rw [if_pos (show nI k ≤ nI k from zle (Nat.le_refl k) (by omega))]
  by_cases y : 31 < v
  · rw [if_pos (show (31 : Int32) < nI v from zlt (a := 31) y (by omega)), if_neg (by omega)]
    unfold rI
    rw [if_neg (by omega)]
    rfl
  rw [if_neg (show ¬ (31 : Int32) < nI v from znl (a := 31) (by omega) (by omega))]
  rcases hk with hk | hk
  · subst hk
    rw [if_neg (show ¬ nI 1 = (2 : Int32) by decide), if_neg (by omega)]
    unfold rI
    rw [if_pos (by omega)]
    rfl
  · subst hk
    rw [if_pos (show nI 2 = (2 : Int32) from rfl)]
    by_cases z : v < 10
    · rw [if_neg (show ¬ (10 : Int32) ≤ nI v from znle (a := 10) z (by omega)), if_pos ⟨rfl, z⟩]
      rfl
    · rw [if_pos (show (10 : Int32) ≤ nI v from zle (a := 10) (by omega) (by omega)), if_neg (fun w => z w.2)]
      unfold rI
      rw [if_pos (by omega)]
      rfl
theorem nu_1 (n q l b d e : Nat) {B : St} (hn : 10 < n) (hl : l = 2 ∨ l = 3) (hb : b < 127) (hd : d < 127) (hq : q + l ≤ 32768) (h1 : sR B 0 (q + 1) = nI b) (h2 : l = 3 → sR B 0 (q + 2) = nI d) : df_X7_numbered n (nI (q + 1)) (nI (l - 1)) B = some (rI (reS l 120 b d e), B) := by
  obtain ⟨m, hm⟩ : ∃ m : Nat, n = m + 1 + 1 + 1 := ⟨n - 3, by omega⟩
  refine Eq.trans (show _ = df_X7_numbered_5 n n (nI (q + 1)) (nI (l - 1)) (nI 0) (nI 0) B from rfl) ?_
  rw [congrArg (fun g => df_X7_numbered_5 n g (nI (q + 1)) (nI (l - 1)) (nI 0) (nI 0) B) hm]
  show df_X7_numbered_5 n (m + 1 + 1 + 1) (nI (q + 1)) (nI (l - 1)) (nI 0) (nI 0) B = _
  have s0 := nu_s n (m + 1 + 1) (q + 1) (l - 1) 0 0 b (B := B) (by omega) (by omega) (by omega) hb (by omega) h1
  rw [s0]
  unfold reS
  rw [if_neg (show ¬ (l = 4 ∧ 120 = 122 ∧ b = 101 ∧ d = 114 ∧ e = 111) by omega), if_neg (show ¬ (l = 2 ∧ 120 = 114 ∧ b = 97) by omega), if_neg (show ¬ (l = 2 ∧ 120 = 115 ∧ b = 112) by omega), if_neg (show ¬ (l = 2 ∧ 120 = 103 ∧ b = 112) by omega), if_neg (show ¬ (l = 2 ∧ 120 = 116 ∧ b = 112) by omega), if_neg (show ¬ (l = 2 ∧ 120 = 102 ∧ b = 112) by omega), if_neg (show ¬ (l < 2 ∨ 3 < l) by omega)]
  by_cases y : 48 ≤ b ∧ b ≤ 57
  · rw [if_pos y, if_neg (fun z => z y), show 0 * 10 + (b - 48) = b - 48 by omega]
    unfold reK
    rw [if_pos (show 120 = 120 from rfl)]
    rcases hl with hl | hl
    · subst hl
      have f := nu_z n (m + 1) (q + 1) 1 (b - 48) (B := B) (Or.inl rfl) (by omega) (fun _ => by omega)
      rw [if_neg (by omega)] at f
      have em : reM 2 b d = b - 48 := rfl
      rw [em, if_pos (by omega)]
      exact f
    · subst hl
      have s1 := nu_s n (m + 1) (q + 1) 2 (b - 48) 1 d (B := B) (by omega) (by omega) (by omega) hd (by omega) (h2 rfl)
      have em : reM 3 b d = if b = 48 ∨ ¬ (48 ≤ d ∧ d ≤ 57) then 99 else 10 * (b - 48) + (d - 48) := rfl
      refine Eq.trans (show _ = df_X7_numbered_5 n (m + 1 + 1) (nI (q + 1)) (nI 2) (nI (b - 48)) (nI 1) B from rfl) ?_
      rw [s1, em]
      by_cases z : 48 ≤ d ∧ d ≤ 57
      · have f := nu_z n m (q + 1) 2 ((b - 48) * 10 + (d - 48)) (B := B) (Or.inr rfl) (by omega) (by omega)
        rw [if_pos z]
        refine Eq.trans f ?_
        by_cases w : b = 48
        · rw [if_pos (show b = 48 ∨ ¬ (48 ≤ d ∧ d ≤ 57) from Or.inl w), if_pos (by omega), if_neg (by omega)]
        · rw [if_neg (show ¬ (b = 48 ∨ ¬ (48 ≤ d ∧ d ≤ 57)) by omega), if_neg (show ¬ (2 = 2 ∧ (b - 48) * 10 + (d - 48) < 10) by omega), Nat.mul_comm (b - 48) 10]
          by_cases u : 10 * (b - 48) + (d - 48) < 32
          · rw [if_pos u]
          · rw [if_neg u]
            unfold rI
            rw [if_neg u, if_neg (by omega)]
      · rw [if_neg z, if_pos (show b = 48 ∨ ¬ (48 ≤ d ∧ d ≤ 57) from Or.inr z), if_neg (by omega)]
        rfl
  · rw [if_neg y, if_pos y]
    rfl
/-- the class: a register's name -/
theorem cr_1 (n q l : Nat) {c : Nat → Nat} {B : St} (hn : 200 < n) (hln : l < n) (h127 : ∀ i : Nat, c i < 127) (hq : q + l ≤ 32768) (hP : ∀ i : Nat, i < l → aP (c (q + i)) = true) (hB : ∀ i : Nat, i < l → sR B 0 (q + i) = nI (c (q + i))) : df_X7_registerAt n (nI q) (nI l) B = some (rI (reS l (c q) (c (q + 1)) (c (q + 2)) (c (q + 3))), B) := by
  have K10 : ks_n 10 = 4 ∧ ks_b 10 0 = nI 122 ∧ ks_b 10 1 = nI 101 ∧ ks_b 10 2 = nI 114 ∧ ks_b 10 3 = nI 111 := by decide +kernel
  have K18 : ks_n 18 = 2 ∧ ks_b 18 0 = nI 102 ∧ ks_b 18 1 = nI 112 := by decide +kernel
  have N : ∀ i : Nat, c i < 2 ^ 31 := fun i => by have := h127 i; omega
  have w10 : wq 10 q l (sR B 0) ↔ (l = 4 ∧ c q = 122 ∧ c (q + 1) = 101 ∧ c (q + 2) = 114 ∧ c (q + 3) = 111) := by
    constructor
    · rintro ⟨e, h⟩
      rw [K10.1] at e
      have g : ∀ i v : Nat, i < l → v < 2 ^ 31 → ks_b 10 i = nI v → c (q + i) = v := fun i v hi hv hk => by
        have := h i hi
        rw [hB i hi, hk, nI_eq (by have := N (q + i); omega) (by omega)] at this
        exact this
      exact ⟨e.symm, g 0 122 (by omega) (by omega) K10.2.1, g 1 101 (by omega) (by omega) K10.2.2.1, g 2 114 (by omega) (by omega) K10.2.2.2.1, g 3 111 (by omega) (by omega) K10.2.2.2.2⟩
    · rintro ⟨e, h0, h1, h2, h3⟩
      refine ⟨by rw [K10.1, e], fun i hi => ?_⟩
      rw [hB i hi]
      by_cases z0 : i = 0
      · subst z0; rw [K10.2.1]; exact congrArg nI h0
      by_cases z1 : i = 1
      · subst z1; rw [K10.2.2.1, h1]
      by_cases z2 : i = 2
      · subst z2; rw [K10.2.2.2.1, h2]
      · have z : i = 3 := by omega
        subst z; rw [K10.2.2.2.2, h3]
  have w18 : wq 18 q l (sR B 0) ↔ (l = 2 ∧ c q = 102 ∧ c (q + 1) = 112) := by
    constructor
    · rintro ⟨e, h⟩
      rw [K18.1] at e
      have g : ∀ i v : Nat, i < l → v < 2 ^ 31 → ks_b 18 i = nI v → c (q + i) = v := fun i v hi hv hk => by
        have := h i hi
        rw [hB i hi, hk, nI_eq (by have := N (q + i); omega) (by omega)] at this
        exact this
      exact ⟨e.symm, g 0 102 (by omega) (by omega) K18.2.1, g 1 112 (by omega) (by omega) K18.2.2⟩
    · rintro ⟨e, h0, h1⟩
      refine ⟨by rw [K18.1, e], fun i hi => ?_⟩
      rw [hB i hi]
      by_cases z0 : i = 0
      · subst z0; rw [K18.2.1]; exact congrArg nI h0
      · have z : i = 1 := by omega
        subst z; rw [K18.2.2, h1]
  unfold df_X7_registerAt df_X7_registerAt_0
  by_cases y0 : l = 4 ∧ c q = 122 ∧ c (q + 1) = 101 ∧ c (q + 2) = 114 ∧ c (q + 3) = 111
  · rw [sn_y n 10 q l hln (by omega) hq (w10.mpr y0), nb_b2, if_neg (show ¬ nI 1 = (0 : Int32) by decide)]
    unfold reS
    rw [if_pos y0]
    rfl
  rw [sn_n n 10 q l hln (by omega) hq (fun z => y0 (w10.mp z)), nb_b2, if_pos (show nI 0 = (0 : Int32) from rfl)]
  by_cases y8 : l = 2 ∧ c q = 102 ∧ c (q + 1) = 112
  · rw [sn_y n 18 q l hln (by omega) hq (w18.mpr y8), nb_b2, if_neg (show ¬ nI 1 = (0 : Int32) by decide)]
    obtain ⟨e0, e1, e2⟩ := y8
    rw [e0, e1, e2]
    rfl
  rw [sn_n n 18 q l hln (by omega) hq (fun z => y8 (w18.mp z)), nb_b2, if_pos (show nI 0 = (0 : Int32) from rfl)]
  clear w10 w18 K10 K18
  have out : l < 2 ∨ 3 < l → reS l (c q) (c (q + 1)) (c (q + 2)) (c (q + 3)) = 32 := fun z => by
    unfold reS
    rw [if_neg y0]
    have z2 : ¬ l = 2 := by omega
    rw [if_neg (fun w => z2 w.1), if_neg (fun w => z2 w.1), if_neg (fun w => z2 w.1), if_neg (fun w => z2 w.1), if_neg (fun w => z2 w.1), if_pos z]
  by_cases z1 : l < 2
  · rw [if_pos (show nI l < (2 : Int32) from zlt (b := 2) z1 (by omega)), out (Or.inl z1)]; rfl
  rw [if_neg (show ¬ nI l < (2 : Int32) from znl (b := 2) (by omega) (by omega))]
  by_cases z2 : 3 < l
  · rw [if_pos (show (3 : Int32) < nI l from zlt (a := 3) z2 (by omega)), out (Or.inr z2)]; rfl
  clear out
  rw [if_neg (show ¬ (3 : Int32) < nI l from znl (a := 3) (by omega) (by omega)), if_neg (show ¬ nI q < (0 : Int32) from znl (b := 0) (by omega) (by omega)), nI_add, if_pos (show nI (q + l) ≤ (32768 : Int32) from zle (b := 32768) hq (by omega)), nm_ck (by omega) (by omega), nI_clamp (by omega)]
  have t0 : sR B 0 q = nI (c q) := hB 0 (by omega)
  rw [t0]
  have hl : l = 2 ∨ l = 3 := by omega
  by_cases z3 : c q = 120
  · rw [if_pos (show nI (c q) = (120 : Int32) from congrArg nI z3), show nI q + (1 : Int32) = nI (q + 1) from nI_add q 1, show nI l - (1 : Int32) = nI (l - 1) from pk_sub (b := 1) (by omega), nu_1 n q l (c (q + 1)) (c (q + 2)) (c (q + 3)) (by omega) hl (h127 _) (h127 _) hq (hB 1 (by omega)) (fun e => hB 2 (by omega)), nb_b2, z3]
  · rw [if_neg (show ¬ nI (c q) = (120 : Int32) from zne (b := 120) z3 (by have := N q; omega) (by omega))]
    refine Eq.trans (rl_1 n q l (c := c) (by omega) h127 hl hq hB) ?_
    rw [cj_1 (e := c (q + 3)) hl z3 y8 (fun e w => by
      have := hP 2 (by omega)
      rw [w] at this
      exact absurd this (by decide))]
