/-- the end of an atomic one's name -/
def s3O (c : Nat → Nat) (z l : Nat) : Nat := if 3 < l ∧ c (z - 3) = 46 ∧ ((c (z - 2) = 97 ∧ c (z - 1) = 113) ∨ (c (z - 2) = 114 ∧ c (z - 1) = 108)) then 3 else 0
def sfO (c : Nat → Nat) (z l : Nat) : Nat := if 5 < l ∧ c (z - 5) = 46 ∧ c (z - 4) = 97 ∧ c (z - 3) = 113 ∧ c (z - 2) = 114 ∧ c (z - 1) = 108 then 5 else s3O c z l
def odO (c : Nat → Nat) (z l : Nat) : Int32 := if sfO c z l = 5 then 100663296 else if sfO c z l = 3 then (if c (z - 1) = 113 then 67108864 else 33554432) else 0
theorem sx_1 {α : Type} {S : St} {c : Nat → Nat} {q l : Nat} (h127 : ∀ i : Nat, c i < 127) (hl : q + l ≤ 32768) (h10 : sI S 10 = nI (q + l)) (hS : ∀ i : Nat, i < l → sR S 2 (q + i) = nI (c (q + i))) (d k : Nat) (hd : 1 ≤ d) (hdl : d ≤ l) (hk : k < 127) (x y : Option α) : nd_ck (sI S 10 - nI d) 32772 (if sR S 2 (sI S 10 - nI d).toNatClampNeg = nI k then x else y) = if c (q + l - d) = k then x else y := by
  have hh := h127 (q + l - d)
  rw [h10, pk_sub (by omega), nm_ck (by omega) (by omega), nI_clamp (by omega), show q + l - d = q + (l - d) by omega, hS _ (by omega)]
  rw [show q + l - d = q + (l - d) by omega] at hh
  by_cases z : c (q + (l - d)) = k
  · rw [if_pos (congrArg nI z), if_pos z]
  · rw [if_neg (zne z (by omega) (by omega)), if_neg z]
theorem suf_R (n : Nat) {S : St} {c : Nat → Nat} {q l : Nat} (h127 : ∀ i : Nat, c i < 127) (hl : q + l ≤ 32768) (h9 : sI S 9 = nI q) (h10 : sI S 10 = nI (q + l)) (hS : ∀ i : Nat, i < l → sR S 2 (q + i) = nI (c (q + i))) : df_X13_suffix n S = some (nI (sfO c (q + l) l), S) := by
  have sx := fun (d k : Nat) (a : 1 ≤ d) (b : d ≤ l) (e : k < 127) (x y : Option (Int32 × St)) => sx_1 h127 hl h10 hS d k a b e x y
  have le : ∀ k : Nat, k < 100 → (nI l ≤ nI k ↔ l ≤ k) := fun k hk => nI_leI (by omega) (by omega)
  have z97 : df_X13_suffix_97 n (nI l) S = some (nI (s3O c (q + l) l), S) := by
    unfold df_X13_suffix_97 df_X13_suffix_138 df_X13_suffix_139 df_X13_suffix_181 df_X13_suffix_182 df_X13_suffix_191 df_X13_suffix_211 df_X13_suffix_212 s3O
    by_cases y : l ≤ 3
    · rw [if_pos (show nI l ≤ (3 : Int32) from (le 3 (by omega)).mpr y), if_pos (show nI l ≤ (3 : Int32) from (le 3 (by omega)).mpr y), if_pos rfl, if_pos rfl, if_neg (by omega)]
      rfl
    · have ny : ¬ nI l ≤ (3 : Int32) := fun z => y ((le 3 (by omega)).mp z)
      have y3 : 3 < l := by omega
      rw [if_neg ny, if_neg ny, if_neg ny]
      rw [show ∀ x y : Option (Int32 × St), nd_ck (sI S 10 - 2) 32772 (if sR S 2 (sI S 10 - 2).toNatClampNeg = 97 then x else y) = if c (q + l - 2) = 97 then x else y from fun x y => sx 2 97 (by omega) (by omega) (by omega) x y]
      rw [show ∀ x y : Option (Int32 × St), nd_ck (sI S 10 - 1) 32772 (if sR S 2 (sI S 10 - 1).toNatClampNeg = 113 then x else y) = if c (q + l - 1) = 113 then x else y from fun x y => sx 1 113 (by omega) (by omega) (by omega) x y]
      simp only [show ∀ x y : Option (Int32 × St), nd_ck (sI S 10 - 2) 32772 (if sR S 2 (sI S 10 - 2).toNatClampNeg = 114 then x else y) = if c (q + l - 2) = 114 then x else y from fun x y => sx 2 114 (by omega) (by omega) (by omega) x y, show ∀ x y : Option (Int32 × St), nd_ck (sI S 10 - 1) 32772 (if sR S 2 (sI S 10 - 1).toNatClampNeg = 108 then x else y) = if c (q + l - 1) = 108 then x else y from fun x y => sx 1 108 (by omega) (by omega) (by omega) x y, show ∀ x y : Option (Int32 × St), nd_ck (sI S 10 - 3) 32772 (if sR S 2 (sI S 10 - 3).toNatClampNeg = 46 then x else y) = if c (q + l - 3) = 46 then x else y from fun x y => sx 3 46 (by omega) (by omega) (by omega) x y]
      have o1 : ((1 : Int32) = 0) = False := eq_false (by decide)
      generalize c (q + l - 1) = c1
      generalize c (q + l - 2) = c2
      generalize c (q + l - 3) = c3
      by_cases a1 : c2 = 97
      · subst a1
        by_cases a2 : c1 = 113
        · subst a2
          by_cases a3 : c3 = 46
          · simp [o1, y3, a3, nI]
          · simp [o1, y3, a3, nI]
        · by_cases a3 : c3 = 46
          · simp [o1, y3, a3, a2, nI]
          · simp [o1, y3, a3, a2, nI]
      · by_cases a4 : c2 = 114
        · subst a4
          by_cases a2 : c1 = 108
          · subst a2
            by_cases a3 : c3 = 46
            · simp [o1, y3, a3, nI]
            · simp [o1, y3, a3, nI]
          · by_cases a3 : c3 = 46
            · simp [o1, y3, a3, a2, nI]
            · simp [o1, y3, a3, a2, nI]
        · by_cases a3 : c3 = 46
          · simp [o1, y3, a3, a1, a4, nI]
          · simp [o1, y3, a3, a1, a4, nI]
  unfold df_X13_suffix df_X13_suffix_0 sfO
  rw [h9, h10, show nI (q + l) - nI q = nI l from (pk_sub (by omega)).trans (congrArg nI (by omega)), nb_let]
  rw [← h10]
  by_cases y : l ≤ 5
  · rw [if_pos (show nI l ≤ (5 : Int32) from (le 5 (by omega)).mpr y), if_neg (by omega), z97]
  · rw [if_neg (show ¬ nI l ≤ (5 : Int32) from fun z => y ((le 5 (by omega)).mp z)), z97]
    rw [show ∀ x y : Option (Int32 × St), nd_ck (sI S 10 - 5) 32772 (if sR S 2 (sI S 10 - 5).toNatClampNeg = 46 then x else y) = if c (q + l - 5) = 46 then x else y from fun x y => sx 5 46 (by omega) (by omega) (by omega) x y]
    rw [show ∀ x y : Option (Int32 × St), nd_ck (sI S 10 - 4) 32772 (if sR S 2 (sI S 10 - 4).toNatClampNeg = 97 then x else y) = if c (q + l - 4) = 97 then x else y from fun x y => sx 4 97 (by omega) (by omega) (by omega) x y]
    rw [show ∀ x y : Option (Int32 × St), nd_ck (sI S 10 - 3) 32772 (if sR S 2 (sI S 10 - 3).toNatClampNeg = 113 then x else y) = if c (q + l - 3) = 113 then x else y from fun x y => sx 3 113 (by omega) (by omega) (by omega) x y]
    rw [show ∀ x y : Option (Int32 × St), nd_ck (sI S 10 - 2) 32772 (if sR S 2 (sI S 10 - 2).toNatClampNeg = 114 then x else y) = if c (q + l - 2) = 114 then x else y from fun x y => sx 2 114 (by omega) (by omega) (by omega) x y]
    rw [show ∀ x y : Option (Int32 × St), nd_ck (sI S 10 - 1) 32772 (if sR S 2 (sI S 10 - 1).toNatClampNeg = 108 then x else y) = if c (q + l - 1) = 108 then x else y from fun x y => sx 1 108 (by omega) (by omega) (by omega) x y]
    have y5 : 5 < l := by omega
    by_cases a5 : c (q + l - 5) = 46
    · by_cases a4 : c (q + l - 4) = 97
      · by_cases a3 : c (q + l - 3) = 113
        · by_cases a2 : c (q + l - 2) = 114
          · by_cases a1 : c (q + l - 1) = 108
            · rw [if_pos a5, if_pos a4, if_pos a3, if_pos a2, if_pos a1, if_pos ⟨y5, a5, a4, a3, a2, a1⟩]; rfl
            · rw [if_pos a5, if_pos a4, if_pos a3, if_pos a2, if_neg a1, if_neg (fun z => a1 z.2.2.2.2.2)]
          · rw [if_pos a5, if_pos a4, if_pos a3, if_neg a2, if_neg (fun z => a2 z.2.2.2.2.1)]
        · rw [if_pos a5, if_pos a4, if_neg a3, if_neg (fun z => a3 z.2.2.2.1)]
      · rw [if_pos a5, if_neg a4, if_neg (fun z => a4 z.2.2.1)]
    · rw [if_neg a5, if_neg (fun z => a5 z.2.1)]
/-- the same in the class -/
theorem wq_3 {k q x y z : Nat} {c : Nat → Nat} {R : Nat → Int32} (h127 : ∀ i : Nat, c i < 127) (hR : ∀ i : Nat, i < 3 → R (q + i) = nI (c (q + i))) (hk : ks_n k = 3) (b0 : ks_b k 0 = nI x) (b1 : ks_b k 1 = nI y) (b2 : ks_b k 2 = nI z) (hx : x < 127) (hy : y < 127) (hz : z < 127) : wq k q 3 R ↔ c q = x ∧ c (q + 1) = y ∧ c (q + 2) = z := by
  have q0 := h127 q
  have q1 := h127 (q + 1)
  have q2 := h127 (q + 2)
  constructor
  · intro h
    have e0 := (hR 0 (by omega)).symm.trans ((h.2 0 (by omega)).trans b0)
    have e1 := (hR 1 (by omega)).symm.trans ((h.2 1 (by omega)).trans b1)
    have e2 := (hR 2 (by omega)).symm.trans ((h.2 2 (by omega)).trans b2)
    rw [Nat.add_zero, nI_eq (by omega) (by omega)] at e0
    rw [nI_eq (by omega) (by omega)] at e1 e2
    exact ⟨e0, e1, e2⟩
  · intro h
    refine ⟨hk, fun i hi => ?_⟩
    rw [hR i hi]
    rcases (show i = 0 ∨ i = 1 ∨ i = 2 by omega) with w | w | w <;> subst w
    · rw [b0, Nat.add_zero, h.1]
    · rw [b1, h.2.1]
    · rw [b2, h.2.2]
theorem wq_5 {q : Nat} {c : Nat → Nat} {R : Nat → Int32} (h127 : ∀ i : Nat, c i < 127) (hR : ∀ i : Nat, i < 5 → R (q + i) = nI (c (q + i))) : wq 6 q 5 R ↔ c q = 46 ∧ c (q + 1) = 97 ∧ c (q + 2) = 113 ∧ c (q + 3) = 114 ∧ c (q + 4) = 108 := by
  have q0 := h127 q
  have q1 := h127 (q + 1)
  have q2 := h127 (q + 2)
  have q3 := h127 (q + 3)
  have q4 := h127 (q + 4)
  constructor
  · intro h
    have e0 := (hR 0 (by omega)).symm.trans ((h.2 0 (by omega)).trans (show ks_b 6 0 = nI 46 from rfl))
    have e1 := (hR 1 (by omega)).symm.trans ((h.2 1 (by omega)).trans (show ks_b 6 1 = nI 97 from rfl))
    have e2 := (hR 2 (by omega)).symm.trans ((h.2 2 (by omega)).trans (show ks_b 6 2 = nI 113 from rfl))
    have e3 := (hR 3 (by omega)).symm.trans ((h.2 3 (by omega)).trans (show ks_b 6 3 = nI 114 from rfl))
    have e4 := (hR 4 (by omega)).symm.trans ((h.2 4 (by omega)).trans (show ks_b 6 4 = nI 108 from rfl))
    rw [Nat.add_zero, nI_eq (by omega) (by omega)] at e0
    rw [nI_eq (by omega) (by omega)] at e1 e2 e3 e4
    exact ⟨e0, e1, e2, e3, e4⟩
  · intro h
    refine ⟨rfl, fun i hi => ?_⟩
    rw [hR i hi]
    rcases (show i = 0 ∨ i = 1 ∨ i = 2 ∨ i = 3 ∨ i = 4 by omega) with w | w | w | w | w <;> subst w
    · rw [Nat.add_zero, h.1]; rfl
    · rw [h.2.1]; rfl
    · rw [h.2.2.1]; rfl
    · rw [h.2.2.2.1]; rfl
    · rw [h.2.2.2.2]; rfl
theorem od_e (c : Nat → Nat) (z l : Nat) : odO c z l = if 5 < l ∧ c (z - 5) = 46 ∧ c (z - 4) = 97 ∧ c (z - 3) = 113 ∧ c (z - 2) = 114 ∧ c (z - 1) = 108 then 100663296 else if s3O c z l = 3 then (if c (z - 1) = 113 then 67108864 else 33554432) else 0 := by
  have s3 : s3O c z l = 3 ∨ s3O c z l = 0 := by
    unfold s3O
    split
    · exact Or.inl rfl
    · exact Or.inr rfl
  unfold odO
  by_cases y : 5 < l ∧ c (z - 5) = 46 ∧ c (z - 4) = 97 ∧ c (z - 3) = 113 ∧ c (z - 2) = 114 ∧ c (z - 1) = 108
  · rw [show sfO c z l = 5 from if_pos y, if_pos rfl, if_pos y]
  · have e : sfO c z l = s3O c z l := if_neg y
    have n5 : ¬ s3O c z l = 5 := by omega
    rw [e, if_neg n5, if_neg y]
theorem ord_C (n : Nat) {B : St} {c : Nat → Nat} {q l : Nat} (hn : 100 < n) (h127 : ∀ i : Nat, c i < 127) (hl : q + l ≤ 32768) (hS : ∀ i : Nat, i < l → sR B 0 (q + i) = nI (c (q + i))) : df_X7_order n (nI q) (nI l) B = some (odO c (q + l) l, B) := by
  have le : ∀ k : Nat, k < 100 → (nI l ≤ nI k ↔ l ≤ k) := fun k hk => nI_leI (by omega) (by omega)
  have z50 : 3 < l → ¬ (c (q + l - 3) = 46 ∧ c (q + l - 2) = 97 ∧ c (q + l - 1) = 113) → df_X7_order_50 n (nI q) (nI l) B = some (if c (q + l - 3) = 46 ∧ c (q + l - 2) = 114 ∧ c (q + l - 1) = 108 then 33554432 else 0, B) := fun y _ => by
    unfold df_X7_order_50 df_X7_order_77 df_X7_order_78
    have w := wq_3 (k := 5) (q := q + l - 3) (x := 46) (y := 114) (z := 108) (R := sR B 0) h127 (fun i hi => by rw [show q + l - 3 + i = q + (l - 3 + i) by omega]; exact hS _ (by omega)) rfl rfl rfl rfl (by omega) (by omega) (by omega)
    rw [show q + l - 3 + 1 = q + l - 2 by omega, show q + l - 3 + 2 = q + l - 1 by omega] at w
    rw [if_neg (show ¬ nI l ≤ (3 : Int32) from fun z => absurd ((le 3 (by omega)).mp z) (by omega)), nI_add, show nI (q + l) - (3 : Int32) = nI (q + l - 3) from pk_sub (b := 3) (by omega)]
    by_cases u : wq 5 (q + l - 3) 3 (sR B 0)
    · rw [show df_X7_stands n 5 (nI (q + l - 3)) 3 B = some (nI 1, B) from sn_y n 5 (q + l - 3) 3 (by omega) (by omega) (by omega) u, nb_b2, if_neg (by decide), if_pos (w.mp u)]
    · rw [show df_X7_stands n 5 (nI (q + l - 3)) 3 B = some (nI 0, B) from sn_n n 5 (q + l - 3) 3 (by omega) (by omega) (by omega) u, nb_b2, if_pos (show nI 0 = (0 : Int32) from rfl), if_neg (fun z => u (w.mpr z))]
  have z25 : df_X7_order_25 n (nI q) (nI l) B = some (if s3O c (q + l) l = 3 then (if c (q + l - 1) = 113 then 67108864 else 33554432) else 0, B) := by
    unfold df_X7_order_25
    by_cases y : l ≤ 3
    · rw [if_pos (show nI l ≤ (3 : Int32) from (le 3 (by omega)).mpr y)]
      unfold df_X7_order_50 df_X7_order_77 df_X7_order_78 s3O
      rw [if_pos (show nI l ≤ (3 : Int32) from (le 3 (by omega)).mpr y), if_neg (show ¬ (3 < l ∧ _) from fun z => absurd z.1 (by omega)), if_neg (by decide)]
    · rw [if_neg (show ¬ nI l ≤ (3 : Int32) from fun z => absurd ((le 3 (by omega)).mp z) y)]
      have w := wq_3 (k := 4) (q := q + l - 3) (x := 46) (y := 97) (z := 113) (R := sR B 0) h127 (fun i hi => by rw [show q + l - 3 + i = q + (l - 3 + i) by omega]; exact hS _ (by omega)) rfl rfl rfl rfl (by omega) (by omega) (by omega)
      rw [show q + l - 3 + 1 = q + l - 2 by omega, show q + l - 3 + 2 = q + l - 1 by omega] at w
      rw [nI_add, show nI (q + l) - (3 : Int32) = nI (q + l - 3) from pk_sub (b := 3) (by omega)]
      by_cases u : wq 4 (q + l - 3) 3 (sR B 0)
      · obtain ⟨u1, u2, u3⟩ := w.mp u
        rw [show df_X7_stands n 4 (nI (q + l - 3)) 3 B = some (nI 1, B) from sn_y n 4 (q + l - 3) 3 (by omega) (by omega) (by omega) u, nb_b2, if_neg (by decide), show s3O c (q + l) l = 3 from if_pos ⟨by omega, u1, Or.inl ⟨u2, u3⟩⟩, if_pos rfl, if_pos u3]
      · have nu := fun z => u (w.mpr z)
        rw [show df_X7_stands n 4 (nI (q + l - 3)) 3 B = some (nI 0, B) from sn_n n 4 (q + l - 3) 3 (by omega) (by omega) (by omega) u, nb_b2, if_pos (show nI 0 = (0 : Int32) from rfl), z50 (by omega) nu]
        by_cases v : c (q + l - 3) = 46 ∧ c (q + l - 2) = 114 ∧ c (q + l - 1) = 108
        · rw [if_pos v, show s3O c (q + l) l = 3 from if_pos ⟨by omega, v.1, Or.inr v.2⟩, if_pos rfl, if_neg (by omega)]
        · have s0 : s3O c (q + l) l = 0 := if_neg (fun z => by
            rcases z.2.2 with k | k
            · exact nu ⟨z.2.1, k⟩
            · exact v ⟨z.2.1, k⟩)
          rw [if_neg v, s0, if_neg (by decide)]
  have e0 : df_X7_order n (nI q) (nI l) B = some (if 5 < l ∧ c (q + l - 5) = 46 ∧ c (q + l - 4) = 97 ∧ c (q + l - 3) = 113 ∧ c (q + l - 2) = 114 ∧ c (q + l - 1) = 108 then 100663296 else if s3O c (q + l) l = 3 then (if c (q + l - 1) = 113 then 67108864 else 33554432) else 0, B) := by
    unfold df_X7_order df_X7_order_0
    by_cases y : l ≤ 5
    · rw [if_pos (show nI l ≤ (5 : Int32) from (le 5 (by omega)).mpr y), z25, if_neg (show ¬ (5 < l ∧ _) from fun z => absurd z.1 (by omega))]
    · rw [if_neg (show ¬ nI l ≤ (5 : Int32) from fun z => absurd ((le 5 (by omega)).mp z) y)]
      have w := wq_5 (q := q + l - 5) (R := sR B 0) h127 (fun i hi => by rw [show q + l - 5 + i = q + (l - 5 + i) by omega]; exact hS _ (by omega))
      rw [show q + l - 5 + 1 = q + l - 4 by omega, show q + l - 5 + 2 = q + l - 3 by omega, show q + l - 5 + 3 = q + l - 2 by omega, show q + l - 5 + 4 = q + l - 1 by omega] at w
      rw [nI_add, show nI (q + l) - (5 : Int32) = nI (q + l - 5) from pk_sub (b := 5) (by omega)]
      by_cases u : wq 6 (q + l - 5) 5 (sR B 0)
      · rw [show df_X7_stands n 6 (nI (q + l - 5)) 5 B = some (nI 1, B) from sn_y n 6 (q + l - 5) 5 (by omega) (by omega) (by omega) u, nb_b2, if_neg (by decide), if_pos ⟨by omega, w.mp u⟩]
      · rw [show df_X7_stands n 6 (nI (q + l - 5)) 5 B = some (nI 0, B) from sn_n n 6 (q + l - 5) 5 (by omega) (by omega) (by omega) u, nb_b2, if_pos (show nI 0 = (0 : Int32) from rfl), z25, if_neg (show ¬ (5 < l ∧ c (q + l - 5) = 46 ∧ c (q + l - 4) = 97 ∧ c (q + l - 3) = 113 ∧ c (q + l - 2) = 114 ∧ c (q + l - 1) = 108) from fun z => u (w.mpr z.2))]
  rw [e0, od_e]
