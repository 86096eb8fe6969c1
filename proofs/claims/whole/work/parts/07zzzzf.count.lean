theorem on_add (a b : Nat) : Int64.ofNat a + Int64.ofNat b = Int64.ofNat (a + b) := (Int64.ofNat_add a b).symm
theorem on_sub {a b : Nat} (h : b ≤ a) : Int64.ofNat a - Int64.ofNat b = Int64.ofNat (a - b) := by
  rw [show Int64.ofNat a = Int64.ofNat (a - b) + Int64.ofNat b by rw [on_add, show a - b + b = a by omega], Int64.add_sub_cancel]
theorem nI_64 {a : Nat} (h : a < 2 ^ 31) : (nI a).toInt64 = Int64.ofNat a := by
  apply Int64.toInt_inj.mp
  rw [to_64, nI_toInt h, nm_lt (by omega)]
/-- a byte that was shown, in both -/
theorem sg_shown (n : Nat) {B : Nat} {M X : St × St} (h : rM B M X) (hB : B < 2 ^ 31) {i : Nat} (hi : i < 2 ^ 32) : ∃ r : Int32, df_X10_shownByte n (nI i) M.2 = some (r, M.2) ∧ df_X16_shownByte n (nI i) X = some (r, X) := by
  obtain ⟨m1, m2, m3, m4, m5, m6, m7⟩ := h
  obtain ⟨_, _, _, _, sa, S, hS, sn, hb⟩ := m7
  have eS : sL M.2 0 = Int64.ofNat S := sa.trans sn
  have sT : (Int64.ofNat S).toInt = S := nm_lt (by omega)
  have t48 : (2048 : Int64).toInt = 2048 := by decide
  have kp : (if (2048 : Int64) < Int64.ofNat S then 2048 else Int64.ofNat S) = Int64.ofNat (if S ≤ 2048 then S else 2048) := by
    by_cases c : S ≤ 2048
    · rw [if_pos c, if_neg (fun z => by rw [Int64.lt_iff_toInt_lt, sT, t48] at z; omega)]
    · rw [if_neg c, if_pos (by rw [Int64.lt_iff_toInt_lt, sT, t48]; omega)]
      rfl
  have hC : df_X10_shownByte n (nI i) M.2 = if nI i < 0 then some (-1, M.2) else if lg_cmp (nI i).toInt64 (Int64.ofNat (if S ≤ 2048 then S else 2048)) < 0 then nd_ck ((Int64.ofNat S - Int64.ofNat (if S ≤ 2048 then S else 2048) + (nI i).toInt64 &&& 2047).toInt32) 2048 (some (sR M.2 8 (Int32.toNatClampNeg ((Int64.ofNat S - Int64.ofNat (if S ≤ 2048 then S else 2048) + (nI i).toInt64 &&& 2047).toInt32)) &&& 255, M.2)) else some (-1, M.2) := by
    unfold df_X10_shownByte df_X10_shownByte_0 df_X10_shownByte_22
    rw [eS, kp, nb_let]
  have hR : df_X16_shownByte n (nI i) X = if nI i < 0 then some (-1, X) else if lg_cmp (nI i).toInt64 (Int64.ofNat (if S ≤ 2048 then S else 2048)) < 0 then nd_ck (nI i) 2048 (some (sR X.1 32 (Int32.toNatClampNeg (nI i)), X)) else some (-1, X) := by
    unfold df_X16_shownByte df_X16_shownByte_0 df_X16_shownByte_21 df_X16_shownByte_33 df_X16_shownByte_43
    have sn : sL X.1 2 = Int64.ofNat S := sn
    rw [sn]
    by_cases c : 2048 ≤ S
    · rw [if_pos ((lcB _ _).mpr (by rw [sT, t48]; omega))]
      by_cases d : S ≤ 2048
      · have : S = 2048 := by omega
        subst this
        rw [if_pos d]
        rfl
      · rw [if_neg d]
        rfl
    · rw [if_neg (fun z => by have z := (lcB _ _).mp z; rw [sT, t48] at z; omega), if_pos (show S ≤ 2048 by omega)]
  rw [hC, hR]
  by_cases a : nI i < (0 : Int32)
  · rw [if_pos a, if_pos a]
    exact ⟨_, rfl, rfl⟩
  · rw [if_neg a, if_neg a]
    have i31 : i < 2 ^ 31 := by
      by_cases y : i < 2 ^ 31
      · exact y
      · exact absurd ((lz_0 hi).mpr (by omega)) a
    rw [nI_64 i31]
    have kT : (Int64.ofNat (if S ≤ 2048 then S else 2048)).toInt = ((if S ≤ 2048 then S else 2048 : Nat) : Int) := nm_lt (by by_cases c : S ≤ 2048; rw [if_pos c]; omega; rw [if_neg c]; omega)
    by_cases b : i < (if S ≤ 2048 then S else 2048)
    · have lt : lg_cmp (Int64.ofNat i) (Int64.ofNat (if S ≤ 2048 then S else 2048)) < 0 := (lcA _ _).mpr (by rw [kT, nm_lt (by omega)]; omega)
      rw [if_pos lt, if_pos lt]
      have iS : i < S ∧ i < 2048 := by
        by_cases c : S ≤ 2048
        · rw [if_pos c] at b; omega
        · rw [if_neg c] at b; omega
      have ix : (Int64.ofNat S - Int64.ofNat (if S ≤ 2048 then S else 2048) + Int64.ofNat i &&& 2047).toInt32 = nI ((if S ≤ 2048 then i else S + i) % 2048) := by
        by_cases c : S ≤ 2048
        · rw [if_pos c, if_pos c, on_sub (Nat.le_refl S), on_add, a2047, show S - S + i = i by omega, t32 (by omega)]
        · rw [if_neg c, if_neg c, on_sub (by omega), on_add, a2047, show (S - 2048 + i) % 2048 = (S + i) % 2048 by omega, t32 (by omega)]
      have hb := hb i iS.1 iS.2
      refine ⟨sR X.1 32 i, ?_, ?_⟩
      · rw [ix, nm_ck (by omega) (by omega), nI_clamp (by omega), show sR M.2 8 ((if S ≤ 2048 then i else S + i) % 2048) &&& 255 = sR X.1 32 i from b8_255 hb]
      · rw [nm_ck iS.2 (by omega), nI_clamp (by omega)]
    · have lt : ¬ lg_cmp (Int64.ofNat i) (Int64.ofNat (if S ≤ 2048 then S else 2048)) < 0 := fun z => by
        have z := (lcA _ _).mp z
        rw [kT, nm_lt (by omega)] at z
        omega
      rw [if_neg lt, if_neg lt]
      exact ⟨_, rfl, rfl⟩
/-- shown -/
theorem jc_shown (n T L : Nat) (hn : 70000 < n) (i : Int32) (σ : S12) (τ : S19) (h : jA n (tl σ) τ) : ∃ (v : Int32) (τ' : S19), df_X12_shown n T L i σ = some (v, σ) ∧ df_X19_shown n i τ = some (v, τ') ∧ jA n (tl σ) τ' ∧ kR τ τ' := by
  have n1 : ¬ nI 1 = (0 : Int32) := by decide
  have n0 : nI 0 = (0 : Int32) := rfl
  obtain ⟨I, hI, rfl⟩ := nI_ex i
  rcases jc_shows n hn h with ⟨h1, h2, h3⟩ | ⟨vn, Q, V, N, T', e, c, lo, τ', h1, h2, h3, h4, h5, h6, h7, h8⟩
  · refine ⟨-1, (pI τ.1 0 0, τ.2), ?_, ?_, jA_0 h 0, kR_0 τ 0⟩
    · unfold df_X12_shown df_X12_shown_0 df_X12_shown_28
      rw [if_pos (show sI σ.2.2.2.2.1 0 = 0 from h1)]
    · unfold df_X19_shown df_X19_shown_0 df_X19_shown_19
      rw [h2, nb_b2, if_pos n0]
  · have hce : c ≤ e := h3.1.2.2.2.2.1
    have he : e ≤ 60000 := h3.2.1.2.2.2.2.2
    obtain ⟨r, e1, e2⟩ := sg_shown n h5 (by omega) hI
    have e1 : df_X10_shownByte n (nI I) σ.2.2.2.2.2.1.2.2.2 = some (r, σ.2.2.2.2.2.1.2.2.2) := e1
    refine ⟨r, τ', ?_, ?_, h8, h7⟩
    · unfold df_X12_shown df_X12_shown_0 df_X12_shown_28
      rw [if_neg (show ¬ sI σ.2.2.2.2.1 0 = 0 by rw [show sI σ.2.2.2.2.1 0 = nI 1 from h1]; exact n1), e1, nb_b2, nb_let]
    · unfold df_X19_shown df_X19_shown_0 df_X19_shown_19
      rw [h2, nb_b2, if_neg n1, e2, nb_b2, nb_let]
/-- three counts of the machine -/
theorem sg_procs (n : Nat) (hn : 1024 < n) {B : Nat} {M X : St × St} (h : rM B M X) : ∃ c : Nat, df_X6_processesThere n M = some (nI c, M) ∧ df_X16_count n (nI 11) X = some ((nI c).toInt64, X) := by
  refine ⟨cN (fun q => !decide (sR X.1 1 q = nI 0)) 16, ?_, ?_⟩
  · obtain ⟨m, e⟩ := nm_lq (fun g k => df_X6_processesThere_4 n g (nI (cN (fun q => !decide (sR X.1 1 q = nI 0)) k)) (nI k) M) 16 n (by omega) (fun k m hk => by
      obtain ⟨t, c, w, b, e, t4, _, _, _, _, e1, e2, _⟩ := h.2.2.1 k hk
      show dF_X6_processesThere_4 n (df_X6_processesThere_4 n m) _ (nI k) M = _
      generalize df_X6_processesThere_4 n m = G
      have st : df_X6_status n (nI k) M = some (nI t, M) := by
        unfold df_X6_status df_X6_status_0
        rw [show nI k * 7 + 0 = nI (k * 7) by rw [show nI k * 7 = nI (k * 7) from pk_mul ..]; exact nI_add (k * 7) 0, nm_ck (by omega) (by omega), nI_clamp (by omega), e1]
      unfold dF_X6_processesThere_4 df_X6_processesThere_21
      rw [if_neg (show ¬ (16 : Int32) ≤ nI k from fun z => by have z : nI 16 ≤ nI k := z; rw [nI_leI (by omega) (by omega)] at z; omega), st, nb_b2, nb_let, nb_let, nb_let, show nI k + Int32.ofInt 1 = nI (k + 1) from nI_add .., cN_s, e2]
      by_cases c : t = 0
      · rw [if_pos (show nI t = 0 by rw [c]; rfl), decide_eq_true (show nI t = nI 0 by rw [c])]
        rfl
      · have d : ¬ nI t = nI 0 := fun z => by rw [nI_eq (by omega) (by omega)] at z; exact c z
        rw [if_neg (show ¬ nI t = 0 from d), decide_eq_false d, show nI (cN (fun q => !decide (sR X.1 1 q = nI 0)) k) + Int32.ofInt 1 = nI (cN (fun q => !decide (sR X.1 1 q = nI 0)) k + 1) from nI_add ..]
        rfl)
    refine Eq.trans e ?_
    show dF_X6_processesThere_4 n (df_X6_processesThere_4 n m) _ (nI 16) M = _
    unfold dF_X6_processesThere_4
    rw [if_pos (show (16 : Int32) ≤ nI 16 by decide)]
  · obtain ⟨m, e⟩ := nm_lq (fun g k => df_X16_count_4 n g (nI 11) (nI (cN (fun q => !decide (sR X.1 1 q = nI 0)) k)) (nI k) X) 16 n (by omega) (fun k m hk => by
      show dF_X16_count_4 n (df_X16_count_4 n m) (nI 11) _ (nI k) X = _
      generalize df_X16_count_4 n m = G
      unfold dF_X16_count_4 df_X16_count_32
      rw [if_neg (show ¬ (16 : Int32) ≤ nI k from fun z => by have z : nI 16 ≤ nI k := z; rw [nI_leI (by omega) (by omega)] at z; omega), if_pos (show nI 11 = (11 : Int32) from rfl), nm_ck hk (by omega), nI_clamp (by omega), nb_let, nb_let, show nI k + Int32.ofInt 1 = nI (k + 1) from nI_add .., cN_s]
      by_cases c : sR X.1 1 k = nI 0
      · rw [if_pos (show sR X.1 1 k = 0 from c), decide_eq_true c]
        rfl
      · rw [if_neg (show ¬ sR X.1 1 k = 0 from c), decide_eq_false c, show nI (cN (fun q => !decide (sR X.1 1 q = nI 0)) k) + 1 = nI (cN (fun q => !decide (sR X.1 1 q = nI 0)) k + 1) from nI_add ..]
        rfl)
    refine Eq.trans e ?_
    obtain ⟨n', rfl⟩ : ∃ n' : Nat, n = n' + 1 := ⟨n - 1, by omega⟩
    show dF_X16_count_4 (n' + 1) (df_X16_count_4 (n' + 1) m) (nI 11) _ (nI 16) X = _
    unfold dF_X16_count_4
    rw [if_pos (show (16 : Int32) ≤ nI 16 by decide)]
    unfold df_X16_count_39
    show dF_X16_count_41 (n' + 1) (df_X16_count_41 (n' + 1) n') (nI 11) _ 0 X = _
    unfold dF_X16_count_41
    rw [if_neg (show ¬ (16 : Int32) ≤ 0 by decide), if_neg (show ¬ nI 11 = (12 : Int32) by decide)]
    rfl
theorem sg_ct85 (n : Nat) (hn : 1024 < n) {w : Nat} (hw : w < 16) (h1 : ¬ w = 11) (h2 : ¬ w = 12) (X : St × St) : df_X16_count n (nI w) X = df_X16_count_85 n (nI w) 0 X := by
  obtain ⟨n', rfl⟩ : ∃ n' : Nat, n = n' + 1 := ⟨n - 1, by omega⟩
  show dF_X16_count_4 (n' + 1) (df_X16_count_4 (n' + 1) n') (nI w) 0 0 X = _
  unfold dF_X16_count_4
  rw [if_neg (show ¬ (16 : Int32) ≤ 0 by decide), if_neg (show ¬ nI w = (11 : Int32) from fun z => by have z : nI w = nI 11 := z; rw [nI_eq (by omega) (by omega)] at z; exact h1 z)]
  unfold df_X16_count_39
  show dF_X16_count_41 (n' + 1) (df_X16_count_41 (n' + 1) n') (nI w) 0 0 X = _
  unfold dF_X16_count_41
  rw [if_neg (show ¬ (16 : Int32) ≤ 0 by decide), if_neg (show ¬ nI w = (12 : Int32) from fun z => by have z : nI w = nI 12 := z; rw [nI_eq (by omega) (by omega)] at z; exact h2 z)]
theorem sg_named (n : Nat) (hn : 1024 < n) {B : Nat} {M X : St × St} (h : rM B M X) : ∃ c : Nat, df_X10_namedFiles n M.2 = some (nI c, M.2) ∧ df_X16_count n (nI 12) X = some ((nI c).toInt64, X) := by
  have nf := h.2.1.2.2.2
  refine ⟨cN (fun k => decide (sR X.1 25 k = nI 1)) 16, ?_, ?_⟩
  · obtain ⟨m, e⟩ := nm_lq (fun g k => df_X10_namedFiles_4 n g (nI (cN (fun k => decide (sR X.1 25 k = nI 1)) k)) (nI k) M.2) 16 n (by omega) (fun k m hk => by
      obtain ⟨_, a2, a3, _⟩ := nf k hk
      show dF_X10_namedFiles_4 n (df_X10_namedFiles_4 n m) _ (nI k) M.2 = _
      generalize df_X10_namedFiles_4 n m = G
      unfold dF_X10_namedFiles_4
      rw [if_neg (show ¬ (16 : Int32) ≤ nI k from fun z => by have z : nI 16 ≤ nI k := z; rw [nI_leI (by omega) (by omega)] at z; omega), show nI k * 3 + 2 = nI (k * 3 + 2) by rw [show nI k * 3 = nI (k * 3) from pk_mul ..]; exact nI_add .., nm_ck (by omega) (by omega), nI_clamp (by omega), a3, nb_let, nb_let, show nI k + Int32.ofInt 1 = nI (k + 1) from nI_add .., cN_s]
      rcases a2 with a2 | a2
      · have a2 : sR X.1 25 k = nI 0 := a2
        rw [decide_eq_false (show ¬ sR X.1 25 k = nI 1 by rw [a2]; decide), a2, show nI (cN (fun k => decide (sR X.1 25 k = nI 1)) k) + nI 0 = nI (cN (fun k => decide (sR X.1 25 k = nI 1)) k + 0) from nI_add ..]
        rfl
      · have a2 : sR X.1 25 k = nI 1 := a2
        rw [decide_eq_true a2, a2, show nI (cN (fun k => decide (sR X.1 25 k = nI 1)) k) + nI 1 = nI (cN (fun k => decide (sR X.1 25 k = nI 1)) k + 1) from nI_add ..]
        rfl)
    refine Eq.trans e ?_
    show dF_X10_namedFiles_4 n (df_X10_namedFiles_4 n m) _ (nI 16) M.2 = _
    unfold dF_X10_namedFiles_4
    rw [if_pos (show (16 : Int32) ≤ nI 16 by decide)]
  · obtain ⟨m, e⟩ := nm_lq (fun g k => df_X16_count_41 n g (nI 12) (nI (cN (fun k => decide (sR X.1 25 k = nI 1)) k)) (nI k) X) 16 n (by omega) (fun k m hk => by
      obtain ⟨_, a2, a3, a4⟩ := nf k hk
      show dF_X16_count_41 n (df_X16_count_41 n m) (nI 12) _ (nI k) X = _
      generalize df_X16_count_41 n m = G
      unfold dF_X16_count_41 df_X16_count_77 df_X16_count_78
      rw [if_neg (show ¬ (16 : Int32) ≤ nI k from fun z => by have z : nI 16 ≤ nI k := z; rw [nI_leI (by omega) (by omega)] at z; omega), if_pos (show nI 12 = (12 : Int32) from rfl), nm_ck hk (by omega), nI_clamp (by omega), nm_ck hk (by omega), nb_let, nb_let, show nI k + Int32.ofInt 1 = nI (k + 1) from nI_add .., cN_s]
      rcases a2 with a2 | a2
      · have a2 : sR X.1 25 k = nI 0 := a2
        rw [decide_eq_false (show ¬ sR X.1 25 k = nI 1 by rw [a2]; decide), if_pos (show sR X.1 25 k = 0 from a2)]
        by_cases c : sR X.1 24 k = 0
        · rw [if_pos c]; rfl
        · rw [if_neg c]; rfl
      · have a2 : sR X.1 25 k = nI 1 := a2
        have a4 : sR X.1 24 k = nI 1 := by rw [a4, decide_eq_true (Or.inl a2)]; rfl
        rw [decide_eq_true a2, if_neg (show ¬ sR X.1 24 k = 0 by rw [a4]; decide), if_neg (show ¬ sR X.1 25 k = 0 by rw [a2]; decide), show nI (cN (fun k => decide (sR X.1 25 k = nI 1)) k) + 1 = nI (cN (fun k => decide (sR X.1 25 k = nI 1)) k + 1) from nI_add ..]
        rfl)
    have e0 : df_X16_count n (nI 12) X = df_X16_count_41 n n (nI 12) (nI 0) (nI 0) X := by
      obtain ⟨n', rfl⟩ : ∃ n' : Nat, n = n' + 1 := ⟨n - 1, by omega⟩
      show dF_X16_count_4 (n' + 1) (df_X16_count_4 (n' + 1) n') (nI 12) 0 0 X = _
      unfold dF_X16_count_4
      rw [if_neg (show ¬ (16 : Int32) ≤ 0 by decide), if_neg (show ¬ nI 12 = (11 : Int32) by decide)]
      rfl
    refine Eq.trans e0 (Eq.trans e ?_)
    show dF_X16_count_41 n (df_X16_count_41 n m) (nI 12) _ (nI 16) X = _
    unfold dF_X16_count_41
    rw [if_pos (show (16 : Int32) ≤ nI 16 by decide)]
    rfl
theorem sg_openings (n : Nat) (hn : 1024 < n) {B : Nat} {M X : St × St} (h : rM B M X) : ∃ c : Nat, c ≤ 48 ∧ df_X10_openingsFree n M.2 = some (nI (48 - c), M.2) ∧ df_X16_openings n X = some (nI c, X) := by
  have od := h.2.1.2.1
  have ok : ∀ o : Nat, o < 48 → (sR X.1 19 o = nI 0 ∧ sR M.2 1 (o * 5) = nI 0) ∨ ∃ k : Nat, 1 ≤ k ∧ k ≤ 4 ∧ sR X.1 19 o = nI k ∧ sR M.2 1 (o * 5) = nI k := fun o ho => by
    rcases od o ho with ⟨z1, z2, _⟩ | ⟨k, t, y1, y2, _, y4, y5, _⟩
    · exact Or.inl ⟨z1, z2⟩
    · exact Or.inr ⟨k, y1, y2, y4, y5⟩
  have cl : ∀ k : Nat, cN (fun o => !decide (sR X.1 19 o = nI 0)) k ≤ k := fun k => cN_le _ _
  refine ⟨cN (fun o => !decide (sR X.1 19 o = nI 0)) 48, cl 48, ?_, ?_⟩
  · obtain ⟨m, e⟩ := nm_lq (fun g k => df_X10_openingsFree_4 n g (nI (k - cN (fun o => !decide (sR X.1 19 o = nI 0)) k)) (nI k) M.2) 48 n (by omega) (fun k m hk => by
      have ck := cl k
      show dF_X10_openingsFree_4 n (df_X10_openingsFree_4 n m) _ (nI k) M.2 = _
      generalize df_X10_openingsFree_4 n m = G
      have st : ∀ v : Int32, sR M.2 1 (k * 5) = v → df_X10_of n (nI k) 0 M.2 = some (v, M.2) := fun v e => by
        unfold df_X10_of df_X10_of_0
        rw [show nI k * 5 + 0 = nI (k * 5) by rw [show nI k * 5 = nI (k * 5) from pk_mul ..]; exact nI_add (k * 5) 0, nm_ck (by omega) (by omega), nI_clamp (by omega), e]
      unfold dF_X10_openingsFree_4 df_X10_openingsFree_22
      rw [if_neg (show ¬ (48 : Int32) ≤ nI k from fun z => by have z : nI 48 ≤ nI k := z; rw [nI_leI (by omega) (by omega)] at z; omega), cN_s]
      rcases ok k hk with ⟨a, b⟩ | ⟨kd, k1, k2, a, b⟩
      · rw [st _ b, nb_b2, if_pos (show nI 0 = (0 : Int32) from rfl), nb_let, nb_let, decide_eq_true a, show nI (k - cN (fun o => !decide (sR X.1 19 o = nI 0)) k) + Int32.ofInt 1 = nI (k - cN (fun o => !decide (sR X.1 19 o = nI 0)) k + 1) from nI_add .., show nI k + Int32.ofInt 1 = nI (k + 1) from nI_add .., show k + 1 - (cN (fun o => !decide (sR X.1 19 o = nI 0)) k + (!true).toNat) = k - cN (fun o => !decide (sR X.1 19 o = nI 0)) k + 1 by show k + 1 - (_ + 0) = _; omega]
      · have d : ¬ nI kd = nI 0 := fun z => by rw [nI_eq (by omega) (by omega)] at z; omega
        rw [st _ b, nb_b2, if_neg (show ¬ nI kd = (0 : Int32) from d), nb_let, decide_eq_false (show ¬ sR X.1 19 k = nI 0 by rw [a]; exact d), show nI k + Int32.ofInt 1 = nI (k + 1) from nI_add .., show k + 1 - (cN (fun o => !decide (sR X.1 19 o = nI 0)) k + (!false).toNat) = k - cN (fun o => !decide (sR X.1 19 o = nI 0)) k by show k + 1 - (_ + 1) = _; omega])
    refine Eq.trans e ?_
    show dF_X10_openingsFree_4 n (df_X10_openingsFree_4 n m) _ (nI 48) M.2 = _
    unfold dF_X10_openingsFree_4
    rw [if_pos (show (48 : Int32) ≤ nI 48 by decide)]
  · obtain ⟨m, e⟩ := nm_lq (fun g k => df_X16_openings_4 n g (nI (cN (fun o => !decide (sR X.1 19 o = nI 0)) k)) (nI k) X) 48 n (by omega) (fun k m hk => by
      show dF_X16_openings_4 n (df_X16_openings_4 n m) _ (nI k) X = _
      generalize df_X16_openings_4 n m = G
      unfold dF_X16_openings_4 df_X16_openings_26
      rw [if_neg (show ¬ (48 : Int32) ≤ nI k from fun z => by have z : nI 48 ≤ nI k := z; rw [nI_leI (by omega) (by omega)] at z; omega), nm_ck hk (by omega), nI_clamp (by omega), nb_let, nb_let, show nI k + Int32.ofInt 1 = nI (k + 1) from nI_add .., cN_s]
      rcases ok k hk with ⟨a, b⟩ | ⟨kd, k1, k2, a, b⟩
      · rw [a, if_pos (show nI 0 ≤ (0 : Int32) by decide), decide_eq_true rfl]
        rfl
      · have d : ¬ nI kd = nI 0 := fun z => by rw [nI_eq (by omega) (by omega)] at z; omega
        rw [a, if_neg (show ¬ nI kd ≤ (0 : Int32) from fun z => by have z : nI kd ≤ nI 0 := z; rw [nI_leI (by omega) (by omega)] at z; omega), decide_eq_false d, show nI (cN (fun o => !decide (sR X.1 19 o = nI 0)) k) + 1 = nI (cN (fun o => !decide (sR X.1 19 o = nI 0)) k + 1) from nI_add ..]
        rfl)
    refine Eq.trans e ?_
    show dF_X16_openings_4 n (df_X16_openings_4 n m) _ (nI 48) X = _
    unfold dF_X16_openings_4
    rw [if_pos (show (48 : Int32) ≤ nI 48 by decide)]
/-- what the machine counts, in both -/
theorem sg_counted (n : Nat) (hn : 1024 < n) {B : Nat} {M X : St × St} (h : rM B M X) {w : Nat} (h6 : 6 ≤ w) (h14 : w ≤ 14) : ∃ r : Int64, df_X6_counted n (nI w) M = some (r, M) ∧ df_X16_count n (nI w) X = some (r, X) := by
  have hs : w = 6 ∨ w = 7 ∨ w = 8 ∨ w = 9 ∨ w = 10 ∨ w = 11 ∨ w = 12 ∨ w = 13 ∨ w = 14 := by omega
  obtain ⟨p1, p2, p3⟩ := sg_procs n hn h
  obtain ⟨f1, f2, f3⟩ := sg_named n hn h
  obtain ⟨o1, o2, o3, o4⟩ := sg_openings n hn h
  obtain ⟨m1, m2, m3, m4, m5, m6, m7⟩ := h
  rcases hs with rfl | rfl | rfl | rfl | rfl | rfl | rfl | rfl | rfl
  · rw [sg_ct85 n hn (by omega) (by omega) (by omega)]
    exact ⟨sL M.1 0, rfl, by rw [m5.2.2.2.2.2.2.2.2.2.1]; rfl⟩
  · rw [sg_ct85 n hn (by omega) (by omega) (by omega)]
    obtain ⟨⟨k, k1, k2, k3, _⟩, _⟩ := m6
    refine ⟨(nI k).toInt64, ?_, ?_⟩
    · rw [← k2]; rfl
    · rw [← k3]; rfl
  · rw [sg_ct85 n hn (by omega) (by omega) (by omega)]
    exact ⟨sL M.2 0, rfl, by rw [m7.2.2.2.2.1]; rfl⟩
  · rw [sg_ct85 n hn (by omega) (by omega) (by omega)]
    obtain ⟨Ty, hT, t1, t2, t3⟩ := m7.2.2.2.1
    refine ⟨(nI Ty).toInt64, ?_, ?_⟩
    · rw [← t1]; rfl
    · rw [← t2]; rfl
  · rw [sg_ct85 n hn (by omega) (by omega) (by omega)]
    obtain ⟨_, _, _, k1, k2⟩ := m1
    refine ⟨(sI M.1 0).toInt64, rfl, ?_⟩
    rw [k1, ← k2]
    rfl
  · refine ⟨(nI p1).toInt64, ?_, p3⟩
    unfold df_X6_counted df_X6_counted_0
    rw [if_neg (show ¬ nI 11 = (6 : Int32) by decide), if_neg (show ¬ nI 11 = (7 : Int32) by decide), if_neg (show ¬ nI 11 = (8 : Int32) by decide), if_neg (show ¬ nI 11 = (9 : Int32) by decide), if_neg (show ¬ nI 11 = (10 : Int32) by decide), if_pos (show nI 11 = (11 : Int32) from rfl), p2, nb_b2]
  · refine ⟨(nI f1).toInt64, ?_, f3⟩
    unfold df_X6_counted df_X6_counted_0
    rw [if_neg (show ¬ nI 12 = (6 : Int32) by decide), if_neg (show ¬ nI 12 = (7 : Int32) by decide), if_neg (show ¬ nI 12 = (8 : Int32) by decide), if_neg (show ¬ nI 12 = (9 : Int32) by decide), if_neg (show ¬ nI 12 = (10 : Int32) by decide), if_neg (show ¬ nI 12 = (11 : Int32) by decide), if_pos (show nI 12 = (12 : Int32) from rfl), f2, nb_b2, nb_let]
  · rw [sg_ct85 n hn (by omega) (by omega) (by omega)]
    refine ⟨(nI o1).toInt64, ?_, ?_⟩
    · unfold df_X6_counted df_X6_counted_0
      rw [if_neg (show ¬ nI 13 = (6 : Int32) by decide), if_neg (show ¬ nI 13 = (7 : Int32) by decide), if_neg (show ¬ nI 13 = (8 : Int32) by decide), if_neg (show ¬ nI 13 = (9 : Int32) by decide), if_neg (show ¬ nI 13 = (10 : Int32) by decide), if_neg (show ¬ nI 13 = (11 : Int32) by decide), if_neg (show ¬ nI 13 = (12 : Int32) by decide), if_pos (show nI 13 = (13 : Int32) from rfl), o3, nb_b2, nb_let, show (48 : Int32) - nI (48 - o1) = nI o1 from (pk_sub (show 48 - o1 ≤ 48 by omega)).trans (by rw [show 48 - (48 - o1) = o1 by omega])]
    · unfold df_X16_count_85
      rw [if_neg (show ¬ nI 13 = (2 : Int32) by decide), if_neg (show ¬ nI 13 = (3 : Int32) by decide), if_neg (show ¬ nI 13 = (4 : Int32) by decide), if_neg (show ¬ nI 13 = (5 : Int32) by decide), if_neg (show ¬ nI 13 = (6 : Int32) by decide), if_neg (show ¬ nI 13 = (7 : Int32) by decide), if_neg (show ¬ nI 13 = (8 : Int32) by decide), if_neg (show ¬ nI 13 = (9 : Int32) by decide), if_neg (show ¬ nI 13 = (10 : Int32) by decide), if_neg (show ¬ nI 13 = (11 : Int32) by decide), if_neg (show ¬ nI 13 = (12 : Int32) by decide), if_pos (show nI 13 = (13 : Int32) from rfl), o4, nb_b2]
  · rw [sg_ct85 n hn (by omega) (by omega) (by omega)]
    exact ⟨sL M.1 1, rfl, by rw [m5.2.2.2.2.2.2.2.2.2.2]; rfl⟩
/-- how many events have come up to now, as the reference counts them -/
theorem sg_came (n : Nat) (hn : 70000 < n) {N e c : Nat} {lo : Nat → Nat} {τ : S19} (hL : rLg τ.1 N e lo) (hc : c ≤ e) (h5 : sI τ.1 5 = nI c) : df_X19_count_132 n n (nI 0) τ = some ((nI (lo (c + 1))).toInt64, τ) := by
  obtain ⟨l1, l2, l3, l4, l5, l6⟩ := hL
  have ln := okL_N l3 (c + 1)
  obtain ⟨m, ee⟩ := nm_lq (fun g k => df_X19_count_132 n g (nI k) τ) (lo (c + 1)) n (by omega) (fun k m hk => by
    obtain ⟨c', g1, g2, g3, g4⟩ := okL_at l3 (show k < N by omega) (e + 1) 0 (by omega) (by rw [l3.1]; omega)
    have cc : c' ≤ c := by
      by_cases y : c' ≤ c
      · exact y
      · have := okL_le l3 (c + 1) c' (by omega)
        omega
    have w7 := l4 k c' g2 g3 g4
    show dF_X19_count_132 n (df_X19_count_132 n m) (nI k) τ = _
    generalize df_X19_count_132 n m = G
    unfold dF_X19_count_132
    rw [l1, if_neg (show ¬ nI N ≤ nI k from fun z => by rw [nI_leI (by omega) (by omega)] at z; omega), nm_ck (by omega) (by omega), nI_clamp (by omega), h5, w7, if_neg (show ¬ nI c < nI c' from fun z => by rw [nI_ltI (by omega) (by omega)] at z; omega), nb_let, show nI k + Int32.ofInt 1 = nI (k + 1) from nI_add ..])
  refine Eq.trans ee ?_
  show dF_X19_count_132 n (df_X19_count_132 n m) (nI (lo (c + 1))) τ = _
  unfold dF_X19_count_132 df_X19_count_159
  by_cases y : lo (c + 1) = N
  · rw [l1, y, if_pos (show nI N ≤ nI N by rw [nI_leI (by omega) (by omega)]; exact Nat.le_refl N)]
  · obtain ⟨c', g1, g2, g3, g4⟩ := okL_at l3 (show lo (c + 1) < N by omega) (e - c) (c + 1) (by omega) (Nat.le_refl _)
    have w7 := l4 (lo (c + 1)) c' g2 g3 g4
    rw [l1, if_neg (show ¬ nI N ≤ nI (lo (c + 1)) from fun z => by rw [nI_leI (by omega) (by omega)] at z; omega), nm_ck (by omega) (by omega), nI_clamp (by omega), h5, w7, if_pos (show nI c < nI c' by rw [nI_ltI (by omega) (by omega)]; omega)]
theorem nI_is {W k : Nat} (hW : W < 2 ^ 32) (hk : k < 2 ^ 31) : nI W = nI k ↔ W = k := ⟨fun z => by
  by_cases y : W < 2 ^ 31
  · rw [nI_eq y hk] at z; exact z
  · have := nm_neg (by omega) hW
    rw [z, nI_ltI hk (by omega)] at this
    omega, fun z => by rw [z]⟩
/-- count, but for 15 and 16 -/
theorem jc_count (n T L : Nat) (hn : 70000 < n) (w : Int32) (h15 : ¬ w = 15) (h16 : ¬ w = 16) (σ : S12) (τ : S19) (h : jA n (tl σ) τ) : ∃ (v : Int64) (τ' : S19), df_X12_count n T L w σ = some (v, σ) ∧ df_X19_count n w τ = some (v, τ') ∧ jA n (tl σ) τ' ∧ kR τ τ' := by
  have n1 : ¬ nI 1 = (0 : Int32) := by decide
  have n0 : nI 0 = (0 : Int32) := rfl
  obtain ⟨W, hW, rfl⟩ := nI_ex w
  have i14 : df_X19_in n (nI W).toInt64 0 14 () = some (if W ≤ 14 then nI 1 else nI 0, ()) := in_b n (b := 14) hW (by omega) rfl
  have i2 : df_X19_in n (nI W).toInt64 2 14 () = some (if 2 ≤ W ∧ W ≤ 14 then nI 1 else nI 0, ()) := by
    refine (in_64 n _ _ _).trans ?_
    rw [to_64, show (2 : Int64).toInt = 2 by decide, show (14 : Int64).toInt = 14 by decide]
    by_cases y : W < 2 ^ 31
    · rw [nI_toInt y]
      by_cases d : 2 ≤ W ∧ W ≤ 14
      · rw [if_pos d, if_pos (by omega)]
      · rw [if_neg d, if_neg (by omega)]
    · have g := nm_neg (by omega) hW
      rw [Int32.lt_iff_toInt_lt, show (nI 0).toInt = 0 from rfl] at g
      rw [if_neg (by omega), if_neg (by omega)]
  have goC : ∀ (x : Option (Int64 × S12)), (W ≤ 14 → (if sI σ.2.2.2.2.1 0 = 0 then (if nI W = 2 then df_X12_count_60 n T L (-1) σ else df_X12_count_60 n T L 0 σ) else (if (6 : Int32) ≤ nI W then (nd_b2 (df_X6_counted n (nI W) σ.2.2.2.2.2.1.2.2) (fun q7 s8 => nd_let ((σ.1, (σ.2.1, (σ.2.2.1, (σ.2.2.2.1, (σ.2.2.2.2.1, ((σ.2.2.2.2.2.1.1, (σ.2.2.2.2.2.1.2.1, s8)), σ.2.2.2.2.2.2))))))) (fun s10 => df_X12_count_89 n T L q7 s10))) else (nd_b2 (df_X11_told n (nI W) (tl σ)) (fun q11 s12 => nd_let (pl σ s12) (fun s14 => df_X12_count_89 n T L q11 s14))))) = x) → (¬ W ≤ 14 → some ((-1 : Int64), σ) = x) → df_X12_count n T L (nI W) σ = x := fun x ha hb => by
    unfold df_X12_count df_X12_count_0 df_X12_count_34
    rw [if_neg h15, if_neg h16]
    by_cases c : W ≤ 14
    · rw [if_neg (rg_a hW (k := 14) (by omega) c).1, if_pos (show nI W ≤ (14 : Int32) from (show nI W ≤ nI 14 by rw [nI_leI (by omega) (by omega)]; exact c))]
      exact ha c
    · rcases rg_e hW (k := 14) (by omega) c with b | ⟨b1, b2⟩
      · rw [if_pos b]; exact hb c
      · rw [if_neg b1, if_neg (show ¬ nI W ≤ (14 : Int32) from b2)]; exact hb c
  rcases jc_shows n hn h with ⟨h1, h2, h3⟩ | ⟨vn, Q, V, N, T', e, c, lo, τ', h1, h2, h3, h4, h5, h6, h7, h8⟩
  · refine ⟨if W = 2 ∨ ¬ W ≤ 14 then -1 else 0, (pI τ.1 0 0, τ.2), goC _ (fun c => ?_) (fun c => ?_), ?_, jA_0 h 0, kR_0 τ 0⟩
    · unfold df_X12_count_60
      rw [if_pos (show sI σ.2.2.2.2.1 0 = 0 from h1)]
      by_cases d : W = 2
      · rw [if_pos (show nI W = 2 by rw [d]; rfl), if_pos (Or.inl d)]
      · rw [if_neg (show ¬ nI W = 2 from fun z => d ((nI_is hW (by omega)).mp (show nI W = nI 2 from z))), if_neg (by omega)]
    · rw [if_pos (Or.inr c)]
    · unfold df_X19_count df_X19_count_0 df_X19_count_64 df_X19_count_71
      rw [if_neg h15, if_neg h16, h2, nb_b2, if_pos n0]
      by_cases d : W = 2
      · rw [if_pos (show nI W = 2 by rw [d]; rfl), if_pos (Or.inl d)]
      · rw [if_neg (show ¬ nI W = 2 from fun z => d ((nI_is hW (by omega)).mp (show nI W = nI 2 from z))), i14, nb_b2]
        by_cases y : W ≤ 14
        · rw [if_pos y, if_neg n1, if_neg (by omega)]
        · rw [if_neg y, if_pos n0, if_pos (Or.inr y)]
  · have nb0 : ¬ sI σ.2.2.2.2.1 0 = 0 := by rw [show sI σ.2.2.2.2.1 0 = nI 1 from h1]; exact n1
    have goR : df_X19_count n (nI W) τ = (if nI W = 0 then (some (((((sI τ'.1 5)).toInt64) : Int64), τ')) else (if nI W = 1 then (some (((((sI τ'.1 6)).toInt64) : Int64), τ')) else (if nI W = 2 then (df_X19_count_168 n (nI W) τ') else (if nI W = 3 then (some (((((sI τ'.1 8)).toInt64) : Int64), τ')) else (if nI W = 4 then (df_X19_count_132 n n (0) τ') else (if nI W = 5 then (some (((((sI τ'.1 9)).toInt64) : Int64), τ')) else (df_X19_count_168 n (nI W) τ'))))))) := by
      unfold df_X19_count df_X19_count_0
      rw [if_neg h15, if_neg h16, h2, nb_b2, if_neg n1]
    obtain ⟨hI, hL, hev, hv, ⟨g4, g5, g6⟩, hk, hX, h10, h14, hS, h11⟩ := id h3
    obtain ⟨hV, hC, hs, hPp, hce, c3, c4, c5, hA, _, hW'⟩ := id hI
    obtain ⟨l1, l2, l3, l4, l5, l6, l7, l8⟩ := id hC
    by_cases w6 : W < 6
    · have ws : W = 0 ∨ W = 1 ∨ W = 2 ∨ W = 3 ∨ W = 4 ∨ W = 5 := by omega
      have n6 : ¬ (6 : Int32) ≤ nI W := fun z => by have z : nI 6 ≤ nI W := z; rw [nI_leI (by omega) (by omega)] at z; omega
      have fin : ∀ v : Int64, df_X11_told n (nI W) (tl σ) = some (v, tl σ) → df_X12_count n T L (nI W) σ = some (v, σ) := fun v e => goC _ (fun c => by
        unfold df_X12_count_89
        rw [if_neg nb0, if_neg n6, e, nb_b2, nb_let, pl_tl]) (fun c => absurd (show W ≤ 14 by omega) c)
      rcases ws with rfl | rfl | rfl | rfl | rfl | rfl
      · refine ⟨(nI c).toInt64, τ', fin _ (by rw [← c3]; rfl), ?_, h8, h7⟩
        rw [goR, if_pos n0, g5]
      · refine ⟨(nI e).toInt64, τ', fin _ (by rw [← c4]; rfl), ?_, h8, h7⟩
        rw [goR, if_neg (show ¬ nI 1 = (0 : Int32) by decide), if_pos (show nI 1 = (1 : Int32) from rfl), g6]
      · refine ⟨(sI τ'.2.2.1.2.1 1).toInt64, τ', fin _ (by rw [← h5.2.2.2.2.1.1]; rfl), ?_, h8, h7⟩
        rw [goR, if_neg (show ¬ nI 2 = (0 : Int32) by decide), if_neg (show ¬ nI 2 = (1 : Int32) by decide), if_pos (show nI 2 = (2 : Int32) from rfl)]
        unfold df_X19_count_168 df_X19_count_196
        rw [i2, nb_b2, if_pos (show 2 ≤ 2 ∧ 2 ≤ 14 by omega), if_neg n1, sg_ct85 n (by omega) (by omega) (by omega) (by omega)]
        rfl
      · refine ⟨(nI N).toInt64, τ', fin _ ?_, ?_, h8, h7⟩
        · unfold df_X11_told df_X11_told_0
          rw [if_neg (show ¬ nI 3 = (0 : Int32) by decide), if_neg (show ¬ nI 3 = (1 : Int32) by decide), if_neg (show ¬ nI 3 = (2 : Int32) by decide), if_pos (show nI 3 = (3 : Int32) from rfl)]
          rcases hV with ⟨o1, o2⟩ | ⟨o1, o2⟩
          · rw [if_pos o1, o2, l1]
          · rw [if_neg (show ¬ sO (tl σ).1 0 = some 27 by rw [o1]; decide), if_pos o1, o2, l1]
        · rw [goR, if_neg (show ¬ nI 3 = (0 : Int32) by decide), if_neg (show ¬ nI 3 = (1 : Int32) by decide), if_neg (show ¬ nI 3 = (2 : Int32) by decide), if_pos (show nI 3 = (3 : Int32) from rfl), hL.1]
      · refine ⟨(nI (lo (c + 1))).toInt64, τ', fin _ (by rw [← c5]; rfl), ?_, h8, h7⟩
        rw [goR, if_neg (show ¬ nI 4 = (0 : Int32) by decide), if_neg (show ¬ nI 4 = (1 : Int32) by decide), if_neg (show ¬ nI 4 = (2 : Int32) by decide), if_neg (show ¬ nI 4 = (3 : Int32) by decide), if_pos (show nI 4 = (4 : Int32) from rfl)]
        exact sg_came n hn hL hce g5
      · refine ⟨(nI (T' - N)).toInt64, τ', fin _ ?_, ?_, h8, h7⟩
        · unfold df_X11_told df_X11_told_0
          rw [if_neg (show ¬ nI 5 = (0 : Int32) by decide), if_neg (show ¬ nI 5 = (1 : Int32) by decide), if_neg (show ¬ nI 5 = (2 : Int32) by decide), if_neg (show ¬ nI 5 = (3 : Int32) by decide), if_neg (show ¬ nI 5 = (4 : Int32) by decide)]
          rcases hV with ⟨o1, o2⟩ | ⟨o1, o2⟩
          · rw [if_pos o1, o2, l1, l2, pk_sub l3]
          · rw [if_neg (show ¬ sO (tl σ).1 0 = some 27 by rw [o1]; decide), if_pos o1, o2, l1, l2, pk_sub l3]
        · rw [goR, if_neg (show ¬ nI 5 = (0 : Int32) by decide), if_neg (show ¬ nI 5 = (1 : Int32) by decide), if_neg (show ¬ nI 5 = (2 : Int32) by decide), if_neg (show ¬ nI 5 = (3 : Int32) by decide), if_neg (show ¬ nI 5 = (4 : Int32) by decide), if_pos (show nI 5 = (5 : Int32) from rfl), hS.1]
    · have nk : ∀ k : Nat, k < 6 → ¬ nI W = nI k := fun k hk z => w6 (by rw [(nI_is hW (by omega)).mp z]; exact hk)
      have goR' : df_X19_count n (nI W) τ = df_X19_count_168 n (nI W) τ' := by
        rw [goR, if_neg (show ¬ nI W = (0 : Int32) from nk 0 (by omega)), if_neg (show ¬ nI W = (1 : Int32) from nk 1 (by omega)), if_neg (show ¬ nI W = (2 : Int32) from nk 2 (by omega)), if_neg (show ¬ nI W = (3 : Int32) from nk 3 (by omega)), if_neg (show ¬ nI W = (4 : Int32) from nk 4 (by omega)), if_neg (show ¬ nI W = (5 : Int32) from nk 5 (by omega))]
      by_cases w14 : W ≤ 14
      · obtain ⟨r, e1, e2⟩ := sg_counted n (by omega) h5 (show 6 ≤ W by omega) w14
        have e1 : df_X6_counted n (nI W) σ.2.2.2.2.2.1.2.2 = some (r, σ.2.2.2.2.2.1.2.2) := e1
        refine ⟨r, τ', goC _ (fun _ => ?_) (fun c => absurd w14 c), ?_, h8, h7⟩
        · unfold df_X12_count_89
          rw [if_neg nb0, if_pos (show (6 : Int32) ≤ nI W from (show nI 6 ≤ nI W by rw [nI_leI (by omega) (by omega)]; omega)), e1, nb_b2, nb_let]
        · rw [goR']
          unfold df_X19_count_168 df_X19_count_196
          rw [i2, nb_b2, if_pos (show 2 ≤ W ∧ W ≤ 14 by omega), if_neg n1, e2, nb_b2, nb_let]
      · refine ⟨-1, τ', goC _ (fun c => absurd c w14) (fun _ => rfl), ?_, h8, h7⟩
        rw [goR']
        unfold df_X19_count_168 df_X19_count_196
        rw [i2, nb_b2, if_neg (show ¬ (2 ≤ W ∧ W ≤ 14) by omega), if_pos n0]
/-- event -/
theorem jc_event (n T L : Nat) (k w : Int32) (σ : S12) (τ : S19) (h : jA n (tl σ) τ) : ∃ v : Int64, df_X12_event n T L k w σ = some (v, σ) ∧ df_X19_event n k w τ = some (v, (pI τ.1 0 0, τ.2)) ∧ jA n (tl σ) (pI τ.1 0 0, τ.2) ∧ kR τ (pI τ.1 0 0, τ.2) := by
  have key : ∃ (V : St) (N : Nat), N ≤ 2048 ∧ eA (tl σ) V ∧ sI V 0 = nI N ∧ sI τ.1 8 = nI N ∧ ∀ i : Nat, i < N → sR V 0 i = sR τ.1 5 i ∧ sQ V 0 i = (sR τ.1 7 i).toInt64 ∧ sQ V 1 i = sQ τ.1 0 i ∧ sR V 1 i = sR τ.1 6 i := by
    obtain ⟨h0, ⟨h1, h2, ⟨V, v1, v2, v3⟩, h4, h5, h6, h7⟩ | ⟨h1, h2, vn, Q, V, N, T', e, c, k', lo, h3⟩⟩ := id h
    · exact ⟨V, 0, by omega, v1, v2, h7.1, fun i hi => by omega⟩
    · obtain ⟨hI, hL, hev, hv, ⟨g4, g5, g6⟩, hk, hX, h10, h14, hS, h11⟩ := id h3
      obtain ⟨hV, hC, _⟩ := id hI
      obtain ⟨l1, l2, l3, l4, l5, l6, l7, l8⟩ := id hC
      obtain ⟨r1, r2, r3, r4, r5, r6⟩ := id hL
      refine ⟨V, N, r2, hV, l1, r1, fun i hi => ?_⟩
      have ee := hev i hi
      unfold evT evK at ee
      injection ee with e1 e2
      injection e2 with e2 e3
      obtain ⟨ka, a1, a2, _⟩ := l7 i (by omega)
      obtain ⟨kb, b1, b2, _⟩ := r5 i hi
      obtain ⟨c', c1, c2, c3, c4⟩ := okL_at l5 hi (e + 1) 0 (by omega) (by rw [l5.1]; omega)
      refine ⟨?_, ?_, e2.symm, e3.symm⟩
      · rw [a2, b2] at e1 ⊢
        rw [nI_clamp (by omega), nI_clamp (by omega)] at e1
        rw [e1]
      · rw [l6 i c' c2 c3 c4, r4 i c' c2 c3 c4]
  obtain ⟨V, N, hN, hV, v0, t8, hi⟩ := key
  obtain ⟨K, hK, rfl⟩ := nI_ex k
  have told : ∀ s : St, s = V → ∃ v : Int64, df_X3_told n (nI K) w s = some (v, s) ∧ df_X19_event n (nI K) w τ = some (v, (pI τ.1 0 0, τ.2)) := fun s es => by
    subst es
    unfold df_X3_told df_X3_told_0 df_X3_told_12 df_X19_event df_X19_event_0 df_X19_event_17 df_X19_event_82
    rw [nb_let, show sI (pI τ.1 0 0) 8 = nI N from t8, v0]
    by_cases c : K < N
    · obtain ⟨i1, i2, i3, i4⟩ := hi K c
      rw [if_neg (show ¬ nI K < (0 : Int32) from fun z => by rw [lz_0 hK] at z; omega), if_neg (show ¬ nI K < (0 : Int32) from fun z => by rw [lz_0 hK] at z; omega), if_pos (show nI K < nI N by rw [nI_ltI (by omega) (by omega)]; exact c), if_pos (show nI K < nI N by rw [nI_ltI (by omega) (by omega)]; exact c), nm_ck (by omega) (by omega), nm_ck (by omega) (by omega), nm_ck (by omega) (by omega), nm_ck (by omega) (by omega), nm_ck (by omega) (by omega), nm_ck (by omega) (by omega), nm_ck (by omega) (by omega), nm_ck (by omega) (by omega), nI_clamp (by omega), i1, i2, i3, i4]
      by_cases w0 : w = 0
      · rw [if_pos w0, if_pos w0]; exact ⟨_, rfl, rfl⟩
      · rw [if_neg w0, if_neg w0]
        by_cases w1 : w = 1
        · rw [if_pos w1, if_pos w1]; exact ⟨_, rfl, rfl⟩
        · rw [if_neg w1, if_neg w1]
          by_cases w2 : w = 2
          · rw [if_pos w2, if_pos w2]; exact ⟨_, rfl, rfl⟩
          · rw [if_neg w2, if_neg w2]
            by_cases w3 : w = 3
            · rw [if_pos w3, if_pos w3]; exact ⟨_, rfl, rfl⟩
            · rw [if_neg w3, if_neg w3]; exact ⟨_, rfl, rfl⟩
    · rcases rg_d hK (k := N) (by omega) c with b | ⟨b1, b2⟩
      · rw [if_pos b, if_pos b]; exact ⟨_, rfl, rfl⟩
      · have nl : ¬ nI K < nI N := fun z => by rw [Int32.lt_iff_toInt_lt] at z; rw [Int32.le_iff_toInt_le] at b2; omega
        rw [if_neg b1, if_neg b1, if_neg nl, if_neg nl]; exact ⟨_, rfl, rfl⟩
  rcases hV with ⟨o1, o2⟩ | ⟨o1, o2⟩
  · obtain ⟨v, t1, t2⟩ := told _ o2
    have t1 : df_X3_told n (nI K) w σ.2.2.2.2.2.2.1 = some (v, σ.2.2.2.2.2.2.1) := t1
    refine ⟨v, ?_, t2, jA_0 h 0, kR_0 τ 0⟩
    unfold df_X12_event df_X12_event_0
    rw [if_pos (show sO σ.2.2.2.2.1 0 = some 27 from o1), t1, nb_b2, nb_let]
  · obtain ⟨v, t1, t2⟩ := told _ o2
    have t1 : df_X3_told n (nI K) w σ.2.2.2.2.2.2.2.1 = some (v, σ.2.2.2.2.2.2.2.1) := t1
    refine ⟨v, ?_, t2, jA_0 h 0, kR_0 τ 0⟩
    unfold df_X12_event df_X12_event_0
    rw [if_neg (show ¬ sO σ.2.2.2.2.1 0 = some 27 by rw [show sO σ.2.2.2.2.1 0 = some 32 from o1]; decide), if_pos (show sO σ.2.2.2.2.1 0 = some 32 from o1), t1, nb_b2, nb_let]
theorem pool_id (f : Nat → St) (j : Nat) : (fun i => if i = j then f j else f i) = f := by
  funext i
  by_cases c : i = j
  · rw [if_pos c, c]
  · rw [if_neg c]
/-- line -/
theorem jc_line (n T L : Nat) (hn : 70000 < n) (p k : Int32) (σ : S12) (τ : S19) (hp : rpP (σ.2.1 1) σ.2.2.2.2.2.2.2.2.1 τ.1 (sR τ.2.1 9)) : ∃ v : Int32, df_X12_line n T L p k σ = some (v, σ) ∧ df_X19_line n p k τ = some (v, (pI τ.1 0 0, τ.2)) := by
  unfold df_X12_line df_X12_line_0 df_X12_line_19 df_X19_line df_X19_line_0 df_X19_line_32
  rw [nb_pOf, nb_b2, nb_let, nb_hasB, nb_b2]
  have z1 : ¬ (1 : Int32) = 0 := by decide
  by_cases c : 0 ≤ p.toInt ∧ p.toInt ≤ 3
  · obtain ⟨q, q1, q2, q3⟩ := ix_nI (k := 3) c.1 c.2
    subst q2
    rw [if_pos c, nI_clamp (by omega)]
    rcases hp q (by omega) with ⟨a, b⟩ | ⟨j, a1, a2, a3, TT, Z, a4, a5, a6, a7, a8, a9, b1, b2, b3, b4⟩
    · rw [a, nb_mN, if_neg (show ¬ ((0 ≤ (nI q).toInt ∧ (nI q).toInt ≤ 3 ∧ ¬ sR (pI τ.1 0 0, τ.2).1 0 q = 0) ∧ 0 ≤ k.toInt ∧ k.toInt < (sR (pI τ.1 0 0, τ.2).1 3 q).toInt) from fun z => z.1.2.2 (show sR (pI τ.1 0 0) 0 q = 0 from b)), if_pos rfl]
      exact ⟨_, rfl, rfl⟩
    · have b3 : sR (pI τ.1 0 0) 3 q = nI Z := b3
      have a3 : sR (pI τ.1 0 0) 0 q = nI 1 := a3
      rw [a2, nb_mS, nb_lt a1, b3, a3]
      obtain ⟨K, hK, rfl⟩ := nI_ex k
      by_cases d : K < Z
      · obtain ⟨z, l, l1, l2, l3, l4, l5⟩ := b4 K d
        rw [l5 n (by omega), nb_b2, nb_let, pool_id, if_pos (show (0 ≤ (nI q).toInt ∧ (nI q).toInt ≤ 3 ∧ ¬ nI 1 = 0) ∧ 0 ≤ (nI K).toInt ∧ (nI K).toInt < (nI Z).toInt from ⟨⟨c.1, c.2, by decide⟩, by rw [nI_toInt (by omega)]; omega, by rw [nI_toInt (by omega), nI_toInt (by omega)]; omega⟩), if_neg z1, show (32768 : Int32) * nI q + nI K = nI (32768 * q + K) by rw [show (32768 : Int32) * nI q = nI (32768 * q) from pk_mul ..]; exact nI_add .., nm_ck (by omega) (by omega), nI_clamp (by omega), show sR τ.2.1 9 (32768 * q + K) = nI (l * 256 + z) from l4, show nI (l * 256 + z) >>> ((8 : Int32) &&& 31) = nI l from (nm_shr (s := 8) (show l * 256 + z < 2 ^ 31 by omega) (by omega)).trans (by rw [show (l * 256 + z) / 2 ^ 8 = l by omega])]
        exact ⟨_, rfl, rfl⟩
      · have lz : df_X8_lineOf n (nI K) (σ.2.2.2.2.2.2.2.2.1 j) = some (0, σ.2.2.2.2.2.2.2.2.1 j) := by
          unfold df_X8_lineOf df_X8_lineOf_0 df_X8_lineOf_28
          rw [a9]
          rcases rg_d hK (k := Z) (by omega) d with b | ⟨c1, c2⟩
          · rw [if_pos b]
          · rw [if_neg c1, if_pos c2]
        rw [lz, nb_b2, nb_let, pool_id, if_neg (show ¬ ((0 ≤ (nI q).toInt ∧ (nI q).toInt ≤ 3 ∧ ¬ nI 1 = 0) ∧ 0 ≤ (nI K).toInt ∧ (nI K).toInt < (nI Z).toInt) from fun y => by
          have y1 := y.2.1
          have y2 := y.2.2
          rw [nI_toInt (show Z < 2 ^ 31 by omega)] at y2
          rw [nI_t hK] at y1 y2
          by_cases k31 : K < 2 ^ 31
          · rw [if_pos k31] at y2; omega
          · rw [if_neg k31] at y1; omega), if_pos rfl]
        exact ⟨_, rfl, rfl⟩
  · rw [if_neg c, nb_mN, if_neg (show ¬ ((0 ≤ p.toInt ∧ p.toInt ≤ 3 ∧ ¬ sR (pI τ.1 0 0, τ.2).1 0 p.toNatClampNeg = 0) ∧ 0 ≤ k.toInt ∧ k.toInt < (sR (pI τ.1 0 0, τ.2).1 3 p.toNatClampNeg).toInt) from fun z => c ⟨z.1.1, z.1.2.1⟩), if_pos rfl]
    exact ⟨_, rfl, rfl⟩
