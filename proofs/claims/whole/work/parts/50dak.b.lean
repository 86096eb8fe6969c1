theorem on_add (a b : Nat) : Int64.ofNat a + Int64.ofNat b = Int64.ofNat (a + b) := (Int64.ofNat_add a b).symm
theorem on_sub {a b : Nat} (h : b ≤ a) : Int64.ofNat a - Int64.ofNat b = Int64.ofNat (a - b) := by
  rw [show Int64.ofNat a = Int64.ofNat (a - b) + Int64.ofNat b by rw [on_add, show a - b + b = a by omega], Int64.add_sub_cancel]
theorem nI_64 {a : Nat} (h : a < 2 ^ 31) : (nI a).toInt64 = Int64.ofNat a := by
  apply Int64.toInt_inj.mp
  rw [to_64, nI_toInt h, nm_lt (by omega)]
/-- a byte that was shown, in both -/
theorem sg_shown (n : Nat) {B : Nat} {M X : St × St} (h : rM B M X) (hB : B < 2 ^ 31) {i : Nat} (hi : i < 2 ^ 32) : ∃ r : Int32, df_X10_shownByte n (nI i) M.2 = some (r, M.2) ∧ df_X16_shownByte n (nI i) X = some (r, X) := by
  obtain ⟨m1, m2, m3, m4, m5, m6, m7⟩ := h
  obtain ⟨_, _, _, _, sa, S, hS, sn, hb⟩ := m7
  have eS : sL M.2 0 = Int64.ofNat S := sa.trans sn
  have sT : (Int64.ofNat S).toInt = S := nm_lt (by omega)
  have t48 : (2048 : Int64).toInt = 2048 := by decide
  have kp : (if (2048 : Int64) < Int64.ofNat S then 2048 else Int64.ofNat S) = Int64.ofNat (if S ≤ 2048 then S else 2048) := by
    by_cases c : S ≤ 2048
    · rw [if_pos c, if_neg (fun z => by rw [Int64.lt_iff_toInt_lt, sT, t48] at z; omega)]
    · rw [if_neg c, if_pos (by rw [Int64.lt_iff_toInt_lt, sT, t48]; omega)]
      rfl
  have hC : df_X10_shownByte n (nI i) M.2 = if nI i < 0 then some (-1, M.2) else if lg_cmp (nI i).toInt64 (Int64.ofNat (if S ≤ 2048 then S else 2048)) < 0 then nd_ck ((Int64.ofNat S - Int64.ofNat (if S ≤ 2048 then S else 2048) + (nI i).toInt64 &&& 2047).toInt32) 2048 (some (sR M.2 8 (Int32.toNatClampNeg ((Int64.ofNat S - Int64.ofNat (if S ≤ 2048 then S else 2048) + (nI i).toInt64 &&& 2047).toInt32)) &&& 255, M.2)) else some (-1, M.2) := by
    unfold df_X10_shownByte df_X10_shownByte_0 df_X10_shownByte_22
    rw [eS, kp, nb_let]
  have hR : df_X16_shownByte n (nI i) X = if nI i < 0 then some (-1, X) else if lg_cmp (nI i).toInt64 (Int64.ofNat (if S ≤ 2048 then S else 2048)) < 0 then nd_ck (nI i) 2048 (some (sR X.1 32 (Int32.toNatClampNeg (nI i)), X)) else some (-1, X) := by
    unfold df_X16_shownByte df_X16_shownByte_0 df_X16_shownByte_21 df_X16_shownByte_33 df_X16_shownByte_43
    have sn : sL X.1 2 = Int64.ofNat S := sn
    rw [sn]
    by_cases c : 2048 ≤ S
    · rw [if_pos ((lcB _ _).mpr (by rw [sT, t48]; omega))]
      by_cases d : S ≤ 2048
      · have : S = 2048 := by omega
        subst this
        rw [if_pos d]
        rfl
      · rw [if_neg d]
        rfl
    · rw [if_neg (fun z => by have z := (lcB _ _).mp z; rw [sT, t48] at z; omega), if_pos (show S ≤ 2048 by omega)]
  rw [hC, hR]
  by_cases a : nI i < (0 : Int32)
  · rw [if_pos a, if_pos a]
    exact ⟨_, rfl, rfl⟩
  · rw [if_neg a, if_neg a]
    have i31 : i < 2 ^ 31 := by
      by_cases y : i < 2 ^ 31
      · exact y
      · exact absurd ((lz_0 hi).mpr (by omega)) a
    rw [nI_64 i31]
    have kT : (Int64.ofNat (if S ≤ 2048 then S else 2048)).toInt = ((if S ≤ 2048 then S else 2048 : Nat) : Int) := nm_lt (by by_cases c : S ≤ 2048; rw [if_pos c]; omega; rw [if_neg c]; omega)
    by_cases b : i < (if S ≤ 2048 then S else 2048)
    · have lt : lg_cmp (Int64.ofNat i) (Int64.ofNat (if S ≤ 2048 then S else 2048)) < 0 := (lcA _ _).mpr (by rw [kT, nm_lt (by omega)]; omega)
      rw [if_pos lt, if_pos lt]
      have iS : i < S ∧ i < 2048 := by
        by_cases c : S ≤ 2048
        · rw [if_pos c] at b; omega
        · rw [if_neg c] at b; omega
      have ix : (Int64.ofNat S - Int64.ofNat (if S ≤ 2048 then S else 2048) + Int64.ofNat i &&& 2047).toInt32 = nI ((if S ≤ 2048 then i else S + i) % 2048) := by
        by_cases c : S ≤ 2048
        · rw [if_pos c, if_pos c, on_sub (Nat.le_refl S), on_add, a2047, show S - S + i = i by omega, t32 (by omega)]
        · rw [if_neg c, if_neg c, on_sub (by omega), on_add, a2047, show (S - 2048 + i) % 2048 = (S + i) % 2048 by omega, t32 (by omega)]
      have hb := hb i iS.1 iS.2
      refine ⟨sR X.1 32 i, ?_, ?_⟩
      · rw [ix, nm_ck (by omega) (by omega), nI_clamp (by omega), show sR M.2 8 ((if S ≤ 2048 then i else S + i) % 2048) &&& 255 = sR X.1 32 i from b8_255 hb]
      · rw [nm_ck iS.2 (by omega), nI_clamp (by omega)]
    · have lt : ¬ lg_cmp (Int64.ofNat i) (Int64.ofNat (if S ≤ 2048 then S else 2048)) < 0 := fun z => by
        have z := (lcA _ _).mp z
        rw [kT, nm_lt (by omega)] at z
        omega
      rw [if_neg lt, if_neg lt]
      exact ⟨_, rfl, rfl⟩
/-- shown -/
theorem jc_shown (n T L : Nat) (hn : 70000 < n) (i : Int32) (σ : S12) (τ : S19) (h : jA n (tl σ) τ) : ∃ (v : Int32) (τ' : S19), df_X12_shown n T L i σ = some (v, σ) ∧ df_X19_shown n i τ = some (v, τ') ∧ jA n (tl σ) τ' ∧ kR τ τ' := by
  have n1 : ¬ nI 1 = (0 : Int32) := by decide
  have n0 : nI 0 = (0 : Int32) := rfl
  obtain ⟨I, hI, rfl⟩ := nI_ex i
  rcases jc_shows n hn h with ⟨h1, h2, h3⟩ | ⟨vn, Q, V, N, T', e, c, lo, τ', h1, h2, h3, h4, h5, h6, h7, h8⟩
  · refine ⟨-1, (pI τ.1 0 0, τ.2), ?_, ?_, jA_0 h 0, kR_0 τ 0⟩
    · unfold df_X12_shown df_X12_shown_0 df_X12_shown_28
      rw [if_pos (show sI σ.2.2.2.2.1 0 = 0 from h1)]
    · unfold df_X19_shown df_X19_shown_0 df_X19_shown_19
      rw [h2, nb_b2, if_pos n0]
  · have hce : c ≤ e := h3.1.2.2.2.2.1
    have he : e ≤ 60000 := h3.2.1.2.2.2.2.2
    obtain ⟨r, e1, e2⟩ := sg_shown n h5 (by omega) hI
    have e1 : df_X10_shownByte n (nI I) σ.2.2.2.2.2.1.2.2.2 = some (r, σ.2.2.2.2.2.1.2.2.2) := e1
    refine ⟨r, τ', ?_, ?_, h8, h7⟩
    · unfold df_X12_shown df_X12_shown_0 df_X12_shown_28
      rw [if_neg (show ¬ sI σ.2.2.2.2.1 0 = 0 by rw [show sI σ.2.2.2.2.1 0 = nI 1 from h1]; exact n1), e1, nb_b2, nb_let]
    · unfold df_X19_shown df_X19_shown_0 df_X19_shown_19
      rw [h2, nb_b2, if_neg n1, e2, nb_b2, nb_let]
/-- three counts of the machine -/
theorem sg_procs (n : Nat) (hn : 1024 < n) {B : Nat} {M X : St × St} (h : rM B M X) : ∃ c : Nat, df_X6_processesThere n M = some (nI c, M) ∧ df_X16_count n (nI 11) X = some ((nI c).toInt64, X) := by
  refine ⟨cN (fun q => !decide (sR X.1 1 q = nI 0)) 16, ?_, ?_⟩
  · obtain ⟨m, e⟩ := nm_lq (fun g k => df_X6_processesThere_4 n g (nI (cN (fun q => !decide (sR X.1 1 q = nI 0)) k)) (nI k) M) 16 n (by omega) (fun k m hk => by
      obtain ⟨t, c, w, b, e, t4, _, _, _, _, e1, e2, _⟩ := h.2.2.1 k hk
      show dF_X6_processesThere_4 n (df_X6_processesThere_4 n m) _ (nI k) M = _
      generalize df_X6_processesThere_4 n m = G
      have st : df_X6_status n (nI k) M = some (nI t, M) := by
        unfold df_X6_status df_X6_status_0
        rw [show nI k * 7 + 0 = nI (k * 7) by rw [show nI k * 7 = nI (k * 7) from pk_mul ..]; exact nI_add (k * 7) 0, nm_ck (by omega) (by omega), nI_clamp (by omega), e1]
      unfold dF_X6_processesThere_4 df_X6_processesThere_21
      rw [if_neg (show ¬ (16 : Int32) ≤ nI k from fun z => by have z : nI 16 ≤ nI k := z; rw [nI_leI (by omega) (by omega)] at z; omega), st, nb_b2, nb_let, nb_let, nb_let, show nI k + Int32.ofInt 1 = nI (k + 1) from nI_add .., cN_s, e2]
      by_cases c : t = 0
      · rw [if_pos (show nI t = 0 by rw [c]; rfl), decide_eq_true (show nI t = nI 0 by rw [c])]
        rfl
      · have d : ¬ nI t = nI 0 := fun z => by rw [nI_eq (by omega) (by omega)] at z; exact c z
        rw [if_neg (show ¬ nI t = 0 from d), decide_eq_false d, show nI (cN (fun q => !decide (sR X.1 1 q = nI 0)) k) + Int32.ofInt 1 = nI (cN (fun q => !decide (sR X.1 1 q = nI 0)) k + 1) from nI_add ..]
        rfl)
    refine Eq.trans e ?_
    show dF_X6_processesThere_4 n (df_X6_processesThere_4 n m) _ (nI 16) M = _
    unfold dF_X6_processesThere_4
    rw [if_pos (show (16 : Int32) ≤ nI 16 by decide)]
  · obtain ⟨m, e⟩ := nm_lq (fun g k => df_X16_count_4 n g (nI 11) (nI (cN (fun q => !decide (sR X.1 1 q = nI 0)) k)) (nI k) X) 16 n (by omega) (fun k m hk => by
      show dF_X16_count_4 n (df_X16_count_4 n m) (nI 11) _ (nI k) X = _
      generalize df_X16_count_4 n m = G
      unfold dF_X16_count_4 df_X16_count_32
      rw [if_neg (show ¬ (16 : Int32) ≤ nI k from fun z => by have z : nI 16 ≤ nI k := z; rw [nI_leI (by omega) (by omega)] at z; omega), if_pos (show nI 11 = (11 : Int32) from rfl), nm_ck hk (by omega), nI_clamp (by omega), nb_let, nb_let, show nI k + Int32.ofInt 1 = nI (k + 1) from nI_add .., cN_s]
      by_cases c : sR X.1 1 k = nI 0
      · rw [if_pos (show sR X.1 1 k = 0 from c), decide_eq_true c]
        rfl
      · rw [if_neg (show ¬ sR X.1 1 k = 0 from c), decide_eq_false c, show nI (cN (fun q => !decide (sR X.1 1 q = nI 0)) k) + 1 = nI (cN (fun q => !decide (sR X.1 1 q = nI 0)) k + 1) from nI_add ..]
        rfl)
    refine Eq.trans e ?_
    obtain ⟨n', rfl⟩ : ∃ n' : Nat, n = n' + 1 := ⟨n - 1, by omega⟩
    show dF_X16_count_4 (n' + 1) (df_X16_count_4 (n' + 1) m) (nI 11) _ (nI 16) X = _
    unfold dF_X16_count_4
    rw [if_pos (show (16 : Int32) ≤ nI 16 by decide)]
    unfold df_X16_count_39
    show dF_X16_count_41 (n' + 1) (df_X16_count_41 (n' + 1) n') (nI 11) _ 0 X = _
    unfold dF_X16_count_41
    rw [if_neg (show ¬ (16 : Int32) ≤ 0 by decide), if_neg (show ¬ nI 11 = (12 : Int32) by decide)]
    rfl
theorem sg_ct85 (n : Nat) (hn : 1024 < n) {w : Nat} (hw : w < 16) (h1 : ¬ w = 11) (h2 : ¬ w = 12) (X : St × St) : df_X16_count n (nI w) X = df_X16_count_85 n (nI w) 0 X := by
  obtain ⟨n', rfl⟩ : ∃ n' : Nat, n = n' + 1 := ⟨n - 1, by omega⟩
  show dF_X16_count_4 (n' + 1) (df_X16_count_4 (n' + 1) n') (nI w) 0 0 X = _
  unfold dF_X16_count_4
  rw [if_neg (show ¬ (16 : Int32) ≤ 0 by decide), if_neg (show ¬ nI w = (11 : Int32) from fun z => by have z : nI w = nI 11 := z; rw [nI_eq (by omega) (by omega)] at z; exact h1 z)]
  unfold df_X16_count_39
  show dF_X16_count_41 (n' + 1) (df_X16_count_41 (n' + 1) n') (nI w) 0 0 X = _
  unfold dF_X16_count_41
  rw [if_neg (show ¬ (16 : Int32) ≤ 0 by decide), if_neg (show ¬ nI w = (12 : Int32) from fun z => by have z : nI w = nI 12 := z; rw [nI_eq (by omega) (by omega)] at z; exact h2 z)]
theorem sg_named (n : Nat) (hn : 1024 < n) {B : Nat} {M X : St × St} (h : rM B M X) : ∃ c : Nat, df_X10_namedFiles n M.2 = some (nI c, M.2) ∧ df_X16_count n (nI 12) X = some ((nI c).toInt64, X) := by
  have nf := h.2.1.2.2.2
  refine ⟨cN (fun k => decide (sR X.1 25 k = nI 1)) 16, ?_, ?_⟩
  · obtain ⟨m, e⟩ := nm_lq (fun g k => df_X10_namedFiles_4 n g (nI (cN (fun k => decide (sR X.1 25 k = nI 1)) k)) (nI k) M.2) 16 n (by omega) (fun k m hk => by
      obtain ⟨_, a2, a3, _⟩ := nf k hk
      show dF_X10_namedFiles_4 n (df_X10_namedFiles_4 n m) _ (nI k) M.2 = _
      generalize df_X10_namedFiles_4 n m = G
      unfold dF_X10_namedFiles_4
      rw [if_neg (show ¬ (16 : Int32) ≤ nI k from fun z => by have z : nI 16 ≤ nI k := z; rw [nI_leI (by omega) (by omega)] at z; omega), show nI k * 3 + 2 = nI (k * 3 + 2) by rw [show nI k * 3 = nI (k * 3) from pk_mul ..]; exact nI_add .., nm_ck (by omega) (by omega), nI_clamp (by omega), a3, nb_let, nb_let, show nI k + Int32.ofInt 1 = nI (k + 1) from nI_add .., cN_s]
      rcases a2 with a2 | a2
      · have a2 : sR X.1 25 k = nI 0 := a2
        rw [decide_eq_false (show ¬ sR X.1 25 k = nI 1 by rw [a2]; decide), a2, show nI (cN (fun k => decide (sR X.1 25 k = nI 1)) k) + nI 0 = nI (cN (fun k => decide (sR X.1 25 k = nI 1)) k + 0) from nI_add ..]
        rfl
      · have a2 : sR X.1 25 k = nI 1 := a2
        rw [decide_eq_true a2, a2, show nI (cN (fun k => decide (sR X.1 25 k = nI 1)) k) + nI 1 = nI (cN (fun k => decide (sR X.1 25 k = nI 1)) k + 1) from nI_add ..]
        rfl)
    refine Eq.trans e ?_
    show dF_X10_namedFiles_4 n (df_X10_namedFiles_4 n m) _ (nI 16) M.2 = _
    unfold dF_X10_namedFiles_4
    rw [if_pos (show (16 : Int32) ≤ nI 16 by decide)]
  · obtain ⟨m, e⟩ := nm_lq (fun g k => df_X16_count_41 n g (nI 12) (nI (cN (fun k => decide (sR X.1 25 k = nI 1)) k)) (nI k) X) 16 n (by omega) (fun k m hk => by
      obtain ⟨_, a2, a3, a4⟩ := nf k hk
      show dF_X16_count_41 n (df_X16_count_41 n m) (nI 12) _ (nI k) X = _
      generalize df_X16_count_41 n m = G
      unfold dF_X16_count_41 df_X16_count_77 df_X16_count_78
      rw [if_neg (show ¬ (16 : Int32) ≤ nI k from fun z => by have z : nI 16 ≤ nI k := z; rw [nI_leI (by omega) (by omega)] at z; omega), if_pos (show nI 12 = (12 : Int32) from rfl), nm_ck hk (by omega), nI_clamp (by omega), nm_ck hk (by omega), nb_let, nb_let, show nI k + Int32.ofInt 1 = nI (k + 1) from nI_add .., cN_s]
      rcases a2 with a2 | a2
      · have a2 : sR X.1 25 k = nI 0 := a2
        rw [decide_eq_false (show ¬ sR X.1 25 k = nI 1 by rw [a2]; decide), if_pos (show sR X.1 25 k = 0 from a2)]
        by_cases c : sR X.1 24 k = 0
        · rw [if_pos c]; rfl
        · rw [if_neg c]; rfl
      · have a2 : sR X.1 25 k = nI 1 := a2
        have a4 : sR X.1 24 k = nI 1 := by rw [a4, decide_eq_true (Or.inl a2)]; rfl
        rw [decide_eq_true a2, if_neg (show ¬ sR X.1 24 k = 0 by rw [a4]; decide), if_neg (show ¬ sR X.1 25 k = 0 by rw [a2]; decide), show nI (cN (fun k => decide (sR X.1 25 k = nI 1)) k) + 1 = nI (cN (fun k => decide (sR X.1 25 k = nI 1)) k + 1) from nI_add ..]
        rfl)
    have e0 : df_X16_count n (nI 12) X = df_X16_count_41 n n (nI 12) (nI 0) (nI 0) X := by
      obtain ⟨n', rfl⟩ : ∃ n' : Nat, n = n' + 1 := ⟨n - 1, by omega⟩
      show dF_X16_count_4 (n' + 1) (df_X16_count_4 (n' + 1) n') (nI 12) 0 0 X = _
      unfold dF_X16_count_4
      rw [if_neg (show ¬ (16 : Int32) ≤ 0 by decide), if_neg (show ¬ nI 12 = (11 : Int32) by decide)]
      rfl
    refine Eq.trans e0 (Eq.trans e ?_)
    show dF_X16_count_41 n (df_X16_count_41 n m) (nI 12) _ (nI 16) X = _
    unfold dF_X16_count_41
    rw [if_pos (show (16 : Int32) ≤ nI 16 by decide)]
    rfl
theorem sg_openings (n : Nat) (hn : 1024 < n) {B : Nat} {M X : St × St} (h : rM B M X) : ∃ c : Nat, c ≤ 48 ∧ df_X10_openingsFree n M.2 = some (nI (48 - c), M.2) ∧ df_X16_openings n X = some (nI c, X) := by
  have od := h.2.1.2.1
  have ok : ∀ o : Nat, o < 48 → (sR X.1 19 o = nI 0 ∧ sR M.2 1 (o * 5) = nI 0) ∨ ∃ k : Nat, 1 ≤ k ∧ k ≤ 4 ∧ sR X.1 19 o = nI k ∧ sR M.2 1 (o * 5) = nI k := fun o ho => by
    rcases od o ho with ⟨z1, z2, _⟩ | ⟨k, t, y1, y2, _, y4, y5, _⟩
    · exact Or.inl ⟨z1, z2⟩
    · exact Or.inr ⟨k, y1, y2, y4, y5⟩
  have cl : ∀ k : Nat, cN (fun o => !decide (sR X.1 19 o = nI 0)) k ≤ k := fun k => cN_le _ _
  refine ⟨cN (fun o => !decide (sR X.1 19 o = nI 0)) 48, cl 48, ?_, ?_⟩
  · obtain ⟨m, e⟩ := nm_lq (fun g k => df_X10_openingsFree_4 n g (nI (k - cN (fun o => !decide (sR X.1 19 o = nI 0)) k)) (nI k) M.2) 48 n (by omega) (fun k m hk => by
      have ck := cl k
      show dF_X10_openingsFree_4 n (df_X10_openingsFree_4 n m) _ (nI k) M.2 = _
      generalize df_X10_openingsFree_4 n m = G
      have st : ∀ v : Int32, sR M.2 1 (k * 5) = v → df_X10_of n (nI k) 0 M.2 = some (v, M.2) := fun v e => by
        unfold df_X10_of df_X10_of_0
        rw [show nI k * 5 + 0 = nI (k * 5) by rw [show nI k * 5 = nI (k * 5) from pk_mul ..]; exact nI_add (k * 5) 0, nm_ck (by omega) (by omega), nI_clamp (by omega), e]
      unfold dF_X10_openingsFree_4 df_X10_openingsFree_22
      rw [if_neg (show ¬ (48 : Int32) ≤ nI k from fun z => by have z : nI 48 ≤ nI k := z; rw [nI_leI (by omega) (by omega)] at z; omega), cN_s]
      rcases ok k hk with ⟨a, b⟩ | ⟨kd, k1, k2, a, b⟩
      · rw [st _ b, nb_b2, if_pos (show nI 0 = (0 : Int32) from rfl), nb_let, nb_let, decide_eq_true a, show nI (k - cN (fun o => !decide (sR X.1 19 o = nI 0)) k) + Int32.ofInt 1 = nI (k - cN (fun o => !decide (sR X.1 19 o = nI 0)) k + 1) from nI_add .., show nI k + Int32.ofInt 1 = nI (k + 1) from nI_add .., show k + 1 - (cN (fun o => !decide (sR X.1 19 o = nI 0)) k + (!true).toNat) = k - cN (fun o => !decide (sR X.1 19 o = nI 0)) k + 1 by show k + 1 - (_ + 0) = _; omega]
      · have d : ¬ nI kd = nI 0 := fun z => by rw [nI_eq (by omega) (by omega)] at z; omega
        rw [st _ b, nb_b2, if_neg (show ¬ nI kd = (0 : Int32) from d), nb_let, decide_eq_false (show ¬ sR X.1 19 k = nI 0 by rw [a]; exact d), show nI k + Int32.ofInt 1 = nI (k + 1) from nI_add .., show k + 1 - (cN (fun o => !decide (sR X.1 19 o = nI 0)) k + (!false).toNat) = k - cN (fun o => !decide (sR X.1 19 o = nI 0)) k by show k + 1 - (_ + 1) = _; omega])
    refine Eq.trans e ?_
    show dF_X10_openingsFree_4 n (df_X10_openingsFree_4 n m) _ (nI 48) M.2 = _
    unfold dF_X10_openingsFree_4
    rw [if_pos (show (48 : Int32) ≤ nI 48 by decide)]
  · obtain ⟨m, e⟩ := nm_lq (fun g k => df_X16_openings_4 n g (nI (cN (fun o => !decide (sR X.1 19 o = nI 0)) k)) (nI k) X) 48 n (by omega) (fun k m hk => by
      show dF_X16_openings_4 n (df_X16_openings_4 n m) _ (nI k) X = _
      generalize df_X16_openings_4 n m = G
      unfold dF_X16_openings_4 df_X16_openings_26
      rw [if_neg (show ¬ (48 : Int32) ≤ nI k from fun z => by have z : nI 48 ≤ nI k := z; rw [nI_leI (by omega) (by omega)] at z; omega), nm_ck hk (by omega), nI_clamp (by omega), nb_let, nb_let, show nI k + Int32.ofInt 1 = nI (k + 1) from nI_add .., cN_s]
      rcases ok k hk with ⟨a, b⟩ | ⟨kd, k1, k2, a, b⟩
      · rw [a, if_pos (show nI 0 ≤ (0 : Int32) by decide), decide_eq_true rfl]
        rfl
      · have d : ¬ nI kd = nI 0 := fun z => by rw [nI_eq (by omega) (by omega)] at z; omega
        rw [a, if_neg (show ¬ nI kd ≤ (0 : Int32) from fun z => by have z : nI kd ≤ nI 0 := z; rw [nI_leI (by omega) (by omega)] at z; omega), decide_eq_false d, show nI (cN (fun o => !decide (sR X.1 19 o = nI 0)) k) + 1 = nI (cN (fun o => !decide (sR X.1 19 o = nI 0)) k + 1) from nI_add ..]
        rfl)
    refine Eq.trans e ?_
    show dF_X16_openings_4 n (df_X16_openings_4 n m) _ (nI 48) X = _
    unfold dF_X16_openings_4
    rw [if_pos (show (48 : Int32) ≤ nI 48 by decide)]
/-- what the machine counts, in both -/
theorem sg_counted (n : Nat) (hn : 1024 < n) {B : Nat} {M X : St × St} (h : rM B M X) {w : Nat} (h6 : 6 ≤ w) (h14 : w ≤ 14) : ∃ r : Int64, df_X6_counted n (nI w) M = some (r, M) ∧ df_X16_count n (nI w) X = some (r, X) := by
  have hs : w = 6 ∨ w = 7 ∨ w = 8 ∨ w = 9 ∨ w = 10 ∨ w = 11 ∨ w = 12 ∨ w = 13 ∨ w = 14 := by omega
  obtain ⟨p1, p2, p3⟩ := sg_procs n hn h
  obtain ⟨f1, f2, f3⟩ := sg_named n hn h
  obtain ⟨o1, o2, o3, o4⟩ := sg_openings n hn h
  obtain ⟨m1, m2, m3, m4, m5, m6, m7⟩ := h
  rcases hs with rfl | rfl | rfl | rfl | rfl | rfl | rfl | rfl | rfl
  · rw [sg_ct85 n hn (by omega) (by omega) (by omega)]
    exact ⟨sL M.1 0, rfl, by rw [m5.2.2.2.2.2.2.2.2.2.1]; rfl⟩
  · rw [sg_ct85 n hn (by omega) (by omega) (by omega)]
    obtain ⟨⟨k, k1, k2, k3, _⟩, _⟩ := m6
    refine ⟨(nI k).toInt64, ?_, ?_⟩
    · rw [← k2]; rfl
    · rw [← k3]; rfl
  · rw [sg_ct85 n hn (by omega) (by omega) (by omega)]
    exact ⟨sL M.2 0, rfl, by rw [m7.2.2.2.2.1]; rfl⟩
  · rw [sg_ct85 n hn (by omega) (by omega) (by omega)]
    obtain ⟨Ty, hT, t1, t2, t3⟩ := m7.2.2.2.1
    refine ⟨(nI Ty).toInt64, ?_, ?_⟩
    · rw [← t1]; rfl
    · rw [← t2]; rfl
  · rw [sg_ct85 n hn (by omega) (by omega) (by omega)]
    obtain ⟨_, _, _, k1, k2⟩ := m1
    refine ⟨(sI M.1 0).toInt64, rfl, ?_⟩
    rw [k1, ← k2]
    rfl
  · refine ⟨(nI p1).toInt64, ?_, p3⟩
    unfold df_X6_counted df_X6_counted_0
    rw [if_neg (show ¬ nI 11 = (6 : Int32) by decide), if_neg (show ¬ nI 11 = (7 : Int32) by decide), if_neg (show ¬ nI 11 = (8 : Int32) by decide), if_neg (show ¬ nI 11 = (9 : Int32) by decide), if_neg (show ¬ nI 11 = (10 : Int32) by decide), if_pos (show nI 11 = (11 : Int32) from rfl), p2, nb_b2]
  · refine ⟨(nI f1).toInt64, ?_, f3⟩
    unfold df_X6_counted df_X6_counted_0
    rw [if_neg (show ¬ nI 12 = (6 : Int32) by decide), if_neg (show ¬ nI 12 = (7 : Int32) by decide), if_neg (show ¬ nI 12 = (8 : Int32) by decide), if_neg (show ¬ nI 12 = (9 : Int32) by decide), if_neg (show ¬ nI 12 = (10 : Int32) by decide), if_neg (show ¬ nI 12 = (11 : Int32) by decide), if_pos (show nI 12 = (12 : Int32) from rfl), f2, nb_b2, nb_let]
  · rw [sg_ct85 n hn (by omega) (by omega) (by omega)]
    refine ⟨(nI o1).toInt64, ?_, ?_⟩
    · unfold df_X6_counted df_X6_counted_0
      rw [if_neg (show ¬ nI 13 = (6 : Int32) by decide), if_neg (show ¬ nI 13 = (7 : Int32) by decide), if_neg (show ¬ nI 13 = (8 : Int32) by decide), if_neg (show ¬ nI 13 = (9 : Int32) by decide), if_neg (show ¬ nI 13 = (10 : Int32) by decide), if_neg (show ¬ nI 13 = (11 : Int32) by decide), if_neg (show ¬ nI 13 = (12 : Int32) by decide), if_pos (show nI 13 = (13 : Int32) from rfl), o3, nb_b2, nb_let, show (48 : Int32) - nI (48 - o1) = nI o1 from (pk_sub (show 48 - o1 ≤ 48 by omega)).trans (by rw [show 48 - (48 - o1) = o1 by omega])]
    · unfold df_X16_count_85
      rw [if_neg (show ¬ nI 13 = (2 : Int32) by decide), if_neg (show ¬ nI 13 = (3 : Int32) by decide), if_neg (show ¬ nI 13 = (4 : Int32) by decide), if_neg (show ¬ nI 13 = (5 : Int32) by decide), if_neg (show ¬ nI 13 = (6 : Int32) by decide), if_neg (show ¬ nI 13 = (7 : Int32) by decide), if_neg (show ¬ nI 13 = (8 : Int32) by decide), if_neg (show ¬ nI 13 = (9 : Int32) by decide), if_neg (show ¬ nI 13 = (10 : Int32) by decide), if_neg (show ¬ nI 13 = (11 : Int32) by decide), if_neg (show ¬ nI 13 = (12 : Int32) by decide), if_pos (show nI 13 = (13 : Int32) from rfl), o4, nb_b2]
  · rw [sg_ct85 n hn (by omega) (by omega) (by omega)]
    exact ⟨sL M.1 1, rfl, by rw [m5.2.2.2.2.2.2.2.2.2.2]; rfl⟩
/-- how many events have come up to now, as the reference counts them -/
theorem sg_came (n : Nat) (hn : 70000 < n) {N e c : Nat} {lo : Nat → Nat} {τ : S19} (hL : rLg τ.1 N e lo) (hc : c ≤ e) (h5 : sI τ.1 5 = nI c) : df_X19_count_132 n n (nI 0) τ = some ((nI (lo (c + 1))).toInt64, τ) := by
  obtain ⟨l1, l2, l3, l4, l5, l6⟩ := hL
  have ln := okL_N l3 (c + 1)
  obtain ⟨m, ee⟩ := nm_lq (fun g k => df_X19_count_132 n g (nI k) τ) (lo (c + 1)) n (by omega) (fun k m hk => by
    obtain ⟨c', g1, g2, g3, g4⟩ := okL_at l3 (show k < N by omega) (e + 1) 0 (by omega) (by rw [l3.1]; omega)
    have cc : c' ≤ c := by
      by_cases y : c' ≤ c
      · exact y
      · have := okL_le l3 (c + 1) c' (by omega)
        omega
    have w7 := l4 k c' g2 g3 g4
    show dF_X19_count_132 n (df_X19_count_132 n m) (nI k) τ = _
    generalize df_X19_count_132 n m = G
    unfold dF_X19_count_132
    rw [l1, if_neg (show ¬ nI N ≤ nI k from fun z => by rw [nI_leI (by omega) (by omega)] at z; omega), nm_ck (by omega) (by omega), nI_clamp (by omega), h5, w7, if_neg (show ¬ nI c < nI c' from fun z => by rw [nI_ltI (by omega) (by omega)] at z; omega), nb_let, show nI k + Int32.ofInt 1 = nI (k + 1) from nI_add ..])
  refine Eq.trans ee ?_
  show dF_X19_count_132 n (df_X19_count_132 n m) (nI (lo (c + 1))) τ = _
  unfold dF_X19_count_132 df_X19_count_159
  by_cases y : lo (c + 1) = N
  · rw [l1, y, if_pos (show nI N ≤ nI N by rw [nI_leI (by omega) (by omega)]; exact Nat.le_refl N)]
  · obtain ⟨c', g1, g2, g3, g4⟩ := okL_at l3 (show lo (c + 1) < N by omega) (e - c) (c + 1) (by omega) (Nat.le_refl _)
    have w7 := l4 (lo (c + 1)) c' g2 g3 g4
    rw [l1, if_neg (show ¬ nI N ≤ nI (lo (c + 1)) from fun z => by rw [nI_leI (by omega) (by omega)] at z; omega), nm_ck (by omega) (by omega), nI_clamp (by omega), h5, w7, if_pos (show nI c < nI c' by rw [nI_ltI (by omega) (by omega)]; omega)]
theorem nI_is {W k : Nat} (hW : W < 2 ^ 32) (hk : k < 2 ^ 31) : nI W = nI k ↔ W = k := ⟨fun z => by
  by_cases y : W < 2 ^ 31
  · rw [nI_eq y hk] at z; exact z
  · have := nm_neg (by omega) hW
    rw [z, nI_ltI hk (by omega)] at this
    omega, fun z => by rw [z]⟩
/-- count, but for 15 and 16 -/
theorem jc_count (n T L : Nat) (hn : 70000 < n) (w : Int32) (h15 : ¬ w = 15) (h16 : ¬ w = 16) (σ : S12) (τ : S19) (h : jA n (tl σ) τ) : ∃ (v : Int64) (τ' : S19), df_X12_count n T L w σ = some (v, σ) ∧ df_X19_count n w τ = some (v, τ') ∧ jA n (tl σ) τ' ∧ kR τ τ' := by
  have n1 : ¬ nI 1 = (0 : Int32) := by decide
  have n0 : nI 0 = (0 : Int32) := rfl
  obtain ⟨W, hW, rfl⟩ := nI_ex w
  have i14 : df_X19_in n (nI W).toInt64 0 14 () = some (if W ≤ 14 then nI 1 else nI 0, ()) := in_b n (b := 14) hW (by omega) rfl
  have i2 : df_X19_in n (nI W).toInt64 2 14 () = some (if 2 ≤ W ∧ W ≤ 14 then nI 1 else nI 0, ()) := by
    refine (in_64 n _ _ _).trans ?_
    rw [to_64, show (2 : Int64).toInt = 2 by decide, show (14 : Int64).toInt = 14 by decide]
    by_cases y : W < 2 ^ 31
    · rw [nI_toInt y]
      by_cases d : 2 ≤ W ∧ W ≤ 14
      · rw [if_pos d, if_pos (by omega)]
      · rw [if_neg d, if_neg (by omega)]
    · have g := nm_neg (by omega) hW
      rw [Int32.lt_iff_toInt_lt, show (nI 0).toInt = 0 from rfl] at g
      rw [if_neg (by omega), if_neg (by omega)]
  have goC : ∀ (x : Option (Int64 × S12)), (W ≤ 14 → (if sI σ.2.2.2.2.1 0 = 0 then (if nI W = 2 then df_X12_count_60 n T L (-1) σ else df_X12_count_60 n T L 0 σ) else (if (6 : Int32) ≤ nI W then (nd_b2 (df_X6_counted n (nI W) σ.2.2.2.2.2.1.2.2) (fun q7 s8 => nd_let ((σ.1, (σ.2.1, (σ.2.2.1, (σ.2.2.2.1, (σ.2.2.2.2.1, ((σ.2.2.2.2.2.1.1, (σ.2.2.2.2.2.1.2.1, s8)), σ.2.2.2.2.2.2))))))) (fun s10 => df_X12_count_89 n T L q7 s10))) else (nd_b2 (df_X11_told n (nI W) (tl σ)) (fun q11 s12 => nd_let (pl σ s12) (fun s14 => df_X12_count_89 n T L q11 s14))))) = x) → (¬ W ≤ 14 → some ((-1 : Int64), σ) = x) → df_X12_count n T L (nI W) σ = x := fun x ha hb => by
    unfold df_X12_count df_X12_count_0 df_X12_count_34
    rw [if_neg h15, if_neg h16]
    by_cases c : W ≤ 14
    · rw [if_neg (rg_a hW (k := 14) (by omega) c).1, if_pos (show nI W ≤ (14 : Int32) from (show nI W ≤ nI 14 by rw [nI_leI (by omega) (by omega)]; exact c))]
      exact ha c
    · rcases rg_e hW (k := 14) (by omega) c with b | ⟨b1, b2⟩
      · rw [if_pos b]; exact hb c
      · rw [if_neg b1, if_neg (show ¬ nI W ≤ (14 : Int32) from b2)]; exact hb c
  rcases jc_shows n hn h with ⟨h1, h2, h3⟩ | ⟨vn, Q, V, N, T', e, c, lo, τ', h1, h2, h3, h4, h5, h6, h7, h8⟩
  · refine ⟨if W = 2 ∨ ¬ W ≤ 14 then -1 else 0, (pI τ.1 0 0, τ.2), goC _ (fun c => ?_) (fun c => ?_), ?_, jA_0 h 0, kR_0 τ 0⟩
    · unfold df_X12_count_60
      rw [if_pos (show sI σ.2.2.2.2.1 0 = 0 from h1)]
      by_cases d : W = 2
      · rw [if_pos (show nI W = 2 by rw [d]; rfl), if_pos (Or.inl d)]
      · rw [if_neg (show ¬ nI W = 2 from fun z => d ((nI_is hW (by omega)).mp (show nI W = nI 2 from z))), if_neg (by omega)]
    · rw [if_pos (Or.inr c)]
    · unfold df_X19_count df_X19_count_0 df_X19_count_64 df_X19_count_71
      rw [if_neg h15, if_neg h16, h2, nb_b2, if_pos n0]
      by_cases d : W = 2
      · rw [if_pos (show nI W = 2 by rw [d]; rfl), if_pos (Or.inl d)]
      · rw [if_neg (show ¬ nI W = 2 from fun z => d ((nI_is hW (by omega)).mp (show nI W = nI 2 from z))), i14, nb_b2]
        by_cases y : W ≤ 14
        · rw [if_pos y, if_neg n1, if_neg (by omega)]
        · rw [if_neg y, if_pos n0, if_pos (Or.inr y)]
  · have nb0 : ¬ sI σ.2.2.2.2.1 0 = 0 := by rw [show sI σ.2.2.2.2.1 0 = nI 1 from h1]; exact n1
    have goR : df_X19_count n (nI W) τ = (if nI W = 0 then (some (((((sI τ'.1 5)).toInt64) : Int64), τ')) else (if nI W = 1 then (some (((((sI τ'.1 6)).toInt64) : Int64), τ')) else (if nI W = 2 then (df_X19_count_168 n (nI W) τ') else (if nI W = 3 then (some (((((sI τ'.1 8)).toInt64) : Int64), τ')) else (if nI W = 4 then (df_X19_count_132 n n (0) τ') else (if nI W = 5 then (some (((((sI τ'.1 9)).toInt64) : Int64), τ')) else (df_X19_count_168 n (nI W) τ'))))))) := by
      unfold df_X19_count df_X19_count_0
      rw [if_neg h15, if_neg h16, h2, nb_b2, if_neg n1]
    obtain ⟨hI, hL, hev, hv, ⟨g4, g5, g6⟩, hk, hX, h10, h14, hS, h11⟩ := id h3
    obtain ⟨hV, hC, hs, hPp, hce, c3, c4, c5, hA, _, hW'⟩ := id hI
    obtain ⟨l1, l2, l3, l4, l5, l6, l7, l8⟩ := id hC
    by_cases w6 : W < 6
    · have ws : W = 0 ∨ W = 1 ∨ W = 2 ∨ W = 3 ∨ W = 4 ∨ W = 5 := by omega
      have n6 : ¬ (6 : Int32) ≤ nI W := fun z => by have z : nI 6 ≤ nI W := z; rw [nI_leI (by omega) (by omega)] at z; omega
      have fin : ∀ v : Int64, df_X11_told n (nI W) (tl σ) = some (v, tl σ) → df_X12_count n T L (nI W) σ = some (v, σ) := fun v e => goC _ (fun c => by
        unfold df_X12_count_89
        rw [if_neg nb0, if_neg n6, e, nb_b2, nb_let, pl_tl]) (fun c => absurd (show W ≤ 14 by omega) c)
      rcases ws with rfl | rfl | rfl | rfl | rfl | rfl
      · refine ⟨(nI c).toInt64, τ', fin _ (by rw [← c3]; rfl), ?_, h8, h7⟩
        rw [goR, if_pos n0, g5]
      · refine ⟨(nI e).toInt64, τ', fin _ (by rw [← c4]; rfl), ?_, h8, h7⟩
        rw [goR, if_neg (show ¬ nI 1 = (0 : Int32) by decide), if_pos (show nI 1 = (1 : Int32) from rfl), g6]
      · refine ⟨(sI τ'.2.2.1.2.1 1).toInt64, τ', fin _ (by rw [← h5.2.2.2.2.1.1]; rfl), ?_, h8, h7⟩
        rw [goR, if_neg (show ¬ nI 2 = (0 : Int32) by decide), if_neg (show ¬ nI 2 = (1 : Int32) by decide), if_pos (show nI 2 = (2 : Int32) from rfl)]
        unfold df_X19_count_168 df_X19_count_196
        rw [i2, nb_b2, if_pos (show 2 ≤ 2 ∧ 2 ≤ 14 by omega), if_neg n1, sg_ct85 n (by omega) (by omega) (by omega) (by omega)]
        rfl
      · refine ⟨(nI N).toInt64, τ', fin _ ?_, ?_, h8, h7⟩
        · unfold df_X11_told df_X11_told_0
          rw [if_neg (show ¬ nI 3 = (0 : Int32) by decide), if_neg (show ¬ nI 3 = (1 : Int32) by decide), if_neg (show ¬ nI 3 = (2 : Int32) by decide), if_pos (show nI 3 = (3 : Int32) from rfl)]
          rcases hV with ⟨o1, o2⟩ | ⟨o1, o2⟩
          · rw [if_pos o1, o2, l1]
          · rw [if_neg (show ¬ sO (tl σ).1 0 = some 27 by rw [o1]; decide), if_pos o1, o2, l1]
        · rw [goR, if_neg (show ¬ nI 3 = (0 : Int32) by decide), if_neg (show ¬ nI 3 = (1 : Int32) by decide), if_neg (show ¬ nI 3 = (2 : Int32) by decide), if_pos (show nI 3 = (3 : Int32) from rfl), hL.1]
      · refine ⟨(nI (lo (c + 1))).toInt64, τ', fin _ (by rw [← c5]; rfl), ?_, h8, h7⟩
        rw [goR, if_neg (show ¬ nI 4 = (0 : Int32) by decide), if_neg (show ¬ nI 4 = (1 : Int32) by decide), if_neg (show ¬ nI 4 = (2 : Int32) by decide), if_neg (show ¬ nI 4 = (3 : Int32) by decide), if_pos (show nI 4 = (4 : Int32) from rfl)]
        exact sg_came n hn hL hce g5
      · refine ⟨(nI (T' - N)).toInt64, τ', fin _ ?_, ?_, h8, h7⟩
        · unfold df_X11_told df_X11_told_0
          rw [if_neg (show ¬ nI 5 = (0 : Int32) by decide), if_neg (show ¬ nI 5 = (1 : Int32) by decide), if_neg (show ¬ nI 5 = (2 : Int32) by decide), if_neg (show ¬ nI 5 = (3 : Int32) by decide), if_neg (show ¬ nI 5 = (4 : Int32) by decide)]
          rcases hV with ⟨o1, o2⟩ | ⟨o1, o2⟩
          · rw [if_pos o1, o2, l1, l2, pk_sub l3]
          · rw [if_neg (show ¬ sO (tl σ).1 0 = some 27 by rw [o1]; decide), if_pos o1, o2, l1, l2, pk_sub l3]
        · rw [goR, if_neg (show ¬ nI 5 = (0 : Int32) by decide), if_neg (show ¬ nI 5 = (1 : Int32) by decide), if_neg (show ¬ nI 5 = (2 : Int32) by decide), if_neg (show ¬ nI 5 = (3 : Int32) by decide), if_neg (show ¬ nI 5 = (4 : Int32) by decide), if_pos (show nI 5 = (5 : Int32) from rfl), hS.1]
    · have nk : ∀ k : Nat, k < 6 → ¬ nI W = nI k := fun k hk z => w6 (by rw [(nI_is hW (by omega)).mp z]; exact hk)
      have goR' : df_X19_count n (nI W) τ = df_X19_count_168 n (nI W) τ' := by
        rw [goR, if_neg (show ¬ nI W = (0 : Int32) from nk 0 (by omega)), if_neg (show ¬ nI W = (1 : Int32) from nk 1 (by omega)), if_neg (show ¬ nI W = (2 : Int32) from nk 2 (by omega)), if_neg (show ¬ nI W = (3 : Int32) from nk 3 (by omega)), if_neg (show ¬ nI W = (4 : Int32) from nk 4 (by omega)), if_neg (show ¬ nI W = (5 : Int32) from nk 5 (by omega))]
      by_cases w14 : W ≤ 14
      · obtain ⟨r, e1, e2⟩ := sg_counted n (by omega) h5 (show 6 ≤ W by omega) w14
        have e1 : df_X6_counted n (nI W) σ.2.2.2.2.2.1.2.2 = some (r, σ.2.2.2.2.2.1.2.2) := e1
        refine ⟨r, τ', goC _ (fun _ => ?_) (fun c => absurd w14 c), ?_, h8, h7⟩
        · unfold df_X12_count_89
          rw [if_neg nb0, if_pos (show (6 : Int32) ≤ nI W from (show nI 6 ≤ nI W by rw [nI_leI (by omega) (by omega)]; omega)), e1, nb_b2, nb_let]
        · rw [goR']
          unfold df_X19_count_168 df_X19_count_196
          rw [i2, nb_b2, if_pos (show 2 ≤ W ∧ W ≤ 14 by omega), if_neg n1, e2, nb_b2, nb_let]
      · refine ⟨-1, τ', goC _ (fun c => absurd c w14) (fun _ => rfl), ?_, h8, h7⟩
        rw [goR']
        unfold df_X19_count_168 df_X19_count_196
        rw [i2, nb_b2, if_neg (show ¬ (2 ≤ W ∧ W ≤ 14) by omega), if_pos n0]
/-- event -/
theorem jc_event (n T L : Nat) (k w : Int32) (σ : S12) (τ : S19) (h : jA n (tl σ) τ) : ∃ v : Int64, df_X12_event n T L k w σ = some (v, σ) ∧ df_X19_event n k w τ = some (v, (pI τ.1 0 0, τ.2)) ∧ jA n (tl σ) (pI τ.1 0 0, τ.2) ∧ kR τ (pI τ.1 0 0, τ.2) := by
  have key : ∃ (V : St) (N : Nat), N ≤ 2048 ∧ eA (tl σ) V ∧ sI V 0 = nI N ∧ sI τ.1 8 = nI N ∧ ∀ i : Nat, i < N → sR V 0 i = sR τ.1 5 i ∧ sQ V 0 i = (sR τ.1 7 i).toInt64 ∧ sQ V 1 i = sQ τ.1 0 i ∧ sR V 1 i = sR τ.1 6 i := by
    obtain ⟨h0, ⟨h1, h2, ⟨V, v1, v2, v3⟩, h4, h5, h6, h7⟩ | ⟨h1, h2, vn, Q, V, N, T', e, c, k', lo, h3⟩⟩ := id h
    · exact ⟨V, 0, by omega, v1, v2, h7.1, fun i hi => by omega⟩
    · obtain ⟨hI, hL, hev, hv, ⟨g4, g5, g6⟩, hk, hX, h10, h14, hS, h11⟩ := id h3
      obtain ⟨hV, hC, _⟩ := id hI
      obtain ⟨l1, l2, l3, l4, l5, l6, l7, l8⟩ := id hC
      obtain ⟨r1, r2, r3, r4, r5, r6⟩ := id hL
      refine ⟨V, N, r2, hV, l1, r1, fun i hi => ?_⟩
      have ee := hev i hi
      unfold evT evK at ee
      injection ee with e1 e2
      injection e2 with e2 e3
      obtain ⟨ka, a1, a2, _⟩ := l7 i (by omega)
      obtain ⟨kb, b1, b2, _⟩ := r5 i hi
      obtain ⟨c', c1, c2, c3, c4⟩ := okL_at l5 hi (e + 1) 0 (by omega) (by rw [l5.1]; omega)
      refine ⟨?_, ?_, e2.symm, e3.symm⟩
      · rw [a2, b2] at e1 ⊢
        rw [nI_clamp (by omega), nI_clamp (by omega)] at e1
        rw [e1]
      · rw [l6 i c' c2 c3 c4, r4 i c' c2 c3 c4]
  obtain ⟨V, N, hN, hV, v0, t8, hi⟩ := key
  obtain ⟨K, hK, rfl⟩ := nI_ex k
  have told : ∀ s : St, s = V → ∃ v : Int64, df_X3_told n (nI K) w s = some (v, s) ∧ df_X19_event n (nI K) w τ = some (v, (pI τ.1 0 0, τ.2)) := fun s es => by
    subst es
    unfold df_X3_told df_X3_told_0 df_X3_told_12 df_X19_event df_X19_event_0 df_X19_event_17 df_X19_event_82
    rw [nb_let, show sI (pI τ.1 0 0) 8 = nI N from t8, v0]
    by_cases c : K < N
    · obtain ⟨i1, i2, i3, i4⟩ := hi K c
      rw [if_neg (show ¬ nI K < (0 : Int32) from fun z => by rw [lz_0 hK] at z; omega), if_neg (show ¬ nI K < (0 : Int32) from fun z => by rw [lz_0 hK] at z; omega), if_pos (show nI K < nI N by rw [nI_ltI (by omega) (by omega)]; exact c), if_pos (show nI K < nI N by rw [nI_ltI (by omega) (by omega)]; exact c), nm_ck (by omega) (by omega), nm_ck (by omega) (by omega), nm_ck (by omega) (by omega), nm_ck (by omega) (by omega), nm_ck (by omega) (by omega), nm_ck (by omega) (by omega), nm_ck (by omega) (by omega), nm_ck (by omega) (by omega), nI_clamp (by omega), i1, i2, i3, i4]
      by_cases w0 : w = 0
      · rw [if_pos w0, if_pos w0]; exact ⟨_, rfl, rfl⟩
      · rw [if_neg w0, if_neg w0]
        by_cases w1 : w = 1
        · rw [if_pos w1, if_pos w1]; exact ⟨_, rfl, rfl⟩
        · rw [if_neg w1, if_neg w1]
          by_cases w2 : w = 2
          · rw [if_pos w2, if_pos w2]; exact ⟨_, rfl, rfl⟩
          · rw [if_neg w2, if_neg w2]
            by_cases w3 : w = 3
            · rw [if_pos w3, if_pos w3]; exact ⟨_, rfl, rfl⟩
            · rw [if_neg w3, if_neg w3]; exact ⟨_, rfl, rfl⟩
    · rcases rg_d hK (k := N) (by omega) c with b | ⟨b1, b2⟩
      · rw [if_pos b, if_pos b]; exact ⟨_, rfl, rfl⟩
      · have nl : ¬ nI K < nI N := fun z => by rw [Int32.lt_iff_toInt_lt] at z; rw [Int32.le_iff_toInt_le] at b2; omega
        rw [if_neg b1, if_neg b1, if_neg nl, if_neg nl]; exact ⟨_, rfl, rfl⟩
  rcases hV with ⟨o1, o2⟩ | ⟨o1, o2⟩
  · obtain ⟨v, t1, t2⟩ := told _ o2
    have t1 : df_X3_told n (nI K) w σ.2.2.2.2.2.2.1 = some (v, σ.2.2.2.2.2.2.1) := t1
    refine ⟨v, ?_, t2, jA_0 h 0, kR_0 τ 0⟩
    unfold df_X12_event df_X12_event_0
    rw [if_pos (show sO σ.2.2.2.2.1 0 = some 27 from o1), t1, nb_b2, nb_let]
  · obtain ⟨v, t1, t2⟩ := told _ o2
    have t1 : df_X3_told n (nI K) w σ.2.2.2.2.2.2.2.1 = some (v, σ.2.2.2.2.2.2.2.1) := t1
    refine ⟨v, ?_, t2, jA_0 h 0, kR_0 τ 0⟩
    unfold df_X12_event df_X12_event_0
    rw [if_neg (show ¬ sO σ.2.2.2.2.1 0 = some 27 by rw [show sO σ.2.2.2.2.1 0 = some 32 from o1]; decide), if_pos (show sO σ.2.2.2.2.1 0 = some 32 from o1), t1, nb_b2, nb_let]
theorem pool_id (f : Nat → St) (j : Nat) : (fun i => if i = j then f j else f i) = f := by
  funext i
  by_cases c : i = j
  · rw [if_pos c, c]
  · rw [if_neg c]
/-- line -/
theorem jc_line (n T L : Nat) (hn : 70000 < n) (p k : Int32) (σ : S12) (τ : S19) (hp : rpP (σ.2.1 1) σ.2.2.2.2.2.2.2.2.1 τ.1 (sR τ.2.1 9)) : ∃ v : Int32, df_X12_line n T L p k σ = some (v, σ) ∧ df_X19_line n p k τ = some (v, (pI τ.1 0 0, τ.2)) := by
  unfold df_X12_line df_X12_line_0 df_X12_line_19 df_X19_line df_X19_line_0 df_X19_line_32
  rw [nb_pOf, nb_b2, nb_let, nb_hasB, nb_b2]
  have z1 : ¬ (1 : Int32) = 0 := by decide
  by_cases c : 0 ≤ p.toInt ∧ p.toInt ≤ 3
  · obtain ⟨q, q1, q2, q3⟩ := ix_nI (k := 3) c.1 c.2
    subst q2
    rw [if_pos c, nI_clamp (by omega)]
    rcases hp q (by omega) with ⟨a, b⟩ | ⟨j, a1, a2, a3, TT, Z, a4, a5, a6, a7, a8, a9, b1, b2, b3, b4⟩
    · rw [a, nb_mN, if_neg (show ¬ ((0 ≤ (nI q).toInt ∧ (nI q).toInt ≤ 3 ∧ ¬ sR (pI τ.1 0 0, τ.2).1 0 q = 0) ∧ 0 ≤ k.toInt ∧ k.toInt < (sR (pI τ.1 0 0, τ.2).1 3 q).toInt) from fun z => z.1.2.2 (show sR (pI τ.1 0 0) 0 q = 0 from b)), if_pos rfl]
      exact ⟨_, rfl, rfl⟩
    · have b3 : sR (pI τ.1 0 0) 3 q = nI Z := b3
      have a3 : sR (pI τ.1 0 0) 0 q = nI 1 := a3
      rw [a2, nb_mS, nb_lt a1, b3, a3]
      obtain ⟨K, hK, rfl⟩ := nI_ex k
      by_cases d : K < Z
      · obtain ⟨z, l, l1, l2, l3, l4, l5⟩ := b4 K d
        rw [l5 n (by omega), nb_b2, nb_let, pool_id, if_pos (show (0 ≤ (nI q).toInt ∧ (nI q).toInt ≤ 3 ∧ ¬ nI 1 = 0) ∧ 0 ≤ (nI K).toInt ∧ (nI K).toInt < (nI Z).toInt from ⟨⟨c.1, c.2, by decide⟩, by rw [nI_toInt (by omega)]; omega, by rw [nI_toInt (by omega), nI_toInt (by omega)]; omega⟩), if_neg z1, show (32768 : Int32) * nI q + nI K = nI (32768 * q + K) by rw [show (32768 : Int32) * nI q = nI (32768 * q) from pk_mul ..]; exact nI_add .., nm_ck (by omega) (by omega), nI_clamp (by omega), show sR τ.2.1 9 (32768 * q + K) = nI (l * 256 + z) from l4, show nI (l * 256 + z) >>> ((8 : Int32) &&& 31) = nI l from (nm_shr (s := 8) (show l * 256 + z < 2 ^ 31 by omega) (by omega)).trans (by rw [show (l * 256 + z) / 2 ^ 8 = l by omega])]
        exact ⟨_, rfl, rfl⟩
      · have lz : df_X8_lineOf n (nI K) (σ.2.2.2.2.2.2.2.2.1 j) = some (0, σ.2.2.2.2.2.2.2.2.1 j) := by
          unfold df_X8_lineOf df_X8_lineOf_0 df_X8_lineOf_28
          rw [a9]
          rcases rg_d hK (k := Z) (by omega) d with b | ⟨c1, c2⟩
          · rw [if_pos b]
          · rw [if_neg c1, if_pos c2]
        rw [lz, nb_b2, nb_let, pool_id, if_neg (show ¬ ((0 ≤ (nI q).toInt ∧ (nI q).toInt ≤ 3 ∧ ¬ nI 1 = 0) ∧ 0 ≤ (nI K).toInt ∧ (nI K).toInt < (nI Z).toInt) from fun y => by
          have y1 := y.2.1
          have y2 := y.2.2
          rw [nI_toInt (show Z < 2 ^ 31 by omega)] at y2
          rw [nI_t hK] at y1 y2
          by_cases k31 : K < 2 ^ 31
          · rw [if_pos k31] at y2; omega
          · rw [if_neg k31] at y1; omega), if_pos rfl]
        exact ⟨_, rfl, rfl⟩
  · rw [if_neg c, nb_mN, if_neg (show ¬ ((0 ≤ p.toInt ∧ p.toInt ≤ 3 ∧ ¬ sR (pI τ.1 0 0, τ.2).1 0 p.toNatClampNeg = 0) ∧ 0 ≤ k.toInt ∧ k.toInt < (sR (pI τ.1 0 0, τ.2).1 3 p.toNatClampNeg).toInt) from fun z => c ⟨z.1.1, z.1.2.1⟩), if_pos rfl]
    exact ⟨_, rfl, rfl⟩

theorem lT {n : Nat} (h : n < 2 ^ 63) : (Int64.ofNat n).toInt = (n : Int) := lg_ofNat_toInt h
theorem lshr {n : Nat} (h : n < 2 ^ 63) (s : Int64) (k : Nat) (hs : (s.toBitVec.smod 64).toNat = k) : Int64.ofNat n >>> s = Int64.ofNat (n / 2 ^ k) := by
  apply Int64.toInt_inj.mp
  have h2 : n / 2 ^ k ≤ n := Nat.div_le_self _ _
  have e : (Int64.ofNat n >>> s).toInt = (Int64.ofNat n).toInt >>> k := by
    show ((Int64.ofNat n).toBitVec.sshiftRight (s.toBitVec.smod 64).toNat).toInt = _
    rw [hs, BitVec.toInt_sshiftRight]
    rfl
  rw [e, lT h, lT (by omega), Int.shiftRight_eq_div_pow]
  rfl
theorem dn_1 (k : Nat) : nI k + Int32.ofInt (-1) = nI k - nI 1 := by
  rw [Int32.sub_eq_add_neg]
  rfl
theorem dn_2 (k : Nat) : nI (k + 1) - nI 1 = nI k := (pk_sub (show 1 ≤ k + 1 by omega)).trans (by rw [show k + 1 - 1 = k by omega])
theorem dn_0 : nI 0 - nI 1 < (0 : Int32) := by decide
theorem dn_3 {k : Nat} (h : k < 2 ^ 31) : ¬ nI k < (0 : Int32) := fun z => by rw [lz_0 (by omega)] at z; omega
/-- how long behind the one before -/
def dT (t : Nat → Nat) (i : Nat) : Nat := if i = 0 then t 0 else t i - t (i - 1)
def dP (t : Nat → Nat) (i : Nat) : Nat := if i = 0 then 0 else dT t (i - 1)
/-- the events that are packed, in both -/
def pkR (N : Nat) (K t : Nat → Nat) (A : Nat → Int64) (B : Nat → Int32) (V C : St) : Prop := N ≤ 2048 ∧ sI V 0 = nI N ∧ sI C 0 = nI N ∧ (∀ i : Nat, i + 1 < N → t i ≤ t (i + 1)) ∧ ∀ i : Nat, i < N → K i < 5 ∧ t i ≤ 60000 ∧ evV (K i) (A i) (B i) ∧ (sR V 0 i = nI (K i) ∧ sQ V 0 i = Int64.ofNat (t i) ∧ sQ V 1 i = A i ∧ sR V 1 i = B i) ∧ sR C 0 i = nI (K i) ∧ sR C 1 i = B i ∧ sQ C 0 i = Int64.ofNat (dT t i) ∧ sQ C 1 i = A i
/-- p bytes are written, the same in both -/
def pkJ (T p : Nat) (V0 C0 : St) (s : St × St) (C : St) : Prop := p ≤ 32768 ∧ sO s.2 0 = some T ∧ sI s.2 2 = nI p ∧ sI C 1 = nI p ∧ (∀ j : Nat, j < p → sR C 2 j = sR s.1 0 j &&& 255) ∧ (∀ k : Nat, ¬ k = 2 → sI s.2 k = sI V0 k) ∧ (∀ k : Nat, sR s.2 k = sR V0 k) ∧ (∀ k : Nat, sQ s.2 k = sQ V0 k) ∧ (∀ k : Nat, ¬ k = 1 → sI C k = sI C0 k) ∧ (∀ k : Nat, ¬ k = 2 → sR C k = sR C0 k) ∧ (∀ k : Nat, sQ C k = sQ C0 k) ∧ ∀ k : Nat, sO C k = sO C0 k
theorem pkR_J {N : Nat} {K t : Nat → Nat} {A : Nat → Int64} {B : Nat → Int32} {V0 C0 C : St} {s : St × St} {T p : Nat} (h : pkR N K t A B V0 C0) (j : pkJ T p V0 C0 s C) : pkR N K t A B s.2 C := by
  obtain ⟨a1, a2, a3, a4, a5, a6, a7, a8, a9, b1, b2, b3⟩ := j
  obtain ⟨h1, h2, h3, h4, h5⟩ := h
  refine ⟨h1, (a6 0 (by omega)).trans h2, (a9 0 (by omega)).trans h3, h4, fun i hi => ?_⟩
  rw [a7 0, a7 1, a8 0, a8 1, b1 0 (by omega), b1 1 (by omega), b2 0, b2 1]
  exact h5 i hi
theorem pk_byte (n T : Nat) {p : Nat} {V0 C0 C : St} {s : St × St} (h : pkJ T p V0 C0 s C) (hp : p < 32768) (v : Int32) : ∃ (s' : St × St) (C' : St), df_X3_putByte n T v s = some s' ∧ df_X14_put n v C = some C' ∧ pkJ T (p + 1) V0 C0 s' C' := by
  obtain ⟨a1, a2, a3, a4, a5, a6, a7, a8, a9, b1, b2, b3⟩ := h
  have u1 : p < 2 ^ 31 := by omega
  have k1 : ¬ 32768 ≤ p := by omega
  refine ⟨(pR s.1 0 (upd (sR s.1 0) p (vp_nar .byte (v.toInt8.toInt32))), pI s.2 2 (nI (p + 1))), pI (pR C 2 (upd (sR C 2) p (v &&& nI 255))) 1 (nI (p + 1)), ?_, ?_, by omega, a2, rfl, rfl, fun j hj => ?_, fun k hk => ?_, a7, a8, fun k hk => ?_, fun k hk => ?_, b2, b3⟩
  · simp (disch := (first | assumption | decide | omega)) only [df_X3_putByte_33, df_X3_putByte_0, df_X3_putByte, nb_o, a3, eq_self, Nat.reduceEqDiff, Nat.reduceLeDiff, nl_0, nl_1, nl_2, nl_32768, no_1, no_1024, pk_mul, nI_add, nm_ck, nI_clamp, nI_ltI, nI_leI, nI_eq, nb_b2, nb_b1, ↓nb_let, nm_z0, nm_z1, nb_II, nb_IR, nb_RI, nb_RR, nm_IL, nm_IQ, nm_RL, nm_RQ, nm_LI, nm_LR, nm_LL, nm_LQ, nm_QI, nm_QR, nm_QL, nm_QQ, nm_rr, nm_ii, nm_eqm, not_false_eq_true, pk_sub, nm_div, nm_shl, nm_shr, nm_ush, nm_or8, nm_or64, nm_or256, nm_m1, nm_m3, nm_m7, nm_m15, nm_m31, nm_m63, nm_m255, nm_m511, nm_m1023, nm_m2047, nm_m65535, Nat.reduceMod, Nat.reducePow, Nat.reduceAdd, Nat.reduceSub, Nat.reduceMul, nm_bo, nm_bi, nm_rc, nm_ic, nm_ri, nm_rl, nm_rq, nm_ql, nm_qi, nm_li, nm_us, nm_uu, nm_cp, nm_sa31, nm_sa7, nm_m127, nm_m2, nm_nz, nm_nzk, nm_eq32, nm_nzf, if_true, if_false, ↓reduceIte, if_pos, if_neg]
  · simp (disch := (first | assumption | decide | omega)) only [df_X14_put_0, df_X14_put, a4, eq_self, Nat.reduceEqDiff, Nat.reduceLeDiff, nl_1, nl_2, nl_255, nl_32768, no_1, no_1024, pk_mul, nI_add, nm_ck, nI_clamp, nI_ltI, nI_leI, nI_eq, nb_b2, nb_b1, ↓nb_let, nm_z0, nm_z1, nb_II, nb_IR, nb_RI, nb_RR, nm_IL, nm_IQ, nm_RL, nm_RQ, nm_LI, nm_LR, nm_LL, nm_LQ, nm_QI, nm_QR, nm_QL, nm_QQ, nm_rr, nm_ii, nm_eqm, not_false_eq_true, pk_sub, nm_div, nm_shl, nm_shr, nm_ush, nm_or8, nm_or64, nm_or256, nm_m1, nm_m3, nm_m7, nm_m15, nm_m31, nm_m63, nm_m255, nm_m511, nm_m1023, nm_m2047, nm_m65535, Nat.reduceMod, Nat.reducePow, Nat.reduceAdd, Nat.reduceSub, Nat.reduceMul, nm_bo, nm_bi, nm_rc, nm_ic, nm_ri, nm_rl, nm_rq, nm_ql, nm_qi, nm_li, nm_us, nm_uu, nm_cp, nm_sa31, nm_sa7, nm_m127, nm_m2, nm_nz, nm_nzk, nm_eq32, nm_nzf, if_true, if_false, ↓reduceIte, if_pos, if_neg]
  · show upd (sR C 2) p (v &&& nI 255) j = upd (sR s.1 0) p (vp_nar .byte (v.toInt8.toInt32)) j &&& 255
    by_cases c : j = p
    · rw [c, nm_us, nm_us, pk_vb]
      exact (nb_byte v).symm
    · rw [nm_un c, nm_un c]
      exact a5 j (by omega)
  · show sI (pI s.2 2 _) k = _
    rw [nb_II, if_neg hk]
    exact a6 k hk
  · show sI (pI (pR C 2 _) 1 _) k = _
    rw [nb_II, if_neg hk]
    exact a9 k hk
  · show sR (pR C 2 _) k = _
    rw [nb_RR, if_neg hk]
    exact b1 k hk
/-- a number in bytes of seven bits, in both -/
theorem pk_var (n T : Nat) {V0 C0 : St} : ∀ (m x i g g' p : Nat) (s : St × St) (C : St), x < 2 ^ (7 * m) → 1 ≤ m → i + m ≤ 7 → m ≤ g → m ≤ g' → p + m ≤ 32768 → pkJ T p V0 C0 s C → ∃ (p' : Nat) (s' : St × St) (C' : St), p' ≤ p + m ∧ df_X3_putVarint_5 n T g (Int64.ofNat x) (nI i) s = some s' ∧ df_X14_varint_2 n g' (Int64.ofNat x) C = some C' ∧ pkJ T p' V0 C0 s' C'
  | 0, _, _, _, _, _, _, _, _, h1, _, _, _, _, _ => absurd h1 (by omega)
  | m + 1, x, i, g, g', p, s, C, hx, _, hi, hg, hg', hp, h => by
    obtain ⟨g1, rfl⟩ : ∃ g1 : Nat, g = g1 + 1 := ⟨g - 1, by omega⟩
    obtain ⟨g2, rfl⟩ : ∃ g2 : Nat, g' = g2 + 1 := ⟨g' - 1, by omega⟩
    have b49 : 2 ^ (7 * (m + 1)) ≤ 2 ^ 49 := Nat.pow_le_pow_right (by omega) (by omega)
    have x63 : x < 2 ^ 63 := by omega
    have i7 : ¬ (7 : Int32) ≤ nI i := fun z => by have z : nI 7 ≤ nI i := z; rw [nI_leI (by omega) (by omega)] at z; omega
    have t127 : (127 : Int64).toInt = 127 := by decide
    show ∃ (p' : Nat) (s' : St × St) (C' : St), p' ≤ p + (m + 1) ∧ dF_X3_putVarint_5 n T (df_X3_putVarint_5 n T g1) (Int64.ofNat x) (nI i) s = some s' ∧ dF_X14_varint_2 n (df_X14_varint_2 n g2) (Int64.ofNat x) C = some C' ∧ pkJ T p' V0 C0 s' C'
    by_cases c : x ≤ 127
    · obtain ⟨s', C', e1, e2, e3⟩ := pk_byte n T h (by omega) (Int64.ofNat x).toInt32
      have lc : lg_cmp (Int64.ofNat x) 127 ≤ (0 : Int32) := (lcD _ _).mpr (by rw [lT x63, t127]; omega)
      refine ⟨p + 1, s', C', by omega, ?_, ?_, e3⟩
      · unfold dF_X3_putVarint_5 df_X3_putVarint_45
        rw [if_neg i7, if_pos lc, e1, nb_b1]
      · unfold dF_X14_varint_2
        rw [if_pos lc, e2, nb_b1]
    · have lc : ¬ lg_cmp (Int64.ofNat x) 127 ≤ (0 : Int32) := fun z => by have z := (lcD _ _).mp z; rw [lT x63, t127] at z; omega
      obtain ⟨s1, C1, e1, e2, e3⟩ := pk_byte n T h (by omega) ((Int64.ofNat x &&& 127).toInt32 ||| 128)
      have m1 : 1 ≤ m := by
        by_cases y : m = 0
        · subst y
          have : x < 2 ^ 7 := hx
          omega
        · omega
      have xd : x / 128 < 2 ^ (7 * m) := by
        apply Nat.div_lt_of_lt_mul
        rw [show 7 * (m + 1) = 7 + 7 * m by omega, Nat.pow_add] at hx
        exact hx
      obtain ⟨p', s', C', f1, f2, f3, f4⟩ := pk_var n T m (x / 128) (i + 1) g1 g2 (p + 1) s1 C1 xd m1 (by omega) (by omega) (by omega) (by omega) e3
      have sh : Int64.ofNat x >>> ((7 : Int32).toInt64 &&& 63) = Int64.ofNat (x / 128) := lshr x63 _ 7 (by decide)
      refine ⟨p', s', C', by omega, ?_, ?_, f4⟩
      · unfold dF_X3_putVarint_5
        rw [if_neg i7, if_neg lc, e1, nb_b1, nb_let, nb_let, sh, show nI i + Int32.ofInt 1 = nI (i + 1) from nI_add ..]
        exact f2
      · unfold dF_X14_varint_2
        rw [if_neg lc, e2, nb_b1, nb_let, sh]
        exact f3
theorem pk_varN (n T : Nat) (hn : 1024 < n) {V0 C0 C : St} {s : St × St} {m x p : Nat} (hx : x < 2 ^ (7 * m)) (h1 : 1 ≤ m) (h7 : m ≤ 7) (hp : p + m ≤ 32768) (h : pkJ T p V0 C0 s C) : ∃ (p' : Nat) (s' : St × St) (C' : St), p' ≤ p + m ∧ df_X3_putVarint n T (Int64.ofNat x) s = some s' ∧ df_X14_varint n (Int64.ofNat x) C = some C' ∧ pkJ T p' V0 C0 s' C' := pk_var n T m x 0 n n p s C hx h1 (by omega) (by omega) (by omega) hp h
/-- bytes, the highest first, in both -/
theorem pk_bytes (n T : Nat) {V0 C0 : St} {a : Int64} {e : Nat} (hq : sQ C0 1 e = a) (he : e < 2048) : ∀ (k g g' p : Nat) (s : St × St) (C : St), k < g → k < g' → p + k ≤ 32768 → k ≤ 8 → pkJ T p V0 C0 s C → ∃ (s' : St × St) (C' : St), df_X3_putBytes_5 n T g a (nI k - nI 1) s = some s' ∧ df_X14_entry_291 n g' (nI e) (nI k - nI 1) C = some C' ∧ pkJ T (p + k) V0 C0 s' C'
  | 0, g, g', p, s, C, hg, hg', _, _, h => by
    obtain ⟨g1, rfl⟩ : ∃ g1 : Nat, g = g1 + 1 := ⟨g - 1, by omega⟩
    obtain ⟨g2, rfl⟩ : ∃ g2 : Nat, g' = g2 + 1 := ⟨g' - 1, by omega⟩
    refine ⟨s, C, ?_, ?_, h⟩
    · show dF_X3_putBytes_5 n T (df_X3_putBytes_5 n T g1) a _ s = _
      unfold dF_X3_putBytes_5
      rw [if_pos dn_0]
    · show dF_X14_entry_291 n (df_X14_entry_291 n g2) (nI e) _ C = _
      unfold dF_X14_entry_291
      rw [if_pos dn_0]
  | k + 1, g, g', p, s, C, hg, hg', hp, h8, h => by
    obtain ⟨g1, rfl⟩ : ∃ g1 : Nat, g = g1 + 1 := ⟨g - 1, by omega⟩
    obtain ⟨g2, rfl⟩ : ∃ g2 : Nat, g' = g2 + 1 := ⟨g' - 1, by omega⟩
    obtain ⟨s1, C1, e1, e2, e3⟩ := pk_byte n T h (by omega) (a >>> ((8 * nI k).toInt64 &&& 63)).toInt32
    obtain ⟨s', C', f1, f2, f3⟩ := pk_bytes n T hq he k g1 g2 (p + 1) s1 C1 (by omega) (by omega) (by omega) (by omega) e3
    have qa : sQ C 1 e = a := by rw [h.2.2.2.2.2.2.2.2.2.2.1 1]; exact hq
    refine ⟨s', C', ?_, ?_, by rw [show p + (k + 1) = p + 1 + k by omega]; exact f3⟩
    · rw [dn_2]
      show dF_X3_putBytes_5 n T (df_X3_putBytes_5 n T g1) a _ s = _
      unfold dF_X3_putBytes_5
      rw [if_neg (dn_3 (by omega)), e1, nb_b1, nb_let, dn_1]
      exact f1
    · rw [dn_2]
      show dF_X14_entry_291 n (df_X14_entry_291 n g2) (nI e) _ C = _
      unfold dF_X14_entry_291
      rw [if_neg (dn_3 (by omega)), nm_ck he (by omega), nI_clamp (by omega), qa, e2, nb_b1, nb_let, dn_1]
      exact f2
/-- whether two bring the same, in both -/
theorem pk_same (n : Nat) {N : Nat} {K t : Nat → Nat} {A : Nat → Int64} {B : Nat → Int32} {V C : St} (h : pkR N K t A B V C) {i j : Nat} (hi : i < N) (hj : j < N) : ∃ r : Int32, (r = nI 0 ∨ r = nI 1) ∧ df_X3_bringsSame n (nI i) (nI j) V = some (r, V) ∧ df_X14_bringsSame n (nI i) (nI j) C = some (r, C) ∧ (r = nI 1 ↔ K i = K j ∧ A i = A j ∧ B i = B j) := by
  obtain ⟨h1, h2, h3, h4, h5⟩ := h
  obtain ⟨i1, i2, i3, ⟨i4, i5, i6, i7⟩, i8, i9, ia, ib⟩ := h5 i hi
  obtain ⟨j1, j2, j3, ⟨j4, j5, j6, j7⟩, j8, j9, ja, jb⟩ := h5 j hj
  have ui : i < 2 ^ 31 := by omega
  have uj : j < 2 ^ 31 := by omega
  have vi : i < 2048 := by omega
  have vj : j < 2048 := by omega
  have n10 : ¬ nI 0 = nI 1 := by decide
  unfold df_X3_bringsSame df_X3_bringsSame_0 df_X3_bringsSame_50 df_X3_bringsSame_51 df_X14_bringsSame df_X14_bringsSame_0 df_X14_bringsSame_50 df_X14_bringsSame_51
  simp only [nm_ck vi ui, nm_ck vj uj, nI_clamp ui, nI_clamp uj, i4, i6, i7, j4, j6, j7, i8, i9, ib, j8, j9, jb, lcE]
  by_cases a : K i = K j
  · rw [if_pos (show nI (K i) = nI (K j) by rw [a]), if_pos (show nI (K i) = nI (K j) by rw [a])]
    by_cases b : A i = A j
    · rw [if_pos b, if_pos b]
      by_cases c : B i = B j
      · rw [if_pos c, if_pos c]
        exact ⟨nI 1, Or.inr rfl, nm_z1, nm_z1, fun _ => ⟨a, b, c⟩, fun _ => rfl⟩
      · rw [if_neg c, if_neg c]
        exact ⟨nI 0, Or.inl rfl, nm_z0, nm_z0, fun z => absurd z n10, fun z => absurd z.2.2 c⟩
    · rw [if_neg b, if_neg b]
      exact ⟨nI 0, Or.inl rfl, nm_z0, nm_z0, fun z => absurd z n10, fun z => absurd z.2.1 b⟩
  · have a' : ¬ nI (K i) = nI (K j) := fun z => by rw [nI_eq (by omega) (by omega)] at z; exact a z
    rw [if_neg a', if_neg a']
    exact ⟨nI 0, Or.inl rfl, nm_z0, nm_z0, fun z => absurd z n10, fun z => absurd z.1 a⟩
theorem pk_diff (n : Nat) {N : Nat} {K t : Nat → Nat} {A : Nat → Int64} {B : Nat → Int32} {V C : St} (h : pkR N K t A B V C) {i : Nat} (hi : i < N) : df_X3_difference n (nI i) V = some (Int64.ofNat (dT t i), V) := by
  obtain ⟨h1, h2, h3, h4, h5⟩ := h
  unfold df_X3_difference df_X3_difference_0 df_X3_difference_28 dT
  by_cases c : i = 0
  · subst c
    rw [if_neg (show ¬ (0 : Int32) < nI 0 by decide), if_pos rfl]
    rw [show (Int32.toNatClampNeg 0) = 0 from rfl, (h5 0 hi).2.2.2.1.2.1]
  · rw [if_pos (show (0 : Int32) < nI i from (show nI 0 < nI i by rw [nI_ltI (by omega) (by omega)]; omega)), if_neg c, nm_ck (by omega) (by omega), show nI i - 1 = nI (i - 1) from pk_sub (show 1 ≤ i by omega), nm_ck (by omega) (by omega), nI_clamp (by omega), nI_clamp (by omega), (h5 i hi).2.2.2.1.2.1, (h5 (i - 1) (by omega)).2.2.2.1.2.1]
    have m := h4 (i - 1) (by omega)
    rw [show i - 1 + 1 = i by omega] at m
    rw [on_sub m]
theorem dT_le {N : Nat} {K t : Nat → Nat} {A : Nat → Int64} {B : Nat → Int32} {V C : St} (h : pkR N K t A B V C) {i : Nat} (hi : i < N) : dT t i ≤ 60000 := by
  have := (h.2.2.2.2 i hi).2.1
  unfold dT
  by_cases c : i = 0
  · rw [if_pos c]; rw [c] at this; exact this
  · rw [if_neg c]; omega
/-- which of the latest typed ones is the same, in both -/
theorem pk_copy (n : Nat) {N : Nat} {K t : Nat → Nat} {A : Nat → Int64} {B : Nat → Int32} {V C : St} (h : pkR N K t A B V C) {i : Nat} (hi : i < N) : ∀ (j x g g' : Nat), j ≤ i → j < g → j < g' → x ≤ 20 → ∃ r : Nat, r ≤ 20 ∧ df_X3_sameTyped_6 n g (nI i) (nI x) (nI j - nI 1) V = some (nI r, V) ∧ df_X14_copyOf_6 n g' (nI i) (nI x) (nI j - nI 1) C = some (nI r, C)
  | 0, x, g, g', _, hg, hg', _ => by
    obtain ⟨g1, rfl⟩ : ∃ g1 : Nat, g = g1 + 1 := ⟨g - 1, by omega⟩
    obtain ⟨g2, rfl⟩ : ∃ g2 : Nat, g' = g2 + 1 := ⟨g' - 1, by omega⟩
    refine ⟨0, by omega, ?_, ?_⟩
    · show dF_X3_sameTyped_6 n (df_X3_sameTyped_6 n g1) _ _ _ V = _
      unfold dF_X3_sameTyped_6
      rw [if_pos dn_0]
      rfl
    · show dF_X14_copyOf_6 n (df_X14_copyOf_6 n g2) _ _ _ C = _
      unfold dF_X14_copyOf_6
      rw [if_pos dn_0]
      rfl
  | j + 1, x, g, g', hj, hg, hg', hx => by
    obtain ⟨g1, rfl⟩ : ∃ g1 : Nat, g = g1 + 1 := ⟨g - 1, by omega⟩
    obtain ⟨g2, rfl⟩ : ∃ g2 : Nat, g' = g2 + 1 := ⟨g' - 1, by omega⟩
    have ih := fun x hx => pk_copy n h hi j x g1 g2 (by omega) (by omega) (by omega) hx
    obtain ⟨r, r1, s1, s2, s3⟩ := pk_same n h hi (show j < N by omega)
    obtain ⟨h1, h2, h3, h4, h5⟩ := h
    obtain ⟨i1, i2, i3, ⟨i4, i5, i6, i7⟩, i8, i9, ia, ib⟩ := h5 i hi
    obtain ⟨j1, j2, j3, ⟨j4, j5, j6, j7⟩, j8, j9, ja, jb⟩ := h5 j (by omega)
    have ui : i < 2 ^ 31 := by omega
    have uj : j < 2 ^ 31 := by omega
    have vi : i < 2048 := by omega
    have vj : j < 2048 := by omega
    rw [dn_2]
    show ∃ r : Nat, r ≤ 20 ∧ dF_X3_sameTyped_6 n (df_X3_sameTyped_6 n g1) (nI i) (nI x) (nI j) V = some (nI r, V) ∧ dF_X14_copyOf_6 n (df_X14_copyOf_6 n g2) (nI i) (nI x) (nI j) C = some (nI r, C)
    generalize df_X3_sameTyped_6 n g1 = G at ih
    generalize df_X14_copyOf_6 n g2 = H at ih
    unfold dF_X3_sameTyped_6 dF_X14_copyOf_6 df_X3_sameTyped_50 df_X3_sameTyped_56 df_X14_copyOf_53 df_X14_copyOf_59
    rw [if_neg (dn_3 uj), if_neg (dn_3 uj)]
    by_cases c : 20 ≤ x
    · have c' : (20 : Int32) ≤ nI x := (show nI 20 ≤ nI x by rw [nI_leI (by omega) (by omega)]; exact c)
      rw [if_pos c', if_pos c']
      exact ⟨0, by omega, rfl, rfl⟩
    · have c' : ¬ (20 : Int32) ≤ nI x := fun z => by have z : nI 20 ≤ nI x := z; rw [nI_leI (by omega) (by omega)] at z; exact c z
      rw [if_neg c', if_neg c', nm_ck vi ui, nm_ck vi ui, nI_clamp ui, i7, i9]
      by_cases d : B i ≤ 1
      · rw [if_pos d, if_pos d]
        exact ⟨0, by omega, rfl, rfl⟩
      · rw [if_neg d, if_neg d, nm_ck vj uj, nm_ck vj uj, nI_clamp uj, j4, j8]
        by_cases k1 : K j = 1
        · rw [if_pos (show nI (K j) = 1 by rw [k1]; rfl), if_pos (show nI (K j) = 1 by rw [k1]; rfl), nb_let, nb_let, s1, s2, nb_b2, nb_b2, show nI x + Int32.ofInt 1 = nI (x + 1) from nI_add ..]
          rcases r1 with e | e
          · rw [if_pos (show r = 0 from e), if_pos (show r = 0 from e), nb_let, nb_let, dn_1]
            exact ih (x + 1) (by omega)
          · have e' : ¬ r = 0 := by rw [e]; decide
            rw [if_neg e', if_neg e']
            exact ⟨x + 1, by omega, rfl, rfl⟩
        · have k1' : ¬ nI (K j) = 1 := fun z => by have z : nI (K j) = nI 1 := z; rw [nI_eq (by omega) (by omega)] at z; exact k1 z
          rw [if_neg k1', if_neg k1', nb_let, nb_let, dn_1]
          exact ih x hx
/-- the clock that was set last, in both -/
theorem pk_far (n : Nat) {N : Nat} {K t : Nat → Nat} {A : Nat → Int64} {B : Nat → Int32} {V C : St} (h : pkR N K t A B V C) {i : Nat} (hi : i < N) : ∀ (j g g' : Nat), j ≤ i → j < g → j < g' → (df_X3_latest_9 n g 3 1 (nI j - nI 1) V = some (-1, V) ∧ df_X14_isAsFar_4 n g' (nI i) (nI j - nI 1) C = some (nI 0, C)) ∨ ∃ f : Nat, f < N ∧ df_X3_latest_9 n g 3 1 (nI j - nI 1) V = some (nI f, V) ∧ df_X14_isAsFar_4 n g' (nI i) (nI j - nI 1) C = some (if A f = A i then nI 1 else nI 0, C)
  | 0, g, g', _, hg, hg' => by
    obtain ⟨g1, rfl⟩ : ∃ g1 : Nat, g = g1 + 1 := ⟨g - 1, by omega⟩
    obtain ⟨g2, rfl⟩ : ∃ g2 : Nat, g' = g2 + 1 := ⟨g' - 1, by omega⟩
    refine Or.inl ⟨?_, ?_⟩
    · show dF_X3_latest_9 n (df_X3_latest_9 n g1) _ _ _ V = _
      unfold dF_X3_latest_9
      rw [if_pos dn_0]
    · show dF_X14_isAsFar_4 n (df_X14_isAsFar_4 n g2) _ _ C = _
      unfold dF_X14_isAsFar_4 df_X14_isAsFar_24
      rw [if_pos dn_0, if_pos dn_0]
      exact nm_z0
  | j + 1, g, g', hj, hg, hg' => by
    obtain ⟨g1, rfl⟩ : ∃ g1 : Nat, g = g1 + 1 := ⟨g - 1, by omega⟩
    obtain ⟨g2, rfl⟩ : ∃ g2 : Nat, g' = g2 + 1 := ⟨g' - 1, by omega⟩
    have ih := pk_far n h hi j g1 g2 (by omega) (by omega) (by omega)
    obtain ⟨h1, h2, h3, h4, h5⟩ := h
    obtain ⟨i1, i2, i3, ⟨i4, i5, i6, i7⟩, i8, i9, ia, ib⟩ := h5 i hi
    obtain ⟨j1, j2, j3, ⟨j4, j5, j6, j7⟩, j8, j9, ja, jb⟩ := h5 j (by omega)
    have ui : i < 2 ^ 31 := by omega
    have uj : j < 2 ^ 31 := by omega
    have vi : i < 2048 := by omega
    have vj : j < 2048 := by omega
    rw [dn_2]
    show (dF_X3_latest_9 n (df_X3_latest_9 n g1) 3 1 (nI j) V = some (-1, V) ∧ dF_X14_isAsFar_4 n (df_X14_isAsFar_4 n g2) (nI i) (nI j) C = some (nI 0, C)) ∨ ∃ f : Nat, f < N ∧ dF_X3_latest_9 n (df_X3_latest_9 n g1) 3 1 (nI j) V = some (nI f, V) ∧ dF_X14_isAsFar_4 n (df_X14_isAsFar_4 n g2) (nI i) (nI j) C = some (if A f = A i then nI 1 else nI 0, C)
    generalize df_X3_latest_9 n g1 = G at ih
    generalize df_X14_isAsFar_4 n g2 = H at ih
    unfold dF_X3_latest_9 dF_X14_isAsFar_4 df_X3_latest_41 df_X14_isAsFar_24 df_X14_isAsFar_48 df_X14_isAsFar_49
    rw [if_neg (dn_3 uj), if_neg (dn_3 uj), if_neg (dn_3 uj), nm_ck vj uj, nm_ck vj uj, nm_ck vj uj, nI_clamp uj, nm_ck vi ui, nI_clamp ui, j4, j8, jb, ib]
    by_cases k3 : K j = 3
    · rw [if_pos (show nI (K j) = 3 by rw [k3]; rfl), if_pos (show nI (K j) = 3 by rw [k3]; rfl), nb_let, show (1 : Int64) - 1 = 0 by decide, if_pos (show lg_cmp 0 0 = (0 : Int32) by decide)]
      refine Or.inr ⟨j, by omega, rfl, ?_⟩
      by_cases a : A j = A i
      · rw [if_pos ((lcE _ _).mpr a), if_pos a]
        exact nm_z1
      · rw [if_neg (fun z => a ((lcE _ _).mp z)), if_neg a]
        exact nm_z0
    · have k3' : ¬ nI (K j) = 3 := fun z => by have z : nI (K j) = nI 3 := z; rw [nI_eq (by omega) (by omega)] at z; exact k3 z
      rw [if_neg k3', if_neg k3', nb_let, nb_let, dn_1]
      exact ih
theorem pk_clock (n : Nat) (hn : 4096 < n) {N : Nat} {K t : Nat → Nat} {A : Nat → Int64} {B : Nat → Int32} {V C : St} (h : pkR N K t A B V C) {i : Nat} (hi : i < N) : ∃ r : Nat, r < 2 ∧ df_X3_sameClock n (nI i) V = some (nI r, V) ∧ df_X14_isAsFar n (nI i) C = some (nI r, C) := by
  have N8 := h.1
  have vi : i < 2048 := by omega
  have ui : i < 2 ^ 31 := by omega
  unfold df_X3_sameClock df_X3_sameClock_0 df_X3_sameClock_32 df_X3_sameClock_33 df_X3_latest df_X3_latest_0 df_X14_isAsFar df_X14_isAsFar_0
  rw [nb_let, nb_let]
  rcases pk_far n h hi i n n (Nat.le_refl i) (by omega) (by omega) with ⟨a, b⟩ | ⟨f, f1, a, b⟩
  · refine ⟨0, by omega, ?_, b⟩
    have a : df_X3_latest_9 n n 3 1 (nI i - 1) V = some (-1, V) := a
    rw [a, nb_b2, if_pos (show (-1 : Int32) < 0 by decide)]
    rfl
  · have a : df_X3_latest_9 n n 3 1 (nI i - 1) V = some (nI f, V) := a
    obtain ⟨h1, h2, h3, h4, h5⟩ := h
    rw [a, nb_b2, if_neg (dn_3 (by omega)), nm_ck (by omega) (by omega), nm_ck vi ui, nI_clamp (by omega), nI_clamp ui, (h5 f f1).2.2.2.1.2.2.1, (h5 i hi).2.2.2.1.2.2.1]
    by_cases c : A f = A i
    · rw [if_pos c] at b
      rw [if_pos ((lcE _ _).mpr c)]
      exact ⟨1, by omega, rfl, b⟩
    · rw [if_neg c] at b
      rw [if_neg (fun z => c ((lcE _ _).mp z))]
      exact ⟨0, by omega, rfl, b⟩
/-- the head of an entry, in both -/
theorem pk_head (n T : Nat) (hn : 4096 < n) {N : Nat} {K t : Nat → Nat} {A : Nat → Int64} {B : Nat → Int32} {V0 C0 C : St} {s : St × St} {p i : Nat} (hR : pkR N K t A B V0 C0) (h : pkJ T p V0 C0 s C) (hi : i < N) (hp : p + 4 ≤ 32768) {x2 : Int32} (h2 : x2 = 0 ∨ x2 = 1) (x3 x4 k far y1 y2 : Int32) : ∃ (p1 : Nat) (s1 : St × St) (C1 : St), p1 ≤ p + 4 ∧ df_X3_putEntry_161 n T (nI i) x2 x3 x4 y1 y2 s = df_X3_putEntry_183 n T (nI i) x3 s1 ∧ df_X14_entry_167 n (nI i) x2 k far x4 y1 y2 C = df_X14_entry_190 n (nI i) k far C1 ∧ pkJ T p1 V0 C0 s1 C1 := by
  have N8 := hR.1
  obtain ⟨s1, C1, e1, e2, e3⟩ := pk_byte n T h (by omega) ((y1 ||| y2) ||| (x4 <<< ((4 : Int32) &&& 31)))
  have R1 := pkR_J hR e3
  unfold df_X3_putEntry_161 df_X14_entry_167
  rw [e1, e2, nb_b1, nb_b1]
  rcases h2 with z | z
  · obtain ⟨p', s', C', f1, f2, f3, f4⟩ := pk_varN n T (by omega) (m := 3) (x := dT t i) (by have := dT_le hR hi; omega) (by omega) (by omega) (by omega) e3
    refine ⟨p', s', C', by omega, ?_, ?_, f4⟩
    · rw [if_pos z, pk_diff n R1 hi, nb_b2, nb_let, f2, nb_b1]
    · rw [if_pos z, nm_ck (by omega) (by omega), nI_clamp (by omega), (R1.2.2.2.2 i hi).2.2.2.2.2.2.1, f3, nb_b1]
  · have z' : ¬ x2 = 0 := by rw [z]; decide
    rw [if_neg z', if_neg z']
    exact ⟨p + 1, s1, C1, by omega, rfl, rfl, e3⟩

theorem te_Rz (n : Nat) (hn : 0 < n) {i : Nat} (C : St) : df_X14_entry_282 n (nI i) C = some C := by
  obtain ⟨n', rfl⟩ : ∃ n' : Nat, n = n' + 1 := ⟨n - 1, by omega⟩
  unfold df_X14_entry_282 df_X14_entry_283
  rw [nb_let]
  show dF_X14_entry_291 (n' + 1) (df_X14_entry_291 (n' + 1) n') (nI i) _ C = _
  unfold dF_X14_entry_291
  rw [if_pos (show (0 : Int32) - 1 < 0 by decide)]
theorem te_C0 (n T : Nat) {i : Nat} {x3 : Int32} {s : St × St} (hi : i < 2048) (e : sR s.2 0 i = nI 0) : df_X3_putEntry_183 n T (nI i) x3 s = some s := by
  have u : i < 2 ^ 31 := by omega
  simp (disch := (first | assumption | decide | omega)) only [df_X3_putEntry_183, df_X3_putEntry_206, df_X3_putEntry_285, df_X3_putEntry_306, e, eq_self, Nat.reduceEqDiff, Nat.reduceLeDiff, nl_0, nl_1, nl_2, nl_3, nl_4, nl_2048, no_1, no_1024, pk_mul, nI_add, nm_ck, nI_clamp, nI_ltI, nI_leI, nI_eq, nb_b2, nb_b1, ↓nb_let, nm_z0, nm_z1, nb_II, nb_IR, nb_RI, nb_RR, nm_IL, nm_IQ, nm_RL, nm_RQ, nm_LI, nm_LR, nm_LL, nm_LQ, nm_QI, nm_QR, nm_QL, nm_QQ, nm_rr, nm_ii, nm_eqm, not_false_eq_true, pk_sub, nm_div, nm_shl, nm_shr, nm_ush, nm_or8, nm_or64, nm_or256, nm_m1, nm_m3, nm_m7, nm_m15, nm_m31, nm_m63, nm_m255, nm_m511, nm_m1023, nm_m2047, nm_m65535, Nat.reduceMod, Nat.reducePow, Nat.reduceAdd, Nat.reduceSub, Nat.reduceMul, nm_bo, nm_bi, nm_rc, nm_ic, nm_ri, nm_rl, nm_rq, nm_ql, nm_qi, nm_li, nm_us, nm_uu, nm_cp, nm_sa31, nm_sa7, nm_m127, nm_m2, nm_nz, nm_nzk, nm_eq32, nm_nzf, if_true, if_false, ↓reduceIte, if_pos, if_neg]
theorem te_C1 (n T : Nat) {i : Nat} {b : Int32} {a : Int64} {s : St × St} (hi : i < 2048) (e : sR s.2 0 i = nI 1) (eb : sR s.2 1 i = b) (ea : sQ s.2 1 i = a) : df_X3_putEntry_183 n T (nI i) (nI 0) s = nd_b1 (df_X3_putBytes n T a b s) (fun s => some s) := by
  have u : i < 2 ^ 31 := by omega
  simp (disch := (first | assumption | decide | omega)) only [df_X3_putEntry_183, df_X3_putEntry_206, df_X3_putEntry_285, df_X3_putEntry_306, e, eb, ea, eq_self, Nat.reduceEqDiff, Nat.reduceLeDiff, nl_0, nl_1, nl_2, nl_3, nl_4, nl_2048, no_1, no_1024, pk_mul, nI_add, nm_ck, nI_clamp, nI_ltI, nI_leI, nI_eq, nb_b2, nb_b1, ↓nb_let, nm_z0, nm_z1, nb_II, nb_IR, nb_RI, nb_RR, nm_IL, nm_IQ, nm_RL, nm_RQ, nm_LI, nm_LR, nm_LL, nm_LQ, nm_QI, nm_QR, nm_QL, nm_QQ, nm_rr, nm_ii, nm_eqm, not_false_eq_true, pk_sub, nm_div, nm_shl, nm_shr, nm_ush, nm_or8, nm_or64, nm_or256, nm_m1, nm_m3, nm_m7, nm_m15, nm_m31, nm_m63, nm_m255, nm_m511, nm_m1023, nm_m2047, nm_m65535, Nat.reduceMod, Nat.reducePow, Nat.reduceAdd, Nat.reduceSub, Nat.reduceMul, nm_bo, nm_bi, nm_rc, nm_ic, nm_ri, nm_rl, nm_rq, nm_ql, nm_qi, nm_li, nm_us, nm_uu, nm_cp, nm_sa31, nm_sa7, nm_m127, nm_m2, nm_nz, nm_nzk, nm_eq32, nm_nzf, if_true, if_false, ↓reduceIte, if_pos, if_neg]
theorem te_C1r (n T : Nat) {i r : Nat} {s : St × St} (hi : i < 2048) (h1 : 1 ≤ r) (h2 : r ≤ 20) (e : sR s.2 0 i = nI 1) : df_X3_putEntry_183 n T (nI i) (nI r) s = nd_b1 (df_X3_putVarint n T (nI r).toInt64 s) (fun s => some s) := by
  have u : i < 2 ^ 31 := by omega
  have k1 : ¬ r ≤ 0 := by omega
  have u2 : r < 2 ^ 31 := by omega
  simp (disch := (first | assumption | decide | omega)) only [df_X3_putEntry_183, df_X3_putEntry_306, e, eq_self, Nat.reduceEqDiff, Nat.reduceLeDiff, nl_0, nl_1, nl_2048, no_1, no_1024, pk_mul, nI_add, nm_ck, nI_clamp, nI_ltI, nI_leI, nI_eq, nb_b2, nb_b1, ↓nb_let, nm_z0, nm_z1, nb_II, nb_IR, nb_RI, nb_RR, nm_IL, nm_IQ, nm_RL, nm_RQ, nm_LI, nm_LR, nm_LL, nm_LQ, nm_QI, nm_QR, nm_QL, nm_QQ, nm_rr, nm_ii, nm_eqm, not_false_eq_true, pk_sub, nm_div, nm_shl, nm_shr, nm_ush, nm_or8, nm_or64, nm_or256, nm_m1, nm_m3, nm_m7, nm_m15, nm_m31, nm_m63, nm_m255, nm_m511, nm_m1023, nm_m2047, nm_m65535, Nat.reduceMod, Nat.reducePow, Nat.reduceAdd, Nat.reduceSub, Nat.reduceMul, nm_bo, nm_bi, nm_rc, nm_ic, nm_ri, nm_rl, nm_rq, nm_ql, nm_qi, nm_li, nm_us, nm_uu, nm_cp, nm_sa31, nm_sa7, nm_m127, nm_m2, nm_nz, nm_nzk, nm_eq32, nm_nzf, if_true, if_false, ↓reduceIte, if_pos, if_neg]
theorem te_C2 (n T : Nat) {i : Nat} {b x3 : Int32} {s : St × St} (hi : i < 2048) (e : sR s.2 0 i = nI 2) (eb : sR s.2 1 i = b) : df_X3_putEntry_183 n T (nI i) x3 s = nd_b1 (df_X3_putByte n T b s) (fun s => some s) := by
  have u : i < 2 ^ 31 := by omega
  simp (disch := (first | assumption | decide | omega)) only [df_X3_putEntry_183, df_X3_putEntry_206, df_X3_putEntry_285, df_X3_putEntry_306, e, eb, eq_self, Nat.reduceEqDiff, Nat.reduceLeDiff, nl_0, nl_1, nl_2, nl_3, nl_4, nl_2048, no_1, no_1024, pk_mul, nI_add, nm_ck, nI_clamp, nI_ltI, nI_leI, nI_eq, nb_b2, nb_b1, ↓nb_let, nm_z0, nm_z1, nb_II, nb_IR, nb_RI, nb_RR, nm_IL, nm_IQ, nm_RL, nm_RQ, nm_LI, nm_LR, nm_LL, nm_LQ, nm_QI, nm_QR, nm_QL, nm_QQ, nm_rr, nm_ii, nm_eqm, not_false_eq_true, pk_sub, nm_div, nm_shl, nm_shr, nm_ush, nm_or8, nm_or64, nm_or256, nm_m1, nm_m3, nm_m7, nm_m15, nm_m31, nm_m63, nm_m255, nm_m511, nm_m1023, nm_m2047, nm_m65535, Nat.reduceMod, Nat.reducePow, Nat.reduceAdd, Nat.reduceSub, Nat.reduceMul, nm_bo, nm_bi, nm_rc, nm_ic, nm_ri, nm_rl, nm_rq, nm_ql, nm_qi, nm_li, nm_us, nm_uu, nm_cp, nm_sa31, nm_sa7, nm_m127, nm_m2, nm_nz, nm_nzk, nm_eq32, nm_nzf, if_true, if_false, ↓reduceIte, if_pos, if_neg]
theorem te_C3 (n T : Nat) {i : Nat} {a : Int64} {s : St × St} (hi : i < 2048) (e : sR s.2 0 i = nI 3) (ea : sQ s.2 1 i = a) : df_X3_putEntry_183 n T (nI i) (nI 0) s = nd_b1 (df_X3_putVarint n T a s) (fun s => some s) := by
  have u : i < 2 ^ 31 := by omega
  simp (disch := (first | assumption | decide | omega)) only [df_X3_putEntry_183, df_X3_putEntry_206, df_X3_putEntry_285, df_X3_putEntry_306, e, ea, eq_self, Nat.reduceEqDiff, Nat.reduceLeDiff, nl_0, nl_1, nl_2, nl_3, nl_4, nl_2048, no_1, no_1024, pk_mul, nI_add, nm_ck, nI_clamp, nI_ltI, nI_leI, nI_eq, nb_b2, nb_b1, ↓nb_let, nm_z0, nm_z1, nb_II, nb_IR, nb_RI, nb_RR, nm_IL, nm_IQ, nm_RL, nm_RQ, nm_LI, nm_LR, nm_LL, nm_LQ, nm_QI, nm_QR, nm_QL, nm_QQ, nm_rr, nm_ii, nm_eqm, not_false_eq_true, pk_sub, nm_div, nm_shl, nm_shr, nm_ush, nm_or8, nm_or64, nm_or256, nm_m1, nm_m3, nm_m7, nm_m15, nm_m31, nm_m63, nm_m255, nm_m511, nm_m1023, nm_m2047, nm_m65535, Nat.reduceMod, Nat.reducePow, Nat.reduceAdd, Nat.reduceSub, Nat.reduceMul, nm_bo, nm_bi, nm_rc, nm_ic, nm_ri, nm_rl, nm_rq, nm_ql, nm_qi, nm_li, nm_us, nm_uu, nm_cp, nm_sa31, nm_sa7, nm_m127, nm_m2, nm_nz, nm_nzk, nm_eq32, nm_nzf, if_true, if_false, ↓reduceIte, if_pos, if_neg]
theorem te_C3r (n T : Nat) {i : Nat} {s : St × St} (hi : i < 2048) (e : sR s.2 0 i = nI 3) : df_X3_putEntry_183 n T (nI i) (nI 1) s = some s := by
  have u : i < 2 ^ 31 := by omega
  simp (disch := (first | assumption | decide | omega)) only [df_X3_putEntry_183, df_X3_putEntry_206, df_X3_putEntry_285, df_X3_putEntry_306, e, eq_self, Nat.reduceEqDiff, Nat.reduceLeDiff, nl_0, nl_1, nl_2, nl_3, nl_4, nl_2048, no_1, no_1024, pk_mul, nI_add, nm_ck, nI_clamp, nI_ltI, nI_leI, nI_eq, nb_b2, nb_b1, ↓nb_let, nm_z0, nm_z1, nb_II, nb_IR, nb_RI, nb_RR, nm_IL, nm_IQ, nm_RL, nm_RQ, nm_LI, nm_LR, nm_LL, nm_LQ, nm_QI, nm_QR, nm_QL, nm_QQ, nm_rr, nm_ii, nm_eqm, not_false_eq_true, pk_sub, nm_div, nm_shl, nm_shr, nm_ush, nm_or8, nm_or64, nm_or256, nm_m1, nm_m3, nm_m7, nm_m15, nm_m31, nm_m63, nm_m255, nm_m511, nm_m1023, nm_m2047, nm_m65535, Nat.reduceMod, Nat.reducePow, Nat.reduceAdd, Nat.reduceSub, Nat.reduceMul, nm_bo, nm_bi, nm_rc, nm_ic, nm_ri, nm_rl, nm_rq, nm_ql, nm_qi, nm_li, nm_us, nm_uu, nm_cp, nm_sa31, nm_sa7, nm_m127, nm_m2, nm_nz, nm_nzk, nm_eq32, nm_nzf, if_true, if_false, ↓reduceIte, if_pos, if_neg]
theorem te_C4 (n T : Nat) {i : Nat} {a : Int64} {x3 : Int32} {s : St × St} (hi : i < 2048) (e : sR s.2 0 i = nI 4) (ea : sQ s.2 1 i = a) : df_X3_putEntry_183 n T (nI i) x3 s = nd_b1 (df_X3_putBytes n T a (nI 4) s) (fun s => some s) := by
  have u : i < 2 ^ 31 := by omega
  simp (disch := (first | assumption | decide | omega)) only [df_X3_putEntry_183, df_X3_putEntry_206, df_X3_putEntry_285, df_X3_putEntry_306, e, ea, eq_self, Nat.reduceEqDiff, Nat.reduceLeDiff, nl_0, nl_1, nl_2, nl_3, nl_4, nl_2048, no_1, no_1024, pk_mul, nI_add, nm_ck, nI_clamp, nI_ltI, nI_leI, nI_eq, nb_b2, nb_b1, ↓nb_let, nm_z0, nm_z1, nb_II, nb_IR, nb_RI, nb_RR, nm_IL, nm_IQ, nm_RL, nm_RQ, nm_LI, nm_LR, nm_LL, nm_LQ, nm_QI, nm_QR, nm_QL, nm_QQ, nm_rr, nm_ii, nm_eqm, not_false_eq_true, pk_sub, nm_div, nm_shl, nm_shr, nm_ush, nm_or8, nm_or64, nm_or256, nm_m1, nm_m3, nm_m7, nm_m15, nm_m31, nm_m63, nm_m255, nm_m511, nm_m1023, nm_m2047, nm_m65535, Nat.reduceMod, Nat.reducePow, Nat.reduceAdd, Nat.reduceSub, Nat.reduceMul, nm_bo, nm_bi, nm_rc, nm_ic, nm_ri, nm_rl, nm_rq, nm_ql, nm_qi, nm_li, nm_us, nm_uu, nm_cp, nm_sa31, nm_sa7, nm_m127, nm_m2, nm_nz, nm_nzk, nm_eq32, nm_nzf, if_true, if_false, ↓reduceIte, if_pos, if_neg]
theorem te_R0 (n : Nat) (hn : 0 < n) {i : Nat} {C : St} (hi : i < 2048) (e : sR C 0 i = nI 0) : df_X14_entry_190 n (nI i) (nI 0) (nI 0) C = some C := by
  have u : i < 2 ^ 31 := by omega
  have z := te_Rz n hn (i := i) C
  simp (disch := (first | assumption | decide | omega)) only [df_X14_entry_190, df_X14_entry_200, df_X14_entry_220, df_X14_entry_245, e, z, eq_self, Nat.reduceEqDiff, Nat.reduceLeDiff, nl_0, nl_1, nl_2, nl_3, nl_4, nl_2048, no_1, no_1024, pk_mul, nI_add, nm_ck, nI_clamp, nI_ltI, nI_leI, nI_eq, nb_b2, nb_b1, ↓nb_let, nm_z0, nm_z1, nb_II, nb_IR, nb_RI, nb_RR, nm_IL, nm_IQ, nm_RL, nm_RQ, nm_LI, nm_LR, nm_LL, nm_LQ, nm_QI, nm_QR, nm_QL, nm_QQ, nm_rr, nm_ii, nm_eqm, not_false_eq_true, pk_sub, nm_div, nm_shl, nm_shr, nm_ush, nm_or8, nm_or64, nm_or256, nm_m1, nm_m3, nm_m7, nm_m15, nm_m31, nm_m63, nm_m255, nm_m511, nm_m1023, nm_m2047, nm_m65535, Nat.reduceMod, Nat.reducePow, Nat.reduceAdd, Nat.reduceSub, Nat.reduceMul, nm_bo, nm_bi, nm_rc, nm_ic, nm_ri, nm_rl, nm_rq, nm_ql, nm_qi, nm_li, nm_us, nm_uu, nm_cp, nm_sa31, nm_sa7, nm_m127, nm_m2, nm_nz, nm_nzk, nm_eq32, nm_nzf, if_true, if_false, ↓reduceIte, if_pos, if_neg]
theorem te_R1 (n : Nat) {i : Nat} {b : Int32} {C : St} (hi : i < 2048) (e : sR C 0 i = nI 1) (eb : sR C 1 i = b) : df_X14_entry_190 n (nI i) (nI 0) (nI 0) C = df_X14_entry_283 n (nI i) b C := by
  have u : i < 2 ^ 31 := by omega
  simp (disch := (first | assumption | decide | omega)) only [df_X14_entry_190, df_X14_entry_200, df_X14_entry_220, df_X14_entry_245, e, eb, eq_self, Nat.reduceEqDiff, Nat.reduceLeDiff, nl_0, nl_1, nl_2, nl_3, nl_4, nl_2048, no_1, no_1024, pk_mul, nI_add, nm_ck, nI_clamp, nI_ltI, nI_leI, nI_eq, nb_b2, nb_b1, ↓nb_let, nm_z0, nm_z1, nb_II, nb_IR, nb_RI, nb_RR, nm_IL, nm_IQ, nm_RL, nm_RQ, nm_LI, nm_LR, nm_LL, nm_LQ, nm_QI, nm_QR, nm_QL, nm_QQ, nm_rr, nm_ii, nm_eqm, not_false_eq_true, pk_sub, nm_div, nm_shl, nm_shr, nm_ush, nm_or8, nm_or64, nm_or256, nm_m1, nm_m3, nm_m7, nm_m15, nm_m31, nm_m63, nm_m255, nm_m511, nm_m1023, nm_m2047, nm_m65535, Nat.reduceMod, Nat.reducePow, Nat.reduceAdd, Nat.reduceSub, Nat.reduceMul, nm_bo, nm_bi, nm_rc, nm_ic, nm_ri, nm_rl, nm_rq, nm_ql, nm_qi, nm_li, nm_us, nm_uu, nm_cp, nm_sa31, nm_sa7, nm_m127, nm_m2, nm_nz, nm_nzk, nm_eq32, nm_nzf, if_true, if_false, ↓reduceIte, if_pos, if_neg]
theorem te_R1e (n : Nat) (hn : 0 < n) {i r : Nat} {C : St} (hi : i < 2048) (h1 : 1 ≤ r) (h2 : r ≤ 20) (e : sR C 0 i = nI 1) : df_X14_entry_200 n (nI i) (nI r) (nI 0) C = some C := by
  have u : i < 2 ^ 31 := by omega
  have u2 : r < 2 ^ 31 := by omega
  have k1 : ¬ nI r = nI 0 := fun z => by rw [nI_eq u2 (by omega)] at z; omega
  have z := te_Rz n hn (i := i) C
  simp (disch := (first | assumption | decide | omega)) only [df_X14_entry_200, df_X14_entry_220, df_X14_entry_245, e, k1, z, eq_self, Nat.reduceEqDiff, Nat.reduceLeDiff, nl_0, nl_1, nl_2, nl_3, nl_4, nl_2048, no_1, no_1024, pk_mul, nI_add, nm_ck, nI_clamp, nI_ltI, nI_leI, nI_eq, nb_b2, nb_b1, ↓nb_let, nm_z0, nm_z1, nb_II, nb_IR, nb_RI, nb_RR, nm_IL, nm_IQ, nm_RL, nm_RQ, nm_LI, nm_LR, nm_LL, nm_LQ, nm_QI, nm_QR, nm_QL, nm_QQ, nm_rr, nm_ii, nm_eqm, not_false_eq_true, pk_sub, nm_div, nm_shl, nm_shr, nm_ush, nm_or8, nm_or64, nm_or256, nm_m1, nm_m3, nm_m7, nm_m15, nm_m31, nm_m63, nm_m255, nm_m511, nm_m1023, nm_m2047, nm_m65535, Nat.reduceMod, Nat.reducePow, Nat.reduceAdd, Nat.reduceSub, Nat.reduceMul, nm_bo, nm_bi, nm_rc, nm_ic, nm_ri, nm_rl, nm_rq, nm_ql, nm_qi, nm_li, nm_us, nm_uu, nm_cp, nm_sa31, nm_sa7, nm_m127, nm_m2, nm_nz, nm_nzk, nm_eq32, nm_nzf, if_true, if_false, ↓reduceIte, if_pos, if_neg]
theorem te_R1r (n : Nat) {i r : Nat} {C : St} (h1 : 1 ≤ r) (h2 : r ≤ 20) : df_X14_entry_190 n (nI i) (nI r) (nI 0) C = nd_b1 (df_X14_varint n (nI r).toInt64 C) (fun s50 => df_X14_entry_200 n (nI i) (nI r) (nI 0) s50) := by
  unfold df_X14_entry_190
  rw [if_neg (show ¬ nI r ≤ (0 : Int32) from fun z => by have z : nI r ≤ nI 0 := z; rw [nI_leI (by omega) (by omega)] at z; omega)]
theorem te_R2 (n : Nat) {i : Nat} {b : Int32} {C : St} (hi : i < 2048) (e : sR C 0 i = nI 2) (eb : sR C 1 i = b) : df_X14_entry_190 n (nI i) (nI 0) (nI 0) C = nd_b1 (df_X14_put n b C) (fun s47 => df_X14_entry_220 n (nI i) (nI 0) (nI 0) s47) := by
  have u : i < 2 ^ 31 := by omega
  simp (disch := (first | assumption | decide | omega)) only [df_X14_entry_190, df_X14_entry_200, e, eb, eq_self, Nat.reduceEqDiff, Nat.reduceLeDiff, nl_0, nl_1, nl_2, nl_2048, no_1, no_1024, pk_mul, nI_add, nm_ck, nI_clamp, nI_ltI, nI_leI, nI_eq, nb_b2, nb_b1, ↓nb_let, nm_z0, nm_z1, nb_II, nb_IR, nb_RI, nb_RR, nm_IL, nm_IQ, nm_RL, nm_RQ, nm_LI, nm_LR, nm_LL, nm_LQ, nm_QI, nm_QR, nm_QL, nm_QQ, nm_rr, nm_ii, nm_eqm, not_false_eq_true, pk_sub, nm_div, nm_shl, nm_shr, nm_ush, nm_or8, nm_or64, nm_or256, nm_m1, nm_m3, nm_m7, nm_m15, nm_m31, nm_m63, nm_m255, nm_m511, nm_m1023, nm_m2047, nm_m65535, Nat.reduceMod, Nat.reducePow, Nat.reduceAdd, Nat.reduceSub, Nat.reduceMul, nm_bo, nm_bi, nm_rc, nm_ic, nm_ri, nm_rl, nm_rq, nm_ql, nm_qi, nm_li, nm_us, nm_uu, nm_cp, nm_sa31, nm_sa7, nm_m127, nm_m2, nm_nz, nm_nzk, nm_eq32, nm_nzf, if_true, if_false, ↓reduceIte, if_pos, if_neg]
theorem te_R2e (n : Nat) (hn : 0 < n) {i : Nat} {C : St} (hi : i < 2048) (e : sR C 0 i = nI 2) : df_X14_entry_220 n (nI i) (nI 0) (nI 0) C = some C := by
  have u : i < 2 ^ 31 := by omega
  have z := te_Rz n hn (i := i) C
  simp (disch := (first | assumption | decide | omega)) only [df_X14_entry_220, df_X14_entry_245, e, z, eq_self, Nat.reduceEqDiff, Nat.reduceLeDiff, nl_0, nl_1, nl_3, nl_4, nl_2048, no_1, no_1024, pk_mul, nI_add, nm_ck, nI_clamp, nI_ltI, nI_leI, nI_eq, nb_b2, nb_b1, ↓nb_let, nm_z0, nm_z1, nb_II, nb_IR, nb_RI, nb_RR, nm_IL, nm_IQ, nm_RL, nm_RQ, nm_LI, nm_LR, nm_LL, nm_LQ, nm_QI, nm_QR, nm_QL, nm_QQ, nm_rr, nm_ii, nm_eqm, not_false_eq_true, pk_sub, nm_div, nm_shl, nm_shr, nm_ush, nm_or8, nm_or64, nm_or256, nm_m1, nm_m3, nm_m7, nm_m15, nm_m31, nm_m63, nm_m255, nm_m511, nm_m1023, nm_m2047, nm_m65535, Nat.reduceMod, Nat.reducePow, Nat.reduceAdd, Nat.reduceSub, Nat.reduceMul, nm_bo, nm_bi, nm_rc, nm_ic, nm_ri, nm_rl, nm_rq, nm_ql, nm_qi, nm_li, nm_us, nm_uu, nm_cp, nm_sa31, nm_sa7, nm_m127, nm_m2, nm_nz, nm_nzk, nm_eq32, nm_nzf, if_true, if_false, ↓reduceIte, if_pos, if_neg]
theorem te_R3 (n : Nat) {i : Nat} {a : Int64} {C : St} (hi : i < 2048) (e : sR C 0 i = nI 3) (ea : sQ C 1 i = a) : df_X14_entry_190 n (nI i) (nI 0) (nI 0) C = nd_b1 (df_X14_varint n a C) (fun s43 => df_X14_entry_245 n (nI i) (nI 0) s43) := by
  have u : i < 2 ^ 31 := by omega
  simp (disch := (first | assumption | decide | omega)) only [df_X14_entry_190, df_X14_entry_200, df_X14_entry_220, e, ea, eq_self, Nat.reduceEqDiff, Nat.reduceLeDiff, nl_0, nl_1, nl_2, nl_3, nl_2048, no_1, no_1024, pk_mul, nI_add, nm_ck, nI_clamp, nI_ltI, nI_leI, nI_eq, nb_b2, nb_b1, ↓nb_let, nm_z0, nm_z1, nb_II, nb_IR, nb_RI, nb_RR, nm_IL, nm_IQ, nm_RL, nm_RQ, nm_LI, nm_LR, nm_LL, nm_LQ, nm_QI, nm_QR, nm_QL, nm_QQ, nm_rr, nm_ii, nm_eqm, not_false_eq_true, pk_sub, nm_div, nm_shl, nm_shr, nm_ush, nm_or8, nm_or64, nm_or256, nm_m1, nm_m3, nm_m7, nm_m15, nm_m31, nm_m63, nm_m255, nm_m511, nm_m1023, nm_m2047, nm_m65535, Nat.reduceMod, Nat.reducePow, Nat.reduceAdd, Nat.reduceSub, Nat.reduceMul, nm_bo, nm_bi, nm_rc, nm_ic, nm_ri, nm_rl, nm_rq, nm_ql, nm_qi, nm_li, nm_us, nm_uu, nm_cp, nm_sa31, nm_sa7, nm_m127, nm_m2, nm_nz, nm_nzk, nm_eq32, nm_nzf, if_true, if_false, ↓reduceIte, if_pos, if_neg]
theorem te_R3e (n : Nat) (hn : 0 < n) {i : Nat} {C : St} (hi : i < 2048) (e : sR C 0 i = nI 3) : df_X14_entry_245 n (nI i) (nI 0) C = some C := by
  have u : i < 2 ^ 31 := by omega
  have z := te_Rz n hn (i := i) C
  simp (disch := (first | assumption | decide | omega)) only [df_X14_entry_245, e, z, eq_self, Nat.reduceEqDiff, Nat.reduceLeDiff, nl_0, nl_1, nl_4, nl_2048, no_1, no_1024, pk_mul, nI_add, nm_ck, nI_clamp, nI_ltI, nI_leI, nI_eq, nb_b2, nb_b1, ↓nb_let, nm_z0, nm_z1, nb_II, nb_IR, nb_RI, nb_RR, nm_IL, nm_IQ, nm_RL, nm_RQ, nm_LI, nm_LR, nm_LL, nm_LQ, nm_QI, nm_QR, nm_QL, nm_QQ, nm_rr, nm_ii, nm_eqm, not_false_eq_true, pk_sub, nm_div, nm_shl, nm_shr, nm_ush, nm_or8, nm_or64, nm_or256, nm_m1, nm_m3, nm_m7, nm_m15, nm_m31, nm_m63, nm_m255, nm_m511, nm_m1023, nm_m2047, nm_m65535, Nat.reduceMod, Nat.reducePow, Nat.reduceAdd, Nat.reduceSub, Nat.reduceMul, nm_bo, nm_bi, nm_rc, nm_ic, nm_ri, nm_rl, nm_rq, nm_ql, nm_qi, nm_li, nm_us, nm_uu, nm_cp, nm_sa31, nm_sa7, nm_m127, nm_m2, nm_nz, nm_nzk, nm_eq32, nm_nzf, if_true, if_false, ↓reduceIte, if_pos, if_neg]
theorem te_R3r (n : Nat) (hn : 0 < n) {i : Nat} {C : St} (hi : i < 2048) (e : sR C 0 i = nI 3) : df_X14_entry_190 n (nI i) (nI 0) (nI 1) C = some C := by
  have u : i < 2 ^ 31 := by omega
  have z := te_Rz n hn (i := i) C
  simp (disch := (first | assumption | decide | omega)) only [df_X14_entry_190, df_X14_entry_200, df_X14_entry_220, df_X14_entry_245, e, z, eq_self, Nat.reduceEqDiff, Nat.reduceLeDiff, nl_0, nl_1, nl_2, nl_3, nl_4, nl_2048, no_1, no_1024, pk_mul, nI_add, nm_ck, nI_clamp, nI_ltI, nI_leI, nI_eq, nb_b2, nb_b1, ↓nb_let, nm_z0, nm_z1, nb_II, nb_IR, nb_RI, nb_RR, nm_IL, nm_IQ, nm_RL, nm_RQ, nm_LI, nm_LR, nm_LL, nm_LQ, nm_QI, nm_QR, nm_QL, nm_QQ, nm_rr, nm_ii, nm_eqm, not_false_eq_true, pk_sub, nm_div, nm_shl, nm_shr, nm_ush, nm_or8, nm_or64, nm_or256, nm_m1, nm_m3, nm_m7, nm_m15, nm_m31, nm_m63, nm_m255, nm_m511, nm_m1023, nm_m2047, nm_m65535, Nat.reduceMod, Nat.reducePow, Nat.reduceAdd, Nat.reduceSub, Nat.reduceMul, nm_bo, nm_bi, nm_rc, nm_ic, nm_ri, nm_rl, nm_rq, nm_ql, nm_qi, nm_li, nm_us, nm_uu, nm_cp, nm_sa31, nm_sa7, nm_m127, nm_m2, nm_nz, nm_nzk, nm_eq32, nm_nzf, if_true, if_false, ↓reduceIte, if_pos, if_neg]
theorem te_R4 (n : Nat) {i : Nat} {C : St} (hi : i < 2048) (e : sR C 0 i = nI 4) : df_X14_entry_190 n (nI i) (nI 0) (nI 0) C = df_X14_entry_283 n (nI i) (nI 4) C := by
  have u : i < 2 ^ 31 := by omega
  simp (disch := (first | assumption | decide | omega)) only [df_X14_entry_190, df_X14_entry_200, df_X14_entry_220, df_X14_entry_245, e, eq_self, Nat.reduceEqDiff, Nat.reduceLeDiff, nl_0, nl_1, nl_2, nl_3, nl_4, nl_2048, no_1, no_1024, pk_mul, nI_add, nm_ck, nI_clamp, nI_ltI, nI_leI, nI_eq, nb_b2, nb_b1, ↓nb_let, nm_z0, nm_z1, nb_II, nb_IR, nb_RI, nb_RR, nm_IL, nm_IQ, nm_RL, nm_RQ, nm_LI, nm_LR, nm_LL, nm_LQ, nm_QI, nm_QR, nm_QL, nm_QQ, nm_rr, nm_ii, nm_eqm, not_false_eq_true, pk_sub, nm_div, nm_shl, nm_shr, nm_ush, nm_or8, nm_or64, nm_or256, nm_m1, nm_m3, nm_m7, nm_m15, nm_m31, nm_m63, nm_m255, nm_m511, nm_m1023, nm_m2047, nm_m65535, Nat.reduceMod, Nat.reducePow, Nat.reduceAdd, Nat.reduceSub, Nat.reduceMul, nm_bo, nm_bi, nm_rc, nm_ic, nm_ri, nm_rl, nm_rq, nm_ql, nm_qi, nm_li, nm_us, nm_uu, nm_cp, nm_sa31, nm_sa7, nm_m127, nm_m2, nm_nz, nm_nzk, nm_eq32, nm_nzf, if_true, if_false, ↓reduceIte, if_pos, if_neg]
/-- up to the head, each kind -/
theorem th_C0 (n T : Nat) {i : Nat} {y : Int32} {a : Int64} {s : St × St} (hi : i < 2048) (e : sR s.2 0 i = nI 0 ∨ sR s.2 0 i = nI 2) (ea : sQ s.2 1 i = a) : df_X3_putEntry_29 n T (nI i) y s = df_X3_putEntry_144 n T (nI i) y (nI 0) a.toInt32 s := by
  have u : i < 2 ^ 31 := by omega
  rcases e with e | e
  · simp (disch := (first | assumption | decide | omega)) only [df_X3_putEntry_29, df_X3_putEntry_67, df_X3_putEntry_90, e, ea, eq_self, Nat.reduceEqDiff, Nat.reduceLeDiff, nl_0, nl_1, nl_2, nl_3, nl_2048, no_1, no_1024, pk_mul, nI_add, nm_ck, nI_clamp, nI_ltI, nI_leI, nI_eq, nb_b2, nb_b1, ↓nb_let, nm_z0, nm_z1, nb_II, nb_IR, nb_RI, nb_RR, nm_IL, nm_IQ, nm_RL, nm_RQ, nm_LI, nm_LR, nm_LL, nm_LQ, nm_QI, nm_QR, nm_QL, nm_QQ, nm_rr, nm_ii, nm_eqm, not_false_eq_true, pk_sub, nm_div, nm_shl, nm_shr, nm_ush, nm_or8, nm_or64, nm_or256, nm_m1, nm_m3, nm_m7, nm_m15, nm_m31, nm_m63, nm_m255, nm_m511, nm_m1023, nm_m2047, nm_m65535, Nat.reduceMod, Nat.reducePow, Nat.reduceAdd, Nat.reduceSub, Nat.reduceMul, nm_bo, nm_bi, nm_rc, nm_ic, nm_ri, nm_rl, nm_rq, nm_ql, nm_qi, nm_li, nm_us, nm_uu, nm_cp, nm_sa31, nm_sa7, nm_m127, nm_m2, nm_nz, nm_nzk, nm_eq32, nm_nzf, if_true, if_false, ↓reduceIte, if_pos, if_neg]
  · simp (disch := (first | assumption | decide | omega)) only [df_X3_putEntry_29, df_X3_putEntry_67, df_X3_putEntry_90, e, ea, eq_self, Nat.reduceEqDiff, Nat.reduceLeDiff, nl_0, nl_1, nl_2, nl_3, nl_2048, no_1, no_1024, pk_mul, nI_add, nm_ck, nI_clamp, nI_ltI, nI_leI, nI_eq, nb_b2, nb_b1, ↓nb_let, nm_z0, nm_z1, nb_II, nb_IR, nb_RI, nb_RR, nm_IL, nm_IQ, nm_RL, nm_RQ, nm_LI, nm_LR, nm_LL, nm_LQ, nm_QI, nm_QR, nm_QL, nm_QQ, nm_rr, nm_ii, nm_eqm, not_false_eq_true, pk_sub, nm_div, nm_shl, nm_shr, nm_ush, nm_or8, nm_or64, nm_or256, nm_m1, nm_m3, nm_m7, nm_m15, nm_m31, nm_m63, nm_m255, nm_m511, nm_m1023, nm_m2047, nm_m65535, Nat.reduceMod, Nat.reducePow, Nat.reduceAdd, Nat.reduceSub, Nat.reduceMul, nm_bo, nm_bi, nm_rc, nm_ic, nm_ri, nm_rl, nm_rq, nm_ql, nm_qi, nm_li, nm_us, nm_uu, nm_cp, nm_sa31, nm_sa7, nm_m127, nm_m2, nm_nz, nm_nzk, nm_eq32, nm_nzf, if_true, if_false, ↓reduceIte, if_pos, if_neg]
theorem th_C1 (n T : Nat) {i r : Nat} {y b : Int32} {s : St × St} (hi : i < 2048) (hr : r ≤ 20) (e : sR s.2 0 i = nI 1) (eb : sR s.2 1 i = b) (g : df_X3_sameTyped n (nI i) s.2 = some (nI r, s.2)) : df_X3_putEntry_29 n T (nI i) y s = df_X3_putEntry_144 n T (nI i) y (nI r) (if r = 0 then b else nI 0) s := by
  have u : i < 2 ^ 31 := by omega
  have u2 : r < 2 ^ 31 := by omega
  by_cases c : r = 0
  · subst c
    simp (disch := (first | assumption | decide | omega)) only [df_X3_putEntry_29, df_X3_putEntry_67, df_X3_putEntry_126, e, eb, g, eq_self, Nat.reduceEqDiff, Nat.reduceLeDiff, nl_0, nl_1, nl_2, nl_3, nl_2048, no_1, no_1024, pk_mul, nI_add, nm_ck, nI_clamp, nI_ltI, nI_leI, nI_eq, nb_b2, nb_b1, ↓nb_let, nm_z0, nm_z1, nb_II, nb_IR, nb_RI, nb_RR, nm_IL, nm_IQ, nm_RL, nm_RQ, nm_LI, nm_LR, nm_LL, nm_LQ, nm_QI, nm_QR, nm_QL, nm_QQ, nm_rr, nm_ii, nm_eqm, not_false_eq_true, pk_sub, nm_div, nm_shl, nm_shr, nm_ush, nm_or8, nm_or64, nm_or256, nm_m1, nm_m3, nm_m7, nm_m15, nm_m31, nm_m63, nm_m255, nm_m511, nm_m1023, nm_m2047, nm_m65535, Nat.reduceMod, Nat.reducePow, Nat.reduceAdd, Nat.reduceSub, Nat.reduceMul, nm_bo, nm_bi, nm_rc, nm_ic, nm_ri, nm_rl, nm_rq, nm_ql, nm_qi, nm_li, nm_us, nm_uu, nm_cp, nm_sa31, nm_sa7, nm_m127, nm_m2, nm_nz, nm_nzk, nm_eq32, nm_nzf, if_true, if_false, ↓reduceIte, if_pos, if_neg]
  · have k1 : ¬ r ≤ 0 := by omega
    rw [if_neg c]
    simp (disch := (first | assumption | decide | omega)) only [df_X3_putEntry_29, df_X3_putEntry_67, df_X3_putEntry_126, e, eb, g, eq_self, Nat.reduceEqDiff, Nat.reduceLeDiff, nl_0, nl_1, nl_2, nl_3, nl_2048, no_1, no_1024, pk_mul, nI_add, nm_ck, nI_clamp, nI_ltI, nI_leI, nI_eq, nb_b2, nb_b1, ↓nb_let, nm_z0, nm_z1, nb_II, nb_IR, nb_RI, nb_RR, nm_IL, nm_IQ, nm_RL, nm_RQ, nm_LI, nm_LR, nm_LL, nm_LQ, nm_QI, nm_QR, nm_QL, nm_QQ, nm_rr, nm_ii, nm_eqm, not_false_eq_true, pk_sub, nm_div, nm_shl, nm_shr, nm_ush, nm_or8, nm_or64, nm_or256, nm_m1, nm_m3, nm_m7, nm_m15, nm_m31, nm_m63, nm_m255, nm_m511, nm_m1023, nm_m2047, nm_m65535, Nat.reduceMod, Nat.reducePow, Nat.reduceAdd, Nat.reduceSub, Nat.reduceMul, nm_bo, nm_bi, nm_rc, nm_ic, nm_ri, nm_rl, nm_rq, nm_ql, nm_qi, nm_li, nm_us, nm_uu, nm_cp, nm_sa31, nm_sa7, nm_m127, nm_m2, nm_nz, nm_nzk, nm_eq32, nm_nzf, if_true, if_false, ↓reduceIte, if_pos, if_neg]
theorem th_C3 (n T : Nat) {i r : Nat} {y : Int32} {s : St × St} (hi : i < 2048) (e : sR s.2 0 i = nI 3) (g : df_X3_sameClock n (nI i) s.2 = some (nI r, s.2)) : df_X3_putEntry_29 n T (nI i) y s = df_X3_putEntry_144 n T (nI i) y (nI r) (nI r) s := by
  have u : i < 2 ^ 31 := by omega
  simp (disch := (first | assumption | decide | omega)) only [df_X3_putEntry_29, df_X3_putEntry_67, e, g, eq_self, Nat.reduceEqDiff, Nat.reduceLeDiff, nl_0, nl_1, nl_2, nl_3, nl_2048, no_1, no_1024, pk_mul, nI_add, nm_ck, nI_clamp, nI_ltI, nI_leI, nI_eq, nb_b2, nb_b1, ↓nb_let, nm_z0, nm_z1, nb_II, nb_IR, nb_RI, nb_RR, nm_IL, nm_IQ, nm_RL, nm_RQ, nm_LI, nm_LR, nm_LL, nm_LQ, nm_QI, nm_QR, nm_QL, nm_QQ, nm_rr, nm_ii, nm_eqm, not_false_eq_true, pk_sub, nm_div, nm_shl, nm_shr, nm_ush, nm_or8, nm_or64, nm_or256, nm_m1, nm_m3, nm_m7, nm_m15, nm_m31, nm_m63, nm_m255, nm_m511, nm_m1023, nm_m2047, nm_m65535, Nat.reduceMod, Nat.reducePow, Nat.reduceAdd, Nat.reduceSub, Nat.reduceMul, nm_bo, nm_bi, nm_rc, nm_ic, nm_ri, nm_rl, nm_rq, nm_ql, nm_qi, nm_li, nm_us, nm_uu, nm_cp, nm_sa31, nm_sa7, nm_m127, nm_m2, nm_nz, nm_nzk, nm_eq32, nm_nzf, if_true, if_false, ↓reduceIte, if_pos, if_neg]
theorem th_C4 (n T : Nat) {i : Nat} {y : Int32} {s : St × St} (hi : i < 2048) (e : sR s.2 0 i = nI 4) : df_X3_putEntry_29 n T (nI i) y s = df_X3_putEntry_144 n T (nI i) y (nI 0) (nI 0) s := by
  have u : i < 2 ^ 31 := by omega
  simp (disch := (first | assumption | decide | omega)) only [df_X3_putEntry_29, df_X3_putEntry_67, e, eq_self, Nat.reduceEqDiff, Nat.reduceLeDiff, nl_0, nl_1, nl_2, nl_3, nl_2048, no_1, no_1024, pk_mul, nI_add, nm_ck, nI_clamp, nI_ltI, nI_leI, nI_eq, nb_b2, nb_b1, ↓nb_let, nm_z0, nm_z1, nb_II, nb_IR, nb_RI, nb_RR, nm_IL, nm_IQ, nm_RL, nm_RQ, nm_LI, nm_LR, nm_LL, nm_LQ, nm_QI, nm_QR, nm_QL, nm_QQ, nm_rr, nm_ii, nm_eqm, not_false_eq_true, pk_sub, nm_div, nm_shl, nm_shr, nm_ush, nm_or8, nm_or64, nm_or256, nm_m1, nm_m3, nm_m7, nm_m15, nm_m31, nm_m63, nm_m255, nm_m511, nm_m1023, nm_m2047, nm_m65535, Nat.reduceMod, Nat.reducePow, Nat.reduceAdd, Nat.reduceSub, Nat.reduceMul, nm_bo, nm_bi, nm_rc, nm_ic, nm_ri, nm_rl, nm_rq, nm_ql, nm_qi, nm_li, nm_us, nm_uu, nm_cp, nm_sa31, nm_sa7, nm_m127, nm_m2, nm_nz, nm_nzk, nm_eq32, nm_nzf, if_true, if_false, ↓reduceIte, if_pos, if_neg]
theorem th_R0 (n : Nat) {i : Nat} {y : Int32} {a : Int64} {C : St} (hi : i < 2048) (e : sR C 0 i = nI 0 ∨ sR C 0 i = nI 2) (ea : sQ C 1 i = a) : df_X14_entry_31 n (nI i) y C = df_X14_entry_148 n (nI i) y (nI 0) (nI 0) a.toInt32 C := by
  have u : i < 2 ^ 31 := by omega
  rcases e with e | e
  · simp (disch := (first | assumption | decide | omega)) only [df_X14_entry_31, df_X14_entry_51, df_X14_entry_74, df_X14_entry_75, e, ea, eq_self, Nat.reduceEqDiff, Nat.reduceLeDiff, nl_0, nl_1, nl_3, nl_4, nl_2048, no_1, no_1024, pk_mul, nI_add, nm_ck, nI_clamp, nI_ltI, nI_leI, nI_eq, nb_b2, nb_b1, ↓nb_let, nm_z0, nm_z1, nb_II, nb_IR, nb_RI, nb_RR, nm_IL, nm_IQ, nm_RL, nm_RQ, nm_LI, nm_LR, nm_LL, nm_LQ, nm_QI, nm_QR, nm_QL, nm_QQ, nm_rr, nm_ii, nm_eqm, not_false_eq_true, pk_sub, nm_div, nm_shl, nm_shr, nm_ush, nm_or8, nm_or64, nm_or256, nm_m1, nm_m3, nm_m7, nm_m15, nm_m31, nm_m63, nm_m255, nm_m511, nm_m1023, nm_m2047, nm_m65535, Nat.reduceMod, Nat.reducePow, Nat.reduceAdd, Nat.reduceSub, Nat.reduceMul, nm_bo, nm_bi, nm_rc, nm_ic, nm_ri, nm_rl, nm_rq, nm_ql, nm_qi, nm_li, nm_us, nm_uu, nm_cp, nm_sa31, nm_sa7, nm_m127, nm_m2, nm_nz, nm_nzk, nm_eq32, nm_nzf, if_true, if_false, ↓reduceIte, if_pos, if_neg]
  · simp (disch := (first | assumption | decide | omega)) only [df_X14_entry_31, df_X14_entry_51, df_X14_entry_74, df_X14_entry_75, e, ea, eq_self, Nat.reduceEqDiff, Nat.reduceLeDiff, nl_0, nl_1, nl_3, nl_4, nl_2048, no_1, no_1024, pk_mul, nI_add, nm_ck, nI_clamp, nI_ltI, nI_leI, nI_eq, nb_b2, nb_b1, ↓nb_let, nm_z0, nm_z1, nb_II, nb_IR, nb_RI, nb_RR, nm_IL, nm_IQ, nm_RL, nm_RQ, nm_LI, nm_LR, nm_LL, nm_LQ, nm_QI, nm_QR, nm_QL, nm_QQ, nm_rr, nm_ii, nm_eqm, not_false_eq_true, pk_sub, nm_div, nm_shl, nm_shr, nm_ush, nm_or8, nm_or64, nm_or256, nm_m1, nm_m3, nm_m7, nm_m15, nm_m31, nm_m63, nm_m255, nm_m511, nm_m1023, nm_m2047, nm_m65535, Nat.reduceMod, Nat.reducePow, Nat.reduceAdd, Nat.reduceSub, Nat.reduceMul, nm_bo, nm_bi, nm_rc, nm_ic, nm_ri, nm_rl, nm_rq, nm_ql, nm_qi, nm_li, nm_us, nm_uu, nm_cp, nm_sa31, nm_sa7, nm_m127, nm_m2, nm_nz, nm_nzk, nm_eq32, nm_nzf, if_true, if_false, ↓reduceIte, if_pos, if_neg]
theorem th_R1 (n : Nat) {i r : Nat} {y b : Int32} {C : St} (hi : i < 2048) (hr : r ≤ 20) (e : sR C 0 i = nI 1) (eb : sR C 1 i = b) (g : df_X14_copyOf n (nI i) C = some (nI r, C)) : df_X14_entry_31 n (nI i) y C = df_X14_entry_148 n (nI i) y (nI r) (nI 0) (if r = 0 then b else nI 0) C := by
  have u : i < 2 ^ 31 := by omega
  have u2 : r < 2 ^ 31 := by omega
  by_cases c : r = 0
  · subst c
    simp (disch := (first | assumption | decide | omega)) only [df_X14_entry_31, df_X14_entry_51, df_X14_entry_74, df_X14_entry_75, e, eb, g, eq_self, Nat.reduceEqDiff, Nat.reduceLeDiff, nl_0, nl_1, nl_3, nl_4, nl_2048, no_1, no_1024, pk_mul, nI_add, nm_ck, nI_clamp, nI_ltI, nI_leI, nI_eq, nb_b2, nb_b1, ↓nb_let, nm_z0, nm_z1, nb_II, nb_IR, nb_RI, nb_RR, nm_IL, nm_IQ, nm_RL, nm_RQ, nm_LI, nm_LR, nm_LL, nm_LQ, nm_QI, nm_QR, nm_QL, nm_QQ, nm_rr, nm_ii, nm_eqm, not_false_eq_true, pk_sub, nm_div, nm_shl, nm_shr, nm_ush, nm_or8, nm_or64, nm_or256, nm_m1, nm_m3, nm_m7, nm_m15, nm_m31, nm_m63, nm_m255, nm_m511, nm_m1023, nm_m2047, nm_m65535, Nat.reduceMod, Nat.reducePow, Nat.reduceAdd, Nat.reduceSub, Nat.reduceMul, nm_bo, nm_bi, nm_rc, nm_ic, nm_ri, nm_rl, nm_rq, nm_ql, nm_qi, nm_li, nm_us, nm_uu, nm_cp, nm_sa31, nm_sa7, nm_m127, nm_m2, nm_nz, nm_nzk, nm_eq32, nm_nzf, if_true, if_false, ↓reduceIte, if_pos, if_neg]
  · have k1 : ¬ r ≤ 0 := by omega
    rw [if_neg c]
    simp (disch := (first | assumption | decide | omega)) only [df_X14_entry_31, df_X14_entry_51, df_X14_entry_74, df_X14_entry_75, e, eb, g, eq_self, Nat.reduceEqDiff, Nat.reduceLeDiff, nl_0, nl_1, nl_3, nl_4, nl_2048, no_1, no_1024, pk_mul, nI_add, nm_ck, nI_clamp, nI_ltI, nI_leI, nI_eq, nb_b2, nb_b1, ↓nb_let, nm_z0, nm_z1, nb_II, nb_IR, nb_RI, nb_RR, nm_IL, nm_IQ, nm_RL, nm_RQ, nm_LI, nm_LR, nm_LL, nm_LQ, nm_QI, nm_QR, nm_QL, nm_QQ, nm_rr, nm_ii, nm_eqm, not_false_eq_true, pk_sub, nm_div, nm_shl, nm_shr, nm_ush, nm_or8, nm_or64, nm_or256, nm_m1, nm_m3, nm_m7, nm_m15, nm_m31, nm_m63, nm_m255, nm_m511, nm_m1023, nm_m2047, nm_m65535, Nat.reduceMod, Nat.reducePow, Nat.reduceAdd, Nat.reduceSub, Nat.reduceMul, nm_bo, nm_bi, nm_rc, nm_ic, nm_ri, nm_rl, nm_rq, nm_ql, nm_qi, nm_li, nm_us, nm_uu, nm_cp, nm_sa31, nm_sa7, nm_m127, nm_m2, nm_nz, nm_nzk, nm_eq32, nm_nzf, if_true, if_false, ↓reduceIte, if_pos, if_neg]
theorem th_R3 (n : Nat) {i r : Nat} {y : Int32} {C : St} (hi : i < 2048) (hr : r < 2) (e : sR C 0 i = nI 3) (g : df_X14_isAsFar n (nI i) C = some (nI r, C)) : df_X14_entry_31 n (nI i) y C = df_X14_entry_148 n (nI i) y (nI 0) (nI r) (nI r) C := by
  have u : i < 2 ^ 31 := by omega
  have c : r = 0 ∨ r = 1 := by omega
  rcases c with rfl | rfl
  · simp (disch := (first | assumption | decide | omega)) only [df_X14_entry_31, df_X14_entry_51, df_X14_entry_74, df_X14_entry_75, e, g, eq_self, Nat.reduceEqDiff, Nat.reduceLeDiff, nl_0, nl_1, nl_3, nl_4, nl_2048, no_1, no_1024, pk_mul, nI_add, nm_ck, nI_clamp, nI_ltI, nI_leI, nI_eq, nb_b2, nb_b1, ↓nb_let, nm_z0, nm_z1, nb_II, nb_IR, nb_RI, nb_RR, nm_IL, nm_IQ, nm_RL, nm_RQ, nm_LI, nm_LR, nm_LL, nm_LQ, nm_QI, nm_QR, nm_QL, nm_QQ, nm_rr, nm_ii, nm_eqm, not_false_eq_true, pk_sub, nm_div, nm_shl, nm_shr, nm_ush, nm_or8, nm_or64, nm_or256, nm_m1, nm_m3, nm_m7, nm_m15, nm_m31, nm_m63, nm_m255, nm_m511, nm_m1023, nm_m2047, nm_m65535, Nat.reduceMod, Nat.reducePow, Nat.reduceAdd, Nat.reduceSub, Nat.reduceMul, nm_bo, nm_bi, nm_rc, nm_ic, nm_ri, nm_rl, nm_rq, nm_ql, nm_qi, nm_li, nm_us, nm_uu, nm_cp, nm_sa31, nm_sa7, nm_m127, nm_m2, nm_nz, nm_nzk, nm_eq32, nm_nzf, if_true, if_false, ↓reduceIte, if_pos, if_neg]
  · simp (disch := (first | assumption | decide | omega)) only [df_X14_entry_31, df_X14_entry_51, df_X14_entry_74, df_X14_entry_75, e, g, eq_self, Nat.reduceEqDiff, Nat.reduceLeDiff, nl_0, nl_1, nl_3, nl_4, nl_2048, no_1, no_1024, pk_mul, nI_add, nm_ck, nI_clamp, nI_ltI, nI_leI, nI_eq, nb_b2, nb_b1, ↓nb_let, nm_z0, nm_z1, nb_II, nb_IR, nb_RI, nb_RR, nm_IL, nm_IQ, nm_RL, nm_RQ, nm_LI, nm_LR, nm_LL, nm_LQ, nm_QI, nm_QR, nm_QL, nm_QQ, nm_rr, nm_ii, nm_eqm, not_false_eq_true, pk_sub, nm_div, nm_shl, nm_shr, nm_ush, nm_or8, nm_or64, nm_or256, nm_m1, nm_m3, nm_m7, nm_m15, nm_m31, nm_m63, nm_m255, nm_m511, nm_m1023, nm_m2047, nm_m65535, Nat.reduceMod, Nat.reducePow, Nat.reduceAdd, Nat.reduceSub, Nat.reduceMul, nm_bo, nm_bi, nm_rc, nm_ic, nm_ri, nm_rl, nm_rq, nm_ql, nm_qi, nm_li, nm_us, nm_uu, nm_cp, nm_sa31, nm_sa7, nm_m127, nm_m2, nm_nz, nm_nzk, nm_eq32, nm_nzf, if_true, if_false, ↓reduceIte, if_pos, if_neg]
theorem th_R4 (n : Nat) {i : Nat} {y : Int32} {C : St} (hi : i < 2048) (e : sR C 0 i = nI 4) : df_X14_entry_31 n (nI i) y C = df_X14_entry_148 n (nI i) y (nI 0) (nI 0) (nI 0) C := by
  have u : i < 2 ^ 31 := by omega
  simp (disch := (first | assumption | decide | omega)) only [df_X14_entry_31, df_X14_entry_51, df_X14_entry_74, df_X14_entry_75, e, eq_self, Nat.reduceEqDiff, Nat.reduceLeDiff, nl_0, nl_1, nl_3, nl_4, nl_2048, no_1, no_1024, pk_mul, nI_add, nm_ck, nI_clamp, nI_ltI, nI_leI, nI_eq, nb_b2, nb_b1, ↓nb_let, nm_z0, nm_z1, nb_II, nb_IR, nb_RI, nb_RR, nm_IL, nm_IQ, nm_RL, nm_RQ, nm_LI, nm_LR, nm_LL, nm_LQ, nm_QI, nm_QR, nm_QL, nm_QQ, nm_rr, nm_ii, nm_eqm, not_false_eq_true, pk_sub, nm_div, nm_shl, nm_shr, nm_ush, nm_or8, nm_or64, nm_or256, nm_m1, nm_m3, nm_m7, nm_m15, nm_m31, nm_m63, nm_m255, nm_m511, nm_m1023, nm_m2047, nm_m65535, Nat.reduceMod, Nat.reducePow, Nat.reduceAdd, Nat.reduceSub, Nat.reduceMul, nm_bo, nm_bi, nm_rc, nm_ic, nm_ri, nm_rl, nm_rq, nm_ql, nm_qi, nm_li, nm_us, nm_uu, nm_cp, nm_sa31, nm_sa7, nm_m127, nm_m2, nm_nz, nm_nzk, nm_eq32, nm_nzf, if_true, if_false, ↓reduceIte, if_pos, if_neg]
theorem pk_h2 (n T : Nat) (hn : 4096 < n) {N : Nat} {K t : Nat → Nat} {A : Nat → Int64} {B : Nat → Int32} {V0 C0 C : St} {s : St × St} {p i : Nat} (hR : pkR N K t A B V0 C0) (h : pkJ T p V0 C0 s C) (hi : i < N) (hp : p + 4 ≤ 32768) {x2 : Int32} (h2 : x2 = 0 ∨ x2 = 1) (x3 x4 k far : Int32) : ∃ (p1 : Nat) (s1 : St × St) (C1 : St), p1 ≤ p + 4 ∧ df_X3_putEntry_144 n T (nI i) x2 x3 x4 s = df_X3_putEntry_183 n T (nI i) x3 s1 ∧ df_X14_entry_148 n (nI i) x2 k far x4 C = df_X14_entry_190 n (nI i) k far C1 ∧ pkJ T p1 V0 C0 s1 C1 := by
  have N8 := hR.1
  have R1 := pkR_J hR h
  obtain ⟨_, _, _, ⟨i4, _⟩, i8, _⟩ := R1.2.2.2.2 i hi
  unfold df_X3_putEntry_144 df_X14_entry_148
  rw [nm_ck (by omega) (by omega), nm_ck (by omega) (by omega), nI_clamp (by omega), i4, i8]
  by_cases c : x2 = 0
  · rw [if_pos c, if_pos c]
    exact pk_head n T hn hR h hi hp h2 x3 x4 k far _ _
  · rw [if_neg c, if_neg c]
    exact pk_head n T hn hR h hi hp h2 x3 x4 k far _ _
/-- an entry, in both -/
theorem pk_entry (n T : Nat) (hn : 4096 < n) {N : Nat} {K t : Nat → Nat} {A : Nat → Int64} {B : Nat → Int32} {V0 C0 C : St} {s : St × St} {p i : Nat} (hR : pkR N K t A B V0 C0) (h : pkJ T p V0 C0 s C) (hi : i < N) (hp : p + 12 ≤ 32768) : ∃ (p' : Nat) (s' : St × St) (C' : St), p' ≤ p + 12 ∧ df_X3_putEntry n T (nI i) s = some s' ∧ df_X14_entry n (nI i) C = some C' ∧ pkJ T p' V0 C0 s' C' := by
  have N8 := hR.1
  have R1 := pkR_J hR h
  have v : i < 2048 := by omega
  have u : i < 2 ^ 31 := by omega
  obtain ⟨k5, _, hev, ⟨i4, i5, i6, i7⟩, i8, i9, ia, ib⟩ := R1.2.2.2.2 i hi
  -- the two begin alike
  have beg : ∃ y : Int32, (y = 0 ∨ y = 1) ∧ df_X3_putEntry n T (nI i) s = df_X3_putEntry_29 n T (nI i) y s ∧ df_X14_entry n (nI i) C = df_X14_entry_31 n (nI i) y C := by
    have fin : ∀ d : Int64, ∃ y : Int32, (y = 0 ∨ y = 1) ∧ df_X3_putEntry_20 n T (nI i) (Int64.ofNat (dT t i)) d s = df_X3_putEntry_29 n T (nI i) y s ∧ df_X14_entry_22 n (nI i) (Int64.ofNat (dT t i)) d C = df_X14_entry_31 n (nI i) y C := fun d => by
      unfold df_X3_putEntry_20 df_X14_entry_22
      by_cases c : lg_cmp (Int64.ofNat (dT t i)) d = (0 : Int32)
      · rw [if_pos c, if_pos c]; exact ⟨1, Or.inr rfl, rfl, rfl⟩
      · rw [if_neg c, if_neg c]; exact ⟨0, Or.inl rfl, rfl, rfl⟩
    by_cases c : i = 0
    · subst c
      obtain ⟨y, y1, y2, y3⟩ := fin 0
      refine ⟨y, y1, ?_, ?_⟩
      · unfold df_X3_putEntry df_X3_putEntry_0
        rw [pk_diff n R1 hi, nb_b2, nb_let, if_pos (show nI 0 = (0 : Int32) from rfl)]
        exact y2
      · unfold df_X14_entry df_X14_entry_0
        rw [nm_ck (by omega) (by omega), if_pos (show nI 0 = (0 : Int32) from rfl), nI_clamp (by omega), ia]
        exact y3
    · obtain ⟨y, y1, y2, y3⟩ := fin (Int64.ofNat (dT t (i - 1)))
      have c' : ¬ nI i = (0 : Int32) := fun z => by have z : nI i = nI 0 := z; rw [nI_eq u (by omega)] at z; exact c z
      have i1 : nI i - 1 = nI (i - 1) := pk_sub (show 1 ≤ i by omega)
      refine ⟨y, y1, ?_, ?_⟩
      · unfold df_X3_putEntry df_X3_putEntry_0
        rw [pk_diff n R1 hi, nb_b2, nb_let, if_neg c', i1, pk_diff n R1 (show i - 1 < N by omega), nb_b2, nb_let]
        exact y2
      · unfold df_X14_entry df_X14_entry_0
        rw [nm_ck v u, if_neg c', i1, nm_ck (by omega) (by omega), nI_clamp u, nI_clamp (by omega), ia, (R1.2.2.2.2 (i - 1) (by omega)).2.2.2.2.2.2.1]
        exact y3
  obtain ⟨y, y1, y2, y3⟩ := beg
  rw [y2, y3]
  have en : ∀ s2 : St × St, (fun s : St × St => some s) s2 = some s2 := fun _ => rfl
  have K0 : K i = 0 ∨ K i = 1 ∨ K i = 2 ∨ K i = 3 ∨ K i = 4 := by omega
  rcases K0 with k | k | k | k | k
  · rw [k] at i4 i8
    rw [th_C0 n T v (Or.inl i4) i6, th_R0 n v (Or.inl i8) ib]
    obtain ⟨p1, s1, C1, q1, q2, q3, q4⟩ := pk_h2 n T hn hR h hi (by omega) y1 (nI 0) (A i).toInt32 (nI 0) (nI 0)
    obtain ⟨_, _, _, ⟨g4, _⟩, g8, _⟩ := (pkR_J hR q4).2.2.2.2 i hi
    rw [k] at g4 g8
    rw [q2, q3, te_C0 n T v g4, te_R0 n (by omega) v g8]
    exact ⟨p1, s1, C1, by omega, rfl, rfl, q4⟩
  · rw [k] at i4 i8 hev
    obtain ⟨r, r1, r2, r3⟩ := pk_copy n R1 hi i 0 n n (Nat.le_refl i) (by omega) (by omega) (by omega)
    have r2 : df_X3_sameTyped n (nI i) s.2 = some (nI r, s.2) := r2
    have r3 : df_X14_copyOf n (nI i) C = some (nI r, C) := r3
    rw [th_C1 n T v r1 i4 i7 r2, th_R1 n v r1 i8 i9 r3]
    obtain ⟨p1, s1, C1, q1, q2, q3, q4⟩ := pk_h2 n T hn hR h hi (by omega) y1 (nI r) (if r = 0 then B i else nI 0) (nI r) (nI 0)
    obtain ⟨_, _, _, ⟨g4, _, g6, g7⟩, g8, g9, _, gb⟩ := (pkR_J hR q4).2.2.2.2 i hi
    rw [k] at g4 g8
    rw [q2, q3]
    by_cases c : r = 0
    · subst c
      obtain ⟨j, j1, j2⟩ : ∃ j : Nat, j ≤ 8 ∧ B i = nI j := by
        rcases hev with ⟨z, _⟩ | ⟨_, j, j1, j2⟩ | ⟨z, _⟩ | ⟨z, _⟩ | z
        · exact absurd z (by omega)
        · exact ⟨j, j1, j2⟩
        · exact absurd z (by omega)
        · exact absurd z (by omega)
        · exact absurd z (by omega)
      obtain ⟨s2, C2, f1, f2, f3⟩ := pk_bytes n T (hR.2.2.2.2 i hi).2.2.2.2.2.2.2 v j n n p1 s1 C1 (by omega) (by omega) (by omega) j1 q4
      rw [te_C1 n T v g4 g7 g6, te_R1 n v g8 g9, j2]
      refine ⟨p1 + j, s2, C2, by omega, ?_, ?_, f3⟩
      · unfold df_X3_putBytes df_X3_putBytes_0
        rw [nb_let]
        have f1 : df_X3_putBytes_5 n T n (A i) (nI j - 1) s1 = some s2 := f1
        rw [f1, nb_b1]
      · unfold df_X14_entry_283
        rw [nb_let]
        exact f2
    · obtain ⟨p2, s2, C2, f0, f1, f2, f3⟩ := pk_varN n T (by omega) (m := 1) (x := r) (by omega) (by omega) (by omega) (by omega) q4
      obtain ⟨_, _, _, _, h8, _⟩ := (pkR_J hR f3).2.2.2.2 i hi
      rw [k] at h8
      rw [te_C1r n T v (by omega) r1 g4, te_R1r n (by omega) r1, nI_64 (by omega), f1, f2, nb_b1, nb_b1, te_R1e n (by omega) v (by omega) r1 h8]
      exact ⟨p2, s2, C2, by omega, rfl, rfl, f3⟩
  · rw [k] at i4 i8
    rw [th_C0 n T v (Or.inr i4) i6, th_R0 n v (Or.inr i8) ib]
    obtain ⟨p1, s1, C1, q1, q2, q3, q4⟩ := pk_h2 n T hn hR h hi (by omega) y1 (nI 0) (A i).toInt32 (nI 0) (nI 0)
    obtain ⟨_, _, _, ⟨g4, _, g6, g7⟩, g8, g9, _⟩ := (pkR_J hR q4).2.2.2.2 i hi
    rw [k] at g4 g8
    obtain ⟨s2, C2, f1, f2, f3⟩ := pk_byte n T q4 (by omega) (B i)
    obtain ⟨_, _, _, _, h8, _⟩ := (pkR_J hR f3).2.2.2.2 i hi
    rw [k] at h8
    rw [q2, q3, te_C2 n T v g4 g7, te_R2 n v g8 g9, f1, f2, nb_b1, nb_b1, te_R2e n (by omega) v h8]
    exact ⟨p1 + 1, s2, C2, by omega, rfl, rfl, f3⟩
  · rw [k] at i4 i8 hev
    obtain ⟨r, r1, r2, r3⟩ := pk_clock n hn R1 hi
    rw [th_C3 n T v i4 r2, th_R3 n v r1 i8 r3]
    obtain ⟨p1, s1, C1, q1, q2, q3, q4⟩ := pk_h2 n T hn hR h hi (by omega) y1 (nI r) (nI r) (nI 0) (nI r)
    obtain ⟨_, _, _, ⟨g4, _, g6, g7⟩, g8, g9, _, gb⟩ := (pkR_J hR q4).2.2.2.2 i hi
    rw [k] at g4 g8
    rw [q2, q3]
    have c : r = 0 ∨ r = 1 := by omega
    rcases c with rfl | rfl
    · obtain ⟨b1, b2⟩ : 0 ≤ (A i).toInt ∧ (A i).toInt ≤ 1099511627776 := by
        rcases hev with ⟨z, _⟩ | ⟨z, _⟩ | ⟨z, _⟩ | ⟨_, z1, z2⟩ | z
        · exact absurd z (by omega)
        · exact absurd z (by omega)
        · exact absurd z (by omega)
        · exact ⟨z1, z2⟩
        · exact absurd z (by omega)
      have ea : A i = Int64.ofNat (A i).toInt.toNat := by
        apply Int64.toInt_inj.mp
        rw [lT (by omega)]
        omega
      obtain ⟨p2, s2, C2, f0, f1, f2, f3⟩ := pk_varN n T (by omega) (m := 6) (x := (A i).toInt.toNat) (by omega) (by omega) (by omega) (by omega) q4
      rw [← ea] at f1 f2
      obtain ⟨_, _, _, _, h8, _⟩ := (pkR_J hR f3).2.2.2.2 i hi
      rw [k] at h8
      rw [te_C3 n T v g4 g6, te_R3 n v g8 gb, f1, f2, nb_b1, nb_b1, te_R3e n (by omega) v h8]
      exact ⟨p2, s2, C2, by omega, rfl, rfl, f3⟩
    · rw [te_C3r n T v g4, te_R3r n (by omega) v g8]
      exact ⟨p1, s1, C1, by omega, rfl, rfl, q4⟩
  · rw [k] at i4 i8
    rw [th_C4 n T v i4, th_R4 n v i8]
    obtain ⟨p1, s1, C1, q1, q2, q3, q4⟩ := pk_h2 n T hn hR h hi (by omega) y1 (nI 0) (nI 0) (nI 0) (nI 0)
    obtain ⟨_, _, _, ⟨g4, _, g6, g7⟩, g8, g9, _, gb⟩ := (pkR_J hR q4).2.2.2.2 i hi
    rw [k] at g4 g8
    obtain ⟨s2, C2, f1, f2, f3⟩ := pk_bytes n T (hR.2.2.2.2 i hi).2.2.2.2.2.2.2 v 4 n n p1 s1 C1 (by omega) (by omega) (by omega) (by omega) q4
    rw [q2, q3, te_C4 n T v g4 g6, te_R4 n v g8]
    refine ⟨p1 + 4, s2, C2, by omega, ?_, ?_, f3⟩
    · unfold df_X3_putBytes df_X3_putBytes_0
      rw [nb_let]
      have f1 : df_X3_putBytes_5 n T n (A i) (nI 4 - 1) s1 = some s2 := f1
      rw [f1, nb_b1]
    · unfold df_X14_entry_283
      rw [nb_let]
      exact f2

/-- an event like the one before in all -/
def alB (K t : Nat → Nat) (A : Nat → Int64) (B : Nat → Int32) (i : Nat) : Bool := decide (0 < i ∧ K i = K (i - 1) ∧ A i = A (i - 1) ∧ B i = B (i - 1) ∧ dT t i = dT t (i - 1))
theorem on_inj {a b : Nat} (ha : a < 2 ^ 63) (hb : b < 2 ^ 63) : Int64.ofNat a = Int64.ofNat b ↔ a = b := ⟨fun z => by
  have z := congrArg Int64.toInt z
  rw [lT ha, lT hb] at z
  omega, fun z => by rw [z]⟩
theorem pk_alike (n : Nat) {N : Nat} {K t : Nat → Nat} {A : Nat → Int64} {B : Nat → Int32} {V C : St} (h : pkR N K t A B V C) {i : Nat} (hi : i < N) : df_X14_isAlike n (nI i) C = some (if alB K t A B i = true then nI 1 else nI 0, C) := by
  have N8 := h.1
  unfold df_X14_isAlike df_X14_isAlike_0 df_X14_isAlike_37 df_X14_isAlike_38 alB
  by_cases c : i = 0
  · subst c
    rw [if_pos (show nI 0 ≤ (0 : Int32) by decide), if_neg (show ¬ (decide (0 < 0 ∧ _) = true) from fun z => absurd (of_decide_eq_true z).1 (by omega))]
    exact nm_z0
  · have d1 := dT_le h hi
    have d2 := dT_le h (show i - 1 < N by omega)
    obtain ⟨r, r1, s1, s2, s3⟩ := pk_same n h hi (show i - 1 < N by omega)
    obtain ⟨h1, h2, h3, h4, h5⟩ := h
    obtain ⟨_, _, _, _, _, _, ia, _⟩ := h5 i hi
    obtain ⟨_, _, _, _, _, _, ja, _⟩ := h5 (i - 1) (by omega)
    rw [if_neg (show ¬ nI i ≤ (0 : Int32) from fun z => by have z : nI i ≤ nI 0 := z; rw [nI_leI (by omega) (by omega)] at z; omega), nm_ck (by omega) (by omega), show nI i - 1 = nI (i - 1) from pk_sub (show 1 ≤ i by omega), nm_ck (by omega) (by omega), nI_clamp (by omega), nI_clamp (by omega), ia, ja]
    by_cases e : dT t i = dT t (i - 1)
    · rw [if_pos ((lcE _ _).mpr (by rw [e])), s2, nb_b2]
      rcases r1 with z | z
      · rw [if_pos (show r = 0 from z), if_neg (fun y => by
          have y := of_decide_eq_true y
          have := s3.mpr ⟨y.2.1, y.2.2.1, y.2.2.2.1⟩
          rw [z] at this
          exact absurd this (by decide))]
        exact nm_z0
      · have s3 := s3.mp z
        rw [if_neg (show ¬ r = 0 by rw [z]; decide), if_pos (decide_eq_true ⟨by omega, s3.1, s3.2.1, s3.2.2, e⟩)]
        exact nm_z1
    · rw [if_neg (fun z => e ((on_inj (by omega) (by omega)).mp ((lcE _ _).mp z))), if_neg (fun y => e (of_decide_eq_true y).2.2.2.2)]
      exact nm_z0
theorem al_ch {K t : Nat → Nat} {A : Nat → Int64} {B : Nat → Int32} {i : Nat} : ∀ m : Nat, (∀ j : Nat, i ≤ j → j < i + m → alB K t A B j = true) → K (i + m - 1) = K (i - 1) ∧ A (i + m - 1) = A (i - 1) ∧ B (i + m - 1) = B (i - 1) ∧ dT t (i + m - 1) = dT t (i - 1)
  | 0, _ => ⟨rfl, rfl, rfl, rfl⟩
  | m + 1, h => by
    obtain ⟨a, b, c, d⟩ := al_ch m (fun j h1 h2 => h j h1 (by omega))
    have g := of_decide_eq_true (h (i + m) (by omega) (by omega))
    rw [show i + (m + 1) - 1 = i + m by omega]
    exact ⟨g.2.1.trans a, g.2.2.1.trans b, g.2.2.2.1.trans c, g.2.2.2.2.trans d⟩
/-- how many are like the one before, as the class counts them -/
theorem pk_like (n : Nat) {N : Nat} {K t : Nat → Nat} {A : Nat → Int64} {B : Nat → Int32} {V C : St} (h : pkR N K t A B V C) {i r : Nat} (hi : 1 ≤ i) (hr : i + r ≤ N) (a : ∀ j : Nat, i ≤ j → j < i + r → alB K t A B j = true) (b : i + r = N ∨ alB K t A B (i + r) = false) : ∀ (m g k : Nat), k + m = r → m < g → df_X3_likeBefore_2 n g (nI i) (nI k) V = some (nI r, V) := fun m => by
  have N8 := h.1
  induction m with
  | zero =>
    intro g k hk hg
    obtain ⟨g1, rfl⟩ : ∃ g1 : Nat, g = g1 + 1 := ⟨g - 1, by omega⟩
    have hk : k = r := by omega
    subst hk
    show dF_X3_likeBefore_2 n (df_X3_likeBefore_2 n g1) (nI i) (nI k) V = _
    generalize df_X3_likeBefore_2 n g1 = G
    unfold dF_X3_likeBefore_2 df_X3_likeBefore_53
    rw [if_neg (show ¬ nI i ≤ (0 : Int32) from fun z => by have z : nI i ≤ nI 0 := z; rw [nI_leI (by omega) (by omega)] at z; omega), show nI i + nI k = nI (i + k) from nI_add .., h.2.1]
    by_cases e : i + k = N
    · rw [if_pos (show nI N ≤ nI (i + k) by rw [nI_leI (by omega) (by omega)]; omega)]
    · have b := b.resolve_left e
      obtain ⟨q, r1, s1, s2, s3⟩ := pk_same n h (show i + k < N by omega) (show i - 1 < N by omega)
      rw [if_neg (show ¬ nI N ≤ nI (i + k) from fun z => by rw [nI_leI (by omega) (by omega)] at z; omega), show nI i - 1 = nI (i - 1) from pk_sub (show 1 ≤ i by omega), s1, nb_b2]
      rcases r1 with z | z
      · rw [if_pos (show q = 0 from z)]
      · have d1 := dT_le h (show i + k < N by omega)
        have d2 := dT_le h (show i - 1 < N by omega)
        rw [if_neg (show ¬ q = 0 by rw [z]; decide), pk_diff n h (show i + k < N by omega), nb_b2, pk_diff n h (show i - 1 < N by omega), nb_b2, if_neg (fun y => by
          have y := (on_inj (by omega) (by omega)).mp ((lcE _ _).mp y)
          obtain ⟨c1, c2, c3, c4⟩ := al_ch k a
          obtain ⟨e1, e2, e3⟩ := s3.mp z
          have : alB K t A B (i + k) = true := decide_eq_true ⟨by omega, e1.trans c1.symm, e2.trans c2.symm, e3.trans c3.symm, y.trans c4.symm⟩
          rw [b] at this
          exact nomatch this)]
  | succ m ih =>
    intro g k hk hg
    obtain ⟨g1, rfl⟩ : ∃ g1 : Nat, g = g1 + 1 := ⟨g - 1, by omega⟩
    have ih := ih g1 (k + 1) (by omega) (by omega)
    show dF_X3_likeBefore_2 n (df_X3_likeBefore_2 n g1) (nI i) (nI k) V = _
    generalize df_X3_likeBefore_2 n g1 = G at ih
    obtain ⟨q, r1, s1, s2, s3⟩ := pk_same n h (show i + k < N by omega) (show i - 1 < N by omega)
    obtain ⟨c1, c2, c3, c4⟩ := al_ch k (fun j h1 h2 => a j h1 (by omega))
    have g := of_decide_eq_true (a (i + k) (by omega) (by omega))
    have z := s3.mpr ⟨g.2.1.trans c1, g.2.2.1.trans c2, g.2.2.2.1.trans c3⟩
    unfold dF_X3_likeBefore_2
    rw [if_neg (show ¬ nI i ≤ (0 : Int32) from fun z => by have z : nI i ≤ nI 0 := z; rw [nI_leI (by omega) (by omega)] at z; omega), show nI i + nI k = nI (i + k) from nI_add .., h.2.1, if_neg (show ¬ nI N ≤ nI (i + k) from fun z => by rw [nI_leI (by omega) (by omega)] at z; omega), show nI i - 1 = nI (i - 1) from pk_sub (show 1 ≤ i by omega), s1, nb_b2, if_neg (show ¬ q = 0 by rw [z]; decide), pk_diff n h (show i + k < N by omega), nb_b2, pk_diff n h (show i - 1 < N by omega), nb_b2, if_pos ((lcE _ _).mpr (by rw [g.2.2.2.2.trans c4])), nb_let, show nI k + Int32.ofInt 1 = nI (k + 1) from nI_add ..]
    exact ih
/-- the reference's loop, one turn -/
theorem pk_turn (n : Nat) {N : Nat} {K t : Nat → Nat} {A : Nat → Int64} {B : Nat → Int32} {V C : St} (h : pkR N K t A B V C) {e c g : Nat} (he : e < N) (hc : c ≤ 2048) : (alB K t A B e = false → df_X14_pack_18 n (g + 1) (nI c) (nI e) C = nd_b1 (df_X14_entry n (nI e) C) (fun s => df_X14_pack_18 n g (nI 0) (nI (e + 1)) s)) ∧ (alB K t A B e = true → (e + 1 = N ∨ alB K t A B (e + 1) = false) → df_X14_pack_18 n (g + 1) (nI c) (nI e) C = nd_b1 (df_X14_run n (nI (c + 1)) C) (fun s => df_X14_pack_18 n g (nI (c + 1)) (nI (e + 1)) s)) ∧ (alB K t A B e = true → ¬ e + 1 = N → alB K t A B (e + 1) = true → df_X14_pack_18 n (g + 1) (nI c) (nI e) C = df_X14_pack_18 n g (nI (c + 1)) (nI (e + 1)) C) := by
  have N8 := h.1
  have a1 := pk_alike n h he
  have n1 : ¬ nI 1 = (0 : Int32) := by decide
  have n1' : ¬ (1 : Int32) = 0 := by decide
  have n0 : nI 0 = (0 : Int32) := rfl
  have s1 : nI e + 1 = nI (e + 1) := nI_add ..
  have s2 : nI c + 1 = nI (c + 1) := nI_add ..
  have s3 : nI e + Int32.ofInt 1 = nI (e + 1) := nI_add ..
  have c0 : ¬ nI (c + 1) ≤ (0 : Int32) := fun z => by have z : nI (c + 1) ≤ nI 0 := z; rw [nI_leI (by omega) (by omega)] at z; omega
  have z0 : (0 : Int32) ≤ 0 := by decide
  have eN : ¬ e + 1 = N → ¬ nI (e + 1) = nI N := fun y z => by rw [nI_eq (by omega) (by omega)] at z; exact y z
  show (_ → dF_X14_pack_18 n (df_X14_pack_18 n g) (nI c) (nI e) C = _) ∧ (_ → _ → dF_X14_pack_18 n (df_X14_pack_18 n g) (nI c) (nI e) C = _) ∧ (_ → _ → _ → dF_X14_pack_18 n (df_X14_pack_18 n g) (nI c) (nI e) C = _)
  generalize df_X14_pack_18 n g = G
  have beg : dF_X14_pack_18 n G (nI c) (nI e) C = if alB K t A B e = true then df_X14_pack_41 n G (nI e) (nI (c + 1)) C else df_X14_pack_41 n G (nI e) 0 C := by
    unfold dF_X14_pack_18
    rw [h.2.2.1, if_neg (show ¬ nI N ≤ nI e from fun z => by rw [nI_leI (by omega) (by omega)] at z; omega), a1, nb_b2, s2]
    by_cases y : alB K t A B e = true
    · rw [if_pos y, if_pos y, if_neg n1]
    · rw [if_neg y, if_neg y, if_pos n0]
  have fo : ∀ y0 : Int32, (e + 1 = N ∨ alB K t A B (e + 1) = false) → df_X14_pack_41 n G (nI e) y0 C = df_X14_pack_67 n G y0 (nI e) 1 C := fun y0 y => by
    unfold df_X14_pack_41 df_X14_pack_62
    rw [s1, h.2.2.1]
    by_cases q : e + 1 = N
    · rw [if_pos (by rw [q])]
    · rw [if_neg (eN q), pk_alike n h (show e + 1 < N by omega), y.resolve_left q, nb_b2]
      rfl
  have ba : ∀ y0 : Int32, ¬ e + 1 = N → alB K t A B (e + 1) = true → df_X14_pack_41 n G (nI e) y0 C = df_X14_pack_67 n G y0 (nI e) 0 C := fun y0 q y => by
    unfold df_X14_pack_41
    rw [s1, h.2.2.1, if_neg (eN q), pk_alike n h (show e + 1 < N by omega), y, nb_b2]
    rfl
  have en0 : ∀ q : Int32, df_X14_pack_67 n G 0 (nI e) q C = nd_b1 (df_X14_entry n (nI e) C) (fun s => G (nI 0) (nI (e + 1)) s) := fun q => by
    unfold df_X14_pack_67 df_X14_pack_79 df_X14_pack_96
    rw [if_pos z0, if_pos z0]
    show nd_b1 (df_X14_entry n (nI e) C) (fun s14 => G 0 (nI e + Int32.ofInt 1) s14) = _
    rw [s3]
    rfl
  refine ⟨fun y => ?_, fun y q => ?_, fun y q z => ?_⟩
  · rw [beg, if_neg (by rw [y]; decide)]
    by_cases q : e + 1 = N ∨ alB K t A B (e + 1) = false
    · rw [fo _ q, en0]
    · have q1 : ¬ e + 1 = N := fun z => q (Or.inl z)
      have q2 : alB K t A B (e + 1) = true := by
        cases w : alB K t A B (e + 1) with
        | true => rfl
        | false => exact absurd (Or.inr w) q
      rw [ba _ q1 q2, en0]
  · rw [beg, if_pos y, fo _ q]
    unfold df_X14_pack_67 df_X14_pack_79 df_X14_pack_96
    rw [if_neg c0, if_neg n1', if_neg c0]
    show nd_b1 (df_X14_run n (nI (c + 1)) C) (fun s18 => G (nI (c + 1)) (nI e + Int32.ofInt 1) s18) = _
    rw [s3]
  · rw [beg, if_pos y, ba _ q z]
    unfold df_X14_pack_67 df_X14_pack_96
    rw [if_neg c0, if_pos rfl, nb_let, s3]
/-- a run, as the reference finds it -/
theorem pk_rrun (n : Nat) {N : Nat} {K t : Nat → Nat} {A : Nat → Int64} {B : Nat → Int32} {V C : St} (h : pkR N K t A B V C) {i r : Nat} (hr : i + r ≤ N) (a : ∀ j : Nat, i ≤ j → j < i + r → alB K t A B j = true) (b : i + r = N ∨ alB K t A B (i + r) = false) : ∀ (m g k : Nat), k + (m + 1) = r → df_X14_pack_18 n (g + (m + 1)) (nI k) (nI (i + k)) C = nd_b1 (df_X14_run n (nI r) C) (fun s => df_X14_pack_18 n g (nI r) (nI (i + r)) s) := fun m => by
  have N8 := h.1
  induction m with
  | zero =>
    intro g k hk
    have hk : k + 1 = r := by omega
    subst hk
    have := (pk_turn n h (e := i + k) (c := k) (g := g) (by omega) (by omega)).2.1 (a (i + k) (by omega) (by omega)) (by rw [show i + k + 1 = i + (k + 1) by omega]; exact b)
    rw [show i + k + 1 = i + (k + 1) by omega] at this
    exact this
  | succ m ih =>
    intro g k hk
    have := (pk_turn n h (e := i + k) (c := k) (g := g + (m + 1)) (by omega) (by omega)).2.2 (a (i + k) (by omega) (by omega)) (by omega) (a (i + k + 1) (by omega) (by omega))
    rw [show g + (m + 1 + 1) = g + (m + 1) + 1 by omega, this, show i + k + 1 = i + (k + 1) by omega]
    exact ih g (k + 1) (by omega)
/-- a run, in both -/
theorem pk_run (n T : Nat) (hn : 4096 < n) {V0 C0 C : St} {s : St × St} {p r : Nat} (h : pkJ T p V0 C0 s C) (h1 : 1 ≤ r) (h2 : r ≤ 2048) (hp : p + 12 ≤ 32768) (G : Int32 → St × St → Option (Int32 × (St × St))) (x2 : Int32) : ∃ (p' : Nat) (s' : St × St) (C' : St), p' ≤ p + 12 ∧ (if (15 : Int32) < nI r then (df_X3_writeLog_65 n T G x2 (nI r) 5 0 s) else (df_X3_writeLog_65 n T G x2 (nI r) 5 (nI r <<< ((4 : Int32) &&& 31)) s)) = G (x2 + nI r) s' ∧ df_X14_run n (nI r) C = some C' ∧ pkJ T p' V0 C0 s' C' := by
  unfold df_X14_run df_X14_run_0 df_X14_run_13 df_X14_run_31 df_X3_writeLog_65 df_X3_writeLog_81 df_X3_writeLog_85
  by_cases c : r ≤ 15
  · obtain ⟨s1, C1, e1, e2, e3⟩ := pk_byte n T h (by omega) (5 ||| (nI r <<< ((4 : Int32) &&& 31)))
    have l15 : nI r ≤ (15 : Int32) := (show nI r ≤ nI 15 by rw [nI_leI (by omega) (by omega)]; exact c)
    refine ⟨p + 1, s1, C1, by omega, ?_, ?_, e3⟩
    · rw [if_neg (show ¬ (15 : Int32) < nI r from fun z => by have z : nI 15 < nI r := z; rw [nI_ltI (by omega) (by omega)] at z; omega), e1, nb_b1, if_pos l15, nb_let]
    · rw [if_neg (show ¬ (16 : Int32) ≤ nI r from fun z => by have z : nI 16 ≤ nI r := z; rw [nI_leI (by omega) (by omega)] at z; omega), e2, nb_b1, if_pos l15]
  · obtain ⟨s1, C1, e1, e2, e3⟩ := pk_byte n T h (by omega) (5 ||| 0)
    obtain ⟨p2, s2, C2, f0, f1, f2, f3⟩ := pk_varN n T (by omega) (m := 2) (x := r) (by omega) (by omega) (by omega) (by omega) e3
    have l15 : ¬ nI r ≤ (15 : Int32) := fun z => by have z : nI r ≤ nI 15 := z; rw [nI_leI (by omega) (by omega)] at z; omega
    refine ⟨p2, s2, C2, by omega, ?_, ?_, f3⟩
    · rw [if_pos (show (15 : Int32) < nI r from (show nI 15 < nI r by rw [nI_ltI (by omega) (by omega)]; omega)), e1, nb_b1, if_neg l15, nI_64 (by omega), f1, nb_b1, nb_let]
    · rw [if_pos (show (16 : Int32) ≤ nI r from (show nI 16 ≤ nI r by rw [nI_leI (by omega) (by omega)]; omega)), show (5 : Int32) ||| ((0 : Int32) <<< ((4 : Int32) &&& 31)) = 5 ||| 0 by decide, e2, nb_b1, if_neg l15, nI_64 (by omega), f2, nb_b1]
/-- all events, in both -/
theorem pk_loopA (n T : Nat) (hn : 4096 < n) {N : Nat} {K t : Nat → Nat} {A : Nat → Int64} {B : Nat → Int32} {V0 C0 : St} (hR : pkR N K t A B V0 C0) : ∀ (m i c g g' p : Nat) (s : St × St) (C : St), N - i ≤ m → i ≤ N → m < g → N - i < g' → (i < N → alB K t A B i = true → c = 0) → c ≤ 2048 → p ≤ 2 + 12 * i → pkJ T p V0 C0 s C → ∃ (p' : Nat) (s' : St × St) (C' : St), p' ≤ 2 + 12 * N ∧ df_X3_writeLog_21 n T g (nI i) s = some (nI p', s') ∧ df_X14_pack_18 n g' (nI c) (nI i) C = some (nI p', C') ∧ pkJ T p' V0 C0 s' C' := fun m => by
  have N8 := hR.1
  induction m with
  | zero =>
    intro i c g g' p s C hm hi hg hg' hc hc2 hp h
    obtain ⟨g1, rfl⟩ : ∃ g1 : Nat, g = g1 + 1 := ⟨g - 1, by omega⟩
    obtain ⟨g2, rfl⟩ : ∃ g2 : Nat, g' = g2 + 1 := ⟨g' - 1, by omega⟩
    have hi : i = N := by omega
    subst hi
    have R1 := pkR_J hR h
    refine ⟨p, s, C, hp, ?_, ?_, h⟩
    · show dF_X3_writeLog_21 n T (df_X3_writeLog_21 n T g1) (nI i) s = _
      unfold dF_X3_writeLog_21
      rw [R1.2.1, if_pos (show nI i ≤ nI i by rw [nI_leI (by omega) (by omega)]; exact Nat.le_refl i), h.2.2.1]
    · show dF_X14_pack_18 n (df_X14_pack_18 n g2) (nI c) (nI i) C = _
      unfold dF_X14_pack_18
      rw [R1.2.2.1, if_pos (show nI i ≤ nI i by rw [nI_leI (by omega) (by omega)]; exact Nat.le_refl i), h.2.2.2.1]
  | succ m ih =>
    intro i c g g' p s C hm hi hg hg' hc hc2 hp h
    obtain ⟨g1, rfl⟩ : ∃ g1 : Nat, g = g1 + 1 := ⟨g - 1, by omega⟩
    have R1 := pkR_J hR h
    by_cases eN : i = N
    · obtain ⟨g2, rfl⟩ : ∃ g2 : Nat, g' = g2 + 1 := ⟨g' - 1, by omega⟩
      subst eN
      refine ⟨p, s, C, hp, ?_, ?_, h⟩
      · show dF_X3_writeLog_21 n T (df_X3_writeLog_21 n T g1) (nI i) s = _
        unfold dF_X3_writeLog_21
        rw [R1.2.1, if_pos (show nI i ≤ nI i by rw [nI_leI (by omega) (by omega)]; exact Nat.le_refl i), h.2.2.1]
      · show dF_X14_pack_18 n (df_X14_pack_18 n g2) (nI c) (nI i) C = _
        unfold dF_X14_pack_18
        rw [R1.2.2.1, if_pos (show nI i ≤ nI i by rw [nI_leI (by omega) (by omega)]; exact Nat.le_refl i), h.2.2.2.1]
    · have iN : i < N := by omega
      have nN : ¬ nI N ≤ nI i := fun z => by rw [nI_leI (by omega) (by omega)] at z; omega
      have like : ∀ r : Nat, i + r ≤ N → (∀ j : Nat, i ≤ j → j < i + r → alB K t A B j = true) → (i + r = N ∨ alB K t A B (i + r) = false) → df_X3_likeBefore n (nI i) s.2 = some (nI r, s.2) := fun r q1 q2 q3 => by
        by_cases i0 : i = 0
        · subst i0
          have r0 : r = 0 := by
            by_cases y : r = 0
            · exact y
            · have := of_decide_eq_true (q2 0 (by omega) (by omega))
              exact absurd this.1 (by omega)
          subst r0
          obtain ⟨n', rfl⟩ : ∃ n' : Nat, n = n' + 1 := ⟨n - 1, by omega⟩
          show dF_X3_likeBefore_2 (n' + 1) (df_X3_likeBefore_2 (n' + 1) n') (nI 0) 0 s.2 = _
          unfold dF_X3_likeBefore_2 df_X3_likeBefore_53
          rw [if_pos (show nI 0 ≤ (0 : Int32) by decide)]
          rfl
        · exact pk_like n R1 (by omega) q1 q2 q3 r n 0 (by omega) (by omega)
      cases al : alB K t A B i with
      | false =>
        obtain ⟨g2, rfl⟩ : ∃ g2 : Nat, g' = g2 + 1 := ⟨g' - 1, by omega⟩
        have lk := like 0 (by omega) (fun j a b => by omega) (Or.inr al)
        obtain ⟨p1, s1, C1, q1, q2, q3, q4⟩ := pk_entry n T hn hR h iN (by omega)
        obtain ⟨p', s', C', f1, f2, f3, f4⟩ := ih (i + 1) 0 g1 g2 p1 s1 C1 (by omega) (by omega) (by omega) (by omega) (fun _ _ => rfl) (by omega) (by omega) q4
        refine ⟨p', s', C', f1, ?_, ?_, f4⟩
        · show dF_X3_writeLog_21 n T (df_X3_writeLog_21 n T g1) (nI i) s = _
          unfold dF_X3_writeLog_21 df_X3_writeLog_85
          rw [R1.2.1, if_neg nN, lk, nb_b2, nb_let, if_pos (show nI 0 = (0 : Int32) from rfl), q2, nb_b1, nb_let, show nI i + Int32.ofInt 1 = nI (i + 1) from nI_add ..]
          exact f2
        · rw [(pk_turn n R1 iN hc2).1 al, q3, nb_b1]
          exact f3
      | true =>
        have c0 := hc iN al
        subst c0
        obtain ⟨x1, x2, x3, x4⟩ := fN_le (fun k => !alB K t A B k) (N - i) i
        have al' : ∀ j : Nat, i ≤ j → j < fN (fun k => !alB K t A B k) i (N - i) → alB K t A B j = true := fun j a b => by
          have := x4 j a b
          cases w : alB K t A B j with
          | true => rfl
          | false => rw [w] at this; exact absurd this (by decide)
        obtain ⟨r, er⟩ : ∃ r : Nat, fN (fun k => !alB K t A B k) i (N - i) = i + r := ⟨fN (fun k => !alB K t A B k) i (N - i) - i, by omega⟩
        rw [er] at x1 x2 x3 al'
        have r1 : 1 ≤ r := by
          by_cases y : r = 0
          · subst y
            have := x3 (by omega)
            have this : (!alB K t A B (i + 0)) = true := this
            rw [show i + 0 = i from rfl, al] at this
            exact nomatch this
          · omega
        have b : i + r = N ∨ alB K t A B (i + r) = false := by
          by_cases y : i + r = N
          · exact Or.inl y
          · have := x3 (by omega)
            have this : (!alB K t A B (i + r)) = true := this
            cases w : alB K t A B (i + r) with
            | true => rw [w] at this; exact nomatch this
            | false => exact Or.inr rfl
        have lk := like r (by omega) al' b
        obtain ⟨p1, s1, C1, q1, q2, q3, q4⟩ := pk_run n T hn h r1 (by omega) (by omega) (df_X3_writeLog_21 n T g1) (nI i)
        obtain ⟨p', s', C', f1, f2, f3, f4⟩ := ih (i + r) r g1 (g' - r) p1 s1 C1 (by omega) (by omega) (by omega) (by omega) (fun y z => by
          rcases b with b | b
          · omega
          · rw [b] at z; exact nomatch z) (by omega) (by omega) q4
        refine ⟨p', s', C', f1, ?_, ?_, f4⟩
        · show dF_X3_writeLog_21 n T (df_X3_writeLog_21 n T g1) (nI i) s = _
          unfold dF_X3_writeLog_21
          rw [R1.2.1, if_neg nN, lk, nb_b2, nb_let, if_neg (show ¬ nI r = (0 : Int32) from fun z => by have z : nI r = nI 0 := z; rw [nI_eq (by omega) (by omega)] at z; omega)]
          refine Eq.trans q2 ?_
          rw [show nI i + nI r = nI (i + r) from nI_add ..]
          exact f2
        · have rr := pk_rrun n R1 (i := i) (r := r) (by omega) al' b (r - 1) (g' - r) 0 (by omega)
          rw [show g' - r + (r - 1 + 1) = g' by omega, show i + 0 = i from rfl] at rr
          rw [rr, q3, nb_b1]
          exact f3

theorem eA_u {t : S11} {V W : St} (h : eA t V) (g : eA t W) : V = W := by
  rcases h with ⟨a, b⟩ | ⟨a, b⟩
  · rcases g with ⟨c, d⟩ | ⟨c, d⟩
    · rw [← b, d]
    · rw [a] at c; exact absurd c (by decide)
  · rcases g with ⟨c, d⟩ | ⟨c, d⟩
    · rw [a] at c; exact absurd c (by decide)
    · rw [← b, d]
/-- what is the same of two recordings -/
def sV (V V' : St) : Prop := sI V' 0 = sI V 0 ∧ sI V' 1 = sI V 1 ∧ (∀ k : Nat, sR V' k = sR V k) ∧ ∀ k : Nat, sQ V' k = sQ V k
/-- what is the same of the class's line of time, of the reference -/
def sT (t t' : S11) : Prop := t'.1 = t.1 ∧ t'.2.1 = t.2.1 ∧ t'.2.2.1 = t.2.2.1 ∧ t'.2.2.2.2.2 = t.2.2.2.2.2
def sU (τ τ' : S19) : Prop := (∀ j : Nat, 3 ≤ j → j ≤ 11 → sI τ'.1 j = sI τ.1 j) ∧ (∀ j : Nat, 5 ≤ j → j ≤ 9 → sR τ'.1 j = sR τ.1 j) ∧ (∀ j : Nat, sQ τ'.1 j = sQ τ.1 j) ∧ τ'.2.2.1.2 = τ.2.2.1.2
theorem jM_V {n vn : Nat} {Q V V' : St} {N T e c k : Nat} {lo : Nat → Nat} {t t' : S11} {τ τ' : S19} (h : jM n vn Q V N T e c k lo t τ) (hV : sV V V') (hT : sT t t') (hU : sU τ τ') (hA : eA t' V') : jM n vn Q V' N T e c k lo t' τ' := by
  obtain ⟨v0, v1, vR, vQ⟩ := hV
  obtain ⟨t1, t2, t3, t4⟩ := hT
  obtain ⟨u1, u2, u3, u4⟩ := hU
  have ev : evK V' = evK V := by
    funext i
    unfold evK
    rw [vR 0, vR 1, vQ 1]
  have evt : evT τ'.1 = evT τ.1 := by
    funext i
    unfold evT
    rw [u2 5 (by omega) (by omega), u2 6 (by omega) (by omega), u3 0]
  have p1 : t'.2.2.2.2.2.1 = t.2.2.2.2.2.1 := congrArg Prod.fst t4
  have p3 : t'.2.2.2.2.2.2.2 = t.2.2.2.2.2.2.2 := congrArg (fun p => p.2.2) t4
  obtain ⟨⟨a1, ⟨b1, b2, b3, b4, b5, b6, b7, b8⟩, a3, a4, a5, a6, a7, a8, a9, ⟨cp, sp, at_, ix, hC⟩, a11⟩, ⟨l1, l2, l3, l4, l5, l6⟩, hev, hv, ⟨h4, h5, h6⟩, hk, hX, h10, h14, hS, h11⟩ := h
  refine ⟨⟨hA, ⟨v0.trans b1, v1.trans b2, b3, b4, b5, fun i c hc q1 q2 => by rw [vQ 0]; exact b6 i c hc q1 q2, fun i hi => by rw [vR 0, vR 1, vQ 1]; exact b7 i hi, b8⟩, by rw [ev]; exact a3, ?_, a5, by rw [t1]; exact a6, by rw [t1]; exact a7, by rw [t1]; exact a8, by rw [ev, t3]; exact a9, ⟨cp, sp, at_, ix, ?_⟩, fun j hj => by rw [ev, t1]; exact a11 j hj⟩, ⟨(u1 8 (by omega) (by omega)).trans l1, l2, l3, fun i c hc q1 q2 => by rw [u2 7 (by omega) (by omega)]; exact l4 i c hc q1 q2, fun i hi => by rw [u2 5 (by omega) (by omega), u2 6 (by omega) (by omega), u3 0]; exact l5 i hi, l6⟩, fun i hi => by rw [ev, evt]; exact hev i hi, hv, ⟨(u1 4 (by omega) (by omega)).trans h4, (u1 5 (by omega) (by omega)).trans h5, (u1 6 (by omega) (by omega)).trans h6⟩, hk, by rw [ev, u4]; exact hX, (u1 10 (by omega) (by omega)).trans h10, by rw [u4]; exact h14, ⟨(u1 9 (by omega) (by omega)).trans hS.1, fun i hi => by rw [u2 8 (by omega) (by omega), u2 9 (by omega) (by omega), u3 1, u3 2, vR 0, vR 1, vQ 0, vQ 1]; exact hS.2 i hi⟩, by rw [t1, u1 11 (by omega) (by omega)]; exact h11⟩
  · refine ⟨by rw [t3]; exact a4.1, fun v hv => ?_⟩
    rw [t2, p1]
    exact a4.2 v hv
  · obtain ⟨⟨d1, d2, d3, d4, d5, d6⟩, e1, e2, e3, e4, e5⟩ := hC
    refine ⟨⟨d1, d2, by rw [t1]; exact d3, by rw [t1]; exact d4, d5, d6⟩, by rw [t2]; exact e1, e2, e3, e4, fun i hi => ?_⟩
    rw [t1, p3, ev]
    exact e5 i hi
theorem jA_V {n : Nat} {V V' : St} {t t' : S11} {τ τ' : S19} (h : jA n t τ) (hE : eA t V) (hV : sV V V') (hT : sT t t') (hU : sU τ τ') (hA : eA t' V') : jA n t' τ' := by
  obtain ⟨h0, ⟨h1, h2, ⟨W, w1, w2, w3⟩, h4, h5, h6, h7⟩ | ⟨h1, h2, vn, Q, W, N, T, e, c, k, lo, h3⟩⟩ := h
  · have := eA_u hE w1
    subst this
    refine ⟨by unfold sp2; rw [hT.1]; exact h0, Or.inl ⟨by rw [hT.1]; exact h1, (hU.1 3 (by omega) (by omega)).trans h2, ⟨V', hA, hV.1.trans w2, hV.2.1.trans w3⟩, by rw [hT.2.2.1]; exact h4, by rw [hT.2.2.1]; exact h5, by rw [hT.2.1]; exact h6, (hU.1 8 (by omega) (by omega)).trans h7.1, by rw [hT.2.1]; exact h7.2⟩⟩
  · have := eA_u hE h3.1.1
    subst this
    exact ⟨by unfold sp2; rw [hT.1]; exact h0, Or.inr ⟨by rw [hT.1]; exact h1, (hU.1 3 (by omega) (by omega)).trans h2, vn, Q, V', N, T, e, c, k, lo, jM_V h3 hV hT hU hA⟩⟩
/-- the events of both, as they are packed -/
theorem jA_pk {n : Nat} {t : S11} {τ : S19} (h : jA n t τ) : ∃ (V : St) (N : Nat) (K tt : Nat → Nat), eA t V ∧ N ≤ 2048 ∧ sI V 0 = nI N ∧ sI τ.1 8 = nI N ∧ (∀ i : Nat, i + 1 < N → tt i ≤ tt (i + 1)) ∧ ∀ i : Nat, i < N → K i < 5 ∧ tt i ≤ 60000 ∧ evV (K i) (sQ V 1 i) (sR V 1 i) ∧ sR V 0 i = nI (K i) ∧ sQ V 0 i = Int64.ofNat (tt i) ∧ sR τ.1 5 i = nI (K i) ∧ sR τ.1 7 i = nI (tt i) ∧ sQ τ.1 0 i = sQ V 1 i ∧ sR τ.1 6 i = sR V 1 i := by
  obtain ⟨h0, ⟨h1, h2, ⟨V, v1, v2, v3⟩, h4, h5, h6, h7⟩ | ⟨h1, h2, vn, Q, V, N, T', e, c, k', lo, h3⟩⟩ := h
  · exact ⟨V, 0, fun _ => 0, fun _ => 0, v1, by omega, v2, h7.1, fun i hi => by omega, fun i hi => by omega⟩
  · obtain ⟨hI, hL, hev, hv, ⟨g4, g5, g6⟩, hk, hX, h10, h14, hS, h11⟩ := id h3
    obtain ⟨hV, hC, _⟩ := id hI
    obtain ⟨l1, l2, l3, l4, l5, l6, l7, l8⟩ := id hC
    obtain ⟨r1, r2, r3, r4, r5, r6⟩ := id hL
    have at_ : ∀ i : Nat, i < N → ∃ c' : Nat, c' ≤ e ∧ lo c' ≤ i ∧ i < lo (c' + 1) := fun i hi => by
      obtain ⟨c', c1, c2, c3, c4⟩ := okL_at l5 hi (e + 1) 0 (by omega) (by rw [l5.1]; omega)
      exact ⟨c', c2, c3, c4⟩
    have tv : ∀ i c' : Nat, c' ≤ e → lo c' ≤ i → i < lo (c' + 1) → (sQ V 0 i).toInt.toNat = c' := fun i c' a b d => by
      rw [l6 i c' a b d, nI_64 (by omega), lT (by omega)]
      omega
    refine ⟨V, N, fun i => Int32.toNatClampNeg (sR V 0 i), fun i => (sQ V 0 i).toInt.toNat, hV, r2, l1, r1, fun i hi => ?_, fun i hi => ?_⟩
    · obtain ⟨a, a1, a2, a3⟩ := at_ i (by omega)
      obtain ⟨b, b1, b2, b3⟩ := at_ (i + 1) hi
      show (sQ V 0 i).toInt.toNat ≤ (sQ V 0 (i + 1)).toInt.toNat
      rw [tv i a a1 a2 a3, tv (i + 1) b b1 b2 b3]
      by_cases y : a ≤ b
      · exact y
      · have := okL_le l5 (b + 1) a (by omega)
        omega
    · obtain ⟨a, a1, a2, a3⟩ := at_ i hi
      obtain ⟨ka, k1, k2, k3⟩ := l7 i (by omega)
      obtain ⟨kb, b1, b2, _⟩ := r5 i hi
      have ee := hev i hi
      unfold evT evK at ee
      injection ee with e1 e2
      injection e2 with e2 e3
      have kc : Int32.toNatClampNeg (sR V 0 i) = ka := by rw [k2, nI_clamp (by omega)]
      dsimp only
      rw [tv i a a1 a2 a3, kc]
      refine ⟨k1, by omega, k3, k2, by rw [l6 i a a1 a2 a3, nI_64 (by omega)], ?_, r4 i a a1 a2 a3, e2, e3⟩
      rw [kc, b2, nI_clamp (by omega)] at e1
      rw [b2, e1]
/-- the reference gives its events to the codec -/
theorem pk_fill (n : Nat) (hn : 70000 < n) {N : Nat} {K tt : Nat → Nat} {V : St} {τ : S19} (hN : N ≤ 2048) (h8 : sI τ.1 8 = nI N) (mo : ∀ i : Nat, i + 1 < N → tt i ≤ tt (i + 1)) (hi : ∀ i : Nat, i < N → K i < 5 ∧ tt i ≤ 60000 ∧ evV (K i) (sQ V 1 i) (sR V 1 i) ∧ sR V 0 i = nI (K i) ∧ sQ V 0 i = Int64.ofNat (tt i) ∧ sR τ.1 5 i = nI (K i) ∧ sR τ.1 7 i = nI (tt i) ∧ sQ τ.1 0 i = sQ V 1 i ∧ sR τ.1 6 i = sR V 1 i) : ∃ C : St, df_X19_pack n τ = nd_b2 (df_X14_pack n C) (fun q7 s8 => df_X19_pack_90 n n 0 (pI (pI τ.1 0 0) 12 q7, (τ.2.1, (τ.2.2.1, (s8, τ.2.2.2.2))))) ∧ sI C 0 = nI N ∧ (∀ k : Nat, ¬ k = 0 → ¬ k = 1 → sR C k = sR τ.2.2.2.1 k) ∧ (∀ k : Nat, sO C k = sO τ.2.2.2.1 k) ∧ ∀ i : Nat, i < N → sR C 0 i = nI (K i) ∧ sR C 1 i = sR V 1 i ∧ sQ C 0 i = Int64.ofNat (dT tt i) ∧ sQ C 1 i = sQ V 1 i := by
  obtain ⟨m, C, ⟨c1, c2, c3, c4⟩, e⟩ := nm_l1 (S := St) (fun g k C => df_X19_pack_14 n g (nI k) (pI τ.1 0 0, (τ.2.1, (τ.2.2.1, (C, τ.2.2.2.2))))) (fun k C => sI C 0 = nI k ∧ (∀ j : Nat, ¬ j = 0 → ¬ j = 1 → sR C j = sR τ.2.2.2.1 j) ∧ (∀ j : Nat, sO C j = sO τ.2.2.2.1 j) ∧ ∀ i : Nat, i < k → sR C 0 i = nI (K i) ∧ sR C 1 i = sR V 1 i ∧ sQ C 0 i = Int64.ofNat (dT tt i) ∧ sQ C 1 i = sQ V 1 i) N n (by omega) (fun k m C hk ⟨c1, c2, c3, c4⟩ => by
    obtain ⟨a1, a2, a3, a4, a5, a6, a7, a8, a9⟩ := hi k hk
    have u1 : k < 2 ^ 31 := by omega
    have v1 : k < 2048 := by omega
    have tk : ∀ (a : Int32) (d x : Int64) (b : Int32), df_X14_take n a d x b C = some (pI (pR (pQ (pQ (pR C 0 (upd (sR C 0) k a)) 0 (vp_updL (sQ C 0) k d)) 1 (vp_updL (sQ C 1) k x)) 1 (upd (sR C 1) k b)) 0 (nI (k + 1))) := fun a d x b => by
      simp (disch := (first | assumption | decide | omega)) only [df_X14_take_0, df_X14_take, c1, eq_self, Nat.reduceEqDiff, Nat.reduceLeDiff, nl_0, nl_1, nl_2048, no_1, no_1024, pk_mul, nI_add, nm_ck, nI_clamp, nI_ltI, nI_leI, nI_eq, nb_b2, nb_b1, ↓nb_let, nm_z0, nm_z1, nb_II, nb_IR, nb_RI, nb_RR, nm_IL, nm_IQ, nm_RL, nm_RQ, nm_LI, nm_LR, nm_LL, nm_LQ, nm_QI, nm_QR, nm_QL, nm_QQ, nm_rr, nm_ii, nm_eqm, not_false_eq_true, pk_sub, nm_div, nm_shl, nm_shr, nm_ush, nm_or8, nm_or64, nm_or256, nm_m1, nm_m3, nm_m7, nm_m15, nm_m31, nm_m63, nm_m255, nm_m511, nm_m1023, nm_m2047, nm_m65535, Nat.reduceMod, Nat.reducePow, Nat.reduceAdd, Nat.reduceSub, Nat.reduceMul, nm_bo, nm_bi, nm_rc, nm_ic, nm_ri, nm_rl, nm_rq, nm_ql, nm_qi, nm_li, nm_us, nm_uu, nm_cp, nm_sa31, nm_sa7, nm_m127, nm_m2, nm_nz, nm_nzk, nm_eq32, nm_nzf, if_true, if_false, ↓reduceIte, if_pos, if_neg]
    refine ⟨pI (pR (pQ (pQ (pR C 0 (upd (sR C 0) k (nI (K k)))) 0 (vp_updL (sQ C 0) k (Int64.ofNat (dT tt k)))) 1 (vp_updL (sQ C 1) k (sQ V 1 k))) 1 (upd (sR C 1) k (sR V 1 k))) 0 (nI (k + 1)), ⟨rfl, fun j j0 j1 => ?_, fun j => c3 j, fun i hi' => ?_⟩, ?_⟩
    · show sR (pR (pQ (pQ (pR C 0 _) 0 _) 1 _) 1 _) j = _
      rw [nb_RR, if_neg j1, nm_RQ, nm_RQ, nb_RR, if_neg j0]
      exact c2 j j0 j1
    · show upd (sR C 0) k (nI (K k)) i = _ ∧ upd (sR C 1) k (sR V 1 k) i = _ ∧ vp_updL (sQ C 0) k (Int64.ofNat (dT tt k)) i = _ ∧ vp_updL (sQ C 1) k (sQ V 1 k) i = _
      by_cases y : i = k
      · subst y
        exact ⟨nm_us, nm_us, ul_s, ul_s⟩
      · obtain ⟨d1, d2, d3, d4⟩ := c4 i (by omega)
        exact ⟨(nm_un y).trans d1, (nm_un y).trans d2, (up_o y).trans d3, (up_o y).trans d4⟩
    · show dF_X19_pack_14 n (df_X19_pack_14 n m) (nI k) _ = df_X19_pack_14 n m (nI (k + 1)) _
      generalize df_X19_pack_14 n m = G
      unfold dF_X19_pack_14 df_X19_pack_54
      have h8' : sI (pI τ.1 0 0) 8 = nI N := h8
      have r5 : sR (pI τ.1 0 0) 5 k = nI (K k) := a6
      have r6 : sR (pI τ.1 0 0) 6 k = sR V 1 k := a9
      have r7 : sR (pI τ.1 0 0) 7 k = nI (tt k) := a7
      have q0 : sQ (pI τ.1 0 0) 0 k = sQ V 1 k := a8
      have s3 : nI k + Int32.ofInt 1 = nI (k + 1) := nI_add ..
      dsimp only
      rw [h8', if_neg (show ¬ nI N ≤ nI k from fun z => by rw [nI_leI (by omega) (by omega)] at z; omega), nm_ck v1 u1, nm_ck v1 u1, nm_ck v1 u1, nm_ck v1 u1, nm_ck v1 u1, nm_ck v1 u1, nI_clamp u1, r5, r6, r7, q0]
      by_cases y : k = 0
      · subst y
        rw [if_pos (show nI 0 = (0 : Int32) from rfl), show (nI (tt 0) - 0).toInt64 = Int64.ofNat (dT tt 0) from (by rw [show nI (tt 0) - 0 = nI (tt 0) from pk_sub (b := 0) (by omega), nI_64 (by omega)]; rfl), tk, nb_b1, nb_let, nb_let, s3]
      · have mk := mo (k - 1) (by omega)
        rw [show k - 1 + 1 = k by omega] at mk
        have r7' : sR (pI τ.1 0 0) 7 (k - 1) = nI (tt (k - 1)) := (hi (k - 1) (by omega)).2.2.2.2.2.2.1
        rw [if_neg (show ¬ nI k = (0 : Int32) from fun z => by have z : nI k = nI 0 := z; rw [nI_eq u1 (by omega)] at z; exact y z), show nI k - 1 = nI (k - 1) from pk_sub (show 1 ≤ k by omega), nm_ck (by omega) (by omega), nI_clamp (by omega), r7', show (nI (tt k) - nI (tt (k - 1))).toInt64 = Int64.ofNat (dT tt k) from (by rw [pk_sub mk, nI_64 (by omega)]; unfold dT; rw [if_neg y]), tk, nb_b1, nb_let, nb_let, s3]) (pI τ.2.2.2.1 0 (nI 0)) ⟨rfl, fun _ _ _ => rfl, fun _ => rfl, fun i hi => by omega⟩
  refine ⟨C, ?_, c1, c2, c3, c4⟩
  have e : df_X19_pack_14 n n (nI 0) (pI τ.1 0 0, (τ.2.1, (τ.2.2.1, (pI τ.2.2.2.1 0 (nI 0), τ.2.2.2.2)))) = df_X19_pack_14 n (m + 1) (nI N) (pI τ.1 0 0, (τ.2.1, (τ.2.2.1, (C, τ.2.2.2.2)))) := e
  unfold df_X19_pack df_X19_pack_0 df_X14_clear df_X14_clear_0
  rw [nb_let, nb_let, nb_b1, nb_let]
  refine Eq.trans e ?_
  show dF_X19_pack_14 n (df_X19_pack_14 n m) (nI N) _ = _
  unfold dF_X19_pack_14
  dsimp only
  rw [show sI (pI τ.1 0 0) 8 = nI N from h8, if_pos (show nI N ≤ nI N by rw [nI_leI (by omega) (by omega)]; exact Nat.le_refl N)]
  rfl
theorem pk_cpy (n : Nat) (hn : 70000 < n) {p : Nat} {τ : S19} (hp : p ≤ 32768) (h12 : sI τ.1 12 = nI p) : ∃ f : Nat → Int32, df_X19_pack_90 n n 0 τ = some (nI p, (pR τ.1 10 f, τ.2)) ∧ ∀ j : Nat, j < p → f j = sR τ.2.2.2.1 2 j := by
  obtain ⟨m, e⟩ := nm_lq (fun g k => df_X19_pack_90 n g (nI k) (pR τ.1 10 (fun j => if j < k then sR τ.2.2.2.1 2 j else sR τ.1 10 j), τ.2)) p n (by omega) (fun k m hk => by
    have st : pR (pR τ.1 10 (fun j => if j < k then sR τ.2.2.2.1 2 j else sR τ.1 10 j)) 10 (upd (fun j => if j < k then sR τ.2.2.2.1 2 j else sR τ.1 10 j) k (sR τ.2.2.2.1 2 k)) = pR τ.1 10 (fun j => if j < k + 1 then sR τ.2.2.2.1 2 j else sR τ.1 10 j) := by
      rw [nm_rr]
      congr 1
      funext j
      by_cases y : j = k
      · rw [y, nm_us, if_pos (by omega)]
      · rw [nm_un y]
        by_cases z : j < k
        · rw [if_pos z, if_pos (by omega)]
        · rw [if_neg z, if_neg (by omega)]
    show dF_X19_pack_90 n (df_X19_pack_90 n m) (nI k) _ = df_X19_pack_90 n m (nI (k + 1)) _
    rw [← st]
    generalize df_X19_pack_90 n m = G
    unfold dF_X19_pack_90
    dsimp only
    rw [show sI (pR τ.1 10 (fun j => if j < k then sR τ.2.2.2.1 2 j else sR τ.1 10 j)) 12 = nI p from h12, if_neg (show ¬ nI p ≤ nI k from fun z => by rw [nI_leI (by omega) (by omega)] at z; omega), nm_ck (by omega) (by omega), nm_ck (by omega) (by omega), nI_clamp (by omega), nb_let, nb_let, show nI k + Int32.ofInt 1 = nI (k + 1) from nI_add ..]
    rfl)
  have e : df_X19_pack_90 n n (nI 0) (pR τ.1 10 (fun j => if j < 0 then sR τ.2.2.2.1 2 j else sR τ.1 10 j), τ.2) = df_X19_pack_90 n (m + 1) (nI p) (pR τ.1 10 (fun j => if j < p then sR τ.2.2.2.1 2 j else sR τ.1 10 j), τ.2) := e
  have e0 : (pR τ.1 10 (fun j => if j < 0 then sR τ.2.2.2.1 2 j else sR τ.1 10 j), τ.2) = τ := by
    have : (fun j => if j < 0 then sR τ.2.2.2.1 2 j else sR τ.1 10 j) = sR τ.1 10 := by
      funext j
      rw [if_neg (by omega)]
    rw [this, nm_r0]
  rw [e0] at e
  refine ⟨fun j => if j < p then sR τ.2.2.2.1 2 j else sR τ.1 10 j, ?_, fun j hj => if_pos hj⟩
  refine Eq.trans e ?_
  show dF_X19_pack_90 n (df_X19_pack_90 n m) (nI p) _ = _
  unfold dF_X19_pack_90
  dsimp only
  rw [show sI (pR τ.1 10 (fun j => if j < p then sR τ.2.2.2.1 2 j else sR τ.1 10 j)) 12 = nI p from h12, if_pos (show nI p ≤ nI p by rw [nI_leI (by omega) (by omega)]; exact Nat.le_refl p)]
/-- the recording is packed, in both -/
theorem pk_all (n L : Nat) (hn : 70000 < n) {N : Nat} {K tt : Nat → Nat} {V C R : St} (hR : pkR N K tt (sQ V 1) (sR V 1) V C) : ∃ (p : Nat) (s' : St × St) (C' : St), p ≤ 32768 ∧ df_X3_writeLog n L (R, V) = some (nI p, s') ∧ df_X14_pack n C = some (nI p, C') ∧ pkJ L p V C s' C' := by
  have N8 := hR.1
  have j0 : pkJ L 0 V C (R, pI (pO V 0 (some L)) 2 0) (pI C 1 0) := ⟨by omega, rfl, rfl, rfl, fun j hj => by omega, fun k hk => by
    show sI (pI (pO V 0 (some L)) 2 0) k = _
    rw [nb_II, if_neg hk]
    rfl, fun _ => rfl, fun _ => rfl, fun k hk => by
    show sI (pI C 1 0) k = _
    rw [nb_II, if_neg hk], fun _ _ => rfl, fun _ => rfl, fun _ => rfl⟩
  obtain ⟨p1, s1, C1, q0, q1, q2, q3⟩ := pk_varN n L (by omega) (m := 2) (x := N) (by omega) (by omega) (by omega) (by omega) j0
  obtain ⟨p', s', C', f1, f2, f3, f4⟩ := pk_loopA n L (by omega) hR N 0 0 n n p1 s1 C1 (by omega) (by omega) (by omega) (by omega) (fun _ _ => rfl) (by omega) (by omega) q3
  refine ⟨p', s', C', by omega, ?_, ?_, f4⟩
  · unfold df_X3_writeLog df_X3_writeLog_0
    rw [nb_let, nb_let]
    dsimp only
    rw [show sI (pI (pO V 0 (some L)) 2 0) 0 = nI N from hR.2.1, nI_64 (by omega), q1, nb_b1]
    exact f2
  · unfold df_X14_pack df_X14_pack_0
    rw [nb_let, show sI (pI C 1 0) 0 = nI N from hR.2.2.1, nI_64 (by omega), q2, nb_b1]
    exact f3
/-- pack -/
theorem jc_pack (n T L : Nat) (hn : 70000 < n) (σ : S12) (τ : S19) (h : jA n (tl σ) τ) : ∃ (r : Int32) (σ' : S12) (τ' : S19), df_X12_pack n T L σ = some (r, σ') ∧ df_X19_pack n τ = some (r, τ') ∧ jA n (tl σ') τ' ∧ rl σ' τ' ∧ ((∀ k : Nat, ¬ k = 2 → sI σ'.1 k = sI σ.1 k) ∧ (∀ k : Nat, sO σ'.1 k = sO σ.1 k) ∧ σ'.2.2.2.1 = σ.2.2.2.1 ∧ sT (tl σ) (tl σ')) ∧ ((∀ j : Nat, ¬ j = 0 → ¬ j = 12 → sI τ'.1 j = sI τ.1 j) ∧ (∀ j : Nat, ¬ j = 10 → sR τ'.1 j = sR τ.1 j) ∧ (∀ j : Nat, sQ τ'.1 j = sQ τ.1 j) ∧ (∀ j : Nat, sO τ'.1 j = sO τ.1 j) ∧ τ'.2.1 = τ.2.1 ∧ τ'.2.2.1 = τ.2.2.1 ∧ sR τ'.2.2.2.1 3 = sR τ.2.2.2.1 3 ∧ sO τ'.2.2.2.1 0 = sO τ.2.2.2.1 0 ∧ τ'.2.2.2.2 = τ.2.2.2.2) := by
  obtain ⟨V, N, K, tt, hE, hN, v0, t8, mo, hi⟩ := jA_pk h
  obtain ⟨C, r1, r2, r3, r4, r5⟩ := pk_fill n hn hN t8 mo hi
  have hR : pkR N K tt (sQ V 1) (sR V 1) V C := ⟨hN, v0, r2, mo, fun i hi' => by
    obtain ⟨a1, a2, a3, a4, a5, a6, a7, a8, a9⟩ := hi i hi'
    obtain ⟨b1, b2, b3, b4⟩ := r5 i hi'
    exact ⟨a1, a2, a3, ⟨a4, a5, rfl, rfl⟩, b1, b2, b3, b4⟩⟩
  obtain ⟨p, s', C', hp, w1, w2, w3⟩ := pk_all n L hn (R := σ.2.2.1) hR
  obtain ⟨f, g1, g2⟩ := pk_cpy n hn (τ := (pI (pI τ.1 0 0) 12 (nI p), (τ.2.1, (τ.2.2.1, (C', τ.2.2.2.2))))) hp rfl
  obtain ⟨a1, a2, a3, a4, a5, a6, a7, a8, a9, b1, b2, b3⟩ := w3
  have hV : sV V s'.2 := ⟨a6 0 (by omega), a6 1 (by omega), a7, a8⟩
  have eR : df_X19_pack n τ = some (nI p, (pR (pI (pI τ.1 0 0) 12 (nI p)) 10 f, (τ.2.1, (τ.2.2.1, (C', τ.2.2.2.2))))) := by
    rw [r1, w2, nb_b2]
    exact g1
  have hU : sU τ (pR (pI (pI τ.1 0 0) 12 (nI p)) 10 f, (τ.2.1, (τ.2.2.1, (C', τ.2.2.2.2)))) := ⟨fun j j1 j2 => by
    show sI (pI (pI τ.1 0 0) 12 (nI p)) j = _
    rw [nb_II, if_neg (by omega), nb_II, if_neg (by omega)], fun j j1 j2 => by
    show sR (pR (pI (pI τ.1 0 0) 12 (nI p)) 10 f) j = _
    rw [nb_RR, if_neg (by omega)]
    rfl, fun _ => rfl, rfl⟩
  have frR : ((∀ j : Nat, ¬ j = 0 → ¬ j = 12 → sI (pR (pI (pI τ.1 0 0) 12 (nI p)) 10 f) j = sI τ.1 j) ∧ (∀ j : Nat, ¬ j = 10 → sR (pR (pI (pI τ.1 0 0) 12 (nI p)) 10 f) j = sR τ.1 j)) := ⟨fun j j1 j2 => by
    show sI (pI (pI τ.1 0 0) 12 (nI p)) j = _
    rw [nb_II, if_neg j2, nb_II, if_neg j1], fun j j1 => by
    rw [nb_RR, if_neg j1]
    rfl⟩
  have row3 : sR C' 3 = sR τ.2.2.2.1 3 := (b1 3 (by omega)).trans (r3 3 (by omega) (by omega))
  have o0 : sO C' 0 = sO τ.2.2.2.1 0 := (b3 0).trans (r4 0)
  have lg : ∀ j : Nat, (j : Int) < (nI p).toInt → f j = sR s'.1 0 j &&& 255 := fun j hj => by
    rw [nI_toInt (by omega)] at hj
    rw [g2 j (by omega)]
    exact a5 j (by omega)
  have p31 : (nI p).toInt ≤ 32768 := by rw [nI_toInt (by omega)]; omega
  rcases hE with ⟨o1, o2⟩ | ⟨o1, o2⟩
  · have o2 : σ.2.2.2.2.2.2.1 = V := o2
    refine ⟨nI p, (pI σ.1 2 (nI p), (σ.2.1, (s'.1, (σ.2.2.2.1, (σ.2.2.2.2.1, (σ.2.2.2.2.2.1, (s'.2, σ.2.2.2.2.2.2.2))))))), _, ?_, eR, ?_, ⟨rfl, p31, lg⟩, ⟨fun k hk => ?_, fun _ => rfl, rfl, rfl, rfl, rfl, rfl⟩, frR.1, frR.2, fun _ => rfl, fun _ => rfl, rfl, rfl, row3, o0, rfl⟩
    · unfold df_X12_pack df_X12_pack_0
      rw [if_pos (show sO σ.2.2.2.2.1 0 = some 27 from o1), o2, w1, nb_b2, nb_let, nb_let]
      rfl
    · exact jA_V h (Or.inl ⟨o1, o2⟩) hV ⟨rfl, rfl, rfl, rfl⟩ hU (Or.inl ⟨o1, rfl⟩)
    · show sI (pI σ.1 2 _) k = _
      rw [nb_II, if_neg hk]
  · have o2 : σ.2.2.2.2.2.2.2.1 = V := o2
    refine ⟨nI p, (pI σ.1 2 (nI p), (σ.2.1, (s'.1, (σ.2.2.2.1, (σ.2.2.2.2.1, (σ.2.2.2.2.2.1, (σ.2.2.2.2.2.2.1, (s'.2, σ.2.2.2.2.2.2.2.2)))))))), _, ?_, eR, ?_, ⟨rfl, p31, lg⟩, ⟨fun k hk => ?_, fun _ => rfl, rfl, rfl, rfl, rfl, rfl⟩, frR.1, frR.2, fun _ => rfl, fun _ => rfl, rfl, rfl, row3, o0, rfl⟩
    · unfold df_X12_pack df_X12_pack_0
      rw [if_neg (show ¬ sO σ.2.2.2.2.1 0 = some 27 by rw [show sO σ.2.2.2.2.1 0 = some 32 from o1]; decide), if_pos (show sO σ.2.2.2.2.1 0 = some 32 from o1), o2, w1, nb_b2, nb_let, nb_let]
      rfl
    · exact jA_V h (Or.inr ⟨o1, o2⟩) hV ⟨rfl, rfl, rfl, rfl⟩ hU (Or.inr ⟨o1, rfl⟩)
    · show sI (pI σ.1 2 _) k = _
      rw [nb_II, if_neg hk]

/-- the events read so far, in both -/
def rdE (m : Nat) (u : Int64) (V C : St) : Prop := (m ≤ 2048 ∧ u = (if m = 0 then 0 else sQ V 0 (m - 1))) ∧ sI V 1 = nI m ∧ sI C 0 = nI m ∧ ∀ i : Nat, i < m → (∃ k : Nat, k < 5 ∧ sR V 0 i = nI k ∧ evV k (sQ V 1 i) (sR V 1 i)) ∧ sR C 0 i = sR V 0 i ∧ sR C 1 i = sR V 1 i ∧ sQ C 1 i = sQ V 1 i ∧ sQ V 0 i = (if i = 0 then 0 else sQ V 0 (i - 1)) + sQ C 0 i
/-- what is read, in both -/
def rdS (T len : Nat) (R V C : St) : Prop := len ≤ 32768 ∧ sO V 0 = some T ∧ sI V 3 = nI len ∧ sI V 0 = nI 0 ∧ sO C 0 = some 6 ∧ sI C 2 = nI len ∧ ∀ j : Nat, j < len → ∃ z : Nat, z < 256 ∧ sR C 3 j = nI z ∧ sR R 0 j &&& 255 = nI z
/-- no fault yet; a fault, the same in both -/
def rdO (T len m : Nat) (u : Int64) (p : Nat) (R V C : St) : Prop := rdS T len R V C ∧ rdE m u V C ∧ p ≤ len ∧ sI V 2 = nI p ∧ sI V 4 = nI 0 ∧ sI C 3 = nI p ∧ sI C 4 = nI 0
def rdX (T len m : Nat) (u : Int64) (R V C : St) : Prop := rdS T len R V C ∧ rdE m u V C ∧ ∃ f pl : Nat, 1 ≤ f ∧ f ≤ 7 ∧ pl ≤ 32768 ∧ sI V 4 = nI f ∧ sI V 5 = nI pl ∧ sI C 4 = nI (f + 8 * pl)
theorem rdS_V {T len : Nat} {R V C : St} (h : rdS T len R V C) {k : Nat} (h0 : ¬ k = 0) (h3 : ¬ k = 3) (x : Int32) : rdS T len R (pI V k x) C := by
  obtain ⟨a, b, c, d, e⟩ := h
  exact ⟨a, b, by rw [nb_II, if_neg (fun z => h3 z.symm)]; exact c, by rw [nb_II, if_neg (fun z => h0 z.symm)]; exact d, e⟩
theorem rdS_C {T len : Nat} {R V C : St} (h : rdS T len R V C) {k : Nat} (h2 : ¬ k = 2) (x : Int32) : rdS T len R V (pI C k x) := by
  obtain ⟨a, b, c, d, e, f, g⟩ := h
  exact ⟨a, b, c, d, e, by rw [nb_II, if_neg (fun z => h2 z.symm)]; exact f, g⟩
theorem rdE_V {m : Nat} {u : Int64} {V C : St} (h : rdE m u V C) {k : Nat} (h1 : ¬ k = 1) (x : Int32) : rdE m u (pI V k x) C := by
  obtain ⟨a, b, c, d⟩ := h
  exact ⟨a, by rw [nb_II, if_neg (fun z => h1 z.symm)]; exact b, c, d⟩
theorem rdE_C {m : Nat} {u : Int64} {V C : St} (h : rdE m u V C) {k : Nat} (h0 : ¬ k = 0) (x : Int32) : rdE m u V (pI C k x) := by
  obtain ⟨a, b, c, d⟩ := h
  exact ⟨a, b, by rw [nb_II, if_neg (fun z => h0 z.symm)]; exact c, d⟩
theorem bl_o (n : Nat) {V : St} (h : sI V 4 = nI 0) (f pl : Int32) : df_X3_blame n f pl V = some (pI (pI V 4 f) 5 pl) := by
  unfold df_X3_blame df_X3_blame_0
  rw [if_pos (show sI V 4 = 0 from h)]
  rfl
theorem me_o (n : Nat) {C : St} (h : sI C 4 = nI 0) (f pl : Int32) : df_X14_meet n f pl C = some (pI C 4 (f + 8 * pl)) := by
  unfold df_X14_meet df_X14_meet_0
  rw [if_pos (show sI C 4 = 0 from h)]
  rfl
theorem rdX_4 {T len m : Nat} {u : Int64} {R V C : St} (h : rdX T len m u R V C) : (¬ sI V 4 = 0) ∧ (¬ sI C 4 = 0) ∧ ¬ sI C 4 ≤ 0 := by
  obtain ⟨_, _, f, pl, f1, f7, p1, a, b, c⟩ := h
  refine ⟨fun z => ?_, fun z => ?_, fun z => ?_⟩
  · rw [a] at z
    have z : nI f = nI 0 := z
    rw [nI_eq (by omega) (by omega)] at z
    omega
  · rw [c] at z
    have z : nI (f + 8 * pl) = nI 0 := z
    rw [nI_eq (by omega) (by omega)] at z
    omega
  · rw [c] at z
    have z : nI (f + 8 * pl) ≤ nI 0 := z
    rw [nI_leI (by omega) (by omega)] at z
    omega
theorem bl_x (n : Nat) {T len m : Nat} {u : Int64} {R V C : St} (h : rdX T len m u R V C) (f pl : Int32) : df_X3_blame n f pl V = some V := by
  unfold df_X3_blame df_X3_blame_0
  rw [if_neg (rdX_4 h).1]
  rfl
theorem me_x (n : Nat) {T len m : Nat} {u : Int64} {R V C : St} (h : rdX T len m u R V C) (f pl : Int32) : df_X14_meet n f pl C = some C := by
  unfold df_X14_meet df_X14_meet_0
  rw [if_neg (rdX_4 h).2.1]
  rfl
/-- a fault is met, in both -/
theorem rd_fl {T len m : Nat} {u : Int64} {R V C : St} (hS : rdS T len R V C) (hE : rdE m u V C) {f pl : Nat} (f1 : 1 ≤ f) (f7 : f ≤ 7) (hp : pl ≤ 32768) : rdX T len m u R (pI (pI V 4 (nI f)) 5 (nI pl)) (pI C 4 (nI f + 8 * nI pl)) := by
  refine ⟨rdS_C (rdS_V (rdS_V hS (by omega) (by omega) _) (by omega) (by omega) _) (by omega) _, rdE_C (rdE_V (rdE_V hE (by omega) _) (by omega) _) (by omega) _, f, pl, f1, f7, hp, rfl, rfl, ?_⟩
  show nI f + 8 * nI pl = _
  rw [show (8 : Int32) * nI pl = nI (8 * pl) from pk_mul .., nI_add]
theorem rdX_C3 {T len m : Nat} {u : Int64} {R V C : St} (h : rdX T len m u R V C) (x : Int32) : rdX T len m u R V (pI C 3 x) := by
  obtain ⟨hS, hE, f, pl, f1, f7, p1, a, b, c⟩ := h
  exact ⟨rdS_C hS (by omega) _, rdE_C hE (by omega) _, f, pl, f1, f7, p1, a, b, c⟩
theorem nx_x (n : Nat) {T len m : Nat} {u : Int64} {R V C : St} (h : rdX T len m u R V C) : ∃ C' : St, df_X14_next n C = some (0, C') ∧ rdX T len m u R V C' := by
  have n20 : df_X14_next_20 n C = some (0, pI C 3 (sI C 3 + 1)) := by
    unfold df_X14_next_20 df_X14_next_52
    rw [nb_let, if_neg (show ¬ sI (pI C 3 (sI C 3 + 1)) 4 ≤ 0 from (rdX_4 h).2.2)]
  refine ⟨_, ?_, rdX_C3 h (sI C 3 + 1)⟩
  unfold df_X14_next df_X14_next_0
  by_cases c : sI C 3 < sI C 2
  · rw [if_pos c, n20]
  · rw [if_neg c, me_x n h, nb_b1, n20]
/-- a byte is read, in both -/
theorem rd_b (n : Nat) {T len m p : Nat} {u : Int64} {R V C : St} (h : rdO T len m u p R V C) : (∃ z : Nat, p < len ∧ z < 256 ∧ df_X3_readByte n T (R, V) = some (nI z, (R, pI V 2 (nI (p + 1)))) ∧ df_X14_next n C = some (nI z, pI C 3 (nI (p + 1))) ∧ rdO T len m u (p + 1) R (pI V 2 (nI (p + 1))) (pI C 3 (nI (p + 1)))) ∨ ∃ V' C' : St, df_X3_readByte n T (R, V) = some (nI 0, (R, V')) ∧ df_X14_next n C = some (nI 0, C') ∧ rdX T len m u R V' C' := by
  obtain ⟨hS, hE, hp, v2, v4, c3, c4⟩ := h
  obtain ⟨s1, s2, s3, s4, s5, s6, s7⟩ := id hS
  have p1 : nI p + 1 = nI (p + 1) := nI_add ..
  have p2 : nI (p + 1) - 1 = nI p := dn_2 p
  by_cases c : p < len
  · obtain ⟨z, z1, z2, z3⟩ := s7 p c
    refine Or.inl ⟨z, c, z1, ?_, ?_, rdS_C (rdS_V hS (by omega) (by omega) _) (by omega) _, rdE_C (rdE_V hE (by omega) _) (by omega) _, by omega, rfl, v4, rfl, c4⟩
    · unfold df_X3_readByte df_X3_readByte_0
      rw [v2, s3, if_pos (show nI p < nI len by rw [nI_ltI (by omega) (by omega)]; exact c), nb_let]
      dsimp only
      rw [nb_o (show sO (pI V 2 (nI p + 1)) 0 = some T from s2), show sI (pI V 2 (nI p + 1)) 2 = nI p + 1 from rfl, p1, p2, nm_ck (by omega) (by omega), nI_clamp (by omega), z3]
    · unfold df_X14_next df_X14_next_0 df_X14_next_20 df_X14_next_52
      rw [c3, s6, if_pos (show nI p < nI len by rw [nI_ltI (by omega) (by omega)]; exact c), nb_let, show sI (pI C 3 (nI p + 1)) 4 = nI 0 from c4, if_pos (show nI 0 ≤ (0 : Int32) by decide), nb_o (show sO (pI C 3 (nI p + 1)) 0 = some 6 from s5), show sI (pI C 3 (nI p + 1)) 3 = nI p + 1 from rfl, p1, p2, nm_ck (by omega) (by omega), nI_clamp (by omega), show sR (pI C 3 (nI (p + 1))) 3 p = nI z from z2]
  · have nl : ¬ nI p < nI len := fun z => by rw [nI_ltI (by omega) (by omega)] at z; exact c z
    have X := rd_fl hS hE (f := 2) (pl := len) (by omega) (by omega) s1
    obtain ⟨C', g1, g2⟩ := nx_x n X
    refine Or.inr ⟨_, _, ?_, ?_, rdX_C3 X (nI p + 1)⟩
    · unfold df_X3_readByte df_X3_readByte_0
      rw [v2, s3, if_neg nl, bl_o n v4, nb_b1, nb_let]
      rfl
    · unfold df_X14_next df_X14_next_0 df_X14_next_20 df_X14_next_52
      rw [c3, s6, if_neg nl, me_o n c4, nb_b1, nb_let]
      have e4 : ¬ sI (pI (pI C 4 (2 + 8 * nI len)) 3 (sI (pI C 4 (2 + 8 * nI len)) 3 + 1)) 4 ≤ 0 := (rdX_4 X).2.2
      rw [if_neg e4, show sI (pI C 4 (2 + 8 * nI len)) 3 = nI p from c3]
      rfl
theorem or_nn {a b : Int64} (ha : 0 ≤ a.toInt) (hb : 0 ≤ b.toInt) : 0 ≤ (a ||| b).toInt := by
  have ma : a.toBitVec.msb = false := BitVec.msb_eq_false_iff_two_mul_lt.mpr (by
    have := BitVec.toInt_eq_toNat_cond a.toBitVec
    have e : a.toInt = a.toBitVec.toInt := rfl
    rw [e, this] at ha
    by_cases c : 2 * a.toBitVec.toNat < 2 ^ 64
    · exact c
    · rw [if_neg c] at ha
      have := a.toBitVec.isLt
      omega)
  have mb : b.toBitVec.msb = false := BitVec.msb_eq_false_iff_two_mul_lt.mpr (by
    have := BitVec.toInt_eq_toNat_cond b.toBitVec
    have e : b.toInt = b.toBitVec.toInt := rfl
    rw [e, this] at hb
    by_cases c : 2 * b.toBitVec.toNat < 2 ^ 64
    · exact c
    · rw [if_neg c] at hb
      have := b.toBitVec.isLt
      omega)
  have mc : (a ||| b).toBitVec.msb = false := by
    show (a.toBitVec ||| b.toBitVec).msb = false
    rw [BitVec.msb_or, ma, mb]
    rfl
  have e : (a ||| b).toInt = (a ||| b).toBitVec.toInt := rfl
  rw [e, BitVec.toInt_eq_toNat_cond, if_pos (BitVec.msb_eq_false_iff_two_mul_lt.mp mc)]
  omega
theorem sh7_nn {z i : Nat} (hz : z < 128) (hi : i < 7) : 0 ≤ ((nI z).toInt64 <<< ((7 * nI i).toInt64 &&& 63)).toInt := by
  have hs : ∀ i : Fin 7, (((7 * nI i.1).toInt64 &&& 63).toBitVec.smod 64).toNat = 7 * i.1 := by decide
  have e : ((nI z).toInt64 <<< ((7 * nI i).toInt64 &&& 63)).toBitVec.toNat = z * 2 ^ (7 * i) := by
    show ((nI z).toInt64.toBitVec <<< (((7 * nI i).toInt64 &&& 63).toBitVec.smod 64).toNat).toNat = _
    rw [hs ⟨i, hi⟩, BitVec.toNat_shiftLeft, Nat.shiftLeft_eq, nI_64 (by omega), show (Int64.ofNat z).toBitVec.toNat = z by show z % 2 ^ 64 = z; omega]
    apply Nat.mod_eq_of_lt
    have : 2 ^ (7 * i) ≤ 2 ^ 42 := Nat.pow_le_pow_right (by omega) (by omega)
    calc z * 2 ^ (7 * i) ≤ 127 * 2 ^ 42 := Nat.mul_le_mul (by omega) this
      _ < 2 ^ 64 := by decide
  have t : ((nI z).toInt64 <<< ((7 * nI i).toInt64 &&& 63)).toInt = ((nI z).toInt64 <<< ((7 * nI i).toInt64 &&& 63)).toBitVec.toInt := rfl
  have lt : z * 2 ^ (7 * i) < 2 ^ 63 := by
    have : 2 ^ (7 * i) ≤ 2 ^ 42 := Nat.pow_le_pow_right (by omega) (by omega)
    calc z * 2 ^ (7 * i) ≤ 127 * 2 ^ 42 := Nat.mul_le_mul (by omega) this
      _ < 2 ^ 63 := by decide
  rw [t, BitVec.toInt_eq_toNat_cond, e, if_pos (by omega)]
  omega
/-- the end of a number, in both: no fault so far -/
theorem rd_ve (n : Nat) {T len m p : Nat} {u : Int64} {R V C : St} (h : rdO T len m u (p + 1) R V C) {x : Int64} (hx : 0 ≤ x.toInt) : (∃ V' C' : St, df_X3_readVarint_54 n T x (R, V) = some (x, (R, V')) ∧ df_X14_readVarint_83 n x C = some (x, C') ∧ rdO T len m u (p + 1) R V' C' ∧ x.toInt ≤ 1099511627776 ∧ V' = V) ∨ ∃ V' C' : St, df_X3_readVarint_54 n T x (R, V) = some (x, (R, V')) ∧ df_X14_readVarint_83 n x C = some (x, C') ∧ rdX T len m u R V' C' := by
  have eL : (1099511627776 : Int64).toInt = 1099511627776 := by decide
  obtain ⟨hS, hE, hp, v2, v4, c3, c4⟩ := id h
  unfold df_X3_readVarint_54 df_X14_readVarint_83
  by_cases c : x.toInt ≤ 1099511627776
  · have c' : lg_cmp x 1099511627776 ≤ (0 : Int32) := (lcD _ _).mpr (by rw [eL]; exact c)
    rw [if_pos c', if_pos c']
    exact Or.inl ⟨V, C, rfl, rfl, h, c, rfl⟩
  · have c' : ¬ lg_cmp x 1099511627776 ≤ (0 : Int32) := fun z => c (by have z := (lcD _ _).mp z; rw [eL] at z; exact z)
    rw [if_neg c', if_neg c']
    refine Or.inr ⟨_, _, ?_, ?_, rd_fl hS hE (f := 3) (pl := p) (by omega) (by omega) (by have := hS.1; omega)⟩
    · unfold df_X3_readVarint_62 df_X3_readVarint_73
      rw [v2, show nI (p + 1) - 1 = nI p from dn_2 p, bl_o n v4, nb_b1, nb_let]
      rfl
    · unfold df_X14_readVarint_91 df_X14_readVarint_102
      rw [c3, show nI (p + 1) - 1 = nI p from dn_2 p, me_o n c4, nb_b1]
      rfl
theorem rd_v6 (n : Nat) {T len m p : Nat} {u : Int64} {R V C : St} (h : rdO T len m u (p + 1) R V C) (x : Int64) : ∃ V' C' : St, df_X3_readVarint_62 n T x (R, V) = some (x, (R, V')) ∧ df_X14_readVarint_91 n x C = some (x, C') ∧ rdX T len m u R V' C' := by
  obtain ⟨hS, hE, hp, v2, v4, c3, c4⟩ := id h
  refine ⟨_, _, ?_, ?_, rd_fl hS hE (f := 3) (pl := p) (by omega) (by omega) (by have := hS.1; omega)⟩
  · unfold df_X3_readVarint_62 df_X3_readVarint_73
    rw [v2, show nI (p + 1) - 1 = nI p from dn_2 p, bl_o n v4, nb_b1, nb_let]
    rfl
  · unfold df_X14_readVarint_91 df_X14_readVarint_102
    rw [c3, show nI (p + 1) - 1 = nI p from dn_2 p, me_o n c4, nb_b1]
    rfl
/-- the end of a number behind a fault -/
theorem vx_C (n : Nat) {T len m : Nat} {u : Int64} {R V C : St} (h : rdX T len m u R V C) (x : Int64) : df_X3_readVarint_54 n T x (R, V) = some (x, (R, V)) ∧ df_X3_readVarint_62 n T x (R, V) = some (x, (R, V)) := by
  have e : df_X3_readVarint_62 n T x (R, V) = some (x, (R, V)) := by
    unfold df_X3_readVarint_62 df_X3_readVarint_73
    rw [bl_x n h, nb_b1, nb_let]
  refine ⟨?_, e⟩
  unfold df_X3_readVarint_54
  rw [e]
  by_cases c : lg_cmp x 1099511627776 ≤ (0 : Int32)
  · rw [if_pos c]; rfl
  · rw [if_neg c]
theorem vx_R (n : Nat) {T len m : Nat} {u : Int64} {R V C : St} (h : rdX T len m u R V C) (x : Int64) (x3 x4 : Int32) : df_X14_readVarint_73 n x x3 x4 C = some (x, C) := by
  have e : df_X14_readVarint_91 n x C = some (x, C) := by
    unfold df_X14_readVarint_91 df_X14_readVarint_102
    rw [me_x n h, nb_b1]
  have e2 : df_X14_readVarint_83 n x C = some (x, C) := by
    unfold df_X14_readVarint_83
    rw [e]
    by_cases c : lg_cmp x 1099511627776 ≤ (0 : Int32)
    · rw [if_pos c]; rfl
    · rw [if_neg c]
  unfold df_X14_readVarint_73
  rw [e, e2]
  by_cases c : x3 ≤ 1
  · rw [if_pos c]
  · rw [if_neg c]
    by_cases d : x4 = 0
    · rw [if_pos d]
    · rw [if_neg d]
/-- a number in bytes of seven bits is read, in both -/
theorem rd_v (n : Nat) {T len m : Nat} {u : Int64} {R : St} : ∀ (k i g g' p c : Nat) (x : Int64) (V C : St), i + k = 7 → 1 ≤ k → k < g → k < g' → 128 ≤ c → c < 256 → 0 ≤ x.toInt → rdO T len m u p R V C → (∃ (v : Int64) (p' : Nat) (V' C' : St), df_X3_readVarint_4 n T g x (nI i) (R, V) = some (v, (R, V')) ∧ df_X14_readVarint_9 n g' x (nI i) (nI c) C = some (v, C') ∧ rdO T len m u p' R V' C' ∧ 0 ≤ v.toInt ∧ v.toInt ≤ 1099511627776 ∧ ∀ k : Nat, sR V' k = sR V k) ∨ ∃ (v w : Int64) (V' C' : St), df_X3_readVarint_4 n T g x (nI i) (R, V) = some (v, (R, V')) ∧ df_X14_readVarint_9 n g' x (nI i) (nI c) C = some (w, C') ∧ rdX T len m u R V' C' := fun k => by
  induction k with
  | zero => intro i g g' p c x V C _ h1; exact absurd h1 (by omega)
  | succ k ih =>
    intro i g g' p c x V C hik _ hg hg' c1 c2 hx h
    obtain ⟨g1, rfl⟩ : ∃ g1 : Nat, g = g1 + 1 := ⟨g - 1, by omega⟩
    obtain ⟨g2, rfl⟩ : ∃ g2 : Nat, g' = g2 + 1 + 1 := ⟨g' - 2, by omega⟩
    have v4 : sI V 4 = 0 := h.2.2.2.2.1
    have w4 : sI C 4 = 0 := h.2.2.2.2.2.2
    have i7 : ¬ (7 : Int32) ≤ nI i := fun z => by have z : nI 7 ≤ nI i := z; rw [nI_leI (by omega) (by omega)] at z; omega
    have c127 : ¬ nI c ≤ (127 : Int32) := fun z => by have z : nI c ≤ nI 127 := z; rw [nI_leI (by omega) (by omega)] at z; omega
    have i1 : nI i + Int32.ofInt 1 = nI (i + 1) := nI_add ..
    have ii : nI i ≤ (0 : Int32) ↔ i = 0 := nm_nle0 (by omega)
    have ij : nI (i + 1) ≤ (1 : Int32) ↔ i = 0 := by
      show nI (i + 1) ≤ nI 1 ↔ _
      rw [nI_leI (by omega) (by omega)]
      omega
    have j7 : nI (i + 1) = (7 : Int32) ↔ i + 1 = 7 := by
      show nI (i + 1) = nI 7 ↔ _
      rw [nI_eq (by omega) (by omega)]
    -- one turn of each
    have tC : ∀ (z : Int32) (V1 : St), df_X3_readByte n T (R, V) = some (z, (R, V1)) → df_X3_readVarint_4 n T (g1 + 1) x (nI i) (R, V) = if (128 : Int32) ≤ z then df_X3_readVarint_4 n T g1 (x ||| ((z &&& 127).toInt64 <<< ((7 * nI i).toInt64 &&& 63))) (nI (i + 1)) (R, V1) else if i = 0 then df_X3_readVarint_54 n T (x ||| ((z &&& 127).toInt64 <<< ((7 * nI i).toInt64 &&& 63))) (R, V1) else if z = 0 then df_X3_readVarint_62 n T (x ||| ((z &&& 127).toInt64 <<< ((7 * nI i).toInt64 &&& 63))) (R, V1) else df_X3_readVarint_54 n T (x ||| ((z &&& 127).toInt64 <<< ((7 * nI i).toInt64 &&& 63))) (R, V1) := fun z V1 e => by
      show dF_X3_readVarint_4 n T (df_X3_readVarint_4 n T g1) x (nI i) (R, V) = _
      generalize df_X3_readVarint_4 n T g1 = G
      unfold dF_X3_readVarint_4
      rw [if_neg i7, if_pos v4, e, nb_b2, nb_let, nb_let, i1]
      by_cases c : i = 0
      · rw [if_pos (ii.mpr c), if_pos c]
      · rw [if_neg (fun y => c (ii.mp y)), if_neg c]
    have tR : ∀ (z : Int32) (C1 : St), df_X14_next n C = some (z, C1) → df_X14_readVarint_9 n (g2 + 1 + 1) x (nI i) (nI c) C = if i + 1 = 7 then (if z ≤ 127 then df_X14_readVarint_9 n (g2 + 1) (x ||| ((z &&& 127).toInt64 <<< ((7 * nI i).toInt64 &&& 63))) (nI (i + 1)) z C1 else nd_b1 (df_X14_meet n 3 (sI C1 3 - 1) C1) (fun s17 => df_X14_readVarint_9 n (g2 + 1) (x ||| ((z &&& 127).toInt64 <<< ((7 * nI i).toInt64 &&& 63))) (nI (i + 1)) z s17)) else df_X14_readVarint_9 n (g2 + 1) (x ||| ((z &&& 127).toInt64 <<< ((7 * nI i).toInt64 &&& 63))) (nI (i + 1)) z C1 := fun z C1 e => by
      show dF_X14_readVarint_9 n (df_X14_readVarint_9 n (g2 + 1)) x (nI i) (nI c) C = _
      generalize df_X14_readVarint_9 n (g2 + 1) = G
      unfold dF_X14_readVarint_9
      rw [if_neg c127, if_pos w4, e, nb_b2, nb_let, nb_let, i1]
      by_cases c : i + 1 = 7
      · rw [if_pos (j7.mpr c), if_pos c]
      · rw [if_neg (fun y => c (j7.mp y)), if_neg c]
    -- the reference ends
    have rE : ∀ (y : Int64) (z : Int32) (C1 : St), z ≤ 127 → df_X14_readVarint_9 n (g2 + 1) y (nI (i + 1)) z C1 = if i = 0 then df_X14_readVarint_83 n y C1 else if z = 0 then df_X14_readVarint_91 n y C1 else df_X14_readVarint_83 n y C1 := fun y z C1 hz => by
      show dF_X14_readVarint_9 n (df_X14_readVarint_9 n g2) y (nI (i + 1)) z C1 = _
      unfold dF_X14_readVarint_9 df_X14_readVarint_73
      rw [if_pos hz]
      by_cases c : i = 0
      · rw [if_pos (ij.mpr c), if_pos c]
      · rw [if_neg (fun y => c (ij.mp y)), if_neg c]
    rcases rd_b n h with ⟨z, z0, z1, e1, e2, h1⟩ | ⟨V1, C1, e1, e2, h1⟩
    · rw [tC _ _ e1, tR _ _ e2]
      have z127 : nI z &&& 127 = nI (z % 128) := pk_andN (by omega) 7 (by decide)
      have nn : 0 ≤ (x ||| ((nI z &&& 127).toInt64 <<< ((7 * nI i).toInt64 &&& 63))).toInt := by
        rw [z127]
        exact or_nn hx (sh7_nn (by omega) (by omega))
      generalize x ||| ((nI z &&& 127).toInt64 <<< ((7 * nI i).toInt64 &&& 63)) = y at nn
      by_cases zl : z < 128
      · have l1 : ¬ (128 : Int32) ≤ nI z := fun q => by have q : nI 128 ≤ nI z := q; rw [nI_leI (by omega) (by omega)] at q; omega
        have l2 : nI z ≤ (127 : Int32) := (show nI z ≤ nI 127 by rw [nI_leI (by omega) (by omega)]; omega)
        rw [if_neg l1, if_pos l2, rE y _ _ l2]
        have fin : (if i + 1 = 7 then (if i = 0 then df_X14_readVarint_83 n y (pI C 3 (nI (p + 1))) else if nI z = 0 then df_X14_readVarint_91 n y (pI C 3 (nI (p + 1))) else df_X14_readVarint_83 n y (pI C 3 (nI (p + 1)))) else (if i = 0 then df_X14_readVarint_83 n y (pI C 3 (nI (p + 1))) else if nI z = 0 then df_X14_readVarint_91 n y (pI C 3 (nI (p + 1))) else df_X14_readVarint_83 n y (pI C 3 (nI (p + 1))))) = (if i = 0 then df_X14_readVarint_83 n y (pI C 3 (nI (p + 1))) else if nI z = 0 then df_X14_readVarint_91 n y (pI C 3 (nI (p + 1))) else df_X14_readVarint_83 n y (pI C 3 (nI (p + 1)))) := by
          by_cases q : i + 1 = 7
          · rw [if_pos q]
          · rw [if_neg q]
        rw [fin]
        have ok := rd_ve n h1 nn
        have bad := rd_v6 n h1 y
        have go54 : (∃ (v : Int64) (p' : Nat) (V' C' : St), df_X3_readVarint_54 n T y (R, pI V 2 (nI (p + 1))) = some (v, (R, V')) ∧ df_X14_readVarint_83 n y (pI C 3 (nI (p + 1))) = some (v, C') ∧ rdO T len m u p' R V' C' ∧ 0 ≤ v.toInt ∧ v.toInt ≤ 1099511627776 ∧ ∀ k : Nat, sR V' k = sR V k) ∨ ∃ (v w : Int64) (V' C' : St), df_X3_readVarint_54 n T y (R, pI V 2 (nI (p + 1))) = some (v, (R, V')) ∧ df_X14_readVarint_83 n y (pI C 3 (nI (p + 1))) = some (w, C') ∧ rdX T len m u R V' C' := by
          rcases ok with ⟨V', C', a, b, d, f, eV⟩ | ⟨V', C', a, b, d⟩
          · exact Or.inl ⟨y, p + 1, V', C', a, b, d, nn, f, fun k => by rw [eV]; rfl⟩
          · exact Or.inr ⟨y, y, V', C', a, b, d⟩
        by_cases q : i = 0
        · rw [if_pos q, if_pos q]
          exact go54
        · rw [if_neg q, if_neg q]
          by_cases w : nI z = (0 : Int32)
          · rw [if_pos w, if_pos w]
            obtain ⟨V', C', a, b, d⟩ := bad
            exact Or.inr ⟨y, y, V', C', a, b, d⟩
          · rw [if_neg w, if_neg w]
            exact go54
      · have l1 : (128 : Int32) ≤ nI z := (show nI 128 ≤ nI z by rw [nI_leI (by omega) (by omega)]; omega)
        have l2 : ¬ nI z ≤ (127 : Int32) := fun q => by have q : nI z ≤ nI 127 := q; rw [nI_leI (by omega) (by omega)] at q; omega
        rw [if_pos l1, if_neg l2]
        by_cases q : i + 1 = 7
        · rw [if_pos q]
          obtain ⟨hS, hE, hp, v2', v4', c3', c4'⟩ := id h1
          have X := rd_fl hS hE (f := 3) (pl := p) (by omega) (by omega) (by have := hS.1; omega)
          refine Or.inr ⟨0, y, _, _, ?_, ?_, X⟩
          · obtain ⟨g3, rfl⟩ : ∃ g3 : Nat, g1 = g3 + 1 := ⟨g1 - 1, by omega⟩
            show dF_X3_readVarint_4 n T (df_X3_readVarint_4 n T g3) y (nI (i + 1)) (R, pI V 2 (nI (p + 1))) = _
            unfold dF_X3_readVarint_4 df_X3_readVarint_81
            rw [if_pos (show (7 : Int32) ≤ nI (i + 1) by rw [q]; decide), v2', show nI (p + 1) - 1 = nI p from dn_2 p, bl_o n v4', nb_b1, nb_let]
            rfl
          · rw [c3', show nI (p + 1) - 1 = nI p from dn_2 p, me_o n c4', nb_b1]
            show dF_X14_readVarint_9 n (df_X14_readVarint_9 n g2) y (nI (i + 1)) (nI z) _ = _
            unfold dF_X14_readVarint_9
            have e4 : ¬ sI (pI (pI C 3 (nI (p + 1))) 4 (3 + 8 * nI p)) 4 = 0 := (rdX_4 X).2.1
            rw [if_neg l2, if_neg e4]
            exact vx_R n X y _ _
        · rw [if_neg q]
          exact ih (i + 1) g1 (g2 + 1) (p + 1) z y _ _ (by omega) (by omega) (by omega) (by omega) (by omega) z1 nn h1
    · rw [tC _ _ e1, tR _ _ e2]
      generalize x ||| ((nI 0 &&& 127).toInt64 <<< ((7 * nI i).toInt64 &&& 63)) = y
      obtain ⟨w1, w2⟩ := vx_C n h1 y
      have l2 : nI 0 ≤ (127 : Int32) := by decide
      have r1 : df_X14_readVarint_9 n (g2 + 1) y (nI (i + 1)) (nI 0) C1 = some (y, C1) := by
        show dF_X14_readVarint_9 n (df_X14_readVarint_9 n g2) y (nI (i + 1)) (nI 0) C1 = _
        unfold dF_X14_readVarint_9
        rw [if_pos l2]
        exact vx_R n h1 y _ _
      refine Or.inr ⟨y, y, V1, C1, ?_, ?_, h1⟩
      · rw [if_neg (show ¬ (128 : Int32) ≤ nI 0 by decide), w1, w2]
        by_cases q : i = 0
        · rw [if_pos q]
        · rw [if_neg q, if_pos (show nI 0 = (0 : Int32) from rfl)]
      · rw [if_pos l2, r1]
        by_cases q : i + 1 = 7
        · rw [if_pos q]
        · rw [if_neg q]
theorem rd_vN (n : Nat) (hn : 100 < n) {T len m p : Nat} {u : Int64} {R V C : St} (h : rdO T len m u p R V C) : (∃ (v : Int64) (p' : Nat) (V' C' : St), df_X3_readVarint n T (R, V) = some (v, (R, V')) ∧ df_X14_readVarint n C = some (v, C') ∧ rdO T len m u p' R V' C' ∧ 0 ≤ v.toInt ∧ v.toInt ≤ 1099511627776 ∧ ∀ k : Nat, sR V' k = sR V k) ∨ ∃ (v w : Int64) (V' C' : St), df_X3_readVarint n T (R, V) = some (v, (R, V')) ∧ df_X14_readVarint n C = some (w, C') ∧ rdX T len m u R V' C' := rd_v n 7 0 n n p 128 0 V C (by omega) (by omega) (by omega) (by omega) (by omega) (by omega) (by decide) h
theorem rd_vx (n : Nat) (hn : 100 < n) {T len m : Nat} {u : Int64} {R V C : St} (h : rdX T len m u R V C) : (∃ v : Int64, df_X3_readVarint n T (R, V) = some (v, (R, V))) ∧ ∃ v : Int64, df_X14_readVarint n C = some (v, C) := by
  obtain ⟨n', rfl⟩ : ∃ n' : Nat, n = n' + 1 := ⟨n - 1, by omega⟩
  refine ⟨⟨0, ?_⟩, 0, ?_⟩
  · show dF_X3_readVarint_4 (n' + 1) T (df_X3_readVarint_4 (n' + 1) T n') 0 0 (R, V) = _
    unfold dF_X3_readVarint_4 df_X3_readVarint_81
    rw [if_neg (show ¬ (7 : Int32) ≤ 0 by decide), if_neg (rdX_4 h).1, bl_x _ h, nb_b1, nb_let]
  · show dF_X14_readVarint_9 (n' + 1) (df_X14_readVarint_9 (n' + 1) n') 0 0 128 C = _
    unfold dF_X14_readVarint_9
    rw [if_neg (show ¬ (128 : Int32) ≤ 127 by decide), if_neg (rdX_4 h).2.1]
    exact vx_R _ h _ _ _

/-- the latest of a kind, counted -/
def ltF (kd : Nat → Int32) (w : Int32) : Nat → Int64 → Int32
  | 0, _ => -1
  | j + 1, x => if kd j = w then (if x - 1 = 0 then nI j else ltF kd w j (x - 1)) else ltF kd w j x
theorem ltF_c {kd kd' : Nat → Int32} {w : Int32} : ∀ (j : Nat) (x : Int64), (∀ i : Nat, i < j → kd i = kd' i) → ltF kd w j x = ltF kd' w j x
  | 0, _, _ => rfl
  | j + 1, x, h => by
    unfold ltF
    rw [h j (by omega), ltF_c j (x - 1) (fun i hi => h i (by omega)), ltF_c j x (fun i hi => h i (by omega))]
theorem ltF_r (kd : Nat → Int32) (w : Int32) : ∀ (j : Nat) (x : Int64), ltF kd w j x = -1 ∨ ∃ f : Nat, f < j ∧ ltF kd w j x = nI f ∧ kd f = w
  | 0, _ => Or.inl rfl
  | j + 1, x => by
    unfold ltF
    by_cases c : kd j = w
    · rw [if_pos c]
      by_cases d : x - 1 = 0
      · rw [if_pos d]
        exact Or.inr ⟨j, by omega, rfl, c⟩
      · rw [if_neg d]
        rcases ltF_r kd w j (x - 1) with a | ⟨f, a, b, e⟩
        · exact Or.inl a
        · exact Or.inr ⟨f, by omega, b, e⟩
    · rw [if_neg c]
      rcases ltF_r kd w j x with a | ⟨f, a, b, e⟩
      · exact Or.inl a
      · exact Or.inr ⟨f, by omega, b, e⟩
theorem lt_C (n : Nat) {V : St} (w : Int32) : ∀ (j g : Nat) (x : Int64), j < g → j ≤ 2048 → df_X3_latest_9 n g w x (nI j - nI 1) V = some (ltF (sR V 0) w j x, V)
  | 0, g, x, hg, _ => by
    obtain ⟨g1, rfl⟩ : ∃ g1 : Nat, g = g1 + 1 := ⟨g - 1, by omega⟩
    show dF_X3_latest_9 n (df_X3_latest_9 n g1) w x _ V = _
    unfold dF_X3_latest_9
    rw [if_pos dn_0]
    rfl
  | j + 1, g, x, hg, hj => by
    obtain ⟨g1, rfl⟩ : ∃ g1 : Nat, g = g1 + 1 := ⟨g - 1, by omega⟩
    have i1 := lt_C n (V := V) w j g1 (x - 1) (by omega) (by omega)
    have i2 := lt_C n (V := V) w j g1 x (by omega) (by omega)
    rw [dn_2]
    show dF_X3_latest_9 n (df_X3_latest_9 n g1) w x (nI j) V = _
    generalize df_X3_latest_9 n g1 = G at i1 i2
    unfold dF_X3_latest_9 df_X3_latest_41 ltF
    rw [if_neg (dn_3 (by omega)), nm_ck (by omega) (by omega), nI_clamp (by omega), nb_let, nb_let, nb_let, dn_1, i1, i2]
    by_cases c : sR V 0 j = w
    · rw [if_pos c, if_pos c]
      by_cases d : x - 1 = 0
      · rw [if_pos ((lcE _ _).mpr d), if_pos d]
      · rw [if_neg (fun z => d ((lcE _ _).mp z)), if_neg d]
    · rw [if_neg c, if_neg c]
theorem lt_R (n : Nat) {C : St} (w : Int32) : ∀ (j g : Nat) (x : Int64), j < g → j ≤ 2048 → df_X14_before_11 n g w x (nI j - nI 1) C = some (ltF (sR C 0) w j x, C)
  | 0, g, x, hg, _ => by
    obtain ⟨g1, rfl⟩ : ∃ g1 : Nat, g = g1 + 1 := ⟨g - 1, by omega⟩
    show dF_X14_before_11 n (df_X14_before_11 n g1) w x _ C = _
    unfold dF_X14_before_11
    rw [if_pos dn_0]
    rfl
  | j + 1, g, x, hg, hj => by
    obtain ⟨g1, rfl⟩ : ∃ g1 : Nat, g = g1 + 1 := ⟨g - 1, by omega⟩
    have i1 := lt_R n (C := C) w j g1 (x - 1) (by omega) (by omega)
    have i2 := lt_R n (C := C) w j g1 x (by omega) (by omega)
    rw [dn_2]
    show dF_X14_before_11 n (df_X14_before_11 n g1) w x (nI j) C = _
    generalize df_X14_before_11 n g1 = G at i1 i2
    unfold dF_X14_before_11 df_X14_before_36 df_X14_before_59 ltF
    rw [if_neg (dn_3 (by omega)), nm_ck (by omega) (by omega), nI_clamp (by omega), nm_ck (by omega) (by omega), nm_ck (by omega) (by omega), nb_let, nb_let, dn_1, i1, i2]
    by_cases c : sR C 0 j = w
    · rw [if_pos c, if_pos c, if_pos c]
      by_cases d : x - 1 = 0
      · rw [if_pos ((lcE _ _).mpr d), if_pos d]
      · rw [if_neg (fun z => d ((lcE _ _).mp z)), if_neg d]
    · rw [if_neg c, if_neg c, if_neg c]
theorem lt_CN (n : Nat) (hn : 4096 < n) {m : Nat} {u : Int64} {V C : St} (hE : rdE m u V C) (w : Int32) (x : Int64) : df_X3_latest n w x (sI V 1) V = some (ltF (sR V 0) w m x, V) := by
  unfold df_X3_latest df_X3_latest_0
  have := hE.1
  rw [nb_let, hE.2.1]
  exact lt_C n w m n x (by omega) (by omega)
theorem lt_RN (n : Nat) (hn : 4096 < n) {m : Nat} {u : Int64} {V C : St} (hE : rdE m u V C) (w : Int32) (x : Int64) : df_X14_before n w x C = some (ltF (sR V 0) w m x, C) := by
  unfold df_X14_before df_X14_before_0
  have := hE.1
  rw [nb_let, hE.2.2.1, ltF_c m x (fun i hi => (hE.2.2.2 i hi).2.1.symm)]
  exact lt_R n w m n x (by omega) (by omega)
/-- bytes are read behind a fault -/
theorem rb_x (n : Nat) {T len m : Nat} {u : Int64} {R V : St} {N : Nat} (hN : N ≤ 8) : ∀ (k g i : Nat) (x : Int64) (C : St), i + k = N → k < g → rdX T len m u R V C → ∃ (v : Int64) (C' : St), df_X14_readBytes_5 n g (nI N) x (nI i) C = some (v, C') ∧ rdX T len m u R V C' := fun k => by
  induction k with
  | zero =>
    intro g i x C hk hg h
    obtain ⟨g1, rfl⟩ : ∃ g1 : Nat, g = g1 + 1 := ⟨g - 1, by omega⟩
    refine ⟨x, C, ?_, h⟩
    show dF_X14_readBytes_5 n (df_X14_readBytes_5 n g1) (nI N) x (nI i) C = _
    unfold dF_X14_readBytes_5
    rw [if_pos (show nI N ≤ nI i by rw [nI_leI (by omega) (by omega)]; omega)]
  | succ k ih =>
    intro g i x C hk hg h
    obtain ⟨g1, rfl⟩ : ∃ g1 : Nat, g = g1 + 1 := ⟨g - 1, by omega⟩
    obtain ⟨C1, e1, h1⟩ := nx_x n h
    obtain ⟨v, C', e2, h2⟩ := ih g1 (i + 1) ((x <<< ((8 : Int32).toInt64 &&& 63)) ||| (0 : Int32).toInt64) C1 (by omega) (by omega) h1
    refine ⟨v, C', ?_, h2⟩
    show dF_X14_readBytes_5 n (df_X14_readBytes_5 n g1) (nI N) x (nI i) C = _
    unfold dF_X14_readBytes_5
    rw [if_neg (show ¬ nI N ≤ nI i from fun z => by rw [nI_leI (by omega) (by omega)] at z; omega), e1, nb_b2, nb_let, nb_let, show nI i + Int32.ofInt 1 = nI (i + 1) from nI_add ..]
    exact e2
/-- bytes are read, in both -/
theorem rb_o (n : Nat) {T len m : Nat} {u : Int64} {R : St} {N : Nat} (hN : N ≤ 8) : ∀ (k g g' i p : Nat) (x : Int64) (V C : St), i + k = N → k < g → k < g' → rdO T len m u p R V C → (∃ (v : Int64) (p' : Nat) (V' C' : St), df_X3_readBytes_5 n T g (nI N) x (nI i) (R, V) = some (v, (R, V')) ∧ df_X14_readBytes_5 n g' (nI N) x (nI i) C = some (v, C') ∧ rdO T len m u p' R V' C') ∨ ∃ (v w : Int64) (V' C' : St), df_X3_readBytes_5 n T g (nI N) x (nI i) (R, V) = some (v, (R, V')) ∧ df_X14_readBytes_5 n g' (nI N) x (nI i) C = some (w, C') ∧ rdX T len m u R V' C' := fun k => by
  induction k with
  | zero =>
    intro g g' i p x V C hk hg hg' h
    obtain ⟨g1, rfl⟩ : ∃ g1 : Nat, g = g1 + 1 := ⟨g - 1, by omega⟩
    obtain ⟨g2, rfl⟩ : ∃ g2 : Nat, g' = g2 + 1 := ⟨g' - 1, by omega⟩
    have le : nI N ≤ nI i := by rw [nI_leI (by omega) (by omega)]; omega
    refine Or.inl ⟨x, p, V, C, ?_, ?_, h⟩
    · show dF_X3_readBytes_5 n T (df_X3_readBytes_5 n T g1) (nI N) x (nI i) (R, V) = _
      unfold dF_X3_readBytes_5
      rw [if_pos le]
      rfl
    · show dF_X14_readBytes_5 n (df_X14_readBytes_5 n g2) (nI N) x (nI i) C = _
      unfold dF_X14_readBytes_5
      rw [if_pos le]
  | succ k ih =>
    intro g g' i p x V C hk hg hg' h
    obtain ⟨g1, rfl⟩ : ∃ g1 : Nat, g = g1 + 1 + 1 := ⟨g - 2, by omega⟩
    obtain ⟨g2, rfl⟩ : ∃ g2 : Nat, g' = g2 + 1 := ⟨g' - 1, by omega⟩
    have nl : ¬ nI N ≤ nI i := fun z => by rw [nI_leI (by omega) (by omega)] at z; omega
    have i1 : nI i + Int32.ofInt 1 = nI (i + 1) := nI_add ..
    have v4 : sI V 4 = 0 := h.2.2.2.2.1
    have tC : ∀ (z : Int32) (V1 : St), df_X3_readByte n T (R, V) = some (z, (R, V1)) → df_X3_readBytes_5 n T (g1 + 1 + 1) (nI N) x (nI i) (R, V) = df_X3_readBytes_5 n T (g1 + 1) (nI N) ((x <<< ((8 : Int32).toInt64 &&& 63)) ||| z.toInt64) (nI (i + 1)) (R, V1) := fun z V1 e => by
      show dF_X3_readBytes_5 n T (df_X3_readBytes_5 n T (g1 + 1)) (nI N) x (nI i) (R, V) = _
      generalize df_X3_readBytes_5 n T (g1 + 1) = G
      unfold dF_X3_readBytes_5
      rw [if_neg nl, if_pos v4, e, nb_b2, nb_let, nb_let, i1]
    have tR : ∀ (z : Int32) (C1 : St), df_X14_next n C = some (z, C1) → df_X14_readBytes_5 n (g2 + 1) (nI N) x (nI i) C = df_X14_readBytes_5 n g2 (nI N) ((x <<< ((8 : Int32).toInt64 &&& 63)) ||| z.toInt64) (nI (i + 1)) C1 := fun z C1 e => by
      show dF_X14_readBytes_5 n (df_X14_readBytes_5 n g2) (nI N) x (nI i) C = _
      generalize df_X14_readBytes_5 n g2 = G
      unfold dF_X14_readBytes_5
      rw [if_neg nl, e, nb_b2, nb_let, nb_let, i1]
    rcases rd_b n h with ⟨z, z0, z1, e1, e2, h1⟩ | ⟨V1, C1, e1, e2, h1⟩
    · rw [tC _ _ e1, tR _ _ e2]
      exact ih (g1 + 1) g2 (i + 1) (p + 1) _ _ _ (by omega) (by omega) (by omega) h1
    · rw [tC _ _ e1, tR _ _ e2]
      obtain ⟨w, C', f1, f2⟩ := rb_x n (T := T) (len := len) (m := m) (R := R) (V := V1) hN k g2 (i + 1) ((x <<< ((8 : Int32).toInt64 &&& 63)) ||| (nI 0).toInt64) C1 (by omega) (by omega) h1
      refine Or.inr ⟨(x <<< ((8 : Int32).toInt64 &&& 63)) ||| (nI 0).toInt64, w, V1, C', ?_, f1, f2⟩
      show dF_X3_readBytes_5 n T (df_X3_readBytes_5 n T g1) (nI N) _ (nI (i + 1)) (R, V1) = _
      unfold dF_X3_readBytes_5
      by_cases q : nI N ≤ nI (i + 1)
      · rw [if_pos q]; rfl
      · rw [if_neg q, if_neg (rdX_4 h1).1]; rfl
/-- one event more, in both -/
theorem rd_add (n : Nat) {T len m p : Nat} {u : Int64} {R V C : St} (h : rdO T len m u p R V C) (hm : m < 2048) {k : Nat} (hk : k < 5) {at_ d a : Int64} {b : Int32} (hv : evV k a b) (ht : at_ = u + d) : ∃ V' C' : St, df_X3_add n (nI k) at_ a b V = some (nI 1, V') ∧ df_X14_take n (nI k) d a b C = some C' ∧ rdO T len (m + 1) at_ p R V' C' ∧ sR V' 0 m = nI k ∧ sQ V' 0 m = at_ ∧ sQ V' 1 m = a ∧ sR V' 1 m = b ∧ sQ C' 0 m = d := by
  obtain ⟨⟨s1, s2, s3, s4, s5, s6, s7⟩, ⟨e1, e2, e3, e4⟩, hp, v2, v4, c3, c4⟩ := h
  have u1 : m < 2 ^ 31 := by omega
  refine ⟨pI (pR (pQ (pQ (pR V 0 (upd (sR V 0) m (nI k))) 0 (vp_updL (sQ V 0) m at_)) 1 (vp_updL (sQ V 1) m a)) 1 (upd (sR V 1) m b)) 1 (nI (m + 1)), pI (pR (pQ (pQ (pR C 0 (upd (sR C 0) m (nI k))) 0 (vp_updL (sQ C 0) m d)) 1 (vp_updL (sQ C 1) m a)) 1 (upd (sR C 1) m b)) 0 (nI (m + 1)), ?_, ?_, ⟨⟨s1, s2, s3, s4, s5, s6, s7⟩, ⟨⟨by omega, ?_⟩, rfl, rfl, fun i hi => ?_⟩, hp, v2, v4, c3, c4⟩, nm_us, ul_s, ul_s, nm_us, ul_s⟩
  · simp (disch := (first | assumption | decide | omega)) only [df_X3_add_0, df_X3_add, e2, hm, eq_self, Nat.reduceEqDiff, Nat.reduceLeDiff, nl_0, nl_1, nl_2048, no_1, no_1024, pk_mul, nI_add, nm_ck, nI_clamp, nI_ltI, nI_leI, nI_eq, nb_b2, nb_b1, ↓nb_let, nm_z0, nm_z1, nb_II, nb_IR, nb_RI, nb_RR, nm_IL, nm_IQ, nm_RL, nm_RQ, nm_LI, nm_LR, nm_LL, nm_LQ, nm_QI, nm_QR, nm_QL, nm_QQ, nm_rr, nm_ii, nm_eqm, not_false_eq_true, pk_sub, nm_div, nm_shl, nm_shr, nm_ush, nm_or8, nm_or64, nm_or256, nm_m1, nm_m3, nm_m7, nm_m15, nm_m31, nm_m63, nm_m255, nm_m511, nm_m1023, nm_m2047, nm_m65535, Nat.reduceMod, Nat.reducePow, Nat.reduceAdd, Nat.reduceSub, Nat.reduceMul, nm_bo, nm_bi, nm_rc, nm_ic, nm_ri, nm_rl, nm_rq, nm_ql, nm_qi, nm_li, nm_us, nm_uu, nm_cp, nm_sa31, nm_sa7, nm_m127, nm_m2, nm_nz, nm_nzk, nm_eq32, nm_nzf, if_true, if_false, ↓reduceIte, if_pos, if_neg]
  · simp (disch := (first | assumption | decide | omega)) only [df_X14_take_0, df_X14_take, e3, hm, eq_self, Nat.reduceEqDiff, Nat.reduceLeDiff, nl_0, nl_1, nl_2048, no_1, no_1024, pk_mul, nI_add, nm_ck, nI_clamp, nI_ltI, nI_leI, nI_eq, nb_b2, nb_b1, ↓nb_let, nm_z0, nm_z1, nb_II, nb_IR, nb_RI, nb_RR, nm_IL, nm_IQ, nm_RL, nm_RQ, nm_LI, nm_LR, nm_LL, nm_LQ, nm_QI, nm_QR, nm_QL, nm_QQ, nm_rr, nm_ii, nm_eqm, not_false_eq_true, pk_sub, nm_div, nm_shl, nm_shr, nm_ush, nm_or8, nm_or64, nm_or256, nm_m1, nm_m3, nm_m7, nm_m15, nm_m31, nm_m63, nm_m255, nm_m511, nm_m1023, nm_m2047, nm_m65535, Nat.reduceMod, Nat.reducePow, Nat.reduceAdd, Nat.reduceSub, Nat.reduceMul, nm_bo, nm_bi, nm_rc, nm_ic, nm_ri, nm_rl, nm_rq, nm_ql, nm_qi, nm_li, nm_us, nm_uu, nm_cp, nm_sa31, nm_sa7, nm_m127, nm_m2, nm_nz, nm_nzk, nm_eq32, nm_nzf, if_true, if_false, ↓reduceIte, if_pos, if_neg]
  · rw [if_neg (by omega), show m + 1 - 1 = m by omega]
    exact ul_s.symm
  · show (∃ k' : Nat, k' < 5 ∧ upd (sR V 0) m (nI k) i = nI k' ∧ evV k' (vp_updL (sQ V 1) m a i) (upd (sR V 1) m b i)) ∧ upd (sR C 0) m (nI k) i = upd (sR V 0) m (nI k) i ∧ upd (sR C 1) m b i = upd (sR V 1) m b i ∧ vp_updL (sQ C 1) m a i = vp_updL (sQ V 1) m a i ∧ vp_updL (sQ V 0) m at_ i = (if i = 0 then 0 else vp_updL (sQ V 0) m at_ (i - 1)) + vp_updL (sQ C 0) m d i
    by_cases y : i = m
    · subst y
      rw [nm_us, nm_us, nm_us, nm_us, ul_s, ul_s, ul_s, ul_s]
      refine ⟨⟨k, hk, rfl, hv⟩, rfl, rfl, rfl, ?_⟩
      rw [ht, e1.2]
      by_cases z : i = 0
      · rw [if_pos z, if_pos z]
      · rw [if_neg z, if_neg z, up_o (by omega)]
    · obtain ⟨f1, f2, f3, f4, f5⟩ := e4 i (by omega)
      rw [nm_un y, nm_un y, nm_un y, nm_un y, up_o y, up_o y, up_o y, up_o y]
      refine ⟨f1, f2, f3, f4, ?_⟩
      rw [f5]
      by_cases z : i = 0
      · rw [if_pos z, if_pos z]
      · rw [if_neg z, if_neg z, up_o (by omega)]
theorem rd_df (n : Nat) {m : Nat} {u : Int64} {V C : St} (hE : rdE m u V C) (h1 : 1 ≤ m) : df_X3_difference n (sI V 1 - 1) V = some (sQ C 0 (m - 1), V) := by
  obtain ⟨e1, e2, e3, e4⟩ := hE
  obtain ⟨_, _, _, _, f5⟩ := e4 (m - 1) (by omega)
  unfold df_X3_difference df_X3_difference_0 df_X3_difference_28
  rw [e2, show nI m - 1 = nI (m - 1) from pk_sub h1]
  by_cases c : m = 1
  · subst c
    rw [if_neg (show ¬ (0 : Int32) < nI 0 by decide)]
    rw [if_pos rfl] at f5
    have f5 : sQ V 0 0 = 0 + sQ C 0 0 := f5
    rw [show Int32.toNatClampNeg 0 = 0 from rfl, f5, Int64.zero_add]
  · rw [if_pos (show (0 : Int32) < nI (m - 1) from (show nI 0 < nI (m - 1) by rw [nI_ltI (by omega) (by omega)]; omega)), nm_ck (by omega) (by omega), show nI (m - 1) - 1 = nI (m - 1 - 1) from pk_sub (show 1 ≤ m - 1 by omega), nm_ck (by omega) (by omega), nI_clamp (by omega), nI_clamp (by omega), f5, if_neg (by omega), Int64.add_comm, Int64.add_sub_cancel]
/-- the last event again, in both -/
theorem rr_l (n : Nat) {T len : Nat} {R : St} {d : Int64} : ∀ (k g g' j m p : Nat) (u : Int64) (V C : St), k < g → k < g' → 1 ≤ m → m + k ≤ 2048 → j + k < 2 ^ 62 → sQ C 0 (m - 1) = d → rdO T len m u p R V C → ∃ (u' : Int64) (V' C' : St), df_X3_readRepeat_85 n T g d (Int64.ofNat k) (R, V) = some (R, V') ∧ df_X14_readRun_84 n g' (Int64.ofNat (j + k)) (Int64.ofNat j) C = some C' ∧ rdO T len (m + k) u' p R V' C' := fun k => by
  induction k with
  | zero =>
    intro g g' j m p u V C hg hg' h1 hm hj hd h
    obtain ⟨g1, rfl⟩ : ∃ g1 : Nat, g = g1 + 1 := ⟨g - 1, by omega⟩
    obtain ⟨g2, rfl⟩ : ∃ g2 : Nat, g' = g2 + 1 := ⟨g' - 1, by omega⟩
    refine ⟨u, V, C, ?_, ?_, h⟩
    · show dF_X3_readRepeat_85 n T (df_X3_readRepeat_85 n T g1) d (Int64.ofNat 0) (R, V) = _
      unfold dF_X3_readRepeat_85
      rw [if_pos (show lg_cmp (Int64.ofNat 0) 0 ≤ (0 : Int32) by decide)]
      rfl
    · show dF_X14_readRun_84 n (df_X14_readRun_84 n g2) (Int64.ofNat j) (Int64.ofNat j) C = _
      unfold dF_X14_readRun_84
      rw [if_pos ((lcB _ _).mpr (Int.le_refl _))]
      rfl
  | succ k ih =>
    intro g g' j m p u V C hg hg' h1 hm hj hd h
    obtain ⟨g1, rfl⟩ : ∃ g1 : Nat, g = g1 + 1 := ⟨g - 1, by omega⟩
    obtain ⟨g2, rfl⟩ : ∃ g2 : Nat, g' = g2 + 1 := ⟨g' - 1, by omega⟩
    have hE := h.2.1
    obtain ⟨⟨kk, k5, ek, ev⟩, f2, f3, f4, f5⟩ := hE.2.2.2 (m - 1) (by omega)
    obtain ⟨V1, C1, a1, a2, a3, a4, a5, a6, a7, a8⟩ := rd_add n h (by omega) k5 (at_ := sQ V 0 (m - 1) + d) (d := d) ev (by rw [hE.1.2, if_neg (show ¬ m = 0 by omega)])
    obtain ⟨u', V', C', i1, i2, i3⟩ := ih g1 g2 (j + 1) (m + 1) p _ V1 C1 (by omega) (by omega) (by omega) (by omega) (by omega) (by rw [show m + 1 - 1 = m by omega]; exact a8) a3
    have m1 : sI V 1 - 1 = nI (m - 1) := by rw [hE.2.1]; exact pk_sub h1
    have m2 : sI C 0 - 1 = nI (m - 1) := by rw [hE.2.2.1]; exact pk_sub h1
    refine ⟨u', V', C', ?_, ?_, by rw [show m + (k + 1) = m + 1 + k by omega]; exact i3⟩
    · show dF_X3_readRepeat_85 n T (df_X3_readRepeat_85 n T g1) d (Int64.ofNat (k + 1)) (R, V) = _
      unfold dF_X3_readRepeat_85
      dsimp only
      rw [if_neg (fun z => by have z := (lcD _ _).mp z; rw [lT (by omega), show (0 : Int64).toInt = 0 by decide] at z; omega), if_pos (show sI V 4 = 0 from h.2.2.2.2.1), m1, nm_ck (by omega) (by omega), nm_ck (by omega) (by omega), nm_ck (by omega) (by omega), nm_ck (by omega) (by omega), nI_clamp (by omega), ek, a1, nb_b2, nb_let, nb_let, show Int64.ofNat (k + 1) - 1 = Int64.ofNat k from on_sub (b := 1) (show 1 ≤ k + 1 by omega)]
      exact i1
    · show dF_X14_readRun_84 n (df_X14_readRun_84 n g2) (Int64.ofNat (j + (k + 1))) (Int64.ofNat j) C = _
      unfold dF_X14_readRun_84
      rw [if_neg (fun z => by have z := (lcB _ _).mp z; rw [lT (by omega), lT (by omega)] at z; omega), if_pos (show sI C 4 = 0 from h.2.2.2.2.2.2), m2, nm_ck (by omega) (by omega), nm_ck (by omega) (by omega), nm_ck (by omega) (by omega), nm_ck (by omega) (by omega), nI_clamp (by omega), f2, f3, f4, hd, ek, a2, nb_b1, nb_let, show Int64.ofNat j + 1 = Int64.ofNat (j + 1) from on_add j 1, show j + (k + 1) = j + 1 + k by omega]
      exact i2

theorem hd_8 : ∀ z : Fin 256, ((nI z.1 &&& 8 = 0) ↔ z.1 / 8 % 2 = 0) ∧ ((nI z.1 &&& 8 ≤ 0) ↔ z.1 / 8 % 2 = 0) := by decide +kernel
theorem hd_7 {z : Nat} (h : z < 256) : nI z &&& 7 = nI (z % 8) := nm_m7 (by omega)
theorem hd_4 {z : Nat} (h : z < 256) : nI z >>> ((4 : Int32) &&& 31) = nI (z / 16) := (nm_shr (s := 4) (by omega) (by omega)).trans rfl
/-- the ends, in both -/
theorem fi_x (n : Nat) {T len m : Nat} {u : Int64} {R V C : St} (h : rdX T len m u R V C) (k b : Int32) (at_ d a : Int64) : df_X3_readBrought_216 n T k at_ a b (R, V) = some (R, V) ∧ df_X14_readEntry_332 n k d a b C = some C := by
  unfold df_X3_readBrought_216 df_X3_readBrought_235 df_X14_readEntry_332 df_X14_readEntry_350
  exact ⟨if_neg (rdX_4 h).1, if_neg (rdX_4 h).2.1⟩
theorem fi_o (n : Nat) {T len m p : Nat} {u : Int64} {R V C : St} (h : rdO T len m u p R V C) (hm : m < 2048) {k : Nat} (hk : k < 5) {d a : Int64} {b : Int32} (hv : evV k a b) : ∃ V' C' : St, df_X3_readBrought_216 n T (nI k) (d + u) a b (R, V) = some (R, V') ∧ df_X14_readEntry_332 n (nI k) d a b C = some C' ∧ rdO T len (m + 1) (d + u) p R V' C' := by
  obtain ⟨V', C', a1, a2, a3, _⟩ := rd_add n h hm hk (at_ := d + u) (d := d) hv (Int64.add_comm _ _)
  refine ⟨V', C', ?_, ?_, a3⟩
  · unfold df_X3_readBrought_216 df_X3_readBrought_235
    rw [if_pos (show sI V 4 = 0 from h.2.2.2.2.1)]
    dsimp only
    rw [a1, nb_b2, nb_let]
  · unfold df_X14_readEntry_332 df_X14_readEntry_350
    rw [if_pos (show sI C 4 = 0 from h.2.2.2.2.2.2), a2, nb_b1]
theorem r2_k (n : Nat) {k : Nat} (hk : k < 5) (h2 : ¬ k = 2) (d a : Int64) (b : Int32) (C : St) : df_X14_readEntry_283 n (nI k) d a b C = df_X14_readEntry_332 n (nI k) d a b C := by
  unfold df_X14_readEntry_283
  rw [if_neg (show ¬ nI k = (2 : Int32) from fun z => by have z : nI k = nI 2 := z; rw [nI_eq (by omega) (by omega)] at z; exact h2 z)]
theorem r2_0 (n : Nat) {k : Nat} (hk : k < 5) (h1 : ¬ k = 1) (x2 x4 : Int32) (d a : Int64) (C : St) : df_X14_readEntry_200 n x2 (nI k) x4 d a C = df_X14_readEntry_283 n (nI k) d a 0 C := by
  have e : ¬ nI k = (1 : Int32) := fun z => by have z : nI k = nI 1 := z; rw [nI_eq (by omega) (by omega)] at z; exact h1 z
  unfold df_X14_readEntry_200 df_X14_readEntry_213
  rw [if_neg e, if_neg e]
theorem r2_1 (n : Nat) {x : Nat} (h1 : 1 ≤ x) (hx : x < 16) (x2 : Int32) (d a : Int64) (C : St) : df_X14_readEntry_200 n x2 (nI 1) (nI x) d a C = df_X14_readEntry_332 n (nI 1) d a (nI x) C := by
  unfold df_X14_readEntry_200 df_X14_readEntry_213
  rw [if_pos (show nI 1 = (1 : Int32) from rfl), if_pos (show nI 1 = (1 : Int32) from rfl), if_neg (show ¬ nI x = (0 : Int32) from fun z => by have z : nI x = nI 0 := z; rw [nI_eq (by omega) (by omega)] at z; omega)]
  exact r2_k n (by omega) (by omega) _ _ _ _
/-- how many times the last one again: behind a fault -/
theorem rx_33 (n : Nat) (hn : 0 < n) {T len m : Nat} {u : Int64} {R V C : St} (h : rdX T len m u R V C) (hE : rdE m u V C) (h1 : 1 ≤ m) (x1 x5 : Int32) (x3 y : Int64) : df_X3_readRepeat_33 n T x1 x3 x5 y (R, V) = some (R, V) := by
  obtain ⟨n', rfl⟩ : ∃ n' : Nat, n = n' + 1 := ⟨n - 1, by omega⟩
  have e69 : df_X3_readRepeat_69 (n' + 1) T y (R, V) = some (R, V) := by
    unfold df_X3_readRepeat_69
    dsimp only
    rw [rd_df _ hE h1, nb_b2, nb_let]
    show dF_X3_readRepeat_85 (n' + 1) T (df_X3_readRepeat_85 (n' + 1) T n') _ y (R, V) = _
    unfold dF_X3_readRepeat_85 df_X3_readRepeat_160
    by_cases c : lg_cmp y 0 ≤ (0 : Int32)
    · rw [if_pos c]
    · rw [if_neg c, if_neg (rdX_4 h).1]
  have e49 : df_X3_readRepeat_49 (n' + 1) T x1 x3 y (R, V) = some (R, V) := by
    unfold df_X3_readRepeat_49
    dsimp only
    rw [bl_x _ h, nb_b1, nb_let, e69]
    by_cases c : lg_cmp ((sI V 1).toInt64 + y) x3 ≤ (0 : Int32)
    · rw [if_pos c]
    · rw [if_neg c]
  unfold df_X3_readRepeat_33
  dsimp only
  rw [bl_x _ h, nb_b1, nb_let, e49]
  by_cases c : lg_cmp y 0 = (0 : Int32)
  · rw [if_pos c]
  · rw [if_neg c]
theorem rx_51 (n : Nat) (hn : 0 < n) {T len m : Nat} {u : Int64} {R V C : St} (h : rdX T len m u R V C) (x2 x3 : Int32) (y : Int64) : df_X14_readRun_51 n x2 x3 y C = some C := by
  obtain ⟨n', rfl⟩ : ∃ n' : Nat, n = n' + 1 := ⟨n - 1, by omega⟩
  unfold df_X14_readRun_51 df_X14_readRun_81
  rw [if_neg (rdX_4 h).2.1]
  show dF_X14_readRun_84 (n' + 1) (df_X14_readRun_84 (n' + 1) n') y 0 C = _
  unfold dF_X14_readRun_84 df_X14_readRun_156
  by_cases c : (0 : Int32) ≤ lg_cmp 0 y
  · rw [if_pos c]
  · rw [if_neg c, if_neg (rdX_4 h).2.1]
/-- the last one again, a number of times that is known -/
theorem rr_n (n : Nat) (hn : 4096 < n) {T len m p hd S : Nat} {u : Int64} {R V C : St} (h : rdO T len m u p R V C) (h1 : 1 ≤ m) (hS : S ≤ 2048) (hmS : m < S) (hhd : hd ≤ 32768) {N : Nat} (N1 : 1 ≤ N) (N2 : N < 2 ^ 50) : ∃ V' C' : St, df_X3_readRepeat_49 n T (nI hd) (Int64.ofNat S) (Int64.ofNat N) (R, V) = some (R, V') ∧ df_X14_readRun_51 n (nI hd) (nI S) (Int64.ofNat N) C = some C' ∧ ((∃ (m' : Nat) (u' : Int64), m < m' ∧ m' ≤ S ∧ rdO T len m' u' p R V' C') ∨ rdX T len m u R V' C') := by
  have hE := h.2.1
  have e1 : (sI V 1).toInt64 + Int64.ofNat N = Int64.ofNat (m + N) := by rw [hE.2.1, nI_64 (by omega), on_add]
  have e2 : (sI C 0).toInt64 + Int64.ofNat N = Int64.ofNat (m + N) := by rw [hE.2.2.1, nI_64 (by omega), on_add]
  unfold df_X3_readRepeat_49 df_X14_readRun_51 df_X14_readRun_81
  dsimp only
  rw [e1, e2, nI_64 (show S < 2 ^ 31 by omega), if_pos (show sI C 4 = 0 from h.2.2.2.2.2.2)]
  by_cases c : m + N ≤ S
  · have l : lg_cmp (Int64.ofNat (m + N)) (Int64.ofNat S) ≤ (0 : Int32) := (lcD _ _).mpr (by rw [lT (by omega), lT (by omega)]; omega)
    rw [if_pos l, if_pos l]
    obtain ⟨u', V', C', a, b, d⟩ := rr_l n N n n 0 m p u V C (by omega) (by omega) h1 (by omega) (by omega) rfl h
    refine ⟨V', C', ?_, ?_, Or.inl ⟨m + N, u', by omega, c, d⟩⟩
    · unfold df_X3_readRepeat_69
      dsimp only
      rw [rd_df n hE h1, nb_b2, nb_let]
      exact a
    · rw [Nat.zero_add] at b
      exact b
  · have l : ¬ lg_cmp (Int64.ofNat (m + N)) (Int64.ofNat S) ≤ (0 : Int32) := fun z => by have z := (lcD _ _).mp z; rw [lT (by omega), lT (by omega)] at z; omega
    have X := rd_fl h.1 hE (f := 6) (pl := hd) (by omega) (by omega) hhd
    have XE : rdE m u (pI (pI V 4 (nI 6)) 5 (nI hd)) (pI C 4 (nI 6 + 8 * nI hd)) := rdE_C (rdE_V (rdE_V hE (by omega) _) (by omega) _) (by omega) _
    rw [if_neg l, if_neg l, bl_o n h.2.2.2.2.1, me_o n h.2.2.2.2.2.2, nb_b1, nb_b1, nb_let]
    refine ⟨_, _, ?_, ?_, Or.inr X⟩
    · have := rx_33 n (by omega) X XE h1 0 0 0 (Int64.ofNat N)
      unfold df_X3_readRepeat_69
      dsimp only
      have d := rd_df n XE h1
      have d : df_X3_difference n (sI (pI (pI V 4 6) 5 (nI hd)) 1 - 1) (pI (pI V 4 6) 5 (nI hd)) = _ := d
      rw [d, nb_b2, nb_let]
      obtain ⟨n', rfl⟩ : ∃ n' : Nat, n = n' + 1 := ⟨n - 1, by omega⟩
      show dF_X3_readRepeat_85 (n' + 1) T (df_X3_readRepeat_85 (n' + 1) T n') _ _ _ = _
      unfold dF_X3_readRepeat_85 df_X3_readRepeat_160
      dsimp only
      have x4 : ¬ sI (pI (pI V 4 (nI 6)) 5 (nI hd)) 4 = 0 := (rdX_4 X).1
      rw [if_neg (fun z => by have z := (lcD _ _).mp z; rw [lT (by omega), show (0 : Int64).toInt = 0 by decide] at z; omega), if_neg x4]
    · obtain ⟨n', rfl⟩ : ∃ n' : Nat, n = n' + 1 := ⟨n - 1, by omega⟩
      show dF_X14_readRun_84 (n' + 1) (df_X14_readRun_84 (n' + 1) n') _ 0 _ = _
      unfold dF_X14_readRun_84 df_X14_readRun_156
      have x4 : ¬ sI (pI C 4 (6 + 8 * nI hd)) 4 = 0 := (rdX_4 X).2.1
      rw [if_neg (show ¬ (0 : Int32) ≤ lg_cmp 0 (Int64.ofNat N) from fun z => by have z := (lcB _ _).mp z; rw [lT (by omega), show (0 : Int64).toInt = 0 by decide] at z; omega), if_neg x4]
      rfl
/-- a run of the last one, in both -/
theorem rd_run (n : Nat) (hn : 4096 < n) {T len m p hd S x z : Nat} {u : Int64} {R V C : St} (h : rdO T len m u p R V C) (hS : S ≤ 2048) (hmS : m < S) (hhd : hd ≤ 32768) (hz : z < 256) (hx : x = z / 16) : ∃ V' C' : St, df_X3_readRepeat n T (nI hd) (nI x) (Int64.ofNat S) (R, V) = some (R, V') ∧ df_X14_readRun_13 n (nI z) (nI hd) (nI S) C = some C' ∧ ((∃ (m' p' : Nat) (u' : Int64), m < m' ∧ m' ≤ S ∧ rdO T len m' u' p' R V' C') ∨ rdX T len m u R V' C') := by
  obtain ⟨hSt, hE, hp, v2, v4, c3, c4⟩ := id h
  have v4' : sI V 4 = 0 := v4
  have c4' : sI C 4 = 0 := c4
  unfold df_X3_readRepeat df_X3_readRepeat_0 df_X14_readRun_13
  dsimp only
  rw [hE.2.1, hE.2.2.1]
  by_cases m0 : m = 0
  · subst m0
    have X := rd_fl hSt hE (f := 4) (pl := hd) (by omega) (by omega) hhd
    rw [if_pos (show nI 0 = (0 : Int32) from rfl), if_pos (show nI 0 = (0 : Int32) from rfl), bl_o n v4, me_o n c4, nb_b1, nb_b1, nb_let]
    refine ⟨_, _, rfl, ?_, Or.inr X⟩
    unfold df_X14_readRun_26
    have x4 : ¬ sI (pI C 4 (4 + 8 * nI hd)) 4 ≤ 0 := (rdX_4 X).2.2
    rw [if_neg x4]
    rfl
  · have m0' : ¬ nI m = (0 : Int32) := fun y => by have y : nI m = nI 0 := y; have := hE.1; rw [nI_eq (by omega) (by omega)] at y; exact m0 y
    rw [if_neg m0', if_neg m0', nb_let]
    unfold df_X14_readRun_26
    rw [if_pos (show sI C 4 ≤ 0 by rw [c4]; decide), hd_4 hz, ← hx, v2]
    by_cases x0 : x = 0
    · rw [if_pos (show nI x = (0 : Int32) by rw [x0]; rfl), if_pos (show nI x ≤ (0 : Int32) by rw [x0]; decide)]
      unfold df_X14_readCount df_X14_readCount_0 df_X14_readCount_29
      rw [nb_let, c3]
      rcases rd_vN n (by omega) h with ⟨v, p', V1, C1, e1, e2, h1, w1, w2, _⟩ | ⟨v, w, V1, C1, e1, e2, h1⟩
      · rw [e1, e2, nb_b2, nb_b2, if_pos (show sI C1 4 = 0 from h1.2.2.2.2.2.2)]
        have ev : v = Int64.ofNat v.toInt.toNat := by
          apply Int64.toInt_inj.mp
          rw [lT (by omega)]
          omega
        by_cases v0 : v.toInt.toNat = 0
        · have vz : v = 0 := by rw [ev, v0]; rfl
          have X := rd_fl h1.1 h1.2.1 (f := 5) (pl := p) (by omega) (by omega) (by have := hSt.1; omega)
          have XE : rdE m u (pI (pI V1 4 (nI 5)) 5 (nI p)) (pI C1 4 (nI 5 + 8 * nI p)) := rdE_C (rdE_V (rdE_V h1.2.1 (by omega) _) (by omega) _) (by omega) _
          have lz : lg_cmp v 0 = (0 : Int32) := (lcE _ _).mpr vz
          rw [if_pos lz, me_o n h1.2.2.2.2.2.2, nb_b1, nb_b2]
          refine ⟨_, _, ?_, rx_51 n (by omega) X _ _ _, Or.inr X⟩
          have r3 := rx_33 n (by omega) X XE (by omega) (nI hd) (nI p) (Int64.ofNat S) v
          unfold df_X3_readRepeat_33 at r3 ⊢
          dsimp only at r3 ⊢
          rw [if_pos lz, bl_x n X, nb_b1, nb_let] at r3
          rw [if_pos lz, bl_o n h1.2.2.2.2.1, nb_b1, nb_let]
          exact r3
        · have lz : ¬ lg_cmp v 0 = (0 : Int32) := fun q => v0 (by rw [(lcE _ _).mp q]; rfl)
          rw [if_neg lz, nb_b2]
          obtain ⟨V', C', a, b, d⟩ := rr_n n hn h1 (show 1 ≤ m by omega) hS hmS hhd (N := v.toInt.toNat) (by omega) (by omega)
          rw [← ev] at a b
          refine ⟨V', C', ?_, b, ?_⟩
          · unfold df_X3_readRepeat_33
            rw [if_neg lz]
            exact a
          · rcases d with ⟨m', u', d1, d2, d3⟩ | d
            · exact Or.inl ⟨m', p', u', d1, d2, d3⟩
            · exact Or.inr d
      · rw [e1, e2, nb_b2, nb_b2, if_neg (rdX_4 h1).2.1, nb_b2]
        exact ⟨V1, C1, rx_33 n (by omega) h1 h1.2.1 (by omega) _ _ _ _, rx_51 n (by omega) h1 _ _ _, Or.inr h1⟩
    · have x1 : ¬ nI x ≤ (0 : Int32) := fun y => by have y : nI x ≤ nI 0 := y; rw [nI_leI (by omega) (by omega)] at y; omega
      rw [if_neg (show ¬ nI x = (0 : Int32) from fun y => by have y : nI x = nI 0 := y; rw [nI_eq (by omega) (by omega)] at y; exact x0 y), if_neg x1, nI_64 (by omega)]
      obtain ⟨V', C', a, b, d⟩ := rr_n n hn h (show 1 ≤ m by omega) hS hmS hhd (N := x) (by omega) (by omega)
      refine ⟨V', C', ?_, b, ?_⟩
      · unfold df_X3_readRepeat_33
        rw [if_neg (fun q => by have q := (on_inj (b := 0) (by omega) (by omega)).mp ((lcE _ _).mp q); exact x0 q)]
        exact a
      · rcases d with ⟨m', u', d1, d2, d3⟩ | d
        · exact Or.inl ⟨m', p, u', d1, d2, d3⟩
        · exact Or.inr d

