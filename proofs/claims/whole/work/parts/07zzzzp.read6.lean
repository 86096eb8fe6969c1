theorem m1_lt {f : Nat} (h : f < 2 ^ 29) : -1 - nI f < (0 : Int32) := by
  have e : -1 - nI f = nI 0 - nI (f + 1) := by
    rw [← nI_add f 1]
    apply Int32.toBitVec_inj.mp
    show (-1#32) - (nI f).toBitVec = 0#32 - ((nI f).toBitVec + 1#32)
    generalize (nI f).toBitVec = b
    bv_omega
  rw [e]
  exact pk_sneg (a := 0) (b := f + 1) (by omega) (by omega)
/-- what reading a log answers, in both -/
def rdA (R V C : St) (r f : Int32) : Prop := (∃ (m : Nat) (u : Int64), r = nI m ∧ f = nI 0 ∧ rdE m u V C ∧ sI V 0 = nI 0) ∨ ∃ fc : Nat, 1 ≤ fc ∧ fc < 2 ^ 29 ∧ f = nI fc ∧ r = -1 - nI fc
theorem rd_ex (n : Nat) {T len m : Nat} {u : Int64} {R V C : St} (h : rdX T len m u R V C) : ∃ r f : Int32, df_X3_readLog_87 n T (R, V) = some (r, (R, V)) ∧ df_X14_read_117 n C = some (f, C) ∧ rdA R V C r f := by
  obtain ⟨_, _, fc, pl, f1, f7, p1, a, b, c⟩ := id h
  refine ⟨-1 - nI (fc + 8 * pl), nI (fc + 8 * pl), ?_, ?_, Or.inr ⟨fc + 8 * pl, by omega, by omega, rfl, rfl⟩⟩
  · have e108 : df_X3_readLog_108 n T (R, V) = some (-1 - nI (fc + 8 * pl), (R, V)) := by
      unfold df_X3_readLog_108 df_X3_readLog_136
      rw [if_neg (rdX_4 h).1]
      dsimp only
      rw [a, b, show (8 : Int32) * nI pl = nI (8 * pl) from pk_mul .., show nI fc + nI (8 * pl) = nI (fc + 8 * pl) from nI_add ..]
    unfold df_X3_readLog_87
    dsimp only
    rw [bl_x n h, nb_b1, nb_let, e108]
    by_cases c : sI V 3 ≤ sI V 2
    · rw [if_pos c]
    · rw [if_neg c]
  · unfold df_X14_read_117 df_X14_read_145
    rw [if_neg (rdX_4 h).2.1, c]
theorem rd_eo (n : Nat) {T len m p : Nat} {u : Int64} {R V C : St} (h : rdO T len m u p R V C) : ∃ (r f : Int32) (V' C' : St), df_X3_readLog_87 n T (R, V) = some (r, (R, V')) ∧ df_X14_read_117 n C = some (f, C') ∧ rdA R V' C' r f := by
  obtain ⟨hS, hE, hp, v2, v4, c3, c4⟩ := id h
  have len8 := hS.1
  by_cases c : p < len
  · have X := rd_fl hS hE (f := 7) (pl := p) (by omega) (by omega) (by omega)
    obtain ⟨r, f, e1, e2, e3⟩ := rd_ex n X
    refine ⟨r, f, pI (pI V 4 (nI 7)) 5 (nI p), pI C 4 (nI 7 + 8 * nI p), ?_, ?_, e3⟩
    · unfold df_X3_readLog_87 at e1 ⊢
      dsimp only at e1 ⊢
      have nl : ¬ sI V 3 ≤ sI V 2 := fun z => by rw [hS.2.2.1, v2, nI_leI (by omega) (by omega)] at z; omega
      rw [if_neg nl, v2, bl_o n v4, nb_b1, nb_let]
      have nl' : ¬ sI (pI (pI V 4 (nI 7)) 5 (nI p)) 3 ≤ sI (pI (pI V 4 (nI 7)) 5 (nI p)) 2 := nl
      rw [if_neg nl', bl_x n X, nb_b1, nb_let] at e1
      exact e1
    · unfold df_X14_read_117 at e2 ⊢
      rw [if_neg (rdX_4 X).2.1] at e2
      have nl : ¬ sI C 2 ≤ sI C 3 := fun z => by rw [hS.2.2.2.2.2.1, c3, nI_leI (by omega) (by omega)] at z; omega
      rw [if_pos (show sI C 4 = 0 from c4), if_neg nl, c3, me_o n c4, nb_b1]
      exact e2
  · refine ⟨nI m, nI 0, V, C, ?_, ?_, Or.inl ⟨m, u, rfl, rfl, hE, hS.2.2.2.1⟩⟩
    · unfold df_X3_readLog_87 df_X3_readLog_108 df_X3_readLog_136
      dsimp only
      rw [if_pos (show sI V 3 ≤ sI V 2 by rw [hS.2.2.1, v2, nI_leI (by omega) (by omega)]; omega), if_pos (show sI V 4 = 0 from v4), hE.2.1]
    · unfold df_X14_read_117 df_X14_read_145
      rw [if_pos (show sI C 4 = 0 from c4), if_pos (show sI C 2 ≤ sI C 3 by rw [hS.2.2.2.2.2.1, c3, nI_leI (by omega) (by omega)]; omega), c4]
/-- all entries, in both -/
theorem rd_lp (n : Nat) (hn : 70000 < n) {T len S : Nat} {R : St} (hS : S ≤ 2048) : ∀ (k g g' m p left : Nat) (u : Int64) (V C : St), S - m ≤ k → k + 1 < g → k + 1 < g' → S - m ≤ left → left ≤ 2048 → m ≤ S → rdO T len m u p R V C → ∃ (r f : Int32) (V' C' : St), df_X3_readLog_54 n T g (Int64.ofNat S) (nI left) (R, V) = some (r, (R, V')) ∧ df_X14_read_45 n g' (Int64.ofNat S) C = some (f, C') ∧ rdA R V' C' r f := fun k => by
  induction k with
  | zero =>
    intro g g' m p left u V C hk hg hg' hl hl2 hm h
    obtain ⟨g1, rfl⟩ : ∃ g1 : Nat, g = g1 + 1 := ⟨g - 1, by omega⟩
    obtain ⟨g2, rfl⟩ : ∃ g2 : Nat, g' = g2 + 1 := ⟨g' - 1, by omega⟩
    have hE := h.2.1
    have en : (0 : Int32) ≤ lg_cmp (nI m).toInt64 (Int64.ofNat S) := (lcB _ _).mpr (by rw [nI_64 (by omega), lT (by omega), lT (by omega)]; omega)
    obtain ⟨r, f, V', C', e1, e2, e3⟩ := rd_eo n h
    refine ⟨r, f, V', C', ?_, ?_, e3⟩
    · show dF_X3_readLog_54 n T (df_X3_readLog_54 n T g1) (Int64.ofNat S) (nI left) (R, V) = _
      unfold dF_X3_readLog_54
      dsimp only
      rw [if_pos (show sI V 4 = 0 from h.2.2.2.2.1), hE.2.1, if_pos en, e1]
      by_cases c : nI left ≤ (0 : Int32)
      · rw [if_pos c]
      · rw [if_neg c]
    · show dF_X14_read_45 n (df_X14_read_45 n g2) (Int64.ofNat S) C = _
      unfold dF_X14_read_45
      rw [if_pos (show sI C 4 = 0 from h.2.2.2.2.2.2), hE.2.2.1, if_pos en]
      exact e2
  | succ k ih =>
    intro g g' m p left u V C hk hg hg' hl hl2 hm h
    obtain ⟨g1, rfl⟩ : ∃ g1 : Nat, g = g1 + 1 := ⟨g - 1, by omega⟩
    obtain ⟨g2, rfl⟩ : ∃ g2 : Nat, g' = g2 + 1 := ⟨g' - 1, by omega⟩
    have hE := h.2.1
    by_cases mS : m = S
    · exact ih (g1 + 1) (g2 + 1) m p left u V C (by omega) (by omega) (by omega) hl hl2 hm h
    · have nen : ¬ (0 : Int32) ≤ lg_cmp (nI m).toInt64 (Int64.ofNat S) := fun z => by have z := (lcB _ _).mp z; rw [nI_64 (by omega), lT (by omega), lT (by omega)] at z; omega
      obtain ⟨V1, C1, a, b, d⟩ := rd_en n (by omega) h hS (show m < S by omega)
      have tC : df_X3_readLog_54 n T (g1 + 1) (Int64.ofNat S) (nI left) (R, V) = df_X3_readLog_54 n T g1 (Int64.ofNat S) (nI (left - 1)) (R, V1) := by
        show dF_X3_readLog_54 n T (df_X3_readLog_54 n T g1) (Int64.ofNat S) (nI left) (R, V) = _
        generalize df_X3_readLog_54 n T g1 = G
        unfold dF_X3_readLog_54
        dsimp only
        rw [if_neg (show ¬ nI left ≤ (0 : Int32) from fun z => by have z : nI left ≤ nI 0 := z; rw [nI_leI (by omega) (by omega)] at z; omega), if_pos (show sI V 4 = 0 from h.2.2.2.2.1), hE.2.1, if_neg nen, a, nb_b1, nb_let, dn_1, show nI left - nI 1 = nI (left - 1) from pk_sub (by omega)]
      have tR : df_X14_read_45 n (g2 + 1) (Int64.ofNat S) C = df_X14_read_45 n g2 (Int64.ofNat S) C1 := by
        show dF_X14_read_45 n (df_X14_read_45 n g2) (Int64.ofNat S) C = _
        generalize df_X14_read_45 n g2 = G
        unfold dF_X14_read_45 df_X14_read_114
        rw [if_pos (show sI C 4 = 0 from h.2.2.2.2.2.2), hE.2.2.1, if_neg nen, nb_let, h.2.2.2.2.2.1, show (Int64.ofNat S).toInt32 = nI S from t32 (by omega)]
        cases q : df_X14_next n C with
        | none => rw [q] at b; exact nomatch b
        | some w =>
          obtain ⟨q18, s19⟩ := w
          rw [q, nb_b2] at b
          rw [nb_b2]
          by_cases c1 : sI s19 4 ≤ 0
          · rw [if_pos c1] at b ⊢
            by_cases c2 : q18 &&& 7 = 5
            · rw [if_pos c2] at b ⊢
              rw [b, nb_b1]
            · rw [if_neg c2] at b ⊢
              rw [b, nb_b1]
          · rw [if_neg c1] at b ⊢
            injection b with b
            rw [b]
      rw [tC, tR]
      rcases d with ⟨m', p', u', d1, d2, d3⟩ | d
      · exact ih g1 g2 m' p' (left - 1) u' V1 C1 (by omega) (by omega) (by omega) (by omega) (by omega) d2 d3
      · obtain ⟨r, f, e1, e2, e3⟩ := rd_ex n d
        obtain ⟨g3, rfl⟩ : ∃ g3 : Nat, g1 = g3 + 1 := ⟨g1 - 1, by omega⟩
        obtain ⟨g4, rfl⟩ : ∃ g4 : Nat, g2 = g4 + 1 := ⟨g2 - 1, by omega⟩
        refine ⟨r, f, V1, C1, ?_, ?_, e3⟩
        · show dF_X3_readLog_54 n T (df_X3_readLog_54 n T g3) _ _ (R, V1) = _
          unfold dF_X3_readLog_54
          rw [if_neg (rdX_4 d).1, e1]
          by_cases c : nI (left - 1) ≤ (0 : Int32)
          · rw [if_pos c]
          · rw [if_neg c]
        · show dF_X14_read_45 n (df_X14_read_45 n g4) _ C1 = _
          unfold dF_X14_read_45
          rw [if_neg (rdX_4 d).2.1]
          exact e2
/-- a log is read, in both -/
theorem rd_all (n : Nat) (hn : 70000 < n) {T len : Nat} {R V C : St} (hl : len ≤ 32768) (ht : ∀ j : Nat, j < len → ∃ z : Nat, z < 256 ∧ sR C 3 j = nI z ∧ sR R 0 j &&& 255 = nI z) : ∃ (r f : Int32) (V' C' : St), df_X3_readLog n T (nI len) (R, V) = some (r, (R, V')) ∧ df_X14_read n (nI len) C = some (f, C') ∧ rdA R V' C' r f := by
  have O : rdO T len 0 0 0 R (pI (pI (pI (pI (pI (pO V 0 (some T)) 3 (nI len)) 2 0) 4 0) 0 0) 1 0) (pI (pI (pI (pI (pO C 0 (some 6)) 2 (nI len)) 0 0) 4 0) 3 0) := ⟨⟨hl, rfl, rfl, rfl, rfl, rfl, ht⟩, ⟨⟨by omega, rfl⟩, rfl, rfl, fun i hi => by omega⟩, by omega, rfl, rfl, rfl, rfl⟩
  have eC : df_X3_readLog n T (nI len) (R, V) = nd_b2 (df_X3_readVarint n T (R, pI (pI (pI (pI (pI (pO V 0 (some T)) 3 (nI len)) 2 0) 4 0) 0 0) 1 0)) (fun q9 s10 => if lg_cmp q9 2048 ≤ 0 then (df_X3_readLog_49 n T q9 s10) else (nd_b1 (df_X3_blame n 6 0 s10.2) (fun s27 => nd_let (s10.1, s27) (fun s29 => df_X3_readLog_49 n T q9 s29)))) := by
    unfold df_X3_readLog df_X3_readLog_0 df_X3_clear df_X3_clear_0
    rw [if_neg (show ¬ (32768 : Int32) < nI len from fun z => by have z : nI 32768 < nI len := z; rw [nI_ltI (by omega) (by omega)] at z; omega)]
    rfl
  have eR : df_X14_read n (nI len) C = nd_b2 (df_X14_readVarint n (pI (pI (pI (pI (pO C 0 (some 6)) 2 (nI len)) 0 0) 4 0) 3 0)) (fun q6 s7 => if lg_cmp q6 2048 ≤ 0 then (df_X14_read_45 n n q6 s7) else (nd_b1 (df_X14_meet n 6 0 s7) (fun s30 => df_X14_read_45 n n q6 s30))) := rfl
  rw [eC, eR]
  have xf : ∀ (V1 C1 : St) (v w : Int64), rdX T len 0 0 R V1 C1 → ∃ (r f : Int32) (V' C' : St), df_X3_readLog_49 n T v (R, V1) = some (r, (R, V')) ∧ df_X14_read_45 n n w C1 = some (f, C') ∧ rdA R V' C' r f := fun V1 C1 v w d => by
    obtain ⟨r, f, e1, e2, e3⟩ := rd_ex n d
    obtain ⟨n', rfl⟩ : ∃ n' : Nat, n = n' + 1 := ⟨n - 1, by omega⟩
    refine ⟨r, f, V1, C1, ?_, ?_, e3⟩
    · show dF_X3_readLog_54 (n' + 1) T (df_X3_readLog_54 (n' + 1) T n') v 2048 (R, V1) = _
      unfold dF_X3_readLog_54
      rw [if_neg (show ¬ (2048 : Int32) ≤ 0 by decide), if_neg (rdX_4 d).1]
      exact e1
    · show dF_X14_read_45 (n' + 1) (df_X14_read_45 (n' + 1) n') w C1 = _
      unfold dF_X14_read_45
      rw [if_neg (rdX_4 d).2.1]
      exact e2
  rcases rd_vN n (by omega) O with ⟨v, p', V1, C1, e1, e2, g1, w1, w2, _⟩ | ⟨v, w, V1, C1, e1, e2, g1⟩
  · rw [e1, e2, nb_b2, nb_b2]
    have ev : v = Int64.ofNat v.toInt.toNat := by
      apply Int64.toInt_inj.mp
      rw [lT (by omega)]
      omega
    have t48 : (2048 : Int64).toInt = 2048 := by decide
    by_cases c : v.toInt ≤ 2048
    · have l : lg_cmp v 2048 ≤ (0 : Int32) := (lcD _ _).mpr (by rw [t48]; exact c)
      rw [if_pos l, if_pos l]
      have lp := rd_lp n hn (S := v.toInt.toNat) (by omega) 2048 n n 0 p' 2048 0 V1 C1 (by omega) (by omega) (by omega) (by omega) (by omega) (by omega) g1
      rw [← ev] at lp
      exact lp
    · have l : ¬ lg_cmp v 2048 ≤ (0 : Int32) := fun z => c (by have z := (lcD _ _).mp z; rw [t48] at z; exact z)
      have X := rd_fl g1.1 g1.2.1 (f := 6) (pl := 0) (by omega) (by omega) (by omega)
      rw [if_neg l, if_neg l]
      dsimp only
      rw [bl_o n g1.2.2.2.2.1, me_o n g1.2.2.2.2.2.2, nb_b1, nb_b1, nb_let]
      exact xf _ _ v v X
  · rw [e1, e2, nb_b2, nb_b2]
    obtain ⟨r, f, V', C', y1, y2, y3⟩ := xf V1 C1 v w g1
    refine ⟨r, f, V', C', ?_, ?_, y3⟩
    · dsimp only
      rw [bl_x n g1, nb_b1, nb_let, y1]
      by_cases c : lg_cmp v 2048 ≤ (0 : Int32)
      · rw [if_pos c]
      · rw [if_neg c]
    · rw [me_x n g1, nb_b1, y2]
      by_cases c : lg_cmp w 2048 ≤ (0 : Int32)
      · rw [if_pos c]
      · rw [if_neg c]
