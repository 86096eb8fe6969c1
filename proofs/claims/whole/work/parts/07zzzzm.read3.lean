theorem hd_8 : ∀ z : Fin 256, ((nI z.1 &&& 8 = 0) ↔ z.1 / 8 % 2 = 0) ∧ ((nI z.1 &&& 8 ≤ 0) ↔ z.1 / 8 % 2 = 0) := by decide +kernel
theorem hd_7 {z : Nat} (h : z < 256) : nI z &&& 7 = nI (z % 8) := nm_m7 (by omega)
theorem hd_4 {z : Nat} (h : z < 256) : nI z >>> ((4 : Int32) &&& 31) = nI (z / 16) := (nm_shr (s := 4) (by omega) (by omega)).trans rfl
/-- the ends, in both -/
theorem fi_x (n : Nat) {T len m : Nat} {u : Int64} {R V C : St} (h : rdX T len m u R V C) (k b : Int32) (at_ d a : Int64) : df_X3_readBrought_216 n T k at_ a b (R, V) = some (R, V) ∧ df_X14_readEntry_332 n k d a b C = some C := by
  unfold df_X3_readBrought_216 df_X3_readBrought_235 df_X14_readEntry_332 df_X14_readEntry_350
  exact ⟨if_neg (rdX_4 h).1, if_neg (rdX_4 h).2.1⟩
theorem fi_o (n : Nat) {T len m p : Nat} {u : Int64} {R V C : St} (h : rdO T len m u p R V C) (hm : m < 2048) {k : Nat} (hk : k < 5) {d a : Int64} {b : Int32} (hv : evV k a b) : ∃ V' C' : St, df_X3_readBrought_216 n T (nI k) (d + u) a b (R, V) = some (R, V') ∧ df_X14_readEntry_332 n (nI k) d a b C = some C' ∧ rdO T len (m + 1) (d + u) p R V' C' := by
  obtain ⟨V', C', a1, a2, a3, _⟩ := rd_add n h hm hk (at_ := d + u) (d := d) hv (Int64.add_comm _ _)
  refine ⟨V', C', ?_, ?_, a3⟩
  · unfold df_X3_readBrought_216 df_X3_readBrought_235
    rw [if_pos (show sI V 4 = 0 from h.2.2.2.2.1)]
    dsimp only
    rw [a1, nb_b2, nb_let]
  · unfold df_X14_readEntry_332 df_X14_readEntry_350
    rw [if_pos (show sI C 4 = 0 from h.2.2.2.2.2.2), a2, nb_b1]
theorem r2_k (n : Nat) {k : Nat} (hk : k < 5) (h2 : ¬ k = 2) (d a : Int64) (b : Int32) (C : St) : df_X14_readEntry_283 n (nI k) d a b C = df_X14_readEntry_332 n (nI k) d a b C := by
  unfold df_X14_readEntry_283
  rw [if_neg (show ¬ nI k = (2 : Int32) from fun z => by have z : nI k = nI 2 := z; rw [nI_eq (by omega) (by omega)] at z; exact h2 z)]
theorem r2_0 (n : Nat) {k : Nat} (hk : k < 5) (h1 : ¬ k = 1) (x2 x4 : Int32) (d a : Int64) (C : St) : df_X14_readEntry_200 n x2 (nI k) x4 d a C = df_X14_readEntry_283 n (nI k) d a 0 C := by
  have e : ¬ nI k = (1 : Int32) := fun z => by have z : nI k = nI 1 := z; rw [nI_eq (by omega) (by omega)] at z; exact h1 z
  unfold df_X14_readEntry_200 df_X14_readEntry_213
  rw [if_neg e, if_neg e]
theorem r2_1 (n : Nat) {x : Nat} (h1 : 1 ≤ x) (hx : x < 16) (x2 : Int32) (d a : Int64) (C : St) : df_X14_readEntry_200 n x2 (nI 1) (nI x) d a C = df_X14_readEntry_332 n (nI 1) d a (nI x) C := by
  unfold df_X14_readEntry_200 df_X14_readEntry_213
  rw [if_pos (show nI 1 = (1 : Int32) from rfl), if_pos (show nI 1 = (1 : Int32) from rfl), if_neg (show ¬ nI x = (0 : Int32) from fun z => by have z : nI x = nI 0 := z; rw [nI_eq (by omega) (by omega)] at z; omega)]
  exact r2_k n (by omega) (by omega) _ _ _ _
/-- how many times the last one again: behind a fault -/
theorem rx_33 (n : Nat) (hn : 0 < n) {T len m : Nat} {u : Int64} {R V C : St} (h : rdX T len m u R V C) (hE : rdE m u V C) (h1 : 1 ≤ m) (x1 x5 : Int32) (x3 y : Int64) : df_X3_readRepeat_33 n T x1 x3 x5 y (R, V) = some (R, V) := by
  obtain ⟨n', rfl⟩ : ∃ n' : Nat, n = n' + 1 := ⟨n - 1, by omega⟩
  have e69 : df_X3_readRepeat_69 (n' + 1) T y (R, V) = some (R, V) := by
    unfold df_X3_readRepeat_69
    dsimp only
    rw [rd_df _ hE h1, nb_b2, nb_let]
    show dF_X3_readRepeat_85 (n' + 1) T (df_X3_readRepeat_85 (n' + 1) T n') _ y (R, V) = _
    unfold dF_X3_readRepeat_85 df_X3_readRepeat_160
    by_cases c : lg_cmp y 0 ≤ (0 : Int32)
    · rw [if_pos c]
    · rw [if_neg c, if_neg (rdX_4 h).1]
  have e49 : df_X3_readRepeat_49 (n' + 1) T x1 x3 y (R, V) = some (R, V) := by
    unfold df_X3_readRepeat_49
    dsimp only
    rw [bl_x _ h, nb_b1, nb_let, e69]
    by_cases c : lg_cmp ((sI V 1).toInt64 + y) x3 ≤ (0 : Int32)
    · rw [if_pos c]
    · rw [if_neg c]
  unfold df_X3_readRepeat_33
  dsimp only
  rw [bl_x _ h, nb_b1, nb_let, e49]
  by_cases c : lg_cmp y 0 = (0 : Int32)
  · rw [if_pos c]
  · rw [if_neg c]
theorem rx_51 (n : Nat) (hn : 0 < n) {T len m : Nat} {u : Int64} {R V C : St} (h : rdX T len m u R V C) (x2 x3 : Int32) (y : Int64) : df_X14_readRun_51 n x2 x3 y C = some C := by
  obtain ⟨n', rfl⟩ : ∃ n' : Nat, n = n' + 1 := ⟨n - 1, by omega⟩
  unfold df_X14_readRun_51 df_X14_readRun_81
  rw [if_neg (rdX_4 h).2.1]
  show dF_X14_readRun_84 (n' + 1) (df_X14_readRun_84 (n' + 1) n') y 0 C = _
  unfold dF_X14_readRun_84 df_X14_readRun_156
  by_cases c : (0 : Int32) ≤ lg_cmp 0 y
  · rw [if_pos c]
  · rw [if_neg c, if_neg (rdX_4 h).2.1]
/-- the last one again, a number of times that is known -/
theorem rr_n (n : Nat) (hn : 4096 < n) {T len m p hd S : Nat} {u : Int64} {R V C : St} (h : rdO T len m u p R V C) (h1 : 1 ≤ m) (hS : S ≤ 2048) (hmS : m < S) (hhd : hd ≤ 32768) {N : Nat} (N1 : 1 ≤ N) (N2 : N < 2 ^ 50) : ∃ V' C' : St, df_X3_readRepeat_49 n T (nI hd) (Int64.ofNat S) (Int64.ofNat N) (R, V) = some (R, V') ∧ df_X14_readRun_51 n (nI hd) (nI S) (Int64.ofNat N) C = some C' ∧ ((∃ (m' : Nat) (u' : Int64), m < m' ∧ m' ≤ S ∧ rdO T len m' u' p R V' C') ∨ rdX T len m u R V' C') := by
  have hE := h.2.1
  have e1 : (sI V 1).toInt64 + Int64.ofNat N = Int64.ofNat (m + N) := by rw [hE.2.1, nI_64 (by omega), on_add]
  have e2 : (sI C 0).toInt64 + Int64.ofNat N = Int64.ofNat (m + N) := by rw [hE.2.2.1, nI_64 (by omega), on_add]
  unfold df_X3_readRepeat_49 df_X14_readRun_51 df_X14_readRun_81
  dsimp only
  rw [e1, e2, nI_64 (show S < 2 ^ 31 by omega), if_pos (show sI C 4 = 0 from h.2.2.2.2.2.2)]
  by_cases c : m + N ≤ S
  · have l : lg_cmp (Int64.ofNat (m + N)) (Int64.ofNat S) ≤ (0 : Int32) := (lcD _ _).mpr (by rw [lT (by omega), lT (by omega)]; omega)
    rw [if_pos l, if_pos l]
    obtain ⟨u', V', C', a, b, d⟩ := rr_l n N n n 0 m p u V C (by omega) (by omega) h1 (by omega) (by omega) rfl h
    refine ⟨V', C', ?_, ?_, Or.inl ⟨m + N, u', by omega, c, d⟩⟩
    · unfold df_X3_readRepeat_69
      dsimp only
      rw [rd_df n hE h1, nb_b2, nb_let]
      exact a
    · rw [Nat.zero_add] at b
      exact b
  · have l : ¬ lg_cmp (Int64.ofNat (m + N)) (Int64.ofNat S) ≤ (0 : Int32) := fun z => by have z := (lcD _ _).mp z; rw [lT (by omega), lT (by omega)] at z; omega
    have X := rd_fl h.1 hE (f := 6) (pl := hd) (by omega) (by omega) hhd
    have XE : rdE m u (pI (pI V 4 (nI 6)) 5 (nI hd)) (pI C 4 (nI 6 + 8 * nI hd)) := rdE_C (rdE_V (rdE_V hE (by omega) _) (by omega) _) (by omega) _
    rw [if_neg l, if_neg l, bl_o n h.2.2.2.2.1, me_o n h.2.2.2.2.2.2, nb_b1, nb_b1, nb_let]
    refine ⟨_, _, ?_, ?_, Or.inr X⟩
    · have := rx_33 n (by omega) X XE h1 0 0 0 (Int64.ofNat N)
      unfold df_X3_readRepeat_69
      dsimp only
      have d := rd_df n XE h1
      have d : df_X3_difference n (sI (pI (pI V 4 6) 5 (nI hd)) 1 - 1) (pI (pI V 4 6) 5 (nI hd)) = _ := d
      rw [d, nb_b2, nb_let]
      obtain ⟨n', rfl⟩ : ∃ n' : Nat, n = n' + 1 := ⟨n - 1, by omega⟩
      show dF_X3_readRepeat_85 (n' + 1) T (df_X3_readRepeat_85 (n' + 1) T n') _ _ _ = _
      unfold dF_X3_readRepeat_85 df_X3_readRepeat_160
      dsimp only
      have x4 : ¬ sI (pI (pI V 4 (nI 6)) 5 (nI hd)) 4 = 0 := (rdX_4 X).1
      rw [if_neg (fun z => by have z := (lcD _ _).mp z; rw [lT (by omega), show (0 : Int64).toInt = 0 by decide] at z; omega), if_neg x4]
    · obtain ⟨n', rfl⟩ : ∃ n' : Nat, n = n' + 1 := ⟨n - 1, by omega⟩
      show dF_X14_readRun_84 (n' + 1) (df_X14_readRun_84 (n' + 1) n') _ 0 _ = _
      unfold dF_X14_readRun_84 df_X14_readRun_156
      have x4 : ¬ sI (pI C 4 (6 + 8 * nI hd)) 4 = 0 := (rdX_4 X).2.1
      rw [if_neg (show ¬ (0 : Int32) ≤ lg_cmp 0 (Int64.ofNat N) from fun z => by have z := (lcB _ _).mp z; rw [lT (by omega), show (0 : Int64).toInt = 0 by decide] at z; omega), if_neg x4]
      rfl
/-- a run of the last one, in both -/
theorem rd_run (n : Nat) (hn : 4096 < n) {T len m p hd S x z : Nat} {u : Int64} {R V C : St} (h : rdO T len m u p R V C) (hS : S ≤ 2048) (hmS : m < S) (hhd : hd ≤ 32768) (hz : z < 256) (hx : x = z / 16) : ∃ V' C' : St, df_X3_readRepeat n T (nI hd) (nI x) (Int64.ofNat S) (R, V) = some (R, V') ∧ df_X14_readRun_13 n (nI z) (nI hd) (nI S) C = some C' ∧ ((∃ (m' p' : Nat) (u' : Int64), m < m' ∧ m' ≤ S ∧ rdO T len m' u' p' R V' C') ∨ rdX T len m u R V' C') := by
  obtain ⟨hSt, hE, hp, v2, v4, c3, c4⟩ := id h
  have v4' : sI V 4 = 0 := v4
  have c4' : sI C 4 = 0 := c4
  unfold df_X3_readRepeat df_X3_readRepeat_0 df_X14_readRun_13
  dsimp only
  rw [hE.2.1, hE.2.2.1]
  by_cases m0 : m = 0
  · subst m0
    have X := rd_fl hSt hE (f := 4) (pl := hd) (by omega) (by omega) hhd
    rw [if_pos (show nI 0 = (0 : Int32) from rfl), if_pos (show nI 0 = (0 : Int32) from rfl), bl_o n v4, me_o n c4, nb_b1, nb_b1, nb_let]
    refine ⟨_, _, rfl, ?_, Or.inr X⟩
    unfold df_X14_readRun_26
    have x4 : ¬ sI (pI C 4 (4 + 8 * nI hd)) 4 ≤ 0 := (rdX_4 X).2.2
    rw [if_neg x4]
    rfl
  · have m0' : ¬ nI m = (0 : Int32) := fun y => by have y : nI m = nI 0 := y; have := hE.1; rw [nI_eq (by omega) (by omega)] at y; exact m0 y
    rw [if_neg m0', if_neg m0', nb_let]
    unfold df_X14_readRun_26
    rw [if_pos (show sI C 4 ≤ 0 by rw [c4]; decide), hd_4 hz, ← hx, v2]
    by_cases x0 : x = 0
    · rw [if_pos (show nI x = (0 : Int32) by rw [x0]; rfl), if_pos (show nI x ≤ (0 : Int32) by rw [x0]; decide)]
      unfold df_X14_readCount df_X14_readCount_0 df_X14_readCount_29
      rw [nb_let, c3]
      rcases rd_vN n (by omega) h with ⟨v, p', V1, C1, e1, e2, h1, w1, w2, _⟩ | ⟨v, w, V1, C1, e1, e2, h1⟩
      · rw [e1, e2, nb_b2, nb_b2, if_pos (show sI C1 4 = 0 from h1.2.2.2.2.2.2)]
        have ev : v = Int64.ofNat v.toInt.toNat := by
          apply Int64.toInt_inj.mp
          rw [lT (by omega)]
          omega
        by_cases v0 : v.toInt.toNat = 0
        · have vz : v = 0 := by rw [ev, v0]; rfl
          have X := rd_fl h1.1 h1.2.1 (f := 5) (pl := p) (by omega) (by omega) (by have := hSt.1; omega)
          have XE : rdE m u (pI (pI V1 4 (nI 5)) 5 (nI p)) (pI C1 4 (nI 5 + 8 * nI p)) := rdE_C (rdE_V (rdE_V h1.2.1 (by omega) _) (by omega) _) (by omega) _
          have lz : lg_cmp v 0 = (0 : Int32) := (lcE _ _).mpr vz
          rw [if_pos lz, me_o n h1.2.2.2.2.2.2, nb_b1, nb_b2]
          refine ⟨_, _, ?_, rx_51 n (by omega) X _ _ _, Or.inr X⟩
          have r3 := rx_33 n (by omega) X XE (by omega) (nI hd) (nI p) (Int64.ofNat S) v
          unfold df_X3_readRepeat_33 at r3 ⊢
          dsimp only at r3 ⊢
          rw [if_pos lz, bl_x n X, nb_b1, nb_let] at r3
          rw [if_pos lz, bl_o n h1.2.2.2.2.1, nb_b1, nb_let]
          exact r3
        · have lz : ¬ lg_cmp v 0 = (0 : Int32) := fun q => v0 (by rw [(lcE _ _).mp q]; rfl)
          rw [if_neg lz, nb_b2]
          obtain ⟨V', C', a, b, d⟩ := rr_n n hn h1 (show 1 ≤ m by omega) hS hmS hhd (N := v.toInt.toNat) (by omega) (by omega)
          rw [← ev] at a b
          refine ⟨V', C', ?_, b, ?_⟩
          · unfold df_X3_readRepeat_33
            rw [if_neg lz]
            exact a
          · rcases d with ⟨m', u', d1, d2, d3⟩ | d
            · exact Or.inl ⟨m', p', u', d1, d2, d3⟩
            · exact Or.inr d
      · rw [e1, e2, nb_b2, nb_b2, if_neg (rdX_4 h1).2.1, nb_b2]
        exact ⟨V1, C1, rx_33 n (by omega) h1 h1.2.1 (by omega) _ _ _ _, rx_51 n (by omega) h1 _ _ _, Or.inr h1⟩
    · have x1 : ¬ nI x ≤ (0 : Int32) := fun y => by have y : nI x ≤ nI 0 := y; rw [nI_leI (by omega) (by omega)] at y; omega
      rw [if_neg (show ¬ nI x = (0 : Int32) from fun y => by have y : nI x = nI 0 := y; rw [nI_eq (by omega) (by omega)] at y; exact x0 y), if_neg x1, nI_64 (by omega)]
      obtain ⟨V', C', a, b, d⟩ := rr_n n hn h (show 1 ≤ m by omega) hS hmS hhd (N := x) (by omega) (by omega)
      refine ⟨V', C', ?_, b, ?_⟩
      · unfold df_X3_readRepeat_33
        rw [if_neg (fun q => by have q := (on_inj (b := 0) (by omega) (by omega)).mp ((lcE _ _).mp q); exact x0 q)]
        exact a
      · rcases d with ⟨m', u', d1, d2, d3⟩ | d
        · exact Or.inl ⟨m', p, u', d1, d2, d3⟩
        · exact Or.inr d
