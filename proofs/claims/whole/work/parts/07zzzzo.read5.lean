/-- a head that may be -/
def hdk (k x s : Nat) : Prop := k = 0 ∨ k = 2 ∨ (k = 1 ∧ x ≤ 8) ∨ (k = 3 ∧ x ≤ 1) ∨ (k = 4 ∧ x = 0) ∨ (k = 5 ∧ s = 0)
theorem hd_C (n : Nat) {k x s : Nat} (hk : k < 8) (hx : x < 16) (hs : s < 2) : (hdk k x s → df_X3_isHead n (nI k) (nI x) (nI s) () = some (1, ())) ∧ (¬ hdk k x s → df_X3_isHead n (nI k) (nI x) (nI s) () = some (0, ())) := by
  have m1 : ∀ {α : Type} {y : Option α}, nd_z .boolean (1 : Int32) y = y := nm_z1
  have m0 : ∀ {α : Type} {y : Option α}, nd_z .boolean (0 : Int32) y = y := nm_z0
  have l8 : (8 : Int32) < nI x ↔ 8 < x := by show nI 8 < nI x ↔ _; rw [nI_ltI (by omega) (by omega)]
  have l1 : (1 : Int32) < nI x ↔ 1 < x := by show nI 1 < nI x ↔ _; rw [nI_ltI (by omega) (by omega)]
  have x0 : nI x = (0 : Int32) ↔ x = 0 := by show nI x = nI 0 ↔ _; rw [nI_eq (by omega) (by omega)]
  have s0 : nI s = (0 : Int32) ↔ s = 0 := by show nI s = nI 0 ↔ _; rw [nI_eq (by omega) (by omega)]
  unfold hdk df_X3_isHead df_X3_isHead_0 df_X3_isHead_40 df_X3_isHead_53 df_X3_isHead_64 df_X3_isHead_74 df_X3_isHead_84
  have k8 : k = 0 ∨ k = 1 ∨ k = 2 ∨ k = 3 ∨ k = 4 ∨ k = 5 ∨ k = 6 ∨ k = 7 := by omega
  rcases k8 with rfl | rfl | rfl | rfl | rfl | rfl | rfl | rfl
  · exact ⟨fun _ => rfl, fun z => absurd (Or.inl rfl) z⟩
  · rw [if_neg (show ¬ nI 1 = (0 : Int32) by decide), if_pos (show nI 1 = (1 : Int32) from rfl), m0, m1]
    exact ⟨fun z => if_neg (fun y => by rw [l8] at y; omega), fun z => if_pos (by rw [l8]; omega)⟩
  · exact ⟨fun _ => rfl, fun z => absurd (Or.inr (Or.inl rfl)) z⟩
  · rw [if_neg (show ¬ nI 3 = (0 : Int32) by decide), if_neg (show ¬ nI 3 = (1 : Int32) by decide), if_neg (show ¬ nI 3 = (2 : Int32) by decide), if_pos (show nI 3 = (3 : Int32) from rfl), m0, m1]
    exact ⟨fun z => if_neg (fun y => by rw [l1] at y; omega), fun z => if_pos (by rw [l1]; omega)⟩
  · rw [if_neg (show ¬ nI 4 = (0 : Int32) by decide), if_neg (show ¬ nI 4 = (1 : Int32) by decide), if_neg (show ¬ nI 4 = (2 : Int32) by decide), if_neg (show ¬ nI 4 = (3 : Int32) by decide), if_pos (show nI 4 = (4 : Int32) from rfl), m0, m1]
    exact ⟨fun z => if_pos (by rw [x0]; omega), fun z => if_neg (fun y => by rw [x0] at y; omega)⟩
  · rw [if_neg (show ¬ nI 5 = (0 : Int32) by decide), if_neg (show ¬ nI 5 = (1 : Int32) by decide), if_neg (show ¬ nI 5 = (2 : Int32) by decide), if_neg (show ¬ nI 5 = (3 : Int32) by decide), if_neg (show ¬ nI 5 = (4 : Int32) by decide), if_pos (show nI 5 = (5 : Int32) from rfl), m0, m1]
    exact ⟨fun z => if_pos (by rw [s0]; omega), fun z => if_neg (fun y => by rw [s0] at y; omega)⟩
  · exact ⟨fun z => by omega, fun _ => rfl⟩
  · exact ⟨fun z => by omega, fun _ => rfl⟩
theorem hd_R (n : Nat) {k x s z : Nat} (hz : z < 256) (ek : k = z % 8) (ex : x = z / 16) (h5 : ¬ k = 5) (p : Int32) (C : St) : (hdk k x s → df_X14_readEntry n (nI z) p C = df_X14_readEntry_54 n (nI z) p (nI k) (nI x) C) ∧ (¬ hdk k x s → df_X14_readEntry n (nI z) p C = df_X14_readEntry_48 n (nI z) p (nI k) (nI x) C) := by
  have l8 : (8 : Int32) < nI x ↔ 8 < x := by show nI 8 < nI x ↔ _; rw [nI_ltI (by omega) (by omega)]
  have l1 : (1 : Int32) < nI x ↔ 1 < x := by show nI 1 < nI x ↔ _; rw [nI_ltI (by omega) (by omega)]
  have x0 : nI x ≤ (0 : Int32) ↔ x = 0 := nm_nle0 (by omega)
  unfold hdk df_X14_readEntry df_X14_readEntry_0 df_X14_readEntry_27 df_X14_readEntry_38
  rw [nb_let, nb_let, hd_7 hz, hd_4 hz, ← ek, ← ex]
  have k8 : k = 0 ∨ k = 1 ∨ k = 2 ∨ k = 3 ∨ k = 4 ∨ k = 6 ∨ k = 7 := by omega
  rcases k8 with h | h | h | h | h | h | h
  · rw [h]
    exact ⟨fun _ => rfl, fun z => absurd (Or.inl rfl) z⟩
  · rw [h, if_neg (show ¬ (5 : Int32) < nI 1 by decide), if_pos (show nI 1 = (1 : Int32) from rfl), if_neg (show ¬ nI 1 = (3 : Int32) by decide), if_neg (show ¬ nI 1 = (4 : Int32) by decide)]
    exact ⟨fun z => if_neg (fun y => by rw [l8] at y; omega), fun z => if_pos (by rw [l8]; omega)⟩
  · rw [h]
    exact ⟨fun _ => rfl, fun z => absurd (Or.inr (Or.inl rfl)) z⟩
  · rw [h, if_neg (show ¬ (5 : Int32) < nI 3 by decide), if_neg (show ¬ nI 3 = (1 : Int32) by decide), if_pos (show nI 3 = (3 : Int32) from rfl), if_neg (show ¬ nI 3 = (4 : Int32) by decide)]
    exact ⟨fun z => if_neg (fun y => by rw [l1] at y; omega), fun z => if_pos (by rw [l1]; omega)⟩
  · rw [h, if_neg (show ¬ (5 : Int32) < nI 4 by decide), if_neg (show ¬ nI 4 = (1 : Int32) by decide), if_neg (show ¬ nI 4 = (3 : Int32) by decide), if_pos (show nI 4 = (4 : Int32) from rfl)]
    exact ⟨fun z => if_pos (by rw [x0]; omega), fun z => if_neg (fun y => by rw [x0] at y; omega)⟩
  · rw [h]
    exact ⟨fun z => by omega, fun _ => if_pos (by decide)⟩
  · rw [h]
    exact ⟨fun z => by omega, fun _ => if_pos (by decide)⟩
theorem n_b1 {α : Type} (x : Option α) : nd_b1 x (fun s => some s) = x := by
  cases x with
  | none => rfl
  | some v => rfl
/-- an entry, in both -/
theorem rd_en (n : Nat) (hn : 4096 < n) {T len m p S : Nat} {u : Int64} {R V C : St} (h : rdO T len m u p R V C) (hS : S ≤ 2048) (hmS : m < S) : ∃ V' C' : St, df_X3_readEntry n T (Int64.ofNat S) (R, V) = some (R, V') ∧ nd_b2 (df_X14_next n C) (fun q18 s19 => if sI s19 4 ≤ 0 then (if q18 &&& 7 = 5 then df_X14_readRun n q18 (nI p) (nI S) s19 else df_X14_readEntry n q18 (nI p) s19) else some s19) = some C' ∧ ((∃ (m' p' : Nat) (u' : Int64), m < m' ∧ m' ≤ S ∧ rdO T len m' u' p' R V' C') ∨ rdX T len m u R V' C') := by
  have len8 := h.1.1
  have v2 := h.2.2.2.1
  have pl8 := h.2.2.1
  unfold df_X3_readEntry df_X3_readEntry_0
  dsimp only
  rw [v2, nb_let]
  rcases rd_b n h with ⟨z, z0, z1, e1, e2, g1⟩ | ⟨V1, C1, e1, e2, g1⟩
  · obtain ⟨gS, gE, gp, w2, w4, y3, y4⟩ := id g1
    have y4' : sI (pI C 3 (nI (p + 1))) 4 = 0 := y4
    have y4l : sI (pI C 3 (nI (p + 1))) 4 ≤ 0 := by rw [y4]; decide
    have w4' : sI (pI V 2 (nI (p + 1))) 4 = 0 := w4
    generalize pI V 2 (nI (p + 1)) = V1 at *
    generalize pI C 3 (nI (p + 1)) = C1 at *
    obtain ⟨h8a, h8b⟩ := hd_8 ⟨z, z1⟩
    have h8a : nI z &&& 8 = 0 ↔ z / 8 % 2 = 0 := h8a
    have h8b : nI z &&& 8 ≤ 0 ↔ z / 8 % 2 = 0 := h8b
    obtain ⟨k, ek⟩ : ∃ k : Nat, k = z % 8 := ⟨_, rfl⟩
    obtain ⟨x, ex⟩ : ∃ x : Nat, x = z / 16 := ⟨_, rfl⟩
    obtain ⟨s, es⟩ : ∃ s : Nat, s = z / 8 % 2 := ⟨_, rfl⟩
    have k7 : k < 8 := by omega
    have x15 : x < 16 := by omega
    have s1 : s < 2 := by omega
    rw [← es] at h8a h8b
    rw [e1, e2, nb_b2, nb_b2, if_pos y4l, nb_let, nb_let, hd_7 z1, hd_4 z1, ← ek, ← ex]
    have goC : (if nI z &&& 8 = 0 then df_X3_readEntry_37 n T (Int64.ofNat S) (nI p) (nI k) (nI x) 0 (R, V1) else df_X3_readEntry_37 n T (Int64.ofNat S) (nI p) (nI k) (nI x) 1 (R, V1)) = df_X3_readEntry_37 n T (Int64.ofNat S) (nI p) (nI k) (nI x) (nI s) (R, V1) := by
      by_cases c : s = 0
      · rw [if_pos (h8a.mpr c), c]; rfl
      · rw [if_neg (fun y => c (h8a.mp y)), show s = 1 by omega]; rfl
    have five : nI k = (5 : Int32) ↔ k = 5 := by show nI k = nI 5 ↔ _; rw [nI_eq (by omega) (by omega)]
    rw [goC]
    unfold df_X3_readEntry_37
    by_cases ok : hdk k x s
    · rw [(hd_C n k7 x15 s1).1 ok, nb_b2, if_neg (show ¬ (1 : Int32) = 0 by decide)]
      unfold df_X3_readEntry_57
      dsimp only
      rw [if_pos w4']
      by_cases k5 : k = 5
      · rw [if_pos (five.mpr k5), if_pos (five.mpr k5), n_b1]
        have s0 : s = 0 := by unfold hdk at ok; omega
        obtain ⟨V', C', a, b, d⟩ := rd_run n hn (hd := p) g1 hS hmS (by omega) z1 ex
        refine ⟨V', C', a, ?_, d⟩
        unfold df_X14_readRun df_X14_readRun_0
        rw [if_pos (h8b.mpr s0)]
        exact b
      · have k5' : ¬ nI k = (5 : Int32) := fun y => k5 (five.mp y)
        rw [if_neg k5', if_neg k5', (hd_R n (s := s) z1 ek ex k5 (nI p) C1).1 ok]
        have kk : k < 5 ∧ (k = 1 → x ≤ 8) ∧ (k = 3 → x ≤ 1) ∧ (k = 4 → x = 0) := by unfold hdk at ok; omega
        unfold df_X14_readEntry_54
        rw [if_pos y4l, lt_RN n hn gE, nb_b2]
        -- behind the time
        have br : ∀ (V2 C2 : St) (p2 : Nat) (d : Int64), rdO T len m u p2 R V2 C2 → ltF (sR V2 0) 3 m 1 = ltF (sR V1 0) 3 m 1 → ∃ V' C' : St, df_X3_readEntry_113 n T (nI p) (nI k) (nI x) d (R, V2) = some (R, V') ∧ df_X14_readEntry_106 n (nI p) (nI k) (nI x) (ltF (sR V1 0) 3 m 1) d C2 = some C' ∧ ((∃ (m' p' : Nat) (u' : Int64), m < m' ∧ m' ≤ S ∧ rdO T len m' u' p' R V' C') ∨ rdX T len m u R V' C') := fun V2 C2 p2 d g q => by
          obtain ⟨V', C', a, b, e⟩ := rd_br n hn (hd := p) g (by omega) (by omega) kk.1 x15 kk.2.1 kk.2.2.1 kk.2.2.2 d
          rw [q] at b
          refine ⟨V', C', ?_, b, ?_⟩
          · unfold df_X3_readEntry_113 df_X3_readEntry_152 df_X3_readEntry_156
            dsimp only
            have gE2 := g.2.1
            rw [if_pos (show sI V2 4 = 0 from g.2.2.2.2.1), gE2.2.1]
            have uu := gE2.1.2
            have m8 := gE2.1.1
            by_cases m0 : m = 0
            · rw [if_pos m0] at uu
              rw [if_pos (show nI m = (0 : Int32) by rw [m0]; rfl), n_b1]
              rw [uu] at a
              exact a
            · rw [if_neg m0] at uu
              rw [if_neg (show ¬ nI m = (0 : Int32) from fun y => by have y : nI m = nI 0 := y; rw [nI_eq (by omega) (by omega)] at y; exact m0 y), show nI m - 1 = nI (m - 1) from pk_sub (show 1 ≤ m by omega), nm_ck (by omega) (by omega), nI_clamp (by omega), n_b1, ← uu]
              exact a
          · rcases e with ⟨m', p', u', q1, q2, q3⟩ | e
            · exact Or.inl ⟨m', p', u', q1, by omega, q3⟩
            · exact Or.inr e
        have brx : ∀ (V2 C2 : St) (d d' : Int64), rdX T len m u R V2 C2 → ∃ V' C' : St, df_X3_readEntry_113 n T (nI p) (nI k) (nI x) d (R, V2) = some (R, V') ∧ df_X14_readEntry_106 n (nI p) (nI k) (nI x) (ltF (sR V1 0) 3 m 1) d' C2 = some C' ∧ ((∃ (m' p' : Nat) (u' : Int64), m < m' ∧ m' ≤ S ∧ rdO T len m' u' p' R V' C') ∨ rdX T len m u R V' C') := fun V2 C2 d d' g => by
          refine ⟨V2, C2, ?_, ?_, Or.inr g⟩
          · unfold df_X3_readEntry_113 df_X3_readEntry_156
            rw [if_neg (rdX_4 g).1]
          · have e130 : df_X14_readEntry_130 n (nI p) (nI k) (nI x) (ltF (sR V1 0) 3 m 1) d' C2 = some C2 := by
              unfold df_X14_readEntry_130
              rw [if_neg (rdX_4 g).2.2]
            unfold df_X14_readEntry_106
            rw [me_x n g, nb_b1, e130]
            by_cases a : nI k = (3 : Int32)
            · rw [if_pos a]
              by_cases b : nI x = (1 : Int32)
              · rw [if_pos b]
                by_cases c : (0 : Int32) ≤ ltF (sR V1 0) 3 m 1
                · rw [if_pos c]
                · rw [if_neg c]
              · rw [if_neg b]
            · rw [if_neg a]
        by_cases c : s = 0
        · rw [if_pos (show nI s = (0 : Int32) by rw [c]; rfl), if_pos (h8a.mpr c)]
          rcases rd_vN n (by omega) g1 with ⟨v, p', V2, C2, f1, f2, g2, w1, w2, wR⟩ | ⟨v, w, V2, C2, f1, f2, g2⟩
          · rw [f1, f2, nb_b2, nb_b2]
            refine br V2 C2 p' v g2 (ltF_c m 1 (fun i hi => ?_))
            rw [wR 0]
          · rw [f1, f2, nb_b2, nb_b2]
            exact brx V2 C2 v w g2
        · have c' : ¬ nI s = (0 : Int32) := fun y => by have y : nI s = nI 0 := y; rw [nI_eq (by omega) (by omega)] at y; exact c y
          rw [if_neg c', if_neg (fun y => c (h8a.mp y)), gE.2.1, gE.2.2.1]
          by_cases m0 : m = 0
          · rw [if_pos (show nI m = (0 : Int32) by rw [m0]; rfl), if_pos (show nI m = (0 : Int32) by rw [m0]; rfl)]
            exact br V1 C1 (p + 1) 0 g1 rfl
          · have m8 := gE.1.1
            have m0' : ¬ nI m = (0 : Int32) := fun y => by have y : nI m = nI 0 := y; rw [nI_eq (by omega) (by omega)] at y; exact m0 y
            have df := rd_df n gE (show 1 ≤ m by omega)
            rw [gE.2.1] at df
            rw [if_neg m0', if_neg m0', df, nb_b2, nb_let, show nI m - 1 = nI (m - 1) from pk_sub (show 1 ≤ m by omega), nm_ck (by omega) (by omega), nI_clamp (by omega)]
            exact br V1 C1 (p + 1) _ g1 rfl
    · have X := rd_fl gS gE (f := 1) (pl := p) (by omega) (by omega) (by omega)
      rw [(hd_C n k7 x15 s1).2 ok, nb_b2, if_pos rfl]
      dsimp only
      rw [bl_o n w4, nb_b1, nb_let]
      refine ⟨_, _, ?_, ?_, Or.inr X⟩
      · unfold df_X3_readEntry_57
        have x4 : ¬ sI (pI (pI V1 4 1) 5 (nI p)) 4 = 0 := (rdX_4 X).1
        rw [if_neg x4]
        rfl
      · by_cases k5 : k = 5
        · rw [if_pos (five.mpr k5)]
          have s0 : ¬ s = 0 := by unfold hdk at ok; omega
          unfold df_X14_readRun df_X14_readRun_0
          rw [if_neg (fun y => s0 (h8b.mp y)), me_o n y4, nb_b1]
          unfold df_X14_readRun_13 df_X14_readRun_26
          have x4 : ¬ sI (pI C1 4 (1 + 8 * nI p)) 4 ≤ 0 := (rdX_4 X).2.2
          have mx : df_X14_meet n 4 (nI p) (pI C1 4 (1 + 8 * nI p)) = some (pI C1 4 (1 + 8 * nI p)) := me_x n X 4 (nI p)
          rw [mx, nb_b1, if_neg x4]
          by_cases c : sI (pI C1 4 (1 + 8 * nI p)) 0 = 0
          · rw [if_pos c]; rfl
          · rw [if_neg c]; rfl
        · rw [if_neg (fun y => k5 (five.mp y)), (hd_R n (s := s) z1 ek ex k5 (nI p) C1).2 ok]
          unfold df_X14_readEntry_48 df_X14_readEntry_54
          have x4 : ¬ sI (pI C1 4 (1 + 8 * nI p)) 4 ≤ 0 := (rdX_4 X).2.2
          rw [me_o n y4, nb_b1, if_neg x4]
          rfl
  · rw [e1, e2, nb_b2, nb_b2, if_neg (rdX_4 g1).2.2]
    refine ⟨V1, C1, ?_, rfl, Or.inr g1⟩
    rw [nb_let, nb_let, hd_7 (by omega), hd_4 (by omega), if_pos (show nI 0 &&& 8 = (0 : Int32) by decide)]
    unfold df_X3_readEntry_37
    have i0 : df_X3_isHead n (nI (0 % 8)) (nI (0 / 16)) 0 () = some (1, ()) := rfl
    rw [i0, nb_b2, if_neg (show ¬ (1 : Int32) = 0 by decide)]
    unfold df_X3_readEntry_57
    rw [if_neg (rdX_4 g1).1]
