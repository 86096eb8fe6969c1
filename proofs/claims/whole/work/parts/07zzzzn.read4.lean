/-- what an event brings, in both: behind its head and its time -/
theorem rd_br (n : Nat) (hn : 4096 < n) {T len m p hd k x : Nat} {u : Int64} {R V C : St} (h : rdO T len m u p R V C) (hm : m < 2048) (hhd : hd ≤ 32768) (hk : k < 5) (hx : x < 16) (h1 : k = 1 → x ≤ 8) (h3 : k = 3 → x ≤ 1) (h4 : k = 4 → x = 0) (d : Int64) : ∃ V' C' : St, df_X3_readBrought n T (nI hd) (nI k) (nI x) (d + u) (R, V) = some (R, V') ∧ df_X14_readEntry_106 n (nI hd) (nI k) (nI x) (ltF (sR V 0) 3 m 1) d C = some C' ∧ ((∃ (m' p' : Nat) (u' : Int64), m < m' ∧ m' ≤ m + 1 ∧ rdO T len m' u' p' R V' C') ∨ rdX T len m u R V' C') := by
  obtain ⟨hSt, hE, hp, v2, v4, c3, c4⟩ := id h
  have len8 := hSt.1
  have v4' : sI V 4 = 0 := v4
  have c4' : sI C 4 = 0 := c4
  have c4l : sI C 4 ≤ 0 := by rw [c4]; decide
  -- an event that may come, put behind all
  have put : ∀ (V1 C1 : St) (p1 : Nat) (a : Int64) (b : Int32), rdO T len m u p1 R V1 C1 → evV k a b → ∃ V' C' : St, df_X3_readBrought_216 n T (nI k) (d + u) a b (R, V1) = some (R, V') ∧ df_X14_readEntry_332 n (nI k) d a b C1 = some C' ∧ ((∃ (m' p' : Nat) (u' : Int64), m < m' ∧ m' ≤ m + 1 ∧ rdO T len m' u' p' R V' C') ∨ rdX T len m u R V' C') := fun V1 C1 p1 a b g ev => by
    obtain ⟨V', C', a1, a2, a3⟩ := fi_o n g hm hk (d := d) (a := a) (b := b) ev
    exact ⟨V', C', a1, a2, Or.inl ⟨m + 1, p1, d + u, by omega, by omega, a3⟩⟩
  have bad : ∀ (V1 C1 : St) (a a' : Int64) (b b' : Int32), rdX T len m u R V1 C1 → ∃ V' C' : St, df_X3_readBrought_216 n T (nI k) (d + u) a b (R, V1) = some (R, V') ∧ df_X14_readEntry_332 n (nI k) d a' b' C1 = some C' ∧ ((∃ (m' p' : Nat) (u' : Int64), m < m' ∧ m' ≤ m + 1 ∧ rdO T len m' u' p' R V' C') ∨ rdX T len m u R V' C') := fun V1 C1 a a' b b' g => ⟨V1, C1, (fi_x n g _ _ _ d _).1, (fi_x n g _ _ (d + 0) d _).2, Or.inr g⟩
  have xl : (nI x).toInt64 = Int64.ofNat x := nI_64 (by omega)
  have x32 : (nI x).toInt64.toInt32 = nI x := by rw [xl, t32 (by omega)]
  have k0 : k = 0 ∨ k = 1 ∨ k = 2 ∨ k = 3 ∨ k = 4 := by omega
  rcases k0 with rfl | rfl | rfl | rfl | rfl
  · -- the scheduler's choice
    have C0 : df_X3_readBrought n T (nI hd) (nI 0) (nI x) (d + u) (R, V) = df_X3_readBrought_216 n T (nI 0) (d + u) (nI x).toInt64 0 (R, V) := by
      unfold df_X3_readBrought df_X3_readBrought_0 df_X3_readBrought_90 df_X3_readBrought_190
      rw [nb_let, nb_let]
      rfl
    have R0 : df_X14_readEntry_106 n (nI hd) (nI 0) (nI x) (ltF (sR V 0) 3 m 1) d C = df_X14_readEntry_332 n (nI 0) d (nI x).toInt64 0 C := by
      unfold df_X14_readEntry_106 df_X14_readEntry_130 df_X14_readEntry_147
      rw [if_neg (show ¬ nI 0 = (3 : Int32) by decide), if_pos c4l, if_pos (show nI 0 = (0 : Int32) from rfl), r2_0 n (by omega) (by omega), r2_k n (by omega) (by omega)]
    rw [C0, R0]
    exact put V C p _ _ h (Or.inl ⟨rfl, x, hx, x32⟩)
  · by_cases x0 : x = 0
    · -- bytes typed before
      subst x0
      have C0 : df_X3_readBrought n T (nI hd) (nI 1) (nI 0) (d + u) (R, V) = nd_b2 (df_X3_readVarint n T (R, V)) (fun q45 s46 => if lg_cmp q45 0 = 0 then (nd_b1 (df_X3_blame n 5 (nI p) s46.2) (fun s63 => nd_let (s46.1, s63) (fun s65 => df_X3_readBrought_42 n T (nI hd) (nI 1) (d + u) (nI 0).toInt64 0 q45 s65))) else (df_X3_readBrought_42 n T (nI hd) (nI 1) (d + u) (nI 0).toInt64 0 q45 s46)) := by
        unfold df_X3_readBrought df_X3_readBrought_0
        rw [nb_let, nb_let, if_pos (show nI 1 = (1 : Int32) from rfl), if_pos (show nI 0 = (0 : Int32) from rfl), v2]
      have rb0 : df_X14_readBytes n (nI 0) C = some (0, C) := by
        obtain ⟨n', rfl⟩ : ∃ n' : Nat, n = n' + 1 := ⟨n - 1, by omega⟩
        show dF_X14_readBytes_5 (n' + 1) (df_X14_readBytes_5 (n' + 1) n') (nI 0) 0 0 C = _
        unfold dF_X14_readBytes_5
        rw [if_pos (show nI 0 ≤ (0 : Int32) by decide)]
      have R0 : df_X14_readEntry_106 n (nI hd) (nI 1) (nI 0) (ltF (sR V 0) 3 m 1) d C = nd_b2 (df_X14_readCount n C) (fun q35 s36 => nd_b2 (df_X14_before n 1 q35 s36) (fun q38 s39 => if (0 : Int32) ≤ q38 then (df_X14_readEntry_247 n (nI 1) d q38 s39) else (nd_b1 (df_X14_meet n 4 (nI hd) s39) (fun s47 => df_X14_readEntry_247 n (nI 1) d q38 s47)))) := by
        unfold df_X14_readEntry_106 df_X14_readEntry_130 df_X14_readEntry_200 df_X14_readEntry_213
        rw [if_neg (show ¬ nI 1 = (3 : Int32) by decide), if_pos c4l, if_neg (show ¬ nI 1 = (0 : Int32) by decide), if_neg (show ¬ nI 1 = (2 : Int32) by decide), if_neg (show ¬ nI 1 = (4 : Int32) by decide), if_pos (show nI 1 = (1 : Int32) from rfl), rb0, nb_b2, if_pos (show nI 1 = (1 : Int32) from rfl), if_pos (show nI 1 = (1 : Int32) from rfl), if_pos (show nI 0 = (0 : Int32) from rfl)]
      rw [C0, R0]
      unfold df_X14_readCount df_X14_readCount_0 df_X14_readCount_29
      rw [nb_let, c3]
      -- what is found
      have e247 : ∀ (f : Int32) (C1 : St), f = -1 → df_X14_readEntry_247 n (nI 1) d f C1 = df_X14_readEntry_332 n (nI 1) d 0 0 C1 := fun f C1 e => by
        unfold df_X14_readEntry_247 df_X14_readEntry_263 df_X14_readEntry_281
        rw [e, if_neg (show ¬ (0 : Int32) ≤ -1 by decide), if_neg (show ¬ (0 : Int32) ≤ -1 by decide), r2_k n (by omega) (by omega)]
      have f247 : ∀ (f : Nat) (C1 : St), f < 2048 → df_X14_readEntry_247 n (nI 1) d (nI f) C1 = df_X14_readEntry_332 n (nI 1) d (sQ C1 1 f) (sR C1 1 f) C1 := fun f C1 hf => by
        have l : (0 : Int32) ≤ nI f := (show nI 0 ≤ nI f by rw [nI_leI (by omega) (by omega)]; omega)
        unfold df_X14_readEntry_247 df_X14_readEntry_263 df_X14_readEntry_281
        rw [if_pos l, nm_ck hf (by omega), if_pos l, nm_ck hf (by omega), nI_clamp (by omega), r2_k n (by omega) (by omega)]
      -- with a fault
      have xC : ∀ (V1 C1 : St) (q : Int64), rdX T len m u R V1 C1 → ∃ (a : Int64) (b : Int32), df_X3_readBrought_42 n T (nI hd) (nI 1) (d + u) (nI 0).toInt64 0 q (R, V1) = df_X3_readBrought_216 n T (nI 1) (d + u) a b (R, V1) := fun V1 C1 q g => by
        unfold df_X3_readBrought_42 df_X3_readBrought_87
        dsimp only
        rw [lt_CN n hn g.2.1, nb_b2, nb_let]
        rcases ltF_r (sR V1 0) 1 m q with e | ⟨f, f1, e, _⟩
        · rw [e, if_neg (show ¬ (0 : Int32) ≤ -1 by decide)]
          dsimp only
          rw [bl_x n g, nb_b1, nb_let]
          exact ⟨_, _, rfl⟩
        · rw [e, if_pos (show (0 : Int32) ≤ nI f from (show nI 0 ≤ nI f by rw [nI_leI (by omega) (by omega)]; omega)), nm_ck (by omega) (by omega), nb_let, nm_ck (by omega) (by omega), nb_let]
          exact ⟨_, _, rfl⟩
      have xR : ∀ (V1 C1 : St) (q : Int64), rdX T len m u R V1 C1 → ∃ (a : Int64) (b : Int32), nd_b2 (df_X14_before n 1 q C1) (fun q38 s39 => if (0 : Int32) ≤ q38 then (df_X14_readEntry_247 n (nI 1) d q38 s39) else (nd_b1 (df_X14_meet n 4 (nI hd) s39) (fun s47 => df_X14_readEntry_247 n (nI 1) d q38 s47))) = df_X14_readEntry_332 n (nI 1) d a b C1 := fun V1 C1 q g => by
        rw [lt_RN n hn g.2.1, nb_b2]
        rcases ltF_r (sR V1 0) 1 m q with e | ⟨f, f1, e, _⟩
        · rw [if_neg (show ¬ (0 : Int32) ≤ ltF (sR V1 0) 1 m q by rw [e]; decide), me_x n g, nb_b1, e247 _ _ e]
          exact ⟨_, _, rfl⟩
        · rw [e, if_pos (show (0 : Int32) ≤ nI f from (show nI 0 ≤ nI f by rw [nI_leI (by omega) (by omega)]; omega)), f247 f C1 (by omega)]
          exact ⟨_, _, rfl⟩
      rcases rd_vN n (by omega) h with ⟨v, p', V1, C1, e1, e2, g1, w1, w2, _⟩ | ⟨v, w, V1, C1, e1, e2, g1⟩
      · rw [e1, e2, nb_b2, nb_b2, if_pos (show sI C1 4 = 0 from g1.2.2.2.2.2.2)]
        by_cases vz : lg_cmp v 0 = (0 : Int32)
        · have X := rd_fl g1.1 g1.2.1 (f := 5) (pl := p) (by omega) (by omega) (by omega)
          rw [if_pos vz, if_pos vz, bl_o n g1.2.2.2.2.1, me_o n g1.2.2.2.2.2.2, nb_b1, nb_b1, nb_let, nb_b2]
          obtain ⟨a, b, y1⟩ := xC _ _ v X
          obtain ⟨a', b', y2⟩ := xR _ _ v X
          have y1 : df_X3_readBrought_42 n T (nI hd) (nI 1) (d + u) (nI 0).toInt64 0 v (R, pI (pI V1 4 5) 5 (nI p)) = _ := y1
          have y2 : nd_b2 (df_X14_before n 1 v (pI C1 4 (5 + 8 * nI p))) (fun q38 s39 => if (0 : Int32) ≤ q38 then (df_X14_readEntry_247 n (nI 1) d q38 s39) else (nd_b1 (df_X14_meet n 4 (nI hd) s39) (fun s47 => df_X14_readEntry_247 n (nI 1) d q38 s47))) = _ := y2
          rw [y1, y2]
          exact bad _ _ _ _ _ _ X
        · rw [if_neg vz, if_neg vz, nb_b2, lt_RN n hn g1.2.1, nb_b2]
          unfold df_X3_readBrought_42 df_X3_readBrought_87
          dsimp only
          rw [lt_CN n hn g1.2.1, nb_b2, nb_let]
          dsimp only
          rcases ltF_r (sR V1 0) 1 m v with e | ⟨f, f1, e, ek⟩
          · have X := rd_fl g1.1 g1.2.1 (f := 4) (pl := hd) (by omega) (by omega) hhd
            rw [e, if_neg (show ¬ (0 : Int32) ≤ -1 by decide), if_neg (show ¬ (0 : Int32) ≤ -1 by decide), bl_o n g1.2.2.2.2.1, me_o n g1.2.2.2.2.2.2, nb_b1, nb_b1, nb_let, e247 _ _ rfl]
            exact bad _ _ _ _ _ _ X
          · have l : (0 : Int32) ≤ nI f := (show nI 0 ≤ nI f by rw [nI_leI (by omega) (by omega)]; omega)
            obtain ⟨⟨kk, q5, q6, q7⟩, q8, q9, qa, _⟩ := g1.2.1.2.2.2 f f1
            rw [e, if_pos l, if_pos l, nm_ck (by omega) (by omega), nb_let, nm_ck (by omega) (by omega), nb_let, nI_clamp (by omega), f247 f C1 (by omega), q9, qa]
            have kk1 : kk = 1 := by
              rw [ek] at q6
              have q6 : nI 1 = nI kk := q6
              rw [nI_eq (by omega) (by omega)] at q6
              omega
            rw [kk1] at q7
            exact put V1 C1 p' _ _ g1 q7
      · rw [e1, e2, nb_b2, nb_b2, if_neg (rdX_4 g1).2.1, nb_b2]
        obtain ⟨a', b', y2⟩ := xR _ _ w g1
        rw [y2]
        obtain ⟨a, b, y1⟩ := xC _ _ v g1
        by_cases vz : lg_cmp v 0 = (0 : Int32)
        · rw [if_pos vz]
          dsimp only
          rw [bl_x n g1, nb_b1, nb_let, y1]
          exact bad _ _ _ _ _ _ g1
        · rw [if_neg vz, y1]
          exact bad _ _ _ _ _ _ g1
    · -- bytes typed
      have x8 := h1 rfl
      have C0 : df_X3_readBrought n T (nI hd) (nI 1) (nI x) (d + u) (R, V) = nd_b2 (df_X3_readBytes n T (nI x) (R, V)) (fun q41 s42 => df_X3_readBrought_216 n T (nI 1) (d + u) q41 (nI x) s42) := by
        unfold df_X3_readBrought df_X3_readBrought_0 df_X3_readBrought_90
        rw [nb_let, nb_let, if_pos (show nI 1 = (1 : Int32) from rfl), if_neg (show ¬ nI x = (0 : Int32) from fun z => by have z : nI x = nI 0 := z; rw [nI_eq (by omega) (by omega)] at z; exact x0 z), if_pos (show nI 1 = (1 : Int32) from rfl)]
      have R0 : df_X14_readEntry_106 n (nI hd) (nI 1) (nI x) (ltF (sR V 0) 3 m 1) d C = nd_b2 (df_X14_readBytes n (nI x) C) (fun q57 s58 => df_X14_readEntry_332 n (nI 1) d q57 (nI x) s58) := by
        unfold df_X14_readEntry_106 df_X14_readEntry_130
        rw [if_neg (show ¬ nI 1 = (3 : Int32) by decide), if_pos c4l, if_neg (show ¬ nI 1 = (0 : Int32) by decide), if_neg (show ¬ nI 1 = (2 : Int32) by decide), if_neg (show ¬ nI 1 = (4 : Int32) by decide), if_pos (show nI 1 = (1 : Int32) from rfl)]
        congr 1
        funext q s
        exact r2_1 n (by omega) hx _ _ _ _
      rw [C0, R0]
      have rb := rb_o n (T := T) (len := len) (m := m) (R := R) (N := x) x8 x n n 0 p 0 V C (by omega) (by omega) (by omega) h
      unfold df_X3_readBytes df_X3_readBytes_0 df_X14_readBytes df_X14_readBytes_0
      rcases rb with ⟨v, p', V1, C1, e1, e2, g1⟩ | ⟨v, w, V1, C1, e1, e2, g1⟩
      · have e1 : df_X3_readBytes_5 n T n (nI x) 0 0 (R, V) = some (v, (R, V1)) := e1
        have e2 : df_X14_readBytes_5 n n (nI x) 0 0 C = some (v, C1) := e2
        rw [e1, e2, nb_b2, nb_b2]
        exact put V1 C1 p' _ _ g1 (Or.inr (Or.inl ⟨rfl, x, x8, rfl⟩))
      · have e1 : df_X3_readBytes_5 n T n (nI x) 0 0 (R, V) = some (v, (R, V1)) := e1
        have e2 : df_X14_readBytes_5 n n (nI x) 0 0 C = some (w, C1) := e2
        rw [e1, e2, nb_b2, nb_b2]
        exact bad _ _ _ _ _ _ g1
  · -- a signal
    have C0 : df_X3_readBrought n T (nI hd) (nI 2) (nI x) (d + u) (R, V) = nd_b2 (df_X3_readByte n T (R, V)) (fun q32 s33 => if q32 < 1 then (df_X3_readBrought_132 n T (nI 2) (d + u) (nI x).toInt64 q32 (nI p) s33) else (if q32 ≤ 31 then (df_X3_readBrought_216 n T (nI 2) (d + u) (nI x).toInt64 q32 s33) else (df_X3_readBrought_132 n T (nI 2) (d + u) (nI x).toInt64 q32 (nI p) s33))) := by
      unfold df_X3_readBrought df_X3_readBrought_0 df_X3_readBrought_90
      rw [nb_let, nb_let, if_neg (show ¬ nI 2 = (1 : Int32) by decide), if_neg (show ¬ nI 2 = (1 : Int32) by decide), if_pos (show nI 2 = (2 : Int32) from rfl), v2]
    have R0 : df_X14_readEntry_106 n (nI hd) (nI 2) (nI x) (ltF (sR V 0) 3 m 1) d C = nd_b2 (df_X14_next n C) (fun q25 s26 => if sI s26 4 = 0 then (if q25 < 1 then (df_X14_readEntry_321 n (nI 2) d (nI x).toInt64 q25 s26) else (if q25 ≤ 31 then (df_X14_readEntry_332 n (nI 2) d (nI x).toInt64 q25 s26) else (df_X14_readEntry_321 n (nI 2) d (nI x).toInt64 q25 s26))) else (df_X14_readEntry_332 n (nI 2) d (nI x).toInt64 q25 s26)) := by
      unfold df_X14_readEntry_106 df_X14_readEntry_130 df_X14_readEntry_147
      rw [if_neg (show ¬ nI 2 = (3 : Int32) by decide), if_pos c4l, if_neg (show ¬ nI 2 = (0 : Int32) by decide), if_pos (show nI 2 = (2 : Int32) from rfl), r2_0 n (by omega) (by omega)]
      unfold df_X14_readEntry_283
      rw [if_pos (show nI 2 = (2 : Int32) from rfl), if_pos c4']
    rw [C0, R0]
    rcases rd_b n h with ⟨z, z0, z1, e1, e2, g1⟩ | ⟨V1, C1, e1, e2, g1⟩
    · rw [e1, e2, nb_b2, nb_b2, if_pos (show sI (pI C 3 (nI (p + 1))) 4 = 0 from g1.2.2.2.2.2.2)]
      have fault : ∃ V' C' : St, df_X3_readBrought_132 n T (nI 2) (d + u) (nI x).toInt64 (nI z) (nI p) (R, pI V 2 (nI (p + 1))) = some (R, V') ∧ df_X14_readEntry_321 n (nI 2) d (nI x).toInt64 (nI z) (pI C 3 (nI (p + 1))) = some C' ∧ ((∃ (m' p' : Nat) (u' : Int64), m < m' ∧ m' ≤ m + 1 ∧ rdO T len m' u' p' R V' C') ∨ rdX T len m u R V' C') := by
        have X := rd_fl g1.1 g1.2.1 (f := 5) (pl := p) (by omega) (by omega) (by omega)
        unfold df_X3_readBrought_132 df_X14_readEntry_321
        dsimp only
        rw [bl_o n g1.2.2.2.2.1, g1.2.2.2.2.2.1, show nI (p + 1) - 1 = nI p from dn_2 p, me_o n g1.2.2.2.2.2.2, nb_b1, nb_b1, nb_let]
        exact bad _ _ _ _ _ _ X
      by_cases l1 : nI z < (1 : Int32)
      · rw [if_pos l1, if_pos l1]; exact fault
      · rw [if_neg l1, if_neg l1]
        by_cases l2 : nI z ≤ (31 : Int32)
        · rw [if_pos l2, if_pos l2]
          have l2 : nI z ≤ nI 31 := l2
          rw [nI_leI (by omega) (by omega)] at l2
          have l1 : ¬ nI z < nI 1 := l1
          rw [nI_ltI (by omega) (by omega)] at l1
          exact put _ _ (p + 1) _ _ g1 (Or.inr (Or.inr (Or.inl ⟨rfl, x, z, hx, by omega, by omega, x32, rfl⟩)))
        · rw [if_neg l2, if_neg l2]; exact fault
    · rw [e1, e2, nb_b2, nb_b2, if_neg (rdX_4 g1).2.1, if_pos (show nI 0 < (1 : Int32) by decide)]
      unfold df_X3_readBrought_132
      dsimp only
      rw [bl_x n g1, nb_b1, nb_let]
      exact bad _ _ _ _ _ _ g1
  · have x1 := h3 rfl
    by_cases x0 : x = 0
    · -- the clock
      subst x0
      have C0 : df_X3_readBrought n T (nI hd) (nI 3) (nI 0) (d + u) (R, V) = nd_b2 (df_X3_readVarint n T (R, V)) (fun q17 s18 => df_X3_readBrought_216 n T (nI 3) (d + u) q17 0 s18) := by
        unfold df_X3_readBrought df_X3_readBrought_0 df_X3_readBrought_90 df_X3_readBrought_190
        rw [nb_let, nb_let, if_neg (show ¬ nI 3 = (1 : Int32) by decide), if_neg (show ¬ nI 3 = (1 : Int32) by decide), if_neg (show ¬ nI 3 = (2 : Int32) by decide), if_pos (show nI 3 = (3 : Int32) from rfl), if_neg (show ¬ nI 0 = (1 : Int32) by decide), if_pos (show nI 3 = (3 : Int32) from rfl)]
      have R0 : df_X14_readEntry_106 n (nI hd) (nI 3) (nI 0) (ltF (sR V 0) 3 m 1) d C = nd_b2 (df_X14_readVarint n C) (fun q53 s54 => df_X14_readEntry_332 n (nI 3) d q53 0 s54) := by
        unfold df_X14_readEntry_106 df_X14_readEntry_130
        rw [if_pos (show nI 3 = (3 : Int32) from rfl), if_neg (show ¬ nI 0 = (1 : Int32) by decide), if_pos c4l, if_neg (show ¬ nI 3 = (0 : Int32) by decide), if_neg (show ¬ nI 3 = (2 : Int32) by decide), if_neg (show ¬ nI 3 = (4 : Int32) by decide), if_neg (show ¬ nI 3 = (1 : Int32) by decide), if_neg (show ¬ nI 0 = (1 : Int32) by decide)]
        congr 1
      rw [C0, R0]
      rcases rd_vN n (by omega) h with ⟨v, p', V1, C1, e1, e2, g1, w1, w2, _⟩ | ⟨v, w, V1, C1, e1, e2, g1⟩
      · rw [e1, e2, nb_b2, nb_b2]
        exact put V1 C1 p' _ _ g1 (Or.inr (Or.inr (Or.inr (Or.inl ⟨rfl, w1, w2⟩))))
      · rw [e1, e2, nb_b2, nb_b2]
        exact bad _ _ _ _ _ _ g1
    · -- the clock as before
      have x1 : x = 1 := by omega
      subst x1
      have C0 : df_X3_readBrought n T (nI hd) (nI 3) (nI 1) (d + u) (R, V) = (if (0 : Int32) ≤ ltF (sR V 0) 3 m 1 then (nd_ck (ltF (sR V 0) 3 m 1) 2048 (nd_let (sQ V 1 (Int32.toNatClampNeg (ltF (sR V 0) 3 m 1))) (fun z27 => df_X3_readBrought_187 n T (nI 3) (d + u) z27 0 (R, V)))) else (nd_b1 (df_X3_blame n 4 (nI hd) V) (fun s29 => nd_let (R, s29) (fun s31 => df_X3_readBrought_187 n T (nI 3) (d + u) (nI 1).toInt64 0 s31)))) := by
        unfold df_X3_readBrought df_X3_readBrought_0 df_X3_readBrought_90
        rw [nb_let, nb_let, if_neg (show ¬ nI 3 = (1 : Int32) by decide), if_neg (show ¬ nI 3 = (1 : Int32) by decide), if_neg (show ¬ nI 3 = (2 : Int32) by decide), if_pos (show nI 3 = (3 : Int32) from rfl), if_pos (show nI 1 = (1 : Int32) from rfl)]
        dsimp only
        rw [lt_CN n hn hE, nb_b2, nb_let]
      unfold df_X3_readBrought_187 at C0
      rw [C0]
      unfold df_X14_readEntry_106
      rw [if_pos (show nI 3 = (3 : Int32) from rfl), if_pos (show nI 1 = (1 : Int32) from rfl)]
      rcases ltF_r (sR V 0) 3 m 1 with e | ⟨f, f1, e, ek⟩
      · have X := rd_fl hSt hE (f := 4) (pl := hd) (by omega) (by omega) hhd
        rw [e, if_neg (show ¬ (0 : Int32) ≤ -1 by decide), if_neg (show ¬ (0 : Int32) ≤ -1 by decide), bl_o n v4, me_o n c4, nb_b1, nb_b1, nb_let]
        refine ⟨_, _, (fi_x n X _ _ _ d _).1, ?_, Or.inr X⟩
        unfold df_X14_readEntry_130
        have x4 : ¬ sI (pI C 4 (4 + 8 * nI hd)) 4 ≤ 0 := (rdX_4 X).2.2
        rw [if_neg x4]
        rfl
      · have l : (0 : Int32) ≤ nI f := (show nI 0 ≤ nI f by rw [nI_leI (by omega) (by omega)]; omega)
        obtain ⟨⟨kk, q5, q6, q7⟩, q8, q9, qa, _⟩ := hE.2.2.2 f f1
        have kk1 : kk = 3 := by
          rw [ek] at q6
          have q6 : nI 3 = nI kk := q6
          rw [nI_eq (by omega) (by omega)] at q6
          omega
        rw [kk1] at q7
        have q7' : evV 3 (sQ V 1 f) 0 := by
          rcases q7 with ⟨z, _⟩ | ⟨z, _⟩ | ⟨z, _⟩ | ⟨_, z1, z2⟩ | z
          · exact absurd z (by omega)
          · exact absurd z (by omega)
          · exact absurd z (by omega)
          · exact Or.inr (Or.inr (Or.inr (Or.inl ⟨rfl, z1, z2⟩)))
          · exact absurd z (by omega)
        rw [e, if_pos l, if_pos l, nm_ck (by omega) (by omega), nb_let, nI_clamp (by omega)]
        unfold df_X14_readEntry_130
        rw [if_pos c4l, if_neg (show ¬ nI 3 = (0 : Int32) by decide), if_neg (show ¬ nI 3 = (2 : Int32) by decide), if_neg (show ¬ nI 3 = (4 : Int32) by decide), if_neg (show ¬ nI 3 = (1 : Int32) by decide), if_pos (show nI 1 = (1 : Int32) from rfl), nm_ck (by omega) (by omega), nI_clamp (by omega), r2_0 n (by omega) (by omega), r2_k n (by omega) (by omega), qa]
        exact put V C p _ _ h q7'
  · -- random words
    have x0 := h4 rfl
    subst x0
    have C0 : df_X3_readBrought n T (nI hd) (nI 4) (nI 0) (d + u) (R, V) = nd_b2 (df_X3_readBytes n T 4 (R, V)) (fun q14 s15 => df_X3_readBrought_216 n T (nI 4) (d + u) q14 0 s15) := by
      unfold df_X3_readBrought df_X3_readBrought_0 df_X3_readBrought_90 df_X3_readBrought_190
      rw [nb_let, nb_let, if_neg (show ¬ nI 4 = (1 : Int32) by decide), if_neg (show ¬ nI 4 = (1 : Int32) by decide), if_neg (show ¬ nI 4 = (2 : Int32) by decide), if_neg (show ¬ nI 4 = (3 : Int32) by decide), if_neg (show ¬ nI 4 = (3 : Int32) by decide), if_pos (show nI 4 = (4 : Int32) from rfl)]
    have R0 : df_X14_readEntry_106 n (nI hd) (nI 4) (nI 0) (ltF (sR V 0) 3 m 1) d C = nd_b2 (df_X14_readBytes n 4 C) (fun q60 s61 => df_X14_readEntry_332 n (nI 4) d q60 0 s61) := by
      unfold df_X14_readEntry_106 df_X14_readEntry_130
      rw [if_neg (show ¬ nI 4 = (3 : Int32) by decide), if_pos c4l, if_neg (show ¬ nI 4 = (0 : Int32) by decide), if_neg (show ¬ nI 4 = (2 : Int32) by decide), if_pos (show nI 4 = (4 : Int32) from rfl)]
      congr 1
    rw [C0, R0]
    have rb := rb_o n (T := T) (len := len) (m := m) (R := R) (N := 4) (by omega) 4 n n 0 p 0 V C (by omega) (by omega) (by omega) h
    unfold df_X3_readBytes df_X3_readBytes_0 df_X14_readBytes df_X14_readBytes_0
    rcases rb with ⟨v, p', V1, C1, e1, e2, g1⟩ | ⟨v, w, V1, C1, e1, e2, g1⟩
    · have e1 : df_X3_readBytes_5 n T n 4 0 0 (R, V) = some (v, (R, V1)) := e1
      have e2 : df_X14_readBytes_5 n n 4 0 0 C = some (v, C1) := e2
      rw [e1, e2, nb_b2, nb_b2]
      exact put V1 C1 p' _ _ g1 (Or.inr (Or.inr (Or.inr (Or.inr rfl))))
    · have e1 : df_X3_readBytes_5 n T n 4 0 0 (R, V) = some (v, (R, V1)) := e1
      have e2 : df_X14_readBytes_5 n n 4 0 0 C = some (w, C1) := e2
      rw [e1, e2, nb_b2, nb_b2]
      exact bad _ _ _ _ _ _ g1
