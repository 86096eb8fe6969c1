/-- what an event brings, in both: behind its head and its time -/
theorem rd_br (n : Nat) (hn : 4096 < n) {T len m p hd k x : Nat} {u : Int64} {R V C : St} (h : rdO T len m u p R V C) (hm : m < 2048) (hhd : hd ≤ 32768) (hk : k < 5) (hx : x < 16) (h1 : k = 1 → x ≤ 8) (h3 : k = 3 → x ≤ 1) (h4 : k = 4 → x = 0) (d : Int64) : ∃ V' C' : St, df_X3_readBrought n T (nI hd) (nI k) (nI x) (d + u) (R, V) = some (R, V') ∧ df_X14_readEntry_106 n (nI hd) (nI k) (nI x) (ltF (sR V 0) 3 m 1) d C = some C' ∧ ((∃ (m' p' : Nat) (u' : Int64), m < m' ∧ m' ≤ m + 1 ∧ rdO T len m' u' p' R V' C') ∨ rdX T len m u R V' C') := by
  obtain ⟨hSt, hE, hp, v2, v4, c3, c4⟩ := id h
  have len8 := hSt.1
  have v4' : sI V 4 = 0 := v4
  have c4' : sI C 4 = 0 := c4
  have c4l : sI C 4 ≤ 0 := by rw [c4]; decide
  -- an event that may come, put behind all
  have put : ∀ (V1 C1 : St) (p1 : Nat) (a : Int64) (b : Int32), rdO T len m u p1 R V1 C1 → evV k a b → ∃ V' C' : St, df_X3_readBrought_216 n T (nI k) (d + u) a b (R, V1) = some (R, V') ∧ df_X14_readEntry_332 n (nI k) d a b C1 = some C' ∧ ((∃ (m' p' : Nat) (u' : Int64), m < m' ∧ m' ≤ m + 1 ∧ rdO T len m' u' p' R V' C') ∨ rdX T len m u R V' C') := fun V1 C1 p1 a b g ev => by
    obtain ⟨V', C', a1, a2, a3⟩ := fi_o n g hm hk (d := d) (a := a) (b := b) ev
    exact ⟨V', C', a1, a2, Or.inl ⟨m + 1, p1, d + u, by omega, by omega, a3⟩⟩
  have bad : ∀ (V1 C1 : St) (a a' : Int64) (b b' : Int32), rdX T len m u R V1 C1 → ∃ V' C' : St, df_X3_readBrought_216 n T (nI k) (d + u) a b (R, V1) = some (R, V') ∧ df_X14_readEntry_332 n (nI k) d a' b' C1 = some C' ∧ ((∃ (m' p' : Nat) (u' : Int64), m < m' ∧ m' ≤ m + 1 ∧ rdO T len m' u' p' R V' C') ∨ rdX T len m u R V' C') := fun V1 C1 a a' b b' g => ⟨V1, C1, (fi_x n g _ _ _ d _).1, (fi_x n g _ _ (d + 0) d _).2, Or.inr g⟩
  have xl : (nI x).toInt64 = Int64.ofNat x := nI_64 (by omega)
  have x32 : (nI x).toInt64.toInt32 = nI x := by rw [xl, t32 (by omega)]
  have k0 : k = 0 ∨ k = 1 ∨ k = 2 ∨ k = 3 ∨ k = 4 := by omega
  rcases k0 with rfl | rfl | rfl | rfl | rfl
  · -- the scheduler's choice
    have C0 : df_X3_readBrought n T (nI hd) (nI 0) (nI x) (d + u) (R, V) = df_X3_readBrought_216 n T (nI 0) (d + u) (nI x).toInt64 0 (R, V) := by
      unfold df_X3_readBrought df_X3_readBrought_0 df_X3_readBrought_90 df_X3_readBrought_190
      rw [nb_let, nb_let]
      rfl
    have R0 : df_X14_readEntry_106 n (nI hd) (nI 0) (nI x) (ltF (sR V 0) 3 m 1) d C = df_X14_readEntry_332 n (nI 0) d (nI x).toInt64 0 C := by
      unfold df_X14_readEntry_106 df_X14_readEntry_130 df_X14_readEntry_147
      rw [if_neg (show ¬ nI 0 = (3 : Int32) by decide), if_pos c4l, if_pos (show nI 0 = (0 : Int32) from rfl), r2_0 n (by omega) (by omega), r2_k n (by omega) (by omega)]
    rw [C0, R0]
    exact put V C p _ _ h (Or.inl ⟨rfl, x, hx, x32⟩)
  · by_cases x0 : x = 0
    · -- bytes typed before
      subst x0
      have C0 : df_X3_readBrought n T (nI hd) (nI 1) (nI 0) (d + u) (R, V) = nd_b2 (df_X3_readVarint n T (R, V)) (fun q45 s46 => if lg_cmp q45 0 = 0 then (nd_b1 (df_X3_blame n 5 (nI p) s46.2) (fun s63 => nd_let (s46.1, s63) (fun s65 => df_X3_readBrought_42 n T (nI hd) (nI 1) (d + u) (nI 0).toInt64 0 q45 s65))) else (df_X3_readBrought_42 n T (nI hd) (nI 1) (d + u) (nI 0).toInt64 0 q45 s46)) := by
        unfold df_X3_readBrought df_X3_readBrought_0
        rw [nb_let, nb_let, if_pos (show nI 1 = (1 : Int32) from rfl), if_pos (show nI 0 = (0 : Int32) from rfl), v2]
      have rb0 : df_X14_readBytes n (nI 0) C = some (0, C) := by
        obtain ⟨n', rfl⟩ : ∃ n' : Nat, n = n' + 1 := ⟨n - 1, by omega⟩
        show dF_X14_readBytes_5 (n' + 1) (df_X14_readBytes_5 (n' + 1) n') (nI 0) 0 0 C = _
        unfold dF_X14_readBytes_5
        rw [if_pos (show nI 0 ≤ (0 : Int32) by decide)]
      have R0 : df_X14_readEntry_106 n (nI hd) (nI 1) (nI 0) (ltF (sR V 0) 3 m 1) d C = nd_b2 (df_X14_readCount n C) (fun q35 s36 => nd_b2 (df_X14_before n 1 q35 s36) (fun q38 s39 => if (0 : Int32) ≤ q38 then (df_X14_readEntry_247 n (nI 1) d q38 s39) else (nd_b1 (df_X14_meet n 4 (nI hd) s39) (fun s47 => df_X14_readEntry_247 n (nI 1) d q38 s47)))) := by
        unfold df_X14_readEntry_106 df_X14_readEntry_130 df_X14_readEntry_200 df_X14_readEntry_213
        rw [if_neg (show ¬ nI 1 = (3 : Int32) by decide), if_pos c4l, if_neg (show ¬ nI 1 = (0 : Int32) by decide), if_neg (show ¬ nI 1 = (2 : Int32) by decide), if_neg (show ¬ nI 1 = (4 : Int32) by decide), if_pos (show nI 1 = (1 : Int32) from rfl), rb0, nb_b2, if_pos (show nI 1 = (1 : Int32) from rfl), if_pos (show nI 1 = (1 : Int32) from rfl), if_pos (show nI 0 = (0 : Int32) from rfl)]
      rw [C0, R0]
      unfold df_X14_readCount df_X14_readCount_0 df_X14_readCount_29
      rw [nb_let, c3]
      -- what is found
      have e247 : ∀ (f : Int32) (C1 : St), f = -1 → df_X14_readEntry_247 n (nI 1) d f C1 = df_X14_readEntry_332 n (nI 1) d 0 0 C1 := fun f C1 e => by
        unfold df_X14_readEntry_247 df_X14_readEntry_263 df_X14_readEntry_281
        rw [e, if_neg (show ¬ (0 : Int32) ≤ -1 by decide), if_neg (show ¬ (0 : Int32) ≤ -1 by decide), r2_k n (by omega) (by omega)]
      have f247 : ∀ (f : Nat) (C1 : St), f < 2048 → df_X14_readEntry_247 n (nI 1) d (nI f) C1 = df_X14_readEntry_332 n (nI 1) d (sQ C1 1 f) (sR C1 1 f) C1 := fun f C1 hf => by
        have l : (0 : Int32) ≤ nI f := (show nI 0 ≤ nI f by rw [nI_leI (by omega) (by omega)]; omega)
        unfold df_X14_readEntry_247 df_X14_readEntry_263 df_X14_readEntry_281
        rw [if_pos l, nm_ck hf (by omega), if_pos l, nm_ck hf (by omega), nI_clamp (by omega), r2_k n (by omega) (by omega)]
      -- with a fault
      have xC : ∀ (V1 C1 : St) (q : Int64), rdX T len m u R V1 C1 → ∃ (a : Int64) (b : Int32), df_X3_readBrought_42 n T (nI hd) (nI 1) (d + u) (nI 0).toInt64 0 q (R, V1) = df_X3_readBrought_216 n T (nI 1) (d + u) a b (R, V1) := fun V1 C1 q g => by
        unfold df_X3_readBrought_42 df_X3_readBrought_87
        dsimp only
        rw [lt_CN n hn g.2.1, nb_b2, nb_let]
        rcases ltF_r (sR V1 0) 1 m q with e | ⟨f, f1, e, _⟩
        · rw [e, if_neg (show ¬ (0 : Int32) ≤ -1 by decide)]
          dsimp only
          rw [bl_x n g, nb_b1, nb_let]
          exact ⟨_, _, rfl⟩
        · rw [e, if_pos (show (0 : Int32) ≤ nI f from (show nI 0 ≤ nI f by rw [nI_leI (by omega) (by omega)]; omega)), nm_ck (by omega) (by omega), nb_let, nm_ck (by omega) (by omega), nb_let]
          exact ⟨_, _, rfl⟩
      have xR : ∀ (V1 C1 : St) (q : Int64), rdX T len m u R V1 C1 → ∃ (a : Int64) (b : Int32), nd_b2 (df_X14_before n 1 q C1) (fun q38 s39 => if (0 : Int32) ≤ q38 then (df_X14_readEntry_247 n (nI 1) d q38 s39) else (nd_b1 (df_X14_meet n 4 (nI hd) s39) (fun s47 => df_X14_readEntry_247 n (nI 1) d q38 s47))) = df_X14_readEntry_332 n (nI 1) d a b C1 := fun V1 C1 q g => by
        rw [lt_RN n hn g.2.1, nb_b2]
        rcases ltF_r (sR V1 0) 1 m q with e | ⟨f, f1, e, _⟩
        · rw [if_neg (show ¬ (0 : Int32) ≤ ltF (sR V1 0) 1 m q by rw [e]; decide), me_x n g, nb_b1, e247 _ _ e]
          exact ⟨_, _, rfl⟩
        · rw [e, if_pos (show (0 : Int32) ≤ nI f from (show nI 0 ≤ nI f by rw [nI_leI (by omega) (by omega)]; omega)), f247 f C1 (by omega)]
          exact ⟨_, _, rfl⟩
      rcases rd_vN n (by omega) h with ⟨v, p', V1, C1, e1, e2, g1, w1, w2, _⟩ | ⟨v, w, V1, C1, e1, e2, g1⟩
      · rw [e1, e2, nb_b2, nb_b2, if_pos (show sI C1 4 = 0 from g1.2.2.2.2.2.2)]
        by_cases vz : lg_cmp v 0 = (0 : Int32)
        · have X := rd_fl g1.1 g1.2.1 (f := 5) (pl := p) (by omega) (by omega) (by omega)
          rw [if_pos vz, if_pos vz, bl_o n g1.2.2.2.2.1, me_o n g1.2.2.2.2.2.2, nb_b1, nb_b1, nb_let, nb_b2]
          obtain ⟨a, b, y1⟩ := xC _ _ v X
          obtain ⟨a', b', y2⟩ := xR _ _ v X
          have y1 : df_X3_readBrought_42 n T (nI hd) (nI 1) (d + u) (nI 0).toInt64 0 v (R, pI (pI V1 4 5) 5 (nI p)) = _ := y1
          have y2 : nd_b2 (df_X14_before n 1 v (pI C1 4 (5 + 8 * nI p))) (fun q38 s39 => if (0 : Int32) ≤ q38 then (df_X14_readEntry_247 n (nI 1) d q38 s39) else (nd_b1 (df_X14_meet n 4 (nI hd) s39) (fun s47 => df_X14_readEntry_247 n (nI 1) d q38 s47))) = _ := y2
          rw [y1, y2]
          exact bad _ _ _ _ _ _ X
        · rw [if_neg vz, if_neg vz, nb_b2, lt_RN n hn g1.2.1, nb_b2]
          unfold df_X3_readBrought_42 df_X3_readBrought_87
          dsimp only
          rw [lt_CN n hn g1.2.1, nb_b2, nb_let]
          dsimp only
          rcases ltF_r (sR V1 0) 1 m v with e | ⟨f, f1, e, ek⟩
          · have X := rd_fl g1.1 g1.2.1 (f := 4) (pl := hd) (by omega) (by omega) hhd
            rw [e, if_neg (show ¬ (0 : Int32) ≤ -1 by decide), if_neg (show ¬ (0 : Int32) ≤ -1 by decide), bl_o n g1.2.2.2.2.1, me_o n g1.2.2.2.2.2.2, nb_b1, nb_b1, nb_let, e247 _ _ rfl]
            exact bad _ _ _ _ _ _ X
          · have l : (0 : Int32) ≤ nI f := (show nI 0 ≤ nI f by rw [nI_leI (by omega) (by omega)]; omega)
            obtain ⟨⟨kk, q5, q6, q7⟩, q8, q9, qa, _⟩ := g1.2.1.2.2.2 f f1
            rw [e, if_pos l, if_pos l, nm_ck (by omega) (by omega), nb_let, nm_ck (by omega) (by omega), nb_let, nI_clamp (by omega), f247 f C1 (by omega), q9, qa]
            have kk1 : kk = 1 := by
              rw [ek] at q6
              have q6 : nI 1 = nI kk := q6
              rw [nI_eq (by omega) (by omega)] at q6
              omega
            rw [kk1] at q7
            exact put V1 C1 p' _ _ g1 q7
      · rw [e1, e2, nb_b2, nb_b2, if_neg (rdX_4 g1).2.1, nb_b2]
        obtain ⟨a', b', y2⟩ := xR _ _ w g1
        rw [y2]
        obtain ⟨a, b, y1⟩ := xC _ _ v g1
        by_cases vz : lg_cmp v 0 = (0 : Int32)
        · rw [if_pos vz]
          dsimp only
          rw [bl_x n g1, nb_b1, nb_let, y1]
          exact bad _ _ _ _ _ _ g1
        · rw [if_neg vz, y1]
          exact bad _ _ _ _ _ _ g1
    · -- bytes typed
      have x8 := h1 rfl
      have C0 : df_X3_readBrought n T (nI hd) (nI 1) (nI x) (d + u) (R, V) = nd_b2 (df_X3_readBytes n T (nI x) (R, V)) (fun q41 s42 => df_X3_readBrought_216 n T (nI 1) (d + u) q41 (nI x) s42) := by
        unfold df_X3_readBrought df_X3_readBrought_0 df_X3_readBrought_90
        rw [nb_let, nb_let, if_pos (show nI 1 = (1 : Int32) from rfl), if_neg (show ¬ nI x = (0 : Int32) from fun z => by have z : nI x = nI 0 := z; rw [nI_eq (by omega) (by omega)] at z; exact x0 z), if_pos (show nI 1 = (1 : Int32) from rfl)]
      have R0 : df_X14_readEntry_106 n (nI hd) (nI 1) (nI x) (ltF (sR V 0) 3 m 1) d C = nd_b2 (df_X14_readBytes n (nI x) C) (fun q57 s58 => df_X14_readEntry_332 n (nI 1) d q57 (nI x) s58) := by
        unfold df_X14_readEntry_106 df_X14_readEntry_130
        rw [if_neg (show ¬ nI 1 = (3 : Int32) by decide), if_pos c4l, if_neg (show ¬ nI 1 = (0 : Int32) by decide), if_neg (show ¬ nI 1 = (2 : Int32) by decide), if_neg (show ¬ nI 1 = (4 : Int32) by decide), if_pos (show nI 1 = (1 : Int32) from rfl)]
        congr 1
        funext q s
        exact r2_1 n (by omega) hx _ _ _ _
      rw [C0, R0]
      have rb := rb_o n (T := T) (len := len) (m := m) (R := R) (N := x) x8 x n n 0 p 0 V C (by omega) (by omega) (by omega) h
      unfold df_X3_readBytes df_X3_readBytes_0 df_X14_readBytes df_X14_readBytes_0
      rcases rb with ⟨v, p', V1, C1, e1, e2, g1⟩ | ⟨v, w, V1, C1, e1, e2, g1⟩
      · have e1 : df_X3_readBytes_5 n T n (nI x) 0 0 (R, V) = some (v, (R, V1)) := e1
        have e2 : df_X14_readBytes_5 n n (nI x) 0 0 C = some (v, C1) := e2
        rw [e1, e2, nb_b2, nb_b2]
        exact put V1 C1 p' _ _ g1 (Or.inr (Or.inl ⟨rfl, x, x8, rfl⟩))
      · have e1 : df_X3_readBytes_5 n T n (nI x) 0 0 (R, V) = some (v, (R, V1)) := e1
        have e2 : df_X14_readBytes_5 n n (nI x) 0 0 C = some (w, C1) := e2
        rw [e1, e2, nb_b2, nb_b2]
        exact bad _ _ _ _ _ _ g1
  · -- a signal
    have C0 : df_X3_readBrought n T (nI hd) (nI 2) (nI x) (d + u) (R, V) = nd_b2 (df_X3_readByte n T (R, V)) (fun q32 s33 => if q32 < 1 then (df_X3_readBrought_132 n T (nI 2) (d + u) (nI x).toInt64 q32 (nI p) s33) else (if q32 ≤ 31 then (df_X3_readBrought_216 n T (nI 2) (d + u) (nI x).toInt64 q32 s33) else (df_X3_readBrought_132 n T (nI 2) (d + u) (nI x).toInt64 q32 (nI p) s33))) := by
      unfold df_X3_readBrought df_X3_readBrought_0 df_X3_readBrought_90
      rw [nb_let, nb_let, if_neg (show ¬ nI 2 = (1 : Int32) by decide), if_neg (show ¬ nI 2 = (1 : Int32) by decide), if_pos (show nI 2 = (2 : Int32) from rfl), v2]
    have R0 : df_X14_readEntry_106 n (nI hd) (nI 2) (nI x) (ltF (sR V 0) 3 m 1) d C = nd_b2 (df_X14_next n C) (fun q25 s26 => if sI s26 4 = 0 then (if q25 < 1 then (df_X14_readEntry_321 n (nI 2) d (nI x).toInt64 q25 s26) else (if q25 ≤ 31 then (df_X14_readEntry_332 n (nI 2) d (nI x).toInt64 q25 s26) else (df_X14_readEntry_321 n (nI 2) d (nI x).toInt64 q25 s26))) else (df_X14_readEntry_332 n (nI 2) d (nI x).toInt64 q25 s26)) := by
      unfold df_X14_readEntry_106 df_X14_readEntry_130 df_X14_readEntry_147
      rw [if_neg (show ¬ nI 2 = (3 : Int32) by decide), if_pos c4l, if_neg (show ¬ nI 2 = (0 : Int32) by decide), if_pos (show nI 2 = (2 : Int32) from rfl), r2_0 n (by omega) (by omega)]
      unfold df_X14_readEntry_283
      rw [if_pos (show nI 2 = (2 : Int32) from rfl), if_pos c4']
    rw [C0, R0]
    rcases rd_b n h with ⟨z, z0, z1, e1, e2, g1⟩ | ⟨V1, C1, e1, e2, g1⟩
    · rw [e1, e2, nb_b2, nb_b2, if_pos (show sI (pI C 3 (nI (p + 1))) 4 = 0 from g1.2.2.2.2.2.2)]
      have fault : ∃ V' C' : St, df_X3_readBrought_132 n T (nI 2) (d + u) (nI x).toInt64 (nI z) (nI p) (R, pI V 2 (nI (p + 1))) = some (R, V') ∧ df_X14_readEntry_321 n (nI 2) d (nI x).toInt64 (nI z) (pI C 3 (nI (p + 1))) = some C' ∧ ((∃ (m' p' : Nat) (u' : Int64), m < m' ∧ m' ≤ m + 1 ∧ rdO T len m' u' p' R V' C') ∨ rdX T len m u R V' C') := by
        have X := rd_fl g1.1 g1.2.1 (f := 5) (pl := p) (by omega) (by omega) (by omega)
        unfold df_X3_readBrought_132 df_X14_readEntry_321
        dsimp only
        rw [bl_o n g1.2.2.2.2.1, g1.2.2.2.2.2.1, show nI (p + 1) - 1 = nI p from dn_2 p, me_o n g1.2.2.2.2.2.2, nb_b1, nb_b1, nb_let]
        exact bad _ _ _ _ _ _ X
      by_cases l1 : nI z < (1 : Int32)
      · rw [if_pos l1, if_pos l1]; exact fault
      · rw [if_neg l1, if_neg l1]
        by_cases l2 : nI z ≤ (31 : Int32)
        · rw [if_pos l2, if_pos l2]
          have l2 : nI z ≤ nI 31 := l2
          rw [nI_leI (by omega) (by omega)] at l2
          have l1 : ¬ nI z < nI 1 := l1
          rw [nI_ltI (by omega) (by omega)] at l1
          exact put _ _ (p + 1) _ _ g1 (Or.inr (Or.inr (Or.inl ⟨rfl, x, z, hx, by omega, by omega, x32, rfl⟩)))
        · rw [if_neg l2, if_neg l2]; exact fault
    · rw [e1, e2, nb_b2, nb_b2, if_neg (rdX_4 g1).2.1, if_pos (show nI 0 < (1 : Int32) by decide)]
      unfold df_X3_readBrought_132
      dsimp only
      rw [bl_x n g1, nb_b1, nb_let]
      exact bad _ _ _ _ _ _ g1
  · have x1 := h3 rfl
    by_cases x0 : x = 0
    · -- the clock
      subst x0
      have C0 : df_X3_readBrought n T (nI hd) (nI 3) (nI 0) (d + u) (R, V) = nd_b2 (df_X3_readVarint n T (R, V)) (fun q17 s18 => df_X3_readBrought_216 n T (nI 3) (d + u) q17 0 s18) := by
        unfold df_X3_readBrought df_X3_readBrought_0 df_X3_readBrought_90 df_X3_readBrought_190
        rw [nb_let, nb_let, if_neg (show ¬ nI 3 = (1 : Int32) by decide), if_neg (show ¬ nI 3 = (1 : Int32) by decide), if_neg (show ¬ nI 3 = (2 : Int32) by decide), if_pos (show nI 3 = (3 : Int32) from rfl), if_neg (show ¬ nI 0 = (1 : Int32) by decide), if_pos (show nI 3 = (3 : Int32) from rfl)]
      have R0 : df_X14_readEntry_106 n (nI hd) (nI 3) (nI 0) (ltF (sR V 0) 3 m 1) d C = nd_b2 (df_X14_readVarint n C) (fun q53 s54 => df_X14_readEntry_332 n (nI 3) d q53 0 s54) := by
        unfold df_X14_readEntry_106 df_X14_readEntry_130
        rw [if_pos (show nI 3 = (3 : Int32) from rfl), if_neg (show ¬ nI 0 = (1 : Int32) by decide), if_pos c4l, if_neg (show ¬ nI 3 = (0 : Int32) by decide), if_neg (show ¬ nI 3 = (2 : Int32) by decide), if_neg (show ¬ nI 3 = (4 : Int32) by decide), if_neg (show ¬ nI 3 = (1 : Int32) by decide), if_neg (show ¬ nI 0 = (1 : Int32) by decide)]
        congr 1
      rw [C0, R0]
      rcases rd_vN n (by omega) h with ⟨v, p', V1, C1, e1, e2, g1, w1, w2, _⟩ | ⟨v, w, V1, C1, e1, e2, g1⟩
      · rw [e1, e2, nb_b2, nb_b2]
        exact put V1 C1 p' _ _ g1 (Or.inr (Or.inr (Or.inr (Or.inl ⟨rfl, w1, w2⟩))))
      · rw [e1, e2, nb_b2, nb_b2]
        exact bad _ _ _ _ _ _ g1
    · -- the clock as before
      have x1 : x = 1 := by omega
      subst x1
      have C0 : df_X3_readBrought n T (nI hd) (nI 3) (nI 1) (d + u) (R, V) = (if (0 : Int32) ≤ ltF (sR V 0) 3 m 1 then (nd_ck (ltF (sR V 0) 3 m 1) 2048 (nd_let (sQ V 1 (Int32.toNatClampNeg (ltF (sR V 0) 3 m 1))) (fun z27 => df_X3_readBrought_187 n T (nI 3) (d + u) z27 0 (R, V)))) else (nd_b1 (df_X3_blame n 4 (nI hd) V) (fun s29 => nd_let (R, s29) (fun s31 => df_X3_readBrought_187 n T (nI 3) (d + u) (nI 1).toInt64 0 s31)))) := by
        unfold df_X3_readBrought df_X3_readBrought_0 df_X3_readBrought_90
        rw [nb_let, nb_let, if_neg (show ¬ nI 3 = (1 : Int32) by decide), if_neg (show ¬ nI 3 = (1 : Int32) by decide), if_neg (show ¬ nI 3 = (2 : Int32) by decide), if_pos (show nI 3 = (3 : Int32) from rfl), if_pos (show nI 1 = (1 : Int32) from rfl)]
        dsimp only
        rw [lt_CN n hn hE, nb_b2, nb_let]
      unfold df_X3_readBrought_187 at C0
      rw [C0]
      unfold df_X14_readEntry_106
      rw [if_pos (show nI 3 = (3 : Int32) from rfl), if_pos (show nI 1 = (1 : Int32) from rfl)]
      rcases ltF_r (sR V 0) 3 m 1 with e | ⟨f, f1, e, ek⟩
      · have X := rd_fl hSt hE (f := 4) (pl := hd) (by omega) (by omega) hhd
        rw [e, if_neg (show ¬ (0 : Int32) ≤ -1 by decide), if_neg (show ¬ (0 : Int32) ≤ -1 by decide), bl_o n v4, me_o n c4, nb_b1, nb_b1, nb_let]
        refine ⟨_, _, (fi_x n X _ _ _ d _).1, ?_, Or.inr X⟩
        unfold df_X14_readEntry_130
        have x4 : ¬ sI (pI C 4 (4 + 8 * nI hd)) 4 ≤ 0 := (rdX_4 X).2.2
        rw [if_neg x4]
        rfl
      · have l : (0 : Int32) ≤ nI f := (show nI 0 ≤ nI f by rw [nI_leI (by omega) (by omega)]; omega)
        obtain ⟨⟨kk, q5, q6, q7⟩, q8, q9, qa, _⟩ := hE.2.2.2 f f1
        have kk1 : kk = 3 := by
          rw [ek] at q6
          have q6 : nI 3 = nI kk := q6
          rw [nI_eq (by omega) (by omega)] at q6
          omega
        rw [kk1] at q7
        have q7' : evV 3 (sQ V 1 f) 0 := by
          rcases q7 with ⟨z, _⟩ | ⟨z, _⟩ | ⟨z, _⟩ | ⟨_, z1, z2⟩ | z
          · exact absurd z (by omega)
          · exact absurd z (by omega)
          · exact absurd z (by omega)
          · exact Or.inr (Or.inr (Or.inr (Or.inl ⟨rfl, z1, z2⟩)))
          · exact absurd z (by omega)
        rw [e, if_pos l, if_pos l, nm_ck (by omega) (by omega), nb_let, nI_clamp (by omega)]
        unfold df_X14_readEntry_130
        rw [if_pos c4l, if_neg (show ¬ nI 3 = (0 : Int32) by decide), if_neg (show ¬ nI 3 = (2 : Int32) by decide), if_neg (show ¬ nI 3 = (4 : Int32) by decide), if_neg (show ¬ nI 3 = (1 : Int32) by decide), if_pos (show nI 1 = (1 : Int32) from rfl), nm_ck (by omega) (by omega), nI_clamp (by omega), r2_0 n (by omega) (by omega), r2_k n (by omega) (by omega), qa]
        exact put V C p _ _ h q7'
  · -- random words
    have x0 := h4 rfl
    subst x0
    have C0 : df_X3_readBrought n T (nI hd) (nI 4) (nI 0) (d + u) (R, V) = nd_b2 (df_X3_readBytes n T 4 (R, V)) (fun q14 s15 => df_X3_readBrought_216 n T (nI 4) (d + u) q14 0 s15) := by
      unfold df_X3_readBrought df_X3_readBrought_0 df_X3_readBrought_90 df_X3_readBrought_190
      rw [nb_let, nb_let, if_neg (show ¬ nI 4 = (1 : Int32) by decide), if_neg (show ¬ nI 4 = (1 : Int32) by decide), if_neg (show ¬ nI 4 = (2 : Int32) by decide), if_neg (show ¬ nI 4 = (3 : Int32) by decide), if_neg (show ¬ nI 4 = (3 : Int32) by decide), if_pos (show nI 4 = (4 : Int32) from rfl)]
    have R0 : df_X14_readEntry_106 n (nI hd) (nI 4) (nI 0) (ltF (sR V 0) 3 m 1) d C = nd_b2 (df_X14_readBytes n 4 C) (fun q60 s61 => df_X14_readEntry_332 n (nI 4) d q60 0 s61) := by
      unfold df_X14_readEntry_106 df_X14_readEntry_130
      rw [if_neg (show ¬ nI 4 = (3 : Int32) by decide), if_pos c4l, if_neg (show ¬ nI 4 = (0 : Int32) by decide), if_neg (show ¬ nI 4 = (2 : Int32) by decide), if_pos (show nI 4 = (4 : Int32) from rfl)]
      congr 1
    rw [C0, R0]
    have rb := rb_o n (T := T) (len := len) (m := m) (R := R) (N := 4) (by omega) 4 n n 0 p 0 V C (by omega) (by omega) (by omega) h
    unfold df_X3_readBytes df_X3_readBytes_0 df_X14_readBytes df_X14_readBytes_0
    rcases rb with ⟨v, p', V1, C1, e1, e2, g1⟩ | ⟨v, w, V1, C1, e1, e2, g1⟩
    · have e1 : df_X3_readBytes_5 n T n 4 0 0 (R, V) = some (v, (R, V1)) := e1
      have e2 : df_X14_readBytes_5 n n 4 0 0 C = some (v, C1) := e2
      rw [e1, e2, nb_b2, nb_b2]
      exact put V1 C1 p' _ _ g1 (Or.inr (Or.inr (Or.inr (Or.inr rfl))))
    · have e1 : df_X3_readBytes_5 n T n 4 0 0 (R, V) = some (v, (R, V1)) := e1
      have e2 : df_X14_readBytes_5 n n 4 0 0 C = some (w, C1) := e2
      rw [e1, e2, nb_b2, nb_b2]
      exact bad _ _ _ _ _ _ g1

/-- a head that may be -/
def hdk (k x s : Nat) : Prop := k = 0 ∨ k = 2 ∨ (k = 1 ∧ x ≤ 8) ∨ (k = 3 ∧ x ≤ 1) ∨ (k = 4 ∧ x = 0) ∨ (k = 5 ∧ s = 0)
theorem hd_C (n : Nat) {k x s : Nat} (hk : k < 8) (hx : x < 16) (hs : s < 2) : (hdk k x s → df_X3_isHead n (nI k) (nI x) (nI s) () = some (1, ())) ∧ (¬ hdk k x s → df_X3_isHead n (nI k) (nI x) (nI s) () = some (0, ())) := by
  have m1 : ∀ {α : Type} {y : Option α}, nd_z .boolean (1 : Int32) y = y := nm_z1
  have m0 : ∀ {α : Type} {y : Option α}, nd_z .boolean (0 : Int32) y = y := nm_z0
  have l8 : (8 : Int32) < nI x ↔ 8 < x := by show nI 8 < nI x ↔ _; rw [nI_ltI (by omega) (by omega)]
  have l1 : (1 : Int32) < nI x ↔ 1 < x := by show nI 1 < nI x ↔ _; rw [nI_ltI (by omega) (by omega)]
  have x0 : nI x = (0 : Int32) ↔ x = 0 := by show nI x = nI 0 ↔ _; rw [nI_eq (by omega) (by omega)]
  have s0 : nI s = (0 : Int32) ↔ s = 0 := by show nI s = nI 0 ↔ _; rw [nI_eq (by omega) (by omega)]
  unfold hdk df_X3_isHead df_X3_isHead_0 df_X3_isHead_40 df_X3_isHead_53 df_X3_isHead_64 df_X3_isHead_74 df_X3_isHead_84
  have k8 : k = 0 ∨ k = 1 ∨ k = 2 ∨ k = 3 ∨ k = 4 ∨ k = 5 ∨ k = 6 ∨ k = 7 := by omega
  rcases k8 with rfl | rfl | rfl | rfl | rfl | rfl | rfl | rfl
  · exact ⟨fun _ => rfl, fun z => absurd (Or.inl rfl) z⟩
  · rw [if_neg (show ¬ nI 1 = (0 : Int32) by decide), if_pos (show nI 1 = (1 : Int32) from rfl), m0, m1]
    exact ⟨fun z => if_neg (fun y => by rw [l8] at y; omega), fun z => if_pos (by rw [l8]; omega)⟩
  · exact ⟨fun _ => rfl, fun z => absurd (Or.inr (Or.inl rfl)) z⟩
  · rw [if_neg (show ¬ nI 3 = (0 : Int32) by decide), if_neg (show ¬ nI 3 = (1 : Int32) by decide), if_neg (show ¬ nI 3 = (2 : Int32) by decide), if_pos (show nI 3 = (3 : Int32) from rfl), m0, m1]
    exact ⟨fun z => if_neg (fun y => by rw [l1] at y; omega), fun z => if_pos (by rw [l1]; omega)⟩
  · rw [if_neg (show ¬ nI 4 = (0 : Int32) by decide), if_neg (show ¬ nI 4 = (1 : Int32) by decide), if_neg (show ¬ nI 4 = (2 : Int32) by decide), if_neg (show ¬ nI 4 = (3 : Int32) by decide), if_pos (show nI 4 = (4 : Int32) from rfl), m0, m1]
    exact ⟨fun z => if_pos (by rw [x0]; omega), fun z => if_neg (fun y => by rw [x0] at y; omega)⟩
  · rw [if_neg (show ¬ nI 5 = (0 : Int32) by decide), if_neg (show ¬ nI 5 = (1 : Int32) by decide), if_neg (show ¬ nI 5 = (2 : Int32) by decide), if_neg (show ¬ nI 5 = (3 : Int32) by decide), if_neg (show ¬ nI 5 = (4 : Int32) by decide), if_pos (show nI 5 = (5 : Int32) from rfl), m0, m1]
    exact ⟨fun z => if_pos (by rw [s0]; omega), fun z => if_neg (fun y => by rw [s0] at y; omega)⟩
  · exact ⟨fun z => by omega, fun _ => rfl⟩
  · exact ⟨fun z => by omega, fun _ => rfl⟩
theorem hd_R (n : Nat) {k x s z : Nat} (hz : z < 256) (ek : k = z % 8) (ex : x = z / 16) (h5 : ¬ k = 5) (p : Int32) (C : St) : (hdk k x s → df_X14_readEntry n (nI z) p C = df_X14_readEntry_54 n (nI z) p (nI k) (nI x) C) ∧ (¬ hdk k x s → df_X14_readEntry n (nI z) p C = df_X14_readEntry_48 n (nI z) p (nI k) (nI x) C) := by
  have l8 : (8 : Int32) < nI x ↔ 8 < x := by show nI 8 < nI x ↔ _; rw [nI_ltI (by omega) (by omega)]
  have l1 : (1 : Int32) < nI x ↔ 1 < x := by show nI 1 < nI x ↔ _; rw [nI_ltI (by omega) (by omega)]
  have x0 : nI x ≤ (0 : Int32) ↔ x = 0 := nm_nle0 (by omega)
  unfold hdk df_X14_readEntry df_X14_readEntry_0 df_X14_readEntry_27 df_X14_readEntry_38
  rw [nb_let, nb_let, hd_7 hz, hd_4 hz, ← ek, ← ex]
  have k8 : k = 0 ∨ k = 1 ∨ k = 2 ∨ k = 3 ∨ k = 4 ∨ k = 6 ∨ k = 7 := by omega
  rcases k8 with h | h | h | h | h | h | h
  · rw [h]
    exact ⟨fun _ => rfl, fun z => absurd (Or.inl rfl) z⟩
  · rw [h, if_neg (show ¬ (5 : Int32) < nI 1 by decide), if_pos (show nI 1 = (1 : Int32) from rfl), if_neg (show ¬ nI 1 = (3 : Int32) by decide), if_neg (show ¬ nI 1 = (4 : Int32) by decide)]
    exact ⟨fun z => if_neg (fun y => by rw [l8] at y; omega), fun z => if_pos (by rw [l8]; omega)⟩
  · rw [h]
    exact ⟨fun _ => rfl, fun z => absurd (Or.inr (Or.inl rfl)) z⟩
  · rw [h, if_neg (show ¬ (5 : Int32) < nI 3 by decide), if_neg (show ¬ nI 3 = (1 : Int32) by decide), if_pos (show nI 3 = (3 : Int32) from rfl), if_neg (show ¬ nI 3 = (4 : Int32) by decide)]
    exact ⟨fun z => if_neg (fun y => by rw [l1] at y; omega), fun z => if_pos (by rw [l1]; omega)⟩
  · rw [h, if_neg (show ¬ (5 : Int32) < nI 4 by decide), if_neg (show ¬ nI 4 = (1 : Int32) by decide), if_neg (show ¬ nI 4 = (3 : Int32) by decide), if_pos (show nI 4 = (4 : Int32) from rfl)]
    exact ⟨fun z => if_pos (by rw [x0]; omega), fun z => if_neg (fun y => by rw [x0] at y; omega)⟩
  · rw [h]
    exact ⟨fun z => by omega, fun _ => if_pos (by decide)⟩
  · rw [h]
    exact ⟨fun z => by omega, fun _ => if_pos (by decide)⟩
theorem n_b1 {α : Type} (x : Option α) : nd_b1 x (fun s => some s) = x := by
  cases x with
  | none => rfl
  | some v => rfl
/-- an entry, in both -/
theorem rd_en (n : Nat) (hn : 4096 < n) {T len m p S : Nat} {u : Int64} {R V C : St} (h : rdO T len m u p R V C) (hS : S ≤ 2048) (hmS : m < S) : ∃ V' C' : St, df_X3_readEntry n T (Int64.ofNat S) (R, V) = some (R, V') ∧ nd_b2 (df_X14_next n C) (fun q18 s19 => if sI s19 4 ≤ 0 then (if q18 &&& 7 = 5 then df_X14_readRun n q18 (nI p) (nI S) s19 else df_X14_readEntry n q18 (nI p) s19) else some s19) = some C' ∧ ((∃ (m' p' : Nat) (u' : Int64), m < m' ∧ m' ≤ S ∧ rdO T len m' u' p' R V' C') ∨ rdX T len m u R V' C') := by
  have len8 := h.1.1
  have v2 := h.2.2.2.1
  have pl8 := h.2.2.1
  unfold df_X3_readEntry df_X3_readEntry_0
  dsimp only
  rw [v2, nb_let]
  rcases rd_b n h with ⟨z, z0, z1, e1, e2, g1⟩ | ⟨V1, C1, e1, e2, g1⟩
  · obtain ⟨gS, gE, gp, w2, w4, y3, y4⟩ := id g1
    have y4' : sI (pI C 3 (nI (p + 1))) 4 = 0 := y4
    have y4l : sI (pI C 3 (nI (p + 1))) 4 ≤ 0 := by rw [y4]; decide
    have w4' : sI (pI V 2 (nI (p + 1))) 4 = 0 := w4
    generalize pI V 2 (nI (p + 1)) = V1 at *
    generalize pI C 3 (nI (p + 1)) = C1 at *
    obtain ⟨h8a, h8b⟩ := hd_8 ⟨z, z1⟩
    have h8a : nI z &&& 8 = 0 ↔ z / 8 % 2 = 0 := h8a
    have h8b : nI z &&& 8 ≤ 0 ↔ z / 8 % 2 = 0 := h8b
    obtain ⟨k, ek⟩ : ∃ k : Nat, k = z % 8 := ⟨_, rfl⟩
    obtain ⟨x, ex⟩ : ∃ x : Nat, x = z / 16 := ⟨_, rfl⟩
    obtain ⟨s, es⟩ : ∃ s : Nat, s = z / 8 % 2 := ⟨_, rfl⟩
    have k7 : k < 8 := by omega
    have x15 : x < 16 := by omega
    have s1 : s < 2 := by omega
    rw [← es] at h8a h8b
    rw [e1, e2, nb_b2, nb_b2, if_pos y4l, nb_let, nb_let, hd_7 z1, hd_4 z1, ← ek, ← ex]
    have goC : (if nI z &&& 8 = 0 then df_X3_readEntry_37 n T (Int64.ofNat S) (nI p) (nI k) (nI x) 0 (R, V1) else df_X3_readEntry_37 n T (Int64.ofNat S) (nI p) (nI k) (nI x) 1 (R, V1)) = df_X3_readEntry_37 n T (Int64.ofNat S) (nI p) (nI k) (nI x) (nI s) (R, V1) := by
      by_cases c : s = 0
      · rw [if_pos (h8a.mpr c), c]; rfl
      · rw [if_neg (fun y => c (h8a.mp y)), show s = 1 by omega]; rfl
    have five : nI k = (5 : Int32) ↔ k = 5 := by show nI k = nI 5 ↔ _; rw [nI_eq (by omega) (by omega)]
    rw [goC]
    unfold df_X3_readEntry_37
    by_cases ok : hdk k x s
    · rw [(hd_C n k7 x15 s1).1 ok, nb_b2, if_neg (show ¬ (1 : Int32) = 0 by decide)]
      unfold df_X3_readEntry_57
      dsimp only
      rw [if_pos w4']
      by_cases k5 : k = 5
      · rw [if_pos (five.mpr k5), if_pos (five.mpr k5), n_b1]
        have s0 : s = 0 := by unfold hdk at ok; omega
        obtain ⟨V', C', a, b, d⟩ := rd_run n hn (hd := p) g1 hS hmS (by omega) z1 ex
        refine ⟨V', C', a, ?_, d⟩
        unfold df_X14_readRun df_X14_readRun_0
        rw [if_pos (h8b.mpr s0)]
        exact b
      · have k5' : ¬ nI k = (5 : Int32) := fun y => k5 (five.mp y)
        rw [if_neg k5', if_neg k5', (hd_R n (s := s) z1 ek ex k5 (nI p) C1).1 ok]
        have kk : k < 5 ∧ (k = 1 → x ≤ 8) ∧ (k = 3 → x ≤ 1) ∧ (k = 4 → x = 0) := by unfold hdk at ok; omega
        unfold df_X14_readEntry_54
        rw [if_pos y4l, lt_RN n hn gE, nb_b2]
        -- behind the time
        have br : ∀ (V2 C2 : St) (p2 : Nat) (d : Int64), rdO T len m u p2 R V2 C2 → ltF (sR V2 0) 3 m 1 = ltF (sR V1 0) 3 m 1 → ∃ V' C' : St, df_X3_readEntry_113 n T (nI p) (nI k) (nI x) d (R, V2) = some (R, V') ∧ df_X14_readEntry_106 n (nI p) (nI k) (nI x) (ltF (sR V1 0) 3 m 1) d C2 = some C' ∧ ((∃ (m' p' : Nat) (u' : Int64), m < m' ∧ m' ≤ S ∧ rdO T len m' u' p' R V' C') ∨ rdX T len m u R V' C') := fun V2 C2 p2 d g q => by
          obtain ⟨V', C', a, b, e⟩ := rd_br n hn (hd := p) g (by omega) (by omega) kk.1 x15 kk.2.1 kk.2.2.1 kk.2.2.2 d
          rw [q] at b
          refine ⟨V', C', ?_, b, ?_⟩
          · unfold df_X3_readEntry_113 df_X3_readEntry_152 df_X3_readEntry_156
            dsimp only
            have gE2 := g.2.1
            rw [if_pos (show sI V2 4 = 0 from g.2.2.2.2.1), gE2.2.1]
            have uu := gE2.1.2
            have m8 := gE2.1.1
            by_cases m0 : m = 0
            · rw [if_pos m0] at uu
              rw [if_pos (show nI m = (0 : Int32) by rw [m0]; rfl), n_b1]
              rw [uu] at a
              exact a
            · rw [if_neg m0] at uu
              rw [if_neg (show ¬ nI m = (0 : Int32) from fun y => by have y : nI m = nI 0 := y; rw [nI_eq (by omega) (by omega)] at y; exact m0 y), show nI m - 1 = nI (m - 1) from pk_sub (show 1 ≤ m by omega), nm_ck (by omega) (by omega), nI_clamp (by omega), n_b1, ← uu]
              exact a
          · rcases e with ⟨m', p', u', q1, q2, q3⟩ | e
            · exact Or.inl ⟨m', p', u', q1, by omega, q3⟩
            · exact Or.inr e
        have brx : ∀ (V2 C2 : St) (d d' : Int64), rdX T len m u R V2 C2 → ∃ V' C' : St, df_X3_readEntry_113 n T (nI p) (nI k) (nI x) d (R, V2) = some (R, V') ∧ df_X14_readEntry_106 n (nI p) (nI k) (nI x) (ltF (sR V1 0) 3 m 1) d' C2 = some C' ∧ ((∃ (m' p' : Nat) (u' : Int64), m < m' ∧ m' ≤ S ∧ rdO T len m' u' p' R V' C') ∨ rdX T len m u R V' C') := fun V2 C2 d d' g => by
          refine ⟨V2, C2, ?_, ?_, Or.inr g⟩
          · unfold df_X3_readEntry_113 df_X3_readEntry_156
            rw [if_neg (rdX_4 g).1]
          · have e130 : df_X14_readEntry_130 n (nI p) (nI k) (nI x) (ltF (sR V1 0) 3 m 1) d' C2 = some C2 := by
              unfold df_X14_readEntry_130
              rw [if_neg (rdX_4 g).2.2]
            unfold df_X14_readEntry_106
            rw [me_x n g, nb_b1, e130]
            by_cases a : nI k = (3 : Int32)
            · rw [if_pos a]
              by_cases b : nI x = (1 : Int32)
              · rw [if_pos b]
                by_cases c : (0 : Int32) ≤ ltF (sR V1 0) 3 m 1
                · rw [if_pos c]
                · rw [if_neg c]
              · rw [if_neg b]
            · rw [if_neg a]
        by_cases c : s = 0
        · rw [if_pos (show nI s = (0 : Int32) by rw [c]; rfl), if_pos (h8a.mpr c)]
          rcases rd_vN n (by omega) g1 with ⟨v, p', V2, C2, f1, f2, g2, w1, w2, wR⟩ | ⟨v, w, V2, C2, f1, f2, g2⟩
          · rw [f1, f2, nb_b2, nb_b2]
            refine br V2 C2 p' v g2 (ltF_c m 1 (fun i hi => ?_))
            rw [wR 0]
          · rw [f1, f2, nb_b2, nb_b2]
            exact brx V2 C2 v w g2
        · have c' : ¬ nI s = (0 : Int32) := fun y => by have y : nI s = nI 0 := y; rw [nI_eq (by omega) (by omega)] at y; exact c y
          rw [if_neg c', if_neg (fun y => c (h8a.mp y)), gE.2.1, gE.2.2.1]
          by_cases m0 : m = 0
          · rw [if_pos (show nI m = (0 : Int32) by rw [m0]; rfl), if_pos (show nI m = (0 : Int32) by rw [m0]; rfl)]
            exact br V1 C1 (p + 1) 0 g1 rfl
          · have m8 := gE.1.1
            have m0' : ¬ nI m = (0 : Int32) := fun y => by have y : nI m = nI 0 := y; rw [nI_eq (by omega) (by omega)] at y; exact m0 y
            have df := rd_df n gE (show 1 ≤ m by omega)
            rw [gE.2.1] at df
            rw [if_neg m0', if_neg m0', df, nb_b2, nb_let, show nI m - 1 = nI (m - 1) from pk_sub (show 1 ≤ m by omega), nm_ck (by omega) (by omega), nI_clamp (by omega)]
            exact br V1 C1 (p + 1) _ g1 rfl
    · have X := rd_fl gS gE (f := 1) (pl := p) (by omega) (by omega) (by omega)
      rw [(hd_C n k7 x15 s1).2 ok, nb_b2, if_pos rfl]
      dsimp only
      rw [bl_o n w4, nb_b1, nb_let]
      refine ⟨_, _, ?_, ?_, Or.inr X⟩
      · unfold df_X3_readEntry_57
        have x4 : ¬ sI (pI (pI V1 4 1) 5 (nI p)) 4 = 0 := (rdX_4 X).1
        rw [if_neg x4]
        rfl
      · by_cases k5 : k = 5
        · rw [if_pos (five.mpr k5)]
          have s0 : ¬ s = 0 := by unfold hdk at ok; omega
          unfold df_X14_readRun df_X14_readRun_0
          rw [if_neg (fun y => s0 (h8b.mp y)), me_o n y4, nb_b1]
          unfold df_X14_readRun_13 df_X14_readRun_26
          have x4 : ¬ sI (pI C1 4 (1 + 8 * nI p)) 4 ≤ 0 := (rdX_4 X).2.2
          have mx : df_X14_meet n 4 (nI p) (pI C1 4 (1 + 8 * nI p)) = some (pI C1 4 (1 + 8 * nI p)) := me_x n X 4 (nI p)
          rw [mx, nb_b1, if_neg x4]
          by_cases c : sI (pI C1 4 (1 + 8 * nI p)) 0 = 0
          · rw [if_pos c]; rfl
          · rw [if_neg c]; rfl
        · rw [if_neg (fun y => k5 (five.mp y)), (hd_R n (s := s) z1 ek ex k5 (nI p) C1).2 ok]
          unfold df_X14_readEntry_48 df_X14_readEntry_54
          have x4 : ¬ sI (pI C1 4 (1 + 8 * nI p)) 4 ≤ 0 := (rdX_4 X).2.2
          rw [me_o n y4, nb_b1, if_neg x4]
          rfl
  · rw [e1, e2, nb_b2, nb_b2, if_neg (rdX_4 g1).2.2]
    refine ⟨V1, C1, ?_, rfl, Or.inr g1⟩
    rw [nb_let, nb_let, hd_7 (by omega), hd_4 (by omega), if_pos (show nI 0 &&& 8 = (0 : Int32) by decide)]
    unfold df_X3_readEntry_37
    have i0 : df_X3_isHead n (nI (0 % 8)) (nI (0 / 16)) 0 () = some (1, ()) := rfl
    rw [i0, nb_b2, if_neg (show ¬ (1 : Int32) = 0 by decide)]
    unfold df_X3_readEntry_57
    rw [if_neg (rdX_4 g1).1]

theorem m1_lt {f : Nat} (h : f < 2 ^ 29) : -1 - nI f < (0 : Int32) := by
  have e : -1 - nI f = nI 0 - nI (f + 1) := by
    rw [← nI_add f 1]
    apply Int32.toBitVec_inj.mp
    show (-1#32) - (nI f).toBitVec = 0#32 - ((nI f).toBitVec + 1#32)
    generalize (nI f).toBitVec = b
    bv_omega
  rw [e]
  exact pk_sneg (a := 0) (b := f + 1) (by omega) (by omega)
/-- what reading a log answers, in both -/
def rdA (R V C : St) (r f : Int32) : Prop := (∃ (m : Nat) (u : Int64), r = nI m ∧ f = nI 0 ∧ rdE m u V C ∧ sI V 0 = nI 0) ∨ ∃ fc : Nat, 1 ≤ fc ∧ fc < 2 ^ 29 ∧ f = nI fc ∧ r = -1 - nI fc
theorem rd_ex (n : Nat) {T len m : Nat} {u : Int64} {R V C : St} (h : rdX T len m u R V C) : ∃ r f : Int32, df_X3_readLog_87 n T (R, V) = some (r, (R, V)) ∧ df_X14_read_117 n C = some (f, C) ∧ rdA R V C r f := by
  obtain ⟨_, _, fc, pl, f1, f7, p1, a, b, c⟩ := id h
  refine ⟨-1 - nI (fc + 8 * pl), nI (fc + 8 * pl), ?_, ?_, Or.inr ⟨fc + 8 * pl, by omega, by omega, rfl, rfl⟩⟩
  · have e108 : df_X3_readLog_108 n T (R, V) = some (-1 - nI (fc + 8 * pl), (R, V)) := by
      unfold df_X3_readLog_108 df_X3_readLog_136
      rw [if_neg (rdX_4 h).1]
      dsimp only
      rw [a, b, show (8 : Int32) * nI pl = nI (8 * pl) from pk_mul .., show nI fc + nI (8 * pl) = nI (fc + 8 * pl) from nI_add ..]
    unfold df_X3_readLog_87
    dsimp only
    rw [bl_x n h, nb_b1, nb_let, e108]
    by_cases c : sI V 3 ≤ sI V 2
    · rw [if_pos c]
    · rw [if_neg c]
  · unfold df_X14_read_117 df_X14_read_145
    rw [if_neg (rdX_4 h).2.1, c]
theorem rd_eo (n : Nat) {T len m p : Nat} {u : Int64} {R V C : St} (h : rdO T len m u p R V C) : ∃ (r f : Int32) (V' C' : St), df_X3_readLog_87 n T (R, V) = some (r, (R, V')) ∧ df_X14_read_117 n C = some (f, C') ∧ rdA R V' C' r f := by
  obtain ⟨hS, hE, hp, v2, v4, c3, c4⟩ := id h
  have len8 := hS.1
  by_cases c : p < len
  · have X := rd_fl hS hE (f := 7) (pl := p) (by omega) (by omega) (by omega)
    obtain ⟨r, f, e1, e2, e3⟩ := rd_ex n X
    refine ⟨r, f, pI (pI V 4 (nI 7)) 5 (nI p), pI C 4 (nI 7 + 8 * nI p), ?_, ?_, e3⟩
    · unfold df_X3_readLog_87 at e1 ⊢
      dsimp only at e1 ⊢
      have nl : ¬ sI V 3 ≤ sI V 2 := fun z => by rw [hS.2.2.1, v2, nI_leI (by omega) (by omega)] at z; omega
      rw [if_neg nl, v2, bl_o n v4, nb_b1, nb_let]
      have nl' : ¬ sI (pI (pI V 4 (nI 7)) 5 (nI p)) 3 ≤ sI (pI (pI V 4 (nI 7)) 5 (nI p)) 2 := nl
      rw [if_neg nl', bl_x n X, nb_b1, nb_let] at e1
      exact e1
    · unfold df_X14_read_117 at e2 ⊢
      rw [if_neg (rdX_4 X).2.1] at e2
      have nl : ¬ sI C 2 ≤ sI C 3 := fun z => by rw [hS.2.2.2.2.2.1, c3, nI_leI (by omega) (by omega)] at z; omega
      rw [if_pos (show sI C 4 = 0 from c4), if_neg nl, c3, me_o n c4, nb_b1]
      exact e2
  · refine ⟨nI m, nI 0, V, C, ?_, ?_, Or.inl ⟨m, u, rfl, rfl, hE, hS.2.2.2.1⟩⟩
    · unfold df_X3_readLog_87 df_X3_readLog_108 df_X3_readLog_136
      dsimp only
      rw [if_pos (show sI V 3 ≤ sI V 2 by rw [hS.2.2.1, v2, nI_leI (by omega) (by omega)]; omega), if_pos (show sI V 4 = 0 from v4), hE.2.1]
    · unfold df_X14_read_117 df_X14_read_145
      rw [if_pos (show sI C 4 = 0 from c4), if_pos (show sI C 2 ≤ sI C 3 by rw [hS.2.2.2.2.2.1, c3, nI_leI (by omega) (by omega)]; omega), c4]
/-- all entries, in both -/
theorem rd_lp (n : Nat) (hn : 70000 < n) {T len S : Nat} {R : St} (hS : S ≤ 2048) : ∀ (k g g' m p left : Nat) (u : Int64) (V C : St), S - m ≤ k → k + 1 < g → k + 1 < g' → S - m ≤ left → left ≤ 2048 → m ≤ S → rdO T len m u p R V C → ∃ (r f : Int32) (V' C' : St), df_X3_readLog_54 n T g (Int64.ofNat S) (nI left) (R, V) = some (r, (R, V')) ∧ df_X14_read_45 n g' (Int64.ofNat S) C = some (f, C') ∧ rdA R V' C' r f := fun k => by
  induction k with
  | zero =>
    intro g g' m p left u V C hk hg hg' hl hl2 hm h
    obtain ⟨g1, rfl⟩ : ∃ g1 : Nat, g = g1 + 1 := ⟨g - 1, by omega⟩
    obtain ⟨g2, rfl⟩ : ∃ g2 : Nat, g' = g2 + 1 := ⟨g' - 1, by omega⟩
    have hE := h.2.1
    have en : (0 : Int32) ≤ lg_cmp (nI m).toInt64 (Int64.ofNat S) := (lcB _ _).mpr (by rw [nI_64 (by omega), lT (by omega), lT (by omega)]; omega)
    obtain ⟨r, f, V', C', e1, e2, e3⟩ := rd_eo n h
    refine ⟨r, f, V', C', ?_, ?_, e3⟩
    · show dF_X3_readLog_54 n T (df_X3_readLog_54 n T g1) (Int64.ofNat S) (nI left) (R, V) = _
      unfold dF_X3_readLog_54
      dsimp only
      rw [if_pos (show sI V 4 = 0 from h.2.2.2.2.1), hE.2.1, if_pos en, e1]
      by_cases c : nI left ≤ (0 : Int32)
      · rw [if_pos c]
      · rw [if_neg c]
    · show dF_X14_read_45 n (df_X14_read_45 n g2) (Int64.ofNat S) C = _
      unfold dF_X14_read_45
      rw [if_pos (show sI C 4 = 0 from h.2.2.2.2.2.2), hE.2.2.1, if_pos en]
      exact e2
  | succ k ih =>
    intro g g' m p left u V C hk hg hg' hl hl2 hm h
    obtain ⟨g1, rfl⟩ : ∃ g1 : Nat, g = g1 + 1 := ⟨g - 1, by omega⟩
    obtain ⟨g2, rfl⟩ : ∃ g2 : Nat, g' = g2 + 1 := ⟨g' - 1, by omega⟩
    have hE := h.2.1
    by_cases mS : m = S
    · exact ih (g1 + 1) (g2 + 1) m p left u V C (by omega) (by omega) (by omega) hl hl2 hm h
    · have nen : ¬ (0 : Int32) ≤ lg_cmp (nI m).toInt64 (Int64.ofNat S) := fun z => by have z := (lcB _ _).mp z; rw [nI_64 (by omega), lT (by omega), lT (by omega)] at z; omega
      obtain ⟨V1, C1, a, b, d⟩ := rd_en n (by omega) h hS (show m < S by omega)
      have tC : df_X3_readLog_54 n T (g1 + 1) (Int64.ofNat S) (nI left) (R, V) = df_X3_readLog_54 n T g1 (Int64.ofNat S) (nI (left - 1)) (R, V1) := by
        show dF_X3_readLog_54 n T (df_X3_readLog_54 n T g1) (Int64.ofNat S) (nI left) (R, V) = _
        generalize df_X3_readLog_54 n T g1 = G
        unfold dF_X3_readLog_54
        dsimp only
        rw [if_neg (show ¬ nI left ≤ (0 : Int32) from fun z => by have z : nI left ≤ nI 0 := z; rw [nI_leI (by omega) (by omega)] at z; omega), if_pos (show sI V 4 = 0 from h.2.2.2.2.1), hE.2.1, if_neg nen, a, nb_b1, nb_let, dn_1, show nI left - nI 1 = nI (left - 1) from pk_sub (by omega)]
      have tR : df_X14_read_45 n (g2 + 1) (Int64.ofNat S) C = df_X14_read_45 n g2 (Int64.ofNat S) C1 := by
        show dF_X14_read_45 n (df_X14_read_45 n g2) (Int64.ofNat S) C = _
        generalize df_X14_read_45 n g2 = G
        unfold dF_X14_read_45 df_X14_read_114
        rw [if_pos (show sI C 4 = 0 from h.2.2.2.2.2.2), hE.2.2.1, if_neg nen, nb_let, h.2.2.2.2.2.1, show (Int64.ofNat S).toInt32 = nI S from t32 (by omega)]
        cases q : df_X14_next n C with
        | none => rw [q] at b; exact nomatch b
        | some w =>
          obtain ⟨q18, s19⟩ := w
          rw [q, nb_b2] at b
          rw [nb_b2]
          by_cases c1 : sI s19 4 ≤ 0
          · rw [if_pos c1] at b ⊢
            by_cases c2 : q18 &&& 7 = 5
            · rw [if_pos c2] at b ⊢
              rw [b, nb_b1]
            · rw [if_neg c2] at b ⊢
              rw [b, nb_b1]
          · rw [if_neg c1] at b ⊢
            injection b with b
            rw [b]
      rw [tC, tR]
      rcases d with ⟨m', p', u', d1, d2, d3⟩ | d
      · exact ih g1 g2 m' p' (left - 1) u' V1 C1 (by omega) (by omega) (by omega) (by omega) (by omega) d2 d3
      · obtain ⟨r, f, e1, e2, e3⟩ := rd_ex n d
        obtain ⟨g3, rfl⟩ : ∃ g3 : Nat, g1 = g3 + 1 := ⟨g1 - 1, by omega⟩
        obtain ⟨g4, rfl⟩ : ∃ g4 : Nat, g2 = g4 + 1 := ⟨g2 - 1, by omega⟩
        refine ⟨r, f, V1, C1, ?_, ?_, e3⟩
        · show dF_X3_readLog_54 n T (df_X3_readLog_54 n T g3) _ _ (R, V1) = _
          unfold dF_X3_readLog_54
          rw [if_neg (rdX_4 d).1, e1]
          by_cases c : nI (left - 1) ≤ (0 : Int32)
          · rw [if_pos c]
          · rw [if_neg c]
        · show dF_X14_read_45 n (df_X14_read_45 n g4) _ C1 = _
          unfold dF_X14_read_45
          rw [if_neg (rdX_4 d).2.1]
          exact e2
/-- a log is read, in both -/
theorem rd_all (n : Nat) (hn : 70000 < n) {T len : Nat} {R V C : St} (hl : len ≤ 32768) (ht : ∀ j : Nat, j < len → ∃ z : Nat, z < 256 ∧ sR C 3 j = nI z ∧ sR R 0 j &&& 255 = nI z) : ∃ (r f : Int32) (V' C' : St), df_X3_readLog n T (nI len) (R, V) = some (r, (R, V')) ∧ df_X14_read n (nI len) C = some (f, C') ∧ rdA R V' C' r f := by
  have O : rdO T len 0 0 0 R (pI (pI (pI (pI (pI (pO V 0 (some T)) 3 (nI len)) 2 0) 4 0) 0 0) 1 0) (pI (pI (pI (pI (pO C 0 (some 6)) 2 (nI len)) 0 0) 4 0) 3 0) := ⟨⟨hl, rfl, rfl, rfl, rfl, rfl, ht⟩, ⟨⟨by omega, rfl⟩, rfl, rfl, fun i hi => by omega⟩, by omega, rfl, rfl, rfl, rfl⟩
  have eC : df_X3_readLog n T (nI len) (R, V) = nd_b2 (df_X3_readVarint n T (R, pI (pI (pI (pI (pI (pO V 0 (some T)) 3 (nI len)) 2 0) 4 0) 0 0) 1 0)) (fun q9 s10 => if lg_cmp q9 2048 ≤ 0 then (df_X3_readLog_49 n T q9 s10) else (nd_b1 (df_X3_blame n 6 0 s10.2) (fun s27 => nd_let (s10.1, s27) (fun s29 => df_X3_readLog_49 n T q9 s29)))) := by
    unfold df_X3_readLog df_X3_readLog_0 df_X3_clear df_X3_clear_0
    rw [if_neg (show ¬ (32768 : Int32) < nI len from fun z => by have z : nI 32768 < nI len := z; rw [nI_ltI (by omega) (by omega)] at z; omega)]
    rfl
  have eR : df_X14_read n (nI len) C = nd_b2 (df_X14_readVarint n (pI (pI (pI (pI (pO C 0 (some 6)) 2 (nI len)) 0 0) 4 0) 3 0)) (fun q6 s7 => if lg_cmp q6 2048 ≤ 0 then (df_X14_read_45 n n q6 s7) else (nd_b1 (df_X14_meet n 6 0 s7) (fun s30 => df_X14_read_45 n n q6 s30))) := rfl
  rw [eC, eR]
  have xf : ∀ (V1 C1 : St) (v w : Int64), rdX T len 0 0 R V1 C1 → ∃ (r f : Int32) (V' C' : St), df_X3_readLog_49 n T v (R, V1) = some (r, (R, V')) ∧ df_X14_read_45 n n w C1 = some (f, C') ∧ rdA R V' C' r f := fun V1 C1 v w d => by
    obtain ⟨r, f, e1, e2, e3⟩ := rd_ex n d
    obtain ⟨n', rfl⟩ : ∃ n' : Nat, n = n' + 1 := ⟨n - 1, by omega⟩
    refine ⟨r, f, V1, C1, ?_, ?_, e3⟩
    · show dF_X3_readLog_54 (n' + 1) T (df_X3_readLog_54 (n' + 1) T n') v 2048 (R, V1) = _
      unfold dF_X3_readLog_54
      rw [if_neg (show ¬ (2048 : Int32) ≤ 0 by decide), if_neg (rdX_4 d).1]
      exact e1
    · show dF_X14_read_45 (n' + 1) (df_X14_read_45 (n' + 1) n') w C1 = _
      unfold dF_X14_read_45
      rw [if_neg (rdX_4 d).2.1]
      exact e2
  rcases rd_vN n (by omega) O with ⟨v, p', V1, C1, e1, e2, g1, w1, w2, _⟩ | ⟨v, w, V1, C1, e1, e2, g1⟩
  · rw [e1, e2, nb_b2, nb_b2]
    have ev : v = Int64.ofNat v.toInt.toNat := by
      apply Int64.toInt_inj.mp
      rw [lT (by omega)]
      omega
    have t48 : (2048 : Int64).toInt = 2048 := by decide
    by_cases c : v.toInt ≤ 2048
    · have l : lg_cmp v 2048 ≤ (0 : Int32) := (lcD _ _).mpr (by rw [t48]; exact c)
      rw [if_pos l, if_pos l]
      have lp := rd_lp n hn (S := v.toInt.toNat) (by omega) 2048 n n 0 p' 2048 0 V1 C1 (by omega) (by omega) (by omega) (by omega) (by omega) (by omega) g1
      rw [← ev] at lp
      exact lp
    · have l : ¬ lg_cmp v 2048 ≤ (0 : Int32) := fun z => c (by have z := (lcD _ _).mp z; rw [t48] at z; exact z)
      have X := rd_fl g1.1 g1.2.1 (f := 6) (pl := 0) (by omega) (by omega) (by omega)
      rw [if_neg l, if_neg l]
      dsimp only
      rw [bl_o n g1.2.2.2.2.1, me_o n g1.2.2.2.2.2.2, nb_b1, nb_b1, nb_let]
      exact xf _ _ v v X
  · rw [e1, e2, nb_b2, nb_b2]
    obtain ⟨r, f, V', C', y1, y2, y3⟩ := xf V1 C1 v w g1
    refine ⟨r, f, V', C', ?_, ?_, y3⟩
    · dsimp only
      rw [bl_x n g1, nb_b1, nb_let, y1]
      by_cases c : lg_cmp v 2048 ≤ (0 : Int32)
      · rw [if_pos c]
      · rw [if_neg c]
    · rw [me_x n g1, nb_b1, y2]
      by_cases c : lg_cmp w 2048 ≤ (0 : Int32)
      · rw [if_pos c]
      · rw [if_neg c]

/-- the reference takes what was read as what is scheduled -/
theorem rp_l (n : Nat) (hn : 70000 < n) {m : Nat} {u : Int64} {V : St} {τ : S19} (hE : rdE m u V τ.2.2.2.1) (h9 : sI τ.1 9 = nI m) : ∃ T1 : St, df_X19_replay_103 n n 0 0 τ = nd_b2 (df_X19_takeScheduled n (T1, τ.2)) (fun q27 s28 => if q27 = 0 then (df_X19_replay_209 n (nI m) 1 s28) else (df_X19_replay_209 n (nI m) 0 s28)) ∧ (∀ i : Nat, i < m → sR T1 8 i = sR V 0 i ∧ sR T1 9 i = sR V 1 i ∧ sQ T1 1 i = sQ V 1 i ∧ sQ T1 2 i = sQ V 0 i) ∧ (∀ j : Nat, sI T1 j = sI τ.1 j) ∧ (∀ j : Nat, ¬ j = 8 → ¬ j = 9 → sR T1 j = sR τ.1 j) ∧ sQ T1 0 = sQ τ.1 0 ∧ ∀ j : Nat, sO T1 j = sO τ.1 j := by
  have m8 := hE.1.1
  obtain ⟨k', T1, ⟨i1, i2, i3, i4, i5⟩, e⟩ := nm_l1 (S := St) (fun g k T1 => df_X19_replay_103 n g (if k = 0 then 0 else sQ V 0 (k - 1)) (nI k) (T1, τ.2)) (fun k T1 => (∀ i : Nat, i < k → sR T1 8 i = sR V 0 i ∧ sR T1 9 i = sR V 1 i ∧ sQ T1 1 i = sQ V 1 i ∧ sQ T1 2 i = sQ V 0 i) ∧ (∀ j : Nat, sI T1 j = sI τ.1 j) ∧ (∀ j : Nat, ¬ j = 8 → ¬ j = 9 → sR T1 j = sR τ.1 j) ∧ sQ T1 0 = sQ τ.1 0 ∧ ∀ j : Nat, sO T1 j = sO τ.1 j) m n (by omega) (fun k g T1 hk ⟨i1, i2, i3, i4, i5⟩ => by
    obtain ⟨_, f2, f3, f4, f5⟩ := hE.2.2.2 k hk
    have u1 : k < 2 ^ 31 := by omega
    have v1 : k < 2048 := by omega
    refine ⟨pR (pQ (pR (pQ T1 2 (vp_updL (sQ T1 2) k (sQ V 0 k))) 8 (upd (sR T1 8) k (sR V 0 k))) 1 (vp_updL (sQ T1 1) k (sQ V 1 k))) 9 (upd (sR T1 9) k (sR V 1 k)), ⟨fun i hi => ?_, fun j => i2 j, fun j j8 j9 => ?_, i4, fun j => i5 j⟩, ?_⟩
    · show upd (sR T1 8) k (sR V 0 k) i = _ ∧ upd (sR T1 9) k (sR V 1 k) i = _ ∧ vp_updL (sQ T1 1) k (sQ V 1 k) i = _ ∧ vp_updL (sQ T1 2) k (sQ V 0 k) i = _
      by_cases y : i = k
      · subst y
        exact ⟨nm_us, nm_us, ul_s, ul_s⟩
      · obtain ⟨a, b, c, d⟩ := i1 i (by omega)
        exact ⟨(nm_un y).trans a, (nm_un y).trans b, (up_o y).trans c, (up_o y).trans d⟩
    · show sR (pR (pQ (pR (pQ T1 2 _) 8 _) 1 _) 9 _) j = _
      rw [nb_RR, if_neg j9, nm_RQ, nb_RR, if_neg j8, nm_RQ]
      exact i3 j j8 j9
    · show dF_X19_replay_103 n (df_X19_replay_103 n g) _ (nI k) (T1, τ.2) = df_X19_replay_103 n g (if k + 1 = 0 then 0 else sQ V 0 (k + 1 - 1)) (nI (k + 1)) _
      generalize df_X19_replay_103 n g = G
      unfold dF_X19_replay_103
      dsimp only
      rw [if_neg (show ¬ k + 1 = 0 by omega), show k + 1 - 1 = k by omega, i2 9, h9, if_neg (show ¬ nI m ≤ nI k from fun z => by rw [nI_leI (by omega) (by omega)] at z; omega), nm_ck v1 u1, nb_let, nm_ck v1 u1, nI_clamp u1, ← f5, nb_let, nm_ck v1 u1, nm_ck v1 u1, nb_let, nm_ck v1 u1, nm_ck v1 u1, nb_let, nm_ck v1 u1, nm_ck v1 u1, nb_let, nb_let, show nI k + Int32.ofInt 1 = nI (k + 1) from nI_add ..]
      dsimp only
      rw [f2, f3, f4]
      rfl) τ.1 ⟨fun i hi => by omega, fun _ => rfl, fun _ _ _ => rfl, rfl, fun _ => rfl⟩
  refine ⟨T1, ?_, i1, i2, i3, i4, i5⟩
  have e : df_X19_replay_103 n n 0 (nI 0) (τ.1, τ.2) = df_X19_replay_103 n (k' + 1) (if m = 0 then 0 else sQ V 0 (m - 1)) (nI m) (T1, τ.2) := e
  refine Eq.trans e ?_
  show dF_X19_replay_103 n (df_X19_replay_103 n k') _ (nI m) (T1, τ.2) = _
  unfold dF_X19_replay_103
  dsimp only
  rw [i2 9, h9, if_pos (show nI m ≤ nI m by rw [nI_leI (by omega) (by omega)]; exact Nat.le_refl m), nb_let]
/-- both start with what was read -/
theorem jm_with (n : Nat) (hn : 70000 < n) {t : S11} {τ : S19} {V : St} {A m : Nat} {u : Int64} (hA : A < 4) (hs : sp2 t) (hV : eA t V) (hV0 : sI V 0 = nI 0) (hE : rdE m u V τ.2.2.2.1) (oy : okY t.2.2.1.2.2.2) (o34 : sO t.2.2.1.1 0 = some 34) {ix : Nat → Nat} (hix : ∀ i : Nat, i < 8 → t.2.1 3 i = some (ix i) ∧ ix i < 8) (hin : ∀ i j : Nat, i < 8 → j < 8 → ix i = ix j → i = j) (hp : rpP (t.2.1 1) t.2.2.2.2.2.1 τ.1 (sR τ.2.1 9)) (hj : ∃ j : Nat, t.2.1 1 A = some j) : ∃ (t' : S11) (τ' : S19), nd_b1 (df_X11_start n (nI A) t) (fun s => nd_b1 (df_X11_takeScheduled n s) (fun s9 => some s9)) = some t' ∧ nd_b1 (df_X19_begin n (nI A) τ) (fun s22 => nd_let (pI s22.1 9 (sI s22.2.2.2.1 0), s22.2) (fun s24 => df_X19_replay_103 n n 0 0 s24)) = some (nI m, τ') ∧ jA n t' τ' ∧ sI τ'.1 0 = sI τ.1 0 ∧ kB t t' ∧ kQ τ τ' := by
  obtain ⟨Q, t1, τ1, q1, q2, q3, q4, q5, q6, q7, q8, q9, qa, qb, qc, qd, qe, qf, qg, qh⟩ := jm_start n hn (Tt := m) hA hV hV0 hE.2.1 hE.1.1 (fun i hi => (hE.2.2.2 i hi).1) oy o34 hix hin hp hj
  have c1 : τ1.2.2.2.1 = τ.2.2.2.1 := congrArg Prod.fst qh.2.2.2.2.2
  have hE1 : rdE m u V (pI τ1.1 9 (nI m), τ1.2).2.2.2.1 := by
    show rdE m u V τ1.2.2.2.1
    rw [c1]; exact hE
  obtain ⟨T1, r1, r2, r3, r4, r5, r6⟩ := rp_l n hn (τ := (pI τ1.1 9 (nI m), τ1.2)) hE1 rfl
  have r3' : ∀ j : Nat, ¬ j = 9 → sI T1 j = sI τ1.1 j := fun j hj => by
    rw [r3 j]
    show sI (pI τ1.1 9 (nI m)) j = _
    rw [nb_II, if_neg hj]
  have evt : ∀ i : Nat, evT T1 i = evT τ1.1 i := fun i => by
    unfold evT
    rw [r4 5 (by omega) (by omega), r4 6 (by omega) (by omega), r5]
    rfl
  have J : jJ n A Q V 0 m 0 (fun _ => 0) t1 (T1, τ1.2) := by
    obtain ⟨l1, l2, l3, l4, l5, l6⟩ := q4
    refine ⟨q3, ⟨(r3' 8 (by omega)).trans l1, l2, l3, fun i c hc a b => absurd (show i < 0 from b) (by omega), fun i hi => by omega, l6⟩, fun i hi => by omega, (r3' 4 (by omega)).trans q6.1, (r3' 6 (by omega)).trans q6.2.2, (r3' 10 (by omega)).trans q8, q7, q9, ⟨?_, fun i hi => ?_⟩⟩
    · rw [r3 9]
      show nI m = nI (m - 0)
      rw [Nat.sub_zero]
    · rw [Nat.zero_add]
      exact r2 i (by omega)
  obtain ⟨al, V', N', T', lo', t', τ', b1, b2, b3, b4, b5, b6, b7⟩ := sc_all n (by omega) m V 0 m (fun _ => 0) t1 (T1, τ1.2) n n (by omega) (by omega) (by have := hE.1.1; omega) (by have := hE.1.1; omega) J
  have b1 : df_X11_takeScheduled n t1 = some t' := b1
  have b2 : df_X19_takeScheduled n (T1, τ1.2) = some (al, τ') := b2
  obtain ⟨z0, z7, zO, zW, zP⟩ := b5
  obtain ⟨f1, f2, f3, f4, f5, f6⟩ := b6
  have f1 : ∀ j : Nat, ¬ j = 8 → ¬ j = 9 → ¬ j = 10 → sI τ'.1 j = sI T1 j := f1
  have p1 : t'.2.2.2.2.2.1 = t1.2.2.2.2.2.1 := congrArg Prod.fst zP
  have p2 : t'.2.2.2.2.2.2.1 = t1.2.2.2.2.2.2.1 := congrArg (fun p => p.2.1) zP
  obtain ⟨y1, y2, y3, y4, y5, y6, y7, y8, y9⟩ := id b3
  obtain ⟨x, hx1, hx2, hx3⟩ : ∃ x : Int32, df_X19_replay_103 n n 0 0 (pI τ1.1 9 (nI m), τ1.2) = some (nI m, (pI τ'.1 11 x, τ'.2)) ∧ sI t'.1 6 = x ∧ okB x := by
    rw [r1]
    show ∃ x : Int32, nd_b2 (df_X19_takeScheduled n (T1, τ1.2)) _ = _ ∧ _
    rw [b2, nb_b2]
    unfold df_X19_replay_209
    rcases b4 with ⟨u1, u2⟩ | ⟨u1, u2⟩
    · refine ⟨nI 0, ?_, u2.trans qb.1, Or.inl rfl⟩
      rw [if_neg (show ¬ al = 0 by rw [u1]; decide)]
      show nd_f .boolean (nI 0) (nd_z .boolean (nI 0) _) = _
      rw [nm_f0, nm_z0, nb_let]
      rfl
    · refine ⟨nI 1, ?_, u2, Or.inr rfl⟩
      rw [if_pos (show al = 0 from u1)]
      show nd_f .boolean (nI 1) (nd_z .boolean (nI 1) _) = _
      rw [nm_f1, nm_z1, nb_let]
      rfl
  have g11 : ∀ j : Nat, ¬ j = 11 → sI (pI τ'.1 11 x) j = sI τ'.1 j := fun j hj => by rw [nb_II, if_neg hj]
  refine ⟨t', (pI τ'.1 11 x, τ'.2), ?_, ?_, ⟨?_, Or.inr ⟨z0.trans qc, ?_, A, Q, V', N', T', 0, 0, 0, lo', y1, y2, y3, q5, ⟨(g11 4 (by omega)).trans y4, ?_, (g11 6 (by omega)).trans y5⟩, Nat.le_refl 0, y7, ?_, y8, ⟨y9.1, y9.2⟩, hx2, hx3⟩⟩, ?_, ⟨z7.trans qf.1, fun r a b => by rw [zW]; exact qf.2.1 r a b, p1.trans qf.2.2.1, p2.trans qf.2.2.2⟩, ⟨fun j hj => ?_, fun j hj => ?_, fun j => ?_, f4.trans qh.2.2.2.1, f5.trans qh.2.2.2.2.1, f6.trans qh.2.2.2.2.2⟩⟩
  · rw [q1, nb_b1, b1, nb_b1]
  · rw [q2, nb_b1, nb_let, c1, hE.2.2.1]
    exact hx1
  · unfold sp2
    rw [zO 0, zO 1, qg 0, qg 1]
    exact hs
  · exact (g11 3 (by omega)).trans ((f1 3 (by omega) (by omega) (by omega)).trans ((r3' 3 (by omega)).trans qd))
  · exact (g11 5 (by omega)).trans ((f1 5 (by omega) (by omega) (by omega)).trans ((r3' 5 (by omega)).trans q6.2.1))
  · refine (g11 10 (by omega)).trans (y6.trans ?_)
    rw [y2.2.2.1.2.2 (0 + 1) (by omega)]
  · exact (g11 0 (by omega)).trans ((f1 0 (by omega) (by omega) (by omega)).trans ((r3' 0 (by omega)).trans qe))
  · exact (g11 j (by omega)).trans ((f1 j (by omega) (by omega) (by omega)).trans ((r3' j (by omega)).trans (qh.1 j hj)))
  · show sR τ'.1 j = _
    rw [f2 j hj]
    show sR T1 j = _
    rw [r4 j (by omega) (by omega)]
    exact qh.2.1 j hj
  · show sO τ'.1 j = _
    rw [f3 j]
    show sO T1 j = _
    rw [r6 j]
    exact qh.2.2.1 j

theorem tl_pl' {σ : S12} {t' : S11} (h : ∀ r : Nat, ¬ r = 3 → ¬ r = 0 → t'.2.1 r = σ.2.1 r) : tl (pl σ t') = t' := by
  have r : nd_mix 4 t'.2.1 σ.2.1 = t'.2.1 := by
    funext i
    by_cases c : i < 4
    · exact if_pos c
    · exact (if_neg c).trans (h i (by omega) (by omega)).symm
  show (t'.1, nd_mix 4 t'.2.1 σ.2.1, t'.2.2.1, t'.2.2.2.1, t'.2.2.2.2.1, t'.2.2.2.2.2.1, t'.2.2.2.2.2.2.1, t'.2.2.2.2.2.2.2) = t'
  rw [r]
/-- the class's replay, the spare events being one or the other -/
theorem rc_27 (n T L : Nat) {σ : S12} {A j len : Nat} {r : Int32} {V' : St} (hA : A < 4) (x : σ.2.1 1 A = some j) (o : sO σ.2.2.2.2.1 1 = some 27) (tp : sI σ.1 0 = nI len) (rl : df_X3_readLog n T (nI len) (pR nd_st0 0 (sR σ.2.2.2.1.2 7), σ.2.2.2.2.2.2.1) = some (r, (pR nd_st0 0 (sR σ.2.2.2.1.2 7), V'))) : df_X12_replay n T L (nI A) σ = if r < 0 then some (Sum.inl (r, (pI (pI σ.1 0 0) 1 0, (σ.2.1, (σ.2.2.1, (σ.2.2.2.1, (σ.2.2.2.2.1, (σ.2.2.2.2.2.1, (V', σ.2.2.2.2.2.2.2))))))))) else nd_b1 (df_X11_startWith n (nI A) (tl (pI (pI σ.1 0 0) 1 0, (σ.2.1, (σ.2.2.1, (σ.2.2.2.1, (σ.2.2.2.2.1, (σ.2.2.2.2.2.1, (V', σ.2.2.2.2.2.2.2))))))))) (fun s15 => some (Sum.inl (r, pl (pI (pI σ.1 0 0) 1 0, (σ.2.1, (σ.2.2.1, (σ.2.2.2.1, (σ.2.2.2.2.1, (σ.2.2.2.2.2.1, (V', σ.2.2.2.2.2.2.2))))))) s15))) := by
  have lt0 : ¬ nI A < (0 : Int32) := fun z => by rw [lz_0 (by omega)] at z; omega
  have lt4 : nI A < (4 : Int32) := (show nI A < nI 4 by rw [nI_ltI (by omega) (by omega)]; omega)
  have ut : df_X12_useTape n T L σ = some (nI len, (pI (pI σ.1 0 0) 1 0, σ.2)) := by rw [← tp]; rfl
  unfold df_X12_replay df_X12_replay_0 df_X12_replay_69
  rw [if_neg lt0, if_pos lt4, nm_ck (by omega) (by omega), nI_clamp (by omega), x, nb_mS, if_pos o, ut, nb_b2]
  dsimp only
  rw [rl, nb_b2, nb_let]
  dsimp only
  rw [show sR (pR nd_st0 0 (sR σ.2.2.2.1.2 7)) 0 = sR σ.2.2.2.1.2 7 from rfl, nm_r0]
  rfl
theorem rc_32 (n T L : Nat) {σ : S12} {A j len : Nat} {r : Int32} {V' : St} (hA : A < 4) (x : σ.2.1 1 A = some j) (o : sO σ.2.2.2.2.1 1 = some 32) (tp : sI σ.1 0 = nI len) (rl : df_X3_readLog n T (nI len) (pR nd_st0 0 (sR σ.2.2.2.1.2 7), σ.2.2.2.2.2.2.2.1) = some (r, (pR nd_st0 0 (sR σ.2.2.2.1.2 7), V'))) : df_X12_replay n T L (nI A) σ = if r < 0 then some (Sum.inl (r, (pI (pI σ.1 0 0) 1 0, (σ.2.1, (σ.2.2.1, (σ.2.2.2.1, (σ.2.2.2.2.1, (σ.2.2.2.2.2.1, (σ.2.2.2.2.2.2.1, (V', σ.2.2.2.2.2.2.2.2)))))))))) else nd_b1 (df_X11_startWith n (nI A) (tl (pI (pI σ.1 0 0) 1 0, (σ.2.1, (σ.2.2.1, (σ.2.2.2.1, (σ.2.2.2.2.1, (σ.2.2.2.2.2.1, (σ.2.2.2.2.2.2.1, (V', σ.2.2.2.2.2.2.2.2)))))))))) (fun s15 => some (Sum.inl (r, pl (pI (pI σ.1 0 0) 1 0, (σ.2.1, (σ.2.2.1, (σ.2.2.2.1, (σ.2.2.2.2.1, (σ.2.2.2.2.2.1, (σ.2.2.2.2.2.2.1, (V', σ.2.2.2.2.2.2.2.2)))))))) s15))) := by
  have lt0 : ¬ nI A < (0 : Int32) := fun z => by rw [lz_0 (by omega)] at z; omega
  have lt4 : nI A < (4 : Int32) := (show nI A < nI 4 by rw [nI_ltI (by omega) (by omega)]; omega)
  have ut : df_X12_useTape n T L σ = some (nI len, (pI (pI σ.1 0 0) 1 0, σ.2)) := by rw [← tp]; rfl
  unfold df_X12_replay df_X12_replay_0 df_X12_replay_69
  rw [if_neg lt0, if_pos lt4, nm_ck (by omega) (by omega), nI_clamp (by omega), x, nb_mS, if_neg (show ¬ sO σ.2.2.2.2.1 1 = some 27 by rw [o]; decide), if_pos o, ut, nb_b2]
  dsimp only
  rw [rl, nb_b2, nb_let]
  dsimp only
  rw [show sR (pR nd_st0 0 (sR σ.2.2.2.1.2 7)) 0 = sR σ.2.2.2.1.2 7 from rfl, nm_r0]
  rfl
/-- replay -/
theorem jc_replay (n T L : Nat) (hn : 70000 < n) (v : Int32) (σ : S12) (τ : S19) (h : jA n (tl σ) τ) (hp : rpP (σ.2.1 1) σ.2.2.2.2.2.2.2.2.1 τ.1 (sR τ.2.1 9)) (ht : rt σ τ) : (df_X12_replay n T L v σ = some (Sum.inr ("java/lang/IllegalArgumentException", σ)) ∧ df_X19_replay n v τ = some (0, (pI τ.1 0 1, τ.2))) ∨ (df_X12_replay n T L v σ = some (Sum.inr ("java/lang/IllegalStateException", σ)) ∧ df_X19_replay n v τ = some (0, (pI τ.1 0 2, τ.2))) ∨ ∃ (r : Int32) (σ' : S12) (τ' : S19), df_X12_replay n T L v σ = some (Sum.inl (r, σ')) ∧ df_X19_replay n v τ = some (r, τ') ∧ sI τ'.1 0 = 0 ∧ jA n (tl σ') τ' ∧ (sI σ'.1 0 = 0 ∧ sI σ'.1 1 = 0 ∧ sI τ'.1 1 = 0 ∧ sI τ'.1 2 = 0) ∧ ((∀ k : Nat, ¬ k = 0 → ¬ k = 1 → sI σ'.1 k = sI σ.1 k) ∧ (∀ k : Nat, sO σ'.1 k = sO σ.1 k) ∧ (∀ r : Nat, ¬ r = 3 → ¬ r = 0 → σ'.2.1 r = σ.2.1 r) ∧ σ'.2.2.1 = σ.2.2.1 ∧ σ'.2.2.2.1 = σ.2.2.2.1 ∧ sI (tl σ').1 7 = sI (tl σ).1 7 ∧ (tl σ').2.2.2.2.2.1 = (tl σ).2.2.2.2.2.1 ∧ (tl σ').2.2.2.2.2.2.1 = (tl σ).2.2.2.2.2.2.1) ∧ ((∀ j : Nat, j = 7 ∨ j = 12 → sI τ'.1 j = sI τ.1 j) ∧ (∀ j : Nat, j < 5 ∨ 10 ≤ j → sR τ'.1 j = sR τ.1 j) ∧ (∀ j : Nat, sO τ'.1 j = sO τ.1 j) ∧ τ'.2.1 = τ.2.1 ∧ τ'.2.2.1.1 = τ.2.2.1.1 ∧ τ'.2.2.2.2 = τ.2.2.2.2) := by
  have n1 : ¬ nI 1 = (0 : Int32) := by decide
  obtain ⟨A, hA, rfl⟩ := nI_ex v
  have inE : df_X19_in n (nI A).toInt64 0 3 () = some (if A ≤ 3 then nI 1 else nI 0, ()) := in_b n (b := 3) hA (by omega) rfl
  by_cases d : A ≤ 3
  · have lt0 : ¬ nI A < (0 : Int32) := fun z => by rw [lz_0 hA] at z; omega
    have lt4 : nI A < (4 : Int32) := (show nI A < nI 4 by rw [nI_ltI (by omega) (by omega)]; omega)
    have a3 : nI A &&& 3 = nI A := (nm_m3 (by omega)).trans (by rw [Nat.mod_eq_of_lt (by omega)])
    cases x : σ.2.1 1 A with
    | none =>
      have e0 : sR τ.1 0 A = nI 0 := by
        rcases hp A (by omega) with ⟨a, b⟩ | ⟨j', a1, a2, _⟩
        · exact b
        · rw [a2] at x; exact nomatch x
      refine Or.inr (Or.inl ⟨?_, ?_⟩)
      · unfold df_X12_replay df_X12_replay_0
        rw [if_neg lt0, if_pos lt4, nm_ck (by omega) (by omega), nI_clamp (by omega), x, nb_mN]
      · unfold df_X19_replay df_X19_replay_0 df_X19_replay_18 df_X19_replay_46
        rw [inE, nb_b2, if_pos d, if_neg n1, nb_b2, if_neg n1, a3, nm_ck (by omega) (by omega), nI_clamp (by omega), e0, if_pos (show nI 0 = (0 : Int32) from rfl), nb_fails, nb_b2]
        rfl
    | some j =>
      have e0 : ¬ sR τ.1 0 A = (0 : Int32) := by
        rcases hp A (by omega) with ⟨a, b⟩ | ⟨j', a1, a2, a3, _⟩
        · rw [a] at x; exact nomatch x
        · rw [a3]; decide
      refine Or.inr (Or.inr ?_)
      obtain ⟨t1, t2, t3, t4, t5, t6⟩ := ht
      obtain ⟨len, l1, l2, l3⟩ := ix_nI (k := 32768) t3 t4
      have l3' : (sI σ.1 0).toInt = (len : Int) := l3
      have rdt : ∀ j : Nat, j < len → ∃ z : Nat, z < 256 ∧ sR τ.2.2.2.1 3 j = nI z ∧ sR (pR nd_st0 0 (sR σ.2.2.2.1.2 7)) 0 j &&& 255 = nI z := fun j hj => by
        obtain ⟨z, z1, z2⟩ := pk_andE (sR σ.2.2.2.1.2 7 j) (m := 255) 8 (by decide)
        exact ⟨z, by omega, (t6 j (by omega)).trans z2, z2⟩
      have eR : df_X19_replay n (nI A) τ = nd_b2 (df_X14_read n (nI len) τ.2.2.2.1) (fun q13 s14 => if q13 ≤ 0 then nd_b1 (df_X19_begin n (nI A) (pI (pI (pI τ.1 0 0) 1 0) 2 0, (τ.2.1, (τ.2.2.1, (s14, τ.2.2.2.2))))) (fun s22 => nd_let (pI s22.1 9 (sI s22.2.2.2.1 0), s22.2) (fun s24 => df_X19_replay_103 n n 0 0 s24)) else some (-1 - q13, (pI (pI (pI τ.1 0 0) 1 0) 2 0, (τ.2.1, (τ.2.2.1, (s14, τ.2.2.2.2)))))) := by
        unfold df_X19_replay df_X19_replay_0 df_X19_replay_18 df_X19_replay_45 df_X19_replay_46
        rw [inE, nb_b2, if_pos d, if_neg n1, nb_b2, if_neg n1, a3, nm_ck (by omega) (by omega), nI_clamp (by omega), if_neg e0, nb_fails, nb_b2, if_pos (show (0 : Int32) = 0 ∧ (0 : Int32) = 0 from ⟨rfl, rfl⟩), if_pos rfl, if_pos rfl, if_pos rfl]
        dsimp only
        rw [show sI (pI τ.1 0 0) 1 = nI len by show sI τ.1 1 = _; rw [← t1]; exact l2]
        rfl
      have U1 : ∀ C' : St, sU τ (pI (pI (pI τ.1 0 0) 1 0) 2 0, (τ.2.1, (τ.2.2.1, (C', τ.2.2.2.2)))) := fun C' => ⟨fun j j1 j2 => by
        show sI (pI (pI (pI τ.1 0 0) 1 0) 2 0) j = _
        rw [nb_II, if_neg (by omega), nb_II, if_neg (by omega), nb_II, if_neg (by omega)], fun _ _ _ => rfl, fun _ => rfl, rfl⟩
      have F1 : ∀ j : Nat, j = 7 ∨ j = 12 → sI (pI (pI (pI τ.1 0 0) 1 0) 2 0) j = sI τ.1 j := fun j hj => by rw [nb_II, if_neg (by omega), nb_II, if_neg (by omega), nb_II, if_neg (by omega)]
      have G1 : ∀ k : Nat, ¬ k = 0 → ¬ k = 1 → sI (pI (pI σ.1 0 0) 1 0) k = sI σ.1 k := fun k k0 k1 => by rw [nb_II, if_neg k1, nb_II, if_neg k0]
      obtain ⟨⟨V, hV⟩, oy, o34, ix, hix, hin⟩ := jA_b h
      obtain ⟨hs, _⟩ := id h
      rcases hs with ⟨sa, sb⟩ | ⟨sa, sb⟩
      · -- the recording is the first, what is spare the second
        have eV : (tl σ).2.2.2.1 = V := by
          rcases hV with ⟨_, o2⟩ | ⟨o1, _⟩
          · exact o2
          · rw [sa] at o1; exact absurd o1 (by decide)
        obtain ⟨r, f, V', C', k1, k2, k3⟩ := rd_all n hn (T := T) (R := pR nd_st0 0 (sR σ.2.2.2.1.2 7)) (V := σ.2.2.2.2.2.2.2.1) (C := τ.2.2.2.1) l1 rdt
        rw [rc_32 n T L (by omega) x sb l2 k1, eR, k2, nb_b2]
        rcases k3 with ⟨m, u, m1, m2, m3, m4⟩ | ⟨fc, f1, f2, f3, f4⟩
        · subst m1 m2
          have mm := m3.1.1
          rw [if_neg (dn_3 (by omega)), if_pos (show nI 0 ≤ (0 : Int32) by decide)]
          obtain ⟨t', τ', w1, w2, w3, w4, w5, w6⟩ := jm_with n hn (t := (pO (pO σ.2.2.2.2.1 0 (some 32)) 1 (some 27), (σ.2.1, (σ.2.2.2.2.2.1, (σ.2.2.2.2.2.2.1, (V', σ.2.2.2.2.2.2.2.2)))))) (τ := (pI (pI (pI τ.1 0 0) 1 0) 2 0, (τ.2.1, (τ.2.2.1, (C', τ.2.2.2.2))))) (V := V') (A := A) (m := m) (u := u) (by omega) (Or.inr ⟨rfl, rfl⟩) (Or.inr ⟨rfl, rfl⟩) m4 m3 oy o34 (ix := ix) hix hin hp ⟨j, x⟩
          have sw : df_X11_startWith n (nI A) (tl (pI (pI σ.1 0 0) 1 0, (σ.2.1, (σ.2.2.1, (σ.2.2.2.1, (σ.2.2.2.2.1, (σ.2.2.2.2.2.1, (σ.2.2.2.2.2.2.1, (V', σ.2.2.2.2.2.2.2.2))))))))) = some t' := by
            unfold df_X11_startWith df_X11_startWith_0 tl
            dsimp only
            rw [if_pos (show sO σ.2.2.2.2.1 0 = some 27 from sa), if_neg (show ¬ sO σ.2.2.2.2.1 1 = some 27 by rw [show sO σ.2.2.2.2.1 1 = some 32 from sb]; decide), if_pos (show sO σ.2.2.2.2.1 1 = some 32 from sb), nb_let, nb_let]
            exact w1
          rw [sw, nb_b1, w2]
          have tlp : tl (pl (pI (pI σ.1 0 0) 1 0, (σ.2.1, (σ.2.2.1, (σ.2.2.2.1, (σ.2.2.2.2.1, (σ.2.2.2.2.2.1, (σ.2.2.2.2.2.2.1, (V', σ.2.2.2.2.2.2.2.2)))))))) t') = t' := tl_pl' w5.2.1
          refine ⟨nI m, _, τ', rfl, rfl, w4.trans rfl, by rw [tlp]; exact w3, ⟨rfl, rfl, (w6.1 1 (by omega)).trans rfl, (w6.1 2 (by omega)).trans rfl⟩, ⟨G1, fun _ => rfl, fun r a b => ?_, rfl, rfl, by rw [tlp]; exact w5.1, by rw [tlp]; exact w5.2.2.1, by rw [tlp]; exact w5.2.2.2⟩, ⟨fun j hj => (w6.1 j (by omega)).trans (F1 j hj), w6.2.1, w6.2.2.1, w6.2.2.2.1, w6.2.2.2.2.1, (congrArg Prod.snd w6.2.2.2.2.2).trans rfl⟩⟩
          show nd_mix 4 t'.2.1 σ.2.1 r = _
          unfold nd_mix
          by_cases c : r < 4
          · rw [if_pos c]; exact w5.2.1 r a b
          · rw [if_neg c]
        · subst f3 f4
          rw [if_pos (m1_lt f2), if_neg (show ¬ nI fc ≤ (0 : Int32) from fun z => by have z : nI fc ≤ nI 0 := z; rw [nI_leI (by omega) (by omega)] at z; omega)]
          refine ⟨_, _, _, rfl, rfl, rfl, ?_, ⟨rfl, rfl, rfl, rfl⟩, ⟨G1, fun _ => rfl, fun _ _ _ => rfl, rfl, rfl, rfl, rfl, rfl⟩, ⟨F1, fun _ _ => rfl, fun _ => rfl, rfl, rfl, rfl⟩⟩
          exact jA_V (V := V) (V' := V) h hV ⟨rfl, rfl, fun _ => rfl, fun _ => rfl⟩ ⟨rfl, rfl, rfl, rfl⟩ (U1 C') (Or.inl ⟨sa, eV⟩)
      · have eV : (tl σ).2.2.2.2.1 = V := by
          rcases hV with ⟨o1, _⟩ | ⟨_, o2⟩
          · rw [sa] at o1; exact absurd o1 (by decide)
          · exact o2
        obtain ⟨r, f, V', C', k1, k2, k3⟩ := rd_all n hn (T := T) (R := pR nd_st0 0 (sR σ.2.2.2.1.2 7)) (V := σ.2.2.2.2.2.2.1) (C := τ.2.2.2.1) l1 rdt
        rw [rc_27 n T L (by omega) x sb l2 k1, eR, k2, nb_b2]
        rcases k3 with ⟨m, u, m1, m2, m3, m4⟩ | ⟨fc, f1, f2, f3, f4⟩
        · subst m1 m2
          have mm := m3.1.1
          rw [if_neg (dn_3 (by omega)), if_pos (show nI 0 ≤ (0 : Int32) by decide)]
          obtain ⟨t', τ', w1, w2, w3, w4, w5, w6⟩ := jm_with n hn (t := (pO (pO σ.2.2.2.2.1 0 (some 27)) 1 (some 32), (σ.2.1, (σ.2.2.2.2.2.1, (V', σ.2.2.2.2.2.2.2))))) (τ := (pI (pI (pI τ.1 0 0) 1 0) 2 0, (τ.2.1, (τ.2.2.1, (C', τ.2.2.2.2))))) (V := V') (A := A) (m := m) (u := u) (by omega) (Or.inl ⟨rfl, rfl⟩) (Or.inl ⟨rfl, rfl⟩) m4 m3 oy o34 (ix := ix) hix hin hp ⟨j, x⟩
          have sw : df_X11_startWith n (nI A) (tl (pI (pI σ.1 0 0) 1 0, (σ.2.1, (σ.2.2.1, (σ.2.2.2.1, (σ.2.2.2.2.1, (σ.2.2.2.2.2.1, (V', σ.2.2.2.2.2.2.2)))))))) = some t' := by
            unfold df_X11_startWith df_X11_startWith_0 tl
            dsimp only
            rw [if_neg (show ¬ sO σ.2.2.2.2.1 0 = some 27 by rw [show sO σ.2.2.2.2.1 0 = some 32 from sa]; decide), if_pos (show sO σ.2.2.2.2.1 0 = some 32 from sa), if_pos (show sO σ.2.2.2.2.1 1 = some 27 from sb), nb_let, nb_let]
            exact w1
          rw [sw, nb_b1, w2]
          have tlp : tl (pl (pI (pI σ.1 0 0) 1 0, (σ.2.1, (σ.2.2.1, (σ.2.2.2.1, (σ.2.2.2.2.1, (σ.2.2.2.2.2.1, (V', σ.2.2.2.2.2.2.2))))))) t') = t' := tl_pl' w5.2.1
          refine ⟨nI m, _, τ', rfl, rfl, w4.trans rfl, by rw [tlp]; exact w3, ⟨rfl, rfl, (w6.1 1 (by omega)).trans rfl, (w6.1 2 (by omega)).trans rfl⟩, ⟨G1, fun _ => rfl, fun r a b => ?_, rfl, rfl, by rw [tlp]; exact w5.1, by rw [tlp]; exact w5.2.2.1, by rw [tlp]; exact w5.2.2.2⟩, ⟨fun j hj => (w6.1 j (by omega)).trans (F1 j hj), w6.2.1, w6.2.2.1, w6.2.2.2.1, w6.2.2.2.2.1, (congrArg Prod.snd w6.2.2.2.2.2).trans rfl⟩⟩
          show nd_mix 4 t'.2.1 σ.2.1 r = _
          unfold nd_mix
          by_cases c : r < 4
          · rw [if_pos c]; exact w5.2.1 r a b
          · rw [if_neg c]
        · subst f3 f4
          rw [if_pos (m1_lt f2), if_neg (show ¬ nI fc ≤ (0 : Int32) from fun z => by have z : nI fc ≤ nI 0 := z; rw [nI_leI (by omega) (by omega)] at z; omega)]
          refine ⟨_, _, _, rfl, rfl, rfl, ?_, ⟨rfl, rfl, rfl, rfl⟩, ⟨G1, fun _ => rfl, fun _ _ _ => rfl, rfl, rfl, rfl, rfl, rfl⟩, ⟨F1, fun _ _ => rfl, fun _ => rfl, rfl, rfl, rfl⟩⟩
          exact jA_V (V := V) (V' := V) h hV ⟨rfl, rfl, fun _ => rfl, fun _ => rfl⟩ ⟨rfl, rfl, rfl, rfl⟩ (U1 C') (Or.inr ⟨sa, eV⟩)
  · refine Or.inl ⟨?_, ?_⟩
    · unfold df_X12_replay df_X12_replay_0 df_X12_replay_9
      by_cases y : A < 2 ^ 31
      · rw [if_neg (show ¬ nI A < (0 : Int32) from fun z => by rw [lz_0 hA] at z; omega), if_neg (show ¬ nI A < (4 : Int32) from fun z => by have z : nI A < nI 4 := z; rw [nI_ltI y (by omega)] at z; omega)]
      · rw [if_pos (show nI A < (0 : Int32) by rw [lz_0 hA]; omega)]
    · unfold df_X19_replay df_X19_replay_0 df_X19_replay_18 df_X19_replay_45 df_X19_replay_46
      rw [inE, nb_b2, if_neg d, if_pos (show nI 0 = (0 : Int32) from rfl), nb_b2, if_pos (show nI 0 = (0 : Int32) from rfl), nb_fails, nb_b2]
      rfl

/-- what stays of a condition of the class; of the reference's; where one of them stands -/
def cSt (A B : St) : Prop := sR B 0 = sR A 0 ∧ sQ B 0 = sQ A 0 ∧ sI B 0 = sI A 0 ∧ sR B 3 = sR A 3 ∧ sR B 4 = sR A 4 ∧ sI B 2 = sI A 2
def yFr (A B : St) : Prop := (∀ k : Nat, 1 ≤ k → k ≤ 4 → sR B k = sR A k) ∧ sQ B 0 = sQ A 0
def ySt (k : Nat) (A B : St) : Prop := sR B 2 k = sR A 2 k ∧ ∀ i : Nat, 120 * k ≤ i → i < 120 * k + 120 → sR B 3 i = sR A 3 i ∧ sR B 4 i = sR A 4 i ∧ sQ B 0 i = sQ A 0 i
/-- what both remember is the same -/
def tiO (N : Nat) (pos : Nat → Nat) (Cd Y : St) : Prop := ∀ j : Nat, j < N → sQ Cd 2 j = sQ Y 1 (pos j)
/-- a condition, in both: it remembers and is worth the same at machines that are tied -/
def bCd (n k N : Nat) (pos : Nat → Nat) (Cd Y : St) : Prop := sI Cd 2 = nI N ∧ N ≤ 40 ∧ (∀ j : Nat, j < N → 120 * k ≤ pos j ∧ pos j < 120 * k + 120) ∧ ∀ (B c : Nat) (M X : St × St) (Cd' Y' : St), rM B M X → sD n X → sI X.1 0 = nI c → c ≤ 60000 → cSt Cd Cd' → ySt k Y Y' → (∃ Cd2 Y2 : St, df_X2_remember n (nI c) (nd_st0, (Cd', M)) = some (nd_st0, (Cd2, M)) ∧ df_X15_remember n (nI k) (Y', X) = some (Y2, X) ∧ cSt Cd' Cd2 ∧ yFr Y' Y2 ∧ (∀ i : Nat, i < 120 * k ∨ 120 * k + 120 ≤ i → sQ Y2 1 i = sQ Y' 1 i) ∧ tiO N pos Cd2 Y2) ∧ (tiO N pos Cd' Y' → ∃ (v : Int64) (Cd2 Y2 : St), df_X2_worth n (nI c) (nd_st0, (Cd', M)) = some (v, (nd_st0, (Cd2, M))) ∧ df_X15_value n (nI k) (Y', X) = some (v, (Y2, X)) ∧ cSt Cd' Cd2 ∧ sQ Cd2 2 = sQ Cd' 2 ∧ yFr Y' Y2 ∧ sQ Y2 1 = sQ Y' 1)
/-- all breaks -/
def bRk (n : Nat) (row : Nat → Option Nat) (pool : Nat → St) (Y : St) (N : Nat → Nat) (pos : Nat → Nat → Nat) : Prop := (∀ k : Nat, k < 8 → (row k = none ∧ sR Y 1 k = nI 0) ∨ ∃ j : Nat, j < 9 ∧ row k = some j ∧ sR Y 1 k = nI 1 ∧ bCd n k (N k) (pos k) (pool j) Y) ∧ ∀ k k' j : Nat, k < 8 → k' < 8 → row k = some j → row k' = some j → k = k'
theorem cSt_t {A B C : St} (h : cSt A B) (g : cSt B C) : cSt A C := ⟨g.1.trans h.1, g.2.1.trans h.2.1, g.2.2.1.trans h.2.2.1, g.2.2.2.1.trans h.2.2.2.1, g.2.2.2.2.1.trans h.2.2.2.2.1, g.2.2.2.2.2.trans h.2.2.2.2.2⟩
theorem cSt_r (A : St) : cSt A A := ⟨rfl, rfl, rfl, rfl, rfl, rfl⟩
theorem ySt_t {k : Nat} {A B C : St} (h : ySt k A B) (g : ySt k B C) : ySt k A C := ⟨g.1.trans h.1, fun i a b => ⟨(g.2 i a b).1.trans (h.2 i a b).1, (g.2 i a b).2.1.trans (h.2 i a b).2.1, (g.2 i a b).2.2.trans (h.2 i a b).2.2⟩⟩
theorem ySt_r (k : Nat) (A : St) : ySt k A A := ⟨rfl, fun _ _ _ => ⟨rfl, rfl, rfl⟩⟩
theorem yFr_s {A B : St} (h : yFr A B) (k : Nat) : ySt k A B := ⟨by rw [h.1 2 (by omega) (by omega)], fun i _ _ => by rw [h.1 3 (by omega) (by omega), h.1 4 (by omega) (by omega), h.2]; exact ⟨rfl, rfl, rfl⟩⟩
theorem yFr_r (A : St) : yFr A A := ⟨fun _ _ _ => rfl, rfl⟩
theorem yFr_t {A B C : St} (h : yFr A B) (g : yFr B C) : yFr A C := ⟨fun k a b => (g.1 k a b).trans (h.1 k a b), g.2.trans h.2⟩
theorem bCd_t {n k N : Nat} {pos : Nat → Nat} {Cd Y Cd' Y' : St} (h : bCd n k N pos Cd Y) (hc : cSt Cd Cd') (hy : ySt k Y Y') : bCd n k N pos Cd' Y' := by
  obtain ⟨h1, h2, h3, h4⟩ := h
  exact ⟨hc.2.2.2.2.2.trans h1, h2, h3, fun B c M X C2 Y2 a1 a2 a3 a4 a5 a6 => h4 B c M X C2 Y2 a1 a2 a3 a4 (cSt_t hc a5) (ySt_t hy a6)⟩
/-- one condition of the pool has gone on, and the reference with it -/
theorem bRk_t {n : Nat} {row : Nat → Option Nat} {pool : Nat → St} {Y Y' : St} {N : Nat → Nat} {pos : Nat → Nat → Nat} (h : bRk n row pool Y N pos) {j : Nat} {C : St} (hc : cSt (pool j) C) (hy : yFr Y Y') : bRk n row (fun i => if i = j then C else pool i) Y' N pos := by
  refine ⟨fun k hk => ?_, h.2⟩
  rcases h.1 k hk with ⟨a, b⟩ | ⟨i, i1, i2, i3, i4⟩
  · exact Or.inl ⟨a, by rw [hy.1 1 (by omega) (by omega)]; exact b⟩
  · refine Or.inr ⟨i, i1, i2, by rw [hy.1 1 (by omega) (by omega)]; exact i3, ?_⟩
    by_cases y : i = j
    · subst y
      show bCd n k (N k) (pos k) (if i = i then C else pool i) Y'
      rw [if_pos rfl]
      exact bCd_t i4 hc (yFr_s hy k)
    · show bCd n k (N k) (pos k) (if i = j then C else pool i) Y'
      rw [if_neg y]
      exact bCd_t i4 (cSt_r _) (yFr_s hy k)
theorem bRk_y {n : Nat} {row : Nat → Option Nat} {pool : Nat → St} {Y Y' : St} {N : Nat → Nat} {pos : Nat → Nat → Nat} (h : bRk n row pool Y N pos) (hy : yFr Y Y') : bRk n row pool Y' N pos := by
  have g := bRk_t h (j := 0) (cSt_r _) hy
  rw [pool_id] at g
  exact g
def stK (t : S11) (K : Nat → St) : S11 := (t.1, (t.2.1, (t.2.2.1, (t.2.2.2.1, (t.2.2.2.2.1, (t.2.2.2.2.2.1, (K, t.2.2.2.2.2.2.2)))))))
def stY (τ : S19) (Y : St) : S19 := (τ.1, (τ.2.1, ((Y, τ.2.2.1.2), τ.2.2.2)))
/-- all breaks remember, in both -/
theorem rm_all (n : Nat) (hn : 100 < n) {B c : Nat} {t : S11} {τ : S19} {N : Nat → Nat} {pos : Nat → Nat → Nat} (h1 : rM B t.2.2.1.2.2 τ.2.2.1.2) (h2 : sD n τ.2.2.1.2) (h3 : sI τ.2.2.1.2.1 0 = nI c) (h4 : c ≤ 60000) (h5 : sI t.1 3 = nI c) (hb : bRk n (t.2.1 2) t.2.2.2.2.2.2.1 τ.2.2.1.1 N pos) : ∃ (K : Nat → St) (Y : St), df_X11_rememberAll n t = some (stK t K) ∧ df_X19_remember n τ = some (stY τ Y) ∧ bRk n (t.2.1 2) K Y N pos ∧ ∀ k j : Nat, k < 8 → t.2.1 2 k = some j → tiO (N k) (pos k) (K j) Y := by
  obtain ⟨m, KY, KY2, ⟨i1, i2, i3⟩, e1, e2⟩ := nm_l2 (S := (Nat → St)) (T := St) (fun g k K => df_X11_rememberAll_2 n g (nI k) (stK t K)) (fun g k Y => df_X19_remember_2 n g (nI k) (stY τ Y)) (fun k K Y => bRk n (t.2.1 2) K Y N pos ∧ (∀ k' j : Nat, k' < k → t.2.1 2 k' = some j → tiO (N k') (pos k') (K j) Y) ∧ True) 8 n (by omega) (fun k m K Y hk ⟨i1, i2, _⟩ => by
    have u1 : k < 2 ^ 31 := by omega
    have n8 : ¬ (8 : Int32) ≤ nI k := fun z => by have z : nI 8 ≤ nI k := z; rw [nI_leI (by omega) (by omega)] at z; omega
    have s1 : nI k + Int32.ofInt 1 = nI (k + 1) := nI_add ..
    have it : ∀ v : Int32, (v = nI 0 ∨ v = nI 1) → sR Y 1 k = v → df_X15_isThere n (nI k) (Y, τ.2.2.1.2) = some (v, (Y, τ.2.2.1.2)) := fun v hv e => by
      unfold df_X15_isThere df_X15_isThere_0
      rw [nm_ck hk u1, nI_clamp u1]
      dsimp only
      rw [e]
      rcases hv with rfl | rfl
      · exact nm_z0
      · exact nm_z1
    show ∃ (K' : Nat → St) (Y' : St), _ ∧ dF_X11_rememberAll_2 n (df_X11_rememberAll_2 n m) (nI k) (stK t K) = df_X11_rememberAll_2 n m (nI (k + 1)) (stK t K') ∧ dF_X19_remember_2 n (df_X19_remember_2 n m) (nI k) (stY τ Y) = df_X19_remember_2 n m (nI (k + 1)) (stY τ Y')
    generalize df_X11_rememberAll_2 n m = G
    generalize df_X19_remember_2 n m = H
    have eC : dF_X11_rememberAll_2 n G (nI k) (stK t K) = nd_m (t.2.1 2 k) (G (nI (k + 1)) (stK t K)) (fun j3 => nd_m (t.2.1 2 k) none (fun j6 => nd_lt j6 9 (nd_b1 (df_X2_remember n (sI t.1 3) (nd_st0, (K j6, t.2.2.1.2.2))) (fun s9 => G (nI (k + 1)) (t.1, (t.2.1, ((t.2.2.1.1, (t.2.2.1.2.1, s9.2.2)), (t.2.2.2.1, (t.2.2.2.2.1, (t.2.2.2.2.2.1, ((fun i => if i = j6 then s9.2.1 else K i), t.2.2.2.2.2.2.2))))))))))) := by
      unfold dF_X11_rememberAll_2 df_X11_rememberAll_28
      rw [if_neg n8, nm_ck hk u1, nm_ck hk u1, nI_clamp u1, nb_let, s1]
      rw [← s1]
      rfl
    have eR : dF_X19_remember_2 n H (nI k) (stY τ Y) = nd_b2 (df_X15_isThere n (nI k) (Y, τ.2.2.1.2)) (fun q2 s3 => if q2 = 0 then H (nI (k + 1)) (τ.1, (τ.2.1, (s3, τ.2.2.2))) else nd_b1 (df_X15_remember n (nI k) s3) (fun s9 => H (nI (k + 1)) (τ.1, (τ.2.1, (s9, τ.2.2.2))))) := by
      unfold dF_X19_remember_2 df_X19_remember_27
      rw [if_neg n8, ← s1]
      rfl
    rw [eC, eR]
    rcases i1.1 k hk with ⟨a, b⟩ | ⟨j, j9, a, b, hB⟩
    · rw [a, nb_mN, it (nI 0) (Or.inl rfl) b, nb_b2, if_pos (show nI 0 = (0 : Int32) from rfl)]
      refine ⟨K, Y, ⟨i1, fun k' j hk' e => ?_, trivial⟩, rfl, rfl⟩
      by_cases y : k' = k
      · rw [y, a] at e; exact nomatch e
      · exact i2 k' j (by omega) e
    · obtain ⟨⟨C2, Y2, r1, r2, r3, r4, r5, r6⟩, _⟩ := hB.2.2.2 B c t.2.2.1.2.2 τ.2.2.1.2 (K j) Y h1 h2 h3 h4 (cSt_r _) (ySt_r _ _)
      have r2' : df_X15_remember n (nI k) (Y, τ.2.2.1.2) = some (Y2, τ.2.2.1.2) := r2
      rw [a, nb_mS, nb_mS, nb_lt j9, h5, r1, nb_b1, it (nI 1) (Or.inr rfl) b, nb_b2, if_neg (show ¬ nI 1 = (0 : Int32) by decide), r2', nb_b1]
      refine ⟨fun i => if i = j then C2 else K i, Y2, ⟨bRk_t i1 r3 r4, fun k' j' hk' e => ?_, trivial⟩, rfl, rfl⟩
      · by_cases y : k' = k
        · subst y
          rw [a] at e
          injection e with e
          subst e
          show tiO _ _ (if j = j then C2 else K j) Y2
          rw [if_pos rfl]
          exact r6
        · have hne : ¬ j' = j := fun z => y (i1.2 k' k j (by omega) hk (by rw [← z]; exact e) a)
          show tiO _ _ (if j' = j then C2 else K j') Y2
          rw [if_neg hne]
          intro q hq
          rw [i2 k' j' (by omega) e q hq]
          obtain ⟨i', _, a', _, hB'⟩ | ⟨a', _⟩ := (i1.1 k' (by omega)).symm
          · have p := hB'.2.2.1 q hq
            rw [r5 (pos k' q) (by omega)]
          · rw [a'] at e; exact nomatch e) t.2.2.2.2.2.2.1 τ.2.2.1.1 ⟨hb, fun k' j hk' => by omega, trivial⟩
  refine ⟨KY, KY2, ?_, ?_, i1, i2⟩
  · refine Eq.trans (show df_X11_rememberAll n t = df_X11_rememberAll_2 n n (nI 0) (stK t t.2.2.2.2.2.2.1) from rfl) (Eq.trans e1 ?_)
    show dF_X11_rememberAll_2 n (df_X11_rememberAll_2 n m) (nI 8) _ = _
    unfold dF_X11_rememberAll_2
    rw [if_pos (show (8 : Int32) ≤ nI 8 by decide)]
  · refine Eq.trans (show df_X19_remember n τ = df_X19_remember_2 n n (nI 0) (stY τ τ.2.2.1.1) from rfl) (Eq.trans e2 ?_)
    show dF_X19_remember_2 n (df_X19_remember_2 n m) (nI 8) _ = _
    unfold dF_X19_remember_2
    rw [if_pos (show (8 : Int32) ≤ nI 8 by decide)]
/-- the first break that holds, in both -/
theorem ht_all (n : Nat) {B c : Nat} {t : S11} {τ : S19} {N : Nat → Nat} {pos : Nat → Nat → Nat} (h1 : rM B t.2.2.1.2.2 τ.2.2.1.2) (h2 : sD n τ.2.2.1.2) (h3 : sI τ.2.2.1.2.1 0 = nI c) (h4 : c ≤ 60000) (h5 : sI t.1 3 = nI c) : ∀ (m k g g' : Nat) (K : Nat → St) (Y : St), k + m = 8 → m < g → m < g' → bRk n (t.2.1 2) K Y N pos → (∀ k j : Nat, k < 8 → t.2.1 2 k = some j → tiO (N k) (pos k) (K j) Y) → ∃ (K' : Nat → St) (Y' : St), bRk n (t.2.1 2) K' Y' N pos ∧ yFr Y Y' ∧ ((df_X11_hit_2 n g (nI k) (stK t K) = some (nI 0, stK t K') ∧ df_X19_hit_2 n g' (nI k) (stY τ Y) = some (-1, stY τ Y')) ∨ ∃ q : Nat, q < 8 ∧ df_X11_hit_2 n g (nI k) (stK t K) = some (nI (3 + 8 * q), stK t K') ∧ df_X19_hit_2 n g' (nI k) (stY τ Y) = some (nI q, stY τ Y')) := fun m => by
  induction m with
  | zero =>
    intro k g g' K Y hk hg hg' hb ht
    obtain ⟨g1, rfl⟩ : ∃ g1 : Nat, g = g1 + 1 := ⟨g - 1, by omega⟩
    obtain ⟨g2, rfl⟩ : ∃ g2 : Nat, g' = g2 + 1 := ⟨g' - 1, by omega⟩
    have hk : k = 8 := by omega
    subst hk
    refine ⟨K, Y, hb, yFr_r Y, Or.inl ⟨?_, ?_⟩⟩
    · show dF_X11_hit_2 n (df_X11_hit_2 n g1) (nI 8) _ = _
      unfold dF_X11_hit_2
      rw [if_pos (show (8 : Int32) ≤ nI 8 by decide)]
      rfl
    · show dF_X19_hit_2 n (df_X19_hit_2 n g2) (nI 8) _ = _
      unfold dF_X19_hit_2 df_X19_hit_38
      rw [if_pos (show (8 : Int32) ≤ nI 8 by decide), if_pos (show (8 : Int32) ≤ nI 8 by decide)]
      rfl
  | succ m ih =>
    intro k g g' K Y hkm hg hg' hb ht
    obtain ⟨g1, rfl⟩ : ∃ g1 : Nat, g = g1 + 1 := ⟨g - 1, by omega⟩
    obtain ⟨g2, rfl⟩ : ∃ g2 : Nat, g' = g2 + 1 := ⟨g' - 1, by omega⟩
    have hk : k < 8 := by omega
    have u1 : k < 2 ^ 31 := by omega
    have n8 : ¬ (8 : Int32) ≤ nI k := fun z => by have z : nI 8 ≤ nI k := z; rw [nI_leI (by omega) (by omega)] at z; omega
    have s1 : nI k + Int32.ofInt 1 = nI (k + 1) := nI_add ..
    have it : ∀ v : Int32, (v = nI 0 ∨ v = nI 1) → sR Y 1 k = v → df_X15_isThere n (nI k) (Y, τ.2.2.1.2) = some (v, (Y, τ.2.2.1.2)) := fun v hv e => by
      unfold df_X15_isThere df_X15_isThere_0
      rw [nm_ck hk u1, nI_clamp u1]
      dsimp only
      rw [e]
      rcases hv with rfl | rfl
      · exact nm_z0
      · exact nm_z1
    have ih := fun K Y hb ht => ih (k + 1) g1 g2 K Y (by omega) (by omega) (by omega) hb ht
    show ∃ (K' : Nat → St) (Y' : St), _ ∧ _ ∧ ((dF_X11_hit_2 n (df_X11_hit_2 n g1) (nI k) (stK t K) = _ ∧ dF_X19_hit_2 n (df_X19_hit_2 n g2) (nI k) (stY τ Y) = _) ∨ ∃ q : Nat, q < 8 ∧ dF_X11_hit_2 n (df_X11_hit_2 n g1) (nI k) (stK t K) = _ ∧ dF_X19_hit_2 n (df_X19_hit_2 n g2) (nI k) (stY τ Y) = _)
    generalize df_X11_hit_2 n g1 = G at ih
    generalize df_X19_hit_2 n g2 = H at ih
    have eC : dF_X11_hit_2 n G (nI k) (stK t K) = nd_m (t.2.1 2 k) (G (nI (k + 1)) (stK t K)) (fun j3 => nd_m (t.2.1 2 k) none (fun j6 => nd_lt j6 9 (nd_b2 (df_X2_worth n (sI t.1 3) (nd_st0, (K j6, t.2.2.1.2.2))) (fun q8 s9 => if lg_cmp q8 0 = 0 then G (nI (k + 1)) (t.1, (t.2.1, ((t.2.2.1.1, (t.2.2.1.2.1, s9.2.2)), (t.2.2.2.1, (t.2.2.2.2.1, (t.2.2.2.2.2.1, ((fun i => if i = j6 then s9.2.1 else K i), t.2.2.2.2.2.2.2))))))) else some (3 + 8 * nI k, (t.1, (t.2.1, ((t.2.2.1.1, (t.2.2.1.2.1, s9.2.2)), (t.2.2.2.1, (t.2.2.2.2.1, (t.2.2.2.2.2.1, ((fun i => if i = j6 then s9.2.1 else K i), t.2.2.2.2.2.2.2)))))))))))) := by
      unfold dF_X11_hit_2 df_X11_hit_40
      rw [if_neg n8, nm_ck hk u1, nm_ck hk u1, nI_clamp u1, nb_let, s1]
      rfl
    have eR : dF_X19_hit_2 n H (nI k) (stY τ Y) = nd_b2 (df_X15_isThere n (nI k) (Y, τ.2.2.1.2)) (fun q3 s4 => if q3 = 0 then H (nI (k + 1)) (τ.1, (τ.2.1, (s4, τ.2.2.2))) else nd_b2 (df_X15_value n (nI k) s4) (fun q9 s10 => if lg_cmp q9 0 = 0 then H (nI (k + 1)) (τ.1, (τ.2.1, (s10, τ.2.2.2))) else some (nI k, (τ.1, (τ.2.1, (s10, τ.2.2.2)))))) := by
      unfold dF_X19_hit_2 df_X19_hit_32 df_X19_hit_38 df_X19_hit_49
      rw [if_neg n8, ← s1]
      simp only [if_neg n8]
      rfl
    rw [eC, eR]
    rcases hb.1 k hk with ⟨a, b⟩ | ⟨j, j9, a, b, hB⟩
    · rw [a, nb_mN, it (nI 0) (Or.inl rfl) b, nb_b2, if_pos (show nI 0 = (0 : Int32) from rfl)]
      exact ih K Y hb ht
    · obtain ⟨v, C2, Y2, r1, r2, r3, r4, r5, r6⟩ := (hB.2.2.2 B c t.2.2.1.2.2 τ.2.2.1.2 (K j) Y h1 h2 h3 h4 (cSt_r _) (ySt_r _ _)).2 (ht k j hk a)
      rw [a, nb_mS, nb_mS, nb_lt j9, h5, r1, nb_b2, it (nI 1) (Or.inr rfl) b, nb_b2, if_neg (show ¬ nI 1 = (0 : Int32) by decide), r2, nb_b2]
      have hb' := bRk_t hb (j := j) r3 r5
      by_cases z : lg_cmp v 0 = (0 : Int32)
      · rw [if_pos z, if_pos z]
        have tt : ∀ k' j' : Nat, k' < 8 → t.2.1 2 k' = some j' → tiO (N k') (pos k') ((fun i => if i = j then C2 else K i) j') Y2 := fun k' j' hk' e q hq => by
          have base := ht k' j' hk' e q hq
          rw [r6]
          show sQ (if j' = j then C2 else K j') 2 q = _
          by_cases y : j' = j
          · rw [if_pos y, r4, ← y]; exact base
          · rw [if_neg y]; exact base
        obtain ⟨K3, Y3, z1, z2, z3⟩ := ih (fun i => if i = j then C2 else K i) Y2 hb' tt
        exact ⟨K3, Y3, z1, yFr_t r5 z2, z3⟩
      · rw [if_neg z, if_neg z]
        refine ⟨fun i => if i = j then C2 else K i, Y2, hb', r5, Or.inr ⟨k, hk, ?_, rfl⟩⟩
        rw [show (3 : Int32) + 8 * nI k = nI (3 + 8 * k) by rw [show (8 : Int32) * nI k = nI (8 * k) from pk_mul ..]; exact nI_add ..]
        rfl

/-- whether some process waits, as the reference asks it -/
theorem sg_wait (n : Nat) (hn : 100 < n) (X : St × St) : df_X16_isWaiting n X = some (if 0 < cW (sR X.1 1) then nI 1 else nI 0, X) := by
  have cs : ∀ k : Nat, 0 < cN (fun q => decide (sR X.1 1 q = nI 2)) (k + 1) ↔ (0 < cN (fun q => decide (sR X.1 1 q = nI 2)) k ∨ sR X.1 1 k = nI 2) := fun k => by
    rw [cN_s]
    by_cases c : sR X.1 1 k = nI 2
    · rw [decide_eq_true c]
      exact ⟨fun _ => Or.inr c, fun _ => by show 0 < _ + 1; omega⟩
    · rw [decide_eq_false c]
      exact ⟨fun z => Or.inl z, fun z => z.elim (fun y => y) (fun y => absurd y c)⟩
  obtain ⟨m, e⟩ := nm_lq (fun g k => df_X16_isWaiting_4 n g (if 0 < cN (fun q => decide (sR X.1 1 q = nI 2)) k then nI 1 else nI 0) (nI k) X) 16 n (by omega) (fun k m hk => by
    have s1 : nI k + Int32.ofInt 1 = nI (k + 1) := nI_add ..
    show dF_X16_isWaiting_4 n (df_X16_isWaiting_4 n m) _ (nI k) X = df_X16_isWaiting_4 n m _ (nI (k + 1)) X
    generalize df_X16_isWaiting_4 n m = G
    unfold dF_X16_isWaiting_4 df_X16_isWaiting_24 df_X16_isWaiting_29
    rw [if_neg (show ¬ (16 : Int32) ≤ nI k from fun z => by have z : nI 16 ≤ nI k := z; rw [nI_leI (by omega) (by omega)] at z; omega), nm_ck hk (by omega), nI_clamp (by omega), nb_let, nb_let, s1]
    by_cases a : 0 < cN (fun q => decide (sR X.1 1 q = nI 2)) k
    · rw [if_pos a, if_neg (show ¬ nI 1 = (0 : Int32) by decide), if_pos ((cs k).mpr (Or.inl a))]
      rfl
    · rw [if_neg a, if_pos (show nI 0 = (0 : Int32) from rfl)]
      by_cases b : sR X.1 1 k = nI 2
      · rw [if_pos (show sR X.1 1 k = 2 from b), if_pos ((cs k).mpr (Or.inr b))]
        rfl
      · rw [if_neg (show ¬ sR X.1 1 k = 2 from b), if_neg (fun z => ((cs k).mp z).elim a b)]
        rfl)
  have e : df_X16_isWaiting_4 n n (nI 0) (nI 0) X = df_X16_isWaiting_4 n (m + 1) (if 0 < cW (sR X.1 1) then nI 1 else nI 0) (nI 16) X := e
  refine Eq.trans e ?_
  show dF_X16_isWaiting_4 n (df_X16_isWaiting_4 n m) _ (nI 16) X = _
  unfold dF_X16_isWaiting_4
  rw [if_pos (show (16 : Int32) ≤ nI 16 by decide)]
  exact nz_n
/-- what a run leaves of the class, of the reference -/
def kC2 (t t' : S11) : Prop := sI t'.1 0 = sI t.1 0 ∧ (∀ k : Nat, sO t'.1 k = sO t.1 k) ∧ (∀ r : Nat, ¬ r = 3 → t'.2.1 r = t.2.1 r) ∧ t'.2.2.2.2.2.1 = t.2.2.2.2.2.1
def kR2 (τ τ' : S19) : Prop := (∀ j : Nat, j = 0 ∨ j = 1 ∨ j = 2 ∨ j = 3 ∨ j = 12 → sI τ'.1 j = sI τ.1 j) ∧ (∀ j : Nat, j < 5 ∨ 10 ≤ j → sR τ'.1 j = sR τ.1 j) ∧ (∀ j : Nat, sO τ'.1 j = sO τ.1 j) ∧ τ'.2.1 = τ.2.1 ∧ τ'.2.2.2 = τ.2.2.2
theorem kC2_t {a b c : S11} (h : kC2 a b) (g : kC2 b c) : kC2 a c := ⟨g.1.trans h.1, fun k => (g.2.1 k).trans (h.2.1 k), fun r z => (g.2.2.1 r z).trans (h.2.2.1 r z), g.2.2.2.trans h.2.2.2⟩
theorem kR2_t {a b c : S19} (h : kR2 a b) (g : kR2 b c) : kR2 a c := ⟨fun j z => (g.1 j z).trans (h.1 j z), fun j z => (g.2.1 j z).trans (h.2.1 j z), fun j => (g.2.2.1 j).trans (h.2.2.1 j), g.2.2.2.1.trans h.2.2.2.1, g.2.2.2.2.trans h.2.2.2.2⟩
theorem kC2_r (t : S11) : kC2 t t := ⟨rfl, fun _ => rfl, fun _ _ => rfl, rfl⟩
theorem kR2_r (τ : S19) : kR2 τ τ := ⟨fun _ _ => rfl, fun _ _ => rfl, fun _ => rfl, rfl, rfl⟩
/-- both where they stand at now, with the breaks -/
def jK (n : Nat) (t : S11) (τ : S19) (vn : Nat) (Q V : St) (N T e c : Nat) (lo : Nat → Nat) (Nb : Nat → Nat) (pos : Nat → Nat → Nat) : Prop := jM n vn Q V N T e c c lo t τ ∧ bRk n (t.2.1 2) t.2.2.2.2.2.2.1 τ.2.2.1.1 Nb pos
/-- the numbers of the class and of the reference that do not matter there -/
theorem jM_7 {n vn : Nat} {Q V : St} {N T e c k : Nat} {lo : Nat → Nat} {t : S11} {τ : S19} (h : jM n vn Q V N T e c k lo t τ) (x y : Int32) : jM n vn Q V N T e c k lo (pI t.1 7 x, t.2) (pI τ.1 7 y, τ.2) := h
theorem jM_x {n vn : Nat} {Q V : St} {N T e c : Nat} {lo : Nat → Nat} {t : S11} {τ : S19} (h : jM n vn Q V N T e c c lo t τ) : rM (512 * c) t.2.2.1.2.2 τ.2.2.1.2 ∧ sD n τ.2.2.1.2 ∧ sI τ.2.2.1.2.1 0 = nI c := by
  obtain ⟨hI, hL, hev, hv, h456, hk, hX, h10, h14, hS, h11⟩ := h
  obtain ⟨_, _, _, _, _, _, _, _, hA, _, _⟩ := hI
  obtain ⟨a, b, c', d⟩ := hA.2 _ hX
  exact ⟨a, b, c'⟩
/-- one tick of a run, in both, wherever they stand -/
theorem jm_tick (n : Nat) (hn : 70000 < n) {vn : Nat} {Q V : St} {N T e c : Nat} {lo : Nat → Nat} {t : S11} {τ : S19} (h : jM n vn Q V N T e c c lo t τ) (hc : c < 60000) (h0 : ¬ sI t.2.2.1.2.2.1 3 = -nI 1) (h6 : sI t.1 6 = nI 0) : ∃ (w al : Int32) (t' : S11) (τ1 τ' : S19) (V' : St) (N' T' e' : Nat) (lo' : Nat → Nat), df_X11_advance n t = some t' ∧ df_X19_tick n τ = some (w, τ1) ∧ sI τ1.1 5 = nI c ∧ ((sI τ1.1 6 = nI e ∧ c < e ∧ al = nI 1 ∧ τ' = (pI τ1.1 5 (nI (c + 1)), τ1.2)) ∨ (sI τ1.1 6 = nI c ∧ df_X19_takeScheduled n (pI (pI τ1.1 5 (nI (c + 1))) 6 (nI (c + 1)), τ1.2) = some (al, τ'))) ∧ jM n vn Q V' N' T' e' (c + 1) (c + 1) lo' (pI t'.1 6 (nI 0), t'.2) τ' ∧ ((al = nI 1 ∧ sI t'.1 6 = nI 0) ∨ (al = nI 0 ∧ sI t'.1 6 = nI 1)) ∧ kC2 t t' ∧ kR2 τ τ' ∧ sI τ'.1 7 = sI τ.1 7 ∧ t'.2.2.2.2.2.2.1 = t.2.2.2.2.2.2.1 ∧ τ'.2.2.1.1 = τ.2.2.1.1 := by
  obtain ⟨hI, hL, hev, hv, ⟨g4, g5, g6⟩, hk, hX, h10, h14, hS, h11⟩ := id h
  have hce : c ≤ e := hI.2.2.2.2.1
  have r11 : sI τ.1 11 = nI 0 := h11.1.symm.trans h6
  by_cases d : c < e
  · obtain ⟨t', a1, a2, a3⟩ := ad_in n (by omega) hI d
    obtain ⟨_, _, hs, hP, _⟩ := id hI
    have lq := lg_eq hL.2.2.1 hev
    obtain ⟨w, X1, X', t1, t2, t3, t4, t5⟩ := rf_tick n (by omega) (v := nI vn) (Q := Q) (N := N) (e := e) (k := c) (lo := lo) (τ := τ) (s := t) (by rw [lq]; exact hs) hP hL d (by rw [lq]; exact hX) h10
    rw [lq] at t3
    refine ⟨w, nI 1, t', _, _, V, N, T, e, lo, a1, t2, g5, Or.inl ⟨g6, d, rfl, rfl⟩, ⟨a2, hL, hev, hv, ⟨g4, rfl, g6⟩, by omega, t3, rfl, t4.trans h14, hS, r11.symm, Or.inl r11⟩, Or.inl ⟨rfl, (a3.1 6 (by omega)).trans h6⟩, ⟨a3.1 0 (by omega), a3.2.1, a3.2.2.1, a3.2.2.2.2.2.2.1⟩, ⟨fun j hj => ?_, fun _ _ => rfl, fun _ => rfl, rfl, rfl⟩, rfl, a3.2.2.2.2.2.2.2, rfl⟩
    show sI (pI (pI τ.1 10 _) 5 _) j = _
    rw [nb_II, if_neg (by omega), nb_II, if_neg (by omega)]
  · have ce : c = e := by omega
    subst ce
    have J : jJ n vn Q V N T c lo t τ := ⟨hI, hL, hev, g4, g6, by rw [h10, hL.2.2.1.2.2 (c + 1) (by omega)], hX, h14, hS⟩
    obtain ⟨w, al, τ1, V', N', T', lo', t', τ3, b1, b2, b3, b4, b5, b6, b7, b8, ⟨b90, b97, b9O, b9W, b9P, b9K⟩, bA, bB, bC, bD, bE, bF⟩ := jt_end n (by omega) J hc h0
    obtain ⟨y1, y2, y3, y4, y5, y6, y7, y8, y9⟩ := id b4
    refine ⟨w, al, t', τ1, τ3, V', N', T', c + 1, lo', b1, b2, (b6 5 (by omega)).trans g5, Or.inr ⟨(b6 6 (by omega)).trans g6, b3⟩, ⟨y1, y2, y3, hv, ⟨y4, b7, y5⟩, Nat.le_refl _, y7, ?_, y8, y9, ?_⟩, ?_, ⟨b90, b9O, b9W, b9P⟩, ⟨fun j hj => bA j (by omega) (by omega) (by omega) (by omega) (by omega), bB, bC, bD, bF⟩, bA 7 (by omega) (by omega) (by omega) (by omega) (by omega), b9K, bE⟩
    · rw [y6, y2.2.2.1.2.2 (c + 1 + 1) (by omega)]
    · have e11 : sI τ3.1 11 = nI 0 := (bA 11 (by omega) (by omega) (by omega) (by omega) (by omega)).trans r11
      exact ⟨e11.symm, Or.inl e11⟩
    · rcases b5 with ⟨u1, u2⟩ | u
      · exact Or.inl ⟨u1, u2.trans h6⟩
      · exact Or.inr u

/-- ticks of a run, in both -/
theorem jm_run (n : Nat) (hn : 70000 < n) {vn n0 : Nat} {Q : St} {Nb : Nat → Nat} {pos : Nat → Nat → Nat} (hn0 : n0 ≤ 60000) : ∀ (r g g' many : Nat) (t : S11) (τ : S19) (V : St) (N T e c : Nat) (lo : Nat → Nat), many + r = n0 → r < g → r + 1 < g' → jK n t τ vn Q V N T e c lo Nb pos → sI t.1 6 = nI 0 → sI τ.1 7 = nI 0 → ∃ (q : Nat) (t' : S11) (τ' : S19) (V' : St) (N' T' e' c' : Nat) (lo' : Nat → Nat), df_X11_ticks_21 n g (nI n0) (nI many) t = some (nI q, t') ∧ df_X19_run_75 n g' (nI n0) (nI many) τ = some (nI q, τ') ∧ jK n t' τ' vn Q V' N' T' e' c' lo' Nb pos ∧ sI t'.1 7 = sI τ'.1 7 ∧ kC2 t t' ∧ kR2 τ τ' := fun r => by
  induction r with
  | zero =>
    intro g g' many t τ V N T e c lo hm hg hg' h h6 h7
    obtain ⟨g1, rfl⟩ : ∃ g1 : Nat, g = g1 + 1 := ⟨g - 1, by omega⟩
    obtain ⟨g2, rfl⟩ : ∃ g2 : Nat, g' = g2 + 1 := ⟨g' - 1, by omega⟩
    have le : nI n0 ≤ nI many := by rw [nI_leI (by omega) (by omega)]; omega
    refine ⟨n0, (pI t.1 7 0, t.2), τ, V, N, T, e, c, lo, ?_, ?_, h, h7.symm, ⟨rfl, fun _ => rfl, fun _ _ => rfl, rfl⟩, kR2_r τ⟩
    · show dF_X11_ticks_21 n (df_X11_ticks_21 n g1) (nI n0) (nI many) t = _
      unfold dF_X11_ticks_21
      rw [if_pos le, nb_let]
    · show dF_X19_run_75 n (df_X19_run_75 n g2) (nI n0) (nI many) τ = _
      unfold dF_X19_run_75 df_X19_run_237
      rw [if_pos le, show many = n0 by omega]
  | succ r ih =>
    intro g g' many t τ V N T e c lo hm hg hg' h h6 h7
    obtain ⟨g1, rfl⟩ : ∃ g1 : Nat, g = g1 + 1 := ⟨g - 1, by omega⟩
    obtain ⟨g2, rfl⟩ : ∃ g2 : Nat, g' = g2 + 1 + 1 := ⟨g' - 2, by omega⟩
    have le : ¬ nI n0 ≤ nI many := fun z => by rw [nI_leI (by omega) (by omega)] at z; omega
    obtain ⟨hJ, hB⟩ := id h
    obtain ⟨x1, x2, x3⟩ := jM_x hJ
    obtain ⟨hI, hL, hev, hv, ⟨g4, g5, g6⟩, hk, hX, h10, h14, hS, h11⟩ := id hJ
    have hce : c ≤ e := hI.2.2.2.2.1
    have he : e ≤ 60000 := hL.2.2.2.2.2
    have c3 : sI t.1 3 = nI c := hI.2.2.2.2.2.1
    have cur : sI t.2.2.1.2.2.1 3 = sI τ.2.2.1.2.1 1 := x1.2.2.2.2.1.1
    have wai : sI t.2.2.1.2.2.1 2 = nI (cW (sR τ.2.2.1.2.1 1)) := x1.2.2.2.1
    have okp : okP (sI τ.2.2.1.2.1 1) := x1.2.2.2.2.1.2.1
    -- the reference ends, with a reason
    have rend : ∀ (g : Nat) (m : Nat) (y : Int32) (τ1 : S19), ¬ sI τ1.1 7 = 0 → df_X19_run_75 n (g + 1) (nI n0) (nI m) τ1 = some (nI m, τ1) := fun g m y τ1 hy => by
      show dF_X19_run_75 n (df_X19_run_75 n g) (nI n0) (nI m) τ1 = _
      unfold dF_X19_run_75 df_X19_run_237
      rw [if_neg hy]
      by_cases z : nI n0 ≤ nI m
      · rw [if_pos z]
      · rw [if_neg z]
    -- it stops
    have stop : ∀ y : Nat, 1 ≤ y → y < 8 → df_X11_stops n t = some (nI y, t) → df_X19_run_75 n (g2 + 1 + 1) (nI n0) (nI many) τ = df_X19_run_139 n (df_X19_run_75 n (g2 + 1)) (nI n0) (nI many) (pI τ.1 7 (nI y), τ.2) → ∃ (q : Nat) (t' : S11) (τ' : S19) (V' : St) (N' T' e' c' : Nat) (lo' : Nat → Nat), df_X11_ticks_21 n (g1 + 1) (nI n0) (nI many) t = some (nI q, t') ∧ df_X19_run_75 n (g2 + 1 + 1) (nI n0) (nI many) τ = some (nI q, τ') ∧ jK n t' τ' vn Q V' N' T' e' c' lo' Nb pos ∧ sI t'.1 7 = sI τ'.1 7 ∧ kC2 t t' ∧ kR2 τ τ' := fun y y1 y8 a b => by
      have yn : ¬ nI y = (0 : Int32) := fun z => by have z : nI y = nI 0 := z; rw [nI_eq (by omega) (by omega)] at z; omega
      refine ⟨many, (pI t.1 7 (nI y), t.2), (pI τ.1 7 (nI y), τ.2), V, N, T, e, c, lo, ?_, ?_, h, rfl, ⟨rfl, fun _ => rfl, fun _ _ => rfl, rfl⟩, ⟨fun j hj => ?_, fun _ _ => rfl, fun _ => rfl, rfl, rfl⟩⟩
      · show dF_X11_ticks_21 n (df_X11_ticks_21 n g1) (nI n0) (nI many) t = _
        unfold dF_X11_ticks_21
        rw [if_neg le, a, nb_b2, nb_let, if_neg (show ¬ sI (pI t.1 7 (nI y)) 7 = 0 from yn)]
      · rw [b]
        unfold df_X19_run_139
        rw [if_neg (show ¬ sI (pI τ.1 7 (nI y)) 7 ≤ 0 from fun z => by have z : nI y ≤ nI 0 := z; rw [nI_leI (by omega) (by omega)] at z; omega)]
        exact rend g2 many (nI y) _ yn
      · show sI (pI τ.1 7 _) j = _
        rw [nb_II, if_neg (by omega)]
    have rt0 : dF_X19_run_75 n (df_X19_run_75 n (g2 + 1)) (nI n0) (nI many) τ = if sI τ.1 5 = 60000 then nd_let (pI τ.1 7 4, τ.2) (fun s50 => df_X19_run_139 n (df_X19_run_75 n (g2 + 1)) (nI n0) (nI many) s50) else nd_b2 (df_X16_count n 2 τ.2.2.1.2) (fun q19 s20 => nd_let (τ.1, (τ.2.1, ((τ.2.2.1.1, s20), τ.2.2.2))) (fun s22 => if lg_cmp q19 (-1) = 0 then nd_b2 (df_X16_isWaiting n s22.2.2.1.2) (fun q44 s45 => nd_let (s22.1, (s22.2.1, ((s22.2.2.1.1, s45), s22.2.2.2))) (fun s47 => if q44 = 0 then df_X19_run_136 n (df_X19_run_75 n (g2 + 1)) (nI n0) (nI many) 2 s47 else df_X19_run_136 n (df_X19_run_75 n (g2 + 1)) (nI n0) (nI many) 1 s47)) else df_X19_run_139 n (df_X19_run_75 n (g2 + 1)) (nI n0) (nI many) s22)) := by
      unfold dF_X19_run_75
      rw [if_neg le, if_pos (show sI τ.1 7 = 0 from h7)]
    have ct2 : df_X16_count n 2 τ.2.2.1.2 = some ((sI τ.2.2.1.2.1 1).toInt64, τ.2.2.1.2) := (sg_ct85 n (by omega) (w := 2) (by omega) (by omega) (by omega) τ.2.2.1.2).trans rfl
    by_cases c6 : c = 60000
    · refine stop 4 (by omega) (by omega) ?_ ?_
      · unfold df_X11_stops df_X11_stops_0
        rw [c3, if_neg (show ¬ nI c < (60000 : Int32) from fun z => by have z : nI c < nI 60000 := z; rw [nI_ltI (by omega) (by omega)] at z; omega)]
        rfl
      · refine Eq.trans rt0 ?_
        rw [if_pos (show sI τ.1 5 = 60000 by rw [g5, c6]; rfl), nb_let]
        rfl
    · have c6l : nI c < (60000 : Int32) := (show nI c < nI 60000 by rw [nI_ltI (by omega) (by omega)]; omega)
      have c6n : ¬ sI τ.1 5 = 60000 := fun z => by rw [g5] at z; have z : nI c = nI 60000 := z; rw [nI_eq (by omega) (by omega)] at z; exact c6 z
      rcases okp with om | ⟨a, a16, ea⟩
      · have lm : lg_cmp (-nI 1 : Int32).toInt64 (-1) = (0 : Int32) := by decide
        by_cases w : 0 < cW (sR τ.2.2.1.2.1 1)
        · refine stop 1 (by omega) (by omega) ?_ ?_
          · unfold df_X11_stops df_X11_stops_0 df_X11_stops_38
            have cw16 : cW (sR τ.2.2.1.2.1 1) ≤ 16 := cN_le _ _
            rw [c3, if_pos c6l, cur, om, if_pos (show (-nI 1 : Int32) < 0 by decide), wai, if_neg (show ¬ nI (cW (sR τ.2.2.1.2.1 1)) ≤ (0 : Int32) from fun z => by have z : nI (cW (sR τ.2.2.1.2.1 1)) ≤ nI 0 := z; rw [nm_nle0 (by omega)] at z; omega)]
            rfl
          · refine Eq.trans rt0 ?_
            unfold df_X19_run_136
            rw [if_neg c6n, ct2, nb_b2, nb_let, om, if_pos lm]
            dsimp only
            rw [sg_wait n (by omega), nb_b2, if_pos w, nb_let, if_neg (show ¬ nI 1 = (0 : Int32) by decide), nb_let]
            rfl
        · refine stop 2 (by omega) (by omega) ?_ ?_
          · unfold df_X11_stops df_X11_stops_0 df_X11_stops_38
            rw [c3, if_pos c6l, cur, om, if_pos (show (-nI 1 : Int32) < 0 by decide), wai, if_pos (show nI (cW (sR τ.2.2.1.2.1 1)) ≤ (0 : Int32) by rw [show cW (sR τ.2.2.1.2.1 1) = 0 by omega]; decide)]
            rfl
          · refine Eq.trans rt0 ?_
            unfold df_X19_run_136
            rw [if_neg c6n, ct2, nb_b2, nb_let, om, if_pos lm]
            dsimp only
            rw [sg_wait n (by omega), nb_b2, if_neg w, nb_let, if_pos (show nI 0 = (0 : Int32) from rfl), nb_let]
            rfl
      · -- it goes on
        have cn : ¬ sI t.2.2.1.2.2.1 3 = -nI 1 := by rw [cur, ea]; exact nk_ne (by omega)
        have ln : ¬ lg_cmp (nI a).toInt64 (-1) = (0 : Int32) := fun z => by
          have z := (lcE _ _).mp z
          have z := congrArg Int64.toInt z
          rw [to_64, nI_toInt (by omega), show (-1 : Int64).toInt = -1 by decide] at z
          omega
        have st0 : df_X11_stops n t = some (nI 0, t) := by
          unfold df_X11_stops df_X11_stops_0
          rw [c3, if_pos c6l, cur, ea, if_neg (dn_3 (by omega))]
          rfl
        obtain ⟨K, Y, m1, m2, m3, m4⟩ := rm_all n (by omega) (t := (pI t.1 7 (nI 0), t.2)) (τ := τ) x1 x2 x3 (by omega) c3 hB
        obtain ⟨w, al, t2, τa, τ2, V', N', T', e', lo', b1, b2, b3, b4, b5, b6, b7, b8, b9, bK, bY⟩ := jm_tick n hn (t := stK (pI t.1 7 (nI 0), t.2) K) (τ := stY τ Y) hJ (by omega) cn h6
        have bK : t2.2.2.2.2.2.2.1 = K := bK
        have bY : τ2.2.2.1.1 = Y := bY
        obtain ⟨y1, y2, y3⟩ := jM_x b5
        have row2 : t2.2.1 2 = t.2.1 2 := b7.2.2.1 2 (by omega)
        have c3' : sI t2.1 3 = nI (c + 1) := b5.1.2.2.2.2.2.1
        have hB2 : bRk n (t2.2.1 2) t2.2.2.2.2.2.2.1 τ2.2.2.1.1 Nb pos := by rw [row2, bK, bY]; exact m3
        obtain ⟨K2, Y2, d1, d2, d3⟩ := ht_all n (t := t2) (τ := τ2) (B := 512 * (c + 1)) (c := c + 1) (N := Nb) (pos := pos) y1 y2 y3 (by omega) c3' 8 0 n n t2.2.2.2.2.2.2.1 τ2.2.2.1.1 (by omega) (by omega) (by omega) hB2 (fun k j hk e => by rw [row2] at e; rw [bK, bY]; exact m4 k j hk e)
        -- both sides up to the reason
        have k1 : nI many + 1 = nI (many + 1) := nI_add ..
        have k2 : nI many + Int32.ofInt 1 = nI (many + 1) := nI_add ..
        have goR : ∃ x4 : Int32, (x4 = 0 ↔ al = nI 0) ∧ df_X19_run_75 n (g2 + 1 + 1) (nI n0) (nI many) τ = df_X19_run_199 n (df_X19_run_75 n (g2 + 1)) (nI n0) (nI (many + 1)) x4 τ2 := by
          have r0 : df_X19_run_75 n (g2 + 1 + 1) (nI n0) (nI many) τ = df_X19_run_139 n (df_X19_run_75 n (g2 + 1)) (nI n0) (nI many) τ := by
            refine Eq.trans rt0 ?_
            rw [if_neg c6n, ct2, nb_b2, nb_let, ea, if_neg ln]
          rw [r0]
          unfold df_X19_run_139
          rw [if_pos (show sI τ.1 7 ≤ 0 by rw [h7]; decide), m2, nb_b1, b2, nb_b2, b3, show nI c + 1 = nI (c + 1) from nI_add .., nb_let, nb_let, k2]
          dsimp only
          rcases b4 with ⟨u1, u2, u3, u4⟩ | ⟨u1, u2⟩
          · refine ⟨1, ⟨fun z => absurd z (by decide), fun z => by rw [u3] at z; exact absurd z (by decide)⟩, ?_⟩
            rw [show sI (pI τa.1 5 (nI (c + 1))) 5 = nI (c + 1) from rfl, show sI (pI τa.1 5 (nI (c + 1))) 6 = nI e from u1, if_pos (show nI (c + 1) ≤ nI e by rw [nI_leI (by omega) (by omega)]; omega), u4]
          · refine ⟨al, Iff.rfl, ?_⟩
            rw [show sI (pI τa.1 5 (nI (c + 1))) 5 = nI (c + 1) from rfl, show sI (pI τa.1 5 (nI (c + 1))) 6 = nI c from u1, if_neg (show ¬ nI (c + 1) ≤ nI c from fun z => by rw [nI_leI (by omega) (by omega)] at z; omega), nb_let, u2, nb_b2]
        obtain ⟨x4, x4a, goR⟩ := goR
        have goC : df_X11_ticks_21 n (g1 + 1) (nI n0) (nI many) t = if sI t2.1 6 = 0 then nd_b2 (df_X11_hit n t2) (fun q16 s17 => df_X11_ticks_69 n (df_X11_ticks_21 n g1) (nI n0) (nI many) q16 s17) else df_X11_ticks_69 n (df_X11_ticks_21 n g1) (nI n0) (nI many) 5 t2 := by
          show dF_X11_ticks_21 n (df_X11_ticks_21 n g1) (nI n0) (nI many) t = _
          unfold dF_X11_ticks_21
          rw [if_neg le, st0, nb_b2, nb_let, if_pos (show sI (pI t.1 7 (nI 0)) 7 = 0 from rfl), m1, nb_b1, b1, nb_b1]
        -- the frames
        have fC : kC2 t t2 := b7
        have fR : kR2 τ τ2 := b8
        -- what is behind the reason
        have fin : ∀ (y : Nat) (t3 : S11) (τ3 : S19), y < 100 → t3.1 = t2.1 → t3.2.1 = t2.2.1 → t3.2.2.1 = t2.2.2.1 → t3.2.2.2.1 = t2.2.2.2.1 → t3.2.2.2.2.1 = t2.2.2.2.2.1 → t3.2.2.2.2.2.1 = t2.2.2.2.2.2.1 → t3.2.2.2.2.2.2.2 = t2.2.2.2.2.2.2.2 → τ3 = stY τ2 τ3.2.2.1.1 → bRk n (t3.2.1 2) t3.2.2.2.2.2.2.1 τ3.2.2.1.1 Nb pos → df_X11_ticks_21 n (g1 + 1) (nI n0) (nI many) t = df_X11_ticks_69 n (df_X11_ticks_21 n g1) (nI n0) (nI many) (nI y) t3 → df_X19_run_75 n (g2 + 1 + 1) (nI n0) (nI many) τ = df_X19_run_231 n (df_X19_run_75 n (g2 + 1)) (nI n0) (nI (many + 1)) (nI y) τ3 → ∃ (q : Nat) (t' : S11) (τ' : S19) (V' : St) (N' T' e' c' : Nat) (lo' : Nat → Nat), df_X11_ticks_21 n (g1 + 1) (nI n0) (nI many) t = some (nI q, t') ∧ df_X19_run_75 n (g2 + 1 + 1) (nI n0) (nI many) τ = some (nI q, τ') ∧ jK n t' τ' vn Q V' N' T' e' c' lo' Nb pos ∧ sI t'.1 7 = sI τ'.1 7 ∧ kC2 t t' ∧ kR2 τ τ' := fun y t3 τ3 y1 e1 e2 e3 e4 e5 e6' e7 eτ hb eC eR => by
          have et : t3 = stK t2 t3.2.2.2.2.2.2.1 := by
            show t3 = (t2.1, (t2.2.1, (t2.2.2.1, (t2.2.2.2.1, (t2.2.2.2.2.1, (t2.2.2.2.2.2.1, (t3.2.2.2.2.2.2.1, t2.2.2.2.2.2.2.2)))))))
            rw [← e1, ← e2, ← e3, ← e4, ← e5, ← e6', ← e7]
          generalize t3.2.2.2.2.2.2.1 = K3 at et hb
          generalize τ3.2.2.1.1 = Y3 at eτ hb
          subst et eτ
          have jk3 : jK n (pI (pI t2.1 7 (nI y)) 6 (nI 0), (stK t2 K3).2) (pI τ2.1 7 (nI y), (stY τ2 Y3).2) vn Q V' N' T' e' (c + 1) lo' Nb pos := ⟨b5, hb⟩
          rw [eC, eR]
          unfold df_X11_ticks_69 df_X19_run_231
          rw [nb_let, nb_let, nb_let]
          have fC3 : kC2 t2 (pI (pI t2.1 7 (nI y)) 6 (nI 0), (stK t2 K3).2) := ⟨rfl, fun _ => rfl, fun _ _ => rfl, rfl⟩
          have fR3 : kR2 τ2 (pI τ2.1 7 (nI y), (stY τ2 Y3).2) := ⟨fun j hj => by
            show sI (pI τ2.1 7 _) j = _
            rw [nb_II, if_neg (by omega)], fun _ _ => rfl, fun _ => rfl, rfl, rfl⟩
          by_cases y0 : y = 0
          · subst y0
            obtain ⟨q, t', τ', V2, N2, T2, e2', c2, lo2, i1, i2, i3, i4, i5, i6⟩ := ih g1 (g2 + 1) (many + 1) (pI (pI t2.1 7 (nI 0)) 6 (nI 0), (stK t2 K3).2) (pI τ2.1 7 (nI 0), (stY τ2 Y3).2) V' N' T' e' (c + 1) lo' (by omega) (by omega) (by omega) jk3 rfl rfl
            refine ⟨q, t', τ', V2, N2, T2, e2', c2, lo2, ?_, i2, i3, i4, kC2_t fC (kC2_t fC3 i5), kR2_t fR (kR2_t fR3 i6)⟩
            show (if sI (pI (pI t2.1 7 (nI 0)) 6 0) 7 = 0 then _ else _) = _
            rw [if_pos (show sI (pI (pI t2.1 7 (nI 0)) 6 0) 7 = 0 from rfl), k2]
            exact i1
          · have yn : ¬ nI y = (0 : Int32) := fun z => by have z : nI y = nI 0 := z; rw [nI_eq (by omega) (by omega)] at z; exact y0 z
            refine ⟨many + 1, (pI (pI t2.1 7 (nI y)) 6 (nI 0), (stK t2 K3).2), (pI τ2.1 7 (nI y), (stY τ2 Y3).2), V', N', T', e', c + 1, lo', ?_, rend g2 (many + 1) (nI y) _ yn, jk3, rfl, kC2_t fC fC3, kR2_t fR fR3⟩
            show (if sI (pI (pI t2.1 7 (nI y)) 6 0) 7 = 0 then _ else _) = _
            rw [if_neg (show ¬ sI (pI (pI t2.1 7 (nI y)) 6 0) 7 = 0 from yn), k1]
            rfl
        have hb2 : bRk n (t2.2.1 2) K2 Y2 Nb pos := d1
        rcases b6 with ⟨u1, u2⟩ | ⟨u1, u2⟩
        · have xn : ¬ x4 = 0 := fun z => by rw [x4a.mp z] at u1; exact absurd u1 (by decide)
          rcases d3 with ⟨v1, v2⟩ | ⟨q, q8, v1, v2⟩
          · have v1 : df_X11_hit n t2 = some (nI 0, stK t2 K2) := v1
            have v2 : df_X19_hit n τ2 = some (-1, stY τ2 Y2) := v2
            refine fin 0 (stK t2 K2) (stY τ2 Y2) (by omega) rfl rfl rfl rfl rfl rfl rfl rfl hb2 ?_ ?_
            · rw [goC, if_pos (show sI t2.1 6 = 0 from u2), v1, nb_b2]
            · rw [goR]
              unfold df_X19_run_199
              rw [v2, nb_b2, if_neg xn, if_pos (show (-1 : Int32) < 0 by decide)]
              rfl
          · have v1 : df_X11_hit n t2 = some (nI (3 + 8 * q), stK t2 K2) := v1
            have v2 : df_X19_hit n τ2 = some (nI q, stY τ2 Y2) := v2
            refine fin (3 + 8 * q) (stK t2 K2) (stY τ2 Y2) (by omega) rfl rfl rfl rfl rfl rfl rfl rfl hb2 ?_ ?_
            · rw [goC, if_pos (show sI t2.1 6 = 0 from u2), v1, nb_b2]
            · rw [goR]
              unfold df_X19_run_199
              rw [v2, nb_b2, if_neg xn, if_neg (dn_3 (by omega)), show (3 : Int32) + 8 * nI q = nI (3 + 8 * q) by rw [show (8 : Int32) * nI q = nI (8 * q) from pk_mul ..]; exact nI_add ..]
        · have xz : x4 = 0 := x4a.mpr u1
          have hb3 : bRk n (t2.2.1 2) t2.2.2.2.2.2.2.1 Y2 Nb pos := bRk_y hB2 d2
          have goC' : df_X11_ticks_21 n (g1 + 1) (nI n0) (nI many) t = df_X11_ticks_69 n (df_X11_ticks_21 n g1) (nI n0) (nI many) (nI 5) t2 := by
            rw [goC, if_neg (show ¬ sI t2.1 6 = 0 by rw [u2]; decide)]
            rfl
          rcases d3 with ⟨v1, v2⟩ | ⟨q, q8, v1, v2⟩
          · have v2 : df_X19_hit n τ2 = some (-1, stY τ2 Y2) := v2
            refine fin 5 t2 (stY τ2 Y2) (by omega) rfl rfl rfl rfl rfl rfl rfl rfl hb3 goC' ?_
            rw [goR]
            unfold df_X19_run_199
            rw [v2, nb_b2, if_pos xz]
            rfl
          · have v2 : df_X19_hit n τ2 = some (nI q, stY τ2 Y2) := v2
            refine fin 5 t2 (stY τ2 Y2) (by omega) rfl rfl rfl rfl rfl rfl rfl rfl hb3 goC' ?_
            rw [goR]
            unfold df_X19_run_199
            rw [v2, nb_b2, if_pos xz]
            rfl

/-- run -/
theorem jc_run (n T L : Nat) (hn : 70000 < n) (v : Int32) (σ : S12) (τ : S19) {Nb : Nat → Nat} {pos : Nat → Nat → Nat} (h : jA n (tl σ) τ) (hb : bRk n (σ.2.1 2) (tl σ).2.2.2.2.2.2.1 τ.2.2.1.1 Nb pos) : (df_X12_run n T L v σ = some (Sum.inr ("java/lang/IllegalArgumentException", σ)) ∧ df_X19_run n v τ = some (0, (pI τ.1 0 1, τ.2))) ∨ (df_X12_run n T L v σ = some (Sum.inr ("java/lang/IllegalStateException", σ)) ∧ df_X19_run n v τ = some (0, (pI τ.1 0 2, τ.2))) ∨ ∃ (r : Int32) (t' : S11) (τ' : S19), df_X12_run n T L v σ = some (Sum.inl (r, pl σ t')) ∧ df_X19_run n v τ = some (r, τ') ∧ sI τ'.1 0 = 0 ∧ jA n t' τ' ∧ bRk n (t'.2.1 2) t'.2.2.2.2.2.2.1 τ'.2.2.1.1 Nb pos ∧ sI t'.1 7 = sI τ'.1 7 ∧ kC2 (tl σ) t' ∧ kR2 (pI τ.1 0 0, τ.2) τ' := by
  have n1 : ¬ nI 1 = (0 : Int32) := by decide
  obtain ⟨A, hA, rfl⟩ := nI_ex v
  have inE : df_X19_in n (nI A).toInt64 0 60000 () = some (if A ≤ 60000 then nI 1 else nI 0, ()) := in_b n (b := 60000) hA (by omega) rfl
  by_cases d : A ≤ 60000
  · have lt0 : ¬ nI A < (0 : Int32) := fun z => by rw [lz_0 hA] at z; omega
    have le6 : nI A ≤ (60000 : Int32) := (show nI A ≤ nI 60000 by rw [nI_leI (by omega) (by omega)]; exact d)
    obtain ⟨h0, ⟨h1, h2, _⟩ | ⟨h1, h2, vn, Q, V, N, T', e, c, k, lo, h3⟩⟩ := h
    · refine Or.inr (Or.inl ⟨?_, ?_⟩)
      · unfold df_X12_run df_X12_run_0
        rw [if_neg lt0, if_pos le6, if_pos (show sI σ.2.2.2.2.1 0 = 0 from h1)]
      · unfold df_X19_run df_X19_run_0 df_X19_run_20 df_X19_run_36
        rw [inE, nb_b2, if_pos d, if_neg n1, if_neg n1, if_pos (show sI τ.1 3 = 0 from h2), nb_fails, nb_b2]
        rfl
    · refine Or.inr (Or.inr ?_)
      have b1 : ¬ sI σ.2.2.2.2.1 0 = 0 := by
        rw [show sI σ.2.2.2.2.1 0 = nI 1 from h1]; decide
      have b2 : ¬ sI τ.1 3 = 0 := by rw [h2]; decide
      have hce : c ≤ e := h3.1.2.2.2.2.1
      obtain ⟨X', r1, r2⟩ := jm_come n hn (jm_0 h3 0) hce
      have e5 : sI τ.1 5 = nI c := h3.2.2.2.2.1.2.1
      have h11 := h3.2.2.2.2.2.2.2.2.2.2
      have goR : df_X19_run n (nI A) τ = if sI τ.1 11 = 0 then df_X19_run_65 n (nI A) 0 (pI (pI τ.1 0 0) 10 (nI (lo (c + 1))), (τ.2.1, ((τ.2.2.1.1, X'), τ.2.2.2))) else df_X19_run_65 n (nI A) 5 (pI (pI τ.1 0 0) 10 (nI (lo (c + 1))), (τ.2.1, ((τ.2.2.1.1, X'), τ.2.2.2))) := by
        unfold df_X19_run df_X19_run_0 df_X19_run_20 df_X19_run_35 df_X19_run_36
        rw [inE, nb_b2, if_pos d, if_neg n1, if_neg n1, if_neg b2, nb_fails, nb_b2, if_pos (show (0 : Int32) = 0 ∧ (0 : Int32) = 0 from ⟨rfl, rfl⟩), if_pos rfl, if_pos rfl, if_pos rfl]
        dsimp only
        rw [show sI (pI τ.1 0 0) 5 = nI c from e5, r1, nb_b1]
        rfl
      have goC : ∀ (r : Int32) (t' : S11), df_X11_ticks n (nI A) (tl σ) = some (r, t') → df_X12_run n T L (nI A) σ = some (Sum.inl (r, pl σ t')) := fun r t' e => by
        unfold df_X12_run df_X12_run_0
        have e : df_X11_ticks n (nI A) (σ.2.2.2.2.1, σ.2.1, σ.2.2.2.2.2.1, σ.2.2.2.2.2.2.1, σ.2.2.2.2.2.2.2.1, σ.2.2.2.2.2.2.2.2.1, σ.2.2.2.2.2.2.2.2.2.1, σ.2.2.2.2.2.2.2.2.2.2) = some (r, t') := e
        rw [if_neg lt0, if_pos le6, if_neg b1, e, nb_b2, nb_let]
        rfl
      rcases h11.2 with m0 | m1
      · have m0 : sI τ.1 11 = nI 0 := m0
        have t6 : sI (tl σ).1 6 = nI 0 := h11.1.trans m0
        have jk : jK n (tl σ) (pI (pI (pI (pI τ.1 0 0) 10 (nI (lo (c + 1)))) 7 0) 11 0, (τ.2.1, ((τ.2.2.1.1, X'), τ.2.2.2))) vn Q V N T' e c lo Nb pos := by
          obtain ⟨q1, q2, q3, q4, q5, q6, q7, q8, q9, qa, qb⟩ := r2
          exact ⟨⟨q1, q2, q3, q4, q5, q6, q7, q8, q9, qa, t6, Or.inl rfl⟩, hb⟩
        obtain ⟨q, t', τ', V', N', T2, e', c', lo', i1, i2, i3, i4, i5, i6⟩ := jm_run n hn d A n n 0 (tl σ) _ V N T' e c lo (by omega) (by omega) (by omega) jk t6 rfl
        refine ⟨nI q, t', τ', goC _ _ ?_, ?_, (i6.1 0 (by omega)).trans rfl, ⟨?_, Or.inr ⟨i5.1.trans h1, (i6.1 3 (by omega)).trans h2, vn, Q, V', N', T2, e', c', c', lo', i3.1⟩⟩, i3.2, i4, i5, ?_⟩
        · unfold df_X11_ticks df_X11_ticks_0
          rw [if_pos (show sI (tl σ).1 6 = 0 from t6)]
          exact i1
        · rw [goR, if_pos (show sI τ.1 11 = 0 from m0)]
          unfold df_X19_run_65
          rw [nb_let, nb_let]
          exact i2
        · unfold sp2
          rw [i5.2.1 0, i5.2.1 1]
          exact h0
        · refine ⟨fun j hj => (i6.1 j hj).trans ?_, i6.2.1, i6.2.2.1, i6.2.2.2.1, i6.2.2.2.2⟩
          show sI (pI (pI (pI (pI τ.1 0 0) 10 _) 7 0) 11 0) j = _
          rw [nb_II, if_neg (by omega), nb_II, if_neg (by omega), nb_II, if_neg (by omega)]
      · have m1 : sI τ.1 11 = nI 1 := m1
        have t6 : sI (tl σ).1 6 = nI 1 := h11.1.trans m1
        refine ⟨0, (pI (pI (tl σ).1 6 0) 7 5, (tl σ).2), (pI (pI (pI (pI τ.1 0 0) 10 (nI (lo (c + 1)))) 7 5) 11 0, (τ.2.1, ((τ.2.2.1.1, X'), τ.2.2.2))), goC _ _ ?_, ?_, rfl, ⟨h0, Or.inr ⟨h1, h2, vn, Q, V, N, T', e, c, c, lo, ?_⟩⟩, hb, rfl, ⟨rfl, fun _ => rfl, fun _ _ => rfl, rfl⟩, ⟨fun j hj => ?_, fun _ _ => rfl, fun _ => rfl, rfl, rfl⟩⟩
        · unfold df_X11_ticks df_X11_ticks_0
          rw [if_neg (show ¬ sI (tl σ).1 6 = 0 by rw [t6]; decide), nb_let, nb_let]
        · rw [goR, if_neg (show ¬ sI τ.1 11 = 0 by rw [m1]; decide)]
          unfold df_X19_run_65
          rw [nb_let, nb_let]
          obtain ⟨n', rfl⟩ : ∃ n' : Nat, n = n' + 1 := ⟨n - 1, by omega⟩
          show dF_X19_run_75 (n' + 1) (df_X19_run_75 (n' + 1) n') (nI A) 0 _ = _
          unfold dF_X19_run_75 df_X19_run_237
          rw [if_neg (show ¬ sI (pI (pI (pI (pI τ.1 0 0) 10 (nI (lo (c + 1)))) 7 5) 11 0) 7 = 0 from (by decide : ¬ (5 : Int32) = 0))]
          by_cases z : nI A ≤ (0 : Int32)
          · rw [if_pos z]
          · rw [if_neg z]
        · obtain ⟨q1, q2, q3, q4, q5, q6, q7, q8, q9, qa, qb⟩ := r2
          exact ⟨q1, q2, q3, q4, q5, q6, q7, q8, q9, qa, rfl, Or.inl rfl⟩
        · show sI (pI (pI (pI (pI τ.1 0 0) 10 _) 7 5) 11 0) j = _
          rw [nb_II, if_neg (by omega), nb_II, if_neg (by omega), nb_II, if_neg (by omega)]
  · refine Or.inl ⟨?_, ?_⟩
    · unfold df_X12_run df_X12_run_0 df_X12_run_10
      rcases rg_e hA (k := 60000) (by omega) d with b | ⟨b1, b2⟩
      · rw [if_pos b]
      · rw [if_neg b1, if_neg (show ¬ nI A ≤ (60000 : Int32) from b2)]
    · unfold df_X19_run df_X19_run_0 df_X19_run_20 df_X19_run_35 df_X19_run_36
      rw [inE, nb_b2, if_neg d, if_pos (show nI 0 = (0 : Int32) from rfl), if_pos (show nI 0 = (0 : Int32) from rfl), nb_fails, nb_b2]
      rfl

theorem pl_pl (σ : S12) (a b : S11) : pl (pl σ a) b = pl σ b := by
  have r : nd_mix 4 b.2.1 (nd_mix 4 a.2.1 σ.2.1) = nd_mix 4 b.2.1 σ.2.1 := by
    funext i
    unfold nd_mix
    by_cases c : i < 4
    · rw [if_pos c, if_pos c]
    · rw [if_neg c, if_neg c, if_neg c]
  show (σ.1, nd_mix 4 b.2.1 (nd_mix 4 a.2.1 σ.2.1), σ.2.2.1, σ.2.2.2.1, b.1, b.2.2.1, b.2.2.2.1, b.2.2.2.2.1, b.2.2.2.2.2.1, b.2.2.2.2.2.2.1, b.2.2.2.2.2.2.2) = _
  rw [r]
  rfl
/-- what the class is worth at now -/
theorem vl_C (n T L : Nat) {σ : S12} {t : S11} {j : Nat} {z : Int32} {v : Int64} {C : St} (hj : j < 9) (h : df_X2_worth n z (nd_st0, (t.2.2.2.2.2.2.1 j, t.2.2.1.2.2)) = some (v, (nd_st0, (C, t.2.2.1.2.2)))) : df_X12_value_102 n T L j z (pl σ t) = some (Sum.inl (v, pl σ (stK t (fun i => if i = j then C else t.2.2.2.2.2.2.1 i)))) := by
  unfold df_X12_value_102
  rw [nb_lt hj]
  have h : df_X2_worth n z (nd_st0, ((pl σ t).2.2.2.2.2.2.2.2.2.1 j, (pl σ t).2.2.2.2.2.1.2.2)) = some (v, (nd_st0, (C, t.2.2.1.2.2))) := h
  rw [h, nb_b2, nb_let]
  rfl
/-- the time that the class asks for is the reference's -/
theorem bf_1 {c : Nat} (h : c ≤ 60000) : (if (0 : Int32) < nI c - 1 then nI c - 1 else 0) = nI (c - 1) := by
  by_cases c0 : c = 0
  · subst c0; decide
  · have e : nI c - 1 = nI (c - 1) := pk_sub (show 1 ≤ c by omega)
    rw [e]
    by_cases c1 : c = 1
    · subst c1; decide
    · rw [if_pos (show (0 : Int32) < nI (c - 1) from (show nI 0 < nI (c - 1) by rw [nI_ltI (by omega) (by omega)]; omega))]
/-- one condition remembers at the count before and is worth now, in both -/
theorem jm_value (n T L : Nat) (hn : 70000 < n) {vn : Nat} {Q V : St} {N T' e c k : Nat} {lo : Nat → Nat} {σ : S12} {τ : S19} (h : jM n vn Q V N T' e c k lo (tl σ) τ) {Nb : Nat → Nat} {pos : Nat → Nat → Nat} (hb : bRk n (σ.2.1 2) (tl σ).2.2.2.2.2.2.1 τ.2.2.1.1 Nb pos) {A j : Nat} (hA : A < 8) (hr : σ.2.1 2 A = some j) : ∃ (v : Int64) (t' : S11) (τ' : S19), (nd_lt j 9 (if sI (σ.2.2.2.2.2.2.2.2.2.1 j) 2 ≤ 0 then df_X12_value_102 n T L j (nI c) σ else nd_b1 (df_X11_moveTo n (nI (c - 1)) (tl σ)) (fun s15 => nd_b1 (df_X2_remember n (sI s15.1 3) (nd_st0, (s15.2.2.2.2.2.2.1 j, s15.2.2.1.2.2))) (fun s19 => nd_b1 (df_X11_moveTo n (nI c) (tl (pl σ (s15.1, (s15.2.1, ((s15.2.2.1.1, (s15.2.2.1.2.1, s19.2.2)), (s15.2.2.2.1, (s15.2.2.2.2.1, (s15.2.2.2.2.2.1, ((fun i => if i = j then s19.2.1 else s15.2.2.2.2.2.2.1 i), s15.2.2.2.2.2.2.2)))))))))) (fun s23 => df_X12_value_102 n T L j (nI c) (pl σ s23)))))) = some (Sum.inl (v, pl σ t')) ∧ df_X19_value_76 n (nI A) (nI (c - 1)) τ = some (v, τ') ∧ jM n vn Q V N T' e c c lo t' τ' ∧ bRk n (t'.2.1 2) t'.2.2.2.2.2.2.1 τ'.2.2.1.1 Nb pos ∧ (kC2 (tl σ) t' ∧ sI t'.1 7 = sI (tl σ).1 7) ∧ (kR2 τ τ' ∧ sI τ'.1 7 = sI τ.1 7) := by
  have hce : c ≤ e := h.1.2.2.2.2.1
  have he : e ≤ 60000 := h.2.1.2.2.2.2.2
  -- the reference at the count before
  obtain ⟨X1, a1, a2⟩ := jm_come n hn (d := c - 1) h (by omega)
  have rx1 : RA n (nI vn) Q (lgL (evK V) lo) (c - 1) X1 := a2.2.2.2.2.2.2.1
  obtain ⟨M0, tA0, _⟩ := h.1.2.2.1.2 (c - 1) (by omega)
  obtain ⟨hk, hd⟩ := id hb
  obtain ⟨i, i9, ir, _, hB⟩ | ⟨ir, _⟩ := (hk A hA).symm
  · rw [hr] at ir
    injection ir with ir
    subst ir
    have N40 : Nb A ≤ 40 := hB.2.1
    have oN : sI (σ.2.2.2.2.2.2.2.2.2.1 j) 2 = nI (Nb A) := hB.1
    -- what follows: both at now
    have fin : ∀ (t2 : S11) (Y2 : St), cI n vn Q V N T' e c lo t2 → sI t2.1 6 = sI (tl σ).1 6 → t2.2.1 2 = σ.2.1 2 → bRk n (σ.2.1 2) t2.2.2.2.2.2.2.1 Y2 Nb pos → tiO (Nb A) (pos A) (t2.2.2.2.2.2.2.1 j) Y2 → yFr τ.2.2.1.1 Y2 → df_X15_remember n (nI A) (τ.2.2.1.1, X1) = some (Y2, X1) → ∃ (v : Int64) (C : St) (τ' : S19), df_X2_worth n (nI c) (nd_st0, (t2.2.2.2.2.2.2.1 j, t2.2.2.1.2.2)) = some (v, (nd_st0, (C, t2.2.2.1.2.2))) ∧ df_X19_value_76 n (nI A) (nI (c - 1)) τ = some (v, τ') ∧ jM n vn Q V N T' e c c lo (stK t2 (fun i => if i = j then C else t2.2.2.2.2.2.2.1 i)) τ' ∧ bRk n (σ.2.1 2) (fun i => if i = j then C else t2.2.2.2.2.2.2.1 i) τ'.2.2.1.1 Nb pos ∧ (kR2 τ τ' ∧ sI τ'.1 7 = sI τ.1 7) := fun t2 Y2 q1 q2 q3 q4 q5 q6 q7 => by
      obtain ⟨X2, b1, b2⟩ := jm_come n hn (d := c) (τ := stY (pI τ.1 10 (nI (lo (c - 1 + 1))), (τ.2.1, ((τ.2.2.1.1, X1), τ.2.2.2))) Y2) (t := tl σ) a2 hce
      have rx2 : RA n (nI vn) Q (lgL (evK V) lo) c X2 := b2.2.2.2.2.2.2.1
      obtain ⟨_, _, _, _, _, _, _, _, tAc, _, _⟩ := id q1
      obtain ⟨m1, m2, m3, _⟩ := tAc.2 X2 rx2
      obtain ⟨j', j9', jr, _, hB2⟩ | ⟨jr, _⟩ := (q4.1 A hA).symm
      · rw [hr] at jr
        injection jr with jr
        subst jr
        obtain ⟨v, C, Y3, r1, r2, r3, r4, r5, r6⟩ := (hB2.2.2.2 (512 * c) c t2.2.2.1.2.2 X2 (t2.2.2.2.2.2.2.1 j) Y2 m1 m2 m3 (by omega) (cSt_r _) (ySt_r _ _)).2 q5
        refine ⟨v, C, (pI (pI τ.1 10 (nI (lo (c - 1 + 1)))) 10 (nI (lo (c + 1))), (τ.2.1, ((Y3, X2), τ.2.2.2))), r1, ?_, ?_, bRk_t q4 r3 r5, ⟨fun i hi => ?_, fun _ _ => rfl, fun _ => rfl, rfl, rfl⟩, rfl⟩
        · unfold df_X19_value_76
          rw [a1, nb_b1]
          dsimp only
          rw [q7, nb_b1, nb_let]
          dsimp only
          rw [show sI (pI τ.1 10 (nI (lo (c - 1 + 1)))) 5 = nI c from h.2.2.2.2.1.2.1]
          have b1 : df_X19_come n (nI c) (pI τ.1 10 (nI (lo (c - 1 + 1))), (τ.2.1, ((Y2, X1), τ.2.2.2))) = some (pI (pI τ.1 10 (nI (lo (c - 1 + 1)))) 10 (nI (lo (c + 1))), (τ.2.1, ((Y2, X2), τ.2.2.2))) := b1
          rw [b1, nb_b1]
          dsimp only
          rw [r2, nb_b2, nb_let]
        · obtain ⟨z1, z2, z3, z4, z5, z6, z7, z8, z9, za, zb⟩ := b2
          exact ⟨q1, z2, z3, z4, z5, z6, z7, z8, z9, za, q2.trans zb.1, zb.2⟩
        · show sI (pI (pI τ.1 10 _) 10 _) i = _
          rw [nb_II, if_neg (by omega), nb_II, if_neg (by omega)]
      · rw [hr] at jr; exact nomatch jr
    by_cases n0 : Nb A = 0
    · -- nothing is remembered
      obtain ⟨m1, m2, m3, _⟩ := tA0.2 X1 rx1
      obtain ⟨⟨C2, Y2, r1, r2, r3, r4, r5, r6⟩, _⟩ := hB.2.2.2 (512 * (c - 1)) (c - 1) M0 X1 ((tl σ).2.2.2.2.2.2.1 j) τ.2.2.1.1 m1 m2 m3 (by omega) (cSt_r _) (ySt_r _ _)
      obtain ⟨v, C, τ', f1, f2, f3, f4, f5⟩ := fin (tl σ) Y2 h.1 rfl rfl (bRk_y hb r4) (fun q hq => by omega) r4 r2
      refine ⟨v, _, τ', ?_, f2, f3, f4, ⟨⟨rfl, fun _ => rfl, fun _ _ => rfl, rfl⟩, rfl⟩, f5⟩
      rw [nb_lt i9, oN, n0, if_pos (show nI 0 ≤ (0 : Int32) by decide)]
      have := vl_C n T L (σ := σ) (t := tl σ) (z := nI c) i9 f1
      rw [pl_tl] at this
      exact this
    · obtain ⟨t1, d1, d2, d3⟩ := mv_1 n hn h.1 (d := c - 1) (by omega)
      obtain ⟨_, _, _, _, _, c3', _, _, tA1, _, _⟩ := id d2
      obtain ⟨m1, m2, m3, _⟩ := tA1.2 X1 rx1
      have kk : t1.2.2.2.2.2.2.1 = (tl σ).2.2.2.2.2.2.1 := d3.2.2.2.2.2.2.2
      obtain ⟨⟨C2, Y2, r1, r2, r3, r4, r5, r6⟩, _⟩ := hB.2.2.2 (512 * (c - 1)) (c - 1) t1.2.2.1.2.2 X1 (t1.2.2.2.2.2.2.1 j) τ.2.2.1.1 m1 m2 m3 (by omega) (by rw [kk]; exact cSt_r _) (ySt_r _ _)
      obtain ⟨t2, e1, e2, e3⟩ := mv_1 n hn (s := stK t1 (fun i => if i = j then C2 else t1.2.2.2.2.2.2.1 i)) (d := c) d2 hce
      have kk2 : t2.2.2.2.2.2.2.1 = (fun i => if i = j then C2 else t1.2.2.2.2.2.2.1 i) := e3.2.2.2.2.2.2.2
      have row2 : t2.2.1 2 = σ.2.1 2 := (e3.2.2.1 2 (by omega)).trans (d3.2.2.1 2 (by omega))
      have hb2 : bRk n (σ.2.1 2) t2.2.2.2.2.2.2.1 Y2 Nb pos := by
        rw [kk2, kk]
        rw [kk] at r3
        exact bRk_t hb r3 r4
      obtain ⟨v, C, τ', f1, f2, f3, f4, f5⟩ := fin t2 Y2 e2 ((e3.1 6 (by omega)).trans (d3.1 6 (by omega))) row2 hb2 (by rw [kk2]; show tiO _ _ (if j = j then C2 else _) Y2; rw [if_pos rfl]; exact r6) r4 r2
      refine ⟨v, _, τ', ?_, f2, f3, ?_, ⟨⟨(e3.1 0 (by omega)).trans (d3.1 0 (by omega)), fun q => (e3.2.1 q).trans (d3.2.1 q), fun r z => (e3.2.2.1 r z).trans (d3.2.2.1 r z), e3.2.2.2.2.2.2.1.trans d3.2.2.2.2.2.2.1⟩, (e3.1 7 (by omega)).trans (d3.1 7 (by omega))⟩, f5⟩
      · rw [nb_lt i9, oN, if_neg (show ¬ nI (Nb A) ≤ (0 : Int32) from fun z => by have z : nI (Nb A) ≤ nI 0 := z; rw [nm_nle0 (by omega)] at z; exact n0 z), d1, nb_b1, c3', r1, nb_b1]
        have tp : tl (pl σ (stK t1 (fun i => if i = j then C2 else t1.2.2.2.2.2.2.1 i))) = stK t1 (fun i => if i = j then C2 else t1.2.2.2.2.2.2.1 i) := tl_pl' (fun r a b => d3.2.2.1 r a)
        show nd_b1 (df_X11_moveTo n (nI c) (tl (pl σ (stK t1 (fun i => if i = j then C2 else t1.2.2.2.2.2.2.1 i))))) _ = _
        rw [tp, e1, nb_b1]
        exact vl_C n T L i9 f1
      · show bRk n (t2.2.1 2) _ _ Nb pos
        rw [row2]
        exact f4
  · rw [hr] at ir; exact nomatch ir
theorem it_15 (n : Nat) {Y : St} {X : St × St} {k : Nat} (hk : k < 8) {v : Int32} (hv : v = nI 0 ∨ v = nI 1) (e : sR Y 1 k = v) : df_X15_isThere n (nI k) (Y, X) = some (v, (Y, X)) := by
  unfold df_X15_isThere df_X15_isThere_0
  rw [nm_ck hk (by omega), nI_clamp (by omega)]
  dsimp only
  rw [e]
  rcases hv with rfl | rfl
  · exact nm_z0
  · exact nm_z1
/-- value -/
theorem jc_value (n T L : Nat) (hn : 70000 < n) (v : Int32) (σ : S12) (τ : S19) {Nb : Nat → Nat} {pos : Nat → Nat → Nat} (h : jA n (tl σ) τ) (hb : bRk n (σ.2.1 2) (tl σ).2.2.2.2.2.2.1 τ.2.2.1.1 Nb pos) : (df_X12_value n T L v σ = some (Sum.inr ("java/lang/IllegalArgumentException", σ)) ∧ df_X19_value n v τ = some (0, (pI τ.1 0 1, τ.2))) ∨ (df_X12_value n T L v σ = some (Sum.inr ("java/lang/IllegalStateException", σ)) ∧ df_X19_value n v τ = some (0, (pI τ.1 0 2, τ.2))) ∨ ∃ (r : Int64) (t' : S11) (τ' : S19), df_X12_value n T L v σ = some (Sum.inl (r, pl σ t')) ∧ df_X19_value n v τ = some (r, τ') ∧ sI τ'.1 0 = 0 ∧ jA n t' τ' ∧ bRk n (t'.2.1 2) t'.2.2.2.2.2.2.1 τ'.2.2.1.1 Nb pos ∧ (kC2 (tl σ) t' ∧ sI t'.1 7 = sI (tl σ).1 7) ∧ (kR2 (pI τ.1 0 0, τ.2) τ' ∧ sI τ'.1 7 = sI τ.1 7) := by
  have n1 : ¬ nI 1 = (0 : Int32) := by decide
  obtain ⟨A, hA, rfl⟩ := nI_ex v
  have inE : df_X19_in n (nI A).toInt64 0 7 () = some (if A ≤ 7 then nI 1 else nI 0, ()) := in_b n (b := 7) hA (by omega) rfl
  by_cases d : A ≤ 7
  · have lt0 : ¬ nI A < (0 : Int32) := fun z => by rw [lz_0 hA] at z; omega
    have lt8 : nI A < (8 : Int32) := (show nI A < nI 8 by rw [nI_ltI (by omega) (by omega)]; omega)
    have a7 : nI A &&& 7 = nI A := (nm_m7 (by omega)).trans (by rw [Nat.mod_eq_of_lt (by omega)])
    have bad : (∀ s : S19, df_X19_value_45 n (nI A) 0 s = some (0, (pI s.1 0 2, s.2))) := fun s => by
      unfold df_X19_value_45 df_X19_value_50
      rw [nb_fails, nb_b2]
      rfl
    obtain ⟨h0, ⟨h1, h2, _⟩ | ⟨h1, h2, vn, Q, V, N, T', e, c, k, lo, h3⟩⟩ := h
    · refine Or.inr (Or.inl ⟨?_, ?_⟩)
      · unfold df_X12_value df_X12_value_0 df_X12_value_39
        rw [if_neg lt0, if_pos lt8, nm_ck (by omega) (by omega), nI_clamp (by omega)]
        cases σ.2.1 2 A with
        | none => rw [nb_mN]
        | some j => rw [nb_mS, if_pos (show sI σ.2.2.2.2.1 0 = 0 from h1)]
      · unfold df_X19_value df_X19_value_0 df_X19_value_20
        rw [inE, nb_b2, if_pos d, if_neg n1, if_neg n1, if_pos (show sI τ.1 3 = 0 from h2), bad]
    · have b1 : ¬ sI σ.2.2.2.2.1 0 = 0 := by
        rw [show sI σ.2.2.2.2.1 0 = nI 1 from h1]; decide
      have b2 : ¬ sI τ.1 3 = 0 := by rw [h2]; decide
      rcases hb.1 A (by omega) with ⟨a, b⟩ | ⟨j, j9, a, b, hB⟩
      · refine Or.inr (Or.inl ⟨?_, ?_⟩)
        · unfold df_X12_value df_X12_value_0 df_X12_value_39
          rw [if_neg lt0, if_pos lt8, nm_ck (by omega) (by omega), nI_clamp (by omega), a, nb_mN]
        · unfold df_X19_value df_X19_value_0 df_X19_value_20
          have it := it_15 n (X := τ.2.2.1.2) (show A < 8 by omega) (Or.inl rfl) b
          have it : df_X15_isThere n (nI A) τ.2.2.1 = some (nI 0, τ.2.2.1) := it
          rw [inE, nb_b2, if_pos d, if_neg n1, if_neg n1, if_neg b2, a7, it, nb_b2, nb_let, if_pos (show nI 0 = (0 : Int32) from rfl), bad]
      · refine Or.inr (Or.inr ?_)
        have hce : c ≤ e := h3.1.2.2.2.2.1
        have he : e ≤ 60000 := h3.2.1.2.2.2.2.2
        obtain ⟨r, t', τ', g1, g2, g3, g4, g5, g6⟩ := jm_value n T L hn (jm_0 h3 0) hb (show A < 8 by omega) a
        have c3 : sI σ.2.2.2.2.1 3 = nI c := h3.1.2.2.2.2.2.1
        have e5 : sI (pI τ.1 0 0) 5 = nI c := h3.2.2.2.2.1.2.1
        refine ⟨r, t', τ', ?_, ?_, (g6.1.1 0 (by omega)).trans rfl, ⟨?_, Or.inr ⟨g5.1.1.trans h1, (g6.1.1 3 (by omega)).trans h2, vn, Q, V, N, T', e, c, c, lo, g3⟩⟩, g4, g5, g6⟩
        · unfold df_X12_value df_X12_value_0
          rw [if_neg lt0, if_pos lt8, nm_ck (by omega) (by omega), nI_clamp (by omega), a, nb_mS, if_neg b1, nb_let, c3, bf_1 (by omega)]
          refine Eq.trans ?_ g1
          congr 1
          by_cases q : sI (σ.2.2.2.2.2.2.2.2.2.1 j) 2 ≤ 0
          · rw [if_pos q, if_pos q]
          · rw [if_neg q, if_neg q]
            show nd_b1 (df_X11_moveTo n (nI (c - 1)) (tl σ)) _ = nd_b1 (df_X11_moveTo n (nI (c - 1)) (tl σ)) _
            congr 1
            funext s15
            rw [nb_let]
            show nd_b1 (df_X2_remember n (sI s15.1 3) (nd_st0, (s15.2.2.2.2.2.2.1 j, s15.2.2.1.2.2))) _ = nd_b1 _ _
            congr 1
            funext s19
            rw [nb_let]
            show nd_b1 (df_X11_moveTo n (nI c) (tl (pl σ (s15.1, (s15.2.1, ((s15.2.2.1.1, (s15.2.2.1.2.1, s19.2.2)), (s15.2.2.2.1, (s15.2.2.2.2.1, (s15.2.2.2.2.2.1, ((fun i => if i = j then s19.2.1 else s15.2.2.2.2.2.2.1 i), s15.2.2.2.2.2.2.2)))))))))) _ = nd_b1 _ _
            congr 1
            funext s23
            rw [nb_let]
            show df_X12_value_102 n T L j (nI c) (pl (pl σ (s15.1, (s15.2.1, ((s15.2.2.1.1, (s15.2.2.1.2.1, s19.2.2)), (s15.2.2.2.1, (s15.2.2.2.2.1, (s15.2.2.2.2.2.1, ((fun i => if i = j then s19.2.1 else s15.2.2.2.2.2.2.1 i), s15.2.2.2.2.2.2.2)))))))) s23) = _
            rw [pl_pl]
        · unfold df_X19_value df_X19_value_0 df_X19_value_20 df_X19_value_49 df_X19_value_50
          have it := it_15 n (X := τ.2.2.1.2) (show A < 8 by omega) (Or.inr rfl) b
          have it : df_X15_isThere n (nI A) τ.2.2.1 = some (nI 1, τ.2.2.1) := it
          rw [inE, nb_b2, if_pos d, if_neg n1, if_neg n1, if_neg b2, a7, it, nb_b2, nb_let, if_neg n1, nb_fails, nb_b2, if_pos (show (0 : Int32) = 0 ∧ (0 : Int32) = 0 from ⟨rfl, rfl⟩), if_pos rfl, if_pos rfl, if_pos rfl]
          dsimp only
          rw [e5]
          by_cases c0 : c = 0
          · rw [if_pos (show nI c = (0 : Int32) by rw [c0]; rfl)]
            rw [c0] at g2
            exact g2
          · rw [if_neg (show ¬ nI c = (0 : Int32) from fun z => by have z : nI c = nI 0 := z; rw [nI_eq (by omega) (by omega)] at z; exact c0 z), show nI c - 1 = nI (c - 1) from pk_sub (show 1 ≤ c by omega)]
            exact g2
        · unfold sp2
          rw [g5.1.2.1 0, g5.1.2.1 1]
          exact h0
  · refine Or.inl ⟨?_, ?_⟩
    · unfold df_X12_value df_X12_value_0 df_X12_value_10
      rcases rg_e hA (k := 7) (by omega) d with b | ⟨b1, b2⟩
      · rw [if_pos b]
      · rw [if_neg b1, if_neg (show ¬ nI A < (8 : Int32) from fun z => b2 (by rw [Int32.le_iff_toInt_le]; have z : nI A < nI 8 := z; rw [Int32.lt_iff_toInt_lt, nI_toInt (show 8 < 2 ^ 31 by omega)] at z; rw [nI_toInt (show 7 < 2 ^ 31 by omega)]; omega))]
    · unfold df_X19_value df_X19_value_0 df_X19_value_20 df_X19_value_49 df_X19_value_50
      rw [inE, nb_b2, if_neg d, if_pos (show nI 0 = (0 : Int32) from rfl), if_pos (show nI 0 = (0 : Int32) from rfl), nb_fails, nb_b2]
      rfl

/-- what a condition is worth at a count, of what was the count before, whoever asks -/
def vA (n vn : Nat) (Q : St) (L : Nat → List (Nat × Int64 × Int32)) (A : Nat) (Cd Y : St) (d : Nat) (v : Int64) : Prop := ∀ (M0 M1 X0 X1 : St × St) (Cd' Y' : St), tA n (nI vn) Q L (d - 1) M0 → RA n (nI vn) Q L (d - 1) X0 → tA n (nI vn) Q L d M1 → RA n (nI vn) Q L d X1 → cSt Cd Cd' → ySt A Y Y' → ∃ Cd2 Y2 Cd3 Y3 : St, df_X2_remember n (nI (d - 1)) (nd_st0, (Cd', M0)) = some (nd_st0, (Cd2, M0)) ∧ df_X15_remember n (nI A) (Y', X0) = some (Y2, X0) ∧ cSt Cd' Cd2 ∧ yFr Y' Y2 ∧ df_X2_worth n (nI d) (nd_st0, (Cd2, M1)) = some (v, (nd_st0, (Cd3, M1))) ∧ df_X15_value n (nI A) (Y2, X1) = some (v, (Y3, X1)) ∧ cSt Cd2 Cd3 ∧ yFr Y2 Y3
theorem vA_ex {n vn A N : Nat} {Q : St} {L : Nat → List (Nat × Int64 × Int32)} {pos : Nat → Nat} {Cd Y : St} {e : Nat} (he : e ≤ 60000) (hs : hsT n (nI vn) Q L e) (hB : bCd n A N pos Cd Y) {d : Nat} (hd : d ≤ e) : ∃ v : Int64, vA n vn Q L A Cd Y d v := by
  obtain ⟨Ma, ta, _⟩ := hs.2 (d - 1) (by omega)
  obtain ⟨Mb, tb, _⟩ := hs.2 d hd
  obtain ⟨⟨Xa, xa⟩, ta2⟩ := id ta
  obtain ⟨⟨Xb, xb⟩, tb2⟩ := id tb
  have bb := hB.2.2.2
  obtain ⟨p1, p2, p3, _⟩ := ta2 Xa xa
  obtain ⟨q1, q2, q3, _⟩ := tb2 Xb xb
  obtain ⟨⟨CA, YB, a1, a2, a3, a4, a5, a6⟩, _⟩ := bb _ (d - 1) Ma Xa Cd Y p1 p2 p3 (by omega) (cSt_r _) (ySt_r _ _)
  obtain ⟨vs, CA3, YB3, b1, b2, b3, b4, b5, b6⟩ := (bb _ d Mb Xb CA YB q1 q2 q3 (by omega) a3 (yFr_s a4 A)).2 a6
  refine ⟨vs, fun M0 M1 X0 X1 C' Y' t0 x0 t1 x1 hc hy => ?_⟩
  obtain ⟨r1, r2, r3, _⟩ := t0.2 X0 x0
  obtain ⟨s1, s2, s3, _⟩ := t1.2 X1 x1
  obtain ⟨⟨C2, Y2, c1, c2, c3, c4, c5, c6⟩, _⟩ := bb _ (d - 1) M0 X0 C' Y' r1 r2 r3 (by omega) hc hy
  -- the first class's memory against the second reference's
  obtain ⟨u1, u2, u3, _⟩ := ta2 X0 x0
  obtain ⟨⟨C4, Y4, d1, d2, d3, d4, d5, d6⟩, _⟩ := bb _ (d - 1) Ma X0 Cd Y' u1 u2 u3 (by omega) (cSt_r _) hy
  rw [a1] at d1
  injection d1 with d1
  injection d1 with _ d1
  injection d1 with d1 _
  subst d1
  rw [c2] at d2
  injection d2 with d2
  injection d2 with d2 _
  subst d2
  -- what both are worth
  obtain ⟨v', C3, Y3, e1, e2, e3, e4, e5, e6⟩ := (bb _ d M1 X1 C2 Y2 s1 s2 s3 (by omega) (cSt_t hc c3) (ySt_t hy (yFr_s c4 A))).2 c6
  obtain ⟨w1, w2, w3, _⟩ := tb2 X1 x1
  obtain ⟨v2, C5, Y5, f1, f2, f3, f4, f5, f6⟩ := (bb _ d Mb X1 CA Y2 w1 w2 w3 (by omega) a3 (ySt_t hy (yFr_s c4 A))).2 d6
  rw [b1] at f1
  injection f1 with f1
  injection f1 with f1 _
  rw [e2] at f2
  injection f2 with f2
  injection f2 with f2 _
  have ev : v' = vs := f2.trans f1.symm
  subst ev
  exact ⟨C2, Y2, C3, Y3, c1, c2, c3, c4, e1, e2, e3, e5⟩
/-- the greatest of some more -/
def rng (f : Nat → Bool) : Nat → Nat → Int32 → Int32
  | _, 0, x => x
  | d, m + 1, x => rng f (d + 1) m (if f (d + 1) = true then nI (d + 1) else x)
theorem rng_lw (f : Nat → Bool) : ∀ m d : Nat, rng f d m (lw f (d + 1)) = lw f (d + m + 1)
  | 0, _ => rfl
  | m + 1, d => by
    unfold rng
    have : (if f (d + 1) = true then nI (d + 1) else lw f (d + 1)) = lw f (d + 1 + 1) := rfl
    rw [this, rng_lw f m (d + 1), show d + 1 + m + 1 = d + (m + 1) + 1 by omega]
theorem rng_2 (f : Nat → Bool) : ∀ (m d : Nat) (x : Int32), (rng f d m x = x ∧ lw f (d + m + 1) = lw f (d + 1)) ∨ ∃ q : Nat, q ≤ d + m ∧ rng f d m x = nI q ∧ lw f (d + m + 1) = nI q
  | 0, _, x => Or.inl ⟨rfl, rfl⟩
  | m + 1, d, x => by
    unfold rng
    rw [show d + (m + 1) + 1 = d + 1 + m + 1 by omega]
    by_cases c : f (d + 1) = true
    · rw [if_pos c]
      rcases rng_2 f m (d + 1) (nI (d + 1)) with ⟨a, b⟩ | ⟨q, q1, a, b⟩
      · refine Or.inr ⟨d + 1, by omega, a, b.trans ?_⟩
        show (if f (d + 1) = true then nI (d + 1) else lw f (d + 1)) = _
        rw [if_pos c]
      · exact Or.inr ⟨q, by omega, a, b⟩
    · rw [if_neg c]
      rcases rng_2 f m (d + 1) x with ⟨a, b⟩ | ⟨q, q1, a, b⟩
      · refine Or.inl ⟨a, b.trans ?_⟩
        show (if f (d + 1) = true then nI (d + 1) else lw f (d + 1)) = _
        rw [if_neg c]
      · exact Or.inr ⟨q, by omega, a, b⟩
/-- what looking back leaves of the class -/
def fJ (j : Nat) (t t' : S11) : Prop := (∀ k : Nat, k = 0 ∨ k = 4 ∨ k = 6 ∨ k = 7 → sI t'.1 k = sI t.1 k) ∧ (∀ k : Nat, sO t'.1 k = sO t.1 k) ∧ (∀ r : Nat, ¬ r = 3 → t'.2.1 r = t.2.1 r) ∧ t'.2.2.2.2.2.1 = t.2.2.2.2.2.1 ∧ (∀ i : Nat, ¬ i = j → t'.2.2.2.2.2.2.1 i = t.2.2.2.2.2.2.1 i) ∧ cSt (t.2.2.2.2.2.2.1 j) (t'.2.2.2.2.2.2.1 j)
theorem fJ_t {j : Nat} {a b c : S11} (h : fJ j a b) (g : fJ j b c) : fJ j a c := ⟨fun k z => (g.1 k z).trans (h.1 k z), fun k => (g.2.1 k).trans (h.2.1 k), fun r z => (g.2.2.1 r z).trans (h.2.2.1 r z), g.2.2.2.1.trans h.2.2.2.1, fun i z => (g.2.2.2.2.1 i z).trans (h.2.2.2.2.1 i z), cSt_t h.2.2.2.2.2 g.2.2.2.2.2⟩
theorem fJ_f {j : Nat} {t t' : S11} (h : fI t t') : fJ j t t' := ⟨h.1, h.2.1, h.2.2.1, h.2.2.2.2.2.2.1, fun i _ => by rw [h.2.2.2.2.2.2.2], by rw [h.2.2.2.2.2.2.2]; exact cSt_r _⟩
theorem fJ_K {j : Nat} {t : S11} {C : St} (h : cSt (t.2.2.2.2.2.2.1 j) C) : fJ j t (stK t (fun i => if i = j then C else t.2.2.2.2.2.2.1 i)) := ⟨fun _ _ => rfl, fun _ => rfl, fun _ _ => rfl, rfl, fun i hi => if_neg hi, by
  show cSt _ (if j = j then C else _)
  rw [if_pos rfl]
  exact h⟩
/-- copies below a count stand where some stood -/
def sbU (u : Nat) (t t' : S11) : Prop := ∃ cp cp' : Nat, sI t.1 1 = nI cp ∧ sI t'.1 1 = nI cp' ∧ cp ≤ 8 ∧ cp' ≤ 8 ∧ ∀ i p : Nat, i < cp' → p < u → sR t'.1 1 i = nI p → ∃ x : Nat, x < cp ∧ sR t.1 1 x = nI p
theorem sbU_c {c u : Nat} {t t' : S11} (h : sbC c t t') (hu : u ≤ c + 1) (hc : c ≤ 60000) : sbU u t t' := by
  obtain ⟨cp, cp', a, b, d, e, f⟩ := h
  refine ⟨cp, cp', a, b, d, e, fun i p hi hp z => ?_⟩
  rcases f i hi with y | ⟨x, x1, x2⟩
  · rw [y] at z
    have := (nI_eq (by omega) (by omega)).mp z
    omega
  · exact ⟨x, x1, by rw [← x2]; exact z⟩
theorem sbU_t {u : Nat} {a b c : S11} (h : sbU u a b) (g : sbU u b c) : sbU u a c := by
  obtain ⟨p1, p2, p3, p4, p5, p6, p7⟩ := h
  obtain ⟨q1, q2, q3, q4, q5, q6, q7⟩ := g
  have : q1 = p2 := nm_inI (by omega) (by omega) (q3.symm.trans p4)
  subst this
  refine ⟨p1, q2, p3, q4, p5, q6, fun i p hi hp z => ?_⟩
  obtain ⟨x, x1, x2⟩ := q7 i p hi hp z
  exact p7 x p x1 hp x2
theorem sbU_e {u : Nat} {t t' : S11} {cp : Nat} (h : t'.1 = t.1) (hc : sI t.1 1 = nI cp) (h8 : cp ≤ 8) : sbU u t t' := ⟨cp, cp, hc, by rw [h]; exact hc, h8, h8, fun i p hi _ z => ⟨i, hi, by rw [← h]; exact z⟩⟩
/-- the class looks through some counts -/
theorem in_71 (n : Nat) (hn : 40000 < n) {vn A j : Nat} {Q V : St} {N T e : Nat} {lo : Nat → Nat} {Cd Y : St} {hv : Nat → Int64} (hj : j < 9) (he : e ≤ 60000) (hhv : ∀ d : Nat, d ≤ e → vA n vn Q (lgL (evK V) lo) A Cd Y d (hv d)) (g10 : Nat → Int32 → Int32 → S11 → Option (Int32 × S11)) (x3 x5 : Int32) : ∀ (m d g : Nat) (x6 : Int32) (t : S11), m < g → d + m ≤ e → cI n vn Q V N T e d lo t → cSt Cd (t.2.2.2.2.2.2.1 j) → ∃ (t' : S11) (g' : Nat), df_X11_latest_71 n g10 g j x3 x5 x6 (nI m) t = dF_X11_latest_71 n g10 (df_X11_latest_71 n g10 g') j x3 x5 (rng (fun d => decide (¬ hv d = 0)) d m x6) (nI 0) t' ∧ cI n vn Q V N T e (d + m) lo t' ∧ fJ j t t' ∧ sbU (d + 1) t t' := fun m => by
  induction m with
  | zero =>
    intro d g x6 t hg hd h hc
    obtain ⟨g1, rfl⟩ : ∃ g1 : Nat, g = g1 + 1 := ⟨g - 1, by omega⟩
    obtain ⟨_, _, _, _, _, _, _, _, _, ⟨cp, sp, at_, ix, hC⟩, _⟩ := id h
    exact ⟨t, g1, rfl, h, fJ_f (fI_r t), sbU_e rfl hC.1.2.2.1 hC.1.2.1⟩
  | succ m ih =>
    intro d g x6 t hg hd h hc
    obtain ⟨g1, rfl⟩ : ∃ g1 : Nat, g = g1 + 1 := ⟨g - 1, by omega⟩
    obtain ⟨_, _, hs, _, _, c3, _, _, tA0, ⟨cp, sp, at_, ix, hC⟩, _⟩ := id h
    obtain ⟨M2, tA2, _⟩ := hs.2 (d + 1) (by omega)
    obtain ⟨X0, x0⟩ := tA0.1
    obtain ⟨X1, x1⟩ := tA2.1
    obtain ⟨C2, Y2, _, _, r1, _, r3, _, _⟩ := hhv (d + 1) (by omega) t.2.2.1.2.2 M2 X0 X1 (t.2.2.2.2.2.2.1 j) Y tA0 x0 tA2 x1 hc (ySt_r _ _)
    have r1 : df_X2_remember n (nI d) (nd_st0, (t.2.2.2.2.2.2.1 j, t.2.2.1.2.2)) = some (nd_st0, (C2, t.2.2.1.2.2)) := r1
    obtain ⟨t1, a1, a2, a3, a4⟩ := ad_in2 n hn (s := stK t (fun i => if i = j then C2 else t.2.2.2.2.2.2.1 i)) (c := d) h (by omega)
    obtain ⟨_, _, _, _, _, c3', _, _, tA1, _, _⟩ := id a2
    have k1 : t1.2.2.2.2.2.2.1 = (fun i => if i = j then C2 else t.2.2.2.2.2.2.1 i) := a3.2.2.2.2.2.2.2
    obtain ⟨C2', Y2', C3, Y3, s1, _, _, _, s5, _, s7, _⟩ := hhv (d + 1) (by omega) t.2.2.1.2.2 t1.2.2.1.2.2 X0 X1 (t.2.2.2.2.2.2.1 j) Y tA0 x0 tA1 x1 hc (ySt_r _ _)
    have s1 : df_X2_remember n (nI d) (nd_st0, (t.2.2.2.2.2.2.1 j, t.2.2.1.2.2)) = some (nd_st0, (C2', t.2.2.1.2.2)) := s1
    rw [r1] at s1
    injection s1 with s1
    injection s1 with _ s1
    injection s1 with s1 _
    subst s1
    have k1j : t1.2.2.2.2.2.2.1 j = C2 := by rw [k1]; show (if j = j then C2 else _) = _; rw [if_pos rfl]
    have f1 : fJ j t (stK t (fun i => if i = j then C2 else t.2.2.2.2.2.2.1 i)) := fJ_K r3
    have f2 : fJ j (stK t (fun i => if i = j then C2 else t.2.2.2.2.2.2.1 i)) t1 := fJ_f a3
    have f3 : fJ j t1 (stK t1 (fun i => if i = j then C3 else t1.2.2.2.2.2.2.1 i)) := fJ_K (by rw [k1j]; exact s7)
    have fA := fJ_t f1 (fJ_t f2 f3)
    have u2 : sbU (d + 1) t t1 := sbU_c (t := stK t (fun i => if i = j then C2 else t.2.2.2.2.2.2.1 i)) a4 (by omega) (by omega)
    obtain ⟨_, _, _, _, _, _, _, _, _, ⟨cp1, sp1, at1, ix1, hC1⟩, _⟩ := id a2
    have u3 : sbU (d + 1) t1 (stK t1 (fun i => if i = j then C3 else t1.2.2.2.2.2.2.1 i)) := sbU_e rfl hC1.1.2.2.1 hC1.1.2.1
    obtain ⟨t', g', i1, i2, i3, i4⟩ := ih (d + 1) g1 (if (decide (¬ hv (d + 1) = 0)) = true then nI (d + 1) else x6) (stK t1 (fun i => if i = j then C3 else t1.2.2.2.2.2.2.1 i)) (by omega) (by omega) a2 (cSt_t hc fA.2.2.2.2.2)
    have i4 : sbU (d + 1) (stK t1 (fun i => if i = j then C3 else t1.2.2.2.2.2.2.1 i)) t' := by
      obtain ⟨p1, p2, p3, p4, p5, p6, p7⟩ := i4
      exact ⟨p1, p2, p3, p4, p5, p6, fun i p hi hp z => p7 i p hi (by omega) z⟩
    refine ⟨t', g', Eq.trans ?_ i1, by rw [show d + (m + 1) = d + 1 + m by omega]; exact i2, fJ_t fA i3, sbU_t u2 (sbU_t u3 i4)⟩
    show dF_X11_latest_71 n g10 (df_X11_latest_71 n g10 g1) j x3 x5 x6 (nI (m + 1)) t = _
    generalize df_X11_latest_71 n g10 g1 = G
    unfold dF_X11_latest_71 df_X11_latest_115
    rw [if_neg (show ¬ nI (m + 1) ≤ (0 : Int32) from fun z => by have z : nI (m + 1) ≤ nI 0 := z; rw [nI_leI (by omega) (by omega)] at z; omega), nb_lt hj, c3, r1, nb_b1, nb_let]
    have a1 : df_X11_advance n (t.1, (t.2.1, ((t.2.2.1.1, (t.2.2.1.2.1, t.2.2.1.2.2)), (t.2.2.2.1, (t.2.2.2.2.1, (t.2.2.2.2.2.1, ((fun i => if i = j then C2 else t.2.2.2.2.2.2.1 i), t.2.2.2.2.2.2.2))))))) = some t1 := a1
    dsimp only
    rw [a1, nb_b1, c3', k1j, s5, nb_b2, nb_let, nb_let, nb_let, nb_let, dn_1, show nI (m + 1) - nI 1 = nI m from dn_2 m]
    by_cases z : hv (d + 1) = 0
    · rw [if_pos ((lcE _ _).mpr z), decide_eq_false (fun y => y z)]
      rfl
    · rw [if_neg (fun y => z ((lcE _ _).mp y)), decide_eq_true z, if_pos rfl]
      dsimp only
      rw [c3']
      rfl

theorem at_m {f : Nat → Nat} {cp : Nat} (m : ∀ i : Nat, i + 1 < cp → f i < f (i + 1)) : ∀ d x : Nat, x + d < cp → f x ≤ f (x + d)
  | 0, _, _ => Nat.le_refl _
  | d + 1, x, h => by
    have a := at_m m d x (by omega)
    have b := m (x + d) (by omega)
    rw [show x + (d + 1) = x + d + 1 by omega]
    omega
theorem at_l {f : Nat → Nat} {cp : Nat} (m : ∀ i : Nat, i + 1 < cp → f i < f (i + 1)) {x y : Nat} (hy : y < cp) (h : f y < f x) : y < x := by
  by_cases c : y < x
  · exact c
  · have := at_m m (y - x) x (by omega)
    rw [show x + (y - x) = y by omega] at this
    omega
theorem gr_1 {f g : Nat → Nat} {cp cp' u : Nat} (m : ∀ i : Nat, i + 1 < cp → f i < f (i + 1)) (m' : ∀ i : Nat, i + 1 < cp' → g i < g (i + 1)) (h : ∀ i : Nat, i < cp' → g i < u → ∃ x : Nat, x < cp ∧ f x = g i) : ∀ i : Nat, i < cp' → g i < u → ∀ x : Nat, x < cp → f x = g i → i ≤ x
  | 0, _, _, _, _, _ => Nat.zero_le _
  | i + 1, hi, hu, x, hx, e => by
    have a := m' i hi
    obtain ⟨y, y1, y2⟩ := h i (by omega) (by omega)
    have b := gr_1 m m' h i (by omega) (by omega) y y1 y2
    have c : y < x := at_l m y1 (by omega)
    omega
theorem lw_c (f : Nat → Bool) : ∀ k : Nat, lw f k = -nI 1 ∨ ∃ q : Nat, q < k ∧ lw f k = nI q
  | 0 => Or.inl rfl
  | k + 1 => by
    show (if f k = true then nI k else lw f k) = _ ∨ ∃ q : Nat, q < k + 1 ∧ (if f k = true then nI k else lw f k) = nI q
    by_cases c : f k = true
    · rw [if_pos c]
      exact Or.inr ⟨k, by omega, rfl⟩
    · rw [if_neg c]
      rcases lw_c f k with a | ⟨q, q1, a⟩
      · exact Or.inl a
      · exact Or.inr ⟨q, by omega, a⟩
/-- the class asks whether it holds at the first count -/
theorem hf_1 (n : Nat) {vn A j : Nat} {Q V : St} {N T e : Nat} {lo : Nat → Nat} {Cd Y : St} {v0 : Int64} (hj : j < 9) (hv0 : vA n vn Q (lgL (evK V) lo) A Cd Y 0 v0) {t : S11} (h : cI n vn Q V N T e 0 lo t) (hc : cSt Cd (t.2.2.2.2.2.2.1 j)) : ∃ K : Nat → St, df_X11_holdsAtFirst n j t = some (if v0 = 0 then nI 0 else nI 1, stK t K) ∧ (∀ i : Nat, ¬ i = j → K i = t.2.2.2.2.2.2.1 i) ∧ cSt (t.2.2.2.2.2.2.1 j) (K j) := by
  obtain ⟨_, _, _, _, _, c3, _, _, tA0, _, _⟩ := id h
  obtain ⟨X0, x0⟩ := tA0.1
  obtain ⟨C2, Y2, C3, Y3, r1, _, r3, _, r5, _, r7, _⟩ := hv0 t.2.2.1.2.2 t.2.2.1.2.2 X0 X0 (t.2.2.2.2.2.2.1 j) Y tA0 x0 tA0 x0 hc (ySt_r _ _)
  have r1 : df_X2_remember n (nI 0) (nd_st0, (t.2.2.2.2.2.2.1 j, t.2.2.1.2.2)) = some (nd_st0, (C2, t.2.2.1.2.2)) := r1
  refine ⟨fun i => if i = j then C3 else if i = j then C2 else t.2.2.2.2.2.2.1 i, ?_, fun i hi => ?_, ?_⟩
  · unfold df_X11_holdsAtFirst df_X11_holdsAtFirst_0
    rw [nb_lt hj, c3, r1, nb_b1, nb_let]
    dsimp only
    rw [c3, show (if j = j then C2 else t.2.2.2.2.2.2.1 j) = C2 from if_pos rfl, r5, nb_b2, nb_let]
    unfold df_X11_holdsAtFirst_34
    by_cases z : v0 = 0
    · rw [if_pos ((lcE _ _).mpr z), if_pos z]
      exact nm_z0
    · rw [if_neg (fun y => z ((lcE _ _).mp y)), if_neg z]
      exact nm_z1
  · show (if i = j then C3 else if i = j then C2 else t.2.2.2.2.2.2.1 i) = _
    rw [if_neg hi, if_neg hi]
  · show cSt _ (if j = j then C3 else if j = j then C2 else t.2.2.2.2.2.2.1 j)
    rw [if_pos rfl]
    exact cSt_t r3 r7
/-- the class looks back, copy after copy -/
theorem cl_10 (n : Nat) (hn : 70000 < n) {vn A j : Nat} {Q V : St} {N T e : Nat} {lo : Nat → Nat} {Cd Y : St} {hv : Nat → Int64} (hj : j < 9) (he : e ≤ 60000) (hhv : ∀ d : Nat, d ≤ e → vA n vn Q (lgL (evK V) lo) A Cd Y d (hv d)) : ∀ (left u g c0 : Nat) (t : S11), left < g → u ≤ e → left ≤ 8 → cI n vn Q V N T e c0 lo t → cSt Cd (t.2.2.2.2.2.2.1 j) → (∀ (cp sp : Nat) (at_ ix : Nat → Nat), cC n (nI vn) Q (lgL (evK V) lo) t cp sp e at_ ix → ∀ i : Nat, i < cp → at_ i ≤ u - 1 → i < left) → ∃ (t' : S11) (c' : Nat), df_X11_latest_10 n g j (nI u) (nI left) t = some (lw (fun d => decide (¬ hv d = 0)) (u + 1), t') ∧ cI n vn Q V N T e c' lo t' ∧ fJ j t t' := fun left => by
  induction left with
  | zero =>
    intro u g c0 t hg hu h8 h hc hcp
    obtain ⟨_, _, _, _, _, _, _, _, _, ⟨cp, sp, at_, ix, hC⟩, _⟩ := id h
    have := hcp cp sp at_ ix hC 0 (by have := hC.1.1; omega) (by rw [hC.2.2.2.1]; omega)
    omega
  | succ left ih =>
    intro u g c0 t hg hu h8 h hc hcp
    obtain ⟨g1, rfl⟩ : ∃ g1 : Nat, g = g1 + 1 := ⟨g - 1, by omega⟩
    obtain ⟨_, _, _, _, _, _, _, _, _, ⟨cp, sp, at_, ix, hC⟩, _⟩ := id h
    obtain ⟨i, q1, q2, q3, q4⟩ := cu_1 n (by omega) (c := u - 1) hC he (by omega)
    obtain ⟨t1, r1, r2, r3, r4⟩ := rs_1c n (by omega) h hC q1
    obtain ⟨p1, p2, p3, p4⟩ := hC.2.2.2.2.2 i q1
    have il : i < left + 1 := hcp cp sp at_ ix hC i q1 q3
    have c3' : sI t1.1 3 = nI (at_ i) := r2.2.2.2.2.2.1
    have hc1 : cSt Cd (t1.2.2.2.2.2.2.1 j) := cSt_t hc (fJ_f (j := j) r3).2.2.2.2.2
    have go : ∀ (x6 : Int32) (K : Nat → St), (∀ i : Nat, ¬ i = j → K i = t1.2.2.2.2.2.2.1 i) → cSt (t1.2.2.2.2.2.2.1 j) (K j) → (at_ i = 0 → x6 = lw (fun d => decide (¬ hv d = 0)) 1) → (¬ at_ i = 0 → x6 = -nI 1) → ∃ (t' : S11) (c' : Nat), df_X11_latest_61 n (df_X11_latest_10 n g1) j (nI u) (nI (left + 1)) (nI (at_ i)) x6 (stK t1 K) = some (lw (fun d => decide (¬ hv d = 0)) (u + 1), t') ∧ cI n vn Q V N T e c' lo t' ∧ fJ j t1 t' := fun x6 K hK hKj z0 z1 => by
      have e1 : fJ j t1 (stK t1 K) := ⟨fun _ _ => rfl, fun _ => rfl, fun _ _ => rfl, rfl, hK, hKj⟩
      obtain ⟨t2, g', i1, i2, i3, i4⟩ := in_71 n (by omega) hj he hhv (df_X11_latest_10 n g1) (nI (left + 1)) (nI (at_ i)) (u - at_ i) (at_ i) n x6 (stK t1 K) (by omega) (by omega) r2 (cSt_t hc1 hKj)
      have st : df_X11_latest_61 n (df_X11_latest_10 n g1) j (nI u) (nI (left + 1)) (nI (at_ i)) x6 (stK t1 K) = dF_X11_latest_71 n (df_X11_latest_10 n g1) (df_X11_latest_71 n (df_X11_latest_10 n g1) g') j (nI (left + 1)) (nI (at_ i)) (rng (fun d => decide (¬ hv d = 0)) (at_ i) (u - at_ i) x6) (nI 0) t2 := by
        rw [← i1]
        unfold df_X11_latest_61
        rw [show sI (stK t1 K).1 3 = nI (at_ i) from c3', nb_let, pk_sub (show at_ i ≤ u by omega)]
      rw [st]
      by_cases w0 : at_ i = 0
      · have ee : rng (fun d => decide (¬ hv d = 0)) (at_ i) (u - at_ i) x6 = lw (fun d => decide (¬ hv d = 0)) (u + 1) := by
          rw [z0 w0, w0]
          have := rng_lw (fun d => decide (¬ hv d = 0)) (u - 0) 0
          rw [show 0 + (u - 0) + 1 = u + 1 by omega] at this
          exact this
        refine ⟨t2, _, ?_, i2, fJ_t e1 i3⟩
        rw [ee]
        unfold dF_X11_latest_71 df_X11_latest_140
        rw [if_pos (show nI 0 ≤ (0 : Int32) by decide)]
        rcases lw_c (fun d => decide (¬ hv d = 0)) (u + 1) with w | ⟨q, qq, w⟩
        · rw [w, if_pos (show -nI 1 < (0 : Int32) by decide), if_pos (show nI (at_ i) = (0 : Int32) by rw [w0]; rfl), nb_let]
          obtain ⟨g2, rfl⟩ : ∃ g2 : Nat, g1 = g2 + 1 := ⟨g1 - 1, by omega⟩
          show dF_X11_latest_10 n (df_X11_latest_10 n g2) j (-1) _ t2 = _
          unfold dF_X11_latest_10 df_X11_latest_147
          rw [if_pos (show (-1 : Int32) < 0 by decide)]
          by_cases zz : nI (left + 1) + Int32.ofInt (-1) ≤ 0
          · rw [if_pos zz]
            rfl
          · rw [if_neg zz]
            rfl
        · rw [w, if_neg (dn_3 (by omega))]
      · have x1 := z1 w0
        subst x1
        have nz : ¬ nI (at_ i) = (0 : Int32) := fun z => by
          have z : nI (at_ i) = nI 0 := z
          rw [nI_eq (by omega) (by omega)] at z
          exact w0 z
        rcases rng_2 (fun d => decide (¬ hv d = 0)) (u - at_ i) (at_ i) (-nI 1) with ⟨a, b⟩ | ⟨q, qq, a, b⟩
        · have cond : ∀ (cp' sp' : Nat) (at' ix' : Nat → Nat), cC n (nI vn) Q (lgL (evK V) lo) t2 cp' sp' e at' ix' → ∀ i' : Nat, i' < cp' → at' i' ≤ at_ i - 1 → i' < left := fun cp' sp' at' ix' hC' i' hi' hle => by
            obtain ⟨ca, cb, a1, a2, a3, a4, a5⟩ := i4
            have a1 : sI t1.1 1 = nI ca := a1
            have e1 : ca = cp := nm_inI (by omega) (by have := hC.1.2.1; omega) (a1.symm.trans r4.1.2.2.1)
            have e2 : cb = cp' := nm_inI (by omega) (by have := hC'.1.2.1; omega) (a2.symm.trans hC'.1.2.2.1)
            subst e1
            subst e2
            have mp : ∀ k : Nat, k < cb → at' k < at_ i + 1 → ∃ x : Nat, x < ca ∧ at_ x = at' k := fun k hk hp => by
              obtain ⟨_, b2, b3, _⟩ := hC'.2.2.2.2.2 k hk
              obtain ⟨x, x1, x2⟩ := a5 k (at' k) hk hp b3
              obtain ⟨_, d2, d3, _⟩ := r4.2.2.2.2.2 x x1
              have x2 : sR t1.1 1 x = nI (at' k) := x2
              exact ⟨x, x1, nm_inI (by omega) (by omega) (d3.symm.trans x2)⟩
            obtain ⟨x, x1, x2⟩ := mp i' hi' (by omega)
            have y1 := gr_1 hC.2.2.2.2.1 hC'.2.2.2.2.1 mp i' hi' (by omega) x x1 x2
            have y2 : x < i := at_l hC.2.2.2.2.1 x1 (by omega)
            omega
          obtain ⟨t', c', j1, j2, j3⟩ := ih (at_ i) g1 _ t2 (by omega) p2 (by omega) i2 (cSt_t hc1 (fJ_t e1 i3).2.2.2.2.2) cond
          refine ⟨t', c', ?_, j2, fJ_t e1 (fJ_t i3 j3)⟩
          rw [a]
          unfold dF_X11_latest_71 df_X11_latest_140
          rw [if_pos (show nI 0 ≤ (0 : Int32) by decide), if_pos (show -nI 1 < (0 : Int32) by decide), if_neg nz, nb_let, dn_1, dn_2, j1, ← b, show at_ i + (u - at_ i) + 1 = u + 1 by omega]
        · refine ⟨t2, _, ?_, i2, fJ_t e1 i3⟩
          rw [a]
          unfold dF_X11_latest_71
          rw [if_pos (show nI 0 ≤ (0 : Int32) by decide), if_neg (dn_3 (by omega)), ← b, show at_ i + (u - at_ i) + 1 = u + 1 by omega]
    have st : df_X11_latest_10 n (g1 + 1) j (nI u) (nI (left + 1)) t = if nI (at_ i) = 0 then nd_b2 (df_X11_holdsAtFirst n j t1) (fun q32 s33 => if q32 = 0 then df_X11_latest_60 n (df_X11_latest_10 n g1) j (nI u) (nI (left + 1)) (nI (at_ i)) s33 else df_X11_latest_61 n (df_X11_latest_10 n g1) j (nI u) (nI (left + 1)) (nI (at_ i)) 0 s33) else df_X11_latest_60 n (df_X11_latest_10 n g1) j (nI u) (nI (left + 1)) (nI (at_ i)) t1 := by
      show dF_X11_latest_10 n (df_X11_latest_10 n g1) j (nI u) (nI (left + 1)) t = _
      generalize df_X11_latest_10 n g1 = G
      unfold dF_X11_latest_10
      rw [if_neg (show ¬ nI (left + 1) ≤ (0 : Int32) from fun z => by have z : nI (left + 1) ≤ nI 0 := z; rw [nI_leI (by omega) (by omega)] at z; omega), if_neg (dn_3 (by omega)), bf_1 (by omega), q2, nb_b2, r1, nb_b1, nb_let, c3']
    rw [st]
    by_cases w0 : at_ i = 0
    · obtain ⟨K, k1, k2, k3⟩ := hf_1 n hj (hhv 0 (by omega)) (show cI n vn Q V N T e 0 lo t1 by rw [← w0]; exact r2) hc1
      by_cases z : hv 0 = 0
      · obtain ⟨t', c', j1, j2, j3⟩ := go (-nI 1) K k2 k3 (fun _ => by
          show _ = (if decide (¬ hv 0 = 0) = true then nI 0 else -nI 1)
          rw [decide_eq_false (fun y => y z), if_neg Bool.false_ne_true]) (fun y => absurd w0 y)
        refine ⟨t', c', ?_, j2, fJ_t (fJ_f r3) j3⟩
        rw [if_pos (show nI (at_ i) = (0 : Int32) by rw [w0]; rfl), k1, if_pos z, nb_b2, if_pos (show nI 0 = (0 : Int32) from rfl)]
        exact j1
      · obtain ⟨t', c', j1, j2, j3⟩ := go 0 K k2 k3 (fun _ => by
          show _ = (if decide (¬ hv 0 = 0) = true then nI 0 else -nI 1)
          rw [decide_eq_true z, if_pos rfl]
          rfl) (fun y => absurd w0 y)
        refine ⟨t', c', ?_, j2, fJ_t (fJ_f r3) j3⟩
        rw [if_pos (show nI (at_ i) = (0 : Int32) by rw [w0]; rfl), k1, if_neg z, nb_b2, if_neg (show ¬ nI 1 = (0 : Int32) by decide)]
        exact j1
    · have nz : ¬ nI (at_ i) = (0 : Int32) := fun z => by
        have z : nI (at_ i) = nI 0 := z
        rw [nI_eq (by omega) (by omega)] at z
        exact w0 z
      obtain ⟨t', c', j1, j2, j3⟩ := go (-nI 1) t1.2.2.2.2.2.2.1 (fun _ _ => rfl) (cSt_r _) (fun y => absurd y w0) (fun _ => rfl)
      refine ⟨t', c', ?_, j2, fJ_t (fJ_f r3) j3⟩
      rw [if_neg nz]
      exact j1
/-- the class looks back -/
theorem cl_all (n : Nat) (hn : 70000 < n) {vn A j : Nat} {Q V : St} {N T e c : Nat} {lo : Nat → Nat} {Cd Y : St} {hv : Nat → Int64} (hj : j < 9) (he : e ≤ 60000) (hhv : ∀ d : Nat, d ≤ e → vA n vn Q (lgL (evK V) lo) A Cd Y d (hv d)) {t : S11} (h : cI n vn Q V N T e c lo t) (hc : cSt Cd (t.2.2.2.2.2.2.1 j)) : ∃ (t' : S11) (c' : Nat), df_X11_latest n j t = some (lw (fun d => decide (¬ hv d = 0)) c, t') ∧ cI n vn Q V N T e c' lo t' ∧ fJ j t t' := by
  have c3 : sI t.1 3 = nI c := h.2.2.2.2.2.1
  have hce : c ≤ e := h.2.2.2.2.1
  by_cases c0 : c = 0
  · refine ⟨t, c, ?_, h, fJ_f (fI_r t)⟩
    unfold df_X11_latest df_X11_latest_0
    rw [c3, c0, nb_let]
    obtain ⟨n', rfl⟩ : ∃ n' : Nat, n = n' + 1 := ⟨n - 1, by omega⟩
    show dF_X11_latest_10 (n' + 1) (df_X11_latest_10 (n' + 1) n') j (nI 0 - 1) 8 t = _
    unfold dF_X11_latest_10 df_X11_latest_147
    rw [if_neg (show ¬ (8 : Int32) ≤ 0 by decide), if_pos (show nI 0 - 1 < (0 : Int32) by decide)]
    rfl
  · obtain ⟨t', c', j1, j2, j3⟩ := cl_10 n hn hj he hhv 8 (c - 1) n c t (by omega) (by omega) (by omega) h hc (fun cp sp at_ ix hC i hi _ => by have := hC.1.2.1; omega)
    rw [show c - 1 + 1 = c by omega] at j1
    refine ⟨t', c', ?_, j2, j3⟩
    unfold df_X11_latest df_X11_latest_0
    rw [c3, nb_let, show nI c - 1 = nI (c - 1) from pk_sub (show 1 ≤ c by omega)]
    exact j1

/-- the reference looks through all counts -/
theorem rk_67 (n : Nat) (hn : 70000 < n) {vn A : Nat} {Q V : St} {N T e c : Nat} {lo : Nat → Nat} {Cd Y : St} {hv : Nat → Int64} {t : S11} (hI : cI n vn Q V N T e c lo t) (he : e ≤ 60000) (hhv : ∀ d : Nat, d ≤ e → vA n vn Q (lgL (evK V) lo) A Cd Y d (hv d)) : ∀ (m k g : Nat) (τ : S19), m + 1 < g → k + m + 1 = c → rLg τ.1 N e lo → (∀ i : Nat, i < N → evT τ.1 i = evK V i) → RA n (nI vn) Q (lgL (evK V) lo) k τ.2.2.1.2 → sI τ.1 10 = nI (lo (k + 1)) → sI τ.1 5 = nI c → sI τ.2.2.1.2.1 14 = -nI 1 → ySt A Y τ.2.2.1.1 → (k = 0 ∨ ∃ (X0 : St × St) (Y0 : St), RA n (nI vn) Q (lgL (evK V) lo) (k - 1) X0 ∧ ySt A Y Y0 ∧ df_X15_remember n (nI A) (Y0, X0) = some (τ.2.2.1.1, X0)) → ∃ (X' : St × St) (Y' : St), df_X19_backTo_67 n g (nI A) (lw (fun d => decide (¬ hv d = 0)) k) (nI k) τ = some (lw (fun d => decide (¬ hv d = 0)) c, (pI (pI τ.1 10 (nI (lo c))) 5 (if lw (fun d => decide (¬ hv d = 0)) c = -nI 1 then nI c else lw (fun d => decide (¬ hv d = 0)) c), (τ.2.1, ((Y', X'), τ.2.2.2)))) ∧ RA n (nI vn) Q (lgL (evK V) lo) (c - 1) X' ∧ sI X'.1 14 = -nI 1 ∧ yFr τ.2.2.1.1 Y' := fun m => by
  induction m with
  | zero =>
    intro k g τ hg hk hL hev hX h10 h5 h14 hY hm
    obtain ⟨g1, rfl⟩ : ∃ g1 : Nat, g = g1 + 2 := ⟨g - 2, by omega⟩
    obtain ⟨_, _, hs, hPp, hce, _⟩ := id hI
    obtain ⟨M0, tA0, _⟩ := hs.2 (k - 1) (by omega)
    obtain ⟨M1, tA1, _⟩ := hs.2 k (by omega)
    obtain ⟨M2, tA2, _⟩ := hs.2 (k + 1) (by omega)
    obtain ⟨X2, x2⟩ := tA2.1
    have k1 : nI k + Int32.ofInt 1 = nI (k + 1) := nI_add ..
    have k1' : nI k + 1 = nI (k + 1) := nI_add ..
    -- what follows, of a memory
    have go : ∀ (X0 : St × St) (Y0 Y1 : St), RA n (nI vn) Q (lgL (evK V) lo) (k - 1) X0 → ySt A Y Y0 → df_X15_remember n (nI A) (Y0, X0) = some (Y1, X0) → yFr τ.2.2.1.1 Y1 → ∃ Y' : St, df_X19_backTo_89 n (df_X19_backTo_67 n (g1 + 1)) (nI A) (lw (fun d => decide (¬ hv d = 0)) k) (nI k) (stY τ Y1) = some (lw (fun d => decide (¬ hv d = 0)) c, (pI (pI τ.1 10 (nI (lo c))) 5 (if lw (fun d => decide (¬ hv d = 0)) c = -nI 1 then nI c else lw (fun d => decide (¬ hv d = 0)) c), (τ.2.1, ((Y', τ.2.2.1.2), τ.2.2.2)))) ∧ yFr τ.2.2.1.1 Y' := fun X0 Y0 Y1 x0 y0 rm yf => by
      obtain ⟨_, Y2, _, Y3, _, r2, _, _, _, r6, _, r8⟩ := hhv k (by omega) M0 M1 X0 τ.2.2.1.2 Cd Y0 tA0 x0 tA1 hX (cSt_r _) y0
      rw [rm] at r2
      injection r2 with r2
      injection r2 with r2 _
      subst r2
      obtain ⟨_, Y4, _, _, _, s2, _, s4, _⟩ := hhv (k + 1) (by omega) M1 M2 τ.2.2.1.2 X2 Cd Y3 tA1 hX tA2 x2 (cSt_r _) (ySt_t hY (yFr_s (yFr_t yf r8) A))
      refine ⟨Y4, ?_, yFr_t yf (yFr_t r8 s4)⟩
      have fin : ∀ x3 : Int32, x3 = lw (fun d => decide (¬ hv d = 0)) c → df_X19_backTo_105 n (df_X19_backTo_67 n (g1 + 1)) (nI A) x3 (nI k) (τ.1, (τ.2.1, ((Y3, τ.2.2.1.2), τ.2.2.2))) = some (lw (fun d => decide (¬ hv d = 0)) c, (pI (pI τ.1 10 (nI (lo c))) 5 (if lw (fun d => decide (¬ hv d = 0)) c = -nI 1 then nI c else lw (fun d => decide (¬ hv d = 0)) c), (τ.2.1, ((Y4, τ.2.2.1.2), τ.2.2.2)))) := fun x3 ex => by
        unfold df_X19_backTo_105 df_X19_backTo_129
        dsimp only
        rw [s2, nb_b1, nb_let]
        dsimp only
        rw [h5, k1', k1, if_pos (show nI c ≤ nI (k + 1) by rw [nI_leI (by omega) (by omega)]; omega), nb_let]
        show dF_X19_backTo_67 n (df_X19_backTo_67 n g1) (nI A) x3 (nI (k + 1)) _ = _
        unfold dF_X19_backTo_67 df_X19_backTo_149
        dsimp only
        rw [h5, if_pos (show nI c ≤ nI (k + 1) by rw [nI_leI (by omega) (by omega)]; omega), nb_let, nb_let, show pI τ.1 10 (nI (lo c)) = τ.1 by rw [show c = k + 1 by omega, ← h10, nm_i0]]
        by_cases z : x3 = -1
        · rw [if_pos z, if_pos (show lw (fun d => decide (¬ hv d = 0)) c = -nI 1 from ex.symm.trans z), ← ex]
        · rw [if_neg z, if_neg (show ¬ lw (fun d => decide (¬ hv d = 0)) c = -nI 1 from fun y => z (ex.trans y)), ← ex]
      unfold df_X19_backTo_89
      rw [show (stY τ Y1).2.2.1 = (Y1, τ.2.2.1.2) from rfl, r6, nb_b2, nb_let]
      by_cases z : hv k = 0
      · rw [if_pos ((lcE _ _).mpr z)]
        refine fin _ ?_
        rw [show c = k + 1 by omega]
        show _ = (if decide (¬ hv k = 0) = true then nI k else _)
        rw [decide_eq_false (fun y => y z), if_neg Bool.false_ne_true]
      · rw [if_neg (fun y => z ((lcE _ _).mp y))]
        refine fin _ ?_
        rw [show c = k + 1 by omega]
        show _ = (if decide (¬ hv k = 0) = true then nI k else _)
        rw [decide_eq_true z, if_pos rfl]
    have st : df_X19_backTo_67 n (g1 + 2) (nI A) (lw (fun d => decide (¬ hv d = 0)) k) (nI k) τ = if nI k = 0 then nd_b1 (df_X15_remember n (nI A) τ.2.2.1) (fun s32 => df_X19_backTo_89 n (df_X19_backTo_67 n (g1 + 1)) (nI A) (lw (fun d => decide (¬ hv d = 0)) k) (nI k) (τ.1, (τ.2.1, (s32, τ.2.2.2)))) else df_X19_backTo_89 n (df_X19_backTo_67 n (g1 + 1)) (nI A) (lw (fun d => decide (¬ hv d = 0)) k) (nI k) τ := by
      show dF_X19_backTo_67 n (df_X19_backTo_67 n (g1 + 1)) _ _ _ τ = _
      generalize df_X19_backTo_67 n (g1 + 1) = G
      unfold dF_X19_backTo_67
      rw [h5, if_neg (show ¬ nI c ≤ nI k from fun z => by rw [nI_leI (by omega) (by omega)] at z; omega)]
      rfl
    rw [st]
    by_cases k0 : k = 0
    · obtain ⟨_, Y2, _, _, _, r2, _, r4, _⟩ := hhv k (by omega) M0 M1 τ.2.2.1.2 τ.2.2.1.2 Cd τ.2.2.1.1 tA0 (by rw [show k - 1 = k by omega]; exact hX) tA1 hX (cSt_r _) hY
      obtain ⟨Y', j1, j2⟩ := go τ.2.2.1.2 τ.2.2.1.1 Y2 (by rw [show k - 1 = k by omega]; exact hX) hY r2 r4
      refine ⟨τ.2.2.1.2, Y', ?_, by rw [show c - 1 = k by omega]; exact hX, h14, j2⟩
      have r2 : df_X15_remember n (nI A) τ.2.2.1 = some (Y2, τ.2.2.1.2) := r2
      rw [if_pos (show nI k = (0 : Int32) by rw [k0]; rfl), r2, nb_b1]
      exact j1
    · rcases hm with y | ⟨X0, Y0, x0, y0, rm⟩
      · exact absurd y k0
      · obtain ⟨Y', j1, j2⟩ := go X0 Y0 τ.2.2.1.1 x0 y0 rm (yFr_r _)
        refine ⟨τ.2.2.1.2, Y', ?_, by rw [show c - 1 = k by omega]; exact hX, h14, j2⟩
        rw [if_neg (show ¬ nI k = (0 : Int32) from fun z => by have z : nI k = nI 0 := z; rw [nI_eq (by omega) (by omega)] at z; exact k0 z)]
        exact j1
  | succ m ih =>
    intro k g τ hg hk hL hev hX h10 h5 h14 hY hm
    obtain ⟨g1, rfl⟩ : ∃ g1 : Nat, g = g1 + 1 := ⟨g - 1, by omega⟩
    obtain ⟨_, _, hs, hPp, hce, _⟩ := id hI
    obtain ⟨M0, tA0, _⟩ := hs.2 (k - 1) (by omega)
    obtain ⟨M1, tA1, _⟩ := hs.2 k (by omega)
    obtain ⟨M2, tA2, _⟩ := hs.2 (k + 1) (by omega)
    obtain ⟨X2, x2⟩ := tA2.1
    have lq := lg_eq hL.2.2.1 hev
    have k1 : nI k + Int32.ofInt 1 = nI (k + 1) := nI_add ..
    have k1' : nI k + 1 = nI (k + 1) := nI_add ..
    have go : ∀ (X0 : St × St) (Y0 Y1 : St), RA n (nI vn) Q (lgL (evK V) lo) (k - 1) X0 → ySt A Y Y0 → df_X15_remember n (nI A) (Y0, X0) = some (Y1, X0) → yFr τ.2.2.1.1 Y1 → ∃ (X' : St × St) (Y' : St), df_X19_backTo_89 n (df_X19_backTo_67 n g1) (nI A) (lw (fun d => decide (¬ hv d = 0)) k) (nI k) (stY τ Y1) = some (lw (fun d => decide (¬ hv d = 0)) c, (pI (pI τ.1 10 (nI (lo c))) 5 (if lw (fun d => decide (¬ hv d = 0)) c = -nI 1 then nI c else lw (fun d => decide (¬ hv d = 0)) c), (τ.2.1, ((Y', X'), τ.2.2.2)))) ∧ RA n (nI vn) Q (lgL (evK V) lo) (c - 1) X' ∧ sI X'.1 14 = -nI 1 ∧ yFr τ.2.2.1.1 Y' := fun X0 Y0 Y1 x0 y0 rm yf => by
      obtain ⟨_, Y2, _, Y3, _, r2, _, _, _, r6, _, r8⟩ := hhv k (by omega) M0 M1 X0 τ.2.2.1.2 Cd Y0 tA0 x0 tA1 hX (cSt_r _) y0
      rw [rm] at r2
      injection r2 with r2
      injection r2 with r2 _
      subst r2
      have hY3 : ySt A Y Y3 := ySt_t hY (yFr_s (yFr_t yf r8) A)
      obtain ⟨_, Y4, _, _, _, s2, _, s4, _⟩ := hhv (k + 1) (by omega) M1 M2 τ.2.2.1.2 X2 Cd Y3 tA1 hX tA2 x2 (cSt_r _) hY3
      obtain ⟨w, _, X3, _, t2, t3, t4, _⟩ := rf_tick n (by omega) (v := nI vn) (Q := Q) (τ := stY τ Y4) (by rw [show lgL (evT (stY τ Y4).1) lo = lgL (evK V) lo from lq]; exact hs) hPp hL (show k < e by omega) (by rw [show lgL (evT (stY τ Y4).1) lo = lgL (evK V) lo from lq]; exact hX) h10
      rw [show lgL (evT (stY τ Y4).1) lo = lgL (evK V) lo from lq] at t3
      obtain ⟨X', Y', j1, j2, j3, j4⟩ := ih (k + 1) g1 (pI τ.1 10 (nI (lo (k + 2))), (τ.2.1, ((Y4, X3), τ.2.2.2))) (by omega) (by omega) hL hev t3 rfl h5 (t4.trans h14) (ySt_t hY3 (yFr_s s4 A)) (Or.inr ⟨τ.2.2.1.2, Y3, hX, hY3, s2⟩)
      have j1 : df_X19_backTo_67 n g1 (nI A) (lw (fun d => decide (¬ hv d = 0)) (k + 1)) (nI (k + 1)) (pI τ.1 10 (nI (lo (k + 2))), (τ.2.1, ((Y4, X3), τ.2.2.2))) = some (lw (fun d => decide (¬ hv d = 0)) c, (pI (pI (pI τ.1 10 (nI (lo (k + 2)))) 10 (nI (lo c))) 5 (if lw (fun d => decide (¬ hv d = 0)) c = -nI 1 then nI c else lw (fun d => decide (¬ hv d = 0)) c), (τ.2.1, ((Y', X'), τ.2.2.2)))) := j1
      rw [nm_ii] at j1
      refine ⟨X', Y', ?_, j2, j3, yFr_t yf (yFr_t r8 (yFr_t s4 j4))⟩
      have fin : ∀ x3 : Int32, x3 = lw (fun d => decide (¬ hv d = 0)) (k + 1) → df_X19_backTo_105 n (df_X19_backTo_67 n g1) (nI A) x3 (nI k) (τ.1, (τ.2.1, ((Y3, τ.2.2.1.2), τ.2.2.2))) = some (lw (fun d => decide (¬ hv d = 0)) c, (pI (pI τ.1 10 (nI (lo c))) 5 (if lw (fun d => decide (¬ hv d = 0)) c = -nI 1 then nI c else lw (fun d => decide (¬ hv d = 0)) c), (τ.2.1, ((Y', X'), τ.2.2.2)))) := fun x3 ex => by
        rw [ex]
        unfold df_X19_backTo_105 df_X19_backTo_129
        dsimp only
        rw [s2, nb_b1, nb_let]
        dsimp only
        have t2 : df_X19_tick n (τ.1, (τ.2.1, ((Y4, τ.2.2.1.2), τ.2.2.2))) = some (w, (pI τ.1 10 (nI (lo (k + 2))), (τ.2.1, ((Y4, X3), τ.2.2.2)))) := t2
        rw [h5, k1', k1, if_neg (show ¬ nI c ≤ nI (k + 1) from fun z => by rw [nI_leI (by omega) (by omega)] at z; omega), t2, nb_b2, nb_let]
        exact j1
      unfold df_X19_backTo_89
      rw [show (stY τ Y1).2.2.1 = (Y1, τ.2.2.1.2) from rfl, r6, nb_b2, nb_let]
      by_cases z : hv k = 0
      · rw [if_pos ((lcE _ _).mpr z)]
        refine fin _ ?_
        show _ = (if decide (¬ hv k = 0) = true then nI k else _)
        rw [decide_eq_false (fun y => y z), if_neg Bool.false_ne_true]
      · rw [if_neg (fun y => z ((lcE _ _).mp y))]
        refine fin _ ?_
        show _ = (if decide (¬ hv k = 0) = true then nI k else _)
        rw [decide_eq_true z, if_pos rfl]
    have st : df_X19_backTo_67 n (g1 + 1) (nI A) (lw (fun d => decide (¬ hv d = 0)) k) (nI k) τ = if nI k = 0 then nd_b1 (df_X15_remember n (nI A) τ.2.2.1) (fun s32 => df_X19_backTo_89 n (df_X19_backTo_67 n g1) (nI A) (lw (fun d => decide (¬ hv d = 0)) k) (nI k) (τ.1, (τ.2.1, (s32, τ.2.2.2)))) else df_X19_backTo_89 n (df_X19_backTo_67 n g1) (nI A) (lw (fun d => decide (¬ hv d = 0)) k) (nI k) τ := by
      show dF_X19_backTo_67 n (df_X19_backTo_67 n g1) _ _ _ τ = _
      generalize df_X19_backTo_67 n g1 = G
      unfold dF_X19_backTo_67
      rw [h5, if_neg (show ¬ nI c ≤ nI k from fun z => by rw [nI_leI (by omega) (by omega)] at z; omega)]
      rfl
    rw [st]
    by_cases k0 : k = 0
    · obtain ⟨_, Y2, _, _, _, r2, _, r4, _⟩ := hhv k (by omega) M0 M1 τ.2.2.1.2 τ.2.2.1.2 Cd τ.2.2.1.1 tA0 (by rw [show k - 1 = k by omega]; exact hX) tA1 hX (cSt_r _) hY
      obtain ⟨X', Y', j1, j2⟩ := go τ.2.2.1.2 τ.2.2.1.1 Y2 (by rw [show k - 1 = k by omega]; exact hX) hY r2 r4
      refine ⟨X', Y', ?_, j2⟩
      have r2 : df_X15_remember n (nI A) τ.2.2.1 = some (Y2, τ.2.2.1.2) := r2
      rw [if_pos (show nI k = (0 : Int32) by rw [k0]; rfl), r2, nb_b1]
      exact j1
    · rcases hm with y | ⟨X0, Y0, x0, y0, rm⟩
      · exact absurd y k0
      · obtain ⟨X', Y', j1, j2⟩ := go X0 Y0 τ.2.2.1.1 x0 y0 rm (yFr_r _)
        refine ⟨X', Y', ?_, j2⟩
        rw [if_neg (show ¬ nI k = (0 : Int32) from fun z => by have z : nI k = nI 0 := z; rw [nI_eq (by omega) (by omega)] at z; exact k0 z)]
        exact j1

/-- looking back, in both -/
theorem jm_back (n T L : Nat) (hn : 70000 < n) {vn : Nat} {Q V : St} {N T' e c k : Nat} {lo : Nat → Nat} {σ : S12} {τ : S19} (h : jM n vn Q V N T' e c k lo (tl σ) τ) {Nb : Nat → Nat} {pos : Nat → Nat → Nat} (hb : bRk n (σ.2.1 2) (tl σ).2.2.2.2.2.2.1 τ.2.2.1.1 Nb pos) {A j : Nat} (hA : A < 8) (hr : σ.2.1 2 A = some j) : ∃ (r : Int32) (t' : S11) (τ' : S19) (c' : Nat), nd_b2 (df_X11_latest n j (tl σ)) (fun q7 s8 => if 0 ≤ q7 then df_X12_backTo_80 n T L q7 q7 (pl σ s8) else df_X12_backTo_80 n T L q7 (nI c) (pl σ s8)) = some (Sum.inl (r, pl σ t')) ∧ nd_b1 (df_X19_anew n τ) (fun s11 => df_X19_backTo_67 n n (nI A) (-1) 0 s11) = some (r, τ') ∧ jM n vn Q V N T' e c' (c - 1) lo t' τ' ∧ bRk n (t'.2.1 2) t'.2.2.2.2.2.2.1 τ'.2.2.1.1 Nb pos ∧ (kC2 (tl σ) t' ∧ sI t'.1 7 = sI (tl σ).1 7) ∧ (kR2 τ τ' ∧ sI τ'.1 7 = sI τ.1 7) := by
  obtain ⟨Pg, Tg, Z, pg⟩ := jm_pg h
  obtain ⟨hI, hL, hev, hv4, ⟨h4, h5, h6⟩, hk, hX, h10, h14, hS, h11⟩ := id h
  obtain ⟨_, _, hs, hPp, hce, _⟩ := id hI
  have lq := lg_eq hL.2.2.1 hev
  have he : e ≤ 60000 := hL.2.2.2.2.2
  obtain ⟨hkB, hd⟩ := id hb
  obtain ⟨i, i9, ir, _, hB⟩ | ⟨ir, _⟩ := (hkB A hA).symm
  · rw [hr] at ir
    injection ir with ir
    subst ir
    have vex : ∀ d : Nat, ∃ v : Int64, d ≤ e → vA n vn Q (lgL (evK V) lo) A ((tl σ).2.2.2.2.2.2.1 j) τ.2.2.1.1 d v := fun d => by
      by_cases y : d ≤ e
      · obtain ⟨v, hv⟩ := vA_ex he hs hB y
        exact ⟨v, fun _ => hv⟩
      · exact ⟨0, fun z => absurd z y⟩
    obtain ⟨hv, hhv⟩ := Classical.axiomOfChoice vex
    obtain ⟨t1, c1, a1, a2, a3⟩ := cl_all n hn i9 he hhv hI (cSt_r _)
    -- the reference
    obtain ⟨X1, b1, b2, b3⟩ := rf_anew n (by omega) (τ := τ) hv4.1 pg (show hsT n (nI vn) Q (lgL (evT τ.1) lo) e by rw [lq]; exact hs) hL h4 (show τ.2.2.1.2.2 = Q from (RA_n hs hk hX).2)
    rw [lq] at b2
    obtain ⟨X', Y', d1, d2, d3, d4⟩ : ∃ (X' : St × St) (Y' : St), df_X19_backTo_67 n n (nI A) (-1) 0 (pI τ.1 10 (nI (lo 1)), (τ.2.1, ((τ.2.2.1.1, X1), τ.2.2.2))) = some (lw (fun d => decide (¬ hv d = 0)) c, (pI (pI τ.1 10 (nI (lo (c - 1 + 1)))) 5 (if lw (fun d => decide (¬ hv d = 0)) c = -nI 1 then nI c else lw (fun d => decide (¬ hv d = 0)) c), (τ.2.1, ((Y', X'), τ.2.2.2)))) ∧ RA n (nI vn) Q (lgL (evK V) lo) (c - 1) X' ∧ sI X'.1 14 = -nI 1 ∧ yFr τ.2.2.1.1 Y' := by
      by_cases c0 : c = 0
      · refine ⟨X1, τ.2.2.1.1, ?_, by rw [c0]; exact b2, b3, yFr_r _⟩
        obtain ⟨n', rfl⟩ : ∃ n' : Nat, n = n' + 1 := ⟨n - 1, by omega⟩
        show dF_X19_backTo_67 (n' + 1) (df_X19_backTo_67 (n' + 1) n') (nI A) (-1) 0 _ = _
        unfold dF_X19_backTo_67 df_X19_backTo_149
        rw [show sI (pI τ.1 10 (nI (lo 1))) 5 = nI c from h5, c0, if_pos (show nI 0 ≤ (0 : Int32) by decide), if_pos rfl, nb_let]
        rfl
      · obtain ⟨X', Y', d1, d2, d3, d4⟩ := rk_67 n hn hI he hhv (c - 1) 0 n (pI τ.1 10 (nI (lo 1)), (τ.2.1, ((τ.2.2.1.1, X1), τ.2.2.2))) (by omega) (by omega) hL hev b2 rfl h5 b3 (ySt_r _ _) (Or.inl rfl)
        have d1 : df_X19_backTo_67 n n (nI A) (-1) 0 (pI τ.1 10 (nI (lo 1)), (τ.2.1, ((τ.2.2.1.1, X1), τ.2.2.2))) = some (lw (fun d => decide (¬ hv d = 0)) c, (pI (pI (pI τ.1 10 (nI (lo 1))) 10 (nI (lo c))) 5 (if lw (fun d => decide (¬ hv d = 0)) c = -nI 1 then nI c else lw (fun d => decide (¬ hv d = 0)) c), (τ.2.1, ((Y', X'), τ.2.2.2)))) := d1
        rw [nm_ii] at d1
        exact ⟨X', Y', by rw [show c - 1 + 1 = c by omega]; exact d1, d2, d3, d4⟩
    -- the class goes there
    have fin : ∀ (c' : Nat), c' ≤ e → (if lw (fun d => decide (¬ hv d = 0)) c = -nI 1 then nI c else lw (fun d => decide (¬ hv d = 0)) c) = nI c' → (∀ s8 : S12, (if 0 ≤ lw (fun d => decide (¬ hv d = 0)) c then df_X12_backTo_80 n T L (lw (fun d => decide (¬ hv d = 0)) c) (lw (fun d => decide (¬ hv d = 0)) c) s8 else df_X12_backTo_80 n T L (lw (fun d => decide (¬ hv d = 0)) c) (nI c) s8) = df_X12_backTo_80 n T L (lw (fun d => decide (¬ hv d = 0)) c) (nI c') s8) → ∃ (r : Int32) (t' : S11) (τ' : S19) (c' : Nat), nd_b2 (df_X11_latest n j (tl σ)) (fun q7 s8 => if 0 ≤ q7 then df_X12_backTo_80 n T L q7 q7 (pl σ s8) else df_X12_backTo_80 n T L q7 (nI c) (pl σ s8)) = some (Sum.inl (r, pl σ t')) ∧ nd_b1 (df_X19_anew n τ) (fun s11 => df_X19_backTo_67 n n (nI A) (-1) 0 s11) = some (r, τ') ∧ jM n vn Q V N T' e c' (c - 1) lo t' τ' ∧ bRk n (t'.2.1 2) t'.2.2.2.2.2.2.1 τ'.2.2.1.1 Nb pos ∧ (kC2 (tl σ) t' ∧ sI t'.1 7 = sI (tl σ).1 7) ∧ (kR2 τ τ' ∧ sI τ'.1 7 = sI τ.1 7) := fun c' hc' e1 e2 => by
      obtain ⟨t2, m1, m2, m3⟩ := mv_1 n hn a2 (d := c') hc'
      have tp : tl (pl σ t1) = t1 := tl_pl' (fun r a b => a3.2.2.1 r a)
      have row2 : t2.2.1 2 = σ.2.1 2 := (m3.2.2.1 2 (by omega)).trans (a3.2.2.1 2 (by omega))
      refine ⟨lw (fun d => decide (¬ hv d = 0)) c, t2, (pI (pI τ.1 10 (nI (lo (c - 1 + 1)))) 5 (if lw (fun d => decide (¬ hv d = 0)) c = -nI 1 then nI c else lw (fun d => decide (¬ hv d = 0)) c), (τ.2.1, ((Y', X'), τ.2.2.2))), c', ?_, by rw [b1, nb_b1]; exact d1, ?_, ?_, ⟨⟨(m3.1 0 (by omega)).trans (a3.1 0 (by omega)), fun q => (m3.2.1 q).trans (a3.2.1 q), fun r z => (m3.2.2.1 r z).trans (a3.2.2.1 r z), m3.2.2.2.2.2.2.1.trans a3.2.2.2.1⟩, (m3.1 7 (by omega)).trans (a3.1 7 (by omega))⟩, ⟨⟨fun i hi => ?_, fun _ _ => rfl, fun _ => rfl, rfl, rfl⟩, rfl⟩⟩
      · rw [a1, nb_b2, e2]
        unfold df_X12_backTo_80
        show nd_b1 (df_X11_moveTo n (nI c') (tl (pl σ t1))) _ = _
        rw [tp, m1, nb_b1, nb_let]
        show some (Sum.inl (_, pl (pl σ t1) t2)) = _
        rw [pl_pl]
      · rw [e1]
        exact ⟨m2, hL, hev, hv4, ⟨h4, rfl, h6⟩, by omega, d2, rfl, d3, hS, ((m3.1 6 (by omega)).trans (a3.1 6 (by omega))).trans h11.1, h11.2⟩
      · rw [row2, m3.2.2.2.2.2.2.2]
        have pe : t1.2.2.2.2.2.2.1 = fun i => if i = j then t1.2.2.2.2.2.2.1 j else (tl σ).2.2.2.2.2.2.1 i := by
          funext i
          by_cases y : i = j
          · rw [if_pos y, y]
          · rw [if_neg y]
            exact a3.2.2.2.2.1 i y
        rw [pe]
        exact bRk_t hb a3.2.2.2.2.2 d4
      · show sI (pI (pI τ.1 10 _) 5 _) i = _
        rw [nb_II, if_neg (by omega), nb_II, if_neg (by omega)]
    rcases lw_c (fun d => decide (¬ hv d = 0)) c with w | ⟨q, qq, w⟩
    · exact fin c hce (by rw [if_pos w]) (fun s8 => by rw [w, if_neg (show ¬ (0 : Int32) ≤ -nI 1 by decide)])
    · exact fin q (by omega) (by rw [w, if_neg (show ¬ nI q = -nI 1 from fun z => dn_3 (k := q) (by omega) (by rw [z]; decide))]) (fun s8 => by rw [w, if_pos (show (0 : Int32) ≤ nI q from (show nI 0 ≤ nI q by rw [nI_leI (by omega) (by omega)]; omega))])
  · rw [hr] at ir; exact nomatch ir
/-- backTo -/
theorem jc_backTo (n T L : Nat) (hn : 70000 < n) (v : Int32) (σ : S12) (τ : S19) {Nb : Nat → Nat} {pos : Nat → Nat → Nat} (h : jA n (tl σ) τ) (hb : bRk n (σ.2.1 2) (tl σ).2.2.2.2.2.2.1 τ.2.2.1.1 Nb pos) : (df_X12_backTo n T L v σ = some (Sum.inr ("java/lang/IllegalArgumentException", σ)) ∧ df_X19_backTo n v τ = some (0, (pI τ.1 0 1, τ.2))) ∨ (df_X12_backTo n T L v σ = some (Sum.inr ("java/lang/IllegalStateException", σ)) ∧ df_X19_backTo n v τ = some (0, (pI τ.1 0 2, τ.2))) ∨ ∃ (r : Int32) (t' : S11) (τ' : S19), df_X12_backTo n T L v σ = some (Sum.inl (r, pl σ t')) ∧ df_X19_backTo n v τ = some (r, τ') ∧ sI τ'.1 0 = 0 ∧ jA n t' τ' ∧ bRk n (t'.2.1 2) t'.2.2.2.2.2.2.1 τ'.2.2.1.1 Nb pos ∧ (kC2 (tl σ) t' ∧ sI t'.1 7 = sI (tl σ).1 7) ∧ (kR2 (pI τ.1 0 0, τ.2) τ' ∧ sI τ'.1 7 = sI τ.1 7) := by
  have n1 : ¬ nI 1 = (0 : Int32) := by decide
  obtain ⟨A, hA, rfl⟩ := nI_ex v
  have inE : df_X19_in n (nI A).toInt64 0 7 () = some (if A ≤ 7 then nI 1 else nI 0, ()) := in_b n (b := 7) hA (by omega) rfl
  by_cases d : A ≤ 7
  · have lt0 : ¬ nI A < (0 : Int32) := fun z => by rw [lz_0 hA] at z; omega
    have lt8 : nI A < (8 : Int32) := (show nI A < nI 8 by rw [nI_ltI (by omega) (by omega)]; omega)
    have a7 : nI A &&& 7 = nI A := (nm_m7 (by omega)).trans (by rw [Nat.mod_eq_of_lt (by omega)])
    have bad : (∀ s : S19, df_X19_backTo_45 n (nI A) 0 s = some (0, (pI s.1 0 2, s.2))) := fun s => by
      unfold df_X19_backTo_45 df_X19_backTo_50
      rw [nb_fails, nb_b2]
      rfl
    obtain ⟨h0, ⟨h1, h2, _⟩ | ⟨h1, h2, vn, Q, V, N, T', e, c, k, lo, h3⟩⟩ := h
    · refine Or.inr (Or.inl ⟨?_, ?_⟩)
      · unfold df_X12_backTo df_X12_backTo_0 df_X12_backTo_39
        rw [if_neg lt0, if_pos lt8, nm_ck (by omega) (by omega), nI_clamp (by omega)]
        cases σ.2.1 2 A with
        | none => rw [nb_mN]
        | some j => rw [nb_mS, if_pos (show sI σ.2.2.2.2.1 0 = 0 from h1)]
      · unfold df_X19_backTo df_X19_backTo_0 df_X19_backTo_20
        rw [inE, nb_b2, if_pos d, if_neg n1, if_neg n1, if_pos (show sI τ.1 3 = 0 from h2), bad]
    · have b1 : ¬ sI σ.2.2.2.2.1 0 = 0 := by
        rw [show sI σ.2.2.2.2.1 0 = nI 1 from h1]; decide
      have b2 : ¬ sI τ.1 3 = 0 := by rw [h2]; decide
      rcases hb.1 A (by omega) with ⟨a, b⟩ | ⟨j, j9, a, b, hB⟩
      · refine Or.inr (Or.inl ⟨?_, ?_⟩)
        · unfold df_X12_backTo df_X12_backTo_0 df_X12_backTo_39
          rw [if_neg lt0, if_pos lt8, nm_ck (by omega) (by omega), nI_clamp (by omega), a, nb_mN]
        · unfold df_X19_backTo df_X19_backTo_0 df_X19_backTo_20
          have it := it_15 n (X := τ.2.2.1.2) (show A < 8 by omega) (Or.inl rfl) b
          have it : df_X15_isThere n (nI A) τ.2.2.1 = some (nI 0, τ.2.2.1) := it
          rw [inE, nb_b2, if_pos d, if_neg n1, if_neg n1, if_neg b2, a7, it, nb_b2, nb_let, if_pos (show nI 0 = (0 : Int32) from rfl), bad]
      · refine Or.inr (Or.inr ?_)
        obtain ⟨r, t', τ', c', g1, g2, g3, g4, g5, g6⟩ := jm_back n T L hn (jm_0 h3 0) hb (show A < 8 by omega) a
        have c3 : sI σ.2.2.2.2.1 3 = nI c := h3.1.2.2.2.2.2.1
        refine ⟨r, t', τ', ?_, ?_, (g6.1.1 0 (by omega)).trans rfl, ⟨?_, Or.inr ⟨g5.1.1.trans h1, (g6.1.1 3 (by omega)).trans h2, vn, Q, V, N, T', e, c', c - 1, lo, g3⟩⟩, g4, g5, g6⟩
        · unfold df_X12_backTo df_X12_backTo_0
          rw [if_neg lt0, if_pos lt8, nm_ck (by omega) (by omega), nI_clamp (by omega), a, nb_mS, if_neg b1, nb_let, c3]
          exact g1
        · unfold df_X19_backTo df_X19_backTo_0 df_X19_backTo_20 df_X19_backTo_49 df_X19_backTo_50
          have it := it_15 n (X := τ.2.2.1.2) (show A < 8 by omega) (Or.inr rfl) b
          have it : df_X15_isThere n (nI A) τ.2.2.1 = some (nI 1, τ.2.2.1) := it
          rw [inE, nb_b2, if_pos d, if_neg n1, if_neg n1, if_neg b2, a7, it, nb_b2, nb_let, if_neg n1, nb_fails, nb_b2, if_pos (show (0 : Int32) = 0 ∧ (0 : Int32) = 0 from ⟨rfl, rfl⟩), if_pos rfl, if_pos rfl, if_pos rfl]
          exact g2
        · unfold sp2
          rw [g5.1.2.1 0, g5.1.2.1 1]
          exact h0
  · refine Or.inl ⟨?_, ?_⟩
    · unfold df_X12_backTo df_X12_backTo_0 df_X12_backTo_10
      rcases rg_e hA (k := 7) (by omega) d with b | ⟨b1, b2⟩
      · rw [if_pos b]
      · rw [if_neg b1, if_neg (show ¬ nI A < (8 : Int32) from fun z => b2 (by rw [Int32.le_iff_toInt_le]; have z : nI A < nI 8 := z; rw [Int32.lt_iff_toInt_lt, nI_toInt (show 8 < 2 ^ 31 by omega)] at z; rw [nI_toInt (show 7 < 2 ^ 31 by omega)]; omega))]
    · unfold df_X19_backTo df_X19_backTo_0 df_X19_backTo_20 df_X19_backTo_49 df_X19_backTo_50
      rw [inE, nb_b2, if_neg d, if_pos (show nI 0 = (0 : Int32) from rfl), if_pos (show nI 0 = (0 : Int32) from rfl), nb_fails, nb_b2]
      rfl

