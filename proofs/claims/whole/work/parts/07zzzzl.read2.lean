/-- the latest of a kind, counted -/
def ltF (kd : Nat → Int32) (w : Int32) : Nat → Int64 → Int32
  | 0, _ => -1
  | j + 1, x => if kd j = w then (if x - 1 = 0 then nI j else ltF kd w j (x - 1)) else ltF kd w j x
theorem ltF_c {kd kd' : Nat → Int32} {w : Int32} : ∀ (j : Nat) (x : Int64), (∀ i : Nat, i < j → kd i = kd' i) → ltF kd w j x = ltF kd' w j x
  | 0, _, _ => rfl
  | j + 1, x, h => by
    unfold ltF
    rw [h j (by omega), ltF_c j (x - 1) (fun i hi => h i (by omega)), ltF_c j x (fun i hi => h i (by omega))]
theorem ltF_r (kd : Nat → Int32) (w : Int32) : ∀ (j : Nat) (x : Int64), ltF kd w j x = -1 ∨ ∃ f : Nat, f < j ∧ ltF kd w j x = nI f ∧ kd f = w
  | 0, _ => Or.inl rfl
  | j + 1, x => by
    unfold ltF
    by_cases c : kd j = w
    · rw [if_pos c]
      by_cases d : x - 1 = 0
      · rw [if_pos d]
        exact Or.inr ⟨j, by omega, rfl, c⟩
      · rw [if_neg d]
        rcases ltF_r kd w j (x - 1) with a | ⟨f, a, b, e⟩
        · exact Or.inl a
        · exact Or.inr ⟨f, by omega, b, e⟩
    · rw [if_neg c]
      rcases ltF_r kd w j x with a | ⟨f, a, b, e⟩
      · exact Or.inl a
      · exact Or.inr ⟨f, by omega, b, e⟩
theorem lt_C (n : Nat) {V : St} (w : Int32) : ∀ (j g : Nat) (x : Int64), j < g → j ≤ 2048 → df_X3_latest_9 n g w x (nI j - nI 1) V = some (ltF (sR V 0) w j x, V)
  | 0, g, x, hg, _ => by
    obtain ⟨g1, rfl⟩ : ∃ g1 : Nat, g = g1 + 1 := ⟨g - 1, by omega⟩
    show dF_X3_latest_9 n (df_X3_latest_9 n g1) w x _ V = _
    unfold dF_X3_latest_9
    rw [if_pos dn_0]
    rfl
  | j + 1, g, x, hg, hj => by
    obtain ⟨g1, rfl⟩ : ∃ g1 : Nat, g = g1 + 1 := ⟨g - 1, by omega⟩
    have i1 := lt_C n (V := V) w j g1 (x - 1) (by omega) (by omega)
    have i2 := lt_C n (V := V) w j g1 x (by omega) (by omega)
    rw [dn_2]
    show dF_X3_latest_9 n (df_X3_latest_9 n g1) w x (nI j) V = _
    generalize df_X3_latest_9 n g1 = G at i1 i2
    unfold dF_X3_latest_9 df_X3_latest_41 ltF
    rw [if_neg (dn_3 (by omega)), nm_ck (by omega) (by omega), nI_clamp (by omega), nb_let, nb_let, nb_let, dn_1, i1, i2]
    by_cases c : sR V 0 j = w
    · rw [if_pos c, if_pos c]
      by_cases d : x - 1 = 0
      · rw [if_pos ((lcE _ _).mpr d), if_pos d]
      · rw [if_neg (fun z => d ((lcE _ _).mp z)), if_neg d]
    · rw [if_neg c, if_neg c]
theorem lt_R (n : Nat) {C : St} (w : Int32) : ∀ (j g : Nat) (x : Int64), j < g → j ≤ 2048 → df_X14_before_11 n g w x (nI j - nI 1) C = some (ltF (sR C 0) w j x, C)
  | 0, g, x, hg, _ => by
    obtain ⟨g1, rfl⟩ : ∃ g1 : Nat, g = g1 + 1 := ⟨g - 1, by omega⟩
    show dF_X14_before_11 n (df_X14_before_11 n g1) w x _ C = _
    unfold dF_X14_before_11
    rw [if_pos dn_0]
    rfl
  | j + 1, g, x, hg, hj => by
    obtain ⟨g1, rfl⟩ : ∃ g1 : Nat, g = g1 + 1 := ⟨g - 1, by omega⟩
    have i1 := lt_R n (C := C) w j g1 (x - 1) (by omega) (by omega)
    have i2 := lt_R n (C := C) w j g1 x (by omega) (by omega)
    rw [dn_2]
    show dF_X14_before_11 n (df_X14_before_11 n g1) w x (nI j) C = _
    generalize df_X14_before_11 n g1 = G at i1 i2
    unfold dF_X14_before_11 df_X14_before_36 df_X14_before_59 ltF
    rw [if_neg (dn_3 (by omega)), nm_ck (by omega) (by omega), nI_clamp (by omega), nm_ck (by omega) (by omega), nm_ck (by omega) (by omega), nb_let, nb_let, dn_1, i1, i2]
    by_cases c : sR C 0 j = w
    · rw [if_pos c, if_pos c, if_pos c]
      by_cases d : x - 1 = 0
      · rw [if_pos ((lcE _ _).mpr d), if_pos d]
      · rw [if_neg (fun z => d ((lcE _ _).mp z)), if_neg d]
    · rw [if_neg c, if_neg c, if_neg c]
theorem lt_CN (n : Nat) (hn : 4096 < n) {m : Nat} {u : Int64} {V C : St} (hE : rdE m u V C) (w : Int32) (x : Int64) : df_X3_latest n w x (sI V 1) V = some (ltF (sR V 0) w m x, V) := by
  unfold df_X3_latest df_X3_latest_0
  have := hE.1
  rw [nb_let, hE.2.1]
  exact lt_C n w m n x (by omega) (by omega)
theorem lt_RN (n : Nat) (hn : 4096 < n) {m : Nat} {u : Int64} {V C : St} (hE : rdE m u V C) (w : Int32) (x : Int64) : df_X14_before n w x C = some (ltF (sR V 0) w m x, C) := by
  unfold df_X14_before df_X14_before_0
  have := hE.1
  rw [nb_let, hE.2.2.1, ltF_c m x (fun i hi => (hE.2.2.2 i hi).2.1.symm)]
  exact lt_R n w m n x (by omega) (by omega)
/-- bytes are read behind a fault -/
theorem rb_x (n : Nat) {T len m : Nat} {u : Int64} {R V : St} {N : Nat} (hN : N ≤ 8) : ∀ (k g i : Nat) (x : Int64) (C : St), i + k = N → k < g → rdX T len m u R V C → ∃ (v : Int64) (C' : St), df_X14_readBytes_5 n g (nI N) x (nI i) C = some (v, C') ∧ rdX T len m u R V C' := fun k => by
  induction k with
  | zero =>
    intro g i x C hk hg h
    obtain ⟨g1, rfl⟩ : ∃ g1 : Nat, g = g1 + 1 := ⟨g - 1, by omega⟩
    refine ⟨x, C, ?_, h⟩
    show dF_X14_readBytes_5 n (df_X14_readBytes_5 n g1) (nI N) x (nI i) C = _
    unfold dF_X14_readBytes_5
    rw [if_pos (show nI N ≤ nI i by rw [nI_leI (by omega) (by omega)]; omega)]
  | succ k ih =>
    intro g i x C hk hg h
    obtain ⟨g1, rfl⟩ : ∃ g1 : Nat, g = g1 + 1 := ⟨g - 1, by omega⟩
    obtain ⟨C1, e1, h1⟩ := nx_x n h
    obtain ⟨v, C', e2, h2⟩ := ih g1 (i + 1) ((x <<< ((8 : Int32).toInt64 &&& 63)) ||| (0 : Int32).toInt64) C1 (by omega) (by omega) h1
    refine ⟨v, C', ?_, h2⟩
    show dF_X14_readBytes_5 n (df_X14_readBytes_5 n g1) (nI N) x (nI i) C = _
    unfold dF_X14_readBytes_5
    rw [if_neg (show ¬ nI N ≤ nI i from fun z => by rw [nI_leI (by omega) (by omega)] at z; omega), e1, nb_b2, nb_let, nb_let, show nI i + Int32.ofInt 1 = nI (i + 1) from nI_add ..]
    exact e2
/-- bytes are read, in both -/
theorem rb_o (n : Nat) {T len m : Nat} {u : Int64} {R : St} {N : Nat} (hN : N ≤ 8) : ∀ (k g g' i p : Nat) (x : Int64) (V C : St), i + k = N → k < g → k < g' → rdO T len m u p R V C → (∃ (v : Int64) (p' : Nat) (V' C' : St), df_X3_readBytes_5 n T g (nI N) x (nI i) (R, V) = some (v, (R, V')) ∧ df_X14_readBytes_5 n g' (nI N) x (nI i) C = some (v, C') ∧ rdO T len m u p' R V' C') ∨ ∃ (v w : Int64) (V' C' : St), df_X3_readBytes_5 n T g (nI N) x (nI i) (R, V) = some (v, (R, V')) ∧ df_X14_readBytes_5 n g' (nI N) x (nI i) C = some (w, C') ∧ rdX T len m u R V' C' := fun k => by
  induction k with
  | zero =>
    intro g g' i p x V C hk hg hg' h
    obtain ⟨g1, rfl⟩ : ∃ g1 : Nat, g = g1 + 1 := ⟨g - 1, by omega⟩
    obtain ⟨g2, rfl⟩ : ∃ g2 : Nat, g' = g2 + 1 := ⟨g' - 1, by omega⟩
    have le : nI N ≤ nI i := by rw [nI_leI (by omega) (by omega)]; omega
    refine Or.inl ⟨x, p, V, C, ?_, ?_, h⟩
    · show dF_X3_readBytes_5 n T (df_X3_readBytes_5 n T g1) (nI N) x (nI i) (R, V) = _
      unfold dF_X3_readBytes_5
      rw [if_pos le]
      rfl
    · show dF_X14_readBytes_5 n (df_X14_readBytes_5 n g2) (nI N) x (nI i) C = _
      unfold dF_X14_readBytes_5
      rw [if_pos le]
  | succ k ih =>
    intro g g' i p x V C hk hg hg' h
    obtain ⟨g1, rfl⟩ : ∃ g1 : Nat, g = g1 + 1 + 1 := ⟨g - 2, by omega⟩
    obtain ⟨g2, rfl⟩ : ∃ g2 : Nat, g' = g2 + 1 := ⟨g' - 1, by omega⟩
    have nl : ¬ nI N ≤ nI i := fun z => by rw [nI_leI (by omega) (by omega)] at z; omega
    have i1 : nI i + Int32.ofInt 1 = nI (i + 1) := nI_add ..
    have v4 : sI V 4 = 0 := h.2.2.2.2.1
    have tC : ∀ (z : Int32) (V1 : St), df_X3_readByte n T (R, V) = some (z, (R, V1)) → df_X3_readBytes_5 n T (g1 + 1 + 1) (nI N) x (nI i) (R, V) = df_X3_readBytes_5 n T (g1 + 1) (nI N) ((x <<< ((8 : Int32).toInt64 &&& 63)) ||| z.toInt64) (nI (i + 1)) (R, V1) := fun z V1 e => by
      show dF_X3_readBytes_5 n T (df_X3_readBytes_5 n T (g1 + 1)) (nI N) x (nI i) (R, V) = _
      generalize df_X3_readBytes_5 n T (g1 + 1) = G
      unfold dF_X3_readBytes_5
      rw [if_neg nl, if_pos v4, e, nb_b2, nb_let, nb_let, i1]
    have tR : ∀ (z : Int32) (C1 : St), df_X14_next n C = some (z, C1) → df_X14_readBytes_5 n (g2 + 1) (nI N) x (nI i) C = df_X14_readBytes_5 n g2 (nI N) ((x <<< ((8 : Int32).toInt64 &&& 63)) ||| z.toInt64) (nI (i + 1)) C1 := fun z C1 e => by
      show dF_X14_readBytes_5 n (df_X14_readBytes_5 n g2) (nI N) x (nI i) C = _
      generalize df_X14_readBytes_5 n g2 = G
      unfold dF_X14_readBytes_5
      rw [if_neg nl, e, nb_b2, nb_let, nb_let, i1]
    rcases rd_b n h with ⟨z, z0, z1, e1, e2, h1⟩ | ⟨V1, C1, e1, e2, h1⟩
    · rw [tC _ _ e1, tR _ _ e2]
      exact ih (g1 + 1) g2 (i + 1) (p + 1) _ _ _ (by omega) (by omega) (by omega) h1
    · rw [tC _ _ e1, tR _ _ e2]
      obtain ⟨w, C', f1, f2⟩ := rb_x n (T := T) (len := len) (m := m) (R := R) (V := V1) hN k g2 (i + 1) ((x <<< ((8 : Int32).toInt64 &&& 63)) ||| (nI 0).toInt64) C1 (by omega) (by omega) h1
      refine Or.inr ⟨(x <<< ((8 : Int32).toInt64 &&& 63)) ||| (nI 0).toInt64, w, V1, C', ?_, f1, f2⟩
      show dF_X3_readBytes_5 n T (df_X3_readBytes_5 n T g1) (nI N) _ (nI (i + 1)) (R, V1) = _
      unfold dF_X3_readBytes_5
      by_cases q : nI N ≤ nI (i + 1)
      · rw [if_pos q]; rfl
      · rw [if_neg q, if_neg (rdX_4 h1).1]; rfl
/-- one event more, in both -/
theorem rd_add (n : Nat) {T len m p : Nat} {u : Int64} {R V C : St} (h : rdO T len m u p R V C) (hm : m < 2048) {k : Nat} (hk : k < 5) {at_ d a : Int64} {b : Int32} (hv : evV k a b) (ht : at_ = u + d) : ∃ V' C' : St, df_X3_add n (nI k) at_ a b V = some (nI 1, V') ∧ df_X14_take n (nI k) d a b C = some C' ∧ rdO T len (m + 1) at_ p R V' C' ∧ sR V' 0 m = nI k ∧ sQ V' 0 m = at_ ∧ sQ V' 1 m = a ∧ sR V' 1 m = b ∧ sQ C' 0 m = d := by
  obtain ⟨⟨s1, s2, s3, s4, s5, s6, s7⟩, ⟨e1, e2, e3, e4⟩, hp, v2, v4, c3, c4⟩ := h
  have u1 : m < 2 ^ 31 := by omega
  refine ⟨pI (pR (pQ (pQ (pR V 0 (upd (sR V 0) m (nI k))) 0 (vp_updL (sQ V 0) m at_)) 1 (vp_updL (sQ V 1) m a)) 1 (upd (sR V 1) m b)) 1 (nI (m + 1)), pI (pR (pQ (pQ (pR C 0 (upd (sR C 0) m (nI k))) 0 (vp_updL (sQ C 0) m d)) 1 (vp_updL (sQ C 1) m a)) 1 (upd (sR C 1) m b)) 0 (nI (m + 1)), ?_, ?_, ⟨⟨s1, s2, s3, s4, s5, s6, s7⟩, ⟨⟨by omega, ?_⟩, rfl, rfl, fun i hi => ?_⟩, hp, v2, v4, c3, c4⟩, nm_us, ul_s, ul_s, nm_us, ul_s⟩
  · simp (disch := (first | assumption | decide | omega)) only [df_X3_add_0, df_X3_add, e2, hm, eq_self, Nat.reduceEqDiff, Nat.reduceLeDiff, nl_0, nl_1, nl_2048, no_1, no_1024, pk_mul, nI_add, nm_ck, nI_clamp, nI_ltI, nI_leI, nI_eq, nb_b2, nb_b1, ↓nb_let, nm_z0, nm_z1, nb_II, nb_IR, nb_RI, nb_RR, nm_IL, nm_IQ, nm_RL, nm_RQ, nm_LI, nm_LR, nm_LL, nm_LQ, nm_QI, nm_QR, nm_QL, nm_QQ, nm_rr, nm_ii, nm_eqm, not_false_eq_true, pk_sub, nm_div, nm_shl, nm_shr, nm_ush, nm_or8, nm_or64, nm_or256, nm_m1, nm_m3, nm_m7, nm_m15, nm_m31, nm_m63, nm_m255, nm_m511, nm_m1023, nm_m2047, nm_m65535, Nat.reduceMod, Nat.reducePow, Nat.reduceAdd, Nat.reduceSub, Nat.reduceMul, nm_bo, nm_bi, nm_rc, nm_ic, nm_ri, nm_rl, nm_rq, nm_ql, nm_qi, nm_li, nm_us, nm_uu, nm_cp, nm_sa31, nm_sa7, nm_m127, nm_m2, nm_nz, nm_nzk, nm_eq32, nm_nzf, if_true, if_false, ↓reduceIte, if_pos, if_neg]
  · simp (disch := (first | assumption | decide | omega)) only [df_X14_take_0, df_X14_take, e3, hm, eq_self, Nat.reduceEqDiff, Nat.reduceLeDiff, nl_0, nl_1, nl_2048, no_1, no_1024, pk_mul, nI_add, nm_ck, nI_clamp, nI_ltI, nI_leI, nI_eq, nb_b2, nb_b1, ↓nb_let, nm_z0, nm_z1, nb_II, nb_IR, nb_RI, nb_RR, nm_IL, nm_IQ, nm_RL, nm_RQ, nm_LI, nm_LR, nm_LL, nm_LQ, nm_QI, nm_QR, nm_QL, nm_QQ, nm_rr, nm_ii, nm_eqm, not_false_eq_true, pk_sub, nm_div, nm_shl, nm_shr, nm_ush, nm_or8, nm_or64, nm_or256, nm_m1, nm_m3, nm_m7, nm_m15, nm_m31, nm_m63, nm_m255, nm_m511, nm_m1023, nm_m2047, nm_m65535, Nat.reduceMod, Nat.reducePow, Nat.reduceAdd, Nat.reduceSub, Nat.reduceMul, nm_bo, nm_bi, nm_rc, nm_ic, nm_ri, nm_rl, nm_rq, nm_ql, nm_qi, nm_li, nm_us, nm_uu, nm_cp, nm_sa31, nm_sa7, nm_m127, nm_m2, nm_nz, nm_nzk, nm_eq32, nm_nzf, if_true, if_false, ↓reduceIte, if_pos, if_neg]
  · rw [if_neg (by omega), show m + 1 - 1 = m by omega]
    exact ul_s.symm
  · show (∃ k' : Nat, k' < 5 ∧ upd (sR V 0) m (nI k) i = nI k' ∧ evV k' (vp_updL (sQ V 1) m a i) (upd (sR V 1) m b i)) ∧ upd (sR C 0) m (nI k) i = upd (sR V 0) m (nI k) i ∧ upd (sR C 1) m b i = upd (sR V 1) m b i ∧ vp_updL (sQ C 1) m a i = vp_updL (sQ V 1) m a i ∧ vp_updL (sQ V 0) m at_ i = (if i = 0 then 0 else vp_updL (sQ V 0) m at_ (i - 1)) + vp_updL (sQ C 0) m d i
    by_cases y : i = m
    · subst y
      rw [nm_us, nm_us, nm_us, nm_us, ul_s, ul_s, ul_s, ul_s]
      refine ⟨⟨k, hk, rfl, hv⟩, rfl, rfl, rfl, ?_⟩
      rw [ht, e1.2]
      by_cases z : i = 0
      · rw [if_pos z, if_pos z]
      · rw [if_neg z, if_neg z, up_o (by omega)]
    · obtain ⟨f1, f2, f3, f4, f5⟩ := e4 i (by omega)
      rw [nm_un y, nm_un y, nm_un y, nm_un y, up_o y, up_o y, up_o y, up_o y]
      refine ⟨f1, f2, f3, f4, ?_⟩
      rw [f5]
      by_cases z : i = 0
      · rw [if_pos z, if_pos z]
      · rw [if_neg z, if_neg z, up_o (by omega)]
theorem rd_df (n : Nat) {m : Nat} {u : Int64} {V C : St} (hE : rdE m u V C) (h1 : 1 ≤ m) : df_X3_difference n (sI V 1 - 1) V = some (sQ C 0 (m - 1), V) := by
  obtain ⟨e1, e2, e3, e4⟩ := hE
  obtain ⟨_, _, _, _, f5⟩ := e4 (m - 1) (by omega)
  unfold df_X3_difference df_X3_difference_0 df_X3_difference_28
  rw [e2, show nI m - 1 = nI (m - 1) from pk_sub h1]
  by_cases c : m = 1
  · subst c
    rw [if_neg (show ¬ (0 : Int32) < nI 0 by decide)]
    rw [if_pos rfl] at f5
    have f5 : sQ V 0 0 = 0 + sQ C 0 0 := f5
    rw [show Int32.toNatClampNeg 0 = 0 from rfl, f5, Int64.zero_add]
  · rw [if_pos (show (0 : Int32) < nI (m - 1) from (show nI 0 < nI (m - 1) by rw [nI_ltI (by omega) (by omega)]; omega)), nm_ck (by omega) (by omega), show nI (m - 1) - 1 = nI (m - 1 - 1) from pk_sub (show 1 ≤ m - 1 by omega), nm_ck (by omega) (by omega), nI_clamp (by omega), nI_clamp (by omega), f5, if_neg (by omega), Int64.add_comm, Int64.add_sub_cancel]
/-- the last event again, in both -/
theorem rr_l (n : Nat) {T len : Nat} {R : St} {d : Int64} : ∀ (k g g' j m p : Nat) (u : Int64) (V C : St), k < g → k < g' → 1 ≤ m → m + k ≤ 2048 → j + k < 2 ^ 62 → sQ C 0 (m - 1) = d → rdO T len m u p R V C → ∃ (u' : Int64) (V' C' : St), df_X3_readRepeat_85 n T g d (Int64.ofNat k) (R, V) = some (R, V') ∧ df_X14_readRun_84 n g' (Int64.ofNat (j + k)) (Int64.ofNat j) C = some C' ∧ rdO T len (m + k) u' p R V' C' := fun k => by
  induction k with
  | zero =>
    intro g g' j m p u V C hg hg' h1 hm hj hd h
    obtain ⟨g1, rfl⟩ : ∃ g1 : Nat, g = g1 + 1 := ⟨g - 1, by omega⟩
    obtain ⟨g2, rfl⟩ : ∃ g2 : Nat, g' = g2 + 1 := ⟨g' - 1, by omega⟩
    refine ⟨u, V, C, ?_, ?_, h⟩
    · show dF_X3_readRepeat_85 n T (df_X3_readRepeat_85 n T g1) d (Int64.ofNat 0) (R, V) = _
      unfold dF_X3_readRepeat_85
      rw [if_pos (show lg_cmp (Int64.ofNat 0) 0 ≤ (0 : Int32) by decide)]
      rfl
    · show dF_X14_readRun_84 n (df_X14_readRun_84 n g2) (Int64.ofNat j) (Int64.ofNat j) C = _
      unfold dF_X14_readRun_84
      rw [if_pos ((lcB _ _).mpr (Int.le_refl _))]
      rfl
  | succ k ih =>
    intro g g' j m p u V C hg hg' h1 hm hj hd h
    obtain ⟨g1, rfl⟩ : ∃ g1 : Nat, g = g1 + 1 := ⟨g - 1, by omega⟩
    obtain ⟨g2, rfl⟩ : ∃ g2 : Nat, g' = g2 + 1 := ⟨g' - 1, by omega⟩
    have hE := h.2.1
    obtain ⟨⟨kk, k5, ek, ev⟩, f2, f3, f4, f5⟩ := hE.2.2.2 (m - 1) (by omega)
    obtain ⟨V1, C1, a1, a2, a3, a4, a5, a6, a7, a8⟩ := rd_add n h (by omega) k5 (at_ := sQ V 0 (m - 1) + d) (d := d) ev (by rw [hE.1.2, if_neg (show ¬ m = 0 by omega)])
    obtain ⟨u', V', C', i1, i2, i3⟩ := ih g1 g2 (j + 1) (m + 1) p _ V1 C1 (by omega) (by omega) (by omega) (by omega) (by omega) (by rw [show m + 1 - 1 = m by omega]; exact a8) a3
    have m1 : sI V 1 - 1 = nI (m - 1) := by rw [hE.2.1]; exact pk_sub h1
    have m2 : sI C 0 - 1 = nI (m - 1) := by rw [hE.2.2.1]; exact pk_sub h1
    refine ⟨u', V', C', ?_, ?_, by rw [show m + (k + 1) = m + 1 + k by omega]; exact i3⟩
    · show dF_X3_readRepeat_85 n T (df_X3_readRepeat_85 n T g1) d (Int64.ofNat (k + 1)) (R, V) = _
      unfold dF_X3_readRepeat_85
      dsimp only
      rw [if_neg (fun z => by have z := (lcD _ _).mp z; rw [lT (by omega), show (0 : Int64).toInt = 0 by decide] at z; omega), if_pos (show sI V 4 = 0 from h.2.2.2.2.1), m1, nm_ck (by omega) (by omega), nm_ck (by omega) (by omega), nm_ck (by omega) (by omega), nm_ck (by omega) (by omega), nI_clamp (by omega), ek, a1, nb_b2, nb_let, nb_let, show Int64.ofNat (k + 1) - 1 = Int64.ofNat k from on_sub (b := 1) (show 1 ≤ k + 1 by omega)]
      exact i1
    · show dF_X14_readRun_84 n (df_X14_readRun_84 n g2) (Int64.ofNat (j + (k + 1))) (Int64.ofNat j) C = _
      unfold dF_X14_readRun_84
      rw [if_neg (fun z => by have z := (lcB _ _).mp z; rw [lT (by omega), lT (by omega)] at z; omega), if_pos (show sI C 4 = 0 from h.2.2.2.2.2.2), m2, nm_ck (by omega) (by omega), nm_ck (by omega) (by omega), nm_ck (by omega) (by omega), nm_ck (by omega) (by omega), nI_clamp (by omega), f2, f3, f4, hd, ek, a2, nb_b1, nb_let, show Int64.ofNat j + 1 = Int64.ofNat (j + 1) from on_add j 1, show j + (k + 1) = j + 1 + k by omega]
      exact i2
