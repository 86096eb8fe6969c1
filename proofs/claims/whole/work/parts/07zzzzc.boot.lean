/-- four bytes as a word -/
def bwd (im : Nat → Int32) (k : Nat) : Int32 := ((((im k) &&& 255) ||| (((im (k + 1)) &&& 255) <<< ((8 : Int32) &&& 31))) ||| (((im (k + 2)) &&& 255) <<< ((16 : Int32) &&& 31))) ||| ((im (k + 3)) <<< ((24 : Int32) &&& 31))
theorem bwd_0 (a b c d : Int32) : (((((a &&& 255) ||| ((b &&& 255) <<< ((8 : Int32) &&& 31))) ||| ((c &&& 255) <<< ((16 : Int32) &&& 31))) ||| (d <<< ((24 : Int32) &&& 31))).toUInt32 >>> ((nI 0).toUInt32 &&& Int32.toUInt32 (nI 31))).toInt32 &&& nI 255 = a &&& nI 255 := by
  show (((((a &&& nI 255) ||| ((b &&& nI 255) <<< nI 8)) ||| ((c &&& nI 255) <<< nI 16)) ||| (d <<< nI 24)).toUInt32 >>> ((nI 0).toUInt32 &&& Int32.toUInt32 (nI 31))).toInt32 &&& nI 255 = a &&& nI 255
  (apply gb_ext; apply all32; simp (disch := decide) only [gb_or, gb_and, gb_xor, gb_shl, gb_shr, gb_ush, gb_n, gb_m, gb_hi, Nat.reduceAdd, Nat.reduceSub, Nat.reduceLT, Nat.reduceLeDiff, Nat.testBit, Nat.reduceShiftRight, Nat.reduceBNe, Nat.reduceAnd, Nat.one_and_eq_mod_two, Nat.reduceMod, decide_true, decide_false, Bool.and_true, Bool.true_and, Bool.and_false, Bool.false_and, Bool.or_false, Bool.false_or, Bool.or_true, Bool.true_or, Bool.not_true, Bool.not_false, Bool.xor_true, Bool.xor_false, Bool.true_xor, Bool.false_xor, if_true, if_false, ↓reduceIte, and_self, bne_self_eq_false, Bool.or_self, Bool.and_self, Bool.not_not])
theorem bwd_1 (a b c d : Int32) : (((((a &&& 255) ||| ((b &&& 255) <<< ((8 : Int32) &&& 31))) ||| ((c &&& 255) <<< ((16 : Int32) &&& 31))) ||| (d <<< ((24 : Int32) &&& 31))).toUInt32 >>> ((nI 8).toUInt32 &&& Int32.toUInt32 (nI 31))).toInt32 &&& nI 255 = b &&& nI 255 := by
  show (((((a &&& nI 255) ||| ((b &&& nI 255) <<< nI 8)) ||| ((c &&& nI 255) <<< nI 16)) ||| (d <<< nI 24)).toUInt32 >>> ((nI 8).toUInt32 &&& Int32.toUInt32 (nI 31))).toInt32 &&& nI 255 = b &&& nI 255
  (apply gb_ext; apply all32; simp (disch := decide) only [gb_or, gb_and, gb_xor, gb_shl, gb_shr, gb_ush, gb_n, gb_m, gb_hi, Nat.reduceAdd, Nat.reduceSub, Nat.reduceLT, Nat.reduceLeDiff, Nat.testBit, Nat.reduceShiftRight, Nat.reduceBNe, Nat.reduceAnd, Nat.one_and_eq_mod_two, Nat.reduceMod, decide_true, decide_false, Bool.and_true, Bool.true_and, Bool.and_false, Bool.false_and, Bool.or_false, Bool.false_or, Bool.or_true, Bool.true_or, Bool.not_true, Bool.not_false, Bool.xor_true, Bool.xor_false, Bool.true_xor, Bool.false_xor, if_true, if_false, ↓reduceIte, and_self, bne_self_eq_false, Bool.or_self, Bool.and_self, Bool.not_not])
theorem bwd_2 (a b c d : Int32) : (((((a &&& 255) ||| ((b &&& 255) <<< ((8 : Int32) &&& 31))) ||| ((c &&& 255) <<< ((16 : Int32) &&& 31))) ||| (d <<< ((24 : Int32) &&& 31))).toUInt32 >>> ((nI 16).toUInt32 &&& Int32.toUInt32 (nI 31))).toInt32 &&& nI 255 = c &&& nI 255 := by
  show (((((a &&& nI 255) ||| ((b &&& nI 255) <<< nI 8)) ||| ((c &&& nI 255) <<< nI 16)) ||| (d <<< nI 24)).toUInt32 >>> ((nI 16).toUInt32 &&& Int32.toUInt32 (nI 31))).toInt32 &&& nI 255 = c &&& nI 255
  (apply gb_ext; apply all32; simp (disch := decide) only [gb_or, gb_and, gb_xor, gb_shl, gb_shr, gb_ush, gb_n, gb_m, gb_hi, Nat.reduceAdd, Nat.reduceSub, Nat.reduceLT, Nat.reduceLeDiff, Nat.testBit, Nat.reduceShiftRight, Nat.reduceBNe, Nat.reduceAnd, Nat.one_and_eq_mod_two, Nat.reduceMod, decide_true, decide_false, Bool.and_true, Bool.true_and, Bool.and_false, Bool.false_and, Bool.or_false, Bool.false_or, Bool.or_true, Bool.true_or, Bool.not_true, Bool.not_false, Bool.xor_true, Bool.xor_false, Bool.true_xor, Bool.false_xor, if_true, if_false, ↓reduceIte, and_self, bne_self_eq_false, Bool.or_self, Bool.and_self, Bool.not_not])
theorem bwd_3 (a b c d : Int32) : (((((a &&& 255) ||| ((b &&& 255) <<< ((8 : Int32) &&& 31))) ||| ((c &&& 255) <<< ((16 : Int32) &&& 31))) ||| (d <<< ((24 : Int32) &&& 31))).toUInt32 >>> ((nI 24).toUInt32 &&& Int32.toUInt32 (nI 31))).toInt32 &&& nI 255 = d &&& nI 255 := by
  show (((((a &&& nI 255) ||| ((b &&& nI 255) <<< nI 8)) ||| ((c &&& nI 255) <<< nI 16)) ||| (d <<< nI 24)).toUInt32 >>> ((nI 24).toUInt32 &&& Int32.toUInt32 (nI 31))).toInt32 &&& nI 255 = d &&& nI 255
  (apply gb_ext; apply all32; simp (disch := decide) only [gb_or, gb_and, gb_xor, gb_shl, gb_shr, gb_ush, gb_n, gb_m, gb_hi, Nat.reduceAdd, Nat.reduceSub, Nat.reduceLT, Nat.reduceLeDiff, Nat.testBit, Nat.reduceShiftRight, Nat.reduceBNe, Nat.reduceAnd, Nat.one_and_eq_mod_two, Nat.reduceMod, decide_true, decide_false, Bool.and_true, Bool.true_and, Bool.and_false, Bool.false_and, Bool.or_false, Bool.false_or, Bool.or_true, Bool.true_or, Bool.not_true, Bool.not_false, Bool.xor_true, Bool.xor_false, Bool.true_xor, Bool.false_xor, if_true, if_false, ↓reduceIte, and_self, bne_self_eq_false, Bool.or_self, Bool.and_self, Bool.not_not])
theorem bwd_r (im : Nat → Int32) (k r : Nat) (h : r < 4) : ((bwd im k).toUInt32 >>> ((nI (8 * r)).toUInt32 &&& Int32.toUInt32 (nI 31))).toInt32 &&& nI 255 = im (k + r) &&& nI 255 := by
  have h : r = 0 ∨ r = 1 ∨ r = 2 ∨ r = 3 := by omega
  rcases h with rfl | rfl | rfl | rfl
  · exact bwd_0 ..
  · exact bwd_1 ..
  · exact bwd_2 ..
  · exact bwd_3 ..
theorem by_17 (n : Nat) {Q : St} {im : Nat → Int32} {v i : Nat} (hv : v < 4) (hi : i < 32768) (hw : ∀ w : Nat, w < 32768 → sR Q 4 w = bwd im (4 * w)) : df_X17_byteAt n (nI v) (nI i) Q = some (im (32768 * v + i) &&& nI 255, Q) := by
  have e := bwd_r im (4 * (8192 * v + i / 4)) (i - i / 4 * 4) (by omega)
  rw [show 4 * (8192 * v + i / 4) + (i - i / 4 * 4) = 32768 * v + i by omega, ← hw _ (by omega)] at e
  rw [← e]
  unfold df_X17_byteAt df_X17_byteAt_0
  have d1 : nI i / 4 = nI (i / 4) := nm_div (d := 4) (show i < 2 ^ 31 by omega) (by decide) (by decide)
  have d2 : (8192 : Int32) * nI v + nI (i / 4) = nI (8192 * v + i / 4) := by
    rw [show (8192 : Int32) * nI v = nI (8192 * v) from pk_mul .., nI_add]
  have d3 : (8 : Int32) * (nI i - nI (i / 4) * 4) = nI (8 * (i - i / 4 * 4)) := by
    rw [show nI (i / 4) * 4 = nI (i / 4 * 4) from pk_mul .., pk_sub (show i / 4 * 4 ≤ i by omega)]
    exact pk_mul ..
  rw [d1, d2, d3, nm_ck (by omega) (by omega), nI_clamp (by omega)]
  rfl
/-- the reference begins, up to its machine's boot -/
theorem bg_R (n : Nat) (hn : 70000 < n) (v : Int32) (τ : S19) : ∃ Q' : St, df_X19_begin n v τ = nd_b1 (df_X19_anew n (pI (pI (pI (pI (pI (pI (pI τ.1 3 1) 4 v) 9 0) 8 0) 6 0) 5 0) 11 0, (τ.2.1, ((τ.2.2.1.1, (τ.2.2.1.2.1, Q')), τ.2.2.2)))) (fun s11 => some s11) ∧ (∀ i : Nat, i < 4 → sR Q' 0 i = vp_nar .boolean (sR τ.1 0 i) ∧ sR Q' 1 i = sR τ.1 1 i ∧ sR Q' 2 i = sR τ.1 2 i ∧ sR Q' 3 i = sR τ.1 3 i) ∧ ∀ w : Nat, w < 32768 → sR Q' 4 w = bwd (sR τ.2.1 9) (4 * w) := by
  obtain ⟨m, Q1, i1, e1⟩ := nm_l1 (S := St) (fun g k Q => df_X19_begin_2 n g v (nI k) (τ.1, (τ.2.1, ((τ.2.2.1.1, (τ.2.2.1.2.1, Q)), τ.2.2.2)))) (fun k Q => ∀ i : Nat, i < k → sR Q 0 i = vp_nar .boolean (sR τ.1 0 i) ∧ sR Q 1 i = sR τ.1 1 i ∧ sR Q 2 i = sR τ.1 2 i ∧ sR Q 3 i = sR τ.1 3 i) 4 n (by omega) (fun k m Q hk hI => by
    refine ⟨pR (pR (pR (pR Q 0 (upd (sR Q 0) k (vp_nar .boolean (sR τ.1 0 k)))) 1 (upd (sR Q 1) k (sR τ.1 1 k))) 2 (upd (sR Q 2) k (sR τ.1 2 k))) 3 (upd (sR Q 3) k (sR τ.1 3 k)), fun i hi => ?_, ?_⟩
    · by_cases y : i = k
      · subst y
        exact ⟨nm_us, nm_us, nm_us, nm_us⟩
      · obtain ⟨a, b, c, d⟩ := hI i (by omega)
        exact ⟨(nm_un y).trans a, (nm_un y).trans b, (nm_un y).trans c, (nm_un y).trans d⟩
    · show dF_X19_begin_2 n (df_X19_begin_2 n m) v (nI k) _ = _
      generalize df_X19_begin_2 n m = G
      unfold dF_X19_begin_2
      rw [if_neg (show ¬ (4 : Int32) ≤ nI k from fun z => by have z : nI 4 ≤ nI k := z; rw [nI_leI (by omega) (by omega)] at z; omega)]
      simp only [nm_ck (show k < 4 from hk) (show k < 2 ^ 31 by omega), nb_let, nI_clamp (show k < 2 ^ 31 by omega)]
      rw [show nI k + Int32.ofInt 1 = nI (k + 1) from nI_add ..]
      rfl) τ.2.2.1.2.2 (fun i hi => by omega)
  have e1 : df_X19_begin n v τ = df_X19_begin_2 n (m + 1) v (nI 4) (τ.1, (τ.2.1, ((τ.2.2.1.1, (τ.2.2.1.2.1, Q1)), τ.2.2.2))) := e1
  have e2 : df_X19_begin_2 n (m + 1) v (nI 4) (τ.1, (τ.2.1, ((τ.2.2.1.1, (τ.2.2.1.2.1, Q1)), τ.2.2.2))) = df_X19_begin_75 n n v (nI 0) (τ.1, (τ.2.1, ((τ.2.2.1.1, (τ.2.2.1.2.1, Q1)), τ.2.2.2))) := by
    show dF_X19_begin_2 n (df_X19_begin_2 n m) v (nI 4) _ = _
    unfold dF_X19_begin_2
    rw [if_pos (show (4 : Int32) ≤ nI 4 by decide)]
    rfl
  obtain ⟨m2, e3⟩ := nm_lq (fun g k => df_X19_begin_75 n g v (nI (4 * k)) (τ.1, (τ.2.1, ((τ.2.2.1.1, (τ.2.2.1.2.1, pR Q1 4 (fun w => if w < k then bwd (sR τ.2.1 9) (4 * w) else sR Q1 4 w))), τ.2.2.2)))) 32768 n (by omega) (fun k m hk => by
    have st : pR (pR Q1 4 (fun w => if w < k then bwd (sR τ.2.1 9) (4 * w) else sR Q1 4 w)) 4 (upd (fun w => if w < k then bwd (sR τ.2.1 9) (4 * w) else sR Q1 4 w) k (bwd (sR τ.2.1 9) (4 * k))) = pR Q1 4 (fun w => if w < k + 1 then bwd (sR τ.2.1 9) (4 * w) else sR Q1 4 w) := by
      rw [nm_rr]
      congr 1
      funext w
      by_cases y : w = k
      · rw [y, nm_us, if_pos (by omega)]
      · rw [nm_un y]
        by_cases z : w < k
        · rw [if_pos z, if_pos (by omega)]
        · rw [if_neg z, if_neg (by omega)]
    show dF_X19_begin_75 n (df_X19_begin_75 n m) v (nI (4 * k)) _ = df_X19_begin_75 n m v (nI (4 * (k + 1))) _
    rw [← st]
    generalize df_X19_begin_75 n m = G
    unfold dF_X19_begin_75
    rw [if_neg (show ¬ (131072 : Int32) ≤ nI (4 * k) from fun z => by have z : nI 131072 ≤ nI (4 * k) := z; rw [nI_leI (by omega) (by omega)] at z; omega), show nI (4 * k) + 1 = nI (4 * k + 1) from nI_add .., show nI (4 * k) + 2 = nI (4 * k + 2) from nI_add .., show nI (4 * k) + 3 = nI (4 * k + 3) from nI_add .., show nI (4 * k) / 4 = nI k from (nm_div (show 4 * k < 2 ^ 31 by omega) (show 0 < 4 by omega) (by omega)).trans (by rw [show 4 * k / 4 = k by omega]), nm_ck (by omega) (by omega), nm_ck (by omega) (by omega), nm_ck (by omega) (by omega), nm_ck (by omega) (by omega), nm_ck (by omega) (by omega), nI_clamp (by omega), nI_clamp (by omega), nI_clamp (by omega), nI_clamp (by omega), nI_clamp (by omega), nb_let, nb_let, show nI (4 * k) + Int32.ofInt 4 = nI (4 * (k + 1)) from nI_add ..]
    rfl)
  have e3 : df_X19_begin_75 n n v (nI 0) (τ.1, (τ.2.1, ((τ.2.2.1.1, (τ.2.2.1.2.1, pR Q1 4 (fun w => if w < 0 then bwd (sR τ.2.1 9) (4 * w) else sR Q1 4 w))), τ.2.2.2))) = df_X19_begin_75 n (m2 + 1) v (nI 131072) (τ.1, (τ.2.1, ((τ.2.2.1.1, (τ.2.2.1.2.1, pR Q1 4 (fun w => if w < 32768 then bwd (sR τ.2.1 9) (4 * w) else sR Q1 4 w))), τ.2.2.2))) := e3
  have e0 : pR Q1 4 (fun w => if w < 0 then bwd (sR τ.2.1 9) (4 * w) else sR Q1 4 w) = Q1 := by
    have : (fun w => if w < 0 then bwd (sR τ.2.1 9) (4 * w) else sR Q1 4 w) = sR Q1 4 := by
      funext w
      rw [if_neg (by omega)]
    rw [this, nm_r0]
  rw [e0] at e3
  refine ⟨pR Q1 4 (fun w => if w < 32768 then bwd (sR τ.2.1 9) (4 * w) else sR Q1 4 w), ?_, i1, fun w hw => if_pos hw⟩
  rw [e1, e2, e3]
  show dF_X19_begin_75 n (df_X19_begin_75 n m2) v (nI 131072) _ = _
  unfold dF_X19_begin_75
  rw [if_pos (show (131072 : Int32) ≤ nI 131072 by decide), nb_let, nb_let, nb_let, nb_let, nb_let, nb_let, nb_let]
theorem pw_pw (R : Rw) (k : Nat) (f g : Nat → Option Nat) : pW (pW R k f) k g = pW R k g := by
  funext r
  unfold pW
  by_cases c : r = k
  · rw [if_pos c, if_pos c]
  · rw [if_neg c, if_neg c, if_neg c]
/-- the class starts -/
theorem st_1 (n : Nat) (hn : 70000 < n) {vn j j0 : Nat} {t : S11} {M' Mc : St × St} (hv : vn < 4) (hr : ∀ q : Nat, q < 4 → ∀ j : Nat, t.2.1 1 q = some j → j < 9) (ej : t.2.1 1 vn = some j) (e0 : t.2.1 3 0 = some j0) (h0 : j0 < 8) (hb : df_X6_start n (nd_st0, (t.2.2.1.2.2, t.2.2.2.2.2.1 j)) = some (nd_st0, (M', t.2.2.2.2.2.1 j))) (hc : df_X6_become n (nd_st0, (t.2.2.2.2.2.2.2 j0, M')) = some (nd_st0, (Mc, M'))) : ∃ W : Rw, (∀ q : Nat, q < 4 → W 0 q = t.2.1 1 q) ∧ (∀ r : Nat, ¬ r = 0 → W r = t.2.1 r) ∧ df_X11_start n (nI vn) t = some (pI (pR (pI (pI (pI (pI (pI (pI (pI t.1 0 1) 3 0) 4 0) 5 0) 6 0) 1 0) 2 256) 1 (upd (sR t.1 1) 0 (nI 0))) 1 (nI (0 + 1)), (W, ((t.2.2.1.1, (t.2.2.1.2.1, M')), (t.2.2.2.1, (t.2.2.2.2.1, (t.2.2.2.2.2.1, (t.2.2.2.2.2.2.1, fun i => if i = j0 then Mc else t.2.2.2.2.2.2.2 i))))))) := by
  obtain ⟨m, e1⟩ := nm_lq (fun g k => df_X11_start_2 n g (nI vn) (nI k) (t.1, (pW t.2.1 0 (fun i => if i < k then t.2.1 1 i else t.2.1 0 i), t.2.2))) 4 n (by omega) (fun k m hk => by
    have st : ∀ x : Option Nat, t.2.1 1 k = x → pW (pW t.2.1 0 (fun i => if i < k then t.2.1 1 i else t.2.1 0 i)) 0 (va_up (fun i => if i < k then t.2.1 1 i else t.2.1 0 i) k x) = pW t.2.1 0 (fun i => if i < k + 1 then t.2.1 1 i else t.2.1 0 i) := fun x hx => by
      rw [pw_pw]
      congr 1
      funext i
      show (if i = k then x else if i < k then t.2.1 1 i else t.2.1 0 i) = _
      by_cases y : i = k
      · rw [if_pos y, if_pos (by omega), y, hx]
      · rw [if_neg y]
        by_cases z : i < k
        · rw [if_pos z, if_pos (by omega)]
        · rw [if_neg z, if_neg (by omega)]
    show dF_X11_start_2 n (df_X11_start_2 n m) (nI vn) (nI k) _ = df_X11_start_2 n m (nI vn) (nI (k + 1)) _
    generalize df_X11_start_2 n m = G
    unfold dF_X11_start_2
    rw [if_neg (show ¬ (4 : Int32) ≤ nI k from fun z => by have z : nI 4 ≤ nI k := z; rw [nI_leI (by omega) (by omega)] at z; omega), nm_ck (by omega) (by omega), nI_clamp (by omega)]
    show nd_m (t.2.1 1 k) _ _ = _
    cases x : t.2.1 1 k with
    | none =>
      rw [nb_mN, nm_ck (by omega) (by omega), nb_let, nb_let, show nI k + Int32.ofInt 1 = nI (k + 1) from nI_add .., ← st none x]
      rfl
    | some i =>
      rw [nb_mS, nm_ck (by omega) (by omega), nb_lt (hr k hk i x), nb_let, nb_let, show nI k + Int32.ofInt 1 = nI (k + 1) from nI_add .., ← st (some i) x]
      rfl)
  have e1 : df_X11_start_2 n n (nI vn) (nI 0) (t.1, (pW t.2.1 0 (fun i => if i < 0 then t.2.1 1 i else t.2.1 0 i), t.2.2)) = df_X11_start_2 n (m + 1) (nI vn) (nI 4) (t.1, (pW t.2.1 0 (fun i => if i < 4 then t.2.1 1 i else t.2.1 0 i), t.2.2)) := e1
  have p0 : pW t.2.1 0 (fun i => if i < 0 then t.2.1 1 i else t.2.1 0 i) = t.2.1 := by
    funext r
    unfold pW
    by_cases c : r = 0
    · rw [if_pos c, c]
      funext i
      rw [if_neg (by omega)]
    · rw [if_neg c]
  rw [p0] at e1
  refine ⟨pW t.2.1 0 (fun i => if i < 4 then t.2.1 1 i else t.2.1 0 i), fun q hq => if_pos hq, fun r hr => if_neg hr, ?_⟩
  have pf : (fun i => if i = j then t.2.2.2.2.2.1 j else t.2.2.2.2.2.1 i) = t.2.2.2.2.2.1 := by
    funext i
    by_cases c : i = j
    · rw [if_pos c, c]
    · rw [if_neg c]
  unfold df_X11_start df_X11_start_0
  refine Eq.trans e1 ?_
  show dF_X11_start_2 n (df_X11_start_2 n m) (nI vn) (nI 4) _ = _
  generalize df_X11_start_2 n m = G
  unfold dF_X11_start_2
  rw [if_pos (show (4 : Int32) ≤ nI 4 by decide), nm_ck hv (by omega), nI_clamp (by omega)]
  dsimp only
  rw [show pW t.2.1 0 (fun i => if i < 4 then t.2.1 1 i else t.2.1 0 i) 0 vn = some j from (if_pos hv).trans ej, nb_mS, nb_lt (hr vn hv j ej), hb, nb_b1, nb_let]
  dsimp only
  rw [pf, nb_let, nb_let, nb_let, nb_let, nb_let, nb_let, nb_let]
  have kc := kc_1 n (s := (pI (pI (pI (pI (pI (pI (pI t.1 0 1) 3 0) 4 0) 5 0) 6 0) 1 0) 2 256, (pW t.2.1 0 (fun i => if i < 4 then t.2.1 1 i else t.2.1 0 i), ((t.2.2.1.1, (t.2.2.1.2.1, M')), (t.2.2.2.1, (t.2.2.2.2.1, (t.2.2.2.2.2.1, t.2.2.2.2.2.2))))))) (cp := 0) (c := 0) (j := j0) (M' := Mc) (by omega) rfl rfl e0 h0 hc
  dsimp only
  rw [kc, nb_b1]
  rfl
/-- what a start wants of what was before -/
theorem jA_b {n : Nat} {t : S11} {τ : S19} (h : jA n t τ) : (∃ V : St, eA t V) ∧ okY t.2.2.1.2.2.2 ∧ sO t.2.2.1.1 0 = some 34 ∧ ∃ ix : Nat → Nat, (∀ i : Nat, i < 8 → t.2.1 3 i = some (ix i) ∧ ix i < 8) ∧ ∀ i j : Nat, i < 8 → j < 8 → ix i = ix j → i = j := by
  obtain ⟨h0, ⟨h1, h2, ⟨V, v1, v2, v3⟩, h4, h5, h6, h7⟩ | ⟨h1, h2, vn, Q, V, N, T, e, c, k, lo, h3⟩⟩ := h
  · exact ⟨⟨V, v1⟩, h4, h5, h6⟩
  · obtain ⟨hV, hL, hs, hP, hce, c3, c4, c5, hA, ⟨cp, sp, at_, ix, hC⟩, hW⟩ := h3.1
    obtain ⟨⟨X, hX⟩, hT⟩ := hA
    exact ⟨⟨V, hV⟩, (hT X hX).1.2.2.2.2.2.1.2, hP.1, ix, hC.2.1, hC.2.2.1⟩
/-- what a start leaves of the class, of the reference -/
def kB (t t' : S11) : Prop := sI t'.1 7 = sI t.1 7 ∧ (∀ r : Nat, ¬ r = 3 → ¬ r = 0 → t'.2.1 r = t.2.1 r) ∧ t'.2.2.2.2.2.1 = t.2.2.2.2.2.1 ∧ t'.2.2.2.2.2.2.1 = t.2.2.2.2.2.2.1
def kQ (τ τ' : S19) : Prop := (∀ j : Nat, j = 1 ∨ j = 2 ∨ j = 7 ∨ j = 12 → sI τ'.1 j = sI τ.1 j) ∧ (∀ j : Nat, j < 5 ∨ 10 ≤ j → sR τ'.1 j = sR τ.1 j) ∧ (∀ j : Nat, sO τ'.1 j = sO τ.1 j) ∧ τ'.2.1 = τ.2.1 ∧ τ'.2.2.1.1 = τ.2.2.1.1 ∧ τ'.2.2.2 = τ.2.2.2
/-- both start: nothing is recorded, what is scheduled comes later -/
theorem jm_start (n : Nat) (hn : 70000 < n) {t : S11} {τ : S19} {V : St} {vn Tt : Nat} (hv : vn < 4) (hV : eA t V) (hV0 : sI V 0 = nI 0) (hV1 : sI V 1 = nI Tt) (hTt : Tt ≤ 2048) (hev : ∀ i : Nat, i < Tt → ∃ k : Nat, k < 5 ∧ sR V 0 i = nI k ∧ evV k (sQ V 1 i) (sR V 1 i)) (oy : okY t.2.2.1.2.2.2) (o34 : sO t.2.2.1.1 0 = some 34) {ix : Nat → Nat} (hix : ∀ i : Nat, i < 8 → t.2.1 3 i = some (ix i) ∧ ix i < 8) (hin : ∀ i j : Nat, i < 8 → j < 8 → ix i = ix j → i = j) (hp : rpP (t.2.1 1) t.2.2.2.2.2.1 τ.1 (sR τ.2.1 9)) (hj : ∃ j : Nat, t.2.1 1 vn = some j) : ∃ (Q : St) (t' : S11) (τ' : S19), df_X11_start n (nI vn) t = some t' ∧ df_X19_begin n (nI vn) τ = some τ' ∧ cI n vn Q V 0 Tt 0 0 (fun _ => 0) t' ∧ rLg τ'.1 0 0 (fun _ => 0) ∧ (vn < 4 ∧ ¬ sR Q 0 vn = nI 0) ∧ (sI τ'.1 4 = nI vn ∧ sI τ'.1 5 = nI 0 ∧ sI τ'.1 6 = nI 0) ∧ RA n (nI vn) Q (lgL (evK V) (fun _ => 0)) 0 τ'.2.2.1.2 ∧ sI τ'.1 10 = nI 0 ∧ sI τ'.2.2.1.2.1 14 = -nI 1 ∧ sI τ'.1 9 = nI 0 ∧ (sI t'.1 6 = nI 0 ∧ sI τ'.1 11 = nI 0) ∧ sI t'.1 0 = nI 1 ∧ sI τ'.1 3 = nI 1 ∧ sI τ'.1 0 = sI τ.1 0 ∧ kB t t' ∧ (∀ k : Nat, sO t'.1 k = sO t.1 k) ∧ kQ τ τ' := by
  obtain ⟨Q, r1, r2, r3⟩ := bg_R n hn (nI vn) τ
  have pg : ∀ q : Nat, q < 4 → ∀ j : Nat, t.2.1 1 q = some j → j < 9 ∧ sR τ.1 0 q = nI 1 ∧ ∃ T Z : Nat, rPg (t.2.2.2.2.2.1 j) Q q T Z := fun q hq j hj => by
    rcases hp q hq with ⟨a, b⟩ | ⟨j', a1, a2, a3, T, Z, a4, a5, a6, a7, a8, a9, b1, b2, b3, b4⟩
    · rw [a] at hj; exact nomatch hj
    · rw [a2] at hj
      injection hj with hj
      subst hj
      obtain ⟨s0, s1, s2, s3⟩ := r2 q hq
      refine ⟨a1, a3, T, Z, a4, a5, a6, a7, a8, a9, s1.trans b1, s2.trans b2, s3.trans b3, fun i hi => ?_⟩
      obtain ⟨z, l, z1, z2, z3, z4, z5⟩ := b4 i hi
      refine ⟨nI z, ⟨z, z1, rfl, z3⟩, fun n' => ?_⟩
      rw [by_17 n' hq (show i < 32768 by omega) r3, z4, nm_m255 (by omega), show (l * 256 + z) % 256 = z by omega]
  have sQ0 : ∀ q : Nat, q < 4 → sR τ.1 0 q = nI 1 → ¬ sR Q 0 q = nI 0 := fun q hq e => by
    rw [(r2 q hq).1, e]; decide
  obtain ⟨j, ej⟩ := hj
  obtain ⟨j9, p1, T, Z, pgv⟩ := pg vn hv j ej
  obtain ⟨e0, h0⟩ := hix 0 (by omega)
  have nil : ∀ c : Nat, lgL (evK V) (fun _ => 0) c = [] := fun c => rfl
  obtain ⟨M', b1, b2⟩ := tB_boot n (by omega) (M := t.2.2.1.2.2) (s0 := nd_st0) oy hv pgv (lgL (evK V) (fun _ => 0))
  obtain ⟨X, hX⟩ := b2.1
  obtain ⟨Mc, c1, c2⟩ := rM_become n (by omega) (A := t.2.2.2.2.2.2.2 (ix 0)) (s0 := nd_st0) (b2.2 X hX).1
  obtain ⟨W, w1, w2, w3⟩ := st_1 n hn hv (fun q hq j hj => (pg q hq j hj).1) ej e0 h0 b1 c1
  have tBc : tB n (nI vn) Q (lgL (evK V) (fun _ => 0)) 0 Mc := ⟨b2.1, fun Y hY => by
    obtain ⟨y1, y2⟩ := b2.2 Y hY
    exact ⟨c2 _ _ y1, y2⟩⟩
  have tAm : tA n (nI vn) Q (lgL (evK V) (fun _ => 0)) 0 M' := by
    obtain ⟨M2, f1, f2⟩ := tB_A n (by omega) (K := (t.2.2.1.1, (t.2.2.1.2.1, M'))) b2 (fun x hx => nomatch hx)
    have f1 : some (t.2.2.1.1, (t.2.2.1.2.1, M')) = some (t.2.2.1.1, (t.2.2.1.2.1, M2)) := f1
    injection f1 with f1
    injection f1 with _ f1
    injection f1 with _ f1
    rw [f1]
    exact f2
  have hsT0 : hsT n (nI vn) Q (lgL (evK V) (fun _ => 0)) 0 := ⟨fun k hk => ⟨M', by rw [show k = 0 by omega]; exact b2⟩, fun k hk => ⟨M', by rw [show k = 0 by omega]; exact tAm, fun z => by omega⟩⟩
  have okL0 : okL 0 0 (fun _ => 0) := ⟨rfl, fun _ => Nat.le_refl 0, fun _ _ => rfl⟩
  have hL' : rLg (pI (pI (pI (pI (pI (pI (pI τ.1 3 1) 4 (nI vn)) 9 0) 8 0) 6 0) 5 0) 11 0) 0 0 (fun _ => 0) := ⟨rfl, by omega, okL0, fun i c _ q1 q2 => absurd (show i < 0 from q2) (by omega), fun i hi => by omega, by omega⟩
  have lq : lgL (evT (pI (pI (pI (pI (pI (pI (pI τ.1 3 1) 4 (nI vn)) 9 0) 8 0) 6 0) 5 0) 11 0)) (fun _ => 0) = lgL (evK V) (fun _ => 0) := lg_eq okL0 (fun i hi => absurd hi (by omega))
  obtain ⟨X', x1, x2, x3⟩ := rf_anew n (by omega) (N := 0) (e := 0) (lo := fun _ => 0) (τ := (pI (pI (pI (pI (pI (pI (pI τ.1 3 1) 4 (nI vn)) 9 0) 8 0) 6 0) 5 0) 11 0, (τ.2.1, ((τ.2.2.1.1, (τ.2.2.1.2.1, Q)), τ.2.2.2)))) hv pgv (by rw [lq]; exact hsT0) hL' rfl rfl
  rw [lq] at x2
  refine ⟨Q, _, (pI (pI (pI (pI (pI (pI (pI (pI τ.1 3 1) 4 (nI vn)) 9 0) 8 0) 6 0) 5 0) 11 0) 10 (nI 0), (τ.2.1, ((τ.2.2.1.1, X'), τ.2.2.2))), w3, ?_, ⟨?_, ⟨hV0, hV1, by omega, hTt, okL0, fun i c _ q1 q2 => absurd (show i < 0 from q2) (by omega), hev, by omega⟩, hsT0, ?_, Nat.le_refl 0, rfl, rfl, rfl, tAm, ⟨1, 256, fun _ => 0, ix, ⟨by omega, by omega, rfl, rfl, by omega, by omega⟩, fun i hi => ?_, hin, rfl, fun i hi => by omega, fun i hi => ?_⟩, fun k hk => by omega⟩, hL', ⟨hv, sQ0 vn hv p1⟩, ⟨rfl, rfl, rfl⟩, x2, rfl, x3, rfl, ⟨rfl, rfl⟩, rfl, rfl, rfl, ⟨rfl, fun r a b => w2 r b, rfl, rfl⟩, fun _ => rfl, ⟨fun j hj => ?_, fun _ _ => rfl, fun _ => rfl, rfl, rfl, rfl⟩⟩
  · rw [r1, x1, nb_b1]
  · exact hV
  · refine ⟨o34, fun q hq => ?_⟩
    show (W 0 q = none ∧ _) ∨ ∃ j T Z : Nat, j < 9 ∧ W 0 q = some j ∧ _
    rw [w1 q hq]
    cases x : t.2.1 1 q with
    | none =>
      refine Or.inl ⟨rfl, ?_⟩
      rcases hp q hq with ⟨a, b⟩ | ⟨j', a1, a2, _⟩
      · rw [(r2 q hq).1, b]; decide
      · rw [a2] at x; exact nomatch x
    | some j' =>
      obtain ⟨y1, y2, T', Z', y3⟩ := pg q hq j' x
      exact Or.inr ⟨j', T', Z', y1, rfl, sQ0 q hq y2, y3⟩
  · show W 3 i = _ ∧ _
    rw [w2 3 (by omega)]
    exact hix i hi
  · have i0 : i = 0 := by omega
    subst i0
    refine ⟨show 0 * 256 ≤ 0 by decide, Nat.le_refl 0, rfl, ?_⟩
    show tB n (nI vn) Q _ 0 (if ix 0 = ix 0 then Mc else _)
    rw [if_pos rfl]
    exact tBc
  · show sI (pI (pI (pI (pI (pI (pI (pI (pI τ.1 3 1) 4 (nI vn)) 9 0) 8 0) 6 0) 5 0) 11 0) 10 (nI 0)) j = _
    rw [nb_II, if_neg (by omega), nb_II, if_neg (by omega), nb_II, if_neg (by omega), nb_II, if_neg (by omega), nb_II, if_neg (by omega), nb_II, if_neg (by omega), nb_II, if_neg (by omega), nb_II, if_neg (by omega)]
/-- boot -/
theorem jc_boot (n T L : Nat) (hn : 70000 < n) (v : Int32) (σ : S12) (τ : S19) (h : jA n (tl σ) τ) (hp : rpP (σ.2.1 1) σ.2.2.2.2.2.2.2.2.1 τ.1 (sR τ.2.1 9)) : (df_X12_boot n T L v σ = some (Sum.inr ("java/lang/IllegalArgumentException", σ)) ∧ df_X19_boot n v τ = some (pI τ.1 0 1, τ.2)) ∨ (df_X12_boot n T L v σ = some (Sum.inr ("java/lang/IllegalStateException", σ)) ∧ df_X19_boot n v τ = some (pI τ.1 0 2, τ.2)) ∨ ∃ (t' : S11) (τ' : S19), df_X12_boot n T L v σ = some (Sum.inl (pl σ t')) ∧ df_X19_boot n v τ = some τ' ∧ sI τ'.1 0 = 0 ∧ jA n t' τ' ∧ kB (tl σ) t' ∧ kQ τ τ' := by
  have n1 : ¬ nI 1 = (0 : Int32) := by decide
  obtain ⟨A, hA, rfl⟩ := nI_ex v
  have inE : df_X19_in n (nI A).toInt64 0 3 () = some (if A ≤ 3 then nI 1 else nI 0, ()) := in_b n (b := 3) hA (by omega) rfl
  by_cases d : A ≤ 3
  · have lt0 : ¬ nI A < (0 : Int32) := fun z => by rw [lz_0 hA] at z; omega
    have lt4 : nI A < (4 : Int32) := (show nI A < nI 4 by rw [nI_ltI (by omega) (by omega)]; omega)
    have a3 : nI A &&& 3 = nI A := (nm_m3 (by omega)).trans (by rw [Nat.mod_eq_of_lt (by omega)])
    cases x : σ.2.1 1 A with
    | none =>
      have e0 : sR τ.1 0 A = nI 0 := by
        rcases hp A (by omega) with ⟨a, b⟩ | ⟨j', a1, a2, _⟩
        · exact b
        · rw [a2] at x; exact nomatch x
      refine Or.inr (Or.inl ⟨?_, ?_⟩)
      · unfold df_X12_boot df_X12_boot_0
        rw [if_neg lt0, if_pos lt4, nm_ck (by omega) (by omega), nI_clamp (by omega), x, nb_mN]
      · unfold df_X19_boot df_X19_boot_0 df_X19_boot_18 df_X19_boot_46 df_X19_boot_57
        rw [inE, nb_b2, if_pos d, if_neg n1, nb_b2, if_neg n1, a3, nm_ck (by omega) (by omega), nI_clamp (by omega), e0, if_pos (show nI 0 = (0 : Int32) from rfl), nb_fails, nb_b2]
        rfl
    | some j =>
      have e0 : ¬ sR τ.1 0 A = (0 : Int32) := by
        rcases hp A (by omega) with ⟨a, b⟩ | ⟨j', a1, a2, a3, _⟩
        · rw [a] at x; exact nomatch x
        · rw [a3]; decide
      refine Or.inr (Or.inr ?_)
      obtain ⟨⟨V, hV⟩, oy, o34, ix, hix, hin⟩ := jA_b h
      have hV' : ∃ t1 : S11, df_X11_startWithout n (nI A) (tl σ) = nd_b1 (df_X11_start n (nI A) t1) (fun s7 => some s7) ∧ eA t1 (pI (pI V 0 0) 1 0) ∧ t1.1 = (tl σ).1 ∧ t1.2.1 = (tl σ).2.1 ∧ t1.2.2.1 = (tl σ).2.2.1 ∧ t1.2.2.2.2.2 = (tl σ).2.2.2.2.2 := by
        unfold df_X11_startWithout df_X11_startWithout_0 df_X3_clear df_X3_clear_0
        rcases hV with ⟨o1, o2⟩ | ⟨o1, o2⟩
        · refine ⟨((tl σ).1, ((tl σ).2.1, ((tl σ).2.2.1, (pI (pI V 0 0) 1 0, (tl σ).2.2.2.2)))), ?_, Or.inl ⟨o1, rfl⟩, rfl, rfl, rfl, rfl⟩
          rw [if_pos o1, o2, nb_let, nb_let, nb_b1, nb_let]
        · refine ⟨((tl σ).1, ((tl σ).2.1, ((tl σ).2.2.1, ((tl σ).2.2.2.1, (pI (pI V 0 0) 1 0, (tl σ).2.2.2.2.2))))), ?_, Or.inr ⟨o1, rfl⟩, rfl, rfl, rfl, rfl⟩
          rw [if_neg (show ¬ sO (tl σ).1 0 = some 27 by rw [o1]; decide), if_pos o1, o2, nb_let, nb_let, nb_b1, nb_let]
      obtain ⟨t1, s1, s2, s3, s4, s5, s6⟩ := hV'
      have s7 : t1.2.2.2.2.2.1 = (tl σ).2.2.2.2.2.1 := congrArg Prod.fst s6
      have s8 : t1.2.2.2.2.2.2.1 = (tl σ).2.2.2.2.2.2.1 := congrArg (fun p => p.2.1) s6
      obtain ⟨Q, t', τ', q1, q2, q3, q4, q5, q6, q7, q8, q9, qa, qb, qc, qd, qe, qf, qg, qh⟩ := jm_start n hn (t := t1) (τ := (pI τ.1 0 0, τ.2)) (V := pI (pI V 0 0) 1 0) (vn := A) (Tt := 0) (by omega) s2 rfl rfl (by omega) (fun i hi => by omega) (by rw [s5]; exact oy) (by rw [s5]; exact o34) (ix := ix) (by rw [s4]; exact hix) hin (by rw [s4, s7]; exact hp) (by rw [s4]; exact ⟨j, x⟩)
      have sp := h.1
      refine ⟨t', τ', ?_, ?_, qe.trans rfl, ⟨?_, Or.inr ⟨qc, qd, A, Q, pI (pI V 0 0) 1 0, 0, 0, 0, 0, 0, fun _ => 0, q3, q4, fun i hi => by omega, q5, q6, Nat.le_refl 0, q7, q8, q9, ⟨qa, fun i hi => by omega⟩, qb.1.trans qb.2.symm, Or.inl qb.2⟩⟩, ⟨by rw [qf.1, s3], fun r a b => by rw [qf.2.1 r a b, s4], qf.2.2.1.trans s7, qf.2.2.2.trans s8⟩, ⟨fun i hi => ?_, qh.2.1, qh.2.2.1, qh.2.2.2.1, qh.2.2.2.2.1, qh.2.2.2.2.2⟩⟩
      · unfold df_X12_boot df_X12_boot_0
        have s1 : df_X11_startWithout n (nI A) (σ.2.2.2.2.1, σ.2.1, σ.2.2.2.2.2.1, σ.2.2.2.2.2.2.1, σ.2.2.2.2.2.2.2.1, σ.2.2.2.2.2.2.2.2.1, σ.2.2.2.2.2.2.2.2.2.1, σ.2.2.2.2.2.2.2.2.2.2) = nd_b1 (df_X11_start n (nI A) t1) (fun s7 => some s7) := s1
        rw [if_neg lt0, if_pos lt4, nm_ck (by omega) (by omega), nI_clamp (by omega), x, nb_mS, s1, q1, nb_b1, nb_b1, nb_let]
        rfl
      · unfold df_X19_boot df_X19_boot_0 df_X19_boot_18 df_X19_boot_45 df_X19_boot_46 df_X19_boot_57
        rw [inE, nb_b2, if_pos d, if_neg n1, nb_b2, if_neg n1, a3, nm_ck (by omega) (by omega), nI_clamp (by omega), if_neg e0, nb_fails, nb_b2, if_pos (show (0 : Int32) = 0 ∧ (0 : Int32) = 0 from ⟨rfl, rfl⟩), if_pos rfl, if_pos rfl, if_pos rfl, q2, nb_b1]
      · unfold sp2
        rw [qg 0, qg 1, s3]
        exact sp
      · refine (qh.1 i hi).trans ?_
        show sI (pI τ.1 0 0) i = _
        rw [nb_II, if_neg (by omega)]
  · refine Or.inl ⟨?_, ?_⟩
    · unfold df_X12_boot df_X12_boot_0 df_X12_boot_9
      by_cases y : A < 2 ^ 31
      · rw [if_neg (show ¬ nI A < (0 : Int32) from fun z => by rw [lz_0 hA] at z; omega), if_neg (show ¬ nI A < (4 : Int32) from fun z => by have z : nI A < nI 4 := z; rw [nI_ltI y (by omega)] at z; omega)]
      · rw [if_pos (show nI A < (0 : Int32) by rw [lz_0 hA]; omega)]
    · unfold df_X19_boot df_X19_boot_0 df_X19_boot_18 df_X19_boot_45 df_X19_boot_46 df_X19_boot_57
      rw [inE, nb_b2, if_neg d, if_pos (show nI 0 = (0 : Int32) from rfl), nb_b2, if_pos (show nI 0 = (0 : Int32) from rfl), nb_fails, nb_b2]
      rfl
