/-- numbers, in both -/
def nvO (hx : Bool) (z : Nat → Nat) : Nat → Nat → Nat → Option Nat
  | 0, _, a => some a
  | k + 1, i, a => match dv hx (z i) with
    | none => none
    | some d => if a * bsO hx + d < 2 ^ 32 then nvO hx z k (i + 1) (a * bsO hx + d) else none
def hxO (z : Nat → Nat) (q l : Nat) : Bool := decide (2 < l ∧ z q = 48 ∧ z (q + 1) = 120)
theorem nv_C (n Tp : Nat) (hx : Bool) {z : Nat → Nat} {tpe : St} {B : St} {cs tp os ap kd fr ft pt : Nat} {C S SA F T : Nat → Int32} {A : Nat → Int64} (hO : sO B 0 = some Tp) (hp : ap ≤ 120) (hz : ∀ i : Nat, i < ap → sR tpe 0 i = nI (z i) ∧ 32 ≤ z i ∧ z i ≤ 126) : ∀ k i a g : Nat, i + k = ap → k < g → a < 2 ^ 32 → ∃ v : Int64, df_X2_readNumber_72 n Tp g (bI hx) (nI i) (tpe, mC B cs tp os ap kd fr ft pt (Int64.ofNat a) C S SA F T A) = some (tpe, mC B cs tp os ap (if (nvO hx z k i a).isSome = true then kd else 4) fr ft pt v C S SA F T A) ∧ ∀ x : Nat, nvO hx z k i a = some x → v = Int64.ofNat x := fun k => by
  induction k with
  | zero =>
    intro i a g hi hg ha
    obtain ⟨m, rfl⟩ : ∃ m : Nat, g = m + 1 := ⟨g - 1, by omega⟩
    have hi : i = ap := by omega
    subst hi
    refine ⟨Int64.ofNat a, ?_, fun x h => by injection h with h; rw [h]⟩
    rw [nc_e n Tp m (bI hx) hp]
    rfl
  | succ k ih =>
    intro i a g hi hg ha
    obtain ⟨m, rfl⟩ : ∃ m : Nat, g = m + 1 := ⟨g - 1, by omega⟩
    have t := hz i (by omega)
    show ∃ v : Int64, _ ∧ ∀ x : Nat, (match dv hx (z i) with | none => none | some d => if a * bsO hx + d < 2 ^ 32 then nvO hx z k (i + 1) (a * bsO hx + d) else none) = some x → v = Int64.ofNat x
    cases hd : dv hx (z i) with
    | none =>
      obtain ⟨v, e⟩ := nc_b n Tp m i (z i) hx hO hp (by omega) t.1 t.2.1 t.2.2 hd (tpe := tpe) (cs := cs) (tp := tp) (os := os) (kd := kd) (fr := fr) (ft := ft) (pt := pt) (nm := Int64.ofNat a) (C := C) (S := S) (SA := SA) (F := F) (T := T) (A := A)
      refine ⟨v, ?_, fun x h => (nomatch h)⟩
      rw [e]
      have q : nvO hx z (k + 1) i a = none := by
        show (match dv hx (z i) with | none => none | some d => if a * bsO hx + d < 2 ^ 32 then nvO hx z k (i + 1) (a * bsO hx + d) else none) = none
        rw [hd]
      rw [q]
      rfl
    | some d =>
      have q : nvO hx z (k + 1) i a = if a * bsO hx + d < 2 ^ 32 then nvO hx z k (i + 1) (a * bsO hx + d) else none := by
        show (match dv hx (z i) with | none => none | some d => if a * bsO hx + d < 2 ^ 32 then nvO hx z k (i + 1) (a * bsO hx + d) else none) = _
        rw [hd]
      rw [nc_t n Tp m i a d (z i) hx hO hp (by omega) t.1 t.2.1 t.2.2 ha hd, q]
      by_cases y : a * bsO hx + d < 2 ^ 32
      · rw [if_pos y, if_pos y]
        obtain ⟨v, e1, e2⟩ := ih (i + 1) (a * bsO hx + d) m (by omega) (by omega) y
        exact ⟨v, e1, fun x h => e2 x (by rw [← h]; exact (if_pos y).symm)⟩
      · rw [if_neg y, if_neg y]
        refine ⟨Int64.ofNat (a * bsO hx + d), rfl, fun x h => ?_⟩
        have h : (if a * bsO hx + d < 2 ^ 32 then nvO hx z k (i + 1) (a * bsO hx + d) else none) = some x := h
        rw [if_neg y] at h
        exact nomatch h
theorem nvR_b (n : Nat) (hx : Bool) {z : Nat → Nat} {B : St} {ap st ts op ft : Nat} {K P OA : Nat → Int32} {N : Nat → Int64} {X : St × St} (hp : ap ≤ 120) (hz : ∀ i : Nat, i < ap → sR B 0 i = nI (z i) ∧ 32 ≤ z i ∧ z i ≤ 126) : ∀ k i g : Nat, i + k = ap → k < g → df_X15_scanNumber_77 n g (bI hx) (nI i) (mR B ap 34 st ts op ft 0 K P OA N, X) = some (mR B ap 34 st ts op ft 0 K P OA N, X) := fun k => by
  induction k with
  | zero =>
    intro i g hi hg
    obtain ⟨m, rfl⟩ : ∃ m : Nat, g = m + 1 := ⟨g - 1, by omega⟩
    rw [show i = ap by omega]
    exact nr_e n m (bI hx) hp
  | succ k ih =>
    intro i g hi hg
    obtain ⟨m, rfl⟩ : ∃ m : Nat, g = m + 1 := ⟨g - 1, by omega⟩
    have t := hz i (by omega)
    rw [nr_b n m i (z i) hx hp (by omega) t.1 t.2.1 t.2.2 (Or.inl ⟨rfl, rfl⟩)]
    exact ih (i + 1) m (by omega) (by omega)
theorem nv_R (n : Nat) (hx : Bool) {z : Nat → Nat} {B : St} {ap st ts op ft : Nat} {K P OA : Nat → Int32} {N : Nat → Int64} {X : St × St} (hp : ap ≤ 120) (hz : ∀ i : Nat, i < ap → sR B 0 i = nI (z i) ∧ 32 ≤ z i ∧ z i ≤ 126) : ∀ k i a g : Nat, i + k = ap → k < g → a < 2 ^ 32 → ∃ v : Int64, df_X15_scanNumber_77 n g (bI hx) (nI i) (mR B ap 1 st ts op ft (Int64.ofNat a) K P OA N, X) = some (mR B ap (if (nvO hx z k i a).isSome = true then 1 else 34) st ts op ft v K P OA N, X) ∧ ∀ x : Nat, nvO hx z k i a = some x → v = Int64.ofNat x := fun k => by
  induction k with
  | zero =>
    intro i a g hi hg ha
    obtain ⟨m, rfl⟩ : ∃ m : Nat, g = m + 1 := ⟨g - 1, by omega⟩
    have hi : i = ap := by omega
    subst hi
    refine ⟨Int64.ofNat a, ?_, fun x h => by injection h with h; rw [h]⟩
    rw [nr_e n m (bI hx) hp]
    rfl
  | succ k ih =>
    intro i a g hi hg ha
    obtain ⟨m, rfl⟩ : ∃ m : Nat, g = m + 1 := ⟨g - 1, by omega⟩
    have t := hz i (by omega)
    cases hd : dv hx (z i) with
    | none =>
      have q : nvO hx z (k + 1) i a = none := by
        show (match dv hx (z i) with | none => none | some d => if a * bsO hx + d < 2 ^ 32 then nvO hx z k (i + 1) (a * bsO hx + d) else none) = none
        rw [hd]
      rw [nr_b n m i (z i) hx hp (by omega) t.1 t.2.1 t.2.2 (Or.inr hd), q, nvR_b n hx hp hz k (i + 1) m (by omega) (by omega)]
      exact ⟨0, rfl, fun x h => (nomatch h)⟩
    | some d =>
      have q : nvO hx z (k + 1) i a = if a * bsO hx + d < 2 ^ 32 then nvO hx z k (i + 1) (a * bsO hx + d) else none := by
        show (match dv hx (z i) with | none => none | some d => if a * bsO hx + d < 2 ^ 32 then nvO hx z k (i + 1) (a * bsO hx + d) else none) = _
        rw [hd]
      rw [nr_t n m i a d (z i) hx hp (by omega) t.1 t.2.1 t.2.2 ha hd, q]
      by_cases y : a * bsO hx + d < 2 ^ 32
      · rw [if_pos y, if_pos y]
        exact ih (i + 1) (a * bsO hx + d) m (by omega) (by omega) y
      · rw [if_neg y, if_neg y, nvR_b n hx hp hz k (i + 1) m (by omega) (by omega)]
        exact ⟨0, rfl, fun x h => (nomatch h)⟩
theorem rn_C (n Tp q l : Nat) {z : Nat → Nat} {tpe : St} {B : St} {cs tp os kd ft pt : Nat} {nm : Int64} {C S SA F T : Nat → Int32} {A : Nat → Int64} (hO : sO B 0 = some Tp) (hl : 1 ≤ l) (hl2 : q + l ≤ 120) (hz : ∀ i : Nat, i < q + l → sR tpe 0 i = nI (z i) ∧ 32 ≤ z i ∧ z i ≤ 126) : df_X2_readNumber n Tp (tpe, mC B cs tp os (q + l) kd q ft pt nm C S SA F T A) = df_X2_readNumber_72 n Tp n (bI (hxO z q l)) (nI (if hxO z q l = true then q + 2 else q)) (tpe, mC B cs tp os (q + l) kd q ft pt (Int64.ofNat 0) C S SA F T A) := by
  have w : nI (q + l) - nI q = nI l := by rw [pk_sub (by omega)]; congr 1; omega
  have e0 : (0 : Int64) = Int64.ofNat 0 := rfl
  have x0 := hz q (by omega)
  have z31 : z q < 2 ^ 31 := by omega
  unfold hxO
  by_cases y : 2 < l
  · have x1 := hz (q + 1) (by omega)
    have z32 : z (q + 1) < 2 ^ 31 := by omega
    by_cases y1 : z q = 48
    · by_cases y2 : z (q + 1) = 120
      · rw [decide_eq_true (show 2 < l ∧ z q = 48 ∧ z (q + 1) = 120 from ⟨y, y1, y2⟩), if_pos rfl, show bI true = nI 1 from rfl]
        simp (disch := (first | assumption | decide | omega)) only [df_X2_readNumber_171, df_X2_readNumber_146, df_X2_readNumber_128, df_X2_readNumber_127, df_X2_readNumber_71, df_X2_readNumber_48, df_X2_readNumber_47, df_X2_readNumber_0, df_X2_readNumber, mC_i0, mC_i1, mC_i2, mC_i5, mC_i6, mC_i7, mC_i8, mC_i9, mC_l, mC_r0, mC_r1, mC_r2, mC_r3, mC_r4, mC_q, mC_o, mC_i4, mC_wi0, mC_wi1, mC_wi2, mC_wi5, mC_wi6, mC_wi7, mC_wi8, mC_wi9, mC_wl, mC_wr0, mC_wr1, mC_wr2, mC_wr3, mC_wr4, mC_wq, hO, oT, w, x0.1, x1.1, y1, y2, e0, eq_self, Nat.reduceEqDiff, Nat.reduceLeDiff, nl_0, nl_1, nl_2, nl_4, nl_5, nl_6, nl_7, nl_10, nl_16, nl_48, nl_120, nl_32768, nl_4294967295, no_1, no_1024, pk_mul, nI_add, nm_ck, nI_clamp, nI_ltI, nI_leI, nI_eq, nb_b2, nb_b1, ↓nb_let, nm_z0, nm_z1, nb_II, nb_IR, nb_RI, nb_RR, nm_IL, nm_IQ, nm_RL, nm_RQ, nm_LI, nm_LR, nm_LL, nm_LQ, nm_QI, nm_QR, nm_QL, nm_QQ, nm_rr, nm_ii, nm_eqm, not_false_eq_true, pk_sub, nm_div, nm_shl, nm_shr, nm_ush, nm_or8, nm_or64, nm_or256, nm_m1, nm_m3, nm_m7, nm_m15, nm_m31, nm_m63, nm_m255, nm_m511, nm_m1023, nm_m2047, nm_m65535, Nat.reduceMod, Nat.reducePow, Nat.reduceAdd, Nat.reduceSub, Nat.reduceMul, nm_bo, nm_bi, nm_rc, nm_ic, nm_ri, nm_rl, nm_rq, nm_ql, nm_qi, nm_li, nm_us, nm_uu, nm_cp, nm_sa31, nm_sa7, nm_m127, nm_m2, nm_nz, nm_nzk, nm_eq32, nm_nzf, if_true, if_false, ↓reduceIte, if_pos, if_neg]
      · rw [decide_eq_false (show ¬ (2 < l ∧ z q = 48 ∧ z (q + 1) = 120) from fun h => y2 h.2.2), if_neg (by decide), show bI false = nI 0 from rfl]
        simp (disch := (first | assumption | decide | omega)) only [df_X2_readNumber_171, df_X2_readNumber_146, df_X2_readNumber_128, df_X2_readNumber_127, df_X2_readNumber_71, df_X2_readNumber_48, df_X2_readNumber_47, df_X2_readNumber_0, df_X2_readNumber, mC_i0, mC_i1, mC_i2, mC_i5, mC_i6, mC_i7, mC_i8, mC_i9, mC_l, mC_r0, mC_r1, mC_r2, mC_r3, mC_r4, mC_q, mC_o, mC_i4, mC_wi0, mC_wi1, mC_wi2, mC_wi5, mC_wi6, mC_wi7, mC_wi8, mC_wi9, mC_wl, mC_wr0, mC_wr1, mC_wr2, mC_wr3, mC_wr4, mC_wq, hO, oT, w, x0.1, x1.1, y1, y2, e0, eq_self, Nat.reduceEqDiff, Nat.reduceLeDiff, nl_0, nl_1, nl_2, nl_4, nl_5, nl_6, nl_7, nl_10, nl_16, nl_48, nl_120, nl_32768, nl_4294967295, no_1, no_1024, pk_mul, nI_add, nm_ck, nI_clamp, nI_ltI, nI_leI, nI_eq, nb_b2, nb_b1, ↓nb_let, nm_z0, nm_z1, nb_II, nb_IR, nb_RI, nb_RR, nm_IL, nm_IQ, nm_RL, nm_RQ, nm_LI, nm_LR, nm_LL, nm_LQ, nm_QI, nm_QR, nm_QL, nm_QQ, nm_rr, nm_ii, nm_eqm, not_false_eq_true, pk_sub, nm_div, nm_shl, nm_shr, nm_ush, nm_or8, nm_or64, nm_or256, nm_m1, nm_m3, nm_m7, nm_m15, nm_m31, nm_m63, nm_m255, nm_m511, nm_m1023, nm_m2047, nm_m65535, Nat.reduceMod, Nat.reducePow, Nat.reduceAdd, Nat.reduceSub, Nat.reduceMul, nm_bo, nm_bi, nm_rc, nm_ic, nm_ri, nm_rl, nm_rq, nm_ql, nm_qi, nm_li, nm_us, nm_uu, nm_cp, nm_sa31, nm_sa7, nm_m127, nm_m2, nm_nz, nm_nzk, nm_eq32, nm_nzf, if_true, if_false, ↓reduceIte, if_pos, if_neg]
    · rw [decide_eq_false (show ¬ (2 < l ∧ z q = 48 ∧ z (q + 1) = 120) from fun h => y1 h.2.1), if_neg (by decide), show bI false = nI 0 from rfl]
      simp (disch := (first | assumption | decide | omega)) only [df_X2_readNumber_171, df_X2_readNumber_146, df_X2_readNumber_128, df_X2_readNumber_127, df_X2_readNumber_71, df_X2_readNumber_48, df_X2_readNumber_47, df_X2_readNumber_0, df_X2_readNumber, mC_i0, mC_i1, mC_i2, mC_i5, mC_i6, mC_i7, mC_i8, mC_i9, mC_l, mC_r0, mC_r1, mC_r2, mC_r3, mC_r4, mC_q, mC_o, mC_i4, mC_wi0, mC_wi1, mC_wi2, mC_wi5, mC_wi6, mC_wi7, mC_wi8, mC_wi9, mC_wl, mC_wr0, mC_wr1, mC_wr2, mC_wr3, mC_wr4, mC_wq, hO, oT, w, x0.1, y1, e0, eq_self, Nat.reduceEqDiff, Nat.reduceLeDiff, nl_0, nl_1, nl_2, nl_4, nl_5, nl_6, nl_7, nl_10, nl_16, nl_48, nl_120, nl_32768, nl_4294967295, no_1, no_1024, pk_mul, nI_add, nm_ck, nI_clamp, nI_ltI, nI_leI, nI_eq, nb_b2, nb_b1, ↓nb_let, nm_z0, nm_z1, nb_II, nb_IR, nb_RI, nb_RR, nm_IL, nm_IQ, nm_RL, nm_RQ, nm_LI, nm_LR, nm_LL, nm_LQ, nm_QI, nm_QR, nm_QL, nm_QQ, nm_rr, nm_ii, nm_eqm, not_false_eq_true, pk_sub, nm_div, nm_shl, nm_shr, nm_ush, nm_or8, nm_or64, nm_or256, nm_m1, nm_m3, nm_m7, nm_m15, nm_m31, nm_m63, nm_m255, nm_m511, nm_m1023, nm_m2047, nm_m65535, Nat.reduceMod, Nat.reducePow, Nat.reduceAdd, Nat.reduceSub, Nat.reduceMul, nm_bo, nm_bi, nm_rc, nm_ic, nm_ri, nm_rl, nm_rq, nm_ql, nm_qi, nm_li, nm_us, nm_uu, nm_cp, nm_sa31, nm_sa7, nm_m127, nm_m2, nm_nz, nm_nzk, nm_eq32, nm_nzf, if_true, if_false, ↓reduceIte, if_pos, if_neg]
  · rw [decide_eq_false (show ¬ (2 < l ∧ z q = 48 ∧ z (q + 1) = 120) from fun h => y h.1), if_neg (by decide), show bI false = nI 0 from rfl]
    simp (disch := (first | assumption | decide | omega)) only [df_X2_readNumber_171, df_X2_readNumber_146, df_X2_readNumber_128, df_X2_readNumber_127, df_X2_readNumber_71, df_X2_readNumber_48, df_X2_readNumber_47, df_X2_readNumber_0, df_X2_readNumber, mC_i0, mC_i1, mC_i2, mC_i5, mC_i6, mC_i7, mC_i8, mC_i9, mC_l, mC_r0, mC_r1, mC_r2, mC_r3, mC_r4, mC_q, mC_o, mC_i4, mC_wi0, mC_wi1, mC_wi2, mC_wi5, mC_wi6, mC_wi7, mC_wi8, mC_wi9, mC_wl, mC_wr0, mC_wr1, mC_wr2, mC_wr3, mC_wr4, mC_wq, hO, oT, w, e0, eq_self, Nat.reduceEqDiff, Nat.reduceLeDiff, nl_0, nl_1, nl_2, nl_4, nl_5, nl_6, nl_7, nl_10, nl_16, nl_48, nl_120, nl_32768, nl_4294967295, no_1, no_1024, pk_mul, nI_add, nm_ck, nI_clamp, nI_ltI, nI_leI, nI_eq, nb_b2, nb_b1, ↓nb_let, nm_z0, nm_z1, nb_II, nb_IR, nb_RI, nb_RR, nm_IL, nm_IQ, nm_RL, nm_RQ, nm_LI, nm_LR, nm_LL, nm_LQ, nm_QI, nm_QR, nm_QL, nm_QQ, nm_rr, nm_ii, nm_eqm, not_false_eq_true, pk_sub, nm_div, nm_shl, nm_shr, nm_ush, nm_or8, nm_or64, nm_or256, nm_m1, nm_m3, nm_m7, nm_m15, nm_m31, nm_m63, nm_m255, nm_m511, nm_m1023, nm_m2047, nm_m65535, Nat.reduceMod, Nat.reducePow, Nat.reduceAdd, Nat.reduceSub, Nat.reduceMul, nm_bo, nm_bi, nm_rc, nm_ic, nm_ri, nm_rl, nm_rq, nm_ql, nm_qi, nm_li, nm_us, nm_uu, nm_cp, nm_sa31, nm_sa7, nm_m127, nm_m2, nm_nz, nm_nzk, nm_eq32, nm_nzf, if_true, if_false, ↓reduceIte, if_pos, if_neg]
theorem rn_R (n q l : Nat) {z : Nat → Nat} {B : St} {tk ts op ft : Nat} {tv : Int64} {K P OA : Nat → Int32} {N : Nat → Int64} {X : St × St} (hl : 1 ≤ l) (hl2 : q + l ≤ 120) (hz : ∀ i : Nat, i < q + l → sR B 0 i = nI (z i) ∧ 32 ≤ z i ∧ z i ≤ 126) : df_X15_scanNumber n (mR B (q + l) tk q ts op ft tv K P OA N, X) = df_X15_scanNumber_77 n n (bI (hxO z q l)) (nI (if hxO z q l = true then q + 2 else q)) (mR B (q + l) 1 q ts op ft (Int64.ofNat 0) K P OA N, X) := by
  have w : nI (q + l) - nI q = nI l := by rw [pk_sub (by omega)]; congr 1; omega
  have e0 : (0 : Int64) = Int64.ofNat 0 := rfl
  have x0 := hz q (by omega)
  have z31 : z q < 2 ^ 31 := by omega
  unfold hxO
  by_cases y : 2 < l
  · have x1 := hz (q + 1) (by omega)
    have z32 : z (q + 1) < 2 ^ 31 := by omega
    by_cases y1 : z q = 48
    · by_cases y2 : z (q + 1) = 120
      · rw [decide_eq_true (show 2 < l ∧ z q = 48 ∧ z (q + 1) = 120 from ⟨y, y1, y2⟩), if_pos rfl, show bI true = nI 1 from rfl]
        simp (disch := (first | assumption | decide | omega)) only [df_X15_scanNumber_204, df_X15_scanNumber_186, df_X15_scanNumber_180, df_X15_scanNumber_154, df_X15_scanNumber_134, df_X15_scanNumber_132, df_X15_scanNumber_76, df_X15_scanNumber_48, df_X15_scanNumber_47, df_X15_scanNumber_0, df_X15_scanNumber, mR_i1, mR_i2, mR_i3, mR_i4, mR_i5, mR_i6, mR_l, mR_r5, mR_r6, mR_r7, mR_q, mR_o, mR_i0, mR_r0, mR_wi1, mR_wi2, mR_wi3, mR_wi4, mR_wi5, mR_wi6, mR_wl, mR_wr5, mR_wr6, mR_wr7, mR_wq, w, x0.1, x1.1, y1, y2, e0, eq_self, Nat.reduceEqDiff, Nat.reduceLeDiff, nl_0, nl_1, nl_2, nl_3, nl_10, nl_16, nl_34, nl_48, nl_99, nl_120, no_1, no_1024, pk_mul, nI_add, nm_ck, nI_clamp, nI_ltI, nI_leI, nI_eq, nb_b2, nb_b1, ↓nb_let, nm_z0, nm_z1, nb_II, nb_IR, nb_RI, nb_RR, nm_IL, nm_IQ, nm_RL, nm_RQ, nm_LI, nm_LR, nm_LL, nm_LQ, nm_QI, nm_QR, nm_QL, nm_QQ, nm_rr, nm_ii, nm_eqm, not_false_eq_true, pk_sub, nm_div, nm_shl, nm_shr, nm_ush, nm_or8, nm_or64, nm_or256, nm_m1, nm_m3, nm_m7, nm_m15, nm_m31, nm_m63, nm_m255, nm_m511, nm_m1023, nm_m2047, nm_m65535, Nat.reduceMod, Nat.reducePow, Nat.reduceAdd, Nat.reduceSub, Nat.reduceMul, nm_bo, nm_bi, nm_rc, nm_ic, nm_ri, nm_rl, nm_rq, nm_ql, nm_qi, nm_li, nm_us, nm_uu, nm_cp, nm_sa31, nm_sa7, nm_m127, nm_m2, nm_nz, nm_nzk, nm_eq32, nm_nzf, if_true, if_false, ↓reduceIte, if_pos, if_neg]
      · rw [decide_eq_false (show ¬ (2 < l ∧ z q = 48 ∧ z (q + 1) = 120) from fun h => y2 h.2.2), if_neg (by decide), show bI false = nI 0 from rfl]
        simp (disch := (first | assumption | decide | omega)) only [df_X15_scanNumber_204, df_X15_scanNumber_186, df_X15_scanNumber_180, df_X15_scanNumber_154, df_X15_scanNumber_134, df_X15_scanNumber_132, df_X15_scanNumber_76, df_X15_scanNumber_48, df_X15_scanNumber_47, df_X15_scanNumber_0, df_X15_scanNumber, mR_i1, mR_i2, mR_i3, mR_i4, mR_i5, mR_i6, mR_l, mR_r5, mR_r6, mR_r7, mR_q, mR_o, mR_i0, mR_r0, mR_wi1, mR_wi2, mR_wi3, mR_wi4, mR_wi5, mR_wi6, mR_wl, mR_wr5, mR_wr6, mR_wr7, mR_wq, w, x0.1, x1.1, y1, y2, e0, eq_self, Nat.reduceEqDiff, Nat.reduceLeDiff, nl_0, nl_1, nl_2, nl_3, nl_10, nl_16, nl_34, nl_48, nl_99, nl_120, no_1, no_1024, pk_mul, nI_add, nm_ck, nI_clamp, nI_ltI, nI_leI, nI_eq, nb_b2, nb_b1, ↓nb_let, nm_z0, nm_z1, nb_II, nb_IR, nb_RI, nb_RR, nm_IL, nm_IQ, nm_RL, nm_RQ, nm_LI, nm_LR, nm_LL, nm_LQ, nm_QI, nm_QR, nm_QL, nm_QQ, nm_rr, nm_ii, nm_eqm, not_false_eq_true, pk_sub, nm_div, nm_shl, nm_shr, nm_ush, nm_or8, nm_or64, nm_or256, nm_m1, nm_m3, nm_m7, nm_m15, nm_m31, nm_m63, nm_m255, nm_m511, nm_m1023, nm_m2047, nm_m65535, Nat.reduceMod, Nat.reducePow, Nat.reduceAdd, Nat.reduceSub, Nat.reduceMul, nm_bo, nm_bi, nm_rc, nm_ic, nm_ri, nm_rl, nm_rq, nm_ql, nm_qi, nm_li, nm_us, nm_uu, nm_cp, nm_sa31, nm_sa7, nm_m127, nm_m2, nm_nz, nm_nzk, nm_eq32, nm_nzf, if_true, if_false, ↓reduceIte, if_pos, if_neg]
    · rw [decide_eq_false (show ¬ (2 < l ∧ z q = 48 ∧ z (q + 1) = 120) from fun h => y1 h.2.1), if_neg (by decide), show bI false = nI 0 from rfl]
      simp (disch := (first | assumption | decide | omega)) only [df_X15_scanNumber_204, df_X15_scanNumber_186, df_X15_scanNumber_180, df_X15_scanNumber_154, df_X15_scanNumber_134, df_X15_scanNumber_132, df_X15_scanNumber_76, df_X15_scanNumber_48, df_X15_scanNumber_47, df_X15_scanNumber_0, df_X15_scanNumber, mR_i1, mR_i2, mR_i3, mR_i4, mR_i5, mR_i6, mR_l, mR_r5, mR_r6, mR_r7, mR_q, mR_o, mR_i0, mR_r0, mR_wi1, mR_wi2, mR_wi3, mR_wi4, mR_wi5, mR_wi6, mR_wl, mR_wr5, mR_wr6, mR_wr7, mR_wq, w, x0.1, y1, e0, eq_self, Nat.reduceEqDiff, Nat.reduceLeDiff, nl_0, nl_1, nl_2, nl_3, nl_10, nl_16, nl_34, nl_48, nl_99, nl_120, no_1, no_1024, pk_mul, nI_add, nm_ck, nI_clamp, nI_ltI, nI_leI, nI_eq, nb_b2, nb_b1, ↓nb_let, nm_z0, nm_z1, nb_II, nb_IR, nb_RI, nb_RR, nm_IL, nm_IQ, nm_RL, nm_RQ, nm_LI, nm_LR, nm_LL, nm_LQ, nm_QI, nm_QR, nm_QL, nm_QQ, nm_rr, nm_ii, nm_eqm, not_false_eq_true, pk_sub, nm_div, nm_shl, nm_shr, nm_ush, nm_or8, nm_or64, nm_or256, nm_m1, nm_m3, nm_m7, nm_m15, nm_m31, nm_m63, nm_m255, nm_m511, nm_m1023, nm_m2047, nm_m65535, Nat.reduceMod, Nat.reducePow, Nat.reduceAdd, Nat.reduceSub, Nat.reduceMul, nm_bo, nm_bi, nm_rc, nm_ic, nm_ri, nm_rl, nm_rq, nm_ql, nm_qi, nm_li, nm_us, nm_uu, nm_cp, nm_sa31, nm_sa7, nm_m127, nm_m2, nm_nz, nm_nzk, nm_eq32, nm_nzf, if_true, if_false, ↓reduceIte, if_pos, if_neg]
  · rw [decide_eq_false (show ¬ (2 < l ∧ z q = 48 ∧ z (q + 1) = 120) from fun h => y h.1), if_neg (by decide), show bI false = nI 0 from rfl]
    simp (disch := (first | assumption | decide | omega)) only [df_X15_scanNumber_204, df_X15_scanNumber_186, df_X15_scanNumber_180, df_X15_scanNumber_154, df_X15_scanNumber_134, df_X15_scanNumber_132, df_X15_scanNumber_76, df_X15_scanNumber_48, df_X15_scanNumber_47, df_X15_scanNumber_0, df_X15_scanNumber, mR_i1, mR_i2, mR_i3, mR_i4, mR_i5, mR_i6, mR_l, mR_r5, mR_r6, mR_r7, mR_q, mR_o, mR_i0, mR_r0, mR_wi1, mR_wi2, mR_wi3, mR_wi4, mR_wi5, mR_wi6, mR_wl, mR_wr5, mR_wr6, mR_wr7, mR_wq, w, e0, eq_self, Nat.reduceEqDiff, Nat.reduceLeDiff, nl_0, nl_1, nl_2, nl_3, nl_10, nl_16, nl_34, nl_48, nl_99, nl_120, no_1, no_1024, pk_mul, nI_add, nm_ck, nI_clamp, nI_ltI, nI_leI, nI_eq, nb_b2, nb_b1, ↓nb_let, nm_z0, nm_z1, nb_II, nb_IR, nb_RI, nb_RR, nm_IL, nm_IQ, nm_RL, nm_RQ, nm_LI, nm_LR, nm_LL, nm_LQ, nm_QI, nm_QR, nm_QL, nm_QQ, nm_rr, nm_ii, nm_eqm, not_false_eq_true, pk_sub, nm_div, nm_shl, nm_shr, nm_ush, nm_or8, nm_or64, nm_or256, nm_m1, nm_m3, nm_m7, nm_m15, nm_m31, nm_m63, nm_m255, nm_m511, nm_m1023, nm_m2047, nm_m65535, Nat.reduceMod, Nat.reducePow, Nat.reduceAdd, Nat.reduceSub, Nat.reduceMul, nm_bo, nm_bi, nm_rc, nm_ic, nm_ri, nm_rl, nm_rq, nm_ql, nm_qi, nm_li, nm_us, nm_uu, nm_cp, nm_sa31, nm_sa7, nm_m127, nm_m2, nm_nz, nm_nzk, nm_eq32, nm_nzf, if_true, if_false, ↓reduceIte, if_pos, if_neg]
/-- a token, as both read it -/
def tkC (n Tp p q p' κ s : Nat) (v : Int64) (tpe B : St) : Prop := ∀ (cs tp os kd fr ft pt : Nat) (nm : Int64) (C S SA F T : Nat → Int32) (A : Nat → Int64), ∃ x : Int64, df_X2_next n Tp (tpe, mC B cs tp os p kd fr ft pt nm C S SA F T A) = some (tpe, mC B cs tp os p' κ q ft pt x C S SA F T A) ∧ (κ = 1 → x = v) ∧ (κ = 3 → x = (nI s).toInt64)
def tkM (n Tp q p' μ g : Nat) (tpe B : St) : Prop := ∀ (cs tp os kd ft pt : Nat) (nm : Int64) (C S SA F T : Nat → Int32) (A : Nat → Int64), ∃ x : Int64, df_X2_meaning n Tp (tpe, mC B cs tp os p' kd q ft pt nm C S SA F T A) = some (nI μ, (tpe, mC B cs tp os p' kd q ft pt x C S SA F T A)) ∧ (μ = 31 → x = (nI g).toInt64)
def tkR (n q p' τ g : Nat) (v : Int64) (B : St) : Prop := ∀ (tk st ts op ft : Nat) (tv : Int64) (K P OA : Nat → Int32) (N : Nat → Int64) (X : St × St), ∃ x : Int64, df_X15_scan n (mR B q tk st ts op ft tv K P OA N, X) = some (mR B p' τ q ts op ft x K P OA N, X) ∧ (τ = 1 → x = v) ∧ (τ = 2 → x = (nI g).toInt64)
def tkT (μ τ g : Nat) : Prop := (μ = 0 ∧ τ = 0) ∨ (μ = 31 ∧ τ = 2 ∧ g < 32) ∨ (μ = 31 ∧ τ = 3 ∧ g = 32) ∨ (μ = 32 ∧ τ = 4) ∨ (μ = 33 ∧ τ = 5) ∨ (μ = 27 ∧ τ = 6) ∨ (μ = 26 ∧ τ = 7) ∨ (μ = 23 ∧ τ = 8) ∨ (μ = 24 ∧ τ = 9)
theorem wd_2 (n Tp q l : Nat) {z : Nat → Nat} {tpe BC BR : St} (hOC : sO BC 0 = some Tp) (hl : 1 ≤ l) (hl2 : q + l ≤ 120) (hn : 130 < n) (hC : ∀ i : Nat, i < q + l → sR tpe 0 i = nI (z i) ∧ z i ≤ 126) (hR : ∀ i : Nat, i < q + l → sR BR 0 i = nI (z i) ∧ 32 ≤ z i ∧ z i ≤ 126) (hza : ∀ i : Nat, z i < 127) : ∃ μ τ g : Nat, tkT μ τ g ∧ tkM n Tp q (q + l) μ g tpe BC ∧ ∀ (tk ts op ft : Nat) (tv : Int64) (K P OA : Nat → Int32) (N : Nat → Int64) (X : St × St), ∃ x : Int64, df_X15_scanWord n (mR BR (q + l) tk q ts op ft tv K P OA N, X) = some (mR BR (q + l) τ q ts op ft x K P OA N, X) ∧ (τ = 2 → x = (nI g).toInt64) := by
  by_cases hx : z q = 120
  · cases hr : rgV z q l with
    | some g =>
      have g32 : g < 32 := by
        unfold rgV at hr
        split at hr
        · rename_i y
          injection hr with hr
          have := aD_t y.2
          omega
        · split at hr
          · rename_i y
            injection hr with hr
            omega
          · exact nomatch hr
      refine ⟨31, 2, g, by unfold tkT; omega, fun cs tp os kd ft pt nm C S SA F T A => ?_, fun tk ts op ft tv K P OA N X => ⟨(nI g).toInt64, (sw_r n q l hl hl2 hR hza).1 g hx hr, fun _ => rfl⟩⟩
      obtain ⟨v, e1, e2⟩ := mn_x n Tp q l hOC hl2 hn hl hC hx (B := BC) (cs := cs) (tp := tp) (os := os) (kd := kd) (ft := ft) (pt := pt) (nm := nm) (C := C) (S := S) (SA := SA) (F := F) (T := T) (A := A)
      rw [hr] at e1
      exact ⟨v, e1, fun _ => e2 g hr⟩
    | none =>
      refine ⟨0, 0, 0, by unfold tkT; omega, fun cs tp os kd ft pt nm C S SA F T A => ?_, fun tk ts op ft tv K P OA N X => ?_⟩
      · obtain ⟨v, e1, e2⟩ := mn_x n Tp q l hOC hl2 hn hl hC hx (B := BC) (cs := cs) (tp := tp) (os := os) (kd := kd) (ft := ft) (pt := pt) (nm := nm) (C := C) (S := S) (SA := SA) (F := F) (T := T) (A := A)
        rw [hr] at e1
        exact ⟨v, e1, fun h => by omega⟩
      · obtain ⟨v, e⟩ := (sw_r n q l hl hl2 hR hza (X := X) (tk := tk) (ts := ts) (op := op) (ft := ft) (tv := tv) (K := K) (P := P) (OA := OA) (N := N)).2 (fun _ => hr)
        exact ⟨v, e.trans (sw_0 n q l hl hl2 hn hR hza (by omega) (by omega) (by omega) (by omega) (by omega) (by omega) (by omega)), fun h => by omega⟩
  · by_cases w21 : l = 2 ∧ z q = 112 ∧ z (q + 1) = 99
    · refine ⟨31, 3, 32, Or.inr (Or.inr (Or.inl ⟨rfl, rfl, rfl⟩)), fun cs tp os kd ft pt nm C S SA F T A => ⟨32, mn_21 n Tp q l hOC hl2 hn hl hC w21, fun h => rfl⟩, fun tk ts op ft tv K P OA N X => ?_⟩
      obtain ⟨v, e⟩ := (sw_r n q l hl hl2 hR hza (X := X) (tk := tk) (ts := ts) (op := op) (ft := ft) (tv := tv) (K := K) (P := P) (OA := OA) (N := N)).2 (fun h => absurd h hx)
      exact ⟨v, e.trans (sw_21 n q l hl hl2 hn hR hza w21), fun h => absurd h (by decide)⟩
    · have v21 := w21
      by_cases w22 : l = 3 ∧ z q = 112 ∧ z (q + 1) = 105 ∧ z (q + 2) = 100
      · refine ⟨32, 4, 0, Or.inr (Or.inr (Or.inr (Or.inl ⟨rfl, rfl⟩))), fun cs tp os kd ft pt nm C S SA F T A => ⟨nm, mn_22 n Tp q l hOC hl2 hn hl hC w22, fun h => absurd h (by decide)⟩, fun tk ts op ft tv K P OA N X => ?_⟩
        obtain ⟨v, e⟩ := (sw_r n q l hl hl2 hR hza (X := X) (tk := tk) (ts := ts) (op := op) (ft := ft) (tv := tv) (K := K) (P := P) (OA := OA) (N := N)).2 (fun h => absurd h hx)
        exact ⟨v, e.trans (sw_22 n q l hl hl2 hn hR hza w22), fun h => absurd h (by decide)⟩
      · have v22 := w22
        by_cases w23 : l = 5 ∧ z q = 99 ∧ z (q + 1) = 111 ∧ z (q + 2) = 117 ∧ z (q + 3) = 110 ∧ z (q + 4) = 116
        · refine ⟨33, 5, 0, Or.inr (Or.inr (Or.inr (Or.inr (Or.inl ⟨rfl, rfl⟩)))), fun cs tp os kd ft pt nm C S SA F T A => ⟨nm, mn_23 n Tp q l hOC hl2 hn hl hC w23, fun h => absurd h (by decide)⟩, fun tk ts op ft tv K P OA N X => ?_⟩
          obtain ⟨v, e⟩ := (sw_r n q l hl hl2 hR hza (X := X) (tk := tk) (ts := ts) (op := op) (ft := ft) (tv := tv) (K := K) (P := P) (OA := OA) (N := N)).2 (fun h => absurd h hx)
          exact ⟨v, e.trans (sw_23 n q l hl hl2 hn hR hza w23), fun h => absurd h (by decide)⟩
        · have v23 := w23
          by_cases w24 : l = 4 ∧ z q = 98 ∧ z (q + 1) = 121 ∧ z (q + 2) = 116 ∧ z (q + 3) = 101
          · refine ⟨27, 6, 0, Or.inr (Or.inr (Or.inr (Or.inr (Or.inr (Or.inl ⟨rfl, rfl⟩))))), fun cs tp os kd ft pt nm C S SA F T A => ⟨nm, mn_24 n Tp q l hOC hl2 hn hl hC w24, fun h => absurd h (by decide)⟩, fun tk ts op ft tv K P OA N X => ?_⟩
            obtain ⟨v, e⟩ := (sw_r n q l hl hl2 hR hza (X := X) (tk := tk) (ts := ts) (op := op) (ft := ft) (tv := tv) (K := K) (P := P) (OA := OA) (N := N)).2 (fun h => absurd h hx)
            exact ⟨v, e.trans (sw_24 n q l hl hl2 hn hR hza w24), fun h => absurd h (by decide)⟩
          · have v24 := w24
            by_cases w25 : l = 4 ∧ z q = 104 ∧ z (q + 1) = 97 ∧ z (q + 2) = 108 ∧ z (q + 3) = 102
            · refine ⟨26, 7, 0, Or.inr (Or.inr (Or.inr (Or.inr (Or.inr (Or.inr (Or.inl ⟨rfl, rfl⟩)))))), fun cs tp os kd ft pt nm C S SA F T A => ⟨nm, mn_25 n Tp q l hOC hl2 hn hl hC w25, fun h => absurd h (by decide)⟩, fun tk ts op ft tv K P OA N X => ?_⟩
              obtain ⟨v, e⟩ := (sw_r n q l hl hl2 hR hza (X := X) (tk := tk) (ts := ts) (op := op) (ft := ft) (tv := tv) (K := K) (P := P) (OA := OA) (N := N)).2 (fun h => absurd h hx)
              exact ⟨v, e.trans (sw_25 n q l hl hl2 hn hR hza w25), fun h => absurd h (by decide)⟩
            · have v25 := w25
              by_cases w26 : l = 3 ∧ z q = 111 ∧ z (q + 1) = 108 ∧ z (q + 2) = 100
              · refine ⟨23, 8, 0, Or.inr (Or.inr (Or.inr (Or.inr (Or.inr (Or.inr (Or.inr (Or.inl ⟨rfl, rfl⟩))))))), fun cs tp os kd ft pt nm C S SA F T A => ⟨nm, mn_26 n Tp q l hOC hl2 hn hl hC w26, fun h => absurd h (by decide)⟩, fun tk ts op ft tv K P OA N X => ?_⟩
                obtain ⟨v, e⟩ := (sw_r n q l hl hl2 hR hza (X := X) (tk := tk) (ts := ts) (op := op) (ft := ft) (tv := tv) (K := K) (P := P) (OA := OA) (N := N)).2 (fun h => absurd h hx)
                exact ⟨v, e.trans (sw_26 n q l hl hl2 hn hR hza w26), fun h => absurd h (by decide)⟩
              · have v26 := w26
                by_cases w27 : l = 7 ∧ z q = 99 ∧ z (q + 1) = 104 ∧ z (q + 2) = 97 ∧ z (q + 3) = 110 ∧ z (q + 4) = 103 ∧ z (q + 5) = 101 ∧ z (q + 6) = 100
                · refine ⟨24, 9, 0, Or.inr (Or.inr (Or.inr (Or.inr (Or.inr (Or.inr (Or.inr (Or.inr (⟨rfl, rfl⟩)))))))), fun cs tp os kd ft pt nm C S SA F T A => ⟨nm, mn_27 n Tp q l hOC hl2 hn hl hC w27, fun h => absurd h (by decide)⟩, fun tk ts op ft tv K P OA N X => ?_⟩
                  obtain ⟨v, e⟩ := (sw_r n q l hl hl2 hR hza (X := X) (tk := tk) (ts := ts) (op := op) (ft := ft) (tv := tv) (K := K) (P := P) (OA := OA) (N := N)).2 (fun h => absurd h hx)
                  exact ⟨v, e.trans (sw_27 n q l hl hl2 hn hR hza w27), fun h => absurd h (by decide)⟩
                · have v27 := w27
                  refine ⟨0, 0, 0, Or.inl ⟨rfl, rfl⟩, fun cs tp os kd ft pt nm C S SA F T A => ⟨nm, mn_0 n Tp q l hOC hl2 hn hl hC hx w21 w22 w23 w24 w25 w26 w27, fun h => absurd h (by decide)⟩, fun tk ts op ft tv K P OA N X => ?_⟩
                  obtain ⟨v, e⟩ := (sw_r n q l hl hl2 hR hza (X := X) (tk := tk) (ts := ts) (op := op) (ft := ft) (tv := tv) (K := K) (P := P) (OA := OA) (N := N)).2 (fun h => absurd h hx)
                  exact ⟨v, e.trans (sw_0 n q l hl hl2 hn hR hza w21 w22 w23 w24 w25 w26 w27), fun h => absurd h (by decide)⟩
theorem pr_0 (c : Nat) (h : c < 128) : pr c 0 = 0 := by
  have k : ∀ c : Fin 128, pr c.1 0 = 0 ∨ c.1 = 0 := by decide +kernel
  rcases k ⟨c, h⟩ with y | y
  · exact y
  · have y : c = 0 := y
    rw [y]
    rfl
theorem tk_all (n Tp L p : Nat) {z : Nat → Nat} {tpe BC BR : St} (hO : sO BC 0 = some Tp) (h4 : sI BC 4 = nI L) (h0 : sI BR 0 = nI L) (hL : L ≤ 120) (hn : 130 < n) (hz : ∀ i : Nat, i < L → 32 ≤ z i ∧ z i ≤ 126) (hza : ∀ i : Nat, z i < 127) (htC : ∀ i : Nat, i < L → sR tpe 0 i = nI (z i)) (htR : ∀ i : Nat, i < L → sR BR 0 i = nI (z i)) (hp : p ≤ L) : ∃ (q p' κ s τ μ g : Nat) (v : Int64), q = qS z L p ∧ p ≤ q ∧ q ≤ p' ∧ p' ≤ L ∧ tkC n Tp p q p' κ s v tpe BC ∧ ((κ = 0 ∧ q = L ∧ p' = L) ∨ (q < L ∧ q < p' ∧ ¬ z q = 32 ∧ tkR n q p' τ g v BR ∧ ((κ = 1 ∧ τ = 1) ∨ (κ = 2 ∧ tkT μ τ g ∧ tkM n Tp q p' μ g tpe BC) ∨ (κ = 3 ∧ 1 ≤ s ∧ (s ≤ 19 ∨ s = 21 ∨ s = 22 ∨ s = 25 ∨ s = 28 ∨ s = 29) ∧ τ = tS s) ∨ (κ = 4 ∧ τ = 34)))) := by
  obtain ⟨q1, q2, q3⟩ := qS_1 z hp
  have sk := fun cs tp os kd fr ft pt nm C S SA F T A => nx_sk n Tp L p hO h4 hL hn hz htC hp (tpe := tpe) (B := BC) (cs := cs) (tp := tp) (os := os) (kd := kd) (fr := fr) (ft := ft) (pt := pt) (nm := nm) (C := C) (S := S) (SA := SA) (F := F) (T := T) (A := A)
  generalize hq : qS z L p = q at q1 q2 q3 sk
  by_cases y : q < L
  · have z32 := q3 y
    have zq := hz q y
    cases ha : (aD (z q) || aL (z q)) with
    | true =>
      obtain ⟨e1, e2, e3⟩ := eS_1 z y ha
      have nA := fun cs tp os kd fr ft pt nm C S SA F T A => nx_a n Tp L q hO h4 hL hn hz htC y ha (tpe := tpe) (B := BC) (cs := cs) (tp := tp) (os := os) (kd := kd) (fr := fr) (ft := ft) (pt := pt) (nm := nm) (C := C) (S := S) (SA := SA) (F := F) (T := T) (A := A)
      have sA := fun tk st ts op ft tv K P OA N X => sc_a n L q h0 hL hn hz htR y z32 ha (B := BR) (X := X) (tk := tk) (st := st) (ts := ts) (op := op) (ft := ft) (tv := tv) (K := K) (P := P) (OA := OA) (N := N)
      obtain ⟨l, hl⟩ : ∃ l : Nat, eS z L q = q + l := ⟨eS z L q - q, by omega⟩
      rw [hl] at e1 e2 e3 nA sA
      cases hd : aD (z q) with
      | true =>
        have hal : aL (z q) = false := by
          have := aD_t hd
          exact decide_eq_false (by omega)
        have hxx : hxO z q l = true → q + 2 < q + l + 1 := fun h => by
          have := of_decide_eq_true h
          omega
        generalize hh : hxO z q l = hx at hxx
        have i0' : (if hx = true then q + 2 else q) ≤ q + l := by
          split
          · rename_i h; have := hxx h; omega
          · omega
        generalize hi : (if hx = true then q + 2 else q) = i0 at i0'
        have cN := fun cs tp os ft pt C S SA F T A => nv_C n Tp hx hO (by omega) (fun i hi => ⟨htC i (by omega), hz i (by omega)⟩) (q + l - i0) i0 0 n (by omega) (by omega) (by omega) (z := z) (tpe := tpe) (B := BC) (cs := cs) (tp := tp) (os := os) (ap := q + l) (kd := 1) (fr := q) (ft := ft) (pt := pt) (C := C) (S := S) (SA := SA) (F := F) (T := T) (A := A)
        have cR := fun ts op ft K P OA N X => nv_R n hx (by omega) (fun i hi => ⟨htR i (by omega), hz i (by omega)⟩) (q + l - i0) i0 0 n (by omega) (by omega) (by omega) (z := z) (B := BR) (X := X) (ap := q + l) (st := q) (ts := ts) (op := op) (ft := ft) (K := K) (P := P) (OA := OA) (N := N)
        cases hR : nvO hx z (q + l - i0) i0 0 with
        | some x =>
          refine ⟨q, q + l, 1, 0, 1, 0, 0, Int64.ofNat x, rfl, q1, by omega, e2, ?_, Or.inr ⟨y, by omega, z32, ?_, Or.inl ⟨rfl, rfl⟩⟩⟩
          · intro cs tp os kd fr ft pt nm C S SA F T A
            obtain ⟨v, w1, w2⟩ := cN cs tp os ft pt C S SA F T A
            have rn := rn_C n Tp q l hO (by omega) (by omega) (fun i hi => ⟨htC i (by omega), hz i (by omega)⟩) (z := z) (tpe := tpe) (B := BC) (cs := cs) (tp := tp) (os := os) (kd := 1) (ft := ft) (pt := pt) (nm := nm) (C := C) (S := S) (SA := SA) (F := F) (T := T) (A := A)
            rw [hh, hi, w1, hR, if_pos (show (some x).isSome = true from rfl)] at rn
            refine ⟨v, ?_, fun h => w2 x hR, fun h => absurd h (by decide)⟩
            rw [sk, nA, hal, if_neg (by decide)]
            unfold df_X2_next_154 df_X2_next_169
            simp (disch := (first | assumption | decide | omega)) only [mC_i0, mC_i1, mC_i2, mC_i5, mC_i6, mC_i7, mC_i8, mC_i9, mC_l, mC_r0, mC_r1, mC_r2, mC_r3, mC_r4, mC_q, mC_o, mC_i4, mC_wi0, mC_wi1, mC_wi2, mC_wi5, mC_wi6, mC_wi7, mC_wi8, mC_wi9, mC_wl, mC_wr0, mC_wr1, mC_wr2, mC_wr3, mC_wr4, mC_wq, rn, eq_self, Nat.reduceEqDiff, Nat.reduceLeDiff, nl_1, no_1, no_1024, pk_mul, nI_add, nm_ck, nI_clamp, nI_ltI, nI_leI, nI_eq, nb_b2, nb_b1, ↓nb_let, nm_z0, nm_z1, nb_II, nb_IR, nb_RI, nb_RR, nm_IL, nm_IQ, nm_RL, nm_RQ, nm_LI, nm_LR, nm_LL, nm_LQ, nm_QI, nm_QR, nm_QL, nm_QQ, nm_rr, nm_ii, nm_eqm, not_false_eq_true, pk_sub, nm_div, nm_shl, nm_shr, nm_ush, nm_or8, nm_or64, nm_or256, nm_m1, nm_m3, nm_m7, nm_m15, nm_m31, nm_m63, nm_m255, nm_m511, nm_m1023, nm_m2047, nm_m65535, Nat.reduceMod, Nat.reducePow, Nat.reduceAdd, Nat.reduceSub, Nat.reduceMul, nm_bo, nm_bi, nm_rc, nm_ic, nm_ri, nm_rl, nm_rq, nm_ql, nm_qi, nm_li, nm_us, nm_uu, nm_cp, nm_sa31, nm_sa7, nm_m127, nm_m2, nm_nz, nm_nzk, nm_eq32, nm_nzf, if_true, if_false, ↓reduceIte, if_pos, if_neg]
          · intro tk st ts op ft tv K P OA N X
            obtain ⟨v, w1, w2⟩ := cR ts op ft K P OA N X
            have rn := rn_R n q l (by omega) (by omega) (fun i hi => ⟨htR i (by omega), hz i (by omega)⟩) (z := z) (B := BR) (X := X) (tk := tk) (ts := ts) (op := op) (ft := ft) (tv := tv) (K := K) (P := P) (OA := OA) (N := N)
            rw [hh, hi, w1, hR, if_pos (show (some x).isSome = true from rfl)] at rn
            refine ⟨v, ?_, fun h => w2 x hR, fun h => absurd h (by decide)⟩
            rw [sA, hd, if_pos rfl]
            exact rn
        | none =>
          refine ⟨q, q + l, 4, 0, 34, 0, 0, 0, rfl, q1, by omega, e2, ?_, Or.inr ⟨y, by omega, z32, ?_, Or.inr (Or.inr (Or.inr ⟨rfl, rfl⟩))⟩⟩
          · intro cs tp os kd fr ft pt nm C S SA F T A
            obtain ⟨v, w1, w2⟩ := cN cs tp os ft pt C S SA F T A
            have rn := rn_C n Tp q l hO (by omega) (by omega) (fun i hi => ⟨htC i (by omega), hz i (by omega)⟩) (z := z) (tpe := tpe) (B := BC) (cs := cs) (tp := tp) (os := os) (kd := 1) (ft := ft) (pt := pt) (nm := nm) (C := C) (S := S) (SA := SA) (F := F) (T := T) (A := A)
            rw [hh, hi, w1, hR, if_neg (by decide)] at rn
            refine ⟨v, ?_, fun h => absurd h (by decide), fun h => absurd h (by decide)⟩
            rw [sk, nA, hal, if_neg (by decide)]
            unfold df_X2_next_154 df_X2_next_169
            simp (disch := (first | assumption | decide | omega)) only [mC_i0, mC_i1, mC_i2, mC_i5, mC_i6, mC_i7, mC_i8, mC_i9, mC_l, mC_r0, mC_r1, mC_r2, mC_r3, mC_r4, mC_q, mC_o, mC_i4, mC_wi0, mC_wi1, mC_wi2, mC_wi5, mC_wi6, mC_wi7, mC_wi8, mC_wi9, mC_wl, mC_wr0, mC_wr1, mC_wr2, mC_wr3, mC_wr4, mC_wq, rn, eq_self, Nat.reduceEqDiff, Nat.reduceLeDiff, nl_1, no_1, no_1024, pk_mul, nI_add, nm_ck, nI_clamp, nI_ltI, nI_leI, nI_eq, nb_b2, nb_b1, ↓nb_let, nm_z0, nm_z1, nb_II, nb_IR, nb_RI, nb_RR, nm_IL, nm_IQ, nm_RL, nm_RQ, nm_LI, nm_LR, nm_LL, nm_LQ, nm_QI, nm_QR, nm_QL, nm_QQ, nm_rr, nm_ii, nm_eqm, not_false_eq_true, pk_sub, nm_div, nm_shl, nm_shr, nm_ush, nm_or8, nm_or64, nm_or256, nm_m1, nm_m3, nm_m7, nm_m15, nm_m31, nm_m63, nm_m255, nm_m511, nm_m1023, nm_m2047, nm_m65535, Nat.reduceMod, Nat.reducePow, Nat.reduceAdd, Nat.reduceSub, Nat.reduceMul, nm_bo, nm_bi, nm_rc, nm_ic, nm_ri, nm_rl, nm_rq, nm_ql, nm_qi, nm_li, nm_us, nm_uu, nm_cp, nm_sa31, nm_sa7, nm_m127, nm_m2, nm_nz, nm_nzk, nm_eq32, nm_nzf, if_true, if_false, ↓reduceIte, if_pos, if_neg]
          · intro tk st ts op ft tv K P OA N X
            obtain ⟨v, w1, w2⟩ := cR ts op ft K P OA N X
            have rn := rn_R n q l (by omega) (by omega) (fun i hi => ⟨htR i (by omega), hz i (by omega)⟩) (z := z) (B := BR) (X := X) (tk := tk) (ts := ts) (op := op) (ft := ft) (tv := tv) (K := K) (P := P) (OA := OA) (N := N)
            rw [hh, hi, w1, hR, if_neg (by decide)] at rn
            refine ⟨v, ?_, fun h => absurd h (by decide), fun h => absurd h (by decide)⟩
            rw [sA, hd, if_pos rfl]
            exact rn
      | false =>
        have hal : aL (z q) = true := by
          rw [hd, Bool.false_or] at ha
          exact ha
        obtain ⟨μ, τ, g, w1, w2, w3⟩ := wd_2 n Tp q l hO (by omega) (by omega) hn (fun i hi => ⟨htC i (by omega), (hz i (by omega)).2⟩) (fun i hi => ⟨htR i (by omega), hz i (by omega)⟩) hza (tpe := tpe) (BC := BC) (BR := BR) (z := z)
        refine ⟨q, q + l, 2, 0, τ, μ, g, 0, rfl, q1, by omega, e2, ?_, Or.inr ⟨y, by omega, z32, ?_, Or.inr (Or.inl ⟨rfl, w1, w2⟩)⟩⟩
        · intro cs tp os kd fr ft pt nm C S SA F T A
          refine ⟨nm, ?_, fun h => by omega, fun h => by omega⟩
          rw [sk, nA, hal, if_pos rfl]
          unfold df_X2_next_154 df_X2_next_169
          simp (disch := (first | assumption | decide | omega)) only [mC_i0, mC_i1, mC_i2, mC_i5, mC_i6, mC_i7, mC_i8, mC_i9, mC_l, mC_r0, mC_r1, mC_r2, mC_r3, mC_r4, mC_q, mC_o, mC_i4, mC_wi0, mC_wi1, mC_wi2, mC_wi5, mC_wi6, mC_wi7, mC_wi8, mC_wi9, mC_wl, mC_wr0, mC_wr1, mC_wr2, mC_wr3, mC_wr4, mC_wq, eq_self, Nat.reduceEqDiff, Nat.reduceLeDiff, nl_1, no_1, no_1024, pk_mul, nI_add, nm_ck, nI_clamp, nI_ltI, nI_leI, nI_eq, nb_b2, nb_b1, ↓nb_let, nm_z0, nm_z1, nb_II, nb_IR, nb_RI, nb_RR, nm_IL, nm_IQ, nm_RL, nm_RQ, nm_LI, nm_LR, nm_LL, nm_LQ, nm_QI, nm_QR, nm_QL, nm_QQ, nm_rr, nm_ii, nm_eqm, not_false_eq_true, pk_sub, nm_div, nm_shl, nm_shr, nm_ush, nm_or8, nm_or64, nm_or256, nm_m1, nm_m3, nm_m7, nm_m15, nm_m31, nm_m63, nm_m255, nm_m511, nm_m1023, nm_m2047, nm_m65535, Nat.reduceMod, Nat.reducePow, Nat.reduceAdd, Nat.reduceSub, Nat.reduceMul, nm_bo, nm_bi, nm_rc, nm_ic, nm_ri, nm_rl, nm_rq, nm_ql, nm_qi, nm_li, nm_us, nm_uu, nm_cp, nm_sa31, nm_sa7, nm_m127, nm_m2, nm_nz, nm_nzk, nm_eq32, nm_nzf, if_true, if_false, ↓reduceIte, if_pos, if_neg]
        · intro tk st ts op ft tv K P OA N X
          obtain ⟨x, x1, x2⟩ := w3 tk ts op ft tv K P OA N X
          refine ⟨x, ?_, fun h => ?_, x2⟩
          · rw [sA, hd, if_neg (by decide)]
            exact x1
          · unfold tkT at w1
            omega
    | false =>
      generalize hdd : (if q + 1 < L then z (q + 1) else 0) = d
      have d127 : d < 128 := by
        rw [← hdd]
        split
        · rename_i y2
          have := hz (q + 1) y2
          omega
        · omega
      have sr := sg_ran ⟨z q, by omega⟩ ⟨d, d127⟩
      have sr : sgC (z q) d ≤ 19 ∨ sgC (z q) d = 21 ∨ sgC (z q) d = 22 ∨ sgC (z q) d = 25 ∨ sgC (z q) d = 28 ∨ sgC (z q) d = 29 := sr
      have wd : q + wid (z q) d ≤ L ∧ q < q + wid (z q) d := by
        unfold wid
        by_cases yp : pr (z q) d = 0
        · rw [if_pos yp]; omega
        · rw [if_neg yp]
          by_cases y2 : q + 1 < L
          · omega
          · rw [if_neg y2] at hdd
            rw [← hdd] at yp
            exact absurd (pr_0 (z q) (by omega)) yp
      refine ⟨q, q + wid (z q) d, if sgC (z q) d = 0 then 4 else 3, sgC (z q) d, tS (sgC (z q) d), 0, 0, 0, rfl, q1, by omega, wd.1, ?_, Or.inr ⟨y, wd.2, z32, ?_, ?_⟩⟩
      · intro cs tp os kd fr ft pt nm C S SA F T A
        refine ⟨(nI (sgC (z q) d)).toInt64, ?_, fun h => ?_, fun _ => rfl⟩
        · rw [sk]
          exact nx_s n Tp L q d hO h4 hL hn hz htC y hdd.symm ha
        · split at h <;> omega
      · intro tk st ts op ft tv K P OA N X
        refine ⟨tv, sc_s n L q d h0 hL hn hz htR y z32 hdd.symm ha, fun h => ?_, fun h => ?_⟩
        · unfold tS at h
          repeat (first | omega | split at h)
        · unfold tS at h
          repeat (first | omega | split at h)
      · by_cases s0 : sgC (z q) d = 0
        · rw [if_pos s0, s0]
          exact Or.inr (Or.inr (Or.inr ⟨rfl, rfl⟩))
        · rw [if_neg s0]
          exact Or.inr (Or.inr (Or.inl ⟨rfl, by omega, sr, rfl⟩))
  · have y : q = L := by omega
    subst y
    refine ⟨q, q, 0, 0, 0, 0, 0, 0, rfl, q1, by omega, by omega, ?_, Or.inl ⟨rfl, rfl, rfl⟩⟩
    intro cs tp os kd fr ft pt nm C S SA F T A
    refine ⟨nm, ?_, fun h => by omega, fun h => by omega⟩
    rw [sk]
    exact nx_0 n Tp q hO h4 hL hn hz htC
