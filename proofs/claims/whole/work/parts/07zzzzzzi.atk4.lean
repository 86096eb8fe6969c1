/-- texts in quotes, in both -/
def qE (c : Nat → Nat) (e : Nat) : Nat → Nat → Nat
  | 0, i => i
  | k + 1, i => match shO c e i 34 with
    | none => i
    | some _ => qE c e k (i + wdO c e i)
theorem shO_w {c : Nat → Nat} {e i qt v : Nat} (hce : c e = 10) (h : shO c e i qt = some v) : i < e ∧ i + wdO c e i ≤ e ∧ 1 ≤ wdO c e i := by
  unfold shO at h
  by_cases y : e ≤ i
  · rw [if_pos y] at h; exact nomatch h
  · rw [if_neg y] at h
    unfold wdO
    by_cases k : c i = 92
    · rw [if_pos k] at h
      rw [if_pos ⟨by omega, k⟩]
      have : ¬ i + 1 = e := fun z => by rw [z, hce] at h; exact nomatch (show (none : Option Nat) = some v from h)
      omega
    · rw [if_neg (fun z => k z.2)]
      omega
theorem shO_v {c : Nat → Nat} {e i qt v : Nat} (hc : ∀ i : Nat, c i < 127) (h : shO c e i qt = some v) : v < 127 := by
  unfold shO at h
  by_cases y : e ≤ i
  · rw [if_pos y] at h; exact nomatch h
  · rw [if_neg y] at h
    by_cases k : c i = 92
    · rw [if_pos k] at h
      unfold esv at h
      have := hc (i + 1)
      by_cases a1 : c (i + 1) = 110
      · rw [if_pos a1] at h; have := Option.some.inj h; omega
      rw [if_neg a1] at h
      by_cases a2 : c (i + 1) = 116
      · rw [if_pos a2] at h; have := Option.some.inj h; omega
      rw [if_neg a2] at h
      by_cases a3 : c (i + 1) = 48
      · rw [if_pos a3] at h; have := Option.some.inj h; omega
      rw [if_neg a3] at h
      by_cases a4 : c (i + 1) = 92 ∨ c (i + 1) = 39 ∨ c (i + 1) = 34
      · rw [if_pos a4] at h; have := Option.some.inj h; omega
      · rw [if_neg a4] at h; exact nomatch h
    · rw [if_neg k] at h
      by_cases f : c i = qt
      · rw [if_pos f] at h; exact nomatch h
      · rw [if_neg f] at h
        have := Option.some.inj h
        have := hc i
        omega
theorem qE_1 {c : Nat → Nat} {e : Nat} (hce : c e = 10) : ∀ k i : Nat, i ≤ e → e - i ≤ k → i ≤ qE c e k i ∧ qE c e k i ≤ e ∧ shO c e (qE c e k i) 34 = none := fun k => by
  induction k with
  | zero =>
    intro i h1 h2
    refine ⟨Nat.le_refl _, h1, ?_⟩
    show shO c e i 34 = none
    unfold shO
    rw [if_pos (by omega)]
  | succ k ih =>
    intro i h1 h2
    show i ≤ (match shO c e i 34 with | none => i | some _ => qE c e k (i + wdO c e i)) ∧ (match shO c e i 34 with | none => i | some _ => qE c e k (i + wdO c e i)) ≤ e ∧ shO c e (match shO c e i 34 with | none => i | some _ => qE c e k (i + wdO c e i)) 34 = none
    cases hs : shO c e i 34 with
    | none => exact ⟨Nat.le_refl _, h1, hs⟩
    | some v =>
      obtain ⟨a, b, d⟩ := shO_w hce hs
      obtain ⟨f, g, h⟩ := ih (i + wdO c e i) b (by omega)
      exact ⟨Nat.le_trans (Nat.le_add_right _ _) f, g, h⟩
theorem ak_T7 {n L e : Nat} {c : Nat → Nat} {BC BR : St} (hT : atx n L e c BC BR) (ap kd fr : Nat) (nm : Int32) : ∀ k i g : Nat, i ≤ e → e - i ≤ k → k < g → df_X9_readText_7 n g (nI i) (uC BC ap kd fr nm) = df_X9_readText_36 n (nI (qE c e k i)) (uC BC ap kd fr nm) := fun k => by
  obtain ⟨hn, hL, heL, h127, hend, hce, hO, h1, htC, h0, htR, hch⟩ := id hT
  induction k with
  | zero =>
    intro i g a b d
    obtain ⟨m, rfl⟩ : ∃ m : Nat, g = m + 1 := ⟨g - 1, by omega⟩
    show dF_X9_readText_7 n (df_X9_readText_7 n m) (nI i) (uC BC ap kd fr nm) = df_X9_readText_36 n (nI i) (uC BC ap kd fr nm)
    unfold dF_X9_readText_7
    rw [uC_i1, h1, if_pos (show nI e ≤ nI i by rw [nI_leI (by omega) (by omega)]; omega)]
  | succ k ih =>
    intro i g a b d
    obtain ⟨m, rfl⟩ : ∃ m : Nat, g = m + 1 := ⟨g - 1, by omega⟩
    have cc := ak_ch hT i 34 ap kd fr nm (by omega) (by omega)
    have cw := ak_wd hT i ap kd fr nm (by omega)
    show dF_X9_readText_7 n (df_X9_readText_7 n m) (nI i) (uC BC ap kd fr nm) = df_X9_readText_36 n (nI (match shO c e i 34 with | none => i | some _ => qE c e k (i + wdO c e i))) (uC BC ap kd fr nm)
    unfold dF_X9_readText_7
    by_cases y : e ≤ i
    · have hs : shO c e i 34 = none := if_pos y
      rw [hs, uC_i1, h1, if_pos (show nI e ≤ nI i by rw [nI_leI (by omega) (by omega)]; omega)]
    · rw [uC_i1, h1, if_neg (show ¬ nI e ≤ nI i from fun z => by rw [nI_leI (by omega) (by omega)] at z; omega), show (34 : Int32) = nI 34 from rfl, cc, nb_b2]
      cases hs : shO c e i 34 with
      | none => rw [if_pos (show oI none < 0 by decide)]
      | some v =>
        have vl := shO_v h127 hs
        obtain ⟨w1, w2, w3⟩ := shO_w hce hs
        rw [if_neg (show ¬ oI (some v) < 0 from fun z => by have z : nI v < nI 0 := z; rw [nI_ltI (by omega) (by omega)] at z; omega), cw, nb_b2, nb_let, nI_add]
        exact ih (i + wdO c e i) m w2 (by omega) (by omega)
theorem ak_T {n L e : Nat} {c : Nat → Nat} {BC BR : St} (hT : atx n L e c BC BR) (q kd : Nat) (nm : Int32) (hq : q < e) : df_X9_readText n (uC BC q kd q nm) = some (uC BC (if qE c e (e - (q + 1)) (q + 1) < e then qE c e (e - (q + 1)) (q + 1) + 1 else e) (if c (qE c e (e - (q + 1)) (q + 1)) = 34 then 4 else 6) q nm) := by
  obtain ⟨hn, hL, heL, h127, hend, hce, hO, h1, htC, h0, htR, hch⟩ := id hT
  obtain ⟨r1, r2, r3⟩ := qE_1 hce (e - (q + 1)) (q + 1) (by omega) (Nat.le_refl _)
  have s := ak_T7 hT q kd q nm (e - (q + 1)) (q + 1) n (by omega) (Nat.le_refl _) (by omega)
  have s : df_X9_readText n (uC BC q kd q nm) = df_X9_readText_36 n (nI (qE c e (e - (q + 1)) (q + 1))) (uC BC q kd q nm) := by
    rw [← s]
    unfold df_X9_readText df_X9_readText_0
    rw [nb_let, uC_i3, show nI q + 1 = nI (q + 1) by rw [show (1 : Int32) = nI 1 from rfl, nI_add]]
  rw [s]
  generalize qE c e (e - (q + 1)) (q + 1) = r at r1 r2 r3
  by_cases y : r < e
  · have t := htC r (by omega)
    have r127 := h127 r
    have ny : ¬ e ≤ r := by omega
    have mn := mn_1 (y := r + 1) (e := e) (by omega) (by omega)
    rw [if_pos y]
    by_cases k : c r = 34
    · rw [if_pos k]
      rw [k] at t
      simp (disch := (first | assumption | decide | omega)) only [df_X9_readText_36, df_X9_readText_60, df_X9_readText_62, uC_i0, uC_i1, uC_i2, uC_i3, uC_i4, uC_r, uC_o, uC_w0, uC_w2, uC_w3, uC_w4, hO, o8, h1, t, mn, eq_self, Nat.reduceEqDiff, Nat.reduceLeDiff, nl_0, nl_1, nl_2, nl_4, nl_6, nl_7, nl_8, nl_34, nl_32768, no_1, no_1024, pk_mul, nI_add, nm_ck, nI_clamp, nI_ltI, nI_leI, nI_eq, nb_b2, nb_b1, ↓nb_let, nm_z0, nm_z1, nb_II, nb_IR, nb_RI, nb_RR, nm_IL, nm_IQ, nm_RL, nm_RQ, nm_LI, nm_LR, nm_LL, nm_LQ, nm_QI, nm_QR, nm_QL, nm_QQ, nm_rr, nm_ii, nm_eqm, not_false_eq_true, pk_sub, nm_div, nm_shl, nm_shr, nm_ush, nm_or8, nm_or64, nm_or256, nm_m1, nm_m3, nm_m7, nm_m15, nm_m31, nm_m63, nm_m255, nm_m511, nm_m1023, nm_m2047, nm_m65535, Nat.reduceMod, Nat.reducePow, Nat.reduceAdd, Nat.reduceSub, Nat.reduceMul, nm_bo, nm_bi, nm_rc, nm_ic, nm_ri, nm_rl, nm_rq, nm_ql, nm_qi, nm_li, nm_us, nm_uu, nm_cp, nm_sa31, nm_sa7, nm_m127, nm_m2, nm_nz, nm_nzk, nm_eq32, nm_nzf, if_true, if_false, ↓reduceIte, if_pos, if_neg]
    · rw [if_neg k]
      simp (disch := (first | assumption | decide | omega)) only [df_X9_readText_36, df_X9_readText_60, df_X9_readText_62, uC_i0, uC_i1, uC_i2, uC_i3, uC_i4, uC_r, uC_o, uC_w0, uC_w2, uC_w3, uC_w4, hO, o8, h1, t, mn, k, eq_self, Nat.reduceEqDiff, Nat.reduceLeDiff, nl_0, nl_1, nl_2, nl_4, nl_6, nl_7, nl_8, nl_34, nl_32768, no_1, no_1024, pk_mul, nI_add, nm_ck, nI_clamp, nI_ltI, nI_leI, nI_eq, nb_b2, nb_b1, ↓nb_let, nm_z0, nm_z1, nb_II, nb_IR, nb_RI, nb_RR, nm_IL, nm_IQ, nm_RL, nm_RQ, nm_LI, nm_LR, nm_LL, nm_LQ, nm_QI, nm_QR, nm_QL, nm_QQ, nm_rr, nm_ii, nm_eqm, not_false_eq_true, pk_sub, nm_div, nm_shl, nm_shr, nm_ush, nm_or8, nm_or64, nm_or256, nm_m1, nm_m3, nm_m7, nm_m15, nm_m31, nm_m63, nm_m255, nm_m511, nm_m1023, nm_m2047, nm_m65535, Nat.reduceMod, Nat.reducePow, Nat.reduceAdd, Nat.reduceSub, Nat.reduceMul, nm_bo, nm_bi, nm_rc, nm_ic, nm_ri, nm_rl, nm_rq, nm_ql, nm_qi, nm_li, nm_us, nm_uu, nm_cp, nm_sa31, nm_sa7, nm_m127, nm_m2, nm_nz, nm_nzk, nm_eq32, nm_nzf, if_true, if_false, ↓reduceIte, if_pos, if_neg]
  · rw [if_neg y]
    have y : r = e := by omega
    have k : ¬ c r = 34 := by rw [y, hce]; omega
    have mn := mn_2 (y := r + 1) (e := e) (by omega) (by omega)
    rw [if_neg k]
    have ny : e ≤ r := by omega
    simp (disch := (first | assumption | decide | omega)) only [df_X9_readText_36, df_X9_readText_60, df_X9_readText_62, uC_i0, uC_i1, uC_i2, uC_i3, uC_i4, uC_r, uC_o, uC_w0, uC_w2, uC_w3, uC_w4, hO, o8, h1, mn, eq_self, Nat.reduceEqDiff, Nat.reduceLeDiff, nl_0, nl_1, nl_2, nl_4, nl_6, nl_7, nl_8, nl_34, nl_32768, no_1, no_1024, pk_mul, nI_add, nm_ck, nI_clamp, nI_ltI, nI_leI, nI_eq, nb_b2, nb_b1, ↓nb_let, nm_z0, nm_z1, nb_II, nb_IR, nb_RI, nb_RR, nm_IL, nm_IQ, nm_RL, nm_RQ, nm_LI, nm_LR, nm_LL, nm_LQ, nm_QI, nm_QR, nm_QL, nm_QQ, nm_rr, nm_ii, nm_eqm, not_false_eq_true, pk_sub, nm_div, nm_shl, nm_shr, nm_ush, nm_or8, nm_or64, nm_or256, nm_m1, nm_m3, nm_m7, nm_m15, nm_m31, nm_m63, nm_m255, nm_m511, nm_m1023, nm_m2047, nm_m65535, Nat.reduceMod, Nat.reducePow, Nat.reduceAdd, Nat.reduceSub, Nat.reduceMul, nm_bo, nm_bi, nm_rc, nm_ic, nm_ri, nm_rl, nm_rq, nm_ql, nm_qi, nm_li, nm_us, nm_uu, nm_cp, nm_sa31, nm_sa7, nm_m127, nm_m2, nm_nz, nm_nzk, nm_eq32, nm_nzf, if_true, if_false, ↓reduceIte, if_pos, if_neg]
theorem ar_T14 {n L e : Nat} {c : Nat → Nat} {BC BR : St} (hT : atx n L e c BC BR) (lo ap fr : Nat) (nm : Int32) (hl : ∀ i : Nat, lo ≤ i → i < e → ¬ c i = 10) : ∀ k i g v to : Nat, lo ≤ i → i ≤ e → e - i ≤ k → k + 1 < g → v < 127 → df_X13_quote_14 n g (nI i) (nI v) (uR BR ap 4 fr to nm) = some (if c (qE c e k i) = 34 then uR BR ap 4 fr (qE c e k i + 1) nm else uR BR ap 5 fr fr nm) := fun k => by
  obtain ⟨hn, hL, heL, h127, hend, hce, hO, h1, htC, h0, htR, hch⟩ := id hT
  have b44 : ∀ (x to : Nat), x < 2 ^ 20 → df_X13_quote_44 n (nI x) (-1) (uR BR ap 4 fr to nm) = some (uR BR ap 5 fr fr nm) := fun x to hx => by
    have bd := bad_13 n BR ap 4 fr (x + 1) nm
    unfold df_X13_quote_44 df_X13_quote_59
    rw [show nI x + 1 = nI (x + 1) by rw [show (1 : Int32) = nI 1 from rfl, nI_add], uR_w10, nb_let, if_neg (show ¬ (0 : Int32) ≤ -1 by decide), bd, nb_b1]
  have mis : ∀ (i g v to : Nat), lo ≤ i → i ≤ e → 1 < g → v < 127 → ¬ c i = 34 → shO c e i 34 = none → df_X13_quote_14 n g (nI i) (nI v) (uR BR ap 4 fr to nm) = some (uR BR ap 5 fr fr nm) := fun i g v to a b d f k34 hs => by
    obtain ⟨m, rfl⟩ : ∃ m : Nat, g = m + 1 + 1 := ⟨g - 2, by omega⟩
    have ca := ca_13 hT i ap 4 fr to nm (by omega)
    have sh := ar_sh hT i 34 ap 4 fr to nm b (Or.inl rfl) (fun z => hl i a z)
    have i127 := h127 i
    have w3 : wdO c e i ≤ 2 := by unfold wdO; split <;> omega
    show dF_X13_quote_14 n (df_X13_quote_14 n (m + 1)) (nI i) (nI v) (uR BR ap 4 fr to nm) = _
    unfold dF_X13_quote_14
    rw [if_neg (show ¬ nI v < 0 from fun z => by have z : nI v < nI 0 := z; rw [nI_ltI (by omega) (by omega)] at z; omega), ca, nb_b2, if_neg (show ¬ nI (c i) = 34 from fun z => k34 (by have z : nI (c i) = nI 34 := z; rw [nI_eq (by omega) (by omega)] at z; exact z)), show (34 : Int32) = nI 34 from rfl, sh, nb_b2, nb_let, uR_i10, hs]
    generalize hw : (if i < e then i + wdO c e i else i + 1) = x
    have hx : x < 2 ^ 20 := by rw [← hw]; split <;> omega
    show dF_X13_quote_14 n (df_X13_quote_14 n m) (nI x) (-1) (uR BR ap 4 fr x nm) = _
    unfold dF_X13_quote_14
    rw [if_pos (show (-1 : Int32) < 0 by decide)]
    exact b44 x x hx
  have hit : ∀ (i g v to : Nat), i ≤ e → 0 < g → v < 127 → c i = 34 → df_X13_quote_14 n g (nI i) (nI v) (uR BR ap 4 fr to nm) = some (uR BR ap 4 fr (i + 1) nm) := fun i g v to b d f k34 => by
    obtain ⟨m, rfl⟩ : ∃ m : Nat, g = m + 1 := ⟨g - 1, by omega⟩
    have ca := ca_13 hT i ap 4 fr to nm (by omega)
    rw [k34] at ca
    have v0 : (0 : Int32) ≤ nI v := by show nI 0 ≤ nI v; rw [nI_leI (by omega) (by omega)]; omega
    show dF_X13_quote_14 n (df_X13_quote_14 n m) (nI i) (nI v) (uR BR ap 4 fr to nm) = _
    unfold dF_X13_quote_14 df_X13_quote_44 df_X13_quote_59
    rw [if_neg (show ¬ nI v < 0 from fun z => by have z : nI v < nI 0 := z; rw [nI_ltI (by omega) (by omega)] at z; omega), ca, nb_b2, if_pos (show nI 34 = (34 : Int32) from rfl), show nI i + 1 = nI (i + 1) by rw [show (1 : Int32) = nI 1 from rfl, nI_add], uR_w10, nb_let, if_pos v0]
  induction k with
  | zero =>
    intro i g v to a b d f h
    have y : i = e := by omega
    have k34 : ¬ c i = 34 := by rw [y, hce]; omega
    show _ = some (if c i = 34 then _ else _)
    rw [if_neg k34]
    exact mis i g v to a b (by omega) h k34 (by unfold shO; rw [if_pos (by omega)])
  | succ k ih =>
    intro i g v to a b d f h
    show _ = some (if c (match shO c e i 34 with | none => i | some _ => qE c e k (i + wdO c e i)) = 34 then uR BR ap 4 fr ((match shO c e i 34 with | none => i | some _ => qE c e k (i + wdO c e i)) + 1) nm else uR BR ap 5 fr fr nm)
    cases hs : shO c e i 34 with
    | none =>
      by_cases k34 : c i = 34
      · rw [if_pos k34]
        exact hit i g v to b (by omega) h k34
      · rw [if_neg k34]
        exact mis i g v to a b (by omega) h k34 hs
    | some x =>
      obtain ⟨m, rfl⟩ : ∃ m : Nat, g = m + 1 := ⟨g - 1, by omega⟩
      obtain ⟨w1, w2, w3⟩ := shO_w hce hs
      have xl := shO_v h127 hs
      have k34 : ¬ c i = 34 := fun z => by
        unfold shO at hs
        rw [if_neg (by omega), if_neg (show ¬ c i = 92 by omega), if_pos z] at hs
        exact nomatch hs
      have i127 := h127 i
      have ca := ca_13 hT i ap 4 fr to nm (by omega)
      have sh := ar_sh hT i 34 ap 4 fr to nm b (Or.inl rfl) (fun z => hl i a z)
      show dF_X13_quote_14 n (df_X13_quote_14 n m) (nI i) (nI v) (uR BR ap 4 fr to nm) = some (if c (qE c e k (i + wdO c e i)) = 34 then uR BR ap 4 fr (qE c e k (i + wdO c e i) + 1) nm else uR BR ap 5 fr fr nm)
      unfold dF_X13_quote_14
      rw [if_neg (show ¬ nI v < 0 from fun z => by have z : nI v < nI 0 := z; rw [nI_ltI (by omega) (by omega)] at z; omega), ca, nb_b2, if_neg (show ¬ nI (c i) = 34 from fun z => k34 (by have z : nI (c i) = nI 34 := z; rw [nI_eq (by omega) (by omega)] at z; exact z)), show (34 : Int32) = nI 34 from rfl, sh, nb_b2, nb_let, uR_i10, hs, if_pos w1]
      exact ih (i + wdO c e i) m x (i + wdO c e i) (by omega) w2 (by omega) (by omega) xl
theorem ar_T {n L e : Nat} {c : Nat → Nat} {BC BR : St} (hT : atx n L e c BC BR) (q tk : Nat) (nm : Int32) (hq : q < e) (hl : ∀ i : Nat, q ≤ i → i < e → ¬ c i = 10) : nd_b1 (df_X13_quote n (uR BR q tk q (q + 1) nm)) (fun s => df_X13_scan_348 n s) = some (if c (qE c e (e - (q + 1)) (q + 1)) = 34 then uR BR (qE c e (e - (q + 1)) (q + 1) + 1) 4 q (qE c e (e - (q + 1)) (q + 1) + 1) nm else uR BR q 5 q q nm) := by
  have hn := hT.1
  have hL := hT.2.1
  have heL := hT.2.2.1
  have s := ar_T14 hT q q q nm hl (e - (q + 1)) (q + 1) n 0 (q + 1) (by omega) (by omega) (Nat.le_refl _) (by omega) (by omega)
  unfold df_X13_quote df_X13_quote_0
  rw [show (4 : Int32) = nI 4 from rfl, uR_w8, nb_let, nb_let, uR_i7, show nI q + 1 = nI (q + 1) by rw [show (1 : Int32) = nI 1 from rfl, nI_add], show (0 : Int32) = nI 0 from rfl, s, nb_b1]
  by_cases y : c (qE c e (e - (q + 1)) (q + 1)) = 34
  · rw [if_pos y, if_pos y]
    simp (disch := (first | assumption | decide | omega)) only [df_X13_scan_348, uR_i0, uR_i7, uR_i8, uR_i9, uR_i10, uR_i11, uR_r, uR_w7, uR_w8, uR_w9, uR_w10, uR_w11, eq_self, Nat.reduceEqDiff, Nat.reduceLeDiff, nl_7, nl_10, no_1, no_1024, pk_mul, nI_add, nm_ck, nI_clamp, nI_ltI, nI_leI, nI_eq, nb_b2, nb_b1, ↓nb_let, nm_z0, nm_z1, nb_II, nb_IR, nb_RI, nb_RR, nm_IL, nm_IQ, nm_RL, nm_RQ, nm_LI, nm_LR, nm_LL, nm_LQ, nm_QI, nm_QR, nm_QL, nm_QQ, nm_rr, nm_ii, nm_eqm, not_false_eq_true, pk_sub, nm_div, nm_shl, nm_shr, nm_ush, nm_or8, nm_or64, nm_or256, nm_m1, nm_m3, nm_m7, nm_m15, nm_m31, nm_m63, nm_m255, nm_m511, nm_m1023, nm_m2047, nm_m65535, Nat.reduceMod, Nat.reducePow, Nat.reduceAdd, Nat.reduceSub, Nat.reduceMul, nm_bo, nm_bi, nm_rc, nm_ic, nm_ri, nm_rl, nm_rq, nm_ql, nm_qi, nm_li, nm_us, nm_uu, nm_cp, nm_sa31, nm_sa7, nm_m127, nm_m2, nm_nz, nm_nzk, nm_eq32, nm_nzf, if_true, if_false, ↓reduceIte, if_pos, if_neg]
  · rw [if_neg y, if_neg y]
    simp (disch := (first | assumption | decide | omega)) only [df_X13_scan_348, uR_i0, uR_i7, uR_i8, uR_i9, uR_i10, uR_i11, uR_r, uR_w7, uR_w8, uR_w9, uR_w10, uR_w11, eq_self, Nat.reduceEqDiff, Nat.reduceLeDiff, nl_7, nl_10, no_1, no_1024, pk_mul, nI_add, nm_ck, nI_clamp, nI_ltI, nI_leI, nI_eq, nb_b2, nb_b1, ↓nb_let, nm_z0, nm_z1, nb_II, nb_IR, nb_RI, nb_RR, nm_IL, nm_IQ, nm_RL, nm_RQ, nm_LI, nm_LR, nm_LL, nm_LQ, nm_QI, nm_QR, nm_QL, nm_QQ, nm_rr, nm_ii, nm_eqm, not_false_eq_true, pk_sub, nm_div, nm_shl, nm_shr, nm_ush, nm_or8, nm_or64, nm_or256, nm_m1, nm_m3, nm_m7, nm_m15, nm_m31, nm_m63, nm_m255, nm_m511, nm_m1023, nm_m2047, nm_m65535, Nat.reduceMod, Nat.reducePow, Nat.reduceAdd, Nat.reduceSub, Nat.reduceMul, nm_bo, nm_bi, nm_rc, nm_ic, nm_ri, nm_rl, nm_rq, nm_ql, nm_qi, nm_li, nm_us, nm_uu, nm_cp, nm_sa31, nm_sa7, nm_m127, nm_m2, nm_nz, nm_nzk, nm_eq32, nm_nzf, if_true, if_false, ↓reduceIte, if_pos, if_neg]
/-- a letter in quotes -/
def chG (c : Nat → Nat) (e q : Nat) : Prop := (∃ v : Nat, shO c e (q + 1) 39 = some v) ∧ c (q + 1 + wdO c e (q + 1)) = 39 ∧ aP (c (q + 1 + wdO c e (q + 1) + 1)) = false
theorem wd_le (c : Nat → Nat) (e i : Nat) : wdO c e i ≤ 2 ∧ 1 ≤ wdO c e i := by unfold wdO; split <;> omega
theorem ak_Q {n L e : Nat} {c : Nat → Nat} {BC BR : St} (hT : atx n L e c BC BR) (q kd : Nat) (nm : Int32) (hq : q < e) (v : Option Nat) (hv : shO c e (q + 1) 39 = v) (g : Bool) (hg : g = true ↔ chG c e q) : df_X9_readCharacter n (uC BC q kd q nm) = some (uC BC (if q + 1 + wdO c e (q + 1) < e then q + 1 + wdO c e (q + 1) + 1 else e) (if g = true then 2 else 6) q (oI v)) := by
  obtain ⟨hn, hL, heL, h127, hend, hce, hO, h1, htC, h0, htR, hch⟩ := id hT
  have cc := ak_ch hT (q + 1) 39 q kd q nm (by omega) (by omega)
  have cw := ak_wd hT (q + 1) q kd q nm (by omega)
  obtain ⟨wl, wg⟩ := wd_le c e (q + 1)
  rw [hv] at cc
  have hsw : ∀ x : Nat, v = some x → q + 1 + wdO c e (q + 1) ≤ e := fun x hx => (shO_w hce (hv.trans hx)).2.1
  have hsv : ∀ x : Nat, v = some x → x < 127 := fun x hx => shO_v h127 (hv.trans hx)
  obtain ⟨b, hb⟩ : ∃ b : Nat, b = q + 1 + wdO c e (q + 1) := ⟨_, rfl⟩
  unfold chG at hg
  rw [hv] at hg
  rw [← hb] at hg hsw ⊢
  have e0 : df_X9_readCharacter n (uC BC q kd q nm) = if e ≤ b then df_X9_readCharacter_54 n (oI v) (nI b) (uC BC q kd q nm) else if c b = 39 then df_X9_readCharacter_55 n (oI v) (nI b) (nI 1) (uC BC q kd q nm) else df_X9_readCharacter_54 n (oI v) (nI b) (uC BC q kd q nm) := by
    unfold df_X9_readCharacter df_X9_readCharacter_0
    rw [uC_i3, show nI q + 1 = nI (q + 1) by rw [show (1 : Int32) = nI 1 from rfl, nI_add], show (39 : Int32) = nI 39 from rfl, cc, nb_b2, uC_i3, show nI q + 1 = nI (q + 1) by rw [show (1 : Int32) = nI 1 from rfl, nI_add], cw, nb_b2, nb_let, nI_add, ← hb, uC_i1, h1]
    by_cases y : e ≤ b
    · rw [if_pos y, if_pos (show nI e ≤ nI b by rw [nI_leI (by omega) (by omega)]; exact y)]
    · have t := htC b (by omega)
      have b127 := h127 b
      rw [if_neg y, if_neg (show ¬ nI e ≤ nI b from fun z => y (by rw [nI_leI (by omega) (by omega)] at z; exact z)), uC_o, hO, o8, nm_ck (by omega) (by omega), uC_r, nI_clamp (by omega), t]
      by_cases k : c b = 39
      · rw [if_pos k, if_pos (show nI (c b) = nI 39 by rw [k])]
        rfl
      · rw [if_neg k, if_neg (show ¬ nI (c b) = nI 39 from fun z => k (by rw [nI_eq (by omega) (by omega)] at z; exact z))]
  have f107 : ∀ k : Nat, df_X9_readCharacter_107 n (oI v) (nI b) (nI k) (uC BC q kd q nm) = some (uC BC (if b < e then b + 1 else e) k q (oI v)) := fun k => by
    have w : nI b + 1 = nI (b + 1) := by rw [show (1 : Int32) = nI 1 from rfl, nI_add]
    by_cases y : b < e
    · rw [if_pos y]
      unfold df_X9_readCharacter_107
      rw [uC_w2, nb_let, uC_w4, nb_let, uC_i1, h1, w, mn_1 (by omega) (by omega), uC_w0, nb_let]
    · rw [if_neg y]
      unfold df_X9_readCharacter_107
      rw [uC_w2, nb_let, uC_w4, nb_let, uC_i1, h1, w, show (if nI e < nI (b + 1) then nI e else nI (b + 1)) = nI e from if_pos (by rw [nI_ltI (by omega) (by omega)]; omega), uC_w0, nb_let]
  obtain ⟨pp, hpp⟩ : ∃ pp : Nat, pp = (if b < e then b + 1 else e) := ⟨_, rfl⟩
  rw [← hpp] at f107 ⊢
  have p2f := f107 2
  have p6f := f107 6
  have f105 : df_X9_readCharacter_105 n (oI v) (nI b) (uC BC q kd q nm) = some (uC BC pp 6 q (oI v)) := p6f
  have f85 : ∀ (x3 y0 : Nat), x3 < 2 → y0 < 2 → df_X9_readCharacter_85 n (oI v) (nI b) (nI x3) (nI y0) (uC BC q kd q nm) = if v.isSome = true ∧ x3 = 1 ∧ y0 = 1 then some (uC BC pp 2 q (oI v)) else some (uC BC pp 6 q (oI v)) := fun x3 y0 a1 a2 => by
    unfold df_X9_readCharacter_85
    cases v with
    | none => rw [if_pos (show oI none < 0 by decide), if_neg (fun z => absurd z.1 (by decide)), f105]
    | some x =>
      have xl := hsv x rfl
      rw [if_neg (show ¬ oI (some x) < 0 from fun z => by have z : nI x < nI 0 := z; rw [nI_ltI (by omega) (by omega)] at z; omega)]
      by_cases c3 : x3 = 1
      · subst c3
        rw [if_neg (show ¬ nI 1 = (0 : Int32) by decide)]
        by_cases c0 : y0 = 1
        · subst c0
          rw [if_neg (show ¬ nI 1 = (0 : Int32) by decide), if_pos (show (some x).isSome = true ∧ 1 = 1 ∧ 1 = 1 from ⟨rfl, rfl, rfl⟩)]
          exact p2f
        · rw [show y0 = 0 by omega, if_pos (show nI 0 = (0 : Int32) from rfl), if_neg (fun z => by omega), f105]
      · rw [show x3 = 0 by omega, if_pos (show nI 0 = (0 : Int32) from rfl), if_neg (fun z => by omega), f105]
  have f55 : ∀ y0 : Nat, y0 < 2 → df_X9_readCharacter_55 n (oI v) (nI b) (nI y0) (uC BC q kd q nm) = df_X9_readCharacter_85 n (oI v) (nI b) (nI y0) (nI (if e ≤ b + 1 ∨ aP (c (b + 1)) = false then 1 else 0)) (uC BC q kd q nm) := fun y0 a => by
    have w : nI b + 1 = nI (b + 1) := by rw [show (1 : Int32) = nI 1 from rfl, nI_add]
    unfold df_X9_readCharacter_55 df_X9_readCharacter_80
    rw [w, uC_i1, h1]
    by_cases y : e ≤ b + 1
    · rw [if_pos (show nI e ≤ nI (b + 1) by rw [nI_leI (by omega) (by omega)]; exact y), if_pos (Or.inl y)]
      rfl
    · have t := htC (b + 1) (by omega)
      have ik := in_9 n (c := c (b + 1)) (by have := h127 (b + 1); omega)
      rw [if_neg (show ¬ nI e ≤ nI (b + 1) from fun z => y (by rw [nI_leI (by omega) (by omega)] at z; exact z)), uC_o, hO, o8, nm_ck (by omega) (by omega), uC_r, nI_clamp (by omega), t, ik, nb_b2]
      cases hp : aP (c (b + 1)) with
      | true =>
        rw [if_neg (show ¬ bI true = (0 : Int32) by decide), if_neg (fun z => z.elim y (fun z => absurd z (by decide)))]
        rfl
      | false =>
        rw [if_pos (show bI false = (0 : Int32) from rfl), if_pos (Or.inr rfl)]
        rfl
  have f54 : df_X9_readCharacter_54 n (oI v) (nI b) (uC BC q kd q nm) = some (uC BC pp 6 q (oI v)) := by
    show df_X9_readCharacter_55 n (oI v) (nI b) (nI 0) (uC BC q kd q nm) = _
    rw [f55 0 (by omega), f85 0 _ (by omega) (by split <;> omega), if_neg (fun z => by omega)]
  cases hgg : g with
  | true =>
    obtain ⟨⟨x, g1⟩, g2, g3⟩ := hg.mp hgg
    have be := hsw x g1
    have bne : ¬ b = e := fun z => by rw [z, hce] at g2; omega
    rw [e0, if_neg (by omega), if_pos g2, f55 1 (by omega), f85 1 _ (by omega) (by split <;> omega), if_pos (show e ≤ b + 1 ∨ aP (c (b + 1)) = false from Or.inr g3), if_pos (show v.isSome = true ∧ 1 = 1 ∧ 1 = 1 from ⟨by rw [g1]; rfl, rfl, rfl⟩), if_pos rfl]
  | false =>
    have ng : ¬ ((∃ x : Nat, v = some x) ∧ c b = 39 ∧ aP (c (b + 1)) = false) := fun z => by
      rw [hg.mpr z] at hgg
      exact absurd hgg (by decide)
    rw [if_neg (by decide), e0]
    by_cases y : e ≤ b
    · rw [if_pos y, f54]
    · rw [if_neg y]
      by_cases k : c b = 39
      · rw [if_pos k, f55 1 (by omega), f85 1 _ (by omega) (by split <;> omega), if_neg (fun z => ?_)]
        obtain ⟨z1, _, z3⟩ := z
        have z3 : e ≤ b + 1 ∨ aP (c (b + 1)) = false := Classical.byContradiction fun w => by
          rw [if_neg w] at z3
          omega
        refine ng ⟨Option.isSome_iff_exists.mp z1, k, ?_⟩
        rcases z3 with z3 | z3
        · rw [show b + 1 = e by omega, hce]; exact aP10
        · exact z3
      · rw [if_neg k, f54]
theorem ar_Q {n L e : Nat} {c : Nat → Nat} {BC BR : St} (hT : atx n L e c BC BR) (q tk : Nat) (nm : Int32) (hq : q < e) (hl : ∀ i : Nat, q ≤ i → i < e → ¬ c i = 10) (v : Option Nat) (hv : shO c e (q + 1) 39 = v) (g : Bool) (hg : g = true ↔ chG c e q) : ∃ x' : Int32, nd_b1 (df_X13_character n (uR BR q tk q (q + 1) nm)) (fun s => df_X13_scan_348 n s) = some (if g = true then uR BR (q + 1 + wdO c e (q + 1) + 1) 2 q (q + 1 + wdO c e (q + 1) + 1) (oI v) else uR BR q 5 q q x') := by
  obtain ⟨hn, hL, heL, h127, hend, hce, hO, h1, htC, h0, htR, hch⟩ := id hT
  have sh := ar_sh hT (q + 1) 39 q tk q (q + 1) nm (by omega) (Or.inr rfl) (fun z => hl (q + 1) (by omega) z)
  rw [hv] at sh
  obtain ⟨wl, wg⟩ := wd_le c e (q + 1)
  have hsw : ∀ x : Nat, v = some x → q + 1 < e ∧ q + 1 + wdO c e (q + 1) ≤ e := fun x hx => ⟨(shO_w hce (hv.trans hx)).1, (shO_w hce (hv.trans hx)).2.1⟩
  have hsv : ∀ x : Nat, v = some x → x < 127 := fun x hx => shO_v h127 (hv.trans hx)
  obtain ⟨t, ht⟩ : ∃ t : Nat, t = (if q + 1 < e then q + 1 + wdO c e (q + 1) else q + 1 + 1) := ⟨_, rfl⟩
  have tl : t < 2 ^ 20 := by rw [ht]; split <;> omega
  rw [← ht] at sh
  have e348 : ∀ (tk to : Nat) (x : Int32), df_X13_scan_348 n (uR BR q tk q to x) = some (uR BR to tk q to x) := fun tk to x => by
    simp (disch := (first | assumption | decide | omega)) only [df_X13_scan_348, uR_i0, uR_i7, uR_i8, uR_i9, uR_i10, uR_i11, uR_r, uR_w7, uR_w8, uR_w9, uR_w10, uR_w11, eq_self, Nat.reduceEqDiff, Nat.reduceLeDiff, nl_7, nl_10, no_1, no_1024, pk_mul, nI_add, nm_ck, nI_clamp, nI_ltI, nI_leI, nI_eq, nb_b2, nb_b1, ↓nb_let, nm_z0, nm_z1, nb_II, nb_IR, nb_RI, nb_RR, nm_IL, nm_IQ, nm_RL, nm_RQ, nm_LI, nm_LR, nm_LL, nm_LQ, nm_QI, nm_QR, nm_QL, nm_QQ, nm_rr, nm_ii, nm_eqm, not_false_eq_true, pk_sub, nm_div, nm_shl, nm_shr, nm_ush, nm_or8, nm_or64, nm_or256, nm_m1, nm_m3, nm_m7, nm_m15, nm_m31, nm_m63, nm_m255, nm_m511, nm_m1023, nm_m2047, nm_m65535, Nat.reduceMod, Nat.reducePow, Nat.reduceAdd, Nat.reduceSub, Nat.reduceMul, nm_bo, nm_bi, nm_rc, nm_ic, nm_ri, nm_rl, nm_rq, nm_ql, nm_qi, nm_li, nm_us, nm_uu, nm_cp, nm_sa31, nm_sa7, nm_m127, nm_m2, nm_nz, nm_nzk, nm_eq32, nm_nzf, if_true, if_false, ↓reduceIte, if_pos, if_neg]
  have b45 : ∀ (x : Int32), df_X13_character_45 n (uR BR q 2 q t x) = some (uR BR q 5 q q x) := fun x => by
    have bd := bad_13 n BR q 2 q (t + 1) x
    unfold df_X13_character_45 df_X13_character_46 df_X13_character_75 df_X13_character_79
    rw [uR_i10, show nI t + 1 = nI (t + 1) by rw [show (1 : Int32) = nI 1 from rfl, nI_add], uR_w10, nb_let, if_pos rfl, bd, nb_b1]
  have e1 : df_X13_character n (uR BR q tk q (q + 1) nm) = if oI v < 0 then df_X13_character_45 n (uR BR q 2 q t (oI v)) else if c t = 39 then df_X13_character_46 n 1 (uR BR q 2 q t (oI v)) else df_X13_character_45 n (uR BR q 2 q t (oI v)) := by
    have ca := ca_13 hT t q 2 q t (oI v) (by omega)
    have t127 := h127 t
    unfold df_X13_character df_X13_character_0
    rw [uR_i7, show nI q + 1 = nI (q + 1) by rw [show (1 : Int32) = nI 1 from rfl, nI_add], show (39 : Int32) = nI 39 from rfl, sh, nb_b2, uR_w11, nb_let, show (2 : Int32) = nI 2 from rfl, uR_w8, nb_let, uR_i11, uR_i10, ca]
    by_cases y : oI v < 0
    · rw [if_pos y, if_pos y]
    · rw [if_neg y, if_neg y, nb_b2]
      by_cases k : c t = 39
      · rw [if_pos k, if_pos (show nI (c t) = nI 39 by rw [k])]
      · rw [if_neg k, if_neg (show ¬ nI (c t) = nI 39 from fun z => k (by rw [nI_eq (by omega) (by omega)] at z; exact z))]
  have e46 : ∀ x : Int32, df_X13_character_46 n 1 (uR BR q 2 q t x) = some (if aP (c (t + 1)) = false then uR BR q 2 q (t + 1) x else uR BR q 5 q q x) := fun x => by
    have bd := bad_13 n BR q 2 q (t + 1) x
    have ca := ca_13 hT (t + 1) q 2 q (t + 1) x (by omega)
    have ik := ip_13 n (c := c (t + 1)) (by have := h127 (t + 1); omega)
    unfold df_X13_character_46 df_X13_character_75 df_X13_character_79
    rw [uR_i10, show nI t + 1 = nI (t + 1) by rw [show (1 : Int32) = nI 1 from rfl, nI_add], uR_w10, nb_let, if_neg (by decide), uR_i10, ca, nb_b2, ik, nb_b2]
    cases hp : aP (c (t + 1)) with
    | true => rw [if_neg (show ¬ bI true = (0 : Int32) by decide), if_neg (by decide), bd, nb_b1]
    | false => rw [if_pos (show bI false = (0 : Int32) from rfl), if_pos rfl]
  refine ⟨oI v, ?_⟩
  rw [e1]
  unfold chG at hg
  rw [hv] at hg
  cases v with
  | none =>
    have gf : ¬ g = true := fun z => by obtain ⟨⟨x, w⟩, _⟩ := hg.mp z; exact nomatch w
    rw [if_pos (show oI none < 0 by decide), b45, nb_b1, e348, if_neg gf]
  | some x =>
    have xl := hsv x rfl
    obtain ⟨a1, a2⟩ := hsw x rfl
    rw [if_pos a1] at ht
    rw [if_neg (show ¬ oI (some x) < 0 from fun z => by have z : nI x < nI 0 := z; rw [nI_ltI (by omega) (by omega)] at z; omega)]
    rw [← ht] at hg ⊢
    by_cases k : c t = 39
    · rw [if_pos k, e46, nb_b1]
      by_cases k2 : aP (c (t + 1)) = false
      · rw [if_pos k2, e348, if_pos (hg.mpr ⟨⟨x, rfl⟩, k, k2⟩)]
      · rw [if_neg k2, e348, if_neg (fun z => k2 (hg.mp z).2.2)]
    · rw [if_neg k, b45, nb_b1, e348, if_neg (fun z => k (hg.mp z).2.1)]
/-- a token, in both -/
def tkJ (n p q p' κ τ v : Nat) (BC BR : St) : Prop := (∀ (kd fr : Nat) (nm : Int32), ∃ x : Int32, df_X9_next n (uC BC p kd fr nm) = some (uC BC p' κ q x) ∧ (κ = 2 ∨ κ = 3 ∨ κ = 5 → x = nI v)) ∧ ∀ (tk fr to : Nat) (nm : Int32), ∃ (x : Int32) (p2 : Nat), df_X13_scan n (uR BR p tk fr to nm) = some (uR BR p2 τ q p2 x) ∧ (p2 = p' ∨ (τ = 5 ∧ p2 = q)) ∧ (τ = 2 ∨ τ = 3 → x = nI v)
def tkK (c : Nat → Nat) (e q p' κ τ v : Nat) : Prop := (κ = 0 ∧ τ = 0 ∧ p' = q ∧ (q = e ∨ c q = 35)) ∨ (κ = 1 ∧ τ = 1 ∧ q < e ∧ aP (c q) = true ∧ aD (c q) = false ∧ p' = eT c e q ∧ p' - q ≤ 31) ∨ (κ = 2 ∧ τ = 2 ∧ q < p' ∧ v < 2 ^ 32 ∧ (p' = q + 1 → aD (c q) = true ∧ v = c q - 48)) ∨ (κ = 3 ∧ τ = 3 ∧ p' = q + 2 ∧ aD (c q) = true ∧ v = c q - 48 ∧ (c (q + 1) = 102 ∨ c (q + 1) = 98)) ∨ (κ = 4 ∧ τ = 4 ∧ c q = 34 ∧ p' = qE c e (e - (q + 1)) (q + 1) + 1 ∧ c (qE c e (e - (q + 1)) (q + 1)) = 34) ∨ (κ = 5 ∧ q < p' ∧ ((v = 256 ∧ τ = 6) ∨ (v = 257 ∧ τ = 7) ∨ (sgA v = true ∧ τ = v ∧ v = c q ∧ p' = q + 1))) ∨ (κ = 6 ∧ τ = 5)
theorem tok_all {n L e : Nat} {c : Nat → Nat} {BC BR : St} (hT : atx n L e c BC BR) (p : Nat) (hp : p ≤ e) (hl : ∀ i : Nat, p ≤ i → i < e → ¬ c i = 10) : ∃ q p' κ τ v : Nat, p ≤ q ∧ q = qT c e p ∧ q ≤ p' ∧ p' ≤ e ∧ (¬ κ = 0 → q < e ∧ q < p') ∧ tkJ n p q p' κ τ v BC BR ∧ tkK c e q p' κ τ v := by
  obtain ⟨hn, hL, heL, h127, hend, hce, hO, h1, htC, h0, htR, hch⟩ := id hT
  obtain ⟨q1, q2, q3, q4⟩ := qT_1 c hp
  have cl : ∀ (S : St) (kd fr : Nat) (nm : Int32), df_X9_next_52 n (uC BC (qT c e p) kd fr nm) = some S → df_X9_next n (uC BC p kd fr nm) = some S := fun S kd fr nm h => (ak_sk hT p kd fr nm hp).trans h
  have rf : ∀ (S : St) (tk fr to : Nat) (nm : Int32), (∀ G : St → Option St, dF_X13_scan_0 n G (uR BR (qT c e p) tk fr to nm) = some S) → df_X13_scan n (uR BR p tk fr to nm) = some S := fun S tk fr to nm h => by
    obtain ⟨m, em⟩ := as_sk hT p tk fr to nm hp
    exact em.trans (h _)
  obtain ⟨q, hq⟩ : ∃ q : Nat, q = qT c e p := ⟨_, rfl⟩
  rw [← hq] at q1 q2 q3 cl rf
  by_cases hE : q = e ∨ c q = 35
  · refine ⟨q, q, 0, 0, 0, q1, hq, Nat.le_refl _, q2, fun z => absurd rfl z, ⟨fun kd fr nm => ⟨nm, cl _ kd fr nm (ak_E hT q kd fr nm q2 hE), fun z => by omega⟩, fun tk fr to nm => ⟨nm, q, rf _ tk fr to nm (fun G => as_E hT q tk fr to nm q2 (hE.elim (fun z => Or.inl (by rw [z]; exact hce)) Or.inr)), Or.inl rfl, fun z => by omega⟩⟩, Or.inl ⟨rfl, rfl, rfl, hE⟩⟩
  have hqe : q < e := by omega
  have h35 : ¬ c q = 35 := fun z => hE (Or.inr z)
  have hb := q3 hqe
  have h10 := hl q q1 hqe
  have q127 := h127 q
  obtain ⟨y1, y2, y3, y4⟩ := eT_1 c (Nat.le_of_lt hqe)
  cases hP : aP (c q) with
  | true =>
    have y0 := eT_p c hqe hP
    cases hD : aD (c q) with
    | true =>
      -- numbers
      have d9 := aD_v.mp hD
      cases hv : nuT c q (eT c e q) with
      | none =>
        refine ⟨q, eT c e q, 6, 5, 0, q1, hq, y1, y2, fun _ => ⟨hqe, y0⟩, ⟨fun kd fr nm => ⟨nm, cl _ kd fr nm ((ak_D hT q kd fr nm hqe hD).trans (by rw [hv]; rfl)), fun z => by omega⟩, fun tk fr to nm => ?_⟩, Or.inr (Or.inr (Or.inr (Or.inr (Or.inr (Or.inr ⟨rfl, rfl⟩)))))⟩
        obtain ⟨m, em⟩ := as_sk hT p tk fr to nm hp
        rw [← hq] at em
        obtain ⟨x', ex⟩ := as_D hT q tk fr to nm hqe hD (G := df_X13_scan_0 n m)
        rw [hv] at ex
        exact ⟨x', q, em.trans ex, Or.inr ⟨rfl, rfl⟩, fun z => by omega⟩
      | some w =>
        have rr : ∀ (tk fr to : Nat) (nm : Int32), df_X13_scan n (uR BR p tk fr to nm) = some (uR BR (eT c e q) w.1 q (eT c e q) (nI w.2)) := fun tk fr to nm => by
          obtain ⟨m, em⟩ := as_sk hT p tk fr to nm hp
          rw [← hq] at em
          obtain ⟨x', ex⟩ := as_D hT q tk fr to nm hqe hD (G := df_X13_scan_0 n m)
          rw [hv] at ex
          exact em.trans ex
        refine ⟨q, eT c e q, w.1, w.1, w.2, q1, hq, y1, y2, fun _ => ⟨hqe, y0⟩, ⟨fun kd fr nm => ⟨nI w.2, cl _ kd fr nm ((ak_D hT q kd fr nm hqe hD).trans (by rw [hv]; rfl)), fun _ => rfl⟩, fun tk fr to nm => ⟨nI w.2, eT c e q, rr tk fr to nm, Or.inl rfl, fun _ => rfl⟩⟩, ?_⟩
        unfold nuT at hv
        by_cases nr : eT c e q - q = 2 ∧ (c (q + 1) = 102 ∨ c (q + 1) = 98)
        · rw [if_pos nr] at hv
          have hv := Option.some.inj hv
          rw [← hv]
          exact Or.inr (Or.inr (Or.inr (Or.inl ⟨rfl, rfl, by omega, hD, rfl, nr.2⟩)))
        · rw [if_neg nr] at hv
          obtain ⟨x, hx, hx2⟩ := Option.map_eq_some_iff.mp hv
          rw [← hx2]
          refine Or.inr (Or.inr (Or.inl ⟨rfl, rfl, y0, ?_, fun z => ⟨hD, ?_⟩⟩))
          · show x < 2 ^ 32
            revert hx
            split
            · exact fun hx => nuO_l _ _ _ _ _ _ (by omega) hx
            · split
              · exact fun hx => nuO_l _ _ _ _ _ _ (by omega) hx
              · exact fun hx => nuO_l _ _ _ _ _ _ (by omega) hx
          · show x = c q - 48
            rw [if_neg (by omega), if_neg (by omega), show eT c e q - q = 1 by omega] at hx
            have hx : (if dgv (c q) < 10 ∧ 0 * 10 + dgv (c q) < 2 ^ 32 then some (0 * 10 + dgv (c q)) else none) = some x := hx
            rw [dgv_d d9.1 d9.2, if_pos (by omega)] at hx
            have := Option.some.inj hx
            omega
    | false =>
      -- names
      by_cases l : 31 < eT c e q - q
      · refine ⟨q, eT c e q, 6, 5, 0, q1, hq, y1, y2, fun _ => ⟨hqe, y0⟩, ⟨fun kd fr nm => ⟨nm, cl _ kd fr nm ((ak_N hT q kd fr nm hqe hP hD).trans (by rw [if_pos l])), fun z => by omega⟩, fun tk fr to nm => ⟨nm, q, rf _ tk fr to nm (fun G => (as_N hT q tk fr to nm hqe hP hD).trans (by rw [if_pos l])), Or.inr ⟨rfl, rfl⟩, fun z => by omega⟩⟩, Or.inr (Or.inr (Or.inr (Or.inr (Or.inr (Or.inr ⟨rfl, rfl⟩)))))⟩
      · exact ⟨q, eT c e q, 1, 1, 0, q1, hq, y1, y2, fun _ => ⟨hqe, y0⟩, ⟨fun kd fr nm => ⟨nm, cl _ kd fr nm ((ak_N hT q kd fr nm hqe hP hD).trans (by rw [if_neg l])), fun z => by omega⟩, fun tk fr to nm => ⟨nm, eT c e q, rf _ tk fr to nm (fun G => (as_N hT q tk fr to nm hqe hP hD).trans (by rw [if_neg l])), Or.inl rfl, fun z => by omega⟩⟩, Or.inr (Or.inl ⟨rfl, rfl, hqe, hP, hD, rfl, by omega⟩)⟩
  | false =>
    have cs := fun kd fr nm => ak_S0 hT q kd fr nm hqe hP h35
    have rs := fun (G : St → Option St) tk fr to nm => as_S0 hT (G := G) q tk fr to nm hqe hP hb h35 h10
    have bad : ∀ p' : Nat, q < p' → p' ≤ e → (∀ (kd : Nat) (nm : Int32), ∃ x : Int32, ∀ fr : Nat, df_X9_next_52 n (uC BC q kd fr nm) = some (uC BC p' 6 q x)) → (∀ (tk fr to : Nat) (nm : Int32), ∃ x : Int32, ∀ G : St → Option St, dF_X13_scan_0 n G (uR BR q tk fr to nm) = some (uR BR q 5 q q x)) → ∃ q p' κ τ v : Nat, p ≤ q ∧ q = qT c e p ∧ q ≤ p' ∧ p' ≤ e ∧ (¬ κ = 0 → q < e ∧ q < p') ∧ tkJ n p q p' κ τ v BC BR ∧ tkK c e q p' κ τ v := fun p' a1 a2 a3 a4 => ⟨q, p', 6, 5, 0, q1, hq, by omega, a2, fun _ => ⟨hqe, a1⟩, ⟨fun kd fr nm => by
      obtain ⟨x, hx⟩ := a3 kd nm
      exact ⟨x, cl _ kd fr nm (hx fr), fun z => by omega⟩, fun tk fr to nm => by
      obtain ⟨x, hx⟩ := a4 tk fr to nm
      exact ⟨x, q, rf _ tk fr to nm hx, Or.inr ⟨rfl, rfl⟩, fun z => by omega⟩⟩, Or.inr (Or.inr (Or.inr (Or.inr (Or.inr (Or.inr ⟨rfl, rfl⟩)))))⟩
    by_cases k34 : c q = 34
    · have rt := fun tk nm => ar_T hT q tk nm hqe (fun i a b => hl i (by omega) b)
      have ct := fun kd nm => ak_T hT q kd nm hqe
      have rr := (qE_1 hce (e - (q + 1)) (q + 1) (by omega) (Nat.le_refl _))
      by_cases t34 : c (qE c e (e - (q + 1)) (q + 1)) = 34
      · have rne : ¬ qE c e (e - (q + 1)) (q + 1) = e := fun z => by rw [z, hce] at t34; omega
        exact ⟨q, qE c e (e - (q + 1)) (q + 1) + 1, 4, 4, 0, q1, hq, by omega, by omega, fun _ => ⟨hqe, by omega⟩, ⟨fun kd fr nm => ⟨nm, cl _ kd fr nm ((cs kd fr nm).trans (by rw [if_pos k34, ct, if_pos t34, if_pos (show qE c e (e - (q + 1)) (q + 1) < e by omega)])), fun z => by omega⟩, fun tk fr to nm => ⟨nm, qE c e (e - (q + 1)) (q + 1) + 1, rf _ tk fr to nm (fun G => (rs G tk fr to nm).trans (by rw [if_neg (show ¬ c q = 39 by omega), if_pos k34, rt, if_pos t34])), Or.inl rfl, fun z => by omega⟩⟩, Or.inr (Or.inr (Or.inr (Or.inr (Or.inl ⟨rfl, rfl, k34, rfl, t34⟩))))⟩
      · exact bad (if qE c e (e - (q + 1)) (q + 1) < e then qE c e (e - (q + 1)) (q + 1) + 1 else e) (by split <;> omega) (by split <;> omega) (fun kd nm => ⟨nm, fun fr => (cs kd fr nm).trans (by rw [if_pos k34, ct, if_neg t34])⟩) (fun tk fr to nm => ⟨nm, fun G => (rs G tk fr to nm).trans (by rw [if_neg (show ¬ c q = 39 by omega), if_pos k34, rt, if_neg t34])⟩)
    by_cases k39 : c q = 39
    · have hg : ∃ g : Bool, g = true ↔ chG c e q := by
        by_cases y : chG c e q
        · exact ⟨true, fun _ => y, fun _ => rfl⟩
        · exact ⟨false, fun z => absurd z (by decide), fun z => absurd z y⟩
      obtain ⟨g, hg⟩ := hg
      have cq := fun kd nm => ak_Q hT q kd nm hqe _ rfl g hg
      have rq := fun tk nm => ar_Q hT q tk nm hqe (fun i a b => hl i (by omega) b) _ rfl g hg
      have wl := wd_le c e (q + 1)
      cases hgg : g with
      | true =>
        obtain ⟨⟨x, g1⟩, g2, g3⟩ := hg.mp hgg
        have w1 := shO_w hce g1
        have xl := shO_v h127 g1
        have bne : ¬ q + 1 + wdO c e (q + 1) = e := fun z => by rw [z, hce] at g2; omega
        refine ⟨q, q + 1 + wdO c e (q + 1) + 1, 2, 2, x, q1, hq, by omega, by omega, fun _ => ⟨hqe, by omega⟩, ⟨fun kd fr nm => ⟨nI x, cl _ kd fr nm ((cs kd fr nm).trans ?_), fun _ => rfl⟩, fun tk fr to nm => ⟨nI x, q + 1 + wdO c e (q + 1) + 1, rf _ tk fr to nm (fun G => (rs G tk fr to nm).trans ?_), Or.inl rfl, fun _ => rfl⟩⟩, Or.inr (Or.inr (Or.inl ⟨rfl, rfl, by omega, by omega, fun z => by omega⟩))⟩
        · rw [if_neg k34, if_pos k39, cq, if_pos (show q + 1 + wdO c e (q + 1) < e by omega), if_pos hgg, g1]
          rfl
        · obtain ⟨x', ex⟩ := rq tk nm
          rw [if_pos k39, ex, if_pos hgg, g1]
          rfl
      | false =>
        have gf : ¬ g = true := by rw [hgg]; decide
        refine bad (if q + 1 + wdO c e (q + 1) < e then q + 1 + wdO c e (q + 1) + 1 else e) (by split <;> omega) (by split <;> omega) (fun kd nm => ⟨_, fun fr => (cs kd fr nm).trans (by rw [if_neg k34, if_pos k39, cq, if_neg gf])⟩) (fun tk fr to nm => ?_)
        obtain ⟨x', ex⟩ := rq tk nm
        exact ⟨x', fun G => (rs G tk fr to nm).trans (by rw [if_pos k39, ex, if_neg gf])⟩
    by_cases k6 : c q = 60 ∨ c q = 62
    · have cL := fun kd nm => ak_L hT q kd nm hqe k6
      by_cases s : c (q + 1) = c q
      · have ne : q + 1 < e := Classical.byContradiction fun z => by
          rw [show q + 1 = e by omega, hce] at s
          omega
        refine ⟨q, q + 2, 5, if c q = 60 then 6 else 7, if c q = 60 then 256 else 257, q1, hq, by omega, by omega, fun _ => ⟨hqe, by omega⟩, ⟨fun kd fr nm => ⟨_, cl _ kd fr nm ((cs kd fr nm).trans (by rw [if_neg k34, if_neg k39, cL, if_pos s, if_pos ne])), fun _ => rfl⟩, fun tk fr to nm => ⟨nm, q + 2, rf _ tk fr to nm (fun G => (rs G tk fr to nm).trans (by rw [if_neg k39, if_neg k34, if_pos k6, if_pos s])), Or.inl rfl, fun z => by split at z <;> omega⟩⟩, Or.inr (Or.inr (Or.inr (Or.inr (Or.inr (Or.inl ⟨rfl, by omega, ?_⟩)))))⟩
        rcases k6 with k | k
        · rw [if_pos k, if_pos k]; exact Or.inl ⟨rfl, rfl⟩
        · rw [if_neg (by omega), if_neg (by omega)]; exact Or.inr (Or.inl ⟨rfl, rfl⟩)
      · exact bad (if q + 1 < e then q + 2 else e) (by split <;> omega) (by split <;> omega) (fun kd nm => ⟨_, fun fr => (cs kd fr nm).trans (by rw [if_neg k34, if_neg k39, cL, if_neg s])⟩) (fun tk fr to nm => ⟨nm, fun G => (rs G tk fr to nm).trans (by rw [if_neg k39, if_neg k34, if_pos k6, if_neg s])⟩)
    have k60 : ¬ c q = 60 := fun z => k6 (Or.inl z)
    have k62 : ¬ c q = 62 := fun z => k6 (Or.inr z)
    by_cases s : sgA (c q) = true
    · exact ⟨q, q + 1, 5, c q, c q, q1, hq, by omega, by omega, fun _ => ⟨hqe, by omega⟩, ⟨fun kd fr nm => ⟨nI (c q), cl _ kd fr nm ((cs kd fr nm).trans (by rw [if_neg k34, if_neg k39, ak_S hT q kd nm hqe k60 k62, if_pos s])), fun _ => rfl⟩, fun tk fr to nm => ⟨nm, q + 1, rf _ tk fr to nm (fun G => (rs G tk fr to nm).trans (by rw [if_neg k39, if_neg k34, if_neg k6, if_pos s])), Or.inl rfl, fun z => by have := of_decide_eq_true s; omega⟩⟩, Or.inr (Or.inr (Or.inr (Or.inr (Or.inr (Or.inl ⟨rfl, by omega, Or.inr (Or.inr ⟨s, rfl, rfl, rfl⟩)⟩)))))⟩
    · exact bad (q + 1) (by omega) (by omega) (fun kd nm => ⟨nI (c q), fun fr => (cs kd fr nm).trans (by rw [if_neg k34, if_neg k39, ak_S hT q kd nm hqe k60 k62, if_neg s])⟩) (fun tk fr to nm => ⟨nm, fun G => (rs G tk fr to nm).trans (by rw [if_neg k39, if_neg k34, if_neg k6, if_neg s])⟩)
