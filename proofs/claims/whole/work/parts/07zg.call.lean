/-- the class's answer, the reference's, and its outcome -/
def an (v64 : Int64) (v oc : Int32) : Prop := (oc = nI 0 ∧ v64 = v.toInt64) ∨ (oc = nI 1 ∧ v64 = 1099511627776) ∨ (oc = nI 2 ∧ v64 = 2199023255552) ∨ (oc = nI 3 ∧ v64 = 4398046511104)
/-- what one waits for, of its call alone -/
def wtD (X : St × St) (q : Nat) : Prop := sR X.1 9 (32 * q + 17) = nI 3 ∨ ((sR X.1 9 (32 * q + 17) = nI 6 ∨ sR X.1 9 (32 * q + 17) = nI 7) ∧ ∃ d o N : Nat, d < 16 ∧ o < 48 ∧ N ≤ 512 ∧ sR X.1 9 (32 * q + 10) = nI d ∧ sR X.1 14 (q * 16 + d) = nI o ∧ sR X.1 9 (32 * q + 12) = nI N) ∨ sR X.1 9 (32 * q + 17) = nI 19 ∨ sR X.1 9 (32 * q + 17) = nI 21
/-- both kernels before a call -/
def cP (B p : Nat) (K : St × (St × (St × St))) (X : St × St) : Prop := rM B K.2.2 X ∧ p < 16 ∧ sI X.1 12 = nI p ∧ sI X.1 13 = nI 0 ∧ sR X.1 1 p = nI 1 ∧ sI K.2.2.1 7 = nI 0 ∧ sI X.1 16 = nI 0
/-- and behind it -/
def cO (B p : Nat) (K : St × (St × (St × St))) (X : St × St) (oc : Option (Int64 × (St × (St × (St × St))))) (or : Option (Int32 × (St × St))) : Prop := ∃ (v64 : Int64) (v : Int32) (K1 : St) (M' X' : St × St), oc = some (v64, (K1, (K.2.1, M'))) ∧ or = some (v, X') ∧ rM B M' X' ∧ (∀ i : Nat, sO K1 i = sO K.1 i) ∧ an v64 v (sI X'.1 13) ∧ (X'.2 = X.2 ∧ sI X'.1 0 = sI X.1 0 ∧ sI X'.1 12 = sI X.1 12 ∧ sI X'.1 14 = sI X.1 14 ∧ sI X'.1 15 = sI X.1 15) ∧ wrR X p (sI M'.1 7) (sI X'.1 16) ∧ (¬ sI X'.1 13 = nI 2 → sR X'.1 1 p = nI 1) ∧ (sI X'.1 13 = nI 1 → wtD X' p ∧ sR X'.1 9 (32 * p + 17) = sR X.1 9 (32 * p + 17))
theorem rP_all {M M' X X' : St × St} (m3 : ∀ q : Nat, q < 16 → rP1 M X q) {p : Nat} (hp : rP1 M' X' p) (ho : ∀ r : Nat, r ≠ p → agM M M' r ∧ agX X X' r) : ∀ q : Nat, q < 16 → rP1 M' X' q := fun q hq => by
  by_cases c : q = p
  · rw [c]; exact hp
  · exact rP1_ag (m3 q hq) (ho q c).1 (ho q c).2
theorem cO_id {B p : Nat} {K : St × (St × (St × St))} {X : St × St} (h : cP B p K X) {v64 : Int64} {v : Int32} (hv : v64 = v.toInt64) : cO B p K X (some (v64, K)) (some (v, X)) := by
  obtain ⟨h1, h2, h3, h4, h5, h6, h7⟩ := h
  exact ⟨v64, v, K.1, K.2.2, X, rfl, rfl, h1, fun _ => rfl, Or.inl ⟨h4, hv⟩, ⟨rfl, rfl, rfl, rfl, rfl⟩, Or.inl ⟨h6, h7⟩, fun _ => h5, fun z => absurd (h4.symm.trans z) (by decide)⟩
theorem cO_w {B p : Nat} {K : St × (St × (St × St))} {X : St × St} (h : cP B p K X) (hw : wtD X p) : cO B p K X (some (1099511627776, K)) (some (nI 0, (pI X.1 13 (nI 1), X.2))) := by
  obtain ⟨h1, h2, h3, h4, h5, h6, h7⟩ := h
  exact ⟨_, _, K.1, K.2.2, _, rfl, rfl, h1, fun _ => rfl, Or.inr (Or.inl ⟨rfl, rfl⟩), ⟨rfl, rfl, rfl, rfl, rfl⟩, Or.inl ⟨h6, h7⟩, fun _ => h5, fun _ => ⟨hw, rfl⟩⟩
theorem cO_f {B p : Nat} {K : St × (St × (St × St))} {X : St × St} (h : cP B p K X) : cO B p K X (some (4398046511104, K)) (some (nI 0, (pI X.1 13 (nI 3), X.2))) := by
  obtain ⟨h1, h2, h3, h4, h5, h6, h7⟩ := h
  exact ⟨_, _, K.1, K.2.2, _, rfl, rfl, h1, fun _ => rfl, Or.inr (Or.inr (Or.inr ⟨rfl, rfl⟩)), ⟨rfl, rfl, rfl, rfl, rfl⟩, Or.inl ⟨h6, h7⟩, fun _ => h5, fun z => absurd (show nI 3 = nI 1 from z) (by decide)⟩
/-- what is pending changes -/
theorem rM_pend {B : Nat} {M X : St × St} (h : rM B M X) {q c : Nat} (hq : q < 16) (hc : c < 32768) : rM B (pR M.1 6 (upd (sR M.1 6) (q * 7 + 3) (nI (2 * c))), M.2) (pR X.1 4 (upd (sR X.1 4) q (nI (2 * c))), X.2) := by
  obtain ⟨m1, m2, m3, m4, m5, m6, m7⟩ := h
  refine ⟨m1, m2, rP_all m3 (p := q) ?_ (fun r hr => ⟨⟨fun i hi => nm_un (by omega), fun _ _ => rfl, fun _ _ => rfl, fun _ _ => rfl, rfl⟩, ⟨⟨rfl, rfl, rfl, nm_un hr, rfl, rfl, rfl, rfl⟩, fun _ _ => rfl, rfl, fun _ _ => rfl, rfl, fun _ _ => rfl, fun _ _ => rfl, fun _ _ => Iff.rfl, rfl⟩⟩), m4, m5, m6, m7⟩
  obtain ⟨t, c', w, b, e, ht, hc', hw, hb, he, a1, a2, a3, a4, a5, a6, a7, a8, a9, a10, a11, a12, a13, a14, a15, a16, a17, a18, a19, a20, a21⟩ := m3 q hq
  refine ⟨t, c, w, b, e, ht, hc, hw, hb, he, (nm_un (by omega)).trans a1, a2, (nm_un (by omega)).trans a3, a4, a5, fun z => ?_, fun z => (nm_un (by omega)).trans (a7 z), nm_us, nm_us, (nm_un (by omega)).trans a10, a11, (nm_un (by omega)).trans a12, a13, (nm_un (by omega)).trans a14, a15, a16, a17, a18, a19, a20, a21⟩
  obtain ⟨y, y1, y2, y3⟩ := a6 z
  exact ⟨y, y1, (nm_un (by omega)).trans y2, y3⟩
/-- a handler is set -/
theorem rM_hand {B : Nat} {M X : St × St} (h : rM B M X) {p k : Nat} (hp : p < 16) (hk : k < 16) (v : Int32) : rM B (pR M.1 5 (upd (sR M.1 5) (p * 16 + k) v), M.2) (pR X.1 13 (upd (sR X.1 13) (16 * p + k) v), X.2) := by
  obtain ⟨m1, m2, m3, m4, m5, m6, m7⟩ := h
  refine ⟨m1, m2, rP_all m3 (p := p) ?_ (fun r hr => ⟨⟨fun _ _ => rfl, fun _ _ => rfl, fun _ _ => rfl, fun i hi => nm_un (by omega), rfl⟩, ⟨⟨rfl, rfl, rfl, rfl, rfl, rfl, rfl, rfl⟩, fun _ _ => rfl, rfl, fun _ _ => rfl, rfl, fun i hi => nm_un (by omega), fun _ _ => rfl, fun _ _ => Iff.rfl, rfl⟩⟩), m4, m5, m6, m7⟩
  obtain ⟨t, c', w, b, e, ht, hc', hw, hb, he, a1, a2, a3, a4, a5, a6, a7, a8, a9, a10, a11, a12, a13, a14, a15, a16, a17, a18, a19, a20, a21⟩ := m3 p hp
  refine ⟨t, c', w, b, e, ht, hc', hw, hb, he, a1, a2, a3, a4, a5, a6, a7, a8, a9, a10, a11, a12, a13, a14, a15, a16, a17, fun z => ⟨fun i hi => ?_, (a18 z).2⟩, a19, a20, a21⟩
  show upd _ _ _ (p * 16 + i) = upd _ _ _ (16 * p + i)
  by_cases c : i = k
  · rw [c, nm_us, nm_us]
  · rw [nm_un (by omega), nm_un (by omega)]; exact (a18 z).1 i hi
/-- the kernel's call 'signal' -/
theorem nq_signal (n : Nat) {B p : Nat} {K : St × (St × (St × St))} {X : St × St} (h : cP B p K X) (a b : Int32) : cO B p K X (df_X5_signal n a b K) (df_X16_signal n a b X) := by
  obtain ⟨v, K', X', e1, e2, e3⟩ := nk_signal n (K := K) (X := X) (fun q hq => by
    obtain ⟨t, c', w, b, e, ht, hc', hw, hb, he, a1, a2, a3, a4, a5, a6, a7, a8, a9, _⟩ := h.1.2.2.1 q hq
    exact ⟨t, c', ht, hc', a1, a2, a8, a9⟩) a b
  rw [e1, e2]
  rcases e3 with ⟨z1, z2⟩ | ⟨q, c, hq, hc, s0, s3, z1, z2⟩
  · subst z1 z2
    exact cO_id h rfl
  · subst z1 z2
    obtain ⟨h1, h2, h3, h4, h5, h6, h7⟩ := h
    exact ⟨_, _, _, _, _, rfl, rfl, rM_pend h1 hq hc, fun _ => rfl, Or.inl ⟨h4, rfl⟩, ⟨rfl, rfl, rfl, rfl, rfl⟩, Or.inl ⟨h6, h7⟩, fun _ => h5, fun z => absurd (h4.symm.trans z) (by decide)⟩
theorem nq_handle (n : Nat) {B p : Nat} {K : St × (St × (St × St))} {X : St × St} (h : cP B p K X) (a b : Int32) : cO B p K X (df_X5_handle n (nI p) a b K) (df_X16_handle n a b X) := by
  obtain ⟨t, c', w, b', e, ht, hc', hw, hb, he, a1, a2, a3, a4, a5, a6, a7, a8, a9, a10, a11, a12, a13, a14, a15, a16, a17, a18, a19, a20, a21⟩ := h.1.2.2.1 p h.2.1
  have t1 : t = 1 := nm_inI (by omega) (by omega) (a2.symm.trans h.2.2.2.2.1)
  obtain ⟨v, K', X', e1, e2, e3⟩ := nk_handle n (K := K) (X := X) h.2.1 h.2.2.1 (a18 (Or.inl t1)).1 a b
  rw [e1, e2]
  rcases e3 with ⟨z1, z2⟩ | ⟨k, hk, z1, z2⟩
  · subst z1 z2
    exact cO_id h rfl
  · subst z1 z2
    obtain ⟨h1, h2, h3, h4, h5, h6, h7⟩ := h
    exact ⟨_, _, _, _, _, rfl, rfl, rM_hand h1 h2 hk b, fun _ => rfl, Or.inl ⟨h4, rfl⟩, ⟨rfl, rfl, rfl, rfl, rfl⟩, Or.inl ⟨h6, h7⟩, fun _ => h5, fun z => absurd (h4.symm.trans z) (by decide)⟩
theorem va_i {f g : Nat → Int32} {a b k j : Nat} (h : b ≤ j ∧ j < b + k) : va_cpy f g a b k j = f (a + (j - b)) := if_pos h
theorem va_o {f g : Nat → Int32} {a b k j : Nat} (h : ¬ (b ≤ j ∧ j < b + k)) : va_cpy f g a b k j = g j := if_neg h
theorem cpx_i {f g : Nat → Int32} {a k j : Nat} (h : a ≤ j ∧ j < a + k) : cpx f g a k j = g j := if_pos h
theorem cpx_o {f g : Nat → Int32} {a k j : Nat} (h : ¬ (a ≤ j ∧ j < a + k)) : cpx f g a k j = f j := if_neg h
theorem nq_back (n : Nat) (hn : 1024 < n) {B p : Nat} {K : St × (St × (St × St))} {X : St × St} (h : cP B p K X) : cO B p K X (df_X5_back n (nI p) K) (df_X16_back n X) := by
  obtain ⟨h1, h2, h3, h4, h5, h6, h7⟩ := id h
  obtain ⟨m1, m2, m3, m4, m5, m6, m7⟩ := h1
  obtain ⟨t, c', w, b', e, ht, hc', hw, hb, he, a1, a2, a3, a4, a5, a6, a7, a8, a9, a10, a11, a12, a13, a14, a15, a16, a17, a18, a19, a20, a21⟩ := m3 p h2
  have t1 : t = 1 := nm_inI (by omega) (by omega) (a2.symm.trans h5)
  rw [nk_backC n h2 hw a10, nk_backR n hn h2 hw h3 a11]
  by_cases c : w = 0
  · rw [if_pos c, if_pos c]
    exact cO_id h (by decide)
  · rw [if_neg c, if_neg c]
    obtain ⟨s1, s2⟩ := (a18 (Or.inl t1)).2.2 (by omega)
    refine ⟨_, _, _, _, _, rfl, rfl, ⟨m1, m2, rP_all m3 (p := p) ?_ (fun r hr => ⟨⟨fun i hi => nm_un (by omega), fun i hi => va_o (by omega), fun _ _ => rfl, fun _ _ => rfl, rfl⟩, ⟨⟨rfl, rfl, rfl, rfl, rfl, rfl, rfl, nm_un hr⟩, fun i hi => cpx_o (by omega), nm_un hr, fun _ _ => rfl, rfl, fun _ _ => rfl, fun _ _ => rfl, fun _ _ => Iff.rfl, rfl⟩⟩), m4, m5, m6, m7⟩, fun _ => rfl, Or.inr (Or.inr (Or.inl ⟨rfl, rfl⟩)), ⟨rfl, rfl, rfl, rfl, rfl⟩, Or.inl ⟨h6, h7⟩, fun z => absurd rfl z, fun z => absurd (show nI 2 = nI 1 from z) (by decide)⟩
    refine ⟨t, c', 0, b', e, ht, hc', by omega, hb, he, (nm_un (by omega)).trans a1, a2, (nm_un (by omega)).trans a3, a4, a5, fun z => by omega, fun z => (nm_un (by omega)).trans (a7 z), (nm_un (by omega)).trans a8, a9, nm_us, nm_us, (nm_un (by omega)).trans a12, a13, (nm_un (by omega)).trans a14, a15, a16, fun z => ⟨fun r hr => ?_, ?_⟩, fun z => ⟨(a18 z).1, (a18 z).2.1, fun y => by omega⟩, a19, fun z => by omega, a21⟩
    · show va_cpy _ _ _ _ _ (p * 33 + r) = cpx _ _ _ _ (32 * p + r)
      rw [va_i (by omega), cpx_i (by omega), show p * 33 + (p * 33 + r - p * 33) = p * 33 + r by omega]
      exact s1 r hr
    · show va_cpy _ _ _ _ _ (p * 33 + 32) = upd _ _ _ p
      rw [va_i (by omega), nm_us, show p * 33 + (p * 33 + 32 - p * 33) = p * 33 + 32 by omega]
      exact s2
theorem nq_sleep (n : Nat) {B p : Nat} {K : St × (St × (St × St))} {X : St × St} (h : cP B p K X) (h17 : sR X.1 9 (32 * p + 17) = nI 19) (a : Int32) : cO B p K X (df_X5_sleep n (nI p) a K) (df_X16_sleep n a X) := by
  obtain ⟨h1, h2, h3, h4, h5, h6, h7⟩ := h
  obtain ⟨m1, m2, m3, m4, m5, m6, m7⟩ := h1
  obtain ⟨t, c', w, b', e, ht, hc', hw, hb, he, a1, a2, a3, a4, a5, a6, a7, a8, a9, a10, a11, a12, a13, a14, a15, a16, a17, a18, a19, a20, a21⟩ := id (m3 p h2)
  have t1 : t = 1 := nm_inI (by omega) (by omega) (a2.symm.trans h5)
  have es := (a18 (Or.inl t1)).2.1
  have u1 : p < 2 ^ 31 := by omega
  have ec := m5.2.2.2.2.2.2.2.2.2.1
  have upd2 : ∀ v : Int64, rM B (pQ K.2.2.1 0 (vp_updL (sQ K.2.2.1 0) p v), K.2.2.2) (pQ X.1 0 (vp_updL (sQ X.1 0) p v), X.2) := fun v => by
    refine ⟨m1, m2, rP_all m3 (p := p) ?_ (fun r hr => ⟨⟨fun _ _ => rfl, fun _ _ => rfl, fun _ _ => rfl, fun _ _ => rfl, up_o hr⟩, ⟨⟨rfl, rfl, rfl, rfl, rfl, rfl, rfl, rfl⟩, fun _ _ => rfl, rfl, fun _ _ => rfl, rfl, fun _ _ => rfl, fun _ _ => rfl, fun _ _ => Iff.rfl, up_o hr⟩⟩), m4, m5, m6, m7⟩
    exact ⟨t, c', w, b', e, ht, hc', hw, hb, he, a1, a2, a3, a4, a5, a6, a7, a8, a9, a10, a11, a12, a13, a14, a15, a16, a17, fun z => ⟨(a18 z).1, (show vp_updL (sQ K.2.2.1 0) p v p = vp_updL (sQ X.1 0) p v p from (if_pos rfl).trans (if_pos rfl).symm), (a18 z).2.2⟩, a19, a20, a21⟩
  have uid : ∀ f : Nat → Int64, vp_updL f p (f p) = f := fun f => by
    funext j
    by_cases c : j = p
    · rw [c]; exact if_pos rfl
    · exact if_neg c
  have uuu : ∀ (f : Nat → Int64) (v z : Int64), vp_updL (vp_updL f p v) p z = vp_updL f p z := fun f v z => by
    funext j
    by_cases c : j = p
    · rw [c]; exact (if_pos rfl).trans (if_pos rfl).symm
    · exact ((if_neg c).trans (if_neg c)).trans (if_neg c).symm
  have qq : ∀ (s : St) (f g : Nat → Int64), pQ (pQ s 0 f) 0 g = pQ s 0 g := fun s f g => by
    unfold pQ
    congr 4
    funext j
    dsimp only
    by_cases c : j = 0
    · rw [if_pos c, if_pos c]
    · rw [if_neg c, if_neg c, if_neg c]
  -- with since set to y
  have tail : ∀ y : Int64, cO B p K X (df_X5_sleep_37 n (nI p) (K.1, (K.2.1, (pQ K.2.2.1 0 (vp_updL (sQ K.2.2.1 0) p y), K.2.2.2)))) (df_X16_sleep_32 n (pQ X.1 0 (vp_updL (sQ X.1 0) p y), X.2)) := fun y => by
    have y1 : ∀ f : Nat → Int64, vp_updL f p y p = y := fun f => if_pos rfl
    by_cases cc : nI 0 ≤ lg_cmp (sL X.1 1) y
    · refine ⟨0, nI 0, K.1, _, _, ?_, ?_, upd2 (-1), fun _ => rfl, Or.inl ⟨h4, by decide⟩, ⟨rfl, rfl, rfl, rfl, rfl⟩, Or.inl ⟨h6, h7⟩, fun _ => h5, fun z => absurd (h4.symm.trans z) (by decide)⟩
      · simp (disch := (first | assumption | decide | omega)) only [df_X5_sleep_37, ec, y1, uuu, qq, eq_self, Nat.reduceEqDiff, Nat.reduceLeDiff, nl_0, nl_1, nl_16, nl_1099511627776, no_1, no_1024, pk_mul, nI_add, nm_ck, nI_clamp, nI_ltI, nI_leI, nI_eq, nb_b2, nb_b1, ↓nb_let, nm_z0, nm_z1, nb_II, nb_IR, nb_RI, nb_RR, nm_IL, nm_IQ, nm_RL, nm_RQ, nm_LI, nm_LR, nm_LL, nm_LQ, nm_QI, nm_QR, nm_QL, nm_QQ, nm_rr, nm_ii, nm_eqm, not_false_eq_true, pk_sub, nm_div, nm_shl, nm_shr, nm_ush, nm_or8, nm_or64, nm_or256, nm_m1, nm_m3, nm_m7, nm_m15, nm_m31, nm_m63, nm_m255, nm_m511, nm_m1023, nm_m2047, nm_m65535, Nat.reduceMod, Nat.reducePow, Nat.reduceAdd, Nat.reduceSub, Nat.reduceMul, nm_bo, nm_bi, nm_rc, nm_ic, nm_ri, nm_rl, nm_rq, nm_ql, nm_qi, nm_li, nm_us, nm_uu, nm_cp, nm_sa31, nm_sa7, nm_m127, nm_m2, nm_nz, nm_nzk, nm_eq32, nm_nzf, if_true, if_false, ↓reduceIte, if_pos, if_neg]
      · simp (disch := (first | assumption | decide | omega)) only [df_X16_sleep_32, h3, y1, uuu, qq, eq_self, Nat.reduceEqDiff, Nat.reduceLeDiff, nl_0, nl_1, nl_12, nl_16, no_1, no_1024, pk_mul, nI_add, nm_ck, nI_clamp, nI_ltI, nI_leI, nI_eq, nb_b2, nb_b1, ↓nb_let, nm_z0, nm_z1, nb_II, nb_IR, nb_RI, nb_RR, nm_IL, nm_IQ, nm_RL, nm_RQ, nm_LI, nm_LR, nm_LL, nm_LQ, nm_QI, nm_QR, nm_QL, nm_QQ, nm_rr, nm_ii, nm_eqm, not_false_eq_true, pk_sub, nm_div, nm_shl, nm_shr, nm_ush, nm_or8, nm_or64, nm_or256, nm_m1, nm_m3, nm_m7, nm_m15, nm_m31, nm_m63, nm_m255, nm_m511, nm_m1023, nm_m2047, nm_m65535, Nat.reduceMod, Nat.reducePow, Nat.reduceAdd, Nat.reduceSub, Nat.reduceMul, nm_bo, nm_bi, nm_rc, nm_ic, nm_ri, nm_rl, nm_rq, nm_ql, nm_qi, nm_li, nm_us, nm_uu, nm_cp, nm_sa31, nm_sa7, nm_m127, nm_m2, nm_nz, nm_nzk, nm_eq32, nm_nzf, if_true, if_false, ↓reduceIte, if_pos, if_neg]
    · refine ⟨1099511627776, nI 0, K.1, _, (pI (pQ X.1 0 (vp_updL (sQ X.1 0) p y)) 13 (nI 1), X.2), ?_, ?_, upd2 y, fun _ => rfl, Or.inr (Or.inl ⟨rfl, rfl⟩), ⟨rfl, rfl, rfl, rfl, rfl⟩, Or.inl ⟨h6, h7⟩, fun _ => h5, fun z => ⟨Or.inr (Or.inr (Or.inl h17)), rfl⟩⟩
      · simp (disch := (first | assumption | decide | omega)) only [df_X5_sleep_37, ec, y1, eq_self, Nat.reduceEqDiff, Nat.reduceLeDiff, nl_0, nl_1, nl_16, nl_1099511627776, no_1, no_1024, pk_mul, nI_add, nm_ck, nI_clamp, nI_ltI, nI_leI, nI_eq, nb_b2, nb_b1, ↓nb_let, nm_z0, nm_z1, nb_II, nb_IR, nb_RI, nb_RR, nm_IL, nm_IQ, nm_RL, nm_RQ, nm_LI, nm_LR, nm_LL, nm_LQ, nm_QI, nm_QR, nm_QL, nm_QQ, nm_rr, nm_ii, nm_eqm, not_false_eq_true, pk_sub, nm_div, nm_shl, nm_shr, nm_ush, nm_or8, nm_or64, nm_or256, nm_m1, nm_m3, nm_m7, nm_m15, nm_m31, nm_m63, nm_m255, nm_m511, nm_m1023, nm_m2047, nm_m65535, Nat.reduceMod, Nat.reducePow, Nat.reduceAdd, Nat.reduceSub, Nat.reduceMul, nm_bo, nm_bi, nm_rc, nm_ic, nm_ri, nm_rl, nm_rq, nm_ql, nm_qi, nm_li, nm_us, nm_uu, nm_cp, nm_sa31, nm_sa7, nm_m127, nm_m2, nm_nz, nm_nzk, nm_eq32, nm_nzf, if_true, if_false, ↓reduceIte, if_pos, if_neg]
      · simp (disch := (first | assumption | decide | omega)) only [df_X16_sleep_32, df_X16_tell_0, df_X16_tell, h3, y1, eq_self, Nat.reduceEqDiff, Nat.reduceLeDiff, nl_0, nl_1, nl_12, nl_13, nl_16, no_1, no_1024, pk_mul, nI_add, nm_ck, nI_clamp, nI_ltI, nI_leI, nI_eq, nb_b2, nb_b1, ↓nb_let, nm_z0, nm_z1, nb_II, nb_IR, nb_RI, nb_RR, nm_IL, nm_IQ, nm_RL, nm_RQ, nm_LI, nm_LR, nm_LL, nm_LQ, nm_QI, nm_QR, nm_QL, nm_QQ, nm_rr, nm_ii, nm_eqm, not_false_eq_true, pk_sub, nm_div, nm_shl, nm_shr, nm_ush, nm_or8, nm_or64, nm_or256, nm_m1, nm_m3, nm_m7, nm_m15, nm_m31, nm_m63, nm_m255, nm_m511, nm_m1023, nm_m2047, nm_m65535, Nat.reduceMod, Nat.reducePow, Nat.reduceAdd, Nat.reduceSub, Nat.reduceMul, nm_bo, nm_bi, nm_rc, nm_ic, nm_ri, nm_rl, nm_rq, nm_ql, nm_qi, nm_li, nm_us, nm_uu, nm_cp, nm_sa31, nm_sa7, nm_m127, nm_m2, nm_nz, nm_nzk, nm_eq32, nm_nzf, if_true, if_false, ↓reduceIte, if_pos, if_neg]
  by_cases c0 : nI 0 ≤ lg_cmp (sQ X.1 0 p) 0
  · have := tail (sQ X.1 0 p)
    have i1 : vp_updL (sQ K.2.2.1 0) p (sQ X.1 0 p) = sQ K.2.2.1 0 := by rw [← es]; exact uid _
    rw [i1, uid] at this
    have q0 : ∀ s : St, pQ s 0 (sQ s 0) = s := fun s => by
      unfold pQ sQ
      obtain ⟨a, b, c, d, e⟩ := s
      dsimp only
      congr 4
      funext j
      by_cases z : j = 0
      · rw [if_pos z, z]
      · rw [if_neg z]
    rw [q0, q0] at this
    have x1 : df_X5_sleep n (nI p) a K = df_X5_sleep_37 n (nI p) K := by
      simp (disch := (first | assumption | decide | omega)) only [df_X5_sleep, df_X5_sleep_0, es, eq_self, Nat.reduceEqDiff, Nat.reduceLeDiff, nl_0, nl_16, nl_4294967295, no_1, no_1024, pk_mul, nI_add, nm_ck, nI_clamp, nI_ltI, nI_leI, nI_eq, nb_b2, nb_b1, ↓nb_let, nm_z0, nm_z1, nb_II, nb_IR, nb_RI, nb_RR, nm_IL, nm_IQ, nm_RL, nm_RQ, nm_LI, nm_LR, nm_LL, nm_LQ, nm_QI, nm_QR, nm_QL, nm_QQ, nm_rr, nm_ii, nm_eqm, not_false_eq_true, pk_sub, nm_div, nm_shl, nm_shr, nm_ush, nm_or8, nm_or64, nm_or256, nm_m1, nm_m3, nm_m7, nm_m15, nm_m31, nm_m63, nm_m255, nm_m511, nm_m1023, nm_m2047, nm_m65535, Nat.reduceMod, Nat.reducePow, Nat.reduceAdd, Nat.reduceSub, Nat.reduceMul, nm_bo, nm_bi, nm_rc, nm_ic, nm_ri, nm_rl, nm_rq, nm_ql, nm_qi, nm_li, nm_us, nm_uu, nm_cp, nm_sa31, nm_sa7, nm_m127, nm_m2, nm_nz, nm_nzk, nm_eq32, nm_nzf, if_true, if_false, ↓reduceIte, if_pos, if_neg]
    have x2 : df_X16_sleep n a X = df_X16_sleep_32 n X := by
      simp (disch := (first | assumption | decide | omega)) only [df_X16_sleep, df_X16_sleep_0, h3, eq_self, Nat.reduceEqDiff, Nat.reduceLeDiff, nl_0, nl_1, nl_12, nl_16, no_1, no_1024, pk_mul, nI_add, nm_ck, nI_clamp, nI_ltI, nI_leI, nI_eq, nb_b2, nb_b1, ↓nb_let, nm_z0, nm_z1, nb_II, nb_IR, nb_RI, nb_RR, nm_IL, nm_IQ, nm_RL, nm_RQ, nm_LI, nm_LR, nm_LL, nm_LQ, nm_QI, nm_QR, nm_QL, nm_QQ, nm_rr, nm_ii, nm_eqm, not_false_eq_true, pk_sub, nm_div, nm_shl, nm_shr, nm_ush, nm_or8, nm_or64, nm_or256, nm_m1, nm_m3, nm_m7, nm_m15, nm_m31, nm_m63, nm_m255, nm_m511, nm_m1023, nm_m2047, nm_m65535, Nat.reduceMod, Nat.reducePow, Nat.reduceAdd, Nat.reduceSub, Nat.reduceMul, nm_bo, nm_bi, nm_rc, nm_ic, nm_ri, nm_rl, nm_rq, nm_ql, nm_qi, nm_li, nm_us, nm_uu, nm_cp, nm_sa31, nm_sa7, nm_m127, nm_m2, nm_nz, nm_nzk, nm_eq32, nm_nzf, if_true, if_false, ↓reduceIte, if_pos, if_neg]
    rw [x1, x2]
    exact this
  · have := tail (sL X.1 1 + (a.toInt64 &&& 4294967295))
    have x1 : df_X5_sleep n (nI p) a K = df_X5_sleep_37 n (nI p) (K.1, (K.2.1, (pQ K.2.2.1 0 (vp_updL (sQ K.2.2.1 0) p (sL X.1 1 + (a.toInt64 &&& 4294967295))), K.2.2.2))) := by
      simp (disch := (first | assumption | decide | omega)) only [df_X5_sleep, df_X5_sleep_0, es, ec, eq_self, Nat.reduceEqDiff, Nat.reduceLeDiff, nl_0, nl_16, nl_4294967295, no_1, no_1024, pk_mul, nI_add, nm_ck, nI_clamp, nI_ltI, nI_leI, nI_eq, nb_b2, nb_b1, ↓nb_let, nm_z0, nm_z1, nb_II, nb_IR, nb_RI, nb_RR, nm_IL, nm_IQ, nm_RL, nm_RQ, nm_LI, nm_LR, nm_LL, nm_LQ, nm_QI, nm_QR, nm_QL, nm_QQ, nm_rr, nm_ii, nm_eqm, not_false_eq_true, pk_sub, nm_div, nm_shl, nm_shr, nm_ush, nm_or8, nm_or64, nm_or256, nm_m1, nm_m3, nm_m7, nm_m15, nm_m31, nm_m63, nm_m255, nm_m511, nm_m1023, nm_m2047, nm_m65535, Nat.reduceMod, Nat.reducePow, Nat.reduceAdd, Nat.reduceSub, Nat.reduceMul, nm_bo, nm_bi, nm_rc, nm_ic, nm_ri, nm_rl, nm_rq, nm_ql, nm_qi, nm_li, nm_us, nm_uu, nm_cp, nm_sa31, nm_sa7, nm_m127, nm_m2, nm_nz, nm_nzk, nm_eq32, nm_nzf, if_true, if_false, ↓reduceIte, if_pos, if_neg]
    have x2 : df_X16_sleep n a X = df_X16_sleep_32 n (pQ X.1 0 (vp_updL (sQ X.1 0) p (sL X.1 1 + (a.toInt64 &&& 4294967295))), X.2) := by
      simp (disch := (first | assumption | decide | omega)) only [df_X16_sleep, df_X16_sleep_0, df_X16_plain_0, df_X16_plain, h3, eq_self, Nat.reduceEqDiff, Nat.reduceLeDiff, nl_0, nl_1, nl_12, nl_16, nl_4294967295, no_1, no_1024, pk_mul, nI_add, nm_ck, nI_clamp, nI_ltI, nI_leI, nI_eq, nb_b2, nb_b1, ↓nb_let, nm_z0, nm_z1, nb_II, nb_IR, nb_RI, nb_RR, nm_IL, nm_IQ, nm_RL, nm_RQ, nm_LI, nm_LR, nm_LL, nm_LQ, nm_QI, nm_QR, nm_QL, nm_QQ, nm_rr, nm_ii, nm_eqm, not_false_eq_true, pk_sub, nm_div, nm_shl, nm_shr, nm_ush, nm_or8, nm_or64, nm_or256, nm_m1, nm_m3, nm_m7, nm_m15, nm_m31, nm_m63, nm_m255, nm_m511, nm_m1023, nm_m2047, nm_m65535, Nat.reduceMod, Nat.reducePow, Nat.reduceAdd, Nat.reduceSub, Nat.reduceMul, nm_bo, nm_bi, nm_rc, nm_ic, nm_ri, nm_rl, nm_rq, nm_ql, nm_qi, nm_li, nm_us, nm_uu, nm_cp, nm_sa31, nm_sa7, nm_m127, nm_m2, nm_nz, nm_nzk, nm_eq32, nm_nzf, if_true, if_false, ↓reduceIte, if_pos, if_neg]
    rw [x1, x2]
    exact this
/-- the kernel's call 'wait' -/
theorem nq_wait (n : Nat) (hn : 1024 < n) {B p : Nat} {K : St × (St × (St × St))} {X : St × St} (h : cP B p K X) (h17 : sR X.1 9 (32 * p + 17) = nI 3) : cO B p K X (df_X5_waitForChild n (nI p) K) (df_X16_waitFor n X) := by
  have hst := rM_st h.1
  have hpa := rM_pa h.1
  obtain ⟨h1, h2, h3, h4, h5, h6, h7⟩ := id h
  obtain ⟨c1, c2⟩ := nk_child n hn hst hpa p true
  obtain ⟨d1, d2⟩ := nk_child n hn hst hpa p false
  have c1 : df_X6_leastChild n (nI p) (nI 1) K.2.2 = _ := c1
  have d1 : df_X6_leastChild n (nI p) (nI 0) K.2.2 = _ := d1
  have c2 : df_X16_child n (nI p) (nI 0) X = _ := c2
  have d2 : df_X16_child n (nI p) (nI 1) X = _ := d2
  obtain ⟨y1, y2, y3, y4⟩ := fN_le (chP X p false) 16 0
  generalize fN (chP X p true) 0 16 = f1 at c1 c2
  generalize fN (chP X p false) 0 16 = f2 at d1 d2 y1 y2 y3
  have z0 : ¬ (nI 0 : Int32) ≤ -nI 1 := by decide
  by_cases x1 : f1 < 16
  · rw [cv_0 x1] at c1 c2
    have u1 : 0 ≤ f1 := by omega
    have u2 : f1 < 2 ^ 31 := by omega
    by_cases x2 : f2 < 16
    · rw [cv_0 x2] at d1 d2
      have u3 : 0 ≤ f2 := by omega
      have u4 : f2 < 2 ^ 31 := by omega
      have u5 : f2 * 7 + 2 < 112 := by omega
      have u6 : f2 * 7 + 2 < 2 ^ 31 := by omega
      obtain ⟨t, ht, t1, t2⟩ := hst f2 x2
      obtain ⟨e1, e2, e3⟩ := (ch_cases X false ht t2).2 (y3 (by omega))
      have t3 : t = 3 := by
        rcases e3 with e3 | e3
        · exact nomatch e3
        · exact e3
      subst t3
      obtain ⟨m1, m2, m3, m4, m5, m6, m7⟩ := h1
      obtain ⟨t', c', w, b', e, ht', hc', hw, hb, he, a1, a2, a3, a4, a5, a6, a7, a8, a9, a10, a11, a12, a13, a14, a15, a16, a17, a18, a19, a20, a21⟩ := id (m3 f2 x2)
      have t3 : t' = 3 := nm_inI (by omega) (by omega) (a2.symm.trans t2)
      obtain ⟨z, hz, z1, z2⟩ := a6 t3
      have mk := nk_makeAbsent n hn K.2.2 x2
      have be := nk_begin n hn X x2
      have u7 : 256 * z < 2 ^ 31 := by omega
      have u8 : z < 2 ^ 31 := by omega
      have d16 : ∀ d : Nat, d < 16 → sR X.1 14 (16 * f2 + d) = -nI 1 := fun d hd => by
        have := (a19 (Or.inr t3)).2 d hd
        rw [Nat.mul_comm f2 16] at this
        exact this
      have fp : f2 ≠ p := fun y => by
        rw [y, h5] at t2
        exact absurd t2 (by decide)
      have r := rM_fX (sf := ab (sR K.2.2.1 6) f2 7) (fX_bg d16) m1 m2 m5 m6 m7
      obtain ⟨r1, r2, r3, r4, r5, ⟨k1, k2, k3, k4, k5, k6, k7⟩, r7⟩ := r
      refine ⟨(nI (f2 + 256 * z)).toInt64, nI (f2 + 256 * z), K.1, (pR K.2.2.1 6 (ab (sR K.2.2.1 6) f2 7), K.2.2.2), bg X f2 32 16, ?_, ?_, ⟨r1, r2, rP_all m3 (p := f2) ?_ (fun r hr => ⟨⟨fun i hi => ab_o (by omega), fun _ _ => rfl, fun _ _ => rfl, fun _ _ => rfl, rfl⟩, agX_bg hr⟩), ?_, r3, r4, r5⟩, fun _ => rfl, Or.inl ⟨k4.trans h4, rfl⟩, ⟨k1, k2, k3, k5, k6⟩, Or.inl ⟨h6, k7.trans h7⟩, fun _ => ?_, fun z => absurd ((k4.trans h4).symm.trans z) (by decide)⟩
      · simp (disch := (first | assumption | decide | omega)) only [df_X5_waitForChild_0, df_X5_waitForChild, c1, d1, u1, u3, z1, mk, eq_self, Nat.reduceEqDiff, Nat.reduceLeDiff, nl_0, nl_1, nl_2, nl_6, nl_7, nl_10, nl_112, nl_256, nl_1099511627776, no_1, no_1024, pk_mul, nI_add, nm_ck, nI_clamp, nI_ltI, nI_leI, nI_eq, nb_b2, nb_b1, ↓nb_let, nm_z0, nm_z1, nb_II, nb_IR, nb_RI, nb_RR, nm_IL, nm_IQ, nm_RL, nm_RQ, nm_LI, nm_LR, nm_LL, nm_LQ, nm_QI, nm_QR, nm_QL, nm_QQ, nm_rr, nm_ii, nm_eqm, not_false_eq_true, pk_sub, nm_div, nm_shl, nm_shr, nm_ush, nm_or8, nm_or64, nm_or256, nm_m1, nm_m3, nm_m7, nm_m15, nm_m31, nm_m63, nm_m255, nm_m511, nm_m1023, nm_m2047, nm_m65535, Nat.reduceMod, Nat.reducePow, Nat.reduceAdd, Nat.reduceSub, Nat.reduceMul, nm_bo, nm_bi, nm_rc, nm_ic, nm_ri, nm_rl, nm_rq, nm_ql, nm_qi, nm_li, nm_us, nm_uu, nm_cp, nm_sa31, nm_sa7, nm_m127, nm_m2, nm_nz, nm_nzk, nm_eq32, nm_nzf, if_true, if_false, ↓reduceIte, if_pos, if_neg]
      · simp (disch := (first | assumption | decide | omega)) only [df_X16_waitFor_0, df_X16_waitFor, h3, c2, d2, z2, be, eq_self, Nat.reduceEqDiff, Nat.reduceLeDiff, nl_0, nl_1, nl_3, nl_10, nl_12, nl_16, nl_256, no_1, no_1024, pk_mul, nI_add, nm_ck, nI_clamp, nI_ltI, nI_leI, nI_eq, nb_b2, nb_b1, ↓nb_let, nm_z0, nm_z1, nb_II, nb_IR, nb_RI, nb_RR, nm_IL, nm_IQ, nm_RL, nm_RQ, nm_LI, nm_LR, nm_LL, nm_LQ, nm_QI, nm_QR, nm_QL, nm_QQ, nm_rr, nm_ii, nm_eqm, not_false_eq_true, pk_sub, nm_div, nm_shl, nm_shr, nm_ush, nm_or8, nm_or64, nm_or256, nm_m1, nm_m3, nm_m7, nm_m15, nm_m31, nm_m63, nm_m255, nm_m511, nm_m1023, nm_m2047, nm_m65535, Nat.reduceMod, Nat.reducePow, Nat.reduceAdd, Nat.reduceSub, Nat.reduceMul, nm_bo, nm_bi, nm_rc, nm_ic, nm_ri, nm_rl, nm_rq, nm_ql, nm_qi, nm_li, nm_us, nm_uu, nm_cp, nm_sa31, nm_sa7, nm_m127, nm_m2, nm_nz, nm_nzk, nm_eq32, nm_nzf, if_true, if_false, ↓reduceIte, if_pos, if_neg]
      · exact rP1_bg (fun i hi => ab_i hi) x2 (a19 (Or.inr t3)).1
      · rw [bg_r1]
        refine Eq.trans m4 (congrArg nI ?_)
        have := cW_ch (st := sR X.1 1) x2 (nI 0)
        rw [t2, nm_df (show ¬ nI 3 = nI 2 by decide), nm_df (show ¬ nI 0 = nI 2 by decide)] at this
        exact this.symm
      · rw [bg_r1, nm_un (fun y => fp y.symm)]
        exact h5
    · rw [cv_1 x2] at d1 d2
      have e1 : df_X5_waitForChild n (nI p) K = some (1099511627776, K) := by simp (disch := (first | assumption | decide | omega)) only [df_X5_waitForChild_0, df_X5_waitForChild, c1, d1, u1, z0, eq_self, Nat.reduceEqDiff, Nat.reduceLeDiff, nl_0, nl_1, nl_2, nl_6, nl_7, nl_10, nl_112, nl_256, nl_1099511627776, no_1, no_1024, pk_mul, nI_add, nm_ck, nI_clamp, nI_ltI, nI_leI, nI_eq, nb_b2, nb_b1, ↓nb_let, nm_z0, nm_z1, nb_II, nb_IR, nb_RI, nb_RR, nm_IL, nm_IQ, nm_RL, nm_RQ, nm_LI, nm_LR, nm_LL, nm_LQ, nm_QI, nm_QR, nm_QL, nm_QQ, nm_rr, nm_ii, nm_eqm, not_false_eq_true, pk_sub, nm_div, nm_shl, nm_shr, nm_ush, nm_or8, nm_or64, nm_or256, nm_m1, nm_m3, nm_m7, nm_m15, nm_m31, nm_m63, nm_m255, nm_m511, nm_m1023, nm_m2047, nm_m65535, Nat.reduceMod, Nat.reducePow, Nat.reduceAdd, Nat.reduceSub, Nat.reduceMul, nm_bo, nm_bi, nm_rc, nm_ic, nm_ri, nm_rl, nm_rq, nm_ql, nm_qi, nm_li, nm_us, nm_uu, nm_cp, nm_sa31, nm_sa7, nm_m127, nm_m2, nm_nz, nm_nzk, nm_eq32, nm_nzf, if_true, if_false, ↓reduceIte, if_pos, if_neg]
      have e2 : df_X16_waitFor n X = some (nI 0, (pI X.1 13 (nI 1), X.2)) := by simp (disch := (first | assumption | decide | omega)) only [df_X16_waitFor_0, df_X16_waitFor, df_X16_tell_0, df_X16_tell, h3, c2, d2, eq_self, Nat.reduceEqDiff, Nat.reduceLeDiff, nl_0, nl_1, nl_3, nl_10, nl_12, nl_13, nl_16, nl_256, no_1, no_1024, pk_mul, nI_add, nm_ck, nI_clamp, nI_ltI, nI_leI, nI_eq, nb_b2, nb_b1, ↓nb_let, nm_z0, nm_z1, nb_II, nb_IR, nb_RI, nb_RR, nm_IL, nm_IQ, nm_RL, nm_RQ, nm_LI, nm_LR, nm_LL, nm_LQ, nm_QI, nm_QR, nm_QL, nm_QQ, nm_rr, nm_ii, nm_eqm, not_false_eq_true, pk_sub, nm_div, nm_shl, nm_shr, nm_ush, nm_or8, nm_or64, nm_or256, nm_m1, nm_m3, nm_m7, nm_m15, nm_m31, nm_m63, nm_m255, nm_m511, nm_m1023, nm_m2047, nm_m65535, Nat.reduceMod, Nat.reducePow, Nat.reduceAdd, Nat.reduceSub, Nat.reduceMul, nm_bo, nm_bi, nm_rc, nm_ic, nm_ri, nm_rl, nm_rq, nm_ql, nm_qi, nm_li, nm_us, nm_uu, nm_cp, nm_sa31, nm_sa7, nm_m127, nm_m2, nm_nz, nm_nzk, nm_eq32, nm_nzf, if_true, if_false, ↓reduceIte, if_pos, if_neg]
      rw [e1, e2]
      exact cO_w h (Or.inl h17)
  · rw [cv_1 x1] at c1 c2
    have e1 : df_X5_waitForChild n (nI p) K = some (-10, K) := by simp (disch := (first | assumption | decide | omega)) only [df_X5_waitForChild_0, df_X5_waitForChild, c1, z0, eq_self, Nat.reduceEqDiff, Nat.reduceLeDiff, nl_0, nl_1, nl_2, nl_6, nl_7, nl_10, nl_112, nl_256, nl_1099511627776, no_1, no_1024, pk_mul, nI_add, nm_ck, nI_clamp, nI_ltI, nI_leI, nI_eq, nb_b2, nb_b1, ↓nb_let, nm_z0, nm_z1, nb_II, nb_IR, nb_RI, nb_RR, nm_IL, nm_IQ, nm_RL, nm_RQ, nm_LI, nm_LR, nm_LL, nm_LQ, nm_QI, nm_QR, nm_QL, nm_QQ, nm_rr, nm_ii, nm_eqm, not_false_eq_true, pk_sub, nm_div, nm_shl, nm_shr, nm_ush, nm_or8, nm_or64, nm_or256, nm_m1, nm_m3, nm_m7, nm_m15, nm_m31, nm_m63, nm_m255, nm_m511, nm_m1023, nm_m2047, nm_m65535, Nat.reduceMod, Nat.reducePow, Nat.reduceAdd, Nat.reduceSub, Nat.reduceMul, nm_bo, nm_bi, nm_rc, nm_ic, nm_ri, nm_rl, nm_rq, nm_ql, nm_qi, nm_li, nm_us, nm_uu, nm_cp, nm_sa31, nm_sa7, nm_m127, nm_m2, nm_nz, nm_nzk, nm_eq32, nm_nzf, if_true, if_false, ↓reduceIte, if_pos, if_neg]
    have e2 : df_X16_waitFor n X = some (-nI 10, X) := by simp (disch := (first | assumption | decide | omega)) only [df_X16_waitFor_0, df_X16_waitFor, h3, c2, eq_self, Nat.reduceEqDiff, Nat.reduceLeDiff, nl_0, nl_1, nl_3, nl_10, nl_12, nl_16, nl_256, no_1, no_1024, pk_mul, nI_add, nm_ck, nI_clamp, nI_ltI, nI_leI, nI_eq, nb_b2, nb_b1, ↓nb_let, nm_z0, nm_z1, nb_II, nb_IR, nb_RI, nb_RR, nm_IL, nm_IQ, nm_RL, nm_RQ, nm_LI, nm_LR, nm_LL, nm_LQ, nm_QI, nm_QR, nm_QL, nm_QQ, nm_rr, nm_ii, nm_eqm, not_false_eq_true, pk_sub, nm_div, nm_shl, nm_shr, nm_ush, nm_or8, nm_or64, nm_or256, nm_m1, nm_m3, nm_m7, nm_m15, nm_m31, nm_m63, nm_m255, nm_m511, nm_m1023, nm_m2047, nm_m65535, Nat.reduceMod, Nat.reducePow, Nat.reduceAdd, Nat.reduceSub, Nat.reduceMul, nm_bo, nm_bi, nm_rc, nm_ic, nm_ri, nm_rl, nm_rq, nm_ql, nm_qi, nm_li, nm_us, nm_uu, nm_cp, nm_sa31, nm_sa7, nm_m127, nm_m2, nm_nz, nm_nzk, nm_eq32, nm_nzf, if_true, if_false, ↓reduceIte, if_pos, if_neg]
    rw [e1, e2]
    exact cO_id h (by decide)
