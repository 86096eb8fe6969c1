/-- the reference's rows that a child's end leaves -/
def fX (X t : St × St) : Prop := t.2 = X.2 ∧ (∀ i : Nat, sI t.1 i = sI X.1 i) ∧ (∀ i : Nat, sL t.1 i = sL X.1 i) ∧ ∀ i : Nat, i = 0 ∨ 14 ≤ i → sR t.1 i = sR X.1 i
theorem fX_r (X : St × St) : fX X X := ⟨rfl, fun _ => rfl, fun _ => rfl, fun _ _ => rfl⟩
theorem fX_t {X Y Z : St × St} (h : fX X Y) (g : fX Y Z) : fX X Z := ⟨g.1.trans h.1, fun i => (g.2.1 i).trans (h.2.1 i), fun i => (g.2.2.1 i).trans (h.2.2.1 i), fun i hi => (g.2.2.2 i hi).trans (h.2.2.2 i hi)⟩
theorem fl_id {f : Nat → Int32} {a k : Nat} {v : Int32} (h : ∀ j : Nat, j < k → f (a + j) = v) : fl f a k v = f := by
  funext j
  show (if a ≤ j ∧ j < a + k then v else f j) = f j
  by_cases c : a ≤ j ∧ j < a + k
  · rw [if_pos c, ← h (j - a) (by omega)]
    exact congrArg f (by omega)
  · rw [if_neg c]
theorem fl_o {f : Nat → Int32} {a k j : Nat} {v : Int32} (h : ¬ (a ≤ j ∧ j < a + k)) : fl f a k v j = f j := if_neg h
theorem fl_i {f : Nat → Int32} {a k j : Nat} {v : Int32} (h : a ≤ j ∧ j < a + k) : fl f a k v j = v := if_pos h
theorem ab_o {f : Nat → Int32} {p j : Nat} (h : ¬ (p * 7 ≤ j ∧ j < p * 7 + 7)) : ab f p 7 j = f j := if_neg h
theorem ab_i {f : Nat → Int32} {p i : Nat} (h : i < 7) : ab f p 7 (p * 7 + i) = if i = 1 then -nI 1 else nI 0 := by
  show (if p * 7 ≤ p * 7 + i ∧ p * 7 + i < p * 7 + 7 then (if p * 7 + i = p * 7 + 1 then -nI 1 else nI 0) else f (p * 7 + i)) = _
  rw [if_pos (by omega)]
  by_cases c : i = 1
  · rw [if_pos c, if_pos (by omega)]
  · rw [if_neg c, if_neg (by omega)]
theorem bg_r1 (X : St × St) (q i j : Nat) : sR (bg X q i j).1 1 = upd (sR X.1 1) q (nI 0) := by
  unfold bg
  rw [nm_RQ, nb_RR, if_neg (show ¬ (1 : Nat) = 14 by decide), nb_RR, if_neg (show ¬ (1 : Nat) = 13 by decide), nb_RR, if_neg (show ¬ (1 : Nat) = 12 by decide), nb_RR, if_neg (show ¬ (1 : Nat) = 11 by decide), nb_RR, if_neg (show ¬ (1 : Nat) = 10 by decide), nb_RR, if_neg (show ¬ (1 : Nat) = 9 by decide), nb_RR, if_neg (show ¬ (1 : Nat) = 8 by decide), nb_RR, if_neg (show ¬ (1 : Nat) = 7 by decide), nb_RR, if_neg (show ¬ (1 : Nat) = 6 by decide), nb_RR, if_neg (show ¬ (1 : Nat) = 5 by decide), nb_RR, if_neg (show ¬ (1 : Nat) = 4 by decide), nb_RR, if_neg (show ¬ (1 : Nat) = 3 by decide), nb_RR, if_neg (show ¬ (1 : Nat) = 2 by decide), nb_RR, if_pos rfl]
theorem bg_r2 (X : St × St) (q i j : Nat) : sR (bg X q i j).1 2 = upd (sR X.1 2) q (-nI 1) := by
  unfold bg
  rw [nm_RQ, nb_RR, if_neg (show ¬ (2 : Nat) = 14 by decide), nb_RR, if_neg (show ¬ (2 : Nat) = 13 by decide), nb_RR, if_neg (show ¬ (2 : Nat) = 12 by decide), nb_RR, if_neg (show ¬ (2 : Nat) = 11 by decide), nb_RR, if_neg (show ¬ (2 : Nat) = 10 by decide), nb_RR, if_neg (show ¬ (2 : Nat) = 9 by decide), nb_RR, if_neg (show ¬ (2 : Nat) = 8 by decide), nb_RR, if_neg (show ¬ (2 : Nat) = 7 by decide), nb_RR, if_neg (show ¬ (2 : Nat) = 6 by decide), nb_RR, if_neg (show ¬ (2 : Nat) = 5 by decide), nb_RR, if_neg (show ¬ (2 : Nat) = 4 by decide), nb_RR, if_neg (show ¬ (2 : Nat) = 3 by decide), nb_RR, if_pos rfl]
theorem bg_r3 (X : St × St) (q i j : Nat) : sR (bg X q i j).1 3 = upd (sR X.1 3) q (nI 0) := by
  unfold bg
  rw [nm_RQ, nb_RR, if_neg (show ¬ (3 : Nat) = 14 by decide), nb_RR, if_neg (show ¬ (3 : Nat) = 13 by decide), nb_RR, if_neg (show ¬ (3 : Nat) = 12 by decide), nb_RR, if_neg (show ¬ (3 : Nat) = 11 by decide), nb_RR, if_neg (show ¬ (3 : Nat) = 10 by decide), nb_RR, if_neg (show ¬ (3 : Nat) = 9 by decide), nb_RR, if_neg (show ¬ (3 : Nat) = 8 by decide), nb_RR, if_neg (show ¬ (3 : Nat) = 7 by decide), nb_RR, if_neg (show ¬ (3 : Nat) = 6 by decide), nb_RR, if_neg (show ¬ (3 : Nat) = 5 by decide), nb_RR, if_neg (show ¬ (3 : Nat) = 4 by decide), nb_RR, if_pos rfl]
theorem bg_r4 (X : St × St) (q i j : Nat) : sR (bg X q i j).1 4 = upd (sR X.1 4) q (nI 0) := by
  unfold bg
  rw [nm_RQ, nb_RR, if_neg (show ¬ (4 : Nat) = 14 by decide), nb_RR, if_neg (show ¬ (4 : Nat) = 13 by decide), nb_RR, if_neg (show ¬ (4 : Nat) = 12 by decide), nb_RR, if_neg (show ¬ (4 : Nat) = 11 by decide), nb_RR, if_neg (show ¬ (4 : Nat) = 10 by decide), nb_RR, if_neg (show ¬ (4 : Nat) = 9 by decide), nb_RR, if_neg (show ¬ (4 : Nat) = 8 by decide), nb_RR, if_neg (show ¬ (4 : Nat) = 7 by decide), nb_RR, if_neg (show ¬ (4 : Nat) = 6 by decide), nb_RR, if_neg (show ¬ (4 : Nat) = 5 by decide), nb_RR, if_pos rfl]
theorem bg_r5 (X : St × St) (q i j : Nat) : sR (bg X q i j).1 5 = upd (sR X.1 5) q (nI 0) := by
  unfold bg
  rw [nm_RQ, nb_RR, if_neg (show ¬ (5 : Nat) = 14 by decide), nb_RR, if_neg (show ¬ (5 : Nat) = 13 by decide), nb_RR, if_neg (show ¬ (5 : Nat) = 12 by decide), nb_RR, if_neg (show ¬ (5 : Nat) = 11 by decide), nb_RR, if_neg (show ¬ (5 : Nat) = 10 by decide), nb_RR, if_neg (show ¬ (5 : Nat) = 9 by decide), nb_RR, if_neg (show ¬ (5 : Nat) = 8 by decide), nb_RR, if_neg (show ¬ (5 : Nat) = 7 by decide), nb_RR, if_neg (show ¬ (5 : Nat) = 6 by decide), nb_RR, if_pos rfl]
theorem bg_r6 (X : St × St) (q i j : Nat) : sR (bg X q i j).1 6 = upd (sR X.1 6) q (nI 0) := by
  unfold bg
  rw [nm_RQ, nb_RR, if_neg (show ¬ (6 : Nat) = 14 by decide), nb_RR, if_neg (show ¬ (6 : Nat) = 13 by decide), nb_RR, if_neg (show ¬ (6 : Nat) = 12 by decide), nb_RR, if_neg (show ¬ (6 : Nat) = 11 by decide), nb_RR, if_neg (show ¬ (6 : Nat) = 10 by decide), nb_RR, if_neg (show ¬ (6 : Nat) = 9 by decide), nb_RR, if_neg (show ¬ (6 : Nat) = 8 by decide), nb_RR, if_neg (show ¬ (6 : Nat) = 7 by decide), nb_RR, if_pos rfl]
theorem bg_r7 (X : St × St) (q i j : Nat) : sR (bg X q i j).1 7 = upd (sR X.1 7) q (-nI 1) := by
  unfold bg
  rw [nm_RQ, nb_RR, if_neg (show ¬ (7 : Nat) = 14 by decide), nb_RR, if_neg (show ¬ (7 : Nat) = 13 by decide), nb_RR, if_neg (show ¬ (7 : Nat) = 12 by decide), nb_RR, if_neg (show ¬ (7 : Nat) = 11 by decide), nb_RR, if_neg (show ¬ (7 : Nat) = 10 by decide), nb_RR, if_neg (show ¬ (7 : Nat) = 9 by decide), nb_RR, if_neg (show ¬ (7 : Nat) = 8 by decide), nb_RR, if_pos rfl]
theorem bg_r8 (X : St × St) (q i j : Nat) : sR (bg X q i j).1 8 = upd (sR X.1 8) q (nI 0) := by
  unfold bg
  rw [nm_RQ, nb_RR, if_neg (show ¬ (8 : Nat) = 14 by decide), nb_RR, if_neg (show ¬ (8 : Nat) = 13 by decide), nb_RR, if_neg (show ¬ (8 : Nat) = 12 by decide), nb_RR, if_neg (show ¬ (8 : Nat) = 11 by decide), nb_RR, if_neg (show ¬ (8 : Nat) = 10 by decide), nb_RR, if_neg (show ¬ (8 : Nat) = 9 by decide), nb_RR, if_pos rfl]
theorem bg_r9 (X : St × St) (q i j : Nat) : sR (bg X q i j).1 9 = fl (sR X.1 9) (32 * q) i (nI 0) := by
  unfold bg
  rw [nm_RQ, nb_RR, if_neg (show ¬ (9 : Nat) = 14 by decide), nb_RR, if_neg (show ¬ (9 : Nat) = 13 by decide), nb_RR, if_neg (show ¬ (9 : Nat) = 12 by decide), nb_RR, if_neg (show ¬ (9 : Nat) = 11 by decide), nb_RR, if_neg (show ¬ (9 : Nat) = 10 by decide), nb_RR, if_pos rfl]
theorem bg_r10 (X : St × St) (q i j : Nat) : sR (bg X q i j).1 10 = upd (sR X.1 10) q (nI 0) := by
  unfold bg
  rw [nm_RQ, nb_RR, if_neg (show ¬ (10 : Nat) = 14 by decide), nb_RR, if_neg (show ¬ (10 : Nat) = 13 by decide), nb_RR, if_neg (show ¬ (10 : Nat) = 12 by decide), nb_RR, if_neg (show ¬ (10 : Nat) = 11 by decide), nb_RR, if_pos rfl]
theorem bg_r11 (X : St × St) (q i j : Nat) : sR (bg X q i j).1 11 = fl (sR X.1 11) (32 * q) i (nI 0) := by
  unfold bg
  rw [nm_RQ, nb_RR, if_neg (show ¬ (11 : Nat) = 14 by decide), nb_RR, if_neg (show ¬ (11 : Nat) = 13 by decide), nb_RR, if_neg (show ¬ (11 : Nat) = 12 by decide), nb_RR, if_pos rfl]
theorem bg_r12 (X : St × St) (q i j : Nat) : sR (bg X q i j).1 12 = upd (sR X.1 12) q (nI 0) := by
  unfold bg
  rw [nm_RQ, nb_RR, if_neg (show ¬ (12 : Nat) = 14 by decide), nb_RR, if_neg (show ¬ (12 : Nat) = 13 by decide), nb_RR, if_pos rfl]
theorem bg_r13 (X : St × St) (q i j : Nat) : sR (bg X q i j).1 13 = fl (sR X.1 13) (16 * q) j (nI 0) := by
  unfold bg
  rw [nm_RQ, nb_RR, if_neg (show ¬ (13 : Nat) = 14 by decide), nb_RR, if_pos rfl]
theorem bg_r14 (X : St × St) (q i j : Nat) : sR (bg X q i j).1 14 = fl (sR X.1 14) (16 * q) j (-nI 1) := by
  unfold bg
  rw [nm_RQ, nb_RR, if_pos rfl]
theorem bg_q (X : St × St) (q i j : Nat) : sQ (bg X q i j).1 0 = vp_updL (sQ X.1 0) q (-1) := by
  unfold bg
  simp only [nm_QR, nm_QQ, if_true, ↓reduceIte]
theorem bg_o (X : St × St) (q i j : Nat) {k : Nat} (h : k = 0 ∨ 15 ≤ k) : sR (bg X q i j).1 k = sR X.1 k := by
  unfold bg
  rw [nm_RQ, nb_RR, if_neg (show ¬ k = 14 by omega), nb_RR, if_neg (show ¬ k = 13 by omega), nb_RR, if_neg (show ¬ k = 12 by omega), nb_RR, if_neg (show ¬ k = 11 by omega), nb_RR, if_neg (show ¬ k = 10 by omega), nb_RR, if_neg (show ¬ k = 9 by omega), nb_RR, if_neg (show ¬ k = 8 by omega), nb_RR, if_neg (show ¬ k = 7 by omega), nb_RR, if_neg (show ¬ k = 6 by omega), nb_RR, if_neg (show ¬ k = 5 by omega), nb_RR, if_neg (show ¬ k = 4 by omega), nb_RR, if_neg (show ¬ k = 3 by omega), nb_RR, if_neg (show ¬ k = 2 by omega), nb_RR, if_neg (show ¬ k = 1 by omega)]
theorem bg_i (X : St × St) (q i j k : Nat) : sI (bg X q i j).1 k = sI X.1 k := by
  unfold bg
  simp only [nm_IQ, nb_IR]
theorem bg_l (X : St × St) (q i j k : Nat) : sL (bg X q i j).1 k = sL X.1 k := by
  unfold bg
  simp only [nm_LQ, nm_LR]
theorem bg_2' (X : St × St) (q i j : Nat) : (bg X q i j).2 = X.2 := by
  unfold bg
  rfl
theorem fX_bg {X : St × St} {q : Nat} (h : ∀ d : Nat, d < 16 → sR X.1 14 (16 * q + d) = -nI 1) : fX X (bg X q 32 16) := by
  refine ⟨bg_2' X q 32 16, fun i => bg_i X q 32 16 i, fun i => bg_l X q 32 16 i, fun i hi => ?_⟩
  by_cases c : i = 14
  · subst c
    rw [bg_r14]
    exact fl_id h
  · exact bg_o X q 32 16 (by omega)
theorem up_o {f : Nat → Int64} {i j : Nat} {v : Int64} (h : j ≠ i) : vp_updL f i v j = f j := if_neg h
/-- an absent one, in both -/
theorem rP1_ab {M X : St × St} {q : Nat} (h6 : ∀ i : Nat, i < 7 → sR M.1 6 (q * 7 + i) = if i = 1 then -nI 1 else nI 0) (x1 : sR X.1 1 q = nI 0) (x2 : sR X.1 2 q = -nI 1) (x4 : sR X.1 4 q = nI 0) (x5 : sR X.1 5 q = nI 0) (x6 : sR X.1 6 q = nI 0) (x7 : sR X.1 7 q = -nI 1) (x8 : sR X.1 8 q = nI 0) (hq : q < 16) (hf : ∀ k : Nat, k < 64 → sR X.1 16 (64 * q + k) = -nI 1) (hd : ∀ d : Nat, d < 16 → sR X.1 14 (q * 16 + d) = -nI 1) : rP1 M X q := by
  have h60 := h6 0 (by omega)
  rw [Nat.add_zero, if_neg (by omega)] at h60
  have h61 := h6 1 (by omega)
  rw [if_pos rfl] at h61
  have e := fun (i : Nat) (hi : i < 7) (h1 : i ≠ 1) => (h6 i hi).trans (if_neg h1)
  refine ⟨0, 0, 0, 0, 0, by omega, by omega, by omega, by omega, by omega, h60, x1, h61.trans x2.symm, Or.inl x2, ?_, fun z => absurd z (by omega), fun _ => e 2 (by omega) (by omega), e 3 (by omega) (by omega), x4, e 4 (by omega) (by omega), x8, e 5 (by omega) (by omega), x5, e 6 (by omega) (by omega), x6, fun k hk _ => hf k (by omega), fun z => absurd rfl z, fun z => by omega, fun _ => ⟨hf, hd⟩, fun z => absurd z (by omega), fun _ => x7⟩
  rw [x2]
  exact fun z => nk_ne (by omega) z.symm
theorem agX_bg {X : St × St} {q r : Nat} (hne : r ≠ q) : agX X (bg X q 32 16) r := by
  unfold agX
  rw [bg_r1, bg_r2, bg_r3, bg_r4, bg_r5, bg_r6, bg_r7, bg_r8, bg_r9, bg_r10, bg_r11, bg_r12, bg_r13, bg_r14, bg_o X q 32 16 (Or.inr (show 15 ≤ 16 by omega)), bg_q]
  exact ⟨⟨nm_un hne, nm_un hne, nm_un hne, nm_un hne, nm_un hne, nm_un hne, nm_un hne, nm_un hne⟩, fun i hi => fl_o (by omega), nm_un hne, fun i hi => fl_o (by omega), nm_un hne, fun i hi => fl_o (by omega), fun i hi => fl_o (by omega), fun _ _ => Iff.rfl, up_o hne⟩
/-- an absent one as 'begin' leaves it -/
theorem rP1_bg {M X : St × St} {q : Nat} (h6 : ∀ i : Nat, i < 7 → sR M.1 6 (q * 7 + i) = if i = 1 then -nI 1 else nI 0) (hq : q < 16) (hf : ∀ k : Nat, k < 64 → sR X.1 16 (64 * q + k) = -nI 1) : rP1 M (bg X q 32 16) q := by
  refine rP1_ab h6 ?_ ?_ ?_ ?_ ?_ ?_ ?_ hq (fun k hk => ?_) (fun d hd => ?_)
  · rw [bg_r1, nm_us]
  · rw [bg_r2, nm_us]
  · rw [bg_r4, nm_us]
  · rw [bg_r5, nm_us]
  · rw [bg_r6, nm_us]
  · rw [bg_r7, nm_us]
  · rw [bg_r8, nm_us]
  · rw [bg_o X q 32 16 (Or.inr (show 15 ≤ 16 by omega))]; exact hf k hk
  · rw [bg_r14, Nat.mul_comm q 16]
    exact fl_i (by omega)
/-- one turn of the loop over the children -/
theorem fin_t (n : Nat) (hn : 1024 < n) {s t : St × St} {p q : Nat} (hp : p < 16) (hq : q < 16) (cod : Int32) (h : rP1 s t q) : ∃ s' t' : St × St, (∀ g : Int32 → Int32 → Int32 → St × St → Option (St × St), dF_X6_finish_30 n g (nI p) cod (nI q) s = g (nI p) cod (nI (q + 1)) s' ∧ dF_X16_end_37 n g (nI p) cod (nI q) t = g (nI p) cod (nI (q + 1)) t') ∧ rP1 s' t' q ∧ (∀ r : Nat, r ≠ q → agM s s' r ∧ agX t t' r) ∧ (∃ sf : Nat → Int32, s' = (pR s.1 6 sf, s.2)) ∧ fX t t' ∧ (sR t'.1 1 q = nI 2 ↔ sR t.1 1 q = nI 2) ∧ (sR t.1 1 q = nI 1 → sR t'.1 1 q = nI 1) := by
  have h0 := h
  obtain ⟨k, c, w, b, e, hk, hc, hw, hb, he, a1, a2, a3, a4, a5, a6, a7, a8, a9, a10, a11, a12, a13, a14, a15, a16, a17, a18, a19, a20, a21⟩ := h
  have u1 : q * 7 < 112 := by omega
  have u2 : q * 7 + 1 < 112 := by omega
  have u3 : q < 2 ^ 31 := by omega
  have u4 : k < 2 ^ 31 := by omega
  have u5 : q * 7 < 2 ^ 31 := by omega
  have u6 : q * 7 + 1 < 2 ^ 31 := by omega
  have q16 : ¬ 16 ≤ q := by omega
  by_cases k0 : k = 0
  · refine ⟨s, t, fun g => ⟨?_, ?_⟩, h0, fun r _ => ⟨agM_r s r, agX_r t r⟩, ⟨sR s.1 6, by rw [nm_r0]⟩, fX_r t, Iff.rfl, id⟩
    · subst k0
      simp (disch := (first | assumption | decide | omega)) only [dF_X6_finish_30, df_X6_finish_88, df_X6_status_0, df_X6_status, q16, Nat.add_zero, a1, eq_self, Nat.reduceEqDiff, Nat.reduceLeDiff, nl_0, nl_1, nl_2, nl_3, nl_6, nl_7, nl_16, nl_112, nl_255, no_1, no_1024, pk_mul, nI_add, nm_ck, nI_clamp, nI_ltI, nI_leI, nI_eq, nb_b2, nb_b1, ↓nb_let, nm_z0, nm_z1, nb_II, nb_IR, nb_RI, nb_RR, nm_IL, nm_IQ, nm_RL, nm_RQ, nm_LI, nm_LR, nm_LL, nm_LQ, nm_QI, nm_QR, nm_QL, nm_QQ, nm_rr, nm_ii, nm_eqm, not_false_eq_true, pk_sub, nm_div, nm_shl, nm_shr, nm_ush, nm_or8, nm_or64, nm_or256, nm_m1, nm_m3, nm_m7, nm_m15, nm_m31, nm_m63, nm_m255, nm_m511, nm_m1023, nm_m2047, nm_m65535, Nat.reduceMod, Nat.reducePow, Nat.reduceAdd, Nat.reduceSub, Nat.reduceMul, nm_bo, nm_bi, nm_rc, nm_ic, nm_ri, nm_rl, nm_rq, nm_ql, nm_qi, nm_li, nm_us, nm_uu, nm_cp, nm_sa31, nm_sa7, nm_m127, nm_m2, nm_nz, nm_nzk, nm_eq32, nm_nzf, if_true, if_false, ↓reduceIte, if_pos, if_neg]
    · subst k0
      simp (disch := (first | assumption | decide | omega)) only [dF_X16_end_37, df_X16_end_87, q16, a2, eq_self, Nat.reduceEqDiff, Nat.reduceLeDiff, nl_0, nl_1, nl_2, nl_3, nl_4, nl_5, nl_6, nl_7, nl_8, nl_16, no_1, no_1024, pk_mul, nI_add, nm_ck, nI_clamp, nI_ltI, nI_leI, nI_eq, nb_b2, nb_b1, ↓nb_let, nm_z0, nm_z1, nb_II, nb_IR, nb_RI, nb_RR, nm_IL, nm_IQ, nm_RL, nm_RQ, nm_LI, nm_LR, nm_LL, nm_LQ, nm_QI, nm_QR, nm_QL, nm_QQ, nm_rr, nm_ii, nm_eqm, not_false_eq_true, pk_sub, nm_div, nm_shl, nm_shr, nm_ush, nm_or8, nm_or64, nm_or256, nm_m1, nm_m3, nm_m7, nm_m15, nm_m31, nm_m63, nm_m255, nm_m511, nm_m1023, nm_m2047, nm_m65535, Nat.reduceMod, Nat.reducePow, Nat.reduceAdd, Nat.reduceSub, Nat.reduceMul, nm_bo, nm_bi, nm_rc, nm_ic, nm_ri, nm_rl, nm_rq, nm_ql, nm_qi, nm_li, nm_us, nm_uu, nm_cp, nm_sa31, nm_sa7, nm_m127, nm_m2, nm_nz, nm_nzk, nm_eq32, nm_nzf, if_true, if_false, ↓reduceIte, if_pos, if_neg]
  · by_cases kp : sR t.1 2 q = nI p
    · have a3 := a3.trans kp
      by_cases k3 : k = 3
      · subst k3
        have d16 : ∀ d : Nat, d < 16 → sR t.1 14 (16 * q + d) = -nI 1 := fun d hd => by
          have := (a19 (Or.inr rfl)).2 d hd
          rw [Nat.mul_comm q 16] at this
          exact this
        have mk := nk_makeAbsent n hn s hq
        have be := nk_begin n hn (pR t.1 2 (upd (sR t.1 2) q (-nI 1)), t.2) hq
        refine ⟨(pR s.1 6 (ab (sR s.1 6) q 7), s.2), bg (pR t.1 2 (upd (sR t.1 2) q (-nI 1)), t.2) q 32 16, fun g => ⟨?_, ?_⟩, ?_, fun r hr => ⟨⟨fun i hi => ab_o (by omega), fun _ _ => rfl, fun _ _ => rfl, fun _ _ => rfl, rfl⟩, ?_⟩, ⟨_, rfl⟩, ?_, ?_, fun z => ?_⟩
        · simp (disch := (first | assumption | decide | omega)) only [dF_X6_finish_30, df_X6_finish_88, df_X6_status_0, df_X6_status, q16, Nat.add_zero, a1, a3, mk, eq_self, Nat.reduceEqDiff, Nat.reduceLeDiff, nl_0, nl_1, nl_2, nl_3, nl_6, nl_7, nl_16, nl_112, nl_255, no_1, no_1024, pk_mul, nI_add, nm_ck, nI_clamp, nI_ltI, nI_leI, nI_eq, nb_b2, nb_b1, ↓nb_let, nm_z0, nm_z1, nb_II, nb_IR, nb_RI, nb_RR, nm_IL, nm_IQ, nm_RL, nm_RQ, nm_LI, nm_LR, nm_LL, nm_LQ, nm_QI, nm_QR, nm_QL, nm_QQ, nm_rr, nm_ii, nm_eqm, not_false_eq_true, pk_sub, nm_div, nm_shl, nm_shr, nm_ush, nm_or8, nm_or64, nm_or256, nm_m1, nm_m3, nm_m7, nm_m15, nm_m31, nm_m63, nm_m255, nm_m511, nm_m1023, nm_m2047, nm_m65535, Nat.reduceMod, Nat.reducePow, Nat.reduceAdd, Nat.reduceSub, Nat.reduceMul, nm_bo, nm_bi, nm_rc, nm_ic, nm_ri, nm_rl, nm_rq, nm_ql, nm_qi, nm_li, nm_us, nm_uu, nm_cp, nm_sa31, nm_sa7, nm_m127, nm_m2, nm_nz, nm_nzk, nm_eq32, nm_nzf, if_true, if_false, ↓reduceIte, if_pos, if_neg]
        · simp (disch := (first | assumption | decide | omega)) only [dF_X16_end_37, df_X16_end_87, q16, a2, kp, be, eq_self, Nat.reduceEqDiff, Nat.reduceLeDiff, nl_0, nl_1, nl_2, nl_3, nl_4, nl_5, nl_6, nl_7, nl_8, nl_16, no_1, no_1024, pk_mul, nI_add, nm_ck, nI_clamp, nI_ltI, nI_leI, nI_eq, nb_b2, nb_b1, ↓nb_let, nm_z0, nm_z1, nb_II, nb_IR, nb_RI, nb_RR, nm_IL, nm_IQ, nm_RL, nm_RQ, nm_LI, nm_LR, nm_LL, nm_LQ, nm_QI, nm_QR, nm_QL, nm_QQ, nm_rr, nm_ii, nm_eqm, not_false_eq_true, pk_sub, nm_div, nm_shl, nm_shr, nm_ush, nm_or8, nm_or64, nm_or256, nm_m1, nm_m3, nm_m7, nm_m15, nm_m31, nm_m63, nm_m255, nm_m511, nm_m1023, nm_m2047, nm_m65535, Nat.reduceMod, Nat.reducePow, Nat.reduceAdd, Nat.reduceSub, Nat.reduceMul, nm_bo, nm_bi, nm_rc, nm_ic, nm_ri, nm_rl, nm_rq, nm_ql, nm_qi, nm_li, nm_us, nm_uu, nm_cp, nm_sa31, nm_sa7, nm_m127, nm_m2, nm_nz, nm_nzk, nm_eq32, nm_nzf, if_true, if_false, ↓reduceIte, if_pos, if_neg]
        · exact rP1_bg (fun i hi => ab_i hi) hq (a19 (Or.inr rfl)).1
        · exact agX_t (X' := (pR t.1 2 (upd (sR t.1 2) q (-nI 1)), t.2)) ⟨⟨rfl, nm_un hr, rfl, rfl, rfl, rfl, rfl, rfl⟩, fun _ _ => rfl, rfl, fun _ _ => rfl, rfl, fun _ _ => rfl, fun _ _ => rfl, fun _ _ => Iff.rfl, rfl⟩ (agX_bg hr)
        · refine fX_t (Y := (pR t.1 2 (upd (sR t.1 2) q (-nI 1)), t.2)) ⟨rfl, fun _ => rfl, fun _ => rfl, fun i hi => ?_⟩ (fX_bg d16)
          show sR (pR t.1 2 _) i = _
          rw [nb_RR, if_neg (by omega)]
        · rw [bg_r1, nm_us, a2]
          decide
        · rw [a2] at z
          exact absurd z (by decide)
      · refine ⟨(pR s.1 6 (upd (sR s.1 6) (q * 7 + 1) (-nI 1)), s.2), (pR t.1 2 (upd (sR t.1 2) q (-nI 1)), t.2), fun g => ⟨?_, ?_⟩, ?_, fun r hr => ⟨⟨fun i hi => nm_un (by omega), fun _ _ => rfl, fun _ _ => rfl, fun _ _ => rfl, rfl⟩, ⟨⟨rfl, nm_un hr, rfl, rfl, rfl, rfl, rfl, rfl⟩, fun _ _ => rfl, rfl, fun _ _ => rfl, rfl, fun _ _ => rfl, fun _ _ => rfl, fun _ _ => Iff.rfl, rfl⟩⟩, ⟨_, rfl⟩, ⟨rfl, fun _ => rfl, fun _ => rfl, fun i hi => ?_⟩, Iff.rfl, id⟩
        · simp (disch := (first | assumption | decide | omega)) only [dF_X6_finish_30, df_X6_finish_88, df_X6_status_0, df_X6_status, q16, Nat.add_zero, a1, a3, k0, k3, eq_self, Nat.reduceEqDiff, Nat.reduceLeDiff, nl_0, nl_1, nl_2, nl_3, nl_6, nl_7, nl_16, nl_112, nl_255, no_1, no_1024, pk_mul, nI_add, nm_ck, nI_clamp, nI_ltI, nI_leI, nI_eq, nb_b2, nb_b1, ↓nb_let, nm_z0, nm_z1, nb_II, nb_IR, nb_RI, nb_RR, nm_IL, nm_IQ, nm_RL, nm_RQ, nm_LI, nm_LR, nm_LL, nm_LQ, nm_QI, nm_QR, nm_QL, nm_QQ, nm_rr, nm_ii, nm_eqm, not_false_eq_true, pk_sub, nm_div, nm_shl, nm_shr, nm_ush, nm_or8, nm_or64, nm_or256, nm_m1, nm_m3, nm_m7, nm_m15, nm_m31, nm_m63, nm_m255, nm_m511, nm_m1023, nm_m2047, nm_m65535, Nat.reduceMod, Nat.reducePow, Nat.reduceAdd, Nat.reduceSub, Nat.reduceMul, nm_bo, nm_bi, nm_rc, nm_ic, nm_ri, nm_rl, nm_rq, nm_ql, nm_qi, nm_li, nm_us, nm_uu, nm_cp, nm_sa31, nm_sa7, nm_m127, nm_m2, nm_nz, nm_nzk, nm_eq32, nm_nzf, if_true, if_false, ↓reduceIte, if_pos, if_neg]
        · simp (disch := (first | assumption | decide | omega)) only [dF_X16_end_37, df_X16_end_87, q16, a2, kp, k0, k3, eq_self, Nat.reduceEqDiff, Nat.reduceLeDiff, nl_0, nl_1, nl_2, nl_3, nl_4, nl_5, nl_6, nl_7, nl_8, nl_16, no_1, no_1024, pk_mul, nI_add, nm_ck, nI_clamp, nI_ltI, nI_leI, nI_eq, nb_b2, nb_b1, ↓nb_let, nm_z0, nm_z1, nb_II, nb_IR, nb_RI, nb_RR, nm_IL, nm_IQ, nm_RL, nm_RQ, nm_LI, nm_LR, nm_LL, nm_LQ, nm_QI, nm_QR, nm_QL, nm_QQ, nm_rr, nm_ii, nm_eqm, not_false_eq_true, pk_sub, nm_div, nm_shl, nm_shr, nm_ush, nm_or8, nm_or64, nm_or256, nm_m1, nm_m3, nm_m7, nm_m15, nm_m31, nm_m63, nm_m255, nm_m511, nm_m1023, nm_m2047, nm_m65535, Nat.reduceMod, Nat.reducePow, Nat.reduceAdd, Nat.reduceSub, Nat.reduceMul, nm_bo, nm_bi, nm_rc, nm_ic, nm_ri, nm_rl, nm_rq, nm_ql, nm_qi, nm_li, nm_us, nm_uu, nm_cp, nm_sa31, nm_sa7, nm_m127, nm_m2, nm_nz, nm_nzk, nm_eq32, nm_nzf, if_true, if_false, ↓reduceIte, if_pos, if_neg]
        · refine ⟨k, c, w, b, e, hk, hc, hw, hb, he, (nm_un (by omega)).trans a1, a2, nm_us.trans nm_us.symm, Or.inl nm_us, ?_, fun z => absurd z k3, fun z => (nm_un (by omega)).trans (a7 z), (nm_un (by omega)).trans a8, a9, (nm_un (by omega)).trans a10, a11, (nm_un (by omega)).trans a12, a13, (nm_un (by omega)).trans a14, a15, a16, a17, a18, a19, a20, a21⟩
          show ¬ upd _ q _ q = _
          rw [nm_us]
          exact fun z => nk_ne (by omega) z.symm
        · show sR (pR t.1 2 _) i = _
          rw [nb_RR, if_neg (by omega)]
    · have a3' : ¬ sR s.1 6 (q * 7 + 1) = nI p := fun z => kp (a3.symm.trans z)
      refine ⟨s, t, fun g => ⟨?_, ?_⟩, h0, fun r _ => ⟨agM_r s r, agX_r t r⟩, ⟨sR s.1 6, by rw [nm_r0]⟩, fX_r t, Iff.rfl, id⟩
      · simp (disch := (first | assumption | decide | omega)) only [dF_X6_finish_30, df_X6_finish_88, df_X6_status_0, df_X6_status, q16, Nat.add_zero, a1, a3', k0, eq_self, Nat.reduceEqDiff, Nat.reduceLeDiff, nl_0, nl_1, nl_2, nl_3, nl_6, nl_7, nl_16, nl_112, nl_255, no_1, no_1024, pk_mul, nI_add, nm_ck, nI_clamp, nI_ltI, nI_leI, nI_eq, nb_b2, nb_b1, ↓nb_let, nm_z0, nm_z1, nb_II, nb_IR, nb_RI, nb_RR, nm_IL, nm_IQ, nm_RL, nm_RQ, nm_LI, nm_LR, nm_LL, nm_LQ, nm_QI, nm_QR, nm_QL, nm_QQ, nm_rr, nm_ii, nm_eqm, not_false_eq_true, pk_sub, nm_div, nm_shl, nm_shr, nm_ush, nm_or8, nm_or64, nm_or256, nm_m1, nm_m3, nm_m7, nm_m15, nm_m31, nm_m63, nm_m255, nm_m511, nm_m1023, nm_m2047, nm_m65535, Nat.reduceMod, Nat.reducePow, Nat.reduceAdd, Nat.reduceSub, Nat.reduceMul, nm_bo, nm_bi, nm_rc, nm_ic, nm_ri, nm_rl, nm_rq, nm_ql, nm_qi, nm_li, nm_us, nm_uu, nm_cp, nm_sa31, nm_sa7, nm_m127, nm_m2, nm_nz, nm_nzk, nm_eq32, nm_nzf, if_true, if_false, ↓reduceIte, if_pos, if_neg]
      · simp (disch := (first | assumption | decide | omega)) only [dF_X16_end_37, df_X16_end_87, q16, a2, kp, k0, eq_self, Nat.reduceEqDiff, Nat.reduceLeDiff, nl_0, nl_1, nl_2, nl_3, nl_4, nl_5, nl_6, nl_7, nl_8, nl_16, no_1, no_1024, pk_mul, nI_add, nm_ck, nI_clamp, nI_ltI, nI_leI, nI_eq, nb_b2, nb_b1, ↓nb_let, nm_z0, nm_z1, nb_II, nb_IR, nb_RI, nb_RR, nm_IL, nm_IQ, nm_RL, nm_RQ, nm_LI, nm_LR, nm_LL, nm_LQ, nm_QI, nm_QR, nm_QL, nm_QQ, nm_rr, nm_ii, nm_eqm, not_false_eq_true, pk_sub, nm_div, nm_shl, nm_shr, nm_ush, nm_or8, nm_or64, nm_or256, nm_m1, nm_m3, nm_m7, nm_m15, nm_m31, nm_m63, nm_m255, nm_m511, nm_m1023, nm_m2047, nm_m65535, Nat.reduceMod, Nat.reducePow, Nat.reduceAdd, Nat.reduceSub, Nat.reduceMul, nm_bo, nm_bi, nm_rc, nm_ic, nm_ri, nm_rl, nm_rq, nm_ql, nm_qi, nm_li, nm_us, nm_uu, nm_cp, nm_sa31, nm_sa7, nm_m127, nm_m2, nm_nz, nm_nzk, nm_eq32, nm_nzf, if_true, if_false, ↓reduceIte, if_pos, if_neg]
