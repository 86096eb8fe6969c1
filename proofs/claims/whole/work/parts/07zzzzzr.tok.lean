/-- one token, in both -/
def qS (z : Nat → Nat) (L p : Nat) : Nat := fN (fun i => !decide (z i = 32)) p (L - p)
def eS (z : Nat → Nat) (L q : Nat) : Nat := fN (fun i => !(aD (z i) || aL (z i))) q (L - q)
theorem qS_1 (z : Nat → Nat) {L p : Nat} (h : p ≤ L) : p ≤ qS z L p ∧ qS z L p ≤ L ∧ (qS z L p < L → ¬ z (qS z L p) = 32) := by
  obtain ⟨a, b, c, _⟩ := fN_le (fun i => !decide (z i = 32)) (L - p) p
  refine ⟨a, by unfold qS; omega, fun h2 z2 => ?_⟩
  have := c (by unfold qS at h2; omega)
  have z2 : z (fN (fun i => !decide (z i = 32)) p (L - p)) = 32 := z2
  rw [z2] at this
  exact absurd this (by decide)
theorem eS_1 (z : Nat → Nat) {L q : Nat} (h : q < L) (ha : (aD (z q) || aL (z q)) = true) : q < eS z L q ∧ eS z L q ≤ L ∧ (eS z L q < L → (aD (z (eS z L q)) || aL (z (eS z L q))) = false) := by
  obtain ⟨a, b, c, _⟩ := fN_le (fun i => !(aD (z i) || aL (z i))) (L - q) q
  have d : ¬ fN (fun i => !(aD (z i) || aL (z i))) q (L - q) = q := fun e => by
    have := c (by omega)
    rw [e, ha] at this
    exact absurd this (by decide)
  refine ⟨by unfold eS; omega, by unfold eS; omega, fun h2 => ?_⟩
  have := c (by unfold eS at h2; omega)
  have e : (!(aD (z (eS z L q)) || aL (z (eS z L q)))) = true := this
  cases hh : (aD (z (eS z L q)) || aL (z (eS z L q))) with
  | true => rw [hh] at e; exact absurd e (by decide)
  | false => rfl
theorem nx_sk (n Tp L p : Nat) {z : Nat → Nat} {tpe : St} {B : St} {cs tp os kd fr ft pt : Nat} {nm : Int64} {C S SA F T : Nat → Int32} {A : Nat → Int64} (hO : sO B 0 = some Tp) (h4 : sI B 4 = nI L) (hL : L ≤ 120) (hn : 130 < n) (hz : ∀ i : Nat, i < L → 32 ≤ z i ∧ z i ≤ 126) (ht : ∀ i : Nat, i < L → sR tpe 0 i = nI (z i)) (hp : p ≤ L) : df_X2_next n Tp (tpe, mC B cs tp os p kd fr ft pt nm C S SA F T A) = df_X2_next_38 n Tp (tpe, mC B cs tp os (qS z L p) kd fr ft pt nm C S SA F T A) := by
  obtain ⟨q1, q2, q3⟩ := qS_1 z hp
  obtain ⟨m, e⟩ := nm_ls (fun g i => df_X2_next_0 n Tp g (tpe, mC B cs tp os i kd fr ft pt nm C S SA F T A)) (fun i => !decide (z i = 32)) p (L - p) n (by omega) (fun k m h1 h2 h3 => by
    have hk : k < L := by omega
    have e : z k = 32 := Classical.byContradiction fun y => by
      have h3 : (!decide (z k = 32)) = false := h3
      rw [decide_eq_false y] at h3
      exact absurd h3 (by decide)
    have t := ht k hk
    rw [e] at t
    show df_X2_next_0 n Tp (m + 1) (tpe, mC B cs tp os k kd fr ft pt nm C S SA F T A) = df_X2_next_0 n Tp m (tpe, mC B cs tp os (k + 1) kd fr ft pt nm C S SA F T A)
    simp (disch := (first | assumption | decide | omega)) only [(show df_X2_next_0 n Tp (m + 1) = dF_X2_next_0 n Tp (df_X2_next_0 n Tp m) from rfl), dF_X2_next_0, mC_i0, mC_i1, mC_i2, mC_i5, mC_i6, mC_i7, mC_i8, mC_i9, mC_l, mC_r0, mC_r1, mC_r2, mC_r3, mC_r4, mC_q, mC_o, mC_i4, mC_wi0, mC_wi1, mC_wi2, mC_wi5, mC_wi6, mC_wi7, mC_wi8, mC_wi9, mC_wl, mC_wr0, mC_wr1, mC_wr2, mC_wr3, mC_wr4, mC_wq, hO, oT, h4, t, eq_self, Nat.reduceEqDiff, Nat.reduceLeDiff, nl_0, nl_1, nl_4, nl_5, nl_32, nl_32768, no_1, no_1024, pk_mul, nI_add, nm_ck, nI_clamp, nI_ltI, nI_leI, nI_eq, nb_b2, nb_b1, ↓nb_let, nm_z0, nm_z1, nb_II, nb_IR, nb_RI, nb_RR, nm_IL, nm_IQ, nm_RL, nm_RQ, nm_LI, nm_LR, nm_LL, nm_LQ, nm_QI, nm_QR, nm_QL, nm_QQ, nm_rr, nm_ii, nm_eqm, not_false_eq_true, pk_sub, nm_div, nm_shl, nm_shr, nm_ush, nm_or8, nm_or64, nm_or256, nm_m1, nm_m3, nm_m7, nm_m15, nm_m31, nm_m63, nm_m255, nm_m511, nm_m1023, nm_m2047, nm_m65535, Nat.reduceMod, Nat.reducePow, Nat.reduceAdd, Nat.reduceSub, Nat.reduceMul, nm_bo, nm_bi, nm_rc, nm_ic, nm_ri, nm_rl, nm_rq, nm_ql, nm_qi, nm_li, nm_us, nm_uu, nm_cp, nm_sa31, nm_sa7, nm_m127, nm_m2, nm_nz, nm_nzk, nm_eq32, nm_nzf, if_true, if_false, ↓reduceIte, if_pos, if_neg])
  refine Eq.trans (show _ = df_X2_next_0 n Tp n (tpe, mC B cs tp os p kd fr ft pt nm C S SA F T A) from rfl) (Eq.trans e ?_)
  show df_X2_next_0 n Tp (m + 1) (tpe, mC B cs tp os (qS z L p) kd fr ft pt nm C S SA F T A) = _
  generalize qS z L p = q at q1 q2 q3
  by_cases y : q < L
  · have t := ht q y
    have y2 := q3 y
    have y3 : z q < 2 ^ 31 := by have := hz q y; omega
    show dF_X2_next_0 n Tp (df_X2_next_0 n Tp m) (tpe, mC B cs tp os q kd fr ft pt nm C S SA F T A) = _
    unfold dF_X2_next_0
    simp (disch := (first | assumption | decide | omega)) only [mC_i0, mC_i1, mC_i2, mC_i5, mC_i6, mC_i7, mC_i8, mC_i9, mC_l, mC_r0, mC_r1, mC_r2, mC_r3, mC_r4, mC_q, mC_o, mC_i4, mC_wi0, mC_wi1, mC_wi2, mC_wi5, mC_wi6, mC_wi7, mC_wi8, mC_wi9, mC_wl, mC_wr0, mC_wr1, mC_wr2, mC_wr3, mC_wr4, mC_wq, hO, oT, h4, t, eq_self, Nat.reduceEqDiff, Nat.reduceLeDiff, nl_32, no_1, no_1024, pk_mul, nI_add, nm_ck, nI_clamp, nI_ltI, nI_leI, nI_eq, nb_b2, nb_b1, ↓nb_let, nm_z0, nm_z1, nb_II, nb_IR, nb_RI, nb_RR, nm_IL, nm_IQ, nm_RL, nm_RQ, nm_LI, nm_LR, nm_LL, nm_LQ, nm_QI, nm_QR, nm_QL, nm_QQ, nm_rr, nm_ii, nm_eqm, not_false_eq_true, pk_sub, nm_div, nm_shl, nm_shr, nm_ush, nm_or8, nm_or64, nm_or256, nm_m1, nm_m3, nm_m7, nm_m15, nm_m31, nm_m63, nm_m255, nm_m511, nm_m1023, nm_m2047, nm_m65535, Nat.reduceMod, Nat.reducePow, Nat.reduceAdd, Nat.reduceSub, Nat.reduceMul, nm_bo, nm_bi, nm_rc, nm_ic, nm_ri, nm_rl, nm_rq, nm_ql, nm_qi, nm_li, nm_us, nm_uu, nm_cp, nm_sa31, nm_sa7, nm_m127, nm_m2, nm_nz, nm_nzk, nm_eq32, nm_nzf, if_true, if_false, ↓reduceIte, if_pos, if_neg]
  · have y : q = L := by omega
    subst y
    show dF_X2_next_0 n Tp (df_X2_next_0 n Tp m) (tpe, mC B cs tp os q kd fr ft pt nm C S SA F T A) = _
    unfold dF_X2_next_0
    simp (disch := (first | assumption | decide | omega)) only [mC_i0, mC_i1, mC_i2, mC_i5, mC_i6, mC_i7, mC_i8, mC_i9, mC_l, mC_r0, mC_r1, mC_r2, mC_r3, mC_r4, mC_q, mC_o, mC_i4, mC_wi0, mC_wi1, mC_wi2, mC_wi5, mC_wi6, mC_wi7, mC_wi8, mC_wi9, mC_wl, mC_wr0, mC_wr1, mC_wr2, mC_wr3, mC_wr4, mC_wq, hO, oT, h4, eq_self, Nat.reduceEqDiff, Nat.reduceLeDiff, no_1, no_1024, pk_mul, nI_add, nm_ck, nI_clamp, nI_ltI, nI_leI, nI_eq, nb_b2, nb_b1, ↓nb_let, nm_z0, nm_z1, nb_II, nb_IR, nb_RI, nb_RR, nm_IL, nm_IQ, nm_RL, nm_RQ, nm_LI, nm_LR, nm_LL, nm_LQ, nm_QI, nm_QR, nm_QL, nm_QQ, nm_rr, nm_ii, nm_eqm, not_false_eq_true, pk_sub, nm_div, nm_shl, nm_shr, nm_ush, nm_or8, nm_or64, nm_or256, nm_m1, nm_m3, nm_m7, nm_m15, nm_m31, nm_m63, nm_m255, nm_m511, nm_m1023, nm_m2047, nm_m65535, Nat.reduceMod, Nat.reducePow, Nat.reduceAdd, Nat.reduceSub, Nat.reduceMul, nm_bo, nm_bi, nm_rc, nm_ic, nm_ri, nm_rl, nm_rq, nm_ql, nm_qi, nm_li, nm_us, nm_uu, nm_cp, nm_sa31, nm_sa7, nm_m127, nm_m2, nm_nz, nm_nzk, nm_eq32, nm_nzf, if_true, if_false, ↓reduceIte, if_pos, if_neg]
theorem nx_0 (n Tp L : Nat) {z : Nat → Nat} {tpe : St} {B : St} {cs tp os kd fr ft pt : Nat} {nm : Int64} {C S SA F T : Nat → Int32} {A : Nat → Int64} (hO : sO B 0 = some Tp) (h4 : sI B 4 = nI L) (hL : L ≤ 120) (hn : 130 < n) (hz : ∀ i : Nat, i < L → 32 ≤ z i ∧ z i ≤ 126) (ht : ∀ i : Nat, i < L → sR tpe 0 i = nI (z i)) : df_X2_next_38 n Tp (tpe, mC B cs tp os L kd fr ft pt nm C S SA F T A) = some (tpe, mC B cs tp os L 0 L ft pt nm C S SA F T A) := by
  simp (disch := (first | assumption | decide | omega)) only [df_X2_next_38, mC_i0, mC_i1, mC_i2, mC_i5, mC_i6, mC_i7, mC_i8, mC_i9, mC_l, mC_r0, mC_r1, mC_r2, mC_r3, mC_r4, mC_q, mC_o, mC_i4, mC_wi0, mC_wi1, mC_wi2, mC_wi5, mC_wi6, mC_wi7, mC_wi8, mC_wi9, mC_wl, mC_wr0, mC_wr1, mC_wr2, mC_wr3, mC_wr4, mC_wq, hO, oT, h4, eq_self, Nat.reduceEqDiff, Nat.reduceLeDiff, nl_0, nl_1, nl_4, nl_5, nl_6, nl_7, nl_32768, no_1, no_1024, pk_mul, nI_add, nm_ck, nI_clamp, nI_ltI, nI_leI, nI_eq, nb_b2, nb_b1, ↓nb_let, nm_z0, nm_z1, nb_II, nb_IR, nb_RI, nb_RR, nm_IL, nm_IQ, nm_RL, nm_RQ, nm_LI, nm_LR, nm_LL, nm_LQ, nm_QI, nm_QR, nm_QL, nm_QQ, nm_rr, nm_ii, nm_eqm, not_false_eq_true, pk_sub, nm_div, nm_shl, nm_shr, nm_ush, nm_or8, nm_or64, nm_or256, nm_m1, nm_m3, nm_m7, nm_m15, nm_m31, nm_m63, nm_m255, nm_m511, nm_m1023, nm_m2047, nm_m65535, Nat.reduceMod, Nat.reducePow, Nat.reduceAdd, Nat.reduceSub, Nat.reduceMul, nm_bo, nm_bi, nm_rc, nm_ic, nm_ri, nm_rl, nm_rq, nm_ql, nm_qi, nm_li, nm_us, nm_uu, nm_cp, nm_sa31, nm_sa7, nm_m127, nm_m2, nm_nz, nm_nzk, nm_eq32, nm_nzf, if_true, if_false, ↓reduceIte, if_pos, if_neg]
theorem nx_s (n Tp L q d : Nat) {z : Nat → Nat} {tpe : St} {B : St} {cs tp os kd fr ft pt : Nat} {nm : Int64} {C S SA F T : Nat → Int32} {A : Nat → Int64} (hO : sO B 0 = some Tp) (h4 : sI B 4 = nI L) (hL : L ≤ 120) (hn : 130 < n) (hz : ∀ i : Nat, i < L → 32 ≤ z i ∧ z i ≤ 126) (ht : ∀ i : Nat, i < L → sR tpe 0 i = nI (z i)) (hq : q < L) (hd : d = if q + 1 < L then z (q + 1) else 0) (hna : (aD (z q) || aL (z q)) = false) : df_X2_next_38 n Tp (tpe, mC B cs tp os q kd fr ft pt nm C S SA F T A) = some (tpe, mC B cs tp os (q + wid (z q) d) (if sgC (z q) d = 0 then 4 else 3) q ft pt (nI (sgC (z q) d)).toInt64 C S SA F T A) := by
  have a := hz q hq
  have d127 : d < 127 := by
    rw [hd]
    split
    · rename_i y
      have := hz (q + 1) y
      omega
    · omega
  have t := ht q hq
  have il : df_X2_isLetter n (nI (z q)) () = some (nI 0, ()) := by
    have := il_C n ⟨z q, by omega⟩
    have e : aL (z q) = false := by
      cases h : aL (z q) with
      | false => rfl
      | true => rw [h, Bool.or_true] at hna; exact absurd hna (by decide)
    exact this.trans (by show some (bI (aL (z q)), ()) = _; rw [e]; rfl)
  have idg : df_X2_isDigit n (nI (z q)) () = some (nI 0, ()) := by
    have := id_C n ⟨z q, by omega⟩
    have e : aD (z q) = false := by
      cases h : aD (z q) with
      | false => rfl
      | true => rw [h, Bool.true_or] at hna; exact absurd hna (by decide)
    exact this.trans (by show some (bI (aD (z q)), ()) = _; rw [e]; rfl)
  have st : df_X2_next_38 n Tp (tpe, mC B cs tp os q kd fr ft pt nm C S SA F T A) = df_X2_next_198 n Tp (nI (z q)) (nI d) (tpe, mC B cs tp os q kd q ft pt nm C S SA F T A) := by
    by_cases y : q + 1 < L
    · rw [if_pos y] at hd
      have t2 := ht (q + 1) y
      rw [← hd] at t2
      simp (disch := (first | assumption | decide | omega)) only [df_X2_next_38, mC_i0, mC_i1, mC_i2, mC_i5, mC_i6, mC_i7, mC_i8, mC_i9, mC_l, mC_r0, mC_r1, mC_r2, mC_r3, mC_r4, mC_q, mC_o, mC_i4, mC_wi0, mC_wi1, mC_wi2, mC_wi5, mC_wi6, mC_wi7, mC_wi8, mC_wi9, mC_wl, mC_wr0, mC_wr1, mC_wr2, mC_wr3, mC_wr4, mC_wq, hO, oT, h4, t, t2, il, idg, eq_self, Nat.reduceEqDiff, Nat.reduceLeDiff, nl_0, nl_1, nl_4, nl_5, nl_6, nl_7, nl_32768, no_1, no_1024, pk_mul, nI_add, nm_ck, nI_clamp, nI_ltI, nI_leI, nI_eq, nb_b2, nb_b1, ↓nb_let, nm_z0, nm_z1, nb_II, nb_IR, nb_RI, nb_RR, nm_IL, nm_IQ, nm_RL, nm_RQ, nm_LI, nm_LR, nm_LL, nm_LQ, nm_QI, nm_QR, nm_QL, nm_QQ, nm_rr, nm_ii, nm_eqm, not_false_eq_true, pk_sub, nm_div, nm_shl, nm_shr, nm_ush, nm_or8, nm_or64, nm_or256, nm_m1, nm_m3, nm_m7, nm_m15, nm_m31, nm_m63, nm_m255, nm_m511, nm_m1023, nm_m2047, nm_m65535, Nat.reduceMod, Nat.reducePow, Nat.reduceAdd, Nat.reduceSub, Nat.reduceMul, nm_bo, nm_bi, nm_rc, nm_ic, nm_ri, nm_rl, nm_rq, nm_ql, nm_qi, nm_li, nm_us, nm_uu, nm_cp, nm_sa31, nm_sa7, nm_m127, nm_m2, nm_nz, nm_nzk, nm_eq32, nm_nzf, if_true, if_false, ↓reduceIte, if_pos, if_neg]
    · rw [if_neg y] at hd
      subst hd
      simp (disch := (first | assumption | decide | omega)) only [df_X2_next_38, mC_i0, mC_i1, mC_i2, mC_i5, mC_i6, mC_i7, mC_i8, mC_i9, mC_l, mC_r0, mC_r1, mC_r2, mC_r3, mC_r4, mC_q, mC_o, mC_i4, mC_wi0, mC_wi1, mC_wi2, mC_wi5, mC_wi6, mC_wi7, mC_wi8, mC_wi9, mC_wl, mC_wr0, mC_wr1, mC_wr2, mC_wr3, mC_wr4, mC_wq, hO, oT, h4, t, il, idg, eq_self, Nat.reduceEqDiff, Nat.reduceLeDiff, nl_0, nl_1, nl_4, nl_5, nl_6, nl_7, nl_32768, no_1, no_1024, pk_mul, nI_add, nm_ck, nI_clamp, nI_ltI, nI_leI, nI_eq, nb_b2, nb_b1, ↓nb_let, nm_z0, nm_z1, nb_II, nb_IR, nb_RI, nb_RR, nm_IL, nm_IQ, nm_RL, nm_RQ, nm_LI, nm_LR, nm_LL, nm_LQ, nm_QI, nm_QR, nm_QL, nm_QQ, nm_rr, nm_ii, nm_eqm, not_false_eq_true, pk_sub, nm_div, nm_shl, nm_shr, nm_ush, nm_or8, nm_or64, nm_or256, nm_m1, nm_m3, nm_m7, nm_m15, nm_m31, nm_m63, nm_m255, nm_m511, nm_m1023, nm_m2047, nm_m65535, Nat.reduceMod, Nat.reducePow, Nat.reduceAdd, Nat.reduceSub, Nat.reduceMul, nm_bo, nm_bi, nm_rc, nm_ic, nm_ri, nm_rl, nm_rq, nm_ql, nm_qi, nm_li, nm_us, nm_uu, nm_cp, nm_sa31, nm_sa7, nm_m127, nm_m2, nm_nz, nm_nzk, nm_eq32, nm_nzf, if_true, if_false, ↓reduceIte, if_pos, if_neg]
  rw [st]
  have pc : df_X2_pair n (nI (z q)) (nI d) () = some (nI (pr (z q) d), ()) := pr_C n ⟨z q, by omega⟩ ⟨d, by omega⟩
  have ac : df_X2_alone n (nI (z q)) () = some (nI (al1 (z q)), ()) := al_C n ⟨z q, by omega⟩
  have p13 : pr (z q) d ≤ 13 := pr_le ⟨z q, by omega⟩ ⟨d, by omega⟩
  have sr := sg_ran ⟨z q, by omega⟩ ⟨d, by omega⟩
  have sr : sgC (z q) d ≤ 29 := by
    have sr : sgC (z q) d ≤ 19 ∨ sgC (z q) d = 21 ∨ sgC (z q) d = 22 ∨ sgC (z q) d = 25 ∨ sgC (z q) d = 28 ∨ sgC (z q) d = 29 := sr
    omega
  have c0 : lg_cmp (nI (sgC (z q) d)).toInt64 0 = nI 0 ↔ sgC (z q) d = 0 := by
    rw [lc_eq]
    constructor
    · intro h
      have h := congrArg Int64.toInt h
      rw [Int32.toInt_toInt64, nI_toInt (by omega), show (0 : Int64).toInt = 0 from rfl] at h
      omega
    · intro h
      rw [h]
      rfl
  have s2 : df_X2_next_198 n Tp (nI (z q)) (nI d) (tpe, mC B cs tp os q kd q ft pt nm C S SA F T A) = df_X2_next_220 n Tp (nI (pr (z q) d)) (nI (sgC (z q) d)).toInt64 (tpe, mC B cs tp os q kd q ft pt nm C S SA F T A) := by
    unfold df_X2_next_198 sgC
    by_cases y : pr (z q) d = 0
    · rw [if_pos y]
      rw [y] at pc ⊢
      simp (disch := (first | assumption | decide | omega)) only [pc, ac, eq_self, Nat.reduceEqDiff, Nat.reduceLeDiff, nl_0, no_1, no_1024, pk_mul, nI_add, nm_ck, nI_clamp, nI_ltI, nI_leI, nI_eq, nb_b2, nb_b1, ↓nb_let, nm_z0, nm_z1, nb_II, nb_IR, nb_RI, nb_RR, nm_IL, nm_IQ, nm_RL, nm_RQ, nm_LI, nm_LR, nm_LL, nm_LQ, nm_QI, nm_QR, nm_QL, nm_QQ, nm_rr, nm_ii, nm_eqm, not_false_eq_true, pk_sub, nm_div, nm_shl, nm_shr, nm_ush, nm_or8, nm_or64, nm_or256, nm_m1, nm_m3, nm_m7, nm_m15, nm_m31, nm_m63, nm_m255, nm_m511, nm_m1023, nm_m2047, nm_m65535, Nat.reduceMod, Nat.reducePow, Nat.reduceAdd, Nat.reduceSub, Nat.reduceMul, nm_bo, nm_bi, nm_rc, nm_ic, nm_ri, nm_rl, nm_rq, nm_ql, nm_qi, nm_li, nm_us, nm_uu, nm_cp, nm_sa31, nm_sa7, nm_m127, nm_m2, nm_nz, nm_nzk, nm_eq32, nm_nzf, if_true, if_false, ↓reduceIte, if_pos, if_neg]
    · rw [if_neg y]
      simp (disch := (first | assumption | decide | omega)) only [pc, ac, eq_self, Nat.reduceEqDiff, Nat.reduceLeDiff, nl_0, no_1, no_1024, pk_mul, nI_add, nm_ck, nI_clamp, nI_ltI, nI_leI, nI_eq, nb_b2, nb_b1, ↓nb_let, nm_z0, nm_z1, nb_II, nb_IR, nb_RI, nb_RR, nm_IL, nm_IQ, nm_RL, nm_RQ, nm_LI, nm_LR, nm_LL, nm_LQ, nm_QI, nm_QR, nm_QL, nm_QQ, nm_rr, nm_ii, nm_eqm, not_false_eq_true, pk_sub, nm_div, nm_shl, nm_shr, nm_ush, nm_or8, nm_or64, nm_or256, nm_m1, nm_m3, nm_m7, nm_m15, nm_m31, nm_m63, nm_m255, nm_m511, nm_m1023, nm_m2047, nm_m65535, Nat.reduceMod, Nat.reducePow, Nat.reduceAdd, Nat.reduceSub, Nat.reduceMul, nm_bo, nm_bi, nm_rc, nm_ic, nm_ri, nm_rl, nm_rq, nm_ql, nm_qi, nm_li, nm_us, nm_uu, nm_cp, nm_sa31, nm_sa7, nm_m127, nm_m2, nm_nz, nm_nzk, nm_eq32, nm_nzf, if_true, if_false, ↓reduceIte, if_pos, if_neg]
  rw [s2]
  unfold wid
  have e1 : (1 : Int32) = nI 1 := rfl
  by_cases y : sgC (z q) d = 0
  · have y1 := c0.mpr y
    have y2 : pr (z q) d = 0 := by
      unfold sgC at y
      split at y
      · assumption
      · rename_i h; exact absurd y h
    rw [if_pos y, if_pos y2, y2]
    simp (disch := (first | assumption | decide | omega)) only [df_X2_next_220, df_X2_next_238, df_X2_next_255, mC_i0, mC_i1, mC_i2, mC_i5, mC_i6, mC_i7, mC_i8, mC_i9, mC_l, mC_r0, mC_r1, mC_r2, mC_r3, mC_r4, mC_q, mC_o, mC_i4, mC_wi0, mC_wi1, mC_wi2, mC_wi5, mC_wi6, mC_wi7, mC_wi8, mC_wi9, mC_wl, mC_wr0, mC_wr1, mC_wr2, mC_wr3, mC_wr4, mC_wq, y1, eq_self, Nat.reduceEqDiff, Nat.reduceLeDiff, nl_0, nl_1, nl_2, nl_3, nl_4, nl_5, nl_6, no_1, no_1024, pk_mul, nI_add, nm_ck, nI_clamp, nI_ltI, nI_leI, nI_eq, nb_b2, nb_b1, ↓nb_let, nm_z0, nm_z1, nb_II, nb_IR, nb_RI, nb_RR, nm_IL, nm_IQ, nm_RL, nm_RQ, nm_LI, nm_LR, nm_LL, nm_LQ, nm_QI, nm_QR, nm_QL, nm_QQ, nm_rr, nm_ii, nm_eqm, not_false_eq_true, pk_sub, nm_div, nm_shl, nm_shr, nm_ush, nm_or8, nm_or64, nm_or256, nm_m1, nm_m3, nm_m7, nm_m15, nm_m31, nm_m63, nm_m255, nm_m511, nm_m1023, nm_m2047, nm_m65535, Nat.reduceMod, Nat.reducePow, Nat.reduceAdd, Nat.reduceSub, Nat.reduceMul, nm_bo, nm_bi, nm_rc, nm_ic, nm_ri, nm_rl, nm_rq, nm_ql, nm_qi, nm_li, nm_us, nm_uu, nm_cp, nm_sa31, nm_sa7, nm_m127, nm_m2, nm_nz, nm_nzk, nm_eq32, nm_nzf, if_true, if_false, ↓reduceIte, if_pos, if_neg]
  · have y1 := fun h => y (c0.mp h)
    rw [if_neg y]
    by_cases y2 : pr (z q) d = 0
    · rw [if_pos y2, y2]
      simp (disch := (first | assumption | decide | omega)) only [df_X2_next_220, df_X2_next_238, df_X2_next_255, mC_i0, mC_i1, mC_i2, mC_i5, mC_i6, mC_i7, mC_i8, mC_i9, mC_l, mC_r0, mC_r1, mC_r2, mC_r3, mC_r4, mC_q, mC_o, mC_i4, mC_wi0, mC_wi1, mC_wi2, mC_wi5, mC_wi6, mC_wi7, mC_wi8, mC_wi9, mC_wl, mC_wr0, mC_wr1, mC_wr2, mC_wr3, mC_wr4, mC_wq, y1, eq_self, Nat.reduceEqDiff, Nat.reduceLeDiff, nl_0, nl_1, nl_2, nl_3, nl_4, nl_5, nl_6, no_1, no_1024, pk_mul, nI_add, nm_ck, nI_clamp, nI_ltI, nI_leI, nI_eq, nb_b2, nb_b1, ↓nb_let, nm_z0, nm_z1, nb_II, nb_IR, nb_RI, nb_RR, nm_IL, nm_IQ, nm_RL, nm_RQ, nm_LI, nm_LR, nm_LL, nm_LQ, nm_QI, nm_QR, nm_QL, nm_QQ, nm_rr, nm_ii, nm_eqm, not_false_eq_true, pk_sub, nm_div, nm_shl, nm_shr, nm_ush, nm_or8, nm_or64, nm_or256, nm_m1, nm_m3, nm_m7, nm_m15, nm_m31, nm_m63, nm_m255, nm_m511, nm_m1023, nm_m2047, nm_m65535, Nat.reduceMod, Nat.reducePow, Nat.reduceAdd, Nat.reduceSub, Nat.reduceMul, nm_bo, nm_bi, nm_rc, nm_ic, nm_ri, nm_rl, nm_rq, nm_ql, nm_qi, nm_li, nm_us, nm_uu, nm_cp, nm_sa31, nm_sa7, nm_m127, nm_m2, nm_nz, nm_nzk, nm_eq32, nm_nzf, if_true, if_false, ↓reduceIte, if_pos, if_neg]
    · rw [if_neg y2]
      simp (disch := (first | assumption | decide | omega)) only [df_X2_next_220, df_X2_next_238, df_X2_next_255, mC_i0, mC_i1, mC_i2, mC_i5, mC_i6, mC_i7, mC_i8, mC_i9, mC_l, mC_r0, mC_r1, mC_r2, mC_r3, mC_r4, mC_q, mC_o, mC_i4, mC_wi0, mC_wi1, mC_wi2, mC_wi5, mC_wi6, mC_wi7, mC_wi8, mC_wi9, mC_wl, mC_wr0, mC_wr1, mC_wr2, mC_wr3, mC_wr4, mC_wq, y1, eq_self, Nat.reduceEqDiff, Nat.reduceLeDiff, nl_0, nl_1, nl_2, nl_3, nl_4, nl_5, nl_6, no_1, no_1024, pk_mul, nI_add, nm_ck, nI_clamp, nI_ltI, nI_leI, nI_eq, nb_b2, nb_b1, ↓nb_let, nm_z0, nm_z1, nb_II, nb_IR, nb_RI, nb_RR, nm_IL, nm_IQ, nm_RL, nm_RQ, nm_LI, nm_LR, nm_LL, nm_LQ, nm_QI, nm_QR, nm_QL, nm_QQ, nm_rr, nm_ii, nm_eqm, not_false_eq_true, pk_sub, nm_div, nm_shl, nm_shr, nm_ush, nm_or8, nm_or64, nm_or256, nm_m1, nm_m3, nm_m7, nm_m15, nm_m31, nm_m63, nm_m255, nm_m511, nm_m1023, nm_m2047, nm_m65535, Nat.reduceMod, Nat.reducePow, Nat.reduceAdd, Nat.reduceSub, Nat.reduceMul, nm_bo, nm_bi, nm_rc, nm_ic, nm_ri, nm_rl, nm_rq, nm_ql, nm_qi, nm_li, nm_us, nm_uu, nm_cp, nm_sa31, nm_sa7, nm_m127, nm_m2, nm_nz, nm_nzk, nm_eq32, nm_nzf, if_true, if_false, ↓reduceIte, if_pos, if_neg]
theorem nx_a (n Tp L q : Nat) {z : Nat → Nat} {tpe : St} {B : St} {cs tp os kd fr ft pt : Nat} {nm : Int64} {C S SA F T : Nat → Int32} {A : Nat → Int64} (hO : sO B 0 = some Tp) (h4 : sI B 4 = nI L) (hL : L ≤ 120) (hn : 130 < n) (hz : ∀ i : Nat, i < L → 32 ≤ z i ∧ z i ≤ 126) (ht : ∀ i : Nat, i < L → sR tpe 0 i = nI (z i)) (hq : q < L) (ha : (aD (z q) || aL (z q)) = true) : df_X2_next_38 n Tp (tpe, mC B cs tp os q kd fr ft pt nm C S SA F T A) = df_X2_next_154 n Tp (if aL (z q) = true then nI 2 else nI 1) (tpe, mC B cs tp os (eS z L q) kd q ft pt nm C S SA F T A) := by
  have a := hz q hq
  have t := ht q hq
  have il : df_X2_isLetter n (nI (z q)) () = some (bI (aL (z q)), ()) := il_C n ⟨z q, by omega⟩
  have idg : df_X2_isDigit n (nI (z q)) () = some (bI (aD (z q)), ()) := id_C n ⟨z q, by omega⟩
  have st : df_X2_next_38 n Tp (tpe, mC B cs tp os q kd fr ft pt nm C S SA F T A) = df_X2_next_87 n Tp n (nI (z q)) (tpe, mC B cs tp os q kd q ft pt nm C S SA F T A) := by
    cases h : aL (z q) with
    | true =>
      rw [h] at il
      have il : df_X2_isLetter n (nI (z q)) () = some (nI 1, ()) := il
      simp (disch := (first | assumption | decide | omega)) only [df_X2_next_38, mC_i0, mC_i1, mC_i2, mC_i5, mC_i6, mC_i7, mC_i8, mC_i9, mC_l, mC_r0, mC_r1, mC_r2, mC_r3, mC_r4, mC_q, mC_o, mC_i4, mC_wi0, mC_wi1, mC_wi2, mC_wi5, mC_wi6, mC_wi7, mC_wi8, mC_wi9, mC_wl, mC_wr0, mC_wr1, mC_wr2, mC_wr3, mC_wr4, mC_wq, hO, oT, h4, t, il, eq_self, Nat.reduceEqDiff, Nat.reduceLeDiff, nl_0, nl_1, nl_4, nl_5, nl_6, nl_7, nl_32768, no_1, no_1024, pk_mul, nI_add, nm_ck, nI_clamp, nI_ltI, nI_leI, nI_eq, nb_b2, nb_b1, ↓nb_let, nm_z0, nm_z1, nb_II, nb_IR, nb_RI, nb_RR, nm_IL, nm_IQ, nm_RL, nm_RQ, nm_LI, nm_LR, nm_LL, nm_LQ, nm_QI, nm_QR, nm_QL, nm_QQ, nm_rr, nm_ii, nm_eqm, not_false_eq_true, pk_sub, nm_div, nm_shl, nm_shr, nm_ush, nm_or8, nm_or64, nm_or256, nm_m1, nm_m3, nm_m7, nm_m15, nm_m31, nm_m63, nm_m255, nm_m511, nm_m1023, nm_m2047, nm_m65535, Nat.reduceMod, Nat.reducePow, Nat.reduceAdd, Nat.reduceSub, Nat.reduceMul, nm_bo, nm_bi, nm_rc, nm_ic, nm_ri, nm_rl, nm_rq, nm_ql, nm_qi, nm_li, nm_us, nm_uu, nm_cp, nm_sa31, nm_sa7, nm_m127, nm_m2, nm_nz, nm_nzk, nm_eq32, nm_nzf, if_true, if_false, ↓reduceIte, if_pos, if_neg]
    | false =>
      rw [h, Bool.or_false] at ha
      rw [h] at il
      rw [ha] at idg
      have il : df_X2_isLetter n (nI (z q)) () = some (nI 0, ()) := il
      have idg : df_X2_isDigit n (nI (z q)) () = some (nI 1, ()) := idg
      simp (disch := (first | assumption | decide | omega)) only [df_X2_next_38, mC_i0, mC_i1, mC_i2, mC_i5, mC_i6, mC_i7, mC_i8, mC_i9, mC_l, mC_r0, mC_r1, mC_r2, mC_r3, mC_r4, mC_q, mC_o, mC_i4, mC_wi0, mC_wi1, mC_wi2, mC_wi5, mC_wi6, mC_wi7, mC_wi8, mC_wi9, mC_wl, mC_wr0, mC_wr1, mC_wr2, mC_wr3, mC_wr4, mC_wq, hO, oT, h4, t, il, idg, eq_self, Nat.reduceEqDiff, Nat.reduceLeDiff, nl_0, nl_1, nl_4, nl_5, nl_6, nl_7, nl_32768, no_1, no_1024, pk_mul, nI_add, nm_ck, nI_clamp, nI_ltI, nI_leI, nI_eq, nb_b2, nb_b1, ↓nb_let, nm_z0, nm_z1, nb_II, nb_IR, nb_RI, nb_RR, nm_IL, nm_IQ, nm_RL, nm_RQ, nm_LI, nm_LR, nm_LL, nm_LQ, nm_QI, nm_QR, nm_QL, nm_QQ, nm_rr, nm_ii, nm_eqm, not_false_eq_true, pk_sub, nm_div, nm_shl, nm_shr, nm_ush, nm_or8, nm_or64, nm_or256, nm_m1, nm_m3, nm_m7, nm_m15, nm_m31, nm_m63, nm_m255, nm_m511, nm_m1023, nm_m2047, nm_m65535, Nat.reduceMod, Nat.reducePow, Nat.reduceAdd, Nat.reduceSub, Nat.reduceMul, nm_bo, nm_bi, nm_rc, nm_ic, nm_ri, nm_rl, nm_rq, nm_ql, nm_qi, nm_li, nm_us, nm_uu, nm_cp, nm_sa31, nm_sa7, nm_m127, nm_m2, nm_nz, nm_nzk, nm_eq32, nm_nzf, if_true, if_false, ↓reduceIte, if_pos, if_neg]
  rw [st]
  obtain ⟨e1, e2, e3⟩ := eS_1 z hq ha
  obtain ⟨m, e⟩ := nm_ls (fun g i => df_X2_next_87 n Tp g (nI (z q)) (tpe, mC B cs tp os i kd q ft pt nm C S SA F T A)) (fun i => !(aD (z i) || aL (z i))) q (L - q) n (by omega) (fun k m h1 h2 h3 => by
    have hk : k < L := by omega
    have ak := hz k hk
    have tk := ht k hk
    have ik : df_X2_isLetter n (nI (z k)) () = some (bI (aL (z k)), ()) := il_C n ⟨z k, by omega⟩
    have dk : df_X2_isDigit n (nI (z k)) () = some (bI (aD (z k)), ()) := id_C n ⟨z k, by omega⟩
    have h3 : (!(aD (z k) || aL (z k))) = false := h3
    show df_X2_next_87 n Tp (m + 1) (nI (z q)) (tpe, mC B cs tp os k kd q ft pt nm C S SA F T A) = df_X2_next_87 n Tp m (nI (z q)) (tpe, mC B cs tp os (k + 1) kd q ft pt nm C S SA F T A)
    show dF_X2_next_87 n Tp (df_X2_next_87 n Tp m) (nI (z q)) (tpe, mC B cs tp os k kd q ft pt nm C S SA F T A) = _
    unfold dF_X2_next_87
    cases h : aL (z k) with
    | true =>
      rw [h] at ik
      have ik : df_X2_isLetter n (nI (z k)) () = some (nI 1, ()) := ik
      simp (disch := (first | assumption | decide | omega)) only [df_X2_next_128, mC_i0, mC_i1, mC_i2, mC_i5, mC_i6, mC_i7, mC_i8, mC_i9, mC_l, mC_r0, mC_r1, mC_r2, mC_r3, mC_r4, mC_q, mC_o, mC_i4, mC_wi0, mC_wi1, mC_wi2, mC_wi5, mC_wi6, mC_wi7, mC_wi8, mC_wi9, mC_wl, mC_wr0, mC_wr1, mC_wr2, mC_wr3, mC_wr4, mC_wq, hO, oT, h4, tk, ik, eq_self, Nat.reduceEqDiff, Nat.reduceLeDiff, nl_0, nl_1, nl_5, no_1, no_1024, pk_mul, nI_add, nm_ck, nI_clamp, nI_ltI, nI_leI, nI_eq, nb_b2, nb_b1, ↓nb_let, nm_z0, nm_z1, nb_II, nb_IR, nb_RI, nb_RR, nm_IL, nm_IQ, nm_RL, nm_RQ, nm_LI, nm_LR, nm_LL, nm_LQ, nm_QI, nm_QR, nm_QL, nm_QQ, nm_rr, nm_ii, nm_eqm, not_false_eq_true, pk_sub, nm_div, nm_shl, nm_shr, nm_ush, nm_or8, nm_or64, nm_or256, nm_m1, nm_m3, nm_m7, nm_m15, nm_m31, nm_m63, nm_m255, nm_m511, nm_m1023, nm_m2047, nm_m65535, Nat.reduceMod, Nat.reducePow, Nat.reduceAdd, Nat.reduceSub, Nat.reduceMul, nm_bo, nm_bi, nm_rc, nm_ic, nm_ri, nm_rl, nm_rq, nm_ql, nm_qi, nm_li, nm_us, nm_uu, nm_cp, nm_sa31, nm_sa7, nm_m127, nm_m2, nm_nz, nm_nzk, nm_eq32, nm_nzf, if_true, if_false, ↓reduceIte, if_pos, if_neg]
    | false =>
      have hd : aD (z k) = true := by
        rw [h, Bool.or_false] at h3
        cases hh : aD (z k) with
        | true => rfl
        | false => rw [hh] at h3; exact absurd h3 (by decide)
      rw [h] at ik
      rw [hd] at dk
      have ik : df_X2_isLetter n (nI (z k)) () = some (nI 0, ()) := ik
      have dk : df_X2_isDigit n (nI (z k)) () = some (nI 1, ()) := dk
      simp (disch := (first | assumption | decide | omega)) only [df_X2_next_128, mC_i0, mC_i1, mC_i2, mC_i5, mC_i6, mC_i7, mC_i8, mC_i9, mC_l, mC_r0, mC_r1, mC_r2, mC_r3, mC_r4, mC_q, mC_o, mC_i4, mC_wi0, mC_wi1, mC_wi2, mC_wi5, mC_wi6, mC_wi7, mC_wi8, mC_wi9, mC_wl, mC_wr0, mC_wr1, mC_wr2, mC_wr3, mC_wr4, mC_wq, hO, oT, h4, tk, ik, dk, eq_self, Nat.reduceEqDiff, Nat.reduceLeDiff, nl_0, nl_1, nl_5, no_1, no_1024, pk_mul, nI_add, nm_ck, nI_clamp, nI_ltI, nI_leI, nI_eq, nb_b2, nb_b1, ↓nb_let, nm_z0, nm_z1, nb_II, nb_IR, nb_RI, nb_RR, nm_IL, nm_IQ, nm_RL, nm_RQ, nm_LI, nm_LR, nm_LL, nm_LQ, nm_QI, nm_QR, nm_QL, nm_QQ, nm_rr, nm_ii, nm_eqm, not_false_eq_true, pk_sub, nm_div, nm_shl, nm_shr, nm_ush, nm_or8, nm_or64, nm_or256, nm_m1, nm_m3, nm_m7, nm_m15, nm_m31, nm_m63, nm_m255, nm_m511, nm_m1023, nm_m2047, nm_m65535, Nat.reduceMod, Nat.reducePow, Nat.reduceAdd, Nat.reduceSub, Nat.reduceMul, nm_bo, nm_bi, nm_rc, nm_ic, nm_ri, nm_rl, nm_rq, nm_ql, nm_qi, nm_li, nm_us, nm_uu, nm_cp, nm_sa31, nm_sa7, nm_m127, nm_m2, nm_nz, nm_nzk, nm_eq32, nm_nzf, if_true, if_false, ↓reduceIte, if_pos, if_neg])
  refine Eq.trans e ?_
  show df_X2_next_87 n Tp (m + 1) (nI (z q)) (tpe, mC B cs tp os (eS z L q) kd q ft pt nm C S SA F T A) = _
  generalize eS z L q = y at e1 e2 e3
  have st2 : df_X2_next_87 n Tp (m + 1) (nI (z q)) (tpe, mC B cs tp os y kd q ft pt nm C S SA F T A) = df_X2_next_141 n Tp (nI (z q)) (tpe, mC B cs tp os y kd q ft pt nm C S SA F T A) := by
    show dF_X2_next_87 n Tp (df_X2_next_87 n Tp m) (nI (z q)) (tpe, mC B cs tp os y kd q ft pt nm C S SA F T A) = _
    unfold dF_X2_next_87
    by_cases yl : y < L
    · have ak := hz y yl
      have tk := ht y yl
      have ik : df_X2_isLetter n (nI (z y)) () = some (bI (aL (z y)), ()) := il_C n ⟨z y, by omega⟩
      have dk : df_X2_isDigit n (nI (z y)) () = some (bI (aD (z y)), ()) := id_C n ⟨z y, by omega⟩
      have h3 := e3 yl
      have hL : aL (z y) = false := by
        cases hh : aL (z y) with
        | false => rfl
        | true => rw [hh, Bool.or_true] at h3; exact absurd h3 (by decide)
      have hD : aD (z y) = false := by
        cases hh : aD (z y) with
        | false => rfl
        | true => rw [hh, Bool.true_or] at h3; exact absurd h3 (by decide)
      rw [hL] at ik
      rw [hD] at dk
      have ik : df_X2_isLetter n (nI (z y)) () = some (nI 0, ()) := ik
      have dk : df_X2_isDigit n (nI (z y)) () = some (nI 0, ()) := dk
      simp (disch := (first | assumption | decide | omega)) only [mC_i0, mC_i1, mC_i2, mC_i5, mC_i6, mC_i7, mC_i8, mC_i9, mC_l, mC_r0, mC_r1, mC_r2, mC_r3, mC_r4, mC_q, mC_o, mC_i4, mC_wi0, mC_wi1, mC_wi2, mC_wi5, mC_wi6, mC_wi7, mC_wi8, mC_wi9, mC_wl, mC_wr0, mC_wr1, mC_wr2, mC_wr3, mC_wr4, mC_wq, hO, oT, h4, tk, ik, dk, eq_self, Nat.reduceEqDiff, Nat.reduceLeDiff, nl_0, no_1, no_1024, pk_mul, nI_add, nm_ck, nI_clamp, nI_ltI, nI_leI, nI_eq, nb_b2, nb_b1, ↓nb_let, nm_z0, nm_z1, nb_II, nb_IR, nb_RI, nb_RR, nm_IL, nm_IQ, nm_RL, nm_RQ, nm_LI, nm_LR, nm_LL, nm_LQ, nm_QI, nm_QR, nm_QL, nm_QQ, nm_rr, nm_ii, nm_eqm, not_false_eq_true, pk_sub, nm_div, nm_shl, nm_shr, nm_ush, nm_or8, nm_or64, nm_or256, nm_m1, nm_m3, nm_m7, nm_m15, nm_m31, nm_m63, nm_m255, nm_m511, nm_m1023, nm_m2047, nm_m65535, Nat.reduceMod, Nat.reducePow, Nat.reduceAdd, Nat.reduceSub, Nat.reduceMul, nm_bo, nm_bi, nm_rc, nm_ic, nm_ri, nm_rl, nm_rq, nm_ql, nm_qi, nm_li, nm_us, nm_uu, nm_cp, nm_sa31, nm_sa7, nm_m127, nm_m2, nm_nz, nm_nzk, nm_eq32, nm_nzf, if_true, if_false, ↓reduceIte, if_pos, if_neg]
    · have yl : y = L := by omega
      subst yl
      simp (disch := (first | assumption | decide | omega)) only [mC_i0, mC_i1, mC_i2, mC_i5, mC_i6, mC_i7, mC_i8, mC_i9, mC_l, mC_r0, mC_r1, mC_r2, mC_r3, mC_r4, mC_q, mC_o, mC_i4, mC_wi0, mC_wi1, mC_wi2, mC_wi5, mC_wi6, mC_wi7, mC_wi8, mC_wi9, mC_wl, mC_wr0, mC_wr1, mC_wr2, mC_wr3, mC_wr4, mC_wq, hO, oT, h4, eq_self, Nat.reduceEqDiff, Nat.reduceLeDiff, no_1, no_1024, pk_mul, nI_add, nm_ck, nI_clamp, nI_ltI, nI_leI, nI_eq, nb_b2, nb_b1, ↓nb_let, nm_z0, nm_z1, nb_II, nb_IR, nb_RI, nb_RR, nm_IL, nm_IQ, nm_RL, nm_RQ, nm_LI, nm_LR, nm_LL, nm_LQ, nm_QI, nm_QR, nm_QL, nm_QQ, nm_rr, nm_ii, nm_eqm, not_false_eq_true, pk_sub, nm_div, nm_shl, nm_shr, nm_ush, nm_or8, nm_or64, nm_or256, nm_m1, nm_m3, nm_m7, nm_m15, nm_m31, nm_m63, nm_m255, nm_m511, nm_m1023, nm_m2047, nm_m65535, Nat.reduceMod, Nat.reducePow, Nat.reduceAdd, Nat.reduceSub, Nat.reduceMul, nm_bo, nm_bi, nm_rc, nm_ic, nm_ri, nm_rl, nm_rq, nm_ql, nm_qi, nm_li, nm_us, nm_uu, nm_cp, nm_sa31, nm_sa7, nm_m127, nm_m2, nm_nz, nm_nzk, nm_eq32, nm_nzf, if_true, if_false, ↓reduceIte, if_pos, if_neg]
  rw [st2]
  cases h : aL (z q) with
  | true =>
    rw [h] at il
    have il : df_X2_isLetter n (nI (z q)) () = some (nI 1, ()) := il
    rw [if_pos rfl]
    simp (disch := (first | assumption | decide | omega)) only [df_X2_next_141, il, eq_self, Nat.reduceEqDiff, Nat.reduceLeDiff, nl_0, nl_1, nl_2, no_1, no_1024, pk_mul, nI_add, nm_ck, nI_clamp, nI_ltI, nI_leI, nI_eq, nb_b2, nb_b1, ↓nb_let, nm_z0, nm_z1, nb_II, nb_IR, nb_RI, nb_RR, nm_IL, nm_IQ, nm_RL, nm_RQ, nm_LI, nm_LR, nm_LL, nm_LQ, nm_QI, nm_QR, nm_QL, nm_QQ, nm_rr, nm_ii, nm_eqm, not_false_eq_true, pk_sub, nm_div, nm_shl, nm_shr, nm_ush, nm_or8, nm_or64, nm_or256, nm_m1, nm_m3, nm_m7, nm_m15, nm_m31, nm_m63, nm_m255, nm_m511, nm_m1023, nm_m2047, nm_m65535, Nat.reduceMod, Nat.reducePow, Nat.reduceAdd, Nat.reduceSub, Nat.reduceMul, nm_bo, nm_bi, nm_rc, nm_ic, nm_ri, nm_rl, nm_rq, nm_ql, nm_qi, nm_li, nm_us, nm_uu, nm_cp, nm_sa31, nm_sa7, nm_m127, nm_m2, nm_nz, nm_nzk, nm_eq32, nm_nzf, if_true, if_false, ↓reduceIte, if_pos, if_neg]
  | false =>
    rw [h] at il
    have il : df_X2_isLetter n (nI (z q)) () = some (nI 0, ()) := il
    rw [if_neg (by decide)]
    simp (disch := (first | assumption | decide | omega)) only [df_X2_next_141, il, eq_self, Nat.reduceEqDiff, Nat.reduceLeDiff, nl_0, nl_1, nl_2, no_1, no_1024, pk_mul, nI_add, nm_ck, nI_clamp, nI_ltI, nI_leI, nI_eq, nb_b2, nb_b1, ↓nb_let, nm_z0, nm_z1, nb_II, nb_IR, nb_RI, nb_RR, nm_IL, nm_IQ, nm_RL, nm_RQ, nm_LI, nm_LR, nm_LL, nm_LQ, nm_QI, nm_QR, nm_QL, nm_QQ, nm_rr, nm_ii, nm_eqm, not_false_eq_true, pk_sub, nm_div, nm_shl, nm_shr, nm_ush, nm_or8, nm_or64, nm_or256, nm_m1, nm_m3, nm_m7, nm_m15, nm_m31, nm_m63, nm_m255, nm_m511, nm_m1023, nm_m2047, nm_m65535, Nat.reduceMod, Nat.reducePow, Nat.reduceAdd, Nat.reduceSub, Nat.reduceMul, nm_bo, nm_bi, nm_rc, nm_ic, nm_ri, nm_rl, nm_rq, nm_ql, nm_qi, nm_li, nm_us, nm_uu, nm_cp, nm_sa31, nm_sa7, nm_m127, nm_m2, nm_nz, nm_nzk, nm_eq32, nm_nzf, if_true, if_false, ↓reduceIte, if_pos, if_neg]
theorem cA_R (n L k : Nat) {z : Nat → Nat} {B : St} {ap tk st ts op ft : Nat} {tv : Int64} {K P OA : Nat → Int32} {N : Nat → Int64} {X : St × St} (h0 : sI B 0 = nI L) (hL : L ≤ 120) (hn : 130 < n) (hz : ∀ i : Nat, i < L → 32 ≤ z i ∧ z i ≤ 126) (ht : ∀ i : Nat, i < L → sR B 0 i = nI (z i)) (hk : k < 200) : df_X15_charAt n (nI k) (mR B ap tk st ts op ft tv K P OA N, X) = some (nI (if k < L then z k else 0), (mR B ap tk st ts op ft tv K P OA N, X)) := by
  by_cases y : k < L
  · rw [if_pos y]
    have t := ht k y
    simp (disch := (first | assumption | decide | omega)) only [df_X15_charAt_18, df_X15_charAt_0, df_X15_charAt, mR_i1, mR_i2, mR_i3, mR_i4, mR_i5, mR_i6, mR_l, mR_r5, mR_r6, mR_r7, mR_q, mR_o, mR_i0, mR_r0, mR_wi1, mR_wi2, mR_wi3, mR_wi4, mR_wi5, mR_wi6, mR_wl, mR_wr5, mR_wr6, mR_wr7, mR_wq, h0, t, eq_self, Nat.reduceEqDiff, Nat.reduceLeDiff, nl_0, nl_120, no_1, no_1024, pk_mul, nI_add, nm_ck, nI_clamp, nI_ltI, nI_leI, nI_eq, nb_b2, nb_b1, ↓nb_let, nm_z0, nm_z1, nb_II, nb_IR, nb_RI, nb_RR, nm_IL, nm_IQ, nm_RL, nm_RQ, nm_LI, nm_LR, nm_LL, nm_LQ, nm_QI, nm_QR, nm_QL, nm_QQ, nm_rr, nm_ii, nm_eqm, not_false_eq_true, pk_sub, nm_div, nm_shl, nm_shr, nm_ush, nm_or8, nm_or64, nm_or256, nm_m1, nm_m3, nm_m7, nm_m15, nm_m31, nm_m63, nm_m255, nm_m511, nm_m1023, nm_m2047, nm_m65535, Nat.reduceMod, Nat.reducePow, Nat.reduceAdd, Nat.reduceSub, Nat.reduceMul, nm_bo, nm_bi, nm_rc, nm_ic, nm_ri, nm_rl, nm_rq, nm_ql, nm_qi, nm_li, nm_us, nm_uu, nm_cp, nm_sa31, nm_sa7, nm_m127, nm_m2, nm_nz, nm_nzk, nm_eq32, nm_nzf, if_true, if_false, ↓reduceIte, if_pos, if_neg]
  · rw [if_neg y]
    simp (disch := (first | assumption | decide | omega)) only [df_X15_charAt_18, df_X15_charAt_0, df_X15_charAt, mR_i1, mR_i2, mR_i3, mR_i4, mR_i5, mR_i6, mR_l, mR_r5, mR_r6, mR_r7, mR_q, mR_o, mR_i0, mR_r0, mR_wi1, mR_wi2, mR_wi3, mR_wi4, mR_wi5, mR_wi6, mR_wl, mR_wr5, mR_wr6, mR_wr7, mR_wq, h0, eq_self, Nat.reduceEqDiff, Nat.reduceLeDiff, nl_0, nl_120, no_1, no_1024, pk_mul, nI_add, nm_ck, nI_clamp, nI_ltI, nI_leI, nI_eq, nb_b2, nb_b1, ↓nb_let, nm_z0, nm_z1, nb_II, nb_IR, nb_RI, nb_RR, nm_IL, nm_IQ, nm_RL, nm_RQ, nm_LI, nm_LR, nm_LL, nm_LQ, nm_QI, nm_QR, nm_QL, nm_QQ, nm_rr, nm_ii, nm_eqm, not_false_eq_true, pk_sub, nm_div, nm_shl, nm_shr, nm_ush, nm_or8, nm_or64, nm_or256, nm_m1, nm_m3, nm_m7, nm_m15, nm_m31, nm_m63, nm_m255, nm_m511, nm_m1023, nm_m2047, nm_m65535, Nat.reduceMod, Nat.reducePow, Nat.reduceAdd, Nat.reduceSub, Nat.reduceMul, nm_bo, nm_bi, nm_rc, nm_ic, nm_ri, nm_rl, nm_rq, nm_ql, nm_qi, nm_li, nm_us, nm_uu, nm_cp, nm_sa31, nm_sa7, nm_m127, nm_m2, nm_nz, nm_nzk, nm_eq32, nm_nzf, if_true, if_false, ↓reduceIte, if_pos, if_neg]
theorem rd_sk (n L p : Nat) {z : Nat → Nat} {G : Int32 → Int32 → St × (St × St) → Option (Int32 × (St × (St × St)))} {x1 x2 : Int32} {B : St} {tk st ts op ft : Nat} {tv : Int64} {K P OA : Nat → Int32} {N : Nat → Int64} {X : St × St} (h0 : sI B 0 = nI L) (hL : L ≤ 120) (hn : 130 < n) (hz : ∀ i : Nat, i < L → 32 ≤ z i ∧ z i ≤ 126) (ht : ∀ i : Nat, i < L → sR B 0 i = nI (z i)) (hp : p ≤ L) : ∃ m : Nat, df_X15_read_31 n G n x1 x2 (mR B p tk st ts op ft tv K P OA N, X) = dF_X15_read_31 n G (df_X15_read_31 n G m) x1 x2 (mR B (qS z L p) tk st ts op ft tv K P OA N, X) := by
  obtain ⟨m, e⟩ := nm_ls (fun g i => df_X15_read_31 n G g x1 x2 (mR B i tk st ts op ft tv K P OA N, X)) (fun i => !decide (z i = 32)) p (L - p) n (by omega) (fun k m h1 h2 h3 => by
    have hk : k < L := by omega
    have e : z k = 32 := Classical.byContradiction fun y => by
      have h3 : (!decide (z k = 32)) = false := h3
      rw [decide_eq_false y] at h3
      exact absurd h3 (by decide)
    have ca := cA_R n L k (X := X) h0 hL hn hz ht (by omega) (tk := tk) (st := st) (ts := ts) (op := op) (ft := ft) (tv := tv) (K := K) (P := P) (OA := OA) (N := N) (ap := k)
    rw [if_pos hk, e] at ca
    show dF_X15_read_31 n G (df_X15_read_31 n G m) x1 x2 (mR B k tk st ts op ft tv K P OA N, X) = df_X15_read_31 n G m x1 x2 (mR B (k + 1) tk st ts op ft tv K P OA N, X)
    unfold dF_X15_read_31
    have k1 : sI (mR B k tk st ts op ft tv K P OA N) 1 = nI k := rfl
    rw [k1, ca, nb_b2, if_pos (show nI 32 = (32 : Int32) from rfl), nb_let]
    simp (disch := (first | assumption | decide | omega)) only [mR_i1, mR_i2, mR_i3, mR_i4, mR_i5, mR_i6, mR_l, mR_r5, mR_r6, mR_r7, mR_q, mR_o, mR_i0, mR_r0, mR_wi1, mR_wi2, mR_wi3, mR_wi4, mR_wi5, mR_wi6, mR_wl, mR_wr5, mR_wr6, mR_wr7, mR_wq, eq_self, Nat.reduceEqDiff, Nat.reduceLeDiff, nl_1, no_1, no_1024, pk_mul, nI_add, nm_ck, nI_clamp, nI_ltI, nI_leI, nI_eq, nb_b2, nb_b1, ↓nb_let, nm_z0, nm_z1, nb_II, nb_IR, nb_RI, nb_RR, nm_IL, nm_IQ, nm_RL, nm_RQ, nm_LI, nm_LR, nm_LL, nm_LQ, nm_QI, nm_QR, nm_QL, nm_QQ, nm_rr, nm_ii, nm_eqm, not_false_eq_true, pk_sub, nm_div, nm_shl, nm_shr, nm_ush, nm_or8, nm_or64, nm_or256, nm_m1, nm_m3, nm_m7, nm_m15, nm_m31, nm_m63, nm_m255, nm_m511, nm_m1023, nm_m2047, nm_m65535, Nat.reduceMod, Nat.reducePow, Nat.reduceAdd, Nat.reduceSub, Nat.reduceMul, nm_bo, nm_bi, nm_rc, nm_ic, nm_ri, nm_rl, nm_rq, nm_ql, nm_qi, nm_li, nm_us, nm_uu, nm_cp, nm_sa31, nm_sa7, nm_m127, nm_m2, nm_nz, nm_nzk, nm_eq32, nm_nzf, if_true, if_false, ↓reduceIte, if_pos, if_neg])
  exact ⟨m, e⟩
theorem sc_0 (n L q : Nat) {z : Nat → Nat} {B : St} {tk st ts op ft : Nat} {tv : Int64} {K P OA : Nat → Int32} {N : Nat → Int64} {X : St × St} (h0 : sI B 0 = nI L) (hL : L ≤ 120) (hn : 130 < n) (hz : ∀ i : Nat, i < L → 32 ≤ z i ∧ z i ≤ 126) (ht : ∀ i : Nat, i < L → sR B 0 i = nI (z i)) (hq : q < L) (h32 : ¬ z q = 32) : df_X15_scan n (mR B q tk st ts op ft tv K P OA N, X) = nd_b2 (df_X15_isPlain n (nI (z q)) ()) (fun (q9 : Int32) (_ : Unit) => if q9 = 0 then nd_b2 (df_X15_charAt n (nI (q + 1)) (mR B q tk q ts op ft tv K P OA N, X)) (fun (q13 : Int32) (s14 : St × (St × St)) => if nI (z q) = 124 then (if q13 = 124 then df_X15_scan_244 n (nI (z q)) 10 s14 else df_X15_scan_124 n (nI (z q)) q13 s14) else df_X15_scan_124 n (nI (z q)) q13 s14) else df_X15_scan_50 n n (nI (z q)) (mR B q tk q ts op ft tv K P OA N, X)) := by
  have a := hz q hq
  obtain ⟨m, em⟩ : ∃ m : Nat, n = m + 1 := ⟨n - 1, by omega⟩
  have e0 : df_X15_scan_0 n n = dF_X15_scan_0 n (df_X15_scan_0 n m) := (congrArg (df_X15_scan_0 n) em).trans rfl
  have ca := cA_R n L q (X := X) h0 hL hn hz ht (by omega) (tk := tk) (ts := ts) (op := op) (ft := ft) (tv := tv) (K := K) (P := P) (OA := OA) (N := N) (ap := q) (st := st)
  have cb := cA_R n L q (X := X) h0 hL hn hz ht (by omega) (tk := tk) (ts := ts) (op := op) (ft := ft) (tv := tv) (K := K) (P := P) (OA := OA) (N := N) (ap := q) (st := q)
  rw [if_pos hq] at ca cb
  show df_X15_scan_0 n n (mR B q tk st ts op ft tv K P OA N, X) = _
  rw [e0]
  unfold dF_X15_scan_0
  have k1 : sI (mR B q tk st ts op ft tv K P OA N) 1 = nI q := rfl
  have k3 : pI (mR B q tk st ts op ft tv K P OA N) 3 (nI q) = mR B q tk q ts op ft tv K P OA N := mR_wi3
  show nd_b2 (df_X15_charAt n (sI (mR B q tk st ts op ft tv K P OA N) 1) (mR B q tk st ts op ft tv K P OA N, X)) _ = _
  rw [k1, ca, nb_b2, if_neg (show ¬ nI (z q) = 32 from fun y => h32 (by have y : nI (z q) = nI 32 := y; rw [nI_eq (by omega) (by omega)] at y; exact y)), nb_let]
  show nd_b2 (df_X15_charAt n (sI (pI (mR B q tk st ts op ft tv K P OA N) 3 (nI q)) 1) (pI (mR B q tk st ts op ft tv K P OA N) 3 (nI q), X)) _ = _
  rw [k3]
  show nd_b2 (df_X15_charAt n (nI q) (mR B q tk q ts op ft tv K P OA N, X)) _ = _
  rw [cb, nb_b2]
  have k4 : (nI q : Int32) + 1 = nI (q + 1) := nI_add ..
  rw [← k4]
  rfl
theorem sc_s (n L q d : Nat) {z : Nat → Nat} {B : St} {tk st ts op ft : Nat} {tv : Int64} {K P OA : Nat → Int32} {N : Nat → Int64} {X : St × St} (h0 : sI B 0 = nI L) (hL : L ≤ 120) (hn : 130 < n) (hz : ∀ i : Nat, i < L → 32 ≤ z i ∧ z i ≤ 126) (ht : ∀ i : Nat, i < L → sR B 0 i = nI (z i)) (hq : q < L) (h32 : ¬ z q = 32) (hd : d = if q + 1 < L then z (q + 1) else 0) (hna : (aD (z q) || aL (z q)) = false) : df_X15_scan n (mR B q tk st ts op ft tv K P OA N, X) = some (mR B (q + wid (z q) d) (tS (sgC (z q) d)) q ts op ft tv K P OA N, X) := by
  have a := hz q hq
  have d127 : d < 127 := by
    rw [hd]
    split
    · rename_i y
      have := hz (q + 1) y
      omega
    · omega
  have ip : df_X15_isPlain n (nI (z q)) () = some (nI 0, ()) := (ip_R n ⟨z q, by omega⟩).trans (by show some (bI (aD (z q) || aL (z q)), ()) = _; rw [hna]; rfl)
  have ca := cA_R n L (q + 1) (X := X) h0 hL hn hz ht (by omega) (tk := tk) (ts := ts) (op := op) (ft := ft) (tv := tv) (K := K) (P := P) (OA := OA) (N := N) (ap := q) (st := q)
  rw [← hd] at ca
  rw [sc_0 n L q h0 hL hn hz ht hq h32, ip, nb_b2, if_pos (show nI 0 = (0 : Int32) from rfl), ca, nb_b2]
  have s := sc_sg n (z q) d q (Y := mR B q tk q ts op ft tv K P OA N) (X := X) (by omega) d127 (by omega) rfl
  rw [mR_wi1, mR_wi2] at s
  exact s
theorem sc_a (n L q : Nat) {z : Nat → Nat} {B : St} {tk st ts op ft : Nat} {tv : Int64} {K P OA : Nat → Int32} {N : Nat → Int64} {X : St × St} (h0 : sI B 0 = nI L) (hL : L ≤ 120) (hn : 130 < n) (hz : ∀ i : Nat, i < L → 32 ≤ z i ∧ z i ≤ 126) (ht : ∀ i : Nat, i < L → sR B 0 i = nI (z i)) (hq : q < L) (h32 : ¬ z q = 32) (ha : (aD (z q) || aL (z q)) = true) : df_X15_scan n (mR B q tk st ts op ft tv K P OA N, X) = if aD (z q) = true then df_X15_scanNumber n (mR B (eS z L q) tk q ts op ft tv K P OA N, X) else df_X15_scanWord n (mR B (eS z L q) tk q ts op ft tv K P OA N, X) := by
  have a := hz q hq
  have ip : df_X15_isPlain n (nI (z q)) () = some (nI 1, ()) := (ip_R n ⟨z q, by omega⟩).trans (by show some (bI (aD (z q) || aL (z q)), ()) = _; rw [ha]; rfl)
  have idg : df_X15_isDigit n (nI (z q)) () = some (bI (aD (z q)), ()) := id_R n ⟨z q, by omega⟩
  rw [sc_0 n L q h0 hL hn hz ht hq h32, ip, nb_b2, if_neg (by decide)]
  obtain ⟨e1, e2, e3⟩ := eS_1 z hq ha
  obtain ⟨m, e⟩ := nm_ls (fun g i => df_X15_scan_50 n g (nI (z q)) (mR B i tk q ts op ft tv K P OA N, X)) (fun i => !(aD (z i) || aL (z i))) q (L - q) n (by omega) (fun k m h1 h2 h3 => by
    have hk : k < L := by omega
    have ak := hz k hk
    have ca := cA_R n L k (X := X) h0 hL hn hz ht (by omega) (tk := tk) (ts := ts) (op := op) (ft := ft) (tv := tv) (K := K) (P := P) (OA := OA) (N := N) (ap := k) (st := q)
    rw [if_pos hk] at ca
    have h3 : (!(aD (z k) || aL (z k))) = false := h3
    have hh : (aD (z k) || aL (z k)) = true := by
      cases h : (aD (z k) || aL (z k)) with
      | true => rfl
      | false => rw [h] at h3; exact absurd h3 (by decide)
    have ik : df_X15_isPlain n (nI (z k)) () = some (nI 1, ()) := (ip_R n ⟨z k, by omega⟩).trans (by show some (bI (aD (z k) || aL (z k)), ()) = _; rw [hh]; rfl)
    show dF_X15_scan_50 n (df_X15_scan_50 n m) (nI (z q)) (mR B k tk q ts op ft tv K P OA N, X) = df_X15_scan_50 n m (nI (z q)) (mR B (k + 1) tk q ts op ft tv K P OA N, X)
    unfold dF_X15_scan_50
    have k1 : sI (mR B k tk q ts op ft tv K P OA N) 1 = nI k := rfl
    rw [k1, ca, nb_b2, ik, nb_b2, if_neg (by decide), nb_let]
    simp (disch := (first | assumption | decide | omega)) only [mR_i1, mR_i2, mR_i3, mR_i4, mR_i5, mR_i6, mR_l, mR_r5, mR_r6, mR_r7, mR_q, mR_o, mR_i0, mR_r0, mR_wi1, mR_wi2, mR_wi3, mR_wi4, mR_wi5, mR_wi6, mR_wl, mR_wr5, mR_wr6, mR_wr7, mR_wq, eq_self, Nat.reduceEqDiff, Nat.reduceLeDiff, nl_1, no_1, no_1024, pk_mul, nI_add, nm_ck, nI_clamp, nI_ltI, nI_leI, nI_eq, nb_b2, nb_b1, ↓nb_let, nm_z0, nm_z1, nb_II, nb_IR, nb_RI, nb_RR, nm_IL, nm_IQ, nm_RL, nm_RQ, nm_LI, nm_LR, nm_LL, nm_LQ, nm_QI, nm_QR, nm_QL, nm_QQ, nm_rr, nm_ii, nm_eqm, not_false_eq_true, pk_sub, nm_div, nm_shl, nm_shr, nm_ush, nm_or8, nm_or64, nm_or256, nm_m1, nm_m3, nm_m7, nm_m15, nm_m31, nm_m63, nm_m255, nm_m511, nm_m1023, nm_m2047, nm_m65535, Nat.reduceMod, Nat.reducePow, Nat.reduceAdd, Nat.reduceSub, Nat.reduceMul, nm_bo, nm_bi, nm_rc, nm_ic, nm_ri, nm_rl, nm_rq, nm_ql, nm_qi, nm_li, nm_us, nm_uu, nm_cp, nm_sa31, nm_sa7, nm_m127, nm_m2, nm_nz, nm_nzk, nm_eq32, nm_nzf, if_true, if_false, ↓reduceIte, if_pos, if_neg])
  refine Eq.trans e ?_
  show dF_X15_scan_50 n (df_X15_scan_50 n m) (nI (z q)) (mR B (eS z L q) tk q ts op ft tv K P OA N, X) = _
  generalize eS z L q = y at e1 e2 e3
  have ca := cA_R n L y (X := X) h0 hL hn hz ht (by omega) (tk := tk) (ts := ts) (op := op) (ft := ft) (tv := tv) (K := K) (P := P) (OA := OA) (N := N) (ap := y) (st := q)
  have ik : df_X15_isPlain n (nI (if y < L then z y else 0)) () = some (nI 0, ()) := by
    by_cases yl : y < L
    · rw [if_pos yl]
      have ak := hz y yl
      exact (ip_R n ⟨z y, by omega⟩).trans (by show some (bI (aD (z y) || aL (z y)), ()) = _; rw [e3 yl]; rfl)
    · rw [if_neg yl]
      exact (ip_R n ⟨0, by omega⟩).trans rfl
  unfold dF_X15_scan_50 df_X15_scan_95
  have k1 : sI (mR B y tk q ts op ft tv K P OA N) 1 = nI y := rfl
  rw [k1, ca, nb_b2, ik, nb_b2, if_pos (show nI 0 = (0 : Int32) from rfl), idg, nb_b2]
  cases h : aD (z q) with
  | true =>
    rw [if_neg (show ¬ bI true = 0 by decide), if_pos rfl]
    exact b1_s _
  | false =>
    rw [if_pos (show bI false = 0 from rfl), if_neg (by decide)]
    exact b1_s _
